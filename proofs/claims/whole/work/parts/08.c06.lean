set_option maxHeartbeats 4000000 in
set_option maxRecDepth 100000 in
theorem c_TagWays_name (l : Launch) (D : va_G) (cA : Nat → ClassId) (z : gZ) (ad : Nat → Nat) (sMt : SMt) (sSource : SSource) (sTokens : STokens) (sReferenceWays : SReferenceWays) (sTagWays : STagWays) (sCommentWays : SCommentWays) (sOut : SOut) (a1 : Int32) {x : Nat × SSource × STokens} (hf : f_TagWays_name a1 sSource sTokens = some x) (sz : Nat) : Met l y_TagWays_name (.code y_TagWays_name b_TagWays_name 2 (some (.object "MarkupTokens$Way")) :: lw_g) { frames := 3, cells := 0, slots := 0, locals := 62 } (gP D (gT cA) z [.ref (ad 4), .int a1] (Wc z ad cA sMt sSource sTokens sReferenceWays sTagWays sCommentWays sOut) sz) (gQq D (gT cA) (va_A (Wc z ad cA sMt sSource sTokens sReferenceWays sTagWays sCommentWays sOut) sz) (some (z.1 x.1)) (Wc z ad cA sMt x.2.1 x.2.2 sReferenceWays sTagWays sCommentWays sOut)) 0 0 (va_A (Wc z ad cA sMt sSource sTokens sReferenceWays sTagWays sCommentWays sOut) sz) := by
  refine g_met (by decide) (Nat.le_of_ble_eq_true rfl) rfl ?_
  intro p e s m args below meth c F hr hlk
  unfold f_TagWays_name at hf
  refine g_iload_n F d_TagWays_name_0 1 rfl ?_
  refine g_ci F (r0 := (f_TagWays_endsName a1)) (ws' := (Wc z ad cA sMt sSource sTokens sReferenceWays sTagWays sCommentWays sOut)) (fun H locs ls hP hD hS hl => g_runS F (As := [.int a1]) (n := 1) mw_597 rfl rfl ⟨by decide, by decide⟩ rfl (by exact Nat.le_of_ble_eq_true rfl) mw_595 mw_596 mw_81 (by decide +kernel) d_TagWays_name_1 hP hD hS hl (c_TagWays_endsName l D cA z ad sMt sSource sTokens sReferenceWays sTagWays sCommentWays sOut a1 rfl H.size)) ?_
  refine g_if_eq F (tgt := 20) d_TagWays_name_4 (by decide) (fun h => ?_) (fun h => ?_)
  · rw [if_pos h] at hf
    refine g_aload_n F d_TagWays_name_20 0 rfl ?_
    refine g_iload_n F d_TagWays_name_21 1 rfl ?_
    refine g_ci F (r0 := (f_Mt_lowered a1)) (ws' := (Wc z ad cA sMt sSource sTokens sReferenceWays sTagWays sCommentWays sOut)) (fun H locs ls hP hD hS hl => g_runSN F (As := [.int a1]) (n := 1) mw_555 rfl rfl ⟨by decide, by decide⟩ rfl (by exact Nat.le_of_ble_eq_true rfl) (F.2.2.2.2.2.2.2.2.1 (RX8, 98, y_Mt_lowered) (by decide +kernel)) mw_554 mw_73 (by decide +kernel) d_TagWays_name_22 hP hD hS hl (c_Mt_lowered l D cA z ad sMt sSource sTokens sReferenceWays sTagWays sCommentWays sOut a1 rfl H.size)) ?_
    obtain ⟨x1, hx1, hf⟩ := g_bind hf
    refine g_cv F (ws' := (Wc z ad cA sMt x1.1 x1.2 sReferenceWays sTagWays sCommentWays sOut)) (fun H locs ls hP hD hS hl => g_runU F (As := [.int (f_Mt_lowered a1)]) (n := 1) mw_657 rfl rfl ⟨by decide, by decide⟩ rfl (by exact Nat.le_of_ble_eq_true rfl) mw_652 mw_653 mw_655 mw_656 mw_76 rfl (by decide +kernel) d_TagWays_name_25 hP hD hS hl (va_recv F.2.2.2.2.2.1 hP (ci := 4) rfl (q0 := 4) rfl) (c_Ways_addKnown_TagWays l D cA z ad sMt sSource sTokens sReferenceWays sTagWays sCommentWays sOut (f_Mt_lowered a1) hx1 H.size)) ?_
    refine g_aload_n F d_TagWays_name_28 0 rfl ?_
    refine g_getS F (v := .ref (ad 1)) in_X8 4 rfl rfl 0 (by decide) mw_208 mw_209 rfl d_TagWays_name_29 ?_
    refine g_way F 7 (by decide) mw_661 d_TagWays_name_32 ?_
    refine g_cw F (r0 := z.1 ((f_Source_then 7 x1.1).1)) (ws' := (Wc z ad cA sMt ((f_Source_then 7 x1.1).2) x1.2 sReferenceWays sTagWays sCommentWays sOut)) (fun H locs ls hP hD hS hl => g_runV F (As := [.ref (z.1 7)]) (n := 1) mw_401 rfl rfl ⟨by decide, by decide⟩ rfl (by exact Nat.le_of_ble_eq_true rfl) mw_609 mw_399 mw_400 mw_74 (by decide +kernel) d_TagWays_name_35 hP hD hS hl (va_recv F.2.2.2.2.2.1 hP (ci := 1) rfl (q0 := 1) rfl) (c_Source_then l D cA z ad sMt x1.1 x1.2 sReferenceWays sTagWays sCommentWays sOut 7 rfl H.size)) ?_
    cases hf
    exact g_aret F hr (Or.inl ⟨_, rfl⟩) hlk rfl rfl rfl d_TagWays_name_38
  · rw [if_neg h] at hf
    refine g_aload_n F d_TagWays_name_7 0 rfl ?_
    refine g_getS F (v := .ref (ad 2)) in_X8 4 rfl rfl 1 (by decide) mw_217 mw_218 rfl d_TagWays_name_8 ?_
    obtain ⟨x2, hx2, hf⟩ := g_bind hf
    refine g_cv F (ws' := (Wc z ad cA sMt sSource x2 sReferenceWays sTagWays sCommentWays sOut)) (fun H locs ls hP hD hS hl => g_runV F (As := []) (n := 0) mw_602 rfl rfl ⟨by decide, by decide⟩ rfl (by exact Nat.le_of_ble_eq_true rfl) mw_599 mw_600 mw_601 mw_75 (by decide +kernel) d_TagWays_name_11 hP hD hS hl (va_recv F.2.2.2.2.2.1 hP (ci := 2) rfl (q0 := 2) rfl) (c_Tokens_endOwn l D cA z ad sMt sSource sTokens sReferenceWays sTagWays sCommentWays sOut hx2 H.size)) ?_
    refine g_aload_n F d_TagWays_name_14 0 rfl ?_
    refine g_iload_n F d_TagWays_name_15 1 rfl ?_
    obtain ⟨x3, hx3, hf⟩ := g_bind hf
    refine g_cw F (r0 := z.1 x3.1) (ws' := (Wc z ad cA sMt x3.2.1 x3.2.2 sReferenceWays sTagWays sCommentWays sOut)) (fun H locs ls hP hD hS hl => g_runV F (As := [.int a1]) (n := 1) mw_606 rfl rfl ⟨by decide, by decide⟩ rfl (by exact Nat.le_of_ble_eq_true rfl) mw_603 mw_605 mw_11 mw_81 (by decide +kernel) d_TagWays_name_16 hP hD hS hl (va_recv F.2.2.2.2.2.1 hP (ci := 4) rfl (q0 := 4) rfl) (c_TagWays_leave l D cA z ad sMt sSource x2 sReferenceWays sTagWays sCommentWays sOut a1 hx3 H.size)) ?_
    cases hf
    exact g_aret F hr (Or.inl ⟨_, rfl⟩) hlk rfl rfl rfl d_TagWays_name_19
set_option maxHeartbeats 4000000 in
set_option maxRecDepth 100000 in
theorem c_Tokens_beginAttribute (l : Launch) (D : va_G) (cA : Nat → ClassId) (z : gZ) (ad : Nat → Nat) (sMt : SMt) (sSource : SSource) (sTokens : STokens) (sReferenceWays : SReferenceWays) (sTagWays : STagWays) (sCommentWays : SCommentWays) (sOut : SOut) {x : STokens} (hf : f_Tokens_beginAttribute sTokens = some x) (sz : Nat) : Met l y_Tokens_beginAttribute (.code y_Tokens_beginAttribute b_Tokens_beginAttribute 1 none :: lw_g) { frames := 1, cells := 0, slots := 0, locals := 20 } (gP D (gT cA) z [.ref (ad 2)] (Wc z ad cA sMt sSource sTokens sReferenceWays sTagWays sCommentWays sOut) sz) (gQv D (gT cA) (va_A (Wc z ad cA sMt sSource sTokens sReferenceWays sTagWays sCommentWays sOut) sz) (Wc z ad cA sMt sSource x sReferenceWays sTagWays sCommentWays sOut)) 0 0 (va_A (Wc z ad cA sMt sSource sTokens sReferenceWays sTagWays sCommentWays sOut) sz) := by
  refine g_met (by decide) (Nat.le_of_ble_eq_true rfl) rfl ?_
  intro p e s m args below meth c F hr hlk
  unfold f_Tokens_beginAttribute at hf
  refine g_aload_n F d_Tokens_beginAttribute_0 0 rfl ?_
  obtain ⟨x1, hx1, hf⟩ := g_bind hf
  refine g_cv F (ws' := (Wc z ad cA sMt sSource x1 sReferenceWays sTagWays sCommentWays sOut)) (fun H locs ls hP hD hS hl => g_runV F (As := []) (n := 0) mw_617 rfl rfl ⟨by decide, by decide⟩ rfl (by exact Nat.le_of_ble_eq_true rfl) mw_672 mw_615 mw_616 mw_75 (by decide +kernel) d_Tokens_beginAttribute_1 hP hD hS hl (va_recv F.2.2.2.2.2.1 hP (ci := 2) rfl (q0 := 2) rfl) (c_Tokens_endAttribute l D cA z ad sMt sSource sTokens sReferenceWays sTagWays sCommentWays sOut hx1 H.size)) ?_
  refine g_aload_n F d_Tokens_beginAttribute_4 0 rfl ?_
  refine g_iconst F (v := 1) d_Tokens_beginAttribute_5 (by decide) ?_
  refine g_put F in_X9 2 rfl rfl 14 (by decide) tyX9 tyX9_ok nmX9 mw_149 rfl rfl rfl (Nat.le_of_ble_eq_true rfl) (ws' := (Wc z ad cA sMt sSource (u_Tokens_inAttribute x1 1) sReferenceWays sTagWays sCommentWays sOut)) rfl d_Tokens_beginAttribute_6 ?_
  refine g_aload_n F d_Tokens_beginAttribute_9 0 rfl ?_
  refine g_get F (v := .int (q_Tokens_attributesUsed x1)) in_X9 2 rfl rfl 13 (by decide) mw_148 rfl d_Tokens_beginAttribute_10 ?_
  refine g_sipush F (v := 400) d_Tokens_beginAttribute_13 (by decide) ?_
  refine g_icmp_ge F (tgt := 32) d_Tokens_beginAttribute_16 (by decide) (fun h => ?_) (fun h => ?_)
  · rw [if_pos h] at hf
    cases hf
    exact g_vret F hr hlk rfl rfl d_Tokens_beginAttribute_32
  · rw [if_neg h] at hf
    refine g_aload_n F d_Tokens_beginAttribute_19 0 rfl ?_
    refine g_get F (v := .ref (ad 20)) in_X9 2 rfl rfl 10 (by decide) mw_145 rfl d_Tokens_beginAttribute_20 ?_
    refine g_aload_n F d_Tokens_beginAttribute_23 0 rfl ?_
    refine g_get F (v := .int (q_Tokens_attributesUsed x1)) in_X9 2 rfl rfl 13 (by decide) mw_148 rfl d_Tokens_beginAttribute_24 ?_
    refine g_aload_n F d_Tokens_beginAttribute_27 0 rfl ?_
    refine g_get F (v := .int (q_Tokens_used x1)) in_X9 2 rfl rfl 1 (by decide) mw_136 rfl d_Tokens_beginAttribute_28 ?_
    obtain ⟨k1, hf⟩ := g_chk hf
    refine g_iast F (f := (q_Tokens_nameStarts x1)) 20 0 rfl rfl k1 (ws' := (Wc z ad cA sMt sSource (u_Tokens_inAttribute (u_Tokens_nameStarts x1 (upd (q_Tokens_nameStarts x1) ((q_Tokens_attributesUsed x1) : Int32).toNatClampNeg (q_Tokens_used x1))) 1) sReferenceWays sTagWays sCommentWays sOut)) rfl d_Tokens_beginAttribute_31 ?_
    cases hf
    exact g_vret F hr hlk rfl rfl d_Tokens_beginAttribute_32
set_option maxHeartbeats 4000000 in
set_option maxRecDepth 100000 in
theorem c_TagWays_before (l : Launch) (D : va_G) (cA : Nat → ClassId) (z : gZ) (ad : Nat → Nat) (sMt : SMt) (sSource : SSource) (sTokens : STokens) (sReferenceWays : SReferenceWays) (sTagWays : STagWays) (sCommentWays : SCommentWays) (sOut : SOut) (a1 : Int32) {x : Nat × SSource × STokens} (hf : f_TagWays_before a1 sSource sTokens = some x) (sz : Nat) : Met l y_TagWays_before (.code y_TagWays_before b_TagWays_before 2 (some (.object "MarkupTokens$Way")) :: lw_g) { frames := 2, cells := 0, slots := 0, locals := 40 } (gP D (gT cA) z [.ref (ad 4), .int a1] (Wc z ad cA sMt sSource sTokens sReferenceWays sTagWays sCommentWays sOut) sz) (gQq D (gT cA) (va_A (Wc z ad cA sMt sSource sTokens sReferenceWays sTagWays sCommentWays sOut) sz) (some (z.1 x.1)) (Wc z ad cA sMt x.2.1 x.2.2 sReferenceWays sTagWays sCommentWays sOut)) 0 0 (va_A (Wc z ad cA sMt sSource sTokens sReferenceWays sTagWays sCommentWays sOut) sz) := by
  refine g_met (by decide) (Nat.le_of_ble_eq_true rfl) rfl ?_
  intro p e s m args below meth c F hr hlk
  unfold f_TagWays_before at hf
  refine g_iload_n F d_TagWays_before_0 1 rfl ?_
  refine g_ci F (r0 := (f_Mt_isBlank a1)) (ws' := (Wc z ad cA sMt sSource sTokens sReferenceWays sTagWays sCommentWays sOut)) (fun H locs ls hP hD hS hl => g_runSN F (As := [.int a1]) (n := 1) mw_585 rfl rfl ⟨by decide, by decide⟩ rfl (by exact Nat.le_of_ble_eq_true rfl) (F.2.2.2.2.2.2.2.2.1 (RX8, 19, y_Mt_isBlank) (by decide +kernel)) mw_584 mw_73 (by decide +kernel) d_TagWays_before_1 hP hD hS hl (c_Mt_isBlank l D cA z ad sMt sSource sTokens sReferenceWays sTagWays sCommentWays sOut a1 rfl H.size)) ?_
  refine g_if_eq F (tgt := 18) d_TagWays_before_4 (by decide) (fun h => ?_) (fun h => ?_)
  · rw [if_pos h] at hf
    refine g_iload_n F d_TagWays_before_18 1 rfl ?_
    refine g_ci F (r0 := (f_TagWays_endsName a1)) (ws' := (Wc z ad cA sMt sSource sTokens sReferenceWays sTagWays sCommentWays sOut)) (fun H locs ls hP hD hS hl => g_runS F (As := [.int a1]) (n := 1) mw_597 rfl rfl ⟨by decide, by decide⟩ rfl (by exact Nat.le_of_ble_eq_true rfl) mw_595 mw_596 mw_81 (by decide +kernel) d_TagWays_before_19 hP hD hS hl (c_TagWays_endsName l D cA z ad sMt sSource sTokens sReferenceWays sTagWays sCommentWays sOut a1 rfl H.size)) ?_
    refine g_if_eq F (tgt := 29) d_TagWays_before_22 (by decide) (fun h => ?_) (fun h => ?_)
    · rw [if_pos h] at hf
      refine g_aload_n F d_TagWays_before_29 0 rfl ?_
      refine g_getS F (v := .ref (ad 2)) in_X8 4 rfl rfl 1 (by decide) mw_217 mw_218 rfl d_TagWays_before_30 ?_
      obtain ⟨x1, hx1, hf⟩ := g_bind hf
      refine g_cv F (ws' := (Wc z ad cA sMt sSource x1 sReferenceWays sTagWays sCommentWays sOut)) (fun H locs ls hP hD hS hl => g_runV F (As := []) (n := 0) mw_671 rfl rfl ⟨by decide, by decide⟩ rfl (by exact Nat.le_of_ble_eq_true rfl) mw_668 mw_669 mw_670 mw_75 (by decide +kernel) d_TagWays_before_33 hP hD hS hl (va_recv F.2.2.2.2.2.1 hP (ci := 2) rfl (q0 := 2) rfl) (c_Tokens_beginAttribute l D cA z ad sMt sSource sTokens sReferenceWays sTagWays sCommentWays sOut hx1 H.size)) ?_
      refine g_iload_n F d_TagWays_before_36 1 rfl ?_
      refine g_bipush F (v := 61) d_TagWays_before_37 (by decide) ?_
      refine g_icmp_ne F (tgt := 70) d_TagWays_before_39 (by decide) (fun h => ?_) (fun h => ?_)
      · rw [if_neg h] at hf
        refine g_way F 9 (by decide) mw_674 d_TagWays_before_70 ?_
        cases hf
        exact g_aret F hr (Or.inl ⟨_, rfl⟩) hlk rfl rfl rfl d_TagWays_before_73
      · rw [if_pos h] at hf
        refine g_aload_n F d_TagWays_before_42 0 rfl ?_
        refine g_getS F (v := .ref (ad 1)) in_X8 4 rfl rfl 0 (by decide) mw_208 mw_209 rfl d_TagWays_before_43 ?_
        refine g_bipush F (v := 7) d_TagWays_before_46 (by decide) ?_
        obtain ⟨x2, hx2, hf⟩ := g_bind hf
        refine g_cv F (ws' := (Wc z ad cA sMt x2 x1 sReferenceWays sTagWays sCommentWays sOut)) (fun H locs ls hP hD hS hl => g_runV F (As := [.int 7]) (n := 1) mw_408 rfl rfl ⟨by decide, by decide⟩ rfl (by exact Nat.le_of_ble_eq_true rfl) mw_626 mw_406 mw_407 mw_74 (by decide +kernel) d_TagWays_before_48 hP hD hS hl (va_recv F.2.2.2.2.2.1 hP (ci := 1) rfl (q0 := 1) rfl) (c_Source_wrong l D cA z ad sMt sSource x1 sReferenceWays sTagWays sCommentWays sOut 7 hx2 H.size)) ?_
        refine g_aload_n F d_TagWays_before_51 0 rfl ?_
        refine g_getS F (v := .ref (ad 2)) in_X8 4 rfl rfl 1 (by decide) mw_217 mw_218 rfl d_TagWays_before_52 ?_
        refine g_iload_n F d_TagWays_before_55 1 rfl ?_
        obtain ⟨x3, hx3, hf⟩ := g_bind hf
        refine g_cv F (ws' := (Wc z ad cA sMt x2 x3 sReferenceWays sTagWays sCommentWays sOut)) (fun H locs ls hP hD hS hl => g_runV F (As := [.int a1]) (n := 1) mw_416 rfl rfl ⟨by decide, by decide⟩ rfl (by exact Nat.le_of_ble_eq_true rfl) mw_673 mw_414 mw_415 mw_75 (by decide +kernel) d_TagWays_before_56 hP hD hS hl (va_recv F.2.2.2.2.2.1 hP (ci := 2) rfl (q0 := 2) rfl) (c_Tokens_add l D cA z ad sMt x2 x1 sReferenceWays sTagWays sCommentWays sOut a1 hx3 H.size)) ?_
        refine g_aload_n F d_TagWays_before_59 0 rfl ?_
        refine g_getS F (v := .ref (ad 1)) in_X8 4 rfl rfl 0 (by decide) mw_208 mw_209 rfl d_TagWays_before_60 ?_
        refine g_way F 9 (by decide) mw_674 d_TagWays_before_63 ?_
        refine g_cw F (r0 := z.1 ((f_Source_then 9 x2).1)) (ws' := (Wc z ad cA sMt ((f_Source_then 9 x2).2) x3 sReferenceWays sTagWays sCommentWays sOut)) (fun H locs ls hP hD hS hl => g_runV F (As := [.ref (z.1 9)]) (n := 1) mw_401 rfl rfl ⟨by decide, by decide⟩ rfl (by exact Nat.le_of_ble_eq_true rfl) mw_609 mw_399 mw_400 mw_74 (by decide +kernel) d_TagWays_before_66 hP hD hS hl (va_recv F.2.2.2.2.2.1 hP (ci := 1) rfl (q0 := 1) rfl) (c_Source_then l D cA z ad sMt x2 x3 sReferenceWays sTagWays sCommentWays sOut 9 rfl H.size)) ?_
        cases hf
        exact g_aret F hr (Or.inl ⟨_, rfl⟩) hlk rfl rfl rfl d_TagWays_before_69
    · rw [if_neg h] at hf
      refine g_way F 10 (by decide) mw_666 d_TagWays_before_25 ?_
      cases hf
      exact g_aret F hr (Or.inl ⟨_, rfl⟩) hlk rfl rfl rfl d_TagWays_before_28
  · rw [if_neg h] at hf
    refine g_aload_n F d_TagWays_before_7 0 rfl ?_
    refine g_getS F (v := .ref (ad 1)) in_X8 4 rfl rfl 0 (by decide) mw_208 mw_209 rfl d_TagWays_before_8 ?_
    refine g_way F 8 (by decide) mw_649 d_TagWays_before_11 ?_
    refine g_cw F (r0 := z.1 ((f_Source_then 8 sSource).1)) (ws' := (Wc z ad cA sMt ((f_Source_then 8 sSource).2) sTokens sReferenceWays sTagWays sCommentWays sOut)) (fun H locs ls hP hD hS hl => g_runV F (As := [.ref (z.1 8)]) (n := 1) mw_401 rfl rfl ⟨by decide, by decide⟩ rfl (by exact Nat.le_of_ble_eq_true rfl) mw_609 mw_399 mw_400 mw_74 (by decide +kernel) d_TagWays_before_14 hP hD hS hl (va_recv F.2.2.2.2.2.1 hP (ci := 1) rfl (q0 := 1) rfl) (c_Source_then l D cA z ad sMt sSource sTokens sReferenceWays sTagWays sCommentWays sOut 8 rfl H.size)) ?_
    cases hf
    exact g_aret F hr (Or.inl ⟨_, rfl⟩) hlk rfl rfl rfl d_TagWays_before_17
set_option maxHeartbeats 4000000 in
set_option maxRecDepth 100000 in
theorem c_Tokens_endAttributeName (l : Launch) (D : va_G) (cA : Nat → ClassId) (z : gZ) (ad : Nat → Nat) (sMt : SMt) (sSource : SSource) (sTokens : STokens) (sReferenceWays : SReferenceWays) (sTagWays : STagWays) (sCommentWays : SCommentWays) (sOut : SOut) {x : STokens} (hf : f_Tokens_endAttributeName sTokens = some x) (sz : Nat) : Met l y_Tokens_endAttributeName (.code y_Tokens_endAttributeName b_Tokens_endAttributeName 1 none :: lw_g) { frames := 0, cells := 0, slots := 0, locals := 0 } (gP D (gT cA) z [.ref (ad 2)] (Wc z ad cA sMt sSource sTokens sReferenceWays sTagWays sCommentWays sOut) sz) (gQv D (gT cA) (va_A (Wc z ad cA sMt sSource sTokens sReferenceWays sTagWays sCommentWays sOut) sz) (Wc z ad cA sMt sSource x sReferenceWays sTagWays sCommentWays sOut)) 0 0 (va_A (Wc z ad cA sMt sSource sTokens sReferenceWays sTagWays sCommentWays sOut) sz) := by
  refine g_met (by decide) (Nat.le_of_ble_eq_true rfl) rfl ?_
  intro p e s m args below meth c F hr hlk
  unfold f_Tokens_endAttributeName at hf
  refine g_aload_n F d_Tokens_endAttributeName_0 0 rfl ?_
  refine g_get F (v := .int (q_Tokens_attributesUsed sTokens)) in_X9 2 rfl rfl 13 (by decide) mw_148 rfl d_Tokens_endAttributeName_1 ?_
  refine g_sipush F (v := 400) d_Tokens_endAttributeName_4 (by decide) ?_
  refine g_icmp_ge F (tgt := 23) d_Tokens_endAttributeName_7 (by decide) (fun h => ?_) (fun h => ?_)
  · rw [if_pos h] at hf
    cases hf
    exact g_vret F hr hlk rfl rfl d_Tokens_endAttributeName_23
  · rw [if_neg h] at hf
    refine g_aload_n F d_Tokens_endAttributeName_10 0 rfl ?_
    refine g_get F (v := .ref (ad 21)) in_X9 2 rfl rfl 11 (by decide) mw_146 rfl d_Tokens_endAttributeName_11 ?_
    refine g_aload_n F d_Tokens_endAttributeName_14 0 rfl ?_
    refine g_get F (v := .int (q_Tokens_attributesUsed sTokens)) in_X9 2 rfl rfl 13 (by decide) mw_148 rfl d_Tokens_endAttributeName_15 ?_
    refine g_aload_n F d_Tokens_endAttributeName_18 0 rfl ?_
    refine g_get F (v := .int (q_Tokens_used sTokens)) in_X9 2 rfl rfl 1 (by decide) mw_136 rfl d_Tokens_endAttributeName_19 ?_
    obtain ⟨k1, hf⟩ := g_chk hf
    refine g_iast F (f := (q_Tokens_valueStarts sTokens)) 21 0 rfl rfl k1 (ws' := (Wc z ad cA sMt sSource (u_Tokens_valueStarts sTokens (upd (q_Tokens_valueStarts sTokens) ((q_Tokens_attributesUsed sTokens) : Int32).toNatClampNeg (q_Tokens_used sTokens))) sReferenceWays sTagWays sCommentWays sOut)) rfl d_Tokens_endAttributeName_22 ?_
    cases hf
    exact g_vret F hr hlk rfl rfl d_Tokens_endAttributeName_23
set_option maxHeartbeats 4000000 in
set_option maxRecDepth 100000 in
theorem c_Tokens_sameName (l : Launch) (D : va_G) (cA : Nat → ClassId) (z : gZ) (ad : Nat → Nat) (sMt : SMt) (sSource : SSource) (sTokens : STokens) (sReferenceWays : SReferenceWays) (sTagWays : STagWays) (sCommentWays : SCommentWays) (sOut : SOut) (a1 : Int32) (a2 : Int32) {x : Int32} (hf : f_Tokens_sameName a1 a2 sTokens = some x) (sz : Nat) : Met l y_Tokens_sameName (.code y_Tokens_sameName b_Tokens_sameName 5 (some .boolean) :: lw_g) { frames := 0, cells := 0, slots := 0, locals := 0 } (gP D (gT cA) z [.ref (ad 2), .int a1, .int a2] (Wc z ad cA sMt sSource sTokens sReferenceWays sTagWays sCommentWays sOut) sz) (gQi D (gT cA) (va_A (Wc z ad cA sMt sSource sTokens sReferenceWays sTagWays sCommentWays sOut) sz) x (Wc z ad cA sMt sSource sTokens sReferenceWays sTagWays sCommentWays sOut)) 0 0 (va_A (Wc z ad cA sMt sSource sTokens sReferenceWays sTagWays sCommentWays sOut) sz) := by
  refine g_met (by decide) (Nat.le_of_ble_eq_true rfl) rfl ?_
  intro p e s m args below meth c F hr hlk
  have blk36 : ∀ (n : Nat) (v1 : Int32) (v2 : Int32) (v3 : Int32) (v4 : Int32), f_Tokens_sameName_36 n v1 v2 v3 v4 sTokens = some x → GW p l e { frames := 0, cells := 0, slots := 0, locals := 0 } s m args below meth c (gQi D (gT cA) (va_A (Wc z ad cA sMt sSource sTokens sReferenceWays sTagWays sCommentWays sOut) sz) x (Wc z ad cA sMt sSource sTokens sReferenceWays sTagWays sCommentWays sOut)) D (va_A (Wc z ad cA sMt sSource sTokens sReferenceWays sTagWays sCommentWays sOut) sz) 5 (Wc z ad cA sMt sSource sTokens sReferenceWays sTagWays sCommentWays sOut) 36 [(0, .ref (ad 2)), (1, .int v1), (2, .int v2), (3, .int v3), (4, .int v4)] [] := by
    intro n
    induction n with
    | zero => intro _ _ _ _ hf; cases hf
    | succ n ih =>
      intro v1 v2 v3 v4 hf
      rw [f_Tokens_sameName_36] at hf
      refine g_iload F d_Tokens_sameName_36 4 rfl ?_
      refine g_iload_n F d_Tokens_sameName_38 3 rfl ?_
      refine g_icmp_ge F (tgt := 81) d_Tokens_sameName_39 (by decide) (fun h => ?_) (fun h => ?_)
      · rw [if_pos h] at hf
        refine g_iconst F (v := 1) d_Tokens_sameName_81 (by decide) ?_
        cases hf
        exact g_zret F hr rfl hlk rfl rfl rfl d_Tokens_sameName_82
      · rw [if_neg h] at hf
        refine g_aload_n F d_Tokens_sameName_42 0 rfl ?_
        refine g_get F (v := .ref (ad 13)) in_X9 2 rfl rfl 0 (by decide) mw_135 rfl d_Tokens_sameName_43 ?_
        refine g_aload_n F d_Tokens_sameName_46 0 rfl ?_
        refine g_get F (v := .ref (ad 20)) in_X9 2 rfl rfl 10 (by decide) mw_145 rfl d_Tokens_sameName_47 ?_
        refine g_iload_n F d_Tokens_sameName_50 1 rfl ?_
        obtain ⟨k1, hf⟩ := g_chk hf
        refine g_iald F (f := (q_Tokens_nameStarts sTokens)) 20 0 rfl rfl k1 d_Tokens_sameName_51 ?_
        refine g_iload F d_Tokens_sameName_52 4 rfl ?_
        refine g_iadd F d_Tokens_sameName_54 ?_
        obtain ⟨k2, hf⟩ := g_chk hf
        refine g_iald F (f := (q_Tokens_row sTokens)) 13 0 rfl rfl k2 d_Tokens_sameName_55 ?_
        refine g_aload_n F d_Tokens_sameName_56 0 rfl ?_
        refine g_get F (v := .ref (ad 13)) in_X9 2 rfl rfl 0 (by decide) mw_135 rfl d_Tokens_sameName_57 ?_
        refine g_aload_n F d_Tokens_sameName_60 0 rfl ?_
        refine g_get F (v := .ref (ad 20)) in_X9 2 rfl rfl 10 (by decide) mw_145 rfl d_Tokens_sameName_61 ?_
        refine g_iload_n F d_Tokens_sameName_64 2 rfl ?_
        obtain ⟨k3, hf⟩ := g_chk hf
        refine g_iald F (f := (q_Tokens_nameStarts sTokens)) 20 0 rfl rfl k3 d_Tokens_sameName_65 ?_
        refine g_iload F d_Tokens_sameName_66 4 rfl ?_
        refine g_iadd F d_Tokens_sameName_68 ?_
        obtain ⟨k4, hf⟩ := g_chk hf
        refine g_iald F (f := (q_Tokens_row sTokens)) 13 0 rfl rfl k4 d_Tokens_sameName_69 ?_
        refine g_icmp_eq F (tgt := 75) d_Tokens_sameName_70 (by decide) (fun h => ?_) (fun h => ?_)
        · rw [if_pos h] at hf
          refine g_iinc F (j := 4) (v := (v4 + 1)) (L' := [(4, .int (v4 + 1)), (0, .ref (ad 2)), (1, .int v1), (2, .int v2), (3, .int v3)]) d_Tokens_sameName_75 rfl rfl (by decide) rfl ?_
          refine g_goto F (tgt := 36) d_Tokens_sameName_78 (by decide) ?_
          refine g_loc [1, 2, 3, 4, 0] rfl ?_
          exact ih v1 v2 v3 (v4 + 1) hf
        · rw [if_neg h] at hf
          refine g_iconst F (v := 0) d_Tokens_sameName_73 (by decide) ?_
          cases hf
          exact g_zret F hr rfl hlk rfl rfl rfl d_Tokens_sameName_74
  unfold f_Tokens_sameName at hf
  refine g_aload_n F d_Tokens_sameName_0 0 rfl ?_
  refine g_get F (v := .ref (ad 21)) in_X9 2 rfl rfl 11 (by decide) mw_146 rfl d_Tokens_sameName_1 ?_
  refine g_iload_n F d_Tokens_sameName_4 1 rfl ?_
  obtain ⟨k5, hf⟩ := g_chk hf
  refine g_iald F (f := (q_Tokens_valueStarts sTokens)) 21 0 rfl rfl k5 d_Tokens_sameName_5 ?_
  refine g_aload_n F d_Tokens_sameName_6 0 rfl ?_
  refine g_get F (v := .ref (ad 20)) in_X9 2 rfl rfl 10 (by decide) mw_145 rfl d_Tokens_sameName_7 ?_
  refine g_iload_n F d_Tokens_sameName_10 1 rfl ?_
  obtain ⟨k6, hf⟩ := g_chk hf
  refine g_iald F (f := (q_Tokens_nameStarts sTokens)) 20 0 rfl rfl k6 d_Tokens_sameName_11 ?_
  refine g_isub F d_Tokens_sameName_12 ?_
  refine g_istore_n F (L' := [(3, .int (((q_Tokens_valueStarts sTokens) (a1 : Int32).toNatClampNeg) - ((q_Tokens_nameStarts sTokens) (a1 : Int32).toNatClampNeg))), (0, .ref (ad 2)), (1, .int a1), (2, .int a2)]) d_Tokens_sameName_13 rfl (by decide) rfl ?_
  refine g_iload_n F d_Tokens_sameName_14 0 rfl ?_
  refine g_aload_n F d_Tokens_sameName_15 1 rfl ?_
  refine g_get F (v := .ref (ad 21)) in_X9 2 rfl rfl 11 (by decide) mw_146 rfl d_Tokens_sameName_16 ?_
  refine g_iload_n F d_Tokens_sameName_19 3 rfl ?_
  obtain ⟨k7, hf⟩ := g_chk hf
  refine g_iald F (f := (q_Tokens_valueStarts sTokens)) 21 0 rfl rfl k7 d_Tokens_sameName_20 ?_
  refine g_aload_n F d_Tokens_sameName_21 1 rfl ?_
  refine g_get F (v := .ref (ad 20)) in_X9 2 rfl rfl 10 (by decide) mw_145 rfl d_Tokens_sameName_22 ?_
  refine g_iload_n F d_Tokens_sameName_25 3 rfl ?_
  obtain ⟨k8, hf⟩ := g_chk hf
  refine g_iald F (f := (q_Tokens_nameStarts sTokens)) 20 0 rfl rfl k8 d_Tokens_sameName_26 ?_
  refine g_isub F d_Tokens_sameName_27 ?_
  refine g_icmp_eq F (tgt := 33) d_Tokens_sameName_28 (by decide) (fun h => ?_) (fun h => ?_)
  · rw [if_pos h] at hf
    refine g_iconst F (v := 0) d_Tokens_sameName_33 (by decide) ?_
    refine g_istore F (L' := [(4, .int 0), (3, .int (((q_Tokens_valueStarts sTokens) (a1 : Int32).toNatClampNeg) - ((q_Tokens_nameStarts sTokens) (a1 : Int32).toNatClampNeg))), (0, .ref (ad 2)), (1, .int a1), (2, .int a2)]) d_Tokens_sameName_34 (by decide) rfl ?_
    refine g_loc [2, 3, 4, 1, 0] rfl ?_
    exact blk36 FU a1 a2 (((q_Tokens_valueStarts sTokens) (a1 : Int32).toNatClampNeg) - ((q_Tokens_nameStarts sTokens) (a1 : Int32).toNatClampNeg)) 0 hf
  · rw [if_neg h] at hf
    refine g_iconst F (v := 0) d_Tokens_sameName_31 (by decide) ?_
    cases hf
    exact g_zret F hr rfl hlk rfl rfl rfl d_Tokens_sameName_32
set_option maxHeartbeats 4000000 in
set_option maxRecDepth 100000 in
theorem c_Tokens_stoodBefore (l : Launch) (D : va_G) (cA : Nat → ClassId) (z : gZ) (ad : Nat → Nat) (sMt : SMt) (sSource : SSource) (sTokens : STokens) (sReferenceWays : SReferenceWays) (sTagWays : STagWays) (sCommentWays : SCommentWays) (sOut : SOut) {x : Int32} (hf : f_Tokens_stoodBefore sTokens = some x) (sz : Nat) : Met l y_Tokens_stoodBefore (.code y_Tokens_stoodBefore b_Tokens_stoodBefore 2 (some .boolean) :: lw_g) { frames := 1, cells := 0, slots := 0, locals := 24 } (gP D (gT cA) z [.ref (ad 2)] (Wc z ad cA sMt sSource sTokens sReferenceWays sTagWays sCommentWays sOut) sz) (gQi D (gT cA) (va_A (Wc z ad cA sMt sSource sTokens sReferenceWays sTagWays sCommentWays sOut) sz) x (Wc z ad cA sMt sSource sTokens sReferenceWays sTagWays sCommentWays sOut)) 0 0 (va_A (Wc z ad cA sMt sSource sTokens sReferenceWays sTagWays sCommentWays sOut) sz) := by
  refine g_met (by decide) (Nat.le_of_ble_eq_true rfl) rfl ?_
  intro p e s m args below meth c F hr hlk
  have blk32 : ∀ (n : Nat) (v1 : Int32), f_Tokens_stoodBefore_32 n v1 sTokens = some x → GW p l e { frames := 1, cells := 0, slots := 0, locals := 24 } s m args below meth c (gQi D (gT cA) (va_A (Wc z ad cA sMt sSource sTokens sReferenceWays sTagWays sCommentWays sOut) sz) x (Wc z ad cA sMt sSource sTokens sReferenceWays sTagWays sCommentWays sOut)) D (va_A (Wc z ad cA sMt sSource sTokens sReferenceWays sTagWays sCommentWays sOut) sz) 2 (Wc z ad cA sMt sSource sTokens sReferenceWays sTagWays sCommentWays sOut) 32 [(0, .ref (ad 2)), (1, .int v1)] [] := by
    intro n
    induction n with
    | zero => intro _ hf; cases hf
    | succ n ih =>
      intro v1 hf
      rw [f_Tokens_stoodBefore_32] at hf
      refine g_iload_n F d_Tokens_stoodBefore_32 1 rfl ?_
      refine g_aload_n F d_Tokens_stoodBefore_33 0 rfl ?_
      refine g_get F (v := .int (q_Tokens_attributesUsed sTokens)) in_X9 2 rfl rfl 13 (by decide) mw_148 rfl d_Tokens_stoodBefore_34 ?_
      refine g_icmp_ge F (tgt := 60) d_Tokens_stoodBefore_37 (by decide) (fun h => ?_) (fun h => ?_)
      · rw [if_pos h] at hf
        refine g_iconst F (v := 0) d_Tokens_stoodBefore_60 (by decide) ?_
        cases hf
        exact g_zret F hr rfl hlk rfl rfl rfl d_Tokens_stoodBefore_61
      · rw [if_neg h] at hf
        refine g_aload_n F d_Tokens_stoodBefore_40 0 rfl ?_
        refine g_iload_n F d_Tokens_stoodBefore_41 1 rfl ?_
        refine g_aload_n F d_Tokens_stoodBefore_42 0 rfl ?_
        refine g_get F (v := .int (q_Tokens_attributesUsed sTokens)) in_X9 2 rfl rfl 13 (by decide) mw_148 rfl d_Tokens_stoodBefore_43 ?_
        obtain ⟨x1, hx1, hf⟩ := g_bind hf
        refine g_ci F (r0 := x1) (ws' := (Wc z ad cA sMt sSource sTokens sReferenceWays sTagWays sCommentWays sOut)) (fun H locs ls hP hD hS hl => g_runV F (As := [.int v1, .int (q_Tokens_attributesUsed sTokens)]) (n := 2) mw_695 rfl rfl ⟨by decide, by decide⟩ rfl (by exact Nat.le_of_ble_eq_true rfl) mw_692 mw_694 mw_15 mw_75 (by decide +kernel) d_Tokens_stoodBefore_46 hP hD hS hl (va_recv F.2.2.2.2.2.1 hP (ci := 2) rfl (q0 := 2) rfl) (c_Tokens_sameName l D cA z ad sMt sSource sTokens sReferenceWays sTagWays sCommentWays sOut v1 (q_Tokens_attributesUsed sTokens) hx1 H.size)) ?_
        refine g_if_eq F (tgt := 54) d_Tokens_stoodBefore_49 (by decide) (fun h => ?_) (fun h => ?_)
        · rw [if_pos h] at hf
          refine g_iinc F (j := 1) (v := (v1 + 1)) (L' := [(1, .int (v1 + 1)), (0, .ref (ad 2))]) d_Tokens_stoodBefore_54 rfl rfl (by decide) rfl ?_
          refine g_goto F (tgt := 32) d_Tokens_stoodBefore_57 (by decide) ?_
          refine g_loc [1, 0] rfl ?_
          exact ih (v1 + 1) hf
        · rw [if_neg h] at hf
          refine g_iconst F (v := 1) d_Tokens_stoodBefore_52 (by decide) ?_
          cases hf
          exact g_zret F hr rfl hlk rfl rfl rfl d_Tokens_stoodBefore_53
  unfold f_Tokens_stoodBefore at hf
  refine g_aload_n F d_Tokens_stoodBefore_0 0 rfl ?_
  refine g_get F (v := .int (q_Tokens_count sTokens)) in_X9 2 rfl rfl 8 (by decide) mw_143 rfl d_Tokens_stoodBefore_1 ?_
  refine g_sipush F (v := 400) d_Tokens_stoodBefore_4 (by decide) ?_
  refine g_icmp_ge F (tgt := 20) d_Tokens_stoodBefore_7 (by decide) (fun h => ?_) (fun h => ?_)
  · rw [if_pos h] at hf
    refine g_iconst F (v := 0) d_Tokens_stoodBefore_20 (by decide) ?_
    cases hf
    exact g_zret F hr rfl hlk rfl rfl rfl d_Tokens_stoodBefore_21
  · rw [if_neg h] at hf
    refine g_aload_n F d_Tokens_stoodBefore_10 0 rfl ?_
    refine g_get F (v := .int (q_Tokens_attributesUsed sTokens)) in_X9 2 rfl rfl 13 (by decide) mw_148 rfl d_Tokens_stoodBefore_11 ?_
    refine g_sipush F (v := 400) d_Tokens_stoodBefore_14 (by decide) ?_
    refine g_icmp_lt F (tgt := 22) d_Tokens_stoodBefore_17 (by decide) (fun h => ?_) (fun h => ?_)
    · rw [if_pos h] at hf
      refine g_aload_n F d_Tokens_stoodBefore_22 0 rfl ?_
      refine g_get F (v := .ref (ad 18)) in_X9 2 rfl rfl 6 (by decide) mw_141 rfl d_Tokens_stoodBefore_23 ?_
      refine g_aload_n F d_Tokens_stoodBefore_26 0 rfl ?_
      refine g_get F (v := .int (q_Tokens_count sTokens)) in_X9 2 rfl rfl 8 (by decide) mw_143 rfl d_Tokens_stoodBefore_27 ?_
      obtain ⟨k1, hf⟩ := g_chk hf
      refine g_iald F (f := (q_Tokens_firstAttributes sTokens)) 18 0 rfl rfl k1 d_Tokens_stoodBefore_30 ?_
      refine g_istore_n F (L' := [(1, .int ((q_Tokens_firstAttributes sTokens) ((q_Tokens_count sTokens) : Int32).toNatClampNeg)), (0, .ref (ad 2))]) d_Tokens_stoodBefore_31 rfl (by decide) rfl ?_
      refine g_loc [1, 0] rfl ?_
      exact blk32 FU ((q_Tokens_firstAttributes sTokens) ((q_Tokens_count sTokens) : Int32).toNatClampNeg) hf
    · rw [if_neg h] at hf
      refine g_iconst F (v := 0) d_Tokens_stoodBefore_20 (by decide) ?_
      cases hf
      exact g_zret F hr rfl hlk rfl rfl rfl d_Tokens_stoodBefore_21
set_option maxHeartbeats 4000000 in
set_option maxRecDepth 100000 in
theorem c_Tokens_loseAttribute (l : Launch) (D : va_G) (cA : Nat → ClassId) (z : gZ) (ad : Nat → Nat) (sMt : SMt) (sSource : SSource) (sTokens : STokens) (sReferenceWays : SReferenceWays) (sTagWays : STagWays) (sCommentWays : SCommentWays) (sOut : SOut) {x : STokens} (hf : f_Tokens_loseAttribute sTokens = x) (sz : Nat) : Met l y_Tokens_loseAttribute (.code y_Tokens_loseAttribute b_Tokens_loseAttribute 1 none :: lw_g) { frames := 0, cells := 0, slots := 0, locals := 0 } (gP D (gT cA) z [.ref (ad 2)] (Wc z ad cA sMt sSource sTokens sReferenceWays sTagWays sCommentWays sOut) sz) (gQv D (gT cA) (va_A (Wc z ad cA sMt sSource sTokens sReferenceWays sTagWays sCommentWays sOut) sz) (Wc z ad cA sMt sSource x sReferenceWays sTagWays sCommentWays sOut)) 0 0 (va_A (Wc z ad cA sMt sSource sTokens sReferenceWays sTagWays sCommentWays sOut) sz) := by
  refine g_met (by decide) (Nat.le_of_ble_eq_true rfl) rfl ?_
  intro p e s m args below meth c F hr hlk
  unfold f_Tokens_loseAttribute at hf
  refine g_aload_n F d_Tokens_loseAttribute_0 0 rfl ?_
  refine g_iconst F (v := 0) d_Tokens_loseAttribute_1 (by decide) ?_
  refine g_put F in_X9 2 rfl rfl 14 (by decide) tyX9 tyX9_ok nmX9 mw_149 rfl rfl rfl (Nat.le_of_ble_eq_true rfl) (ws' := (Wc z ad cA sMt sSource (u_Tokens_inAttribute sTokens 0) sReferenceWays sTagWays sCommentWays sOut)) rfl d_Tokens_loseAttribute_2 ?_
  subst hf
  exact g_vret F hr hlk rfl rfl d_Tokens_loseAttribute_5
set_option maxHeartbeats 4000000 in
set_option maxRecDepth 100000 in
theorem c_TagWays_leaveAttributeName (l : Launch) (D : va_G) (cA : Nat → ClassId) (z : gZ) (ad : Nat → Nat) (sMt : SMt) (sSource : SSource) (sTokens : STokens) (sReferenceWays : SReferenceWays) (sTagWays : STagWays) (sCommentWays : SCommentWays) (sOut : SOut) {x : SSource × STokens} (hf : f_TagWays_leaveAttributeName sSource sTokens = some x) (sz : Nat) : Met l y_TagWays_leaveAttributeName (.code y_TagWays_leaveAttributeName b_TagWays_leaveAttributeName 1 none :: lw_g) { frames := 2, cells := 0, slots := 0, locals := 45 } (gP D (gT cA) z [.ref (ad 4)] (Wc z ad cA sMt sSource sTokens sReferenceWays sTagWays sCommentWays sOut) sz) (gQv D (gT cA) (va_A (Wc z ad cA sMt sSource sTokens sReferenceWays sTagWays sCommentWays sOut) sz) (Wc z ad cA sMt x.1 x.2 sReferenceWays sTagWays sCommentWays sOut)) 0 0 (va_A (Wc z ad cA sMt sSource sTokens sReferenceWays sTagWays sCommentWays sOut) sz) := by
  refine g_met (by decide) (Nat.le_of_ble_eq_true rfl) rfl ?_
  intro p e s m args below meth c F hr hlk
  unfold f_TagWays_leaveAttributeName at hf
  refine g_aload_n F d_TagWays_leaveAttributeName_0 0 rfl ?_
  refine g_getS F (v := .ref (ad 2)) in_X8 4 rfl rfl 1 (by decide) mw_217 mw_218 rfl d_TagWays_leaveAttributeName_1 ?_
  obtain ⟨x1, hx1, hf⟩ := g_bind hf
  refine g_cv F (ws' := (Wc z ad cA sMt sSource x1 sReferenceWays sTagWays sCommentWays sOut)) (fun H locs ls hP hD hS hl => g_runV F (As := []) (n := 0) mw_687 rfl rfl ⟨by decide, by decide⟩ rfl (by exact Nat.le_of_ble_eq_true rfl) mw_684 mw_685 mw_686 mw_75 (by decide +kernel) d_TagWays_leaveAttributeName_4 hP hD hS hl (va_recv F.2.2.2.2.2.1 hP (ci := 2) rfl (q0 := 2) rfl) (c_Tokens_endAttributeName l D cA z ad sMt sSource sTokens sReferenceWays sTagWays sCommentWays sOut hx1 H.size)) ?_
  refine g_aload_n F d_TagWays_leaveAttributeName_7 0 rfl ?_
  refine g_getS F (v := .ref (ad 2)) in_X8 4 rfl rfl 1 (by decide) mw_217 mw_218 rfl d_TagWays_leaveAttributeName_8 ?_
  obtain ⟨x2, hx2, hf⟩ := g_bind hf
  refine g_ci F (r0 := x2) (ws' := (Wc z ad cA sMt sSource x1 sReferenceWays sTagWays sCommentWays sOut)) (fun H locs ls hP hD hS hl => g_runV F (As := []) (n := 0) mw_691 rfl rfl ⟨by decide, by decide⟩ rfl (by exact Nat.le_of_ble_eq_true rfl) mw_688 mw_689 mw_690 mw_75 (by decide +kernel) d_TagWays_leaveAttributeName_11 hP hD hS hl (va_recv F.2.2.2.2.2.1 hP (ci := 2) rfl (q0 := 2) rfl) (c_Tokens_stoodBefore l D cA z ad sMt sSource x1 sReferenceWays sTagWays sCommentWays sOut hx2 H.size)) ?_
  refine g_if_eq F (tgt := 33) d_TagWays_leaveAttributeName_14 (by decide) (fun h => ?_) (fun h => ?_)
  · rw [if_pos h] at hf
    cases hf
    exact g_vret F hr hlk rfl rfl d_TagWays_leaveAttributeName_33
  · rw [if_neg h] at hf
    refine g_aload_n F d_TagWays_leaveAttributeName_17 0 rfl ?_
    refine g_getS F (v := .ref (ad 1)) in_X8 4 rfl rfl 0 (by decide) mw_208 mw_209 rfl d_TagWays_leaveAttributeName_18 ?_
    refine g_bipush F (v := 9) d_TagWays_leaveAttributeName_21 (by decide) ?_
    obtain ⟨x3, hx3, hf⟩ := g_bind hf
    refine g_cv F (ws' := (Wc z ad cA sMt x3 x1 sReferenceWays sTagWays sCommentWays sOut)) (fun H locs ls hP hD hS hl => g_runV F (As := [.int 9]) (n := 1) mw_408 rfl rfl ⟨by decide, by decide⟩ rfl (by exact Nat.le_of_ble_eq_true rfl) mw_626 mw_406 mw_407 mw_74 (by decide +kernel) d_TagWays_leaveAttributeName_23 hP hD hS hl (va_recv F.2.2.2.2.2.1 hP (ci := 1) rfl (q0 := 1) rfl) (c_Source_wrong l D cA z ad sMt sSource x1 sReferenceWays sTagWays sCommentWays sOut 9 hx3 H.size)) ?_
    refine g_aload_n F d_TagWays_leaveAttributeName_26 0 rfl ?_
    refine g_getS F (v := .ref (ad 2)) in_X8 4 rfl rfl 1 (by decide) mw_217 mw_218 rfl d_TagWays_leaveAttributeName_27 ?_
    refine g_cv F (ws' := (Wc z ad cA sMt x3 (f_Tokens_loseAttribute x1) sReferenceWays sTagWays sCommentWays sOut)) (fun H locs ls hP hD hS hl => g_runV F (As := []) (n := 0) mw_699 rfl rfl ⟨by decide, by decide⟩ rfl (by exact Nat.le_of_ble_eq_true rfl) mw_696 mw_697 mw_698 mw_75 (by decide +kernel) d_TagWays_leaveAttributeName_30 hP hD hS hl (va_recv F.2.2.2.2.2.1 hP (ci := 2) rfl (q0 := 2) rfl) (c_Tokens_loseAttribute l D cA z ad sMt x3 x1 sReferenceWays sTagWays sCommentWays sOut rfl H.size)) ?_
    cases hf
    exact g_vret F hr hlk rfl rfl d_TagWays_leaveAttributeName_33
set_option maxHeartbeats 4000000 in
set_option maxRecDepth 100000 in
theorem c_TagWays_attribute (l : Launch) (D : va_G) (cA : Nat → ClassId) (z : gZ) (ad : Nat → Nat) (sMt : SMt) (sSource : SSource) (sTokens : STokens) (sReferenceWays : SReferenceWays) (sTagWays : STagWays) (sCommentWays : SCommentWays) (sOut : SOut) (a1 : Int32) {x : Nat × SSource × STokens} (hf : f_TagWays_attribute a1 sSource sTokens = some x) (sz : Nat) : Met l y_TagWays_attribute (.code y_TagWays_attribute b_TagWays_attribute 2 (some (.object "MarkupTokens$Way")) :: lw_g) { frames := 3, cells := 0, slots := 0, locals := 65 } (gP D (gT cA) z [.ref (ad 4), .int a1] (Wc z ad cA sMt sSource sTokens sReferenceWays sTagWays sCommentWays sOut) sz) (gQq D (gT cA) (va_A (Wc z ad cA sMt sSource sTokens sReferenceWays sTagWays sCommentWays sOut) sz) (some (z.1 x.1)) (Wc z ad cA sMt x.2.1 x.2.2 sReferenceWays sTagWays sCommentWays sOut)) 0 0 (va_A (Wc z ad cA sMt sSource sTokens sReferenceWays sTagWays sCommentWays sOut) sz) := by
  refine g_met (by decide) (Nat.le_of_ble_eq_true rfl) rfl ?_
  intro p e s m args below meth c F hr hlk
  unfold f_TagWays_attribute at hf
  refine g_iload_n F d_TagWays_attribute_0 1 rfl ?_
  refine g_ci F (r0 := (f_TagWays_endsName a1)) (ws' := (Wc z ad cA sMt sSource sTokens sReferenceWays sTagWays sCommentWays sOut)) (fun H locs ls hP hD hS hl => g_runS F (As := [.int a1]) (n := 1) mw_597 rfl rfl ⟨by decide, by decide⟩ rfl (by exact Nat.le_of_ble_eq_true rfl) mw_595 mw_596 mw_81 (by decide +kernel) d_TagWays_attribute_1 hP hD hS hl (c_TagWays_endsName l D cA z ad sMt sSource sTokens sReferenceWays sTagWays sCommentWays sOut a1 rfl H.size)) ?_
  refine g_if_eq F (tgt := 15) d_TagWays_attribute_4 (by decide) (fun h => ?_) (fun h => ?_)
  · rw [if_pos h] at hf
    refine g_iload_n F d_TagWays_attribute_15 1 rfl ?_
    refine g_bipush F (v := 61) d_TagWays_attribute_16 (by decide) ?_
    refine g_icmp_ne F (tgt := 36) d_TagWays_attribute_18 (by decide) (fun h => ?_) (fun h => ?_)
    · rw [if_neg h] at hf
      refine g_iload_n F d_TagWays_attribute_36 1 rfl ?_
      refine g_bipush F (v := 34) d_TagWays_attribute_37 (by decide) ?_
      refine g_icmp_eq F (tgt := 54) d_TagWays_attribute_39 (by decide) (fun h => ?_) (fun h => ?_)
      · rw [if_pos h] at hf
        refine g_aload_n F d_TagWays_attribute_54 0 rfl ?_
        refine g_getS F (v := .ref (ad 1)) in_X8 4 rfl rfl 0 (by decide) mw_208 mw_209 rfl d_TagWays_attribute_55 ?_
        refine g_bipush F (v := 8) d_TagWays_attribute_58 (by decide) ?_
        obtain ⟨x1, hx1, hf⟩ := g_bind hf
        refine g_cv F (ws' := (Wc z ad cA sMt x1 sTokens sReferenceWays sTagWays sCommentWays sOut)) (fun H locs ls hP hD hS hl => g_runV F (As := [.int 8]) (n := 1) mw_408 rfl rfl ⟨by decide, by decide⟩ rfl (by exact Nat.le_of_ble_eq_true rfl) mw_626 mw_406 mw_407 mw_74 (by decide +kernel) d_TagWays_attribute_60 hP hD hS hl (va_recv F.2.2.2.2.2.1 hP (ci := 1) rfl (q0 := 1) rfl) (c_Source_wrong l D cA z ad sMt sSource sTokens sReferenceWays sTagWays sCommentWays sOut 8 hx1 H.size)) ?_
        refine g_aload_n F d_TagWays_attribute_63 0 rfl ?_
        refine g_iload_n F d_TagWays_attribute_64 1 rfl ?_
        refine g_ci F (r0 := (f_Mt_lowered a1)) (ws' := (Wc z ad cA sMt x1 sTokens sReferenceWays sTagWays sCommentWays sOut)) (fun H locs ls hP hD hS hl => g_runSN F (As := [.int a1]) (n := 1) mw_555 rfl rfl ⟨by decide, by decide⟩ rfl (by exact Nat.le_of_ble_eq_true rfl) (F.2.2.2.2.2.2.2.2.1 (RX8, 98, y_Mt_lowered) (by decide +kernel)) mw_554 mw_73 (by decide +kernel) d_TagWays_attribute_65 hP hD hS hl (c_Mt_lowered l D cA z ad sMt x1 sTokens sReferenceWays sTagWays sCommentWays sOut a1 rfl H.size)) ?_
        obtain ⟨x2, hx2, hf⟩ := g_bind hf
        refine g_cv F (ws' := (Wc z ad cA sMt x2.1 x2.2 sReferenceWays sTagWays sCommentWays sOut)) (fun H locs ls hP hD hS hl => g_runU F (As := [.int (f_Mt_lowered a1)]) (n := 1) mw_657 rfl rfl ⟨by decide, by decide⟩ rfl (by exact Nat.le_of_ble_eq_true rfl) mw_652 mw_653 mw_655 mw_656 mw_76 rfl (by decide +kernel) d_TagWays_attribute_68 hP hD hS hl (va_recv F.2.2.2.2.2.1 hP (ci := 4) rfl (q0 := 4) rfl) (c_Ways_addKnown_TagWays l D cA z ad sMt x1 sTokens sReferenceWays sTagWays sCommentWays sOut (f_Mt_lowered a1) hx2 H.size)) ?_
        refine g_aload_n F d_TagWays_attribute_71 0 rfl ?_
        refine g_getS F (v := .ref (ad 1)) in_X8 4 rfl rfl 0 (by decide) mw_208 mw_209 rfl d_TagWays_attribute_72 ?_
        refine g_way F 9 (by decide) mw_674 d_TagWays_attribute_75 ?_
        refine g_cw F (r0 := z.1 ((f_Source_then 9 x2.1).1)) (ws' := (Wc z ad cA sMt ((f_Source_then 9 x2.1).2) x2.2 sReferenceWays sTagWays sCommentWays sOut)) (fun H locs ls hP hD hS hl => g_runV F (As := [.ref (z.1 9)]) (n := 1) mw_401 rfl rfl ⟨by decide, by decide⟩ rfl (by exact Nat.le_of_ble_eq_true rfl) mw_609 mw_399 mw_400 mw_74 (by decide +kernel) d_TagWays_attribute_78 hP hD hS hl (va_recv F.2.2.2.2.2.1 hP (ci := 1) rfl (q0 := 1) rfl) (c_Source_then l D cA z ad sMt x2.1 x2.2 sReferenceWays sTagWays sCommentWays sOut 9 rfl H.size)) ?_
        cases hf
        exact g_aret F hr (Or.inl ⟨_, rfl⟩) hlk rfl rfl rfl d_TagWays_attribute_81
      · rw [if_neg h] at hf
        refine g_iload_n F d_TagWays_attribute_42 1 rfl ?_
        refine g_bipush F (v := 39) d_TagWays_attribute_43 (by decide) ?_
        refine g_icmp_eq F (tgt := 54) d_TagWays_attribute_45 (by decide) (fun h => ?_) (fun h => ?_)
        · rw [if_pos h] at hf
          refine g_aload_n F d_TagWays_attribute_54 0 rfl ?_
          refine g_getS F (v := .ref (ad 1)) in_X8 4 rfl rfl 0 (by decide) mw_208 mw_209 rfl d_TagWays_attribute_55 ?_
          refine g_bipush F (v := 8) d_TagWays_attribute_58 (by decide) ?_
          obtain ⟨x3, hx3, hf⟩ := g_bind hf
          refine g_cv F (ws' := (Wc z ad cA sMt x3 sTokens sReferenceWays sTagWays sCommentWays sOut)) (fun H locs ls hP hD hS hl => g_runV F (As := [.int 8]) (n := 1) mw_408 rfl rfl ⟨by decide, by decide⟩ rfl (by exact Nat.le_of_ble_eq_true rfl) mw_626 mw_406 mw_407 mw_74 (by decide +kernel) d_TagWays_attribute_60 hP hD hS hl (va_recv F.2.2.2.2.2.1 hP (ci := 1) rfl (q0 := 1) rfl) (c_Source_wrong l D cA z ad sMt sSource sTokens sReferenceWays sTagWays sCommentWays sOut 8 hx3 H.size)) ?_
          refine g_aload_n F d_TagWays_attribute_63 0 rfl ?_
          refine g_iload_n F d_TagWays_attribute_64 1 rfl ?_
          refine g_ci F (r0 := (f_Mt_lowered a1)) (ws' := (Wc z ad cA sMt x3 sTokens sReferenceWays sTagWays sCommentWays sOut)) (fun H locs ls hP hD hS hl => g_runSN F (As := [.int a1]) (n := 1) mw_555 rfl rfl ⟨by decide, by decide⟩ rfl (by exact Nat.le_of_ble_eq_true rfl) (F.2.2.2.2.2.2.2.2.1 (RX8, 98, y_Mt_lowered) (by decide +kernel)) mw_554 mw_73 (by decide +kernel) d_TagWays_attribute_65 hP hD hS hl (c_Mt_lowered l D cA z ad sMt x3 sTokens sReferenceWays sTagWays sCommentWays sOut a1 rfl H.size)) ?_
          obtain ⟨x4, hx4, hf⟩ := g_bind hf
          refine g_cv F (ws' := (Wc z ad cA sMt x4.1 x4.2 sReferenceWays sTagWays sCommentWays sOut)) (fun H locs ls hP hD hS hl => g_runU F (As := [.int (f_Mt_lowered a1)]) (n := 1) mw_657 rfl rfl ⟨by decide, by decide⟩ rfl (by exact Nat.le_of_ble_eq_true rfl) mw_652 mw_653 mw_655 mw_656 mw_76 rfl (by decide +kernel) d_TagWays_attribute_68 hP hD hS hl (va_recv F.2.2.2.2.2.1 hP (ci := 4) rfl (q0 := 4) rfl) (c_Ways_addKnown_TagWays l D cA z ad sMt x3 sTokens sReferenceWays sTagWays sCommentWays sOut (f_Mt_lowered a1) hx4 H.size)) ?_
          refine g_aload_n F d_TagWays_attribute_71 0 rfl ?_
          refine g_getS F (v := .ref (ad 1)) in_X8 4 rfl rfl 0 (by decide) mw_208 mw_209 rfl d_TagWays_attribute_72 ?_
          refine g_way F 9 (by decide) mw_674 d_TagWays_attribute_75 ?_
          refine g_cw F (r0 := z.1 ((f_Source_then 9 x4.1).1)) (ws' := (Wc z ad cA sMt ((f_Source_then 9 x4.1).2) x4.2 sReferenceWays sTagWays sCommentWays sOut)) (fun H locs ls hP hD hS hl => g_runV F (As := [.ref (z.1 9)]) (n := 1) mw_401 rfl rfl ⟨by decide, by decide⟩ rfl (by exact Nat.le_of_ble_eq_true rfl) mw_609 mw_399 mw_400 mw_74 (by decide +kernel) d_TagWays_attribute_78 hP hD hS hl (va_recv F.2.2.2.2.2.1 hP (ci := 1) rfl (q0 := 1) rfl) (c_Source_then l D cA z ad sMt x4.1 x4.2 sReferenceWays sTagWays sCommentWays sOut 9 rfl H.size)) ?_
          cases hf
          exact g_aret F hr (Or.inl ⟨_, rfl⟩) hlk rfl rfl rfl d_TagWays_attribute_81
        · rw [if_neg h] at hf
          refine g_iload_n F d_TagWays_attribute_48 1 rfl ?_
          refine g_bipush F (v := 60) d_TagWays_attribute_49 (by decide) ?_
          refine g_icmp_ne F (tgt := 63) d_TagWays_attribute_51 (by decide) (fun h => ?_) (fun h => ?_)
          · rw [if_neg h] at hf
            refine g_aload_n F d_TagWays_attribute_63 0 rfl ?_
            refine g_iload_n F d_TagWays_attribute_64 1 rfl ?_
            refine g_ci F (r0 := (f_Mt_lowered a1)) (ws' := (Wc z ad cA sMt sSource sTokens sReferenceWays sTagWays sCommentWays sOut)) (fun H locs ls hP hD hS hl => g_runSN F (As := [.int a1]) (n := 1) mw_555 rfl rfl ⟨by decide, by decide⟩ rfl (by exact Nat.le_of_ble_eq_true rfl) (F.2.2.2.2.2.2.2.2.1 (RX8, 98, y_Mt_lowered) (by decide +kernel)) mw_554 mw_73 (by decide +kernel) d_TagWays_attribute_65 hP hD hS hl (c_Mt_lowered l D cA z ad sMt sSource sTokens sReferenceWays sTagWays sCommentWays sOut a1 rfl H.size)) ?_
            obtain ⟨x5, hx5, hf⟩ := g_bind hf
            refine g_cv F (ws' := (Wc z ad cA sMt x5.1 x5.2 sReferenceWays sTagWays sCommentWays sOut)) (fun H locs ls hP hD hS hl => g_runU F (As := [.int (f_Mt_lowered a1)]) (n := 1) mw_657 rfl rfl ⟨by decide, by decide⟩ rfl (by exact Nat.le_of_ble_eq_true rfl) mw_652 mw_653 mw_655 mw_656 mw_76 rfl (by decide +kernel) d_TagWays_attribute_68 hP hD hS hl (va_recv F.2.2.2.2.2.1 hP (ci := 4) rfl (q0 := 4) rfl) (c_Ways_addKnown_TagWays l D cA z ad sMt sSource sTokens sReferenceWays sTagWays sCommentWays sOut (f_Mt_lowered a1) hx5 H.size)) ?_
            refine g_aload_n F d_TagWays_attribute_71 0 rfl ?_
            refine g_getS F (v := .ref (ad 1)) in_X8 4 rfl rfl 0 (by decide) mw_208 mw_209 rfl d_TagWays_attribute_72 ?_
            refine g_way F 9 (by decide) mw_674 d_TagWays_attribute_75 ?_
            refine g_cw F (r0 := z.1 ((f_Source_then 9 x5.1).1)) (ws' := (Wc z ad cA sMt ((f_Source_then 9 x5.1).2) x5.2 sReferenceWays sTagWays sCommentWays sOut)) (fun H locs ls hP hD hS hl => g_runV F (As := [.ref (z.1 9)]) (n := 1) mw_401 rfl rfl ⟨by decide, by decide⟩ rfl (by exact Nat.le_of_ble_eq_true rfl) mw_609 mw_399 mw_400 mw_74 (by decide +kernel) d_TagWays_attribute_78 hP hD hS hl (va_recv F.2.2.2.2.2.1 hP (ci := 1) rfl (q0 := 1) rfl) (c_Source_then l D cA z ad sMt x5.1 x5.2 sReferenceWays sTagWays sCommentWays sOut 9 rfl H.size)) ?_
            cases hf
            exact g_aret F hr (Or.inl ⟨_, rfl⟩) hlk rfl rfl rfl d_TagWays_attribute_81
          · rw [if_pos h] at hf
            refine g_aload_n F d_TagWays_attribute_54 0 rfl ?_
            refine g_getS F (v := .ref (ad 1)) in_X8 4 rfl rfl 0 (by decide) mw_208 mw_209 rfl d_TagWays_attribute_55 ?_
            refine g_bipush F (v := 8) d_TagWays_attribute_58 (by decide) ?_
            obtain ⟨x6, hx6, hf⟩ := g_bind hf
            refine g_cv F (ws' := (Wc z ad cA sMt x6 sTokens sReferenceWays sTagWays sCommentWays sOut)) (fun H locs ls hP hD hS hl => g_runV F (As := [.int 8]) (n := 1) mw_408 rfl rfl ⟨by decide, by decide⟩ rfl (by exact Nat.le_of_ble_eq_true rfl) mw_626 mw_406 mw_407 mw_74 (by decide +kernel) d_TagWays_attribute_60 hP hD hS hl (va_recv F.2.2.2.2.2.1 hP (ci := 1) rfl (q0 := 1) rfl) (c_Source_wrong l D cA z ad sMt sSource sTokens sReferenceWays sTagWays sCommentWays sOut 8 hx6 H.size)) ?_
            refine g_aload_n F d_TagWays_attribute_63 0 rfl ?_
            refine g_iload_n F d_TagWays_attribute_64 1 rfl ?_
            refine g_ci F (r0 := (f_Mt_lowered a1)) (ws' := (Wc z ad cA sMt x6 sTokens sReferenceWays sTagWays sCommentWays sOut)) (fun H locs ls hP hD hS hl => g_runSN F (As := [.int a1]) (n := 1) mw_555 rfl rfl ⟨by decide, by decide⟩ rfl (by exact Nat.le_of_ble_eq_true rfl) (F.2.2.2.2.2.2.2.2.1 (RX8, 98, y_Mt_lowered) (by decide +kernel)) mw_554 mw_73 (by decide +kernel) d_TagWays_attribute_65 hP hD hS hl (c_Mt_lowered l D cA z ad sMt x6 sTokens sReferenceWays sTagWays sCommentWays sOut a1 rfl H.size)) ?_
            obtain ⟨x7, hx7, hf⟩ := g_bind hf
            refine g_cv F (ws' := (Wc z ad cA sMt x7.1 x7.2 sReferenceWays sTagWays sCommentWays sOut)) (fun H locs ls hP hD hS hl => g_runU F (As := [.int (f_Mt_lowered a1)]) (n := 1) mw_657 rfl rfl ⟨by decide, by decide⟩ rfl (by exact Nat.le_of_ble_eq_true rfl) mw_652 mw_653 mw_655 mw_656 mw_76 rfl (by decide +kernel) d_TagWays_attribute_68 hP hD hS hl (va_recv F.2.2.2.2.2.1 hP (ci := 4) rfl (q0 := 4) rfl) (c_Ways_addKnown_TagWays l D cA z ad sMt x6 sTokens sReferenceWays sTagWays sCommentWays sOut (f_Mt_lowered a1) hx7 H.size)) ?_
            refine g_aload_n F d_TagWays_attribute_71 0 rfl ?_
            refine g_getS F (v := .ref (ad 1)) in_X8 4 rfl rfl 0 (by decide) mw_208 mw_209 rfl d_TagWays_attribute_72 ?_
            refine g_way F 9 (by decide) mw_674 d_TagWays_attribute_75 ?_
            refine g_cw F (r0 := z.1 ((f_Source_then 9 x7.1).1)) (ws' := (Wc z ad cA sMt ((f_Source_then 9 x7.1).2) x7.2 sReferenceWays sTagWays sCommentWays sOut)) (fun H locs ls hP hD hS hl => g_runV F (As := [.ref (z.1 9)]) (n := 1) mw_401 rfl rfl ⟨by decide, by decide⟩ rfl (by exact Nat.le_of_ble_eq_true rfl) mw_609 mw_399 mw_400 mw_74 (by decide +kernel) d_TagWays_attribute_78 hP hD hS hl (va_recv F.2.2.2.2.2.1 hP (ci := 1) rfl (q0 := 1) rfl) (c_Source_then l D cA z ad sMt x7.1 x7.2 sReferenceWays sTagWays sCommentWays sOut 9 rfl H.size)) ?_
            cases hf
            exact g_aret F hr (Or.inl ⟨_, rfl⟩) hlk rfl rfl rfl d_TagWays_attribute_81
    · rw [if_pos h] at hf
      refine g_aload_n F d_TagWays_attribute_21 0 rfl ?_
      obtain ⟨x8, hx8, hf⟩ := g_bind hf
      refine g_cv F (ws' := (Wc z ad cA sMt x8.1 x8.2 sReferenceWays sTagWays sCommentWays sOut)) (fun H locs ls hP hD hS hl => g_runV F (As := []) (n := 0) mw_683 rfl rfl ⟨by decide, by decide⟩ rfl (by exact Nat.le_of_ble_eq_true rfl) mw_680 mw_682 mw_14 mw_81 (by decide +kernel) d_TagWays_attribute_22 hP hD hS hl (va_recv F.2.2.2.2.2.1 hP (ci := 4) rfl (q0 := 4) rfl) (c_TagWays_leaveAttributeName l D cA z ad sMt sSource sTokens sReferenceWays sTagWays sCommentWays sOut hx8 H.size)) ?_
      refine g_aload_n F d_TagWays_attribute_25 0 rfl ?_
      refine g_getS F (v := .ref (ad 1)) in_X8 4 rfl rfl 0 (by decide) mw_208 mw_209 rfl d_TagWays_attribute_26 ?_
      refine g_way F 11 (by decide) mw_700 d_TagWays_attribute_29 ?_
      refine g_cw F (r0 := z.1 ((f_Source_then 11 x8.1).1)) (ws' := (Wc z ad cA sMt ((f_Source_then 11 x8.1).2) x8.2 sReferenceWays sTagWays sCommentWays sOut)) (fun H locs ls hP hD hS hl => g_runV F (As := [.ref (z.1 11)]) (n := 1) mw_401 rfl rfl ⟨by decide, by decide⟩ rfl (by exact Nat.le_of_ble_eq_true rfl) mw_609 mw_399 mw_400 mw_74 (by decide +kernel) d_TagWays_attribute_32 hP hD hS hl (va_recv F.2.2.2.2.2.1 hP (ci := 1) rfl (q0 := 1) rfl) (c_Source_then l D cA z ad sMt x8.1 x8.2 sReferenceWays sTagWays sCommentWays sOut 11 rfl H.size)) ?_
      cases hf
      exact g_aret F hr (Or.inl ⟨_, rfl⟩) hlk rfl rfl rfl d_TagWays_attribute_35
  · rw [if_neg h] at hf
    refine g_aload_n F d_TagWays_attribute_7 0 rfl ?_
    obtain ⟨x9, hx9, hf⟩ := g_bind hf
    refine g_cv F (ws' := (Wc z ad cA sMt x9.1 x9.2 sReferenceWays sTagWays sCommentWays sOut)) (fun H locs ls hP hD hS hl => g_runV F (As := []) (n := 0) mw_683 rfl rfl ⟨by decide, by decide⟩ rfl (by exact Nat.le_of_ble_eq_true rfl) mw_680 mw_682 mw_14 mw_81 (by decide +kernel) d_TagWays_attribute_8 hP hD hS hl (va_recv F.2.2.2.2.2.1 hP (ci := 4) rfl (q0 := 4) rfl) (c_TagWays_leaveAttributeName l D cA z ad sMt sSource sTokens sReferenceWays sTagWays sCommentWays sOut hx9 H.size)) ?_
    refine g_way F 10 (by decide) mw_666 d_TagWays_attribute_11 ?_
    cases hf
    exact g_aret F hr (Or.inl ⟨_, rfl⟩) hlk rfl rfl rfl d_TagWays_attribute_14
set_option maxHeartbeats 4000000 in
set_option maxRecDepth 100000 in
theorem c_TagWays_after (l : Launch) (D : va_G) (cA : Nat → ClassId) (z : gZ) (ad : Nat → Nat) (sMt : SMt) (sSource : SSource) (sTokens : STokens) (sReferenceWays : SReferenceWays) (sTagWays : STagWays) (sCommentWays : SCommentWays) (sOut : SOut) (a1 : Int32) {x : Nat × SSource × STokens} (hf : f_TagWays_after a1 sSource sTokens = some x) (sz : Nat) : Met l y_TagWays_after (.code y_TagWays_after b_TagWays_after 2 (some (.object "MarkupTokens$Way")) :: lw_g) { frames := 3, cells := 0, slots := 0, locals := 62 } (gP D (gT cA) z [.ref (ad 4), .int a1] (Wc z ad cA sMt sSource sTokens sReferenceWays sTagWays sCommentWays sOut) sz) (gQq D (gT cA) (va_A (Wc z ad cA sMt sSource sTokens sReferenceWays sTagWays sCommentWays sOut) sz) (some (z.1 x.1)) (Wc z ad cA sMt x.2.1 x.2.2 sReferenceWays sTagWays sCommentWays sOut)) 0 0 (va_A (Wc z ad cA sMt sSource sTokens sReferenceWays sTagWays sCommentWays sOut) sz) := by
  refine g_met (by decide) (Nat.le_of_ble_eq_true rfl) rfl ?_
  intro p e s m args below meth c F hr hlk
  unfold f_TagWays_after at hf
  refine g_iload_n F d_TagWays_after_0 1 rfl ?_
  refine g_ci F (r0 := (f_Mt_isBlank a1)) (ws' := (Wc z ad cA sMt sSource sTokens sReferenceWays sTagWays sCommentWays sOut)) (fun H locs ls hP hD hS hl => g_runSN F (As := [.int a1]) (n := 1) mw_585 rfl rfl ⟨by decide, by decide⟩ rfl (by exact Nat.le_of_ble_eq_true rfl) (F.2.2.2.2.2.2.2.2.1 (RX8, 19, y_Mt_isBlank) (by decide +kernel)) mw_584 mw_73 (by decide +kernel) d_TagWays_after_1 hP hD hS hl (c_Mt_isBlank l D cA z ad sMt sSource sTokens sReferenceWays sTagWays sCommentWays sOut a1 rfl H.size)) ?_
  refine g_if_eq F (tgt := 18) d_TagWays_after_4 (by decide) (fun h => ?_) (fun h => ?_)
  · rw [if_pos h] at hf
    refine g_iload_n F d_TagWays_after_18 1 rfl ?_
    refine g_ci F (r0 := (f_TagWays_endsName a1)) (ws' := (Wc z ad cA sMt sSource sTokens sReferenceWays sTagWays sCommentWays sOut)) (fun H locs ls hP hD hS hl => g_runS F (As := [.int a1]) (n := 1) mw_597 rfl rfl ⟨by decide, by decide⟩ rfl (by exact Nat.le_of_ble_eq_true rfl) mw_595 mw_596 mw_81 (by decide +kernel) d_TagWays_after_19 hP hD hS hl (c_TagWays_endsName l D cA z ad sMt sSource sTokens sReferenceWays sTagWays sCommentWays sOut a1 rfl H.size)) ?_
    refine g_if_eq F (tgt := 31) d_TagWays_after_22 (by decide) (fun h => ?_) (fun h => ?_)
    · rw [if_pos h] at hf
      refine g_iload_n F d_TagWays_after_31 1 rfl ?_
      refine g_bipush F (v := 61) d_TagWays_after_32 (by decide) ?_
      refine g_icmp_ne F (tgt := 48) d_TagWays_after_34 (by decide) (fun h => ?_) (fun h => ?_)
      · rw [if_neg h] at hf
        refine g_aload_n F d_TagWays_after_48 0 rfl ?_
        refine g_getS F (v := .ref (ad 2)) in_X8 4 rfl rfl 1 (by decide) mw_217 mw_218 rfl d_TagWays_after_49 ?_
        obtain ⟨x1, hx1, hf⟩ := g_bind hf
        refine g_cv F (ws' := (Wc z ad cA sMt sSource x1 sReferenceWays sTagWays sCommentWays sOut)) (fun H locs ls hP hD hS hl => g_runV F (As := []) (n := 0) mw_671 rfl rfl ⟨by decide, by decide⟩ rfl (by exact Nat.le_of_ble_eq_true rfl) mw_668 mw_669 mw_670 mw_75 (by decide +kernel) d_TagWays_after_52 hP hD hS hl (va_recv F.2.2.2.2.2.1 hP (ci := 2) rfl (q0 := 2) rfl) (c_Tokens_beginAttribute l D cA z ad sMt sSource sTokens sReferenceWays sTagWays sCommentWays sOut hx1 H.size)) ?_
        refine g_way F 9 (by decide) mw_674 d_TagWays_after_55 ?_
        cases hf
        exact g_aret F hr (Or.inl ⟨_, rfl⟩) hlk rfl rfl rfl d_TagWays_after_58
      · rw [if_pos h] at hf
        refine g_aload_n F d_TagWays_after_37 0 rfl ?_
        refine g_getS F (v := .ref (ad 1)) in_X8 4 rfl rfl 0 (by decide) mw_208 mw_209 rfl d_TagWays_after_38 ?_
        refine g_way F 11 (by decide) mw_700 d_TagWays_after_41 ?_
        refine g_cw F (r0 := z.1 ((f_Source_then 11 sSource).1)) (ws' := (Wc z ad cA sMt ((f_Source_then 11 sSource).2) sTokens sReferenceWays sTagWays sCommentWays sOut)) (fun H locs ls hP hD hS hl => g_runV F (As := [.ref (z.1 11)]) (n := 1) mw_401 rfl rfl ⟨by decide, by decide⟩ rfl (by exact Nat.le_of_ble_eq_true rfl) mw_609 mw_399 mw_400 mw_74 (by decide +kernel) d_TagWays_after_44 hP hD hS hl (va_recv F.2.2.2.2.2.1 hP (ci := 1) rfl (q0 := 1) rfl) (c_Source_then l D cA z ad sMt sSource sTokens sReferenceWays sTagWays sCommentWays sOut 11 rfl H.size)) ?_
        cases hf
        exact g_aret F hr (Or.inl ⟨_, rfl⟩) hlk rfl rfl rfl d_TagWays_after_47
    · rw [if_neg h] at hf
      refine g_aload_n F d_TagWays_after_25 0 rfl ?_
      refine g_iload_n F d_TagWays_after_26 1 rfl ?_
      obtain ⟨x2, hx2, hf⟩ := g_bind hf
      refine g_cw F (r0 := z.1 x2.1) (ws' := (Wc z ad cA sMt x2.2.1 x2.2.2 sReferenceWays sTagWays sCommentWays sOut)) (fun H locs ls hP hD hS hl => g_runV F (As := [.int a1]) (n := 1) mw_606 rfl rfl ⟨by decide, by decide⟩ rfl (by exact Nat.le_of_ble_eq_true rfl) mw_603 mw_605 mw_11 mw_81 (by decide +kernel) d_TagWays_after_27 hP hD hS hl (va_recv F.2.2.2.2.2.1 hP (ci := 4) rfl (q0 := 4) rfl) (c_TagWays_leave l D cA z ad sMt sSource sTokens sReferenceWays sTagWays sCommentWays sOut a1 hx2 H.size)) ?_
      cases hf
      exact g_aret F hr (Or.inl ⟨_, rfl⟩) hlk rfl rfl rfl d_TagWays_after_30
  · rw [if_neg h] at hf
    refine g_aload_n F d_TagWays_after_7 0 rfl ?_
    refine g_getS F (v := .ref (ad 1)) in_X8 4 rfl rfl 0 (by decide) mw_208 mw_209 rfl d_TagWays_after_8 ?_
    refine g_way F 10 (by decide) mw_666 d_TagWays_after_11 ?_
    refine g_cw F (r0 := z.1 ((f_Source_then 10 sSource).1)) (ws' := (Wc z ad cA sMt ((f_Source_then 10 sSource).2) sTokens sReferenceWays sTagWays sCommentWays sOut)) (fun H locs ls hP hD hS hl => g_runV F (As := [.ref (z.1 10)]) (n := 1) mw_401 rfl rfl ⟨by decide, by decide⟩ rfl (by exact Nat.le_of_ble_eq_true rfl) mw_609 mw_399 mw_400 mw_74 (by decide +kernel) d_TagWays_after_14 hP hD hS hl (va_recv F.2.2.2.2.2.1 hP (ci := 1) rfl (q0 := 1) rfl) (c_Source_then l D cA z ad sMt sSource sTokens sReferenceWays sTagWays sCommentWays sOut 10 rfl H.size)) ?_
    cases hf
    exact g_aret F hr (Or.inl ⟨_, rfl⟩) hlk rfl rfl rfl d_TagWays_after_17
set_option maxHeartbeats 4000000 in
set_option maxRecDepth 100000 in
theorem c_TagWays_value (l : Launch) (D : va_G) (cA : Nat → ClassId) (z : gZ) (ad : Nat → Nat) (sMt : SMt) (sSource : SSource) (sTokens : STokens) (sReferenceWays : SReferenceWays) (sTagWays : STagWays) (sCommentWays : SCommentWays) (sOut : SOut) (a1 : Int32) {x : Nat × SSource × STagWays × STokens} (hf : f_TagWays_value a1 sSource sTagWays sTokens = some x) (sz : Nat) : Met l y_TagWays_value (.code y_TagWays_value b_TagWays_value 2 (some (.object "MarkupTokens$Way")) :: lw_g) { frames := 2, cells := 0, slots := 0, locals := 41 } (gP D (gT cA) z [.ref (ad 4), .int a1] (Wc z ad cA sMt sSource sTokens sReferenceWays sTagWays sCommentWays sOut) sz) (gQq D (gT cA) (va_A (Wc z ad cA sMt sSource sTokens sReferenceWays sTagWays sCommentWays sOut) sz) (some (z.1 x.1)) (Wc z ad cA sMt x.2.1 x.2.2.2 sReferenceWays x.2.2.1 sCommentWays sOut)) 0 0 (va_A (Wc z ad cA sMt sSource sTokens sReferenceWays sTagWays sCommentWays sOut) sz) := by
  refine g_met (by decide) (Nat.le_of_ble_eq_true rfl) rfl ?_
  intro p e s m args below meth c F hr hlk
  unfold f_TagWays_value at hf
  refine g_iload_n F d_TagWays_value_0 1 rfl ?_
  refine g_ci F (r0 := (f_Mt_isBlank a1)) (ws' := (Wc z ad cA sMt sSource sTokens sReferenceWays sTagWays sCommentWays sOut)) (fun H locs ls hP hD hS hl => g_runSN F (As := [.int a1]) (n := 1) mw_585 rfl rfl ⟨by decide, by decide⟩ rfl (by exact Nat.le_of_ble_eq_true rfl) (F.2.2.2.2.2.2.2.2.1 (RX8, 19, y_Mt_isBlank) (by decide +kernel)) mw_584 mw_73 (by decide +kernel) d_TagWays_value_1 hP hD hS hl (c_Mt_isBlank l D cA z ad sMt sSource sTokens sReferenceWays sTagWays sCommentWays sOut a1 rfl H.size)) ?_
  refine g_if_eq F (tgt := 18) d_TagWays_value_4 (by decide) (fun h => ?_) (fun h => ?_)
  · rw [if_pos h] at hf
    refine g_iload_n F d_TagWays_value_18 1 rfl ?_
    by_cases q1 : a1 = 34 ∨ a1 = 39
    · rw [if_pos q1] at hf
      refine g_lookup F (off := 33) (tgt := 52) d_TagWays_value_19 (by decide) (by rcases q1 with q1 | q1 <;> (rw [q1]; decide)) (by decide) ?_
      refine g_aload_n F d_TagWays_value_52 0 rfl ?_
      refine g_iload_n F d_TagWays_value_53 1 rfl ?_
      refine g_put F in_X8 4 rfl rfl 3 (by decide) tyX8 tyX8_ok nmX8 mw_235 rfl rfl rfl (Nat.le_of_ble_eq_true rfl) (ws' := (Wc z ad cA sMt sSource sTokens sReferenceWays a1 sCommentWays sOut)) rfl d_TagWays_value_54 ?_
      refine g_aload_n F d_TagWays_value_57 0 rfl ?_
      refine g_getS F (v := .ref (ad 1)) in_X8 4 rfl rfl 0 (by decide) mw_208 mw_209 rfl d_TagWays_value_58 ?_
      refine g_way F 12 (by decide) mw_710 d_TagWays_value_61 ?_
      refine g_cw F (r0 := z.1 ((f_Source_then 12 sSource).1)) (ws' := (Wc z ad cA sMt ((f_Source_then 12 sSource).2) sTokens sReferenceWays a1 sCommentWays sOut)) (fun H locs ls hP hD hS hl => g_runV F (As := [.ref (z.1 12)]) (n := 1) mw_401 rfl rfl ⟨by decide, by decide⟩ rfl (by exact Nat.le_of_ble_eq_true rfl) mw_609 mw_399 mw_400 mw_74 (by decide +kernel) d_TagWays_value_64 hP hD hS hl (va_recv F.2.2.2.2.2.1 hP (ci := 1) rfl (q0 := 1) rfl) (c_Source_then l D cA z ad sMt sSource sTokens sReferenceWays a1 sCommentWays sOut 12 rfl H.size)) ?_
      cases hf
      exact g_aret F hr (Or.inl ⟨_, rfl⟩) hlk rfl rfl rfl d_TagWays_value_67
    rw [if_neg q1] at hf
    by_cases q2 : a1 = 62
    · rw [if_pos q2] at hf
      refine g_lookup F (off := 49) (tgt := 68) d_TagWays_value_19 (by decide) (by rw [q2]; decide) (by decide) ?_
      refine g_aload_n F d_TagWays_value_68 0 rfl ?_
      refine g_getS F (v := .ref (ad 1)) in_X8 4 rfl rfl 0 (by decide) mw_208 mw_209 rfl d_TagWays_value_69 ?_
      refine g_bipush F (v := 10) d_TagWays_value_72 (by decide) ?_
      obtain ⟨x1, hx1, hf⟩ := g_bind hf
      refine g_cv F (ws' := (Wc z ad cA sMt x1 sTokens sReferenceWays sTagWays sCommentWays sOut)) (fun H locs ls hP hD hS hl => g_runV F (As := [.int 10]) (n := 1) mw_408 rfl rfl ⟨by decide, by decide⟩ rfl (by exact Nat.le_of_ble_eq_true rfl) mw_626 mw_406 mw_407 mw_74 (by decide +kernel) d_TagWays_value_74 hP hD hS hl (va_recv F.2.2.2.2.2.1 hP (ci := 1) rfl (q0 := 1) rfl) (c_Source_wrong l D cA z ad sMt sSource sTokens sReferenceWays sTagWays sCommentWays sOut 10 hx1 H.size)) ?_
      refine g_aload_n F d_TagWays_value_77 0 rfl ?_
      obtain ⟨x2, hx2, hf⟩ := g_bind hf
      refine g_cw F (r0 := z.1 x2.1) (ws' := (Wc z ad cA sMt x2.2.1 x2.2.2 sReferenceWays sTagWays sCommentWays sOut)) (fun H locs ls hP hD hS hl => g_runV F (As := []) (n := 0) mw_613 rfl rfl ⟨by decide, by decide⟩ rfl (by exact Nat.le_of_ble_eq_true rfl) mw_610 mw_612 mw_12 mw_81 (by decide +kernel) d_TagWays_value_78 hP hD hS hl (va_recv F.2.2.2.2.2.1 hP (ci := 4) rfl (q0 := 4) rfl) (c_TagWays_tagDone l D cA z ad sMt x1 sTokens sReferenceWays sTagWays sCommentWays sOut hx2 H.size)) ?_
      cases hf
      exact g_aret F hr (Or.inl ⟨_, rfl⟩) hlk rfl rfl rfl d_TagWays_value_81
    rw [if_neg q2] at hf
    refine g_lookup F (off := 63) (tgt := 82) d_TagWays_value_19 (by decide) (show Op.lookupswitch.offset ([(34, 33), (39, 33), (62, 49)] : List (Int × Int)) 63 (a1 : Int32).toInt = 63 by rw [lv_osw (k := 34) (fun e => q1 (Or.inl e)) (by decide), lv_osw (k := 39) (fun e => q1 (Or.inr e)) (by decide), lv_osw (k := 62) q2 (by decide)]; rfl) (by decide) ?_
    refine g_way F 13 (by decide) mw_712 d_TagWays_value_82 ?_
    cases hf
    exact g_aret F hr (Or.inl ⟨_, rfl⟩) hlk rfl rfl rfl d_TagWays_value_85
  · rw [if_neg h] at hf
    refine g_aload_n F d_TagWays_value_7 0 rfl ?_
    refine g_getS F (v := .ref (ad 1)) in_X8 4 rfl rfl 0 (by decide) mw_208 mw_209 rfl d_TagWays_value_8 ?_
    refine g_way F 11 (by decide) mw_700 d_TagWays_value_11 ?_
    refine g_cw F (r0 := z.1 ((f_Source_then 11 sSource).1)) (ws' := (Wc z ad cA sMt ((f_Source_then 11 sSource).2) sTokens sReferenceWays sTagWays sCommentWays sOut)) (fun H locs ls hP hD hS hl => g_runV F (As := [.ref (z.1 11)]) (n := 1) mw_401 rfl rfl ⟨by decide, by decide⟩ rfl (by exact Nat.le_of_ble_eq_true rfl) mw_609 mw_399 mw_400 mw_74 (by decide +kernel) d_TagWays_value_14 hP hD hS hl (va_recv F.2.2.2.2.2.1 hP (ci := 1) rfl (q0 := 1) rfl) (c_Source_then l D cA z ad sMt sSource sTokens sReferenceWays sTagWays sCommentWays sOut 11 rfl H.size)) ?_
    cases hf
    exact g_aret F hr (Or.inl ⟨_, rfl⟩) hlk rfl rfl rfl d_TagWays_value_17
