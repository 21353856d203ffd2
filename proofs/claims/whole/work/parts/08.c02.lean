set_option maxHeartbeats 4000000 in
set_option maxRecDepth 100000 in
theorem c_Tokens_add (l : Launch) (D : va_G) (cA : Nat → ClassId) (z : gZ) (ad : Nat → Nat) (sMt : SMt) (sSource : SSource) (sTokens : STokens) (sReferenceWays : SReferenceWays) (sTagWays : STagWays) (sCommentWays : SCommentWays) (sOut : SOut) (a1 : Int32) {x : STokens} (hf : f_Tokens_add a1 sTokens = some x) (sz : Nat) : Met l y_Tokens_add (.code y_Tokens_add b_Tokens_add 2 none :: lw_g) { frames := 0, cells := 0, slots := 0, locals := 0 } (gP D (gT cA) z [.ref (ad 2), .int a1] (Wc z ad cA sMt sSource sTokens sReferenceWays sTagWays sCommentWays sOut) sz) (gQv D (gT cA) (va_A (Wc z ad cA sMt sSource sTokens sReferenceWays sTagWays sCommentWays sOut) sz) (Wc z ad cA sMt sSource x sReferenceWays sTagWays sCommentWays sOut)) 0 0 (va_A (Wc z ad cA sMt sSource sTokens sReferenceWays sTagWays sCommentWays sOut) sz) := by
  refine g_met (by decide) (Nat.le_of_ble_eq_true rfl) rfl ?_
  intro p e s m args below meth c F hr hlk
  unfold f_Tokens_add at hf
  refine g_aload_n F d_Tokens_add_0 0 rfl ?_
  refine g_get F (v := .int (q_Tokens_used sTokens)) in_X9 2 rfl rfl 1 (by decide) mw_136 rfl d_Tokens_add_1 ?_
  refine g_sipush F (v := 400) d_Tokens_add_4 (by decide) ?_
  refine g_icmp_ge F (tgt := 30) d_Tokens_add_7 (by decide) (fun h => ?_) (fun h => ?_)
  · rw [if_pos h] at hf
    cases hf
    exact g_vret F hr hlk rfl rfl d_Tokens_add_30
  · rw [if_neg h] at hf
    refine g_aload_n F d_Tokens_add_10 0 rfl ?_
    refine g_get F (v := .ref (ad 13)) in_X9 2 rfl rfl 0 (by decide) mw_135 rfl d_Tokens_add_11 ?_
    refine g_aload_n F d_Tokens_add_14 0 rfl ?_
    refine g_get F (v := .int (q_Tokens_used sTokens)) in_X9 2 rfl rfl 1 (by decide) mw_136 rfl d_Tokens_add_15 ?_
    refine g_iload_n F d_Tokens_add_18 1 rfl ?_
    obtain ⟨k1, hf⟩ := g_chk hf
    refine g_iast F (f := (q_Tokens_row sTokens)) 13 0 rfl rfl k1 (ws' := (Wc z ad cA sMt sSource (u_Tokens_row sTokens (upd (q_Tokens_row sTokens) ((q_Tokens_used sTokens) : Int32).toNatClampNeg a1)) sReferenceWays sTagWays sCommentWays sOut)) rfl d_Tokens_add_19 ?_
    refine g_aload_n F d_Tokens_add_20 0 rfl ?_
    refine g_dup F d_Tokens_add_21 rfl ?_
    refine g_get F (v := .int (q_Tokens_used sTokens)) in_X9 2 rfl rfl 1 (by decide) mw_136 rfl d_Tokens_add_22 ?_
    refine g_iconst F (v := 1) d_Tokens_add_25 (by decide) ?_
    refine g_iadd F d_Tokens_add_26 ?_
    refine g_put F in_X9 2 rfl rfl 1 (by decide) tyX9 tyX9_ok nmX9 mw_136 rfl rfl rfl (Nat.le_of_ble_eq_true rfl) (ws' := (Wc z ad cA sMt sSource (u_Tokens_used (u_Tokens_row sTokens (upd (q_Tokens_row sTokens) ((q_Tokens_used sTokens) : Int32).toNatClampNeg a1)) ((q_Tokens_used sTokens) + 1)) sReferenceWays sTagWays sCommentWays sOut)) rfl d_Tokens_add_27 ?_
    cases hf
    exact g_vret F hr hlk rfl rfl d_Tokens_add_30
set_option maxHeartbeats 4000000 in
set_option maxRecDepth 100000 in
theorem c_Reader_addToText (l : Launch) (D : va_G) (cA : Nat → ClassId) (z : gZ) (ad : Nat → Nat) (sMt : SMt) (sSource : SSource) (sTokens : STokens) (sReferenceWays : SReferenceWays) (sTagWays : STagWays) (sCommentWays : SCommentWays) (sOut : SOut) (a1 : Int32) {x : STokens} (hf : f_Reader_addToText a1 sTokens = some x) (sz : Nat) : Met l y_Reader_addToText (.code y_Reader_addToText b_Reader_addToText 2 none :: lw_g) { frames := 2, cells := 0, slots := 0, locals := 41 } (gP D (gT cA) z [.ref (ad 7), .int a1] (Wc z ad cA sMt sSource sTokens sReferenceWays sTagWays sCommentWays sOut) sz) (gQv D (gT cA) (va_A (Wc z ad cA sMt sSource sTokens sReferenceWays sTagWays sCommentWays sOut) sz) (Wc z ad cA sMt sSource x sReferenceWays sTagWays sCommentWays sOut)) 0 0 (va_A (Wc z ad cA sMt sSource sTokens sReferenceWays sTagWays sCommentWays sOut) sz) := by
  refine g_met (by decide) (Nat.le_of_ble_eq_true rfl) rfl ?_
  intro p e s m args below meth c F hr hlk
  unfold f_Reader_addToText at hf
  refine g_aload_n F d_Reader_addToText_0 0 rfl ?_
  refine g_getS F (v := .ref (ad 2)) in_X5 7 rfl rfl 1 (by decide) mw_213 mw_214 rfl d_Reader_addToText_1 ?_
  obtain ⟨x1, hx1, hf⟩ := g_bind hf
  refine g_cv F (ws' := (Wc z ad cA sMt sSource x1 sReferenceWays sTagWays sCommentWays sOut)) (fun H locs ls hP hD hS hl => g_runV F (As := []) (n := 0) mw_387 rfl rfl ⟨by decide, by decide⟩ rfl (by exact Nat.le_of_ble_eq_true rfl) mw_384 mw_385 mw_386 mw_75 (by decide +kernel) d_Reader_addToText_4 hP hD hS hl (va_recv F.2.2.2.2.2.1 hP (ci := 2) rfl (q0 := 2) rfl) (c_Tokens_beginText l D cA z ad sMt sSource sTokens sReferenceWays sTagWays sCommentWays sOut hx1 H.size)) ?_
  refine g_aload_n F d_Reader_addToText_7 0 rfl ?_
  refine g_getS F (v := .ref (ad 2)) in_X5 7 rfl rfl 1 (by decide) mw_213 mw_214 rfl d_Reader_addToText_8 ?_
  refine g_iload_n F d_Reader_addToText_11 1 rfl ?_
  obtain ⟨x2, hx2, hf⟩ := g_bind hf
  refine g_cv F (ws' := (Wc z ad cA sMt sSource x2 sReferenceWays sTagWays sCommentWays sOut)) (fun H locs ls hP hD hS hl => g_runV F (As := [.int a1]) (n := 1) mw_416 rfl rfl ⟨by decide, by decide⟩ rfl (by exact Nat.le_of_ble_eq_true rfl) mw_413 mw_414 mw_415 mw_75 (by decide +kernel) d_Reader_addToText_12 hP hD hS hl (va_recv F.2.2.2.2.2.1 hP (ci := 2) rfl (q0 := 2) rfl) (c_Tokens_add l D cA z ad sMt sSource x1 sReferenceWays sTagWays sCommentWays sOut a1 hx2 H.size)) ?_
  cases hf
  exact g_vret F hr hlk rfl rfl d_Reader_addToText_15
set_option maxHeartbeats 4000000 in
set_option maxRecDepth 100000 in
theorem c_Reader_data (l : Launch) (D : va_G) (cA : Nat → ClassId) (z : gZ) (ad : Nat → Nat) (sMt : SMt) (sSource : SSource) (sTokens : STokens) (sReferenceWays : SReferenceWays) (sTagWays : STagWays) (sCommentWays : SCommentWays) (sOut : SOut) (a1 : Int32) {x : Nat × SReferenceWays × SSource × STokens} (hf : f_Reader_data a1 sReferenceWays sSource sTokens = some x) (sz : Nat) : Met l y_Reader_data (.code y_Reader_data b_Reader_data 2 (some (.object "MarkupTokens$Way")) :: lw_g) { frames := 3, cells := 0, slots := 0, locals := 62 } (gP D (gT cA) z [.ref (ad 7), .int a1] (Wc z ad cA sMt sSource sTokens sReferenceWays sTagWays sCommentWays sOut) sz) (gQq D (gT cA) (va_A (Wc z ad cA sMt sSource sTokens sReferenceWays sTagWays sCommentWays sOut) sz) (some (z.1 x.1)) (Wc z ad cA sMt x.2.2.1 x.2.2.2 x.2.1 sTagWays sCommentWays sOut)) 0 0 (va_A (Wc z ad cA sMt sSource sTokens sReferenceWays sTagWays sCommentWays sOut) sz) := by
  refine g_met (by decide) (Nat.le_of_ble_eq_true rfl) rfl ?_
  intro p e s m args below meth c F hr hlk
  unfold f_Reader_data at hf
  refine g_iload_n F d_Reader_data_0 1 rfl ?_
  by_cases q1 : a1 = (-1)
  · rw [if_pos q1] at hf
    refine g_lookup F (off := 72) (tgt := 73) d_Reader_data_1 (by decide) (by rw [q1]; decide) (by decide) ?_
    refine g_way F 29 (by decide) mw_358 d_Reader_data_73 ?_
    cases hf
    exact g_aret F hr (Or.inl ⟨_, rfl⟩) hlk rfl rfl rfl d_Reader_data_76
  rw [if_neg q1] at hf
  by_cases q2 : a1 = 0
  · rw [if_pos q2] at hf
    refine g_lookup F (off := 76) (tgt := 77) d_Reader_data_1 (by decide) (by rw [q2]; decide) (by decide) ?_
    refine g_aload_n F d_Reader_data_77 0 rfl ?_
    refine g_getS F (v := .ref (ad 1)) in_X5 7 rfl rfl 0 (by decide) mw_206 mw_207 rfl d_Reader_data_78 ?_
    refine g_iconst F (v := 1) d_Reader_data_81 (by decide) ?_
    obtain ⟨x1, hx1, hf⟩ := g_bind hf
    refine g_cv F (ws' := (Wc z ad cA sMt x1 sTokens sReferenceWays sTagWays sCommentWays sOut)) (fun H locs ls hP hD hS hl => g_runV F (As := [.int 1]) (n := 1) mw_408 rfl rfl ⟨by decide, by decide⟩ rfl (by exact Nat.le_of_ble_eq_true rfl) mw_405 mw_406 mw_407 mw_74 (by decide +kernel) d_Reader_data_82 hP hD hS hl (va_recv F.2.2.2.2.2.1 hP (ci := 1) rfl (q0 := 1) rfl) (c_Source_wrong l D cA z ad sMt sSource sTokens sReferenceWays sTagWays sCommentWays sOut 1 hx1 H.size)) ?_
    refine g_goto F (tgt := 88) d_Reader_data_85 (by decide) ?_
    refine g_aload_n F d_Reader_data_88 0 rfl ?_
    refine g_iload_n F d_Reader_data_89 1 rfl ?_
    obtain ⟨x2, hx2, hf⟩ := g_bind hf
    refine g_cv F (ws' := (Wc z ad cA sMt x1 x2 sReferenceWays sTagWays sCommentWays sOut)) (fun H locs ls hP hD hS hl => g_runV F (As := [.int a1]) (n := 1) mw_412 rfl rfl ⟨by decide, by decide⟩ rfl (by exact Nat.le_of_ble_eq_true rfl) mw_409 mw_411 mw_3 mw_77 (by decide +kernel) d_Reader_data_90 hP hD hS hl (va_recv F.2.2.2.2.2.1 hP (ci := 7) rfl (q0 := 7) rfl) (c_Reader_addToText l D cA z ad sMt x1 sTokens sReferenceWays sTagWays sCommentWays sOut a1 hx2 H.size)) ?_
    refine g_aload_n F d_Reader_data_93 0 rfl ?_
    refine g_getS F (v := .ref (ad 1)) in_X5 7 rfl rfl 0 (by decide) mw_206 mw_207 rfl d_Reader_data_94 ?_
    refine g_way F 0 (by decide) mw_356 d_Reader_data_97 ?_
    refine g_cw F (r0 := z.1 ((f_Source_then 0 x1).1)) (ws' := (Wc z ad cA sMt ((f_Source_then 0 x1).2) x2 sReferenceWays sTagWays sCommentWays sOut)) (fun H locs ls hP hD hS hl => g_runV F (As := [.ref (z.1 0)]) (n := 1) mw_401 rfl rfl ⟨by decide, by decide⟩ rfl (by exact Nat.le_of_ble_eq_true rfl) mw_404 mw_399 mw_400 mw_74 (by decide +kernel) d_Reader_data_100 hP hD hS hl (va_recv F.2.2.2.2.2.1 hP (ci := 1) rfl (q0 := 1) rfl) (c_Source_then l D cA z ad sMt x1 x2 sReferenceWays sTagWays sCommentWays sOut 0 rfl H.size)) ?_
    cases hf
    exact g_aret F hr (Or.inl ⟨_, rfl⟩) hlk rfl rfl rfl d_Reader_data_103
  rw [if_neg q2] at hf
  by_cases q3 : a1 = 38
  · rw [if_pos q3] at hf
    refine g_lookup F (off := 43) (tgt := 44) d_Reader_data_1 (by decide) (by rw [q3]; decide) (by decide) ?_
    refine g_aload_n F d_Reader_data_44 0 rfl ?_
    refine g_getS F (v := .ref (ad 2)) in_X5 7 rfl rfl 1 (by decide) mw_213 mw_214 rfl d_Reader_data_45 ?_
    obtain ⟨x3, hx3, hf⟩ := g_bind hf
    refine g_cv F (ws' := (Wc z ad cA sMt sSource x3 sReferenceWays sTagWays sCommentWays sOut)) (fun H locs ls hP hD hS hl => g_runV F (As := []) (n := 0) mw_387 rfl rfl ⟨by decide, by decide⟩ rfl (by exact Nat.le_of_ble_eq_true rfl) mw_384 mw_385 mw_386 mw_75 (by decide +kernel) d_Reader_data_48 hP hD hS hl (va_recv F.2.2.2.2.2.1 hP (ci := 2) rfl (q0 := 2) rfl) (c_Tokens_beginText l D cA z ad sMt sSource sTokens sReferenceWays sTagWays sCommentWays sOut hx3 H.size)) ?_
    refine g_aload_n F d_Reader_data_51 0 rfl ?_
    refine g_get F (v := .ref (ad 3)) in_X5 7 rfl rfl 2 (by decide) mw_264 rfl d_Reader_data_52 ?_
    refine g_way F 0 (by decide) mw_356 d_Reader_data_55 ?_
    refine g_cw F (r0 := z.1 ((f_ReferenceWays_open 0 sReferenceWays sSource).1)) (ws' := (Wc z ad cA sMt ((f_ReferenceWays_open 0 sReferenceWays sSource).2.2) x3 ((f_ReferenceWays_open 0 sReferenceWays sSource).2.1) sTagWays sCommentWays sOut)) (fun H locs ls hP hD hS hl => g_runV F (As := [.ref (z.1 0)]) (n := 1) mw_395 rfl rfl ⟨by decide, by decide⟩ rfl (by exact Nat.le_of_ble_eq_true rfl) mw_392 mw_393 mw_394 mw_78 (by decide +kernel) d_Reader_data_58 hP hD hS hl (va_recv F.2.2.2.2.2.1 hP (ci := 3) rfl (q0 := 3) rfl) (c_ReferenceWays_open l D cA z ad sMt sSource x3 sReferenceWays sTagWays sCommentWays sOut 0 rfl H.size)) ?_
    cases hf
    exact g_aret F hr (Or.inl ⟨_, rfl⟩) hlk rfl rfl rfl d_Reader_data_61
  rw [if_neg q3] at hf
  by_cases q4 : a1 = 60
  · rw [if_pos q4] at hf
    refine g_lookup F (off := 61) (tgt := 62) d_Reader_data_1 (by decide) (by rw [q4]; decide) (by decide) ?_
    refine g_aload_n F d_Reader_data_62 0 rfl ?_
    refine g_getS F (v := .ref (ad 1)) in_X5 7 rfl rfl 0 (by decide) mw_206 mw_207 rfl d_Reader_data_63 ?_
    refine g_way F 1 (by decide) mw_402 d_Reader_data_66 ?_
    refine g_cw F (r0 := z.1 ((f_Source_then 1 sSource).1)) (ws' := (Wc z ad cA sMt ((f_Source_then 1 sSource).2) sTokens sReferenceWays sTagWays sCommentWays sOut)) (fun H locs ls hP hD hS hl => g_runV F (As := [.ref (z.1 1)]) (n := 1) mw_401 rfl rfl ⟨by decide, by decide⟩ rfl (by exact Nat.le_of_ble_eq_true rfl) mw_404 mw_399 mw_400 mw_74 (by decide +kernel) d_Reader_data_69 hP hD hS hl (va_recv F.2.2.2.2.2.1 hP (ci := 1) rfl (q0 := 1) rfl) (c_Source_then l D cA z ad sMt sSource sTokens sReferenceWays sTagWays sCommentWays sOut 1 rfl H.size)) ?_
    cases hf
    exact g_aret F hr (Or.inl ⟨_, rfl⟩) hlk rfl rfl rfl d_Reader_data_72
  rw [if_neg q4] at hf
  refine g_lookup F (off := 87) (tgt := 88) d_Reader_data_1 (by decide) (show Op.lookupswitch.offset ([((-1), 72), (0, 76), (38, 43), (60, 61)] : List (Int × Int)) 87 (a1 : Int32).toInt = 87 by rw [lv_osw (k := (-1)) q1 (by decide), lv_osw (k := 0) q2 (by decide), lv_osw (k := 38) q3 (by decide), lv_osw (k := 60) q4 (by decide)]; rfl) (by decide) ?_
  refine g_aload_n F d_Reader_data_88 0 rfl ?_
  refine g_iload_n F d_Reader_data_89 1 rfl ?_
  obtain ⟨x4, hx4, hf⟩ := g_bind hf
  refine g_cv F (ws' := (Wc z ad cA sMt sSource x4 sReferenceWays sTagWays sCommentWays sOut)) (fun H locs ls hP hD hS hl => g_runV F (As := [.int a1]) (n := 1) mw_412 rfl rfl ⟨by decide, by decide⟩ rfl (by exact Nat.le_of_ble_eq_true rfl) mw_409 mw_411 mw_3 mw_77 (by decide +kernel) d_Reader_data_90 hP hD hS hl (va_recv F.2.2.2.2.2.1 hP (ci := 7) rfl (q0 := 7) rfl) (c_Reader_addToText l D cA z ad sMt sSource sTokens sReferenceWays sTagWays sCommentWays sOut a1 hx4 H.size)) ?_
  refine g_aload_n F d_Reader_data_93 0 rfl ?_
  refine g_getS F (v := .ref (ad 1)) in_X5 7 rfl rfl 0 (by decide) mw_206 mw_207 rfl d_Reader_data_94 ?_
  refine g_way F 0 (by decide) mw_356 d_Reader_data_97 ?_
  refine g_cw F (r0 := z.1 ((f_Source_then 0 sSource).1)) (ws' := (Wc z ad cA sMt ((f_Source_then 0 sSource).2) x4 sReferenceWays sTagWays sCommentWays sOut)) (fun H locs ls hP hD hS hl => g_runV F (As := [.ref (z.1 0)]) (n := 1) mw_401 rfl rfl ⟨by decide, by decide⟩ rfl (by exact Nat.le_of_ble_eq_true rfl) mw_404 mw_399 mw_400 mw_74 (by decide +kernel) d_Reader_data_100 hP hD hS hl (va_recv F.2.2.2.2.2.1 hP (ci := 1) rfl (q0 := 1) rfl) (c_Source_then l D cA z ad sMt sSource x4 sReferenceWays sTagWays sCommentWays sOut 0 rfl H.size)) ?_
  cases hf
  exact g_aret F hr (Or.inl ⟨_, rfl⟩) hlk rfl rfl rfl d_Reader_data_103
set_option maxHeartbeats 4000000 in
set_option maxRecDepth 100000 in
theorem c_Mt_isLetter (l : Launch) (D : va_G) (cA : Nat → ClassId) (z : gZ) (ad : Nat → Nat) (sMt : SMt) (sSource : SSource) (sTokens : STokens) (sReferenceWays : SReferenceWays) (sTagWays : STagWays) (sCommentWays : SCommentWays) (sOut : SOut) (a1 : Int32) {x : Int32} (hf : f_Mt_isLetter a1 = x) (sz : Nat) : Met l y_Mt_isLetter (.code y_Mt_isLetter b_Mt_isLetter 1 (some .boolean) :: lw_g) { frames := 0, cells := 0, slots := 0, locals := 0 } (gP D (gT cA) z [.int a1] (Wc z ad cA sMt sSource sTokens sReferenceWays sTagWays sCommentWays sOut) sz) (gQi D (gT cA) (va_A (Wc z ad cA sMt sSource sTokens sReferenceWays sTagWays sCommentWays sOut) sz) x (Wc z ad cA sMt sSource sTokens sReferenceWays sTagWays sCommentWays sOut)) 0 0 (va_A (Wc z ad cA sMt sSource sTokens sReferenceWays sTagWays sCommentWays sOut) sz) := by
  refine g_met (by decide) (Nat.le_of_ble_eq_true rfl) rfl ?_
  intro p e s m args below meth c F hr hlk
  unfold f_Mt_isLetter at hf
  refine g_iload_n F d_Mt_isLetter_0 0 rfl ?_
  refine g_bipush F (v := 65) d_Mt_isLetter_1 (by decide) ?_
  refine g_icmp_lt F (tgt := 12) d_Mt_isLetter_3 (by decide) (fun h => ?_) (fun h => ?_)
  · rw [if_pos h] at hf
    refine g_iload_n F d_Mt_isLetter_12 0 rfl ?_
    refine g_bipush F (v := 97) d_Mt_isLetter_13 (by decide) ?_
    refine g_icmp_lt F (tgt := 28) d_Mt_isLetter_15 (by decide) (fun h => ?_) (fun h => ?_)
    · rw [if_pos h] at hf
      refine g_iconst F (v := 0) d_Mt_isLetter_28 (by decide) ?_
      subst hf
      exact g_zret F hr rfl hlk rfl rfl rfl d_Mt_isLetter_29
    · rw [if_neg h] at hf
      refine g_iload_n F d_Mt_isLetter_18 0 rfl ?_
      refine g_bipush F (v := 122) d_Mt_isLetter_19 (by decide) ?_
      refine g_icmp_gt F (tgt := 28) d_Mt_isLetter_21 (by decide) (fun h => ?_) (fun h => ?_)
      · rw [if_pos h] at hf
        refine g_iconst F (v := 0) d_Mt_isLetter_28 (by decide) ?_
        subst hf
        exact g_zret F hr rfl hlk rfl rfl rfl d_Mt_isLetter_29
      · rw [if_neg h] at hf
        refine g_iconst F (v := 1) d_Mt_isLetter_24 (by decide) ?_
        refine g_goto F (tgt := 29) d_Mt_isLetter_25 (by decide) ?_
        subst hf
        exact g_zret F hr rfl hlk rfl rfl rfl d_Mt_isLetter_29
  · rw [if_neg h] at hf
    refine g_iload_n F d_Mt_isLetter_6 0 rfl ?_
    refine g_bipush F (v := 90) d_Mt_isLetter_7 (by decide) ?_
    refine g_icmp_le F (tgt := 24) d_Mt_isLetter_9 (by decide) (fun h => ?_) (fun h => ?_)
    · rw [if_pos h] at hf
      refine g_iconst F (v := 1) d_Mt_isLetter_24 (by decide) ?_
      refine g_goto F (tgt := 29) d_Mt_isLetter_25 (by decide) ?_
      subst hf
      exact g_zret F hr rfl hlk rfl rfl rfl d_Mt_isLetter_29
    · rw [if_neg h] at hf
      refine g_iload_n F d_Mt_isLetter_12 0 rfl ?_
      refine g_bipush F (v := 97) d_Mt_isLetter_13 (by decide) ?_
      refine g_icmp_lt F (tgt := 28) d_Mt_isLetter_15 (by decide) (fun h => ?_) (fun h => ?_)
      · rw [if_pos h] at hf
        refine g_iconst F (v := 0) d_Mt_isLetter_28 (by decide) ?_
        subst hf
        exact g_zret F hr rfl hlk rfl rfl rfl d_Mt_isLetter_29
      · rw [if_neg h] at hf
        refine g_iload_n F d_Mt_isLetter_18 0 rfl ?_
        refine g_bipush F (v := 122) d_Mt_isLetter_19 (by decide) ?_
        refine g_icmp_gt F (tgt := 28) d_Mt_isLetter_21 (by decide) (fun h => ?_) (fun h => ?_)
        · rw [if_pos h] at hf
          refine g_iconst F (v := 0) d_Mt_isLetter_28 (by decide) ?_
          subst hf
          exact g_zret F hr rfl hlk rfl rfl rfl d_Mt_isLetter_29
        · rw [if_neg h] at hf
          refine g_iconst F (v := 1) d_Mt_isLetter_24 (by decide) ?_
          refine g_goto F (tgt := 29) d_Mt_isLetter_25 (by decide) ?_
          subst hf
          exact g_zret F hr rfl hlk rfl rfl rfl d_Mt_isLetter_29
set_option maxHeartbeats 4000000 in
set_option maxRecDepth 100000 in
theorem c_Tokens_endText (l : Launch) (D : va_G) (cA : Nat → ClassId) (z : gZ) (ad : Nat → Nat) (sMt : SMt) (sSource : SSource) (sTokens : STokens) (sReferenceWays : SReferenceWays) (sTagWays : STagWays) (sCommentWays : SCommentWays) (sOut : SOut) {x : STokens} (hf : f_Tokens_endText sTokens = some x) (sz : Nat) : Met l y_Tokens_endText (.code y_Tokens_endText b_Tokens_endText 1 none :: lw_g) { frames := 0, cells := 0, slots := 0, locals := 0 } (gP D (gT cA) z [.ref (ad 2)] (Wc z ad cA sMt sSource sTokens sReferenceWays sTagWays sCommentWays sOut) sz) (gQv D (gT cA) (va_A (Wc z ad cA sMt sSource sTokens sReferenceWays sTagWays sCommentWays sOut) sz) (Wc z ad cA sMt sSource x sReferenceWays sTagWays sCommentWays sOut)) 0 0 (va_A (Wc z ad cA sMt sSource sTokens sReferenceWays sTagWays sCommentWays sOut) sz) := by
  refine g_met (by decide) (Nat.le_of_ble_eq_true rfl) rfl ?_
  intro p e s m args below meth c F hr hlk
  unfold f_Tokens_endText at hf
  refine g_aload_n F d_Tokens_endText_0 0 rfl ?_
  refine g_get F (v := .int (q_Tokens_inText sTokens)) in_X9 2 rfl rfl 9 (by decide) mw_144 rfl d_Tokens_endText_1 ?_
  refine g_if_eq F (tgt := 40) d_Tokens_endText_4 (by decide) (fun h => ?_) (fun h => ?_)
  · rw [if_pos h] at hf
    refine g_aload_n F d_Tokens_endText_40 0 rfl ?_
    refine g_iconst F (v := 0) d_Tokens_endText_41 (by decide) ?_
    refine g_put F in_X9 2 rfl rfl 9 (by decide) tyX9 tyX9_ok nmX9 mw_144 rfl rfl rfl (Nat.le_of_ble_eq_true rfl) (ws' := (Wc z ad cA sMt sSource (u_Tokens_inText sTokens 0) sReferenceWays sTagWays sCommentWays sOut)) rfl d_Tokens_endText_42 ?_
    cases hf
    exact g_vret F hr hlk rfl rfl d_Tokens_endText_45
  · rw [if_neg h] at hf
    refine g_aload_n F d_Tokens_endText_7 0 rfl ?_
    refine g_get F (v := .int (q_Tokens_count sTokens)) in_X9 2 rfl rfl 8 (by decide) mw_143 rfl d_Tokens_endText_8 ?_
    refine g_sipush F (v := 400) d_Tokens_endText_11 (by decide) ?_
    refine g_icmp_ge F (tgt := 40) d_Tokens_endText_14 (by decide) (fun h => ?_) (fun h => ?_)
    · rw [if_pos h] at hf
      refine g_aload_n F d_Tokens_endText_40 0 rfl ?_
      refine g_iconst F (v := 0) d_Tokens_endText_41 (by decide) ?_
      refine g_put F in_X9 2 rfl rfl 9 (by decide) tyX9 tyX9_ok nmX9 mw_144 rfl rfl rfl (Nat.le_of_ble_eq_true rfl) (ws' := (Wc z ad cA sMt sSource (u_Tokens_inText sTokens 0) sReferenceWays sTagWays sCommentWays sOut)) rfl d_Tokens_endText_42 ?_
      cases hf
      exact g_vret F hr hlk rfl rfl d_Tokens_endText_45
    · rw [if_neg h] at hf
      refine g_aload_n F d_Tokens_endText_17 0 rfl ?_
      refine g_get F (v := .ref (ad 16)) in_X9 2 rfl rfl 4 (by decide) mw_139 rfl d_Tokens_endText_18 ?_
      refine g_aload_n F d_Tokens_endText_21 0 rfl ?_
      refine g_get F (v := .int (q_Tokens_count sTokens)) in_X9 2 rfl rfl 8 (by decide) mw_143 rfl d_Tokens_endText_22 ?_
      refine g_aload_n F d_Tokens_endText_25 0 rfl ?_
      refine g_get F (v := .int (q_Tokens_used sTokens)) in_X9 2 rfl rfl 1 (by decide) mw_136 rfl d_Tokens_endText_26 ?_
      obtain ⟨k1, hf⟩ := g_chk hf
      refine g_iast F (f := (q_Tokens_ends sTokens)) 16 0 rfl rfl k1 (ws' := (Wc z ad cA sMt sSource (u_Tokens_ends sTokens (upd (q_Tokens_ends sTokens) ((q_Tokens_count sTokens) : Int32).toNatClampNeg (q_Tokens_used sTokens))) sReferenceWays sTagWays sCommentWays sOut)) rfl d_Tokens_endText_29 ?_
      refine g_aload_n F d_Tokens_endText_30 0 rfl ?_
      refine g_dup F d_Tokens_endText_31 rfl ?_
      refine g_get F (v := .int (q_Tokens_count sTokens)) in_X9 2 rfl rfl 8 (by decide) mw_143 rfl d_Tokens_endText_32 ?_
      refine g_iconst F (v := 1) d_Tokens_endText_35 (by decide) ?_
      refine g_iadd F d_Tokens_endText_36 ?_
      refine g_put F in_X9 2 rfl rfl 8 (by decide) tyX9 tyX9_ok nmX9 mw_143 rfl rfl rfl (Nat.le_of_ble_eq_true rfl) (ws' := (Wc z ad cA sMt sSource (u_Tokens_count (u_Tokens_ends sTokens (upd (q_Tokens_ends sTokens) ((q_Tokens_count sTokens) : Int32).toNatClampNeg (q_Tokens_used sTokens))) ((q_Tokens_count sTokens) + 1)) sReferenceWays sTagWays sCommentWays sOut)) rfl d_Tokens_endText_37 ?_
      refine g_aload_n F d_Tokens_endText_40 0 rfl ?_
      refine g_iconst F (v := 0) d_Tokens_endText_41 (by decide) ?_
      refine g_put F in_X9 2 rfl rfl 9 (by decide) tyX9 tyX9_ok nmX9 mw_144 rfl rfl rfl (Nat.le_of_ble_eq_true rfl) (ws' := (Wc z ad cA sMt sSource (u_Tokens_inText (u_Tokens_count (u_Tokens_ends sTokens (upd (q_Tokens_ends sTokens) ((q_Tokens_count sTokens) : Int32).toNatClampNeg (q_Tokens_used sTokens))) ((q_Tokens_count sTokens) + 1)) 0) sReferenceWays sTagWays sCommentWays sOut)) rfl d_Tokens_endText_42 ?_
      cases hf
      exact g_vret F hr hlk rfl rfl d_Tokens_endText_45
set_option maxHeartbeats 4000000 in
set_option maxRecDepth 100000 in
theorem c_Tokens_begin (l : Launch) (D : va_G) (cA : Nat → ClassId) (z : gZ) (ad : Nat → Nat) (sMt : SMt) (sSource : SSource) (sTokens : STokens) (sReferenceWays : SReferenceWays) (sTagWays : STagWays) (sCommentWays : SCommentWays) (sOut : SOut) (a1 : Int32) {x : STokens} (hf : f_Tokens_begin a1 sTokens = some x) (sz : Nat) : Met l y_Tokens_begin (.code y_Tokens_begin b_Tokens_begin 2 none :: lw_g) { frames := 1, cells := 0, slots := 0, locals := 21 } (gP D (gT cA) z [.ref (ad 2), .int a1] (Wc z ad cA sMt sSource sTokens sReferenceWays sTagWays sCommentWays sOut) sz) (gQv D (gT cA) (va_A (Wc z ad cA sMt sSource sTokens sReferenceWays sTagWays sCommentWays sOut) sz) (Wc z ad cA sMt sSource x sReferenceWays sTagWays sCommentWays sOut)) 0 0 (va_A (Wc z ad cA sMt sSource sTokens sReferenceWays sTagWays sCommentWays sOut) sz) := by
  refine g_met (by decide) (Nat.le_of_ble_eq_true rfl) rfl ?_
  intro p e s m args below meth c F hr hlk
  unfold f_Tokens_begin at hf
  refine g_aload_n F d_Tokens_begin_0 0 rfl ?_
  obtain ⟨x1, hx1, hf⟩ := g_bind hf
  refine g_cv F (ws' := (Wc z ad cA sMt sSource x1 sReferenceWays sTagWays sCommentWays sOut)) (fun H locs ls hP hD hS hl => g_runV F (As := []) (n := 0) mw_431 rfl rfl ⟨by decide, by decide⟩ rfl (by exact Nat.le_of_ble_eq_true rfl) mw_428 mw_429 mw_430 mw_75 (by decide +kernel) d_Tokens_begin_1 hP hD hS hl (va_recv F.2.2.2.2.2.1 hP (ci := 2) rfl (q0 := 2) rfl) (c_Tokens_endText l D cA z ad sMt sSource sTokens sReferenceWays sTagWays sCommentWays sOut hx1 H.size)) ?_
  refine g_aload_n F d_Tokens_begin_4 0 rfl ?_
  refine g_iload_n F d_Tokens_begin_5 1 rfl ?_
  obtain ⟨x2, hx2, hf⟩ := g_bind hf
  refine g_cv F (ws' := (Wc z ad cA sMt sSource x2 sReferenceWays sTagWays sCommentWays sOut)) (fun H locs ls hP hD hS hl => g_runV F (As := [.int a1]) (n := 1) mw_391 rfl rfl ⟨by decide, by decide⟩ rfl (by exact Nat.le_of_ble_eq_true rfl) mw_388 mw_390 mw_2 mw_75 (by decide +kernel) d_Tokens_begin_6 hP hD hS hl (va_recv F.2.2.2.2.2.1 hP (ci := 2) rfl (q0 := 2) rfl) (c_Tokens_open l D cA z ad sMt sSource x1 sReferenceWays sTagWays sCommentWays sOut a1 hx2 H.size)) ?_
  cases hf
  exact g_vret F hr hlk rfl rfl d_Tokens_begin_9
set_option maxHeartbeats 4000000 in
set_option maxRecDepth 100000 in
theorem c_Reader_bogus (l : Launch) (D : va_G) (cA : Nat → ClassId) (z : gZ) (ad : Nat → Nat) (sMt : SMt) (sSource : SSource) (sTokens : STokens) (sReferenceWays : SReferenceWays) (sTagWays : STagWays) (sCommentWays : SCommentWays) (sOut : SOut) {x : Nat × STokens} (hf : f_Reader_bogus sTokens = some x) (sz : Nat) : Met l y_Reader_bogus (.code y_Reader_bogus b_Reader_bogus 1 (some (.object "MarkupTokens$Way")) :: lw_g) { frames := 2, cells := 0, slots := 0, locals := 42 } (gP D (gT cA) z [.ref (ad 7)] (Wc z ad cA sMt sSource sTokens sReferenceWays sTagWays sCommentWays sOut) sz) (gQq D (gT cA) (va_A (Wc z ad cA sMt sSource sTokens sReferenceWays sTagWays sCommentWays sOut) sz) (some (z.1 x.1)) (Wc z ad cA sMt sSource x.2 sReferenceWays sTagWays sCommentWays sOut)) 0 0 (va_A (Wc z ad cA sMt sSource sTokens sReferenceWays sTagWays sCommentWays sOut) sz) := by
  refine g_met (by decide) (Nat.le_of_ble_eq_true rfl) rfl ?_
  intro p e s m args below meth c F hr hlk
  unfold f_Reader_bogus at hf
  refine g_aload_n F d_Reader_bogus_0 0 rfl ?_
  refine g_getS F (v := .ref (ad 2)) in_X5 7 rfl rfl 1 (by decide) mw_213 mw_214 rfl d_Reader_bogus_1 ?_
  refine g_iconst F (v := 3) d_Reader_bogus_4 (by decide) ?_
  obtain ⟨x1, hx1, hf⟩ := g_bind hf
  refine g_cv F (ws' := (Wc z ad cA sMt sSource x1 sReferenceWays sTagWays sCommentWays sOut)) (fun H locs ls hP hD hS hl => g_runV F (As := [.int 3]) (n := 1) mw_427 rfl rfl ⟨by decide, by decide⟩ rfl (by exact Nat.le_of_ble_eq_true rfl) mw_424 mw_425 mw_426 mw_75 (by decide +kernel) d_Reader_bogus_5 hP hD hS hl (va_recv F.2.2.2.2.2.1 hP (ci := 2) rfl (q0 := 2) rfl) (c_Tokens_begin l D cA z ad sMt sSource sTokens sReferenceWays sTagWays sCommentWays sOut 3 hx1 H.size)) ?_
  refine g_way F 17 (by decide) mw_442 d_Reader_bogus_8 ?_
  cases hf
  exact g_aret F hr (Or.inl ⟨_, rfl⟩) hlk rfl rfl rfl d_Reader_bogus_11
set_option maxHeartbeats 4000000 in
set_option maxRecDepth 100000 in
theorem c_Reader_tag (l : Launch) (D : va_G) (cA : Nat → ClassId) (z : gZ) (ad : Nat → Nat) (sMt : SMt) (sSource : SSource) (sTokens : STokens) (sReferenceWays : SReferenceWays) (sTagWays : STagWays) (sCommentWays : SCommentWays) (sOut : SOut) (a1 : Int32) {x : Nat × SSource × STokens} (hf : f_Reader_tag a1 sSource sTokens = some x) (sz : Nat) : Met l y_Reader_tag (.code y_Reader_tag b_Reader_tag 2 (some (.object "MarkupTokens$Way")) :: lw_g) { frames := 3, cells := 0, slots := 0, locals := 62 } (gP D (gT cA) z [.ref (ad 7), .int a1] (Wc z ad cA sMt sSource sTokens sReferenceWays sTagWays sCommentWays sOut) sz) (gQq D (gT cA) (va_A (Wc z ad cA sMt sSource sTokens sReferenceWays sTagWays sCommentWays sOut) sz) (some (z.1 x.1)) (Wc z ad cA sMt x.2.1 x.2.2 sReferenceWays sTagWays sCommentWays sOut)) 0 0 (va_A (Wc z ad cA sMt sSource sTokens sReferenceWays sTagWays sCommentWays sOut) sz) := by
  refine g_met (by decide) (Nat.le_of_ble_eq_true rfl) rfl ?_
  intro p e s m args below meth c F hr hlk
  unfold f_Reader_tag at hf
  refine g_iload_n F d_Reader_tag_0 1 rfl ?_
  refine g_ci F (r0 := (f_Mt_isLetter a1)) (ws' := (Wc z ad cA sMt sSource sTokens sReferenceWays sTagWays sCommentWays sOut)) (fun H locs ls hP hD hS hl => g_runSN F (As := [.int a1]) (n := 1) mw_423 rfl rfl ⟨by decide, by decide⟩ rfl (by exact Nat.le_of_ble_eq_true rfl) (F.2.2.2.2.2.2.2.2.1 (RX5, 192, y_Mt_isLetter) (by decide +kernel)) mw_422 mw_73 (by decide +kernel) d_Reader_tag_1 hP hD hS hl (c_Mt_isLetter l D cA z ad sMt sSource sTokens sReferenceWays sTagWays sCommentWays sOut a1 rfl H.size)) ?_
  refine g_if_eq F (tgt := 19) d_Reader_tag_4 (by decide) (fun h => ?_) (fun h => ?_)
  · rw [if_pos h] at hf
    refine g_iload_n F d_Reader_tag_19 1 rfl ?_
    by_cases q1 : a1 = (-1)
    · rw [if_pos q1] at hf
      refine g_lookup F (off := 79) (tgt := 99) d_Reader_tag_20 (by decide) (by rw [q1]; decide) (by decide) ?_
      refine g_aload_n F d_Reader_tag_99 0 rfl ?_
      refine g_getS F (v := .ref (ad 1)) in_X5 7 rfl rfl 0 (by decide) mw_206 mw_207 rfl d_Reader_tag_100 ?_
      refine g_iconst F (v := 3) d_Reader_tag_103 (by decide) ?_
      obtain ⟨x1, hx1, hf⟩ := g_bind hf
      refine g_cv F (ws' := (Wc z ad cA sMt x1 sTokens sReferenceWays sTagWays sCommentWays sOut)) (fun H locs ls hP hD hS hl => g_runV F (As := [.int 3]) (n := 1) mw_408 rfl rfl ⟨by decide, by decide⟩ rfl (by exact Nat.le_of_ble_eq_true rfl) mw_405 mw_406 mw_407 mw_74 (by decide +kernel) d_Reader_tag_104 hP hD hS hl (va_recv F.2.2.2.2.2.1 hP (ci := 1) rfl (q0 := 1) rfl) (c_Source_wrong l D cA z ad sMt sSource sTokens sReferenceWays sTagWays sCommentWays sOut 3 hx1 H.size)) ?_
      refine g_aload_n F d_Reader_tag_107 0 rfl ?_
      refine g_bipush F (v := 60) d_Reader_tag_108 (by decide) ?_
      obtain ⟨x2, hx2, hf⟩ := g_bind hf
      refine g_cv F (ws' := (Wc z ad cA sMt x1 x2 sReferenceWays sTagWays sCommentWays sOut)) (fun H locs ls hP hD hS hl => g_runV F (As := [.int 60]) (n := 1) mw_412 rfl rfl ⟨by decide, by decide⟩ rfl (by exact Nat.le_of_ble_eq_true rfl) mw_409 mw_411 mw_3 mw_77 (by decide +kernel) d_Reader_tag_110 hP hD hS hl (va_recv F.2.2.2.2.2.1 hP (ci := 7) rfl (q0 := 7) rfl) (c_Reader_addToText l D cA z ad sMt x1 sTokens sReferenceWays sTagWays sCommentWays sOut 60 hx2 H.size)) ?_
      refine g_way F 29 (by decide) mw_358 d_Reader_tag_113 ?_
      cases hf
      exact g_aret F hr (Or.inl ⟨_, rfl⟩) hlk rfl rfl rfl d_Reader_tag_116
    rw [if_neg q1] at hf
    by_cases q2 : a1 = 33
    · rw [if_pos q2] at hf
      refine g_lookup F (off := 44) (tgt := 64) d_Reader_tag_20 (by decide) (by rw [q2]; decide) (by decide) ?_
      refine g_aload_n F d_Reader_tag_64 0 rfl ?_
      refine g_getS F (v := .ref (ad 1)) in_X5 7 rfl rfl 0 (by decide) mw_206 mw_207 rfl d_Reader_tag_65 ?_
      refine g_way F 16 (by decide) mw_434 d_Reader_tag_68 ?_
      refine g_cw F (r0 := z.1 ((f_Source_then 16 sSource).1)) (ws' := (Wc z ad cA sMt ((f_Source_then 16 sSource).2) sTokens sReferenceWays sTagWays sCommentWays sOut)) (fun H locs ls hP hD hS hl => g_runV F (As := [.ref (z.1 16)]) (n := 1) mw_401 rfl rfl ⟨by decide, by decide⟩ rfl (by exact Nat.le_of_ble_eq_true rfl) mw_404 mw_399 mw_400 mw_74 (by decide +kernel) d_Reader_tag_71 hP hD hS hl (va_recv F.2.2.2.2.2.1 hP (ci := 1) rfl (q0 := 1) rfl) (c_Source_then l D cA z ad sMt sSource sTokens sReferenceWays sTagWays sCommentWays sOut 16 rfl H.size)) ?_
      cases hf
      exact g_aret F hr (Or.inl ⟨_, rfl⟩) hlk rfl rfl rfl d_Reader_tag_74
    rw [if_neg q2] at hf
    by_cases q3 : a1 = 47
    · rw [if_pos q3] at hf
      refine g_lookup F (off := 55) (tgt := 75) d_Reader_tag_20 (by decide) (by rw [q3]; decide) (by decide) ?_
      refine g_aload_n F d_Reader_tag_75 0 rfl ?_
      refine g_getS F (v := .ref (ad 1)) in_X5 7 rfl rfl 0 (by decide) mw_206 mw_207 rfl d_Reader_tag_76 ?_
      refine g_way F 2 (by decide) mw_436 d_Reader_tag_79 ?_
      refine g_cw F (r0 := z.1 ((f_Source_then 2 sSource).1)) (ws' := (Wc z ad cA sMt ((f_Source_then 2 sSource).2) sTokens sReferenceWays sTagWays sCommentWays sOut)) (fun H locs ls hP hD hS hl => g_runV F (As := [.ref (z.1 2)]) (n := 1) mw_401 rfl rfl ⟨by decide, by decide⟩ rfl (by exact Nat.le_of_ble_eq_true rfl) mw_404 mw_399 mw_400 mw_74 (by decide +kernel) d_Reader_tag_82 hP hD hS hl (va_recv F.2.2.2.2.2.1 hP (ci := 1) rfl (q0 := 1) rfl) (c_Source_then l D cA z ad sMt sSource sTokens sReferenceWays sTagWays sCommentWays sOut 2 rfl H.size)) ?_
      cases hf
      exact g_aret F hr (Or.inl ⟨_, rfl⟩) hlk rfl rfl rfl d_Reader_tag_85
    rw [if_neg q3] at hf
    by_cases q4 : a1 = 63
    · rw [if_pos q4] at hf
      refine g_lookup F (off := 66) (tgt := 86) d_Reader_tag_20 (by decide) (by rw [q4]; decide) (by decide) ?_
      refine g_aload_n F d_Reader_tag_86 0 rfl ?_
      refine g_getS F (v := .ref (ad 1)) in_X5 7 rfl rfl 0 (by decide) mw_206 mw_207 rfl d_Reader_tag_87 ?_
      refine g_iconst F (v := 2) d_Reader_tag_90 (by decide) ?_
      obtain ⟨x3, hx3, hf⟩ := g_bind hf
      refine g_cv F (ws' := (Wc z ad cA sMt x3 sTokens sReferenceWays sTagWays sCommentWays sOut)) (fun H locs ls hP hD hS hl => g_runV F (As := [.int 2]) (n := 1) mw_408 rfl rfl ⟨by decide, by decide⟩ rfl (by exact Nat.le_of_ble_eq_true rfl) mw_405 mw_406 mw_407 mw_74 (by decide +kernel) d_Reader_tag_91 hP hD hS hl (va_recv F.2.2.2.2.2.1 hP (ci := 1) rfl (q0 := 1) rfl) (c_Source_wrong l D cA z ad sMt sSource sTokens sReferenceWays sTagWays sCommentWays sOut 2 hx3 H.size)) ?_
      refine g_aload_n F d_Reader_tag_94 0 rfl ?_
      obtain ⟨x4, hx4, hf⟩ := g_bind hf
      refine g_cw F (r0 := z.1 x4.1) (ws' := (Wc z ad cA sMt x3 x4.2 sReferenceWays sTagWays sCommentWays sOut)) (fun H locs ls hP hD hS hl => g_runV F (As := []) (n := 0) mw_441 rfl rfl ⟨by decide, by decide⟩ rfl (by exact Nat.le_of_ble_eq_true rfl) mw_438 mw_440 mw_5 mw_77 (by decide +kernel) d_Reader_tag_95 hP hD hS hl (va_recv F.2.2.2.2.2.1 hP (ci := 7) rfl (q0 := 7) rfl) (c_Reader_bogus l D cA z ad sMt x3 sTokens sReferenceWays sTagWays sCommentWays sOut hx4 H.size)) ?_
      cases hf
      exact g_aret F hr (Or.inl ⟨_, rfl⟩) hlk rfl rfl rfl d_Reader_tag_98
    rw [if_neg q4] at hf
    refine g_lookup F (off := 97) (tgt := 117) d_Reader_tag_20 (by decide) (show Op.lookupswitch.offset ([((-1), 79), (33, 44), (47, 55), (63, 66)] : List (Int × Int)) 97 (a1 : Int32).toInt = 97 by rw [lv_osw (k := (-1)) q1 (by decide), lv_osw (k := 33) q2 (by decide), lv_osw (k := 47) q3 (by decide), lv_osw (k := 63) q4 (by decide)]; rfl) (by decide) ?_
    refine g_aload_n F d_Reader_tag_117 0 rfl ?_
    refine g_getS F (v := .ref (ad 1)) in_X5 7 rfl rfl 0 (by decide) mw_206 mw_207 rfl d_Reader_tag_118 ?_
    refine g_iconst F (v := 4) d_Reader_tag_121 (by decide) ?_
    obtain ⟨x5, hx5, hf⟩ := g_bind hf
    refine g_cv F (ws' := (Wc z ad cA sMt x5 sTokens sReferenceWays sTagWays sCommentWays sOut)) (fun H locs ls hP hD hS hl => g_runV F (As := [.int 4]) (n := 1) mw_408 rfl rfl ⟨by decide, by decide⟩ rfl (by exact Nat.le_of_ble_eq_true rfl) mw_405 mw_406 mw_407 mw_74 (by decide +kernel) d_Reader_tag_122 hP hD hS hl (va_recv F.2.2.2.2.2.1 hP (ci := 1) rfl (q0 := 1) rfl) (c_Source_wrong l D cA z ad sMt sSource sTokens sReferenceWays sTagWays sCommentWays sOut 4 hx5 H.size)) ?_
    refine g_aload_n F d_Reader_tag_125 0 rfl ?_
    refine g_bipush F (v := 60) d_Reader_tag_126 (by decide) ?_
    obtain ⟨x6, hx6, hf⟩ := g_bind hf
    refine g_cv F (ws' := (Wc z ad cA sMt x5 x6 sReferenceWays sTagWays sCommentWays sOut)) (fun H locs ls hP hD hS hl => g_runV F (As := [.int 60]) (n := 1) mw_412 rfl rfl ⟨by decide, by decide⟩ rfl (by exact Nat.le_of_ble_eq_true rfl) mw_409 mw_411 mw_3 mw_77 (by decide +kernel) d_Reader_tag_128 hP hD hS hl (va_recv F.2.2.2.2.2.1 hP (ci := 7) rfl (q0 := 7) rfl) (c_Reader_addToText l D cA z ad sMt x5 sTokens sReferenceWays sTagWays sCommentWays sOut 60 hx6 H.size)) ?_
    refine g_way F 0 (by decide) mw_356 d_Reader_tag_131 ?_
    cases hf
    exact g_aret F hr (Or.inl ⟨_, rfl⟩) hlk rfl rfl rfl d_Reader_tag_134
  · rw [if_neg h] at hf
    refine g_aload_n F d_Reader_tag_7 0 rfl ?_
    refine g_getS F (v := .ref (ad 2)) in_X5 7 rfl rfl 1 (by decide) mw_213 mw_214 rfl d_Reader_tag_8 ?_
    refine g_iconst F (v := 1) d_Reader_tag_11 (by decide) ?_
    obtain ⟨x7, hx7, hf⟩ := g_bind hf
    refine g_cv F (ws' := (Wc z ad cA sMt sSource x7 sReferenceWays sTagWays sCommentWays sOut)) (fun H locs ls hP hD hS hl => g_runV F (As := [.int 1]) (n := 1) mw_427 rfl rfl ⟨by decide, by decide⟩ rfl (by exact Nat.le_of_ble_eq_true rfl) mw_424 mw_425 mw_426 mw_75 (by decide +kernel) d_Reader_tag_12 hP hD hS hl (va_recv F.2.2.2.2.2.1 hP (ci := 2) rfl (q0 := 2) rfl) (c_Tokens_begin l D cA z ad sMt sSource sTokens sReferenceWays sTagWays sCommentWays sOut 1 hx7 H.size)) ?_
    refine g_way F 7 (by decide) mw_432 d_Reader_tag_15 ?_
    cases hf
    exact g_aret F hr (Or.inl ⟨_, rfl⟩) hlk rfl rfl rfl d_Reader_tag_18
set_option maxHeartbeats 4000000 in
set_option maxRecDepth 100000 in
theorem c_Reader_endTag (l : Launch) (D : va_G) (cA : Nat → ClassId) (z : gZ) (ad : Nat → Nat) (sMt : SMt) (sSource : SSource) (sTokens : STokens) (sReferenceWays : SReferenceWays) (sTagWays : STagWays) (sCommentWays : SCommentWays) (sOut : SOut) (a1 : Int32) {x : Nat × SSource × STokens} (hf : f_Reader_endTag a1 sSource sTokens = some x) (sz : Nat) : Met l y_Reader_endTag (.code y_Reader_endTag b_Reader_endTag 2 (some (.object "MarkupTokens$Way")) :: lw_g) { frames := 3, cells := 0, slots := 0, locals := 62 } (gP D (gT cA) z [.ref (ad 7), .int a1] (Wc z ad cA sMt sSource sTokens sReferenceWays sTagWays sCommentWays sOut) sz) (gQq D (gT cA) (va_A (Wc z ad cA sMt sSource sTokens sReferenceWays sTagWays sCommentWays sOut) sz) (some (z.1 x.1)) (Wc z ad cA sMt x.2.1 x.2.2 sReferenceWays sTagWays sCommentWays sOut)) 0 0 (va_A (Wc z ad cA sMt sSource sTokens sReferenceWays sTagWays sCommentWays sOut) sz) := by
  refine g_met (by decide) (Nat.le_of_ble_eq_true rfl) rfl ?_
  intro p e s m args below meth c F hr hlk
  unfold f_Reader_endTag at hf
  refine g_iload_n F d_Reader_endTag_0 1 rfl ?_
  refine g_ci F (r0 := (f_Mt_isLetter a1)) (ws' := (Wc z ad cA sMt sSource sTokens sReferenceWays sTagWays sCommentWays sOut)) (fun H locs ls hP hD hS hl => g_runSN F (As := [.int a1]) (n := 1) mw_423 rfl rfl ⟨by decide, by decide⟩ rfl (by exact Nat.le_of_ble_eq_true rfl) (F.2.2.2.2.2.2.2.2.1 (RX5, 192, y_Mt_isLetter) (by decide +kernel)) mw_422 mw_73 (by decide +kernel) d_Reader_endTag_1 hP hD hS hl (c_Mt_isLetter l D cA z ad sMt sSource sTokens sReferenceWays sTagWays sCommentWays sOut a1 rfl H.size)) ?_
  refine g_if_eq F (tgt := 19) d_Reader_endTag_4 (by decide) (fun h => ?_) (fun h => ?_)
  · rw [if_pos h] at hf
    refine g_iload_n F d_Reader_endTag_19 1 rfl ?_
    by_cases q1 : a1 = (-1)
    · rw [if_pos q1] at hf
      refine g_lookup F (off := 47) (tgt := 67) d_Reader_endTag_20 (by decide) (by rw [q1]; decide) (by decide) ?_
      refine g_aload_n F d_Reader_endTag_67 0 rfl ?_
      refine g_getS F (v := .ref (ad 1)) in_X5 7 rfl rfl 0 (by decide) mw_206 mw_207 rfl d_Reader_endTag_68 ?_
      refine g_iconst F (v := 3) d_Reader_endTag_71 (by decide) ?_
      obtain ⟨x1, hx1, hf⟩ := g_bind hf
      refine g_cv F (ws' := (Wc z ad cA sMt x1 sTokens sReferenceWays sTagWays sCommentWays sOut)) (fun H locs ls hP hD hS hl => g_runV F (As := [.int 3]) (n := 1) mw_408 rfl rfl ⟨by decide, by decide⟩ rfl (by exact Nat.le_of_ble_eq_true rfl) mw_405 mw_406 mw_407 mw_74 (by decide +kernel) d_Reader_endTag_72 hP hD hS hl (va_recv F.2.2.2.2.2.1 hP (ci := 1) rfl (q0 := 1) rfl) (c_Source_wrong l D cA z ad sMt sSource sTokens sReferenceWays sTagWays sCommentWays sOut 3 hx1 H.size)) ?_
      refine g_aload_n F d_Reader_endTag_75 0 rfl ?_
      refine g_bipush F (v := 60) d_Reader_endTag_76 (by decide) ?_
      obtain ⟨x2, hx2, hf⟩ := g_bind hf
      refine g_cv F (ws' := (Wc z ad cA sMt x1 x2 sReferenceWays sTagWays sCommentWays sOut)) (fun H locs ls hP hD hS hl => g_runV F (As := [.int 60]) (n := 1) mw_412 rfl rfl ⟨by decide, by decide⟩ rfl (by exact Nat.le_of_ble_eq_true rfl) mw_409 mw_411 mw_3 mw_77 (by decide +kernel) d_Reader_endTag_78 hP hD hS hl (va_recv F.2.2.2.2.2.1 hP (ci := 7) rfl (q0 := 7) rfl) (c_Reader_addToText l D cA z ad sMt x1 sTokens sReferenceWays sTagWays sCommentWays sOut 60 hx2 H.size)) ?_
      refine g_aload_n F d_Reader_endTag_81 0 rfl ?_
      refine g_bipush F (v := 47) d_Reader_endTag_82 (by decide) ?_
      obtain ⟨x3, hx3, hf⟩ := g_bind hf
      refine g_cv F (ws' := (Wc z ad cA sMt x1 x3 sReferenceWays sTagWays sCommentWays sOut)) (fun H locs ls hP hD hS hl => g_runV F (As := [.int 47]) (n := 1) mw_412 rfl rfl ⟨by decide, by decide⟩ rfl (by exact Nat.le_of_ble_eq_true rfl) mw_409 mw_411 mw_3 mw_77 (by decide +kernel) d_Reader_endTag_84 hP hD hS hl (va_recv F.2.2.2.2.2.1 hP (ci := 7) rfl (q0 := 7) rfl) (c_Reader_addToText l D cA z ad sMt x1 x2 sReferenceWays sTagWays sCommentWays sOut 47 hx3 H.size)) ?_
      refine g_way F 29 (by decide) mw_358 d_Reader_endTag_87 ?_
      cases hf
      exact g_aret F hr (Or.inl ⟨_, rfl⟩) hlk rfl rfl rfl d_Reader_endTag_90
    rw [if_neg q1] at hf
    by_cases q2 : a1 = 62
    · rw [if_pos q2] at hf
      refine g_lookup F (off := 28) (tgt := 48) d_Reader_endTag_20 (by decide) (by rw [q2]; decide) (by decide) ?_
      refine g_aload_n F d_Reader_endTag_48 0 rfl ?_
      refine g_getS F (v := .ref (ad 1)) in_X5 7 rfl rfl 0 (by decide) mw_206 mw_207 rfl d_Reader_endTag_49 ?_
      refine g_iconst F (v := 5) d_Reader_endTag_52 (by decide) ?_
      obtain ⟨x4, hx4, hf⟩ := g_bind hf
      refine g_cv F (ws' := (Wc z ad cA sMt x4 sTokens sReferenceWays sTagWays sCommentWays sOut)) (fun H locs ls hP hD hS hl => g_runV F (As := [.int 5]) (n := 1) mw_408 rfl rfl ⟨by decide, by decide⟩ rfl (by exact Nat.le_of_ble_eq_true rfl) mw_405 mw_406 mw_407 mw_74 (by decide +kernel) d_Reader_endTag_53 hP hD hS hl (va_recv F.2.2.2.2.2.1 hP (ci := 1) rfl (q0 := 1) rfl) (c_Source_wrong l D cA z ad sMt sSource sTokens sReferenceWays sTagWays sCommentWays sOut 5 hx4 H.size)) ?_
      refine g_aload_n F d_Reader_endTag_56 0 rfl ?_
      refine g_getS F (v := .ref (ad 1)) in_X5 7 rfl rfl 0 (by decide) mw_206 mw_207 rfl d_Reader_endTag_57 ?_
      refine g_way F 0 (by decide) mw_356 d_Reader_endTag_60 ?_
      refine g_cw F (r0 := z.1 ((f_Source_then 0 x4).1)) (ws' := (Wc z ad cA sMt ((f_Source_then 0 x4).2) sTokens sReferenceWays sTagWays sCommentWays sOut)) (fun H locs ls hP hD hS hl => g_runV F (As := [.ref (z.1 0)]) (n := 1) mw_401 rfl rfl ⟨by decide, by decide⟩ rfl (by exact Nat.le_of_ble_eq_true rfl) mw_404 mw_399 mw_400 mw_74 (by decide +kernel) d_Reader_endTag_63 hP hD hS hl (va_recv F.2.2.2.2.2.1 hP (ci := 1) rfl (q0 := 1) rfl) (c_Source_then l D cA z ad sMt x4 sTokens sReferenceWays sTagWays sCommentWays sOut 0 rfl H.size)) ?_
      cases hf
      exact g_aret F hr (Or.inl ⟨_, rfl⟩) hlk rfl rfl rfl d_Reader_endTag_66
    rw [if_neg q2] at hf
    refine g_lookup F (off := 71) (tgt := 91) d_Reader_endTag_20 (by decide) (show Op.lookupswitch.offset ([((-1), 47), (62, 28)] : List (Int × Int)) 71 (a1 : Int32).toInt = 71 by rw [lv_osw (k := (-1)) q1 (by decide), lv_osw (k := 62) q2 (by decide)]; rfl) (by decide) ?_
    refine g_aload_n F d_Reader_endTag_91 0 rfl ?_
    refine g_getS F (v := .ref (ad 1)) in_X5 7 rfl rfl 0 (by decide) mw_206 mw_207 rfl d_Reader_endTag_92 ?_
    refine g_iconst F (v := 4) d_Reader_endTag_95 (by decide) ?_
    obtain ⟨x5, hx5, hf⟩ := g_bind hf
    refine g_cv F (ws' := (Wc z ad cA sMt x5 sTokens sReferenceWays sTagWays sCommentWays sOut)) (fun H locs ls hP hD hS hl => g_runV F (As := [.int 4]) (n := 1) mw_408 rfl rfl ⟨by decide, by decide⟩ rfl (by exact Nat.le_of_ble_eq_true rfl) mw_405 mw_406 mw_407 mw_74 (by decide +kernel) d_Reader_endTag_96 hP hD hS hl (va_recv F.2.2.2.2.2.1 hP (ci := 1) rfl (q0 := 1) rfl) (c_Source_wrong l D cA z ad sMt sSource sTokens sReferenceWays sTagWays sCommentWays sOut 4 hx5 H.size)) ?_
    refine g_aload_n F d_Reader_endTag_99 0 rfl ?_
    obtain ⟨x6, hx6, hf⟩ := g_bind hf
    refine g_cw F (r0 := z.1 x6.1) (ws' := (Wc z ad cA sMt x5 x6.2 sReferenceWays sTagWays sCommentWays sOut)) (fun H locs ls hP hD hS hl => g_runV F (As := []) (n := 0) mw_441 rfl rfl ⟨by decide, by decide⟩ rfl (by exact Nat.le_of_ble_eq_true rfl) mw_438 mw_440 mw_5 mw_77 (by decide +kernel) d_Reader_endTag_100 hP hD hS hl (va_recv F.2.2.2.2.2.1 hP (ci := 7) rfl (q0 := 7) rfl) (c_Reader_bogus l D cA z ad sMt x5 sTokens sReferenceWays sTagWays sCommentWays sOut hx6 H.size)) ?_
    cases hf
    exact g_aret F hr (Or.inl ⟨_, rfl⟩) hlk rfl rfl rfl d_Reader_endTag_103
  · rw [if_neg h] at hf
    refine g_aload_n F d_Reader_endTag_7 0 rfl ?_
    refine g_getS F (v := .ref (ad 2)) in_X5 7 rfl rfl 1 (by decide) mw_213 mw_214 rfl d_Reader_endTag_8 ?_
    refine g_iconst F (v := 2) d_Reader_endTag_11 (by decide) ?_
    obtain ⟨x7, hx7, hf⟩ := g_bind hf
    refine g_cv F (ws' := (Wc z ad cA sMt sSource x7 sReferenceWays sTagWays sCommentWays sOut)) (fun H locs ls hP hD hS hl => g_runV F (As := [.int 2]) (n := 1) mw_427 rfl rfl ⟨by decide, by decide⟩ rfl (by exact Nat.le_of_ble_eq_true rfl) mw_424 mw_425 mw_426 mw_75 (by decide +kernel) d_Reader_endTag_12 hP hD hS hl (va_recv F.2.2.2.2.2.1 hP (ci := 2) rfl (q0 := 2) rfl) (c_Tokens_begin l D cA z ad sMt sSource sTokens sReferenceWays sTagWays sCommentWays sOut 2 hx7 H.size)) ?_
    refine g_way F 7 (by decide) mw_432 d_Reader_endTag_15 ?_
    cases hf
    exact g_aret F hr (Or.inl ⟨_, rfl⟩) hlk rfl rfl rfl d_Reader_endTag_18
set_option maxHeartbeats 4000000 in
set_option maxRecDepth 100000 in
theorem c_Mt_isLetterOrDigit (l : Launch) (D : va_G) (cA : Nat → ClassId) (z : gZ) (ad : Nat → Nat) (sMt : SMt) (sSource : SSource) (sTokens : STokens) (sReferenceWays : SReferenceWays) (sTagWays : STagWays) (sCommentWays : SCommentWays) (sOut : SOut) (a1 : Int32) {x : Int32} (hf : f_Mt_isLetterOrDigit a1 = x) (sz : Nat) : Met l y_Mt_isLetterOrDigit (.code y_Mt_isLetterOrDigit b_Mt_isLetterOrDigit 1 (some .boolean) :: lw_g) { frames := 1, cells := 0, slots := 0, locals := 20 } (gP D (gT cA) z [.int a1] (Wc z ad cA sMt sSource sTokens sReferenceWays sTagWays sCommentWays sOut) sz) (gQi D (gT cA) (va_A (Wc z ad cA sMt sSource sTokens sReferenceWays sTagWays sCommentWays sOut) sz) x (Wc z ad cA sMt sSource sTokens sReferenceWays sTagWays sCommentWays sOut)) 0 0 (va_A (Wc z ad cA sMt sSource sTokens sReferenceWays sTagWays sCommentWays sOut) sz) := by
  refine g_met (by decide) (Nat.le_of_ble_eq_true rfl) rfl ?_
  intro p e s m args below meth c F hr hlk
  unfold f_Mt_isLetterOrDigit at hf
  refine g_iload_n F d_Mt_isLetterOrDigit_0 0 rfl ?_
  refine g_ci F (r0 := (f_Mt_isLetter a1)) (ws' := (Wc z ad cA sMt sSource sTokens sReferenceWays sTagWays sCommentWays sOut)) (fun H locs ls hP hD hS hl => g_runS F (As := [.int a1]) (n := 1) mw_423 rfl rfl ⟨by decide, by decide⟩ rfl (by exact Nat.le_of_ble_eq_true rfl) mw_457 mw_422 mw_73 (by decide +kernel) d_Mt_isLetterOrDigit_1 hP hD hS hl (c_Mt_isLetter l D cA z ad sMt sSource sTokens sReferenceWays sTagWays sCommentWays sOut a1 rfl H.size)) ?_
  refine g_if_ne F (tgt := 19) d_Mt_isLetterOrDigit_4 (by decide) (fun h => ?_) (fun h => ?_)
  · rw [if_neg h] at hf
    refine g_iconst F (v := 1) d_Mt_isLetterOrDigit_19 (by decide) ?_
    refine g_goto F (tgt := 24) d_Mt_isLetterOrDigit_20 (by decide) ?_
    subst hf
    exact g_zret F hr rfl hlk rfl rfl rfl d_Mt_isLetterOrDigit_24
  · rw [if_pos h] at hf
    refine g_iload_n F d_Mt_isLetterOrDigit_7 0 rfl ?_
    refine g_bipush F (v := 48) d_Mt_isLetterOrDigit_8 (by decide) ?_
    refine g_icmp_lt F (tgt := 23) d_Mt_isLetterOrDigit_10 (by decide) (fun h => ?_) (fun h => ?_)
    · rw [if_pos h] at hf
      refine g_iconst F (v := 0) d_Mt_isLetterOrDigit_23 (by decide) ?_
      subst hf
      exact g_zret F hr rfl hlk rfl rfl rfl d_Mt_isLetterOrDigit_24
    · rw [if_neg h] at hf
      refine g_iload_n F d_Mt_isLetterOrDigit_13 0 rfl ?_
      refine g_bipush F (v := 57) d_Mt_isLetterOrDigit_14 (by decide) ?_
      refine g_icmp_gt F (tgt := 23) d_Mt_isLetterOrDigit_16 (by decide) (fun h => ?_) (fun h => ?_)
      · rw [if_pos h] at hf
        refine g_iconst F (v := 0) d_Mt_isLetterOrDigit_23 (by decide) ?_
        subst hf
        exact g_zret F hr rfl hlk rfl rfl rfl d_Mt_isLetterOrDigit_24
      · rw [if_neg h] at hf
        refine g_iconst F (v := 1) d_Mt_isLetterOrDigit_19 (by decide) ?_
        refine g_goto F (tgt := 24) d_Mt_isLetterOrDigit_20 (by decide) ?_
        subst hf
        exact g_zret F hr rfl hlk rfl rfl rfl d_Mt_isLetterOrDigit_24
set_option maxHeartbeats 4000000 in
set_option maxRecDepth 100000 in
theorem c_ReferenceWays_start (l : Launch) (D : va_G) (cA : Nat → ClassId) (z : gZ) (ad : Nat → Nat) (sMt : SMt) (sSource : SSource) (sTokens : STokens) (sReferenceWays : SReferenceWays) (sTagWays : STagWays) (sCommentWays : SCommentWays) (sOut : SOut) (a1 : Int32) {x : Nat × STokens} (hf : f_ReferenceWays_start a1 sReferenceWays sTokens = some x) (sz : Nat) : Met l y_ReferenceWays_start (.code y_ReferenceWays_start b_ReferenceWays_start 2 (some (.object "MarkupTokens$Way")) :: lw_g) { frames := 2, cells := 0, slots := 0, locals := 40 } (gP D (gT cA) z [.ref (ad 3), .int a1] (Wc z ad cA sMt sSource sTokens sReferenceWays sTagWays sCommentWays sOut) sz) (gQq D (gT cA) (va_A (Wc z ad cA sMt sSource sTokens sReferenceWays sTagWays sCommentWays sOut) sz) (some (z.1 x.1)) (Wc z ad cA sMt sSource x.2 sReferenceWays sTagWays sCommentWays sOut)) 0 0 (va_A (Wc z ad cA sMt sSource sTokens sReferenceWays sTagWays sCommentWays sOut) sz) := by
  refine g_met (by decide) (Nat.le_of_ble_eq_true rfl) rfl ?_
  intro p e s m args below meth c F hr hlk
  unfold f_ReferenceWays_start at hf
  refine g_iload_n F d_ReferenceWays_start_0 1 rfl ?_
  refine g_bipush F (v := 35) d_ReferenceWays_start_1 (by decide) ?_
  refine g_icmp_ne F (tgt := 10) d_ReferenceWays_start_3 (by decide) (fun h => ?_) (fun h => ?_)
  · rw [if_neg h] at hf
    refine g_iload_n F d_ReferenceWays_start_10 1 rfl ?_
    refine g_ci F (r0 := (f_Mt_isLetterOrDigit a1)) (ws' := (Wc z ad cA sMt sSource sTokens sReferenceWays sTagWays sCommentWays sOut)) (fun H locs ls hP hD hS hl => g_runSN F (As := [.int a1]) (n := 1) mw_456 rfl rfl ⟨by decide, by decide⟩ rfl (by exact Nat.le_of_ble_eq_true rfl) (F.2.2.2.2.2.2.2.2.1 (RX6, 36, y_Mt_isLetterOrDigit) (by decide +kernel)) mw_455 mw_73 (by decide +kernel) d_ReferenceWays_start_11 hP hD hS hl (c_Mt_isLetterOrDigit l D cA z ad sMt sSource sTokens sReferenceWays sTagWays sCommentWays sOut a1 rfl H.size)) ?_
    refine g_if_eq F (tgt := 21) d_ReferenceWays_start_14 (by decide) (fun h => ?_) (fun h => ?_)
    · rw [if_pos h] at hf
      refine g_aload_n F d_ReferenceWays_start_21 0 rfl ?_
      refine g_getS F (v := .ref (ad 2)) in_X6 3 rfl rfl 1 (by decide) mw_215 mw_216 rfl d_ReferenceWays_start_22 ?_
      refine g_bipush F (v := 38) d_ReferenceWays_start_25 (by decide) ?_
      obtain ⟨x1, hx1, hf⟩ := g_bind hf
      refine g_cv F (ws' := (Wc z ad cA sMt sSource x1 sReferenceWays sTagWays sCommentWays sOut)) (fun H locs ls hP hD hS hl => g_runV F (As := [.int 38]) (n := 1) mw_416 rfl rfl ⟨by decide, by decide⟩ rfl (by exact Nat.le_of_ble_eq_true rfl) mw_460 mw_414 mw_415 mw_75 (by decide +kernel) d_ReferenceWays_start_27 hP hD hS hl (va_recv F.2.2.2.2.2.1 hP (ci := 2) rfl (q0 := 2) rfl) (c_Tokens_add l D cA z ad sMt sSource sTokens sReferenceWays sTagWays sCommentWays sOut 38 hx1 H.size)) ?_
      refine g_aload_n F d_ReferenceWays_start_30 0 rfl ?_
      refine g_get F (v := .ref (z.1 sReferenceWays)) in_X6 3 rfl rfl 2 (by decide) mw_198 rfl d_ReferenceWays_start_31 ?_
      cases hf
      exact g_aret F hr (Or.inl ⟨_, rfl⟩) hlk rfl rfl rfl d_ReferenceWays_start_34
    · rw [if_neg h] at hf
      refine g_way F 4 (by decide) mw_458 d_ReferenceWays_start_17 ?_
      cases hf
      exact g_aret F hr (Or.inl ⟨_, rfl⟩) hlk rfl rfl rfl d_ReferenceWays_start_20
  · rw [if_pos h] at hf
    refine g_way F 6 (by decide) mw_452 d_ReferenceWays_start_6 ?_
    cases hf
    exact g_aret F hr (Or.inl ⟨_, rfl⟩) hlk rfl rfl rfl d_ReferenceWays_start_9
set_option maxHeartbeats 4000000 in
set_option maxRecDepth 100000 in
theorem c_Source_place (l : Launch) (D : va_G) (cA : Nat → ClassId) (z : gZ) (ad : Nat → Nat) (sMt : SMt) (sSource : SSource) (sTokens : STokens) (sReferenceWays : SReferenceWays) (sTagWays : STagWays) (sCommentWays : SCommentWays) (sOut : SOut) {x : Int32} (hf : f_Source_place sSource = x) (sz : Nat) : Met l y_Source_place (.code y_Source_place b_Source_place 1 (some .int) :: lw_g) { frames := 0, cells := 0, slots := 0, locals := 0 } (gP D (gT cA) z [.ref (ad 1)] (Wc z ad cA sMt sSource sTokens sReferenceWays sTagWays sCommentWays sOut) sz) (gQi D (gT cA) (va_A (Wc z ad cA sMt sSource sTokens sReferenceWays sTagWays sCommentWays sOut) sz) x (Wc z ad cA sMt sSource sTokens sReferenceWays sTagWays sCommentWays sOut)) 0 0 (va_A (Wc z ad cA sMt sSource sTokens sReferenceWays sTagWays sCommentWays sOut) sz) := by
  refine g_met (by decide) (Nat.le_of_ble_eq_true rfl) rfl ?_
  intro p e s m args below meth c F hr hlk
  unfold f_Source_place at hf
  refine g_aload_n F d_Source_place_0 0 rfl ?_
  refine g_get F (v := .int (q_Source_place sSource)) in_X7 1 rfl rfl 2 (by decide) mw_110 rfl d_Source_place_1 ?_
  subst hf
  exact g_iret F hr hlk rfl rfl rfl d_Source_place_4
set_option maxHeartbeats 4000000 in
set_option maxRecDepth 100000 in
theorem c_Named_lengthIn (l : Launch) (D : va_G) (cA : Nat → ClassId) (z : gZ) (ad : Nat → Nat) (sMt : SMt) (sSource : SSource) (sTokens : STokens) (sReferenceWays : SReferenceWays) (sTagWays : STagWays) (sCommentWays : SCommentWays) (sOut : SOut) (k : Nat) (a2 : Int32) {x : Int32} (hf : f_Named_lengthIn k a2 sSource = some x) (sz : Nat) : Met l y_Named_lengthIn (.code y_Named_lengthIn b_Named_lengthIn 5 (some .int) :: lw_g) { frames := 6, cells := 0, slots := 0, locals := 150 } (gP D (gT cA) z [.ref (z.2.1 k), .ref (ad 1), .int a2] (Wc z ad cA sMt sSource sTokens sReferenceWays sTagWays sCommentWays sOut) sz) (gQi D (gT cA) (va_A (Wc z ad cA sMt sSource sTokens sReferenceWays sTagWays sCommentWays sOut) sz) x (Wc z ad cA sMt sSource sTokens sReferenceWays sTagWays sCommentWays sOut)) 0 0 (va_A (Wc z ad cA sMt sSource sTokens sReferenceWays sTagWays sCommentWays sOut) sz) := by
  refine g_met (by decide) (Nat.le_of_ble_eq_true rfl) rfl ?_
  intro p e s m args below meth c F hr hlk
  have blk11 : ∀ (n : Nat) (v2 : Int32) (v3 : Int32) (v4 : Int32), f_Named_lengthIn_11 n k v2 v3 v4 sSource = some x → GW p l e { frames := 6, cells := 0, slots := 0, locals := 150 } s m args below meth c (gQi D (gT cA) (va_A (Wc z ad cA sMt sSource sTokens sReferenceWays sTagWays sCommentWays sOut) sz) x (Wc z ad cA sMt sSource sTokens sReferenceWays sTagWays sCommentWays sOut)) D (va_A (Wc z ad cA sMt sSource sTokens sReferenceWays sTagWays sCommentWays sOut) sz) 5 (Wc z ad cA sMt sSource sTokens sReferenceWays sTagWays sCommentWays sOut) 11 [(0, .ref (z.2.1 k)), (1, .ref (ad 1)), (2, .int v2), (3, .int v3), (4, .int v4)] [] := by
    intro n
    induction n with
    | zero => intro _ _ _ hf; cases hf
    | succ n ih =>
      intro v2 v3 v4 hf
      rw [f_Named_lengthIn_11] at hf
      refine g_iload F d_Named_lengthIn_11 4 rfl ?_
      refine g_iload_n F d_Named_lengthIn_13 3 rfl ?_
      refine g_icmp_ge F (tgt := 45) d_Named_lengthIn_14 (by decide) (fun h => ?_) (fun h => ?_)
      · rw [if_pos h] at hf
        refine g_aload_n F d_Named_lengthIn_45 1 rfl ?_
        refine g_iload_n F d_Named_lengthIn_46 2 rfl ?_
        refine g_iload_n F d_Named_lengthIn_47 3 rfl ?_
        refine g_iadd F d_Named_lengthIn_48 ?_
        obtain ⟨x1, hx1, hf⟩ := g_bind hf
        refine g_ci F (r0 := x1) (ws' := (Wc z ad cA sMt sSource sTokens sReferenceWays sTagWays sCommentWays sOut)) (fun H locs ls hP hD hS hl => g_runV F (As := [.int (v2 + v3)]) (n := 1) mw_367 rfl rfl ⟨by decide, by decide⟩ rfl (by exact Nat.le_of_ble_eq_true rfl) mw_489 mw_365 mw_366 mw_74 (by decide +kernel) d_Named_lengthIn_49 hP hD hS hl (va_recv F.2.2.2.2.2.1 hP (ci := 1) rfl (q0 := 1) rfl) (c_Source_character l D cA z ad sMt sSource sTokens sReferenceWays sTagWays sCommentWays sOut (v2 + v3) hx1 H.size)) ?_
        refine g_bipush F (v := 59) d_Named_lengthIn_52 (by decide) ?_
        refine g_icmp_ne F (tgt := 61) d_Named_lengthIn_54 (by decide) (fun h => ?_) (fun h => ?_)
        · rw [if_neg h] at hf
          refine g_aload_n F d_Named_lengthIn_61 0 rfl ?_
          obtain ⟨k1, hf⟩ := g_chk hf
          refine g_of F (F.2.2.2.2.2.2.2.1.2.1 _ k1).2.2.2 mw_1455 d_Named_lengthIn_62 ?_
          refine g_if_eq F (tgt := 72) d_Named_lengthIn_65 (by decide) (fun h => ?_) (fun h => ?_)
          · rw [if_pos h] at hf
            refine g_iconst F (v := 0) d_Named_lengthIn_72 (by decide) ?_
            cases hf
            exact g_iret F hr hlk rfl rfl rfl d_Named_lengthIn_73
          · rw [if_neg h] at hf
            refine g_iload_n F d_Named_lengthIn_68 3 rfl ?_
            refine g_goto F (tgt := 73) d_Named_lengthIn_69 (by decide) ?_
            cases hf
            exact g_iret F hr hlk rfl rfl rfl d_Named_lengthIn_73
        · rw [if_pos h] at hf
          refine g_iload_n F d_Named_lengthIn_57 3 rfl ?_
          refine g_iconst F (v := 1) d_Named_lengthIn_58 (by decide) ?_
          refine g_iadd F d_Named_lengthIn_59 ?_
          cases hf
          exact g_iret F hr hlk rfl rfl rfl d_Named_lengthIn_60
      · rw [if_neg h] at hf
        refine g_aload_n F d_Named_lengthIn_17 1 rfl ?_
        refine g_iload_n F d_Named_lengthIn_18 2 rfl ?_
        refine g_iload F d_Named_lengthIn_19 4 rfl ?_
        refine g_iadd F d_Named_lengthIn_21 ?_
        obtain ⟨x2, hx2, hf⟩ := g_bind hf
        refine g_ci F (r0 := x2) (ws' := (Wc z ad cA sMt sSource sTokens sReferenceWays sTagWays sCommentWays sOut)) (fun H locs ls hP hD hS hl => g_runV F (As := [.int (v2 + v4)]) (n := 1) mw_367 rfl rfl ⟨by decide, by decide⟩ rfl (by exact Nat.le_of_ble_eq_true rfl) mw_489 mw_365 mw_366 mw_74 (by decide +kernel) d_Named_lengthIn_22 hP hD hS hl (va_recv F.2.2.2.2.2.1 hP (ci := 1) rfl (q0 := 1) rfl) (c_Source_character l D cA z ad sMt sSource sTokens sReferenceWays sTagWays sCommentWays sOut (v2 + v4) hx2 H.size)) ?_
        refine g_aload_n F d_Named_lengthIn_25 0 rfl ?_
        obtain ⟨k2, hf⟩ := g_chk hf
        refine g_of F (F.2.2.2.2.2.2.2.1.2.1 _ k2).2.1 mw_1452 d_Named_lengthIn_26 ?_
        refine g_iload F d_Named_lengthIn_29 4 rfl ?_
        obtain ⟨k3, hf⟩ := g_chk hf
        obtain ⟨k4, hf⟩ := g_chk hf
        refine g_ci F (r0 := ((zs (nm_letters k)).getD (v4 : Int32).toNatClampNeg 0)) (ws' := (Wc z ad cA sMt sSource sTokens sReferenceWays sTagWays sCommentWays sOut)) (fun H locs ls hP hD hS hl => g_runV F (As := [.int v4]) (n := 1) mw_493 rfl rfl ⟨by decide, by decide⟩ rfl (by exact Nat.le_of_ble_eq_true rfl) mw_490 mw_491 mw_492 mw_90 (by decide +kernel) d_Named_lengthIn_31 hP hD hS hl (zh_o (F.2.2.2.2.2.2.2.1.2.2.1 _ k3).1 hS) (c_String_charAt l D (gT cA) z (Wc z ad cA sMt sSource sTokens sReferenceWays sTagWays sCommentWays sOut) (nm_letters k) k3 v4 k4 H.size)) ?_
        refine g_icmp_eq F (tgt := 39) d_Named_lengthIn_34 (by decide) (fun h => ?_) (fun h => ?_)
        · rw [if_pos h] at hf
          refine g_iinc F (j := 4) (v := (v4 + 1)) (L' := [(4, .int (v4 + 1)), (0, .ref (z.2.1 k)), (1, .ref (ad 1)), (2, .int v2), (3, .int v3)]) d_Named_lengthIn_39 rfl rfl (by decide) rfl ?_
          refine g_goto F (tgt := 11) d_Named_lengthIn_42 (by decide) ?_
          refine g_loc [1, 2, 3, 4, 0] rfl ?_
          exact ih v2 v3 (v4 + 1) hf
        · rw [if_neg h] at hf
          refine g_iconst F (v := 0) d_Named_lengthIn_37 (by decide) ?_
          cases hf
          exact g_iret F hr hlk rfl rfl rfl d_Named_lengthIn_38
  unfold f_Named_lengthIn at hf
  refine g_aload_n F d_Named_lengthIn_0 0 rfl ?_
  obtain ⟨k5, hf⟩ := g_chk hf
  refine g_of F (F.2.2.2.2.2.2.2.1.2.1 _ k5).2.1 mw_1452 d_Named_lengthIn_1 ?_
  obtain ⟨k6, hf⟩ := g_chk hf
  refine g_ci F (r0 := (nI (zs (nm_letters k)).length)) (ws' := (Wc z ad cA sMt sSource sTokens sReferenceWays sTagWays sCommentWays sOut)) (fun H locs ls hP hD hS hl => g_runV F (As := []) (n := 0) mw_482 rfl rfl ⟨by decide, by decide⟩ rfl (by exact Nat.le_of_ble_eq_true rfl) mw_479 mw_480 mw_481 mw_90 (by decide +kernel) d_Named_lengthIn_4 hP hD hS hl (zh_o (F.2.2.2.2.2.2.2.1.2.2.1 _ k6).1 hS) (c_String_length l D (gT cA) z (Wc z ad cA sMt sSource sTokens sReferenceWays sTagWays sCommentWays sOut) (nm_letters k) k6 H.size)) ?_
  refine g_istore_n F (L' := [(3, .int (nI (zs (nm_letters k)).length)), (0, .ref (z.2.1 k)), (1, .ref (ad 1)), (2, .int a2)]) d_Named_lengthIn_7 rfl (by decide) rfl ?_
  refine g_iconst F (v := 0) d_Named_lengthIn_8 (by decide) ?_
  refine g_istore F (L' := [(4, .int 0), (3, .int (nI (zs (nm_letters k)).length)), (0, .ref (z.2.1 k)), (1, .ref (ad 1)), (2, .int a2)]) d_Named_lengthIn_9 (by decide) rfl ?_
  refine g_loc [2, 3, 4, 1, 0] rfl ?_
  exact blk11 FU a2 (nI (zs (nm_letters k)).length) 0 hf
