set_option maxHeartbeats 4000000 in
set_option maxRecDepth 100000 in
theorem c_DoctypeWays_start (l : Launch) (D : va_G) (cA : Nat → ClassId) (z : gZ) (ad : Nat → Nat) (sMt : SMt) (sSource : SSource) (sTokens : STokens) (sReferenceWays : SReferenceWays) (sTagWays : STagWays) (sCommentWays : SCommentWays) (sOut : SOut) (a1 : Int32) {x : Nat × SSource} (hf : f_DoctypeWays_start a1 sSource = some x) (sz : Nat) : Met l y_DoctypeWays_start (.code y_DoctypeWays_start b_DoctypeWays_start 2 (some (.object "MarkupTokens$Way")) :: lw_g) { frames := 1, cells := 0, slots := 0, locals := 21 } (gP D (gT cA) z [.ref (ad 6), .int a1] (Wc z ad cA sMt sSource sTokens sReferenceWays sTagWays sCommentWays sOut) sz) (gQq D (gT cA) (va_A (Wc z ad cA sMt sSource sTokens sReferenceWays sTagWays sCommentWays sOut) sz) (some (z.1 x.1)) (Wc z ad cA sMt x.2 sTokens sReferenceWays sTagWays sCommentWays sOut)) 0 0 (va_A (Wc z ad cA sMt sSource sTokens sReferenceWays sTagWays sCommentWays sOut) sz) := by
  refine g_met (by decide) (Nat.le_of_ble_eq_true rfl) rfl ?_
  intro p e s m args below meth c F hr hlk
  unfold f_DoctypeWays_start at hf
  refine g_iload_n F d_DoctypeWays_start_0 1 rfl ?_
  refine g_ci F (r0 := (f_Mt_isBlank a1)) (ws' := (Wc z ad cA sMt sSource sTokens sReferenceWays sTagWays sCommentWays sOut)) (fun H locs ls hP hD hS hl => g_runSN F (As := [.int a1]) (n := 1) mw_585 rfl rfl ⟨by decide, by decide⟩ rfl (by exact Nat.le_of_ble_eq_true rfl) (F.2.2.2.2.2.2.2.2.1 (RX2, 34, y_Mt_isBlank) (by decide +kernel)) mw_584 mw_73 (by decide +kernel) d_DoctypeWays_start_1 hP hD hS hl (c_Mt_isBlank l D cA z ad sMt sSource sTokens sReferenceWays sTagWays sCommentWays sOut a1 rfl H.size)) ?_
  refine g_if_eq F (tgt := 18) d_DoctypeWays_start_4 (by decide) (fun h => ?_) (fun h => ?_)
  · rw [if_pos h] at hf
    refine g_iload_n F d_DoctypeWays_start_18 1 rfl ?_
    refine g_bipush F (v := 62) d_DoctypeWays_start_19 (by decide) ?_
    refine g_icmp_eq F (tgt := 38) d_DoctypeWays_start_21 (by decide) (fun h => ?_) (fun h => ?_)
    · rw [if_pos h] at hf
      refine g_way F 25 (by decide) mw_833 d_DoctypeWays_start_38 ?_
      cases hf
      exact g_aret F hr (Or.inl ⟨_, rfl⟩) hlk rfl rfl rfl d_DoctypeWays_start_41
    · rw [if_neg h] at hf
      refine g_iload_n F d_DoctypeWays_start_24 1 rfl ?_
      refine g_iconst F (v := (-1)) d_DoctypeWays_start_25 (by decide) ?_
      refine g_icmp_eq F (tgt := 38) d_DoctypeWays_start_26 (by decide) (fun h => ?_) (fun h => ?_)
      · rw [if_pos h] at hf
        refine g_way F 25 (by decide) mw_833 d_DoctypeWays_start_38 ?_
        cases hf
        exact g_aret F hr (Or.inl ⟨_, rfl⟩) hlk rfl rfl rfl d_DoctypeWays_start_41
      · rw [if_neg h] at hf
        refine g_aload_n F d_DoctypeWays_start_29 0 rfl ?_
        refine g_getS F (v := .ref (ad 1)) in_X2 6 rfl rfl 0 (by decide) mw_202 mw_203 rfl d_DoctypeWays_start_30 ?_
        refine g_bipush F (v := 21) d_DoctypeWays_start_33 (by decide) ?_
        obtain ⟨x1, hx1, hf⟩ := g_bind hf
        refine g_cv F (ws' := (Wc z ad cA sMt x1 sTokens sReferenceWays sTagWays sCommentWays sOut)) (fun H locs ls hP hD hS hl => g_runV F (As := [.int 21]) (n := 1) mw_408 rfl rfl ⟨by decide, by decide⟩ rfl (by exact Nat.le_of_ble_eq_true rfl) mw_836 mw_406 mw_407 mw_74 (by decide +kernel) d_DoctypeWays_start_35 hP hD hS hl (va_recv F.2.2.2.2.2.1 hP (ci := 1) rfl (q0 := 1) rfl) (c_Source_wrong l D cA z ad sMt sSource sTokens sReferenceWays sTagWays sCommentWays sOut 21 hx1 H.size)) ?_
        refine g_way F 25 (by decide) mw_833 d_DoctypeWays_start_38 ?_
        cases hf
        exact g_aret F hr (Or.inl ⟨_, rfl⟩) hlk rfl rfl rfl d_DoctypeWays_start_41
  · rw [if_neg h] at hf
    refine g_aload_n F d_DoctypeWays_start_7 0 rfl ?_
    refine g_getS F (v := .ref (ad 1)) in_X2 6 rfl rfl 0 (by decide) mw_202 mw_203 rfl d_DoctypeWays_start_8 ?_
    refine g_way F 25 (by decide) mw_833 d_DoctypeWays_start_11 ?_
    refine g_cw F (r0 := z.1 ((f_Source_then 25 sSource).1)) (ws' := (Wc z ad cA sMt ((f_Source_then 25 sSource).2) sTokens sReferenceWays sTagWays sCommentWays sOut)) (fun H locs ls hP hD hS hl => g_runV F (As := [.ref (z.1 25)]) (n := 1) mw_401 rfl rfl ⟨by decide, by decide⟩ rfl (by exact Nat.le_of_ble_eq_true rfl) mw_835 mw_399 mw_400 mw_74 (by decide +kernel) d_DoctypeWays_start_14 hP hD hS hl (va_recv F.2.2.2.2.2.1 hP (ci := 1) rfl (q0 := 1) rfl) (c_Source_then l D cA z ad sMt sSource sTokens sReferenceWays sTagWays sCommentWays sOut 25 rfl H.size)) ?_
    cases hf
    exact g_aret F hr (Or.inl ⟨_, rfl⟩) hlk rfl rfl rfl d_DoctypeWays_start_17
set_option maxHeartbeats 4000000 in
set_option maxRecDepth 100000 in
theorem c_DoctypeWays_oddAtEnd (l : Launch) (D : va_G) (cA : Nat → ClassId) (z : gZ) (ad : Nat → Nat) (sMt : SMt) (sSource : SSource) (sTokens : STokens) (sReferenceWays : SReferenceWays) (sTagWays : STagWays) (sCommentWays : SCommentWays) (sOut : SOut) {x : Nat × SSource × STokens} (hf : f_DoctypeWays_oddAtEnd sSource sTokens = some x) (sz : Nat) : Met l y_DoctypeWays_oddAtEnd (.code y_DoctypeWays_oddAtEnd b_DoctypeWays_oddAtEnd 1 (some (.object "MarkupTokens$Way")) :: lw_g) { frames := 2, cells := 0, slots := 0, locals := 40 } (gP D (gT cA) z [.ref (ad 6)] (Wc z ad cA sMt sSource sTokens sReferenceWays sTagWays sCommentWays sOut) sz) (gQq D (gT cA) (va_A (Wc z ad cA sMt sSource sTokens sReferenceWays sTagWays sCommentWays sOut) sz) (some (z.1 x.1)) (Wc z ad cA sMt x.2.1 x.2.2 sReferenceWays sTagWays sCommentWays sOut)) 0 0 (va_A (Wc z ad cA sMt sSource sTokens sReferenceWays sTagWays sCommentWays sOut) sz) := by
  refine g_met (by decide) (Nat.le_of_ble_eq_true rfl) rfl ?_
  intro p e s m args below meth c F hr hlk
  unfold f_DoctypeWays_oddAtEnd at hf
  refine g_aload_n F d_DoctypeWays_oddAtEnd_0 0 rfl ?_
  refine g_getS F (v := .ref (ad 1)) in_X2 6 rfl rfl 0 (by decide) mw_202 mw_203 rfl d_DoctypeWays_oddAtEnd_1 ?_
  refine g_bipush F (v := 23) d_DoctypeWays_oddAtEnd_4 (by decide) ?_
  obtain ⟨x1, hx1, hf⟩ := g_bind hf
  refine g_cv F (ws' := (Wc z ad cA sMt x1 sTokens sReferenceWays sTagWays sCommentWays sOut)) (fun H locs ls hP hD hS hl => g_runV F (As := [.int 23]) (n := 1) mw_408 rfl rfl ⟨by decide, by decide⟩ rfl (by exact Nat.le_of_ble_eq_true rfl) mw_836 mw_406 mw_407 mw_74 (by decide +kernel) d_DoctypeWays_oddAtEnd_6 hP hD hS hl (va_recv F.2.2.2.2.2.1 hP (ci := 1) rfl (q0 := 1) rfl) (c_Source_wrong l D cA z ad sMt sSource sTokens sReferenceWays sTagWays sCommentWays sOut 23 hx1 H.size)) ?_
  refine g_aload_n F d_DoctypeWays_oddAtEnd_9 0 rfl ?_
  refine g_getS F (v := .ref (ad 2)) in_X2 6 rfl rfl 1 (by decide) mw_211 mw_212 rfl d_DoctypeWays_oddAtEnd_10 ?_
  refine g_iconst F (v := 1) d_DoctypeWays_oddAtEnd_13 (by decide) ?_
  obtain ⟨x2, hx2, hf⟩ := g_bind hf
  refine g_cv F (ws' := (Wc z ad cA sMt x1 x2 sReferenceWays sTagWays sCommentWays sOut)) (fun H locs ls hP hD hS hl => g_runV F (As := [.int 1]) (n := 1) mw_638 rfl rfl ⟨by decide, by decide⟩ rfl (by exact Nat.le_of_ble_eq_true rfl) mw_842 mw_636 mw_637 mw_75 (by decide +kernel) d_DoctypeWays_oddAtEnd_14 hP hD hS hl (va_recv F.2.2.2.2.2.1 hP (ci := 2) rfl (q0 := 2) rfl) (c_Tokens_setMark l D cA z ad sMt x1 sTokens sReferenceWays sTagWays sCommentWays sOut 1 hx2 H.size)) ?_
  refine g_aload_n F d_DoctypeWays_oddAtEnd_17 0 rfl ?_
  obtain ⟨x3, hx3, hf⟩ := g_bind hf
  refine g_cw F (r0 := z.1 x3.1) (ws' := (Wc z ad cA sMt x1 x3.2 sReferenceWays sTagWays sCommentWays sOut)) (fun H locs ls hP hD hS hl => g_runU F (As := []) (n := 0) mw_771 rfl rfl ⟨by decide, by decide⟩ rfl (by exact Nat.le_of_ble_eq_true rfl) mw_850 mw_851 mw_852 mw_770 mw_76 rfl (by decide +kernel) d_DoctypeWays_oddAtEnd_18 hP hD hS hl (va_recv F.2.2.2.2.2.1 hP (ci := 6) rfl (q0 := 6) rfl) (c_Ways_toldAtEnd_DoctypeWays l D cA z ad sMt x1 x2 sReferenceWays sTagWays sCommentWays sOut hx3 H.size)) ?_
  cases hf
  exact g_aret F hr (Or.inl ⟨_, rfl⟩) hlk rfl rfl rfl d_DoctypeWays_oddAtEnd_21
set_option maxHeartbeats 4000000 in
set_option maxRecDepth 100000 in
theorem c_DoctypeWays_before (l : Launch) (D : va_G) (cA : Nat → ClassId) (z : gZ) (ad : Nat → Nat) (sMt : SMt) (sSource : SSource) (sTokens : STokens) (sReferenceWays : SReferenceWays) (sTagWays : STagWays) (sCommentWays : SCommentWays) (sOut : SOut) (a1 : Int32) {x : Nat × SSource × STokens} (hf : f_DoctypeWays_before a1 sSource sTokens = some x) (sz : Nat) : Met l y_DoctypeWays_before (.code y_DoctypeWays_before b_DoctypeWays_before 2 (some (.object "MarkupTokens$Way")) :: lw_g) { frames := 3, cells := 0, slots := 0, locals := 60 } (gP D (gT cA) z [.ref (ad 6), .int a1] (Wc z ad cA sMt sSource sTokens sReferenceWays sTagWays sCommentWays sOut) sz) (gQq D (gT cA) (va_A (Wc z ad cA sMt sSource sTokens sReferenceWays sTagWays sCommentWays sOut) sz) (some (z.1 x.1)) (Wc z ad cA sMt x.2.1 x.2.2 sReferenceWays sTagWays sCommentWays sOut)) 0 0 (va_A (Wc z ad cA sMt sSource sTokens sReferenceWays sTagWays sCommentWays sOut) sz) := by
  refine g_met (by decide) (Nat.le_of_ble_eq_true rfl) rfl ?_
  intro p e s m args below meth c F hr hlk
  unfold f_DoctypeWays_before at hf
  refine g_iload_n F d_DoctypeWays_before_0 1 rfl ?_
  refine g_ci F (r0 := (f_Mt_isBlank a1)) (ws' := (Wc z ad cA sMt sSource sTokens sReferenceWays sTagWays sCommentWays sOut)) (fun H locs ls hP hD hS hl => g_runSN F (As := [.int a1]) (n := 1) mw_585 rfl rfl ⟨by decide, by decide⟩ rfl (by exact Nat.le_of_ble_eq_true rfl) (F.2.2.2.2.2.2.2.2.1 (RX2, 34, y_Mt_isBlank) (by decide +kernel)) mw_584 mw_73 (by decide +kernel) d_DoctypeWays_before_1 hP hD hS hl (c_Mt_isBlank l D cA z ad sMt sSource sTokens sReferenceWays sTagWays sCommentWays sOut a1 rfl H.size)) ?_
  refine g_if_eq F (tgt := 18) d_DoctypeWays_before_4 (by decide) (fun h => ?_) (fun h => ?_)
  · rw [if_pos h] at hf
    refine g_aload_n F d_DoctypeWays_before_18 0 rfl ?_
    refine g_getS F (v := .ref (ad 2)) in_X2 6 rfl rfl 1 (by decide) mw_211 mw_212 rfl d_DoctypeWays_before_19 ?_
    refine g_iconst F (v := 4) d_DoctypeWays_before_22 (by decide) ?_
    obtain ⟨x1, hx1, hf⟩ := g_bind hf
    refine g_cv F (ws' := (Wc z ad cA sMt sSource x1 sReferenceWays sTagWays sCommentWays sOut)) (fun H locs ls hP hD hS hl => g_runV F (As := [.int 4]) (n := 1) mw_427 rfl rfl ⟨by decide, by decide⟩ rfl (by exact Nat.le_of_ble_eq_true rfl) mw_841 mw_425 mw_426 mw_75 (by decide +kernel) d_DoctypeWays_before_23 hP hD hS hl (va_recv F.2.2.2.2.2.1 hP (ci := 2) rfl (q0 := 2) rfl) (c_Tokens_begin l D cA z ad sMt sSource sTokens sReferenceWays sTagWays sCommentWays sOut 4 hx1 H.size)) ?_
    refine g_iload_n F d_DoctypeWays_before_26 1 rfl ?_
    by_cases q1 : a1 = (-1)
    · rw [if_pos q1] at hf
      refine g_lookup F (off := 47) (tgt := 74) d_DoctypeWays_before_27 (by decide) (by rw [q1]; decide) (by decide) ?_
      refine g_aload_n F d_DoctypeWays_before_74 0 rfl ?_
      obtain ⟨x2, hx2, hf⟩ := g_bind hf
      refine g_cw F (r0 := z.1 x2.1) (ws' := (Wc z ad cA sMt x2.2.1 x2.2.2 sReferenceWays sTagWays sCommentWays sOut)) (fun H locs ls hP hD hS hl => g_runV F (As := []) (n := 0) mw_849 rfl rfl ⟨by decide, by decide⟩ rfl (by exact Nat.le_of_ble_eq_true rfl) mw_846 mw_848 mw_21 mw_83 (by decide +kernel) d_DoctypeWays_before_75 hP hD hS hl (va_recv F.2.2.2.2.2.1 hP (ci := 6) rfl (q0 := 6) rfl) (c_DoctypeWays_oddAtEnd l D cA z ad sMt sSource x1 sReferenceWays sTagWays sCommentWays sOut hx2 H.size)) ?_
      cases hf
      exact g_aret F hr (Or.inl ⟨_, rfl⟩) hlk rfl rfl rfl d_DoctypeWays_before_78
    rw [if_neg q1] at hf
    by_cases q2 : a1 = 62
    · rw [if_pos q2] at hf
      refine g_lookup F (off := 25) (tgt := 52) d_DoctypeWays_before_27 (by decide) (by rw [q2]; decide) (by decide) ?_
      refine g_aload_n F d_DoctypeWays_before_52 0 rfl ?_
      refine g_getS F (v := .ref (ad 1)) in_X2 6 rfl rfl 0 (by decide) mw_202 mw_203 rfl d_DoctypeWays_before_53 ?_
      refine g_bipush F (v := 22) d_DoctypeWays_before_56 (by decide) ?_
      obtain ⟨x3, hx3, hf⟩ := g_bind hf
      refine g_cv F (ws' := (Wc z ad cA sMt x3 x1 sReferenceWays sTagWays sCommentWays sOut)) (fun H locs ls hP hD hS hl => g_runV F (As := [.int 22]) (n := 1) mw_408 rfl rfl ⟨by decide, by decide⟩ rfl (by exact Nat.le_of_ble_eq_true rfl) mw_836 mw_406 mw_407 mw_74 (by decide +kernel) d_DoctypeWays_before_58 hP hD hS hl (va_recv F.2.2.2.2.2.1 hP (ci := 1) rfl (q0 := 1) rfl) (c_Source_wrong l D cA z ad sMt sSource x1 sReferenceWays sTagWays sCommentWays sOut 22 hx3 H.size)) ?_
      refine g_aload_n F d_DoctypeWays_before_61 0 rfl ?_
      refine g_getS F (v := .ref (ad 2)) in_X2 6 rfl rfl 1 (by decide) mw_211 mw_212 rfl d_DoctypeWays_before_62 ?_
      refine g_iconst F (v := 1) d_DoctypeWays_before_65 (by decide) ?_
      obtain ⟨x4, hx4, hf⟩ := g_bind hf
      refine g_cv F (ws' := (Wc z ad cA sMt x3 x4 sReferenceWays sTagWays sCommentWays sOut)) (fun H locs ls hP hD hS hl => g_runV F (As := [.int 1]) (n := 1) mw_638 rfl rfl ⟨by decide, by decide⟩ rfl (by exact Nat.le_of_ble_eq_true rfl) mw_842 mw_636 mw_637 mw_75 (by decide +kernel) d_DoctypeWays_before_66 hP hD hS hl (va_recv F.2.2.2.2.2.1 hP (ci := 2) rfl (q0 := 2) rfl) (c_Tokens_setMark l D cA z ad sMt x3 x1 sReferenceWays sTagWays sCommentWays sOut 1 hx4 H.size)) ?_
      refine g_aload_n F d_DoctypeWays_before_69 0 rfl ?_
      obtain ⟨x5, hx5, hf⟩ := g_bind hf
      refine g_cw F (r0 := z.1 x5.1) (ws' := (Wc z ad cA sMt x5.2.1 x5.2.2 sReferenceWays sTagWays sCommentWays sOut)) (fun H locs ls hP hD hS hl => g_runU F (As := []) (n := 0) mw_761 rfl rfl ⟨by decide, by decide⟩ rfl (by exact Nat.le_of_ble_eq_true rfl) mw_843 mw_844 mw_845 mw_760 mw_76 rfl (by decide +kernel) d_DoctypeWays_before_70 hP hD hS hl (va_recv F.2.2.2.2.2.1 hP (ci := 6) rfl (q0 := 6) rfl) (c_Ways_done_DoctypeWays l D cA z ad sMt x3 x4 sReferenceWays sTagWays sCommentWays sOut hx5 H.size)) ?_
      cases hf
      exact g_aret F hr (Or.inl ⟨_, rfl⟩) hlk rfl rfl rfl d_DoctypeWays_before_73
    rw [if_neg q2] at hf
    refine g_lookup F (off := 52) (tgt := 79) d_DoctypeWays_before_27 (by decide) (show Op.lookupswitch.offset ([((-1), 47), (62, 25)] : List (Int × Int)) 52 (a1 : Int32).toInt = 52 by rw [lv_osw (k := (-1)) q1 (by decide), lv_osw (k := 62) q2 (by decide)]; rfl) (by decide) ?_
    refine g_way F 26 (by decide) mw_853 d_DoctypeWays_before_79 ?_
    cases hf
    exact g_aret F hr (Or.inl ⟨_, rfl⟩) hlk rfl rfl rfl d_DoctypeWays_before_82
  · rw [if_neg h] at hf
    refine g_aload_n F d_DoctypeWays_before_7 0 rfl ?_
    refine g_getS F (v := .ref (ad 1)) in_X2 6 rfl rfl 0 (by decide) mw_202 mw_203 rfl d_DoctypeWays_before_8 ?_
    refine g_way F 25 (by decide) mw_833 d_DoctypeWays_before_11 ?_
    refine g_cw F (r0 := z.1 ((f_Source_then 25 sSource).1)) (ws' := (Wc z ad cA sMt ((f_Source_then 25 sSource).2) sTokens sReferenceWays sTagWays sCommentWays sOut)) (fun H locs ls hP hD hS hl => g_runV F (As := [.ref (z.1 25)]) (n := 1) mw_401 rfl rfl ⟨by decide, by decide⟩ rfl (by exact Nat.le_of_ble_eq_true rfl) mw_835 mw_399 mw_400 mw_74 (by decide +kernel) d_DoctypeWays_before_14 hP hD hS hl (va_recv F.2.2.2.2.2.1 hP (ci := 1) rfl (q0 := 1) rfl) (c_Source_then l D cA z ad sMt sSource sTokens sReferenceWays sTagWays sCommentWays sOut 25 rfl H.size)) ?_
    cases hf
    exact g_aret F hr (Or.inl ⟨_, rfl⟩) hlk rfl rfl rfl d_DoctypeWays_before_17
set_option maxHeartbeats 4000000 in
set_option maxRecDepth 100000 in
theorem c_DoctypeWays_name (l : Launch) (D : va_G) (cA : Nat → ClassId) (z : gZ) (ad : Nat → Nat) (sMt : SMt) (sSource : SSource) (sTokens : STokens) (sReferenceWays : SReferenceWays) (sTagWays : STagWays) (sCommentWays : SCommentWays) (sOut : SOut) (a1 : Int32) {x : Nat × SSource × STokens} (hf : f_DoctypeWays_name a1 sSource sTokens = some x) (sz : Nat) : Met l y_DoctypeWays_name (.code y_DoctypeWays_name b_DoctypeWays_name 2 (some (.object "MarkupTokens$Way")) :: lw_g) { frames := 3, cells := 0, slots := 0, locals := 60 } (gP D (gT cA) z [.ref (ad 6), .int a1] (Wc z ad cA sMt sSource sTokens sReferenceWays sTagWays sCommentWays sOut) sz) (gQq D (gT cA) (va_A (Wc z ad cA sMt sSource sTokens sReferenceWays sTagWays sCommentWays sOut) sz) (some (z.1 x.1)) (Wc z ad cA sMt x.2.1 x.2.2 sReferenceWays sTagWays sCommentWays sOut)) 0 0 (va_A (Wc z ad cA sMt sSource sTokens sReferenceWays sTagWays sCommentWays sOut) sz) := by
  refine g_met (by decide) (Nat.le_of_ble_eq_true rfl) rfl ?_
  intro p e s m args below meth c F hr hlk
  unfold f_DoctypeWays_name at hf
  refine g_iload_n F d_DoctypeWays_name_0 1 rfl ?_
  refine g_ci F (r0 := (f_Mt_isBlank a1)) (ws' := (Wc z ad cA sMt sSource sTokens sReferenceWays sTagWays sCommentWays sOut)) (fun H locs ls hP hD hS hl => g_runSN F (As := [.int a1]) (n := 1) mw_585 rfl rfl ⟨by decide, by decide⟩ rfl (by exact Nat.le_of_ble_eq_true rfl) (F.2.2.2.2.2.2.2.2.1 (RX2, 34, y_Mt_isBlank) (by decide +kernel)) mw_584 mw_73 (by decide +kernel) d_DoctypeWays_name_1 hP hD hS hl (c_Mt_isBlank l D cA z ad sMt sSource sTokens sReferenceWays sTagWays sCommentWays sOut a1 rfl H.size)) ?_
  refine g_if_eq F (tgt := 18) d_DoctypeWays_name_4 (by decide) (fun h => ?_) (fun h => ?_)
  · rw [if_pos h] at hf
    refine g_iload_n F d_DoctypeWays_name_18 1 rfl ?_
    by_cases q1 : a1 = (-1)
    · rw [if_pos q1] at hf
      refine g_lookup F (off := 30) (tgt := 49) d_DoctypeWays_name_19 (by decide) (by rw [q1]; decide) (by decide) ?_
      refine g_aload_n F d_DoctypeWays_name_49 0 rfl ?_
      obtain ⟨x1, hx1, hf⟩ := g_bind hf
      refine g_cw F (r0 := z.1 x1.1) (ws' := (Wc z ad cA sMt x1.2.1 x1.2.2 sReferenceWays sTagWays sCommentWays sOut)) (fun H locs ls hP hD hS hl => g_runV F (As := []) (n := 0) mw_849 rfl rfl ⟨by decide, by decide⟩ rfl (by exact Nat.le_of_ble_eq_true rfl) mw_846 mw_848 mw_21 mw_83 (by decide +kernel) d_DoctypeWays_name_50 hP hD hS hl (va_recv F.2.2.2.2.2.1 hP (ci := 6) rfl (q0 := 6) rfl) (c_DoctypeWays_oddAtEnd l D cA z ad sMt sSource sTokens sReferenceWays sTagWays sCommentWays sOut hx1 H.size)) ?_
      cases hf
      exact g_aret F hr (Or.inl ⟨_, rfl⟩) hlk rfl rfl rfl d_DoctypeWays_name_53
    rw [if_neg q1] at hf
    by_cases q2 : a1 = 62
    · rw [if_pos q2] at hf
      refine g_lookup F (off := 25) (tgt := 44) d_DoctypeWays_name_19 (by decide) (by rw [q2]; decide) (by decide) ?_
      refine g_aload_n F d_DoctypeWays_name_44 0 rfl ?_
      obtain ⟨x2, hx2, hf⟩ := g_bind hf
      refine g_cw F (r0 := z.1 x2.1) (ws' := (Wc z ad cA sMt x2.2.1 x2.2.2 sReferenceWays sTagWays sCommentWays sOut)) (fun H locs ls hP hD hS hl => g_runU F (As := []) (n := 0) mw_761 rfl rfl ⟨by decide, by decide⟩ rfl (by exact Nat.le_of_ble_eq_true rfl) mw_843 mw_844 mw_845 mw_760 mw_76 rfl (by decide +kernel) d_DoctypeWays_name_45 hP hD hS hl (va_recv F.2.2.2.2.2.1 hP (ci := 6) rfl (q0 := 6) rfl) (c_Ways_done_DoctypeWays l D cA z ad sMt sSource sTokens sReferenceWays sTagWays sCommentWays sOut hx2 H.size)) ?_
      cases hf
      exact g_aret F hr (Or.inl ⟨_, rfl⟩) hlk rfl rfl rfl d_DoctypeWays_name_48
    rw [if_neg q2] at hf
    refine g_lookup F (off := 35) (tgt := 54) d_DoctypeWays_name_19 (by decide) (show Op.lookupswitch.offset ([((-1), 30), (62, 25)] : List (Int × Int)) 35 (a1 : Int32).toInt = 35 by rw [lv_osw (k := (-1)) q1 (by decide), lv_osw (k := 62) q2 (by decide)]; rfl) (by decide) ?_
    refine g_aload_n F d_DoctypeWays_name_54 0 rfl ?_
    refine g_iload_n F d_DoctypeWays_name_55 1 rfl ?_
    refine g_ci F (r0 := (f_Mt_lowered a1)) (ws' := (Wc z ad cA sMt sSource sTokens sReferenceWays sTagWays sCommentWays sOut)) (fun H locs ls hP hD hS hl => g_runSN F (As := [.int a1]) (n := 1) mw_555 rfl rfl ⟨by decide, by decide⟩ rfl (by exact Nat.le_of_ble_eq_true rfl) (F.2.2.2.2.2.2.2.2.1 (RX2, 63, y_Mt_lowered) (by decide +kernel)) mw_554 mw_73 (by decide +kernel) d_DoctypeWays_name_56 hP hD hS hl (c_Mt_lowered l D cA z ad sMt sSource sTokens sReferenceWays sTagWays sCommentWays sOut a1 rfl H.size)) ?_
    obtain ⟨x3, hx3, hf⟩ := g_bind hf
    refine g_cv F (ws' := (Wc z ad cA sMt x3.1 x3.2 sReferenceWays sTagWays sCommentWays sOut)) (fun H locs ls hP hD hS hl => g_runU F (As := [.int (f_Mt_lowered a1)]) (n := 1) mw_657 rfl rfl ⟨by decide, by decide⟩ rfl (by exact Nat.le_of_ble_eq_true rfl) mw_862 mw_863 mw_864 mw_656 mw_76 rfl (by decide +kernel) d_DoctypeWays_name_59 hP hD hS hl (va_recv F.2.2.2.2.2.1 hP (ci := 6) rfl (q0 := 6) rfl) (c_Ways_addKnown_DoctypeWays l D cA z ad sMt sSource sTokens sReferenceWays sTagWays sCommentWays sOut (f_Mt_lowered a1) hx3 H.size)) ?_
    refine g_aload_n F d_DoctypeWays_name_62 0 rfl ?_
    refine g_getS F (v := .ref (ad 1)) in_X2 6 rfl rfl 0 (by decide) mw_202 mw_203 rfl d_DoctypeWays_name_63 ?_
    refine g_way F 26 (by decide) mw_853 d_DoctypeWays_name_66 ?_
    refine g_cw F (r0 := z.1 ((f_Source_then 26 x3.1).1)) (ws' := (Wc z ad cA sMt ((f_Source_then 26 x3.1).2) x3.2 sReferenceWays sTagWays sCommentWays sOut)) (fun H locs ls hP hD hS hl => g_runV F (As := [.ref (z.1 26)]) (n := 1) mw_401 rfl rfl ⟨by decide, by decide⟩ rfl (by exact Nat.le_of_ble_eq_true rfl) mw_835 mw_399 mw_400 mw_74 (by decide +kernel) d_DoctypeWays_name_69 hP hD hS hl (va_recv F.2.2.2.2.2.1 hP (ci := 1) rfl (q0 := 1) rfl) (c_Source_then l D cA z ad sMt x3.1 x3.2 sReferenceWays sTagWays sCommentWays sOut 26 rfl H.size)) ?_
    cases hf
    exact g_aret F hr (Or.inl ⟨_, rfl⟩) hlk rfl rfl rfl d_DoctypeWays_name_72
  · rw [if_neg h] at hf
    refine g_aload_n F d_DoctypeWays_name_7 0 rfl ?_
    refine g_getS F (v := .ref (ad 1)) in_X2 6 rfl rfl 0 (by decide) mw_202 mw_203 rfl d_DoctypeWays_name_8 ?_
    refine g_way F 27 (by decide) mw_859 d_DoctypeWays_name_11 ?_
    refine g_cw F (r0 := z.1 ((f_Source_then 27 sSource).1)) (ws' := (Wc z ad cA sMt ((f_Source_then 27 sSource).2) sTokens sReferenceWays sTagWays sCommentWays sOut)) (fun H locs ls hP hD hS hl => g_runV F (As := [.ref (z.1 27)]) (n := 1) mw_401 rfl rfl ⟨by decide, by decide⟩ rfl (by exact Nat.le_of_ble_eq_true rfl) mw_835 mw_399 mw_400 mw_74 (by decide +kernel) d_DoctypeWays_name_14 hP hD hS hl (va_recv F.2.2.2.2.2.1 hP (ci := 1) rfl (q0 := 1) rfl) (c_Source_then l D cA z ad sMt sSource sTokens sReferenceWays sTagWays sCommentWays sOut 27 rfl H.size)) ?_
    cases hf
    exact g_aret F hr (Or.inl ⟨_, rfl⟩) hlk rfl rfl rfl d_DoctypeWays_name_17
set_option maxHeartbeats 4000000 in
set_option maxRecDepth 100000 in
theorem c_DoctypeWays_after (l : Launch) (D : va_G) (cA : Nat → ClassId) (z : gZ) (ad : Nat → Nat) (sMt : SMt) (sSource : SSource) (sTokens : STokens) (sReferenceWays : SReferenceWays) (sTagWays : STagWays) (sCommentWays : SCommentWays) (sOut : SOut) (a1 : Int32) {x : Nat × SSource × STokens} (hf : f_DoctypeWays_after a1 sSource sTokens = some x) (sz : Nat) : Met l y_DoctypeWays_after (.code y_DoctypeWays_after b_DoctypeWays_after 2 (some (.object "MarkupTokens$Way")) :: lw_g) { frames := 3, cells := 0, slots := 0, locals := 60 } (gP D (gT cA) z [.ref (ad 6), .int a1] (Wc z ad cA sMt sSource sTokens sReferenceWays sTagWays sCommentWays sOut) sz) (gQq D (gT cA) (va_A (Wc z ad cA sMt sSource sTokens sReferenceWays sTagWays sCommentWays sOut) sz) (some (z.1 x.1)) (Wc z ad cA sMt x.2.1 x.2.2 sReferenceWays sTagWays sCommentWays sOut)) 0 0 (va_A (Wc z ad cA sMt sSource sTokens sReferenceWays sTagWays sCommentWays sOut) sz) := by
  refine g_met (by decide) (Nat.le_of_ble_eq_true rfl) rfl ?_
  intro p e s m args below meth c F hr hlk
  unfold f_DoctypeWays_after at hf
  refine g_iload_n F d_DoctypeWays_after_0 1 rfl ?_
  refine g_ci F (r0 := (f_Mt_isBlank a1)) (ws' := (Wc z ad cA sMt sSource sTokens sReferenceWays sTagWays sCommentWays sOut)) (fun H locs ls hP hD hS hl => g_runSN F (As := [.int a1]) (n := 1) mw_585 rfl rfl ⟨by decide, by decide⟩ rfl (by exact Nat.le_of_ble_eq_true rfl) (F.2.2.2.2.2.2.2.2.1 (RX2, 34, y_Mt_isBlank) (by decide +kernel)) mw_584 mw_73 (by decide +kernel) d_DoctypeWays_after_1 hP hD hS hl (c_Mt_isBlank l D cA z ad sMt sSource sTokens sReferenceWays sTagWays sCommentWays sOut a1 rfl H.size)) ?_
  refine g_if_eq F (tgt := 18) d_DoctypeWays_after_4 (by decide) (fun h => ?_) (fun h => ?_)
  · rw [if_pos h] at hf
    refine g_iload_n F d_DoctypeWays_after_18 1 rfl ?_
    by_cases q1 : a1 = (-1)
    · rw [if_pos q1] at hf
      refine g_lookup F (off := 30) (tgt := 49) d_DoctypeWays_after_19 (by decide) (by rw [q1]; decide) (by decide) ?_
      refine g_aload_n F d_DoctypeWays_after_49 0 rfl ?_
      obtain ⟨x1, hx1, hf⟩ := g_bind hf
      refine g_cw F (r0 := z.1 x1.1) (ws' := (Wc z ad cA sMt x1.2.1 x1.2.2 sReferenceWays sTagWays sCommentWays sOut)) (fun H locs ls hP hD hS hl => g_runV F (As := []) (n := 0) mw_849 rfl rfl ⟨by decide, by decide⟩ rfl (by exact Nat.le_of_ble_eq_true rfl) mw_846 mw_848 mw_21 mw_83 (by decide +kernel) d_DoctypeWays_after_50 hP hD hS hl (va_recv F.2.2.2.2.2.1 hP (ci := 6) rfl (q0 := 6) rfl) (c_DoctypeWays_oddAtEnd l D cA z ad sMt sSource sTokens sReferenceWays sTagWays sCommentWays sOut hx1 H.size)) ?_
      cases hf
      exact g_aret F hr (Or.inl ⟨_, rfl⟩) hlk rfl rfl rfl d_DoctypeWays_after_53
    rw [if_neg q1] at hf
    by_cases q2 : a1 = 62
    · rw [if_pos q2] at hf
      refine g_lookup F (off := 25) (tgt := 44) d_DoctypeWays_after_19 (by decide) (by rw [q2]; decide) (by decide) ?_
      refine g_aload_n F d_DoctypeWays_after_44 0 rfl ?_
      obtain ⟨x2, hx2, hf⟩ := g_bind hf
      refine g_cw F (r0 := z.1 x2.1) (ws' := (Wc z ad cA sMt x2.2.1 x2.2.2 sReferenceWays sTagWays sCommentWays sOut)) (fun H locs ls hP hD hS hl => g_runU F (As := []) (n := 0) mw_761 rfl rfl ⟨by decide, by decide⟩ rfl (by exact Nat.le_of_ble_eq_true rfl) mw_843 mw_844 mw_845 mw_760 mw_76 rfl (by decide +kernel) d_DoctypeWays_after_45 hP hD hS hl (va_recv F.2.2.2.2.2.1 hP (ci := 6) rfl (q0 := 6) rfl) (c_Ways_done_DoctypeWays l D cA z ad sMt sSource sTokens sReferenceWays sTagWays sCommentWays sOut hx2 H.size)) ?_
      cases hf
      exact g_aret F hr (Or.inl ⟨_, rfl⟩) hlk rfl rfl rfl d_DoctypeWays_after_48
    rw [if_neg q2] at hf
    refine g_lookup F (off := 35) (tgt := 54) d_DoctypeWays_after_19 (by decide) (show Op.lookupswitch.offset ([((-1), 30), (62, 25)] : List (Int × Int)) 35 (a1 : Int32).toInt = 35 by rw [lv_osw (k := (-1)) q1 (by decide), lv_osw (k := 62) q2 (by decide)]; rfl) (by decide) ?_
    refine g_aload_n F d_DoctypeWays_after_54 0 rfl ?_
    refine g_getS F (v := .ref (ad 1)) in_X2 6 rfl rfl 0 (by decide) mw_202 mw_203 rfl d_DoctypeWays_after_55 ?_
    refine g_bipush F (v := 24) d_DoctypeWays_after_58 (by decide) ?_
    obtain ⟨x3, hx3, hf⟩ := g_bind hf
    refine g_cv F (ws' := (Wc z ad cA sMt x3 sTokens sReferenceWays sTagWays sCommentWays sOut)) (fun H locs ls hP hD hS hl => g_runV F (As := [.int 24]) (n := 1) mw_408 rfl rfl ⟨by decide, by decide⟩ rfl (by exact Nat.le_of_ble_eq_true rfl) mw_836 mw_406 mw_407 mw_74 (by decide +kernel) d_DoctypeWays_after_60 hP hD hS hl (va_recv F.2.2.2.2.2.1 hP (ci := 1) rfl (q0 := 1) rfl) (c_Source_wrong l D cA z ad sMt sSource sTokens sReferenceWays sTagWays sCommentWays sOut 24 hx3 H.size)) ?_
    refine g_aload_n F d_DoctypeWays_after_63 0 rfl ?_
    refine g_getS F (v := .ref (ad 2)) in_X2 6 rfl rfl 1 (by decide) mw_211 mw_212 rfl d_DoctypeWays_after_64 ?_
    refine g_iconst F (v := 1) d_DoctypeWays_after_67 (by decide) ?_
    obtain ⟨x4, hx4, hf⟩ := g_bind hf
    refine g_cv F (ws' := (Wc z ad cA sMt x3 x4 sReferenceWays sTagWays sCommentWays sOut)) (fun H locs ls hP hD hS hl => g_runV F (As := [.int 1]) (n := 1) mw_638 rfl rfl ⟨by decide, by decide⟩ rfl (by exact Nat.le_of_ble_eq_true rfl) mw_842 mw_636 mw_637 mw_75 (by decide +kernel) d_DoctypeWays_after_68 hP hD hS hl (va_recv F.2.2.2.2.2.1 hP (ci := 2) rfl (q0 := 2) rfl) (c_Tokens_setMark l D cA z ad sMt x3 sTokens sReferenceWays sTagWays sCommentWays sOut 1 hx4 H.size)) ?_
    refine g_way F 28 (by decide) mw_869 d_DoctypeWays_after_71 ?_
    cases hf
    exact g_aret F hr (Or.inl ⟨_, rfl⟩) hlk rfl rfl rfl d_DoctypeWays_after_74
  · rw [if_neg h] at hf
    refine g_aload_n F d_DoctypeWays_after_7 0 rfl ?_
    refine g_getS F (v := .ref (ad 1)) in_X2 6 rfl rfl 0 (by decide) mw_202 mw_203 rfl d_DoctypeWays_after_8 ?_
    refine g_way F 27 (by decide) mw_859 d_DoctypeWays_after_11 ?_
    refine g_cw F (r0 := z.1 ((f_Source_then 27 sSource).1)) (ws' := (Wc z ad cA sMt ((f_Source_then 27 sSource).2) sTokens sReferenceWays sTagWays sCommentWays sOut)) (fun H locs ls hP hD hS hl => g_runV F (As := [.ref (z.1 27)]) (n := 1) mw_401 rfl rfl ⟨by decide, by decide⟩ rfl (by exact Nat.le_of_ble_eq_true rfl) mw_835 mw_399 mw_400 mw_74 (by decide +kernel) d_DoctypeWays_after_14 hP hD hS hl (va_recv F.2.2.2.2.2.1 hP (ci := 1) rfl (q0 := 1) rfl) (c_Source_then l D cA z ad sMt sSource sTokens sReferenceWays sTagWays sCommentWays sOut 27 rfl H.size)) ?_
    cases hf
    exact g_aret F hr (Or.inl ⟨_, rfl⟩) hlk rfl rfl rfl d_DoctypeWays_after_17
set_option maxHeartbeats 4000000 in
set_option maxRecDepth 100000 in
theorem c_DoctypeWays_odd (l : Launch) (D : va_G) (cA : Nat → ClassId) (z : gZ) (ad : Nat → Nat) (sMt : SMt) (sSource : SSource) (sTokens : STokens) (sReferenceWays : SReferenceWays) (sTagWays : STagWays) (sCommentWays : SCommentWays) (sOut : SOut) (a1 : Int32) {x : Nat × SSource × STokens} (hf : f_DoctypeWays_odd a1 sSource sTokens = some x) (sz : Nat) : Met l y_DoctypeWays_odd (.code y_DoctypeWays_odd b_DoctypeWays_odd 2 (some (.object "MarkupTokens$Way")) :: lw_g) { frames := 2, cells := 0, slots := 0, locals := 41 } (gP D (gT cA) z [.ref (ad 6), .int a1] (Wc z ad cA sMt sSource sTokens sReferenceWays sTagWays sCommentWays sOut) sz) (gQq D (gT cA) (va_A (Wc z ad cA sMt sSource sTokens sReferenceWays sTagWays sCommentWays sOut) sz) (some (z.1 x.1)) (Wc z ad cA sMt x.2.1 x.2.2 sReferenceWays sTagWays sCommentWays sOut)) 0 0 (va_A (Wc z ad cA sMt sSource sTokens sReferenceWays sTagWays sCommentWays sOut) sz) := by
  refine g_met (by decide) (Nat.le_of_ble_eq_true rfl) rfl ?_
  intro p e s m args below meth c F hr hlk
  unfold f_DoctypeWays_odd at hf
  refine g_iload_n F d_DoctypeWays_odd_0 1 rfl ?_
  by_cases q1 : a1 = (-1)
  · rw [if_pos q1] at hf
    refine g_lookup F (off := 40) (tgt := 41) d_DoctypeWays_odd_1 (by decide) (by rw [q1]; decide) (by decide) ?_
    refine g_aload_n F d_DoctypeWays_odd_41 0 rfl ?_
    obtain ⟨x1, hx1, hf⟩ := g_bind hf
    refine g_cw F (r0 := z.1 x1.1) (ws' := (Wc z ad cA sMt sSource x1.2 sReferenceWays sTagWays sCommentWays sOut)) (fun H locs ls hP hD hS hl => g_runU F (As := []) (n := 0) mw_771 rfl rfl ⟨by decide, by decide⟩ rfl (by exact Nat.le_of_ble_eq_true rfl) mw_850 mw_851 mw_852 mw_770 mw_76 rfl (by decide +kernel) d_DoctypeWays_odd_42 hP hD hS hl (va_recv F.2.2.2.2.2.1 hP (ci := 6) rfl (q0 := 6) rfl) (c_Ways_toldAtEnd_DoctypeWays l D cA z ad sMt sSource sTokens sReferenceWays sTagWays sCommentWays sOut hx1 H.size)) ?_
    cases hf
    exact g_aret F hr (Or.inl ⟨_, rfl⟩) hlk rfl rfl rfl d_DoctypeWays_odd_45
  rw [if_neg q1] at hf
  by_cases q2 : a1 = 0
  · rw [if_pos q2] at hf
    refine g_lookup F (off := 45) (tgt := 46) d_DoctypeWays_odd_1 (by decide) (by rw [q2]; decide) (by decide) ?_
    refine g_aload_n F d_DoctypeWays_odd_46 0 rfl ?_
    refine g_getS F (v := .ref (ad 1)) in_X2 6 rfl rfl 0 (by decide) mw_202 mw_203 rfl d_DoctypeWays_odd_47 ?_
    refine g_iconst F (v := 1) d_DoctypeWays_odd_50 (by decide) ?_
    obtain ⟨x2, hx2, hf⟩ := g_bind hf
    refine g_cv F (ws' := (Wc z ad cA sMt x2 sTokens sReferenceWays sTagWays sCommentWays sOut)) (fun H locs ls hP hD hS hl => g_runV F (As := [.int 1]) (n := 1) mw_408 rfl rfl ⟨by decide, by decide⟩ rfl (by exact Nat.le_of_ble_eq_true rfl) mw_836 mw_406 mw_407 mw_74 (by decide +kernel) d_DoctypeWays_odd_51 hP hD hS hl (va_recv F.2.2.2.2.2.1 hP (ci := 1) rfl (q0 := 1) rfl) (c_Source_wrong l D cA z ad sMt sSource sTokens sReferenceWays sTagWays sCommentWays sOut 1 hx2 H.size)) ?_
    refine g_aload_n F d_DoctypeWays_odd_54 0 rfl ?_
    refine g_getS F (v := .ref (ad 1)) in_X2 6 rfl rfl 0 (by decide) mw_202 mw_203 rfl d_DoctypeWays_odd_55 ?_
    refine g_way F 28 (by decide) mw_869 d_DoctypeWays_odd_58 ?_
    refine g_cw F (r0 := z.1 ((f_Source_then 28 x2).1)) (ws' := (Wc z ad cA sMt ((f_Source_then 28 x2).2) sTokens sReferenceWays sTagWays sCommentWays sOut)) (fun H locs ls hP hD hS hl => g_runV F (As := [.ref (z.1 28)]) (n := 1) mw_401 rfl rfl ⟨by decide, by decide⟩ rfl (by exact Nat.le_of_ble_eq_true rfl) mw_835 mw_399 mw_400 mw_74 (by decide +kernel) d_DoctypeWays_odd_61 hP hD hS hl (va_recv F.2.2.2.2.2.1 hP (ci := 1) rfl (q0 := 1) rfl) (c_Source_then l D cA z ad sMt x2 sTokens sReferenceWays sTagWays sCommentWays sOut 28 rfl H.size)) ?_
    cases hf
    exact g_aret F hr (Or.inl ⟨_, rfl⟩) hlk rfl rfl rfl d_DoctypeWays_odd_64
  rw [if_neg q2] at hf
  by_cases q3 : a1 = 62
  · rw [if_pos q3] at hf
    refine g_lookup F (off := 35) (tgt := 36) d_DoctypeWays_odd_1 (by decide) (by rw [q3]; decide) (by decide) ?_
    refine g_aload_n F d_DoctypeWays_odd_36 0 rfl ?_
    obtain ⟨x3, hx3, hf⟩ := g_bind hf
    refine g_cw F (r0 := z.1 x3.1) (ws' := (Wc z ad cA sMt x3.2.1 x3.2.2 sReferenceWays sTagWays sCommentWays sOut)) (fun H locs ls hP hD hS hl => g_runU F (As := []) (n := 0) mw_761 rfl rfl ⟨by decide, by decide⟩ rfl (by exact Nat.le_of_ble_eq_true rfl) mw_843 mw_844 mw_845 mw_760 mw_76 rfl (by decide +kernel) d_DoctypeWays_odd_37 hP hD hS hl (va_recv F.2.2.2.2.2.1 hP (ci := 6) rfl (q0 := 6) rfl) (c_Ways_done_DoctypeWays l D cA z ad sMt sSource sTokens sReferenceWays sTagWays sCommentWays sOut hx3 H.size)) ?_
    cases hf
    exact g_aret F hr (Or.inl ⟨_, rfl⟩) hlk rfl rfl rfl d_DoctypeWays_odd_40
  rw [if_neg q3] at hf
  refine g_lookup F (off := 64) (tgt := 65) d_DoctypeWays_odd_1 (by decide) (show Op.lookupswitch.offset ([((-1), 40), (0, 45), (62, 35)] : List (Int × Int)) 64 (a1 : Int32).toInt = 64 by rw [lv_osw (k := (-1)) q1 (by decide), lv_osw (k := 0) q2 (by decide), lv_osw (k := 62) q3 (by decide)]; rfl) (by decide) ?_
  refine g_aload_n F d_DoctypeWays_odd_65 0 rfl ?_
  refine g_getS F (v := .ref (ad 1)) in_X2 6 rfl rfl 0 (by decide) mw_202 mw_203 rfl d_DoctypeWays_odd_66 ?_
  refine g_way F 28 (by decide) mw_869 d_DoctypeWays_odd_69 ?_
  refine g_cw F (r0 := z.1 ((f_Source_then 28 sSource).1)) (ws' := (Wc z ad cA sMt ((f_Source_then 28 sSource).2) sTokens sReferenceWays sTagWays sCommentWays sOut)) (fun H locs ls hP hD hS hl => g_runV F (As := [.ref (z.1 28)]) (n := 1) mw_401 rfl rfl ⟨by decide, by decide⟩ rfl (by exact Nat.le_of_ble_eq_true rfl) mw_835 mw_399 mw_400 mw_74 (by decide +kernel) d_DoctypeWays_odd_72 hP hD hS hl (va_recv F.2.2.2.2.2.1 hP (ci := 1) rfl (q0 := 1) rfl) (c_Source_then l D cA z ad sMt sSource sTokens sReferenceWays sTagWays sCommentWays sOut 28 rfl H.size)) ?_
  cases hf
  exact g_aret F hr (Or.inl ⟨_, rfl⟩) hlk rfl rfl rfl d_DoctypeWays_odd_75
set_option maxHeartbeats 4000000 in
set_option maxRecDepth 100000 in
theorem c_Reader_follow (l : Launch) (D : va_G) (cA : Nat → ClassId) (z : gZ) (ad : Nat → Nat) (sMt : SMt) (sSource : SSource) (sTokens : STokens) (sReferenceWays : SReferenceWays) (sTagWays : STagWays) (sCommentWays : SCommentWays) (sOut : SOut) (a1 : Nat) (a2 : Int32) {x : Nat × SCommentWays × SReferenceWays × SSource × STagWays × STokens} (hf : f_Reader_follow a1 a2 sCommentWays sReferenceWays sSource sTagWays sTokens = some x) (sz : Nat) : Met l y_Reader_follow (.code y_Reader_follow b_Reader_follow 3 (some (.object "MarkupTokens$Way")) :: lw_g) { frames := 9, cells := 0, slots := 0, locals := 224 } (gP D (gT cA) z [.ref (ad 7), .ref (z.1 a1), .int a2] (Wc z ad cA sMt sSource sTokens sReferenceWays sTagWays sCommentWays sOut) sz) (gQq D (gT cA) (va_A (Wc z ad cA sMt sSource sTokens sReferenceWays sTagWays sCommentWays sOut) sz) (some (z.1 x.1)) (Wc z ad cA sMt x.2.2.2.1 x.2.2.2.2.2 x.2.2.1 x.2.2.2.2.1 x.2.1 sOut)) 0 0 (va_A (Wc z ad cA sMt sSource sTokens sReferenceWays sTagWays sCommentWays sOut) sz) := by
  refine g_met (by decide) (Nat.le_of_ble_eq_true rfl) rfl ?_
  intro p e s m args below meth c F hr hlk
  unfold f_Reader_follow at hf
  refine g_swmap F mw_372 d_Reader_follow_0 ?_
  refine g_aload_n F d_Reader_follow_3 1 rfl ?_
  obtain ⟨k1, hf⟩ := g_chk hf
  refine g_ci F (r0 := (nI a1)) (ws' := (Wc z ad cA sMt sSource sTokens sReferenceWays sTagWays sCommentWays sOut)) (fun H locs ls hP hD hS hl => g_runU F (As := []) (n := 0) mw_379 rfl rfl ⟨by decide, by decide⟩ rfl (by exact Nat.le_of_ble_eq_true rfl) mw_374 mw_375 mw_377 mw_378 mw_79 rfl (by decide +kernel) d_Reader_follow_4 hP hD hS hl (zh_o (F.2.2.2.2.2.2.2.1.1 _ k1).2.1 hS) (c_Enum_ordinal l D (gT cA) z (Wc z ad cA sMt sSource sTokens sReferenceWays sTagWays sCommentWays sOut) a1 k1 H.size)) ?_
  obtain ⟨k2, hf⟩ := g_chk hf
  refine g_swmap_at F k2 d_Reader_follow_7 ?_
  by_cases q3 : (ta__SwitchMap_MarkupTokens_Way ((nI a1) : Int32).toNatClampNeg) = 1
  · rw [if_pos q3] at hf
    refine g_tableIn F (off := 132) (tgt := 140) d_Reader_follow_8 (by rw [q3]; decide) (by rw [q3]; decide) (by rw [q3]; decide) (by decide) ?_
    refine g_aload_n F d_Reader_follow_140 0 rfl ?_
    refine g_iload_n F d_Reader_follow_141 2 rfl ?_
    obtain ⟨x1, hx1, hf⟩ := g_bind hf
    refine g_cw F (r0 := z.1 x1.1) (ws' := (Wc z ad cA sMt x1.2.2.1 x1.2.2.2 x1.2.1 sTagWays sCommentWays sOut)) (fun H locs ls hP hD hS hl => g_runV F (As := [.int a2]) (n := 1) mw_383 rfl rfl ⟨by decide, by decide⟩ rfl (by exact Nat.le_of_ble_eq_true rfl) mw_380 mw_382 mw_1 mw_77 (by decide +kernel) d_Reader_follow_142 hP hD hS hl (va_recv F.2.2.2.2.2.1 hP (ci := 7) rfl (q0 := 7) rfl) (c_Reader_data l D cA z ad sMt sSource sTokens sReferenceWays sTagWays sCommentWays sOut a2 hx1 H.size)) ?_
    cases hf
    exact g_aret F hr (Or.inl ⟨_, rfl⟩) hlk rfl rfl rfl d_Reader_follow_145
  rw [if_neg q3] at hf
  by_cases q4 : (ta__SwitchMap_MarkupTokens_Way ((nI a1) : Int32).toNatClampNeg) = 2
  · rw [if_pos q4] at hf
    refine g_tableIn F (off := 138) (tgt := 146) d_Reader_follow_8 (by rw [q4]; decide) (by rw [q4]; decide) (by rw [q4]; decide) (by decide) ?_
    refine g_aload_n F d_Reader_follow_146 0 rfl ?_
    refine g_iload_n F d_Reader_follow_147 2 rfl ?_
    obtain ⟨x2, hx2, hf⟩ := g_bind hf
    refine g_cw F (r0 := z.1 x2.1) (ws' := (Wc z ad cA sMt x2.2.1 x2.2.2 sReferenceWays sTagWays sCommentWays sOut)) (fun H locs ls hP hD hS hl => g_runV F (As := [.int a2]) (n := 1) mw_420 rfl rfl ⟨by decide, by decide⟩ rfl (by exact Nat.le_of_ble_eq_true rfl) mw_417 mw_419 mw_4 mw_77 (by decide +kernel) d_Reader_follow_148 hP hD hS hl (va_recv F.2.2.2.2.2.1 hP (ci := 7) rfl (q0 := 7) rfl) (c_Reader_tag l D cA z ad sMt sSource sTokens sReferenceWays sTagWays sCommentWays sOut a2 hx2 H.size)) ?_
    cases hf
    exact g_aret F hr (Or.inl ⟨_, rfl⟩) hlk rfl rfl rfl d_Reader_follow_151
  rw [if_neg q4] at hf
  by_cases q5 : (ta__SwitchMap_MarkupTokens_Way ((nI a1) : Int32).toNatClampNeg) = 3
  · rw [if_pos q5] at hf
    refine g_tableIn F (off := 144) (tgt := 152) d_Reader_follow_8 (by rw [q5]; decide) (by rw [q5]; decide) (by rw [q5]; decide) (by decide) ?_
    refine g_aload_n F d_Reader_follow_152 0 rfl ?_
    refine g_iload_n F d_Reader_follow_153 2 rfl ?_
    obtain ⟨x3, hx3, hf⟩ := g_bind hf
    refine g_cw F (r0 := z.1 x3.1) (ws' := (Wc z ad cA sMt x3.2.1 x3.2.2 sReferenceWays sTagWays sCommentWays sOut)) (fun H locs ls hP hD hS hl => g_runV F (As := [.int a2]) (n := 1) mw_447 rfl rfl ⟨by decide, by decide⟩ rfl (by exact Nat.le_of_ble_eq_true rfl) mw_444 mw_446 mw_6 mw_77 (by decide +kernel) d_Reader_follow_154 hP hD hS hl (va_recv F.2.2.2.2.2.1 hP (ci := 7) rfl (q0 := 7) rfl) (c_Reader_endTag l D cA z ad sMt sSource sTokens sReferenceWays sTagWays sCommentWays sOut a2 hx3 H.size)) ?_
    cases hf
    exact g_aret F hr (Or.inl ⟨_, rfl⟩) hlk rfl rfl rfl d_Reader_follow_157
  rw [if_neg q5] at hf
  by_cases q6 : (ta__SwitchMap_MarkupTokens_Way ((nI a1) : Int32).toNatClampNeg) = 4
  · rw [if_pos q6] at hf
    refine g_tableIn F (off := 150) (tgt := 158) d_Reader_follow_8 (by rw [q6]; decide) (by rw [q6]; decide) (by rw [q6]; decide) (by decide) ?_
    refine g_aload_n F d_Reader_follow_158 0 rfl ?_
    refine g_get F (v := .ref (ad 3)) in_X5 7 rfl rfl 2 (by decide) mw_264 rfl d_Reader_follow_159 ?_
    refine g_iload_n F d_Reader_follow_162 2 rfl ?_
    obtain ⟨x4, hx4, hf⟩ := g_bind hf
    refine g_cw F (r0 := z.1 x4.1) (ws' := (Wc z ad cA sMt sSource x4.2 sReferenceWays sTagWays sCommentWays sOut)) (fun H locs ls hP hD hS hl => g_runV F (As := [.int a2]) (n := 1) mw_451 rfl rfl ⟨by decide, by decide⟩ rfl (by exact Nat.le_of_ble_eq_true rfl) mw_448 mw_449 mw_450 mw_78 (by decide +kernel) d_Reader_follow_163 hP hD hS hl (va_recv F.2.2.2.2.2.1 hP (ci := 3) rfl (q0 := 3) rfl) (c_ReferenceWays_start l D cA z ad sMt sSource sTokens sReferenceWays sTagWays sCommentWays sOut a2 hx4 H.size)) ?_
    cases hf
    exact g_aret F hr (Or.inl ⟨_, rfl⟩) hlk rfl rfl rfl d_Reader_follow_166
  rw [if_neg q6] at hf
  by_cases q7 : (ta__SwitchMap_MarkupTokens_Way ((nI a1) : Int32).toNatClampNeg) = 5
  · rw [if_pos q7] at hf
    refine g_tableIn F (off := 159) (tgt := 167) d_Reader_follow_8 (by rw [q7]; decide) (by rw [q7]; decide) (by rw [q7]; decide) (by decide) ?_
    refine g_aload_n F d_Reader_follow_167 0 rfl ?_
    refine g_get F (v := .ref (ad 3)) in_X5 7 rfl rfl 2 (by decide) mw_264 rfl d_Reader_follow_168 ?_
    obtain ⟨x5, hx5, hf⟩ := g_bind hf
    refine g_cw F (r0 := z.1 x5.1) (ws' := (Wc z ad cA sMt x5.2.1 x5.2.2 sReferenceWays sTagWays sCommentWays sOut)) (fun H locs ls hP hD hS hl => g_runV F (As := []) (n := 0) mw_464 rfl rfl ⟨by decide, by decide⟩ rfl (by exact Nat.le_of_ble_eq_true rfl) mw_461 mw_462 mw_463 mw_78 (by decide +kernel) d_Reader_follow_171 hP hD hS hl (va_recv F.2.2.2.2.2.1 hP (ci := 3) rfl (q0 := 3) rfl) (c_ReferenceWays_named l D cA z ad sMt sSource sTokens sReferenceWays sTagWays sCommentWays sOut hx5 H.size)) ?_
    cases hf
    exact g_aret F hr (Or.inl ⟨_, rfl⟩) hlk rfl rfl rfl d_Reader_follow_174
  rw [if_neg q7] at hf
  by_cases q8 : (ta__SwitchMap_MarkupTokens_Way ((nI a1) : Int32).toNatClampNeg) = 6
  · rw [if_pos q8] at hf
    refine g_tableIn F (off := 167) (tgt := 175) d_Reader_follow_8 (by rw [q8]; decide) (by rw [q8]; decide) (by rw [q8]; decide) (by decide) ?_
    refine g_aload_n F d_Reader_follow_175 0 rfl ?_
    refine g_get F (v := .ref (ad 3)) in_X5 7 rfl rfl 2 (by decide) mw_264 rfl d_Reader_follow_176 ?_
    obtain ⟨x6, hx6, hf⟩ := g_bind hf
    refine g_cw F (r0 := z.1 x6.1) (ws' := (Wc z ad cA sMt x6.2.1 x6.2.2 sReferenceWays sTagWays sCommentWays sOut)) (fun H locs ls hP hD hS hl => g_runV F (As := []) (n := 0) mw_548 rfl rfl ⟨by decide, by decide⟩ rfl (by exact Nat.le_of_ble_eq_true rfl) mw_545 mw_546 mw_547 mw_78 (by decide +kernel) d_Reader_follow_179 hP hD hS hl (va_recv F.2.2.2.2.2.1 hP (ci := 3) rfl (q0 := 3) rfl) (c_ReferenceWays_unnamed l D cA z ad sMt sSource sTokens sReferenceWays sTagWays sCommentWays sOut hx6 H.size)) ?_
    cases hf
    exact g_aret F hr (Or.inl ⟨_, rfl⟩) hlk rfl rfl rfl d_Reader_follow_182
  rw [if_neg q8] at hf
  by_cases q9 : (ta__SwitchMap_MarkupTokens_Way ((nI a1) : Int32).toNatClampNeg) = 7
  · rw [if_pos q9] at hf
    refine g_tableIn F (off := 175) (tgt := 183) d_Reader_follow_8 (by rw [q9]; decide) (by rw [q9]; decide) (by rw [q9]; decide) (by decide) ?_
    refine g_aload_n F d_Reader_follow_183 0 rfl ?_
    refine g_get F (v := .ref (ad 3)) in_X5 7 rfl rfl 2 (by decide) mw_264 rfl d_Reader_follow_184 ?_
    obtain ⟨x7, hx7, hf⟩ := g_bind hf
    refine g_cw F (r0 := z.1 x7.1) (ws' := (Wc z ad cA sMt x7.2.1 x7.2.2 sReferenceWays sTagWays sCommentWays sOut)) (fun H locs ls hP hD hS hl => g_runV F (As := []) (n := 0) mw_552 rfl rfl ⟨by decide, by decide⟩ rfl (by exact Nat.le_of_ble_eq_true rfl) mw_549 mw_550 mw_551 mw_78 (by decide +kernel) d_Reader_follow_187 hP hD hS hl (va_recv F.2.2.2.2.2.1 hP (ci := 3) rfl (q0 := 3) rfl) (c_ReferenceWays_numbered l D cA z ad sMt sSource sTokens sReferenceWays sTagWays sCommentWays sOut hx7 H.size)) ?_
    cases hf
    exact g_aret F hr (Or.inl ⟨_, rfl⟩) hlk rfl rfl rfl d_Reader_follow_190
  rw [if_neg q9] at hf
  by_cases q10 : (ta__SwitchMap_MarkupTokens_Way ((nI a1) : Int32).toNatClampNeg) = 8
  · rw [if_pos q10] at hf
    refine g_tableIn F (off := 183) (tgt := 191) d_Reader_follow_8 (by rw [q10]; decide) (by rw [q10]; decide) (by rw [q10]; decide) (by decide) ?_
    refine g_aload_n F d_Reader_follow_191 0 rfl ?_
    refine g_get F (v := .ref (ad 4)) in_X5 7 rfl rfl 3 (by decide) mw_265 rfl d_Reader_follow_192 ?_
    refine g_iload_n F d_Reader_follow_195 2 rfl ?_
    obtain ⟨x8, hx8, hf⟩ := g_bind hf
    refine g_cw F (r0 := z.1 x8.1) (ws' := (Wc z ad cA sMt x8.2.1 x8.2.2 sReferenceWays sTagWays sCommentWays sOut)) (fun H locs ls hP hD hS hl => g_runV F (As := [.int a2]) (n := 1) mw_594 rfl rfl ⟨by decide, by decide⟩ rfl (by exact Nat.le_of_ble_eq_true rfl) mw_591 mw_592 mw_593 mw_81 (by decide +kernel) d_Reader_follow_196 hP hD hS hl (va_recv F.2.2.2.2.2.1 hP (ci := 4) rfl (q0 := 4) rfl) (c_TagWays_name l D cA z ad sMt sSource sTokens sReferenceWays sTagWays sCommentWays sOut a2 hx8 H.size)) ?_
    cases hf
    exact g_aret F hr (Or.inl ⟨_, rfl⟩) hlk rfl rfl rfl d_Reader_follow_199
  rw [if_neg q10] at hf
  by_cases q11 : (ta__SwitchMap_MarkupTokens_Way ((nI a1) : Int32).toNatClampNeg) = 9
  · rw [if_pos q11] at hf
    refine g_tableIn F (off := 192) (tgt := 200) d_Reader_follow_8 (by rw [q11]; decide) (by rw [q11]; decide) (by rw [q11]; decide) (by decide) ?_
    refine g_aload_n F d_Reader_follow_200 0 rfl ?_
    refine g_get F (v := .ref (ad 4)) in_X5 7 rfl rfl 3 (by decide) mw_265 rfl d_Reader_follow_201 ?_
    refine g_iload_n F d_Reader_follow_204 2 rfl ?_
    obtain ⟨x9, hx9, hf⟩ := g_bind hf
    refine g_cw F (r0 := z.1 x9.1) (ws' := (Wc z ad cA sMt x9.2.1 x9.2.2 sReferenceWays sTagWays sCommentWays sOut)) (fun H locs ls hP hD hS hl => g_runV F (As := [.int a2]) (n := 1) mw_665 rfl rfl ⟨by decide, by decide⟩ rfl (by exact Nat.le_of_ble_eq_true rfl) mw_662 mw_663 mw_664 mw_81 (by decide +kernel) d_Reader_follow_205 hP hD hS hl (va_recv F.2.2.2.2.2.1 hP (ci := 4) rfl (q0 := 4) rfl) (c_TagWays_before l D cA z ad sMt sSource sTokens sReferenceWays sTagWays sCommentWays sOut a2 hx9 H.size)) ?_
    cases hf
    exact g_aret F hr (Or.inl ⟨_, rfl⟩) hlk rfl rfl rfl d_Reader_follow_208
  rw [if_neg q11] at hf
  by_cases q12 : (ta__SwitchMap_MarkupTokens_Way ((nI a1) : Int32).toNatClampNeg) = 10
  · rw [if_pos q12] at hf
    refine g_tableIn F (off := 201) (tgt := 209) d_Reader_follow_8 (by rw [q12]; decide) (by rw [q12]; decide) (by rw [q12]; decide) (by decide) ?_
    refine g_aload_n F d_Reader_follow_209 0 rfl ?_
    refine g_get F (v := .ref (ad 4)) in_X5 7 rfl rfl 3 (by decide) mw_265 rfl d_Reader_follow_210 ?_
    refine g_iload_n F d_Reader_follow_213 2 rfl ?_
    obtain ⟨x10, hx10, hf⟩ := g_bind hf
    refine g_cw F (r0 := z.1 x10.1) (ws' := (Wc z ad cA sMt x10.2.1 x10.2.2 sReferenceWays sTagWays sCommentWays sOut)) (fun H locs ls hP hD hS hl => g_runV F (As := [.int a2]) (n := 1) mw_679 rfl rfl ⟨by decide, by decide⟩ rfl (by exact Nat.le_of_ble_eq_true rfl) mw_676 mw_677 mw_678 mw_81 (by decide +kernel) d_Reader_follow_214 hP hD hS hl (va_recv F.2.2.2.2.2.1 hP (ci := 4) rfl (q0 := 4) rfl) (c_TagWays_attribute l D cA z ad sMt sSource sTokens sReferenceWays sTagWays sCommentWays sOut a2 hx10 H.size)) ?_
    cases hf
    exact g_aret F hr (Or.inl ⟨_, rfl⟩) hlk rfl rfl rfl d_Reader_follow_217
  rw [if_neg q12] at hf
  by_cases q13 : (ta__SwitchMap_MarkupTokens_Way ((nI a1) : Int32).toNatClampNeg) = 11
  · rw [if_pos q13] at hf
    refine g_tableIn F (off := 210) (tgt := 218) d_Reader_follow_8 (by rw [q13]; decide) (by rw [q13]; decide) (by rw [q13]; decide) (by decide) ?_
    refine g_aload_n F d_Reader_follow_218 0 rfl ?_
    refine g_get F (v := .ref (ad 4)) in_X5 7 rfl rfl 3 (by decide) mw_265 rfl d_Reader_follow_219 ?_
    refine g_iload_n F d_Reader_follow_222 2 rfl ?_
    obtain ⟨x11, hx11, hf⟩ := g_bind hf
    refine g_cw F (r0 := z.1 x11.1) (ws' := (Wc z ad cA sMt x11.2.1 x11.2.2 sReferenceWays sTagWays sCommentWays sOut)) (fun H locs ls hP hD hS hl => g_runV F (As := [.int a2]) (n := 1) mw_705 rfl rfl ⟨by decide, by decide⟩ rfl (by exact Nat.le_of_ble_eq_true rfl) mw_702 mw_703 mw_704 mw_81 (by decide +kernel) d_Reader_follow_223 hP hD hS hl (va_recv F.2.2.2.2.2.1 hP (ci := 4) rfl (q0 := 4) rfl) (c_TagWays_after l D cA z ad sMt sSource sTokens sReferenceWays sTagWays sCommentWays sOut a2 hx11 H.size)) ?_
    cases hf
    exact g_aret F hr (Or.inl ⟨_, rfl⟩) hlk rfl rfl rfl d_Reader_follow_226
  rw [if_neg q13] at hf
  by_cases q14 : (ta__SwitchMap_MarkupTokens_Way ((nI a1) : Int32).toNatClampNeg) = 12
  · rw [if_pos q14] at hf
    refine g_tableIn F (off := 219) (tgt := 227) d_Reader_follow_8 (by rw [q14]; decide) (by rw [q14]; decide) (by rw [q14]; decide) (by decide) ?_
    refine g_aload_n F d_Reader_follow_227 0 rfl ?_
    refine g_get F (v := .ref (ad 4)) in_X5 7 rfl rfl 3 (by decide) mw_265 rfl d_Reader_follow_228 ?_
    refine g_iload_n F d_Reader_follow_231 2 rfl ?_
    obtain ⟨x12, hx12, hf⟩ := g_bind hf
    refine g_cw F (r0 := z.1 x12.1) (ws' := (Wc z ad cA sMt x12.2.1 x12.2.2.2 sReferenceWays x12.2.2.1 sCommentWays sOut)) (fun H locs ls hP hD hS hl => g_runV F (As := [.int a2]) (n := 1) mw_709 rfl rfl ⟨by decide, by decide⟩ rfl (by exact Nat.le_of_ble_eq_true rfl) mw_706 mw_707 mw_708 mw_81 (by decide +kernel) d_Reader_follow_232 hP hD hS hl (va_recv F.2.2.2.2.2.1 hP (ci := 4) rfl (q0 := 4) rfl) (c_TagWays_value l D cA z ad sMt sSource sTokens sReferenceWays sTagWays sCommentWays sOut a2 hx12 H.size)) ?_
    cases hf
    exact g_aret F hr (Or.inl ⟨_, rfl⟩) hlk rfl rfl rfl d_Reader_follow_235
  rw [if_neg q14] at hf
  by_cases q15 : (ta__SwitchMap_MarkupTokens_Way ((nI a1) : Int32).toNatClampNeg) = 13
  · rw [if_pos q15] at hf
    refine g_tableIn F (off := 228) (tgt := 236) d_Reader_follow_8 (by rw [q15]; decide) (by rw [q15]; decide) (by rw [q15]; decide) (by decide) ?_
    refine g_aload_n F d_Reader_follow_236 0 rfl ?_
    refine g_get F (v := .ref (ad 4)) in_X5 7 rfl rfl 3 (by decide) mw_265 rfl d_Reader_follow_237 ?_
    refine g_iload_n F d_Reader_follow_240 2 rfl ?_
    obtain ⟨x13, hx13, hf⟩ := g_bind hf
    refine g_cw F (r0 := z.1 x13.1) (ws' := (Wc z ad cA sMt x13.2.2.1 x13.2.2.2 x13.2.1 sTagWays sCommentWays sOut)) (fun H locs ls hP hD hS hl => g_runV F (As := [.int a2]) (n := 1) mw_717 rfl rfl ⟨by decide, by decide⟩ rfl (by exact Nat.le_of_ble_eq_true rfl) mw_714 mw_715 mw_716 mw_81 (by decide +kernel) d_Reader_follow_241 hP hD hS hl (va_recv F.2.2.2.2.2.1 hP (ci := 4) rfl (q0 := 4) rfl) (c_TagWays_quoted l D cA z ad sMt sSource sTokens sReferenceWays sTagWays sCommentWays sOut a2 hx13 H.size)) ?_
    cases hf
    exact g_aret F hr (Or.inl ⟨_, rfl⟩) hlk rfl rfl rfl d_Reader_follow_244
  rw [if_neg q15] at hf
  by_cases q16 : (ta__SwitchMap_MarkupTokens_Way ((nI a1) : Int32).toNatClampNeg) = 14
  · rw [if_pos q16] at hf
    refine g_tableIn F (off := 237) (tgt := 245) d_Reader_follow_8 (by rw [q16]; decide) (by rw [q16]; decide) (by rw [q16]; decide) (by decide) ?_
    refine g_aload_n F d_Reader_follow_245 0 rfl ?_
    refine g_get F (v := .ref (ad 4)) in_X5 7 rfl rfl 3 (by decide) mw_265 rfl d_Reader_follow_246 ?_
    refine g_iload_n F d_Reader_follow_249 2 rfl ?_
    obtain ⟨x14, hx14, hf⟩ := g_bind hf
    refine g_cw F (r0 := z.1 x14.1) (ws' := (Wc z ad cA sMt x14.2.2.1 x14.2.2.2 x14.2.1 sTagWays sCommentWays sOut)) (fun H locs ls hP hD hS hl => g_runV F (As := [.int a2]) (n := 1) mw_724 rfl rfl ⟨by decide, by decide⟩ rfl (by exact Nat.le_of_ble_eq_true rfl) mw_721 mw_722 mw_723 mw_81 (by decide +kernel) d_Reader_follow_250 hP hD hS hl (va_recv F.2.2.2.2.2.1 hP (ci := 4) rfl (q0 := 4) rfl) (c_TagWays_unquoted l D cA z ad sMt sSource sTokens sReferenceWays sTagWays sCommentWays sOut a2 hx14 H.size)) ?_
    cases hf
    exact g_aret F hr (Or.inl ⟨_, rfl⟩) hlk rfl rfl rfl d_Reader_follow_253
  rw [if_neg q16] at hf
  by_cases q17 : (ta__SwitchMap_MarkupTokens_Way ((nI a1) : Int32).toNatClampNeg) = 15
  · rw [if_pos q17] at hf
    refine g_tableIn F (off := 246) (tgt := 254) d_Reader_follow_8 (by rw [q17]; decide) (by rw [q17]; decide) (by rw [q17]; decide) (by decide) ?_
    refine g_aload_n F d_Reader_follow_254 0 rfl ?_
    refine g_get F (v := .ref (ad 4)) in_X5 7 rfl rfl 3 (by decide) mw_265 rfl d_Reader_follow_255 ?_
    refine g_iload_n F d_Reader_follow_258 2 rfl ?_
    obtain ⟨x15, hx15, hf⟩ := g_bind hf
    refine g_cw F (r0 := z.1 x15.1) (ws' := (Wc z ad cA sMt x15.2.1 x15.2.2 sReferenceWays sTagWays sCommentWays sOut)) (fun H locs ls hP hD hS hl => g_runV F (As := [.int a2]) (n := 1) mw_728 rfl rfl ⟨by decide, by decide⟩ rfl (by exact Nat.le_of_ble_eq_true rfl) mw_725 mw_726 mw_727 mw_81 (by decide +kernel) d_Reader_follow_259 hP hD hS hl (va_recv F.2.2.2.2.2.1 hP (ci := 4) rfl (q0 := 4) rfl) (c_TagWays_behind l D cA z ad sMt sSource sTokens sReferenceWays sTagWays sCommentWays sOut a2 hx15 H.size)) ?_
    cases hf
    exact g_aret F hr (Or.inl ⟨_, rfl⟩) hlk rfl rfl rfl d_Reader_follow_262
  rw [if_neg q17] at hf
  by_cases q18 : (ta__SwitchMap_MarkupTokens_Way ((nI a1) : Int32).toNatClampNeg) = 16
  · rw [if_pos q18] at hf
    refine g_tableIn F (off := 255) (tgt := 263) d_Reader_follow_8 (by rw [q18]; decide) (by rw [q18]; decide) (by rw [q18]; decide) (by decide) ?_
    refine g_aload_n F d_Reader_follow_263 0 rfl ?_
    refine g_get F (v := .ref (ad 4)) in_X5 7 rfl rfl 3 (by decide) mw_265 rfl d_Reader_follow_264 ?_
    refine g_iload_n F d_Reader_follow_267 2 rfl ?_
    obtain ⟨x16, hx16, hf⟩ := g_bind hf
    refine g_cw F (r0 := z.1 x16.1) (ws' := (Wc z ad cA sMt x16.2.1 x16.2.2 sReferenceWays sTagWays sCommentWays sOut)) (fun H locs ls hP hD hS hl => g_runV F (As := [.int a2]) (n := 1) mw_732 rfl rfl ⟨by decide, by decide⟩ rfl (by exact Nat.le_of_ble_eq_true rfl) mw_729 mw_730 mw_731 mw_81 (by decide +kernel) d_Reader_follow_268 hP hD hS hl (va_recv F.2.2.2.2.2.1 hP (ci := 4) rfl (q0 := 4) rfl) (c_TagWays_self l D cA z ad sMt sSource sTokens sReferenceWays sTagWays sCommentWays sOut a2 hx16 H.size)) ?_
    cases hf
    exact g_aret F hr (Or.inl ⟨_, rfl⟩) hlk rfl rfl rfl d_Reader_follow_271
  rw [if_neg q18] at hf
  by_cases q19 : (ta__SwitchMap_MarkupTokens_Way ((nI a1) : Int32).toNatClampNeg) = 17
  · rw [if_pos q19] at hf
    refine g_tableIn F (off := 264) (tgt := 272) d_Reader_follow_8 (by rw [q19]; decide) (by rw [q19]; decide) (by rw [q19]; decide) (by decide) ?_
    refine g_aload_n F d_Reader_follow_272 0 rfl ?_
    refine g_iload_n F d_Reader_follow_273 2 rfl ?_
    obtain ⟨x17, hx17, hf⟩ := g_bind hf
    refine g_cw F (r0 := z.1 x17.1) (ws' := (Wc z ad cA sMt x17.2.1 x17.2.2 sReferenceWays sTagWays sCommentWays sOut)) (fun H locs ls hP hD hS hl => g_runV F (As := [.int a2]) (n := 1) mw_736 rfl rfl ⟨by decide, by decide⟩ rfl (by exact Nat.le_of_ble_eq_true rfl) mw_733 mw_735 mw_16 mw_77 (by decide +kernel) d_Reader_follow_274 hP hD hS hl (va_recv F.2.2.2.2.2.1 hP (ci := 7) rfl (q0 := 7) rfl) (c_Reader_mark l D cA z ad sMt sSource sTokens sReferenceWays sTagWays sCommentWays sOut a2 hx17 H.size)) ?_
    cases hf
    exact g_aret F hr (Or.inl ⟨_, rfl⟩) hlk rfl rfl rfl d_Reader_follow_277
  rw [if_neg q19] at hf
  by_cases q20 : (ta__SwitchMap_MarkupTokens_Way ((nI a1) : Int32).toNatClampNeg) = 18
  · rw [if_pos q20] at hf
    refine g_tableIn F (off := 270) (tgt := 278) d_Reader_follow_8 (by rw [q20]; decide) (by rw [q20]; decide) (by rw [q20]; decide) (by decide) ?_
    refine g_aload_n F d_Reader_follow_278 0 rfl ?_
    refine g_get F (v := .ref (ad 5)) in_X5 7 rfl rfl 4 (by decide) mw_266 rfl d_Reader_follow_279 ?_
    refine g_iload_n F d_Reader_follow_282 2 rfl ?_
    obtain ⟨x18, hx18, hf⟩ := g_bind hf
    refine g_cw F (r0 := z.1 x18.1) (ws' := (Wc z ad cA sMt x18.2.1 x18.2.2 sReferenceWays sTagWays sCommentWays sOut)) (fun H locs ls hP hD hS hl => g_runV F (As := [.int a2]) (n := 1) mw_755 rfl rfl ⟨by decide, by decide⟩ rfl (by exact Nat.le_of_ble_eq_true rfl) mw_752 mw_753 mw_754 mw_82 (by decide +kernel) d_Reader_follow_283 hP hD hS hl (va_recv F.2.2.2.2.2.1 hP (ci := 5) rfl (q0 := 5) rfl) (c_CommentWays_bogus l D cA z ad sMt sSource sTokens sReferenceWays sTagWays sCommentWays sOut a2 hx18 H.size)) ?_
    cases hf
    exact g_aret F hr (Or.inl ⟨_, rfl⟩) hlk rfl rfl rfl d_Reader_follow_286
  rw [if_neg q20] at hf
  by_cases q21 : (ta__SwitchMap_MarkupTokens_Way ((nI a1) : Int32).toNatClampNeg) = 19
  · rw [if_pos q21] at hf
    refine g_tableIn F (off := 279) (tgt := 287) d_Reader_follow_8 (by rw [q21]; decide) (by rw [q21]; decide) (by rw [q21]; decide) (by decide) ?_
    refine g_aload_n F d_Reader_follow_287 0 rfl ?_
    refine g_get F (v := .ref (ad 5)) in_X5 7 rfl rfl 4 (by decide) mw_266 rfl d_Reader_follow_288 ?_
    refine g_iload_n F d_Reader_follow_291 2 rfl ?_
    obtain ⟨x19, hx19, hf⟩ := g_bind hf
    refine g_cw F (r0 := z.1 x19.1) (ws' := (Wc z ad cA sMt x19.2.2.1 x19.2.2.2 sReferenceWays sTagWays x19.2.1 sOut)) (fun H locs ls hP hD hS hl => g_runV F (As := [.int a2]) (n := 1) mw_781 rfl rfl ⟨by decide, by decide⟩ rfl (by exact Nat.le_of_ble_eq_true rfl) mw_778 mw_779 mw_780 mw_82 (by decide +kernel) d_Reader_follow_292 hP hD hS hl (va_recv F.2.2.2.2.2.1 hP (ci := 5) rfl (q0 := 5) rfl) (c_CommentWays_start l D cA z ad sMt sSource sTokens sReferenceWays sTagWays sCommentWays sOut a2 hx19 H.size)) ?_
    cases hf
    exact g_aret F hr (Or.inl ⟨_, rfl⟩) hlk rfl rfl rfl d_Reader_follow_295
  rw [if_neg q21] at hf
  by_cases q22 : (ta__SwitchMap_MarkupTokens_Way ((nI a1) : Int32).toNatClampNeg) = 20
  · rw [if_pos q22] at hf
    refine g_tableIn F (off := 288) (tgt := 296) d_Reader_follow_8 (by rw [q22]; decide) (by rw [q22]; decide) (by rw [q22]; decide) (by decide) ?_
    refine g_aload_n F d_Reader_follow_296 0 rfl ?_
    refine g_get F (v := .ref (ad 5)) in_X5 7 rfl rfl 4 (by decide) mw_266 rfl d_Reader_follow_297 ?_
    refine g_iload_n F d_Reader_follow_300 2 rfl ?_
    obtain ⟨x20, hx20, hf⟩ := g_bind hf
    refine g_cw F (r0 := z.1 x20.1) (ws' := (Wc z ad cA sMt x20.2.1 x20.2.2 sReferenceWays sTagWays sCommentWays sOut)) (fun H locs ls hP hD hS hl => g_runV F (As := [.int a2]) (n := 1) mw_794 rfl rfl ⟨by decide, by decide⟩ rfl (by exact Nat.le_of_ble_eq_true rfl) mw_791 mw_792 mw_793 mw_82 (by decide +kernel) d_Reader_follow_301 hP hD hS hl (va_recv F.2.2.2.2.2.1 hP (ci := 5) rfl (q0 := 5) rfl) (c_CommentWays_startDash l D cA z ad sMt sSource sTokens sReferenceWays sTagWays sCommentWays sOut a2 hx20 H.size)) ?_
    cases hf
    exact g_aret F hr (Or.inl ⟨_, rfl⟩) hlk rfl rfl rfl d_Reader_follow_304
  rw [if_neg q22] at hf
  by_cases q23 : (ta__SwitchMap_MarkupTokens_Way ((nI a1) : Int32).toNatClampNeg) = 21
  · rw [if_pos q23] at hf
    refine g_tableIn F (off := 297) (tgt := 305) d_Reader_follow_8 (by rw [q23]; decide) (by rw [q23]; decide) (by rw [q23]; decide) (by decide) ?_
    refine g_aload_n F d_Reader_follow_305 0 rfl ?_
    refine g_get F (v := .ref (ad 5)) in_X5 7 rfl rfl 4 (by decide) mw_266 rfl d_Reader_follow_306 ?_
    refine g_iload_n F d_Reader_follow_309 2 rfl ?_
    obtain ⟨x21, hx21, hf⟩ := g_bind hf
    refine g_cw F (r0 := z.1 x21.1) (ws' := (Wc z ad cA sMt x21.2.2.1 x21.2.2.2 sReferenceWays sTagWays x21.2.1 sOut)) (fun H locs ls hP hD hS hl => g_runV F (As := [.int a2]) (n := 1) mw_800 rfl rfl ⟨by decide, by decide⟩ rfl (by exact Nat.le_of_ble_eq_true rfl) mw_797 mw_798 mw_799 mw_82 (by decide +kernel) d_Reader_follow_310 hP hD hS hl (va_recv F.2.2.2.2.2.1 hP (ci := 5) rfl (q0 := 5) rfl) (c_CommentWays_inside l D cA z ad sMt sSource sTokens sReferenceWays sTagWays sCommentWays sOut a2 hx21 H.size)) ?_
    cases hf
    exact g_aret F hr (Or.inl ⟨_, rfl⟩) hlk rfl rfl rfl d_Reader_follow_313
  rw [if_neg q23] at hf
  by_cases q24 : (ta__SwitchMap_MarkupTokens_Way ((nI a1) : Int32).toNatClampNeg) = 22
  · rw [if_pos q24] at hf
    refine g_tableIn F (off := 306) (tgt := 314) d_Reader_follow_8 (by rw [q24]; decide) (by rw [q24]; decide) (by rw [q24]; decide) (by decide) ?_
    refine g_aload_n F d_Reader_follow_314 0 rfl ?_
    refine g_get F (v := .ref (ad 5)) in_X5 7 rfl rfl 4 (by decide) mw_266 rfl d_Reader_follow_315 ?_
    refine g_iload_n F d_Reader_follow_318 2 rfl ?_
    obtain ⟨x22, hx22, hf⟩ := g_bind hf
    refine g_cw F (r0 := z.1 x22.1) (ws' := (Wc z ad cA sMt x22.2.1 x22.2.2 sReferenceWays sTagWays sCommentWays sOut)) (fun H locs ls hP hD hS hl => g_runV F (As := [.int a2]) (n := 1) mw_814 rfl rfl ⟨by decide, by decide⟩ rfl (by exact Nat.le_of_ble_eq_true rfl) mw_811 mw_812 mw_813 mw_82 (by decide +kernel) d_Reader_follow_319 hP hD hS hl (va_recv F.2.2.2.2.2.1 hP (ci := 5) rfl (q0 := 5) rfl) (c_CommentWays_dash l D cA z ad sMt sSource sTokens sReferenceWays sTagWays sCommentWays sOut a2 hx22 H.size)) ?_
    cases hf
    exact g_aret F hr (Or.inl ⟨_, rfl⟩) hlk rfl rfl rfl d_Reader_follow_322
  rw [if_neg q24] at hf
  by_cases q25 : (ta__SwitchMap_MarkupTokens_Way ((nI a1) : Int32).toNatClampNeg) = 23
  · rw [if_pos q25] at hf
    refine g_tableIn F (off := 315) (tgt := 323) d_Reader_follow_8 (by rw [q25]; decide) (by rw [q25]; decide) (by rw [q25]; decide) (by decide) ?_
    refine g_aload_n F d_Reader_follow_323 0 rfl ?_
    refine g_get F (v := .ref (ad 5)) in_X5 7 rfl rfl 4 (by decide) mw_266 rfl d_Reader_follow_324 ?_
    refine g_iload_n F d_Reader_follow_327 2 rfl ?_
    obtain ⟨x23, hx23, hf⟩ := g_bind hf
    refine g_cw F (r0 := z.1 x23.1) (ws' := (Wc z ad cA sMt x23.2.1 x23.2.2 sReferenceWays sTagWays sCommentWays sOut)) (fun H locs ls hP hD hS hl => g_runV F (As := [.int a2]) (n := 1) mw_821 rfl rfl ⟨by decide, by decide⟩ rfl (by exact Nat.le_of_ble_eq_true rfl) mw_818 mw_819 mw_820 mw_82 (by decide +kernel) d_Reader_follow_328 hP hD hS hl (va_recv F.2.2.2.2.2.1 hP (ci := 5) rfl (q0 := 5) rfl) (c_CommentWays_end l D cA z ad sMt sSource sTokens sReferenceWays sTagWays sCommentWays sOut a2 hx23 H.size)) ?_
    cases hf
    exact g_aret F hr (Or.inl ⟨_, rfl⟩) hlk rfl rfl rfl d_Reader_follow_331
  rw [if_neg q25] at hf
  by_cases q26 : (ta__SwitchMap_MarkupTokens_Way ((nI a1) : Int32).toNatClampNeg) = 24
  · rw [if_pos q26] at hf
    refine g_tableIn F (off := 324) (tgt := 332) d_Reader_follow_8 (by rw [q26]; decide) (by rw [q26]; decide) (by rw [q26]; decide) (by decide) ?_
    refine g_aload_n F d_Reader_follow_332 0 rfl ?_
    refine g_get F (v := .ref (ad 5)) in_X5 7 rfl rfl 4 (by decide) mw_266 rfl d_Reader_follow_333 ?_
    refine g_iload_n F d_Reader_follow_336 2 rfl ?_
    obtain ⟨x24, hx24, hf⟩ := g_bind hf
    refine g_cw F (r0 := z.1 x24.1) (ws' := (Wc z ad cA sMt x24.2.1 x24.2.2 sReferenceWays sTagWays sCommentWays sOut)) (fun H locs ls hP hD hS hl => g_runV F (As := [.int a2]) (n := 1) mw_827 rfl rfl ⟨by decide, by decide⟩ rfl (by exact Nat.le_of_ble_eq_true rfl) mw_824 mw_825 mw_826 mw_82 (by decide +kernel) d_Reader_follow_337 hP hD hS hl (va_recv F.2.2.2.2.2.1 hP (ci := 5) rfl (q0 := 5) rfl) (c_CommentWays_bang l D cA z ad sMt sSource sTokens sReferenceWays sTagWays sCommentWays sOut a2 hx24 H.size)) ?_
    cases hf
    exact g_aret F hr (Or.inl ⟨_, rfl⟩) hlk rfl rfl rfl d_Reader_follow_340
  rw [if_neg q26] at hf
  by_cases q27 : (ta__SwitchMap_MarkupTokens_Way ((nI a1) : Int32).toNatClampNeg) = 25
  · rw [if_pos q27] at hf
    refine g_tableIn F (off := 333) (tgt := 341) d_Reader_follow_8 (by rw [q27]; decide) (by rw [q27]; decide) (by rw [q27]; decide) (by decide) ?_
    refine g_aload_n F d_Reader_follow_341 0 rfl ?_
    refine g_get F (v := .ref (ad 6)) in_X5 7 rfl rfl 5 (by decide) mw_267 rfl d_Reader_follow_342 ?_
    refine g_iload_n F d_Reader_follow_345 2 rfl ?_
    obtain ⟨x25, hx25, hf⟩ := g_bind hf
    refine g_cw F (r0 := z.1 x25.1) (ws' := (Wc z ad cA sMt x25.2 sTokens sReferenceWays sTagWays sCommentWays sOut)) (fun H locs ls hP hD hS hl => g_runV F (As := [.int a2]) (n := 1) mw_831 rfl rfl ⟨by decide, by decide⟩ rfl (by exact Nat.le_of_ble_eq_true rfl) mw_828 mw_829 mw_830 mw_83 (by decide +kernel) d_Reader_follow_346 hP hD hS hl (va_recv F.2.2.2.2.2.1 hP (ci := 6) rfl (q0 := 6) rfl) (c_DoctypeWays_start l D cA z ad sMt sSource sTokens sReferenceWays sTagWays sCommentWays sOut a2 hx25 H.size)) ?_
    cases hf
    exact g_aret F hr (Or.inl ⟨_, rfl⟩) hlk rfl rfl rfl d_Reader_follow_349
  rw [if_neg q27] at hf
  by_cases q28 : (ta__SwitchMap_MarkupTokens_Way ((nI a1) : Int32).toNatClampNeg) = 26
  · rw [if_pos q28] at hf
    refine g_tableIn F (off := 342) (tgt := 350) d_Reader_follow_8 (by rw [q28]; decide) (by rw [q28]; decide) (by rw [q28]; decide) (by decide) ?_
    refine g_aload_n F d_Reader_follow_350 0 rfl ?_
    refine g_get F (v := .ref (ad 6)) in_X5 7 rfl rfl 5 (by decide) mw_267 rfl d_Reader_follow_351 ?_
    refine g_iload_n F d_Reader_follow_354 2 rfl ?_
    obtain ⟨x26, hx26, hf⟩ := g_bind hf
    refine g_cw F (r0 := z.1 x26.1) (ws' := (Wc z ad cA sMt x26.2.1 x26.2.2 sReferenceWays sTagWays sCommentWays sOut)) (fun H locs ls hP hD hS hl => g_runV F (As := [.int a2]) (n := 1) mw_840 rfl rfl ⟨by decide, by decide⟩ rfl (by exact Nat.le_of_ble_eq_true rfl) mw_837 mw_838 mw_839 mw_83 (by decide +kernel) d_Reader_follow_355 hP hD hS hl (va_recv F.2.2.2.2.2.1 hP (ci := 6) rfl (q0 := 6) rfl) (c_DoctypeWays_before l D cA z ad sMt sSource sTokens sReferenceWays sTagWays sCommentWays sOut a2 hx26 H.size)) ?_
    cases hf
    exact g_aret F hr (Or.inl ⟨_, rfl⟩) hlk rfl rfl rfl d_Reader_follow_358
  rw [if_neg q28] at hf
  by_cases q29 : (ta__SwitchMap_MarkupTokens_Way ((nI a1) : Int32).toNatClampNeg) = 27
  · rw [if_pos q29] at hf
    refine g_tableIn F (off := 351) (tgt := 359) d_Reader_follow_8 (by rw [q29]; decide) (by rw [q29]; decide) (by rw [q29]; decide) (by decide) ?_
    refine g_aload_n F d_Reader_follow_359 0 rfl ?_
    refine g_get F (v := .ref (ad 6)) in_X5 7 rfl rfl 5 (by decide) mw_267 rfl d_Reader_follow_360 ?_
    refine g_iload_n F d_Reader_follow_363 2 rfl ?_
    obtain ⟨x27, hx27, hf⟩ := g_bind hf
    refine g_cw F (r0 := z.1 x27.1) (ws' := (Wc z ad cA sMt x27.2.1 x27.2.2 sReferenceWays sTagWays sCommentWays sOut)) (fun H locs ls hP hD hS hl => g_runV F (As := [.int a2]) (n := 1) mw_858 rfl rfl ⟨by decide, by decide⟩ rfl (by exact Nat.le_of_ble_eq_true rfl) mw_855 mw_856 mw_857 mw_83 (by decide +kernel) d_Reader_follow_364 hP hD hS hl (va_recv F.2.2.2.2.2.1 hP (ci := 6) rfl (q0 := 6) rfl) (c_DoctypeWays_name l D cA z ad sMt sSource sTokens sReferenceWays sTagWays sCommentWays sOut a2 hx27 H.size)) ?_
    cases hf
    exact g_aret F hr (Or.inl ⟨_, rfl⟩) hlk rfl rfl rfl d_Reader_follow_367
  rw [if_neg q29] at hf
  by_cases q30 : (ta__SwitchMap_MarkupTokens_Way ((nI a1) : Int32).toNatClampNeg) = 28
  · rw [if_pos q30] at hf
    refine g_tableIn F (off := 360) (tgt := 368) d_Reader_follow_8 (by rw [q30]; decide) (by rw [q30]; decide) (by rw [q30]; decide) (by decide) ?_
    refine g_aload_n F d_Reader_follow_368 0 rfl ?_
    refine g_get F (v := .ref (ad 6)) in_X5 7 rfl rfl 5 (by decide) mw_267 rfl d_Reader_follow_369 ?_
    refine g_iload_n F d_Reader_follow_372 2 rfl ?_
    obtain ⟨x28, hx28, hf⟩ := g_bind hf
    refine g_cw F (r0 := z.1 x28.1) (ws' := (Wc z ad cA sMt x28.2.1 x28.2.2 sReferenceWays sTagWays sCommentWays sOut)) (fun H locs ls hP hD hS hl => g_runV F (As := [.int a2]) (n := 1) mw_868 rfl rfl ⟨by decide, by decide⟩ rfl (by exact Nat.le_of_ble_eq_true rfl) mw_865 mw_866 mw_867 mw_83 (by decide +kernel) d_Reader_follow_373 hP hD hS hl (va_recv F.2.2.2.2.2.1 hP (ci := 6) rfl (q0 := 6) rfl) (c_DoctypeWays_after l D cA z ad sMt sSource sTokens sReferenceWays sTagWays sCommentWays sOut a2 hx28 H.size)) ?_
    cases hf
    exact g_aret F hr (Or.inl ⟨_, rfl⟩) hlk rfl rfl rfl d_Reader_follow_376
  rw [if_neg q30] at hf
  by_cases q31 : (ta__SwitchMap_MarkupTokens_Way ((nI a1) : Int32).toNatClampNeg) = 29
  · rw [if_pos q31] at hf
    refine g_tableIn F (off := 369) (tgt := 377) d_Reader_follow_8 (by rw [q31]; decide) (by rw [q31]; decide) (by rw [q31]; decide) (by decide) ?_
    refine g_aload_n F d_Reader_follow_377 0 rfl ?_
    refine g_get F (v := .ref (ad 6)) in_X5 7 rfl rfl 5 (by decide) mw_267 rfl d_Reader_follow_378 ?_
    refine g_iload_n F d_Reader_follow_381 2 rfl ?_
    obtain ⟨x29, hx29, hf⟩ := g_bind hf
    refine g_cw F (r0 := z.1 x29.1) (ws' := (Wc z ad cA sMt x29.2.1 x29.2.2 sReferenceWays sTagWays sCommentWays sOut)) (fun H locs ls hP hD hS hl => g_runV F (As := [.int a2]) (n := 1) mw_874 rfl rfl ⟨by decide, by decide⟩ rfl (by exact Nat.le_of_ble_eq_true rfl) mw_871 mw_872 mw_873 mw_83 (by decide +kernel) d_Reader_follow_382 hP hD hS hl (va_recv F.2.2.2.2.2.1 hP (ci := 6) rfl (q0 := 6) rfl) (c_DoctypeWays_odd l D cA z ad sMt sSource sTokens sReferenceWays sTagWays sCommentWays sOut a2 hx29 H.size)) ?_
    cases hf
    exact g_aret F hr (Or.inl ⟨_, rfl⟩) hlk rfl rfl rfl d_Reader_follow_385
  rw [if_neg q31] at hf
  refine g_tableOut F (tgt := 386) d_Reader_follow_8 (tsw (x := (ta__SwitchMap_MarkupTokens_Way ((nI a1) : Int32).toNatClampNeg)) (fun k h1 h2 e => by
      have h3 : k.toInt = 1 ∨ k.toInt = 2 ∨ k.toInt = 3 ∨ k.toInt = 4 ∨ k.toInt = 5 ∨ k.toInt = 6 ∨ k.toInt = 7 ∨ k.toInt = 8 ∨ k.toInt = 9 ∨ k.toInt = 10 ∨ k.toInt = 11 ∨ k.toInt = 12 ∨ k.toInt = 13 ∨ k.toInt = 14 ∨ k.toInt = 15 ∨ k.toInt = 16 ∨ k.toInt = 17 ∨ k.toInt = 18 ∨ k.toInt = 19 ∨ k.toInt = 20 ∨ k.toInt = 21 ∨ k.toInt = 22 ∨ k.toInt = 23 ∨ k.toInt = 24 ∨ k.toInt = 25 ∨ k.toInt = 26 ∨ k.toInt = 27 ∨ k.toInt = 28 ∨ k.toInt = 29 := by omega
      rcases h3 with h3 | h3 | h3 | h3 | h3 | h3 | h3 | h3 | h3 | h3 | h3 | h3 | h3 | h3 | h3 | h3 | h3 | h3 | h3 | h3 | h3 | h3 | h3 | h3 | h3 | h3 | h3 | h3 | h3
      · exact q3 (e.trans (Int32.toInt_inj.mp (h3.trans (by decide))))
      · exact q4 (e.trans (Int32.toInt_inj.mp (h3.trans (by decide))))
      · exact q5 (e.trans (Int32.toInt_inj.mp (h3.trans (by decide))))
      · exact q6 (e.trans (Int32.toInt_inj.mp (h3.trans (by decide))))
      · exact q7 (e.trans (Int32.toInt_inj.mp (h3.trans (by decide))))
      · exact q8 (e.trans (Int32.toInt_inj.mp (h3.trans (by decide))))
      · exact q9 (e.trans (Int32.toInt_inj.mp (h3.trans (by decide))))
      · exact q10 (e.trans (Int32.toInt_inj.mp (h3.trans (by decide))))
      · exact q11 (e.trans (Int32.toInt_inj.mp (h3.trans (by decide))))
      · exact q12 (e.trans (Int32.toInt_inj.mp (h3.trans (by decide))))
      · exact q13 (e.trans (Int32.toInt_inj.mp (h3.trans (by decide))))
      · exact q14 (e.trans (Int32.toInt_inj.mp (h3.trans (by decide))))
      · exact q15 (e.trans (Int32.toInt_inj.mp (h3.trans (by decide))))
      · exact q16 (e.trans (Int32.toInt_inj.mp (h3.trans (by decide))))
      · exact q17 (e.trans (Int32.toInt_inj.mp (h3.trans (by decide))))
      · exact q18 (e.trans (Int32.toInt_inj.mp (h3.trans (by decide))))
      · exact q19 (e.trans (Int32.toInt_inj.mp (h3.trans (by decide))))
      · exact q20 (e.trans (Int32.toInt_inj.mp (h3.trans (by decide))))
      · exact q21 (e.trans (Int32.toInt_inj.mp (h3.trans (by decide))))
      · exact q22 (e.trans (Int32.toInt_inj.mp (h3.trans (by decide))))
      · exact q23 (e.trans (Int32.toInt_inj.mp (h3.trans (by decide))))
      · exact q24 (e.trans (Int32.toInt_inj.mp (h3.trans (by decide))))
      · exact q25 (e.trans (Int32.toInt_inj.mp (h3.trans (by decide))))
      · exact q26 (e.trans (Int32.toInt_inj.mp (h3.trans (by decide))))
      · exact q27 (e.trans (Int32.toInt_inj.mp (h3.trans (by decide))))
      · exact q28 (e.trans (Int32.toInt_inj.mp (h3.trans (by decide))))
      · exact q29 (e.trans (Int32.toInt_inj.mp (h3.trans (by decide))))
      · exact q30 (e.trans (Int32.toInt_inj.mp (h3.trans (by decide))))
      · exact q31 (e.trans (Int32.toInt_inj.mp (h3.trans (by decide)))))) (by decide) ?_
  refine g_way F 29 (by decide) mw_358 d_Reader_follow_386 ?_
  cases hf
  exact g_aret F hr (Or.inl ⟨_, rfl⟩) hlk rfl rfl rfl d_Reader_follow_389
