set_option maxHeartbeats 4000000 in
set_option maxRecDepth 100000 in
theorem c_TagWays_quoted (l : Launch) (D : va_G) (cA : Nat → ClassId) (z : gZ) (ad : Nat → Nat) (sMt : SMt) (sSource : SSource) (sTokens : STokens) (sReferenceWays : SReferenceWays) (sTagWays : STagWays) (sCommentWays : SCommentWays) (sOut : SOut) (a1 : Int32) {x : Nat × SReferenceWays × SSource × STokens} (hf : f_TagWays_quoted a1 sReferenceWays sSource sTagWays sTokens = some x) (sz : Nat) : Met l y_TagWays_quoted (.code y_TagWays_quoted b_TagWays_quoted 2 (some (.object "MarkupTokens$Way")) :: lw_g) { frames := 2, cells := 0, slots := 0, locals := 42 } (gP D (gT cA) z [.ref (ad 4), .int a1] (Wc z ad cA sMt sSource sTokens sReferenceWays sTagWays sCommentWays sOut) sz) (gQq D (gT cA) (va_A (Wc z ad cA sMt sSource sTokens sReferenceWays sTagWays sCommentWays sOut) sz) (some (z.1 x.1)) (Wc z ad cA sMt x.2.2.1 x.2.2.2 x.2.1 sTagWays sCommentWays sOut)) 0 0 (va_A (Wc z ad cA sMt sSource sTokens sReferenceWays sTagWays sCommentWays sOut) sz) := by
  refine g_met (by decide) (Nat.le_of_ble_eq_true rfl) rfl ?_
  intro p e s m args below meth c F hr hlk
  unfold f_TagWays_quoted at hf
  refine g_iload_n F d_TagWays_quoted_0 1 rfl ?_
  refine g_aload_n F d_TagWays_quoted_1 0 rfl ?_
  refine g_get F (v := .int sTagWays) in_X8 4 rfl rfl 3 (by decide) mw_235 rfl d_TagWays_quoted_2 ?_
  refine g_icmp_ne F (tgt := 19) d_TagWays_quoted_5 (by decide) (fun h => ?_) (fun h => ?_)
  · rw [if_neg h] at hf
    refine g_iload_n F d_TagWays_quoted_19 1 rfl ?_
    by_cases q1 : a1 = (-1)
    · rw [if_pos q1] at hf
      refine g_lookup F (off := 39) (tgt := 59) d_TagWays_quoted_20 (by decide) (by rw [q1]; decide) (by decide) ?_
      refine g_aload_n F d_TagWays_quoted_59 0 rfl ?_
      obtain ⟨x1, hx1, hf⟩ := g_bind hf
      refine g_cw F (r0 := z.1 x1.1) (ws' := (Wc z ad cA sMt x1.2 sTokens sReferenceWays sTagWays sCommentWays sOut)) (fun H locs ls hP hD hS hl => g_runV F (As := []) (n := 0) mw_647 rfl rfl ⟨by decide, by decide⟩ rfl (by exact Nat.le_of_ble_eq_true rfl) mw_644 mw_646 mw_13 mw_81 (by decide +kernel) d_TagWays_quoted_60 hP hD hS hl (va_recv F.2.2.2.2.2.1 hP (ci := 4) rfl (q0 := 4) rfl) (c_TagWays_dropped l D cA z ad sMt sSource sTokens sReferenceWays sTagWays sCommentWays sOut hx1 H.size)) ?_
      cases hf
      exact g_aret F hr (Or.inl ⟨_, rfl⟩) hlk rfl rfl rfl d_TagWays_quoted_63
    rw [if_neg q1] at hf
    by_cases q2 : a1 = 38
    · rw [if_pos q2] at hf
      refine g_lookup F (off := 28) (tgt := 48) d_TagWays_quoted_20 (by decide) (by rw [q2]; decide) (by decide) ?_
      refine g_aload_n F d_TagWays_quoted_48 0 rfl ?_
      refine g_get F (v := .ref (ad 3)) in_X8 4 rfl rfl 2 (by decide) mw_234 rfl d_TagWays_quoted_49 ?_
      refine g_way F 12 (by decide) mw_710 d_TagWays_quoted_52 ?_
      refine g_cw F (r0 := z.1 ((f_ReferenceWays_open 12 sReferenceWays sSource).1)) (ws' := (Wc z ad cA sMt ((f_ReferenceWays_open 12 sReferenceWays sSource).2.2) sTokens ((f_ReferenceWays_open 12 sReferenceWays sSource).2.1) sTagWays sCommentWays sOut)) (fun H locs ls hP hD hS hl => g_runV F (As := [.ref (z.1 12)]) (n := 1) mw_395 rfl rfl ⟨by decide, by decide⟩ rfl (by exact Nat.le_of_ble_eq_true rfl) mw_720 mw_393 mw_394 mw_78 (by decide +kernel) d_TagWays_quoted_55 hP hD hS hl (va_recv F.2.2.2.2.2.1 hP (ci := 3) rfl (q0 := 3) rfl) (c_ReferenceWays_open l D cA z ad sMt sSource sTokens sReferenceWays sTagWays sCommentWays sOut 12 rfl H.size)) ?_
      cases hf
      exact g_aret F hr (Or.inl ⟨_, rfl⟩) hlk rfl rfl rfl d_TagWays_quoted_58
    rw [if_neg q2] at hf
    refine g_lookup F (off := 44) (tgt := 64) d_TagWays_quoted_20 (by decide) (show Op.lookupswitch.offset ([((-1), 39), (38, 28)] : List (Int × Int)) 44 (a1 : Int32).toInt = 44 by rw [lv_osw (k := (-1)) q1 (by decide), lv_osw (k := 38) q2 (by decide)]; rfl) (by decide) ?_
    refine g_aload_n F d_TagWays_quoted_64 0 rfl ?_
    refine g_iload_n F d_TagWays_quoted_65 1 rfl ?_
    obtain ⟨x2, hx2, hf⟩ := g_bind hf
    refine g_cv F (ws' := (Wc z ad cA sMt x2.1 x2.2 sReferenceWays sTagWays sCommentWays sOut)) (fun H locs ls hP hD hS hl => g_runU F (As := [.int a1]) (n := 1) mw_657 rfl rfl ⟨by decide, by decide⟩ rfl (by exact Nat.le_of_ble_eq_true rfl) mw_652 mw_653 mw_655 mw_656 mw_76 rfl (by decide +kernel) d_TagWays_quoted_66 hP hD hS hl (va_recv F.2.2.2.2.2.1 hP (ci := 4) rfl (q0 := 4) rfl) (c_Ways_addKnown_TagWays l D cA z ad sMt sSource sTokens sReferenceWays sTagWays sCommentWays sOut a1 hx2 H.size)) ?_
    refine g_aload_n F d_TagWays_quoted_69 0 rfl ?_
    refine g_getS F (v := .ref (ad 1)) in_X8 4 rfl rfl 0 (by decide) mw_208 mw_209 rfl d_TagWays_quoted_70 ?_
    refine g_way F 12 (by decide) mw_710 d_TagWays_quoted_73 ?_
    refine g_cw F (r0 := z.1 ((f_Source_then 12 x2.1).1)) (ws' := (Wc z ad cA sMt ((f_Source_then 12 x2.1).2) x2.2 sReferenceWays sTagWays sCommentWays sOut)) (fun H locs ls hP hD hS hl => g_runV F (As := [.ref (z.1 12)]) (n := 1) mw_401 rfl rfl ⟨by decide, by decide⟩ rfl (by exact Nat.le_of_ble_eq_true rfl) mw_609 mw_399 mw_400 mw_74 (by decide +kernel) d_TagWays_quoted_76 hP hD hS hl (va_recv F.2.2.2.2.2.1 hP (ci := 1) rfl (q0 := 1) rfl) (c_Source_then l D cA z ad sMt x2.1 x2.2 sReferenceWays sTagWays sCommentWays sOut 12 rfl H.size)) ?_
    cases hf
    exact g_aret F hr (Or.inl ⟨_, rfl⟩) hlk rfl rfl rfl d_TagWays_quoted_79
  · rw [if_pos h] at hf
    refine g_aload_n F d_TagWays_quoted_8 0 rfl ?_
    refine g_getS F (v := .ref (ad 1)) in_X8 4 rfl rfl 0 (by decide) mw_208 mw_209 rfl d_TagWays_quoted_9 ?_
    refine g_way F 14 (by decide) mw_718 d_TagWays_quoted_12 ?_
    refine g_cw F (r0 := z.1 ((f_Source_then 14 sSource).1)) (ws' := (Wc z ad cA sMt ((f_Source_then 14 sSource).2) sTokens sReferenceWays sTagWays sCommentWays sOut)) (fun H locs ls hP hD hS hl => g_runV F (As := [.ref (z.1 14)]) (n := 1) mw_401 rfl rfl ⟨by decide, by decide⟩ rfl (by exact Nat.le_of_ble_eq_true rfl) mw_609 mw_399 mw_400 mw_74 (by decide +kernel) d_TagWays_quoted_15 hP hD hS hl (va_recv F.2.2.2.2.2.1 hP (ci := 1) rfl (q0 := 1) rfl) (c_Source_then l D cA z ad sMt sSource sTokens sReferenceWays sTagWays sCommentWays sOut 14 rfl H.size)) ?_
    cases hf
    exact g_aret F hr (Or.inl ⟨_, rfl⟩) hlk rfl rfl rfl d_TagWays_quoted_18
set_option maxHeartbeats 4000000 in
set_option maxRecDepth 100000 in
theorem c_TagWays_unquoted (l : Launch) (D : va_G) (cA : Nat → ClassId) (z : gZ) (ad : Nat → Nat) (sMt : SMt) (sSource : SSource) (sTokens : STokens) (sReferenceWays : SReferenceWays) (sTagWays : STagWays) (sCommentWays : SCommentWays) (sOut : SOut) (a1 : Int32) {x : Nat × SReferenceWays × SSource × STokens} (hf : f_TagWays_unquoted a1 sReferenceWays sSource sTokens = some x) (sz : Nat) : Met l y_TagWays_unquoted (.code y_TagWays_unquoted b_TagWays_unquoted 2 (some (.object "MarkupTokens$Way")) :: lw_g) { frames := 2, cells := 0, slots := 0, locals := 42 } (gP D (gT cA) z [.ref (ad 4), .int a1] (Wc z ad cA sMt sSource sTokens sReferenceWays sTagWays sCommentWays sOut) sz) (gQq D (gT cA) (va_A (Wc z ad cA sMt sSource sTokens sReferenceWays sTagWays sCommentWays sOut) sz) (some (z.1 x.1)) (Wc z ad cA sMt x.2.2.1 x.2.2.2 x.2.1 sTagWays sCommentWays sOut)) 0 0 (va_A (Wc z ad cA sMt sSource sTokens sReferenceWays sTagWays sCommentWays sOut) sz) := by
  refine g_met (by decide) (Nat.le_of_ble_eq_true rfl) rfl ?_
  intro p e s m args below meth c F hr hlk
  unfold f_TagWays_unquoted at hf
  refine g_iload_n F d_TagWays_unquoted_0 1 rfl ?_
  refine g_ci F (r0 := (f_Mt_isBlank a1)) (ws' := (Wc z ad cA sMt sSource sTokens sReferenceWays sTagWays sCommentWays sOut)) (fun H locs ls hP hD hS hl => g_runSN F (As := [.int a1]) (n := 1) mw_585 rfl rfl ⟨by decide, by decide⟩ rfl (by exact Nat.le_of_ble_eq_true rfl) (F.2.2.2.2.2.2.2.2.1 (RX8, 19, y_Mt_isBlank) (by decide +kernel)) mw_584 mw_73 (by decide +kernel) d_TagWays_unquoted_1 hP hD hS hl (c_Mt_isBlank l D cA z ad sMt sSource sTokens sReferenceWays sTagWays sCommentWays sOut a1 rfl H.size)) ?_
  refine g_if_eq F (tgt := 18) d_TagWays_unquoted_4 (by decide) (fun h => ?_) (fun h => ?_)
  · rw [if_pos h] at hf
    refine g_iload_n F d_TagWays_unquoted_18 1 rfl ?_
    by_cases q1 : a1 = (-1)
    · rw [if_pos q1] at hf
      refine g_lookup F (off := 89) (tgt := 108) d_TagWays_unquoted_19 (by decide) (by rw [q1]; decide) (by decide) ?_
      refine g_aload_n F d_TagWays_unquoted_108 0 rfl ?_
      obtain ⟨x1, hx1, hf⟩ := g_bind hf
      refine g_cw F (r0 := z.1 x1.1) (ws' := (Wc z ad cA sMt x1.2 sTokens sReferenceWays sTagWays sCommentWays sOut)) (fun H locs ls hP hD hS hl => g_runV F (As := []) (n := 0) mw_647 rfl rfl ⟨by decide, by decide⟩ rfl (by exact Nat.le_of_ble_eq_true rfl) mw_644 mw_646 mw_13 mw_81 (by decide +kernel) d_TagWays_unquoted_109 hP hD hS hl (va_recv F.2.2.2.2.2.1 hP (ci := 4) rfl (q0 := 4) rfl) (c_TagWays_dropped l D cA z ad sMt sSource sTokens sReferenceWays sTagWays sCommentWays sOut hx1 H.size)) ?_
      cases hf
      exact g_aret F hr (Or.inl ⟨_, rfl⟩) hlk rfl rfl rfl d_TagWays_unquoted_112
    rw [if_neg q1] at hf
    by_cases q2 : a1 = 34 ∨ a1 = 39 ∨ a1 = 60 ∨ a1 = 61 ∨ a1 = 96
    · rw [if_pos q2] at hf
      refine g_lookup F (off := 94) (tgt := 113) d_TagWays_unquoted_19 (by decide) (by rcases q2 with q2 | q2 | q2 | q2 | q2 <;> (rw [q2]; decide)) (by decide) ?_
      refine g_aload_n F d_TagWays_unquoted_113 0 rfl ?_
      refine g_getS F (v := .ref (ad 1)) in_X8 4 rfl rfl 0 (by decide) mw_208 mw_209 rfl d_TagWays_unquoted_114 ?_
      refine g_bipush F (v := 11) d_TagWays_unquoted_117 (by decide) ?_
      obtain ⟨x2, hx2, hf⟩ := g_bind hf
      refine g_cv F (ws' := (Wc z ad cA sMt x2 sTokens sReferenceWays sTagWays sCommentWays sOut)) (fun H locs ls hP hD hS hl => g_runV F (As := [.int 11]) (n := 1) mw_408 rfl rfl ⟨by decide, by decide⟩ rfl (by exact Nat.le_of_ble_eq_true rfl) mw_626 mw_406 mw_407 mw_74 (by decide +kernel) d_TagWays_unquoted_119 hP hD hS hl (va_recv F.2.2.2.2.2.1 hP (ci := 1) rfl (q0 := 1) rfl) (c_Source_wrong l D cA z ad sMt sSource sTokens sReferenceWays sTagWays sCommentWays sOut 11 hx2 H.size)) ?_
      refine g_goto F (tgt := 125) d_TagWays_unquoted_122 (by decide) ?_
      refine g_aload_n F d_TagWays_unquoted_125 0 rfl ?_
      refine g_iload_n F d_TagWays_unquoted_126 1 rfl ?_
      obtain ⟨x3, hx3, hf⟩ := g_bind hf
      refine g_cv F (ws' := (Wc z ad cA sMt x3.1 x3.2 sReferenceWays sTagWays sCommentWays sOut)) (fun H locs ls hP hD hS hl => g_runU F (As := [.int a1]) (n := 1) mw_657 rfl rfl ⟨by decide, by decide⟩ rfl (by exact Nat.le_of_ble_eq_true rfl) mw_652 mw_653 mw_655 mw_656 mw_76 rfl (by decide +kernel) d_TagWays_unquoted_127 hP hD hS hl (va_recv F.2.2.2.2.2.1 hP (ci := 4) rfl (q0 := 4) rfl) (c_Ways_addKnown_TagWays l D cA z ad sMt x2 sTokens sReferenceWays sTagWays sCommentWays sOut a1 hx3 H.size)) ?_
      refine g_aload_n F d_TagWays_unquoted_130 0 rfl ?_
      refine g_getS F (v := .ref (ad 1)) in_X8 4 rfl rfl 0 (by decide) mw_208 mw_209 rfl d_TagWays_unquoted_131 ?_
      refine g_way F 13 (by decide) mw_712 d_TagWays_unquoted_134 ?_
      refine g_cw F (r0 := z.1 ((f_Source_then 13 x3.1).1)) (ws' := (Wc z ad cA sMt ((f_Source_then 13 x3.1).2) x3.2 sReferenceWays sTagWays sCommentWays sOut)) (fun H locs ls hP hD hS hl => g_runV F (As := [.ref (z.1 13)]) (n := 1) mw_401 rfl rfl ⟨by decide, by decide⟩ rfl (by exact Nat.le_of_ble_eq_true rfl) mw_609 mw_399 mw_400 mw_74 (by decide +kernel) d_TagWays_unquoted_137 hP hD hS hl (va_recv F.2.2.2.2.2.1 hP (ci := 1) rfl (q0 := 1) rfl) (c_Source_then l D cA z ad sMt x3.1 x3.2 sReferenceWays sTagWays sCommentWays sOut 13 rfl H.size)) ?_
      cases hf
      exact g_aret F hr (Or.inl ⟨_, rfl⟩) hlk rfl rfl rfl d_TagWays_unquoted_140
    rw [if_neg q2] at hf
    by_cases q3 : a1 = 38
    · rw [if_pos q3] at hf
      refine g_lookup F (off := 73) (tgt := 92) d_TagWays_unquoted_19 (by decide) (by rw [q3]; decide) (by decide) ?_
      refine g_aload_n F d_TagWays_unquoted_92 0 rfl ?_
      refine g_get F (v := .ref (ad 3)) in_X8 4 rfl rfl 2 (by decide) mw_234 rfl d_TagWays_unquoted_93 ?_
      refine g_way F 13 (by decide) mw_712 d_TagWays_unquoted_96 ?_
      refine g_cw F (r0 := z.1 ((f_ReferenceWays_open 13 sReferenceWays sSource).1)) (ws' := (Wc z ad cA sMt ((f_ReferenceWays_open 13 sReferenceWays sSource).2.2) sTokens ((f_ReferenceWays_open 13 sReferenceWays sSource).2.1) sTagWays sCommentWays sOut)) (fun H locs ls hP hD hS hl => g_runV F (As := [.ref (z.1 13)]) (n := 1) mw_395 rfl rfl ⟨by decide, by decide⟩ rfl (by exact Nat.le_of_ble_eq_true rfl) mw_720 mw_393 mw_394 mw_78 (by decide +kernel) d_TagWays_unquoted_99 hP hD hS hl (va_recv F.2.2.2.2.2.1 hP (ci := 3) rfl (q0 := 3) rfl) (c_ReferenceWays_open l D cA z ad sMt sSource sTokens sReferenceWays sTagWays sCommentWays sOut 13 rfl H.size)) ?_
      cases hf
      exact g_aret F hr (Or.inl ⟨_, rfl⟩) hlk rfl rfl rfl d_TagWays_unquoted_102
    rw [if_neg q3] at hf
    by_cases q4 : a1 = 62
    · rw [if_pos q4] at hf
      refine g_lookup F (off := 84) (tgt := 103) d_TagWays_unquoted_19 (by decide) (by rw [q4]; decide) (by decide) ?_
      refine g_aload_n F d_TagWays_unquoted_103 0 rfl ?_
      obtain ⟨x4, hx4, hf⟩ := g_bind hf
      refine g_cw F (r0 := z.1 x4.1) (ws' := (Wc z ad cA sMt x4.2.1 x4.2.2 sReferenceWays sTagWays sCommentWays sOut)) (fun H locs ls hP hD hS hl => g_runV F (As := []) (n := 0) mw_613 rfl rfl ⟨by decide, by decide⟩ rfl (by exact Nat.le_of_ble_eq_true rfl) mw_610 mw_612 mw_12 mw_81 (by decide +kernel) d_TagWays_unquoted_104 hP hD hS hl (va_recv F.2.2.2.2.2.1 hP (ci := 4) rfl (q0 := 4) rfl) (c_TagWays_tagDone l D cA z ad sMt sSource sTokens sReferenceWays sTagWays sCommentWays sOut hx4 H.size)) ?_
      cases hf
      exact g_aret F hr (Or.inl ⟨_, rfl⟩) hlk rfl rfl rfl d_TagWays_unquoted_107
    rw [if_neg q4] at hf
    refine g_lookup F (off := 106) (tgt := 125) d_TagWays_unquoted_19 (by decide) (show Op.lookupswitch.offset ([((-1), 89), (34, 94), (38, 73), (39, 94), (60, 94), (61, 94), (62, 84), (96, 94)] : List (Int × Int)) 106 (a1 : Int32).toInt = 106 by rw [lv_osw (k := (-1)) q1 (by decide), lv_osw (k := 34) (fun e => q2 (Or.inl e)) (by decide), lv_osw (k := 38) q3 (by decide), lv_osw (k := 39) (fun e => q2 (Or.inr (Or.inl e))) (by decide), lv_osw (k := 60) (fun e => q2 (Or.inr (Or.inr (Or.inl e)))) (by decide), lv_osw (k := 61) (fun e => q2 (Or.inr (Or.inr (Or.inr (Or.inl e))))) (by decide), lv_osw (k := 62) q4 (by decide), lv_osw (k := 96) (fun e => q2 (Or.inr (Or.inr (Or.inr (Or.inr e))))) (by decide)]; rfl) (by decide) ?_
    refine g_aload_n F d_TagWays_unquoted_125 0 rfl ?_
    refine g_iload_n F d_TagWays_unquoted_126 1 rfl ?_
    obtain ⟨x5, hx5, hf⟩ := g_bind hf
    refine g_cv F (ws' := (Wc z ad cA sMt x5.1 x5.2 sReferenceWays sTagWays sCommentWays sOut)) (fun H locs ls hP hD hS hl => g_runU F (As := [.int a1]) (n := 1) mw_657 rfl rfl ⟨by decide, by decide⟩ rfl (by exact Nat.le_of_ble_eq_true rfl) mw_652 mw_653 mw_655 mw_656 mw_76 rfl (by decide +kernel) d_TagWays_unquoted_127 hP hD hS hl (va_recv F.2.2.2.2.2.1 hP (ci := 4) rfl (q0 := 4) rfl) (c_Ways_addKnown_TagWays l D cA z ad sMt sSource sTokens sReferenceWays sTagWays sCommentWays sOut a1 hx5 H.size)) ?_
    refine g_aload_n F d_TagWays_unquoted_130 0 rfl ?_
    refine g_getS F (v := .ref (ad 1)) in_X8 4 rfl rfl 0 (by decide) mw_208 mw_209 rfl d_TagWays_unquoted_131 ?_
    refine g_way F 13 (by decide) mw_712 d_TagWays_unquoted_134 ?_
    refine g_cw F (r0 := z.1 ((f_Source_then 13 x5.1).1)) (ws' := (Wc z ad cA sMt ((f_Source_then 13 x5.1).2) x5.2 sReferenceWays sTagWays sCommentWays sOut)) (fun H locs ls hP hD hS hl => g_runV F (As := [.ref (z.1 13)]) (n := 1) mw_401 rfl rfl ⟨by decide, by decide⟩ rfl (by exact Nat.le_of_ble_eq_true rfl) mw_609 mw_399 mw_400 mw_74 (by decide +kernel) d_TagWays_unquoted_137 hP hD hS hl (va_recv F.2.2.2.2.2.1 hP (ci := 1) rfl (q0 := 1) rfl) (c_Source_then l D cA z ad sMt x5.1 x5.2 sReferenceWays sTagWays sCommentWays sOut 13 rfl H.size)) ?_
    cases hf
    exact g_aret F hr (Or.inl ⟨_, rfl⟩) hlk rfl rfl rfl d_TagWays_unquoted_140
  · rw [if_neg h] at hf
    refine g_aload_n F d_TagWays_unquoted_7 0 rfl ?_
    refine g_getS F (v := .ref (ad 1)) in_X8 4 rfl rfl 0 (by decide) mw_208 mw_209 rfl d_TagWays_unquoted_8 ?_
    refine g_way F 8 (by decide) mw_649 d_TagWays_unquoted_11 ?_
    refine g_cw F (r0 := z.1 ((f_Source_then 8 sSource).1)) (ws' := (Wc z ad cA sMt ((f_Source_then 8 sSource).2) sTokens sReferenceWays sTagWays sCommentWays sOut)) (fun H locs ls hP hD hS hl => g_runV F (As := [.ref (z.1 8)]) (n := 1) mw_401 rfl rfl ⟨by decide, by decide⟩ rfl (by exact Nat.le_of_ble_eq_true rfl) mw_609 mw_399 mw_400 mw_74 (by decide +kernel) d_TagWays_unquoted_14 hP hD hS hl (va_recv F.2.2.2.2.2.1 hP (ci := 1) rfl (q0 := 1) rfl) (c_Source_then l D cA z ad sMt sSource sTokens sReferenceWays sTagWays sCommentWays sOut 8 rfl H.size)) ?_
    cases hf
    exact g_aret F hr (Or.inl ⟨_, rfl⟩) hlk rfl rfl rfl d_TagWays_unquoted_17
set_option maxHeartbeats 4000000 in
set_option maxRecDepth 100000 in
theorem c_TagWays_behind (l : Launch) (D : va_G) (cA : Nat → ClassId) (z : gZ) (ad : Nat → Nat) (sMt : SMt) (sSource : SSource) (sTokens : STokens) (sReferenceWays : SReferenceWays) (sTagWays : STagWays) (sCommentWays : SCommentWays) (sOut : SOut) (a1 : Int32) {x : Nat × SSource × STokens} (hf : f_TagWays_behind a1 sSource sTokens = some x) (sz : Nat) : Met l y_TagWays_behind (.code y_TagWays_behind b_TagWays_behind 2 (some (.object "MarkupTokens$Way")) :: lw_g) { frames := 3, cells := 0, slots := 0, locals := 62 } (gP D (gT cA) z [.ref (ad 4), .int a1] (Wc z ad cA sMt sSource sTokens sReferenceWays sTagWays sCommentWays sOut) sz) (gQq D (gT cA) (va_A (Wc z ad cA sMt sSource sTokens sReferenceWays sTagWays sCommentWays sOut) sz) (some (z.1 x.1)) (Wc z ad cA sMt x.2.1 x.2.2 sReferenceWays sTagWays sCommentWays sOut)) 0 0 (va_A (Wc z ad cA sMt sSource sTokens sReferenceWays sTagWays sCommentWays sOut) sz) := by
  refine g_met (by decide) (Nat.le_of_ble_eq_true rfl) rfl ?_
  intro p e s m args below meth c F hr hlk
  unfold f_TagWays_behind at hf
  refine g_iload_n F d_TagWays_behind_0 1 rfl ?_
  refine g_ci F (r0 := (f_TagWays_endsName a1)) (ws' := (Wc z ad cA sMt sSource sTokens sReferenceWays sTagWays sCommentWays sOut)) (fun H locs ls hP hD hS hl => g_runS F (As := [.int a1]) (n := 1) mw_597 rfl rfl ⟨by decide, by decide⟩ rfl (by exact Nat.le_of_ble_eq_true rfl) mw_595 mw_596 mw_81 (by decide +kernel) d_TagWays_behind_1 hP hD hS hl (c_TagWays_endsName l D cA z ad sMt sSource sTokens sReferenceWays sTagWays sCommentWays sOut a1 rfl H.size)) ?_
  refine g_if_eq F (tgt := 13) d_TagWays_behind_4 (by decide) (fun h => ?_) (fun h => ?_)
  · rw [if_pos h] at hf
    refine g_aload_n F d_TagWays_behind_13 0 rfl ?_
    refine g_getS F (v := .ref (ad 1)) in_X8 4 rfl rfl 0 (by decide) mw_208 mw_209 rfl d_TagWays_behind_14 ?_
    refine g_bipush F (v := 12) d_TagWays_behind_17 (by decide) ?_
    obtain ⟨x1, hx1, hf⟩ := g_bind hf
    refine g_cv F (ws' := (Wc z ad cA sMt x1 sTokens sReferenceWays sTagWays sCommentWays sOut)) (fun H locs ls hP hD hS hl => g_runV F (As := [.int 12]) (n := 1) mw_408 rfl rfl ⟨by decide, by decide⟩ rfl (by exact Nat.le_of_ble_eq_true rfl) mw_626 mw_406 mw_407 mw_74 (by decide +kernel) d_TagWays_behind_19 hP hD hS hl (va_recv F.2.2.2.2.2.1 hP (ci := 1) rfl (q0 := 1) rfl) (c_Source_wrong l D cA z ad sMt sSource sTokens sReferenceWays sTagWays sCommentWays sOut 12 hx1 H.size)) ?_
    refine g_way F 8 (by decide) mw_649 d_TagWays_behind_22 ?_
    cases hf
    exact g_aret F hr (Or.inl ⟨_, rfl⟩) hlk rfl rfl rfl d_TagWays_behind_25
  · rw [if_neg h] at hf
    refine g_aload_n F d_TagWays_behind_7 0 rfl ?_
    refine g_iload_n F d_TagWays_behind_8 1 rfl ?_
    obtain ⟨x2, hx2, hf⟩ := g_bind hf
    refine g_cw F (r0 := z.1 x2.1) (ws' := (Wc z ad cA sMt x2.2.1 x2.2.2 sReferenceWays sTagWays sCommentWays sOut)) (fun H locs ls hP hD hS hl => g_runV F (As := [.int a1]) (n := 1) mw_606 rfl rfl ⟨by decide, by decide⟩ rfl (by exact Nat.le_of_ble_eq_true rfl) mw_603 mw_605 mw_11 mw_81 (by decide +kernel) d_TagWays_behind_9 hP hD hS hl (va_recv F.2.2.2.2.2.1 hP (ci := 4) rfl (q0 := 4) rfl) (c_TagWays_leave l D cA z ad sMt sSource sTokens sReferenceWays sTagWays sCommentWays sOut a1 hx2 H.size)) ?_
    cases hf
    exact g_aret F hr (Or.inl ⟨_, rfl⟩) hlk rfl rfl rfl d_TagWays_behind_12
set_option maxHeartbeats 4000000 in
set_option maxRecDepth 100000 in
theorem c_TagWays_self (l : Launch) (D : va_G) (cA : Nat → ClassId) (z : gZ) (ad : Nat → Nat) (sMt : SMt) (sSource : SSource) (sTokens : STokens) (sReferenceWays : SReferenceWays) (sTagWays : STagWays) (sCommentWays : SCommentWays) (sOut : SOut) (a1 : Int32) {x : Nat × SSource × STokens} (hf : f_TagWays_self a1 sSource sTokens = some x) (sz : Nat) : Met l y_TagWays_self (.code y_TagWays_self b_TagWays_self 2 (some (.object "MarkupTokens$Way")) :: lw_g) { frames := 2, cells := 0, slots := 0, locals := 41 } (gP D (gT cA) z [.ref (ad 4), .int a1] (Wc z ad cA sMt sSource sTokens sReferenceWays sTagWays sCommentWays sOut) sz) (gQq D (gT cA) (va_A (Wc z ad cA sMt sSource sTokens sReferenceWays sTagWays sCommentWays sOut) sz) (some (z.1 x.1)) (Wc z ad cA sMt x.2.1 x.2.2 sReferenceWays sTagWays sCommentWays sOut)) 0 0 (va_A (Wc z ad cA sMt sSource sTokens sReferenceWays sTagWays sCommentWays sOut) sz) := by
  refine g_met (by decide) (Nat.le_of_ble_eq_true rfl) rfl ?_
  intro p e s m args below meth c F hr hlk
  unfold f_TagWays_self at hf
  refine g_iload_n F d_TagWays_self_0 1 rfl ?_
  by_cases q1 : a1 = (-1)
  · rw [if_pos q1] at hf
    refine g_lookup F (off := 40) (tgt := 41) d_TagWays_self_1 (by decide) (by rw [q1]; decide) (by decide) ?_
    refine g_aload_n F d_TagWays_self_41 0 rfl ?_
    obtain ⟨x1, hx1, hf⟩ := g_bind hf
    refine g_cw F (r0 := z.1 x1.1) (ws' := (Wc z ad cA sMt x1.2 sTokens sReferenceWays sTagWays sCommentWays sOut)) (fun H locs ls hP hD hS hl => g_runV F (As := []) (n := 0) mw_647 rfl rfl ⟨by decide, by decide⟩ rfl (by exact Nat.le_of_ble_eq_true rfl) mw_644 mw_646 mw_13 mw_81 (by decide +kernel) d_TagWays_self_42 hP hD hS hl (va_recv F.2.2.2.2.2.1 hP (ci := 4) rfl (q0 := 4) rfl) (c_TagWays_dropped l D cA z ad sMt sSource sTokens sReferenceWays sTagWays sCommentWays sOut hx1 H.size)) ?_
    cases hf
    exact g_aret F hr (Or.inl ⟨_, rfl⟩) hlk rfl rfl rfl d_TagWays_self_45
  rw [if_neg q1] at hf
  by_cases q2 : a1 = 62
  · rw [if_pos q2] at hf
    refine g_lookup F (off := 27) (tgt := 28) d_TagWays_self_1 (by decide) (by rw [q2]; decide) (by decide) ?_
    refine g_aload_n F d_TagWays_self_28 0 rfl ?_
    refine g_getS F (v := .ref (ad 2)) in_X8 4 rfl rfl 1 (by decide) mw_217 mw_218 rfl d_TagWays_self_29 ?_
    refine g_iconst F (v := 1) d_TagWays_self_32 (by decide) ?_
    obtain ⟨x2, hx2, hf⟩ := g_bind hf
    refine g_cv F (ws' := (Wc z ad cA sMt sSource x2 sReferenceWays sTagWays sCommentWays sOut)) (fun H locs ls hP hD hS hl => g_runV F (As := [.int 1]) (n := 1) mw_638 rfl rfl ⟨by decide, by decide⟩ rfl (by exact Nat.le_of_ble_eq_true rfl) mw_635 mw_636 mw_637 mw_75 (by decide +kernel) d_TagWays_self_33 hP hD hS hl (va_recv F.2.2.2.2.2.1 hP (ci := 2) rfl (q0 := 2) rfl) (c_Tokens_setMark l D cA z ad sMt sSource sTokens sReferenceWays sTagWays sCommentWays sOut 1 hx2 H.size)) ?_
    refine g_aload_n F d_TagWays_self_36 0 rfl ?_
    obtain ⟨x3, hx3, hf⟩ := g_bind hf
    refine g_cw F (r0 := z.1 x3.1) (ws' := (Wc z ad cA sMt x3.2.1 x3.2.2 sReferenceWays sTagWays sCommentWays sOut)) (fun H locs ls hP hD hS hl => g_runV F (As := []) (n := 0) mw_613 rfl rfl ⟨by decide, by decide⟩ rfl (by exact Nat.le_of_ble_eq_true rfl) mw_610 mw_612 mw_12 mw_81 (by decide +kernel) d_TagWays_self_37 hP hD hS hl (va_recv F.2.2.2.2.2.1 hP (ci := 4) rfl (q0 := 4) rfl) (c_TagWays_tagDone l D cA z ad sMt sSource x2 sReferenceWays sTagWays sCommentWays sOut hx3 H.size)) ?_
    cases hf
    exact g_aret F hr (Or.inl ⟨_, rfl⟩) hlk rfl rfl rfl d_TagWays_self_40
  rw [if_neg q2] at hf
  refine g_lookup F (off := 45) (tgt := 46) d_TagWays_self_1 (by decide) (show Op.lookupswitch.offset ([((-1), 40), (62, 27)] : List (Int × Int)) 45 (a1 : Int32).toInt = 45 by rw [lv_osw (k := (-1)) q1 (by decide), lv_osw (k := 62) q2 (by decide)]; rfl) (by decide) ?_
  refine g_aload_n F d_TagWays_self_46 0 rfl ?_
  refine g_getS F (v := .ref (ad 1)) in_X8 4 rfl rfl 0 (by decide) mw_208 mw_209 rfl d_TagWays_self_47 ?_
  refine g_bipush F (v := 13) d_TagWays_self_50 (by decide) ?_
  obtain ⟨x4, hx4, hf⟩ := g_bind hf
  refine g_cv F (ws' := (Wc z ad cA sMt x4 sTokens sReferenceWays sTagWays sCommentWays sOut)) (fun H locs ls hP hD hS hl => g_runV F (As := [.int 13]) (n := 1) mw_408 rfl rfl ⟨by decide, by decide⟩ rfl (by exact Nat.le_of_ble_eq_true rfl) mw_626 mw_406 mw_407 mw_74 (by decide +kernel) d_TagWays_self_52 hP hD hS hl (va_recv F.2.2.2.2.2.1 hP (ci := 1) rfl (q0 := 1) rfl) (c_Source_wrong l D cA z ad sMt sSource sTokens sReferenceWays sTagWays sCommentWays sOut 13 hx4 H.size)) ?_
  refine g_way F 8 (by decide) mw_649 d_TagWays_self_55 ?_
  cases hf
  exact g_aret F hr (Or.inl ⟨_, rfl⟩) hlk rfl rfl rfl d_TagWays_self_58
set_option maxHeartbeats 4000000 in
set_option maxRecDepth 100000 in
theorem c_Reader_doctypeComes (l : Launch) (D : va_G) (cA : Nat → ClassId) (z : gZ) (ad : Nat → Nat) (sMt : SMt) (sSource : SSource) (sTokens : STokens) (sReferenceWays : SReferenceWays) (sTagWays : STagWays) (sCommentWays : SCommentWays) (sOut : SOut) {x : Int32} (hf : f_Reader_doctypeComes sSource = some x) (sz : Nat) : Met l y_Reader_doctypeComes (.code y_Reader_doctypeComes b_Reader_doctypeComes 3 (some .boolean) :: lw_g) { frames := 6, cells := 0, slots := 0, locals := 150 } (gP D (gT cA) z [.ref (ad 7)] (Wc z ad cA sMt sSource sTokens sReferenceWays sTagWays sCommentWays sOut) sz) (gQi D (gT cA) (va_A (Wc z ad cA sMt sSource sTokens sReferenceWays sTagWays sCommentWays sOut) sz) x (Wc z ad cA sMt sSource sTokens sReferenceWays sTagWays sCommentWays sOut)) 0 0 (va_A (Wc z ad cA sMt sSource sTokens sReferenceWays sTagWays sCommentWays sOut) sz) := by
  refine g_met (by decide) (Nat.le_of_ble_eq_true rfl) rfl ?_
  intro p e s m args below meth c F hr hlk
  have blk2 : ∀ (n : Nat) (v1 : Int32), f_Reader_doctypeComes_2 n v1 sSource = some x → GW p l e { frames := 6, cells := 0, slots := 0, locals := 150 } s m args below meth c (gQi D (gT cA) (va_A (Wc z ad cA sMt sSource sTokens sReferenceWays sTagWays sCommentWays sOut) sz) x (Wc z ad cA sMt sSource sTokens sReferenceWays sTagWays sCommentWays sOut)) D (va_A (Wc z ad cA sMt sSource sTokens sReferenceWays sTagWays sCommentWays sOut) sz) 3 (Wc z ad cA sMt sSource sTokens sReferenceWays sTagWays sCommentWays sOut) 2 [(0, .ref (ad 7)), (1, .int v1)] [] := by
    intro n
    induction n with
    | zero => intro _ hf; cases hf
    | succ n ih =>
      intro v1 hf
      rw [f_Reader_doctypeComes_2] at hf
      refine g_iload_n F d_Reader_doctypeComes_2 1 rfl ?_
      refine g_str F ("MarkupTokens$Reader", 224, "doctype", 0) (by decide +kernel) rfl d_Reader_doctypeComes_3 ?_
      refine g_ci F (r0 := 7) (ws' := (Wc z ad cA sMt sSource sTokens sReferenceWays sTagWays sCommentWays sOut)) (fun H locs ls hP hD hS hl => g_runV F (As := []) (n := 0) mw_482 rfl rfl ⟨by decide, by decide⟩ rfl (by exact Nat.le_of_ble_eq_true rfl) mw_747 mw_480 mw_481 mw_90 (by decide +kernel) d_Reader_doctypeComes_5 hP hD hS hl (zh_o (F.2.2.2.2.2.2.2.1.2.2.1 _ (by decide)).1 hS) (c_String_length l D (gT cA) z (Wc z ad cA sMt sSource sTokens sReferenceWays sTagWays sCommentWays sOut) 0 (by decide) H.size)) ?_
      refine g_icmp_ge F (tgt := 49) d_Reader_doctypeComes_8 (by decide) (fun h => ?_) (fun h => ?_)
      · rw [if_pos h] at hf
        refine g_iconst F (v := 1) d_Reader_doctypeComes_49 (by decide) ?_
        cases hf
        exact g_zret F hr rfl hlk rfl rfl rfl d_Reader_doctypeComes_50
      · rw [if_neg h] at hf
        refine g_aload_n F d_Reader_doctypeComes_11 0 rfl ?_
        refine g_getS F (v := .ref (ad 1)) in_X5 7 rfl rfl 0 (by decide) mw_206 mw_207 rfl d_Reader_doctypeComes_12 ?_
        refine g_aload_n F d_Reader_doctypeComes_15 0 rfl ?_
        refine g_getS F (v := .ref (ad 1)) in_X5 7 rfl rfl 0 (by decide) mw_206 mw_207 rfl d_Reader_doctypeComes_16 ?_
        refine g_ci F (r0 := (f_Source_place sSource)) (ws' := (Wc z ad cA sMt sSource sTokens sReferenceWays sTagWays sCommentWays sOut)) (fun H locs ls hP hD hS hl => g_runV F (As := []) (n := 0) mw_474 rfl rfl ⟨by decide, by decide⟩ rfl (by exact Nat.le_of_ble_eq_true rfl) mw_737 mw_472 mw_473 mw_74 (by decide +kernel) d_Reader_doctypeComes_19 hP hD hS hl (va_recv F.2.2.2.2.2.1 hP (ci := 1) rfl (q0 := 1) rfl) (c_Source_place l D cA z ad sMt sSource sTokens sReferenceWays sTagWays sCommentWays sOut rfl H.size)) ?_
        refine g_iload_n F d_Reader_doctypeComes_22 1 rfl ?_
        refine g_iadd F d_Reader_doctypeComes_23 ?_
        obtain ⟨x1, hx1, hf⟩ := g_bind hf
        refine g_ci F (r0 := x1) (ws' := (Wc z ad cA sMt sSource sTokens sReferenceWays sTagWays sCommentWays sOut)) (fun H locs ls hP hD hS hl => g_runV F (As := [.int ((f_Source_place sSource) + v1)]) (n := 1) mw_367 rfl rfl ⟨by decide, by decide⟩ rfl (by exact Nat.le_of_ble_eq_true rfl) mw_738 mw_365 mw_366 mw_74 (by decide +kernel) d_Reader_doctypeComes_24 hP hD hS hl (va_recv F.2.2.2.2.2.1 hP (ci := 1) rfl (q0 := 1) rfl) (c_Source_character l D cA z ad sMt sSource sTokens sReferenceWays sTagWays sCommentWays sOut ((f_Source_place sSource) + v1) hx1 H.size)) ?_
        refine g_istore_n F (L' := [(2, .int x1), (0, .ref (ad 7)), (1, .int v1)]) d_Reader_doctypeComes_27 rfl (by decide) rfl ?_
        refine g_iload_n F d_Reader_doctypeComes_28 0 rfl ?_
        refine g_ci F (r0 := (f_Mt_lowered x1)) (ws' := (Wc z ad cA sMt sSource sTokens sReferenceWays sTagWays sCommentWays sOut)) (fun H locs ls hP hD hS hl => g_runSN F (As := [.int x1]) (n := 1) mw_555 rfl rfl ⟨by decide, by decide⟩ rfl (by exact Nat.le_of_ble_eq_true rfl) (F.2.2.2.2.2.2.2.2.1 (RX5, 234, y_Mt_lowered) (by decide +kernel)) mw_554 mw_73 (by decide +kernel) d_Reader_doctypeComes_29 hP hD hS hl (c_Mt_lowered l D cA z ad sMt sSource sTokens sReferenceWays sTagWays sCommentWays sOut x1 rfl H.size)) ?_
        refine g_str F ("MarkupTokens$Reader", 224, "doctype", 0) (by decide +kernel) rfl d_Reader_doctypeComes_32 ?_
        refine g_iload_n F d_Reader_doctypeComes_34 2 rfl ?_
        obtain ⟨k1, hf⟩ := g_chk hf
        refine g_ci F (r0 := ((zs 0).getD (v1 : Int32).toNatClampNeg 0)) (ws' := (Wc z ad cA sMt sSource sTokens sReferenceWays sTagWays sCommentWays sOut)) (fun H locs ls hP hD hS hl => g_runV F (As := [.int v1]) (n := 1) mw_493 rfl rfl ⟨by decide, by decide⟩ rfl (by exact Nat.le_of_ble_eq_true rfl) mw_749 mw_491 mw_492 mw_90 (by decide +kernel) d_Reader_doctypeComes_35 hP hD hS hl (zh_o (F.2.2.2.2.2.2.2.1.2.2.1 _ (by decide)).1 hS) (c_String_charAt l D (gT cA) z (Wc z ad cA sMt sSource sTokens sReferenceWays sTagWays sCommentWays sOut) 0 (by decide) v1 k1 H.size)) ?_
        refine g_icmp_eq F (tgt := 43) d_Reader_doctypeComes_38 (by decide) (fun h => ?_) (fun h => ?_)
        · rw [if_pos h] at hf
          refine g_iinc F (j := 2) (v := (v1 + 1)) (L' := [(1, .int (v1 + 1)), (2, .int x1), (0, .ref (ad 7))]) d_Reader_doctypeComes_43 rfl rfl (by decide) rfl ?_
          refine g_goto F (tgt := 2) d_Reader_doctypeComes_46 (by decide) ?_
          refine g_loc [2, 0] rfl ?_
          exact ih (v1 + 1) hf
        · rw [if_neg h] at hf
          refine g_iconst F (v := 0) d_Reader_doctypeComes_41 (by decide) ?_
          cases hf
          exact g_zret F hr rfl hlk rfl rfl rfl d_Reader_doctypeComes_42
  unfold f_Reader_doctypeComes at hf
  refine g_iconst F (v := 0) d_Reader_doctypeComes_0 (by decide) ?_
  refine g_istore_n F (L' := [(1, .int 0), (0, .ref (ad 7))]) d_Reader_doctypeComes_1 rfl (by decide) rfl ?_
  refine g_loc [1, 0] rfl ?_
  exact blk2 FU 0 hf
set_option maxHeartbeats 4000000 in
set_option maxRecDepth 100000 in
theorem c_Reader_mark (l : Launch) (D : va_G) (cA : Nat → ClassId) (z : gZ) (ad : Nat → Nat) (sMt : SMt) (sSource : SSource) (sTokens : STokens) (sReferenceWays : SReferenceWays) (sTagWays : STagWays) (sCommentWays : SCommentWays) (sOut : SOut) (a1 : Int32) {x : Nat × SSource × STokens} (hf : f_Reader_mark a1 sSource sTokens = some x) (sz : Nat) : Met l y_Reader_mark (.code y_Reader_mark b_Reader_mark 2 (some (.object "MarkupTokens$Way")) :: lw_g) { frames := 7, cells := 0, slots := 0, locals := 172 } (gP D (gT cA) z [.ref (ad 7), .int a1] (Wc z ad cA sMt sSource sTokens sReferenceWays sTagWays sCommentWays sOut) sz) (gQq D (gT cA) (va_A (Wc z ad cA sMt sSource sTokens sReferenceWays sTagWays sCommentWays sOut) sz) (some (z.1 x.1)) (Wc z ad cA sMt x.2.1 x.2.2 sReferenceWays sTagWays sCommentWays sOut)) 0 0 (va_A (Wc z ad cA sMt sSource sTokens sReferenceWays sTagWays sCommentWays sOut) sz) := by
  refine g_met (by decide) (Nat.le_of_ble_eq_true rfl) rfl ?_
  intro p e s m args below meth c F hr hlk
  unfold f_Reader_mark at hf
  refine g_iload_n F d_Reader_mark_0 1 rfl ?_
  refine g_bipush F (v := 45) d_Reader_mark_1 (by decide) ?_
  refine g_icmp_ne F (tgt := 47) d_Reader_mark_3 (by decide) (fun h => ?_) (fun h => ?_)
  · rw [if_neg h] at hf
    refine g_aload_n F d_Reader_mark_47 0 rfl ?_
    obtain ⟨x1, hx1, hf⟩ := g_bind hf
    refine g_ci F (r0 := x1) (ws' := (Wc z ad cA sMt sSource sTokens sReferenceWays sTagWays sCommentWays sOut)) (fun H locs ls hP hD hS hl => g_runV F (As := []) (n := 0) mw_745 rfl rfl ⟨by decide, by decide⟩ rfl (by exact Nat.le_of_ble_eq_true rfl) mw_742 mw_744 mw_17 mw_77 (by decide +kernel) d_Reader_mark_48 hP hD hS hl (va_recv F.2.2.2.2.2.1 hP (ci := 7) rfl (q0 := 7) rfl) (c_Reader_doctypeComes l D cA z ad sMt sSource sTokens sReferenceWays sTagWays sCommentWays sOut hx1 H.size)) ?_
    refine g_if_eq F (tgt := 70) d_Reader_mark_51 (by decide) (fun h => ?_) (fun h => ?_)
    · rw [if_pos h] at hf
      refine g_aload_n F d_Reader_mark_70 0 rfl ?_
      refine g_getS F (v := .ref (ad 1)) in_X5 7 rfl rfl 0 (by decide) mw_206 mw_207 rfl d_Reader_mark_71 ?_
      refine g_bipush F (v := 16) d_Reader_mark_74 (by decide) ?_
      obtain ⟨x2, hx2, hf⟩ := g_bind hf
      refine g_cv F (ws' := (Wc z ad cA sMt x2 sTokens sReferenceWays sTagWays sCommentWays sOut)) (fun H locs ls hP hD hS hl => g_runV F (As := [.int 16]) (n := 1) mw_408 rfl rfl ⟨by decide, by decide⟩ rfl (by exact Nat.le_of_ble_eq_true rfl) mw_405 mw_406 mw_407 mw_74 (by decide +kernel) d_Reader_mark_76 hP hD hS hl (va_recv F.2.2.2.2.2.1 hP (ci := 1) rfl (q0 := 1) rfl) (c_Source_wrong l D cA z ad sMt sSource sTokens sReferenceWays sTagWays sCommentWays sOut 16 hx2 H.size)) ?_
      refine g_aload_n F d_Reader_mark_79 0 rfl ?_
      obtain ⟨x3, hx3, hf⟩ := g_bind hf
      refine g_cw F (r0 := z.1 x3.1) (ws' := (Wc z ad cA sMt x2 x3.2 sReferenceWays sTagWays sCommentWays sOut)) (fun H locs ls hP hD hS hl => g_runV F (As := []) (n := 0) mw_441 rfl rfl ⟨by decide, by decide⟩ rfl (by exact Nat.le_of_ble_eq_true rfl) mw_438 mw_440 mw_5 mw_77 (by decide +kernel) d_Reader_mark_80 hP hD hS hl (va_recv F.2.2.2.2.2.1 hP (ci := 7) rfl (q0 := 7) rfl) (c_Reader_bogus l D cA z ad sMt x2 sTokens sReferenceWays sTagWays sCommentWays sOut hx3 H.size)) ?_
      cases hf
      exact g_aret F hr (Or.inl ⟨_, rfl⟩) hlk rfl rfl rfl d_Reader_mark_83
    · rw [if_neg h] at hf
      refine g_aload_n F d_Reader_mark_54 0 rfl ?_
      refine g_getS F (v := .ref (ad 1)) in_X5 7 rfl rfl 0 (by decide) mw_206 mw_207 rfl d_Reader_mark_55 ?_
      refine g_str F ("MarkupTokens$Reader", 224, "doctype", 0) (by decide +kernel) rfl d_Reader_mark_58 ?_
      refine g_ci F (r0 := 7) (ws' := (Wc z ad cA sMt sSource sTokens sReferenceWays sTagWays sCommentWays sOut)) (fun H locs ls hP hD hS hl => g_runV F (As := []) (n := 0) mw_482 rfl rfl ⟨by decide, by decide⟩ rfl (by exact Nat.le_of_ble_eq_true rfl) mw_747 mw_480 mw_481 mw_90 (by decide +kernel) d_Reader_mark_60 hP hD hS hl (zh_o (F.2.2.2.2.2.2.2.1.2.2.1 _ (by decide)).1 hS) (c_String_length l D (gT cA) z (Wc z ad cA sMt sSource sTokens sReferenceWays sTagWays sCommentWays sOut) 0 (by decide) H.size)) ?_
      refine g_cv F (ws' := (Wc z ad cA sMt (f_Source_skip 7 sSource) sTokens sReferenceWays sTagWays sCommentWays sOut)) (fun H locs ls hP hD hS hl => g_runV F (As := [.int 7]) (n := 1) mw_533 rfl rfl ⟨by decide, by decide⟩ rfl (by exact Nat.le_of_ble_eq_true rfl) mw_739 mw_531 mw_532 mw_74 (by decide +kernel) d_Reader_mark_63 hP hD hS hl (va_recv F.2.2.2.2.2.1 hP (ci := 1) rfl (q0 := 1) rfl) (c_Source_skip l D cA z ad sMt sSource sTokens sReferenceWays sTagWays sCommentWays sOut 7 rfl H.size)) ?_
      refine g_way F 24 (by decide) mw_750 d_Reader_mark_66 ?_
      cases hf
      exact g_aret F hr (Or.inl ⟨_, rfl⟩) hlk rfl rfl rfl d_Reader_mark_69
  · rw [if_pos h] at hf
    refine g_aload_n F d_Reader_mark_6 0 rfl ?_
    refine g_getS F (v := .ref (ad 1)) in_X5 7 rfl rfl 0 (by decide) mw_206 mw_207 rfl d_Reader_mark_7 ?_
    refine g_aload_n F d_Reader_mark_10 0 rfl ?_
    refine g_getS F (v := .ref (ad 1)) in_X5 7 rfl rfl 0 (by decide) mw_206 mw_207 rfl d_Reader_mark_11 ?_
    refine g_ci F (r0 := (f_Source_place sSource)) (ws' := (Wc z ad cA sMt sSource sTokens sReferenceWays sTagWays sCommentWays sOut)) (fun H locs ls hP hD hS hl => g_runV F (As := []) (n := 0) mw_474 rfl rfl ⟨by decide, by decide⟩ rfl (by exact Nat.le_of_ble_eq_true rfl) mw_737 mw_472 mw_473 mw_74 (by decide +kernel) d_Reader_mark_14 hP hD hS hl (va_recv F.2.2.2.2.2.1 hP (ci := 1) rfl (q0 := 1) rfl) (c_Source_place l D cA z ad sMt sSource sTokens sReferenceWays sTagWays sCommentWays sOut rfl H.size)) ?_
    refine g_iconst F (v := 1) d_Reader_mark_17 (by decide) ?_
    refine g_iadd F d_Reader_mark_18 ?_
    obtain ⟨x4, hx4, hf⟩ := g_bind hf
    refine g_ci F (r0 := x4) (ws' := (Wc z ad cA sMt sSource sTokens sReferenceWays sTagWays sCommentWays sOut)) (fun H locs ls hP hD hS hl => g_runV F (As := [.int ((f_Source_place sSource) + 1)]) (n := 1) mw_367 rfl rfl ⟨by decide, by decide⟩ rfl (by exact Nat.le_of_ble_eq_true rfl) mw_738 mw_365 mw_366 mw_74 (by decide +kernel) d_Reader_mark_19 hP hD hS hl (va_recv F.2.2.2.2.2.1 hP (ci := 1) rfl (q0 := 1) rfl) (c_Source_character l D cA z ad sMt sSource sTokens sReferenceWays sTagWays sCommentWays sOut ((f_Source_place sSource) + 1) hx4 H.size)) ?_
    refine g_bipush F (v := 45) d_Reader_mark_22 (by decide) ?_
    refine g_icmp_ne F (tgt := 47) d_Reader_mark_24 (by decide) (fun h => ?_) (fun h => ?_)
    · rw [if_neg h] at hf
      refine g_aload_n F d_Reader_mark_47 0 rfl ?_
      obtain ⟨x5, hx5, hf⟩ := g_bind hf
      refine g_ci F (r0 := x5) (ws' := (Wc z ad cA sMt sSource sTokens sReferenceWays sTagWays sCommentWays sOut)) (fun H locs ls hP hD hS hl => g_runV F (As := []) (n := 0) mw_745 rfl rfl ⟨by decide, by decide⟩ rfl (by exact Nat.le_of_ble_eq_true rfl) mw_742 mw_744 mw_17 mw_77 (by decide +kernel) d_Reader_mark_48 hP hD hS hl (va_recv F.2.2.2.2.2.1 hP (ci := 7) rfl (q0 := 7) rfl) (c_Reader_doctypeComes l D cA z ad sMt sSource sTokens sReferenceWays sTagWays sCommentWays sOut hx5 H.size)) ?_
      refine g_if_eq F (tgt := 70) d_Reader_mark_51 (by decide) (fun h => ?_) (fun h => ?_)
      · rw [if_pos h] at hf
        refine g_aload_n F d_Reader_mark_70 0 rfl ?_
        refine g_getS F (v := .ref (ad 1)) in_X5 7 rfl rfl 0 (by decide) mw_206 mw_207 rfl d_Reader_mark_71 ?_
        refine g_bipush F (v := 16) d_Reader_mark_74 (by decide) ?_
        obtain ⟨x6, hx6, hf⟩ := g_bind hf
        refine g_cv F (ws' := (Wc z ad cA sMt x6 sTokens sReferenceWays sTagWays sCommentWays sOut)) (fun H locs ls hP hD hS hl => g_runV F (As := [.int 16]) (n := 1) mw_408 rfl rfl ⟨by decide, by decide⟩ rfl (by exact Nat.le_of_ble_eq_true rfl) mw_405 mw_406 mw_407 mw_74 (by decide +kernel) d_Reader_mark_76 hP hD hS hl (va_recv F.2.2.2.2.2.1 hP (ci := 1) rfl (q0 := 1) rfl) (c_Source_wrong l D cA z ad sMt sSource sTokens sReferenceWays sTagWays sCommentWays sOut 16 hx6 H.size)) ?_
        refine g_aload_n F d_Reader_mark_79 0 rfl ?_
        obtain ⟨x7, hx7, hf⟩ := g_bind hf
        refine g_cw F (r0 := z.1 x7.1) (ws' := (Wc z ad cA sMt x6 x7.2 sReferenceWays sTagWays sCommentWays sOut)) (fun H locs ls hP hD hS hl => g_runV F (As := []) (n := 0) mw_441 rfl rfl ⟨by decide, by decide⟩ rfl (by exact Nat.le_of_ble_eq_true rfl) mw_438 mw_440 mw_5 mw_77 (by decide +kernel) d_Reader_mark_80 hP hD hS hl (va_recv F.2.2.2.2.2.1 hP (ci := 7) rfl (q0 := 7) rfl) (c_Reader_bogus l D cA z ad sMt x6 sTokens sReferenceWays sTagWays sCommentWays sOut hx7 H.size)) ?_
        cases hf
        exact g_aret F hr (Or.inl ⟨_, rfl⟩) hlk rfl rfl rfl d_Reader_mark_83
      · rw [if_neg h] at hf
        refine g_aload_n F d_Reader_mark_54 0 rfl ?_
        refine g_getS F (v := .ref (ad 1)) in_X5 7 rfl rfl 0 (by decide) mw_206 mw_207 rfl d_Reader_mark_55 ?_
        refine g_str F ("MarkupTokens$Reader", 224, "doctype", 0) (by decide +kernel) rfl d_Reader_mark_58 ?_
        refine g_ci F (r0 := 7) (ws' := (Wc z ad cA sMt sSource sTokens sReferenceWays sTagWays sCommentWays sOut)) (fun H locs ls hP hD hS hl => g_runV F (As := []) (n := 0) mw_482 rfl rfl ⟨by decide, by decide⟩ rfl (by exact Nat.le_of_ble_eq_true rfl) mw_747 mw_480 mw_481 mw_90 (by decide +kernel) d_Reader_mark_60 hP hD hS hl (zh_o (F.2.2.2.2.2.2.2.1.2.2.1 _ (by decide)).1 hS) (c_String_length l D (gT cA) z (Wc z ad cA sMt sSource sTokens sReferenceWays sTagWays sCommentWays sOut) 0 (by decide) H.size)) ?_
        refine g_cv F (ws' := (Wc z ad cA sMt (f_Source_skip 7 sSource) sTokens sReferenceWays sTagWays sCommentWays sOut)) (fun H locs ls hP hD hS hl => g_runV F (As := [.int 7]) (n := 1) mw_533 rfl rfl ⟨by decide, by decide⟩ rfl (by exact Nat.le_of_ble_eq_true rfl) mw_739 mw_531 mw_532 mw_74 (by decide +kernel) d_Reader_mark_63 hP hD hS hl (va_recv F.2.2.2.2.2.1 hP (ci := 1) rfl (q0 := 1) rfl) (c_Source_skip l D cA z ad sMt sSource sTokens sReferenceWays sTagWays sCommentWays sOut 7 rfl H.size)) ?_
        refine g_way F 24 (by decide) mw_750 d_Reader_mark_66 ?_
        cases hf
        exact g_aret F hr (Or.inl ⟨_, rfl⟩) hlk rfl rfl rfl d_Reader_mark_69
    · rw [if_pos h] at hf
      refine g_aload_n F d_Reader_mark_27 0 rfl ?_
      refine g_getS F (v := .ref (ad 1)) in_X5 7 rfl rfl 0 (by decide) mw_206 mw_207 rfl d_Reader_mark_28 ?_
      refine g_iconst F (v := 2) d_Reader_mark_31 (by decide) ?_
      refine g_cv F (ws' := (Wc z ad cA sMt (f_Source_skip 2 sSource) sTokens sReferenceWays sTagWays sCommentWays sOut)) (fun H locs ls hP hD hS hl => g_runV F (As := [.int 2]) (n := 1) mw_533 rfl rfl ⟨by decide, by decide⟩ rfl (by exact Nat.le_of_ble_eq_true rfl) mw_739 mw_531 mw_532 mw_74 (by decide +kernel) d_Reader_mark_32 hP hD hS hl (va_recv F.2.2.2.2.2.1 hP (ci := 1) rfl (q0 := 1) rfl) (c_Source_skip l D cA z ad sMt sSource sTokens sReferenceWays sTagWays sCommentWays sOut 2 rfl H.size)) ?_
      refine g_aload_n F d_Reader_mark_35 0 rfl ?_
      refine g_getS F (v := .ref (ad 2)) in_X5 7 rfl rfl 1 (by decide) mw_213 mw_214 rfl d_Reader_mark_36 ?_
      refine g_iconst F (v := 3) d_Reader_mark_39 (by decide) ?_
      obtain ⟨x8, hx8, hf⟩ := g_bind hf
      refine g_cv F (ws' := (Wc z ad cA sMt (f_Source_skip 2 sSource) x8 sReferenceWays sTagWays sCommentWays sOut)) (fun H locs ls hP hD hS hl => g_runV F (As := [.int 3]) (n := 1) mw_427 rfl rfl ⟨by decide, by decide⟩ rfl (by exact Nat.le_of_ble_eq_true rfl) mw_424 mw_425 mw_426 mw_75 (by decide +kernel) d_Reader_mark_40 hP hD hS hl (va_recv F.2.2.2.2.2.1 hP (ci := 2) rfl (q0 := 2) rfl) (c_Tokens_begin l D cA z ad sMt (f_Source_skip 2 sSource) sTokens sReferenceWays sTagWays sCommentWays sOut 3 hx8 H.size)) ?_
      refine g_way F 18 (by decide) mw_740 d_Reader_mark_43 ?_
      cases hf
      exact g_aret F hr (Or.inl ⟨_, rfl⟩) hlk rfl rfl rfl d_Reader_mark_46
set_option maxHeartbeats 4000000 in
set_option maxRecDepth 100000 in
theorem c_Ways_done_TagWays (l : Launch) (D : va_G) (cA : Nat → ClassId) (z : gZ) (ad : Nat → Nat) (sMt : SMt) (sSource : SSource) (sTokens : STokens) (sReferenceWays : SReferenceWays) (sTagWays : STagWays) (sCommentWays : SCommentWays) (sOut : SOut) {x : Nat × SSource × STokens} (hf : f_Ways_done sSource sTokens = some x) (sz : Nat) : Met l y_Ways_done (.code y_Ways_done b_Ways_done 1 (some (.object "MarkupTokens$Way")) :: lw_g) { frames := 1, cells := 0, slots := 0, locals := 21 } (gP D (gT cA) z [.ref (ad 4)] (Wc z ad cA sMt sSource sTokens sReferenceWays sTagWays sCommentWays sOut) sz) (gQq D (gT cA) (va_A (Wc z ad cA sMt sSource sTokens sReferenceWays sTagWays sCommentWays sOut) sz) (some (z.1 x.1)) (Wc z ad cA sMt x.2.1 x.2.2 sReferenceWays sTagWays sCommentWays sOut)) 0 0 (va_A (Wc z ad cA sMt sSource sTokens sReferenceWays sTagWays sCommentWays sOut) sz) := by
  refine g_met (by decide) (Nat.le_of_ble_eq_true rfl) rfl ?_
  intro p e s m args below meth c F hr hlk
  unfold f_Ways_done at hf
  refine g_aload_n F d_Ways_done_0 0 rfl ?_
  refine g_get F (v := .ref (ad 2)) in_X8 4 rfl rfl 1 (by decide) mw_210 rfl d_Ways_done_1 ?_
  obtain ⟨x1, hx1, hf⟩ := g_bind hf
  refine g_cv F (ws' := (Wc z ad cA sMt sSource x1 sReferenceWays sTagWays sCommentWays sOut)) (fun H locs ls hP hD hS hl => g_runV F (As := []) (n := 0) mw_602 rfl rfl ⟨by decide, by decide⟩ rfl (by exact Nat.le_of_ble_eq_true rfl) mw_762 mw_600 mw_601 mw_75 (by decide +kernel) d_Ways_done_4 hP hD hS hl (va_recv F.2.2.2.2.2.1 hP (ci := 2) rfl (q0 := 2) rfl) (c_Tokens_endOwn l D cA z ad sMt sSource sTokens sReferenceWays sTagWays sCommentWays sOut hx1 H.size)) ?_
  refine g_aload_n F d_Ways_done_7 0 rfl ?_
  refine g_get F (v := .ref (ad 2)) in_X8 4 rfl rfl 1 (by decide) mw_210 rfl d_Ways_done_8 ?_
  refine g_cv F (ws' := (Wc z ad cA sMt sSource (f_Tokens_tell x1) sReferenceWays sTagWays sCommentWays sOut)) (fun H locs ls hP hD hS hl => g_runV F (As := []) (n := 0) mw_642 rfl rfl ⟨by decide, by decide⟩ rfl (by exact Nat.le_of_ble_eq_true rfl) mw_763 mw_640 mw_641 mw_75 (by decide +kernel) d_Ways_done_11 hP hD hS hl (va_recv F.2.2.2.2.2.1 hP (ci := 2) rfl (q0 := 2) rfl) (c_Tokens_tell l D cA z ad sMt sSource x1 sReferenceWays sTagWays sCommentWays sOut rfl H.size)) ?_
  refine g_aload_n F d_Ways_done_14 0 rfl ?_
  refine g_get F (v := .ref (ad 1)) in_X8 4 rfl rfl 0 (by decide) mw_199 rfl d_Ways_done_15 ?_
  refine g_way F 0 (by decide) mw_764 d_Ways_done_18 ?_
  refine g_cw F (r0 := z.1 ((f_Source_then 0 sSource).1)) (ws' := (Wc z ad cA sMt ((f_Source_then 0 sSource).2) (f_Tokens_tell x1) sReferenceWays sTagWays sCommentWays sOut)) (fun H locs ls hP hD hS hl => g_runV F (As := [.ref (z.1 0)]) (n := 1) mw_401 rfl rfl ⟨by decide, by decide⟩ rfl (by exact Nat.le_of_ble_eq_true rfl) mw_765 mw_399 mw_400 mw_74 (by decide +kernel) d_Ways_done_21 hP hD hS hl (va_recv F.2.2.2.2.2.1 hP (ci := 1) rfl (q0 := 1) rfl) (c_Source_then l D cA z ad sMt sSource (f_Tokens_tell x1) sReferenceWays sTagWays sCommentWays sOut 0 rfl H.size)) ?_
  cases hf
  exact g_aret F hr (Or.inl ⟨_, rfl⟩) hlk rfl rfl rfl d_Ways_done_24
set_option maxHeartbeats 4000000 in
set_option maxRecDepth 100000 in
theorem c_Ways_done_CommentWays (l : Launch) (D : va_G) (cA : Nat → ClassId) (z : gZ) (ad : Nat → Nat) (sMt : SMt) (sSource : SSource) (sTokens : STokens) (sReferenceWays : SReferenceWays) (sTagWays : STagWays) (sCommentWays : SCommentWays) (sOut : SOut) {x : Nat × SSource × STokens} (hf : f_Ways_done sSource sTokens = some x) (sz : Nat) : Met l y_Ways_done (.code y_Ways_done b_Ways_done 1 (some (.object "MarkupTokens$Way")) :: lw_g) { frames := 1, cells := 0, slots := 0, locals := 21 } (gP D (gT cA) z [.ref (ad 5)] (Wc z ad cA sMt sSource sTokens sReferenceWays sTagWays sCommentWays sOut) sz) (gQq D (gT cA) (va_A (Wc z ad cA sMt sSource sTokens sReferenceWays sTagWays sCommentWays sOut) sz) (some (z.1 x.1)) (Wc z ad cA sMt x.2.1 x.2.2 sReferenceWays sTagWays sCommentWays sOut)) 0 0 (va_A (Wc z ad cA sMt sSource sTokens sReferenceWays sTagWays sCommentWays sOut) sz) := by
  refine g_met (by decide) (Nat.le_of_ble_eq_true rfl) rfl ?_
  intro p e s m args below meth c F hr hlk
  unfold f_Ways_done at hf
  refine g_aload_n F d_Ways_done_0 0 rfl ?_
  refine g_get F (v := .ref (ad 2)) in_X1 5 rfl rfl 1 (by decide) mw_210 rfl d_Ways_done_1 ?_
  obtain ⟨x1, hx1, hf⟩ := g_bind hf
  refine g_cv F (ws' := (Wc z ad cA sMt sSource x1 sReferenceWays sTagWays sCommentWays sOut)) (fun H locs ls hP hD hS hl => g_runV F (As := []) (n := 0) mw_602 rfl rfl ⟨by decide, by decide⟩ rfl (by exact Nat.le_of_ble_eq_true rfl) mw_762 mw_600 mw_601 mw_75 (by decide +kernel) d_Ways_done_4 hP hD hS hl (va_recv F.2.2.2.2.2.1 hP (ci := 2) rfl (q0 := 2) rfl) (c_Tokens_endOwn l D cA z ad sMt sSource sTokens sReferenceWays sTagWays sCommentWays sOut hx1 H.size)) ?_
  refine g_aload_n F d_Ways_done_7 0 rfl ?_
  refine g_get F (v := .ref (ad 2)) in_X1 5 rfl rfl 1 (by decide) mw_210 rfl d_Ways_done_8 ?_
  refine g_cv F (ws' := (Wc z ad cA sMt sSource (f_Tokens_tell x1) sReferenceWays sTagWays sCommentWays sOut)) (fun H locs ls hP hD hS hl => g_runV F (As := []) (n := 0) mw_642 rfl rfl ⟨by decide, by decide⟩ rfl (by exact Nat.le_of_ble_eq_true rfl) mw_763 mw_640 mw_641 mw_75 (by decide +kernel) d_Ways_done_11 hP hD hS hl (va_recv F.2.2.2.2.2.1 hP (ci := 2) rfl (q0 := 2) rfl) (c_Tokens_tell l D cA z ad sMt sSource x1 sReferenceWays sTagWays sCommentWays sOut rfl H.size)) ?_
  refine g_aload_n F d_Ways_done_14 0 rfl ?_
  refine g_get F (v := .ref (ad 1)) in_X1 5 rfl rfl 0 (by decide) mw_199 rfl d_Ways_done_15 ?_
  refine g_way F 0 (by decide) mw_764 d_Ways_done_18 ?_
  refine g_cw F (r0 := z.1 ((f_Source_then 0 sSource).1)) (ws' := (Wc z ad cA sMt ((f_Source_then 0 sSource).2) (f_Tokens_tell x1) sReferenceWays sTagWays sCommentWays sOut)) (fun H locs ls hP hD hS hl => g_runV F (As := [.ref (z.1 0)]) (n := 1) mw_401 rfl rfl ⟨by decide, by decide⟩ rfl (by exact Nat.le_of_ble_eq_true rfl) mw_765 mw_399 mw_400 mw_74 (by decide +kernel) d_Ways_done_21 hP hD hS hl (va_recv F.2.2.2.2.2.1 hP (ci := 1) rfl (q0 := 1) rfl) (c_Source_then l D cA z ad sMt sSource (f_Tokens_tell x1) sReferenceWays sTagWays sCommentWays sOut 0 rfl H.size)) ?_
  cases hf
  exact g_aret F hr (Or.inl ⟨_, rfl⟩) hlk rfl rfl rfl d_Ways_done_24
set_option maxHeartbeats 4000000 in
set_option maxRecDepth 100000 in
theorem c_Ways_done_DoctypeWays (l : Launch) (D : va_G) (cA : Nat → ClassId) (z : gZ) (ad : Nat → Nat) (sMt : SMt) (sSource : SSource) (sTokens : STokens) (sReferenceWays : SReferenceWays) (sTagWays : STagWays) (sCommentWays : SCommentWays) (sOut : SOut) {x : Nat × SSource × STokens} (hf : f_Ways_done sSource sTokens = some x) (sz : Nat) : Met l y_Ways_done (.code y_Ways_done b_Ways_done 1 (some (.object "MarkupTokens$Way")) :: lw_g) { frames := 1, cells := 0, slots := 0, locals := 21 } (gP D (gT cA) z [.ref (ad 6)] (Wc z ad cA sMt sSource sTokens sReferenceWays sTagWays sCommentWays sOut) sz) (gQq D (gT cA) (va_A (Wc z ad cA sMt sSource sTokens sReferenceWays sTagWays sCommentWays sOut) sz) (some (z.1 x.1)) (Wc z ad cA sMt x.2.1 x.2.2 sReferenceWays sTagWays sCommentWays sOut)) 0 0 (va_A (Wc z ad cA sMt sSource sTokens sReferenceWays sTagWays sCommentWays sOut) sz) := by
  refine g_met (by decide) (Nat.le_of_ble_eq_true rfl) rfl ?_
  intro p e s m args below meth c F hr hlk
  unfold f_Ways_done at hf
  refine g_aload_n F d_Ways_done_0 0 rfl ?_
  refine g_get F (v := .ref (ad 2)) in_X2 6 rfl rfl 1 (by decide) mw_210 rfl d_Ways_done_1 ?_
  obtain ⟨x1, hx1, hf⟩ := g_bind hf
  refine g_cv F (ws' := (Wc z ad cA sMt sSource x1 sReferenceWays sTagWays sCommentWays sOut)) (fun H locs ls hP hD hS hl => g_runV F (As := []) (n := 0) mw_602 rfl rfl ⟨by decide, by decide⟩ rfl (by exact Nat.le_of_ble_eq_true rfl) mw_762 mw_600 mw_601 mw_75 (by decide +kernel) d_Ways_done_4 hP hD hS hl (va_recv F.2.2.2.2.2.1 hP (ci := 2) rfl (q0 := 2) rfl) (c_Tokens_endOwn l D cA z ad sMt sSource sTokens sReferenceWays sTagWays sCommentWays sOut hx1 H.size)) ?_
  refine g_aload_n F d_Ways_done_7 0 rfl ?_
  refine g_get F (v := .ref (ad 2)) in_X2 6 rfl rfl 1 (by decide) mw_210 rfl d_Ways_done_8 ?_
  refine g_cv F (ws' := (Wc z ad cA sMt sSource (f_Tokens_tell x1) sReferenceWays sTagWays sCommentWays sOut)) (fun H locs ls hP hD hS hl => g_runV F (As := []) (n := 0) mw_642 rfl rfl ⟨by decide, by decide⟩ rfl (by exact Nat.le_of_ble_eq_true rfl) mw_763 mw_640 mw_641 mw_75 (by decide +kernel) d_Ways_done_11 hP hD hS hl (va_recv F.2.2.2.2.2.1 hP (ci := 2) rfl (q0 := 2) rfl) (c_Tokens_tell l D cA z ad sMt sSource x1 sReferenceWays sTagWays sCommentWays sOut rfl H.size)) ?_
  refine g_aload_n F d_Ways_done_14 0 rfl ?_
  refine g_get F (v := .ref (ad 1)) in_X2 6 rfl rfl 0 (by decide) mw_199 rfl d_Ways_done_15 ?_
  refine g_way F 0 (by decide) mw_764 d_Ways_done_18 ?_
  refine g_cw F (r0 := z.1 ((f_Source_then 0 sSource).1)) (ws' := (Wc z ad cA sMt ((f_Source_then 0 sSource).2) (f_Tokens_tell x1) sReferenceWays sTagWays sCommentWays sOut)) (fun H locs ls hP hD hS hl => g_runV F (As := [.ref (z.1 0)]) (n := 1) mw_401 rfl rfl ⟨by decide, by decide⟩ rfl (by exact Nat.le_of_ble_eq_true rfl) mw_765 mw_399 mw_400 mw_74 (by decide +kernel) d_Ways_done_21 hP hD hS hl (va_recv F.2.2.2.2.2.1 hP (ci := 1) rfl (q0 := 1) rfl) (c_Source_then l D cA z ad sMt sSource (f_Tokens_tell x1) sReferenceWays sTagWays sCommentWays sOut 0 rfl H.size)) ?_
  cases hf
  exact g_aret F hr (Or.inl ⟨_, rfl⟩) hlk rfl rfl rfl d_Ways_done_24
set_option maxHeartbeats 4000000 in
set_option maxRecDepth 100000 in
theorem c_Ways_toldAtEnd_TagWays (l : Launch) (D : va_G) (cA : Nat → ClassId) (z : gZ) (ad : Nat → Nat) (sMt : SMt) (sSource : SSource) (sTokens : STokens) (sReferenceWays : SReferenceWays) (sTagWays : STagWays) (sCommentWays : SCommentWays) (sOut : SOut) {x : Nat × STokens} (hf : f_Ways_toldAtEnd sTokens = some x) (sz : Nat) : Met l y_Ways_toldAtEnd (.code y_Ways_toldAtEnd b_Ways_toldAtEnd 1 (some (.object "MarkupTokens$Way")) :: lw_g) { frames := 1, cells := 0, slots := 0, locals := 20 } (gP D (gT cA) z [.ref (ad 4)] (Wc z ad cA sMt sSource sTokens sReferenceWays sTagWays sCommentWays sOut) sz) (gQq D (gT cA) (va_A (Wc z ad cA sMt sSource sTokens sReferenceWays sTagWays sCommentWays sOut) sz) (some (z.1 x.1)) (Wc z ad cA sMt sSource x.2 sReferenceWays sTagWays sCommentWays sOut)) 0 0 (va_A (Wc z ad cA sMt sSource sTokens sReferenceWays sTagWays sCommentWays sOut) sz) := by
  refine g_met (by decide) (Nat.le_of_ble_eq_true rfl) rfl ?_
  intro p e s m args below meth c F hr hlk
  unfold f_Ways_toldAtEnd at hf
  refine g_aload_n F d_Ways_toldAtEnd_0 0 rfl ?_
  refine g_get F (v := .ref (ad 2)) in_X8 4 rfl rfl 1 (by decide) mw_210 rfl d_Ways_toldAtEnd_1 ?_
  obtain ⟨x1, hx1, hf⟩ := g_bind hf
  refine g_cv F (ws' := (Wc z ad cA sMt sSource x1 sReferenceWays sTagWays sCommentWays sOut)) (fun H locs ls hP hD hS hl => g_runV F (As := []) (n := 0) mw_602 rfl rfl ⟨by decide, by decide⟩ rfl (by exact Nat.le_of_ble_eq_true rfl) mw_762 mw_600 mw_601 mw_75 (by decide +kernel) d_Ways_toldAtEnd_4 hP hD hS hl (va_recv F.2.2.2.2.2.1 hP (ci := 2) rfl (q0 := 2) rfl) (c_Tokens_endOwn l D cA z ad sMt sSource sTokens sReferenceWays sTagWays sCommentWays sOut hx1 H.size)) ?_
  refine g_aload_n F d_Ways_toldAtEnd_7 0 rfl ?_
  refine g_get F (v := .ref (ad 2)) in_X8 4 rfl rfl 1 (by decide) mw_210 rfl d_Ways_toldAtEnd_8 ?_
  refine g_cv F (ws' := (Wc z ad cA sMt sSource (f_Tokens_tell x1) sReferenceWays sTagWays sCommentWays sOut)) (fun H locs ls hP hD hS hl => g_runV F (As := []) (n := 0) mw_642 rfl rfl ⟨by decide, by decide⟩ rfl (by exact Nat.le_of_ble_eq_true rfl) mw_763 mw_640 mw_641 mw_75 (by decide +kernel) d_Ways_toldAtEnd_11 hP hD hS hl (va_recv F.2.2.2.2.2.1 hP (ci := 2) rfl (q0 := 2) rfl) (c_Tokens_tell l D cA z ad sMt sSource x1 sReferenceWays sTagWays sCommentWays sOut rfl H.size)) ?_
  refine g_way F 29 (by decide) mw_772 d_Ways_toldAtEnd_14 ?_
  cases hf
  exact g_aret F hr (Or.inl ⟨_, rfl⟩) hlk rfl rfl rfl d_Ways_toldAtEnd_17
set_option maxHeartbeats 4000000 in
set_option maxRecDepth 100000 in
theorem c_Ways_toldAtEnd_CommentWays (l : Launch) (D : va_G) (cA : Nat → ClassId) (z : gZ) (ad : Nat → Nat) (sMt : SMt) (sSource : SSource) (sTokens : STokens) (sReferenceWays : SReferenceWays) (sTagWays : STagWays) (sCommentWays : SCommentWays) (sOut : SOut) {x : Nat × STokens} (hf : f_Ways_toldAtEnd sTokens = some x) (sz : Nat) : Met l y_Ways_toldAtEnd (.code y_Ways_toldAtEnd b_Ways_toldAtEnd 1 (some (.object "MarkupTokens$Way")) :: lw_g) { frames := 1, cells := 0, slots := 0, locals := 20 } (gP D (gT cA) z [.ref (ad 5)] (Wc z ad cA sMt sSource sTokens sReferenceWays sTagWays sCommentWays sOut) sz) (gQq D (gT cA) (va_A (Wc z ad cA sMt sSource sTokens sReferenceWays sTagWays sCommentWays sOut) sz) (some (z.1 x.1)) (Wc z ad cA sMt sSource x.2 sReferenceWays sTagWays sCommentWays sOut)) 0 0 (va_A (Wc z ad cA sMt sSource sTokens sReferenceWays sTagWays sCommentWays sOut) sz) := by
  refine g_met (by decide) (Nat.le_of_ble_eq_true rfl) rfl ?_
  intro p e s m args below meth c F hr hlk
  unfold f_Ways_toldAtEnd at hf
  refine g_aload_n F d_Ways_toldAtEnd_0 0 rfl ?_
  refine g_get F (v := .ref (ad 2)) in_X1 5 rfl rfl 1 (by decide) mw_210 rfl d_Ways_toldAtEnd_1 ?_
  obtain ⟨x1, hx1, hf⟩ := g_bind hf
  refine g_cv F (ws' := (Wc z ad cA sMt sSource x1 sReferenceWays sTagWays sCommentWays sOut)) (fun H locs ls hP hD hS hl => g_runV F (As := []) (n := 0) mw_602 rfl rfl ⟨by decide, by decide⟩ rfl (by exact Nat.le_of_ble_eq_true rfl) mw_762 mw_600 mw_601 mw_75 (by decide +kernel) d_Ways_toldAtEnd_4 hP hD hS hl (va_recv F.2.2.2.2.2.1 hP (ci := 2) rfl (q0 := 2) rfl) (c_Tokens_endOwn l D cA z ad sMt sSource sTokens sReferenceWays sTagWays sCommentWays sOut hx1 H.size)) ?_
  refine g_aload_n F d_Ways_toldAtEnd_7 0 rfl ?_
  refine g_get F (v := .ref (ad 2)) in_X1 5 rfl rfl 1 (by decide) mw_210 rfl d_Ways_toldAtEnd_8 ?_
  refine g_cv F (ws' := (Wc z ad cA sMt sSource (f_Tokens_tell x1) sReferenceWays sTagWays sCommentWays sOut)) (fun H locs ls hP hD hS hl => g_runV F (As := []) (n := 0) mw_642 rfl rfl ⟨by decide, by decide⟩ rfl (by exact Nat.le_of_ble_eq_true rfl) mw_763 mw_640 mw_641 mw_75 (by decide +kernel) d_Ways_toldAtEnd_11 hP hD hS hl (va_recv F.2.2.2.2.2.1 hP (ci := 2) rfl (q0 := 2) rfl) (c_Tokens_tell l D cA z ad sMt sSource x1 sReferenceWays sTagWays sCommentWays sOut rfl H.size)) ?_
  refine g_way F 29 (by decide) mw_772 d_Ways_toldAtEnd_14 ?_
  cases hf
  exact g_aret F hr (Or.inl ⟨_, rfl⟩) hlk rfl rfl rfl d_Ways_toldAtEnd_17
set_option maxHeartbeats 4000000 in
set_option maxRecDepth 100000 in
theorem c_Ways_toldAtEnd_DoctypeWays (l : Launch) (D : va_G) (cA : Nat → ClassId) (z : gZ) (ad : Nat → Nat) (sMt : SMt) (sSource : SSource) (sTokens : STokens) (sReferenceWays : SReferenceWays) (sTagWays : STagWays) (sCommentWays : SCommentWays) (sOut : SOut) {x : Nat × STokens} (hf : f_Ways_toldAtEnd sTokens = some x) (sz : Nat) : Met l y_Ways_toldAtEnd (.code y_Ways_toldAtEnd b_Ways_toldAtEnd 1 (some (.object "MarkupTokens$Way")) :: lw_g) { frames := 1, cells := 0, slots := 0, locals := 20 } (gP D (gT cA) z [.ref (ad 6)] (Wc z ad cA sMt sSource sTokens sReferenceWays sTagWays sCommentWays sOut) sz) (gQq D (gT cA) (va_A (Wc z ad cA sMt sSource sTokens sReferenceWays sTagWays sCommentWays sOut) sz) (some (z.1 x.1)) (Wc z ad cA sMt sSource x.2 sReferenceWays sTagWays sCommentWays sOut)) 0 0 (va_A (Wc z ad cA sMt sSource sTokens sReferenceWays sTagWays sCommentWays sOut) sz) := by
  refine g_met (by decide) (Nat.le_of_ble_eq_true rfl) rfl ?_
  intro p e s m args below meth c F hr hlk
  unfold f_Ways_toldAtEnd at hf
  refine g_aload_n F d_Ways_toldAtEnd_0 0 rfl ?_
  refine g_get F (v := .ref (ad 2)) in_X2 6 rfl rfl 1 (by decide) mw_210 rfl d_Ways_toldAtEnd_1 ?_
  obtain ⟨x1, hx1, hf⟩ := g_bind hf
  refine g_cv F (ws' := (Wc z ad cA sMt sSource x1 sReferenceWays sTagWays sCommentWays sOut)) (fun H locs ls hP hD hS hl => g_runV F (As := []) (n := 0) mw_602 rfl rfl ⟨by decide, by decide⟩ rfl (by exact Nat.le_of_ble_eq_true rfl) mw_762 mw_600 mw_601 mw_75 (by decide +kernel) d_Ways_toldAtEnd_4 hP hD hS hl (va_recv F.2.2.2.2.2.1 hP (ci := 2) rfl (q0 := 2) rfl) (c_Tokens_endOwn l D cA z ad sMt sSource sTokens sReferenceWays sTagWays sCommentWays sOut hx1 H.size)) ?_
  refine g_aload_n F d_Ways_toldAtEnd_7 0 rfl ?_
  refine g_get F (v := .ref (ad 2)) in_X2 6 rfl rfl 1 (by decide) mw_210 rfl d_Ways_toldAtEnd_8 ?_
  refine g_cv F (ws' := (Wc z ad cA sMt sSource (f_Tokens_tell x1) sReferenceWays sTagWays sCommentWays sOut)) (fun H locs ls hP hD hS hl => g_runV F (As := []) (n := 0) mw_642 rfl rfl ⟨by decide, by decide⟩ rfl (by exact Nat.le_of_ble_eq_true rfl) mw_763 mw_640 mw_641 mw_75 (by decide +kernel) d_Ways_toldAtEnd_11 hP hD hS hl (va_recv F.2.2.2.2.2.1 hP (ci := 2) rfl (q0 := 2) rfl) (c_Tokens_tell l D cA z ad sMt sSource x1 sReferenceWays sTagWays sCommentWays sOut rfl H.size)) ?_
  refine g_way F 29 (by decide) mw_772 d_Ways_toldAtEnd_14 ?_
  cases hf
  exact g_aret F hr (Or.inl ⟨_, rfl⟩) hlk rfl rfl rfl d_Ways_toldAtEnd_17
