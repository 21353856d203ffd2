set_option maxHeartbeats 4000000 in
set_option maxRecDepth 100000 in
theorem c_CommentWays_bogus (l : Launch) (D : va_G) (cA : Nat → ClassId) (z : gZ) (ad : Nat → Nat) (sMt : SMt) (sSource : SSource) (sTokens : STokens) (sReferenceWays : SReferenceWays) (sTagWays : STagWays) (sCommentWays : SCommentWays) (sOut : SOut) (a1 : Int32) {x : Nat × SSource × STokens} (hf : f_CommentWays_bogus a1 sSource sTokens = some x) (sz : Nat) : Met l y_CommentWays_bogus (.code y_CommentWays_bogus b_CommentWays_bogus 2 (some (.object "MarkupTokens$Way")) :: lw_g) { frames := 2, cells := 0, slots := 0, locals := 42 } (gP D (gT cA) z [.ref (ad 5), .int a1] (Wc z ad cA sMt sSource sTokens sReferenceWays sTagWays sCommentWays sOut) sz) (gQq D (gT cA) (va_A (Wc z ad cA sMt sSource sTokens sReferenceWays sTagWays sCommentWays sOut) sz) (some (z.1 x.1)) (Wc z ad cA sMt x.2.1 x.2.2 sReferenceWays sTagWays sCommentWays sOut)) 0 0 (va_A (Wc z ad cA sMt sSource sTokens sReferenceWays sTagWays sCommentWays sOut) sz) := by
  refine g_met (by decide) (Nat.le_of_ble_eq_true rfl) rfl ?_
  intro p e s m args below meth c F hr hlk
  unfold f_CommentWays_bogus at hf
  refine g_iload_n F d_CommentWays_bogus_0 1 rfl ?_
  by_cases q1 : a1 = (-1)
  · rw [if_pos q1] at hf
    refine g_lookup F (off := 32) (tgt := 33) d_CommentWays_bogus_1 (by decide) (by rw [q1]; decide) (by decide) ?_
    refine g_aload_n F d_CommentWays_bogus_33 0 rfl ?_
    obtain ⟨x1, hx1, hf⟩ := g_bind hf
    refine g_cw F (r0 := z.1 x1.1) (ws' := (Wc z ad cA sMt sSource x1.2 sReferenceWays sTagWays sCommentWays sOut)) (fun H locs ls hP hD hS hl => g_runU F (As := []) (n := 0) mw_771 rfl rfl ⟨by decide, by decide⟩ rfl (by exact Nat.le_of_ble_eq_true rfl) mw_766 mw_767 mw_769 mw_770 mw_76 rfl (by decide +kernel) d_CommentWays_bogus_34 hP hD hS hl (va_recv F.2.2.2.2.2.1 hP (ci := 5) rfl (q0 := 5) rfl) (c_Ways_toldAtEnd_CommentWays l D cA z ad sMt sSource sTokens sReferenceWays sTagWays sCommentWays sOut hx1 H.size)) ?_
    cases hf
    exact g_aret F hr (Or.inl ⟨_, rfl⟩) hlk rfl rfl rfl d_CommentWays_bogus_37
  rw [if_neg q1] at hf
  by_cases q2 : a1 = 62
  · rw [if_pos q2] at hf
    refine g_lookup F (off := 27) (tgt := 28) d_CommentWays_bogus_1 (by decide) (by rw [q2]; decide) (by decide) ?_
    refine g_aload_n F d_CommentWays_bogus_28 0 rfl ?_
    obtain ⟨x2, hx2, hf⟩ := g_bind hf
    refine g_cw F (r0 := z.1 x2.1) (ws' := (Wc z ad cA sMt x2.2.1 x2.2.2 sReferenceWays sTagWays sCommentWays sOut)) (fun H locs ls hP hD hS hl => g_runU F (As := []) (n := 0) mw_761 rfl rfl ⟨by decide, by decide⟩ rfl (by exact Nat.le_of_ble_eq_true rfl) mw_756 mw_757 mw_759 mw_760 mw_76 rfl (by decide +kernel) d_CommentWays_bogus_29 hP hD hS hl (va_recv F.2.2.2.2.2.1 hP (ci := 5) rfl (q0 := 5) rfl) (c_Ways_done_CommentWays l D cA z ad sMt sSource sTokens sReferenceWays sTagWays sCommentWays sOut hx2 H.size)) ?_
    cases hf
    exact g_aret F hr (Or.inl ⟨_, rfl⟩) hlk rfl rfl rfl d_CommentWays_bogus_32
  rw [if_neg q2] at hf
  refine g_lookup F (off := 37) (tgt := 38) d_CommentWays_bogus_1 (by decide) (show Op.lookupswitch.offset ([((-1), 32), (62, 27)] : List (Int × Int)) 37 (a1 : Int32).toInt = 37 by rw [lv_osw (k := (-1)) q1 (by decide), lv_osw (k := 62) q2 (by decide)]; rfl) (by decide) ?_
  refine g_aload_n F d_CommentWays_bogus_38 0 rfl ?_
  refine g_iload_n F d_CommentWays_bogus_39 1 rfl ?_
  obtain ⟨x3, hx3, hf⟩ := g_bind hf
  refine g_cv F (ws' := (Wc z ad cA sMt x3.1 x3.2 sReferenceWays sTagWays sCommentWays sOut)) (fun H locs ls hP hD hS hl => g_runU F (As := [.int a1]) (n := 1) mw_657 rfl rfl ⟨by decide, by decide⟩ rfl (by exact Nat.le_of_ble_eq_true rfl) mw_773 mw_774 mw_775 mw_656 mw_76 rfl (by decide +kernel) d_CommentWays_bogus_40 hP hD hS hl (va_recv F.2.2.2.2.2.1 hP (ci := 5) rfl (q0 := 5) rfl) (c_Ways_addKnown_CommentWays l D cA z ad sMt sSource sTokens sReferenceWays sTagWays sCommentWays sOut a1 hx3 H.size)) ?_
  refine g_aload_n F d_CommentWays_bogus_43 0 rfl ?_
  refine g_getS F (v := .ref (ad 1)) in_X1 5 rfl rfl 0 (by decide) mw_200 mw_201 rfl d_CommentWays_bogus_44 ?_
  refine g_way F 17 (by decide) mw_776 d_CommentWays_bogus_47 ?_
  refine g_cw F (r0 := z.1 ((f_Source_then 17 x3.1).1)) (ws' := (Wc z ad cA sMt ((f_Source_then 17 x3.1).2) x3.2 sReferenceWays sTagWays sCommentWays sOut)) (fun H locs ls hP hD hS hl => g_runV F (As := [.ref (z.1 17)]) (n := 1) mw_401 rfl rfl ⟨by decide, by decide⟩ rfl (by exact Nat.le_of_ble_eq_true rfl) mw_777 mw_399 mw_400 mw_74 (by decide +kernel) d_CommentWays_bogus_50 hP hD hS hl (va_recv F.2.2.2.2.2.1 hP (ci := 1) rfl (q0 := 1) rfl) (c_Source_then l D cA z ad sMt x3.1 x3.2 sReferenceWays sTagWays sCommentWays sOut 17 rfl H.size)) ?_
  cases hf
  exact g_aret F hr (Or.inl ⟨_, rfl⟩) hlk rfl rfl rfl d_CommentWays_bogus_53
set_option maxHeartbeats 4000000 in
set_option maxRecDepth 100000 in
theorem c_CommentWays_closedEarly (l : Launch) (D : va_G) (cA : Nat → ClassId) (z : gZ) (ad : Nat → Nat) (sMt : SMt) (sSource : SSource) (sTokens : STokens) (sReferenceWays : SReferenceWays) (sTagWays : STagWays) (sCommentWays : SCommentWays) (sOut : SOut) {x : Nat × SSource × STokens} (hf : f_CommentWays_closedEarly sSource sTokens = some x) (sz : Nat) : Met l y_CommentWays_closedEarly (.code y_CommentWays_closedEarly b_CommentWays_closedEarly 1 (some (.object "MarkupTokens$Way")) :: lw_g) { frames := 2, cells := 0, slots := 0, locals := 41 } (gP D (gT cA) z [.ref (ad 5)] (Wc z ad cA sMt sSource sTokens sReferenceWays sTagWays sCommentWays sOut) sz) (gQq D (gT cA) (va_A (Wc z ad cA sMt sSource sTokens sReferenceWays sTagWays sCommentWays sOut) sz) (some (z.1 x.1)) (Wc z ad cA sMt x.2.1 x.2.2 sReferenceWays sTagWays sCommentWays sOut)) 0 0 (va_A (Wc z ad cA sMt sSource sTokens sReferenceWays sTagWays sCommentWays sOut) sz) := by
  refine g_met (by decide) (Nat.le_of_ble_eq_true rfl) rfl ?_
  intro p e s m args below meth c F hr hlk
  unfold f_CommentWays_closedEarly at hf
  refine g_aload_n F d_CommentWays_closedEarly_0 0 rfl ?_
  refine g_getS F (v := .ref (ad 1)) in_X1 5 rfl rfl 0 (by decide) mw_200 mw_201 rfl d_CommentWays_closedEarly_1 ?_
  refine g_bipush F (v := 17) d_CommentWays_closedEarly_4 (by decide) ?_
  obtain ⟨x1, hx1, hf⟩ := g_bind hf
  refine g_cv F (ws' := (Wc z ad cA sMt x1 sTokens sReferenceWays sTagWays sCommentWays sOut)) (fun H locs ls hP hD hS hl => g_runV F (As := [.int 17]) (n := 1) mw_408 rfl rfl ⟨by decide, by decide⟩ rfl (by exact Nat.le_of_ble_eq_true rfl) mw_788 mw_406 mw_407 mw_74 (by decide +kernel) d_CommentWays_closedEarly_6 hP hD hS hl (va_recv F.2.2.2.2.2.1 hP (ci := 1) rfl (q0 := 1) rfl) (c_Source_wrong l D cA z ad sMt sSource sTokens sReferenceWays sTagWays sCommentWays sOut 17 hx1 H.size)) ?_
  refine g_aload_n F d_CommentWays_closedEarly_9 0 rfl ?_
  obtain ⟨x2, hx2, hf⟩ := g_bind hf
  refine g_cw F (r0 := z.1 x2.1) (ws' := (Wc z ad cA sMt x2.2.1 x2.2.2 sReferenceWays sTagWays sCommentWays sOut)) (fun H locs ls hP hD hS hl => g_runU F (As := []) (n := 0) mw_761 rfl rfl ⟨by decide, by decide⟩ rfl (by exact Nat.le_of_ble_eq_true rfl) mw_756 mw_757 mw_759 mw_760 mw_76 rfl (by decide +kernel) d_CommentWays_closedEarly_10 hP hD hS hl (va_recv F.2.2.2.2.2.1 hP (ci := 5) rfl (q0 := 5) rfl) (c_Ways_done_CommentWays l D cA z ad sMt x1 sTokens sReferenceWays sTagWays sCommentWays sOut hx2 H.size)) ?_
  cases hf
  exact g_aret F hr (Or.inl ⟨_, rfl⟩) hlk rfl rfl rfl d_CommentWays_closedEarly_13
set_option maxHeartbeats 4000000 in
set_option maxRecDepth 100000 in
theorem c_CommentWays_start (l : Launch) (D : va_G) (cA : Nat → ClassId) (z : gZ) (ad : Nat → Nat) (sMt : SMt) (sSource : SSource) (sTokens : STokens) (sReferenceWays : SReferenceWays) (sTagWays : STagWays) (sCommentWays : SCommentWays) (sOut : SOut) (a1 : Int32) {x : Nat × SCommentWays × SSource × STokens} (hf : f_CommentWays_start a1 sCommentWays sSource sTokens = some x) (sz : Nat) : Met l y_CommentWays_start (.code y_CommentWays_start b_CommentWays_start 2 (some (.object "MarkupTokens$Way")) :: lw_g) { frames := 3, cells := 0, slots := 0, locals := 61 } (gP D (gT cA) z [.ref (ad 5), .int a1] (Wc z ad cA sMt sSource sTokens sReferenceWays sTagWays sCommentWays sOut) sz) (gQq D (gT cA) (va_A (Wc z ad cA sMt sSource sTokens sReferenceWays sTagWays sCommentWays sOut) sz) (some (z.1 x.1)) (Wc z ad cA sMt x.2.2.1 x.2.2.2 sReferenceWays sTagWays x.2.1 sOut)) 0 0 (va_A (Wc z ad cA sMt sSource sTokens sReferenceWays sTagWays sCommentWays sOut) sz) := by
  refine g_met (by decide) (Nat.le_of_ble_eq_true rfl) rfl ?_
  intro p e s m args below meth c F hr hlk
  unfold f_CommentWays_start at hf
  refine g_aload_n F d_CommentWays_start_0 0 rfl ?_
  refine g_iconst F (v := (-1)) d_CommentWays_start_1 (by decide) ?_
  refine g_put F in_X1 5 rfl rfl 2 (by decide) tyX1 tyX1_ok nmX1 mw_249 rfl rfl rfl (Nat.le_of_ble_eq_true rfl) (ws' := (Wc z ad cA sMt sSource sTokens sReferenceWays sTagWays (-1) sOut)) rfl d_CommentWays_start_2 ?_
  refine g_iload_n F d_CommentWays_start_5 1 rfl ?_
  by_cases q1 : a1 = 45
  · rw [if_pos q1] at hf
    refine g_lookup F (off := 26) (tgt := 32) d_CommentWays_start_6 (by decide) (by rw [q1]; decide) (by decide) ?_
    refine g_aload_n F d_CommentWays_start_32 0 rfl ?_
    refine g_getS F (v := .ref (ad 1)) in_X1 5 rfl rfl 0 (by decide) mw_200 mw_201 rfl d_CommentWays_start_33 ?_
    refine g_way F 19 (by decide) mw_782 d_CommentWays_start_36 ?_
    refine g_cw F (r0 := z.1 ((f_Source_then 19 sSource).1)) (ws' := (Wc z ad cA sMt ((f_Source_then 19 sSource).2) sTokens sReferenceWays sTagWays (-1) sOut)) (fun H locs ls hP hD hS hl => g_runV F (As := [.ref (z.1 19)]) (n := 1) mw_401 rfl rfl ⟨by decide, by decide⟩ rfl (by exact Nat.le_of_ble_eq_true rfl) mw_777 mw_399 mw_400 mw_74 (by decide +kernel) d_CommentWays_start_39 hP hD hS hl (va_recv F.2.2.2.2.2.1 hP (ci := 1) rfl (q0 := 1) rfl) (c_Source_then l D cA z ad sMt sSource sTokens sReferenceWays sTagWays (-1) sOut 19 rfl H.size)) ?_
    cases hf
    exact g_aret F hr (Or.inl ⟨_, rfl⟩) hlk rfl rfl rfl d_CommentWays_start_42
  rw [if_neg q1] at hf
  by_cases q2 : a1 = 62
  · rw [if_pos q2] at hf
    refine g_lookup F (off := 37) (tgt := 43) d_CommentWays_start_6 (by decide) (by rw [q2]; decide) (by decide) ?_
    refine g_aload_n F d_CommentWays_start_43 0 rfl ?_
    obtain ⟨x1, hx1, hf⟩ := g_bind hf
    refine g_cw F (r0 := z.1 x1.1) (ws' := (Wc z ad cA sMt x1.2.1 x1.2.2 sReferenceWays sTagWays (-1) sOut)) (fun H locs ls hP hD hS hl => g_runV F (As := []) (n := 0) mw_787 rfl rfl ⟨by decide, by decide⟩ rfl (by exact Nat.le_of_ble_eq_true rfl) mw_784 mw_786 mw_18 mw_82 (by decide +kernel) d_CommentWays_start_44 hP hD hS hl (va_recv F.2.2.2.2.2.1 hP (ci := 5) rfl (q0 := 5) rfl) (c_CommentWays_closedEarly l D cA z ad sMt sSource sTokens sReferenceWays sTagWays (-1) sOut hx1 H.size)) ?_
    cases hf
    exact g_aret F hr (Or.inl ⟨_, rfl⟩) hlk rfl rfl rfl d_CommentWays_start_47
  rw [if_neg q2] at hf
  refine g_lookup F (off := 42) (tgt := 48) d_CommentWays_start_6 (by decide) (show Op.lookupswitch.offset ([(45, 26), (62, 37)] : List (Int × Int)) 42 (a1 : Int32).toInt = 42 by rw [lv_osw (k := 45) q1 (by decide), lv_osw (k := 62) q2 (by decide)]; rfl) (by decide) ?_
  refine g_way F 20 (by decide) mw_789 d_CommentWays_start_48 ?_
  cases hf
  exact g_aret F hr (Or.inl ⟨_, rfl⟩) hlk rfl rfl rfl d_CommentWays_start_51
set_option maxHeartbeats 4000000 in
set_option maxRecDepth 100000 in
theorem c_CommentWays_startDash (l : Launch) (D : va_G) (cA : Nat → ClassId) (z : gZ) (ad : Nat → Nat) (sMt : SMt) (sSource : SSource) (sTokens : STokens) (sReferenceWays : SReferenceWays) (sTagWays : STagWays) (sCommentWays : SCommentWays) (sOut : SOut) (a1 : Int32) {x : Nat × SSource × STokens} (hf : f_CommentWays_startDash a1 sSource sTokens = some x) (sz : Nat) : Met l y_CommentWays_startDash (.code y_CommentWays_startDash b_CommentWays_startDash 2 (some (.object "MarkupTokens$Way")) :: lw_g) { frames := 3, cells := 0, slots := 0, locals := 61 } (gP D (gT cA) z [.ref (ad 5), .int a1] (Wc z ad cA sMt sSource sTokens sReferenceWays sTagWays sCommentWays sOut) sz) (gQq D (gT cA) (va_A (Wc z ad cA sMt sSource sTokens sReferenceWays sTagWays sCommentWays sOut) sz) (some (z.1 x.1)) (Wc z ad cA sMt x.2.1 x.2.2 sReferenceWays sTagWays sCommentWays sOut)) 0 0 (va_A (Wc z ad cA sMt sSource sTokens sReferenceWays sTagWays sCommentWays sOut) sz) := by
  refine g_met (by decide) (Nat.le_of_ble_eq_true rfl) rfl ?_
  intro p e s m args below meth c F hr hlk
  unfold f_CommentWays_startDash at hf
  refine g_iload_n F d_CommentWays_startDash_0 1 rfl ?_
  refine g_bipush F (v := 62) d_CommentWays_startDash_1 (by decide) ?_
  refine g_icmp_ne F (tgt := 13) d_CommentWays_startDash_3 (by decide) (fun h => ?_) (fun h => ?_)
  · rw [if_neg h] at hf
    refine g_way F 21 (by decide) mw_795 d_CommentWays_startDash_13 ?_
    cases hf
    exact g_aret F hr (Or.inl ⟨_, rfl⟩) hlk rfl rfl rfl d_CommentWays_startDash_16
  · rw [if_pos h] at hf
    refine g_aload_n F d_CommentWays_startDash_6 0 rfl ?_
    obtain ⟨x1, hx1, hf⟩ := g_bind hf
    refine g_cw F (r0 := z.1 x1.1) (ws' := (Wc z ad cA sMt x1.2.1 x1.2.2 sReferenceWays sTagWays sCommentWays sOut)) (fun H locs ls hP hD hS hl => g_runV F (As := []) (n := 0) mw_787 rfl rfl ⟨by decide, by decide⟩ rfl (by exact Nat.le_of_ble_eq_true rfl) mw_784 mw_786 mw_18 mw_82 (by decide +kernel) d_CommentWays_startDash_7 hP hD hS hl (va_recv F.2.2.2.2.2.1 hP (ci := 5) rfl (q0 := 5) rfl) (c_CommentWays_closedEarly l D cA z ad sMt sSource sTokens sReferenceWays sTagWays sCommentWays sOut hx1 H.size)) ?_
    refine g_goto F (tgt := 16) d_CommentWays_startDash_10 (by decide) ?_
    cases hf
    exact g_aret F hr (Or.inl ⟨_, rfl⟩) hlk rfl rfl rfl d_CommentWays_startDash_16
set_option maxHeartbeats 4000000 in
set_option maxRecDepth 100000 in
theorem c_CommentWays_unfinished (l : Launch) (D : va_G) (cA : Nat → ClassId) (z : gZ) (ad : Nat → Nat) (sMt : SMt) (sSource : SSource) (sTokens : STokens) (sReferenceWays : SReferenceWays) (sTagWays : STagWays) (sCommentWays : SCommentWays) (sOut : SOut) {x : Nat × SSource × STokens} (hf : f_CommentWays_unfinished sSource sTokens = some x) (sz : Nat) : Met l y_CommentWays_unfinished (.code y_CommentWays_unfinished b_CommentWays_unfinished 1 (some (.object "MarkupTokens$Way")) :: lw_g) { frames := 2, cells := 0, slots := 0, locals := 40 } (gP D (gT cA) z [.ref (ad 5)] (Wc z ad cA sMt sSource sTokens sReferenceWays sTagWays sCommentWays sOut) sz) (gQq D (gT cA) (va_A (Wc z ad cA sMt sSource sTokens sReferenceWays sTagWays sCommentWays sOut) sz) (some (z.1 x.1)) (Wc z ad cA sMt x.2.1 x.2.2 sReferenceWays sTagWays sCommentWays sOut)) 0 0 (va_A (Wc z ad cA sMt sSource sTokens sReferenceWays sTagWays sCommentWays sOut) sz) := by
  refine g_met (by decide) (Nat.le_of_ble_eq_true rfl) rfl ?_
  intro p e s m args below meth c F hr hlk
  unfold f_CommentWays_unfinished at hf
  refine g_aload_n F d_CommentWays_unfinished_0 0 rfl ?_
  refine g_getS F (v := .ref (ad 1)) in_X1 5 rfl rfl 0 (by decide) mw_200 mw_201 rfl d_CommentWays_unfinished_1 ?_
  refine g_bipush F (v := 18) d_CommentWays_unfinished_4 (by decide) ?_
  obtain ⟨x1, hx1, hf⟩ := g_bind hf
  refine g_cv F (ws' := (Wc z ad cA sMt x1 sTokens sReferenceWays sTagWays sCommentWays sOut)) (fun H locs ls hP hD hS hl => g_runV F (As := [.int 18]) (n := 1) mw_408 rfl rfl ⟨by decide, by decide⟩ rfl (by exact Nat.le_of_ble_eq_true rfl) mw_788 mw_406 mw_407 mw_74 (by decide +kernel) d_CommentWays_unfinished_6 hP hD hS hl (va_recv F.2.2.2.2.2.1 hP (ci := 1) rfl (q0 := 1) rfl) (c_Source_wrong l D cA z ad sMt sSource sTokens sReferenceWays sTagWays sCommentWays sOut 18 hx1 H.size)) ?_
  refine g_aload_n F d_CommentWays_unfinished_9 0 rfl ?_
  obtain ⟨x2, hx2, hf⟩ := g_bind hf
  refine g_cw F (r0 := z.1 x2.1) (ws' := (Wc z ad cA sMt x1 x2.2 sReferenceWays sTagWays sCommentWays sOut)) (fun H locs ls hP hD hS hl => g_runU F (As := []) (n := 0) mw_771 rfl rfl ⟨by decide, by decide⟩ rfl (by exact Nat.le_of_ble_eq_true rfl) mw_766 mw_767 mw_769 mw_770 mw_76 rfl (by decide +kernel) d_CommentWays_unfinished_10 hP hD hS hl (va_recv F.2.2.2.2.2.1 hP (ci := 5) rfl (q0 := 5) rfl) (c_Ways_toldAtEnd_CommentWays l D cA z ad sMt x1 sTokens sReferenceWays sTagWays sCommentWays sOut hx2 H.size)) ?_
  cases hf
  exact g_aret F hr (Or.inl ⟨_, rfl⟩) hlk rfl rfl rfl d_CommentWays_unfinished_13
set_option maxHeartbeats 4000000 in
set_option maxRecDepth 100000 in
theorem c_CommentWays_lookForNested (l : Launch) (D : va_G) (cA : Nat → ClassId) (z : gZ) (ad : Nat → Nat) (sMt : SMt) (sSource : SSource) (sTokens : STokens) (sReferenceWays : SReferenceWays) (sTagWays : STagWays) (sCommentWays : SCommentWays) (sOut : SOut) (a1 : Int32) {x : SCommentWays} (hf : f_CommentWays_lookForNested a1 sCommentWays sSource = some x) (sz : Nat) : Met l y_CommentWays_lookForNested (.code y_CommentWays_lookForNested b_CommentWays_lookForNested 4 none :: lw_g) { frames := 1, cells := 0, slots := 0, locals := 21 } (gP D (gT cA) z [.ref (ad 5), .int a1] (Wc z ad cA sMt sSource sTokens sReferenceWays sTagWays sCommentWays sOut) sz) (gQv D (gT cA) (va_A (Wc z ad cA sMt sSource sTokens sReferenceWays sTagWays sCommentWays sOut) sz) (Wc z ad cA sMt sSource sTokens sReferenceWays sTagWays x sOut)) 0 0 (va_A (Wc z ad cA sMt sSource sTokens sReferenceWays sTagWays sCommentWays sOut) sz) := by
  refine g_met (by decide) (Nat.le_of_ble_eq_true rfl) rfl ?_
  intro p e s m args below meth c F hr hlk
  unfold f_CommentWays_lookForNested at hf
  refine g_aload_n F d_CommentWays_lookForNested_0 0 rfl ?_
  refine g_getS F (v := .ref (ad 1)) in_X1 5 rfl rfl 0 (by decide) mw_200 mw_201 rfl d_CommentWays_lookForNested_1 ?_
  refine g_iload_n F d_CommentWays_lookForNested_4 1 rfl ?_
  refine g_iconst F (v := 1) d_CommentWays_lookForNested_5 (by decide) ?_
  refine g_iadd F d_CommentWays_lookForNested_6 ?_
  obtain ⟨x1, hx1, hf⟩ := g_bind hf
  refine g_ci F (r0 := x1) (ws' := (Wc z ad cA sMt sSource sTokens sReferenceWays sTagWays sCommentWays sOut)) (fun H locs ls hP hD hS hl => g_runV F (As := [.int (a1 + 1)]) (n := 1) mw_367 rfl rfl ⟨by decide, by decide⟩ rfl (by exact Nat.le_of_ble_eq_true rfl) mw_810 mw_365 mw_366 mw_74 (by decide +kernel) d_CommentWays_lookForNested_7 hP hD hS hl (va_recv F.2.2.2.2.2.1 hP (ci := 1) rfl (q0 := 1) rfl) (c_Source_character l D cA z ad sMt sSource sTokens sReferenceWays sTagWays sCommentWays sOut (a1 + 1) hx1 H.size)) ?_
  refine g_bipush F (v := 33) d_CommentWays_lookForNested_10 (by decide) ?_
  refine g_icmp_ne F (tgt := 49) d_CommentWays_lookForNested_12 (by decide) (fun h => ?_) (fun h => ?_)
  · rw [if_neg h] at hf
    refine g_iconst F (v := 0) d_CommentWays_lookForNested_49 (by decide) ?_
    refine g_istore_n F (L' := [(2, .int 0), (0, .ref (ad 5)), (1, .int a1)]) d_CommentWays_lookForNested_50 rfl (by decide) rfl ?_
    refine g_aload_n F d_CommentWays_lookForNested_51 1 rfl ?_
    refine g_getS F (v := .ref (ad 1)) in_X1 5 rfl rfl 0 (by decide) mw_200 mw_201 rfl d_CommentWays_lookForNested_52 ?_
    refine g_iload_n F d_CommentWays_lookForNested_55 2 rfl ?_
    refine g_iconst F (v := 4) d_CommentWays_lookForNested_56 (by decide) ?_
    refine g_iadd F d_CommentWays_lookForNested_57 ?_
    obtain ⟨x2, hx2, hf⟩ := g_bind hf
    refine g_ci F (r0 := x2) (ws' := (Wc z ad cA sMt sSource sTokens sReferenceWays sTagWays sCommentWays sOut)) (fun H locs ls hP hD hS hl => g_runV F (As := [.int (a1 + 4)]) (n := 1) mw_367 rfl rfl ⟨by decide, by decide⟩ rfl (by exact Nat.le_of_ble_eq_true rfl) mw_810 mw_365 mw_366 mw_74 (by decide +kernel) d_CommentWays_lookForNested_58 hP hD hS hl (va_recv F.2.2.2.2.2.1 hP (ci := 1) rfl (q0 := 1) rfl) (c_Source_character l D cA z ad sMt sSource sTokens sReferenceWays sTagWays sCommentWays sOut (a1 + 4) hx2 H.size)) ?_
    refine g_istore_n F (L' := [(3, .int x2), (2, .int 0), (0, .ref (ad 5)), (1, .int a1)]) d_CommentWays_lookForNested_61 rfl (by decide) rfl ?_
    refine g_iload_n F d_CommentWays_lookForNested_62 1 rfl ?_
    refine g_if_eq F (tgt := 84) d_CommentWays_lookForNested_63 (by decide) (fun _ => ?_) (fun h => absurd h (by decide))
    cases hf
    exact g_vret F hr hlk rfl rfl d_CommentWays_lookForNested_84
  · rw [if_pos h] at hf
    refine g_aload_n F d_CommentWays_lookForNested_15 0 rfl ?_
    refine g_getS F (v := .ref (ad 1)) in_X1 5 rfl rfl 0 (by decide) mw_200 mw_201 rfl d_CommentWays_lookForNested_16 ?_
    refine g_iload_n F d_CommentWays_lookForNested_19 1 rfl ?_
    refine g_iconst F (v := 2) d_CommentWays_lookForNested_20 (by decide) ?_
    refine g_iadd F d_CommentWays_lookForNested_21 ?_
    obtain ⟨x3, hx3, hf⟩ := g_bind hf
    refine g_ci F (r0 := x3) (ws' := (Wc z ad cA sMt sSource sTokens sReferenceWays sTagWays sCommentWays sOut)) (fun H locs ls hP hD hS hl => g_runV F (As := [.int (a1 + 2)]) (n := 1) mw_367 rfl rfl ⟨by decide, by decide⟩ rfl (by exact Nat.le_of_ble_eq_true rfl) mw_810 mw_365 mw_366 mw_74 (by decide +kernel) d_CommentWays_lookForNested_22 hP hD hS hl (va_recv F.2.2.2.2.2.1 hP (ci := 1) rfl (q0 := 1) rfl) (c_Source_character l D cA z ad sMt sSource sTokens sReferenceWays sTagWays sCommentWays sOut (a1 + 2) hx3 H.size)) ?_
    refine g_bipush F (v := 45) d_CommentWays_lookForNested_25 (by decide) ?_
    refine g_icmp_ne F (tgt := 49) d_CommentWays_lookForNested_27 (by decide) (fun h => ?_) (fun h => ?_)
    · rw [if_neg h] at hf
      refine g_iconst F (v := 0) d_CommentWays_lookForNested_49 (by decide) ?_
      refine g_istore_n F (L' := [(2, .int 0), (0, .ref (ad 5)), (1, .int a1)]) d_CommentWays_lookForNested_50 rfl (by decide) rfl ?_
      refine g_aload_n F d_CommentWays_lookForNested_51 1 rfl ?_
      refine g_getS F (v := .ref (ad 1)) in_X1 5 rfl rfl 0 (by decide) mw_200 mw_201 rfl d_CommentWays_lookForNested_52 ?_
      refine g_iload_n F d_CommentWays_lookForNested_55 2 rfl ?_
      refine g_iconst F (v := 4) d_CommentWays_lookForNested_56 (by decide) ?_
      refine g_iadd F d_CommentWays_lookForNested_57 ?_
      obtain ⟨x4, hx4, hf⟩ := g_bind hf
      refine g_ci F (r0 := x4) (ws' := (Wc z ad cA sMt sSource sTokens sReferenceWays sTagWays sCommentWays sOut)) (fun H locs ls hP hD hS hl => g_runV F (As := [.int (a1 + 4)]) (n := 1) mw_367 rfl rfl ⟨by decide, by decide⟩ rfl (by exact Nat.le_of_ble_eq_true rfl) mw_810 mw_365 mw_366 mw_74 (by decide +kernel) d_CommentWays_lookForNested_58 hP hD hS hl (va_recv F.2.2.2.2.2.1 hP (ci := 1) rfl (q0 := 1) rfl) (c_Source_character l D cA z ad sMt sSource sTokens sReferenceWays sTagWays sCommentWays sOut (a1 + 4) hx4 H.size)) ?_
      refine g_istore_n F (L' := [(3, .int x4), (2, .int 0), (0, .ref (ad 5)), (1, .int a1)]) d_CommentWays_lookForNested_61 rfl (by decide) rfl ?_
      refine g_iload_n F d_CommentWays_lookForNested_62 1 rfl ?_
      refine g_if_eq F (tgt := 84) d_CommentWays_lookForNested_63 (by decide) (fun _ => ?_) (fun h => absurd h (by decide))
      cases hf
      exact g_vret F hr hlk rfl rfl d_CommentWays_lookForNested_84
    · rw [if_pos h] at hf
      refine g_aload_n F d_CommentWays_lookForNested_30 0 rfl ?_
      refine g_getS F (v := .ref (ad 1)) in_X1 5 rfl rfl 0 (by decide) mw_200 mw_201 rfl d_CommentWays_lookForNested_31 ?_
      refine g_iload_n F d_CommentWays_lookForNested_34 1 rfl ?_
      refine g_iconst F (v := 3) d_CommentWays_lookForNested_35 (by decide) ?_
      refine g_iadd F d_CommentWays_lookForNested_36 ?_
      obtain ⟨x5, hx5, hf⟩ := g_bind hf
      refine g_ci F (r0 := x5) (ws' := (Wc z ad cA sMt sSource sTokens sReferenceWays sTagWays sCommentWays sOut)) (fun H locs ls hP hD hS hl => g_runV F (As := [.int (a1 + 3)]) (n := 1) mw_367 rfl rfl ⟨by decide, by decide⟩ rfl (by exact Nat.le_of_ble_eq_true rfl) mw_810 mw_365 mw_366 mw_74 (by decide +kernel) d_CommentWays_lookForNested_37 hP hD hS hl (va_recv F.2.2.2.2.2.1 hP (ci := 1) rfl (q0 := 1) rfl) (c_Source_character l D cA z ad sMt sSource sTokens sReferenceWays sTagWays sCommentWays sOut (a1 + 3) hx5 H.size)) ?_
      refine g_bipush F (v := 45) d_CommentWays_lookForNested_40 (by decide) ?_
      refine g_icmp_ne F (tgt := 49) d_CommentWays_lookForNested_42 (by decide) (fun h => ?_) (fun h => ?_)
      · rw [if_neg h] at hf
        refine g_iconst F (v := 0) d_CommentWays_lookForNested_49 (by decide) ?_
        refine g_istore_n F (L' := [(2, .int 0), (0, .ref (ad 5)), (1, .int a1)]) d_CommentWays_lookForNested_50 rfl (by decide) rfl ?_
        refine g_aload_n F d_CommentWays_lookForNested_51 1 rfl ?_
        refine g_getS F (v := .ref (ad 1)) in_X1 5 rfl rfl 0 (by decide) mw_200 mw_201 rfl d_CommentWays_lookForNested_52 ?_
        refine g_iload_n F d_CommentWays_lookForNested_55 2 rfl ?_
        refine g_iconst F (v := 4) d_CommentWays_lookForNested_56 (by decide) ?_
        refine g_iadd F d_CommentWays_lookForNested_57 ?_
        obtain ⟨x6, hx6, hf⟩ := g_bind hf
        refine g_ci F (r0 := x6) (ws' := (Wc z ad cA sMt sSource sTokens sReferenceWays sTagWays sCommentWays sOut)) (fun H locs ls hP hD hS hl => g_runV F (As := [.int (a1 + 4)]) (n := 1) mw_367 rfl rfl ⟨by decide, by decide⟩ rfl (by exact Nat.le_of_ble_eq_true rfl) mw_810 mw_365 mw_366 mw_74 (by decide +kernel) d_CommentWays_lookForNested_58 hP hD hS hl (va_recv F.2.2.2.2.2.1 hP (ci := 1) rfl (q0 := 1) rfl) (c_Source_character l D cA z ad sMt sSource sTokens sReferenceWays sTagWays sCommentWays sOut (a1 + 4) hx6 H.size)) ?_
        refine g_istore_n F (L' := [(3, .int x6), (2, .int 0), (0, .ref (ad 5)), (1, .int a1)]) d_CommentWays_lookForNested_61 rfl (by decide) rfl ?_
        refine g_iload_n F d_CommentWays_lookForNested_62 1 rfl ?_
        refine g_if_eq F (tgt := 84) d_CommentWays_lookForNested_63 (by decide) (fun _ => ?_) (fun h => absurd h (by decide))
        cases hf
        exact g_vret F hr hlk rfl rfl d_CommentWays_lookForNested_84
      · rw [if_pos h] at hf
        refine g_iconst F (v := 1) d_CommentWays_lookForNested_45 (by decide) ?_
        refine g_goto F (tgt := 50) d_CommentWays_lookForNested_46 (by decide) ?_
        refine g_istore_n F (L' := [(2, .int 1), (0, .ref (ad 5)), (1, .int a1)]) d_CommentWays_lookForNested_50 rfl (by decide) rfl ?_
        refine g_aload_n F d_CommentWays_lookForNested_51 1 rfl ?_
        refine g_getS F (v := .ref (ad 1)) in_X1 5 rfl rfl 0 (by decide) mw_200 mw_201 rfl d_CommentWays_lookForNested_52 ?_
        refine g_iload_n F d_CommentWays_lookForNested_55 2 rfl ?_
        refine g_iconst F (v := 4) d_CommentWays_lookForNested_56 (by decide) ?_
        refine g_iadd F d_CommentWays_lookForNested_57 ?_
        obtain ⟨x7, hx7, hf⟩ := g_bind hf
        refine g_ci F (r0 := x7) (ws' := (Wc z ad cA sMt sSource sTokens sReferenceWays sTagWays sCommentWays sOut)) (fun H locs ls hP hD hS hl => g_runV F (As := [.int (a1 + 4)]) (n := 1) mw_367 rfl rfl ⟨by decide, by decide⟩ rfl (by exact Nat.le_of_ble_eq_true rfl) mw_810 mw_365 mw_366 mw_74 (by decide +kernel) d_CommentWays_lookForNested_58 hP hD hS hl (va_recv F.2.2.2.2.2.1 hP (ci := 1) rfl (q0 := 1) rfl) (c_Source_character l D cA z ad sMt sSource sTokens sReferenceWays sTagWays sCommentWays sOut (a1 + 4) hx7 H.size)) ?_
        refine g_istore_n F (L' := [(3, .int x7), (2, .int 1), (0, .ref (ad 5)), (1, .int a1)]) d_CommentWays_lookForNested_61 rfl (by decide) rfl ?_
        refine g_iload_n F d_CommentWays_lookForNested_62 1 rfl ?_
        refine g_if_eq F (tgt := 84) d_CommentWays_lookForNested_63 (by decide) (fun h => absurd h (by decide)) (fun _ => ?_)
        refine g_iload_n F d_CommentWays_lookForNested_66 0 rfl ?_
        refine g_bipush F (v := 62) d_CommentWays_lookForNested_67 (by decide) ?_
        refine g_icmp_eq F (tgt := 84) d_CommentWays_lookForNested_69 (by decide) (fun h => ?_) (fun h => ?_)
        · rw [if_pos h] at hf
          cases hf
          exact g_vret F hr hlk rfl rfl d_CommentWays_lookForNested_84
        · rw [if_neg h] at hf
          refine g_iload_n F d_CommentWays_lookForNested_72 0 rfl ?_
          refine g_iconst F (v := (-1)) d_CommentWays_lookForNested_73 (by decide) ?_
          refine g_icmp_eq F (tgt := 84) d_CommentWays_lookForNested_74 (by decide) (fun h => ?_) (fun h => ?_)
          · rw [if_pos h] at hf
            cases hf
            exact g_vret F hr hlk rfl rfl d_CommentWays_lookForNested_84
          · rw [if_neg h] at hf
            refine g_aload_n F d_CommentWays_lookForNested_77 2 rfl ?_
            refine g_iload_n F d_CommentWays_lookForNested_78 3 rfl ?_
            refine g_iconst F (v := 4) d_CommentWays_lookForNested_79 (by decide) ?_
            refine g_iadd F d_CommentWays_lookForNested_80 ?_
            refine g_put F in_X1 5 rfl rfl 2 (by decide) tyX1 tyX1_ok nmX1 mw_249 rfl rfl rfl (Nat.le_of_ble_eq_true rfl) (ws' := (Wc z ad cA sMt sSource sTokens sReferenceWays sTagWays (a1 + 4) sOut)) rfl d_CommentWays_lookForNested_81 ?_
            cases hf
            exact g_vret F hr hlk rfl rfl d_CommentWays_lookForNested_84
set_option maxHeartbeats 4000000 in
set_option maxRecDepth 100000 in
theorem c_CommentWays_inside (l : Launch) (D : va_G) (cA : Nat → ClassId) (z : gZ) (ad : Nat → Nat) (sMt : SMt) (sSource : SSource) (sTokens : STokens) (sReferenceWays : SReferenceWays) (sTagWays : STagWays) (sCommentWays : SCommentWays) (sOut : SOut) (a1 : Int32) {x : Nat × SCommentWays × SSource × STokens} (hf : f_CommentWays_inside a1 sCommentWays sSource sTokens = some x) (sz : Nat) : Met l y_CommentWays_inside (.code y_CommentWays_inside b_CommentWays_inside 2 (some (.object "MarkupTokens$Way")) :: lw_g) { frames := 3, cells := 0, slots := 0, locals := 60 } (gP D (gT cA) z [.ref (ad 5), .int a1] (Wc z ad cA sMt sSource sTokens sReferenceWays sTagWays sCommentWays sOut) sz) (gQq D (gT cA) (va_A (Wc z ad cA sMt sSource sTokens sReferenceWays sTagWays sCommentWays sOut) sz) (some (z.1 x.1)) (Wc z ad cA sMt x.2.2.1 x.2.2.2 sReferenceWays sTagWays x.2.1 sOut)) 0 0 (va_A (Wc z ad cA sMt sSource sTokens sReferenceWays sTagWays sCommentWays sOut) sz) := by
  refine g_met (by decide) (Nat.le_of_ble_eq_true rfl) rfl ?_
  intro p e s m args below meth c F hr hlk
  unfold f_CommentWays_inside at hf
  refine g_iload_n F d_CommentWays_inside_0 1 rfl ?_
  by_cases q1 : a1 = (-1)
  · rw [if_pos q1] at hf
    refine g_lookup F (off := 46) (tgt := 47) d_CommentWays_inside_1 (by decide) (by rw [q1]; decide) (by decide) ?_
    refine g_aload_n F d_CommentWays_inside_47 0 rfl ?_
    obtain ⟨x1, hx1, hf⟩ := g_bind hf
    refine g_cw F (r0 := z.1 x1.1) (ws' := (Wc z ad cA sMt x1.2.1 x1.2.2 sReferenceWays sTagWays sCommentWays sOut)) (fun H locs ls hP hD hS hl => g_runV F (As := []) (n := 0) mw_804 rfl rfl ⟨by decide, by decide⟩ rfl (by exact Nat.le_of_ble_eq_true rfl) mw_801 mw_803 mw_19 mw_82 (by decide +kernel) d_CommentWays_inside_48 hP hD hS hl (va_recv F.2.2.2.2.2.1 hP (ci := 5) rfl (q0 := 5) rfl) (c_CommentWays_unfinished l D cA z ad sMt sSource sTokens sReferenceWays sTagWays sCommentWays sOut hx1 H.size)) ?_
    cases hf
    exact g_aret F hr (Or.inl ⟨_, rfl⟩) hlk rfl rfl rfl d_CommentWays_inside_51
  rw [if_neg q1] at hf
  by_cases q2 : a1 = 45
  · rw [if_pos q2] at hf
    refine g_lookup F (off := 35) (tgt := 36) d_CommentWays_inside_1 (by decide) (by rw [q2]; decide) (by decide) ?_
    refine g_aload_n F d_CommentWays_inside_36 0 rfl ?_
    refine g_getS F (v := .ref (ad 1)) in_X1 5 rfl rfl 0 (by decide) mw_200 mw_201 rfl d_CommentWays_inside_37 ?_
    refine g_way F 21 (by decide) mw_795 d_CommentWays_inside_40 ?_
    refine g_cw F (r0 := z.1 ((f_Source_then 21 sSource).1)) (ws' := (Wc z ad cA sMt ((f_Source_then 21 sSource).2) sTokens sReferenceWays sTagWays sCommentWays sOut)) (fun H locs ls hP hD hS hl => g_runV F (As := [.ref (z.1 21)]) (n := 1) mw_401 rfl rfl ⟨by decide, by decide⟩ rfl (by exact Nat.le_of_ble_eq_true rfl) mw_777 mw_399 mw_400 mw_74 (by decide +kernel) d_CommentWays_inside_43 hP hD hS hl (va_recv F.2.2.2.2.2.1 hP (ci := 1) rfl (q0 := 1) rfl) (c_Source_then l D cA z ad sMt sSource sTokens sReferenceWays sTagWays sCommentWays sOut 21 rfl H.size)) ?_
    cases hf
    exact g_aret F hr (Or.inl ⟨_, rfl⟩) hlk rfl rfl rfl d_CommentWays_inside_46
  rw [if_neg q2] at hf
  by_cases q3 : a1 = 60
  · rw [if_pos q3] at hf
    refine g_lookup F (off := 51) (tgt := 52) d_CommentWays_inside_1 (by decide) (by rw [q3]; decide) (by decide) ?_
    refine g_aload_n F d_CommentWays_inside_52 0 rfl ?_
    refine g_aload_n F d_CommentWays_inside_53 0 rfl ?_
    refine g_getS F (v := .ref (ad 1)) in_X1 5 rfl rfl 0 (by decide) mw_200 mw_201 rfl d_CommentWays_inside_54 ?_
    refine g_ci F (r0 := (f_Source_place sSource)) (ws' := (Wc z ad cA sMt sSource sTokens sReferenceWays sTagWays sCommentWays sOut)) (fun H locs ls hP hD hS hl => g_runV F (As := []) (n := 0) mw_474 rfl rfl ⟨by decide, by decide⟩ rfl (by exact Nat.le_of_ble_eq_true rfl) mw_805 mw_472 mw_473 mw_74 (by decide +kernel) d_CommentWays_inside_57 hP hD hS hl (va_recv F.2.2.2.2.2.1 hP (ci := 1) rfl (q0 := 1) rfl) (c_Source_place l D cA z ad sMt sSource sTokens sReferenceWays sTagWays sCommentWays sOut rfl H.size)) ?_
    obtain ⟨x2, hx2, hf⟩ := g_bind hf
    refine g_cv F (ws' := (Wc z ad cA sMt sSource sTokens sReferenceWays sTagWays x2 sOut)) (fun H locs ls hP hD hS hl => g_runV F (As := [.int (f_Source_place sSource)]) (n := 1) mw_809 rfl rfl ⟨by decide, by decide⟩ rfl (by exact Nat.le_of_ble_eq_true rfl) mw_806 mw_808 mw_20 mw_82 (by decide +kernel) d_CommentWays_inside_60 hP hD hS hl (va_recv F.2.2.2.2.2.1 hP (ci := 5) rfl (q0 := 5) rfl) (c_CommentWays_lookForNested l D cA z ad sMt sSource sTokens sReferenceWays sTagWays sCommentWays sOut (f_Source_place sSource) hx2 H.size)) ?_
    refine g_goto F (tgt := 66) d_CommentWays_inside_63 (by decide) ?_
    refine g_aload_n F d_CommentWays_inside_66 0 rfl ?_
    refine g_iload_n F d_CommentWays_inside_67 1 rfl ?_
    obtain ⟨x3, hx3, hf⟩ := g_bind hf
    refine g_cv F (ws' := (Wc z ad cA sMt x3.1 x3.2 sReferenceWays sTagWays x2 sOut)) (fun H locs ls hP hD hS hl => g_runU F (As := [.int a1]) (n := 1) mw_657 rfl rfl ⟨by decide, by decide⟩ rfl (by exact Nat.le_of_ble_eq_true rfl) mw_773 mw_774 mw_775 mw_656 mw_76 rfl (by decide +kernel) d_CommentWays_inside_68 hP hD hS hl (va_recv F.2.2.2.2.2.1 hP (ci := 5) rfl (q0 := 5) rfl) (c_Ways_addKnown_CommentWays l D cA z ad sMt sSource sTokens sReferenceWays sTagWays x2 sOut a1 hx3 H.size)) ?_
    refine g_aload_n F d_CommentWays_inside_71 0 rfl ?_
    refine g_getS F (v := .ref (ad 1)) in_X1 5 rfl rfl 0 (by decide) mw_200 mw_201 rfl d_CommentWays_inside_72 ?_
    refine g_way F 20 (by decide) mw_789 d_CommentWays_inside_75 ?_
    refine g_cw F (r0 := z.1 ((f_Source_then 20 x3.1).1)) (ws' := (Wc z ad cA sMt ((f_Source_then 20 x3.1).2) x3.2 sReferenceWays sTagWays x2 sOut)) (fun H locs ls hP hD hS hl => g_runV F (As := [.ref (z.1 20)]) (n := 1) mw_401 rfl rfl ⟨by decide, by decide⟩ rfl (by exact Nat.le_of_ble_eq_true rfl) mw_777 mw_399 mw_400 mw_74 (by decide +kernel) d_CommentWays_inside_78 hP hD hS hl (va_recv F.2.2.2.2.2.1 hP (ci := 1) rfl (q0 := 1) rfl) (c_Source_then l D cA z ad sMt x3.1 x3.2 sReferenceWays sTagWays x2 sOut 20 rfl H.size)) ?_
    cases hf
    exact g_aret F hr (Or.inl ⟨_, rfl⟩) hlk rfl rfl rfl d_CommentWays_inside_81
  rw [if_neg q3] at hf
  refine g_lookup F (off := 65) (tgt := 66) d_CommentWays_inside_1 (by decide) (show Op.lookupswitch.offset ([((-1), 46), (45, 35), (60, 51)] : List (Int × Int)) 65 (a1 : Int32).toInt = 65 by rw [lv_osw (k := (-1)) q1 (by decide), lv_osw (k := 45) q2 (by decide), lv_osw (k := 60) q3 (by decide)]; rfl) (by decide) ?_
  refine g_aload_n F d_CommentWays_inside_66 0 rfl ?_
  refine g_iload_n F d_CommentWays_inside_67 1 rfl ?_
  obtain ⟨x4, hx4, hf⟩ := g_bind hf
  refine g_cv F (ws' := (Wc z ad cA sMt x4.1 x4.2 sReferenceWays sTagWays sCommentWays sOut)) (fun H locs ls hP hD hS hl => g_runU F (As := [.int a1]) (n := 1) mw_657 rfl rfl ⟨by decide, by decide⟩ rfl (by exact Nat.le_of_ble_eq_true rfl) mw_773 mw_774 mw_775 mw_656 mw_76 rfl (by decide +kernel) d_CommentWays_inside_68 hP hD hS hl (va_recv F.2.2.2.2.2.1 hP (ci := 5) rfl (q0 := 5) rfl) (c_Ways_addKnown_CommentWays l D cA z ad sMt sSource sTokens sReferenceWays sTagWays sCommentWays sOut a1 hx4 H.size)) ?_
  refine g_aload_n F d_CommentWays_inside_71 0 rfl ?_
  refine g_getS F (v := .ref (ad 1)) in_X1 5 rfl rfl 0 (by decide) mw_200 mw_201 rfl d_CommentWays_inside_72 ?_
  refine g_way F 20 (by decide) mw_789 d_CommentWays_inside_75 ?_
  refine g_cw F (r0 := z.1 ((f_Source_then 20 x4.1).1)) (ws' := (Wc z ad cA sMt ((f_Source_then 20 x4.1).2) x4.2 sReferenceWays sTagWays sCommentWays sOut)) (fun H locs ls hP hD hS hl => g_runV F (As := [.ref (z.1 20)]) (n := 1) mw_401 rfl rfl ⟨by decide, by decide⟩ rfl (by exact Nat.le_of_ble_eq_true rfl) mw_777 mw_399 mw_400 mw_74 (by decide +kernel) d_CommentWays_inside_78 hP hD hS hl (va_recv F.2.2.2.2.2.1 hP (ci := 1) rfl (q0 := 1) rfl) (c_Source_then l D cA z ad sMt x4.1 x4.2 sReferenceWays sTagWays sCommentWays sOut 20 rfl H.size)) ?_
  cases hf
  exact g_aret F hr (Or.inl ⟨_, rfl⟩) hlk rfl rfl rfl d_CommentWays_inside_81
set_option maxHeartbeats 4000000 in
set_option maxRecDepth 100000 in
theorem c_CommentWays_dash (l : Launch) (D : va_G) (cA : Nat → ClassId) (z : gZ) (ad : Nat → Nat) (sMt : SMt) (sSource : SSource) (sTokens : STokens) (sReferenceWays : SReferenceWays) (sTagWays : STagWays) (sCommentWays : SCommentWays) (sOut : SOut) (a1 : Int32) {x : Nat × SSource × STokens} (hf : f_CommentWays_dash a1 sSource sTokens = some x) (sz : Nat) : Met l y_CommentWays_dash (.code y_CommentWays_dash b_CommentWays_dash 2 (some (.object "MarkupTokens$Way")) :: lw_g) { frames := 3, cells := 0, slots := 0, locals := 60 } (gP D (gT cA) z [.ref (ad 5), .int a1] (Wc z ad cA sMt sSource sTokens sReferenceWays sTagWays sCommentWays sOut) sz) (gQq D (gT cA) (va_A (Wc z ad cA sMt sSource sTokens sReferenceWays sTagWays sCommentWays sOut) sz) (some (z.1 x.1)) (Wc z ad cA sMt x.2.1 x.2.2 sReferenceWays sTagWays sCommentWays sOut)) 0 0 (va_A (Wc z ad cA sMt sSource sTokens sReferenceWays sTagWays sCommentWays sOut) sz) := by
  refine g_met (by decide) (Nat.le_of_ble_eq_true rfl) rfl ?_
  intro p e s m args below meth c F hr hlk
  unfold f_CommentWays_dash at hf
  refine g_iload_n F d_CommentWays_dash_0 1 rfl ?_
  by_cases q1 : a1 = (-1)
  · rw [if_pos q1] at hf
    refine g_lookup F (off := 38) (tgt := 39) d_CommentWays_dash_1 (by decide) (by rw [q1]; decide) (by decide) ?_
    refine g_aload_n F d_CommentWays_dash_39 0 rfl ?_
    obtain ⟨x1, hx1, hf⟩ := g_bind hf
    refine g_cw F (r0 := z.1 x1.1) (ws' := (Wc z ad cA sMt x1.2.1 x1.2.2 sReferenceWays sTagWays sCommentWays sOut)) (fun H locs ls hP hD hS hl => g_runV F (As := []) (n := 0) mw_804 rfl rfl ⟨by decide, by decide⟩ rfl (by exact Nat.le_of_ble_eq_true rfl) mw_801 mw_803 mw_19 mw_82 (by decide +kernel) d_CommentWays_dash_40 hP hD hS hl (va_recv F.2.2.2.2.2.1 hP (ci := 5) rfl (q0 := 5) rfl) (c_CommentWays_unfinished l D cA z ad sMt sSource sTokens sReferenceWays sTagWays sCommentWays sOut hx1 H.size)) ?_
    cases hf
    exact g_aret F hr (Or.inl ⟨_, rfl⟩) hlk rfl rfl rfl d_CommentWays_dash_43
  rw [if_neg q1] at hf
  by_cases q2 : a1 = 45
  · rw [if_pos q2] at hf
    refine g_lookup F (off := 27) (tgt := 28) d_CommentWays_dash_1 (by decide) (by rw [q2]; decide) (by decide) ?_
    refine g_aload_n F d_CommentWays_dash_28 0 rfl ?_
    refine g_getS F (v := .ref (ad 1)) in_X1 5 rfl rfl 0 (by decide) mw_200 mw_201 rfl d_CommentWays_dash_29 ?_
    refine g_way F 22 (by decide) mw_815 d_CommentWays_dash_32 ?_
    refine g_cw F (r0 := z.1 ((f_Source_then 22 sSource).1)) (ws' := (Wc z ad cA sMt ((f_Source_then 22 sSource).2) sTokens sReferenceWays sTagWays sCommentWays sOut)) (fun H locs ls hP hD hS hl => g_runV F (As := [.ref (z.1 22)]) (n := 1) mw_401 rfl rfl ⟨by decide, by decide⟩ rfl (by exact Nat.le_of_ble_eq_true rfl) mw_777 mw_399 mw_400 mw_74 (by decide +kernel) d_CommentWays_dash_35 hP hD hS hl (va_recv F.2.2.2.2.2.1 hP (ci := 1) rfl (q0 := 1) rfl) (c_Source_then l D cA z ad sMt sSource sTokens sReferenceWays sTagWays sCommentWays sOut 22 rfl H.size)) ?_
    cases hf
    exact g_aret F hr (Or.inl ⟨_, rfl⟩) hlk rfl rfl rfl d_CommentWays_dash_38
  rw [if_neg q2] at hf
  refine g_lookup F (off := 43) (tgt := 44) d_CommentWays_dash_1 (by decide) (show Op.lookupswitch.offset ([((-1), 38), (45, 27)] : List (Int × Int)) 43 (a1 : Int32).toInt = 43 by rw [lv_osw (k := (-1)) q1 (by decide), lv_osw (k := 45) q2 (by decide)]; rfl) (by decide) ?_
  refine g_aload_n F d_CommentWays_dash_44 0 rfl ?_
  refine g_getS F (v := .ref (ad 2)) in_X1 5 rfl rfl 1 (by decide) mw_219 mw_220 rfl d_CommentWays_dash_45 ?_
  refine g_bipush F (v := 45) d_CommentWays_dash_48 (by decide) ?_
  obtain ⟨x2, hx2, hf⟩ := g_bind hf
  refine g_cv F (ws' := (Wc z ad cA sMt sSource x2 sReferenceWays sTagWays sCommentWays sOut)) (fun H locs ls hP hD hS hl => g_runV F (As := [.int 45]) (n := 1) mw_416 rfl rfl ⟨by decide, by decide⟩ rfl (by exact Nat.le_of_ble_eq_true rfl) mw_817 mw_414 mw_415 mw_75 (by decide +kernel) d_CommentWays_dash_50 hP hD hS hl (va_recv F.2.2.2.2.2.1 hP (ci := 2) rfl (q0 := 2) rfl) (c_Tokens_add l D cA z ad sMt sSource sTokens sReferenceWays sTagWays sCommentWays sOut 45 hx2 H.size)) ?_
  refine g_way F 20 (by decide) mw_789 d_CommentWays_dash_53 ?_
  cases hf
  exact g_aret F hr (Or.inl ⟨_, rfl⟩) hlk rfl rfl rfl d_CommentWays_dash_56
set_option maxHeartbeats 4000000 in
set_option maxRecDepth 100000 in
theorem c_CommentWays_end (l : Launch) (D : va_G) (cA : Nat → ClassId) (z : gZ) (ad : Nat → Nat) (sMt : SMt) (sSource : SSource) (sTokens : STokens) (sReferenceWays : SReferenceWays) (sTagWays : STagWays) (sCommentWays : SCommentWays) (sOut : SOut) (a1 : Int32) {x : Nat × SSource × STokens} (hf : f_CommentWays_end a1 sCommentWays sSource sTokens = some x) (sz : Nat) : Met l y_CommentWays_end (.code y_CommentWays_end b_CommentWays_end 2 (some (.object "MarkupTokens$Way")) :: lw_g) { frames := 3, cells := 0, slots := 0, locals := 60 } (gP D (gT cA) z [.ref (ad 5), .int a1] (Wc z ad cA sMt sSource sTokens sReferenceWays sTagWays sCommentWays sOut) sz) (gQq D (gT cA) (va_A (Wc z ad cA sMt sSource sTokens sReferenceWays sTagWays sCommentWays sOut) sz) (some (z.1 x.1)) (Wc z ad cA sMt x.2.1 x.2.2 sReferenceWays sTagWays sCommentWays sOut)) 0 0 (va_A (Wc z ad cA sMt sSource sTokens sReferenceWays sTagWays sCommentWays sOut) sz) := by
  refine g_met (by decide) (Nat.le_of_ble_eq_true rfl) rfl ?_
  intro p e s m args below meth c F hr hlk
  unfold f_CommentWays_end at hf
  refine g_aload_n F d_CommentWays_end_0 0 rfl ?_
  refine g_getS F (v := .ref (ad 1)) in_X1 5 rfl rfl 0 (by decide) mw_200 mw_201 rfl d_CommentWays_end_1 ?_
  refine g_ci F (r0 := (f_Source_place sSource)) (ws' := (Wc z ad cA sMt sSource sTokens sReferenceWays sTagWays sCommentWays sOut)) (fun H locs ls hP hD hS hl => g_runV F (As := []) (n := 0) mw_474 rfl rfl ⟨by decide, by decide⟩ rfl (by exact Nat.le_of_ble_eq_true rfl) mw_805 mw_472 mw_473 mw_74 (by decide +kernel) d_CommentWays_end_4 hP hD hS hl (va_recv F.2.2.2.2.2.1 hP (ci := 1) rfl (q0 := 1) rfl) (c_Source_place l D cA z ad sMt sSource sTokens sReferenceWays sTagWays sCommentWays sOut rfl H.size)) ?_
  refine g_aload_n F d_CommentWays_end_7 0 rfl ?_
  refine g_get F (v := .int sCommentWays) in_X1 5 rfl rfl 2 (by decide) mw_249 rfl d_CommentWays_end_8 ?_
  refine g_icmp_ne F (tgt := 23) d_CommentWays_end_11 (by decide) (fun h => ?_) (fun h => ?_)
  · rw [if_neg h] at hf
    refine g_iload_n F d_CommentWays_end_23 1 rfl ?_
    by_cases q1 : a1 = (-1)
    · rw [if_pos q1] at hf
      refine g_lookup F (off := 80) (tgt := 104) d_CommentWays_end_24 (by decide) (by rw [q1]; decide) (by decide) ?_
      refine g_aload_n F d_CommentWays_end_104 0 rfl ?_
      obtain ⟨x1, hx1, hf⟩ := g_bind hf
      refine g_cw F (r0 := z.1 x1.1) (ws' := (Wc z ad cA sMt x1.2.1 x1.2.2 sReferenceWays sTagWays sCommentWays sOut)) (fun H locs ls hP hD hS hl => g_runV F (As := []) (n := 0) mw_804 rfl rfl ⟨by decide, by decide⟩ rfl (by exact Nat.le_of_ble_eq_true rfl) mw_801 mw_803 mw_19 mw_82 (by decide +kernel) d_CommentWays_end_105 hP hD hS hl (va_recv F.2.2.2.2.2.1 hP (ci := 5) rfl (q0 := 5) rfl) (c_CommentWays_unfinished l D cA z ad sMt sSource sTokens sReferenceWays sTagWays sCommentWays sOut hx1 H.size)) ?_
      cases hf
      exact g_aret F hr (Or.inl ⟨_, rfl⟩) hlk rfl rfl rfl d_CommentWays_end_108
    rw [if_neg q1] at hf
    by_cases q2 : a1 = 33
    · rw [if_pos q2] at hf
      refine g_lookup F (off := 49) (tgt := 73) d_CommentWays_end_24 (by decide) (by rw [q2]; decide) (by decide) ?_
      refine g_aload_n F d_CommentWays_end_73 0 rfl ?_
      refine g_getS F (v := .ref (ad 1)) in_X1 5 rfl rfl 0 (by decide) mw_200 mw_201 rfl d_CommentWays_end_74 ?_
      refine g_way F 23 (by decide) mw_822 d_CommentWays_end_77 ?_
      refine g_cw F (r0 := z.1 ((f_Source_then 23 sSource).1)) (ws' := (Wc z ad cA sMt ((f_Source_then 23 sSource).2) sTokens sReferenceWays sTagWays sCommentWays sOut)) (fun H locs ls hP hD hS hl => g_runV F (As := [.ref (z.1 23)]) (n := 1) mw_401 rfl rfl ⟨by decide, by decide⟩ rfl (by exact Nat.le_of_ble_eq_true rfl) mw_777 mw_399 mw_400 mw_74 (by decide +kernel) d_CommentWays_end_80 hP hD hS hl (va_recv F.2.2.2.2.2.1 hP (ci := 1) rfl (q0 := 1) rfl) (c_Source_then l D cA z ad sMt sSource sTokens sReferenceWays sTagWays sCommentWays sOut 23 rfl H.size)) ?_
      cases hf
      exact g_aret F hr (Or.inl ⟨_, rfl⟩) hlk rfl rfl rfl d_CommentWays_end_83
    rw [if_neg q2] at hf
    by_cases q3 : a1 = 45
    · rw [if_pos q3] at hf
      refine g_lookup F (off := 60) (tgt := 84) d_CommentWays_end_24 (by decide) (by rw [q3]; decide) (by decide) ?_
      refine g_aload_n F d_CommentWays_end_84 0 rfl ?_
      refine g_getS F (v := .ref (ad 2)) in_X1 5 rfl rfl 1 (by decide) mw_219 mw_220 rfl d_CommentWays_end_85 ?_
      refine g_bipush F (v := 45) d_CommentWays_end_88 (by decide) ?_
      obtain ⟨x2, hx2, hf⟩ := g_bind hf
      refine g_cv F (ws' := (Wc z ad cA sMt sSource x2 sReferenceWays sTagWays sCommentWays sOut)) (fun H locs ls hP hD hS hl => g_runV F (As := [.int 45]) (n := 1) mw_416 rfl rfl ⟨by decide, by decide⟩ rfl (by exact Nat.le_of_ble_eq_true rfl) mw_817 mw_414 mw_415 mw_75 (by decide +kernel) d_CommentWays_end_90 hP hD hS hl (va_recv F.2.2.2.2.2.1 hP (ci := 2) rfl (q0 := 2) rfl) (c_Tokens_add l D cA z ad sMt sSource sTokens sReferenceWays sTagWays sCommentWays sOut 45 hx2 H.size)) ?_
      refine g_aload_n F d_CommentWays_end_93 0 rfl ?_
      refine g_getS F (v := .ref (ad 1)) in_X1 5 rfl rfl 0 (by decide) mw_200 mw_201 rfl d_CommentWays_end_94 ?_
      refine g_way F 22 (by decide) mw_815 d_CommentWays_end_97 ?_
      refine g_cw F (r0 := z.1 ((f_Source_then 22 sSource).1)) (ws' := (Wc z ad cA sMt ((f_Source_then 22 sSource).2) x2 sReferenceWays sTagWays sCommentWays sOut)) (fun H locs ls hP hD hS hl => g_runV F (As := [.ref (z.1 22)]) (n := 1) mw_401 rfl rfl ⟨by decide, by decide⟩ rfl (by exact Nat.le_of_ble_eq_true rfl) mw_777 mw_399 mw_400 mw_74 (by decide +kernel) d_CommentWays_end_100 hP hD hS hl (va_recv F.2.2.2.2.2.1 hP (ci := 1) rfl (q0 := 1) rfl) (c_Source_then l D cA z ad sMt sSource x2 sReferenceWays sTagWays sCommentWays sOut 22 rfl H.size)) ?_
      cases hf
      exact g_aret F hr (Or.inl ⟨_, rfl⟩) hlk rfl rfl rfl d_CommentWays_end_103
    rw [if_neg q3] at hf
    by_cases q4 : a1 = 62
    · rw [if_pos q4] at hf
      refine g_lookup F (off := 44) (tgt := 68) d_CommentWays_end_24 (by decide) (by rw [q4]; decide) (by decide) ?_
      refine g_aload_n F d_CommentWays_end_68 0 rfl ?_
      obtain ⟨x3, hx3, hf⟩ := g_bind hf
      refine g_cw F (r0 := z.1 x3.1) (ws' := (Wc z ad cA sMt x3.2.1 x3.2.2 sReferenceWays sTagWays sCommentWays sOut)) (fun H locs ls hP hD hS hl => g_runU F (As := []) (n := 0) mw_761 rfl rfl ⟨by decide, by decide⟩ rfl (by exact Nat.le_of_ble_eq_true rfl) mw_756 mw_757 mw_759 mw_760 mw_76 rfl (by decide +kernel) d_CommentWays_end_69 hP hD hS hl (va_recv F.2.2.2.2.2.1 hP (ci := 5) rfl (q0 := 5) rfl) (c_Ways_done_CommentWays l D cA z ad sMt sSource sTokens sReferenceWays sTagWays sCommentWays sOut hx3 H.size)) ?_
      cases hf
      exact g_aret F hr (Or.inl ⟨_, rfl⟩) hlk rfl rfl rfl d_CommentWays_end_72
    rw [if_neg q4] at hf
    refine g_lookup F (off := 85) (tgt := 109) d_CommentWays_end_24 (by decide) (show Op.lookupswitch.offset ([((-1), 80), (33, 49), (45, 60), (62, 44)] : List (Int × Int)) 85 (a1 : Int32).toInt = 85 by rw [lv_osw (k := (-1)) q1 (by decide), lv_osw (k := 33) q2 (by decide), lv_osw (k := 45) q3 (by decide), lv_osw (k := 62) q4 (by decide)]; rfl) (by decide) ?_
    refine g_aload_n F d_CommentWays_end_109 0 rfl ?_
    refine g_getS F (v := .ref (ad 2)) in_X1 5 rfl rfl 1 (by decide) mw_219 mw_220 rfl d_CommentWays_end_110 ?_
    refine g_bipush F (v := 45) d_CommentWays_end_113 (by decide) ?_
    obtain ⟨x4, hx4, hf⟩ := g_bind hf
    refine g_cv F (ws' := (Wc z ad cA sMt sSource x4 sReferenceWays sTagWays sCommentWays sOut)) (fun H locs ls hP hD hS hl => g_runV F (As := [.int 45]) (n := 1) mw_416 rfl rfl ⟨by decide, by decide⟩ rfl (by exact Nat.le_of_ble_eq_true rfl) mw_817 mw_414 mw_415 mw_75 (by decide +kernel) d_CommentWays_end_115 hP hD hS hl (va_recv F.2.2.2.2.2.1 hP (ci := 2) rfl (q0 := 2) rfl) (c_Tokens_add l D cA z ad sMt sSource sTokens sReferenceWays sTagWays sCommentWays sOut 45 hx4 H.size)) ?_
    refine g_aload_n F d_CommentWays_end_118 0 rfl ?_
    refine g_getS F (v := .ref (ad 2)) in_X1 5 rfl rfl 1 (by decide) mw_219 mw_220 rfl d_CommentWays_end_119 ?_
    refine g_bipush F (v := 45) d_CommentWays_end_122 (by decide) ?_
    obtain ⟨x5, hx5, hf⟩ := g_bind hf
    refine g_cv F (ws' := (Wc z ad cA sMt sSource x5 sReferenceWays sTagWays sCommentWays sOut)) (fun H locs ls hP hD hS hl => g_runV F (As := [.int 45]) (n := 1) mw_416 rfl rfl ⟨by decide, by decide⟩ rfl (by exact Nat.le_of_ble_eq_true rfl) mw_817 mw_414 mw_415 mw_75 (by decide +kernel) d_CommentWays_end_124 hP hD hS hl (va_recv F.2.2.2.2.2.1 hP (ci := 2) rfl (q0 := 2) rfl) (c_Tokens_add l D cA z ad sMt sSource x4 sReferenceWays sTagWays sCommentWays sOut 45 hx5 H.size)) ?_
    refine g_way F 20 (by decide) mw_789 d_CommentWays_end_127 ?_
    cases hf
    exact g_aret F hr (Or.inl ⟨_, rfl⟩) hlk rfl rfl rfl d_CommentWays_end_130
  · rw [if_pos h] at hf
    refine g_aload_n F d_CommentWays_end_14 0 rfl ?_
    refine g_getS F (v := .ref (ad 1)) in_X1 5 rfl rfl 0 (by decide) mw_200 mw_201 rfl d_CommentWays_end_15 ?_
    refine g_bipush F (v := 19) d_CommentWays_end_18 (by decide) ?_
    obtain ⟨x6, hx6, hf⟩ := g_bind hf
    refine g_cv F (ws' := (Wc z ad cA sMt x6 sTokens sReferenceWays sTagWays sCommentWays sOut)) (fun H locs ls hP hD hS hl => g_runV F (As := [.int 19]) (n := 1) mw_408 rfl rfl ⟨by decide, by decide⟩ rfl (by exact Nat.le_of_ble_eq_true rfl) mw_788 mw_406 mw_407 mw_74 (by decide +kernel) d_CommentWays_end_20 hP hD hS hl (va_recv F.2.2.2.2.2.1 hP (ci := 1) rfl (q0 := 1) rfl) (c_Source_wrong l D cA z ad sMt sSource sTokens sReferenceWays sTagWays sCommentWays sOut 19 hx6 H.size)) ?_
    refine g_iload_n F d_CommentWays_end_23 1 rfl ?_
    by_cases q5 : a1 = (-1)
    · rw [if_pos q5] at hf
      refine g_lookup F (off := 80) (tgt := 104) d_CommentWays_end_24 (by decide) (by rw [q5]; decide) (by decide) ?_
      refine g_aload_n F d_CommentWays_end_104 0 rfl ?_
      obtain ⟨x7, hx7, hf⟩ := g_bind hf
      refine g_cw F (r0 := z.1 x7.1) (ws' := (Wc z ad cA sMt x7.2.1 x7.2.2 sReferenceWays sTagWays sCommentWays sOut)) (fun H locs ls hP hD hS hl => g_runV F (As := []) (n := 0) mw_804 rfl rfl ⟨by decide, by decide⟩ rfl (by exact Nat.le_of_ble_eq_true rfl) mw_801 mw_803 mw_19 mw_82 (by decide +kernel) d_CommentWays_end_105 hP hD hS hl (va_recv F.2.2.2.2.2.1 hP (ci := 5) rfl (q0 := 5) rfl) (c_CommentWays_unfinished l D cA z ad sMt x6 sTokens sReferenceWays sTagWays sCommentWays sOut hx7 H.size)) ?_
      cases hf
      exact g_aret F hr (Or.inl ⟨_, rfl⟩) hlk rfl rfl rfl d_CommentWays_end_108
    rw [if_neg q5] at hf
    by_cases q6 : a1 = 33
    · rw [if_pos q6] at hf
      refine g_lookup F (off := 49) (tgt := 73) d_CommentWays_end_24 (by decide) (by rw [q6]; decide) (by decide) ?_
      refine g_aload_n F d_CommentWays_end_73 0 rfl ?_
      refine g_getS F (v := .ref (ad 1)) in_X1 5 rfl rfl 0 (by decide) mw_200 mw_201 rfl d_CommentWays_end_74 ?_
      refine g_way F 23 (by decide) mw_822 d_CommentWays_end_77 ?_
      refine g_cw F (r0 := z.1 ((f_Source_then 23 x6).1)) (ws' := (Wc z ad cA sMt ((f_Source_then 23 x6).2) sTokens sReferenceWays sTagWays sCommentWays sOut)) (fun H locs ls hP hD hS hl => g_runV F (As := [.ref (z.1 23)]) (n := 1) mw_401 rfl rfl ⟨by decide, by decide⟩ rfl (by exact Nat.le_of_ble_eq_true rfl) mw_777 mw_399 mw_400 mw_74 (by decide +kernel) d_CommentWays_end_80 hP hD hS hl (va_recv F.2.2.2.2.2.1 hP (ci := 1) rfl (q0 := 1) rfl) (c_Source_then l D cA z ad sMt x6 sTokens sReferenceWays sTagWays sCommentWays sOut 23 rfl H.size)) ?_
      cases hf
      exact g_aret F hr (Or.inl ⟨_, rfl⟩) hlk rfl rfl rfl d_CommentWays_end_83
    rw [if_neg q6] at hf
    by_cases q7 : a1 = 45
    · rw [if_pos q7] at hf
      refine g_lookup F (off := 60) (tgt := 84) d_CommentWays_end_24 (by decide) (by rw [q7]; decide) (by decide) ?_
      refine g_aload_n F d_CommentWays_end_84 0 rfl ?_
      refine g_getS F (v := .ref (ad 2)) in_X1 5 rfl rfl 1 (by decide) mw_219 mw_220 rfl d_CommentWays_end_85 ?_
      refine g_bipush F (v := 45) d_CommentWays_end_88 (by decide) ?_
      obtain ⟨x8, hx8, hf⟩ := g_bind hf
      refine g_cv F (ws' := (Wc z ad cA sMt x6 x8 sReferenceWays sTagWays sCommentWays sOut)) (fun H locs ls hP hD hS hl => g_runV F (As := [.int 45]) (n := 1) mw_416 rfl rfl ⟨by decide, by decide⟩ rfl (by exact Nat.le_of_ble_eq_true rfl) mw_817 mw_414 mw_415 mw_75 (by decide +kernel) d_CommentWays_end_90 hP hD hS hl (va_recv F.2.2.2.2.2.1 hP (ci := 2) rfl (q0 := 2) rfl) (c_Tokens_add l D cA z ad sMt x6 sTokens sReferenceWays sTagWays sCommentWays sOut 45 hx8 H.size)) ?_
      refine g_aload_n F d_CommentWays_end_93 0 rfl ?_
      refine g_getS F (v := .ref (ad 1)) in_X1 5 rfl rfl 0 (by decide) mw_200 mw_201 rfl d_CommentWays_end_94 ?_
      refine g_way F 22 (by decide) mw_815 d_CommentWays_end_97 ?_
      refine g_cw F (r0 := z.1 ((f_Source_then 22 x6).1)) (ws' := (Wc z ad cA sMt ((f_Source_then 22 x6).2) x8 sReferenceWays sTagWays sCommentWays sOut)) (fun H locs ls hP hD hS hl => g_runV F (As := [.ref (z.1 22)]) (n := 1) mw_401 rfl rfl ⟨by decide, by decide⟩ rfl (by exact Nat.le_of_ble_eq_true rfl) mw_777 mw_399 mw_400 mw_74 (by decide +kernel) d_CommentWays_end_100 hP hD hS hl (va_recv F.2.2.2.2.2.1 hP (ci := 1) rfl (q0 := 1) rfl) (c_Source_then l D cA z ad sMt x6 x8 sReferenceWays sTagWays sCommentWays sOut 22 rfl H.size)) ?_
      cases hf
      exact g_aret F hr (Or.inl ⟨_, rfl⟩) hlk rfl rfl rfl d_CommentWays_end_103
    rw [if_neg q7] at hf
    by_cases q8 : a1 = 62
    · rw [if_pos q8] at hf
      refine g_lookup F (off := 44) (tgt := 68) d_CommentWays_end_24 (by decide) (by rw [q8]; decide) (by decide) ?_
      refine g_aload_n F d_CommentWays_end_68 0 rfl ?_
      obtain ⟨x9, hx9, hf⟩ := g_bind hf
      refine g_cw F (r0 := z.1 x9.1) (ws' := (Wc z ad cA sMt x9.2.1 x9.2.2 sReferenceWays sTagWays sCommentWays sOut)) (fun H locs ls hP hD hS hl => g_runU F (As := []) (n := 0) mw_761 rfl rfl ⟨by decide, by decide⟩ rfl (by exact Nat.le_of_ble_eq_true rfl) mw_756 mw_757 mw_759 mw_760 mw_76 rfl (by decide +kernel) d_CommentWays_end_69 hP hD hS hl (va_recv F.2.2.2.2.2.1 hP (ci := 5) rfl (q0 := 5) rfl) (c_Ways_done_CommentWays l D cA z ad sMt x6 sTokens sReferenceWays sTagWays sCommentWays sOut hx9 H.size)) ?_
      cases hf
      exact g_aret F hr (Or.inl ⟨_, rfl⟩) hlk rfl rfl rfl d_CommentWays_end_72
    rw [if_neg q8] at hf
    refine g_lookup F (off := 85) (tgt := 109) d_CommentWays_end_24 (by decide) (show Op.lookupswitch.offset ([((-1), 80), (33, 49), (45, 60), (62, 44)] : List (Int × Int)) 85 (a1 : Int32).toInt = 85 by rw [lv_osw (k := (-1)) q5 (by decide), lv_osw (k := 33) q6 (by decide), lv_osw (k := 45) q7 (by decide), lv_osw (k := 62) q8 (by decide)]; rfl) (by decide) ?_
    refine g_aload_n F d_CommentWays_end_109 0 rfl ?_
    refine g_getS F (v := .ref (ad 2)) in_X1 5 rfl rfl 1 (by decide) mw_219 mw_220 rfl d_CommentWays_end_110 ?_
    refine g_bipush F (v := 45) d_CommentWays_end_113 (by decide) ?_
    obtain ⟨x10, hx10, hf⟩ := g_bind hf
    refine g_cv F (ws' := (Wc z ad cA sMt x6 x10 sReferenceWays sTagWays sCommentWays sOut)) (fun H locs ls hP hD hS hl => g_runV F (As := [.int 45]) (n := 1) mw_416 rfl rfl ⟨by decide, by decide⟩ rfl (by exact Nat.le_of_ble_eq_true rfl) mw_817 mw_414 mw_415 mw_75 (by decide +kernel) d_CommentWays_end_115 hP hD hS hl (va_recv F.2.2.2.2.2.1 hP (ci := 2) rfl (q0 := 2) rfl) (c_Tokens_add l D cA z ad sMt x6 sTokens sReferenceWays sTagWays sCommentWays sOut 45 hx10 H.size)) ?_
    refine g_aload_n F d_CommentWays_end_118 0 rfl ?_
    refine g_getS F (v := .ref (ad 2)) in_X1 5 rfl rfl 1 (by decide) mw_219 mw_220 rfl d_CommentWays_end_119 ?_
    refine g_bipush F (v := 45) d_CommentWays_end_122 (by decide) ?_
    obtain ⟨x11, hx11, hf⟩ := g_bind hf
    refine g_cv F (ws' := (Wc z ad cA sMt x6 x11 sReferenceWays sTagWays sCommentWays sOut)) (fun H locs ls hP hD hS hl => g_runV F (As := [.int 45]) (n := 1) mw_416 rfl rfl ⟨by decide, by decide⟩ rfl (by exact Nat.le_of_ble_eq_true rfl) mw_817 mw_414 mw_415 mw_75 (by decide +kernel) d_CommentWays_end_124 hP hD hS hl (va_recv F.2.2.2.2.2.1 hP (ci := 2) rfl (q0 := 2) rfl) (c_Tokens_add l D cA z ad sMt x6 x10 sReferenceWays sTagWays sCommentWays sOut 45 hx11 H.size)) ?_
    refine g_way F 20 (by decide) mw_789 d_CommentWays_end_127 ?_
    cases hf
    exact g_aret F hr (Or.inl ⟨_, rfl⟩) hlk rfl rfl rfl d_CommentWays_end_130
set_option maxHeartbeats 4000000 in
set_option maxRecDepth 100000 in
theorem c_CommentWays_bang (l : Launch) (D : va_G) (cA : Nat → ClassId) (z : gZ) (ad : Nat → Nat) (sMt : SMt) (sSource : SSource) (sTokens : STokens) (sReferenceWays : SReferenceWays) (sTagWays : STagWays) (sCommentWays : SCommentWays) (sOut : SOut) (a1 : Int32) {x : Nat × SSource × STokens} (hf : f_CommentWays_bang a1 sSource sTokens = some x) (sz : Nat) : Met l y_CommentWays_bang (.code y_CommentWays_bang b_CommentWays_bang 2 (some (.object "MarkupTokens$Way")) :: lw_g) { frames := 3, cells := 0, slots := 0, locals := 60 } (gP D (gT cA) z [.ref (ad 5), .int a1] (Wc z ad cA sMt sSource sTokens sReferenceWays sTagWays sCommentWays sOut) sz) (gQq D (gT cA) (va_A (Wc z ad cA sMt sSource sTokens sReferenceWays sTagWays sCommentWays sOut) sz) (some (z.1 x.1)) (Wc z ad cA sMt x.2.1 x.2.2 sReferenceWays sTagWays sCommentWays sOut)) 0 0 (va_A (Wc z ad cA sMt sSource sTokens sReferenceWays sTagWays sCommentWays sOut) sz) := by
  refine g_met (by decide) (Nat.le_of_ble_eq_true rfl) rfl ?_
  intro p e s m args below meth c F hr hlk
  unfold f_CommentWays_bang at hf
  refine g_iload_n F d_CommentWays_bang_0 1 rfl ?_
  by_cases q1 : a1 = (-1)
  · rw [if_pos q1] at hf
    refine g_lookup F (off := 41) (tgt := 42) d_CommentWays_bang_1 (by decide) (by rw [q1]; decide) (by decide) ?_
    refine g_aload_n F d_CommentWays_bang_42 0 rfl ?_
    obtain ⟨x1, hx1, hf⟩ := g_bind hf
    refine g_cw F (r0 := z.1 x1.1) (ws' := (Wc z ad cA sMt x1.2.1 x1.2.2 sReferenceWays sTagWays sCommentWays sOut)) (fun H locs ls hP hD hS hl => g_runV F (As := []) (n := 0) mw_804 rfl rfl ⟨by decide, by decide⟩ rfl (by exact Nat.le_of_ble_eq_true rfl) mw_801 mw_803 mw_19 mw_82 (by decide +kernel) d_CommentWays_bang_43 hP hD hS hl (va_recv F.2.2.2.2.2.1 hP (ci := 5) rfl (q0 := 5) rfl) (c_CommentWays_unfinished l D cA z ad sMt sSource sTokens sReferenceWays sTagWays sCommentWays sOut hx1 H.size)) ?_
    cases hf
    exact g_aret F hr (Or.inl ⟨_, rfl⟩) hlk rfl rfl rfl d_CommentWays_bang_46
  rw [if_neg q1] at hf
  by_cases q2 : a1 = 62
  · rw [if_pos q2] at hf
    refine g_lookup F (off := 27) (tgt := 28) d_CommentWays_bang_1 (by decide) (by rw [q2]; decide) (by decide) ?_
    refine g_aload_n F d_CommentWays_bang_28 0 rfl ?_
    refine g_getS F (v := .ref (ad 1)) in_X1 5 rfl rfl 0 (by decide) mw_200 mw_201 rfl d_CommentWays_bang_29 ?_
    refine g_bipush F (v := 20) d_CommentWays_bang_32 (by decide) ?_
    obtain ⟨x2, hx2, hf⟩ := g_bind hf
    refine g_cv F (ws' := (Wc z ad cA sMt x2 sTokens sReferenceWays sTagWays sCommentWays sOut)) (fun H locs ls hP hD hS hl => g_runV F (As := [.int 20]) (n := 1) mw_408 rfl rfl ⟨by decide, by decide⟩ rfl (by exact Nat.le_of_ble_eq_true rfl) mw_788 mw_406 mw_407 mw_74 (by decide +kernel) d_CommentWays_bang_34 hP hD hS hl (va_recv F.2.2.2.2.2.1 hP (ci := 1) rfl (q0 := 1) rfl) (c_Source_wrong l D cA z ad sMt sSource sTokens sReferenceWays sTagWays sCommentWays sOut 20 hx2 H.size)) ?_
    refine g_aload_n F d_CommentWays_bang_37 0 rfl ?_
    obtain ⟨x3, hx3, hf⟩ := g_bind hf
    refine g_cw F (r0 := z.1 x3.1) (ws' := (Wc z ad cA sMt x3.2.1 x3.2.2 sReferenceWays sTagWays sCommentWays sOut)) (fun H locs ls hP hD hS hl => g_runU F (As := []) (n := 0) mw_761 rfl rfl ⟨by decide, by decide⟩ rfl (by exact Nat.le_of_ble_eq_true rfl) mw_756 mw_757 mw_759 mw_760 mw_76 rfl (by decide +kernel) d_CommentWays_bang_38 hP hD hS hl (va_recv F.2.2.2.2.2.1 hP (ci := 5) rfl (q0 := 5) rfl) (c_Ways_done_CommentWays l D cA z ad sMt x2 sTokens sReferenceWays sTagWays sCommentWays sOut hx3 H.size)) ?_
    cases hf
    exact g_aret F hr (Or.inl ⟨_, rfl⟩) hlk rfl rfl rfl d_CommentWays_bang_41
  rw [if_neg q2] at hf
  refine g_lookup F (off := 46) (tgt := 47) d_CommentWays_bang_1 (by decide) (show Op.lookupswitch.offset ([((-1), 41), (62, 27)] : List (Int × Int)) 46 (a1 : Int32).toInt = 46 by rw [lv_osw (k := (-1)) q1 (by decide), lv_osw (k := 62) q2 (by decide)]; rfl) (by decide) ?_
  refine g_aload_n F d_CommentWays_bang_47 0 rfl ?_
  refine g_getS F (v := .ref (ad 2)) in_X1 5 rfl rfl 1 (by decide) mw_219 mw_220 rfl d_CommentWays_bang_48 ?_
  refine g_bipush F (v := 45) d_CommentWays_bang_51 (by decide) ?_
  obtain ⟨x4, hx4, hf⟩ := g_bind hf
  refine g_cv F (ws' := (Wc z ad cA sMt sSource x4 sReferenceWays sTagWays sCommentWays sOut)) (fun H locs ls hP hD hS hl => g_runV F (As := [.int 45]) (n := 1) mw_416 rfl rfl ⟨by decide, by decide⟩ rfl (by exact Nat.le_of_ble_eq_true rfl) mw_817 mw_414 mw_415 mw_75 (by decide +kernel) d_CommentWays_bang_53 hP hD hS hl (va_recv F.2.2.2.2.2.1 hP (ci := 2) rfl (q0 := 2) rfl) (c_Tokens_add l D cA z ad sMt sSource sTokens sReferenceWays sTagWays sCommentWays sOut 45 hx4 H.size)) ?_
  refine g_aload_n F d_CommentWays_bang_56 0 rfl ?_
  refine g_getS F (v := .ref (ad 2)) in_X1 5 rfl rfl 1 (by decide) mw_219 mw_220 rfl d_CommentWays_bang_57 ?_
  refine g_bipush F (v := 45) d_CommentWays_bang_60 (by decide) ?_
  obtain ⟨x5, hx5, hf⟩ := g_bind hf
  refine g_cv F (ws' := (Wc z ad cA sMt sSource x5 sReferenceWays sTagWays sCommentWays sOut)) (fun H locs ls hP hD hS hl => g_runV F (As := [.int 45]) (n := 1) mw_416 rfl rfl ⟨by decide, by decide⟩ rfl (by exact Nat.le_of_ble_eq_true rfl) mw_817 mw_414 mw_415 mw_75 (by decide +kernel) d_CommentWays_bang_62 hP hD hS hl (va_recv F.2.2.2.2.2.1 hP (ci := 2) rfl (q0 := 2) rfl) (c_Tokens_add l D cA z ad sMt sSource x4 sReferenceWays sTagWays sCommentWays sOut 45 hx5 H.size)) ?_
  refine g_aload_n F d_CommentWays_bang_65 0 rfl ?_
  refine g_getS F (v := .ref (ad 2)) in_X1 5 rfl rfl 1 (by decide) mw_219 mw_220 rfl d_CommentWays_bang_66 ?_
  refine g_bipush F (v := 33) d_CommentWays_bang_69 (by decide) ?_
  obtain ⟨x6, hx6, hf⟩ := g_bind hf
  refine g_cv F (ws' := (Wc z ad cA sMt sSource x6 sReferenceWays sTagWays sCommentWays sOut)) (fun H locs ls hP hD hS hl => g_runV F (As := [.int 33]) (n := 1) mw_416 rfl rfl ⟨by decide, by decide⟩ rfl (by exact Nat.le_of_ble_eq_true rfl) mw_817 mw_414 mw_415 mw_75 (by decide +kernel) d_CommentWays_bang_71 hP hD hS hl (va_recv F.2.2.2.2.2.1 hP (ci := 2) rfl (q0 := 2) rfl) (c_Tokens_add l D cA z ad sMt sSource x5 sReferenceWays sTagWays sCommentWays sOut 33 hx6 H.size)) ?_
  refine g_iload_n F d_CommentWays_bang_74 1 rfl ?_
  refine g_bipush F (v := 45) d_CommentWays_bang_75 (by decide) ?_
  refine g_icmp_ne F (tgt := 93) d_CommentWays_bang_77 (by decide) (fun h => ?_) (fun h => ?_)
  · rw [if_neg h] at hf
    refine g_way F 20 (by decide) mw_789 d_CommentWays_bang_93 ?_
    cases hf
    exact g_aret F hr (Or.inl ⟨_, rfl⟩) hlk rfl rfl rfl d_CommentWays_bang_96
  · rw [if_pos h] at hf
    refine g_aload_n F d_CommentWays_bang_80 0 rfl ?_
    refine g_getS F (v := .ref (ad 1)) in_X1 5 rfl rfl 0 (by decide) mw_200 mw_201 rfl d_CommentWays_bang_81 ?_
    refine g_way F 21 (by decide) mw_795 d_CommentWays_bang_84 ?_
    refine g_cw F (r0 := z.1 ((f_Source_then 21 sSource).1)) (ws' := (Wc z ad cA sMt ((f_Source_then 21 sSource).2) x6 sReferenceWays sTagWays sCommentWays sOut)) (fun H locs ls hP hD hS hl => g_runV F (As := [.ref (z.1 21)]) (n := 1) mw_401 rfl rfl ⟨by decide, by decide⟩ rfl (by exact Nat.le_of_ble_eq_true rfl) mw_777 mw_399 mw_400 mw_74 (by decide +kernel) d_CommentWays_bang_87 hP hD hS hl (va_recv F.2.2.2.2.2.1 hP (ci := 1) rfl (q0 := 1) rfl) (c_Source_then l D cA z ad sMt sSource x6 sReferenceWays sTagWays sCommentWays sOut 21 rfl H.size)) ?_
    refine g_goto F (tgt := 96) d_CommentWays_bang_90 (by decide) ?_
    cases hf
    exact g_aret F hr (Or.inl ⟨_, rfl⟩) hlk rfl rfl rfl d_CommentWays_bang_96
