set_option maxHeartbeats 4000000 in
set_option maxRecDepth 100000 in
theorem c_ReferenceWays_longestName (l : Launch) (D : va_G) (cA : Nat → ClassId) (z : gZ) (ad : Nat → Nat) (sMt : SMt) (sSource : SSource) (sTokens : STokens) (sReferenceWays : SReferenceWays) (sTagWays : STagWays) (sCommentWays : SCommentWays) (sOut : SOut) {x : (Option Nat)} (hf : f_ReferenceWays_longestName sSource = some x) (sz : Nat) : Met l y_ReferenceWays_longestName (.code y_ReferenceWays_longestName b_ReferenceWays_longestName 8 (some (.object "MarkupTokens$Named")) :: lw_g) { frames := 7, cells := 0, slots := 0, locals := 174 } (gP D (gT cA) z [.ref (ad 3)] (Wc z ad cA sMt sSource sTokens sReferenceWays sTagWays sCommentWays sOut) sz) (gQq D (gT cA) (va_A (Wc z ad cA sMt sSource sTokens sReferenceWays sTagWays sCommentWays sOut) sz) (Option.map z.2.1 x) (Wc z ad cA sMt sSource sTokens sReferenceWays sTagWays sCommentWays sOut)) 0 0 (va_A (Wc z ad cA sMt sSource sTokens sReferenceWays sTagWays sCommentWays sOut) sz) := by
  refine g_met (by decide) (Nat.le_of_ble_eq_true rfl) rfl ?_
  intro p e s m args below meth c F hr hlk
  have blk15 : ∀ (n : Nat) (v1 : Option Nat) (v2 : Int32) (v4 : Int32) (v5 : Int32), f_ReferenceWays_longestName_15 n v1 v2 v4 v5 sSource = some x → GW p l e { frames := 7, cells := 0, slots := 0, locals := 174 } s m args below meth c (gQq D (gT cA) (va_A (Wc z ad cA sMt sSource sTokens sReferenceWays sTagWays sCommentWays sOut) sz) (Option.map z.2.1 x) (Wc z ad cA sMt sSource sTokens sReferenceWays sTagWays sCommentWays sOut)) D (va_A (Wc z ad cA sMt sSource sTokens sReferenceWays sTagWays sCommentWays sOut) sz) 8 (Wc z ad cA sMt sSource sTokens sReferenceWays sTagWays sCommentWays sOut) 15 [(0, .ref (ad 3)), (1, va_rf (Option.map z.2.1 v1)), (2, .int v2), (3, .ref z.2.2.2.2.2.2), (4, .int v4), (5, .int v5)] [] := by
    intro n
    induction n with
    | zero => intro _ _ _ _ hf; cases hf
    | succ n ih =>
      intro v1 v2 v4 v5 hf
      rw [f_ReferenceWays_longestName_15] at hf
      refine g_iload F d_ReferenceWays_longestName_15 5 rfl ?_
      refine g_iload F d_ReferenceWays_longestName_17 4 rfl ?_
      refine g_icmp_ge F (tgt := 64) d_ReferenceWays_longestName_19 (by decide) (fun h => ?_) (fun h => ?_)
      · rw [if_pos h] at hf
        rcases v1 with _ | n1
        ·
          refine g_aload_nN F d_ReferenceWays_longestName_64 1 rfl ?_
          cases hf
          exact g_aret F hr (Or.inl ⟨_, rfl⟩) hlk rfl rfl rfl d_ReferenceWays_longestName_65
        ·
          refine g_aload_n F d_ReferenceWays_longestName_64 1 rfl ?_
          cases hf
          exact g_aret F hr (Or.inl ⟨_, rfl⟩) hlk rfl rfl rfl d_ReferenceWays_longestName_65
      · rw [if_neg h] at hf
        refine g_aload_n F d_ReferenceWays_longestName_22 3 rfl ?_
        refine g_iload F d_ReferenceWays_longestName_23 5 rfl ?_
        obtain ⟨k2, hf⟩ := g_chk hf
        refine g_all_at F k2 d_ReferenceWays_longestName_25 ?_
        refine g_astore F (L' := [(6, .ref (z.2.1 ((v5 : Int32).toNatClampNeg))), (0, .ref (ad 3)), (1, va_rf (Option.map z.2.1 v1)), (2, .int v2), (3, .ref z.2.2.2.2.2.2), (4, .int v4), (5, .int v5)]) d_ReferenceWays_longestName_26 (by decide) rfl ?_
        refine g_aload F d_ReferenceWays_longestName_28 0 rfl ?_
        refine g_aload_n F d_ReferenceWays_longestName_30 1 rfl ?_
        refine g_getS F (v := .ref (ad 1)) in_X6 3 rfl rfl 0 (by decide) mw_204 mw_205 rfl d_ReferenceWays_longestName_31 ?_
        refine g_aload_n F d_ReferenceWays_longestName_34 1 rfl ?_
        refine g_getS F (v := .ref (ad 1)) in_X6 3 rfl rfl 0 (by decide) mw_204 mw_205 rfl d_ReferenceWays_longestName_35 ?_
        refine g_ci F (r0 := (f_Source_place sSource)) (ws' := (Wc z ad cA sMt sSource sTokens sReferenceWays sTagWays sCommentWays sOut)) (fun H locs ls hP hD hS hl => g_runV F (As := []) (n := 0) mw_474 rfl rfl ⟨by decide, by decide⟩ rfl (by exact Nat.le_of_ble_eq_true rfl) mw_471 mw_472 mw_473 mw_74 (by decide +kernel) d_ReferenceWays_longestName_38 hP hD hS hl (va_recv F.2.2.2.2.2.1 hP (ci := 1) rfl (q0 := 1) rfl) (c_Source_place l D cA z ad sMt sSource sTokens sReferenceWays sTagWays sCommentWays sOut rfl H.size)) ?_
        obtain ⟨x1, hx1, hf⟩ := g_bind hf
        refine g_ci F (r0 := x1) (ws' := (Wc z ad cA sMt sSource sTokens sReferenceWays sTagWays sCommentWays sOut)) (fun H locs ls hP hD hS hl => g_runV F (As := [.ref (ad 1), .int (f_Source_place sSource)]) (n := 2) mw_478 rfl rfl ⟨by decide, by decide⟩ rfl (by exact Nat.le_of_ble_eq_true rfl) mw_475 mw_476 mw_477 mw_89 (by decide +kernel) d_ReferenceWays_longestName_41 hP hD hS hl (zh_o (F.2.2.2.2.2.2.2.1.2.1 _ (ix_lt k2)).1 hS) (c_Named_lengthIn l D cA z ad sMt sSource sTokens sReferenceWays sTagWays sCommentWays sOut ((v5 : Int32).toNatClampNeg) (f_Source_place sSource) hx1 H.size)) ?_
        refine g_istore F (L' := [(7, .int x1), (6, .ref (z.2.1 ((v5 : Int32).toNatClampNeg))), (0, .ref (ad 3)), (1, va_rf (Option.map z.2.1 v1)), (2, .int v2), (3, .ref z.2.2.2.2.2.2), (4, .int v4), (5, .int v5)]) d_ReferenceWays_longestName_44 (by decide) rfl ?_
        refine g_iload F d_ReferenceWays_longestName_46 0 rfl ?_
        refine g_iload_n F d_ReferenceWays_longestName_48 4 rfl ?_
        refine g_icmp_le F (tgt := 58) d_ReferenceWays_longestName_49 (by decide) (fun h => ?_) (fun h => ?_)
        · rw [if_pos h] at hf
          refine g_iinc F (j := 7) (v := (v5 + 1)) (L' := [(5, .int (v5 + 1)), (7, .int x1), (6, .ref (z.2.1 ((v5 : Int32).toNatClampNeg))), (0, .ref (ad 3)), (1, va_rf (Option.map z.2.1 v1)), (2, .int v2), (3, .ref z.2.2.2.2.2.2), (4, .int v4)]) d_ReferenceWays_longestName_58 rfl rfl (by decide) rfl ?_
          refine g_goto F (tgt := 15) d_ReferenceWays_longestName_61 (by decide) ?_
          refine g_loc [3, 4, 5, 6, 7, 0] rfl ?_
          exact ih v1 v2 v4 (v5 + 1) hf
        · rw [if_neg h] at hf
          refine g_aload F d_ReferenceWays_longestName_52 1 rfl ?_
          refine g_astore_n F (L' := [(1, .ref (z.2.1 ((v5 : Int32).toNatClampNeg))), (7, .int x1), (6, .ref (z.2.1 ((v5 : Int32).toNatClampNeg))), (0, .ref (ad 3)), (2, .int v2), (3, .ref z.2.2.2.2.2.2), (4, .int v4), (5, .int v5)]) d_ReferenceWays_longestName_54 rfl (by decide) rfl ?_
          refine g_iload F d_ReferenceWays_longestName_55 1 rfl ?_
          refine g_istore_n F (L' := [(2, .int x1), (1, .ref (z.2.1 ((v5 : Int32).toNatClampNeg))), (7, .int x1), (6, .ref (z.2.1 ((v5 : Int32).toNatClampNeg))), (0, .ref (ad 3)), (3, .ref z.2.2.2.2.2.2), (4, .int v4), (5, .int v5)]) d_ReferenceWays_longestName_57 rfl (by decide) rfl ?_
          refine g_iinc F (j := 7) (v := (v5 + 1)) (L' := [(5, .int (v5 + 1)), (2, .int x1), (1, .ref (z.2.1 ((v5 : Int32).toNatClampNeg))), (7, .int x1), (6, .ref (z.2.1 ((v5 : Int32).toNatClampNeg))), (0, .ref (ad 3)), (3, .ref z.2.2.2.2.2.2), (4, .int v4)]) d_ReferenceWays_longestName_58 rfl rfl (by decide) rfl ?_
          refine g_goto F (tgt := 15) d_ReferenceWays_longestName_61 (by decide) ?_
          refine g_loc [5, 2, 1, 6, 7, 0] rfl ?_
          exact ih (some (v5 : Int32).toNatClampNeg) x1 v4 (v5 + 1) hf
  unfold f_ReferenceWays_longestName at hf
  refine g_null F d_ReferenceWays_longestName_0 ?_
  refine g_astore_nN F (L' := [(1, .null), (0, .ref (ad 3))]) d_ReferenceWays_longestName_1 rfl (by decide) rfl ?_
  refine g_iconst F (v := 0) d_ReferenceWays_longestName_2 (by decide) ?_
  refine g_istore_n F (L' := [(2, .int 0), (1, .null), (0, .ref (ad 3))]) d_ReferenceWays_longestName_3 rfl (by decide) rfl ?_
  refine g_all F (F.2.2.2.2.2.2.2.2.2.1 ("MarkupTokens$ReferenceWays", 53, "MarkupTokens$Named", "ALL", "[LMarkupTokens$Named;") (by decide +kernel)) d_ReferenceWays_longestName_4 ?_
  refine g_astore_n F (L' := [(3, .ref z.2.2.2.2.2.2), (2, .int 0), (1, .null), (0, .ref (ad 3))]) d_ReferenceWays_longestName_7 rfl (by decide) rfl ?_
  refine g_aload_n F d_ReferenceWays_longestName_8 0 rfl ?_
  refine g_all_len F d_ReferenceWays_longestName_9 ?_
  refine g_istore F (L' := [(4, .int 32), (3, .ref z.2.2.2.2.2.2), (2, .int 0), (1, .null), (0, .ref (ad 3))]) d_ReferenceWays_longestName_10 (by decide) rfl ?_
  refine g_iconst F (v := 0) d_ReferenceWays_longestName_12 (by decide) ?_
  refine g_istore F (L' := [(5, .int 0), (4, .int 32), (3, .ref z.2.2.2.2.2.2), (2, .int 0), (1, .null), (0, .ref (ad 3))]) d_ReferenceWays_longestName_13 (by decide) rfl ?_
  refine g_loc [5, 4, 3, 2, 1, 0] rfl ?_
  exact blk15 FU none 0 32 0 hf
set_option maxHeartbeats 4000000 in
set_option maxRecDepth 100000 in
theorem c_Source_skip (l : Launch) (D : va_G) (cA : Nat → ClassId) (z : gZ) (ad : Nat → Nat) (sMt : SMt) (sSource : SSource) (sTokens : STokens) (sReferenceWays : SReferenceWays) (sTagWays : STagWays) (sCommentWays : SCommentWays) (sOut : SOut) (a1 : Int32) {x : SSource} (hf : f_Source_skip a1 sSource = x) (sz : Nat) : Met l y_Source_skip (.code y_Source_skip b_Source_skip 2 none :: lw_g) { frames := 1, cells := 0, slots := 0, locals := 21 } (gP D (gT cA) z [.ref (ad 1), .int a1] (Wc z ad cA sMt sSource sTokens sReferenceWays sTagWays sCommentWays sOut) sz) (gQv D (gT cA) (va_A (Wc z ad cA sMt sSource sTokens sReferenceWays sTagWays sCommentWays sOut) sz) (Wc z ad cA sMt x sTokens sReferenceWays sTagWays sCommentWays sOut)) 0 0 (va_A (Wc z ad cA sMt sSource sTokens sReferenceWays sTagWays sCommentWays sOut) sz) := by
  refine g_met (by decide) (Nat.le_of_ble_eq_true rfl) rfl ?_
  intro p e s m args below meth c F hr hlk
  unfold f_Source_skip at hf
  refine g_aload_n F d_Source_skip_0 0 rfl ?_
  refine g_aload_n F d_Source_skip_1 0 rfl ?_
  refine g_get F (v := .int (q_Source_place sSource)) in_X7 1 rfl rfl 2 (by decide) mw_110 rfl d_Source_skip_2 ?_
  refine g_iload_n F d_Source_skip_5 1 rfl ?_
  refine g_iadd F d_Source_skip_6 ?_
  refine g_aload_n F d_Source_skip_7 0 rfl ?_
  refine g_get F (v := .int (q_Source_count sSource)) in_X7 1 rfl rfl 1 (by decide) mw_109 rfl d_Source_skip_8 ?_
  refine g_mmin F mw_534 mw_335 mw_86 mw_336 (by decide) (by exact Nat.le_of_ble_eq_true rfl) d_Source_skip_11 ?_
  refine g_put F in_X7 1 rfl rfl 2 (by decide) tyX7 tyX7_ok nmX7 mw_110 rfl rfl rfl (Nat.le_of_ble_eq_true rfl) (ws' := (Wc z ad cA sMt (u_Source_place sSource (if (q_Source_count sSource) < ((q_Source_place sSource) + a1) then (q_Source_count sSource) else ((q_Source_place sSource) + a1))) sTokens sReferenceWays sTagWays sCommentWays sOut)) rfl d_Source_skip_14 ?_
  subst hf
  exact g_vret F hr hlk rfl rfl d_Source_skip_17
set_option maxHeartbeats 4000000 in
set_option maxRecDepth 100000 in
theorem c_ReferenceWays_goesOn (l : Launch) (D : va_G) (cA : Nat → ClassId) (z : gZ) (ad : Nat → Nat) (sMt : SMt) (sSource : SSource) (sTokens : STokens) (sReferenceWays : SReferenceWays) (sTagWays : STagWays) (sCommentWays : SCommentWays) (sOut : SOut) (a1 : Int32) {x : Int32} (hf : f_ReferenceWays_goesOn a1 = x) (sz : Nat) : Met l y_ReferenceWays_goesOn (.code y_ReferenceWays_goesOn b_ReferenceWays_goesOn 1 (some .boolean) :: lw_g) { frames := 2, cells := 0, slots := 0, locals := 40 } (gP D (gT cA) z [.int a1] (Wc z ad cA sMt sSource sTokens sReferenceWays sTagWays sCommentWays sOut) sz) (gQi D (gT cA) (va_A (Wc z ad cA sMt sSource sTokens sReferenceWays sTagWays sCommentWays sOut) sz) x (Wc z ad cA sMt sSource sTokens sReferenceWays sTagWays sCommentWays sOut)) 0 0 (va_A (Wc z ad cA sMt sSource sTokens sReferenceWays sTagWays sCommentWays sOut) sz) := by
  refine g_met (by decide) (Nat.le_of_ble_eq_true rfl) rfl ?_
  intro p e s m args below meth c F hr hlk
  unfold f_ReferenceWays_goesOn at hf
  refine g_iload_n F d_ReferenceWays_goesOn_0 0 rfl ?_
  refine g_ci F (r0 := (f_Mt_isLetterOrDigit a1)) (ws' := (Wc z ad cA sMt sSource sTokens sReferenceWays sTagWays sCommentWays sOut)) (fun H locs ls hP hD hS hl => g_runSN F (As := [.int a1]) (n := 1) mw_456 rfl rfl ⟨by decide, by decide⟩ rfl (by exact Nat.le_of_ble_eq_true rfl) (F.2.2.2.2.2.2.2.2.1 (RX6, 36, y_Mt_isLetterOrDigit) (by decide +kernel)) mw_455 mw_73 (by decide +kernel) d_ReferenceWays_goesOn_1 hP hD hS hl (c_Mt_isLetterOrDigit l D cA z ad sMt sSource sTokens sReferenceWays sTagWays sCommentWays sOut a1 rfl H.size)) ?_
  refine g_if_ne F (tgt := 13) d_ReferenceWays_goesOn_4 (by decide) (fun h => ?_) (fun h => ?_)
  · rw [if_neg h] at hf
    refine g_iconst F (v := 1) d_ReferenceWays_goesOn_13 (by decide) ?_
    refine g_goto F (tgt := 18) d_ReferenceWays_goesOn_14 (by decide) ?_
    subst hf
    exact g_zret F hr rfl hlk rfl rfl rfl d_ReferenceWays_goesOn_18
  · rw [if_pos h] at hf
    refine g_iload_n F d_ReferenceWays_goesOn_7 0 rfl ?_
    refine g_bipush F (v := 61) d_ReferenceWays_goesOn_8 (by decide) ?_
    refine g_icmp_ne F (tgt := 17) d_ReferenceWays_goesOn_10 (by decide) (fun h => ?_) (fun h => ?_)
    · rw [if_neg h] at hf
      refine g_iconst F (v := 0) d_ReferenceWays_goesOn_17 (by decide) ?_
      subst hf
      exact g_zret F hr rfl hlk rfl rfl rfl d_ReferenceWays_goesOn_18
    · rw [if_pos h] at hf
      refine g_iconst F (v := 1) d_ReferenceWays_goesOn_13 (by decide) ?_
      refine g_goto F (tgt := 18) d_ReferenceWays_goesOn_14 (by decide) ?_
      subst hf
      exact g_zret F hr rfl hlk rfl rfl rfl d_ReferenceWays_goesOn_18
set_option maxHeartbeats 4000000 in
set_option maxRecDepth 100000 in
theorem c_ReferenceWays_addAsItIs (l : Launch) (D : va_G) (cA : Nat → ClassId) (z : gZ) (ad : Nat → Nat) (sMt : SMt) (sSource : SSource) (sTokens : STokens) (sReferenceWays : SReferenceWays) (sTagWays : STagWays) (sCommentWays : SCommentWays) (sOut : SOut) (a1 : Int32) {x : STokens} (hf : f_ReferenceWays_addAsItIs a1 sSource sTokens = some x) (sz : Nat) : Met l y_ReferenceWays_addAsItIs (.code y_ReferenceWays_addAsItIs b_ReferenceWays_addAsItIs 4 none :: lw_g) { frames := 1, cells := 0, slots := 0, locals := 21 } (gP D (gT cA) z [.ref (ad 3), .int a1] (Wc z ad cA sMt sSource sTokens sReferenceWays sTagWays sCommentWays sOut) sz) (gQv D (gT cA) (va_A (Wc z ad cA sMt sSource sTokens sReferenceWays sTagWays sCommentWays sOut) sz) (Wc z ad cA sMt sSource x sReferenceWays sTagWays sCommentWays sOut)) 0 0 (va_A (Wc z ad cA sMt sSource sTokens sReferenceWays sTagWays sCommentWays sOut) sz) := by
  refine g_met (by decide) (Nat.le_of_ble_eq_true rfl) rfl ?_
  intro p e s m args below meth c F hr hlk
  have blk19 : ∀ (n : Nat) (v1 : Int32) (v2 : Int32) (v3 : Int32) (tTokens : STokens), f_ReferenceWays_addAsItIs_19 n v1 v2 v3 sSource tTokens = some x → GW p l e { frames := 1, cells := 0, slots := 0, locals := 21 } s m args below meth c (gQv D (gT cA) (va_A (Wc z ad cA sMt sSource sTokens sReferenceWays sTagWays sCommentWays sOut) sz) (Wc z ad cA sMt sSource x sReferenceWays sTagWays sCommentWays sOut)) D (va_A (Wc z ad cA sMt sSource sTokens sReferenceWays sTagWays sCommentWays sOut) sz) 4 (Wc z ad cA sMt sSource tTokens sReferenceWays sTagWays sCommentWays sOut) 19 [(0, .ref (ad 3)), (1, .int v1), (2, .int v2), (3, .int v3)] [] := by
    intro n
    induction n with
    | zero => intro _ _ _ _ hf; cases hf
    | succ n ih =>
      intro v1 v2 v3 tTokens hf
      rw [f_ReferenceWays_addAsItIs_19] at hf
      refine g_iload_n F d_ReferenceWays_addAsItIs_19 3 rfl ?_
      refine g_iload_n F d_ReferenceWays_addAsItIs_20 2 rfl ?_
      refine g_icmp_ge F (tgt := 45) d_ReferenceWays_addAsItIs_21 (by decide) (fun h => ?_) (fun h => ?_)
      · rw [if_pos h] at hf
        cases hf
        exact g_vret F hr hlk rfl rfl d_ReferenceWays_addAsItIs_45
      · rw [if_neg h] at hf
        refine g_aload_n F d_ReferenceWays_addAsItIs_24 0 rfl ?_
        refine g_getS F (v := .ref (ad 2)) in_X6 3 rfl rfl 1 (by decide) mw_215 mw_216 rfl d_ReferenceWays_addAsItIs_25 ?_
        refine g_aload_n F d_ReferenceWays_addAsItIs_28 0 rfl ?_
        refine g_getS F (v := .ref (ad 1)) in_X6 3 rfl rfl 0 (by decide) mw_204 mw_205 rfl d_ReferenceWays_addAsItIs_29 ?_
        refine g_iload_n F d_ReferenceWays_addAsItIs_32 3 rfl ?_
        obtain ⟨x1, hx1, hf⟩ := g_bind hf
        refine g_ci F (r0 := x1) (ws' := (Wc z ad cA sMt sSource tTokens sReferenceWays sTagWays sCommentWays sOut)) (fun H locs ls hP hD hS hl => g_runV F (As := [.int v3]) (n := 1) mw_367 rfl rfl ⟨by decide, by decide⟩ rfl (by exact Nat.le_of_ble_eq_true rfl) mw_535 mw_365 mw_366 mw_74 (by decide +kernel) d_ReferenceWays_addAsItIs_33 hP hD hS hl (va_recv F.2.2.2.2.2.1 hP (ci := 1) rfl (q0 := 1) rfl) (c_Source_character l D cA z ad sMt sSource tTokens sReferenceWays sTagWays sCommentWays sOut v3 hx1 H.size)) ?_
        obtain ⟨x2, hx2, hf⟩ := g_bind hf
        refine g_cv F (ws' := (Wc z ad cA sMt sSource x2 sReferenceWays sTagWays sCommentWays sOut)) (fun H locs ls hP hD hS hl => g_runV F (As := [.int x1]) (n := 1) mw_416 rfl rfl ⟨by decide, by decide⟩ rfl (by exact Nat.le_of_ble_eq_true rfl) mw_460 mw_414 mw_415 mw_75 (by decide +kernel) d_ReferenceWays_addAsItIs_36 hP hD hS hl (va_recv F.2.2.2.2.2.1 hP (ci := 2) rfl (q0 := 2) rfl) (c_Tokens_add l D cA z ad sMt sSource tTokens sReferenceWays sTagWays sCommentWays sOut x1 hx2 H.size)) ?_
        refine g_iinc F (j := 3) (v := (v3 + 1)) (L' := [(3, .int (v3 + 1)), (0, .ref (ad 3)), (1, .int v1), (2, .int v2)]) d_ReferenceWays_addAsItIs_39 rfl rfl (by decide) rfl ?_
        refine g_goto F (tgt := 19) d_ReferenceWays_addAsItIs_42 (by decide) ?_
        refine g_loc [1, 2, 3, 0] rfl ?_
        exact ih v1 v2 (v3 + 1) x2 hf
  unfold f_ReferenceWays_addAsItIs at hf
  refine g_aload_n F d_ReferenceWays_addAsItIs_0 0 rfl ?_
  refine g_getS F (v := .ref (ad 2)) in_X6 3 rfl rfl 1 (by decide) mw_215 mw_216 rfl d_ReferenceWays_addAsItIs_1 ?_
  refine g_bipush F (v := 38) d_ReferenceWays_addAsItIs_4 (by decide) ?_
  obtain ⟨x3, hx3, hf⟩ := g_bind hf
  refine g_cv F (ws' := (Wc z ad cA sMt sSource x3 sReferenceWays sTagWays sCommentWays sOut)) (fun H locs ls hP hD hS hl => g_runV F (As := [.int 38]) (n := 1) mw_416 rfl rfl ⟨by decide, by decide⟩ rfl (by exact Nat.le_of_ble_eq_true rfl) mw_460 mw_414 mw_415 mw_75 (by decide +kernel) d_ReferenceWays_addAsItIs_6 hP hD hS hl (va_recv F.2.2.2.2.2.1 hP (ci := 2) rfl (q0 := 2) rfl) (c_Tokens_add l D cA z ad sMt sSource sTokens sReferenceWays sTagWays sCommentWays sOut 38 hx3 H.size)) ?_
  refine g_aload_n F d_ReferenceWays_addAsItIs_9 0 rfl ?_
  refine g_getS F (v := .ref (ad 1)) in_X6 3 rfl rfl 0 (by decide) mw_204 mw_205 rfl d_ReferenceWays_addAsItIs_10 ?_
  refine g_ci F (r0 := (f_Source_place sSource)) (ws' := (Wc z ad cA sMt sSource x3 sReferenceWays sTagWays sCommentWays sOut)) (fun H locs ls hP hD hS hl => g_runV F (As := []) (n := 0) mw_474 rfl rfl ⟨by decide, by decide⟩ rfl (by exact Nat.le_of_ble_eq_true rfl) mw_471 mw_472 mw_473 mw_74 (by decide +kernel) d_ReferenceWays_addAsItIs_13 hP hD hS hl (va_recv F.2.2.2.2.2.1 hP (ci := 1) rfl (q0 := 1) rfl) (c_Source_place l D cA z ad sMt sSource x3 sReferenceWays sTagWays sCommentWays sOut rfl H.size)) ?_
  refine g_istore_n F (L' := [(2, .int (f_Source_place sSource)), (0, .ref (ad 3)), (1, .int a1)]) d_ReferenceWays_addAsItIs_16 rfl (by decide) rfl ?_
  refine g_iload_n F d_ReferenceWays_addAsItIs_17 2 rfl ?_
  refine g_istore_n F (L' := [(3, .int a1), (2, .int (f_Source_place sSource)), (0, .ref (ad 3)), (1, .int a1)]) d_ReferenceWays_addAsItIs_18 rfl (by decide) rfl ?_
  refine g_loc [2, 3, 1, 0] rfl ?_
  exact blk19 FU a1 (f_Source_place sSource) a1 x3 hf
set_option maxHeartbeats 4000000 in
set_option maxRecDepth 100000 in
theorem c_ReferenceWays_named (l : Launch) (D : va_G) (cA : Nat → ClassId) (z : gZ) (ad : Nat → Nat) (sMt : SMt) (sSource : SSource) (sTokens : STokens) (sReferenceWays : SReferenceWays) (sTagWays : STagWays) (sCommentWays : SCommentWays) (sOut : SOut) {x : Nat × SSource × STokens} (hf : f_ReferenceWays_named sReferenceWays sSource sTokens = some x) (sz : Nat) : Met l y_ReferenceWays_named (.code y_ReferenceWays_named b_ReferenceWays_named 4 (some (.object "MarkupTokens$Way")) :: lw_g) { frames := 8, cells := 0, slots := 0, locals := 201 } (gP D (gT cA) z [.ref (ad 3)] (Wc z ad cA sMt sSource sTokens sReferenceWays sTagWays sCommentWays sOut) sz) (gQq D (gT cA) (va_A (Wc z ad cA sMt sSource sTokens sReferenceWays sTagWays sCommentWays sOut) sz) (some (z.1 x.1)) (Wc z ad cA sMt x.2.1 x.2.2 sReferenceWays sTagWays sCommentWays sOut)) 0 0 (va_A (Wc z ad cA sMt sSource sTokens sReferenceWays sTagWays sCommentWays sOut) sz) := by
  refine g_met (by decide) (Nat.le_of_ble_eq_true rfl) rfl ?_
  intro p e s m args below meth c F hr hlk
  unfold f_ReferenceWays_named at hf
  refine g_aload_n F d_ReferenceWays_named_0 0 rfl ?_
  obtain ⟨x1, hx1, hf⟩ := g_bind hf
  refine g_cq F (r0 := Option.map z.2.1 x1) (ws' := (Wc z ad cA sMt sSource sTokens sReferenceWays sTagWays sCommentWays sOut)) (fun H locs ls hP hD hS hl => g_runV F (As := []) (n := 0) mw_468 rfl rfl ⟨by decide, by decide⟩ rfl (by exact Nat.le_of_ble_eq_true rfl) mw_465 mw_467 mw_7 mw_78 (by decide +kernel) d_ReferenceWays_named_1 hP hD hS hl (va_recv F.2.2.2.2.2.1 hP (ci := 3) rfl (q0 := 3) rfl) (c_ReferenceWays_longestName l D cA z ad sMt sSource sTokens sReferenceWays sTagWays sCommentWays sOut hx1 H.size)) ?_
  rcases x1 with _ | n1
  ·
    refine g_astore_nN F (L' := [(1, .null), (0, .ref (ad 3))]) d_ReferenceWays_named_4 rfl (by decide) rfl ?_
    refine g_aload_nN F d_ReferenceWays_named_5 0 rfl ?_
    dsimp only at hf
    refine g_nnN F d_ReferenceWays_named_6 ?_
    refine g_way F 5 (by decide) mw_528 d_ReferenceWays_named_9 ?_
    cases hf
    exact g_aret F hr (Or.inl ⟨_, rfl⟩) hlk rfl rfl rfl d_ReferenceWays_named_12
  ·
    refine g_astore_n F (L' := [(1, .ref (z.2.1 n1)), (0, .ref (ad 3))]) d_ReferenceWays_named_4 rfl (by decide) rfl ?_
    refine g_aload_n F d_ReferenceWays_named_5 0 rfl ?_
    dsimp only at hf
    obtain ⟨k2, hf⟩ := g_chk hf
    refine g_nnS F (tgt := 13) d_ReferenceWays_named_6 (by decide) ?_
    refine g_aload_n F d_ReferenceWays_named_13 1 rfl ?_
    refine g_getS F (v := .ref (ad 1)) in_X6 3 rfl rfl 0 (by decide) mw_204 mw_205 rfl d_ReferenceWays_named_14 ?_
    refine g_ci F (r0 := (f_Source_place sSource)) (ws' := (Wc z ad cA sMt sSource sTokens sReferenceWays sTagWays sCommentWays sOut)) (fun H locs ls hP hD hS hl => g_runV F (As := []) (n := 0) mw_474 rfl rfl ⟨by decide, by decide⟩ rfl (by exact Nat.le_of_ble_eq_true rfl) mw_471 mw_472 mw_473 mw_74 (by decide +kernel) d_ReferenceWays_named_17 hP hD hS hl (va_recv F.2.2.2.2.2.1 hP (ci := 1) rfl (q0 := 1) rfl) (c_Source_place l D cA z ad sMt sSource sTokens sReferenceWays sTagWays sCommentWays sOut rfl H.size)) ?_
    refine g_istore_n F (L' := [(2, .int (f_Source_place sSource)), (1, .ref (z.2.1 n1)), (0, .ref (ad 3))]) d_ReferenceWays_named_20 rfl (by decide) rfl ?_
    refine g_aload_n F d_ReferenceWays_named_21 2 rfl ?_
    refine g_getS F (v := .ref (ad 1)) in_X6 3 rfl rfl 0 (by decide) mw_204 mw_205 rfl d_ReferenceWays_named_22 ?_
    refine g_aload_n F d_ReferenceWays_named_25 1 rfl ?_
    refine g_aload_n F d_ReferenceWays_named_26 2 rfl ?_
    refine g_getS F (v := .ref (ad 1)) in_X6 3 rfl rfl 0 (by decide) mw_204 mw_205 rfl d_ReferenceWays_named_27 ?_
    refine g_iload_n F d_ReferenceWays_named_30 0 rfl ?_
    obtain ⟨x2, hx2, hf⟩ := g_bind hf
    refine g_ci F (r0 := x2) (ws' := (Wc z ad cA sMt sSource sTokens sReferenceWays sTagWays sCommentWays sOut)) (fun H locs ls hP hD hS hl => g_runV F (As := [.ref (ad 1), .int (f_Source_place sSource)]) (n := 2) mw_478 rfl rfl ⟨by decide, by decide⟩ rfl (by exact Nat.le_of_ble_eq_true rfl) mw_475 mw_476 mw_477 mw_89 (by decide +kernel) d_ReferenceWays_named_31 hP hD hS hl (zh_o (F.2.2.2.2.2.2.2.1.2.1 _ k2).1 hS) (c_Named_lengthIn l D cA z ad sMt sSource sTokens sReferenceWays sTagWays sCommentWays sOut n1 (f_Source_place sSource) hx2 H.size)) ?_
    refine g_cv F (ws' := (Wc z ad cA sMt (f_Source_skip x2 sSource) sTokens sReferenceWays sTagWays sCommentWays sOut)) (fun H locs ls hP hD hS hl => g_runV F (As := [.int x2]) (n := 1) mw_533 rfl rfl ⟨by decide, by decide⟩ rfl (by exact Nat.le_of_ble_eq_true rfl) mw_530 mw_531 mw_532 mw_74 (by decide +kernel) d_ReferenceWays_named_34 hP hD hS hl (va_recv F.2.2.2.2.2.1 hP (ci := 1) rfl (q0 := 1) rfl) (c_Source_skip l D cA z ad sMt sSource sTokens sReferenceWays sTagWays sCommentWays sOut x2 rfl H.size)) ?_
    refine g_aload_n F d_ReferenceWays_named_37 2 rfl ?_
    refine g_getS F (v := .ref (ad 1)) in_X6 3 rfl rfl 0 (by decide) mw_204 mw_205 rfl d_ReferenceWays_named_38 ?_
    refine g_aload_n F d_ReferenceWays_named_41 2 rfl ?_
    refine g_getS F (v := .ref (ad 1)) in_X6 3 rfl rfl 0 (by decide) mw_204 mw_205 rfl d_ReferenceWays_named_42 ?_
    refine g_ci F (r0 := (f_Source_place (f_Source_skip x2 sSource))) (ws' := (Wc z ad cA sMt (f_Source_skip x2 sSource) sTokens sReferenceWays sTagWays sCommentWays sOut)) (fun H locs ls hP hD hS hl => g_runV F (As := []) (n := 0) mw_474 rfl rfl ⟨by decide, by decide⟩ rfl (by exact Nat.le_of_ble_eq_true rfl) mw_471 mw_472 mw_473 mw_74 (by decide +kernel) d_ReferenceWays_named_45 hP hD hS hl (va_recv F.2.2.2.2.2.1 hP (ci := 1) rfl (q0 := 1) rfl) (c_Source_place l D cA z ad sMt (f_Source_skip x2 sSource) sTokens sReferenceWays sTagWays sCommentWays sOut rfl H.size)) ?_
    refine g_iconst F (v := 1) d_ReferenceWays_named_48 (by decide) ?_
    refine g_isub F d_ReferenceWays_named_49 ?_
    obtain ⟨x3, hx3, hf⟩ := g_bind hf
    refine g_ci F (r0 := x3) (ws' := (Wc z ad cA sMt (f_Source_skip x2 sSource) sTokens sReferenceWays sTagWays sCommentWays sOut)) (fun H locs ls hP hD hS hl => g_runV F (As := [.int ((f_Source_place (f_Source_skip x2 sSource)) - 1)]) (n := 1) mw_367 rfl rfl ⟨by decide, by decide⟩ rfl (by exact Nat.le_of_ble_eq_true rfl) mw_535 mw_365 mw_366 mw_74 (by decide +kernel) d_ReferenceWays_named_50 hP hD hS hl (va_recv F.2.2.2.2.2.1 hP (ci := 1) rfl (q0 := 1) rfl) (c_Source_character l D cA z ad sMt (f_Source_skip x2 sSource) sTokens sReferenceWays sTagWays sCommentWays sOut ((f_Source_place (f_Source_skip x2 sSource)) - 1) hx3 H.size)) ?_
    refine g_bipush F (v := 59) d_ReferenceWays_named_53 (by decide) ?_
    refine g_icmp_ne F (tgt := 62) d_ReferenceWays_named_55 (by decide) (fun h => ?_) (fun h => ?_)
    · rw [if_neg h] at hf
      refine g_iconst F (v := 0) d_ReferenceWays_named_62 (by decide) ?_
      refine g_istore_n F (L' := [(3, .int 0), (2, .int (f_Source_place sSource)), (1, .ref (z.2.1 n1)), (0, .ref (ad 3))]) d_ReferenceWays_named_63 rfl (by decide) rfl ?_
      refine g_iload_n F d_ReferenceWays_named_64 0 rfl ?_
      refine g_if_ne F (tgt := 101) d_ReferenceWays_named_65 (by decide) (fun h => absurd h (by decide)) (fun _ => ?_)
      refine g_aload_n F d_ReferenceWays_named_68 3 rfl ?_
      refine g_get F (v := .ref (z.1 sReferenceWays)) in_X6 3 rfl rfl 2 (by decide) mw_198 rfl d_ReferenceWays_named_69 ?_
      refine g_way F 0 (by decide) mw_196 d_ReferenceWays_named_72 ?_
      obtain ⟨k3, hf⟩ := g_chk hf
      refine g_acmp_eq F (x := sReferenceWays) (y := 0) (tgt := 101) k3 (by decide) d_ReferenceWays_named_75 (by decide) (fun h => ?_) (fun h => ?_)
      · rw [if_pos h] at hf
        refine g_iload_n F d_ReferenceWays_named_101 0 rfl ?_
        refine g_if_ne F (tgt := 114) d_ReferenceWays_named_102 (by decide) (fun h => absurd h (by decide)) (fun _ => ?_)
        refine g_aload_n F d_ReferenceWays_named_105 3 rfl ?_
        refine g_getS F (v := .ref (ad 1)) in_X6 3 rfl rfl 0 (by decide) mw_204 mw_205 rfl d_ReferenceWays_named_106 ?_
        refine g_bipush F (v := 25) d_ReferenceWays_named_109 (by decide) ?_
        obtain ⟨x4, hx4, hf⟩ := g_bind hf
        refine g_cv F (ws' := (Wc z ad cA sMt x4 sTokens sReferenceWays sTagWays sCommentWays sOut)) (fun H locs ls hP hD hS hl => g_runV F (As := [.int 25]) (n := 1) mw_408 rfl rfl ⟨by decide, by decide⟩ rfl (by exact Nat.le_of_ble_eq_true rfl) mw_544 mw_406 mw_407 mw_74 (by decide +kernel) d_ReferenceWays_named_111 hP hD hS hl (va_recv F.2.2.2.2.2.1 hP (ci := 1) rfl (q0 := 1) rfl) (c_Source_wrong l D cA z ad sMt (f_Source_skip x2 sSource) sTokens sReferenceWays sTagWays sCommentWays sOut 25 hx4 H.size)) ?_
        refine g_aload_n F d_ReferenceWays_named_114 3 rfl ?_
        refine g_getS F (v := .ref (ad 2)) in_X6 3 rfl rfl 1 (by decide) mw_215 mw_216 rfl d_ReferenceWays_named_115 ?_
        refine g_aload_n F d_ReferenceWays_named_118 2 rfl ?_
        obtain ⟨k4, hf⟩ := g_chk hf
        refine g_ofN F (F.2.2.2.2.2.2.2.1.2.1 _ k4).2.2.1 (F.2.2.2.2.2.2.2.2.2.1 ("MarkupTokens$ReferenceWays", 93, "MarkupTokens$Named", "given", "I") (by decide +kernel)) d_ReferenceWays_named_119 ?_
        obtain ⟨x5, hx5, hf⟩ := g_bind hf
        refine g_cv F (ws' := (Wc z ad cA sMt x4 x5 sReferenceWays sTagWays sCommentWays sOut)) (fun H locs ls hP hD hS hl => g_runV F (As := [.int (nm_given n1)]) (n := 1) mw_416 rfl rfl ⟨by decide, by decide⟩ rfl (by exact Nat.le_of_ble_eq_true rfl) mw_460 mw_414 mw_415 mw_75 (by decide +kernel) d_ReferenceWays_named_122 hP hD hS hl (va_recv F.2.2.2.2.2.1 hP (ci := 2) rfl (q0 := 2) rfl) (c_Tokens_add l D cA z ad sMt x4 sTokens sReferenceWays sTagWays sCommentWays sOut (nm_given n1) hx5 H.size)) ?_
        refine g_aload_n F d_ReferenceWays_named_125 3 rfl ?_
        refine g_get F (v := .ref (z.1 sReferenceWays)) in_X6 3 rfl rfl 2 (by decide) mw_198 rfl d_ReferenceWays_named_126 ?_
        cases hf
        exact g_aret F hr (Or.inl ⟨_, rfl⟩) hlk rfl rfl rfl d_ReferenceWays_named_129
      · rw [if_neg h] at hf
        refine g_aload_n F d_ReferenceWays_named_78 3 rfl ?_
        refine g_getS F (v := .ref (ad 1)) in_X6 3 rfl rfl 0 (by decide) mw_204 mw_205 rfl d_ReferenceWays_named_79 ?_
        obtain ⟨x6, hx6, hf⟩ := g_bind hf
        refine g_ci F (r0 := x6) (ws' := (Wc z ad cA sMt (f_Source_skip x2 sSource) sTokens sReferenceWays sTagWays sCommentWays sOut)) (fun H locs ls hP hD hS hl => g_runV F (As := []) (n := 0) mw_363 rfl rfl ⟨by decide, by decide⟩ rfl (by exact Nat.le_of_ble_eq_true rfl) mw_536 mw_361 mw_362 mw_74 (by decide +kernel) d_ReferenceWays_named_82 hP hD hS hl (va_recv F.2.2.2.2.2.1 hP (ci := 1) rfl (q0 := 1) rfl) (c_Source_next l D cA z ad sMt (f_Source_skip x2 sSource) sTokens sReferenceWays sTagWays sCommentWays sOut hx6 H.size)) ?_
        refine g_ci F (r0 := (f_ReferenceWays_goesOn x6)) (ws' := (Wc z ad cA sMt (f_Source_skip x2 sSource) sTokens sReferenceWays sTagWays sCommentWays sOut)) (fun H locs ls hP hD hS hl => g_runS F (As := [.int x6]) (n := 1) mw_539 rfl rfl ⟨by decide, by decide⟩ rfl (by exact Nat.le_of_ble_eq_true rfl) mw_537 mw_538 mw_78 (by decide +kernel) d_ReferenceWays_named_85 hP hD hS hl (c_ReferenceWays_goesOn l D cA z ad sMt (f_Source_skip x2 sSource) sTokens sReferenceWays sTagWays sCommentWays sOut x6 rfl H.size)) ?_
        refine g_if_eq F (tgt := 101) d_ReferenceWays_named_88 (by decide) (fun h => ?_) (fun h => ?_)
        · rw [if_pos h] at hf
          refine g_iload_n F d_ReferenceWays_named_101 0 rfl ?_
          refine g_if_ne F (tgt := 114) d_ReferenceWays_named_102 (by decide) (fun h => absurd h (by decide)) (fun _ => ?_)
          refine g_aload_n F d_ReferenceWays_named_105 3 rfl ?_
          refine g_getS F (v := .ref (ad 1)) in_X6 3 rfl rfl 0 (by decide) mw_204 mw_205 rfl d_ReferenceWays_named_106 ?_
          refine g_bipush F (v := 25) d_ReferenceWays_named_109 (by decide) ?_
          obtain ⟨x7, hx7, hf⟩ := g_bind hf
          refine g_cv F (ws' := (Wc z ad cA sMt x7 sTokens sReferenceWays sTagWays sCommentWays sOut)) (fun H locs ls hP hD hS hl => g_runV F (As := [.int 25]) (n := 1) mw_408 rfl rfl ⟨by decide, by decide⟩ rfl (by exact Nat.le_of_ble_eq_true rfl) mw_544 mw_406 mw_407 mw_74 (by decide +kernel) d_ReferenceWays_named_111 hP hD hS hl (va_recv F.2.2.2.2.2.1 hP (ci := 1) rfl (q0 := 1) rfl) (c_Source_wrong l D cA z ad sMt (f_Source_skip x2 sSource) sTokens sReferenceWays sTagWays sCommentWays sOut 25 hx7 H.size)) ?_
          refine g_aload_n F d_ReferenceWays_named_114 3 rfl ?_
          refine g_getS F (v := .ref (ad 2)) in_X6 3 rfl rfl 1 (by decide) mw_215 mw_216 rfl d_ReferenceWays_named_115 ?_
          refine g_aload_n F d_ReferenceWays_named_118 2 rfl ?_
          obtain ⟨k5, hf⟩ := g_chk hf
          refine g_ofN F (F.2.2.2.2.2.2.2.1.2.1 _ k5).2.2.1 (F.2.2.2.2.2.2.2.2.2.1 ("MarkupTokens$ReferenceWays", 93, "MarkupTokens$Named", "given", "I") (by decide +kernel)) d_ReferenceWays_named_119 ?_
          obtain ⟨x8, hx8, hf⟩ := g_bind hf
          refine g_cv F (ws' := (Wc z ad cA sMt x7 x8 sReferenceWays sTagWays sCommentWays sOut)) (fun H locs ls hP hD hS hl => g_runV F (As := [.int (nm_given n1)]) (n := 1) mw_416 rfl rfl ⟨by decide, by decide⟩ rfl (by exact Nat.le_of_ble_eq_true rfl) mw_460 mw_414 mw_415 mw_75 (by decide +kernel) d_ReferenceWays_named_122 hP hD hS hl (va_recv F.2.2.2.2.2.1 hP (ci := 2) rfl (q0 := 2) rfl) (c_Tokens_add l D cA z ad sMt x7 sTokens sReferenceWays sTagWays sCommentWays sOut (nm_given n1) hx8 H.size)) ?_
          refine g_aload_n F d_ReferenceWays_named_125 3 rfl ?_
          refine g_get F (v := .ref (z.1 sReferenceWays)) in_X6 3 rfl rfl 2 (by decide) mw_198 rfl d_ReferenceWays_named_126 ?_
          cases hf
          exact g_aret F hr (Or.inl ⟨_, rfl⟩) hlk rfl rfl rfl d_ReferenceWays_named_129
        · rw [if_neg h] at hf
          refine g_aload_n F d_ReferenceWays_named_91 3 rfl ?_
          refine g_iload_n F d_ReferenceWays_named_92 1 rfl ?_
          obtain ⟨x9, hx9, hf⟩ := g_bind hf
          refine g_cv F (ws' := (Wc z ad cA sMt (f_Source_skip x2 sSource) x9 sReferenceWays sTagWays sCommentWays sOut)) (fun H locs ls hP hD hS hl => g_runV F (As := [.int (f_Source_place sSource)]) (n := 1) mw_543 rfl rfl ⟨by decide, by decide⟩ rfl (by exact Nat.le_of_ble_eq_true rfl) mw_540 mw_542 mw_8 mw_78 (by decide +kernel) d_ReferenceWays_named_93 hP hD hS hl (va_recv F.2.2.2.2.2.1 hP (ci := 3) rfl (q0 := 3) rfl) (c_ReferenceWays_addAsItIs l D cA z ad sMt (f_Source_skip x2 sSource) sTokens sReferenceWays sTagWays sCommentWays sOut (f_Source_place sSource) hx9 H.size)) ?_
          refine g_aload_n F d_ReferenceWays_named_96 3 rfl ?_
          refine g_get F (v := .ref (z.1 sReferenceWays)) in_X6 3 rfl rfl 2 (by decide) mw_198 rfl d_ReferenceWays_named_97 ?_
          cases hf
          exact g_aret F hr (Or.inl ⟨_, rfl⟩) hlk rfl rfl rfl d_ReferenceWays_named_100
    · rw [if_pos h] at hf
      refine g_iconst F (v := 1) d_ReferenceWays_named_58 (by decide) ?_
      refine g_goto F (tgt := 63) d_ReferenceWays_named_59 (by decide) ?_
      refine g_istore_n F (L' := [(3, .int 1), (2, .int (f_Source_place sSource)), (1, .ref (z.2.1 n1)), (0, .ref (ad 3))]) d_ReferenceWays_named_63 rfl (by decide) rfl ?_
      refine g_iload_n F d_ReferenceWays_named_64 0 rfl ?_
      refine g_if_ne F (tgt := 101) d_ReferenceWays_named_65 (by decide) (fun _ => ?_) (fun h => absurd h (by decide))
      refine g_iload_n F d_ReferenceWays_named_101 0 rfl ?_
      refine g_if_ne F (tgt := 114) d_ReferenceWays_named_102 (by decide) (fun _ => ?_) (fun h => absurd h (by decide))
      refine g_aload_n F d_ReferenceWays_named_114 3 rfl ?_
      refine g_getS F (v := .ref (ad 2)) in_X6 3 rfl rfl 1 (by decide) mw_215 mw_216 rfl d_ReferenceWays_named_115 ?_
      refine g_aload_n F d_ReferenceWays_named_118 2 rfl ?_
      obtain ⟨k6, hf⟩ := g_chk hf
      refine g_ofN F (F.2.2.2.2.2.2.2.1.2.1 _ k6).2.2.1 (F.2.2.2.2.2.2.2.2.2.1 ("MarkupTokens$ReferenceWays", 93, "MarkupTokens$Named", "given", "I") (by decide +kernel)) d_ReferenceWays_named_119 ?_
      obtain ⟨x10, hx10, hf⟩ := g_bind hf
      refine g_cv F (ws' := (Wc z ad cA sMt (f_Source_skip x2 sSource) x10 sReferenceWays sTagWays sCommentWays sOut)) (fun H locs ls hP hD hS hl => g_runV F (As := [.int (nm_given n1)]) (n := 1) mw_416 rfl rfl ⟨by decide, by decide⟩ rfl (by exact Nat.le_of_ble_eq_true rfl) mw_460 mw_414 mw_415 mw_75 (by decide +kernel) d_ReferenceWays_named_122 hP hD hS hl (va_recv F.2.2.2.2.2.1 hP (ci := 2) rfl (q0 := 2) rfl) (c_Tokens_add l D cA z ad sMt (f_Source_skip x2 sSource) sTokens sReferenceWays sTagWays sCommentWays sOut (nm_given n1) hx10 H.size)) ?_
      refine g_aload_n F d_ReferenceWays_named_125 3 rfl ?_
      refine g_get F (v := .ref (z.1 sReferenceWays)) in_X6 3 rfl rfl 2 (by decide) mw_198 rfl d_ReferenceWays_named_126 ?_
      cases hf
      exact g_aret F hr (Or.inl ⟨_, rfl⟩) hlk rfl rfl rfl d_ReferenceWays_named_129
set_option maxHeartbeats 4000000 in
set_option maxRecDepth 100000 in
theorem c_ReferenceWays_unnamed (l : Launch) (D : va_G) (cA : Nat → ClassId) (z : gZ) (ad : Nat → Nat) (sMt : SMt) (sSource : SSource) (sTokens : STokens) (sReferenceWays : SReferenceWays) (sTagWays : STagWays) (sCommentWays : SCommentWays) (sOut : SOut) {x : Nat × SSource × STokens} (hf : f_ReferenceWays_unnamed sReferenceWays sSource sTokens = some x) (sz : Nat) : Met l y_ReferenceWays_unnamed (.code y_ReferenceWays_unnamed b_ReferenceWays_unnamed 3 (some (.object "MarkupTokens$Way")) :: lw_g) { frames := 2, cells := 0, slots := 0, locals := 44 } (gP D (gT cA) z [.ref (ad 3)] (Wc z ad cA sMt sSource sTokens sReferenceWays sTagWays sCommentWays sOut) sz) (gQq D (gT cA) (va_A (Wc z ad cA sMt sSource sTokens sReferenceWays sTagWays sCommentWays sOut) sz) (some (z.1 x.1)) (Wc z ad cA sMt x.2.1 x.2.2 sReferenceWays sTagWays sCommentWays sOut)) 0 0 (va_A (Wc z ad cA sMt sSource sTokens sReferenceWays sTagWays sCommentWays sOut) sz) := by
  refine g_met (by decide) (Nat.le_of_ble_eq_true rfl) rfl ?_
  intro p e s m args below meth c F hr hlk
  have blk10 : ∀ (n : Nat) (v1 : Int32) (v2 : Int32) (tSource : SSource) (tTokens : STokens), f_ReferenceWays_unnamed_10 n v1 v2 sReferenceWays tSource tTokens = some x → GW p l e { frames := 2, cells := 0, slots := 0, locals := 44 } s m args below meth c (gQq D (gT cA) (va_A (Wc z ad cA sMt sSource sTokens sReferenceWays sTagWays sCommentWays sOut) sz) (some (z.1 x.1)) (Wc z ad cA sMt x.2.1 x.2.2 sReferenceWays sTagWays sCommentWays sOut)) D (va_A (Wc z ad cA sMt sSource sTokens sReferenceWays sTagWays sCommentWays sOut) sz) 3 (Wc z ad cA sMt tSource tTokens sReferenceWays sTagWays sCommentWays sOut) 10 [(0, .ref (ad 3)), (1, .int v1), (2, .int v2)] [] := by
    intro n
    induction n with
    | zero => intro _ _ _ _ hf; cases hf
    | succ n ih =>
      intro v1 v2 tSource tTokens hf
      rw [f_ReferenceWays_unnamed_10] at hf
      refine g_iload_n F d_ReferenceWays_unnamed_10 2 rfl ?_
      refine g_sipush F (v := 400) d_ReferenceWays_unnamed_11 (by decide) ?_
      refine g_icmp_ge F (tgt := 44) d_ReferenceWays_unnamed_14 (by decide) (fun h => ?_) (fun h => ?_)
      · rw [if_pos h] at hf
        refine g_aload_n F d_ReferenceWays_unnamed_44 0 rfl ?_
        refine g_iload_n F d_ReferenceWays_unnamed_45 1 rfl ?_
        obtain ⟨x1, hx1, hf⟩ := g_bind hf
        refine g_cv F (ws' := (Wc z ad cA sMt tSource x1 sReferenceWays sTagWays sCommentWays sOut)) (fun H locs ls hP hD hS hl => g_runV F (As := [.int v1]) (n := 1) mw_543 rfl rfl ⟨by decide, by decide⟩ rfl (by exact Nat.le_of_ble_eq_true rfl) mw_540 mw_542 mw_8 mw_78 (by decide +kernel) d_ReferenceWays_unnamed_46 hP hD hS hl (va_recv F.2.2.2.2.2.1 hP (ci := 3) rfl (q0 := 3) rfl) (c_ReferenceWays_addAsItIs l D cA z ad sMt tSource tTokens sReferenceWays sTagWays sCommentWays sOut v1 hx1 H.size)) ?_
        refine g_aload_n F d_ReferenceWays_unnamed_49 0 rfl ?_
        refine g_getS F (v := .ref (ad 1)) in_X6 3 rfl rfl 0 (by decide) mw_204 mw_205 rfl d_ReferenceWays_unnamed_50 ?_
        obtain ⟨x2, hx2, hf⟩ := g_bind hf
        refine g_ci F (r0 := x2) (ws' := (Wc z ad cA sMt tSource x1 sReferenceWays sTagWays sCommentWays sOut)) (fun H locs ls hP hD hS hl => g_runV F (As := []) (n := 0) mw_363 rfl rfl ⟨by decide, by decide⟩ rfl (by exact Nat.le_of_ble_eq_true rfl) mw_536 mw_361 mw_362 mw_74 (by decide +kernel) d_ReferenceWays_unnamed_53 hP hD hS hl (va_recv F.2.2.2.2.2.1 hP (ci := 1) rfl (q0 := 1) rfl) (c_Source_next l D cA z ad sMt tSource x1 sReferenceWays sTagWays sCommentWays sOut hx2 H.size)) ?_
        refine g_bipush F (v := 59) d_ReferenceWays_unnamed_56 (by decide) ?_
        refine g_icmp_ne F (tgt := 70) d_ReferenceWays_unnamed_58 (by decide) (fun h => ?_) (fun h => ?_)
        · rw [if_neg h] at hf
          refine g_aload_n F d_ReferenceWays_unnamed_70 0 rfl ?_
          refine g_get F (v := .ref (z.1 sReferenceWays)) in_X6 3 rfl rfl 2 (by decide) mw_198 rfl d_ReferenceWays_unnamed_71 ?_
          cases hf
          exact g_aret F hr (Or.inl ⟨_, rfl⟩) hlk rfl rfl rfl d_ReferenceWays_unnamed_74
        · rw [if_pos h] at hf
          refine g_aload_n F d_ReferenceWays_unnamed_61 0 rfl ?_
          refine g_getS F (v := .ref (ad 1)) in_X6 3 rfl rfl 0 (by decide) mw_204 mw_205 rfl d_ReferenceWays_unnamed_62 ?_
          refine g_bipush F (v := 26) d_ReferenceWays_unnamed_65 (by decide) ?_
          obtain ⟨x3, hx3, hf⟩ := g_bind hf
          refine g_cv F (ws' := (Wc z ad cA sMt x3 x1 sReferenceWays sTagWays sCommentWays sOut)) (fun H locs ls hP hD hS hl => g_runV F (As := [.int 26]) (n := 1) mw_408 rfl rfl ⟨by decide, by decide⟩ rfl (by exact Nat.le_of_ble_eq_true rfl) mw_544 mw_406 mw_407 mw_74 (by decide +kernel) d_ReferenceWays_unnamed_67 hP hD hS hl (va_recv F.2.2.2.2.2.1 hP (ci := 1) rfl (q0 := 1) rfl) (c_Source_wrong l D cA z ad sMt tSource x1 sReferenceWays sTagWays sCommentWays sOut 26 hx3 H.size)) ?_
          refine g_aload_n F d_ReferenceWays_unnamed_70 0 rfl ?_
          refine g_get F (v := .ref (z.1 sReferenceWays)) in_X6 3 rfl rfl 2 (by decide) mw_198 rfl d_ReferenceWays_unnamed_71 ?_
          cases hf
          exact g_aret F hr (Or.inl ⟨_, rfl⟩) hlk rfl rfl rfl d_ReferenceWays_unnamed_74
      · rw [if_neg h] at hf
        refine g_aload_n F d_ReferenceWays_unnamed_17 0 rfl ?_
        refine g_getS F (v := .ref (ad 1)) in_X6 3 rfl rfl 0 (by decide) mw_204 mw_205 rfl d_ReferenceWays_unnamed_18 ?_
        obtain ⟨x4, hx4, hf⟩ := g_bind hf
        refine g_ci F (r0 := x4) (ws' := (Wc z ad cA sMt tSource tTokens sReferenceWays sTagWays sCommentWays sOut)) (fun H locs ls hP hD hS hl => g_runV F (As := []) (n := 0) mw_363 rfl rfl ⟨by decide, by decide⟩ rfl (by exact Nat.le_of_ble_eq_true rfl) mw_536 mw_361 mw_362 mw_74 (by decide +kernel) d_ReferenceWays_unnamed_21 hP hD hS hl (va_recv F.2.2.2.2.2.1 hP (ci := 1) rfl (q0 := 1) rfl) (c_Source_next l D cA z ad sMt tSource tTokens sReferenceWays sTagWays sCommentWays sOut hx4 H.size)) ?_
        refine g_ci F (r0 := (f_Mt_isLetterOrDigit x4)) (ws' := (Wc z ad cA sMt tSource tTokens sReferenceWays sTagWays sCommentWays sOut)) (fun H locs ls hP hD hS hl => g_runSN F (As := [.int x4]) (n := 1) mw_456 rfl rfl ⟨by decide, by decide⟩ rfl (by exact Nat.le_of_ble_eq_true rfl) (F.2.2.2.2.2.2.2.2.1 (RX6, 36, y_Mt_isLetterOrDigit) (by decide +kernel)) mw_455 mw_73 (by decide +kernel) d_ReferenceWays_unnamed_24 hP hD hS hl (c_Mt_isLetterOrDigit l D cA z ad sMt tSource tTokens sReferenceWays sTagWays sCommentWays sOut x4 rfl H.size)) ?_
        refine g_if_eq F (tgt := 44) d_ReferenceWays_unnamed_27 (by decide) (fun h => ?_) (fun h => ?_)
        · rw [if_pos h] at hf
          refine g_aload_n F d_ReferenceWays_unnamed_44 0 rfl ?_
          refine g_iload_n F d_ReferenceWays_unnamed_45 1 rfl ?_
          obtain ⟨x5, hx5, hf⟩ := g_bind hf
          refine g_cv F (ws' := (Wc z ad cA sMt tSource x5 sReferenceWays sTagWays sCommentWays sOut)) (fun H locs ls hP hD hS hl => g_runV F (As := [.int v1]) (n := 1) mw_543 rfl rfl ⟨by decide, by decide⟩ rfl (by exact Nat.le_of_ble_eq_true rfl) mw_540 mw_542 mw_8 mw_78 (by decide +kernel) d_ReferenceWays_unnamed_46 hP hD hS hl (va_recv F.2.2.2.2.2.1 hP (ci := 3) rfl (q0 := 3) rfl) (c_ReferenceWays_addAsItIs l D cA z ad sMt tSource tTokens sReferenceWays sTagWays sCommentWays sOut v1 hx5 H.size)) ?_
          refine g_aload_n F d_ReferenceWays_unnamed_49 0 rfl ?_
          refine g_getS F (v := .ref (ad 1)) in_X6 3 rfl rfl 0 (by decide) mw_204 mw_205 rfl d_ReferenceWays_unnamed_50 ?_
          obtain ⟨x6, hx6, hf⟩ := g_bind hf
          refine g_ci F (r0 := x6) (ws' := (Wc z ad cA sMt tSource x5 sReferenceWays sTagWays sCommentWays sOut)) (fun H locs ls hP hD hS hl => g_runV F (As := []) (n := 0) mw_363 rfl rfl ⟨by decide, by decide⟩ rfl (by exact Nat.le_of_ble_eq_true rfl) mw_536 mw_361 mw_362 mw_74 (by decide +kernel) d_ReferenceWays_unnamed_53 hP hD hS hl (va_recv F.2.2.2.2.2.1 hP (ci := 1) rfl (q0 := 1) rfl) (c_Source_next l D cA z ad sMt tSource x5 sReferenceWays sTagWays sCommentWays sOut hx6 H.size)) ?_
          refine g_bipush F (v := 59) d_ReferenceWays_unnamed_56 (by decide) ?_
          refine g_icmp_ne F (tgt := 70) d_ReferenceWays_unnamed_58 (by decide) (fun h => ?_) (fun h => ?_)
          · rw [if_neg h] at hf
            refine g_aload_n F d_ReferenceWays_unnamed_70 0 rfl ?_
            refine g_get F (v := .ref (z.1 sReferenceWays)) in_X6 3 rfl rfl 2 (by decide) mw_198 rfl d_ReferenceWays_unnamed_71 ?_
            cases hf
            exact g_aret F hr (Or.inl ⟨_, rfl⟩) hlk rfl rfl rfl d_ReferenceWays_unnamed_74
          · rw [if_pos h] at hf
            refine g_aload_n F d_ReferenceWays_unnamed_61 0 rfl ?_
            refine g_getS F (v := .ref (ad 1)) in_X6 3 rfl rfl 0 (by decide) mw_204 mw_205 rfl d_ReferenceWays_unnamed_62 ?_
            refine g_bipush F (v := 26) d_ReferenceWays_unnamed_65 (by decide) ?_
            obtain ⟨x7, hx7, hf⟩ := g_bind hf
            refine g_cv F (ws' := (Wc z ad cA sMt x7 x5 sReferenceWays sTagWays sCommentWays sOut)) (fun H locs ls hP hD hS hl => g_runV F (As := [.int 26]) (n := 1) mw_408 rfl rfl ⟨by decide, by decide⟩ rfl (by exact Nat.le_of_ble_eq_true rfl) mw_544 mw_406 mw_407 mw_74 (by decide +kernel) d_ReferenceWays_unnamed_67 hP hD hS hl (va_recv F.2.2.2.2.2.1 hP (ci := 1) rfl (q0 := 1) rfl) (c_Source_wrong l D cA z ad sMt tSource x5 sReferenceWays sTagWays sCommentWays sOut 26 hx7 H.size)) ?_
            refine g_aload_n F d_ReferenceWays_unnamed_70 0 rfl ?_
            refine g_get F (v := .ref (z.1 sReferenceWays)) in_X6 3 rfl rfl 2 (by decide) mw_198 rfl d_ReferenceWays_unnamed_71 ?_
            cases hf
            exact g_aret F hr (Or.inl ⟨_, rfl⟩) hlk rfl rfl rfl d_ReferenceWays_unnamed_74
        · rw [if_neg h] at hf
          refine g_aload_n F d_ReferenceWays_unnamed_30 0 rfl ?_
          refine g_getS F (v := .ref (ad 1)) in_X6 3 rfl rfl 0 (by decide) mw_204 mw_205 rfl d_ReferenceWays_unnamed_31 ?_
          refine g_iconst F (v := 1) d_ReferenceWays_unnamed_34 (by decide) ?_
          refine g_cv F (ws' := (Wc z ad cA sMt (f_Source_skip 1 tSource) tTokens sReferenceWays sTagWays sCommentWays sOut)) (fun H locs ls hP hD hS hl => g_runV F (As := [.int 1]) (n := 1) mw_533 rfl rfl ⟨by decide, by decide⟩ rfl (by exact Nat.le_of_ble_eq_true rfl) mw_530 mw_531 mw_532 mw_74 (by decide +kernel) d_ReferenceWays_unnamed_35 hP hD hS hl (va_recv F.2.2.2.2.2.1 hP (ci := 1) rfl (q0 := 1) rfl) (c_Source_skip l D cA z ad sMt tSource tTokens sReferenceWays sTagWays sCommentWays sOut 1 rfl H.size)) ?_
          refine g_iinc F (j := 2) (v := (v2 + 1)) (L' := [(2, .int (v2 + 1)), (0, .ref (ad 3)), (1, .int v1)]) d_ReferenceWays_unnamed_38 rfl rfl (by decide) rfl ?_
          refine g_goto F (tgt := 10) d_ReferenceWays_unnamed_41 (by decide) ?_
          refine g_loc [1, 2, 0] rfl ?_
          exact ih v1 (v2 + 1) (f_Source_skip 1 tSource) tTokens hf
  unfold f_ReferenceWays_unnamed at hf
  refine g_aload_n F d_ReferenceWays_unnamed_0 0 rfl ?_
  refine g_getS F (v := .ref (ad 1)) in_X6 3 rfl rfl 0 (by decide) mw_204 mw_205 rfl d_ReferenceWays_unnamed_1 ?_
  refine g_ci F (r0 := (f_Source_place sSource)) (ws' := (Wc z ad cA sMt sSource sTokens sReferenceWays sTagWays sCommentWays sOut)) (fun H locs ls hP hD hS hl => g_runV F (As := []) (n := 0) mw_474 rfl rfl ⟨by decide, by decide⟩ rfl (by exact Nat.le_of_ble_eq_true rfl) mw_471 mw_472 mw_473 mw_74 (by decide +kernel) d_ReferenceWays_unnamed_4 hP hD hS hl (va_recv F.2.2.2.2.2.1 hP (ci := 1) rfl (q0 := 1) rfl) (c_Source_place l D cA z ad sMt sSource sTokens sReferenceWays sTagWays sCommentWays sOut rfl H.size)) ?_
  refine g_istore_n F (L' := [(1, .int (f_Source_place sSource)), (0, .ref (ad 3))]) d_ReferenceWays_unnamed_7 rfl (by decide) rfl ?_
  refine g_iconst F (v := 0) d_ReferenceWays_unnamed_8 (by decide) ?_
  refine g_istore_n F (L' := [(2, .int 0), (1, .int (f_Source_place sSource)), (0, .ref (ad 3))]) d_ReferenceWays_unnamed_9 rfl (by decide) rfl ?_
  refine g_loc [2, 1, 0] rfl ?_
  exact blk10 FU (f_Source_place sSource) 0 sSource sTokens hf
set_option maxHeartbeats 4000000 in
set_option maxRecDepth 100000 in
theorem c_Mt_lowered (l : Launch) (D : va_G) (cA : Nat → ClassId) (z : gZ) (ad : Nat → Nat) (sMt : SMt) (sSource : SSource) (sTokens : STokens) (sReferenceWays : SReferenceWays) (sTagWays : STagWays) (sCommentWays : SCommentWays) (sOut : SOut) (a1 : Int32) {x : Int32} (hf : f_Mt_lowered a1 = x) (sz : Nat) : Met l y_Mt_lowered (.code y_Mt_lowered b_Mt_lowered 1 (some .int) :: lw_g) { frames := 0, cells := 0, slots := 0, locals := 0 } (gP D (gT cA) z [.int a1] (Wc z ad cA sMt sSource sTokens sReferenceWays sTagWays sCommentWays sOut) sz) (gQi D (gT cA) (va_A (Wc z ad cA sMt sSource sTokens sReferenceWays sTagWays sCommentWays sOut) sz) x (Wc z ad cA sMt sSource sTokens sReferenceWays sTagWays sCommentWays sOut)) 0 0 (va_A (Wc z ad cA sMt sSource sTokens sReferenceWays sTagWays sCommentWays sOut) sz) := by
  refine g_met (by decide) (Nat.le_of_ble_eq_true rfl) rfl ?_
  intro p e s m args below meth c F hr hlk
  unfold f_Mt_lowered at hf
  refine g_iload_n F d_Mt_lowered_0 0 rfl ?_
  refine g_bipush F (v := 65) d_Mt_lowered_1 (by decide) ?_
  refine g_icmp_lt F (tgt := 19) d_Mt_lowered_3 (by decide) (fun h => ?_) (fun h => ?_)
  · rw [if_pos h] at hf
    refine g_iload_n F d_Mt_lowered_19 0 rfl ?_
    subst hf
    exact g_iret F hr hlk rfl rfl rfl d_Mt_lowered_20
  · rw [if_neg h] at hf
    refine g_iload_n F d_Mt_lowered_6 0 rfl ?_
    refine g_bipush F (v := 90) d_Mt_lowered_7 (by decide) ?_
    refine g_icmp_gt F (tgt := 19) d_Mt_lowered_9 (by decide) (fun h => ?_) (fun h => ?_)
    · rw [if_pos h] at hf
      refine g_iload_n F d_Mt_lowered_19 0 rfl ?_
      subst hf
      exact g_iret F hr hlk rfl rfl rfl d_Mt_lowered_20
    · rw [if_neg h] at hf
      refine g_iload_n F d_Mt_lowered_12 0 rfl ?_
      refine g_bipush F (v := 32) d_Mt_lowered_13 (by decide) ?_
      refine g_iadd F d_Mt_lowered_15 ?_
      refine g_goto F (tgt := 20) d_Mt_lowered_16 (by decide) ?_
      subst hf
      exact g_iret F hr hlk rfl rfl rfl d_Mt_lowered_20
set_option maxHeartbeats 4000000 in
set_option maxRecDepth 100000 in
theorem c_ReferenceWays_digitOf (l : Launch) (D : va_G) (cA : Nat → ClassId) (z : gZ) (ad : Nat → Nat) (sMt : SMt) (sSource : SSource) (sTokens : STokens) (sReferenceWays : SReferenceWays) (sTagWays : STagWays) (sCommentWays : SCommentWays) (sOut : SOut) (a1 : Int32) {x : Int32} (hf : f_ReferenceWays_digitOf a1 = x) (sz : Nat) : Met l y_ReferenceWays_digitOf (.code y_ReferenceWays_digitOf b_ReferenceWays_digitOf 2 (some .int) :: lw_g) { frames := 1, cells := 0, slots := 0, locals := 20 } (gP D (gT cA) z [.int a1] (Wc z ad cA sMt sSource sTokens sReferenceWays sTagWays sCommentWays sOut) sz) (gQi D (gT cA) (va_A (Wc z ad cA sMt sSource sTokens sReferenceWays sTagWays sCommentWays sOut) sz) x (Wc z ad cA sMt sSource sTokens sReferenceWays sTagWays sCommentWays sOut)) 0 0 (va_A (Wc z ad cA sMt sSource sTokens sReferenceWays sTagWays sCommentWays sOut) sz) := by
  refine g_met (by decide) (Nat.le_of_ble_eq_true rfl) rfl ?_
  intro p e s m args below meth c F hr hlk
  unfold f_ReferenceWays_digitOf at hf
  refine g_iload_n F d_ReferenceWays_digitOf_0 0 rfl ?_
  refine g_bipush F (v := 48) d_ReferenceWays_digitOf_1 (by decide) ?_
  refine g_icmp_lt F (tgt := 17) d_ReferenceWays_digitOf_3 (by decide) (fun h => ?_) (fun h => ?_)
  · rw [if_pos h] at hf
    refine g_iload_n F d_ReferenceWays_digitOf_17 0 rfl ?_
    refine g_ci F (r0 := (f_Mt_lowered a1)) (ws' := (Wc z ad cA sMt sSource sTokens sReferenceWays sTagWays sCommentWays sOut)) (fun H locs ls hP hD hS hl => g_runSN F (As := [.int a1]) (n := 1) mw_555 rfl rfl ⟨by decide, by decide⟩ rfl (by exact Nat.le_of_ble_eq_true rfl) (F.2.2.2.2.2.2.2.2.1 (RX6, 97, y_Mt_lowered) (by decide +kernel)) mw_554 mw_73 (by decide +kernel) d_ReferenceWays_digitOf_18 hP hD hS hl (c_Mt_lowered l D cA z ad sMt sSource sTokens sReferenceWays sTagWays sCommentWays sOut a1 rfl H.size)) ?_
    refine g_istore_n F (L' := [(1, .int (f_Mt_lowered a1)), (0, .int a1)]) d_ReferenceWays_digitOf_21 rfl (by decide) rfl ?_
    refine g_iload_n F d_ReferenceWays_digitOf_22 0 rfl ?_
    refine g_bipush F (v := 97) d_ReferenceWays_digitOf_23 (by decide) ?_
    refine g_icmp_lt F (tgt := 44) d_ReferenceWays_digitOf_25 (by decide) (fun h => ?_) (fun h => ?_)
    · rw [if_pos h] at hf
      refine g_bipush F (v := 16) d_ReferenceWays_digitOf_44 (by decide) ?_
      subst hf
      exact g_iret F hr hlk rfl rfl rfl d_ReferenceWays_digitOf_46
    · rw [if_neg h] at hf
      refine g_iload_n F d_ReferenceWays_digitOf_28 0 rfl ?_
      refine g_bipush F (v := 102) d_ReferenceWays_digitOf_29 (by decide) ?_
      refine g_icmp_gt F (tgt := 44) d_ReferenceWays_digitOf_31 (by decide) (fun h => ?_) (fun h => ?_)
      · rw [if_pos h] at hf
        refine g_bipush F (v := 16) d_ReferenceWays_digitOf_44 (by decide) ?_
        subst hf
        exact g_iret F hr hlk rfl rfl rfl d_ReferenceWays_digitOf_46
      · rw [if_neg h] at hf
        refine g_iload_n F d_ReferenceWays_digitOf_34 0 rfl ?_
        refine g_bipush F (v := 97) d_ReferenceWays_digitOf_35 (by decide) ?_
        refine g_isub F d_ReferenceWays_digitOf_37 ?_
        refine g_bipush F (v := 10) d_ReferenceWays_digitOf_38 (by decide) ?_
        refine g_iadd F d_ReferenceWays_digitOf_40 ?_
        refine g_goto F (tgt := 46) d_ReferenceWays_digitOf_41 (by decide) ?_
        subst hf
        exact g_iret F hr hlk rfl rfl rfl d_ReferenceWays_digitOf_46
  · rw [if_neg h] at hf
    refine g_iload_n F d_ReferenceWays_digitOf_6 0 rfl ?_
    refine g_bipush F (v := 57) d_ReferenceWays_digitOf_7 (by decide) ?_
    refine g_icmp_gt F (tgt := 17) d_ReferenceWays_digitOf_9 (by decide) (fun h => ?_) (fun h => ?_)
    · rw [if_pos h] at hf
      refine g_iload_n F d_ReferenceWays_digitOf_17 0 rfl ?_
      refine g_ci F (r0 := (f_Mt_lowered a1)) (ws' := (Wc z ad cA sMt sSource sTokens sReferenceWays sTagWays sCommentWays sOut)) (fun H locs ls hP hD hS hl => g_runSN F (As := [.int a1]) (n := 1) mw_555 rfl rfl ⟨by decide, by decide⟩ rfl (by exact Nat.le_of_ble_eq_true rfl) (F.2.2.2.2.2.2.2.2.1 (RX6, 97, y_Mt_lowered) (by decide +kernel)) mw_554 mw_73 (by decide +kernel) d_ReferenceWays_digitOf_18 hP hD hS hl (c_Mt_lowered l D cA z ad sMt sSource sTokens sReferenceWays sTagWays sCommentWays sOut a1 rfl H.size)) ?_
      refine g_istore_n F (L' := [(1, .int (f_Mt_lowered a1)), (0, .int a1)]) d_ReferenceWays_digitOf_21 rfl (by decide) rfl ?_
      refine g_iload_n F d_ReferenceWays_digitOf_22 0 rfl ?_
      refine g_bipush F (v := 97) d_ReferenceWays_digitOf_23 (by decide) ?_
      refine g_icmp_lt F (tgt := 44) d_ReferenceWays_digitOf_25 (by decide) (fun h => ?_) (fun h => ?_)
      · rw [if_pos h] at hf
        refine g_bipush F (v := 16) d_ReferenceWays_digitOf_44 (by decide) ?_
        subst hf
        exact g_iret F hr hlk rfl rfl rfl d_ReferenceWays_digitOf_46
      · rw [if_neg h] at hf
        refine g_iload_n F d_ReferenceWays_digitOf_28 0 rfl ?_
        refine g_bipush F (v := 102) d_ReferenceWays_digitOf_29 (by decide) ?_
        refine g_icmp_gt F (tgt := 44) d_ReferenceWays_digitOf_31 (by decide) (fun h => ?_) (fun h => ?_)
        · rw [if_pos h] at hf
          refine g_bipush F (v := 16) d_ReferenceWays_digitOf_44 (by decide) ?_
          subst hf
          exact g_iret F hr hlk rfl rfl rfl d_ReferenceWays_digitOf_46
        · rw [if_neg h] at hf
          refine g_iload_n F d_ReferenceWays_digitOf_34 0 rfl ?_
          refine g_bipush F (v := 97) d_ReferenceWays_digitOf_35 (by decide) ?_
          refine g_isub F d_ReferenceWays_digitOf_37 ?_
          refine g_bipush F (v := 10) d_ReferenceWays_digitOf_38 (by decide) ?_
          refine g_iadd F d_ReferenceWays_digitOf_40 ?_
          refine g_goto F (tgt := 46) d_ReferenceWays_digitOf_41 (by decide) ?_
          subst hf
          exact g_iret F hr hlk rfl rfl rfl d_ReferenceWays_digitOf_46
    · rw [if_neg h] at hf
      refine g_iload_n F d_ReferenceWays_digitOf_12 0 rfl ?_
      refine g_bipush F (v := 48) d_ReferenceWays_digitOf_13 (by decide) ?_
      refine g_isub F d_ReferenceWays_digitOf_15 ?_
      subst hf
      exact g_iret F hr hlk rfl rfl rfl d_ReferenceWays_digitOf_16
set_option maxHeartbeats 4000000 in
set_option maxRecDepth 100000 in
theorem c_ReferenceWays_readDigits (l : Launch) (D : va_G) (cA : Nat → ClassId) (z : gZ) (ad : Nat → Nat) (sMt : SMt) (sSource : SSource) (sTokens : STokens) (sReferenceWays : SReferenceWays) (sTagWays : STagWays) (sCommentWays : SCommentWays) (sOut : SOut) (a1 : Int32) {x : Int32 × SSource} (hf : f_ReferenceWays_readDigits a1 sSource = some x) (sz : Nat) : Met l y_ReferenceWays_readDigits (.code y_ReferenceWays_readDigits b_ReferenceWays_readDigits 5 (some .int) :: lw_g) { frames := 2, cells := 0, slots := 0, locals := 42 } (gP D (gT cA) z [.ref (ad 3), .int a1] (Wc z ad cA sMt sSource sTokens sReferenceWays sTagWays sCommentWays sOut) sz) (gQi D (gT cA) (va_A (Wc z ad cA sMt sSource sTokens sReferenceWays sTagWays sCommentWays sOut) sz) x.1 (Wc z ad cA sMt x.2 sTokens sReferenceWays sTagWays sCommentWays sOut)) 0 0 (va_A (Wc z ad cA sMt sSource sTokens sReferenceWays sTagWays sCommentWays sOut) sz) := by
  refine g_met (by decide) (Nat.le_of_ble_eq_true rfl) rfl ?_
  intro p e s m args below meth c F hr hlk
  have blk4 : ∀ (n : Nat) (v1 : Int32) (v2 : Int32) (v3 : Int32) (tSource : SSource), f_ReferenceWays_readDigits_4 n v1 v2 v3 tSource = some x → GW p l e { frames := 2, cells := 0, slots := 0, locals := 42 } s m args below meth c (gQi D (gT cA) (va_A (Wc z ad cA sMt sSource sTokens sReferenceWays sTagWays sCommentWays sOut) sz) x.1 (Wc z ad cA sMt x.2 sTokens sReferenceWays sTagWays sCommentWays sOut)) D (va_A (Wc z ad cA sMt sSource sTokens sReferenceWays sTagWays sCommentWays sOut) sz) 5 (Wc z ad cA sMt tSource sTokens sReferenceWays sTagWays sCommentWays sOut) 4 [(0, .ref (ad 3)), (1, .int v1), (2, .int v2), (3, .int v3)] [] := by
    intro n
    induction n with
    | zero => intro _ _ _ _ hf; cases hf
    | succ n ih =>
      intro v1 v2 v3 tSource hf
      rw [f_ReferenceWays_readDigits_4] at hf
      refine g_iload_n F d_ReferenceWays_readDigits_4 3 rfl ?_
      refine g_sipush F (v := 400) d_ReferenceWays_readDigits_5 (by decide) ?_
      refine g_icmp_ge F (tgt := 58) d_ReferenceWays_readDigits_8 (by decide) (fun h => ?_) (fun h => ?_)
      · rw [if_pos h] at hf
        refine g_iload_n F d_ReferenceWays_readDigits_58 2 rfl ?_
        cases hf
        exact g_iret F hr hlk rfl rfl rfl d_ReferenceWays_readDigits_59
      · rw [if_neg h] at hf
        refine g_aload_n F d_ReferenceWays_readDigits_11 0 rfl ?_
        refine g_getS F (v := .ref (ad 1)) in_X6 3 rfl rfl 0 (by decide) mw_204 mw_205 rfl d_ReferenceWays_readDigits_12 ?_
        obtain ⟨x1, hx1, hf⟩ := g_bind hf
        refine g_ci F (r0 := x1) (ws' := (Wc z ad cA sMt tSource sTokens sReferenceWays sTagWays sCommentWays sOut)) (fun H locs ls hP hD hS hl => g_runV F (As := []) (n := 0) mw_363 rfl rfl ⟨by decide, by decide⟩ rfl (by exact Nat.le_of_ble_eq_true rfl) mw_536 mw_361 mw_362 mw_74 (by decide +kernel) d_ReferenceWays_readDigits_15 hP hD hS hl (va_recv F.2.2.2.2.2.1 hP (ci := 1) rfl (q0 := 1) rfl) (c_Source_next l D cA z ad sMt tSource sTokens sReferenceWays sTagWays sCommentWays sOut hx1 H.size)) ?_
        refine g_ci F (r0 := (f_ReferenceWays_digitOf x1)) (ws' := (Wc z ad cA sMt tSource sTokens sReferenceWays sTagWays sCommentWays sOut)) (fun H locs ls hP hD hS hl => g_runS F (As := [.int x1]) (n := 1) mw_562 rfl rfl ⟨by decide, by decide⟩ rfl (by exact Nat.le_of_ble_eq_true rfl) mw_560 mw_561 mw_78 (by decide +kernel) d_ReferenceWays_readDigits_18 hP hD hS hl (c_ReferenceWays_digitOf l D cA z ad sMt tSource sTokens sReferenceWays sTagWays sCommentWays sOut x1 rfl H.size)) ?_
        refine g_istore F (L' := [(4, .int (f_ReferenceWays_digitOf x1)), (0, .ref (ad 3)), (1, .int v1), (2, .int v2), (3, .int v3)]) d_ReferenceWays_readDigits_21 (by decide) rfl ?_
        refine g_iload F d_ReferenceWays_readDigits_23 0 rfl ?_
        refine g_iload_n F d_ReferenceWays_readDigits_25 2 rfl ?_
        refine g_icmp_lt F (tgt := 32) d_ReferenceWays_readDigits_26 (by decide) (fun h => ?_) (fun h => ?_)
        · rw [if_pos h] at hf
          refine g_iload_n F d_ReferenceWays_readDigits_32 3 rfl ?_
          refine g_iload_n F d_ReferenceWays_readDigits_33 2 rfl ?_
          refine g_imul F d_ReferenceWays_readDigits_34 ?_
          refine g_iload F d_ReferenceWays_readDigits_35 0 rfl ?_
          refine g_iadd F d_ReferenceWays_readDigits_37 ?_
          refine g_ldc F (v := 1114112) mw_563 d_ReferenceWays_readDigits_38 ?_
          refine g_mmin F mw_564 mw_335 mw_86 mw_336 (by decide) (by exact Nat.le_of_ble_eq_true rfl) d_ReferenceWays_readDigits_40 ?_
          refine g_istore_n F (L' := [(2, .int (if 1114112 < ((v2 * v1) + (f_ReferenceWays_digitOf x1)) then 1114112 else ((v2 * v1) + (f_ReferenceWays_digitOf x1)))), (4, .int (f_ReferenceWays_digitOf x1)), (0, .ref (ad 3)), (1, .int v1), (3, .int v3)]) d_ReferenceWays_readDigits_43 rfl (by decide) rfl ?_
          refine g_aload_n F d_ReferenceWays_readDigits_44 2 rfl ?_
          refine g_getS F (v := .ref (ad 1)) in_X6 3 rfl rfl 0 (by decide) mw_204 mw_205 rfl d_ReferenceWays_readDigits_45 ?_
          refine g_iconst F (v := 1) d_ReferenceWays_readDigits_48 (by decide) ?_
          refine g_cv F (ws' := (Wc z ad cA sMt (f_Source_skip 1 tSource) sTokens sReferenceWays sTagWays sCommentWays sOut)) (fun H locs ls hP hD hS hl => g_runV F (As := [.int 1]) (n := 1) mw_533 rfl rfl ⟨by decide, by decide⟩ rfl (by exact Nat.le_of_ble_eq_true rfl) mw_530 mw_531 mw_532 mw_74 (by decide +kernel) d_ReferenceWays_readDigits_49 hP hD hS hl (va_recv F.2.2.2.2.2.1 hP (ci := 1) rfl (q0 := 1) rfl) (c_Source_skip l D cA z ad sMt tSource sTokens sReferenceWays sTagWays sCommentWays sOut 1 rfl H.size)) ?_
          refine g_iinc F (j := 4) (v := (v3 + 1)) (L' := [(3, .int (v3 + 1)), (2, .int (if 1114112 < ((v2 * v1) + (f_ReferenceWays_digitOf x1)) then 1114112 else ((v2 * v1) + (f_ReferenceWays_digitOf x1)))), (4, .int (f_ReferenceWays_digitOf x1)), (0, .ref (ad 3)), (1, .int v1)]) d_ReferenceWays_readDigits_52 rfl rfl (by decide) rfl ?_
          refine g_goto F (tgt := 4) d_ReferenceWays_readDigits_55 (by decide) ?_
          refine g_loc [3, 4, 1, 0] rfl ?_
          exact ih v1 (if 1114112 < ((v2 * v1) + (f_ReferenceWays_digitOf x1)) then 1114112 else ((v2 * v1) + (f_ReferenceWays_digitOf x1))) (v3 + 1) (f_Source_skip 1 tSource) hf
        · rw [if_neg h] at hf
          refine g_goto F (tgt := 58) d_ReferenceWays_readDigits_29 (by decide) ?_
          refine g_iload_n F d_ReferenceWays_readDigits_58 3 rfl ?_
          cases hf
          exact g_iret F hr hlk rfl rfl rfl d_ReferenceWays_readDigits_59
  unfold f_ReferenceWays_readDigits at hf
  refine g_iconst F (v := 0) d_ReferenceWays_readDigits_0 (by decide) ?_
  refine g_istore_n F (L' := [(2, .int 0), (0, .ref (ad 3)), (1, .int a1)]) d_ReferenceWays_readDigits_1 rfl (by decide) rfl ?_
  refine g_iconst F (v := 0) d_ReferenceWays_readDigits_2 (by decide) ?_
  refine g_istore_n F (L' := [(3, .int 0), (2, .int 0), (0, .ref (ad 3)), (1, .int a1)]) d_ReferenceWays_readDigits_3 rfl (by decide) rfl ?_
  refine g_loc [2, 3, 1, 0] rfl ?_
  exact blk4 FU a1 0 0 sSource hf
