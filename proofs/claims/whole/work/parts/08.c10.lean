set_option maxHeartbeats 4000000 in
set_option maxRecDepth 100000 in
theorem c_Reader_cut (l : Launch) (D : va_G) (cA : Nat → ClassId) (z : gZ) (ad : Nat → Nat) (sMt : SMt) (sSource : SSource) (sTokens : STokens) (sReferenceWays : SReferenceWays) (sTagWays : STagWays) (sCommentWays : SCommentWays) (sOut : SOut) {x : SCommentWays × SReferenceWays × SSource × STagWays × STokens} (hf : f_Reader_cut sCommentWays sReferenceWays sSource sTagWays sTokens = some x) (sz : Nat) : Met l y_Reader_cut (.code y_Reader_cut b_Reader_cut 3 none :: lw_g) { frames := 10, cells := 0, slots := 0, locals := 246 } (gP D (gT cA) z [.ref (ad 7)] (Wc z ad cA sMt sSource sTokens sReferenceWays sTagWays sCommentWays sOut) sz) (gQv D (gT cA) (va_A (Wc z ad cA sMt sSource sTokens sReferenceWays sTagWays sCommentWays sOut) sz) (Wc z ad cA sMt x.2.2.1 x.2.2.2.2 x.2.1 x.2.2.2.1 x.1 sOut)) 0 0 (va_A (Wc z ad cA sMt sSource sTokens sReferenceWays sTagWays sCommentWays sOut) sz) := by
  refine g_met (by decide) (Nat.le_of_ble_eq_true rfl) rfl ?_
  intro p e s m args below meth c F hr hlk
  have blk6 : ∀ (n : Nat) (v1 : Nat) (v2 : Int32) (tCommentWays : SCommentWays) (tReferenceWays : SReferenceWays) (tSource : SSource) (tTagWays : STagWays) (tTokens : STokens), f_Reader_cut_6 n v1 v2 tCommentWays tReferenceWays tSource tTagWays tTokens = some x → GW p l e { frames := 10, cells := 0, slots := 0, locals := 246 } s m args below meth c (gQv D (gT cA) (va_A (Wc z ad cA sMt sSource sTokens sReferenceWays sTagWays sCommentWays sOut) sz) (Wc z ad cA sMt x.2.2.1 x.2.2.2.2 x.2.1 x.2.2.2.1 x.1 sOut)) D (va_A (Wc z ad cA sMt sSource sTokens sReferenceWays sTagWays sCommentWays sOut) sz) 3 (Wc z ad cA sMt tSource tTokens tReferenceWays tTagWays tCommentWays sOut) 6 [(0, .ref (ad 7)), (1, .ref (z.1 v1)), (2, .int v2)] [] := by
    intro n
    induction n with
    | zero => intro _ _ _ _ _ _ _ hf; cases hf
    | succ n ih =>
      intro v1 v2 tCommentWays tReferenceWays tSource tTagWays tTokens hf
      rw [f_Reader_cut_6] at hf
      refine g_iload_n F d_Reader_cut_6 2 rfl ?_
      refine g_ldc F (v := 100000) mw_357 d_Reader_cut_7 ?_
      refine g_icmp_ge F (tgt := 38) d_Reader_cut_9 (by decide) (fun h => ?_) (fun h => ?_)
      · rw [if_pos h] at hf
        refine g_aload_n F d_Reader_cut_38 0 rfl ?_
        refine g_getS F (v := .ref (ad 2)) in_X5 7 rfl rfl 1 (by decide) mw_213 mw_214 rfl d_Reader_cut_39 ?_
        obtain ⟨x1, hx1, hf⟩ := g_bind hf
        refine g_cv F (ws' := (Wc z ad cA sMt tSource x1 tReferenceWays tTagWays tCommentWays sOut)) (fun H locs ls hP hD hS hl => g_runV F (As := []) (n := 0) mw_431 rfl rfl ⟨by decide, by decide⟩ rfl (by exact Nat.le_of_ble_eq_true rfl) mw_875 mw_429 mw_430 mw_75 (by decide +kernel) d_Reader_cut_42 hP hD hS hl (va_recv F.2.2.2.2.2.1 hP (ci := 2) rfl (q0 := 2) rfl) (c_Tokens_endText l D cA z ad sMt tSource tTokens tReferenceWays tTagWays tCommentWays sOut hx1 H.size)) ?_
        cases hf
        exact g_vret F hr hlk rfl rfl d_Reader_cut_45
      · rw [if_neg h] at hf
        refine g_aload_n F d_Reader_cut_12 1 rfl ?_
        refine g_way F 29 (by decide) mw_358 d_Reader_cut_13 ?_
        obtain ⟨k1, hf⟩ := g_chk hf
        refine g_acmp_eq F (x := v1) (y := 29) (tgt := 38) k1 (by decide) d_Reader_cut_16 (by decide) (fun h => ?_) (fun h => ?_)
        · rw [if_pos h] at hf
          refine g_aload_n F d_Reader_cut_38 0 rfl ?_
          refine g_getS F (v := .ref (ad 2)) in_X5 7 rfl rfl 1 (by decide) mw_213 mw_214 rfl d_Reader_cut_39 ?_
          obtain ⟨x2, hx2, hf⟩ := g_bind hf
          refine g_cv F (ws' := (Wc z ad cA sMt tSource x2 tReferenceWays tTagWays tCommentWays sOut)) (fun H locs ls hP hD hS hl => g_runV F (As := []) (n := 0) mw_431 rfl rfl ⟨by decide, by decide⟩ rfl (by exact Nat.le_of_ble_eq_true rfl) mw_875 mw_429 mw_430 mw_75 (by decide +kernel) d_Reader_cut_42 hP hD hS hl (va_recv F.2.2.2.2.2.1 hP (ci := 2) rfl (q0 := 2) rfl) (c_Tokens_endText l D cA z ad sMt tSource tTokens tReferenceWays tTagWays tCommentWays sOut hx2 H.size)) ?_
          cases hf
          exact g_vret F hr hlk rfl rfl d_Reader_cut_45
        · rw [if_neg h] at hf
          refine g_aload_n F d_Reader_cut_19 0 rfl ?_
          refine g_aload_n F d_Reader_cut_20 1 rfl ?_
          refine g_aload_n F d_Reader_cut_21 0 rfl ?_
          refine g_getS F (v := .ref (ad 1)) in_X5 7 rfl rfl 0 (by decide) mw_206 mw_207 rfl d_Reader_cut_22 ?_
          obtain ⟨x3, hx3, hf⟩ := g_bind hf
          refine g_ci F (r0 := x3) (ws' := (Wc z ad cA sMt tSource tTokens tReferenceWays tTagWays tCommentWays sOut)) (fun H locs ls hP hD hS hl => g_runV F (As := []) (n := 0) mw_363 rfl rfl ⟨by decide, by decide⟩ rfl (by exact Nat.le_of_ble_eq_true rfl) mw_360 mw_361 mw_362 mw_74 (by decide +kernel) d_Reader_cut_25 hP hD hS hl (va_recv F.2.2.2.2.2.1 hP (ci := 1) rfl (q0 := 1) rfl) (c_Source_next l D cA z ad sMt tSource tTokens tReferenceWays tTagWays tCommentWays sOut hx3 H.size)) ?_
          obtain ⟨x4, hx4, hf⟩ := g_bind hf
          refine g_cw F (r0 := z.1 x4.1) (ws' := (Wc z ad cA sMt x4.2.2.2.1 x4.2.2.2.2.2 x4.2.2.1 x4.2.2.2.2.1 x4.2.1 sOut)) (fun H locs ls hP hD hS hl => g_runV F (As := [.ref (z.1 v1), .int x3]) (n := 2) mw_371 rfl rfl ⟨by decide, by decide⟩ rfl (by exact Nat.le_of_ble_eq_true rfl) mw_368 mw_370 mw_0 mw_77 (by decide +kernel) d_Reader_cut_28 hP hD hS hl (va_recv F.2.2.2.2.2.1 hP (ci := 7) rfl (q0 := 7) rfl) (c_Reader_follow l D cA z ad sMt tSource tTokens tReferenceWays tTagWays tCommentWays sOut v1 x3 hx4 H.size)) ?_
          refine g_astore_n F (L' := [(1, .ref (z.1 x4.1)), (0, .ref (ad 7)), (2, .int v2)]) d_Reader_cut_31 rfl (by decide) rfl ?_
          refine g_iinc F (j := 2) (v := (v2 + 1)) (L' := [(2, .int (v2 + 1)), (1, .ref (z.1 x4.1)), (0, .ref (ad 7))]) d_Reader_cut_32 rfl rfl (by decide) rfl ?_
          refine g_goto F (tgt := 6) d_Reader_cut_35 (by decide) ?_
          refine g_loc [2, 1, 0] rfl ?_
          exact ih x4.1 (v2 + 1) x4.2.1 x4.2.2.1 x4.2.2.2.1 x4.2.2.2.2.1 x4.2.2.2.2.2 hf
  unfold f_Reader_cut at hf
  refine g_way F 0 (by decide) mw_356 d_Reader_cut_0 ?_
  refine g_astore_n F (L' := [(1, .ref (z.1 0)), (0, .ref (ad 7))]) d_Reader_cut_3 rfl (by decide) rfl ?_
  refine g_iconst F (v := 0) d_Reader_cut_4 (by decide) ?_
  refine g_istore_n F (L' := [(2, .int 0), (1, .ref (z.1 0)), (0, .ref (ad 7))]) d_Reader_cut_5 rfl (by decide) rfl ?_
  refine g_loc [2, 1, 0] rfl ?_
  exact blk6 FU 0 0 sCommentWays sReferenceWays sSource sTagWays sTokens hf
set_option maxHeartbeats 4000000 in
set_option maxRecDepth 100000 in
theorem c_Tokens_count (l : Launch) (D : va_G) (cA : Nat → ClassId) (z : gZ) (ad : Nat → Nat) (sMt : SMt) (sSource : SSource) (sTokens : STokens) (sReferenceWays : SReferenceWays) (sTagWays : STagWays) (sCommentWays : SCommentWays) (sOut : SOut) {x : Int32} (hf : f_Tokens_count sTokens = x) (sz : Nat) : Met l y_Tokens_count (.code y_Tokens_count b_Tokens_count 1 (some .int) :: lw_g) { frames := 0, cells := 0, slots := 0, locals := 0 } (gP D (gT cA) z [.ref (ad 2)] (Wc z ad cA sMt sSource sTokens sReferenceWays sTagWays sCommentWays sOut) sz) (gQi D (gT cA) (va_A (Wc z ad cA sMt sSource sTokens sReferenceWays sTagWays sCommentWays sOut) sz) x (Wc z ad cA sMt sSource sTokens sReferenceWays sTagWays sCommentWays sOut)) 0 0 (va_A (Wc z ad cA sMt sSource sTokens sReferenceWays sTagWays sCommentWays sOut) sz) := by
  refine g_met (by decide) (Nat.le_of_ble_eq_true rfl) rfl ?_
  intro p e s m args below meth c F hr hlk
  unfold f_Tokens_count at hf
  refine g_aload_n F d_Tokens_count_0 0 rfl ?_
  refine g_get F (v := .int (q_Tokens_count sTokens)) in_X9 2 rfl rfl 8 (by decide) mw_143 rfl d_Tokens_count_1 ?_
  subst hf
  exact g_iret F hr hlk rfl rfl rfl d_Tokens_count_4
set_option maxHeartbeats 4000000 in
set_option maxRecDepth 100000 in
theorem c_Mt_run (l : Launch) (D : va_G) (cA : Nat → ClassId) (z : gZ) (ad : Nat → Nat) (sMt : SMt) (sSource : SSource) (sTokens : STokens) (sReferenceWays : SReferenceWays) (sTagWays : STagWays) (sCommentWays : SCommentWays) (sOut : SOut) {x : Int32 × SCommentWays × SReferenceWays × SSource × STagWays × STokens} (hf : f_Mt_run sMt sCommentWays sReferenceWays sSource sTagWays sTokens = some x) (sz : Nat) : Met l y_Mt_run (.code y_Mt_run b_Mt_run 1 (some .int) :: lw_g) { frames := 11, cells := 0, slots := 0, locals := 268 } (gP D (gT cA) z [.ref (ad 0)] (Wc z ad cA sMt sSource sTokens sReferenceWays sTagWays sCommentWays sOut) sz) (gQi D (gT cA) (va_A (Wc z ad cA sMt sSource sTokens sReferenceWays sTagWays sCommentWays sOut) sz) x.1 (Wc z ad cA sMt x.2.2.2.1 x.2.2.2.2.2 x.2.2.1 x.2.2.2.2.1 x.2.1 sOut)) 0 0 (va_A (Wc z ad cA sMt sSource sTokens sReferenceWays sTagWays sCommentWays sOut) sz) := by
  refine g_met (by decide) (Nat.le_of_ble_eq_true rfl) rfl ?_
  intro p e s m args below meth c F hr hlk
  unfold f_Mt_run at hf
  refine g_aload_n F d_Mt_run_0 0 rfl ?_
  refine g_get F (v := .ref (ad 1)) in_X12 0 rfl rfl 2 (by decide) mw_297 rfl d_Mt_run_1 ?_
  refine g_aload_n F d_Mt_run_4 0 rfl ?_
  refine g_get F (v := .ref (ad 9)) in_X12 0 rfl rfl 0 (by decide) mw_295 rfl d_Mt_run_5 ?_
  refine g_aload_n F d_Mt_run_8 0 rfl ?_
  refine g_get F (v := .int (q_Mt_textLength sMt)) in_X12 0 rfl rfl 1 (by decide) mw_296 rfl d_Mt_run_9 ?_
  obtain ⟨x1, hx1, hf⟩ := g_bind hf
  refine g_cv F (ws' := (Wc z ad cA sMt x1 sTokens sReferenceWays sTagWays sCommentWays sOut)) (fun H locs ls hP hD hS hl => g_runV F (As := [.ref (ad 9), .int (q_Mt_textLength sMt)]) (n := 2) mw_347 rfl rfl ⟨by decide, by decide⟩ rfl (by exact Nat.le_of_ble_eq_true rfl) mw_344 mw_345 mw_346 mw_74 (by decide +kernel) d_Mt_run_12 hP hD hS hl (va_recv F.2.2.2.2.2.1 hP (ci := 1) rfl (q0 := 1) rfl) (c_Source_open l D cA z ad sMt sSource sTokens sReferenceWays sTagWays sCommentWays sOut (q_Mt_textLength sMt) hx1 H.size)) ?_
  refine g_aload_n F d_Mt_run_15 0 rfl ?_
  refine g_get F (v := .ref (ad 2)) in_X12 0 rfl rfl 3 (by decide) mw_298 rfl d_Mt_run_16 ?_
  refine g_cv F (ws' := (Wc z ad cA sMt x1 (f_Tokens_forget sTokens) sReferenceWays sTagWays sCommentWays sOut)) (fun H locs ls hP hD hS hl => g_runV F (As := []) (n := 0) mw_351 rfl rfl ⟨by decide, by decide⟩ rfl (by exact Nat.le_of_ble_eq_true rfl) mw_348 mw_349 mw_350 mw_75 (by decide +kernel) d_Mt_run_19 hP hD hS hl (va_recv F.2.2.2.2.2.1 hP (ci := 2) rfl (q0 := 2) rfl) (c_Tokens_forget l D cA z ad sMt x1 sTokens sReferenceWays sTagWays sCommentWays sOut rfl H.size)) ?_
  refine g_aload_n F d_Mt_run_22 0 rfl ?_
  refine g_get F (v := .ref (ad 7)) in_X12 0 rfl rfl 4 (by decide) mw_299 rfl d_Mt_run_23 ?_
  obtain ⟨x2, hx2, hf⟩ := g_bind hf
  refine g_cv F (ws' := (Wc z ad cA sMt x2.2.2.1 x2.2.2.2.2 x2.2.1 x2.2.2.2.1 x2.1 sOut)) (fun H locs ls hP hD hS hl => g_runV F (As := []) (n := 0) mw_355 rfl rfl ⟨by decide, by decide⟩ rfl (by exact Nat.le_of_ble_eq_true rfl) mw_352 mw_353 mw_354 mw_77 (by decide +kernel) d_Mt_run_26 hP hD hS hl (va_recv F.2.2.2.2.2.1 hP (ci := 7) rfl (q0 := 7) rfl) (c_Reader_cut l D cA z ad sMt x1 (f_Tokens_forget sTokens) sReferenceWays sTagWays sCommentWays sOut hx2 H.size)) ?_
  refine g_aload_n F d_Mt_run_29 0 rfl ?_
  refine g_get F (v := .ref (ad 2)) in_X12 0 rfl rfl 3 (by decide) mw_298 rfl d_Mt_run_30 ?_
  refine g_ci F (r0 := (f_Tokens_count x2.2.2.2.2)) (ws' := (Wc z ad cA sMt x2.2.2.1 x2.2.2.2.2 x2.2.1 x2.2.2.2.1 x2.1 sOut)) (fun H locs ls hP hD hS hl => g_runV F (As := []) (n := 0) mw_879 rfl rfl ⟨by decide, by decide⟩ rfl (by exact Nat.le_of_ble_eq_true rfl) mw_876 mw_877 mw_878 mw_75 (by decide +kernel) d_Mt_run_33 hP hD hS hl (va_recv F.2.2.2.2.2.1 hP (ci := 2) rfl (q0 := 2) rfl) (c_Tokens_count l D cA z ad sMt x2.2.2.1 x2.2.2.2.2 x2.2.1 x2.2.2.2.1 x2.1 sOut rfl H.size)) ?_
  cases hf
  exact g_iret F hr hlk rfl rfl rfl d_Mt_run_36
set_option maxHeartbeats 4000000 in
set_option maxRecDepth 100000 in
theorem c_Tokens_has (l : Launch) (D : va_G) (cA : Nat → ClassId) (z : gZ) (ad : Nat → Nat) (sMt : SMt) (sSource : SSource) (sTokens : STokens) (sReferenceWays : SReferenceWays) (sTagWays : STagWays) (sCommentWays : SCommentWays) (sOut : SOut) (a1 : Int32) {x : Int32} (hf : f_Tokens_has a1 sTokens = x) (sz : Nat) : Met l y_Tokens_has (.code y_Tokens_has b_Tokens_has 2 (some .boolean) :: lw_g) { frames := 0, cells := 0, slots := 0, locals := 0 } (gP D (gT cA) z [.ref (ad 2), .int a1] (Wc z ad cA sMt sSource sTokens sReferenceWays sTagWays sCommentWays sOut) sz) (gQi D (gT cA) (va_A (Wc z ad cA sMt sSource sTokens sReferenceWays sTagWays sCommentWays sOut) sz) x (Wc z ad cA sMt sSource sTokens sReferenceWays sTagWays sCommentWays sOut)) 0 0 (va_A (Wc z ad cA sMt sSource sTokens sReferenceWays sTagWays sCommentWays sOut) sz) := by
  refine g_met (by decide) (Nat.le_of_ble_eq_true rfl) rfl ?_
  intro p e s m args below meth c F hr hlk
  unfold f_Tokens_has at hf
  refine g_iload_n F d_Tokens_has_0 1 rfl ?_
  refine g_if_lt F (tgt := 16) d_Tokens_has_1 (by decide) (fun h => ?_) (fun h => ?_)
  · rw [if_pos h] at hf
    refine g_iconst F (v := 0) d_Tokens_has_16 (by decide) ?_
    subst hf
    exact g_zret F hr rfl hlk rfl rfl rfl d_Tokens_has_17
  · rw [if_neg h] at hf
    refine g_iload_n F d_Tokens_has_4 1 rfl ?_
    refine g_aload_n F d_Tokens_has_5 0 rfl ?_
    refine g_get F (v := .int (q_Tokens_count sTokens)) in_X9 2 rfl rfl 8 (by decide) mw_143 rfl d_Tokens_has_6 ?_
    refine g_icmp_ge F (tgt := 16) d_Tokens_has_9 (by decide) (fun h => ?_) (fun h => ?_)
    · rw [if_pos h] at hf
      refine g_iconst F (v := 0) d_Tokens_has_16 (by decide) ?_
      subst hf
      exact g_zret F hr rfl hlk rfl rfl rfl d_Tokens_has_17
    · rw [if_neg h] at hf
      refine g_iconst F (v := 1) d_Tokens_has_12 (by decide) ?_
      refine g_goto F (tgt := 17) d_Tokens_has_13 (by decide) ?_
      subst hf
      exact g_zret F hr rfl hlk rfl rfl rfl d_Tokens_has_17
set_option maxHeartbeats 4000000 in
set_option maxRecDepth 100000 in
theorem c_Tokens_kind (l : Launch) (D : va_G) (cA : Nat → ClassId) (z : gZ) (ad : Nat → Nat) (sMt : SMt) (sSource : SSource) (sTokens : STokens) (sReferenceWays : SReferenceWays) (sTagWays : STagWays) (sCommentWays : SCommentWays) (sOut : SOut) (a1 : Int32) {x : Int32} (hf : f_Tokens_kind a1 sTokens = some x) (sz : Nat) : Met l y_Tokens_kind (.code y_Tokens_kind b_Tokens_kind 2 (some .int) :: lw_g) { frames := 0, cells := 0, slots := 0, locals := 0 } (gP D (gT cA) z [.ref (ad 2), .int a1] (Wc z ad cA sMt sSource sTokens sReferenceWays sTagWays sCommentWays sOut) sz) (gQi D (gT cA) (va_A (Wc z ad cA sMt sSource sTokens sReferenceWays sTagWays sCommentWays sOut) sz) x (Wc z ad cA sMt sSource sTokens sReferenceWays sTagWays sCommentWays sOut)) 0 0 (va_A (Wc z ad cA sMt sSource sTokens sReferenceWays sTagWays sCommentWays sOut) sz) := by
  refine g_met (by decide) (Nat.le_of_ble_eq_true rfl) rfl ?_
  intro p e s m args below meth c F hr hlk
  unfold f_Tokens_kind at hf
  refine g_aload_n F d_Tokens_kind_0 0 rfl ?_
  refine g_get F (v := .ref (ad 14)) in_X9 2 rfl rfl 2 (by decide) mw_137 rfl d_Tokens_kind_1 ?_
  refine g_iload_n F d_Tokens_kind_4 1 rfl ?_
  obtain ⟨k1, hf⟩ := g_chk hf
  refine g_iald F (f := (q_Tokens_kinds sTokens)) 14 0 rfl rfl k1 d_Tokens_kind_5 ?_
  cases hf
  exact g_iret F hr hlk rfl rfl rfl d_Tokens_kind_6
set_option maxHeartbeats 4000000 in
set_option maxRecDepth 100000 in
theorem c_Tokens_length (l : Launch) (D : va_G) (cA : Nat → ClassId) (z : gZ) (ad : Nat → Nat) (sMt : SMt) (sSource : SSource) (sTokens : STokens) (sReferenceWays : SReferenceWays) (sTagWays : STagWays) (sCommentWays : SCommentWays) (sOut : SOut) (a1 : Int32) {x : Int32} (hf : f_Tokens_length a1 sTokens = some x) (sz : Nat) : Met l y_Tokens_length (.code y_Tokens_length b_Tokens_length 2 (some .int) :: lw_g) { frames := 0, cells := 0, slots := 0, locals := 0 } (gP D (gT cA) z [.ref (ad 2), .int a1] (Wc z ad cA sMt sSource sTokens sReferenceWays sTagWays sCommentWays sOut) sz) (gQi D (gT cA) (va_A (Wc z ad cA sMt sSource sTokens sReferenceWays sTagWays sCommentWays sOut) sz) x (Wc z ad cA sMt sSource sTokens sReferenceWays sTagWays sCommentWays sOut)) 0 0 (va_A (Wc z ad cA sMt sSource sTokens sReferenceWays sTagWays sCommentWays sOut) sz) := by
  refine g_met (by decide) (Nat.le_of_ble_eq_true rfl) rfl ?_
  intro p e s m args below meth c F hr hlk
  unfold f_Tokens_length at hf
  refine g_aload_n F d_Tokens_length_0 0 rfl ?_
  refine g_get F (v := .ref (ad 16)) in_X9 2 rfl rfl 4 (by decide) mw_139 rfl d_Tokens_length_1 ?_
  refine g_iload_n F d_Tokens_length_4 1 rfl ?_
  obtain ⟨k1, hf⟩ := g_chk hf
  refine g_iald F (f := (q_Tokens_ends sTokens)) 16 0 rfl rfl k1 d_Tokens_length_5 ?_
  refine g_aload_n F d_Tokens_length_6 0 rfl ?_
  refine g_get F (v := .ref (ad 15)) in_X9 2 rfl rfl 3 (by decide) mw_138 rfl d_Tokens_length_7 ?_
  refine g_iload_n F d_Tokens_length_10 1 rfl ?_
  obtain ⟨k2, hf⟩ := g_chk hf
  refine g_iald F (f := (q_Tokens_starts sTokens)) 15 0 rfl rfl k2 d_Tokens_length_11 ?_
  refine g_isub F d_Tokens_length_12 ?_
  cases hf
  exact g_iret F hr hlk rfl rfl rfl d_Tokens_length_13
set_option maxHeartbeats 4000000 in
set_option maxRecDepth 100000 in
theorem c_Tokens_mark (l : Launch) (D : va_G) (cA : Nat → ClassId) (z : gZ) (ad : Nat → Nat) (sMt : SMt) (sSource : SSource) (sTokens : STokens) (sReferenceWays : SReferenceWays) (sTagWays : STagWays) (sCommentWays : SCommentWays) (sOut : SOut) (a1 : Int32) {x : Int32} (hf : f_Tokens_mark a1 sTokens = some x) (sz : Nat) : Met l y_Tokens_mark (.code y_Tokens_mark b_Tokens_mark 2 (some .int) :: lw_g) { frames := 0, cells := 0, slots := 0, locals := 0 } (gP D (gT cA) z [.ref (ad 2), .int a1] (Wc z ad cA sMt sSource sTokens sReferenceWays sTagWays sCommentWays sOut) sz) (gQi D (gT cA) (va_A (Wc z ad cA sMt sSource sTokens sReferenceWays sTagWays sCommentWays sOut) sz) x (Wc z ad cA sMt sSource sTokens sReferenceWays sTagWays sCommentWays sOut)) 0 0 (va_A (Wc z ad cA sMt sSource sTokens sReferenceWays sTagWays sCommentWays sOut) sz) := by
  refine g_met (by decide) (Nat.le_of_ble_eq_true rfl) rfl ?_
  intro p e s m args below meth c F hr hlk
  unfold f_Tokens_mark at hf
  refine g_aload_n F d_Tokens_mark_0 0 rfl ?_
  refine g_get F (v := .ref (ad 17)) in_X9 2 rfl rfl 5 (by decide) mw_140 rfl d_Tokens_mark_1 ?_
  refine g_iload_n F d_Tokens_mark_4 1 rfl ?_
  obtain ⟨k1, hf⟩ := g_chk hf
  refine g_iald F (f := (q_Tokens_marks sTokens)) 17 0 rfl rfl k1 d_Tokens_mark_5 ?_
  cases hf
  exact g_iret F hr hlk rfl rfl rfl d_Tokens_mark_6
set_option maxHeartbeats 4000000 in
set_option maxRecDepth 100000 in
theorem c_Tokens_attributes (l : Launch) (D : va_G) (cA : Nat → ClassId) (z : gZ) (ad : Nat → Nat) (sMt : SMt) (sSource : SSource) (sTokens : STokens) (sReferenceWays : SReferenceWays) (sTagWays : STagWays) (sCommentWays : SCommentWays) (sOut : SOut) (a1 : Int32) {x : Int32} (hf : f_Tokens_attributes a1 sTokens = some x) (sz : Nat) : Met l y_Tokens_attributes (.code y_Tokens_attributes b_Tokens_attributes 2 (some .int) :: lw_g) { frames := 0, cells := 0, slots := 0, locals := 0 } (gP D (gT cA) z [.ref (ad 2), .int a1] (Wc z ad cA sMt sSource sTokens sReferenceWays sTagWays sCommentWays sOut) sz) (gQi D (gT cA) (va_A (Wc z ad cA sMt sSource sTokens sReferenceWays sTagWays sCommentWays sOut) sz) x (Wc z ad cA sMt sSource sTokens sReferenceWays sTagWays sCommentWays sOut)) 0 0 (va_A (Wc z ad cA sMt sSource sTokens sReferenceWays sTagWays sCommentWays sOut) sz) := by
  refine g_met (by decide) (Nat.le_of_ble_eq_true rfl) rfl ?_
  intro p e s m args below meth c F hr hlk
  unfold f_Tokens_attributes at hf
  refine g_aload_n F d_Tokens_attributes_0 0 rfl ?_
  refine g_get F (v := .ref (ad 19)) in_X9 2 rfl rfl 7 (by decide) mw_142 rfl d_Tokens_attributes_1 ?_
  refine g_iload_n F d_Tokens_attributes_4 1 rfl ?_
  obtain ⟨k1, hf⟩ := g_chk hf
  refine g_iald F (f := (q_Tokens_attributeCounts sTokens)) 19 0 rfl rfl k1 d_Tokens_attributes_5 ?_
  cases hf
  exact g_iret F hr hlk rfl rfl rfl d_Tokens_attributes_6
set_option maxHeartbeats 4000000 in
set_option maxRecDepth 100000 in
theorem c_Mt_token (l : Launch) (D : va_G) (cA : Nat → ClassId) (z : gZ) (ad : Nat → Nat) (sMt : SMt) (sSource : SSource) (sTokens : STokens) (sReferenceWays : SReferenceWays) (sTagWays : STagWays) (sCommentWays : SCommentWays) (sOut : SOut) (a1 : Int32) (a2 : Int32) {x : Int32} (hf : f_Mt_token a1 a2 sTokens = some x) (sz : Nat) : Met l y_Mt_token (.code y_Mt_token b_Mt_token 3 (some .int) :: lw_g) { frames := 1, cells := 0, slots := 0, locals := 21 } (gP D (gT cA) z [.ref (ad 0), .int a1, .int a2] (Wc z ad cA sMt sSource sTokens sReferenceWays sTagWays sCommentWays sOut) sz) (gQi D (gT cA) (va_A (Wc z ad cA sMt sSource sTokens sReferenceWays sTagWays sCommentWays sOut) sz) x (Wc z ad cA sMt sSource sTokens sReferenceWays sTagWays sCommentWays sOut)) 0 0 (va_A (Wc z ad cA sMt sSource sTokens sReferenceWays sTagWays sCommentWays sOut) sz) := by
  refine g_met (by decide) (Nat.le_of_ble_eq_true rfl) rfl ?_
  intro p e s m args below meth c F hr hlk
  unfold f_Mt_token at hf
  refine g_aload_n F d_Mt_token_0 0 rfl ?_
  refine g_get F (v := .ref (ad 2)) in_X12 0 rfl rfl 3 (by decide) mw_298 rfl d_Mt_token_1 ?_
  refine g_iload_n F d_Mt_token_4 1 rfl ?_
  refine g_ci F (r0 := (f_Tokens_has a1 sTokens)) (ws' := (Wc z ad cA sMt sSource sTokens sReferenceWays sTagWays sCommentWays sOut)) (fun H locs ls hP hD hS hl => g_runV F (As := [.int a1]) (n := 1) mw_887 rfl rfl ⟨by decide, by decide⟩ rfl (by exact Nat.le_of_ble_eq_true rfl) mw_884 mw_885 mw_886 mw_75 (by decide +kernel) d_Mt_token_5 hP hD hS hl (va_recv F.2.2.2.2.2.1 hP (ci := 2) rfl (q0 := 2) rfl) (c_Tokens_has l D cA z ad sMt sSource sTokens sReferenceWays sTagWays sCommentWays sOut a1 rfl H.size)) ?_
  refine g_if_ne F (tgt := 13) d_Mt_token_8 (by decide) (fun h => ?_) (fun h => ?_)
  · rw [if_neg h] at hf
    refine g_iload_n F d_Mt_token_13 2 rfl ?_
    by_cases q1 : a2 = 0
    · rw [if_pos q1] at hf
      refine g_tableIn F (off := 30) (tgt := 44) d_Mt_token_14 (by rw [q1]; decide) (by rw [q1]; decide) (by rw [q1]; decide) (by decide) ?_
      refine g_aload_n F d_Mt_token_44 0 rfl ?_
      refine g_get F (v := .ref (ad 2)) in_X12 0 rfl rfl 3 (by decide) mw_298 rfl d_Mt_token_45 ?_
      refine g_iload_n F d_Mt_token_48 1 rfl ?_
      obtain ⟨x1, hx1, hf⟩ := g_bind hf
      refine g_ci F (r0 := x1) (ws' := (Wc z ad cA sMt sSource sTokens sReferenceWays sTagWays sCommentWays sOut)) (fun H locs ls hP hD hS hl => g_runV F (As := [.int a1]) (n := 1) mw_891 rfl rfl ⟨by decide, by decide⟩ rfl (by exact Nat.le_of_ble_eq_true rfl) mw_888 mw_889 mw_890 mw_75 (by decide +kernel) d_Mt_token_49 hP hD hS hl (va_recv F.2.2.2.2.2.1 hP (ci := 2) rfl (q0 := 2) rfl) (c_Tokens_kind l D cA z ad sMt sSource sTokens sReferenceWays sTagWays sCommentWays sOut a1 hx1 H.size)) ?_
      cases hf
      exact g_iret F hr hlk rfl rfl rfl d_Mt_token_52
    rw [if_neg q1] at hf
    by_cases q2 : a2 = 1
    · rw [if_pos q2] at hf
      refine g_tableIn F (off := 39) (tgt := 53) d_Mt_token_14 (by rw [q2]; decide) (by rw [q2]; decide) (by rw [q2]; decide) (by decide) ?_
      refine g_aload_n F d_Mt_token_53 0 rfl ?_
      refine g_get F (v := .ref (ad 2)) in_X12 0 rfl rfl 3 (by decide) mw_298 rfl d_Mt_token_54 ?_
      refine g_iload_n F d_Mt_token_57 1 rfl ?_
      obtain ⟨x2, hx2, hf⟩ := g_bind hf
      refine g_ci F (r0 := x2) (ws' := (Wc z ad cA sMt sSource sTokens sReferenceWays sTagWays sCommentWays sOut)) (fun H locs ls hP hD hS hl => g_runV F (As := [.int a1]) (n := 1) mw_895 rfl rfl ⟨by decide, by decide⟩ rfl (by exact Nat.le_of_ble_eq_true rfl) mw_892 mw_893 mw_894 mw_75 (by decide +kernel) d_Mt_token_58 hP hD hS hl (va_recv F.2.2.2.2.2.1 hP (ci := 2) rfl (q0 := 2) rfl) (c_Tokens_length l D cA z ad sMt sSource sTokens sReferenceWays sTagWays sCommentWays sOut a1 hx2 H.size)) ?_
      cases hf
      exact g_iret F hr hlk rfl rfl rfl d_Mt_token_61
    rw [if_neg q2] at hf
    by_cases q3 : a2 = 2
    · rw [if_pos q3] at hf
      refine g_tableIn F (off := 48) (tgt := 62) d_Mt_token_14 (by rw [q3]; decide) (by rw [q3]; decide) (by rw [q3]; decide) (by decide) ?_
      refine g_aload_n F d_Mt_token_62 0 rfl ?_
      refine g_get F (v := .ref (ad 2)) in_X12 0 rfl rfl 3 (by decide) mw_298 rfl d_Mt_token_63 ?_
      refine g_iload_n F d_Mt_token_66 1 rfl ?_
      obtain ⟨x3, hx3, hf⟩ := g_bind hf
      refine g_ci F (r0 := x3) (ws' := (Wc z ad cA sMt sSource sTokens sReferenceWays sTagWays sCommentWays sOut)) (fun H locs ls hP hD hS hl => g_runV F (As := [.int a1]) (n := 1) mw_899 rfl rfl ⟨by decide, by decide⟩ rfl (by exact Nat.le_of_ble_eq_true rfl) mw_896 mw_897 mw_898 mw_75 (by decide +kernel) d_Mt_token_67 hP hD hS hl (va_recv F.2.2.2.2.2.1 hP (ci := 2) rfl (q0 := 2) rfl) (c_Tokens_mark l D cA z ad sMt sSource sTokens sReferenceWays sTagWays sCommentWays sOut a1 hx3 H.size)) ?_
      cases hf
      exact g_iret F hr hlk rfl rfl rfl d_Mt_token_70
    rw [if_neg q3] at hf
    by_cases q4 : a2 = 3
    · rw [if_pos q4] at hf
      refine g_tableIn F (off := 57) (tgt := 71) d_Mt_token_14 (by rw [q4]; decide) (by rw [q4]; decide) (by rw [q4]; decide) (by decide) ?_
      refine g_aload_n F d_Mt_token_71 0 rfl ?_
      refine g_get F (v := .ref (ad 2)) in_X12 0 rfl rfl 3 (by decide) mw_298 rfl d_Mt_token_72 ?_
      refine g_iload_n F d_Mt_token_75 1 rfl ?_
      obtain ⟨x4, hx4, hf⟩ := g_bind hf
      refine g_ci F (r0 := x4) (ws' := (Wc z ad cA sMt sSource sTokens sReferenceWays sTagWays sCommentWays sOut)) (fun H locs ls hP hD hS hl => g_runV F (As := [.int a1]) (n := 1) mw_903 rfl rfl ⟨by decide, by decide⟩ rfl (by exact Nat.le_of_ble_eq_true rfl) mw_900 mw_901 mw_902 mw_75 (by decide +kernel) d_Mt_token_76 hP hD hS hl (va_recv F.2.2.2.2.2.1 hP (ci := 2) rfl (q0 := 2) rfl) (c_Tokens_attributes l D cA z ad sMt sSource sTokens sReferenceWays sTagWays sCommentWays sOut a1 hx4 H.size)) ?_
      cases hf
      exact g_iret F hr hlk rfl rfl rfl d_Mt_token_79
    rw [if_neg q4] at hf
    refine g_tableOut F (tgt := 80) d_Mt_token_14 (tsw (x := a2) (fun k h1 h2 e => by
        have h3 : k.toInt = 0 ∨ k.toInt = 1 ∨ k.toInt = 2 ∨ k.toInt = 3 := by omega
        rcases h3 with h3 | h3 | h3 | h3
        · exact q1 (e.trans (Int32.toInt_inj.mp (h3.trans (by decide))))
        · exact q2 (e.trans (Int32.toInt_inj.mp (h3.trans (by decide))))
        · exact q3 (e.trans (Int32.toInt_inj.mp (h3.trans (by decide))))
        · exact q4 (e.trans (Int32.toInt_inj.mp (h3.trans (by decide)))))) (by decide) ?_
    refine g_iconst F (v := (-1)) d_Mt_token_80 (by decide) ?_
    cases hf
    exact g_iret F hr hlk rfl rfl rfl d_Mt_token_81
  · rw [if_pos h] at hf
    refine g_iconst F (v := (-1)) d_Mt_token_11 (by decide) ?_
    cases hf
    exact g_iret F hr hlk rfl rfl rfl d_Mt_token_12
set_option maxHeartbeats 4000000 in
set_option maxRecDepth 100000 in
theorem c_Tokens_character (l : Launch) (D : va_G) (cA : Nat → ClassId) (z : gZ) (ad : Nat → Nat) (sMt : SMt) (sSource : SSource) (sTokens : STokens) (sReferenceWays : SReferenceWays) (sTagWays : STagWays) (sCommentWays : SCommentWays) (sOut : SOut) (a1 : Int32) (a2 : Int32) {x : Int32} (hf : f_Tokens_character a1 a2 sTokens = some x) (sz : Nat) : Met l y_Tokens_character (.code y_Tokens_character b_Tokens_character 3 (some .int) :: lw_g) { frames := 0, cells := 0, slots := 0, locals := 0 } (gP D (gT cA) z [.ref (ad 2), .int a1, .int a2] (Wc z ad cA sMt sSource sTokens sReferenceWays sTagWays sCommentWays sOut) sz) (gQi D (gT cA) (va_A (Wc z ad cA sMt sSource sTokens sReferenceWays sTagWays sCommentWays sOut) sz) x (Wc z ad cA sMt sSource sTokens sReferenceWays sTagWays sCommentWays sOut)) 0 0 (va_A (Wc z ad cA sMt sSource sTokens sReferenceWays sTagWays sCommentWays sOut) sz) := by
  refine g_met (by decide) (Nat.le_of_ble_eq_true rfl) rfl ?_
  intro p e s m args below meth c F hr hlk
  unfold f_Tokens_character at hf
  refine g_aload_n F d_Tokens_character_0 0 rfl ?_
  refine g_get F (v := .ref (ad 13)) in_X9 2 rfl rfl 0 (by decide) mw_135 rfl d_Tokens_character_1 ?_
  refine g_aload_n F d_Tokens_character_4 0 rfl ?_
  refine g_get F (v := .ref (ad 15)) in_X9 2 rfl rfl 3 (by decide) mw_138 rfl d_Tokens_character_5 ?_
  refine g_iload_n F d_Tokens_character_8 1 rfl ?_
  obtain ⟨k1, hf⟩ := g_chk hf
  refine g_iald F (f := (q_Tokens_starts sTokens)) 15 0 rfl rfl k1 d_Tokens_character_9 ?_
  refine g_iload_n F d_Tokens_character_10 2 rfl ?_
  refine g_iadd F d_Tokens_character_11 ?_
  obtain ⟨k2, hf⟩ := g_chk hf
  refine g_iald F (f := (q_Tokens_row sTokens)) 13 0 rfl rfl k2 d_Tokens_character_12 ?_
  cases hf
  exact g_iret F hr hlk rfl rfl rfl d_Tokens_character_13
set_option maxHeartbeats 4000000 in
set_option maxRecDepth 100000 in
theorem c_Mt_at (l : Launch) (D : va_G) (cA : Nat → ClassId) (z : gZ) (ad : Nat → Nat) (sMt : SMt) (sSource : SSource) (sTokens : STokens) (sReferenceWays : SReferenceWays) (sTagWays : STagWays) (sCommentWays : SCommentWays) (sOut : SOut) (a1 : Int32) (a2 : Int32) {x : Int32} (hf : f_Mt_at a1 a2 sTokens = some x) (sz : Nat) : Met l y_Mt_at (.code y_Mt_at b_Mt_at 3 (some .int) :: lw_g) { frames := 1, cells := 0, slots := 0, locals := 22 } (gP D (gT cA) z [.ref (ad 0), .int a1, .int a2] (Wc z ad cA sMt sSource sTokens sReferenceWays sTagWays sCommentWays sOut) sz) (gQi D (gT cA) (va_A (Wc z ad cA sMt sSource sTokens sReferenceWays sTagWays sCommentWays sOut) sz) x (Wc z ad cA sMt sSource sTokens sReferenceWays sTagWays sCommentWays sOut)) 0 0 (va_A (Wc z ad cA sMt sSource sTokens sReferenceWays sTagWays sCommentWays sOut) sz) := by
  refine g_met (by decide) (Nat.le_of_ble_eq_true rfl) rfl ?_
  intro p e s m args below meth c F hr hlk
  unfold f_Mt_at at hf
  refine g_aload_n F d_Mt_at_0 0 rfl ?_
  refine g_get F (v := .ref (ad 2)) in_X12 0 rfl rfl 3 (by decide) mw_298 rfl d_Mt_at_1 ?_
  refine g_iload_n F d_Mt_at_4 1 rfl ?_
  refine g_ci F (r0 := (f_Tokens_has a1 sTokens)) (ws' := (Wc z ad cA sMt sSource sTokens sReferenceWays sTagWays sCommentWays sOut)) (fun H locs ls hP hD hS hl => g_runV F (As := [.int a1]) (n := 1) mw_887 rfl rfl ⟨by decide, by decide⟩ rfl (by exact Nat.le_of_ble_eq_true rfl) mw_884 mw_885 mw_886 mw_75 (by decide +kernel) d_Mt_at_5 hP hD hS hl (va_recv F.2.2.2.2.2.1 hP (ci := 2) rfl (q0 := 2) rfl) (c_Tokens_has l D cA z ad sMt sSource sTokens sReferenceWays sTagWays sCommentWays sOut a1 rfl H.size)) ?_
  refine g_if_eq F (tgt := 27) d_Mt_at_8 (by decide) (fun h => ?_) (fun h => ?_)
  · rw [if_pos h] at hf
    refine g_iconst F (v := (-1)) d_Mt_at_27 (by decide) ?_
    cases hf
    exact g_iret F hr hlk rfl rfl rfl d_Mt_at_28
  · rw [if_neg h] at hf
    refine g_iload_n F d_Mt_at_11 2 rfl ?_
    refine g_if_lt F (tgt := 27) d_Mt_at_12 (by decide) (fun h => ?_) (fun h => ?_)
    · rw [if_pos h] at hf
      refine g_iconst F (v := (-1)) d_Mt_at_27 (by decide) ?_
      cases hf
      exact g_iret F hr hlk rfl rfl rfl d_Mt_at_28
    · rw [if_neg h] at hf
      refine g_iload_n F d_Mt_at_15 2 rfl ?_
      refine g_aload_n F d_Mt_at_16 0 rfl ?_
      refine g_get F (v := .ref (ad 2)) in_X12 0 rfl rfl 3 (by decide) mw_298 rfl d_Mt_at_17 ?_
      refine g_iload_n F d_Mt_at_20 1 rfl ?_
      obtain ⟨x1, hx1, hf⟩ := g_bind hf
      refine g_ci F (r0 := x1) (ws' := (Wc z ad cA sMt sSource sTokens sReferenceWays sTagWays sCommentWays sOut)) (fun H locs ls hP hD hS hl => g_runV F (As := [.int a1]) (n := 1) mw_895 rfl rfl ⟨by decide, by decide⟩ rfl (by exact Nat.le_of_ble_eq_true rfl) mw_892 mw_893 mw_894 mw_75 (by decide +kernel) d_Mt_at_21 hP hD hS hl (va_recv F.2.2.2.2.2.1 hP (ci := 2) rfl (q0 := 2) rfl) (c_Tokens_length l D cA z ad sMt sSource sTokens sReferenceWays sTagWays sCommentWays sOut a1 hx1 H.size)) ?_
      refine g_icmp_lt F (tgt := 29) d_Mt_at_24 (by decide) (fun h => ?_) (fun h => ?_)
      · rw [if_pos h] at hf
        refine g_aload_n F d_Mt_at_29 0 rfl ?_
        refine g_get F (v := .ref (ad 2)) in_X12 0 rfl rfl 3 (by decide) mw_298 rfl d_Mt_at_30 ?_
        refine g_iload_n F d_Mt_at_33 1 rfl ?_
        refine g_iload_n F d_Mt_at_34 2 rfl ?_
        obtain ⟨x2, hx2, hf⟩ := g_bind hf
        refine g_ci F (r0 := x2) (ws' := (Wc z ad cA sMt sSource sTokens sReferenceWays sTagWays sCommentWays sOut)) (fun H locs ls hP hD hS hl => g_runV F (As := [.int a1, .int a2]) (n := 2) mw_911 rfl rfl ⟨by decide, by decide⟩ rfl (by exact Nat.le_of_ble_eq_true rfl) mw_908 mw_909 mw_910 mw_75 (by decide +kernel) d_Mt_at_35 hP hD hS hl (va_recv F.2.2.2.2.2.1 hP (ci := 2) rfl (q0 := 2) rfl) (c_Tokens_character l D cA z ad sMt sSource sTokens sReferenceWays sTagWays sCommentWays sOut a1 a2 hx2 H.size)) ?_
        cases hf
        exact g_iret F hr hlk rfl rfl rfl d_Mt_at_38
      · rw [if_neg h] at hf
        refine g_iconst F (v := (-1)) d_Mt_at_27 (by decide) ?_
        cases hf
        exact g_iret F hr hlk rfl rfl rfl d_Mt_at_28
set_option maxHeartbeats 4000000 in
set_option maxRecDepth 100000 in
theorem c_Tokens_hasAttribute (l : Launch) (D : va_G) (cA : Nat → ClassId) (z : gZ) (ad : Nat → Nat) (sMt : SMt) (sSource : SSource) (sTokens : STokens) (sReferenceWays : SReferenceWays) (sTagWays : STagWays) (sCommentWays : SCommentWays) (sOut : SOut) (a1 : Int32) (a2 : Int32) {x : Int32} (hf : f_Tokens_hasAttribute a1 a2 sTokens = some x) (sz : Nat) : Met l y_Tokens_hasAttribute (.code y_Tokens_hasAttribute b_Tokens_hasAttribute 3 (some .boolean) :: lw_g) { frames := 1, cells := 0, slots := 0, locals := 21 } (gP D (gT cA) z [.ref (ad 2), .int a1, .int a2] (Wc z ad cA sMt sSource sTokens sReferenceWays sTagWays sCommentWays sOut) sz) (gQi D (gT cA) (va_A (Wc z ad cA sMt sSource sTokens sReferenceWays sTagWays sCommentWays sOut) sz) x (Wc z ad cA sMt sSource sTokens sReferenceWays sTagWays sCommentWays sOut)) 0 0 (va_A (Wc z ad cA sMt sSource sTokens sReferenceWays sTagWays sCommentWays sOut) sz) := by
  refine g_met (by decide) (Nat.le_of_ble_eq_true rfl) rfl ?_
  intro p e s m args below meth c F hr hlk
  unfold f_Tokens_hasAttribute at hf
  refine g_aload_n F d_Tokens_hasAttribute_0 0 rfl ?_
  refine g_iload_n F d_Tokens_hasAttribute_1 1 rfl ?_
  refine g_ci F (r0 := (f_Tokens_has a1 sTokens)) (ws' := (Wc z ad cA sMt sSource sTokens sReferenceWays sTagWays sCommentWays sOut)) (fun H locs ls hP hD hS hl => g_runV F (As := [.int a1]) (n := 1) mw_887 rfl rfl ⟨by decide, by decide⟩ rfl (by exact Nat.le_of_ble_eq_true rfl) mw_920 mw_885 mw_886 mw_75 (by decide +kernel) d_Tokens_hasAttribute_2 hP hD hS hl (va_recv F.2.2.2.2.2.1 hP (ci := 2) rfl (q0 := 2) rfl) (c_Tokens_has l D cA z ad sMt sSource sTokens sReferenceWays sTagWays sCommentWays sOut a1 rfl H.size)) ?_
  refine g_if_eq F (tgt := 26) d_Tokens_hasAttribute_5 (by decide) (fun h => ?_) (fun h => ?_)
  · rw [if_pos h] at hf
    refine g_iconst F (v := 0) d_Tokens_hasAttribute_26 (by decide) ?_
    cases hf
    exact g_zret F hr rfl hlk rfl rfl rfl d_Tokens_hasAttribute_27
  · rw [if_neg h] at hf
    refine g_iload_n F d_Tokens_hasAttribute_8 2 rfl ?_
    refine g_if_lt F (tgt := 26) d_Tokens_hasAttribute_9 (by decide) (fun h => ?_) (fun h => ?_)
    · rw [if_pos h] at hf
      refine g_iconst F (v := 0) d_Tokens_hasAttribute_26 (by decide) ?_
      cases hf
      exact g_zret F hr rfl hlk rfl rfl rfl d_Tokens_hasAttribute_27
    · rw [if_neg h] at hf
      refine g_iload_n F d_Tokens_hasAttribute_12 2 rfl ?_
      refine g_aload_n F d_Tokens_hasAttribute_13 0 rfl ?_
      refine g_get F (v := .ref (ad 19)) in_X9 2 rfl rfl 7 (by decide) mw_142 rfl d_Tokens_hasAttribute_14 ?_
      refine g_iload_n F d_Tokens_hasAttribute_17 1 rfl ?_
      obtain ⟨k1, hf⟩ := g_chk hf
      refine g_iald F (f := (q_Tokens_attributeCounts sTokens)) 19 0 rfl rfl k1 d_Tokens_hasAttribute_18 ?_
      refine g_icmp_ge F (tgt := 26) d_Tokens_hasAttribute_19 (by decide) (fun h => ?_) (fun h => ?_)
      · rw [if_pos h] at hf
        refine g_iconst F (v := 0) d_Tokens_hasAttribute_26 (by decide) ?_
        cases hf
        exact g_zret F hr rfl hlk rfl rfl rfl d_Tokens_hasAttribute_27
      · rw [if_neg h] at hf
        refine g_iconst F (v := 1) d_Tokens_hasAttribute_22 (by decide) ?_
        refine g_goto F (tgt := 27) d_Tokens_hasAttribute_23 (by decide) ?_
        cases hf
        exact g_zret F hr rfl hlk rfl rfl rfl d_Tokens_hasAttribute_27
set_option maxHeartbeats 4000000 in
set_option maxRecDepth 100000 in
theorem c_Tokens_nameLength (l : Launch) (D : va_G) (cA : Nat → ClassId) (z : gZ) (ad : Nat → Nat) (sMt : SMt) (sSource : SSource) (sTokens : STokens) (sReferenceWays : SReferenceWays) (sTagWays : STagWays) (sCommentWays : SCommentWays) (sOut : SOut) (a1 : Int32) (a2 : Int32) {x : Int32} (hf : f_Tokens_nameLength a1 a2 sTokens = some x) (sz : Nat) : Met l y_Tokens_nameLength (.code y_Tokens_nameLength b_Tokens_nameLength 4 (some .int) :: lw_g) { frames := 0, cells := 0, slots := 0, locals := 0 } (gP D (gT cA) z [.ref (ad 2), .int a1, .int a2] (Wc z ad cA sMt sSource sTokens sReferenceWays sTagWays sCommentWays sOut) sz) (gQi D (gT cA) (va_A (Wc z ad cA sMt sSource sTokens sReferenceWays sTagWays sCommentWays sOut) sz) x (Wc z ad cA sMt sSource sTokens sReferenceWays sTagWays sCommentWays sOut)) 0 0 (va_A (Wc z ad cA sMt sSource sTokens sReferenceWays sTagWays sCommentWays sOut) sz) := by
  refine g_met (by decide) (Nat.le_of_ble_eq_true rfl) rfl ?_
  intro p e s m args below meth c F hr hlk
  unfold f_Tokens_nameLength at hf
  refine g_aload_n F d_Tokens_nameLength_0 0 rfl ?_
  refine g_get F (v := .ref (ad 18)) in_X9 2 rfl rfl 6 (by decide) mw_141 rfl d_Tokens_nameLength_1 ?_
  refine g_iload_n F d_Tokens_nameLength_4 1 rfl ?_
  obtain ⟨k1, hf⟩ := g_chk hf
  refine g_iald F (f := (q_Tokens_firstAttributes sTokens)) 18 0 rfl rfl k1 d_Tokens_nameLength_5 ?_
  refine g_iload_n F d_Tokens_nameLength_6 2 rfl ?_
  refine g_iadd F d_Tokens_nameLength_7 ?_
  refine g_istore_n F (L' := [(3, .int (((q_Tokens_firstAttributes sTokens) (a1 : Int32).toNatClampNeg) + a2)), (0, .ref (ad 2)), (1, .int a1), (2, .int a2)]) d_Tokens_nameLength_8 rfl (by decide) rfl ?_
  refine g_aload_n F d_Tokens_nameLength_9 1 rfl ?_
  refine g_get F (v := .ref (ad 21)) in_X9 2 rfl rfl 11 (by decide) mw_146 rfl d_Tokens_nameLength_10 ?_
  refine g_iload_n F d_Tokens_nameLength_13 0 rfl ?_
  obtain ⟨k2, hf⟩ := g_chk hf
  refine g_iald F (f := (q_Tokens_valueStarts sTokens)) 21 0 rfl rfl k2 d_Tokens_nameLength_14 ?_
  refine g_aload_n F d_Tokens_nameLength_15 1 rfl ?_
  refine g_get F (v := .ref (ad 20)) in_X9 2 rfl rfl 10 (by decide) mw_145 rfl d_Tokens_nameLength_16 ?_
  refine g_iload_n F d_Tokens_nameLength_19 0 rfl ?_
  obtain ⟨k3, hf⟩ := g_chk hf
  refine g_iald F (f := (q_Tokens_nameStarts sTokens)) 20 0 rfl rfl k3 d_Tokens_nameLength_20 ?_
  refine g_isub F d_Tokens_nameLength_21 ?_
  cases hf
  exact g_iret F hr hlk rfl rfl rfl d_Tokens_nameLength_22
set_option maxHeartbeats 4000000 in
set_option maxRecDepth 100000 in
theorem c_Tokens_valueLength (l : Launch) (D : va_G) (cA : Nat → ClassId) (z : gZ) (ad : Nat → Nat) (sMt : SMt) (sSource : SSource) (sTokens : STokens) (sReferenceWays : SReferenceWays) (sTagWays : STagWays) (sCommentWays : SCommentWays) (sOut : SOut) (a1 : Int32) (a2 : Int32) {x : Int32} (hf : f_Tokens_valueLength a1 a2 sTokens = some x) (sz : Nat) : Met l y_Tokens_valueLength (.code y_Tokens_valueLength b_Tokens_valueLength 4 (some .int) :: lw_g) { frames := 0, cells := 0, slots := 0, locals := 0 } (gP D (gT cA) z [.ref (ad 2), .int a1, .int a2] (Wc z ad cA sMt sSource sTokens sReferenceWays sTagWays sCommentWays sOut) sz) (gQi D (gT cA) (va_A (Wc z ad cA sMt sSource sTokens sReferenceWays sTagWays sCommentWays sOut) sz) x (Wc z ad cA sMt sSource sTokens sReferenceWays sTagWays sCommentWays sOut)) 0 0 (va_A (Wc z ad cA sMt sSource sTokens sReferenceWays sTagWays sCommentWays sOut) sz) := by
  refine g_met (by decide) (Nat.le_of_ble_eq_true rfl) rfl ?_
  intro p e s m args below meth c F hr hlk
  unfold f_Tokens_valueLength at hf
  refine g_aload_n F d_Tokens_valueLength_0 0 rfl ?_
  refine g_get F (v := .ref (ad 18)) in_X9 2 rfl rfl 6 (by decide) mw_141 rfl d_Tokens_valueLength_1 ?_
  refine g_iload_n F d_Tokens_valueLength_4 1 rfl ?_
  obtain ⟨k1, hf⟩ := g_chk hf
  refine g_iald F (f := (q_Tokens_firstAttributes sTokens)) 18 0 rfl rfl k1 d_Tokens_valueLength_5 ?_
  refine g_iload_n F d_Tokens_valueLength_6 2 rfl ?_
  refine g_iadd F d_Tokens_valueLength_7 ?_
  refine g_istore_n F (L' := [(3, .int (((q_Tokens_firstAttributes sTokens) (a1 : Int32).toNatClampNeg) + a2)), (0, .ref (ad 2)), (1, .int a1), (2, .int a2)]) d_Tokens_valueLength_8 rfl (by decide) rfl ?_
  refine g_aload_n F d_Tokens_valueLength_9 1 rfl ?_
  refine g_get F (v := .ref (ad 22)) in_X9 2 rfl rfl 12 (by decide) mw_147 rfl d_Tokens_valueLength_10 ?_
  refine g_iload_n F d_Tokens_valueLength_13 0 rfl ?_
  obtain ⟨k2, hf⟩ := g_chk hf
  refine g_iald F (f := (q_Tokens_valueEnds sTokens)) 22 0 rfl rfl k2 d_Tokens_valueLength_14 ?_
  refine g_aload_n F d_Tokens_valueLength_15 1 rfl ?_
  refine g_get F (v := .ref (ad 21)) in_X9 2 rfl rfl 11 (by decide) mw_146 rfl d_Tokens_valueLength_16 ?_
  refine g_iload_n F d_Tokens_valueLength_19 0 rfl ?_
  obtain ⟨k3, hf⟩ := g_chk hf
  refine g_iald F (f := (q_Tokens_valueStarts sTokens)) 21 0 rfl rfl k3 d_Tokens_valueLength_20 ?_
  refine g_isub F d_Tokens_valueLength_21 ?_
  cases hf
  exact g_iret F hr hlk rfl rfl rfl d_Tokens_valueLength_22
set_option maxHeartbeats 4000000 in
set_option maxRecDepth 100000 in
theorem c_Mt_size (l : Launch) (D : va_G) (cA : Nat → ClassId) (z : gZ) (ad : Nat → Nat) (sMt : SMt) (sSource : SSource) (sTokens : STokens) (sReferenceWays : SReferenceWays) (sTagWays : STagWays) (sCommentWays : SCommentWays) (sOut : SOut) (a1 : Int32) (a2 : Int32) (a3 : Int32) {x : Int32} (hf : f_Mt_size a1 a2 a3 sTokens = some x) (sz : Nat) : Met l y_Mt_size (.code y_Mt_size b_Mt_size 4 (some .int) :: lw_g) { frames := 2, cells := 0, slots := 0, locals := 43 } (gP D (gT cA) z [.ref (ad 0), .int a1, .int a2, .int a3] (Wc z ad cA sMt sSource sTokens sReferenceWays sTagWays sCommentWays sOut) sz) (gQi D (gT cA) (va_A (Wc z ad cA sMt sSource sTokens sReferenceWays sTagWays sCommentWays sOut) sz) x (Wc z ad cA sMt sSource sTokens sReferenceWays sTagWays sCommentWays sOut)) 0 0 (va_A (Wc z ad cA sMt sSource sTokens sReferenceWays sTagWays sCommentWays sOut) sz) := by
  refine g_met (by decide) (Nat.le_of_ble_eq_true rfl) rfl ?_
  intro p e s m args below meth c F hr hlk
  unfold f_Mt_size at hf
  refine g_aload_n F d_Mt_size_0 0 rfl ?_
  refine g_get F (v := .ref (ad 2)) in_X12 0 rfl rfl 3 (by decide) mw_298 rfl d_Mt_size_1 ?_
  refine g_iload_n F d_Mt_size_4 1 rfl ?_
  refine g_iload_n F d_Mt_size_5 2 rfl ?_
  obtain ⟨x1, hx1, hf⟩ := g_bind hf
  refine g_ci F (r0 := x1) (ws' := (Wc z ad cA sMt sSource sTokens sReferenceWays sTagWays sCommentWays sOut)) (fun H locs ls hP hD hS hl => g_runV F (As := [.int a1, .int a2]) (n := 2) mw_919 rfl rfl ⟨by decide, by decide⟩ rfl (by exact Nat.le_of_ble_eq_true rfl) mw_916 mw_917 mw_918 mw_75 (by decide +kernel) d_Mt_size_6 hP hD hS hl (va_recv F.2.2.2.2.2.1 hP (ci := 2) rfl (q0 := 2) rfl) (c_Tokens_hasAttribute l D cA z ad sMt sSource sTokens sReferenceWays sTagWays sCommentWays sOut a1 a2 hx1 H.size)) ?_
  refine g_if_ne F (tgt := 14) d_Mt_size_9 (by decide) (fun h => ?_) (fun h => ?_)
  · rw [if_neg h] at hf
    refine g_iload_n F d_Mt_size_14 3 rfl ?_
    by_cases q1 : a3 = 0
    · rw [if_pos q1] at hf
      refine g_lookup F (off := 25) (tgt := 40) d_Mt_size_15 (by decide) (by rw [q1]; decide) (by decide) ?_
      refine g_aload_n F d_Mt_size_40 0 rfl ?_
      refine g_get F (v := .ref (ad 2)) in_X12 0 rfl rfl 3 (by decide) mw_298 rfl d_Mt_size_41 ?_
      refine g_iload_n F d_Mt_size_44 1 rfl ?_
      refine g_iload_n F d_Mt_size_45 2 rfl ?_
      obtain ⟨x2, hx2, hf⟩ := g_bind hf
      refine g_ci F (r0 := x2) (ws' := (Wc z ad cA sMt sSource sTokens sReferenceWays sTagWays sCommentWays sOut)) (fun H locs ls hP hD hS hl => g_runV F (As := [.int a1, .int a2]) (n := 2) mw_924 rfl rfl ⟨by decide, by decide⟩ rfl (by exact Nat.le_of_ble_eq_true rfl) mw_921 mw_922 mw_923 mw_75 (by decide +kernel) d_Mt_size_46 hP hD hS hl (va_recv F.2.2.2.2.2.1 hP (ci := 2) rfl (q0 := 2) rfl) (c_Tokens_nameLength l D cA z ad sMt sSource sTokens sReferenceWays sTagWays sCommentWays sOut a1 a2 hx2 H.size)) ?_
      cases hf
      exact g_iret F hr hlk rfl rfl rfl d_Mt_size_49
    rw [if_neg q1] at hf
    by_cases q2 : a3 = 1
    · rw [if_pos q2] at hf
      refine g_lookup F (off := 35) (tgt := 50) d_Mt_size_15 (by decide) (by rw [q2]; decide) (by decide) ?_
      refine g_aload_n F d_Mt_size_50 0 rfl ?_
      refine g_get F (v := .ref (ad 2)) in_X12 0 rfl rfl 3 (by decide) mw_298 rfl d_Mt_size_51 ?_
      refine g_iload_n F d_Mt_size_54 1 rfl ?_
      refine g_iload_n F d_Mt_size_55 2 rfl ?_
      obtain ⟨x3, hx3, hf⟩ := g_bind hf
      refine g_ci F (r0 := x3) (ws' := (Wc z ad cA sMt sSource sTokens sReferenceWays sTagWays sCommentWays sOut)) (fun H locs ls hP hD hS hl => g_runV F (As := [.int a1, .int a2]) (n := 2) mw_928 rfl rfl ⟨by decide, by decide⟩ rfl (by exact Nat.le_of_ble_eq_true rfl) mw_925 mw_926 mw_927 mw_75 (by decide +kernel) d_Mt_size_56 hP hD hS hl (va_recv F.2.2.2.2.2.1 hP (ci := 2) rfl (q0 := 2) rfl) (c_Tokens_valueLength l D cA z ad sMt sSource sTokens sReferenceWays sTagWays sCommentWays sOut a1 a2 hx3 H.size)) ?_
      cases hf
      exact g_iret F hr hlk rfl rfl rfl d_Mt_size_59
    rw [if_neg q2] at hf
    refine g_lookup F (off := 45) (tgt := 60) d_Mt_size_15 (by decide) (show Op.lookupswitch.offset ([(0, 25), (1, 35)] : List (Int × Int)) 45 (a3 : Int32).toInt = 45 by rw [lv_osw (k := 0) q1 (by decide), lv_osw (k := 1) q2 (by decide)]; rfl) (by decide) ?_
    refine g_iconst F (v := (-1)) d_Mt_size_60 (by decide) ?_
    cases hf
    exact g_iret F hr hlk rfl rfl rfl d_Mt_size_61
  · rw [if_pos h] at hf
    refine g_iconst F (v := (-1)) d_Mt_size_12 (by decide) ?_
    cases hf
    exact g_iret F hr hlk rfl rfl rfl d_Mt_size_13
set_option maxHeartbeats 4000000 in
set_option maxRecDepth 100000 in
theorem c_Tokens_nameCharacter (l : Launch) (D : va_G) (cA : Nat → ClassId) (z : gZ) (ad : Nat → Nat) (sMt : SMt) (sSource : SSource) (sTokens : STokens) (sReferenceWays : SReferenceWays) (sTagWays : STagWays) (sCommentWays : SCommentWays) (sOut : SOut) (a1 : Int32) (a2 : Int32) (a3 : Int32) {x : Int32} (hf : f_Tokens_nameCharacter a1 a2 a3 sTokens = some x) (sz : Nat) : Met l y_Tokens_nameCharacter (.code y_Tokens_nameCharacter b_Tokens_nameCharacter 4 (some .int) :: lw_g) { frames := 0, cells := 0, slots := 0, locals := 0 } (gP D (gT cA) z [.ref (ad 2), .int a1, .int a2, .int a3] (Wc z ad cA sMt sSource sTokens sReferenceWays sTagWays sCommentWays sOut) sz) (gQi D (gT cA) (va_A (Wc z ad cA sMt sSource sTokens sReferenceWays sTagWays sCommentWays sOut) sz) x (Wc z ad cA sMt sSource sTokens sReferenceWays sTagWays sCommentWays sOut)) 0 0 (va_A (Wc z ad cA sMt sSource sTokens sReferenceWays sTagWays sCommentWays sOut) sz) := by
  refine g_met (by decide) (Nat.le_of_ble_eq_true rfl) rfl ?_
  intro p e s m args below meth c F hr hlk
  unfold f_Tokens_nameCharacter at hf
  refine g_aload_n F d_Tokens_nameCharacter_0 0 rfl ?_
  refine g_get F (v := .ref (ad 13)) in_X9 2 rfl rfl 0 (by decide) mw_135 rfl d_Tokens_nameCharacter_1 ?_
  refine g_aload_n F d_Tokens_nameCharacter_4 0 rfl ?_
  refine g_get F (v := .ref (ad 20)) in_X9 2 rfl rfl 10 (by decide) mw_145 rfl d_Tokens_nameCharacter_5 ?_
  refine g_aload_n F d_Tokens_nameCharacter_8 0 rfl ?_
  refine g_get F (v := .ref (ad 18)) in_X9 2 rfl rfl 6 (by decide) mw_141 rfl d_Tokens_nameCharacter_9 ?_
  refine g_iload_n F d_Tokens_nameCharacter_12 1 rfl ?_
  obtain ⟨k1, hf⟩ := g_chk hf
  refine g_iald F (f := (q_Tokens_firstAttributes sTokens)) 18 0 rfl rfl k1 d_Tokens_nameCharacter_13 ?_
  refine g_iload_n F d_Tokens_nameCharacter_14 2 rfl ?_
  refine g_iadd F d_Tokens_nameCharacter_15 ?_
  obtain ⟨k2, hf⟩ := g_chk hf
  refine g_iald F (f := (q_Tokens_nameStarts sTokens)) 20 0 rfl rfl k2 d_Tokens_nameCharacter_16 ?_
  refine g_iload_n F d_Tokens_nameCharacter_17 3 rfl ?_
  refine g_iadd F d_Tokens_nameCharacter_18 ?_
  obtain ⟨k3, hf⟩ := g_chk hf
  refine g_iald F (f := (q_Tokens_row sTokens)) 13 0 rfl rfl k3 d_Tokens_nameCharacter_19 ?_
  cases hf
  exact g_iret F hr hlk rfl rfl rfl d_Tokens_nameCharacter_20
set_option maxHeartbeats 4000000 in
set_option maxRecDepth 100000 in
theorem c_Tokens_valueCharacter (l : Launch) (D : va_G) (cA : Nat → ClassId) (z : gZ) (ad : Nat → Nat) (sMt : SMt) (sSource : SSource) (sTokens : STokens) (sReferenceWays : SReferenceWays) (sTagWays : STagWays) (sCommentWays : SCommentWays) (sOut : SOut) (a1 : Int32) (a2 : Int32) (a3 : Int32) {x : Int32} (hf : f_Tokens_valueCharacter a1 a2 a3 sTokens = some x) (sz : Nat) : Met l y_Tokens_valueCharacter (.code y_Tokens_valueCharacter b_Tokens_valueCharacter 4 (some .int) :: lw_g) { frames := 0, cells := 0, slots := 0, locals := 0 } (gP D (gT cA) z [.ref (ad 2), .int a1, .int a2, .int a3] (Wc z ad cA sMt sSource sTokens sReferenceWays sTagWays sCommentWays sOut) sz) (gQi D (gT cA) (va_A (Wc z ad cA sMt sSource sTokens sReferenceWays sTagWays sCommentWays sOut) sz) x (Wc z ad cA sMt sSource sTokens sReferenceWays sTagWays sCommentWays sOut)) 0 0 (va_A (Wc z ad cA sMt sSource sTokens sReferenceWays sTagWays sCommentWays sOut) sz) := by
  refine g_met (by decide) (Nat.le_of_ble_eq_true rfl) rfl ?_
  intro p e s m args below meth c F hr hlk
  unfold f_Tokens_valueCharacter at hf
  refine g_aload_n F d_Tokens_valueCharacter_0 0 rfl ?_
  refine g_get F (v := .ref (ad 13)) in_X9 2 rfl rfl 0 (by decide) mw_135 rfl d_Tokens_valueCharacter_1 ?_
  refine g_aload_n F d_Tokens_valueCharacter_4 0 rfl ?_
  refine g_get F (v := .ref (ad 21)) in_X9 2 rfl rfl 11 (by decide) mw_146 rfl d_Tokens_valueCharacter_5 ?_
  refine g_aload_n F d_Tokens_valueCharacter_8 0 rfl ?_
  refine g_get F (v := .ref (ad 18)) in_X9 2 rfl rfl 6 (by decide) mw_141 rfl d_Tokens_valueCharacter_9 ?_
  refine g_iload_n F d_Tokens_valueCharacter_12 1 rfl ?_
  obtain ⟨k1, hf⟩ := g_chk hf
  refine g_iald F (f := (q_Tokens_firstAttributes sTokens)) 18 0 rfl rfl k1 d_Tokens_valueCharacter_13 ?_
  refine g_iload_n F d_Tokens_valueCharacter_14 2 rfl ?_
  refine g_iadd F d_Tokens_valueCharacter_15 ?_
  obtain ⟨k2, hf⟩ := g_chk hf
  refine g_iald F (f := (q_Tokens_valueStarts sTokens)) 21 0 rfl rfl k2 d_Tokens_valueCharacter_16 ?_
  refine g_iload_n F d_Tokens_valueCharacter_17 3 rfl ?_
  refine g_iadd F d_Tokens_valueCharacter_18 ?_
  obtain ⟨k3, hf⟩ := g_chk hf
  refine g_iald F (f := (q_Tokens_row sTokens)) 13 0 rfl rfl k3 d_Tokens_valueCharacter_19 ?_
  cases hf
  exact g_iret F hr hlk rfl rfl rfl d_Tokens_valueCharacter_20
set_option maxHeartbeats 4000000 in
set_option maxRecDepth 100000 in
theorem c_Mt_part (l : Launch) (D : va_G) (cA : Nat → ClassId) (z : gZ) (ad : Nat → Nat) (sMt : SMt) (sSource : SSource) (sTokens : STokens) (sReferenceWays : SReferenceWays) (sTagWays : STagWays) (sCommentWays : SCommentWays) (sOut : SOut) (a1 : Int32) (a2 : Int32) (a3 : Int32) (a4 : Int32) {x : Int32} (hf : f_Mt_part a1 a2 a3 a4 sTokens = some x) (sz : Nat) : Met l y_Mt_part (.code y_Mt_part b_Mt_part 6 (some .int) :: lw_g) { frames := 3, cells := 0, slots := 0, locals := 66 } (gP D (gT cA) z [.ref (ad 0), .int a1, .int a2, .int a3, .int a4] (Wc z ad cA sMt sSource sTokens sReferenceWays sTagWays sCommentWays sOut) sz) (gQi D (gT cA) (va_A (Wc z ad cA sMt sSource sTokens sReferenceWays sTagWays sCommentWays sOut) sz) x (Wc z ad cA sMt sSource sTokens sReferenceWays sTagWays sCommentWays sOut)) 0 0 (va_A (Wc z ad cA sMt sSource sTokens sReferenceWays sTagWays sCommentWays sOut) sz) := by
  refine g_met (by decide) (Nat.le_of_ble_eq_true rfl) rfl ?_
  intro p e s m args below meth c F hr hlk
  unfold f_Mt_part at hf
  refine g_aload_n F d_Mt_part_0 0 rfl ?_
  refine g_iload_n F d_Mt_part_1 1 rfl ?_
  refine g_iload_n F d_Mt_part_2 2 rfl ?_
  refine g_iload_n F d_Mt_part_3 3 rfl ?_
  obtain ⟨x1, hx1, hf⟩ := g_bind hf
  refine g_ci F (r0 := x1) (ws' := (Wc z ad cA sMt sSource sTokens sReferenceWays sTagWays sCommentWays sOut)) (fun H locs ls hP hD hS hl => g_runV F (As := [.int a1, .int a2, .int a3]) (n := 3) mw_915 rfl rfl ⟨by decide, by decide⟩ rfl (by exact Nat.le_of_ble_eq_true rfl) mw_933 mw_913 mw_914 mw_73 (by decide +kernel) d_Mt_part_4 hP hD hS hl (va_recv F.2.2.2.2.2.1 hP (ci := 0) rfl (q0 := 0) rfl) (c_Mt_size l D cA z ad sMt sSource sTokens sReferenceWays sTagWays sCommentWays sOut a1 a2 a3 hx1 H.size)) ?_
  refine g_istore F (L' := [(5, .int x1), (0, .ref (ad 0)), (1, .int a1), (2, .int a2), (3, .int a3), (4, .int a4)]) d_Mt_part_7 (by decide) rfl ?_
  refine g_iload F d_Mt_part_9 5 rfl ?_
  refine g_if_lt F (tgt := 21) d_Mt_part_11 (by decide) (fun h => ?_) (fun h => ?_)
  · rw [if_pos h] at hf
    refine g_iconst F (v := (-1)) d_Mt_part_21 (by decide) ?_
    cases hf
    exact g_iret F hr hlk rfl rfl rfl d_Mt_part_22
  · rw [if_neg h] at hf
    refine g_iload F d_Mt_part_14 5 rfl ?_
    refine g_iload F d_Mt_part_16 0 rfl ?_
    refine g_icmp_lt F (tgt := 23) d_Mt_part_18 (by decide) (fun h => ?_) (fun h => ?_)
    · rw [if_pos h] at hf
      refine g_iload_n F d_Mt_part_23 4 rfl ?_
      refine g_if_ne F (tgt := 41) d_Mt_part_24 (by decide) (fun h => ?_) (fun h => ?_)
      · rw [if_neg h] at hf
        refine g_aload_n F d_Mt_part_41 1 rfl ?_
        refine g_get F (v := .ref (ad 2)) in_X12 0 rfl rfl 3 (by decide) mw_298 rfl d_Mt_part_42 ?_
        refine g_iload_n F d_Mt_part_45 2 rfl ?_
        refine g_iload_n F d_Mt_part_46 3 rfl ?_
        refine g_iload F d_Mt_part_47 5 rfl ?_
        obtain ⟨x2, hx2, hf⟩ := g_bind hf
        refine g_ci F (r0 := x2) (ws' := (Wc z ad cA sMt sSource sTokens sReferenceWays sTagWays sCommentWays sOut)) (fun H locs ls hP hD hS hl => g_runV F (As := [.int a1, .int a2, .int a4]) (n := 3) mw_941 rfl rfl ⟨by decide, by decide⟩ rfl (by exact Nat.le_of_ble_eq_true rfl) mw_938 mw_939 mw_940 mw_75 (by decide +kernel) d_Mt_part_49 hP hD hS hl (va_recv F.2.2.2.2.2.1 hP (ci := 2) rfl (q0 := 2) rfl) (c_Tokens_valueCharacter l D cA z ad sMt sSource sTokens sReferenceWays sTagWays sCommentWays sOut a1 a2 a4 hx2 H.size)) ?_
        cases hf
        exact g_iret F hr hlk rfl rfl rfl d_Mt_part_52
      · rw [if_pos h] at hf
        refine g_aload_n F d_Mt_part_27 1 rfl ?_
        refine g_get F (v := .ref (ad 2)) in_X12 0 rfl rfl 3 (by decide) mw_298 rfl d_Mt_part_28 ?_
        refine g_iload_n F d_Mt_part_31 2 rfl ?_
        refine g_iload_n F d_Mt_part_32 3 rfl ?_
        refine g_iload F d_Mt_part_33 5 rfl ?_
        obtain ⟨x3, hx3, hf⟩ := g_bind hf
        refine g_ci F (r0 := x3) (ws' := (Wc z ad cA sMt sSource sTokens sReferenceWays sTagWays sCommentWays sOut)) (fun H locs ls hP hD hS hl => g_runV F (As := [.int a1, .int a2, .int a4]) (n := 3) mw_937 rfl rfl ⟨by decide, by decide⟩ rfl (by exact Nat.le_of_ble_eq_true rfl) mw_934 mw_935 mw_936 mw_75 (by decide +kernel) d_Mt_part_35 hP hD hS hl (va_recv F.2.2.2.2.2.1 hP (ci := 2) rfl (q0 := 2) rfl) (c_Tokens_nameCharacter l D cA z ad sMt sSource sTokens sReferenceWays sTagWays sCommentWays sOut a1 a2 a4 hx3 H.size)) ?_
        refine g_goto F (tgt := 52) d_Mt_part_38 (by decide) ?_
        cases hf
        exact g_iret F hr hlk rfl rfl rfl d_Mt_part_52
    · rw [if_neg h] at hf
      refine g_iconst F (v := (-1)) d_Mt_part_21 (by decide) ?_
      cases hf
      exact g_iret F hr hlk rfl rfl rfl d_Mt_part_22
set_option maxHeartbeats 4000000 in
set_option maxRecDepth 100000 in
theorem c_Source_faultCount (l : Launch) (D : va_G) (cA : Nat → ClassId) (z : gZ) (ad : Nat → Nat) (sMt : SMt) (sSource : SSource) (sTokens : STokens) (sReferenceWays : SReferenceWays) (sTagWays : STagWays) (sCommentWays : SCommentWays) (sOut : SOut) {x : Int32} (hf : f_Source_faultCount sSource = x) (sz : Nat) : Met l y_Source_faultCount (.code y_Source_faultCount b_Source_faultCount 1 (some .int) :: lw_g) { frames := 0, cells := 0, slots := 0, locals := 0 } (gP D (gT cA) z [.ref (ad 1)] (Wc z ad cA sMt sSource sTokens sReferenceWays sTagWays sCommentWays sOut) sz) (gQi D (gT cA) (va_A (Wc z ad cA sMt sSource sTokens sReferenceWays sTagWays sCommentWays sOut) sz) x (Wc z ad cA sMt sSource sTokens sReferenceWays sTagWays sCommentWays sOut)) 0 0 (va_A (Wc z ad cA sMt sSource sTokens sReferenceWays sTagWays sCommentWays sOut) sz) := by
  refine g_met (by decide) (Nat.le_of_ble_eq_true rfl) rfl ?_
  intro p e s m args below meth c F hr hlk
  unfold f_Source_faultCount at hf
  refine g_aload_n F d_Source_faultCount_0 0 rfl ?_
  refine g_get F (v := .int (q_Source_faultCount sSource)) in_X7 1 rfl rfl 5 (by decide) mw_113 rfl d_Source_faultCount_1 ?_
  subst hf
  exact g_iret F hr hlk rfl rfl rfl d_Source_faultCount_4
set_option maxHeartbeats 4000000 in
set_option maxRecDepth 100000 in
theorem c_Mt_faults (l : Launch) (D : va_G) (cA : Nat → ClassId) (z : gZ) (ad : Nat → Nat) (sMt : SMt) (sSource : SSource) (sTokens : STokens) (sReferenceWays : SReferenceWays) (sTagWays : STagWays) (sCommentWays : SCommentWays) (sOut : SOut) {x : Int32} (hf : f_Mt_faults sSource = x) (sz : Nat) : Met l y_Mt_faults (.code y_Mt_faults b_Mt_faults 1 (some .int) :: lw_g) { frames := 1, cells := 0, slots := 0, locals := 20 } (gP D (gT cA) z [.ref (ad 0)] (Wc z ad cA sMt sSource sTokens sReferenceWays sTagWays sCommentWays sOut) sz) (gQi D (gT cA) (va_A (Wc z ad cA sMt sSource sTokens sReferenceWays sTagWays sCommentWays sOut) sz) x (Wc z ad cA sMt sSource sTokens sReferenceWays sTagWays sCommentWays sOut)) 0 0 (va_A (Wc z ad cA sMt sSource sTokens sReferenceWays sTagWays sCommentWays sOut) sz) := by
  refine g_met (by decide) (Nat.le_of_ble_eq_true rfl) rfl ?_
  intro p e s m args below meth c F hr hlk
  unfold f_Mt_faults at hf
  refine g_aload_n F d_Mt_faults_0 0 rfl ?_
  refine g_get F (v := .ref (ad 1)) in_X12 0 rfl rfl 2 (by decide) mw_297 rfl d_Mt_faults_1 ?_
  refine g_ci F (r0 := (f_Source_faultCount sSource)) (ws' := (Wc z ad cA sMt sSource sTokens sReferenceWays sTagWays sCommentWays sOut)) (fun H locs ls hP hD hS hl => g_runV F (As := []) (n := 0) mw_949 rfl rfl ⟨by decide, by decide⟩ rfl (by exact Nat.le_of_ble_eq_true rfl) mw_946 mw_947 mw_948 mw_74 (by decide +kernel) d_Mt_faults_4 hP hD hS hl (va_recv F.2.2.2.2.2.1 hP (ci := 1) rfl (q0 := 1) rfl) (c_Source_faultCount l D cA z ad sMt sSource sTokens sReferenceWays sTagWays sCommentWays sOut rfl H.size)) ?_
  subst hf
  exact g_iret F hr hlk rfl rfl rfl d_Mt_faults_7
set_option maxHeartbeats 4000000 in
set_option maxRecDepth 100000 in
theorem c_Source_faultCode (l : Launch) (D : va_G) (cA : Nat → ClassId) (z : gZ) (ad : Nat → Nat) (sMt : SMt) (sSource : SSource) (sTokens : STokens) (sReferenceWays : SReferenceWays) (sTagWays : STagWays) (sCommentWays : SCommentWays) (sOut : SOut) (a1 : Int32) {x : Int32} (hf : f_Source_faultCode a1 sSource = some x) (sz : Nat) : Met l y_Source_faultCode (.code y_Source_faultCode b_Source_faultCode 2 (some .int) :: lw_g) { frames := 0, cells := 0, slots := 0, locals := 0 } (gP D (gT cA) z [.ref (ad 1), .int a1] (Wc z ad cA sMt sSource sTokens sReferenceWays sTagWays sCommentWays sOut) sz) (gQi D (gT cA) (va_A (Wc z ad cA sMt sSource sTokens sReferenceWays sTagWays sCommentWays sOut) sz) x (Wc z ad cA sMt sSource sTokens sReferenceWays sTagWays sCommentWays sOut)) 0 0 (va_A (Wc z ad cA sMt sSource sTokens sReferenceWays sTagWays sCommentWays sOut) sz) := by
  refine g_met (by decide) (Nat.le_of_ble_eq_true rfl) rfl ?_
  intro p e s m args below meth c F hr hlk
  unfold f_Source_faultCode at hf
  refine g_aload_n F d_Source_faultCode_0 0 rfl ?_
  refine g_get F (v := .ref (ad 11)) in_X7 1 rfl rfl 3 (by decide) mw_111 rfl d_Source_faultCode_1 ?_
  refine g_iload_n F d_Source_faultCode_4 1 rfl ?_
  obtain ⟨k1, hf⟩ := g_chk hf
  refine g_iald F (f := (q_Source_codes sSource)) 11 0 rfl rfl k1 d_Source_faultCode_5 ?_
  cases hf
  exact g_iret F hr hlk rfl rfl rfl d_Source_faultCode_6
set_option maxHeartbeats 4000000 in
set_option maxRecDepth 100000 in
theorem c_Source_faultPlace (l : Launch) (D : va_G) (cA : Nat → ClassId) (z : gZ) (ad : Nat → Nat) (sMt : SMt) (sSource : SSource) (sTokens : STokens) (sReferenceWays : SReferenceWays) (sTagWays : STagWays) (sCommentWays : SCommentWays) (sOut : SOut) (a1 : Int32) {x : Int32} (hf : f_Source_faultPlace a1 sSource = some x) (sz : Nat) : Met l y_Source_faultPlace (.code y_Source_faultPlace b_Source_faultPlace 2 (some .int) :: lw_g) { frames := 0, cells := 0, slots := 0, locals := 0 } (gP D (gT cA) z [.ref (ad 1), .int a1] (Wc z ad cA sMt sSource sTokens sReferenceWays sTagWays sCommentWays sOut) sz) (gQi D (gT cA) (va_A (Wc z ad cA sMt sSource sTokens sReferenceWays sTagWays sCommentWays sOut) sz) x (Wc z ad cA sMt sSource sTokens sReferenceWays sTagWays sCommentWays sOut)) 0 0 (va_A (Wc z ad cA sMt sSource sTokens sReferenceWays sTagWays sCommentWays sOut) sz) := by
  refine g_met (by decide) (Nat.le_of_ble_eq_true rfl) rfl ?_
  intro p e s m args below meth c F hr hlk
  unfold f_Source_faultPlace at hf
  refine g_aload_n F d_Source_faultPlace_0 0 rfl ?_
  refine g_get F (v := .ref (ad 12)) in_X7 1 rfl rfl 4 (by decide) mw_112 rfl d_Source_faultPlace_1 ?_
  refine g_iload_n F d_Source_faultPlace_4 1 rfl ?_
  obtain ⟨k1, hf⟩ := g_chk hf
  refine g_iald F (f := (q_Source_places sSource)) 12 0 rfl rfl k1 d_Source_faultPlace_5 ?_
  cases hf
  exact g_iret F hr hlk rfl rfl rfl d_Source_faultPlace_6
