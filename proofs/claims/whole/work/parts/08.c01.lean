set_option maxHeartbeats 4000000 in
set_option maxRecDepth 100000 in
theorem c_Mt_feed (l : Launch) (D : va_G) (cA : Nat → ClassId) (z : gZ) (ad : Nat → Nat) (sMt : SMt) (sSource : SSource) (sTokens : STokens) (sReferenceWays : SReferenceWays) (sTagWays : STagWays) (sCommentWays : SCommentWays) (sOut : SOut) (a1 : Int64) (a2 : Int32) {x : Int32 × SMt} (hf : f_Mt_feed a1 a2 sMt = some x) (sz : Nat) : Met l y_Mt_feed (.code y_Mt_feed b_Mt_feed 5 (some .int) :: lw_g) { frames := 0, cells := 0, slots := 0, locals := 0 } (gP D (gT cA) z [.ref (ad 0), .long a1, .int a2] (Wc z ad cA sMt sSource sTokens sReferenceWays sTagWays sCommentWays sOut) sz) (gQi D (gT cA) (va_A (Wc z ad cA sMt sSource sTokens sReferenceWays sTagWays sCommentWays sOut) sz) x.1 (Wc z ad cA x.2 sSource sTokens sReferenceWays sTagWays sCommentWays sOut)) 0 0 (va_A (Wc z ad cA sMt sSource sTokens sReferenceWays sTagWays sCommentWays sOut) sz) := by
  refine g_met (by decide) (Nat.le_of_ble_eq_true rfl) rfl ?_
  intro p e s m args below meth c F hr hlk
  have blk31 : ∀ (n : Nat) (v1 : Int64) (v3 : Int32) (v4 : Int32) (tMt : SMt), f_Mt_feed_31 n v1 v3 v4 tMt = some x → GW p l e { frames := 0, cells := 0, slots := 0, locals := 0 } s m args below meth c (gQi D (gT cA) (va_A (Wc z ad cA sMt sSource sTokens sReferenceWays sTagWays sCommentWays sOut) sz) x.1 (Wc z ad cA x.2 sSource sTokens sReferenceWays sTagWays sCommentWays sOut)) D (va_A (Wc z ad cA sMt sSource sTokens sReferenceWays sTagWays sCommentWays sOut) sz) 5 (Wc z ad cA tMt sSource sTokens sReferenceWays sTagWays sCommentWays sOut) 31 [(0, .ref (ad 0)), (1, .long v1), (3, .int v3), (4, .int v4)] [] := by
    intro n
    induction n with
    | zero => intro _ _ _ _ hf; cases hf
    | succ n ih =>
      intro v1 v3 v4 tMt hf
      rw [f_Mt_feed_31] at hf
      refine g_iload F d_Mt_feed_31 3 rfl ?_
      refine g_iload_n F d_Mt_feed_33 2 rfl ?_
      refine g_icmp_ge F (tgt := 64) d_Mt_feed_34 (by decide) (fun h => ?_) (fun h => ?_)
      · rw [if_pos h] at hf
        refine g_aload_n F d_Mt_feed_64 0 rfl ?_
        refine g_dup F d_Mt_feed_65 rfl ?_
        refine g_get F (v := .int (q_Mt_textLength tMt)) in_X12 0 rfl rfl 1 (by decide) mw_296 rfl d_Mt_feed_66 ?_
        refine g_iload_n F d_Mt_feed_69 2 rfl ?_
        refine g_iadd F d_Mt_feed_70 ?_
        refine g_put F in_X12 0 rfl rfl 1 (by decide) tyX12 tyX12_ok nmX12 mw_296 rfl rfl rfl (Nat.le_of_ble_eq_true rfl) (ws' := (Wc z ad cA (u_Mt_textLength tMt ((q_Mt_textLength tMt) + v3)) sSource sTokens sReferenceWays sTagWays sCommentWays sOut)) rfl d_Mt_feed_71 ?_
        refine g_aload_n F d_Mt_feed_74 0 rfl ?_
        refine g_get F (v := .int ((q_Mt_textLength tMt) + v3)) in_X12 0 rfl rfl 1 (by decide) mw_296 rfl d_Mt_feed_75 ?_
        cases hf
        exact g_iret F hr hlk rfl rfl rfl d_Mt_feed_78
      · rw [if_neg h] at hf
        refine g_aload_n F d_Mt_feed_37 0 rfl ?_
        refine g_get F (v := .ref (ad 9)) in_X12 0 rfl rfl 0 (by decide) mw_295 rfl d_Mt_feed_38 ?_
        refine g_aload_n F d_Mt_feed_41 0 rfl ?_
        refine g_get F (v := .int (q_Mt_textLength tMt)) in_X12 0 rfl rfl 1 (by decide) mw_296 rfl d_Mt_feed_42 ?_
        refine g_iload F d_Mt_feed_45 3 rfl ?_
        refine g_iadd F d_Mt_feed_47 ?_
        refine g_lload_n F d_Mt_feed_48 1 rfl ?_
        refine g_bipush F (v := 8) d_Mt_feed_49 (by decide) ?_
        refine g_iload F d_Mt_feed_51 3 rfl ?_
        refine g_imul F d_Mt_feed_53 ?_
        refine g_lshr F d_Mt_feed_54 ?_
        refine g_l2i F d_Mt_feed_55 ?_
        refine g_i2b F d_Mt_feed_56 ?_
        obtain ⟨k1, hf⟩ := g_chk hf
        refine g_bast F (f := (q_Mt_text tMt)) 9 1 rfl rfl k1 (ws' := (Wc z ad cA (u_Mt_text tMt (upd (q_Mt_text tMt) (((q_Mt_textLength tMt) + v4) : Int32).toNatClampNeg (vp_nar .byte (((v1 >>> (((8 * v4) : Int32).toInt64 &&& 63)) : Int64).toInt32 : Int32).toInt8.toInt32))) sSource sTokens sReferenceWays sTagWays sCommentWays sOut)) rfl d_Mt_feed_57 ?_
        refine g_iinc F (j := 3) (v := (v4 + 1)) (L' := [(4, .int (v4 + 1)), (0, .ref (ad 0)), (1, .long v1), (3, .int v3)]) d_Mt_feed_58 rfl rfl (by decide) rfl ?_
        refine g_goto F (tgt := 31) d_Mt_feed_61 (by decide) ?_
        refine g_loc [1, 2, 3, 0] rfl ?_
        exact ih v1 v3 (v4 + 1) (u_Mt_text tMt (upd (q_Mt_text tMt) (((q_Mt_textLength tMt) + v4) : Int32).toNatClampNeg (vp_nar .byte (((v1 >>> (((8 * v4) : Int32).toInt64 &&& 63)) : Int64).toInt32 : Int32).toInt8.toInt32))) hf
  unfold f_Mt_feed at hf
  refine g_iload_n F d_Mt_feed_0 2 rfl ?_
  refine g_iconst F (v := 1) d_Mt_feed_1 (by decide) ?_
  refine g_icmp_lt F (tgt := 11) d_Mt_feed_2 (by decide) (fun h => ?_) (fun h => ?_)
  · rw [if_pos h] at hf
    refine g_iconst F (v := (-1)) d_Mt_feed_11 (by decide) ?_
    cases hf
    exact g_iret F hr hlk rfl rfl rfl d_Mt_feed_12
  · rw [if_neg h] at hf
    refine g_iload_n F d_Mt_feed_5 2 rfl ?_
    refine g_bipush F (v := 8) d_Mt_feed_6 (by decide) ?_
    refine g_icmp_le F (tgt := 13) d_Mt_feed_8 (by decide) (fun h => ?_) (fun h => ?_)
    · rw [if_pos h] at hf
      refine g_aload_n F d_Mt_feed_13 0 rfl ?_
      refine g_get F (v := .int (q_Mt_textLength sMt)) in_X12 0 rfl rfl 1 (by decide) mw_296 rfl d_Mt_feed_14 ?_
      refine g_iload_n F d_Mt_feed_17 2 rfl ?_
      refine g_iadd F d_Mt_feed_18 ?_
      refine g_sipush F (v := 400) d_Mt_feed_19 (by decide) ?_
      refine g_icmp_le F (tgt := 28) d_Mt_feed_22 (by decide) (fun h => ?_) (fun h => ?_)
      · rw [if_pos h] at hf
        refine g_iconst F (v := 0) d_Mt_feed_28 (by decide) ?_
        refine g_istore F (L' := [(4, .int 0), (0, .ref (ad 0)), (1, .long a1), (3, .int a2)]) d_Mt_feed_29 (by decide) rfl ?_
        refine g_loc [1, 2, 3, 0] rfl ?_
        exact blk31 FU a1 a2 0 sMt hf
      · rw [if_neg h] at hf
        refine g_bipush F (v := (-2)) d_Mt_feed_25 (by decide) ?_
        cases hf
        exact g_iret F hr hlk rfl rfl rfl d_Mt_feed_27
    · rw [if_neg h] at hf
      refine g_iconst F (v := (-1)) d_Mt_feed_11 (by decide) ?_
      cases hf
      exact g_iret F hr hlk rfl rfl rfl d_Mt_feed_12
set_option maxHeartbeats 4000000 in
set_option maxRecDepth 100000 in
theorem c_Mt_clear (l : Launch) (D : va_G) (cA : Nat → ClassId) (z : gZ) (ad : Nat → Nat) (sMt : SMt) (sSource : SSource) (sTokens : STokens) (sReferenceWays : SReferenceWays) (sTagWays : STagWays) (sCommentWays : SCommentWays) (sOut : SOut) {x : Int32 × SMt} (hf : f_Mt_clear sMt = x) (sz : Nat) : Met l y_Mt_clear (.code y_Mt_clear b_Mt_clear 2 (some .int) :: lw_g) { frames := 0, cells := 0, slots := 0, locals := 0 } (gP D (gT cA) z [.ref (ad 0)] (Wc z ad cA sMt sSource sTokens sReferenceWays sTagWays sCommentWays sOut) sz) (gQi D (gT cA) (va_A (Wc z ad cA sMt sSource sTokens sReferenceWays sTagWays sCommentWays sOut) sz) x.1 (Wc z ad cA x.2 sSource sTokens sReferenceWays sTagWays sCommentWays sOut)) 0 0 (va_A (Wc z ad cA sMt sSource sTokens sReferenceWays sTagWays sCommentWays sOut) sz) := by
  refine g_met (by decide) (Nat.le_of_ble_eq_true rfl) rfl ?_
  intro p e s m args below meth c F hr hlk
  unfold f_Mt_clear at hf
  refine g_aload_n F d_Mt_clear_0 0 rfl ?_
  refine g_get F (v := .int (q_Mt_textLength sMt)) in_X12 0 rfl rfl 1 (by decide) mw_296 rfl d_Mt_clear_1 ?_
  refine g_istore_n F (L' := [(1, .int (q_Mt_textLength sMt)), (0, .ref (ad 0))]) d_Mt_clear_4 rfl (by decide) rfl ?_
  refine g_aload_n F d_Mt_clear_5 1 rfl ?_
  refine g_iconst F (v := 0) d_Mt_clear_6 (by decide) ?_
  refine g_put F in_X12 0 rfl rfl 1 (by decide) tyX12 tyX12_ok nmX12 mw_296 rfl rfl rfl (Nat.le_of_ble_eq_true rfl) (ws' := (Wc z ad cA (u_Mt_textLength sMt 0) sSource sTokens sReferenceWays sTagWays sCommentWays sOut)) rfl d_Mt_clear_7 ?_
  refine g_iload_n F d_Mt_clear_10 0 rfl ?_
  subst hf
  exact g_iret F hr hlk rfl rfl rfl d_Mt_clear_11
set_option maxHeartbeats 4000000 in
set_option maxRecDepth 100000 in
theorem c_Out_length (l : Launch) (D : va_G) (cA : Nat → ClassId) (z : gZ) (ad : Nat → Nat) (sMt : SMt) (sSource : SSource) (sTokens : STokens) (sReferenceWays : SReferenceWays) (sTagWays : STagWays) (sCommentWays : SCommentWays) (sOut : SOut) {x : Int32} (hf : f_Out_length sOut = x) (sz : Nat) : Met l y_Out_length (.code y_Out_length b_Out_length 1 (some .int) :: lw_g) { frames := 0, cells := 0, slots := 0, locals := 0 } (gP D (gT cA) z [.ref (ad 8)] (Wc z ad cA sMt sSource sTokens sReferenceWays sTagWays sCommentWays sOut) sz) (gQi D (gT cA) (va_A (Wc z ad cA sMt sSource sTokens sReferenceWays sTagWays sCommentWays sOut) sz) x (Wc z ad cA sMt sSource sTokens sReferenceWays sTagWays sCommentWays sOut)) 0 0 (va_A (Wc z ad cA sMt sSource sTokens sReferenceWays sTagWays sCommentWays sOut) sz) := by
  refine g_met (by decide) (Nat.le_of_ble_eq_true rfl) rfl ?_
  intro p e s m args below meth c F hr hlk
  unfold f_Out_length at hf
  refine g_aload_n F d_Out_length_0 0 rfl ?_
  refine g_get F (v := .int (q_Out_length sOut)) in_X4 8 rfl rfl 2 (by decide) mw_287 rfl d_Out_length_1 ?_
  subst hf
  exact g_iret F hr hlk rfl rfl rfl d_Out_length_4
set_option maxHeartbeats 4000000 in
set_option maxRecDepth 100000 in
theorem c_Out_copyTo (l : Launch) (D : va_G) (cA : Nat → ClassId) (z : gZ) (ad : Nat → Nat) (sMt : SMt) (sSource : SSource) (sTokens : STokens) (sReferenceWays : SReferenceWays) (sTagWays : STagWays) (sCommentWays : SCommentWays) (sOut : SOut) {x : SMt} (hf : f_Out_copyTo sMt sOut = some x) (sz : Nat) : Met l y_Out_copyTo (.code y_Out_copyTo b_Out_copyTo 2 none :: lw_g) { frames := 1, cells := 0, slots := 0, locals := 40 } (gP D (gT cA) z [.ref (ad 8), .ref (ad 9)] (Wc z ad cA sMt sSource sTokens sReferenceWays sTagWays sCommentWays sOut) sz) (gQv D (gT cA) (va_A (Wc z ad cA sMt sSource sTokens sReferenceWays sTagWays sCommentWays sOut) sz) (Wc z ad cA x sSource sTokens sReferenceWays sTagWays sCommentWays sOut)) 0 0 (va_A (Wc z ad cA sMt sSource sTokens sReferenceWays sTagWays sCommentWays sOut) sz) := by
  refine g_met (by decide) (Nat.le_of_ble_eq_true rfl) rfl ?_
  intro p e s m args below meth c F hr hlk
  unfold f_Out_copyTo at hf
  refine g_aload_n F d_Out_copyTo_0 0 rfl ?_
  refine g_get F (v := .ref (ad 23)) in_X4 8 rfl rfl 1 (by decide) mw_286 rfl d_Out_copyTo_1 ?_
  refine g_iconst F (v := 0) d_Out_copyTo_4 (by decide) ?_
  refine g_aload_n F d_Out_copyTo_5 1 rfl ?_
  refine g_iconst F (v := 0) d_Out_copyTo_6 (by decide) ?_
  refine g_aload_n F d_Out_copyTo_7 0 rfl ?_
  refine g_get F (v := .int (q_Out_length sOut)) in_X4 8 rfl rfl 2 (by decide) mw_287 rfl d_Out_copyTo_8 ?_
  refine g_aload_n F d_Out_copyTo_11 1 rfl ?_
  refine g_alen F (v := 400) 9 1 rfl rfl rfl d_Out_copyTo_12 ?_
  refine g_mmin F mw_334 mw_335 mw_86 mw_336 (by decide) (by exact Nat.le_of_ble_eq_true rfl) d_Out_copyTo_13 ?_
  obtain ⟨k1, hf⟩ := g_chk hf
  refine g_acopy F (f := (q_Out_bytes sOut)) (g := (q_Mt_text sMt)) 23 9 1 1 rfl rfl rfl rfl k1 (ws' := (Wc z ad cA (u_Mt_text sMt (va_cpy (q_Out_bytes sOut) (q_Mt_text sMt) (0 : Int32).toNatClampNeg (0 : Int32).toNatClampNeg ((if 400 < (q_Out_length sOut) then 400 else (q_Out_length sOut)) : Int32).toNatClampNeg)) sSource sTokens sReferenceWays sTagWays sCommentWays sOut)) rfl mw_337 mw_339 mw_338 mw_87 (by decide) (by decide) (Nat.le_of_ble_eq_true rfl) d_Out_copyTo_16 ?_
  cases hf
  exact g_vret F hr hlk rfl rfl d_Out_copyTo_19
set_option maxHeartbeats 4000000 in
set_option maxRecDepth 100000 in
theorem c_Mt_again (l : Launch) (D : va_G) (cA : Nat → ClassId) (z : gZ) (ad : Nat → Nat) (sMt : SMt) (sSource : SSource) (sTokens : STokens) (sReferenceWays : SReferenceWays) (sTagWays : STagWays) (sCommentWays : SCommentWays) (sOut : SOut) {x : Int32 × SMt} (hf : f_Mt_again sMt sOut = some x) (sz : Nat) : Met l y_Mt_again (.code y_Mt_again b_Mt_again 2 (some .int) :: lw_g) { frames := 2, cells := 0, slots := 0, locals := 61 } (gP D (gT cA) z [.ref (ad 0)] (Wc z ad cA sMt sSource sTokens sReferenceWays sTagWays sCommentWays sOut) sz) (gQi D (gT cA) (va_A (Wc z ad cA sMt sSource sTokens sReferenceWays sTagWays sCommentWays sOut) sz) x.1 (Wc z ad cA x.2 sSource sTokens sReferenceWays sTagWays sCommentWays sOut)) 0 0 (va_A (Wc z ad cA sMt sSource sTokens sReferenceWays sTagWays sCommentWays sOut) sz) := by
  refine g_met (by decide) (Nat.le_of_ble_eq_true rfl) rfl ?_
  intro p e s m args below meth c F hr hlk
  unfold f_Mt_again at hf
  refine g_aload_n F d_Mt_again_0 0 rfl ?_
  refine g_get F (v := .ref (ad 8)) in_X12 0 rfl rfl 5 (by decide) mw_300 rfl d_Mt_again_1 ?_
  refine g_ci F (r0 := (f_Out_length sOut)) (ws' := (Wc z ad cA sMt sSource sTokens sReferenceWays sTagWays sCommentWays sOut)) (fun H locs ls hP hD hS hl => g_runV F (As := []) (n := 0) mw_329 rfl rfl ⟨by decide, by decide⟩ rfl (by exact Nat.le_of_ble_eq_true rfl) mw_326 mw_327 mw_328 mw_84 (by decide +kernel) d_Mt_again_4 hP hD hS hl (va_recv F.2.2.2.2.2.1 hP (ci := 8) rfl (q0 := 8) rfl) (c_Out_length l D cA z ad sMt sSource sTokens sReferenceWays sTagWays sCommentWays sOut rfl H.size)) ?_
  refine g_istore_n F (L' := [(1, .int (f_Out_length sOut)), (0, .ref (ad 0))]) d_Mt_again_7 rfl (by decide) rfl ?_
  refine g_iload_n F d_Mt_again_8 0 rfl ?_
  refine g_sipush F (v := 400) d_Mt_again_9 (by decide) ?_
  refine g_icmp_le F (tgt := 18) d_Mt_again_12 (by decide) (fun h => ?_) (fun h => ?_)
  · rw [if_pos h] at hf
    refine g_aload_n F d_Mt_again_18 1 rfl ?_
    refine g_get F (v := .ref (ad 8)) in_X12 0 rfl rfl 5 (by decide) mw_300 rfl d_Mt_again_19 ?_
    refine g_aload_n F d_Mt_again_22 1 rfl ?_
    refine g_get F (v := .ref (ad 9)) in_X12 0 rfl rfl 0 (by decide) mw_295 rfl d_Mt_again_23 ?_
    obtain ⟨x1, hx1, hf⟩ := g_bind hf
    refine g_cv F (ws' := (Wc z ad cA x1 sSource sTokens sReferenceWays sTagWays sCommentWays sOut)) (fun H locs ls hP hD hS hl => g_runV F (As := [.ref (ad 9)]) (n := 1) mw_333 rfl rfl ⟨by decide, by decide⟩ rfl (by exact Nat.le_of_ble_eq_true rfl) mw_330 mw_331 mw_332 mw_84 (by decide +kernel) d_Mt_again_26 hP hD hS hl (va_recv F.2.2.2.2.2.1 hP (ci := 8) rfl (q0 := 8) rfl) (c_Out_copyTo l D cA z ad sMt sSource sTokens sReferenceWays sTagWays sCommentWays sOut hx1 H.size)) ?_
    refine g_aload_n F d_Mt_again_29 1 rfl ?_
    refine g_iload_n F d_Mt_again_30 0 rfl ?_
    refine g_put F in_X12 0 rfl rfl 1 (by decide) tyX12 tyX12_ok nmX12 mw_296 rfl rfl rfl (Nat.le_of_ble_eq_true rfl) (ws' := (Wc z ad cA (u_Mt_textLength x1 (f_Out_length sOut)) sSource sTokens sReferenceWays sTagWays sCommentWays sOut)) rfl d_Mt_again_31 ?_
    refine g_iload_n F d_Mt_again_34 0 rfl ?_
    cases hf
    exact g_iret F hr hlk rfl rfl rfl d_Mt_again_35
  · rw [if_neg h] at hf
    refine g_bipush F (v := (-2)) d_Mt_again_15 (by decide) ?_
    cases hf
    exact g_iret F hr hlk rfl rfl rfl d_Mt_again_17
set_option maxHeartbeats 4000000 in
set_option maxRecDepth 100000 in
theorem c_Source_open (l : Launch) (D : va_G) (cA : Nat → ClassId) (z : gZ) (ad : Nat → Nat) (sMt : SMt) (sSource : SSource) (sTokens : STokens) (sReferenceWays : SReferenceWays) (sTagWays : STagWays) (sCommentWays : SCommentWays) (sOut : SOut) (a2 : Int32) {x : SSource} (hf : f_Source_open a2 sMt sSource = some x) (sz : Nat) : Met l y_Source_open (.code y_Source_open b_Source_open 5 none :: lw_g) { frames := 0, cells := 0, slots := 0, locals := 0 } (gP D (gT cA) z [.ref (ad 1), .ref (ad 9), .int a2] (Wc z ad cA sMt sSource sTokens sReferenceWays sTagWays sCommentWays sOut) sz) (gQv D (gT cA) (va_A (Wc z ad cA sMt sSource sTokens sReferenceWays sTagWays sCommentWays sOut) sz) (Wc z ad cA sMt x sTokens sReferenceWays sTagWays sCommentWays sOut)) 0 0 (va_A (Wc z ad cA sMt sSource sTokens sReferenceWays sTagWays sCommentWays sOut) sz) := by
  refine g_met (by decide) (Nat.le_of_ble_eq_true rfl) rfl ?_
  intro p e s m args below meth c F hr hlk
  have blk17 : ∀ (n : Nat) (v2 : Int32) (v3 : Int32) (tSource : SSource), f_Source_open_17 n v2 v3 sMt tSource = some x → GW p l e { frames := 0, cells := 0, slots := 0, locals := 0 } s m args below meth c (gQv D (gT cA) (va_A (Wc z ad cA sMt sSource sTokens sReferenceWays sTagWays sCommentWays sOut) sz) (Wc z ad cA sMt x sTokens sReferenceWays sTagWays sCommentWays sOut)) D (va_A (Wc z ad cA sMt sSource sTokens sReferenceWays sTagWays sCommentWays sOut) sz) 5 (Wc z ad cA sMt tSource sTokens sReferenceWays sTagWays sCommentWays sOut) 17 [(0, .ref (ad 1)), (1, .ref (ad 9)), (2, .int v2), (3, .int v3)] [] := by
    intro n
    induction n with
    | zero => intro _ _ _ hf; cases hf
    | succ n ih =>
      intro v2 v3 tSource hf
      rw [f_Source_open_17] at hf
      refine g_iload_n F d_Source_open_17 3 rfl ?_
      refine g_iload_n F d_Source_open_18 2 rfl ?_
      refine g_icmp_ge F (tgt := 104) d_Source_open_19 (by decide) (fun h => ?_) (fun h => ?_)
      · rw [if_pos h] at hf
        cases hf
        exact g_vret F hr hlk rfl rfl d_Source_open_104
      · rw [if_neg h] at hf
        refine g_aload_n F d_Source_open_22 1 rfl ?_
        refine g_iload_n F d_Source_open_23 3 rfl ?_
        obtain ⟨k1, hf⟩ := g_chk hf
        refine g_bald F (f := (q_Mt_text sMt)) 9 1 rfl rfl k1 d_Source_open_24 ?_
        refine g_bipush F (v := 13) d_Source_open_25 (by decide) ?_
        refine g_icmp_ne F (tgt := 51) d_Source_open_27 (by decide) (fun h => ?_) (fun h => ?_)
        · rw [if_neg h] at hf
          refine g_iconst F (v := 0) d_Source_open_51 (by decide) ?_
          refine g_istore F (L' := [(4, .int 0), (0, .ref (ad 1)), (1, .ref (ad 9)), (2, .int v2), (3, .int v3)]) d_Source_open_52 (by decide) rfl ?_
          refine g_iload F d_Source_open_54 0 rfl ?_
          refine g_if_ne F (tgt := 98) d_Source_open_56 (by decide) (fun h => absurd h (by decide)) (fun _ => ?_)
          refine g_aload_n F d_Source_open_59 1 rfl ?_
          refine g_get F (v := .ref (ad 10)) in_X7 1 rfl rfl 0 (by decide) mw_108 rfl d_Source_open_60 ?_
          refine g_aload_n F d_Source_open_63 1 rfl ?_
          refine g_get F (v := .int (q_Source_count tSource)) in_X7 1 rfl rfl 1 (by decide) mw_109 rfl d_Source_open_64 ?_
          refine g_aload_n F d_Source_open_67 2 rfl ?_
          refine g_iload_n F d_Source_open_68 4 rfl ?_
          obtain ⟨k2, hf⟩ := g_chk hf
          refine g_bald F (f := (q_Mt_text sMt)) 9 1 rfl rfl k2 d_Source_open_69 ?_
          refine g_bipush F (v := 13) d_Source_open_70 (by decide) ?_
          refine g_icmp_ne F (tgt := 80) d_Source_open_72 (by decide) (fun h => ?_) (fun h => ?_)
          · rw [if_neg h] at hf
            refine g_aload_n F d_Source_open_80 2 rfl ?_
            refine g_iload_n F d_Source_open_81 4 rfl ?_
            obtain ⟨k3, hf⟩ := g_chk hf
            refine g_bald F (f := (q_Mt_text sMt)) 9 1 rfl rfl k3 d_Source_open_82 ?_
            refine g_sipush F (v := 255) d_Source_open_83 (by decide) ?_
            refine g_iand F d_Source_open_86 ?_
            obtain ⟨k4, hf⟩ := g_chk hf
            refine g_iast F (f := (q_Source_characters tSource)) 10 0 rfl rfl k4 (ws' := (Wc z ad cA sMt (u_Source_characters tSource (upd (q_Source_characters tSource) ((q_Source_count tSource) : Int32).toNatClampNeg (((q_Mt_text sMt) (v3 : Int32).toNatClampNeg) &&& 255))) sTokens sReferenceWays sTagWays sCommentWays sOut)) rfl d_Source_open_87 ?_
            refine g_aload_n F d_Source_open_88 1 rfl ?_
            refine g_dup F d_Source_open_89 rfl ?_
            refine g_get F (v := .int (q_Source_count tSource)) in_X7 1 rfl rfl 1 (by decide) mw_109 rfl d_Source_open_90 ?_
            refine g_iconst F (v := 1) d_Source_open_93 (by decide) ?_
            refine g_iadd F d_Source_open_94 ?_
            refine g_put F in_X7 1 rfl rfl 1 (by decide) tyX7 tyX7_ok nmX7 mw_109 rfl rfl rfl (Nat.le_of_ble_eq_true rfl) (ws' := (Wc z ad cA sMt (u_Source_count (u_Source_characters tSource (upd (q_Source_characters tSource) ((q_Source_count tSource) : Int32).toNatClampNeg (((q_Mt_text sMt) (v3 : Int32).toNatClampNeg) &&& 255))) ((q_Source_count tSource) + 1)) sTokens sReferenceWays sTagWays sCommentWays sOut)) rfl d_Source_open_95 ?_
            refine g_iinc F (j := 4) (v := (v3 + 1)) (L' := [(3, .int (v3 + 1)), (4, .int 0), (0, .ref (ad 1)), (1, .ref (ad 9)), (2, .int v2)]) d_Source_open_98 rfl rfl (by decide) rfl ?_
            refine g_goto F (tgt := 17) d_Source_open_101 (by decide) ?_
            refine g_loc [2, 3, 4, 0] rfl ?_
            exact ih v2 (v3 + 1) (u_Source_count (u_Source_characters tSource (upd (q_Source_characters tSource) ((q_Source_count tSource) : Int32).toNatClampNeg (((q_Mt_text sMt) (v3 : Int32).toNatClampNeg) &&& 255))) ((q_Source_count tSource) + 1)) hf
          · rw [if_pos h] at hf
            refine g_bipush F (v := 10) d_Source_open_75 (by decide) ?_
            refine g_goto F (tgt := 87) d_Source_open_77 (by decide) ?_
            obtain ⟨k5, hf⟩ := g_chk hf
            refine g_iast F (f := (q_Source_characters tSource)) 10 0 rfl rfl k5 (ws' := (Wc z ad cA sMt (u_Source_characters tSource (upd (q_Source_characters tSource) ((q_Source_count tSource) : Int32).toNatClampNeg 10)) sTokens sReferenceWays sTagWays sCommentWays sOut)) rfl d_Source_open_87 ?_
            refine g_aload_n F d_Source_open_88 1 rfl ?_
            refine g_dup F d_Source_open_89 rfl ?_
            refine g_get F (v := .int (q_Source_count tSource)) in_X7 1 rfl rfl 1 (by decide) mw_109 rfl d_Source_open_90 ?_
            refine g_iconst F (v := 1) d_Source_open_93 (by decide) ?_
            refine g_iadd F d_Source_open_94 ?_
            refine g_put F in_X7 1 rfl rfl 1 (by decide) tyX7 tyX7_ok nmX7 mw_109 rfl rfl rfl (Nat.le_of_ble_eq_true rfl) (ws' := (Wc z ad cA sMt (u_Source_count (u_Source_characters tSource (upd (q_Source_characters tSource) ((q_Source_count tSource) : Int32).toNatClampNeg 10)) ((q_Source_count tSource) + 1)) sTokens sReferenceWays sTagWays sCommentWays sOut)) rfl d_Source_open_95 ?_
            refine g_iinc F (j := 4) (v := (v3 + 1)) (L' := [(3, .int (v3 + 1)), (4, .int 0), (0, .ref (ad 1)), (1, .ref (ad 9)), (2, .int v2)]) d_Source_open_98 rfl rfl (by decide) rfl ?_
            refine g_goto F (tgt := 17) d_Source_open_101 (by decide) ?_
            refine g_loc [2, 3, 4, 0] rfl ?_
            exact ih v2 (v3 + 1) (u_Source_count (u_Source_characters tSource (upd (q_Source_characters tSource) ((q_Source_count tSource) : Int32).toNatClampNeg 10)) ((q_Source_count tSource) + 1)) hf
        · rw [if_pos h] at hf
          refine g_iload_n F d_Source_open_30 3 rfl ?_
          refine g_iconst F (v := 1) d_Source_open_31 (by decide) ?_
          refine g_iadd F d_Source_open_32 ?_
          refine g_iload_n F d_Source_open_33 2 rfl ?_
          refine g_icmp_ge F (tgt := 51) d_Source_open_34 (by decide) (fun h => ?_) (fun h => ?_)
          · rw [if_pos h] at hf
            refine g_iconst F (v := 0) d_Source_open_51 (by decide) ?_
            refine g_istore F (L' := [(4, .int 0), (0, .ref (ad 1)), (1, .ref (ad 9)), (2, .int v2), (3, .int v3)]) d_Source_open_52 (by decide) rfl ?_
            refine g_iload F d_Source_open_54 0 rfl ?_
            refine g_if_ne F (tgt := 98) d_Source_open_56 (by decide) (fun h => absurd h (by decide)) (fun _ => ?_)
            refine g_aload_n F d_Source_open_59 1 rfl ?_
            refine g_get F (v := .ref (ad 10)) in_X7 1 rfl rfl 0 (by decide) mw_108 rfl d_Source_open_60 ?_
            refine g_aload_n F d_Source_open_63 1 rfl ?_
            refine g_get F (v := .int (q_Source_count tSource)) in_X7 1 rfl rfl 1 (by decide) mw_109 rfl d_Source_open_64 ?_
            refine g_aload_n F d_Source_open_67 2 rfl ?_
            refine g_iload_n F d_Source_open_68 4 rfl ?_
            obtain ⟨k6, hf⟩ := g_chk hf
            refine g_bald F (f := (q_Mt_text sMt)) 9 1 rfl rfl k6 d_Source_open_69 ?_
            refine g_bipush F (v := 13) d_Source_open_70 (by decide) ?_
            refine g_icmp_ne F (tgt := 80) d_Source_open_72 (by decide) (fun h => ?_) (fun h => ?_)
            · rw [if_neg h] at hf
              refine g_aload_n F d_Source_open_80 2 rfl ?_
              refine g_iload_n F d_Source_open_81 4 rfl ?_
              obtain ⟨k7, hf⟩ := g_chk hf
              refine g_bald F (f := (q_Mt_text sMt)) 9 1 rfl rfl k7 d_Source_open_82 ?_
              refine g_sipush F (v := 255) d_Source_open_83 (by decide) ?_
              refine g_iand F d_Source_open_86 ?_
              obtain ⟨k8, hf⟩ := g_chk hf
              refine g_iast F (f := (q_Source_characters tSource)) 10 0 rfl rfl k8 (ws' := (Wc z ad cA sMt (u_Source_characters tSource (upd (q_Source_characters tSource) ((q_Source_count tSource) : Int32).toNatClampNeg (((q_Mt_text sMt) (v3 : Int32).toNatClampNeg) &&& 255))) sTokens sReferenceWays sTagWays sCommentWays sOut)) rfl d_Source_open_87 ?_
              refine g_aload_n F d_Source_open_88 1 rfl ?_
              refine g_dup F d_Source_open_89 rfl ?_
              refine g_get F (v := .int (q_Source_count tSource)) in_X7 1 rfl rfl 1 (by decide) mw_109 rfl d_Source_open_90 ?_
              refine g_iconst F (v := 1) d_Source_open_93 (by decide) ?_
              refine g_iadd F d_Source_open_94 ?_
              refine g_put F in_X7 1 rfl rfl 1 (by decide) tyX7 tyX7_ok nmX7 mw_109 rfl rfl rfl (Nat.le_of_ble_eq_true rfl) (ws' := (Wc z ad cA sMt (u_Source_count (u_Source_characters tSource (upd (q_Source_characters tSource) ((q_Source_count tSource) : Int32).toNatClampNeg (((q_Mt_text sMt) (v3 : Int32).toNatClampNeg) &&& 255))) ((q_Source_count tSource) + 1)) sTokens sReferenceWays sTagWays sCommentWays sOut)) rfl d_Source_open_95 ?_
              refine g_iinc F (j := 4) (v := (v3 + 1)) (L' := [(3, .int (v3 + 1)), (4, .int 0), (0, .ref (ad 1)), (1, .ref (ad 9)), (2, .int v2)]) d_Source_open_98 rfl rfl (by decide) rfl ?_
              refine g_goto F (tgt := 17) d_Source_open_101 (by decide) ?_
              refine g_loc [2, 3, 4, 0] rfl ?_
              exact ih v2 (v3 + 1) (u_Source_count (u_Source_characters tSource (upd (q_Source_characters tSource) ((q_Source_count tSource) : Int32).toNatClampNeg (((q_Mt_text sMt) (v3 : Int32).toNatClampNeg) &&& 255))) ((q_Source_count tSource) + 1)) hf
            · rw [if_pos h] at hf
              refine g_bipush F (v := 10) d_Source_open_75 (by decide) ?_
              refine g_goto F (tgt := 87) d_Source_open_77 (by decide) ?_
              obtain ⟨k9, hf⟩ := g_chk hf
              refine g_iast F (f := (q_Source_characters tSource)) 10 0 rfl rfl k9 (ws' := (Wc z ad cA sMt (u_Source_characters tSource (upd (q_Source_characters tSource) ((q_Source_count tSource) : Int32).toNatClampNeg 10)) sTokens sReferenceWays sTagWays sCommentWays sOut)) rfl d_Source_open_87 ?_
              refine g_aload_n F d_Source_open_88 1 rfl ?_
              refine g_dup F d_Source_open_89 rfl ?_
              refine g_get F (v := .int (q_Source_count tSource)) in_X7 1 rfl rfl 1 (by decide) mw_109 rfl d_Source_open_90 ?_
              refine g_iconst F (v := 1) d_Source_open_93 (by decide) ?_
              refine g_iadd F d_Source_open_94 ?_
              refine g_put F in_X7 1 rfl rfl 1 (by decide) tyX7 tyX7_ok nmX7 mw_109 rfl rfl rfl (Nat.le_of_ble_eq_true rfl) (ws' := (Wc z ad cA sMt (u_Source_count (u_Source_characters tSource (upd (q_Source_characters tSource) ((q_Source_count tSource) : Int32).toNatClampNeg 10)) ((q_Source_count tSource) + 1)) sTokens sReferenceWays sTagWays sCommentWays sOut)) rfl d_Source_open_95 ?_
              refine g_iinc F (j := 4) (v := (v3 + 1)) (L' := [(3, .int (v3 + 1)), (4, .int 0), (0, .ref (ad 1)), (1, .ref (ad 9)), (2, .int v2)]) d_Source_open_98 rfl rfl (by decide) rfl ?_
              refine g_goto F (tgt := 17) d_Source_open_101 (by decide) ?_
              refine g_loc [2, 3, 4, 0] rfl ?_
              exact ih v2 (v3 + 1) (u_Source_count (u_Source_characters tSource (upd (q_Source_characters tSource) ((q_Source_count tSource) : Int32).toNatClampNeg 10)) ((q_Source_count tSource) + 1)) hf
          · rw [if_neg h] at hf
            refine g_aload_n F d_Source_open_37 1 rfl ?_
            refine g_iload_n F d_Source_open_38 3 rfl ?_
            refine g_iconst F (v := 1) d_Source_open_39 (by decide) ?_
            refine g_iadd F d_Source_open_40 ?_
            obtain ⟨k10, hf⟩ := g_chk hf
            refine g_bald F (f := (q_Mt_text sMt)) 9 1 rfl rfl k10 d_Source_open_41 ?_
            refine g_bipush F (v := 10) d_Source_open_42 (by decide) ?_
            refine g_icmp_ne F (tgt := 51) d_Source_open_44 (by decide) (fun h => ?_) (fun h => ?_)
            · rw [if_neg h] at hf
              refine g_iconst F (v := 0) d_Source_open_51 (by decide) ?_
              refine g_istore F (L' := [(4, .int 0), (0, .ref (ad 1)), (1, .ref (ad 9)), (2, .int v2), (3, .int v3)]) d_Source_open_52 (by decide) rfl ?_
              refine g_iload F d_Source_open_54 0 rfl ?_
              refine g_if_ne F (tgt := 98) d_Source_open_56 (by decide) (fun h => absurd h (by decide)) (fun _ => ?_)
              refine g_aload_n F d_Source_open_59 1 rfl ?_
              refine g_get F (v := .ref (ad 10)) in_X7 1 rfl rfl 0 (by decide) mw_108 rfl d_Source_open_60 ?_
              refine g_aload_n F d_Source_open_63 1 rfl ?_
              refine g_get F (v := .int (q_Source_count tSource)) in_X7 1 rfl rfl 1 (by decide) mw_109 rfl d_Source_open_64 ?_
              refine g_aload_n F d_Source_open_67 2 rfl ?_
              refine g_iload_n F d_Source_open_68 4 rfl ?_
              obtain ⟨k11, hf⟩ := g_chk hf
              refine g_bald F (f := (q_Mt_text sMt)) 9 1 rfl rfl k11 d_Source_open_69 ?_
              refine g_bipush F (v := 13) d_Source_open_70 (by decide) ?_
              refine g_icmp_ne F (tgt := 80) d_Source_open_72 (by decide) (fun h => ?_) (fun h => ?_)
              · rw [if_neg h] at hf
                refine g_aload_n F d_Source_open_80 2 rfl ?_
                refine g_iload_n F d_Source_open_81 4 rfl ?_
                obtain ⟨k12, hf⟩ := g_chk hf
                refine g_bald F (f := (q_Mt_text sMt)) 9 1 rfl rfl k12 d_Source_open_82 ?_
                refine g_sipush F (v := 255) d_Source_open_83 (by decide) ?_
                refine g_iand F d_Source_open_86 ?_
                obtain ⟨k13, hf⟩ := g_chk hf
                refine g_iast F (f := (q_Source_characters tSource)) 10 0 rfl rfl k13 (ws' := (Wc z ad cA sMt (u_Source_characters tSource (upd (q_Source_characters tSource) ((q_Source_count tSource) : Int32).toNatClampNeg (((q_Mt_text sMt) (v3 : Int32).toNatClampNeg) &&& 255))) sTokens sReferenceWays sTagWays sCommentWays sOut)) rfl d_Source_open_87 ?_
                refine g_aload_n F d_Source_open_88 1 rfl ?_
                refine g_dup F d_Source_open_89 rfl ?_
                refine g_get F (v := .int (q_Source_count tSource)) in_X7 1 rfl rfl 1 (by decide) mw_109 rfl d_Source_open_90 ?_
                refine g_iconst F (v := 1) d_Source_open_93 (by decide) ?_
                refine g_iadd F d_Source_open_94 ?_
                refine g_put F in_X7 1 rfl rfl 1 (by decide) tyX7 tyX7_ok nmX7 mw_109 rfl rfl rfl (Nat.le_of_ble_eq_true rfl) (ws' := (Wc z ad cA sMt (u_Source_count (u_Source_characters tSource (upd (q_Source_characters tSource) ((q_Source_count tSource) : Int32).toNatClampNeg (((q_Mt_text sMt) (v3 : Int32).toNatClampNeg) &&& 255))) ((q_Source_count tSource) + 1)) sTokens sReferenceWays sTagWays sCommentWays sOut)) rfl d_Source_open_95 ?_
                refine g_iinc F (j := 4) (v := (v3 + 1)) (L' := [(3, .int (v3 + 1)), (4, .int 0), (0, .ref (ad 1)), (1, .ref (ad 9)), (2, .int v2)]) d_Source_open_98 rfl rfl (by decide) rfl ?_
                refine g_goto F (tgt := 17) d_Source_open_101 (by decide) ?_
                refine g_loc [2, 3, 4, 0] rfl ?_
                exact ih v2 (v3 + 1) (u_Source_count (u_Source_characters tSource (upd (q_Source_characters tSource) ((q_Source_count tSource) : Int32).toNatClampNeg (((q_Mt_text sMt) (v3 : Int32).toNatClampNeg) &&& 255))) ((q_Source_count tSource) + 1)) hf
              · rw [if_pos h] at hf
                refine g_bipush F (v := 10) d_Source_open_75 (by decide) ?_
                refine g_goto F (tgt := 87) d_Source_open_77 (by decide) ?_
                obtain ⟨k14, hf⟩ := g_chk hf
                refine g_iast F (f := (q_Source_characters tSource)) 10 0 rfl rfl k14 (ws' := (Wc z ad cA sMt (u_Source_characters tSource (upd (q_Source_characters tSource) ((q_Source_count tSource) : Int32).toNatClampNeg 10)) sTokens sReferenceWays sTagWays sCommentWays sOut)) rfl d_Source_open_87 ?_
                refine g_aload_n F d_Source_open_88 1 rfl ?_
                refine g_dup F d_Source_open_89 rfl ?_
                refine g_get F (v := .int (q_Source_count tSource)) in_X7 1 rfl rfl 1 (by decide) mw_109 rfl d_Source_open_90 ?_
                refine g_iconst F (v := 1) d_Source_open_93 (by decide) ?_
                refine g_iadd F d_Source_open_94 ?_
                refine g_put F in_X7 1 rfl rfl 1 (by decide) tyX7 tyX7_ok nmX7 mw_109 rfl rfl rfl (Nat.le_of_ble_eq_true rfl) (ws' := (Wc z ad cA sMt (u_Source_count (u_Source_characters tSource (upd (q_Source_characters tSource) ((q_Source_count tSource) : Int32).toNatClampNeg 10)) ((q_Source_count tSource) + 1)) sTokens sReferenceWays sTagWays sCommentWays sOut)) rfl d_Source_open_95 ?_
                refine g_iinc F (j := 4) (v := (v3 + 1)) (L' := [(3, .int (v3 + 1)), (4, .int 0), (0, .ref (ad 1)), (1, .ref (ad 9)), (2, .int v2)]) d_Source_open_98 rfl rfl (by decide) rfl ?_
                refine g_goto F (tgt := 17) d_Source_open_101 (by decide) ?_
                refine g_loc [2, 3, 4, 0] rfl ?_
                exact ih v2 (v3 + 1) (u_Source_count (u_Source_characters tSource (upd (q_Source_characters tSource) ((q_Source_count tSource) : Int32).toNatClampNeg 10)) ((q_Source_count tSource) + 1)) hf
            · rw [if_pos h] at hf
              refine g_iconst F (v := 1) d_Source_open_47 (by decide) ?_
              refine g_goto F (tgt := 52) d_Source_open_48 (by decide) ?_
              refine g_istore F (L' := [(4, .int 1), (0, .ref (ad 1)), (1, .ref (ad 9)), (2, .int v2), (3, .int v3)]) d_Source_open_52 (by decide) rfl ?_
              refine g_iload F d_Source_open_54 0 rfl ?_
              refine g_if_ne F (tgt := 98) d_Source_open_56 (by decide) (fun _ => ?_) (fun h => absurd h (by decide))
              refine g_iinc F (j := 4) (v := (v3 + 1)) (L' := [(3, .int (v3 + 1)), (4, .int 1), (0, .ref (ad 1)), (1, .ref (ad 9)), (2, .int v2)]) d_Source_open_98 rfl rfl (by decide) rfl ?_
              refine g_goto F (tgt := 17) d_Source_open_101 (by decide) ?_
              refine g_loc [2, 3, 4, 0] rfl ?_
              exact ih v2 (v3 + 1) tSource hf
  unfold f_Source_open at hf
  refine g_aload_n F d_Source_open_0 0 rfl ?_
  refine g_iconst F (v := 0) d_Source_open_1 (by decide) ?_
  refine g_put F in_X7 1 rfl rfl 2 (by decide) tyX7 tyX7_ok nmX7 mw_110 rfl rfl rfl (Nat.le_of_ble_eq_true rfl) (ws' := (Wc z ad cA sMt (u_Source_place sSource 0) sTokens sReferenceWays sTagWays sCommentWays sOut)) rfl d_Source_open_2 ?_
  refine g_aload_n F d_Source_open_5 0 rfl ?_
  refine g_iconst F (v := 0) d_Source_open_6 (by decide) ?_
  refine g_put F in_X7 1 rfl rfl 1 (by decide) tyX7 tyX7_ok nmX7 mw_109 rfl rfl rfl (Nat.le_of_ble_eq_true rfl) (ws' := (Wc z ad cA sMt (u_Source_place (u_Source_count sSource 0) 0) sTokens sReferenceWays sTagWays sCommentWays sOut)) rfl d_Source_open_7 ?_
  refine g_aload_n F d_Source_open_10 0 rfl ?_
  refine g_iconst F (v := 0) d_Source_open_11 (by decide) ?_
  refine g_put F in_X7 1 rfl rfl 5 (by decide) tyX7 tyX7_ok nmX7 mw_113 rfl rfl rfl (Nat.le_of_ble_eq_true rfl) (ws' := (Wc z ad cA sMt (u_Source_faultCount (u_Source_place (u_Source_count sSource 0) 0) 0) sTokens sReferenceWays sTagWays sCommentWays sOut)) rfl d_Source_open_12 ?_
  refine g_iconst F (v := 0) d_Source_open_15 (by decide) ?_
  refine g_istore_n F (L' := [(3, .int 0), (0, .ref (ad 1)), (1, .ref (ad 9)), (2, .int a2)]) d_Source_open_16 rfl (by decide) rfl ?_
  refine g_loc [1, 2, 3, 0] rfl ?_
  exact blk17 FU a2 0 (u_Source_faultCount (u_Source_place (u_Source_count sSource 0) 0) 0) hf
set_option maxHeartbeats 4000000 in
set_option maxRecDepth 100000 in
theorem c_Tokens_forget (l : Launch) (D : va_G) (cA : Nat → ClassId) (z : gZ) (ad : Nat → Nat) (sMt : SMt) (sSource : SSource) (sTokens : STokens) (sReferenceWays : SReferenceWays) (sTagWays : STagWays) (sCommentWays : SCommentWays) (sOut : SOut) {x : STokens} (hf : f_Tokens_forget sTokens = x) (sz : Nat) : Met l y_Tokens_forget (.code y_Tokens_forget b_Tokens_forget 1 none :: lw_g) { frames := 0, cells := 0, slots := 0, locals := 0 } (gP D (gT cA) z [.ref (ad 2)] (Wc z ad cA sMt sSource sTokens sReferenceWays sTagWays sCommentWays sOut) sz) (gQv D (gT cA) (va_A (Wc z ad cA sMt sSource sTokens sReferenceWays sTagWays sCommentWays sOut) sz) (Wc z ad cA sMt sSource x sReferenceWays sTagWays sCommentWays sOut)) 0 0 (va_A (Wc z ad cA sMt sSource sTokens sReferenceWays sTagWays sCommentWays sOut) sz) := by
  refine g_met (by decide) (Nat.le_of_ble_eq_true rfl) rfl ?_
  intro p e s m args below meth c F hr hlk
  unfold f_Tokens_forget at hf
  refine g_aload_n F d_Tokens_forget_0 0 rfl ?_
  refine g_iconst F (v := 0) d_Tokens_forget_1 (by decide) ?_
  refine g_put F in_X9 2 rfl rfl 1 (by decide) tyX9 tyX9_ok nmX9 mw_136 rfl rfl rfl (Nat.le_of_ble_eq_true rfl) (ws' := (Wc z ad cA sMt sSource (u_Tokens_used sTokens 0) sReferenceWays sTagWays sCommentWays sOut)) rfl d_Tokens_forget_2 ?_
  refine g_aload_n F d_Tokens_forget_5 0 rfl ?_
  refine g_iconst F (v := 0) d_Tokens_forget_6 (by decide) ?_
  refine g_put F in_X9 2 rfl rfl 8 (by decide) tyX9 tyX9_ok nmX9 mw_143 rfl rfl rfl (Nat.le_of_ble_eq_true rfl) (ws' := (Wc z ad cA sMt sSource (u_Tokens_count (u_Tokens_used sTokens 0) 0) sReferenceWays sTagWays sCommentWays sOut)) rfl d_Tokens_forget_7 ?_
  refine g_aload_n F d_Tokens_forget_10 0 rfl ?_
  refine g_iconst F (v := 0) d_Tokens_forget_11 (by decide) ?_
  refine g_put F in_X9 2 rfl rfl 9 (by decide) tyX9 tyX9_ok nmX9 mw_144 rfl rfl rfl (Nat.le_of_ble_eq_true rfl) (ws' := (Wc z ad cA sMt sSource (u_Tokens_inText (u_Tokens_count (u_Tokens_used sTokens 0) 0) 0) sReferenceWays sTagWays sCommentWays sOut)) rfl d_Tokens_forget_12 ?_
  refine g_aload_n F d_Tokens_forget_15 0 rfl ?_
  refine g_iconst F (v := 0) d_Tokens_forget_16 (by decide) ?_
  refine g_put F in_X9 2 rfl rfl 13 (by decide) tyX9 tyX9_ok nmX9 mw_148 rfl rfl rfl (Nat.le_of_ble_eq_true rfl) (ws' := (Wc z ad cA sMt sSource (u_Tokens_attributesUsed (u_Tokens_inText (u_Tokens_count (u_Tokens_used sTokens 0) 0) 0) 0) sReferenceWays sTagWays sCommentWays sOut)) rfl d_Tokens_forget_17 ?_
  refine g_aload_n F d_Tokens_forget_20 0 rfl ?_
  refine g_iconst F (v := 0) d_Tokens_forget_21 (by decide) ?_
  refine g_put F in_X9 2 rfl rfl 14 (by decide) tyX9 tyX9_ok nmX9 mw_149 rfl rfl rfl (Nat.le_of_ble_eq_true rfl) (ws' := (Wc z ad cA sMt sSource (u_Tokens_inAttribute (u_Tokens_attributesUsed (u_Tokens_inText (u_Tokens_count (u_Tokens_used sTokens 0) 0) 0) 0) 0) sReferenceWays sTagWays sCommentWays sOut)) rfl d_Tokens_forget_22 ?_
  subst hf
  exact g_vret F hr hlk rfl rfl d_Tokens_forget_25
set_option maxHeartbeats 4000000 in
set_option maxRecDepth 100000 in
theorem c_Source_character (l : Launch) (D : va_G) (cA : Nat → ClassId) (z : gZ) (ad : Nat → Nat) (sMt : SMt) (sSource : SSource) (sTokens : STokens) (sReferenceWays : SReferenceWays) (sTagWays : STagWays) (sCommentWays : SCommentWays) (sOut : SOut) (a1 : Int32) {x : Int32} (hf : f_Source_character a1 sSource = some x) (sz : Nat) : Met l y_Source_character (.code y_Source_character b_Source_character 2 (some .int) :: lw_g) { frames := 0, cells := 0, slots := 0, locals := 0 } (gP D (gT cA) z [.ref (ad 1), .int a1] (Wc z ad cA sMt sSource sTokens sReferenceWays sTagWays sCommentWays sOut) sz) (gQi D (gT cA) (va_A (Wc z ad cA sMt sSource sTokens sReferenceWays sTagWays sCommentWays sOut) sz) x (Wc z ad cA sMt sSource sTokens sReferenceWays sTagWays sCommentWays sOut)) 0 0 (va_A (Wc z ad cA sMt sSource sTokens sReferenceWays sTagWays sCommentWays sOut) sz) := by
  refine g_met (by decide) (Nat.le_of_ble_eq_true rfl) rfl ?_
  intro p e s m args below meth c F hr hlk
  unfold f_Source_character at hf
  refine g_iload_n F d_Source_character_0 1 rfl ?_
  refine g_if_lt F (tgt := 21) d_Source_character_1 (by decide) (fun h => ?_) (fun h => ?_)
  · rw [if_pos h] at hf
    refine g_iconst F (v := (-1)) d_Source_character_21 (by decide) ?_
    cases hf
    exact g_iret F hr hlk rfl rfl rfl d_Source_character_22
  · rw [if_neg h] at hf
    refine g_iload_n F d_Source_character_4 1 rfl ?_
    refine g_aload_n F d_Source_character_5 0 rfl ?_
    refine g_get F (v := .int (q_Source_count sSource)) in_X7 1 rfl rfl 1 (by decide) mw_109 rfl d_Source_character_6 ?_
    refine g_icmp_ge F (tgt := 21) d_Source_character_9 (by decide) (fun h => ?_) (fun h => ?_)
    · rw [if_pos h] at hf
      refine g_iconst F (v := (-1)) d_Source_character_21 (by decide) ?_
      cases hf
      exact g_iret F hr hlk rfl rfl rfl d_Source_character_22
    · rw [if_neg h] at hf
      refine g_aload_n F d_Source_character_12 0 rfl ?_
      refine g_get F (v := .ref (ad 10)) in_X7 1 rfl rfl 0 (by decide) mw_108 rfl d_Source_character_13 ?_
      refine g_iload_n F d_Source_character_16 1 rfl ?_
      obtain ⟨k1, hf⟩ := g_chk hf
      refine g_iald F (f := (q_Source_characters sSource)) 10 0 rfl rfl k1 d_Source_character_17 ?_
      refine g_goto F (tgt := 22) d_Source_character_18 (by decide) ?_
      cases hf
      exact g_iret F hr hlk rfl rfl rfl d_Source_character_22
set_option maxHeartbeats 4000000 in
set_option maxRecDepth 100000 in
theorem c_Source_next (l : Launch) (D : va_G) (cA : Nat → ClassId) (z : gZ) (ad : Nat → Nat) (sMt : SMt) (sSource : SSource) (sTokens : STokens) (sReferenceWays : SReferenceWays) (sTagWays : STagWays) (sCommentWays : SCommentWays) (sOut : SOut) {x : Int32} (hf : f_Source_next sSource = some x) (sz : Nat) : Met l y_Source_next (.code y_Source_next b_Source_next 1 (some .int) :: lw_g) { frames := 1, cells := 0, slots := 0, locals := 21 } (gP D (gT cA) z [.ref (ad 1)] (Wc z ad cA sMt sSource sTokens sReferenceWays sTagWays sCommentWays sOut) sz) (gQi D (gT cA) (va_A (Wc z ad cA sMt sSource sTokens sReferenceWays sTagWays sCommentWays sOut) sz) x (Wc z ad cA sMt sSource sTokens sReferenceWays sTagWays sCommentWays sOut)) 0 0 (va_A (Wc z ad cA sMt sSource sTokens sReferenceWays sTagWays sCommentWays sOut) sz) := by
  refine g_met (by decide) (Nat.le_of_ble_eq_true rfl) rfl ?_
  intro p e s m args below meth c F hr hlk
  unfold f_Source_next at hf
  refine g_aload_n F d_Source_next_0 0 rfl ?_
  refine g_aload_n F d_Source_next_1 0 rfl ?_
  refine g_get F (v := .int (q_Source_place sSource)) in_X7 1 rfl rfl 2 (by decide) mw_110 rfl d_Source_next_2 ?_
  obtain ⟨x1, hx1, hf⟩ := g_bind hf
  refine g_ci F (r0 := x1) (ws' := (Wc z ad cA sMt sSource sTokens sReferenceWays sTagWays sCommentWays sOut)) (fun H locs ls hP hD hS hl => g_runV F (As := [.int (q_Source_place sSource)]) (n := 1) mw_367 rfl rfl ⟨by decide, by decide⟩ rfl (by exact Nat.le_of_ble_eq_true rfl) mw_364 mw_365 mw_366 mw_74 (by decide +kernel) d_Source_next_5 hP hD hS hl (va_recv F.2.2.2.2.2.1 hP (ci := 1) rfl (q0 := 1) rfl) (c_Source_character l D cA z ad sMt sSource sTokens sReferenceWays sTagWays sCommentWays sOut (q_Source_place sSource) hx1 H.size)) ?_
  cases hf
  exact g_iret F hr hlk rfl rfl rfl d_Source_next_8
set_option maxHeartbeats 4000000 in
set_option maxRecDepth 100000 in
theorem c_Tokens_open (l : Launch) (D : va_G) (cA : Nat → ClassId) (z : gZ) (ad : Nat → Nat) (sMt : SMt) (sSource : SSource) (sTokens : STokens) (sReferenceWays : SReferenceWays) (sTagWays : STagWays) (sCommentWays : SCommentWays) (sOut : SOut) (a1 : Int32) {x : STokens} (hf : f_Tokens_open a1 sTokens = some x) (sz : Nat) : Met l y_Tokens_open (.code y_Tokens_open b_Tokens_open 2 none :: lw_g) { frames := 0, cells := 0, slots := 0, locals := 0 } (gP D (gT cA) z [.ref (ad 2), .int a1] (Wc z ad cA sMt sSource sTokens sReferenceWays sTagWays sCommentWays sOut) sz) (gQv D (gT cA) (va_A (Wc z ad cA sMt sSource sTokens sReferenceWays sTagWays sCommentWays sOut) sz) (Wc z ad cA sMt sSource x sReferenceWays sTagWays sCommentWays sOut)) 0 0 (va_A (Wc z ad cA sMt sSource sTokens sReferenceWays sTagWays sCommentWays sOut) sz) := by
  refine g_met (by decide) (Nat.le_of_ble_eq_true rfl) rfl ?_
  intro p e s m args below meth c F hr hlk
  unfold f_Tokens_open at hf
  refine g_aload_n F d_Tokens_open_0 0 rfl ?_
  refine g_get F (v := .int (q_Tokens_count sTokens)) in_X9 2 rfl rfl 8 (by decide) mw_143 rfl d_Tokens_open_1 ?_
  refine g_sipush F (v := 400) d_Tokens_open_4 (by decide) ?_
  refine g_icmp_ge F (tgt := 66) d_Tokens_open_7 (by decide) (fun h => ?_) (fun h => ?_)
  · rw [if_pos h] at hf
    cases hf
    exact g_vret F hr hlk rfl rfl d_Tokens_open_66
  · rw [if_neg h] at hf
    refine g_aload_n F d_Tokens_open_10 0 rfl ?_
    refine g_get F (v := .ref (ad 14)) in_X9 2 rfl rfl 2 (by decide) mw_137 rfl d_Tokens_open_11 ?_
    refine g_aload_n F d_Tokens_open_14 0 rfl ?_
    refine g_get F (v := .int (q_Tokens_count sTokens)) in_X9 2 rfl rfl 8 (by decide) mw_143 rfl d_Tokens_open_15 ?_
    refine g_iload_n F d_Tokens_open_18 1 rfl ?_
    obtain ⟨k1, hf⟩ := g_chk hf
    refine g_iast F (f := (q_Tokens_kinds sTokens)) 14 0 rfl rfl k1 (ws' := (Wc z ad cA sMt sSource (u_Tokens_kinds sTokens (upd (q_Tokens_kinds sTokens) ((q_Tokens_count sTokens) : Int32).toNatClampNeg a1)) sReferenceWays sTagWays sCommentWays sOut)) rfl d_Tokens_open_19 ?_
    refine g_aload_n F d_Tokens_open_20 0 rfl ?_
    refine g_get F (v := .ref (ad 15)) in_X9 2 rfl rfl 3 (by decide) mw_138 rfl d_Tokens_open_21 ?_
    refine g_aload_n F d_Tokens_open_24 0 rfl ?_
    refine g_get F (v := .int (q_Tokens_count sTokens)) in_X9 2 rfl rfl 8 (by decide) mw_143 rfl d_Tokens_open_25 ?_
    refine g_aload_n F d_Tokens_open_28 0 rfl ?_
    refine g_get F (v := .int (q_Tokens_used sTokens)) in_X9 2 rfl rfl 1 (by decide) mw_136 rfl d_Tokens_open_29 ?_
    obtain ⟨k2, hf⟩ := g_chk hf
    refine g_iast F (f := (q_Tokens_starts sTokens)) 15 0 rfl rfl k2 (ws' := (Wc z ad cA sMt sSource (u_Tokens_starts (u_Tokens_kinds sTokens (upd (q_Tokens_kinds sTokens) ((q_Tokens_count sTokens) : Int32).toNatClampNeg a1)) (upd (q_Tokens_starts sTokens) ((q_Tokens_count sTokens) : Int32).toNatClampNeg (q_Tokens_used sTokens))) sReferenceWays sTagWays sCommentWays sOut)) rfl d_Tokens_open_32 ?_
    refine g_aload_n F d_Tokens_open_33 0 rfl ?_
    refine g_get F (v := .ref (ad 17)) in_X9 2 rfl rfl 5 (by decide) mw_140 rfl d_Tokens_open_34 ?_
    refine g_aload_n F d_Tokens_open_37 0 rfl ?_
    refine g_get F (v := .int (q_Tokens_count sTokens)) in_X9 2 rfl rfl 8 (by decide) mw_143 rfl d_Tokens_open_38 ?_
    refine g_iconst F (v := 0) d_Tokens_open_41 (by decide) ?_
    obtain ⟨k3, hf⟩ := g_chk hf
    refine g_iast F (f := (q_Tokens_marks sTokens)) 17 0 rfl rfl k3 (ws' := (Wc z ad cA sMt sSource (u_Tokens_marks (u_Tokens_starts (u_Tokens_kinds sTokens (upd (q_Tokens_kinds sTokens) ((q_Tokens_count sTokens) : Int32).toNatClampNeg a1)) (upd (q_Tokens_starts sTokens) ((q_Tokens_count sTokens) : Int32).toNatClampNeg (q_Tokens_used sTokens))) (upd (q_Tokens_marks sTokens) ((q_Tokens_count sTokens) : Int32).toNatClampNeg 0)) sReferenceWays sTagWays sCommentWays sOut)) rfl d_Tokens_open_42 ?_
    refine g_aload_n F d_Tokens_open_43 0 rfl ?_
    refine g_get F (v := .ref (ad 18)) in_X9 2 rfl rfl 6 (by decide) mw_141 rfl d_Tokens_open_44 ?_
    refine g_aload_n F d_Tokens_open_47 0 rfl ?_
    refine g_get F (v := .int (q_Tokens_count sTokens)) in_X9 2 rfl rfl 8 (by decide) mw_143 rfl d_Tokens_open_48 ?_
    refine g_aload_n F d_Tokens_open_51 0 rfl ?_
    refine g_get F (v := .int (q_Tokens_attributesUsed sTokens)) in_X9 2 rfl rfl 13 (by decide) mw_148 rfl d_Tokens_open_52 ?_
    obtain ⟨k4, hf⟩ := g_chk hf
    refine g_iast F (f := (q_Tokens_firstAttributes sTokens)) 18 0 rfl rfl k4 (ws' := (Wc z ad cA sMt sSource (u_Tokens_firstAttributes (u_Tokens_marks (u_Tokens_starts (u_Tokens_kinds sTokens (upd (q_Tokens_kinds sTokens) ((q_Tokens_count sTokens) : Int32).toNatClampNeg a1)) (upd (q_Tokens_starts sTokens) ((q_Tokens_count sTokens) : Int32).toNatClampNeg (q_Tokens_used sTokens))) (upd (q_Tokens_marks sTokens) ((q_Tokens_count sTokens) : Int32).toNatClampNeg 0)) (upd (q_Tokens_firstAttributes sTokens) ((q_Tokens_count sTokens) : Int32).toNatClampNeg (q_Tokens_attributesUsed sTokens))) sReferenceWays sTagWays sCommentWays sOut)) rfl d_Tokens_open_55 ?_
    refine g_aload_n F d_Tokens_open_56 0 rfl ?_
    refine g_get F (v := .ref (ad 19)) in_X9 2 rfl rfl 7 (by decide) mw_142 rfl d_Tokens_open_57 ?_
    refine g_aload_n F d_Tokens_open_60 0 rfl ?_
    refine g_get F (v := .int (q_Tokens_count sTokens)) in_X9 2 rfl rfl 8 (by decide) mw_143 rfl d_Tokens_open_61 ?_
    refine g_iconst F (v := 0) d_Tokens_open_64 (by decide) ?_
    obtain ⟨k5, hf⟩ := g_chk hf
    refine g_iast F (f := (q_Tokens_attributeCounts sTokens)) 19 0 rfl rfl k5 (ws' := (Wc z ad cA sMt sSource (u_Tokens_attributeCounts (u_Tokens_firstAttributes (u_Tokens_marks (u_Tokens_starts (u_Tokens_kinds sTokens (upd (q_Tokens_kinds sTokens) ((q_Tokens_count sTokens) : Int32).toNatClampNeg a1)) (upd (q_Tokens_starts sTokens) ((q_Tokens_count sTokens) : Int32).toNatClampNeg (q_Tokens_used sTokens))) (upd (q_Tokens_marks sTokens) ((q_Tokens_count sTokens) : Int32).toNatClampNeg 0)) (upd (q_Tokens_firstAttributes sTokens) ((q_Tokens_count sTokens) : Int32).toNatClampNeg (q_Tokens_attributesUsed sTokens))) (upd (q_Tokens_attributeCounts sTokens) ((q_Tokens_count sTokens) : Int32).toNatClampNeg 0)) sReferenceWays sTagWays sCommentWays sOut)) rfl d_Tokens_open_65 ?_
    cases hf
    exact g_vret F hr hlk rfl rfl d_Tokens_open_66
set_option maxHeartbeats 4000000 in
set_option maxRecDepth 100000 in
theorem c_Tokens_beginText (l : Launch) (D : va_G) (cA : Nat → ClassId) (z : gZ) (ad : Nat → Nat) (sMt : SMt) (sSource : SSource) (sTokens : STokens) (sReferenceWays : SReferenceWays) (sTagWays : STagWays) (sCommentWays : SCommentWays) (sOut : SOut) {x : STokens} (hf : f_Tokens_beginText sTokens = some x) (sz : Nat) : Met l y_Tokens_beginText (.code y_Tokens_beginText b_Tokens_beginText 1 none :: lw_g) { frames := 1, cells := 0, slots := 0, locals := 21 } (gP D (gT cA) z [.ref (ad 2)] (Wc z ad cA sMt sSource sTokens sReferenceWays sTagWays sCommentWays sOut) sz) (gQv D (gT cA) (va_A (Wc z ad cA sMt sSource sTokens sReferenceWays sTagWays sCommentWays sOut) sz) (Wc z ad cA sMt sSource x sReferenceWays sTagWays sCommentWays sOut)) 0 0 (va_A (Wc z ad cA sMt sSource sTokens sReferenceWays sTagWays sCommentWays sOut) sz) := by
  refine g_met (by decide) (Nat.le_of_ble_eq_true rfl) rfl ?_
  intro p e s m args below meth c F hr hlk
  unfold f_Tokens_beginText at hf
  refine g_aload_n F d_Tokens_beginText_0 0 rfl ?_
  refine g_get F (v := .int (q_Tokens_inText sTokens)) in_X9 2 rfl rfl 9 (by decide) mw_144 rfl d_Tokens_beginText_1 ?_
  refine g_if_ne F (tgt := 17) d_Tokens_beginText_4 (by decide) (fun h => ?_) (fun h => ?_)
  · rw [if_neg h] at hf
    cases hf
    exact g_vret F hr hlk rfl rfl d_Tokens_beginText_17
  · rw [if_pos h] at hf
    refine g_aload_n F d_Tokens_beginText_7 0 rfl ?_
    refine g_iconst F (v := 1) d_Tokens_beginText_8 (by decide) ?_
    refine g_put F in_X9 2 rfl rfl 9 (by decide) tyX9 tyX9_ok nmX9 mw_144 rfl rfl rfl (Nat.le_of_ble_eq_true rfl) (ws' := (Wc z ad cA sMt sSource (u_Tokens_inText sTokens 1) sReferenceWays sTagWays sCommentWays sOut)) rfl d_Tokens_beginText_9 ?_
    refine g_aload_n F d_Tokens_beginText_12 0 rfl ?_
    refine g_iconst F (v := 0) d_Tokens_beginText_13 (by decide) ?_
    obtain ⟨x1, hx1, hf⟩ := g_bind hf
    refine g_cv F (ws' := (Wc z ad cA sMt sSource x1 sReferenceWays sTagWays sCommentWays sOut)) (fun H locs ls hP hD hS hl => g_runV F (As := [.int 0]) (n := 1) mw_391 rfl rfl ⟨by decide, by decide⟩ rfl (by exact Nat.le_of_ble_eq_true rfl) mw_388 mw_390 mw_2 mw_75 (by decide +kernel) d_Tokens_beginText_14 hP hD hS hl (va_recv F.2.2.2.2.2.1 hP (ci := 2) rfl (q0 := 2) rfl) (c_Tokens_open l D cA z ad sMt sSource (u_Tokens_inText sTokens 1) sReferenceWays sTagWays sCommentWays sOut 0 hx1 H.size)) ?_
    cases hf
    exact g_vret F hr hlk rfl rfl d_Tokens_beginText_17
set_option maxHeartbeats 4000000 in
set_option maxRecDepth 100000 in
theorem c_Source_then (l : Launch) (D : va_G) (cA : Nat → ClassId) (z : gZ) (ad : Nat → Nat) (sMt : SMt) (sSource : SSource) (sTokens : STokens) (sReferenceWays : SReferenceWays) (sTagWays : STagWays) (sCommentWays : SCommentWays) (sOut : SOut) (a1 : Nat) {x : Nat × SSource} (hf : f_Source_then a1 sSource = x) (sz : Nat) : Met l y_Source_then (.code y_Source_then b_Source_then 2 (some (.object "MarkupTokens$Way")) :: lw_g) { frames := 0, cells := 0, slots := 0, locals := 0 } (gP D (gT cA) z [.ref (ad 1), .ref (z.1 a1)] (Wc z ad cA sMt sSource sTokens sReferenceWays sTagWays sCommentWays sOut) sz) (gQq D (gT cA) (va_A (Wc z ad cA sMt sSource sTokens sReferenceWays sTagWays sCommentWays sOut) sz) (some (z.1 x.1)) (Wc z ad cA sMt x.2 sTokens sReferenceWays sTagWays sCommentWays sOut)) 0 0 (va_A (Wc z ad cA sMt sSource sTokens sReferenceWays sTagWays sCommentWays sOut) sz) := by
  refine g_met (by decide) (Nat.le_of_ble_eq_true rfl) rfl ?_
  intro p e s m args below meth c F hr hlk
  unfold f_Source_then at hf
  refine g_aload_n F d_Source_then_0 0 rfl ?_
  refine g_get F (v := .int (q_Source_place sSource)) in_X7 1 rfl rfl 2 (by decide) mw_110 rfl d_Source_then_1 ?_
  refine g_aload_n F d_Source_then_4 0 rfl ?_
  refine g_get F (v := .int (q_Source_count sSource)) in_X7 1 rfl rfl 1 (by decide) mw_109 rfl d_Source_then_5 ?_
  refine g_icmp_ge F (tgt := 21) d_Source_then_8 (by decide) (fun h => ?_) (fun h => ?_)
  · rw [if_pos h] at hf
    refine g_aload_n F d_Source_then_21 1 rfl ?_
    subst hf
    exact g_aret F hr (Or.inl ⟨_, rfl⟩) hlk rfl rfl rfl d_Source_then_22
  · rw [if_neg h] at hf
    refine g_aload_n F d_Source_then_11 0 rfl ?_
    refine g_dup F d_Source_then_12 rfl ?_
    refine g_get F (v := .int (q_Source_place sSource)) in_X7 1 rfl rfl 2 (by decide) mw_110 rfl d_Source_then_13 ?_
    refine g_iconst F (v := 1) d_Source_then_16 (by decide) ?_
    refine g_iadd F d_Source_then_17 ?_
    refine g_put F in_X7 1 rfl rfl 2 (by decide) tyX7 tyX7_ok nmX7 mw_110 rfl rfl rfl (Nat.le_of_ble_eq_true rfl) (ws' := (Wc z ad cA sMt (u_Source_place sSource ((q_Source_place sSource) + 1)) sTokens sReferenceWays sTagWays sCommentWays sOut)) rfl d_Source_then_18 ?_
    refine g_aload_n F d_Source_then_21 1 rfl ?_
    subst hf
    exact g_aret F hr (Or.inl ⟨_, rfl⟩) hlk rfl rfl rfl d_Source_then_22
set_option maxHeartbeats 4000000 in
set_option maxRecDepth 100000 in
theorem c_ReferenceWays_open (l : Launch) (D : va_G) (cA : Nat → ClassId) (z : gZ) (ad : Nat → Nat) (sMt : SMt) (sSource : SSource) (sTokens : STokens) (sReferenceWays : SReferenceWays) (sTagWays : STagWays) (sCommentWays : SCommentWays) (sOut : SOut) (a1 : Nat) {x : Nat × SReferenceWays × SSource} (hf : f_ReferenceWays_open a1 sReferenceWays sSource = x) (sz : Nat) : Met l y_ReferenceWays_open (.code y_ReferenceWays_open b_ReferenceWays_open 2 (some (.object "MarkupTokens$Way")) :: lw_g) { frames := 1, cells := 0, slots := 0, locals := 21 } (gP D (gT cA) z [.ref (ad 3), .ref (z.1 a1)] (Wc z ad cA sMt sSource sTokens sReferenceWays sTagWays sCommentWays sOut) sz) (gQq D (gT cA) (va_A (Wc z ad cA sMt sSource sTokens sReferenceWays sTagWays sCommentWays sOut) sz) (some (z.1 x.1)) (Wc z ad cA sMt x.2.2 sTokens x.2.1 sTagWays sCommentWays sOut)) 0 0 (va_A (Wc z ad cA sMt sSource sTokens sReferenceWays sTagWays sCommentWays sOut) sz) := by
  refine g_met (by decide) (Nat.le_of_ble_eq_true rfl) rfl ?_
  intro p e s m args below meth c F hr hlk
  unfold f_ReferenceWays_open at hf
  refine g_aload_n F d_ReferenceWays_open_0 0 rfl ?_
  refine g_aload_n F d_ReferenceWays_open_1 1 rfl ?_
  refine g_put F in_X6 3 rfl rfl 2 (by decide) tyX6 tyX6_ok nmX6 mw_198 rfl rfl rfl (Nat.le_of_ble_eq_true rfl) (ws' := (Wc z ad cA sMt sSource sTokens a1 sTagWays sCommentWays sOut)) rfl d_ReferenceWays_open_2 ?_
  refine g_aload_n F d_ReferenceWays_open_5 0 rfl ?_
  refine g_getS F (v := .ref (ad 1)) in_X6 3 rfl rfl 0 (by decide) mw_204 mw_205 rfl d_ReferenceWays_open_6 ?_
  refine g_way F 3 (by decide) mw_396 d_ReferenceWays_open_9 ?_
  refine g_cw F (r0 := z.1 ((f_Source_then 3 sSource).1)) (ws' := (Wc z ad cA sMt ((f_Source_then 3 sSource).2) sTokens a1 sTagWays sCommentWays sOut)) (fun H locs ls hP hD hS hl => g_runV F (As := [.ref (z.1 3)]) (n := 1) mw_401 rfl rfl ⟨by decide, by decide⟩ rfl (by exact Nat.le_of_ble_eq_true rfl) mw_398 mw_399 mw_400 mw_74 (by decide +kernel) d_ReferenceWays_open_12 hP hD hS hl (va_recv F.2.2.2.2.2.1 hP (ci := 1) rfl (q0 := 1) rfl) (c_Source_then l D cA z ad sMt sSource sTokens a1 sTagWays sCommentWays sOut 3 rfl H.size)) ?_
  subst hf
  exact g_aret F hr (Or.inl ⟨_, rfl⟩) hlk rfl rfl rfl d_ReferenceWays_open_15
set_option maxHeartbeats 4000000 in
set_option maxRecDepth 100000 in
theorem c_Source_wrong (l : Launch) (D : va_G) (cA : Nat → ClassId) (z : gZ) (ad : Nat → Nat) (sMt : SMt) (sSource : SSource) (sTokens : STokens) (sReferenceWays : SReferenceWays) (sTagWays : STagWays) (sCommentWays : SCommentWays) (sOut : SOut) (a1 : Int32) {x : SSource} (hf : f_Source_wrong a1 sSource = some x) (sz : Nat) : Met l y_Source_wrong (.code y_Source_wrong b_Source_wrong 2 none :: lw_g) { frames := 0, cells := 0, slots := 0, locals := 0 } (gP D (gT cA) z [.ref (ad 1), .int a1] (Wc z ad cA sMt sSource sTokens sReferenceWays sTagWays sCommentWays sOut) sz) (gQv D (gT cA) (va_A (Wc z ad cA sMt sSource sTokens sReferenceWays sTagWays sCommentWays sOut) sz) (Wc z ad cA sMt x sTokens sReferenceWays sTagWays sCommentWays sOut)) 0 0 (va_A (Wc z ad cA sMt sSource sTokens sReferenceWays sTagWays sCommentWays sOut) sz) := by
  refine g_met (by decide) (Nat.le_of_ble_eq_true rfl) rfl ?_
  intro p e s m args below meth c F hr hlk
  unfold f_Source_wrong at hf
  refine g_aload_n F d_Source_wrong_0 0 rfl ?_
  refine g_get F (v := .int (q_Source_faultCount sSource)) in_X7 1 rfl rfl 5 (by decide) mw_113 rfl d_Source_wrong_1 ?_
  refine g_sipush F (v := 1203) d_Source_wrong_4 (by decide) ?_
  refine g_icmp_ge F (tgt := 43) d_Source_wrong_7 (by decide) (fun h => ?_) (fun h => ?_)
  · rw [if_pos h] at hf
    cases hf
    exact g_vret F hr hlk rfl rfl d_Source_wrong_43
  · rw [if_neg h] at hf
    refine g_aload_n F d_Source_wrong_10 0 rfl ?_
    refine g_get F (v := .ref (ad 11)) in_X7 1 rfl rfl 3 (by decide) mw_111 rfl d_Source_wrong_11 ?_
    refine g_aload_n F d_Source_wrong_14 0 rfl ?_
    refine g_get F (v := .int (q_Source_faultCount sSource)) in_X7 1 rfl rfl 5 (by decide) mw_113 rfl d_Source_wrong_15 ?_
    refine g_iload_n F d_Source_wrong_18 1 rfl ?_
    obtain ⟨k1, hf⟩ := g_chk hf
    refine g_iast F (f := (q_Source_codes sSource)) 11 0 rfl rfl k1 (ws' := (Wc z ad cA sMt (u_Source_codes sSource (upd (q_Source_codes sSource) ((q_Source_faultCount sSource) : Int32).toNatClampNeg a1)) sTokens sReferenceWays sTagWays sCommentWays sOut)) rfl d_Source_wrong_19 ?_
    refine g_aload_n F d_Source_wrong_20 0 rfl ?_
    refine g_get F (v := .ref (ad 12)) in_X7 1 rfl rfl 4 (by decide) mw_112 rfl d_Source_wrong_21 ?_
    refine g_aload_n F d_Source_wrong_24 0 rfl ?_
    refine g_get F (v := .int (q_Source_faultCount sSource)) in_X7 1 rfl rfl 5 (by decide) mw_113 rfl d_Source_wrong_25 ?_
    refine g_aload_n F d_Source_wrong_28 0 rfl ?_
    refine g_get F (v := .int (q_Source_place sSource)) in_X7 1 rfl rfl 2 (by decide) mw_110 rfl d_Source_wrong_29 ?_
    obtain ⟨k2, hf⟩ := g_chk hf
    refine g_iast F (f := (q_Source_places sSource)) 12 0 rfl rfl k2 (ws' := (Wc z ad cA sMt (u_Source_places (u_Source_codes sSource (upd (q_Source_codes sSource) ((q_Source_faultCount sSource) : Int32).toNatClampNeg a1)) (upd (q_Source_places sSource) ((q_Source_faultCount sSource) : Int32).toNatClampNeg (q_Source_place sSource))) sTokens sReferenceWays sTagWays sCommentWays sOut)) rfl d_Source_wrong_32 ?_
    refine g_aload_n F d_Source_wrong_33 0 rfl ?_
    refine g_dup F d_Source_wrong_34 rfl ?_
    refine g_get F (v := .int (q_Source_faultCount sSource)) in_X7 1 rfl rfl 5 (by decide) mw_113 rfl d_Source_wrong_35 ?_
    refine g_iconst F (v := 1) d_Source_wrong_38 (by decide) ?_
    refine g_iadd F d_Source_wrong_39 ?_
    refine g_put F in_X7 1 rfl rfl 5 (by decide) tyX7 tyX7_ok nmX7 mw_113 rfl rfl rfl (Nat.le_of_ble_eq_true rfl) (ws' := (Wc z ad cA sMt (u_Source_faultCount (u_Source_places (u_Source_codes sSource (upd (q_Source_codes sSource) ((q_Source_faultCount sSource) : Int32).toNatClampNeg a1)) (upd (q_Source_places sSource) ((q_Source_faultCount sSource) : Int32).toNatClampNeg (q_Source_place sSource))) ((q_Source_faultCount sSource) + 1)) sTokens sReferenceWays sTagWays sCommentWays sOut)) rfl d_Source_wrong_40 ?_
    cases hf
    exact g_vret F hr hlk rfl rfl d_Source_wrong_43
