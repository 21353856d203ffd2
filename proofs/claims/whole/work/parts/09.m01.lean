set_option maxHeartbeats 4000000 in
set_option maxRecDepth 100000 in
theorem c_Mo_feed (l : Launch) (D : va_G) (cA : Nat → ClassId) (z : gZ) (ad : Nat → Nat) (sMo : SMo) (a1 : Int64) (a2 : Int32) {x : Int32 × SMo} (hf : f_Mo_feed a1 a2 sMo = some x) (sz : Nat) : Met l y_Mo_feed (.code y_Mo_feed b_Mo_feed 5 (some .int) :: lw_g) { frames := 0, cells := 0, slots := 0, locals := 0 } (gP D (gT cA) z [.ref (ad 0), .long a1, .int a2] (Wo ad cA sMo) sz) (gQi D (gT cA) (va_A (Wo ad cA sMo) sz) x.1 (Wo ad cA x.2)) 0 0 (va_A (Wo ad cA sMo) sz) := by
  refine g_met (by decide) (Nat.le_of_ble_eq_true rfl) rfl ?_
  intro p e s m args below meth c F hr hlk
  have blk31 : ∀ (n : Nat) (v1 : Int64) (v3 : Int32) (v4 : Int32) (tMo : SMo), f_Mo_feed_31 n v1 v3 v4 tMo = some x → GW p l e { frames := 0, cells := 0, slots := 0, locals := 0 } s m args below meth c (gQi D (gT cA) (va_A (Wo ad cA sMo) sz) x.1 (Wo ad cA x.2)) D (va_A (Wo ad cA sMo) sz) 5 (Wo ad cA tMo) 31 [(0, .ref (ad 0)), (1, .long v1), (3, .int v3), (4, .int v4)] [] := by
    intro n
    induction n with
    | zero => intro _ _ _ _ hf; cases hf
    | succ n ih =>
      intro v1 v3 v4 tMo hf
      rw [f_Mo_feed_31] at hf
      refine g_iload F d_Mo_feed_31 3 rfl ?_
      refine g_iload_n F d_Mo_feed_33 2 rfl ?_
      refine g_icmp_ge F (tgt := 71) d_Mo_feed_34 (by decide) (fun h => ?_) (fun h => ?_)
      · rw [if_pos h] at hf
        refine g_aload_n F d_Mo_feed_71 0 rfl ?_
        refine g_get F (v := .int (q_Mo_size tMo)) in_X13 0 rfl rfl 3 (by decide) mw_1109 rfl d_Mo_feed_72 ?_
        cases hf
        exact g_iret F hr hlk rfl rfl rfl d_Mo_feed_75
      · rw [if_neg h] at hf
        refine g_aload_n F d_Mo_feed_37 0 rfl ?_
        refine g_get F (v := .ref (ad 4)) in_X13 0 rfl rfl 4 (by decide) mw_1110 rfl d_Mo_feed_38 ?_
        refine g_aload_n F d_Mo_feed_41 0 rfl ?_
        refine g_get F (v := .int (q_Mo_size tMo)) in_X13 0 rfl rfl 3 (by decide) mw_1109 rfl d_Mo_feed_42 ?_
        refine g_lload_n F d_Mo_feed_45 1 rfl ?_
        refine g_bipush F (v := 8) d_Mo_feed_46 (by decide) ?_
        refine g_iload F d_Mo_feed_48 3 rfl ?_
        refine g_imul F d_Mo_feed_50 ?_
        refine g_lshr F d_Mo_feed_51 ?_
        refine g_l2i F d_Mo_feed_52 ?_
        refine g_i2b F d_Mo_feed_53 ?_
        obtain ⟨k1, hf⟩ := g_chk hf
        refine g_bast F (f := (q_Mo_bytes tMo)) 4 1 rfl rfl k1 (ws' := (Wn ad cA (q_Mo_names tMo) (q_Mo_gives tMo) (q_Mo_turned tMo) (q_Mo_size tMo) (upd (q_Mo_bytes tMo) ((q_Mo_size tMo) : Int32).toNatClampNeg (vp_nar .byte (((v1 >>> (((8 * v4) : Int32).toInt64 &&& 63)) : Int64).toInt32 : Int32).toInt8.toInt32)) (q_Mo_n tMo) (q_Mo_text tMo) (q_Mo_p tMo) (q_Mo_ended tMo) (q_Mo_tokens tMo) (q_Mo_kinds tMo) (q_Mo_firsts tMo) (q_Mo_sizes tMo) (q_Mo_marks tMo) (q_Mo_attributes tMo) (q_Mo_manyOf tMo) (q_Mo_attributeCount tMo) (q_Mo_nameAt tMo) (q_Mo_nameSize tMo) (q_Mo_valueAt tMo) (q_Mo_valueSize tMo) (q_Mo_goes tMo) (q_Mo_rowSize tMo) (q_Mo_row tMo) (q_Mo_textAt tMo) (q_Mo_textSize tMo) (q_Mo_faultCount tMo) (q_Mo_codes tMo) (q_Mo_places tMo) (q_Mo_outSize tMo) (q_Mo_out tMo) (q_Mo_which tMo))) rfl d_Mo_feed_54 ?_
        refine g_aload_n F d_Mo_feed_55 0 rfl ?_
        refine g_dup F d_Mo_feed_56 rfl ?_
        refine g_get F (v := .int (q_Mo_size tMo)) in_X13 0 rfl rfl 3 (by decide) mw_1109 rfl d_Mo_feed_57 ?_
        refine g_iconst F (v := 1) d_Mo_feed_60 (by decide) ?_
        refine g_iadd F d_Mo_feed_61 ?_
        refine g_put F in_X13 0 rfl rfl 3 (by decide) tyX13 tyX13_ok nmX13 mw_1109 rfl rfl rfl (Nat.le_of_ble_eq_true rfl) (ws' := (Wn ad cA (q_Mo_names tMo) (q_Mo_gives tMo) (q_Mo_turned tMo) ((q_Mo_size tMo) + 1) (upd (q_Mo_bytes tMo) ((q_Mo_size tMo) : Int32).toNatClampNeg (vp_nar .byte (((v1 >>> (((8 * v4) : Int32).toInt64 &&& 63)) : Int64).toInt32 : Int32).toInt8.toInt32)) (q_Mo_n tMo) (q_Mo_text tMo) (q_Mo_p tMo) (q_Mo_ended tMo) (q_Mo_tokens tMo) (q_Mo_kinds tMo) (q_Mo_firsts tMo) (q_Mo_sizes tMo) (q_Mo_marks tMo) (q_Mo_attributes tMo) (q_Mo_manyOf tMo) (q_Mo_attributeCount tMo) (q_Mo_nameAt tMo) (q_Mo_nameSize tMo) (q_Mo_valueAt tMo) (q_Mo_valueSize tMo) (q_Mo_goes tMo) (q_Mo_rowSize tMo) (q_Mo_row tMo) (q_Mo_textAt tMo) (q_Mo_textSize tMo) (q_Mo_faultCount tMo) (q_Mo_codes tMo) (q_Mo_places tMo) (q_Mo_outSize tMo) (q_Mo_out tMo) (q_Mo_which tMo))) rfl d_Mo_feed_62 ?_
        refine g_iinc F (j := 3) (v := (v4 + 1)) (L' := [(4, .int (v4 + 1)), (0, .ref (ad 0)), (1, .long v1), (3, .int v3)]) d_Mo_feed_65 rfl rfl (by decide) rfl ?_
        refine g_goto F (tgt := 31) d_Mo_feed_68 (by decide) ?_
        refine g_loc [1, 2, 3, 0] rfl ?_
        exact ih v1 v3 (v4 + 1) (u_Mo_size_bytes tMo ((q_Mo_size tMo) + 1) (upd (q_Mo_bytes tMo) ((q_Mo_size tMo) : Int32).toNatClampNeg (vp_nar .byte (((v1 >>> (((8 * v4) : Int32).toInt64 &&& 63)) : Int64).toInt32 : Int32).toInt8.toInt32))) hf
  unfold f_Mo_feed at hf
  refine g_iload_n F d_Mo_feed_0 2 rfl ?_
  refine g_iconst F (v := 1) d_Mo_feed_1 (by decide) ?_
  refine g_icmp_lt F (tgt := 11) d_Mo_feed_2 (by decide) (fun h => ?_) (fun h => ?_)
  · rw [if_pos h] at hf
    refine g_iconst F (v := (-1)) d_Mo_feed_11 (by decide) ?_
    cases hf
    exact g_iret F hr hlk rfl rfl rfl d_Mo_feed_12
  · rw [if_neg h] at hf
    refine g_iload_n F d_Mo_feed_5 2 rfl ?_
    refine g_bipush F (v := 8) d_Mo_feed_6 (by decide) ?_
    refine g_icmp_le F (tgt := 13) d_Mo_feed_8 (by decide) (fun h => ?_) (fun h => ?_)
    · rw [if_pos h] at hf
      refine g_aload_n F d_Mo_feed_13 0 rfl ?_
      refine g_get F (v := .int (q_Mo_size sMo)) in_X13 0 rfl rfl 3 (by decide) mw_1109 rfl d_Mo_feed_14 ?_
      refine g_iload_n F d_Mo_feed_17 2 rfl ?_
      refine g_iadd F d_Mo_feed_18 ?_
      refine g_sipush F (v := 400) d_Mo_feed_19 (by decide) ?_
      refine g_icmp_le F (tgt := 28) d_Mo_feed_22 (by decide) (fun h => ?_) (fun h => ?_)
      · rw [if_pos h] at hf
        refine g_iconst F (v := 0) d_Mo_feed_28 (by decide) ?_
        refine g_istore F (L' := [(4, .int 0), (0, .ref (ad 0)), (1, .long a1), (3, .int a2)]) d_Mo_feed_29 (by decide) rfl ?_
        refine g_loc [1, 2, 3, 0] rfl ?_
        exact blk31 FU a1 a2 0 sMo hf
      · rw [if_neg h] at hf
        refine g_bipush F (v := (-2)) d_Mo_feed_25 (by decide) ?_
        cases hf
        exact g_iret F hr hlk rfl rfl rfl d_Mo_feed_27
    · rw [if_neg h] at hf
      refine g_iconst F (v := (-1)) d_Mo_feed_11 (by decide) ?_
      cases hf
      exact g_iret F hr hlk rfl rfl rfl d_Mo_feed_12
set_option maxHeartbeats 4000000 in
set_option maxRecDepth 100000 in
theorem c_Mo_clear (l : Launch) (D : va_G) (cA : Nat → ClassId) (z : gZ) (ad : Nat → Nat) (sMo : SMo) {x : Int32 × SMo} (hf : f_Mo_clear sMo = x) (sz : Nat) : Met l y_Mo_clear (.code y_Mo_clear b_Mo_clear 2 (some .int) :: lw_g) { frames := 0, cells := 0, slots := 0, locals := 0 } (gP D (gT cA) z [.ref (ad 0)] (Wo ad cA sMo) sz) (gQi D (gT cA) (va_A (Wo ad cA sMo) sz) x.1 (Wo ad cA x.2)) 0 0 (va_A (Wo ad cA sMo) sz) := by
  refine g_met (by decide) (Nat.le_of_ble_eq_true rfl) rfl ?_
  intro p e s m args below meth c F hr hlk
  unfold f_Mo_clear at hf
  refine g_aload_n F d_Mo_clear_0 0 rfl ?_
  refine g_get F (v := .int (q_Mo_size sMo)) in_X13 0 rfl rfl 3 (by decide) mw_1109 rfl d_Mo_clear_1 ?_
  refine g_istore_n F (L' := [(1, .int (q_Mo_size sMo)), (0, .ref (ad 0))]) d_Mo_clear_4 rfl (by decide) rfl ?_
  refine g_aload_n F d_Mo_clear_5 1 rfl ?_
  refine g_iconst F (v := 0) d_Mo_clear_6 (by decide) ?_
  refine g_put F in_X13 0 rfl rfl 3 (by decide) tyX13 tyX13_ok nmX13 mw_1109 rfl rfl rfl (Nat.le_of_ble_eq_true rfl) (ws' := (Wn ad cA (q_Mo_names sMo) (q_Mo_gives sMo) (q_Mo_turned sMo) 0 (q_Mo_bytes sMo) (q_Mo_n sMo) (q_Mo_text sMo) (q_Mo_p sMo) (q_Mo_ended sMo) (q_Mo_tokens sMo) (q_Mo_kinds sMo) (q_Mo_firsts sMo) (q_Mo_sizes sMo) (q_Mo_marks sMo) (q_Mo_attributes sMo) (q_Mo_manyOf sMo) (q_Mo_attributeCount sMo) (q_Mo_nameAt sMo) (q_Mo_nameSize sMo) (q_Mo_valueAt sMo) (q_Mo_valueSize sMo) (q_Mo_goes sMo) (q_Mo_rowSize sMo) (q_Mo_row sMo) (q_Mo_textAt sMo) (q_Mo_textSize sMo) (q_Mo_faultCount sMo) (q_Mo_codes sMo) (q_Mo_places sMo) (q_Mo_outSize sMo) (q_Mo_out sMo) (q_Mo_which sMo))) rfl d_Mo_clear_7 ?_
  refine g_iload_n F d_Mo_clear_10 0 rfl ?_
  subst hf
  exact g_iret F hr hlk rfl rfl rfl d_Mo_clear_11
set_option maxHeartbeats 4000000 in
set_option maxRecDepth 100000 in
theorem c_Mo_again (l : Launch) (D : va_G) (cA : Nat → ClassId) (z : gZ) (ad : Nat → Nat) (sMo : SMo) {x : Int32 × SMo} (hf : f_Mo_again sMo = some x) (sz : Nat) : Met l y_Mo_again (.code y_Mo_again b_Mo_again 2 (some .int) :: lw_g) { frames := 0, cells := 0, slots := 0, locals := 0 } (gP D (gT cA) z [.ref (ad 0)] (Wo ad cA sMo) sz) (gQi D (gT cA) (va_A (Wo ad cA sMo) sz) x.1 (Wo ad cA x.2)) 0 0 (va_A (Wo ad cA sMo) sz) := by
  refine g_met (by decide) (Nat.le_of_ble_eq_true rfl) rfl ?_
  intro p e s m args below meth c F hr hlk
  have blk15 : ∀ (n : Nat) (v1 : Int32) (tMo : SMo), f_Mo_again_15 n v1 tMo = some x → GW p l e { frames := 0, cells := 0, slots := 0, locals := 0 } s m args below meth c (gQi D (gT cA) (va_A (Wo ad cA sMo) sz) x.1 (Wo ad cA x.2)) D (va_A (Wo ad cA sMo) sz) 2 (Wo ad cA tMo) 15 [(0, .ref (ad 0)), (1, .int v1)] [] := by
    intro n
    induction n with
    | zero => intro _ _ hf; cases hf
    | succ n ih =>
      intro v1 tMo hf
      rw [f_Mo_again_15] at hf
      refine g_iload_n F d_Mo_again_15 1 rfl ?_
      refine g_aload_n F d_Mo_again_16 0 rfl ?_
      refine g_get F (v := .int (q_Mo_outSize tMo)) in_X13 0 rfl rfl 29 (by decide) mw_1135 rfl d_Mo_again_17 ?_
      refine g_icmp_ge F (tgt := 41) d_Mo_again_20 (by decide) (fun h => ?_) (fun h => ?_)
      · rw [if_pos h] at hf
        refine g_aload_n F d_Mo_again_41 0 rfl ?_
        refine g_aload_n F d_Mo_again_42 0 rfl ?_
        refine g_get F (v := .int (q_Mo_outSize tMo)) in_X13 0 rfl rfl 29 (by decide) mw_1135 rfl d_Mo_again_43 ?_
        refine g_put F in_X13 0 rfl rfl 3 (by decide) tyX13 tyX13_ok nmX13 mw_1109 rfl rfl rfl (Nat.le_of_ble_eq_true rfl) (ws' := (Wn ad cA (q_Mo_names tMo) (q_Mo_gives tMo) (q_Mo_turned tMo) (q_Mo_outSize tMo) (q_Mo_bytes tMo) (q_Mo_n tMo) (q_Mo_text tMo) (q_Mo_p tMo) (q_Mo_ended tMo) (q_Mo_tokens tMo) (q_Mo_kinds tMo) (q_Mo_firsts tMo) (q_Mo_sizes tMo) (q_Mo_marks tMo) (q_Mo_attributes tMo) (q_Mo_manyOf tMo) (q_Mo_attributeCount tMo) (q_Mo_nameAt tMo) (q_Mo_nameSize tMo) (q_Mo_valueAt tMo) (q_Mo_valueSize tMo) (q_Mo_goes tMo) (q_Mo_rowSize tMo) (q_Mo_row tMo) (q_Mo_textAt tMo) (q_Mo_textSize tMo) (q_Mo_faultCount tMo) (q_Mo_codes tMo) (q_Mo_places tMo) (q_Mo_outSize tMo) (q_Mo_out tMo) (q_Mo_which tMo))) rfl d_Mo_again_46 ?_
        refine g_aload_n F d_Mo_again_49 0 rfl ?_
        refine g_get F (v := .int (q_Mo_outSize tMo)) in_X13 0 rfl rfl 3 (by decide) mw_1109 rfl d_Mo_again_50 ?_
        cases hf
        exact g_iret F hr hlk rfl rfl rfl d_Mo_again_53
      · rw [if_neg h] at hf
        refine g_aload_n F d_Mo_again_23 0 rfl ?_
        refine g_get F (v := .ref (ad 4)) in_X13 0 rfl rfl 4 (by decide) mw_1110 rfl d_Mo_again_24 ?_
        refine g_iload_n F d_Mo_again_27 1 rfl ?_
        refine g_aload_n F d_Mo_again_28 0 rfl ?_
        refine g_get F (v := .ref (ad 20)) in_X13 0 rfl rfl 30 (by decide) mw_1136 rfl d_Mo_again_29 ?_
        refine g_iload_n F d_Mo_again_32 1 rfl ?_
        obtain ⟨k1, hf⟩ := g_chk hf
        refine g_bald F (f := (q_Mo_out tMo)) 20 1 rfl rfl k1 d_Mo_again_33 ?_
        obtain ⟨k2, hf⟩ := g_chk hf
        refine g_bast F (f := (q_Mo_bytes tMo)) 4 1 rfl rfl k2 (ws' := (Wn ad cA (q_Mo_names tMo) (q_Mo_gives tMo) (q_Mo_turned tMo) (q_Mo_size tMo) (upd (q_Mo_bytes tMo) (v1 : Int32).toNatClampNeg (vp_nar .byte ((q_Mo_out tMo) (v1 : Int32).toNatClampNeg))) (q_Mo_n tMo) (q_Mo_text tMo) (q_Mo_p tMo) (q_Mo_ended tMo) (q_Mo_tokens tMo) (q_Mo_kinds tMo) (q_Mo_firsts tMo) (q_Mo_sizes tMo) (q_Mo_marks tMo) (q_Mo_attributes tMo) (q_Mo_manyOf tMo) (q_Mo_attributeCount tMo) (q_Mo_nameAt tMo) (q_Mo_nameSize tMo) (q_Mo_valueAt tMo) (q_Mo_valueSize tMo) (q_Mo_goes tMo) (q_Mo_rowSize tMo) (q_Mo_row tMo) (q_Mo_textAt tMo) (q_Mo_textSize tMo) (q_Mo_faultCount tMo) (q_Mo_codes tMo) (q_Mo_places tMo) (q_Mo_outSize tMo) (q_Mo_out tMo) (q_Mo_which tMo))) rfl d_Mo_again_34 ?_
        refine g_iinc F (j := 1) (v := (v1 + 1)) (L' := [(1, .int (v1 + 1)), (0, .ref (ad 0))]) d_Mo_again_35 rfl rfl (by decide) rfl ?_
        refine g_goto F (tgt := 15) d_Mo_again_38 (by decide) ?_
        refine g_loc [1, 0] rfl ?_
        exact ih (v1 + 1) (u_Mo_bytes tMo (upd (q_Mo_bytes tMo) (v1 : Int32).toNatClampNeg (vp_nar .byte ((q_Mo_out tMo) (v1 : Int32).toNatClampNeg)))) hf
  unfold f_Mo_again at hf
  refine g_aload_n F d_Mo_again_0 0 rfl ?_
  refine g_get F (v := .int (q_Mo_outSize sMo)) in_X13 0 rfl rfl 29 (by decide) mw_1135 rfl d_Mo_again_1 ?_
  refine g_sipush F (v := 400) d_Mo_again_4 (by decide) ?_
  refine g_icmp_le F (tgt := 13) d_Mo_again_7 (by decide) (fun h => ?_) (fun h => ?_)
  · rw [if_pos h] at hf
    refine g_iconst F (v := 0) d_Mo_again_13 (by decide) ?_
    refine g_istore_n F (L' := [(1, .int 0), (0, .ref (ad 0))]) d_Mo_again_14 rfl (by decide) rfl ?_
    refine g_loc [1, 0] rfl ?_
    exact blk15 FU 0 sMo hf
  · rw [if_neg h] at hf
    refine g_bipush F (v := (-2)) d_Mo_again_10 (by decide) ?_
    cases hf
    exact g_iret F hr hlk rfl rfl rfl d_Mo_again_12
set_option maxHeartbeats 4000000 in
set_option maxRecDepth 100000 in
theorem c_Mo_layDown (l : Launch) (D : va_G) (cA : Nat → ClassId) (z : gZ) (ad : Nat → Nat) (sMo : SMo) {x : SMo} (hf : f_Mo_layDown sMo = some x) (sz : Nat) : Met l y_Mo_layDown (.code y_Mo_layDown b_Mo_layDown 4 none :: lw_g) { frames := 0, cells := 0, slots := 0, locals := 0 } (gP D (gT cA) z [.ref (ad 0)] (Wo ad cA sMo) sz) (gQv D (gT cA) (va_A (Wo ad cA sMo) sz) (Wo ad cA x)) 0 0 (va_A (Wo ad cA sMo) sz) := by
  refine g_met (by decide) (Nat.le_of_ble_eq_true rfl) rfl ?_
  intro p e s m args below meth c F hr hlk
  have blk7 : ∀ (n : Nat) (v1 : Int32) (tMo : SMo), f_Mo_layDown_7 n v1 tMo = some x → GW p l e { frames := 0, cells := 0, slots := 0, locals := 0 } s m args below meth c (gQv D (gT cA) (va_A (Wo ad cA sMo) sz) (Wo ad cA x)) D (va_A (Wo ad cA sMo) sz) 4 (Wo ad cA tMo) 7 [(0, .ref (ad 0)), (1, .int v1)] [] := by
    intro n
    induction n with
    | zero => intro _ _ hf; cases hf
    | succ n ih =>
      intro v1 tMo hf
      rw [f_Mo_layDown_7] at hf
      refine g_iload_n F d_Mo_layDown_7 1 rfl ?_
      refine g_aload_n F d_Mo_layDown_8 0 rfl ?_
      refine g_get F (v := .int (q_Mo_size tMo)) in_X13 0 rfl rfl 3 (by decide) mw_1109 rfl d_Mo_layDown_9 ?_
      refine g_icmp_ge F (tgt := 102) d_Mo_layDown_12 (by decide) (fun h => ?_) (fun h => ?_)
      · rw [if_pos h] at hf
        cases hf
        exact g_vret F hr hlk rfl rfl d_Mo_layDown_102
      · rw [if_neg h] at hf
        refine g_aload_n F d_Mo_layDown_15 0 rfl ?_
        refine g_get F (v := .ref (ad 4)) in_X13 0 rfl rfl 4 (by decide) mw_1110 rfl d_Mo_layDown_16 ?_
        refine g_iload_n F d_Mo_layDown_19 1 rfl ?_
        obtain ⟨k1, hf⟩ := g_chk hf
        refine g_bald F (f := (q_Mo_bytes tMo)) 4 1 rfl rfl k1 d_Mo_layDown_20 ?_
        refine g_sipush F (v := 255) d_Mo_layDown_21 (by decide) ?_
        refine g_iand F d_Mo_layDown_24 ?_
        refine g_istore_n F (L' := [(2, .int (((q_Mo_bytes tMo) (v1 : Int32).toNatClampNeg) &&& 255)), (0, .ref (ad 0)), (1, .int v1)]) d_Mo_layDown_25 rfl (by decide) rfl ?_
        refine g_iload_n F d_Mo_layDown_26 0 rfl ?_
        refine g_bipush F (v := 13) d_Mo_layDown_27 (by decide) ?_
        refine g_icmp_ne F (tgt := 59) d_Mo_layDown_29 (by decide) (fun h => ?_) (fun h => ?_)
        · rw [if_neg h] at hf
          refine g_iconst F (v := 0) d_Mo_layDown_59 (by decide) ?_
          refine g_istore_n F (L' := [(3, .int 0), (2, .int (((q_Mo_bytes tMo) (v1 : Int32).toNatClampNeg) &&& 255)), (0, .ref (ad 0)), (1, .int v1)]) d_Mo_layDown_60 rfl (by decide) rfl ?_
          refine g_iload_n F d_Mo_layDown_61 0 rfl ?_
          refine g_if_ne F (tgt := 96) d_Mo_layDown_62 (by decide) (fun h => absurd h (by decide)) (fun _ => ?_)
          refine g_aload_n F d_Mo_layDown_65 2 rfl ?_
          refine g_get F (v := .ref (ad 5)) in_X13 0 rfl rfl 6 (by decide) mw_1112 rfl d_Mo_layDown_66 ?_
          refine g_aload_n F d_Mo_layDown_69 2 rfl ?_
          refine g_get F (v := .int (q_Mo_n tMo)) in_X13 0 rfl rfl 5 (by decide) mw_1111 rfl d_Mo_layDown_70 ?_
          refine g_iload_n F d_Mo_layDown_73 1 rfl ?_
          refine g_bipush F (v := 13) d_Mo_layDown_74 (by decide) ?_
          refine g_icmp_ne F (tgt := 84) d_Mo_layDown_76 (by decide) (fun h => ?_) (fun h => ?_)
          · rw [if_neg h] at hf
            refine g_iload_n F d_Mo_layDown_84 1 rfl ?_
            obtain ⟨k2, hf⟩ := g_chk hf
            refine g_iast F (f := (q_Mo_text tMo)) 5 0 rfl rfl k2 (ws' := (Wn ad cA (q_Mo_names tMo) (q_Mo_gives tMo) (q_Mo_turned tMo) (q_Mo_size tMo) (q_Mo_bytes tMo) (q_Mo_n tMo) (upd (q_Mo_text tMo) ((q_Mo_n tMo) : Int32).toNatClampNeg (((q_Mo_bytes tMo) (v1 : Int32).toNatClampNeg) &&& 255)) (q_Mo_p tMo) (q_Mo_ended tMo) (q_Mo_tokens tMo) (q_Mo_kinds tMo) (q_Mo_firsts tMo) (q_Mo_sizes tMo) (q_Mo_marks tMo) (q_Mo_attributes tMo) (q_Mo_manyOf tMo) (q_Mo_attributeCount tMo) (q_Mo_nameAt tMo) (q_Mo_nameSize tMo) (q_Mo_valueAt tMo) (q_Mo_valueSize tMo) (q_Mo_goes tMo) (q_Mo_rowSize tMo) (q_Mo_row tMo) (q_Mo_textAt tMo) (q_Mo_textSize tMo) (q_Mo_faultCount tMo) (q_Mo_codes tMo) (q_Mo_places tMo) (q_Mo_outSize tMo) (q_Mo_out tMo) (q_Mo_which tMo))) rfl d_Mo_layDown_85 ?_
            refine g_aload_n F d_Mo_layDown_86 2 rfl ?_
            refine g_dup F d_Mo_layDown_87 rfl ?_
            refine g_get F (v := .int (q_Mo_n tMo)) in_X13 0 rfl rfl 5 (by decide) mw_1111 rfl d_Mo_layDown_88 ?_
            refine g_iconst F (v := 1) d_Mo_layDown_91 (by decide) ?_
            refine g_iadd F d_Mo_layDown_92 ?_
            refine g_put F in_X13 0 rfl rfl 5 (by decide) tyX13 tyX13_ok nmX13 mw_1111 rfl rfl rfl (Nat.le_of_ble_eq_true rfl) (ws' := (Wn ad cA (q_Mo_names tMo) (q_Mo_gives tMo) (q_Mo_turned tMo) (q_Mo_size tMo) (q_Mo_bytes tMo) ((q_Mo_n tMo) + 1) (upd (q_Mo_text tMo) ((q_Mo_n tMo) : Int32).toNatClampNeg (((q_Mo_bytes tMo) (v1 : Int32).toNatClampNeg) &&& 255)) (q_Mo_p tMo) (q_Mo_ended tMo) (q_Mo_tokens tMo) (q_Mo_kinds tMo) (q_Mo_firsts tMo) (q_Mo_sizes tMo) (q_Mo_marks tMo) (q_Mo_attributes tMo) (q_Mo_manyOf tMo) (q_Mo_attributeCount tMo) (q_Mo_nameAt tMo) (q_Mo_nameSize tMo) (q_Mo_valueAt tMo) (q_Mo_valueSize tMo) (q_Mo_goes tMo) (q_Mo_rowSize tMo) (q_Mo_row tMo) (q_Mo_textAt tMo) (q_Mo_textSize tMo) (q_Mo_faultCount tMo) (q_Mo_codes tMo) (q_Mo_places tMo) (q_Mo_outSize tMo) (q_Mo_out tMo) (q_Mo_which tMo))) rfl d_Mo_layDown_93 ?_
            refine g_iinc F (j := 3) (v := (v1 + 1)) (L' := [(1, .int (v1 + 1)), (3, .int 0), (2, .int (((q_Mo_bytes tMo) (v1 : Int32).toNatClampNeg) &&& 255)), (0, .ref (ad 0))]) d_Mo_layDown_96 rfl rfl (by decide) rfl ?_
            refine g_goto F (tgt := 7) d_Mo_layDown_99 (by decide) ?_
            refine g_loc [3, 0] rfl ?_
            exact ih (v1 + 1) (u_Mo_n_text tMo ((q_Mo_n tMo) + 1) (upd (q_Mo_text tMo) ((q_Mo_n tMo) : Int32).toNatClampNeg (((q_Mo_bytes tMo) (v1 : Int32).toNatClampNeg) &&& 255))) hf
          · rw [if_pos h] at hf
            refine g_bipush F (v := 10) d_Mo_layDown_79 (by decide) ?_
            refine g_goto F (tgt := 85) d_Mo_layDown_81 (by decide) ?_
            obtain ⟨k3, hf⟩ := g_chk hf
            refine g_iast F (f := (q_Mo_text tMo)) 5 0 rfl rfl k3 (ws' := (Wn ad cA (q_Mo_names tMo) (q_Mo_gives tMo) (q_Mo_turned tMo) (q_Mo_size tMo) (q_Mo_bytes tMo) (q_Mo_n tMo) (upd (q_Mo_text tMo) ((q_Mo_n tMo) : Int32).toNatClampNeg 10) (q_Mo_p tMo) (q_Mo_ended tMo) (q_Mo_tokens tMo) (q_Mo_kinds tMo) (q_Mo_firsts tMo) (q_Mo_sizes tMo) (q_Mo_marks tMo) (q_Mo_attributes tMo) (q_Mo_manyOf tMo) (q_Mo_attributeCount tMo) (q_Mo_nameAt tMo) (q_Mo_nameSize tMo) (q_Mo_valueAt tMo) (q_Mo_valueSize tMo) (q_Mo_goes tMo) (q_Mo_rowSize tMo) (q_Mo_row tMo) (q_Mo_textAt tMo) (q_Mo_textSize tMo) (q_Mo_faultCount tMo) (q_Mo_codes tMo) (q_Mo_places tMo) (q_Mo_outSize tMo) (q_Mo_out tMo) (q_Mo_which tMo))) rfl d_Mo_layDown_85 ?_
            refine g_aload_n F d_Mo_layDown_86 2 rfl ?_
            refine g_dup F d_Mo_layDown_87 rfl ?_
            refine g_get F (v := .int (q_Mo_n tMo)) in_X13 0 rfl rfl 5 (by decide) mw_1111 rfl d_Mo_layDown_88 ?_
            refine g_iconst F (v := 1) d_Mo_layDown_91 (by decide) ?_
            refine g_iadd F d_Mo_layDown_92 ?_
            refine g_put F in_X13 0 rfl rfl 5 (by decide) tyX13 tyX13_ok nmX13 mw_1111 rfl rfl rfl (Nat.le_of_ble_eq_true rfl) (ws' := (Wn ad cA (q_Mo_names tMo) (q_Mo_gives tMo) (q_Mo_turned tMo) (q_Mo_size tMo) (q_Mo_bytes tMo) ((q_Mo_n tMo) + 1) (upd (q_Mo_text tMo) ((q_Mo_n tMo) : Int32).toNatClampNeg 10) (q_Mo_p tMo) (q_Mo_ended tMo) (q_Mo_tokens tMo) (q_Mo_kinds tMo) (q_Mo_firsts tMo) (q_Mo_sizes tMo) (q_Mo_marks tMo) (q_Mo_attributes tMo) (q_Mo_manyOf tMo) (q_Mo_attributeCount tMo) (q_Mo_nameAt tMo) (q_Mo_nameSize tMo) (q_Mo_valueAt tMo) (q_Mo_valueSize tMo) (q_Mo_goes tMo) (q_Mo_rowSize tMo) (q_Mo_row tMo) (q_Mo_textAt tMo) (q_Mo_textSize tMo) (q_Mo_faultCount tMo) (q_Mo_codes tMo) (q_Mo_places tMo) (q_Mo_outSize tMo) (q_Mo_out tMo) (q_Mo_which tMo))) rfl d_Mo_layDown_93 ?_
            refine g_iinc F (j := 3) (v := (v1 + 1)) (L' := [(1, .int (v1 + 1)), (3, .int 0), (2, .int (((q_Mo_bytes tMo) (v1 : Int32).toNatClampNeg) &&& 255)), (0, .ref (ad 0))]) d_Mo_layDown_96 rfl rfl (by decide) rfl ?_
            refine g_goto F (tgt := 7) d_Mo_layDown_99 (by decide) ?_
            refine g_loc [3, 0] rfl ?_
            exact ih (v1 + 1) (u_Mo_n_text tMo ((q_Mo_n tMo) + 1) (upd (q_Mo_text tMo) ((q_Mo_n tMo) : Int32).toNatClampNeg 10)) hf
        · rw [if_pos h] at hf
          refine g_iload_n F d_Mo_layDown_32 2 rfl ?_
          refine g_iconst F (v := 1) d_Mo_layDown_33 (by decide) ?_
          refine g_iadd F d_Mo_layDown_34 ?_
          refine g_aload_n F d_Mo_layDown_35 1 rfl ?_
          refine g_get F (v := .int (q_Mo_size tMo)) in_X13 0 rfl rfl 3 (by decide) mw_1109 rfl d_Mo_layDown_36 ?_
          refine g_icmp_ge F (tgt := 59) d_Mo_layDown_39 (by decide) (fun h => ?_) (fun h => ?_)
          · rw [if_pos h] at hf
            refine g_iconst F (v := 0) d_Mo_layDown_59 (by decide) ?_
            refine g_istore_n F (L' := [(3, .int 0), (2, .int (((q_Mo_bytes tMo) (v1 : Int32).toNatClampNeg) &&& 255)), (0, .ref (ad 0)), (1, .int v1)]) d_Mo_layDown_60 rfl (by decide) rfl ?_
            refine g_iload_n F d_Mo_layDown_61 0 rfl ?_
            refine g_if_ne F (tgt := 96) d_Mo_layDown_62 (by decide) (fun h => absurd h (by decide)) (fun _ => ?_)
            refine g_aload_n F d_Mo_layDown_65 2 rfl ?_
            refine g_get F (v := .ref (ad 5)) in_X13 0 rfl rfl 6 (by decide) mw_1112 rfl d_Mo_layDown_66 ?_
            refine g_aload_n F d_Mo_layDown_69 2 rfl ?_
            refine g_get F (v := .int (q_Mo_n tMo)) in_X13 0 rfl rfl 5 (by decide) mw_1111 rfl d_Mo_layDown_70 ?_
            refine g_iload_n F d_Mo_layDown_73 1 rfl ?_
            refine g_bipush F (v := 13) d_Mo_layDown_74 (by decide) ?_
            refine g_icmp_ne F (tgt := 84) d_Mo_layDown_76 (by decide) (fun h => ?_) (fun h => ?_)
            · rw [if_neg h] at hf
              refine g_iload_n F d_Mo_layDown_84 1 rfl ?_
              obtain ⟨k4, hf⟩ := g_chk hf
              refine g_iast F (f := (q_Mo_text tMo)) 5 0 rfl rfl k4 (ws' := (Wn ad cA (q_Mo_names tMo) (q_Mo_gives tMo) (q_Mo_turned tMo) (q_Mo_size tMo) (q_Mo_bytes tMo) (q_Mo_n tMo) (upd (q_Mo_text tMo) ((q_Mo_n tMo) : Int32).toNatClampNeg (((q_Mo_bytes tMo) (v1 : Int32).toNatClampNeg) &&& 255)) (q_Mo_p tMo) (q_Mo_ended tMo) (q_Mo_tokens tMo) (q_Mo_kinds tMo) (q_Mo_firsts tMo) (q_Mo_sizes tMo) (q_Mo_marks tMo) (q_Mo_attributes tMo) (q_Mo_manyOf tMo) (q_Mo_attributeCount tMo) (q_Mo_nameAt tMo) (q_Mo_nameSize tMo) (q_Mo_valueAt tMo) (q_Mo_valueSize tMo) (q_Mo_goes tMo) (q_Mo_rowSize tMo) (q_Mo_row tMo) (q_Mo_textAt tMo) (q_Mo_textSize tMo) (q_Mo_faultCount tMo) (q_Mo_codes tMo) (q_Mo_places tMo) (q_Mo_outSize tMo) (q_Mo_out tMo) (q_Mo_which tMo))) rfl d_Mo_layDown_85 ?_
              refine g_aload_n F d_Mo_layDown_86 2 rfl ?_
              refine g_dup F d_Mo_layDown_87 rfl ?_
              refine g_get F (v := .int (q_Mo_n tMo)) in_X13 0 rfl rfl 5 (by decide) mw_1111 rfl d_Mo_layDown_88 ?_
              refine g_iconst F (v := 1) d_Mo_layDown_91 (by decide) ?_
              refine g_iadd F d_Mo_layDown_92 ?_
              refine g_put F in_X13 0 rfl rfl 5 (by decide) tyX13 tyX13_ok nmX13 mw_1111 rfl rfl rfl (Nat.le_of_ble_eq_true rfl) (ws' := (Wn ad cA (q_Mo_names tMo) (q_Mo_gives tMo) (q_Mo_turned tMo) (q_Mo_size tMo) (q_Mo_bytes tMo) ((q_Mo_n tMo) + 1) (upd (q_Mo_text tMo) ((q_Mo_n tMo) : Int32).toNatClampNeg (((q_Mo_bytes tMo) (v1 : Int32).toNatClampNeg) &&& 255)) (q_Mo_p tMo) (q_Mo_ended tMo) (q_Mo_tokens tMo) (q_Mo_kinds tMo) (q_Mo_firsts tMo) (q_Mo_sizes tMo) (q_Mo_marks tMo) (q_Mo_attributes tMo) (q_Mo_manyOf tMo) (q_Mo_attributeCount tMo) (q_Mo_nameAt tMo) (q_Mo_nameSize tMo) (q_Mo_valueAt tMo) (q_Mo_valueSize tMo) (q_Mo_goes tMo) (q_Mo_rowSize tMo) (q_Mo_row tMo) (q_Mo_textAt tMo) (q_Mo_textSize tMo) (q_Mo_faultCount tMo) (q_Mo_codes tMo) (q_Mo_places tMo) (q_Mo_outSize tMo) (q_Mo_out tMo) (q_Mo_which tMo))) rfl d_Mo_layDown_93 ?_
              refine g_iinc F (j := 3) (v := (v1 + 1)) (L' := [(1, .int (v1 + 1)), (3, .int 0), (2, .int (((q_Mo_bytes tMo) (v1 : Int32).toNatClampNeg) &&& 255)), (0, .ref (ad 0))]) d_Mo_layDown_96 rfl rfl (by decide) rfl ?_
              refine g_goto F (tgt := 7) d_Mo_layDown_99 (by decide) ?_
              refine g_loc [3, 0] rfl ?_
              exact ih (v1 + 1) (u_Mo_n_text tMo ((q_Mo_n tMo) + 1) (upd (q_Mo_text tMo) ((q_Mo_n tMo) : Int32).toNatClampNeg (((q_Mo_bytes tMo) (v1 : Int32).toNatClampNeg) &&& 255))) hf
            · rw [if_pos h] at hf
              refine g_bipush F (v := 10) d_Mo_layDown_79 (by decide) ?_
              refine g_goto F (tgt := 85) d_Mo_layDown_81 (by decide) ?_
              obtain ⟨k5, hf⟩ := g_chk hf
              refine g_iast F (f := (q_Mo_text tMo)) 5 0 rfl rfl k5 (ws' := (Wn ad cA (q_Mo_names tMo) (q_Mo_gives tMo) (q_Mo_turned tMo) (q_Mo_size tMo) (q_Mo_bytes tMo) (q_Mo_n tMo) (upd (q_Mo_text tMo) ((q_Mo_n tMo) : Int32).toNatClampNeg 10) (q_Mo_p tMo) (q_Mo_ended tMo) (q_Mo_tokens tMo) (q_Mo_kinds tMo) (q_Mo_firsts tMo) (q_Mo_sizes tMo) (q_Mo_marks tMo) (q_Mo_attributes tMo) (q_Mo_manyOf tMo) (q_Mo_attributeCount tMo) (q_Mo_nameAt tMo) (q_Mo_nameSize tMo) (q_Mo_valueAt tMo) (q_Mo_valueSize tMo) (q_Mo_goes tMo) (q_Mo_rowSize tMo) (q_Mo_row tMo) (q_Mo_textAt tMo) (q_Mo_textSize tMo) (q_Mo_faultCount tMo) (q_Mo_codes tMo) (q_Mo_places tMo) (q_Mo_outSize tMo) (q_Mo_out tMo) (q_Mo_which tMo))) rfl d_Mo_layDown_85 ?_
              refine g_aload_n F d_Mo_layDown_86 2 rfl ?_
              refine g_dup F d_Mo_layDown_87 rfl ?_
              refine g_get F (v := .int (q_Mo_n tMo)) in_X13 0 rfl rfl 5 (by decide) mw_1111 rfl d_Mo_layDown_88 ?_
              refine g_iconst F (v := 1) d_Mo_layDown_91 (by decide) ?_
              refine g_iadd F d_Mo_layDown_92 ?_
              refine g_put F in_X13 0 rfl rfl 5 (by decide) tyX13 tyX13_ok nmX13 mw_1111 rfl rfl rfl (Nat.le_of_ble_eq_true rfl) (ws' := (Wn ad cA (q_Mo_names tMo) (q_Mo_gives tMo) (q_Mo_turned tMo) (q_Mo_size tMo) (q_Mo_bytes tMo) ((q_Mo_n tMo) + 1) (upd (q_Mo_text tMo) ((q_Mo_n tMo) : Int32).toNatClampNeg 10) (q_Mo_p tMo) (q_Mo_ended tMo) (q_Mo_tokens tMo) (q_Mo_kinds tMo) (q_Mo_firsts tMo) (q_Mo_sizes tMo) (q_Mo_marks tMo) (q_Mo_attributes tMo) (q_Mo_manyOf tMo) (q_Mo_attributeCount tMo) (q_Mo_nameAt tMo) (q_Mo_nameSize tMo) (q_Mo_valueAt tMo) (q_Mo_valueSize tMo) (q_Mo_goes tMo) (q_Mo_rowSize tMo) (q_Mo_row tMo) (q_Mo_textAt tMo) (q_Mo_textSize tMo) (q_Mo_faultCount tMo) (q_Mo_codes tMo) (q_Mo_places tMo) (q_Mo_outSize tMo) (q_Mo_out tMo) (q_Mo_which tMo))) rfl d_Mo_layDown_93 ?_
              refine g_iinc F (j := 3) (v := (v1 + 1)) (L' := [(1, .int (v1 + 1)), (3, .int 0), (2, .int (((q_Mo_bytes tMo) (v1 : Int32).toNatClampNeg) &&& 255)), (0, .ref (ad 0))]) d_Mo_layDown_96 rfl rfl (by decide) rfl ?_
              refine g_goto F (tgt := 7) d_Mo_layDown_99 (by decide) ?_
              refine g_loc [3, 0] rfl ?_
              exact ih (v1 + 1) (u_Mo_n_text tMo ((q_Mo_n tMo) + 1) (upd (q_Mo_text tMo) ((q_Mo_n tMo) : Int32).toNatClampNeg 10)) hf
          · rw [if_neg h] at hf
            refine g_aload_n F d_Mo_layDown_42 1 rfl ?_
            refine g_get F (v := .ref (ad 4)) in_X13 0 rfl rfl 4 (by decide) mw_1110 rfl d_Mo_layDown_43 ?_
            refine g_iload_n F d_Mo_layDown_46 2 rfl ?_
            refine g_iconst F (v := 1) d_Mo_layDown_47 (by decide) ?_
            refine g_iadd F d_Mo_layDown_48 ?_
            obtain ⟨k6, hf⟩ := g_chk hf
            refine g_bald F (f := (q_Mo_bytes tMo)) 4 1 rfl rfl k6 d_Mo_layDown_49 ?_
            refine g_bipush F (v := 10) d_Mo_layDown_50 (by decide) ?_
            refine g_icmp_ne F (tgt := 59) d_Mo_layDown_52 (by decide) (fun h => ?_) (fun h => ?_)
            · rw [if_neg h] at hf
              refine g_iconst F (v := 0) d_Mo_layDown_59 (by decide) ?_
              refine g_istore_n F (L' := [(3, .int 0), (2, .int (((q_Mo_bytes tMo) (v1 : Int32).toNatClampNeg) &&& 255)), (0, .ref (ad 0)), (1, .int v1)]) d_Mo_layDown_60 rfl (by decide) rfl ?_
              refine g_iload_n F d_Mo_layDown_61 0 rfl ?_
              refine g_if_ne F (tgt := 96) d_Mo_layDown_62 (by decide) (fun h => absurd h (by decide)) (fun _ => ?_)
              refine g_aload_n F d_Mo_layDown_65 2 rfl ?_
              refine g_get F (v := .ref (ad 5)) in_X13 0 rfl rfl 6 (by decide) mw_1112 rfl d_Mo_layDown_66 ?_
              refine g_aload_n F d_Mo_layDown_69 2 rfl ?_
              refine g_get F (v := .int (q_Mo_n tMo)) in_X13 0 rfl rfl 5 (by decide) mw_1111 rfl d_Mo_layDown_70 ?_
              refine g_iload_n F d_Mo_layDown_73 1 rfl ?_
              refine g_bipush F (v := 13) d_Mo_layDown_74 (by decide) ?_
              refine g_icmp_ne F (tgt := 84) d_Mo_layDown_76 (by decide) (fun h => ?_) (fun h => ?_)
              · rw [if_neg h] at hf
                refine g_iload_n F d_Mo_layDown_84 1 rfl ?_
                obtain ⟨k7, hf⟩ := g_chk hf
                refine g_iast F (f := (q_Mo_text tMo)) 5 0 rfl rfl k7 (ws' := (Wn ad cA (q_Mo_names tMo) (q_Mo_gives tMo) (q_Mo_turned tMo) (q_Mo_size tMo) (q_Mo_bytes tMo) (q_Mo_n tMo) (upd (q_Mo_text tMo) ((q_Mo_n tMo) : Int32).toNatClampNeg (((q_Mo_bytes tMo) (v1 : Int32).toNatClampNeg) &&& 255)) (q_Mo_p tMo) (q_Mo_ended tMo) (q_Mo_tokens tMo) (q_Mo_kinds tMo) (q_Mo_firsts tMo) (q_Mo_sizes tMo) (q_Mo_marks tMo) (q_Mo_attributes tMo) (q_Mo_manyOf tMo) (q_Mo_attributeCount tMo) (q_Mo_nameAt tMo) (q_Mo_nameSize tMo) (q_Mo_valueAt tMo) (q_Mo_valueSize tMo) (q_Mo_goes tMo) (q_Mo_rowSize tMo) (q_Mo_row tMo) (q_Mo_textAt tMo) (q_Mo_textSize tMo) (q_Mo_faultCount tMo) (q_Mo_codes tMo) (q_Mo_places tMo) (q_Mo_outSize tMo) (q_Mo_out tMo) (q_Mo_which tMo))) rfl d_Mo_layDown_85 ?_
                refine g_aload_n F d_Mo_layDown_86 2 rfl ?_
                refine g_dup F d_Mo_layDown_87 rfl ?_
                refine g_get F (v := .int (q_Mo_n tMo)) in_X13 0 rfl rfl 5 (by decide) mw_1111 rfl d_Mo_layDown_88 ?_
                refine g_iconst F (v := 1) d_Mo_layDown_91 (by decide) ?_
                refine g_iadd F d_Mo_layDown_92 ?_
                refine g_put F in_X13 0 rfl rfl 5 (by decide) tyX13 tyX13_ok nmX13 mw_1111 rfl rfl rfl (Nat.le_of_ble_eq_true rfl) (ws' := (Wn ad cA (q_Mo_names tMo) (q_Mo_gives tMo) (q_Mo_turned tMo) (q_Mo_size tMo) (q_Mo_bytes tMo) ((q_Mo_n tMo) + 1) (upd (q_Mo_text tMo) ((q_Mo_n tMo) : Int32).toNatClampNeg (((q_Mo_bytes tMo) (v1 : Int32).toNatClampNeg) &&& 255)) (q_Mo_p tMo) (q_Mo_ended tMo) (q_Mo_tokens tMo) (q_Mo_kinds tMo) (q_Mo_firsts tMo) (q_Mo_sizes tMo) (q_Mo_marks tMo) (q_Mo_attributes tMo) (q_Mo_manyOf tMo) (q_Mo_attributeCount tMo) (q_Mo_nameAt tMo) (q_Mo_nameSize tMo) (q_Mo_valueAt tMo) (q_Mo_valueSize tMo) (q_Mo_goes tMo) (q_Mo_rowSize tMo) (q_Mo_row tMo) (q_Mo_textAt tMo) (q_Mo_textSize tMo) (q_Mo_faultCount tMo) (q_Mo_codes tMo) (q_Mo_places tMo) (q_Mo_outSize tMo) (q_Mo_out tMo) (q_Mo_which tMo))) rfl d_Mo_layDown_93 ?_
                refine g_iinc F (j := 3) (v := (v1 + 1)) (L' := [(1, .int (v1 + 1)), (3, .int 0), (2, .int (((q_Mo_bytes tMo) (v1 : Int32).toNatClampNeg) &&& 255)), (0, .ref (ad 0))]) d_Mo_layDown_96 rfl rfl (by decide) rfl ?_
                refine g_goto F (tgt := 7) d_Mo_layDown_99 (by decide) ?_
                refine g_loc [3, 0] rfl ?_
                exact ih (v1 + 1) (u_Mo_n_text tMo ((q_Mo_n tMo) + 1) (upd (q_Mo_text tMo) ((q_Mo_n tMo) : Int32).toNatClampNeg (((q_Mo_bytes tMo) (v1 : Int32).toNatClampNeg) &&& 255))) hf
              · rw [if_pos h] at hf
                refine g_bipush F (v := 10) d_Mo_layDown_79 (by decide) ?_
                refine g_goto F (tgt := 85) d_Mo_layDown_81 (by decide) ?_
                obtain ⟨k8, hf⟩ := g_chk hf
                refine g_iast F (f := (q_Mo_text tMo)) 5 0 rfl rfl k8 (ws' := (Wn ad cA (q_Mo_names tMo) (q_Mo_gives tMo) (q_Mo_turned tMo) (q_Mo_size tMo) (q_Mo_bytes tMo) (q_Mo_n tMo) (upd (q_Mo_text tMo) ((q_Mo_n tMo) : Int32).toNatClampNeg 10) (q_Mo_p tMo) (q_Mo_ended tMo) (q_Mo_tokens tMo) (q_Mo_kinds tMo) (q_Mo_firsts tMo) (q_Mo_sizes tMo) (q_Mo_marks tMo) (q_Mo_attributes tMo) (q_Mo_manyOf tMo) (q_Mo_attributeCount tMo) (q_Mo_nameAt tMo) (q_Mo_nameSize tMo) (q_Mo_valueAt tMo) (q_Mo_valueSize tMo) (q_Mo_goes tMo) (q_Mo_rowSize tMo) (q_Mo_row tMo) (q_Mo_textAt tMo) (q_Mo_textSize tMo) (q_Mo_faultCount tMo) (q_Mo_codes tMo) (q_Mo_places tMo) (q_Mo_outSize tMo) (q_Mo_out tMo) (q_Mo_which tMo))) rfl d_Mo_layDown_85 ?_
                refine g_aload_n F d_Mo_layDown_86 2 rfl ?_
                refine g_dup F d_Mo_layDown_87 rfl ?_
                refine g_get F (v := .int (q_Mo_n tMo)) in_X13 0 rfl rfl 5 (by decide) mw_1111 rfl d_Mo_layDown_88 ?_
                refine g_iconst F (v := 1) d_Mo_layDown_91 (by decide) ?_
                refine g_iadd F d_Mo_layDown_92 ?_
                refine g_put F in_X13 0 rfl rfl 5 (by decide) tyX13 tyX13_ok nmX13 mw_1111 rfl rfl rfl (Nat.le_of_ble_eq_true rfl) (ws' := (Wn ad cA (q_Mo_names tMo) (q_Mo_gives tMo) (q_Mo_turned tMo) (q_Mo_size tMo) (q_Mo_bytes tMo) ((q_Mo_n tMo) + 1) (upd (q_Mo_text tMo) ((q_Mo_n tMo) : Int32).toNatClampNeg 10) (q_Mo_p tMo) (q_Mo_ended tMo) (q_Mo_tokens tMo) (q_Mo_kinds tMo) (q_Mo_firsts tMo) (q_Mo_sizes tMo) (q_Mo_marks tMo) (q_Mo_attributes tMo) (q_Mo_manyOf tMo) (q_Mo_attributeCount tMo) (q_Mo_nameAt tMo) (q_Mo_nameSize tMo) (q_Mo_valueAt tMo) (q_Mo_valueSize tMo) (q_Mo_goes tMo) (q_Mo_rowSize tMo) (q_Mo_row tMo) (q_Mo_textAt tMo) (q_Mo_textSize tMo) (q_Mo_faultCount tMo) (q_Mo_codes tMo) (q_Mo_places tMo) (q_Mo_outSize tMo) (q_Mo_out tMo) (q_Mo_which tMo))) rfl d_Mo_layDown_93 ?_
                refine g_iinc F (j := 3) (v := (v1 + 1)) (L' := [(1, .int (v1 + 1)), (3, .int 0), (2, .int (((q_Mo_bytes tMo) (v1 : Int32).toNatClampNeg) &&& 255)), (0, .ref (ad 0))]) d_Mo_layDown_96 rfl rfl (by decide) rfl ?_
                refine g_goto F (tgt := 7) d_Mo_layDown_99 (by decide) ?_
                refine g_loc [3, 0] rfl ?_
                exact ih (v1 + 1) (u_Mo_n_text tMo ((q_Mo_n tMo) + 1) (upd (q_Mo_text tMo) ((q_Mo_n tMo) : Int32).toNatClampNeg 10)) hf
            · rw [if_pos h] at hf
              refine g_iconst F (v := 1) d_Mo_layDown_55 (by decide) ?_
              refine g_goto F (tgt := 60) d_Mo_layDown_56 (by decide) ?_
              refine g_istore_n F (L' := [(3, .int 1), (2, .int (((q_Mo_bytes tMo) (v1 : Int32).toNatClampNeg) &&& 255)), (0, .ref (ad 0)), (1, .int v1)]) d_Mo_layDown_60 rfl (by decide) rfl ?_
              refine g_iload_n F d_Mo_layDown_61 0 rfl ?_
              refine g_if_ne F (tgt := 96) d_Mo_layDown_62 (by decide) (fun _ => ?_) (fun h => absurd h (by decide))
              refine g_iinc F (j := 3) (v := (v1 + 1)) (L' := [(1, .int (v1 + 1)), (3, .int 1), (2, .int (((q_Mo_bytes tMo) (v1 : Int32).toNatClampNeg) &&& 255)), (0, .ref (ad 0))]) d_Mo_layDown_96 rfl rfl (by decide) rfl ?_
              refine g_goto F (tgt := 7) d_Mo_layDown_99 (by decide) ?_
              refine g_loc [3, 0] rfl ?_
              exact ih (v1 + 1) tMo hf
  unfold f_Mo_layDown at hf
  refine g_aload_n F d_Mo_layDown_0 0 rfl ?_
  refine g_iconst F (v := 0) d_Mo_layDown_1 (by decide) ?_
  refine g_put F in_X13 0 rfl rfl 5 (by decide) tyX13 tyX13_ok nmX13 mw_1111 rfl rfl rfl (Nat.le_of_ble_eq_true rfl) (ws' := (Wn ad cA (q_Mo_names sMo) (q_Mo_gives sMo) (q_Mo_turned sMo) (q_Mo_size sMo) (q_Mo_bytes sMo) 0 (q_Mo_text sMo) (q_Mo_p sMo) (q_Mo_ended sMo) (q_Mo_tokens sMo) (q_Mo_kinds sMo) (q_Mo_firsts sMo) (q_Mo_sizes sMo) (q_Mo_marks sMo) (q_Mo_attributes sMo) (q_Mo_manyOf sMo) (q_Mo_attributeCount sMo) (q_Mo_nameAt sMo) (q_Mo_nameSize sMo) (q_Mo_valueAt sMo) (q_Mo_valueSize sMo) (q_Mo_goes sMo) (q_Mo_rowSize sMo) (q_Mo_row sMo) (q_Mo_textAt sMo) (q_Mo_textSize sMo) (q_Mo_faultCount sMo) (q_Mo_codes sMo) (q_Mo_places sMo) (q_Mo_outSize sMo) (q_Mo_out sMo) (q_Mo_which sMo))) rfl d_Mo_layDown_2 ?_
  refine g_iconst F (v := 0) d_Mo_layDown_5 (by decide) ?_
  refine g_istore_n F (L' := [(1, .int 0), (0, .ref (ad 0))]) d_Mo_layDown_6 rfl (by decide) rfl ?_
  refine g_loc [1, 0] rfl ?_
  exact blk7 FU 0 (u_Mo_n sMo 0) hf
set_option maxHeartbeats 4000000 in
set_option maxRecDepth 100000 in
theorem c_Mo_charAt (l : Launch) (D : va_G) (cA : Nat → ClassId) (z : gZ) (ad : Nat → Nat) (sMo : SMo) (a1 : Int32) {x : Int32} (hf : f_Mo_charAt a1 sMo = some x) (sz : Nat) : Met l y_Mo_charAt (.code y_Mo_charAt b_Mo_charAt 2 (some .int) :: lw_g) { frames := 0, cells := 0, slots := 0, locals := 0 } (gP D (gT cA) z [.ref (ad 0), .int a1] (Wo ad cA sMo) sz) (gQi D (gT cA) (va_A (Wo ad cA sMo) sz) x (Wo ad cA sMo)) 0 0 (va_A (Wo ad cA sMo) sz) := by
  refine g_met (by decide) (Nat.le_of_ble_eq_true rfl) rfl ?_
  intro p e s m args below meth c F hr hlk
  unfold f_Mo_charAt at hf
  refine g_iload_n F d_Mo_charAt_0 1 rfl ?_
  refine g_aload_n F d_Mo_charAt_1 0 rfl ?_
  refine g_get F (v := .int (q_Mo_n sMo)) in_X13 0 rfl rfl 5 (by decide) mw_1111 rfl d_Mo_charAt_2 ?_
  refine g_icmp_ge F (tgt := 17) d_Mo_charAt_5 (by decide) (fun h => ?_) (fun h => ?_)
  · rw [if_pos h] at hf
    refine g_iconst F (v := (-1)) d_Mo_charAt_17 (by decide) ?_
    cases hf
    exact g_iret F hr hlk rfl rfl rfl d_Mo_charAt_18
  · rw [if_neg h] at hf
    refine g_aload_n F d_Mo_charAt_8 0 rfl ?_
    refine g_get F (v := .ref (ad 5)) in_X13 0 rfl rfl 6 (by decide) mw_1112 rfl d_Mo_charAt_9 ?_
    refine g_iload_n F d_Mo_charAt_12 1 rfl ?_
    obtain ⟨k1, hf⟩ := g_chk hf
    refine g_iald F (f := (q_Mo_text sMo)) 5 0 rfl rfl k1 d_Mo_charAt_13 ?_
    refine g_goto F (tgt := 18) d_Mo_charAt_14 (by decide) ?_
    cases hf
    exact g_iret F hr hlk rfl rfl rfl d_Mo_charAt_18
set_option maxHeartbeats 4000000 in
set_option maxRecDepth 100000 in
theorem c_Mo_isBlank (l : Launch) (D : va_G) (cA : Nat → ClassId) (z : gZ) (ad : Nat → Nat) (sMo : SMo) (a1 : Int32) {x : Int32} (hf : f_Mo_isBlank a1 = x) (sz : Nat) : Met l y_Mo_isBlank (.code y_Mo_isBlank b_Mo_isBlank 1 (some .boolean) :: lw_g) { frames := 0, cells := 0, slots := 0, locals := 0 } (gP D (gT cA) z [.int a1] (Wo ad cA sMo) sz) (gQi D (gT cA) (va_A (Wo ad cA sMo) sz) x (Wo ad cA sMo)) 0 0 (va_A (Wo ad cA sMo) sz) := by
  refine g_met (by decide) (Nat.le_of_ble_eq_true rfl) rfl ?_
  intro p e s m args below meth c F hr hlk
  unfold f_Mo_isBlank at hf
  refine g_iload_n F d_Mo_isBlank_0 0 rfl ?_
  refine g_bipush F (v := 10) d_Mo_isBlank_1 (by decide) ?_
  refine g_icmp_eq F (tgt := 24) d_Mo_isBlank_3 (by decide) (fun h => ?_) (fun h => ?_)
  · rw [if_pos h] at hf
    refine g_iconst F (v := 1) d_Mo_isBlank_24 (by decide) ?_
    refine g_goto F (tgt := 29) d_Mo_isBlank_25 (by decide) ?_
    subst hf
    exact g_zret F hr rfl hlk rfl rfl rfl d_Mo_isBlank_29
  · rw [if_neg h] at hf
    refine g_iload_n F d_Mo_isBlank_6 0 rfl ?_
    refine g_bipush F (v := 9) d_Mo_isBlank_7 (by decide) ?_
    refine g_icmp_eq F (tgt := 24) d_Mo_isBlank_9 (by decide) (fun h => ?_) (fun h => ?_)
    · rw [if_pos h] at hf
      refine g_iconst F (v := 1) d_Mo_isBlank_24 (by decide) ?_
      refine g_goto F (tgt := 29) d_Mo_isBlank_25 (by decide) ?_
      subst hf
      exact g_zret F hr rfl hlk rfl rfl rfl d_Mo_isBlank_29
    · rw [if_neg h] at hf
      refine g_iload_n F d_Mo_isBlank_12 0 rfl ?_
      refine g_bipush F (v := 12) d_Mo_isBlank_13 (by decide) ?_
      refine g_icmp_eq F (tgt := 24) d_Mo_isBlank_15 (by decide) (fun h => ?_) (fun h => ?_)
      · rw [if_pos h] at hf
        refine g_iconst F (v := 1) d_Mo_isBlank_24 (by decide) ?_
        refine g_goto F (tgt := 29) d_Mo_isBlank_25 (by decide) ?_
        subst hf
        exact g_zret F hr rfl hlk rfl rfl rfl d_Mo_isBlank_29
      · rw [if_neg h] at hf
        refine g_iload_n F d_Mo_isBlank_18 0 rfl ?_
        refine g_bipush F (v := 32) d_Mo_isBlank_19 (by decide) ?_
        refine g_icmp_ne F (tgt := 28) d_Mo_isBlank_21 (by decide) (fun h => ?_) (fun h => ?_)
        · rw [if_neg h] at hf
          refine g_iconst F (v := 0) d_Mo_isBlank_28 (by decide) ?_
          subst hf
          exact g_zret F hr rfl hlk rfl rfl rfl d_Mo_isBlank_29
        · rw [if_pos h] at hf
          refine g_iconst F (v := 1) d_Mo_isBlank_24 (by decide) ?_
          refine g_goto F (tgt := 29) d_Mo_isBlank_25 (by decide) ?_
          subst hf
          exact g_zret F hr rfl hlk rfl rfl rfl d_Mo_isBlank_29
set_option maxHeartbeats 4000000 in
set_option maxRecDepth 100000 in
theorem c_Mo_isGreat (l : Launch) (D : va_G) (cA : Nat → ClassId) (z : gZ) (ad : Nat → Nat) (sMo : SMo) (a1 : Int32) {x : Int32} (hf : f_Mo_isGreat a1 = x) (sz : Nat) : Met l y_Mo_isGreat (.code y_Mo_isGreat b_Mo_isGreat 1 (some .boolean) :: lw_g) { frames := 0, cells := 0, slots := 0, locals := 0 } (gP D (gT cA) z [.int a1] (Wo ad cA sMo) sz) (gQi D (gT cA) (va_A (Wo ad cA sMo) sz) x (Wo ad cA sMo)) 0 0 (va_A (Wo ad cA sMo) sz) := by
  refine g_met (by decide) (Nat.le_of_ble_eq_true rfl) rfl ?_
  intro p e s m args below meth c F hr hlk
  unfold f_Mo_isGreat at hf
  refine g_iload_n F d_Mo_isGreat_0 0 rfl ?_
  refine g_bipush F (v := 65) d_Mo_isGreat_1 (by decide) ?_
  refine g_icmp_lt F (tgt := 16) d_Mo_isGreat_3 (by decide) (fun h => ?_) (fun h => ?_)
  · rw [if_pos h] at hf
    refine g_iconst F (v := 0) d_Mo_isGreat_16 (by decide) ?_
    subst hf
    exact g_zret F hr rfl hlk rfl rfl rfl d_Mo_isGreat_17
  · rw [if_neg h] at hf
    refine g_iload_n F d_Mo_isGreat_6 0 rfl ?_
    refine g_bipush F (v := 90) d_Mo_isGreat_7 (by decide) ?_
    refine g_icmp_gt F (tgt := 16) d_Mo_isGreat_9 (by decide) (fun h => ?_) (fun h => ?_)
    · rw [if_pos h] at hf
      refine g_iconst F (v := 0) d_Mo_isGreat_16 (by decide) ?_
      subst hf
      exact g_zret F hr rfl hlk rfl rfl rfl d_Mo_isGreat_17
    · rw [if_neg h] at hf
      refine g_iconst F (v := 1) d_Mo_isGreat_12 (by decide) ?_
      refine g_goto F (tgt := 17) d_Mo_isGreat_13 (by decide) ?_
      subst hf
      exact g_zret F hr rfl hlk rfl rfl rfl d_Mo_isGreat_17
set_option maxHeartbeats 4000000 in
set_option maxRecDepth 100000 in
theorem c_Mo_isLetter (l : Launch) (D : va_G) (cA : Nat → ClassId) (z : gZ) (ad : Nat → Nat) (sMo : SMo) (a1 : Int32) {x : Int32} (hf : f_Mo_isLetter a1 = x) (sz : Nat) : Met l y_Mo_isLetter (.code y_Mo_isLetter b_Mo_isLetter 1 (some .boolean) :: lw_g) { frames := 1, cells := 0, slots := 0, locals := 20 } (gP D (gT cA) z [.int a1] (Wo ad cA sMo) sz) (gQi D (gT cA) (va_A (Wo ad cA sMo) sz) x (Wo ad cA sMo)) 0 0 (va_A (Wo ad cA sMo) sz) := by
  refine g_met (by decide) (Nat.le_of_ble_eq_true rfl) rfl ?_
  intro p e s m args below meth c F hr hlk
  unfold f_Mo_isLetter at hf
  refine g_iload_n F d_Mo_isLetter_0 0 rfl ?_
  refine g_ci F (r0 := (f_Mo_isGreat a1)) (ws' := (Wo ad cA sMo)) (fun H locs ls hP hD hS hl => g_runS F (As := [.int a1]) (n := 1) mw_1283 rfl rfl ⟨by decide, by decide⟩ rfl (by exact Nat.le_of_ble_eq_true rfl) mw_1281 mw_1282 mw_85 (by decide +kernel) d_Mo_isLetter_1 hP hD hS hl (c_Mo_isGreat l D cA z ad sMo a1 rfl H.size)) ?_
  refine g_if_ne F (tgt := 19) d_Mo_isLetter_4 (by decide) (fun h => ?_) (fun h => ?_)
  · rw [if_neg h] at hf
    refine g_iconst F (v := 1) d_Mo_isLetter_19 (by decide) ?_
    refine g_goto F (tgt := 24) d_Mo_isLetter_20 (by decide) ?_
    subst hf
    exact g_zret F hr rfl hlk rfl rfl rfl d_Mo_isLetter_24
  · rw [if_pos h] at hf
    refine g_iload_n F d_Mo_isLetter_7 0 rfl ?_
    refine g_bipush F (v := 97) d_Mo_isLetter_8 (by decide) ?_
    refine g_icmp_lt F (tgt := 23) d_Mo_isLetter_10 (by decide) (fun h => ?_) (fun h => ?_)
    · rw [if_pos h] at hf
      refine g_iconst F (v := 0) d_Mo_isLetter_23 (by decide) ?_
      subst hf
      exact g_zret F hr rfl hlk rfl rfl rfl d_Mo_isLetter_24
    · rw [if_neg h] at hf
      refine g_iload_n F d_Mo_isLetter_13 0 rfl ?_
      refine g_bipush F (v := 122) d_Mo_isLetter_14 (by decide) ?_
      refine g_icmp_gt F (tgt := 23) d_Mo_isLetter_16 (by decide) (fun h => ?_) (fun h => ?_)
      · rw [if_pos h] at hf
        refine g_iconst F (v := 0) d_Mo_isLetter_23 (by decide) ?_
        subst hf
        exact g_zret F hr rfl hlk rfl rfl rfl d_Mo_isLetter_24
      · rw [if_neg h] at hf
        refine g_iconst F (v := 1) d_Mo_isLetter_19 (by decide) ?_
        refine g_goto F (tgt := 24) d_Mo_isLetter_20 (by decide) ?_
        subst hf
        exact g_zret F hr rfl hlk rfl rfl rfl d_Mo_isLetter_24
set_option maxHeartbeats 4000000 in
set_option maxRecDepth 100000 in
theorem c_Mo_isDigit (l : Launch) (D : va_G) (cA : Nat → ClassId) (z : gZ) (ad : Nat → Nat) (sMo : SMo) (a1 : Int32) {x : Int32} (hf : f_Mo_isDigit a1 = x) (sz : Nat) : Met l y_Mo_isDigit (.code y_Mo_isDigit b_Mo_isDigit 1 (some .boolean) :: lw_g) { frames := 0, cells := 0, slots := 0, locals := 0 } (gP D (gT cA) z [.int a1] (Wo ad cA sMo) sz) (gQi D (gT cA) (va_A (Wo ad cA sMo) sz) x (Wo ad cA sMo)) 0 0 (va_A (Wo ad cA sMo) sz) := by
  refine g_met (by decide) (Nat.le_of_ble_eq_true rfl) rfl ?_
  intro p e s m args below meth c F hr hlk
  unfold f_Mo_isDigit at hf
  refine g_iload_n F d_Mo_isDigit_0 0 rfl ?_
  refine g_bipush F (v := 48) d_Mo_isDigit_1 (by decide) ?_
  refine g_icmp_lt F (tgt := 16) d_Mo_isDigit_3 (by decide) (fun h => ?_) (fun h => ?_)
  · rw [if_pos h] at hf
    refine g_iconst F (v := 0) d_Mo_isDigit_16 (by decide) ?_
    subst hf
    exact g_zret F hr rfl hlk rfl rfl rfl d_Mo_isDigit_17
  · rw [if_neg h] at hf
    refine g_iload_n F d_Mo_isDigit_6 0 rfl ?_
    refine g_bipush F (v := 57) d_Mo_isDigit_7 (by decide) ?_
    refine g_icmp_gt F (tgt := 16) d_Mo_isDigit_9 (by decide) (fun h => ?_) (fun h => ?_)
    · rw [if_pos h] at hf
      refine g_iconst F (v := 0) d_Mo_isDigit_16 (by decide) ?_
      subst hf
      exact g_zret F hr rfl hlk rfl rfl rfl d_Mo_isDigit_17
    · rw [if_neg h] at hf
      refine g_iconst F (v := 1) d_Mo_isDigit_12 (by decide) ?_
      refine g_goto F (tgt := 17) d_Mo_isDigit_13 (by decide) ?_
      subst hf
      exact g_zret F hr rfl hlk rfl rfl rfl d_Mo_isDigit_17
set_option maxHeartbeats 4000000 in
set_option maxRecDepth 100000 in
theorem c_Mo_lowered (l : Launch) (D : va_G) (cA : Nat → ClassId) (z : gZ) (ad : Nat → Nat) (sMo : SMo) (a1 : Int32) {x : Int32} (hf : f_Mo_lowered a1 = x) (sz : Nat) : Met l y_Mo_lowered (.code y_Mo_lowered b_Mo_lowered 1 (some .int) :: lw_g) { frames := 1, cells := 0, slots := 0, locals := 20 } (gP D (gT cA) z [.int a1] (Wo ad cA sMo) sz) (gQi D (gT cA) (va_A (Wo ad cA sMo) sz) x (Wo ad cA sMo)) 0 0 (va_A (Wo ad cA sMo) sz) := by
  refine g_met (by decide) (Nat.le_of_ble_eq_true rfl) rfl ?_
  intro p e s m args below meth c F hr hlk
  unfold f_Mo_lowered at hf
  refine g_iload_n F d_Mo_lowered_0 0 rfl ?_
  refine g_ci F (r0 := (f_Mo_isGreat a1)) (ws' := (Wo ad cA sMo)) (fun H locs ls hP hD hS hl => g_runS F (As := [.int a1]) (n := 1) mw_1283 rfl rfl ⟨by decide, by decide⟩ rfl (by exact Nat.le_of_ble_eq_true rfl) mw_1281 mw_1282 mw_85 (by decide +kernel) d_Mo_lowered_1 hP hD hS hl (c_Mo_isGreat l D cA z ad sMo a1 rfl H.size)) ?_
  refine g_if_eq F (tgt := 14) d_Mo_lowered_4 (by decide) (fun h => ?_) (fun h => ?_)
  · rw [if_pos h] at hf
    refine g_iload_n F d_Mo_lowered_14 0 rfl ?_
    subst hf
    exact g_iret F hr hlk rfl rfl rfl d_Mo_lowered_15
  · rw [if_neg h] at hf
    refine g_iload_n F d_Mo_lowered_7 0 rfl ?_
    refine g_bipush F (v := 32) d_Mo_lowered_8 (by decide) ?_
    refine g_iadd F d_Mo_lowered_10 ?_
    refine g_goto F (tgt := 15) d_Mo_lowered_11 (by decide) ?_
    subst hf
    exact g_iret F hr hlk rfl rfl rfl d_Mo_lowered_15
set_option maxHeartbeats 4000000 in
set_option maxRecDepth 100000 in
theorem c_Mo_skipBlanks (l : Launch) (D : va_G) (cA : Nat → ClassId) (z : gZ) (ad : Nat → Nat) (sMo : SMo) {x : SMo} (hf : f_Mo_skipBlanks sMo = some x) (sz : Nat) : Met l y_Mo_skipBlanks (.code y_Mo_skipBlanks b_Mo_skipBlanks 1 none :: lw_g) { frames := 1, cells := 0, slots := 0, locals := 21 } (gP D (gT cA) z [.ref (ad 0)] (Wo ad cA sMo) sz) (gQv D (gT cA) (va_A (Wo ad cA sMo) sz) (Wo ad cA x)) 0 0 (va_A (Wo ad cA sMo) sz) := by
  refine g_met (by decide) (Nat.le_of_ble_eq_true rfl) rfl ?_
  intro p e s m args below meth c F hr hlk
  have blk0 : ∀ (n : Nat) (tMo : SMo), f_Mo_skipBlanks_0 n tMo = some x → GW p l e { frames := 1, cells := 0, slots := 0, locals := 21 } s m args below meth c (gQv D (gT cA) (va_A (Wo ad cA sMo) sz) (Wo ad cA x)) D (va_A (Wo ad cA sMo) sz) 1 (Wo ad cA tMo) 0 [(0, .ref (ad 0))] [] := by
    intro n
    induction n with
    | zero => intro _ hf; cases hf
    | succ n ih =>
      intro tMo hf
      rw [f_Mo_skipBlanks_0] at hf
      refine g_aload_n F d_Mo_skipBlanks_0 0 rfl ?_
      refine g_aload_n F d_Mo_skipBlanks_1 0 rfl ?_
      refine g_get F (v := .int (q_Mo_p tMo)) in_X13 0 rfl rfl 7 (by decide) mw_1113 rfl d_Mo_skipBlanks_2 ?_
      obtain ⟨x1, hx1, hf⟩ := g_bind hf
      refine g_ci F (r0 := x1) (ws' := (Wo ad cA tMo)) (fun H locs ls hP hD hS hl => g_runV F (As := [.int (q_Mo_p tMo)]) (n := 1) mw_1228 rfl rfl ⟨by decide, by decide⟩ rfl (by exact Nat.le_of_ble_eq_true rfl) mw_1225 mw_1227 mw_34 mw_85 (by decide +kernel) d_Mo_skipBlanks_5 hP hD hS hl (va_recv F.2.2.2.2.2.1 hP (ci := 9) rfl (q0 := 0) rfl) (c_Mo_charAt l D cA z ad tMo (q_Mo_p tMo) hx1 H.size)) ?_
      refine g_ci F (r0 := (f_Mo_isBlank x1)) (ws' := (Wo ad cA tMo)) (fun H locs ls hP hD hS hl => g_runS F (As := [.int x1]) (n := 1) mw_1277 rfl rfl ⟨by decide, by decide⟩ rfl (by exact Nat.le_of_ble_eq_true rfl) mw_1275 mw_1276 mw_85 (by decide +kernel) d_Mo_skipBlanks_8 hP hD hS hl (c_Mo_isBlank l D cA z ad tMo x1 rfl H.size)) ?_
      refine g_if_eq F (tgt := 27) d_Mo_skipBlanks_11 (by decide) (fun h => ?_) (fun h => ?_)
      · rw [if_pos h] at hf
        cases hf
        exact g_vret F hr hlk rfl rfl d_Mo_skipBlanks_27
      · rw [if_neg h] at hf
        refine g_aload_n F d_Mo_skipBlanks_14 0 rfl ?_
        refine g_dup F d_Mo_skipBlanks_15 rfl ?_
        refine g_get F (v := .int (q_Mo_p tMo)) in_X13 0 rfl rfl 7 (by decide) mw_1113 rfl d_Mo_skipBlanks_16 ?_
        refine g_iconst F (v := 1) d_Mo_skipBlanks_19 (by decide) ?_
        refine g_iadd F d_Mo_skipBlanks_20 ?_
        refine g_put F in_X13 0 rfl rfl 7 (by decide) tyX13 tyX13_ok nmX13 mw_1113 rfl rfl rfl (Nat.le_of_ble_eq_true rfl) (ws' := (Wn ad cA (q_Mo_names tMo) (q_Mo_gives tMo) (q_Mo_turned tMo) (q_Mo_size tMo) (q_Mo_bytes tMo) (q_Mo_n tMo) (q_Mo_text tMo) ((q_Mo_p tMo) + 1) (q_Mo_ended tMo) (q_Mo_tokens tMo) (q_Mo_kinds tMo) (q_Mo_firsts tMo) (q_Mo_sizes tMo) (q_Mo_marks tMo) (q_Mo_attributes tMo) (q_Mo_manyOf tMo) (q_Mo_attributeCount tMo) (q_Mo_nameAt tMo) (q_Mo_nameSize tMo) (q_Mo_valueAt tMo) (q_Mo_valueSize tMo) (q_Mo_goes tMo) (q_Mo_rowSize tMo) (q_Mo_row tMo) (q_Mo_textAt tMo) (q_Mo_textSize tMo) (q_Mo_faultCount tMo) (q_Mo_codes tMo) (q_Mo_places tMo) (q_Mo_outSize tMo) (q_Mo_out tMo) (q_Mo_which tMo))) rfl d_Mo_skipBlanks_21 ?_
        refine g_goto F (tgt := 0) d_Mo_skipBlanks_24 (by decide) ?_
        exact ih (u_Mo_p tMo ((q_Mo_p tMo) + 1)) hf
  unfold f_Mo_skipBlanks at hf
  exact blk0 FU sMo hf
set_option maxHeartbeats 4000000 in
set_option maxRecDepth 100000 in
theorem c_Mo_wrong (l : Launch) (D : va_G) (cA : Nat → ClassId) (z : gZ) (ad : Nat → Nat) (sMo : SMo) (a1 : Int32) (a2 : Int32) {x : SMo} (hf : f_Mo_wrong a1 a2 sMo = some x) (sz : Nat) : Met l y_Mo_wrong (.code y_Mo_wrong b_Mo_wrong 3 none :: lw_g) { frames := 0, cells := 0, slots := 0, locals := 0 } (gP D (gT cA) z [.ref (ad 0), .int a1, .int a2] (Wo ad cA sMo) sz) (gQv D (gT cA) (va_A (Wo ad cA sMo) sz) (Wo ad cA x)) 0 0 (va_A (Wo ad cA sMo) sz) := by
  refine g_met (by decide) (Nat.le_of_ble_eq_true rfl) rfl ?_
  intro p e s m args below meth c F hr hlk
  unfold f_Mo_wrong at hf
  refine g_aload_n F d_Mo_wrong_0 0 rfl ?_
  refine g_get F (v := .ref (ad 18)) in_X13 0 rfl rfl 27 (by decide) mw_1133 rfl d_Mo_wrong_1 ?_
  refine g_aload_n F d_Mo_wrong_4 0 rfl ?_
  refine g_get F (v := .int (q_Mo_faultCount sMo)) in_X13 0 rfl rfl 26 (by decide) mw_1132 rfl d_Mo_wrong_5 ?_
  refine g_iload_n F d_Mo_wrong_8 1 rfl ?_
  obtain ⟨k1, hf⟩ := g_chk hf
  refine g_iast F (f := (q_Mo_codes sMo)) 18 0 rfl rfl k1 (ws' := (Wn ad cA (q_Mo_names sMo) (q_Mo_gives sMo) (q_Mo_turned sMo) (q_Mo_size sMo) (q_Mo_bytes sMo) (q_Mo_n sMo) (q_Mo_text sMo) (q_Mo_p sMo) (q_Mo_ended sMo) (q_Mo_tokens sMo) (q_Mo_kinds sMo) (q_Mo_firsts sMo) (q_Mo_sizes sMo) (q_Mo_marks sMo) (q_Mo_attributes sMo) (q_Mo_manyOf sMo) (q_Mo_attributeCount sMo) (q_Mo_nameAt sMo) (q_Mo_nameSize sMo) (q_Mo_valueAt sMo) (q_Mo_valueSize sMo) (q_Mo_goes sMo) (q_Mo_rowSize sMo) (q_Mo_row sMo) (q_Mo_textAt sMo) (q_Mo_textSize sMo) (q_Mo_faultCount sMo) (upd (q_Mo_codes sMo) ((q_Mo_faultCount sMo) : Int32).toNatClampNeg a1) (q_Mo_places sMo) (q_Mo_outSize sMo) (q_Mo_out sMo) (q_Mo_which sMo))) rfl d_Mo_wrong_9 ?_
  refine g_aload_n F d_Mo_wrong_10 0 rfl ?_
  refine g_get F (v := .ref (ad 19)) in_X13 0 rfl rfl 28 (by decide) mw_1134 rfl d_Mo_wrong_11 ?_
  refine g_aload_n F d_Mo_wrong_14 0 rfl ?_
  refine g_get F (v := .int (q_Mo_faultCount sMo)) in_X13 0 rfl rfl 26 (by decide) mw_1132 rfl d_Mo_wrong_15 ?_
  refine g_iload_n F d_Mo_wrong_18 2 rfl ?_
  obtain ⟨k2, hf⟩ := g_chk hf
  refine g_iast F (f := (q_Mo_places sMo)) 19 0 rfl rfl k2 (ws' := (Wn ad cA (q_Mo_names sMo) (q_Mo_gives sMo) (q_Mo_turned sMo) (q_Mo_size sMo) (q_Mo_bytes sMo) (q_Mo_n sMo) (q_Mo_text sMo) (q_Mo_p sMo) (q_Mo_ended sMo) (q_Mo_tokens sMo) (q_Mo_kinds sMo) (q_Mo_firsts sMo) (q_Mo_sizes sMo) (q_Mo_marks sMo) (q_Mo_attributes sMo) (q_Mo_manyOf sMo) (q_Mo_attributeCount sMo) (q_Mo_nameAt sMo) (q_Mo_nameSize sMo) (q_Mo_valueAt sMo) (q_Mo_valueSize sMo) (q_Mo_goes sMo) (q_Mo_rowSize sMo) (q_Mo_row sMo) (q_Mo_textAt sMo) (q_Mo_textSize sMo) (q_Mo_faultCount sMo) (upd (q_Mo_codes sMo) ((q_Mo_faultCount sMo) : Int32).toNatClampNeg a1) (upd (q_Mo_places sMo) ((q_Mo_faultCount sMo) : Int32).toNatClampNeg a2) (q_Mo_outSize sMo) (q_Mo_out sMo) (q_Mo_which sMo))) rfl d_Mo_wrong_19 ?_
  refine g_aload_n F d_Mo_wrong_20 0 rfl ?_
  refine g_dup F d_Mo_wrong_21 rfl ?_
  refine g_get F (v := .int (q_Mo_faultCount sMo)) in_X13 0 rfl rfl 26 (by decide) mw_1132 rfl d_Mo_wrong_22 ?_
  refine g_iconst F (v := 1) d_Mo_wrong_25 (by decide) ?_
  refine g_iadd F d_Mo_wrong_26 ?_
  refine g_put F in_X13 0 rfl rfl 26 (by decide) tyX13 tyX13_ok nmX13 mw_1132 rfl rfl rfl (Nat.le_of_ble_eq_true rfl) (ws' := (Wn ad cA (q_Mo_names sMo) (q_Mo_gives sMo) (q_Mo_turned sMo) (q_Mo_size sMo) (q_Mo_bytes sMo) (q_Mo_n sMo) (q_Mo_text sMo) (q_Mo_p sMo) (q_Mo_ended sMo) (q_Mo_tokens sMo) (q_Mo_kinds sMo) (q_Mo_firsts sMo) (q_Mo_sizes sMo) (q_Mo_marks sMo) (q_Mo_attributes sMo) (q_Mo_manyOf sMo) (q_Mo_attributeCount sMo) (q_Mo_nameAt sMo) (q_Mo_nameSize sMo) (q_Mo_valueAt sMo) (q_Mo_valueSize sMo) (q_Mo_goes sMo) (q_Mo_rowSize sMo) (q_Mo_row sMo) (q_Mo_textAt sMo) (q_Mo_textSize sMo) ((q_Mo_faultCount sMo) + 1) (upd (q_Mo_codes sMo) ((q_Mo_faultCount sMo) : Int32).toNatClampNeg a1) (upd (q_Mo_places sMo) ((q_Mo_faultCount sMo) : Int32).toNatClampNeg a2) (q_Mo_outSize sMo) (q_Mo_out sMo) (q_Mo_which sMo))) rfl d_Mo_wrong_27 ?_
  cases hf
  exact g_vret F hr hlk rfl rfl d_Mo_wrong_30
set_option maxHeartbeats 4000000 in
set_option maxRecDepth 100000 in
theorem c_Mo_keep (l : Launch) (D : va_G) (cA : Nat → ClassId) (z : gZ) (ad : Nat → Nat) (sMo : SMo) (a1 : Int32) {x : SMo} (hf : f_Mo_keep a1 sMo = some x) (sz : Nat) : Met l y_Mo_keep (.code y_Mo_keep b_Mo_keep 2 none :: lw_g) { frames := 0, cells := 0, slots := 0, locals := 0 } (gP D (gT cA) z [.ref (ad 0), .int a1] (Wo ad cA sMo) sz) (gQv D (gT cA) (va_A (Wo ad cA sMo) sz) (Wo ad cA x)) 0 0 (va_A (Wo ad cA sMo) sz) := by
  refine g_met (by decide) (Nat.le_of_ble_eq_true rfl) rfl ?_
  intro p e s m args below meth c F hr hlk
  unfold f_Mo_keep at hf
  refine g_aload_n F d_Mo_keep_0 0 rfl ?_
  refine g_get F (v := .ref (ad 17)) in_X13 0 rfl rfl 23 (by decide) mw_1129 rfl d_Mo_keep_1 ?_
  refine g_aload_n F d_Mo_keep_4 0 rfl ?_
  refine g_get F (v := .int (q_Mo_rowSize sMo)) in_X13 0 rfl rfl 22 (by decide) mw_1128 rfl d_Mo_keep_5 ?_
  refine g_iload_n F d_Mo_keep_8 1 rfl ?_
  obtain ⟨k1, hf⟩ := g_chk hf
  refine g_iast F (f := (q_Mo_row sMo)) 17 0 rfl rfl k1 (ws' := (Wn ad cA (q_Mo_names sMo) (q_Mo_gives sMo) (q_Mo_turned sMo) (q_Mo_size sMo) (q_Mo_bytes sMo) (q_Mo_n sMo) (q_Mo_text sMo) (q_Mo_p sMo) (q_Mo_ended sMo) (q_Mo_tokens sMo) (q_Mo_kinds sMo) (q_Mo_firsts sMo) (q_Mo_sizes sMo) (q_Mo_marks sMo) (q_Mo_attributes sMo) (q_Mo_manyOf sMo) (q_Mo_attributeCount sMo) (q_Mo_nameAt sMo) (q_Mo_nameSize sMo) (q_Mo_valueAt sMo) (q_Mo_valueSize sMo) (q_Mo_goes sMo) (q_Mo_rowSize sMo) (upd (q_Mo_row sMo) ((q_Mo_rowSize sMo) : Int32).toNatClampNeg a1) (q_Mo_textAt sMo) (q_Mo_textSize sMo) (q_Mo_faultCount sMo) (q_Mo_codes sMo) (q_Mo_places sMo) (q_Mo_outSize sMo) (q_Mo_out sMo) (q_Mo_which sMo))) rfl d_Mo_keep_9 ?_
  refine g_aload_n F d_Mo_keep_10 0 rfl ?_
  refine g_dup F d_Mo_keep_11 rfl ?_
  refine g_get F (v := .int (q_Mo_rowSize sMo)) in_X13 0 rfl rfl 22 (by decide) mw_1128 rfl d_Mo_keep_12 ?_
  refine g_iconst F (v := 1) d_Mo_keep_15 (by decide) ?_
  refine g_iadd F d_Mo_keep_16 ?_
  refine g_put F in_X13 0 rfl rfl 22 (by decide) tyX13 tyX13_ok nmX13 mw_1128 rfl rfl rfl (Nat.le_of_ble_eq_true rfl) (ws' := (Wn ad cA (q_Mo_names sMo) (q_Mo_gives sMo) (q_Mo_turned sMo) (q_Mo_size sMo) (q_Mo_bytes sMo) (q_Mo_n sMo) (q_Mo_text sMo) (q_Mo_p sMo) (q_Mo_ended sMo) (q_Mo_tokens sMo) (q_Mo_kinds sMo) (q_Mo_firsts sMo) (q_Mo_sizes sMo) (q_Mo_marks sMo) (q_Mo_attributes sMo) (q_Mo_manyOf sMo) (q_Mo_attributeCount sMo) (q_Mo_nameAt sMo) (q_Mo_nameSize sMo) (q_Mo_valueAt sMo) (q_Mo_valueSize sMo) (q_Mo_goes sMo) ((q_Mo_rowSize sMo) + 1) (upd (q_Mo_row sMo) ((q_Mo_rowSize sMo) : Int32).toNatClampNeg a1) (q_Mo_textAt sMo) (q_Mo_textSize sMo) (q_Mo_faultCount sMo) (q_Mo_codes sMo) (q_Mo_places sMo) (q_Mo_outSize sMo) (q_Mo_out sMo) (q_Mo_which sMo))) rfl d_Mo_keep_17 ?_
  cases hf
  exact g_vret F hr hlk rfl rfl d_Mo_keep_20
set_option maxHeartbeats 4000000 in
set_option maxRecDepth 100000 in
theorem c_Mo_known (l : Launch) (D : va_G) (cA : Nat → ClassId) (z : gZ) (ad : Nat → Nat) (sMo : SMo) {x : Int32 × SMo} (hf : f_Mo_known sMo = some x) (sz : Nat) : Met l y_Mo_known (.code y_Mo_known b_Mo_known 2 (some .int) :: lw_g) { frames := 1, cells := 0, slots := 0, locals := 22 } (gP D (gT cA) z [.ref (ad 0)] (Wo ad cA sMo) sz) (gQi D (gT cA) (va_A (Wo ad cA sMo) sz) x.1 (Wo ad cA x.2)) 0 0 (va_A (Wo ad cA sMo) sz) := by
  refine g_met (by decide) (Nat.le_of_ble_eq_true rfl) rfl ?_
  intro p e s m args below meth c F hr hlk
  unfold f_Mo_known at hf
  refine g_aload_n F d_Mo_known_0 0 rfl ?_
  refine g_aload_n F d_Mo_known_1 0 rfl ?_
  refine g_get F (v := .int (q_Mo_p sMo)) in_X13 0 rfl rfl 7 (by decide) mw_1113 rfl d_Mo_known_2 ?_
  obtain ⟨x1, hx1, hf⟩ := g_bind hf
  refine g_ci F (r0 := x1) (ws' := (Wo ad cA sMo)) (fun H locs ls hP hD hS hl => g_runV F (As := [.int (q_Mo_p sMo)]) (n := 1) mw_1228 rfl rfl ⟨by decide, by decide⟩ rfl (by exact Nat.le_of_ble_eq_true rfl) mw_1225 mw_1227 mw_34 mw_85 (by decide +kernel) d_Mo_known_5 hP hD hS hl (va_recv F.2.2.2.2.2.1 hP (ci := 9) rfl (q0 := 0) rfl) (c_Mo_charAt l D cA z ad sMo (q_Mo_p sMo) hx1 H.size)) ?_
  refine g_istore_n F (L' := [(1, .int x1), (0, .ref (ad 0))]) d_Mo_known_8 rfl (by decide) rfl ?_
  refine g_iload_n F d_Mo_known_9 0 rfl ?_
  refine g_if_ne F (tgt := 25) d_Mo_known_10 (by decide) (fun h => ?_) (fun h => ?_)
  · rw [if_neg h] at hf
    refine g_aload_n F d_Mo_known_25 1 rfl ?_
    refine g_dup F d_Mo_known_26 rfl ?_
    refine g_get F (v := .int (q_Mo_p sMo)) in_X13 0 rfl rfl 7 (by decide) mw_1113 rfl d_Mo_known_27 ?_
    refine g_iconst F (v := 1) d_Mo_known_30 (by decide) ?_
    refine g_iadd F d_Mo_known_31 ?_
    refine g_put F in_X13 0 rfl rfl 7 (by decide) tyX13 tyX13_ok nmX13 mw_1113 rfl rfl rfl (Nat.le_of_ble_eq_true rfl) (ws' := (Wn ad cA (q_Mo_names sMo) (q_Mo_gives sMo) (q_Mo_turned sMo) (q_Mo_size sMo) (q_Mo_bytes sMo) (q_Mo_n sMo) (q_Mo_text sMo) ((q_Mo_p sMo) + 1) (q_Mo_ended sMo) (q_Mo_tokens sMo) (q_Mo_kinds sMo) (q_Mo_firsts sMo) (q_Mo_sizes sMo) (q_Mo_marks sMo) (q_Mo_attributes sMo) (q_Mo_manyOf sMo) (q_Mo_attributeCount sMo) (q_Mo_nameAt sMo) (q_Mo_nameSize sMo) (q_Mo_valueAt sMo) (q_Mo_valueSize sMo) (q_Mo_goes sMo) (q_Mo_rowSize sMo) (q_Mo_row sMo) (q_Mo_textAt sMo) (q_Mo_textSize sMo) (q_Mo_faultCount sMo) (q_Mo_codes sMo) (q_Mo_places sMo) (q_Mo_outSize sMo) (q_Mo_out sMo) (q_Mo_which sMo))) rfl d_Mo_known_32 ?_
    refine g_iload_n F d_Mo_known_35 0 rfl ?_
    cases hf
    exact g_iret F hr hlk rfl rfl rfl d_Mo_known_36
  · rw [if_pos h] at hf
    refine g_aload_n F d_Mo_known_13 1 rfl ?_
    refine g_iconst F (v := 1) d_Mo_known_14 (by decide) ?_
    refine g_aload_n F d_Mo_known_15 1 rfl ?_
    refine g_get F (v := .int (q_Mo_p sMo)) in_X13 0 rfl rfl 7 (by decide) mw_1113 rfl d_Mo_known_16 ?_
    obtain ⟨x2, hx2, hf⟩ := g_bind hf
    refine g_cv F (ws' := (Wo ad cA x2)) (fun H locs ls hP hD hS hl => g_runV F (As := [.int 1, .int (q_Mo_p sMo)]) (n := 2) mw_1247 rfl rfl ⟨by decide, by decide⟩ rfl (by exact Nat.le_of_ble_eq_true rfl) mw_1244 mw_1246 mw_37 mw_85 (by decide +kernel) d_Mo_known_19 hP hD hS hl (va_recv F.2.2.2.2.2.1 hP (ci := 9) rfl (q0 := 0) rfl) (c_Mo_wrong l D cA z ad sMo 1 (q_Mo_p sMo) hx2 H.size)) ?_
    refine g_ldc F (v := 65533) mw_1268 d_Mo_known_22 ?_
    refine g_istore_n F (L' := [(1, .int 65533), (0, .ref (ad 0))]) d_Mo_known_24 rfl (by decide) rfl ?_
    refine g_aload_n F d_Mo_known_25 1 rfl ?_
    refine g_dup F d_Mo_known_26 rfl ?_
    refine g_get F (v := .int (q_Mo_p x2)) in_X13 0 rfl rfl 7 (by decide) mw_1113 rfl d_Mo_known_27 ?_
    refine g_iconst F (v := 1) d_Mo_known_30 (by decide) ?_
    refine g_iadd F d_Mo_known_31 ?_
    refine g_put F in_X13 0 rfl rfl 7 (by decide) tyX13 tyX13_ok nmX13 mw_1113 rfl rfl rfl (Nat.le_of_ble_eq_true rfl) (ws' := (Wn ad cA (q_Mo_names x2) (q_Mo_gives x2) (q_Mo_turned x2) (q_Mo_size x2) (q_Mo_bytes x2) (q_Mo_n x2) (q_Mo_text x2) ((q_Mo_p x2) + 1) (q_Mo_ended x2) (q_Mo_tokens x2) (q_Mo_kinds x2) (q_Mo_firsts x2) (q_Mo_sizes x2) (q_Mo_marks x2) (q_Mo_attributes x2) (q_Mo_manyOf x2) (q_Mo_attributeCount x2) (q_Mo_nameAt x2) (q_Mo_nameSize x2) (q_Mo_valueAt x2) (q_Mo_valueSize x2) (q_Mo_goes x2) (q_Mo_rowSize x2) (q_Mo_row x2) (q_Mo_textAt x2) (q_Mo_textSize x2) (q_Mo_faultCount x2) (q_Mo_codes x2) (q_Mo_places x2) (q_Mo_outSize x2) (q_Mo_out x2) (q_Mo_which x2))) rfl d_Mo_known_32 ?_
    refine g_iload_n F d_Mo_known_35 0 rfl ?_
    cases hf
    exact g_iret F hr hlk rfl rfl rfl d_Mo_known_36
