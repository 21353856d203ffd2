set_option maxHeartbeats 4000000 in
set_option maxRecDepth 100000 in
theorem c_Mo_toText (l : Launch) (D : va_G) (cA : Nat → ClassId) (z : gZ) (ad : Nat → Nat) (sMo : SMo) (a1 : Int32) {x : SMo} (hf : f_Mo_toText a1 sMo = some x) (sz : Nat) : Met l y_Mo_toText (.code y_Mo_toText b_Mo_toText 2 none :: lw_g) { frames := 1, cells := 0, slots := 0, locals := 21 } (gP D (gT cA) z [.ref (ad 0), .int a1] (Wo ad cA sMo) sz) (gQv D (gT cA) (va_A (Wo ad cA sMo) sz) (Wo ad cA x)) 0 0 (va_A (Wo ad cA sMo) sz) := by
  refine g_met (by decide) (Nat.le_of_ble_eq_true rfl) rfl ?_
  intro p e s m args below meth c F hr hlk
  unfold f_Mo_toText at hf
  refine g_aload_n F d_Mo_toText_0 0 rfl ?_
  refine g_get F (v := .int (q_Mo_textSize sMo)) in_X13 0 rfl rfl 25 (by decide) mw_1131 rfl d_Mo_toText_1 ?_
  refine g_if_ne F (tgt := 15) d_Mo_toText_4 (by decide) (fun h => ?_) (fun h => ?_)
  · rw [if_neg h] at hf
    refine g_aload_n F d_Mo_toText_15 0 rfl ?_
    refine g_iload_n F d_Mo_toText_16 1 rfl ?_
    obtain ⟨x1, hx1, hf⟩ := g_bind hf
    refine g_cv F (ws' := (Wo ad cA x1)) (fun H locs ls hP hD hS hl => g_runV F (As := [.int a1]) (n := 1) mw_1259 rfl rfl ⟨by decide, by decide⟩ rfl (by exact Nat.le_of_ble_eq_true rfl) mw_1256 mw_1258 mw_40 mw_85 (by decide +kernel) d_Mo_toText_17 hP hD hS hl (va_recv F.2.2.2.2.2.1 hP (ci := 9) rfl (q0 := 0) rfl) (c_Mo_keep l D cA z ad sMo a1 hx1 H.size)) ?_
    refine g_aload_n F d_Mo_toText_20 0 rfl ?_
    refine g_dup F d_Mo_toText_21 rfl ?_
    refine g_get F (v := .int (q_Mo_textSize x1)) in_X13 0 rfl rfl 25 (by decide) mw_1131 rfl d_Mo_toText_22 ?_
    refine g_iconst F (v := 1) d_Mo_toText_25 (by decide) ?_
    refine g_iadd F d_Mo_toText_26 ?_
    refine g_put F in_X13 0 rfl rfl 25 (by decide) tyX13 tyX13_ok nmX13 mw_1131 rfl rfl rfl (Nat.le_of_ble_eq_true rfl) (ws' := (Wn ad cA (q_Mo_names x1) (q_Mo_gives x1) (q_Mo_turned x1) (q_Mo_size x1) (q_Mo_bytes x1) (q_Mo_n x1) (q_Mo_text x1) (q_Mo_p x1) (q_Mo_ended x1) (q_Mo_tokens x1) (q_Mo_kinds x1) (q_Mo_firsts x1) (q_Mo_sizes x1) (q_Mo_marks x1) (q_Mo_attributes x1) (q_Mo_manyOf x1) (q_Mo_attributeCount x1) (q_Mo_nameAt x1) (q_Mo_nameSize x1) (q_Mo_valueAt x1) (q_Mo_valueSize x1) (q_Mo_goes x1) (q_Mo_rowSize x1) (q_Mo_row x1) (q_Mo_textAt x1) ((q_Mo_textSize x1) + 1) (q_Mo_faultCount x1) (q_Mo_codes x1) (q_Mo_places x1) (q_Mo_outSize x1) (q_Mo_out x1) (q_Mo_which x1))) rfl d_Mo_toText_27 ?_
    cases hf
    exact g_vret F hr hlk rfl rfl d_Mo_toText_30
  · rw [if_pos h] at hf
    refine g_aload_n F d_Mo_toText_7 0 rfl ?_
    refine g_aload_n F d_Mo_toText_8 0 rfl ?_
    refine g_get F (v := .int (q_Mo_rowSize sMo)) in_X13 0 rfl rfl 22 (by decide) mw_1128 rfl d_Mo_toText_9 ?_
    refine g_put F in_X13 0 rfl rfl 24 (by decide) tyX13 tyX13_ok nmX13 mw_1130 rfl rfl rfl (Nat.le_of_ble_eq_true rfl) (ws' := (Wn ad cA (q_Mo_names sMo) (q_Mo_gives sMo) (q_Mo_turned sMo) (q_Mo_size sMo) (q_Mo_bytes sMo) (q_Mo_n sMo) (q_Mo_text sMo) (q_Mo_p sMo) (q_Mo_ended sMo) (q_Mo_tokens sMo) (q_Mo_kinds sMo) (q_Mo_firsts sMo) (q_Mo_sizes sMo) (q_Mo_marks sMo) (q_Mo_attributes sMo) (q_Mo_manyOf sMo) (q_Mo_attributeCount sMo) (q_Mo_nameAt sMo) (q_Mo_nameSize sMo) (q_Mo_valueAt sMo) (q_Mo_valueSize sMo) (q_Mo_goes sMo) (q_Mo_rowSize sMo) (q_Mo_row sMo) (q_Mo_rowSize sMo) (q_Mo_textSize sMo) (q_Mo_faultCount sMo) (q_Mo_codes sMo) (q_Mo_places sMo) (q_Mo_outSize sMo) (q_Mo_out sMo) (q_Mo_which sMo))) rfl d_Mo_toText_12 ?_
    refine g_aload_n F d_Mo_toText_15 0 rfl ?_
    refine g_iload_n F d_Mo_toText_16 1 rfl ?_
    obtain ⟨x2, hx2, hf⟩ := g_bind hf
    refine g_cv F (ws' := (Wo ad cA x2)) (fun H locs ls hP hD hS hl => g_runV F (As := [.int a1]) (n := 1) mw_1259 rfl rfl ⟨by decide, by decide⟩ rfl (by exact Nat.le_of_ble_eq_true rfl) mw_1256 mw_1258 mw_40 mw_85 (by decide +kernel) d_Mo_toText_17 hP hD hS hl (va_recv F.2.2.2.2.2.1 hP (ci := 9) rfl (q0 := 0) rfl) (c_Mo_keep l D cA z ad (u_Mo_textAt sMo (q_Mo_rowSize sMo)) a1 hx2 H.size)) ?_
    refine g_aload_n F d_Mo_toText_20 0 rfl ?_
    refine g_dup F d_Mo_toText_21 rfl ?_
    refine g_get F (v := .int (q_Mo_textSize x2)) in_X13 0 rfl rfl 25 (by decide) mw_1131 rfl d_Mo_toText_22 ?_
    refine g_iconst F (v := 1) d_Mo_toText_25 (by decide) ?_
    refine g_iadd F d_Mo_toText_26 ?_
    refine g_put F in_X13 0 rfl rfl 25 (by decide) tyX13 tyX13_ok nmX13 mw_1131 rfl rfl rfl (Nat.le_of_ble_eq_true rfl) (ws' := (Wn ad cA (q_Mo_names x2) (q_Mo_gives x2) (q_Mo_turned x2) (q_Mo_size x2) (q_Mo_bytes x2) (q_Mo_n x2) (q_Mo_text x2) (q_Mo_p x2) (q_Mo_ended x2) (q_Mo_tokens x2) (q_Mo_kinds x2) (q_Mo_firsts x2) (q_Mo_sizes x2) (q_Mo_marks x2) (q_Mo_attributes x2) (q_Mo_manyOf x2) (q_Mo_attributeCount x2) (q_Mo_nameAt x2) (q_Mo_nameSize x2) (q_Mo_valueAt x2) (q_Mo_valueSize x2) (q_Mo_goes x2) (q_Mo_rowSize x2) (q_Mo_row x2) (q_Mo_textAt x2) ((q_Mo_textSize x2) + 1) (q_Mo_faultCount x2) (q_Mo_codes x2) (q_Mo_places x2) (q_Mo_outSize x2) (q_Mo_out x2) (q_Mo_which x2))) rfl d_Mo_toText_27 ?_
    cases hf
    exact g_vret F hr hlk rfl rfl d_Mo_toText_30
set_option maxHeartbeats 4000000 in
set_option maxRecDepth 100000 in
theorem c_Mo_begin0 (l : Launch) (D : va_G) (cA : Nat → ClassId) (z : gZ) (ad : Nat → Nat) (sMo : SMo) (a1 : Int32) (a2 : Int32) {x : SMo} (hf : f_Mo_begin0 a1 a2 sMo = some x) (sz : Nat) : Met l y_Mo_begin0 (.code y_Mo_begin0 b_Mo_begin0 3 none :: lw_g) { frames := 0, cells := 0, slots := 0, locals := 0 } (gP D (gT cA) z [.ref (ad 0), .int a1, .int a2] (Wo ad cA sMo) sz) (gQv D (gT cA) (va_A (Wo ad cA sMo) sz) (Wo ad cA x)) 0 0 (va_A (Wo ad cA sMo) sz) := by
  refine g_met (by decide) (Nat.le_of_ble_eq_true rfl) rfl ?_
  intro p e s m args below meth c F hr hlk
  unfold f_Mo_begin0 at hf
  refine g_aload_n F d_Mo_begin0_0 0 rfl ?_
  refine g_get F (v := .ref (ad 6)) in_X13 0 rfl rfl 10 (by decide) mw_1116 rfl d_Mo_begin0_1 ?_
  refine g_aload_n F d_Mo_begin0_4 0 rfl ?_
  refine g_get F (v := .int (q_Mo_tokens sMo)) in_X13 0 rfl rfl 9 (by decide) mw_1115 rfl d_Mo_begin0_5 ?_
  refine g_iload_n F d_Mo_begin0_8 1 rfl ?_
  obtain ⟨k1, hf⟩ := g_chk hf
  refine g_iast F (f := (q_Mo_kinds sMo)) 6 0 rfl rfl k1 (ws' := (Wn ad cA (q_Mo_names sMo) (q_Mo_gives sMo) (q_Mo_turned sMo) (q_Mo_size sMo) (q_Mo_bytes sMo) (q_Mo_n sMo) (q_Mo_text sMo) (q_Mo_p sMo) (q_Mo_ended sMo) (q_Mo_tokens sMo) (upd (q_Mo_kinds sMo) ((q_Mo_tokens sMo) : Int32).toNatClampNeg a1) (q_Mo_firsts sMo) (q_Mo_sizes sMo) (q_Mo_marks sMo) (q_Mo_attributes sMo) (q_Mo_manyOf sMo) (q_Mo_attributeCount sMo) (q_Mo_nameAt sMo) (q_Mo_nameSize sMo) (q_Mo_valueAt sMo) (q_Mo_valueSize sMo) (q_Mo_goes sMo) (q_Mo_rowSize sMo) (q_Mo_row sMo) (q_Mo_textAt sMo) (q_Mo_textSize sMo) (q_Mo_faultCount sMo) (q_Mo_codes sMo) (q_Mo_places sMo) (q_Mo_outSize sMo) (q_Mo_out sMo) (q_Mo_which sMo))) rfl d_Mo_begin0_9 ?_
  refine g_aload_n F d_Mo_begin0_10 0 rfl ?_
  refine g_get F (v := .ref (ad 7)) in_X13 0 rfl rfl 11 (by decide) mw_1117 rfl d_Mo_begin0_11 ?_
  refine g_aload_n F d_Mo_begin0_14 0 rfl ?_
  refine g_get F (v := .int (q_Mo_tokens sMo)) in_X13 0 rfl rfl 9 (by decide) mw_1115 rfl d_Mo_begin0_15 ?_
  refine g_iload_n F d_Mo_begin0_18 2 rfl ?_
  obtain ⟨k2, hf⟩ := g_chk hf
  refine g_iast F (f := (q_Mo_firsts sMo)) 7 0 rfl rfl k2 (ws' := (Wn ad cA (q_Mo_names sMo) (q_Mo_gives sMo) (q_Mo_turned sMo) (q_Mo_size sMo) (q_Mo_bytes sMo) (q_Mo_n sMo) (q_Mo_text sMo) (q_Mo_p sMo) (q_Mo_ended sMo) (q_Mo_tokens sMo) (upd (q_Mo_kinds sMo) ((q_Mo_tokens sMo) : Int32).toNatClampNeg a1) (upd (q_Mo_firsts sMo) ((q_Mo_tokens sMo) : Int32).toNatClampNeg a2) (q_Mo_sizes sMo) (q_Mo_marks sMo) (q_Mo_attributes sMo) (q_Mo_manyOf sMo) (q_Mo_attributeCount sMo) (q_Mo_nameAt sMo) (q_Mo_nameSize sMo) (q_Mo_valueAt sMo) (q_Mo_valueSize sMo) (q_Mo_goes sMo) (q_Mo_rowSize sMo) (q_Mo_row sMo) (q_Mo_textAt sMo) (q_Mo_textSize sMo) (q_Mo_faultCount sMo) (q_Mo_codes sMo) (q_Mo_places sMo) (q_Mo_outSize sMo) (q_Mo_out sMo) (q_Mo_which sMo))) rfl d_Mo_begin0_19 ?_
  refine g_aload_n F d_Mo_begin0_20 0 rfl ?_
  refine g_get F (v := .ref (ad 8)) in_X13 0 rfl rfl 12 (by decide) mw_1118 rfl d_Mo_begin0_21 ?_
  refine g_aload_n F d_Mo_begin0_24 0 rfl ?_
  refine g_get F (v := .int (q_Mo_tokens sMo)) in_X13 0 rfl rfl 9 (by decide) mw_1115 rfl d_Mo_begin0_25 ?_
  refine g_iconst F (v := 0) d_Mo_begin0_28 (by decide) ?_
  obtain ⟨k3, hf⟩ := g_chk hf
  refine g_iast F (f := (q_Mo_sizes sMo)) 8 0 rfl rfl k3 (ws' := (Wn ad cA (q_Mo_names sMo) (q_Mo_gives sMo) (q_Mo_turned sMo) (q_Mo_size sMo) (q_Mo_bytes sMo) (q_Mo_n sMo) (q_Mo_text sMo) (q_Mo_p sMo) (q_Mo_ended sMo) (q_Mo_tokens sMo) (upd (q_Mo_kinds sMo) ((q_Mo_tokens sMo) : Int32).toNatClampNeg a1) (upd (q_Mo_firsts sMo) ((q_Mo_tokens sMo) : Int32).toNatClampNeg a2) (upd (q_Mo_sizes sMo) ((q_Mo_tokens sMo) : Int32).toNatClampNeg 0) (q_Mo_marks sMo) (q_Mo_attributes sMo) (q_Mo_manyOf sMo) (q_Mo_attributeCount sMo) (q_Mo_nameAt sMo) (q_Mo_nameSize sMo) (q_Mo_valueAt sMo) (q_Mo_valueSize sMo) (q_Mo_goes sMo) (q_Mo_rowSize sMo) (q_Mo_row sMo) (q_Mo_textAt sMo) (q_Mo_textSize sMo) (q_Mo_faultCount sMo) (q_Mo_codes sMo) (q_Mo_places sMo) (q_Mo_outSize sMo) (q_Mo_out sMo) (q_Mo_which sMo))) rfl d_Mo_begin0_29 ?_
  refine g_aload_n F d_Mo_begin0_30 0 rfl ?_
  refine g_get F (v := .ref (ad 9)) in_X13 0 rfl rfl 13 (by decide) mw_1119 rfl d_Mo_begin0_31 ?_
  refine g_aload_n F d_Mo_begin0_34 0 rfl ?_
  refine g_get F (v := .int (q_Mo_tokens sMo)) in_X13 0 rfl rfl 9 (by decide) mw_1115 rfl d_Mo_begin0_35 ?_
  refine g_iconst F (v := 0) d_Mo_begin0_38 (by decide) ?_
  obtain ⟨k4, hf⟩ := g_chk hf
  refine g_zast F (f := (q_Mo_marks sMo)) 9 3 rfl rfl k4 (ws' := (Wn ad cA (q_Mo_names sMo) (q_Mo_gives sMo) (q_Mo_turned sMo) (q_Mo_size sMo) (q_Mo_bytes sMo) (q_Mo_n sMo) (q_Mo_text sMo) (q_Mo_p sMo) (q_Mo_ended sMo) (q_Mo_tokens sMo) (upd (q_Mo_kinds sMo) ((q_Mo_tokens sMo) : Int32).toNatClampNeg a1) (upd (q_Mo_firsts sMo) ((q_Mo_tokens sMo) : Int32).toNatClampNeg a2) (upd (q_Mo_sizes sMo) ((q_Mo_tokens sMo) : Int32).toNatClampNeg 0) (upd (q_Mo_marks sMo) ((q_Mo_tokens sMo) : Int32).toNatClampNeg (vp_nar .boolean 0)) (q_Mo_attributes sMo) (q_Mo_manyOf sMo) (q_Mo_attributeCount sMo) (q_Mo_nameAt sMo) (q_Mo_nameSize sMo) (q_Mo_valueAt sMo) (q_Mo_valueSize sMo) (q_Mo_goes sMo) (q_Mo_rowSize sMo) (q_Mo_row sMo) (q_Mo_textAt sMo) (q_Mo_textSize sMo) (q_Mo_faultCount sMo) (q_Mo_codes sMo) (q_Mo_places sMo) (q_Mo_outSize sMo) (q_Mo_out sMo) (q_Mo_which sMo))) rfl d_Mo_begin0_39 ?_
  refine g_aload_n F d_Mo_begin0_40 0 rfl ?_
  refine g_get F (v := .ref (ad 10)) in_X13 0 rfl rfl 14 (by decide) mw_1120 rfl d_Mo_begin0_41 ?_
  refine g_aload_n F d_Mo_begin0_44 0 rfl ?_
  refine g_get F (v := .int (q_Mo_tokens sMo)) in_X13 0 rfl rfl 9 (by decide) mw_1115 rfl d_Mo_begin0_45 ?_
  refine g_aload_n F d_Mo_begin0_48 0 rfl ?_
  refine g_get F (v := .int (q_Mo_attributeCount sMo)) in_X13 0 rfl rfl 16 (by decide) mw_1122 rfl d_Mo_begin0_49 ?_
  obtain ⟨k5, hf⟩ := g_chk hf
  refine g_iast F (f := (q_Mo_attributes sMo)) 10 0 rfl rfl k5 (ws' := (Wn ad cA (q_Mo_names sMo) (q_Mo_gives sMo) (q_Mo_turned sMo) (q_Mo_size sMo) (q_Mo_bytes sMo) (q_Mo_n sMo) (q_Mo_text sMo) (q_Mo_p sMo) (q_Mo_ended sMo) (q_Mo_tokens sMo) (upd (q_Mo_kinds sMo) ((q_Mo_tokens sMo) : Int32).toNatClampNeg a1) (upd (q_Mo_firsts sMo) ((q_Mo_tokens sMo) : Int32).toNatClampNeg a2) (upd (q_Mo_sizes sMo) ((q_Mo_tokens sMo) : Int32).toNatClampNeg 0) (upd (q_Mo_marks sMo) ((q_Mo_tokens sMo) : Int32).toNatClampNeg (vp_nar .boolean 0)) (upd (q_Mo_attributes sMo) ((q_Mo_tokens sMo) : Int32).toNatClampNeg (q_Mo_attributeCount sMo)) (q_Mo_manyOf sMo) (q_Mo_attributeCount sMo) (q_Mo_nameAt sMo) (q_Mo_nameSize sMo) (q_Mo_valueAt sMo) (q_Mo_valueSize sMo) (q_Mo_goes sMo) (q_Mo_rowSize sMo) (q_Mo_row sMo) (q_Mo_textAt sMo) (q_Mo_textSize sMo) (q_Mo_faultCount sMo) (q_Mo_codes sMo) (q_Mo_places sMo) (q_Mo_outSize sMo) (q_Mo_out sMo) (q_Mo_which sMo))) rfl d_Mo_begin0_52 ?_
  refine g_aload_n F d_Mo_begin0_53 0 rfl ?_
  refine g_get F (v := .ref (ad 11)) in_X13 0 rfl rfl 15 (by decide) mw_1121 rfl d_Mo_begin0_54 ?_
  refine g_aload_n F d_Mo_begin0_57 0 rfl ?_
  refine g_get F (v := .int (q_Mo_tokens sMo)) in_X13 0 rfl rfl 9 (by decide) mw_1115 rfl d_Mo_begin0_58 ?_
  refine g_iconst F (v := 0) d_Mo_begin0_61 (by decide) ?_
  obtain ⟨k6, hf⟩ := g_chk hf
  refine g_iast F (f := (q_Mo_manyOf sMo)) 11 0 rfl rfl k6 (ws' := (Wn ad cA (q_Mo_names sMo) (q_Mo_gives sMo) (q_Mo_turned sMo) (q_Mo_size sMo) (q_Mo_bytes sMo) (q_Mo_n sMo) (q_Mo_text sMo) (q_Mo_p sMo) (q_Mo_ended sMo) (q_Mo_tokens sMo) (upd (q_Mo_kinds sMo) ((q_Mo_tokens sMo) : Int32).toNatClampNeg a1) (upd (q_Mo_firsts sMo) ((q_Mo_tokens sMo) : Int32).toNatClampNeg a2) (upd (q_Mo_sizes sMo) ((q_Mo_tokens sMo) : Int32).toNatClampNeg 0) (upd (q_Mo_marks sMo) ((q_Mo_tokens sMo) : Int32).toNatClampNeg (vp_nar .boolean 0)) (upd (q_Mo_attributes sMo) ((q_Mo_tokens sMo) : Int32).toNatClampNeg (q_Mo_attributeCount sMo)) (upd (q_Mo_manyOf sMo) ((q_Mo_tokens sMo) : Int32).toNatClampNeg 0) (q_Mo_attributeCount sMo) (q_Mo_nameAt sMo) (q_Mo_nameSize sMo) (q_Mo_valueAt sMo) (q_Mo_valueSize sMo) (q_Mo_goes sMo) (q_Mo_rowSize sMo) (q_Mo_row sMo) (q_Mo_textAt sMo) (q_Mo_textSize sMo) (q_Mo_faultCount sMo) (q_Mo_codes sMo) (q_Mo_places sMo) (q_Mo_outSize sMo) (q_Mo_out sMo) (q_Mo_which sMo))) rfl d_Mo_begin0_62 ?_
  cases hf
  exact g_vret F hr hlk rfl rfl d_Mo_begin0_63
set_option maxHeartbeats 4000000 in
set_option maxRecDepth 100000 in
theorem c_Mo_begin (l : Launch) (D : va_G) (cA : Nat → ClassId) (z : gZ) (ad : Nat → Nat) (sMo : SMo) (a1 : Int32) {x : SMo} (hf : f_Mo_begin a1 sMo = some x) (sz : Nat) : Met l y_Mo_begin (.code y_Mo_begin b_Mo_begin 3 none :: lw_g) { frames := 1, cells := 0, slots := 0, locals := 22 } (gP D (gT cA) z [.ref (ad 0), .int a1] (Wo ad cA sMo) sz) (gQv D (gT cA) (va_A (Wo ad cA sMo) sz) (Wo ad cA x)) 0 0 (va_A (Wo ad cA sMo) sz) := by
  refine g_met (by decide) (Nat.le_of_ble_eq_true rfl) rfl ?_
  intro p e s m args below meth c F hr hlk
  unfold f_Mo_begin at hf
  refine g_aload_n F d_Mo_begin_0 0 rfl ?_
  refine g_get F (v := .int (q_Mo_textSize sMo)) in_X13 0 rfl rfl 25 (by decide) mw_1131 rfl d_Mo_begin_1 ?_
  refine g_if_le F (tgt := 46) d_Mo_begin_4 (by decide) (fun h => ?_) (fun h => ?_)
  · rw [if_pos h] at hf
    refine g_aload_n F d_Mo_begin_46 0 rfl ?_
    refine g_iload_n F d_Mo_begin_47 1 rfl ?_
    refine g_aload_n F d_Mo_begin_48 0 rfl ?_
    refine g_get F (v := .int (q_Mo_rowSize sMo)) in_X13 0 rfl rfl 22 (by decide) mw_1128 rfl d_Mo_begin_49 ?_
    obtain ⟨x1, hx1, hf⟩ := g_bind hf
    refine g_cv F (ws' := (Wo ad cA x1)) (fun H locs ls hP hD hS hl => g_runV F (As := [.int a1, .int (q_Mo_rowSize sMo)]) (n := 2) mw_1308 rfl rfl ⟨by decide, by decide⟩ rfl (by exact Nat.le_of_ble_eq_true rfl) mw_1305 mw_1307 mw_48 mw_85 (by decide +kernel) d_Mo_begin_52 hP hD hS hl (va_recv F.2.2.2.2.2.1 hP (ci := 9) rfl (q0 := 0) rfl) (c_Mo_begin0 l D cA z ad sMo a1 (q_Mo_rowSize sMo) hx1 H.size)) ?_
    cases hf
    exact g_vret F hr hlk rfl rfl d_Mo_begin_55
  · rw [if_neg h] at hf
    refine g_aload_n F d_Mo_begin_7 0 rfl ?_
    refine g_get F (v := .int (q_Mo_textSize sMo)) in_X13 0 rfl rfl 25 (by decide) mw_1131 rfl d_Mo_begin_8 ?_
    refine g_istore_n F (L' := [(2, .int (q_Mo_textSize sMo)), (0, .ref (ad 0)), (1, .int a1)]) d_Mo_begin_11 rfl (by decide) rfl ?_
    refine g_aload_n F d_Mo_begin_12 1 rfl ?_
    refine g_iconst F (v := 0) d_Mo_begin_13 (by decide) ?_
    refine g_put F in_X13 0 rfl rfl 25 (by decide) tyX13 tyX13_ok nmX13 mw_1131 rfl rfl rfl (Nat.le_of_ble_eq_true rfl) (ws' := (Wn ad cA (q_Mo_names sMo) (q_Mo_gives sMo) (q_Mo_turned sMo) (q_Mo_size sMo) (q_Mo_bytes sMo) (q_Mo_n sMo) (q_Mo_text sMo) (q_Mo_p sMo) (q_Mo_ended sMo) (q_Mo_tokens sMo) (q_Mo_kinds sMo) (q_Mo_firsts sMo) (q_Mo_sizes sMo) (q_Mo_marks sMo) (q_Mo_attributes sMo) (q_Mo_manyOf sMo) (q_Mo_attributeCount sMo) (q_Mo_nameAt sMo) (q_Mo_nameSize sMo) (q_Mo_valueAt sMo) (q_Mo_valueSize sMo) (q_Mo_goes sMo) (q_Mo_rowSize sMo) (q_Mo_row sMo) (q_Mo_textAt sMo) 0 (q_Mo_faultCount sMo) (q_Mo_codes sMo) (q_Mo_places sMo) (q_Mo_outSize sMo) (q_Mo_out sMo) (q_Mo_which sMo))) rfl d_Mo_begin_14 ?_
    refine g_aload_n F d_Mo_begin_17 1 rfl ?_
    refine g_iconst F (v := 0) d_Mo_begin_18 (by decide) ?_
    refine g_aload_n F d_Mo_begin_19 1 rfl ?_
    refine g_get F (v := .int (q_Mo_textAt sMo)) in_X13 0 rfl rfl 24 (by decide) mw_1130 rfl d_Mo_begin_20 ?_
    obtain ⟨x2, hx2, hf⟩ := g_bind hf
    refine g_cv F (ws' := (Wo ad cA x2)) (fun H locs ls hP hD hS hl => g_runV F (As := [.int 0, .int (q_Mo_textAt sMo)]) (n := 2) mw_1308 rfl rfl ⟨by decide, by decide⟩ rfl (by exact Nat.le_of_ble_eq_true rfl) mw_1305 mw_1307 mw_48 mw_85 (by decide +kernel) d_Mo_begin_23 hP hD hS hl (va_recv F.2.2.2.2.2.1 hP (ci := 9) rfl (q0 := 0) rfl) (c_Mo_begin0 l D cA z ad (u_Mo_textSize sMo 0) 0 (q_Mo_textAt sMo) hx2 H.size)) ?_
    refine g_aload_n F d_Mo_begin_26 1 rfl ?_
    refine g_get F (v := .ref (ad 8)) in_X13 0 rfl rfl 12 (by decide) mw_1118 rfl d_Mo_begin_27 ?_
    refine g_aload_n F d_Mo_begin_30 1 rfl ?_
    refine g_get F (v := .int (q_Mo_tokens x2)) in_X13 0 rfl rfl 9 (by decide) mw_1115 rfl d_Mo_begin_31 ?_
    refine g_iload_n F d_Mo_begin_34 0 rfl ?_
    obtain ⟨k1, hf⟩ := g_chk hf
    refine g_iast F (f := (q_Mo_sizes x2)) 8 0 rfl rfl k1 (ws' := (Wn ad cA (q_Mo_names x2) (q_Mo_gives x2) (q_Mo_turned x2) (q_Mo_size x2) (q_Mo_bytes x2) (q_Mo_n x2) (q_Mo_text x2) (q_Mo_p x2) (q_Mo_ended x2) (q_Mo_tokens x2) (q_Mo_kinds x2) (q_Mo_firsts x2) (upd (q_Mo_sizes x2) ((q_Mo_tokens x2) : Int32).toNatClampNeg (q_Mo_textSize sMo)) (q_Mo_marks x2) (q_Mo_attributes x2) (q_Mo_manyOf x2) (q_Mo_attributeCount x2) (q_Mo_nameAt x2) (q_Mo_nameSize x2) (q_Mo_valueAt x2) (q_Mo_valueSize x2) (q_Mo_goes x2) (q_Mo_rowSize x2) (q_Mo_row x2) (q_Mo_textAt x2) (q_Mo_textSize x2) (q_Mo_faultCount x2) (q_Mo_codes x2) (q_Mo_places x2) (q_Mo_outSize x2) (q_Mo_out x2) (q_Mo_which x2))) rfl d_Mo_begin_35 ?_
    refine g_aload_n F d_Mo_begin_36 1 rfl ?_
    refine g_dup F d_Mo_begin_37 rfl ?_
    refine g_get F (v := .int (q_Mo_tokens x2)) in_X13 0 rfl rfl 9 (by decide) mw_1115 rfl d_Mo_begin_38 ?_
    refine g_iconst F (v := 1) d_Mo_begin_41 (by decide) ?_
    refine g_iadd F d_Mo_begin_42 ?_
    refine g_put F in_X13 0 rfl rfl 9 (by decide) tyX13 tyX13_ok nmX13 mw_1115 rfl rfl rfl (Nat.le_of_ble_eq_true rfl) (ws' := (Wn ad cA (q_Mo_names x2) (q_Mo_gives x2) (q_Mo_turned x2) (q_Mo_size x2) (q_Mo_bytes x2) (q_Mo_n x2) (q_Mo_text x2) (q_Mo_p x2) (q_Mo_ended x2) ((q_Mo_tokens x2) + 1) (q_Mo_kinds x2) (q_Mo_firsts x2) (upd (q_Mo_sizes x2) ((q_Mo_tokens x2) : Int32).toNatClampNeg (q_Mo_textSize sMo)) (q_Mo_marks x2) (q_Mo_attributes x2) (q_Mo_manyOf x2) (q_Mo_attributeCount x2) (q_Mo_nameAt x2) (q_Mo_nameSize x2) (q_Mo_valueAt x2) (q_Mo_valueSize x2) (q_Mo_goes x2) (q_Mo_rowSize x2) (q_Mo_row x2) (q_Mo_textAt x2) (q_Mo_textSize x2) (q_Mo_faultCount x2) (q_Mo_codes x2) (q_Mo_places x2) (q_Mo_outSize x2) (q_Mo_out x2) (q_Mo_which x2))) rfl d_Mo_begin_43 ?_
    refine g_aload_n F d_Mo_begin_46 1 rfl ?_
    refine g_iload_n F d_Mo_begin_47 2 rfl ?_
    refine g_aload_n F d_Mo_begin_48 1 rfl ?_
    refine g_get F (v := .int (q_Mo_rowSize x2)) in_X13 0 rfl rfl 22 (by decide) mw_1128 rfl d_Mo_begin_49 ?_
    obtain ⟨x3, hx3, hf⟩ := g_bind hf
    refine g_cv F (ws' := (Wo ad cA x3)) (fun H locs ls hP hD hS hl => g_runV F (As := [.int a1, .int (q_Mo_rowSize x2)]) (n := 2) mw_1308 rfl rfl ⟨by decide, by decide⟩ rfl (by exact Nat.le_of_ble_eq_true rfl) mw_1305 mw_1307 mw_48 mw_85 (by decide +kernel) d_Mo_begin_52 hP hD hS hl (va_recv F.2.2.2.2.2.1 hP (ci := 9) rfl (q0 := 0) rfl) (c_Mo_begin0 l D cA z ad (u_Mo_tokens_sizes x2 ((q_Mo_tokens x2) + 1) (upd (q_Mo_sizes x2) ((q_Mo_tokens x2) : Int32).toNatClampNeg (q_Mo_textSize sMo))) a1 (q_Mo_rowSize x2) hx3 H.size)) ?_
    cases hf
    exact g_vret F hr hlk rfl rfl d_Mo_begin_55
set_option maxHeartbeats 4000000 in
set_option maxRecDepth 100000 in
theorem c_Mo_digitOf (l : Launch) (D : va_G) (cA : Nat → ClassId) (z : gZ) (ad : Nat → Nat) (sMo : SMo) (a1 : Int32) {x : Int32} (hf : f_Mo_digitOf a1 = x) (sz : Nat) : Met l y_Mo_digitOf (.code y_Mo_digitOf b_Mo_digitOf 1 (some .int) :: lw_g) { frames := 1, cells := 0, slots := 0, locals := 20 } (gP D (gT cA) z [.int a1] (Wo ad cA sMo) sz) (gQi D (gT cA) (va_A (Wo ad cA sMo) sz) x (Wo ad cA sMo)) 0 0 (va_A (Wo ad cA sMo) sz) := by
  refine g_met (by decide) (Nat.le_of_ble_eq_true rfl) rfl ?_
  intro p e s m args below meth c F hr hlk
  unfold f_Mo_digitOf at hf
  refine g_iload_n F d_Mo_digitOf_0 0 rfl ?_
  refine g_ci F (r0 := (f_Mo_isDigit a1)) (ws' := (Wo ad cA sMo)) (fun H locs ls hP hD hS hl => g_runS F (As := [.int a1]) (n := 1) mw_1242 rfl rfl ⟨by decide, by decide⟩ rfl (by exact Nat.le_of_ble_eq_true rfl) mw_1240 mw_1241 mw_85 (by decide +kernel) d_Mo_digitOf_1 hP hD hS hl (c_Mo_isDigit l D cA z ad sMo a1 rfl H.size)) ?_
  refine g_if_eq F (tgt := 14) d_Mo_digitOf_4 (by decide) (fun h => ?_) (fun h => ?_)
  · rw [if_pos h] at hf
    refine g_iload_n F d_Mo_digitOf_14 0 rfl ?_
    refine g_bipush F (v := 65) d_Mo_digitOf_15 (by decide) ?_
    refine g_icmp_lt F (tgt := 33) d_Mo_digitOf_17 (by decide) (fun h => ?_) (fun h => ?_)
    · rw [if_pos h] at hf
      refine g_iload_n F d_Mo_digitOf_33 0 rfl ?_
      refine g_bipush F (v := 97) d_Mo_digitOf_34 (by decide) ?_
      refine g_icmp_lt F (tgt := 52) d_Mo_digitOf_36 (by decide) (fun h => ?_) (fun h => ?_)
      · rw [if_pos h] at hf
        refine g_bipush F (v := 99) d_Mo_digitOf_52 (by decide) ?_
        subst hf
        exact g_iret F hr hlk rfl rfl rfl d_Mo_digitOf_54
      · rw [if_neg h] at hf
        refine g_iload_n F d_Mo_digitOf_39 0 rfl ?_
        refine g_bipush F (v := 102) d_Mo_digitOf_40 (by decide) ?_
        refine g_icmp_gt F (tgt := 52) d_Mo_digitOf_42 (by decide) (fun h => ?_) (fun h => ?_)
        · rw [if_pos h] at hf
          refine g_bipush F (v := 99) d_Mo_digitOf_52 (by decide) ?_
          subst hf
          exact g_iret F hr hlk rfl rfl rfl d_Mo_digitOf_54
        · rw [if_neg h] at hf
          refine g_iload_n F d_Mo_digitOf_45 0 rfl ?_
          refine g_bipush F (v := 87) d_Mo_digitOf_46 (by decide) ?_
          refine g_isub F d_Mo_digitOf_48 ?_
          refine g_goto F (tgt := 54) d_Mo_digitOf_49 (by decide) ?_
          subst hf
          exact g_iret F hr hlk rfl rfl rfl d_Mo_digitOf_54
    · rw [if_neg h] at hf
      refine g_iload_n F d_Mo_digitOf_20 0 rfl ?_
      refine g_bipush F (v := 70) d_Mo_digitOf_21 (by decide) ?_
      refine g_icmp_gt F (tgt := 33) d_Mo_digitOf_23 (by decide) (fun h => ?_) (fun h => ?_)
      · rw [if_pos h] at hf
        refine g_iload_n F d_Mo_digitOf_33 0 rfl ?_
        refine g_bipush F (v := 97) d_Mo_digitOf_34 (by decide) ?_
        refine g_icmp_lt F (tgt := 52) d_Mo_digitOf_36 (by decide) (fun h => ?_) (fun h => ?_)
        · rw [if_pos h] at hf
          refine g_bipush F (v := 99) d_Mo_digitOf_52 (by decide) ?_
          subst hf
          exact g_iret F hr hlk rfl rfl rfl d_Mo_digitOf_54
        · rw [if_neg h] at hf
          refine g_iload_n F d_Mo_digitOf_39 0 rfl ?_
          refine g_bipush F (v := 102) d_Mo_digitOf_40 (by decide) ?_
          refine g_icmp_gt F (tgt := 52) d_Mo_digitOf_42 (by decide) (fun h => ?_) (fun h => ?_)
          · rw [if_pos h] at hf
            refine g_bipush F (v := 99) d_Mo_digitOf_52 (by decide) ?_
            subst hf
            exact g_iret F hr hlk rfl rfl rfl d_Mo_digitOf_54
          · rw [if_neg h] at hf
            refine g_iload_n F d_Mo_digitOf_45 0 rfl ?_
            refine g_bipush F (v := 87) d_Mo_digitOf_46 (by decide) ?_
            refine g_isub F d_Mo_digitOf_48 ?_
            refine g_goto F (tgt := 54) d_Mo_digitOf_49 (by decide) ?_
            subst hf
            exact g_iret F hr hlk rfl rfl rfl d_Mo_digitOf_54
      · rw [if_neg h] at hf
        refine g_iload_n F d_Mo_digitOf_26 0 rfl ?_
        refine g_bipush F (v := 55) d_Mo_digitOf_27 (by decide) ?_
        refine g_isub F d_Mo_digitOf_29 ?_
        refine g_goto F (tgt := 54) d_Mo_digitOf_30 (by decide) ?_
        subst hf
        exact g_iret F hr hlk rfl rfl rfl d_Mo_digitOf_54
  · rw [if_neg h] at hf
    refine g_iload_n F d_Mo_digitOf_7 0 rfl ?_
    refine g_bipush F (v := 48) d_Mo_digitOf_8 (by decide) ?_
    refine g_isub F d_Mo_digitOf_10 ?_
    refine g_goto F (tgt := 54) d_Mo_digitOf_11 (by decide) ?_
    subst hf
    exact g_iret F hr hlk rfl rfl rfl d_Mo_digitOf_54
set_option maxHeartbeats 4000000 in
set_option maxRecDepth 100000 in
theorem c_Mo_give (l : Launch) (D : va_G) (cA : Nat → ClassId) (z : gZ) (ad : Nat → Nat) (sMo : SMo) (a1 : Int32) (a2 : Int32) {x : SMo} (hf : f_Mo_give a1 a2 sMo = some x) (sz : Nat) : Met l y_Mo_give (.code y_Mo_give b_Mo_give 3 none :: lw_g) { frames := 2, cells := 0, slots := 0, locals := 42 } (gP D (gT cA) z [.ref (ad 0), .int a1, .int a2] (Wo ad cA sMo) sz) (gQv D (gT cA) (va_A (Wo ad cA sMo) sz) (Wo ad cA x)) 0 0 (va_A (Wo ad cA sMo) sz) := by
  refine g_met (by decide) (Nat.le_of_ble_eq_true rfl) rfl ?_
  intro p e s m args below meth c F hr hlk
  unfold f_Mo_give at hf
  refine g_iload_n F d_Mo_give_0 2 rfl ?_
  refine g_if_eq F (tgt := 12) d_Mo_give_1 (by decide) (fun h => ?_) (fun h => ?_)
  · rw [if_pos h] at hf
    refine g_aload_n F d_Mo_give_12 0 rfl ?_
    refine g_iload_n F d_Mo_give_13 1 rfl ?_
    obtain ⟨x1, hx1, hf⟩ := g_bind hf
    refine g_cv F (ws' := (Wo ad cA x1)) (fun H locs ls hP hD hS hl => g_runV F (As := [.int a1]) (n := 1) mw_1263 rfl rfl ⟨by decide, by decide⟩ rfl (by exact Nat.le_of_ble_eq_true rfl) mw_1260 mw_1262 mw_41 mw_85 (by decide +kernel) d_Mo_give_14 hP hD hS hl (va_recv F.2.2.2.2.2.1 hP (ci := 9) rfl (q0 := 0) rfl) (c_Mo_toText l D cA z ad sMo a1 hx1 H.size)) ?_
    cases hf
    exact g_vret F hr hlk rfl rfl d_Mo_give_17
  · rw [if_neg h] at hf
    refine g_aload_n F d_Mo_give_4 0 rfl ?_
    refine g_iload_n F d_Mo_give_5 1 rfl ?_
    obtain ⟨x2, hx2, hf⟩ := g_bind hf
    refine g_cv F (ws' := (Wo ad cA x2)) (fun H locs ls hP hD hS hl => g_runV F (As := [.int a1]) (n := 1) mw_1259 rfl rfl ⟨by decide, by decide⟩ rfl (by exact Nat.le_of_ble_eq_true rfl) mw_1256 mw_1258 mw_40 mw_85 (by decide +kernel) d_Mo_give_6 hP hD hS hl (va_recv F.2.2.2.2.2.1 hP (ci := 9) rfl (q0 := 0) rfl) (c_Mo_keep l D cA z ad sMo a1 hx2 H.size)) ?_
    refine g_goto F (tgt := 17) d_Mo_give_9 (by decide) ?_
    cases hf
    exact g_vret F hr hlk rfl rfl d_Mo_give_17
set_option maxHeartbeats 4000000 in
set_option maxRecDepth 100000 in
theorem c_Mo_giveAll (l : Launch) (D : va_G) (cA : Nat → ClassId) (z : gZ) (ad : Nat → Nat) (sMo : SMo) (a1 : Int32) (a2 : Int32) {x : SMo} (hf : f_Mo_giveAll a1 a2 sMo = some x) (sz : Nat) : Met l y_Mo_giveAll (.code y_Mo_giveAll b_Mo_giveAll 4 none :: lw_g) { frames := 3, cells := 0, slots := 0, locals := 64 } (gP D (gT cA) z [.ref (ad 0), .int a1, .int a2] (Wo ad cA sMo) sz) (gQv D (gT cA) (va_A (Wo ad cA sMo) sz) (Wo ad cA x)) 0 0 (va_A (Wo ad cA sMo) sz) := by
  refine g_met (by decide) (Nat.le_of_ble_eq_true rfl) rfl ?_
  intro p e s m args below meth c F hr hlk
  have blk2 : ∀ (n : Nat) (v1 : Int32) (v2 : Int32) (v3 : Int32) (tMo : SMo), f_Mo_giveAll_2 n v1 v2 v3 tMo = some x → GW p l e { frames := 3, cells := 0, slots := 0, locals := 64 } s m args below meth c (gQv D (gT cA) (va_A (Wo ad cA sMo) sz) (Wo ad cA x)) D (va_A (Wo ad cA sMo) sz) 4 (Wo ad cA tMo) 2 [(0, .ref (ad 0)), (1, .int v1), (2, .int v2), (3, .int v3)] [] := by
    intro n
    induction n with
    | zero => intro _ _ _ _ hf; cases hf
    | succ n ih =>
      intro v1 v2 v3 tMo hf
      rw [f_Mo_giveAll_2] at hf
      refine g_iload_n F d_Mo_giveAll_2 3 rfl ?_
      refine g_aload_n F d_Mo_giveAll_3 0 rfl ?_
      refine g_get F (v := .int (q_Mo_p tMo)) in_X13 0 rfl rfl 7 (by decide) mw_1113 rfl d_Mo_giveAll_4 ?_
      refine g_icmp_ge F (tgt := 26) d_Mo_giveAll_7 (by decide) (fun h => ?_) (fun h => ?_)
      · rw [if_pos h] at hf
        cases hf
        exact g_vret F hr hlk rfl rfl d_Mo_giveAll_26
      · rw [if_neg h] at hf
        refine g_aload_n F d_Mo_giveAll_10 0 rfl ?_
        refine g_aload_n F d_Mo_giveAll_11 0 rfl ?_
        refine g_iload_n F d_Mo_giveAll_12 3 rfl ?_
        obtain ⟨x1, hx1, hf⟩ := g_bind hf
        refine g_ci F (r0 := x1) (ws' := (Wo ad cA tMo)) (fun H locs ls hP hD hS hl => g_runV F (As := [.int v3]) (n := 1) mw_1228 rfl rfl ⟨by decide, by decide⟩ rfl (by exact Nat.le_of_ble_eq_true rfl) mw_1225 mw_1227 mw_34 mw_85 (by decide +kernel) d_Mo_giveAll_13 hP hD hS hl (va_recv F.2.2.2.2.2.1 hP (ci := 9) rfl (q0 := 0) rfl) (c_Mo_charAt l D cA z ad tMo v3 hx1 H.size)) ?_
        refine g_iload_n F d_Mo_giveAll_16 2 rfl ?_
        obtain ⟨x2, hx2, hf⟩ := g_bind hf
        refine g_cv F (ws' := (Wo ad cA x2)) (fun H locs ls hP hD hS hl => g_runV F (As := [.int x1, .int v2]) (n := 2) mw_1255 rfl rfl ⟨by decide, by decide⟩ rfl (by exact Nat.le_of_ble_eq_true rfl) mw_1252 mw_1254 mw_39 mw_85 (by decide +kernel) d_Mo_giveAll_17 hP hD hS hl (va_recv F.2.2.2.2.2.1 hP (ci := 9) rfl (q0 := 0) rfl) (c_Mo_give l D cA z ad tMo x1 v2 hx2 H.size)) ?_
        refine g_iinc F (j := 3) (v := (v3 + 1)) (L' := [(3, .int (v3 + 1)), (0, .ref (ad 0)), (1, .int v1), (2, .int v2)]) d_Mo_giveAll_20 rfl rfl (by decide) rfl ?_
        refine g_goto F (tgt := 2) d_Mo_giveAll_23 (by decide) ?_
        refine g_loc [1, 2, 3, 0] rfl ?_
        exact ih v1 v2 (v3 + 1) x2 hf
  unfold f_Mo_giveAll at hf
  refine g_iload_n F d_Mo_giveAll_0 1 rfl ?_
  refine g_istore_n F (L' := [(3, .int a1), (0, .ref (ad 0)), (1, .int a1), (2, .int a2)]) d_Mo_giveAll_1 rfl (by decide) rfl ?_
  refine g_loc [1, 2, 3, 0] rfl ?_
  exact blk2 FU a1 a2 a1 sMo hf
set_option maxHeartbeats 4000000 in
set_option maxRecDepth 100000 in
theorem c_Mo_told (l : Launch) (D : va_G) (cA : Nat → ClassId) (z : gZ) (ad : Nat → Nat) (sMo : SMo) (a1 : Int32) {x : Int32 × SMo} (hf : f_Mo_told a1 sMo = some x) (sz : Nat) : Met l y_Mo_told (.code y_Mo_told b_Mo_told 3 (some .int) :: lw_g) { frames := 1, cells := 0, slots := 0, locals := 22 } (gP D (gT cA) z [.ref (ad 0), .int a1] (Wo ad cA sMo) sz) (gQi D (gT cA) (va_A (Wo ad cA sMo) sz) x.1 (Wo ad cA x.2)) 0 0 (va_A (Wo ad cA sMo) sz) := by
  refine g_met (by decide) (Nat.le_of_ble_eq_true rfl) rfl ?_
  intro p e s m args below meth c F hr hlk
  have blk133 : ∀ (v1 : Int32) (tMo : SMo), f_Mo_told_133 v1 tMo = some x → GW p l e { frames := 1, cells := 0, slots := 0, locals := 22 } s m args below meth c (gQi D (gT cA) (va_A (Wo ad cA sMo) sz) x.1 (Wo ad cA x.2)) D (va_A (Wo ad cA sMo) sz) 3 (Wo ad cA tMo) 133 [(0, .ref (ad 0)), (1, .int v1)] [] := by
    intro v1 tMo hf
    unfold f_Mo_told_133 at hf
    refine g_aload_n F d_Mo_told_133 0 rfl ?_
    refine g_bipush F (v := 32) d_Mo_told_134 (by decide) ?_
    refine g_aload_n F d_Mo_told_136 0 rfl ?_
    refine g_get F (v := .int (q_Mo_p tMo)) in_X13 0 rfl rfl 7 (by decide) mw_1113 rfl d_Mo_told_137 ?_
    obtain ⟨x1, hx1, hf⟩ := g_bind hf
    refine g_cv F (ws' := (Wo ad cA x1)) (fun H locs ls hP hD hS hl => g_runV F (As := [.int 32, .int (q_Mo_p tMo)]) (n := 2) mw_1247 rfl rfl ⟨by decide, by decide⟩ rfl (by exact Nat.le_of_ble_eq_true rfl) mw_1244 mw_1246 mw_37 mw_85 (by decide +kernel) d_Mo_told_140 hP hD hS hl (va_recv F.2.2.2.2.2.1 hP (ci := 9) rfl (q0 := 0) rfl) (c_Mo_wrong l D cA z ad tMo 32 (q_Mo_p tMo) hx1 H.size)) ?_
    refine g_iload_n F d_Mo_told_143 1 rfl ?_
    refine g_sipush F (v := 128) d_Mo_told_144 (by decide) ?_
    refine g_icmp_lt F (tgt := 170) d_Mo_told_147 (by decide) (fun h => ?_) (fun h => ?_)
    · rw [if_pos h] at hf
      refine g_iconst F (v := 0) d_Mo_told_170 (by decide) ?_
      refine g_istore_n F (L' := [(2, .int 0), (0, .ref (ad 0)), (1, .int v1)]) d_Mo_told_171 rfl (by decide) rfl ?_
      refine g_iload_n F d_Mo_told_172 0 rfl ?_
      refine g_if_le F (tgt := 180) d_Mo_told_173 (by decide) (fun _ => ?_) (fun h => absurd h (by decide))
      refine g_iload_n F d_Mo_told_180 2 rfl ?_
      cases hf
      exact g_iret F hr hlk rfl rfl rfl d_Mo_told_181
    · rw [if_neg h] at hf
      refine g_iload_n F d_Mo_told_150 1 rfl ?_
      refine g_sipush F (v := 159) d_Mo_told_151 (by decide) ?_
      refine g_icmp_gt F (tgt := 170) d_Mo_told_154 (by decide) (fun h => ?_) (fun h => ?_)
      · rw [if_pos h] at hf
        refine g_iconst F (v := 0) d_Mo_told_170 (by decide) ?_
        refine g_istore_n F (L' := [(2, .int 0), (0, .ref (ad 0)), (1, .int v1)]) d_Mo_told_171 rfl (by decide) rfl ?_
        refine g_iload_n F d_Mo_told_172 0 rfl ?_
        refine g_if_le F (tgt := 180) d_Mo_told_173 (by decide) (fun _ => ?_) (fun h => absurd h (by decide))
        refine g_iload_n F d_Mo_told_180 2 rfl ?_
        cases hf
        exact g_iret F hr hlk rfl rfl rfl d_Mo_told_181
      · rw [if_neg h] at hf
        refine g_aload_n F d_Mo_told_157 0 rfl ?_
        refine g_get F (v := .ref (ad 3)) in_X13 0 rfl rfl 2 (by decide) mw_1108 rfl d_Mo_told_158 ?_
        refine g_iload_n F d_Mo_told_161 1 rfl ?_
        refine g_sipush F (v := 128) d_Mo_told_162 (by decide) ?_
        refine g_isub F d_Mo_told_165 ?_
        obtain ⟨k1, hf⟩ := g_chk hf
        refine g_iald F (f := (q_Mo_turned x1)) 3 0 rfl rfl k1 d_Mo_told_166 ?_
        refine g_goto F (tgt := 171) d_Mo_told_167 (by decide) ?_
        refine g_istore_n F (L' := [(2, .int ((q_Mo_turned x1) ((v1 - 128) : Int32).toNatClampNeg)), (0, .ref (ad 0)), (1, .int v1)]) d_Mo_told_171 rfl (by decide) rfl ?_
        refine g_iload_n F d_Mo_told_172 0 rfl ?_
        refine g_if_le F (tgt := 180) d_Mo_told_173 (by decide) (fun h => ?_) (fun h => ?_)
        · rw [if_pos h] at hf
          refine g_iload_n F d_Mo_told_180 2 rfl ?_
          cases hf
          exact g_iret F hr hlk rfl rfl rfl d_Mo_told_181
        · rw [if_neg h] at hf
          refine g_iload_n F d_Mo_told_176 0 rfl ?_
          refine g_goto F (tgt := 181) d_Mo_told_177 (by decide) ?_
          cases hf
          exact g_iret F hr hlk rfl rfl rfl d_Mo_told_181
  have blk114 : ∀ (v1 : Int32) (tMo : SMo), f_Mo_told_114 v1 tMo = some x → GW p l e { frames := 1, cells := 0, slots := 0, locals := 22 } s m args below meth c (gQi D (gT cA) (va_A (Wo ad cA sMo) sz) x.1 (Wo ad cA x.2)) D (va_A (Wo ad cA sMo) sz) 3 (Wo ad cA tMo) 114 [(0, .ref (ad 0)), (1, .int v1)] [] := by
    intro v1 tMo hf
    unfold f_Mo_told_114 at hf
    refine g_iload_n F d_Mo_told_114 1 rfl ?_
    refine g_bipush F (v := 13) d_Mo_told_115 (by decide) ?_
    refine g_icmp_eq F (tgt := 133) d_Mo_told_117 (by decide) (fun h => ?_) (fun h => ?_)
    · rw [if_pos h] at hf
      exact blk133 v1 tMo hf
    · rw [if_neg h] at hf
      refine g_iload_n F d_Mo_told_120 1 rfl ?_
      refine g_bipush F (v := 32) d_Mo_told_121 (by decide) ?_
      refine g_icmp_ge F (tgt := 182) d_Mo_told_123 (by decide) (fun h => ?_) (fun h => ?_)
      · rw [if_pos h] at hf
        refine g_iload_n F d_Mo_told_182 1 rfl ?_
        cases hf
        exact g_iret F hr hlk rfl rfl rfl d_Mo_told_183
      · rw [if_neg h] at hf
        refine g_iload_n F d_Mo_told_126 1 rfl ?_
        refine g_ci F (r0 := (f_Mo_isBlank v1)) (ws' := (Wo ad cA tMo)) (fun H locs ls hP hD hS hl => g_runS F (As := [.int v1]) (n := 1) mw_1277 rfl rfl ⟨by decide, by decide⟩ rfl (by exact Nat.le_of_ble_eq_true rfl) mw_1275 mw_1276 mw_85 (by decide +kernel) d_Mo_told_127 hP hD hS hl (c_Mo_isBlank l D cA z ad tMo v1 rfl H.size)) ?_
        refine g_if_ne F (tgt := 182) d_Mo_told_130 (by decide) (fun h => ?_) (fun h => ?_)
        · rw [if_neg h] at hf
          refine g_iload_n F d_Mo_told_182 1 rfl ?_
          cases hf
          exact g_iret F hr hlk rfl rfl rfl d_Mo_told_183
        · rw [if_pos h] at hf
          exact blk133 v1 tMo hf
  have blk78 : ∀ (v1 : Int32) (tMo : SMo), f_Mo_told_78 v1 tMo = some x → GW p l e { frames := 1, cells := 0, slots := 0, locals := 22 } s m args below meth c (gQi D (gT cA) (va_A (Wo ad cA sMo) sz) x.1 (Wo ad cA x.2)) D (va_A (Wo ad cA sMo) sz) 3 (Wo ad cA tMo) 78 [(0, .ref (ad 0)), (1, .int v1)] [] := by
    intro v1 tMo hf
    unfold f_Mo_told_78 at hf
    refine g_iload_n F d_Mo_told_78 1 rfl ?_
    refine g_ldcw F (v := 65536) mw_1273 d_Mo_told_79 ?_
    refine g_irem F d_Mo_told_82 (by decide) ?_
    refine g_ldcw F (v := 65534) mw_1274 d_Mo_told_83 ?_
    refine g_icmp_lt F (tgt := 101) d_Mo_told_86 (by decide) (fun h => ?_) (fun h => ?_)
    · rw [if_pos h] at hf
      refine g_iload_n F d_Mo_told_101 1 rfl ?_
      refine g_bipush F (v := 127) d_Mo_told_102 (by decide) ?_
      refine g_icmp_lt F (tgt := 114) d_Mo_told_104 (by decide) (fun h => ?_) (fun h => ?_)
      · rw [if_pos h] at hf
        exact blk114 v1 tMo hf
      · rw [if_neg h] at hf
        refine g_iload_n F d_Mo_told_107 1 rfl ?_
        refine g_sipush F (v := 159) d_Mo_told_108 (by decide) ?_
        refine g_icmp_le F (tgt := 133) d_Mo_told_111 (by decide) (fun h => ?_) (fun h => ?_)
        · rw [if_pos h] at hf
          exact blk133 v1 tMo hf
        · rw [if_neg h] at hf
          exact blk114 v1 tMo hf
    · rw [if_neg h] at hf
      refine g_aload_n F d_Mo_told_89 0 rfl ?_
      refine g_bipush F (v := 31) d_Mo_told_90 (by decide) ?_
      refine g_aload_n F d_Mo_told_92 0 rfl ?_
      refine g_get F (v := .int (q_Mo_p tMo)) in_X13 0 rfl rfl 7 (by decide) mw_1113 rfl d_Mo_told_93 ?_
      obtain ⟨x2, hx2, hf⟩ := g_bind hf
      refine g_cv F (ws' := (Wo ad cA x2)) (fun H locs ls hP hD hS hl => g_runV F (As := [.int 31, .int (q_Mo_p tMo)]) (n := 2) mw_1247 rfl rfl ⟨by decide, by decide⟩ rfl (by exact Nat.le_of_ble_eq_true rfl) mw_1244 mw_1246 mw_37 mw_85 (by decide +kernel) d_Mo_told_96 hP hD hS hl (va_recv F.2.2.2.2.2.1 hP (ci := 9) rfl (q0 := 0) rfl) (c_Mo_wrong l D cA z ad tMo 31 (q_Mo_p tMo) hx2 H.size)) ?_
      refine g_iload_n F d_Mo_told_99 1 rfl ?_
      cases hf
      exact g_iret F hr hlk rfl rfl rfl d_Mo_told_100
  have blk64 : ∀ (v1 : Int32) (tMo : SMo), f_Mo_told_64 v1 tMo = some x → GW p l e { frames := 1, cells := 0, slots := 0, locals := 22 } s m args below meth c (gQi D (gT cA) (va_A (Wo ad cA sMo) sz) x.1 (Wo ad cA x.2)) D (va_A (Wo ad cA sMo) sz) 3 (Wo ad cA tMo) 64 [(0, .ref (ad 0)), (1, .int v1)] [] := by
    intro v1 tMo hf
    unfold f_Mo_told_64 at hf
    refine g_iload_n F d_Mo_told_64 1 rfl ?_
    refine g_ldcw F (v := 64976) mw_1271 d_Mo_told_65 ?_
    refine g_icmp_lt F (tgt := 78) d_Mo_told_68 (by decide) (fun h => ?_) (fun h => ?_)
    · rw [if_pos h] at hf
      exact blk78 v1 tMo hf
    · rw [if_neg h] at hf
      refine g_iload_n F d_Mo_told_71 1 rfl ?_
      refine g_ldcw F (v := 65007) mw_1272 d_Mo_told_72 ?_
      refine g_icmp_le F (tgt := 89) d_Mo_told_75 (by decide) (fun h => ?_) (fun h => ?_)
      · rw [if_pos h] at hf
        refine g_aload_n F d_Mo_told_89 0 rfl ?_
        refine g_bipush F (v := 31) d_Mo_told_90 (by decide) ?_
        refine g_aload_n F d_Mo_told_92 0 rfl ?_
        refine g_get F (v := .int (q_Mo_p tMo)) in_X13 0 rfl rfl 7 (by decide) mw_1113 rfl d_Mo_told_93 ?_
        obtain ⟨x3, hx3, hf⟩ := g_bind hf
        refine g_cv F (ws' := (Wo ad cA x3)) (fun H locs ls hP hD hS hl => g_runV F (As := [.int 31, .int (q_Mo_p tMo)]) (n := 2) mw_1247 rfl rfl ⟨by decide, by decide⟩ rfl (by exact Nat.le_of_ble_eq_true rfl) mw_1244 mw_1246 mw_37 mw_85 (by decide +kernel) d_Mo_told_96 hP hD hS hl (va_recv F.2.2.2.2.2.1 hP (ci := 9) rfl (q0 := 0) rfl) (c_Mo_wrong l D cA z ad tMo 31 (q_Mo_p tMo) hx3 H.size)) ?_
        refine g_iload_n F d_Mo_told_99 1 rfl ?_
        cases hf
        exact g_iret F hr hlk rfl rfl rfl d_Mo_told_100
      · rw [if_neg h] at hf
        exact blk78 v1 tMo hf
  unfold f_Mo_told at hf
  refine g_iload_n F d_Mo_told_0 1 rfl ?_
  refine g_if_ne F (tgt := 17) d_Mo_told_1 (by decide) (fun h => ?_) (fun h => ?_)
  · rw [if_neg h] at hf
    refine g_iload_n F d_Mo_told_17 1 rfl ?_
    refine g_ldcw F (v := 1114111) mw_1243 d_Mo_told_18 ?_
    refine g_icmp_le F (tgt := 37) d_Mo_told_21 (by decide) (fun h => ?_) (fun h => ?_)
    · rw [if_pos h] at hf
      refine g_iload_n F d_Mo_told_37 1 rfl ?_
      refine g_ldcw F (v := 55296) mw_1269 d_Mo_told_38 ?_
      refine g_icmp_lt F (tgt := 64) d_Mo_told_41 (by decide) (fun h => ?_) (fun h => ?_)
      · rw [if_pos h] at hf
        exact blk64 a1 sMo hf
      · rw [if_neg h] at hf
        refine g_iload_n F d_Mo_told_44 1 rfl ?_
        refine g_ldcw F (v := 57343) mw_1270 d_Mo_told_45 ?_
        refine g_icmp_gt F (tgt := 64) d_Mo_told_48 (by decide) (fun h => ?_) (fun h => ?_)
        · rw [if_pos h] at hf
          exact blk64 a1 sMo hf
        · rw [if_neg h] at hf
          refine g_aload_n F d_Mo_told_51 0 rfl ?_
          refine g_bipush F (v := 30) d_Mo_told_52 (by decide) ?_
          refine g_aload_n F d_Mo_told_54 0 rfl ?_
          refine g_get F (v := .int (q_Mo_p sMo)) in_X13 0 rfl rfl 7 (by decide) mw_1113 rfl d_Mo_told_55 ?_
          obtain ⟨x4, hx4, hf⟩ := g_bind hf
          refine g_cv F (ws' := (Wo ad cA x4)) (fun H locs ls hP hD hS hl => g_runV F (As := [.int 30, .int (q_Mo_p sMo)]) (n := 2) mw_1247 rfl rfl ⟨by decide, by decide⟩ rfl (by exact Nat.le_of_ble_eq_true rfl) mw_1244 mw_1246 mw_37 mw_85 (by decide +kernel) d_Mo_told_58 hP hD hS hl (va_recv F.2.2.2.2.2.1 hP (ci := 9) rfl (q0 := 0) rfl) (c_Mo_wrong l D cA z ad sMo 30 (q_Mo_p sMo) hx4 H.size)) ?_
          refine g_ldc F (v := 65533) mw_1268 d_Mo_told_61 ?_
          cases hf
          exact g_iret F hr hlk rfl rfl rfl d_Mo_told_63
    · rw [if_neg h] at hf
      refine g_aload_n F d_Mo_told_24 0 rfl ?_
      refine g_bipush F (v := 29) d_Mo_told_25 (by decide) ?_
      refine g_aload_n F d_Mo_told_27 0 rfl ?_
      refine g_get F (v := .int (q_Mo_p sMo)) in_X13 0 rfl rfl 7 (by decide) mw_1113 rfl d_Mo_told_28 ?_
      obtain ⟨x5, hx5, hf⟩ := g_bind hf
      refine g_cv F (ws' := (Wo ad cA x5)) (fun H locs ls hP hD hS hl => g_runV F (As := [.int 29, .int (q_Mo_p sMo)]) (n := 2) mw_1247 rfl rfl ⟨by decide, by decide⟩ rfl (by exact Nat.le_of_ble_eq_true rfl) mw_1244 mw_1246 mw_37 mw_85 (by decide +kernel) d_Mo_told_31 hP hD hS hl (va_recv F.2.2.2.2.2.1 hP (ci := 9) rfl (q0 := 0) rfl) (c_Mo_wrong l D cA z ad sMo 29 (q_Mo_p sMo) hx5 H.size)) ?_
      refine g_ldc F (v := 65533) mw_1268 d_Mo_told_34 ?_
      cases hf
      exact g_iret F hr hlk rfl rfl rfl d_Mo_told_36
  · rw [if_pos h] at hf
    refine g_aload_n F d_Mo_told_4 0 rfl ?_
    refine g_bipush F (v := 28) d_Mo_told_5 (by decide) ?_
    refine g_aload_n F d_Mo_told_7 0 rfl ?_
    refine g_get F (v := .int (q_Mo_p sMo)) in_X13 0 rfl rfl 7 (by decide) mw_1113 rfl d_Mo_told_8 ?_
    obtain ⟨x6, hx6, hf⟩ := g_bind hf
    refine g_cv F (ws' := (Wo ad cA x6)) (fun H locs ls hP hD hS hl => g_runV F (As := [.int 28, .int (q_Mo_p sMo)]) (n := 2) mw_1247 rfl rfl ⟨by decide, by decide⟩ rfl (by exact Nat.le_of_ble_eq_true rfl) mw_1244 mw_1246 mw_37 mw_85 (by decide +kernel) d_Mo_told_11 hP hD hS hl (va_recv F.2.2.2.2.2.1 hP (ci := 9) rfl (q0 := 0) rfl) (c_Mo_wrong l D cA z ad sMo 28 (q_Mo_p sMo) hx6 H.size)) ?_
    refine g_ldc F (v := 65533) mw_1268 d_Mo_told_14 ?_
    cases hf
    exact g_iret F hr hlk rfl rfl rfl d_Mo_told_16
set_option maxHeartbeats 4000000 in
set_option maxRecDepth 100000 in
theorem c_Mo_number (l : Launch) (D : va_G) (cA : Nat → ClassId) (z : gZ) (ad : Nat → Nat) (sMo : SMo) (a1 : Int32) (a2 : Int32) {x : SMo} (hf : f_Mo_number a1 a2 sMo = some x) (sz : Nat) : Met l y_Mo_number (.code y_Mo_number b_Mo_number 6 none :: lw_g) { frames := 4, cells := 0, slots := 0, locals := 87 } (gP D (gT cA) z [.ref (ad 0), .int a1, .int a2] (Wo ad cA sMo) sz) (gQv D (gT cA) (va_A (Wo ad cA sMo) sz) (Wo ad cA x)) 0 0 (va_A (Wo ad cA sMo) sz) := by
  refine g_met (by decide) (Nat.le_of_ble_eq_true rfl) rfl ?_
  intro p e s m args below meth c F hr hlk
  have blk63 : ∀ (n : Nat) (v1 : Int32) (v2 : Int32) (v3 : Int32) (v4 : Int32) (v5 : Int32) (tMo : SMo), f_Mo_number_63 n v1 v2 v3 v4 v5 tMo = some x → GW p l e { frames := 4, cells := 0, slots := 0, locals := 87 } s m args below meth c (gQv D (gT cA) (va_A (Wo ad cA sMo) sz) (Wo ad cA x)) D (va_A (Wo ad cA sMo) sz) 6 (Wo ad cA tMo) 63 [(0, .ref (ad 0)), (1, .int v1), (2, .int v2), (3, .int v3), (4, .int v4), (5, .int v5)] [] := by
    intro n
    induction n with
    | zero => intro _ _ _ _ _ _ hf; cases hf
    | succ n ih =>
      intro v1 v2 v3 v4 v5 tMo hf
      rw [f_Mo_number_63] at hf
      refine g_aload_n F d_Mo_number_63 0 rfl ?_
      refine g_aload_n F d_Mo_number_64 0 rfl ?_
      refine g_get F (v := .int (q_Mo_p tMo)) in_X13 0 rfl rfl 7 (by decide) mw_1113 rfl d_Mo_number_65 ?_
      obtain ⟨x1, hx1, hf⟩ := g_bind hf
      refine g_ci F (r0 := x1) (ws' := (Wo ad cA tMo)) (fun H locs ls hP hD hS hl => g_runV F (As := [.int (q_Mo_p tMo)]) (n := 1) mw_1228 rfl rfl ⟨by decide, by decide⟩ rfl (by exact Nat.le_of_ble_eq_true rfl) mw_1225 mw_1227 mw_34 mw_85 (by decide +kernel) d_Mo_number_68 hP hD hS hl (va_recv F.2.2.2.2.2.1 hP (ci := 9) rfl (q0 := 0) rfl) (c_Mo_charAt l D cA z ad tMo (q_Mo_p tMo) hx1 H.size)) ?_
      refine g_ci F (r0 := (f_Mo_digitOf x1)) (ws' := (Wo ad cA tMo)) (fun H locs ls hP hD hS hl => g_runS F (As := [.int x1]) (n := 1) mw_1239 rfl rfl ⟨by decide, by decide⟩ rfl (by exact Nat.le_of_ble_eq_true rfl) mw_1237 mw_1238 mw_85 (by decide +kernel) d_Mo_number_71 hP hD hS hl (c_Mo_digitOf l D cA z ad tMo x1 rfl H.size)) ?_
      refine g_iload_n F d_Mo_number_74 3 rfl ?_
      refine g_icmp_ge F (tgt := 125) d_Mo_number_75 (by decide) (fun h => ?_) (fun h => ?_)
      · rw [if_pos h] at hf
        refine g_iload F d_Mo_number_125 5 rfl ?_
        refine g_if_ne F (tgt := 147) d_Mo_number_127 (by decide) (fun h => ?_) (fun h => ?_)
        · rw [if_neg h] at hf
          refine g_aload_n F d_Mo_number_147 0 rfl ?_
          refine g_aload_n F d_Mo_number_148 0 rfl ?_
          refine g_get F (v := .int (q_Mo_p tMo)) in_X13 0 rfl rfl 7 (by decide) mw_1113 rfl d_Mo_number_149 ?_
          obtain ⟨x2, hx2, hf⟩ := g_bind hf
          refine g_ci F (r0 := x2) (ws' := (Wo ad cA tMo)) (fun H locs ls hP hD hS hl => g_runV F (As := [.int (q_Mo_p tMo)]) (n := 1) mw_1228 rfl rfl ⟨by decide, by decide⟩ rfl (by exact Nat.le_of_ble_eq_true rfl) mw_1225 mw_1227 mw_34 mw_85 (by decide +kernel) d_Mo_number_152 hP hD hS hl (va_recv F.2.2.2.2.2.1 hP (ci := 9) rfl (q0 := 0) rfl) (c_Mo_charAt l D cA z ad tMo (q_Mo_p tMo) hx2 H.size)) ?_
          refine g_bipush F (v := 59) d_Mo_number_155 (by decide) ?_
          refine g_icmp_ne F (tgt := 173) d_Mo_number_157 (by decide) (fun h => ?_) (fun h => ?_)
          · rw [if_neg h] at hf
            refine g_aload_n F d_Mo_number_173 0 rfl ?_
            refine g_bipush F (v := 25) d_Mo_number_174 (by decide) ?_
            refine g_aload_n F d_Mo_number_176 0 rfl ?_
            refine g_get F (v := .int (q_Mo_p tMo)) in_X13 0 rfl rfl 7 (by decide) mw_1113 rfl d_Mo_number_177 ?_
            obtain ⟨x3, hx3, hf⟩ := g_bind hf
            refine g_cv F (ws' := (Wo ad cA x3)) (fun H locs ls hP hD hS hl => g_runV F (As := [.int 25, .int (q_Mo_p tMo)]) (n := 2) mw_1247 rfl rfl ⟨by decide, by decide⟩ rfl (by exact Nat.le_of_ble_eq_true rfl) mw_1244 mw_1246 mw_37 mw_85 (by decide +kernel) d_Mo_number_180 hP hD hS hl (va_recv F.2.2.2.2.2.1 hP (ci := 9) rfl (q0 := 0) rfl) (c_Mo_wrong l D cA z ad tMo 25 (q_Mo_p tMo) hx3 H.size)) ?_
            refine g_aload_n F d_Mo_number_183 0 rfl ?_
            refine g_aload_n F d_Mo_number_184 0 rfl ?_
            refine g_iload F d_Mo_number_185 4 rfl ?_
            obtain ⟨x4, hx4, hf⟩ := g_bind hf
            refine g_ci F (r0 := x4.1) (ws' := (Wo ad cA x4.2)) (fun H locs ls hP hD hS hl => g_runV F (As := [.int v4]) (n := 1) mw_1267 rfl rfl ⟨by decide, by decide⟩ rfl (by exact Nat.le_of_ble_eq_true rfl) mw_1264 mw_1266 mw_42 mw_85 (by decide +kernel) d_Mo_number_187 hP hD hS hl (va_recv F.2.2.2.2.2.1 hP (ci := 9) rfl (q0 := 0) rfl) (c_Mo_told l D cA z ad x3 v4 hx4 H.size)) ?_
            refine g_iload_n F d_Mo_number_190 2 rfl ?_
            obtain ⟨x5, hx5, hf⟩ := g_bind hf
            refine g_cv F (ws' := (Wo ad cA x5)) (fun H locs ls hP hD hS hl => g_runV F (As := [.int x4.1, .int v2]) (n := 2) mw_1255 rfl rfl ⟨by decide, by decide⟩ rfl (by exact Nat.le_of_ble_eq_true rfl) mw_1252 mw_1254 mw_39 mw_85 (by decide +kernel) d_Mo_number_191 hP hD hS hl (va_recv F.2.2.2.2.2.1 hP (ci := 9) rfl (q0 := 0) rfl) (c_Mo_give l D cA z ad x4.2 x4.1 v2 hx5 H.size)) ?_
            cases hf
            exact g_vret F hr hlk rfl rfl d_Mo_number_194
          · rw [if_pos h] at hf
            refine g_aload_n F d_Mo_number_160 0 rfl ?_
            refine g_dup F d_Mo_number_161 rfl ?_
            refine g_get F (v := .int (q_Mo_p tMo)) in_X13 0 rfl rfl 7 (by decide) mw_1113 rfl d_Mo_number_162 ?_
            refine g_iconst F (v := 1) d_Mo_number_165 (by decide) ?_
            refine g_iadd F d_Mo_number_166 ?_
            refine g_put F in_X13 0 rfl rfl 7 (by decide) tyX13 tyX13_ok nmX13 mw_1113 rfl rfl rfl (Nat.le_of_ble_eq_true rfl) (ws' := (Wn ad cA (q_Mo_names tMo) (q_Mo_gives tMo) (q_Mo_turned tMo) (q_Mo_size tMo) (q_Mo_bytes tMo) (q_Mo_n tMo) (q_Mo_text tMo) ((q_Mo_p tMo) + 1) (q_Mo_ended tMo) (q_Mo_tokens tMo) (q_Mo_kinds tMo) (q_Mo_firsts tMo) (q_Mo_sizes tMo) (q_Mo_marks tMo) (q_Mo_attributes tMo) (q_Mo_manyOf tMo) (q_Mo_attributeCount tMo) (q_Mo_nameAt tMo) (q_Mo_nameSize tMo) (q_Mo_valueAt tMo) (q_Mo_valueSize tMo) (q_Mo_goes tMo) (q_Mo_rowSize tMo) (q_Mo_row tMo) (q_Mo_textAt tMo) (q_Mo_textSize tMo) (q_Mo_faultCount tMo) (q_Mo_codes tMo) (q_Mo_places tMo) (q_Mo_outSize tMo) (q_Mo_out tMo) (q_Mo_which tMo))) rfl d_Mo_number_167 ?_
            refine g_goto F (tgt := 183) d_Mo_number_170 (by decide) ?_
            refine g_aload_n F d_Mo_number_183 0 rfl ?_
            refine g_aload_n F d_Mo_number_184 0 rfl ?_
            refine g_iload F d_Mo_number_185 4 rfl ?_
            obtain ⟨x6, hx6, hf⟩ := g_bind hf
            refine g_ci F (r0 := x6.1) (ws' := (Wo ad cA x6.2)) (fun H locs ls hP hD hS hl => g_runV F (As := [.int v4]) (n := 1) mw_1267 rfl rfl ⟨by decide, by decide⟩ rfl (by exact Nat.le_of_ble_eq_true rfl) mw_1264 mw_1266 mw_42 mw_85 (by decide +kernel) d_Mo_number_187 hP hD hS hl (va_recv F.2.2.2.2.2.1 hP (ci := 9) rfl (q0 := 0) rfl) (c_Mo_told l D cA z ad (u_Mo_p tMo ((q_Mo_p tMo) + 1)) v4 hx6 H.size)) ?_
            refine g_iload_n F d_Mo_number_190 2 rfl ?_
            obtain ⟨x7, hx7, hf⟩ := g_bind hf
            refine g_cv F (ws' := (Wo ad cA x7)) (fun H locs ls hP hD hS hl => g_runV F (As := [.int x6.1, .int v2]) (n := 2) mw_1255 rfl rfl ⟨by decide, by decide⟩ rfl (by exact Nat.le_of_ble_eq_true rfl) mw_1252 mw_1254 mw_39 mw_85 (by decide +kernel) d_Mo_number_191 hP hD hS hl (va_recv F.2.2.2.2.2.1 hP (ci := 9) rfl (q0 := 0) rfl) (c_Mo_give l D cA z ad x6.2 x6.1 v2 hx7 H.size)) ?_
            cases hf
            exact g_vret F hr hlk rfl rfl d_Mo_number_194
        · rw [if_pos h] at hf
          refine g_aload_n F d_Mo_number_130 0 rfl ?_
          refine g_bipush F (v := 27) d_Mo_number_131 (by decide) ?_
          refine g_aload_n F d_Mo_number_133 0 rfl ?_
          refine g_get F (v := .int (q_Mo_p tMo)) in_X13 0 rfl rfl 7 (by decide) mw_1113 rfl d_Mo_number_134 ?_
          obtain ⟨x8, hx8, hf⟩ := g_bind hf
          refine g_cv F (ws' := (Wo ad cA x8)) (fun H locs ls hP hD hS hl => g_runV F (As := [.int 27, .int (q_Mo_p tMo)]) (n := 2) mw_1247 rfl rfl ⟨by decide, by decide⟩ rfl (by exact Nat.le_of_ble_eq_true rfl) mw_1244 mw_1246 mw_37 mw_85 (by decide +kernel) d_Mo_number_137 hP hD hS hl (va_recv F.2.2.2.2.2.1 hP (ci := 9) rfl (q0 := 0) rfl) (c_Mo_wrong l D cA z ad tMo 27 (q_Mo_p tMo) hx8 H.size)) ?_
          refine g_aload_n F d_Mo_number_140 0 rfl ?_
          refine g_iload_n F d_Mo_number_141 1 rfl ?_
          refine g_iload_n F d_Mo_number_142 2 rfl ?_
          obtain ⟨x9, hx9, hf⟩ := g_bind hf
          refine g_cv F (ws' := (Wo ad cA x9)) (fun H locs ls hP hD hS hl => g_runV F (As := [.int v1, .int v2]) (n := 2) mw_1251 rfl rfl ⟨by decide, by decide⟩ rfl (by exact Nat.le_of_ble_eq_true rfl) mw_1248 mw_1250 mw_38 mw_85 (by decide +kernel) d_Mo_number_143 hP hD hS hl (va_recv F.2.2.2.2.2.1 hP (ci := 9) rfl (q0 := 0) rfl) (c_Mo_giveAll l D cA z ad x8 v1 v2 hx9 H.size)) ?_
          cases hf
          exact g_vret F hr hlk rfl rfl d_Mo_number_146
      · rw [if_neg h] at hf
        refine g_iload F d_Mo_number_78 4 rfl ?_
        refine g_ldcw F (v := 1114111) mw_1243 d_Mo_number_80 ?_
        refine g_icmp_le F (tgt := 91) d_Mo_number_83 (by decide) (fun h => ?_) (fun h => ?_)
        · rw [if_pos h] at hf
          refine g_iload_n F d_Mo_number_91 3 rfl ?_
          refine g_iload F d_Mo_number_92 4 rfl ?_
          refine g_imul F d_Mo_number_94 ?_
          refine g_aload_n F d_Mo_number_95 0 rfl ?_
          refine g_aload_n F d_Mo_number_96 0 rfl ?_
          refine g_get F (v := .int (q_Mo_p tMo)) in_X13 0 rfl rfl 7 (by decide) mw_1113 rfl d_Mo_number_97 ?_
          obtain ⟨x10, hx10, hf⟩ := g_bind hf
          refine g_ci F (r0 := x10) (ws' := (Wo ad cA tMo)) (fun H locs ls hP hD hS hl => g_runV F (As := [.int (q_Mo_p tMo)]) (n := 1) mw_1228 rfl rfl ⟨by decide, by decide⟩ rfl (by exact Nat.le_of_ble_eq_true rfl) mw_1225 mw_1227 mw_34 mw_85 (by decide +kernel) d_Mo_number_100 hP hD hS hl (va_recv F.2.2.2.2.2.1 hP (ci := 9) rfl (q0 := 0) rfl) (c_Mo_charAt l D cA z ad tMo (q_Mo_p tMo) hx10 H.size)) ?_
          refine g_ci F (r0 := (f_Mo_digitOf x10)) (ws' := (Wo ad cA tMo)) (fun H locs ls hP hD hS hl => g_runS F (As := [.int x10]) (n := 1) mw_1239 rfl rfl ⟨by decide, by decide⟩ rfl (by exact Nat.le_of_ble_eq_true rfl) mw_1237 mw_1238 mw_85 (by decide +kernel) d_Mo_number_103 hP hD hS hl (c_Mo_digitOf l D cA z ad tMo x10 rfl H.size)) ?_
          refine g_iadd F d_Mo_number_106 ?_
          refine g_istore F (L' := [(4, .int ((v3 * v4) + (f_Mo_digitOf x10))), (0, .ref (ad 0)), (1, .int v1), (2, .int v2), (3, .int v3), (5, .int v5)]) d_Mo_number_107 (by decide) rfl ?_
          refine g_iinc F (j := 5) (v := (v5 + 1)) (L' := [(5, .int (v5 + 1)), (4, .int ((v3 * v4) + (f_Mo_digitOf x10))), (0, .ref (ad 0)), (1, .int v1), (2, .int v2), (3, .int v3)]) d_Mo_number_109 rfl rfl (by decide) rfl ?_
          refine g_aload_n F d_Mo_number_112 2 rfl ?_
          refine g_dup F d_Mo_number_113 rfl ?_
          refine g_get F (v := .int (q_Mo_p tMo)) in_X13 0 rfl rfl 7 (by decide) mw_1113 rfl d_Mo_number_114 ?_
          refine g_iconst F (v := 1) d_Mo_number_117 (by decide) ?_
          refine g_iadd F d_Mo_number_118 ?_
          refine g_put F in_X13 0 rfl rfl 7 (by decide) tyX13 tyX13_ok nmX13 mw_1113 rfl rfl rfl (Nat.le_of_ble_eq_true rfl) (ws' := (Wn ad cA (q_Mo_names tMo) (q_Mo_gives tMo) (q_Mo_turned tMo) (q_Mo_size tMo) (q_Mo_bytes tMo) (q_Mo_n tMo) (q_Mo_text tMo) ((q_Mo_p tMo) + 1) (q_Mo_ended tMo) (q_Mo_tokens tMo) (q_Mo_kinds tMo) (q_Mo_firsts tMo) (q_Mo_sizes tMo) (q_Mo_marks tMo) (q_Mo_attributes tMo) (q_Mo_manyOf tMo) (q_Mo_attributeCount tMo) (q_Mo_nameAt tMo) (q_Mo_nameSize tMo) (q_Mo_valueAt tMo) (q_Mo_valueSize tMo) (q_Mo_goes tMo) (q_Mo_rowSize tMo) (q_Mo_row tMo) (q_Mo_textAt tMo) (q_Mo_textSize tMo) (q_Mo_faultCount tMo) (q_Mo_codes tMo) (q_Mo_places tMo) (q_Mo_outSize tMo) (q_Mo_out tMo) (q_Mo_which tMo))) rfl d_Mo_number_119 ?_
          refine g_goto F (tgt := 63) d_Mo_number_122 (by decide) ?_
          refine g_loc [2, 3, 4, 5, 1, 0] rfl ?_
          exact ih v1 v2 v3 ((v3 * v4) + (f_Mo_digitOf x10)) (v5 + 1) (u_Mo_p tMo ((q_Mo_p tMo) + 1)) hf
        · rw [if_neg h] at hf
          refine g_iload F d_Mo_number_86 4 rfl ?_
          refine g_goto F (tgt := 107) d_Mo_number_88 (by decide) ?_
          refine g_istore F (L' := [(4, .int v4), (0, .ref (ad 0)), (1, .int v1), (2, .int v2), (3, .int v3), (5, .int v5)]) d_Mo_number_107 (by decide) rfl ?_
          refine g_iinc F (j := 5) (v := (v5 + 1)) (L' := [(5, .int (v5 + 1)), (4, .int v4), (0, .ref (ad 0)), (1, .int v1), (2, .int v2), (3, .int v3)]) d_Mo_number_109 rfl rfl (by decide) rfl ?_
          refine g_aload_n F d_Mo_number_112 2 rfl ?_
          refine g_dup F d_Mo_number_113 rfl ?_
          refine g_get F (v := .int (q_Mo_p tMo)) in_X13 0 rfl rfl 7 (by decide) mw_1113 rfl d_Mo_number_114 ?_
          refine g_iconst F (v := 1) d_Mo_number_117 (by decide) ?_
          refine g_iadd F d_Mo_number_118 ?_
          refine g_put F in_X13 0 rfl rfl 7 (by decide) tyX13 tyX13_ok nmX13 mw_1113 rfl rfl rfl (Nat.le_of_ble_eq_true rfl) (ws' := (Wn ad cA (q_Mo_names tMo) (q_Mo_gives tMo) (q_Mo_turned tMo) (q_Mo_size tMo) (q_Mo_bytes tMo) (q_Mo_n tMo) (q_Mo_text tMo) ((q_Mo_p tMo) + 1) (q_Mo_ended tMo) (q_Mo_tokens tMo) (q_Mo_kinds tMo) (q_Mo_firsts tMo) (q_Mo_sizes tMo) (q_Mo_marks tMo) (q_Mo_attributes tMo) (q_Mo_manyOf tMo) (q_Mo_attributeCount tMo) (q_Mo_nameAt tMo) (q_Mo_nameSize tMo) (q_Mo_valueAt tMo) (q_Mo_valueSize tMo) (q_Mo_goes tMo) (q_Mo_rowSize tMo) (q_Mo_row tMo) (q_Mo_textAt tMo) (q_Mo_textSize tMo) (q_Mo_faultCount tMo) (q_Mo_codes tMo) (q_Mo_places tMo) (q_Mo_outSize tMo) (q_Mo_out tMo) (q_Mo_which tMo))) rfl d_Mo_number_119 ?_
          refine g_goto F (tgt := 63) d_Mo_number_122 (by decide) ?_
          refine g_loc [2, 3, 4, 5, 1, 0] rfl ?_
          exact ih v1 v2 v3 v4 (v5 + 1) (u_Mo_p tMo ((q_Mo_p tMo) + 1)) hf
  unfold f_Mo_number at hf
  refine g_aload_n F d_Mo_number_0 0 rfl ?_
  refine g_aload_n F d_Mo_number_1 0 rfl ?_
  refine g_get F (v := .int (q_Mo_p sMo)) in_X13 0 rfl rfl 7 (by decide) mw_1113 rfl d_Mo_number_2 ?_
  obtain ⟨x11, hx11, hf⟩ := g_bind hf
  refine g_ci F (r0 := x11) (ws' := (Wo ad cA sMo)) (fun H locs ls hP hD hS hl => g_runV F (As := [.int (q_Mo_p sMo)]) (n := 1) mw_1228 rfl rfl ⟨by decide, by decide⟩ rfl (by exact Nat.le_of_ble_eq_true rfl) mw_1225 mw_1227 mw_34 mw_85 (by decide +kernel) d_Mo_number_5 hP hD hS hl (va_recv F.2.2.2.2.2.1 hP (ci := 9) rfl (q0 := 0) rfl) (c_Mo_charAt l D cA z ad sMo (q_Mo_p sMo) hx11 H.size)) ?_
  refine g_bipush F (v := 120) d_Mo_number_8 (by decide) ?_
  refine g_icmp_eq F (tgt := 26) d_Mo_number_10 (by decide) (fun h => ?_) (fun h => ?_)
  · rw [if_pos h] at hf
    refine g_bipush F (v := 16) d_Mo_number_26 (by decide) ?_
    refine g_goto F (tgt := 33) d_Mo_number_28 (by decide) ?_
    refine g_istore_n F (L' := [(3, .int 16), (0, .ref (ad 0)), (1, .int a1), (2, .int a2)]) d_Mo_number_33 rfl (by decide) rfl ?_
    refine g_aload_n F d_Mo_number_34 1 rfl ?_
    refine g_iload_n F d_Mo_number_35 0 rfl ?_
    refine g_bipush F (v := 16) d_Mo_number_36 (by decide) ?_
    refine g_icmp_ne F (tgt := 50) d_Mo_number_38 (by decide) (fun h => absurd h (by decide)) (fun _ => ?_)
    refine g_aload_n F d_Mo_number_41 1 rfl ?_
    refine g_get F (v := .int (q_Mo_p sMo)) in_X13 0 rfl rfl 7 (by decide) mw_1113 rfl d_Mo_number_42 ?_
    refine g_iconst F (v := 1) d_Mo_number_45 (by decide) ?_
    refine g_iadd F d_Mo_number_46 ?_
    refine g_goto F (tgt := 54) d_Mo_number_47 (by decide) ?_
    refine g_put F in_X13 0 rfl rfl 7 (by decide) tyX13 tyX13_ok nmX13 mw_1113 rfl rfl rfl (Nat.le_of_ble_eq_true rfl) (ws' := (Wn ad cA (q_Mo_names sMo) (q_Mo_gives sMo) (q_Mo_turned sMo) (q_Mo_size sMo) (q_Mo_bytes sMo) (q_Mo_n sMo) (q_Mo_text sMo) ((q_Mo_p sMo) + 1) (q_Mo_ended sMo) (q_Mo_tokens sMo) (q_Mo_kinds sMo) (q_Mo_firsts sMo) (q_Mo_sizes sMo) (q_Mo_marks sMo) (q_Mo_attributes sMo) (q_Mo_manyOf sMo) (q_Mo_attributeCount sMo) (q_Mo_nameAt sMo) (q_Mo_nameSize sMo) (q_Mo_valueAt sMo) (q_Mo_valueSize sMo) (q_Mo_goes sMo) (q_Mo_rowSize sMo) (q_Mo_row sMo) (q_Mo_textAt sMo) (q_Mo_textSize sMo) (q_Mo_faultCount sMo) (q_Mo_codes sMo) (q_Mo_places sMo) (q_Mo_outSize sMo) (q_Mo_out sMo) (q_Mo_which sMo))) rfl d_Mo_number_54 ?_
    refine g_iconst F (v := 0) d_Mo_number_57 (by decide) ?_
    refine g_istore F (L' := [(4, .int 0), (3, .int 16), (0, .ref (ad 0)), (1, .int a1), (2, .int a2)]) d_Mo_number_58 (by decide) rfl ?_
    refine g_iconst F (v := 0) d_Mo_number_60 (by decide) ?_
    refine g_istore F (L' := [(5, .int 0), (4, .int 0), (3, .int 16), (0, .ref (ad 0)), (1, .int a1), (2, .int a2)]) d_Mo_number_61 (by decide) rfl ?_
    refine g_loc [3, 4, 5, 2, 1, 0] rfl ?_
    exact blk63 FU a1 a2 16 0 0 (u_Mo_p sMo ((q_Mo_p sMo) + 1)) hf
  · rw [if_neg h] at hf
    refine g_aload_n F d_Mo_number_13 0 rfl ?_
    refine g_aload_n F d_Mo_number_14 0 rfl ?_
    refine g_get F (v := .int (q_Mo_p sMo)) in_X13 0 rfl rfl 7 (by decide) mw_1113 rfl d_Mo_number_15 ?_
    obtain ⟨x12, hx12, hf⟩ := g_bind hf
    refine g_ci F (r0 := x12) (ws' := (Wo ad cA sMo)) (fun H locs ls hP hD hS hl => g_runV F (As := [.int (q_Mo_p sMo)]) (n := 1) mw_1228 rfl rfl ⟨by decide, by decide⟩ rfl (by exact Nat.le_of_ble_eq_true rfl) mw_1225 mw_1227 mw_34 mw_85 (by decide +kernel) d_Mo_number_18 hP hD hS hl (va_recv F.2.2.2.2.2.1 hP (ci := 9) rfl (q0 := 0) rfl) (c_Mo_charAt l D cA z ad sMo (q_Mo_p sMo) hx12 H.size)) ?_
    refine g_bipush F (v := 88) d_Mo_number_21 (by decide) ?_
    refine g_icmp_ne F (tgt := 31) d_Mo_number_23 (by decide) (fun h => ?_) (fun h => ?_)
    · rw [if_neg h] at hf
      refine g_bipush F (v := 10) d_Mo_number_31 (by decide) ?_
      refine g_istore_n F (L' := [(3, .int 10), (0, .ref (ad 0)), (1, .int a1), (2, .int a2)]) d_Mo_number_33 rfl (by decide) rfl ?_
      refine g_aload_n F d_Mo_number_34 1 rfl ?_
      refine g_iload_n F d_Mo_number_35 0 rfl ?_
      refine g_bipush F (v := 16) d_Mo_number_36 (by decide) ?_
      refine g_icmp_ne F (tgt := 50) d_Mo_number_38 (by decide) (fun _ => ?_) (fun h => absurd h (by decide))
      refine g_aload_n F d_Mo_number_50 1 rfl ?_
      refine g_get F (v := .int (q_Mo_p sMo)) in_X13 0 rfl rfl 7 (by decide) mw_1113 rfl d_Mo_number_51 ?_
      refine g_put F in_X13 0 rfl rfl 7 (by decide) tyX13 tyX13_ok nmX13 mw_1113 rfl rfl rfl (Nat.le_of_ble_eq_true rfl) (ws' := (Wn ad cA (q_Mo_names sMo) (q_Mo_gives sMo) (q_Mo_turned sMo) (q_Mo_size sMo) (q_Mo_bytes sMo) (q_Mo_n sMo) (q_Mo_text sMo) (q_Mo_p sMo) (q_Mo_ended sMo) (q_Mo_tokens sMo) (q_Mo_kinds sMo) (q_Mo_firsts sMo) (q_Mo_sizes sMo) (q_Mo_marks sMo) (q_Mo_attributes sMo) (q_Mo_manyOf sMo) (q_Mo_attributeCount sMo) (q_Mo_nameAt sMo) (q_Mo_nameSize sMo) (q_Mo_valueAt sMo) (q_Mo_valueSize sMo) (q_Mo_goes sMo) (q_Mo_rowSize sMo) (q_Mo_row sMo) (q_Mo_textAt sMo) (q_Mo_textSize sMo) (q_Mo_faultCount sMo) (q_Mo_codes sMo) (q_Mo_places sMo) (q_Mo_outSize sMo) (q_Mo_out sMo) (q_Mo_which sMo))) rfl d_Mo_number_54 ?_
      refine g_iconst F (v := 0) d_Mo_number_57 (by decide) ?_
      refine g_istore F (L' := [(4, .int 0), (3, .int 10), (0, .ref (ad 0)), (1, .int a1), (2, .int a2)]) d_Mo_number_58 (by decide) rfl ?_
      refine g_iconst F (v := 0) d_Mo_number_60 (by decide) ?_
      refine g_istore F (L' := [(5, .int 0), (4, .int 0), (3, .int 10), (0, .ref (ad 0)), (1, .int a1), (2, .int a2)]) d_Mo_number_61 (by decide) rfl ?_
      refine g_loc [3, 4, 5, 2, 1, 0] rfl ?_
      exact blk63 FU a1 a2 10 0 0 (u_Mo_p sMo (q_Mo_p sMo)) hf
    · rw [if_pos h] at hf
      refine g_bipush F (v := 16) d_Mo_number_26 (by decide) ?_
      refine g_goto F (tgt := 33) d_Mo_number_28 (by decide) ?_
      refine g_istore_n F (L' := [(3, .int 16), (0, .ref (ad 0)), (1, .int a1), (2, .int a2)]) d_Mo_number_33 rfl (by decide) rfl ?_
      refine g_aload_n F d_Mo_number_34 1 rfl ?_
      refine g_iload_n F d_Mo_number_35 0 rfl ?_
      refine g_bipush F (v := 16) d_Mo_number_36 (by decide) ?_
      refine g_icmp_ne F (tgt := 50) d_Mo_number_38 (by decide) (fun h => absurd h (by decide)) (fun _ => ?_)
      refine g_aload_n F d_Mo_number_41 1 rfl ?_
      refine g_get F (v := .int (q_Mo_p sMo)) in_X13 0 rfl rfl 7 (by decide) mw_1113 rfl d_Mo_number_42 ?_
      refine g_iconst F (v := 1) d_Mo_number_45 (by decide) ?_
      refine g_iadd F d_Mo_number_46 ?_
      refine g_goto F (tgt := 54) d_Mo_number_47 (by decide) ?_
      refine g_put F in_X13 0 rfl rfl 7 (by decide) tyX13 tyX13_ok nmX13 mw_1113 rfl rfl rfl (Nat.le_of_ble_eq_true rfl) (ws' := (Wn ad cA (q_Mo_names sMo) (q_Mo_gives sMo) (q_Mo_turned sMo) (q_Mo_size sMo) (q_Mo_bytes sMo) (q_Mo_n sMo) (q_Mo_text sMo) ((q_Mo_p sMo) + 1) (q_Mo_ended sMo) (q_Mo_tokens sMo) (q_Mo_kinds sMo) (q_Mo_firsts sMo) (q_Mo_sizes sMo) (q_Mo_marks sMo) (q_Mo_attributes sMo) (q_Mo_manyOf sMo) (q_Mo_attributeCount sMo) (q_Mo_nameAt sMo) (q_Mo_nameSize sMo) (q_Mo_valueAt sMo) (q_Mo_valueSize sMo) (q_Mo_goes sMo) (q_Mo_rowSize sMo) (q_Mo_row sMo) (q_Mo_textAt sMo) (q_Mo_textSize sMo) (q_Mo_faultCount sMo) (q_Mo_codes sMo) (q_Mo_places sMo) (q_Mo_outSize sMo) (q_Mo_out sMo) (q_Mo_which sMo))) rfl d_Mo_number_54 ?_
      refine g_iconst F (v := 0) d_Mo_number_57 (by decide) ?_
      refine g_istore F (L' := [(4, .int 0), (3, .int 16), (0, .ref (ad 0)), (1, .int a1), (2, .int a2)]) d_Mo_number_58 (by decide) rfl ?_
      refine g_iconst F (v := 0) d_Mo_number_60 (by decide) ?_
      refine g_istore F (L' := [(5, .int 0), (4, .int 0), (3, .int 16), (0, .ref (ad 0)), (1, .int a1), (2, .int a2)]) d_Mo_number_61 (by decide) rfl ?_
      refine g_loc [3, 4, 5, 2, 1, 0] rfl ?_
      exact blk63 FU a1 a2 16 0 0 (u_Mo_p sMo ((q_Mo_p sMo) + 1)) hf
