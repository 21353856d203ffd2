set_option maxHeartbeats 4000000 in
set_option maxRecDepth 100000 in
theorem c_Mo_mark (l : Launch) (D : va_G) (cA : Nat → ClassId) (z : gZ) (ad : Nat → Nat) (sMo : SMo) {x : SMo} (hf : f_Mo_mark sMo = some x) (sz : Nat) : Met l y_Mo_mark (.code y_Mo_mark b_Mo_mark 1 none :: lw_g) { frames := 3, cells := 0, slots := 0, locals := 73 } (gP D (gT cA) z [.ref (ad 0)] (Wo ad cA sMo) sz) (gQv D (gT cA) (va_A (Wo ad cA sMo) sz) (Wo ad cA x)) 0 0 (va_A (Wo ad cA sMo) sz) := by
  refine g_met (by decide) (Nat.le_of_ble_eq_true rfl) rfl ?_
  intro p e s m args below meth c F hr hlk
  unfold f_Mo_mark at hf
  refine g_aload_n F d_Mo_mark_0 0 rfl ?_
  refine g_aload_n F d_Mo_mark_1 0 rfl ?_
  refine g_get F (v := .int (q_Mo_p sMo)) in_X13 0 rfl rfl 7 (by decide) mw_1113 rfl d_Mo_mark_2 ?_
  obtain ⟨x1, hx1, hf⟩ := g_bind hf
  refine g_ci F (r0 := x1) (ws' := (Wo ad cA sMo)) (fun H locs ls hP hD hS hl => g_runV F (As := [.int (q_Mo_p sMo)]) (n := 1) mw_1228 rfl rfl ⟨by decide, by decide⟩ rfl (by exact Nat.le_of_ble_eq_true rfl) mw_1225 mw_1227 mw_34 mw_85 (by decide +kernel) d_Mo_mark_5 hP hD hS hl (va_recv F.2.2.2.2.2.1 hP (ci := 9) rfl (q0 := 0) rfl) (c_Mo_charAt l D cA z ad sMo (q_Mo_p sMo) hx1 H.size)) ?_
  refine g_bipush F (v := 45) d_Mo_mark_8 (by decide) ?_
  refine g_icmp_ne F (tgt := 50) d_Mo_mark_10 (by decide) (fun h => ?_) (fun h => ?_)
  · rw [if_neg h] at hf
    refine g_aload_n F d_Mo_mark_50 0 rfl ?_
    obtain ⟨x2, hx2, hf⟩ := g_bind hf
    refine g_ci F (r0 := x2) (ws' := (Wo ad cA sMo)) (fun H locs ls hP hD hS hl => g_runV F (As := []) (n := 0) mw_1324 rfl rfl ⟨by decide, by decide⟩ rfl (by exact Nat.le_of_ble_eq_true rfl) mw_1321 mw_1323 mw_52 mw_85 (by decide +kernel) d_Mo_mark_51 hP hD hS hl (va_recv F.2.2.2.2.2.1 hP (ci := 9) rfl (q0 := 0) rfl) (c_Mo_isDoctype l D cA z ad sMo hx2 H.size)) ?_
    refine g_if_eq F (tgt := 75) d_Mo_mark_54 (by decide) (fun h => ?_) (fun h => ?_)
    · rw [if_pos h] at hf
      refine g_aload_n F d_Mo_mark_75 0 rfl ?_
      refine g_bipush F (v := 16) d_Mo_mark_76 (by decide) ?_
      refine g_aload_n F d_Mo_mark_78 0 rfl ?_
      refine g_get F (v := .int (q_Mo_p sMo)) in_X13 0 rfl rfl 7 (by decide) mw_1113 rfl d_Mo_mark_79 ?_
      obtain ⟨x3, hx3, hf⟩ := g_bind hf
      refine g_cv F (ws' := (Wo ad cA x3)) (fun H locs ls hP hD hS hl => g_runV F (As := [.int 16, .int (q_Mo_p sMo)]) (n := 2) mw_1247 rfl rfl ⟨by decide, by decide⟩ rfl (by exact Nat.le_of_ble_eq_true rfl) mw_1244 mw_1246 mw_37 mw_85 (by decide +kernel) d_Mo_mark_82 hP hD hS hl (va_recv F.2.2.2.2.2.1 hP (ci := 9) rfl (q0 := 0) rfl) (c_Mo_wrong l D cA z ad sMo 16 (q_Mo_p sMo) hx3 H.size)) ?_
      refine g_aload_n F d_Mo_mark_85 0 rfl ?_
      refine g_iconst F (v := 3) d_Mo_mark_86 (by decide) ?_
      obtain ⟨x4, hx4, hf⟩ := g_bind hf
      refine g_cv F (ws' := (Wo ad cA x4)) (fun H locs ls hP hD hS hl => g_runV F (As := [.int 3]) (n := 1) mw_1304 rfl rfl ⟨by decide, by decide⟩ rfl (by exact Nat.le_of_ble_eq_true rfl) mw_1301 mw_1303 mw_47 mw_85 (by decide +kernel) d_Mo_mark_87 hP hD hS hl (va_recv F.2.2.2.2.2.1 hP (ci := 9) rfl (q0 := 0) rfl) (c_Mo_begin l D cA z ad x3 3 hx4 H.size)) ?_
      refine g_aload_n F d_Mo_mark_90 0 rfl ?_
      obtain ⟨x5, hx5, hf⟩ := g_bind hf
      refine g_cv F (ws' := (Wo ad cA x5)) (fun H locs ls hP hD hS hl => g_runV F (As := []) (n := 0) mw_1344 rfl rfl ⟨by decide, by decide⟩ rfl (by exact Nat.le_of_ble_eq_true rfl) mw_1341 mw_1343 mw_56 mw_85 (by decide +kernel) d_Mo_mark_91 hP hD hS hl (va_recv F.2.2.2.2.2.1 hP (ci := 9) rfl (q0 := 0) rfl) (c_Mo_bogus l D cA z ad x4 hx5 H.size)) ?_
      cases hf
      exact g_vret F hr hlk rfl rfl d_Mo_mark_94
    · rw [if_neg h] at hf
      refine g_aload_n F d_Mo_mark_57 0 rfl ?_
      refine g_aload_n F d_Mo_mark_58 0 rfl ?_
      refine g_get F (v := .int (q_Mo_p sMo)) in_X13 0 rfl rfl 7 (by decide) mw_1113 rfl d_Mo_mark_59 ?_
      refine g_bipush F (v := 7) d_Mo_mark_62 (by decide) ?_
      refine g_iadd F d_Mo_mark_64 ?_
      refine g_put F in_X13 0 rfl rfl 7 (by decide) tyX13 tyX13_ok nmX13 mw_1113 rfl rfl rfl (Nat.le_of_ble_eq_true rfl) (ws' := (Wn ad cA (q_Mo_names sMo) (q_Mo_gives sMo) (q_Mo_turned sMo) (q_Mo_size sMo) (q_Mo_bytes sMo) (q_Mo_n sMo) (q_Mo_text sMo) ((q_Mo_p sMo) + 7) (q_Mo_ended sMo) (q_Mo_tokens sMo) (q_Mo_kinds sMo) (q_Mo_firsts sMo) (q_Mo_sizes sMo) (q_Mo_marks sMo) (q_Mo_attributes sMo) (q_Mo_manyOf sMo) (q_Mo_attributeCount sMo) (q_Mo_nameAt sMo) (q_Mo_nameSize sMo) (q_Mo_valueAt sMo) (q_Mo_valueSize sMo) (q_Mo_goes sMo) (q_Mo_rowSize sMo) (q_Mo_row sMo) (q_Mo_textAt sMo) (q_Mo_textSize sMo) (q_Mo_faultCount sMo) (q_Mo_codes sMo) (q_Mo_places sMo) (q_Mo_outSize sMo) (q_Mo_out sMo) (q_Mo_which sMo))) rfl d_Mo_mark_65 ?_
      refine g_aload_n F d_Mo_mark_68 0 rfl ?_
      obtain ⟨x6, hx6, hf⟩ := g_bind hf
      refine g_cv F (ws' := (Wo ad cA x6)) (fun H locs ls hP hD hS hl => g_runV F (As := []) (n := 0) mw_1332 rfl rfl ⟨by decide, by decide⟩ rfl (by exact Nat.le_of_ble_eq_true rfl) mw_1329 mw_1331 mw_53 mw_85 (by decide +kernel) d_Mo_mark_69 hP hD hS hl (va_recv F.2.2.2.2.2.1 hP (ci := 9) rfl (q0 := 0) rfl) (c_Mo_doctype l D cA z ad (u_Mo_p sMo ((q_Mo_p sMo) + 7)) hx6 H.size)) ?_
      refine g_goto F (tgt := 94) d_Mo_mark_72 (by decide) ?_
      cases hf
      exact g_vret F hr hlk rfl rfl d_Mo_mark_94
  · rw [if_pos h] at hf
    refine g_aload_n F d_Mo_mark_13 0 rfl ?_
    refine g_aload_n F d_Mo_mark_14 0 rfl ?_
    refine g_get F (v := .int (q_Mo_p sMo)) in_X13 0 rfl rfl 7 (by decide) mw_1113 rfl d_Mo_mark_15 ?_
    refine g_iconst F (v := 1) d_Mo_mark_18 (by decide) ?_
    refine g_iadd F d_Mo_mark_19 ?_
    obtain ⟨x7, hx7, hf⟩ := g_bind hf
    refine g_ci F (r0 := x7) (ws' := (Wo ad cA sMo)) (fun H locs ls hP hD hS hl => g_runV F (As := [.int ((q_Mo_p sMo) + 1)]) (n := 1) mw_1228 rfl rfl ⟨by decide, by decide⟩ rfl (by exact Nat.le_of_ble_eq_true rfl) mw_1225 mw_1227 mw_34 mw_85 (by decide +kernel) d_Mo_mark_20 hP hD hS hl (va_recv F.2.2.2.2.2.1 hP (ci := 9) rfl (q0 := 0) rfl) (c_Mo_charAt l D cA z ad sMo ((q_Mo_p sMo) + 1) hx7 H.size)) ?_
    refine g_bipush F (v := 45) d_Mo_mark_23 (by decide) ?_
    refine g_icmp_ne F (tgt := 50) d_Mo_mark_25 (by decide) (fun h => ?_) (fun h => ?_)
    · rw [if_neg h] at hf
      refine g_aload_n F d_Mo_mark_50 0 rfl ?_
      obtain ⟨x8, hx8, hf⟩ := g_bind hf
      refine g_ci F (r0 := x8) (ws' := (Wo ad cA sMo)) (fun H locs ls hP hD hS hl => g_runV F (As := []) (n := 0) mw_1324 rfl rfl ⟨by decide, by decide⟩ rfl (by exact Nat.le_of_ble_eq_true rfl) mw_1321 mw_1323 mw_52 mw_85 (by decide +kernel) d_Mo_mark_51 hP hD hS hl (va_recv F.2.2.2.2.2.1 hP (ci := 9) rfl (q0 := 0) rfl) (c_Mo_isDoctype l D cA z ad sMo hx8 H.size)) ?_
      refine g_if_eq F (tgt := 75) d_Mo_mark_54 (by decide) (fun h => ?_) (fun h => ?_)
      · rw [if_pos h] at hf
        refine g_aload_n F d_Mo_mark_75 0 rfl ?_
        refine g_bipush F (v := 16) d_Mo_mark_76 (by decide) ?_
        refine g_aload_n F d_Mo_mark_78 0 rfl ?_
        refine g_get F (v := .int (q_Mo_p sMo)) in_X13 0 rfl rfl 7 (by decide) mw_1113 rfl d_Mo_mark_79 ?_
        obtain ⟨x9, hx9, hf⟩ := g_bind hf
        refine g_cv F (ws' := (Wo ad cA x9)) (fun H locs ls hP hD hS hl => g_runV F (As := [.int 16, .int (q_Mo_p sMo)]) (n := 2) mw_1247 rfl rfl ⟨by decide, by decide⟩ rfl (by exact Nat.le_of_ble_eq_true rfl) mw_1244 mw_1246 mw_37 mw_85 (by decide +kernel) d_Mo_mark_82 hP hD hS hl (va_recv F.2.2.2.2.2.1 hP (ci := 9) rfl (q0 := 0) rfl) (c_Mo_wrong l D cA z ad sMo 16 (q_Mo_p sMo) hx9 H.size)) ?_
        refine g_aload_n F d_Mo_mark_85 0 rfl ?_
        refine g_iconst F (v := 3) d_Mo_mark_86 (by decide) ?_
        obtain ⟨x10, hx10, hf⟩ := g_bind hf
        refine g_cv F (ws' := (Wo ad cA x10)) (fun H locs ls hP hD hS hl => g_runV F (As := [.int 3]) (n := 1) mw_1304 rfl rfl ⟨by decide, by decide⟩ rfl (by exact Nat.le_of_ble_eq_true rfl) mw_1301 mw_1303 mw_47 mw_85 (by decide +kernel) d_Mo_mark_87 hP hD hS hl (va_recv F.2.2.2.2.2.1 hP (ci := 9) rfl (q0 := 0) rfl) (c_Mo_begin l D cA z ad x9 3 hx10 H.size)) ?_
        refine g_aload_n F d_Mo_mark_90 0 rfl ?_
        obtain ⟨x11, hx11, hf⟩ := g_bind hf
        refine g_cv F (ws' := (Wo ad cA x11)) (fun H locs ls hP hD hS hl => g_runV F (As := []) (n := 0) mw_1344 rfl rfl ⟨by decide, by decide⟩ rfl (by exact Nat.le_of_ble_eq_true rfl) mw_1341 mw_1343 mw_56 mw_85 (by decide +kernel) d_Mo_mark_91 hP hD hS hl (va_recv F.2.2.2.2.2.1 hP (ci := 9) rfl (q0 := 0) rfl) (c_Mo_bogus l D cA z ad x10 hx11 H.size)) ?_
        cases hf
        exact g_vret F hr hlk rfl rfl d_Mo_mark_94
      · rw [if_neg h] at hf
        refine g_aload_n F d_Mo_mark_57 0 rfl ?_
        refine g_aload_n F d_Mo_mark_58 0 rfl ?_
        refine g_get F (v := .int (q_Mo_p sMo)) in_X13 0 rfl rfl 7 (by decide) mw_1113 rfl d_Mo_mark_59 ?_
        refine g_bipush F (v := 7) d_Mo_mark_62 (by decide) ?_
        refine g_iadd F d_Mo_mark_64 ?_
        refine g_put F in_X13 0 rfl rfl 7 (by decide) tyX13 tyX13_ok nmX13 mw_1113 rfl rfl rfl (Nat.le_of_ble_eq_true rfl) (ws' := (Wn ad cA (q_Mo_names sMo) (q_Mo_gives sMo) (q_Mo_turned sMo) (q_Mo_size sMo) (q_Mo_bytes sMo) (q_Mo_n sMo) (q_Mo_text sMo) ((q_Mo_p sMo) + 7) (q_Mo_ended sMo) (q_Mo_tokens sMo) (q_Mo_kinds sMo) (q_Mo_firsts sMo) (q_Mo_sizes sMo) (q_Mo_marks sMo) (q_Mo_attributes sMo) (q_Mo_manyOf sMo) (q_Mo_attributeCount sMo) (q_Mo_nameAt sMo) (q_Mo_nameSize sMo) (q_Mo_valueAt sMo) (q_Mo_valueSize sMo) (q_Mo_goes sMo) (q_Mo_rowSize sMo) (q_Mo_row sMo) (q_Mo_textAt sMo) (q_Mo_textSize sMo) (q_Mo_faultCount sMo) (q_Mo_codes sMo) (q_Mo_places sMo) (q_Mo_outSize sMo) (q_Mo_out sMo) (q_Mo_which sMo))) rfl d_Mo_mark_65 ?_
        refine g_aload_n F d_Mo_mark_68 0 rfl ?_
        obtain ⟨x12, hx12, hf⟩ := g_bind hf
        refine g_cv F (ws' := (Wo ad cA x12)) (fun H locs ls hP hD hS hl => g_runV F (As := []) (n := 0) mw_1332 rfl rfl ⟨by decide, by decide⟩ rfl (by exact Nat.le_of_ble_eq_true rfl) mw_1329 mw_1331 mw_53 mw_85 (by decide +kernel) d_Mo_mark_69 hP hD hS hl (va_recv F.2.2.2.2.2.1 hP (ci := 9) rfl (q0 := 0) rfl) (c_Mo_doctype l D cA z ad (u_Mo_p sMo ((q_Mo_p sMo) + 7)) hx12 H.size)) ?_
        refine g_goto F (tgt := 94) d_Mo_mark_72 (by decide) ?_
        cases hf
        exact g_vret F hr hlk rfl rfl d_Mo_mark_94
    · rw [if_pos h] at hf
      refine g_aload_n F d_Mo_mark_28 0 rfl ?_
      refine g_aload_n F d_Mo_mark_29 0 rfl ?_
      refine g_get F (v := .int (q_Mo_p sMo)) in_X13 0 rfl rfl 7 (by decide) mw_1113 rfl d_Mo_mark_30 ?_
      refine g_iconst F (v := 2) d_Mo_mark_33 (by decide) ?_
      refine g_iadd F d_Mo_mark_34 ?_
      refine g_put F in_X13 0 rfl rfl 7 (by decide) tyX13 tyX13_ok nmX13 mw_1113 rfl rfl rfl (Nat.le_of_ble_eq_true rfl) (ws' := (Wn ad cA (q_Mo_names sMo) (q_Mo_gives sMo) (q_Mo_turned sMo) (q_Mo_size sMo) (q_Mo_bytes sMo) (q_Mo_n sMo) (q_Mo_text sMo) ((q_Mo_p sMo) + 2) (q_Mo_ended sMo) (q_Mo_tokens sMo) (q_Mo_kinds sMo) (q_Mo_firsts sMo) (q_Mo_sizes sMo) (q_Mo_marks sMo) (q_Mo_attributes sMo) (q_Mo_manyOf sMo) (q_Mo_attributeCount sMo) (q_Mo_nameAt sMo) (q_Mo_nameSize sMo) (q_Mo_valueAt sMo) (q_Mo_valueSize sMo) (q_Mo_goes sMo) (q_Mo_rowSize sMo) (q_Mo_row sMo) (q_Mo_textAt sMo) (q_Mo_textSize sMo) (q_Mo_faultCount sMo) (q_Mo_codes sMo) (q_Mo_places sMo) (q_Mo_outSize sMo) (q_Mo_out sMo) (q_Mo_which sMo))) rfl d_Mo_mark_35 ?_
      refine g_aload_n F d_Mo_mark_38 0 rfl ?_
      refine g_iconst F (v := 3) d_Mo_mark_39 (by decide) ?_
      obtain ⟨x13, hx13, hf⟩ := g_bind hf
      refine g_cv F (ws' := (Wo ad cA x13)) (fun H locs ls hP hD hS hl => g_runV F (As := [.int 3]) (n := 1) mw_1304 rfl rfl ⟨by decide, by decide⟩ rfl (by exact Nat.le_of_ble_eq_true rfl) mw_1301 mw_1303 mw_47 mw_85 (by decide +kernel) d_Mo_mark_40 hP hD hS hl (va_recv F.2.2.2.2.2.1 hP (ci := 9) rfl (q0 := 0) rfl) (c_Mo_begin l D cA z ad (u_Mo_p sMo ((q_Mo_p sMo) + 2)) 3 hx13 H.size)) ?_
      refine g_aload_n F d_Mo_mark_43 0 rfl ?_
      obtain ⟨x14, hx14, hf⟩ := g_bind hf
      refine g_cv F (ws' := (Wo ad cA x14)) (fun H locs ls hP hD hS hl => g_runV F (As := []) (n := 0) mw_1312 rfl rfl ⟨by decide, by decide⟩ rfl (by exact Nat.le_of_ble_eq_true rfl) mw_1309 mw_1311 mw_49 mw_85 (by decide +kernel) d_Mo_mark_44 hP hD hS hl (va_recv F.2.2.2.2.2.1 hP (ci := 9) rfl (q0 := 0) rfl) (c_Mo_comment l D cA z ad x13 hx14 H.size)) ?_
      refine g_goto F (tgt := 94) d_Mo_mark_47 (by decide) ?_
      cases hf
      exact g_vret F hr hlk rfl rfl d_Mo_mark_94
set_option maxHeartbeats 4000000 in
set_option maxRecDepth 100000 in
theorem c_Mo_drop (l : Launch) (D : va_G) (cA : Nat → ClassId) (z : gZ) (ad : Nat → Nat) (sMo : SMo) {x : SMo} (hf : f_Mo_drop sMo = some x) (sz : Nat) : Met l y_Mo_drop (.code y_Mo_drop b_Mo_drop 1 none :: lw_g) { frames := 1, cells := 0, slots := 0, locals := 22 } (gP D (gT cA) z [.ref (ad 0)] (Wo ad cA sMo) sz) (gQv D (gT cA) (va_A (Wo ad cA sMo) sz) (Wo ad cA x)) 0 0 (va_A (Wo ad cA sMo) sz) := by
  refine g_met (by decide) (Nat.le_of_ble_eq_true rfl) rfl ?_
  intro p e s m args below meth c F hr hlk
  unfold f_Mo_drop at hf
  refine g_aload_n F d_Mo_drop_0 0 rfl ?_
  refine g_bipush F (v := 6) d_Mo_drop_1 (by decide) ?_
  refine g_aload_n F d_Mo_drop_3 0 rfl ?_
  refine g_get F (v := .int (q_Mo_p sMo)) in_X13 0 rfl rfl 7 (by decide) mw_1113 rfl d_Mo_drop_4 ?_
  obtain ⟨x1, hx1, hf⟩ := g_bind hf
  refine g_cv F (ws' := (Wo ad cA x1)) (fun H locs ls hP hD hS hl => g_runV F (As := [.int 6, .int (q_Mo_p sMo)]) (n := 2) mw_1247 rfl rfl ⟨by decide, by decide⟩ rfl (by exact Nat.le_of_ble_eq_true rfl) mw_1244 mw_1246 mw_37 mw_85 (by decide +kernel) d_Mo_drop_7 hP hD hS hl (va_recv F.2.2.2.2.2.1 hP (ci := 9) rfl (q0 := 0) rfl) (c_Mo_wrong l D cA z ad sMo 6 (q_Mo_p sMo) hx1 H.size)) ?_
  refine g_aload_n F d_Mo_drop_10 0 rfl ?_
  refine g_iconst F (v := 1) d_Mo_drop_11 (by decide) ?_
  refine g_put F in_X13 0 rfl rfl 8 (by decide) tyX13 tyX13_ok nmX13 mw_1114 rfl rfl rfl (Nat.le_of_ble_eq_true rfl) (ws' := (Wn ad cA (q_Mo_names x1) (q_Mo_gives x1) (q_Mo_turned x1) (q_Mo_size x1) (q_Mo_bytes x1) (q_Mo_n x1) (q_Mo_text x1) (q_Mo_p x1) 1 (q_Mo_tokens x1) (q_Mo_kinds x1) (q_Mo_firsts x1) (q_Mo_sizes x1) (q_Mo_marks x1) (q_Mo_attributes x1) (q_Mo_manyOf x1) (q_Mo_attributeCount x1) (q_Mo_nameAt x1) (q_Mo_nameSize x1) (q_Mo_valueAt x1) (q_Mo_valueSize x1) (q_Mo_goes x1) (q_Mo_rowSize x1) (q_Mo_row x1) (q_Mo_textAt x1) (q_Mo_textSize x1) (q_Mo_faultCount x1) (q_Mo_codes x1) (q_Mo_places x1) (q_Mo_outSize x1) (q_Mo_out x1) (q_Mo_which x1))) rfl d_Mo_drop_12 ?_
  cases hf
  exact g_vret F hr hlk rfl rfl d_Mo_drop_15
set_option maxHeartbeats 4000000 in
set_option maxRecDepth 100000 in
theorem c_Mo_finish (l : Launch) (D : va_G) (cA : Nat → ClassId) (z : gZ) (ad : Nat → Nat) (sMo : SMo) {x : SMo} (hf : f_Mo_finish sMo = some x) (sz : Nat) : Met l y_Mo_finish (.code y_Mo_finish b_Mo_finish 4 none :: lw_g) { frames := 1, cells := 0, slots := 0, locals := 22 } (gP D (gT cA) z [.ref (ad 0)] (Wo ad cA sMo) sz) (gQv D (gT cA) (va_A (Wo ad cA sMo) sz) (Wo ad cA x)) 0 0 (va_A (Wo ad cA sMo) sz) := by
  refine g_met (by decide) (Nat.le_of_ble_eq_true rfl) rfl ?_
  intro p e s m args below meth c F hr hlk
  have blk14 : ∀ (n : Nat) (v1 : Int32) (v2 : Int32) (v3 : Int32) (tMo : SMo), f_Mo_finish_14 n v1 v2 v3 tMo = some x → GW p l e { frames := 1, cells := 0, slots := 0, locals := 22 } s m args below meth c (gQv D (gT cA) (va_A (Wo ad cA sMo) sz) (Wo ad cA x)) D (va_A (Wo ad cA sMo) sz) 4 (Wo ad cA tMo) 14 [(0, .ref (ad 0)), (1, .int v1), (2, .int v2), (3, .int v3)] [] := by
    intro n
    induction n with
    | zero => intro _ _ _ _ hf; cases hf
    | succ n ih =>
      intro v1 v2 v3 tMo hf
      rw [f_Mo_finish_14] at hf
      refine g_iload_n F d_Mo_finish_14 3 rfl ?_
      refine g_aload_n F d_Mo_finish_15 0 rfl ?_
      refine g_get F (v := .int (q_Mo_attributeCount tMo)) in_X13 0 rfl rfl 16 (by decide) mw_1122 rfl d_Mo_finish_16 ?_
      refine g_icmp_ge F (tgt := 88) d_Mo_finish_19 (by decide) (fun h => ?_) (fun h => ?_)
      · rw [if_pos h] at hf
        refine g_aload_n F d_Mo_finish_88 0 rfl ?_
        refine g_iload_n F d_Mo_finish_89 2 rfl ?_
        refine g_put F in_X13 0 rfl rfl 16 (by decide) tyX13 tyX13_ok nmX13 mw_1122 rfl rfl rfl (Nat.le_of_ble_eq_true rfl) (ws' := (Wn ad cA (q_Mo_names tMo) (q_Mo_gives tMo) (q_Mo_turned tMo) (q_Mo_size tMo) (q_Mo_bytes tMo) (q_Mo_n tMo) (q_Mo_text tMo) (q_Mo_p tMo) (q_Mo_ended tMo) (q_Mo_tokens tMo) (q_Mo_kinds tMo) (q_Mo_firsts tMo) (q_Mo_sizes tMo) (q_Mo_marks tMo) (q_Mo_attributes tMo) (q_Mo_manyOf tMo) v2 (q_Mo_nameAt tMo) (q_Mo_nameSize tMo) (q_Mo_valueAt tMo) (q_Mo_valueSize tMo) (q_Mo_goes tMo) (q_Mo_rowSize tMo) (q_Mo_row tMo) (q_Mo_textAt tMo) (q_Mo_textSize tMo) (q_Mo_faultCount tMo) (q_Mo_codes tMo) (q_Mo_places tMo) (q_Mo_outSize tMo) (q_Mo_out tMo) (q_Mo_which tMo))) rfl d_Mo_finish_90 ?_
        refine g_aload_n F d_Mo_finish_93 0 rfl ?_
        refine g_get F (v := .ref (ad 11)) in_X13 0 rfl rfl 15 (by decide) mw_1121 rfl d_Mo_finish_94 ?_
        refine g_aload_n F d_Mo_finish_97 0 rfl ?_
        refine g_get F (v := .int (q_Mo_tokens tMo)) in_X13 0 rfl rfl 9 (by decide) mw_1115 rfl d_Mo_finish_98 ?_
        refine g_iload_n F d_Mo_finish_101 2 rfl ?_
        refine g_iload_n F d_Mo_finish_102 1 rfl ?_
        refine g_isub F d_Mo_finish_103 ?_
        obtain ⟨k1, hf⟩ := g_chk hf
        refine g_iast F (f := (q_Mo_manyOf tMo)) 11 0 rfl rfl k1 (ws' := (Wn ad cA (q_Mo_names tMo) (q_Mo_gives tMo) (q_Mo_turned tMo) (q_Mo_size tMo) (q_Mo_bytes tMo) (q_Mo_n tMo) (q_Mo_text tMo) (q_Mo_p tMo) (q_Mo_ended tMo) (q_Mo_tokens tMo) (q_Mo_kinds tMo) (q_Mo_firsts tMo) (q_Mo_sizes tMo) (q_Mo_marks tMo) (q_Mo_attributes tMo) (upd (q_Mo_manyOf tMo) ((q_Mo_tokens tMo) : Int32).toNatClampNeg (v2 - v1)) v2 (q_Mo_nameAt tMo) (q_Mo_nameSize tMo) (q_Mo_valueAt tMo) (q_Mo_valueSize tMo) (q_Mo_goes tMo) (q_Mo_rowSize tMo) (q_Mo_row tMo) (q_Mo_textAt tMo) (q_Mo_textSize tMo) (q_Mo_faultCount tMo) (q_Mo_codes tMo) (q_Mo_places tMo) (q_Mo_outSize tMo) (q_Mo_out tMo) (q_Mo_which tMo))) rfl d_Mo_finish_104 ?_
        refine g_aload_n F d_Mo_finish_105 0 rfl ?_
        refine g_get F (v := .ref (ad 6)) in_X13 0 rfl rfl 10 (by decide) mw_1116 rfl d_Mo_finish_106 ?_
        refine g_aload_n F d_Mo_finish_109 0 rfl ?_
        refine g_get F (v := .int (q_Mo_tokens tMo)) in_X13 0 rfl rfl 9 (by decide) mw_1115 rfl d_Mo_finish_110 ?_
        obtain ⟨k2, hf⟩ := g_chk hf
        refine g_iald F (f := (q_Mo_kinds tMo)) 6 0 rfl rfl k2 d_Mo_finish_113 ?_
        refine g_iconst F (v := 2) d_Mo_finish_114 (by decide) ?_
        refine g_icmp_ne F (tgt := 180) d_Mo_finish_115 (by decide) (fun h => ?_) (fun h => ?_)
        · rw [if_neg h] at hf
          refine g_aload_n F d_Mo_finish_180 0 rfl ?_
          refine g_dup F d_Mo_finish_181 rfl ?_
          refine g_get F (v := .int (q_Mo_tokens tMo)) in_X13 0 rfl rfl 9 (by decide) mw_1115 rfl d_Mo_finish_182 ?_
          refine g_iconst F (v := 1) d_Mo_finish_185 (by decide) ?_
          refine g_iadd F d_Mo_finish_186 ?_
          refine g_put F in_X13 0 rfl rfl 9 (by decide) tyX13 tyX13_ok nmX13 mw_1115 rfl rfl rfl (Nat.le_of_ble_eq_true rfl) (ws' := (Wn ad cA (q_Mo_names tMo) (q_Mo_gives tMo) (q_Mo_turned tMo) (q_Mo_size tMo) (q_Mo_bytes tMo) (q_Mo_n tMo) (q_Mo_text tMo) (q_Mo_p tMo) (q_Mo_ended tMo) ((q_Mo_tokens tMo) + 1) (q_Mo_kinds tMo) (q_Mo_firsts tMo) (q_Mo_sizes tMo) (q_Mo_marks tMo) (q_Mo_attributes tMo) (upd (q_Mo_manyOf tMo) ((q_Mo_tokens tMo) : Int32).toNatClampNeg (v2 - v1)) v2 (q_Mo_nameAt tMo) (q_Mo_nameSize tMo) (q_Mo_valueAt tMo) (q_Mo_valueSize tMo) (q_Mo_goes tMo) (q_Mo_rowSize tMo) (q_Mo_row tMo) (q_Mo_textAt tMo) (q_Mo_textSize tMo) (q_Mo_faultCount tMo) (q_Mo_codes tMo) (q_Mo_places tMo) (q_Mo_outSize tMo) (q_Mo_out tMo) (q_Mo_which tMo))) rfl d_Mo_finish_187 ?_
          refine g_aload_n F d_Mo_finish_190 0 rfl ?_
          refine g_dup F d_Mo_finish_191 rfl ?_
          refine g_get F (v := .int (q_Mo_p tMo)) in_X13 0 rfl rfl 7 (by decide) mw_1113 rfl d_Mo_finish_192 ?_
          refine g_iconst F (v := 1) d_Mo_finish_195 (by decide) ?_
          refine g_iadd F d_Mo_finish_196 ?_
          refine g_put F in_X13 0 rfl rfl 7 (by decide) tyX13 tyX13_ok nmX13 mw_1113 rfl rfl rfl (Nat.le_of_ble_eq_true rfl) (ws' := (Wn ad cA (q_Mo_names tMo) (q_Mo_gives tMo) (q_Mo_turned tMo) (q_Mo_size tMo) (q_Mo_bytes tMo) (q_Mo_n tMo) (q_Mo_text tMo) ((q_Mo_p tMo) + 1) (q_Mo_ended tMo) ((q_Mo_tokens tMo) + 1) (q_Mo_kinds tMo) (q_Mo_firsts tMo) (q_Mo_sizes tMo) (q_Mo_marks tMo) (q_Mo_attributes tMo) (upd (q_Mo_manyOf tMo) ((q_Mo_tokens tMo) : Int32).toNatClampNeg (v2 - v1)) v2 (q_Mo_nameAt tMo) (q_Mo_nameSize tMo) (q_Mo_valueAt tMo) (q_Mo_valueSize tMo) (q_Mo_goes tMo) (q_Mo_rowSize tMo) (q_Mo_row tMo) (q_Mo_textAt tMo) (q_Mo_textSize tMo) (q_Mo_faultCount tMo) (q_Mo_codes tMo) (q_Mo_places tMo) (q_Mo_outSize tMo) (q_Mo_out tMo) (q_Mo_which tMo))) rfl d_Mo_finish_197 ?_
          cases hf
          exact g_vret F hr hlk rfl rfl d_Mo_finish_200
        · rw [if_pos h] at hf
          refine g_iload_n F d_Mo_finish_118 2 rfl ?_
          refine g_iload_n F d_Mo_finish_119 1 rfl ?_
          refine g_icmp_le F (tgt := 133) d_Mo_finish_120 (by decide) (fun h => ?_) (fun h => ?_)
          · rw [if_pos h] at hf
            refine g_aload_n F d_Mo_finish_133 0 rfl ?_
            refine g_get F (v := .ref (ad 9)) in_X13 0 rfl rfl 13 (by decide) mw_1119 rfl d_Mo_finish_134 ?_
            refine g_aload_n F d_Mo_finish_137 0 rfl ?_
            refine g_get F (v := .int (q_Mo_tokens tMo)) in_X13 0 rfl rfl 9 (by decide) mw_1115 rfl d_Mo_finish_138 ?_
            obtain ⟨k3, hf⟩ := g_chk hf
            refine g_zald F (f := (q_Mo_marks tMo)) 9 3 rfl rfl k3 d_Mo_finish_141 ?_
            refine g_if_eq F (tgt := 155) d_Mo_finish_142 (by decide) (fun h => ?_) (fun h => ?_)
            · rw [if_pos h] at hf
              refine g_aload_n F d_Mo_finish_155 0 rfl ?_
              refine g_iload_n F d_Mo_finish_156 1 rfl ?_
              refine g_put F in_X13 0 rfl rfl 16 (by decide) tyX13 tyX13_ok nmX13 mw_1122 rfl rfl rfl (Nat.le_of_ble_eq_true rfl) (ws' := (Wn ad cA (q_Mo_names tMo) (q_Mo_gives tMo) (q_Mo_turned tMo) (q_Mo_size tMo) (q_Mo_bytes tMo) (q_Mo_n tMo) (q_Mo_text tMo) (q_Mo_p tMo) (q_Mo_ended tMo) (q_Mo_tokens tMo) (q_Mo_kinds tMo) (q_Mo_firsts tMo) (q_Mo_sizes tMo) (q_Mo_marks tMo) (q_Mo_attributes tMo) (upd (q_Mo_manyOf tMo) ((q_Mo_tokens tMo) : Int32).toNatClampNeg (v2 - v1)) v1 (q_Mo_nameAt tMo) (q_Mo_nameSize tMo) (q_Mo_valueAt tMo) (q_Mo_valueSize tMo) (q_Mo_goes tMo) (q_Mo_rowSize tMo) (q_Mo_row tMo) (q_Mo_textAt tMo) (q_Mo_textSize tMo) (q_Mo_faultCount tMo) (q_Mo_codes tMo) (q_Mo_places tMo) (q_Mo_outSize tMo) (q_Mo_out tMo) (q_Mo_which tMo))) rfl d_Mo_finish_157 ?_
              refine g_aload_n F d_Mo_finish_160 0 rfl ?_
              refine g_get F (v := .ref (ad 11)) in_X13 0 rfl rfl 15 (by decide) mw_1121 rfl d_Mo_finish_161 ?_
              refine g_aload_n F d_Mo_finish_164 0 rfl ?_
              refine g_get F (v := .int (q_Mo_tokens tMo)) in_X13 0 rfl rfl 9 (by decide) mw_1115 rfl d_Mo_finish_165 ?_
              refine g_iconst F (v := 0) d_Mo_finish_168 (by decide) ?_
              obtain ⟨k4, hf⟩ := g_chk hf
              refine g_iast F (f := (upd (q_Mo_manyOf tMo) ((q_Mo_tokens tMo) : Int32).toNatClampNeg (v2 - v1))) 11 0 rfl rfl k4 (ws' := (Wn ad cA (q_Mo_names tMo) (q_Mo_gives tMo) (q_Mo_turned tMo) (q_Mo_size tMo) (q_Mo_bytes tMo) (q_Mo_n tMo) (q_Mo_text tMo) (q_Mo_p tMo) (q_Mo_ended tMo) (q_Mo_tokens tMo) (q_Mo_kinds tMo) (q_Mo_firsts tMo) (q_Mo_sizes tMo) (q_Mo_marks tMo) (q_Mo_attributes tMo) (upd (upd (q_Mo_manyOf tMo) ((q_Mo_tokens tMo) : Int32).toNatClampNeg (v2 - v1)) ((q_Mo_tokens tMo) : Int32).toNatClampNeg 0) v1 (q_Mo_nameAt tMo) (q_Mo_nameSize tMo) (q_Mo_valueAt tMo) (q_Mo_valueSize tMo) (q_Mo_goes tMo) (q_Mo_rowSize tMo) (q_Mo_row tMo) (q_Mo_textAt tMo) (q_Mo_textSize tMo) (q_Mo_faultCount tMo) (q_Mo_codes tMo) (q_Mo_places tMo) (q_Mo_outSize tMo) (q_Mo_out tMo) (q_Mo_which tMo))) rfl d_Mo_finish_169 ?_
              refine g_aload_n F d_Mo_finish_170 0 rfl ?_
              refine g_get F (v := .ref (ad 9)) in_X13 0 rfl rfl 13 (by decide) mw_1119 rfl d_Mo_finish_171 ?_
              refine g_aload_n F d_Mo_finish_174 0 rfl ?_
              refine g_get F (v := .int (q_Mo_tokens tMo)) in_X13 0 rfl rfl 9 (by decide) mw_1115 rfl d_Mo_finish_175 ?_
              refine g_iconst F (v := 0) d_Mo_finish_178 (by decide) ?_
              obtain ⟨k5, hf⟩ := g_chk hf
              refine g_zast F (f := (q_Mo_marks tMo)) 9 3 rfl rfl k5 (ws' := (Wn ad cA (q_Mo_names tMo) (q_Mo_gives tMo) (q_Mo_turned tMo) (q_Mo_size tMo) (q_Mo_bytes tMo) (q_Mo_n tMo) (q_Mo_text tMo) (q_Mo_p tMo) (q_Mo_ended tMo) (q_Mo_tokens tMo) (q_Mo_kinds tMo) (q_Mo_firsts tMo) (q_Mo_sizes tMo) (upd (q_Mo_marks tMo) ((q_Mo_tokens tMo) : Int32).toNatClampNeg (vp_nar .boolean 0)) (q_Mo_attributes tMo) (upd (upd (q_Mo_manyOf tMo) ((q_Mo_tokens tMo) : Int32).toNatClampNeg (v2 - v1)) ((q_Mo_tokens tMo) : Int32).toNatClampNeg 0) v1 (q_Mo_nameAt tMo) (q_Mo_nameSize tMo) (q_Mo_valueAt tMo) (q_Mo_valueSize tMo) (q_Mo_goes tMo) (q_Mo_rowSize tMo) (q_Mo_row tMo) (q_Mo_textAt tMo) (q_Mo_textSize tMo) (q_Mo_faultCount tMo) (q_Mo_codes tMo) (q_Mo_places tMo) (q_Mo_outSize tMo) (q_Mo_out tMo) (q_Mo_which tMo))) rfl d_Mo_finish_179 ?_
              refine g_aload_n F d_Mo_finish_180 0 rfl ?_
              refine g_dup F d_Mo_finish_181 rfl ?_
              refine g_get F (v := .int (q_Mo_tokens tMo)) in_X13 0 rfl rfl 9 (by decide) mw_1115 rfl d_Mo_finish_182 ?_
              refine g_iconst F (v := 1) d_Mo_finish_185 (by decide) ?_
              refine g_iadd F d_Mo_finish_186 ?_
              refine g_put F in_X13 0 rfl rfl 9 (by decide) tyX13 tyX13_ok nmX13 mw_1115 rfl rfl rfl (Nat.le_of_ble_eq_true rfl) (ws' := (Wn ad cA (q_Mo_names tMo) (q_Mo_gives tMo) (q_Mo_turned tMo) (q_Mo_size tMo) (q_Mo_bytes tMo) (q_Mo_n tMo) (q_Mo_text tMo) (q_Mo_p tMo) (q_Mo_ended tMo) ((q_Mo_tokens tMo) + 1) (q_Mo_kinds tMo) (q_Mo_firsts tMo) (q_Mo_sizes tMo) (upd (q_Mo_marks tMo) ((q_Mo_tokens tMo) : Int32).toNatClampNeg (vp_nar .boolean 0)) (q_Mo_attributes tMo) (upd (upd (q_Mo_manyOf tMo) ((q_Mo_tokens tMo) : Int32).toNatClampNeg (v2 - v1)) ((q_Mo_tokens tMo) : Int32).toNatClampNeg 0) v1 (q_Mo_nameAt tMo) (q_Mo_nameSize tMo) (q_Mo_valueAt tMo) (q_Mo_valueSize tMo) (q_Mo_goes tMo) (q_Mo_rowSize tMo) (q_Mo_row tMo) (q_Mo_textAt tMo) (q_Mo_textSize tMo) (q_Mo_faultCount tMo) (q_Mo_codes tMo) (q_Mo_places tMo) (q_Mo_outSize tMo) (q_Mo_out tMo) (q_Mo_which tMo))) rfl d_Mo_finish_187 ?_
              refine g_aload_n F d_Mo_finish_190 0 rfl ?_
              refine g_dup F d_Mo_finish_191 rfl ?_
              refine g_get F (v := .int (q_Mo_p tMo)) in_X13 0 rfl rfl 7 (by decide) mw_1113 rfl d_Mo_finish_192 ?_
              refine g_iconst F (v := 1) d_Mo_finish_195 (by decide) ?_
              refine g_iadd F d_Mo_finish_196 ?_
              refine g_put F in_X13 0 rfl rfl 7 (by decide) tyX13 tyX13_ok nmX13 mw_1113 rfl rfl rfl (Nat.le_of_ble_eq_true rfl) (ws' := (Wn ad cA (q_Mo_names tMo) (q_Mo_gives tMo) (q_Mo_turned tMo) (q_Mo_size tMo) (q_Mo_bytes tMo) (q_Mo_n tMo) (q_Mo_text tMo) ((q_Mo_p tMo) + 1) (q_Mo_ended tMo) ((q_Mo_tokens tMo) + 1) (q_Mo_kinds tMo) (q_Mo_firsts tMo) (q_Mo_sizes tMo) (upd (q_Mo_marks tMo) ((q_Mo_tokens tMo) : Int32).toNatClampNeg (vp_nar .boolean 0)) (q_Mo_attributes tMo) (upd (upd (q_Mo_manyOf tMo) ((q_Mo_tokens tMo) : Int32).toNatClampNeg (v2 - v1)) ((q_Mo_tokens tMo) : Int32).toNatClampNeg 0) v1 (q_Mo_nameAt tMo) (q_Mo_nameSize tMo) (q_Mo_valueAt tMo) (q_Mo_valueSize tMo) (q_Mo_goes tMo) (q_Mo_rowSize tMo) (q_Mo_row tMo) (q_Mo_textAt tMo) (q_Mo_textSize tMo) (q_Mo_faultCount tMo) (q_Mo_codes tMo) (q_Mo_places tMo) (q_Mo_outSize tMo) (q_Mo_out tMo) (q_Mo_which tMo))) rfl d_Mo_finish_197 ?_
              cases hf
              exact g_vret F hr hlk rfl rfl d_Mo_finish_200
            · rw [if_neg h] at hf
              refine g_aload_n F d_Mo_finish_145 0 rfl ?_
              refine g_bipush F (v := 15) d_Mo_finish_146 (by decide) ?_
              refine g_aload_n F d_Mo_finish_148 0 rfl ?_
              refine g_get F (v := .int (q_Mo_p tMo)) in_X13 0 rfl rfl 7 (by decide) mw_1113 rfl d_Mo_finish_149 ?_
              obtain ⟨x1, hx1, hf⟩ := g_bind hf
              refine g_cv F (ws' := (Wo ad cA x1)) (fun H locs ls hP hD hS hl => g_runV F (As := [.int 15, .int (q_Mo_p tMo)]) (n := 2) mw_1247 rfl rfl ⟨by decide, by decide⟩ rfl (by exact Nat.le_of_ble_eq_true rfl) mw_1244 mw_1246 mw_37 mw_85 (by decide +kernel) d_Mo_finish_152 hP hD hS hl (va_recv F.2.2.2.2.2.1 hP (ci := 9) rfl (q0 := 0) rfl) (c_Mo_wrong l D cA z ad (u_Mo_manyOf_attributeCount tMo (upd (q_Mo_manyOf tMo) ((q_Mo_tokens tMo) : Int32).toNatClampNeg (v2 - v1)) v2) 15 (q_Mo_p tMo) hx1 H.size)) ?_
              refine g_aload_n F d_Mo_finish_155 0 rfl ?_
              refine g_iload_n F d_Mo_finish_156 1 rfl ?_
              refine g_put F in_X13 0 rfl rfl 16 (by decide) tyX13 tyX13_ok nmX13 mw_1122 rfl rfl rfl (Nat.le_of_ble_eq_true rfl) (ws' := (Wn ad cA (q_Mo_names x1) (q_Mo_gives x1) (q_Mo_turned x1) (q_Mo_size x1) (q_Mo_bytes x1) (q_Mo_n x1) (q_Mo_text x1) (q_Mo_p x1) (q_Mo_ended x1) (q_Mo_tokens x1) (q_Mo_kinds x1) (q_Mo_firsts x1) (q_Mo_sizes x1) (q_Mo_marks x1) (q_Mo_attributes x1) (q_Mo_manyOf x1) v1 (q_Mo_nameAt x1) (q_Mo_nameSize x1) (q_Mo_valueAt x1) (q_Mo_valueSize x1) (q_Mo_goes x1) (q_Mo_rowSize x1) (q_Mo_row x1) (q_Mo_textAt x1) (q_Mo_textSize x1) (q_Mo_faultCount x1) (q_Mo_codes x1) (q_Mo_places x1) (q_Mo_outSize x1) (q_Mo_out x1) (q_Mo_which x1))) rfl d_Mo_finish_157 ?_
              refine g_aload_n F d_Mo_finish_160 0 rfl ?_
              refine g_get F (v := .ref (ad 11)) in_X13 0 rfl rfl 15 (by decide) mw_1121 rfl d_Mo_finish_161 ?_
              refine g_aload_n F d_Mo_finish_164 0 rfl ?_
              refine g_get F (v := .int (q_Mo_tokens x1)) in_X13 0 rfl rfl 9 (by decide) mw_1115 rfl d_Mo_finish_165 ?_
              refine g_iconst F (v := 0) d_Mo_finish_168 (by decide) ?_
              obtain ⟨k6, hf⟩ := g_chk hf
              refine g_iast F (f := (q_Mo_manyOf x1)) 11 0 rfl rfl k6 (ws' := (Wn ad cA (q_Mo_names x1) (q_Mo_gives x1) (q_Mo_turned x1) (q_Mo_size x1) (q_Mo_bytes x1) (q_Mo_n x1) (q_Mo_text x1) (q_Mo_p x1) (q_Mo_ended x1) (q_Mo_tokens x1) (q_Mo_kinds x1) (q_Mo_firsts x1) (q_Mo_sizes x1) (q_Mo_marks x1) (q_Mo_attributes x1) (upd (q_Mo_manyOf x1) ((q_Mo_tokens x1) : Int32).toNatClampNeg 0) v1 (q_Mo_nameAt x1) (q_Mo_nameSize x1) (q_Mo_valueAt x1) (q_Mo_valueSize x1) (q_Mo_goes x1) (q_Mo_rowSize x1) (q_Mo_row x1) (q_Mo_textAt x1) (q_Mo_textSize x1) (q_Mo_faultCount x1) (q_Mo_codes x1) (q_Mo_places x1) (q_Mo_outSize x1) (q_Mo_out x1) (q_Mo_which x1))) rfl d_Mo_finish_169 ?_
              refine g_aload_n F d_Mo_finish_170 0 rfl ?_
              refine g_get F (v := .ref (ad 9)) in_X13 0 rfl rfl 13 (by decide) mw_1119 rfl d_Mo_finish_171 ?_
              refine g_aload_n F d_Mo_finish_174 0 rfl ?_
              refine g_get F (v := .int (q_Mo_tokens x1)) in_X13 0 rfl rfl 9 (by decide) mw_1115 rfl d_Mo_finish_175 ?_
              refine g_iconst F (v := 0) d_Mo_finish_178 (by decide) ?_
              obtain ⟨k7, hf⟩ := g_chk hf
              refine g_zast F (f := (q_Mo_marks x1)) 9 3 rfl rfl k7 (ws' := (Wn ad cA (q_Mo_names x1) (q_Mo_gives x1) (q_Mo_turned x1) (q_Mo_size x1) (q_Mo_bytes x1) (q_Mo_n x1) (q_Mo_text x1) (q_Mo_p x1) (q_Mo_ended x1) (q_Mo_tokens x1) (q_Mo_kinds x1) (q_Mo_firsts x1) (q_Mo_sizes x1) (upd (q_Mo_marks x1) ((q_Mo_tokens x1) : Int32).toNatClampNeg (vp_nar .boolean 0)) (q_Mo_attributes x1) (upd (q_Mo_manyOf x1) ((q_Mo_tokens x1) : Int32).toNatClampNeg 0) v1 (q_Mo_nameAt x1) (q_Mo_nameSize x1) (q_Mo_valueAt x1) (q_Mo_valueSize x1) (q_Mo_goes x1) (q_Mo_rowSize x1) (q_Mo_row x1) (q_Mo_textAt x1) (q_Mo_textSize x1) (q_Mo_faultCount x1) (q_Mo_codes x1) (q_Mo_places x1) (q_Mo_outSize x1) (q_Mo_out x1) (q_Mo_which x1))) rfl d_Mo_finish_179 ?_
              refine g_aload_n F d_Mo_finish_180 0 rfl ?_
              refine g_dup F d_Mo_finish_181 rfl ?_
              refine g_get F (v := .int (q_Mo_tokens x1)) in_X13 0 rfl rfl 9 (by decide) mw_1115 rfl d_Mo_finish_182 ?_
              refine g_iconst F (v := 1) d_Mo_finish_185 (by decide) ?_
              refine g_iadd F d_Mo_finish_186 ?_
              refine g_put F in_X13 0 rfl rfl 9 (by decide) tyX13 tyX13_ok nmX13 mw_1115 rfl rfl rfl (Nat.le_of_ble_eq_true rfl) (ws' := (Wn ad cA (q_Mo_names x1) (q_Mo_gives x1) (q_Mo_turned x1) (q_Mo_size x1) (q_Mo_bytes x1) (q_Mo_n x1) (q_Mo_text x1) (q_Mo_p x1) (q_Mo_ended x1) ((q_Mo_tokens x1) + 1) (q_Mo_kinds x1) (q_Mo_firsts x1) (q_Mo_sizes x1) (upd (q_Mo_marks x1) ((q_Mo_tokens x1) : Int32).toNatClampNeg (vp_nar .boolean 0)) (q_Mo_attributes x1) (upd (q_Mo_manyOf x1) ((q_Mo_tokens x1) : Int32).toNatClampNeg 0) v1 (q_Mo_nameAt x1) (q_Mo_nameSize x1) (q_Mo_valueAt x1) (q_Mo_valueSize x1) (q_Mo_goes x1) (q_Mo_rowSize x1) (q_Mo_row x1) (q_Mo_textAt x1) (q_Mo_textSize x1) (q_Mo_faultCount x1) (q_Mo_codes x1) (q_Mo_places x1) (q_Mo_outSize x1) (q_Mo_out x1) (q_Mo_which x1))) rfl d_Mo_finish_187 ?_
              refine g_aload_n F d_Mo_finish_190 0 rfl ?_
              refine g_dup F d_Mo_finish_191 rfl ?_
              refine g_get F (v := .int (q_Mo_p x1)) in_X13 0 rfl rfl 7 (by decide) mw_1113 rfl d_Mo_finish_192 ?_
              refine g_iconst F (v := 1) d_Mo_finish_195 (by decide) ?_
              refine g_iadd F d_Mo_finish_196 ?_
              refine g_put F in_X13 0 rfl rfl 7 (by decide) tyX13 tyX13_ok nmX13 mw_1113 rfl rfl rfl (Nat.le_of_ble_eq_true rfl) (ws' := (Wn ad cA (q_Mo_names x1) (q_Mo_gives x1) (q_Mo_turned x1) (q_Mo_size x1) (q_Mo_bytes x1) (q_Mo_n x1) (q_Mo_text x1) ((q_Mo_p x1) + 1) (q_Mo_ended x1) ((q_Mo_tokens x1) + 1) (q_Mo_kinds x1) (q_Mo_firsts x1) (q_Mo_sizes x1) (upd (q_Mo_marks x1) ((q_Mo_tokens x1) : Int32).toNatClampNeg (vp_nar .boolean 0)) (q_Mo_attributes x1) (upd (q_Mo_manyOf x1) ((q_Mo_tokens x1) : Int32).toNatClampNeg 0) v1 (q_Mo_nameAt x1) (q_Mo_nameSize x1) (q_Mo_valueAt x1) (q_Mo_valueSize x1) (q_Mo_goes x1) (q_Mo_rowSize x1) (q_Mo_row x1) (q_Mo_textAt x1) (q_Mo_textSize x1) (q_Mo_faultCount x1) (q_Mo_codes x1) (q_Mo_places x1) (q_Mo_outSize x1) (q_Mo_out x1) (q_Mo_which x1))) rfl d_Mo_finish_197 ?_
              cases hf
              exact g_vret F hr hlk rfl rfl d_Mo_finish_200
          · rw [if_neg h] at hf
            refine g_aload_n F d_Mo_finish_123 0 rfl ?_
            refine g_bipush F (v := 14) d_Mo_finish_124 (by decide) ?_
            refine g_aload_n F d_Mo_finish_126 0 rfl ?_
            refine g_get F (v := .int (q_Mo_p tMo)) in_X13 0 rfl rfl 7 (by decide) mw_1113 rfl d_Mo_finish_127 ?_
            obtain ⟨x2, hx2, hf⟩ := g_bind hf
            refine g_cv F (ws' := (Wo ad cA x2)) (fun H locs ls hP hD hS hl => g_runV F (As := [.int 14, .int (q_Mo_p tMo)]) (n := 2) mw_1247 rfl rfl ⟨by decide, by decide⟩ rfl (by exact Nat.le_of_ble_eq_true rfl) mw_1244 mw_1246 mw_37 mw_85 (by decide +kernel) d_Mo_finish_130 hP hD hS hl (va_recv F.2.2.2.2.2.1 hP (ci := 9) rfl (q0 := 0) rfl) (c_Mo_wrong l D cA z ad (u_Mo_manyOf_attributeCount tMo (upd (q_Mo_manyOf tMo) ((q_Mo_tokens tMo) : Int32).toNatClampNeg (v2 - v1)) v2) 14 (q_Mo_p tMo) hx2 H.size)) ?_
            refine g_aload_n F d_Mo_finish_133 0 rfl ?_
            refine g_get F (v := .ref (ad 9)) in_X13 0 rfl rfl 13 (by decide) mw_1119 rfl d_Mo_finish_134 ?_
            refine g_aload_n F d_Mo_finish_137 0 rfl ?_
            refine g_get F (v := .int (q_Mo_tokens x2)) in_X13 0 rfl rfl 9 (by decide) mw_1115 rfl d_Mo_finish_138 ?_
            obtain ⟨k8, hf⟩ := g_chk hf
            refine g_zald F (f := (q_Mo_marks x2)) 9 3 rfl rfl k8 d_Mo_finish_141 ?_
            refine g_if_eq F (tgt := 155) d_Mo_finish_142 (by decide) (fun h => ?_) (fun h => ?_)
            · rw [if_pos h] at hf
              refine g_aload_n F d_Mo_finish_155 0 rfl ?_
              refine g_iload_n F d_Mo_finish_156 1 rfl ?_
              refine g_put F in_X13 0 rfl rfl 16 (by decide) tyX13 tyX13_ok nmX13 mw_1122 rfl rfl rfl (Nat.le_of_ble_eq_true rfl) (ws' := (Wn ad cA (q_Mo_names x2) (q_Mo_gives x2) (q_Mo_turned x2) (q_Mo_size x2) (q_Mo_bytes x2) (q_Mo_n x2) (q_Mo_text x2) (q_Mo_p x2) (q_Mo_ended x2) (q_Mo_tokens x2) (q_Mo_kinds x2) (q_Mo_firsts x2) (q_Mo_sizes x2) (q_Mo_marks x2) (q_Mo_attributes x2) (q_Mo_manyOf x2) v1 (q_Mo_nameAt x2) (q_Mo_nameSize x2) (q_Mo_valueAt x2) (q_Mo_valueSize x2) (q_Mo_goes x2) (q_Mo_rowSize x2) (q_Mo_row x2) (q_Mo_textAt x2) (q_Mo_textSize x2) (q_Mo_faultCount x2) (q_Mo_codes x2) (q_Mo_places x2) (q_Mo_outSize x2) (q_Mo_out x2) (q_Mo_which x2))) rfl d_Mo_finish_157 ?_
              refine g_aload_n F d_Mo_finish_160 0 rfl ?_
              refine g_get F (v := .ref (ad 11)) in_X13 0 rfl rfl 15 (by decide) mw_1121 rfl d_Mo_finish_161 ?_
              refine g_aload_n F d_Mo_finish_164 0 rfl ?_
              refine g_get F (v := .int (q_Mo_tokens x2)) in_X13 0 rfl rfl 9 (by decide) mw_1115 rfl d_Mo_finish_165 ?_
              refine g_iconst F (v := 0) d_Mo_finish_168 (by decide) ?_
              obtain ⟨k9, hf⟩ := g_chk hf
              refine g_iast F (f := (q_Mo_manyOf x2)) 11 0 rfl rfl k9 (ws' := (Wn ad cA (q_Mo_names x2) (q_Mo_gives x2) (q_Mo_turned x2) (q_Mo_size x2) (q_Mo_bytes x2) (q_Mo_n x2) (q_Mo_text x2) (q_Mo_p x2) (q_Mo_ended x2) (q_Mo_tokens x2) (q_Mo_kinds x2) (q_Mo_firsts x2) (q_Mo_sizes x2) (q_Mo_marks x2) (q_Mo_attributes x2) (upd (q_Mo_manyOf x2) ((q_Mo_tokens x2) : Int32).toNatClampNeg 0) v1 (q_Mo_nameAt x2) (q_Mo_nameSize x2) (q_Mo_valueAt x2) (q_Mo_valueSize x2) (q_Mo_goes x2) (q_Mo_rowSize x2) (q_Mo_row x2) (q_Mo_textAt x2) (q_Mo_textSize x2) (q_Mo_faultCount x2) (q_Mo_codes x2) (q_Mo_places x2) (q_Mo_outSize x2) (q_Mo_out x2) (q_Mo_which x2))) rfl d_Mo_finish_169 ?_
              refine g_aload_n F d_Mo_finish_170 0 rfl ?_
              refine g_get F (v := .ref (ad 9)) in_X13 0 rfl rfl 13 (by decide) mw_1119 rfl d_Mo_finish_171 ?_
              refine g_aload_n F d_Mo_finish_174 0 rfl ?_
              refine g_get F (v := .int (q_Mo_tokens x2)) in_X13 0 rfl rfl 9 (by decide) mw_1115 rfl d_Mo_finish_175 ?_
              refine g_iconst F (v := 0) d_Mo_finish_178 (by decide) ?_
              obtain ⟨k10, hf⟩ := g_chk hf
              refine g_zast F (f := (q_Mo_marks x2)) 9 3 rfl rfl k10 (ws' := (Wn ad cA (q_Mo_names x2) (q_Mo_gives x2) (q_Mo_turned x2) (q_Mo_size x2) (q_Mo_bytes x2) (q_Mo_n x2) (q_Mo_text x2) (q_Mo_p x2) (q_Mo_ended x2) (q_Mo_tokens x2) (q_Mo_kinds x2) (q_Mo_firsts x2) (q_Mo_sizes x2) (upd (q_Mo_marks x2) ((q_Mo_tokens x2) : Int32).toNatClampNeg (vp_nar .boolean 0)) (q_Mo_attributes x2) (upd (q_Mo_manyOf x2) ((q_Mo_tokens x2) : Int32).toNatClampNeg 0) v1 (q_Mo_nameAt x2) (q_Mo_nameSize x2) (q_Mo_valueAt x2) (q_Mo_valueSize x2) (q_Mo_goes x2) (q_Mo_rowSize x2) (q_Mo_row x2) (q_Mo_textAt x2) (q_Mo_textSize x2) (q_Mo_faultCount x2) (q_Mo_codes x2) (q_Mo_places x2) (q_Mo_outSize x2) (q_Mo_out x2) (q_Mo_which x2))) rfl d_Mo_finish_179 ?_
              refine g_aload_n F d_Mo_finish_180 0 rfl ?_
              refine g_dup F d_Mo_finish_181 rfl ?_
              refine g_get F (v := .int (q_Mo_tokens x2)) in_X13 0 rfl rfl 9 (by decide) mw_1115 rfl d_Mo_finish_182 ?_
              refine g_iconst F (v := 1) d_Mo_finish_185 (by decide) ?_
              refine g_iadd F d_Mo_finish_186 ?_
              refine g_put F in_X13 0 rfl rfl 9 (by decide) tyX13 tyX13_ok nmX13 mw_1115 rfl rfl rfl (Nat.le_of_ble_eq_true rfl) (ws' := (Wn ad cA (q_Mo_names x2) (q_Mo_gives x2) (q_Mo_turned x2) (q_Mo_size x2) (q_Mo_bytes x2) (q_Mo_n x2) (q_Mo_text x2) (q_Mo_p x2) (q_Mo_ended x2) ((q_Mo_tokens x2) + 1) (q_Mo_kinds x2) (q_Mo_firsts x2) (q_Mo_sizes x2) (upd (q_Mo_marks x2) ((q_Mo_tokens x2) : Int32).toNatClampNeg (vp_nar .boolean 0)) (q_Mo_attributes x2) (upd (q_Mo_manyOf x2) ((q_Mo_tokens x2) : Int32).toNatClampNeg 0) v1 (q_Mo_nameAt x2) (q_Mo_nameSize x2) (q_Mo_valueAt x2) (q_Mo_valueSize x2) (q_Mo_goes x2) (q_Mo_rowSize x2) (q_Mo_row x2) (q_Mo_textAt x2) (q_Mo_textSize x2) (q_Mo_faultCount x2) (q_Mo_codes x2) (q_Mo_places x2) (q_Mo_outSize x2) (q_Mo_out x2) (q_Mo_which x2))) rfl d_Mo_finish_187 ?_
              refine g_aload_n F d_Mo_finish_190 0 rfl ?_
              refine g_dup F d_Mo_finish_191 rfl ?_
              refine g_get F (v := .int (q_Mo_p x2)) in_X13 0 rfl rfl 7 (by decide) mw_1113 rfl d_Mo_finish_192 ?_
              refine g_iconst F (v := 1) d_Mo_finish_195 (by decide) ?_
              refine g_iadd F d_Mo_finish_196 ?_
              refine g_put F in_X13 0 rfl rfl 7 (by decide) tyX13 tyX13_ok nmX13 mw_1113 rfl rfl rfl (Nat.le_of_ble_eq_true rfl) (ws' := (Wn ad cA (q_Mo_names x2) (q_Mo_gives x2) (q_Mo_turned x2) (q_Mo_size x2) (q_Mo_bytes x2) (q_Mo_n x2) (q_Mo_text x2) ((q_Mo_p x2) + 1) (q_Mo_ended x2) ((q_Mo_tokens x2) + 1) (q_Mo_kinds x2) (q_Mo_firsts x2) (q_Mo_sizes x2) (upd (q_Mo_marks x2) ((q_Mo_tokens x2) : Int32).toNatClampNeg (vp_nar .boolean 0)) (q_Mo_attributes x2) (upd (q_Mo_manyOf x2) ((q_Mo_tokens x2) : Int32).toNatClampNeg 0) v1 (q_Mo_nameAt x2) (q_Mo_nameSize x2) (q_Mo_valueAt x2) (q_Mo_valueSize x2) (q_Mo_goes x2) (q_Mo_rowSize x2) (q_Mo_row x2) (q_Mo_textAt x2) (q_Mo_textSize x2) (q_Mo_faultCount x2) (q_Mo_codes x2) (q_Mo_places x2) (q_Mo_outSize x2) (q_Mo_out x2) (q_Mo_which x2))) rfl d_Mo_finish_197 ?_
              cases hf
              exact g_vret F hr hlk rfl rfl d_Mo_finish_200
            · rw [if_neg h] at hf
              refine g_aload_n F d_Mo_finish_145 0 rfl ?_
              refine g_bipush F (v := 15) d_Mo_finish_146 (by decide) ?_
              refine g_aload_n F d_Mo_finish_148 0 rfl ?_
              refine g_get F (v := .int (q_Mo_p x2)) in_X13 0 rfl rfl 7 (by decide) mw_1113 rfl d_Mo_finish_149 ?_
              obtain ⟨x3, hx3, hf⟩ := g_bind hf
              refine g_cv F (ws' := (Wo ad cA x3)) (fun H locs ls hP hD hS hl => g_runV F (As := [.int 15, .int (q_Mo_p x2)]) (n := 2) mw_1247 rfl rfl ⟨by decide, by decide⟩ rfl (by exact Nat.le_of_ble_eq_true rfl) mw_1244 mw_1246 mw_37 mw_85 (by decide +kernel) d_Mo_finish_152 hP hD hS hl (va_recv F.2.2.2.2.2.1 hP (ci := 9) rfl (q0 := 0) rfl) (c_Mo_wrong l D cA z ad x2 15 (q_Mo_p x2) hx3 H.size)) ?_
              refine g_aload_n F d_Mo_finish_155 0 rfl ?_
              refine g_iload_n F d_Mo_finish_156 1 rfl ?_
              refine g_put F in_X13 0 rfl rfl 16 (by decide) tyX13 tyX13_ok nmX13 mw_1122 rfl rfl rfl (Nat.le_of_ble_eq_true rfl) (ws' := (Wn ad cA (q_Mo_names x3) (q_Mo_gives x3) (q_Mo_turned x3) (q_Mo_size x3) (q_Mo_bytes x3) (q_Mo_n x3) (q_Mo_text x3) (q_Mo_p x3) (q_Mo_ended x3) (q_Mo_tokens x3) (q_Mo_kinds x3) (q_Mo_firsts x3) (q_Mo_sizes x3) (q_Mo_marks x3) (q_Mo_attributes x3) (q_Mo_manyOf x3) v1 (q_Mo_nameAt x3) (q_Mo_nameSize x3) (q_Mo_valueAt x3) (q_Mo_valueSize x3) (q_Mo_goes x3) (q_Mo_rowSize x3) (q_Mo_row x3) (q_Mo_textAt x3) (q_Mo_textSize x3) (q_Mo_faultCount x3) (q_Mo_codes x3) (q_Mo_places x3) (q_Mo_outSize x3) (q_Mo_out x3) (q_Mo_which x3))) rfl d_Mo_finish_157 ?_
              refine g_aload_n F d_Mo_finish_160 0 rfl ?_
              refine g_get F (v := .ref (ad 11)) in_X13 0 rfl rfl 15 (by decide) mw_1121 rfl d_Mo_finish_161 ?_
              refine g_aload_n F d_Mo_finish_164 0 rfl ?_
              refine g_get F (v := .int (q_Mo_tokens x3)) in_X13 0 rfl rfl 9 (by decide) mw_1115 rfl d_Mo_finish_165 ?_
              refine g_iconst F (v := 0) d_Mo_finish_168 (by decide) ?_
              obtain ⟨k11, hf⟩ := g_chk hf
              refine g_iast F (f := (q_Mo_manyOf x3)) 11 0 rfl rfl k11 (ws' := (Wn ad cA (q_Mo_names x3) (q_Mo_gives x3) (q_Mo_turned x3) (q_Mo_size x3) (q_Mo_bytes x3) (q_Mo_n x3) (q_Mo_text x3) (q_Mo_p x3) (q_Mo_ended x3) (q_Mo_tokens x3) (q_Mo_kinds x3) (q_Mo_firsts x3) (q_Mo_sizes x3) (q_Mo_marks x3) (q_Mo_attributes x3) (upd (q_Mo_manyOf x3) ((q_Mo_tokens x3) : Int32).toNatClampNeg 0) v1 (q_Mo_nameAt x3) (q_Mo_nameSize x3) (q_Mo_valueAt x3) (q_Mo_valueSize x3) (q_Mo_goes x3) (q_Mo_rowSize x3) (q_Mo_row x3) (q_Mo_textAt x3) (q_Mo_textSize x3) (q_Mo_faultCount x3) (q_Mo_codes x3) (q_Mo_places x3) (q_Mo_outSize x3) (q_Mo_out x3) (q_Mo_which x3))) rfl d_Mo_finish_169 ?_
              refine g_aload_n F d_Mo_finish_170 0 rfl ?_
              refine g_get F (v := .ref (ad 9)) in_X13 0 rfl rfl 13 (by decide) mw_1119 rfl d_Mo_finish_171 ?_
              refine g_aload_n F d_Mo_finish_174 0 rfl ?_
              refine g_get F (v := .int (q_Mo_tokens x3)) in_X13 0 rfl rfl 9 (by decide) mw_1115 rfl d_Mo_finish_175 ?_
              refine g_iconst F (v := 0) d_Mo_finish_178 (by decide) ?_
              obtain ⟨k12, hf⟩ := g_chk hf
              refine g_zast F (f := (q_Mo_marks x3)) 9 3 rfl rfl k12 (ws' := (Wn ad cA (q_Mo_names x3) (q_Mo_gives x3) (q_Mo_turned x3) (q_Mo_size x3) (q_Mo_bytes x3) (q_Mo_n x3) (q_Mo_text x3) (q_Mo_p x3) (q_Mo_ended x3) (q_Mo_tokens x3) (q_Mo_kinds x3) (q_Mo_firsts x3) (q_Mo_sizes x3) (upd (q_Mo_marks x3) ((q_Mo_tokens x3) : Int32).toNatClampNeg (vp_nar .boolean 0)) (q_Mo_attributes x3) (upd (q_Mo_manyOf x3) ((q_Mo_tokens x3) : Int32).toNatClampNeg 0) v1 (q_Mo_nameAt x3) (q_Mo_nameSize x3) (q_Mo_valueAt x3) (q_Mo_valueSize x3) (q_Mo_goes x3) (q_Mo_rowSize x3) (q_Mo_row x3) (q_Mo_textAt x3) (q_Mo_textSize x3) (q_Mo_faultCount x3) (q_Mo_codes x3) (q_Mo_places x3) (q_Mo_outSize x3) (q_Mo_out x3) (q_Mo_which x3))) rfl d_Mo_finish_179 ?_
              refine g_aload_n F d_Mo_finish_180 0 rfl ?_
              refine g_dup F d_Mo_finish_181 rfl ?_
              refine g_get F (v := .int (q_Mo_tokens x3)) in_X13 0 rfl rfl 9 (by decide) mw_1115 rfl d_Mo_finish_182 ?_
              refine g_iconst F (v := 1) d_Mo_finish_185 (by decide) ?_
              refine g_iadd F d_Mo_finish_186 ?_
              refine g_put F in_X13 0 rfl rfl 9 (by decide) tyX13 tyX13_ok nmX13 mw_1115 rfl rfl rfl (Nat.le_of_ble_eq_true rfl) (ws' := (Wn ad cA (q_Mo_names x3) (q_Mo_gives x3) (q_Mo_turned x3) (q_Mo_size x3) (q_Mo_bytes x3) (q_Mo_n x3) (q_Mo_text x3) (q_Mo_p x3) (q_Mo_ended x3) ((q_Mo_tokens x3) + 1) (q_Mo_kinds x3) (q_Mo_firsts x3) (q_Mo_sizes x3) (upd (q_Mo_marks x3) ((q_Mo_tokens x3) : Int32).toNatClampNeg (vp_nar .boolean 0)) (q_Mo_attributes x3) (upd (q_Mo_manyOf x3) ((q_Mo_tokens x3) : Int32).toNatClampNeg 0) v1 (q_Mo_nameAt x3) (q_Mo_nameSize x3) (q_Mo_valueAt x3) (q_Mo_valueSize x3) (q_Mo_goes x3) (q_Mo_rowSize x3) (q_Mo_row x3) (q_Mo_textAt x3) (q_Mo_textSize x3) (q_Mo_faultCount x3) (q_Mo_codes x3) (q_Mo_places x3) (q_Mo_outSize x3) (q_Mo_out x3) (q_Mo_which x3))) rfl d_Mo_finish_187 ?_
              refine g_aload_n F d_Mo_finish_190 0 rfl ?_
              refine g_dup F d_Mo_finish_191 rfl ?_
              refine g_get F (v := .int (q_Mo_p x3)) in_X13 0 rfl rfl 7 (by decide) mw_1113 rfl d_Mo_finish_192 ?_
              refine g_iconst F (v := 1) d_Mo_finish_195 (by decide) ?_
              refine g_iadd F d_Mo_finish_196 ?_
              refine g_put F in_X13 0 rfl rfl 7 (by decide) tyX13 tyX13_ok nmX13 mw_1113 rfl rfl rfl (Nat.le_of_ble_eq_true rfl) (ws' := (Wn ad cA (q_Mo_names x3) (q_Mo_gives x3) (q_Mo_turned x3) (q_Mo_size x3) (q_Mo_bytes x3) (q_Mo_n x3) (q_Mo_text x3) ((q_Mo_p x3) + 1) (q_Mo_ended x3) ((q_Mo_tokens x3) + 1) (q_Mo_kinds x3) (q_Mo_firsts x3) (q_Mo_sizes x3) (upd (q_Mo_marks x3) ((q_Mo_tokens x3) : Int32).toNatClampNeg (vp_nar .boolean 0)) (q_Mo_attributes x3) (upd (q_Mo_manyOf x3) ((q_Mo_tokens x3) : Int32).toNatClampNeg 0) v1 (q_Mo_nameAt x3) (q_Mo_nameSize x3) (q_Mo_valueAt x3) (q_Mo_valueSize x3) (q_Mo_goes x3) (q_Mo_rowSize x3) (q_Mo_row x3) (q_Mo_textAt x3) (q_Mo_textSize x3) (q_Mo_faultCount x3) (q_Mo_codes x3) (q_Mo_places x3) (q_Mo_outSize x3) (q_Mo_out x3) (q_Mo_which x3))) rfl d_Mo_finish_197 ?_
              cases hf
              exact g_vret F hr hlk rfl rfl d_Mo_finish_200
      · rw [if_neg h] at hf
        refine g_aload_n F d_Mo_finish_22 0 rfl ?_
        refine g_get F (v := .ref (ad 16)) in_X13 0 rfl rfl 21 (by decide) mw_1127 rfl d_Mo_finish_23 ?_
        refine g_iload_n F d_Mo_finish_26 3 rfl ?_
        obtain ⟨k13, hf⟩ := g_chk hf
        refine g_zald F (f := (q_Mo_goes tMo)) 16 3 rfl rfl k13 d_Mo_finish_27 ?_
        refine g_if_ne F (tgt := 82) d_Mo_finish_28 (by decide) (fun h => ?_) (fun h => ?_)
        · rw [if_neg h] at hf
          refine g_iinc F (j := 3) (v := (v3 + 1)) (L' := [(3, .int (v3 + 1)), (0, .ref (ad 0)), (1, .int v1), (2, .int v2)]) d_Mo_finish_82 rfl rfl (by decide) rfl ?_
          refine g_goto F (tgt := 14) d_Mo_finish_85 (by decide) ?_
          refine g_loc [1, 2, 3, 0] rfl ?_
          exact ih v1 v2 (v3 + 1) tMo hf
        · rw [if_pos h] at hf
          refine g_aload_n F d_Mo_finish_31 0 rfl ?_
          refine g_get F (v := .ref (ad 12)) in_X13 0 rfl rfl 17 (by decide) mw_1123 rfl d_Mo_finish_32 ?_
          refine g_iload_n F d_Mo_finish_35 2 rfl ?_
          refine g_aload_n F d_Mo_finish_36 0 rfl ?_
          refine g_get F (v := .ref (ad 12)) in_X13 0 rfl rfl 17 (by decide) mw_1123 rfl d_Mo_finish_37 ?_
          refine g_iload_n F d_Mo_finish_40 3 rfl ?_
          obtain ⟨k14, hf⟩ := g_chk hf
          refine g_iald F (f := (q_Mo_nameAt tMo)) 12 0 rfl rfl k14 d_Mo_finish_41 ?_
          obtain ⟨k15, hf⟩ := g_chk hf
          refine g_iast F (f := (q_Mo_nameAt tMo)) 12 0 rfl rfl k15 (ws' := (Wn ad cA (q_Mo_names tMo) (q_Mo_gives tMo) (q_Mo_turned tMo) (q_Mo_size tMo) (q_Mo_bytes tMo) (q_Mo_n tMo) (q_Mo_text tMo) (q_Mo_p tMo) (q_Mo_ended tMo) (q_Mo_tokens tMo) (q_Mo_kinds tMo) (q_Mo_firsts tMo) (q_Mo_sizes tMo) (q_Mo_marks tMo) (q_Mo_attributes tMo) (q_Mo_manyOf tMo) (q_Mo_attributeCount tMo) (upd (q_Mo_nameAt tMo) (v2 : Int32).toNatClampNeg ((q_Mo_nameAt tMo) (v3 : Int32).toNatClampNeg)) (q_Mo_nameSize tMo) (q_Mo_valueAt tMo) (q_Mo_valueSize tMo) (q_Mo_goes tMo) (q_Mo_rowSize tMo) (q_Mo_row tMo) (q_Mo_textAt tMo) (q_Mo_textSize tMo) (q_Mo_faultCount tMo) (q_Mo_codes tMo) (q_Mo_places tMo) (q_Mo_outSize tMo) (q_Mo_out tMo) (q_Mo_which tMo))) rfl d_Mo_finish_42 ?_
          refine g_aload_n F d_Mo_finish_43 0 rfl ?_
          refine g_get F (v := .ref (ad 13)) in_X13 0 rfl rfl 18 (by decide) mw_1124 rfl d_Mo_finish_44 ?_
          refine g_iload_n F d_Mo_finish_47 2 rfl ?_
          refine g_aload_n F d_Mo_finish_48 0 rfl ?_
          refine g_get F (v := .ref (ad 13)) in_X13 0 rfl rfl 18 (by decide) mw_1124 rfl d_Mo_finish_49 ?_
          refine g_iload_n F d_Mo_finish_52 3 rfl ?_
          obtain ⟨k16, hf⟩ := g_chk hf
          refine g_iald F (f := (q_Mo_nameSize tMo)) 13 0 rfl rfl k16 d_Mo_finish_53 ?_
          obtain ⟨k17, hf⟩ := g_chk hf
          refine g_iast F (f := (q_Mo_nameSize tMo)) 13 0 rfl rfl k17 (ws' := (Wn ad cA (q_Mo_names tMo) (q_Mo_gives tMo) (q_Mo_turned tMo) (q_Mo_size tMo) (q_Mo_bytes tMo) (q_Mo_n tMo) (q_Mo_text tMo) (q_Mo_p tMo) (q_Mo_ended tMo) (q_Mo_tokens tMo) (q_Mo_kinds tMo) (q_Mo_firsts tMo) (q_Mo_sizes tMo) (q_Mo_marks tMo) (q_Mo_attributes tMo) (q_Mo_manyOf tMo) (q_Mo_attributeCount tMo) (upd (q_Mo_nameAt tMo) (v2 : Int32).toNatClampNeg ((q_Mo_nameAt tMo) (v3 : Int32).toNatClampNeg)) (upd (q_Mo_nameSize tMo) (v2 : Int32).toNatClampNeg ((q_Mo_nameSize tMo) (v3 : Int32).toNatClampNeg)) (q_Mo_valueAt tMo) (q_Mo_valueSize tMo) (q_Mo_goes tMo) (q_Mo_rowSize tMo) (q_Mo_row tMo) (q_Mo_textAt tMo) (q_Mo_textSize tMo) (q_Mo_faultCount tMo) (q_Mo_codes tMo) (q_Mo_places tMo) (q_Mo_outSize tMo) (q_Mo_out tMo) (q_Mo_which tMo))) rfl d_Mo_finish_54 ?_
          refine g_aload_n F d_Mo_finish_55 0 rfl ?_
          refine g_get F (v := .ref (ad 14)) in_X13 0 rfl rfl 19 (by decide) mw_1125 rfl d_Mo_finish_56 ?_
          refine g_iload_n F d_Mo_finish_59 2 rfl ?_
          refine g_aload_n F d_Mo_finish_60 0 rfl ?_
          refine g_get F (v := .ref (ad 14)) in_X13 0 rfl rfl 19 (by decide) mw_1125 rfl d_Mo_finish_61 ?_
          refine g_iload_n F d_Mo_finish_64 3 rfl ?_
          obtain ⟨k18, hf⟩ := g_chk hf
          refine g_iald F (f := (q_Mo_valueAt tMo)) 14 0 rfl rfl k18 d_Mo_finish_65 ?_
          obtain ⟨k19, hf⟩ := g_chk hf
          refine g_iast F (f := (q_Mo_valueAt tMo)) 14 0 rfl rfl k19 (ws' := (Wn ad cA (q_Mo_names tMo) (q_Mo_gives tMo) (q_Mo_turned tMo) (q_Mo_size tMo) (q_Mo_bytes tMo) (q_Mo_n tMo) (q_Mo_text tMo) (q_Mo_p tMo) (q_Mo_ended tMo) (q_Mo_tokens tMo) (q_Mo_kinds tMo) (q_Mo_firsts tMo) (q_Mo_sizes tMo) (q_Mo_marks tMo) (q_Mo_attributes tMo) (q_Mo_manyOf tMo) (q_Mo_attributeCount tMo) (upd (q_Mo_nameAt tMo) (v2 : Int32).toNatClampNeg ((q_Mo_nameAt tMo) (v3 : Int32).toNatClampNeg)) (upd (q_Mo_nameSize tMo) (v2 : Int32).toNatClampNeg ((q_Mo_nameSize tMo) (v3 : Int32).toNatClampNeg)) (upd (q_Mo_valueAt tMo) (v2 : Int32).toNatClampNeg ((q_Mo_valueAt tMo) (v3 : Int32).toNatClampNeg)) (q_Mo_valueSize tMo) (q_Mo_goes tMo) (q_Mo_rowSize tMo) (q_Mo_row tMo) (q_Mo_textAt tMo) (q_Mo_textSize tMo) (q_Mo_faultCount tMo) (q_Mo_codes tMo) (q_Mo_places tMo) (q_Mo_outSize tMo) (q_Mo_out tMo) (q_Mo_which tMo))) rfl d_Mo_finish_66 ?_
          refine g_aload_n F d_Mo_finish_67 0 rfl ?_
          refine g_get F (v := .ref (ad 15)) in_X13 0 rfl rfl 20 (by decide) mw_1126 rfl d_Mo_finish_68 ?_
          refine g_iload_n F d_Mo_finish_71 2 rfl ?_
          refine g_aload_n F d_Mo_finish_72 0 rfl ?_
          refine g_get F (v := .ref (ad 15)) in_X13 0 rfl rfl 20 (by decide) mw_1126 rfl d_Mo_finish_73 ?_
          refine g_iload_n F d_Mo_finish_76 3 rfl ?_
          obtain ⟨k20, hf⟩ := g_chk hf
          refine g_iald F (f := (q_Mo_valueSize tMo)) 15 0 rfl rfl k20 d_Mo_finish_77 ?_
          obtain ⟨k21, hf⟩ := g_chk hf
          refine g_iast F (f := (q_Mo_valueSize tMo)) 15 0 rfl rfl k21 (ws' := (Wn ad cA (q_Mo_names tMo) (q_Mo_gives tMo) (q_Mo_turned tMo) (q_Mo_size tMo) (q_Mo_bytes tMo) (q_Mo_n tMo) (q_Mo_text tMo) (q_Mo_p tMo) (q_Mo_ended tMo) (q_Mo_tokens tMo) (q_Mo_kinds tMo) (q_Mo_firsts tMo) (q_Mo_sizes tMo) (q_Mo_marks tMo) (q_Mo_attributes tMo) (q_Mo_manyOf tMo) (q_Mo_attributeCount tMo) (upd (q_Mo_nameAt tMo) (v2 : Int32).toNatClampNeg ((q_Mo_nameAt tMo) (v3 : Int32).toNatClampNeg)) (upd (q_Mo_nameSize tMo) (v2 : Int32).toNatClampNeg ((q_Mo_nameSize tMo) (v3 : Int32).toNatClampNeg)) (upd (q_Mo_valueAt tMo) (v2 : Int32).toNatClampNeg ((q_Mo_valueAt tMo) (v3 : Int32).toNatClampNeg)) (upd (q_Mo_valueSize tMo) (v2 : Int32).toNatClampNeg ((q_Mo_valueSize tMo) (v3 : Int32).toNatClampNeg)) (q_Mo_goes tMo) (q_Mo_rowSize tMo) (q_Mo_row tMo) (q_Mo_textAt tMo) (q_Mo_textSize tMo) (q_Mo_faultCount tMo) (q_Mo_codes tMo) (q_Mo_places tMo) (q_Mo_outSize tMo) (q_Mo_out tMo) (q_Mo_which tMo))) rfl d_Mo_finish_78 ?_
          refine g_iinc F (j := 2) (v := (v2 + 1)) (L' := [(2, .int (v2 + 1)), (0, .ref (ad 0)), (1, .int v1), (3, .int v3)]) d_Mo_finish_79 rfl rfl (by decide) rfl ?_
          refine g_iinc F (j := 3) (v := (v3 + 1)) (L' := [(3, .int (v3 + 1)), (2, .int (v2 + 1)), (0, .ref (ad 0)), (1, .int v1)]) d_Mo_finish_82 rfl rfl (by decide) rfl ?_
          refine g_goto F (tgt := 14) d_Mo_finish_85 (by decide) ?_
          refine g_loc [2, 3, 1, 0] rfl ?_
          exact ih v1 (v2 + 1) (v3 + 1) (u_Mo_nameAt_nameSize_valueAt_valueSize tMo (upd (q_Mo_nameAt tMo) (v2 : Int32).toNatClampNeg ((q_Mo_nameAt tMo) (v3 : Int32).toNatClampNeg)) (upd (q_Mo_nameSize tMo) (v2 : Int32).toNatClampNeg ((q_Mo_nameSize tMo) (v3 : Int32).toNatClampNeg)) (upd (q_Mo_valueAt tMo) (v2 : Int32).toNatClampNeg ((q_Mo_valueAt tMo) (v3 : Int32).toNatClampNeg)) (upd (q_Mo_valueSize tMo) (v2 : Int32).toNatClampNeg ((q_Mo_valueSize tMo) (v3 : Int32).toNatClampNeg))) hf
  unfold f_Mo_finish at hf
  refine g_aload_n F d_Mo_finish_0 0 rfl ?_
  refine g_get F (v := .ref (ad 10)) in_X13 0 rfl rfl 14 (by decide) mw_1120 rfl d_Mo_finish_1 ?_
  refine g_aload_n F d_Mo_finish_4 0 rfl ?_
  refine g_get F (v := .int (q_Mo_tokens sMo)) in_X13 0 rfl rfl 9 (by decide) mw_1115 rfl d_Mo_finish_5 ?_
  obtain ⟨k22, hf⟩ := g_chk hf
  refine g_iald F (f := (q_Mo_attributes sMo)) 10 0 rfl rfl k22 d_Mo_finish_8 ?_
  refine g_istore_n F (L' := [(1, .int ((q_Mo_attributes sMo) ((q_Mo_tokens sMo) : Int32).toNatClampNeg)), (0, .ref (ad 0))]) d_Mo_finish_9 rfl (by decide) rfl ?_
  refine g_iload_n F d_Mo_finish_10 0 rfl ?_
  refine g_istore_n F (L' := [(2, .int ((q_Mo_attributes sMo) ((q_Mo_tokens sMo) : Int32).toNatClampNeg)), (1, .int ((q_Mo_attributes sMo) ((q_Mo_tokens sMo) : Int32).toNatClampNeg)), (0, .ref (ad 0))]) d_Mo_finish_11 rfl (by decide) rfl ?_
  refine g_iload_n F d_Mo_finish_12 1 rfl ?_
  refine g_istore_n F (L' := [(3, .int ((q_Mo_attributes sMo) ((q_Mo_tokens sMo) : Int32).toNatClampNeg)), (2, .int ((q_Mo_attributes sMo) ((q_Mo_tokens sMo) : Int32).toNatClampNeg)), (1, .int ((q_Mo_attributes sMo) ((q_Mo_tokens sMo) : Int32).toNatClampNeg)), (0, .ref (ad 0))]) d_Mo_finish_13 rfl (by decide) rfl ?_
  refine g_loc [3, 2, 1, 0] rfl ?_
  exact blk14 FU ((q_Mo_attributes sMo) ((q_Mo_tokens sMo) : Int32).toNatClampNeg) ((q_Mo_attributes sMo) ((q_Mo_tokens sMo) : Int32).toNatClampNeg) ((q_Mo_attributes sMo) ((q_Mo_tokens sMo) : Int32).toNatClampNeg) sMo hf
set_option maxHeartbeats 4000000 in
set_option maxRecDepth 100000 in
theorem c_Mo_isThere (l : Launch) (D : va_G) (cA : Nat → ClassId) (z : gZ) (ad : Nat → Nat) (sMo : SMo) (a1 : Int32) {x : Int32} (hf : f_Mo_isThere a1 sMo = some x) (sz : Nat) : Met l y_Mo_isThere (.code y_Mo_isThere b_Mo_isThere 6 (some .boolean) :: lw_g) { frames := 0, cells := 0, slots := 0, locals := 0 } (gP D (gT cA) z [.ref (ad 0), .int a1] (Wo ad cA sMo) sz) (gQi D (gT cA) (va_A (Wo ad cA sMo) sz) x (Wo ad cA sMo)) 0 0 (va_A (Wo ad cA sMo) sz) := by
  refine g_met (by decide) (Nat.le_of_ble_eq_true rfl) rfl ?_
  intro p e s m args below meth c F hr hlk
  have blk42 : ∀ (k12 : Int32 → Int32 → Int32 → SMo → Option (Int32)), (∀ (v1 : Int32) (v2 : Int32) (v3 : Int32), k12 v1 v2 v3 sMo = some x → GW p l e { frames := 0, cells := 0, slots := 0, locals := 0 } s m args below meth c (gQi D (gT cA) (va_A (Wo ad cA sMo) sz) x (Wo ad cA sMo)) D (va_A (Wo ad cA sMo) sz) 6 (Wo ad cA sMo) 12 [(0, .ref (ad 0)), (1, .int v1), (2, .int v2), (3, .int v3)] []) → ∀ (n : Nat) (v1 : Int32) (v2 : Int32) (v3 : Int32) (v4 : Int32) (v5 : Int32), f_Mo_isThere_42 k12 n v1 v2 v3 v4 v5 sMo = some x → GW p l e { frames := 0, cells := 0, slots := 0, locals := 0 } s m args below meth c (gQi D (gT cA) (va_A (Wo ad cA sMo) sz) x (Wo ad cA sMo)) D (va_A (Wo ad cA sMo) sz) 6 (Wo ad cA sMo) 42 [(0, .ref (ad 0)), (1, .int v1), (2, .int v2), (3, .int v3), (4, .int v4), (5, .int v5)] [] := by
    intro k12 hk12
    intro n
    induction n with
    | zero => intro _ _ _ _ _ hf; cases hf
    | succ n ih =>
      intro v1 v2 v3 v4 v5 hf
      rw [f_Mo_isThere_42] at hf
      refine g_iload F d_Mo_isThere_42 5 rfl ?_
      refine g_aload_n F d_Mo_isThere_44 0 rfl ?_
      refine g_get F (v := .ref (ad 13)) in_X13 0 rfl rfl 18 (by decide) mw_1124 rfl d_Mo_isThere_45 ?_
      refine g_iload_n F d_Mo_isThere_48 1 rfl ?_
      obtain ⟨k1, hf⟩ := g_chk hf
      refine g_iald F (f := (q_Mo_nameSize sMo)) 13 0 rfl rfl k1 d_Mo_isThere_49 ?_
      refine g_icmp_ge F (tgt := 102) d_Mo_isThere_50 (by decide) (fun h => ?_) (fun h => ?_)
      · rw [if_pos h] at hf
        refine g_iload_n F d_Mo_isThere_102 2 rfl ?_
        refine g_if_ne F (tgt := 111) d_Mo_isThere_103 (by decide) (fun h => ?_) (fun h => ?_)
        · rw [if_neg h] at hf
          refine g_iconst F (v := 1) d_Mo_isThere_111 (by decide) ?_
          refine g_goto F (tgt := 116) d_Mo_isThere_112 (by decide) ?_
          refine g_istore_n F (L' := [(2, .int 1), (0, .ref (ad 0)), (1, .int v1), (3, .int v3), (4, .int v4), (5, .int v5)]) d_Mo_isThere_116 rfl (by decide) rfl ?_
          refine g_iinc F (j := 3) (v := (v3 + 1)) (L' := [(3, .int (v3 + 1)), (2, .int 1), (0, .ref (ad 0)), (1, .int v1), (4, .int v4), (5, .int v5)]) d_Mo_isThere_117 rfl rfl (by decide) rfl ?_
          refine g_goto F (tgt := 12) d_Mo_isThere_120 (by decide) ?_
          refine g_loc [2, 3, 1, 0] rfl ?_
          exact hk12 v1 1 (v3 + 1) hf
        · rw [if_pos h] at hf
          refine g_iload F d_Mo_isThere_106 4 rfl ?_
          refine g_if_eq F (tgt := 115) d_Mo_isThere_108 (by decide) (fun h => ?_) (fun h => ?_)
          · rw [if_pos h] at hf
            refine g_iconst F (v := 0) d_Mo_isThere_115 (by decide) ?_
            refine g_istore_n F (L' := [(2, .int 0), (0, .ref (ad 0)), (1, .int v1), (3, .int v3), (4, .int v4), (5, .int v5)]) d_Mo_isThere_116 rfl (by decide) rfl ?_
            refine g_iinc F (j := 3) (v := (v3 + 1)) (L' := [(3, .int (v3 + 1)), (2, .int 0), (0, .ref (ad 0)), (1, .int v1), (4, .int v4), (5, .int v5)]) d_Mo_isThere_117 rfl rfl (by decide) rfl ?_
            refine g_goto F (tgt := 12) d_Mo_isThere_120 (by decide) ?_
            refine g_loc [2, 3, 1, 0] rfl ?_
            exact hk12 v1 0 (v3 + 1) hf
          · rw [if_neg h] at hf
            refine g_iconst F (v := 1) d_Mo_isThere_111 (by decide) ?_
            refine g_goto F (tgt := 116) d_Mo_isThere_112 (by decide) ?_
            refine g_istore_n F (L' := [(2, .int 1), (0, .ref (ad 0)), (1, .int v1), (3, .int v3), (4, .int v4), (5, .int v5)]) d_Mo_isThere_116 rfl (by decide) rfl ?_
            refine g_iinc F (j := 3) (v := (v3 + 1)) (L' := [(3, .int (v3 + 1)), (2, .int 1), (0, .ref (ad 0)), (1, .int v1), (4, .int v4), (5, .int v5)]) d_Mo_isThere_117 rfl rfl (by decide) rfl ?_
            refine g_goto F (tgt := 12) d_Mo_isThere_120 (by decide) ?_
            refine g_loc [2, 3, 1, 0] rfl ?_
            exact hk12 v1 1 (v3 + 1) hf
      · rw [if_neg h] at hf
        refine g_iload F d_Mo_isThere_53 4 rfl ?_
        refine g_if_eq F (tgt := 102) d_Mo_isThere_55 (by decide) (fun h => ?_) (fun h => ?_)
        · rw [if_pos h] at hf
          refine g_iload_n F d_Mo_isThere_102 2 rfl ?_
          refine g_if_ne F (tgt := 111) d_Mo_isThere_103 (by decide) (fun h => ?_) (fun h => ?_)
          · rw [if_neg h] at hf
            refine g_iconst F (v := 1) d_Mo_isThere_111 (by decide) ?_
            refine g_goto F (tgt := 116) d_Mo_isThere_112 (by decide) ?_
            refine g_istore_n F (L' := [(2, .int 1), (0, .ref (ad 0)), (1, .int v1), (3, .int v3), (4, .int v4), (5, .int v5)]) d_Mo_isThere_116 rfl (by decide) rfl ?_
            refine g_iinc F (j := 3) (v := (v3 + 1)) (L' := [(3, .int (v3 + 1)), (2, .int 1), (0, .ref (ad 0)), (1, .int v1), (4, .int v4), (5, .int v5)]) d_Mo_isThere_117 rfl rfl (by decide) rfl ?_
            refine g_goto F (tgt := 12) d_Mo_isThere_120 (by decide) ?_
            refine g_loc [2, 3, 1, 0] rfl ?_
            exact hk12 v1 1 (v3 + 1) hf
          · rw [if_pos h] at hf
            refine g_iload F d_Mo_isThere_106 4 rfl ?_
            refine g_if_eq F (tgt := 115) d_Mo_isThere_108 (by decide) (fun h => ?_) (fun h => ?_)
            · rw [if_pos h] at hf
              refine g_iconst F (v := 0) d_Mo_isThere_115 (by decide) ?_
              refine g_istore_n F (L' := [(2, .int 0), (0, .ref (ad 0)), (1, .int v1), (3, .int v3), (4, .int v4), (5, .int v5)]) d_Mo_isThere_116 rfl (by decide) rfl ?_
              refine g_iinc F (j := 3) (v := (v3 + 1)) (L' := [(3, .int (v3 + 1)), (2, .int 0), (0, .ref (ad 0)), (1, .int v1), (4, .int v4), (5, .int v5)]) d_Mo_isThere_117 rfl rfl (by decide) rfl ?_
              refine g_goto F (tgt := 12) d_Mo_isThere_120 (by decide) ?_
              refine g_loc [2, 3, 1, 0] rfl ?_
              exact hk12 v1 0 (v3 + 1) hf
            · rw [if_neg h] at hf
              refine g_iconst F (v := 1) d_Mo_isThere_111 (by decide) ?_
              refine g_goto F (tgt := 116) d_Mo_isThere_112 (by decide) ?_
              refine g_istore_n F (L' := [(2, .int 1), (0, .ref (ad 0)), (1, .int v1), (3, .int v3), (4, .int v4), (5, .int v5)]) d_Mo_isThere_116 rfl (by decide) rfl ?_
              refine g_iinc F (j := 3) (v := (v3 + 1)) (L' := [(3, .int (v3 + 1)), (2, .int 1), (0, .ref (ad 0)), (1, .int v1), (4, .int v4), (5, .int v5)]) d_Mo_isThere_117 rfl rfl (by decide) rfl ?_
              refine g_goto F (tgt := 12) d_Mo_isThere_120 (by decide) ?_
              refine g_loc [2, 3, 1, 0] rfl ?_
              exact hk12 v1 1 (v3 + 1) hf
        · rw [if_neg h] at hf
          refine g_aload_n F d_Mo_isThere_58 0 rfl ?_
          refine g_get F (v := .ref (ad 17)) in_X13 0 rfl rfl 23 (by decide) mw_1129 rfl d_Mo_isThere_59 ?_
          refine g_aload_n F d_Mo_isThere_62 0 rfl ?_
          refine g_get F (v := .ref (ad 12)) in_X13 0 rfl rfl 17 (by decide) mw_1123 rfl d_Mo_isThere_63 ?_
          refine g_iload_n F d_Mo_isThere_66 3 rfl ?_
          obtain ⟨k2, hf⟩ := g_chk hf
          refine g_iald F (f := (q_Mo_nameAt sMo)) 12 0 rfl rfl k2 d_Mo_isThere_67 ?_
          refine g_iload F d_Mo_isThere_68 5 rfl ?_
          refine g_iadd F d_Mo_isThere_70 ?_
          obtain ⟨k3, hf⟩ := g_chk hf
          refine g_iald F (f := (q_Mo_row sMo)) 17 0 rfl rfl k3 d_Mo_isThere_71 ?_
          refine g_aload_n F d_Mo_isThere_72 0 rfl ?_
          refine g_get F (v := .ref (ad 17)) in_X13 0 rfl rfl 23 (by decide) mw_1129 rfl d_Mo_isThere_73 ?_
          refine g_aload_n F d_Mo_isThere_76 0 rfl ?_
          refine g_get F (v := .ref (ad 12)) in_X13 0 rfl rfl 17 (by decide) mw_1123 rfl d_Mo_isThere_77 ?_
          refine g_iload_n F d_Mo_isThere_80 1 rfl ?_
          obtain ⟨k4, hf⟩ := g_chk hf
          refine g_iald F (f := (q_Mo_nameAt sMo)) 12 0 rfl rfl k4 d_Mo_isThere_81 ?_
          refine g_iload F d_Mo_isThere_82 5 rfl ?_
          refine g_iadd F d_Mo_isThere_84 ?_
          obtain ⟨k5, hf⟩ := g_chk hf
          refine g_iald F (f := (q_Mo_row sMo)) 17 0 rfl rfl k5 d_Mo_isThere_85 ?_
          refine g_icmp_ne F (tgt := 93) d_Mo_isThere_86 (by decide) (fun h => ?_) (fun h => ?_)
          · rw [if_neg h] at hf
            refine g_iconst F (v := 0) d_Mo_isThere_93 (by decide) ?_
            refine g_istore F (L' := [(4, .int 0), (0, .ref (ad 0)), (1, .int v1), (2, .int v2), (3, .int v3), (5, .int v5)]) d_Mo_isThere_94 (by decide) rfl ?_
            refine g_iinc F (j := 5) (v := (v5 + 1)) (L' := [(5, .int (v5 + 1)), (4, .int 0), (0, .ref (ad 0)), (1, .int v1), (2, .int v2), (3, .int v3)]) d_Mo_isThere_96 rfl rfl (by decide) rfl ?_
            refine g_goto F (tgt := 42) d_Mo_isThere_99 (by decide) ?_
            refine g_loc [2, 3, 4, 5, 1, 0] rfl ?_
            exact ih v1 v2 v3 0 (v5 + 1) hf
          · rw [if_pos h] at hf
            refine g_iconst F (v := 1) d_Mo_isThere_89 (by decide) ?_
            refine g_goto F (tgt := 94) d_Mo_isThere_90 (by decide) ?_
            refine g_istore F (L' := [(4, .int 1), (0, .ref (ad 0)), (1, .int v1), (2, .int v2), (3, .int v3), (5, .int v5)]) d_Mo_isThere_94 (by decide) rfl ?_
            refine g_iinc F (j := 5) (v := (v5 + 1)) (L' := [(5, .int (v5 + 1)), (4, .int 1), (0, .ref (ad 0)), (1, .int v1), (2, .int v2), (3, .int v3)]) d_Mo_isThere_96 rfl rfl (by decide) rfl ?_
            refine g_goto F (tgt := 42) d_Mo_isThere_99 (by decide) ?_
            refine g_loc [2, 3, 4, 5, 1, 0] rfl ?_
            exact ih v1 v2 v3 1 (v5 + 1) hf
  have blk12 : ∀ (n : Nat) (v1 : Int32) (v2 : Int32) (v3 : Int32), f_Mo_isThere_12 n v1 v2 v3 sMo = some x → GW p l e { frames := 0, cells := 0, slots := 0, locals := 0 } s m args below meth c (gQi D (gT cA) (va_A (Wo ad cA sMo) sz) x (Wo ad cA sMo)) D (va_A (Wo ad cA sMo) sz) 6 (Wo ad cA sMo) 12 [(0, .ref (ad 0)), (1, .int v1), (2, .int v2), (3, .int v3)] [] := by
    intro n
    induction n with
    | zero => intro _ _ _ hf; cases hf
    | succ n ih =>
      intro v1 v2 v3 hf
      rw [f_Mo_isThere_12] at hf
      refine g_iload_n F d_Mo_isThere_12 3 rfl ?_
      refine g_iload_n F d_Mo_isThere_13 1 rfl ?_
      refine g_icmp_ge F (tgt := 123) d_Mo_isThere_14 (by decide) (fun h => ?_) (fun h => ?_)
      · rw [if_pos h] at hf
        refine g_iload_n F d_Mo_isThere_123 2 rfl ?_
        obtain ⟨k6, hf⟩ := g_chk hf
        cases hf
        exact g_zret F hr (bz_ok k6) hlk rfl rfl rfl d_Mo_isThere_124
      · rw [if_neg h] at hf
        refine g_aload_n F d_Mo_isThere_17 0 rfl ?_
        refine g_get F (v := .ref (ad 13)) in_X13 0 rfl rfl 18 (by decide) mw_1124 rfl d_Mo_isThere_18 ?_
        refine g_iload_n F d_Mo_isThere_21 3 rfl ?_
        obtain ⟨k7, hf⟩ := g_chk hf
        refine g_iald F (f := (q_Mo_nameSize sMo)) 13 0 rfl rfl k7 d_Mo_isThere_22 ?_
        refine g_aload_n F d_Mo_isThere_23 0 rfl ?_
        refine g_get F (v := .ref (ad 13)) in_X13 0 rfl rfl 18 (by decide) mw_1124 rfl d_Mo_isThere_24 ?_
        refine g_iload_n F d_Mo_isThere_27 1 rfl ?_
        obtain ⟨k8, hf⟩ := g_chk hf
        refine g_iald F (f := (q_Mo_nameSize sMo)) 13 0 rfl rfl k8 d_Mo_isThere_28 ?_
        refine g_icmp_ne F (tgt := 36) d_Mo_isThere_29 (by decide) (fun h => ?_) (fun h => ?_)
        · rw [if_neg h] at hf
          refine g_iconst F (v := 0) d_Mo_isThere_36 (by decide) ?_
          refine g_istore F (L' := [(4, .int 0), (0, .ref (ad 0)), (1, .int v1), (2, .int v2), (3, .int v3)]) d_Mo_isThere_37 (by decide) rfl ?_
          refine g_iconst F (v := 0) d_Mo_isThere_39 (by decide) ?_
          refine g_istore F (L' := [(5, .int 0), (4, .int 0), (0, .ref (ad 0)), (1, .int v1), (2, .int v2), (3, .int v3)]) d_Mo_isThere_40 (by decide) rfl ?_
          refine g_loc [2, 3, 4, 5, 1, 0] rfl ?_
          exact blk42 _ (fun v1 v2 v3 h => ih v1 v2 v3 h) FU v1 v2 v3 0 0 hf
        · rw [if_pos h] at hf
          refine g_iconst F (v := 1) d_Mo_isThere_32 (by decide) ?_
          refine g_goto F (tgt := 37) d_Mo_isThere_33 (by decide) ?_
          refine g_istore F (L' := [(4, .int 1), (0, .ref (ad 0)), (1, .int v1), (2, .int v2), (3, .int v3)]) d_Mo_isThere_37 (by decide) rfl ?_
          refine g_iconst F (v := 0) d_Mo_isThere_39 (by decide) ?_
          refine g_istore F (L' := [(5, .int 0), (4, .int 1), (0, .ref (ad 0)), (1, .int v1), (2, .int v2), (3, .int v3)]) d_Mo_isThere_40 (by decide) rfl ?_
          refine g_loc [2, 3, 4, 5, 1, 0] rfl ?_
          exact blk42 _ (fun v1 v2 v3 h => ih v1 v2 v3 h) FU v1 v2 v3 1 0 hf
  unfold f_Mo_isThere at hf
  refine g_iconst F (v := 0) d_Mo_isThere_0 (by decide) ?_
  refine g_istore_n F (L' := [(2, .int 0), (0, .ref (ad 0)), (1, .int a1)]) d_Mo_isThere_1 rfl (by decide) rfl ?_
  refine g_aload_n F d_Mo_isThere_2 1 rfl ?_
  refine g_get F (v := .ref (ad 10)) in_X13 0 rfl rfl 14 (by decide) mw_1120 rfl d_Mo_isThere_3 ?_
  refine g_aload_n F d_Mo_isThere_6 1 rfl ?_
  refine g_get F (v := .int (q_Mo_tokens sMo)) in_X13 0 rfl rfl 9 (by decide) mw_1115 rfl d_Mo_isThere_7 ?_
  obtain ⟨k9, hf⟩ := g_chk hf
  refine g_iald F (f := (q_Mo_attributes sMo)) 10 0 rfl rfl k9 d_Mo_isThere_10 ?_
  refine g_istore_n F (L' := [(3, .int ((q_Mo_attributes sMo) ((q_Mo_tokens sMo) : Int32).toNatClampNeg)), (2, .int 0), (0, .ref (ad 0)), (1, .int a1)]) d_Mo_isThere_11 rfl (by decide) rfl ?_
  refine g_loc [2, 3, 1, 0] rfl ?_
  exact blk12 FU a1 0 ((q_Mo_attributes sMo) ((q_Mo_tokens sMo) : Int32).toNatClampNeg) hf
