set_option maxHeartbeats 4000000 in
set_option maxRecDepth 100000 in
theorem c_Mo_isDoctype (l : Launch) (D : va_G) (cA : Nat → ClassId) (z : gZ) (ad : Nat → Nat) (sMo : SMo) {x : Int32} (hf : f_Mo_isDoctype sMo = some x) (sz : Nat) : Met l y_Mo_isDoctype (.code y_Mo_isDoctype b_Mo_isDoctype 3 (some .boolean) :: lw_g) { frames := 2, cells := 0, slots := 0, locals := 40 } (gP D (gT cA) z [.ref (ad 0)] (Wo ad cA sMo) sz) (gQi D (gT cA) (va_A (Wo ad cA sMo) sz) x (Wo ad cA sMo)) 0 0 (va_A (Wo ad cA sMo) sz) := by
  refine g_met (by decide) (Nat.le_of_ble_eq_true rfl) rfl ?_
  intro p e s m args below meth c F hr hlk
  have blk4 : ∀ (n : Nat) (v1 : Int32) (v2 : Int32), f_Mo_isDoctype_4 n v1 v2 sMo = some x → GW p l e { frames := 2, cells := 0, slots := 0, locals := 40 } s m args below meth c (gQi D (gT cA) (va_A (Wo ad cA sMo) sz) x (Wo ad cA sMo)) D (va_A (Wo ad cA sMo) sz) 3 (Wo ad cA sMo) 4 [(0, .ref (ad 0)), (1, .int v1), (2, .int v2)] [] := by
    intro n
    induction n with
    | zero => intro _ _ hf; cases hf
    | succ n ih =>
      intro v1 v2 hf
      rw [f_Mo_isDoctype_4] at hf
      refine g_iload_n F d_Mo_isDoctype_4 2 rfl ?_
      refine g_bipush F (v := 7) d_Mo_isDoctype_5 (by decide) ?_
      refine g_icmp_ge F (tgt := 55) d_Mo_isDoctype_7 (by decide) (fun h => ?_) (fun h => ?_)
      · rw [if_pos h] at hf
        refine g_iload_n F d_Mo_isDoctype_55 1 rfl ?_
        obtain ⟨k1, hf⟩ := g_chk hf
        cases hf
        exact g_zret F hr (bz_ok k1) hlk rfl rfl rfl d_Mo_isDoctype_56
      · rw [if_neg h] at hf
        refine g_iload_n F d_Mo_isDoctype_10 1 rfl ?_
        refine g_if_eq F (tgt := 47) d_Mo_isDoctype_11 (by decide) (fun h => ?_) (fun h => ?_)
        · rw [if_pos h] at hf
          refine g_iconst F (v := 0) d_Mo_isDoctype_47 (by decide) ?_
          refine g_istore_n F (L' := [(1, .int 0), (0, .ref (ad 0)), (2, .int v2)]) d_Mo_isDoctype_48 rfl (by decide) rfl ?_
          refine g_iinc F (j := 2) (v := (v2 + 1)) (L' := [(2, .int (v2 + 1)), (1, .int 0), (0, .ref (ad 0))]) d_Mo_isDoctype_49 rfl rfl (by decide) rfl ?_
          refine g_goto F (tgt := 4) d_Mo_isDoctype_52 (by decide) ?_
          refine g_loc [2, 1, 0] rfl ?_
          exact ih 0 (v2 + 1) hf
        · rw [if_neg h] at hf
          refine g_aload_n F d_Mo_isDoctype_14 0 rfl ?_
          refine g_aload_n F d_Mo_isDoctype_15 0 rfl ?_
          refine g_get F (v := .int (q_Mo_p sMo)) in_X13 0 rfl rfl 7 (by decide) mw_1113 rfl d_Mo_isDoctype_16 ?_
          refine g_iload_n F d_Mo_isDoctype_19 2 rfl ?_
          refine g_iadd F d_Mo_isDoctype_20 ?_
          obtain ⟨x1, hx1, hf⟩ := g_bind hf
          refine g_ci F (r0 := x1) (ws' := (Wo ad cA sMo)) (fun H locs ls hP hD hS hl => g_runV F (As := [.int ((q_Mo_p sMo) + v2)]) (n := 1) mw_1228 rfl rfl ⟨by decide, by decide⟩ rfl (by exact Nat.le_of_ble_eq_true rfl) mw_1225 mw_1227 mw_34 mw_85 (by decide +kernel) d_Mo_isDoctype_21 hP hD hS hl (va_recv F.2.2.2.2.2.1 hP (ci := 9) rfl (q0 := 0) rfl) (c_Mo_charAt l D cA z ad sMo ((q_Mo_p sMo) + v2) hx1 H.size)) ?_
          refine g_ci F (r0 := (f_Mo_lowered x1)) (ws' := (Wo ad cA sMo)) (fun H locs ls hP hD hS hl => g_runS F (As := [.int x1]) (n := 1) mw_1327 rfl rfl ⟨by decide, by decide⟩ rfl (by exact Nat.le_of_ble_eq_true rfl) mw_1325 mw_1326 mw_85 (by decide +kernel) d_Mo_isDoctype_24 hP hD hS hl (c_Mo_lowered l D cA z ad sMo x1 rfl H.size)) ?_
          refine g_ldc2 F (v := 28552639593803620) mw_1328 d_Mo_isDoctype_27 ?_
          refine g_bipush F (v := 8) d_Mo_isDoctype_30 (by decide) ?_
          refine g_iload_n F d_Mo_isDoctype_32 2 rfl ?_
          refine g_imul F d_Mo_isDoctype_33 ?_
          refine g_lushr F d_Mo_isDoctype_34 ?_
          refine g_ldc2 F (v := 255) mw_1292 d_Mo_isDoctype_35 ?_
          refine g_land F d_Mo_isDoctype_38 ?_
          refine g_l2i F d_Mo_isDoctype_39 ?_
          refine g_icmp_ne F (tgt := 47) d_Mo_isDoctype_40 (by decide) (fun h => ?_) (fun h => ?_)
          · rw [if_neg h] at hf
            refine g_iconst F (v := 0) d_Mo_isDoctype_47 (by decide) ?_
            refine g_istore_n F (L' := [(1, .int 0), (0, .ref (ad 0)), (2, .int v2)]) d_Mo_isDoctype_48 rfl (by decide) rfl ?_
            refine g_iinc F (j := 2) (v := (v2 + 1)) (L' := [(2, .int (v2 + 1)), (1, .int 0), (0, .ref (ad 0))]) d_Mo_isDoctype_49 rfl rfl (by decide) rfl ?_
            refine g_goto F (tgt := 4) d_Mo_isDoctype_52 (by decide) ?_
            refine g_loc [2, 1, 0] rfl ?_
            exact ih 0 (v2 + 1) hf
          · rw [if_pos h] at hf
            refine g_iconst F (v := 1) d_Mo_isDoctype_43 (by decide) ?_
            refine g_goto F (tgt := 48) d_Mo_isDoctype_44 (by decide) ?_
            refine g_istore_n F (L' := [(1, .int 1), (0, .ref (ad 0)), (2, .int v2)]) d_Mo_isDoctype_48 rfl (by decide) rfl ?_
            refine g_iinc F (j := 2) (v := (v2 + 1)) (L' := [(2, .int (v2 + 1)), (1, .int 1), (0, .ref (ad 0))]) d_Mo_isDoctype_49 rfl rfl (by decide) rfl ?_
            refine g_goto F (tgt := 4) d_Mo_isDoctype_52 (by decide) ?_
            refine g_loc [2, 1, 0] rfl ?_
            exact ih 1 (v2 + 1) hf
  unfold f_Mo_isDoctype at hf
  refine g_iconst F (v := 1) d_Mo_isDoctype_0 (by decide) ?_
  refine g_istore_n F (L' := [(1, .int 1), (0, .ref (ad 0))]) d_Mo_isDoctype_1 rfl (by decide) rfl ?_
  refine g_iconst F (v := 0) d_Mo_isDoctype_2 (by decide) ?_
  refine g_istore_n F (L' := [(2, .int 0), (1, .int 1), (0, .ref (ad 0))]) d_Mo_isDoctype_3 rfl (by decide) rfl ?_
  refine g_loc [2, 1, 0] rfl ?_
  exact blk4 FU 1 0 hf
set_option maxHeartbeats 4000000 in
set_option maxRecDepth 100000 in
theorem c_Mo_doctype (l : Launch) (D : va_G) (cA : Nat → ClassId) (z : gZ) (ad : Nat → Nat) (sMo : SMo) {x : SMo} (hf : f_Mo_doctype sMo = some x) (sz : Nat) : Met l y_Mo_doctype (.code y_Mo_doctype b_Mo_doctype 2 none :: lw_g) { frames := 2, cells := 0, slots := 0, locals := 44 } (gP D (gT cA) z [.ref (ad 0)] (Wo ad cA sMo) sz) (gQv D (gT cA) (va_A (Wo ad cA sMo) sz) (Wo ad cA x)) 0 0 (va_A (Wo ad cA sMo) sz) := by
  refine g_met (by decide) (Nat.le_of_ble_eq_true rfl) rfl ?_
  intro p e s m args below meth c F hr hlk
  have blk266 : ∀ (v1 : Int32) (tMo : SMo), f_Mo_doctype_266 v1 tMo = some x → GW p l e { frames := 2, cells := 0, slots := 0, locals := 44 } s m args below meth c (gQv D (gT cA) (va_A (Wo ad cA sMo) sz) (Wo ad cA x)) D (va_A (Wo ad cA sMo) sz) 2 (Wo ad cA tMo) 266 [(0, .ref (ad 0)), (1, .int v1)] [] := by
    intro v1 tMo hf
    unfold f_Mo_doctype_266 at hf
    refine g_aload_n F d_Mo_doctype_266 0 rfl ?_
    refine g_aload_n F d_Mo_doctype_267 0 rfl ?_
    refine g_aload_n F d_Mo_doctype_268 0 rfl ?_
    refine g_get F (v := .int (q_Mo_p tMo)) in_X13 0 rfl rfl 7 (by decide) mw_1113 rfl d_Mo_doctype_269 ?_
    obtain ⟨x1, hx1, hf⟩ := g_bind hf
    refine g_ci F (r0 := x1) (ws' := (Wo ad cA tMo)) (fun H locs ls hP hD hS hl => g_runV F (As := [.int (q_Mo_p tMo)]) (n := 1) mw_1228 rfl rfl ⟨by decide, by decide⟩ rfl (by exact Nat.le_of_ble_eq_true rfl) mw_1225 mw_1227 mw_34 mw_85 (by decide +kernel) d_Mo_doctype_272 hP hD hS hl (va_recv F.2.2.2.2.2.1 hP (ci := 9) rfl (q0 := 0) rfl) (c_Mo_charAt l D cA z ad tMo (q_Mo_p tMo) hx1 H.size)) ?_
    refine g_iconst F (v := (-1)) d_Mo_doctype_275 (by decide) ?_
    refine g_icmp_ne F (tgt := 283) d_Mo_doctype_276 (by decide) (fun h => ?_) (fun h => ?_)
    · rw [if_neg h] at hf
      refine g_iconst F (v := 0) d_Mo_doctype_283 (by decide) ?_
      refine g_put F in_X13 0 rfl rfl 8 (by decide) tyX13 tyX13_ok nmX13 mw_1114 rfl rfl rfl (Nat.le_of_ble_eq_true rfl) (ws' := (Wn ad cA (q_Mo_names tMo) (q_Mo_gives tMo) (q_Mo_turned tMo) (q_Mo_size tMo) (q_Mo_bytes tMo) (q_Mo_n tMo) (q_Mo_text tMo) (q_Mo_p tMo) 0 (q_Mo_tokens tMo) (q_Mo_kinds tMo) (q_Mo_firsts tMo) (q_Mo_sizes tMo) (q_Mo_marks tMo) (q_Mo_attributes tMo) (q_Mo_manyOf tMo) (q_Mo_attributeCount tMo) (q_Mo_nameAt tMo) (q_Mo_nameSize tMo) (q_Mo_valueAt tMo) (q_Mo_valueSize tMo) (q_Mo_goes tMo) (q_Mo_rowSize tMo) (q_Mo_row tMo) (q_Mo_textAt tMo) (q_Mo_textSize tMo) (q_Mo_faultCount tMo) (q_Mo_codes tMo) (q_Mo_places tMo) (q_Mo_outSize tMo) (q_Mo_out tMo) (q_Mo_which tMo))) rfl d_Mo_doctype_284 ?_
      refine g_aload_n F d_Mo_doctype_287 0 rfl ?_
      refine g_dup F d_Mo_doctype_288 rfl ?_
      refine g_get F (v := .int (q_Mo_p tMo)) in_X13 0 rfl rfl 7 (by decide) mw_1113 rfl d_Mo_doctype_289 ?_
      refine g_iconst F (v := 1) d_Mo_doctype_292 (by decide) ?_
      refine g_iadd F d_Mo_doctype_293 ?_
      refine g_put F in_X13 0 rfl rfl 7 (by decide) tyX13 tyX13_ok nmX13 mw_1113 rfl rfl rfl (Nat.le_of_ble_eq_true rfl) (ws' := (Wn ad cA (q_Mo_names tMo) (q_Mo_gives tMo) (q_Mo_turned tMo) (q_Mo_size tMo) (q_Mo_bytes tMo) (q_Mo_n tMo) (q_Mo_text tMo) ((q_Mo_p tMo) + 1) 0 (q_Mo_tokens tMo) (q_Mo_kinds tMo) (q_Mo_firsts tMo) (q_Mo_sizes tMo) (q_Mo_marks tMo) (q_Mo_attributes tMo) (q_Mo_manyOf tMo) (q_Mo_attributeCount tMo) (q_Mo_nameAt tMo) (q_Mo_nameSize tMo) (q_Mo_valueAt tMo) (q_Mo_valueSize tMo) (q_Mo_goes tMo) (q_Mo_rowSize tMo) (q_Mo_row tMo) (q_Mo_textAt tMo) (q_Mo_textSize tMo) (q_Mo_faultCount tMo) (q_Mo_codes tMo) (q_Mo_places tMo) (q_Mo_outSize tMo) (q_Mo_out tMo) (q_Mo_which tMo))) rfl d_Mo_doctype_294 ?_
      refine g_aload_n F d_Mo_doctype_297 0 rfl ?_
      obtain ⟨x2, hx2, hf⟩ := g_bind hf
      refine g_cv F (ws' := (Wo ad cA x2)) (fun H locs ls hP hD hS hl => g_runV F (As := []) (n := 0) mw_1316 rfl rfl ⟨by decide, by decide⟩ rfl (by exact Nat.le_of_ble_eq_true rfl) mw_1313 mw_1315 mw_50 mw_85 (by decide +kernel) d_Mo_doctype_298 hP hD hS hl (va_recv F.2.2.2.2.2.1 hP (ci := 9) rfl (q0 := 0) rfl) (c_Mo_tell l D cA z ad (u_Mo_p_ended tMo ((q_Mo_p tMo) + 1) 0) hx2 H.size)) ?_
      cases hf
      exact g_vret F hr hlk rfl rfl d_Mo_doctype_301
    · rw [if_pos h] at hf
      refine g_iconst F (v := 1) d_Mo_doctype_279 (by decide) ?_
      refine g_goto F (tgt := 284) d_Mo_doctype_280 (by decide) ?_
      refine g_put F in_X13 0 rfl rfl 8 (by decide) tyX13 tyX13_ok nmX13 mw_1114 rfl rfl rfl (Nat.le_of_ble_eq_true rfl) (ws' := (Wn ad cA (q_Mo_names tMo) (q_Mo_gives tMo) (q_Mo_turned tMo) (q_Mo_size tMo) (q_Mo_bytes tMo) (q_Mo_n tMo) (q_Mo_text tMo) (q_Mo_p tMo) 1 (q_Mo_tokens tMo) (q_Mo_kinds tMo) (q_Mo_firsts tMo) (q_Mo_sizes tMo) (q_Mo_marks tMo) (q_Mo_attributes tMo) (q_Mo_manyOf tMo) (q_Mo_attributeCount tMo) (q_Mo_nameAt tMo) (q_Mo_nameSize tMo) (q_Mo_valueAt tMo) (q_Mo_valueSize tMo) (q_Mo_goes tMo) (q_Mo_rowSize tMo) (q_Mo_row tMo) (q_Mo_textAt tMo) (q_Mo_textSize tMo) (q_Mo_faultCount tMo) (q_Mo_codes tMo) (q_Mo_places tMo) (q_Mo_outSize tMo) (q_Mo_out tMo) (q_Mo_which tMo))) rfl d_Mo_doctype_284 ?_
      refine g_aload_n F d_Mo_doctype_287 0 rfl ?_
      refine g_dup F d_Mo_doctype_288 rfl ?_
      refine g_get F (v := .int (q_Mo_p tMo)) in_X13 0 rfl rfl 7 (by decide) mw_1113 rfl d_Mo_doctype_289 ?_
      refine g_iconst F (v := 1) d_Mo_doctype_292 (by decide) ?_
      refine g_iadd F d_Mo_doctype_293 ?_
      refine g_put F in_X13 0 rfl rfl 7 (by decide) tyX13 tyX13_ok nmX13 mw_1113 rfl rfl rfl (Nat.le_of_ble_eq_true rfl) (ws' := (Wn ad cA (q_Mo_names tMo) (q_Mo_gives tMo) (q_Mo_turned tMo) (q_Mo_size tMo) (q_Mo_bytes tMo) (q_Mo_n tMo) (q_Mo_text tMo) ((q_Mo_p tMo) + 1) 1 (q_Mo_tokens tMo) (q_Mo_kinds tMo) (q_Mo_firsts tMo) (q_Mo_sizes tMo) (q_Mo_marks tMo) (q_Mo_attributes tMo) (q_Mo_manyOf tMo) (q_Mo_attributeCount tMo) (q_Mo_nameAt tMo) (q_Mo_nameSize tMo) (q_Mo_valueAt tMo) (q_Mo_valueSize tMo) (q_Mo_goes tMo) (q_Mo_rowSize tMo) (q_Mo_row tMo) (q_Mo_textAt tMo) (q_Mo_textSize tMo) (q_Mo_faultCount tMo) (q_Mo_codes tMo) (q_Mo_places tMo) (q_Mo_outSize tMo) (q_Mo_out tMo) (q_Mo_which tMo))) rfl d_Mo_doctype_294 ?_
      refine g_aload_n F d_Mo_doctype_297 0 rfl ?_
      obtain ⟨x3, hx3, hf⟩ := g_bind hf
      refine g_cv F (ws' := (Wo ad cA x3)) (fun H locs ls hP hD hS hl => g_runV F (As := []) (n := 0) mw_1316 rfl rfl ⟨by decide, by decide⟩ rfl (by exact Nat.le_of_ble_eq_true rfl) mw_1313 mw_1315 mw_50 mw_85 (by decide +kernel) d_Mo_doctype_298 hP hD hS hl (va_recv F.2.2.2.2.2.1 hP (ci := 9) rfl (q0 := 0) rfl) (c_Mo_tell l D cA z ad (u_Mo_p_ended tMo ((q_Mo_p tMo) + 1) 1) hx3 H.size)) ?_
      cases hf
      exact g_vret F hr hlk rfl rfl d_Mo_doctype_301
  have blk233 : ∀ (n : Nat) (v1 : Int32) (tMo : SMo), f_Mo_doctype_233 n v1 tMo = some x → GW p l e { frames := 2, cells := 0, slots := 0, locals := 44 } s m args below meth c (gQv D (gT cA) (va_A (Wo ad cA sMo) sz) (Wo ad cA x)) D (va_A (Wo ad cA sMo) sz) 2 (Wo ad cA tMo) 233 [(0, .ref (ad 0)), (1, .int v1)] [] := by
    intro n
    induction n with
    | zero => intro _ _ hf; cases hf
    | succ n ih =>
      intro v1 tMo hf
      rw [f_Mo_doctype_233] at hf
      refine g_aload_n F d_Mo_doctype_233 0 rfl ?_
      refine g_aload_n F d_Mo_doctype_234 0 rfl ?_
      refine g_get F (v := .int (q_Mo_p tMo)) in_X13 0 rfl rfl 7 (by decide) mw_1113 rfl d_Mo_doctype_235 ?_
      obtain ⟨x4, hx4, hf⟩ := g_bind hf
      refine g_ci F (r0 := x4) (ws' := (Wo ad cA tMo)) (fun H locs ls hP hD hS hl => g_runV F (As := [.int (q_Mo_p tMo)]) (n := 1) mw_1228 rfl rfl ⟨by decide, by decide⟩ rfl (by exact Nat.le_of_ble_eq_true rfl) mw_1225 mw_1227 mw_34 mw_85 (by decide +kernel) d_Mo_doctype_238 hP hD hS hl (va_recv F.2.2.2.2.2.1 hP (ci := 9) rfl (q0 := 0) rfl) (c_Mo_charAt l D cA z ad tMo (q_Mo_p tMo) hx4 H.size)) ?_
      refine g_iconst F (v := (-1)) d_Mo_doctype_241 (by decide) ?_
      refine g_icmp_eq F (tgt := 266) d_Mo_doctype_242 (by decide) (fun h => ?_) (fun h => ?_)
      · rw [if_pos h] at hf
        exact blk266 v1 tMo hf
      · rw [if_neg h] at hf
        refine g_aload_n F d_Mo_doctype_245 0 rfl ?_
        refine g_aload_n F d_Mo_doctype_246 0 rfl ?_
        refine g_get F (v := .int (q_Mo_p tMo)) in_X13 0 rfl rfl 7 (by decide) mw_1113 rfl d_Mo_doctype_247 ?_
        obtain ⟨x5, hx5, hf⟩ := g_bind hf
        refine g_ci F (r0 := x5) (ws' := (Wo ad cA tMo)) (fun H locs ls hP hD hS hl => g_runV F (As := [.int (q_Mo_p tMo)]) (n := 1) mw_1228 rfl rfl ⟨by decide, by decide⟩ rfl (by exact Nat.le_of_ble_eq_true rfl) mw_1225 mw_1227 mw_34 mw_85 (by decide +kernel) d_Mo_doctype_250 hP hD hS hl (va_recv F.2.2.2.2.2.1 hP (ci := 9) rfl (q0 := 0) rfl) (c_Mo_charAt l D cA z ad tMo (q_Mo_p tMo) hx5 H.size)) ?_
        refine g_bipush F (v := 62) d_Mo_doctype_253 (by decide) ?_
        refine g_icmp_eq F (tgt := 266) d_Mo_doctype_255 (by decide) (fun h => ?_) (fun h => ?_)
        · rw [if_pos h] at hf
          exact blk266 v1 tMo hf
        · rw [if_neg h] at hf
          refine g_aload_n F d_Mo_doctype_258 0 rfl ?_
          obtain ⟨x6, hx6, hf⟩ := g_bind hf
          refine g_ci F (r0 := x6.1) (ws' := (Wo ad cA x6.2)) (fun H locs ls hP hD hS hl => g_runV F (As := []) (n := 0) mw_1340 rfl rfl ⟨by decide, by decide⟩ rfl (by exact Nat.le_of_ble_eq_true rfl) mw_1337 mw_1339 mw_55 mw_85 (by decide +kernel) d_Mo_doctype_259 hP hD hS hl (va_recv F.2.2.2.2.2.1 hP (ci := 9) rfl (q0 := 0) rfl) (c_Mo_known l D cA z ad tMo hx6 H.size)) ?_
          refine g_pop F d_Mo_doctype_262 rfl ?_
          refine g_goto F (tgt := 233) d_Mo_doctype_263 (by decide) ?_
          exact ih v1 x6.2 hf
  have blk166 : ∀ (v1 : Int32) (tMo : SMo), f_Mo_doctype_166 v1 tMo = some x → GW p l e { frames := 2, cells := 0, slots := 0, locals := 44 } s m args below meth c (gQv D (gT cA) (va_A (Wo ad cA sMo) sz) (Wo ad cA x)) D (va_A (Wo ad cA sMo) sz) 2 (Wo ad cA tMo) 166 [(0, .ref (ad 0)), (1, .int v1)] [] := by
    intro v1 tMo hf
    unfold f_Mo_doctype_166 at hf
    refine g_aload_n F d_Mo_doctype_166 0 rfl ?_
    obtain ⟨x7, hx7, hf⟩ := g_bind hf
    refine g_cv F (ws' := (Wo ad cA x7)) (fun H locs ls hP hD hS hl => g_runV F (As := []) (n := 0) mw_1336 rfl rfl ⟨by decide, by decide⟩ rfl (by exact Nat.le_of_ble_eq_true rfl) mw_1333 mw_1335 mw_54 mw_85 (by decide +kernel) d_Mo_doctype_167 hP hD hS hl (va_recv F.2.2.2.2.2.1 hP (ci := 9) rfl (q0 := 0) rfl) (c_Mo_skipBlanks l D cA z ad tMo hx7 H.size)) ?_
    refine g_aload_n F d_Mo_doctype_170 0 rfl ?_
    refine g_aload_n F d_Mo_doctype_171 0 rfl ?_
    refine g_get F (v := .int (q_Mo_p x7)) in_X13 0 rfl rfl 7 (by decide) mw_1113 rfl d_Mo_doctype_172 ?_
    obtain ⟨x8, hx8, hf⟩ := g_bind hf
    refine g_ci F (r0 := x8) (ws' := (Wo ad cA x7)) (fun H locs ls hP hD hS hl => g_runV F (As := [.int (q_Mo_p x7)]) (n := 1) mw_1228 rfl rfl ⟨by decide, by decide⟩ rfl (by exact Nat.le_of_ble_eq_true rfl) mw_1225 mw_1227 mw_34 mw_85 (by decide +kernel) d_Mo_doctype_175 hP hD hS hl (va_recv F.2.2.2.2.2.1 hP (ci := 9) rfl (q0 := 0) rfl) (c_Mo_charAt l D cA z ad x7 (q_Mo_p x7) hx8 H.size)) ?_
    refine g_istore_n F (L' := [(1, .int x8), (0, .ref (ad 0))]) d_Mo_doctype_178 rfl (by decide) rfl ?_
    refine g_iload_n F d_Mo_doctype_179 0 rfl ?_
    refine g_iconst F (v := (-1)) d_Mo_doctype_180 (by decide) ?_
    refine g_icmp_ne F (tgt := 207) d_Mo_doctype_181 (by decide) (fun h => ?_) (fun h => ?_)
    · rw [if_neg h] at hf
      refine g_iload_n F d_Mo_doctype_207 0 rfl ?_
      refine g_bipush F (v := 62) d_Mo_doctype_208 (by decide) ?_
      refine g_icmp_eq F (tgt := 266) d_Mo_doctype_210 (by decide) (fun h => ?_) (fun h => ?_)
      · rw [if_pos h] at hf
        refine g_loc [1, 0] rfl ?_
        exact blk266 x8 x7 hf
      · rw [if_neg h] at hf
        refine g_aload_n F d_Mo_doctype_213 1 rfl ?_
        refine g_get F (v := .ref (ad 9)) in_X13 0 rfl rfl 13 (by decide) mw_1119 rfl d_Mo_doctype_214 ?_
        refine g_aload_n F d_Mo_doctype_217 1 rfl ?_
        refine g_get F (v := .int (q_Mo_tokens x7)) in_X13 0 rfl rfl 9 (by decide) mw_1115 rfl d_Mo_doctype_218 ?_
        refine g_iconst F (v := 1) d_Mo_doctype_221 (by decide) ?_
        obtain ⟨k1, hf⟩ := g_chk hf
        refine g_zast F (f := (q_Mo_marks x7)) 9 3 rfl rfl k1 (ws' := (Wn ad cA (q_Mo_names x7) (q_Mo_gives x7) (q_Mo_turned x7) (q_Mo_size x7) (q_Mo_bytes x7) (q_Mo_n x7) (q_Mo_text x7) (q_Mo_p x7) (q_Mo_ended x7) (q_Mo_tokens x7) (q_Mo_kinds x7) (q_Mo_firsts x7) (q_Mo_sizes x7) (upd (q_Mo_marks x7) ((q_Mo_tokens x7) : Int32).toNatClampNeg (vp_nar .boolean 1)) (q_Mo_attributes x7) (q_Mo_manyOf x7) (q_Mo_attributeCount x7) (q_Mo_nameAt x7) (q_Mo_nameSize x7) (q_Mo_valueAt x7) (q_Mo_valueSize x7) (q_Mo_goes x7) (q_Mo_rowSize x7) (q_Mo_row x7) (q_Mo_textAt x7) (q_Mo_textSize x7) (q_Mo_faultCount x7) (q_Mo_codes x7) (q_Mo_places x7) (q_Mo_outSize x7) (q_Mo_out x7) (q_Mo_which x7))) rfl d_Mo_doctype_222 ?_
        refine g_aload_n F d_Mo_doctype_223 1 rfl ?_
        refine g_bipush F (v := 24) d_Mo_doctype_224 (by decide) ?_
        refine g_aload_n F d_Mo_doctype_226 1 rfl ?_
        refine g_get F (v := .int (q_Mo_p x7)) in_X13 0 rfl rfl 7 (by decide) mw_1113 rfl d_Mo_doctype_227 ?_
        obtain ⟨x9, hx9, hf⟩ := g_bind hf
        refine g_cv F (ws' := (Wo ad cA x9)) (fun H locs ls hP hD hS hl => g_runV F (As := [.int 24, .int (q_Mo_p x7)]) (n := 2) mw_1247 rfl rfl ⟨by decide, by decide⟩ rfl (by exact Nat.le_of_ble_eq_true rfl) mw_1244 mw_1246 mw_37 mw_85 (by decide +kernel) d_Mo_doctype_230 hP hD hS hl (va_recv F.2.2.2.2.2.1 hP (ci := 9) rfl (q0 := 0) rfl) (c_Mo_wrong l D cA z ad (u_Mo_marks x7 (upd (q_Mo_marks x7) ((q_Mo_tokens x7) : Int32).toNatClampNeg (vp_nar .boolean 1))) 24 (q_Mo_p x7) hx9 H.size)) ?_
        refine g_loc [1, 0] rfl ?_
        exact blk233 FU x8 x9 hf
    · rw [if_pos h] at hf
      refine g_aload_n F d_Mo_doctype_184 1 rfl ?_
      refine g_get F (v := .ref (ad 9)) in_X13 0 rfl rfl 13 (by decide) mw_1119 rfl d_Mo_doctype_185 ?_
      refine g_aload_n F d_Mo_doctype_188 1 rfl ?_
      refine g_get F (v := .int (q_Mo_tokens x7)) in_X13 0 rfl rfl 9 (by decide) mw_1115 rfl d_Mo_doctype_189 ?_
      refine g_iconst F (v := 1) d_Mo_doctype_192 (by decide) ?_
      obtain ⟨k2, hf⟩ := g_chk hf
      refine g_zast F (f := (q_Mo_marks x7)) 9 3 rfl rfl k2 (ws' := (Wn ad cA (q_Mo_names x7) (q_Mo_gives x7) (q_Mo_turned x7) (q_Mo_size x7) (q_Mo_bytes x7) (q_Mo_n x7) (q_Mo_text x7) (q_Mo_p x7) (q_Mo_ended x7) (q_Mo_tokens x7) (q_Mo_kinds x7) (q_Mo_firsts x7) (q_Mo_sizes x7) (upd (q_Mo_marks x7) ((q_Mo_tokens x7) : Int32).toNatClampNeg (vp_nar .boolean 1)) (q_Mo_attributes x7) (q_Mo_manyOf x7) (q_Mo_attributeCount x7) (q_Mo_nameAt x7) (q_Mo_nameSize x7) (q_Mo_valueAt x7) (q_Mo_valueSize x7) (q_Mo_goes x7) (q_Mo_rowSize x7) (q_Mo_row x7) (q_Mo_textAt x7) (q_Mo_textSize x7) (q_Mo_faultCount x7) (q_Mo_codes x7) (q_Mo_places x7) (q_Mo_outSize x7) (q_Mo_out x7) (q_Mo_which x7))) rfl d_Mo_doctype_193 ?_
      refine g_aload_n F d_Mo_doctype_194 1 rfl ?_
      refine g_bipush F (v := 23) d_Mo_doctype_195 (by decide) ?_
      refine g_aload_n F d_Mo_doctype_197 1 rfl ?_
      refine g_get F (v := .int (q_Mo_p x7)) in_X13 0 rfl rfl 7 (by decide) mw_1113 rfl d_Mo_doctype_198 ?_
      obtain ⟨x10, hx10, hf⟩ := g_bind hf
      refine g_cv F (ws' := (Wo ad cA x10)) (fun H locs ls hP hD hS hl => g_runV F (As := [.int 23, .int (q_Mo_p x7)]) (n := 2) mw_1247 rfl rfl ⟨by decide, by decide⟩ rfl (by exact Nat.le_of_ble_eq_true rfl) mw_1244 mw_1246 mw_37 mw_85 (by decide +kernel) d_Mo_doctype_201 hP hD hS hl (va_recv F.2.2.2.2.2.1 hP (ci := 9) rfl (q0 := 0) rfl) (c_Mo_wrong l D cA z ad (u_Mo_marks x7 (upd (q_Mo_marks x7) ((q_Mo_tokens x7) : Int32).toNatClampNeg (vp_nar .boolean 1))) 23 (q_Mo_p x7) hx10 H.size)) ?_
      refine g_goto F (tgt := 266) d_Mo_doctype_204 (by decide) ?_
      refine g_loc [1, 0] rfl ?_
      exact blk266 x8 x10 hf
  have blk125 : ∀ (n : Nat) (v1 : Int32) (tMo : SMo), f_Mo_doctype_125 n v1 tMo = some x → GW p l e { frames := 2, cells := 0, slots := 0, locals := 44 } s m args below meth c (gQv D (gT cA) (va_A (Wo ad cA sMo) sz) (Wo ad cA x)) D (va_A (Wo ad cA sMo) sz) 2 (Wo ad cA tMo) 125 [(0, .ref (ad 0)), (1, .int v1)] [] := by
    intro n
    induction n with
    | zero => intro _ _ hf; cases hf
    | succ n ih =>
      intro v1 tMo hf
      rw [f_Mo_doctype_125] at hf
      refine g_iload_n F d_Mo_doctype_125 1 rfl ?_
      refine g_iconst F (v := (-1)) d_Mo_doctype_126 (by decide) ?_
      refine g_icmp_eq F (tgt := 166) d_Mo_doctype_127 (by decide) (fun h => ?_) (fun h => ?_)
      · rw [if_pos h] at hf
        exact blk166 v1 tMo hf
      · rw [if_neg h] at hf
        refine g_iload_n F d_Mo_doctype_130 1 rfl ?_
        refine g_bipush F (v := 62) d_Mo_doctype_131 (by decide) ?_
        refine g_icmp_eq F (tgt := 166) d_Mo_doctype_133 (by decide) (fun h => ?_) (fun h => ?_)
        · rw [if_pos h] at hf
          exact blk166 v1 tMo hf
        · rw [if_neg h] at hf
          refine g_iload_n F d_Mo_doctype_136 1 rfl ?_
          refine g_ci F (r0 := (f_Mo_isBlank v1)) (ws' := (Wo ad cA tMo)) (fun H locs ls hP hD hS hl => g_runS F (As := [.int v1]) (n := 1) mw_1277 rfl rfl ⟨by decide, by decide⟩ rfl (by exact Nat.le_of_ble_eq_true rfl) mw_1275 mw_1276 mw_85 (by decide +kernel) d_Mo_doctype_137 hP hD hS hl (c_Mo_isBlank l D cA z ad tMo v1 rfl H.size)) ?_
          refine g_if_ne F (tgt := 166) d_Mo_doctype_140 (by decide) (fun h => ?_) (fun h => ?_)
          · rw [if_neg h] at hf
            exact blk166 v1 tMo hf
          · rw [if_pos h] at hf
            refine g_aload_n F d_Mo_doctype_143 0 rfl ?_
            refine g_aload_n F d_Mo_doctype_144 0 rfl ?_
            obtain ⟨x11, hx11, hf⟩ := g_bind hf
            refine g_ci F (r0 := x11.1) (ws' := (Wo ad cA x11.2)) (fun H locs ls hP hD hS hl => g_runV F (As := []) (n := 0) mw_1340 rfl rfl ⟨by decide, by decide⟩ rfl (by exact Nat.le_of_ble_eq_true rfl) mw_1337 mw_1339 mw_55 mw_85 (by decide +kernel) d_Mo_doctype_145 hP hD hS hl (va_recv F.2.2.2.2.2.1 hP (ci := 9) rfl (q0 := 0) rfl) (c_Mo_known l D cA z ad tMo hx11 H.size)) ?_
            refine g_ci F (r0 := (f_Mo_lowered x11.1)) (ws' := (Wo ad cA x11.2)) (fun H locs ls hP hD hS hl => g_runS F (As := [.int x11.1]) (n := 1) mw_1327 rfl rfl ⟨by decide, by decide⟩ rfl (by exact Nat.le_of_ble_eq_true rfl) mw_1325 mw_1326 mw_85 (by decide +kernel) d_Mo_doctype_148 hP hD hS hl (c_Mo_lowered l D cA z ad x11.2 x11.1 rfl H.size)) ?_
            obtain ⟨x12, hx12, hf⟩ := g_bind hf
            refine g_cv F (ws' := (Wo ad cA x12)) (fun H locs ls hP hD hS hl => g_runV F (As := [.int (f_Mo_lowered x11.1)]) (n := 1) mw_1259 rfl rfl ⟨by decide, by decide⟩ rfl (by exact Nat.le_of_ble_eq_true rfl) mw_1256 mw_1258 mw_40 mw_85 (by decide +kernel) d_Mo_doctype_151 hP hD hS hl (va_recv F.2.2.2.2.2.1 hP (ci := 9) rfl (q0 := 0) rfl) (c_Mo_keep l D cA z ad x11.2 (f_Mo_lowered x11.1) hx12 H.size)) ?_
            refine g_aload_n F d_Mo_doctype_154 0 rfl ?_
            refine g_aload_n F d_Mo_doctype_155 0 rfl ?_
            refine g_get F (v := .int (q_Mo_p x12)) in_X13 0 rfl rfl 7 (by decide) mw_1113 rfl d_Mo_doctype_156 ?_
            obtain ⟨x13, hx13, hf⟩ := g_bind hf
            refine g_ci F (r0 := x13) (ws' := (Wo ad cA x12)) (fun H locs ls hP hD hS hl => g_runV F (As := [.int (q_Mo_p x12)]) (n := 1) mw_1228 rfl rfl ⟨by decide, by decide⟩ rfl (by exact Nat.le_of_ble_eq_true rfl) mw_1225 mw_1227 mw_34 mw_85 (by decide +kernel) d_Mo_doctype_159 hP hD hS hl (va_recv F.2.2.2.2.2.1 hP (ci := 9) rfl (q0 := 0) rfl) (c_Mo_charAt l D cA z ad x12 (q_Mo_p x12) hx13 H.size)) ?_
            refine g_istore_n F (L' := [(1, .int x13), (0, .ref (ad 0))]) d_Mo_doctype_162 rfl (by decide) rfl ?_
            refine g_goto F (tgt := 125) d_Mo_doctype_163 (by decide) ?_
            refine g_loc [1, 0] rfl ?_
            exact ih x13 x12 hf
  have blk66 : ∀ (v1 : Int32) (tMo : SMo), f_Mo_doctype_66 v1 tMo = some x → GW p l e { frames := 2, cells := 0, slots := 0, locals := 44 } s m args below meth c (gQv D (gT cA) (va_A (Wo ad cA sMo) sz) (Wo ad cA x)) D (va_A (Wo ad cA sMo) sz) 2 (Wo ad cA tMo) 66 [(0, .ref (ad 0)), (1, .int v1)] [] := by
    intro v1 tMo hf
    unfold f_Mo_doctype_66 at hf
    refine g_aload_n F d_Mo_doctype_66 0 rfl ?_
    refine g_get F (v := .ref (ad 9)) in_X13 0 rfl rfl 13 (by decide) mw_1119 rfl d_Mo_doctype_67 ?_
    refine g_aload_n F d_Mo_doctype_70 0 rfl ?_
    refine g_get F (v := .int (q_Mo_tokens tMo)) in_X13 0 rfl rfl 9 (by decide) mw_1115 rfl d_Mo_doctype_71 ?_
    refine g_iconst F (v := 1) d_Mo_doctype_74 (by decide) ?_
    obtain ⟨k3, hf⟩ := g_chk hf
    refine g_zast F (f := (q_Mo_marks tMo)) 9 3 rfl rfl k3 (ws' := (Wn ad cA (q_Mo_names tMo) (q_Mo_gives tMo) (q_Mo_turned tMo) (q_Mo_size tMo) (q_Mo_bytes tMo) (q_Mo_n tMo) (q_Mo_text tMo) (q_Mo_p tMo) (q_Mo_ended tMo) (q_Mo_tokens tMo) (q_Mo_kinds tMo) (q_Mo_firsts tMo) (q_Mo_sizes tMo) (upd (q_Mo_marks tMo) ((q_Mo_tokens tMo) : Int32).toNatClampNeg (vp_nar .boolean 1)) (q_Mo_attributes tMo) (q_Mo_manyOf tMo) (q_Mo_attributeCount tMo) (q_Mo_nameAt tMo) (q_Mo_nameSize tMo) (q_Mo_valueAt tMo) (q_Mo_valueSize tMo) (q_Mo_goes tMo) (q_Mo_rowSize tMo) (q_Mo_row tMo) (q_Mo_textAt tMo) (q_Mo_textSize tMo) (q_Mo_faultCount tMo) (q_Mo_codes tMo) (q_Mo_places tMo) (q_Mo_outSize tMo) (q_Mo_out tMo) (q_Mo_which tMo))) rfl d_Mo_doctype_75 ?_
    refine g_aload_n F d_Mo_doctype_76 0 rfl ?_
    refine g_iload_n F d_Mo_doctype_77 1 rfl ?_
    refine g_iconst F (v := (-1)) d_Mo_doctype_78 (by decide) ?_
    refine g_icmp_ne F (tgt := 87) d_Mo_doctype_79 (by decide) (fun h => ?_) (fun h => ?_)
    · rw [if_neg h] at hf
      refine g_bipush F (v := 22) d_Mo_doctype_87 (by decide) ?_
      refine g_aload_n F d_Mo_doctype_89 0 rfl ?_
      refine g_get F (v := .int (q_Mo_p tMo)) in_X13 0 rfl rfl 7 (by decide) mw_1113 rfl d_Mo_doctype_90 ?_
      obtain ⟨x14, hx14, hf⟩ := g_bind hf
      refine g_cv F (ws' := (Wo ad cA x14)) (fun H locs ls hP hD hS hl => g_runV F (As := [.int 22, .int (q_Mo_p tMo)]) (n := 2) mw_1247 rfl rfl ⟨by decide, by decide⟩ rfl (by exact Nat.le_of_ble_eq_true rfl) mw_1244 mw_1246 mw_37 mw_85 (by decide +kernel) d_Mo_doctype_93 hP hD hS hl (va_recv F.2.2.2.2.2.1 hP (ci := 9) rfl (q0 := 0) rfl) (c_Mo_wrong l D cA z ad (u_Mo_marks tMo (upd (q_Mo_marks tMo) ((q_Mo_tokens tMo) : Int32).toNatClampNeg (vp_nar .boolean 1))) 22 (q_Mo_p tMo) hx14 H.size)) ?_
      refine g_aload_n F d_Mo_doctype_96 0 rfl ?_
      refine g_iload_n F d_Mo_doctype_97 1 rfl ?_
      refine g_iconst F (v := (-1)) d_Mo_doctype_98 (by decide) ?_
      refine g_icmp_ne F (tgt := 106) d_Mo_doctype_99 (by decide) (fun h => ?_) (fun h => ?_)
      · rw [if_neg h] at hf
        refine g_iconst F (v := 0) d_Mo_doctype_106 (by decide) ?_
        refine g_put F in_X13 0 rfl rfl 8 (by decide) tyX13 tyX13_ok nmX13 mw_1114 rfl rfl rfl (Nat.le_of_ble_eq_true rfl) (ws' := (Wn ad cA (q_Mo_names x14) (q_Mo_gives x14) (q_Mo_turned x14) (q_Mo_size x14) (q_Mo_bytes x14) (q_Mo_n x14) (q_Mo_text x14) (q_Mo_p x14) 0 (q_Mo_tokens x14) (q_Mo_kinds x14) (q_Mo_firsts x14) (q_Mo_sizes x14) (q_Mo_marks x14) (q_Mo_attributes x14) (q_Mo_manyOf x14) (q_Mo_attributeCount x14) (q_Mo_nameAt x14) (q_Mo_nameSize x14) (q_Mo_valueAt x14) (q_Mo_valueSize x14) (q_Mo_goes x14) (q_Mo_rowSize x14) (q_Mo_row x14) (q_Mo_textAt x14) (q_Mo_textSize x14) (q_Mo_faultCount x14) (q_Mo_codes x14) (q_Mo_places x14) (q_Mo_outSize x14) (q_Mo_out x14) (q_Mo_which x14))) rfl d_Mo_doctype_107 ?_
        refine g_aload_n F d_Mo_doctype_110 0 rfl ?_
        refine g_dup F d_Mo_doctype_111 rfl ?_
        refine g_get F (v := .int (q_Mo_p x14)) in_X13 0 rfl rfl 7 (by decide) mw_1113 rfl d_Mo_doctype_112 ?_
        refine g_iconst F (v := 1) d_Mo_doctype_115 (by decide) ?_
        refine g_iadd F d_Mo_doctype_116 ?_
        refine g_put F in_X13 0 rfl rfl 7 (by decide) tyX13 tyX13_ok nmX13 mw_1113 rfl rfl rfl (Nat.le_of_ble_eq_true rfl) (ws' := (Wn ad cA (q_Mo_names x14) (q_Mo_gives x14) (q_Mo_turned x14) (q_Mo_size x14) (q_Mo_bytes x14) (q_Mo_n x14) (q_Mo_text x14) ((q_Mo_p x14) + 1) 0 (q_Mo_tokens x14) (q_Mo_kinds x14) (q_Mo_firsts x14) (q_Mo_sizes x14) (q_Mo_marks x14) (q_Mo_attributes x14) (q_Mo_manyOf x14) (q_Mo_attributeCount x14) (q_Mo_nameAt x14) (q_Mo_nameSize x14) (q_Mo_valueAt x14) (q_Mo_valueSize x14) (q_Mo_goes x14) (q_Mo_rowSize x14) (q_Mo_row x14) (q_Mo_textAt x14) (q_Mo_textSize x14) (q_Mo_faultCount x14) (q_Mo_codes x14) (q_Mo_places x14) (q_Mo_outSize x14) (q_Mo_out x14) (q_Mo_which x14))) rfl d_Mo_doctype_117 ?_
        refine g_aload_n F d_Mo_doctype_120 0 rfl ?_
        obtain ⟨x15, hx15, hf⟩ := g_bind hf
        refine g_cv F (ws' := (Wo ad cA x15)) (fun H locs ls hP hD hS hl => g_runV F (As := []) (n := 0) mw_1316 rfl rfl ⟨by decide, by decide⟩ rfl (by exact Nat.le_of_ble_eq_true rfl) mw_1313 mw_1315 mw_50 mw_85 (by decide +kernel) d_Mo_doctype_121 hP hD hS hl (va_recv F.2.2.2.2.2.1 hP (ci := 9) rfl (q0 := 0) rfl) (c_Mo_tell l D cA z ad (u_Mo_p_ended x14 ((q_Mo_p x14) + 1) 0) hx15 H.size)) ?_
        cases hf
        exact g_vret F hr hlk rfl rfl d_Mo_doctype_124
      · rw [if_pos h] at hf
        refine g_iconst F (v := 1) d_Mo_doctype_102 (by decide) ?_
        refine g_goto F (tgt := 107) d_Mo_doctype_103 (by decide) ?_
        refine g_put F in_X13 0 rfl rfl 8 (by decide) tyX13 tyX13_ok nmX13 mw_1114 rfl rfl rfl (Nat.le_of_ble_eq_true rfl) (ws' := (Wn ad cA (q_Mo_names x14) (q_Mo_gives x14) (q_Mo_turned x14) (q_Mo_size x14) (q_Mo_bytes x14) (q_Mo_n x14) (q_Mo_text x14) (q_Mo_p x14) 1 (q_Mo_tokens x14) (q_Mo_kinds x14) (q_Mo_firsts x14) (q_Mo_sizes x14) (q_Mo_marks x14) (q_Mo_attributes x14) (q_Mo_manyOf x14) (q_Mo_attributeCount x14) (q_Mo_nameAt x14) (q_Mo_nameSize x14) (q_Mo_valueAt x14) (q_Mo_valueSize x14) (q_Mo_goes x14) (q_Mo_rowSize x14) (q_Mo_row x14) (q_Mo_textAt x14) (q_Mo_textSize x14) (q_Mo_faultCount x14) (q_Mo_codes x14) (q_Mo_places x14) (q_Mo_outSize x14) (q_Mo_out x14) (q_Mo_which x14))) rfl d_Mo_doctype_107 ?_
        refine g_aload_n F d_Mo_doctype_110 0 rfl ?_
        refine g_dup F d_Mo_doctype_111 rfl ?_
        refine g_get F (v := .int (q_Mo_p x14)) in_X13 0 rfl rfl 7 (by decide) mw_1113 rfl d_Mo_doctype_112 ?_
        refine g_iconst F (v := 1) d_Mo_doctype_115 (by decide) ?_
        refine g_iadd F d_Mo_doctype_116 ?_
        refine g_put F in_X13 0 rfl rfl 7 (by decide) tyX13 tyX13_ok nmX13 mw_1113 rfl rfl rfl (Nat.le_of_ble_eq_true rfl) (ws' := (Wn ad cA (q_Mo_names x14) (q_Mo_gives x14) (q_Mo_turned x14) (q_Mo_size x14) (q_Mo_bytes x14) (q_Mo_n x14) (q_Mo_text x14) ((q_Mo_p x14) + 1) 1 (q_Mo_tokens x14) (q_Mo_kinds x14) (q_Mo_firsts x14) (q_Mo_sizes x14) (q_Mo_marks x14) (q_Mo_attributes x14) (q_Mo_manyOf x14) (q_Mo_attributeCount x14) (q_Mo_nameAt x14) (q_Mo_nameSize x14) (q_Mo_valueAt x14) (q_Mo_valueSize x14) (q_Mo_goes x14) (q_Mo_rowSize x14) (q_Mo_row x14) (q_Mo_textAt x14) (q_Mo_textSize x14) (q_Mo_faultCount x14) (q_Mo_codes x14) (q_Mo_places x14) (q_Mo_outSize x14) (q_Mo_out x14) (q_Mo_which x14))) rfl d_Mo_doctype_117 ?_
        refine g_aload_n F d_Mo_doctype_120 0 rfl ?_
        obtain ⟨x16, hx16, hf⟩ := g_bind hf
        refine g_cv F (ws' := (Wo ad cA x16)) (fun H locs ls hP hD hS hl => g_runV F (As := []) (n := 0) mw_1316 rfl rfl ⟨by decide, by decide⟩ rfl (by exact Nat.le_of_ble_eq_true rfl) mw_1313 mw_1315 mw_50 mw_85 (by decide +kernel) d_Mo_doctype_121 hP hD hS hl (va_recv F.2.2.2.2.2.1 hP (ci := 9) rfl (q0 := 0) rfl) (c_Mo_tell l D cA z ad (u_Mo_p_ended x14 ((q_Mo_p x14) + 1) 1) hx16 H.size)) ?_
        cases hf
        exact g_vret F hr hlk rfl rfl d_Mo_doctype_124
    · rw [if_pos h] at hf
      refine g_bipush F (v := 23) d_Mo_doctype_82 (by decide) ?_
      refine g_goto F (tgt := 89) d_Mo_doctype_84 (by decide) ?_
      refine g_aload_n F d_Mo_doctype_89 0 rfl ?_
      refine g_get F (v := .int (q_Mo_p tMo)) in_X13 0 rfl rfl 7 (by decide) mw_1113 rfl d_Mo_doctype_90 ?_
      obtain ⟨x17, hx17, hf⟩ := g_bind hf
      refine g_cv F (ws' := (Wo ad cA x17)) (fun H locs ls hP hD hS hl => g_runV F (As := [.int 23, .int (q_Mo_p tMo)]) (n := 2) mw_1247 rfl rfl ⟨by decide, by decide⟩ rfl (by exact Nat.le_of_ble_eq_true rfl) mw_1244 mw_1246 mw_37 mw_85 (by decide +kernel) d_Mo_doctype_93 hP hD hS hl (va_recv F.2.2.2.2.2.1 hP (ci := 9) rfl (q0 := 0) rfl) (c_Mo_wrong l D cA z ad (u_Mo_marks tMo (upd (q_Mo_marks tMo) ((q_Mo_tokens tMo) : Int32).toNatClampNeg (vp_nar .boolean 1))) 23 (q_Mo_p tMo) hx17 H.size)) ?_
      refine g_aload_n F d_Mo_doctype_96 0 rfl ?_
      refine g_iload_n F d_Mo_doctype_97 1 rfl ?_
      refine g_iconst F (v := (-1)) d_Mo_doctype_98 (by decide) ?_
      refine g_icmp_ne F (tgt := 106) d_Mo_doctype_99 (by decide) (fun h => ?_) (fun h => ?_)
      · rw [if_neg h] at hf
        refine g_iconst F (v := 0) d_Mo_doctype_106 (by decide) ?_
        refine g_put F in_X13 0 rfl rfl 8 (by decide) tyX13 tyX13_ok nmX13 mw_1114 rfl rfl rfl (Nat.le_of_ble_eq_true rfl) (ws' := (Wn ad cA (q_Mo_names x17) (q_Mo_gives x17) (q_Mo_turned x17) (q_Mo_size x17) (q_Mo_bytes x17) (q_Mo_n x17) (q_Mo_text x17) (q_Mo_p x17) 0 (q_Mo_tokens x17) (q_Mo_kinds x17) (q_Mo_firsts x17) (q_Mo_sizes x17) (q_Mo_marks x17) (q_Mo_attributes x17) (q_Mo_manyOf x17) (q_Mo_attributeCount x17) (q_Mo_nameAt x17) (q_Mo_nameSize x17) (q_Mo_valueAt x17) (q_Mo_valueSize x17) (q_Mo_goes x17) (q_Mo_rowSize x17) (q_Mo_row x17) (q_Mo_textAt x17) (q_Mo_textSize x17) (q_Mo_faultCount x17) (q_Mo_codes x17) (q_Mo_places x17) (q_Mo_outSize x17) (q_Mo_out x17) (q_Mo_which x17))) rfl d_Mo_doctype_107 ?_
        refine g_aload_n F d_Mo_doctype_110 0 rfl ?_
        refine g_dup F d_Mo_doctype_111 rfl ?_
        refine g_get F (v := .int (q_Mo_p x17)) in_X13 0 rfl rfl 7 (by decide) mw_1113 rfl d_Mo_doctype_112 ?_
        refine g_iconst F (v := 1) d_Mo_doctype_115 (by decide) ?_
        refine g_iadd F d_Mo_doctype_116 ?_
        refine g_put F in_X13 0 rfl rfl 7 (by decide) tyX13 tyX13_ok nmX13 mw_1113 rfl rfl rfl (Nat.le_of_ble_eq_true rfl) (ws' := (Wn ad cA (q_Mo_names x17) (q_Mo_gives x17) (q_Mo_turned x17) (q_Mo_size x17) (q_Mo_bytes x17) (q_Mo_n x17) (q_Mo_text x17) ((q_Mo_p x17) + 1) 0 (q_Mo_tokens x17) (q_Mo_kinds x17) (q_Mo_firsts x17) (q_Mo_sizes x17) (q_Mo_marks x17) (q_Mo_attributes x17) (q_Mo_manyOf x17) (q_Mo_attributeCount x17) (q_Mo_nameAt x17) (q_Mo_nameSize x17) (q_Mo_valueAt x17) (q_Mo_valueSize x17) (q_Mo_goes x17) (q_Mo_rowSize x17) (q_Mo_row x17) (q_Mo_textAt x17) (q_Mo_textSize x17) (q_Mo_faultCount x17) (q_Mo_codes x17) (q_Mo_places x17) (q_Mo_outSize x17) (q_Mo_out x17) (q_Mo_which x17))) rfl d_Mo_doctype_117 ?_
        refine g_aload_n F d_Mo_doctype_120 0 rfl ?_
        obtain ⟨x18, hx18, hf⟩ := g_bind hf
        refine g_cv F (ws' := (Wo ad cA x18)) (fun H locs ls hP hD hS hl => g_runV F (As := []) (n := 0) mw_1316 rfl rfl ⟨by decide, by decide⟩ rfl (by exact Nat.le_of_ble_eq_true rfl) mw_1313 mw_1315 mw_50 mw_85 (by decide +kernel) d_Mo_doctype_121 hP hD hS hl (va_recv F.2.2.2.2.2.1 hP (ci := 9) rfl (q0 := 0) rfl) (c_Mo_tell l D cA z ad (u_Mo_p_ended x17 ((q_Mo_p x17) + 1) 0) hx18 H.size)) ?_
        cases hf
        exact g_vret F hr hlk rfl rfl d_Mo_doctype_124
      · rw [if_pos h] at hf
        refine g_iconst F (v := 1) d_Mo_doctype_102 (by decide) ?_
        refine g_goto F (tgt := 107) d_Mo_doctype_103 (by decide) ?_
        refine g_put F in_X13 0 rfl rfl 8 (by decide) tyX13 tyX13_ok nmX13 mw_1114 rfl rfl rfl (Nat.le_of_ble_eq_true rfl) (ws' := (Wn ad cA (q_Mo_names x17) (q_Mo_gives x17) (q_Mo_turned x17) (q_Mo_size x17) (q_Mo_bytes x17) (q_Mo_n x17) (q_Mo_text x17) (q_Mo_p x17) 1 (q_Mo_tokens x17) (q_Mo_kinds x17) (q_Mo_firsts x17) (q_Mo_sizes x17) (q_Mo_marks x17) (q_Mo_attributes x17) (q_Mo_manyOf x17) (q_Mo_attributeCount x17) (q_Mo_nameAt x17) (q_Mo_nameSize x17) (q_Mo_valueAt x17) (q_Mo_valueSize x17) (q_Mo_goes x17) (q_Mo_rowSize x17) (q_Mo_row x17) (q_Mo_textAt x17) (q_Mo_textSize x17) (q_Mo_faultCount x17) (q_Mo_codes x17) (q_Mo_places x17) (q_Mo_outSize x17) (q_Mo_out x17) (q_Mo_which x17))) rfl d_Mo_doctype_107 ?_
        refine g_aload_n F d_Mo_doctype_110 0 rfl ?_
        refine g_dup F d_Mo_doctype_111 rfl ?_
        refine g_get F (v := .int (q_Mo_p x17)) in_X13 0 rfl rfl 7 (by decide) mw_1113 rfl d_Mo_doctype_112 ?_
        refine g_iconst F (v := 1) d_Mo_doctype_115 (by decide) ?_
        refine g_iadd F d_Mo_doctype_116 ?_
        refine g_put F in_X13 0 rfl rfl 7 (by decide) tyX13 tyX13_ok nmX13 mw_1113 rfl rfl rfl (Nat.le_of_ble_eq_true rfl) (ws' := (Wn ad cA (q_Mo_names x17) (q_Mo_gives x17) (q_Mo_turned x17) (q_Mo_size x17) (q_Mo_bytes x17) (q_Mo_n x17) (q_Mo_text x17) ((q_Mo_p x17) + 1) 1 (q_Mo_tokens x17) (q_Mo_kinds x17) (q_Mo_firsts x17) (q_Mo_sizes x17) (q_Mo_marks x17) (q_Mo_attributes x17) (q_Mo_manyOf x17) (q_Mo_attributeCount x17) (q_Mo_nameAt x17) (q_Mo_nameSize x17) (q_Mo_valueAt x17) (q_Mo_valueSize x17) (q_Mo_goes x17) (q_Mo_rowSize x17) (q_Mo_row x17) (q_Mo_textAt x17) (q_Mo_textSize x17) (q_Mo_faultCount x17) (q_Mo_codes x17) (q_Mo_places x17) (q_Mo_outSize x17) (q_Mo_out x17) (q_Mo_which x17))) rfl d_Mo_doctype_117 ?_
        refine g_aload_n F d_Mo_doctype_120 0 rfl ?_
        obtain ⟨x19, hx19, hf⟩ := g_bind hf
        refine g_cv F (ws' := (Wo ad cA x19)) (fun H locs ls hP hD hS hl => g_runV F (As := []) (n := 0) mw_1316 rfl rfl ⟨by decide, by decide⟩ rfl (by exact Nat.le_of_ble_eq_true rfl) mw_1313 mw_1315 mw_50 mw_85 (by decide +kernel) d_Mo_doctype_121 hP hD hS hl (va_recv F.2.2.2.2.2.1 hP (ci := 9) rfl (q0 := 0) rfl) (c_Mo_tell l D cA z ad (u_Mo_p_ended x17 ((q_Mo_p x17) + 1) 1) hx19 H.size)) ?_
        cases hf
        exact g_vret F hr hlk rfl rfl d_Mo_doctype_124
  have blk37 : ∀ (v1 : Int32) (tMo : SMo), f_Mo_doctype_37 v1 tMo = some x → GW p l e { frames := 2, cells := 0, slots := 0, locals := 44 } s m args below meth c (gQv D (gT cA) (va_A (Wo ad cA sMo) sz) (Wo ad cA x)) D (va_A (Wo ad cA sMo) sz) 2 (Wo ad cA tMo) 37 [(0, .ref (ad 0)), (1, .int v1)] [] := by
    intro v1 tMo hf
    unfold f_Mo_doctype_37 at hf
    refine g_aload_n F d_Mo_doctype_37 0 rfl ?_
    obtain ⟨x20, hx20, hf⟩ := g_bind hf
    refine g_cv F (ws' := (Wo ad cA x20)) (fun H locs ls hP hD hS hl => g_runV F (As := []) (n := 0) mw_1336 rfl rfl ⟨by decide, by decide⟩ rfl (by exact Nat.le_of_ble_eq_true rfl) mw_1333 mw_1335 mw_54 mw_85 (by decide +kernel) d_Mo_doctype_38 hP hD hS hl (va_recv F.2.2.2.2.2.1 hP (ci := 9) rfl (q0 := 0) rfl) (c_Mo_skipBlanks l D cA z ad tMo hx20 H.size)) ?_
    refine g_aload_n F d_Mo_doctype_41 0 rfl ?_
    refine g_aload_n F d_Mo_doctype_42 0 rfl ?_
    refine g_get F (v := .int (q_Mo_p x20)) in_X13 0 rfl rfl 7 (by decide) mw_1113 rfl d_Mo_doctype_43 ?_
    obtain ⟨x21, hx21, hf⟩ := g_bind hf
    refine g_ci F (r0 := x21) (ws' := (Wo ad cA x20)) (fun H locs ls hP hD hS hl => g_runV F (As := [.int (q_Mo_p x20)]) (n := 1) mw_1228 rfl rfl ⟨by decide, by decide⟩ rfl (by exact Nat.le_of_ble_eq_true rfl) mw_1225 mw_1227 mw_34 mw_85 (by decide +kernel) d_Mo_doctype_46 hP hD hS hl (va_recv F.2.2.2.2.2.1 hP (ci := 9) rfl (q0 := 0) rfl) (c_Mo_charAt l D cA z ad x20 (q_Mo_p x20) hx21 H.size)) ?_
    refine g_istore_n F (L' := [(1, .int x21), (0, .ref (ad 0))]) d_Mo_doctype_49 rfl (by decide) rfl ?_
    refine g_aload_n F d_Mo_doctype_50 1 rfl ?_
    refine g_iconst F (v := 4) d_Mo_doctype_51 (by decide) ?_
    obtain ⟨x22, hx22, hf⟩ := g_bind hf
    refine g_cv F (ws' := (Wo ad cA x22)) (fun H locs ls hP hD hS hl => g_runV F (As := [.int 4]) (n := 1) mw_1304 rfl rfl ⟨by decide, by decide⟩ rfl (by exact Nat.le_of_ble_eq_true rfl) mw_1301 mw_1303 mw_47 mw_85 (by decide +kernel) d_Mo_doctype_52 hP hD hS hl (va_recv F.2.2.2.2.2.1 hP (ci := 9) rfl (q0 := 0) rfl) (c_Mo_begin l D cA z ad x20 4 hx22 H.size)) ?_
    refine g_iload_n F d_Mo_doctype_55 0 rfl ?_
    refine g_iconst F (v := (-1)) d_Mo_doctype_56 (by decide) ?_
    refine g_icmp_eq F (tgt := 66) d_Mo_doctype_57 (by decide) (fun h => ?_) (fun h => ?_)
    · rw [if_pos h] at hf
      refine g_loc [1, 0] rfl ?_
      exact blk66 x21 x22 hf
    · rw [if_neg h] at hf
      refine g_iload_n F d_Mo_doctype_60 0 rfl ?_
      refine g_bipush F (v := 62) d_Mo_doctype_61 (by decide) ?_
      refine g_icmp_ne F (tgt := 125) d_Mo_doctype_63 (by decide) (fun h => ?_) (fun h => ?_)
      · rw [if_neg h] at hf
        refine g_loc [1, 0] rfl ?_
        exact blk125 FU x21 x22 hf
      · rw [if_pos h] at hf
        refine g_loc [1, 0] rfl ?_
        exact blk66 x21 x22 hf
  unfold f_Mo_doctype at hf
  refine g_aload_n F d_Mo_doctype_0 0 rfl ?_
  refine g_aload_n F d_Mo_doctype_1 0 rfl ?_
  refine g_get F (v := .int (q_Mo_p sMo)) in_X13 0 rfl rfl 7 (by decide) mw_1113 rfl d_Mo_doctype_2 ?_
  obtain ⟨x23, hx23, hf⟩ := g_bind hf
  refine g_ci F (r0 := x23) (ws' := (Wo ad cA sMo)) (fun H locs ls hP hD hS hl => g_runV F (As := [.int (q_Mo_p sMo)]) (n := 1) mw_1228 rfl rfl ⟨by decide, by decide⟩ rfl (by exact Nat.le_of_ble_eq_true rfl) mw_1225 mw_1227 mw_34 mw_85 (by decide +kernel) d_Mo_doctype_5 hP hD hS hl (va_recv F.2.2.2.2.2.1 hP (ci := 9) rfl (q0 := 0) rfl) (c_Mo_charAt l D cA z ad sMo (q_Mo_p sMo) hx23 H.size)) ?_
  refine g_istore_n F (L' := [(1, .int x23), (0, .ref (ad 0))]) d_Mo_doctype_8 rfl (by decide) rfl ?_
  refine g_iload_n F d_Mo_doctype_9 0 rfl ?_
  refine g_iconst F (v := (-1)) d_Mo_doctype_10 (by decide) ?_
  refine g_icmp_eq F (tgt := 37) d_Mo_doctype_11 (by decide) (fun h => ?_) (fun h => ?_)
  · rw [if_pos h] at hf
    refine g_loc [1, 0] rfl ?_
    exact blk37 x23 sMo hf
  · rw [if_neg h] at hf
    refine g_iload_n F d_Mo_doctype_14 0 rfl ?_
    refine g_bipush F (v := 62) d_Mo_doctype_15 (by decide) ?_
    refine g_icmp_eq F (tgt := 37) d_Mo_doctype_17 (by decide) (fun h => ?_) (fun h => ?_)
    · rw [if_pos h] at hf
      refine g_loc [1, 0] rfl ?_
      exact blk37 x23 sMo hf
    · rw [if_neg h] at hf
      refine g_iload_n F d_Mo_doctype_20 0 rfl ?_
      refine g_ci F (r0 := (f_Mo_isBlank x23)) (ws' := (Wo ad cA sMo)) (fun H locs ls hP hD hS hl => g_runS F (As := [.int x23]) (n := 1) mw_1277 rfl rfl ⟨by decide, by decide⟩ rfl (by exact Nat.le_of_ble_eq_true rfl) mw_1275 mw_1276 mw_85 (by decide +kernel) d_Mo_doctype_21 hP hD hS hl (c_Mo_isBlank l D cA z ad sMo x23 rfl H.size)) ?_
      refine g_if_ne F (tgt := 37) d_Mo_doctype_24 (by decide) (fun h => ?_) (fun h => ?_)
      · rw [if_neg h] at hf
        refine g_loc [1, 0] rfl ?_
        exact blk37 x23 sMo hf
      · rw [if_pos h] at hf
        refine g_aload_n F d_Mo_doctype_27 1 rfl ?_
        refine g_bipush F (v := 21) d_Mo_doctype_28 (by decide) ?_
        refine g_aload_n F d_Mo_doctype_30 1 rfl ?_
        refine g_get F (v := .int (q_Mo_p sMo)) in_X13 0 rfl rfl 7 (by decide) mw_1113 rfl d_Mo_doctype_31 ?_
        obtain ⟨x24, hx24, hf⟩ := g_bind hf
        refine g_cv F (ws' := (Wo ad cA x24)) (fun H locs ls hP hD hS hl => g_runV F (As := [.int 21, .int (q_Mo_p sMo)]) (n := 2) mw_1247 rfl rfl ⟨by decide, by decide⟩ rfl (by exact Nat.le_of_ble_eq_true rfl) mw_1244 mw_1246 mw_37 mw_85 (by decide +kernel) d_Mo_doctype_34 hP hD hS hl (va_recv F.2.2.2.2.2.1 hP (ci := 9) rfl (q0 := 0) rfl) (c_Mo_wrong l D cA z ad sMo 21 (q_Mo_p sMo) hx24 H.size)) ?_
        refine g_loc [1, 0] rfl ?_
        exact blk37 x23 x24 hf
set_option maxHeartbeats 4000000 in
set_option maxRecDepth 100000 in
theorem c_Mo_bogus (l : Launch) (D : va_G) (cA : Nat → ClassId) (z : gZ) (ad : Nat → Nat) (sMo : SMo) {x : SMo} (hf : f_Mo_bogus sMo = some x) (sz : Nat) : Met l y_Mo_bogus (.code y_Mo_bogus b_Mo_bogus 1 none :: lw_g) { frames := 2, cells := 0, slots := 0, locals := 43 } (gP D (gT cA) z [.ref (ad 0)] (Wo ad cA sMo) sz) (gQv D (gT cA) (va_A (Wo ad cA sMo) sz) (Wo ad cA x)) 0 0 (va_A (Wo ad cA sMo) sz) := by
  refine g_met (by decide) (Nat.le_of_ble_eq_true rfl) rfl ?_
  intro p e s m args below meth c F hr hlk
  have blk0 : ∀ (n : Nat) (tMo : SMo), f_Mo_bogus_0 n tMo = some x → GW p l e { frames := 2, cells := 0, slots := 0, locals := 43 } s m args below meth c (gQv D (gT cA) (va_A (Wo ad cA sMo) sz) (Wo ad cA x)) D (va_A (Wo ad cA sMo) sz) 1 (Wo ad cA tMo) 0 [(0, .ref (ad 0))] [] := by
    intro n
    induction n with
    | zero => intro _ hf; cases hf
    | succ n ih =>
      intro tMo hf
      rw [f_Mo_bogus_0] at hf
      refine g_aload_n F d_Mo_bogus_0 0 rfl ?_
      refine g_aload_n F d_Mo_bogus_1 0 rfl ?_
      refine g_get F (v := .int (q_Mo_p tMo)) in_X13 0 rfl rfl 7 (by decide) mw_1113 rfl d_Mo_bogus_2 ?_
      obtain ⟨x1, hx1, hf⟩ := g_bind hf
      refine g_ci F (r0 := x1) (ws' := (Wo ad cA tMo)) (fun H locs ls hP hD hS hl => g_runV F (As := [.int (q_Mo_p tMo)]) (n := 1) mw_1228 rfl rfl ⟨by decide, by decide⟩ rfl (by exact Nat.le_of_ble_eq_true rfl) mw_1225 mw_1227 mw_34 mw_85 (by decide +kernel) d_Mo_bogus_5 hP hD hS hl (va_recv F.2.2.2.2.2.1 hP (ci := 9) rfl (q0 := 0) rfl) (c_Mo_charAt l D cA z ad tMo (q_Mo_p tMo) hx1 H.size)) ?_
      refine g_iconst F (v := (-1)) d_Mo_bogus_8 (by decide) ?_
      refine g_icmp_eq F (tgt := 36) d_Mo_bogus_9 (by decide) (fun h => ?_) (fun h => ?_)
      · rw [if_pos h] at hf
        refine g_aload_n F d_Mo_bogus_36 0 rfl ?_
        refine g_aload_n F d_Mo_bogus_37 0 rfl ?_
        refine g_aload_n F d_Mo_bogus_38 0 rfl ?_
        refine g_get F (v := .int (q_Mo_p tMo)) in_X13 0 rfl rfl 7 (by decide) mw_1113 rfl d_Mo_bogus_39 ?_
        obtain ⟨x2, hx2, hf⟩ := g_bind hf
        refine g_ci F (r0 := x2) (ws' := (Wo ad cA tMo)) (fun H locs ls hP hD hS hl => g_runV F (As := [.int (q_Mo_p tMo)]) (n := 1) mw_1228 rfl rfl ⟨by decide, by decide⟩ rfl (by exact Nat.le_of_ble_eq_true rfl) mw_1225 mw_1227 mw_34 mw_85 (by decide +kernel) d_Mo_bogus_42 hP hD hS hl (va_recv F.2.2.2.2.2.1 hP (ci := 9) rfl (q0 := 0) rfl) (c_Mo_charAt l D cA z ad tMo (q_Mo_p tMo) hx2 H.size)) ?_
        refine g_iconst F (v := (-1)) d_Mo_bogus_45 (by decide) ?_
        refine g_icmp_ne F (tgt := 53) d_Mo_bogus_46 (by decide) (fun h => ?_) (fun h => ?_)
        · rw [if_neg h] at hf
          refine g_iconst F (v := 0) d_Mo_bogus_53 (by decide) ?_
          refine g_put F in_X13 0 rfl rfl 8 (by decide) tyX13 tyX13_ok nmX13 mw_1114 rfl rfl rfl (Nat.le_of_ble_eq_true rfl) (ws' := (Wn ad cA (q_Mo_names tMo) (q_Mo_gives tMo) (q_Mo_turned tMo) (q_Mo_size tMo) (q_Mo_bytes tMo) (q_Mo_n tMo) (q_Mo_text tMo) (q_Mo_p tMo) 0 (q_Mo_tokens tMo) (q_Mo_kinds tMo) (q_Mo_firsts tMo) (q_Mo_sizes tMo) (q_Mo_marks tMo) (q_Mo_attributes tMo) (q_Mo_manyOf tMo) (q_Mo_attributeCount tMo) (q_Mo_nameAt tMo) (q_Mo_nameSize tMo) (q_Mo_valueAt tMo) (q_Mo_valueSize tMo) (q_Mo_goes tMo) (q_Mo_rowSize tMo) (q_Mo_row tMo) (q_Mo_textAt tMo) (q_Mo_textSize tMo) (q_Mo_faultCount tMo) (q_Mo_codes tMo) (q_Mo_places tMo) (q_Mo_outSize tMo) (q_Mo_out tMo) (q_Mo_which tMo))) rfl d_Mo_bogus_54 ?_
          refine g_aload_n F d_Mo_bogus_57 0 rfl ?_
          refine g_dup F d_Mo_bogus_58 rfl ?_
          refine g_get F (v := .int (q_Mo_p tMo)) in_X13 0 rfl rfl 7 (by decide) mw_1113 rfl d_Mo_bogus_59 ?_
          refine g_iconst F (v := 1) d_Mo_bogus_62 (by decide) ?_
          refine g_iadd F d_Mo_bogus_63 ?_
          refine g_put F in_X13 0 rfl rfl 7 (by decide) tyX13 tyX13_ok nmX13 mw_1113 rfl rfl rfl (Nat.le_of_ble_eq_true rfl) (ws' := (Wn ad cA (q_Mo_names tMo) (q_Mo_gives tMo) (q_Mo_turned tMo) (q_Mo_size tMo) (q_Mo_bytes tMo) (q_Mo_n tMo) (q_Mo_text tMo) ((q_Mo_p tMo) + 1) 0 (q_Mo_tokens tMo) (q_Mo_kinds tMo) (q_Mo_firsts tMo) (q_Mo_sizes tMo) (q_Mo_marks tMo) (q_Mo_attributes tMo) (q_Mo_manyOf tMo) (q_Mo_attributeCount tMo) (q_Mo_nameAt tMo) (q_Mo_nameSize tMo) (q_Mo_valueAt tMo) (q_Mo_valueSize tMo) (q_Mo_goes tMo) (q_Mo_rowSize tMo) (q_Mo_row tMo) (q_Mo_textAt tMo) (q_Mo_textSize tMo) (q_Mo_faultCount tMo) (q_Mo_codes tMo) (q_Mo_places tMo) (q_Mo_outSize tMo) (q_Mo_out tMo) (q_Mo_which tMo))) rfl d_Mo_bogus_64 ?_
          refine g_aload_n F d_Mo_bogus_67 0 rfl ?_
          obtain ⟨x3, hx3, hf⟩ := g_bind hf
          refine g_cv F (ws' := (Wo ad cA x3)) (fun H locs ls hP hD hS hl => g_runV F (As := []) (n := 0) mw_1316 rfl rfl ⟨by decide, by decide⟩ rfl (by exact Nat.le_of_ble_eq_true rfl) mw_1313 mw_1315 mw_50 mw_85 (by decide +kernel) d_Mo_bogus_68 hP hD hS hl (va_recv F.2.2.2.2.2.1 hP (ci := 9) rfl (q0 := 0) rfl) (c_Mo_tell l D cA z ad (u_Mo_p_ended tMo ((q_Mo_p tMo) + 1) 0) hx3 H.size)) ?_
          cases hf
          exact g_vret F hr hlk rfl rfl d_Mo_bogus_71
        · rw [if_pos h] at hf
          refine g_iconst F (v := 1) d_Mo_bogus_49 (by decide) ?_
          refine g_goto F (tgt := 54) d_Mo_bogus_50 (by decide) ?_
          refine g_put F in_X13 0 rfl rfl 8 (by decide) tyX13 tyX13_ok nmX13 mw_1114 rfl rfl rfl (Nat.le_of_ble_eq_true rfl) (ws' := (Wn ad cA (q_Mo_names tMo) (q_Mo_gives tMo) (q_Mo_turned tMo) (q_Mo_size tMo) (q_Mo_bytes tMo) (q_Mo_n tMo) (q_Mo_text tMo) (q_Mo_p tMo) 1 (q_Mo_tokens tMo) (q_Mo_kinds tMo) (q_Mo_firsts tMo) (q_Mo_sizes tMo) (q_Mo_marks tMo) (q_Mo_attributes tMo) (q_Mo_manyOf tMo) (q_Mo_attributeCount tMo) (q_Mo_nameAt tMo) (q_Mo_nameSize tMo) (q_Mo_valueAt tMo) (q_Mo_valueSize tMo) (q_Mo_goes tMo) (q_Mo_rowSize tMo) (q_Mo_row tMo) (q_Mo_textAt tMo) (q_Mo_textSize tMo) (q_Mo_faultCount tMo) (q_Mo_codes tMo) (q_Mo_places tMo) (q_Mo_outSize tMo) (q_Mo_out tMo) (q_Mo_which tMo))) rfl d_Mo_bogus_54 ?_
          refine g_aload_n F d_Mo_bogus_57 0 rfl ?_
          refine g_dup F d_Mo_bogus_58 rfl ?_
          refine g_get F (v := .int (q_Mo_p tMo)) in_X13 0 rfl rfl 7 (by decide) mw_1113 rfl d_Mo_bogus_59 ?_
          refine g_iconst F (v := 1) d_Mo_bogus_62 (by decide) ?_
          refine g_iadd F d_Mo_bogus_63 ?_
          refine g_put F in_X13 0 rfl rfl 7 (by decide) tyX13 tyX13_ok nmX13 mw_1113 rfl rfl rfl (Nat.le_of_ble_eq_true rfl) (ws' := (Wn ad cA (q_Mo_names tMo) (q_Mo_gives tMo) (q_Mo_turned tMo) (q_Mo_size tMo) (q_Mo_bytes tMo) (q_Mo_n tMo) (q_Mo_text tMo) ((q_Mo_p tMo) + 1) 1 (q_Mo_tokens tMo) (q_Mo_kinds tMo) (q_Mo_firsts tMo) (q_Mo_sizes tMo) (q_Mo_marks tMo) (q_Mo_attributes tMo) (q_Mo_manyOf tMo) (q_Mo_attributeCount tMo) (q_Mo_nameAt tMo) (q_Mo_nameSize tMo) (q_Mo_valueAt tMo) (q_Mo_valueSize tMo) (q_Mo_goes tMo) (q_Mo_rowSize tMo) (q_Mo_row tMo) (q_Mo_textAt tMo) (q_Mo_textSize tMo) (q_Mo_faultCount tMo) (q_Mo_codes tMo) (q_Mo_places tMo) (q_Mo_outSize tMo) (q_Mo_out tMo) (q_Mo_which tMo))) rfl d_Mo_bogus_64 ?_
          refine g_aload_n F d_Mo_bogus_67 0 rfl ?_
          obtain ⟨x4, hx4, hf⟩ := g_bind hf
          refine g_cv F (ws' := (Wo ad cA x4)) (fun H locs ls hP hD hS hl => g_runV F (As := []) (n := 0) mw_1316 rfl rfl ⟨by decide, by decide⟩ rfl (by exact Nat.le_of_ble_eq_true rfl) mw_1313 mw_1315 mw_50 mw_85 (by decide +kernel) d_Mo_bogus_68 hP hD hS hl (va_recv F.2.2.2.2.2.1 hP (ci := 9) rfl (q0 := 0) rfl) (c_Mo_tell l D cA z ad (u_Mo_p_ended tMo ((q_Mo_p tMo) + 1) 1) hx4 H.size)) ?_
          cases hf
          exact g_vret F hr hlk rfl rfl d_Mo_bogus_71
      · rw [if_neg h] at hf
        refine g_aload_n F d_Mo_bogus_12 0 rfl ?_
        refine g_aload_n F d_Mo_bogus_13 0 rfl ?_
        refine g_get F (v := .int (q_Mo_p tMo)) in_X13 0 rfl rfl 7 (by decide) mw_1113 rfl d_Mo_bogus_14 ?_
        obtain ⟨x5, hx5, hf⟩ := g_bind hf
        refine g_ci F (r0 := x5) (ws' := (Wo ad cA tMo)) (fun H locs ls hP hD hS hl => g_runV F (As := [.int (q_Mo_p tMo)]) (n := 1) mw_1228 rfl rfl ⟨by decide, by decide⟩ rfl (by exact Nat.le_of_ble_eq_true rfl) mw_1225 mw_1227 mw_34 mw_85 (by decide +kernel) d_Mo_bogus_17 hP hD hS hl (va_recv F.2.2.2.2.2.1 hP (ci := 9) rfl (q0 := 0) rfl) (c_Mo_charAt l D cA z ad tMo (q_Mo_p tMo) hx5 H.size)) ?_
        refine g_bipush F (v := 62) d_Mo_bogus_20 (by decide) ?_
        refine g_icmp_eq F (tgt := 36) d_Mo_bogus_22 (by decide) (fun h => ?_) (fun h => ?_)
        · rw [if_pos h] at hf
          refine g_aload_n F d_Mo_bogus_36 0 rfl ?_
          refine g_aload_n F d_Mo_bogus_37 0 rfl ?_
          refine g_aload_n F d_Mo_bogus_38 0 rfl ?_
          refine g_get F (v := .int (q_Mo_p tMo)) in_X13 0 rfl rfl 7 (by decide) mw_1113 rfl d_Mo_bogus_39 ?_
          obtain ⟨x6, hx6, hf⟩ := g_bind hf
          refine g_ci F (r0 := x6) (ws' := (Wo ad cA tMo)) (fun H locs ls hP hD hS hl => g_runV F (As := [.int (q_Mo_p tMo)]) (n := 1) mw_1228 rfl rfl ⟨by decide, by decide⟩ rfl (by exact Nat.le_of_ble_eq_true rfl) mw_1225 mw_1227 mw_34 mw_85 (by decide +kernel) d_Mo_bogus_42 hP hD hS hl (va_recv F.2.2.2.2.2.1 hP (ci := 9) rfl (q0 := 0) rfl) (c_Mo_charAt l D cA z ad tMo (q_Mo_p tMo) hx6 H.size)) ?_
          refine g_iconst F (v := (-1)) d_Mo_bogus_45 (by decide) ?_
          refine g_icmp_ne F (tgt := 53) d_Mo_bogus_46 (by decide) (fun h => ?_) (fun h => ?_)
          · rw [if_neg h] at hf
            refine g_iconst F (v := 0) d_Mo_bogus_53 (by decide) ?_
            refine g_put F in_X13 0 rfl rfl 8 (by decide) tyX13 tyX13_ok nmX13 mw_1114 rfl rfl rfl (Nat.le_of_ble_eq_true rfl) (ws' := (Wn ad cA (q_Mo_names tMo) (q_Mo_gives tMo) (q_Mo_turned tMo) (q_Mo_size tMo) (q_Mo_bytes tMo) (q_Mo_n tMo) (q_Mo_text tMo) (q_Mo_p tMo) 0 (q_Mo_tokens tMo) (q_Mo_kinds tMo) (q_Mo_firsts tMo) (q_Mo_sizes tMo) (q_Mo_marks tMo) (q_Mo_attributes tMo) (q_Mo_manyOf tMo) (q_Mo_attributeCount tMo) (q_Mo_nameAt tMo) (q_Mo_nameSize tMo) (q_Mo_valueAt tMo) (q_Mo_valueSize tMo) (q_Mo_goes tMo) (q_Mo_rowSize tMo) (q_Mo_row tMo) (q_Mo_textAt tMo) (q_Mo_textSize tMo) (q_Mo_faultCount tMo) (q_Mo_codes tMo) (q_Mo_places tMo) (q_Mo_outSize tMo) (q_Mo_out tMo) (q_Mo_which tMo))) rfl d_Mo_bogus_54 ?_
            refine g_aload_n F d_Mo_bogus_57 0 rfl ?_
            refine g_dup F d_Mo_bogus_58 rfl ?_
            refine g_get F (v := .int (q_Mo_p tMo)) in_X13 0 rfl rfl 7 (by decide) mw_1113 rfl d_Mo_bogus_59 ?_
            refine g_iconst F (v := 1) d_Mo_bogus_62 (by decide) ?_
            refine g_iadd F d_Mo_bogus_63 ?_
            refine g_put F in_X13 0 rfl rfl 7 (by decide) tyX13 tyX13_ok nmX13 mw_1113 rfl rfl rfl (Nat.le_of_ble_eq_true rfl) (ws' := (Wn ad cA (q_Mo_names tMo) (q_Mo_gives tMo) (q_Mo_turned tMo) (q_Mo_size tMo) (q_Mo_bytes tMo) (q_Mo_n tMo) (q_Mo_text tMo) ((q_Mo_p tMo) + 1) 0 (q_Mo_tokens tMo) (q_Mo_kinds tMo) (q_Mo_firsts tMo) (q_Mo_sizes tMo) (q_Mo_marks tMo) (q_Mo_attributes tMo) (q_Mo_manyOf tMo) (q_Mo_attributeCount tMo) (q_Mo_nameAt tMo) (q_Mo_nameSize tMo) (q_Mo_valueAt tMo) (q_Mo_valueSize tMo) (q_Mo_goes tMo) (q_Mo_rowSize tMo) (q_Mo_row tMo) (q_Mo_textAt tMo) (q_Mo_textSize tMo) (q_Mo_faultCount tMo) (q_Mo_codes tMo) (q_Mo_places tMo) (q_Mo_outSize tMo) (q_Mo_out tMo) (q_Mo_which tMo))) rfl d_Mo_bogus_64 ?_
            refine g_aload_n F d_Mo_bogus_67 0 rfl ?_
            obtain ⟨x7, hx7, hf⟩ := g_bind hf
            refine g_cv F (ws' := (Wo ad cA x7)) (fun H locs ls hP hD hS hl => g_runV F (As := []) (n := 0) mw_1316 rfl rfl ⟨by decide, by decide⟩ rfl (by exact Nat.le_of_ble_eq_true rfl) mw_1313 mw_1315 mw_50 mw_85 (by decide +kernel) d_Mo_bogus_68 hP hD hS hl (va_recv F.2.2.2.2.2.1 hP (ci := 9) rfl (q0 := 0) rfl) (c_Mo_tell l D cA z ad (u_Mo_p_ended tMo ((q_Mo_p tMo) + 1) 0) hx7 H.size)) ?_
            cases hf
            exact g_vret F hr hlk rfl rfl d_Mo_bogus_71
          · rw [if_pos h] at hf
            refine g_iconst F (v := 1) d_Mo_bogus_49 (by decide) ?_
            refine g_goto F (tgt := 54) d_Mo_bogus_50 (by decide) ?_
            refine g_put F in_X13 0 rfl rfl 8 (by decide) tyX13 tyX13_ok nmX13 mw_1114 rfl rfl rfl (Nat.le_of_ble_eq_true rfl) (ws' := (Wn ad cA (q_Mo_names tMo) (q_Mo_gives tMo) (q_Mo_turned tMo) (q_Mo_size tMo) (q_Mo_bytes tMo) (q_Mo_n tMo) (q_Mo_text tMo) (q_Mo_p tMo) 1 (q_Mo_tokens tMo) (q_Mo_kinds tMo) (q_Mo_firsts tMo) (q_Mo_sizes tMo) (q_Mo_marks tMo) (q_Mo_attributes tMo) (q_Mo_manyOf tMo) (q_Mo_attributeCount tMo) (q_Mo_nameAt tMo) (q_Mo_nameSize tMo) (q_Mo_valueAt tMo) (q_Mo_valueSize tMo) (q_Mo_goes tMo) (q_Mo_rowSize tMo) (q_Mo_row tMo) (q_Mo_textAt tMo) (q_Mo_textSize tMo) (q_Mo_faultCount tMo) (q_Mo_codes tMo) (q_Mo_places tMo) (q_Mo_outSize tMo) (q_Mo_out tMo) (q_Mo_which tMo))) rfl d_Mo_bogus_54 ?_
            refine g_aload_n F d_Mo_bogus_57 0 rfl ?_
            refine g_dup F d_Mo_bogus_58 rfl ?_
            refine g_get F (v := .int (q_Mo_p tMo)) in_X13 0 rfl rfl 7 (by decide) mw_1113 rfl d_Mo_bogus_59 ?_
            refine g_iconst F (v := 1) d_Mo_bogus_62 (by decide) ?_
            refine g_iadd F d_Mo_bogus_63 ?_
            refine g_put F in_X13 0 rfl rfl 7 (by decide) tyX13 tyX13_ok nmX13 mw_1113 rfl rfl rfl (Nat.le_of_ble_eq_true rfl) (ws' := (Wn ad cA (q_Mo_names tMo) (q_Mo_gives tMo) (q_Mo_turned tMo) (q_Mo_size tMo) (q_Mo_bytes tMo) (q_Mo_n tMo) (q_Mo_text tMo) ((q_Mo_p tMo) + 1) 1 (q_Mo_tokens tMo) (q_Mo_kinds tMo) (q_Mo_firsts tMo) (q_Mo_sizes tMo) (q_Mo_marks tMo) (q_Mo_attributes tMo) (q_Mo_manyOf tMo) (q_Mo_attributeCount tMo) (q_Mo_nameAt tMo) (q_Mo_nameSize tMo) (q_Mo_valueAt tMo) (q_Mo_valueSize tMo) (q_Mo_goes tMo) (q_Mo_rowSize tMo) (q_Mo_row tMo) (q_Mo_textAt tMo) (q_Mo_textSize tMo) (q_Mo_faultCount tMo) (q_Mo_codes tMo) (q_Mo_places tMo) (q_Mo_outSize tMo) (q_Mo_out tMo) (q_Mo_which tMo))) rfl d_Mo_bogus_64 ?_
            refine g_aload_n F d_Mo_bogus_67 0 rfl ?_
            obtain ⟨x8, hx8, hf⟩ := g_bind hf
            refine g_cv F (ws' := (Wo ad cA x8)) (fun H locs ls hP hD hS hl => g_runV F (As := []) (n := 0) mw_1316 rfl rfl ⟨by decide, by decide⟩ rfl (by exact Nat.le_of_ble_eq_true rfl) mw_1313 mw_1315 mw_50 mw_85 (by decide +kernel) d_Mo_bogus_68 hP hD hS hl (va_recv F.2.2.2.2.2.1 hP (ci := 9) rfl (q0 := 0) rfl) (c_Mo_tell l D cA z ad (u_Mo_p_ended tMo ((q_Mo_p tMo) + 1) 1) hx8 H.size)) ?_
            cases hf
            exact g_vret F hr hlk rfl rfl d_Mo_bogus_71
        · rw [if_neg h] at hf
          refine g_aload_n F d_Mo_bogus_25 0 rfl ?_
          refine g_aload_n F d_Mo_bogus_26 0 rfl ?_
          obtain ⟨x9, hx9, hf⟩ := g_bind hf
          refine g_ci F (r0 := x9.1) (ws' := (Wo ad cA x9.2)) (fun H locs ls hP hD hS hl => g_runV F (As := []) (n := 0) mw_1340 rfl rfl ⟨by decide, by decide⟩ rfl (by exact Nat.le_of_ble_eq_true rfl) mw_1337 mw_1339 mw_55 mw_85 (by decide +kernel) d_Mo_bogus_27 hP hD hS hl (va_recv F.2.2.2.2.2.1 hP (ci := 9) rfl (q0 := 0) rfl) (c_Mo_known l D cA z ad tMo hx9 H.size)) ?_
          obtain ⟨x10, hx10, hf⟩ := g_bind hf
          refine g_cv F (ws' := (Wo ad cA x10)) (fun H locs ls hP hD hS hl => g_runV F (As := [.int x9.1]) (n := 1) mw_1259 rfl rfl ⟨by decide, by decide⟩ rfl (by exact Nat.le_of_ble_eq_true rfl) mw_1256 mw_1258 mw_40 mw_85 (by decide +kernel) d_Mo_bogus_30 hP hD hS hl (va_recv F.2.2.2.2.2.1 hP (ci := 9) rfl (q0 := 0) rfl) (c_Mo_keep l D cA z ad x9.2 x9.1 hx10 H.size)) ?_
          refine g_goto F (tgt := 0) d_Mo_bogus_33 (by decide) ?_
          exact ih x10 hf
  unfold f_Mo_bogus at hf
  exact blk0 FU sMo hf
