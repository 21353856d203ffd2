set_option maxHeartbeats 4000000 in
set_option maxRecDepth 100000 in
theorem c_Mo_value (l : Launch) (D : va_G) (cA : Nat → ClassId) (z : gZ) (ad : Nat → Nat) (sMo : SMo) (a1 : Int32) {x : Int32 × SMo} (hf : f_Mo_value a1 sMo = some x) (sz : Nat) : Met l y_Mo_value (.code y_Mo_value b_Mo_value 5 (some .boolean) :: lw_g) { frames := 6, cells := 0, slots := 0, locals := 135 } (gP D (gT cA) z [.ref (ad 0), .int a1] (Wo ad cA sMo) sz) (gQi D (gT cA) (va_A (Wo ad cA sMo) sz) x.1 (Wo ad cA x.2)) 0 0 (va_A (Wo ad cA sMo) sz) := by
  refine g_met (by decide) (Nat.le_of_ble_eq_true rfl) rfl ?_
  intro p e s m args below meth c F hr hlk
  have blk203 : ∀ (v1 : Int32) (v2 : Int32) (v3 : Int32) (v4 : Int32) (tMo : SMo), f_Mo_value_203 v1 v2 v3 v4 tMo = some x → GW p l e { frames := 6, cells := 0, slots := 0, locals := 135 } s m args below meth c (gQi D (gT cA) (va_A (Wo ad cA sMo) sz) x.1 (Wo ad cA x.2)) D (va_A (Wo ad cA sMo) sz) 5 (Wo ad cA tMo) 203 [(0, .ref (ad 0)), (1, .int v1), (2, .int v2), (3, .int v3), (4, .int v4)] [] := by
    intro v1 v2 v3 v4 tMo hf
    unfold f_Mo_value_203 at hf
    refine g_aload_n F d_Mo_value_203 0 rfl ?_
    refine g_get F (v := .ref (ad 15)) in_X13 0 rfl rfl 20 (by decide) mw_1126 rfl d_Mo_value_204 ?_
    refine g_iload_n F d_Mo_value_207 1 rfl ?_
    refine g_aload_n F d_Mo_value_208 0 rfl ?_
    refine g_get F (v := .int (q_Mo_rowSize tMo)) in_X13 0 rfl rfl 22 (by decide) mw_1128 rfl d_Mo_value_209 ?_
    refine g_aload_n F d_Mo_value_212 0 rfl ?_
    refine g_get F (v := .ref (ad 14)) in_X13 0 rfl rfl 19 (by decide) mw_1125 rfl d_Mo_value_213 ?_
    refine g_iload_n F d_Mo_value_216 1 rfl ?_
    obtain ⟨k1, hf⟩ := g_chk hf
    refine g_iald F (f := (q_Mo_valueAt tMo)) 14 0 rfl rfl k1 d_Mo_value_217 ?_
    refine g_isub F d_Mo_value_218 ?_
    obtain ⟨k2, hf⟩ := g_chk hf
    refine g_iast F (f := (q_Mo_valueSize tMo)) 15 0 rfl rfl k2 (ws' := (Wn ad cA (q_Mo_names tMo) (q_Mo_gives tMo) (q_Mo_turned tMo) (q_Mo_size tMo) (q_Mo_bytes tMo) (q_Mo_n tMo) (q_Mo_text tMo) (q_Mo_p tMo) (q_Mo_ended tMo) (q_Mo_tokens tMo) (q_Mo_kinds tMo) (q_Mo_firsts tMo) (q_Mo_sizes tMo) (q_Mo_marks tMo) (q_Mo_attributes tMo) (q_Mo_manyOf tMo) (q_Mo_attributeCount tMo) (q_Mo_nameAt tMo) (q_Mo_nameSize tMo) (q_Mo_valueAt tMo) (upd (q_Mo_valueSize tMo) (v1 : Int32).toNatClampNeg ((q_Mo_rowSize tMo) - ((q_Mo_valueAt tMo) (v1 : Int32).toNatClampNeg))) (q_Mo_goes tMo) (q_Mo_rowSize tMo) (q_Mo_row tMo) (q_Mo_textAt tMo) (q_Mo_textSize tMo) (q_Mo_faultCount tMo) (q_Mo_codes tMo) (q_Mo_places tMo) (q_Mo_outSize tMo) (q_Mo_out tMo) (q_Mo_which tMo))) rfl d_Mo_value_219 ?_
    refine g_iload F d_Mo_value_220 4 rfl ?_
    refine g_iconst F (v := (-1)) d_Mo_value_222 (by decide) ?_
    refine g_icmp_ne F (tgt := 232) d_Mo_value_223 (by decide) (fun h => ?_) (fun h => ?_)
    · rw [if_neg h] at hf
      refine g_iload_n F d_Mo_value_232 3 rfl ?_
      refine g_if_eq F (tgt := 294) d_Mo_value_233 (by decide) (fun h => ?_) (fun h => ?_)
      · rw [if_pos h] at hf
        refine g_iconst F (v := 1) d_Mo_value_294 (by decide) ?_
        cases hf
        exact g_zret F hr rfl hlk rfl rfl rfl d_Mo_value_295
      · rw [if_neg h] at hf
        refine g_aload_n F d_Mo_value_236 0 rfl ?_
        refine g_dup F d_Mo_value_237 rfl ?_
        refine g_get F (v := .int (q_Mo_p tMo)) in_X13 0 rfl rfl 7 (by decide) mw_1113 rfl d_Mo_value_238 ?_
        refine g_iconst F (v := 1) d_Mo_value_241 (by decide) ?_
        refine g_iadd F d_Mo_value_242 ?_
        refine g_put F in_X13 0 rfl rfl 7 (by decide) tyX13 tyX13_ok nmX13 mw_1113 rfl rfl rfl (Nat.le_of_ble_eq_true rfl) (ws' := (Wn ad cA (q_Mo_names tMo) (q_Mo_gives tMo) (q_Mo_turned tMo) (q_Mo_size tMo) (q_Mo_bytes tMo) (q_Mo_n tMo) (q_Mo_text tMo) ((q_Mo_p tMo) + 1) (q_Mo_ended tMo) (q_Mo_tokens tMo) (q_Mo_kinds tMo) (q_Mo_firsts tMo) (q_Mo_sizes tMo) (q_Mo_marks tMo) (q_Mo_attributes tMo) (q_Mo_manyOf tMo) (q_Mo_attributeCount tMo) (q_Mo_nameAt tMo) (q_Mo_nameSize tMo) (q_Mo_valueAt tMo) (upd (q_Mo_valueSize tMo) (v1 : Int32).toNatClampNeg ((q_Mo_rowSize tMo) - ((q_Mo_valueAt tMo) (v1 : Int32).toNatClampNeg))) (q_Mo_goes tMo) (q_Mo_rowSize tMo) (q_Mo_row tMo) (q_Mo_textAt tMo) (q_Mo_textSize tMo) (q_Mo_faultCount tMo) (q_Mo_codes tMo) (q_Mo_places tMo) (q_Mo_outSize tMo) (q_Mo_out tMo) (q_Mo_which tMo))) rfl d_Mo_value_243 ?_
        refine g_aload_n F d_Mo_value_246 0 rfl ?_
        refine g_aload_n F d_Mo_value_247 0 rfl ?_
        refine g_get F (v := .int ((q_Mo_p tMo) + 1)) in_X13 0 rfl rfl 7 (by decide) mw_1113 rfl d_Mo_value_248 ?_
        obtain ⟨x1, hx1, hf⟩ := g_bind hf
        refine g_ci F (r0 := x1) (ws' := (Wn ad cA (q_Mo_names tMo) (q_Mo_gives tMo) (q_Mo_turned tMo) (q_Mo_size tMo) (q_Mo_bytes tMo) (q_Mo_n tMo) (q_Mo_text tMo) ((q_Mo_p tMo) + 1) (q_Mo_ended tMo) (q_Mo_tokens tMo) (q_Mo_kinds tMo) (q_Mo_firsts tMo) (q_Mo_sizes tMo) (q_Mo_marks tMo) (q_Mo_attributes tMo) (q_Mo_manyOf tMo) (q_Mo_attributeCount tMo) (q_Mo_nameAt tMo) (q_Mo_nameSize tMo) (q_Mo_valueAt tMo) (upd (q_Mo_valueSize tMo) (v1 : Int32).toNatClampNeg ((q_Mo_rowSize tMo) - ((q_Mo_valueAt tMo) (v1 : Int32).toNatClampNeg))) (q_Mo_goes tMo) (q_Mo_rowSize tMo) (q_Mo_row tMo) (q_Mo_textAt tMo) (q_Mo_textSize tMo) (q_Mo_faultCount tMo) (q_Mo_codes tMo) (q_Mo_places tMo) (q_Mo_outSize tMo) (q_Mo_out tMo) (q_Mo_which tMo))) (fun H locs ls hP hD hS hl => g_runV F (As := [.int ((q_Mo_p tMo) + 1)]) (n := 1) mw_1228 rfl rfl ⟨by decide, by decide⟩ rfl (by exact Nat.le_of_ble_eq_true rfl) mw_1225 mw_1227 mw_34 mw_85 (by decide +kernel) d_Mo_value_251 hP hD hS hl (va_recv F.2.2.2.2.2.1 hP (ci := 9) rfl (q0 := 0) rfl) (c_Mo_charAt l D cA z ad (u_Mo_p_valueSize tMo ((q_Mo_p tMo) + 1) (upd (q_Mo_valueSize tMo) (v1 : Int32).toNatClampNeg ((q_Mo_rowSize tMo) - ((q_Mo_valueAt tMo) (v1 : Int32).toNatClampNeg)))) ((q_Mo_p tMo) + 1) hx1 H.size)) ?_
        refine g_istore F (L' := [(4, .int x1), (0, .ref (ad 0)), (1, .int v1), (2, .int v2), (3, .int v3)]) d_Mo_value_254 (by decide) rfl ?_
        refine g_iload F d_Mo_value_256 0 rfl ?_
        refine g_iconst F (v := (-1)) d_Mo_value_258 (by decide) ?_
        refine g_icmp_eq F (tgt := 294) d_Mo_value_259 (by decide) (fun h => ?_) (fun h => ?_)
        · rw [if_pos h] at hf
          refine g_iconst F (v := 1) d_Mo_value_294 (by decide) ?_
          cases hf
          exact g_zret F hr rfl hlk rfl rfl rfl d_Mo_value_295
        · rw [if_neg h] at hf
          refine g_iload F d_Mo_value_262 0 rfl ?_
          refine g_ci F (r0 := (f_Mo_isBlank x1)) (ws' := (Wn ad cA (q_Mo_names tMo) (q_Mo_gives tMo) (q_Mo_turned tMo) (q_Mo_size tMo) (q_Mo_bytes tMo) (q_Mo_n tMo) (q_Mo_text tMo) ((q_Mo_p tMo) + 1) (q_Mo_ended tMo) (q_Mo_tokens tMo) (q_Mo_kinds tMo) (q_Mo_firsts tMo) (q_Mo_sizes tMo) (q_Mo_marks tMo) (q_Mo_attributes tMo) (q_Mo_manyOf tMo) (q_Mo_attributeCount tMo) (q_Mo_nameAt tMo) (q_Mo_nameSize tMo) (q_Mo_valueAt tMo) (upd (q_Mo_valueSize tMo) (v1 : Int32).toNatClampNeg ((q_Mo_rowSize tMo) - ((q_Mo_valueAt tMo) (v1 : Int32).toNatClampNeg))) (q_Mo_goes tMo) (q_Mo_rowSize tMo) (q_Mo_row tMo) (q_Mo_textAt tMo) (q_Mo_textSize tMo) (q_Mo_faultCount tMo) (q_Mo_codes tMo) (q_Mo_places tMo) (q_Mo_outSize tMo) (q_Mo_out tMo) (q_Mo_which tMo))) (fun H locs ls hP hD hS hl => g_runS F (As := [.int x1]) (n := 1) mw_1277 rfl rfl ⟨by decide, by decide⟩ rfl (by exact Nat.le_of_ble_eq_true rfl) mw_1275 mw_1276 mw_85 (by decide +kernel) d_Mo_value_264 hP hD hS hl (c_Mo_isBlank l D cA z ad (u_Mo_p_valueSize tMo ((q_Mo_p tMo) + 1) (upd (q_Mo_valueSize tMo) (v1 : Int32).toNatClampNeg ((q_Mo_rowSize tMo) - ((q_Mo_valueAt tMo) (v1 : Int32).toNatClampNeg)))) x1 rfl H.size)) ?_
          refine g_if_ne F (tgt := 294) d_Mo_value_267 (by decide) (fun h => ?_) (fun h => ?_)
          · rw [if_neg h] at hf
            refine g_iconst F (v := 1) d_Mo_value_294 (by decide) ?_
            cases hf
            exact g_zret F hr rfl hlk rfl rfl rfl d_Mo_value_295
          · rw [if_pos h] at hf
            refine g_iload F d_Mo_value_270 0 rfl ?_
            refine g_bipush F (v := 47) d_Mo_value_272 (by decide) ?_
            refine g_icmp_eq F (tgt := 294) d_Mo_value_274 (by decide) (fun h => ?_) (fun h => ?_)
            · rw [if_pos h] at hf
              refine g_iconst F (v := 1) d_Mo_value_294 (by decide) ?_
              cases hf
              exact g_zret F hr rfl hlk rfl rfl rfl d_Mo_value_295
            · rw [if_neg h] at hf
              refine g_iload F d_Mo_value_277 0 rfl ?_
              refine g_bipush F (v := 62) d_Mo_value_279 (by decide) ?_
              refine g_icmp_eq F (tgt := 294) d_Mo_value_281 (by decide) (fun h => ?_) (fun h => ?_)
              · rw [if_pos h] at hf
                refine g_iconst F (v := 1) d_Mo_value_294 (by decide) ?_
                cases hf
                exact g_zret F hr rfl hlk rfl rfl rfl d_Mo_value_295
              · rw [if_neg h] at hf
                refine g_aload_n F d_Mo_value_284 1 rfl ?_
                refine g_bipush F (v := 12) d_Mo_value_285 (by decide) ?_
                refine g_aload_n F d_Mo_value_287 1 rfl ?_
                refine g_get F (v := .int ((q_Mo_p tMo) + 1)) in_X13 0 rfl rfl 7 (by decide) mw_1113 rfl d_Mo_value_288 ?_
                obtain ⟨x2, hx2, hf⟩ := g_bind hf
                refine g_cv F (ws' := (Wo ad cA x2)) (fun H locs ls hP hD hS hl => g_runV F (As := [.int 12, .int ((q_Mo_p tMo) + 1)]) (n := 2) mw_1247 rfl rfl ⟨by decide, by decide⟩ rfl (by exact Nat.le_of_ble_eq_true rfl) mw_1244 mw_1246 mw_37 mw_85 (by decide +kernel) d_Mo_value_291 hP hD hS hl (va_recv F.2.2.2.2.2.1 hP (ci := 9) rfl (q0 := 0) rfl) (c_Mo_wrong l D cA z ad (u_Mo_p_valueSize tMo ((q_Mo_p tMo) + 1) (upd (q_Mo_valueSize tMo) (v1 : Int32).toNatClampNeg ((q_Mo_rowSize tMo) - ((q_Mo_valueAt tMo) (v1 : Int32).toNatClampNeg)))) 12 ((q_Mo_p tMo) + 1) hx2 H.size)) ?_
                refine g_iconst F (v := 1) d_Mo_value_294 (by decide) ?_
                cases hf
                exact g_zret F hr rfl hlk rfl rfl rfl d_Mo_value_295
    · rw [if_pos h] at hf
      refine g_aload_n F d_Mo_value_226 0 rfl ?_
      obtain ⟨x3, hx3, hf⟩ := g_bind hf
      refine g_cv F (ws' := (Wo ad cA x3)) (fun H locs ls hP hD hS hl => g_runV F (As := []) (n := 0) mw_1360 rfl rfl ⟨by decide, by decide⟩ rfl (by exact Nat.le_of_ble_eq_true rfl) mw_1357 mw_1359 mw_60 mw_85 (by decide +kernel) d_Mo_value_227 hP hD hS hl (va_recv F.2.2.2.2.2.1 hP (ci := 9) rfl (q0 := 0) rfl) (c_Mo_drop l D cA z ad (u_Mo_valueSize tMo (upd (q_Mo_valueSize tMo) (v1 : Int32).toNatClampNeg ((q_Mo_rowSize tMo) - ((q_Mo_valueAt tMo) (v1 : Int32).toNatClampNeg)))) hx3 H.size)) ?_
      refine g_iconst F (v := 0) d_Mo_value_230 (by decide) ?_
      cases hf
      exact g_zret F hr rfl hlk rfl rfl rfl d_Mo_value_231
  have blk172 : ∀ (k84 : Int32 → Int32 → Int32 → Int32 → SMo → Option (Int32 × SMo)), (∀ (v1 : Int32) (v2 : Int32) (v3 : Int32) (v4 : Int32) (tMo : SMo), k84 v1 v2 v3 v4 tMo = some x → GW p l e { frames := 6, cells := 0, slots := 0, locals := 135 } s m args below meth c (gQi D (gT cA) (va_A (Wo ad cA sMo) sz) x.1 (Wo ad cA x.2)) D (va_A (Wo ad cA sMo) sz) 5 (Wo ad cA tMo) 84 [(0, .ref (ad 0)), (1, .int v1), (2, .int v2), (3, .int v3), (4, .int v4)] []) → ∀ (v1 : Int32) (v2 : Int32) (v3 : Int32) (v4 : Int32) (tMo : SMo), f_Mo_value_172 k84 v1 v2 v3 v4 tMo = some x → GW p l e { frames := 6, cells := 0, slots := 0, locals := 135 } s m args below meth c (gQi D (gT cA) (va_A (Wo ad cA sMo) sz) x.1 (Wo ad cA x.2)) D (va_A (Wo ad cA sMo) sz) 5 (Wo ad cA tMo) 172 [(0, .ref (ad 0)), (1, .int v1), (2, .int v2), (3, .int v3), (4, .int v4)] [] := by
    intro k84 hk84
    intro v1 v2 v3 v4 tMo hf
    unfold f_Mo_value_172 at hf
    refine g_aload_n F d_Mo_value_172 0 rfl ?_
    refine g_bipush F (v := 11) d_Mo_value_173 (by decide) ?_
    refine g_aload_n F d_Mo_value_175 0 rfl ?_
    refine g_get F (v := .int (q_Mo_p tMo)) in_X13 0 rfl rfl 7 (by decide) mw_1113 rfl d_Mo_value_176 ?_
    obtain ⟨x4, hx4, hf⟩ := g_bind hf
    refine g_cv F (ws' := (Wo ad cA x4)) (fun H locs ls hP hD hS hl => g_runV F (As := [.int 11, .int (q_Mo_p tMo)]) (n := 2) mw_1247 rfl rfl ⟨by decide, by decide⟩ rfl (by exact Nat.le_of_ble_eq_true rfl) mw_1244 mw_1246 mw_37 mw_85 (by decide +kernel) d_Mo_value_179 hP hD hS hl (va_recv F.2.2.2.2.2.1 hP (ci := 9) rfl (q0 := 0) rfl) (c_Mo_wrong l D cA z ad tMo 11 (q_Mo_p tMo) hx4 H.size)) ?_
    refine g_aload_n F d_Mo_value_182 0 rfl ?_
    refine g_aload_n F d_Mo_value_183 0 rfl ?_
    obtain ⟨x5, hx5, hf⟩ := g_bind hf
    refine g_ci F (r0 := x5.1) (ws' := (Wo ad cA x5.2)) (fun H locs ls hP hD hS hl => g_runV F (As := []) (n := 0) mw_1340 rfl rfl ⟨by decide, by decide⟩ rfl (by exact Nat.le_of_ble_eq_true rfl) mw_1337 mw_1339 mw_55 mw_85 (by decide +kernel) d_Mo_value_184 hP hD hS hl (va_recv F.2.2.2.2.2.1 hP (ci := 9) rfl (q0 := 0) rfl) (c_Mo_known l D cA z ad x4 hx5 H.size)) ?_
    obtain ⟨x6, hx6, hf⟩ := g_bind hf
    refine g_cv F (ws' := (Wo ad cA x6)) (fun H locs ls hP hD hS hl => g_runV F (As := [.int x5.1]) (n := 1) mw_1259 rfl rfl ⟨by decide, by decide⟩ rfl (by exact Nat.le_of_ble_eq_true rfl) mw_1256 mw_1258 mw_40 mw_85 (by decide +kernel) d_Mo_value_187 hP hD hS hl (va_recv F.2.2.2.2.2.1 hP (ci := 9) rfl (q0 := 0) rfl) (c_Mo_keep l D cA z ad x5.2 x5.1 hx6 H.size)) ?_
    refine g_aload_n F d_Mo_value_190 0 rfl ?_
    refine g_aload_n F d_Mo_value_191 0 rfl ?_
    refine g_get F (v := .int (q_Mo_p x6)) in_X13 0 rfl rfl 7 (by decide) mw_1113 rfl d_Mo_value_192 ?_
    obtain ⟨x7, hx7, hf⟩ := g_bind hf
    refine g_ci F (r0 := x7) (ws' := (Wo ad cA x6)) (fun H locs ls hP hD hS hl => g_runV F (As := [.int (q_Mo_p x6)]) (n := 1) mw_1228 rfl rfl ⟨by decide, by decide⟩ rfl (by exact Nat.le_of_ble_eq_true rfl) mw_1225 mw_1227 mw_34 mw_85 (by decide +kernel) d_Mo_value_195 hP hD hS hl (va_recv F.2.2.2.2.2.1 hP (ci := 9) rfl (q0 := 0) rfl) (c_Mo_charAt l D cA z ad x6 (q_Mo_p x6) hx7 H.size)) ?_
    refine g_istore F (L' := [(4, .int x7), (0, .ref (ad 0)), (1, .int v1), (2, .int v2), (3, .int v3)]) d_Mo_value_198 (by decide) rfl ?_
    refine g_goto F (tgt := 84) d_Mo_value_200 (by decide) ?_
    refine g_loc [1, 2, 3, 4, 0] rfl ?_
    exact hk84 v1 v2 v3 x7 x6 hf
  have blk118 : ∀ (k84 : Int32 → Int32 → Int32 → Int32 → SMo → Option (Int32 × SMo)), (∀ (v1 : Int32) (v2 : Int32) (v3 : Int32) (v4 : Int32) (tMo : SMo), k84 v1 v2 v3 v4 tMo = some x → GW p l e { frames := 6, cells := 0, slots := 0, locals := 135 } s m args below meth c (gQi D (gT cA) (va_A (Wo ad cA sMo) sz) x.1 (Wo ad cA x.2)) D (va_A (Wo ad cA sMo) sz) 5 (Wo ad cA tMo) 84 [(0, .ref (ad 0)), (1, .int v1), (2, .int v2), (3, .int v3), (4, .int v4)] []) → ∀ (v1 : Int32) (v2 : Int32) (v3 : Int32) (v4 : Int32) (tMo : SMo), f_Mo_value_118 k84 v1 v2 v3 v4 tMo = some x → GW p l e { frames := 6, cells := 0, slots := 0, locals := 135 } s m args below meth c (gQi D (gT cA) (va_A (Wo ad cA sMo) sz) x.1 (Wo ad cA x.2)) D (va_A (Wo ad cA sMo) sz) 5 (Wo ad cA tMo) 118 [(0, .ref (ad 0)), (1, .int v1), (2, .int v2), (3, .int v3), (4, .int v4)] [] := by
    intro k84 hk84
    intro v1 v2 v3 v4 tMo hf
    unfold f_Mo_value_118 at hf
    refine g_iload F d_Mo_value_118 4 rfl ?_
    refine g_bipush F (v := 38) d_Mo_value_120 (by decide) ?_
    refine g_icmp_ne F (tgt := 133) d_Mo_value_122 (by decide) (fun h => ?_) (fun h => ?_)
    · rw [if_neg h] at hf
      refine g_iload_n F d_Mo_value_133 3 rfl ?_
      refine g_if_ne F (tgt := 182) d_Mo_value_134 (by decide) (fun h => ?_) (fun h => ?_)
      · rw [if_neg h] at hf
        refine g_aload_n F d_Mo_value_182 0 rfl ?_
        refine g_aload_n F d_Mo_value_183 0 rfl ?_
        obtain ⟨x8, hx8, hf⟩ := g_bind hf
        refine g_ci F (r0 := x8.1) (ws' := (Wo ad cA x8.2)) (fun H locs ls hP hD hS hl => g_runV F (As := []) (n := 0) mw_1340 rfl rfl ⟨by decide, by decide⟩ rfl (by exact Nat.le_of_ble_eq_true rfl) mw_1337 mw_1339 mw_55 mw_85 (by decide +kernel) d_Mo_value_184 hP hD hS hl (va_recv F.2.2.2.2.2.1 hP (ci := 9) rfl (q0 := 0) rfl) (c_Mo_known l D cA z ad tMo hx8 H.size)) ?_
        obtain ⟨x9, hx9, hf⟩ := g_bind hf
        refine g_cv F (ws' := (Wo ad cA x9)) (fun H locs ls hP hD hS hl => g_runV F (As := [.int x8.1]) (n := 1) mw_1259 rfl rfl ⟨by decide, by decide⟩ rfl (by exact Nat.le_of_ble_eq_true rfl) mw_1256 mw_1258 mw_40 mw_85 (by decide +kernel) d_Mo_value_187 hP hD hS hl (va_recv F.2.2.2.2.2.1 hP (ci := 9) rfl (q0 := 0) rfl) (c_Mo_keep l D cA z ad x8.2 x8.1 hx9 H.size)) ?_
        refine g_aload_n F d_Mo_value_190 0 rfl ?_
        refine g_aload_n F d_Mo_value_191 0 rfl ?_
        refine g_get F (v := .int (q_Mo_p x9)) in_X13 0 rfl rfl 7 (by decide) mw_1113 rfl d_Mo_value_192 ?_
        obtain ⟨x10, hx10, hf⟩ := g_bind hf
        refine g_ci F (r0 := x10) (ws' := (Wo ad cA x9)) (fun H locs ls hP hD hS hl => g_runV F (As := [.int (q_Mo_p x9)]) (n := 1) mw_1228 rfl rfl ⟨by decide, by decide⟩ rfl (by exact Nat.le_of_ble_eq_true rfl) mw_1225 mw_1227 mw_34 mw_85 (by decide +kernel) d_Mo_value_195 hP hD hS hl (va_recv F.2.2.2.2.2.1 hP (ci := 9) rfl (q0 := 0) rfl) (c_Mo_charAt l D cA z ad x9 (q_Mo_p x9) hx10 H.size)) ?_
        refine g_istore F (L' := [(4, .int x10), (0, .ref (ad 0)), (1, .int v1), (2, .int v2), (3, .int v3)]) d_Mo_value_198 (by decide) rfl ?_
        refine g_goto F (tgt := 84) d_Mo_value_200 (by decide) ?_
        refine g_loc [1, 2, 3, 4, 0] rfl ?_
        exact hk84 v1 v2 v3 x10 x9 hf
      · rw [if_pos h] at hf
        refine g_iload F d_Mo_value_137 4 rfl ?_
        refine g_bipush F (v := 34) d_Mo_value_139 (by decide) ?_
        refine g_icmp_eq F (tgt := 172) d_Mo_value_141 (by decide) (fun h => ?_) (fun h => ?_)
        · rw [if_pos h] at hf
          exact blk172 _ hk84 v1 v2 v3 v4 tMo hf
        · rw [if_neg h] at hf
          refine g_iload F d_Mo_value_144 4 rfl ?_
          refine g_bipush F (v := 39) d_Mo_value_146 (by decide) ?_
          refine g_icmp_eq F (tgt := 172) d_Mo_value_148 (by decide) (fun h => ?_) (fun h => ?_)
          · rw [if_pos h] at hf
            exact blk172 _ hk84 v1 v2 v3 v4 tMo hf
          · rw [if_neg h] at hf
            refine g_iload F d_Mo_value_151 4 rfl ?_
            refine g_bipush F (v := 60) d_Mo_value_153 (by decide) ?_
            refine g_icmp_eq F (tgt := 172) d_Mo_value_155 (by decide) (fun h => ?_) (fun h => ?_)
            · rw [if_pos h] at hf
              exact blk172 _ hk84 v1 v2 v3 v4 tMo hf
            · rw [if_neg h] at hf
              refine g_iload F d_Mo_value_158 4 rfl ?_
              refine g_bipush F (v := 61) d_Mo_value_160 (by decide) ?_
              refine g_icmp_eq F (tgt := 172) d_Mo_value_162 (by decide) (fun h => ?_) (fun h => ?_)
              · rw [if_pos h] at hf
                exact blk172 _ hk84 v1 v2 v3 v4 tMo hf
              · rw [if_neg h] at hf
                refine g_iload F d_Mo_value_165 4 rfl ?_
                refine g_bipush F (v := 96) d_Mo_value_167 (by decide) ?_
                refine g_icmp_ne F (tgt := 182) d_Mo_value_169 (by decide) (fun h => ?_) (fun h => ?_)
                · rw [if_neg h] at hf
                  refine g_aload_n F d_Mo_value_182 0 rfl ?_
                  refine g_aload_n F d_Mo_value_183 0 rfl ?_
                  obtain ⟨x11, hx11, hf⟩ := g_bind hf
                  refine g_ci F (r0 := x11.1) (ws' := (Wo ad cA x11.2)) (fun H locs ls hP hD hS hl => g_runV F (As := []) (n := 0) mw_1340 rfl rfl ⟨by decide, by decide⟩ rfl (by exact Nat.le_of_ble_eq_true rfl) mw_1337 mw_1339 mw_55 mw_85 (by decide +kernel) d_Mo_value_184 hP hD hS hl (va_recv F.2.2.2.2.2.1 hP (ci := 9) rfl (q0 := 0) rfl) (c_Mo_known l D cA z ad tMo hx11 H.size)) ?_
                  obtain ⟨x12, hx12, hf⟩ := g_bind hf
                  refine g_cv F (ws' := (Wo ad cA x12)) (fun H locs ls hP hD hS hl => g_runV F (As := [.int x11.1]) (n := 1) mw_1259 rfl rfl ⟨by decide, by decide⟩ rfl (by exact Nat.le_of_ble_eq_true rfl) mw_1256 mw_1258 mw_40 mw_85 (by decide +kernel) d_Mo_value_187 hP hD hS hl (va_recv F.2.2.2.2.2.1 hP (ci := 9) rfl (q0 := 0) rfl) (c_Mo_keep l D cA z ad x11.2 x11.1 hx12 H.size)) ?_
                  refine g_aload_n F d_Mo_value_190 0 rfl ?_
                  refine g_aload_n F d_Mo_value_191 0 rfl ?_
                  refine g_get F (v := .int (q_Mo_p x12)) in_X13 0 rfl rfl 7 (by decide) mw_1113 rfl d_Mo_value_192 ?_
                  obtain ⟨x13, hx13, hf⟩ := g_bind hf
                  refine g_ci F (r0 := x13) (ws' := (Wo ad cA x12)) (fun H locs ls hP hD hS hl => g_runV F (As := [.int (q_Mo_p x12)]) (n := 1) mw_1228 rfl rfl ⟨by decide, by decide⟩ rfl (by exact Nat.le_of_ble_eq_true rfl) mw_1225 mw_1227 mw_34 mw_85 (by decide +kernel) d_Mo_value_195 hP hD hS hl (va_recv F.2.2.2.2.2.1 hP (ci := 9) rfl (q0 := 0) rfl) (c_Mo_charAt l D cA z ad x12 (q_Mo_p x12) hx13 H.size)) ?_
                  refine g_istore F (L' := [(4, .int x13), (0, .ref (ad 0)), (1, .int v1), (2, .int v2), (3, .int v3)]) d_Mo_value_198 (by decide) rfl ?_
                  refine g_goto F (tgt := 84) d_Mo_value_200 (by decide) ?_
                  refine g_loc [1, 2, 3, 4, 0] rfl ?_
                  exact hk84 v1 v2 v3 x13 x12 hf
                · rw [if_pos h] at hf
                  exact blk172 _ hk84 v1 v2 v3 v4 tMo hf
    · rw [if_pos h] at hf
      refine g_aload_n F d_Mo_value_125 0 rfl ?_
      refine g_iconst F (v := 1) d_Mo_value_126 (by decide) ?_
      obtain ⟨x14, hx14, hf⟩ := g_bind hf
      refine g_cv F (ws' := (Wo ad cA x14)) (fun H locs ls hP hD hS hl => g_runV F (As := [.int 1]) (n := 1) mw_1232 rfl rfl ⟨by decide, by decide⟩ rfl (by exact Nat.le_of_ble_eq_true rfl) mw_1229 mw_1231 mw_35 mw_85 (by decide +kernel) d_Mo_value_127 hP hD hS hl (va_recv F.2.2.2.2.2.1 hP (ci := 9) rfl (q0 := 0) rfl) (c_Mo_reference l D cA z ad tMo 1 hx14 H.size)) ?_
      refine g_goto F (tgt := 190) d_Mo_value_130 (by decide) ?_
      refine g_aload_n F d_Mo_value_190 0 rfl ?_
      refine g_aload_n F d_Mo_value_191 0 rfl ?_
      refine g_get F (v := .int (q_Mo_p x14)) in_X13 0 rfl rfl 7 (by decide) mw_1113 rfl d_Mo_value_192 ?_
      obtain ⟨x15, hx15, hf⟩ := g_bind hf
      refine g_ci F (r0 := x15) (ws' := (Wo ad cA x14)) (fun H locs ls hP hD hS hl => g_runV F (As := [.int (q_Mo_p x14)]) (n := 1) mw_1228 rfl rfl ⟨by decide, by decide⟩ rfl (by exact Nat.le_of_ble_eq_true rfl) mw_1225 mw_1227 mw_34 mw_85 (by decide +kernel) d_Mo_value_195 hP hD hS hl (va_recv F.2.2.2.2.2.1 hP (ci := 9) rfl (q0 := 0) rfl) (c_Mo_charAt l D cA z ad x14 (q_Mo_p x14) hx15 H.size)) ?_
      refine g_istore F (L' := [(4, .int x15), (0, .ref (ad 0)), (1, .int v1), (2, .int v2), (3, .int v3)]) d_Mo_value_198 (by decide) rfl ?_
      refine g_goto F (tgt := 84) d_Mo_value_200 (by decide) ?_
      refine g_loc [1, 2, 3, 4, 0] rfl ?_
      exact hk84 v1 v2 v3 x15 x14 hf
  have blk84 : ∀ (n : Nat) (v1 : Int32) (v2 : Int32) (v3 : Int32) (v4 : Int32) (tMo : SMo), f_Mo_value_84 n v1 v2 v3 v4 tMo = some x → GW p l e { frames := 6, cells := 0, slots := 0, locals := 135 } s m args below meth c (gQi D (gT cA) (va_A (Wo ad cA sMo) sz) x.1 (Wo ad cA x.2)) D (va_A (Wo ad cA sMo) sz) 5 (Wo ad cA tMo) 84 [(0, .ref (ad 0)), (1, .int v1), (2, .int v2), (3, .int v3), (4, .int v4)] [] := by
    intro n
    induction n with
    | zero => intro _ _ _ _ _ hf; cases hf
    | succ n ih =>
      intro v1 v2 v3 v4 tMo hf
      rw [f_Mo_value_84] at hf
      refine g_iload F d_Mo_value_84 4 rfl ?_
      refine g_iconst F (v := (-1)) d_Mo_value_86 (by decide) ?_
      refine g_icmp_eq F (tgt := 203) d_Mo_value_87 (by decide) (fun h => ?_) (fun h => ?_)
      · rw [if_pos h] at hf
        exact blk203 v1 v2 v3 v4 tMo hf
      · rw [if_neg h] at hf
        refine g_iload_n F d_Mo_value_90 3 rfl ?_
        refine g_if_eq F (tgt := 103) d_Mo_value_91 (by decide) (fun h => ?_) (fun h => ?_)
        · rw [if_pos h] at hf
          refine g_iload F d_Mo_value_103 4 rfl ?_
          refine g_ci F (r0 := (f_Mo_isBlank v4)) (ws' := (Wo ad cA tMo)) (fun H locs ls hP hD hS hl => g_runS F (As := [.int v4]) (n := 1) mw_1277 rfl rfl ⟨by decide, by decide⟩ rfl (by exact Nat.le_of_ble_eq_true rfl) mw_1275 mw_1276 mw_85 (by decide +kernel) d_Mo_value_105 hP hD hS hl (c_Mo_isBlank l D cA z ad tMo v4 rfl H.size)) ?_
          refine g_if_ne F (tgt := 203) d_Mo_value_108 (by decide) (fun h => ?_) (fun h => ?_)
          · rw [if_neg h] at hf
            exact blk203 v1 v2 v3 v4 tMo hf
          · rw [if_pos h] at hf
            refine g_iload F d_Mo_value_111 4 rfl ?_
            refine g_bipush F (v := 62) d_Mo_value_113 (by decide) ?_
            refine g_icmp_eq F (tgt := 203) d_Mo_value_115 (by decide) (fun h => ?_) (fun h => ?_)
            · rw [if_pos h] at hf
              exact blk203 v1 v2 v3 v4 tMo hf
            · rw [if_neg h] at hf
              exact blk118 _ (fun v1 v2 v3 v4 tMo h => ih v1 v2 v3 v4 tMo h) v1 v2 v3 v4 tMo hf
        · rw [if_neg h] at hf
          refine g_iload F d_Mo_value_94 4 rfl ?_
          refine g_iload_n F d_Mo_value_96 2 rfl ?_
          refine g_icmp_eq F (tgt := 203) d_Mo_value_97 (by decide) (fun h => ?_) (fun h => ?_)
          · rw [if_pos h] at hf
            exact blk203 v1 v2 v3 v4 tMo hf
          · rw [if_neg h] at hf
            refine g_goto F (tgt := 118) d_Mo_value_100 (by decide) ?_
            exact blk118 _ (fun v1 v2 v3 v4 tMo h => ih v1 v2 v3 v4 tMo h) v1 v2 v3 v4 tMo hf
  unfold f_Mo_value at hf
  refine g_aload_n F d_Mo_value_0 0 rfl ?_
  obtain ⟨x16, hx16, hf⟩ := g_bind hf
  refine g_cv F (ws' := (Wo ad cA x16)) (fun H locs ls hP hD hS hl => g_runV F (As := []) (n := 0) mw_1336 rfl rfl ⟨by decide, by decide⟩ rfl (by exact Nat.le_of_ble_eq_true rfl) mw_1333 mw_1335 mw_54 mw_85 (by decide +kernel) d_Mo_value_1 hP hD hS hl (va_recv F.2.2.2.2.2.1 hP (ci := 9) rfl (q0 := 0) rfl) (c_Mo_skipBlanks l D cA z ad sMo hx16 H.size)) ?_
  refine g_aload_n F d_Mo_value_4 0 rfl ?_
  refine g_aload_n F d_Mo_value_5 0 rfl ?_
  refine g_get F (v := .int (q_Mo_p x16)) in_X13 0 rfl rfl 7 (by decide) mw_1113 rfl d_Mo_value_6 ?_
  obtain ⟨x17, hx17, hf⟩ := g_bind hf
  refine g_ci F (r0 := x17) (ws' := (Wo ad cA x16)) (fun H locs ls hP hD hS hl => g_runV F (As := [.int (q_Mo_p x16)]) (n := 1) mw_1228 rfl rfl ⟨by decide, by decide⟩ rfl (by exact Nat.le_of_ble_eq_true rfl) mw_1225 mw_1227 mw_34 mw_85 (by decide +kernel) d_Mo_value_9 hP hD hS hl (va_recv F.2.2.2.2.2.1 hP (ci := 9) rfl (q0 := 0) rfl) (c_Mo_charAt l D cA z ad x16 (q_Mo_p x16) hx17 H.size)) ?_
  refine g_istore_n F (L' := [(2, .int x17), (0, .ref (ad 0)), (1, .int a1)]) d_Mo_value_12 rfl (by decide) rfl ?_
  refine g_iload_n F d_Mo_value_13 0 rfl ?_
  refine g_bipush F (v := 62) d_Mo_value_14 (by decide) ?_
  refine g_icmp_ne F (tgt := 35) d_Mo_value_16 (by decide) (fun h => ?_) (fun h => ?_)
  · rw [if_neg h] at hf
    refine g_iload_n F d_Mo_value_35 0 rfl ?_
    refine g_bipush F (v := 34) d_Mo_value_36 (by decide) ?_
    refine g_icmp_eq F (tgt := 47) d_Mo_value_38 (by decide) (fun h => ?_) (fun h => ?_)
    · rw [if_pos h] at hf
      refine g_iconst F (v := 1) d_Mo_value_47 (by decide) ?_
      refine g_goto F (tgt := 52) d_Mo_value_48 (by decide) ?_
      refine g_istore_n F (L' := [(3, .int 1), (2, .int x17), (0, .ref (ad 0)), (1, .int a1)]) d_Mo_value_52 rfl (by decide) rfl ?_
      refine g_aload_n F d_Mo_value_53 2 rfl ?_
      refine g_iload_n F d_Mo_value_54 0 rfl ?_
      refine g_if_eq F (tgt := 67) d_Mo_value_55 (by decide) (fun h => absurd h (by decide)) (fun _ => ?_)
      refine g_aload_n F d_Mo_value_58 2 rfl ?_
      refine g_get F (v := .int (q_Mo_p x16)) in_X13 0 rfl rfl 7 (by decide) mw_1113 rfl d_Mo_value_59 ?_
      refine g_iconst F (v := 1) d_Mo_value_62 (by decide) ?_
      refine g_iadd F d_Mo_value_63 ?_
      refine g_goto F (tgt := 71) d_Mo_value_64 (by decide) ?_
      refine g_put F in_X13 0 rfl rfl 7 (by decide) tyX13 tyX13_ok nmX13 mw_1113 rfl rfl rfl (Nat.le_of_ble_eq_true rfl) (ws' := (Wn ad cA (q_Mo_names x16) (q_Mo_gives x16) (q_Mo_turned x16) (q_Mo_size x16) (q_Mo_bytes x16) (q_Mo_n x16) (q_Mo_text x16) ((q_Mo_p x16) + 1) (q_Mo_ended x16) (q_Mo_tokens x16) (q_Mo_kinds x16) (q_Mo_firsts x16) (q_Mo_sizes x16) (q_Mo_marks x16) (q_Mo_attributes x16) (q_Mo_manyOf x16) (q_Mo_attributeCount x16) (q_Mo_nameAt x16) (q_Mo_nameSize x16) (q_Mo_valueAt x16) (q_Mo_valueSize x16) (q_Mo_goes x16) (q_Mo_rowSize x16) (q_Mo_row x16) (q_Mo_textAt x16) (q_Mo_textSize x16) (q_Mo_faultCount x16) (q_Mo_codes x16) (q_Mo_places x16) (q_Mo_outSize x16) (q_Mo_out x16) (q_Mo_which x16))) rfl d_Mo_value_71 ?_
      refine g_aload_n F d_Mo_value_74 2 rfl ?_
      refine g_aload_n F d_Mo_value_75 2 rfl ?_
      refine g_get F (v := .int ((q_Mo_p x16) + 1)) in_X13 0 rfl rfl 7 (by decide) mw_1113 rfl d_Mo_value_76 ?_
      obtain ⟨x18, hx18, hf⟩ := g_bind hf
      refine g_ci F (r0 := x18) (ws' := (Wn ad cA (q_Mo_names x16) (q_Mo_gives x16) (q_Mo_turned x16) (q_Mo_size x16) (q_Mo_bytes x16) (q_Mo_n x16) (q_Mo_text x16) ((q_Mo_p x16) + 1) (q_Mo_ended x16) (q_Mo_tokens x16) (q_Mo_kinds x16) (q_Mo_firsts x16) (q_Mo_sizes x16) (q_Mo_marks x16) (q_Mo_attributes x16) (q_Mo_manyOf x16) (q_Mo_attributeCount x16) (q_Mo_nameAt x16) (q_Mo_nameSize x16) (q_Mo_valueAt x16) (q_Mo_valueSize x16) (q_Mo_goes x16) (q_Mo_rowSize x16) (q_Mo_row x16) (q_Mo_textAt x16) (q_Mo_textSize x16) (q_Mo_faultCount x16) (q_Mo_codes x16) (q_Mo_places x16) (q_Mo_outSize x16) (q_Mo_out x16) (q_Mo_which x16))) (fun H locs ls hP hD hS hl => g_runV F (As := [.int ((q_Mo_p x16) + 1)]) (n := 1) mw_1228 rfl rfl ⟨by decide, by decide⟩ rfl (by exact Nat.le_of_ble_eq_true rfl) mw_1225 mw_1227 mw_34 mw_85 (by decide +kernel) d_Mo_value_79 hP hD hS hl (va_recv F.2.2.2.2.2.1 hP (ci := 9) rfl (q0 := 0) rfl) (c_Mo_charAt l D cA z ad (u_Mo_p x16 ((q_Mo_p x16) + 1)) ((q_Mo_p x16) + 1) hx18 H.size)) ?_
      refine g_istore F (L' := [(4, .int x18), (3, .int 1), (2, .int x17), (0, .ref (ad 0)), (1, .int a1)]) d_Mo_value_82 (by decide) rfl ?_
      refine g_loc [3, 4, 2, 1, 0] rfl ?_
      exact blk84 FU a1 x17 1 x18 (u_Mo_p x16 ((q_Mo_p x16) + 1)) hf
    · rw [if_neg h] at hf
      refine g_iload_n F d_Mo_value_41 0 rfl ?_
      refine g_bipush F (v := 39) d_Mo_value_42 (by decide) ?_
      refine g_icmp_ne F (tgt := 51) d_Mo_value_44 (by decide) (fun h => ?_) (fun h => ?_)
      · rw [if_neg h] at hf
        refine g_iconst F (v := 0) d_Mo_value_51 (by decide) ?_
        refine g_istore_n F (L' := [(3, .int 0), (2, .int x17), (0, .ref (ad 0)), (1, .int a1)]) d_Mo_value_52 rfl (by decide) rfl ?_
        refine g_aload_n F d_Mo_value_53 2 rfl ?_
        refine g_iload_n F d_Mo_value_54 0 rfl ?_
        refine g_if_eq F (tgt := 67) d_Mo_value_55 (by decide) (fun _ => ?_) (fun h => absurd h (by decide))
        refine g_aload_n F d_Mo_value_67 2 rfl ?_
        refine g_get F (v := .int (q_Mo_p x16)) in_X13 0 rfl rfl 7 (by decide) mw_1113 rfl d_Mo_value_68 ?_
        refine g_put F in_X13 0 rfl rfl 7 (by decide) tyX13 tyX13_ok nmX13 mw_1113 rfl rfl rfl (Nat.le_of_ble_eq_true rfl) (ws' := (Wn ad cA (q_Mo_names x16) (q_Mo_gives x16) (q_Mo_turned x16) (q_Mo_size x16) (q_Mo_bytes x16) (q_Mo_n x16) (q_Mo_text x16) (q_Mo_p x16) (q_Mo_ended x16) (q_Mo_tokens x16) (q_Mo_kinds x16) (q_Mo_firsts x16) (q_Mo_sizes x16) (q_Mo_marks x16) (q_Mo_attributes x16) (q_Mo_manyOf x16) (q_Mo_attributeCount x16) (q_Mo_nameAt x16) (q_Mo_nameSize x16) (q_Mo_valueAt x16) (q_Mo_valueSize x16) (q_Mo_goes x16) (q_Mo_rowSize x16) (q_Mo_row x16) (q_Mo_textAt x16) (q_Mo_textSize x16) (q_Mo_faultCount x16) (q_Mo_codes x16) (q_Mo_places x16) (q_Mo_outSize x16) (q_Mo_out x16) (q_Mo_which x16))) rfl d_Mo_value_71 ?_
        refine g_aload_n F d_Mo_value_74 2 rfl ?_
        refine g_aload_n F d_Mo_value_75 2 rfl ?_
        refine g_get F (v := .int (q_Mo_p x16)) in_X13 0 rfl rfl 7 (by decide) mw_1113 rfl d_Mo_value_76 ?_
        obtain ⟨x19, hx19, hf⟩ := g_bind hf
        refine g_ci F (r0 := x19) (ws' := (Wn ad cA (q_Mo_names x16) (q_Mo_gives x16) (q_Mo_turned x16) (q_Mo_size x16) (q_Mo_bytes x16) (q_Mo_n x16) (q_Mo_text x16) (q_Mo_p x16) (q_Mo_ended x16) (q_Mo_tokens x16) (q_Mo_kinds x16) (q_Mo_firsts x16) (q_Mo_sizes x16) (q_Mo_marks x16) (q_Mo_attributes x16) (q_Mo_manyOf x16) (q_Mo_attributeCount x16) (q_Mo_nameAt x16) (q_Mo_nameSize x16) (q_Mo_valueAt x16) (q_Mo_valueSize x16) (q_Mo_goes x16) (q_Mo_rowSize x16) (q_Mo_row x16) (q_Mo_textAt x16) (q_Mo_textSize x16) (q_Mo_faultCount x16) (q_Mo_codes x16) (q_Mo_places x16) (q_Mo_outSize x16) (q_Mo_out x16) (q_Mo_which x16))) (fun H locs ls hP hD hS hl => g_runV F (As := [.int (q_Mo_p x16)]) (n := 1) mw_1228 rfl rfl ⟨by decide, by decide⟩ rfl (by exact Nat.le_of_ble_eq_true rfl) mw_1225 mw_1227 mw_34 mw_85 (by decide +kernel) d_Mo_value_79 hP hD hS hl (va_recv F.2.2.2.2.2.1 hP (ci := 9) rfl (q0 := 0) rfl) (c_Mo_charAt l D cA z ad (u_Mo_p x16 (q_Mo_p x16)) (q_Mo_p x16) hx19 H.size)) ?_
        refine g_istore F (L' := [(4, .int x19), (3, .int 0), (2, .int x17), (0, .ref (ad 0)), (1, .int a1)]) d_Mo_value_82 (by decide) rfl ?_
        refine g_loc [3, 4, 2, 1, 0] rfl ?_
        exact blk84 FU a1 x17 0 x19 (u_Mo_p x16 (q_Mo_p x16)) hf
      · rw [if_pos h] at hf
        refine g_iconst F (v := 1) d_Mo_value_47 (by decide) ?_
        refine g_goto F (tgt := 52) d_Mo_value_48 (by decide) ?_
        refine g_istore_n F (L' := [(3, .int 1), (2, .int x17), (0, .ref (ad 0)), (1, .int a1)]) d_Mo_value_52 rfl (by decide) rfl ?_
        refine g_aload_n F d_Mo_value_53 2 rfl ?_
        refine g_iload_n F d_Mo_value_54 0 rfl ?_
        refine g_if_eq F (tgt := 67) d_Mo_value_55 (by decide) (fun h => absurd h (by decide)) (fun _ => ?_)
        refine g_aload_n F d_Mo_value_58 2 rfl ?_
        refine g_get F (v := .int (q_Mo_p x16)) in_X13 0 rfl rfl 7 (by decide) mw_1113 rfl d_Mo_value_59 ?_
        refine g_iconst F (v := 1) d_Mo_value_62 (by decide) ?_
        refine g_iadd F d_Mo_value_63 ?_
        refine g_goto F (tgt := 71) d_Mo_value_64 (by decide) ?_
        refine g_put F in_X13 0 rfl rfl 7 (by decide) tyX13 tyX13_ok nmX13 mw_1113 rfl rfl rfl (Nat.le_of_ble_eq_true rfl) (ws' := (Wn ad cA (q_Mo_names x16) (q_Mo_gives x16) (q_Mo_turned x16) (q_Mo_size x16) (q_Mo_bytes x16) (q_Mo_n x16) (q_Mo_text x16) ((q_Mo_p x16) + 1) (q_Mo_ended x16) (q_Mo_tokens x16) (q_Mo_kinds x16) (q_Mo_firsts x16) (q_Mo_sizes x16) (q_Mo_marks x16) (q_Mo_attributes x16) (q_Mo_manyOf x16) (q_Mo_attributeCount x16) (q_Mo_nameAt x16) (q_Mo_nameSize x16) (q_Mo_valueAt x16) (q_Mo_valueSize x16) (q_Mo_goes x16) (q_Mo_rowSize x16) (q_Mo_row x16) (q_Mo_textAt x16) (q_Mo_textSize x16) (q_Mo_faultCount x16) (q_Mo_codes x16) (q_Mo_places x16) (q_Mo_outSize x16) (q_Mo_out x16) (q_Mo_which x16))) rfl d_Mo_value_71 ?_
        refine g_aload_n F d_Mo_value_74 2 rfl ?_
        refine g_aload_n F d_Mo_value_75 2 rfl ?_
        refine g_get F (v := .int ((q_Mo_p x16) + 1)) in_X13 0 rfl rfl 7 (by decide) mw_1113 rfl d_Mo_value_76 ?_
        obtain ⟨x20, hx20, hf⟩ := g_bind hf
        refine g_ci F (r0 := x20) (ws' := (Wn ad cA (q_Mo_names x16) (q_Mo_gives x16) (q_Mo_turned x16) (q_Mo_size x16) (q_Mo_bytes x16) (q_Mo_n x16) (q_Mo_text x16) ((q_Mo_p x16) + 1) (q_Mo_ended x16) (q_Mo_tokens x16) (q_Mo_kinds x16) (q_Mo_firsts x16) (q_Mo_sizes x16) (q_Mo_marks x16) (q_Mo_attributes x16) (q_Mo_manyOf x16) (q_Mo_attributeCount x16) (q_Mo_nameAt x16) (q_Mo_nameSize x16) (q_Mo_valueAt x16) (q_Mo_valueSize x16) (q_Mo_goes x16) (q_Mo_rowSize x16) (q_Mo_row x16) (q_Mo_textAt x16) (q_Mo_textSize x16) (q_Mo_faultCount x16) (q_Mo_codes x16) (q_Mo_places x16) (q_Mo_outSize x16) (q_Mo_out x16) (q_Mo_which x16))) (fun H locs ls hP hD hS hl => g_runV F (As := [.int ((q_Mo_p x16) + 1)]) (n := 1) mw_1228 rfl rfl ⟨by decide, by decide⟩ rfl (by exact Nat.le_of_ble_eq_true rfl) mw_1225 mw_1227 mw_34 mw_85 (by decide +kernel) d_Mo_value_79 hP hD hS hl (va_recv F.2.2.2.2.2.1 hP (ci := 9) rfl (q0 := 0) rfl) (c_Mo_charAt l D cA z ad (u_Mo_p x16 ((q_Mo_p x16) + 1)) ((q_Mo_p x16) + 1) hx20 H.size)) ?_
        refine g_istore F (L' := [(4, .int x20), (3, .int 1), (2, .int x17), (0, .ref (ad 0)), (1, .int a1)]) d_Mo_value_82 (by decide) rfl ?_
        refine g_loc [3, 4, 2, 1, 0] rfl ?_
        exact blk84 FU a1 x17 1 x20 (u_Mo_p x16 ((q_Mo_p x16) + 1)) hf
  · rw [if_pos h] at hf
    refine g_aload_n F d_Mo_value_19 1 rfl ?_
    refine g_bipush F (v := 10) d_Mo_value_20 (by decide) ?_
    refine g_aload_n F d_Mo_value_22 1 rfl ?_
    refine g_get F (v := .int (q_Mo_p x16)) in_X13 0 rfl rfl 7 (by decide) mw_1113 rfl d_Mo_value_23 ?_
    obtain ⟨x21, hx21, hf⟩ := g_bind hf
    refine g_cv F (ws' := (Wo ad cA x21)) (fun H locs ls hP hD hS hl => g_runV F (As := [.int 10, .int (q_Mo_p x16)]) (n := 2) mw_1247 rfl rfl ⟨by decide, by decide⟩ rfl (by exact Nat.le_of_ble_eq_true rfl) mw_1244 mw_1246 mw_37 mw_85 (by decide +kernel) d_Mo_value_26 hP hD hS hl (va_recv F.2.2.2.2.2.1 hP (ci := 9) rfl (q0 := 0) rfl) (c_Mo_wrong l D cA z ad x16 10 (q_Mo_p x16) hx21 H.size)) ?_
    refine g_aload_n F d_Mo_value_29 1 rfl ?_
    obtain ⟨x22, hx22, hf⟩ := g_bind hf
    refine g_cv F (ws' := (Wo ad cA x22)) (fun H locs ls hP hD hS hl => g_runV F (As := []) (n := 0) mw_1364 rfl rfl ⟨by decide, by decide⟩ rfl (by exact Nat.le_of_ble_eq_true rfl) mw_1361 mw_1363 mw_61 mw_85 (by decide +kernel) d_Mo_value_30 hP hD hS hl (va_recv F.2.2.2.2.2.1 hP (ci := 9) rfl (q0 := 0) rfl) (c_Mo_finish l D cA z ad x21 hx22 H.size)) ?_
    refine g_iconst F (v := 0) d_Mo_value_33 (by decide) ?_
    cases hf
    exact g_zret F hr rfl hlk rfl rfl rfl d_Mo_value_34
set_option maxHeartbeats 4000000 in
set_option maxRecDepth 100000 in
theorem c_Mo_attribute (l : Launch) (D : va_G) (cA : Nat → ClassId) (z : gZ) (ad : Nat → Nat) (sMo : SMo) {x : Int32 × SMo} (hf : f_Mo_attribute sMo = some x) (sz : Nat) : Met l y_Mo_attribute (.code y_Mo_attribute b_Mo_attribute 3 (some .boolean) :: lw_g) { frames := 7, cells := 0, slots := 0, locals := 159 } (gP D (gT cA) z [.ref (ad 0)] (Wo ad cA sMo) sz) (gQi D (gT cA) (va_A (Wo ad cA sMo) sz) x.1 (Wo ad cA x.2)) 0 0 (va_A (Wo ad cA sMo) sz) := by
  refine g_met (by decide) (Nat.le_of_ble_eq_true rfl) rfl ?_
  intro p e s m args below meth c F hr hlk
  have blk161 : ∀ (v1 : Int32) (v2 : Int32) (tMo : SMo), f_Mo_attribute_161 v1 v2 tMo = some x → GW p l e { frames := 7, cells := 0, slots := 0, locals := 159 } s m args below meth c (gQi D (gT cA) (va_A (Wo ad cA sMo) sz) x.1 (Wo ad cA x.2)) D (va_A (Wo ad cA sMo) sz) 3 (Wo ad cA tMo) 161 [(0, .ref (ad 0)), (1, .int v1), (2, .int v2)] [] := by
    intro v1 v2 tMo hf
    unfold f_Mo_attribute_161 at hf
    refine g_aload_n F d_Mo_attribute_161 0 rfl ?_
    refine g_get F (v := .ref (ad 13)) in_X13 0 rfl rfl 18 (by decide) mw_1124 rfl d_Mo_attribute_162 ?_
    refine g_iload_n F d_Mo_attribute_165 1 rfl ?_
    refine g_aload_n F d_Mo_attribute_166 0 rfl ?_
    refine g_get F (v := .int (q_Mo_rowSize tMo)) in_X13 0 rfl rfl 22 (by decide) mw_1128 rfl d_Mo_attribute_167 ?_
    refine g_aload_n F d_Mo_attribute_170 0 rfl ?_
    refine g_get F (v := .ref (ad 12)) in_X13 0 rfl rfl 17 (by decide) mw_1123 rfl d_Mo_attribute_171 ?_
    refine g_iload_n F d_Mo_attribute_174 1 rfl ?_
    obtain ⟨k1, hf⟩ := g_chk hf
    refine g_iald F (f := (q_Mo_nameAt tMo)) 12 0 rfl rfl k1 d_Mo_attribute_175 ?_
    refine g_isub F d_Mo_attribute_176 ?_
    obtain ⟨k2, hf⟩ := g_chk hf
    refine g_iast F (f := (q_Mo_nameSize tMo)) 13 0 rfl rfl k2 (ws' := (Wn ad cA (q_Mo_names tMo) (q_Mo_gives tMo) (q_Mo_turned tMo) (q_Mo_size tMo) (q_Mo_bytes tMo) (q_Mo_n tMo) (q_Mo_text tMo) (q_Mo_p tMo) (q_Mo_ended tMo) (q_Mo_tokens tMo) (q_Mo_kinds tMo) (q_Mo_firsts tMo) (q_Mo_sizes tMo) (q_Mo_marks tMo) (q_Mo_attributes tMo) (q_Mo_manyOf tMo) (q_Mo_attributeCount tMo) (q_Mo_nameAt tMo) (upd (q_Mo_nameSize tMo) (v1 : Int32).toNatClampNeg ((q_Mo_rowSize tMo) - ((q_Mo_nameAt tMo) (v1 : Int32).toNatClampNeg))) (q_Mo_valueAt tMo) (q_Mo_valueSize tMo) (q_Mo_goes tMo) (q_Mo_rowSize tMo) (q_Mo_row tMo) (q_Mo_textAt tMo) (q_Mo_textSize tMo) (q_Mo_faultCount tMo) (q_Mo_codes tMo) (q_Mo_places tMo) (q_Mo_outSize tMo) (q_Mo_out tMo) (q_Mo_which tMo))) rfl d_Mo_attribute_177 ?_
    refine g_aload_n F d_Mo_attribute_178 0 rfl ?_
    refine g_get F (v := .ref (ad 14)) in_X13 0 rfl rfl 19 (by decide) mw_1125 rfl d_Mo_attribute_179 ?_
    refine g_iload_n F d_Mo_attribute_182 1 rfl ?_
    refine g_aload_n F d_Mo_attribute_183 0 rfl ?_
    refine g_get F (v := .int (q_Mo_rowSize tMo)) in_X13 0 rfl rfl 22 (by decide) mw_1128 rfl d_Mo_attribute_184 ?_
    obtain ⟨k3, hf⟩ := g_chk hf
    refine g_iast F (f := (q_Mo_valueAt tMo)) 14 0 rfl rfl k3 (ws' := (Wn ad cA (q_Mo_names tMo) (q_Mo_gives tMo) (q_Mo_turned tMo) (q_Mo_size tMo) (q_Mo_bytes tMo) (q_Mo_n tMo) (q_Mo_text tMo) (q_Mo_p tMo) (q_Mo_ended tMo) (q_Mo_tokens tMo) (q_Mo_kinds tMo) (q_Mo_firsts tMo) (q_Mo_sizes tMo) (q_Mo_marks tMo) (q_Mo_attributes tMo) (q_Mo_manyOf tMo) (q_Mo_attributeCount tMo) (q_Mo_nameAt tMo) (upd (q_Mo_nameSize tMo) (v1 : Int32).toNatClampNeg ((q_Mo_rowSize tMo) - ((q_Mo_nameAt tMo) (v1 : Int32).toNatClampNeg))) (upd (q_Mo_valueAt tMo) (v1 : Int32).toNatClampNeg (q_Mo_rowSize tMo)) (q_Mo_valueSize tMo) (q_Mo_goes tMo) (q_Mo_rowSize tMo) (q_Mo_row tMo) (q_Mo_textAt tMo) (q_Mo_textSize tMo) (q_Mo_faultCount tMo) (q_Mo_codes tMo) (q_Mo_places tMo) (q_Mo_outSize tMo) (q_Mo_out tMo) (q_Mo_which tMo))) rfl d_Mo_attribute_187 ?_
    refine g_aload_n F d_Mo_attribute_188 0 rfl ?_
    refine g_get F (v := .ref (ad 16)) in_X13 0 rfl rfl 21 (by decide) mw_1127 rfl d_Mo_attribute_189 ?_
    refine g_iload_n F d_Mo_attribute_192 1 rfl ?_
    refine g_aload_n F d_Mo_attribute_193 0 rfl ?_
    refine g_iload_n F d_Mo_attribute_194 1 rfl ?_
    obtain ⟨x1, hx1, hf⟩ := g_bind hf
    refine g_ci F (r0 := x1) (ws' := (Wn ad cA (q_Mo_names tMo) (q_Mo_gives tMo) (q_Mo_turned tMo) (q_Mo_size tMo) (q_Mo_bytes tMo) (q_Mo_n tMo) (q_Mo_text tMo) (q_Mo_p tMo) (q_Mo_ended tMo) (q_Mo_tokens tMo) (q_Mo_kinds tMo) (q_Mo_firsts tMo) (q_Mo_sizes tMo) (q_Mo_marks tMo) (q_Mo_attributes tMo) (q_Mo_manyOf tMo) (q_Mo_attributeCount tMo) (q_Mo_nameAt tMo) (upd (q_Mo_nameSize tMo) (v1 : Int32).toNatClampNeg ((q_Mo_rowSize tMo) - ((q_Mo_nameAt tMo) (v1 : Int32).toNatClampNeg))) (upd (q_Mo_valueAt tMo) (v1 : Int32).toNatClampNeg (q_Mo_rowSize tMo)) (q_Mo_valueSize tMo) (q_Mo_goes tMo) (q_Mo_rowSize tMo) (q_Mo_row tMo) (q_Mo_textAt tMo) (q_Mo_textSize tMo) (q_Mo_faultCount tMo) (q_Mo_codes tMo) (q_Mo_places tMo) (q_Mo_outSize tMo) (q_Mo_out tMo) (q_Mo_which tMo))) (fun H locs ls hP hD hS hl => g_runV F (As := [.int v1]) (n := 1) mw_1372 rfl rfl ⟨by decide, by decide⟩ rfl (by exact Nat.le_of_ble_eq_true rfl) mw_1369 mw_1371 mw_63 mw_85 (by decide +kernel) d_Mo_attribute_195 hP hD hS hl (va_recv F.2.2.2.2.2.1 hP (ci := 9) rfl (q0 := 0) rfl) (c_Mo_isThere l D cA z ad (u_Mo_nameSize_valueAt tMo (upd (q_Mo_nameSize tMo) (v1 : Int32).toNatClampNeg ((q_Mo_rowSize tMo) - ((q_Mo_nameAt tMo) (v1 : Int32).toNatClampNeg))) (upd (q_Mo_valueAt tMo) (v1 : Int32).toNatClampNeg (q_Mo_rowSize tMo))) v1 hx1 H.size)) ?_
    obtain ⟨k4, hf⟩ := g_chk hf
    refine g_zast F (f := (q_Mo_goes tMo)) 16 3 rfl rfl k4 (ws' := (Wn ad cA (q_Mo_names tMo) (q_Mo_gives tMo) (q_Mo_turned tMo) (q_Mo_size tMo) (q_Mo_bytes tMo) (q_Mo_n tMo) (q_Mo_text tMo) (q_Mo_p tMo) (q_Mo_ended tMo) (q_Mo_tokens tMo) (q_Mo_kinds tMo) (q_Mo_firsts tMo) (q_Mo_sizes tMo) (q_Mo_marks tMo) (q_Mo_attributes tMo) (q_Mo_manyOf tMo) (q_Mo_attributeCount tMo) (q_Mo_nameAt tMo) (upd (q_Mo_nameSize tMo) (v1 : Int32).toNatClampNeg ((q_Mo_rowSize tMo) - ((q_Mo_nameAt tMo) (v1 : Int32).toNatClampNeg))) (upd (q_Mo_valueAt tMo) (v1 : Int32).toNatClampNeg (q_Mo_rowSize tMo)) (q_Mo_valueSize tMo) (upd (q_Mo_goes tMo) (v1 : Int32).toNatClampNeg (vp_nar .boolean x1)) (q_Mo_rowSize tMo) (q_Mo_row tMo) (q_Mo_textAt tMo) (q_Mo_textSize tMo) (q_Mo_faultCount tMo) (q_Mo_codes tMo) (q_Mo_places tMo) (q_Mo_outSize tMo) (q_Mo_out tMo) (q_Mo_which tMo))) rfl d_Mo_attribute_198 ?_
    refine g_aload_n F d_Mo_attribute_199 0 rfl ?_
    refine g_get F (v := .ref (ad 16)) in_X13 0 rfl rfl 21 (by decide) mw_1127 rfl d_Mo_attribute_200 ?_
    refine g_iload_n F d_Mo_attribute_203 1 rfl ?_
    obtain ⟨k5, hf⟩ := g_chk hf
    refine g_zald F (f := (upd (q_Mo_goes tMo) (v1 : Int32).toNatClampNeg (vp_nar .boolean x1))) 16 3 rfl rfl k5 d_Mo_attribute_204 ?_
    refine g_if_eq F (tgt := 218) d_Mo_attribute_205 (by decide) (fun h => ?_) (fun h => ?_)
    · rw [if_pos h] at hf
      refine g_aload_n F d_Mo_attribute_218 0 rfl ?_
      obtain ⟨x2, hx2, hf⟩ := g_bind hf
      refine g_cv F (ws' := (Wo ad cA x2)) (fun H locs ls hP hD hS hl => g_runV F (As := []) (n := 0) mw_1336 rfl rfl ⟨by decide, by decide⟩ rfl (by exact Nat.le_of_ble_eq_true rfl) mw_1333 mw_1335 mw_54 mw_85 (by decide +kernel) d_Mo_attribute_219 hP hD hS hl (va_recv F.2.2.2.2.2.1 hP (ci := 9) rfl (q0 := 0) rfl) (c_Mo_skipBlanks l D cA z ad (u_Mo_nameSize_valueAt_goes tMo (upd (q_Mo_nameSize tMo) (v1 : Int32).toNatClampNeg ((q_Mo_rowSize tMo) - ((q_Mo_nameAt tMo) (v1 : Int32).toNatClampNeg))) (upd (q_Mo_valueAt tMo) (v1 : Int32).toNatClampNeg (q_Mo_rowSize tMo)) (upd (q_Mo_goes tMo) (v1 : Int32).toNatClampNeg (vp_nar .boolean x1))) hx2 H.size)) ?_
      refine g_aload_n F d_Mo_attribute_222 0 rfl ?_
      refine g_aload_n F d_Mo_attribute_223 0 rfl ?_
      refine g_get F (v := .int (q_Mo_p x2)) in_X13 0 rfl rfl 7 (by decide) mw_1113 rfl d_Mo_attribute_224 ?_
      obtain ⟨x3, hx3, hf⟩ := g_bind hf
      refine g_ci F (r0 := x3) (ws' := (Wo ad cA x2)) (fun H locs ls hP hD hS hl => g_runV F (As := [.int (q_Mo_p x2)]) (n := 1) mw_1228 rfl rfl ⟨by decide, by decide⟩ rfl (by exact Nat.le_of_ble_eq_true rfl) mw_1225 mw_1227 mw_34 mw_85 (by decide +kernel) d_Mo_attribute_227 hP hD hS hl (va_recv F.2.2.2.2.2.1 hP (ci := 9) rfl (q0 := 0) rfl) (c_Mo_charAt l D cA z ad x2 (q_Mo_p x2) hx3 H.size)) ?_
      refine g_bipush F (v := 61) d_Mo_attribute_230 (by decide) ?_
      refine g_icmp_eq F (tgt := 237) d_Mo_attribute_232 (by decide) (fun h => ?_) (fun h => ?_)
      · rw [if_pos h] at hf
        refine g_aload_n F d_Mo_attribute_237 0 rfl ?_
        refine g_dup F d_Mo_attribute_238 rfl ?_
        refine g_get F (v := .int (q_Mo_p x2)) in_X13 0 rfl rfl 7 (by decide) mw_1113 rfl d_Mo_attribute_239 ?_
        refine g_iconst F (v := 1) d_Mo_attribute_242 (by decide) ?_
        refine g_iadd F d_Mo_attribute_243 ?_
        refine g_put F in_X13 0 rfl rfl 7 (by decide) tyX13 tyX13_ok nmX13 mw_1113 rfl rfl rfl (Nat.le_of_ble_eq_true rfl) (ws' := (Wn ad cA (q_Mo_names x2) (q_Mo_gives x2) (q_Mo_turned x2) (q_Mo_size x2) (q_Mo_bytes x2) (q_Mo_n x2) (q_Mo_text x2) ((q_Mo_p x2) + 1) (q_Mo_ended x2) (q_Mo_tokens x2) (q_Mo_kinds x2) (q_Mo_firsts x2) (q_Mo_sizes x2) (q_Mo_marks x2) (q_Mo_attributes x2) (q_Mo_manyOf x2) (q_Mo_attributeCount x2) (q_Mo_nameAt x2) (q_Mo_nameSize x2) (q_Mo_valueAt x2) (q_Mo_valueSize x2) (q_Mo_goes x2) (q_Mo_rowSize x2) (q_Mo_row x2) (q_Mo_textAt x2) (q_Mo_textSize x2) (q_Mo_faultCount x2) (q_Mo_codes x2) (q_Mo_places x2) (q_Mo_outSize x2) (q_Mo_out x2) (q_Mo_which x2))) rfl d_Mo_attribute_244 ?_
        refine g_aload_n F d_Mo_attribute_247 0 rfl ?_
        refine g_iload_n F d_Mo_attribute_248 1 rfl ?_
        obtain ⟨x4, hx4, hf⟩ := g_bind hf
        refine g_ci F (r0 := x4.1) (ws' := (Wo ad cA x4.2)) (fun H locs ls hP hD hS hl => g_runV F (As := [.int v1]) (n := 1) mw_1376 rfl rfl ⟨by decide, by decide⟩ rfl (by exact Nat.le_of_ble_eq_true rfl) mw_1373 mw_1375 mw_64 mw_85 (by decide +kernel) d_Mo_attribute_249 hP hD hS hl (va_recv F.2.2.2.2.2.1 hP (ci := 9) rfl (q0 := 0) rfl) (c_Mo_value l D cA z ad (u_Mo_p x2 ((q_Mo_p x2) + 1)) v1 hx4 H.size)) ?_
        obtain ⟨k6, hf⟩ := g_chk hf
        cases hf
        exact g_zret F hr (bz_ok k6) hlk rfl rfl rfl d_Mo_attribute_252
      · rw [if_neg h] at hf
        refine g_iconst F (v := 1) d_Mo_attribute_235 (by decide) ?_
        cases hf
        exact g_zret F hr rfl hlk rfl rfl rfl d_Mo_attribute_236
    · rw [if_neg h] at hf
      refine g_aload_n F d_Mo_attribute_208 0 rfl ?_
      refine g_bipush F (v := 9) d_Mo_attribute_209 (by decide) ?_
      refine g_aload_n F d_Mo_attribute_211 0 rfl ?_
      refine g_get F (v := .int (q_Mo_p tMo)) in_X13 0 rfl rfl 7 (by decide) mw_1113 rfl d_Mo_attribute_212 ?_
      obtain ⟨x5, hx5, hf⟩ := g_bind hf
      refine g_cv F (ws' := (Wo ad cA x5)) (fun H locs ls hP hD hS hl => g_runV F (As := [.int 9, .int (q_Mo_p tMo)]) (n := 2) mw_1247 rfl rfl ⟨by decide, by decide⟩ rfl (by exact Nat.le_of_ble_eq_true rfl) mw_1244 mw_1246 mw_37 mw_85 (by decide +kernel) d_Mo_attribute_215 hP hD hS hl (va_recv F.2.2.2.2.2.1 hP (ci := 9) rfl (q0 := 0) rfl) (c_Mo_wrong l D cA z ad (u_Mo_nameSize_valueAt_goes tMo (upd (q_Mo_nameSize tMo) (v1 : Int32).toNatClampNeg ((q_Mo_rowSize tMo) - ((q_Mo_nameAt tMo) (v1 : Int32).toNatClampNeg))) (upd (q_Mo_valueAt tMo) (v1 : Int32).toNatClampNeg (q_Mo_rowSize tMo)) (upd (q_Mo_goes tMo) (v1 : Int32).toNatClampNeg (vp_nar .boolean x1))) 9 (q_Mo_p tMo) hx5 H.size)) ?_
      refine g_aload_n F d_Mo_attribute_218 0 rfl ?_
      obtain ⟨x6, hx6, hf⟩ := g_bind hf
      refine g_cv F (ws' := (Wo ad cA x6)) (fun H locs ls hP hD hS hl => g_runV F (As := []) (n := 0) mw_1336 rfl rfl ⟨by decide, by decide⟩ rfl (by exact Nat.le_of_ble_eq_true rfl) mw_1333 mw_1335 mw_54 mw_85 (by decide +kernel) d_Mo_attribute_219 hP hD hS hl (va_recv F.2.2.2.2.2.1 hP (ci := 9) rfl (q0 := 0) rfl) (c_Mo_skipBlanks l D cA z ad x5 hx6 H.size)) ?_
      refine g_aload_n F d_Mo_attribute_222 0 rfl ?_
      refine g_aload_n F d_Mo_attribute_223 0 rfl ?_
      refine g_get F (v := .int (q_Mo_p x6)) in_X13 0 rfl rfl 7 (by decide) mw_1113 rfl d_Mo_attribute_224 ?_
      obtain ⟨x7, hx7, hf⟩ := g_bind hf
      refine g_ci F (r0 := x7) (ws' := (Wo ad cA x6)) (fun H locs ls hP hD hS hl => g_runV F (As := [.int (q_Mo_p x6)]) (n := 1) mw_1228 rfl rfl ⟨by decide, by decide⟩ rfl (by exact Nat.le_of_ble_eq_true rfl) mw_1225 mw_1227 mw_34 mw_85 (by decide +kernel) d_Mo_attribute_227 hP hD hS hl (va_recv F.2.2.2.2.2.1 hP (ci := 9) rfl (q0 := 0) rfl) (c_Mo_charAt l D cA z ad x6 (q_Mo_p x6) hx7 H.size)) ?_
      refine g_bipush F (v := 61) d_Mo_attribute_230 (by decide) ?_
      refine g_icmp_eq F (tgt := 237) d_Mo_attribute_232 (by decide) (fun h => ?_) (fun h => ?_)
      · rw [if_pos h] at hf
        refine g_aload_n F d_Mo_attribute_237 0 rfl ?_
        refine g_dup F d_Mo_attribute_238 rfl ?_
        refine g_get F (v := .int (q_Mo_p x6)) in_X13 0 rfl rfl 7 (by decide) mw_1113 rfl d_Mo_attribute_239 ?_
        refine g_iconst F (v := 1) d_Mo_attribute_242 (by decide) ?_
        refine g_iadd F d_Mo_attribute_243 ?_
        refine g_put F in_X13 0 rfl rfl 7 (by decide) tyX13 tyX13_ok nmX13 mw_1113 rfl rfl rfl (Nat.le_of_ble_eq_true rfl) (ws' := (Wn ad cA (q_Mo_names x6) (q_Mo_gives x6) (q_Mo_turned x6) (q_Mo_size x6) (q_Mo_bytes x6) (q_Mo_n x6) (q_Mo_text x6) ((q_Mo_p x6) + 1) (q_Mo_ended x6) (q_Mo_tokens x6) (q_Mo_kinds x6) (q_Mo_firsts x6) (q_Mo_sizes x6) (q_Mo_marks x6) (q_Mo_attributes x6) (q_Mo_manyOf x6) (q_Mo_attributeCount x6) (q_Mo_nameAt x6) (q_Mo_nameSize x6) (q_Mo_valueAt x6) (q_Mo_valueSize x6) (q_Mo_goes x6) (q_Mo_rowSize x6) (q_Mo_row x6) (q_Mo_textAt x6) (q_Mo_textSize x6) (q_Mo_faultCount x6) (q_Mo_codes x6) (q_Mo_places x6) (q_Mo_outSize x6) (q_Mo_out x6) (q_Mo_which x6))) rfl d_Mo_attribute_244 ?_
        refine g_aload_n F d_Mo_attribute_247 0 rfl ?_
        refine g_iload_n F d_Mo_attribute_248 1 rfl ?_
        obtain ⟨x8, hx8, hf⟩ := g_bind hf
        refine g_ci F (r0 := x8.1) (ws' := (Wo ad cA x8.2)) (fun H locs ls hP hD hS hl => g_runV F (As := [.int v1]) (n := 1) mw_1376 rfl rfl ⟨by decide, by decide⟩ rfl (by exact Nat.le_of_ble_eq_true rfl) mw_1373 mw_1375 mw_64 mw_85 (by decide +kernel) d_Mo_attribute_249 hP hD hS hl (va_recv F.2.2.2.2.2.1 hP (ci := 9) rfl (q0 := 0) rfl) (c_Mo_value l D cA z ad (u_Mo_p x6 ((q_Mo_p x6) + 1)) v1 hx8 H.size)) ?_
        obtain ⟨k7, hf⟩ := g_chk hf
        cases hf
        exact g_zret F hr (bz_ok k7) hlk rfl rfl rfl d_Mo_attribute_252
      · rw [if_neg h] at hf
        refine g_iconst F (v := 1) d_Mo_attribute_235 (by decide) ?_
        cases hf
        exact g_zret F hr rfl hlk rfl rfl rfl d_Mo_attribute_236
  have blk128 : ∀ (k80 : Int32 → Int32 → SMo → Option (Int32 × SMo)), (∀ (v1 : Int32) (v2 : Int32) (tMo : SMo), k80 v1 v2 tMo = some x → GW p l e { frames := 7, cells := 0, slots := 0, locals := 159 } s m args below meth c (gQi D (gT cA) (va_A (Wo ad cA sMo) sz) x.1 (Wo ad cA x.2)) D (va_A (Wo ad cA sMo) sz) 3 (Wo ad cA tMo) 80 [(0, .ref (ad 0)), (1, .int v1), (2, .int v2)] []) → ∀ (v1 : Int32) (v2 : Int32) (tMo : SMo), f_Mo_attribute_128 k80 v1 v2 tMo = some x → GW p l e { frames := 7, cells := 0, slots := 0, locals := 159 } s m args below meth c (gQi D (gT cA) (va_A (Wo ad cA sMo) sz) x.1 (Wo ad cA x.2)) D (va_A (Wo ad cA sMo) sz) 3 (Wo ad cA tMo) 128 [(0, .ref (ad 0)), (1, .int v1), (2, .int v2)] [] := by
    intro k80 hk80
    intro v1 v2 tMo hf
    unfold f_Mo_attribute_128 at hf
    refine g_aload_n F d_Mo_attribute_128 0 rfl ?_
    refine g_bipush F (v := 8) d_Mo_attribute_129 (by decide) ?_
    refine g_aload_n F d_Mo_attribute_131 0 rfl ?_
    refine g_get F (v := .int (q_Mo_p tMo)) in_X13 0 rfl rfl 7 (by decide) mw_1113 rfl d_Mo_attribute_132 ?_
    obtain ⟨x9, hx9, hf⟩ := g_bind hf
    refine g_cv F (ws' := (Wo ad cA x9)) (fun H locs ls hP hD hS hl => g_runV F (As := [.int 8, .int (q_Mo_p tMo)]) (n := 2) mw_1247 rfl rfl ⟨by decide, by decide⟩ rfl (by exact Nat.le_of_ble_eq_true rfl) mw_1244 mw_1246 mw_37 mw_85 (by decide +kernel) d_Mo_attribute_135 hP hD hS hl (va_recv F.2.2.2.2.2.1 hP (ci := 9) rfl (q0 := 0) rfl) (c_Mo_wrong l D cA z ad tMo 8 (q_Mo_p tMo) hx9 H.size)) ?_
    refine g_aload_n F d_Mo_attribute_138 0 rfl ?_
    refine g_aload_n F d_Mo_attribute_139 0 rfl ?_
    obtain ⟨x10, hx10, hf⟩ := g_bind hf
    refine g_ci F (r0 := x10.1) (ws' := (Wo ad cA x10.2)) (fun H locs ls hP hD hS hl => g_runV F (As := []) (n := 0) mw_1340 rfl rfl ⟨by decide, by decide⟩ rfl (by exact Nat.le_of_ble_eq_true rfl) mw_1337 mw_1339 mw_55 mw_85 (by decide +kernel) d_Mo_attribute_140 hP hD hS hl (va_recv F.2.2.2.2.2.1 hP (ci := 9) rfl (q0 := 0) rfl) (c_Mo_known l D cA z ad x9 hx10 H.size)) ?_
    refine g_ci F (r0 := (f_Mo_lowered x10.1)) (ws' := (Wo ad cA x10.2)) (fun H locs ls hP hD hS hl => g_runS F (As := [.int x10.1]) (n := 1) mw_1327 rfl rfl ⟨by decide, by decide⟩ rfl (by exact Nat.le_of_ble_eq_true rfl) mw_1325 mw_1326 mw_85 (by decide +kernel) d_Mo_attribute_143 hP hD hS hl (c_Mo_lowered l D cA z ad x10.2 x10.1 rfl H.size)) ?_
    obtain ⟨x11, hx11, hf⟩ := g_bind hf
    refine g_cv F (ws' := (Wo ad cA x11)) (fun H locs ls hP hD hS hl => g_runV F (As := [.int (f_Mo_lowered x10.1)]) (n := 1) mw_1259 rfl rfl ⟨by decide, by decide⟩ rfl (by exact Nat.le_of_ble_eq_true rfl) mw_1256 mw_1258 mw_40 mw_85 (by decide +kernel) d_Mo_attribute_146 hP hD hS hl (va_recv F.2.2.2.2.2.1 hP (ci := 9) rfl (q0 := 0) rfl) (c_Mo_keep l D cA z ad x10.2 (f_Mo_lowered x10.1) hx11 H.size)) ?_
    refine g_aload_n F d_Mo_attribute_149 0 rfl ?_
    refine g_aload_n F d_Mo_attribute_150 0 rfl ?_
    refine g_get F (v := .int (q_Mo_p x11)) in_X13 0 rfl rfl 7 (by decide) mw_1113 rfl d_Mo_attribute_151 ?_
    obtain ⟨x12, hx12, hf⟩ := g_bind hf
    refine g_ci F (r0 := x12) (ws' := (Wo ad cA x11)) (fun H locs ls hP hD hS hl => g_runV F (As := [.int (q_Mo_p x11)]) (n := 1) mw_1228 rfl rfl ⟨by decide, by decide⟩ rfl (by exact Nat.le_of_ble_eq_true rfl) mw_1225 mw_1227 mw_34 mw_85 (by decide +kernel) d_Mo_attribute_154 hP hD hS hl (va_recv F.2.2.2.2.2.1 hP (ci := 9) rfl (q0 := 0) rfl) (c_Mo_charAt l D cA z ad x11 (q_Mo_p x11) hx12 H.size)) ?_
    refine g_istore_n F (L' := [(2, .int x12), (0, .ref (ad 0)), (1, .int v1)]) d_Mo_attribute_157 rfl (by decide) rfl ?_
    refine g_goto F (tgt := 80) d_Mo_attribute_158 (by decide) ?_
    refine g_loc [1, 2, 0] rfl ?_
    exact hk80 v1 x12 x11 hf
  have blk80 : ∀ (n : Nat) (v1 : Int32) (v2 : Int32) (tMo : SMo), f_Mo_attribute_80 n v1 v2 tMo = some x → GW p l e { frames := 7, cells := 0, slots := 0, locals := 159 } s m args below meth c (gQi D (gT cA) (va_A (Wo ad cA sMo) sz) x.1 (Wo ad cA x.2)) D (va_A (Wo ad cA sMo) sz) 3 (Wo ad cA tMo) 80 [(0, .ref (ad 0)), (1, .int v1), (2, .int v2)] [] := by
    intro n
    induction n with
    | zero => intro _ _ _ hf; cases hf
    | succ n ih =>
      intro v1 v2 tMo hf
      rw [f_Mo_attribute_80] at hf
      refine g_iload_n F d_Mo_attribute_80 2 rfl ?_
      refine g_iconst F (v := (-1)) d_Mo_attribute_81 (by decide) ?_
      refine g_icmp_eq F (tgt := 161) d_Mo_attribute_82 (by decide) (fun h => ?_) (fun h => ?_)
      · rw [if_pos h] at hf
        exact blk161 v1 v2 tMo hf
      · rw [if_neg h] at hf
        refine g_iload_n F d_Mo_attribute_85 2 rfl ?_
        refine g_ci F (r0 := (f_Mo_isBlank v2)) (ws' := (Wo ad cA tMo)) (fun H locs ls hP hD hS hl => g_runS F (As := [.int v2]) (n := 1) mw_1277 rfl rfl ⟨by decide, by decide⟩ rfl (by exact Nat.le_of_ble_eq_true rfl) mw_1275 mw_1276 mw_85 (by decide +kernel) d_Mo_attribute_86 hP hD hS hl (c_Mo_isBlank l D cA z ad tMo v2 rfl H.size)) ?_
        refine g_if_ne F (tgt := 161) d_Mo_attribute_89 (by decide) (fun h => ?_) (fun h => ?_)
        · rw [if_neg h] at hf
          exact blk161 v1 v2 tMo hf
        · rw [if_pos h] at hf
          refine g_iload_n F d_Mo_attribute_92 2 rfl ?_
          refine g_bipush F (v := 47) d_Mo_attribute_93 (by decide) ?_
          refine g_icmp_eq F (tgt := 161) d_Mo_attribute_95 (by decide) (fun h => ?_) (fun h => ?_)
          · rw [if_pos h] at hf
            exact blk161 v1 v2 tMo hf
          · rw [if_neg h] at hf
            refine g_iload_n F d_Mo_attribute_98 2 rfl ?_
            refine g_bipush F (v := 62) d_Mo_attribute_99 (by decide) ?_
            refine g_icmp_eq F (tgt := 161) d_Mo_attribute_101 (by decide) (fun h => ?_) (fun h => ?_)
            · rw [if_pos h] at hf
              exact blk161 v1 v2 tMo hf
            · rw [if_neg h] at hf
              refine g_iload_n F d_Mo_attribute_104 2 rfl ?_
              refine g_bipush F (v := 61) d_Mo_attribute_105 (by decide) ?_
              refine g_icmp_eq F (tgt := 161) d_Mo_attribute_107 (by decide) (fun h => ?_) (fun h => ?_)
              · rw [if_pos h] at hf
                exact blk161 v1 v2 tMo hf
              · rw [if_neg h] at hf
                refine g_iload_n F d_Mo_attribute_110 2 rfl ?_
                refine g_bipush F (v := 34) d_Mo_attribute_111 (by decide) ?_
                refine g_icmp_eq F (tgt := 128) d_Mo_attribute_113 (by decide) (fun h => ?_) (fun h => ?_)
                · rw [if_pos h] at hf
                  exact blk128 _ (fun v1 v2 tMo h => ih v1 v2 tMo h) v1 v2 tMo hf
                · rw [if_neg h] at hf
                  refine g_iload_n F d_Mo_attribute_116 2 rfl ?_
                  refine g_bipush F (v := 39) d_Mo_attribute_117 (by decide) ?_
                  refine g_icmp_eq F (tgt := 128) d_Mo_attribute_119 (by decide) (fun h => ?_) (fun h => ?_)
                  · rw [if_pos h] at hf
                    exact blk128 _ (fun v1 v2 tMo h => ih v1 v2 tMo h) v1 v2 tMo hf
                  · rw [if_neg h] at hf
                    refine g_iload_n F d_Mo_attribute_122 2 rfl ?_
                    refine g_bipush F (v := 60) d_Mo_attribute_123 (by decide) ?_
                    refine g_icmp_ne F (tgt := 138) d_Mo_attribute_125 (by decide) (fun h => ?_) (fun h => ?_)
                    · rw [if_neg h] at hf
                      refine g_aload_n F d_Mo_attribute_138 0 rfl ?_
                      refine g_aload_n F d_Mo_attribute_139 0 rfl ?_
                      obtain ⟨x13, hx13, hf⟩ := g_bind hf
                      refine g_ci F (r0 := x13.1) (ws' := (Wo ad cA x13.2)) (fun H locs ls hP hD hS hl => g_runV F (As := []) (n := 0) mw_1340 rfl rfl ⟨by decide, by decide⟩ rfl (by exact Nat.le_of_ble_eq_true rfl) mw_1337 mw_1339 mw_55 mw_85 (by decide +kernel) d_Mo_attribute_140 hP hD hS hl (va_recv F.2.2.2.2.2.1 hP (ci := 9) rfl (q0 := 0) rfl) (c_Mo_known l D cA z ad tMo hx13 H.size)) ?_
                      refine g_ci F (r0 := (f_Mo_lowered x13.1)) (ws' := (Wo ad cA x13.2)) (fun H locs ls hP hD hS hl => g_runS F (As := [.int x13.1]) (n := 1) mw_1327 rfl rfl ⟨by decide, by decide⟩ rfl (by exact Nat.le_of_ble_eq_true rfl) mw_1325 mw_1326 mw_85 (by decide +kernel) d_Mo_attribute_143 hP hD hS hl (c_Mo_lowered l D cA z ad x13.2 x13.1 rfl H.size)) ?_
                      obtain ⟨x14, hx14, hf⟩ := g_bind hf
                      refine g_cv F (ws' := (Wo ad cA x14)) (fun H locs ls hP hD hS hl => g_runV F (As := [.int (f_Mo_lowered x13.1)]) (n := 1) mw_1259 rfl rfl ⟨by decide, by decide⟩ rfl (by exact Nat.le_of_ble_eq_true rfl) mw_1256 mw_1258 mw_40 mw_85 (by decide +kernel) d_Mo_attribute_146 hP hD hS hl (va_recv F.2.2.2.2.2.1 hP (ci := 9) rfl (q0 := 0) rfl) (c_Mo_keep l D cA z ad x13.2 (f_Mo_lowered x13.1) hx14 H.size)) ?_
                      refine g_aload_n F d_Mo_attribute_149 0 rfl ?_
                      refine g_aload_n F d_Mo_attribute_150 0 rfl ?_
                      refine g_get F (v := .int (q_Mo_p x14)) in_X13 0 rfl rfl 7 (by decide) mw_1113 rfl d_Mo_attribute_151 ?_
                      obtain ⟨x15, hx15, hf⟩ := g_bind hf
                      refine g_ci F (r0 := x15) (ws' := (Wo ad cA x14)) (fun H locs ls hP hD hS hl => g_runV F (As := [.int (q_Mo_p x14)]) (n := 1) mw_1228 rfl rfl ⟨by decide, by decide⟩ rfl (by exact Nat.le_of_ble_eq_true rfl) mw_1225 mw_1227 mw_34 mw_85 (by decide +kernel) d_Mo_attribute_154 hP hD hS hl (va_recv F.2.2.2.2.2.1 hP (ci := 9) rfl (q0 := 0) rfl) (c_Mo_charAt l D cA z ad x14 (q_Mo_p x14) hx15 H.size)) ?_
                      refine g_istore_n F (L' := [(2, .int x15), (0, .ref (ad 0)), (1, .int v1)]) d_Mo_attribute_157 rfl (by decide) rfl ?_
                      refine g_goto F (tgt := 80) d_Mo_attribute_158 (by decide) ?_
                      refine g_loc [1, 2, 0] rfl ?_
                      exact ih v1 x15 x14 hf
                    · rw [if_pos h] at hf
                      exact blk128 _ (fun v1 v2 tMo h => ih v1 v2 tMo h) v1 v2 tMo hf
  unfold f_Mo_attribute at hf
  refine g_aload_n F d_Mo_attribute_0 0 rfl ?_
  refine g_get F (v := .int (q_Mo_attributeCount sMo)) in_X13 0 rfl rfl 16 (by decide) mw_1122 rfl d_Mo_attribute_1 ?_
  refine g_istore_n F (L' := [(1, .int (q_Mo_attributeCount sMo)), (0, .ref (ad 0))]) d_Mo_attribute_4 rfl (by decide) rfl ?_
  refine g_aload_n F d_Mo_attribute_5 1 rfl ?_
  refine g_dup F d_Mo_attribute_6 rfl ?_
  refine g_get F (v := .int (q_Mo_attributeCount sMo)) in_X13 0 rfl rfl 16 (by decide) mw_1122 rfl d_Mo_attribute_7 ?_
  refine g_iconst F (v := 1) d_Mo_attribute_10 (by decide) ?_
  refine g_iadd F d_Mo_attribute_11 ?_
  refine g_put F in_X13 0 rfl rfl 16 (by decide) tyX13 tyX13_ok nmX13 mw_1122 rfl rfl rfl (Nat.le_of_ble_eq_true rfl) (ws' := (Wn ad cA (q_Mo_names sMo) (q_Mo_gives sMo) (q_Mo_turned sMo) (q_Mo_size sMo) (q_Mo_bytes sMo) (q_Mo_n sMo) (q_Mo_text sMo) (q_Mo_p sMo) (q_Mo_ended sMo) (q_Mo_tokens sMo) (q_Mo_kinds sMo) (q_Mo_firsts sMo) (q_Mo_sizes sMo) (q_Mo_marks sMo) (q_Mo_attributes sMo) (q_Mo_manyOf sMo) ((q_Mo_attributeCount sMo) + 1) (q_Mo_nameAt sMo) (q_Mo_nameSize sMo) (q_Mo_valueAt sMo) (q_Mo_valueSize sMo) (q_Mo_goes sMo) (q_Mo_rowSize sMo) (q_Mo_row sMo) (q_Mo_textAt sMo) (q_Mo_textSize sMo) (q_Mo_faultCount sMo) (q_Mo_codes sMo) (q_Mo_places sMo) (q_Mo_outSize sMo) (q_Mo_out sMo) (q_Mo_which sMo))) rfl d_Mo_attribute_12 ?_
  refine g_aload_n F d_Mo_attribute_15 1 rfl ?_
  refine g_get F (v := .ref (ad 12)) in_X13 0 rfl rfl 17 (by decide) mw_1123 rfl d_Mo_attribute_16 ?_
  refine g_iload_n F d_Mo_attribute_19 0 rfl ?_
  refine g_aload_n F d_Mo_attribute_20 1 rfl ?_
  refine g_get F (v := .int (q_Mo_rowSize sMo)) in_X13 0 rfl rfl 22 (by decide) mw_1128 rfl d_Mo_attribute_21 ?_
  obtain ⟨k8, hf⟩ := g_chk hf
  refine g_iast F (f := (q_Mo_nameAt sMo)) 12 0 rfl rfl k8 (ws' := (Wn ad cA (q_Mo_names sMo) (q_Mo_gives sMo) (q_Mo_turned sMo) (q_Mo_size sMo) (q_Mo_bytes sMo) (q_Mo_n sMo) (q_Mo_text sMo) (q_Mo_p sMo) (q_Mo_ended sMo) (q_Mo_tokens sMo) (q_Mo_kinds sMo) (q_Mo_firsts sMo) (q_Mo_sizes sMo) (q_Mo_marks sMo) (q_Mo_attributes sMo) (q_Mo_manyOf sMo) ((q_Mo_attributeCount sMo) + 1) (upd (q_Mo_nameAt sMo) ((q_Mo_attributeCount sMo) : Int32).toNatClampNeg (q_Mo_rowSize sMo)) (q_Mo_nameSize sMo) (q_Mo_valueAt sMo) (q_Mo_valueSize sMo) (q_Mo_goes sMo) (q_Mo_rowSize sMo) (q_Mo_row sMo) (q_Mo_textAt sMo) (q_Mo_textSize sMo) (q_Mo_faultCount sMo) (q_Mo_codes sMo) (q_Mo_places sMo) (q_Mo_outSize sMo) (q_Mo_out sMo) (q_Mo_which sMo))) rfl d_Mo_attribute_24 ?_
  refine g_aload_n F d_Mo_attribute_25 1 rfl ?_
  refine g_get F (v := .ref (ad 15)) in_X13 0 rfl rfl 20 (by decide) mw_1126 rfl d_Mo_attribute_26 ?_
  refine g_iload_n F d_Mo_attribute_29 0 rfl ?_
  refine g_iconst F (v := 0) d_Mo_attribute_30 (by decide) ?_
  obtain ⟨k9, hf⟩ := g_chk hf
  refine g_iast F (f := (q_Mo_valueSize sMo)) 15 0 rfl rfl k9 (ws' := (Wn ad cA (q_Mo_names sMo) (q_Mo_gives sMo) (q_Mo_turned sMo) (q_Mo_size sMo) (q_Mo_bytes sMo) (q_Mo_n sMo) (q_Mo_text sMo) (q_Mo_p sMo) (q_Mo_ended sMo) (q_Mo_tokens sMo) (q_Mo_kinds sMo) (q_Mo_firsts sMo) (q_Mo_sizes sMo) (q_Mo_marks sMo) (q_Mo_attributes sMo) (q_Mo_manyOf sMo) ((q_Mo_attributeCount sMo) + 1) (upd (q_Mo_nameAt sMo) ((q_Mo_attributeCount sMo) : Int32).toNatClampNeg (q_Mo_rowSize sMo)) (q_Mo_nameSize sMo) (q_Mo_valueAt sMo) (upd (q_Mo_valueSize sMo) ((q_Mo_attributeCount sMo) : Int32).toNatClampNeg 0) (q_Mo_goes sMo) (q_Mo_rowSize sMo) (q_Mo_row sMo) (q_Mo_textAt sMo) (q_Mo_textSize sMo) (q_Mo_faultCount sMo) (q_Mo_codes sMo) (q_Mo_places sMo) (q_Mo_outSize sMo) (q_Mo_out sMo) (q_Mo_which sMo))) rfl d_Mo_attribute_31 ?_
  refine g_aload_n F d_Mo_attribute_32 1 rfl ?_
  refine g_aload_n F d_Mo_attribute_33 1 rfl ?_
  refine g_get F (v := .int (q_Mo_p sMo)) in_X13 0 rfl rfl 7 (by decide) mw_1113 rfl d_Mo_attribute_34 ?_
  obtain ⟨x16, hx16, hf⟩ := g_bind hf
  refine g_ci F (r0 := x16) (ws' := (Wn ad cA (q_Mo_names sMo) (q_Mo_gives sMo) (q_Mo_turned sMo) (q_Mo_size sMo) (q_Mo_bytes sMo) (q_Mo_n sMo) (q_Mo_text sMo) (q_Mo_p sMo) (q_Mo_ended sMo) (q_Mo_tokens sMo) (q_Mo_kinds sMo) (q_Mo_firsts sMo) (q_Mo_sizes sMo) (q_Mo_marks sMo) (q_Mo_attributes sMo) (q_Mo_manyOf sMo) ((q_Mo_attributeCount sMo) + 1) (upd (q_Mo_nameAt sMo) ((q_Mo_attributeCount sMo) : Int32).toNatClampNeg (q_Mo_rowSize sMo)) (q_Mo_nameSize sMo) (q_Mo_valueAt sMo) (upd (q_Mo_valueSize sMo) ((q_Mo_attributeCount sMo) : Int32).toNatClampNeg 0) (q_Mo_goes sMo) (q_Mo_rowSize sMo) (q_Mo_row sMo) (q_Mo_textAt sMo) (q_Mo_textSize sMo) (q_Mo_faultCount sMo) (q_Mo_codes sMo) (q_Mo_places sMo) (q_Mo_outSize sMo) (q_Mo_out sMo) (q_Mo_which sMo))) (fun H locs ls hP hD hS hl => g_runV F (As := [.int (q_Mo_p sMo)]) (n := 1) mw_1228 rfl rfl ⟨by decide, by decide⟩ rfl (by exact Nat.le_of_ble_eq_true rfl) mw_1225 mw_1227 mw_34 mw_85 (by decide +kernel) d_Mo_attribute_37 hP hD hS hl (va_recv F.2.2.2.2.2.1 hP (ci := 9) rfl (q0 := 0) rfl) (c_Mo_charAt l D cA z ad (u_Mo_attributeCount_nameAt_valueSize sMo ((q_Mo_attributeCount sMo) + 1) (upd (q_Mo_nameAt sMo) ((q_Mo_attributeCount sMo) : Int32).toNatClampNeg (q_Mo_rowSize sMo)) (upd (q_Mo_valueSize sMo) ((q_Mo_attributeCount sMo) : Int32).toNatClampNeg 0)) (q_Mo_p sMo) hx16 H.size)) ?_
  refine g_bipush F (v := 61) d_Mo_attribute_40 (by decide) ?_
  refine g_icmp_ne F (tgt := 71) d_Mo_attribute_42 (by decide) (fun h => ?_) (fun h => ?_)
  · rw [if_neg h] at hf
    refine g_aload_n F d_Mo_attribute_71 1 rfl ?_
    refine g_aload_n F d_Mo_attribute_72 1 rfl ?_
    refine g_get F (v := .int (q_Mo_p sMo)) in_X13 0 rfl rfl 7 (by decide) mw_1113 rfl d_Mo_attribute_73 ?_
    obtain ⟨x17, hx17, hf⟩ := g_bind hf
    refine g_ci F (r0 := x17) (ws' := (Wn ad cA (q_Mo_names sMo) (q_Mo_gives sMo) (q_Mo_turned sMo) (q_Mo_size sMo) (q_Mo_bytes sMo) (q_Mo_n sMo) (q_Mo_text sMo) (q_Mo_p sMo) (q_Mo_ended sMo) (q_Mo_tokens sMo) (q_Mo_kinds sMo) (q_Mo_firsts sMo) (q_Mo_sizes sMo) (q_Mo_marks sMo) (q_Mo_attributes sMo) (q_Mo_manyOf sMo) ((q_Mo_attributeCount sMo) + 1) (upd (q_Mo_nameAt sMo) ((q_Mo_attributeCount sMo) : Int32).toNatClampNeg (q_Mo_rowSize sMo)) (q_Mo_nameSize sMo) (q_Mo_valueAt sMo) (upd (q_Mo_valueSize sMo) ((q_Mo_attributeCount sMo) : Int32).toNatClampNeg 0) (q_Mo_goes sMo) (q_Mo_rowSize sMo) (q_Mo_row sMo) (q_Mo_textAt sMo) (q_Mo_textSize sMo) (q_Mo_faultCount sMo) (q_Mo_codes sMo) (q_Mo_places sMo) (q_Mo_outSize sMo) (q_Mo_out sMo) (q_Mo_which sMo))) (fun H locs ls hP hD hS hl => g_runV F (As := [.int (q_Mo_p sMo)]) (n := 1) mw_1228 rfl rfl ⟨by decide, by decide⟩ rfl (by exact Nat.le_of_ble_eq_true rfl) mw_1225 mw_1227 mw_34 mw_85 (by decide +kernel) d_Mo_attribute_76 hP hD hS hl (va_recv F.2.2.2.2.2.1 hP (ci := 9) rfl (q0 := 0) rfl) (c_Mo_charAt l D cA z ad (u_Mo_attributeCount_nameAt_valueSize sMo ((q_Mo_attributeCount sMo) + 1) (upd (q_Mo_nameAt sMo) ((q_Mo_attributeCount sMo) : Int32).toNatClampNeg (q_Mo_rowSize sMo)) (upd (q_Mo_valueSize sMo) ((q_Mo_attributeCount sMo) : Int32).toNatClampNeg 0)) (q_Mo_p sMo) hx17 H.size)) ?_
    refine g_istore_n F (L' := [(2, .int x17), (1, .int (q_Mo_attributeCount sMo)), (0, .ref (ad 0))]) d_Mo_attribute_79 rfl (by decide) rfl ?_
    refine g_loc [2, 1, 0] rfl ?_
    exact blk80 FU (q_Mo_attributeCount sMo) x17 (u_Mo_attributeCount_nameAt_valueSize sMo ((q_Mo_attributeCount sMo) + 1) (upd (q_Mo_nameAt sMo) ((q_Mo_attributeCount sMo) : Int32).toNatClampNeg (q_Mo_rowSize sMo)) (upd (q_Mo_valueSize sMo) ((q_Mo_attributeCount sMo) : Int32).toNatClampNeg 0)) hf
  · rw [if_pos h] at hf
    refine g_aload_n F d_Mo_attribute_45 1 rfl ?_
    refine g_bipush F (v := 7) d_Mo_attribute_46 (by decide) ?_
    refine g_aload_n F d_Mo_attribute_48 1 rfl ?_
    refine g_get F (v := .int (q_Mo_p sMo)) in_X13 0 rfl rfl 7 (by decide) mw_1113 rfl d_Mo_attribute_49 ?_
    obtain ⟨x18, hx18, hf⟩ := g_bind hf
    refine g_cv F (ws' := (Wo ad cA x18)) (fun H locs ls hP hD hS hl => g_runV F (As := [.int 7, .int (q_Mo_p sMo)]) (n := 2) mw_1247 rfl rfl ⟨by decide, by decide⟩ rfl (by exact Nat.le_of_ble_eq_true rfl) mw_1244 mw_1246 mw_37 mw_85 (by decide +kernel) d_Mo_attribute_52 hP hD hS hl (va_recv F.2.2.2.2.2.1 hP (ci := 9) rfl (q0 := 0) rfl) (c_Mo_wrong l D cA z ad (u_Mo_attributeCount_nameAt_valueSize sMo ((q_Mo_attributeCount sMo) + 1) (upd (q_Mo_nameAt sMo) ((q_Mo_attributeCount sMo) : Int32).toNatClampNeg (q_Mo_rowSize sMo)) (upd (q_Mo_valueSize sMo) ((q_Mo_attributeCount sMo) : Int32).toNatClampNeg 0)) 7 (q_Mo_p sMo) hx18 H.size)) ?_
    refine g_aload_n F d_Mo_attribute_55 1 rfl ?_
    refine g_bipush F (v := 61) d_Mo_attribute_56 (by decide) ?_
    obtain ⟨x19, hx19, hf⟩ := g_bind hf
    refine g_cv F (ws' := (Wo ad cA x19)) (fun H locs ls hP hD hS hl => g_runV F (As := [.int 61]) (n := 1) mw_1259 rfl rfl ⟨by decide, by decide⟩ rfl (by exact Nat.le_of_ble_eq_true rfl) mw_1256 mw_1258 mw_40 mw_85 (by decide +kernel) d_Mo_attribute_58 hP hD hS hl (va_recv F.2.2.2.2.2.1 hP (ci := 9) rfl (q0 := 0) rfl) (c_Mo_keep l D cA z ad x18 61 hx19 H.size)) ?_
    refine g_aload_n F d_Mo_attribute_61 1 rfl ?_
    refine g_dup F d_Mo_attribute_62 rfl ?_
    refine g_get F (v := .int (q_Mo_p x19)) in_X13 0 rfl rfl 7 (by decide) mw_1113 rfl d_Mo_attribute_63 ?_
    refine g_iconst F (v := 1) d_Mo_attribute_66 (by decide) ?_
    refine g_iadd F d_Mo_attribute_67 ?_
    refine g_put F in_X13 0 rfl rfl 7 (by decide) tyX13 tyX13_ok nmX13 mw_1113 rfl rfl rfl (Nat.le_of_ble_eq_true rfl) (ws' := (Wn ad cA (q_Mo_names x19) (q_Mo_gives x19) (q_Mo_turned x19) (q_Mo_size x19) (q_Mo_bytes x19) (q_Mo_n x19) (q_Mo_text x19) ((q_Mo_p x19) + 1) (q_Mo_ended x19) (q_Mo_tokens x19) (q_Mo_kinds x19) (q_Mo_firsts x19) (q_Mo_sizes x19) (q_Mo_marks x19) (q_Mo_attributes x19) (q_Mo_manyOf x19) (q_Mo_attributeCount x19) (q_Mo_nameAt x19) (q_Mo_nameSize x19) (q_Mo_valueAt x19) (q_Mo_valueSize x19) (q_Mo_goes x19) (q_Mo_rowSize x19) (q_Mo_row x19) (q_Mo_textAt x19) (q_Mo_textSize x19) (q_Mo_faultCount x19) (q_Mo_codes x19) (q_Mo_places x19) (q_Mo_outSize x19) (q_Mo_out x19) (q_Mo_which x19))) rfl d_Mo_attribute_68 ?_
    refine g_aload_n F d_Mo_attribute_71 1 rfl ?_
    refine g_aload_n F d_Mo_attribute_72 1 rfl ?_
    refine g_get F (v := .int ((q_Mo_p x19) + 1)) in_X13 0 rfl rfl 7 (by decide) mw_1113 rfl d_Mo_attribute_73 ?_
    obtain ⟨x20, hx20, hf⟩ := g_bind hf
    refine g_ci F (r0 := x20) (ws' := (Wn ad cA (q_Mo_names x19) (q_Mo_gives x19) (q_Mo_turned x19) (q_Mo_size x19) (q_Mo_bytes x19) (q_Mo_n x19) (q_Mo_text x19) ((q_Mo_p x19) + 1) (q_Mo_ended x19) (q_Mo_tokens x19) (q_Mo_kinds x19) (q_Mo_firsts x19) (q_Mo_sizes x19) (q_Mo_marks x19) (q_Mo_attributes x19) (q_Mo_manyOf x19) (q_Mo_attributeCount x19) (q_Mo_nameAt x19) (q_Mo_nameSize x19) (q_Mo_valueAt x19) (q_Mo_valueSize x19) (q_Mo_goes x19) (q_Mo_rowSize x19) (q_Mo_row x19) (q_Mo_textAt x19) (q_Mo_textSize x19) (q_Mo_faultCount x19) (q_Mo_codes x19) (q_Mo_places x19) (q_Mo_outSize x19) (q_Mo_out x19) (q_Mo_which x19))) (fun H locs ls hP hD hS hl => g_runV F (As := [.int ((q_Mo_p x19) + 1)]) (n := 1) mw_1228 rfl rfl ⟨by decide, by decide⟩ rfl (by exact Nat.le_of_ble_eq_true rfl) mw_1225 mw_1227 mw_34 mw_85 (by decide +kernel) d_Mo_attribute_76 hP hD hS hl (va_recv F.2.2.2.2.2.1 hP (ci := 9) rfl (q0 := 0) rfl) (c_Mo_charAt l D cA z ad (u_Mo_p x19 ((q_Mo_p x19) + 1)) ((q_Mo_p x19) + 1) hx20 H.size)) ?_
    refine g_istore_n F (L' := [(2, .int x20), (1, .int (q_Mo_attributeCount sMo)), (0, .ref (ad 0))]) d_Mo_attribute_79 rfl (by decide) rfl ?_
    refine g_loc [2, 1, 0] rfl ?_
    exact blk80 FU (q_Mo_attributeCount sMo) x20 (u_Mo_p x19 ((q_Mo_p x19) + 1)) hf
