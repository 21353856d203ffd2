set_option maxHeartbeats 4000000 in
set_option maxRecDepth 100000 in
theorem c_Mo_attribute (l : Launch) (D : va_G) (cA : Nat → ClassId) (z : gZ) (ad : Nat → Nat) (sMo : SMo) {x : Int32 × SMo} (hf : f_Mo_attribute sMo = some x) (sz : Nat) : Met l y_Mo_attribute (.code y_Mo_attribute b_Mo_attribute 3 (some .boolean) :: lw_g) { frames := 7, cells := 0, slots := 0, locals := 159 } (gP D (gT cA) z [.ref (ad 0)] (Wm ad cA sMo) sz) (gQi D (gT cA) (va_A (Wm ad cA sMo) sz) x.1 (Wm ad cA x.2)) 0 0 (va_A (Wm ad cA sMo) sz) := by
  refine g_met (by decide) (Nat.le_of_ble_eq_true rfl) rfl ?_
  intro p e s m args below meth c F hr hlk
  have blk161 : ∀ (v1 : Int32) (v2 : Int32) (tMo : SMo), f_Mo_attribute_161 v1 v2 tMo = some x → GW p l e { frames := 7, cells := 0, slots := 0, locals := 159 } s m args below meth c (gQi D (gT cA) (va_A (Wm ad cA sMo) sz) x.1 (Wm ad cA x.2)) D (va_A (Wm ad cA sMo) sz) 3 (Wm ad cA tMo) 161 [(0, .ref (ad 0)), (1, .int v1), (2, .int v2)] [] := by
    intro v1 v2 tMo hf
    unfold f_Mo_attribute_161 at hf
    refine g_aload_n F d_Mo_attribute_161 0 rfl ?_
    refine g_get F (v := .ref (ad 13)) in_X13 0 rfl rfl 18 (by decide) mw_1124 rfl d_Mo_attribute_162 ?_
    refine g_iload_n F d_Mo_attribute_165 1 rfl ?_
    refine g_aload_n F d_Mo_attribute_166 0 rfl ?_
    refine g_get F (v := .int (q_Mo_rowSize tMo)) in_X13 0 rfl rfl 22 (by decide) mw_1128 rfl d_Mo_attribute_167 ?_
    refine g_aload_n F d_Mo_attribute_170 0 rfl ?_
    refine g_get F (v := .ref (ad 12)) in_X13 0 rfl rfl 17 (by decide) mw_1123 rfl d_Mo_attribute_171 ?_
    refine g_iload_n F d_Mo_attribute_174 1 rfl ?_
    obtain ⟨k1, hf⟩ := g_chk hf
    refine g_iald F (f := (q_Mo_nameAt tMo)) 12 0 rfl rfl k1 d_Mo_attribute_175 ?_
    refine g_isub F d_Mo_attribute_176 ?_
    obtain ⟨k2, hf⟩ := g_chk hf
    refine g_iast F (f := (q_Mo_nameSize tMo)) 13 0 rfl rfl k2 (ws' := (Wm ad cA (u_Mo_nameSize tMo (upd (q_Mo_nameSize tMo) (v1 : Int32).toNatClampNeg ((q_Mo_rowSize tMo) - ((q_Mo_nameAt tMo) (v1 : Int32).toNatClampNeg)))))) rfl d_Mo_attribute_177 ?_
    refine g_aload_n F d_Mo_attribute_178 0 rfl ?_
    refine g_get F (v := .ref (ad 14)) in_X13 0 rfl rfl 19 (by decide) mw_1125 rfl d_Mo_attribute_179 ?_
    refine g_iload_n F d_Mo_attribute_182 1 rfl ?_
    refine g_aload_n F d_Mo_attribute_183 0 rfl ?_
    refine g_get F (v := .int (q_Mo_rowSize tMo)) in_X13 0 rfl rfl 22 (by decide) mw_1128 rfl d_Mo_attribute_184 ?_
    obtain ⟨k3, hf⟩ := g_chk hf
    refine g_iast F (f := (q_Mo_valueAt tMo)) 14 0 rfl rfl k3 (ws' := (Wm ad cA (u_Mo_valueAt (u_Mo_nameSize tMo (upd (q_Mo_nameSize tMo) (v1 : Int32).toNatClampNeg ((q_Mo_rowSize tMo) - ((q_Mo_nameAt tMo) (v1 : Int32).toNatClampNeg)))) (upd (q_Mo_valueAt tMo) (v1 : Int32).toNatClampNeg (q_Mo_rowSize tMo))))) rfl d_Mo_attribute_187 ?_
    refine g_aload_n F d_Mo_attribute_188 0 rfl ?_
    refine g_get F (v := .ref (ad 16)) in_X13 0 rfl rfl 21 (by decide) mw_1127 rfl d_Mo_attribute_189 ?_
    refine g_iload_n F d_Mo_attribute_192 1 rfl ?_
    refine g_aload_n F d_Mo_attribute_193 0 rfl ?_
    refine g_iload_n F d_Mo_attribute_194 1 rfl ?_
    obtain ⟨x1, hx1, hf⟩ := g_bind hf
    refine g_ci F (r0 := x1) (ws' := (Wm ad cA (u_Mo_valueAt (u_Mo_nameSize tMo (upd (q_Mo_nameSize tMo) (v1 : Int32).toNatClampNeg ((q_Mo_rowSize tMo) - ((q_Mo_nameAt tMo) (v1 : Int32).toNatClampNeg)))) (upd (q_Mo_valueAt tMo) (v1 : Int32).toNatClampNeg (q_Mo_rowSize tMo))))) (fun H locs ls hP hD hS hl => g_runV F (As := [.int v1]) (n := 1) mw_1372 rfl rfl ⟨by decide, by decide⟩ rfl (by exact Nat.le_of_ble_eq_true rfl) mw_1369 mw_1371 mw_63 mw_85 (by decide +kernel) d_Mo_attribute_195 hP hD hS hl (va_recv F.2.2.2.2.2.1 hP (ci := 9) rfl (q0 := 0) rfl) (c_Mo_isThere l D cA z ad (u_Mo_valueAt (u_Mo_nameSize tMo (upd (q_Mo_nameSize tMo) (v1 : Int32).toNatClampNeg ((q_Mo_rowSize tMo) - ((q_Mo_nameAt tMo) (v1 : Int32).toNatClampNeg)))) (upd (q_Mo_valueAt tMo) (v1 : Int32).toNatClampNeg (q_Mo_rowSize tMo))) v1 hx1 H.size)) ?_
    obtain ⟨k4, hf⟩ := g_chk hf
    refine g_zast F (f := (q_Mo_goes tMo)) 16 3 rfl rfl k4 (ws' := (Wm ad cA (u_Mo_goes (u_Mo_valueAt (u_Mo_nameSize tMo (upd (q_Mo_nameSize tMo) (v1 : Int32).toNatClampNeg ((q_Mo_rowSize tMo) - ((q_Mo_nameAt tMo) (v1 : Int32).toNatClampNeg)))) (upd (q_Mo_valueAt tMo) (v1 : Int32).toNatClampNeg (q_Mo_rowSize tMo))) (upd (q_Mo_goes tMo) (v1 : Int32).toNatClampNeg (vp_nar .boolean x1))))) rfl d_Mo_attribute_198 ?_
    refine g_aload_n F d_Mo_attribute_199 0 rfl ?_
    refine g_get F (v := .ref (ad 16)) in_X13 0 rfl rfl 21 (by decide) mw_1127 rfl d_Mo_attribute_200 ?_
    refine g_iload_n F d_Mo_attribute_203 1 rfl ?_
    obtain ⟨k5, hf⟩ := g_chk hf
    refine g_zald F (f := (upd (q_Mo_goes tMo) (v1 : Int32).toNatClampNeg (vp_nar .boolean x1))) 16 3 rfl rfl k5 d_Mo_attribute_204 ?_
    refine g_if_eq F (tgt := 218) d_Mo_attribute_205 (by decide) (fun h => ?_) (fun h => ?_)
    · rw [if_pos h] at hf
      refine g_aload_n F d_Mo_attribute_218 0 rfl ?_
      obtain ⟨x2, hx2, hf⟩ := g_bind hf
      refine g_cv F (ws' := (Wm ad cA x2)) (fun H locs ls hP hD hS hl => g_runV F (As := []) (n := 0) mw_1336 rfl rfl ⟨by decide, by decide⟩ rfl (by exact Nat.le_of_ble_eq_true rfl) mw_1333 mw_1335 mw_54 mw_85 (by decide +kernel) d_Mo_attribute_219 hP hD hS hl (va_recv F.2.2.2.2.2.1 hP (ci := 9) rfl (q0 := 0) rfl) (c_Mo_skipBlanks l D cA z ad (u_Mo_goes (u_Mo_valueAt (u_Mo_nameSize tMo (upd (q_Mo_nameSize tMo) (v1 : Int32).toNatClampNeg ((q_Mo_rowSize tMo) - ((q_Mo_nameAt tMo) (v1 : Int32).toNatClampNeg)))) (upd (q_Mo_valueAt tMo) (v1 : Int32).toNatClampNeg (q_Mo_rowSize tMo))) (upd (q_Mo_goes tMo) (v1 : Int32).toNatClampNeg (vp_nar .boolean x1))) hx2 H.size)) ?_
      refine g_aload_n F d_Mo_attribute_222 0 rfl ?_
      refine g_aload_n F d_Mo_attribute_223 0 rfl ?_
      refine g_get F (v := .int (q_Mo_p x2)) in_X13 0 rfl rfl 7 (by decide) mw_1113 rfl d_Mo_attribute_224 ?_
      obtain ⟨x3, hx3, hf⟩ := g_bind hf
      refine g_ci F (r0 := x3) (ws' := (Wm ad cA x2)) (fun H locs ls hP hD hS hl => g_runV F (As := [.int (q_Mo_p x2)]) (n := 1) mw_1228 rfl rfl ⟨by decide, by decide⟩ rfl (by exact Nat.le_of_ble_eq_true rfl) mw_1225 mw_1227 mw_34 mw_85 (by decide +kernel) d_Mo_attribute_227 hP hD hS hl (va_recv F.2.2.2.2.2.1 hP (ci := 9) rfl (q0 := 0) rfl) (c_Mo_charAt l D cA z ad x2 (q_Mo_p x2) hx3 H.size)) ?_
      refine g_bipush F (v := 61) d_Mo_attribute_230 (by decide) ?_
      refine g_icmp_eq F (tgt := 237) d_Mo_attribute_232 (by decide) (fun h => ?_) (fun h => ?_)
      · rw [if_pos h] at hf
        refine g_aload_n F d_Mo_attribute_237 0 rfl ?_
        refine g_dup F d_Mo_attribute_238 rfl ?_
        refine g_get F (v := .int (q_Mo_p x2)) in_X13 0 rfl rfl 7 (by decide) mw_1113 rfl d_Mo_attribute_239 ?_
        refine g_iconst F (v := 1) d_Mo_attribute_242 (by decide) ?_
        refine g_iadd F d_Mo_attribute_243 ?_
        refine g_put F in_X13 0 rfl rfl 7 (by decide) tyX13 tyX13_ok nmX13 mw_1113 rfl rfl rfl (Nat.le_of_ble_eq_true rfl) (ws' := (Wm ad cA (u_Mo_p x2 ((q_Mo_p x2) + 1)))) rfl d_Mo_attribute_244 ?_
        refine g_aload_n F d_Mo_attribute_247 0 rfl ?_
        refine g_iload_n F d_Mo_attribute_248 1 rfl ?_
        obtain ⟨x4, hx4, hf⟩ := g_bind hf
        refine g_ci F (r0 := x4.1) (ws' := (Wm ad cA x4.2)) (fun H locs ls hP hD hS hl => g_runV F (As := [.int v1]) (n := 1) mw_1376 rfl rfl ⟨by decide, by decide⟩ rfl (by exact Nat.le_of_ble_eq_true rfl) mw_1373 mw_1375 mw_64 mw_85 (by decide +kernel) d_Mo_attribute_249 hP hD hS hl (va_recv F.2.2.2.2.2.1 hP (ci := 9) rfl (q0 := 0) rfl) (c_Mo_value l D cA z ad (u_Mo_p x2 ((q_Mo_p x2) + 1)) v1 hx4 H.size)) ?_
        cases hf
        exact g_zret F hr rfl hlk rfl rfl rfl d_Mo_attribute_252
      · rw [if_neg h] at hf
        refine g_iconst F (v := 1) d_Mo_attribute_235 (by decide) ?_
        cases hf
        exact g_zret F hr rfl hlk rfl rfl rfl d_Mo_attribute_236
    · rw [if_neg h] at hf
      refine g_aload_n F d_Mo_attribute_208 0 rfl ?_
      refine g_bipush F (v := 9) d_Mo_attribute_209 (by decide) ?_
      refine g_aload_n F d_Mo_attribute_211 0 rfl ?_
      refine g_get F (v := .int (q_Mo_p tMo)) in_X13 0 rfl rfl 7 (by decide) mw_1113 rfl d_Mo_attribute_212 ?_
      obtain ⟨x5, hx5, hf⟩ := g_bind hf
      refine g_cv F (ws' := (Wm ad cA x5)) (fun H locs ls hP hD hS hl => g_runV F (As := [.int 9, .int (q_Mo_p tMo)]) (n := 2) mw_1247 rfl rfl ⟨by decide, by decide⟩ rfl (by exact Nat.le_of_ble_eq_true rfl) mw_1244 mw_1246 mw_37 mw_85 (by decide +kernel) d_Mo_attribute_215 hP hD hS hl (va_recv F.2.2.2.2.2.1 hP (ci := 9) rfl (q0 := 0) rfl) (c_Mo_wrong l D cA z ad (u_Mo_goes (u_Mo_valueAt (u_Mo_nameSize tMo (upd (q_Mo_nameSize tMo) (v1 : Int32).toNatClampNeg ((q_Mo_rowSize tMo) - ((q_Mo_nameAt tMo) (v1 : Int32).toNatClampNeg)))) (upd (q_Mo_valueAt tMo) (v1 : Int32).toNatClampNeg (q_Mo_rowSize tMo))) (upd (q_Mo_goes tMo) (v1 : Int32).toNatClampNeg (vp_nar .boolean x1))) 9 (q_Mo_p tMo) hx5 H.size)) ?_
      refine g_aload_n F d_Mo_attribute_218 0 rfl ?_
      obtain ⟨x6, hx6, hf⟩ := g_bind hf
      refine g_cv F (ws' := (Wm ad cA x6)) (fun H locs ls hP hD hS hl => g_runV F (As := []) (n := 0) mw_1336 rfl rfl ⟨by decide, by decide⟩ rfl (by exact Nat.le_of_ble_eq_true rfl) mw_1333 mw_1335 mw_54 mw_85 (by decide +kernel) d_Mo_attribute_219 hP hD hS hl (va_recv F.2.2.2.2.2.1 hP (ci := 9) rfl (q0 := 0) rfl) (c_Mo_skipBlanks l D cA z ad x5 hx6 H.size)) ?_
      refine g_aload_n F d_Mo_attribute_222 0 rfl ?_
      refine g_aload_n F d_Mo_attribute_223 0 rfl ?_
      refine g_get F (v := .int (q_Mo_p x6)) in_X13 0 rfl rfl 7 (by decide) mw_1113 rfl d_Mo_attribute_224 ?_
      obtain ⟨x7, hx7, hf⟩ := g_bind hf
      refine g_ci F (r0 := x7) (ws' := (Wm ad cA x6)) (fun H locs ls hP hD hS hl => g_runV F (As := [.int (q_Mo_p x6)]) (n := 1) mw_1228 rfl rfl ⟨by decide, by decide⟩ rfl (by exact Nat.le_of_ble_eq_true rfl) mw_1225 mw_1227 mw_34 mw_85 (by decide +kernel) d_Mo_attribute_227 hP hD hS hl (va_recv F.2.2.2.2.2.1 hP (ci := 9) rfl (q0 := 0) rfl) (c_Mo_charAt l D cA z ad x6 (q_Mo_p x6) hx7 H.size)) ?_
      refine g_bipush F (v := 61) d_Mo_attribute_230 (by decide) ?_
      refine g_icmp_eq F (tgt := 237) d_Mo_attribute_232 (by decide) (fun h => ?_) (fun h => ?_)
      · rw [if_pos h] at hf
        refine g_aload_n F d_Mo_attribute_237 0 rfl ?_
        refine g_dup F d_Mo_attribute_238 rfl ?_
        refine g_get F (v := .int (q_Mo_p x6)) in_X13 0 rfl rfl 7 (by decide) mw_1113 rfl d_Mo_attribute_239 ?_
        refine g_iconst F (v := 1) d_Mo_attribute_242 (by decide) ?_
        refine g_iadd F d_Mo_attribute_243 ?_
        refine g_put F in_X13 0 rfl rfl 7 (by decide) tyX13 tyX13_ok nmX13 mw_1113 rfl rfl rfl (Nat.le_of_ble_eq_true rfl) (ws' := (Wm ad cA (u_Mo_p x6 ((q_Mo_p x6) + 1)))) rfl d_Mo_attribute_244 ?_
        refine g_aload_n F d_Mo_attribute_247 0 rfl ?_
        refine g_iload_n F d_Mo_attribute_248 1 rfl ?_
        obtain ⟨x8, hx8, hf⟩ := g_bind hf
        refine g_ci F (r0 := x8.1) (ws' := (Wm ad cA x8.2)) (fun H locs ls hP hD hS hl => g_runV F (As := [.int v1]) (n := 1) mw_1376 rfl rfl ⟨by decide, by decide⟩ rfl (by exact Nat.le_of_ble_eq_true rfl) mw_1373 mw_1375 mw_64 mw_85 (by decide +kernel) d_Mo_attribute_249 hP hD hS hl (va_recv F.2.2.2.2.2.1 hP (ci := 9) rfl (q0 := 0) rfl) (c_Mo_value l D cA z ad (u_Mo_p x6 ((q_Mo_p x6) + 1)) v1 hx8 H.size)) ?_
        cases hf
        exact g_zret F hr rfl hlk rfl rfl rfl d_Mo_attribute_252
      · rw [if_neg h] at hf
        refine g_iconst F (v := 1) d_Mo_attribute_235 (by decide) ?_
        cases hf
        exact g_zret F hr rfl hlk rfl rfl rfl d_Mo_attribute_236
  have blk128 : ∀ (k80 : Int32 → Int32 → SMo → Option (Int32 × SMo)), (∀ (v1 : Int32) (v2 : Int32) (tMo : SMo), k80 v1 v2 tMo = some x → GW p l e { frames := 7, cells := 0, slots := 0, locals := 159 } s m args below meth c (gQi D (gT cA) (va_A (Wm ad cA sMo) sz) x.1 (Wm ad cA x.2)) D (va_A (Wm ad cA sMo) sz) 3 (Wm ad cA tMo) 80 [(0, .ref (ad 0)), (1, .int v1), (2, .int v2)] []) → ∀ (v1 : Int32) (v2 : Int32) (tMo : SMo), f_Mo_attribute_128 k80 v1 v2 tMo = some x → GW p l e { frames := 7, cells := 0, slots := 0, locals := 159 } s m args below meth c (gQi D (gT cA) (va_A (Wm ad cA sMo) sz) x.1 (Wm ad cA x.2)) D (va_A (Wm ad cA sMo) sz) 3 (Wm ad cA tMo) 128 [(0, .ref (ad 0)), (1, .int v1), (2, .int v2)] [] := by
    intro k80 hk80
    intro v1 v2 tMo hf
    unfold f_Mo_attribute_128 at hf
    refine g_aload_n F d_Mo_attribute_128 0 rfl ?_
    refine g_bipush F (v := 8) d_Mo_attribute_129 (by decide) ?_
    refine g_aload_n F d_Mo_attribute_131 0 rfl ?_
    refine g_get F (v := .int (q_Mo_p tMo)) in_X13 0 rfl rfl 7 (by decide) mw_1113 rfl d_Mo_attribute_132 ?_
    obtain ⟨x9, hx9, hf⟩ := g_bind hf
    refine g_cv F (ws' := (Wm ad cA x9)) (fun H locs ls hP hD hS hl => g_runV F (As := [.int 8, .int (q_Mo_p tMo)]) (n := 2) mw_1247 rfl rfl ⟨by decide, by decide⟩ rfl (by exact Nat.le_of_ble_eq_true rfl) mw_1244 mw_1246 mw_37 mw_85 (by decide +kernel) d_Mo_attribute_135 hP hD hS hl (va_recv F.2.2.2.2.2.1 hP (ci := 9) rfl (q0 := 0) rfl) (c_Mo_wrong l D cA z ad tMo 8 (q_Mo_p tMo) hx9 H.size)) ?_
    refine g_aload_n F d_Mo_attribute_138 0 rfl ?_
    refine g_aload_n F d_Mo_attribute_139 0 rfl ?_
    obtain ⟨x10, hx10, hf⟩ := g_bind hf
    refine g_ci F (r0 := x10.1) (ws' := (Wm ad cA x10.2)) (fun H locs ls hP hD hS hl => g_runV F (As := []) (n := 0) mw_1340 rfl rfl ⟨by decide, by decide⟩ rfl (by exact Nat.le_of_ble_eq_true rfl) mw_1337 mw_1339 mw_55 mw_85 (by decide +kernel) d_Mo_attribute_140 hP hD hS hl (va_recv F.2.2.2.2.2.1 hP (ci := 9) rfl (q0 := 0) rfl) (c_Mo_known l D cA z ad x9 hx10 H.size)) ?_
    refine g_ci F (r0 := (f_Mo_lowered x10.1)) (ws' := (Wm ad cA x10.2)) (fun H locs ls hP hD hS hl => g_runS F (As := [.int x10.1]) (n := 1) mw_1327 rfl rfl ⟨by decide, by decide⟩ rfl (by exact Nat.le_of_ble_eq_true rfl) mw_1325 mw_1326 mw_85 (by decide +kernel) d_Mo_attribute_143 hP hD hS hl (c_Mo_lowered l D cA z ad x10.2 x10.1 rfl H.size)) ?_
    obtain ⟨x11, hx11, hf⟩ := g_bind hf
    refine g_cv F (ws' := (Wm ad cA x11)) (fun H locs ls hP hD hS hl => g_runV F (As := [.int (f_Mo_lowered x10.1)]) (n := 1) mw_1259 rfl rfl ⟨by decide, by decide⟩ rfl (by exact Nat.le_of_ble_eq_true rfl) mw_1256 mw_1258 mw_40 mw_85 (by decide +kernel) d_Mo_attribute_146 hP hD hS hl (va_recv F.2.2.2.2.2.1 hP (ci := 9) rfl (q0 := 0) rfl) (c_Mo_keep l D cA z ad x10.2 (f_Mo_lowered x10.1) hx11 H.size)) ?_
    refine g_aload_n F d_Mo_attribute_149 0 rfl ?_
    refine g_aload_n F d_Mo_attribute_150 0 rfl ?_
    refine g_get F (v := .int (q_Mo_p x11)) in_X13 0 rfl rfl 7 (by decide) mw_1113 rfl d_Mo_attribute_151 ?_
    obtain ⟨x12, hx12, hf⟩ := g_bind hf
    refine g_ci F (r0 := x12) (ws' := (Wm ad cA x11)) (fun H locs ls hP hD hS hl => g_runV F (As := [.int (q_Mo_p x11)]) (n := 1) mw_1228 rfl rfl ⟨by decide, by decide⟩ rfl (by exact Nat.le_of_ble_eq_true rfl) mw_1225 mw_1227 mw_34 mw_85 (by decide +kernel) d_Mo_attribute_154 hP hD hS hl (va_recv F.2.2.2.2.2.1 hP (ci := 9) rfl (q0 := 0) rfl) (c_Mo_charAt l D cA z ad x11 (q_Mo_p x11) hx12 H.size)) ?_
    refine g_istore_n F (L' := [(2, .int x12), (0, .ref (ad 0)), (1, .int v1)]) d_Mo_attribute_157 rfl (by decide) rfl ?_
    refine g_goto F (tgt := 80) d_Mo_attribute_158 (by decide) ?_
    refine g_loc [1, 2, 0] rfl ?_
    exact hk80 v1 x12 x11 hf
  have blk80 : ∀ (n : Nat) (v1 : Int32) (v2 : Int32) (tMo : SMo), f_Mo_attribute_80 n v1 v2 tMo = some x → GW p l e { frames := 7, cells := 0, slots := 0, locals := 159 } s m args below meth c (gQi D (gT cA) (va_A (Wm ad cA sMo) sz) x.1 (Wm ad cA x.2)) D (va_A (Wm ad cA sMo) sz) 3 (Wm ad cA tMo) 80 [(0, .ref (ad 0)), (1, .int v1), (2, .int v2)] [] := by
    intro n
    induction n with
    | zero => intro _ _ _ hf; cases hf
    | succ n ih =>
      intro v1 v2 tMo hf
      rw [f_Mo_attribute_80] at hf
      refine g_iload_n F d_Mo_attribute_80 2 rfl ?_
      refine g_iconst F (v := (-1)) d_Mo_attribute_81 (by decide) ?_
      refine g_icmp_eq F (tgt := 161) d_Mo_attribute_82 (by decide) (fun h => ?_) (fun h => ?_)
      · rw [if_pos h] at hf
        exact blk161 v1 v2 tMo hf
      · rw [if_neg h] at hf
        refine g_iload_n F d_Mo_attribute_85 2 rfl ?_
        refine g_ci F (r0 := (f_Mo_isBlank v2)) (ws' := (Wm ad cA tMo)) (fun H locs ls hP hD hS hl => g_runS F (As := [.int v2]) (n := 1) mw_1277 rfl rfl ⟨by decide, by decide⟩ rfl (by exact Nat.le_of_ble_eq_true rfl) mw_1275 mw_1276 mw_85 (by decide +kernel) d_Mo_attribute_86 hP hD hS hl (c_Mo_isBlank l D cA z ad tMo v2 rfl H.size)) ?_
        refine g_if_ne F (tgt := 161) d_Mo_attribute_89 (by decide) (fun h => ?_) (fun h => ?_)
        · rw [if_neg h] at hf
          exact blk161 v1 v2 tMo hf
        · rw [if_pos h] at hf
          refine g_iload_n F d_Mo_attribute_92 2 rfl ?_
          refine g_bipush F (v := 47) d_Mo_attribute_93 (by decide) ?_
          refine g_icmp_eq F (tgt := 161) d_Mo_attribute_95 (by decide) (fun h => ?_) (fun h => ?_)
          · rw [if_pos h] at hf
            exact blk161 v1 v2 tMo hf
          · rw [if_neg h] at hf
            refine g_iload_n F d_Mo_attribute_98 2 rfl ?_
            refine g_bipush F (v := 62) d_Mo_attribute_99 (by decide) ?_
            refine g_icmp_eq F (tgt := 161) d_Mo_attribute_101 (by decide) (fun h => ?_) (fun h => ?_)
            · rw [if_pos h] at hf
              exact blk161 v1 v2 tMo hf
            · rw [if_neg h] at hf
              refine g_iload_n F d_Mo_attribute_104 2 rfl ?_
              refine g_bipush F (v := 61) d_Mo_attribute_105 (by decide) ?_
              refine g_icmp_eq F (tgt := 161) d_Mo_attribute_107 (by decide) (fun h => ?_) (fun h => ?_)
              · rw [if_pos h] at hf
                exact blk161 v1 v2 tMo hf
              · rw [if_neg h] at hf
                refine g_iload_n F d_Mo_attribute_110 2 rfl ?_
                refine g_bipush F (v := 34) d_Mo_attribute_111 (by decide) ?_
                refine g_icmp_eq F (tgt := 128) d_Mo_attribute_113 (by decide) (fun h => ?_) (fun h => ?_)
                · rw [if_pos h] at hf
                  exact blk128 _ (fun v1 v2 tMo h => ih v1 v2 tMo h) v1 v2 tMo hf
                · rw [if_neg h] at hf
                  refine g_iload_n F d_Mo_attribute_116 2 rfl ?_
                  refine g_bipush F (v := 39) d_Mo_attribute_117 (by decide) ?_
                  refine g_icmp_eq F (tgt := 128) d_Mo_attribute_119 (by decide) (fun h => ?_) (fun h => ?_)
                  · rw [if_pos h] at hf
                    exact blk128 _ (fun v1 v2 tMo h => ih v1 v2 tMo h) v1 v2 tMo hf
                  · rw [if_neg h] at hf
                    refine g_iload_n F d_Mo_attribute_122 2 rfl ?_
                    refine g_bipush F (v := 60) d_Mo_attribute_123 (by decide) ?_
                    refine g_icmp_ne F (tgt := 138) d_Mo_attribute_125 (by decide) (fun h => ?_) (fun h => ?_)
                    · rw [if_neg h] at hf
                      refine g_aload_n F d_Mo_attribute_138 0 rfl ?_
                      refine g_aload_n F d_Mo_attribute_139 0 rfl ?_
                      obtain ⟨x13, hx13, hf⟩ := g_bind hf
                      refine g_ci F (r0 := x13.1) (ws' := (Wm ad cA x13.2)) (fun H locs ls hP hD hS hl => g_runV F (As := []) (n := 0) mw_1340 rfl rfl ⟨by decide, by decide⟩ rfl (by exact Nat.le_of_ble_eq_true rfl) mw_1337 mw_1339 mw_55 mw_85 (by decide +kernel) d_Mo_attribute_140 hP hD hS hl (va_recv F.2.2.2.2.2.1 hP (ci := 9) rfl (q0 := 0) rfl) (c_Mo_known l D cA z ad tMo hx13 H.size)) ?_
                      refine g_ci F (r0 := (f_Mo_lowered x13.1)) (ws' := (Wm ad cA x13.2)) (fun H locs ls hP hD hS hl => g_runS F (As := [.int x13.1]) (n := 1) mw_1327 rfl rfl ⟨by decide, by decide⟩ rfl (by exact Nat.le_of_ble_eq_true rfl) mw_1325 mw_1326 mw_85 (by decide +kernel) d_Mo_attribute_143 hP hD hS hl (c_Mo_lowered l D cA z ad x13.2 x13.1 rfl H.size)) ?_
                      obtain ⟨x14, hx14, hf⟩ := g_bind hf
                      refine g_cv F (ws' := (Wm ad cA x14)) (fun H locs ls hP hD hS hl => g_runV F (As := [.int (f_Mo_lowered x13.1)]) (n := 1) mw_1259 rfl rfl ⟨by decide, by decide⟩ rfl (by exact Nat.le_of_ble_eq_true rfl) mw_1256 mw_1258 mw_40 mw_85 (by decide +kernel) d_Mo_attribute_146 hP hD hS hl (va_recv F.2.2.2.2.2.1 hP (ci := 9) rfl (q0 := 0) rfl) (c_Mo_keep l D cA z ad x13.2 (f_Mo_lowered x13.1) hx14 H.size)) ?_
                      refine g_aload_n F d_Mo_attribute_149 0 rfl ?_
                      refine g_aload_n F d_Mo_attribute_150 0 rfl ?_
                      refine g_get F (v := .int (q_Mo_p x14)) in_X13 0 rfl rfl 7 (by decide) mw_1113 rfl d_Mo_attribute_151 ?_
                      obtain ⟨x15, hx15, hf⟩ := g_bind hf
                      refine g_ci F (r0 := x15) (ws' := (Wm ad cA x14)) (fun H locs ls hP hD hS hl => g_runV F (As := [.int (q_Mo_p x14)]) (n := 1) mw_1228 rfl rfl ⟨by decide, by decide⟩ rfl (by exact Nat.le_of_ble_eq_true rfl) mw_1225 mw_1227 mw_34 mw_85 (by decide +kernel) d_Mo_attribute_154 hP hD hS hl (va_recv F.2.2.2.2.2.1 hP (ci := 9) rfl (q0 := 0) rfl) (c_Mo_charAt l D cA z ad x14 (q_Mo_p x14) hx15 H.size)) ?_
                      refine g_istore_n F (L' := [(2, .int x15), (0, .ref (ad 0)), (1, .int v1)]) d_Mo_attribute_157 rfl (by decide) rfl ?_
                      refine g_goto F (tgt := 80) d_Mo_attribute_158 (by decide) ?_
                      refine g_loc [1, 2, 0] rfl ?_
                      exact ih v1 x15 x14 hf
                    · rw [if_pos h] at hf
                      exact blk128 _ (fun v1 v2 tMo h => ih v1 v2 tMo h) v1 v2 tMo hf
  unfold f_Mo_attribute at hf
  refine g_aload_n F d_Mo_attribute_0 0 rfl ?_
  refine g_get F (v := .int (q_Mo_attributeCount sMo)) in_X13 0 rfl rfl 16 (by decide) mw_1122 rfl d_Mo_attribute_1 ?_
  refine g_istore_n F (L' := [(1, .int (q_Mo_attributeCount sMo)), (0, .ref (ad 0))]) d_Mo_attribute_4 rfl (by decide) rfl ?_
  refine g_aload_n F d_Mo_attribute_5 1 rfl ?_
  refine g_dup F d_Mo_attribute_6 rfl ?_
  refine g_get F (v := .int (q_Mo_attributeCount sMo)) in_X13 0 rfl rfl 16 (by decide) mw_1122 rfl d_Mo_attribute_7 ?_
  refine g_iconst F (v := 1) d_Mo_attribute_10 (by decide) ?_
  refine g_iadd F d_Mo_attribute_11 ?_
  refine g_put F in_X13 0 rfl rfl 16 (by decide) tyX13 tyX13_ok nmX13 mw_1122 rfl rfl rfl (Nat.le_of_ble_eq_true rfl) (ws' := (Wm ad cA (u_Mo_attributeCount sMo ((q_Mo_attributeCount sMo) + 1)))) rfl d_Mo_attribute_12 ?_
  refine g_aload_n F d_Mo_attribute_15 1 rfl ?_
  refine g_get F (v := .ref (ad 12)) in_X13 0 rfl rfl 17 (by decide) mw_1123 rfl d_Mo_attribute_16 ?_
  refine g_iload_n F d_Mo_attribute_19 0 rfl ?_
  refine g_aload_n F d_Mo_attribute_20 1 rfl ?_
  refine g_get F (v := .int (q_Mo_rowSize sMo)) in_X13 0 rfl rfl 22 (by decide) mw_1128 rfl d_Mo_attribute_21 ?_
  obtain ⟨k6, hf⟩ := g_chk hf
  refine g_iast F (f := (q_Mo_nameAt sMo)) 12 0 rfl rfl k6 (ws' := (Wm ad cA (u_Mo_nameAt (u_Mo_attributeCount sMo ((q_Mo_attributeCount sMo) + 1)) (upd (q_Mo_nameAt sMo) ((q_Mo_attributeCount sMo) : Int32).toNatClampNeg (q_Mo_rowSize sMo))))) rfl d_Mo_attribute_24 ?_
  refine g_aload_n F d_Mo_attribute_25 1 rfl ?_
  refine g_get F (v := .ref (ad 15)) in_X13 0 rfl rfl 20 (by decide) mw_1126 rfl d_Mo_attribute_26 ?_
  refine g_iload_n F d_Mo_attribute_29 0 rfl ?_
  refine g_iconst F (v := 0) d_Mo_attribute_30 (by decide) ?_
  obtain ⟨k7, hf⟩ := g_chk hf
  refine g_iast F (f := (q_Mo_valueSize sMo)) 15 0 rfl rfl k7 (ws' := (Wm ad cA (u_Mo_valueSize (u_Mo_nameAt (u_Mo_attributeCount sMo ((q_Mo_attributeCount sMo) + 1)) (upd (q_Mo_nameAt sMo) ((q_Mo_attributeCount sMo) : Int32).toNatClampNeg (q_Mo_rowSize sMo))) (upd (q_Mo_valueSize sMo) ((q_Mo_attributeCount sMo) : Int32).toNatClampNeg 0)))) rfl d_Mo_attribute_31 ?_
  refine g_aload_n F d_Mo_attribute_32 1 rfl ?_
  refine g_aload_n F d_Mo_attribute_33 1 rfl ?_
  refine g_get F (v := .int (q_Mo_p sMo)) in_X13 0 rfl rfl 7 (by decide) mw_1113 rfl d_Mo_attribute_34 ?_
  obtain ⟨x16, hx16, hf⟩ := g_bind hf
  refine g_ci F (r0 := x16) (ws' := (Wm ad cA (u_Mo_valueSize (u_Mo_nameAt (u_Mo_attributeCount sMo ((q_Mo_attributeCount sMo) + 1)) (upd (q_Mo_nameAt sMo) ((q_Mo_attributeCount sMo) : Int32).toNatClampNeg (q_Mo_rowSize sMo))) (upd (q_Mo_valueSize sMo) ((q_Mo_attributeCount sMo) : Int32).toNatClampNeg 0)))) (fun H locs ls hP hD hS hl => g_runV F (As := [.int (q_Mo_p sMo)]) (n := 1) mw_1228 rfl rfl ⟨by decide, by decide⟩ rfl (by exact Nat.le_of_ble_eq_true rfl) mw_1225 mw_1227 mw_34 mw_85 (by decide +kernel) d_Mo_attribute_37 hP hD hS hl (va_recv F.2.2.2.2.2.1 hP (ci := 9) rfl (q0 := 0) rfl) (c_Mo_charAt l D cA z ad (u_Mo_valueSize (u_Mo_nameAt (u_Mo_attributeCount sMo ((q_Mo_attributeCount sMo) + 1)) (upd (q_Mo_nameAt sMo) ((q_Mo_attributeCount sMo) : Int32).toNatClampNeg (q_Mo_rowSize sMo))) (upd (q_Mo_valueSize sMo) ((q_Mo_attributeCount sMo) : Int32).toNatClampNeg 0)) (q_Mo_p sMo) hx16 H.size)) ?_
  refine g_bipush F (v := 61) d_Mo_attribute_40 (by decide) ?_
  refine g_icmp_ne F (tgt := 71) d_Mo_attribute_42 (by decide) (fun h => ?_) (fun h => ?_)
  · rw [if_neg h] at hf
    refine g_aload_n F d_Mo_attribute_71 1 rfl ?_
    refine g_aload_n F d_Mo_attribute_72 1 rfl ?_
    refine g_get F (v := .int (q_Mo_p sMo)) in_X13 0 rfl rfl 7 (by decide) mw_1113 rfl d_Mo_attribute_73 ?_
    obtain ⟨x17, hx17, hf⟩ := g_bind hf
    refine g_ci F (r0 := x17) (ws' := (Wm ad cA (u_Mo_valueSize (u_Mo_nameAt (u_Mo_attributeCount sMo ((q_Mo_attributeCount sMo) + 1)) (upd (q_Mo_nameAt sMo) ((q_Mo_attributeCount sMo) : Int32).toNatClampNeg (q_Mo_rowSize sMo))) (upd (q_Mo_valueSize sMo) ((q_Mo_attributeCount sMo) : Int32).toNatClampNeg 0)))) (fun H locs ls hP hD hS hl => g_runV F (As := [.int (q_Mo_p sMo)]) (n := 1) mw_1228 rfl rfl ⟨by decide, by decide⟩ rfl (by exact Nat.le_of_ble_eq_true rfl) mw_1225 mw_1227 mw_34 mw_85 (by decide +kernel) d_Mo_attribute_76 hP hD hS hl (va_recv F.2.2.2.2.2.1 hP (ci := 9) rfl (q0 := 0) rfl) (c_Mo_charAt l D cA z ad (u_Mo_valueSize (u_Mo_nameAt (u_Mo_attributeCount sMo ((q_Mo_attributeCount sMo) + 1)) (upd (q_Mo_nameAt sMo) ((q_Mo_attributeCount sMo) : Int32).toNatClampNeg (q_Mo_rowSize sMo))) (upd (q_Mo_valueSize sMo) ((q_Mo_attributeCount sMo) : Int32).toNatClampNeg 0)) (q_Mo_p sMo) hx17 H.size)) ?_
    refine g_istore_n F (L' := [(2, .int x17), (1, .int (q_Mo_attributeCount sMo)), (0, .ref (ad 0))]) d_Mo_attribute_79 rfl (by decide) rfl ?_
    refine g_loc [2, 1, 0] rfl ?_
    exact blk80 FU (q_Mo_attributeCount sMo) x17 (u_Mo_valueSize (u_Mo_nameAt (u_Mo_attributeCount sMo ((q_Mo_attributeCount sMo) + 1)) (upd (q_Mo_nameAt sMo) ((q_Mo_attributeCount sMo) : Int32).toNatClampNeg (q_Mo_rowSize sMo))) (upd (q_Mo_valueSize sMo) ((q_Mo_attributeCount sMo) : Int32).toNatClampNeg 0)) hf
  · rw [if_pos h] at hf
    refine g_aload_n F d_Mo_attribute_45 1 rfl ?_
    refine g_bipush F (v := 7) d_Mo_attribute_46 (by decide) ?_
    refine g_aload_n F d_Mo_attribute_48 1 rfl ?_
    refine g_get F (v := .int (q_Mo_p sMo)) in_X13 0 rfl rfl 7 (by decide) mw_1113 rfl d_Mo_attribute_49 ?_
    obtain ⟨x18, hx18, hf⟩ := g_bind hf
    refine g_cv F (ws' := (Wm ad cA x18)) (fun H locs ls hP hD hS hl => g_runV F (As := [.int 7, .int (q_Mo_p sMo)]) (n := 2) mw_1247 rfl rfl ⟨by decide, by decide⟩ rfl (by exact Nat.le_of_ble_eq_true rfl) mw_1244 mw_1246 mw_37 mw_85 (by decide +kernel) d_Mo_attribute_52 hP hD hS hl (va_recv F.2.2.2.2.2.1 hP (ci := 9) rfl (q0 := 0) rfl) (c_Mo_wrong l D cA z ad (u_Mo_valueSize (u_Mo_nameAt (u_Mo_attributeCount sMo ((q_Mo_attributeCount sMo) + 1)) (upd (q_Mo_nameAt sMo) ((q_Mo_attributeCount sMo) : Int32).toNatClampNeg (q_Mo_rowSize sMo))) (upd (q_Mo_valueSize sMo) ((q_Mo_attributeCount sMo) : Int32).toNatClampNeg 0)) 7 (q_Mo_p sMo) hx18 H.size)) ?_
    refine g_aload_n F d_Mo_attribute_55 1 rfl ?_
    refine g_bipush F (v := 61) d_Mo_attribute_56 (by decide) ?_
    obtain ⟨x19, hx19, hf⟩ := g_bind hf
    refine g_cv F (ws' := (Wm ad cA x19)) (fun H locs ls hP hD hS hl => g_runV F (As := [.int 61]) (n := 1) mw_1259 rfl rfl ⟨by decide, by decide⟩ rfl (by exact Nat.le_of_ble_eq_true rfl) mw_1256 mw_1258 mw_40 mw_85 (by decide +kernel) d_Mo_attribute_58 hP hD hS hl (va_recv F.2.2.2.2.2.1 hP (ci := 9) rfl (q0 := 0) rfl) (c_Mo_keep l D cA z ad x18 61 hx19 H.size)) ?_
    refine g_aload_n F d_Mo_attribute_61 1 rfl ?_
    refine g_dup F d_Mo_attribute_62 rfl ?_
    refine g_get F (v := .int (q_Mo_p x19)) in_X13 0 rfl rfl 7 (by decide) mw_1113 rfl d_Mo_attribute_63 ?_
    refine g_iconst F (v := 1) d_Mo_attribute_66 (by decide) ?_
    refine g_iadd F d_Mo_attribute_67 ?_
    refine g_put F in_X13 0 rfl rfl 7 (by decide) tyX13 tyX13_ok nmX13 mw_1113 rfl rfl rfl (Nat.le_of_ble_eq_true rfl) (ws' := (Wm ad cA (u_Mo_p x19 ((q_Mo_p x19) + 1)))) rfl d_Mo_attribute_68 ?_
    refine g_aload_n F d_Mo_attribute_71 1 rfl ?_
    refine g_aload_n F d_Mo_attribute_72 1 rfl ?_
    refine g_get F (v := .int ((q_Mo_p x19) + 1)) in_X13 0 rfl rfl 7 (by decide) mw_1113 rfl d_Mo_attribute_73 ?_
    obtain ⟨x20, hx20, hf⟩ := g_bind hf
    refine g_ci F (r0 := x20) (ws' := (Wm ad cA (u_Mo_p x19 ((q_Mo_p x19) + 1)))) (fun H locs ls hP hD hS hl => g_runV F (As := [.int ((q_Mo_p x19) + 1)]) (n := 1) mw_1228 rfl rfl ⟨by decide, by decide⟩ rfl (by exact Nat.le_of_ble_eq_true rfl) mw_1225 mw_1227 mw_34 mw_85 (by decide +kernel) d_Mo_attribute_76 hP hD hS hl (va_recv F.2.2.2.2.2.1 hP (ci := 9) rfl (q0 := 0) rfl) (c_Mo_charAt l D cA z ad (u_Mo_p x19 ((q_Mo_p x19) + 1)) ((q_Mo_p x19) + 1) hx20 H.size)) ?_
    refine g_istore_n F (L' := [(2, .int x20), (1, .int (q_Mo_attributeCount sMo)), (0, .ref (ad 0))]) d_Mo_attribute_79 rfl (by decide) rfl ?_
    refine g_loc [2, 1, 0] rfl ?_
    exact blk80 FU (q_Mo_attributeCount sMo) x20 (u_Mo_p x19 ((q_Mo_p x19) + 1)) hf
set_option maxHeartbeats 4000000 in
set_option maxRecDepth 100000 in
theorem c_Mo_behindName (l : Launch) (D : va_G) (cA : Nat → ClassId) (z : gZ) (ad : Nat → Nat) (sMo : SMo) {x : Int32 × SMo} (hf : f_Mo_behindName sMo = some x) (sz : Nat) : Met l y_Mo_behindName (.code y_Mo_behindName b_Mo_behindName 2 (some .boolean) :: lw_g) { frames := 8, cells := 0, slots := 0, locals := 181 } (gP D (gT cA) z [.ref (ad 0)] (Wm ad cA sMo) sz) (gQi D (gT cA) (va_A (Wm ad cA sMo) sz) x.1 (Wm ad cA x.2)) 0 0 (va_A (Wm ad cA sMo) sz) := by
  refine g_met (by decide) (Nat.le_of_ble_eq_true rfl) rfl ?_
  intro p e s m args below meth c F hr hlk
  unfold f_Mo_behindName at hf
  refine g_aload_n F d_Mo_behindName_0 0 rfl ?_
  obtain ⟨x1, hx1, hf⟩ := g_bind hf
  refine g_cv F (ws' := (Wm ad cA x1)) (fun H locs ls hP hD hS hl => g_runV F (As := []) (n := 0) mw_1336 rfl rfl ⟨by decide, by decide⟩ rfl (by exact Nat.le_of_ble_eq_true rfl) mw_1333 mw_1335 mw_54 mw_85 (by decide +kernel) d_Mo_behindName_1 hP hD hS hl (va_recv F.2.2.2.2.2.1 hP (ci := 9) rfl (q0 := 0) rfl) (c_Mo_skipBlanks l D cA z ad sMo hx1 H.size)) ?_
  refine g_aload_n F d_Mo_behindName_4 0 rfl ?_
  refine g_aload_n F d_Mo_behindName_5 0 rfl ?_
  refine g_get F (v := .int (q_Mo_p x1)) in_X13 0 rfl rfl 7 (by decide) mw_1113 rfl d_Mo_behindName_6 ?_
  obtain ⟨x2, hx2, hf⟩ := g_bind hf
  refine g_ci F (r0 := x2) (ws' := (Wm ad cA x1)) (fun H locs ls hP hD hS hl => g_runV F (As := [.int (q_Mo_p x1)]) (n := 1) mw_1228 rfl rfl ⟨by decide, by decide⟩ rfl (by exact Nat.le_of_ble_eq_true rfl) mw_1225 mw_1227 mw_34 mw_85 (by decide +kernel) d_Mo_behindName_9 hP hD hS hl (va_recv F.2.2.2.2.2.1 hP (ci := 9) rfl (q0 := 0) rfl) (c_Mo_charAt l D cA z ad x1 (q_Mo_p x1) hx2 H.size)) ?_
  refine g_istore_n F (L' := [(1, .int x2), (0, .ref (ad 0))]) d_Mo_behindName_12 rfl (by decide) rfl ?_
  refine g_iload_n F d_Mo_behindName_13 0 rfl ?_
  refine g_iconst F (v := (-1)) d_Mo_behindName_14 (by decide) ?_
  refine g_icmp_ne F (tgt := 24) d_Mo_behindName_15 (by decide) (fun h => ?_) (fun h => ?_)
  · rw [if_neg h] at hf
    refine g_iload_n F d_Mo_behindName_24 0 rfl ?_
    refine g_bipush F (v := 62) d_Mo_behindName_25 (by decide) ?_
    refine g_icmp_ne F (tgt := 36) d_Mo_behindName_27 (by decide) (fun h => ?_) (fun h => ?_)
    · rw [if_neg h] at hf
      refine g_iload_n F d_Mo_behindName_36 0 rfl ?_
      refine g_bipush F (v := 47) d_Mo_behindName_37 (by decide) ?_
      refine g_icmp_ne F (tgt := 111) d_Mo_behindName_39 (by decide) (fun h => ?_) (fun h => ?_)
      · rw [if_neg h] at hf
        refine g_aload_n F d_Mo_behindName_111 1 rfl ?_
        obtain ⟨x3, hx3, hf⟩ := g_bind hf
        refine g_ci F (r0 := x3.1) (ws' := (Wm ad cA x3.2)) (fun H locs ls hP hD hS hl => g_runV F (As := []) (n := 0) mw_1368 rfl rfl ⟨by decide, by decide⟩ rfl (by exact Nat.le_of_ble_eq_true rfl) mw_1365 mw_1367 mw_62 mw_85 (by decide +kernel) d_Mo_behindName_112 hP hD hS hl (va_recv F.2.2.2.2.2.1 hP (ci := 9) rfl (q0 := 0) rfl) (c_Mo_attribute l D cA z ad x1 hx3 H.size)) ?_
        cases hf
        exact g_zret F hr rfl hlk rfl rfl rfl d_Mo_behindName_115
      · rw [if_pos h] at hf
        refine g_aload_n F d_Mo_behindName_42 1 rfl ?_
        refine g_dup F d_Mo_behindName_43 rfl ?_
        refine g_get F (v := .int (q_Mo_p x1)) in_X13 0 rfl rfl 7 (by decide) mw_1113 rfl d_Mo_behindName_44 ?_
        refine g_iconst F (v := 1) d_Mo_behindName_47 (by decide) ?_
        refine g_iadd F d_Mo_behindName_48 ?_
        refine g_put F in_X13 0 rfl rfl 7 (by decide) tyX13 tyX13_ok nmX13 mw_1113 rfl rfl rfl (Nat.le_of_ble_eq_true rfl) (ws' := (Wm ad cA (u_Mo_p x1 ((q_Mo_p x1) + 1)))) rfl d_Mo_behindName_49 ?_
        refine g_aload_n F d_Mo_behindName_52 1 rfl ?_
        refine g_aload_n F d_Mo_behindName_53 1 rfl ?_
        refine g_get F (v := .int ((q_Mo_p x1) + 1)) in_X13 0 rfl rfl 7 (by decide) mw_1113 rfl d_Mo_behindName_54 ?_
        obtain ⟨x4, hx4, hf⟩ := g_bind hf
        refine g_ci F (r0 := x4) (ws' := (Wm ad cA (u_Mo_p x1 ((q_Mo_p x1) + 1)))) (fun H locs ls hP hD hS hl => g_runV F (As := [.int ((q_Mo_p x1) + 1)]) (n := 1) mw_1228 rfl rfl ⟨by decide, by decide⟩ rfl (by exact Nat.le_of_ble_eq_true rfl) mw_1225 mw_1227 mw_34 mw_85 (by decide +kernel) d_Mo_behindName_57 hP hD hS hl (va_recv F.2.2.2.2.2.1 hP (ci := 9) rfl (q0 := 0) rfl) (c_Mo_charAt l D cA z ad (u_Mo_p x1 ((q_Mo_p x1) + 1)) ((q_Mo_p x1) + 1) hx4 H.size)) ?_
        refine g_bipush F (v := 62) d_Mo_behindName_60 (by decide) ?_
        refine g_icmp_ne F (tgt := 81) d_Mo_behindName_62 (by decide) (fun h => ?_) (fun h => ?_)
        · rw [if_neg h] at hf
          refine g_aload_n F d_Mo_behindName_81 1 rfl ?_
          refine g_aload_n F d_Mo_behindName_82 1 rfl ?_
          refine g_get F (v := .int ((q_Mo_p x1) + 1)) in_X13 0 rfl rfl 7 (by decide) mw_1113 rfl d_Mo_behindName_83 ?_
          obtain ⟨x5, hx5, hf⟩ := g_bind hf
          refine g_ci F (r0 := x5) (ws' := (Wm ad cA (u_Mo_p x1 ((q_Mo_p x1) + 1)))) (fun H locs ls hP hD hS hl => g_runV F (As := [.int ((q_Mo_p x1) + 1)]) (n := 1) mw_1228 rfl rfl ⟨by decide, by decide⟩ rfl (by exact Nat.le_of_ble_eq_true rfl) mw_1225 mw_1227 mw_34 mw_85 (by decide +kernel) d_Mo_behindName_86 hP hD hS hl (va_recv F.2.2.2.2.2.1 hP (ci := 9) rfl (q0 := 0) rfl) (c_Mo_charAt l D cA z ad (u_Mo_p x1 ((q_Mo_p x1) + 1)) ((q_Mo_p x1) + 1) hx5 H.size)) ?_
          refine g_iconst F (v := (-1)) d_Mo_behindName_89 (by decide) ?_
          refine g_icmp_ne F (tgt := 99) d_Mo_behindName_90 (by decide) (fun h => ?_) (fun h => ?_)
          · rw [if_neg h] at hf
            refine g_aload_n F d_Mo_behindName_99 1 rfl ?_
            refine g_bipush F (v := 13) d_Mo_behindName_100 (by decide) ?_
            refine g_aload_n F d_Mo_behindName_102 1 rfl ?_
            refine g_get F (v := .int ((q_Mo_p x1) + 1)) in_X13 0 rfl rfl 7 (by decide) mw_1113 rfl d_Mo_behindName_103 ?_
            obtain ⟨x6, hx6, hf⟩ := g_bind hf
            refine g_cv F (ws' := (Wm ad cA x6)) (fun H locs ls hP hD hS hl => g_runV F (As := [.int 13, .int ((q_Mo_p x1) + 1)]) (n := 2) mw_1247 rfl rfl ⟨by decide, by decide⟩ rfl (by exact Nat.le_of_ble_eq_true rfl) mw_1244 mw_1246 mw_37 mw_85 (by decide +kernel) d_Mo_behindName_106 hP hD hS hl (va_recv F.2.2.2.2.2.1 hP (ci := 9) rfl (q0 := 0) rfl) (c_Mo_wrong l D cA z ad (u_Mo_p x1 ((q_Mo_p x1) + 1)) 13 ((q_Mo_p x1) + 1) hx6 H.size)) ?_
            refine g_iconst F (v := 1) d_Mo_behindName_109 (by decide) ?_
            cases hf
            exact g_zret F hr rfl hlk rfl rfl rfl d_Mo_behindName_110
          · rw [if_pos h] at hf
            refine g_aload_n F d_Mo_behindName_93 1 rfl ?_
            obtain ⟨x7, hx7, hf⟩ := g_bind hf
            refine g_cv F (ws' := (Wm ad cA x7)) (fun H locs ls hP hD hS hl => g_runV F (As := []) (n := 0) mw_1360 rfl rfl ⟨by decide, by decide⟩ rfl (by exact Nat.le_of_ble_eq_true rfl) mw_1357 mw_1359 mw_60 mw_85 (by decide +kernel) d_Mo_behindName_94 hP hD hS hl (va_recv F.2.2.2.2.2.1 hP (ci := 9) rfl (q0 := 0) rfl) (c_Mo_drop l D cA z ad (u_Mo_p x1 ((q_Mo_p x1) + 1)) hx7 H.size)) ?_
            refine g_iconst F (v := 0) d_Mo_behindName_97 (by decide) ?_
            cases hf
            exact g_zret F hr rfl hlk rfl rfl rfl d_Mo_behindName_98
        · rw [if_pos h] at hf
          refine g_aload_n F d_Mo_behindName_65 1 rfl ?_
          refine g_get F (v := .ref (ad 9)) in_X13 0 rfl rfl 13 (by decide) mw_1119 rfl d_Mo_behindName_66 ?_
          refine g_aload_n F d_Mo_behindName_69 1 rfl ?_
          refine g_get F (v := .int (q_Mo_tokens x1)) in_X13 0 rfl rfl 9 (by decide) mw_1115 rfl d_Mo_behindName_70 ?_
          refine g_iconst F (v := 1) d_Mo_behindName_73 (by decide) ?_
          obtain ⟨k1, hf⟩ := g_chk hf
          refine g_zast F (f := (q_Mo_marks x1)) 9 3 rfl rfl k1 (ws' := (Wm ad cA (u_Mo_marks (u_Mo_p x1 ((q_Mo_p x1) + 1)) (upd (q_Mo_marks x1) ((q_Mo_tokens x1) : Int32).toNatClampNeg (vp_nar .boolean 1))))) rfl d_Mo_behindName_74 ?_
          refine g_aload_n F d_Mo_behindName_75 1 rfl ?_
          obtain ⟨x8, hx8, hf⟩ := g_bind hf
          refine g_cv F (ws' := (Wm ad cA x8)) (fun H locs ls hP hD hS hl => g_runV F (As := []) (n := 0) mw_1364 rfl rfl ⟨by decide, by decide⟩ rfl (by exact Nat.le_of_ble_eq_true rfl) mw_1361 mw_1363 mw_61 mw_85 (by decide +kernel) d_Mo_behindName_76 hP hD hS hl (va_recv F.2.2.2.2.2.1 hP (ci := 9) rfl (q0 := 0) rfl) (c_Mo_finish l D cA z ad (u_Mo_marks (u_Mo_p x1 ((q_Mo_p x1) + 1)) (upd (q_Mo_marks x1) ((q_Mo_tokens x1) : Int32).toNatClampNeg (vp_nar .boolean 1))) hx8 H.size)) ?_
          refine g_iconst F (v := 0) d_Mo_behindName_79 (by decide) ?_
          cases hf
          exact g_zret F hr rfl hlk rfl rfl rfl d_Mo_behindName_80
    · rw [if_pos h] at hf
      refine g_aload_n F d_Mo_behindName_30 1 rfl ?_
      obtain ⟨x9, hx9, hf⟩ := g_bind hf
      refine g_cv F (ws' := (Wm ad cA x9)) (fun H locs ls hP hD hS hl => g_runV F (As := []) (n := 0) mw_1364 rfl rfl ⟨by decide, by decide⟩ rfl (by exact Nat.le_of_ble_eq_true rfl) mw_1361 mw_1363 mw_61 mw_85 (by decide +kernel) d_Mo_behindName_31 hP hD hS hl (va_recv F.2.2.2.2.2.1 hP (ci := 9) rfl (q0 := 0) rfl) (c_Mo_finish l D cA z ad x1 hx9 H.size)) ?_
      refine g_iconst F (v := 0) d_Mo_behindName_34 (by decide) ?_
      cases hf
      exact g_zret F hr rfl hlk rfl rfl rfl d_Mo_behindName_35
  · rw [if_pos h] at hf
    refine g_aload_n F d_Mo_behindName_18 1 rfl ?_
    obtain ⟨x10, hx10, hf⟩ := g_bind hf
    refine g_cv F (ws' := (Wm ad cA x10)) (fun H locs ls hP hD hS hl => g_runV F (As := []) (n := 0) mw_1360 rfl rfl ⟨by decide, by decide⟩ rfl (by exact Nat.le_of_ble_eq_true rfl) mw_1357 mw_1359 mw_60 mw_85 (by decide +kernel) d_Mo_behindName_19 hP hD hS hl (va_recv F.2.2.2.2.2.1 hP (ci := 9) rfl (q0 := 0) rfl) (c_Mo_drop l D cA z ad x1 hx10 H.size)) ?_
    refine g_iconst F (v := 0) d_Mo_behindName_22 (by decide) ?_
    cases hf
    exact g_zret F hr rfl hlk rfl rfl rfl d_Mo_behindName_23
set_option maxHeartbeats 4000000 in
set_option maxRecDepth 100000 in
theorem c_Mo_tagName (l : Launch) (D : va_G) (cA : Nat → ClassId) (z : gZ) (ad : Nat → Nat) (sMo : SMo) {x : SMo} (hf : f_Mo_tagName sMo = some x) (sz : Nat) : Met l y_Mo_tagName (.code y_Mo_tagName b_Mo_tagName 3 none :: lw_g) { frames := 9, cells := 0, slots := 0, locals := 202 } (gP D (gT cA) z [.ref (ad 0)] (Wm ad cA sMo) sz) (gQv D (gT cA) (va_A (Wm ad cA sMo) sz) (Wm ad cA x)) 0 0 (va_A (Wm ad cA sMo) sz) := by
  refine g_met (by decide) (Nat.le_of_ble_eq_true rfl) rfl ?_
  intro p e s m args below meth c F hr hlk
  have blk81 : ∀ (n : Nat) (v1 : Int32) (v2 : Int32) (tMo : SMo), f_Mo_tagName_81 n v1 v2 tMo = some x → GW p l e { frames := 9, cells := 0, slots := 0, locals := 202 } s m args below meth c (gQv D (gT cA) (va_A (Wm ad cA sMo) sz) (Wm ad cA x)) D (va_A (Wm ad cA sMo) sz) 3 (Wm ad cA tMo) 81 [(0, .ref (ad 0)), (1, .int v1), (2, .int v2)] [] := by
    intro n
    induction n with
    | zero => intro _ _ _ hf; cases hf
    | succ n ih =>
      intro v1 v2 tMo hf
      rw [f_Mo_tagName_81] at hf
      refine g_iload_n F d_Mo_tagName_81 2 rfl ?_
      refine g_if_eq F (tgt := 93) d_Mo_tagName_82 (by decide) (fun h => ?_) (fun h => ?_)
      · rw [if_pos h] at hf
        cases hf
        exact g_vret F hr hlk rfl rfl d_Mo_tagName_93
      · rw [if_neg h] at hf
        refine g_aload_n F d_Mo_tagName_85 0 rfl ?_
        obtain ⟨x1, hx1, hf⟩ := g_bind hf
        refine g_ci F (r0 := x1.1) (ws' := (Wm ad cA x1.2)) (fun H locs ls hP hD hS hl => g_runV F (As := []) (n := 0) mw_1356 rfl rfl ⟨by decide, by decide⟩ rfl (by exact Nat.le_of_ble_eq_true rfl) mw_1353 mw_1355 mw_59 mw_85 (by decide +kernel) d_Mo_tagName_86 hP hD hS hl (va_recv F.2.2.2.2.2.1 hP (ci := 9) rfl (q0 := 0) rfl) (c_Mo_behindName l D cA z ad tMo hx1 H.size)) ?_
        refine g_istore_n F (L' := [(2, .int x1.1), (0, .ref (ad 0)), (1, .int v1)]) d_Mo_tagName_89 rfl (by decide) rfl ?_
        refine g_goto F (tgt := 81) d_Mo_tagName_90 (by decide) ?_
        refine g_loc [1, 2, 0] rfl ?_
        exact ih v1 x1.1 x1.2 hf
  have blk9 : ∀ (n : Nat) (v1 : Int32) (tMo : SMo), f_Mo_tagName_9 n v1 tMo = some x → GW p l e { frames := 9, cells := 0, slots := 0, locals := 202 } s m args below meth c (gQv D (gT cA) (va_A (Wm ad cA sMo) sz) (Wm ad cA x)) D (va_A (Wm ad cA sMo) sz) 3 (Wm ad cA tMo) 9 [(0, .ref (ad 0)), (1, .int v1)] [] := by
    intro n
    induction n with
    | zero => intro _ _ hf; cases hf
    | succ n ih =>
      intro v1 tMo hf
      rw [f_Mo_tagName_9] at hf
      refine g_iload_n F d_Mo_tagName_9 1 rfl ?_
      refine g_iconst F (v := (-1)) d_Mo_tagName_10 (by decide) ?_
      refine g_icmp_eq F (tgt := 56) d_Mo_tagName_11 (by decide) (fun h => ?_) (fun h => ?_)
      · rw [if_pos h] at hf
        refine g_aload_n F d_Mo_tagName_56 0 rfl ?_
        refine g_get F (v := .ref (ad 8)) in_X13 0 rfl rfl 12 (by decide) mw_1118 rfl d_Mo_tagName_57 ?_
        refine g_aload_n F d_Mo_tagName_60 0 rfl ?_
        refine g_get F (v := .int (q_Mo_tokens tMo)) in_X13 0 rfl rfl 9 (by decide) mw_1115 rfl d_Mo_tagName_61 ?_
        refine g_aload_n F d_Mo_tagName_64 0 rfl ?_
        refine g_get F (v := .int (q_Mo_rowSize tMo)) in_X13 0 rfl rfl 22 (by decide) mw_1128 rfl d_Mo_tagName_65 ?_
        refine g_aload_n F d_Mo_tagName_68 0 rfl ?_
        refine g_get F (v := .ref (ad 7)) in_X13 0 rfl rfl 11 (by decide) mw_1117 rfl d_Mo_tagName_69 ?_
        refine g_aload_n F d_Mo_tagName_72 0 rfl ?_
        refine g_get F (v := .int (q_Mo_tokens tMo)) in_X13 0 rfl rfl 9 (by decide) mw_1115 rfl d_Mo_tagName_73 ?_
        obtain ⟨k1, hf⟩ := g_chk hf
        refine g_iald F (f := (q_Mo_firsts tMo)) 7 0 rfl rfl k1 d_Mo_tagName_76 ?_
        refine g_isub F d_Mo_tagName_77 ?_
        obtain ⟨k2, hf⟩ := g_chk hf
        refine g_iast F (f := (q_Mo_sizes tMo)) 8 0 rfl rfl k2 (ws' := (Wm ad cA (u_Mo_sizes tMo (upd (q_Mo_sizes tMo) ((q_Mo_tokens tMo) : Int32).toNatClampNeg ((q_Mo_rowSize tMo) - ((q_Mo_firsts tMo) ((q_Mo_tokens tMo) : Int32).toNatClampNeg)))))) rfl d_Mo_tagName_78 ?_
        refine g_iconst F (v := 1) d_Mo_tagName_79 (by decide) ?_
        refine g_istore_n F (L' := [(2, .int 1), (0, .ref (ad 0)), (1, .int v1)]) d_Mo_tagName_80 rfl (by decide) rfl ?_
        refine g_loc [1, 2, 0] rfl ?_
        exact blk81 FU v1 1 (u_Mo_sizes tMo (upd (q_Mo_sizes tMo) ((q_Mo_tokens tMo) : Int32).toNatClampNeg ((q_Mo_rowSize tMo) - ((q_Mo_firsts tMo) ((q_Mo_tokens tMo) : Int32).toNatClampNeg)))) hf
      · rw [if_neg h] at hf
        refine g_iload_n F d_Mo_tagName_14 1 rfl ?_
        refine g_ci F (r0 := (f_Mo_isBlank v1)) (ws' := (Wm ad cA tMo)) (fun H locs ls hP hD hS hl => g_runS F (As := [.int v1]) (n := 1) mw_1277 rfl rfl ⟨by decide, by decide⟩ rfl (by exact Nat.le_of_ble_eq_true rfl) mw_1275 mw_1276 mw_85 (by decide +kernel) d_Mo_tagName_15 hP hD hS hl (c_Mo_isBlank l D cA z ad tMo v1 rfl H.size)) ?_
        refine g_if_ne F (tgt := 56) d_Mo_tagName_18 (by decide) (fun h => ?_) (fun h => ?_)
        · rw [if_neg h] at hf
          refine g_aload_n F d_Mo_tagName_56 0 rfl ?_
          refine g_get F (v := .ref (ad 8)) in_X13 0 rfl rfl 12 (by decide) mw_1118 rfl d_Mo_tagName_57 ?_
          refine g_aload_n F d_Mo_tagName_60 0 rfl ?_
          refine g_get F (v := .int (q_Mo_tokens tMo)) in_X13 0 rfl rfl 9 (by decide) mw_1115 rfl d_Mo_tagName_61 ?_
          refine g_aload_n F d_Mo_tagName_64 0 rfl ?_
          refine g_get F (v := .int (q_Mo_rowSize tMo)) in_X13 0 rfl rfl 22 (by decide) mw_1128 rfl d_Mo_tagName_65 ?_
          refine g_aload_n F d_Mo_tagName_68 0 rfl ?_
          refine g_get F (v := .ref (ad 7)) in_X13 0 rfl rfl 11 (by decide) mw_1117 rfl d_Mo_tagName_69 ?_
          refine g_aload_n F d_Mo_tagName_72 0 rfl ?_
          refine g_get F (v := .int (q_Mo_tokens tMo)) in_X13 0 rfl rfl 9 (by decide) mw_1115 rfl d_Mo_tagName_73 ?_
          obtain ⟨k3, hf⟩ := g_chk hf
          refine g_iald F (f := (q_Mo_firsts tMo)) 7 0 rfl rfl k3 d_Mo_tagName_76 ?_
          refine g_isub F d_Mo_tagName_77 ?_
          obtain ⟨k4, hf⟩ := g_chk hf
          refine g_iast F (f := (q_Mo_sizes tMo)) 8 0 rfl rfl k4 (ws' := (Wm ad cA (u_Mo_sizes tMo (upd (q_Mo_sizes tMo) ((q_Mo_tokens tMo) : Int32).toNatClampNeg ((q_Mo_rowSize tMo) - ((q_Mo_firsts tMo) ((q_Mo_tokens tMo) : Int32).toNatClampNeg)))))) rfl d_Mo_tagName_78 ?_
          refine g_iconst F (v := 1) d_Mo_tagName_79 (by decide) ?_
          refine g_istore_n F (L' := [(2, .int 1), (0, .ref (ad 0)), (1, .int v1)]) d_Mo_tagName_80 rfl (by decide) rfl ?_
          refine g_loc [1, 2, 0] rfl ?_
          exact blk81 FU v1 1 (u_Mo_sizes tMo (upd (q_Mo_sizes tMo) ((q_Mo_tokens tMo) : Int32).toNatClampNeg ((q_Mo_rowSize tMo) - ((q_Mo_firsts tMo) ((q_Mo_tokens tMo) : Int32).toNatClampNeg)))) hf
        · rw [if_pos h] at hf
          refine g_iload_n F d_Mo_tagName_21 1 rfl ?_
          refine g_bipush F (v := 47) d_Mo_tagName_22 (by decide) ?_
          refine g_icmp_eq F (tgt := 56) d_Mo_tagName_24 (by decide) (fun h => ?_) (fun h => ?_)
          · rw [if_pos h] at hf
            refine g_aload_n F d_Mo_tagName_56 0 rfl ?_
            refine g_get F (v := .ref (ad 8)) in_X13 0 rfl rfl 12 (by decide) mw_1118 rfl d_Mo_tagName_57 ?_
            refine g_aload_n F d_Mo_tagName_60 0 rfl ?_
            refine g_get F (v := .int (q_Mo_tokens tMo)) in_X13 0 rfl rfl 9 (by decide) mw_1115 rfl d_Mo_tagName_61 ?_
            refine g_aload_n F d_Mo_tagName_64 0 rfl ?_
            refine g_get F (v := .int (q_Mo_rowSize tMo)) in_X13 0 rfl rfl 22 (by decide) mw_1128 rfl d_Mo_tagName_65 ?_
            refine g_aload_n F d_Mo_tagName_68 0 rfl ?_
            refine g_get F (v := .ref (ad 7)) in_X13 0 rfl rfl 11 (by decide) mw_1117 rfl d_Mo_tagName_69 ?_
            refine g_aload_n F d_Mo_tagName_72 0 rfl ?_
            refine g_get F (v := .int (q_Mo_tokens tMo)) in_X13 0 rfl rfl 9 (by decide) mw_1115 rfl d_Mo_tagName_73 ?_
            obtain ⟨k5, hf⟩ := g_chk hf
            refine g_iald F (f := (q_Mo_firsts tMo)) 7 0 rfl rfl k5 d_Mo_tagName_76 ?_
            refine g_isub F d_Mo_tagName_77 ?_
            obtain ⟨k6, hf⟩ := g_chk hf
            refine g_iast F (f := (q_Mo_sizes tMo)) 8 0 rfl rfl k6 (ws' := (Wm ad cA (u_Mo_sizes tMo (upd (q_Mo_sizes tMo) ((q_Mo_tokens tMo) : Int32).toNatClampNeg ((q_Mo_rowSize tMo) - ((q_Mo_firsts tMo) ((q_Mo_tokens tMo) : Int32).toNatClampNeg)))))) rfl d_Mo_tagName_78 ?_
            refine g_iconst F (v := 1) d_Mo_tagName_79 (by decide) ?_
            refine g_istore_n F (L' := [(2, .int 1), (0, .ref (ad 0)), (1, .int v1)]) d_Mo_tagName_80 rfl (by decide) rfl ?_
            refine g_loc [1, 2, 0] rfl ?_
            exact blk81 FU v1 1 (u_Mo_sizes tMo (upd (q_Mo_sizes tMo) ((q_Mo_tokens tMo) : Int32).toNatClampNeg ((q_Mo_rowSize tMo) - ((q_Mo_firsts tMo) ((q_Mo_tokens tMo) : Int32).toNatClampNeg)))) hf
          · rw [if_neg h] at hf
            refine g_iload_n F d_Mo_tagName_27 1 rfl ?_
            refine g_bipush F (v := 62) d_Mo_tagName_28 (by decide) ?_
            refine g_icmp_eq F (tgt := 56) d_Mo_tagName_30 (by decide) (fun h => ?_) (fun h => ?_)
            · rw [if_pos h] at hf
              refine g_aload_n F d_Mo_tagName_56 0 rfl ?_
              refine g_get F (v := .ref (ad 8)) in_X13 0 rfl rfl 12 (by decide) mw_1118 rfl d_Mo_tagName_57 ?_
              refine g_aload_n F d_Mo_tagName_60 0 rfl ?_
              refine g_get F (v := .int (q_Mo_tokens tMo)) in_X13 0 rfl rfl 9 (by decide) mw_1115 rfl d_Mo_tagName_61 ?_
              refine g_aload_n F d_Mo_tagName_64 0 rfl ?_
              refine g_get F (v := .int (q_Mo_rowSize tMo)) in_X13 0 rfl rfl 22 (by decide) mw_1128 rfl d_Mo_tagName_65 ?_
              refine g_aload_n F d_Mo_tagName_68 0 rfl ?_
              refine g_get F (v := .ref (ad 7)) in_X13 0 rfl rfl 11 (by decide) mw_1117 rfl d_Mo_tagName_69 ?_
              refine g_aload_n F d_Mo_tagName_72 0 rfl ?_
              refine g_get F (v := .int (q_Mo_tokens tMo)) in_X13 0 rfl rfl 9 (by decide) mw_1115 rfl d_Mo_tagName_73 ?_
              obtain ⟨k7, hf⟩ := g_chk hf
              refine g_iald F (f := (q_Mo_firsts tMo)) 7 0 rfl rfl k7 d_Mo_tagName_76 ?_
              refine g_isub F d_Mo_tagName_77 ?_
              obtain ⟨k8, hf⟩ := g_chk hf
              refine g_iast F (f := (q_Mo_sizes tMo)) 8 0 rfl rfl k8 (ws' := (Wm ad cA (u_Mo_sizes tMo (upd (q_Mo_sizes tMo) ((q_Mo_tokens tMo) : Int32).toNatClampNeg ((q_Mo_rowSize tMo) - ((q_Mo_firsts tMo) ((q_Mo_tokens tMo) : Int32).toNatClampNeg)))))) rfl d_Mo_tagName_78 ?_
              refine g_iconst F (v := 1) d_Mo_tagName_79 (by decide) ?_
              refine g_istore_n F (L' := [(2, .int 1), (0, .ref (ad 0)), (1, .int v1)]) d_Mo_tagName_80 rfl (by decide) rfl ?_
              refine g_loc [1, 2, 0] rfl ?_
              exact blk81 FU v1 1 (u_Mo_sizes tMo (upd (q_Mo_sizes tMo) ((q_Mo_tokens tMo) : Int32).toNatClampNeg ((q_Mo_rowSize tMo) - ((q_Mo_firsts tMo) ((q_Mo_tokens tMo) : Int32).toNatClampNeg)))) hf
            · rw [if_neg h] at hf
              refine g_aload_n F d_Mo_tagName_33 0 rfl ?_
              refine g_aload_n F d_Mo_tagName_34 0 rfl ?_
              obtain ⟨x2, hx2, hf⟩ := g_bind hf
              refine g_ci F (r0 := x2.1) (ws' := (Wm ad cA x2.2)) (fun H locs ls hP hD hS hl => g_runV F (As := []) (n := 0) mw_1340 rfl rfl ⟨by decide, by decide⟩ rfl (by exact Nat.le_of_ble_eq_true rfl) mw_1337 mw_1339 mw_55 mw_85 (by decide +kernel) d_Mo_tagName_35 hP hD hS hl (va_recv F.2.2.2.2.2.1 hP (ci := 9) rfl (q0 := 0) rfl) (c_Mo_known l D cA z ad tMo hx2 H.size)) ?_
              refine g_ci F (r0 := (f_Mo_lowered x2.1)) (ws' := (Wm ad cA x2.2)) (fun H locs ls hP hD hS hl => g_runS F (As := [.int x2.1]) (n := 1) mw_1327 rfl rfl ⟨by decide, by decide⟩ rfl (by exact Nat.le_of_ble_eq_true rfl) mw_1325 mw_1326 mw_85 (by decide +kernel) d_Mo_tagName_38 hP hD hS hl (c_Mo_lowered l D cA z ad x2.2 x2.1 rfl H.size)) ?_
              obtain ⟨x3, hx3, hf⟩ := g_bind hf
              refine g_cv F (ws' := (Wm ad cA x3)) (fun H locs ls hP hD hS hl => g_runV F (As := [.int (f_Mo_lowered x2.1)]) (n := 1) mw_1259 rfl rfl ⟨by decide, by decide⟩ rfl (by exact Nat.le_of_ble_eq_true rfl) mw_1256 mw_1258 mw_40 mw_85 (by decide +kernel) d_Mo_tagName_41 hP hD hS hl (va_recv F.2.2.2.2.2.1 hP (ci := 9) rfl (q0 := 0) rfl) (c_Mo_keep l D cA z ad x2.2 (f_Mo_lowered x2.1) hx3 H.size)) ?_
              refine g_aload_n F d_Mo_tagName_44 0 rfl ?_
              refine g_aload_n F d_Mo_tagName_45 0 rfl ?_
              refine g_get F (v := .int (q_Mo_p x3)) in_X13 0 rfl rfl 7 (by decide) mw_1113 rfl d_Mo_tagName_46 ?_
              obtain ⟨x4, hx4, hf⟩ := g_bind hf
              refine g_ci F (r0 := x4) (ws' := (Wm ad cA x3)) (fun H locs ls hP hD hS hl => g_runV F (As := [.int (q_Mo_p x3)]) (n := 1) mw_1228 rfl rfl ⟨by decide, by decide⟩ rfl (by exact Nat.le_of_ble_eq_true rfl) mw_1225 mw_1227 mw_34 mw_85 (by decide +kernel) d_Mo_tagName_49 hP hD hS hl (va_recv F.2.2.2.2.2.1 hP (ci := 9) rfl (q0 := 0) rfl) (c_Mo_charAt l D cA z ad x3 (q_Mo_p x3) hx4 H.size)) ?_
              refine g_istore_n F (L' := [(1, .int x4), (0, .ref (ad 0))]) d_Mo_tagName_52 rfl (by decide) rfl ?_
              refine g_goto F (tgt := 9) d_Mo_tagName_53 (by decide) ?_
              refine g_loc [1, 0] rfl ?_
              exact ih x4 x3 hf
  unfold f_Mo_tagName at hf
  refine g_aload_n F d_Mo_tagName_0 0 rfl ?_
  refine g_aload_n F d_Mo_tagName_1 0 rfl ?_
  refine g_get F (v := .int (q_Mo_p sMo)) in_X13 0 rfl rfl 7 (by decide) mw_1113 rfl d_Mo_tagName_2 ?_
  obtain ⟨x5, hx5, hf⟩ := g_bind hf
  refine g_ci F (r0 := x5) (ws' := (Wm ad cA sMo)) (fun H locs ls hP hD hS hl => g_runV F (As := [.int (q_Mo_p sMo)]) (n := 1) mw_1228 rfl rfl ⟨by decide, by decide⟩ rfl (by exact Nat.le_of_ble_eq_true rfl) mw_1225 mw_1227 mw_34 mw_85 (by decide +kernel) d_Mo_tagName_5 hP hD hS hl (va_recv F.2.2.2.2.2.1 hP (ci := 9) rfl (q0 := 0) rfl) (c_Mo_charAt l D cA z ad sMo (q_Mo_p sMo) hx5 H.size)) ?_
  refine g_istore_n F (L' := [(1, .int x5), (0, .ref (ad 0))]) d_Mo_tagName_8 rfl (by decide) rfl ?_
  refine g_loc [1, 0] rfl ?_
  exact blk9 FU x5 sMo hf
set_option maxHeartbeats 4000000 in
set_option maxRecDepth 100000 in
theorem c_Mo_stop (l : Launch) (D : va_G) (cA : Nat → ClassId) (z : gZ) (ad : Nat → Nat) (sMo : SMo) {x : SMo} (hf : f_Mo_stop sMo = some x) (sz : Nat) : Met l y_Mo_stop (.code y_Mo_stop b_Mo_stop 2 none :: lw_g) { frames := 10, cells := 0, slots := 0, locals := 224 } (gP D (gT cA) z [.ref (ad 0)] (Wm ad cA sMo) sz) (gQv D (gT cA) (va_A (Wm ad cA sMo) sz) (Wm ad cA x)) 0 0 (va_A (Wm ad cA sMo) sz) := by
  refine g_met (by decide) (Nat.le_of_ble_eq_true rfl) rfl ?_
  intro p e s m args below meth c F hr hlk
  unfold f_Mo_stop at hf
  refine g_aload_n F d_Mo_stop_0 0 rfl ?_
  refine g_aload_n F d_Mo_stop_1 0 rfl ?_
  refine g_get F (v := .int (q_Mo_p sMo)) in_X13 0 rfl rfl 7 (by decide) mw_1113 rfl d_Mo_stop_2 ?_
  obtain ⟨x1, hx1, hf⟩ := g_bind hf
  refine g_ci F (r0 := x1) (ws' := (Wm ad cA sMo)) (fun H locs ls hP hD hS hl => g_runV F (As := [.int (q_Mo_p sMo)]) (n := 1) mw_1228 rfl rfl ⟨by decide, by decide⟩ rfl (by exact Nat.le_of_ble_eq_true rfl) mw_1225 mw_1227 mw_34 mw_85 (by decide +kernel) d_Mo_stop_5 hP hD hS hl (va_recv F.2.2.2.2.2.1 hP (ci := 9) rfl (q0 := 0) rfl) (c_Mo_charAt l D cA z ad sMo (q_Mo_p sMo) hx1 H.size)) ?_
  refine g_istore_n F (L' := [(1, .int x1), (0, .ref (ad 0))]) d_Mo_stop_8 rfl (by decide) rfl ?_
  refine g_iload_n F d_Mo_stop_9 0 rfl ?_
  refine g_ci F (r0 := (f_Mo_isLetter x1)) (ws' := (Wm ad cA sMo)) (fun H locs ls hP hD hS hl => g_runS F (As := [.int x1]) (n := 1) mw_1280 rfl rfl ⟨by decide, by decide⟩ rfl (by exact Nat.le_of_ble_eq_true rfl) mw_1278 mw_1279 mw_85 (by decide +kernel) d_Mo_stop_10 hP hD hS hl (c_Mo_isLetter l D cA z ad sMo x1 rfl H.size)) ?_
  refine g_if_eq F (tgt := 28) d_Mo_stop_13 (by decide) (fun h => ?_) (fun h => ?_)
  · rw [if_pos h] at hf
    refine g_iload_n F d_Mo_stop_28 0 rfl ?_
    refine g_bipush F (v := 62) d_Mo_stop_29 (by decide) ?_
    refine g_icmp_ne F (tgt := 56) d_Mo_stop_31 (by decide) (fun h => ?_) (fun h => ?_)
    · rw [if_neg h] at hf
      refine g_iload_n F d_Mo_stop_56 0 rfl ?_
      refine g_iconst F (v := (-1)) d_Mo_stop_57 (by decide) ?_
      refine g_icmp_ne F (tgt := 90) d_Mo_stop_58 (by decide) (fun h => ?_) (fun h => ?_)
      · rw [if_neg h] at hf
        refine g_aload_n F d_Mo_stop_90 1 rfl ?_
        refine g_iconst F (v := 4) d_Mo_stop_91 (by decide) ?_
        refine g_aload_n F d_Mo_stop_92 1 rfl ?_
        refine g_get F (v := .int (q_Mo_p sMo)) in_X13 0 rfl rfl 7 (by decide) mw_1113 rfl d_Mo_stop_93 ?_
        obtain ⟨x2, hx2, hf⟩ := g_bind hf
        refine g_cv F (ws' := (Wm ad cA x2)) (fun H locs ls hP hD hS hl => g_runV F (As := [.int 4, .int (q_Mo_p sMo)]) (n := 2) mw_1247 rfl rfl ⟨by decide, by decide⟩ rfl (by exact Nat.le_of_ble_eq_true rfl) mw_1244 mw_1246 mw_37 mw_85 (by decide +kernel) d_Mo_stop_96 hP hD hS hl (va_recv F.2.2.2.2.2.1 hP (ci := 9) rfl (q0 := 0) rfl) (c_Mo_wrong l D cA z ad sMo 4 (q_Mo_p sMo) hx2 H.size)) ?_
        refine g_aload_n F d_Mo_stop_99 1 rfl ?_
        refine g_iconst F (v := 3) d_Mo_stop_100 (by decide) ?_
        obtain ⟨x3, hx3, hf⟩ := g_bind hf
        refine g_cv F (ws' := (Wm ad cA x3)) (fun H locs ls hP hD hS hl => g_runV F (As := [.int 3]) (n := 1) mw_1304 rfl rfl ⟨by decide, by decide⟩ rfl (by exact Nat.le_of_ble_eq_true rfl) mw_1301 mw_1303 mw_47 mw_85 (by decide +kernel) d_Mo_stop_101 hP hD hS hl (va_recv F.2.2.2.2.2.1 hP (ci := 9) rfl (q0 := 0) rfl) (c_Mo_begin l D cA z ad x2 3 hx3 H.size)) ?_
        refine g_aload_n F d_Mo_stop_104 1 rfl ?_
        obtain ⟨x4, hx4, hf⟩ := g_bind hf
        refine g_cv F (ws' := (Wm ad cA x4)) (fun H locs ls hP hD hS hl => g_runV F (As := []) (n := 0) mw_1344 rfl rfl ⟨by decide, by decide⟩ rfl (by exact Nat.le_of_ble_eq_true rfl) mw_1341 mw_1343 mw_56 mw_85 (by decide +kernel) d_Mo_stop_105 hP hD hS hl (va_recv F.2.2.2.2.2.1 hP (ci := 9) rfl (q0 := 0) rfl) (c_Mo_bogus l D cA z ad x3 hx4 H.size)) ?_
        cases hf
        exact g_vret F hr hlk rfl rfl d_Mo_stop_108
      · rw [if_pos h] at hf
        refine g_aload_n F d_Mo_stop_61 1 rfl ?_
        refine g_iconst F (v := 3) d_Mo_stop_62 (by decide) ?_
        refine g_aload_n F d_Mo_stop_63 1 rfl ?_
        refine g_get F (v := .int (q_Mo_p sMo)) in_X13 0 rfl rfl 7 (by decide) mw_1113 rfl d_Mo_stop_64 ?_
        obtain ⟨x5, hx5, hf⟩ := g_bind hf
        refine g_cv F (ws' := (Wm ad cA x5)) (fun H locs ls hP hD hS hl => g_runV F (As := [.int 3, .int (q_Mo_p sMo)]) (n := 2) mw_1247 rfl rfl ⟨by decide, by decide⟩ rfl (by exact Nat.le_of_ble_eq_true rfl) mw_1244 mw_1246 mw_37 mw_85 (by decide +kernel) d_Mo_stop_67 hP hD hS hl (va_recv F.2.2.2.2.2.1 hP (ci := 9) rfl (q0 := 0) rfl) (c_Mo_wrong l D cA z ad sMo 3 (q_Mo_p sMo) hx5 H.size)) ?_
        refine g_aload_n F d_Mo_stop_70 1 rfl ?_
        refine g_bipush F (v := 60) d_Mo_stop_71 (by decide) ?_
        obtain ⟨x6, hx6, hf⟩ := g_bind hf
        refine g_cv F (ws' := (Wm ad cA x6)) (fun H locs ls hP hD hS hl => g_runV F (As := [.int 60]) (n := 1) mw_1263 rfl rfl ⟨by decide, by decide⟩ rfl (by exact Nat.le_of_ble_eq_true rfl) mw_1260 mw_1262 mw_41 mw_85 (by decide +kernel) d_Mo_stop_73 hP hD hS hl (va_recv F.2.2.2.2.2.1 hP (ci := 9) rfl (q0 := 0) rfl) (c_Mo_toText l D cA z ad x5 60 hx6 H.size)) ?_
        refine g_aload_n F d_Mo_stop_76 1 rfl ?_
        refine g_bipush F (v := 47) d_Mo_stop_77 (by decide) ?_
        obtain ⟨x7, hx7, hf⟩ := g_bind hf
        refine g_cv F (ws' := (Wm ad cA x7)) (fun H locs ls hP hD hS hl => g_runV F (As := [.int 47]) (n := 1) mw_1263 rfl rfl ⟨by decide, by decide⟩ rfl (by exact Nat.le_of_ble_eq_true rfl) mw_1260 mw_1262 mw_41 mw_85 (by decide +kernel) d_Mo_stop_79 hP hD hS hl (va_recv F.2.2.2.2.2.1 hP (ci := 9) rfl (q0 := 0) rfl) (c_Mo_toText l D cA z ad x6 47 hx7 H.size)) ?_
        refine g_aload_n F d_Mo_stop_82 1 rfl ?_
        refine g_iconst F (v := 1) d_Mo_stop_83 (by decide) ?_
        refine g_put F in_X13 0 rfl rfl 8 (by decide) tyX13 tyX13_ok nmX13 mw_1114 rfl rfl rfl (Nat.le_of_ble_eq_true rfl) (ws' := (Wm ad cA (u_Mo_ended x7 1))) rfl d_Mo_stop_84 ?_
        refine g_goto F (tgt := 108) d_Mo_stop_87 (by decide) ?_
        cases hf
        exact g_vret F hr hlk rfl rfl d_Mo_stop_108
    · rw [if_pos h] at hf
      refine g_aload_n F d_Mo_stop_34 1 rfl ?_
      refine g_iconst F (v := 5) d_Mo_stop_35 (by decide) ?_
      refine g_aload_n F d_Mo_stop_36 1 rfl ?_
      refine g_get F (v := .int (q_Mo_p sMo)) in_X13 0 rfl rfl 7 (by decide) mw_1113 rfl d_Mo_stop_37 ?_
      obtain ⟨x8, hx8, hf⟩ := g_bind hf
      refine g_cv F (ws' := (Wm ad cA x8)) (fun H locs ls hP hD hS hl => g_runV F (As := [.int 5, .int (q_Mo_p sMo)]) (n := 2) mw_1247 rfl rfl ⟨by decide, by decide⟩ rfl (by exact Nat.le_of_ble_eq_true rfl) mw_1244 mw_1246 mw_37 mw_85 (by decide +kernel) d_Mo_stop_40 hP hD hS hl (va_recv F.2.2.2.2.2.1 hP (ci := 9) rfl (q0 := 0) rfl) (c_Mo_wrong l D cA z ad sMo 5 (q_Mo_p sMo) hx8 H.size)) ?_
      refine g_aload_n F d_Mo_stop_43 1 rfl ?_
      refine g_dup F d_Mo_stop_44 rfl ?_
      refine g_get F (v := .int (q_Mo_p x8)) in_X13 0 rfl rfl 7 (by decide) mw_1113 rfl d_Mo_stop_45 ?_
      refine g_iconst F (v := 1) d_Mo_stop_48 (by decide) ?_
      refine g_iadd F d_Mo_stop_49 ?_
      refine g_put F in_X13 0 rfl rfl 7 (by decide) tyX13 tyX13_ok nmX13 mw_1113 rfl rfl rfl (Nat.le_of_ble_eq_true rfl) (ws' := (Wm ad cA (u_Mo_p x8 ((q_Mo_p x8) + 1)))) rfl d_Mo_stop_50 ?_
      refine g_goto F (tgt := 108) d_Mo_stop_53 (by decide) ?_
      cases hf
      exact g_vret F hr hlk rfl rfl d_Mo_stop_108
  · rw [if_neg h] at hf
    refine g_aload_n F d_Mo_stop_16 1 rfl ?_
    refine g_iconst F (v := 2) d_Mo_stop_17 (by decide) ?_
    obtain ⟨x9, hx9, hf⟩ := g_bind hf
    refine g_cv F (ws' := (Wm ad cA x9)) (fun H locs ls hP hD hS hl => g_runV F (As := [.int 2]) (n := 1) mw_1304 rfl rfl ⟨by decide, by decide⟩ rfl (by exact Nat.le_of_ble_eq_true rfl) mw_1301 mw_1303 mw_47 mw_85 (by decide +kernel) d_Mo_stop_18 hP hD hS hl (va_recv F.2.2.2.2.2.1 hP (ci := 9) rfl (q0 := 0) rfl) (c_Mo_begin l D cA z ad sMo 2 hx9 H.size)) ?_
    refine g_aload_n F d_Mo_stop_21 1 rfl ?_
    obtain ⟨x10, hx10, hf⟩ := g_bind hf
    refine g_cv F (ws' := (Wm ad cA x10)) (fun H locs ls hP hD hS hl => g_runV F (As := []) (n := 0) mw_1352 rfl rfl ⟨by decide, by decide⟩ rfl (by exact Nat.le_of_ble_eq_true rfl) mw_1349 mw_1351 mw_58 mw_85 (by decide +kernel) d_Mo_stop_22 hP hD hS hl (va_recv F.2.2.2.2.2.1 hP (ci := 9) rfl (q0 := 0) rfl) (c_Mo_tagName l D cA z ad x9 hx10 H.size)) ?_
    refine g_goto F (tgt := 108) d_Mo_stop_25 (by decide) ?_
    cases hf
    exact g_vret F hr hlk rfl rfl d_Mo_stop_108
