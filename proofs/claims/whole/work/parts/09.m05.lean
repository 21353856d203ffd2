set_option maxHeartbeats 4000000 in
set_option maxRecDepth 100000 in
theorem c_Mo_finish (l : Launch) (D : va_G) (cA : Nat → ClassId) (z : gZ) (ad : Nat → Nat) (sMo : SMo) {x : SMo} (hf : f_Mo_finish sMo = some x) (sz : Nat) : Met l y_Mo_finish (.code y_Mo_finish b_Mo_finish 4 none :: lw_g) { frames := 1, cells := 0, slots := 0, locals := 22 } (gP D (gT cA) z [.ref (ad 0)] (Wm ad cA sMo) sz) (gQv D (gT cA) (va_A (Wm ad cA sMo) sz) (Wm ad cA x)) 0 0 (va_A (Wm ad cA sMo) sz) := by
  refine g_met (by decide) (Nat.le_of_ble_eq_true rfl) rfl ?_
  intro p e s m args below meth c F hr hlk
  have blk14 : ∀ (n : Nat) (v1 : Int32) (v2 : Int32) (v3 : Int32) (tMo : SMo), f_Mo_finish_14 n v1 v2 v3 tMo = some x → GW p l e { frames := 1, cells := 0, slots := 0, locals := 22 } s m args below meth c (gQv D (gT cA) (va_A (Wm ad cA sMo) sz) (Wm ad cA x)) D (va_A (Wm ad cA sMo) sz) 4 (Wm ad cA tMo) 14 [(0, .ref (ad 0)), (1, .int v1), (2, .int v2), (3, .int v3)] [] := by
    intro n
    induction n with
    | zero => intro _ _ _ _ hf; cases hf
    | succ n ih =>
      intro v1 v2 v3 tMo hf
      rw [f_Mo_finish_14] at hf
      refine g_iload_n F d_Mo_finish_14 3 rfl ?_
      refine g_aload_n F d_Mo_finish_15 0 rfl ?_
      refine g_get F (v := .int (q_Mo_attributeCount tMo)) in_X13 0 rfl rfl 16 (by decide) mw_1122 rfl d_Mo_finish_16 ?_
      refine g_icmp_ge F (tgt := 88) d_Mo_finish_19 (by decide) (fun h => ?_) (fun h => ?_)
      · rw [if_pos h] at hf
        refine g_aload_n F d_Mo_finish_88 0 rfl ?_
        refine g_iload_n F d_Mo_finish_89 2 rfl ?_
        refine g_put F in_X13 0 rfl rfl 16 (by decide) tyX13 tyX13_ok nmX13 mw_1122 rfl rfl rfl (Nat.le_of_ble_eq_true rfl) (ws' := (Wm ad cA (u_Mo_attributeCount tMo v2))) rfl d_Mo_finish_90 ?_
        refine g_aload_n F d_Mo_finish_93 0 rfl ?_
        refine g_get F (v := .ref (ad 11)) in_X13 0 rfl rfl 15 (by decide) mw_1121 rfl d_Mo_finish_94 ?_
        refine g_aload_n F d_Mo_finish_97 0 rfl ?_
        refine g_get F (v := .int (q_Mo_tokens tMo)) in_X13 0 rfl rfl 9 (by decide) mw_1115 rfl d_Mo_finish_98 ?_
        refine g_iload_n F d_Mo_finish_101 2 rfl ?_
        refine g_iload_n F d_Mo_finish_102 1 rfl ?_
        refine g_isub F d_Mo_finish_103 ?_
        obtain ⟨k1, hf⟩ := g_chk hf
        refine g_iast F (f := (q_Mo_manyOf tMo)) 11 0 rfl rfl k1 (ws' := (Wm ad cA (u_Mo_attributeCount (u_Mo_manyOf tMo (upd (q_Mo_manyOf tMo) ((q_Mo_tokens tMo) : Int32).toNatClampNeg (v2 - v1))) v2))) rfl d_Mo_finish_104 ?_
        refine g_aload_n F d_Mo_finish_105 0 rfl ?_
        refine g_get F (v := .ref (ad 6)) in_X13 0 rfl rfl 10 (by decide) mw_1116 rfl d_Mo_finish_106 ?_
        refine g_aload_n F d_Mo_finish_109 0 rfl ?_
        refine g_get F (v := .int (q_Mo_tokens tMo)) in_X13 0 rfl rfl 9 (by decide) mw_1115 rfl d_Mo_finish_110 ?_
        obtain ⟨k2, hf⟩ := g_chk hf
        refine g_iald F (f := (q_Mo_kinds tMo)) 6 0 rfl rfl k2 d_Mo_finish_113 ?_
        refine g_iconst F (v := 2) d_Mo_finish_114 (by decide) ?_
        refine g_icmp_ne F (tgt := 180) d_Mo_finish_115 (by decide) (fun h => ?_) (fun h => ?_)
        · rw [if_neg h] at hf
          refine g_aload_n F d_Mo_finish_180 0 rfl ?_
          refine g_dup F d_Mo_finish_181 rfl ?_
          refine g_get F (v := .int (q_Mo_tokens tMo)) in_X13 0 rfl rfl 9 (by decide) mw_1115 rfl d_Mo_finish_182 ?_
          refine g_iconst F (v := 1) d_Mo_finish_185 (by decide) ?_
          refine g_iadd F d_Mo_finish_186 ?_
          refine g_put F in_X13 0 rfl rfl 9 (by decide) tyX13 tyX13_ok nmX13 mw_1115 rfl rfl rfl (Nat.le_of_ble_eq_true rfl) (ws' := (Wm ad cA (u_Mo_attributeCount (u_Mo_manyOf (u_Mo_tokens tMo ((q_Mo_tokens tMo) + 1)) (upd (q_Mo_manyOf tMo) ((q_Mo_tokens tMo) : Int32).toNatClampNeg (v2 - v1))) v2))) rfl d_Mo_finish_187 ?_
          refine g_aload_n F d_Mo_finish_190 0 rfl ?_
          refine g_dup F d_Mo_finish_191 rfl ?_
          refine g_get F (v := .int (q_Mo_p tMo)) in_X13 0 rfl rfl 7 (by decide) mw_1113 rfl d_Mo_finish_192 ?_
          refine g_iconst F (v := 1) d_Mo_finish_195 (by decide) ?_
          refine g_iadd F d_Mo_finish_196 ?_
          refine g_put F in_X13 0 rfl rfl 7 (by decide) tyX13 tyX13_ok nmX13 mw_1113 rfl rfl rfl (Nat.le_of_ble_eq_true rfl) (ws' := (Wm ad cA (u_Mo_attributeCount (u_Mo_manyOf (u_Mo_tokens (u_Mo_p tMo ((q_Mo_p tMo) + 1)) ((q_Mo_tokens tMo) + 1)) (upd (q_Mo_manyOf tMo) ((q_Mo_tokens tMo) : Int32).toNatClampNeg (v2 - v1))) v2))) rfl d_Mo_finish_197 ?_
          cases hf
          exact g_vret F hr hlk rfl rfl d_Mo_finish_200
        · rw [if_pos h] at hf
          refine g_iload_n F d_Mo_finish_118 2 rfl ?_
          refine g_iload_n F d_Mo_finish_119 1 rfl ?_
          refine g_icmp_le F (tgt := 133) d_Mo_finish_120 (by decide) (fun h => ?_) (fun h => ?_)
          · rw [if_pos h] at hf
            refine g_aload_n F d_Mo_finish_133 0 rfl ?_
            refine g_get F (v := .ref (ad 9)) in_X13 0 rfl rfl 13 (by decide) mw_1119 rfl d_Mo_finish_134 ?_
            refine g_aload_n F d_Mo_finish_137 0 rfl ?_
            refine g_get F (v := .int (q_Mo_tokens tMo)) in_X13 0 rfl rfl 9 (by decide) mw_1115 rfl d_Mo_finish_138 ?_
            obtain ⟨k3, hf⟩ := g_chk hf
            refine g_zald F (f := (q_Mo_marks tMo)) 9 3 rfl rfl k3 d_Mo_finish_141 ?_
            refine g_if_eq F (tgt := 155) d_Mo_finish_142 (by decide) (fun h => ?_) (fun h => ?_)
            · rw [if_pos h] at hf
              refine g_aload_n F d_Mo_finish_155 0 rfl ?_
              refine g_iload_n F d_Mo_finish_156 1 rfl ?_
              refine g_put F in_X13 0 rfl rfl 16 (by decide) tyX13 tyX13_ok nmX13 mw_1122 rfl rfl rfl (Nat.le_of_ble_eq_true rfl) (ws' := (Wm ad cA (u_Mo_attributeCount (u_Mo_manyOf tMo (upd (q_Mo_manyOf tMo) ((q_Mo_tokens tMo) : Int32).toNatClampNeg (v2 - v1))) v1))) rfl d_Mo_finish_157 ?_
              refine g_aload_n F d_Mo_finish_160 0 rfl ?_
              refine g_get F (v := .ref (ad 11)) in_X13 0 rfl rfl 15 (by decide) mw_1121 rfl d_Mo_finish_161 ?_
              refine g_aload_n F d_Mo_finish_164 0 rfl ?_
              refine g_get F (v := .int (q_Mo_tokens tMo)) in_X13 0 rfl rfl 9 (by decide) mw_1115 rfl d_Mo_finish_165 ?_
              refine g_iconst F (v := 0) d_Mo_finish_168 (by decide) ?_
              obtain ⟨k4, hf⟩ := g_chk hf
              refine g_iast F (f := (upd (q_Mo_manyOf tMo) ((q_Mo_tokens tMo) : Int32).toNatClampNeg (v2 - v1))) 11 0 rfl rfl k4 (ws' := (Wm ad cA (u_Mo_attributeCount (u_Mo_manyOf tMo (upd (upd (q_Mo_manyOf tMo) ((q_Mo_tokens tMo) : Int32).toNatClampNeg (v2 - v1)) ((q_Mo_tokens tMo) : Int32).toNatClampNeg 0)) v1))) rfl d_Mo_finish_169 ?_
              refine g_aload_n F d_Mo_finish_170 0 rfl ?_
              refine g_get F (v := .ref (ad 9)) in_X13 0 rfl rfl 13 (by decide) mw_1119 rfl d_Mo_finish_171 ?_
              refine g_aload_n F d_Mo_finish_174 0 rfl ?_
              refine g_get F (v := .int (q_Mo_tokens tMo)) in_X13 0 rfl rfl 9 (by decide) mw_1115 rfl d_Mo_finish_175 ?_
              refine g_iconst F (v := 0) d_Mo_finish_178 (by decide) ?_
              obtain ⟨k5, hf⟩ := g_chk hf
              refine g_zast F (f := (q_Mo_marks tMo)) 9 3 rfl rfl k5 (ws' := (Wm ad cA (u_Mo_attributeCount (u_Mo_manyOf (u_Mo_marks tMo (upd (q_Mo_marks tMo) ((q_Mo_tokens tMo) : Int32).toNatClampNeg (vp_nar .boolean 0))) (upd (upd (q_Mo_manyOf tMo) ((q_Mo_tokens tMo) : Int32).toNatClampNeg (v2 - v1)) ((q_Mo_tokens tMo) : Int32).toNatClampNeg 0)) v1))) rfl d_Mo_finish_179 ?_
              refine g_aload_n F d_Mo_finish_180 0 rfl ?_
              refine g_dup F d_Mo_finish_181 rfl ?_
              refine g_get F (v := .int (q_Mo_tokens tMo)) in_X13 0 rfl rfl 9 (by decide) mw_1115 rfl d_Mo_finish_182 ?_
              refine g_iconst F (v := 1) d_Mo_finish_185 (by decide) ?_
              refine g_iadd F d_Mo_finish_186 ?_
              refine g_put F in_X13 0 rfl rfl 9 (by decide) tyX13 tyX13_ok nmX13 mw_1115 rfl rfl rfl (Nat.le_of_ble_eq_true rfl) (ws' := (Wm ad cA (u_Mo_attributeCount (u_Mo_manyOf (u_Mo_marks (u_Mo_tokens tMo ((q_Mo_tokens tMo) + 1)) (upd (q_Mo_marks tMo) ((q_Mo_tokens tMo) : Int32).toNatClampNeg (vp_nar .boolean 0))) (upd (upd (q_Mo_manyOf tMo) ((q_Mo_tokens tMo) : Int32).toNatClampNeg (v2 - v1)) ((q_Mo_tokens tMo) : Int32).toNatClampNeg 0)) v1))) rfl d_Mo_finish_187 ?_
              refine g_aload_n F d_Mo_finish_190 0 rfl ?_
              refine g_dup F d_Mo_finish_191 rfl ?_
              refine g_get F (v := .int (q_Mo_p tMo)) in_X13 0 rfl rfl 7 (by decide) mw_1113 rfl d_Mo_finish_192 ?_
              refine g_iconst F (v := 1) d_Mo_finish_195 (by decide) ?_
              refine g_iadd F d_Mo_finish_196 ?_
              refine g_put F in_X13 0 rfl rfl 7 (by decide) tyX13 tyX13_ok nmX13 mw_1113 rfl rfl rfl (Nat.le_of_ble_eq_true rfl) (ws' := (Wm ad cA (u_Mo_attributeCount (u_Mo_manyOf (u_Mo_marks (u_Mo_tokens (u_Mo_p tMo ((q_Mo_p tMo) + 1)) ((q_Mo_tokens tMo) + 1)) (upd (q_Mo_marks tMo) ((q_Mo_tokens tMo) : Int32).toNatClampNeg (vp_nar .boolean 0))) (upd (upd (q_Mo_manyOf tMo) ((q_Mo_tokens tMo) : Int32).toNatClampNeg (v2 - v1)) ((q_Mo_tokens tMo) : Int32).toNatClampNeg 0)) v1))) rfl d_Mo_finish_197 ?_
              cases hf
              exact g_vret F hr hlk rfl rfl d_Mo_finish_200
            · rw [if_neg h] at hf
              refine g_aload_n F d_Mo_finish_145 0 rfl ?_
              refine g_bipush F (v := 15) d_Mo_finish_146 (by decide) ?_
              refine g_aload_n F d_Mo_finish_148 0 rfl ?_
              refine g_get F (v := .int (q_Mo_p tMo)) in_X13 0 rfl rfl 7 (by decide) mw_1113 rfl d_Mo_finish_149 ?_
              obtain ⟨x1, hx1, hf⟩ := g_bind hf
              refine g_cv F (ws' := (Wm ad cA x1)) (fun H locs ls hP hD hS hl => g_runV F (As := [.int 15, .int (q_Mo_p tMo)]) (n := 2) mw_1247 rfl rfl ⟨by decide, by decide⟩ rfl (by exact Nat.le_of_ble_eq_true rfl) mw_1244 mw_1246 mw_37 mw_85 (by decide +kernel) d_Mo_finish_152 hP hD hS hl (va_recv F.2.2.2.2.2.1 hP (ci := 9) rfl (q0 := 0) rfl) (c_Mo_wrong l D cA z ad (u_Mo_attributeCount (u_Mo_manyOf tMo (upd (q_Mo_manyOf tMo) ((q_Mo_tokens tMo) : Int32).toNatClampNeg (v2 - v1))) v2) 15 (q_Mo_p tMo) hx1 H.size)) ?_
              refine g_aload_n F d_Mo_finish_155 0 rfl ?_
              refine g_iload_n F d_Mo_finish_156 1 rfl ?_
              refine g_put F in_X13 0 rfl rfl 16 (by decide) tyX13 tyX13_ok nmX13 mw_1122 rfl rfl rfl (Nat.le_of_ble_eq_true rfl) (ws' := (Wm ad cA (u_Mo_attributeCount x1 v1))) rfl d_Mo_finish_157 ?_
              refine g_aload_n F d_Mo_finish_160 0 rfl ?_
              refine g_get F (v := .ref (ad 11)) in_X13 0 rfl rfl 15 (by decide) mw_1121 rfl d_Mo_finish_161 ?_
              refine g_aload_n F d_Mo_finish_164 0 rfl ?_
              refine g_get F (v := .int (q_Mo_tokens x1)) in_X13 0 rfl rfl 9 (by decide) mw_1115 rfl d_Mo_finish_165 ?_
              refine g_iconst F (v := 0) d_Mo_finish_168 (by decide) ?_
              obtain ⟨k6, hf⟩ := g_chk hf
              refine g_iast F (f := (q_Mo_manyOf x1)) 11 0 rfl rfl k6 (ws' := (Wm ad cA (u_Mo_attributeCount (u_Mo_manyOf x1 (upd (q_Mo_manyOf x1) ((q_Mo_tokens x1) : Int32).toNatClampNeg 0)) v1))) rfl d_Mo_finish_169 ?_
              refine g_aload_n F d_Mo_finish_170 0 rfl ?_
              refine g_get F (v := .ref (ad 9)) in_X13 0 rfl rfl 13 (by decide) mw_1119 rfl d_Mo_finish_171 ?_
              refine g_aload_n F d_Mo_finish_174 0 rfl ?_
              refine g_get F (v := .int (q_Mo_tokens x1)) in_X13 0 rfl rfl 9 (by decide) mw_1115 rfl d_Mo_finish_175 ?_
              refine g_iconst F (v := 0) d_Mo_finish_178 (by decide) ?_
              obtain ⟨k7, hf⟩ := g_chk hf
              refine g_zast F (f := (q_Mo_marks x1)) 9 3 rfl rfl k7 (ws' := (Wm ad cA (u_Mo_attributeCount (u_Mo_manyOf (u_Mo_marks x1 (upd (q_Mo_marks x1) ((q_Mo_tokens x1) : Int32).toNatClampNeg (vp_nar .boolean 0))) (upd (q_Mo_manyOf x1) ((q_Mo_tokens x1) : Int32).toNatClampNeg 0)) v1))) rfl d_Mo_finish_179 ?_
              refine g_aload_n F d_Mo_finish_180 0 rfl ?_
              refine g_dup F d_Mo_finish_181 rfl ?_
              refine g_get F (v := .int (q_Mo_tokens x1)) in_X13 0 rfl rfl 9 (by decide) mw_1115 rfl d_Mo_finish_182 ?_
              refine g_iconst F (v := 1) d_Mo_finish_185 (by decide) ?_
              refine g_iadd F d_Mo_finish_186 ?_
              refine g_put F in_X13 0 rfl rfl 9 (by decide) tyX13 tyX13_ok nmX13 mw_1115 rfl rfl rfl (Nat.le_of_ble_eq_true rfl) (ws' := (Wm ad cA (u_Mo_attributeCount (u_Mo_manyOf (u_Mo_marks (u_Mo_tokens x1 ((q_Mo_tokens x1) + 1)) (upd (q_Mo_marks x1) ((q_Mo_tokens x1) : Int32).toNatClampNeg (vp_nar .boolean 0))) (upd (q_Mo_manyOf x1) ((q_Mo_tokens x1) : Int32).toNatClampNeg 0)) v1))) rfl d_Mo_finish_187 ?_
              refine g_aload_n F d_Mo_finish_190 0 rfl ?_
              refine g_dup F d_Mo_finish_191 rfl ?_
              refine g_get F (v := .int (q_Mo_p x1)) in_X13 0 rfl rfl 7 (by decide) mw_1113 rfl d_Mo_finish_192 ?_
              refine g_iconst F (v := 1) d_Mo_finish_195 (by decide) ?_
              refine g_iadd F d_Mo_finish_196 ?_
              refine g_put F in_X13 0 rfl rfl 7 (by decide) tyX13 tyX13_ok nmX13 mw_1113 rfl rfl rfl (Nat.le_of_ble_eq_true rfl) (ws' := (Wm ad cA (u_Mo_attributeCount (u_Mo_manyOf (u_Mo_marks (u_Mo_tokens (u_Mo_p x1 ((q_Mo_p x1) + 1)) ((q_Mo_tokens x1) + 1)) (upd (q_Mo_marks x1) ((q_Mo_tokens x1) : Int32).toNatClampNeg (vp_nar .boolean 0))) (upd (q_Mo_manyOf x1) ((q_Mo_tokens x1) : Int32).toNatClampNeg 0)) v1))) rfl d_Mo_finish_197 ?_
              cases hf
              exact g_vret F hr hlk rfl rfl d_Mo_finish_200
          · rw [if_neg h] at hf
            refine g_aload_n F d_Mo_finish_123 0 rfl ?_
            refine g_bipush F (v := 14) d_Mo_finish_124 (by decide) ?_
            refine g_aload_n F d_Mo_finish_126 0 rfl ?_
            refine g_get F (v := .int (q_Mo_p tMo)) in_X13 0 rfl rfl 7 (by decide) mw_1113 rfl d_Mo_finish_127 ?_
            obtain ⟨x2, hx2, hf⟩ := g_bind hf
            refine g_cv F (ws' := (Wm ad cA x2)) (fun H locs ls hP hD hS hl => g_runV F (As := [.int 14, .int (q_Mo_p tMo)]) (n := 2) mw_1247 rfl rfl ⟨by decide, by decide⟩ rfl (by exact Nat.le_of_ble_eq_true rfl) mw_1244 mw_1246 mw_37 mw_85 (by decide +kernel) d_Mo_finish_130 hP hD hS hl (va_recv F.2.2.2.2.2.1 hP (ci := 9) rfl (q0 := 0) rfl) (c_Mo_wrong l D cA z ad (u_Mo_attributeCount (u_Mo_manyOf tMo (upd (q_Mo_manyOf tMo) ((q_Mo_tokens tMo) : Int32).toNatClampNeg (v2 - v1))) v2) 14 (q_Mo_p tMo) hx2 H.size)) ?_
            refine g_aload_n F d_Mo_finish_133 0 rfl ?_
            refine g_get F (v := .ref (ad 9)) in_X13 0 rfl rfl 13 (by decide) mw_1119 rfl d_Mo_finish_134 ?_
            refine g_aload_n F d_Mo_finish_137 0 rfl ?_
            refine g_get F (v := .int (q_Mo_tokens x2)) in_X13 0 rfl rfl 9 (by decide) mw_1115 rfl d_Mo_finish_138 ?_
            obtain ⟨k8, hf⟩ := g_chk hf
            refine g_zald F (f := (q_Mo_marks x2)) 9 3 rfl rfl k8 d_Mo_finish_141 ?_
            refine g_if_eq F (tgt := 155) d_Mo_finish_142 (by decide) (fun h => ?_) (fun h => ?_)
            · rw [if_pos h] at hf
              refine g_aload_n F d_Mo_finish_155 0 rfl ?_
              refine g_iload_n F d_Mo_finish_156 1 rfl ?_
              refine g_put F in_X13 0 rfl rfl 16 (by decide) tyX13 tyX13_ok nmX13 mw_1122 rfl rfl rfl (Nat.le_of_ble_eq_true rfl) (ws' := (Wm ad cA (u_Mo_attributeCount x2 v1))) rfl d_Mo_finish_157 ?_
              refine g_aload_n F d_Mo_finish_160 0 rfl ?_
              refine g_get F (v := .ref (ad 11)) in_X13 0 rfl rfl 15 (by decide) mw_1121 rfl d_Mo_finish_161 ?_
              refine g_aload_n F d_Mo_finish_164 0 rfl ?_
              refine g_get F (v := .int (q_Mo_tokens x2)) in_X13 0 rfl rfl 9 (by decide) mw_1115 rfl d_Mo_finish_165 ?_
              refine g_iconst F (v := 0) d_Mo_finish_168 (by decide) ?_
              obtain ⟨k9, hf⟩ := g_chk hf
              refine g_iast F (f := (q_Mo_manyOf x2)) 11 0 rfl rfl k9 (ws' := (Wm ad cA (u_Mo_attributeCount (u_Mo_manyOf x2 (upd (q_Mo_manyOf x2) ((q_Mo_tokens x2) : Int32).toNatClampNeg 0)) v1))) rfl d_Mo_finish_169 ?_
              refine g_aload_n F d_Mo_finish_170 0 rfl ?_
              refine g_get F (v := .ref (ad 9)) in_X13 0 rfl rfl 13 (by decide) mw_1119 rfl d_Mo_finish_171 ?_
              refine g_aload_n F d_Mo_finish_174 0 rfl ?_
              refine g_get F (v := .int (q_Mo_tokens x2)) in_X13 0 rfl rfl 9 (by decide) mw_1115 rfl d_Mo_finish_175 ?_
              refine g_iconst F (v := 0) d_Mo_finish_178 (by decide) ?_
              obtain ⟨k10, hf⟩ := g_chk hf
              refine g_zast F (f := (q_Mo_marks x2)) 9 3 rfl rfl k10 (ws' := (Wm ad cA (u_Mo_attributeCount (u_Mo_manyOf (u_Mo_marks x2 (upd (q_Mo_marks x2) ((q_Mo_tokens x2) : Int32).toNatClampNeg (vp_nar .boolean 0))) (upd (q_Mo_manyOf x2) ((q_Mo_tokens x2) : Int32).toNatClampNeg 0)) v1))) rfl d_Mo_finish_179 ?_
              refine g_aload_n F d_Mo_finish_180 0 rfl ?_
              refine g_dup F d_Mo_finish_181 rfl ?_
              refine g_get F (v := .int (q_Mo_tokens x2)) in_X13 0 rfl rfl 9 (by decide) mw_1115 rfl d_Mo_finish_182 ?_
              refine g_iconst F (v := 1) d_Mo_finish_185 (by decide) ?_
              refine g_iadd F d_Mo_finish_186 ?_
              refine g_put F in_X13 0 rfl rfl 9 (by decide) tyX13 tyX13_ok nmX13 mw_1115 rfl rfl rfl (Nat.le_of_ble_eq_true rfl) (ws' := (Wm ad cA (u_Mo_attributeCount (u_Mo_manyOf (u_Mo_marks (u_Mo_tokens x2 ((q_Mo_tokens x2) + 1)) (upd (q_Mo_marks x2) ((q_Mo_tokens x2) : Int32).toNatClampNeg (vp_nar .boolean 0))) (upd (q_Mo_manyOf x2) ((q_Mo_tokens x2) : Int32).toNatClampNeg 0)) v1))) rfl d_Mo_finish_187 ?_
              refine g_aload_n F d_Mo_finish_190 0 rfl ?_
              refine g_dup F d_Mo_finish_191 rfl ?_
              refine g_get F (v := .int (q_Mo_p x2)) in_X13 0 rfl rfl 7 (by decide) mw_1113 rfl d_Mo_finish_192 ?_
              refine g_iconst F (v := 1) d_Mo_finish_195 (by decide) ?_
              refine g_iadd F d_Mo_finish_196 ?_
              refine g_put F in_X13 0 rfl rfl 7 (by decide) tyX13 tyX13_ok nmX13 mw_1113 rfl rfl rfl (Nat.le_of_ble_eq_true rfl) (ws' := (Wm ad cA (u_Mo_attributeCount (u_Mo_manyOf (u_Mo_marks (u_Mo_tokens (u_Mo_p x2 ((q_Mo_p x2) + 1)) ((q_Mo_tokens x2) + 1)) (upd (q_Mo_marks x2) ((q_Mo_tokens x2) : Int32).toNatClampNeg (vp_nar .boolean 0))) (upd (q_Mo_manyOf x2) ((q_Mo_tokens x2) : Int32).toNatClampNeg 0)) v1))) rfl d_Mo_finish_197 ?_
              cases hf
              exact g_vret F hr hlk rfl rfl d_Mo_finish_200
            · rw [if_neg h] at hf
              refine g_aload_n F d_Mo_finish_145 0 rfl ?_
              refine g_bipush F (v := 15) d_Mo_finish_146 (by decide) ?_
              refine g_aload_n F d_Mo_finish_148 0 rfl ?_
              refine g_get F (v := .int (q_Mo_p x2)) in_X13 0 rfl rfl 7 (by decide) mw_1113 rfl d_Mo_finish_149 ?_
              obtain ⟨x3, hx3, hf⟩ := g_bind hf
              refine g_cv F (ws' := (Wm ad cA x3)) (fun H locs ls hP hD hS hl => g_runV F (As := [.int 15, .int (q_Mo_p x2)]) (n := 2) mw_1247 rfl rfl ⟨by decide, by decide⟩ rfl (by exact Nat.le_of_ble_eq_true rfl) mw_1244 mw_1246 mw_37 mw_85 (by decide +kernel) d_Mo_finish_152 hP hD hS hl (va_recv F.2.2.2.2.2.1 hP (ci := 9) rfl (q0 := 0) rfl) (c_Mo_wrong l D cA z ad x2 15 (q_Mo_p x2) hx3 H.size)) ?_
              refine g_aload_n F d_Mo_finish_155 0 rfl ?_
              refine g_iload_n F d_Mo_finish_156 1 rfl ?_
              refine g_put F in_X13 0 rfl rfl 16 (by decide) tyX13 tyX13_ok nmX13 mw_1122 rfl rfl rfl (Nat.le_of_ble_eq_true rfl) (ws' := (Wm ad cA (u_Mo_attributeCount x3 v1))) rfl d_Mo_finish_157 ?_
              refine g_aload_n F d_Mo_finish_160 0 rfl ?_
              refine g_get F (v := .ref (ad 11)) in_X13 0 rfl rfl 15 (by decide) mw_1121 rfl d_Mo_finish_161 ?_
              refine g_aload_n F d_Mo_finish_164 0 rfl ?_
              refine g_get F (v := .int (q_Mo_tokens x3)) in_X13 0 rfl rfl 9 (by decide) mw_1115 rfl d_Mo_finish_165 ?_
              refine g_iconst F (v := 0) d_Mo_finish_168 (by decide) ?_
              obtain ⟨k11, hf⟩ := g_chk hf
              refine g_iast F (f := (q_Mo_manyOf x3)) 11 0 rfl rfl k11 (ws' := (Wm ad cA (u_Mo_attributeCount (u_Mo_manyOf x3 (upd (q_Mo_manyOf x3) ((q_Mo_tokens x3) : Int32).toNatClampNeg 0)) v1))) rfl d_Mo_finish_169 ?_
              refine g_aload_n F d_Mo_finish_170 0 rfl ?_
              refine g_get F (v := .ref (ad 9)) in_X13 0 rfl rfl 13 (by decide) mw_1119 rfl d_Mo_finish_171 ?_
              refine g_aload_n F d_Mo_finish_174 0 rfl ?_
              refine g_get F (v := .int (q_Mo_tokens x3)) in_X13 0 rfl rfl 9 (by decide) mw_1115 rfl d_Mo_finish_175 ?_
              refine g_iconst F (v := 0) d_Mo_finish_178 (by decide) ?_
              obtain ⟨k12, hf⟩ := g_chk hf
              refine g_zast F (f := (q_Mo_marks x3)) 9 3 rfl rfl k12 (ws' := (Wm ad cA (u_Mo_attributeCount (u_Mo_manyOf (u_Mo_marks x3 (upd (q_Mo_marks x3) ((q_Mo_tokens x3) : Int32).toNatClampNeg (vp_nar .boolean 0))) (upd (q_Mo_manyOf x3) ((q_Mo_tokens x3) : Int32).toNatClampNeg 0)) v1))) rfl d_Mo_finish_179 ?_
              refine g_aload_n F d_Mo_finish_180 0 rfl ?_
              refine g_dup F d_Mo_finish_181 rfl ?_
              refine g_get F (v := .int (q_Mo_tokens x3)) in_X13 0 rfl rfl 9 (by decide) mw_1115 rfl d_Mo_finish_182 ?_
              refine g_iconst F (v := 1) d_Mo_finish_185 (by decide) ?_
              refine g_iadd F d_Mo_finish_186 ?_
              refine g_put F in_X13 0 rfl rfl 9 (by decide) tyX13 tyX13_ok nmX13 mw_1115 rfl rfl rfl (Nat.le_of_ble_eq_true rfl) (ws' := (Wm ad cA (u_Mo_attributeCount (u_Mo_manyOf (u_Mo_marks (u_Mo_tokens x3 ((q_Mo_tokens x3) + 1)) (upd (q_Mo_marks x3) ((q_Mo_tokens x3) : Int32).toNatClampNeg (vp_nar .boolean 0))) (upd (q_Mo_manyOf x3) ((q_Mo_tokens x3) : Int32).toNatClampNeg 0)) v1))) rfl d_Mo_finish_187 ?_
              refine g_aload_n F d_Mo_finish_190 0 rfl ?_
              refine g_dup F d_Mo_finish_191 rfl ?_
              refine g_get F (v := .int (q_Mo_p x3)) in_X13 0 rfl rfl 7 (by decide) mw_1113 rfl d_Mo_finish_192 ?_
              refine g_iconst F (v := 1) d_Mo_finish_195 (by decide) ?_
              refine g_iadd F d_Mo_finish_196 ?_
              refine g_put F in_X13 0 rfl rfl 7 (by decide) tyX13 tyX13_ok nmX13 mw_1113 rfl rfl rfl (Nat.le_of_ble_eq_true rfl) (ws' := (Wm ad cA (u_Mo_attributeCount (u_Mo_manyOf (u_Mo_marks (u_Mo_tokens (u_Mo_p x3 ((q_Mo_p x3) + 1)) ((q_Mo_tokens x3) + 1)) (upd (q_Mo_marks x3) ((q_Mo_tokens x3) : Int32).toNatClampNeg (vp_nar .boolean 0))) (upd (q_Mo_manyOf x3) ((q_Mo_tokens x3) : Int32).toNatClampNeg 0)) v1))) rfl d_Mo_finish_197 ?_
              cases hf
              exact g_vret F hr hlk rfl rfl d_Mo_finish_200
      · rw [if_neg h] at hf
        refine g_aload_n F d_Mo_finish_22 0 rfl ?_
        refine g_get F (v := .ref (ad 16)) in_X13 0 rfl rfl 21 (by decide) mw_1127 rfl d_Mo_finish_23 ?_
        refine g_iload_n F d_Mo_finish_26 3 rfl ?_
        obtain ⟨k13, hf⟩ := g_chk hf
        refine g_zald F (f := (q_Mo_goes tMo)) 16 3 rfl rfl k13 d_Mo_finish_27 ?_
        refine g_if_ne F (tgt := 82) d_Mo_finish_28 (by decide) (fun h => ?_) (fun h => ?_)
        · rw [if_neg h] at hf
          refine g_iinc F (j := 3) (v := (v3 + 1)) (L' := [(3, .int (v3 + 1)), (0, .ref (ad 0)), (1, .int v1), (2, .int v2)]) d_Mo_finish_82 rfl rfl (by decide) rfl ?_
          refine g_goto F (tgt := 14) d_Mo_finish_85 (by decide) ?_
          refine g_loc [1, 2, 3, 0] rfl ?_
          exact ih v1 v2 (v3 + 1) tMo hf
        · rw [if_pos h] at hf
          refine g_aload_n F d_Mo_finish_31 0 rfl ?_
          refine g_get F (v := .ref (ad 12)) in_X13 0 rfl rfl 17 (by decide) mw_1123 rfl d_Mo_finish_32 ?_
          refine g_iload_n F d_Mo_finish_35 2 rfl ?_
          refine g_aload_n F d_Mo_finish_36 0 rfl ?_
          refine g_get F (v := .ref (ad 12)) in_X13 0 rfl rfl 17 (by decide) mw_1123 rfl d_Mo_finish_37 ?_
          refine g_iload_n F d_Mo_finish_40 3 rfl ?_
          obtain ⟨k14, hf⟩ := g_chk hf
          refine g_iald F (f := (q_Mo_nameAt tMo)) 12 0 rfl rfl k14 d_Mo_finish_41 ?_
          obtain ⟨k15, hf⟩ := g_chk hf
          refine g_iast F (f := (q_Mo_nameAt tMo)) 12 0 rfl rfl k15 (ws' := (Wm ad cA (u_Mo_nameAt tMo (upd (q_Mo_nameAt tMo) (v2 : Int32).toNatClampNeg ((q_Mo_nameAt tMo) (v3 : Int32).toNatClampNeg))))) rfl d_Mo_finish_42 ?_
          refine g_aload_n F d_Mo_finish_43 0 rfl ?_
          refine g_get F (v := .ref (ad 13)) in_X13 0 rfl rfl 18 (by decide) mw_1124 rfl d_Mo_finish_44 ?_
          refine g_iload_n F d_Mo_finish_47 2 rfl ?_
          refine g_aload_n F d_Mo_finish_48 0 rfl ?_
          refine g_get F (v := .ref (ad 13)) in_X13 0 rfl rfl 18 (by decide) mw_1124 rfl d_Mo_finish_49 ?_
          refine g_iload_n F d_Mo_finish_52 3 rfl ?_
          obtain ⟨k16, hf⟩ := g_chk hf
          refine g_iald F (f := (q_Mo_nameSize tMo)) 13 0 rfl rfl k16 d_Mo_finish_53 ?_
          obtain ⟨k17, hf⟩ := g_chk hf
          refine g_iast F (f := (q_Mo_nameSize tMo)) 13 0 rfl rfl k17 (ws' := (Wm ad cA (u_Mo_nameSize (u_Mo_nameAt tMo (upd (q_Mo_nameAt tMo) (v2 : Int32).toNatClampNeg ((q_Mo_nameAt tMo) (v3 : Int32).toNatClampNeg))) (upd (q_Mo_nameSize tMo) (v2 : Int32).toNatClampNeg ((q_Mo_nameSize tMo) (v3 : Int32).toNatClampNeg))))) rfl d_Mo_finish_54 ?_
          refine g_aload_n F d_Mo_finish_55 0 rfl ?_
          refine g_get F (v := .ref (ad 14)) in_X13 0 rfl rfl 19 (by decide) mw_1125 rfl d_Mo_finish_56 ?_
          refine g_iload_n F d_Mo_finish_59 2 rfl ?_
          refine g_aload_n F d_Mo_finish_60 0 rfl ?_
          refine g_get F (v := .ref (ad 14)) in_X13 0 rfl rfl 19 (by decide) mw_1125 rfl d_Mo_finish_61 ?_
          refine g_iload_n F d_Mo_finish_64 3 rfl ?_
          obtain ⟨k18, hf⟩ := g_chk hf
          refine g_iald F (f := (q_Mo_valueAt tMo)) 14 0 rfl rfl k18 d_Mo_finish_65 ?_
          obtain ⟨k19, hf⟩ := g_chk hf
          refine g_iast F (f := (q_Mo_valueAt tMo)) 14 0 rfl rfl k19 (ws' := (Wm ad cA (u_Mo_valueAt (u_Mo_nameSize (u_Mo_nameAt tMo (upd (q_Mo_nameAt tMo) (v2 : Int32).toNatClampNeg ((q_Mo_nameAt tMo) (v3 : Int32).toNatClampNeg))) (upd (q_Mo_nameSize tMo) (v2 : Int32).toNatClampNeg ((q_Mo_nameSize tMo) (v3 : Int32).toNatClampNeg))) (upd (q_Mo_valueAt tMo) (v2 : Int32).toNatClampNeg ((q_Mo_valueAt tMo) (v3 : Int32).toNatClampNeg))))) rfl d_Mo_finish_66 ?_
          refine g_aload_n F d_Mo_finish_67 0 rfl ?_
          refine g_get F (v := .ref (ad 15)) in_X13 0 rfl rfl 20 (by decide) mw_1126 rfl d_Mo_finish_68 ?_
          refine g_iload_n F d_Mo_finish_71 2 rfl ?_
          refine g_aload_n F d_Mo_finish_72 0 rfl ?_
          refine g_get F (v := .ref (ad 15)) in_X13 0 rfl rfl 20 (by decide) mw_1126 rfl d_Mo_finish_73 ?_
          refine g_iload_n F d_Mo_finish_76 3 rfl ?_
          obtain ⟨k20, hf⟩ := g_chk hf
          refine g_iald F (f := (q_Mo_valueSize tMo)) 15 0 rfl rfl k20 d_Mo_finish_77 ?_
          obtain ⟨k21, hf⟩ := g_chk hf
          refine g_iast F (f := (q_Mo_valueSize tMo)) 15 0 rfl rfl k21 (ws' := (Wm ad cA (u_Mo_valueSize (u_Mo_valueAt (u_Mo_nameSize (u_Mo_nameAt tMo (upd (q_Mo_nameAt tMo) (v2 : Int32).toNatClampNeg ((q_Mo_nameAt tMo) (v3 : Int32).toNatClampNeg))) (upd (q_Mo_nameSize tMo) (v2 : Int32).toNatClampNeg ((q_Mo_nameSize tMo) (v3 : Int32).toNatClampNeg))) (upd (q_Mo_valueAt tMo) (v2 : Int32).toNatClampNeg ((q_Mo_valueAt tMo) (v3 : Int32).toNatClampNeg))) (upd (q_Mo_valueSize tMo) (v2 : Int32).toNatClampNeg ((q_Mo_valueSize tMo) (v3 : Int32).toNatClampNeg))))) rfl d_Mo_finish_78 ?_
          refine g_iinc F (j := 2) (v := (v2 + 1)) (L' := [(2, .int (v2 + 1)), (0, .ref (ad 0)), (1, .int v1), (3, .int v3)]) d_Mo_finish_79 rfl rfl (by decide) rfl ?_
          refine g_iinc F (j := 3) (v := (v3 + 1)) (L' := [(3, .int (v3 + 1)), (2, .int (v2 + 1)), (0, .ref (ad 0)), (1, .int v1)]) d_Mo_finish_82 rfl rfl (by decide) rfl ?_
          refine g_goto F (tgt := 14) d_Mo_finish_85 (by decide) ?_
          refine g_loc [2, 3, 1, 0] rfl ?_
          exact ih v1 (v2 + 1) (v3 + 1) (u_Mo_valueSize (u_Mo_valueAt (u_Mo_nameSize (u_Mo_nameAt tMo (upd (q_Mo_nameAt tMo) (v2 : Int32).toNatClampNeg ((q_Mo_nameAt tMo) (v3 : Int32).toNatClampNeg))) (upd (q_Mo_nameSize tMo) (v2 : Int32).toNatClampNeg ((q_Mo_nameSize tMo) (v3 : Int32).toNatClampNeg))) (upd (q_Mo_valueAt tMo) (v2 : Int32).toNatClampNeg ((q_Mo_valueAt tMo) (v3 : Int32).toNatClampNeg))) (upd (q_Mo_valueSize tMo) (v2 : Int32).toNatClampNeg ((q_Mo_valueSize tMo) (v3 : Int32).toNatClampNeg))) hf
  unfold f_Mo_finish at hf
  refine g_aload_n F d_Mo_finish_0 0 rfl ?_
  refine g_get F (v := .ref (ad 10)) in_X13 0 rfl rfl 14 (by decide) mw_1120 rfl d_Mo_finish_1 ?_
  refine g_aload_n F d_Mo_finish_4 0 rfl ?_
  refine g_get F (v := .int (q_Mo_tokens sMo)) in_X13 0 rfl rfl 9 (by decide) mw_1115 rfl d_Mo_finish_5 ?_
  obtain ⟨k22, hf⟩ := g_chk hf
  refine g_iald F (f := (q_Mo_attributes sMo)) 10 0 rfl rfl k22 d_Mo_finish_8 ?_
  refine g_istore_n F (L' := [(1, .int ((q_Mo_attributes sMo) ((q_Mo_tokens sMo) : Int32).toNatClampNeg)), (0, .ref (ad 0))]) d_Mo_finish_9 rfl (by decide) rfl ?_
  refine g_iload_n F d_Mo_finish_10 0 rfl ?_
  refine g_istore_n F (L' := [(2, .int ((q_Mo_attributes sMo) ((q_Mo_tokens sMo) : Int32).toNatClampNeg)), (1, .int ((q_Mo_attributes sMo) ((q_Mo_tokens sMo) : Int32).toNatClampNeg)), (0, .ref (ad 0))]) d_Mo_finish_11 rfl (by decide) rfl ?_
  refine g_iload_n F d_Mo_finish_12 1 rfl ?_
  refine g_istore_n F (L' := [(3, .int ((q_Mo_attributes sMo) ((q_Mo_tokens sMo) : Int32).toNatClampNeg)), (2, .int ((q_Mo_attributes sMo) ((q_Mo_tokens sMo) : Int32).toNatClampNeg)), (1, .int ((q_Mo_attributes sMo) ((q_Mo_tokens sMo) : Int32).toNatClampNeg)), (0, .ref (ad 0))]) d_Mo_finish_13 rfl (by decide) rfl ?_
  refine g_loc [3, 2, 1, 0] rfl ?_
  exact blk14 FU ((q_Mo_attributes sMo) ((q_Mo_tokens sMo) : Int32).toNatClampNeg) ((q_Mo_attributes sMo) ((q_Mo_tokens sMo) : Int32).toNatClampNeg) ((q_Mo_attributes sMo) ((q_Mo_tokens sMo) : Int32).toNatClampNeg) sMo hf
set_option maxHeartbeats 4000000 in
set_option maxRecDepth 100000 in
theorem c_Mo_isThere (l : Launch) (D : va_G) (cA : Nat → ClassId) (z : gZ) (ad : Nat → Nat) (sMo : SMo) (a1 : Int32) {x : Int32} (hf : f_Mo_isThere a1 sMo = some x) (sz : Nat) : Met l y_Mo_isThere (.code y_Mo_isThere b_Mo_isThere 6 (some .boolean) :: lw_g) { frames := 0, cells := 0, slots := 0, locals := 0 } (gP D (gT cA) z [.ref (ad 0), .int a1] (Wm ad cA sMo) sz) (gQi D (gT cA) (va_A (Wm ad cA sMo) sz) x (Wm ad cA sMo)) 0 0 (va_A (Wm ad cA sMo) sz) := by
  refine g_met (by decide) (Nat.le_of_ble_eq_true rfl) rfl ?_
  intro p e s m args below meth c F hr hlk
  have blk42 : ∀ (k12 : Int32 → Int32 → Int32 → SMo → Option (Int32)), (∀ (v1 : Int32) (v2 : Int32) (v3 : Int32), k12 v1 v2 v3 sMo = some x → GW p l e { frames := 0, cells := 0, slots := 0, locals := 0 } s m args below meth c (gQi D (gT cA) (va_A (Wm ad cA sMo) sz) x (Wm ad cA sMo)) D (va_A (Wm ad cA sMo) sz) 6 (Wm ad cA sMo) 12 [(0, .ref (ad 0)), (1, .int v1), (2, .int v2), (3, .int v3)] []) → ∀ (n : Nat) (v1 : Int32) (v2 : Int32) (v3 : Int32) (v4 : Int32) (v5 : Int32), f_Mo_isThere_42 k12 n v1 v2 v3 v4 v5 sMo = some x → GW p l e { frames := 0, cells := 0, slots := 0, locals := 0 } s m args below meth c (gQi D (gT cA) (va_A (Wm ad cA sMo) sz) x (Wm ad cA sMo)) D (va_A (Wm ad cA sMo) sz) 6 (Wm ad cA sMo) 42 [(0, .ref (ad 0)), (1, .int v1), (2, .int v2), (3, .int v3), (4, .int v4), (5, .int v5)] [] := by
    intro k12 hk12
    intro n
    induction n with
    | zero => intro _ _ _ _ _ hf; cases hf
    | succ n ih =>
      intro v1 v2 v3 v4 v5 hf
      rw [f_Mo_isThere_42] at hf
      refine g_iload F d_Mo_isThere_42 5 rfl ?_
      refine g_aload_n F d_Mo_isThere_44 0 rfl ?_
      refine g_get F (v := .ref (ad 13)) in_X13 0 rfl rfl 18 (by decide) mw_1124 rfl d_Mo_isThere_45 ?_
      refine g_iload_n F d_Mo_isThere_48 1 rfl ?_
      obtain ⟨k1, hf⟩ := g_chk hf
      refine g_iald F (f := (q_Mo_nameSize sMo)) 13 0 rfl rfl k1 d_Mo_isThere_49 ?_
      refine g_icmp_ge F (tgt := 102) d_Mo_isThere_50 (by decide) (fun h => ?_) (fun h => ?_)
      · rw [if_pos h] at hf
        refine g_iload_n F d_Mo_isThere_102 2 rfl ?_
        refine g_if_ne F (tgt := 111) d_Mo_isThere_103 (by decide) (fun h => ?_) (fun h => ?_)
        · rw [if_neg h] at hf
          refine g_iconst F (v := 1) d_Mo_isThere_111 (by decide) ?_
          refine g_goto F (tgt := 116) d_Mo_isThere_112 (by decide) ?_
          refine g_istore_n F (L' := [(2, .int 1), (0, .ref (ad 0)), (1, .int v1), (3, .int v3), (4, .int v4), (5, .int v5)]) d_Mo_isThere_116 rfl (by decide) rfl ?_
          refine g_iinc F (j := 3) (v := (v3 + 1)) (L' := [(3, .int (v3 + 1)), (2, .int 1), (0, .ref (ad 0)), (1, .int v1), (4, .int v4), (5, .int v5)]) d_Mo_isThere_117 rfl rfl (by decide) rfl ?_
          refine g_goto F (tgt := 12) d_Mo_isThere_120 (by decide) ?_
          refine g_loc [2, 3, 1, 0] rfl ?_
          exact hk12 v1 1 (v3 + 1) hf
        · rw [if_pos h] at hf
          refine g_iload F d_Mo_isThere_106 4 rfl ?_
          refine g_if_eq F (tgt := 115) d_Mo_isThere_108 (by decide) (fun h => ?_) (fun h => ?_)
          · rw [if_pos h] at hf
            refine g_iconst F (v := 0) d_Mo_isThere_115 (by decide) ?_
            refine g_istore_n F (L' := [(2, .int 0), (0, .ref (ad 0)), (1, .int v1), (3, .int v3), (4, .int v4), (5, .int v5)]) d_Mo_isThere_116 rfl (by decide) rfl ?_
            refine g_iinc F (j := 3) (v := (v3 + 1)) (L' := [(3, .int (v3 + 1)), (2, .int 0), (0, .ref (ad 0)), (1, .int v1), (4, .int v4), (5, .int v5)]) d_Mo_isThere_117 rfl rfl (by decide) rfl ?_
            refine g_goto F (tgt := 12) d_Mo_isThere_120 (by decide) ?_
            refine g_loc [2, 3, 1, 0] rfl ?_
            exact hk12 v1 0 (v3 + 1) hf
          · rw [if_neg h] at hf
            refine g_iconst F (v := 1) d_Mo_isThere_111 (by decide) ?_
            refine g_goto F (tgt := 116) d_Mo_isThere_112 (by decide) ?_
            refine g_istore_n F (L' := [(2, .int 1), (0, .ref (ad 0)), (1, .int v1), (3, .int v3), (4, .int v4), (5, .int v5)]) d_Mo_isThere_116 rfl (by decide) rfl ?_
            refine g_iinc F (j := 3) (v := (v3 + 1)) (L' := [(3, .int (v3 + 1)), (2, .int 1), (0, .ref (ad 0)), (1, .int v1), (4, .int v4), (5, .int v5)]) d_Mo_isThere_117 rfl rfl (by decide) rfl ?_
            refine g_goto F (tgt := 12) d_Mo_isThere_120 (by decide) ?_
            refine g_loc [2, 3, 1, 0] rfl ?_
            exact hk12 v1 1 (v3 + 1) hf
      · rw [if_neg h] at hf
        refine g_iload F d_Mo_isThere_53 4 rfl ?_
        refine g_if_eq F (tgt := 102) d_Mo_isThere_55 (by decide) (fun h => ?_) (fun h => ?_)
        · rw [if_pos h] at hf
          refine g_iload_n F d_Mo_isThere_102 2 rfl ?_
          refine g_if_ne F (tgt := 111) d_Mo_isThere_103 (by decide) (fun h => ?_) (fun h => ?_)
          · rw [if_neg h] at hf
            refine g_iconst F (v := 1) d_Mo_isThere_111 (by decide) ?_
            refine g_goto F (tgt := 116) d_Mo_isThere_112 (by decide) ?_
            refine g_istore_n F (L' := [(2, .int 1), (0, .ref (ad 0)), (1, .int v1), (3, .int v3), (4, .int v4), (5, .int v5)]) d_Mo_isThere_116 rfl (by decide) rfl ?_
            refine g_iinc F (j := 3) (v := (v3 + 1)) (L' := [(3, .int (v3 + 1)), (2, .int 1), (0, .ref (ad 0)), (1, .int v1), (4, .int v4), (5, .int v5)]) d_Mo_isThere_117 rfl rfl (by decide) rfl ?_
            refine g_goto F (tgt := 12) d_Mo_isThere_120 (by decide) ?_
            refine g_loc [2, 3, 1, 0] rfl ?_
            exact hk12 v1 1 (v3 + 1) hf
          · rw [if_pos h] at hf
            refine g_iload F d_Mo_isThere_106 4 rfl ?_
            refine g_if_eq F (tgt := 115) d_Mo_isThere_108 (by decide) (fun h => ?_) (fun h => ?_)
            · rw [if_pos h] at hf
              refine g_iconst F (v := 0) d_Mo_isThere_115 (by decide) ?_
              refine g_istore_n F (L' := [(2, .int 0), (0, .ref (ad 0)), (1, .int v1), (3, .int v3), (4, .int v4), (5, .int v5)]) d_Mo_isThere_116 rfl (by decide) rfl ?_
              refine g_iinc F (j := 3) (v := (v3 + 1)) (L' := [(3, .int (v3 + 1)), (2, .int 0), (0, .ref (ad 0)), (1, .int v1), (4, .int v4), (5, .int v5)]) d_Mo_isThere_117 rfl rfl (by decide) rfl ?_
              refine g_goto F (tgt := 12) d_Mo_isThere_120 (by decide) ?_
              refine g_loc [2, 3, 1, 0] rfl ?_
              exact hk12 v1 0 (v3 + 1) hf
            · rw [if_neg h] at hf
              refine g_iconst F (v := 1) d_Mo_isThere_111 (by decide) ?_
              refine g_goto F (tgt := 116) d_Mo_isThere_112 (by decide) ?_
              refine g_istore_n F (L' := [(2, .int 1), (0, .ref (ad 0)), (1, .int v1), (3, .int v3), (4, .int v4), (5, .int v5)]) d_Mo_isThere_116 rfl (by decide) rfl ?_
              refine g_iinc F (j := 3) (v := (v3 + 1)) (L' := [(3, .int (v3 + 1)), (2, .int 1), (0, .ref (ad 0)), (1, .int v1), (4, .int v4), (5, .int v5)]) d_Mo_isThere_117 rfl rfl (by decide) rfl ?_
              refine g_goto F (tgt := 12) d_Mo_isThere_120 (by decide) ?_
              refine g_loc [2, 3, 1, 0] rfl ?_
              exact hk12 v1 1 (v3 + 1) hf
        · rw [if_neg h] at hf
          refine g_aload_n F d_Mo_isThere_58 0 rfl ?_
          refine g_get F (v := .ref (ad 17)) in_X13 0 rfl rfl 23 (by decide) mw_1129 rfl d_Mo_isThere_59 ?_
          refine g_aload_n F d_Mo_isThere_62 0 rfl ?_
          refine g_get F (v := .ref (ad 12)) in_X13 0 rfl rfl 17 (by decide) mw_1123 rfl d_Mo_isThere_63 ?_
          refine g_iload_n F d_Mo_isThere_66 3 rfl ?_
          obtain ⟨k2, hf⟩ := g_chk hf
          refine g_iald F (f := (q_Mo_nameAt sMo)) 12 0 rfl rfl k2 d_Mo_isThere_67 ?_
          refine g_iload F d_Mo_isThere_68 5 rfl ?_
          refine g_iadd F d_Mo_isThere_70 ?_
          obtain ⟨k3, hf⟩ := g_chk hf
          refine g_iald F (f := (q_Mo_row sMo)) 17 0 rfl rfl k3 d_Mo_isThere_71 ?_
          refine g_aload_n F d_Mo_isThere_72 0 rfl ?_
          refine g_get F (v := .ref (ad 17)) in_X13 0 rfl rfl 23 (by decide) mw_1129 rfl d_Mo_isThere_73 ?_
          refine g_aload_n F d_Mo_isThere_76 0 rfl ?_
          refine g_get F (v := .ref (ad 12)) in_X13 0 rfl rfl 17 (by decide) mw_1123 rfl d_Mo_isThere_77 ?_
          refine g_iload_n F d_Mo_isThere_80 1 rfl ?_
          obtain ⟨k4, hf⟩ := g_chk hf
          refine g_iald F (f := (q_Mo_nameAt sMo)) 12 0 rfl rfl k4 d_Mo_isThere_81 ?_
          refine g_iload F d_Mo_isThere_82 5 rfl ?_
          refine g_iadd F d_Mo_isThere_84 ?_
          obtain ⟨k5, hf⟩ := g_chk hf
          refine g_iald F (f := (q_Mo_row sMo)) 17 0 rfl rfl k5 d_Mo_isThere_85 ?_
          refine g_icmp_ne F (tgt := 93) d_Mo_isThere_86 (by decide) (fun h => ?_) (fun h => ?_)
          · rw [if_neg h] at hf
            refine g_iconst F (v := 0) d_Mo_isThere_93 (by decide) ?_
            refine g_istore F (L' := [(4, .int 0), (0, .ref (ad 0)), (1, .int v1), (2, .int v2), (3, .int v3), (5, .int v5)]) d_Mo_isThere_94 (by decide) rfl ?_
            refine g_iinc F (j := 5) (v := (v5 + 1)) (L' := [(5, .int (v5 + 1)), (4, .int 0), (0, .ref (ad 0)), (1, .int v1), (2, .int v2), (3, .int v3)]) d_Mo_isThere_96 rfl rfl (by decide) rfl ?_
            refine g_goto F (tgt := 42) d_Mo_isThere_99 (by decide) ?_
            refine g_loc [2, 3, 4, 5, 1, 0] rfl ?_
            exact ih v1 v2 v3 0 (v5 + 1) hf
          · rw [if_pos h] at hf
            refine g_iconst F (v := 1) d_Mo_isThere_89 (by decide) ?_
            refine g_goto F (tgt := 94) d_Mo_isThere_90 (by decide) ?_
            refine g_istore F (L' := [(4, .int 1), (0, .ref (ad 0)), (1, .int v1), (2, .int v2), (3, .int v3), (5, .int v5)]) d_Mo_isThere_94 (by decide) rfl ?_
            refine g_iinc F (j := 5) (v := (v5 + 1)) (L' := [(5, .int (v5 + 1)), (4, .int 1), (0, .ref (ad 0)), (1, .int v1), (2, .int v2), (3, .int v3)]) d_Mo_isThere_96 rfl rfl (by decide) rfl ?_
            refine g_goto F (tgt := 42) d_Mo_isThere_99 (by decide) ?_
            refine g_loc [2, 3, 4, 5, 1, 0] rfl ?_
            exact ih v1 v2 v3 1 (v5 + 1) hf
  have blk12 : ∀ (n : Nat) (v1 : Int32) (v2 : Int32) (v3 : Int32), f_Mo_isThere_12 n v1 v2 v3 sMo = some x → GW p l e { frames := 0, cells := 0, slots := 0, locals := 0 } s m args below meth c (gQi D (gT cA) (va_A (Wm ad cA sMo) sz) x (Wm ad cA sMo)) D (va_A (Wm ad cA sMo) sz) 6 (Wm ad cA sMo) 12 [(0, .ref (ad 0)), (1, .int v1), (2, .int v2), (3, .int v3)] [] := by
    intro n
    induction n with
    | zero => intro _ _ _ hf; cases hf
    | succ n ih =>
      intro v1 v2 v3 hf
      rw [f_Mo_isThere_12] at hf
      refine g_iload_n F d_Mo_isThere_12 3 rfl ?_
      refine g_iload_n F d_Mo_isThere_13 1 rfl ?_
      refine g_icmp_ge F (tgt := 123) d_Mo_isThere_14 (by decide) (fun h => ?_) (fun h => ?_)
      · rw [if_pos h] at hf
        refine g_iload_n F d_Mo_isThere_123 2 rfl ?_
        cases hf
        exact g_zret F hr rfl hlk rfl rfl rfl d_Mo_isThere_124
      · rw [if_neg h] at hf
        refine g_aload_n F d_Mo_isThere_17 0 rfl ?_
        refine g_get F (v := .ref (ad 13)) in_X13 0 rfl rfl 18 (by decide) mw_1124 rfl d_Mo_isThere_18 ?_
        refine g_iload_n F d_Mo_isThere_21 3 rfl ?_
        obtain ⟨k6, hf⟩ := g_chk hf
        refine g_iald F (f := (q_Mo_nameSize sMo)) 13 0 rfl rfl k6 d_Mo_isThere_22 ?_
        refine g_aload_n F d_Mo_isThere_23 0 rfl ?_
        refine g_get F (v := .ref (ad 13)) in_X13 0 rfl rfl 18 (by decide) mw_1124 rfl d_Mo_isThere_24 ?_
        refine g_iload_n F d_Mo_isThere_27 1 rfl ?_
        obtain ⟨k7, hf⟩ := g_chk hf
        refine g_iald F (f := (q_Mo_nameSize sMo)) 13 0 rfl rfl k7 d_Mo_isThere_28 ?_
        refine g_icmp_ne F (tgt := 36) d_Mo_isThere_29 (by decide) (fun h => ?_) (fun h => ?_)
        · rw [if_neg h] at hf
          refine g_iconst F (v := 0) d_Mo_isThere_36 (by decide) ?_
          refine g_istore F (L' := [(4, .int 0), (0, .ref (ad 0)), (1, .int v1), (2, .int v2), (3, .int v3)]) d_Mo_isThere_37 (by decide) rfl ?_
          refine g_iconst F (v := 0) d_Mo_isThere_39 (by decide) ?_
          refine g_istore F (L' := [(5, .int 0), (4, .int 0), (0, .ref (ad 0)), (1, .int v1), (2, .int v2), (3, .int v3)]) d_Mo_isThere_40 (by decide) rfl ?_
          refine g_loc [2, 3, 4, 5, 1, 0] rfl ?_
          exact blk42 _ (fun v1 v2 v3 h => ih v1 v2 v3 h) FU v1 v2 v3 0 0 hf
        · rw [if_pos h] at hf
          refine g_iconst F (v := 1) d_Mo_isThere_32 (by decide) ?_
          refine g_goto F (tgt := 37) d_Mo_isThere_33 (by decide) ?_
          refine g_istore F (L' := [(4, .int 1), (0, .ref (ad 0)), (1, .int v1), (2, .int v2), (3, .int v3)]) d_Mo_isThere_37 (by decide) rfl ?_
          refine g_iconst F (v := 0) d_Mo_isThere_39 (by decide) ?_
          refine g_istore F (L' := [(5, .int 0), (4, .int 1), (0, .ref (ad 0)), (1, .int v1), (2, .int v2), (3, .int v3)]) d_Mo_isThere_40 (by decide) rfl ?_
          refine g_loc [2, 3, 4, 5, 1, 0] rfl ?_
          exact blk42 _ (fun v1 v2 v3 h => ih v1 v2 v3 h) FU v1 v2 v3 1 0 hf
  unfold f_Mo_isThere at hf
  refine g_iconst F (v := 0) d_Mo_isThere_0 (by decide) ?_
  refine g_istore_n F (L' := [(2, .int 0), (0, .ref (ad 0)), (1, .int a1)]) d_Mo_isThere_1 rfl (by decide) rfl ?_
  refine g_aload_n F d_Mo_isThere_2 1 rfl ?_
  refine g_get F (v := .ref (ad 10)) in_X13 0 rfl rfl 14 (by decide) mw_1120 rfl d_Mo_isThere_3 ?_
  refine g_aload_n F d_Mo_isThere_6 1 rfl ?_
  refine g_get F (v := .int (q_Mo_tokens sMo)) in_X13 0 rfl rfl 9 (by decide) mw_1115 rfl d_Mo_isThere_7 ?_
  obtain ⟨k8, hf⟩ := g_chk hf
  refine g_iald F (f := (q_Mo_attributes sMo)) 10 0 rfl rfl k8 d_Mo_isThere_10 ?_
  refine g_istore_n F (L' := [(3, .int ((q_Mo_attributes sMo) ((q_Mo_tokens sMo) : Int32).toNatClampNeg)), (2, .int 0), (0, .ref (ad 0)), (1, .int a1)]) d_Mo_isThere_11 rfl (by decide) rfl ?_
  refine g_loc [2, 3, 1, 0] rfl ?_
  exact blk12 FU a1 0 ((q_Mo_attributes sMo) ((q_Mo_tokens sMo) : Int32).toNatClampNeg) hf
set_option maxHeartbeats 4000000 in
set_option maxRecDepth 100000 in
theorem c_Mo_value (l : Launch) (D : va_G) (cA : Nat → ClassId) (z : gZ) (ad : Nat → Nat) (sMo : SMo) (a1 : Int32) {x : Int32 × SMo} (hf : f_Mo_value a1 sMo = some x) (sz : Nat) : Met l y_Mo_value (.code y_Mo_value b_Mo_value 5 (some .boolean) :: lw_g) { frames := 6, cells := 0, slots := 0, locals := 135 } (gP D (gT cA) z [.ref (ad 0), .int a1] (Wm ad cA sMo) sz) (gQi D (gT cA) (va_A (Wm ad cA sMo) sz) x.1 (Wm ad cA x.2)) 0 0 (va_A (Wm ad cA sMo) sz) := by
  refine g_met (by decide) (Nat.le_of_ble_eq_true rfl) rfl ?_
  intro p e s m args below meth c F hr hlk
  have blk203 : ∀ (v1 : Int32) (v2 : Int32) (v3 : Int32) (v4 : Int32) (tMo : SMo), f_Mo_value_203 v1 v2 v3 v4 tMo = some x → GW p l e { frames := 6, cells := 0, slots := 0, locals := 135 } s m args below meth c (gQi D (gT cA) (va_A (Wm ad cA sMo) sz) x.1 (Wm ad cA x.2)) D (va_A (Wm ad cA sMo) sz) 5 (Wm ad cA tMo) 203 [(0, .ref (ad 0)), (1, .int v1), (2, .int v2), (3, .int v3), (4, .int v4)] [] := by
    intro v1 v2 v3 v4 tMo hf
    unfold f_Mo_value_203 at hf
    refine g_aload_n F d_Mo_value_203 0 rfl ?_
    refine g_get F (v := .ref (ad 15)) in_X13 0 rfl rfl 20 (by decide) mw_1126 rfl d_Mo_value_204 ?_
    refine g_iload_n F d_Mo_value_207 1 rfl ?_
    refine g_aload_n F d_Mo_value_208 0 rfl ?_
    refine g_get F (v := .int (q_Mo_rowSize tMo)) in_X13 0 rfl rfl 22 (by decide) mw_1128 rfl d_Mo_value_209 ?_
    refine g_aload_n F d_Mo_value_212 0 rfl ?_
    refine g_get F (v := .ref (ad 14)) in_X13 0 rfl rfl 19 (by decide) mw_1125 rfl d_Mo_value_213 ?_
    refine g_iload_n F d_Mo_value_216 1 rfl ?_
    obtain ⟨k1, hf⟩ := g_chk hf
    refine g_iald F (f := (q_Mo_valueAt tMo)) 14 0 rfl rfl k1 d_Mo_value_217 ?_
    refine g_isub F d_Mo_value_218 ?_
    obtain ⟨k2, hf⟩ := g_chk hf
    refine g_iast F (f := (q_Mo_valueSize tMo)) 15 0 rfl rfl k2 (ws' := (Wm ad cA (u_Mo_valueSize tMo (upd (q_Mo_valueSize tMo) (v1 : Int32).toNatClampNeg ((q_Mo_rowSize tMo) - ((q_Mo_valueAt tMo) (v1 : Int32).toNatClampNeg)))))) rfl d_Mo_value_219 ?_
    refine g_iload F d_Mo_value_220 4 rfl ?_
    refine g_iconst F (v := (-1)) d_Mo_value_222 (by decide) ?_
    refine g_icmp_ne F (tgt := 232) d_Mo_value_223 (by decide) (fun h => ?_) (fun h => ?_)
    · rw [if_neg h] at hf
      refine g_iload_n F d_Mo_value_232 3 rfl ?_
      refine g_if_eq F (tgt := 294) d_Mo_value_233 (by decide) (fun h => ?_) (fun h => ?_)
      · rw [if_pos h] at hf
        refine g_iconst F (v := 1) d_Mo_value_294 (by decide) ?_
        cases hf
        exact g_zret F hr rfl hlk rfl rfl rfl d_Mo_value_295
      · rw [if_neg h] at hf
        refine g_aload_n F d_Mo_value_236 0 rfl ?_
        refine g_dup F d_Mo_value_237 rfl ?_
        refine g_get F (v := .int (q_Mo_p tMo)) in_X13 0 rfl rfl 7 (by decide) mw_1113 rfl d_Mo_value_238 ?_
        refine g_iconst F (v := 1) d_Mo_value_241 (by decide) ?_
        refine g_iadd F d_Mo_value_242 ?_
        refine g_put F in_X13 0 rfl rfl 7 (by decide) tyX13 tyX13_ok nmX13 mw_1113 rfl rfl rfl (Nat.le_of_ble_eq_true rfl) (ws' := (Wm ad cA (u_Mo_valueSize (u_Mo_p tMo ((q_Mo_p tMo) + 1)) (upd (q_Mo_valueSize tMo) (v1 : Int32).toNatClampNeg ((q_Mo_rowSize tMo) - ((q_Mo_valueAt tMo) (v1 : Int32).toNatClampNeg)))))) rfl d_Mo_value_243 ?_
        refine g_aload_n F d_Mo_value_246 0 rfl ?_
        refine g_aload_n F d_Mo_value_247 0 rfl ?_
        refine g_get F (v := .int ((q_Mo_p tMo) + 1)) in_X13 0 rfl rfl 7 (by decide) mw_1113 rfl d_Mo_value_248 ?_
        obtain ⟨x1, hx1, hf⟩ := g_bind hf
        refine g_ci F (r0 := x1) (ws' := (Wm ad cA (u_Mo_valueSize (u_Mo_p tMo ((q_Mo_p tMo) + 1)) (upd (q_Mo_valueSize tMo) (v1 : Int32).toNatClampNeg ((q_Mo_rowSize tMo) - ((q_Mo_valueAt tMo) (v1 : Int32).toNatClampNeg)))))) (fun H locs ls hP hD hS hl => g_runV F (As := [.int ((q_Mo_p tMo) + 1)]) (n := 1) mw_1228 rfl rfl ⟨by decide, by decide⟩ rfl (by exact Nat.le_of_ble_eq_true rfl) mw_1225 mw_1227 mw_34 mw_85 (by decide +kernel) d_Mo_value_251 hP hD hS hl (va_recv F.2.2.2.2.2.1 hP (ci := 9) rfl (q0 := 0) rfl) (c_Mo_charAt l D cA z ad (u_Mo_valueSize (u_Mo_p tMo ((q_Mo_p tMo) + 1)) (upd (q_Mo_valueSize tMo) (v1 : Int32).toNatClampNeg ((q_Mo_rowSize tMo) - ((q_Mo_valueAt tMo) (v1 : Int32).toNatClampNeg)))) ((q_Mo_p tMo) + 1) hx1 H.size)) ?_
        refine g_istore F (L' := [(4, .int x1), (0, .ref (ad 0)), (1, .int v1), (2, .int v2), (3, .int v3)]) d_Mo_value_254 (by decide) rfl ?_
        refine g_iload F d_Mo_value_256 0 rfl ?_
        refine g_iconst F (v := (-1)) d_Mo_value_258 (by decide) ?_
        refine g_icmp_eq F (tgt := 294) d_Mo_value_259 (by decide) (fun h => ?_) (fun h => ?_)
        · rw [if_pos h] at hf
          refine g_iconst F (v := 1) d_Mo_value_294 (by decide) ?_
          cases hf
          exact g_zret F hr rfl hlk rfl rfl rfl d_Mo_value_295
        · rw [if_neg h] at hf
          refine g_iload F d_Mo_value_262 0 rfl ?_
          refine g_ci F (r0 := (f_Mo_isBlank x1)) (ws' := (Wm ad cA (u_Mo_valueSize (u_Mo_p tMo ((q_Mo_p tMo) + 1)) (upd (q_Mo_valueSize tMo) (v1 : Int32).toNatClampNeg ((q_Mo_rowSize tMo) - ((q_Mo_valueAt tMo) (v1 : Int32).toNatClampNeg)))))) (fun H locs ls hP hD hS hl => g_runS F (As := [.int x1]) (n := 1) mw_1277 rfl rfl ⟨by decide, by decide⟩ rfl (by exact Nat.le_of_ble_eq_true rfl) mw_1275 mw_1276 mw_85 (by decide +kernel) d_Mo_value_264 hP hD hS hl (c_Mo_isBlank l D cA z ad (u_Mo_valueSize (u_Mo_p tMo ((q_Mo_p tMo) + 1)) (upd (q_Mo_valueSize tMo) (v1 : Int32).toNatClampNeg ((q_Mo_rowSize tMo) - ((q_Mo_valueAt tMo) (v1 : Int32).toNatClampNeg)))) x1 rfl H.size)) ?_
          refine g_if_ne F (tgt := 294) d_Mo_value_267 (by decide) (fun h => ?_) (fun h => ?_)
          · rw [if_neg h] at hf
            refine g_iconst F (v := 1) d_Mo_value_294 (by decide) ?_
            cases hf
            exact g_zret F hr rfl hlk rfl rfl rfl d_Mo_value_295
          · rw [if_pos h] at hf
            refine g_iload F d_Mo_value_270 0 rfl ?_
            refine g_bipush F (v := 47) d_Mo_value_272 (by decide) ?_
            refine g_icmp_eq F (tgt := 294) d_Mo_value_274 (by decide) (fun h => ?_) (fun h => ?_)
            · rw [if_pos h] at hf
              refine g_iconst F (v := 1) d_Mo_value_294 (by decide) ?_
              cases hf
              exact g_zret F hr rfl hlk rfl rfl rfl d_Mo_value_295
            · rw [if_neg h] at hf
              refine g_iload F d_Mo_value_277 0 rfl ?_
              refine g_bipush F (v := 62) d_Mo_value_279 (by decide) ?_
              refine g_icmp_eq F (tgt := 294) d_Mo_value_281 (by decide) (fun h => ?_) (fun h => ?_)
              · rw [if_pos h] at hf
                refine g_iconst F (v := 1) d_Mo_value_294 (by decide) ?_
                cases hf
                exact g_zret F hr rfl hlk rfl rfl rfl d_Mo_value_295
              · rw [if_neg h] at hf
                refine g_aload_n F d_Mo_value_284 1 rfl ?_
                refine g_bipush F (v := 12) d_Mo_value_285 (by decide) ?_
                refine g_aload_n F d_Mo_value_287 1 rfl ?_
                refine g_get F (v := .int ((q_Mo_p tMo) + 1)) in_X13 0 rfl rfl 7 (by decide) mw_1113 rfl d_Mo_value_288 ?_
                obtain ⟨x2, hx2, hf⟩ := g_bind hf
                refine g_cv F (ws' := (Wm ad cA x2)) (fun H locs ls hP hD hS hl => g_runV F (As := [.int 12, .int ((q_Mo_p tMo) + 1)]) (n := 2) mw_1247 rfl rfl ⟨by decide, by decide⟩ rfl (by exact Nat.le_of_ble_eq_true rfl) mw_1244 mw_1246 mw_37 mw_85 (by decide +kernel) d_Mo_value_291 hP hD hS hl (va_recv F.2.2.2.2.2.1 hP (ci := 9) rfl (q0 := 0) rfl) (c_Mo_wrong l D cA z ad (u_Mo_valueSize (u_Mo_p tMo ((q_Mo_p tMo) + 1)) (upd (q_Mo_valueSize tMo) (v1 : Int32).toNatClampNeg ((q_Mo_rowSize tMo) - ((q_Mo_valueAt tMo) (v1 : Int32).toNatClampNeg)))) 12 ((q_Mo_p tMo) + 1) hx2 H.size)) ?_
                refine g_iconst F (v := 1) d_Mo_value_294 (by decide) ?_
                cases hf
                exact g_zret F hr rfl hlk rfl rfl rfl d_Mo_value_295
    · rw [if_pos h] at hf
      refine g_aload_n F d_Mo_value_226 0 rfl ?_
      obtain ⟨x3, hx3, hf⟩ := g_bind hf
      refine g_cv F (ws' := (Wm ad cA x3)) (fun H locs ls hP hD hS hl => g_runV F (As := []) (n := 0) mw_1360 rfl rfl ⟨by decide, by decide⟩ rfl (by exact Nat.le_of_ble_eq_true rfl) mw_1357 mw_1359 mw_60 mw_85 (by decide +kernel) d_Mo_value_227 hP hD hS hl (va_recv F.2.2.2.2.2.1 hP (ci := 9) rfl (q0 := 0) rfl) (c_Mo_drop l D cA z ad (u_Mo_valueSize tMo (upd (q_Mo_valueSize tMo) (v1 : Int32).toNatClampNeg ((q_Mo_rowSize tMo) - ((q_Mo_valueAt tMo) (v1 : Int32).toNatClampNeg)))) hx3 H.size)) ?_
      refine g_iconst F (v := 0) d_Mo_value_230 (by decide) ?_
      cases hf
      exact g_zret F hr rfl hlk rfl rfl rfl d_Mo_value_231
  have blk172 : ∀ (k84 : Int32 → Int32 → Int32 → Int32 → SMo → Option (Int32 × SMo)), (∀ (v1 : Int32) (v2 : Int32) (v3 : Int32) (v4 : Int32) (tMo : SMo), k84 v1 v2 v3 v4 tMo = some x → GW p l e { frames := 6, cells := 0, slots := 0, locals := 135 } s m args below meth c (gQi D (gT cA) (va_A (Wm ad cA sMo) sz) x.1 (Wm ad cA x.2)) D (va_A (Wm ad cA sMo) sz) 5 (Wm ad cA tMo) 84 [(0, .ref (ad 0)), (1, .int v1), (2, .int v2), (3, .int v3), (4, .int v4)] []) → ∀ (v1 : Int32) (v2 : Int32) (v3 : Int32) (v4 : Int32) (tMo : SMo), f_Mo_value_172 k84 v1 v2 v3 v4 tMo = some x → GW p l e { frames := 6, cells := 0, slots := 0, locals := 135 } s m args below meth c (gQi D (gT cA) (va_A (Wm ad cA sMo) sz) x.1 (Wm ad cA x.2)) D (va_A (Wm ad cA sMo) sz) 5 (Wm ad cA tMo) 172 [(0, .ref (ad 0)), (1, .int v1), (2, .int v2), (3, .int v3), (4, .int v4)] [] := by
    intro k84 hk84
    intro v1 v2 v3 v4 tMo hf
    unfold f_Mo_value_172 at hf
    refine g_aload_n F d_Mo_value_172 0 rfl ?_
    refine g_bipush F (v := 11) d_Mo_value_173 (by decide) ?_
    refine g_aload_n F d_Mo_value_175 0 rfl ?_
    refine g_get F (v := .int (q_Mo_p tMo)) in_X13 0 rfl rfl 7 (by decide) mw_1113 rfl d_Mo_value_176 ?_
    obtain ⟨x4, hx4, hf⟩ := g_bind hf
    refine g_cv F (ws' := (Wm ad cA x4)) (fun H locs ls hP hD hS hl => g_runV F (As := [.int 11, .int (q_Mo_p tMo)]) (n := 2) mw_1247 rfl rfl ⟨by decide, by decide⟩ rfl (by exact Nat.le_of_ble_eq_true rfl) mw_1244 mw_1246 mw_37 mw_85 (by decide +kernel) d_Mo_value_179 hP hD hS hl (va_recv F.2.2.2.2.2.1 hP (ci := 9) rfl (q0 := 0) rfl) (c_Mo_wrong l D cA z ad tMo 11 (q_Mo_p tMo) hx4 H.size)) ?_
    refine g_aload_n F d_Mo_value_182 0 rfl ?_
    refine g_aload_n F d_Mo_value_183 0 rfl ?_
    obtain ⟨x5, hx5, hf⟩ := g_bind hf
    refine g_ci F (r0 := x5.1) (ws' := (Wm ad cA x5.2)) (fun H locs ls hP hD hS hl => g_runV F (As := []) (n := 0) mw_1340 rfl rfl ⟨by decide, by decide⟩ rfl (by exact Nat.le_of_ble_eq_true rfl) mw_1337 mw_1339 mw_55 mw_85 (by decide +kernel) d_Mo_value_184 hP hD hS hl (va_recv F.2.2.2.2.2.1 hP (ci := 9) rfl (q0 := 0) rfl) (c_Mo_known l D cA z ad x4 hx5 H.size)) ?_
    obtain ⟨x6, hx6, hf⟩ := g_bind hf
    refine g_cv F (ws' := (Wm ad cA x6)) (fun H locs ls hP hD hS hl => g_runV F (As := [.int x5.1]) (n := 1) mw_1259 rfl rfl ⟨by decide, by decide⟩ rfl (by exact Nat.le_of_ble_eq_true rfl) mw_1256 mw_1258 mw_40 mw_85 (by decide +kernel) d_Mo_value_187 hP hD hS hl (va_recv F.2.2.2.2.2.1 hP (ci := 9) rfl (q0 := 0) rfl) (c_Mo_keep l D cA z ad x5.2 x5.1 hx6 H.size)) ?_
    refine g_aload_n F d_Mo_value_190 0 rfl ?_
    refine g_aload_n F d_Mo_value_191 0 rfl ?_
    refine g_get F (v := .int (q_Mo_p x6)) in_X13 0 rfl rfl 7 (by decide) mw_1113 rfl d_Mo_value_192 ?_
    obtain ⟨x7, hx7, hf⟩ := g_bind hf
    refine g_ci F (r0 := x7) (ws' := (Wm ad cA x6)) (fun H locs ls hP hD hS hl => g_runV F (As := [.int (q_Mo_p x6)]) (n := 1) mw_1228 rfl rfl ⟨by decide, by decide⟩ rfl (by exact Nat.le_of_ble_eq_true rfl) mw_1225 mw_1227 mw_34 mw_85 (by decide +kernel) d_Mo_value_195 hP hD hS hl (va_recv F.2.2.2.2.2.1 hP (ci := 9) rfl (q0 := 0) rfl) (c_Mo_charAt l D cA z ad x6 (q_Mo_p x6) hx7 H.size)) ?_
    refine g_istore F (L' := [(4, .int x7), (0, .ref (ad 0)), (1, .int v1), (2, .int v2), (3, .int v3)]) d_Mo_value_198 (by decide) rfl ?_
    refine g_goto F (tgt := 84) d_Mo_value_200 (by decide) ?_
    refine g_loc [1, 2, 3, 4, 0] rfl ?_
    exact hk84 v1 v2 v3 x7 x6 hf
  have blk118 : ∀ (k84 : Int32 → Int32 → Int32 → Int32 → SMo → Option (Int32 × SMo)), (∀ (v1 : Int32) (v2 : Int32) (v3 : Int32) (v4 : Int32) (tMo : SMo), k84 v1 v2 v3 v4 tMo = some x → GW p l e { frames := 6, cells := 0, slots := 0, locals := 135 } s m args below meth c (gQi D (gT cA) (va_A (Wm ad cA sMo) sz) x.1 (Wm ad cA x.2)) D (va_A (Wm ad cA sMo) sz) 5 (Wm ad cA tMo) 84 [(0, .ref (ad 0)), (1, .int v1), (2, .int v2), (3, .int v3), (4, .int v4)] []) → ∀ (v1 : Int32) (v2 : Int32) (v3 : Int32) (v4 : Int32) (tMo : SMo), f_Mo_value_118 k84 v1 v2 v3 v4 tMo = some x → GW p l e { frames := 6, cells := 0, slots := 0, locals := 135 } s m args below meth c (gQi D (gT cA) (va_A (Wm ad cA sMo) sz) x.1 (Wm ad cA x.2)) D (va_A (Wm ad cA sMo) sz) 5 (Wm ad cA tMo) 118 [(0, .ref (ad 0)), (1, .int v1), (2, .int v2), (3, .int v3), (4, .int v4)] [] := by
    intro k84 hk84
    intro v1 v2 v3 v4 tMo hf
    unfold f_Mo_value_118 at hf
    refine g_iload F d_Mo_value_118 4 rfl ?_
    refine g_bipush F (v := 38) d_Mo_value_120 (by decide) ?_
    refine g_icmp_ne F (tgt := 133) d_Mo_value_122 (by decide) (fun h => ?_) (fun h => ?_)
    · rw [if_neg h] at hf
      refine g_iload_n F d_Mo_value_133 3 rfl ?_
      refine g_if_ne F (tgt := 182) d_Mo_value_134 (by decide) (fun h => ?_) (fun h => ?_)
      · rw [if_neg h] at hf
        refine g_aload_n F d_Mo_value_182 0 rfl ?_
        refine g_aload_n F d_Mo_value_183 0 rfl ?_
        obtain ⟨x8, hx8, hf⟩ := g_bind hf
        refine g_ci F (r0 := x8.1) (ws' := (Wm ad cA x8.2)) (fun H locs ls hP hD hS hl => g_runV F (As := []) (n := 0) mw_1340 rfl rfl ⟨by decide, by decide⟩ rfl (by exact Nat.le_of_ble_eq_true rfl) mw_1337 mw_1339 mw_55 mw_85 (by decide +kernel) d_Mo_value_184 hP hD hS hl (va_recv F.2.2.2.2.2.1 hP (ci := 9) rfl (q0 := 0) rfl) (c_Mo_known l D cA z ad tMo hx8 H.size)) ?_
        obtain ⟨x9, hx9, hf⟩ := g_bind hf
        refine g_cv F (ws' := (Wm ad cA x9)) (fun H locs ls hP hD hS hl => g_runV F (As := [.int x8.1]) (n := 1) mw_1259 rfl rfl ⟨by decide, by decide⟩ rfl (by exact Nat.le_of_ble_eq_true rfl) mw_1256 mw_1258 mw_40 mw_85 (by decide +kernel) d_Mo_value_187 hP hD hS hl (va_recv F.2.2.2.2.2.1 hP (ci := 9) rfl (q0 := 0) rfl) (c_Mo_keep l D cA z ad x8.2 x8.1 hx9 H.size)) ?_
        refine g_aload_n F d_Mo_value_190 0 rfl ?_
        refine g_aload_n F d_Mo_value_191 0 rfl ?_
        refine g_get F (v := .int (q_Mo_p x9)) in_X13 0 rfl rfl 7 (by decide) mw_1113 rfl d_Mo_value_192 ?_
        obtain ⟨x10, hx10, hf⟩ := g_bind hf
        refine g_ci F (r0 := x10) (ws' := (Wm ad cA x9)) (fun H locs ls hP hD hS hl => g_runV F (As := [.int (q_Mo_p x9)]) (n := 1) mw_1228 rfl rfl ⟨by decide, by decide⟩ rfl (by exact Nat.le_of_ble_eq_true rfl) mw_1225 mw_1227 mw_34 mw_85 (by decide +kernel) d_Mo_value_195 hP hD hS hl (va_recv F.2.2.2.2.2.1 hP (ci := 9) rfl (q0 := 0) rfl) (c_Mo_charAt l D cA z ad x9 (q_Mo_p x9) hx10 H.size)) ?_
        refine g_istore F (L' := [(4, .int x10), (0, .ref (ad 0)), (1, .int v1), (2, .int v2), (3, .int v3)]) d_Mo_value_198 (by decide) rfl ?_
        refine g_goto F (tgt := 84) d_Mo_value_200 (by decide) ?_
        refine g_loc [1, 2, 3, 4, 0] rfl ?_
        exact hk84 v1 v2 v3 x10 x9 hf
      · rw [if_pos h] at hf
        refine g_iload F d_Mo_value_137 4 rfl ?_
        refine g_bipush F (v := 34) d_Mo_value_139 (by decide) ?_
        refine g_icmp_eq F (tgt := 172) d_Mo_value_141 (by decide) (fun h => ?_) (fun h => ?_)
        · rw [if_pos h] at hf
          exact blk172 _ hk84 v1 v2 v3 v4 tMo hf
        · rw [if_neg h] at hf
          refine g_iload F d_Mo_value_144 4 rfl ?_
          refine g_bipush F (v := 39) d_Mo_value_146 (by decide) ?_
          refine g_icmp_eq F (tgt := 172) d_Mo_value_148 (by decide) (fun h => ?_) (fun h => ?_)
          · rw [if_pos h] at hf
            exact blk172 _ hk84 v1 v2 v3 v4 tMo hf
          · rw [if_neg h] at hf
            refine g_iload F d_Mo_value_151 4 rfl ?_
            refine g_bipush F (v := 60) d_Mo_value_153 (by decide) ?_
            refine g_icmp_eq F (tgt := 172) d_Mo_value_155 (by decide) (fun h => ?_) (fun h => ?_)
            · rw [if_pos h] at hf
              exact blk172 _ hk84 v1 v2 v3 v4 tMo hf
            · rw [if_neg h] at hf
              refine g_iload F d_Mo_value_158 4 rfl ?_
              refine g_bipush F (v := 61) d_Mo_value_160 (by decide) ?_
              refine g_icmp_eq F (tgt := 172) d_Mo_value_162 (by decide) (fun h => ?_) (fun h => ?_)
              · rw [if_pos h] at hf
                exact blk172 _ hk84 v1 v2 v3 v4 tMo hf
              · rw [if_neg h] at hf
                refine g_iload F d_Mo_value_165 4 rfl ?_
                refine g_bipush F (v := 96) d_Mo_value_167 (by decide) ?_
                refine g_icmp_ne F (tgt := 182) d_Mo_value_169 (by decide) (fun h => ?_) (fun h => ?_)
                · rw [if_neg h] at hf
                  refine g_aload_n F d_Mo_value_182 0 rfl ?_
                  refine g_aload_n F d_Mo_value_183 0 rfl ?_
                  obtain ⟨x11, hx11, hf⟩ := g_bind hf
                  refine g_ci F (r0 := x11.1) (ws' := (Wm ad cA x11.2)) (fun H locs ls hP hD hS hl => g_runV F (As := []) (n := 0) mw_1340 rfl rfl ⟨by decide, by decide⟩ rfl (by exact Nat.le_of_ble_eq_true rfl) mw_1337 mw_1339 mw_55 mw_85 (by decide +kernel) d_Mo_value_184 hP hD hS hl (va_recv F.2.2.2.2.2.1 hP (ci := 9) rfl (q0 := 0) rfl) (c_Mo_known l D cA z ad tMo hx11 H.size)) ?_
                  obtain ⟨x12, hx12, hf⟩ := g_bind hf
                  refine g_cv F (ws' := (Wm ad cA x12)) (fun H locs ls hP hD hS hl => g_runV F (As := [.int x11.1]) (n := 1) mw_1259 rfl rfl ⟨by decide, by decide⟩ rfl (by exact Nat.le_of_ble_eq_true rfl) mw_1256 mw_1258 mw_40 mw_85 (by decide +kernel) d_Mo_value_187 hP hD hS hl (va_recv F.2.2.2.2.2.1 hP (ci := 9) rfl (q0 := 0) rfl) (c_Mo_keep l D cA z ad x11.2 x11.1 hx12 H.size)) ?_
                  refine g_aload_n F d_Mo_value_190 0 rfl ?_
                  refine g_aload_n F d_Mo_value_191 0 rfl ?_
                  refine g_get F (v := .int (q_Mo_p x12)) in_X13 0 rfl rfl 7 (by decide) mw_1113 rfl d_Mo_value_192 ?_
                  obtain ⟨x13, hx13, hf⟩ := g_bind hf
                  refine g_ci F (r0 := x13) (ws' := (Wm ad cA x12)) (fun H locs ls hP hD hS hl => g_runV F (As := [.int (q_Mo_p x12)]) (n := 1) mw_1228 rfl rfl ⟨by decide, by decide⟩ rfl (by exact Nat.le_of_ble_eq_true rfl) mw_1225 mw_1227 mw_34 mw_85 (by decide +kernel) d_Mo_value_195 hP hD hS hl (va_recv F.2.2.2.2.2.1 hP (ci := 9) rfl (q0 := 0) rfl) (c_Mo_charAt l D cA z ad x12 (q_Mo_p x12) hx13 H.size)) ?_
                  refine g_istore F (L' := [(4, .int x13), (0, .ref (ad 0)), (1, .int v1), (2, .int v2), (3, .int v3)]) d_Mo_value_198 (by decide) rfl ?_
                  refine g_goto F (tgt := 84) d_Mo_value_200 (by decide) ?_
                  refine g_loc [1, 2, 3, 4, 0] rfl ?_
                  exact hk84 v1 v2 v3 x13 x12 hf
                · rw [if_pos h] at hf
                  exact blk172 _ hk84 v1 v2 v3 v4 tMo hf
    · rw [if_pos h] at hf
      refine g_aload_n F d_Mo_value_125 0 rfl ?_
      refine g_iconst F (v := 1) d_Mo_value_126 (by decide) ?_
      obtain ⟨x14, hx14, hf⟩ := g_bind hf
      refine g_cv F (ws' := (Wm ad cA x14)) (fun H locs ls hP hD hS hl => g_runV F (As := [.int 1]) (n := 1) mw_1232 rfl rfl ⟨by decide, by decide⟩ rfl (by exact Nat.le_of_ble_eq_true rfl) mw_1229 mw_1231 mw_35 mw_85 (by decide +kernel) d_Mo_value_127 hP hD hS hl (va_recv F.2.2.2.2.2.1 hP (ci := 9) rfl (q0 := 0) rfl) (c_Mo_reference l D cA z ad tMo 1 hx14 H.size)) ?_
      refine g_goto F (tgt := 190) d_Mo_value_130 (by decide) ?_
      refine g_aload_n F d_Mo_value_190 0 rfl ?_
      refine g_aload_n F d_Mo_value_191 0 rfl ?_
      refine g_get F (v := .int (q_Mo_p x14)) in_X13 0 rfl rfl 7 (by decide) mw_1113 rfl d_Mo_value_192 ?_
      obtain ⟨x15, hx15, hf⟩ := g_bind hf
      refine g_ci F (r0 := x15) (ws' := (Wm ad cA x14)) (fun H locs ls hP hD hS hl => g_runV F (As := [.int (q_Mo_p x14)]) (n := 1) mw_1228 rfl rfl ⟨by decide, by decide⟩ rfl (by exact Nat.le_of_ble_eq_true rfl) mw_1225 mw_1227 mw_34 mw_85 (by decide +kernel) d_Mo_value_195 hP hD hS hl (va_recv F.2.2.2.2.2.1 hP (ci := 9) rfl (q0 := 0) rfl) (c_Mo_charAt l D cA z ad x14 (q_Mo_p x14) hx15 H.size)) ?_
      refine g_istore F (L' := [(4, .int x15), (0, .ref (ad 0)), (1, .int v1), (2, .int v2), (3, .int v3)]) d_Mo_value_198 (by decide) rfl ?_
      refine g_goto F (tgt := 84) d_Mo_value_200 (by decide) ?_
      refine g_loc [1, 2, 3, 4, 0] rfl ?_
      exact hk84 v1 v2 v3 x15 x14 hf
  have blk84 : ∀ (n : Nat) (v1 : Int32) (v2 : Int32) (v3 : Int32) (v4 : Int32) (tMo : SMo), f_Mo_value_84 n v1 v2 v3 v4 tMo = some x → GW p l e { frames := 6, cells := 0, slots := 0, locals := 135 } s m args below meth c (gQi D (gT cA) (va_A (Wm ad cA sMo) sz) x.1 (Wm ad cA x.2)) D (va_A (Wm ad cA sMo) sz) 5 (Wm ad cA tMo) 84 [(0, .ref (ad 0)), (1, .int v1), (2, .int v2), (3, .int v3), (4, .int v4)] [] := by
    intro n
    induction n with
    | zero => intro _ _ _ _ _ hf; cases hf
    | succ n ih =>
      intro v1 v2 v3 v4 tMo hf
      rw [f_Mo_value_84] at hf
      refine g_iload F d_Mo_value_84 4 rfl ?_
      refine g_iconst F (v := (-1)) d_Mo_value_86 (by decide) ?_
      refine g_icmp_eq F (tgt := 203) d_Mo_value_87 (by decide) (fun h => ?_) (fun h => ?_)
      · rw [if_pos h] at hf
        exact blk203 v1 v2 v3 v4 tMo hf
      · rw [if_neg h] at hf
        refine g_iload_n F d_Mo_value_90 3 rfl ?_
        refine g_if_eq F (tgt := 103) d_Mo_value_91 (by decide) (fun h => ?_) (fun h => ?_)
        · rw [if_pos h] at hf
          refine g_iload F d_Mo_value_103 4 rfl ?_
          refine g_ci F (r0 := (f_Mo_isBlank v4)) (ws' := (Wm ad cA tMo)) (fun H locs ls hP hD hS hl => g_runS F (As := [.int v4]) (n := 1) mw_1277 rfl rfl ⟨by decide, by decide⟩ rfl (by exact Nat.le_of_ble_eq_true rfl) mw_1275 mw_1276 mw_85 (by decide +kernel) d_Mo_value_105 hP hD hS hl (c_Mo_isBlank l D cA z ad tMo v4 rfl H.size)) ?_
          refine g_if_ne F (tgt := 203) d_Mo_value_108 (by decide) (fun h => ?_) (fun h => ?_)
          · rw [if_neg h] at hf
            exact blk203 v1 v2 v3 v4 tMo hf
          · rw [if_pos h] at hf
            refine g_iload F d_Mo_value_111 4 rfl ?_
            refine g_bipush F (v := 62) d_Mo_value_113 (by decide) ?_
            refine g_icmp_eq F (tgt := 203) d_Mo_value_115 (by decide) (fun h => ?_) (fun h => ?_)
            · rw [if_pos h] at hf
              exact blk203 v1 v2 v3 v4 tMo hf
            · rw [if_neg h] at hf
              exact blk118 _ (fun v1 v2 v3 v4 tMo h => ih v1 v2 v3 v4 tMo h) v1 v2 v3 v4 tMo hf
        · rw [if_neg h] at hf
          refine g_iload F d_Mo_value_94 4 rfl ?_
          refine g_iload_n F d_Mo_value_96 2 rfl ?_
          refine g_icmp_eq F (tgt := 203) d_Mo_value_97 (by decide) (fun h => ?_) (fun h => ?_)
          · rw [if_pos h] at hf
            exact blk203 v1 v2 v3 v4 tMo hf
          · rw [if_neg h] at hf
            refine g_goto F (tgt := 118) d_Mo_value_100 (by decide) ?_
            exact blk118 _ (fun v1 v2 v3 v4 tMo h => ih v1 v2 v3 v4 tMo h) v1 v2 v3 v4 tMo hf
  unfold f_Mo_value at hf
  refine g_aload_n F d_Mo_value_0 0 rfl ?_
  obtain ⟨x16, hx16, hf⟩ := g_bind hf
  refine g_cv F (ws' := (Wm ad cA x16)) (fun H locs ls hP hD hS hl => g_runV F (As := []) (n := 0) mw_1336 rfl rfl ⟨by decide, by decide⟩ rfl (by exact Nat.le_of_ble_eq_true rfl) mw_1333 mw_1335 mw_54 mw_85 (by decide +kernel) d_Mo_value_1 hP hD hS hl (va_recv F.2.2.2.2.2.1 hP (ci := 9) rfl (q0 := 0) rfl) (c_Mo_skipBlanks l D cA z ad sMo hx16 H.size)) ?_
  refine g_aload_n F d_Mo_value_4 0 rfl ?_
  refine g_aload_n F d_Mo_value_5 0 rfl ?_
  refine g_get F (v := .int (q_Mo_p x16)) in_X13 0 rfl rfl 7 (by decide) mw_1113 rfl d_Mo_value_6 ?_
  obtain ⟨x17, hx17, hf⟩ := g_bind hf
  refine g_ci F (r0 := x17) (ws' := (Wm ad cA x16)) (fun H locs ls hP hD hS hl => g_runV F (As := [.int (q_Mo_p x16)]) (n := 1) mw_1228 rfl rfl ⟨by decide, by decide⟩ rfl (by exact Nat.le_of_ble_eq_true rfl) mw_1225 mw_1227 mw_34 mw_85 (by decide +kernel) d_Mo_value_9 hP hD hS hl (va_recv F.2.2.2.2.2.1 hP (ci := 9) rfl (q0 := 0) rfl) (c_Mo_charAt l D cA z ad x16 (q_Mo_p x16) hx17 H.size)) ?_
  refine g_istore_n F (L' := [(2, .int x17), (0, .ref (ad 0)), (1, .int a1)]) d_Mo_value_12 rfl (by decide) rfl ?_
  refine g_iload_n F d_Mo_value_13 0 rfl ?_
  refine g_bipush F (v := 62) d_Mo_value_14 (by decide) ?_
  refine g_icmp_ne F (tgt := 35) d_Mo_value_16 (by decide) (fun h => ?_) (fun h => ?_)
  · rw [if_neg h] at hf
    refine g_iload_n F d_Mo_value_35 0 rfl ?_
    refine g_bipush F (v := 34) d_Mo_value_36 (by decide) ?_
    refine g_icmp_eq F (tgt := 47) d_Mo_value_38 (by decide) (fun h => ?_) (fun h => ?_)
    · rw [if_pos h] at hf
      refine g_iconst F (v := 1) d_Mo_value_47 (by decide) ?_
      refine g_goto F (tgt := 52) d_Mo_value_48 (by decide) ?_
      refine g_istore_n F (L' := [(3, .int 1), (2, .int x17), (0, .ref (ad 0)), (1, .int a1)]) d_Mo_value_52 rfl (by decide) rfl ?_
      refine g_aload_n F d_Mo_value_53 2 rfl ?_
      refine g_iload_n F d_Mo_value_54 0 rfl ?_
      refine g_if_eq F (tgt := 67) d_Mo_value_55 (by decide) (fun h => absurd h (by decide)) (fun _ => ?_)
      refine g_aload_n F d_Mo_value_58 2 rfl ?_
      refine g_get F (v := .int (q_Mo_p x16)) in_X13 0 rfl rfl 7 (by decide) mw_1113 rfl d_Mo_value_59 ?_
      refine g_iconst F (v := 1) d_Mo_value_62 (by decide) ?_
      refine g_iadd F d_Mo_value_63 ?_
      refine g_goto F (tgt := 71) d_Mo_value_64 (by decide) ?_
      refine g_put F in_X13 0 rfl rfl 7 (by decide) tyX13 tyX13_ok nmX13 mw_1113 rfl rfl rfl (Nat.le_of_ble_eq_true rfl) (ws' := (Wm ad cA (u_Mo_p x16 ((q_Mo_p x16) + 1)))) rfl d_Mo_value_71 ?_
      refine g_aload_n F d_Mo_value_74 2 rfl ?_
      refine g_aload_n F d_Mo_value_75 2 rfl ?_
      refine g_get F (v := .int ((q_Mo_p x16) + 1)) in_X13 0 rfl rfl 7 (by decide) mw_1113 rfl d_Mo_value_76 ?_
      obtain ⟨x18, hx18, hf⟩ := g_bind hf
      refine g_ci F (r0 := x18) (ws' := (Wm ad cA (u_Mo_p x16 ((q_Mo_p x16) + 1)))) (fun H locs ls hP hD hS hl => g_runV F (As := [.int ((q_Mo_p x16) + 1)]) (n := 1) mw_1228 rfl rfl ⟨by decide, by decide⟩ rfl (by exact Nat.le_of_ble_eq_true rfl) mw_1225 mw_1227 mw_34 mw_85 (by decide +kernel) d_Mo_value_79 hP hD hS hl (va_recv F.2.2.2.2.2.1 hP (ci := 9) rfl (q0 := 0) rfl) (c_Mo_charAt l D cA z ad (u_Mo_p x16 ((q_Mo_p x16) + 1)) ((q_Mo_p x16) + 1) hx18 H.size)) ?_
      refine g_istore F (L' := [(4, .int x18), (3, .int 1), (2, .int x17), (0, .ref (ad 0)), (1, .int a1)]) d_Mo_value_82 (by decide) rfl ?_
      refine g_loc [3, 4, 2, 1, 0] rfl ?_
      exact blk84 FU a1 x17 1 x18 (u_Mo_p x16 ((q_Mo_p x16) + 1)) hf
    · rw [if_neg h] at hf
      refine g_iload_n F d_Mo_value_41 0 rfl ?_
      refine g_bipush F (v := 39) d_Mo_value_42 (by decide) ?_
      refine g_icmp_ne F (tgt := 51) d_Mo_value_44 (by decide) (fun h => ?_) (fun h => ?_)
      · rw [if_neg h] at hf
        refine g_iconst F (v := 0) d_Mo_value_51 (by decide) ?_
        refine g_istore_n F (L' := [(3, .int 0), (2, .int x17), (0, .ref (ad 0)), (1, .int a1)]) d_Mo_value_52 rfl (by decide) rfl ?_
        refine g_aload_n F d_Mo_value_53 2 rfl ?_
        refine g_iload_n F d_Mo_value_54 0 rfl ?_
        refine g_if_eq F (tgt := 67) d_Mo_value_55 (by decide) (fun _ => ?_) (fun h => absurd h (by decide))
        refine g_aload_n F d_Mo_value_67 2 rfl ?_
        refine g_get F (v := .int (q_Mo_p x16)) in_X13 0 rfl rfl 7 (by decide) mw_1113 rfl d_Mo_value_68 ?_
        refine g_put F in_X13 0 rfl rfl 7 (by decide) tyX13 tyX13_ok nmX13 mw_1113 rfl rfl rfl (Nat.le_of_ble_eq_true rfl) (ws' := (Wm ad cA (u_Mo_p x16 (q_Mo_p x16)))) rfl d_Mo_value_71 ?_
        refine g_aload_n F d_Mo_value_74 2 rfl ?_
        refine g_aload_n F d_Mo_value_75 2 rfl ?_
        refine g_get F (v := .int (q_Mo_p x16)) in_X13 0 rfl rfl 7 (by decide) mw_1113 rfl d_Mo_value_76 ?_
        obtain ⟨x19, hx19, hf⟩ := g_bind hf
        refine g_ci F (r0 := x19) (ws' := (Wm ad cA (u_Mo_p x16 (q_Mo_p x16)))) (fun H locs ls hP hD hS hl => g_runV F (As := [.int (q_Mo_p x16)]) (n := 1) mw_1228 rfl rfl ⟨by decide, by decide⟩ rfl (by exact Nat.le_of_ble_eq_true rfl) mw_1225 mw_1227 mw_34 mw_85 (by decide +kernel) d_Mo_value_79 hP hD hS hl (va_recv F.2.2.2.2.2.1 hP (ci := 9) rfl (q0 := 0) rfl) (c_Mo_charAt l D cA z ad (u_Mo_p x16 (q_Mo_p x16)) (q_Mo_p x16) hx19 H.size)) ?_
        refine g_istore F (L' := [(4, .int x19), (3, .int 0), (2, .int x17), (0, .ref (ad 0)), (1, .int a1)]) d_Mo_value_82 (by decide) rfl ?_
        refine g_loc [3, 4, 2, 1, 0] rfl ?_
        exact blk84 FU a1 x17 0 x19 (u_Mo_p x16 (q_Mo_p x16)) hf
      · rw [if_pos h] at hf
        refine g_iconst F (v := 1) d_Mo_value_47 (by decide) ?_
        refine g_goto F (tgt := 52) d_Mo_value_48 (by decide) ?_
        refine g_istore_n F (L' := [(3, .int 1), (2, .int x17), (0, .ref (ad 0)), (1, .int a1)]) d_Mo_value_52 rfl (by decide) rfl ?_
        refine g_aload_n F d_Mo_value_53 2 rfl ?_
        refine g_iload_n F d_Mo_value_54 0 rfl ?_
        refine g_if_eq F (tgt := 67) d_Mo_value_55 (by decide) (fun h => absurd h (by decide)) (fun _ => ?_)
        refine g_aload_n F d_Mo_value_58 2 rfl ?_
        refine g_get F (v := .int (q_Mo_p x16)) in_X13 0 rfl rfl 7 (by decide) mw_1113 rfl d_Mo_value_59 ?_
        refine g_iconst F (v := 1) d_Mo_value_62 (by decide) ?_
        refine g_iadd F d_Mo_value_63 ?_
        refine g_goto F (tgt := 71) d_Mo_value_64 (by decide) ?_
        refine g_put F in_X13 0 rfl rfl 7 (by decide) tyX13 tyX13_ok nmX13 mw_1113 rfl rfl rfl (Nat.le_of_ble_eq_true rfl) (ws' := (Wm ad cA (u_Mo_p x16 ((q_Mo_p x16) + 1)))) rfl d_Mo_value_71 ?_
        refine g_aload_n F d_Mo_value_74 2 rfl ?_
        refine g_aload_n F d_Mo_value_75 2 rfl ?_
        refine g_get F (v := .int ((q_Mo_p x16) + 1)) in_X13 0 rfl rfl 7 (by decide) mw_1113 rfl d_Mo_value_76 ?_
        obtain ⟨x20, hx20, hf⟩ := g_bind hf
        refine g_ci F (r0 := x20) (ws' := (Wm ad cA (u_Mo_p x16 ((q_Mo_p x16) + 1)))) (fun H locs ls hP hD hS hl => g_runV F (As := [.int ((q_Mo_p x16) + 1)]) (n := 1) mw_1228 rfl rfl ⟨by decide, by decide⟩ rfl (by exact Nat.le_of_ble_eq_true rfl) mw_1225 mw_1227 mw_34 mw_85 (by decide +kernel) d_Mo_value_79 hP hD hS hl (va_recv F.2.2.2.2.2.1 hP (ci := 9) rfl (q0 := 0) rfl) (c_Mo_charAt l D cA z ad (u_Mo_p x16 ((q_Mo_p x16) + 1)) ((q_Mo_p x16) + 1) hx20 H.size)) ?_
        refine g_istore F (L' := [(4, .int x20), (3, .int 1), (2, .int x17), (0, .ref (ad 0)), (1, .int a1)]) d_Mo_value_82 (by decide) rfl ?_
        refine g_loc [3, 4, 2, 1, 0] rfl ?_
        exact blk84 FU a1 x17 1 x20 (u_Mo_p x16 ((q_Mo_p x16) + 1)) hf
  · rw [if_pos h] at hf
    refine g_aload_n F d_Mo_value_19 1 rfl ?_
    refine g_bipush F (v := 10) d_Mo_value_20 (by decide) ?_
    refine g_aload_n F d_Mo_value_22 1 rfl ?_
    refine g_get F (v := .int (q_Mo_p x16)) in_X13 0 rfl rfl 7 (by decide) mw_1113 rfl d_Mo_value_23 ?_
    obtain ⟨x21, hx21, hf⟩ := g_bind hf
    refine g_cv F (ws' := (Wm ad cA x21)) (fun H locs ls hP hD hS hl => g_runV F (As := [.int 10, .int (q_Mo_p x16)]) (n := 2) mw_1247 rfl rfl ⟨by decide, by decide⟩ rfl (by exact Nat.le_of_ble_eq_true rfl) mw_1244 mw_1246 mw_37 mw_85 (by decide +kernel) d_Mo_value_26 hP hD hS hl (va_recv F.2.2.2.2.2.1 hP (ci := 9) rfl (q0 := 0) rfl) (c_Mo_wrong l D cA z ad x16 10 (q_Mo_p x16) hx21 H.size)) ?_
    refine g_aload_n F d_Mo_value_29 1 rfl ?_
    obtain ⟨x22, hx22, hf⟩ := g_bind hf
    refine g_cv F (ws' := (Wm ad cA x22)) (fun H locs ls hP hD hS hl => g_runV F (As := []) (n := 0) mw_1364 rfl rfl ⟨by decide, by decide⟩ rfl (by exact Nat.le_of_ble_eq_true rfl) mw_1361 mw_1363 mw_61 mw_85 (by decide +kernel) d_Mo_value_30 hP hD hS hl (va_recv F.2.2.2.2.2.1 hP (ci := 9) rfl (q0 := 0) rfl) (c_Mo_finish l D cA z ad x21 hx22 H.size)) ?_
    refine g_iconst F (v := 0) d_Mo_value_33 (by decide) ?_
    cases hf
    exact g_zret F hr rfl hlk rfl rfl rfl d_Mo_value_34
