set_option maxHeartbeats 4000000 in
set_option maxRecDepth 100000 in
theorem c_Mo_write (l : Launch) (D : va_G) (cA : Nat → ClassId) (z : gZ) (ad : Nat → Nat) (sMo : SMo) {x : Int32 × SMo} (hf : f_Mo_write sMo = some x) (sz : Nat) : Met l y_Mo_write (.code y_Mo_write b_Mo_write 3 (some .int) :: lw_g) { frames := 4, cells := 0, slots := 0, locals := 90 } (gP D (gT cA) z [.ref (ad 0)] (Wo ad cA sMo) sz) (gQi D (gT cA) (va_A (Wo ad cA sMo) sz) x.1 (Wo ad cA x.2)) 0 0 (va_A (Wo ad cA sMo) sz) := by
  refine g_met (by decide) (Nat.le_of_ble_eq_true rfl) rfl ?_
  intro p e s m args below meth c F hr hlk
  have blk26 : ∀ (k7 : Int32 → SMo → Option (Int32 × SMo)), (∀ (v1 : Int32) (tMo : SMo), k7 v1 tMo = some x → GW p l e { frames := 4, cells := 0, slots := 0, locals := 90 } s m args below meth c (gQi D (gT cA) (va_A (Wo ad cA sMo) sz) x.1 (Wo ad cA x.2)) D (va_A (Wo ad cA sMo) sz) 3 (Wo ad cA tMo) 7 [(0, .ref (ad 0)), (1, .int v1)] []) → ∀ (n : Nat) (v1 : Int32) (v2 : Int32) (tMo : SMo), f_Mo_write_26 k7 n v1 v2 tMo = some x → GW p l e { frames := 4, cells := 0, slots := 0, locals := 90 } s m args below meth c (gQi D (gT cA) (va_A (Wo ad cA sMo) sz) x.1 (Wo ad cA x.2)) D (va_A (Wo ad cA sMo) sz) 3 (Wo ad cA tMo) 26 [(0, .ref (ad 0)), (1, .int v1), (2, .int v2)] [] := by
    intro k7 hk7
    intro n
    induction n with
    | zero => intro _ _ _ hf; cases hf
    | succ n ih =>
      intro v1 v2 tMo hf
      rw [f_Mo_write_26] at hf
      refine g_iload_n F d_Mo_write_26 2 rfl ?_
      refine g_aload_n F d_Mo_write_27 0 rfl ?_
      refine g_get F (v := .ref (ad 8)) in_X13 0 rfl rfl 12 (by decide) mw_1118 rfl d_Mo_write_28 ?_
      refine g_iload_n F d_Mo_write_31 1 rfl ?_
      obtain ⟨k1, hf⟩ := g_chk hf
      refine g_iald F (f := (q_Mo_sizes tMo)) 8 0 rfl rfl k1 d_Mo_write_32 ?_
      refine g_icmp_ge F (tgt := 60) d_Mo_write_33 (by decide) (fun h => ?_) (fun h => ?_)
      · rw [if_pos h] at hf
        refine g_goto F (tgt := 204) d_Mo_write_60 (by decide) ?_
        refine g_iinc F (j := 1) (v := (v1 + 1)) (L' := [(1, .int (v1 + 1)), (0, .ref (ad 0)), (2, .int v2)]) d_Mo_write_204 rfl rfl (by decide) rfl ?_
        refine g_goto F (tgt := 7) d_Mo_write_207 (by decide) ?_
        refine g_loc [1, 0] rfl ?_
        exact hk7 (v1 + 1) tMo hf
      · rw [if_neg h] at hf
        refine g_aload_n F d_Mo_write_36 0 rfl ?_
        refine g_aload_n F d_Mo_write_37 0 rfl ?_
        refine g_get F (v := .ref (ad 17)) in_X13 0 rfl rfl 23 (by decide) mw_1129 rfl d_Mo_write_38 ?_
        refine g_aload_n F d_Mo_write_41 0 rfl ?_
        refine g_get F (v := .ref (ad 7)) in_X13 0 rfl rfl 11 (by decide) mw_1117 rfl d_Mo_write_42 ?_
        refine g_iload_n F d_Mo_write_45 1 rfl ?_
        obtain ⟨k2, hf⟩ := g_chk hf
        refine g_iald F (f := (q_Mo_firsts tMo)) 7 0 rfl rfl k2 d_Mo_write_46 ?_
        refine g_iload_n F d_Mo_write_47 2 rfl ?_
        refine g_iadd F d_Mo_write_48 ?_
        obtain ⟨k3, hf⟩ := g_chk hf
        refine g_iald F (f := (q_Mo_row tMo)) 17 0 rfl rfl k3 d_Mo_write_49 ?_
        refine g_iconst F (v := 0) d_Mo_write_50 (by decide) ?_
        obtain ⟨x1, hx1, hf⟩ := g_bind hf
        refine g_cv F (ws' := (Wo ad cA x1)) (fun H locs ls hP hD hS hl => g_runV F (As := [.int ((q_Mo_row tMo) ((((q_Mo_firsts tMo) (v1 : Int32).toNatClampNeg) + v2) : Int32).toNatClampNeg), .int 0]) (n := 2) mw_1413 rfl rfl ⟨by decide, by decide⟩ rfl (by exact Nat.le_of_ble_eq_true rfl) mw_1410 mw_1412 mw_66 mw_85 (by decide +kernel) d_Mo_write_51 hP hD hS hl (va_recv F.2.2.2.2.2.1 hP (ci := 9) rfl (q0 := 0) rfl) (c_Mo_putCharacter l D cA z ad tMo ((q_Mo_row tMo) ((((q_Mo_firsts tMo) (v1 : Int32).toNatClampNeg) + v2) : Int32).toNatClampNeg) 0 hx1 H.size)) ?_
        refine g_iinc F (j := 2) (v := (v2 + 1)) (L' := [(2, .int (v2 + 1)), (0, .ref (ad 0)), (1, .int v1)]) d_Mo_write_54 rfl rfl (by decide) rfl ?_
        refine g_goto F (tgt := 26) d_Mo_write_57 (by decide) ?_
        refine g_loc [1, 2, 0] rfl ?_
        exact ih v1 (v2 + 1) x1 hf
  have blk7 : ∀ (n : Nat) (v1 : Int32) (tMo : SMo), f_Mo_write_7 n v1 tMo = some x → GW p l e { frames := 4, cells := 0, slots := 0, locals := 90 } s m args below meth c (gQi D (gT cA) (va_A (Wo ad cA sMo) sz) x.1 (Wo ad cA x.2)) D (va_A (Wo ad cA sMo) sz) 3 (Wo ad cA tMo) 7 [(0, .ref (ad 0)), (1, .int v1)] [] := by
    intro n
    induction n with
    | zero => intro _ _ hf; cases hf
    | succ n ih =>
      intro v1 tMo hf
      rw [f_Mo_write_7] at hf
      refine g_iload_n F d_Mo_write_7 1 rfl ?_
      refine g_aload_n F d_Mo_write_8 0 rfl ?_
      refine g_get F (v := .int (q_Mo_tokens tMo)) in_X13 0 rfl rfl 9 (by decide) mw_1115 rfl d_Mo_write_9 ?_
      refine g_icmp_ge F (tgt := 210) d_Mo_write_12 (by decide) (fun h => ?_) (fun h => ?_)
      · rw [if_pos h] at hf
        refine g_aload_n F d_Mo_write_210 0 rfl ?_
        refine g_get F (v := .int (q_Mo_outSize tMo)) in_X13 0 rfl rfl 29 (by decide) mw_1135 rfl d_Mo_write_211 ?_
        cases hf
        exact g_iret F hr hlk rfl rfl rfl d_Mo_write_214
      · rw [if_neg h] at hf
        refine g_aload_n F d_Mo_write_15 0 rfl ?_
        refine g_get F (v := .ref (ad 6)) in_X13 0 rfl rfl 10 (by decide) mw_1116 rfl d_Mo_write_16 ?_
        refine g_iload_n F d_Mo_write_19 1 rfl ?_
        obtain ⟨k4, hf⟩ := g_chk hf
        refine g_iald F (f := (q_Mo_kinds tMo)) 6 0 rfl rfl k4 d_Mo_write_20 ?_
        refine g_if_ne F (tgt := 63) d_Mo_write_21 (by decide) (fun h => ?_) (fun h => ?_)
        · rw [if_neg h] at hf
          refine g_aload_n F d_Mo_write_63 0 rfl ?_
          refine g_get F (v := .ref (ad 6)) in_X13 0 rfl rfl 10 (by decide) mw_1116 rfl d_Mo_write_64 ?_
          refine g_iload_n F d_Mo_write_67 1 rfl ?_
          obtain ⟨k5, hf⟩ := g_chk hf
          refine g_iald F (f := (q_Mo_kinds tMo)) 6 0 rfl rfl k5 d_Mo_write_68 ?_
          refine g_iconst F (v := 3) d_Mo_write_69 (by decide) ?_
          refine g_icmp_ne F (tgt := 106) d_Mo_write_70 (by decide) (fun h => ?_) (fun h => ?_)
          · rw [if_neg h] at hf
            refine g_aload_n F d_Mo_write_106 0 rfl ?_
            refine g_get F (v := .ref (ad 6)) in_X13 0 rfl rfl 10 (by decide) mw_1116 rfl d_Mo_write_107 ?_
            refine g_iload_n F d_Mo_write_110 1 rfl ?_
            obtain ⟨k6, hf⟩ := g_chk hf
            refine g_iald F (f := (q_Mo_kinds tMo)) 6 0 rfl rfl k6 d_Mo_write_111 ?_
            refine g_iconst F (v := 4) d_Mo_write_112 (by decide) ?_
            refine g_icmp_ne F (tgt := 199) d_Mo_write_113 (by decide) (fun h => ?_) (fun h => ?_)
            · rw [if_neg h] at hf
              refine g_aload_n F d_Mo_write_199 0 rfl ?_
              refine g_iload_n F d_Mo_write_200 1 rfl ?_
              obtain ⟨x2, hx2, hf⟩ := g_bind hf
              refine g_cv F (ws' := (Wo ad cA x2)) (fun H locs ls hP hD hS hl => g_runV F (As := [.int v1]) (n := 1) mw_1443 rfl rfl ⟨by decide, by decide⟩ rfl (by exact Nat.le_of_ble_eq_true rfl) mw_1440 mw_1442 mw_71 mw_85 (by decide +kernel) d_Mo_write_201 hP hD hS hl (va_recv F.2.2.2.2.2.1 hP (ci := 9) rfl (q0 := 0) rfl) (c_Mo_putTag l D cA z ad tMo v1 hx2 H.size)) ?_
              refine g_iinc F (j := 1) (v := (v1 + 1)) (L' := [(1, .int (v1 + 1)), (0, .ref (ad 0))]) d_Mo_write_204 rfl rfl (by decide) rfl ?_
              refine g_goto F (tgt := 7) d_Mo_write_207 (by decide) ?_
              refine g_loc [1, 0] rfl ?_
              exact ih (v1 + 1) x2 hf
            · rw [if_pos h] at hf
              refine g_aload_n F d_Mo_write_116 0 rfl ?_
              refine g_ldc2 F (v := 5789751444030890300) mw_1436 d_Mo_write_117 ?_
              obtain ⟨x3, hx3, hf⟩ := g_bind hf
              refine g_cv F (ws' := (Wo ad cA x3)) (fun H locs ls hP hD hS hl => g_runV F (As := [.long 5789751444030890300]) (n := 1) mw_1418 rfl rfl ⟨by decide, by decide⟩ rfl (by exact Nat.le_of_ble_eq_true rfl) mw_1415 mw_1417 mw_67 mw_85 (by decide +kernel) d_Mo_write_120 hP hD hS hl (va_recv F.2.2.2.2.2.1 hP (ci := 9) rfl (q0 := 0) rfl) (c_Mo_putAll l D cA z ad tMo 5789751444030890300 hx3 H.size)) ?_
              refine g_aload_n F d_Mo_write_123 0 rfl ?_
              refine g_bipush F (v := 69) d_Mo_write_124 (by decide) ?_
              obtain ⟨x4, hx4, hf⟩ := g_bind hf
              refine g_cv F (ws' := (Wo ad cA x4)) (fun H locs ls hP hD hS hl => g_runV F (As := [.int 69]) (n := 1) mw_1422 rfl rfl ⟨by decide, by decide⟩ rfl (by exact Nat.le_of_ble_eq_true rfl) mw_1419 mw_1421 mw_68 mw_85 (by decide +kernel) d_Mo_write_126 hP hD hS hl (va_recv F.2.2.2.2.2.1 hP (ci := 9) rfl (q0 := 0) rfl) (c_Mo_put l D cA z ad x3 69 hx4 H.size)) ?_
              refine g_aload_n F d_Mo_write_129 0 rfl ?_
              refine g_aload_n F d_Mo_write_130 0 rfl ?_
              refine g_get F (v := .ref (ad 8)) in_X13 0 rfl rfl 12 (by decide) mw_1118 rfl d_Mo_write_131 ?_
              refine g_iload_n F d_Mo_write_134 1 rfl ?_
              obtain ⟨k7, hf⟩ := g_chk hf
              refine g_iald F (f := (q_Mo_sizes x4)) 8 0 rfl rfl k7 d_Mo_write_135 ?_
              refine g_if_le F (tgt := 145) d_Mo_write_136 (by decide) (fun h => ?_) (fun h => ?_)
              · rw [if_pos h] at hf
                refine g_lconst F (v := 0) d_Mo_write_145 (by decide) ?_
                obtain ⟨x5, hx5, hf⟩ := g_bind hf
                refine g_cv F (ws' := (Wo ad cA x5)) (fun H locs ls hP hD hS hl => g_runV F (As := [.long 0]) (n := 1) mw_1418 rfl rfl ⟨by decide, by decide⟩ rfl (by exact Nat.le_of_ble_eq_true rfl) mw_1415 mw_1417 mw_67 mw_85 (by decide +kernel) d_Mo_write_146 hP hD hS hl (va_recv F.2.2.2.2.2.1 hP (ci := 9) rfl (q0 := 0) rfl) (c_Mo_putAll l D cA z ad x4 0 hx5 H.size)) ?_
                refine g_aload_n F d_Mo_write_149 0 rfl ?_
                refine g_aload_n F d_Mo_write_150 0 rfl ?_
                refine g_get F (v := .ref (ad 7)) in_X13 0 rfl rfl 11 (by decide) mw_1117 rfl d_Mo_write_151 ?_
                refine g_iload_n F d_Mo_write_154 1 rfl ?_
                obtain ⟨k8, hf⟩ := g_chk hf
                refine g_iald F (f := (q_Mo_firsts x5)) 7 0 rfl rfl k8 d_Mo_write_155 ?_
                refine g_aload_n F d_Mo_write_156 0 rfl ?_
                refine g_get F (v := .ref (ad 8)) in_X13 0 rfl rfl 12 (by decide) mw_1118 rfl d_Mo_write_157 ?_
                refine g_iload_n F d_Mo_write_160 1 rfl ?_
                obtain ⟨k9, hf⟩ := g_chk hf
                refine g_iald F (f := (q_Mo_sizes x5)) 8 0 rfl rfl k9 d_Mo_write_161 ?_
                obtain ⟨x6, hx6, hf⟩ := g_bind hf
                refine g_cv F (ws' := (Wo ad cA x6)) (fun H locs ls hP hD hS hl => g_runV F (As := [.int ((q_Mo_firsts x5) (v1 : Int32).toNatClampNeg), .int ((q_Mo_sizes x5) (v1 : Int32).toNatClampNeg)]) (n := 2) mw_1434 rfl rfl ⟨by decide, by decide⟩ rfl (by exact Nat.le_of_ble_eq_true rfl) mw_1431 mw_1433 mw_70 mw_85 (by decide +kernel) d_Mo_write_162 hP hD hS hl (va_recv F.2.2.2.2.2.1 hP (ci := 9) rfl (q0 := 0) rfl) (c_Mo_putRow l D cA z ad x5 ((q_Mo_firsts x5) (v1 : Int32).toNatClampNeg) ((q_Mo_sizes x5) (v1 : Int32).toNatClampNeg) hx6 H.size)) ?_
                refine g_aload_n F d_Mo_write_165 0 rfl ?_
                refine g_aload_n F d_Mo_write_166 0 rfl ?_
                refine g_get F (v := .ref (ad 8)) in_X13 0 rfl rfl 12 (by decide) mw_1118 rfl d_Mo_write_167 ?_
                refine g_iload_n F d_Mo_write_170 1 rfl ?_
                obtain ⟨k10, hf⟩ := g_chk hf
                refine g_iald F (f := (q_Mo_sizes x6)) 8 0 rfl rfl k10 d_Mo_write_171 ?_
                refine g_if_le F (tgt := 190) d_Mo_write_172 (by decide) (fun h => ?_) (fun h => ?_)
                · rw [if_pos h] at hf
                  refine g_ldc2 F (v := 62) mw_1439 d_Mo_write_190 ?_
                  obtain ⟨x7, hx7, hf⟩ := g_bind hf
                  refine g_cv F (ws' := (Wo ad cA x7)) (fun H locs ls hP hD hS hl => g_runV F (As := [.long 62]) (n := 1) mw_1418 rfl rfl ⟨by decide, by decide⟩ rfl (by exact Nat.le_of_ble_eq_true rfl) mw_1415 mw_1417 mw_67 mw_85 (by decide +kernel) d_Mo_write_193 hP hD hS hl (va_recv F.2.2.2.2.2.1 hP (ci := 9) rfl (q0 := 0) rfl) (c_Mo_putAll l D cA z ad x6 62 hx7 H.size)) ?_
                  refine g_goto F (tgt := 204) d_Mo_write_196 (by decide) ?_
                  refine g_iinc F (j := 1) (v := (v1 + 1)) (L' := [(1, .int (v1 + 1)), (0, .ref (ad 0))]) d_Mo_write_204 rfl rfl (by decide) rfl ?_
                  refine g_goto F (tgt := 7) d_Mo_write_207 (by decide) ?_
                  refine g_loc [1, 0] rfl ?_
                  exact ih (v1 + 1) x7 hf
                · rw [if_neg h] at hf
                  refine g_aload_n F d_Mo_write_175 0 rfl ?_
                  refine g_get F (v := .ref (ad 9)) in_X13 0 rfl rfl 13 (by decide) mw_1119 rfl d_Mo_write_176 ?_
                  refine g_iload_n F d_Mo_write_179 1 rfl ?_
                  obtain ⟨k11, hf⟩ := g_chk hf
                  refine g_zald F (f := (q_Mo_marks x6)) 9 3 rfl rfl k11 d_Mo_write_180 ?_
                  refine g_if_eq F (tgt := 190) d_Mo_write_181 (by decide) (fun h => ?_) (fun h => ?_)
                  · rw [if_pos h] at hf
                    refine g_ldc2 F (v := 62) mw_1439 d_Mo_write_190 ?_
                    obtain ⟨x8, hx8, hf⟩ := g_bind hf
                    refine g_cv F (ws' := (Wo ad cA x8)) (fun H locs ls hP hD hS hl => g_runV F (As := [.long 62]) (n := 1) mw_1418 rfl rfl ⟨by decide, by decide⟩ rfl (by exact Nat.le_of_ble_eq_true rfl) mw_1415 mw_1417 mw_67 mw_85 (by decide +kernel) d_Mo_write_193 hP hD hS hl (va_recv F.2.2.2.2.2.1 hP (ci := 9) rfl (q0 := 0) rfl) (c_Mo_putAll l D cA z ad x6 62 hx8 H.size)) ?_
                    refine g_goto F (tgt := 204) d_Mo_write_196 (by decide) ?_
                    refine g_iinc F (j := 1) (v := (v1 + 1)) (L' := [(1, .int (v1 + 1)), (0, .ref (ad 0))]) d_Mo_write_204 rfl rfl (by decide) rfl ?_
                    refine g_goto F (tgt := 7) d_Mo_write_207 (by decide) ?_
                    refine g_loc [1, 0] rfl ?_
                    exact ih (v1 + 1) x8 hf
                  · rw [if_neg h] at hf
                    refine g_ldc2 F (v := 4093984) mw_1438 d_Mo_write_184 ?_
                    refine g_goto F (tgt := 193) d_Mo_write_187 (by decide) ?_
                    obtain ⟨x9, hx9, hf⟩ := g_bind hf
                    refine g_cv F (ws' := (Wo ad cA x9)) (fun H locs ls hP hD hS hl => g_runV F (As := [.long 4093984]) (n := 1) mw_1418 rfl rfl ⟨by decide, by decide⟩ rfl (by exact Nat.le_of_ble_eq_true rfl) mw_1415 mw_1417 mw_67 mw_85 (by decide +kernel) d_Mo_write_193 hP hD hS hl (va_recv F.2.2.2.2.2.1 hP (ci := 9) rfl (q0 := 0) rfl) (c_Mo_putAll l D cA z ad x6 4093984 hx9 H.size)) ?_
                    refine g_goto F (tgt := 204) d_Mo_write_196 (by decide) ?_
                    refine g_iinc F (j := 1) (v := (v1 + 1)) (L' := [(1, .int (v1 + 1)), (0, .ref (ad 0))]) d_Mo_write_204 rfl rfl (by decide) rfl ?_
                    refine g_goto F (tgt := 7) d_Mo_write_207 (by decide) ?_
                    refine g_loc [1, 0] rfl ?_
                    exact ih (v1 + 1) x9 hf
              · rw [if_neg h] at hf
                refine g_ldc2 F (v := 32) mw_1437 d_Mo_write_139 ?_
                refine g_goto F (tgt := 146) d_Mo_write_142 (by decide) ?_
                obtain ⟨x10, hx10, hf⟩ := g_bind hf
                refine g_cv F (ws' := (Wo ad cA x10)) (fun H locs ls hP hD hS hl => g_runV F (As := [.long 32]) (n := 1) mw_1418 rfl rfl ⟨by decide, by decide⟩ rfl (by exact Nat.le_of_ble_eq_true rfl) mw_1415 mw_1417 mw_67 mw_85 (by decide +kernel) d_Mo_write_146 hP hD hS hl (va_recv F.2.2.2.2.2.1 hP (ci := 9) rfl (q0 := 0) rfl) (c_Mo_putAll l D cA z ad x4 32 hx10 H.size)) ?_
                refine g_aload_n F d_Mo_write_149 0 rfl ?_
                refine g_aload_n F d_Mo_write_150 0 rfl ?_
                refine g_get F (v := .ref (ad 7)) in_X13 0 rfl rfl 11 (by decide) mw_1117 rfl d_Mo_write_151 ?_
                refine g_iload_n F d_Mo_write_154 1 rfl ?_
                obtain ⟨k12, hf⟩ := g_chk hf
                refine g_iald F (f := (q_Mo_firsts x10)) 7 0 rfl rfl k12 d_Mo_write_155 ?_
                refine g_aload_n F d_Mo_write_156 0 rfl ?_
                refine g_get F (v := .ref (ad 8)) in_X13 0 rfl rfl 12 (by decide) mw_1118 rfl d_Mo_write_157 ?_
                refine g_iload_n F d_Mo_write_160 1 rfl ?_
                obtain ⟨k13, hf⟩ := g_chk hf
                refine g_iald F (f := (q_Mo_sizes x10)) 8 0 rfl rfl k13 d_Mo_write_161 ?_
                obtain ⟨x11, hx11, hf⟩ := g_bind hf
                refine g_cv F (ws' := (Wo ad cA x11)) (fun H locs ls hP hD hS hl => g_runV F (As := [.int ((q_Mo_firsts x10) (v1 : Int32).toNatClampNeg), .int ((q_Mo_sizes x10) (v1 : Int32).toNatClampNeg)]) (n := 2) mw_1434 rfl rfl ⟨by decide, by decide⟩ rfl (by exact Nat.le_of_ble_eq_true rfl) mw_1431 mw_1433 mw_70 mw_85 (by decide +kernel) d_Mo_write_162 hP hD hS hl (va_recv F.2.2.2.2.2.1 hP (ci := 9) rfl (q0 := 0) rfl) (c_Mo_putRow l D cA z ad x10 ((q_Mo_firsts x10) (v1 : Int32).toNatClampNeg) ((q_Mo_sizes x10) (v1 : Int32).toNatClampNeg) hx11 H.size)) ?_
                refine g_aload_n F d_Mo_write_165 0 rfl ?_
                refine g_aload_n F d_Mo_write_166 0 rfl ?_
                refine g_get F (v := .ref (ad 8)) in_X13 0 rfl rfl 12 (by decide) mw_1118 rfl d_Mo_write_167 ?_
                refine g_iload_n F d_Mo_write_170 1 rfl ?_
                obtain ⟨k14, hf⟩ := g_chk hf
                refine g_iald F (f := (q_Mo_sizes x11)) 8 0 rfl rfl k14 d_Mo_write_171 ?_
                refine g_if_le F (tgt := 190) d_Mo_write_172 (by decide) (fun h => ?_) (fun h => ?_)
                · rw [if_pos h] at hf
                  refine g_ldc2 F (v := 62) mw_1439 d_Mo_write_190 ?_
                  obtain ⟨x12, hx12, hf⟩ := g_bind hf
                  refine g_cv F (ws' := (Wo ad cA x12)) (fun H locs ls hP hD hS hl => g_runV F (As := [.long 62]) (n := 1) mw_1418 rfl rfl ⟨by decide, by decide⟩ rfl (by exact Nat.le_of_ble_eq_true rfl) mw_1415 mw_1417 mw_67 mw_85 (by decide +kernel) d_Mo_write_193 hP hD hS hl (va_recv F.2.2.2.2.2.1 hP (ci := 9) rfl (q0 := 0) rfl) (c_Mo_putAll l D cA z ad x11 62 hx12 H.size)) ?_
                  refine g_goto F (tgt := 204) d_Mo_write_196 (by decide) ?_
                  refine g_iinc F (j := 1) (v := (v1 + 1)) (L' := [(1, .int (v1 + 1)), (0, .ref (ad 0))]) d_Mo_write_204 rfl rfl (by decide) rfl ?_
                  refine g_goto F (tgt := 7) d_Mo_write_207 (by decide) ?_
                  refine g_loc [1, 0] rfl ?_
                  exact ih (v1 + 1) x12 hf
                · rw [if_neg h] at hf
                  refine g_aload_n F d_Mo_write_175 0 rfl ?_
                  refine g_get F (v := .ref (ad 9)) in_X13 0 rfl rfl 13 (by decide) mw_1119 rfl d_Mo_write_176 ?_
                  refine g_iload_n F d_Mo_write_179 1 rfl ?_
                  obtain ⟨k15, hf⟩ := g_chk hf
                  refine g_zald F (f := (q_Mo_marks x11)) 9 3 rfl rfl k15 d_Mo_write_180 ?_
                  refine g_if_eq F (tgt := 190) d_Mo_write_181 (by decide) (fun h => ?_) (fun h => ?_)
                  · rw [if_pos h] at hf
                    refine g_ldc2 F (v := 62) mw_1439 d_Mo_write_190 ?_
                    obtain ⟨x13, hx13, hf⟩ := g_bind hf
                    refine g_cv F (ws' := (Wo ad cA x13)) (fun H locs ls hP hD hS hl => g_runV F (As := [.long 62]) (n := 1) mw_1418 rfl rfl ⟨by decide, by decide⟩ rfl (by exact Nat.le_of_ble_eq_true rfl) mw_1415 mw_1417 mw_67 mw_85 (by decide +kernel) d_Mo_write_193 hP hD hS hl (va_recv F.2.2.2.2.2.1 hP (ci := 9) rfl (q0 := 0) rfl) (c_Mo_putAll l D cA z ad x11 62 hx13 H.size)) ?_
                    refine g_goto F (tgt := 204) d_Mo_write_196 (by decide) ?_
                    refine g_iinc F (j := 1) (v := (v1 + 1)) (L' := [(1, .int (v1 + 1)), (0, .ref (ad 0))]) d_Mo_write_204 rfl rfl (by decide) rfl ?_
                    refine g_goto F (tgt := 7) d_Mo_write_207 (by decide) ?_
                    refine g_loc [1, 0] rfl ?_
                    exact ih (v1 + 1) x13 hf
                  · rw [if_neg h] at hf
                    refine g_ldc2 F (v := 4093984) mw_1438 d_Mo_write_184 ?_
                    refine g_goto F (tgt := 193) d_Mo_write_187 (by decide) ?_
                    obtain ⟨x14, hx14, hf⟩ := g_bind hf
                    refine g_cv F (ws' := (Wo ad cA x14)) (fun H locs ls hP hD hS hl => g_runV F (As := [.long 4093984]) (n := 1) mw_1418 rfl rfl ⟨by decide, by decide⟩ rfl (by exact Nat.le_of_ble_eq_true rfl) mw_1415 mw_1417 mw_67 mw_85 (by decide +kernel) d_Mo_write_193 hP hD hS hl (va_recv F.2.2.2.2.2.1 hP (ci := 9) rfl (q0 := 0) rfl) (c_Mo_putAll l D cA z ad x11 4093984 hx14 H.size)) ?_
                    refine g_goto F (tgt := 204) d_Mo_write_196 (by decide) ?_
                    refine g_iinc F (j := 1) (v := (v1 + 1)) (L' := [(1, .int (v1 + 1)), (0, .ref (ad 0))]) d_Mo_write_204 rfl rfl (by decide) rfl ?_
                    refine g_goto F (tgt := 7) d_Mo_write_207 (by decide) ?_
                    refine g_loc [1, 0] rfl ?_
                    exact ih (v1 + 1) x14 hf
          · rw [if_pos h] at hf
            refine g_aload_n F d_Mo_write_73 0 rfl ?_
            refine g_ldc2 F (v := 757932348) mw_1430 d_Mo_write_74 ?_
            obtain ⟨x15, hx15, hf⟩ := g_bind hf
            refine g_cv F (ws' := (Wo ad cA x15)) (fun H locs ls hP hD hS hl => g_runV F (As := [.long 757932348]) (n := 1) mw_1418 rfl rfl ⟨by decide, by decide⟩ rfl (by exact Nat.le_of_ble_eq_true rfl) mw_1415 mw_1417 mw_67 mw_85 (by decide +kernel) d_Mo_write_77 hP hD hS hl (va_recv F.2.2.2.2.2.1 hP (ci := 9) rfl (q0 := 0) rfl) (c_Mo_putAll l D cA z ad tMo 757932348 hx15 H.size)) ?_
            refine g_aload_n F d_Mo_write_80 0 rfl ?_
            refine g_aload_n F d_Mo_write_81 0 rfl ?_
            refine g_get F (v := .ref (ad 7)) in_X13 0 rfl rfl 11 (by decide) mw_1117 rfl d_Mo_write_82 ?_
            refine g_iload_n F d_Mo_write_85 1 rfl ?_
            obtain ⟨k16, hf⟩ := g_chk hf
            refine g_iald F (f := (q_Mo_firsts x15)) 7 0 rfl rfl k16 d_Mo_write_86 ?_
            refine g_aload_n F d_Mo_write_87 0 rfl ?_
            refine g_get F (v := .ref (ad 8)) in_X13 0 rfl rfl 12 (by decide) mw_1118 rfl d_Mo_write_88 ?_
            refine g_iload_n F d_Mo_write_91 1 rfl ?_
            obtain ⟨k17, hf⟩ := g_chk hf
            refine g_iald F (f := (q_Mo_sizes x15)) 8 0 rfl rfl k17 d_Mo_write_92 ?_
            obtain ⟨x16, hx16, hf⟩ := g_bind hf
            refine g_cv F (ws' := (Wo ad cA x16)) (fun H locs ls hP hD hS hl => g_runV F (As := [.int ((q_Mo_firsts x15) (v1 : Int32).toNatClampNeg), .int ((q_Mo_sizes x15) (v1 : Int32).toNatClampNeg)]) (n := 2) mw_1434 rfl rfl ⟨by decide, by decide⟩ rfl (by exact Nat.le_of_ble_eq_true rfl) mw_1431 mw_1433 mw_70 mw_85 (by decide +kernel) d_Mo_write_93 hP hD hS hl (va_recv F.2.2.2.2.2.1 hP (ci := 9) rfl (q0 := 0) rfl) (c_Mo_putRow l D cA z ad x15 ((q_Mo_firsts x15) (v1 : Int32).toNatClampNeg) ((q_Mo_sizes x15) (v1 : Int32).toNatClampNeg) hx16 H.size)) ?_
            refine g_aload_n F d_Mo_write_96 0 rfl ?_
            refine g_ldc2 F (v := 4074797) mw_1435 d_Mo_write_97 ?_
            obtain ⟨x17, hx17, hf⟩ := g_bind hf
            refine g_cv F (ws' := (Wo ad cA x17)) (fun H locs ls hP hD hS hl => g_runV F (As := [.long 4074797]) (n := 1) mw_1418 rfl rfl ⟨by decide, by decide⟩ rfl (by exact Nat.le_of_ble_eq_true rfl) mw_1415 mw_1417 mw_67 mw_85 (by decide +kernel) d_Mo_write_100 hP hD hS hl (va_recv F.2.2.2.2.2.1 hP (ci := 9) rfl (q0 := 0) rfl) (c_Mo_putAll l D cA z ad x16 4074797 hx17 H.size)) ?_
            refine g_goto F (tgt := 204) d_Mo_write_103 (by decide) ?_
            refine g_iinc F (j := 1) (v := (v1 + 1)) (L' := [(1, .int (v1 + 1)), (0, .ref (ad 0))]) d_Mo_write_204 rfl rfl (by decide) rfl ?_
            refine g_goto F (tgt := 7) d_Mo_write_207 (by decide) ?_
            refine g_loc [1, 0] rfl ?_
            exact ih (v1 + 1) x17 hf
        · rw [if_pos h] at hf
          refine g_iconst F (v := 0) d_Mo_write_24 (by decide) ?_
          refine g_istore_n F (L' := [(2, .int 0), (0, .ref (ad 0)), (1, .int v1)]) d_Mo_write_25 rfl (by decide) rfl ?_
          refine g_loc [1, 2, 0] rfl ?_
          exact blk26 _ (fun v1 tMo h => ih v1 tMo h) FU v1 0 tMo hf
  unfold f_Mo_write at hf
  refine g_aload_n F d_Mo_write_0 0 rfl ?_
  refine g_iconst F (v := 0) d_Mo_write_1 (by decide) ?_
  refine g_put F in_X13 0 rfl rfl 29 (by decide) tyX13 tyX13_ok nmX13 mw_1135 rfl rfl rfl (Nat.le_of_ble_eq_true rfl) (ws' := (Wn ad cA (q_Mo_names sMo) (q_Mo_gives sMo) (q_Mo_turned sMo) (q_Mo_size sMo) (q_Mo_bytes sMo) (q_Mo_n sMo) (q_Mo_text sMo) (q_Mo_p sMo) (q_Mo_ended sMo) (q_Mo_tokens sMo) (q_Mo_kinds sMo) (q_Mo_firsts sMo) (q_Mo_sizes sMo) (q_Mo_marks sMo) (q_Mo_attributes sMo) (q_Mo_manyOf sMo) (q_Mo_attributeCount sMo) (q_Mo_nameAt sMo) (q_Mo_nameSize sMo) (q_Mo_valueAt sMo) (q_Mo_valueSize sMo) (q_Mo_goes sMo) (q_Mo_rowSize sMo) (q_Mo_row sMo) (q_Mo_textAt sMo) (q_Mo_textSize sMo) (q_Mo_faultCount sMo) (q_Mo_codes sMo) (q_Mo_places sMo) 0 (q_Mo_out sMo) (q_Mo_which sMo))) rfl d_Mo_write_2 ?_
  refine g_iconst F (v := 0) d_Mo_write_5 (by decide) ?_
  refine g_istore_n F (L' := [(1, .int 0), (0, .ref (ad 0))]) d_Mo_write_6 rfl (by decide) rfl ?_
  refine g_loc [1, 0] rfl ?_
  exact blk7 FU 0 (u_Mo_outSize sMo 0) hf
set_option maxHeartbeats 4000000 in
set_option maxRecDepth 100000 in
theorem c_Mo_word (l : Launch) (D : va_G) (cA : Nat → ClassId) (z : gZ) (ad : Nat → Nat) (sMo : SMo) (a1 : Int32) {x : Int64} (hf : f_Mo_word a1 sMo = some x) (sz : Nat) : Met l y_Mo_word (.code y_Mo_word b_Mo_word 5 (some .long) :: lw_g) { frames := 0, cells := 0, slots := 0, locals := 0 } (gP D (gT cA) z [.ref (ad 0), .int a1] (Wo ad cA sMo) sz) (gQl D (gT cA) (va_A (Wo ad cA sMo) sz) x (Wo ad cA sMo)) 0 0 (va_A (Wo ad cA sMo) sz) := by
  refine g_met (by decide) (Nat.le_of_ble_eq_true rfl) rfl ?_
  intro p e s m args below meth c F hr hlk
  have blk6 : ∀ (n : Nat) (v1 : Int32) (v2 : Int64) (v4 : Int32), f_Mo_word_6 n v1 v2 v4 sMo = some x → GW p l e { frames := 0, cells := 0, slots := 0, locals := 0 } s m args below meth c (gQl D (gT cA) (va_A (Wo ad cA sMo) sz) x (Wo ad cA sMo)) D (va_A (Wo ad cA sMo) sz) 5 (Wo ad cA sMo) 6 [(0, .ref (ad 0)), (1, .int v1), (2, .long v2), (4, .int v4)] [] := by
    intro n
    induction n with
    | zero => intro _ _ _ hf; cases hf
    | succ n ih =>
      intro v1 v2 v4 hf
      rw [f_Mo_word_6] at hf
      refine g_iload F d_Mo_word_6 3 rfl ?_
      refine g_if_lt F (tgt := 69) d_Mo_word_8 (by decide) (fun h => ?_) (fun h => ?_)
      · rw [if_pos h] at hf
        refine g_lload_n F d_Mo_word_69 2 rfl ?_
        cases hf
        exact g_lret F hr hlk rfl rfl rfl d_Mo_word_70
      · rw [if_neg h] at hf
        refine g_iload_n F d_Mo_word_11 1 rfl ?_
        refine g_if_lt F (tgt := 69) d_Mo_word_12 (by decide) (fun h => ?_) (fun h => ?_)
        · rw [if_pos h] at hf
          refine g_lload_n F d_Mo_word_69 2 rfl ?_
          cases hf
          exact g_lret F hr hlk rfl rfl rfl d_Mo_word_70
        · rw [if_neg h] at hf
          refine g_iload_n F d_Mo_word_15 1 rfl ?_
          refine g_sipush F (v := 500) d_Mo_word_16 (by decide) ?_
          refine g_icmp_ge F (tgt := 69) d_Mo_word_19 (by decide) (fun h => ?_) (fun h => ?_)
          · rw [if_pos h] at hf
            refine g_lload_n F d_Mo_word_69 2 rfl ?_
            cases hf
            exact g_lret F hr hlk rfl rfl rfl d_Mo_word_70
          · rw [if_neg h] at hf
            refine g_lload_n F d_Mo_word_22 2 rfl ?_
            refine g_bipush F (v := 8) d_Mo_word_23 (by decide) ?_
            refine g_lshl F d_Mo_word_25 ?_
            refine g_bipush F (v := 8) d_Mo_word_26 (by decide) ?_
            refine g_iload_n F d_Mo_word_28 1 rfl ?_
            refine g_imul F d_Mo_word_29 ?_
            refine g_iload F d_Mo_word_30 3 rfl ?_
            refine g_iadd F d_Mo_word_32 ?_
            refine g_aload_n F d_Mo_word_33 0 rfl ?_
            refine g_get F (v := .int (q_Mo_outSize sMo)) in_X13 0 rfl rfl 29 (by decide) mw_1135 rfl d_Mo_word_34 ?_
            refine g_icmp_ge F (tgt := 59) d_Mo_word_37 (by decide) (fun h => ?_) (fun h => ?_)
            · rw [if_pos h] at hf
              refine g_iconst F (v := 0) d_Mo_word_59 (by decide) ?_
              refine g_i2l F d_Mo_word_60 ?_
              refine g_lor F d_Mo_word_61 ?_
              refine g_lstore_n F (L' := [(2, .long ((v2 <<< ((8 : Int32).toInt64 &&& 63)) ||| (0 : Int32).toInt64)), (0, .ref (ad 0)), (1, .int v1), (4, .int v4)]) d_Mo_word_62 rfl (by decide) rfl ?_
              refine g_iinc F (j := 3) (v := (v4 + (-1))) (L' := [(4, .int (v4 + (-1))), (2, .long ((v2 <<< ((8 : Int32).toInt64 &&& 63)) ||| (0 : Int32).toInt64)), (0, .ref (ad 0)), (1, .int v1)]) d_Mo_word_63 rfl rfl (by decide) rfl ?_
              refine g_goto F (tgt := 6) d_Mo_word_66 (by decide) ?_
              refine g_loc [2, 3, 1, 0] rfl ?_
              exact ih v1 ((v2 <<< ((8 : Int32).toInt64 &&& 63)) ||| (0 : Int32).toInt64) (v4 + (-1)) hf
            · rw [if_neg h] at hf
              refine g_aload_n F d_Mo_word_40 0 rfl ?_
              refine g_get F (v := .ref (ad 20)) in_X13 0 rfl rfl 30 (by decide) mw_1136 rfl d_Mo_word_41 ?_
              refine g_bipush F (v := 8) d_Mo_word_44 (by decide) ?_
              refine g_iload_n F d_Mo_word_46 1 rfl ?_
              refine g_imul F d_Mo_word_47 ?_
              refine g_iload F d_Mo_word_48 3 rfl ?_
              refine g_iadd F d_Mo_word_50 ?_
              obtain ⟨k1, hf⟩ := g_chk hf
              refine g_bald F (f := (q_Mo_out sMo)) 20 1 rfl rfl k1 d_Mo_word_51 ?_
              refine g_sipush F (v := 255) d_Mo_word_52 (by decide) ?_
              refine g_iand F d_Mo_word_55 ?_
              refine g_goto F (tgt := 60) d_Mo_word_56 (by decide) ?_
              refine g_i2l F d_Mo_word_60 ?_
              refine g_lor F d_Mo_word_61 ?_
              refine g_lstore_n F (L' := [(2, .long ((v2 <<< ((8 : Int32).toInt64 &&& 63)) ||| ((((q_Mo_out sMo) (((8 * v1) + v4) : Int32).toNatClampNeg) &&& 255) : Int32).toInt64)), (0, .ref (ad 0)), (1, .int v1), (4, .int v4)]) d_Mo_word_62 rfl (by decide) rfl ?_
              refine g_iinc F (j := 3) (v := (v4 + (-1))) (L' := [(4, .int (v4 + (-1))), (2, .long ((v2 <<< ((8 : Int32).toInt64 &&& 63)) ||| ((((q_Mo_out sMo) (((8 * v1) + v4) : Int32).toNatClampNeg) &&& 255) : Int32).toInt64)), (0, .ref (ad 0)), (1, .int v1)]) d_Mo_word_63 rfl rfl (by decide) rfl ?_
              refine g_goto F (tgt := 6) d_Mo_word_66 (by decide) ?_
              refine g_loc [2, 3, 1, 0] rfl ?_
              exact ih v1 ((v2 <<< ((8 : Int32).toInt64 &&& 63)) ||| ((((q_Mo_out sMo) (((8 * v1) + v4) : Int32).toNatClampNeg) &&& 255) : Int32).toInt64) (v4 + (-1)) hf
  unfold f_Mo_word at hf
  refine g_lconst F (v := 0) d_Mo_word_0 (by decide) ?_
  refine g_lstore_n F (L' := [(2, .long 0), (0, .ref (ad 0)), (1, .int a1)]) d_Mo_word_1 rfl (by decide) rfl ?_
  refine g_bipush F (v := 7) d_Mo_word_2 (by decide) ?_
  refine g_istore F (L' := [(4, .int 7), (2, .long 0), (0, .ref (ad 0)), (1, .int a1)]) d_Mo_word_4 (by decide) rfl ?_
  refine g_loc [2, 3, 1, 0] rfl ?_
  exact blk6 FU a1 0 7 hf
