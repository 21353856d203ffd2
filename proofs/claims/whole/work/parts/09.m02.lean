set_option maxHeartbeats 4000000 in
set_option maxRecDepth 100000 in
theorem c_Mo_digitOf (l : Launch) (D : va_G) (cA : Nat → ClassId) (z : gZ) (ad : Nat → Nat) (sMo : SMo) (a1 : Int32) {x : Int32} (hf : f_Mo_digitOf a1 = x) (sz : Nat) : Met l y_Mo_digitOf (.code y_Mo_digitOf b_Mo_digitOf 1 (some .int) :: lw_g) { frames := 1, cells := 0, slots := 0, locals := 20 } (gP D (gT cA) z [.int a1] (Wm ad cA sMo) sz) (gQi D (gT cA) (va_A (Wm ad cA sMo) sz) x (Wm ad cA sMo)) 0 0 (va_A (Wm ad cA sMo) sz) := by
  refine g_met (by decide) (Nat.le_of_ble_eq_true rfl) rfl ?_
  intro p e s m args below meth c F hr hlk
  unfold f_Mo_digitOf at hf
  refine g_iload_n F d_Mo_digitOf_0 0 rfl ?_
  refine g_ci F (r0 := (f_Mo_isDigit a1)) (ws' := (Wm ad cA sMo)) (fun H locs ls hP hD hS hl => g_runS F (As := [.int a1]) (n := 1) mw_1242 rfl rfl ⟨by decide, by decide⟩ rfl (by exact Nat.le_of_ble_eq_true rfl) mw_1240 mw_1241 mw_85 (by decide +kernel) d_Mo_digitOf_1 hP hD hS hl (c_Mo_isDigit l D cA z ad sMo a1 rfl H.size)) ?_
  refine g_if_eq F (tgt := 14) d_Mo_digitOf_4 (by decide) (fun h => ?_) (fun h => ?_)
  · rw [if_pos h] at hf
    refine g_iload_n F d_Mo_digitOf_14 0 rfl ?_
    refine g_bipush F (v := 65) d_Mo_digitOf_15 (by decide) ?_
    refine g_icmp_lt F (tgt := 33) d_Mo_digitOf_17 (by decide) (fun h => ?_) (fun h => ?_)
    · rw [if_pos h] at hf
      refine g_iload_n F d_Mo_digitOf_33 0 rfl ?_
      refine g_bipush F (v := 97) d_Mo_digitOf_34 (by decide) ?_
      refine g_icmp_lt F (tgt := 52) d_Mo_digitOf_36 (by decide) (fun h => ?_) (fun h => ?_)
      · rw [if_pos h] at hf
        refine g_bipush F (v := 99) d_Mo_digitOf_52 (by decide) ?_
        subst hf
        exact g_iret F hr hlk rfl rfl rfl d_Mo_digitOf_54
      · rw [if_neg h] at hf
        refine g_iload_n F d_Mo_digitOf_39 0 rfl ?_
        refine g_bipush F (v := 102) d_Mo_digitOf_40 (by decide) ?_
        refine g_icmp_gt F (tgt := 52) d_Mo_digitOf_42 (by decide) (fun h => ?_) (fun h => ?_)
        · rw [if_pos h] at hf
          refine g_bipush F (v := 99) d_Mo_digitOf_52 (by decide) ?_
          subst hf
          exact g_iret F hr hlk rfl rfl rfl d_Mo_digitOf_54
        · rw [if_neg h] at hf
          refine g_iload_n F d_Mo_digitOf_45 0 rfl ?_
          refine g_bipush F (v := 87) d_Mo_digitOf_46 (by decide) ?_
          refine g_isub F d_Mo_digitOf_48 ?_
          refine g_goto F (tgt := 54) d_Mo_digitOf_49 (by decide) ?_
          subst hf
          exact g_iret F hr hlk rfl rfl rfl d_Mo_digitOf_54
    · rw [if_neg h] at hf
      refine g_iload_n F d_Mo_digitOf_20 0 rfl ?_
      refine g_bipush F (v := 70) d_Mo_digitOf_21 (by decide) ?_
      refine g_icmp_gt F (tgt := 33) d_Mo_digitOf_23 (by decide) (fun h => ?_) (fun h => ?_)
      · rw [if_pos h] at hf
        refine g_iload_n F d_Mo_digitOf_33 0 rfl ?_
        refine g_bipush F (v := 97) d_Mo_digitOf_34 (by decide) ?_
        refine g_icmp_lt F (tgt := 52) d_Mo_digitOf_36 (by decide) (fun h => ?_) (fun h => ?_)
        · rw [if_pos h] at hf
          refine g_bipush F (v := 99) d_Mo_digitOf_52 (by decide) ?_
          subst hf
          exact g_iret F hr hlk rfl rfl rfl d_Mo_digitOf_54
        · rw [if_neg h] at hf
          refine g_iload_n F d_Mo_digitOf_39 0 rfl ?_
          refine g_bipush F (v := 102) d_Mo_digitOf_40 (by decide) ?_
          refine g_icmp_gt F (tgt := 52) d_Mo_digitOf_42 (by decide) (fun h => ?_) (fun h => ?_)
          · rw [if_pos h] at hf
            refine g_bipush F (v := 99) d_Mo_digitOf_52 (by decide) ?_
            subst hf
            exact g_iret F hr hlk rfl rfl rfl d_Mo_digitOf_54
          · rw [if_neg h] at hf
            refine g_iload_n F d_Mo_digitOf_45 0 rfl ?_
            refine g_bipush F (v := 87) d_Mo_digitOf_46 (by decide) ?_
            refine g_isub F d_Mo_digitOf_48 ?_
            refine g_goto F (tgt := 54) d_Mo_digitOf_49 (by decide) ?_
            subst hf
            exact g_iret F hr hlk rfl rfl rfl d_Mo_digitOf_54
      · rw [if_neg h] at hf
        refine g_iload_n F d_Mo_digitOf_26 0 rfl ?_
        refine g_bipush F (v := 55) d_Mo_digitOf_27 (by decide) ?_
        refine g_isub F d_Mo_digitOf_29 ?_
        refine g_goto F (tgt := 54) d_Mo_digitOf_30 (by decide) ?_
        subst hf
        exact g_iret F hr hlk rfl rfl rfl d_Mo_digitOf_54
  · rw [if_neg h] at hf
    refine g_iload_n F d_Mo_digitOf_7 0 rfl ?_
    refine g_bipush F (v := 48) d_Mo_digitOf_8 (by decide) ?_
    refine g_isub F d_Mo_digitOf_10 ?_
    refine g_goto F (tgt := 54) d_Mo_digitOf_11 (by decide) ?_
    subst hf
    exact g_iret F hr hlk rfl rfl rfl d_Mo_digitOf_54
set_option maxHeartbeats 4000000 in
set_option maxRecDepth 100000 in
theorem c_Mo_give (l : Launch) (D : va_G) (cA : Nat → ClassId) (z : gZ) (ad : Nat → Nat) (sMo : SMo) (a1 : Int32) (a2 : Int32) {x : SMo} (hf : f_Mo_give a1 a2 sMo = some x) (sz : Nat) : Met l y_Mo_give (.code y_Mo_give b_Mo_give 3 none :: lw_g) { frames := 2, cells := 0, slots := 0, locals := 42 } (gP D (gT cA) z [.ref (ad 0), .int a1, .int a2] (Wm ad cA sMo) sz) (gQv D (gT cA) (va_A (Wm ad cA sMo) sz) (Wm ad cA x)) 0 0 (va_A (Wm ad cA sMo) sz) := by
  refine g_met (by decide) (Nat.le_of_ble_eq_true rfl) rfl ?_
  intro p e s m args below meth c F hr hlk
  unfold f_Mo_give at hf
  refine g_iload_n F d_Mo_give_0 2 rfl ?_
  refine g_if_eq F (tgt := 12) d_Mo_give_1 (by decide) (fun h => ?_) (fun h => ?_)
  · rw [if_pos h] at hf
    refine g_aload_n F d_Mo_give_12 0 rfl ?_
    refine g_iload_n F d_Mo_give_13 1 rfl ?_
    obtain ⟨x1, hx1, hf⟩ := g_bind hf
    refine g_cv F (ws' := (Wm ad cA x1)) (fun H locs ls hP hD hS hl => g_runV F (As := [.int a1]) (n := 1) mw_1263 rfl rfl ⟨by decide, by decide⟩ rfl (by exact Nat.le_of_ble_eq_true rfl) mw_1260 mw_1262 mw_41 mw_85 (by decide +kernel) d_Mo_give_14 hP hD hS hl (va_recv F.2.2.2.2.2.1 hP (ci := 9) rfl (q0 := 0) rfl) (c_Mo_toText l D cA z ad sMo a1 hx1 H.size)) ?_
    cases hf
    exact g_vret F hr hlk rfl rfl d_Mo_give_17
  · rw [if_neg h] at hf
    refine g_aload_n F d_Mo_give_4 0 rfl ?_
    refine g_iload_n F d_Mo_give_5 1 rfl ?_
    obtain ⟨x2, hx2, hf⟩ := g_bind hf
    refine g_cv F (ws' := (Wm ad cA x2)) (fun H locs ls hP hD hS hl => g_runV F (As := [.int a1]) (n := 1) mw_1259 rfl rfl ⟨by decide, by decide⟩ rfl (by exact Nat.le_of_ble_eq_true rfl) mw_1256 mw_1258 mw_40 mw_85 (by decide +kernel) d_Mo_give_6 hP hD hS hl (va_recv F.2.2.2.2.2.1 hP (ci := 9) rfl (q0 := 0) rfl) (c_Mo_keep l D cA z ad sMo a1 hx2 H.size)) ?_
    refine g_goto F (tgt := 17) d_Mo_give_9 (by decide) ?_
    cases hf
    exact g_vret F hr hlk rfl rfl d_Mo_give_17
set_option maxHeartbeats 4000000 in
set_option maxRecDepth 100000 in
theorem c_Mo_giveAll (l : Launch) (D : va_G) (cA : Nat → ClassId) (z : gZ) (ad : Nat → Nat) (sMo : SMo) (a1 : Int32) (a2 : Int32) {x : SMo} (hf : f_Mo_giveAll a1 a2 sMo = some x) (sz : Nat) : Met l y_Mo_giveAll (.code y_Mo_giveAll b_Mo_giveAll 4 none :: lw_g) { frames := 3, cells := 0, slots := 0, locals := 64 } (gP D (gT cA) z [.ref (ad 0), .int a1, .int a2] (Wm ad cA sMo) sz) (gQv D (gT cA) (va_A (Wm ad cA sMo) sz) (Wm ad cA x)) 0 0 (va_A (Wm ad cA sMo) sz) := by
  refine g_met (by decide) (Nat.le_of_ble_eq_true rfl) rfl ?_
  intro p e s m args below meth c F hr hlk
  have blk2 : ∀ (n : Nat) (v1 : Int32) (v2 : Int32) (v3 : Int32) (tMo : SMo), f_Mo_giveAll_2 n v1 v2 v3 tMo = some x → GW p l e { frames := 3, cells := 0, slots := 0, locals := 64 } s m args below meth c (gQv D (gT cA) (va_A (Wm ad cA sMo) sz) (Wm ad cA x)) D (va_A (Wm ad cA sMo) sz) 4 (Wm ad cA tMo) 2 [(0, .ref (ad 0)), (1, .int v1), (2, .int v2), (3, .int v3)] [] := by
    intro n
    induction n with
    | zero => intro _ _ _ _ hf; cases hf
    | succ n ih =>
      intro v1 v2 v3 tMo hf
      rw [f_Mo_giveAll_2] at hf
      refine g_iload_n F d_Mo_giveAll_2 3 rfl ?_
      refine g_aload_n F d_Mo_giveAll_3 0 rfl ?_
      refine g_get F (v := .int (q_Mo_p tMo)) in_X13 0 rfl rfl 7 (by decide) mw_1113 rfl d_Mo_giveAll_4 ?_
      refine g_icmp_ge F (tgt := 26) d_Mo_giveAll_7 (by decide) (fun h => ?_) (fun h => ?_)
      · rw [if_pos h] at hf
        cases hf
        exact g_vret F hr hlk rfl rfl d_Mo_giveAll_26
      · rw [if_neg h] at hf
        refine g_aload_n F d_Mo_giveAll_10 0 rfl ?_
        refine g_aload_n F d_Mo_giveAll_11 0 rfl ?_
        refine g_iload_n F d_Mo_giveAll_12 3 rfl ?_
        obtain ⟨x1, hx1, hf⟩ := g_bind hf
        refine g_ci F (r0 := x1) (ws' := (Wm ad cA tMo)) (fun H locs ls hP hD hS hl => g_runV F (As := [.int v3]) (n := 1) mw_1228 rfl rfl ⟨by decide, by decide⟩ rfl (by exact Nat.le_of_ble_eq_true rfl) mw_1225 mw_1227 mw_34 mw_85 (by decide +kernel) d_Mo_giveAll_13 hP hD hS hl (va_recv F.2.2.2.2.2.1 hP (ci := 9) rfl (q0 := 0) rfl) (c_Mo_charAt l D cA z ad tMo v3 hx1 H.size)) ?_
        refine g_iload_n F d_Mo_giveAll_16 2 rfl ?_
        obtain ⟨x2, hx2, hf⟩ := g_bind hf
        refine g_cv F (ws' := (Wm ad cA x2)) (fun H locs ls hP hD hS hl => g_runV F (As := [.int x1, .int v2]) (n := 2) mw_1255 rfl rfl ⟨by decide, by decide⟩ rfl (by exact Nat.le_of_ble_eq_true rfl) mw_1252 mw_1254 mw_39 mw_85 (by decide +kernel) d_Mo_giveAll_17 hP hD hS hl (va_recv F.2.2.2.2.2.1 hP (ci := 9) rfl (q0 := 0) rfl) (c_Mo_give l D cA z ad tMo x1 v2 hx2 H.size)) ?_
        refine g_iinc F (j := 3) (v := (v3 + 1)) (L' := [(3, .int (v3 + 1)), (0, .ref (ad 0)), (1, .int v1), (2, .int v2)]) d_Mo_giveAll_20 rfl rfl (by decide) rfl ?_
        refine g_goto F (tgt := 2) d_Mo_giveAll_23 (by decide) ?_
        refine g_loc [1, 2, 3, 0] rfl ?_
        exact ih v1 v2 (v3 + 1) x2 hf
  unfold f_Mo_giveAll at hf
  refine g_iload_n F d_Mo_giveAll_0 1 rfl ?_
  refine g_istore_n F (L' := [(3, .int a1), (0, .ref (ad 0)), (1, .int a1), (2, .int a2)]) d_Mo_giveAll_1 rfl (by decide) rfl ?_
  refine g_loc [1, 2, 3, 0] rfl ?_
  exact blk2 FU a1 a2 a1 sMo hf
set_option maxHeartbeats 4000000 in
set_option maxRecDepth 100000 in
theorem c_Mo_told (l : Launch) (D : va_G) (cA : Nat → ClassId) (z : gZ) (ad : Nat → Nat) (sMo : SMo) (a1 : Int32) {x : Int32 × SMo} (hf : f_Mo_told a1 sMo = some x) (sz : Nat) : Met l y_Mo_told (.code y_Mo_told b_Mo_told 3 (some .int) :: lw_g) { frames := 1, cells := 0, slots := 0, locals := 22 } (gP D (gT cA) z [.ref (ad 0), .int a1] (Wm ad cA sMo) sz) (gQi D (gT cA) (va_A (Wm ad cA sMo) sz) x.1 (Wm ad cA x.2)) 0 0 (va_A (Wm ad cA sMo) sz) := by
  refine g_met (by decide) (Nat.le_of_ble_eq_true rfl) rfl ?_
  intro p e s m args below meth c F hr hlk
  have blk133 : ∀ (v1 : Int32) (tMo : SMo), f_Mo_told_133 v1 tMo = some x → GW p l e { frames := 1, cells := 0, slots := 0, locals := 22 } s m args below meth c (gQi D (gT cA) (va_A (Wm ad cA sMo) sz) x.1 (Wm ad cA x.2)) D (va_A (Wm ad cA sMo) sz) 3 (Wm ad cA tMo) 133 [(0, .ref (ad 0)), (1, .int v1)] [] := by
    intro v1 tMo hf
    unfold f_Mo_told_133 at hf
    refine g_aload_n F d_Mo_told_133 0 rfl ?_
    refine g_bipush F (v := 32) d_Mo_told_134 (by decide) ?_
    refine g_aload_n F d_Mo_told_136 0 rfl ?_
    refine g_get F (v := .int (q_Mo_p tMo)) in_X13 0 rfl rfl 7 (by decide) mw_1113 rfl d_Mo_told_137 ?_
    obtain ⟨x1, hx1, hf⟩ := g_bind hf
    refine g_cv F (ws' := (Wm ad cA x1)) (fun H locs ls hP hD hS hl => g_runV F (As := [.int 32, .int (q_Mo_p tMo)]) (n := 2) mw_1247 rfl rfl ⟨by decide, by decide⟩ rfl (by exact Nat.le_of_ble_eq_true rfl) mw_1244 mw_1246 mw_37 mw_85 (by decide +kernel) d_Mo_told_140 hP hD hS hl (va_recv F.2.2.2.2.2.1 hP (ci := 9) rfl (q0 := 0) rfl) (c_Mo_wrong l D cA z ad tMo 32 (q_Mo_p tMo) hx1 H.size)) ?_
    refine g_iload_n F d_Mo_told_143 1 rfl ?_
    refine g_sipush F (v := 128) d_Mo_told_144 (by decide) ?_
    refine g_icmp_lt F (tgt := 170) d_Mo_told_147 (by decide) (fun h => ?_) (fun h => ?_)
    · rw [if_pos h] at hf
      refine g_iconst F (v := 0) d_Mo_told_170 (by decide) ?_
      refine g_istore_n F (L' := [(2, .int 0), (0, .ref (ad 0)), (1, .int v1)]) d_Mo_told_171 rfl (by decide) rfl ?_
      refine g_iload_n F d_Mo_told_172 0 rfl ?_
      refine g_if_le F (tgt := 180) d_Mo_told_173 (by decide) (fun _ => ?_) (fun h => absurd h (by decide))
      refine g_iload_n F d_Mo_told_180 2 rfl ?_
      cases hf
      exact g_iret F hr hlk rfl rfl rfl d_Mo_told_181
    · rw [if_neg h] at hf
      refine g_iload_n F d_Mo_told_150 1 rfl ?_
      refine g_sipush F (v := 159) d_Mo_told_151 (by decide) ?_
      refine g_icmp_gt F (tgt := 170) d_Mo_told_154 (by decide) (fun h => ?_) (fun h => ?_)
      · rw [if_pos h] at hf
        refine g_iconst F (v := 0) d_Mo_told_170 (by decide) ?_
        refine g_istore_n F (L' := [(2, .int 0), (0, .ref (ad 0)), (1, .int v1)]) d_Mo_told_171 rfl (by decide) rfl ?_
        refine g_iload_n F d_Mo_told_172 0 rfl ?_
        refine g_if_le F (tgt := 180) d_Mo_told_173 (by decide) (fun _ => ?_) (fun h => absurd h (by decide))
        refine g_iload_n F d_Mo_told_180 2 rfl ?_
        cases hf
        exact g_iret F hr hlk rfl rfl rfl d_Mo_told_181
      · rw [if_neg h] at hf
        refine g_aload_n F d_Mo_told_157 0 rfl ?_
        refine g_get F (v := .ref (ad 3)) in_X13 0 rfl rfl 2 (by decide) mw_1108 rfl d_Mo_told_158 ?_
        refine g_iload_n F d_Mo_told_161 1 rfl ?_
        refine g_sipush F (v := 128) d_Mo_told_162 (by decide) ?_
        refine g_isub F d_Mo_told_165 ?_
        obtain ⟨k1, hf⟩ := g_chk hf
        refine g_iald F (f := (q_Mo_turned x1)) 3 0 rfl rfl k1 d_Mo_told_166 ?_
        refine g_goto F (tgt := 171) d_Mo_told_167 (by decide) ?_
        refine g_istore_n F (L' := [(2, .int ((q_Mo_turned x1) ((v1 - 128) : Int32).toNatClampNeg)), (0, .ref (ad 0)), (1, .int v1)]) d_Mo_told_171 rfl (by decide) rfl ?_
        refine g_iload_n F d_Mo_told_172 0 rfl ?_
        refine g_if_le F (tgt := 180) d_Mo_told_173 (by decide) (fun h => ?_) (fun h => ?_)
        · rw [if_pos h] at hf
          refine g_iload_n F d_Mo_told_180 2 rfl ?_
          cases hf
          exact g_iret F hr hlk rfl rfl rfl d_Mo_told_181
        · rw [if_neg h] at hf
          refine g_iload_n F d_Mo_told_176 0 rfl ?_
          refine g_goto F (tgt := 181) d_Mo_told_177 (by decide) ?_
          cases hf
          exact g_iret F hr hlk rfl rfl rfl d_Mo_told_181
  have blk114 : ∀ (v1 : Int32) (tMo : SMo), f_Mo_told_114 v1 tMo = some x → GW p l e { frames := 1, cells := 0, slots := 0, locals := 22 } s m args below meth c (gQi D (gT cA) (va_A (Wm ad cA sMo) sz) x.1 (Wm ad cA x.2)) D (va_A (Wm ad cA sMo) sz) 3 (Wm ad cA tMo) 114 [(0, .ref (ad 0)), (1, .int v1)] [] := by
    intro v1 tMo hf
    unfold f_Mo_told_114 at hf
    refine g_iload_n F d_Mo_told_114 1 rfl ?_
    refine g_bipush F (v := 13) d_Mo_told_115 (by decide) ?_
    refine g_icmp_eq F (tgt := 133) d_Mo_told_117 (by decide) (fun h => ?_) (fun h => ?_)
    · rw [if_pos h] at hf
      exact blk133 v1 tMo hf
    · rw [if_neg h] at hf
      refine g_iload_n F d_Mo_told_120 1 rfl ?_
      refine g_bipush F (v := 32) d_Mo_told_121 (by decide) ?_
      refine g_icmp_ge F (tgt := 182) d_Mo_told_123 (by decide) (fun h => ?_) (fun h => ?_)
      · rw [if_pos h] at hf
        refine g_iload_n F d_Mo_told_182 1 rfl ?_
        cases hf
        exact g_iret F hr hlk rfl rfl rfl d_Mo_told_183
      · rw [if_neg h] at hf
        refine g_iload_n F d_Mo_told_126 1 rfl ?_
        refine g_ci F (r0 := (f_Mo_isBlank v1)) (ws' := (Wm ad cA tMo)) (fun H locs ls hP hD hS hl => g_runS F (As := [.int v1]) (n := 1) mw_1277 rfl rfl ⟨by decide, by decide⟩ rfl (by exact Nat.le_of_ble_eq_true rfl) mw_1275 mw_1276 mw_85 (by decide +kernel) d_Mo_told_127 hP hD hS hl (c_Mo_isBlank l D cA z ad tMo v1 rfl H.size)) ?_
        refine g_if_ne F (tgt := 182) d_Mo_told_130 (by decide) (fun h => ?_) (fun h => ?_)
        · rw [if_neg h] at hf
          refine g_iload_n F d_Mo_told_182 1 rfl ?_
          cases hf
          exact g_iret F hr hlk rfl rfl rfl d_Mo_told_183
        · rw [if_pos h] at hf
          exact blk133 v1 tMo hf
  have blk78 : ∀ (v1 : Int32) (tMo : SMo), f_Mo_told_78 v1 tMo = some x → GW p l e { frames := 1, cells := 0, slots := 0, locals := 22 } s m args below meth c (gQi D (gT cA) (va_A (Wm ad cA sMo) sz) x.1 (Wm ad cA x.2)) D (va_A (Wm ad cA sMo) sz) 3 (Wm ad cA tMo) 78 [(0, .ref (ad 0)), (1, .int v1)] [] := by
    intro v1 tMo hf
    unfold f_Mo_told_78 at hf
    refine g_iload_n F d_Mo_told_78 1 rfl ?_
    refine g_ldcw F (v := 65536) mw_1273 d_Mo_told_79 ?_
    refine g_irem F d_Mo_told_82 (by decide) ?_
    refine g_ldcw F (v := 65534) mw_1274 d_Mo_told_83 ?_
    refine g_icmp_lt F (tgt := 101) d_Mo_told_86 (by decide) (fun h => ?_) (fun h => ?_)
    · rw [if_pos h] at hf
      refine g_iload_n F d_Mo_told_101 1 rfl ?_
      refine g_bipush F (v := 127) d_Mo_told_102 (by decide) ?_
      refine g_icmp_lt F (tgt := 114) d_Mo_told_104 (by decide) (fun h => ?_) (fun h => ?_)
      · rw [if_pos h] at hf
        exact blk114 v1 tMo hf
      · rw [if_neg h] at hf
        refine g_iload_n F d_Mo_told_107 1 rfl ?_
        refine g_sipush F (v := 159) d_Mo_told_108 (by decide) ?_
        refine g_icmp_le F (tgt := 133) d_Mo_told_111 (by decide) (fun h => ?_) (fun h => ?_)
        · rw [if_pos h] at hf
          exact blk133 v1 tMo hf
        · rw [if_neg h] at hf
          exact blk114 v1 tMo hf
    · rw [if_neg h] at hf
      refine g_aload_n F d_Mo_told_89 0 rfl ?_
      refine g_bipush F (v := 31) d_Mo_told_90 (by decide) ?_
      refine g_aload_n F d_Mo_told_92 0 rfl ?_
      refine g_get F (v := .int (q_Mo_p tMo)) in_X13 0 rfl rfl 7 (by decide) mw_1113 rfl d_Mo_told_93 ?_
      obtain ⟨x2, hx2, hf⟩ := g_bind hf
      refine g_cv F (ws' := (Wm ad cA x2)) (fun H locs ls hP hD hS hl => g_runV F (As := [.int 31, .int (q_Mo_p tMo)]) (n := 2) mw_1247 rfl rfl ⟨by decide, by decide⟩ rfl (by exact Nat.le_of_ble_eq_true rfl) mw_1244 mw_1246 mw_37 mw_85 (by decide +kernel) d_Mo_told_96 hP hD hS hl (va_recv F.2.2.2.2.2.1 hP (ci := 9) rfl (q0 := 0) rfl) (c_Mo_wrong l D cA z ad tMo 31 (q_Mo_p tMo) hx2 H.size)) ?_
      refine g_iload_n F d_Mo_told_99 1 rfl ?_
      cases hf
      exact g_iret F hr hlk rfl rfl rfl d_Mo_told_100
  have blk64 : ∀ (v1 : Int32) (tMo : SMo), f_Mo_told_64 v1 tMo = some x → GW p l e { frames := 1, cells := 0, slots := 0, locals := 22 } s m args below meth c (gQi D (gT cA) (va_A (Wm ad cA sMo) sz) x.1 (Wm ad cA x.2)) D (va_A (Wm ad cA sMo) sz) 3 (Wm ad cA tMo) 64 [(0, .ref (ad 0)), (1, .int v1)] [] := by
    intro v1 tMo hf
    unfold f_Mo_told_64 at hf
    refine g_iload_n F d_Mo_told_64 1 rfl ?_
    refine g_ldcw F (v := 64976) mw_1271 d_Mo_told_65 ?_
    refine g_icmp_lt F (tgt := 78) d_Mo_told_68 (by decide) (fun h => ?_) (fun h => ?_)
    · rw [if_pos h] at hf
      exact blk78 v1 tMo hf
    · rw [if_neg h] at hf
      refine g_iload_n F d_Mo_told_71 1 rfl ?_
      refine g_ldcw F (v := 65007) mw_1272 d_Mo_told_72 ?_
      refine g_icmp_le F (tgt := 89) d_Mo_told_75 (by decide) (fun h => ?_) (fun h => ?_)
      · rw [if_pos h] at hf
        refine g_aload_n F d_Mo_told_89 0 rfl ?_
        refine g_bipush F (v := 31) d_Mo_told_90 (by decide) ?_
        refine g_aload_n F d_Mo_told_92 0 rfl ?_
        refine g_get F (v := .int (q_Mo_p tMo)) in_X13 0 rfl rfl 7 (by decide) mw_1113 rfl d_Mo_told_93 ?_
        obtain ⟨x3, hx3, hf⟩ := g_bind hf
        refine g_cv F (ws' := (Wm ad cA x3)) (fun H locs ls hP hD hS hl => g_runV F (As := [.int 31, .int (q_Mo_p tMo)]) (n := 2) mw_1247 rfl rfl ⟨by decide, by decide⟩ rfl (by exact Nat.le_of_ble_eq_true rfl) mw_1244 mw_1246 mw_37 mw_85 (by decide +kernel) d_Mo_told_96 hP hD hS hl (va_recv F.2.2.2.2.2.1 hP (ci := 9) rfl (q0 := 0) rfl) (c_Mo_wrong l D cA z ad tMo 31 (q_Mo_p tMo) hx3 H.size)) ?_
        refine g_iload_n F d_Mo_told_99 1 rfl ?_
        cases hf
        exact g_iret F hr hlk rfl rfl rfl d_Mo_told_100
      · rw [if_neg h] at hf
        exact blk78 v1 tMo hf
  unfold f_Mo_told at hf
  refine g_iload_n F d_Mo_told_0 1 rfl ?_
  refine g_if_ne F (tgt := 17) d_Mo_told_1 (by decide) (fun h => ?_) (fun h => ?_)
  · rw [if_neg h] at hf
    refine g_iload_n F d_Mo_told_17 1 rfl ?_
    refine g_ldcw F (v := 1114111) mw_1243 d_Mo_told_18 ?_
    refine g_icmp_le F (tgt := 37) d_Mo_told_21 (by decide) (fun h => ?_) (fun h => ?_)
    · rw [if_pos h] at hf
      refine g_iload_n F d_Mo_told_37 1 rfl ?_
      refine g_ldcw F (v := 55296) mw_1269 d_Mo_told_38 ?_
      refine g_icmp_lt F (tgt := 64) d_Mo_told_41 (by decide) (fun h => ?_) (fun h => ?_)
      · rw [if_pos h] at hf
        exact blk64 a1 sMo hf
      · rw [if_neg h] at hf
        refine g_iload_n F d_Mo_told_44 1 rfl ?_
        refine g_ldcw F (v := 57343) mw_1270 d_Mo_told_45 ?_
        refine g_icmp_gt F (tgt := 64) d_Mo_told_48 (by decide) (fun h => ?_) (fun h => ?_)
        · rw [if_pos h] at hf
          exact blk64 a1 sMo hf
        · rw [if_neg h] at hf
          refine g_aload_n F d_Mo_told_51 0 rfl ?_
          refine g_bipush F (v := 30) d_Mo_told_52 (by decide) ?_
          refine g_aload_n F d_Mo_told_54 0 rfl ?_
          refine g_get F (v := .int (q_Mo_p sMo)) in_X13 0 rfl rfl 7 (by decide) mw_1113 rfl d_Mo_told_55 ?_
          obtain ⟨x4, hx4, hf⟩ := g_bind hf
          refine g_cv F (ws' := (Wm ad cA x4)) (fun H locs ls hP hD hS hl => g_runV F (As := [.int 30, .int (q_Mo_p sMo)]) (n := 2) mw_1247 rfl rfl ⟨by decide, by decide⟩ rfl (by exact Nat.le_of_ble_eq_true rfl) mw_1244 mw_1246 mw_37 mw_85 (by decide +kernel) d_Mo_told_58 hP hD hS hl (va_recv F.2.2.2.2.2.1 hP (ci := 9) rfl (q0 := 0) rfl) (c_Mo_wrong l D cA z ad sMo 30 (q_Mo_p sMo) hx4 H.size)) ?_
          refine g_ldc F (v := 65533) mw_1268 d_Mo_told_61 ?_
          cases hf
          exact g_iret F hr hlk rfl rfl rfl d_Mo_told_63
    · rw [if_neg h] at hf
      refine g_aload_n F d_Mo_told_24 0 rfl ?_
      refine g_bipush F (v := 29) d_Mo_told_25 (by decide) ?_
      refine g_aload_n F d_Mo_told_27 0 rfl ?_
      refine g_get F (v := .int (q_Mo_p sMo)) in_X13 0 rfl rfl 7 (by decide) mw_1113 rfl d_Mo_told_28 ?_
      obtain ⟨x5, hx5, hf⟩ := g_bind hf
      refine g_cv F (ws' := (Wm ad cA x5)) (fun H locs ls hP hD hS hl => g_runV F (As := [.int 29, .int (q_Mo_p sMo)]) (n := 2) mw_1247 rfl rfl ⟨by decide, by decide⟩ rfl (by exact Nat.le_of_ble_eq_true rfl) mw_1244 mw_1246 mw_37 mw_85 (by decide +kernel) d_Mo_told_31 hP hD hS hl (va_recv F.2.2.2.2.2.1 hP (ci := 9) rfl (q0 := 0) rfl) (c_Mo_wrong l D cA z ad sMo 29 (q_Mo_p sMo) hx5 H.size)) ?_
      refine g_ldc F (v := 65533) mw_1268 d_Mo_told_34 ?_
      cases hf
      exact g_iret F hr hlk rfl rfl rfl d_Mo_told_36
  · rw [if_pos h] at hf
    refine g_aload_n F d_Mo_told_4 0 rfl ?_
    refine g_bipush F (v := 28) d_Mo_told_5 (by decide) ?_
    refine g_aload_n F d_Mo_told_7 0 rfl ?_
    refine g_get F (v := .int (q_Mo_p sMo)) in_X13 0 rfl rfl 7 (by decide) mw_1113 rfl d_Mo_told_8 ?_
    obtain ⟨x6, hx6, hf⟩ := g_bind hf
    refine g_cv F (ws' := (Wm ad cA x6)) (fun H locs ls hP hD hS hl => g_runV F (As := [.int 28, .int (q_Mo_p sMo)]) (n := 2) mw_1247 rfl rfl ⟨by decide, by decide⟩ rfl (by exact Nat.le_of_ble_eq_true rfl) mw_1244 mw_1246 mw_37 mw_85 (by decide +kernel) d_Mo_told_11 hP hD hS hl (va_recv F.2.2.2.2.2.1 hP (ci := 9) rfl (q0 := 0) rfl) (c_Mo_wrong l D cA z ad sMo 28 (q_Mo_p sMo) hx6 H.size)) ?_
    refine g_ldc F (v := 65533) mw_1268 d_Mo_told_14 ?_
    cases hf
    exact g_iret F hr hlk rfl rfl rfl d_Mo_told_16
set_option maxHeartbeats 4000000 in
set_option maxRecDepth 100000 in
theorem c_Mo_number (l : Launch) (D : va_G) (cA : Nat → ClassId) (z : gZ) (ad : Nat → Nat) (sMo : SMo) (a1 : Int32) (a2 : Int32) {x : SMo} (hf : f_Mo_number a1 a2 sMo = some x) (sz : Nat) : Met l y_Mo_number (.code y_Mo_number b_Mo_number 6 none :: lw_g) { frames := 4, cells := 0, slots := 0, locals := 87 } (gP D (gT cA) z [.ref (ad 0), .int a1, .int a2] (Wm ad cA sMo) sz) (gQv D (gT cA) (va_A (Wm ad cA sMo) sz) (Wm ad cA x)) 0 0 (va_A (Wm ad cA sMo) sz) := by
  refine g_met (by decide) (Nat.le_of_ble_eq_true rfl) rfl ?_
  intro p e s m args below meth c F hr hlk
  have blk63 : ∀ (n : Nat) (v1 : Int32) (v2 : Int32) (v3 : Int32) (v4 : Int32) (v5 : Int32) (tMo : SMo), f_Mo_number_63 n v1 v2 v3 v4 v5 tMo = some x → GW p l e { frames := 4, cells := 0, slots := 0, locals := 87 } s m args below meth c (gQv D (gT cA) (va_A (Wm ad cA sMo) sz) (Wm ad cA x)) D (va_A (Wm ad cA sMo) sz) 6 (Wm ad cA tMo) 63 [(0, .ref (ad 0)), (1, .int v1), (2, .int v2), (3, .int v3), (4, .int v4), (5, .int v5)] [] := by
    intro n
    induction n with
    | zero => intro _ _ _ _ _ _ hf; cases hf
    | succ n ih =>
      intro v1 v2 v3 v4 v5 tMo hf
      rw [f_Mo_number_63] at hf
      refine g_aload_n F d_Mo_number_63 0 rfl ?_
      refine g_aload_n F d_Mo_number_64 0 rfl ?_
      refine g_get F (v := .int (q_Mo_p tMo)) in_X13 0 rfl rfl 7 (by decide) mw_1113 rfl d_Mo_number_65 ?_
      obtain ⟨x1, hx1, hf⟩ := g_bind hf
      refine g_ci F (r0 := x1) (ws' := (Wm ad cA tMo)) (fun H locs ls hP hD hS hl => g_runV F (As := [.int (q_Mo_p tMo)]) (n := 1) mw_1228 rfl rfl ⟨by decide, by decide⟩ rfl (by exact Nat.le_of_ble_eq_true rfl) mw_1225 mw_1227 mw_34 mw_85 (by decide +kernel) d_Mo_number_68 hP hD hS hl (va_recv F.2.2.2.2.2.1 hP (ci := 9) rfl (q0 := 0) rfl) (c_Mo_charAt l D cA z ad tMo (q_Mo_p tMo) hx1 H.size)) ?_
      refine g_ci F (r0 := (f_Mo_digitOf x1)) (ws' := (Wm ad cA tMo)) (fun H locs ls hP hD hS hl => g_runS F (As := [.int x1]) (n := 1) mw_1239 rfl rfl ⟨by decide, by decide⟩ rfl (by exact Nat.le_of_ble_eq_true rfl) mw_1237 mw_1238 mw_85 (by decide +kernel) d_Mo_number_71 hP hD hS hl (c_Mo_digitOf l D cA z ad tMo x1 rfl H.size)) ?_
      refine g_iload_n F d_Mo_number_74 3 rfl ?_
      refine g_icmp_ge F (tgt := 125) d_Mo_number_75 (by decide) (fun h => ?_) (fun h => ?_)
      · rw [if_pos h] at hf
        refine g_iload F d_Mo_number_125 5 rfl ?_
        refine g_if_ne F (tgt := 147) d_Mo_number_127 (by decide) (fun h => ?_) (fun h => ?_)
        · rw [if_neg h] at hf
          refine g_aload_n F d_Mo_number_147 0 rfl ?_
          refine g_aload_n F d_Mo_number_148 0 rfl ?_
          refine g_get F (v := .int (q_Mo_p tMo)) in_X13 0 rfl rfl 7 (by decide) mw_1113 rfl d_Mo_number_149 ?_
          obtain ⟨x2, hx2, hf⟩ := g_bind hf
          refine g_ci F (r0 := x2) (ws' := (Wm ad cA tMo)) (fun H locs ls hP hD hS hl => g_runV F (As := [.int (q_Mo_p tMo)]) (n := 1) mw_1228 rfl rfl ⟨by decide, by decide⟩ rfl (by exact Nat.le_of_ble_eq_true rfl) mw_1225 mw_1227 mw_34 mw_85 (by decide +kernel) d_Mo_number_152 hP hD hS hl (va_recv F.2.2.2.2.2.1 hP (ci := 9) rfl (q0 := 0) rfl) (c_Mo_charAt l D cA z ad tMo (q_Mo_p tMo) hx2 H.size)) ?_
          refine g_bipush F (v := 59) d_Mo_number_155 (by decide) ?_
          refine g_icmp_ne F (tgt := 173) d_Mo_number_157 (by decide) (fun h => ?_) (fun h => ?_)
          · rw [if_neg h] at hf
            refine g_aload_n F d_Mo_number_173 0 rfl ?_
            refine g_bipush F (v := 25) d_Mo_number_174 (by decide) ?_
            refine g_aload_n F d_Mo_number_176 0 rfl ?_
            refine g_get F (v := .int (q_Mo_p tMo)) in_X13 0 rfl rfl 7 (by decide) mw_1113 rfl d_Mo_number_177 ?_
            obtain ⟨x3, hx3, hf⟩ := g_bind hf
            refine g_cv F (ws' := (Wm ad cA x3)) (fun H locs ls hP hD hS hl => g_runV F (As := [.int 25, .int (q_Mo_p tMo)]) (n := 2) mw_1247 rfl rfl ⟨by decide, by decide⟩ rfl (by exact Nat.le_of_ble_eq_true rfl) mw_1244 mw_1246 mw_37 mw_85 (by decide +kernel) d_Mo_number_180 hP hD hS hl (va_recv F.2.2.2.2.2.1 hP (ci := 9) rfl (q0 := 0) rfl) (c_Mo_wrong l D cA z ad tMo 25 (q_Mo_p tMo) hx3 H.size)) ?_
            refine g_aload_n F d_Mo_number_183 0 rfl ?_
            refine g_aload_n F d_Mo_number_184 0 rfl ?_
            refine g_iload F d_Mo_number_185 4 rfl ?_
            obtain ⟨x4, hx4, hf⟩ := g_bind hf
            refine g_ci F (r0 := x4.1) (ws' := (Wm ad cA x4.2)) (fun H locs ls hP hD hS hl => g_runV F (As := [.int v4]) (n := 1) mw_1267 rfl rfl ⟨by decide, by decide⟩ rfl (by exact Nat.le_of_ble_eq_true rfl) mw_1264 mw_1266 mw_42 mw_85 (by decide +kernel) d_Mo_number_187 hP hD hS hl (va_recv F.2.2.2.2.2.1 hP (ci := 9) rfl (q0 := 0) rfl) (c_Mo_told l D cA z ad x3 v4 hx4 H.size)) ?_
            refine g_iload_n F d_Mo_number_190 2 rfl ?_
            obtain ⟨x5, hx5, hf⟩ := g_bind hf
            refine g_cv F (ws' := (Wm ad cA x5)) (fun H locs ls hP hD hS hl => g_runV F (As := [.int x4.1, .int v2]) (n := 2) mw_1255 rfl rfl ⟨by decide, by decide⟩ rfl (by exact Nat.le_of_ble_eq_true rfl) mw_1252 mw_1254 mw_39 mw_85 (by decide +kernel) d_Mo_number_191 hP hD hS hl (va_recv F.2.2.2.2.2.1 hP (ci := 9) rfl (q0 := 0) rfl) (c_Mo_give l D cA z ad x4.2 x4.1 v2 hx5 H.size)) ?_
            cases hf
            exact g_vret F hr hlk rfl rfl d_Mo_number_194
          · rw [if_pos h] at hf
            refine g_aload_n F d_Mo_number_160 0 rfl ?_
            refine g_dup F d_Mo_number_161 rfl ?_
            refine g_get F (v := .int (q_Mo_p tMo)) in_X13 0 rfl rfl 7 (by decide) mw_1113 rfl d_Mo_number_162 ?_
            refine g_iconst F (v := 1) d_Mo_number_165 (by decide) ?_
            refine g_iadd F d_Mo_number_166 ?_
            refine g_put F in_X13 0 rfl rfl 7 (by decide) tyX13 tyX13_ok nmX13 mw_1113 rfl rfl rfl (Nat.le_of_ble_eq_true rfl) (ws' := (Wm ad cA (u_Mo_p tMo ((q_Mo_p tMo) + 1)))) rfl d_Mo_number_167 ?_
            refine g_goto F (tgt := 183) d_Mo_number_170 (by decide) ?_
            refine g_aload_n F d_Mo_number_183 0 rfl ?_
            refine g_aload_n F d_Mo_number_184 0 rfl ?_
            refine g_iload F d_Mo_number_185 4 rfl ?_
            obtain ⟨x6, hx6, hf⟩ := g_bind hf
            refine g_ci F (r0 := x6.1) (ws' := (Wm ad cA x6.2)) (fun H locs ls hP hD hS hl => g_runV F (As := [.int v4]) (n := 1) mw_1267 rfl rfl ⟨by decide, by decide⟩ rfl (by exact Nat.le_of_ble_eq_true rfl) mw_1264 mw_1266 mw_42 mw_85 (by decide +kernel) d_Mo_number_187 hP hD hS hl (va_recv F.2.2.2.2.2.1 hP (ci := 9) rfl (q0 := 0) rfl) (c_Mo_told l D cA z ad (u_Mo_p tMo ((q_Mo_p tMo) + 1)) v4 hx6 H.size)) ?_
            refine g_iload_n F d_Mo_number_190 2 rfl ?_
            obtain ⟨x7, hx7, hf⟩ := g_bind hf
            refine g_cv F (ws' := (Wm ad cA x7)) (fun H locs ls hP hD hS hl => g_runV F (As := [.int x6.1, .int v2]) (n := 2) mw_1255 rfl rfl ⟨by decide, by decide⟩ rfl (by exact Nat.le_of_ble_eq_true rfl) mw_1252 mw_1254 mw_39 mw_85 (by decide +kernel) d_Mo_number_191 hP hD hS hl (va_recv F.2.2.2.2.2.1 hP (ci := 9) rfl (q0 := 0) rfl) (c_Mo_give l D cA z ad x6.2 x6.1 v2 hx7 H.size)) ?_
            cases hf
            exact g_vret F hr hlk rfl rfl d_Mo_number_194
        · rw [if_pos h] at hf
          refine g_aload_n F d_Mo_number_130 0 rfl ?_
          refine g_bipush F (v := 27) d_Mo_number_131 (by decide) ?_
          refine g_aload_n F d_Mo_number_133 0 rfl ?_
          refine g_get F (v := .int (q_Mo_p tMo)) in_X13 0 rfl rfl 7 (by decide) mw_1113 rfl d_Mo_number_134 ?_
          obtain ⟨x8, hx8, hf⟩ := g_bind hf
          refine g_cv F (ws' := (Wm ad cA x8)) (fun H locs ls hP hD hS hl => g_runV F (As := [.int 27, .int (q_Mo_p tMo)]) (n := 2) mw_1247 rfl rfl ⟨by decide, by decide⟩ rfl (by exact Nat.le_of_ble_eq_true rfl) mw_1244 mw_1246 mw_37 mw_85 (by decide +kernel) d_Mo_number_137 hP hD hS hl (va_recv F.2.2.2.2.2.1 hP (ci := 9) rfl (q0 := 0) rfl) (c_Mo_wrong l D cA z ad tMo 27 (q_Mo_p tMo) hx8 H.size)) ?_
          refine g_aload_n F d_Mo_number_140 0 rfl ?_
          refine g_iload_n F d_Mo_number_141 1 rfl ?_
          refine g_iload_n F d_Mo_number_142 2 rfl ?_
          obtain ⟨x9, hx9, hf⟩ := g_bind hf
          refine g_cv F (ws' := (Wm ad cA x9)) (fun H locs ls hP hD hS hl => g_runV F (As := [.int v1, .int v2]) (n := 2) mw_1251 rfl rfl ⟨by decide, by decide⟩ rfl (by exact Nat.le_of_ble_eq_true rfl) mw_1248 mw_1250 mw_38 mw_85 (by decide +kernel) d_Mo_number_143 hP hD hS hl (va_recv F.2.2.2.2.2.1 hP (ci := 9) rfl (q0 := 0) rfl) (c_Mo_giveAll l D cA z ad x8 v1 v2 hx9 H.size)) ?_
          cases hf
          exact g_vret F hr hlk rfl rfl d_Mo_number_146
      · rw [if_neg h] at hf
        refine g_iload F d_Mo_number_78 4 rfl ?_
        refine g_ldcw F (v := 1114111) mw_1243 d_Mo_number_80 ?_
        refine g_icmp_le F (tgt := 91) d_Mo_number_83 (by decide) (fun h => ?_) (fun h => ?_)
        · rw [if_pos h] at hf
          refine g_iload_n F d_Mo_number_91 3 rfl ?_
          refine g_iload F d_Mo_number_92 4 rfl ?_
          refine g_imul F d_Mo_number_94 ?_
          refine g_aload_n F d_Mo_number_95 0 rfl ?_
          refine g_aload_n F d_Mo_number_96 0 rfl ?_
          refine g_get F (v := .int (q_Mo_p tMo)) in_X13 0 rfl rfl 7 (by decide) mw_1113 rfl d_Mo_number_97 ?_
          obtain ⟨x10, hx10, hf⟩ := g_bind hf
          refine g_ci F (r0 := x10) (ws' := (Wm ad cA tMo)) (fun H locs ls hP hD hS hl => g_runV F (As := [.int (q_Mo_p tMo)]) (n := 1) mw_1228 rfl rfl ⟨by decide, by decide⟩ rfl (by exact Nat.le_of_ble_eq_true rfl) mw_1225 mw_1227 mw_34 mw_85 (by decide +kernel) d_Mo_number_100 hP hD hS hl (va_recv F.2.2.2.2.2.1 hP (ci := 9) rfl (q0 := 0) rfl) (c_Mo_charAt l D cA z ad tMo (q_Mo_p tMo) hx10 H.size)) ?_
          refine g_ci F (r0 := (f_Mo_digitOf x10)) (ws' := (Wm ad cA tMo)) (fun H locs ls hP hD hS hl => g_runS F (As := [.int x10]) (n := 1) mw_1239 rfl rfl ⟨by decide, by decide⟩ rfl (by exact Nat.le_of_ble_eq_true rfl) mw_1237 mw_1238 mw_85 (by decide +kernel) d_Mo_number_103 hP hD hS hl (c_Mo_digitOf l D cA z ad tMo x10 rfl H.size)) ?_
          refine g_iadd F d_Mo_number_106 ?_
          refine g_istore F (L' := [(4, .int ((v3 * v4) + (f_Mo_digitOf x10))), (0, .ref (ad 0)), (1, .int v1), (2, .int v2), (3, .int v3), (5, .int v5)]) d_Mo_number_107 (by decide) rfl ?_
          refine g_iinc F (j := 5) (v := (v5 + 1)) (L' := [(5, .int (v5 + 1)), (4, .int ((v3 * v4) + (f_Mo_digitOf x10))), (0, .ref (ad 0)), (1, .int v1), (2, .int v2), (3, .int v3)]) d_Mo_number_109 rfl rfl (by decide) rfl ?_
          refine g_aload_n F d_Mo_number_112 2 rfl ?_
          refine g_dup F d_Mo_number_113 rfl ?_
          refine g_get F (v := .int (q_Mo_p tMo)) in_X13 0 rfl rfl 7 (by decide) mw_1113 rfl d_Mo_number_114 ?_
          refine g_iconst F (v := 1) d_Mo_number_117 (by decide) ?_
          refine g_iadd F d_Mo_number_118 ?_
          refine g_put F in_X13 0 rfl rfl 7 (by decide) tyX13 tyX13_ok nmX13 mw_1113 rfl rfl rfl (Nat.le_of_ble_eq_true rfl) (ws' := (Wm ad cA (u_Mo_p tMo ((q_Mo_p tMo) + 1)))) rfl d_Mo_number_119 ?_
          refine g_goto F (tgt := 63) d_Mo_number_122 (by decide) ?_
          refine g_loc [2, 3, 4, 5, 1, 0] rfl ?_
          exact ih v1 v2 v3 ((v3 * v4) + (f_Mo_digitOf x10)) (v5 + 1) (u_Mo_p tMo ((q_Mo_p tMo) + 1)) hf
        · rw [if_neg h] at hf
          refine g_iload F d_Mo_number_86 4 rfl ?_
          refine g_goto F (tgt := 107) d_Mo_number_88 (by decide) ?_
          refine g_istore F (L' := [(4, .int v4), (0, .ref (ad 0)), (1, .int v1), (2, .int v2), (3, .int v3), (5, .int v5)]) d_Mo_number_107 (by decide) rfl ?_
          refine g_iinc F (j := 5) (v := (v5 + 1)) (L' := [(5, .int (v5 + 1)), (4, .int v4), (0, .ref (ad 0)), (1, .int v1), (2, .int v2), (3, .int v3)]) d_Mo_number_109 rfl rfl (by decide) rfl ?_
          refine g_aload_n F d_Mo_number_112 2 rfl ?_
          refine g_dup F d_Mo_number_113 rfl ?_
          refine g_get F (v := .int (q_Mo_p tMo)) in_X13 0 rfl rfl 7 (by decide) mw_1113 rfl d_Mo_number_114 ?_
          refine g_iconst F (v := 1) d_Mo_number_117 (by decide) ?_
          refine g_iadd F d_Mo_number_118 ?_
          refine g_put F in_X13 0 rfl rfl 7 (by decide) tyX13 tyX13_ok nmX13 mw_1113 rfl rfl rfl (Nat.le_of_ble_eq_true rfl) (ws' := (Wm ad cA (u_Mo_p tMo ((q_Mo_p tMo) + 1)))) rfl d_Mo_number_119 ?_
          refine g_goto F (tgt := 63) d_Mo_number_122 (by decide) ?_
          refine g_loc [2, 3, 4, 5, 1, 0] rfl ?_
          exact ih v1 v2 v3 v4 (v5 + 1) (u_Mo_p tMo ((q_Mo_p tMo) + 1)) hf
  unfold f_Mo_number at hf
  refine g_aload_n F d_Mo_number_0 0 rfl ?_
  refine g_aload_n F d_Mo_number_1 0 rfl ?_
  refine g_get F (v := .int (q_Mo_p sMo)) in_X13 0 rfl rfl 7 (by decide) mw_1113 rfl d_Mo_number_2 ?_
  obtain ⟨x11, hx11, hf⟩ := g_bind hf
  refine g_ci F (r0 := x11) (ws' := (Wm ad cA sMo)) (fun H locs ls hP hD hS hl => g_runV F (As := [.int (q_Mo_p sMo)]) (n := 1) mw_1228 rfl rfl ⟨by decide, by decide⟩ rfl (by exact Nat.le_of_ble_eq_true rfl) mw_1225 mw_1227 mw_34 mw_85 (by decide +kernel) d_Mo_number_5 hP hD hS hl (va_recv F.2.2.2.2.2.1 hP (ci := 9) rfl (q0 := 0) rfl) (c_Mo_charAt l D cA z ad sMo (q_Mo_p sMo) hx11 H.size)) ?_
  refine g_bipush F (v := 120) d_Mo_number_8 (by decide) ?_
  refine g_icmp_eq F (tgt := 26) d_Mo_number_10 (by decide) (fun h => ?_) (fun h => ?_)
  · rw [if_pos h] at hf
    refine g_bipush F (v := 16) d_Mo_number_26 (by decide) ?_
    refine g_goto F (tgt := 33) d_Mo_number_28 (by decide) ?_
    refine g_istore_n F (L' := [(3, .int 16), (0, .ref (ad 0)), (1, .int a1), (2, .int a2)]) d_Mo_number_33 rfl (by decide) rfl ?_
    refine g_aload_n F d_Mo_number_34 1 rfl ?_
    refine g_iload_n F d_Mo_number_35 0 rfl ?_
    refine g_bipush F (v := 16) d_Mo_number_36 (by decide) ?_
    refine g_icmp_ne F (tgt := 50) d_Mo_number_38 (by decide) (fun h => absurd h (by decide)) (fun _ => ?_)
    refine g_aload_n F d_Mo_number_41 1 rfl ?_
    refine g_get F (v := .int (q_Mo_p sMo)) in_X13 0 rfl rfl 7 (by decide) mw_1113 rfl d_Mo_number_42 ?_
    refine g_iconst F (v := 1) d_Mo_number_45 (by decide) ?_
    refine g_iadd F d_Mo_number_46 ?_
    refine g_goto F (tgt := 54) d_Mo_number_47 (by decide) ?_
    refine g_put F in_X13 0 rfl rfl 7 (by decide) tyX13 tyX13_ok nmX13 mw_1113 rfl rfl rfl (Nat.le_of_ble_eq_true rfl) (ws' := (Wm ad cA (u_Mo_p sMo ((q_Mo_p sMo) + 1)))) rfl d_Mo_number_54 ?_
    refine g_iconst F (v := 0) d_Mo_number_57 (by decide) ?_
    refine g_istore F (L' := [(4, .int 0), (3, .int 16), (0, .ref (ad 0)), (1, .int a1), (2, .int a2)]) d_Mo_number_58 (by decide) rfl ?_
    refine g_iconst F (v := 0) d_Mo_number_60 (by decide) ?_
    refine g_istore F (L' := [(5, .int 0), (4, .int 0), (3, .int 16), (0, .ref (ad 0)), (1, .int a1), (2, .int a2)]) d_Mo_number_61 (by decide) rfl ?_
    refine g_loc [3, 4, 5, 2, 1, 0] rfl ?_
    exact blk63 FU a1 a2 16 0 0 (u_Mo_p sMo ((q_Mo_p sMo) + 1)) hf
  · rw [if_neg h] at hf
    refine g_aload_n F d_Mo_number_13 0 rfl ?_
    refine g_aload_n F d_Mo_number_14 0 rfl ?_
    refine g_get F (v := .int (q_Mo_p sMo)) in_X13 0 rfl rfl 7 (by decide) mw_1113 rfl d_Mo_number_15 ?_
    obtain ⟨x12, hx12, hf⟩ := g_bind hf
    refine g_ci F (r0 := x12) (ws' := (Wm ad cA sMo)) (fun H locs ls hP hD hS hl => g_runV F (As := [.int (q_Mo_p sMo)]) (n := 1) mw_1228 rfl rfl ⟨by decide, by decide⟩ rfl (by exact Nat.le_of_ble_eq_true rfl) mw_1225 mw_1227 mw_34 mw_85 (by decide +kernel) d_Mo_number_18 hP hD hS hl (va_recv F.2.2.2.2.2.1 hP (ci := 9) rfl (q0 := 0) rfl) (c_Mo_charAt l D cA z ad sMo (q_Mo_p sMo) hx12 H.size)) ?_
    refine g_bipush F (v := 88) d_Mo_number_21 (by decide) ?_
    refine g_icmp_ne F (tgt := 31) d_Mo_number_23 (by decide) (fun h => ?_) (fun h => ?_)
    · rw [if_neg h] at hf
      refine g_bipush F (v := 10) d_Mo_number_31 (by decide) ?_
      refine g_istore_n F (L' := [(3, .int 10), (0, .ref (ad 0)), (1, .int a1), (2, .int a2)]) d_Mo_number_33 rfl (by decide) rfl ?_
      refine g_aload_n F d_Mo_number_34 1 rfl ?_
      refine g_iload_n F d_Mo_number_35 0 rfl ?_
      refine g_bipush F (v := 16) d_Mo_number_36 (by decide) ?_
      refine g_icmp_ne F (tgt := 50) d_Mo_number_38 (by decide) (fun _ => ?_) (fun h => absurd h (by decide))
      refine g_aload_n F d_Mo_number_50 1 rfl ?_
      refine g_get F (v := .int (q_Mo_p sMo)) in_X13 0 rfl rfl 7 (by decide) mw_1113 rfl d_Mo_number_51 ?_
      refine g_put F in_X13 0 rfl rfl 7 (by decide) tyX13 tyX13_ok nmX13 mw_1113 rfl rfl rfl (Nat.le_of_ble_eq_true rfl) (ws' := (Wm ad cA (u_Mo_p sMo (q_Mo_p sMo)))) rfl d_Mo_number_54 ?_
      refine g_iconst F (v := 0) d_Mo_number_57 (by decide) ?_
      refine g_istore F (L' := [(4, .int 0), (3, .int 10), (0, .ref (ad 0)), (1, .int a1), (2, .int a2)]) d_Mo_number_58 (by decide) rfl ?_
      refine g_iconst F (v := 0) d_Mo_number_60 (by decide) ?_
      refine g_istore F (L' := [(5, .int 0), (4, .int 0), (3, .int 10), (0, .ref (ad 0)), (1, .int a1), (2, .int a2)]) d_Mo_number_61 (by decide) rfl ?_
      refine g_loc [3, 4, 5, 2, 1, 0] rfl ?_
      exact blk63 FU a1 a2 10 0 0 (u_Mo_p sMo (q_Mo_p sMo)) hf
    · rw [if_pos h] at hf
      refine g_bipush F (v := 16) d_Mo_number_26 (by decide) ?_
      refine g_goto F (tgt := 33) d_Mo_number_28 (by decide) ?_
      refine g_istore_n F (L' := [(3, .int 16), (0, .ref (ad 0)), (1, .int a1), (2, .int a2)]) d_Mo_number_33 rfl (by decide) rfl ?_
      refine g_aload_n F d_Mo_number_34 1 rfl ?_
      refine g_iload_n F d_Mo_number_35 0 rfl ?_
      refine g_bipush F (v := 16) d_Mo_number_36 (by decide) ?_
      refine g_icmp_ne F (tgt := 50) d_Mo_number_38 (by decide) (fun h => absurd h (by decide)) (fun _ => ?_)
      refine g_aload_n F d_Mo_number_41 1 rfl ?_
      refine g_get F (v := .int (q_Mo_p sMo)) in_X13 0 rfl rfl 7 (by decide) mw_1113 rfl d_Mo_number_42 ?_
      refine g_iconst F (v := 1) d_Mo_number_45 (by decide) ?_
      refine g_iadd F d_Mo_number_46 ?_
      refine g_goto F (tgt := 54) d_Mo_number_47 (by decide) ?_
      refine g_put F in_X13 0 rfl rfl 7 (by decide) tyX13 tyX13_ok nmX13 mw_1113 rfl rfl rfl (Nat.le_of_ble_eq_true rfl) (ws' := (Wm ad cA (u_Mo_p sMo ((q_Mo_p sMo) + 1)))) rfl d_Mo_number_54 ?_
      refine g_iconst F (v := 0) d_Mo_number_57 (by decide) ?_
      refine g_istore F (L' := [(4, .int 0), (3, .int 16), (0, .ref (ad 0)), (1, .int a1), (2, .int a2)]) d_Mo_number_58 (by decide) rfl ?_
      refine g_iconst F (v := 0) d_Mo_number_60 (by decide) ?_
      refine g_istore F (L' := [(5, .int 0), (4, .int 0), (3, .int 16), (0, .ref (ad 0)), (1, .int a1), (2, .int a2)]) d_Mo_number_61 (by decide) rfl ?_
      refine g_loc [3, 4, 5, 2, 1, 0] rfl ?_
      exact blk63 FU a1 a2 16 0 0 (u_Mo_p sMo ((q_Mo_p sMo) + 1)) hf
set_option maxHeartbeats 4000000 in
set_option maxRecDepth 100000 in
theorem c_Mo_longest (l : Launch) (D : va_G) (cA : Nat → ClassId) (z : gZ) (ad : Nat → Nat) (sMo : SMo) (a1 : Int32) {x : Int32 × SMo} (hf : f_Mo_longest a1 sMo = some x) (sz : Nat) : Met l y_Mo_longest (.code y_Mo_longest b_Mo_longest 8 (some .int) :: lw_g) { frames := 1, cells := 0, slots := 0, locals := 21 } (gP D (gT cA) z [.ref (ad 0), .int a1] (Wm ad cA sMo) sz) (gQi D (gT cA) (va_A (Wm ad cA sMo) sz) x.1 (Wm ad cA x.2)) 0 0 (va_A (Wm ad cA sMo) sz) := by
  refine g_met (by decide) (Nat.le_of_ble_eq_true rfl) rfl ?_
  intro p e s m args below meth c F hr hlk
  have blk27 : ∀ (k4 : Int32 → Int32 → Int32 → SMo → Option (Int32 × SMo)), (∀ (v1 : Int32) (v2 : Int32) (v3 : Int32) (tMo : SMo), k4 v1 v2 v3 tMo = some x → GW p l e { frames := 1, cells := 0, slots := 0, locals := 21 } s m args below meth c (gQi D (gT cA) (va_A (Wm ad cA sMo) sz) x.1 (Wm ad cA x.2)) D (va_A (Wm ad cA sMo) sz) 8 (Wm ad cA tMo) 4 [(0, .ref (ad 0)), (1, .int v1), (2, .int v2), (3, .int v3)] []) → ∀ (n : Nat) (v1 : Int32) (v2 : Int32) (v3 : Int32) (v4 : Int32) (v5 : Int32) (v6 : Int64) (tMo : SMo), f_Mo_longest_27 k4 n v1 v2 v3 v4 v5 v6 tMo = some x → GW p l e { frames := 1, cells := 0, slots := 0, locals := 21 } s m args below meth c (gQi D (gT cA) (va_A (Wm ad cA sMo) sz) x.1 (Wm ad cA x.2)) D (va_A (Wm ad cA sMo) sz) 8 (Wm ad cA tMo) 27 [(0, .ref (ad 0)), (1, .int v1), (2, .int v2), (3, .int v3), (4, .int v4), (5, .int v5), (6, .long v6)] [] := by
    intro k4 hk4
    intro n
    induction n with
    | zero => intro _ _ _ _ _ _ _ hf; cases hf
    | succ n ih =>
      intro v1 v2 v3 v4 v5 v6 tMo hf
      rw [f_Mo_longest_27] at hf
      refine g_lload F d_Mo_longest_27 6 rfl ?_
      refine g_lconst F (v := 0) d_Mo_longest_29 (by decide) ?_
      refine g_lcmp F d_Mo_longest_30 ?_
      refine g_if_eq F (tgt := 78) d_Mo_longest_31 (by decide) (fun h => ?_) (fun h => ?_)
      · rw [if_pos h] at hf
        refine g_iload F d_Mo_longest_78 5 rfl ?_
        refine g_if_eq F (tgt := 97) d_Mo_longest_80 (by decide) (fun h => ?_) (fun h => ?_)
        · rw [if_pos h] at hf
          refine g_iinc F (j := 3) (v := (v3 + 1)) (L' := [(3, .int (v3 + 1)), (0, .ref (ad 0)), (1, .int v1), (2, .int v2), (4, .int v4), (5, .int v5), (6, .long v6)]) d_Mo_longest_97 rfl rfl (by decide) rfl ?_
          refine g_goto F (tgt := 4) d_Mo_longest_100 (by decide) ?_
          refine g_loc [1, 2, 3, 0] rfl ?_
          exact hk4 v1 v2 (v3 + 1) tMo hf
        · rw [if_neg h] at hf
          refine g_iload F d_Mo_longest_83 4 rfl ?_
          refine g_iload_n F d_Mo_longest_85 2 rfl ?_
          refine g_icmp_le F (tgt := 97) d_Mo_longest_86 (by decide) (fun h => ?_) (fun h => ?_)
          · rw [if_pos h] at hf
            refine g_iinc F (j := 3) (v := (v3 + 1)) (L' := [(3, .int (v3 + 1)), (0, .ref (ad 0)), (1, .int v1), (2, .int v2), (4, .int v4), (5, .int v5), (6, .long v6)]) d_Mo_longest_97 rfl rfl (by decide) rfl ?_
            refine g_goto F (tgt := 4) d_Mo_longest_100 (by decide) ?_
            refine g_loc [1, 2, 3, 0] rfl ?_
            exact hk4 v1 v2 (v3 + 1) tMo hf
          · rw [if_neg h] at hf
            refine g_iload F d_Mo_longest_89 4 rfl ?_
            refine g_istore_n F (L' := [(2, .int v4), (0, .ref (ad 0)), (1, .int v1), (3, .int v3), (4, .int v4), (5, .int v5), (6, .long v6)]) d_Mo_longest_91 rfl (by decide) rfl ?_
            refine g_aload_n F d_Mo_longest_92 1 rfl ?_
            refine g_iload_n F d_Mo_longest_93 3 rfl ?_
            refine g_put F in_X13 0 rfl rfl 31 (by decide) tyX13 tyX13_ok nmX13 mw_1137 rfl rfl rfl (Nat.le_of_ble_eq_true rfl) (ws' := (Wm ad cA (u_Mo_which tMo v3))) rfl d_Mo_longest_94 ?_
            refine g_iinc F (j := 3) (v := (v3 + 1)) (L' := [(3, .int (v3 + 1)), (2, .int v4), (0, .ref (ad 0)), (1, .int v1), (4, .int v4), (5, .int v5), (6, .long v6)]) d_Mo_longest_97 rfl rfl (by decide) rfl ?_
            refine g_goto F (tgt := 4) d_Mo_longest_100 (by decide) ?_
            refine g_loc [2, 3, 1, 0] rfl ?_
            exact hk4 v1 v4 (v3 + 1) (u_Mo_which tMo v3) hf
      · rw [if_neg h] at hf
        refine g_iload F d_Mo_longest_34 5 rfl ?_
        refine g_if_eq F (tgt := 62) d_Mo_longest_36 (by decide) (fun h => ?_) (fun h => ?_)
        · rw [if_pos h] at hf
          refine g_iconst F (v := 0) d_Mo_longest_62 (by decide) ?_
          refine g_istore F (L' := [(5, .int 0), (0, .ref (ad 0)), (1, .int v1), (2, .int v2), (3, .int v3), (4, .int v4), (6, .long v6)]) d_Mo_longest_63 (by decide) rfl ?_
          refine g_iinc F (j := 5) (v := (v4 + 1)) (L' := [(4, .int (v4 + 1)), (5, .int 0), (0, .ref (ad 0)), (1, .int v1), (2, .int v2), (3, .int v3), (6, .long v6)]) d_Mo_longest_65 rfl rfl (by decide) rfl ?_
          refine g_lload F d_Mo_longest_68 6 rfl ?_
          refine g_bipush F (v := 8) d_Mo_longest_70 (by decide) ?_
          refine g_lushr F d_Mo_longest_72 ?_
          refine g_lstore F (L' := [(6, .long (((v6 : Int64).toUInt64 >>> ((8 : Int32).toInt64.toUInt64 &&& Int64.toUInt64 63)).toInt64)), (4, .int (v4 + 1)), (5, .int 0), (0, .ref (ad 0)), (1, .int v1), (2, .int v2), (3, .int v3)]) d_Mo_longest_73 (by decide) rfl ?_
          refine g_goto F (tgt := 27) d_Mo_longest_75 (by decide) ?_
          refine g_loc [3, 4, 5, 6, 1, 2, 0] rfl ?_
          exact ih v1 v2 v3 (v4 + 1) 0 (((v6 : Int64).toUInt64 >>> ((8 : Int32).toInt64.toUInt64 &&& Int64.toUInt64 63)).toInt64) tMo hf
        · rw [if_neg h] at hf
          refine g_aload_n F d_Mo_longest_39 0 rfl ?_
          refine g_iload_n F d_Mo_longest_40 1 rfl ?_
          refine g_iload F d_Mo_longest_41 4 rfl ?_
          refine g_iadd F d_Mo_longest_43 ?_
          obtain ⟨x1, hx1, hf⟩ := g_bind hf
          refine g_ci F (r0 := x1) (ws' := (Wm ad cA tMo)) (fun H locs ls hP hD hS hl => g_runV F (As := [.int (v1 + v4)]) (n := 1) mw_1228 rfl rfl ⟨by decide, by decide⟩ rfl (by exact Nat.le_of_ble_eq_true rfl) mw_1225 mw_1227 mw_34 mw_85 (by decide +kernel) d_Mo_longest_44 hP hD hS hl (va_recv F.2.2.2.2.2.1 hP (ci := 9) rfl (q0 := 0) rfl) (c_Mo_charAt l D cA z ad tMo (v1 + v4) hx1 H.size)) ?_
          refine g_i2l F d_Mo_longest_47 ?_
          refine g_lload F d_Mo_longest_48 6 rfl ?_
          refine g_ldc2 F (v := 255) mw_1292 d_Mo_longest_50 ?_
          refine g_land F d_Mo_longest_53 ?_
          refine g_lcmp F d_Mo_longest_54 ?_
          refine g_if_ne F (tgt := 62) d_Mo_longest_55 (by decide) (fun h => ?_) (fun h => ?_)
          · rw [if_neg h] at hf
            refine g_iconst F (v := 0) d_Mo_longest_62 (by decide) ?_
            refine g_istore F (L' := [(5, .int 0), (0, .ref (ad 0)), (1, .int v1), (2, .int v2), (3, .int v3), (4, .int v4), (6, .long v6)]) d_Mo_longest_63 (by decide) rfl ?_
            refine g_iinc F (j := 5) (v := (v4 + 1)) (L' := [(4, .int (v4 + 1)), (5, .int 0), (0, .ref (ad 0)), (1, .int v1), (2, .int v2), (3, .int v3), (6, .long v6)]) d_Mo_longest_65 rfl rfl (by decide) rfl ?_
            refine g_lload F d_Mo_longest_68 6 rfl ?_
            refine g_bipush F (v := 8) d_Mo_longest_70 (by decide) ?_
            refine g_lushr F d_Mo_longest_72 ?_
            refine g_lstore F (L' := [(6, .long (((v6 : Int64).toUInt64 >>> ((8 : Int32).toInt64.toUInt64 &&& Int64.toUInt64 63)).toInt64)), (4, .int (v4 + 1)), (5, .int 0), (0, .ref (ad 0)), (1, .int v1), (2, .int v2), (3, .int v3)]) d_Mo_longest_73 (by decide) rfl ?_
            refine g_goto F (tgt := 27) d_Mo_longest_75 (by decide) ?_
            refine g_loc [3, 4, 5, 6, 1, 2, 0] rfl ?_
            exact ih v1 v2 v3 (v4 + 1) 0 (((v6 : Int64).toUInt64 >>> ((8 : Int32).toInt64.toUInt64 &&& Int64.toUInt64 63)).toInt64) tMo hf
          · rw [if_pos h] at hf
            refine g_iconst F (v := 1) d_Mo_longest_58 (by decide) ?_
            refine g_goto F (tgt := 63) d_Mo_longest_59 (by decide) ?_
            refine g_istore F (L' := [(5, .int 1), (0, .ref (ad 0)), (1, .int v1), (2, .int v2), (3, .int v3), (4, .int v4), (6, .long v6)]) d_Mo_longest_63 (by decide) rfl ?_
            refine g_iinc F (j := 5) (v := (v4 + 1)) (L' := [(4, .int (v4 + 1)), (5, .int 1), (0, .ref (ad 0)), (1, .int v1), (2, .int v2), (3, .int v3), (6, .long v6)]) d_Mo_longest_65 rfl rfl (by decide) rfl ?_
            refine g_lload F d_Mo_longest_68 6 rfl ?_
            refine g_bipush F (v := 8) d_Mo_longest_70 (by decide) ?_
            refine g_lushr F d_Mo_longest_72 ?_
            refine g_lstore F (L' := [(6, .long (((v6 : Int64).toUInt64 >>> ((8 : Int32).toInt64.toUInt64 &&& Int64.toUInt64 63)).toInt64)), (4, .int (v4 + 1)), (5, .int 1), (0, .ref (ad 0)), (1, .int v1), (2, .int v2), (3, .int v3)]) d_Mo_longest_73 (by decide) rfl ?_
            refine g_goto F (tgt := 27) d_Mo_longest_75 (by decide) ?_
            refine g_loc [3, 4, 5, 6, 1, 2, 0] rfl ?_
            exact ih v1 v2 v3 (v4 + 1) 1 (((v6 : Int64).toUInt64 >>> ((8 : Int32).toInt64.toUInt64 &&& Int64.toUInt64 63)).toInt64) tMo hf
  have blk4 : ∀ (n : Nat) (v1 : Int32) (v2 : Int32) (v3 : Int32) (tMo : SMo), f_Mo_longest_4 n v1 v2 v3 tMo = some x → GW p l e { frames := 1, cells := 0, slots := 0, locals := 21 } s m args below meth c (gQi D (gT cA) (va_A (Wm ad cA sMo) sz) x.1 (Wm ad cA x.2)) D (va_A (Wm ad cA sMo) sz) 8 (Wm ad cA tMo) 4 [(0, .ref (ad 0)), (1, .int v1), (2, .int v2), (3, .int v3)] [] := by
    intro n
    induction n with
    | zero => intro _ _ _ _ hf; cases hf
    | succ n ih =>
      intro v1 v2 v3 tMo hf
      rw [f_Mo_longest_4] at hf
      refine g_iload_n F d_Mo_longest_4 3 rfl ?_
      refine g_aload_n F d_Mo_longest_5 0 rfl ?_
      refine g_get F (v := .ref (ad 1)) in_X13 0 rfl rfl 0 (by decide) mw_1106 rfl d_Mo_longest_6 ?_
      refine g_alen F (v := 53) 1 2 rfl rfl rfl d_Mo_longest_9 ?_
      refine g_icmp_ge F (tgt := 103) d_Mo_longest_10 (by decide) (fun h => ?_) (fun h => ?_)
      · rw [if_pos h] at hf
        refine g_iload_n F d_Mo_longest_103 2 rfl ?_
        cases hf
        exact g_iret F hr hlk rfl rfl rfl d_Mo_longest_104
      · rw [if_neg h] at hf
        refine g_iconst F (v := 0) d_Mo_longest_13 (by decide) ?_
        refine g_istore F (L' := [(4, .int 0), (0, .ref (ad 0)), (1, .int v1), (2, .int v2), (3, .int v3)]) d_Mo_longest_14 (by decide) rfl ?_
        refine g_iconst F (v := 1) d_Mo_longest_16 (by decide) ?_
        refine g_istore F (L' := [(5, .int 1), (4, .int 0), (0, .ref (ad 0)), (1, .int v1), (2, .int v2), (3, .int v3)]) d_Mo_longest_17 (by decide) rfl ?_
        refine g_aload_n F d_Mo_longest_19 2 rfl ?_
        refine g_get F (v := .ref (ad 1)) in_X13 0 rfl rfl 0 (by decide) mw_1106 rfl d_Mo_longest_20 ?_
        refine g_iload_n F d_Mo_longest_23 5 rfl ?_
        obtain ⟨k1, hf⟩ := g_chk hf
        refine g_lald F (f := (q_Mo_names tMo)) 1 2 rfl rfl k1 d_Mo_longest_24 ?_
        refine g_lstore F (L' := [(6, .long ((q_Mo_names tMo) (v3 : Int32).toNatClampNeg)), (5, .int 1), (4, .int 0), (0, .ref (ad 0)), (1, .int v1), (2, .int v2), (3, .int v3)]) d_Mo_longest_25 (by decide) rfl ?_
        refine g_loc [3, 4, 5, 6, 2, 1, 0] rfl ?_
        exact blk27 _ (fun v1 v2 v3 tMo h => ih v1 v2 v3 tMo h) FU v1 v2 v3 0 1 ((q_Mo_names tMo) (v3 : Int32).toNatClampNeg) tMo hf
  unfold f_Mo_longest at hf
  refine g_iconst F (v := 0) d_Mo_longest_0 (by decide) ?_
  refine g_istore_n F (L' := [(2, .int 0), (0, .ref (ad 0)), (1, .int a1)]) d_Mo_longest_1 rfl (by decide) rfl ?_
  refine g_iconst F (v := 0) d_Mo_longest_2 (by decide) ?_
  refine g_istore_n F (L' := [(3, .int 0), (2, .int 0), (0, .ref (ad 0)), (1, .int a1)]) d_Mo_longest_3 rfl (by decide) rfl ?_
  refine g_loc [2, 3, 1, 0] rfl ?_
  exact blk4 FU a1 0 0 sMo hf
set_option maxHeartbeats 4000000 in
set_option maxRecDepth 100000 in
theorem c_Mo_named (l : Launch) (D : va_G) (cA : Nat → ClassId) (z : gZ) (ad : Nat → Nat) (sMo : SMo) (a1 : Int32) (a2 : Int32) {x : SMo} (hf : f_Mo_named a1 a2 sMo = some x) (sz : Nat) : Met l y_Mo_named (.code y_Mo_named b_Mo_named 6 none :: lw_g) { frames := 4, cells := 0, slots := 0, locals := 87 } (gP D (gT cA) z [.ref (ad 0), .int a1, .int a2] (Wm ad cA sMo) sz) (gQv D (gT cA) (va_A (Wm ad cA sMo) sz) (Wm ad cA x)) 0 0 (va_A (Wm ad cA sMo) sz) := by
  refine g_met (by decide) (Nat.le_of_ble_eq_true rfl) rfl ?_
  intro p e s m args below meth c F hr hlk
  have blk13 : ∀ (n : Nat) (v1 : Int32) (v2 : Int32) (v3 : Int32) (tMo : SMo), f_Mo_named_13 n v1 v2 v3 tMo = some x → GW p l e { frames := 4, cells := 0, slots := 0, locals := 87 } s m args below meth c (gQv D (gT cA) (va_A (Wm ad cA sMo) sz) (Wm ad cA x)) D (va_A (Wm ad cA sMo) sz) 6 (Wm ad cA tMo) 13 [(0, .ref (ad 0)), (1, .int v1), (2, .int v2), (3, .int v3)] [] := by
    intro n
    induction n with
    | zero => intro _ _ _ _ hf; cases hf
    | succ n ih =>
      intro v1 v2 v3 tMo hf
      rw [f_Mo_named_13] at hf
      refine g_aload_n F d_Mo_named_13 0 rfl ?_
      refine g_aload_n F d_Mo_named_14 0 rfl ?_
      refine g_get F (v := .int (q_Mo_p tMo)) in_X13 0 rfl rfl 7 (by decide) mw_1113 rfl d_Mo_named_15 ?_
      obtain ⟨x1, hx1, hf⟩ := g_bind hf
      refine g_ci F (r0 := x1) (ws' := (Wm ad cA tMo)) (fun H locs ls hP hD hS hl => g_runV F (As := [.int (q_Mo_p tMo)]) (n := 1) mw_1228 rfl rfl ⟨by decide, by decide⟩ rfl (by exact Nat.le_of_ble_eq_true rfl) mw_1225 mw_1227 mw_34 mw_85 (by decide +kernel) d_Mo_named_18 hP hD hS hl (va_recv F.2.2.2.2.2.1 hP (ci := 9) rfl (q0 := 0) rfl) (c_Mo_charAt l D cA z ad tMo (q_Mo_p tMo) hx1 H.size)) ?_
      refine g_ci F (r0 := (f_Mo_isLetter x1)) (ws' := (Wm ad cA tMo)) (fun H locs ls hP hD hS hl => g_runS F (As := [.int x1]) (n := 1) mw_1280 rfl rfl ⟨by decide, by decide⟩ rfl (by exact Nat.le_of_ble_eq_true rfl) mw_1278 mw_1279 mw_85 (by decide +kernel) d_Mo_named_21 hP hD hS hl (c_Mo_isLetter l D cA z ad tMo x1 rfl H.size)) ?_
      refine g_if_ne F (tgt := 41) d_Mo_named_24 (by decide) (fun h => ?_) (fun h => ?_)
      · rw [if_neg h] at hf
        refine g_aload_n F d_Mo_named_41 0 rfl ?_
        refine g_dup F d_Mo_named_42 rfl ?_
        refine g_get F (v := .int (q_Mo_p tMo)) in_X13 0 rfl rfl 7 (by decide) mw_1113 rfl d_Mo_named_43 ?_
        refine g_iconst F (v := 1) d_Mo_named_46 (by decide) ?_
        refine g_iadd F d_Mo_named_47 ?_
        refine g_put F in_X13 0 rfl rfl 7 (by decide) tyX13 tyX13_ok nmX13 mw_1113 rfl rfl rfl (Nat.le_of_ble_eq_true rfl) (ws' := (Wm ad cA (u_Mo_p tMo ((q_Mo_p tMo) + 1)))) rfl d_Mo_named_48 ?_
        refine g_goto F (tgt := 13) d_Mo_named_51 (by decide) ?_
        exact ih v1 v2 v3 (u_Mo_p tMo ((q_Mo_p tMo) + 1)) hf
      · rw [if_pos h] at hf
        refine g_aload_n F d_Mo_named_27 0 rfl ?_
        refine g_aload_n F d_Mo_named_28 0 rfl ?_
        refine g_get F (v := .int (q_Mo_p tMo)) in_X13 0 rfl rfl 7 (by decide) mw_1113 rfl d_Mo_named_29 ?_
        obtain ⟨x2, hx2, hf⟩ := g_bind hf
        refine g_ci F (r0 := x2) (ws' := (Wm ad cA tMo)) (fun H locs ls hP hD hS hl => g_runV F (As := [.int (q_Mo_p tMo)]) (n := 1) mw_1228 rfl rfl ⟨by decide, by decide⟩ rfl (by exact Nat.le_of_ble_eq_true rfl) mw_1225 mw_1227 mw_34 mw_85 (by decide +kernel) d_Mo_named_32 hP hD hS hl (va_recv F.2.2.2.2.2.1 hP (ci := 9) rfl (q0 := 0) rfl) (c_Mo_charAt l D cA z ad tMo (q_Mo_p tMo) hx2 H.size)) ?_
        refine g_ci F (r0 := (f_Mo_isDigit x2)) (ws' := (Wm ad cA tMo)) (fun H locs ls hP hD hS hl => g_runS F (As := [.int x2]) (n := 1) mw_1242 rfl rfl ⟨by decide, by decide⟩ rfl (by exact Nat.le_of_ble_eq_true rfl) mw_1240 mw_1241 mw_85 (by decide +kernel) d_Mo_named_35 hP hD hS hl (c_Mo_isDigit l D cA z ad tMo x2 rfl H.size)) ?_
        refine g_if_eq F (tgt := 54) d_Mo_named_38 (by decide) (fun h => ?_) (fun h => ?_)
        · rw [if_pos h] at hf
          refine g_aload_n F d_Mo_named_54 0 rfl ?_
          refine g_iload_n F d_Mo_named_55 1 rfl ?_
          refine g_iload_n F d_Mo_named_56 2 rfl ?_
          obtain ⟨x3, hx3, hf⟩ := g_bind hf
          refine g_cv F (ws' := (Wm ad cA x3)) (fun H locs ls hP hD hS hl => g_runV F (As := [.int v1, .int v2]) (n := 2) mw_1251 rfl rfl ⟨by decide, by decide⟩ rfl (by exact Nat.le_of_ble_eq_true rfl) mw_1248 mw_1250 mw_38 mw_85 (by decide +kernel) d_Mo_named_57 hP hD hS hl (va_recv F.2.2.2.2.2.1 hP (ci := 9) rfl (q0 := 0) rfl) (c_Mo_giveAll l D cA z ad tMo v1 v2 hx3 H.size)) ?_
          refine g_aload_n F d_Mo_named_60 0 rfl ?_
          refine g_aload_n F d_Mo_named_61 0 rfl ?_
          refine g_get F (v := .int (q_Mo_p x3)) in_X13 0 rfl rfl 7 (by decide) mw_1113 rfl d_Mo_named_62 ?_
          obtain ⟨x4, hx4, hf⟩ := g_bind hf
          refine g_ci F (r0 := x4) (ws' := (Wm ad cA x3)) (fun H locs ls hP hD hS hl => g_runV F (As := [.int (q_Mo_p x3)]) (n := 1) mw_1228 rfl rfl ⟨by decide, by decide⟩ rfl (by exact Nat.le_of_ble_eq_true rfl) mw_1225 mw_1227 mw_34 mw_85 (by decide +kernel) d_Mo_named_65 hP hD hS hl (va_recv F.2.2.2.2.2.1 hP (ci := 9) rfl (q0 := 0) rfl) (c_Mo_charAt l D cA z ad x3 (q_Mo_p x3) hx4 H.size)) ?_
          refine g_bipush F (v := 59) d_Mo_named_68 (by decide) ?_
          refine g_icmp_ne F (tgt := 83) d_Mo_named_70 (by decide) (fun h => ?_) (fun h => ?_)
          · rw [if_neg h] at hf
            cases hf
            exact g_vret F hr hlk rfl rfl d_Mo_named_83
          · rw [if_pos h] at hf
            refine g_aload_n F d_Mo_named_73 0 rfl ?_
            refine g_bipush F (v := 26) d_Mo_named_74 (by decide) ?_
            refine g_aload_n F d_Mo_named_76 0 rfl ?_
            refine g_get F (v := .int (q_Mo_p x3)) in_X13 0 rfl rfl 7 (by decide) mw_1113 rfl d_Mo_named_77 ?_
            obtain ⟨x5, hx5, hf⟩ := g_bind hf
            refine g_cv F (ws' := (Wm ad cA x5)) (fun H locs ls hP hD hS hl => g_runV F (As := [.int 26, .int (q_Mo_p x3)]) (n := 2) mw_1247 rfl rfl ⟨by decide, by decide⟩ rfl (by exact Nat.le_of_ble_eq_true rfl) mw_1244 mw_1246 mw_37 mw_85 (by decide +kernel) d_Mo_named_80 hP hD hS hl (va_recv F.2.2.2.2.2.1 hP (ci := 9) rfl (q0 := 0) rfl) (c_Mo_wrong l D cA z ad x3 26 (q_Mo_p x3) hx5 H.size)) ?_
            cases hf
            exact g_vret F hr hlk rfl rfl d_Mo_named_83
        · rw [if_neg h] at hf
          refine g_aload_n F d_Mo_named_41 0 rfl ?_
          refine g_dup F d_Mo_named_42 rfl ?_
          refine g_get F (v := .int (q_Mo_p tMo)) in_X13 0 rfl rfl 7 (by decide) mw_1113 rfl d_Mo_named_43 ?_
          refine g_iconst F (v := 1) d_Mo_named_46 (by decide) ?_
          refine g_iadd F d_Mo_named_47 ?_
          refine g_put F in_X13 0 rfl rfl 7 (by decide) tyX13 tyX13_ok nmX13 mw_1113 rfl rfl rfl (Nat.le_of_ble_eq_true rfl) (ws' := (Wm ad cA (u_Mo_p tMo ((q_Mo_p tMo) + 1)))) rfl d_Mo_named_48 ?_
          refine g_goto F (tgt := 13) d_Mo_named_51 (by decide) ?_
          exact ih v1 v2 v3 (u_Mo_p tMo ((q_Mo_p tMo) + 1)) hf
  unfold f_Mo_named at hf
  refine g_aload_n F d_Mo_named_0 0 rfl ?_
  refine g_aload_n F d_Mo_named_1 0 rfl ?_
  refine g_get F (v := .int (q_Mo_p sMo)) in_X13 0 rfl rfl 7 (by decide) mw_1113 rfl d_Mo_named_2 ?_
  obtain ⟨x6, hx6, hf⟩ := g_bind hf
  refine g_ci F (r0 := x6.1) (ws' := (Wm ad cA x6.2)) (fun H locs ls hP hD hS hl => g_runV F (As := [.int (q_Mo_p sMo)]) (n := 1) mw_1291 rfl rfl ⟨by decide, by decide⟩ rfl (by exact Nat.le_of_ble_eq_true rfl) mw_1288 mw_1290 mw_44 mw_85 (by decide +kernel) d_Mo_named_5 hP hD hS hl (va_recv F.2.2.2.2.2.1 hP (ci := 9) rfl (q0 := 0) rfl) (c_Mo_longest l D cA z ad sMo (q_Mo_p sMo) hx6 H.size)) ?_
  refine g_istore_n F (L' := [(3, .int x6.1), (0, .ref (ad 0)), (1, .int a1), (2, .int a2)]) d_Mo_named_8 rfl (by decide) rfl ?_
  refine g_iload_n F d_Mo_named_9 0 rfl ?_
  refine g_if_ne F (tgt := 84) d_Mo_named_10 (by decide) (fun h => ?_) (fun h => ?_)
  · rw [if_neg h] at hf
    refine g_aload_n F d_Mo_named_84 1 rfl ?_
    refine g_aload_n F d_Mo_named_85 1 rfl ?_
    refine g_get F (v := .int (q_Mo_p x6.2)) in_X13 0 rfl rfl 7 (by decide) mw_1113 rfl d_Mo_named_86 ?_
    refine g_iload_n F d_Mo_named_89 0 rfl ?_
    refine g_iadd F d_Mo_named_90 ?_
    refine g_put F in_X13 0 rfl rfl 7 (by decide) tyX13 tyX13_ok nmX13 mw_1113 rfl rfl rfl (Nat.le_of_ble_eq_true rfl) (ws' := (Wm ad cA (u_Mo_p x6.2 ((q_Mo_p x6.2) + x6.1)))) rfl d_Mo_named_91 ?_
    refine g_aload_n F d_Mo_named_94 1 rfl ?_
    refine g_aload_n F d_Mo_named_95 1 rfl ?_
    refine g_get F (v := .int ((q_Mo_p x6.2) + x6.1)) in_X13 0 rfl rfl 7 (by decide) mw_1113 rfl d_Mo_named_96 ?_
    obtain ⟨x7, hx7, hf⟩ := g_bind hf
    refine g_ci F (r0 := x7) (ws' := (Wm ad cA (u_Mo_p x6.2 ((q_Mo_p x6.2) + x6.1)))) (fun H locs ls hP hD hS hl => g_runV F (As := [.int ((q_Mo_p x6.2) + x6.1)]) (n := 1) mw_1228 rfl rfl ⟨by decide, by decide⟩ rfl (by exact Nat.le_of_ble_eq_true rfl) mw_1225 mw_1227 mw_34 mw_85 (by decide +kernel) d_Mo_named_99 hP hD hS hl (va_recv F.2.2.2.2.2.1 hP (ci := 9) rfl (q0 := 0) rfl) (c_Mo_charAt l D cA z ad (u_Mo_p x6.2 ((q_Mo_p x6.2) + x6.1)) ((q_Mo_p x6.2) + x6.1) hx7 H.size)) ?_
    refine g_istore F (L' := [(4, .int x7), (3, .int x6.1), (0, .ref (ad 0)), (1, .int a1), (2, .int a2)]) d_Mo_named_102 (by decide) rfl ?_
    refine g_aload_n F d_Mo_named_104 2 rfl ?_
    refine g_aload_n F d_Mo_named_105 2 rfl ?_
    refine g_get F (v := .int ((q_Mo_p x6.2) + x6.1)) in_X13 0 rfl rfl 7 (by decide) mw_1113 rfl d_Mo_named_106 ?_
    refine g_iconst F (v := 1) d_Mo_named_109 (by decide) ?_
    refine g_isub F d_Mo_named_110 ?_
    obtain ⟨x8, hx8, hf⟩ := g_bind hf
    refine g_ci F (r0 := x8) (ws' := (Wm ad cA (u_Mo_p x6.2 ((q_Mo_p x6.2) + x6.1)))) (fun H locs ls hP hD hS hl => g_runV F (As := [.int (((q_Mo_p x6.2) + x6.1) - 1)]) (n := 1) mw_1228 rfl rfl ⟨by decide, by decide⟩ rfl (by exact Nat.le_of_ble_eq_true rfl) mw_1225 mw_1227 mw_34 mw_85 (by decide +kernel) d_Mo_named_111 hP hD hS hl (va_recv F.2.2.2.2.2.1 hP (ci := 9) rfl (q0 := 0) rfl) (c_Mo_charAt l D cA z ad (u_Mo_p x6.2 ((q_Mo_p x6.2) + x6.1)) (((q_Mo_p x6.2) + x6.1) - 1) hx8 H.size)) ?_
    refine g_bipush F (v := 59) d_Mo_named_114 (by decide) ?_
    refine g_icmp_eq F (tgt := 123) d_Mo_named_116 (by decide) (fun h => ?_) (fun h => ?_)
    · rw [if_pos h] at hf
      refine g_iconst F (v := 0) d_Mo_named_123 (by decide) ?_
      refine g_istore F (L' := [(5, .int 0), (4, .int x7), (3, .int x6.1), (0, .ref (ad 0)), (1, .int a1), (2, .int a2)]) d_Mo_named_124 (by decide) rfl ?_
      refine g_iload F d_Mo_named_126 0 rfl ?_
      refine g_if_eq F (tgt := 165) d_Mo_named_128 (by decide) (fun _ => ?_) (fun h => absurd h (by decide))
      refine g_iload F d_Mo_named_165 0 rfl ?_
      refine g_if_eq F (tgt := 180) d_Mo_named_167 (by decide) (fun _ => ?_) (fun h => absurd h (by decide))
      refine g_aload_n F d_Mo_named_180 3 rfl ?_
      refine g_aload_n F d_Mo_named_181 3 rfl ?_
      refine g_get F (v := .ref (ad 2)) in_X13 0 rfl rfl 1 (by decide) mw_1107 rfl d_Mo_named_182 ?_
      refine g_aload_n F d_Mo_named_185 3 rfl ?_
      refine g_get F (v := .int (q_Mo_which x6.2)) in_X13 0 rfl rfl 31 (by decide) mw_1137 rfl d_Mo_named_186 ?_
      obtain ⟨k1, hf⟩ := g_chk hf
      refine g_iald F (f := (q_Mo_gives x6.2)) 2 0 rfl rfl k1 d_Mo_named_189 ?_
      refine g_iload_n F d_Mo_named_190 5 rfl ?_
      obtain ⟨x9, hx9, hf⟩ := g_bind hf
      refine g_cv F (ws' := (Wm ad cA x9)) (fun H locs ls hP hD hS hl => g_runV F (As := [.int ((q_Mo_gives x6.2) ((q_Mo_which x6.2) : Int32).toNatClampNeg), .int a2]) (n := 2) mw_1255 rfl rfl ⟨by decide, by decide⟩ rfl (by exact Nat.le_of_ble_eq_true rfl) mw_1252 mw_1254 mw_39 mw_85 (by decide +kernel) d_Mo_named_191 hP hD hS hl (va_recv F.2.2.2.2.2.1 hP (ci := 9) rfl (q0 := 0) rfl) (c_Mo_give l D cA z ad (u_Mo_p x6.2 ((q_Mo_p x6.2) + x6.1)) ((q_Mo_gives x6.2) ((q_Mo_which x6.2) : Int32).toNatClampNeg) a2 hx9 H.size)) ?_
      cases hf
      exact g_vret F hr hlk rfl rfl d_Mo_named_194
    · rw [if_neg h] at hf
      refine g_iconst F (v := 1) d_Mo_named_119 (by decide) ?_
      refine g_goto F (tgt := 124) d_Mo_named_120 (by decide) ?_
      refine g_istore F (L' := [(5, .int 1), (4, .int x7), (3, .int x6.1), (0, .ref (ad 0)), (1, .int a1), (2, .int a2)]) d_Mo_named_124 (by decide) rfl ?_
      refine g_iload F d_Mo_named_126 0 rfl ?_
      refine g_if_eq F (tgt := 165) d_Mo_named_128 (by decide) (fun h => absurd h (by decide)) (fun _ => ?_)
      refine g_iload_n F d_Mo_named_131 5 rfl ?_
      refine g_if_eq F (tgt := 165) d_Mo_named_132 (by decide) (fun h => ?_) (fun h => ?_)
      · rw [if_pos h] at hf
        refine g_iload F d_Mo_named_165 0 rfl ?_
        refine g_if_eq F (tgt := 180) d_Mo_named_167 (by decide) (fun h => absurd h (by decide)) (fun _ => ?_)
        refine g_aload_n F d_Mo_named_170 3 rfl ?_
        refine g_bipush F (v := 25) d_Mo_named_171 (by decide) ?_
        refine g_aload_n F d_Mo_named_173 3 rfl ?_
        refine g_get F (v := .int ((q_Mo_p x6.2) + x6.1)) in_X13 0 rfl rfl 7 (by decide) mw_1113 rfl d_Mo_named_174 ?_
        obtain ⟨x10, hx10, hf⟩ := g_bind hf
        refine g_cv F (ws' := (Wm ad cA x10)) (fun H locs ls hP hD hS hl => g_runV F (As := [.int 25, .int ((q_Mo_p x6.2) + x6.1)]) (n := 2) mw_1247 rfl rfl ⟨by decide, by decide⟩ rfl (by exact Nat.le_of_ble_eq_true rfl) mw_1244 mw_1246 mw_37 mw_85 (by decide +kernel) d_Mo_named_177 hP hD hS hl (va_recv F.2.2.2.2.2.1 hP (ci := 9) rfl (q0 := 0) rfl) (c_Mo_wrong l D cA z ad (u_Mo_p x6.2 ((q_Mo_p x6.2) + x6.1)) 25 ((q_Mo_p x6.2) + x6.1) hx10 H.size)) ?_
        refine g_aload_n F d_Mo_named_180 3 rfl ?_
        refine g_aload_n F d_Mo_named_181 3 rfl ?_
        refine g_get F (v := .ref (ad 2)) in_X13 0 rfl rfl 1 (by decide) mw_1107 rfl d_Mo_named_182 ?_
        refine g_aload_n F d_Mo_named_185 3 rfl ?_
        refine g_get F (v := .int (q_Mo_which x10)) in_X13 0 rfl rfl 31 (by decide) mw_1137 rfl d_Mo_named_186 ?_
        obtain ⟨k2, hf⟩ := g_chk hf
        refine g_iald F (f := (q_Mo_gives x10)) 2 0 rfl rfl k2 d_Mo_named_189 ?_
        refine g_iload_n F d_Mo_named_190 5 rfl ?_
        obtain ⟨x11, hx11, hf⟩ := g_bind hf
        refine g_cv F (ws' := (Wm ad cA x11)) (fun H locs ls hP hD hS hl => g_runV F (As := [.int ((q_Mo_gives x10) ((q_Mo_which x10) : Int32).toNatClampNeg), .int a2]) (n := 2) mw_1255 rfl rfl ⟨by decide, by decide⟩ rfl (by exact Nat.le_of_ble_eq_true rfl) mw_1252 mw_1254 mw_39 mw_85 (by decide +kernel) d_Mo_named_191 hP hD hS hl (va_recv F.2.2.2.2.2.1 hP (ci := 9) rfl (q0 := 0) rfl) (c_Mo_give l D cA z ad x10 ((q_Mo_gives x10) ((q_Mo_which x10) : Int32).toNatClampNeg) a2 hx11 H.size)) ?_
        cases hf
        exact g_vret F hr hlk rfl rfl d_Mo_named_194
      · rw [if_neg h] at hf
        refine g_iload F d_Mo_named_135 1 rfl ?_
        refine g_ci F (r0 := (f_Mo_isLetter x7)) (ws' := (Wm ad cA (u_Mo_p x6.2 ((q_Mo_p x6.2) + x6.1)))) (fun H locs ls hP hD hS hl => g_runS F (As := [.int x7]) (n := 1) mw_1280 rfl rfl ⟨by decide, by decide⟩ rfl (by exact Nat.le_of_ble_eq_true rfl) mw_1278 mw_1279 mw_85 (by decide +kernel) d_Mo_named_137 hP hD hS hl (c_Mo_isLetter l D cA z ad (u_Mo_p x6.2 ((q_Mo_p x6.2) + x6.1)) x7 rfl H.size)) ?_
        refine g_if_ne F (tgt := 158) d_Mo_named_140 (by decide) (fun h => ?_) (fun h => ?_)
        · rw [if_neg h] at hf
          refine g_aload_n F d_Mo_named_158 3 rfl ?_
          refine g_iload_n F d_Mo_named_159 4 rfl ?_
          refine g_iconst F (v := 1) d_Mo_named_160 (by decide) ?_
          obtain ⟨x12, hx12, hf⟩ := g_bind hf
          refine g_cv F (ws' := (Wm ad cA x12)) (fun H locs ls hP hD hS hl => g_runV F (As := [.int a1, .int 1]) (n := 2) mw_1251 rfl rfl ⟨by decide, by decide⟩ rfl (by exact Nat.le_of_ble_eq_true rfl) mw_1248 mw_1250 mw_38 mw_85 (by decide +kernel) d_Mo_named_161 hP hD hS hl (va_recv F.2.2.2.2.2.1 hP (ci := 9) rfl (q0 := 0) rfl) (c_Mo_giveAll l D cA z ad (u_Mo_p x6.2 ((q_Mo_p x6.2) + x6.1)) a1 1 hx12 H.size)) ?_
          cases hf
          exact g_vret F hr hlk rfl rfl d_Mo_named_164
        · rw [if_pos h] at hf
          refine g_iload F d_Mo_named_143 1 rfl ?_
          refine g_ci F (r0 := (f_Mo_isDigit x7)) (ws' := (Wm ad cA (u_Mo_p x6.2 ((q_Mo_p x6.2) + x6.1)))) (fun H locs ls hP hD hS hl => g_runS F (As := [.int x7]) (n := 1) mw_1242 rfl rfl ⟨by decide, by decide⟩ rfl (by exact Nat.le_of_ble_eq_true rfl) mw_1240 mw_1241 mw_85 (by decide +kernel) d_Mo_named_145 hP hD hS hl (c_Mo_isDigit l D cA z ad (u_Mo_p x6.2 ((q_Mo_p x6.2) + x6.1)) x7 rfl H.size)) ?_
          refine g_if_ne F (tgt := 158) d_Mo_named_148 (by decide) (fun h => ?_) (fun h => ?_)
          · rw [if_neg h] at hf
            refine g_aload_n F d_Mo_named_158 3 rfl ?_
            refine g_iload_n F d_Mo_named_159 4 rfl ?_
            refine g_iconst F (v := 1) d_Mo_named_160 (by decide) ?_
            obtain ⟨x13, hx13, hf⟩ := g_bind hf
            refine g_cv F (ws' := (Wm ad cA x13)) (fun H locs ls hP hD hS hl => g_runV F (As := [.int a1, .int 1]) (n := 2) mw_1251 rfl rfl ⟨by decide, by decide⟩ rfl (by exact Nat.le_of_ble_eq_true rfl) mw_1248 mw_1250 mw_38 mw_85 (by decide +kernel) d_Mo_named_161 hP hD hS hl (va_recv F.2.2.2.2.2.1 hP (ci := 9) rfl (q0 := 0) rfl) (c_Mo_giveAll l D cA z ad (u_Mo_p x6.2 ((q_Mo_p x6.2) + x6.1)) a1 1 hx13 H.size)) ?_
            cases hf
            exact g_vret F hr hlk rfl rfl d_Mo_named_164
          · rw [if_pos h] at hf
            refine g_iload F d_Mo_named_151 1 rfl ?_
            refine g_bipush F (v := 61) d_Mo_named_153 (by decide) ?_
            refine g_icmp_ne F (tgt := 165) d_Mo_named_155 (by decide) (fun h => ?_) (fun h => ?_)
            · rw [if_neg h] at hf
              refine g_iload F d_Mo_named_165 0 rfl ?_
              refine g_if_eq F (tgt := 180) d_Mo_named_167 (by decide) (fun h => absurd h (by decide)) (fun _ => ?_)
              refine g_aload_n F d_Mo_named_170 3 rfl ?_
              refine g_bipush F (v := 25) d_Mo_named_171 (by decide) ?_
              refine g_aload_n F d_Mo_named_173 3 rfl ?_
              refine g_get F (v := .int ((q_Mo_p x6.2) + x6.1)) in_X13 0 rfl rfl 7 (by decide) mw_1113 rfl d_Mo_named_174 ?_
              obtain ⟨x14, hx14, hf⟩ := g_bind hf
              refine g_cv F (ws' := (Wm ad cA x14)) (fun H locs ls hP hD hS hl => g_runV F (As := [.int 25, .int ((q_Mo_p x6.2) + x6.1)]) (n := 2) mw_1247 rfl rfl ⟨by decide, by decide⟩ rfl (by exact Nat.le_of_ble_eq_true rfl) mw_1244 mw_1246 mw_37 mw_85 (by decide +kernel) d_Mo_named_177 hP hD hS hl (va_recv F.2.2.2.2.2.1 hP (ci := 9) rfl (q0 := 0) rfl) (c_Mo_wrong l D cA z ad (u_Mo_p x6.2 ((q_Mo_p x6.2) + x6.1)) 25 ((q_Mo_p x6.2) + x6.1) hx14 H.size)) ?_
              refine g_aload_n F d_Mo_named_180 3 rfl ?_
              refine g_aload_n F d_Mo_named_181 3 rfl ?_
              refine g_get F (v := .ref (ad 2)) in_X13 0 rfl rfl 1 (by decide) mw_1107 rfl d_Mo_named_182 ?_
              refine g_aload_n F d_Mo_named_185 3 rfl ?_
              refine g_get F (v := .int (q_Mo_which x14)) in_X13 0 rfl rfl 31 (by decide) mw_1137 rfl d_Mo_named_186 ?_
              obtain ⟨k3, hf⟩ := g_chk hf
              refine g_iald F (f := (q_Mo_gives x14)) 2 0 rfl rfl k3 d_Mo_named_189 ?_
              refine g_iload_n F d_Mo_named_190 5 rfl ?_
              obtain ⟨x15, hx15, hf⟩ := g_bind hf
              refine g_cv F (ws' := (Wm ad cA x15)) (fun H locs ls hP hD hS hl => g_runV F (As := [.int ((q_Mo_gives x14) ((q_Mo_which x14) : Int32).toNatClampNeg), .int a2]) (n := 2) mw_1255 rfl rfl ⟨by decide, by decide⟩ rfl (by exact Nat.le_of_ble_eq_true rfl) mw_1252 mw_1254 mw_39 mw_85 (by decide +kernel) d_Mo_named_191 hP hD hS hl (va_recv F.2.2.2.2.2.1 hP (ci := 9) rfl (q0 := 0) rfl) (c_Mo_give l D cA z ad x14 ((q_Mo_gives x14) ((q_Mo_which x14) : Int32).toNatClampNeg) a2 hx15 H.size)) ?_
              cases hf
              exact g_vret F hr hlk rfl rfl d_Mo_named_194
            · rw [if_pos h] at hf
              refine g_aload_n F d_Mo_named_158 3 rfl ?_
              refine g_iload_n F d_Mo_named_159 4 rfl ?_
              refine g_iconst F (v := 1) d_Mo_named_160 (by decide) ?_
              obtain ⟨x16, hx16, hf⟩ := g_bind hf
              refine g_cv F (ws' := (Wm ad cA x16)) (fun H locs ls hP hD hS hl => g_runV F (As := [.int a1, .int 1]) (n := 2) mw_1251 rfl rfl ⟨by decide, by decide⟩ rfl (by exact Nat.le_of_ble_eq_true rfl) mw_1248 mw_1250 mw_38 mw_85 (by decide +kernel) d_Mo_named_161 hP hD hS hl (va_recv F.2.2.2.2.2.1 hP (ci := 9) rfl (q0 := 0) rfl) (c_Mo_giveAll l D cA z ad (u_Mo_p x6.2 ((q_Mo_p x6.2) + x6.1)) a1 1 hx16 H.size)) ?_
              cases hf
              exact g_vret F hr hlk rfl rfl d_Mo_named_164
  · rw [if_pos h] at hf
    refine g_loc [1, 2, 3, 0] rfl ?_
    exact blk13 FU a1 a2 x6.1 x6.2 hf
