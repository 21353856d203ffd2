set_option maxHeartbeats 4000000 in
set_option maxRecDepth 100000 in
theorem c_Mo_longest (l : Launch) (D : va_G) (cA : Nat → ClassId) (z : gZ) (ad : Nat → Nat) (sMo : SMo) (a1 : Int32) {x : Int32 × SMo} (hf : f_Mo_longest a1 sMo = some x) (sz : Nat) : Met l y_Mo_longest (.code y_Mo_longest b_Mo_longest 8 (some .int) :: lw_g) { frames := 1, cells := 0, slots := 0, locals := 21 } (gP D (gT cA) z [.ref (ad 0), .int a1] (Wo ad cA sMo) sz) (gQi D (gT cA) (va_A (Wo ad cA sMo) sz) x.1 (Wo ad cA x.2)) 0 0 (va_A (Wo ad cA sMo) sz) := by
  refine g_met (by decide) (Nat.le_of_ble_eq_true rfl) rfl ?_
  intro p e s m args below meth c F hr hlk
  have blk27 : ∀ (k4 : Int32 → Int32 → Int32 → SMo → Option (Int32 × SMo)), (∀ (v1 : Int32) (v2 : Int32) (v3 : Int32) (tMo : SMo), k4 v1 v2 v3 tMo = some x → GW p l e { frames := 1, cells := 0, slots := 0, locals := 21 } s m args below meth c (gQi D (gT cA) (va_A (Wo ad cA sMo) sz) x.1 (Wo ad cA x.2)) D (va_A (Wo ad cA sMo) sz) 8 (Wo ad cA tMo) 4 [(0, .ref (ad 0)), (1, .int v1), (2, .int v2), (3, .int v3)] []) → ∀ (n : Nat) (v1 : Int32) (v2 : Int32) (v3 : Int32) (v4 : Int32) (v5 : Int32) (v6 : Int64) (tMo : SMo), f_Mo_longest_27 k4 n v1 v2 v3 v4 v5 v6 tMo = some x → GW p l e { frames := 1, cells := 0, slots := 0, locals := 21 } s m args below meth c (gQi D (gT cA) (va_A (Wo ad cA sMo) sz) x.1 (Wo ad cA x.2)) D (va_A (Wo ad cA sMo) sz) 8 (Wo ad cA tMo) 27 [(0, .ref (ad 0)), (1, .int v1), (2, .int v2), (3, .int v3), (4, .int v4), (5, .int v5), (6, .long v6)] [] := by
    intro k4 hk4
    intro n
    induction n with
    | zero => intro _ _ _ _ _ _ _ hf; cases hf
    | succ n ih =>
      intro v1 v2 v3 v4 v5 v6 tMo hf
      rw [f_Mo_longest_27] at hf
      refine g_lload F d_Mo_longest_27 6 rfl ?_
      refine g_lconst F (v := 0) d_Mo_longest_29 (by decide) ?_
      refine g_lcmp F d_Mo_longest_30 ?_
      refine g_if_eq F (tgt := 78) d_Mo_longest_31 (by decide) (fun h => ?_) (fun h => ?_)
      · rw [if_pos h] at hf
        refine g_iload F d_Mo_longest_78 5 rfl ?_
        refine g_if_eq F (tgt := 97) d_Mo_longest_80 (by decide) (fun h => ?_) (fun h => ?_)
        · rw [if_pos h] at hf
          refine g_iinc F (j := 3) (v := (v3 + 1)) (L' := [(3, .int (v3 + 1)), (0, .ref (ad 0)), (1, .int v1), (2, .int v2), (4, .int v4), (5, .int v5), (6, .long v6)]) d_Mo_longest_97 rfl rfl (by decide) rfl ?_
          refine g_goto F (tgt := 4) d_Mo_longest_100 (by decide) ?_
          refine g_loc [1, 2, 3, 0] rfl ?_
          exact hk4 v1 v2 (v3 + 1) tMo hf
        · rw [if_neg h] at hf
          refine g_iload F d_Mo_longest_83 4 rfl ?_
          refine g_iload_n F d_Mo_longest_85 2 rfl ?_
          refine g_icmp_le F (tgt := 97) d_Mo_longest_86 (by decide) (fun h => ?_) (fun h => ?_)
          · rw [if_pos h] at hf
            refine g_iinc F (j := 3) (v := (v3 + 1)) (L' := [(3, .int (v3 + 1)), (0, .ref (ad 0)), (1, .int v1), (2, .int v2), (4, .int v4), (5, .int v5), (6, .long v6)]) d_Mo_longest_97 rfl rfl (by decide) rfl ?_
            refine g_goto F (tgt := 4) d_Mo_longest_100 (by decide) ?_
            refine g_loc [1, 2, 3, 0] rfl ?_
            exact hk4 v1 v2 (v3 + 1) tMo hf
          · rw [if_neg h] at hf
            refine g_iload F d_Mo_longest_89 4 rfl ?_
            refine g_istore_n F (L' := [(2, .int v4), (0, .ref (ad 0)), (1, .int v1), (3, .int v3), (4, .int v4), (5, .int v5), (6, .long v6)]) d_Mo_longest_91 rfl (by decide) rfl ?_
            refine g_aload_n F d_Mo_longest_92 1 rfl ?_
            refine g_iload_n F d_Mo_longest_93 3 rfl ?_
            refine g_put F in_X13 0 rfl rfl 31 (by decide) tyX13 tyX13_ok nmX13 mw_1137 rfl rfl rfl (Nat.le_of_ble_eq_true rfl) (ws' := (Wn ad cA (q_Mo_names tMo) (q_Mo_gives tMo) (q_Mo_turned tMo) (q_Mo_size tMo) (q_Mo_bytes tMo) (q_Mo_n tMo) (q_Mo_text tMo) (q_Mo_p tMo) (q_Mo_ended tMo) (q_Mo_tokens tMo) (q_Mo_kinds tMo) (q_Mo_firsts tMo) (q_Mo_sizes tMo) (q_Mo_marks tMo) (q_Mo_attributes tMo) (q_Mo_manyOf tMo) (q_Mo_attributeCount tMo) (q_Mo_nameAt tMo) (q_Mo_nameSize tMo) (q_Mo_valueAt tMo) (q_Mo_valueSize tMo) (q_Mo_goes tMo) (q_Mo_rowSize tMo) (q_Mo_row tMo) (q_Mo_textAt tMo) (q_Mo_textSize tMo) (q_Mo_faultCount tMo) (q_Mo_codes tMo) (q_Mo_places tMo) (q_Mo_outSize tMo) (q_Mo_out tMo) v3)) rfl d_Mo_longest_94 ?_
            refine g_iinc F (j := 3) (v := (v3 + 1)) (L' := [(3, .int (v3 + 1)), (2, .int v4), (0, .ref (ad 0)), (1, .int v1), (4, .int v4), (5, .int v5), (6, .long v6)]) d_Mo_longest_97 rfl rfl (by decide) rfl ?_
            refine g_goto F (tgt := 4) d_Mo_longest_100 (by decide) ?_
            refine g_loc [2, 3, 1, 0] rfl ?_
            exact hk4 v1 v4 (v3 + 1) (u_Mo_which tMo v3) hf
      · rw [if_neg h] at hf
        refine g_iload F d_Mo_longest_34 5 rfl ?_
        refine g_if_eq F (tgt := 62) d_Mo_longest_36 (by decide) (fun h => ?_) (fun h => ?_)
        · rw [if_pos h] at hf
          refine g_iconst F (v := 0) d_Mo_longest_62 (by decide) ?_
          refine g_istore F (L' := [(5, .int 0), (0, .ref (ad 0)), (1, .int v1), (2, .int v2), (3, .int v3), (4, .int v4), (6, .long v6)]) d_Mo_longest_63 (by decide) rfl ?_
          refine g_iinc F (j := 5) (v := (v4 + 1)) (L' := [(4, .int (v4 + 1)), (5, .int 0), (0, .ref (ad 0)), (1, .int v1), (2, .int v2), (3, .int v3), (6, .long v6)]) d_Mo_longest_65 rfl rfl (by decide) rfl ?_
          refine g_lload F d_Mo_longest_68 6 rfl ?_
          refine g_bipush F (v := 8) d_Mo_longest_70 (by decide) ?_
          refine g_lushr F d_Mo_longest_72 ?_
          refine g_lstore F (L' := [(6, .long (((v6 : Int64).toUInt64 >>> ((8 : Int32).toInt64.toUInt64 &&& Int64.toUInt64 63)).toInt64)), (4, .int (v4 + 1)), (5, .int 0), (0, .ref (ad 0)), (1, .int v1), (2, .int v2), (3, .int v3)]) d_Mo_longest_73 (by decide) rfl ?_
          refine g_goto F (tgt := 27) d_Mo_longest_75 (by decide) ?_
          refine g_loc [3, 4, 5, 6, 1, 2, 0] rfl ?_
          exact ih v1 v2 v3 (v4 + 1) 0 (((v6 : Int64).toUInt64 >>> ((8 : Int32).toInt64.toUInt64 &&& Int64.toUInt64 63)).toInt64) tMo hf
        · rw [if_neg h] at hf
          refine g_aload_n F d_Mo_longest_39 0 rfl ?_
          refine g_iload_n F d_Mo_longest_40 1 rfl ?_
          refine g_iload F d_Mo_longest_41 4 rfl ?_
          refine g_iadd F d_Mo_longest_43 ?_
          obtain ⟨x1, hx1, hf⟩ := g_bind hf
          refine g_ci F (r0 := x1) (ws' := (Wo ad cA tMo)) (fun H locs ls hP hD hS hl => g_runV F (As := [.int (v1 + v4)]) (n := 1) mw_1228 rfl rfl ⟨by decide, by decide⟩ rfl (by exact Nat.le_of_ble_eq_true rfl) mw_1225 mw_1227 mw_34 mw_85 (by decide +kernel) d_Mo_longest_44 hP hD hS hl (va_recv F.2.2.2.2.2.1 hP (ci := 9) rfl (q0 := 0) rfl) (c_Mo_charAt l D cA z ad tMo (v1 + v4) hx1 H.size)) ?_
          refine g_i2l F d_Mo_longest_47 ?_
          refine g_lload F d_Mo_longest_48 6 rfl ?_
          refine g_ldc2 F (v := 255) mw_1292 d_Mo_longest_50 ?_
          refine g_land F d_Mo_longest_53 ?_
          refine g_lcmp F d_Mo_longest_54 ?_
          refine g_if_ne F (tgt := 62) d_Mo_longest_55 (by decide) (fun h => ?_) (fun h => ?_)
          · rw [if_neg h] at hf
            refine g_iconst F (v := 0) d_Mo_longest_62 (by decide) ?_
            refine g_istore F (L' := [(5, .int 0), (0, .ref (ad 0)), (1, .int v1), (2, .int v2), (3, .int v3), (4, .int v4), (6, .long v6)]) d_Mo_longest_63 (by decide) rfl ?_
            refine g_iinc F (j := 5) (v := (v4 + 1)) (L' := [(4, .int (v4 + 1)), (5, .int 0), (0, .ref (ad 0)), (1, .int v1), (2, .int v2), (3, .int v3), (6, .long v6)]) d_Mo_longest_65 rfl rfl (by decide) rfl ?_
            refine g_lload F d_Mo_longest_68 6 rfl ?_
            refine g_bipush F (v := 8) d_Mo_longest_70 (by decide) ?_
            refine g_lushr F d_Mo_longest_72 ?_
            refine g_lstore F (L' := [(6, .long (((v6 : Int64).toUInt64 >>> ((8 : Int32).toInt64.toUInt64 &&& Int64.toUInt64 63)).toInt64)), (4, .int (v4 + 1)), (5, .int 0), (0, .ref (ad 0)), (1, .int v1), (2, .int v2), (3, .int v3)]) d_Mo_longest_73 (by decide) rfl ?_
            refine g_goto F (tgt := 27) d_Mo_longest_75 (by decide) ?_
            refine g_loc [3, 4, 5, 6, 1, 2, 0] rfl ?_
            exact ih v1 v2 v3 (v4 + 1) 0 (((v6 : Int64).toUInt64 >>> ((8 : Int32).toInt64.toUInt64 &&& Int64.toUInt64 63)).toInt64) tMo hf
          · rw [if_pos h] at hf
            refine g_iconst F (v := 1) d_Mo_longest_58 (by decide) ?_
            refine g_goto F (tgt := 63) d_Mo_longest_59 (by decide) ?_
            refine g_istore F (L' := [(5, .int 1), (0, .ref (ad 0)), (1, .int v1), (2, .int v2), (3, .int v3), (4, .int v4), (6, .long v6)]) d_Mo_longest_63 (by decide) rfl ?_
            refine g_iinc F (j := 5) (v := (v4 + 1)) (L' := [(4, .int (v4 + 1)), (5, .int 1), (0, .ref (ad 0)), (1, .int v1), (2, .int v2), (3, .int v3), (6, .long v6)]) d_Mo_longest_65 rfl rfl (by decide) rfl ?_
            refine g_lload F d_Mo_longest_68 6 rfl ?_
            refine g_bipush F (v := 8) d_Mo_longest_70 (by decide) ?_
            refine g_lushr F d_Mo_longest_72 ?_
            refine g_lstore F (L' := [(6, .long (((v6 : Int64).toUInt64 >>> ((8 : Int32).toInt64.toUInt64 &&& Int64.toUInt64 63)).toInt64)), (4, .int (v4 + 1)), (5, .int 1), (0, .ref (ad 0)), (1, .int v1), (2, .int v2), (3, .int v3)]) d_Mo_longest_73 (by decide) rfl ?_
            refine g_goto F (tgt := 27) d_Mo_longest_75 (by decide) ?_
            refine g_loc [3, 4, 5, 6, 1, 2, 0] rfl ?_
            exact ih v1 v2 v3 (v4 + 1) 1 (((v6 : Int64).toUInt64 >>> ((8 : Int32).toInt64.toUInt64 &&& Int64.toUInt64 63)).toInt64) tMo hf
  have blk4 : ∀ (n : Nat) (v1 : Int32) (v2 : Int32) (v3 : Int32) (tMo : SMo), f_Mo_longest_4 n v1 v2 v3 tMo = some x → GW p l e { frames := 1, cells := 0, slots := 0, locals := 21 } s m args below meth c (gQi D (gT cA) (va_A (Wo ad cA sMo) sz) x.1 (Wo ad cA x.2)) D (va_A (Wo ad cA sMo) sz) 8 (Wo ad cA tMo) 4 [(0, .ref (ad 0)), (1, .int v1), (2, .int v2), (3, .int v3)] [] := by
    intro n
    induction n with
    | zero => intro _ _ _ _ hf; cases hf
    | succ n ih =>
      intro v1 v2 v3 tMo hf
      rw [f_Mo_longest_4] at hf
      refine g_iload_n F d_Mo_longest_4 3 rfl ?_
      refine g_aload_n F d_Mo_longest_5 0 rfl ?_
      refine g_get F (v := .ref (ad 1)) in_X13 0 rfl rfl 0 (by decide) mw_1106 rfl d_Mo_longest_6 ?_
      refine g_alen F (v := 53) 1 2 rfl rfl rfl d_Mo_longest_9 ?_
      refine g_icmp_ge F (tgt := 103) d_Mo_longest_10 (by decide) (fun h => ?_) (fun h => ?_)
      · rw [if_pos h] at hf
        refine g_iload_n F d_Mo_longest_103 2 rfl ?_
        cases hf
        exact g_iret F hr hlk rfl rfl rfl d_Mo_longest_104
      · rw [if_neg h] at hf
        refine g_iconst F (v := 0) d_Mo_longest_13 (by decide) ?_
        refine g_istore F (L' := [(4, .int 0), (0, .ref (ad 0)), (1, .int v1), (2, .int v2), (3, .int v3)]) d_Mo_longest_14 (by decide) rfl ?_
        refine g_iconst F (v := 1) d_Mo_longest_16 (by decide) ?_
        refine g_istore F (L' := [(5, .int 1), (4, .int 0), (0, .ref (ad 0)), (1, .int v1), (2, .int v2), (3, .int v3)]) d_Mo_longest_17 (by decide) rfl ?_
        refine g_aload_n F d_Mo_longest_19 2 rfl ?_
        refine g_get F (v := .ref (ad 1)) in_X13 0 rfl rfl 0 (by decide) mw_1106 rfl d_Mo_longest_20 ?_
        refine g_iload_n F d_Mo_longest_23 5 rfl ?_
        obtain ⟨k1, hf⟩ := g_chk hf
        refine g_lald F (f := (q_Mo_names tMo)) 1 2 rfl rfl k1 d_Mo_longest_24 ?_
        refine g_lstore F (L' := [(6, .long ((q_Mo_names tMo) (v3 : Int32).toNatClampNeg)), (5, .int 1), (4, .int 0), (0, .ref (ad 0)), (1, .int v1), (2, .int v2), (3, .int v3)]) d_Mo_longest_25 (by decide) rfl ?_
        refine g_loc [3, 4, 5, 6, 2, 1, 0] rfl ?_
        exact blk27 _ (fun v1 v2 v3 tMo h => ih v1 v2 v3 tMo h) FU v1 v2 v3 0 1 ((q_Mo_names tMo) (v3 : Int32).toNatClampNeg) tMo hf
  unfold f_Mo_longest at hf
  refine g_iconst F (v := 0) d_Mo_longest_0 (by decide) ?_
  refine g_istore_n F (L' := [(2, .int 0), (0, .ref (ad 0)), (1, .int a1)]) d_Mo_longest_1 rfl (by decide) rfl ?_
  refine g_iconst F (v := 0) d_Mo_longest_2 (by decide) ?_
  refine g_istore_n F (L' := [(3, .int 0), (2, .int 0), (0, .ref (ad 0)), (1, .int a1)]) d_Mo_longest_3 rfl (by decide) rfl ?_
  refine g_loc [2, 3, 1, 0] rfl ?_
  exact blk4 FU a1 0 0 sMo hf
set_option maxHeartbeats 4000000 in
set_option maxRecDepth 100000 in
theorem c_Mo_named (l : Launch) (D : va_G) (cA : Nat → ClassId) (z : gZ) (ad : Nat → Nat) (sMo : SMo) (a1 : Int32) (a2 : Int32) {x : SMo} (hf : f_Mo_named a1 a2 sMo = some x) (sz : Nat) : Met l y_Mo_named (.code y_Mo_named b_Mo_named 6 none :: lw_g) { frames := 4, cells := 0, slots := 0, locals := 87 } (gP D (gT cA) z [.ref (ad 0), .int a1, .int a2] (Wo ad cA sMo) sz) (gQv D (gT cA) (va_A (Wo ad cA sMo) sz) (Wo ad cA x)) 0 0 (va_A (Wo ad cA sMo) sz) := by
  refine g_met (by decide) (Nat.le_of_ble_eq_true rfl) rfl ?_
  intro p e s m args below meth c F hr hlk
  have blk13 : ∀ (n : Nat) (v1 : Int32) (v2 : Int32) (v3 : Int32) (tMo : SMo), f_Mo_named_13 n v1 v2 v3 tMo = some x → GW p l e { frames := 4, cells := 0, slots := 0, locals := 87 } s m args below meth c (gQv D (gT cA) (va_A (Wo ad cA sMo) sz) (Wo ad cA x)) D (va_A (Wo ad cA sMo) sz) 6 (Wo ad cA tMo) 13 [(0, .ref (ad 0)), (1, .int v1), (2, .int v2), (3, .int v3)] [] := by
    intro n
    induction n with
    | zero => intro _ _ _ _ hf; cases hf
    | succ n ih =>
      intro v1 v2 v3 tMo hf
      rw [f_Mo_named_13] at hf
      refine g_aload_n F d_Mo_named_13 0 rfl ?_
      refine g_aload_n F d_Mo_named_14 0 rfl ?_
      refine g_get F (v := .int (q_Mo_p tMo)) in_X13 0 rfl rfl 7 (by decide) mw_1113 rfl d_Mo_named_15 ?_
      obtain ⟨x1, hx1, hf⟩ := g_bind hf
      refine g_ci F (r0 := x1) (ws' := (Wo ad cA tMo)) (fun H locs ls hP hD hS hl => g_runV F (As := [.int (q_Mo_p tMo)]) (n := 1) mw_1228 rfl rfl ⟨by decide, by decide⟩ rfl (by exact Nat.le_of_ble_eq_true rfl) mw_1225 mw_1227 mw_34 mw_85 (by decide +kernel) d_Mo_named_18 hP hD hS hl (va_recv F.2.2.2.2.2.1 hP (ci := 9) rfl (q0 := 0) rfl) (c_Mo_charAt l D cA z ad tMo (q_Mo_p tMo) hx1 H.size)) ?_
      refine g_ci F (r0 := (f_Mo_isLetter x1)) (ws' := (Wo ad cA tMo)) (fun H locs ls hP hD hS hl => g_runS F (As := [.int x1]) (n := 1) mw_1280 rfl rfl ⟨by decide, by decide⟩ rfl (by exact Nat.le_of_ble_eq_true rfl) mw_1278 mw_1279 mw_85 (by decide +kernel) d_Mo_named_21 hP hD hS hl (c_Mo_isLetter l D cA z ad tMo x1 rfl H.size)) ?_
      refine g_if_ne F (tgt := 41) d_Mo_named_24 (by decide) (fun h => ?_) (fun h => ?_)
      · rw [if_neg h] at hf
        refine g_aload_n F d_Mo_named_41 0 rfl ?_
        refine g_dup F d_Mo_named_42 rfl ?_
        refine g_get F (v := .int (q_Mo_p tMo)) in_X13 0 rfl rfl 7 (by decide) mw_1113 rfl d_Mo_named_43 ?_
        refine g_iconst F (v := 1) d_Mo_named_46 (by decide) ?_
        refine g_iadd F d_Mo_named_47 ?_
        refine g_put F in_X13 0 rfl rfl 7 (by decide) tyX13 tyX13_ok nmX13 mw_1113 rfl rfl rfl (Nat.le_of_ble_eq_true rfl) (ws' := (Wn ad cA (q_Mo_names tMo) (q_Mo_gives tMo) (q_Mo_turned tMo) (q_Mo_size tMo) (q_Mo_bytes tMo) (q_Mo_n tMo) (q_Mo_text tMo) ((q_Mo_p tMo) + 1) (q_Mo_ended tMo) (q_Mo_tokens tMo) (q_Mo_kinds tMo) (q_Mo_firsts tMo) (q_Mo_sizes tMo) (q_Mo_marks tMo) (q_Mo_attributes tMo) (q_Mo_manyOf tMo) (q_Mo_attributeCount tMo) (q_Mo_nameAt tMo) (q_Mo_nameSize tMo) (q_Mo_valueAt tMo) (q_Mo_valueSize tMo) (q_Mo_goes tMo) (q_Mo_rowSize tMo) (q_Mo_row tMo) (q_Mo_textAt tMo) (q_Mo_textSize tMo) (q_Mo_faultCount tMo) (q_Mo_codes tMo) (q_Mo_places tMo) (q_Mo_outSize tMo) (q_Mo_out tMo) (q_Mo_which tMo))) rfl d_Mo_named_48 ?_
        refine g_goto F (tgt := 13) d_Mo_named_51 (by decide) ?_
        exact ih v1 v2 v3 (u_Mo_p tMo ((q_Mo_p tMo) + 1)) hf
      · rw [if_pos h] at hf
        refine g_aload_n F d_Mo_named_27 0 rfl ?_
        refine g_aload_n F d_Mo_named_28 0 rfl ?_
        refine g_get F (v := .int (q_Mo_p tMo)) in_X13 0 rfl rfl 7 (by decide) mw_1113 rfl d_Mo_named_29 ?_
        obtain ⟨x2, hx2, hf⟩ := g_bind hf
        refine g_ci F (r0 := x2) (ws' := (Wo ad cA tMo)) (fun H locs ls hP hD hS hl => g_runV F (As := [.int (q_Mo_p tMo)]) (n := 1) mw_1228 rfl rfl ⟨by decide, by decide⟩ rfl (by exact Nat.le_of_ble_eq_true rfl) mw_1225 mw_1227 mw_34 mw_85 (by decide +kernel) d_Mo_named_32 hP hD hS hl (va_recv F.2.2.2.2.2.1 hP (ci := 9) rfl (q0 := 0) rfl) (c_Mo_charAt l D cA z ad tMo (q_Mo_p tMo) hx2 H.size)) ?_
        refine g_ci F (r0 := (f_Mo_isDigit x2)) (ws' := (Wo ad cA tMo)) (fun H locs ls hP hD hS hl => g_runS F (As := [.int x2]) (n := 1) mw_1242 rfl rfl ⟨by decide, by decide⟩ rfl (by exact Nat.le_of_ble_eq_true rfl) mw_1240 mw_1241 mw_85 (by decide +kernel) d_Mo_named_35 hP hD hS hl (c_Mo_isDigit l D cA z ad tMo x2 rfl H.size)) ?_
        refine g_if_eq F (tgt := 54) d_Mo_named_38 (by decide) (fun h => ?_) (fun h => ?_)
        · rw [if_pos h] at hf
          refine g_aload_n F d_Mo_named_54 0 rfl ?_
          refine g_iload_n F d_Mo_named_55 1 rfl ?_
          refine g_iload_n F d_Mo_named_56 2 rfl ?_
          obtain ⟨x3, hx3, hf⟩ := g_bind hf
          refine g_cv F (ws' := (Wo ad cA x3)) (fun H locs ls hP hD hS hl => g_runV F (As := [.int v1, .int v2]) (n := 2) mw_1251 rfl rfl ⟨by decide, by decide⟩ rfl (by exact Nat.le_of_ble_eq_true rfl) mw_1248 mw_1250 mw_38 mw_85 (by decide +kernel) d_Mo_named_57 hP hD hS hl (va_recv F.2.2.2.2.2.1 hP (ci := 9) rfl (q0 := 0) rfl) (c_Mo_giveAll l D cA z ad tMo v1 v2 hx3 H.size)) ?_
          refine g_aload_n F d_Mo_named_60 0 rfl ?_
          refine g_aload_n F d_Mo_named_61 0 rfl ?_
          refine g_get F (v := .int (q_Mo_p x3)) in_X13 0 rfl rfl 7 (by decide) mw_1113 rfl d_Mo_named_62 ?_
          obtain ⟨x4, hx4, hf⟩ := g_bind hf
          refine g_ci F (r0 := x4) (ws' := (Wo ad cA x3)) (fun H locs ls hP hD hS hl => g_runV F (As := [.int (q_Mo_p x3)]) (n := 1) mw_1228 rfl rfl ⟨by decide, by decide⟩ rfl (by exact Nat.le_of_ble_eq_true rfl) mw_1225 mw_1227 mw_34 mw_85 (by decide +kernel) d_Mo_named_65 hP hD hS hl (va_recv F.2.2.2.2.2.1 hP (ci := 9) rfl (q0 := 0) rfl) (c_Mo_charAt l D cA z ad x3 (q_Mo_p x3) hx4 H.size)) ?_
          refine g_bipush F (v := 59) d_Mo_named_68 (by decide) ?_
          refine g_icmp_ne F (tgt := 83) d_Mo_named_70 (by decide) (fun h => ?_) (fun h => ?_)
          · rw [if_neg h] at hf
            cases hf
            exact g_vret F hr hlk rfl rfl d_Mo_named_83
          · rw [if_pos h] at hf
            refine g_aload_n F d_Mo_named_73 0 rfl ?_
            refine g_bipush F (v := 26) d_Mo_named_74 (by decide) ?_
            refine g_aload_n F d_Mo_named_76 0 rfl ?_
            refine g_get F (v := .int (q_Mo_p x3)) in_X13 0 rfl rfl 7 (by decide) mw_1113 rfl d_Mo_named_77 ?_
            obtain ⟨x5, hx5, hf⟩ := g_bind hf
            refine g_cv F (ws' := (Wo ad cA x5)) (fun H locs ls hP hD hS hl => g_runV F (As := [.int 26, .int (q_Mo_p x3)]) (n := 2) mw_1247 rfl rfl ⟨by decide, by decide⟩ rfl (by exact Nat.le_of_ble_eq_true rfl) mw_1244 mw_1246 mw_37 mw_85 (by decide +kernel) d_Mo_named_80 hP hD hS hl (va_recv F.2.2.2.2.2.1 hP (ci := 9) rfl (q0 := 0) rfl) (c_Mo_wrong l D cA z ad x3 26 (q_Mo_p x3) hx5 H.size)) ?_
            cases hf
            exact g_vret F hr hlk rfl rfl d_Mo_named_83
        · rw [if_neg h] at hf
          refine g_aload_n F d_Mo_named_41 0 rfl ?_
          refine g_dup F d_Mo_named_42 rfl ?_
          refine g_get F (v := .int (q_Mo_p tMo)) in_X13 0 rfl rfl 7 (by decide) mw_1113 rfl d_Mo_named_43 ?_
          refine g_iconst F (v := 1) d_Mo_named_46 (by decide) ?_
          refine g_iadd F d_Mo_named_47 ?_
          refine g_put F in_X13 0 rfl rfl 7 (by decide) tyX13 tyX13_ok nmX13 mw_1113 rfl rfl rfl (Nat.le_of_ble_eq_true rfl) (ws' := (Wn ad cA (q_Mo_names tMo) (q_Mo_gives tMo) (q_Mo_turned tMo) (q_Mo_size tMo) (q_Mo_bytes tMo) (q_Mo_n tMo) (q_Mo_text tMo) ((q_Mo_p tMo) + 1) (q_Mo_ended tMo) (q_Mo_tokens tMo) (q_Mo_kinds tMo) (q_Mo_firsts tMo) (q_Mo_sizes tMo) (q_Mo_marks tMo) (q_Mo_attributes tMo) (q_Mo_manyOf tMo) (q_Mo_attributeCount tMo) (q_Mo_nameAt tMo) (q_Mo_nameSize tMo) (q_Mo_valueAt tMo) (q_Mo_valueSize tMo) (q_Mo_goes tMo) (q_Mo_rowSize tMo) (q_Mo_row tMo) (q_Mo_textAt tMo) (q_Mo_textSize tMo) (q_Mo_faultCount tMo) (q_Mo_codes tMo) (q_Mo_places tMo) (q_Mo_outSize tMo) (q_Mo_out tMo) (q_Mo_which tMo))) rfl d_Mo_named_48 ?_
          refine g_goto F (tgt := 13) d_Mo_named_51 (by decide) ?_
          exact ih v1 v2 v3 (u_Mo_p tMo ((q_Mo_p tMo) + 1)) hf
  unfold f_Mo_named at hf
  refine g_aload_n F d_Mo_named_0 0 rfl ?_
  refine g_aload_n F d_Mo_named_1 0 rfl ?_
  refine g_get F (v := .int (q_Mo_p sMo)) in_X13 0 rfl rfl 7 (by decide) mw_1113 rfl d_Mo_named_2 ?_
  obtain ⟨x6, hx6, hf⟩ := g_bind hf
  refine g_ci F (r0 := x6.1) (ws' := (Wo ad cA x6.2)) (fun H locs ls hP hD hS hl => g_runV F (As := [.int (q_Mo_p sMo)]) (n := 1) mw_1291 rfl rfl ⟨by decide, by decide⟩ rfl (by exact Nat.le_of_ble_eq_true rfl) mw_1288 mw_1290 mw_44 mw_85 (by decide +kernel) d_Mo_named_5 hP hD hS hl (va_recv F.2.2.2.2.2.1 hP (ci := 9) rfl (q0 := 0) rfl) (c_Mo_longest l D cA z ad sMo (q_Mo_p sMo) hx6 H.size)) ?_
  refine g_istore_n F (L' := [(3, .int x6.1), (0, .ref (ad 0)), (1, .int a1), (2, .int a2)]) d_Mo_named_8 rfl (by decide) rfl ?_
  refine g_iload_n F d_Mo_named_9 0 rfl ?_
  refine g_if_ne F (tgt := 84) d_Mo_named_10 (by decide) (fun h => ?_) (fun h => ?_)
  · rw [if_neg h] at hf
    refine g_aload_n F d_Mo_named_84 1 rfl ?_
    refine g_aload_n F d_Mo_named_85 1 rfl ?_
    refine g_get F (v := .int (q_Mo_p x6.2)) in_X13 0 rfl rfl 7 (by decide) mw_1113 rfl d_Mo_named_86 ?_
    refine g_iload_n F d_Mo_named_89 0 rfl ?_
    refine g_iadd F d_Mo_named_90 ?_
    refine g_put F in_X13 0 rfl rfl 7 (by decide) tyX13 tyX13_ok nmX13 mw_1113 rfl rfl rfl (Nat.le_of_ble_eq_true rfl) (ws' := (Wn ad cA (q_Mo_names x6.2) (q_Mo_gives x6.2) (q_Mo_turned x6.2) (q_Mo_size x6.2) (q_Mo_bytes x6.2) (q_Mo_n x6.2) (q_Mo_text x6.2) ((q_Mo_p x6.2) + x6.1) (q_Mo_ended x6.2) (q_Mo_tokens x6.2) (q_Mo_kinds x6.2) (q_Mo_firsts x6.2) (q_Mo_sizes x6.2) (q_Mo_marks x6.2) (q_Mo_attributes x6.2) (q_Mo_manyOf x6.2) (q_Mo_attributeCount x6.2) (q_Mo_nameAt x6.2) (q_Mo_nameSize x6.2) (q_Mo_valueAt x6.2) (q_Mo_valueSize x6.2) (q_Mo_goes x6.2) (q_Mo_rowSize x6.2) (q_Mo_row x6.2) (q_Mo_textAt x6.2) (q_Mo_textSize x6.2) (q_Mo_faultCount x6.2) (q_Mo_codes x6.2) (q_Mo_places x6.2) (q_Mo_outSize x6.2) (q_Mo_out x6.2) (q_Mo_which x6.2))) rfl d_Mo_named_91 ?_
    refine g_aload_n F d_Mo_named_94 1 rfl ?_
    refine g_aload_n F d_Mo_named_95 1 rfl ?_
    refine g_get F (v := .int ((q_Mo_p x6.2) + x6.1)) in_X13 0 rfl rfl 7 (by decide) mw_1113 rfl d_Mo_named_96 ?_
    obtain ⟨x7, hx7, hf⟩ := g_bind hf
    refine g_ci F (r0 := x7) (ws' := (Wn ad cA (q_Mo_names x6.2) (q_Mo_gives x6.2) (q_Mo_turned x6.2) (q_Mo_size x6.2) (q_Mo_bytes x6.2) (q_Mo_n x6.2) (q_Mo_text x6.2) ((q_Mo_p x6.2) + x6.1) (q_Mo_ended x6.2) (q_Mo_tokens x6.2) (q_Mo_kinds x6.2) (q_Mo_firsts x6.2) (q_Mo_sizes x6.2) (q_Mo_marks x6.2) (q_Mo_attributes x6.2) (q_Mo_manyOf x6.2) (q_Mo_attributeCount x6.2) (q_Mo_nameAt x6.2) (q_Mo_nameSize x6.2) (q_Mo_valueAt x6.2) (q_Mo_valueSize x6.2) (q_Mo_goes x6.2) (q_Mo_rowSize x6.2) (q_Mo_row x6.2) (q_Mo_textAt x6.2) (q_Mo_textSize x6.2) (q_Mo_faultCount x6.2) (q_Mo_codes x6.2) (q_Mo_places x6.2) (q_Mo_outSize x6.2) (q_Mo_out x6.2) (q_Mo_which x6.2))) (fun H locs ls hP hD hS hl => g_runV F (As := [.int ((q_Mo_p x6.2) + x6.1)]) (n := 1) mw_1228 rfl rfl ⟨by decide, by decide⟩ rfl (by exact Nat.le_of_ble_eq_true rfl) mw_1225 mw_1227 mw_34 mw_85 (by decide +kernel) d_Mo_named_99 hP hD hS hl (va_recv F.2.2.2.2.2.1 hP (ci := 9) rfl (q0 := 0) rfl) (c_Mo_charAt l D cA z ad (u_Mo_p x6.2 ((q_Mo_p x6.2) + x6.1)) ((q_Mo_p x6.2) + x6.1) hx7 H.size)) ?_
    refine g_istore F (L' := [(4, .int x7), (3, .int x6.1), (0, .ref (ad 0)), (1, .int a1), (2, .int a2)]) d_Mo_named_102 (by decide) rfl ?_
    refine g_aload_n F d_Mo_named_104 2 rfl ?_
    refine g_aload_n F d_Mo_named_105 2 rfl ?_
    refine g_get F (v := .int ((q_Mo_p x6.2) + x6.1)) in_X13 0 rfl rfl 7 (by decide) mw_1113 rfl d_Mo_named_106 ?_
    refine g_iconst F (v := 1) d_Mo_named_109 (by decide) ?_
    refine g_isub F d_Mo_named_110 ?_
    obtain ⟨x8, hx8, hf⟩ := g_bind hf
    refine g_ci F (r0 := x8) (ws' := (Wn ad cA (q_Mo_names x6.2) (q_Mo_gives x6.2) (q_Mo_turned x6.2) (q_Mo_size x6.2) (q_Mo_bytes x6.2) (q_Mo_n x6.2) (q_Mo_text x6.2) ((q_Mo_p x6.2) + x6.1) (q_Mo_ended x6.2) (q_Mo_tokens x6.2) (q_Mo_kinds x6.2) (q_Mo_firsts x6.2) (q_Mo_sizes x6.2) (q_Mo_marks x6.2) (q_Mo_attributes x6.2) (q_Mo_manyOf x6.2) (q_Mo_attributeCount x6.2) (q_Mo_nameAt x6.2) (q_Mo_nameSize x6.2) (q_Mo_valueAt x6.2) (q_Mo_valueSize x6.2) (q_Mo_goes x6.2) (q_Mo_rowSize x6.2) (q_Mo_row x6.2) (q_Mo_textAt x6.2) (q_Mo_textSize x6.2) (q_Mo_faultCount x6.2) (q_Mo_codes x6.2) (q_Mo_places x6.2) (q_Mo_outSize x6.2) (q_Mo_out x6.2) (q_Mo_which x6.2))) (fun H locs ls hP hD hS hl => g_runV F (As := [.int (((q_Mo_p x6.2) + x6.1) - 1)]) (n := 1) mw_1228 rfl rfl ⟨by decide, by decide⟩ rfl (by exact Nat.le_of_ble_eq_true rfl) mw_1225 mw_1227 mw_34 mw_85 (by decide +kernel) d_Mo_named_111 hP hD hS hl (va_recv F.2.2.2.2.2.1 hP (ci := 9) rfl (q0 := 0) rfl) (c_Mo_charAt l D cA z ad (u_Mo_p x6.2 ((q_Mo_p x6.2) + x6.1)) (((q_Mo_p x6.2) + x6.1) - 1) hx8 H.size)) ?_
    refine g_bipush F (v := 59) d_Mo_named_114 (by decide) ?_
    refine g_icmp_eq F (tgt := 123) d_Mo_named_116 (by decide) (fun h => ?_) (fun h => ?_)
    · rw [if_pos h] at hf
      refine g_iconst F (v := 0) d_Mo_named_123 (by decide) ?_
      refine g_istore F (L' := [(5, .int 0), (4, .int x7), (3, .int x6.1), (0, .ref (ad 0)), (1, .int a1), (2, .int a2)]) d_Mo_named_124 (by decide) rfl ?_
      refine g_iload F d_Mo_named_126 0 rfl ?_
      refine g_if_eq F (tgt := 165) d_Mo_named_128 (by decide) (fun _ => ?_) (fun h => absurd h (by decide))
      refine g_iload F d_Mo_named_165 0 rfl ?_
      refine g_if_eq F (tgt := 180) d_Mo_named_167 (by decide) (fun _ => ?_) (fun h => absurd h (by decide))
      refine g_aload_n F d_Mo_named_180 3 rfl ?_
      refine g_aload_n F d_Mo_named_181 3 rfl ?_
      refine g_get F (v := .ref (ad 2)) in_X13 0 rfl rfl 1 (by decide) mw_1107 rfl d_Mo_named_182 ?_
      refine g_aload_n F d_Mo_named_185 3 rfl ?_
      refine g_get F (v := .int (q_Mo_which x6.2)) in_X13 0 rfl rfl 31 (by decide) mw_1137 rfl d_Mo_named_186 ?_
      obtain ⟨k1, hf⟩ := g_chk hf
      refine g_iald F (f := (q_Mo_gives x6.2)) 2 0 rfl rfl k1 d_Mo_named_189 ?_
      refine g_iload_n F d_Mo_named_190 5 rfl ?_
      obtain ⟨x9, hx9, hf⟩ := g_bind hf
      refine g_cv F (ws' := (Wo ad cA x9)) (fun H locs ls hP hD hS hl => g_runV F (As := [.int ((q_Mo_gives x6.2) ((q_Mo_which x6.2) : Int32).toNatClampNeg), .int a2]) (n := 2) mw_1255 rfl rfl ⟨by decide, by decide⟩ rfl (by exact Nat.le_of_ble_eq_true rfl) mw_1252 mw_1254 mw_39 mw_85 (by decide +kernel) d_Mo_named_191 hP hD hS hl (va_recv F.2.2.2.2.2.1 hP (ci := 9) rfl (q0 := 0) rfl) (c_Mo_give l D cA z ad (u_Mo_p x6.2 ((q_Mo_p x6.2) + x6.1)) ((q_Mo_gives x6.2) ((q_Mo_which x6.2) : Int32).toNatClampNeg) a2 hx9 H.size)) ?_
      cases hf
      exact g_vret F hr hlk rfl rfl d_Mo_named_194
    · rw [if_neg h] at hf
      refine g_iconst F (v := 1) d_Mo_named_119 (by decide) ?_
      refine g_goto F (tgt := 124) d_Mo_named_120 (by decide) ?_
      refine g_istore F (L' := [(5, .int 1), (4, .int x7), (3, .int x6.1), (0, .ref (ad 0)), (1, .int a1), (2, .int a2)]) d_Mo_named_124 (by decide) rfl ?_
      refine g_iload F d_Mo_named_126 0 rfl ?_
      refine g_if_eq F (tgt := 165) d_Mo_named_128 (by decide) (fun h => absurd h (by decide)) (fun _ => ?_)
      refine g_iload_n F d_Mo_named_131 5 rfl ?_
      refine g_if_eq F (tgt := 165) d_Mo_named_132 (by decide) (fun h => ?_) (fun h => ?_)
      · rw [if_pos h] at hf
        refine g_iload F d_Mo_named_165 0 rfl ?_
        refine g_if_eq F (tgt := 180) d_Mo_named_167 (by decide) (fun h => absurd h (by decide)) (fun _ => ?_)
        refine g_aload_n F d_Mo_named_170 3 rfl ?_
        refine g_bipush F (v := 25) d_Mo_named_171 (by decide) ?_
        refine g_aload_n F d_Mo_named_173 3 rfl ?_
        refine g_get F (v := .int ((q_Mo_p x6.2) + x6.1)) in_X13 0 rfl rfl 7 (by decide) mw_1113 rfl d_Mo_named_174 ?_
        obtain ⟨x10, hx10, hf⟩ := g_bind hf
        refine g_cv F (ws' := (Wo ad cA x10)) (fun H locs ls hP hD hS hl => g_runV F (As := [.int 25, .int ((q_Mo_p x6.2) + x6.1)]) (n := 2) mw_1247 rfl rfl ⟨by decide, by decide⟩ rfl (by exact Nat.le_of_ble_eq_true rfl) mw_1244 mw_1246 mw_37 mw_85 (by decide +kernel) d_Mo_named_177 hP hD hS hl (va_recv F.2.2.2.2.2.1 hP (ci := 9) rfl (q0 := 0) rfl) (c_Mo_wrong l D cA z ad (u_Mo_p x6.2 ((q_Mo_p x6.2) + x6.1)) 25 ((q_Mo_p x6.2) + x6.1) hx10 H.size)) ?_
        refine g_aload_n F d_Mo_named_180 3 rfl ?_
        refine g_aload_n F d_Mo_named_181 3 rfl ?_
        refine g_get F (v := .ref (ad 2)) in_X13 0 rfl rfl 1 (by decide) mw_1107 rfl d_Mo_named_182 ?_
        refine g_aload_n F d_Mo_named_185 3 rfl ?_
        refine g_get F (v := .int (q_Mo_which x10)) in_X13 0 rfl rfl 31 (by decide) mw_1137 rfl d_Mo_named_186 ?_
        obtain ⟨k2, hf⟩ := g_chk hf
        refine g_iald F (f := (q_Mo_gives x10)) 2 0 rfl rfl k2 d_Mo_named_189 ?_
        refine g_iload_n F d_Mo_named_190 5 rfl ?_
        obtain ⟨x11, hx11, hf⟩ := g_bind hf
        refine g_cv F (ws' := (Wo ad cA x11)) (fun H locs ls hP hD hS hl => g_runV F (As := [.int ((q_Mo_gives x10) ((q_Mo_which x10) : Int32).toNatClampNeg), .int a2]) (n := 2) mw_1255 rfl rfl ⟨by decide, by decide⟩ rfl (by exact Nat.le_of_ble_eq_true rfl) mw_1252 mw_1254 mw_39 mw_85 (by decide +kernel) d_Mo_named_191 hP hD hS hl (va_recv F.2.2.2.2.2.1 hP (ci := 9) rfl (q0 := 0) rfl) (c_Mo_give l D cA z ad x10 ((q_Mo_gives x10) ((q_Mo_which x10) : Int32).toNatClampNeg) a2 hx11 H.size)) ?_
        cases hf
        exact g_vret F hr hlk rfl rfl d_Mo_named_194
      · rw [if_neg h] at hf
        refine g_iload F d_Mo_named_135 1 rfl ?_
        refine g_ci F (r0 := (f_Mo_isLetter x7)) (ws' := (Wn ad cA (q_Mo_names x6.2) (q_Mo_gives x6.2) (q_Mo_turned x6.2) (q_Mo_size x6.2) (q_Mo_bytes x6.2) (q_Mo_n x6.2) (q_Mo_text x6.2) ((q_Mo_p x6.2) + x6.1) (q_Mo_ended x6.2) (q_Mo_tokens x6.2) (q_Mo_kinds x6.2) (q_Mo_firsts x6.2) (q_Mo_sizes x6.2) (q_Mo_marks x6.2) (q_Mo_attributes x6.2) (q_Mo_manyOf x6.2) (q_Mo_attributeCount x6.2) (q_Mo_nameAt x6.2) (q_Mo_nameSize x6.2) (q_Mo_valueAt x6.2) (q_Mo_valueSize x6.2) (q_Mo_goes x6.2) (q_Mo_rowSize x6.2) (q_Mo_row x6.2) (q_Mo_textAt x6.2) (q_Mo_textSize x6.2) (q_Mo_faultCount x6.2) (q_Mo_codes x6.2) (q_Mo_places x6.2) (q_Mo_outSize x6.2) (q_Mo_out x6.2) (q_Mo_which x6.2))) (fun H locs ls hP hD hS hl => g_runS F (As := [.int x7]) (n := 1) mw_1280 rfl rfl ⟨by decide, by decide⟩ rfl (by exact Nat.le_of_ble_eq_true rfl) mw_1278 mw_1279 mw_85 (by decide +kernel) d_Mo_named_137 hP hD hS hl (c_Mo_isLetter l D cA z ad (u_Mo_p x6.2 ((q_Mo_p x6.2) + x6.1)) x7 rfl H.size)) ?_
        refine g_if_ne F (tgt := 158) d_Mo_named_140 (by decide) (fun h => ?_) (fun h => ?_)
        · rw [if_neg h] at hf
          refine g_aload_n F d_Mo_named_158 3 rfl ?_
          refine g_iload_n F d_Mo_named_159 4 rfl ?_
          refine g_iconst F (v := 1) d_Mo_named_160 (by decide) ?_
          obtain ⟨x12, hx12, hf⟩ := g_bind hf
          refine g_cv F (ws' := (Wo ad cA x12)) (fun H locs ls hP hD hS hl => g_runV F (As := [.int a1, .int 1]) (n := 2) mw_1251 rfl rfl ⟨by decide, by decide⟩ rfl (by exact Nat.le_of_ble_eq_true rfl) mw_1248 mw_1250 mw_38 mw_85 (by decide +kernel) d_Mo_named_161 hP hD hS hl (va_recv F.2.2.2.2.2.1 hP (ci := 9) rfl (q0 := 0) rfl) (c_Mo_giveAll l D cA z ad (u_Mo_p x6.2 ((q_Mo_p x6.2) + x6.1)) a1 1 hx12 H.size)) ?_
          cases hf
          exact g_vret F hr hlk rfl rfl d_Mo_named_164
        · rw [if_pos h] at hf
          refine g_iload F d_Mo_named_143 1 rfl ?_
          refine g_ci F (r0 := (f_Mo_isDigit x7)) (ws' := (Wn ad cA (q_Mo_names x6.2) (q_Mo_gives x6.2) (q_Mo_turned x6.2) (q_Mo_size x6.2) (q_Mo_bytes x6.2) (q_Mo_n x6.2) (q_Mo_text x6.2) ((q_Mo_p x6.2) + x6.1) (q_Mo_ended x6.2) (q_Mo_tokens x6.2) (q_Mo_kinds x6.2) (q_Mo_firsts x6.2) (q_Mo_sizes x6.2) (q_Mo_marks x6.2) (q_Mo_attributes x6.2) (q_Mo_manyOf x6.2) (q_Mo_attributeCount x6.2) (q_Mo_nameAt x6.2) (q_Mo_nameSize x6.2) (q_Mo_valueAt x6.2) (q_Mo_valueSize x6.2) (q_Mo_goes x6.2) (q_Mo_rowSize x6.2) (q_Mo_row x6.2) (q_Mo_textAt x6.2) (q_Mo_textSize x6.2) (q_Mo_faultCount x6.2) (q_Mo_codes x6.2) (q_Mo_places x6.2) (q_Mo_outSize x6.2) (q_Mo_out x6.2) (q_Mo_which x6.2))) (fun H locs ls hP hD hS hl => g_runS F (As := [.int x7]) (n := 1) mw_1242 rfl rfl ⟨by decide, by decide⟩ rfl (by exact Nat.le_of_ble_eq_true rfl) mw_1240 mw_1241 mw_85 (by decide +kernel) d_Mo_named_145 hP hD hS hl (c_Mo_isDigit l D cA z ad (u_Mo_p x6.2 ((q_Mo_p x6.2) + x6.1)) x7 rfl H.size)) ?_
          refine g_if_ne F (tgt := 158) d_Mo_named_148 (by decide) (fun h => ?_) (fun h => ?_)
          · rw [if_neg h] at hf
            refine g_aload_n F d_Mo_named_158 3 rfl ?_
            refine g_iload_n F d_Mo_named_159 4 rfl ?_
            refine g_iconst F (v := 1) d_Mo_named_160 (by decide) ?_
            obtain ⟨x13, hx13, hf⟩ := g_bind hf
            refine g_cv F (ws' := (Wo ad cA x13)) (fun H locs ls hP hD hS hl => g_runV F (As := [.int a1, .int 1]) (n := 2) mw_1251 rfl rfl ⟨by decide, by decide⟩ rfl (by exact Nat.le_of_ble_eq_true rfl) mw_1248 mw_1250 mw_38 mw_85 (by decide +kernel) d_Mo_named_161 hP hD hS hl (va_recv F.2.2.2.2.2.1 hP (ci := 9) rfl (q0 := 0) rfl) (c_Mo_giveAll l D cA z ad (u_Mo_p x6.2 ((q_Mo_p x6.2) + x6.1)) a1 1 hx13 H.size)) ?_
            cases hf
            exact g_vret F hr hlk rfl rfl d_Mo_named_164
          · rw [if_pos h] at hf
            refine g_iload F d_Mo_named_151 1 rfl ?_
            refine g_bipush F (v := 61) d_Mo_named_153 (by decide) ?_
            refine g_icmp_ne F (tgt := 165) d_Mo_named_155 (by decide) (fun h => ?_) (fun h => ?_)
            · rw [if_neg h] at hf
              refine g_iload F d_Mo_named_165 0 rfl ?_
              refine g_if_eq F (tgt := 180) d_Mo_named_167 (by decide) (fun h => absurd h (by decide)) (fun _ => ?_)
              refine g_aload_n F d_Mo_named_170 3 rfl ?_
              refine g_bipush F (v := 25) d_Mo_named_171 (by decide) ?_
              refine g_aload_n F d_Mo_named_173 3 rfl ?_
              refine g_get F (v := .int ((q_Mo_p x6.2) + x6.1)) in_X13 0 rfl rfl 7 (by decide) mw_1113 rfl d_Mo_named_174 ?_
              obtain ⟨x14, hx14, hf⟩ := g_bind hf
              refine g_cv F (ws' := (Wo ad cA x14)) (fun H locs ls hP hD hS hl => g_runV F (As := [.int 25, .int ((q_Mo_p x6.2) + x6.1)]) (n := 2) mw_1247 rfl rfl ⟨by decide, by decide⟩ rfl (by exact Nat.le_of_ble_eq_true rfl) mw_1244 mw_1246 mw_37 mw_85 (by decide +kernel) d_Mo_named_177 hP hD hS hl (va_recv F.2.2.2.2.2.1 hP (ci := 9) rfl (q0 := 0) rfl) (c_Mo_wrong l D cA z ad (u_Mo_p x6.2 ((q_Mo_p x6.2) + x6.1)) 25 ((q_Mo_p x6.2) + x6.1) hx14 H.size)) ?_
              refine g_aload_n F d_Mo_named_180 3 rfl ?_
              refine g_aload_n F d_Mo_named_181 3 rfl ?_
              refine g_get F (v := .ref (ad 2)) in_X13 0 rfl rfl 1 (by decide) mw_1107 rfl d_Mo_named_182 ?_
              refine g_aload_n F d_Mo_named_185 3 rfl ?_
              refine g_get F (v := .int (q_Mo_which x14)) in_X13 0 rfl rfl 31 (by decide) mw_1137 rfl d_Mo_named_186 ?_
              obtain ⟨k3, hf⟩ := g_chk hf
              refine g_iald F (f := (q_Mo_gives x14)) 2 0 rfl rfl k3 d_Mo_named_189 ?_
              refine g_iload_n F d_Mo_named_190 5 rfl ?_
              obtain ⟨x15, hx15, hf⟩ := g_bind hf
              refine g_cv F (ws' := (Wo ad cA x15)) (fun H locs ls hP hD hS hl => g_runV F (As := [.int ((q_Mo_gives x14) ((q_Mo_which x14) : Int32).toNatClampNeg), .int a2]) (n := 2) mw_1255 rfl rfl ⟨by decide, by decide⟩ rfl (by exact Nat.le_of_ble_eq_true rfl) mw_1252 mw_1254 mw_39 mw_85 (by decide +kernel) d_Mo_named_191 hP hD hS hl (va_recv F.2.2.2.2.2.1 hP (ci := 9) rfl (q0 := 0) rfl) (c_Mo_give l D cA z ad x14 ((q_Mo_gives x14) ((q_Mo_which x14) : Int32).toNatClampNeg) a2 hx15 H.size)) ?_
              cases hf
              exact g_vret F hr hlk rfl rfl d_Mo_named_194
            · rw [if_pos h] at hf
              refine g_aload_n F d_Mo_named_158 3 rfl ?_
              refine g_iload_n F d_Mo_named_159 4 rfl ?_
              refine g_iconst F (v := 1) d_Mo_named_160 (by decide) ?_
              obtain ⟨x16, hx16, hf⟩ := g_bind hf
              refine g_cv F (ws' := (Wo ad cA x16)) (fun H locs ls hP hD hS hl => g_runV F (As := [.int a1, .int 1]) (n := 2) mw_1251 rfl rfl ⟨by decide, by decide⟩ rfl (by exact Nat.le_of_ble_eq_true rfl) mw_1248 mw_1250 mw_38 mw_85 (by decide +kernel) d_Mo_named_161 hP hD hS hl (va_recv F.2.2.2.2.2.1 hP (ci := 9) rfl (q0 := 0) rfl) (c_Mo_giveAll l D cA z ad (u_Mo_p x6.2 ((q_Mo_p x6.2) + x6.1)) a1 1 hx16 H.size)) ?_
              cases hf
              exact g_vret F hr hlk rfl rfl d_Mo_named_164
  · rw [if_pos h] at hf
    refine g_loc [1, 2, 3, 0] rfl ?_
    exact blk13 FU a1 a2 x6.1 x6.2 hf
set_option maxHeartbeats 4000000 in
set_option maxRecDepth 100000 in
theorem c_Mo_reference (l : Launch) (D : va_G) (cA : Nat → ClassId) (z : gZ) (ad : Nat → Nat) (sMo : SMo) (a1 : Int32) {x : SMo} (hf : f_Mo_reference a1 sMo = some x) (sz : Nat) : Met l y_Mo_reference (.code y_Mo_reference b_Mo_reference 4 none :: lw_g) { frames := 5, cells := 0, slots := 0, locals := 112 } (gP D (gT cA) z [.ref (ad 0), .int a1] (Wo ad cA sMo) sz) (gQv D (gT cA) (va_A (Wo ad cA sMo) sz) (Wo ad cA x)) 0 0 (va_A (Wo ad cA sMo) sz) := by
  refine g_met (by decide) (Nat.le_of_ble_eq_true rfl) rfl ?_
  intro p e s m args below meth c F hr hlk
  unfold f_Mo_reference at hf
  refine g_aload_n F d_Mo_reference_0 0 rfl ?_
  refine g_get F (v := .int (q_Mo_p sMo)) in_X13 0 rfl rfl 7 (by decide) mw_1113 rfl d_Mo_reference_1 ?_
  refine g_istore_n F (L' := [(2, .int (q_Mo_p sMo)), (0, .ref (ad 0)), (1, .int a1)]) d_Mo_reference_4 rfl (by decide) rfl ?_
  refine g_aload_n F d_Mo_reference_5 1 rfl ?_
  refine g_dup F d_Mo_reference_6 rfl ?_
  refine g_get F (v := .int (q_Mo_p sMo)) in_X13 0 rfl rfl 7 (by decide) mw_1113 rfl d_Mo_reference_7 ?_
  refine g_iconst F (v := 1) d_Mo_reference_10 (by decide) ?_
  refine g_iadd F d_Mo_reference_11 ?_
  refine g_put F in_X13 0 rfl rfl 7 (by decide) tyX13 tyX13_ok nmX13 mw_1113 rfl rfl rfl (Nat.le_of_ble_eq_true rfl) (ws' := (Wn ad cA (q_Mo_names sMo) (q_Mo_gives sMo) (q_Mo_turned sMo) (q_Mo_size sMo) (q_Mo_bytes sMo) (q_Mo_n sMo) (q_Mo_text sMo) ((q_Mo_p sMo) + 1) (q_Mo_ended sMo) (q_Mo_tokens sMo) (q_Mo_kinds sMo) (q_Mo_firsts sMo) (q_Mo_sizes sMo) (q_Mo_marks sMo) (q_Mo_attributes sMo) (q_Mo_manyOf sMo) (q_Mo_attributeCount sMo) (q_Mo_nameAt sMo) (q_Mo_nameSize sMo) (q_Mo_valueAt sMo) (q_Mo_valueSize sMo) (q_Mo_goes sMo) (q_Mo_rowSize sMo) (q_Mo_row sMo) (q_Mo_textAt sMo) (q_Mo_textSize sMo) (q_Mo_faultCount sMo) (q_Mo_codes sMo) (q_Mo_places sMo) (q_Mo_outSize sMo) (q_Mo_out sMo) (q_Mo_which sMo))) rfl d_Mo_reference_12 ?_
  refine g_aload_n F d_Mo_reference_15 1 rfl ?_
  refine g_aload_n F d_Mo_reference_16 1 rfl ?_
  refine g_get F (v := .int ((q_Mo_p sMo) + 1)) in_X13 0 rfl rfl 7 (by decide) mw_1113 rfl d_Mo_reference_17 ?_
  obtain ⟨x1, hx1, hf⟩ := g_bind hf
  refine g_ci F (r0 := x1) (ws' := (Wn ad cA (q_Mo_names sMo) (q_Mo_gives sMo) (q_Mo_turned sMo) (q_Mo_size sMo) (q_Mo_bytes sMo) (q_Mo_n sMo) (q_Mo_text sMo) ((q_Mo_p sMo) + 1) (q_Mo_ended sMo) (q_Mo_tokens sMo) (q_Mo_kinds sMo) (q_Mo_firsts sMo) (q_Mo_sizes sMo) (q_Mo_marks sMo) (q_Mo_attributes sMo) (q_Mo_manyOf sMo) (q_Mo_attributeCount sMo) (q_Mo_nameAt sMo) (q_Mo_nameSize sMo) (q_Mo_valueAt sMo) (q_Mo_valueSize sMo) (q_Mo_goes sMo) (q_Mo_rowSize sMo) (q_Mo_row sMo) (q_Mo_textAt sMo) (q_Mo_textSize sMo) (q_Mo_faultCount sMo) (q_Mo_codes sMo) (q_Mo_places sMo) (q_Mo_outSize sMo) (q_Mo_out sMo) (q_Mo_which sMo))) (fun H locs ls hP hD hS hl => g_runV F (As := [.int ((q_Mo_p sMo) + 1)]) (n := 1) mw_1228 rfl rfl ⟨by decide, by decide⟩ rfl (by exact Nat.le_of_ble_eq_true rfl) mw_1225 mw_1227 mw_34 mw_85 (by decide +kernel) d_Mo_reference_20 hP hD hS hl (va_recv F.2.2.2.2.2.1 hP (ci := 9) rfl (q0 := 0) rfl) (c_Mo_charAt l D cA z ad (u_Mo_p sMo ((q_Mo_p sMo) + 1)) ((q_Mo_p sMo) + 1) hx1 H.size)) ?_
  refine g_istore_n F (L' := [(3, .int x1), (2, .int (q_Mo_p sMo)), (0, .ref (ad 0)), (1, .int a1)]) d_Mo_reference_23 rfl (by decide) rfl ?_
  refine g_iload_n F d_Mo_reference_24 0 rfl ?_
  refine g_bipush F (v := 35) d_Mo_reference_25 (by decide) ?_
  refine g_icmp_ne F (tgt := 49) d_Mo_reference_27 (by decide) (fun h => ?_) (fun h => ?_)
  · rw [if_neg h] at hf
    refine g_iload_n F d_Mo_reference_49 0 rfl ?_
    refine g_ci F (r0 := (f_Mo_isLetter x1)) (ws' := (Wn ad cA (q_Mo_names sMo) (q_Mo_gives sMo) (q_Mo_turned sMo) (q_Mo_size sMo) (q_Mo_bytes sMo) (q_Mo_n sMo) (q_Mo_text sMo) ((q_Mo_p sMo) + 1) (q_Mo_ended sMo) (q_Mo_tokens sMo) (q_Mo_kinds sMo) (q_Mo_firsts sMo) (q_Mo_sizes sMo) (q_Mo_marks sMo) (q_Mo_attributes sMo) (q_Mo_manyOf sMo) (q_Mo_attributeCount sMo) (q_Mo_nameAt sMo) (q_Mo_nameSize sMo) (q_Mo_valueAt sMo) (q_Mo_valueSize sMo) (q_Mo_goes sMo) (q_Mo_rowSize sMo) (q_Mo_row sMo) (q_Mo_textAt sMo) (q_Mo_textSize sMo) (q_Mo_faultCount sMo) (q_Mo_codes sMo) (q_Mo_places sMo) (q_Mo_outSize sMo) (q_Mo_out sMo) (q_Mo_which sMo))) (fun H locs ls hP hD hS hl => g_runS F (As := [.int x1]) (n := 1) mw_1280 rfl rfl ⟨by decide, by decide⟩ rfl (by exact Nat.le_of_ble_eq_true rfl) mw_1278 mw_1279 mw_85 (by decide +kernel) d_Mo_reference_50 hP hD hS hl (c_Mo_isLetter l D cA z ad (u_Mo_p sMo ((q_Mo_p sMo) + 1)) x1 rfl H.size)) ?_
    refine g_if_ne F (tgt := 63) d_Mo_reference_53 (by decide) (fun h => ?_) (fun h => ?_)
    · rw [if_neg h] at hf
      refine g_aload_n F d_Mo_reference_63 2 rfl ?_
      refine g_iload_n F d_Mo_reference_64 1 rfl ?_
      refine g_iload_n F d_Mo_reference_65 3 rfl ?_
      obtain ⟨x2, hx2, hf⟩ := g_bind hf
      refine g_cv F (ws' := (Wo ad cA x2)) (fun H locs ls hP hD hS hl => g_runV F (As := [.int (q_Mo_p sMo), .int a1]) (n := 2) mw_1287 rfl rfl ⟨by decide, by decide⟩ rfl (by exact Nat.le_of_ble_eq_true rfl) mw_1284 mw_1286 mw_43 mw_85 (by decide +kernel) d_Mo_reference_66 hP hD hS hl (va_recv F.2.2.2.2.2.1 hP (ci := 9) rfl (q0 := 0) rfl) (c_Mo_named l D cA z ad (u_Mo_p sMo ((q_Mo_p sMo) + 1)) (q_Mo_p sMo) a1 hx2 H.size)) ?_
      refine g_goto F (tgt := 78) d_Mo_reference_69 (by decide) ?_
      cases hf
      exact g_vret F hr hlk rfl rfl d_Mo_reference_78
    · rw [if_pos h] at hf
      refine g_iload_n F d_Mo_reference_56 0 rfl ?_
      refine g_ci F (r0 := (f_Mo_isDigit x1)) (ws' := (Wn ad cA (q_Mo_names sMo) (q_Mo_gives sMo) (q_Mo_turned sMo) (q_Mo_size sMo) (q_Mo_bytes sMo) (q_Mo_n sMo) (q_Mo_text sMo) ((q_Mo_p sMo) + 1) (q_Mo_ended sMo) (q_Mo_tokens sMo) (q_Mo_kinds sMo) (q_Mo_firsts sMo) (q_Mo_sizes sMo) (q_Mo_marks sMo) (q_Mo_attributes sMo) (q_Mo_manyOf sMo) (q_Mo_attributeCount sMo) (q_Mo_nameAt sMo) (q_Mo_nameSize sMo) (q_Mo_valueAt sMo) (q_Mo_valueSize sMo) (q_Mo_goes sMo) (q_Mo_rowSize sMo) (q_Mo_row sMo) (q_Mo_textAt sMo) (q_Mo_textSize sMo) (q_Mo_faultCount sMo) (q_Mo_codes sMo) (q_Mo_places sMo) (q_Mo_outSize sMo) (q_Mo_out sMo) (q_Mo_which sMo))) (fun H locs ls hP hD hS hl => g_runS F (As := [.int x1]) (n := 1) mw_1242 rfl rfl ⟨by decide, by decide⟩ rfl (by exact Nat.le_of_ble_eq_true rfl) mw_1240 mw_1241 mw_85 (by decide +kernel) d_Mo_reference_57 hP hD hS hl (c_Mo_isDigit l D cA z ad (u_Mo_p sMo ((q_Mo_p sMo) + 1)) x1 rfl H.size)) ?_
      refine g_if_eq F (tgt := 72) d_Mo_reference_60 (by decide) (fun h => ?_) (fun h => ?_)
      · rw [if_pos h] at hf
        refine g_aload_n F d_Mo_reference_72 2 rfl ?_
        refine g_iload_n F d_Mo_reference_73 1 rfl ?_
        refine g_iload_n F d_Mo_reference_74 3 rfl ?_
        obtain ⟨x3, hx3, hf⟩ := g_bind hf
        refine g_cv F (ws' := (Wo ad cA x3)) (fun H locs ls hP hD hS hl => g_runV F (As := [.int (q_Mo_p sMo), .int a1]) (n := 2) mw_1251 rfl rfl ⟨by decide, by decide⟩ rfl (by exact Nat.le_of_ble_eq_true rfl) mw_1248 mw_1250 mw_38 mw_85 (by decide +kernel) d_Mo_reference_75 hP hD hS hl (va_recv F.2.2.2.2.2.1 hP (ci := 9) rfl (q0 := 0) rfl) (c_Mo_giveAll l D cA z ad (u_Mo_p sMo ((q_Mo_p sMo) + 1)) (q_Mo_p sMo) a1 hx3 H.size)) ?_
        cases hf
        exact g_vret F hr hlk rfl rfl d_Mo_reference_78
      · rw [if_neg h] at hf
        refine g_aload_n F d_Mo_reference_63 2 rfl ?_
        refine g_iload_n F d_Mo_reference_64 1 rfl ?_
        refine g_iload_n F d_Mo_reference_65 3 rfl ?_
        obtain ⟨x4, hx4, hf⟩ := g_bind hf
        refine g_cv F (ws' := (Wo ad cA x4)) (fun H locs ls hP hD hS hl => g_runV F (As := [.int (q_Mo_p sMo), .int a1]) (n := 2) mw_1287 rfl rfl ⟨by decide, by decide⟩ rfl (by exact Nat.le_of_ble_eq_true rfl) mw_1284 mw_1286 mw_43 mw_85 (by decide +kernel) d_Mo_reference_66 hP hD hS hl (va_recv F.2.2.2.2.2.1 hP (ci := 9) rfl (q0 := 0) rfl) (c_Mo_named l D cA z ad (u_Mo_p sMo ((q_Mo_p sMo) + 1)) (q_Mo_p sMo) a1 hx4 H.size)) ?_
        refine g_goto F (tgt := 78) d_Mo_reference_69 (by decide) ?_
        cases hf
        exact g_vret F hr hlk rfl rfl d_Mo_reference_78
  · rw [if_pos h] at hf
    refine g_aload_n F d_Mo_reference_30 2 rfl ?_
    refine g_dup F d_Mo_reference_31 rfl ?_
    refine g_get F (v := .int ((q_Mo_p sMo) + 1)) in_X13 0 rfl rfl 7 (by decide) mw_1113 rfl d_Mo_reference_32 ?_
    refine g_iconst F (v := 1) d_Mo_reference_35 (by decide) ?_
    refine g_iadd F d_Mo_reference_36 ?_
    refine g_put F in_X13 0 rfl rfl 7 (by decide) tyX13 tyX13_ok nmX13 mw_1113 rfl rfl rfl (Nat.le_of_ble_eq_true rfl) (ws' := (Wn ad cA (q_Mo_names sMo) (q_Mo_gives sMo) (q_Mo_turned sMo) (q_Mo_size sMo) (q_Mo_bytes sMo) (q_Mo_n sMo) (q_Mo_text sMo) (((q_Mo_p sMo) + 1) + 1) (q_Mo_ended sMo) (q_Mo_tokens sMo) (q_Mo_kinds sMo) (q_Mo_firsts sMo) (q_Mo_sizes sMo) (q_Mo_marks sMo) (q_Mo_attributes sMo) (q_Mo_manyOf sMo) (q_Mo_attributeCount sMo) (q_Mo_nameAt sMo) (q_Mo_nameSize sMo) (q_Mo_valueAt sMo) (q_Mo_valueSize sMo) (q_Mo_goes sMo) (q_Mo_rowSize sMo) (q_Mo_row sMo) (q_Mo_textAt sMo) (q_Mo_textSize sMo) (q_Mo_faultCount sMo) (q_Mo_codes sMo) (q_Mo_places sMo) (q_Mo_outSize sMo) (q_Mo_out sMo) (q_Mo_which sMo))) rfl d_Mo_reference_37 ?_
    refine g_aload_n F d_Mo_reference_40 2 rfl ?_
    refine g_iload_n F d_Mo_reference_41 1 rfl ?_
    refine g_iload_n F d_Mo_reference_42 3 rfl ?_
    obtain ⟨x5, hx5, hf⟩ := g_bind hf
    refine g_cv F (ws' := (Wo ad cA x5)) (fun H locs ls hP hD hS hl => g_runV F (As := [.int (q_Mo_p sMo), .int a1]) (n := 2) mw_1236 rfl rfl ⟨by decide, by decide⟩ rfl (by exact Nat.le_of_ble_eq_true rfl) mw_1233 mw_1235 mw_36 mw_85 (by decide +kernel) d_Mo_reference_43 hP hD hS hl (va_recv F.2.2.2.2.2.1 hP (ci := 9) rfl (q0 := 0) rfl) (c_Mo_number l D cA z ad (u_Mo_p sMo (((q_Mo_p sMo) + 1) + 1)) (q_Mo_p sMo) a1 hx5 H.size)) ?_
    refine g_goto F (tgt := 78) d_Mo_reference_46 (by decide) ?_
    cases hf
    exact g_vret F hr hlk rfl rfl d_Mo_reference_78
set_option maxHeartbeats 4000000 in
set_option maxRecDepth 100000 in
theorem c_Mo_tell (l : Launch) (D : va_G) (cA : Nat → ClassId) (z : gZ) (ad : Nat → Nat) (sMo : SMo) {x : SMo} (hf : f_Mo_tell sMo = some x) (sz : Nat) : Met l y_Mo_tell (.code y_Mo_tell b_Mo_tell 1 none :: lw_g) { frames := 0, cells := 0, slots := 0, locals := 0 } (gP D (gT cA) z [.ref (ad 0)] (Wo ad cA sMo) sz) (gQv D (gT cA) (va_A (Wo ad cA sMo) sz) (Wo ad cA x)) 0 0 (va_A (Wo ad cA sMo) sz) := by
  refine g_met (by decide) (Nat.le_of_ble_eq_true rfl) rfl ?_
  intro p e s m args below meth c F hr hlk
  unfold f_Mo_tell at hf
  refine g_aload_n F d_Mo_tell_0 0 rfl ?_
  refine g_get F (v := .ref (ad 8)) in_X13 0 rfl rfl 12 (by decide) mw_1118 rfl d_Mo_tell_1 ?_
  refine g_aload_n F d_Mo_tell_4 0 rfl ?_
  refine g_get F (v := .int (q_Mo_tokens sMo)) in_X13 0 rfl rfl 9 (by decide) mw_1115 rfl d_Mo_tell_5 ?_
  refine g_aload_n F d_Mo_tell_8 0 rfl ?_
  refine g_get F (v := .int (q_Mo_rowSize sMo)) in_X13 0 rfl rfl 22 (by decide) mw_1128 rfl d_Mo_tell_9 ?_
  refine g_aload_n F d_Mo_tell_12 0 rfl ?_
  refine g_get F (v := .ref (ad 7)) in_X13 0 rfl rfl 11 (by decide) mw_1117 rfl d_Mo_tell_13 ?_
  refine g_aload_n F d_Mo_tell_16 0 rfl ?_
  refine g_get F (v := .int (q_Mo_tokens sMo)) in_X13 0 rfl rfl 9 (by decide) mw_1115 rfl d_Mo_tell_17 ?_
  obtain ⟨k1, hf⟩ := g_chk hf
  refine g_iald F (f := (q_Mo_firsts sMo)) 7 0 rfl rfl k1 d_Mo_tell_20 ?_
  refine g_isub F d_Mo_tell_21 ?_
  obtain ⟨k2, hf⟩ := g_chk hf
  refine g_iast F (f := (q_Mo_sizes sMo)) 8 0 rfl rfl k2 (ws' := (Wn ad cA (q_Mo_names sMo) (q_Mo_gives sMo) (q_Mo_turned sMo) (q_Mo_size sMo) (q_Mo_bytes sMo) (q_Mo_n sMo) (q_Mo_text sMo) (q_Mo_p sMo) (q_Mo_ended sMo) (q_Mo_tokens sMo) (q_Mo_kinds sMo) (q_Mo_firsts sMo) (upd (q_Mo_sizes sMo) ((q_Mo_tokens sMo) : Int32).toNatClampNeg ((q_Mo_rowSize sMo) - ((q_Mo_firsts sMo) ((q_Mo_tokens sMo) : Int32).toNatClampNeg))) (q_Mo_marks sMo) (q_Mo_attributes sMo) (q_Mo_manyOf sMo) (q_Mo_attributeCount sMo) (q_Mo_nameAt sMo) (q_Mo_nameSize sMo) (q_Mo_valueAt sMo) (q_Mo_valueSize sMo) (q_Mo_goes sMo) (q_Mo_rowSize sMo) (q_Mo_row sMo) (q_Mo_textAt sMo) (q_Mo_textSize sMo) (q_Mo_faultCount sMo) (q_Mo_codes sMo) (q_Mo_places sMo) (q_Mo_outSize sMo) (q_Mo_out sMo) (q_Mo_which sMo))) rfl d_Mo_tell_22 ?_
  refine g_aload_n F d_Mo_tell_23 0 rfl ?_
  refine g_dup F d_Mo_tell_24 rfl ?_
  refine g_get F (v := .int (q_Mo_tokens sMo)) in_X13 0 rfl rfl 9 (by decide) mw_1115 rfl d_Mo_tell_25 ?_
  refine g_iconst F (v := 1) d_Mo_tell_28 (by decide) ?_
  refine g_iadd F d_Mo_tell_29 ?_
  refine g_put F in_X13 0 rfl rfl 9 (by decide) tyX13 tyX13_ok nmX13 mw_1115 rfl rfl rfl (Nat.le_of_ble_eq_true rfl) (ws' := (Wn ad cA (q_Mo_names sMo) (q_Mo_gives sMo) (q_Mo_turned sMo) (q_Mo_size sMo) (q_Mo_bytes sMo) (q_Mo_n sMo) (q_Mo_text sMo) (q_Mo_p sMo) (q_Mo_ended sMo) ((q_Mo_tokens sMo) + 1) (q_Mo_kinds sMo) (q_Mo_firsts sMo) (upd (q_Mo_sizes sMo) ((q_Mo_tokens sMo) : Int32).toNatClampNeg ((q_Mo_rowSize sMo) - ((q_Mo_firsts sMo) ((q_Mo_tokens sMo) : Int32).toNatClampNeg))) (q_Mo_marks sMo) (q_Mo_attributes sMo) (q_Mo_manyOf sMo) (q_Mo_attributeCount sMo) (q_Mo_nameAt sMo) (q_Mo_nameSize sMo) (q_Mo_valueAt sMo) (q_Mo_valueSize sMo) (q_Mo_goes sMo) (q_Mo_rowSize sMo) (q_Mo_row sMo) (q_Mo_textAt sMo) (q_Mo_textSize sMo) (q_Mo_faultCount sMo) (q_Mo_codes sMo) (q_Mo_places sMo) (q_Mo_outSize sMo) (q_Mo_out sMo) (q_Mo_which sMo))) rfl d_Mo_tell_30 ?_
  cases hf
  exact g_vret F hr hlk rfl rfl d_Mo_tell_33
set_option maxHeartbeats 4000000 in
set_option maxRecDepth 100000 in
theorem c_Mo_commentEnd (l : Launch) (D : va_G) (cA : Nat → ClassId) (z : gZ) (ad : Nat → Nat) (sMo : SMo) (a1 : Int32) {x : Int32} (hf : f_Mo_commentEnd a1 sMo = some x) (sz : Nat) : Met l y_Mo_commentEnd (.code y_Mo_commentEnd b_Mo_commentEnd 5 (some .int) :: lw_g) { frames := 1, cells := 0, slots := 0, locals := 21 } (gP D (gT cA) z [.ref (ad 0), .int a1] (Wo ad cA sMo) sz) (gQi D (gT cA) (va_A (Wo ad cA sMo) sz) x (Wo ad cA sMo)) 0 0 (va_A (Wo ad cA sMo) sz) := by
  refine g_met (by decide) (Nat.le_of_ble_eq_true rfl) rfl ?_
  intro p e s m args below meth c F hr hlk
  have blk4 : ∀ (n : Nat) (v1 : Int32) (v2 : Int32) (v3 : Int32), f_Mo_commentEnd_4 n v1 v2 v3 sMo = some x → GW p l e { frames := 1, cells := 0, slots := 0, locals := 21 } s m args below meth c (gQi D (gT cA) (va_A (Wo ad cA sMo) sz) x (Wo ad cA sMo)) D (va_A (Wo ad cA sMo) sz) 5 (Wo ad cA sMo) 4 [(0, .ref (ad 0)), (1, .int v1), (2, .int v2), (3, .int v3)] [] := by
    intro n
    induction n with
    | zero => intro _ _ _ hf; cases hf
    | succ n ih =>
      intro v1 v2 v3 hf
      rw [f_Mo_commentEnd_4] at hf
      refine g_iload_n F d_Mo_commentEnd_4 2 rfl ?_
      refine g_aload_n F d_Mo_commentEnd_5 0 rfl ?_
      refine g_get F (v := .int (q_Mo_n sMo)) in_X13 0 rfl rfl 5 (by decide) mw_1111 rfl d_Mo_commentEnd_6 ?_
      refine g_icmp_ge F (tgt := 107) d_Mo_commentEnd_9 (by decide) (fun h => ?_) (fun h => ?_)
      · rw [if_pos h] at hf
        refine g_iload_n F d_Mo_commentEnd_107 2 rfl ?_
        cases hf
        exact g_iret F hr hlk rfl rfl rfl d_Mo_commentEnd_108
      · rw [if_neg h] at hf
        refine g_iload_n F d_Mo_commentEnd_12 3 rfl ?_
        refine g_if_ne F (tgt := 107) d_Mo_commentEnd_13 (by decide) (fun h => ?_) (fun h => ?_)
        · rw [if_neg h] at hf
          refine g_iload_n F d_Mo_commentEnd_107 2 rfl ?_
          cases hf
          exact g_iret F hr hlk rfl rfl rfl d_Mo_commentEnd_108
        · rw [if_pos h] at hf
          refine g_aload_n F d_Mo_commentEnd_16 0 rfl ?_
          refine g_iload_n F d_Mo_commentEnd_17 2 rfl ?_
          obtain ⟨x1, hx1, hf⟩ := g_bind hf
          refine g_ci F (r0 := x1) (ws' := (Wo ad cA sMo)) (fun H locs ls hP hD hS hl => g_runV F (As := [.int v2]) (n := 1) mw_1228 rfl rfl ⟨by decide, by decide⟩ rfl (by exact Nat.le_of_ble_eq_true rfl) mw_1225 mw_1227 mw_34 mw_85 (by decide +kernel) d_Mo_commentEnd_18 hP hD hS hl (va_recv F.2.2.2.2.2.1 hP (ci := 9) rfl (q0 := 0) rfl) (c_Mo_charAt l D cA z ad sMo v2 hx1 H.size)) ?_
          refine g_bipush F (v := 45) d_Mo_commentEnd_21 (by decide) ?_
          refine g_icmp_ne F (tgt := 42) d_Mo_commentEnd_23 (by decide) (fun h => ?_) (fun h => ?_)
          · rw [if_neg h] at hf
            refine g_iconst F (v := 0) d_Mo_commentEnd_42 (by decide) ?_
            refine g_istore F (L' := [(4, .int 0), (0, .ref (ad 0)), (1, .int v1), (2, .int v2), (3, .int v3)]) d_Mo_commentEnd_43 (by decide) rfl ?_
            refine g_iload F d_Mo_commentEnd_45 0 rfl ?_
            refine g_if_eq F (tgt := 90) d_Mo_commentEnd_47 (by decide) (fun _ => ?_) (fun h => absurd h (by decide))
            refine g_iconst F (v := 0) d_Mo_commentEnd_90 (by decide) ?_
            refine g_istore_n F (L' := [(3, .int 0), (4, .int 0), (0, .ref (ad 0)), (1, .int v1), (2, .int v2)]) d_Mo_commentEnd_91 rfl (by decide) rfl ?_
            refine g_iload_n F d_Mo_commentEnd_92 0 rfl ?_
            refine g_if_eq F (tgt := 100) d_Mo_commentEnd_93 (by decide) (fun _ => ?_) (fun h => absurd h (by decide))
            refine g_iload_n F d_Mo_commentEnd_100 4 rfl ?_
            refine g_iconst F (v := 1) d_Mo_commentEnd_101 (by decide) ?_
            refine g_iadd F d_Mo_commentEnd_102 ?_
            refine g_istore_n F (L' := [(2, .int (v2 + 1)), (3, .int 0), (4, .int 0), (0, .ref (ad 0)), (1, .int v1)]) d_Mo_commentEnd_103 rfl (by decide) rfl ?_
            refine g_goto F (tgt := 4) d_Mo_commentEnd_104 (by decide) ?_
            refine g_loc [3, 4, 0, 1] rfl ?_
            exact ih v1 (v2 + 1) 0 hf
          · rw [if_pos h] at hf
            refine g_aload_n F d_Mo_commentEnd_26 0 rfl ?_
            refine g_iload_n F d_Mo_commentEnd_27 2 rfl ?_
            refine g_iconst F (v := 1) d_Mo_commentEnd_28 (by decide) ?_
            refine g_iadd F d_Mo_commentEnd_29 ?_
            obtain ⟨x2, hx2, hf⟩ := g_bind hf
            refine g_ci F (r0 := x2) (ws' := (Wo ad cA sMo)) (fun H locs ls hP hD hS hl => g_runV F (As := [.int (v2 + 1)]) (n := 1) mw_1228 rfl rfl ⟨by decide, by decide⟩ rfl (by exact Nat.le_of_ble_eq_true rfl) mw_1225 mw_1227 mw_34 mw_85 (by decide +kernel) d_Mo_commentEnd_30 hP hD hS hl (va_recv F.2.2.2.2.2.1 hP (ci := 9) rfl (q0 := 0) rfl) (c_Mo_charAt l D cA z ad sMo (v2 + 1) hx2 H.size)) ?_
            refine g_bipush F (v := 45) d_Mo_commentEnd_33 (by decide) ?_
            refine g_icmp_ne F (tgt := 42) d_Mo_commentEnd_35 (by decide) (fun h => ?_) (fun h => ?_)
            · rw [if_neg h] at hf
              refine g_iconst F (v := 0) d_Mo_commentEnd_42 (by decide) ?_
              refine g_istore F (L' := [(4, .int 0), (0, .ref (ad 0)), (1, .int v1), (2, .int v2), (3, .int v3)]) d_Mo_commentEnd_43 (by decide) rfl ?_
              refine g_iload F d_Mo_commentEnd_45 0 rfl ?_
              refine g_if_eq F (tgt := 90) d_Mo_commentEnd_47 (by decide) (fun _ => ?_) (fun h => absurd h (by decide))
              refine g_iconst F (v := 0) d_Mo_commentEnd_90 (by decide) ?_
              refine g_istore_n F (L' := [(3, .int 0), (4, .int 0), (0, .ref (ad 0)), (1, .int v1), (2, .int v2)]) d_Mo_commentEnd_91 rfl (by decide) rfl ?_
              refine g_iload_n F d_Mo_commentEnd_92 0 rfl ?_
              refine g_if_eq F (tgt := 100) d_Mo_commentEnd_93 (by decide) (fun _ => ?_) (fun h => absurd h (by decide))
              refine g_iload_n F d_Mo_commentEnd_100 4 rfl ?_
              refine g_iconst F (v := 1) d_Mo_commentEnd_101 (by decide) ?_
              refine g_iadd F d_Mo_commentEnd_102 ?_
              refine g_istore_n F (L' := [(2, .int (v2 + 1)), (3, .int 0), (4, .int 0), (0, .ref (ad 0)), (1, .int v1)]) d_Mo_commentEnd_103 rfl (by decide) rfl ?_
              refine g_goto F (tgt := 4) d_Mo_commentEnd_104 (by decide) ?_
              refine g_loc [3, 4, 0, 1] rfl ?_
              exact ih v1 (v2 + 1) 0 hf
            · rw [if_pos h] at hf
              refine g_iconst F (v := 1) d_Mo_commentEnd_38 (by decide) ?_
              refine g_goto F (tgt := 43) d_Mo_commentEnd_39 (by decide) ?_
              refine g_istore F (L' := [(4, .int 1), (0, .ref (ad 0)), (1, .int v1), (2, .int v2), (3, .int v3)]) d_Mo_commentEnd_43 (by decide) rfl ?_
              refine g_iload F d_Mo_commentEnd_45 0 rfl ?_
              refine g_if_eq F (tgt := 90) d_Mo_commentEnd_47 (by decide) (fun h => absurd h (by decide)) (fun _ => ?_)
              refine g_aload_n F d_Mo_commentEnd_50 1 rfl ?_
              refine g_iload_n F d_Mo_commentEnd_51 3 rfl ?_
              refine g_iconst F (v := 2) d_Mo_commentEnd_52 (by decide) ?_
              refine g_iadd F d_Mo_commentEnd_53 ?_
              obtain ⟨x3, hx3, hf⟩ := g_bind hf
              refine g_ci F (r0 := x3) (ws' := (Wo ad cA sMo)) (fun H locs ls hP hD hS hl => g_runV F (As := [.int (v2 + 2)]) (n := 1) mw_1228 rfl rfl ⟨by decide, by decide⟩ rfl (by exact Nat.le_of_ble_eq_true rfl) mw_1225 mw_1227 mw_34 mw_85 (by decide +kernel) d_Mo_commentEnd_54 hP hD hS hl (va_recv F.2.2.2.2.2.1 hP (ci := 9) rfl (q0 := 0) rfl) (c_Mo_charAt l D cA z ad sMo (v2 + 2) hx3 H.size)) ?_
              refine g_bipush F (v := 62) d_Mo_commentEnd_57 (by decide) ?_
              refine g_icmp_eq F (tgt := 86) d_Mo_commentEnd_59 (by decide) (fun h => ?_) (fun h => ?_)
              · rw [if_pos h] at hf
                refine g_iconst F (v := 1) d_Mo_commentEnd_86 (by decide) ?_
                refine g_goto F (tgt := 91) d_Mo_commentEnd_87 (by decide) ?_
                refine g_istore_n F (L' := [(3, .int 1), (4, .int 1), (0, .ref (ad 0)), (1, .int v1), (2, .int v2)]) d_Mo_commentEnd_91 rfl (by decide) rfl ?_
                refine g_iload_n F d_Mo_commentEnd_92 0 rfl ?_
                refine g_if_eq F (tgt := 100) d_Mo_commentEnd_93 (by decide) (fun h => absurd h (by decide)) (fun _ => ?_)
                refine g_iload_n F d_Mo_commentEnd_96 4 rfl ?_
                refine g_goto F (tgt := 103) d_Mo_commentEnd_97 (by decide) ?_
                refine g_istore_n F (L' := [(2, .int v2), (3, .int 1), (4, .int 1), (0, .ref (ad 0)), (1, .int v1)]) d_Mo_commentEnd_103 rfl (by decide) rfl ?_
                refine g_goto F (tgt := 4) d_Mo_commentEnd_104 (by decide) ?_
                refine g_loc [3, 4, 0, 1] rfl ?_
                exact ih v1 v2 1 hf
              · rw [if_neg h] at hf
                refine g_aload_n F d_Mo_commentEnd_62 1 rfl ?_
                refine g_iload_n F d_Mo_commentEnd_63 3 rfl ?_
                refine g_iconst F (v := 2) d_Mo_commentEnd_64 (by decide) ?_
                refine g_iadd F d_Mo_commentEnd_65 ?_
                obtain ⟨x4, hx4, hf⟩ := g_bind hf
                refine g_ci F (r0 := x4) (ws' := (Wo ad cA sMo)) (fun H locs ls hP hD hS hl => g_runV F (As := [.int (v2 + 2)]) (n := 1) mw_1228 rfl rfl ⟨by decide, by decide⟩ rfl (by exact Nat.le_of_ble_eq_true rfl) mw_1225 mw_1227 mw_34 mw_85 (by decide +kernel) d_Mo_commentEnd_66 hP hD hS hl (va_recv F.2.2.2.2.2.1 hP (ci := 9) rfl (q0 := 0) rfl) (c_Mo_charAt l D cA z ad sMo (v2 + 2) hx4 H.size)) ?_
                refine g_bipush F (v := 33) d_Mo_commentEnd_69 (by decide) ?_
                refine g_icmp_ne F (tgt := 90) d_Mo_commentEnd_71 (by decide) (fun h => ?_) (fun h => ?_)
                · rw [if_neg h] at hf
                  refine g_iconst F (v := 0) d_Mo_commentEnd_90 (by decide) ?_
                  refine g_istore_n F (L' := [(3, .int 0), (4, .int 1), (0, .ref (ad 0)), (1, .int v1), (2, .int v2)]) d_Mo_commentEnd_91 rfl (by decide) rfl ?_
                  refine g_iload_n F d_Mo_commentEnd_92 0 rfl ?_
                  refine g_if_eq F (tgt := 100) d_Mo_commentEnd_93 (by decide) (fun _ => ?_) (fun h => absurd h (by decide))
                  refine g_iload_n F d_Mo_commentEnd_100 4 rfl ?_
                  refine g_iconst F (v := 1) d_Mo_commentEnd_101 (by decide) ?_
                  refine g_iadd F d_Mo_commentEnd_102 ?_
                  refine g_istore_n F (L' := [(2, .int (v2 + 1)), (3, .int 0), (4, .int 1), (0, .ref (ad 0)), (1, .int v1)]) d_Mo_commentEnd_103 rfl (by decide) rfl ?_
                  refine g_goto F (tgt := 4) d_Mo_commentEnd_104 (by decide) ?_
                  refine g_loc [3, 4, 0, 1] rfl ?_
                  exact ih v1 (v2 + 1) 0 hf
                · rw [if_pos h] at hf
                  refine g_aload_n F d_Mo_commentEnd_74 1 rfl ?_
                  refine g_iload_n F d_Mo_commentEnd_75 3 rfl ?_
                  refine g_iconst F (v := 3) d_Mo_commentEnd_76 (by decide) ?_
                  refine g_iadd F d_Mo_commentEnd_77 ?_
                  obtain ⟨x5, hx5, hf⟩ := g_bind hf
                  refine g_ci F (r0 := x5) (ws' := (Wo ad cA sMo)) (fun H locs ls hP hD hS hl => g_runV F (As := [.int (v2 + 3)]) (n := 1) mw_1228 rfl rfl ⟨by decide, by decide⟩ rfl (by exact Nat.le_of_ble_eq_true rfl) mw_1225 mw_1227 mw_34 mw_85 (by decide +kernel) d_Mo_commentEnd_78 hP hD hS hl (va_recv F.2.2.2.2.2.1 hP (ci := 9) rfl (q0 := 0) rfl) (c_Mo_charAt l D cA z ad sMo (v2 + 3) hx5 H.size)) ?_
                  refine g_bipush F (v := 62) d_Mo_commentEnd_81 (by decide) ?_
                  refine g_icmp_ne F (tgt := 90) d_Mo_commentEnd_83 (by decide) (fun h => ?_) (fun h => ?_)
                  · rw [if_neg h] at hf
                    refine g_iconst F (v := 0) d_Mo_commentEnd_90 (by decide) ?_
                    refine g_istore_n F (L' := [(3, .int 0), (4, .int 1), (0, .ref (ad 0)), (1, .int v1), (2, .int v2)]) d_Mo_commentEnd_91 rfl (by decide) rfl ?_
                    refine g_iload_n F d_Mo_commentEnd_92 0 rfl ?_
                    refine g_if_eq F (tgt := 100) d_Mo_commentEnd_93 (by decide) (fun _ => ?_) (fun h => absurd h (by decide))
                    refine g_iload_n F d_Mo_commentEnd_100 4 rfl ?_
                    refine g_iconst F (v := 1) d_Mo_commentEnd_101 (by decide) ?_
                    refine g_iadd F d_Mo_commentEnd_102 ?_
                    refine g_istore_n F (L' := [(2, .int (v2 + 1)), (3, .int 0), (4, .int 1), (0, .ref (ad 0)), (1, .int v1)]) d_Mo_commentEnd_103 rfl (by decide) rfl ?_
                    refine g_goto F (tgt := 4) d_Mo_commentEnd_104 (by decide) ?_
                    refine g_loc [3, 4, 0, 1] rfl ?_
                    exact ih v1 (v2 + 1) 0 hf
                  · rw [if_pos h] at hf
                    refine g_iconst F (v := 1) d_Mo_commentEnd_86 (by decide) ?_
                    refine g_goto F (tgt := 91) d_Mo_commentEnd_87 (by decide) ?_
                    refine g_istore_n F (L' := [(3, .int 1), (4, .int 1), (0, .ref (ad 0)), (1, .int v1), (2, .int v2)]) d_Mo_commentEnd_91 rfl (by decide) rfl ?_
                    refine g_iload_n F d_Mo_commentEnd_92 0 rfl ?_
                    refine g_if_eq F (tgt := 100) d_Mo_commentEnd_93 (by decide) (fun h => absurd h (by decide)) (fun _ => ?_)
                    refine g_iload_n F d_Mo_commentEnd_96 4 rfl ?_
                    refine g_goto F (tgt := 103) d_Mo_commentEnd_97 (by decide) ?_
                    refine g_istore_n F (L' := [(2, .int v2), (3, .int 1), (4, .int 1), (0, .ref (ad 0)), (1, .int v1)]) d_Mo_commentEnd_103 rfl (by decide) rfl ?_
                    refine g_goto F (tgt := 4) d_Mo_commentEnd_104 (by decide) ?_
                    refine g_loc [3, 4, 0, 1] rfl ?_
                    exact ih v1 v2 1 hf
  unfold f_Mo_commentEnd at hf
  refine g_iload_n F d_Mo_commentEnd_0 1 rfl ?_
  refine g_istore_n F (L' := [(2, .int a1), (0, .ref (ad 0)), (1, .int a1)]) d_Mo_commentEnd_1 rfl (by decide) rfl ?_
  refine g_iconst F (v := 0) d_Mo_commentEnd_2 (by decide) ?_
  refine g_istore_n F (L' := [(3, .int 0), (2, .int a1), (0, .ref (ad 0)), (1, .int a1)]) d_Mo_commentEnd_3 rfl (by decide) rfl ?_
  refine g_loc [2, 3, 1, 0] rfl ?_
  exact blk4 FU a1 a1 0 hf
