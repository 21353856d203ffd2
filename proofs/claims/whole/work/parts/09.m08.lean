set_option maxHeartbeats 4000000 in
set_option maxRecDepth 100000 in
theorem c_Mo_behindName (l : Launch) (D : va_G) (cA : Nat → ClassId) (z : gZ) (ad : Nat → Nat) (sMo : SMo) {x : Int32 × SMo} (hf : f_Mo_behindName sMo = some x) (sz : Nat) : Met l y_Mo_behindName (.code y_Mo_behindName b_Mo_behindName 2 (some .boolean) :: lw_g) { frames := 8, cells := 0, slots := 0, locals := 181 } (gP D (gT cA) z [.ref (ad 0)] (Wo ad cA sMo) sz) (gQi D (gT cA) (va_A (Wo ad cA sMo) sz) x.1 (Wo ad cA x.2)) 0 0 (va_A (Wo ad cA sMo) sz) := by
  refine g_met (by decide) (Nat.le_of_ble_eq_true rfl) rfl ?_
  intro p e s m args below meth c F hr hlk
  unfold f_Mo_behindName at hf
  refine g_aload_n F d_Mo_behindName_0 0 rfl ?_
  obtain ⟨x1, hx1, hf⟩ := g_bind hf
  refine g_cv F (ws' := (Wo ad cA x1)) (fun H locs ls hP hD hS hl => g_runV F (As := []) (n := 0) mw_1336 rfl rfl ⟨by decide, by decide⟩ rfl (by exact Nat.le_of_ble_eq_true rfl) mw_1333 mw_1335 mw_54 mw_85 (by decide +kernel) d_Mo_behindName_1 hP hD hS hl (va_recv F.2.2.2.2.2.1 hP (ci := 9) rfl (q0 := 0) rfl) (c_Mo_skipBlanks l D cA z ad sMo hx1 H.size)) ?_
  refine g_aload_n F d_Mo_behindName_4 0 rfl ?_
  refine g_aload_n F d_Mo_behindName_5 0 rfl ?_
  refine g_get F (v := .int (q_Mo_p x1)) in_X13 0 rfl rfl 7 (by decide) mw_1113 rfl d_Mo_behindName_6 ?_
  obtain ⟨x2, hx2, hf⟩ := g_bind hf
  refine g_ci F (r0 := x2) (ws' := (Wo ad cA x1)) (fun H locs ls hP hD hS hl => g_runV F (As := [.int (q_Mo_p x1)]) (n := 1) mw_1228 rfl rfl ⟨by decide, by decide⟩ rfl (by exact Nat.le_of_ble_eq_true rfl) mw_1225 mw_1227 mw_34 mw_85 (by decide +kernel) d_Mo_behindName_9 hP hD hS hl (va_recv F.2.2.2.2.2.1 hP (ci := 9) rfl (q0 := 0) rfl) (c_Mo_charAt l D cA z ad x1 (q_Mo_p x1) hx2 H.size)) ?_
  refine g_istore_n F (L' := [(1, .int x2), (0, .ref (ad 0))]) d_Mo_behindName_12 rfl (by decide) rfl ?_
  refine g_iload_n F d_Mo_behindName_13 0 rfl ?_
  refine g_iconst F (v := (-1)) d_Mo_behindName_14 (by decide) ?_
  refine g_icmp_ne F (tgt := 24) d_Mo_behindName_15 (by decide) (fun h => ?_) (fun h => ?_)
  · rw [if_neg h] at hf
    refine g_iload_n F d_Mo_behindName_24 0 rfl ?_
    refine g_bipush F (v := 62) d_Mo_behindName_25 (by decide) ?_
    refine g_icmp_ne F (tgt := 36) d_Mo_behindName_27 (by decide) (fun h => ?_) (fun h => ?_)
    · rw [if_neg h] at hf
      refine g_iload_n F d_Mo_behindName_36 0 rfl ?_
      refine g_bipush F (v := 47) d_Mo_behindName_37 (by decide) ?_
      refine g_icmp_ne F (tgt := 111) d_Mo_behindName_39 (by decide) (fun h => ?_) (fun h => ?_)
      · rw [if_neg h] at hf
        refine g_aload_n F d_Mo_behindName_111 1 rfl ?_
        obtain ⟨x3, hx3, hf⟩ := g_bind hf
        refine g_ci F (r0 := x3.1) (ws' := (Wo ad cA x3.2)) (fun H locs ls hP hD hS hl => g_runV F (As := []) (n := 0) mw_1368 rfl rfl ⟨by decide, by decide⟩ rfl (by exact Nat.le_of_ble_eq_true rfl) mw_1365 mw_1367 mw_62 mw_85 (by decide +kernel) d_Mo_behindName_112 hP hD hS hl (va_recv F.2.2.2.2.2.1 hP (ci := 9) rfl (q0 := 0) rfl) (c_Mo_attribute l D cA z ad x1 hx3 H.size)) ?_
        obtain ⟨k1, hf⟩ := g_chk hf
        cases hf
        exact g_zret F hr (bz_ok k1) hlk rfl rfl rfl d_Mo_behindName_115
      · rw [if_pos h] at hf
        refine g_aload_n F d_Mo_behindName_42 1 rfl ?_
        refine g_dup F d_Mo_behindName_43 rfl ?_
        refine g_get F (v := .int (q_Mo_p x1)) in_X13 0 rfl rfl 7 (by decide) mw_1113 rfl d_Mo_behindName_44 ?_
        refine g_iconst F (v := 1) d_Mo_behindName_47 (by decide) ?_
        refine g_iadd F d_Mo_behindName_48 ?_
        refine g_put F in_X13 0 rfl rfl 7 (by decide) tyX13 tyX13_ok nmX13 mw_1113 rfl rfl rfl (Nat.le_of_ble_eq_true rfl) (ws' := (Wn ad cA (q_Mo_names x1) (q_Mo_gives x1) (q_Mo_turned x1) (q_Mo_size x1) (q_Mo_bytes x1) (q_Mo_n x1) (q_Mo_text x1) ((q_Mo_p x1) + 1) (q_Mo_ended x1) (q_Mo_tokens x1) (q_Mo_kinds x1) (q_Mo_firsts x1) (q_Mo_sizes x1) (q_Mo_marks x1) (q_Mo_attributes x1) (q_Mo_manyOf x1) (q_Mo_attributeCount x1) (q_Mo_nameAt x1) (q_Mo_nameSize x1) (q_Mo_valueAt x1) (q_Mo_valueSize x1) (q_Mo_goes x1) (q_Mo_rowSize x1) (q_Mo_row x1) (q_Mo_textAt x1) (q_Mo_textSize x1) (q_Mo_faultCount x1) (q_Mo_codes x1) (q_Mo_places x1) (q_Mo_outSize x1) (q_Mo_out x1) (q_Mo_which x1))) rfl d_Mo_behindName_49 ?_
        refine g_aload_n F d_Mo_behindName_52 1 rfl ?_
        refine g_aload_n F d_Mo_behindName_53 1 rfl ?_
        refine g_get F (v := .int ((q_Mo_p x1) + 1)) in_X13 0 rfl rfl 7 (by decide) mw_1113 rfl d_Mo_behindName_54 ?_
        obtain ⟨x4, hx4, hf⟩ := g_bind hf
        refine g_ci F (r0 := x4) (ws' := (Wn ad cA (q_Mo_names x1) (q_Mo_gives x1) (q_Mo_turned x1) (q_Mo_size x1) (q_Mo_bytes x1) (q_Mo_n x1) (q_Mo_text x1) ((q_Mo_p x1) + 1) (q_Mo_ended x1) (q_Mo_tokens x1) (q_Mo_kinds x1) (q_Mo_firsts x1) (q_Mo_sizes x1) (q_Mo_marks x1) (q_Mo_attributes x1) (q_Mo_manyOf x1) (q_Mo_attributeCount x1) (q_Mo_nameAt x1) (q_Mo_nameSize x1) (q_Mo_valueAt x1) (q_Mo_valueSize x1) (q_Mo_goes x1) (q_Mo_rowSize x1) (q_Mo_row x1) (q_Mo_textAt x1) (q_Mo_textSize x1) (q_Mo_faultCount x1) (q_Mo_codes x1) (q_Mo_places x1) (q_Mo_outSize x1) (q_Mo_out x1) (q_Mo_which x1))) (fun H locs ls hP hD hS hl => g_runV F (As := [.int ((q_Mo_p x1) + 1)]) (n := 1) mw_1228 rfl rfl ⟨by decide, by decide⟩ rfl (by exact Nat.le_of_ble_eq_true rfl) mw_1225 mw_1227 mw_34 mw_85 (by decide +kernel) d_Mo_behindName_57 hP hD hS hl (va_recv F.2.2.2.2.2.1 hP (ci := 9) rfl (q0 := 0) rfl) (c_Mo_charAt l D cA z ad (u_Mo_p x1 ((q_Mo_p x1) + 1)) ((q_Mo_p x1) + 1) hx4 H.size)) ?_
        refine g_bipush F (v := 62) d_Mo_behindName_60 (by decide) ?_
        refine g_icmp_ne F (tgt := 81) d_Mo_behindName_62 (by decide) (fun h => ?_) (fun h => ?_)
        · rw [if_neg h] at hf
          refine g_aload_n F d_Mo_behindName_81 1 rfl ?_
          refine g_aload_n F d_Mo_behindName_82 1 rfl ?_
          refine g_get F (v := .int ((q_Mo_p x1) + 1)) in_X13 0 rfl rfl 7 (by decide) mw_1113 rfl d_Mo_behindName_83 ?_
          obtain ⟨x5, hx5, hf⟩ := g_bind hf
          refine g_ci F (r0 := x5) (ws' := (Wn ad cA (q_Mo_names x1) (q_Mo_gives x1) (q_Mo_turned x1) (q_Mo_size x1) (q_Mo_bytes x1) (q_Mo_n x1) (q_Mo_text x1) ((q_Mo_p x1) + 1) (q_Mo_ended x1) (q_Mo_tokens x1) (q_Mo_kinds x1) (q_Mo_firsts x1) (q_Mo_sizes x1) (q_Mo_marks x1) (q_Mo_attributes x1) (q_Mo_manyOf x1) (q_Mo_attributeCount x1) (q_Mo_nameAt x1) (q_Mo_nameSize x1) (q_Mo_valueAt x1) (q_Mo_valueSize x1) (q_Mo_goes x1) (q_Mo_rowSize x1) (q_Mo_row x1) (q_Mo_textAt x1) (q_Mo_textSize x1) (q_Mo_faultCount x1) (q_Mo_codes x1) (q_Mo_places x1) (q_Mo_outSize x1) (q_Mo_out x1) (q_Mo_which x1))) (fun H locs ls hP hD hS hl => g_runV F (As := [.int ((q_Mo_p x1) + 1)]) (n := 1) mw_1228 rfl rfl ⟨by decide, by decide⟩ rfl (by exact Nat.le_of_ble_eq_true rfl) mw_1225 mw_1227 mw_34 mw_85 (by decide +kernel) d_Mo_behindName_86 hP hD hS hl (va_recv F.2.2.2.2.2.1 hP (ci := 9) rfl (q0 := 0) rfl) (c_Mo_charAt l D cA z ad (u_Mo_p x1 ((q_Mo_p x1) + 1)) ((q_Mo_p x1) + 1) hx5 H.size)) ?_
          refine g_iconst F (v := (-1)) d_Mo_behindName_89 (by decide) ?_
          refine g_icmp_ne F (tgt := 99) d_Mo_behindName_90 (by decide) (fun h => ?_) (fun h => ?_)
          · rw [if_neg h] at hf
            refine g_aload_n F d_Mo_behindName_99 1 rfl ?_
            refine g_bipush F (v := 13) d_Mo_behindName_100 (by decide) ?_
            refine g_aload_n F d_Mo_behindName_102 1 rfl ?_
            refine g_get F (v := .int ((q_Mo_p x1) + 1)) in_X13 0 rfl rfl 7 (by decide) mw_1113 rfl d_Mo_behindName_103 ?_
            obtain ⟨x6, hx6, hf⟩ := g_bind hf
            refine g_cv F (ws' := (Wo ad cA x6)) (fun H locs ls hP hD hS hl => g_runV F (As := [.int 13, .int ((q_Mo_p x1) + 1)]) (n := 2) mw_1247 rfl rfl ⟨by decide, by decide⟩ rfl (by exact Nat.le_of_ble_eq_true rfl) mw_1244 mw_1246 mw_37 mw_85 (by decide +kernel) d_Mo_behindName_106 hP hD hS hl (va_recv F.2.2.2.2.2.1 hP (ci := 9) rfl (q0 := 0) rfl) (c_Mo_wrong l D cA z ad (u_Mo_p x1 ((q_Mo_p x1) + 1)) 13 ((q_Mo_p x1) + 1) hx6 H.size)) ?_
            refine g_iconst F (v := 1) d_Mo_behindName_109 (by decide) ?_
            cases hf
            exact g_zret F hr rfl hlk rfl rfl rfl d_Mo_behindName_110
          · rw [if_pos h] at hf
            refine g_aload_n F d_Mo_behindName_93 1 rfl ?_
            obtain ⟨x7, hx7, hf⟩ := g_bind hf
            refine g_cv F (ws' := (Wo ad cA x7)) (fun H locs ls hP hD hS hl => g_runV F (As := []) (n := 0) mw_1360 rfl rfl ⟨by decide, by decide⟩ rfl (by exact Nat.le_of_ble_eq_true rfl) mw_1357 mw_1359 mw_60 mw_85 (by decide +kernel) d_Mo_behindName_94 hP hD hS hl (va_recv F.2.2.2.2.2.1 hP (ci := 9) rfl (q0 := 0) rfl) (c_Mo_drop l D cA z ad (u_Mo_p x1 ((q_Mo_p x1) + 1)) hx7 H.size)) ?_
            refine g_iconst F (v := 0) d_Mo_behindName_97 (by decide) ?_
            cases hf
            exact g_zret F hr rfl hlk rfl rfl rfl d_Mo_behindName_98
        · rw [if_pos h] at hf
          refine g_aload_n F d_Mo_behindName_65 1 rfl ?_
          refine g_get F (v := .ref (ad 9)) in_X13 0 rfl rfl 13 (by decide) mw_1119 rfl d_Mo_behindName_66 ?_
          refine g_aload_n F d_Mo_behindName_69 1 rfl ?_
          refine g_get F (v := .int (q_Mo_tokens x1)) in_X13 0 rfl rfl 9 (by decide) mw_1115 rfl d_Mo_behindName_70 ?_
          refine g_iconst F (v := 1) d_Mo_behindName_73 (by decide) ?_
          obtain ⟨k2, hf⟩ := g_chk hf
          refine g_zast F (f := (q_Mo_marks x1)) 9 3 rfl rfl k2 (ws' := (Wn ad cA (q_Mo_names x1) (q_Mo_gives x1) (q_Mo_turned x1) (q_Mo_size x1) (q_Mo_bytes x1) (q_Mo_n x1) (q_Mo_text x1) ((q_Mo_p x1) + 1) (q_Mo_ended x1) (q_Mo_tokens x1) (q_Mo_kinds x1) (q_Mo_firsts x1) (q_Mo_sizes x1) (upd (q_Mo_marks x1) ((q_Mo_tokens x1) : Int32).toNatClampNeg (vp_nar .boolean 1)) (q_Mo_attributes x1) (q_Mo_manyOf x1) (q_Mo_attributeCount x1) (q_Mo_nameAt x1) (q_Mo_nameSize x1) (q_Mo_valueAt x1) (q_Mo_valueSize x1) (q_Mo_goes x1) (q_Mo_rowSize x1) (q_Mo_row x1) (q_Mo_textAt x1) (q_Mo_textSize x1) (q_Mo_faultCount x1) (q_Mo_codes x1) (q_Mo_places x1) (q_Mo_outSize x1) (q_Mo_out x1) (q_Mo_which x1))) rfl d_Mo_behindName_74 ?_
          refine g_aload_n F d_Mo_behindName_75 1 rfl ?_
          obtain ⟨x8, hx8, hf⟩ := g_bind hf
          refine g_cv F (ws' := (Wo ad cA x8)) (fun H locs ls hP hD hS hl => g_runV F (As := []) (n := 0) mw_1364 rfl rfl ⟨by decide, by decide⟩ rfl (by exact Nat.le_of_ble_eq_true rfl) mw_1361 mw_1363 mw_61 mw_85 (by decide +kernel) d_Mo_behindName_76 hP hD hS hl (va_recv F.2.2.2.2.2.1 hP (ci := 9) rfl (q0 := 0) rfl) (c_Mo_finish l D cA z ad (u_Mo_p_marks x1 ((q_Mo_p x1) + 1) (upd (q_Mo_marks x1) ((q_Mo_tokens x1) : Int32).toNatClampNeg (vp_nar .boolean 1))) hx8 H.size)) ?_
          refine g_iconst F (v := 0) d_Mo_behindName_79 (by decide) ?_
          cases hf
          exact g_zret F hr rfl hlk rfl rfl rfl d_Mo_behindName_80
    · rw [if_pos h] at hf
      refine g_aload_n F d_Mo_behindName_30 1 rfl ?_
      obtain ⟨x9, hx9, hf⟩ := g_bind hf
      refine g_cv F (ws' := (Wo ad cA x9)) (fun H locs ls hP hD hS hl => g_runV F (As := []) (n := 0) mw_1364 rfl rfl ⟨by decide, by decide⟩ rfl (by exact Nat.le_of_ble_eq_true rfl) mw_1361 mw_1363 mw_61 mw_85 (by decide +kernel) d_Mo_behindName_31 hP hD hS hl (va_recv F.2.2.2.2.2.1 hP (ci := 9) rfl (q0 := 0) rfl) (c_Mo_finish l D cA z ad x1 hx9 H.size)) ?_
      refine g_iconst F (v := 0) d_Mo_behindName_34 (by decide) ?_
      cases hf
      exact g_zret F hr rfl hlk rfl rfl rfl d_Mo_behindName_35
  · rw [if_pos h] at hf
    refine g_aload_n F d_Mo_behindName_18 1 rfl ?_
    obtain ⟨x10, hx10, hf⟩ := g_bind hf
    refine g_cv F (ws' := (Wo ad cA x10)) (fun H locs ls hP hD hS hl => g_runV F (As := []) (n := 0) mw_1360 rfl rfl ⟨by decide, by decide⟩ rfl (by exact Nat.le_of_ble_eq_true rfl) mw_1357 mw_1359 mw_60 mw_85 (by decide +kernel) d_Mo_behindName_19 hP hD hS hl (va_recv F.2.2.2.2.2.1 hP (ci := 9) rfl (q0 := 0) rfl) (c_Mo_drop l D cA z ad x1 hx10 H.size)) ?_
    refine g_iconst F (v := 0) d_Mo_behindName_22 (by decide) ?_
    cases hf
    exact g_zret F hr rfl hlk rfl rfl rfl d_Mo_behindName_23
set_option maxHeartbeats 4000000 in
set_option maxRecDepth 100000 in
theorem c_Mo_tagName (l : Launch) (D : va_G) (cA : Nat → ClassId) (z : gZ) (ad : Nat → Nat) (sMo : SMo) {x : SMo} (hf : f_Mo_tagName sMo = some x) (sz : Nat) : Met l y_Mo_tagName (.code y_Mo_tagName b_Mo_tagName 3 none :: lw_g) { frames := 9, cells := 0, slots := 0, locals := 202 } (gP D (gT cA) z [.ref (ad 0)] (Wo ad cA sMo) sz) (gQv D (gT cA) (va_A (Wo ad cA sMo) sz) (Wo ad cA x)) 0 0 (va_A (Wo ad cA sMo) sz) := by
  refine g_met (by decide) (Nat.le_of_ble_eq_true rfl) rfl ?_
  intro p e s m args below meth c F hr hlk
  have blk81 : ∀ (n : Nat) (v1 : Int32) (v2 : Int32) (tMo : SMo), f_Mo_tagName_81 n v1 v2 tMo = some x → GW p l e { frames := 9, cells := 0, slots := 0, locals := 202 } s m args below meth c (gQv D (gT cA) (va_A (Wo ad cA sMo) sz) (Wo ad cA x)) D (va_A (Wo ad cA sMo) sz) 3 (Wo ad cA tMo) 81 [(0, .ref (ad 0)), (1, .int v1), (2, .int v2)] [] := by
    intro n
    induction n with
    | zero => intro _ _ _ hf; cases hf
    | succ n ih =>
      intro v1 v2 tMo hf
      rw [f_Mo_tagName_81] at hf
      refine g_iload_n F d_Mo_tagName_81 2 rfl ?_
      refine g_if_eq F (tgt := 93) d_Mo_tagName_82 (by decide) (fun h => ?_) (fun h => ?_)
      · rw [if_pos h] at hf
        cases hf
        exact g_vret F hr hlk rfl rfl d_Mo_tagName_93
      · rw [if_neg h] at hf
        refine g_aload_n F d_Mo_tagName_85 0 rfl ?_
        obtain ⟨x1, hx1, hf⟩ := g_bind hf
        refine g_ci F (r0 := x1.1) (ws' := (Wo ad cA x1.2)) (fun H locs ls hP hD hS hl => g_runV F (As := []) (n := 0) mw_1356 rfl rfl ⟨by decide, by decide⟩ rfl (by exact Nat.le_of_ble_eq_true rfl) mw_1353 mw_1355 mw_59 mw_85 (by decide +kernel) d_Mo_tagName_86 hP hD hS hl (va_recv F.2.2.2.2.2.1 hP (ci := 9) rfl (q0 := 0) rfl) (c_Mo_behindName l D cA z ad tMo hx1 H.size)) ?_
        refine g_istore_n F (L' := [(2, .int x1.1), (0, .ref (ad 0)), (1, .int v1)]) d_Mo_tagName_89 rfl (by decide) rfl ?_
        refine g_goto F (tgt := 81) d_Mo_tagName_90 (by decide) ?_
        refine g_loc [1, 2, 0] rfl ?_
        exact ih v1 x1.1 x1.2 hf
  have blk9 : ∀ (n : Nat) (v1 : Int32) (tMo : SMo), f_Mo_tagName_9 n v1 tMo = some x → GW p l e { frames := 9, cells := 0, slots := 0, locals := 202 } s m args below meth c (gQv D (gT cA) (va_A (Wo ad cA sMo) sz) (Wo ad cA x)) D (va_A (Wo ad cA sMo) sz) 3 (Wo ad cA tMo) 9 [(0, .ref (ad 0)), (1, .int v1)] [] := by
    intro n
    induction n with
    | zero => intro _ _ hf; cases hf
    | succ n ih =>
      intro v1 tMo hf
      rw [f_Mo_tagName_9] at hf
      refine g_iload_n F d_Mo_tagName_9 1 rfl ?_
      refine g_iconst F (v := (-1)) d_Mo_tagName_10 (by decide) ?_
      refine g_icmp_eq F (tgt := 56) d_Mo_tagName_11 (by decide) (fun h => ?_) (fun h => ?_)
      · rw [if_pos h] at hf
        refine g_aload_n F d_Mo_tagName_56 0 rfl ?_
        refine g_get F (v := .ref (ad 8)) in_X13 0 rfl rfl 12 (by decide) mw_1118 rfl d_Mo_tagName_57 ?_
        refine g_aload_n F d_Mo_tagName_60 0 rfl ?_
        refine g_get F (v := .int (q_Mo_tokens tMo)) in_X13 0 rfl rfl 9 (by decide) mw_1115 rfl d_Mo_tagName_61 ?_
        refine g_aload_n F d_Mo_tagName_64 0 rfl ?_
        refine g_get F (v := .int (q_Mo_rowSize tMo)) in_X13 0 rfl rfl 22 (by decide) mw_1128 rfl d_Mo_tagName_65 ?_
        refine g_aload_n F d_Mo_tagName_68 0 rfl ?_
        refine g_get F (v := .ref (ad 7)) in_X13 0 rfl rfl 11 (by decide) mw_1117 rfl d_Mo_tagName_69 ?_
        refine g_aload_n F d_Mo_tagName_72 0 rfl ?_
        refine g_get F (v := .int (q_Mo_tokens tMo)) in_X13 0 rfl rfl 9 (by decide) mw_1115 rfl d_Mo_tagName_73 ?_
        obtain ⟨k1, hf⟩ := g_chk hf
        refine g_iald F (f := (q_Mo_firsts tMo)) 7 0 rfl rfl k1 d_Mo_tagName_76 ?_
        refine g_isub F d_Mo_tagName_77 ?_
        obtain ⟨k2, hf⟩ := g_chk hf
        refine g_iast F (f := (q_Mo_sizes tMo)) 8 0 rfl rfl k2 (ws' := (Wn ad cA (q_Mo_names tMo) (q_Mo_gives tMo) (q_Mo_turned tMo) (q_Mo_size tMo) (q_Mo_bytes tMo) (q_Mo_n tMo) (q_Mo_text tMo) (q_Mo_p tMo) (q_Mo_ended tMo) (q_Mo_tokens tMo) (q_Mo_kinds tMo) (q_Mo_firsts tMo) (upd (q_Mo_sizes tMo) ((q_Mo_tokens tMo) : Int32).toNatClampNeg ((q_Mo_rowSize tMo) - ((q_Mo_firsts tMo) ((q_Mo_tokens tMo) : Int32).toNatClampNeg))) (q_Mo_marks tMo) (q_Mo_attributes tMo) (q_Mo_manyOf tMo) (q_Mo_attributeCount tMo) (q_Mo_nameAt tMo) (q_Mo_nameSize tMo) (q_Mo_valueAt tMo) (q_Mo_valueSize tMo) (q_Mo_goes tMo) (q_Mo_rowSize tMo) (q_Mo_row tMo) (q_Mo_textAt tMo) (q_Mo_textSize tMo) (q_Mo_faultCount tMo) (q_Mo_codes tMo) (q_Mo_places tMo) (q_Mo_outSize tMo) (q_Mo_out tMo) (q_Mo_which tMo))) rfl d_Mo_tagName_78 ?_
        refine g_iconst F (v := 1) d_Mo_tagName_79 (by decide) ?_
        refine g_istore_n F (L' := [(2, .int 1), (0, .ref (ad 0)), (1, .int v1)]) d_Mo_tagName_80 rfl (by decide) rfl ?_
        refine g_loc [1, 2, 0] rfl ?_
        exact blk81 FU v1 1 (u_Mo_sizes tMo (upd (q_Mo_sizes tMo) ((q_Mo_tokens tMo) : Int32).toNatClampNeg ((q_Mo_rowSize tMo) - ((q_Mo_firsts tMo) ((q_Mo_tokens tMo) : Int32).toNatClampNeg)))) hf
      · rw [if_neg h] at hf
        refine g_iload_n F d_Mo_tagName_14 1 rfl ?_
        refine g_ci F (r0 := (f_Mo_isBlank v1)) (ws' := (Wo ad cA tMo)) (fun H locs ls hP hD hS hl => g_runS F (As := [.int v1]) (n := 1) mw_1277 rfl rfl ⟨by decide, by decide⟩ rfl (by exact Nat.le_of_ble_eq_true rfl) mw_1275 mw_1276 mw_85 (by decide +kernel) d_Mo_tagName_15 hP hD hS hl (c_Mo_isBlank l D cA z ad tMo v1 rfl H.size)) ?_
        refine g_if_ne F (tgt := 56) d_Mo_tagName_18 (by decide) (fun h => ?_) (fun h => ?_)
        · rw [if_neg h] at hf
          refine g_aload_n F d_Mo_tagName_56 0 rfl ?_
          refine g_get F (v := .ref (ad 8)) in_X13 0 rfl rfl 12 (by decide) mw_1118 rfl d_Mo_tagName_57 ?_
          refine g_aload_n F d_Mo_tagName_60 0 rfl ?_
          refine g_get F (v := .int (q_Mo_tokens tMo)) in_X13 0 rfl rfl 9 (by decide) mw_1115 rfl d_Mo_tagName_61 ?_
          refine g_aload_n F d_Mo_tagName_64 0 rfl ?_
          refine g_get F (v := .int (q_Mo_rowSize tMo)) in_X13 0 rfl rfl 22 (by decide) mw_1128 rfl d_Mo_tagName_65 ?_
          refine g_aload_n F d_Mo_tagName_68 0 rfl ?_
          refine g_get F (v := .ref (ad 7)) in_X13 0 rfl rfl 11 (by decide) mw_1117 rfl d_Mo_tagName_69 ?_
          refine g_aload_n F d_Mo_tagName_72 0 rfl ?_
          refine g_get F (v := .int (q_Mo_tokens tMo)) in_X13 0 rfl rfl 9 (by decide) mw_1115 rfl d_Mo_tagName_73 ?_
          obtain ⟨k3, hf⟩ := g_chk hf
          refine g_iald F (f := (q_Mo_firsts tMo)) 7 0 rfl rfl k3 d_Mo_tagName_76 ?_
          refine g_isub F d_Mo_tagName_77 ?_
          obtain ⟨k4, hf⟩ := g_chk hf
          refine g_iast F (f := (q_Mo_sizes tMo)) 8 0 rfl rfl k4 (ws' := (Wn ad cA (q_Mo_names tMo) (q_Mo_gives tMo) (q_Mo_turned tMo) (q_Mo_size tMo) (q_Mo_bytes tMo) (q_Mo_n tMo) (q_Mo_text tMo) (q_Mo_p tMo) (q_Mo_ended tMo) (q_Mo_tokens tMo) (q_Mo_kinds tMo) (q_Mo_firsts tMo) (upd (q_Mo_sizes tMo) ((q_Mo_tokens tMo) : Int32).toNatClampNeg ((q_Mo_rowSize tMo) - ((q_Mo_firsts tMo) ((q_Mo_tokens tMo) : Int32).toNatClampNeg))) (q_Mo_marks tMo) (q_Mo_attributes tMo) (q_Mo_manyOf tMo) (q_Mo_attributeCount tMo) (q_Mo_nameAt tMo) (q_Mo_nameSize tMo) (q_Mo_valueAt tMo) (q_Mo_valueSize tMo) (q_Mo_goes tMo) (q_Mo_rowSize tMo) (q_Mo_row tMo) (q_Mo_textAt tMo) (q_Mo_textSize tMo) (q_Mo_faultCount tMo) (q_Mo_codes tMo) (q_Mo_places tMo) (q_Mo_outSize tMo) (q_Mo_out tMo) (q_Mo_which tMo))) rfl d_Mo_tagName_78 ?_
          refine g_iconst F (v := 1) d_Mo_tagName_79 (by decide) ?_
          refine g_istore_n F (L' := [(2, .int 1), (0, .ref (ad 0)), (1, .int v1)]) d_Mo_tagName_80 rfl (by decide) rfl ?_
          refine g_loc [1, 2, 0] rfl ?_
          exact blk81 FU v1 1 (u_Mo_sizes tMo (upd (q_Mo_sizes tMo) ((q_Mo_tokens tMo) : Int32).toNatClampNeg ((q_Mo_rowSize tMo) - ((q_Mo_firsts tMo) ((q_Mo_tokens tMo) : Int32).toNatClampNeg)))) hf
        · rw [if_pos h] at hf
          refine g_iload_n F d_Mo_tagName_21 1 rfl ?_
          refine g_bipush F (v := 47) d_Mo_tagName_22 (by decide) ?_
          refine g_icmp_eq F (tgt := 56) d_Mo_tagName_24 (by decide) (fun h => ?_) (fun h => ?_)
          · rw [if_pos h] at hf
            refine g_aload_n F d_Mo_tagName_56 0 rfl ?_
            refine g_get F (v := .ref (ad 8)) in_X13 0 rfl rfl 12 (by decide) mw_1118 rfl d_Mo_tagName_57 ?_
            refine g_aload_n F d_Mo_tagName_60 0 rfl ?_
            refine g_get F (v := .int (q_Mo_tokens tMo)) in_X13 0 rfl rfl 9 (by decide) mw_1115 rfl d_Mo_tagName_61 ?_
            refine g_aload_n F d_Mo_tagName_64 0 rfl ?_
            refine g_get F (v := .int (q_Mo_rowSize tMo)) in_X13 0 rfl rfl 22 (by decide) mw_1128 rfl d_Mo_tagName_65 ?_
            refine g_aload_n F d_Mo_tagName_68 0 rfl ?_
            refine g_get F (v := .ref (ad 7)) in_X13 0 rfl rfl 11 (by decide) mw_1117 rfl d_Mo_tagName_69 ?_
            refine g_aload_n F d_Mo_tagName_72 0 rfl ?_
            refine g_get F (v := .int (q_Mo_tokens tMo)) in_X13 0 rfl rfl 9 (by decide) mw_1115 rfl d_Mo_tagName_73 ?_
            obtain ⟨k5, hf⟩ := g_chk hf
            refine g_iald F (f := (q_Mo_firsts tMo)) 7 0 rfl rfl k5 d_Mo_tagName_76 ?_
            refine g_isub F d_Mo_tagName_77 ?_
            obtain ⟨k6, hf⟩ := g_chk hf
            refine g_iast F (f := (q_Mo_sizes tMo)) 8 0 rfl rfl k6 (ws' := (Wn ad cA (q_Mo_names tMo) (q_Mo_gives tMo) (q_Mo_turned tMo) (q_Mo_size tMo) (q_Mo_bytes tMo) (q_Mo_n tMo) (q_Mo_text tMo) (q_Mo_p tMo) (q_Mo_ended tMo) (q_Mo_tokens tMo) (q_Mo_kinds tMo) (q_Mo_firsts tMo) (upd (q_Mo_sizes tMo) ((q_Mo_tokens tMo) : Int32).toNatClampNeg ((q_Mo_rowSize tMo) - ((q_Mo_firsts tMo) ((q_Mo_tokens tMo) : Int32).toNatClampNeg))) (q_Mo_marks tMo) (q_Mo_attributes tMo) (q_Mo_manyOf tMo) (q_Mo_attributeCount tMo) (q_Mo_nameAt tMo) (q_Mo_nameSize tMo) (q_Mo_valueAt tMo) (q_Mo_valueSize tMo) (q_Mo_goes tMo) (q_Mo_rowSize tMo) (q_Mo_row tMo) (q_Mo_textAt tMo) (q_Mo_textSize tMo) (q_Mo_faultCount tMo) (q_Mo_codes tMo) (q_Mo_places tMo) (q_Mo_outSize tMo) (q_Mo_out tMo) (q_Mo_which tMo))) rfl d_Mo_tagName_78 ?_
            refine g_iconst F (v := 1) d_Mo_tagName_79 (by decide) ?_
            refine g_istore_n F (L' := [(2, .int 1), (0, .ref (ad 0)), (1, .int v1)]) d_Mo_tagName_80 rfl (by decide) rfl ?_
            refine g_loc [1, 2, 0] rfl ?_
            exact blk81 FU v1 1 (u_Mo_sizes tMo (upd (q_Mo_sizes tMo) ((q_Mo_tokens tMo) : Int32).toNatClampNeg ((q_Mo_rowSize tMo) - ((q_Mo_firsts tMo) ((q_Mo_tokens tMo) : Int32).toNatClampNeg)))) hf
          · rw [if_neg h] at hf
            refine g_iload_n F d_Mo_tagName_27 1 rfl ?_
            refine g_bipush F (v := 62) d_Mo_tagName_28 (by decide) ?_
            refine g_icmp_eq F (tgt := 56) d_Mo_tagName_30 (by decide) (fun h => ?_) (fun h => ?_)
            · rw [if_pos h] at hf
              refine g_aload_n F d_Mo_tagName_56 0 rfl ?_
              refine g_get F (v := .ref (ad 8)) in_X13 0 rfl rfl 12 (by decide) mw_1118 rfl d_Mo_tagName_57 ?_
              refine g_aload_n F d_Mo_tagName_60 0 rfl ?_
              refine g_get F (v := .int (q_Mo_tokens tMo)) in_X13 0 rfl rfl 9 (by decide) mw_1115 rfl d_Mo_tagName_61 ?_
              refine g_aload_n F d_Mo_tagName_64 0 rfl ?_
              refine g_get F (v := .int (q_Mo_rowSize tMo)) in_X13 0 rfl rfl 22 (by decide) mw_1128 rfl d_Mo_tagName_65 ?_
              refine g_aload_n F d_Mo_tagName_68 0 rfl ?_
              refine g_get F (v := .ref (ad 7)) in_X13 0 rfl rfl 11 (by decide) mw_1117 rfl d_Mo_tagName_69 ?_
              refine g_aload_n F d_Mo_tagName_72 0 rfl ?_
              refine g_get F (v := .int (q_Mo_tokens tMo)) in_X13 0 rfl rfl 9 (by decide) mw_1115 rfl d_Mo_tagName_73 ?_
              obtain ⟨k7, hf⟩ := g_chk hf
              refine g_iald F (f := (q_Mo_firsts tMo)) 7 0 rfl rfl k7 d_Mo_tagName_76 ?_
              refine g_isub F d_Mo_tagName_77 ?_
              obtain ⟨k8, hf⟩ := g_chk hf
              refine g_iast F (f := (q_Mo_sizes tMo)) 8 0 rfl rfl k8 (ws' := (Wn ad cA (q_Mo_names tMo) (q_Mo_gives tMo) (q_Mo_turned tMo) (q_Mo_size tMo) (q_Mo_bytes tMo) (q_Mo_n tMo) (q_Mo_text tMo) (q_Mo_p tMo) (q_Mo_ended tMo) (q_Mo_tokens tMo) (q_Mo_kinds tMo) (q_Mo_firsts tMo) (upd (q_Mo_sizes tMo) ((q_Mo_tokens tMo) : Int32).toNatClampNeg ((q_Mo_rowSize tMo) - ((q_Mo_firsts tMo) ((q_Mo_tokens tMo) : Int32).toNatClampNeg))) (q_Mo_marks tMo) (q_Mo_attributes tMo) (q_Mo_manyOf tMo) (q_Mo_attributeCount tMo) (q_Mo_nameAt tMo) (q_Mo_nameSize tMo) (q_Mo_valueAt tMo) (q_Mo_valueSize tMo) (q_Mo_goes tMo) (q_Mo_rowSize tMo) (q_Mo_row tMo) (q_Mo_textAt tMo) (q_Mo_textSize tMo) (q_Mo_faultCount tMo) (q_Mo_codes tMo) (q_Mo_places tMo) (q_Mo_outSize tMo) (q_Mo_out tMo) (q_Mo_which tMo))) rfl d_Mo_tagName_78 ?_
              refine g_iconst F (v := 1) d_Mo_tagName_79 (by decide) ?_
              refine g_istore_n F (L' := [(2, .int 1), (0, .ref (ad 0)), (1, .int v1)]) d_Mo_tagName_80 rfl (by decide) rfl ?_
              refine g_loc [1, 2, 0] rfl ?_
              exact blk81 FU v1 1 (u_Mo_sizes tMo (upd (q_Mo_sizes tMo) ((q_Mo_tokens tMo) : Int32).toNatClampNeg ((q_Mo_rowSize tMo) - ((q_Mo_firsts tMo) ((q_Mo_tokens tMo) : Int32).toNatClampNeg)))) hf
            · rw [if_neg h] at hf
              refine g_aload_n F d_Mo_tagName_33 0 rfl ?_
              refine g_aload_n F d_Mo_tagName_34 0 rfl ?_
              obtain ⟨x2, hx2, hf⟩ := g_bind hf
              refine g_ci F (r0 := x2.1) (ws' := (Wo ad cA x2.2)) (fun H locs ls hP hD hS hl => g_runV F (As := []) (n := 0) mw_1340 rfl rfl ⟨by decide, by decide⟩ rfl (by exact Nat.le_of_ble_eq_true rfl) mw_1337 mw_1339 mw_55 mw_85 (by decide +kernel) d_Mo_tagName_35 hP hD hS hl (va_recv F.2.2.2.2.2.1 hP (ci := 9) rfl (q0 := 0) rfl) (c_Mo_known l D cA z ad tMo hx2 H.size)) ?_
              refine g_ci F (r0 := (f_Mo_lowered x2.1)) (ws' := (Wo ad cA x2.2)) (fun H locs ls hP hD hS hl => g_runS F (As := [.int x2.1]) (n := 1) mw_1327 rfl rfl ⟨by decide, by decide⟩ rfl (by exact Nat.le_of_ble_eq_true rfl) mw_1325 mw_1326 mw_85 (by decide +kernel) d_Mo_tagName_38 hP hD hS hl (c_Mo_lowered l D cA z ad x2.2 x2.1 rfl H.size)) ?_
              obtain ⟨x3, hx3, hf⟩ := g_bind hf
              refine g_cv F (ws' := (Wo ad cA x3)) (fun H locs ls hP hD hS hl => g_runV F (As := [.int (f_Mo_lowered x2.1)]) (n := 1) mw_1259 rfl rfl ⟨by decide, by decide⟩ rfl (by exact Nat.le_of_ble_eq_true rfl) mw_1256 mw_1258 mw_40 mw_85 (by decide +kernel) d_Mo_tagName_41 hP hD hS hl (va_recv F.2.2.2.2.2.1 hP (ci := 9) rfl (q0 := 0) rfl) (c_Mo_keep l D cA z ad x2.2 (f_Mo_lowered x2.1) hx3 H.size)) ?_
              refine g_aload_n F d_Mo_tagName_44 0 rfl ?_
              refine g_aload_n F d_Mo_tagName_45 0 rfl ?_
              refine g_get F (v := .int (q_Mo_p x3)) in_X13 0 rfl rfl 7 (by decide) mw_1113 rfl d_Mo_tagName_46 ?_
              obtain ⟨x4, hx4, hf⟩ := g_bind hf
              refine g_ci F (r0 := x4) (ws' := (Wo ad cA x3)) (fun H locs ls hP hD hS hl => g_runV F (As := [.int (q_Mo_p x3)]) (n := 1) mw_1228 rfl rfl ⟨by decide, by decide⟩ rfl (by exact Nat.le_of_ble_eq_true rfl) mw_1225 mw_1227 mw_34 mw_85 (by decide +kernel) d_Mo_tagName_49 hP hD hS hl (va_recv F.2.2.2.2.2.1 hP (ci := 9) rfl (q0 := 0) rfl) (c_Mo_charAt l D cA z ad x3 (q_Mo_p x3) hx4 H.size)) ?_
              refine g_istore_n F (L' := [(1, .int x4), (0, .ref (ad 0))]) d_Mo_tagName_52 rfl (by decide) rfl ?_
              refine g_goto F (tgt := 9) d_Mo_tagName_53 (by decide) ?_
              refine g_loc [1, 0] rfl ?_
              exact ih x4 x3 hf
  unfold f_Mo_tagName at hf
  refine g_aload_n F d_Mo_tagName_0 0 rfl ?_
  refine g_aload_n F d_Mo_tagName_1 0 rfl ?_
  refine g_get F (v := .int (q_Mo_p sMo)) in_X13 0 rfl rfl 7 (by decide) mw_1113 rfl d_Mo_tagName_2 ?_
  obtain ⟨x5, hx5, hf⟩ := g_bind hf
  refine g_ci F (r0 := x5) (ws' := (Wo ad cA sMo)) (fun H locs ls hP hD hS hl => g_runV F (As := [.int (q_Mo_p sMo)]) (n := 1) mw_1228 rfl rfl ⟨by decide, by decide⟩ rfl (by exact Nat.le_of_ble_eq_true rfl) mw_1225 mw_1227 mw_34 mw_85 (by decide +kernel) d_Mo_tagName_5 hP hD hS hl (va_recv F.2.2.2.2.2.1 hP (ci := 9) rfl (q0 := 0) rfl) (c_Mo_charAt l D cA z ad sMo (q_Mo_p sMo) hx5 H.size)) ?_
  refine g_istore_n F (L' := [(1, .int x5), (0, .ref (ad 0))]) d_Mo_tagName_8 rfl (by decide) rfl ?_
  refine g_loc [1, 0] rfl ?_
  exact blk9 FU x5 sMo hf
set_option maxHeartbeats 4000000 in
set_option maxRecDepth 100000 in
theorem c_Mo_stop (l : Launch) (D : va_G) (cA : Nat → ClassId) (z : gZ) (ad : Nat → Nat) (sMo : SMo) {x : SMo} (hf : f_Mo_stop sMo = some x) (sz : Nat) : Met l y_Mo_stop (.code y_Mo_stop b_Mo_stop 2 none :: lw_g) { frames := 10, cells := 0, slots := 0, locals := 224 } (gP D (gT cA) z [.ref (ad 0)] (Wo ad cA sMo) sz) (gQv D (gT cA) (va_A (Wo ad cA sMo) sz) (Wo ad cA x)) 0 0 (va_A (Wo ad cA sMo) sz) := by
  refine g_met (by decide) (Nat.le_of_ble_eq_true rfl) rfl ?_
  intro p e s m args below meth c F hr hlk
  unfold f_Mo_stop at hf
  refine g_aload_n F d_Mo_stop_0 0 rfl ?_
  refine g_aload_n F d_Mo_stop_1 0 rfl ?_
  refine g_get F (v := .int (q_Mo_p sMo)) in_X13 0 rfl rfl 7 (by decide) mw_1113 rfl d_Mo_stop_2 ?_
  obtain ⟨x1, hx1, hf⟩ := g_bind hf
  refine g_ci F (r0 := x1) (ws' := (Wo ad cA sMo)) (fun H locs ls hP hD hS hl => g_runV F (As := [.int (q_Mo_p sMo)]) (n := 1) mw_1228 rfl rfl ⟨by decide, by decide⟩ rfl (by exact Nat.le_of_ble_eq_true rfl) mw_1225 mw_1227 mw_34 mw_85 (by decide +kernel) d_Mo_stop_5 hP hD hS hl (va_recv F.2.2.2.2.2.1 hP (ci := 9) rfl (q0 := 0) rfl) (c_Mo_charAt l D cA z ad sMo (q_Mo_p sMo) hx1 H.size)) ?_
  refine g_istore_n F (L' := [(1, .int x1), (0, .ref (ad 0))]) d_Mo_stop_8 rfl (by decide) rfl ?_
  refine g_iload_n F d_Mo_stop_9 0 rfl ?_
  refine g_ci F (r0 := (f_Mo_isLetter x1)) (ws' := (Wo ad cA sMo)) (fun H locs ls hP hD hS hl => g_runS F (As := [.int x1]) (n := 1) mw_1280 rfl rfl ⟨by decide, by decide⟩ rfl (by exact Nat.le_of_ble_eq_true rfl) mw_1278 mw_1279 mw_85 (by decide +kernel) d_Mo_stop_10 hP hD hS hl (c_Mo_isLetter l D cA z ad sMo x1 rfl H.size)) ?_
  refine g_if_eq F (tgt := 28) d_Mo_stop_13 (by decide) (fun h => ?_) (fun h => ?_)
  · rw [if_pos h] at hf
    refine g_iload_n F d_Mo_stop_28 0 rfl ?_
    refine g_bipush F (v := 62) d_Mo_stop_29 (by decide) ?_
    refine g_icmp_ne F (tgt := 56) d_Mo_stop_31 (by decide) (fun h => ?_) (fun h => ?_)
    · rw [if_neg h] at hf
      refine g_iload_n F d_Mo_stop_56 0 rfl ?_
      refine g_iconst F (v := (-1)) d_Mo_stop_57 (by decide) ?_
      refine g_icmp_ne F (tgt := 90) d_Mo_stop_58 (by decide) (fun h => ?_) (fun h => ?_)
      · rw [if_neg h] at hf
        refine g_aload_n F d_Mo_stop_90 1 rfl ?_
        refine g_iconst F (v := 4) d_Mo_stop_91 (by decide) ?_
        refine g_aload_n F d_Mo_stop_92 1 rfl ?_
        refine g_get F (v := .int (q_Mo_p sMo)) in_X13 0 rfl rfl 7 (by decide) mw_1113 rfl d_Mo_stop_93 ?_
        obtain ⟨x2, hx2, hf⟩ := g_bind hf
        refine g_cv F (ws' := (Wo ad cA x2)) (fun H locs ls hP hD hS hl => g_runV F (As := [.int 4, .int (q_Mo_p sMo)]) (n := 2) mw_1247 rfl rfl ⟨by decide, by decide⟩ rfl (by exact Nat.le_of_ble_eq_true rfl) mw_1244 mw_1246 mw_37 mw_85 (by decide +kernel) d_Mo_stop_96 hP hD hS hl (va_recv F.2.2.2.2.2.1 hP (ci := 9) rfl (q0 := 0) rfl) (c_Mo_wrong l D cA z ad sMo 4 (q_Mo_p sMo) hx2 H.size)) ?_
        refine g_aload_n F d_Mo_stop_99 1 rfl ?_
        refine g_iconst F (v := 3) d_Mo_stop_100 (by decide) ?_
        obtain ⟨x3, hx3, hf⟩ := g_bind hf
        refine g_cv F (ws' := (Wo ad cA x3)) (fun H locs ls hP hD hS hl => g_runV F (As := [.int 3]) (n := 1) mw_1304 rfl rfl ⟨by decide, by decide⟩ rfl (by exact Nat.le_of_ble_eq_true rfl) mw_1301 mw_1303 mw_47 mw_85 (by decide +kernel) d_Mo_stop_101 hP hD hS hl (va_recv F.2.2.2.2.2.1 hP (ci := 9) rfl (q0 := 0) rfl) (c_Mo_begin l D cA z ad x2 3 hx3 H.size)) ?_
        refine g_aload_n F d_Mo_stop_104 1 rfl ?_
        obtain ⟨x4, hx4, hf⟩ := g_bind hf
        refine g_cv F (ws' := (Wo ad cA x4)) (fun H locs ls hP hD hS hl => g_runV F (As := []) (n := 0) mw_1344 rfl rfl ⟨by decide, by decide⟩ rfl (by exact Nat.le_of_ble_eq_true rfl) mw_1341 mw_1343 mw_56 mw_85 (by decide +kernel) d_Mo_stop_105 hP hD hS hl (va_recv F.2.2.2.2.2.1 hP (ci := 9) rfl (q0 := 0) rfl) (c_Mo_bogus l D cA z ad x3 hx4 H.size)) ?_
        cases hf
        exact g_vret F hr hlk rfl rfl d_Mo_stop_108
      · rw [if_pos h] at hf
        refine g_aload_n F d_Mo_stop_61 1 rfl ?_
        refine g_iconst F (v := 3) d_Mo_stop_62 (by decide) ?_
        refine g_aload_n F d_Mo_stop_63 1 rfl ?_
        refine g_get F (v := .int (q_Mo_p sMo)) in_X13 0 rfl rfl 7 (by decide) mw_1113 rfl d_Mo_stop_64 ?_
        obtain ⟨x5, hx5, hf⟩ := g_bind hf
        refine g_cv F (ws' := (Wo ad cA x5)) (fun H locs ls hP hD hS hl => g_runV F (As := [.int 3, .int (q_Mo_p sMo)]) (n := 2) mw_1247 rfl rfl ⟨by decide, by decide⟩ rfl (by exact Nat.le_of_ble_eq_true rfl) mw_1244 mw_1246 mw_37 mw_85 (by decide +kernel) d_Mo_stop_67 hP hD hS hl (va_recv F.2.2.2.2.2.1 hP (ci := 9) rfl (q0 := 0) rfl) (c_Mo_wrong l D cA z ad sMo 3 (q_Mo_p sMo) hx5 H.size)) ?_
        refine g_aload_n F d_Mo_stop_70 1 rfl ?_
        refine g_bipush F (v := 60) d_Mo_stop_71 (by decide) ?_
        obtain ⟨x6, hx6, hf⟩ := g_bind hf
        refine g_cv F (ws' := (Wo ad cA x6)) (fun H locs ls hP hD hS hl => g_runV F (As := [.int 60]) (n := 1) mw_1263 rfl rfl ⟨by decide, by decide⟩ rfl (by exact Nat.le_of_ble_eq_true rfl) mw_1260 mw_1262 mw_41 mw_85 (by decide +kernel) d_Mo_stop_73 hP hD hS hl (va_recv F.2.2.2.2.2.1 hP (ci := 9) rfl (q0 := 0) rfl) (c_Mo_toText l D cA z ad x5 60 hx6 H.size)) ?_
        refine g_aload_n F d_Mo_stop_76 1 rfl ?_
        refine g_bipush F (v := 47) d_Mo_stop_77 (by decide) ?_
        obtain ⟨x7, hx7, hf⟩ := g_bind hf
        refine g_cv F (ws' := (Wo ad cA x7)) (fun H locs ls hP hD hS hl => g_runV F (As := [.int 47]) (n := 1) mw_1263 rfl rfl ⟨by decide, by decide⟩ rfl (by exact Nat.le_of_ble_eq_true rfl) mw_1260 mw_1262 mw_41 mw_85 (by decide +kernel) d_Mo_stop_79 hP hD hS hl (va_recv F.2.2.2.2.2.1 hP (ci := 9) rfl (q0 := 0) rfl) (c_Mo_toText l D cA z ad x6 47 hx7 H.size)) ?_
        refine g_aload_n F d_Mo_stop_82 1 rfl ?_
        refine g_iconst F (v := 1) d_Mo_stop_83 (by decide) ?_
        refine g_put F in_X13 0 rfl rfl 8 (by decide) tyX13 tyX13_ok nmX13 mw_1114 rfl rfl rfl (Nat.le_of_ble_eq_true rfl) (ws' := (Wn ad cA (q_Mo_names x7) (q_Mo_gives x7) (q_Mo_turned x7) (q_Mo_size x7) (q_Mo_bytes x7) (q_Mo_n x7) (q_Mo_text x7) (q_Mo_p x7) 1 (q_Mo_tokens x7) (q_Mo_kinds x7) (q_Mo_firsts x7) (q_Mo_sizes x7) (q_Mo_marks x7) (q_Mo_attributes x7) (q_Mo_manyOf x7) (q_Mo_attributeCount x7) (q_Mo_nameAt x7) (q_Mo_nameSize x7) (q_Mo_valueAt x7) (q_Mo_valueSize x7) (q_Mo_goes x7) (q_Mo_rowSize x7) (q_Mo_row x7) (q_Mo_textAt x7) (q_Mo_textSize x7) (q_Mo_faultCount x7) (q_Mo_codes x7) (q_Mo_places x7) (q_Mo_outSize x7) (q_Mo_out x7) (q_Mo_which x7))) rfl d_Mo_stop_84 ?_
        refine g_goto F (tgt := 108) d_Mo_stop_87 (by decide) ?_
        cases hf
        exact g_vret F hr hlk rfl rfl d_Mo_stop_108
    · rw [if_pos h] at hf
      refine g_aload_n F d_Mo_stop_34 1 rfl ?_
      refine g_iconst F (v := 5) d_Mo_stop_35 (by decide) ?_
      refine g_aload_n F d_Mo_stop_36 1 rfl ?_
      refine g_get F (v := .int (q_Mo_p sMo)) in_X13 0 rfl rfl 7 (by decide) mw_1113 rfl d_Mo_stop_37 ?_
      obtain ⟨x8, hx8, hf⟩ := g_bind hf
      refine g_cv F (ws' := (Wo ad cA x8)) (fun H locs ls hP hD hS hl => g_runV F (As := [.int 5, .int (q_Mo_p sMo)]) (n := 2) mw_1247 rfl rfl ⟨by decide, by decide⟩ rfl (by exact Nat.le_of_ble_eq_true rfl) mw_1244 mw_1246 mw_37 mw_85 (by decide +kernel) d_Mo_stop_40 hP hD hS hl (va_recv F.2.2.2.2.2.1 hP (ci := 9) rfl (q0 := 0) rfl) (c_Mo_wrong l D cA z ad sMo 5 (q_Mo_p sMo) hx8 H.size)) ?_
      refine g_aload_n F d_Mo_stop_43 1 rfl ?_
      refine g_dup F d_Mo_stop_44 rfl ?_
      refine g_get F (v := .int (q_Mo_p x8)) in_X13 0 rfl rfl 7 (by decide) mw_1113 rfl d_Mo_stop_45 ?_
      refine g_iconst F (v := 1) d_Mo_stop_48 (by decide) ?_
      refine g_iadd F d_Mo_stop_49 ?_
      refine g_put F in_X13 0 rfl rfl 7 (by decide) tyX13 tyX13_ok nmX13 mw_1113 rfl rfl rfl (Nat.le_of_ble_eq_true rfl) (ws' := (Wn ad cA (q_Mo_names x8) (q_Mo_gives x8) (q_Mo_turned x8) (q_Mo_size x8) (q_Mo_bytes x8) (q_Mo_n x8) (q_Mo_text x8) ((q_Mo_p x8) + 1) (q_Mo_ended x8) (q_Mo_tokens x8) (q_Mo_kinds x8) (q_Mo_firsts x8) (q_Mo_sizes x8) (q_Mo_marks x8) (q_Mo_attributes x8) (q_Mo_manyOf x8) (q_Mo_attributeCount x8) (q_Mo_nameAt x8) (q_Mo_nameSize x8) (q_Mo_valueAt x8) (q_Mo_valueSize x8) (q_Mo_goes x8) (q_Mo_rowSize x8) (q_Mo_row x8) (q_Mo_textAt x8) (q_Mo_textSize x8) (q_Mo_faultCount x8) (q_Mo_codes x8) (q_Mo_places x8) (q_Mo_outSize x8) (q_Mo_out x8) (q_Mo_which x8))) rfl d_Mo_stop_50 ?_
      refine g_goto F (tgt := 108) d_Mo_stop_53 (by decide) ?_
      cases hf
      exact g_vret F hr hlk rfl rfl d_Mo_stop_108
  · rw [if_neg h] at hf
    refine g_aload_n F d_Mo_stop_16 1 rfl ?_
    refine g_iconst F (v := 2) d_Mo_stop_17 (by decide) ?_
    obtain ⟨x9, hx9, hf⟩ := g_bind hf
    refine g_cv F (ws' := (Wo ad cA x9)) (fun H locs ls hP hD hS hl => g_runV F (As := [.int 2]) (n := 1) mw_1304 rfl rfl ⟨by decide, by decide⟩ rfl (by exact Nat.le_of_ble_eq_true rfl) mw_1301 mw_1303 mw_47 mw_85 (by decide +kernel) d_Mo_stop_18 hP hD hS hl (va_recv F.2.2.2.2.2.1 hP (ci := 9) rfl (q0 := 0) rfl) (c_Mo_begin l D cA z ad sMo 2 hx9 H.size)) ?_
    refine g_aload_n F d_Mo_stop_21 1 rfl ?_
    obtain ⟨x10, hx10, hf⟩ := g_bind hf
    refine g_cv F (ws' := (Wo ad cA x10)) (fun H locs ls hP hD hS hl => g_runV F (As := []) (n := 0) mw_1352 rfl rfl ⟨by decide, by decide⟩ rfl (by exact Nat.le_of_ble_eq_true rfl) mw_1349 mw_1351 mw_58 mw_85 (by decide +kernel) d_Mo_stop_22 hP hD hS hl (va_recv F.2.2.2.2.2.1 hP (ci := 9) rfl (q0 := 0) rfl) (c_Mo_tagName l D cA z ad x9 hx10 H.size)) ?_
    refine g_goto F (tgt := 108) d_Mo_stop_25 (by decide) ?_
    cases hf
    exact g_vret F hr hlk rfl rfl d_Mo_stop_108
set_option maxHeartbeats 4000000 in
set_option maxRecDepth 100000 in
theorem c_Mo_tag (l : Launch) (D : va_G) (cA : Nat → ClassId) (z : gZ) (ad : Nat → Nat) (sMo : SMo) {x : SMo} (hf : f_Mo_tag sMo = some x) (sz : Nat) : Met l y_Mo_tag (.code y_Mo_tag b_Mo_tag 2 none :: lw_g) { frames := 11, cells := 0, slots := 0, locals := 245 } (gP D (gT cA) z [.ref (ad 0)] (Wo ad cA sMo) sz) (gQv D (gT cA) (va_A (Wo ad cA sMo) sz) (Wo ad cA x)) 0 0 (va_A (Wo ad cA sMo) sz) := by
  refine g_met (by decide) (Nat.le_of_ble_eq_true rfl) rfl ?_
  intro p e s m args below meth c F hr hlk
  unfold f_Mo_tag at hf
  refine g_aload_n F d_Mo_tag_0 0 rfl ?_
  refine g_aload_n F d_Mo_tag_1 0 rfl ?_
  refine g_get F (v := .int (q_Mo_p sMo)) in_X13 0 rfl rfl 7 (by decide) mw_1113 rfl d_Mo_tag_2 ?_
  obtain ⟨x1, hx1, hf⟩ := g_bind hf
  refine g_ci F (r0 := x1) (ws' := (Wo ad cA sMo)) (fun H locs ls hP hD hS hl => g_runV F (As := [.int (q_Mo_p sMo)]) (n := 1) mw_1228 rfl rfl ⟨by decide, by decide⟩ rfl (by exact Nat.le_of_ble_eq_true rfl) mw_1225 mw_1227 mw_34 mw_85 (by decide +kernel) d_Mo_tag_5 hP hD hS hl (va_recv F.2.2.2.2.2.1 hP (ci := 9) rfl (q0 := 0) rfl) (c_Mo_charAt l D cA z ad sMo (q_Mo_p sMo) hx1 H.size)) ?_
  refine g_istore_n F (L' := [(1, .int x1), (0, .ref (ad 0))]) d_Mo_tag_8 rfl (by decide) rfl ?_
  refine g_iload_n F d_Mo_tag_9 0 rfl ?_
  refine g_bipush F (v := 33) d_Mo_tag_10 (by decide) ?_
  refine g_icmp_ne F (tgt := 32) d_Mo_tag_12 (by decide) (fun h => ?_) (fun h => ?_)
  · rw [if_neg h] at hf
    refine g_iload_n F d_Mo_tag_32 0 rfl ?_
    refine g_bipush F (v := 47) d_Mo_tag_33 (by decide) ?_
    refine g_icmp_ne F (tgt := 55) d_Mo_tag_35 (by decide) (fun h => ?_) (fun h => ?_)
    · rw [if_neg h] at hf
      refine g_iload_n F d_Mo_tag_55 0 rfl ?_
      refine g_ci F (r0 := (f_Mo_isLetter x1)) (ws' := (Wo ad cA sMo)) (fun H locs ls hP hD hS hl => g_runS F (As := [.int x1]) (n := 1) mw_1280 rfl rfl ⟨by decide, by decide⟩ rfl (by exact Nat.le_of_ble_eq_true rfl) mw_1278 mw_1279 mw_85 (by decide +kernel) d_Mo_tag_56 hP hD hS hl (c_Mo_isLetter l D cA z ad sMo x1 rfl H.size)) ?_
      refine g_if_eq F (tgt := 74) d_Mo_tag_59 (by decide) (fun h => ?_) (fun h => ?_)
      · rw [if_pos h] at hf
        refine g_iload_n F d_Mo_tag_74 0 rfl ?_
        refine g_bipush F (v := 63) d_Mo_tag_75 (by decide) ?_
        refine g_icmp_ne F (tgt := 101) d_Mo_tag_77 (by decide) (fun h => ?_) (fun h => ?_)
        · rw [if_neg h] at hf
          refine g_iload_n F d_Mo_tag_101 0 rfl ?_
          refine g_iconst F (v := (-1)) d_Mo_tag_102 (by decide) ?_
          refine g_icmp_ne F (tgt := 129) d_Mo_tag_103 (by decide) (fun h => ?_) (fun h => ?_)
          · rw [if_neg h] at hf
            refine g_aload_n F d_Mo_tag_129 1 rfl ?_
            refine g_iconst F (v := 4) d_Mo_tag_130 (by decide) ?_
            refine g_aload_n F d_Mo_tag_131 1 rfl ?_
            refine g_get F (v := .int (q_Mo_p sMo)) in_X13 0 rfl rfl 7 (by decide) mw_1113 rfl d_Mo_tag_132 ?_
            obtain ⟨x2, hx2, hf⟩ := g_bind hf
            refine g_cv F (ws' := (Wo ad cA x2)) (fun H locs ls hP hD hS hl => g_runV F (As := [.int 4, .int (q_Mo_p sMo)]) (n := 2) mw_1247 rfl rfl ⟨by decide, by decide⟩ rfl (by exact Nat.le_of_ble_eq_true rfl) mw_1244 mw_1246 mw_37 mw_85 (by decide +kernel) d_Mo_tag_135 hP hD hS hl (va_recv F.2.2.2.2.2.1 hP (ci := 9) rfl (q0 := 0) rfl) (c_Mo_wrong l D cA z ad sMo 4 (q_Mo_p sMo) hx2 H.size)) ?_
            refine g_aload_n F d_Mo_tag_138 1 rfl ?_
            refine g_bipush F (v := 60) d_Mo_tag_139 (by decide) ?_
            obtain ⟨x3, hx3, hf⟩ := g_bind hf
            refine g_cv F (ws' := (Wo ad cA x3)) (fun H locs ls hP hD hS hl => g_runV F (As := [.int 60]) (n := 1) mw_1263 rfl rfl ⟨by decide, by decide⟩ rfl (by exact Nat.le_of_ble_eq_true rfl) mw_1260 mw_1262 mw_41 mw_85 (by decide +kernel) d_Mo_tag_141 hP hD hS hl (va_recv F.2.2.2.2.2.1 hP (ci := 9) rfl (q0 := 0) rfl) (c_Mo_toText l D cA z ad x2 60 hx3 H.size)) ?_
            cases hf
            exact g_vret F hr hlk rfl rfl d_Mo_tag_144
          · rw [if_pos h] at hf
            refine g_aload_n F d_Mo_tag_106 1 rfl ?_
            refine g_iconst F (v := 3) d_Mo_tag_107 (by decide) ?_
            refine g_aload_n F d_Mo_tag_108 1 rfl ?_
            refine g_get F (v := .int (q_Mo_p sMo)) in_X13 0 rfl rfl 7 (by decide) mw_1113 rfl d_Mo_tag_109 ?_
            obtain ⟨x4, hx4, hf⟩ := g_bind hf
            refine g_cv F (ws' := (Wo ad cA x4)) (fun H locs ls hP hD hS hl => g_runV F (As := [.int 3, .int (q_Mo_p sMo)]) (n := 2) mw_1247 rfl rfl ⟨by decide, by decide⟩ rfl (by exact Nat.le_of_ble_eq_true rfl) mw_1244 mw_1246 mw_37 mw_85 (by decide +kernel) d_Mo_tag_112 hP hD hS hl (va_recv F.2.2.2.2.2.1 hP (ci := 9) rfl (q0 := 0) rfl) (c_Mo_wrong l D cA z ad sMo 3 (q_Mo_p sMo) hx4 H.size)) ?_
            refine g_aload_n F d_Mo_tag_115 1 rfl ?_
            refine g_bipush F (v := 60) d_Mo_tag_116 (by decide) ?_
            obtain ⟨x5, hx5, hf⟩ := g_bind hf
            refine g_cv F (ws' := (Wo ad cA x5)) (fun H locs ls hP hD hS hl => g_runV F (As := [.int 60]) (n := 1) mw_1263 rfl rfl ⟨by decide, by decide⟩ rfl (by exact Nat.le_of_ble_eq_true rfl) mw_1260 mw_1262 mw_41 mw_85 (by decide +kernel) d_Mo_tag_118 hP hD hS hl (va_recv F.2.2.2.2.2.1 hP (ci := 9) rfl (q0 := 0) rfl) (c_Mo_toText l D cA z ad x4 60 hx5 H.size)) ?_
            refine g_aload_n F d_Mo_tag_121 1 rfl ?_
            refine g_iconst F (v := 1) d_Mo_tag_122 (by decide) ?_
            refine g_put F in_X13 0 rfl rfl 8 (by decide) tyX13 tyX13_ok nmX13 mw_1114 rfl rfl rfl (Nat.le_of_ble_eq_true rfl) (ws' := (Wn ad cA (q_Mo_names x5) (q_Mo_gives x5) (q_Mo_turned x5) (q_Mo_size x5) (q_Mo_bytes x5) (q_Mo_n x5) (q_Mo_text x5) (q_Mo_p x5) 1 (q_Mo_tokens x5) (q_Mo_kinds x5) (q_Mo_firsts x5) (q_Mo_sizes x5) (q_Mo_marks x5) (q_Mo_attributes x5) (q_Mo_manyOf x5) (q_Mo_attributeCount x5) (q_Mo_nameAt x5) (q_Mo_nameSize x5) (q_Mo_valueAt x5) (q_Mo_valueSize x5) (q_Mo_goes x5) (q_Mo_rowSize x5) (q_Mo_row x5) (q_Mo_textAt x5) (q_Mo_textSize x5) (q_Mo_faultCount x5) (q_Mo_codes x5) (q_Mo_places x5) (q_Mo_outSize x5) (q_Mo_out x5) (q_Mo_which x5))) rfl d_Mo_tag_123 ?_
            refine g_goto F (tgt := 144) d_Mo_tag_126 (by decide) ?_
            cases hf
            exact g_vret F hr hlk rfl rfl d_Mo_tag_144
        · rw [if_pos h] at hf
          refine g_aload_n F d_Mo_tag_80 1 rfl ?_
          refine g_iconst F (v := 2) d_Mo_tag_81 (by decide) ?_
          refine g_aload_n F d_Mo_tag_82 1 rfl ?_
          refine g_get F (v := .int (q_Mo_p sMo)) in_X13 0 rfl rfl 7 (by decide) mw_1113 rfl d_Mo_tag_83 ?_
          obtain ⟨x6, hx6, hf⟩ := g_bind hf
          refine g_cv F (ws' := (Wo ad cA x6)) (fun H locs ls hP hD hS hl => g_runV F (As := [.int 2, .int (q_Mo_p sMo)]) (n := 2) mw_1247 rfl rfl ⟨by decide, by decide⟩ rfl (by exact Nat.le_of_ble_eq_true rfl) mw_1244 mw_1246 mw_37 mw_85 (by decide +kernel) d_Mo_tag_86 hP hD hS hl (va_recv F.2.2.2.2.2.1 hP (ci := 9) rfl (q0 := 0) rfl) (c_Mo_wrong l D cA z ad sMo 2 (q_Mo_p sMo) hx6 H.size)) ?_
          refine g_aload_n F d_Mo_tag_89 1 rfl ?_
          refine g_iconst F (v := 3) d_Mo_tag_90 (by decide) ?_
          obtain ⟨x7, hx7, hf⟩ := g_bind hf
          refine g_cv F (ws' := (Wo ad cA x7)) (fun H locs ls hP hD hS hl => g_runV F (As := [.int 3]) (n := 1) mw_1304 rfl rfl ⟨by decide, by decide⟩ rfl (by exact Nat.le_of_ble_eq_true rfl) mw_1301 mw_1303 mw_47 mw_85 (by decide +kernel) d_Mo_tag_91 hP hD hS hl (va_recv F.2.2.2.2.2.1 hP (ci := 9) rfl (q0 := 0) rfl) (c_Mo_begin l D cA z ad x6 3 hx7 H.size)) ?_
          refine g_aload_n F d_Mo_tag_94 1 rfl ?_
          obtain ⟨x8, hx8, hf⟩ := g_bind hf
          refine g_cv F (ws' := (Wo ad cA x8)) (fun H locs ls hP hD hS hl => g_runV F (As := []) (n := 0) mw_1344 rfl rfl ⟨by decide, by decide⟩ rfl (by exact Nat.le_of_ble_eq_true rfl) mw_1341 mw_1343 mw_56 mw_85 (by decide +kernel) d_Mo_tag_95 hP hD hS hl (va_recv F.2.2.2.2.2.1 hP (ci := 9) rfl (q0 := 0) rfl) (c_Mo_bogus l D cA z ad x7 hx8 H.size)) ?_
          refine g_goto F (tgt := 144) d_Mo_tag_98 (by decide) ?_
          cases hf
          exact g_vret F hr hlk rfl rfl d_Mo_tag_144
      · rw [if_neg h] at hf
        refine g_aload_n F d_Mo_tag_62 1 rfl ?_
        refine g_iconst F (v := 1) d_Mo_tag_63 (by decide) ?_
        obtain ⟨x9, hx9, hf⟩ := g_bind hf
        refine g_cv F (ws' := (Wo ad cA x9)) (fun H locs ls hP hD hS hl => g_runV F (As := [.int 1]) (n := 1) mw_1304 rfl rfl ⟨by decide, by decide⟩ rfl (by exact Nat.le_of_ble_eq_true rfl) mw_1301 mw_1303 mw_47 mw_85 (by decide +kernel) d_Mo_tag_64 hP hD hS hl (va_recv F.2.2.2.2.2.1 hP (ci := 9) rfl (q0 := 0) rfl) (c_Mo_begin l D cA z ad sMo 1 hx9 H.size)) ?_
        refine g_aload_n F d_Mo_tag_67 1 rfl ?_
        obtain ⟨x10, hx10, hf⟩ := g_bind hf
        refine g_cv F (ws' := (Wo ad cA x10)) (fun H locs ls hP hD hS hl => g_runV F (As := []) (n := 0) mw_1352 rfl rfl ⟨by decide, by decide⟩ rfl (by exact Nat.le_of_ble_eq_true rfl) mw_1349 mw_1351 mw_58 mw_85 (by decide +kernel) d_Mo_tag_68 hP hD hS hl (va_recv F.2.2.2.2.2.1 hP (ci := 9) rfl (q0 := 0) rfl) (c_Mo_tagName l D cA z ad x9 hx10 H.size)) ?_
        refine g_goto F (tgt := 144) d_Mo_tag_71 (by decide) ?_
        cases hf
        exact g_vret F hr hlk rfl rfl d_Mo_tag_144
    · rw [if_pos h] at hf
      refine g_aload_n F d_Mo_tag_38 1 rfl ?_
      refine g_dup F d_Mo_tag_39 rfl ?_
      refine g_get F (v := .int (q_Mo_p sMo)) in_X13 0 rfl rfl 7 (by decide) mw_1113 rfl d_Mo_tag_40 ?_
      refine g_iconst F (v := 1) d_Mo_tag_43 (by decide) ?_
      refine g_iadd F d_Mo_tag_44 ?_
      refine g_put F in_X13 0 rfl rfl 7 (by decide) tyX13 tyX13_ok nmX13 mw_1113 rfl rfl rfl (Nat.le_of_ble_eq_true rfl) (ws' := (Wn ad cA (q_Mo_names sMo) (q_Mo_gives sMo) (q_Mo_turned sMo) (q_Mo_size sMo) (q_Mo_bytes sMo) (q_Mo_n sMo) (q_Mo_text sMo) ((q_Mo_p sMo) + 1) (q_Mo_ended sMo) (q_Mo_tokens sMo) (q_Mo_kinds sMo) (q_Mo_firsts sMo) (q_Mo_sizes sMo) (q_Mo_marks sMo) (q_Mo_attributes sMo) (q_Mo_manyOf sMo) (q_Mo_attributeCount sMo) (q_Mo_nameAt sMo) (q_Mo_nameSize sMo) (q_Mo_valueAt sMo) (q_Mo_valueSize sMo) (q_Mo_goes sMo) (q_Mo_rowSize sMo) (q_Mo_row sMo) (q_Mo_textAt sMo) (q_Mo_textSize sMo) (q_Mo_faultCount sMo) (q_Mo_codes sMo) (q_Mo_places sMo) (q_Mo_outSize sMo) (q_Mo_out sMo) (q_Mo_which sMo))) rfl d_Mo_tag_45 ?_
      refine g_aload_n F d_Mo_tag_48 1 rfl ?_
      obtain ⟨x11, hx11, hf⟩ := g_bind hf
      refine g_cv F (ws' := (Wo ad cA x11)) (fun H locs ls hP hD hS hl => g_runV F (As := []) (n := 0) mw_1348 rfl rfl ⟨by decide, by decide⟩ rfl (by exact Nat.le_of_ble_eq_true rfl) mw_1345 mw_1347 mw_57 mw_85 (by decide +kernel) d_Mo_tag_49 hP hD hS hl (va_recv F.2.2.2.2.2.1 hP (ci := 9) rfl (q0 := 0) rfl) (c_Mo_stop l D cA z ad (u_Mo_p sMo ((q_Mo_p sMo) + 1)) hx11 H.size)) ?_
      refine g_goto F (tgt := 144) d_Mo_tag_52 (by decide) ?_
      cases hf
      exact g_vret F hr hlk rfl rfl d_Mo_tag_144
  · rw [if_pos h] at hf
    refine g_aload_n F d_Mo_tag_15 1 rfl ?_
    refine g_dup F d_Mo_tag_16 rfl ?_
    refine g_get F (v := .int (q_Mo_p sMo)) in_X13 0 rfl rfl 7 (by decide) mw_1113 rfl d_Mo_tag_17 ?_
    refine g_iconst F (v := 1) d_Mo_tag_20 (by decide) ?_
    refine g_iadd F d_Mo_tag_21 ?_
    refine g_put F in_X13 0 rfl rfl 7 (by decide) tyX13 tyX13_ok nmX13 mw_1113 rfl rfl rfl (Nat.le_of_ble_eq_true rfl) (ws' := (Wn ad cA (q_Mo_names sMo) (q_Mo_gives sMo) (q_Mo_turned sMo) (q_Mo_size sMo) (q_Mo_bytes sMo) (q_Mo_n sMo) (q_Mo_text sMo) ((q_Mo_p sMo) + 1) (q_Mo_ended sMo) (q_Mo_tokens sMo) (q_Mo_kinds sMo) (q_Mo_firsts sMo) (q_Mo_sizes sMo) (q_Mo_marks sMo) (q_Mo_attributes sMo) (q_Mo_manyOf sMo) (q_Mo_attributeCount sMo) (q_Mo_nameAt sMo) (q_Mo_nameSize sMo) (q_Mo_valueAt sMo) (q_Mo_valueSize sMo) (q_Mo_goes sMo) (q_Mo_rowSize sMo) (q_Mo_row sMo) (q_Mo_textAt sMo) (q_Mo_textSize sMo) (q_Mo_faultCount sMo) (q_Mo_codes sMo) (q_Mo_places sMo) (q_Mo_outSize sMo) (q_Mo_out sMo) (q_Mo_which sMo))) rfl d_Mo_tag_22 ?_
    refine g_aload_n F d_Mo_tag_25 1 rfl ?_
    obtain ⟨x12, hx12, hf⟩ := g_bind hf
    refine g_cv F (ws' := (Wo ad cA x12)) (fun H locs ls hP hD hS hl => g_runV F (As := []) (n := 0) mw_1300 rfl rfl ⟨by decide, by decide⟩ rfl (by exact Nat.le_of_ble_eq_true rfl) mw_1297 mw_1299 mw_46 mw_85 (by decide +kernel) d_Mo_tag_26 hP hD hS hl (va_recv F.2.2.2.2.2.1 hP (ci := 9) rfl (q0 := 0) rfl) (c_Mo_mark l D cA z ad (u_Mo_p sMo ((q_Mo_p sMo) + 1)) hx12 H.size)) ?_
    refine g_goto F (tgt := 144) d_Mo_tag_29 (by decide) ?_
    cases hf
    exact g_vret F hr hlk rfl rfl d_Mo_tag_144
set_option maxHeartbeats 4000000 in
set_option maxRecDepth 100000 in
theorem c_Mo_run (l : Launch) (D : va_G) (cA : Nat → ClassId) (z : gZ) (ad : Nat → Nat) (sMo : SMo) {x : Int32 × SMo} (hf : f_Mo_run sMo = some x) (sz : Nat) : Met l y_Mo_run (.code y_Mo_run b_Mo_run 2 (some .int) :: lw_g) { frames := 12, cells := 0, slots := 0, locals := 266 } (gP D (gT cA) z [.ref (ad 0)] (Wo ad cA sMo) sz) (gQi D (gT cA) (va_A (Wo ad cA sMo) sz) x.1 (Wo ad cA x.2)) 0 0 (va_A (Wo ad cA sMo) sz) := by
  refine g_met (by decide) (Nat.le_of_ble_eq_true rfl) rfl ?_
  intro p e s m args below meth c F hr hlk
  have blk39 : ∀ (n : Nat) (tMo : SMo), f_Mo_run_39 n tMo = some x → GW p l e { frames := 12, cells := 0, slots := 0, locals := 266 } s m args below meth c (gQi D (gT cA) (va_A (Wo ad cA sMo) sz) x.1 (Wo ad cA x.2)) D (va_A (Wo ad cA sMo) sz) 2 (Wo ad cA tMo) 39 [(0, .ref (ad 0))] [] := by
    intro n
    induction n with
    | zero => intro _ hf; cases hf
    | succ n ih =>
      intro tMo hf
      rw [f_Mo_run_39] at hf
      refine g_aload_n F d_Mo_run_39 0 rfl ?_
      refine g_get F (v := .int (q_Mo_ended tMo)) in_X13 0 rfl rfl 8 (by decide) mw_1114 rfl d_Mo_run_40 ?_
      refine g_if_ne F (tgt := 136) d_Mo_run_43 (by decide) (fun h => ?_) (fun h => ?_)
      · rw [if_neg h] at hf
        refine g_aload_n F d_Mo_run_136 0 rfl ?_
        refine g_iconst F (v := 0) d_Mo_run_137 (by decide) ?_
        obtain ⟨x1, hx1, hf⟩ := g_bind hf
        refine g_cv F (ws' := (Wo ad cA x1)) (fun H locs ls hP hD hS hl => g_runV F (As := [.int 0]) (n := 1) mw_1304 rfl rfl ⟨by decide, by decide⟩ rfl (by exact Nat.le_of_ble_eq_true rfl) mw_1301 mw_1303 mw_47 mw_85 (by decide +kernel) d_Mo_run_138 hP hD hS hl (va_recv F.2.2.2.2.2.1 hP (ci := 9) rfl (q0 := 0) rfl) (c_Mo_begin l D cA z ad tMo 0 hx1 H.size)) ?_
        refine g_aload_n F d_Mo_run_141 0 rfl ?_
        refine g_get F (v := .int (q_Mo_tokens x1)) in_X13 0 rfl rfl 9 (by decide) mw_1115 rfl d_Mo_run_142 ?_
        cases hf
        exact g_iret F hr hlk rfl rfl rfl d_Mo_run_145
      · rw [if_pos h] at hf
        refine g_aload_n F d_Mo_run_46 0 rfl ?_
        refine g_aload_n F d_Mo_run_47 0 rfl ?_
        refine g_get F (v := .int (q_Mo_p tMo)) in_X13 0 rfl rfl 7 (by decide) mw_1113 rfl d_Mo_run_48 ?_
        obtain ⟨x2, hx2, hf⟩ := g_bind hf
        refine g_ci F (r0 := x2) (ws' := (Wo ad cA tMo)) (fun H locs ls hP hD hS hl => g_runV F (As := [.int (q_Mo_p tMo)]) (n := 1) mw_1228 rfl rfl ⟨by decide, by decide⟩ rfl (by exact Nat.le_of_ble_eq_true rfl) mw_1225 mw_1227 mw_34 mw_85 (by decide +kernel) d_Mo_run_51 hP hD hS hl (va_recv F.2.2.2.2.2.1 hP (ci := 9) rfl (q0 := 0) rfl) (c_Mo_charAt l D cA z ad tMo (q_Mo_p tMo) hx2 H.size)) ?_
        refine g_istore_n F (L' := [(1, .int x2), (0, .ref (ad 0))]) d_Mo_run_54 rfl (by decide) rfl ?_
        refine g_iload_n F d_Mo_run_55 0 rfl ?_
        refine g_iconst F (v := (-1)) d_Mo_run_56 (by decide) ?_
        refine g_icmp_ne F (tgt := 68) d_Mo_run_57 (by decide) (fun h => ?_) (fun h => ?_)
        · rw [if_neg h] at hf
          refine g_iload_n F d_Mo_run_68 0 rfl ?_
          refine g_bipush F (v := 38) d_Mo_run_69 (by decide) ?_
          refine g_icmp_ne F (tgt := 82) d_Mo_run_71 (by decide) (fun h => ?_) (fun h => ?_)
          · rw [if_neg h] at hf
            refine g_iload_n F d_Mo_run_82 0 rfl ?_
            refine g_bipush F (v := 60) d_Mo_run_83 (by decide) ?_
            refine g_icmp_ne F (tgt := 105) d_Mo_run_85 (by decide) (fun h => ?_) (fun h => ?_)
            · rw [if_neg h] at hf
              refine g_iload_n F d_Mo_run_105 0 rfl ?_
              refine g_if_ne F (tgt := 118) d_Mo_run_106 (by decide) (fun h => ?_) (fun h => ?_)
              · rw [if_neg h] at hf
                refine g_aload_n F d_Mo_run_118 1 rfl ?_
                refine g_iload_n F d_Mo_run_119 0 rfl ?_
                obtain ⟨x3, hx3, hf⟩ := g_bind hf
                refine g_cv F (ws' := (Wo ad cA x3)) (fun H locs ls hP hD hS hl => g_runV F (As := [.int x2]) (n := 1) mw_1263 rfl rfl ⟨by decide, by decide⟩ rfl (by exact Nat.le_of_ble_eq_true rfl) mw_1260 mw_1262 mw_41 mw_85 (by decide +kernel) d_Mo_run_120 hP hD hS hl (va_recv F.2.2.2.2.2.1 hP (ci := 9) rfl (q0 := 0) rfl) (c_Mo_toText l D cA z ad tMo x2 hx3 H.size)) ?_
                refine g_aload_n F d_Mo_run_123 1 rfl ?_
                refine g_dup F d_Mo_run_124 rfl ?_
                refine g_get F (v := .int (q_Mo_p x3)) in_X13 0 rfl rfl 7 (by decide) mw_1113 rfl d_Mo_run_125 ?_
                refine g_iconst F (v := 1) d_Mo_run_128 (by decide) ?_
                refine g_iadd F d_Mo_run_129 ?_
                refine g_put F in_X13 0 rfl rfl 7 (by decide) tyX13 tyX13_ok nmX13 mw_1113 rfl rfl rfl (Nat.le_of_ble_eq_true rfl) (ws' := (Wn ad cA (q_Mo_names x3) (q_Mo_gives x3) (q_Mo_turned x3) (q_Mo_size x3) (q_Mo_bytes x3) (q_Mo_n x3) (q_Mo_text x3) ((q_Mo_p x3) + 1) (q_Mo_ended x3) (q_Mo_tokens x3) (q_Mo_kinds x3) (q_Mo_firsts x3) (q_Mo_sizes x3) (q_Mo_marks x3) (q_Mo_attributes x3) (q_Mo_manyOf x3) (q_Mo_attributeCount x3) (q_Mo_nameAt x3) (q_Mo_nameSize x3) (q_Mo_valueAt x3) (q_Mo_valueSize x3) (q_Mo_goes x3) (q_Mo_rowSize x3) (q_Mo_row x3) (q_Mo_textAt x3) (q_Mo_textSize x3) (q_Mo_faultCount x3) (q_Mo_codes x3) (q_Mo_places x3) (q_Mo_outSize x3) (q_Mo_out x3) (q_Mo_which x3))) rfl d_Mo_run_130 ?_
                refine g_goto F (tgt := 39) d_Mo_run_133 (by decide) ?_
                refine g_loc [1] rfl ?_
                exact ih (u_Mo_p x3 ((q_Mo_p x3) + 1)) hf
              · rw [if_pos h] at hf
                refine g_aload_n F d_Mo_run_109 1 rfl ?_
                refine g_iconst F (v := 1) d_Mo_run_110 (by decide) ?_
                refine g_aload_n F d_Mo_run_111 1 rfl ?_
                refine g_get F (v := .int (q_Mo_p tMo)) in_X13 0 rfl rfl 7 (by decide) mw_1113 rfl d_Mo_run_112 ?_
                obtain ⟨x4, hx4, hf⟩ := g_bind hf
                refine g_cv F (ws' := (Wo ad cA x4)) (fun H locs ls hP hD hS hl => g_runV F (As := [.int 1, .int (q_Mo_p tMo)]) (n := 2) mw_1247 rfl rfl ⟨by decide, by decide⟩ rfl (by exact Nat.le_of_ble_eq_true rfl) mw_1244 mw_1246 mw_37 mw_85 (by decide +kernel) d_Mo_run_115 hP hD hS hl (va_recv F.2.2.2.2.2.1 hP (ci := 9) rfl (q0 := 0) rfl) (c_Mo_wrong l D cA z ad tMo 1 (q_Mo_p tMo) hx4 H.size)) ?_
                refine g_aload_n F d_Mo_run_118 1 rfl ?_
                refine g_iload_n F d_Mo_run_119 0 rfl ?_
                obtain ⟨x5, hx5, hf⟩ := g_bind hf
                refine g_cv F (ws' := (Wo ad cA x5)) (fun H locs ls hP hD hS hl => g_runV F (As := [.int x2]) (n := 1) mw_1263 rfl rfl ⟨by decide, by decide⟩ rfl (by exact Nat.le_of_ble_eq_true rfl) mw_1260 mw_1262 mw_41 mw_85 (by decide +kernel) d_Mo_run_120 hP hD hS hl (va_recv F.2.2.2.2.2.1 hP (ci := 9) rfl (q0 := 0) rfl) (c_Mo_toText l D cA z ad x4 x2 hx5 H.size)) ?_
                refine g_aload_n F d_Mo_run_123 1 rfl ?_
                refine g_dup F d_Mo_run_124 rfl ?_
                refine g_get F (v := .int (q_Mo_p x5)) in_X13 0 rfl rfl 7 (by decide) mw_1113 rfl d_Mo_run_125 ?_
                refine g_iconst F (v := 1) d_Mo_run_128 (by decide) ?_
                refine g_iadd F d_Mo_run_129 ?_
                refine g_put F in_X13 0 rfl rfl 7 (by decide) tyX13 tyX13_ok nmX13 mw_1113 rfl rfl rfl (Nat.le_of_ble_eq_true rfl) (ws' := (Wn ad cA (q_Mo_names x5) (q_Mo_gives x5) (q_Mo_turned x5) (q_Mo_size x5) (q_Mo_bytes x5) (q_Mo_n x5) (q_Mo_text x5) ((q_Mo_p x5) + 1) (q_Mo_ended x5) (q_Mo_tokens x5) (q_Mo_kinds x5) (q_Mo_firsts x5) (q_Mo_sizes x5) (q_Mo_marks x5) (q_Mo_attributes x5) (q_Mo_manyOf x5) (q_Mo_attributeCount x5) (q_Mo_nameAt x5) (q_Mo_nameSize x5) (q_Mo_valueAt x5) (q_Mo_valueSize x5) (q_Mo_goes x5) (q_Mo_rowSize x5) (q_Mo_row x5) (q_Mo_textAt x5) (q_Mo_textSize x5) (q_Mo_faultCount x5) (q_Mo_codes x5) (q_Mo_places x5) (q_Mo_outSize x5) (q_Mo_out x5) (q_Mo_which x5))) rfl d_Mo_run_130 ?_
                refine g_goto F (tgt := 39) d_Mo_run_133 (by decide) ?_
                refine g_loc [1] rfl ?_
                exact ih (u_Mo_p x5 ((q_Mo_p x5) + 1)) hf
            · rw [if_pos h] at hf
              refine g_aload_n F d_Mo_run_88 1 rfl ?_
              refine g_dup F d_Mo_run_89 rfl ?_
              refine g_get F (v := .int (q_Mo_p tMo)) in_X13 0 rfl rfl 7 (by decide) mw_1113 rfl d_Mo_run_90 ?_
              refine g_iconst F (v := 1) d_Mo_run_93 (by decide) ?_
              refine g_iadd F d_Mo_run_94 ?_
              refine g_put F in_X13 0 rfl rfl 7 (by decide) tyX13 tyX13_ok nmX13 mw_1113 rfl rfl rfl (Nat.le_of_ble_eq_true rfl) (ws' := (Wn ad cA (q_Mo_names tMo) (q_Mo_gives tMo) (q_Mo_turned tMo) (q_Mo_size tMo) (q_Mo_bytes tMo) (q_Mo_n tMo) (q_Mo_text tMo) ((q_Mo_p tMo) + 1) (q_Mo_ended tMo) (q_Mo_tokens tMo) (q_Mo_kinds tMo) (q_Mo_firsts tMo) (q_Mo_sizes tMo) (q_Mo_marks tMo) (q_Mo_attributes tMo) (q_Mo_manyOf tMo) (q_Mo_attributeCount tMo) (q_Mo_nameAt tMo) (q_Mo_nameSize tMo) (q_Mo_valueAt tMo) (q_Mo_valueSize tMo) (q_Mo_goes tMo) (q_Mo_rowSize tMo) (q_Mo_row tMo) (q_Mo_textAt tMo) (q_Mo_textSize tMo) (q_Mo_faultCount tMo) (q_Mo_codes tMo) (q_Mo_places tMo) (q_Mo_outSize tMo) (q_Mo_out tMo) (q_Mo_which tMo))) rfl d_Mo_run_95 ?_
              refine g_aload_n F d_Mo_run_98 1 rfl ?_
              obtain ⟨x6, hx6, hf⟩ := g_bind hf
              refine g_cv F (ws' := (Wo ad cA x6)) (fun H locs ls hP hD hS hl => g_runV F (As := []) (n := 0) mw_1296 rfl rfl ⟨by decide, by decide⟩ rfl (by exact Nat.le_of_ble_eq_true rfl) mw_1293 mw_1295 mw_45 mw_85 (by decide +kernel) d_Mo_run_99 hP hD hS hl (va_recv F.2.2.2.2.2.1 hP (ci := 9) rfl (q0 := 0) rfl) (c_Mo_tag l D cA z ad (u_Mo_p tMo ((q_Mo_p tMo) + 1)) hx6 H.size)) ?_
              refine g_goto F (tgt := 133) d_Mo_run_102 (by decide) ?_
              refine g_goto F (tgt := 39) d_Mo_run_133 (by decide) ?_
              refine g_loc [1] rfl ?_
              exact ih x6 hf
          · rw [if_pos h] at hf
            refine g_aload_n F d_Mo_run_74 1 rfl ?_
            refine g_iconst F (v := 0) d_Mo_run_75 (by decide) ?_
            obtain ⟨x7, hx7, hf⟩ := g_bind hf
            refine g_cv F (ws' := (Wo ad cA x7)) (fun H locs ls hP hD hS hl => g_runV F (As := [.int 0]) (n := 1) mw_1232 rfl rfl ⟨by decide, by decide⟩ rfl (by exact Nat.le_of_ble_eq_true rfl) mw_1229 mw_1231 mw_35 mw_85 (by decide +kernel) d_Mo_run_76 hP hD hS hl (va_recv F.2.2.2.2.2.1 hP (ci := 9) rfl (q0 := 0) rfl) (c_Mo_reference l D cA z ad tMo 0 hx7 H.size)) ?_
            refine g_goto F (tgt := 133) d_Mo_run_79 (by decide) ?_
            refine g_goto F (tgt := 39) d_Mo_run_133 (by decide) ?_
            refine g_loc [1] rfl ?_
            exact ih x7 hf
        · rw [if_pos h] at hf
          refine g_aload_n F d_Mo_run_60 1 rfl ?_
          refine g_iconst F (v := 1) d_Mo_run_61 (by decide) ?_
          refine g_put F in_X13 0 rfl rfl 8 (by decide) tyX13 tyX13_ok nmX13 mw_1114 rfl rfl rfl (Nat.le_of_ble_eq_true rfl) (ws' := (Wn ad cA (q_Mo_names tMo) (q_Mo_gives tMo) (q_Mo_turned tMo) (q_Mo_size tMo) (q_Mo_bytes tMo) (q_Mo_n tMo) (q_Mo_text tMo) (q_Mo_p tMo) 1 (q_Mo_tokens tMo) (q_Mo_kinds tMo) (q_Mo_firsts tMo) (q_Mo_sizes tMo) (q_Mo_marks tMo) (q_Mo_attributes tMo) (q_Mo_manyOf tMo) (q_Mo_attributeCount tMo) (q_Mo_nameAt tMo) (q_Mo_nameSize tMo) (q_Mo_valueAt tMo) (q_Mo_valueSize tMo) (q_Mo_goes tMo) (q_Mo_rowSize tMo) (q_Mo_row tMo) (q_Mo_textAt tMo) (q_Mo_textSize tMo) (q_Mo_faultCount tMo) (q_Mo_codes tMo) (q_Mo_places tMo) (q_Mo_outSize tMo) (q_Mo_out tMo) (q_Mo_which tMo))) rfl d_Mo_run_62 ?_
          refine g_goto F (tgt := 133) d_Mo_run_65 (by decide) ?_
          refine g_goto F (tgt := 39) d_Mo_run_133 (by decide) ?_
          refine g_loc [1] rfl ?_
          exact ih (u_Mo_ended tMo 1) hf
  unfold f_Mo_run at hf
  refine g_aload_n F d_Mo_run_0 0 rfl ?_
  obtain ⟨x8, hx8, hf⟩ := g_bind hf
  refine g_cv F (ws' := (Wo ad cA x8)) (fun H locs ls hP hD hS hl => g_runV F (As := []) (n := 0) mw_1224 rfl rfl ⟨by decide, by decide⟩ rfl (by exact Nat.le_of_ble_eq_true rfl) mw_1221 mw_1223 mw_33 mw_85 (by decide +kernel) d_Mo_run_1 hP hD hS hl (va_recv F.2.2.2.2.2.1 hP (ci := 9) rfl (q0 := 0) rfl) (c_Mo_layDown l D cA z ad sMo hx8 H.size)) ?_
  refine g_aload_n F d_Mo_run_4 0 rfl ?_
  refine g_iconst F (v := 0) d_Mo_run_5 (by decide) ?_
  refine g_put F in_X13 0 rfl rfl 7 (by decide) tyX13 tyX13_ok nmX13 mw_1113 rfl rfl rfl (Nat.le_of_ble_eq_true rfl) (ws' := (Wn ad cA (q_Mo_names x8) (q_Mo_gives x8) (q_Mo_turned x8) (q_Mo_size x8) (q_Mo_bytes x8) (q_Mo_n x8) (q_Mo_text x8) 0 (q_Mo_ended x8) (q_Mo_tokens x8) (q_Mo_kinds x8) (q_Mo_firsts x8) (q_Mo_sizes x8) (q_Mo_marks x8) (q_Mo_attributes x8) (q_Mo_manyOf x8) (q_Mo_attributeCount x8) (q_Mo_nameAt x8) (q_Mo_nameSize x8) (q_Mo_valueAt x8) (q_Mo_valueSize x8) (q_Mo_goes x8) (q_Mo_rowSize x8) (q_Mo_row x8) (q_Mo_textAt x8) (q_Mo_textSize x8) (q_Mo_faultCount x8) (q_Mo_codes x8) (q_Mo_places x8) (q_Mo_outSize x8) (q_Mo_out x8) (q_Mo_which x8))) rfl d_Mo_run_6 ?_
  refine g_aload_n F d_Mo_run_9 0 rfl ?_
  refine g_iconst F (v := 0) d_Mo_run_10 (by decide) ?_
  refine g_put F in_X13 0 rfl rfl 8 (by decide) tyX13 tyX13_ok nmX13 mw_1114 rfl rfl rfl (Nat.le_of_ble_eq_true rfl) (ws' := (Wn ad cA (q_Mo_names x8) (q_Mo_gives x8) (q_Mo_turned x8) (q_Mo_size x8) (q_Mo_bytes x8) (q_Mo_n x8) (q_Mo_text x8) 0 0 (q_Mo_tokens x8) (q_Mo_kinds x8) (q_Mo_firsts x8) (q_Mo_sizes x8) (q_Mo_marks x8) (q_Mo_attributes x8) (q_Mo_manyOf x8) (q_Mo_attributeCount x8) (q_Mo_nameAt x8) (q_Mo_nameSize x8) (q_Mo_valueAt x8) (q_Mo_valueSize x8) (q_Mo_goes x8) (q_Mo_rowSize x8) (q_Mo_row x8) (q_Mo_textAt x8) (q_Mo_textSize x8) (q_Mo_faultCount x8) (q_Mo_codes x8) (q_Mo_places x8) (q_Mo_outSize x8) (q_Mo_out x8) (q_Mo_which x8))) rfl d_Mo_run_11 ?_
  refine g_aload_n F d_Mo_run_14 0 rfl ?_
  refine g_iconst F (v := 0) d_Mo_run_15 (by decide) ?_
  refine g_put F in_X13 0 rfl rfl 9 (by decide) tyX13 tyX13_ok nmX13 mw_1115 rfl rfl rfl (Nat.le_of_ble_eq_true rfl) (ws' := (Wn ad cA (q_Mo_names x8) (q_Mo_gives x8) (q_Mo_turned x8) (q_Mo_size x8) (q_Mo_bytes x8) (q_Mo_n x8) (q_Mo_text x8) 0 0 0 (q_Mo_kinds x8) (q_Mo_firsts x8) (q_Mo_sizes x8) (q_Mo_marks x8) (q_Mo_attributes x8) (q_Mo_manyOf x8) (q_Mo_attributeCount x8) (q_Mo_nameAt x8) (q_Mo_nameSize x8) (q_Mo_valueAt x8) (q_Mo_valueSize x8) (q_Mo_goes x8) (q_Mo_rowSize x8) (q_Mo_row x8) (q_Mo_textAt x8) (q_Mo_textSize x8) (q_Mo_faultCount x8) (q_Mo_codes x8) (q_Mo_places x8) (q_Mo_outSize x8) (q_Mo_out x8) (q_Mo_which x8))) rfl d_Mo_run_16 ?_
  refine g_aload_n F d_Mo_run_19 0 rfl ?_
  refine g_iconst F (v := 0) d_Mo_run_20 (by decide) ?_
  refine g_put F in_X13 0 rfl rfl 16 (by decide) tyX13 tyX13_ok nmX13 mw_1122 rfl rfl rfl (Nat.le_of_ble_eq_true rfl) (ws' := (Wn ad cA (q_Mo_names x8) (q_Mo_gives x8) (q_Mo_turned x8) (q_Mo_size x8) (q_Mo_bytes x8) (q_Mo_n x8) (q_Mo_text x8) 0 0 0 (q_Mo_kinds x8) (q_Mo_firsts x8) (q_Mo_sizes x8) (q_Mo_marks x8) (q_Mo_attributes x8) (q_Mo_manyOf x8) 0 (q_Mo_nameAt x8) (q_Mo_nameSize x8) (q_Mo_valueAt x8) (q_Mo_valueSize x8) (q_Mo_goes x8) (q_Mo_rowSize x8) (q_Mo_row x8) (q_Mo_textAt x8) (q_Mo_textSize x8) (q_Mo_faultCount x8) (q_Mo_codes x8) (q_Mo_places x8) (q_Mo_outSize x8) (q_Mo_out x8) (q_Mo_which x8))) rfl d_Mo_run_21 ?_
  refine g_aload_n F d_Mo_run_24 0 rfl ?_
  refine g_iconst F (v := 0) d_Mo_run_25 (by decide) ?_
  refine g_put F in_X13 0 rfl rfl 22 (by decide) tyX13 tyX13_ok nmX13 mw_1128 rfl rfl rfl (Nat.le_of_ble_eq_true rfl) (ws' := (Wn ad cA (q_Mo_names x8) (q_Mo_gives x8) (q_Mo_turned x8) (q_Mo_size x8) (q_Mo_bytes x8) (q_Mo_n x8) (q_Mo_text x8) 0 0 0 (q_Mo_kinds x8) (q_Mo_firsts x8) (q_Mo_sizes x8) (q_Mo_marks x8) (q_Mo_attributes x8) (q_Mo_manyOf x8) 0 (q_Mo_nameAt x8) (q_Mo_nameSize x8) (q_Mo_valueAt x8) (q_Mo_valueSize x8) (q_Mo_goes x8) 0 (q_Mo_row x8) (q_Mo_textAt x8) (q_Mo_textSize x8) (q_Mo_faultCount x8) (q_Mo_codes x8) (q_Mo_places x8) (q_Mo_outSize x8) (q_Mo_out x8) (q_Mo_which x8))) rfl d_Mo_run_26 ?_
  refine g_aload_n F d_Mo_run_29 0 rfl ?_
  refine g_iconst F (v := 0) d_Mo_run_30 (by decide) ?_
  refine g_put F in_X13 0 rfl rfl 25 (by decide) tyX13 tyX13_ok nmX13 mw_1131 rfl rfl rfl (Nat.le_of_ble_eq_true rfl) (ws' := (Wn ad cA (q_Mo_names x8) (q_Mo_gives x8) (q_Mo_turned x8) (q_Mo_size x8) (q_Mo_bytes x8) (q_Mo_n x8) (q_Mo_text x8) 0 0 0 (q_Mo_kinds x8) (q_Mo_firsts x8) (q_Mo_sizes x8) (q_Mo_marks x8) (q_Mo_attributes x8) (q_Mo_manyOf x8) 0 (q_Mo_nameAt x8) (q_Mo_nameSize x8) (q_Mo_valueAt x8) (q_Mo_valueSize x8) (q_Mo_goes x8) 0 (q_Mo_row x8) (q_Mo_textAt x8) 0 (q_Mo_faultCount x8) (q_Mo_codes x8) (q_Mo_places x8) (q_Mo_outSize x8) (q_Mo_out x8) (q_Mo_which x8))) rfl d_Mo_run_31 ?_
  refine g_aload_n F d_Mo_run_34 0 rfl ?_
  refine g_iconst F (v := 0) d_Mo_run_35 (by decide) ?_
  refine g_put F in_X13 0 rfl rfl 26 (by decide) tyX13 tyX13_ok nmX13 mw_1132 rfl rfl rfl (Nat.le_of_ble_eq_true rfl) (ws' := (Wn ad cA (q_Mo_names x8) (q_Mo_gives x8) (q_Mo_turned x8) (q_Mo_size x8) (q_Mo_bytes x8) (q_Mo_n x8) (q_Mo_text x8) 0 0 0 (q_Mo_kinds x8) (q_Mo_firsts x8) (q_Mo_sizes x8) (q_Mo_marks x8) (q_Mo_attributes x8) (q_Mo_manyOf x8) 0 (q_Mo_nameAt x8) (q_Mo_nameSize x8) (q_Mo_valueAt x8) (q_Mo_valueSize x8) (q_Mo_goes x8) 0 (q_Mo_row x8) (q_Mo_textAt x8) 0 0 (q_Mo_codes x8) (q_Mo_places x8) (q_Mo_outSize x8) (q_Mo_out x8) (q_Mo_which x8))) rfl d_Mo_run_36 ?_
  exact blk39 FU (u_Mo_p_ended_tokens_attributeCount_rowSize_textSize_faultCount x8 0 0 0 0 0 0 0) hf
