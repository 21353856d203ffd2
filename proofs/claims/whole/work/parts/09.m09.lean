set_option maxHeartbeats 4000000 in
set_option maxRecDepth 100000 in
theorem c_Mo_token (l : Launch) (D : va_G) (cA : Nat → ClassId) (z : gZ) (ad : Nat → Nat) (sMo : SMo) (a1 : Int32) (a2 : Int32) {x : Int32} (hf : f_Mo_token a1 a2 sMo = some x) (sz : Nat) : Met l y_Mo_token (.code y_Mo_token b_Mo_token 3 (some .int) :: lw_g) { frames := 0, cells := 0, slots := 0, locals := 0 } (gP D (gT cA) z [.ref (ad 0), .int a1, .int a2] (Wo ad cA sMo) sz) (gQi D (gT cA) (va_A (Wo ad cA sMo) sz) x (Wo ad cA sMo)) 0 0 (va_A (Wo ad cA sMo) sz) := by
  refine g_met (by decide) (Nat.le_of_ble_eq_true rfl) rfl ?_
  intro p e s m args below meth c F hr hlk
  unfold f_Mo_token at hf
  refine g_iload_n F d_Mo_token_0 1 rfl ?_
  refine g_if_lt F (tgt := 21) d_Mo_token_1 (by decide) (fun h => ?_) (fun h => ?_)
  · rw [if_pos h] at hf
    refine g_iconst F (v := (-1)) d_Mo_token_21 (by decide) ?_
    cases hf
    exact g_iret F hr hlk rfl rfl rfl d_Mo_token_22
  · rw [if_neg h] at hf
    refine g_iload_n F d_Mo_token_4 1 rfl ?_
    refine g_aload_n F d_Mo_token_5 0 rfl ?_
    refine g_get F (v := .int (q_Mo_tokens sMo)) in_X13 0 rfl rfl 9 (by decide) mw_1115 rfl d_Mo_token_6 ?_
    refine g_icmp_ge F (tgt := 21) d_Mo_token_9 (by decide) (fun h => ?_) (fun h => ?_)
    · rw [if_pos h] at hf
      refine g_iconst F (v := (-1)) d_Mo_token_21 (by decide) ?_
      cases hf
      exact g_iret F hr hlk rfl rfl rfl d_Mo_token_22
    · rw [if_neg h] at hf
      refine g_iload_n F d_Mo_token_12 2 rfl ?_
      refine g_if_lt F (tgt := 21) d_Mo_token_13 (by decide) (fun h => ?_) (fun h => ?_)
      · rw [if_pos h] at hf
        refine g_iconst F (v := (-1)) d_Mo_token_21 (by decide) ?_
        cases hf
        exact g_iret F hr hlk rfl rfl rfl d_Mo_token_22
      · rw [if_neg h] at hf
        refine g_iload_n F d_Mo_token_16 2 rfl ?_
        refine g_iconst F (v := 3) d_Mo_token_17 (by decide) ?_
        refine g_icmp_le F (tgt := 23) d_Mo_token_18 (by decide) (fun h => ?_) (fun h => ?_)
        · rw [if_pos h] at hf
          refine g_iload_n F d_Mo_token_23 2 rfl ?_
          refine g_if_ne F (tgt := 36) d_Mo_token_24 (by decide) (fun h => ?_) (fun h => ?_)
          · rw [if_neg h] at hf
            refine g_iload_n F d_Mo_token_36 2 rfl ?_
            refine g_iconst F (v := 1) d_Mo_token_37 (by decide) ?_
            refine g_icmp_ne F (tgt := 50) d_Mo_token_38 (by decide) (fun h => ?_) (fun h => ?_)
            · rw [if_neg h] at hf
              refine g_iload_n F d_Mo_token_50 2 rfl ?_
              refine g_iconst F (v := 2) d_Mo_token_51 (by decide) ?_
              refine g_icmp_ne F (tgt := 72) d_Mo_token_52 (by decide) (fun h => ?_) (fun h => ?_)
              · rw [if_neg h] at hf
                refine g_aload_n F d_Mo_token_72 0 rfl ?_
                refine g_get F (v := .ref (ad 11)) in_X13 0 rfl rfl 15 (by decide) mw_1121 rfl d_Mo_token_73 ?_
                refine g_iload_n F d_Mo_token_76 1 rfl ?_
                obtain ⟨k1, hf⟩ := g_chk hf
                refine g_iald F (f := (q_Mo_manyOf sMo)) 11 0 rfl rfl k1 d_Mo_token_77 ?_
                cases hf
                exact g_iret F hr hlk rfl rfl rfl d_Mo_token_78
              · rw [if_pos h] at hf
                refine g_aload_n F d_Mo_token_55 0 rfl ?_
                refine g_get F (v := .ref (ad 9)) in_X13 0 rfl rfl 13 (by decide) mw_1119 rfl d_Mo_token_56 ?_
                refine g_iload_n F d_Mo_token_59 1 rfl ?_
                obtain ⟨k2, hf⟩ := g_chk hf
                refine g_zald F (f := (q_Mo_marks sMo)) 9 3 rfl rfl k2 d_Mo_token_60 ?_
                refine g_if_eq F (tgt := 68) d_Mo_token_61 (by decide) (fun h => ?_) (fun h => ?_)
                · rw [if_pos h] at hf
                  refine g_iconst F (v := 0) d_Mo_token_68 (by decide) ?_
                  refine g_goto F (tgt := 78) d_Mo_token_69 (by decide) ?_
                  cases hf
                  exact g_iret F hr hlk rfl rfl rfl d_Mo_token_78
                · rw [if_neg h] at hf
                  refine g_iconst F (v := 1) d_Mo_token_64 (by decide) ?_
                  refine g_goto F (tgt := 78) d_Mo_token_65 (by decide) ?_
                  cases hf
                  exact g_iret F hr hlk rfl rfl rfl d_Mo_token_78
            · rw [if_pos h] at hf
              refine g_aload_n F d_Mo_token_41 0 rfl ?_
              refine g_get F (v := .ref (ad 8)) in_X13 0 rfl rfl 12 (by decide) mw_1118 rfl d_Mo_token_42 ?_
              refine g_iload_n F d_Mo_token_45 1 rfl ?_
              obtain ⟨k3, hf⟩ := g_chk hf
              refine g_iald F (f := (q_Mo_sizes sMo)) 8 0 rfl rfl k3 d_Mo_token_46 ?_
              refine g_goto F (tgt := 78) d_Mo_token_47 (by decide) ?_
              cases hf
              exact g_iret F hr hlk rfl rfl rfl d_Mo_token_78
          · rw [if_pos h] at hf
            refine g_aload_n F d_Mo_token_27 0 rfl ?_
            refine g_get F (v := .ref (ad 6)) in_X13 0 rfl rfl 10 (by decide) mw_1116 rfl d_Mo_token_28 ?_
            refine g_iload_n F d_Mo_token_31 1 rfl ?_
            obtain ⟨k4, hf⟩ := g_chk hf
            refine g_iald F (f := (q_Mo_kinds sMo)) 6 0 rfl rfl k4 d_Mo_token_32 ?_
            refine g_goto F (tgt := 78) d_Mo_token_33 (by decide) ?_
            cases hf
            exact g_iret F hr hlk rfl rfl rfl d_Mo_token_78
        · rw [if_neg h] at hf
          refine g_iconst F (v := (-1)) d_Mo_token_21 (by decide) ?_
          cases hf
          exact g_iret F hr hlk rfl rfl rfl d_Mo_token_22
set_option maxHeartbeats 4000000 in
set_option maxRecDepth 100000 in
theorem c_Mo_at (l : Launch) (D : va_G) (cA : Nat → ClassId) (z : gZ) (ad : Nat → Nat) (sMo : SMo) (a1 : Int32) (a2 : Int32) {x : Int32} (hf : f_Mo_at a1 a2 sMo = some x) (sz : Nat) : Met l y_Mo_at (.code y_Mo_at b_Mo_at 3 (some .int) :: lw_g) { frames := 0, cells := 0, slots := 0, locals := 0 } (gP D (gT cA) z [.ref (ad 0), .int a1, .int a2] (Wo ad cA sMo) sz) (gQi D (gT cA) (va_A (Wo ad cA sMo) sz) x (Wo ad cA sMo)) 0 0 (va_A (Wo ad cA sMo) sz) := by
  refine g_met (by decide) (Nat.le_of_ble_eq_true rfl) rfl ?_
  intro p e s m args below meth c F hr hlk
  unfold f_Mo_at at hf
  refine g_iload_n F d_Mo_at_0 1 rfl ?_
  refine g_if_lt F (tgt := 26) d_Mo_at_1 (by decide) (fun h => ?_) (fun h => ?_)
  · rw [if_pos h] at hf
    refine g_iconst F (v := (-1)) d_Mo_at_26 (by decide) ?_
    refine g_goto F (tgt := 43) d_Mo_at_27 (by decide) ?_
    cases hf
    exact g_iret F hr hlk rfl rfl rfl d_Mo_at_43
  · rw [if_neg h] at hf
    refine g_iload_n F d_Mo_at_4 1 rfl ?_
    refine g_aload_n F d_Mo_at_5 0 rfl ?_
    refine g_get F (v := .int (q_Mo_tokens sMo)) in_X13 0 rfl rfl 9 (by decide) mw_1115 rfl d_Mo_at_6 ?_
    refine g_icmp_ge F (tgt := 26) d_Mo_at_9 (by decide) (fun h => ?_) (fun h => ?_)
    · rw [if_pos h] at hf
      refine g_iconst F (v := (-1)) d_Mo_at_26 (by decide) ?_
      refine g_goto F (tgt := 43) d_Mo_at_27 (by decide) ?_
      cases hf
      exact g_iret F hr hlk rfl rfl rfl d_Mo_at_43
    · rw [if_neg h] at hf
      refine g_iload_n F d_Mo_at_12 2 rfl ?_
      refine g_if_lt F (tgt := 26) d_Mo_at_13 (by decide) (fun h => ?_) (fun h => ?_)
      · rw [if_pos h] at hf
        refine g_iconst F (v := (-1)) d_Mo_at_26 (by decide) ?_
        refine g_goto F (tgt := 43) d_Mo_at_27 (by decide) ?_
        cases hf
        exact g_iret F hr hlk rfl rfl rfl d_Mo_at_43
      · rw [if_neg h] at hf
        refine g_iload_n F d_Mo_at_16 2 rfl ?_
        refine g_aload_n F d_Mo_at_17 0 rfl ?_
        refine g_get F (v := .ref (ad 8)) in_X13 0 rfl rfl 12 (by decide) mw_1118 rfl d_Mo_at_18 ?_
        refine g_iload_n F d_Mo_at_21 1 rfl ?_
        obtain ⟨k1, hf⟩ := g_chk hf
        refine g_iald F (f := (q_Mo_sizes sMo)) 8 0 rfl rfl k1 d_Mo_at_22 ?_
        refine g_icmp_lt F (tgt := 30) d_Mo_at_23 (by decide) (fun h => ?_) (fun h => ?_)
        · rw [if_pos h] at hf
          refine g_aload_n F d_Mo_at_30 0 rfl ?_
          refine g_get F (v := .ref (ad 17)) in_X13 0 rfl rfl 23 (by decide) mw_1129 rfl d_Mo_at_31 ?_
          refine g_aload_n F d_Mo_at_34 0 rfl ?_
          refine g_get F (v := .ref (ad 7)) in_X13 0 rfl rfl 11 (by decide) mw_1117 rfl d_Mo_at_35 ?_
          refine g_iload_n F d_Mo_at_38 1 rfl ?_
          obtain ⟨k2, hf⟩ := g_chk hf
          refine g_iald F (f := (q_Mo_firsts sMo)) 7 0 rfl rfl k2 d_Mo_at_39 ?_
          refine g_iload_n F d_Mo_at_40 2 rfl ?_
          refine g_iadd F d_Mo_at_41 ?_
          obtain ⟨k3, hf⟩ := g_chk hf
          refine g_iald F (f := (q_Mo_row sMo)) 17 0 rfl rfl k3 d_Mo_at_42 ?_
          cases hf
          exact g_iret F hr hlk rfl rfl rfl d_Mo_at_43
        · rw [if_neg h] at hf
          refine g_iconst F (v := (-1)) d_Mo_at_26 (by decide) ?_
          refine g_goto F (tgt := 43) d_Mo_at_27 (by decide) ?_
          cases hf
          exact g_iret F hr hlk rfl rfl rfl d_Mo_at_43
set_option maxHeartbeats 4000000 in
set_option maxRecDepth 100000 in
theorem c_Mo_isPart (l : Launch) (D : va_G) (cA : Nat → ClassId) (z : gZ) (ad : Nat → Nat) (sMo : SMo) (a1 : Int32) (a2 : Int32) (a3 : Int32) {x : Int32} (hf : f_Mo_isPart a1 a2 a3 sMo = some x) (sz : Nat) : Met l y_Mo_isPart (.code y_Mo_isPart b_Mo_isPart 4 (some .boolean) :: lw_g) { frames := 0, cells := 0, slots := 0, locals := 0 } (gP D (gT cA) z [.ref (ad 0), .int a1, .int a2, .int a3] (Wo ad cA sMo) sz) (gQi D (gT cA) (va_A (Wo ad cA sMo) sz) x (Wo ad cA sMo)) 0 0 (va_A (Wo ad cA sMo) sz) := by
  refine g_met (by decide) (Nat.le_of_ble_eq_true rfl) rfl ?_
  intro p e s m args below meth c F hr hlk
  unfold f_Mo_isPart at hf
  refine g_iload_n F d_Mo_isPart_0 1 rfl ?_
  refine g_if_lt F (tgt := 39) d_Mo_isPart_1 (by decide) (fun h => ?_) (fun h => ?_)
  · rw [if_pos h] at hf
    refine g_iconst F (v := 0) d_Mo_isPart_39 (by decide) ?_
    cases hf
    exact g_zret F hr rfl hlk rfl rfl rfl d_Mo_isPart_40
  · rw [if_neg h] at hf
    refine g_iload_n F d_Mo_isPart_4 1 rfl ?_
    refine g_aload_n F d_Mo_isPart_5 0 rfl ?_
    refine g_get F (v := .int (q_Mo_tokens sMo)) in_X13 0 rfl rfl 9 (by decide) mw_1115 rfl d_Mo_isPart_6 ?_
    refine g_icmp_ge F (tgt := 39) d_Mo_isPart_9 (by decide) (fun h => ?_) (fun h => ?_)
    · rw [if_pos h] at hf
      refine g_iconst F (v := 0) d_Mo_isPart_39 (by decide) ?_
      cases hf
      exact g_zret F hr rfl hlk rfl rfl rfl d_Mo_isPart_40
    · rw [if_neg h] at hf
      refine g_iload_n F d_Mo_isPart_12 2 rfl ?_
      refine g_if_lt F (tgt := 39) d_Mo_isPart_13 (by decide) (fun h => ?_) (fun h => ?_)
      · rw [if_pos h] at hf
        refine g_iconst F (v := 0) d_Mo_isPart_39 (by decide) ?_
        cases hf
        exact g_zret F hr rfl hlk rfl rfl rfl d_Mo_isPart_40
      · rw [if_neg h] at hf
        refine g_iload_n F d_Mo_isPart_16 2 rfl ?_
        refine g_aload_n F d_Mo_isPart_17 0 rfl ?_
        refine g_get F (v := .ref (ad 11)) in_X13 0 rfl rfl 15 (by decide) mw_1121 rfl d_Mo_isPart_18 ?_
        refine g_iload_n F d_Mo_isPart_21 1 rfl ?_
        obtain ⟨k1, hf⟩ := g_chk hf
        refine g_iald F (f := (q_Mo_manyOf sMo)) 11 0 rfl rfl k1 d_Mo_isPart_22 ?_
        refine g_icmp_ge F (tgt := 39) d_Mo_isPart_23 (by decide) (fun h => ?_) (fun h => ?_)
        · rw [if_pos h] at hf
          refine g_iconst F (v := 0) d_Mo_isPart_39 (by decide) ?_
          cases hf
          exact g_zret F hr rfl hlk rfl rfl rfl d_Mo_isPart_40
        · rw [if_neg h] at hf
          refine g_iload_n F d_Mo_isPart_26 3 rfl ?_
          refine g_if_eq F (tgt := 35) d_Mo_isPart_27 (by decide) (fun h => ?_) (fun h => ?_)
          · rw [if_pos h] at hf
            refine g_iconst F (v := 1) d_Mo_isPart_35 (by decide) ?_
            refine g_goto F (tgt := 40) d_Mo_isPart_36 (by decide) ?_
            cases hf
            exact g_zret F hr rfl hlk rfl rfl rfl d_Mo_isPart_40
          · rw [if_neg h] at hf
            refine g_iload_n F d_Mo_isPart_30 3 rfl ?_
            refine g_iconst F (v := 1) d_Mo_isPart_31 (by decide) ?_
            refine g_icmp_ne F (tgt := 39) d_Mo_isPart_32 (by decide) (fun h => ?_) (fun h => ?_)
            · rw [if_neg h] at hf
              refine g_iconst F (v := 0) d_Mo_isPart_39 (by decide) ?_
              cases hf
              exact g_zret F hr rfl hlk rfl rfl rfl d_Mo_isPart_40
            · rw [if_pos h] at hf
              refine g_iconst F (v := 1) d_Mo_isPart_35 (by decide) ?_
              refine g_goto F (tgt := 40) d_Mo_isPart_36 (by decide) ?_
              cases hf
              exact g_zret F hr rfl hlk rfl rfl rfl d_Mo_isPart_40
set_option maxHeartbeats 4000000 in
set_option maxRecDepth 100000 in
theorem c_Mo_size (l : Launch) (D : va_G) (cA : Nat → ClassId) (z : gZ) (ad : Nat → Nat) (sMo : SMo) (a1 : Int32) (a2 : Int32) (a3 : Int32) {x : Int32} (hf : f_Mo_size a1 a2 a3 sMo = some x) (sz : Nat) : Met l y_Mo_size (.code y_Mo_size b_Mo_size 4 (some .int) :: lw_g) { frames := 1, cells := 0, slots := 0, locals := 23 } (gP D (gT cA) z [.ref (ad 0), .int a1, .int a2, .int a3] (Wo ad cA sMo) sz) (gQi D (gT cA) (va_A (Wo ad cA sMo) sz) x (Wo ad cA sMo)) 0 0 (va_A (Wo ad cA sMo) sz) := by
  refine g_met (by decide) (Nat.le_of_ble_eq_true rfl) rfl ?_
  intro p e s m args below meth c F hr hlk
  unfold f_Mo_size at hf
  refine g_aload_n F d_Mo_size_0 0 rfl ?_
  refine g_iload_n F d_Mo_size_1 1 rfl ?_
  refine g_iload_n F d_Mo_size_2 2 rfl ?_
  refine g_iload_n F d_Mo_size_3 3 rfl ?_
  obtain ⟨x1, hx1, hf⟩ := g_bind hf
  refine g_ci F (r0 := x1) (ws' := (Wo ad cA sMo)) (fun H locs ls hP hD hS hl => g_runV F (As := [.int a1, .int a2, .int a3]) (n := 3) mw_1392 rfl rfl ⟨by decide, by decide⟩ rfl (by exact Nat.le_of_ble_eq_true rfl) mw_1389 mw_1391 mw_65 mw_85 (by decide +kernel) d_Mo_size_4 hP hD hS hl (va_recv F.2.2.2.2.2.1 hP (ci := 9) rfl (q0 := 0) rfl) (c_Mo_isPart l D cA z ad sMo a1 a2 a3 hx1 H.size)) ?_
  refine g_if_ne F (tgt := 14) d_Mo_size_7 (by decide) (fun h => ?_) (fun h => ?_)
  · rw [if_neg h] at hf
    refine g_iload_n F d_Mo_size_14 3 rfl ?_
    refine g_if_ne F (tgt := 34) d_Mo_size_15 (by decide) (fun h => ?_) (fun h => ?_)
    · rw [if_neg h] at hf
      refine g_aload_n F d_Mo_size_34 0 rfl ?_
      refine g_get F (v := .ref (ad 15)) in_X13 0 rfl rfl 20 (by decide) mw_1126 rfl d_Mo_size_35 ?_
      refine g_aload_n F d_Mo_size_38 0 rfl ?_
      refine g_get F (v := .ref (ad 10)) in_X13 0 rfl rfl 14 (by decide) mw_1120 rfl d_Mo_size_39 ?_
      refine g_iload_n F d_Mo_size_42 1 rfl ?_
      obtain ⟨k1, hf⟩ := g_chk hf
      refine g_iald F (f := (q_Mo_attributes sMo)) 10 0 rfl rfl k1 d_Mo_size_43 ?_
      refine g_iload_n F d_Mo_size_44 2 rfl ?_
      refine g_iadd F d_Mo_size_45 ?_
      obtain ⟨k2, hf⟩ := g_chk hf
      refine g_iald F (f := (q_Mo_valueSize sMo)) 15 0 rfl rfl k2 d_Mo_size_46 ?_
      cases hf
      exact g_iret F hr hlk rfl rfl rfl d_Mo_size_47
    · rw [if_pos h] at hf
      refine g_aload_n F d_Mo_size_18 0 rfl ?_
      refine g_get F (v := .ref (ad 13)) in_X13 0 rfl rfl 18 (by decide) mw_1124 rfl d_Mo_size_19 ?_
      refine g_aload_n F d_Mo_size_22 0 rfl ?_
      refine g_get F (v := .ref (ad 10)) in_X13 0 rfl rfl 14 (by decide) mw_1120 rfl d_Mo_size_23 ?_
      refine g_iload_n F d_Mo_size_26 1 rfl ?_
      obtain ⟨k3, hf⟩ := g_chk hf
      refine g_iald F (f := (q_Mo_attributes sMo)) 10 0 rfl rfl k3 d_Mo_size_27 ?_
      refine g_iload_n F d_Mo_size_28 2 rfl ?_
      refine g_iadd F d_Mo_size_29 ?_
      obtain ⟨k4, hf⟩ := g_chk hf
      refine g_iald F (f := (q_Mo_nameSize sMo)) 13 0 rfl rfl k4 d_Mo_size_30 ?_
      refine g_goto F (tgt := 47) d_Mo_size_31 (by decide) ?_
      cases hf
      exact g_iret F hr hlk rfl rfl rfl d_Mo_size_47
  · rw [if_pos h] at hf
    refine g_iconst F (v := (-1)) d_Mo_size_10 (by decide) ?_
    refine g_goto F (tgt := 47) d_Mo_size_11 (by decide) ?_
    cases hf
    exact g_iret F hr hlk rfl rfl rfl d_Mo_size_47
set_option maxHeartbeats 4000000 in
set_option maxRecDepth 100000 in
theorem c_Mo_part (l : Launch) (D : va_G) (cA : Nat → ClassId) (z : gZ) (ad : Nat → Nat) (sMo : SMo) (a1 : Int32) (a2 : Int32) (a3 : Int32) (a4 : Int32) {x : Int32} (hf : f_Mo_part a1 a2 a3 a4 sMo = some x) (sz : Nat) : Met l y_Mo_part (.code y_Mo_part b_Mo_part 5 (some .int) :: lw_g) { frames := 2, cells := 0, slots := 0, locals := 46 } (gP D (gT cA) z [.ref (ad 0), .int a1, .int a2, .int a3, .int a4] (Wo ad cA sMo) sz) (gQi D (gT cA) (va_A (Wo ad cA sMo) sz) x (Wo ad cA sMo)) 0 0 (va_A (Wo ad cA sMo) sz) := by
  refine g_met (by decide) (Nat.le_of_ble_eq_true rfl) rfl ?_
  intro p e s m args below meth c F hr hlk
  unfold f_Mo_part at hf
  refine g_aload_n F d_Mo_part_0 0 rfl ?_
  refine g_iload_n F d_Mo_part_1 1 rfl ?_
  refine g_iload_n F d_Mo_part_2 2 rfl ?_
  refine g_iload_n F d_Mo_part_3 3 rfl ?_
  obtain ⟨x1, hx1, hf⟩ := g_bind hf
  refine g_ci F (r0 := x1) (ws' := (Wo ad cA sMo)) (fun H locs ls hP hD hS hl => g_runV F (As := [.int a1, .int a2, .int a3]) (n := 3) mw_1392 rfl rfl ⟨by decide, by decide⟩ rfl (by exact Nat.le_of_ble_eq_true rfl) mw_1389 mw_1391 mw_65 mw_85 (by decide +kernel) d_Mo_part_4 hP hD hS hl (va_recv F.2.2.2.2.2.1 hP (ci := 9) rfl (q0 := 0) rfl) (c_Mo_isPart l D cA z ad sMo a1 a2 a3 hx1 H.size)) ?_
  refine g_if_eq F (tgt := 27) d_Mo_part_7 (by decide) (fun h => ?_) (fun h => ?_)
  · rw [if_pos h] at hf
    refine g_iconst F (v := (-1)) d_Mo_part_27 (by decide) ?_
    cases hf
    exact g_iret F hr hlk rfl rfl rfl d_Mo_part_28
  · rw [if_neg h] at hf
    refine g_iload F d_Mo_part_10 4 rfl ?_
    refine g_if_lt F (tgt := 27) d_Mo_part_12 (by decide) (fun h => ?_) (fun h => ?_)
    · rw [if_pos h] at hf
      refine g_iconst F (v := (-1)) d_Mo_part_27 (by decide) ?_
      cases hf
      exact g_iret F hr hlk rfl rfl rfl d_Mo_part_28
    · rw [if_neg h] at hf
      refine g_iload F d_Mo_part_15 4 rfl ?_
      refine g_aload_n F d_Mo_part_17 0 rfl ?_
      refine g_iload_n F d_Mo_part_18 1 rfl ?_
      refine g_iload_n F d_Mo_part_19 2 rfl ?_
      refine g_iload_n F d_Mo_part_20 3 rfl ?_
      obtain ⟨x2, hx2, hf⟩ := g_bind hf
      refine g_ci F (r0 := x2) (ws' := (Wo ad cA sMo)) (fun H locs ls hP hD hS hl => g_runV F (As := [.int a1, .int a2, .int a3]) (n := 3) mw_1388 rfl rfl ⟨by decide, by decide⟩ rfl (by exact Nat.le_of_ble_eq_true rfl) mw_1397 mw_1386 mw_1387 mw_85 (by decide +kernel) d_Mo_part_21 hP hD hS hl (va_recv F.2.2.2.2.2.1 hP (ci := 9) rfl (q0 := 0) rfl) (c_Mo_size l D cA z ad sMo a1 a2 a3 hx2 H.size)) ?_
      refine g_icmp_lt F (tgt := 29) d_Mo_part_24 (by decide) (fun h => ?_) (fun h => ?_)
      · rw [if_pos h] at hf
        refine g_aload_n F d_Mo_part_29 0 rfl ?_
        refine g_get F (v := .ref (ad 17)) in_X13 0 rfl rfl 23 (by decide) mw_1129 rfl d_Mo_part_30 ?_
        refine g_iload_n F d_Mo_part_33 3 rfl ?_
        refine g_if_ne F (tgt := 53) d_Mo_part_34 (by decide) (fun h => ?_) (fun h => ?_)
        · rw [if_neg h] at hf
          refine g_aload_n F d_Mo_part_53 0 rfl ?_
          refine g_get F (v := .ref (ad 14)) in_X13 0 rfl rfl 19 (by decide) mw_1125 rfl d_Mo_part_54 ?_
          refine g_aload_n F d_Mo_part_57 0 rfl ?_
          refine g_get F (v := .ref (ad 10)) in_X13 0 rfl rfl 14 (by decide) mw_1120 rfl d_Mo_part_58 ?_
          refine g_iload_n F d_Mo_part_61 1 rfl ?_
          obtain ⟨k1, hf⟩ := g_chk hf
          refine g_iald F (f := (q_Mo_attributes sMo)) 10 0 rfl rfl k1 d_Mo_part_62 ?_
          refine g_iload_n F d_Mo_part_63 2 rfl ?_
          refine g_iadd F d_Mo_part_64 ?_
          obtain ⟨k2, hf⟩ := g_chk hf
          refine g_iald F (f := (q_Mo_valueAt sMo)) 14 0 rfl rfl k2 d_Mo_part_65 ?_
          refine g_iload F d_Mo_part_66 4 rfl ?_
          refine g_iadd F d_Mo_part_68 ?_
          obtain ⟨k3, hf⟩ := g_chk hf
          refine g_iald F (f := (q_Mo_row sMo)) 17 0 rfl rfl k3 d_Mo_part_69 ?_
          cases hf
          exact g_iret F hr hlk rfl rfl rfl d_Mo_part_70
        · rw [if_pos h] at hf
          refine g_aload_n F d_Mo_part_37 0 rfl ?_
          refine g_get F (v := .ref (ad 12)) in_X13 0 rfl rfl 17 (by decide) mw_1123 rfl d_Mo_part_38 ?_
          refine g_aload_n F d_Mo_part_41 0 rfl ?_
          refine g_get F (v := .ref (ad 10)) in_X13 0 rfl rfl 14 (by decide) mw_1120 rfl d_Mo_part_42 ?_
          refine g_iload_n F d_Mo_part_45 1 rfl ?_
          obtain ⟨k4, hf⟩ := g_chk hf
          refine g_iald F (f := (q_Mo_attributes sMo)) 10 0 rfl rfl k4 d_Mo_part_46 ?_
          refine g_iload_n F d_Mo_part_47 2 rfl ?_
          refine g_iadd F d_Mo_part_48 ?_
          obtain ⟨k5, hf⟩ := g_chk hf
          refine g_iald F (f := (q_Mo_nameAt sMo)) 12 0 rfl rfl k5 d_Mo_part_49 ?_
          refine g_goto F (tgt := 66) d_Mo_part_50 (by decide) ?_
          refine g_iload F d_Mo_part_66 4 rfl ?_
          refine g_iadd F d_Mo_part_68 ?_
          obtain ⟨k6, hf⟩ := g_chk hf
          refine g_iald F (f := (q_Mo_row sMo)) 17 0 rfl rfl k6 d_Mo_part_69 ?_
          cases hf
          exact g_iret F hr hlk rfl rfl rfl d_Mo_part_70
      · rw [if_neg h] at hf
        refine g_iconst F (v := (-1)) d_Mo_part_27 (by decide) ?_
        cases hf
        exact g_iret F hr hlk rfl rfl rfl d_Mo_part_28
set_option maxHeartbeats 4000000 in
set_option maxRecDepth 100000 in
theorem c_Mo_faults (l : Launch) (D : va_G) (cA : Nat → ClassId) (z : gZ) (ad : Nat → Nat) (sMo : SMo) {x : Int32} (hf : f_Mo_faults sMo = x) (sz : Nat) : Met l y_Mo_faults (.code y_Mo_faults b_Mo_faults 1 (some .int) :: lw_g) { frames := 0, cells := 0, slots := 0, locals := 0 } (gP D (gT cA) z [.ref (ad 0)] (Wo ad cA sMo) sz) (gQi D (gT cA) (va_A (Wo ad cA sMo) sz) x (Wo ad cA sMo)) 0 0 (va_A (Wo ad cA sMo) sz) := by
  refine g_met (by decide) (Nat.le_of_ble_eq_true rfl) rfl ?_
  intro p e s m args below meth c F hr hlk
  unfold f_Mo_faults at hf
  refine g_aload_n F d_Mo_faults_0 0 rfl ?_
  refine g_get F (v := .int (q_Mo_faultCount sMo)) in_X13 0 rfl rfl 26 (by decide) mw_1132 rfl d_Mo_faults_1 ?_
  subst hf
  exact g_iret F hr hlk rfl rfl rfl d_Mo_faults_4
set_option maxHeartbeats 4000000 in
set_option maxRecDepth 100000 in
theorem c_Mo_fault (l : Launch) (D : va_G) (cA : Nat → ClassId) (z : gZ) (ad : Nat → Nat) (sMo : SMo) (a1 : Int32) (a2 : Int32) {x : Int32} (hf : f_Mo_fault a1 a2 sMo = some x) (sz : Nat) : Met l y_Mo_fault (.code y_Mo_fault b_Mo_fault 3 (some .int) :: lw_g) { frames := 0, cells := 0, slots := 0, locals := 0 } (gP D (gT cA) z [.ref (ad 0), .int a1, .int a2] (Wo ad cA sMo) sz) (gQi D (gT cA) (va_A (Wo ad cA sMo) sz) x (Wo ad cA sMo)) 0 0 (va_A (Wo ad cA sMo) sz) := by
  refine g_met (by decide) (Nat.le_of_ble_eq_true rfl) rfl ?_
  intro p e s m args below meth c F hr hlk
  unfold f_Mo_fault at hf
  refine g_iload_n F d_Mo_fault_0 1 rfl ?_
  refine g_if_lt F (tgt := 21) d_Mo_fault_1 (by decide) (fun h => ?_) (fun h => ?_)
  · rw [if_pos h] at hf
    refine g_iconst F (v := (-1)) d_Mo_fault_21 (by decide) ?_
    refine g_goto F (tgt := 44) d_Mo_fault_22 (by decide) ?_
    cases hf
    exact g_iret F hr hlk rfl rfl rfl d_Mo_fault_44
  · rw [if_neg h] at hf
    refine g_iload_n F d_Mo_fault_4 1 rfl ?_
    refine g_aload_n F d_Mo_fault_5 0 rfl ?_
    refine g_get F (v := .int (q_Mo_faultCount sMo)) in_X13 0 rfl rfl 26 (by decide) mw_1132 rfl d_Mo_fault_6 ?_
    refine g_icmp_ge F (tgt := 21) d_Mo_fault_9 (by decide) (fun h => ?_) (fun h => ?_)
    · rw [if_pos h] at hf
      refine g_iconst F (v := (-1)) d_Mo_fault_21 (by decide) ?_
      refine g_goto F (tgt := 44) d_Mo_fault_22 (by decide) ?_
      cases hf
      exact g_iret F hr hlk rfl rfl rfl d_Mo_fault_44
    · rw [if_neg h] at hf
      refine g_iload_n F d_Mo_fault_12 2 rfl ?_
      refine g_if_lt F (tgt := 21) d_Mo_fault_13 (by decide) (fun h => ?_) (fun h => ?_)
      · rw [if_pos h] at hf
        refine g_iconst F (v := (-1)) d_Mo_fault_21 (by decide) ?_
        refine g_goto F (tgt := 44) d_Mo_fault_22 (by decide) ?_
        cases hf
        exact g_iret F hr hlk rfl rfl rfl d_Mo_fault_44
      · rw [if_neg h] at hf
        refine g_iload_n F d_Mo_fault_16 2 rfl ?_
        refine g_iconst F (v := 1) d_Mo_fault_17 (by decide) ?_
        refine g_icmp_le F (tgt := 25) d_Mo_fault_18 (by decide) (fun h => ?_) (fun h => ?_)
        · rw [if_pos h] at hf
          refine g_iload_n F d_Mo_fault_25 2 rfl ?_
          refine g_if_ne F (tgt := 38) d_Mo_fault_26 (by decide) (fun h => ?_) (fun h => ?_)
          · rw [if_neg h] at hf
            refine g_aload_n F d_Mo_fault_38 0 rfl ?_
            refine g_get F (v := .ref (ad 19)) in_X13 0 rfl rfl 28 (by decide) mw_1134 rfl d_Mo_fault_39 ?_
            refine g_iload_n F d_Mo_fault_42 1 rfl ?_
            obtain ⟨k1, hf⟩ := g_chk hf
            refine g_iald F (f := (q_Mo_places sMo)) 19 0 rfl rfl k1 d_Mo_fault_43 ?_
            cases hf
            exact g_iret F hr hlk rfl rfl rfl d_Mo_fault_44
          · rw [if_pos h] at hf
            refine g_aload_n F d_Mo_fault_29 0 rfl ?_
            refine g_get F (v := .ref (ad 18)) in_X13 0 rfl rfl 27 (by decide) mw_1133 rfl d_Mo_fault_30 ?_
            refine g_iload_n F d_Mo_fault_33 1 rfl ?_
            obtain ⟨k2, hf⟩ := g_chk hf
            refine g_iald F (f := (q_Mo_codes sMo)) 18 0 rfl rfl k2 d_Mo_fault_34 ?_
            refine g_goto F (tgt := 44) d_Mo_fault_35 (by decide) ?_
            cases hf
            exact g_iret F hr hlk rfl rfl rfl d_Mo_fault_44
        · rw [if_neg h] at hf
          refine g_iconst F (v := (-1)) d_Mo_fault_21 (by decide) ?_
          refine g_goto F (tgt := 44) d_Mo_fault_22 (by decide) ?_
          cases hf
          exact g_iret F hr hlk rfl rfl rfl d_Mo_fault_44
set_option maxHeartbeats 4000000 in
set_option maxRecDepth 100000 in
theorem c_Mo_put (l : Launch) (D : va_G) (cA : Nat → ClassId) (z : gZ) (ad : Nat → Nat) (sMo : SMo) (a1 : Int32) {x : SMo} (hf : f_Mo_put a1 sMo = some x) (sz : Nat) : Met l y_Mo_put (.code y_Mo_put b_Mo_put 2 none :: lw_g) { frames := 0, cells := 0, slots := 0, locals := 0 } (gP D (gT cA) z [.ref (ad 0), .int a1] (Wo ad cA sMo) sz) (gQv D (gT cA) (va_A (Wo ad cA sMo) sz) (Wo ad cA x)) 0 0 (va_A (Wo ad cA sMo) sz) := by
  refine g_met (by decide) (Nat.le_of_ble_eq_true rfl) rfl ?_
  intro p e s m args below meth c F hr hlk
  unfold f_Mo_put at hf
  refine g_aload_n F d_Mo_put_0 0 rfl ?_
  refine g_get F (v := .ref (ad 20)) in_X13 0 rfl rfl 30 (by decide) mw_1136 rfl d_Mo_put_1 ?_
  refine g_aload_n F d_Mo_put_4 0 rfl ?_
  refine g_get F (v := .int (q_Mo_outSize sMo)) in_X13 0 rfl rfl 29 (by decide) mw_1135 rfl d_Mo_put_5 ?_
  refine g_iload_n F d_Mo_put_8 1 rfl ?_
  refine g_i2b F d_Mo_put_9 ?_
  obtain ⟨k1, hf⟩ := g_chk hf
  refine g_bast F (f := (q_Mo_out sMo)) 20 1 rfl rfl k1 (ws' := (Wn ad cA (q_Mo_names sMo) (q_Mo_gives sMo) (q_Mo_turned sMo) (q_Mo_size sMo) (q_Mo_bytes sMo) (q_Mo_n sMo) (q_Mo_text sMo) (q_Mo_p sMo) (q_Mo_ended sMo) (q_Mo_tokens sMo) (q_Mo_kinds sMo) (q_Mo_firsts sMo) (q_Mo_sizes sMo) (q_Mo_marks sMo) (q_Mo_attributes sMo) (q_Mo_manyOf sMo) (q_Mo_attributeCount sMo) (q_Mo_nameAt sMo) (q_Mo_nameSize sMo) (q_Mo_valueAt sMo) (q_Mo_valueSize sMo) (q_Mo_goes sMo) (q_Mo_rowSize sMo) (q_Mo_row sMo) (q_Mo_textAt sMo) (q_Mo_textSize sMo) (q_Mo_faultCount sMo) (q_Mo_codes sMo) (q_Mo_places sMo) (q_Mo_outSize sMo) (upd (q_Mo_out sMo) ((q_Mo_outSize sMo) : Int32).toNatClampNeg (vp_nar .byte (a1 : Int32).toInt8.toInt32)) (q_Mo_which sMo))) rfl d_Mo_put_10 ?_
  refine g_aload_n F d_Mo_put_11 0 rfl ?_
  refine g_dup F d_Mo_put_12 rfl ?_
  refine g_get F (v := .int (q_Mo_outSize sMo)) in_X13 0 rfl rfl 29 (by decide) mw_1135 rfl d_Mo_put_13 ?_
  refine g_iconst F (v := 1) d_Mo_put_16 (by decide) ?_
  refine g_iadd F d_Mo_put_17 ?_
  refine g_put F in_X13 0 rfl rfl 29 (by decide) tyX13 tyX13_ok nmX13 mw_1135 rfl rfl rfl (Nat.le_of_ble_eq_true rfl) (ws' := (Wn ad cA (q_Mo_names sMo) (q_Mo_gives sMo) (q_Mo_turned sMo) (q_Mo_size sMo) (q_Mo_bytes sMo) (q_Mo_n sMo) (q_Mo_text sMo) (q_Mo_p sMo) (q_Mo_ended sMo) (q_Mo_tokens sMo) (q_Mo_kinds sMo) (q_Mo_firsts sMo) (q_Mo_sizes sMo) (q_Mo_marks sMo) (q_Mo_attributes sMo) (q_Mo_manyOf sMo) (q_Mo_attributeCount sMo) (q_Mo_nameAt sMo) (q_Mo_nameSize sMo) (q_Mo_valueAt sMo) (q_Mo_valueSize sMo) (q_Mo_goes sMo) (q_Mo_rowSize sMo) (q_Mo_row sMo) (q_Mo_textAt sMo) (q_Mo_textSize sMo) (q_Mo_faultCount sMo) (q_Mo_codes sMo) (q_Mo_places sMo) ((q_Mo_outSize sMo) + 1) (upd (q_Mo_out sMo) ((q_Mo_outSize sMo) : Int32).toNatClampNeg (vp_nar .byte (a1 : Int32).toInt8.toInt32)) (q_Mo_which sMo))) rfl d_Mo_put_18 ?_
  cases hf
  exact g_vret F hr hlk rfl rfl d_Mo_put_21
set_option maxHeartbeats 4000000 in
set_option maxRecDepth 100000 in
theorem c_Mo_putAll (l : Launch) (D : va_G) (cA : Nat → ClassId) (z : gZ) (ad : Nat → Nat) (sMo : SMo) (a1 : Int64) {x : SMo} (hf : f_Mo_putAll a1 sMo = some x) (sz : Nat) : Met l y_Mo_putAll (.code y_Mo_putAll b_Mo_putAll 5 none :: lw_g) { frames := 1, cells := 0, slots := 0, locals := 21 } (gP D (gT cA) z [.ref (ad 0), .long a1] (Wo ad cA sMo) sz) (gQv D (gT cA) (va_A (Wo ad cA sMo) sz) (Wo ad cA x)) 0 0 (va_A (Wo ad cA sMo) sz) := by
  refine g_met (by decide) (Nat.le_of_ble_eq_true rfl) rfl ?_
  intro p e s m args below meth c F hr hlk
  have blk2 : ∀ (n : Nat) (v1 : Int64) (v3 : Int64) (tMo : SMo), f_Mo_putAll_2 n v1 v3 tMo = some x → GW p l e { frames := 1, cells := 0, slots := 0, locals := 21 } s m args below meth c (gQv D (gT cA) (va_A (Wo ad cA sMo) sz) (Wo ad cA x)) D (va_A (Wo ad cA sMo) sz) 5 (Wo ad cA tMo) 2 [(0, .ref (ad 0)), (1, .long v1), (3, .long v3)] [] := by
    intro n
    induction n with
    | zero => intro _ _ _ hf; cases hf
    | succ n ih =>
      intro v1 v3 tMo hf
      rw [f_Mo_putAll_2] at hf
      refine g_lload_n F d_Mo_putAll_2 2 rfl ?_
      refine g_lconst F (v := 0) d_Mo_putAll_3 (by decide) ?_
      refine g_lcmp F d_Mo_putAll_4 ?_
      refine g_if_eq F (tgt := 26) d_Mo_putAll_5 (by decide) (fun h => ?_) (fun h => ?_)
      · rw [if_pos h] at hf
        cases hf
        exact g_vret F hr hlk rfl rfl d_Mo_putAll_26
      · rw [if_neg h] at hf
        refine g_aload_n F d_Mo_putAll_8 0 rfl ?_
        refine g_lload_n F d_Mo_putAll_9 2 rfl ?_
        refine g_ldc2 F (v := 255) mw_1292 d_Mo_putAll_10 ?_
        refine g_land F d_Mo_putAll_13 ?_
        refine g_l2i F d_Mo_putAll_14 ?_
        obtain ⟨x1, hx1, hf⟩ := g_bind hf
        refine g_cv F (ws' := (Wo ad cA x1)) (fun H locs ls hP hD hS hl => g_runV F (As := [.int (((v3 &&& 255) : Int64).toInt32)]) (n := 1) mw_1422 rfl rfl ⟨by decide, by decide⟩ rfl (by exact Nat.le_of_ble_eq_true rfl) mw_1419 mw_1421 mw_68 mw_85 (by decide +kernel) d_Mo_putAll_15 hP hD hS hl (va_recv F.2.2.2.2.2.1 hP (ci := 9) rfl (q0 := 0) rfl) (c_Mo_put l D cA z ad tMo (((v3 &&& 255) : Int64).toInt32) hx1 H.size)) ?_
        refine g_lload_n F d_Mo_putAll_18 2 rfl ?_
        refine g_bipush F (v := 8) d_Mo_putAll_19 (by decide) ?_
        refine g_lushr F d_Mo_putAll_21 ?_
        refine g_lstore_n F (L' := [(3, .long (((v3 : Int64).toUInt64 >>> ((8 : Int32).toInt64.toUInt64 &&& Int64.toUInt64 63)).toInt64)), (0, .ref (ad 0)), (1, .long v1)]) d_Mo_putAll_22 rfl (by decide) rfl ?_
        refine g_goto F (tgt := 2) d_Mo_putAll_23 (by decide) ?_
        refine g_loc [1, 2, 0] rfl ?_
        exact ih v1 (((v3 : Int64).toUInt64 >>> ((8 : Int32).toInt64.toUInt64 &&& Int64.toUInt64 63)).toInt64) x1 hf
  unfold f_Mo_putAll at hf
  refine g_lload_n F d_Mo_putAll_0 1 rfl ?_
  refine g_lstore_n F (L' := [(3, .long a1), (0, .ref (ad 0)), (1, .long a1)]) d_Mo_putAll_1 rfl (by decide) rfl ?_
  refine g_loc [1, 2, 0] rfl ?_
  exact blk2 FU a1 a1 sMo hf
set_option maxHeartbeats 4000000 in
set_option maxRecDepth 100000 in
theorem c_Mo_putNumber (l : Launch) (D : va_G) (cA : Nat → ClassId) (z : gZ) (ad : Nat → Nat) (sMo : SMo) (a1 : Int32) {x : SMo} (hf : f_Mo_putNumber a1 sMo = some x) (sz : Nat) : Met l y_Mo_putNumber (.code y_Mo_putNumber b_Mo_putNumber 3 none :: lw_g) { frames := 1, cells := 0, slots := 0, locals := 21 } (gP D (gT cA) z [.ref (ad 0), .int a1] (Wo ad cA sMo) sz) (gQv D (gT cA) (va_A (Wo ad cA sMo) sz) (Wo ad cA x)) 0 0 (va_A (Wo ad cA sMo) sz) := by
  refine g_met (by decide) (Nat.le_of_ble_eq_true rfl) rfl ?_
  intro p e s m args below meth c F hr hlk
  have blk18 : ∀ (n : Nat) (v1 : Int32) (v2 : Int32) (tMo : SMo), f_Mo_putNumber_18 n v1 v2 tMo = some x → GW p l e { frames := 1, cells := 0, slots := 0, locals := 21 } s m args below meth c (gQv D (gT cA) (va_A (Wo ad cA sMo) sz) (Wo ad cA x)) D (va_A (Wo ad cA sMo) sz) 3 (Wo ad cA tMo) 18 [(0, .ref (ad 0)), (1, .int v1), (2, .int v2)] [] := by
    intro n
    induction n with
    | zero => intro _ _ _ hf; cases hf
    | succ n ih =>
      intro v1 v2 tMo hf
      rw [f_Mo_putNumber_18] at hf
      refine g_iload_n F d_Mo_putNumber_18 2 rfl ?_
      refine g_if_le F (tgt := 43) d_Mo_putNumber_19 (by decide) (fun h => ?_) (fun h => ?_)
      · rw [if_pos h] at hf
        cases hf
        exact g_vret F hr hlk rfl rfl d_Mo_putNumber_43
      · rw [if_neg h] at hf
        refine g_aload_n F d_Mo_putNumber_22 0 rfl ?_
        refine g_bipush F (v := 48) d_Mo_putNumber_23 (by decide) ?_
        refine g_iload_n F d_Mo_putNumber_25 1 rfl ?_
        refine g_iload_n F d_Mo_putNumber_26 2 rfl ?_
        obtain ⟨k1, hf⟩ := g_chk hf
        refine g_idiv F d_Mo_putNumber_27 k1 ?_
        refine g_bipush F (v := 10) d_Mo_putNumber_28 (by decide) ?_
        refine g_irem F d_Mo_putNumber_30 (by decide) ?_
        refine g_iadd F d_Mo_putNumber_31 ?_
        obtain ⟨x1, hx1, hf⟩ := g_bind hf
        refine g_cv F (ws' := (Wo ad cA x1)) (fun H locs ls hP hD hS hl => g_runV F (As := [.int (48 + ((v1 / v2) - (v1 / v2) / 10 * 10))]) (n := 1) mw_1422 rfl rfl ⟨by decide, by decide⟩ rfl (by exact Nat.le_of_ble_eq_true rfl) mw_1419 mw_1421 mw_68 mw_85 (by decide +kernel) d_Mo_putNumber_32 hP hD hS hl (va_recv F.2.2.2.2.2.1 hP (ci := 9) rfl (q0 := 0) rfl) (c_Mo_put l D cA z ad tMo (48 + ((v1 / v2) - (v1 / v2) / 10 * 10)) hx1 H.size)) ?_
        refine g_iload_n F d_Mo_putNumber_35 2 rfl ?_
        refine g_bipush F (v := 10) d_Mo_putNumber_36 (by decide) ?_
        refine g_idiv F d_Mo_putNumber_38 (by decide) ?_
        refine g_istore_n F (L' := [(2, .int (v2 / 10)), (0, .ref (ad 0)), (1, .int v1)]) d_Mo_putNumber_39 rfl (by decide) rfl ?_
        refine g_goto F (tgt := 18) d_Mo_putNumber_40 (by decide) ?_
        refine g_loc [1, 2, 0] rfl ?_
        exact ih v1 (v2 / 10) x1 hf
  have blk2 : ∀ (n : Nat) (v1 : Int32) (v2 : Int32) (tMo : SMo), f_Mo_putNumber_2 n v1 v2 tMo = some x → GW p l e { frames := 1, cells := 0, slots := 0, locals := 21 } s m args below meth c (gQv D (gT cA) (va_A (Wo ad cA sMo) sz) (Wo ad cA x)) D (va_A (Wo ad cA sMo) sz) 3 (Wo ad cA tMo) 2 [(0, .ref (ad 0)), (1, .int v1), (2, .int v2)] [] := by
    intro n
    induction n with
    | zero => intro _ _ _ hf; cases hf
    | succ n ih =>
      intro v1 v2 tMo hf
      rw [f_Mo_putNumber_2] at hf
      refine g_iload_n F d_Mo_putNumber_2 1 rfl ?_
      refine g_iload_n F d_Mo_putNumber_3 2 rfl ?_
      obtain ⟨k2, hf⟩ := g_chk hf
      refine g_idiv F d_Mo_putNumber_4 k2 ?_
      refine g_bipush F (v := 9) d_Mo_putNumber_5 (by decide) ?_
      refine g_icmp_le F (tgt := 18) d_Mo_putNumber_7 (by decide) (fun h => ?_) (fun h => ?_)
      · rw [if_pos h] at hf
        exact blk18 FU v1 v2 tMo hf
      · rw [if_neg h] at hf
        refine g_bipush F (v := 10) d_Mo_putNumber_10 (by decide) ?_
        refine g_iload_n F d_Mo_putNumber_12 2 rfl ?_
        refine g_imul F d_Mo_putNumber_13 ?_
        refine g_istore_n F (L' := [(2, .int (10 * v2)), (0, .ref (ad 0)), (1, .int v1)]) d_Mo_putNumber_14 rfl (by decide) rfl ?_
        refine g_goto F (tgt := 2) d_Mo_putNumber_15 (by decide) ?_
        refine g_loc [1, 2, 0] rfl ?_
        exact ih v1 (10 * v2) tMo hf
  unfold f_Mo_putNumber at hf
  refine g_iconst F (v := 1) d_Mo_putNumber_0 (by decide) ?_
  refine g_istore_n F (L' := [(2, .int 1), (0, .ref (ad 0)), (1, .int a1)]) d_Mo_putNumber_1 rfl (by decide) rfl ?_
  refine g_loc [1, 2, 0] rfl ?_
  exact blk2 FU a1 1 sMo hf
set_option maxHeartbeats 4000000 in
set_option maxRecDepth 100000 in
theorem c_Mo_putCharacter (l : Launch) (D : va_G) (cA : Nat → ClassId) (z : gZ) (ad : Nat → Nat) (sMo : SMo) (a1 : Int32) (a2 : Int32) {x : SMo} (hf : f_Mo_putCharacter a1 a2 sMo = some x) (sz : Nat) : Met l y_Mo_putCharacter (.code y_Mo_putCharacter b_Mo_putCharacter 3 none :: lw_g) { frames := 2, cells := 0, slots := 0, locals := 45 } (gP D (gT cA) z [.ref (ad 0), .int a1, .int a2] (Wo ad cA sMo) sz) (gQv D (gT cA) (va_A (Wo ad cA sMo) sz) (Wo ad cA x)) 0 0 (va_A (Wo ad cA sMo) sz) := by
  refine g_met (by decide) (Nat.le_of_ble_eq_true rfl) rfl ?_
  intro p e s m args below meth c F hr hlk
  have blk56 : ∀ (v1 : Int32) (v2 : Int32) (tMo : SMo), f_Mo_putCharacter_56 v1 v2 tMo = some x → GW p l e { frames := 2, cells := 0, slots := 0, locals := 45 } s m args below meth c (gQv D (gT cA) (va_A (Wo ad cA sMo) sz) (Wo ad cA x)) D (va_A (Wo ad cA sMo) sz) 3 (Wo ad cA tMo) 56 [(0, .ref (ad 0)), (1, .int v1), (2, .int v2)] [] := by
    intro v1 v2 tMo hf
    unfold f_Mo_putCharacter_56 at hf
    refine g_iload_n F d_Mo_putCharacter_56 1 rfl ?_
    refine g_bipush F (v := 13) d_Mo_putCharacter_57 (by decide) ?_
    refine g_icmp_eq F (tgt := 69) d_Mo_putCharacter_59 (by decide) (fun h => ?_) (fun h => ?_)
    · rw [if_pos h] at hf
      refine g_aload_n F d_Mo_putCharacter_69 0 rfl ?_
      refine g_ldc2 F (v := 8998) mw_1425 d_Mo_putCharacter_70 ?_
      obtain ⟨x1, hx1, hf⟩ := g_bind hf
      refine g_cv F (ws' := (Wo ad cA x1)) (fun H locs ls hP hD hS hl => g_runV F (As := [.long 8998]) (n := 1) mw_1418 rfl rfl ⟨by decide, by decide⟩ rfl (by exact Nat.le_of_ble_eq_true rfl) mw_1415 mw_1417 mw_67 mw_85 (by decide +kernel) d_Mo_putCharacter_73 hP hD hS hl (va_recv F.2.2.2.2.2.1 hP (ci := 9) rfl (q0 := 0) rfl) (c_Mo_putAll l D cA z ad tMo 8998 hx1 H.size)) ?_
      refine g_aload_n F d_Mo_putCharacter_76 0 rfl ?_
      refine g_iload_n F d_Mo_putCharacter_77 1 rfl ?_
      obtain ⟨x2, hx2, hf⟩ := g_bind hf
      refine g_cv F (ws' := (Wo ad cA x2)) (fun H locs ls hP hD hS hl => g_runV F (As := [.int v1]) (n := 1) mw_1429 rfl rfl ⟨by decide, by decide⟩ rfl (by exact Nat.le_of_ble_eq_true rfl) mw_1426 mw_1428 mw_69 mw_85 (by decide +kernel) d_Mo_putCharacter_78 hP hD hS hl (va_recv F.2.2.2.2.2.1 hP (ci := 9) rfl (q0 := 0) rfl) (c_Mo_putNumber l D cA z ad x1 v1 hx2 H.size)) ?_
      refine g_aload_n F d_Mo_putCharacter_81 0 rfl ?_
      refine g_bipush F (v := 59) d_Mo_putCharacter_82 (by decide) ?_
      obtain ⟨x3, hx3, hf⟩ := g_bind hf
      refine g_cv F (ws' := (Wo ad cA x3)) (fun H locs ls hP hD hS hl => g_runV F (As := [.int 59]) (n := 1) mw_1422 rfl rfl ⟨by decide, by decide⟩ rfl (by exact Nat.le_of_ble_eq_true rfl) mw_1419 mw_1421 mw_68 mw_85 (by decide +kernel) d_Mo_putCharacter_84 hP hD hS hl (va_recv F.2.2.2.2.2.1 hP (ci := 9) rfl (q0 := 0) rfl) (c_Mo_put l D cA z ad x2 59 hx3 H.size)) ?_
      refine g_goto F (tgt := 95) d_Mo_putCharacter_87 (by decide) ?_
      cases hf
      exact g_vret F hr hlk rfl rfl d_Mo_putCharacter_95
    · rw [if_neg h] at hf
      refine g_iload_n F d_Mo_putCharacter_62 1 rfl ?_
      refine g_sipush F (v := 255) d_Mo_putCharacter_63 (by decide) ?_
      refine g_icmp_le F (tgt := 90) d_Mo_putCharacter_66 (by decide) (fun h => ?_) (fun h => ?_)
      · rw [if_pos h] at hf
        refine g_aload_n F d_Mo_putCharacter_90 0 rfl ?_
        refine g_iload_n F d_Mo_putCharacter_91 1 rfl ?_
        obtain ⟨x4, hx4, hf⟩ := g_bind hf
        refine g_cv F (ws' := (Wo ad cA x4)) (fun H locs ls hP hD hS hl => g_runV F (As := [.int v1]) (n := 1) mw_1422 rfl rfl ⟨by decide, by decide⟩ rfl (by exact Nat.le_of_ble_eq_true rfl) mw_1419 mw_1421 mw_68 mw_85 (by decide +kernel) d_Mo_putCharacter_92 hP hD hS hl (va_recv F.2.2.2.2.2.1 hP (ci := 9) rfl (q0 := 0) rfl) (c_Mo_put l D cA z ad tMo v1 hx4 H.size)) ?_
        cases hf
        exact g_vret F hr hlk rfl rfl d_Mo_putCharacter_95
      · rw [if_neg h] at hf
        refine g_aload_n F d_Mo_putCharacter_69 0 rfl ?_
        refine g_ldc2 F (v := 8998) mw_1425 d_Mo_putCharacter_70 ?_
        obtain ⟨x5, hx5, hf⟩ := g_bind hf
        refine g_cv F (ws' := (Wo ad cA x5)) (fun H locs ls hP hD hS hl => g_runV F (As := [.long 8998]) (n := 1) mw_1418 rfl rfl ⟨by decide, by decide⟩ rfl (by exact Nat.le_of_ble_eq_true rfl) mw_1415 mw_1417 mw_67 mw_85 (by decide +kernel) d_Mo_putCharacter_73 hP hD hS hl (va_recv F.2.2.2.2.2.1 hP (ci := 9) rfl (q0 := 0) rfl) (c_Mo_putAll l D cA z ad tMo 8998 hx5 H.size)) ?_
        refine g_aload_n F d_Mo_putCharacter_76 0 rfl ?_
        refine g_iload_n F d_Mo_putCharacter_77 1 rfl ?_
        obtain ⟨x6, hx6, hf⟩ := g_bind hf
        refine g_cv F (ws' := (Wo ad cA x6)) (fun H locs ls hP hD hS hl => g_runV F (As := [.int v1]) (n := 1) mw_1429 rfl rfl ⟨by decide, by decide⟩ rfl (by exact Nat.le_of_ble_eq_true rfl) mw_1426 mw_1428 mw_69 mw_85 (by decide +kernel) d_Mo_putCharacter_78 hP hD hS hl (va_recv F.2.2.2.2.2.1 hP (ci := 9) rfl (q0 := 0) rfl) (c_Mo_putNumber l D cA z ad x5 v1 hx6 H.size)) ?_
        refine g_aload_n F d_Mo_putCharacter_81 0 rfl ?_
        refine g_bipush F (v := 59) d_Mo_putCharacter_82 (by decide) ?_
        obtain ⟨x7, hx7, hf⟩ := g_bind hf
        refine g_cv F (ws' := (Wo ad cA x7)) (fun H locs ls hP hD hS hl => g_runV F (As := [.int 59]) (n := 1) mw_1422 rfl rfl ⟨by decide, by decide⟩ rfl (by exact Nat.le_of_ble_eq_true rfl) mw_1419 mw_1421 mw_68 mw_85 (by decide +kernel) d_Mo_putCharacter_84 hP hD hS hl (va_recv F.2.2.2.2.2.1 hP (ci := 9) rfl (q0 := 0) rfl) (c_Mo_put l D cA z ad x6 59 hx7 H.size)) ?_
        refine g_goto F (tgt := 95) d_Mo_putCharacter_87 (by decide) ?_
        cases hf
        exact g_vret F hr hlk rfl rfl d_Mo_putCharacter_95
  have blk36 : ∀ (v1 : Int32) (v2 : Int32) (tMo : SMo), f_Mo_putCharacter_36 v1 v2 tMo = some x → GW p l e { frames := 2, cells := 0, slots := 0, locals := 45 } s m args below meth c (gQv D (gT cA) (va_A (Wo ad cA sMo) sz) (Wo ad cA x)) D (va_A (Wo ad cA sMo) sz) 3 (Wo ad cA tMo) 36 [(0, .ref (ad 0)), (1, .int v1), (2, .int v2)] [] := by
    intro v1 v2 tMo hf
    unfold f_Mo_putCharacter_36 at hf
    refine g_iload_n F d_Mo_putCharacter_36 1 rfl ?_
    refine g_bipush F (v := 34) d_Mo_putCharacter_37 (by decide) ?_
    refine g_icmp_ne F (tgt := 56) d_Mo_putCharacter_39 (by decide) (fun h => ?_) (fun h => ?_)
    · rw [if_neg h] at hf
      exact blk56 v1 v2 tMo hf
    · rw [if_pos h] at hf
      refine g_iload_n F d_Mo_putCharacter_42 2 rfl ?_
      refine g_if_eq F (tgt := 56) d_Mo_putCharacter_43 (by decide) (fun h => ?_) (fun h => ?_)
      · rw [if_pos h] at hf
        exact blk56 v1 v2 tMo hf
      · rw [if_neg h] at hf
        refine g_aload_n F d_Mo_putCharacter_46 0 rfl ?_
        refine g_ldc2 F (v := 65371272212774) mw_1424 d_Mo_putCharacter_47 ?_
        obtain ⟨x8, hx8, hf⟩ := g_bind hf
        refine g_cv F (ws' := (Wo ad cA x8)) (fun H locs ls hP hD hS hl => g_runV F (As := [.long 65371272212774]) (n := 1) mw_1418 rfl rfl ⟨by decide, by decide⟩ rfl (by exact Nat.le_of_ble_eq_true rfl) mw_1415 mw_1417 mw_67 mw_85 (by decide +kernel) d_Mo_putCharacter_50 hP hD hS hl (va_recv F.2.2.2.2.2.1 hP (ci := 9) rfl (q0 := 0) rfl) (c_Mo_putAll l D cA z ad tMo 65371272212774 hx8 H.size)) ?_
        refine g_goto F (tgt := 95) d_Mo_putCharacter_53 (by decide) ?_
        cases hf
        exact g_vret F hr hlk rfl rfl d_Mo_putCharacter_95
  unfold f_Mo_putCharacter at hf
  refine g_iload_n F d_Mo_putCharacter_0 1 rfl ?_
  refine g_bipush F (v := 38) d_Mo_putCharacter_1 (by decide) ?_
  refine g_icmp_ne F (tgt := 16) d_Mo_putCharacter_3 (by decide) (fun h => ?_) (fun h => ?_)
  · rw [if_neg h] at hf
    refine g_iload_n F d_Mo_putCharacter_16 1 rfl ?_
    refine g_bipush F (v := 60) d_Mo_putCharacter_17 (by decide) ?_
    refine g_icmp_ne F (tgt := 36) d_Mo_putCharacter_19 (by decide) (fun h => ?_) (fun h => ?_)
    · rw [if_neg h] at hf
      exact blk36 a1 a2 sMo hf
    · rw [if_pos h] at hf
      refine g_iload_n F d_Mo_putCharacter_22 2 rfl ?_
      refine g_if_ne F (tgt := 36) d_Mo_putCharacter_23 (by decide) (fun h => ?_) (fun h => ?_)
      · rw [if_neg h] at hf
        exact blk36 a1 a2 sMo hf
      · rw [if_pos h] at hf
        refine g_aload_n F d_Mo_putCharacter_26 0 rfl ?_
        refine g_ldc2 F (v := 997485606) mw_1423 d_Mo_putCharacter_27 ?_
        obtain ⟨x9, hx9, hf⟩ := g_bind hf
        refine g_cv F (ws' := (Wo ad cA x9)) (fun H locs ls hP hD hS hl => g_runV F (As := [.long 997485606]) (n := 1) mw_1418 rfl rfl ⟨by decide, by decide⟩ rfl (by exact Nat.le_of_ble_eq_true rfl) mw_1415 mw_1417 mw_67 mw_85 (by decide +kernel) d_Mo_putCharacter_30 hP hD hS hl (va_recv F.2.2.2.2.2.1 hP (ci := 9) rfl (q0 := 0) rfl) (c_Mo_putAll l D cA z ad sMo 997485606 hx9 H.size)) ?_
        refine g_goto F (tgt := 95) d_Mo_putCharacter_33 (by decide) ?_
        cases hf
        exact g_vret F hr hlk rfl rfl d_Mo_putCharacter_95
  · rw [if_pos h] at hf
    refine g_aload_n F d_Mo_putCharacter_6 0 rfl ?_
    refine g_ldc2 F (v := 255289286950) mw_1414 d_Mo_putCharacter_7 ?_
    obtain ⟨x10, hx10, hf⟩ := g_bind hf
    refine g_cv F (ws' := (Wo ad cA x10)) (fun H locs ls hP hD hS hl => g_runV F (As := [.long 255289286950]) (n := 1) mw_1418 rfl rfl ⟨by decide, by decide⟩ rfl (by exact Nat.le_of_ble_eq_true rfl) mw_1415 mw_1417 mw_67 mw_85 (by decide +kernel) d_Mo_putCharacter_10 hP hD hS hl (va_recv F.2.2.2.2.2.1 hP (ci := 9) rfl (q0 := 0) rfl) (c_Mo_putAll l D cA z ad sMo 255289286950 hx10 H.size)) ?_
    refine g_goto F (tgt := 95) d_Mo_putCharacter_13 (by decide) ?_
    cases hf
    exact g_vret F hr hlk rfl rfl d_Mo_putCharacter_95
set_option maxHeartbeats 4000000 in
set_option maxRecDepth 100000 in
theorem c_Mo_putRow (l : Launch) (D : va_G) (cA : Nat → ClassId) (z : gZ) (ad : Nat → Nat) (sMo : SMo) (a1 : Int32) (a2 : Int32) {x : SMo} (hf : f_Mo_putRow a1 a2 sMo = some x) (sz : Nat) : Met l y_Mo_putRow (.code y_Mo_putRow b_Mo_putRow 4 none :: lw_g) { frames := 1, cells := 0, slots := 0, locals := 21 } (gP D (gT cA) z [.ref (ad 0), .int a1, .int a2] (Wo ad cA sMo) sz) (gQv D (gT cA) (va_A (Wo ad cA sMo) sz) (Wo ad cA x)) 0 0 (va_A (Wo ad cA sMo) sz) := by
  refine g_met (by decide) (Nat.le_of_ble_eq_true rfl) rfl ?_
  intro p e s m args below meth c F hr hlk
  have blk2 : ∀ (n : Nat) (v1 : Int32) (v2 : Int32) (v3 : Int32) (tMo : SMo), f_Mo_putRow_2 n v1 v2 v3 tMo = some x → GW p l e { frames := 1, cells := 0, slots := 0, locals := 21 } s m args below meth c (gQv D (gT cA) (va_A (Wo ad cA sMo) sz) (Wo ad cA x)) D (va_A (Wo ad cA sMo) sz) 4 (Wo ad cA tMo) 2 [(0, .ref (ad 0)), (1, .int v1), (2, .int v2), (3, .int v3)] [] := by
    intro n
    induction n with
    | zero => intro _ _ _ _ hf; cases hf
    | succ n ih =>
      intro v1 v2 v3 tMo hf
      rw [f_Mo_putRow_2] at hf
      refine g_iload_n F d_Mo_putRow_2 3 rfl ?_
      refine g_iload_n F d_Mo_putRow_3 2 rfl ?_
      refine g_icmp_ge F (tgt := 42) d_Mo_putRow_4 (by decide) (fun h => ?_) (fun h => ?_)
      · rw [if_pos h] at hf
        cases hf
        exact g_vret F hr hlk rfl rfl d_Mo_putRow_42
      · rw [if_neg h] at hf
        refine g_aload_n F d_Mo_putRow_7 0 rfl ?_
        refine g_aload_n F d_Mo_putRow_8 0 rfl ?_
        refine g_get F (v := .ref (ad 17)) in_X13 0 rfl rfl 23 (by decide) mw_1129 rfl d_Mo_putRow_9 ?_
        refine g_iload_n F d_Mo_putRow_12 1 rfl ?_
        refine g_iload_n F d_Mo_putRow_13 3 rfl ?_
        refine g_iadd F d_Mo_putRow_14 ?_
        obtain ⟨k1, hf⟩ := g_chk hf
        refine g_iald F (f := (q_Mo_row tMo)) 17 0 rfl rfl k1 d_Mo_putRow_15 ?_
        refine g_ldc F (v := 65533) mw_1268 d_Mo_putRow_16 ?_
        refine g_icmp_ne F (tgt := 25) d_Mo_putRow_18 (by decide) (fun h => ?_) (fun h => ?_)
        · rw [if_neg h] at hf
          refine g_aload_n F d_Mo_putRow_25 0 rfl ?_
          refine g_get F (v := .ref (ad 17)) in_X13 0 rfl rfl 23 (by decide) mw_1129 rfl d_Mo_putRow_26 ?_
          refine g_iload_n F d_Mo_putRow_29 1 rfl ?_
          refine g_iload_n F d_Mo_putRow_30 3 rfl ?_
          refine g_iadd F d_Mo_putRow_31 ?_
          obtain ⟨k2, hf⟩ := g_chk hf
          refine g_iald F (f := (q_Mo_row tMo)) 17 0 rfl rfl k2 d_Mo_putRow_32 ?_
          obtain ⟨x1, hx1, hf⟩ := g_bind hf
          refine g_cv F (ws' := (Wo ad cA x1)) (fun H locs ls hP hD hS hl => g_runV F (As := [.int ((q_Mo_row tMo) ((v1 + v3) : Int32).toNatClampNeg)]) (n := 1) mw_1422 rfl rfl ⟨by decide, by decide⟩ rfl (by exact Nat.le_of_ble_eq_true rfl) mw_1419 mw_1421 mw_68 mw_85 (by decide +kernel) d_Mo_putRow_33 hP hD hS hl (va_recv F.2.2.2.2.2.1 hP (ci := 9) rfl (q0 := 0) rfl) (c_Mo_put l D cA z ad tMo ((q_Mo_row tMo) ((v1 + v3) : Int32).toNatClampNeg) hx1 H.size)) ?_
          refine g_iinc F (j := 3) (v := (v3 + 1)) (L' := [(3, .int (v3 + 1)), (0, .ref (ad 0)), (1, .int v1), (2, .int v2)]) d_Mo_putRow_36 rfl rfl (by decide) rfl ?_
          refine g_goto F (tgt := 2) d_Mo_putRow_39 (by decide) ?_
          refine g_loc [1, 2, 3, 0] rfl ?_
          exact ih v1 v2 (v3 + 1) x1 hf
        · rw [if_pos h] at hf
          refine g_iconst F (v := 0) d_Mo_putRow_21 (by decide) ?_
          refine g_goto F (tgt := 33) d_Mo_putRow_22 (by decide) ?_
          obtain ⟨x2, hx2, hf⟩ := g_bind hf
          refine g_cv F (ws' := (Wo ad cA x2)) (fun H locs ls hP hD hS hl => g_runV F (As := [.int 0]) (n := 1) mw_1422 rfl rfl ⟨by decide, by decide⟩ rfl (by exact Nat.le_of_ble_eq_true rfl) mw_1419 mw_1421 mw_68 mw_85 (by decide +kernel) d_Mo_putRow_33 hP hD hS hl (va_recv F.2.2.2.2.2.1 hP (ci := 9) rfl (q0 := 0) rfl) (c_Mo_put l D cA z ad tMo 0 hx2 H.size)) ?_
          refine g_iinc F (j := 3) (v := (v3 + 1)) (L' := [(3, .int (v3 + 1)), (0, .ref (ad 0)), (1, .int v1), (2, .int v2)]) d_Mo_putRow_36 rfl rfl (by decide) rfl ?_
          refine g_goto F (tgt := 2) d_Mo_putRow_39 (by decide) ?_
          refine g_loc [1, 2, 3, 0] rfl ?_
          exact ih v1 v2 (v3 + 1) x2 hf
  unfold f_Mo_putRow at hf
  refine g_iconst F (v := 0) d_Mo_putRow_0 (by decide) ?_
  refine g_istore_n F (L' := [(3, .int 0), (0, .ref (ad 0)), (1, .int a1), (2, .int a2)]) d_Mo_putRow_1 rfl (by decide) rfl ?_
  refine g_loc [1, 2, 3, 0] rfl ?_
  exact blk2 FU a1 a2 0 sMo hf
set_option maxHeartbeats 4000000 in
set_option maxRecDepth 100000 in
theorem c_Mo_putTag (l : Launch) (D : va_G) (cA : Nat → ClassId) (z : gZ) (ad : Nat → Nat) (sMo : SMo) (a1 : Int32) {x : SMo} (hf : f_Mo_putTag a1 sMo = some x) (sz : Nat) : Met l y_Mo_putTag (.code y_Mo_putTag b_Mo_putTag 4 none :: lw_g) { frames := 3, cells := 0, slots := 0, locals := 67 } (gP D (gT cA) z [.ref (ad 0), .int a1] (Wo ad cA sMo) sz) (gQv D (gT cA) (va_A (Wo ad cA sMo) sz) (Wo ad cA x)) 0 0 (va_A (Wo ad cA sMo) sz) := by
  refine g_met (by decide) (Nat.le_of_ble_eq_true rfl) rfl ?_
  intro p e s m args below meth c F hr hlk
  have blk99 : ∀ (k46 : Int32 → Int32 → SMo → Option (SMo)), (∀ (v1 : Int32) (v2 : Int32) (tMo : SMo), k46 v1 v2 tMo = some x → GW p l e { frames := 3, cells := 0, slots := 0, locals := 67 } s m args below meth c (gQv D (gT cA) (va_A (Wo ad cA sMo) sz) (Wo ad cA x)) D (va_A (Wo ad cA sMo) sz) 4 (Wo ad cA tMo) 46 [(0, .ref (ad 0)), (1, .int v1), (2, .int v2)] []) → ∀ (n : Nat) (v1 : Int32) (v2 : Int32) (v3 : Int32) (tMo : SMo), f_Mo_putTag_99 k46 n v1 v2 v3 tMo = some x → GW p l e { frames := 3, cells := 0, slots := 0, locals := 67 } s m args below meth c (gQv D (gT cA) (va_A (Wo ad cA sMo) sz) (Wo ad cA x)) D (va_A (Wo ad cA sMo) sz) 4 (Wo ad cA tMo) 99 [(0, .ref (ad 0)), (1, .int v1), (2, .int v2), (3, .int v3)] [] := by
    intro k46 hk46
    intro n
    induction n with
    | zero => intro _ _ _ _ hf; cases hf
    | succ n ih =>
      intro v1 v2 v3 tMo hf
      rw [f_Mo_putTag_99] at hf
      refine g_iload_n F d_Mo_putTag_99 3 rfl ?_
      refine g_aload_n F d_Mo_putTag_100 0 rfl ?_
      refine g_get F (v := .ref (ad 15)) in_X13 0 rfl rfl 20 (by decide) mw_1126 rfl d_Mo_putTag_101 ?_
      refine g_iload_n F d_Mo_putTag_104 2 rfl ?_
      obtain ⟨k1, hf⟩ := g_chk hf
      refine g_iald F (f := (q_Mo_valueSize tMo)) 15 0 rfl rfl k1 d_Mo_putTag_105 ?_
      refine g_icmp_ge F (tgt := 133) d_Mo_putTag_106 (by decide) (fun h => ?_) (fun h => ?_)
      · rw [if_pos h] at hf
        refine g_aload_n F d_Mo_putTag_133 0 rfl ?_
        refine g_bipush F (v := 34) d_Mo_putTag_134 (by decide) ?_
        obtain ⟨x1, hx1, hf⟩ := g_bind hf
        refine g_cv F (ws' := (Wo ad cA x1)) (fun H locs ls hP hD hS hl => g_runV F (As := [.int 34]) (n := 1) mw_1422 rfl rfl ⟨by decide, by decide⟩ rfl (by exact Nat.le_of_ble_eq_true rfl) mw_1419 mw_1421 mw_68 mw_85 (by decide +kernel) d_Mo_putTag_136 hP hD hS hl (va_recv F.2.2.2.2.2.1 hP (ci := 9) rfl (q0 := 0) rfl) (c_Mo_put l D cA z ad tMo 34 hx1 H.size)) ?_
        refine g_iinc F (j := 2) (v := (v2 + 1)) (L' := [(2, .int (v2 + 1)), (0, .ref (ad 0)), (1, .int v1), (3, .int v3)]) d_Mo_putTag_139 rfl rfl (by decide) rfl ?_
        refine g_goto F (tgt := 46) d_Mo_putTag_142 (by decide) ?_
        refine g_loc [1, 2, 0] rfl ?_
        exact hk46 v1 (v2 + 1) x1 hf
      · rw [if_neg h] at hf
        refine g_aload_n F d_Mo_putTag_109 0 rfl ?_
        refine g_aload_n F d_Mo_putTag_110 0 rfl ?_
        refine g_get F (v := .ref (ad 17)) in_X13 0 rfl rfl 23 (by decide) mw_1129 rfl d_Mo_putTag_111 ?_
        refine g_aload_n F d_Mo_putTag_114 0 rfl ?_
        refine g_get F (v := .ref (ad 14)) in_X13 0 rfl rfl 19 (by decide) mw_1125 rfl d_Mo_putTag_115 ?_
        refine g_iload_n F d_Mo_putTag_118 2 rfl ?_
        obtain ⟨k2, hf⟩ := g_chk hf
        refine g_iald F (f := (q_Mo_valueAt tMo)) 14 0 rfl rfl k2 d_Mo_putTag_119 ?_
        refine g_iload_n F d_Mo_putTag_120 3 rfl ?_
        refine g_iadd F d_Mo_putTag_121 ?_
        obtain ⟨k3, hf⟩ := g_chk hf
        refine g_iald F (f := (q_Mo_row tMo)) 17 0 rfl rfl k3 d_Mo_putTag_122 ?_
        refine g_iconst F (v := 1) d_Mo_putTag_123 (by decide) ?_
        obtain ⟨x2, hx2, hf⟩ := g_bind hf
        refine g_cv F (ws' := (Wo ad cA x2)) (fun H locs ls hP hD hS hl => g_runV F (As := [.int ((q_Mo_row tMo) ((((q_Mo_valueAt tMo) (v2 : Int32).toNatClampNeg) + v3) : Int32).toNatClampNeg), .int 1]) (n := 2) mw_1413 rfl rfl ⟨by decide, by decide⟩ rfl (by exact Nat.le_of_ble_eq_true rfl) mw_1410 mw_1412 mw_66 mw_85 (by decide +kernel) d_Mo_putTag_124 hP hD hS hl (va_recv F.2.2.2.2.2.1 hP (ci := 9) rfl (q0 := 0) rfl) (c_Mo_putCharacter l D cA z ad tMo ((q_Mo_row tMo) ((((q_Mo_valueAt tMo) (v2 : Int32).toNatClampNeg) + v3) : Int32).toNatClampNeg) 1 hx2 H.size)) ?_
        refine g_iinc F (j := 3) (v := (v3 + 1)) (L' := [(3, .int (v3 + 1)), (0, .ref (ad 0)), (1, .int v1), (2, .int v2)]) d_Mo_putTag_127 rfl rfl (by decide) rfl ?_
        refine g_goto F (tgt := 99) d_Mo_putTag_130 (by decide) ?_
        refine g_loc [1, 2, 3, 0] rfl ?_
        exact ih v1 v2 (v3 + 1) x2 hf
  have blk46 : ∀ (n : Nat) (v1 : Int32) (v2 : Int32) (tMo : SMo), f_Mo_putTag_46 n v1 v2 tMo = some x → GW p l e { frames := 3, cells := 0, slots := 0, locals := 67 } s m args below meth c (gQv D (gT cA) (va_A (Wo ad cA sMo) sz) (Wo ad cA x)) D (va_A (Wo ad cA sMo) sz) 4 (Wo ad cA tMo) 46 [(0, .ref (ad 0)), (1, .int v1), (2, .int v2)] [] := by
    intro n
    induction n with
    | zero => intro _ _ _ hf; cases hf
    | succ n ih =>
      intro v1 v2 tMo hf
      rw [f_Mo_putTag_46] at hf
      refine g_iload_n F d_Mo_putTag_46 2 rfl ?_
      refine g_aload_n F d_Mo_putTag_47 0 rfl ?_
      refine g_get F (v := .ref (ad 10)) in_X13 0 rfl rfl 14 (by decide) mw_1120 rfl d_Mo_putTag_48 ?_
      refine g_iload_n F d_Mo_putTag_51 1 rfl ?_
      obtain ⟨k4, hf⟩ := g_chk hf
      refine g_iald F (f := (q_Mo_attributes tMo)) 10 0 rfl rfl k4 d_Mo_putTag_52 ?_
      refine g_aload_n F d_Mo_putTag_53 0 rfl ?_
      refine g_get F (v := .ref (ad 11)) in_X13 0 rfl rfl 15 (by decide) mw_1121 rfl d_Mo_putTag_54 ?_
      refine g_iload_n F d_Mo_putTag_57 1 rfl ?_
      obtain ⟨k5, hf⟩ := g_chk hf
      refine g_iald F (f := (q_Mo_manyOf tMo)) 11 0 rfl rfl k5 d_Mo_putTag_58 ?_
      refine g_iadd F d_Mo_putTag_59 ?_
      refine g_icmp_ge F (tgt := 145) d_Mo_putTag_60 (by decide) (fun h => ?_) (fun h => ?_)
      · rw [if_pos h] at hf
        refine g_aload_n F d_Mo_putTag_145 0 rfl ?_
        refine g_get F (v := .ref (ad 9)) in_X13 0 rfl rfl 13 (by decide) mw_1119 rfl d_Mo_putTag_146 ?_
        refine g_iload_n F d_Mo_putTag_149 1 rfl ?_
        obtain ⟨k6, hf⟩ := g_chk hf
        refine g_zald F (f := (q_Mo_marks tMo)) 9 3 rfl rfl k6 d_Mo_putTag_150 ?_
        refine g_if_eq F (tgt := 160) d_Mo_putTag_151 (by decide) (fun h => ?_) (fun h => ?_)
        · rw [if_pos h] at hf
          refine g_aload_n F d_Mo_putTag_160 0 rfl ?_
          refine g_bipush F (v := 62) d_Mo_putTag_161 (by decide) ?_
          obtain ⟨x3, hx3, hf⟩ := g_bind hf
          refine g_cv F (ws' := (Wo ad cA x3)) (fun H locs ls hP hD hS hl => g_runV F (As := [.int 62]) (n := 1) mw_1422 rfl rfl ⟨by decide, by decide⟩ rfl (by exact Nat.le_of_ble_eq_true rfl) mw_1419 mw_1421 mw_68 mw_85 (by decide +kernel) d_Mo_putTag_163 hP hD hS hl (va_recv F.2.2.2.2.2.1 hP (ci := 9) rfl (q0 := 0) rfl) (c_Mo_put l D cA z ad tMo 62 hx3 H.size)) ?_
          cases hf
          exact g_vret F hr hlk rfl rfl d_Mo_putTag_166
        · rw [if_neg h] at hf
          refine g_aload_n F d_Mo_putTag_154 0 rfl ?_
          refine g_bipush F (v := 47) d_Mo_putTag_155 (by decide) ?_
          obtain ⟨x4, hx4, hf⟩ := g_bind hf
          refine g_cv F (ws' := (Wo ad cA x4)) (fun H locs ls hP hD hS hl => g_runV F (As := [.int 47]) (n := 1) mw_1422 rfl rfl ⟨by decide, by decide⟩ rfl (by exact Nat.le_of_ble_eq_true rfl) mw_1419 mw_1421 mw_68 mw_85 (by decide +kernel) d_Mo_putTag_157 hP hD hS hl (va_recv F.2.2.2.2.2.1 hP (ci := 9) rfl (q0 := 0) rfl) (c_Mo_put l D cA z ad tMo 47 hx4 H.size)) ?_
          refine g_aload_n F d_Mo_putTag_160 0 rfl ?_
          refine g_bipush F (v := 62) d_Mo_putTag_161 (by decide) ?_
          obtain ⟨x5, hx5, hf⟩ := g_bind hf
          refine g_cv F (ws' := (Wo ad cA x5)) (fun H locs ls hP hD hS hl => g_runV F (As := [.int 62]) (n := 1) mw_1422 rfl rfl ⟨by decide, by decide⟩ rfl (by exact Nat.le_of_ble_eq_true rfl) mw_1419 mw_1421 mw_68 mw_85 (by decide +kernel) d_Mo_putTag_163 hP hD hS hl (va_recv F.2.2.2.2.2.1 hP (ci := 9) rfl (q0 := 0) rfl) (c_Mo_put l D cA z ad x4 62 hx5 H.size)) ?_
          cases hf
          exact g_vret F hr hlk rfl rfl d_Mo_putTag_166
      · rw [if_neg h] at hf
        refine g_aload_n F d_Mo_putTag_63 0 rfl ?_
        refine g_bipush F (v := 32) d_Mo_putTag_64 (by decide) ?_
        obtain ⟨x6, hx6, hf⟩ := g_bind hf
        refine g_cv F (ws' := (Wo ad cA x6)) (fun H locs ls hP hD hS hl => g_runV F (As := [.int 32]) (n := 1) mw_1422 rfl rfl ⟨by decide, by decide⟩ rfl (by exact Nat.le_of_ble_eq_true rfl) mw_1419 mw_1421 mw_68 mw_85 (by decide +kernel) d_Mo_putTag_66 hP hD hS hl (va_recv F.2.2.2.2.2.1 hP (ci := 9) rfl (q0 := 0) rfl) (c_Mo_put l D cA z ad tMo 32 hx6 H.size)) ?_
        refine g_aload_n F d_Mo_putTag_69 0 rfl ?_
        refine g_aload_n F d_Mo_putTag_70 0 rfl ?_
        refine g_get F (v := .ref (ad 12)) in_X13 0 rfl rfl 17 (by decide) mw_1123 rfl d_Mo_putTag_71 ?_
        refine g_iload_n F d_Mo_putTag_74 2 rfl ?_
        obtain ⟨k7, hf⟩ := g_chk hf
        refine g_iald F (f := (q_Mo_nameAt x6)) 12 0 rfl rfl k7 d_Mo_putTag_75 ?_
        refine g_aload_n F d_Mo_putTag_76 0 rfl ?_
        refine g_get F (v := .ref (ad 13)) in_X13 0 rfl rfl 18 (by decide) mw_1124 rfl d_Mo_putTag_77 ?_
        refine g_iload_n F d_Mo_putTag_80 2 rfl ?_
        obtain ⟨k8, hf⟩ := g_chk hf
        refine g_iald F (f := (q_Mo_nameSize x6)) 13 0 rfl rfl k8 d_Mo_putTag_81 ?_
        obtain ⟨x7, hx7, hf⟩ := g_bind hf
        refine g_cv F (ws' := (Wo ad cA x7)) (fun H locs ls hP hD hS hl => g_runV F (As := [.int ((q_Mo_nameAt x6) (v2 : Int32).toNatClampNeg), .int ((q_Mo_nameSize x6) (v2 : Int32).toNatClampNeg)]) (n := 2) mw_1434 rfl rfl ⟨by decide, by decide⟩ rfl (by exact Nat.le_of_ble_eq_true rfl) mw_1431 mw_1433 mw_70 mw_85 (by decide +kernel) d_Mo_putTag_82 hP hD hS hl (va_recv F.2.2.2.2.2.1 hP (ci := 9) rfl (q0 := 0) rfl) (c_Mo_putRow l D cA z ad x6 ((q_Mo_nameAt x6) (v2 : Int32).toNatClampNeg) ((q_Mo_nameSize x6) (v2 : Int32).toNatClampNeg) hx7 H.size)) ?_
        refine g_aload_n F d_Mo_putTag_85 0 rfl ?_
        refine g_bipush F (v := 61) d_Mo_putTag_86 (by decide) ?_
        obtain ⟨x8, hx8, hf⟩ := g_bind hf
        refine g_cv F (ws' := (Wo ad cA x8)) (fun H locs ls hP hD hS hl => g_runV F (As := [.int 61]) (n := 1) mw_1422 rfl rfl ⟨by decide, by decide⟩ rfl (by exact Nat.le_of_ble_eq_true rfl) mw_1419 mw_1421 mw_68 mw_85 (by decide +kernel) d_Mo_putTag_88 hP hD hS hl (va_recv F.2.2.2.2.2.1 hP (ci := 9) rfl (q0 := 0) rfl) (c_Mo_put l D cA z ad x7 61 hx8 H.size)) ?_
        refine g_aload_n F d_Mo_putTag_91 0 rfl ?_
        refine g_bipush F (v := 34) d_Mo_putTag_92 (by decide) ?_
        obtain ⟨x9, hx9, hf⟩ := g_bind hf
        refine g_cv F (ws' := (Wo ad cA x9)) (fun H locs ls hP hD hS hl => g_runV F (As := [.int 34]) (n := 1) mw_1422 rfl rfl ⟨by decide, by decide⟩ rfl (by exact Nat.le_of_ble_eq_true rfl) mw_1419 mw_1421 mw_68 mw_85 (by decide +kernel) d_Mo_putTag_94 hP hD hS hl (va_recv F.2.2.2.2.2.1 hP (ci := 9) rfl (q0 := 0) rfl) (c_Mo_put l D cA z ad x8 34 hx9 H.size)) ?_
        refine g_iconst F (v := 0) d_Mo_putTag_97 (by decide) ?_
        refine g_istore_n F (L' := [(3, .int 0), (0, .ref (ad 0)), (1, .int v1), (2, .int v2)]) d_Mo_putTag_98 rfl (by decide) rfl ?_
        refine g_loc [1, 2, 3, 0] rfl ?_
        exact blk99 _ (fun v1 v2 tMo h => ih v1 v2 tMo h) FU v1 v2 0 x9 hf
  unfold f_Mo_putTag at hf
  refine g_aload_n F d_Mo_putTag_0 0 rfl ?_
  refine g_aload_n F d_Mo_putTag_1 0 rfl ?_
  refine g_get F (v := .ref (ad 6)) in_X13 0 rfl rfl 10 (by decide) mw_1116 rfl d_Mo_putTag_2 ?_
  refine g_iload_n F d_Mo_putTag_5 1 rfl ?_
  obtain ⟨k9, hf⟩ := g_chk hf
  refine g_iald F (f := (q_Mo_kinds sMo)) 6 0 rfl rfl k9 d_Mo_putTag_6 ?_
  refine g_iconst F (v := 2) d_Mo_putTag_7 (by decide) ?_
  refine g_icmp_ne F (tgt := 17) d_Mo_putTag_8 (by decide) (fun h => ?_) (fun h => ?_)
  · rw [if_neg h] at hf
    refine g_ldc2 F (v := 60) mw_1445 d_Mo_putTag_17 ?_
    obtain ⟨x10, hx10, hf⟩ := g_bind hf
    refine g_cv F (ws' := (Wo ad cA x10)) (fun H locs ls hP hD hS hl => g_runV F (As := [.long 60]) (n := 1) mw_1418 rfl rfl ⟨by decide, by decide⟩ rfl (by exact Nat.le_of_ble_eq_true rfl) mw_1415 mw_1417 mw_67 mw_85 (by decide +kernel) d_Mo_putTag_20 hP hD hS hl (va_recv F.2.2.2.2.2.1 hP (ci := 9) rfl (q0 := 0) rfl) (c_Mo_putAll l D cA z ad sMo 60 hx10 H.size)) ?_
    refine g_aload_n F d_Mo_putTag_23 0 rfl ?_
    refine g_aload_n F d_Mo_putTag_24 0 rfl ?_
    refine g_get F (v := .ref (ad 7)) in_X13 0 rfl rfl 11 (by decide) mw_1117 rfl d_Mo_putTag_25 ?_
    refine g_iload_n F d_Mo_putTag_28 1 rfl ?_
    obtain ⟨k10, hf⟩ := g_chk hf
    refine g_iald F (f := (q_Mo_firsts x10)) 7 0 rfl rfl k10 d_Mo_putTag_29 ?_
    refine g_aload_n F d_Mo_putTag_30 0 rfl ?_
    refine g_get F (v := .ref (ad 8)) in_X13 0 rfl rfl 12 (by decide) mw_1118 rfl d_Mo_putTag_31 ?_
    refine g_iload_n F d_Mo_putTag_34 1 rfl ?_
    obtain ⟨k11, hf⟩ := g_chk hf
    refine g_iald F (f := (q_Mo_sizes x10)) 8 0 rfl rfl k11 d_Mo_putTag_35 ?_
    obtain ⟨x11, hx11, hf⟩ := g_bind hf
    refine g_cv F (ws' := (Wo ad cA x11)) (fun H locs ls hP hD hS hl => g_runV F (As := [.int ((q_Mo_firsts x10) (a1 : Int32).toNatClampNeg), .int ((q_Mo_sizes x10) (a1 : Int32).toNatClampNeg)]) (n := 2) mw_1434 rfl rfl ⟨by decide, by decide⟩ rfl (by exact Nat.le_of_ble_eq_true rfl) mw_1431 mw_1433 mw_70 mw_85 (by decide +kernel) d_Mo_putTag_36 hP hD hS hl (va_recv F.2.2.2.2.2.1 hP (ci := 9) rfl (q0 := 0) rfl) (c_Mo_putRow l D cA z ad x10 ((q_Mo_firsts x10) (a1 : Int32).toNatClampNeg) ((q_Mo_sizes x10) (a1 : Int32).toNatClampNeg) hx11 H.size)) ?_
    refine g_aload_n F d_Mo_putTag_39 0 rfl ?_
    refine g_get F (v := .ref (ad 10)) in_X13 0 rfl rfl 14 (by decide) mw_1120 rfl d_Mo_putTag_40 ?_
    refine g_iload_n F d_Mo_putTag_43 1 rfl ?_
    obtain ⟨k12, hf⟩ := g_chk hf
    refine g_iald F (f := (q_Mo_attributes x11)) 10 0 rfl rfl k12 d_Mo_putTag_44 ?_
    refine g_istore_n F (L' := [(2, .int ((q_Mo_attributes x11) (a1 : Int32).toNatClampNeg)), (0, .ref (ad 0)), (1, .int a1)]) d_Mo_putTag_45 rfl (by decide) rfl ?_
    refine g_loc [1, 2, 0] rfl ?_
    exact blk46 FU a1 ((q_Mo_attributes x11) (a1 : Int32).toNatClampNeg) x11 hf
  · rw [if_pos h] at hf
    refine g_ldc2 F (v := 12092) mw_1444 d_Mo_putTag_11 ?_
    refine g_goto F (tgt := 20) d_Mo_putTag_14 (by decide) ?_
    obtain ⟨x12, hx12, hf⟩ := g_bind hf
    refine g_cv F (ws' := (Wo ad cA x12)) (fun H locs ls hP hD hS hl => g_runV F (As := [.long 12092]) (n := 1) mw_1418 rfl rfl ⟨by decide, by decide⟩ rfl (by exact Nat.le_of_ble_eq_true rfl) mw_1415 mw_1417 mw_67 mw_85 (by decide +kernel) d_Mo_putTag_20 hP hD hS hl (va_recv F.2.2.2.2.2.1 hP (ci := 9) rfl (q0 := 0) rfl) (c_Mo_putAll l D cA z ad sMo 12092 hx12 H.size)) ?_
    refine g_aload_n F d_Mo_putTag_23 0 rfl ?_
    refine g_aload_n F d_Mo_putTag_24 0 rfl ?_
    refine g_get F (v := .ref (ad 7)) in_X13 0 rfl rfl 11 (by decide) mw_1117 rfl d_Mo_putTag_25 ?_
    refine g_iload_n F d_Mo_putTag_28 1 rfl ?_
    obtain ⟨k13, hf⟩ := g_chk hf
    refine g_iald F (f := (q_Mo_firsts x12)) 7 0 rfl rfl k13 d_Mo_putTag_29 ?_
    refine g_aload_n F d_Mo_putTag_30 0 rfl ?_
    refine g_get F (v := .ref (ad 8)) in_X13 0 rfl rfl 12 (by decide) mw_1118 rfl d_Mo_putTag_31 ?_
    refine g_iload_n F d_Mo_putTag_34 1 rfl ?_
    obtain ⟨k14, hf⟩ := g_chk hf
    refine g_iald F (f := (q_Mo_sizes x12)) 8 0 rfl rfl k14 d_Mo_putTag_35 ?_
    obtain ⟨x13, hx13, hf⟩ := g_bind hf
    refine g_cv F (ws' := (Wo ad cA x13)) (fun H locs ls hP hD hS hl => g_runV F (As := [.int ((q_Mo_firsts x12) (a1 : Int32).toNatClampNeg), .int ((q_Mo_sizes x12) (a1 : Int32).toNatClampNeg)]) (n := 2) mw_1434 rfl rfl ⟨by decide, by decide⟩ rfl (by exact Nat.le_of_ble_eq_true rfl) mw_1431 mw_1433 mw_70 mw_85 (by decide +kernel) d_Mo_putTag_36 hP hD hS hl (va_recv F.2.2.2.2.2.1 hP (ci := 9) rfl (q0 := 0) rfl) (c_Mo_putRow l D cA z ad x12 ((q_Mo_firsts x12) (a1 : Int32).toNatClampNeg) ((q_Mo_sizes x12) (a1 : Int32).toNatClampNeg) hx13 H.size)) ?_
    refine g_aload_n F d_Mo_putTag_39 0 rfl ?_
    refine g_get F (v := .ref (ad 10)) in_X13 0 rfl rfl 14 (by decide) mw_1120 rfl d_Mo_putTag_40 ?_
    refine g_iload_n F d_Mo_putTag_43 1 rfl ?_
    obtain ⟨k15, hf⟩ := g_chk hf
    refine g_iald F (f := (q_Mo_attributes x13)) 10 0 rfl rfl k15 d_Mo_putTag_44 ?_
    refine g_istore_n F (L' := [(2, .int ((q_Mo_attributes x13) (a1 : Int32).toNatClampNeg)), (0, .ref (ad 0)), (1, .int a1)]) d_Mo_putTag_45 rfl (by decide) rfl ?_
    refine g_loc [1, 2, 0] rfl ?_
    exact blk46 FU a1 ((q_Mo_attributes x13) (a1 : Int32).toNatClampNeg) x13 hf
