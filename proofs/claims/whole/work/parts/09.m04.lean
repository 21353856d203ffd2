set_option maxHeartbeats 4000000 in
set_option maxRecDepth 100000 in
theorem c_Mo_comment (l : Launch) (D : va_G) (cA : Nat → ClassId) (z : gZ) (ad : Nat → Nat) (sMo : SMo) {x : SMo} (hf : f_Mo_comment sMo = some x) (sz : Nat) : Met l y_Mo_comment (.code y_Mo_comment b_Mo_comment 9 none :: lw_g) { frames := 2, cells := 0, slots := 0, locals := 45 } (gP D (gT cA) z [.ref (ad 0)] (Wo ad cA sMo) sz) (gQv D (gT cA) (va_A (Wo ad cA sMo) sz) (Wo ad cA x)) 0 0 (va_A (Wo ad cA sMo) sz) := by
  refine g_met (by decide) (Nat.le_of_ble_eq_true rfl) rfl ?_
  intro p e s m args below meth c F hr hlk
  have blk462 : ∀ (k348 : Int32 → Int32 → Int32 → Int32 → Int32 → Int32 → SMo → Option (SMo)), (∀ (v1 : Int32) (v2 : Int32) (v3 : Int32) (v4 : Int32) (v5 : Int32) (v6 : Int32) (tMo : SMo), k348 v1 v2 v3 v4 v5 v6 tMo = some x → GW p l e { frames := 2, cells := 0, slots := 0, locals := 45 } s m args below meth c (gQv D (gT cA) (va_A (Wo ad cA sMo) sz) (Wo ad cA x)) D (va_A (Wo ad cA sMo) sz) 9 (Wo ad cA tMo) 348 [(0, .ref (ad 0)), (1, .int v1), (2, .int v2), (3, .int v3), (4, .int v4), (5, .int v5), (6, .int v6)] []) → ∀ (v1 : Int32) (v2 : Int32) (v3 : Int32) (v4 : Int32) (v5 : Int32) (v6 : Int32) (v7 : Int32) (tMo : SMo), f_Mo_comment_462 k348 v1 v2 v3 v4 v5 v6 v7 tMo = some x → GW p l e { frames := 2, cells := 0, slots := 0, locals := 45 } s m args below meth c (gQv D (gT cA) (va_A (Wo ad cA sMo) sz) (Wo ad cA x)) D (va_A (Wo ad cA sMo) sz) 9 (Wo ad cA tMo) 462 [(0, .ref (ad 0)), (1, .int v1), (2, .int v2), (3, .int v3), (4, .int v4), (5, .int v5), (6, .int v6), (7, .int v7)] [] := by
    intro k348 hk348
    intro v1 v2 v3 v4 v5 v6 v7 tMo hf
    unfold f_Mo_comment_462 at hf
    refine g_iload F d_Mo_comment_462 6 rfl ?_
    refine g_iload F d_Mo_comment_464 4 rfl ?_
    refine g_icmp_ge F (tgt := 493) d_Mo_comment_466 (by decide) (fun h => ?_) (fun h => ?_)
    · rw [if_pos h] at hf
      refine g_iinc F (j := 6) (v := (v6 + 1)) (L' := [(6, .int (v6 + 1)), (0, .ref (ad 0)), (1, .int v1), (2, .int v2), (3, .int v3), (4, .int v4), (5, .int v5), (7, .int v7)]) d_Mo_comment_493 rfl rfl (by decide) rfl ?_
      refine g_goto F (tgt := 348) d_Mo_comment_496 (by decide) ?_
      refine g_loc [1, 2, 3, 4, 5, 6, 0] rfl ?_
      exact hk348 v1 v2 v3 v4 v5 (v6 + 1) tMo hf
    · rw [if_neg h] at hf
      refine g_aload_n F d_Mo_comment_469 0 rfl ?_
      refine g_aload_n F d_Mo_comment_470 0 rfl ?_
      refine g_iload F d_Mo_comment_471 6 rfl ?_
      obtain ⟨x1, hx1, hf⟩ := g_bind hf
      refine g_ci F (r0 := x1) (ws' := (Wo ad cA tMo)) (fun H locs ls hP hD hS hl => g_runV F (As := [.int v6]) (n := 1) mw_1228 rfl rfl ⟨by decide, by decide⟩ rfl (by exact Nat.le_of_ble_eq_true rfl) mw_1225 mw_1227 mw_34 mw_85 (by decide +kernel) d_Mo_comment_473 hP hD hS hl (va_recv F.2.2.2.2.2.1 hP (ci := 9) rfl (q0 := 0) rfl) (c_Mo_charAt l D cA z ad tMo v6 hx1 H.size)) ?_
      refine g_if_ne F (tgt := 484) d_Mo_comment_476 (by decide) (fun h => ?_) (fun h => ?_)
      · rw [if_neg h] at hf
        refine g_aload_n F d_Mo_comment_484 0 rfl ?_
        refine g_iload F d_Mo_comment_485 6 rfl ?_
        obtain ⟨x2, hx2, hf⟩ := g_bind hf
        refine g_ci F (r0 := x2) (ws' := (Wo ad cA tMo)) (fun H locs ls hP hD hS hl => g_runV F (As := [.int v6]) (n := 1) mw_1228 rfl rfl ⟨by decide, by decide⟩ rfl (by exact Nat.le_of_ble_eq_true rfl) mw_1225 mw_1227 mw_34 mw_85 (by decide +kernel) d_Mo_comment_487 hP hD hS hl (va_recv F.2.2.2.2.2.1 hP (ci := 9) rfl (q0 := 0) rfl) (c_Mo_charAt l D cA z ad tMo v6 hx2 H.size)) ?_
        obtain ⟨x3, hx3, hf⟩ := g_bind hf
        refine g_cv F (ws' := (Wo ad cA x3)) (fun H locs ls hP hD hS hl => g_runV F (As := [.int x2]) (n := 1) mw_1259 rfl rfl ⟨by decide, by decide⟩ rfl (by exact Nat.le_of_ble_eq_true rfl) mw_1256 mw_1258 mw_40 mw_85 (by decide +kernel) d_Mo_comment_490 hP hD hS hl (va_recv F.2.2.2.2.2.1 hP (ci := 9) rfl (q0 := 0) rfl) (c_Mo_keep l D cA z ad tMo x2 hx3 H.size)) ?_
        refine g_iinc F (j := 6) (v := (v6 + 1)) (L' := [(6, .int (v6 + 1)), (0, .ref (ad 0)), (1, .int v1), (2, .int v2), (3, .int v3), (4, .int v4), (5, .int v5), (7, .int v7)]) d_Mo_comment_493 rfl rfl (by decide) rfl ?_
        refine g_goto F (tgt := 348) d_Mo_comment_496 (by decide) ?_
        refine g_loc [1, 2, 3, 4, 5, 6, 0] rfl ?_
        exact hk348 v1 v2 v3 v4 v5 (v6 + 1) x3 hf
      · rw [if_pos h] at hf
        refine g_ldc F (v := 65533) mw_1268 d_Mo_comment_479 ?_
        refine g_goto F (tgt := 490) d_Mo_comment_481 (by decide) ?_
        obtain ⟨x4, hx4, hf⟩ := g_bind hf
        refine g_cv F (ws' := (Wo ad cA x4)) (fun H locs ls hP hD hS hl => g_runV F (As := [.int 65533]) (n := 1) mw_1259 rfl rfl ⟨by decide, by decide⟩ rfl (by exact Nat.le_of_ble_eq_true rfl) mw_1256 mw_1258 mw_40 mw_85 (by decide +kernel) d_Mo_comment_490 hP hD hS hl (va_recv F.2.2.2.2.2.1 hP (ci := 9) rfl (q0 := 0) rfl) (c_Mo_keep l D cA z ad tMo 65533 hx4 H.size)) ?_
        refine g_iinc F (j := 6) (v := (v6 + 1)) (L' := [(6, .int (v6 + 1)), (0, .ref (ad 0)), (1, .int v1), (2, .int v2), (3, .int v3), (4, .int v4), (5, .int v5), (7, .int v7)]) d_Mo_comment_493 rfl rfl (by decide) rfl ?_
        refine g_goto F (tgt := 348) d_Mo_comment_496 (by decide) ?_
        refine g_loc [1, 2, 3, 4, 5, 6, 0] rfl ?_
        exact hk348 v1 v2 v3 v4 v5 (v6 + 1) x4 hf
  have blk446 : ∀ (k348 : Int32 → Int32 → Int32 → Int32 → Int32 → Int32 → SMo → Option (SMo)), (∀ (v1 : Int32) (v2 : Int32) (v3 : Int32) (v4 : Int32) (v5 : Int32) (v6 : Int32) (tMo : SMo), k348 v1 v2 v3 v4 v5 v6 tMo = some x → GW p l e { frames := 2, cells := 0, slots := 0, locals := 45 } s m args below meth c (gQv D (gT cA) (va_A (Wo ad cA sMo) sz) (Wo ad cA x)) D (va_A (Wo ad cA sMo) sz) 9 (Wo ad cA tMo) 348 [(0, .ref (ad 0)), (1, .int v1), (2, .int v2), (3, .int v3), (4, .int v4), (5, .int v5), (6, .int v6)] []) → ∀ (v1 : Int32) (v2 : Int32) (v3 : Int32) (v4 : Int32) (v5 : Int32) (v6 : Int32) (v7 : Int32) (tMo : SMo), f_Mo_comment_446 k348 v1 v2 v3 v4 v5 v6 v7 tMo = some x → GW p l e { frames := 2, cells := 0, slots := 0, locals := 45 } s m args below meth c (gQv D (gT cA) (va_A (Wo ad cA sMo) sz) (Wo ad cA x)) D (va_A (Wo ad cA sMo) sz) 9 (Wo ad cA tMo) 446 [(0, .ref (ad 0)), (1, .int v1), (2, .int v2), (3, .int v3), (4, .int v4), (5, .int v5), (6, .int v6), (7, .int v7)] [] := by
    intro k348 hk348
    intro v1 v2 v3 v4 v5 v6 v7 tMo hf
    unfold f_Mo_comment_446 at hf
    refine g_aload_n F d_Mo_comment_446 0 rfl ?_
    refine g_iload F d_Mo_comment_447 6 rfl ?_
    obtain ⟨x5, hx5, hf⟩ := g_bind hf
    refine g_ci F (r0 := x5) (ws' := (Wo ad cA tMo)) (fun H locs ls hP hD hS hl => g_runV F (As := [.int v6]) (n := 1) mw_1228 rfl rfl ⟨by decide, by decide⟩ rfl (by exact Nat.le_of_ble_eq_true rfl) mw_1225 mw_1227 mw_34 mw_85 (by decide +kernel) d_Mo_comment_449 hP hD hS hl (va_recv F.2.2.2.2.2.1 hP (ci := 9) rfl (q0 := 0) rfl) (c_Mo_charAt l D cA z ad tMo v6 hx5 H.size)) ?_
    refine g_if_ne F (tgt := 462) d_Mo_comment_452 (by decide) (fun h => ?_) (fun h => ?_)
    · rw [if_neg h] at hf
      exact blk462 _ hk348 v1 v2 v3 v4 v5 v6 v7 tMo hf
    · rw [if_pos h] at hf
      refine g_aload_n F d_Mo_comment_455 0 rfl ?_
      refine g_iconst F (v := 1) d_Mo_comment_456 (by decide) ?_
      refine g_iload F d_Mo_comment_457 6 rfl ?_
      obtain ⟨x6, hx6, hf⟩ := g_bind hf
      refine g_cv F (ws' := (Wo ad cA x6)) (fun H locs ls hP hD hS hl => g_runV F (As := [.int 1, .int v6]) (n := 2) mw_1247 rfl rfl ⟨by decide, by decide⟩ rfl (by exact Nat.le_of_ble_eq_true rfl) mw_1244 mw_1246 mw_37 mw_85 (by decide +kernel) d_Mo_comment_459 hP hD hS hl (va_recv F.2.2.2.2.2.1 hP (ci := 9) rfl (q0 := 0) rfl) (c_Mo_wrong l D cA z ad tMo 1 v6 hx6 H.size)) ?_
      exact blk462 _ hk348 v1 v2 v3 v4 v5 v6 v7 x6 hf
  have blk419 : ∀ (k348 : Int32 → Int32 → Int32 → Int32 → Int32 → Int32 → SMo → Option (SMo)), (∀ (v1 : Int32) (v2 : Int32) (v3 : Int32) (v4 : Int32) (v5 : Int32) (v6 : Int32) (tMo : SMo), k348 v1 v2 v3 v4 v5 v6 tMo = some x → GW p l e { frames := 2, cells := 0, slots := 0, locals := 45 } s m args below meth c (gQv D (gT cA) (va_A (Wo ad cA sMo) sz) (Wo ad cA x)) D (va_A (Wo ad cA sMo) sz) 9 (Wo ad cA tMo) 348 [(0, .ref (ad 0)), (1, .int v1), (2, .int v2), (3, .int v3), (4, .int v4), (5, .int v5), (6, .int v6)] []) → ∀ (v1 : Int32) (v2 : Int32) (v3 : Int32) (v4 : Int32) (v5 : Int32) (v6 : Int32) (tMo : SMo), f_Mo_comment_419 k348 v1 v2 v3 v4 v5 v6 tMo = some x → GW p l e { frames := 2, cells := 0, slots := 0, locals := 45 } s m args below meth c (gQv D (gT cA) (va_A (Wo ad cA sMo) sz) (Wo ad cA x)) D (va_A (Wo ad cA sMo) sz) 9 (Wo ad cA tMo) 419 [(0, .ref (ad 0)), (1, .int v1), (2, .int v2), (3, .int v3), (4, .int v4), (5, .int v5), (6, .int v6)] [] := by
    intro k348 hk348
    intro v1 v2 v3 v4 v5 v6 tMo hf
    unfold f_Mo_comment_419 at hf
    refine g_iconst F (v := 0) d_Mo_comment_419 (by decide) ?_
    refine g_istore F (L' := [(7, .int 0), (0, .ref (ad 0)), (1, .int v1), (2, .int v2), (3, .int v3), (4, .int v4), (5, .int v5), (6, .int v6)]) d_Mo_comment_420 (by decide) rfl ?_
    refine g_iload F d_Mo_comment_422 0 rfl ?_
    refine g_if_eq F (tgt := 446) d_Mo_comment_424 (by decide) (fun _ => ?_) (fun h => absurd h (by decide))
    refine g_loc [1, 2, 3, 4, 5, 6, 7, 0] rfl ?_
    exact blk446 _ hk348 v1 v2 v3 v4 v5 v6 0 tMo hf
  have blk348 : ∀ (n : Nat) (v1 : Int32) (v2 : Int32) (v3 : Int32) (v4 : Int32) (v5 : Int32) (v6 : Int32) (tMo : SMo), f_Mo_comment_348 n v1 v2 v3 v4 v5 v6 tMo = some x → GW p l e { frames := 2, cells := 0, slots := 0, locals := 45 } s m args below meth c (gQv D (gT cA) (va_A (Wo ad cA sMo) sz) (Wo ad cA x)) D (va_A (Wo ad cA sMo) sz) 9 (Wo ad cA tMo) 348 [(0, .ref (ad 0)), (1, .int v1), (2, .int v2), (3, .int v3), (4, .int v4), (5, .int v5), (6, .int v6)] [] := by
    intro n
    induction n with
    | zero => intro _ _ _ _ _ _ _ hf; cases hf
    | succ n ih =>
      intro v1 v2 v3 v4 v5 v6 tMo hf
      rw [f_Mo_comment_348] at hf
      refine g_iload F d_Mo_comment_348 6 rfl ?_
      refine g_iload F d_Mo_comment_350 5 rfl ?_
      refine g_icmp_ge F (tgt := 499) d_Mo_comment_352 (by decide) (fun h => ?_) (fun h => ?_)
      · rw [if_pos h] at hf
        refine g_iload_n F d_Mo_comment_499 3 rfl ?_
        refine g_aload_n F d_Mo_comment_500 0 rfl ?_
        refine g_get F (v := .int (q_Mo_n tMo)) in_X13 0 rfl rfl 5 (by decide) mw_1111 rfl d_Mo_comment_501 ?_
        refine g_icmp_ne F (tgt := 525) d_Mo_comment_504 (by decide) (fun h => ?_) (fun h => ?_)
        · rw [if_neg h] at hf
          refine g_iload F d_Mo_comment_525 5 rfl ?_
          refine g_iload_n F d_Mo_comment_527 3 rfl ?_
          refine g_iconst F (v := 3) d_Mo_comment_528 (by decide) ?_
          refine g_iadd F d_Mo_comment_529 ?_
          refine g_icmp_ne F (tgt := 541) d_Mo_comment_530 (by decide) (fun h => ?_) (fun h => ?_)
          · rw [if_neg h] at hf
            refine g_aload_n F d_Mo_comment_541 0 rfl ?_
            refine g_iload F d_Mo_comment_542 5 rfl ?_
            refine g_iconst F (v := 1) d_Mo_comment_544 (by decide) ?_
            refine g_iadd F d_Mo_comment_545 ?_
            refine g_put F in_X13 0 rfl rfl 7 (by decide) tyX13 tyX13_ok nmX13 mw_1113 rfl rfl rfl (Nat.le_of_ble_eq_true rfl) (ws' := (Wn ad cA (q_Mo_names tMo) (q_Mo_gives tMo) (q_Mo_turned tMo) (q_Mo_size tMo) (q_Mo_bytes tMo) (q_Mo_n tMo) (q_Mo_text tMo) (v5 + 1) (q_Mo_ended tMo) (q_Mo_tokens tMo) (q_Mo_kinds tMo) (q_Mo_firsts tMo) (q_Mo_sizes tMo) (q_Mo_marks tMo) (q_Mo_attributes tMo) (q_Mo_manyOf tMo) (q_Mo_attributeCount tMo) (q_Mo_nameAt tMo) (q_Mo_nameSize tMo) (q_Mo_valueAt tMo) (q_Mo_valueSize tMo) (q_Mo_goes tMo) (q_Mo_rowSize tMo) (q_Mo_row tMo) (q_Mo_textAt tMo) (q_Mo_textSize tMo) (q_Mo_faultCount tMo) (q_Mo_codes tMo) (q_Mo_places tMo) (q_Mo_outSize tMo) (q_Mo_out tMo) (q_Mo_which tMo))) rfl d_Mo_comment_546 ?_
            refine g_aload_n F d_Mo_comment_549 0 rfl ?_
            obtain ⟨x7, hx7, hf⟩ := g_bind hf
            refine g_cv F (ws' := (Wo ad cA x7)) (fun H locs ls hP hD hS hl => g_runV F (As := []) (n := 0) mw_1316 rfl rfl ⟨by decide, by decide⟩ rfl (by exact Nat.le_of_ble_eq_true rfl) mw_1313 mw_1315 mw_50 mw_85 (by decide +kernel) d_Mo_comment_550 hP hD hS hl (va_recv F.2.2.2.2.2.1 hP (ci := 9) rfl (q0 := 0) rfl) (c_Mo_tell l D cA z ad (u_Mo_p tMo (v5 + 1)) hx7 H.size)) ?_
            cases hf
            exact g_vret F hr hlk rfl rfl d_Mo_comment_553
          · rw [if_pos h] at hf
            refine g_aload_n F d_Mo_comment_533 0 rfl ?_
            refine g_bipush F (v := 20) d_Mo_comment_534 (by decide) ?_
            refine g_iload F d_Mo_comment_536 5 rfl ?_
            obtain ⟨x8, hx8, hf⟩ := g_bind hf
            refine g_cv F (ws' := (Wo ad cA x8)) (fun H locs ls hP hD hS hl => g_runV F (As := [.int 20, .int v5]) (n := 2) mw_1247 rfl rfl ⟨by decide, by decide⟩ rfl (by exact Nat.le_of_ble_eq_true rfl) mw_1244 mw_1246 mw_37 mw_85 (by decide +kernel) d_Mo_comment_538 hP hD hS hl (va_recv F.2.2.2.2.2.1 hP (ci := 9) rfl (q0 := 0) rfl) (c_Mo_wrong l D cA z ad tMo 20 v5 hx8 H.size)) ?_
            refine g_aload_n F d_Mo_comment_541 0 rfl ?_
            refine g_iload F d_Mo_comment_542 5 rfl ?_
            refine g_iconst F (v := 1) d_Mo_comment_544 (by decide) ?_
            refine g_iadd F d_Mo_comment_545 ?_
            refine g_put F in_X13 0 rfl rfl 7 (by decide) tyX13 tyX13_ok nmX13 mw_1113 rfl rfl rfl (Nat.le_of_ble_eq_true rfl) (ws' := (Wn ad cA (q_Mo_names x8) (q_Mo_gives x8) (q_Mo_turned x8) (q_Mo_size x8) (q_Mo_bytes x8) (q_Mo_n x8) (q_Mo_text x8) (v5 + 1) (q_Mo_ended x8) (q_Mo_tokens x8) (q_Mo_kinds x8) (q_Mo_firsts x8) (q_Mo_sizes x8) (q_Mo_marks x8) (q_Mo_attributes x8) (q_Mo_manyOf x8) (q_Mo_attributeCount x8) (q_Mo_nameAt x8) (q_Mo_nameSize x8) (q_Mo_valueAt x8) (q_Mo_valueSize x8) (q_Mo_goes x8) (q_Mo_rowSize x8) (q_Mo_row x8) (q_Mo_textAt x8) (q_Mo_textSize x8) (q_Mo_faultCount x8) (q_Mo_codes x8) (q_Mo_places x8) (q_Mo_outSize x8) (q_Mo_out x8) (q_Mo_which x8))) rfl d_Mo_comment_546 ?_
            refine g_aload_n F d_Mo_comment_549 0 rfl ?_
            obtain ⟨x9, hx9, hf⟩ := g_bind hf
            refine g_cv F (ws' := (Wo ad cA x9)) (fun H locs ls hP hD hS hl => g_runV F (As := []) (n := 0) mw_1316 rfl rfl ⟨by decide, by decide⟩ rfl (by exact Nat.le_of_ble_eq_true rfl) mw_1313 mw_1315 mw_50 mw_85 (by decide +kernel) d_Mo_comment_550 hP hD hS hl (va_recv F.2.2.2.2.2.1 hP (ci := 9) rfl (q0 := 0) rfl) (c_Mo_tell l D cA z ad (u_Mo_p x8 (v5 + 1)) hx9 H.size)) ?_
            cases hf
            exact g_vret F hr hlk rfl rfl d_Mo_comment_553
        · rw [if_pos h] at hf
          refine g_aload_n F d_Mo_comment_507 0 rfl ?_
          refine g_bipush F (v := 18) d_Mo_comment_508 (by decide) ?_
          refine g_aload_n F d_Mo_comment_510 0 rfl ?_
          refine g_get F (v := .int (q_Mo_n tMo)) in_X13 0 rfl rfl 5 (by decide) mw_1111 rfl d_Mo_comment_511 ?_
          obtain ⟨x10, hx10, hf⟩ := g_bind hf
          refine g_cv F (ws' := (Wo ad cA x10)) (fun H locs ls hP hD hS hl => g_runV F (As := [.int 18, .int (q_Mo_n tMo)]) (n := 2) mw_1247 rfl rfl ⟨by decide, by decide⟩ rfl (by exact Nat.le_of_ble_eq_true rfl) mw_1244 mw_1246 mw_37 mw_85 (by decide +kernel) d_Mo_comment_514 hP hD hS hl (va_recv F.2.2.2.2.2.1 hP (ci := 9) rfl (q0 := 0) rfl) (c_Mo_wrong l D cA z ad tMo 18 (q_Mo_n tMo) hx10 H.size)) ?_
          refine g_aload_n F d_Mo_comment_517 0 rfl ?_
          refine g_iconst F (v := 1) d_Mo_comment_518 (by decide) ?_
          refine g_put F in_X13 0 rfl rfl 8 (by decide) tyX13 tyX13_ok nmX13 mw_1114 rfl rfl rfl (Nat.le_of_ble_eq_true rfl) (ws' := (Wn ad cA (q_Mo_names x10) (q_Mo_gives x10) (q_Mo_turned x10) (q_Mo_size x10) (q_Mo_bytes x10) (q_Mo_n x10) (q_Mo_text x10) (q_Mo_p x10) 1 (q_Mo_tokens x10) (q_Mo_kinds x10) (q_Mo_firsts x10) (q_Mo_sizes x10) (q_Mo_marks x10) (q_Mo_attributes x10) (q_Mo_manyOf x10) (q_Mo_attributeCount x10) (q_Mo_nameAt x10) (q_Mo_nameSize x10) (q_Mo_valueAt x10) (q_Mo_valueSize x10) (q_Mo_goes x10) (q_Mo_rowSize x10) (q_Mo_row x10) (q_Mo_textAt x10) (q_Mo_textSize x10) (q_Mo_faultCount x10) (q_Mo_codes x10) (q_Mo_places x10) (q_Mo_outSize x10) (q_Mo_out x10) (q_Mo_which x10))) rfl d_Mo_comment_519 ?_
          refine g_goto F (tgt := 541) d_Mo_comment_522 (by decide) ?_
          refine g_aload_n F d_Mo_comment_541 0 rfl ?_
          refine g_iload F d_Mo_comment_542 5 rfl ?_
          refine g_iconst F (v := 1) d_Mo_comment_544 (by decide) ?_
          refine g_iadd F d_Mo_comment_545 ?_
          refine g_put F in_X13 0 rfl rfl 7 (by decide) tyX13 tyX13_ok nmX13 mw_1113 rfl rfl rfl (Nat.le_of_ble_eq_true rfl) (ws' := (Wn ad cA (q_Mo_names x10) (q_Mo_gives x10) (q_Mo_turned x10) (q_Mo_size x10) (q_Mo_bytes x10) (q_Mo_n x10) (q_Mo_text x10) (v5 + 1) 1 (q_Mo_tokens x10) (q_Mo_kinds x10) (q_Mo_firsts x10) (q_Mo_sizes x10) (q_Mo_marks x10) (q_Mo_attributes x10) (q_Mo_manyOf x10) (q_Mo_attributeCount x10) (q_Mo_nameAt x10) (q_Mo_nameSize x10) (q_Mo_valueAt x10) (q_Mo_valueSize x10) (q_Mo_goes x10) (q_Mo_rowSize x10) (q_Mo_row x10) (q_Mo_textAt x10) (q_Mo_textSize x10) (q_Mo_faultCount x10) (q_Mo_codes x10) (q_Mo_places x10) (q_Mo_outSize x10) (q_Mo_out x10) (q_Mo_which x10))) rfl d_Mo_comment_546 ?_
          refine g_aload_n F d_Mo_comment_549 0 rfl ?_
          obtain ⟨x11, hx11, hf⟩ := g_bind hf
          refine g_cv F (ws' := (Wo ad cA x11)) (fun H locs ls hP hD hS hl => g_runV F (As := []) (n := 0) mw_1316 rfl rfl ⟨by decide, by decide⟩ rfl (by exact Nat.le_of_ble_eq_true rfl) mw_1313 mw_1315 mw_50 mw_85 (by decide +kernel) d_Mo_comment_550 hP hD hS hl (va_recv F.2.2.2.2.2.1 hP (ci := 9) rfl (q0 := 0) rfl) (c_Mo_tell l D cA z ad (u_Mo_p_ended x10 (v5 + 1) 1) hx11 H.size)) ?_
          cases hf
          exact g_vret F hr hlk rfl rfl d_Mo_comment_553
      · rw [if_neg h] at hf
        refine g_iload F d_Mo_comment_355 6 rfl ?_
        refine g_iconst F (v := 4) d_Mo_comment_357 (by decide) ?_
        refine g_isub F d_Mo_comment_358 ?_
        refine g_iload_n F d_Mo_comment_359 1 rfl ?_
        refine g_icmp_lt F (tgt := 419) d_Mo_comment_360 (by decide) (fun h => ?_) (fun h => ?_)
        · rw [if_pos h] at hf
          exact blk419 _ (fun v1 v2 v3 v4 v5 v6 tMo h => ih v1 v2 v3 v4 v5 v6 tMo h) v1 v2 v3 v4 v5 v6 tMo hf
        · rw [if_neg h] at hf
          refine g_aload_n F d_Mo_comment_363 0 rfl ?_
          refine g_iload F d_Mo_comment_364 6 rfl ?_
          refine g_iconst F (v := 4) d_Mo_comment_366 (by decide) ?_
          refine g_isub F d_Mo_comment_367 ?_
          obtain ⟨x12, hx12, hf⟩ := g_bind hf
          refine g_ci F (r0 := x12) (ws' := (Wo ad cA tMo)) (fun H locs ls hP hD hS hl => g_runV F (As := [.int (v6 - 4)]) (n := 1) mw_1228 rfl rfl ⟨by decide, by decide⟩ rfl (by exact Nat.le_of_ble_eq_true rfl) mw_1225 mw_1227 mw_34 mw_85 (by decide +kernel) d_Mo_comment_368 hP hD hS hl (va_recv F.2.2.2.2.2.1 hP (ci := 9) rfl (q0 := 0) rfl) (c_Mo_charAt l D cA z ad tMo (v6 - 4) hx12 H.size)) ?_
          refine g_bipush F (v := 60) d_Mo_comment_371 (by decide) ?_
          refine g_icmp_ne F (tgt := 419) d_Mo_comment_373 (by decide) (fun h => ?_) (fun h => ?_)
          · rw [if_neg h] at hf
            exact blk419 _ (fun v1 v2 v3 v4 v5 v6 tMo h => ih v1 v2 v3 v4 v5 v6 tMo h) v1 v2 v3 v4 v5 v6 tMo hf
          · rw [if_pos h] at hf
            refine g_aload_n F d_Mo_comment_376 0 rfl ?_
            refine g_iload F d_Mo_comment_377 6 rfl ?_
            refine g_iconst F (v := 3) d_Mo_comment_379 (by decide) ?_
            refine g_isub F d_Mo_comment_380 ?_
            obtain ⟨x13, hx13, hf⟩ := g_bind hf
            refine g_ci F (r0 := x13) (ws' := (Wo ad cA tMo)) (fun H locs ls hP hD hS hl => g_runV F (As := [.int (v6 - 3)]) (n := 1) mw_1228 rfl rfl ⟨by decide, by decide⟩ rfl (by exact Nat.le_of_ble_eq_true rfl) mw_1225 mw_1227 mw_34 mw_85 (by decide +kernel) d_Mo_comment_381 hP hD hS hl (va_recv F.2.2.2.2.2.1 hP (ci := 9) rfl (q0 := 0) rfl) (c_Mo_charAt l D cA z ad tMo (v6 - 3) hx13 H.size)) ?_
            refine g_bipush F (v := 33) d_Mo_comment_384 (by decide) ?_
            refine g_icmp_ne F (tgt := 419) d_Mo_comment_386 (by decide) (fun h => ?_) (fun h => ?_)
            · rw [if_neg h] at hf
              exact blk419 _ (fun v1 v2 v3 v4 v5 v6 tMo h => ih v1 v2 v3 v4 v5 v6 tMo h) v1 v2 v3 v4 v5 v6 tMo hf
            · rw [if_pos h] at hf
              refine g_aload_n F d_Mo_comment_389 0 rfl ?_
              refine g_iload F d_Mo_comment_390 6 rfl ?_
              refine g_iconst F (v := 2) d_Mo_comment_392 (by decide) ?_
              refine g_isub F d_Mo_comment_393 ?_
              obtain ⟨x14, hx14, hf⟩ := g_bind hf
              refine g_ci F (r0 := x14) (ws' := (Wo ad cA tMo)) (fun H locs ls hP hD hS hl => g_runV F (As := [.int (v6 - 2)]) (n := 1) mw_1228 rfl rfl ⟨by decide, by decide⟩ rfl (by exact Nat.le_of_ble_eq_true rfl) mw_1225 mw_1227 mw_34 mw_85 (by decide +kernel) d_Mo_comment_394 hP hD hS hl (va_recv F.2.2.2.2.2.1 hP (ci := 9) rfl (q0 := 0) rfl) (c_Mo_charAt l D cA z ad tMo (v6 - 2) hx14 H.size)) ?_
              refine g_bipush F (v := 45) d_Mo_comment_397 (by decide) ?_
              refine g_icmp_ne F (tgt := 419) d_Mo_comment_399 (by decide) (fun h => ?_) (fun h => ?_)
              · rw [if_neg h] at hf
                exact blk419 _ (fun v1 v2 v3 v4 v5 v6 tMo h => ih v1 v2 v3 v4 v5 v6 tMo h) v1 v2 v3 v4 v5 v6 tMo hf
              · rw [if_pos h] at hf
                refine g_aload_n F d_Mo_comment_402 0 rfl ?_
                refine g_iload F d_Mo_comment_403 6 rfl ?_
                refine g_iconst F (v := 1) d_Mo_comment_405 (by decide) ?_
                refine g_isub F d_Mo_comment_406 ?_
                obtain ⟨x15, hx15, hf⟩ := g_bind hf
                refine g_ci F (r0 := x15) (ws' := (Wo ad cA tMo)) (fun H locs ls hP hD hS hl => g_runV F (As := [.int (v6 - 1)]) (n := 1) mw_1228 rfl rfl ⟨by decide, by decide⟩ rfl (by exact Nat.le_of_ble_eq_true rfl) mw_1225 mw_1227 mw_34 mw_85 (by decide +kernel) d_Mo_comment_407 hP hD hS hl (va_recv F.2.2.2.2.2.1 hP (ci := 9) rfl (q0 := 0) rfl) (c_Mo_charAt l D cA z ad tMo (v6 - 1) hx15 H.size)) ?_
                refine g_bipush F (v := 45) d_Mo_comment_410 (by decide) ?_
                refine g_icmp_ne F (tgt := 419) d_Mo_comment_412 (by decide) (fun h => ?_) (fun h => ?_)
                · rw [if_neg h] at hf
                  exact blk419 _ (fun v1 v2 v3 v4 v5 v6 tMo h => ih v1 v2 v3 v4 v5 v6 tMo h) v1 v2 v3 v4 v5 v6 tMo hf
                · rw [if_pos h] at hf
                  refine g_iconst F (v := 1) d_Mo_comment_415 (by decide) ?_
                  refine g_goto F (tgt := 420) d_Mo_comment_416 (by decide) ?_
                  refine g_istore F (L' := [(7, .int 1), (0, .ref (ad 0)), (1, .int v1), (2, .int v2), (3, .int v3), (4, .int v4), (5, .int v5), (6, .int v6)]) d_Mo_comment_420 (by decide) rfl ?_
                  refine g_iload F d_Mo_comment_422 0 rfl ?_
                  refine g_if_eq F (tgt := 446) d_Mo_comment_424 (by decide) (fun h => absurd h (by decide)) (fun _ => ?_)
                  refine g_aload_n F d_Mo_comment_427 1 rfl ?_
                  refine g_iload F d_Mo_comment_428 7 rfl ?_
                  obtain ⟨x16, hx16, hf⟩ := g_bind hf
                  refine g_ci F (r0 := x16) (ws' := (Wo ad cA tMo)) (fun H locs ls hP hD hS hl => g_runV F (As := [.int v6]) (n := 1) mw_1228 rfl rfl ⟨by decide, by decide⟩ rfl (by exact Nat.le_of_ble_eq_true rfl) mw_1225 mw_1227 mw_34 mw_85 (by decide +kernel) d_Mo_comment_430 hP hD hS hl (va_recv F.2.2.2.2.2.1 hP (ci := 9) rfl (q0 := 0) rfl) (c_Mo_charAt l D cA z ad tMo v6 hx16 H.size)) ?_
                  refine g_bipush F (v := 62) d_Mo_comment_433 (by decide) ?_
                  refine g_icmp_eq F (tgt := 446) d_Mo_comment_435 (by decide) (fun h => ?_) (fun h => ?_)
                  · rw [if_pos h] at hf
                    refine g_loc [1, 2, 3, 4, 5, 6, 7, 0] rfl ?_
                    exact blk446 _ (fun v1 v2 v3 v4 v5 v6 tMo h => ih v1 v2 v3 v4 v5 v6 tMo h) v1 v2 v3 v4 v5 v6 1 tMo hf
                  · rw [if_neg h] at hf
                    refine g_aload_n F d_Mo_comment_438 1 rfl ?_
                    refine g_bipush F (v := 19) d_Mo_comment_439 (by decide) ?_
                    refine g_iload F d_Mo_comment_441 7 rfl ?_
                    obtain ⟨x17, hx17, hf⟩ := g_bind hf
                    refine g_cv F (ws' := (Wo ad cA x17)) (fun H locs ls hP hD hS hl => g_runV F (As := [.int 19, .int v6]) (n := 2) mw_1247 rfl rfl ⟨by decide, by decide⟩ rfl (by exact Nat.le_of_ble_eq_true rfl) mw_1244 mw_1246 mw_37 mw_85 (by decide +kernel) d_Mo_comment_443 hP hD hS hl (va_recv F.2.2.2.2.2.1 hP (ci := 9) rfl (q0 := 0) rfl) (c_Mo_wrong l D cA z ad tMo 19 v6 hx17 H.size)) ?_
                    refine g_loc [1, 2, 3, 4, 5, 6, 7, 0] rfl ?_
                    exact blk446 _ (fun v1 v2 v3 v4 v5 v6 tMo h => ih v1 v2 v3 v4 v5 v6 tMo h) v1 v2 v3 v4 v5 v6 1 x17 hf
  have blk263 : ∀ (v1 : Int32) (v2 : Int32) (v3 : Int32) (v4 : Int32) (v5 : Int32) (v6 : Int32) (tMo : SMo), f_Mo_comment_263 v1 v2 v3 v4 v5 v6 tMo = some x → GW p l e { frames := 2, cells := 0, slots := 0, locals := 45 } s m args below meth c (gQv D (gT cA) (va_A (Wo ad cA sMo) sz) (Wo ad cA x)) D (va_A (Wo ad cA sMo) sz) 9 (Wo ad cA tMo) 263 [(0, .ref (ad 0)), (1, .int v1), (2, .int v2), (3, .int v3), (4, .int v4), (5, .int v5), (6, .int v6)] [] := by
    intro v1 v2 v3 v4 v5 v6 tMo hf
    unfold f_Mo_comment_263 at hf
    refine g_iconst F (v := 0) d_Mo_comment_263 (by decide) ?_
    refine g_istore F (L' := [(7, .int 0), (0, .ref (ad 0)), (1, .int v1), (2, .int v2), (3, .int v3), (4, .int v4), (5, .int v5), (6, .int v6)]) d_Mo_comment_264 (by decide) rfl ?_
    refine g_aload_n F d_Mo_comment_266 1 rfl ?_
    refine g_get F (v := .int (q_Mo_n tMo)) in_X13 0 rfl rfl 5 (by decide) mw_1111 rfl d_Mo_comment_267 ?_
    refine g_iload_n F d_Mo_comment_270 2 rfl ?_
    refine g_isub F d_Mo_comment_271 ?_
    refine g_if_le F (tgt := 294) d_Mo_comment_272 (by decide) (fun h => ?_) (fun h => ?_)
    · rw [if_pos h] at hf
      refine g_iconst F (v := 0) d_Mo_comment_294 (by decide) ?_
      refine g_istore F (L' := [(8, .int 0), (7, .int 0), (0, .ref (ad 0)), (1, .int v1), (2, .int v2), (3, .int v3), (4, .int v4), (5, .int v5), (6, .int v6)]) d_Mo_comment_295 (by decide) rfl ?_
      refine g_iload F d_Mo_comment_297 8 rfl ?_
      refine g_if_eq F (tgt := 311) d_Mo_comment_299 (by decide) (fun h => ?_) (fun h => ?_)
      · rw [if_pos h] at hf
        refine g_iload F d_Mo_comment_311 1 rfl ?_
        refine g_if_eq F (tgt := 325) d_Mo_comment_313 (by decide) (fun _ => ?_) (fun h => absurd h (by decide))
        refine g_iload F d_Mo_comment_325 0 rfl ?_
        refine g_if_eq F (tgt := 339) d_Mo_comment_327 (by decide) (fun _ => ?_) (fun h => absurd h (by decide))
        refine g_aload_n F d_Mo_comment_339 2 rfl ?_
        refine g_get F (v := .int (q_Mo_n tMo)) in_X13 0 rfl rfl 5 (by decide) mw_1111 rfl d_Mo_comment_340 ?_
        refine g_istore F (L' := [(4, .int (q_Mo_n tMo)), (8, .int 0), (7, .int 0), (0, .ref (ad 0)), (1, .int v1), (2, .int v2), (3, .int v3), (5, .int v5), (6, .int v6)]) d_Mo_comment_343 (by decide) rfl ?_
        refine g_iload_n F d_Mo_comment_345 4 rfl ?_
        refine g_istore F (L' := [(6, .int v1), (4, .int (q_Mo_n tMo)), (8, .int 0), (7, .int 0), (0, .ref (ad 0)), (1, .int v1), (2, .int v2), (3, .int v3), (5, .int v5)]) d_Mo_comment_346 (by decide) rfl ?_
        refine g_loc [4, 5, 6, 7, 1, 8, 0] rfl ?_
        exact blk348 FU v1 v2 v3 (q_Mo_n tMo) v5 v1 tMo hf
      · rw [if_neg h] at hf
        refine g_aload_n F d_Mo_comment_302 2 rfl ?_
        refine g_get F (v := .int (q_Mo_n tMo)) in_X13 0 rfl rfl 5 (by decide) mw_1111 rfl d_Mo_comment_303 ?_
        refine g_iconst F (v := 3) d_Mo_comment_306 (by decide) ?_
        refine g_isub F d_Mo_comment_307 ?_
        refine g_goto F (tgt := 343) d_Mo_comment_308 (by decide) ?_
        refine g_istore F (L' := [(4, .int ((q_Mo_n tMo) - 3)), (8, .int 0), (7, .int 0), (0, .ref (ad 0)), (1, .int v1), (2, .int v2), (3, .int v3), (5, .int v5), (6, .int v6)]) d_Mo_comment_343 (by decide) rfl ?_
        refine g_iload_n F d_Mo_comment_345 4 rfl ?_
        refine g_istore F (L' := [(6, .int v1), (4, .int ((q_Mo_n tMo) - 3)), (8, .int 0), (7, .int 0), (0, .ref (ad 0)), (1, .int v1), (2, .int v2), (3, .int v3), (5, .int v5)]) d_Mo_comment_346 (by decide) rfl ?_
        refine g_loc [4, 5, 6, 7, 1, 8, 0] rfl ?_
        exact blk348 FU v1 v2 v3 ((q_Mo_n tMo) - 3) v5 v1 tMo hf
    · rw [if_neg h] at hf
      refine g_aload_n F d_Mo_comment_275 1 rfl ?_
      refine g_aload_n F d_Mo_comment_276 1 rfl ?_
      refine g_get F (v := .int (q_Mo_n tMo)) in_X13 0 rfl rfl 5 (by decide) mw_1111 rfl d_Mo_comment_277 ?_
      refine g_iconst F (v := 1) d_Mo_comment_280 (by decide) ?_
      refine g_isub F d_Mo_comment_281 ?_
      obtain ⟨x18, hx18, hf⟩ := g_bind hf
      refine g_ci F (r0 := x18) (ws' := (Wo ad cA tMo)) (fun H locs ls hP hD hS hl => g_runV F (As := [.int ((q_Mo_n tMo) - 1)]) (n := 1) mw_1228 rfl rfl ⟨by decide, by decide⟩ rfl (by exact Nat.le_of_ble_eq_true rfl) mw_1225 mw_1227 mw_34 mw_85 (by decide +kernel) d_Mo_comment_282 hP hD hS hl (va_recv F.2.2.2.2.2.1 hP (ci := 9) rfl (q0 := 0) rfl) (c_Mo_charAt l D cA z ad tMo ((q_Mo_n tMo) - 1) hx18 H.size)) ?_
      refine g_bipush F (v := 45) d_Mo_comment_285 (by decide) ?_
      refine g_icmp_ne F (tgt := 294) d_Mo_comment_287 (by decide) (fun h => ?_) (fun h => ?_)
      · rw [if_neg h] at hf
        refine g_iconst F (v := 0) d_Mo_comment_294 (by decide) ?_
        refine g_istore F (L' := [(8, .int 0), (7, .int 0), (0, .ref (ad 0)), (1, .int v1), (2, .int v2), (3, .int v3), (4, .int v4), (5, .int v5), (6, .int v6)]) d_Mo_comment_295 (by decide) rfl ?_
        refine g_iload F d_Mo_comment_297 8 rfl ?_
        refine g_if_eq F (tgt := 311) d_Mo_comment_299 (by decide) (fun h => ?_) (fun h => ?_)
        · rw [if_pos h] at hf
          refine g_iload F d_Mo_comment_311 1 rfl ?_
          refine g_if_eq F (tgt := 325) d_Mo_comment_313 (by decide) (fun _ => ?_) (fun h => absurd h (by decide))
          refine g_iload F d_Mo_comment_325 0 rfl ?_
          refine g_if_eq F (tgt := 339) d_Mo_comment_327 (by decide) (fun _ => ?_) (fun h => absurd h (by decide))
          refine g_aload_n F d_Mo_comment_339 2 rfl ?_
          refine g_get F (v := .int (q_Mo_n tMo)) in_X13 0 rfl rfl 5 (by decide) mw_1111 rfl d_Mo_comment_340 ?_
          refine g_istore F (L' := [(4, .int (q_Mo_n tMo)), (8, .int 0), (7, .int 0), (0, .ref (ad 0)), (1, .int v1), (2, .int v2), (3, .int v3), (5, .int v5), (6, .int v6)]) d_Mo_comment_343 (by decide) rfl ?_
          refine g_iload_n F d_Mo_comment_345 4 rfl ?_
          refine g_istore F (L' := [(6, .int v1), (4, .int (q_Mo_n tMo)), (8, .int 0), (7, .int 0), (0, .ref (ad 0)), (1, .int v1), (2, .int v2), (3, .int v3), (5, .int v5)]) d_Mo_comment_346 (by decide) rfl ?_
          refine g_loc [4, 5, 6, 7, 1, 8, 0] rfl ?_
          exact blk348 FU v1 v2 v3 (q_Mo_n tMo) v5 v1 tMo hf
        · rw [if_neg h] at hf
          refine g_aload_n F d_Mo_comment_302 2 rfl ?_
          refine g_get F (v := .int (q_Mo_n tMo)) in_X13 0 rfl rfl 5 (by decide) mw_1111 rfl d_Mo_comment_303 ?_
          refine g_iconst F (v := 3) d_Mo_comment_306 (by decide) ?_
          refine g_isub F d_Mo_comment_307 ?_
          refine g_goto F (tgt := 343) d_Mo_comment_308 (by decide) ?_
          refine g_istore F (L' := [(4, .int ((q_Mo_n tMo) - 3)), (8, .int 0), (7, .int 0), (0, .ref (ad 0)), (1, .int v1), (2, .int v2), (3, .int v3), (5, .int v5), (6, .int v6)]) d_Mo_comment_343 (by decide) rfl ?_
          refine g_iload_n F d_Mo_comment_345 4 rfl ?_
          refine g_istore F (L' := [(6, .int v1), (4, .int ((q_Mo_n tMo) - 3)), (8, .int 0), (7, .int 0), (0, .ref (ad 0)), (1, .int v1), (2, .int v2), (3, .int v3), (5, .int v5)]) d_Mo_comment_346 (by decide) rfl ?_
          refine g_loc [4, 5, 6, 7, 1, 8, 0] rfl ?_
          exact blk348 FU v1 v2 v3 ((q_Mo_n tMo) - 3) v5 v1 tMo hf
      · rw [if_pos h] at hf
        refine g_iconst F (v := 1) d_Mo_comment_290 (by decide) ?_
        refine g_goto F (tgt := 295) d_Mo_comment_291 (by decide) ?_
        refine g_istore F (L' := [(8, .int 1), (7, .int 0), (0, .ref (ad 0)), (1, .int v1), (2, .int v2), (3, .int v3), (4, .int v4), (5, .int v5), (6, .int v6)]) d_Mo_comment_295 (by decide) rfl ?_
        refine g_iload F d_Mo_comment_297 8 rfl ?_
        refine g_if_eq F (tgt := 311) d_Mo_comment_299 (by decide) (fun h => ?_) (fun h => ?_)
        · rw [if_pos h] at hf
          refine g_iload F d_Mo_comment_311 1 rfl ?_
          refine g_if_eq F (tgt := 325) d_Mo_comment_313 (by decide) (fun _ => ?_) (fun h => absurd h (by decide))
          refine g_iload F d_Mo_comment_325 0 rfl ?_
          refine g_if_eq F (tgt := 339) d_Mo_comment_327 (by decide) (fun h => absurd h (by decide)) (fun _ => ?_)
          refine g_aload_n F d_Mo_comment_330 2 rfl ?_
          refine g_get F (v := .int (q_Mo_n tMo)) in_X13 0 rfl rfl 5 (by decide) mw_1111 rfl d_Mo_comment_331 ?_
          refine g_iconst F (v := 1) d_Mo_comment_334 (by decide) ?_
          refine g_isub F d_Mo_comment_335 ?_
          refine g_goto F (tgt := 343) d_Mo_comment_336 (by decide) ?_
          refine g_istore F (L' := [(4, .int ((q_Mo_n tMo) - 1)), (8, .int 1), (7, .int 0), (0, .ref (ad 0)), (1, .int v1), (2, .int v2), (3, .int v3), (5, .int v5), (6, .int v6)]) d_Mo_comment_343 (by decide) rfl ?_
          refine g_iload_n F d_Mo_comment_345 4 rfl ?_
          refine g_istore F (L' := [(6, .int v1), (4, .int ((q_Mo_n tMo) - 1)), (8, .int 1), (7, .int 0), (0, .ref (ad 0)), (1, .int v1), (2, .int v2), (3, .int v3), (5, .int v5)]) d_Mo_comment_346 (by decide) rfl ?_
          refine g_loc [4, 5, 6, 7, 1, 8, 0] rfl ?_
          exact blk348 FU v1 v2 v3 ((q_Mo_n tMo) - 1) v5 v1 tMo hf
        · rw [if_neg h] at hf
          refine g_aload_n F d_Mo_comment_302 2 rfl ?_
          refine g_get F (v := .int (q_Mo_n tMo)) in_X13 0 rfl rfl 5 (by decide) mw_1111 rfl d_Mo_comment_303 ?_
          refine g_iconst F (v := 3) d_Mo_comment_306 (by decide) ?_
          refine g_isub F d_Mo_comment_307 ?_
          refine g_goto F (tgt := 343) d_Mo_comment_308 (by decide) ?_
          refine g_istore F (L' := [(4, .int ((q_Mo_n tMo) - 3)), (8, .int 1), (7, .int 0), (0, .ref (ad 0)), (1, .int v1), (2, .int v2), (3, .int v3), (5, .int v5), (6, .int v6)]) d_Mo_comment_343 (by decide) rfl ?_
          refine g_iload_n F d_Mo_comment_345 4 rfl ?_
          refine g_istore F (L' := [(6, .int v1), (4, .int ((q_Mo_n tMo) - 3)), (8, .int 1), (7, .int 0), (0, .ref (ad 0)), (1, .int v1), (2, .int v2), (3, .int v3), (5, .int v5)]) d_Mo_comment_346 (by decide) rfl ?_
          refine g_loc [4, 5, 6, 7, 1, 8, 0] rfl ?_
          exact blk348 FU v1 v2 v3 ((q_Mo_n tMo) - 3) v5 v1 tMo hf
  have blk216 : ∀ (v1 : Int32) (v2 : Int32) (v3 : Int32) (v4 : Int32) (v5 : Int32) (tMo : SMo), f_Mo_comment_216 v1 v2 v3 v4 v5 tMo = some x → GW p l e { frames := 2, cells := 0, slots := 0, locals := 45 } s m args below meth c (gQv D (gT cA) (va_A (Wo ad cA sMo) sz) (Wo ad cA x)) D (va_A (Wo ad cA sMo) sz) 9 (Wo ad cA tMo) 216 [(0, .ref (ad 0)), (1, .int v1), (2, .int v2), (3, .int v3), (4, .int v4), (5, .int v5)] [] := by
    intro v1 v2 v3 v4 v5 tMo hf
    unfold f_Mo_comment_216 at hf
    refine g_iconst F (v := 0) d_Mo_comment_216 (by decide) ?_
    refine g_istore F (L' := [(6, .int 0), (0, .ref (ad 0)), (1, .int v1), (2, .int v2), (3, .int v3), (4, .int v4), (5, .int v5)]) d_Mo_comment_217 (by decide) rfl ?_
    refine g_aload_n F d_Mo_comment_219 1 rfl ?_
    refine g_get F (v := .int (q_Mo_n tMo)) in_X13 0 rfl rfl 5 (by decide) mw_1111 rfl d_Mo_comment_220 ?_
    refine g_iload_n F d_Mo_comment_223 2 rfl ?_
    refine g_isub F d_Mo_comment_224 ?_
    refine g_iconst F (v := 1) d_Mo_comment_225 (by decide) ?_
    refine g_icmp_le F (tgt := 263) d_Mo_comment_226 (by decide) (fun h => ?_) (fun h => ?_)
    · rw [if_pos h] at hf
      refine g_loc [1, 2, 3, 4, 5, 6, 0] rfl ?_
      exact blk263 v1 v2 v3 v4 v5 0 tMo hf
    · rw [if_neg h] at hf
      refine g_aload_n F d_Mo_comment_229 1 rfl ?_
      refine g_aload_n F d_Mo_comment_230 1 rfl ?_
      refine g_get F (v := .int (q_Mo_n tMo)) in_X13 0 rfl rfl 5 (by decide) mw_1111 rfl d_Mo_comment_231 ?_
      refine g_iconst F (v := 1) d_Mo_comment_234 (by decide) ?_
      refine g_isub F d_Mo_comment_235 ?_
      obtain ⟨x19, hx19, hf⟩ := g_bind hf
      refine g_ci F (r0 := x19) (ws' := (Wo ad cA tMo)) (fun H locs ls hP hD hS hl => g_runV F (As := [.int ((q_Mo_n tMo) - 1)]) (n := 1) mw_1228 rfl rfl ⟨by decide, by decide⟩ rfl (by exact Nat.le_of_ble_eq_true rfl) mw_1225 mw_1227 mw_34 mw_85 (by decide +kernel) d_Mo_comment_236 hP hD hS hl (va_recv F.2.2.2.2.2.1 hP (ci := 9) rfl (q0 := 0) rfl) (c_Mo_charAt l D cA z ad tMo ((q_Mo_n tMo) - 1) hx19 H.size)) ?_
      refine g_bipush F (v := 45) d_Mo_comment_239 (by decide) ?_
      refine g_icmp_ne F (tgt := 263) d_Mo_comment_241 (by decide) (fun h => ?_) (fun h => ?_)
      · rw [if_neg h] at hf
        refine g_loc [1, 2, 3, 4, 5, 6, 0] rfl ?_
        exact blk263 v1 v2 v3 v4 v5 0 tMo hf
      · rw [if_pos h] at hf
        refine g_aload_n F d_Mo_comment_244 1 rfl ?_
        refine g_aload_n F d_Mo_comment_245 1 rfl ?_
        refine g_get F (v := .int (q_Mo_n tMo)) in_X13 0 rfl rfl 5 (by decide) mw_1111 rfl d_Mo_comment_246 ?_
        refine g_iconst F (v := 2) d_Mo_comment_249 (by decide) ?_
        refine g_isub F d_Mo_comment_250 ?_
        obtain ⟨x20, hx20, hf⟩ := g_bind hf
        refine g_ci F (r0 := x20) (ws' := (Wo ad cA tMo)) (fun H locs ls hP hD hS hl => g_runV F (As := [.int ((q_Mo_n tMo) - 2)]) (n := 1) mw_1228 rfl rfl ⟨by decide, by decide⟩ rfl (by exact Nat.le_of_ble_eq_true rfl) mw_1225 mw_1227 mw_34 mw_85 (by decide +kernel) d_Mo_comment_251 hP hD hS hl (va_recv F.2.2.2.2.2.1 hP (ci := 9) rfl (q0 := 0) rfl) (c_Mo_charAt l D cA z ad tMo ((q_Mo_n tMo) - 2) hx20 H.size)) ?_
        refine g_bipush F (v := 45) d_Mo_comment_254 (by decide) ?_
        refine g_icmp_ne F (tgt := 263) d_Mo_comment_256 (by decide) (fun h => ?_) (fun h => ?_)
        · rw [if_neg h] at hf
          refine g_loc [1, 2, 3, 4, 5, 6, 0] rfl ?_
          exact blk263 v1 v2 v3 v4 v5 0 tMo hf
        · rw [if_pos h] at hf
          refine g_iconst F (v := 1) d_Mo_comment_259 (by decide) ?_
          refine g_goto F (tgt := 264) d_Mo_comment_260 (by decide) ?_
          refine g_istore F (L' := [(7, .int 1), (6, .int 0), (0, .ref (ad 0)), (1, .int v1), (2, .int v2), (3, .int v3), (4, .int v4), (5, .int v5)]) d_Mo_comment_264 (by decide) rfl ?_
          refine g_aload_n F d_Mo_comment_266 2 rfl ?_
          refine g_get F (v := .int (q_Mo_n tMo)) in_X13 0 rfl rfl 5 (by decide) mw_1111 rfl d_Mo_comment_267 ?_
          refine g_iload_n F d_Mo_comment_270 3 rfl ?_
          refine g_isub F d_Mo_comment_271 ?_
          refine g_if_le F (tgt := 294) d_Mo_comment_272 (by decide) (fun h => ?_) (fun h => ?_)
          · rw [if_pos h] at hf
            refine g_iconst F (v := 0) d_Mo_comment_294 (by decide) ?_
            refine g_istore F (L' := [(8, .int 0), (7, .int 1), (6, .int 0), (0, .ref (ad 0)), (1, .int v1), (2, .int v2), (3, .int v3), (4, .int v4), (5, .int v5)]) d_Mo_comment_295 (by decide) rfl ?_
            refine g_iload F d_Mo_comment_297 2 rfl ?_
            refine g_if_eq F (tgt := 311) d_Mo_comment_299 (by decide) (fun _ => ?_) (fun h => absurd h (by decide))
            refine g_iload F d_Mo_comment_311 1 rfl ?_
            refine g_if_eq F (tgt := 325) d_Mo_comment_313 (by decide) (fun h => absurd h (by decide)) (fun _ => ?_)
            refine g_aload_n F d_Mo_comment_316 3 rfl ?_
            refine g_get F (v := .int (q_Mo_n tMo)) in_X13 0 rfl rfl 5 (by decide) mw_1111 rfl d_Mo_comment_317 ?_
            refine g_iconst F (v := 2) d_Mo_comment_320 (by decide) ?_
            refine g_isub F d_Mo_comment_321 ?_
            refine g_goto F (tgt := 343) d_Mo_comment_322 (by decide) ?_
            refine g_istore F (L' := [(4, .int ((q_Mo_n tMo) - 2)), (8, .int 0), (7, .int 1), (6, .int 0), (0, .ref (ad 0)), (1, .int v1), (2, .int v2), (3, .int v3), (5, .int v5)]) d_Mo_comment_343 (by decide) rfl ?_
            refine g_iload_n F d_Mo_comment_345 5 rfl ?_
            refine g_istore F (L' := [(6, .int v1), (4, .int ((q_Mo_n tMo) - 2)), (8, .int 0), (7, .int 1), (0, .ref (ad 0)), (1, .int v1), (2, .int v2), (3, .int v3), (5, .int v5)]) d_Mo_comment_346 (by decide) rfl ?_
            refine g_loc [4, 5, 6, 7, 1, 8, 0] rfl ?_
            exact blk348 FU v1 v2 v3 ((q_Mo_n tMo) - 2) v5 v1 tMo hf
          · rw [if_neg h] at hf
            refine g_aload_n F d_Mo_comment_275 2 rfl ?_
            refine g_aload_n F d_Mo_comment_276 2 rfl ?_
            refine g_get F (v := .int (q_Mo_n tMo)) in_X13 0 rfl rfl 5 (by decide) mw_1111 rfl d_Mo_comment_277 ?_
            refine g_iconst F (v := 1) d_Mo_comment_280 (by decide) ?_
            refine g_isub F d_Mo_comment_281 ?_
            obtain ⟨x21, hx21, hf⟩ := g_bind hf
            refine g_ci F (r0 := x21) (ws' := (Wo ad cA tMo)) (fun H locs ls hP hD hS hl => g_runV F (As := [.int ((q_Mo_n tMo) - 1)]) (n := 1) mw_1228 rfl rfl ⟨by decide, by decide⟩ rfl (by exact Nat.le_of_ble_eq_true rfl) mw_1225 mw_1227 mw_34 mw_85 (by decide +kernel) d_Mo_comment_282 hP hD hS hl (va_recv F.2.2.2.2.2.1 hP (ci := 9) rfl (q0 := 0) rfl) (c_Mo_charAt l D cA z ad tMo ((q_Mo_n tMo) - 1) hx21 H.size)) ?_
            refine g_bipush F (v := 45) d_Mo_comment_285 (by decide) ?_
            refine g_icmp_ne F (tgt := 294) d_Mo_comment_287 (by decide) (fun h => ?_) (fun h => ?_)
            · rw [if_neg h] at hf
              refine g_iconst F (v := 0) d_Mo_comment_294 (by decide) ?_
              refine g_istore F (L' := [(8, .int 0), (7, .int 1), (6, .int 0), (0, .ref (ad 0)), (1, .int v1), (2, .int v2), (3, .int v3), (4, .int v4), (5, .int v5)]) d_Mo_comment_295 (by decide) rfl ?_
              refine g_iload F d_Mo_comment_297 2 rfl ?_
              refine g_if_eq F (tgt := 311) d_Mo_comment_299 (by decide) (fun _ => ?_) (fun h => absurd h (by decide))
              refine g_iload F d_Mo_comment_311 1 rfl ?_
              refine g_if_eq F (tgt := 325) d_Mo_comment_313 (by decide) (fun h => absurd h (by decide)) (fun _ => ?_)
              refine g_aload_n F d_Mo_comment_316 3 rfl ?_
              refine g_get F (v := .int (q_Mo_n tMo)) in_X13 0 rfl rfl 5 (by decide) mw_1111 rfl d_Mo_comment_317 ?_
              refine g_iconst F (v := 2) d_Mo_comment_320 (by decide) ?_
              refine g_isub F d_Mo_comment_321 ?_
              refine g_goto F (tgt := 343) d_Mo_comment_322 (by decide) ?_
              refine g_istore F (L' := [(4, .int ((q_Mo_n tMo) - 2)), (8, .int 0), (7, .int 1), (6, .int 0), (0, .ref (ad 0)), (1, .int v1), (2, .int v2), (3, .int v3), (5, .int v5)]) d_Mo_comment_343 (by decide) rfl ?_
              refine g_iload_n F d_Mo_comment_345 5 rfl ?_
              refine g_istore F (L' := [(6, .int v1), (4, .int ((q_Mo_n tMo) - 2)), (8, .int 0), (7, .int 1), (0, .ref (ad 0)), (1, .int v1), (2, .int v2), (3, .int v3), (5, .int v5)]) d_Mo_comment_346 (by decide) rfl ?_
              refine g_loc [4, 5, 6, 7, 1, 8, 0] rfl ?_
              exact blk348 FU v1 v2 v3 ((q_Mo_n tMo) - 2) v5 v1 tMo hf
            · rw [if_pos h] at hf
              refine g_iconst F (v := 1) d_Mo_comment_290 (by decide) ?_
              refine g_goto F (tgt := 295) d_Mo_comment_291 (by decide) ?_
              refine g_istore F (L' := [(8, .int 1), (7, .int 1), (6, .int 0), (0, .ref (ad 0)), (1, .int v1), (2, .int v2), (3, .int v3), (4, .int v4), (5, .int v5)]) d_Mo_comment_295 (by decide) rfl ?_
              refine g_iload F d_Mo_comment_297 2 rfl ?_
              refine g_if_eq F (tgt := 311) d_Mo_comment_299 (by decide) (fun _ => ?_) (fun h => absurd h (by decide))
              refine g_iload F d_Mo_comment_311 1 rfl ?_
              refine g_if_eq F (tgt := 325) d_Mo_comment_313 (by decide) (fun h => absurd h (by decide)) (fun _ => ?_)
              refine g_aload_n F d_Mo_comment_316 3 rfl ?_
              refine g_get F (v := .int (q_Mo_n tMo)) in_X13 0 rfl rfl 5 (by decide) mw_1111 rfl d_Mo_comment_317 ?_
              refine g_iconst F (v := 2) d_Mo_comment_320 (by decide) ?_
              refine g_isub F d_Mo_comment_321 ?_
              refine g_goto F (tgt := 343) d_Mo_comment_322 (by decide) ?_
              refine g_istore F (L' := [(4, .int ((q_Mo_n tMo) - 2)), (8, .int 1), (7, .int 1), (6, .int 0), (0, .ref (ad 0)), (1, .int v1), (2, .int v2), (3, .int v3), (5, .int v5)]) d_Mo_comment_343 (by decide) rfl ?_
              refine g_iload_n F d_Mo_comment_345 5 rfl ?_
              refine g_istore F (L' := [(6, .int v1), (4, .int ((q_Mo_n tMo) - 2)), (8, .int 1), (7, .int 1), (0, .ref (ad 0)), (1, .int v1), (2, .int v2), (3, .int v3), (5, .int v5)]) d_Mo_comment_346 (by decide) rfl ?_
              refine g_loc [4, 5, 6, 7, 1, 8, 0] rfl ?_
              exact blk348 FU v1 v2 v3 ((q_Mo_n tMo) - 2) v5 v1 tMo hf
  have blk102 : ∀ (v1 : Int32) (v2 : Int32) (tMo : SMo), f_Mo_comment_102 v1 v2 tMo = some x → GW p l e { frames := 2, cells := 0, slots := 0, locals := 45 } s m args below meth c (gQv D (gT cA) (va_A (Wo ad cA sMo) sz) (Wo ad cA x)) D (va_A (Wo ad cA sMo) sz) 9 (Wo ad cA tMo) 102 [(0, .ref (ad 0)), (1, .int v1), (2, .int v2)] [] := by
    intro v1 v2 tMo hf
    unfold f_Mo_comment_102 at hf
    refine g_aload_n F d_Mo_comment_102 0 rfl ?_
    refine g_iload_n F d_Mo_comment_103 1 rfl ?_
    obtain ⟨x22, hx22, hf⟩ := g_bind hf
    refine g_ci F (r0 := x22) (ws' := (Wo ad cA tMo)) (fun H locs ls hP hD hS hl => g_runV F (As := [.int v1]) (n := 1) mw_1320 rfl rfl ⟨by decide, by decide⟩ rfl (by exact Nat.le_of_ble_eq_true rfl) mw_1317 mw_1319 mw_51 mw_85 (by decide +kernel) d_Mo_comment_104 hP hD hS hl (va_recv F.2.2.2.2.2.1 hP (ci := 9) rfl (q0 := 0) rfl) (c_Mo_commentEnd l D cA z ad tMo v1 hx22 H.size)) ?_
    refine g_istore_n F (L' := [(3, .int x22), (0, .ref (ad 0)), (1, .int v1), (2, .int v2)]) d_Mo_comment_107 rfl (by decide) rfl ?_
    refine g_iload_n F d_Mo_comment_108 0 rfl ?_
    refine g_istore F (L' := [(4, .int x22), (3, .int x22), (0, .ref (ad 0)), (1, .int v1), (2, .int v2)]) d_Mo_comment_109 (by decide) rfl ?_
    refine g_iload_n F d_Mo_comment_111 1 rfl ?_
    refine g_aload_n F d_Mo_comment_112 2 rfl ?_
    refine g_get F (v := .int (q_Mo_n tMo)) in_X13 0 rfl rfl 5 (by decide) mw_1111 rfl d_Mo_comment_113 ?_
    refine g_icmp_ne F (tgt := 126) d_Mo_comment_116 (by decide) (fun h => ?_) (fun h => ?_)
    · rw [if_neg h] at hf
      refine g_aload_n F d_Mo_comment_126 2 rfl ?_
      refine g_iload_n F d_Mo_comment_127 1 rfl ?_
      refine g_iconst F (v := 2) d_Mo_comment_128 (by decide) ?_
      refine g_iadd F d_Mo_comment_129 ?_
      obtain ⟨x23, hx23, hf⟩ := g_bind hf
      refine g_ci F (r0 := x23) (ws' := (Wo ad cA tMo)) (fun H locs ls hP hD hS hl => g_runV F (As := [.int (x22 + 2)]) (n := 1) mw_1228 rfl rfl ⟨by decide, by decide⟩ rfl (by exact Nat.le_of_ble_eq_true rfl) mw_1225 mw_1227 mw_34 mw_85 (by decide +kernel) d_Mo_comment_130 hP hD hS hl (va_recv F.2.2.2.2.2.1 hP (ci := 9) rfl (q0 := 0) rfl) (c_Mo_charAt l D cA z ad tMo (x22 + 2) hx23 H.size)) ?_
      refine g_bipush F (v := 62) d_Mo_comment_133 (by decide) ?_
      refine g_icmp_ne F (tgt := 144) d_Mo_comment_135 (by decide) (fun h => ?_) (fun h => ?_)
      · rw [if_neg h] at hf
        refine g_iload_n F d_Mo_comment_144 1 rfl ?_
        refine g_iconst F (v := 3) d_Mo_comment_145 (by decide) ?_
        refine g_iadd F d_Mo_comment_146 ?_
        refine g_istore F (L' := [(5, .int (x22 + 3)), (4, .int x22), (3, .int x22), (0, .ref (ad 0)), (1, .int v1), (2, .int v2)]) d_Mo_comment_147 (by decide) rfl ?_
        refine g_iload_n F d_Mo_comment_149 2 rfl ?_
        refine g_aload_n F d_Mo_comment_150 3 rfl ?_
        refine g_get F (v := .int (q_Mo_n tMo)) in_X13 0 rfl rfl 5 (by decide) mw_1111 rfl d_Mo_comment_151 ?_
        refine g_icmp_ne F (tgt := 345) d_Mo_comment_154 (by decide) (fun h => ?_) (fun h => ?_)
        · rw [if_neg h] at hf
          refine g_iload_n F d_Mo_comment_345 4 rfl ?_
          refine g_istore F (L' := [(6, .int v1), (5, .int (x22 + 3)), (4, .int x22), (3, .int x22), (0, .ref (ad 0)), (1, .int v1), (2, .int v2)]) d_Mo_comment_346 (by decide) rfl ?_
          refine g_loc [4, 5, 6, 3, 2, 1, 0] rfl ?_
          exact blk348 FU v1 v2 x22 x22 (x22 + 3) v1 tMo hf
        · rw [if_pos h] at hf
          refine g_aload_n F d_Mo_comment_157 3 rfl ?_
          refine g_get F (v := .int (q_Mo_n tMo)) in_X13 0 rfl rfl 5 (by decide) mw_1111 rfl d_Mo_comment_158 ?_
          refine g_iload_n F d_Mo_comment_161 4 rfl ?_
          refine g_isub F d_Mo_comment_162 ?_
          refine g_iconst F (v := 2) d_Mo_comment_163 (by decide) ?_
          refine g_icmp_le F (tgt := 216) d_Mo_comment_164 (by decide) (fun h => ?_) (fun h => ?_)
          · rw [if_pos h] at hf
            refine g_loc [3, 4, 5, 2, 1, 0] rfl ?_
            exact blk216 v1 v2 x22 x22 (x22 + 3) tMo hf
          · rw [if_neg h] at hf
            refine g_aload_n F d_Mo_comment_167 3 rfl ?_
            refine g_aload_n F d_Mo_comment_168 3 rfl ?_
            refine g_get F (v := .int (q_Mo_n tMo)) in_X13 0 rfl rfl 5 (by decide) mw_1111 rfl d_Mo_comment_169 ?_
            refine g_iconst F (v := 1) d_Mo_comment_172 (by decide) ?_
            refine g_isub F d_Mo_comment_173 ?_
            obtain ⟨x24, hx24, hf⟩ := g_bind hf
            refine g_ci F (r0 := x24) (ws' := (Wo ad cA tMo)) (fun H locs ls hP hD hS hl => g_runV F (As := [.int ((q_Mo_n tMo) - 1)]) (n := 1) mw_1228 rfl rfl ⟨by decide, by decide⟩ rfl (by exact Nat.le_of_ble_eq_true rfl) mw_1225 mw_1227 mw_34 mw_85 (by decide +kernel) d_Mo_comment_174 hP hD hS hl (va_recv F.2.2.2.2.2.1 hP (ci := 9) rfl (q0 := 0) rfl) (c_Mo_charAt l D cA z ad tMo ((q_Mo_n tMo) - 1) hx24 H.size)) ?_
            refine g_bipush F (v := 33) d_Mo_comment_177 (by decide) ?_
            refine g_icmp_ne F (tgt := 216) d_Mo_comment_179 (by decide) (fun h => ?_) (fun h => ?_)
            · rw [if_neg h] at hf
              refine g_loc [3, 4, 5, 2, 1, 0] rfl ?_
              exact blk216 v1 v2 x22 x22 (x22 + 3) tMo hf
            · rw [if_pos h] at hf
              refine g_aload_n F d_Mo_comment_182 3 rfl ?_
              refine g_aload_n F d_Mo_comment_183 3 rfl ?_
              refine g_get F (v := .int (q_Mo_n tMo)) in_X13 0 rfl rfl 5 (by decide) mw_1111 rfl d_Mo_comment_184 ?_
              refine g_iconst F (v := 2) d_Mo_comment_187 (by decide) ?_
              refine g_isub F d_Mo_comment_188 ?_
              obtain ⟨x25, hx25, hf⟩ := g_bind hf
              refine g_ci F (r0 := x25) (ws' := (Wo ad cA tMo)) (fun H locs ls hP hD hS hl => g_runV F (As := [.int ((q_Mo_n tMo) - 2)]) (n := 1) mw_1228 rfl rfl ⟨by decide, by decide⟩ rfl (by exact Nat.le_of_ble_eq_true rfl) mw_1225 mw_1227 mw_34 mw_85 (by decide +kernel) d_Mo_comment_189 hP hD hS hl (va_recv F.2.2.2.2.2.1 hP (ci := 9) rfl (q0 := 0) rfl) (c_Mo_charAt l D cA z ad tMo ((q_Mo_n tMo) - 2) hx25 H.size)) ?_
              refine g_bipush F (v := 45) d_Mo_comment_192 (by decide) ?_
              refine g_icmp_ne F (tgt := 216) d_Mo_comment_194 (by decide) (fun h => ?_) (fun h => ?_)
              · rw [if_neg h] at hf
                refine g_loc [3, 4, 5, 2, 1, 0] rfl ?_
                exact blk216 v1 v2 x22 x22 (x22 + 3) tMo hf
              · rw [if_pos h] at hf
                refine g_aload_n F d_Mo_comment_197 3 rfl ?_
                refine g_aload_n F d_Mo_comment_198 3 rfl ?_
                refine g_get F (v := .int (q_Mo_n tMo)) in_X13 0 rfl rfl 5 (by decide) mw_1111 rfl d_Mo_comment_199 ?_
                refine g_iconst F (v := 3) d_Mo_comment_202 (by decide) ?_
                refine g_isub F d_Mo_comment_203 ?_
                obtain ⟨x26, hx26, hf⟩ := g_bind hf
                refine g_ci F (r0 := x26) (ws' := (Wo ad cA tMo)) (fun H locs ls hP hD hS hl => g_runV F (As := [.int ((q_Mo_n tMo) - 3)]) (n := 1) mw_1228 rfl rfl ⟨by decide, by decide⟩ rfl (by exact Nat.le_of_ble_eq_true rfl) mw_1225 mw_1227 mw_34 mw_85 (by decide +kernel) d_Mo_comment_204 hP hD hS hl (va_recv F.2.2.2.2.2.1 hP (ci := 9) rfl (q0 := 0) rfl) (c_Mo_charAt l D cA z ad tMo ((q_Mo_n tMo) - 3) hx26 H.size)) ?_
                refine g_bipush F (v := 45) d_Mo_comment_207 (by decide) ?_
                refine g_icmp_ne F (tgt := 216) d_Mo_comment_209 (by decide) (fun h => ?_) (fun h => ?_)
                · rw [if_neg h] at hf
                  refine g_loc [3, 4, 5, 2, 1, 0] rfl ?_
                  exact blk216 v1 v2 x22 x22 (x22 + 3) tMo hf
                · rw [if_pos h] at hf
                  refine g_iconst F (v := 1) d_Mo_comment_212 (by decide) ?_
                  refine g_goto F (tgt := 217) d_Mo_comment_213 (by decide) ?_
                  refine g_istore F (L' := [(6, .int 1), (5, .int (x22 + 3)), (4, .int x22), (3, .int x22), (0, .ref (ad 0)), (1, .int v1), (2, .int v2)]) d_Mo_comment_217 (by decide) rfl ?_
                  refine g_aload_n F d_Mo_comment_219 4 rfl ?_
                  refine g_get F (v := .int (q_Mo_n tMo)) in_X13 0 rfl rfl 5 (by decide) mw_1111 rfl d_Mo_comment_220 ?_
                  refine g_iload_n F d_Mo_comment_223 5 rfl ?_
                  refine g_isub F d_Mo_comment_224 ?_
                  refine g_iconst F (v := 1) d_Mo_comment_225 (by decide) ?_
                  refine g_icmp_le F (tgt := 263) d_Mo_comment_226 (by decide) (fun h => ?_) (fun h => ?_)
                  · rw [if_pos h] at hf
                    refine g_loc [4, 5, 6, 3, 2, 1, 0] rfl ?_
                    exact blk263 v1 v2 x22 x22 (x22 + 3) 1 tMo hf
                  · rw [if_neg h] at hf
                    refine g_aload_n F d_Mo_comment_229 4 rfl ?_
                    refine g_aload_n F d_Mo_comment_230 4 rfl ?_
                    refine g_get F (v := .int (q_Mo_n tMo)) in_X13 0 rfl rfl 5 (by decide) mw_1111 rfl d_Mo_comment_231 ?_
                    refine g_iconst F (v := 1) d_Mo_comment_234 (by decide) ?_
                    refine g_isub F d_Mo_comment_235 ?_
                    obtain ⟨x27, hx27, hf⟩ := g_bind hf
                    refine g_ci F (r0 := x27) (ws' := (Wo ad cA tMo)) (fun H locs ls hP hD hS hl => g_runV F (As := [.int ((q_Mo_n tMo) - 1)]) (n := 1) mw_1228 rfl rfl ⟨by decide, by decide⟩ rfl (by exact Nat.le_of_ble_eq_true rfl) mw_1225 mw_1227 mw_34 mw_85 (by decide +kernel) d_Mo_comment_236 hP hD hS hl (va_recv F.2.2.2.2.2.1 hP (ci := 9) rfl (q0 := 0) rfl) (c_Mo_charAt l D cA z ad tMo ((q_Mo_n tMo) - 1) hx27 H.size)) ?_
                    refine g_bipush F (v := 45) d_Mo_comment_239 (by decide) ?_
                    refine g_icmp_ne F (tgt := 263) d_Mo_comment_241 (by decide) (fun h => ?_) (fun h => ?_)
                    · rw [if_neg h] at hf
                      refine g_loc [4, 5, 6, 3, 2, 1, 0] rfl ?_
                      exact blk263 v1 v2 x22 x22 (x22 + 3) 1 tMo hf
                    · rw [if_pos h] at hf
                      refine g_aload_n F d_Mo_comment_244 4 rfl ?_
                      refine g_aload_n F d_Mo_comment_245 4 rfl ?_
                      refine g_get F (v := .int (q_Mo_n tMo)) in_X13 0 rfl rfl 5 (by decide) mw_1111 rfl d_Mo_comment_246 ?_
                      refine g_iconst F (v := 2) d_Mo_comment_249 (by decide) ?_
                      refine g_isub F d_Mo_comment_250 ?_
                      obtain ⟨x28, hx28, hf⟩ := g_bind hf
                      refine g_ci F (r0 := x28) (ws' := (Wo ad cA tMo)) (fun H locs ls hP hD hS hl => g_runV F (As := [.int ((q_Mo_n tMo) - 2)]) (n := 1) mw_1228 rfl rfl ⟨by decide, by decide⟩ rfl (by exact Nat.le_of_ble_eq_true rfl) mw_1225 mw_1227 mw_34 mw_85 (by decide +kernel) d_Mo_comment_251 hP hD hS hl (va_recv F.2.2.2.2.2.1 hP (ci := 9) rfl (q0 := 0) rfl) (c_Mo_charAt l D cA z ad tMo ((q_Mo_n tMo) - 2) hx28 H.size)) ?_
                      refine g_bipush F (v := 45) d_Mo_comment_254 (by decide) ?_
                      refine g_icmp_ne F (tgt := 263) d_Mo_comment_256 (by decide) (fun h => ?_) (fun h => ?_)
                      · rw [if_neg h] at hf
                        refine g_loc [4, 5, 6, 3, 2, 1, 0] rfl ?_
                        exact blk263 v1 v2 x22 x22 (x22 + 3) 1 tMo hf
                      · rw [if_pos h] at hf
                        refine g_iconst F (v := 1) d_Mo_comment_259 (by decide) ?_
                        refine g_goto F (tgt := 264) d_Mo_comment_260 (by decide) ?_
                        refine g_istore F (L' := [(7, .int 1), (6, .int 1), (5, .int (x22 + 3)), (4, .int x22), (3, .int x22), (0, .ref (ad 0)), (1, .int v1), (2, .int v2)]) d_Mo_comment_264 (by decide) rfl ?_
                        refine g_aload_n F d_Mo_comment_266 5 rfl ?_
                        refine g_get F (v := .int (q_Mo_n tMo)) in_X13 0 rfl rfl 5 (by decide) mw_1111 rfl d_Mo_comment_267 ?_
                        refine g_iload_n F d_Mo_comment_270 6 rfl ?_
                        refine g_isub F d_Mo_comment_271 ?_
                        refine g_if_le F (tgt := 294) d_Mo_comment_272 (by decide) (fun h => ?_) (fun h => ?_)
                        · rw [if_pos h] at hf
                          refine g_iconst F (v := 0) d_Mo_comment_294 (by decide) ?_
                          refine g_istore F (L' := [(8, .int 0), (7, .int 1), (6, .int 1), (5, .int (x22 + 3)), (4, .int x22), (3, .int x22), (0, .ref (ad 0)), (1, .int v1), (2, .int v2)]) d_Mo_comment_295 (by decide) rfl ?_
                          refine g_iload F d_Mo_comment_297 2 rfl ?_
                          refine g_if_eq F (tgt := 311) d_Mo_comment_299 (by decide) (fun h => absurd h (by decide)) (fun _ => ?_)
                          refine g_aload_n F d_Mo_comment_302 6 rfl ?_
                          refine g_get F (v := .int (q_Mo_n tMo)) in_X13 0 rfl rfl 5 (by decide) mw_1111 rfl d_Mo_comment_303 ?_
                          refine g_iconst F (v := 3) d_Mo_comment_306 (by decide) ?_
                          refine g_isub F d_Mo_comment_307 ?_
                          refine g_goto F (tgt := 343) d_Mo_comment_308 (by decide) ?_
                          refine g_istore F (L' := [(4, .int ((q_Mo_n tMo) - 3)), (8, .int 0), (7, .int 1), (6, .int 1), (5, .int (x22 + 3)), (3, .int x22), (0, .ref (ad 0)), (1, .int v1), (2, .int v2)]) d_Mo_comment_343 (by decide) rfl ?_
                          refine g_iload_n F d_Mo_comment_345 7 rfl ?_
                          refine g_istore F (L' := [(6, .int v1), (4, .int ((q_Mo_n tMo) - 3)), (8, .int 0), (7, .int 1), (5, .int (x22 + 3)), (3, .int x22), (0, .ref (ad 0)), (1, .int v1), (2, .int v2)]) d_Mo_comment_346 (by decide) rfl ?_
                          refine g_loc [6, 7, 8, 5, 1, 4, 0] rfl ?_
                          exact blk348 FU v1 v2 x22 ((q_Mo_n tMo) - 3) (x22 + 3) v1 tMo hf
                        · rw [if_neg h] at hf
                          refine g_aload_n F d_Mo_comment_275 5 rfl ?_
                          refine g_aload_n F d_Mo_comment_276 5 rfl ?_
                          refine g_get F (v := .int (q_Mo_n tMo)) in_X13 0 rfl rfl 5 (by decide) mw_1111 rfl d_Mo_comment_277 ?_
                          refine g_iconst F (v := 1) d_Mo_comment_280 (by decide) ?_
                          refine g_isub F d_Mo_comment_281 ?_
                          obtain ⟨x29, hx29, hf⟩ := g_bind hf
                          refine g_ci F (r0 := x29) (ws' := (Wo ad cA tMo)) (fun H locs ls hP hD hS hl => g_runV F (As := [.int ((q_Mo_n tMo) - 1)]) (n := 1) mw_1228 rfl rfl ⟨by decide, by decide⟩ rfl (by exact Nat.le_of_ble_eq_true rfl) mw_1225 mw_1227 mw_34 mw_85 (by decide +kernel) d_Mo_comment_282 hP hD hS hl (va_recv F.2.2.2.2.2.1 hP (ci := 9) rfl (q0 := 0) rfl) (c_Mo_charAt l D cA z ad tMo ((q_Mo_n tMo) - 1) hx29 H.size)) ?_
                          refine g_bipush F (v := 45) d_Mo_comment_285 (by decide) ?_
                          refine g_icmp_ne F (tgt := 294) d_Mo_comment_287 (by decide) (fun h => ?_) (fun h => ?_)
                          · rw [if_neg h] at hf
                            refine g_iconst F (v := 0) d_Mo_comment_294 (by decide) ?_
                            refine g_istore F (L' := [(8, .int 0), (7, .int 1), (6, .int 1), (5, .int (x22 + 3)), (4, .int x22), (3, .int x22), (0, .ref (ad 0)), (1, .int v1), (2, .int v2)]) d_Mo_comment_295 (by decide) rfl ?_
                            refine g_iload F d_Mo_comment_297 2 rfl ?_
                            refine g_if_eq F (tgt := 311) d_Mo_comment_299 (by decide) (fun h => absurd h (by decide)) (fun _ => ?_)
                            refine g_aload_n F d_Mo_comment_302 6 rfl ?_
                            refine g_get F (v := .int (q_Mo_n tMo)) in_X13 0 rfl rfl 5 (by decide) mw_1111 rfl d_Mo_comment_303 ?_
                            refine g_iconst F (v := 3) d_Mo_comment_306 (by decide) ?_
                            refine g_isub F d_Mo_comment_307 ?_
                            refine g_goto F (tgt := 343) d_Mo_comment_308 (by decide) ?_
                            refine g_istore F (L' := [(4, .int ((q_Mo_n tMo) - 3)), (8, .int 0), (7, .int 1), (6, .int 1), (5, .int (x22 + 3)), (3, .int x22), (0, .ref (ad 0)), (1, .int v1), (2, .int v2)]) d_Mo_comment_343 (by decide) rfl ?_
                            refine g_iload_n F d_Mo_comment_345 7 rfl ?_
                            refine g_istore F (L' := [(6, .int v1), (4, .int ((q_Mo_n tMo) - 3)), (8, .int 0), (7, .int 1), (5, .int (x22 + 3)), (3, .int x22), (0, .ref (ad 0)), (1, .int v1), (2, .int v2)]) d_Mo_comment_346 (by decide) rfl ?_
                            refine g_loc [6, 7, 8, 5, 1, 4, 0] rfl ?_
                            exact blk348 FU v1 v2 x22 ((q_Mo_n tMo) - 3) (x22 + 3) v1 tMo hf
                          · rw [if_pos h] at hf
                            refine g_iconst F (v := 1) d_Mo_comment_290 (by decide) ?_
                            refine g_goto F (tgt := 295) d_Mo_comment_291 (by decide) ?_
                            refine g_istore F (L' := [(8, .int 1), (7, .int 1), (6, .int 1), (5, .int (x22 + 3)), (4, .int x22), (3, .int x22), (0, .ref (ad 0)), (1, .int v1), (2, .int v2)]) d_Mo_comment_295 (by decide) rfl ?_
                            refine g_iload F d_Mo_comment_297 2 rfl ?_
                            refine g_if_eq F (tgt := 311) d_Mo_comment_299 (by decide) (fun h => absurd h (by decide)) (fun _ => ?_)
                            refine g_aload_n F d_Mo_comment_302 6 rfl ?_
                            refine g_get F (v := .int (q_Mo_n tMo)) in_X13 0 rfl rfl 5 (by decide) mw_1111 rfl d_Mo_comment_303 ?_
                            refine g_iconst F (v := 3) d_Mo_comment_306 (by decide) ?_
                            refine g_isub F d_Mo_comment_307 ?_
                            refine g_goto F (tgt := 343) d_Mo_comment_308 (by decide) ?_
                            refine g_istore F (L' := [(4, .int ((q_Mo_n tMo) - 3)), (8, .int 1), (7, .int 1), (6, .int 1), (5, .int (x22 + 3)), (3, .int x22), (0, .ref (ad 0)), (1, .int v1), (2, .int v2)]) d_Mo_comment_343 (by decide) rfl ?_
                            refine g_iload_n F d_Mo_comment_345 7 rfl ?_
                            refine g_istore F (L' := [(6, .int v1), (4, .int ((q_Mo_n tMo) - 3)), (8, .int 1), (7, .int 1), (5, .int (x22 + 3)), (3, .int x22), (0, .ref (ad 0)), (1, .int v1), (2, .int v2)]) d_Mo_comment_346 (by decide) rfl ?_
                            refine g_loc [6, 7, 8, 5, 1, 4, 0] rfl ?_
                            exact blk348 FU v1 v2 x22 ((q_Mo_n tMo) - 3) (x22 + 3) v1 tMo hf
      · rw [if_pos h] at hf
        refine g_iload_n F d_Mo_comment_138 1 rfl ?_
        refine g_iconst F (v := 2) d_Mo_comment_139 (by decide) ?_
        refine g_iadd F d_Mo_comment_140 ?_
        refine g_goto F (tgt := 147) d_Mo_comment_141 (by decide) ?_
        refine g_istore F (L' := [(5, .int (x22 + 2)), (4, .int x22), (3, .int x22), (0, .ref (ad 0)), (1, .int v1), (2, .int v2)]) d_Mo_comment_147 (by decide) rfl ?_
        refine g_iload_n F d_Mo_comment_149 2 rfl ?_
        refine g_aload_n F d_Mo_comment_150 3 rfl ?_
        refine g_get F (v := .int (q_Mo_n tMo)) in_X13 0 rfl rfl 5 (by decide) mw_1111 rfl d_Mo_comment_151 ?_
        refine g_icmp_ne F (tgt := 345) d_Mo_comment_154 (by decide) (fun h => ?_) (fun h => ?_)
        · rw [if_neg h] at hf
          refine g_iload_n F d_Mo_comment_345 4 rfl ?_
          refine g_istore F (L' := [(6, .int v1), (5, .int (x22 + 2)), (4, .int x22), (3, .int x22), (0, .ref (ad 0)), (1, .int v1), (2, .int v2)]) d_Mo_comment_346 (by decide) rfl ?_
          refine g_loc [4, 5, 6, 3, 2, 1, 0] rfl ?_
          exact blk348 FU v1 v2 x22 x22 (x22 + 2) v1 tMo hf
        · rw [if_pos h] at hf
          refine g_aload_n F d_Mo_comment_157 3 rfl ?_
          refine g_get F (v := .int (q_Mo_n tMo)) in_X13 0 rfl rfl 5 (by decide) mw_1111 rfl d_Mo_comment_158 ?_
          refine g_iload_n F d_Mo_comment_161 4 rfl ?_
          refine g_isub F d_Mo_comment_162 ?_
          refine g_iconst F (v := 2) d_Mo_comment_163 (by decide) ?_
          refine g_icmp_le F (tgt := 216) d_Mo_comment_164 (by decide) (fun h => ?_) (fun h => ?_)
          · rw [if_pos h] at hf
            refine g_loc [3, 4, 5, 2, 1, 0] rfl ?_
            exact blk216 v1 v2 x22 x22 (x22 + 2) tMo hf
          · rw [if_neg h] at hf
            refine g_aload_n F d_Mo_comment_167 3 rfl ?_
            refine g_aload_n F d_Mo_comment_168 3 rfl ?_
            refine g_get F (v := .int (q_Mo_n tMo)) in_X13 0 rfl rfl 5 (by decide) mw_1111 rfl d_Mo_comment_169 ?_
            refine g_iconst F (v := 1) d_Mo_comment_172 (by decide) ?_
            refine g_isub F d_Mo_comment_173 ?_
            obtain ⟨x30, hx30, hf⟩ := g_bind hf
            refine g_ci F (r0 := x30) (ws' := (Wo ad cA tMo)) (fun H locs ls hP hD hS hl => g_runV F (As := [.int ((q_Mo_n tMo) - 1)]) (n := 1) mw_1228 rfl rfl ⟨by decide, by decide⟩ rfl (by exact Nat.le_of_ble_eq_true rfl) mw_1225 mw_1227 mw_34 mw_85 (by decide +kernel) d_Mo_comment_174 hP hD hS hl (va_recv F.2.2.2.2.2.1 hP (ci := 9) rfl (q0 := 0) rfl) (c_Mo_charAt l D cA z ad tMo ((q_Mo_n tMo) - 1) hx30 H.size)) ?_
            refine g_bipush F (v := 33) d_Mo_comment_177 (by decide) ?_
            refine g_icmp_ne F (tgt := 216) d_Mo_comment_179 (by decide) (fun h => ?_) (fun h => ?_)
            · rw [if_neg h] at hf
              refine g_loc [3, 4, 5, 2, 1, 0] rfl ?_
              exact blk216 v1 v2 x22 x22 (x22 + 2) tMo hf
            · rw [if_pos h] at hf
              refine g_aload_n F d_Mo_comment_182 3 rfl ?_
              refine g_aload_n F d_Mo_comment_183 3 rfl ?_
              refine g_get F (v := .int (q_Mo_n tMo)) in_X13 0 rfl rfl 5 (by decide) mw_1111 rfl d_Mo_comment_184 ?_
              refine g_iconst F (v := 2) d_Mo_comment_187 (by decide) ?_
              refine g_isub F d_Mo_comment_188 ?_
              obtain ⟨x31, hx31, hf⟩ := g_bind hf
              refine g_ci F (r0 := x31) (ws' := (Wo ad cA tMo)) (fun H locs ls hP hD hS hl => g_runV F (As := [.int ((q_Mo_n tMo) - 2)]) (n := 1) mw_1228 rfl rfl ⟨by decide, by decide⟩ rfl (by exact Nat.le_of_ble_eq_true rfl) mw_1225 mw_1227 mw_34 mw_85 (by decide +kernel) d_Mo_comment_189 hP hD hS hl (va_recv F.2.2.2.2.2.1 hP (ci := 9) rfl (q0 := 0) rfl) (c_Mo_charAt l D cA z ad tMo ((q_Mo_n tMo) - 2) hx31 H.size)) ?_
              refine g_bipush F (v := 45) d_Mo_comment_192 (by decide) ?_
              refine g_icmp_ne F (tgt := 216) d_Mo_comment_194 (by decide) (fun h => ?_) (fun h => ?_)
              · rw [if_neg h] at hf
                refine g_loc [3, 4, 5, 2, 1, 0] rfl ?_
                exact blk216 v1 v2 x22 x22 (x22 + 2) tMo hf
              · rw [if_pos h] at hf
                refine g_aload_n F d_Mo_comment_197 3 rfl ?_
                refine g_aload_n F d_Mo_comment_198 3 rfl ?_
                refine g_get F (v := .int (q_Mo_n tMo)) in_X13 0 rfl rfl 5 (by decide) mw_1111 rfl d_Mo_comment_199 ?_
                refine g_iconst F (v := 3) d_Mo_comment_202 (by decide) ?_
                refine g_isub F d_Mo_comment_203 ?_
                obtain ⟨x32, hx32, hf⟩ := g_bind hf
                refine g_ci F (r0 := x32) (ws' := (Wo ad cA tMo)) (fun H locs ls hP hD hS hl => g_runV F (As := [.int ((q_Mo_n tMo) - 3)]) (n := 1) mw_1228 rfl rfl ⟨by decide, by decide⟩ rfl (by exact Nat.le_of_ble_eq_true rfl) mw_1225 mw_1227 mw_34 mw_85 (by decide +kernel) d_Mo_comment_204 hP hD hS hl (va_recv F.2.2.2.2.2.1 hP (ci := 9) rfl (q0 := 0) rfl) (c_Mo_charAt l D cA z ad tMo ((q_Mo_n tMo) - 3) hx32 H.size)) ?_
                refine g_bipush F (v := 45) d_Mo_comment_207 (by decide) ?_
                refine g_icmp_ne F (tgt := 216) d_Mo_comment_209 (by decide) (fun h => ?_) (fun h => ?_)
                · rw [if_neg h] at hf
                  refine g_loc [3, 4, 5, 2, 1, 0] rfl ?_
                  exact blk216 v1 v2 x22 x22 (x22 + 2) tMo hf
                · rw [if_pos h] at hf
                  refine g_iconst F (v := 1) d_Mo_comment_212 (by decide) ?_
                  refine g_goto F (tgt := 217) d_Mo_comment_213 (by decide) ?_
                  refine g_istore F (L' := [(6, .int 1), (5, .int (x22 + 2)), (4, .int x22), (3, .int x22), (0, .ref (ad 0)), (1, .int v1), (2, .int v2)]) d_Mo_comment_217 (by decide) rfl ?_
                  refine g_aload_n F d_Mo_comment_219 4 rfl ?_
                  refine g_get F (v := .int (q_Mo_n tMo)) in_X13 0 rfl rfl 5 (by decide) mw_1111 rfl d_Mo_comment_220 ?_
                  refine g_iload_n F d_Mo_comment_223 5 rfl ?_
                  refine g_isub F d_Mo_comment_224 ?_
                  refine g_iconst F (v := 1) d_Mo_comment_225 (by decide) ?_
                  refine g_icmp_le F (tgt := 263) d_Mo_comment_226 (by decide) (fun h => ?_) (fun h => ?_)
                  · rw [if_pos h] at hf
                    refine g_loc [4, 5, 6, 3, 2, 1, 0] rfl ?_
                    exact blk263 v1 v2 x22 x22 (x22 + 2) 1 tMo hf
                  · rw [if_neg h] at hf
                    refine g_aload_n F d_Mo_comment_229 4 rfl ?_
                    refine g_aload_n F d_Mo_comment_230 4 rfl ?_
                    refine g_get F (v := .int (q_Mo_n tMo)) in_X13 0 rfl rfl 5 (by decide) mw_1111 rfl d_Mo_comment_231 ?_
                    refine g_iconst F (v := 1) d_Mo_comment_234 (by decide) ?_
                    refine g_isub F d_Mo_comment_235 ?_
                    obtain ⟨x33, hx33, hf⟩ := g_bind hf
                    refine g_ci F (r0 := x33) (ws' := (Wo ad cA tMo)) (fun H locs ls hP hD hS hl => g_runV F (As := [.int ((q_Mo_n tMo) - 1)]) (n := 1) mw_1228 rfl rfl ⟨by decide, by decide⟩ rfl (by exact Nat.le_of_ble_eq_true rfl) mw_1225 mw_1227 mw_34 mw_85 (by decide +kernel) d_Mo_comment_236 hP hD hS hl (va_recv F.2.2.2.2.2.1 hP (ci := 9) rfl (q0 := 0) rfl) (c_Mo_charAt l D cA z ad tMo ((q_Mo_n tMo) - 1) hx33 H.size)) ?_
                    refine g_bipush F (v := 45) d_Mo_comment_239 (by decide) ?_
                    refine g_icmp_ne F (tgt := 263) d_Mo_comment_241 (by decide) (fun h => ?_) (fun h => ?_)
                    · rw [if_neg h] at hf
                      refine g_loc [4, 5, 6, 3, 2, 1, 0] rfl ?_
                      exact blk263 v1 v2 x22 x22 (x22 + 2) 1 tMo hf
                    · rw [if_pos h] at hf
                      refine g_aload_n F d_Mo_comment_244 4 rfl ?_
                      refine g_aload_n F d_Mo_comment_245 4 rfl ?_
                      refine g_get F (v := .int (q_Mo_n tMo)) in_X13 0 rfl rfl 5 (by decide) mw_1111 rfl d_Mo_comment_246 ?_
                      refine g_iconst F (v := 2) d_Mo_comment_249 (by decide) ?_
                      refine g_isub F d_Mo_comment_250 ?_
                      obtain ⟨x34, hx34, hf⟩ := g_bind hf
                      refine g_ci F (r0 := x34) (ws' := (Wo ad cA tMo)) (fun H locs ls hP hD hS hl => g_runV F (As := [.int ((q_Mo_n tMo) - 2)]) (n := 1) mw_1228 rfl rfl ⟨by decide, by decide⟩ rfl (by exact Nat.le_of_ble_eq_true rfl) mw_1225 mw_1227 mw_34 mw_85 (by decide +kernel) d_Mo_comment_251 hP hD hS hl (va_recv F.2.2.2.2.2.1 hP (ci := 9) rfl (q0 := 0) rfl) (c_Mo_charAt l D cA z ad tMo ((q_Mo_n tMo) - 2) hx34 H.size)) ?_
                      refine g_bipush F (v := 45) d_Mo_comment_254 (by decide) ?_
                      refine g_icmp_ne F (tgt := 263) d_Mo_comment_256 (by decide) (fun h => ?_) (fun h => ?_)
                      · rw [if_neg h] at hf
                        refine g_loc [4, 5, 6, 3, 2, 1, 0] rfl ?_
                        exact blk263 v1 v2 x22 x22 (x22 + 2) 1 tMo hf
                      · rw [if_pos h] at hf
                        refine g_iconst F (v := 1) d_Mo_comment_259 (by decide) ?_
                        refine g_goto F (tgt := 264) d_Mo_comment_260 (by decide) ?_
                        refine g_istore F (L' := [(7, .int 1), (6, .int 1), (5, .int (x22 + 2)), (4, .int x22), (3, .int x22), (0, .ref (ad 0)), (1, .int v1), (2, .int v2)]) d_Mo_comment_264 (by decide) rfl ?_
                        refine g_aload_n F d_Mo_comment_266 5 rfl ?_
                        refine g_get F (v := .int (q_Mo_n tMo)) in_X13 0 rfl rfl 5 (by decide) mw_1111 rfl d_Mo_comment_267 ?_
                        refine g_iload_n F d_Mo_comment_270 6 rfl ?_
                        refine g_isub F d_Mo_comment_271 ?_
                        refine g_if_le F (tgt := 294) d_Mo_comment_272 (by decide) (fun h => ?_) (fun h => ?_)
                        · rw [if_pos h] at hf
                          refine g_iconst F (v := 0) d_Mo_comment_294 (by decide) ?_
                          refine g_istore F (L' := [(8, .int 0), (7, .int 1), (6, .int 1), (5, .int (x22 + 2)), (4, .int x22), (3, .int x22), (0, .ref (ad 0)), (1, .int v1), (2, .int v2)]) d_Mo_comment_295 (by decide) rfl ?_
                          refine g_iload F d_Mo_comment_297 2 rfl ?_
                          refine g_if_eq F (tgt := 311) d_Mo_comment_299 (by decide) (fun h => absurd h (by decide)) (fun _ => ?_)
                          refine g_aload_n F d_Mo_comment_302 6 rfl ?_
                          refine g_get F (v := .int (q_Mo_n tMo)) in_X13 0 rfl rfl 5 (by decide) mw_1111 rfl d_Mo_comment_303 ?_
                          refine g_iconst F (v := 3) d_Mo_comment_306 (by decide) ?_
                          refine g_isub F d_Mo_comment_307 ?_
                          refine g_goto F (tgt := 343) d_Mo_comment_308 (by decide) ?_
                          refine g_istore F (L' := [(4, .int ((q_Mo_n tMo) - 3)), (8, .int 0), (7, .int 1), (6, .int 1), (5, .int (x22 + 2)), (3, .int x22), (0, .ref (ad 0)), (1, .int v1), (2, .int v2)]) d_Mo_comment_343 (by decide) rfl ?_
                          refine g_iload_n F d_Mo_comment_345 7 rfl ?_
                          refine g_istore F (L' := [(6, .int v1), (4, .int ((q_Mo_n tMo) - 3)), (8, .int 0), (7, .int 1), (5, .int (x22 + 2)), (3, .int x22), (0, .ref (ad 0)), (1, .int v1), (2, .int v2)]) d_Mo_comment_346 (by decide) rfl ?_
                          refine g_loc [6, 7, 8, 5, 1, 4, 0] rfl ?_
                          exact blk348 FU v1 v2 x22 ((q_Mo_n tMo) - 3) (x22 + 2) v1 tMo hf
                        · rw [if_neg h] at hf
                          refine g_aload_n F d_Mo_comment_275 5 rfl ?_
                          refine g_aload_n F d_Mo_comment_276 5 rfl ?_
                          refine g_get F (v := .int (q_Mo_n tMo)) in_X13 0 rfl rfl 5 (by decide) mw_1111 rfl d_Mo_comment_277 ?_
                          refine g_iconst F (v := 1) d_Mo_comment_280 (by decide) ?_
                          refine g_isub F d_Mo_comment_281 ?_
                          obtain ⟨x35, hx35, hf⟩ := g_bind hf
                          refine g_ci F (r0 := x35) (ws' := (Wo ad cA tMo)) (fun H locs ls hP hD hS hl => g_runV F (As := [.int ((q_Mo_n tMo) - 1)]) (n := 1) mw_1228 rfl rfl ⟨by decide, by decide⟩ rfl (by exact Nat.le_of_ble_eq_true rfl) mw_1225 mw_1227 mw_34 mw_85 (by decide +kernel) d_Mo_comment_282 hP hD hS hl (va_recv F.2.2.2.2.2.1 hP (ci := 9) rfl (q0 := 0) rfl) (c_Mo_charAt l D cA z ad tMo ((q_Mo_n tMo) - 1) hx35 H.size)) ?_
                          refine g_bipush F (v := 45) d_Mo_comment_285 (by decide) ?_
                          refine g_icmp_ne F (tgt := 294) d_Mo_comment_287 (by decide) (fun h => ?_) (fun h => ?_)
                          · rw [if_neg h] at hf
                            refine g_iconst F (v := 0) d_Mo_comment_294 (by decide) ?_
                            refine g_istore F (L' := [(8, .int 0), (7, .int 1), (6, .int 1), (5, .int (x22 + 2)), (4, .int x22), (3, .int x22), (0, .ref (ad 0)), (1, .int v1), (2, .int v2)]) d_Mo_comment_295 (by decide) rfl ?_
                            refine g_iload F d_Mo_comment_297 2 rfl ?_
                            refine g_if_eq F (tgt := 311) d_Mo_comment_299 (by decide) (fun h => absurd h (by decide)) (fun _ => ?_)
                            refine g_aload_n F d_Mo_comment_302 6 rfl ?_
                            refine g_get F (v := .int (q_Mo_n tMo)) in_X13 0 rfl rfl 5 (by decide) mw_1111 rfl d_Mo_comment_303 ?_
                            refine g_iconst F (v := 3) d_Mo_comment_306 (by decide) ?_
                            refine g_isub F d_Mo_comment_307 ?_
                            refine g_goto F (tgt := 343) d_Mo_comment_308 (by decide) ?_
                            refine g_istore F (L' := [(4, .int ((q_Mo_n tMo) - 3)), (8, .int 0), (7, .int 1), (6, .int 1), (5, .int (x22 + 2)), (3, .int x22), (0, .ref (ad 0)), (1, .int v1), (2, .int v2)]) d_Mo_comment_343 (by decide) rfl ?_
                            refine g_iload_n F d_Mo_comment_345 7 rfl ?_
                            refine g_istore F (L' := [(6, .int v1), (4, .int ((q_Mo_n tMo) - 3)), (8, .int 0), (7, .int 1), (5, .int (x22 + 2)), (3, .int x22), (0, .ref (ad 0)), (1, .int v1), (2, .int v2)]) d_Mo_comment_346 (by decide) rfl ?_
                            refine g_loc [6, 7, 8, 5, 1, 4, 0] rfl ?_
                            exact blk348 FU v1 v2 x22 ((q_Mo_n tMo) - 3) (x22 + 2) v1 tMo hf
                          · rw [if_pos h] at hf
                            refine g_iconst F (v := 1) d_Mo_comment_290 (by decide) ?_
                            refine g_goto F (tgt := 295) d_Mo_comment_291 (by decide) ?_
                            refine g_istore F (L' := [(8, .int 1), (7, .int 1), (6, .int 1), (5, .int (x22 + 2)), (4, .int x22), (3, .int x22), (0, .ref (ad 0)), (1, .int v1), (2, .int v2)]) d_Mo_comment_295 (by decide) rfl ?_
                            refine g_iload F d_Mo_comment_297 2 rfl ?_
                            refine g_if_eq F (tgt := 311) d_Mo_comment_299 (by decide) (fun h => absurd h (by decide)) (fun _ => ?_)
                            refine g_aload_n F d_Mo_comment_302 6 rfl ?_
                            refine g_get F (v := .int (q_Mo_n tMo)) in_X13 0 rfl rfl 5 (by decide) mw_1111 rfl d_Mo_comment_303 ?_
                            refine g_iconst F (v := 3) d_Mo_comment_306 (by decide) ?_
                            refine g_isub F d_Mo_comment_307 ?_
                            refine g_goto F (tgt := 343) d_Mo_comment_308 (by decide) ?_
                            refine g_istore F (L' := [(4, .int ((q_Mo_n tMo) - 3)), (8, .int 1), (7, .int 1), (6, .int 1), (5, .int (x22 + 2)), (3, .int x22), (0, .ref (ad 0)), (1, .int v1), (2, .int v2)]) d_Mo_comment_343 (by decide) rfl ?_
                            refine g_iload_n F d_Mo_comment_345 7 rfl ?_
                            refine g_istore F (L' := [(6, .int v1), (4, .int ((q_Mo_n tMo) - 3)), (8, .int 1), (7, .int 1), (5, .int (x22 + 2)), (3, .int x22), (0, .ref (ad 0)), (1, .int v1), (2, .int v2)]) d_Mo_comment_346 (by decide) rfl ?_
                            refine g_loc [6, 7, 8, 5, 1, 4, 0] rfl ?_
                            exact blk348 FU v1 v2 x22 ((q_Mo_n tMo) - 3) (x22 + 2) v1 tMo hf
    · rw [if_pos h] at hf
      refine g_aload_n F d_Mo_comment_119 2 rfl ?_
      refine g_get F (v := .int (q_Mo_n tMo)) in_X13 0 rfl rfl 5 (by decide) mw_1111 rfl d_Mo_comment_120 ?_
      refine g_goto F (tgt := 147) d_Mo_comment_123 (by decide) ?_
      refine g_istore F (L' := [(5, .int (q_Mo_n tMo)), (4, .int x22), (3, .int x22), (0, .ref (ad 0)), (1, .int v1), (2, .int v2)]) d_Mo_comment_147 (by decide) rfl ?_
      refine g_iload_n F d_Mo_comment_149 2 rfl ?_
      refine g_aload_n F d_Mo_comment_150 3 rfl ?_
      refine g_get F (v := .int (q_Mo_n tMo)) in_X13 0 rfl rfl 5 (by decide) mw_1111 rfl d_Mo_comment_151 ?_
      refine g_icmp_ne F (tgt := 345) d_Mo_comment_154 (by decide) (fun h => ?_) (fun h => ?_)
      · rw [if_neg h] at hf
        refine g_iload_n F d_Mo_comment_345 4 rfl ?_
        refine g_istore F (L' := [(6, .int v1), (5, .int (q_Mo_n tMo)), (4, .int x22), (3, .int x22), (0, .ref (ad 0)), (1, .int v1), (2, .int v2)]) d_Mo_comment_346 (by decide) rfl ?_
        refine g_loc [4, 5, 6, 3, 2, 1, 0] rfl ?_
        exact blk348 FU v1 v2 x22 x22 (q_Mo_n tMo) v1 tMo hf
      · rw [if_pos h] at hf
        refine g_aload_n F d_Mo_comment_157 3 rfl ?_
        refine g_get F (v := .int (q_Mo_n tMo)) in_X13 0 rfl rfl 5 (by decide) mw_1111 rfl d_Mo_comment_158 ?_
        refine g_iload_n F d_Mo_comment_161 4 rfl ?_
        refine g_isub F d_Mo_comment_162 ?_
        refine g_iconst F (v := 2) d_Mo_comment_163 (by decide) ?_
        refine g_icmp_le F (tgt := 216) d_Mo_comment_164 (by decide) (fun h => ?_) (fun h => ?_)
        · rw [if_pos h] at hf
          refine g_loc [3, 4, 5, 2, 1, 0] rfl ?_
          exact blk216 v1 v2 x22 x22 (q_Mo_n tMo) tMo hf
        · rw [if_neg h] at hf
          refine g_aload_n F d_Mo_comment_167 3 rfl ?_
          refine g_aload_n F d_Mo_comment_168 3 rfl ?_
          refine g_get F (v := .int (q_Mo_n tMo)) in_X13 0 rfl rfl 5 (by decide) mw_1111 rfl d_Mo_comment_169 ?_
          refine g_iconst F (v := 1) d_Mo_comment_172 (by decide) ?_
          refine g_isub F d_Mo_comment_173 ?_
          obtain ⟨x36, hx36, hf⟩ := g_bind hf
          refine g_ci F (r0 := x36) (ws' := (Wo ad cA tMo)) (fun H locs ls hP hD hS hl => g_runV F (As := [.int ((q_Mo_n tMo) - 1)]) (n := 1) mw_1228 rfl rfl ⟨by decide, by decide⟩ rfl (by exact Nat.le_of_ble_eq_true rfl) mw_1225 mw_1227 mw_34 mw_85 (by decide +kernel) d_Mo_comment_174 hP hD hS hl (va_recv F.2.2.2.2.2.1 hP (ci := 9) rfl (q0 := 0) rfl) (c_Mo_charAt l D cA z ad tMo ((q_Mo_n tMo) - 1) hx36 H.size)) ?_
          refine g_bipush F (v := 33) d_Mo_comment_177 (by decide) ?_
          refine g_icmp_ne F (tgt := 216) d_Mo_comment_179 (by decide) (fun h => ?_) (fun h => ?_)
          · rw [if_neg h] at hf
            refine g_loc [3, 4, 5, 2, 1, 0] rfl ?_
            exact blk216 v1 v2 x22 x22 (q_Mo_n tMo) tMo hf
          · rw [if_pos h] at hf
            refine g_aload_n F d_Mo_comment_182 3 rfl ?_
            refine g_aload_n F d_Mo_comment_183 3 rfl ?_
            refine g_get F (v := .int (q_Mo_n tMo)) in_X13 0 rfl rfl 5 (by decide) mw_1111 rfl d_Mo_comment_184 ?_
            refine g_iconst F (v := 2) d_Mo_comment_187 (by decide) ?_
            refine g_isub F d_Mo_comment_188 ?_
            obtain ⟨x37, hx37, hf⟩ := g_bind hf
            refine g_ci F (r0 := x37) (ws' := (Wo ad cA tMo)) (fun H locs ls hP hD hS hl => g_runV F (As := [.int ((q_Mo_n tMo) - 2)]) (n := 1) mw_1228 rfl rfl ⟨by decide, by decide⟩ rfl (by exact Nat.le_of_ble_eq_true rfl) mw_1225 mw_1227 mw_34 mw_85 (by decide +kernel) d_Mo_comment_189 hP hD hS hl (va_recv F.2.2.2.2.2.1 hP (ci := 9) rfl (q0 := 0) rfl) (c_Mo_charAt l D cA z ad tMo ((q_Mo_n tMo) - 2) hx37 H.size)) ?_
            refine g_bipush F (v := 45) d_Mo_comment_192 (by decide) ?_
            refine g_icmp_ne F (tgt := 216) d_Mo_comment_194 (by decide) (fun h => ?_) (fun h => ?_)
            · rw [if_neg h] at hf
              refine g_loc [3, 4, 5, 2, 1, 0] rfl ?_
              exact blk216 v1 v2 x22 x22 (q_Mo_n tMo) tMo hf
            · rw [if_pos h] at hf
              refine g_aload_n F d_Mo_comment_197 3 rfl ?_
              refine g_aload_n F d_Mo_comment_198 3 rfl ?_
              refine g_get F (v := .int (q_Mo_n tMo)) in_X13 0 rfl rfl 5 (by decide) mw_1111 rfl d_Mo_comment_199 ?_
              refine g_iconst F (v := 3) d_Mo_comment_202 (by decide) ?_
              refine g_isub F d_Mo_comment_203 ?_
              obtain ⟨x38, hx38, hf⟩ := g_bind hf
              refine g_ci F (r0 := x38) (ws' := (Wo ad cA tMo)) (fun H locs ls hP hD hS hl => g_runV F (As := [.int ((q_Mo_n tMo) - 3)]) (n := 1) mw_1228 rfl rfl ⟨by decide, by decide⟩ rfl (by exact Nat.le_of_ble_eq_true rfl) mw_1225 mw_1227 mw_34 mw_85 (by decide +kernel) d_Mo_comment_204 hP hD hS hl (va_recv F.2.2.2.2.2.1 hP (ci := 9) rfl (q0 := 0) rfl) (c_Mo_charAt l D cA z ad tMo ((q_Mo_n tMo) - 3) hx38 H.size)) ?_
              refine g_bipush F (v := 45) d_Mo_comment_207 (by decide) ?_
              refine g_icmp_ne F (tgt := 216) d_Mo_comment_209 (by decide) (fun h => ?_) (fun h => ?_)
              · rw [if_neg h] at hf
                refine g_loc [3, 4, 5, 2, 1, 0] rfl ?_
                exact blk216 v1 v2 x22 x22 (q_Mo_n tMo) tMo hf
              · rw [if_pos h] at hf
                refine g_iconst F (v := 1) d_Mo_comment_212 (by decide) ?_
                refine g_goto F (tgt := 217) d_Mo_comment_213 (by decide) ?_
                refine g_istore F (L' := [(6, .int 1), (5, .int (q_Mo_n tMo)), (4, .int x22), (3, .int x22), (0, .ref (ad 0)), (1, .int v1), (2, .int v2)]) d_Mo_comment_217 (by decide) rfl ?_
                refine g_aload_n F d_Mo_comment_219 4 rfl ?_
                refine g_get F (v := .int (q_Mo_n tMo)) in_X13 0 rfl rfl 5 (by decide) mw_1111 rfl d_Mo_comment_220 ?_
                refine g_iload_n F d_Mo_comment_223 5 rfl ?_
                refine g_isub F d_Mo_comment_224 ?_
                refine g_iconst F (v := 1) d_Mo_comment_225 (by decide) ?_
                refine g_icmp_le F (tgt := 263) d_Mo_comment_226 (by decide) (fun h => ?_) (fun h => ?_)
                · rw [if_pos h] at hf
                  refine g_loc [4, 5, 6, 3, 2, 1, 0] rfl ?_
                  exact blk263 v1 v2 x22 x22 (q_Mo_n tMo) 1 tMo hf
                · rw [if_neg h] at hf
                  refine g_aload_n F d_Mo_comment_229 4 rfl ?_
                  refine g_aload_n F d_Mo_comment_230 4 rfl ?_
                  refine g_get F (v := .int (q_Mo_n tMo)) in_X13 0 rfl rfl 5 (by decide) mw_1111 rfl d_Mo_comment_231 ?_
                  refine g_iconst F (v := 1) d_Mo_comment_234 (by decide) ?_
                  refine g_isub F d_Mo_comment_235 ?_
                  obtain ⟨x39, hx39, hf⟩ := g_bind hf
                  refine g_ci F (r0 := x39) (ws' := (Wo ad cA tMo)) (fun H locs ls hP hD hS hl => g_runV F (As := [.int ((q_Mo_n tMo) - 1)]) (n := 1) mw_1228 rfl rfl ⟨by decide, by decide⟩ rfl (by exact Nat.le_of_ble_eq_true rfl) mw_1225 mw_1227 mw_34 mw_85 (by decide +kernel) d_Mo_comment_236 hP hD hS hl (va_recv F.2.2.2.2.2.1 hP (ci := 9) rfl (q0 := 0) rfl) (c_Mo_charAt l D cA z ad tMo ((q_Mo_n tMo) - 1) hx39 H.size)) ?_
                  refine g_bipush F (v := 45) d_Mo_comment_239 (by decide) ?_
                  refine g_icmp_ne F (tgt := 263) d_Mo_comment_241 (by decide) (fun h => ?_) (fun h => ?_)
                  · rw [if_neg h] at hf
                    refine g_loc [4, 5, 6, 3, 2, 1, 0] rfl ?_
                    exact blk263 v1 v2 x22 x22 (q_Mo_n tMo) 1 tMo hf
                  · rw [if_pos h] at hf
                    refine g_aload_n F d_Mo_comment_244 4 rfl ?_
                    refine g_aload_n F d_Mo_comment_245 4 rfl ?_
                    refine g_get F (v := .int (q_Mo_n tMo)) in_X13 0 rfl rfl 5 (by decide) mw_1111 rfl d_Mo_comment_246 ?_
                    refine g_iconst F (v := 2) d_Mo_comment_249 (by decide) ?_
                    refine g_isub F d_Mo_comment_250 ?_
                    obtain ⟨x40, hx40, hf⟩ := g_bind hf
                    refine g_ci F (r0 := x40) (ws' := (Wo ad cA tMo)) (fun H locs ls hP hD hS hl => g_runV F (As := [.int ((q_Mo_n tMo) - 2)]) (n := 1) mw_1228 rfl rfl ⟨by decide, by decide⟩ rfl (by exact Nat.le_of_ble_eq_true rfl) mw_1225 mw_1227 mw_34 mw_85 (by decide +kernel) d_Mo_comment_251 hP hD hS hl (va_recv F.2.2.2.2.2.1 hP (ci := 9) rfl (q0 := 0) rfl) (c_Mo_charAt l D cA z ad tMo ((q_Mo_n tMo) - 2) hx40 H.size)) ?_
                    refine g_bipush F (v := 45) d_Mo_comment_254 (by decide) ?_
                    refine g_icmp_ne F (tgt := 263) d_Mo_comment_256 (by decide) (fun h => ?_) (fun h => ?_)
                    · rw [if_neg h] at hf
                      refine g_loc [4, 5, 6, 3, 2, 1, 0] rfl ?_
                      exact blk263 v1 v2 x22 x22 (q_Mo_n tMo) 1 tMo hf
                    · rw [if_pos h] at hf
                      refine g_iconst F (v := 1) d_Mo_comment_259 (by decide) ?_
                      refine g_goto F (tgt := 264) d_Mo_comment_260 (by decide) ?_
                      refine g_istore F (L' := [(7, .int 1), (6, .int 1), (5, .int (q_Mo_n tMo)), (4, .int x22), (3, .int x22), (0, .ref (ad 0)), (1, .int v1), (2, .int v2)]) d_Mo_comment_264 (by decide) rfl ?_
                      refine g_aload_n F d_Mo_comment_266 5 rfl ?_
                      refine g_get F (v := .int (q_Mo_n tMo)) in_X13 0 rfl rfl 5 (by decide) mw_1111 rfl d_Mo_comment_267 ?_
                      refine g_iload_n F d_Mo_comment_270 6 rfl ?_
                      refine g_isub F d_Mo_comment_271 ?_
                      refine g_if_le F (tgt := 294) d_Mo_comment_272 (by decide) (fun h => ?_) (fun h => ?_)
                      · rw [if_pos h] at hf
                        refine g_iconst F (v := 0) d_Mo_comment_294 (by decide) ?_
                        refine g_istore F (L' := [(8, .int 0), (7, .int 1), (6, .int 1), (5, .int (q_Mo_n tMo)), (4, .int x22), (3, .int x22), (0, .ref (ad 0)), (1, .int v1), (2, .int v2)]) d_Mo_comment_295 (by decide) rfl ?_
                        refine g_iload F d_Mo_comment_297 2 rfl ?_
                        refine g_if_eq F (tgt := 311) d_Mo_comment_299 (by decide) (fun h => absurd h (by decide)) (fun _ => ?_)
                        refine g_aload_n F d_Mo_comment_302 6 rfl ?_
                        refine g_get F (v := .int (q_Mo_n tMo)) in_X13 0 rfl rfl 5 (by decide) mw_1111 rfl d_Mo_comment_303 ?_
                        refine g_iconst F (v := 3) d_Mo_comment_306 (by decide) ?_
                        refine g_isub F d_Mo_comment_307 ?_
                        refine g_goto F (tgt := 343) d_Mo_comment_308 (by decide) ?_
                        refine g_istore F (L' := [(4, .int ((q_Mo_n tMo) - 3)), (8, .int 0), (7, .int 1), (6, .int 1), (5, .int (q_Mo_n tMo)), (3, .int x22), (0, .ref (ad 0)), (1, .int v1), (2, .int v2)]) d_Mo_comment_343 (by decide) rfl ?_
                        refine g_iload_n F d_Mo_comment_345 7 rfl ?_
                        refine g_istore F (L' := [(6, .int v1), (4, .int ((q_Mo_n tMo) - 3)), (8, .int 0), (7, .int 1), (5, .int (q_Mo_n tMo)), (3, .int x22), (0, .ref (ad 0)), (1, .int v1), (2, .int v2)]) d_Mo_comment_346 (by decide) rfl ?_
                        refine g_loc [6, 7, 8, 5, 1, 4, 0] rfl ?_
                        exact blk348 FU v1 v2 x22 ((q_Mo_n tMo) - 3) (q_Mo_n tMo) v1 tMo hf
                      · rw [if_neg h] at hf
                        refine g_aload_n F d_Mo_comment_275 5 rfl ?_
                        refine g_aload_n F d_Mo_comment_276 5 rfl ?_
                        refine g_get F (v := .int (q_Mo_n tMo)) in_X13 0 rfl rfl 5 (by decide) mw_1111 rfl d_Mo_comment_277 ?_
                        refine g_iconst F (v := 1) d_Mo_comment_280 (by decide) ?_
                        refine g_isub F d_Mo_comment_281 ?_
                        obtain ⟨x41, hx41, hf⟩ := g_bind hf
                        refine g_ci F (r0 := x41) (ws' := (Wo ad cA tMo)) (fun H locs ls hP hD hS hl => g_runV F (As := [.int ((q_Mo_n tMo) - 1)]) (n := 1) mw_1228 rfl rfl ⟨by decide, by decide⟩ rfl (by exact Nat.le_of_ble_eq_true rfl) mw_1225 mw_1227 mw_34 mw_85 (by decide +kernel) d_Mo_comment_282 hP hD hS hl (va_recv F.2.2.2.2.2.1 hP (ci := 9) rfl (q0 := 0) rfl) (c_Mo_charAt l D cA z ad tMo ((q_Mo_n tMo) - 1) hx41 H.size)) ?_
                        refine g_bipush F (v := 45) d_Mo_comment_285 (by decide) ?_
                        refine g_icmp_ne F (tgt := 294) d_Mo_comment_287 (by decide) (fun h => ?_) (fun h => ?_)
                        · rw [if_neg h] at hf
                          refine g_iconst F (v := 0) d_Mo_comment_294 (by decide) ?_
                          refine g_istore F (L' := [(8, .int 0), (7, .int 1), (6, .int 1), (5, .int (q_Mo_n tMo)), (4, .int x22), (3, .int x22), (0, .ref (ad 0)), (1, .int v1), (2, .int v2)]) d_Mo_comment_295 (by decide) rfl ?_
                          refine g_iload F d_Mo_comment_297 2 rfl ?_
                          refine g_if_eq F (tgt := 311) d_Mo_comment_299 (by decide) (fun h => absurd h (by decide)) (fun _ => ?_)
                          refine g_aload_n F d_Mo_comment_302 6 rfl ?_
                          refine g_get F (v := .int (q_Mo_n tMo)) in_X13 0 rfl rfl 5 (by decide) mw_1111 rfl d_Mo_comment_303 ?_
                          refine g_iconst F (v := 3) d_Mo_comment_306 (by decide) ?_
                          refine g_isub F d_Mo_comment_307 ?_
                          refine g_goto F (tgt := 343) d_Mo_comment_308 (by decide) ?_
                          refine g_istore F (L' := [(4, .int ((q_Mo_n tMo) - 3)), (8, .int 0), (7, .int 1), (6, .int 1), (5, .int (q_Mo_n tMo)), (3, .int x22), (0, .ref (ad 0)), (1, .int v1), (2, .int v2)]) d_Mo_comment_343 (by decide) rfl ?_
                          refine g_iload_n F d_Mo_comment_345 7 rfl ?_
                          refine g_istore F (L' := [(6, .int v1), (4, .int ((q_Mo_n tMo) - 3)), (8, .int 0), (7, .int 1), (5, .int (q_Mo_n tMo)), (3, .int x22), (0, .ref (ad 0)), (1, .int v1), (2, .int v2)]) d_Mo_comment_346 (by decide) rfl ?_
                          refine g_loc [6, 7, 8, 5, 1, 4, 0] rfl ?_
                          exact blk348 FU v1 v2 x22 ((q_Mo_n tMo) - 3) (q_Mo_n tMo) v1 tMo hf
                        · rw [if_pos h] at hf
                          refine g_iconst F (v := 1) d_Mo_comment_290 (by decide) ?_
                          refine g_goto F (tgt := 295) d_Mo_comment_291 (by decide) ?_
                          refine g_istore F (L' := [(8, .int 1), (7, .int 1), (6, .int 1), (5, .int (q_Mo_n tMo)), (4, .int x22), (3, .int x22), (0, .ref (ad 0)), (1, .int v1), (2, .int v2)]) d_Mo_comment_295 (by decide) rfl ?_
                          refine g_iload F d_Mo_comment_297 2 rfl ?_
                          refine g_if_eq F (tgt := 311) d_Mo_comment_299 (by decide) (fun h => absurd h (by decide)) (fun _ => ?_)
                          refine g_aload_n F d_Mo_comment_302 6 rfl ?_
                          refine g_get F (v := .int (q_Mo_n tMo)) in_X13 0 rfl rfl 5 (by decide) mw_1111 rfl d_Mo_comment_303 ?_
                          refine g_iconst F (v := 3) d_Mo_comment_306 (by decide) ?_
                          refine g_isub F d_Mo_comment_307 ?_
                          refine g_goto F (tgt := 343) d_Mo_comment_308 (by decide) ?_
                          refine g_istore F (L' := [(4, .int ((q_Mo_n tMo) - 3)), (8, .int 1), (7, .int 1), (6, .int 1), (5, .int (q_Mo_n tMo)), (3, .int x22), (0, .ref (ad 0)), (1, .int v1), (2, .int v2)]) d_Mo_comment_343 (by decide) rfl ?_
                          refine g_iload_n F d_Mo_comment_345 7 rfl ?_
                          refine g_istore F (L' := [(6, .int v1), (4, .int ((q_Mo_n tMo) - 3)), (8, .int 1), (7, .int 1), (5, .int (q_Mo_n tMo)), (3, .int x22), (0, .ref (ad 0)), (1, .int v1), (2, .int v2)]) d_Mo_comment_346 (by decide) rfl ?_
                          refine g_loc [6, 7, 8, 5, 1, 4, 0] rfl ?_
                          exact blk348 FU v1 v2 x22 ((q_Mo_n tMo) - 3) (q_Mo_n tMo) v1 tMo hf
  unfold f_Mo_comment at hf
  refine g_aload_n F d_Mo_comment_0 0 rfl ?_
  refine g_get F (v := .int (q_Mo_p sMo)) in_X13 0 rfl rfl 7 (by decide) mw_1113 rfl d_Mo_comment_1 ?_
  refine g_istore_n F (L' := [(1, .int (q_Mo_p sMo)), (0, .ref (ad 0))]) d_Mo_comment_4 rfl (by decide) rfl ?_
  refine g_aload_n F d_Mo_comment_5 1 rfl ?_
  refine g_aload_n F d_Mo_comment_6 1 rfl ?_
  refine g_get F (v := .int (q_Mo_p sMo)) in_X13 0 rfl rfl 7 (by decide) mw_1113 rfl d_Mo_comment_7 ?_
  obtain ⟨x42, hx42, hf⟩ := g_bind hf
  refine g_ci F (r0 := x42) (ws' := (Wo ad cA sMo)) (fun H locs ls hP hD hS hl => g_runV F (As := [.int (q_Mo_p sMo)]) (n := 1) mw_1228 rfl rfl ⟨by decide, by decide⟩ rfl (by exact Nat.le_of_ble_eq_true rfl) mw_1225 mw_1227 mw_34 mw_85 (by decide +kernel) d_Mo_comment_10 hP hD hS hl (va_recv F.2.2.2.2.2.1 hP (ci := 9) rfl (q0 := 0) rfl) (c_Mo_charAt l D cA z ad sMo (q_Mo_p sMo) hx42 H.size)) ?_
  refine g_bipush F (v := 62) d_Mo_comment_13 (by decide) ?_
  refine g_icmp_ne F (tgt := 22) d_Mo_comment_15 (by decide) (fun h => ?_) (fun h => ?_)
  · rw [if_neg h] at hf
    refine g_iconst F (v := 0) d_Mo_comment_22 (by decide) ?_
    refine g_istore_n F (L' := [(2, .int 0), (1, .int (q_Mo_p sMo)), (0, .ref (ad 0))]) d_Mo_comment_23 rfl (by decide) rfl ?_
    refine g_iload_n F d_Mo_comment_24 0 rfl ?_
    refine g_if_ne F (tgt := 56) d_Mo_comment_25 (by decide) (fun h => absurd h (by decide)) (fun _ => ?_)
    refine g_aload_n F d_Mo_comment_28 2 rfl ?_
    refine g_aload_n F d_Mo_comment_29 2 rfl ?_
    refine g_get F (v := .int (q_Mo_p sMo)) in_X13 0 rfl rfl 7 (by decide) mw_1113 rfl d_Mo_comment_30 ?_
    obtain ⟨x43, hx43, hf⟩ := g_bind hf
    refine g_ci F (r0 := x43) (ws' := (Wo ad cA sMo)) (fun H locs ls hP hD hS hl => g_runV F (As := [.int (q_Mo_p sMo)]) (n := 1) mw_1228 rfl rfl ⟨by decide, by decide⟩ rfl (by exact Nat.le_of_ble_eq_true rfl) mw_1225 mw_1227 mw_34 mw_85 (by decide +kernel) d_Mo_comment_33 hP hD hS hl (va_recv F.2.2.2.2.2.1 hP (ci := 9) rfl (q0 := 0) rfl) (c_Mo_charAt l D cA z ad sMo (q_Mo_p sMo) hx43 H.size)) ?_
    refine g_bipush F (v := 45) d_Mo_comment_36 (by decide) ?_
    refine g_icmp_ne F (tgt := 102) d_Mo_comment_38 (by decide) (fun h => ?_) (fun h => ?_)
    · rw [if_neg h] at hf
      refine g_loc [2, 1, 0] rfl ?_
      exact blk102 (q_Mo_p sMo) 0 sMo hf
    · rw [if_pos h] at hf
      refine g_aload_n F d_Mo_comment_41 2 rfl ?_
      refine g_aload_n F d_Mo_comment_42 2 rfl ?_
      refine g_get F (v := .int (q_Mo_p sMo)) in_X13 0 rfl rfl 7 (by decide) mw_1113 rfl d_Mo_comment_43 ?_
      refine g_iconst F (v := 1) d_Mo_comment_46 (by decide) ?_
      refine g_iadd F d_Mo_comment_47 ?_
      obtain ⟨x44, hx44, hf⟩ := g_bind hf
      refine g_ci F (r0 := x44) (ws' := (Wo ad cA sMo)) (fun H locs ls hP hD hS hl => g_runV F (As := [.int ((q_Mo_p sMo) + 1)]) (n := 1) mw_1228 rfl rfl ⟨by decide, by decide⟩ rfl (by exact Nat.le_of_ble_eq_true rfl) mw_1225 mw_1227 mw_34 mw_85 (by decide +kernel) d_Mo_comment_48 hP hD hS hl (va_recv F.2.2.2.2.2.1 hP (ci := 9) rfl (q0 := 0) rfl) (c_Mo_charAt l D cA z ad sMo ((q_Mo_p sMo) + 1) hx44 H.size)) ?_
      refine g_bipush F (v := 62) d_Mo_comment_51 (by decide) ?_
      refine g_icmp_ne F (tgt := 102) d_Mo_comment_53 (by decide) (fun h => ?_) (fun h => ?_)
      · rw [if_neg h] at hf
        refine g_loc [2, 1, 0] rfl ?_
        exact blk102 (q_Mo_p sMo) 0 sMo hf
      · rw [if_pos h] at hf
        refine g_aload_n F d_Mo_comment_56 2 rfl ?_
        refine g_iload_n F d_Mo_comment_57 0 rfl ?_
        refine g_if_eq F (tgt := 68) d_Mo_comment_58 (by decide) (fun _ => ?_) (fun h => absurd h (by decide))
        refine g_aload_n F d_Mo_comment_68 2 rfl ?_
        refine g_get F (v := .int (q_Mo_p sMo)) in_X13 0 rfl rfl 7 (by decide) mw_1113 rfl d_Mo_comment_69 ?_
        refine g_iconst F (v := 1) d_Mo_comment_72 (by decide) ?_
        refine g_iadd F d_Mo_comment_73 ?_
        refine g_put F in_X13 0 rfl rfl 7 (by decide) tyX13 tyX13_ok nmX13 mw_1113 rfl rfl rfl (Nat.le_of_ble_eq_true rfl) (ws' := (Wn ad cA (q_Mo_names sMo) (q_Mo_gives sMo) (q_Mo_turned sMo) (q_Mo_size sMo) (q_Mo_bytes sMo) (q_Mo_n sMo) (q_Mo_text sMo) ((q_Mo_p sMo) + 1) (q_Mo_ended sMo) (q_Mo_tokens sMo) (q_Mo_kinds sMo) (q_Mo_firsts sMo) (q_Mo_sizes sMo) (q_Mo_marks sMo) (q_Mo_attributes sMo) (q_Mo_manyOf sMo) (q_Mo_attributeCount sMo) (q_Mo_nameAt sMo) (q_Mo_nameSize sMo) (q_Mo_valueAt sMo) (q_Mo_valueSize sMo) (q_Mo_goes sMo) (q_Mo_rowSize sMo) (q_Mo_row sMo) (q_Mo_textAt sMo) (q_Mo_textSize sMo) (q_Mo_faultCount sMo) (q_Mo_codes sMo) (q_Mo_places sMo) (q_Mo_outSize sMo) (q_Mo_out sMo) (q_Mo_which sMo))) rfl d_Mo_comment_74 ?_
        refine g_aload_n F d_Mo_comment_77 2 rfl ?_
        refine g_bipush F (v := 17) d_Mo_comment_78 (by decide) ?_
        refine g_aload_n F d_Mo_comment_80 2 rfl ?_
        refine g_get F (v := .int ((q_Mo_p sMo) + 1)) in_X13 0 rfl rfl 7 (by decide) mw_1113 rfl d_Mo_comment_81 ?_
        obtain ⟨x45, hx45, hf⟩ := g_bind hf
        refine g_cv F (ws' := (Wo ad cA x45)) (fun H locs ls hP hD hS hl => g_runV F (As := [.int 17, .int ((q_Mo_p sMo) + 1)]) (n := 2) mw_1247 rfl rfl ⟨by decide, by decide⟩ rfl (by exact Nat.le_of_ble_eq_true rfl) mw_1244 mw_1246 mw_37 mw_85 (by decide +kernel) d_Mo_comment_84 hP hD hS hl (va_recv F.2.2.2.2.2.1 hP (ci := 9) rfl (q0 := 0) rfl) (c_Mo_wrong l D cA z ad (u_Mo_p sMo ((q_Mo_p sMo) + 1)) 17 ((q_Mo_p sMo) + 1) hx45 H.size)) ?_
        refine g_aload_n F d_Mo_comment_87 2 rfl ?_
        refine g_dup F d_Mo_comment_88 rfl ?_
        refine g_get F (v := .int (q_Mo_p x45)) in_X13 0 rfl rfl 7 (by decide) mw_1113 rfl d_Mo_comment_89 ?_
        refine g_iconst F (v := 1) d_Mo_comment_92 (by decide) ?_
        refine g_iadd F d_Mo_comment_93 ?_
        refine g_put F in_X13 0 rfl rfl 7 (by decide) tyX13 tyX13_ok nmX13 mw_1113 rfl rfl rfl (Nat.le_of_ble_eq_true rfl) (ws' := (Wn ad cA (q_Mo_names x45) (q_Mo_gives x45) (q_Mo_turned x45) (q_Mo_size x45) (q_Mo_bytes x45) (q_Mo_n x45) (q_Mo_text x45) ((q_Mo_p x45) + 1) (q_Mo_ended x45) (q_Mo_tokens x45) (q_Mo_kinds x45) (q_Mo_firsts x45) (q_Mo_sizes x45) (q_Mo_marks x45) (q_Mo_attributes x45) (q_Mo_manyOf x45) (q_Mo_attributeCount x45) (q_Mo_nameAt x45) (q_Mo_nameSize x45) (q_Mo_valueAt x45) (q_Mo_valueSize x45) (q_Mo_goes x45) (q_Mo_rowSize x45) (q_Mo_row x45) (q_Mo_textAt x45) (q_Mo_textSize x45) (q_Mo_faultCount x45) (q_Mo_codes x45) (q_Mo_places x45) (q_Mo_outSize x45) (q_Mo_out x45) (q_Mo_which x45))) rfl d_Mo_comment_94 ?_
        refine g_aload_n F d_Mo_comment_97 2 rfl ?_
        obtain ⟨x46, hx46, hf⟩ := g_bind hf
        refine g_cv F (ws' := (Wo ad cA x46)) (fun H locs ls hP hD hS hl => g_runV F (As := []) (n := 0) mw_1316 rfl rfl ⟨by decide, by decide⟩ rfl (by exact Nat.le_of_ble_eq_true rfl) mw_1313 mw_1315 mw_50 mw_85 (by decide +kernel) d_Mo_comment_98 hP hD hS hl (va_recv F.2.2.2.2.2.1 hP (ci := 9) rfl (q0 := 0) rfl) (c_Mo_tell l D cA z ad (u_Mo_p x45 ((q_Mo_p x45) + 1)) hx46 H.size)) ?_
        cases hf
        exact g_vret F hr hlk rfl rfl d_Mo_comment_101
  · rw [if_pos h] at hf
    refine g_iconst F (v := 1) d_Mo_comment_18 (by decide) ?_
    refine g_goto F (tgt := 23) d_Mo_comment_19 (by decide) ?_
    refine g_istore_n F (L' := [(2, .int 1), (1, .int (q_Mo_p sMo)), (0, .ref (ad 0))]) d_Mo_comment_23 rfl (by decide) rfl ?_
    refine g_iload_n F d_Mo_comment_24 0 rfl ?_
    refine g_if_ne F (tgt := 56) d_Mo_comment_25 (by decide) (fun _ => ?_) (fun h => absurd h (by decide))
    refine g_aload_n F d_Mo_comment_56 2 rfl ?_
    refine g_iload_n F d_Mo_comment_57 0 rfl ?_
    refine g_if_eq F (tgt := 68) d_Mo_comment_58 (by decide) (fun h => absurd h (by decide)) (fun _ => ?_)
    refine g_aload_n F d_Mo_comment_61 2 rfl ?_
    refine g_get F (v := .int (q_Mo_p sMo)) in_X13 0 rfl rfl 7 (by decide) mw_1113 rfl d_Mo_comment_62 ?_
    refine g_goto F (tgt := 74) d_Mo_comment_65 (by decide) ?_
    refine g_put F in_X13 0 rfl rfl 7 (by decide) tyX13 tyX13_ok nmX13 mw_1113 rfl rfl rfl (Nat.le_of_ble_eq_true rfl) (ws' := (Wn ad cA (q_Mo_names sMo) (q_Mo_gives sMo) (q_Mo_turned sMo) (q_Mo_size sMo) (q_Mo_bytes sMo) (q_Mo_n sMo) (q_Mo_text sMo) (q_Mo_p sMo) (q_Mo_ended sMo) (q_Mo_tokens sMo) (q_Mo_kinds sMo) (q_Mo_firsts sMo) (q_Mo_sizes sMo) (q_Mo_marks sMo) (q_Mo_attributes sMo) (q_Mo_manyOf sMo) (q_Mo_attributeCount sMo) (q_Mo_nameAt sMo) (q_Mo_nameSize sMo) (q_Mo_valueAt sMo) (q_Mo_valueSize sMo) (q_Mo_goes sMo) (q_Mo_rowSize sMo) (q_Mo_row sMo) (q_Mo_textAt sMo) (q_Mo_textSize sMo) (q_Mo_faultCount sMo) (q_Mo_codes sMo) (q_Mo_places sMo) (q_Mo_outSize sMo) (q_Mo_out sMo) (q_Mo_which sMo))) rfl d_Mo_comment_74 ?_
    refine g_aload_n F d_Mo_comment_77 2 rfl ?_
    refine g_bipush F (v := 17) d_Mo_comment_78 (by decide) ?_
    refine g_aload_n F d_Mo_comment_80 2 rfl ?_
    refine g_get F (v := .int (q_Mo_p sMo)) in_X13 0 rfl rfl 7 (by decide) mw_1113 rfl d_Mo_comment_81 ?_
    obtain ⟨x47, hx47, hf⟩ := g_bind hf
    refine g_cv F (ws' := (Wo ad cA x47)) (fun H locs ls hP hD hS hl => g_runV F (As := [.int 17, .int (q_Mo_p sMo)]) (n := 2) mw_1247 rfl rfl ⟨by decide, by decide⟩ rfl (by exact Nat.le_of_ble_eq_true rfl) mw_1244 mw_1246 mw_37 mw_85 (by decide +kernel) d_Mo_comment_84 hP hD hS hl (va_recv F.2.2.2.2.2.1 hP (ci := 9) rfl (q0 := 0) rfl) (c_Mo_wrong l D cA z ad (u_Mo_p sMo (q_Mo_p sMo)) 17 (q_Mo_p sMo) hx47 H.size)) ?_
    refine g_aload_n F d_Mo_comment_87 2 rfl ?_
    refine g_dup F d_Mo_comment_88 rfl ?_
    refine g_get F (v := .int (q_Mo_p x47)) in_X13 0 rfl rfl 7 (by decide) mw_1113 rfl d_Mo_comment_89 ?_
    refine g_iconst F (v := 1) d_Mo_comment_92 (by decide) ?_
    refine g_iadd F d_Mo_comment_93 ?_
    refine g_put F in_X13 0 rfl rfl 7 (by decide) tyX13 tyX13_ok nmX13 mw_1113 rfl rfl rfl (Nat.le_of_ble_eq_true rfl) (ws' := (Wn ad cA (q_Mo_names x47) (q_Mo_gives x47) (q_Mo_turned x47) (q_Mo_size x47) (q_Mo_bytes x47) (q_Mo_n x47) (q_Mo_text x47) ((q_Mo_p x47) + 1) (q_Mo_ended x47) (q_Mo_tokens x47) (q_Mo_kinds x47) (q_Mo_firsts x47) (q_Mo_sizes x47) (q_Mo_marks x47) (q_Mo_attributes x47) (q_Mo_manyOf x47) (q_Mo_attributeCount x47) (q_Mo_nameAt x47) (q_Mo_nameSize x47) (q_Mo_valueAt x47) (q_Mo_valueSize x47) (q_Mo_goes x47) (q_Mo_rowSize x47) (q_Mo_row x47) (q_Mo_textAt x47) (q_Mo_textSize x47) (q_Mo_faultCount x47) (q_Mo_codes x47) (q_Mo_places x47) (q_Mo_outSize x47) (q_Mo_out x47) (q_Mo_which x47))) rfl d_Mo_comment_94 ?_
    refine g_aload_n F d_Mo_comment_97 2 rfl ?_
    obtain ⟨x48, hx48, hf⟩ := g_bind hf
    refine g_cv F (ws' := (Wo ad cA x48)) (fun H locs ls hP hD hS hl => g_runV F (As := []) (n := 0) mw_1316 rfl rfl ⟨by decide, by decide⟩ rfl (by exact Nat.le_of_ble_eq_true rfl) mw_1313 mw_1315 mw_50 mw_85 (by decide +kernel) d_Mo_comment_98 hP hD hS hl (va_recv F.2.2.2.2.2.1 hP (ci := 9) rfl (q0 := 0) rfl) (c_Mo_tell l D cA z ad (u_Mo_p x47 ((q_Mo_p x47) + 1)) hx48 H.size)) ?_
    cases hf
    exact g_vret F hr hlk rfl rfl d_Mo_comment_101
