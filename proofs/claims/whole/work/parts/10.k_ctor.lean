abbrev wi_Ways_init_ReferenceWays (cA : Nat → ClassId) (z : gZ) (a p1 p2 : Nat) (u : Nat → Nat) : va_W := [(a, .inr (3, [.ref p1, .ref p2, .null]))]
set_option maxHeartbeats 4000000 in
set_option maxRecDepth 100000 in
theorem c_Ways_init_ReferenceWays (l : Launch) (D : va_G) (cA : Nat → ClassId) (z : gZ) (a p1 p2 : Nat) (sz : Nat) : Met l y_Ways_init (.code y_Ways_init b_Ways_init 3 none :: lw_g) { frames := 1, cells := 0, slots := 0, locals := 20 } (gP D (gT cA) z [.ref a, .ref p1, .ref p2] [(a, .inr (3, [.null, .null, .null]))] sz) (gQc D (gT cA) (va_A [(a, .inr (3, [.null, .null, .null]))] sz) (wi_Ways_init_ReferenceWays cA z a p1 p2)) 0 0 (va_A [(a, .inr (3, [.null, .null, .null]))] sz) := by
  refine h_met (by decide) rfl (Nat.le_of_ble_eq_true rfl) rfl ?_
  intro p e s m args below meth c F hr hlk hmn
  refine h_aload_n F d_Ways_init_0 0 rfl ?_
  refine h_objInit F mw_189 mw_100 mw_101 (by decide) (Nat.le_of_ble_eq_true rfl) d_Ways_init_1 ?_
  refine h_aload_n F d_Ways_init_4 0 rfl ?_
  refine h_aload_n F d_Ways_init_5 1 rfl ?_
  refine h_putF F in_X6 0 rfl rfl 0 (by decide) tyX6 tyX6_ok nmX6 mw_199 rfl hmn rfl rfl rfl (Nat.le_of_ble_eq_true rfl) (ws' := [(a, .inr (3, [.ref p1, .null, .null]))]) rfl d_Ways_init_6 ?_
  refine h_aload_n F d_Ways_init_9 0 rfl ?_
  refine h_aload_n F d_Ways_init_10 2 rfl ?_
  refine h_putF F in_X6 0 rfl rfl 1 (by decide) tyX6 tyX6_ok nmX6 mw_210 rfl hmn rfl rfl rfl (Nat.le_of_ble_eq_true rfl) (ws' := [(a, .inr (3, [.ref p1, .ref p2, .null]))]) rfl d_Ways_init_11 ?_
  exact h_vret F (fun k => ([] : List Nat).getD k 0) hr hlk (Nat.le_of_ble_eq_true rfl) (Nat.le_of_ble_eq_true rfl) rfl d_Ways_init_14
abbrev wi_Ways_init_TagWays (cA : Nat → ClassId) (z : gZ) (a p1 p2 : Nat) (u : Nat → Nat) : va_W := [(a, .inr (4, [.ref p1, .ref p2, .null, .int 0]))]
set_option maxHeartbeats 4000000 in
set_option maxRecDepth 100000 in
theorem c_Ways_init_TagWays (l : Launch) (D : va_G) (cA : Nat → ClassId) (z : gZ) (a p1 p2 : Nat) (sz : Nat) : Met l y_Ways_init (.code y_Ways_init b_Ways_init 3 none :: lw_g) { frames := 1, cells := 0, slots := 0, locals := 20 } (gP D (gT cA) z [.ref a, .ref p1, .ref p2] [(a, .inr (4, [.null, .null, .null, .int 0]))] sz) (gQc D (gT cA) (va_A [(a, .inr (4, [.null, .null, .null, .int 0]))] sz) (wi_Ways_init_TagWays cA z a p1 p2)) 0 0 (va_A [(a, .inr (4, [.null, .null, .null, .int 0]))] sz) := by
  refine h_met (by decide) rfl (Nat.le_of_ble_eq_true rfl) rfl ?_
  intro p e s m args below meth c F hr hlk hmn
  refine h_aload_n F d_Ways_init_0 0 rfl ?_
  refine h_objInit F mw_189 mw_100 mw_101 (by decide) (Nat.le_of_ble_eq_true rfl) d_Ways_init_1 ?_
  refine h_aload_n F d_Ways_init_4 0 rfl ?_
  refine h_aload_n F d_Ways_init_5 1 rfl ?_
  refine h_putF F in_X8 0 rfl rfl 0 (by decide) tyX8 tyX8_ok nmX8 mw_199 rfl hmn rfl rfl rfl (Nat.le_of_ble_eq_true rfl) (ws' := [(a, .inr (4, [.ref p1, .null, .null, .int 0]))]) rfl d_Ways_init_6 ?_
  refine h_aload_n F d_Ways_init_9 0 rfl ?_
  refine h_aload_n F d_Ways_init_10 2 rfl ?_
  refine h_putF F in_X8 0 rfl rfl 1 (by decide) tyX8 tyX8_ok nmX8 mw_210 rfl hmn rfl rfl rfl (Nat.le_of_ble_eq_true rfl) (ws' := [(a, .inr (4, [.ref p1, .ref p2, .null, .int 0]))]) rfl d_Ways_init_11 ?_
  exact h_vret F (fun k => ([] : List Nat).getD k 0) hr hlk (Nat.le_of_ble_eq_true rfl) (Nat.le_of_ble_eq_true rfl) rfl d_Ways_init_14
abbrev wi_Ways_init_CommentWays (cA : Nat → ClassId) (z : gZ) (a p1 p2 : Nat) (u : Nat → Nat) : va_W := [(a, .inr (5, [.ref p1, .ref p2, .int 0]))]
set_option maxHeartbeats 4000000 in
set_option maxRecDepth 100000 in
theorem c_Ways_init_CommentWays (l : Launch) (D : va_G) (cA : Nat → ClassId) (z : gZ) (a p1 p2 : Nat) (sz : Nat) : Met l y_Ways_init (.code y_Ways_init b_Ways_init 3 none :: lw_g) { frames := 1, cells := 0, slots := 0, locals := 20 } (gP D (gT cA) z [.ref a, .ref p1, .ref p2] [(a, .inr (5, [.null, .null, .int 0]))] sz) (gQc D (gT cA) (va_A [(a, .inr (5, [.null, .null, .int 0]))] sz) (wi_Ways_init_CommentWays cA z a p1 p2)) 0 0 (va_A [(a, .inr (5, [.null, .null, .int 0]))] sz) := by
  refine h_met (by decide) rfl (Nat.le_of_ble_eq_true rfl) rfl ?_
  intro p e s m args below meth c F hr hlk hmn
  refine h_aload_n F d_Ways_init_0 0 rfl ?_
  refine h_objInit F mw_189 mw_100 mw_101 (by decide) (Nat.le_of_ble_eq_true rfl) d_Ways_init_1 ?_
  refine h_aload_n F d_Ways_init_4 0 rfl ?_
  refine h_aload_n F d_Ways_init_5 1 rfl ?_
  refine h_putF F in_X1 0 rfl rfl 0 (by decide) tyX1 tyX1_ok nmX1 mw_199 rfl hmn rfl rfl rfl (Nat.le_of_ble_eq_true rfl) (ws' := [(a, .inr (5, [.ref p1, .null, .int 0]))]) rfl d_Ways_init_6 ?_
  refine h_aload_n F d_Ways_init_9 0 rfl ?_
  refine h_aload_n F d_Ways_init_10 2 rfl ?_
  refine h_putF F in_X1 0 rfl rfl 1 (by decide) tyX1 tyX1_ok nmX1 mw_210 rfl hmn rfl rfl rfl (Nat.le_of_ble_eq_true rfl) (ws' := [(a, .inr (5, [.ref p1, .ref p2, .int 0]))]) rfl d_Ways_init_11 ?_
  exact h_vret F (fun k => ([] : List Nat).getD k 0) hr hlk (Nat.le_of_ble_eq_true rfl) (Nat.le_of_ble_eq_true rfl) rfl d_Ways_init_14
abbrev wi_Ways_init_DoctypeWays (cA : Nat → ClassId) (z : gZ) (a p1 p2 : Nat) (u : Nat → Nat) : va_W := [(a, .inr (6, [.ref p1, .ref p2]))]
set_option maxHeartbeats 4000000 in
set_option maxRecDepth 100000 in
theorem c_Ways_init_DoctypeWays (l : Launch) (D : va_G) (cA : Nat → ClassId) (z : gZ) (a p1 p2 : Nat) (sz : Nat) : Met l y_Ways_init (.code y_Ways_init b_Ways_init 3 none :: lw_g) { frames := 1, cells := 0, slots := 0, locals := 20 } (gP D (gT cA) z [.ref a, .ref p1, .ref p2] [(a, .inr (6, [.null, .null]))] sz) (gQc D (gT cA) (va_A [(a, .inr (6, [.null, .null]))] sz) (wi_Ways_init_DoctypeWays cA z a p1 p2)) 0 0 (va_A [(a, .inr (6, [.null, .null]))] sz) := by
  refine h_met (by decide) rfl (Nat.le_of_ble_eq_true rfl) rfl ?_
  intro p e s m args below meth c F hr hlk hmn
  refine h_aload_n F d_Ways_init_0 0 rfl ?_
  refine h_objInit F mw_189 mw_100 mw_101 (by decide) (Nat.le_of_ble_eq_true rfl) d_Ways_init_1 ?_
  refine h_aload_n F d_Ways_init_4 0 rfl ?_
  refine h_aload_n F d_Ways_init_5 1 rfl ?_
  refine h_putF F in_X2 0 rfl rfl 0 (by decide) tyX2 tyX2_ok nmX2 mw_199 rfl hmn rfl rfl rfl (Nat.le_of_ble_eq_true rfl) (ws' := [(a, .inr (6, [.ref p1, .null]))]) rfl d_Ways_init_6 ?_
  refine h_aload_n F d_Ways_init_9 0 rfl ?_
  refine h_aload_n F d_Ways_init_10 2 rfl ?_
  refine h_putF F in_X2 0 rfl rfl 1 (by decide) tyX2 tyX2_ok nmX2 mw_210 rfl hmn rfl rfl rfl (Nat.le_of_ble_eq_true rfl) (ws' := [(a, .inr (6, [.ref p1, .ref p2]))]) rfl d_Ways_init_11 ?_
  exact h_vret F (fun k => ([] : List Nat).getD k 0) hr hlk (Nat.le_of_ble_eq_true rfl) (Nat.le_of_ble_eq_true rfl) rfl d_Ways_init_14
abbrev wi_Ways_init_Reader (cA : Nat → ClassId) (z : gZ) (a p1 p2 : Nat) (u : Nat → Nat) : va_W := [(a, .inr (7, [.ref p1, .ref p2, .null, .null, .null, .null]))]
set_option maxHeartbeats 4000000 in
set_option maxRecDepth 100000 in
theorem c_Ways_init_Reader (l : Launch) (D : va_G) (cA : Nat → ClassId) (z : gZ) (a p1 p2 : Nat) (sz : Nat) : Met l y_Ways_init (.code y_Ways_init b_Ways_init 3 none :: lw_g) { frames := 1, cells := 0, slots := 0, locals := 20 } (gP D (gT cA) z [.ref a, .ref p1, .ref p2] [(a, .inr (7, [.null, .null, .null, .null, .null, .null]))] sz) (gQc D (gT cA) (va_A [(a, .inr (7, [.null, .null, .null, .null, .null, .null]))] sz) (wi_Ways_init_Reader cA z a p1 p2)) 0 0 (va_A [(a, .inr (7, [.null, .null, .null, .null, .null, .null]))] sz) := by
  refine h_met (by decide) rfl (Nat.le_of_ble_eq_true rfl) rfl ?_
  intro p e s m args below meth c F hr hlk hmn
  refine h_aload_n F d_Ways_init_0 0 rfl ?_
  refine h_objInit F mw_189 mw_100 mw_101 (by decide) (Nat.le_of_ble_eq_true rfl) d_Ways_init_1 ?_
  refine h_aload_n F d_Ways_init_4 0 rfl ?_
  refine h_aload_n F d_Ways_init_5 1 rfl ?_
  refine h_putF F in_X5 0 rfl rfl 0 (by decide) tyX5 tyX5_ok nmX5 mw_199 rfl hmn rfl rfl rfl (Nat.le_of_ble_eq_true rfl) (ws' := [(a, .inr (7, [.ref p1, .null, .null, .null, .null, .null]))]) rfl d_Ways_init_6 ?_
  refine h_aload_n F d_Ways_init_9 0 rfl ?_
  refine h_aload_n F d_Ways_init_10 2 rfl ?_
  refine h_putF F in_X5 0 rfl rfl 1 (by decide) tyX5 tyX5_ok nmX5 mw_210 rfl hmn rfl rfl rfl (Nat.le_of_ble_eq_true rfl) (ws' := [(a, .inr (7, [.ref p1, .ref p2, .null, .null, .null, .null]))]) rfl d_Ways_init_11 ?_
  exact h_vret F (fun k => ([] : List Nat).getD k 0) hr hlk (Nat.le_of_ble_eq_true rfl) (Nat.le_of_ble_eq_true rfl) rfl d_Ways_init_14
abbrev wi_Source_init (cA : Nat → ClassId) (z : gZ) (a : Nat) (u : Nat → Nat) : va_W := [(a, .inr (1, [.ref (u 0), .int 0, .int 0, .ref (u 1), .ref (u 2), .int 0])), ((u 0), .inl (cA 0, 400, .inl (fun _ => 0))), ((u 1), .inl (cA 0, 1203, .inl (fun _ => 0))), ((u 2), .inl (cA 0, 1203, .inl (fun _ => 0)))]
set_option maxHeartbeats 4000000 in
set_option maxRecDepth 100000 in
theorem c_Source_init (l : Launch) (D : va_G) (cA : Nat → ClassId) (z : gZ) (a : Nat) (sz : Nat) : Met l y_Source_init (.code y_Source_init b_Source_init 1 none :: lw_g) { frames := 1, cells := 3, slots := 2806, locals := 20 } (gP D (gT cA) z [.ref a] [(a, .inr (1, [.null, .int 0, .int 0, .null, .null, .int 0]))] sz) (gQc D (gT cA) (va_A [(a, .inr (1, [.null, .int 0, .int 0, .null, .null, .int 0]))] sz) (wi_Source_init cA z a)) 3 2806 (va_A [(a, .inr (1, [.null, .int 0, .int 0, .null, .null, .int 0]))] sz) := by
  refine h_met (by decide) rfl (Nat.le_of_ble_eq_true rfl) rfl ?_
  intro p e s m args below meth c F hr hlk hmn
  refine h_aload_n F d_Source_init_0 0 rfl ?_
  refine h_objInit F mw_107 mw_100 mw_101 (by decide) (Nat.le_of_ble_eq_true rfl) d_Source_init_1 ?_
  refine h_aload_n F d_Source_init_4 0 rfl ?_
  refine h_sipush F (v := 400) d_Source_init_5 (by decide) ?_
  refine h_newa F (ty := .int) (N' := 400) (a0 := (400, .inl (fun _ => 0))) 0 rfl (fun _ _ h => h) mw_128 rfl (fun _ => rfl) (by decide) rfl (Nat.le_of_ble_eq_true rfl) (Nat.le_of_ble_eq_true rfl) (Nat.le_of_ble_eq_true rfl) d_Source_init_8 (fun q1 => ?_)
  refine h_ws (ws' := [(a, .inr (1, [.null, .int 0, .int 0, .null, .null, .int 0])), (q1, .inl (cA 0, 400, .inl (fun _ => 0)))]) rfl ?_
  refine h_putF F in_X7 0 rfl rfl 0 (by decide) tyX7 tyX7_ok nmX7 mw_108 rfl hmn rfl rfl rfl (Nat.le_of_ble_eq_true rfl) (ws' := [(a, .inr (1, [.ref q1, .int 0, .int 0, .null, .null, .int 0])), (q1, .inl (cA 0, 400, .inl (fun _ => 0)))]) rfl d_Source_init_10 ?_
  refine h_aload_n F d_Source_init_13 0 rfl ?_
  refine h_iconst F (v := 0) d_Source_init_14 (by decide) ?_
  refine h_put F in_X7 0 rfl rfl 1 (by decide) tyX7 tyX7_ok nmX7 mw_109 rfl rfl rfl (Nat.le_of_ble_eq_true rfl) (ws' := [(a, .inr (1, [.ref q1, .int 0, .int 0, .null, .null, .int 0])), (q1, .inl (cA 0, 400, .inl (fun _ => 0)))]) rfl d_Source_init_15 ?_
  refine h_aload_n F d_Source_init_18 0 rfl ?_
  refine h_iconst F (v := 0) d_Source_init_19 (by decide) ?_
  refine h_put F in_X7 0 rfl rfl 2 (by decide) tyX7 tyX7_ok nmX7 mw_110 rfl rfl rfl (Nat.le_of_ble_eq_true rfl) (ws' := [(a, .inr (1, [.ref q1, .int 0, .int 0, .null, .null, .int 0])), (q1, .inl (cA 0, 400, .inl (fun _ => 0)))]) rfl d_Source_init_20 ?_
  refine h_aload_n F d_Source_init_23 0 rfl ?_
  refine h_sipush F (v := 1203) d_Source_init_24 (by decide) ?_
  refine h_newa F (ty := .int) (N' := 1203) (a0 := (1203, .inl (fun _ => 0))) 0 rfl (fun _ _ h => h) mw_128 rfl (fun _ => rfl) (by decide) rfl (Nat.le_of_ble_eq_true rfl) (Nat.le_of_ble_eq_true rfl) (Nat.le_of_ble_eq_true rfl) d_Source_init_27 (fun q2 => ?_)
  refine h_ws (ws' := [(a, .inr (1, [.ref q1, .int 0, .int 0, .null, .null, .int 0])), (q1, .inl (cA 0, 400, .inl (fun _ => 0))), (q2, .inl (cA 0, 1203, .inl (fun _ => 0)))]) rfl ?_
  refine h_putF F in_X7 0 rfl rfl 3 (by decide) tyX7 tyX7_ok nmX7 mw_111 rfl hmn rfl rfl rfl (Nat.le_of_ble_eq_true rfl) (ws' := [(a, .inr (1, [.ref q1, .int 0, .int 0, .ref q2, .null, .int 0])), (q1, .inl (cA 0, 400, .inl (fun _ => 0))), (q2, .inl (cA 0, 1203, .inl (fun _ => 0)))]) rfl d_Source_init_29 ?_
  refine h_aload_n F d_Source_init_32 0 rfl ?_
  refine h_sipush F (v := 1203) d_Source_init_33 (by decide) ?_
  refine h_newa F (ty := .int) (N' := 1203) (a0 := (1203, .inl (fun _ => 0))) 0 rfl (fun _ _ h => h) mw_128 rfl (fun _ => rfl) (by decide) rfl (Nat.le_of_ble_eq_true rfl) (Nat.le_of_ble_eq_true rfl) (Nat.le_of_ble_eq_true rfl) d_Source_init_36 (fun q3 => ?_)
  refine h_ws (ws' := [(a, .inr (1, [.ref q1, .int 0, .int 0, .ref q2, .null, .int 0])), (q1, .inl (cA 0, 400, .inl (fun _ => 0))), (q2, .inl (cA 0, 1203, .inl (fun _ => 0))), (q3, .inl (cA 0, 1203, .inl (fun _ => 0)))]) rfl ?_
  refine h_putF F in_X7 0 rfl rfl 4 (by decide) tyX7 tyX7_ok nmX7 mw_112 rfl hmn rfl rfl rfl (Nat.le_of_ble_eq_true rfl) (ws' := [(a, .inr (1, [.ref q1, .int 0, .int 0, .ref q2, .ref q3, .int 0])), (q1, .inl (cA 0, 400, .inl (fun _ => 0))), (q2, .inl (cA 0, 1203, .inl (fun _ => 0))), (q3, .inl (cA 0, 1203, .inl (fun _ => 0)))]) rfl d_Source_init_38 ?_
  refine h_aload_n F d_Source_init_41 0 rfl ?_
  refine h_iconst F (v := 0) d_Source_init_42 (by decide) ?_
  refine h_put F in_X7 0 rfl rfl 5 (by decide) tyX7 tyX7_ok nmX7 mw_113 rfl rfl rfl (Nat.le_of_ble_eq_true rfl) (ws' := [(a, .inr (1, [.ref q1, .int 0, .int 0, .ref q2, .ref q3, .int 0])), (q1, .inl (cA 0, 400, .inl (fun _ => 0))), (q2, .inl (cA 0, 1203, .inl (fun _ => 0))), (q3, .inl (cA 0, 1203, .inl (fun _ => 0)))]) rfl d_Source_init_43 ?_
  exact h_vret F (fun k => ([q1, q2, q3] : List Nat).getD k 0) hr hlk (Nat.le_of_ble_eq_true rfl) (Nat.le_of_ble_eq_true rfl) rfl d_Source_init_46
abbrev wi_Tokens_init (cA : Nat → ClassId) (z : gZ) (a : Nat) (u : Nat → Nat) : va_W := [(a, .inr (2, [.ref (u 0), .int 0, .ref (u 1), .ref (u 2), .ref (u 3), .ref (u 4), .ref (u 5), .ref (u 6), .int 0, .int 0, .ref (u 7), .ref (u 8), .ref (u 9), .int 0, .int 0])), ((u 0), .inl (cA 0, 400, .inl (fun _ => 0))), ((u 1), .inl (cA 0, 400, .inl (fun _ => 0))), ((u 2), .inl (cA 0, 400, .inl (fun _ => 0))), ((u 3), .inl (cA 0, 400, .inl (fun _ => 0))), ((u 4), .inl (cA 0, 400, .inl (fun _ => 0))), ((u 5), .inl (cA 0, 400, .inl (fun _ => 0))), ((u 6), .inl (cA 0, 400, .inl (fun _ => 0))), ((u 7), .inl (cA 0, 400, .inl (fun _ => 0))), ((u 8), .inl (cA 0, 400, .inl (fun _ => 0))), ((u 9), .inl (cA 0, 400, .inl (fun _ => 0)))]
set_option maxHeartbeats 4000000 in
set_option maxRecDepth 100000 in
theorem c_Tokens_init (l : Launch) (D : va_G) (cA : Nat → ClassId) (z : gZ) (a : Nat) (sz : Nat) : Met l y_Tokens_init (.code y_Tokens_init b_Tokens_init 1 none :: lw_g) { frames := 1, cells := 10, slots := 4000, locals := 20 } (gP D (gT cA) z [.ref a] [(a, .inr (2, [.null, .int 0, .null, .null, .null, .null, .null, .null, .int 0, .int 0, .null, .null, .null, .int 0, .int 0]))] sz) (gQc D (gT cA) (va_A [(a, .inr (2, [.null, .int 0, .null, .null, .null, .null, .null, .null, .int 0, .int 0, .null, .null, .null, .int 0, .int 0]))] sz) (wi_Tokens_init cA z a)) 10 4000 (va_A [(a, .inr (2, [.null, .int 0, .null, .null, .null, .null, .null, .null, .int 0, .int 0, .null, .null, .null, .int 0, .int 0]))] sz) := by
  refine h_met (by decide) rfl (Nat.le_of_ble_eq_true rfl) rfl ?_
  intro p e s m args below meth c F hr hlk hmn
  refine h_aload_n F d_Tokens_init_0 0 rfl ?_
  refine h_objInit F mw_134 mw_100 mw_101 (by decide) (Nat.le_of_ble_eq_true rfl) d_Tokens_init_1 ?_
  refine h_aload_n F d_Tokens_init_4 0 rfl ?_
  refine h_sipush F (v := 400) d_Tokens_init_5 (by decide) ?_
  refine h_newa F (ty := .int) (N' := 400) (a0 := (400, .inl (fun _ => 0))) 0 rfl (fun _ _ h => h) mw_128 rfl (fun _ => rfl) (by decide) rfl (Nat.le_of_ble_eq_true rfl) (Nat.le_of_ble_eq_true rfl) (Nat.le_of_ble_eq_true rfl) d_Tokens_init_8 (fun q1 => ?_)
  refine h_ws (ws' := [(a, .inr (2, [.null, .int 0, .null, .null, .null, .null, .null, .null, .int 0, .int 0, .null, .null, .null, .int 0, .int 0])), (q1, .inl (cA 0, 400, .inl (fun _ => 0)))]) rfl ?_
  refine h_putF F in_X9 0 rfl rfl 0 (by decide) tyX9 tyX9_ok nmX9 mw_135 rfl hmn rfl rfl rfl (Nat.le_of_ble_eq_true rfl) (ws' := [(a, .inr (2, [.ref q1, .int 0, .null, .null, .null, .null, .null, .null, .int 0, .int 0, .null, .null, .null, .int 0, .int 0])), (q1, .inl (cA 0, 400, .inl (fun _ => 0)))]) rfl d_Tokens_init_10 ?_
  refine h_aload_n F d_Tokens_init_13 0 rfl ?_
  refine h_iconst F (v := 0) d_Tokens_init_14 (by decide) ?_
  refine h_put F in_X9 0 rfl rfl 1 (by decide) tyX9 tyX9_ok nmX9 mw_136 rfl rfl rfl (Nat.le_of_ble_eq_true rfl) (ws' := [(a, .inr (2, [.ref q1, .int 0, .null, .null, .null, .null, .null, .null, .int 0, .int 0, .null, .null, .null, .int 0, .int 0])), (q1, .inl (cA 0, 400, .inl (fun _ => 0)))]) rfl d_Tokens_init_15 ?_
  refine h_aload_n F d_Tokens_init_18 0 rfl ?_
  refine h_sipush F (v := 400) d_Tokens_init_19 (by decide) ?_
  refine h_newa F (ty := .int) (N' := 400) (a0 := (400, .inl (fun _ => 0))) 0 rfl (fun _ _ h => h) mw_128 rfl (fun _ => rfl) (by decide) rfl (Nat.le_of_ble_eq_true rfl) (Nat.le_of_ble_eq_true rfl) (Nat.le_of_ble_eq_true rfl) d_Tokens_init_22 (fun q2 => ?_)
  refine h_ws (ws' := [(a, .inr (2, [.ref q1, .int 0, .null, .null, .null, .null, .null, .null, .int 0, .int 0, .null, .null, .null, .int 0, .int 0])), (q1, .inl (cA 0, 400, .inl (fun _ => 0))), (q2, .inl (cA 0, 400, .inl (fun _ => 0)))]) rfl ?_
  refine h_putF F in_X9 0 rfl rfl 2 (by decide) tyX9 tyX9_ok nmX9 mw_137 rfl hmn rfl rfl rfl (Nat.le_of_ble_eq_true rfl) (ws' := [(a, .inr (2, [.ref q1, .int 0, .ref q2, .null, .null, .null, .null, .null, .int 0, .int 0, .null, .null, .null, .int 0, .int 0])), (q1, .inl (cA 0, 400, .inl (fun _ => 0))), (q2, .inl (cA 0, 400, .inl (fun _ => 0)))]) rfl d_Tokens_init_24 ?_
  refine h_aload_n F d_Tokens_init_27 0 rfl ?_
  refine h_sipush F (v := 400) d_Tokens_init_28 (by decide) ?_
  refine h_newa F (ty := .int) (N' := 400) (a0 := (400, .inl (fun _ => 0))) 0 rfl (fun _ _ h => h) mw_128 rfl (fun _ => rfl) (by decide) rfl (Nat.le_of_ble_eq_true rfl) (Nat.le_of_ble_eq_true rfl) (Nat.le_of_ble_eq_true rfl) d_Tokens_init_31 (fun q3 => ?_)
  refine h_ws (ws' := [(a, .inr (2, [.ref q1, .int 0, .ref q2, .null, .null, .null, .null, .null, .int 0, .int 0, .null, .null, .null, .int 0, .int 0])), (q1, .inl (cA 0, 400, .inl (fun _ => 0))), (q2, .inl (cA 0, 400, .inl (fun _ => 0))), (q3, .inl (cA 0, 400, .inl (fun _ => 0)))]) rfl ?_
  refine h_putF F in_X9 0 rfl rfl 3 (by decide) tyX9 tyX9_ok nmX9 mw_138 rfl hmn rfl rfl rfl (Nat.le_of_ble_eq_true rfl) (ws' := [(a, .inr (2, [.ref q1, .int 0, .ref q2, .ref q3, .null, .null, .null, .null, .int 0, .int 0, .null, .null, .null, .int 0, .int 0])), (q1, .inl (cA 0, 400, .inl (fun _ => 0))), (q2, .inl (cA 0, 400, .inl (fun _ => 0))), (q3, .inl (cA 0, 400, .inl (fun _ => 0)))]) rfl d_Tokens_init_33 ?_
  refine h_aload_n F d_Tokens_init_36 0 rfl ?_
  refine h_sipush F (v := 400) d_Tokens_init_37 (by decide) ?_
  refine h_newa F (ty := .int) (N' := 400) (a0 := (400, .inl (fun _ => 0))) 0 rfl (fun _ _ h => h) mw_128 rfl (fun _ => rfl) (by decide) rfl (Nat.le_of_ble_eq_true rfl) (Nat.le_of_ble_eq_true rfl) (Nat.le_of_ble_eq_true rfl) d_Tokens_init_40 (fun q4 => ?_)
  refine h_ws (ws' := [(a, .inr (2, [.ref q1, .int 0, .ref q2, .ref q3, .null, .null, .null, .null, .int 0, .int 0, .null, .null, .null, .int 0, .int 0])), (q1, .inl (cA 0, 400, .inl (fun _ => 0))), (q2, .inl (cA 0, 400, .inl (fun _ => 0))), (q3, .inl (cA 0, 400, .inl (fun _ => 0))), (q4, .inl (cA 0, 400, .inl (fun _ => 0)))]) rfl ?_
  refine h_putF F in_X9 0 rfl rfl 4 (by decide) tyX9 tyX9_ok nmX9 mw_139 rfl hmn rfl rfl rfl (Nat.le_of_ble_eq_true rfl) (ws' := [(a, .inr (2, [.ref q1, .int 0, .ref q2, .ref q3, .ref q4, .null, .null, .null, .int 0, .int 0, .null, .null, .null, .int 0, .int 0])), (q1, .inl (cA 0, 400, .inl (fun _ => 0))), (q2, .inl (cA 0, 400, .inl (fun _ => 0))), (q3, .inl (cA 0, 400, .inl (fun _ => 0))), (q4, .inl (cA 0, 400, .inl (fun _ => 0)))]) rfl d_Tokens_init_42 ?_
  refine h_aload_n F d_Tokens_init_45 0 rfl ?_
  refine h_sipush F (v := 400) d_Tokens_init_46 (by decide) ?_
  refine h_newa F (ty := .int) (N' := 400) (a0 := (400, .inl (fun _ => 0))) 0 rfl (fun _ _ h => h) mw_128 rfl (fun _ => rfl) (by decide) rfl (Nat.le_of_ble_eq_true rfl) (Nat.le_of_ble_eq_true rfl) (Nat.le_of_ble_eq_true rfl) d_Tokens_init_49 (fun q5 => ?_)
  refine h_ws (ws' := [(a, .inr (2, [.ref q1, .int 0, .ref q2, .ref q3, .ref q4, .null, .null, .null, .int 0, .int 0, .null, .null, .null, .int 0, .int 0])), (q1, .inl (cA 0, 400, .inl (fun _ => 0))), (q2, .inl (cA 0, 400, .inl (fun _ => 0))), (q3, .inl (cA 0, 400, .inl (fun _ => 0))), (q4, .inl (cA 0, 400, .inl (fun _ => 0))), (q5, .inl (cA 0, 400, .inl (fun _ => 0)))]) rfl ?_
  refine h_putF F in_X9 0 rfl rfl 5 (by decide) tyX9 tyX9_ok nmX9 mw_140 rfl hmn rfl rfl rfl (Nat.le_of_ble_eq_true rfl) (ws' := [(a, .inr (2, [.ref q1, .int 0, .ref q2, .ref q3, .ref q4, .ref q5, .null, .null, .int 0, .int 0, .null, .null, .null, .int 0, .int 0])), (q1, .inl (cA 0, 400, .inl (fun _ => 0))), (q2, .inl (cA 0, 400, .inl (fun _ => 0))), (q3, .inl (cA 0, 400, .inl (fun _ => 0))), (q4, .inl (cA 0, 400, .inl (fun _ => 0))), (q5, .inl (cA 0, 400, .inl (fun _ => 0)))]) rfl d_Tokens_init_51 ?_
  refine h_aload_n F d_Tokens_init_54 0 rfl ?_
  refine h_sipush F (v := 400) d_Tokens_init_55 (by decide) ?_
  refine h_newa F (ty := .int) (N' := 400) (a0 := (400, .inl (fun _ => 0))) 0 rfl (fun _ _ h => h) mw_128 rfl (fun _ => rfl) (by decide) rfl (Nat.le_of_ble_eq_true rfl) (Nat.le_of_ble_eq_true rfl) (Nat.le_of_ble_eq_true rfl) d_Tokens_init_58 (fun q6 => ?_)
  refine h_ws (ws' := [(a, .inr (2, [.ref q1, .int 0, .ref q2, .ref q3, .ref q4, .ref q5, .null, .null, .int 0, .int 0, .null, .null, .null, .int 0, .int 0])), (q1, .inl (cA 0, 400, .inl (fun _ => 0))), (q2, .inl (cA 0, 400, .inl (fun _ => 0))), (q3, .inl (cA 0, 400, .inl (fun _ => 0))), (q4, .inl (cA 0, 400, .inl (fun _ => 0))), (q5, .inl (cA 0, 400, .inl (fun _ => 0))), (q6, .inl (cA 0, 400, .inl (fun _ => 0)))]) rfl ?_
  refine h_putF F in_X9 0 rfl rfl 6 (by decide) tyX9 tyX9_ok nmX9 mw_141 rfl hmn rfl rfl rfl (Nat.le_of_ble_eq_true rfl) (ws' := [(a, .inr (2, [.ref q1, .int 0, .ref q2, .ref q3, .ref q4, .ref q5, .ref q6, .null, .int 0, .int 0, .null, .null, .null, .int 0, .int 0])), (q1, .inl (cA 0, 400, .inl (fun _ => 0))), (q2, .inl (cA 0, 400, .inl (fun _ => 0))), (q3, .inl (cA 0, 400, .inl (fun _ => 0))), (q4, .inl (cA 0, 400, .inl (fun _ => 0))), (q5, .inl (cA 0, 400, .inl (fun _ => 0))), (q6, .inl (cA 0, 400, .inl (fun _ => 0)))]) rfl d_Tokens_init_60 ?_
  refine h_aload_n F d_Tokens_init_63 0 rfl ?_
  refine h_sipush F (v := 400) d_Tokens_init_64 (by decide) ?_
  refine h_newa F (ty := .int) (N' := 400) (a0 := (400, .inl (fun _ => 0))) 0 rfl (fun _ _ h => h) mw_128 rfl (fun _ => rfl) (by decide) rfl (Nat.le_of_ble_eq_true rfl) (Nat.le_of_ble_eq_true rfl) (Nat.le_of_ble_eq_true rfl) d_Tokens_init_67 (fun q7 => ?_)
  refine h_ws (ws' := [(a, .inr (2, [.ref q1, .int 0, .ref q2, .ref q3, .ref q4, .ref q5, .ref q6, .null, .int 0, .int 0, .null, .null, .null, .int 0, .int 0])), (q1, .inl (cA 0, 400, .inl (fun _ => 0))), (q2, .inl (cA 0, 400, .inl (fun _ => 0))), (q3, .inl (cA 0, 400, .inl (fun _ => 0))), (q4, .inl (cA 0, 400, .inl (fun _ => 0))), (q5, .inl (cA 0, 400, .inl (fun _ => 0))), (q6, .inl (cA 0, 400, .inl (fun _ => 0))), (q7, .inl (cA 0, 400, .inl (fun _ => 0)))]) rfl ?_
  refine h_putF F in_X9 0 rfl rfl 7 (by decide) tyX9 tyX9_ok nmX9 mw_142 rfl hmn rfl rfl rfl (Nat.le_of_ble_eq_true rfl) (ws' := [(a, .inr (2, [.ref q1, .int 0, .ref q2, .ref q3, .ref q4, .ref q5, .ref q6, .ref q7, .int 0, .int 0, .null, .null, .null, .int 0, .int 0])), (q1, .inl (cA 0, 400, .inl (fun _ => 0))), (q2, .inl (cA 0, 400, .inl (fun _ => 0))), (q3, .inl (cA 0, 400, .inl (fun _ => 0))), (q4, .inl (cA 0, 400, .inl (fun _ => 0))), (q5, .inl (cA 0, 400, .inl (fun _ => 0))), (q6, .inl (cA 0, 400, .inl (fun _ => 0))), (q7, .inl (cA 0, 400, .inl (fun _ => 0)))]) rfl d_Tokens_init_69 ?_
  refine h_aload_n F d_Tokens_init_72 0 rfl ?_
  refine h_iconst F (v := 0) d_Tokens_init_73 (by decide) ?_
  refine h_put F in_X9 0 rfl rfl 8 (by decide) tyX9 tyX9_ok nmX9 mw_143 rfl rfl rfl (Nat.le_of_ble_eq_true rfl) (ws' := [(a, .inr (2, [.ref q1, .int 0, .ref q2, .ref q3, .ref q4, .ref q5, .ref q6, .ref q7, .int 0, .int 0, .null, .null, .null, .int 0, .int 0])), (q1, .inl (cA 0, 400, .inl (fun _ => 0))), (q2, .inl (cA 0, 400, .inl (fun _ => 0))), (q3, .inl (cA 0, 400, .inl (fun _ => 0))), (q4, .inl (cA 0, 400, .inl (fun _ => 0))), (q5, .inl (cA 0, 400, .inl (fun _ => 0))), (q6, .inl (cA 0, 400, .inl (fun _ => 0))), (q7, .inl (cA 0, 400, .inl (fun _ => 0)))]) rfl d_Tokens_init_74 ?_
  refine h_aload_n F d_Tokens_init_77 0 rfl ?_
  refine h_iconst F (v := 0) d_Tokens_init_78 (by decide) ?_
  refine h_put F in_X9 0 rfl rfl 9 (by decide) tyX9 tyX9_ok nmX9 mw_144 rfl rfl rfl (Nat.le_of_ble_eq_true rfl) (ws' := [(a, .inr (2, [.ref q1, .int 0, .ref q2, .ref q3, .ref q4, .ref q5, .ref q6, .ref q7, .int 0, .int 0, .null, .null, .null, .int 0, .int 0])), (q1, .inl (cA 0, 400, .inl (fun _ => 0))), (q2, .inl (cA 0, 400, .inl (fun _ => 0))), (q3, .inl (cA 0, 400, .inl (fun _ => 0))), (q4, .inl (cA 0, 400, .inl (fun _ => 0))), (q5, .inl (cA 0, 400, .inl (fun _ => 0))), (q6, .inl (cA 0, 400, .inl (fun _ => 0))), (q7, .inl (cA 0, 400, .inl (fun _ => 0)))]) rfl d_Tokens_init_79 ?_
  refine h_aload_n F d_Tokens_init_82 0 rfl ?_
  refine h_sipush F (v := 400) d_Tokens_init_83 (by decide) ?_
  refine h_newa F (ty := .int) (N' := 400) (a0 := (400, .inl (fun _ => 0))) 0 rfl (fun _ _ h => h) mw_128 rfl (fun _ => rfl) (by decide) rfl (Nat.le_of_ble_eq_true rfl) (Nat.le_of_ble_eq_true rfl) (Nat.le_of_ble_eq_true rfl) d_Tokens_init_86 (fun q8 => ?_)
  refine h_ws (ws' := [(a, .inr (2, [.ref q1, .int 0, .ref q2, .ref q3, .ref q4, .ref q5, .ref q6, .ref q7, .int 0, .int 0, .null, .null, .null, .int 0, .int 0])), (q1, .inl (cA 0, 400, .inl (fun _ => 0))), (q2, .inl (cA 0, 400, .inl (fun _ => 0))), (q3, .inl (cA 0, 400, .inl (fun _ => 0))), (q4, .inl (cA 0, 400, .inl (fun _ => 0))), (q5, .inl (cA 0, 400, .inl (fun _ => 0))), (q6, .inl (cA 0, 400, .inl (fun _ => 0))), (q7, .inl (cA 0, 400, .inl (fun _ => 0))), (q8, .inl (cA 0, 400, .inl (fun _ => 0)))]) rfl ?_
  refine h_putF F in_X9 0 rfl rfl 10 (by decide) tyX9 tyX9_ok nmX9 mw_145 rfl hmn rfl rfl rfl (Nat.le_of_ble_eq_true rfl) (ws' := [(a, .inr (2, [.ref q1, .int 0, .ref q2, .ref q3, .ref q4, .ref q5, .ref q6, .ref q7, .int 0, .int 0, .ref q8, .null, .null, .int 0, .int 0])), (q1, .inl (cA 0, 400, .inl (fun _ => 0))), (q2, .inl (cA 0, 400, .inl (fun _ => 0))), (q3, .inl (cA 0, 400, .inl (fun _ => 0))), (q4, .inl (cA 0, 400, .inl (fun _ => 0))), (q5, .inl (cA 0, 400, .inl (fun _ => 0))), (q6, .inl (cA 0, 400, .inl (fun _ => 0))), (q7, .inl (cA 0, 400, .inl (fun _ => 0))), (q8, .inl (cA 0, 400, .inl (fun _ => 0)))]) rfl d_Tokens_init_88 ?_
  refine h_aload_n F d_Tokens_init_91 0 rfl ?_
  refine h_sipush F (v := 400) d_Tokens_init_92 (by decide) ?_
  refine h_newa F (ty := .int) (N' := 400) (a0 := (400, .inl (fun _ => 0))) 0 rfl (fun _ _ h => h) mw_128 rfl (fun _ => rfl) (by decide) rfl (Nat.le_of_ble_eq_true rfl) (Nat.le_of_ble_eq_true rfl) (Nat.le_of_ble_eq_true rfl) d_Tokens_init_95 (fun q9 => ?_)
  refine h_ws (ws' := [(a, .inr (2, [.ref q1, .int 0, .ref q2, .ref q3, .ref q4, .ref q5, .ref q6, .ref q7, .int 0, .int 0, .ref q8, .null, .null, .int 0, .int 0])), (q1, .inl (cA 0, 400, .inl (fun _ => 0))), (q2, .inl (cA 0, 400, .inl (fun _ => 0))), (q3, .inl (cA 0, 400, .inl (fun _ => 0))), (q4, .inl (cA 0, 400, .inl (fun _ => 0))), (q5, .inl (cA 0, 400, .inl (fun _ => 0))), (q6, .inl (cA 0, 400, .inl (fun _ => 0))), (q7, .inl (cA 0, 400, .inl (fun _ => 0))), (q8, .inl (cA 0, 400, .inl (fun _ => 0))), (q9, .inl (cA 0, 400, .inl (fun _ => 0)))]) rfl ?_
  refine h_putF F in_X9 0 rfl rfl 11 (by decide) tyX9 tyX9_ok nmX9 mw_146 rfl hmn rfl rfl rfl (Nat.le_of_ble_eq_true rfl) (ws' := [(a, .inr (2, [.ref q1, .int 0, .ref q2, .ref q3, .ref q4, .ref q5, .ref q6, .ref q7, .int 0, .int 0, .ref q8, .ref q9, .null, .int 0, .int 0])), (q1, .inl (cA 0, 400, .inl (fun _ => 0))), (q2, .inl (cA 0, 400, .inl (fun _ => 0))), (q3, .inl (cA 0, 400, .inl (fun _ => 0))), (q4, .inl (cA 0, 400, .inl (fun _ => 0))), (q5, .inl (cA 0, 400, .inl (fun _ => 0))), (q6, .inl (cA 0, 400, .inl (fun _ => 0))), (q7, .inl (cA 0, 400, .inl (fun _ => 0))), (q8, .inl (cA 0, 400, .inl (fun _ => 0))), (q9, .inl (cA 0, 400, .inl (fun _ => 0)))]) rfl d_Tokens_init_97 ?_
  refine h_aload_n F d_Tokens_init_100 0 rfl ?_
  refine h_sipush F (v := 400) d_Tokens_init_101 (by decide) ?_
  refine h_newa F (ty := .int) (N' := 400) (a0 := (400, .inl (fun _ => 0))) 0 rfl (fun _ _ h => h) mw_128 rfl (fun _ => rfl) (by decide) rfl (Nat.le_of_ble_eq_true rfl) (Nat.le_of_ble_eq_true rfl) (Nat.le_of_ble_eq_true rfl) d_Tokens_init_104 (fun q10 => ?_)
  refine h_ws (ws' := [(a, .inr (2, [.ref q1, .int 0, .ref q2, .ref q3, .ref q4, .ref q5, .ref q6, .ref q7, .int 0, .int 0, .ref q8, .ref q9, .null, .int 0, .int 0])), (q1, .inl (cA 0, 400, .inl (fun _ => 0))), (q2, .inl (cA 0, 400, .inl (fun _ => 0))), (q3, .inl (cA 0, 400, .inl (fun _ => 0))), (q4, .inl (cA 0, 400, .inl (fun _ => 0))), (q5, .inl (cA 0, 400, .inl (fun _ => 0))), (q6, .inl (cA 0, 400, .inl (fun _ => 0))), (q7, .inl (cA 0, 400, .inl (fun _ => 0))), (q8, .inl (cA 0, 400, .inl (fun _ => 0))), (q9, .inl (cA 0, 400, .inl (fun _ => 0))), (q10, .inl (cA 0, 400, .inl (fun _ => 0)))]) rfl ?_
  refine h_putF F in_X9 0 rfl rfl 12 (by decide) tyX9 tyX9_ok nmX9 mw_147 rfl hmn rfl rfl rfl (Nat.le_of_ble_eq_true rfl) (ws' := [(a, .inr (2, [.ref q1, .int 0, .ref q2, .ref q3, .ref q4, .ref q5, .ref q6, .ref q7, .int 0, .int 0, .ref q8, .ref q9, .ref q10, .int 0, .int 0])), (q1, .inl (cA 0, 400, .inl (fun _ => 0))), (q2, .inl (cA 0, 400, .inl (fun _ => 0))), (q3, .inl (cA 0, 400, .inl (fun _ => 0))), (q4, .inl (cA 0, 400, .inl (fun _ => 0))), (q5, .inl (cA 0, 400, .inl (fun _ => 0))), (q6, .inl (cA 0, 400, .inl (fun _ => 0))), (q7, .inl (cA 0, 400, .inl (fun _ => 0))), (q8, .inl (cA 0, 400, .inl (fun _ => 0))), (q9, .inl (cA 0, 400, .inl (fun _ => 0))), (q10, .inl (cA 0, 400, .inl (fun _ => 0)))]) rfl d_Tokens_init_106 ?_
  refine h_aload_n F d_Tokens_init_109 0 rfl ?_
  refine h_iconst F (v := 0) d_Tokens_init_110 (by decide) ?_
  refine h_put F in_X9 0 rfl rfl 13 (by decide) tyX9 tyX9_ok nmX9 mw_148 rfl rfl rfl (Nat.le_of_ble_eq_true rfl) (ws' := [(a, .inr (2, [.ref q1, .int 0, .ref q2, .ref q3, .ref q4, .ref q5, .ref q6, .ref q7, .int 0, .int 0, .ref q8, .ref q9, .ref q10, .int 0, .int 0])), (q1, .inl (cA 0, 400, .inl (fun _ => 0))), (q2, .inl (cA 0, 400, .inl (fun _ => 0))), (q3, .inl (cA 0, 400, .inl (fun _ => 0))), (q4, .inl (cA 0, 400, .inl (fun _ => 0))), (q5, .inl (cA 0, 400, .inl (fun _ => 0))), (q6, .inl (cA 0, 400, .inl (fun _ => 0))), (q7, .inl (cA 0, 400, .inl (fun _ => 0))), (q8, .inl (cA 0, 400, .inl (fun _ => 0))), (q9, .inl (cA 0, 400, .inl (fun _ => 0))), (q10, .inl (cA 0, 400, .inl (fun _ => 0)))]) rfl d_Tokens_init_111 ?_
  refine h_aload_n F d_Tokens_init_114 0 rfl ?_
  refine h_iconst F (v := 0) d_Tokens_init_115 (by decide) ?_
  refine h_put F in_X9 0 rfl rfl 14 (by decide) tyX9 tyX9_ok nmX9 mw_149 rfl rfl rfl (Nat.le_of_ble_eq_true rfl) (ws' := [(a, .inr (2, [.ref q1, .int 0, .ref q2, .ref q3, .ref q4, .ref q5, .ref q6, .ref q7, .int 0, .int 0, .ref q8, .ref q9, .ref q10, .int 0, .int 0])), (q1, .inl (cA 0, 400, .inl (fun _ => 0))), (q2, .inl (cA 0, 400, .inl (fun _ => 0))), (q3, .inl (cA 0, 400, .inl (fun _ => 0))), (q4, .inl (cA 0, 400, .inl (fun _ => 0))), (q5, .inl (cA 0, 400, .inl (fun _ => 0))), (q6, .inl (cA 0, 400, .inl (fun _ => 0))), (q7, .inl (cA 0, 400, .inl (fun _ => 0))), (q8, .inl (cA 0, 400, .inl (fun _ => 0))), (q9, .inl (cA 0, 400, .inl (fun _ => 0))), (q10, .inl (cA 0, 400, .inl (fun _ => 0)))]) rfl d_Tokens_init_116 ?_
  exact h_vret F (fun k => ([q1, q2, q3, q4, q5, q6, q7, q8, q9, q10] : List Nat).getD k 0) hr hlk (Nat.le_of_ble_eq_true rfl) (Nat.le_of_ble_eq_true rfl) rfl d_Tokens_init_119
abbrev wi_Out_init (cA : Nat → ClassId) (z : gZ) (a p1 : Nat) (u : Nat → Nat) : va_W := [(a, .inr (8, [.ref p1, .ref (u 0), .int 0])), ((u 0), .inl (cA 1, 3200, .inl (fun _ => 0)))]
set_option maxHeartbeats 4000000 in
set_option maxRecDepth 100000 in
theorem c_Out_init (l : Launch) (D : va_G) (cA : Nat → ClassId) (z : gZ) (a p1 : Nat) (sz : Nat) : Met l y_Out_init (.code y_Out_init b_Out_init 2 none :: lw_g) { frames := 1, cells := 1, slots := 3200, locals := 20 } (gP D (gT cA) z [.ref a, .ref p1] [(a, .inr (8, [.null, .null, .int 0]))] sz) (gQc D (gT cA) (va_A [(a, .inr (8, [.null, .null, .int 0]))] sz) (wi_Out_init cA z a p1)) 1 3200 (va_A [(a, .inr (8, [.null, .null, .int 0]))] sz) := by
  refine h_met (by decide) rfl (Nat.le_of_ble_eq_true rfl) rfl ?_
  intro p e s m args below meth c F hr hlk hmn
  refine h_aload_n F d_Out_init_0 0 rfl ?_
  refine h_objInit F mw_284 mw_100 mw_101 (by decide) (Nat.le_of_ble_eq_true rfl) d_Out_init_1 ?_
  refine h_aload_n F d_Out_init_4 0 rfl ?_
  refine h_sipush F (v := 3200) d_Out_init_5 (by decide) ?_
  refine h_newa F (ty := .byte) (N' := 3200) (a0 := (3200, .inl (fun _ => 0))) 1 rfl (fun _ _ h => h) mw_127 rfl (fun _ => rfl) (by decide) rfl (Nat.le_of_ble_eq_true rfl) (Nat.le_of_ble_eq_true rfl) (Nat.le_of_ble_eq_true rfl) d_Out_init_8 (fun q1 => ?_)
  refine h_ws (ws' := [(a, .inr (8, [.null, .null, .int 0])), (q1, .inl (cA 1, 3200, .inl (fun _ => 0)))]) rfl ?_
  refine h_putF F in_X4 0 rfl rfl 1 (by decide) tyX4 tyX4_ok nmX4 mw_286 rfl hmn rfl rfl rfl (Nat.le_of_ble_eq_true rfl) (ws' := [(a, .inr (8, [.null, .ref q1, .int 0])), (q1, .inl (cA 1, 3200, .inl (fun _ => 0)))]) rfl d_Out_init_10 ?_
  refine h_aload_n F d_Out_init_13 0 rfl ?_
  refine h_iconst F (v := 0) d_Out_init_14 (by decide) ?_
  refine h_put F in_X4 0 rfl rfl 2 (by decide) tyX4 tyX4_ok nmX4 mw_287 rfl rfl rfl (Nat.le_of_ble_eq_true rfl) (ws' := [(a, .inr (8, [.null, .ref q1, .int 0])), (q1, .inl (cA 1, 3200, .inl (fun _ => 0)))]) rfl d_Out_init_15 ?_
  refine h_aload_n F d_Out_init_18 0 rfl ?_
  refine h_aload_n F d_Out_init_19 1 rfl ?_
  refine h_putF F in_X4 0 rfl rfl 0 (by decide) tyX4 tyX4_ok nmX4 mw_285 rfl hmn rfl rfl rfl (Nat.le_of_ble_eq_true rfl) (ws' := [(a, .inr (8, [.ref p1, .ref q1, .int 0])), (q1, .inl (cA 1, 3200, .inl (fun _ => 0)))]) rfl d_Out_init_20 ?_
  exact h_vret F (fun k => ([q1] : List Nat).getD k 0) hr hlk (Nat.le_of_ble_eq_true rfl) (Nat.le_of_ble_eq_true rfl) rfl d_Out_init_23
abbrev wi_ReferenceWays_init (cA : Nat → ClassId) (z : gZ) (a p1 p2 : Nat) (u : Nat → Nat) : va_W := [(a, .inr (3, [.ref p1, .ref p2, .ref (z.1 0)]))]
set_option maxHeartbeats 4000000 in
set_option maxRecDepth 100000 in
theorem c_ReferenceWays_init (l : Launch) (D : va_G) (cA : Nat → ClassId) (z : gZ) (a p1 p2 : Nat) (sz : Nat) : Met l y_ReferenceWays_init (.code y_ReferenceWays_init b_ReferenceWays_init 3 none :: lw_g) { frames := 2, cells := 0, slots := 0, locals := 42 } (gP D (gT cA) z [.ref a, .ref p1, .ref p2] [(a, .inr (3, [.null, .null, .null]))] sz) (gQc D (gT cA) (va_A [(a, .inr (3, [.null, .null, .null]))] sz) (wi_ReferenceWays_init cA z a p1 p2)) 0 0 (va_A [(a, .inr (3, [.null, .null, .null]))] sz) := by
  refine h_met (by decide) rfl (Nat.le_of_ble_eq_true rfl) rfl ?_
  intro p e s m args below meth c F hr hlk hmn
  refine h_aload_n F d_ReferenceWays_init_0 0 rfl ?_
  refine h_aload_n F d_ReferenceWays_init_1 1 rfl ?_
  refine h_aload_n F d_ReferenceWays_init_2 2 rfl ?_
  refine h_ctor F (As := [.ref p1, .ref p2]) (n := 2) (wc := [(a, .inr (3, [.null, .null, .null]))]) (wr := []) (W1 := wi_Ways_init_ReferenceWays cA z a p1 p2) (fun sz => c_Ways_init_ReferenceWays l D cA z a p1 p2 sz) mw_188 rfl rfl ⟨by decide, by decide⟩ rfl (by exact Nat.le_of_ble_eq_true rfl) mw_195 mw_187 mw_76 rfl (by decide +kernel) d_ReferenceWays_init_3 (Nat.le_of_ble_eq_true rfl) (Nat.le_of_ble_eq_true rfl) [0] [] rfl rfl (by decide) (by decide) (by decide) (fun u3 => ?_)
  refine h_ws (ws' := [(a, .inr (3, [.ref p1, .ref p2, .null]))]) rfl ?_
  refine h_aload_n F d_ReferenceWays_init_6 0 rfl ?_
  refine h_way F 0 (by decide) mw_196 d_ReferenceWays_init_7 ?_
  refine h_put F in_X6 0 rfl rfl 2 (by decide) tyX6 tyX6_ok nmX6 mw_198 rfl rfl rfl (Nat.le_of_ble_eq_true rfl) (ws' := [(a, .inr (3, [.ref p1, .ref p2, .ref (z.1 0)]))]) rfl d_ReferenceWays_init_10 ?_
  exact h_vret F (fun k => ([] : List Nat).getD k 0) hr hlk (Nat.le_of_ble_eq_true rfl) (Nat.le_of_ble_eq_true rfl) rfl d_ReferenceWays_init_13
abbrev wi_TagWays_init (cA : Nat → ClassId) (z : gZ) (a p1 p2 p3 : Nat) (u : Nat → Nat) : va_W := [(a, .inr (4, [.ref p1, .ref p2, .ref p3, .int 34]))]
set_option maxHeartbeats 4000000 in
set_option maxRecDepth 100000 in
theorem c_TagWays_init (l : Launch) (D : va_G) (cA : Nat → ClassId) (z : gZ) (a p1 p2 p3 : Nat) (sz : Nat) : Met l y_TagWays_init (.code y_TagWays_init b_TagWays_init 4 none :: lw_g) { frames := 2, cells := 0, slots := 0, locals := 42 } (gP D (gT cA) z [.ref a, .ref p1, .ref p2, .ref p3] [(a, .inr (4, [.null, .null, .null, .int 0]))] sz) (gQc D (gT cA) (va_A [(a, .inr (4, [.null, .null, .null, .int 0]))] sz) (wi_TagWays_init cA z a p1 p2 p3)) 0 0 (va_A [(a, .inr (4, [.null, .null, .null, .int 0]))] sz) := by
  refine h_met (by decide) rfl (Nat.le_of_ble_eq_true rfl) rfl ?_
  intro p e s m args below meth c F hr hlk hmn
  refine h_aload_n F d_TagWays_init_0 0 rfl ?_
  refine h_aload_n F d_TagWays_init_1 1 rfl ?_
  refine h_aload_n F d_TagWays_init_2 2 rfl ?_
  refine h_ctor F (As := [.ref p1, .ref p2]) (n := 2) (wc := [(a, .inr (4, [.null, .null, .null, .int 0]))]) (wr := []) (W1 := wi_Ways_init_TagWays cA z a p1 p2) (fun sz => c_Ways_init_TagWays l D cA z a p1 p2 sz) mw_188 rfl rfl ⟨by decide, by decide⟩ rfl (by exact Nat.le_of_ble_eq_true rfl) mw_233 mw_187 mw_76 rfl (by decide +kernel) d_TagWays_init_3 (Nat.le_of_ble_eq_true rfl) (Nat.le_of_ble_eq_true rfl) [0] [] rfl rfl (by decide) (by decide) (by decide) (fun u3 => ?_)
  refine h_ws (ws' := [(a, .inr (4, [.ref p1, .ref p2, .null, .int 0]))]) rfl ?_
  refine h_aload_n F d_TagWays_init_6 0 rfl ?_
  refine h_bipush F (v := 34) d_TagWays_init_7 (by decide) ?_
  refine h_put F in_X8 0 rfl rfl 3 (by decide) tyX8 tyX8_ok nmX8 mw_235 rfl rfl rfl (Nat.le_of_ble_eq_true rfl) (ws' := [(a, .inr (4, [.ref p1, .ref p2, .null, .int 34]))]) rfl d_TagWays_init_9 ?_
  refine h_aload_n F d_TagWays_init_12 0 rfl ?_
  refine h_aload_n F d_TagWays_init_13 3 rfl ?_
  refine h_putF F in_X8 0 rfl rfl 2 (by decide) tyX8 tyX8_ok nmX8 mw_234 rfl hmn rfl rfl rfl (Nat.le_of_ble_eq_true rfl) (ws' := [(a, .inr (4, [.ref p1, .ref p2, .ref p3, .int 34]))]) rfl d_TagWays_init_14 ?_
  exact h_vret F (fun k => ([] : List Nat).getD k 0) hr hlk (Nat.le_of_ble_eq_true rfl) (Nat.le_of_ble_eq_true rfl) rfl d_TagWays_init_17
abbrev wi_CommentWays_init (cA : Nat → ClassId) (z : gZ) (a p1 p2 : Nat) (u : Nat → Nat) : va_W := [(a, .inr (5, [.ref p1, .ref p2, .int (-1)]))]
set_option maxHeartbeats 4000000 in
set_option maxRecDepth 100000 in
theorem c_CommentWays_init (l : Launch) (D : va_G) (cA : Nat → ClassId) (z : gZ) (a p1 p2 : Nat) (sz : Nat) : Met l y_CommentWays_init (.code y_CommentWays_init b_CommentWays_init 3 none :: lw_g) { frames := 2, cells := 0, slots := 0, locals := 42 } (gP D (gT cA) z [.ref a, .ref p1, .ref p2] [(a, .inr (5, [.null, .null, .int 0]))] sz) (gQc D (gT cA) (va_A [(a, .inr (5, [.null, .null, .int 0]))] sz) (wi_CommentWays_init cA z a p1 p2)) 0 0 (va_A [(a, .inr (5, [.null, .null, .int 0]))] sz) := by
  refine h_met (by decide) rfl (Nat.le_of_ble_eq_true rfl) rfl ?_
  intro p e s m args below meth c F hr hlk hmn
  refine h_aload_n F d_CommentWays_init_0 0 rfl ?_
  refine h_aload_n F d_CommentWays_init_1 1 rfl ?_
  refine h_aload_n F d_CommentWays_init_2 2 rfl ?_
  refine h_ctor F (As := [.ref p1, .ref p2]) (n := 2) (wc := [(a, .inr (5, [.null, .null, .int 0]))]) (wr := []) (W1 := wi_Ways_init_CommentWays cA z a p1 p2) (fun sz => c_Ways_init_CommentWays l D cA z a p1 p2 sz) mw_188 rfl rfl ⟨by decide, by decide⟩ rfl (by exact Nat.le_of_ble_eq_true rfl) mw_248 mw_187 mw_76 rfl (by decide +kernel) d_CommentWays_init_3 (Nat.le_of_ble_eq_true rfl) (Nat.le_of_ble_eq_true rfl) [0] [] rfl rfl (by decide) (by decide) (by decide) (fun u3 => ?_)
  refine h_ws (ws' := [(a, .inr (5, [.ref p1, .ref p2, .int 0]))]) rfl ?_
  refine h_aload_n F d_CommentWays_init_6 0 rfl ?_
  refine h_iconst F (v := (-1)) d_CommentWays_init_7 (by decide) ?_
  refine h_put F in_X1 0 rfl rfl 2 (by decide) tyX1 tyX1_ok nmX1 mw_249 rfl rfl rfl (Nat.le_of_ble_eq_true rfl) (ws' := [(a, .inr (5, [.ref p1, .ref p2, .int (-1)]))]) rfl d_CommentWays_init_8 ?_
  exact h_vret F (fun k => ([] : List Nat).getD k 0) hr hlk (Nat.le_of_ble_eq_true rfl) (Nat.le_of_ble_eq_true rfl) rfl d_CommentWays_init_11
abbrev wi_DoctypeWays_init (cA : Nat → ClassId) (z : gZ) (a p1 p2 : Nat) (u : Nat → Nat) : va_W := [(a, .inr (6, [.ref p1, .ref p2]))]
set_option maxHeartbeats 4000000 in
set_option maxRecDepth 100000 in
theorem c_DoctypeWays_init (l : Launch) (D : va_G) (cA : Nat → ClassId) (z : gZ) (a p1 p2 : Nat) (sz : Nat) : Met l y_DoctypeWays_init (.code y_DoctypeWays_init b_DoctypeWays_init 3 none :: lw_g) { frames := 2, cells := 0, slots := 0, locals := 42 } (gP D (gT cA) z [.ref a, .ref p1, .ref p2] [(a, .inr (6, [.null, .null]))] sz) (gQc D (gT cA) (va_A [(a, .inr (6, [.null, .null]))] sz) (wi_DoctypeWays_init cA z a p1 p2)) 0 0 (va_A [(a, .inr (6, [.null, .null]))] sz) := by
  refine h_met (by decide) rfl (Nat.le_of_ble_eq_true rfl) rfl ?_
  intro p e s m args below meth c F hr hlk hmn
  refine h_aload_n F d_DoctypeWays_init_0 0 rfl ?_
  refine h_aload_n F d_DoctypeWays_init_1 1 rfl ?_
  refine h_aload_n F d_DoctypeWays_init_2 2 rfl ?_
  refine h_ctor F (As := [.ref p1, .ref p2]) (n := 2) (wc := [(a, .inr (6, [.null, .null]))]) (wr := []) (W1 := wi_Ways_init_DoctypeWays cA z a p1 p2) (fun sz => c_Ways_init_DoctypeWays l D cA z a p1 p2 sz) mw_188 rfl rfl ⟨by decide, by decide⟩ rfl (by exact Nat.le_of_ble_eq_true rfl) mw_260 mw_187 mw_76 rfl (by decide +kernel) d_DoctypeWays_init_3 (Nat.le_of_ble_eq_true rfl) (Nat.le_of_ble_eq_true rfl) [0] [] rfl rfl (by decide) (by decide) (by decide) (fun u3 => ?_)
  refine h_ws (ws' := [(a, .inr (6, [.ref p1, .ref p2]))]) rfl ?_
  exact h_vret F (fun k => ([] : List Nat).getD k 0) hr hlk (Nat.le_of_ble_eq_true rfl) (Nat.le_of_ble_eq_true rfl) rfl d_DoctypeWays_init_6
abbrev wi_Reader_init (cA : Nat → ClassId) (z : gZ) (a p1 p2 : Nat) (u : Nat → Nat) : va_W := [(a, .inr (7, [.ref p1, .ref p2, .ref (u 0), .ref (u 1), .ref (u 2), .ref (u 3)])), ((u 0), .inr (3, [.ref p1, .ref p2, .ref (z.1 0)])), ((u 1), .inr (4, [.ref p1, .ref p2, .ref (u 0), .int 34])), ((u 2), .inr (5, [.ref p1, .ref p2, .int (-1)])), ((u 3), .inr (6, [.ref p1, .ref p2]))]
set_option maxHeartbeats 4000000 in
set_option maxRecDepth 100000 in
theorem c_Reader_init (l : Launch) (D : va_G) (cA : Nat → ClassId) (z : gZ) (a p1 p2 : Nat) (sz : Nat) : Met l y_Reader_init (.code y_Reader_init b_Reader_init 3 none :: lw_g) { frames := 3, cells := 4, slots := 12, locals := 65 } (gP D (gT cA) z [.ref a, .ref p1, .ref p2] [(a, .inr (7, [.null, .null, .null, .null, .null, .null]))] sz) (gQc D (gT cA) (va_A [(a, .inr (7, [.null, .null, .null, .null, .null, .null]))] sz) (wi_Reader_init cA z a p1 p2)) 4 12 (va_A [(a, .inr (7, [.null, .null, .null, .null, .null, .null]))] sz) := by
  refine h_met (by decide) rfl (Nat.le_of_ble_eq_true rfl) rfl ?_
  intro p e s m args below meth c F hr hlk hmn
  refine h_aload_n F d_Reader_init_0 0 rfl ?_
  refine h_aload_n F d_Reader_init_1 1 rfl ?_
  refine h_aload_n F d_Reader_init_2 2 rfl ?_
  refine h_ctor F (As := [.ref p1, .ref p2]) (n := 2) (wc := [(a, .inr (7, [.null, .null, .null, .null, .null, .null]))]) (wr := []) (W1 := wi_Ways_init_Reader cA z a p1 p2) (fun sz => c_Ways_init_Reader l D cA z a p1 p2 sz) mw_188 rfl rfl ⟨by decide, by decide⟩ rfl (by exact Nat.le_of_ble_eq_true rfl) mw_186 mw_187 mw_76 rfl (by decide +kernel) d_Reader_init_3 (Nat.le_of_ble_eq_true rfl) (Nat.le_of_ble_eq_true rfl) [0] [] rfl rfl (by decide) (by decide) (by decide) (fun u3 => ?_)
  refine h_ws (ws' := [(a, .inr (7, [.ref p1, .ref p2, .null, .null, .null, .null]))]) rfl ?_
  refine h_aload_n F d_Reader_init_6 0 rfl ?_
  refine h_new F (ci := 3) (C := RX6) (T := TX6) (N := 3) (fs := [.null, .null, .null]) in_X6 tyX6 tyX6_ok mw_190 mw_191 mw_78 rfl (by decide +kernel) (Nat.le_of_ble_eq_true rfl) (Nat.le_of_ble_eq_true rfl) d_Reader_init_7 (fun q1 => ?_)
  refine h_ws (ws' := [(a, .inr (7, [.ref p1, .ref p2, .null, .null, .null, .null])), (q1, .inr (3, [.null, .null, .null]))]) rfl ?_
  refine h_dup F d_Reader_init_10 rfl ?_
  refine h_aload_n F d_Reader_init_11 1 rfl ?_
  refine h_aload_n F d_Reader_init_12 2 rfl ?_
  refine h_ctor F (As := [.ref p1, .ref p2]) (n := 2) (wc := [(q1, .inr (3, [.null, .null, .null]))]) (wr := [(a, .inr (7, [.ref p1, .ref p2, .null, .null, .null, .null]))]) (W1 := wi_ReferenceWays_init cA z q1 p1 p2) (fun sz => c_ReferenceWays_init l D cA z q1 p1 p2 sz) mw_194 rfl rfl ⟨by decide, by decide⟩ rfl (by exact Nat.le_of_ble_eq_true rfl) mw_192 mw_193 mw_78 rfl (by decide +kernel) d_Reader_init_13 (Nat.le_of_ble_eq_true rfl) (Nat.le_of_ble_eq_true rfl) [1] [0] rfl rfl (by decide) (by decide) (by decide) (fun u13 => ?_)
  refine h_ws (ws' := [(a, .inr (7, [.ref p1, .ref p2, .null, .null, .null, .null])), (q1, .inr (3, [.ref p1, .ref p2, .ref (z.1 0)]))]) rfl ?_
  refine h_putF F in_X5 0 rfl rfl 2 (by decide) tyX5 tyX5_ok nmX5 mw_264 rfl hmn rfl rfl rfl (Nat.le_of_ble_eq_true rfl) (ws' := [(a, .inr (7, [.ref p1, .ref p2, .ref q1, .null, .null, .null])), (q1, .inr (3, [.ref p1, .ref p2, .ref (z.1 0)]))]) rfl d_Reader_init_16 ?_
  refine h_aload_n F d_Reader_init_19 0 rfl ?_
  refine h_new F (ci := 4) (C := RX8) (T := TX8) (N := 4) (fs := [.null, .null, .null, .int 0]) in_X8 tyX8 tyX8_ok mw_228 mw_229 mw_81 rfl (by decide +kernel) (Nat.le_of_ble_eq_true rfl) (Nat.le_of_ble_eq_true rfl) d_Reader_init_20 (fun q2 => ?_)
  refine h_ws (ws' := [(a, .inr (7, [.ref p1, .ref p2, .ref q1, .null, .null, .null])), (q1, .inr (3, [.ref p1, .ref p2, .ref (z.1 0)])), (q2, .inr (4, [.null, .null, .null, .int 0]))]) rfl ?_
  refine h_dup F d_Reader_init_23 rfl ?_
  refine h_aload_n F d_Reader_init_24 1 rfl ?_
  refine h_aload_n F d_Reader_init_25 2 rfl ?_
  refine h_aload_n F d_Reader_init_26 0 rfl ?_
  refine h_get F (v := .ref q1) in_X5 0 rfl rfl 2 (by decide) mw_264 rfl d_Reader_init_27 ?_
  refine h_ctor F (As := [.ref p1, .ref p2, .ref q1]) (n := 3) (wc := [(q2, .inr (4, [.null, .null, .null, .int 0]))]) (wr := [(a, .inr (7, [.ref p1, .ref p2, .ref q1, .null, .null, .null])), (q1, .inr (3, [.ref p1, .ref p2, .ref (z.1 0)]))]) (W1 := wi_TagWays_init cA z q2 p1 p2 q1) (fun sz => c_TagWays_init l D cA z q2 p1 p2 q1 sz) mw_232 rfl rfl ⟨by decide, by decide⟩ rfl (by exact Nat.le_of_ble_eq_true rfl) mw_230 mw_231 mw_81 rfl (by decide +kernel) d_Reader_init_30 (Nat.le_of_ble_eq_true rfl) (Nat.le_of_ble_eq_true rfl) [2] [0, 1] rfl rfl (by decide) (by decide) (by decide) (fun u30 => ?_)
  refine h_ws (ws' := [(a, .inr (7, [.ref p1, .ref p2, .ref q1, .null, .null, .null])), (q1, .inr (3, [.ref p1, .ref p2, .ref (z.1 0)])), (q2, .inr (4, [.ref p1, .ref p2, .ref q1, .int 34]))]) rfl ?_
  refine h_putF F in_X5 0 rfl rfl 3 (by decide) tyX5 tyX5_ok nmX5 mw_265 rfl hmn rfl rfl rfl (Nat.le_of_ble_eq_true rfl) (ws' := [(a, .inr (7, [.ref p1, .ref p2, .ref q1, .ref q2, .null, .null])), (q1, .inr (3, [.ref p1, .ref p2, .ref (z.1 0)])), (q2, .inr (4, [.ref p1, .ref p2, .ref q1, .int 34]))]) rfl d_Reader_init_33 ?_
  refine h_aload_n F d_Reader_init_36 0 rfl ?_
  refine h_new F (ci := 5) (C := RX1) (T := TX1) (N := 3) (fs := [.null, .null, .int 0]) in_X1 tyX1 tyX1_ok mw_243 mw_244 mw_82 rfl (by decide +kernel) (Nat.le_of_ble_eq_true rfl) (Nat.le_of_ble_eq_true rfl) d_Reader_init_37 (fun q3 => ?_)
  refine h_ws (ws' := [(a, .inr (7, [.ref p1, .ref p2, .ref q1, .ref q2, .null, .null])), (q1, .inr (3, [.ref p1, .ref p2, .ref (z.1 0)])), (q2, .inr (4, [.ref p1, .ref p2, .ref q1, .int 34])), (q3, .inr (5, [.null, .null, .int 0]))]) rfl ?_
  refine h_dup F d_Reader_init_40 rfl ?_
  refine h_aload_n F d_Reader_init_41 1 rfl ?_
  refine h_aload_n F d_Reader_init_42 2 rfl ?_
  refine h_ctor F (As := [.ref p1, .ref p2]) (n := 2) (wc := [(q3, .inr (5, [.null, .null, .int 0]))]) (wr := [(a, .inr (7, [.ref p1, .ref p2, .ref q1, .ref q2, .null, .null])), (q1, .inr (3, [.ref p1, .ref p2, .ref (z.1 0)])), (q2, .inr (4, [.ref p1, .ref p2, .ref q1, .int 34]))]) (W1 := wi_CommentWays_init cA z q3 p1 p2) (fun sz => c_CommentWays_init l D cA z q3 p1 p2 sz) mw_247 rfl rfl ⟨by decide, by decide⟩ rfl (by exact Nat.le_of_ble_eq_true rfl) mw_245 mw_246 mw_82 rfl (by decide +kernel) d_Reader_init_43 (Nat.le_of_ble_eq_true rfl) (Nat.le_of_ble_eq_true rfl) [3] [0, 1, 2] rfl rfl (by decide) (by decide) (by decide) (fun u43 => ?_)
  refine h_ws (ws' := [(a, .inr (7, [.ref p1, .ref p2, .ref q1, .ref q2, .null, .null])), (q1, .inr (3, [.ref p1, .ref p2, .ref (z.1 0)])), (q2, .inr (4, [.ref p1, .ref p2, .ref q1, .int 34])), (q3, .inr (5, [.ref p1, .ref p2, .int (-1)]))]) rfl ?_
  refine h_putF F in_X5 0 rfl rfl 4 (by decide) tyX5 tyX5_ok nmX5 mw_266 rfl hmn rfl rfl rfl (Nat.le_of_ble_eq_true rfl) (ws' := [(a, .inr (7, [.ref p1, .ref p2, .ref q1, .ref q2, .ref q3, .null])), (q1, .inr (3, [.ref p1, .ref p2, .ref (z.1 0)])), (q2, .inr (4, [.ref p1, .ref p2, .ref q1, .int 34])), (q3, .inr (5, [.ref p1, .ref p2, .int (-1)]))]) rfl d_Reader_init_46 ?_
  refine h_aload_n F d_Reader_init_49 0 rfl ?_
  refine h_new F (ci := 6) (C := RX2) (T := TX2) (N := 2) (fs := [.null, .null]) in_X2 tyX2 tyX2_ok mw_255 mw_256 mw_83 rfl (by decide +kernel) (Nat.le_of_ble_eq_true rfl) (Nat.le_of_ble_eq_true rfl) d_Reader_init_50 (fun q4 => ?_)
  refine h_ws (ws' := [(a, .inr (7, [.ref p1, .ref p2, .ref q1, .ref q2, .ref q3, .null])), (q1, .inr (3, [.ref p1, .ref p2, .ref (z.1 0)])), (q2, .inr (4, [.ref p1, .ref p2, .ref q1, .int 34])), (q3, .inr (5, [.ref p1, .ref p2, .int (-1)])), (q4, .inr (6, [.null, .null]))]) rfl ?_
  refine h_dup F d_Reader_init_53 rfl ?_
  refine h_aload_n F d_Reader_init_54 1 rfl ?_
  refine h_aload_n F d_Reader_init_55 2 rfl ?_
  refine h_ctor F (As := [.ref p1, .ref p2]) (n := 2) (wc := [(q4, .inr (6, [.null, .null]))]) (wr := [(a, .inr (7, [.ref p1, .ref p2, .ref q1, .ref q2, .ref q3, .null])), (q1, .inr (3, [.ref p1, .ref p2, .ref (z.1 0)])), (q2, .inr (4, [.ref p1, .ref p2, .ref q1, .int 34])), (q3, .inr (5, [.ref p1, .ref p2, .int (-1)]))]) (W1 := wi_DoctypeWays_init cA z q4 p1 p2) (fun sz => c_DoctypeWays_init l D cA z q4 p1 p2 sz) mw_259 rfl rfl ⟨by decide, by decide⟩ rfl (by exact Nat.le_of_ble_eq_true rfl) mw_257 mw_258 mw_83 rfl (by decide +kernel) d_Reader_init_56 (Nat.le_of_ble_eq_true rfl) (Nat.le_of_ble_eq_true rfl) [4] [0, 1, 2, 3] rfl rfl (by decide) (by decide) (by decide) (fun u56 => ?_)
  refine h_ws (ws' := [(a, .inr (7, [.ref p1, .ref p2, .ref q1, .ref q2, .ref q3, .null])), (q1, .inr (3, [.ref p1, .ref p2, .ref (z.1 0)])), (q2, .inr (4, [.ref p1, .ref p2, .ref q1, .int 34])), (q3, .inr (5, [.ref p1, .ref p2, .int (-1)])), (q4, .inr (6, [.ref p1, .ref p2]))]) rfl ?_
  refine h_putF F in_X5 0 rfl rfl 5 (by decide) tyX5 tyX5_ok nmX5 mw_267 rfl hmn rfl rfl rfl (Nat.le_of_ble_eq_true rfl) (ws' := [(a, .inr (7, [.ref p1, .ref p2, .ref q1, .ref q2, .ref q3, .ref q4])), (q1, .inr (3, [.ref p1, .ref p2, .ref (z.1 0)])), (q2, .inr (4, [.ref p1, .ref p2, .ref q1, .int 34])), (q3, .inr (5, [.ref p1, .ref p2, .int (-1)])), (q4, .inr (6, [.ref p1, .ref p2]))]) rfl d_Reader_init_59 ?_
  exact h_vret F (fun k => ([q1, q2, q3, q4] : List Nat).getD k 0) hr hlk (Nat.le_of_ble_eq_true rfl) (Nat.le_of_ble_eq_true rfl) rfl d_Reader_init_62
def i0_Mt : SMt := (fun _ => 0, 0)
def i0_Source : SSource := (fun _ => 0, 0, 0, fun _ => 0, fun _ => 0, 0)
def i0_Tokens : STokens := (fun _ => 0, 0, fun _ => 0, fun _ => 0, fun _ => 0, fun _ => 0, fun _ => 0, fun _ => 0, 0, 0, fun _ => 0, fun _ => 0, fun _ => 0, 0, 0)
def i0_ReferenceWays : SReferenceWays := 0
def i0_TagWays : STagWays := 34
def i0_CommentWays : SCommentWays := (-1)
def i0_Out : SOut := (fun _ => 0, 0)
def adof (a : Nat) (u : Nat → Nat) : Nat → Nat := fun k => match k with
  | 0 => a
  | k + 1 => u k
abbrev wi_Mt_init (cA : Nat → ClassId) (z : gZ) (a : Nat) (u : Nat → Nat) : va_W := Wc z (adof a u) cA i0_Mt i0_Source i0_Tokens i0_ReferenceWays i0_TagWays i0_CommentWays i0_Out
def X0 (U : State) : Prop := va_Nw (.methodLinkNest "MarkupTokens" 19 y_Source_init "MarkupTokens") U ∧ va_Nw (.methodLinkNest "MarkupTokens" 26 y_Tokens_init "MarkupTokens") U
set_option maxHeartbeats 4000000 in
set_option maxRecDepth 100000 in
theorem c_Mt_init (l : Launch) (D : va_G) (cA : Nat → ClassId) (z : gZ) (a : Nat) (sz : Nat) : Met l y_Mt_init (.code y_Mt_init b_Mt_init 1 none :: lw_g) { frames := 4, cells := 23, slots := 10448, locals := 87 } (gPx D (gT cA) z X0 [.ref a] [(a, .inr (0, [.null, .int 0, .null, .null, .null, .null]))] sz) (gQc D (gT cA) (va_A [(a, .inr (0, [.null, .int 0, .null, .null, .null, .null]))] sz) (wi_Mt_init cA z a)) 23 10448 (va_A [(a, .inr (0, [.null, .int 0, .null, .null, .null, .null]))] sz) := by
  refine h_metX (by decide) rfl (Nat.le_of_ble_eq_true rfl) rfl ?_
  intro p e s m args below meth c F hr hlk hmn hx
  refine h_aload_n F d_Mt_init_0 0 rfl ?_
  refine h_objInit F mw_99 mw_100 mw_101 (by decide) (Nat.le_of_ble_eq_true rfl) d_Mt_init_1 ?_
  refine h_aload_n F d_Mt_init_4 0 rfl ?_
  refine h_sipush F (v := 400) d_Mt_init_5 (by decide) ?_
  refine h_newa F (ty := .byte) (N' := 400) (a0 := (400, .inl (fun _ => 0))) 1 rfl (fun _ _ h => h) mw_127 rfl (fun _ => rfl) (by decide) rfl (Nat.le_of_ble_eq_true rfl) (Nat.le_of_ble_eq_true rfl) (Nat.le_of_ble_eq_true rfl) d_Mt_init_8 (fun q1 => ?_)
  refine h_ws (ws' := [(a, .inr (0, [.null, .int 0, .null, .null, .null, .null])), (q1, .inl (cA 1, 400, .inl (fun _ => 0)))]) rfl ?_
  refine h_putF F in_X12 0 rfl rfl 0 (by decide) tyX12 tyX12_ok nmX12 mw_295 rfl hmn rfl rfl rfl (Nat.le_of_ble_eq_true rfl) (ws' := [(a, .inr (0, [.ref q1, .int 0, .null, .null, .null, .null])), (q1, .inl (cA 1, 400, .inl (fun _ => 0)))]) rfl d_Mt_init_10 ?_
  refine h_aload_n F d_Mt_init_13 0 rfl ?_
  refine h_iconst F (v := 0) d_Mt_init_14 (by decide) ?_
  refine h_put F in_X12 0 rfl rfl 1 (by decide) tyX12 tyX12_ok nmX12 mw_296 rfl rfl rfl (Nat.le_of_ble_eq_true rfl) (ws' := [(a, .inr (0, [.ref q1, .int 0, .null, .null, .null, .null])), (q1, .inl (cA 1, 400, .inl (fun _ => 0)))]) rfl d_Mt_init_15 ?_
  refine h_aload_n F d_Mt_init_18 0 rfl ?_
  refine h_new F (ci := 1) (C := RX7) (T := TX7) (N := 6) (fs := [.null, .int 0, .int 0, .null, .null, .int 0]) in_X7 tyX7 tyX7_ok mw_102 mw_103 mw_74 rfl (by decide +kernel) (Nat.le_of_ble_eq_true rfl) (Nat.le_of_ble_eq_true rfl) d_Mt_init_19 (fun q2 => ?_)
  refine h_ws (ws' := [(a, .inr (0, [.ref q1, .int 0, .null, .null, .null, .null])), (q1, .inl (cA 1, 400, .inl (fun _ => 0))), (q2, .inr (1, [.null, .int 0, .int 0, .null, .null, .int 0]))]) rfl ?_
  refine h_dup F d_Mt_init_22 rfl ?_
  refine h_ctorN F (As := []) (n := 0) (wc := [(q2, .inr (1, [.null, .int 0, .int 0, .null, .null, .int 0]))]) (wr := [(a, .inr (0, [.ref q1, .int 0, .null, .null, .null, .null])), (q1, .inl (cA 1, 400, .inl (fun _ => 0)))]) (W1 := wi_Source_init cA z q2) (fun sz => c_Source_init l D cA z q2 sz) mw_106 rfl rfl ⟨by decide, by decide⟩ rfl (by exact Nat.le_of_ble_eq_true rfl) hx.1 mw_105 mw_74 rfl (by decide +kernel) d_Mt_init_23 (Nat.le_of_ble_eq_true rfl) (Nat.le_of_ble_eq_true rfl) [2] [0, 1] rfl rfl (by decide) (by decide) (by decide) (fun u23 => ?_)
  refine h_ws (ws' := [(a, .inr (0, [.ref q1, .int 0, .null, .null, .null, .null])), (q1, .inl (cA 1, 400, .inl (fun _ => 0))), (q2, .inr (1, [.ref (u23 0), .int 0, .int 0, .ref (u23 1), .ref (u23 2), .int 0])), (u23 0, .inl (cA 0, 400, .inl (fun _ => 0))), (u23 1, .inl (cA 0, 1203, .inl (fun _ => 0))), (u23 2, .inl (cA 0, 1203, .inl (fun _ => 0)))]) rfl ?_
  refine h_putF F in_X12 0 rfl rfl 2 (by decide) tyX12 tyX12_ok nmX12 mw_297 rfl hmn rfl rfl rfl (Nat.le_of_ble_eq_true rfl) (ws' := [(a, .inr (0, [.ref q1, .int 0, .ref q2, .null, .null, .null])), (q1, .inl (cA 1, 400, .inl (fun _ => 0))), (q2, .inr (1, [.ref (u23 0), .int 0, .int 0, .ref (u23 1), .ref (u23 2), .int 0])), (u23 0, .inl (cA 0, 400, .inl (fun _ => 0))), (u23 1, .inl (cA 0, 1203, .inl (fun _ => 0))), (u23 2, .inl (cA 0, 1203, .inl (fun _ => 0)))]) rfl d_Mt_init_26 ?_
  refine h_aload_n F d_Mt_init_29 0 rfl ?_
  refine h_new F (ci := 2) (C := RX9) (T := TX9) (N := 15) (fs := [.null, .int 0, .null, .null, .null, .null, .null, .null, .int 0, .int 0, .null, .null, .null, .int 0, .int 0]) in_X9 tyX9 tyX9_ok mw_129 mw_130 mw_75 rfl (by decide +kernel) (Nat.le_of_ble_eq_true rfl) (Nat.le_of_ble_eq_true rfl) d_Mt_init_30 (fun q3 => ?_)
  refine h_ws (ws' := [(a, .inr (0, [.ref q1, .int 0, .ref q2, .null, .null, .null])), (q1, .inl (cA 1, 400, .inl (fun _ => 0))), (q2, .inr (1, [.ref (u23 0), .int 0, .int 0, .ref (u23 1), .ref (u23 2), .int 0])), (u23 0, .inl (cA 0, 400, .inl (fun _ => 0))), (u23 1, .inl (cA 0, 1203, .inl (fun _ => 0))), (u23 2, .inl (cA 0, 1203, .inl (fun _ => 0))), (q3, .inr (2, [.null, .int 0, .null, .null, .null, .null, .null, .null, .int 0, .int 0, .null, .null, .null, .int 0, .int 0]))]) rfl ?_
  refine h_dup F d_Mt_init_33 rfl ?_
  refine h_ctorN F (As := []) (n := 0) (wc := [(q3, .inr (2, [.null, .int 0, .null, .null, .null, .null, .null, .null, .int 0, .int 0, .null, .null, .null, .int 0, .int 0]))]) (wr := [(a, .inr (0, [.ref q1, .int 0, .ref q2, .null, .null, .null])), (q1, .inl (cA 1, 400, .inl (fun _ => 0))), (q2, .inr (1, [.ref (u23 0), .int 0, .int 0, .ref (u23 1), .ref (u23 2), .int 0])), (u23 0, .inl (cA 0, 400, .inl (fun _ => 0))), (u23 1, .inl (cA 0, 1203, .inl (fun _ => 0))), (u23 2, .inl (cA 0, 1203, .inl (fun _ => 0)))]) (W1 := wi_Tokens_init cA z q3) (fun sz => c_Tokens_init l D cA z q3 sz) mw_133 rfl rfl ⟨by decide, by decide⟩ rfl (by exact Nat.le_of_ble_eq_true rfl) hx.2 mw_132 mw_75 rfl (by decide +kernel) d_Mt_init_34 (Nat.le_of_ble_eq_true rfl) (Nat.le_of_ble_eq_true rfl) [6] [0, 1, 2, 3, 4, 5] rfl rfl (by decide) (by decide) (by decide) (fun u34 => ?_)
  refine h_ws (ws' := [(a, .inr (0, [.ref q1, .int 0, .ref q2, .null, .null, .null])), (q1, .inl (cA 1, 400, .inl (fun _ => 0))), (q2, .inr (1, [.ref (u23 0), .int 0, .int 0, .ref (u23 1), .ref (u23 2), .int 0])), (u23 0, .inl (cA 0, 400, .inl (fun _ => 0))), (u23 1, .inl (cA 0, 1203, .inl (fun _ => 0))), (u23 2, .inl (cA 0, 1203, .inl (fun _ => 0))), (q3, .inr (2, [.ref (u34 0), .int 0, .ref (u34 1), .ref (u34 2), .ref (u34 3), .ref (u34 4), .ref (u34 5), .ref (u34 6), .int 0, .int 0, .ref (u34 7), .ref (u34 8), .ref (u34 9), .int 0, .int 0])), (u34 0, .inl (cA 0, 400, .inl (fun _ => 0))), (u34 1, .inl (cA 0, 400, .inl (fun _ => 0))), (u34 2, .inl (cA 0, 400, .inl (fun _ => 0))), (u34 3, .inl (cA 0, 400, .inl (fun _ => 0))), (u34 4, .inl (cA 0, 400, .inl (fun _ => 0))), (u34 5, .inl (cA 0, 400, .inl (fun _ => 0))), (u34 6, .inl (cA 0, 400, .inl (fun _ => 0))), (u34 7, .inl (cA 0, 400, .inl (fun _ => 0))), (u34 8, .inl (cA 0, 400, .inl (fun _ => 0))), (u34 9, .inl (cA 0, 400, .inl (fun _ => 0)))]) rfl ?_
  refine h_putF F in_X12 0 rfl rfl 3 (by decide) tyX12 tyX12_ok nmX12 mw_298 rfl hmn rfl rfl rfl (Nat.le_of_ble_eq_true rfl) (ws' := [(a, .inr (0, [.ref q1, .int 0, .ref q2, .ref q3, .null, .null])), (q1, .inl (cA 1, 400, .inl (fun _ => 0))), (q2, .inr (1, [.ref (u23 0), .int 0, .int 0, .ref (u23 1), .ref (u23 2), .int 0])), (u23 0, .inl (cA 0, 400, .inl (fun _ => 0))), (u23 1, .inl (cA 0, 1203, .inl (fun _ => 0))), (u23 2, .inl (cA 0, 1203, .inl (fun _ => 0))), (q3, .inr (2, [.ref (u34 0), .int 0, .ref (u34 1), .ref (u34 2), .ref (u34 3), .ref (u34 4), .ref (u34 5), .ref (u34 6), .int 0, .int 0, .ref (u34 7), .ref (u34 8), .ref (u34 9), .int 0, .int 0])), (u34 0, .inl (cA 0, 400, .inl (fun _ => 0))), (u34 1, .inl (cA 0, 400, .inl (fun _ => 0))), (u34 2, .inl (cA 0, 400, .inl (fun _ => 0))), (u34 3, .inl (cA 0, 400, .inl (fun _ => 0))), (u34 4, .inl (cA 0, 400, .inl (fun _ => 0))), (u34 5, .inl (cA 0, 400, .inl (fun _ => 0))), (u34 6, .inl (cA 0, 400, .inl (fun _ => 0))), (u34 7, .inl (cA 0, 400, .inl (fun _ => 0))), (u34 8, .inl (cA 0, 400, .inl (fun _ => 0))), (u34 9, .inl (cA 0, 400, .inl (fun _ => 0)))]) rfl d_Mt_init_37 ?_
  refine h_aload_n F d_Mt_init_40 0 rfl ?_
  refine h_new F (ci := 7) (C := RX5) (T := TX5) (N := 6) (fs := [.null, .null, .null, .null, .null, .null]) in_X5 tyX5 tyX5_ok mw_181 mw_182 mw_77 rfl (by decide +kernel) (Nat.le_of_ble_eq_true rfl) (Nat.le_of_ble_eq_true rfl) d_Mt_init_41 (fun q4 => ?_)
  refine h_ws (ws' := [(a, .inr (0, [.ref q1, .int 0, .ref q2, .ref q3, .null, .null])), (q1, .inl (cA 1, 400, .inl (fun _ => 0))), (q2, .inr (1, [.ref (u23 0), .int 0, .int 0, .ref (u23 1), .ref (u23 2), .int 0])), (u23 0, .inl (cA 0, 400, .inl (fun _ => 0))), (u23 1, .inl (cA 0, 1203, .inl (fun _ => 0))), (u23 2, .inl (cA 0, 1203, .inl (fun _ => 0))), (q3, .inr (2, [.ref (u34 0), .int 0, .ref (u34 1), .ref (u34 2), .ref (u34 3), .ref (u34 4), .ref (u34 5), .ref (u34 6), .int 0, .int 0, .ref (u34 7), .ref (u34 8), .ref (u34 9), .int 0, .int 0])), (u34 0, .inl (cA 0, 400, .inl (fun _ => 0))), (u34 1, .inl (cA 0, 400, .inl (fun _ => 0))), (u34 2, .inl (cA 0, 400, .inl (fun _ => 0))), (u34 3, .inl (cA 0, 400, .inl (fun _ => 0))), (u34 4, .inl (cA 0, 400, .inl (fun _ => 0))), (u34 5, .inl (cA 0, 400, .inl (fun _ => 0))), (u34 6, .inl (cA 0, 400, .inl (fun _ => 0))), (u34 7, .inl (cA 0, 400, .inl (fun _ => 0))), (u34 8, .inl (cA 0, 400, .inl (fun _ => 0))), (u34 9, .inl (cA 0, 400, .inl (fun _ => 0))), (q4, .inr (7, [.null, .null, .null, .null, .null, .null]))]) rfl ?_
  refine h_dup F d_Mt_init_44 rfl ?_
  refine h_aload_n F d_Mt_init_45 0 rfl ?_
  refine h_get F (v := .ref q2) in_X12 0 rfl rfl 2 (by decide) mw_297 rfl d_Mt_init_46 ?_
  refine h_aload_n F d_Mt_init_49 0 rfl ?_
  refine h_get F (v := .ref q3) in_X12 0 rfl rfl 3 (by decide) mw_298 rfl d_Mt_init_50 ?_
  refine h_ctor F (As := [.ref q2, .ref q3]) (n := 2) (wc := [(q4, .inr (7, [.null, .null, .null, .null, .null, .null]))]) (wr := [(a, .inr (0, [.ref q1, .int 0, .ref q2, .ref q3, .null, .null])), (q1, .inl (cA 1, 400, .inl (fun _ => 0))), (q2, .inr (1, [.ref (u23 0), .int 0, .int 0, .ref (u23 1), .ref (u23 2), .int 0])), (u23 0, .inl (cA 0, 400, .inl (fun _ => 0))), (u23 1, .inl (cA 0, 1203, .inl (fun _ => 0))), (u23 2, .inl (cA 0, 1203, .inl (fun _ => 0))), (q3, .inr (2, [.ref (u34 0), .int 0, .ref (u34 1), .ref (u34 2), .ref (u34 3), .ref (u34 4), .ref (u34 5), .ref (u34 6), .int 0, .int 0, .ref (u34 7), .ref (u34 8), .ref (u34 9), .int 0, .int 0])), (u34 0, .inl (cA 0, 400, .inl (fun _ => 0))), (u34 1, .inl (cA 0, 400, .inl (fun _ => 0))), (u34 2, .inl (cA 0, 400, .inl (fun _ => 0))), (u34 3, .inl (cA 0, 400, .inl (fun _ => 0))), (u34 4, .inl (cA 0, 400, .inl (fun _ => 0))), (u34 5, .inl (cA 0, 400, .inl (fun _ => 0))), (u34 6, .inl (cA 0, 400, .inl (fun _ => 0))), (u34 7, .inl (cA 0, 400, .inl (fun _ => 0))), (u34 8, .inl (cA 0, 400, .inl (fun _ => 0))), (u34 9, .inl (cA 0, 400, .inl (fun _ => 0)))]) (W1 := wi_Reader_init cA z q4 q2 q3) (fun sz => c_Reader_init l D cA z q4 q2 q3 sz) mw_185 rfl rfl ⟨by decide, by decide⟩ rfl (by exact Nat.le_of_ble_eq_true rfl) mw_183 mw_184 mw_77 rfl (by decide +kernel) d_Mt_init_53 (Nat.le_of_ble_eq_true rfl) (Nat.le_of_ble_eq_true rfl) [17] [0, 1, 2, 3, 4, 5, 6, 7, 8, 9, 10, 11, 12, 13, 14, 15, 16] rfl rfl (by decide) (by decide) (by decide) (fun u53 => ?_)
  refine h_ws (ws' := [(a, .inr (0, [.ref q1, .int 0, .ref q2, .ref q3, .null, .null])), (q1, .inl (cA 1, 400, .inl (fun _ => 0))), (q2, .inr (1, [.ref (u23 0), .int 0, .int 0, .ref (u23 1), .ref (u23 2), .int 0])), (u23 0, .inl (cA 0, 400, .inl (fun _ => 0))), (u23 1, .inl (cA 0, 1203, .inl (fun _ => 0))), (u23 2, .inl (cA 0, 1203, .inl (fun _ => 0))), (q3, .inr (2, [.ref (u34 0), .int 0, .ref (u34 1), .ref (u34 2), .ref (u34 3), .ref (u34 4), .ref (u34 5), .ref (u34 6), .int 0, .int 0, .ref (u34 7), .ref (u34 8), .ref (u34 9), .int 0, .int 0])), (u34 0, .inl (cA 0, 400, .inl (fun _ => 0))), (u34 1, .inl (cA 0, 400, .inl (fun _ => 0))), (u34 2, .inl (cA 0, 400, .inl (fun _ => 0))), (u34 3, .inl (cA 0, 400, .inl (fun _ => 0))), (u34 4, .inl (cA 0, 400, .inl (fun _ => 0))), (u34 5, .inl (cA 0, 400, .inl (fun _ => 0))), (u34 6, .inl (cA 0, 400, .inl (fun _ => 0))), (u34 7, .inl (cA 0, 400, .inl (fun _ => 0))), (u34 8, .inl (cA 0, 400, .inl (fun _ => 0))), (u34 9, .inl (cA 0, 400, .inl (fun _ => 0))), (q4, .inr (7, [.ref q2, .ref q3, .ref (u53 0), .ref (u53 1), .ref (u53 2), .ref (u53 3)])), (u53 0, .inr (3, [.ref q2, .ref q3, .ref (z.1 0)])), (u53 1, .inr (4, [.ref q2, .ref q3, .ref (u53 0), .int 34])), (u53 2, .inr (5, [.ref q2, .ref q3, .int (-1)])), (u53 3, .inr (6, [.ref q2, .ref q3]))]) rfl ?_
  refine h_putF F in_X12 0 rfl rfl 4 (by decide) tyX12 tyX12_ok nmX12 mw_299 rfl hmn rfl rfl rfl (Nat.le_of_ble_eq_true rfl) (ws' := [(a, .inr (0, [.ref q1, .int 0, .ref q2, .ref q3, .ref q4, .null])), (q1, .inl (cA 1, 400, .inl (fun _ => 0))), (q2, .inr (1, [.ref (u23 0), .int 0, .int 0, .ref (u23 1), .ref (u23 2), .int 0])), (u23 0, .inl (cA 0, 400, .inl (fun _ => 0))), (u23 1, .inl (cA 0, 1203, .inl (fun _ => 0))), (u23 2, .inl (cA 0, 1203, .inl (fun _ => 0))), (q3, .inr (2, [.ref (u34 0), .int 0, .ref (u34 1), .ref (u34 2), .ref (u34 3), .ref (u34 4), .ref (u34 5), .ref (u34 6), .int 0, .int 0, .ref (u34 7), .ref (u34 8), .ref (u34 9), .int 0, .int 0])), (u34 0, .inl (cA 0, 400, .inl (fun _ => 0))), (u34 1, .inl (cA 0, 400, .inl (fun _ => 0))), (u34 2, .inl (cA 0, 400, .inl (fun _ => 0))), (u34 3, .inl (cA 0, 400, .inl (fun _ => 0))), (u34 4, .inl (cA 0, 400, .inl (fun _ => 0))), (u34 5, .inl (cA 0, 400, .inl (fun _ => 0))), (u34 6, .inl (cA 0, 400, .inl (fun _ => 0))), (u34 7, .inl (cA 0, 400, .inl (fun _ => 0))), (u34 8, .inl (cA 0, 400, .inl (fun _ => 0))), (u34 9, .inl (cA 0, 400, .inl (fun _ => 0))), (q4, .inr (7, [.ref q2, .ref q3, .ref (u53 0), .ref (u53 1), .ref (u53 2), .ref (u53 3)])), (u53 0, .inr (3, [.ref q2, .ref q3, .ref (z.1 0)])), (u53 1, .inr (4, [.ref q2, .ref q3, .ref (u53 0), .int 34])), (u53 2, .inr (5, [.ref q2, .ref q3, .int (-1)])), (u53 3, .inr (6, [.ref q2, .ref q3]))]) rfl d_Mt_init_56 ?_
  refine h_aload_n F d_Mt_init_59 0 rfl ?_
  refine h_new F (ci := 8) (C := RX4) (T := TX4) (N := 3) (fs := [.null, .null, .int 0]) in_X4 tyX4 tyX4_ok mw_279 mw_280 mw_84 rfl (by decide +kernel) (Nat.le_of_ble_eq_true rfl) (Nat.le_of_ble_eq_true rfl) d_Mt_init_60 (fun q5 => ?_)
  refine h_ws (ws' := [(a, .inr (0, [.ref q1, .int 0, .ref q2, .ref q3, .ref q4, .null])), (q1, .inl (cA 1, 400, .inl (fun _ => 0))), (q2, .inr (1, [.ref (u23 0), .int 0, .int 0, .ref (u23 1), .ref (u23 2), .int 0])), (u23 0, .inl (cA 0, 400, .inl (fun _ => 0))), (u23 1, .inl (cA 0, 1203, .inl (fun _ => 0))), (u23 2, .inl (cA 0, 1203, .inl (fun _ => 0))), (q3, .inr (2, [.ref (u34 0), .int 0, .ref (u34 1), .ref (u34 2), .ref (u34 3), .ref (u34 4), .ref (u34 5), .ref (u34 6), .int 0, .int 0, .ref (u34 7), .ref (u34 8), .ref (u34 9), .int 0, .int 0])), (u34 0, .inl (cA 0, 400, .inl (fun _ => 0))), (u34 1, .inl (cA 0, 400, .inl (fun _ => 0))), (u34 2, .inl (cA 0, 400, .inl (fun _ => 0))), (u34 3, .inl (cA 0, 400, .inl (fun _ => 0))), (u34 4, .inl (cA 0, 400, .inl (fun _ => 0))), (u34 5, .inl (cA 0, 400, .inl (fun _ => 0))), (u34 6, .inl (cA 0, 400, .inl (fun _ => 0))), (u34 7, .inl (cA 0, 400, .inl (fun _ => 0))), (u34 8, .inl (cA 0, 400, .inl (fun _ => 0))), (u34 9, .inl (cA 0, 400, .inl (fun _ => 0))), (q4, .inr (7, [.ref q2, .ref q3, .ref (u53 0), .ref (u53 1), .ref (u53 2), .ref (u53 3)])), (u53 0, .inr (3, [.ref q2, .ref q3, .ref (z.1 0)])), (u53 1, .inr (4, [.ref q2, .ref q3, .ref (u53 0), .int 34])), (u53 2, .inr (5, [.ref q2, .ref q3, .int (-1)])), (u53 3, .inr (6, [.ref q2, .ref q3])), (q5, .inr (8, [.null, .null, .int 0]))]) rfl ?_
  refine h_dup F d_Mt_init_63 rfl ?_
  refine h_aload_n F d_Mt_init_64 0 rfl ?_
  refine h_get F (v := .ref q3) in_X12 0 rfl rfl 3 (by decide) mw_298 rfl d_Mt_init_65 ?_
  refine h_ctor F (As := [.ref q3]) (n := 1) (wc := [(q5, .inr (8, [.null, .null, .int 0]))]) (wr := [(a, .inr (0, [.ref q1, .int 0, .ref q2, .ref q3, .ref q4, .null])), (q1, .inl (cA 1, 400, .inl (fun _ => 0))), (q2, .inr (1, [.ref (u23 0), .int 0, .int 0, .ref (u23 1), .ref (u23 2), .int 0])), (u23 0, .inl (cA 0, 400, .inl (fun _ => 0))), (u23 1, .inl (cA 0, 1203, .inl (fun _ => 0))), (u23 2, .inl (cA 0, 1203, .inl (fun _ => 0))), (q3, .inr (2, [.ref (u34 0), .int 0, .ref (u34 1), .ref (u34 2), .ref (u34 3), .ref (u34 4), .ref (u34 5), .ref (u34 6), .int 0, .int 0, .ref (u34 7), .ref (u34 8), .ref (u34 9), .int 0, .int 0])), (u34 0, .inl (cA 0, 400, .inl (fun _ => 0))), (u34 1, .inl (cA 0, 400, .inl (fun _ => 0))), (u34 2, .inl (cA 0, 400, .inl (fun _ => 0))), (u34 3, .inl (cA 0, 400, .inl (fun _ => 0))), (u34 4, .inl (cA 0, 400, .inl (fun _ => 0))), (u34 5, .inl (cA 0, 400, .inl (fun _ => 0))), (u34 6, .inl (cA 0, 400, .inl (fun _ => 0))), (u34 7, .inl (cA 0, 400, .inl (fun _ => 0))), (u34 8, .inl (cA 0, 400, .inl (fun _ => 0))), (u34 9, .inl (cA 0, 400, .inl (fun _ => 0))), (q4, .inr (7, [.ref q2, .ref q3, .ref (u53 0), .ref (u53 1), .ref (u53 2), .ref (u53 3)])), (u53 0, .inr (3, [.ref q2, .ref q3, .ref (z.1 0)])), (u53 1, .inr (4, [.ref q2, .ref q3, .ref (u53 0), .int 34])), (u53 2, .inr (5, [.ref q2, .ref q3, .int (-1)])), (u53 3, .inr (6, [.ref q2, .ref q3]))]) (W1 := wi_Out_init cA z q5 q3) (fun sz => c_Out_init l D cA z q5 q3 sz) mw_283 rfl rfl ⟨by decide, by decide⟩ rfl (by exact Nat.le_of_ble_eq_true rfl) mw_281 mw_282 mw_84 rfl (by decide +kernel) d_Mt_init_68 (Nat.le_of_ble_eq_true rfl) (Nat.le_of_ble_eq_true rfl) [22] [0, 1, 2, 3, 4, 5, 6, 7, 8, 9, 10, 11, 12, 13, 14, 15, 16, 17, 18, 19, 20, 21] rfl rfl (by decide) (by decide) (by decide) (fun u68 => ?_)
  refine h_ws (ws' := [(a, .inr (0, [.ref q1, .int 0, .ref q2, .ref q3, .ref q4, .null])), (q1, .inl (cA 1, 400, .inl (fun _ => 0))), (q2, .inr (1, [.ref (u23 0), .int 0, .int 0, .ref (u23 1), .ref (u23 2), .int 0])), (u23 0, .inl (cA 0, 400, .inl (fun _ => 0))), (u23 1, .inl (cA 0, 1203, .inl (fun _ => 0))), (u23 2, .inl (cA 0, 1203, .inl (fun _ => 0))), (q3, .inr (2, [.ref (u34 0), .int 0, .ref (u34 1), .ref (u34 2), .ref (u34 3), .ref (u34 4), .ref (u34 5), .ref (u34 6), .int 0, .int 0, .ref (u34 7), .ref (u34 8), .ref (u34 9), .int 0, .int 0])), (u34 0, .inl (cA 0, 400, .inl (fun _ => 0))), (u34 1, .inl (cA 0, 400, .inl (fun _ => 0))), (u34 2, .inl (cA 0, 400, .inl (fun _ => 0))), (u34 3, .inl (cA 0, 400, .inl (fun _ => 0))), (u34 4, .inl (cA 0, 400, .inl (fun _ => 0))), (u34 5, .inl (cA 0, 400, .inl (fun _ => 0))), (u34 6, .inl (cA 0, 400, .inl (fun _ => 0))), (u34 7, .inl (cA 0, 400, .inl (fun _ => 0))), (u34 8, .inl (cA 0, 400, .inl (fun _ => 0))), (u34 9, .inl (cA 0, 400, .inl (fun _ => 0))), (q4, .inr (7, [.ref q2, .ref q3, .ref (u53 0), .ref (u53 1), .ref (u53 2), .ref (u53 3)])), (u53 0, .inr (3, [.ref q2, .ref q3, .ref (z.1 0)])), (u53 1, .inr (4, [.ref q2, .ref q3, .ref (u53 0), .int 34])), (u53 2, .inr (5, [.ref q2, .ref q3, .int (-1)])), (u53 3, .inr (6, [.ref q2, .ref q3])), (q5, .inr (8, [.ref q3, .ref (u68 0), .int 0])), (u68 0, .inl (cA 1, 3200, .inl (fun _ => 0)))]) rfl ?_
  refine h_putF F in_X12 0 rfl rfl 5 (by decide) tyX12 tyX12_ok nmX12 mw_300 rfl hmn rfl rfl rfl (Nat.le_of_ble_eq_true rfl) (ws' := [(a, .inr (0, [.ref q1, .int 0, .ref q2, .ref q3, .ref q4, .ref q5])), (q1, .inl (cA 1, 400, .inl (fun _ => 0))), (q2, .inr (1, [.ref (u23 0), .int 0, .int 0, .ref (u23 1), .ref (u23 2), .int 0])), (u23 0, .inl (cA 0, 400, .inl (fun _ => 0))), (u23 1, .inl (cA 0, 1203, .inl (fun _ => 0))), (u23 2, .inl (cA 0, 1203, .inl (fun _ => 0))), (q3, .inr (2, [.ref (u34 0), .int 0, .ref (u34 1), .ref (u34 2), .ref (u34 3), .ref (u34 4), .ref (u34 5), .ref (u34 6), .int 0, .int 0, .ref (u34 7), .ref (u34 8), .ref (u34 9), .int 0, .int 0])), (u34 0, .inl (cA 0, 400, .inl (fun _ => 0))), (u34 1, .inl (cA 0, 400, .inl (fun _ => 0))), (u34 2, .inl (cA 0, 400, .inl (fun _ => 0))), (u34 3, .inl (cA 0, 400, .inl (fun _ => 0))), (u34 4, .inl (cA 0, 400, .inl (fun _ => 0))), (u34 5, .inl (cA 0, 400, .inl (fun _ => 0))), (u34 6, .inl (cA 0, 400, .inl (fun _ => 0))), (u34 7, .inl (cA 0, 400, .inl (fun _ => 0))), (u34 8, .inl (cA 0, 400, .inl (fun _ => 0))), (u34 9, .inl (cA 0, 400, .inl (fun _ => 0))), (q4, .inr (7, [.ref q2, .ref q3, .ref (u53 0), .ref (u53 1), .ref (u53 2), .ref (u53 3)])), (u53 0, .inr (3, [.ref q2, .ref q3, .ref (z.1 0)])), (u53 1, .inr (4, [.ref q2, .ref q3, .ref (u53 0), .int 34])), (u53 2, .inr (5, [.ref q2, .ref q3, .int (-1)])), (u53 3, .inr (6, [.ref q2, .ref q3])), (q5, .inr (8, [.ref q3, .ref (u68 0), .int 0])), (u68 0, .inl (cA 1, 3200, .inl (fun _ => 0)))]) rfl d_Mt_init_71 ?_
  refine h_sub (ws' := [(a, .inr (0, [.ref q1, .int 0, .ref q2, .ref q3, .ref q4, .ref q5])), (q2, .inr (1, [.ref (u23 0), .int 0, .int 0, .ref (u23 1), .ref (u23 2), .int 0])), (q3, .inr (2, [.ref (u34 0), .int 0, .ref (u34 1), .ref (u34 2), .ref (u34 3), .ref (u34 4), .ref (u34 5), .ref (u34 6), .int 0, .int 0, .ref (u34 7), .ref (u34 8), .ref (u34 9), .int 0, .int 0])), (u53 0, .inr (3, [.ref q2, .ref q3, .ref (z.1 0)])), (u53 1, .inr (4, [.ref q2, .ref q3, .ref (u53 0), .int 34])), (u53 2, .inr (5, [.ref q2, .ref q3, .int (-1)])), (u53 3, .inr (6, [.ref q2, .ref q3])), (q4, .inr (7, [.ref q2, .ref q3, .ref (u53 0), .ref (u53 1), .ref (u53 2), .ref (u53 3)])), (q5, .inr (8, [.ref q3, .ref (u68 0), .int 0])), (q1, .inl (cA 1, 400, .inl (fun _ => 0))), (u23 0, .inl (cA 0, 400, .inl (fun _ => 0))), (u23 1, .inl (cA 0, 1203, .inl (fun _ => 0))), (u23 2, .inl (cA 0, 1203, .inl (fun _ => 0))), (u34 0, .inl (cA 0, 400, .inl (fun _ => 0))), (u34 1, .inl (cA 0, 400, .inl (fun _ => 0))), (u34 2, .inl (cA 0, 400, .inl (fun _ => 0))), (u34 3, .inl (cA 0, 400, .inl (fun _ => 0))), (u34 4, .inl (cA 0, 400, .inl (fun _ => 0))), (u34 5, .inl (cA 0, 400, .inl (fun _ => 0))), (u34 6, .inl (cA 0, 400, .inl (fun _ => 0))), (u34 7, .inl (cA 0, 400, .inl (fun _ => 0))), (u34 8, .inl (cA 0, 400, .inl (fun _ => 0))), (u34 9, .inl (cA 0, 400, .inl (fun _ => 0))), (u68 0, .inl (cA 1, 3200, .inl (fun _ => 0)))]) [0, 2, 6, 18, 19, 20, 21, 17, 22, 1, 3, 4, 5, 7, 8, 9, 10, 11, 12, 13, 14, 15, 16, 23] (by decide) rfl ?_
  exact h_vret F (fun k => ([q2, q3, u53 0, u53 1, u53 2, u53 3, q4, q5, q1, u23 0, u23 1, u23 2, u34 0, u34 1, u34 2, u34 3, u34 4, u34 5, u34 6, u34 7, u34 8, u34 9, u68 0] : List Nat).getD k 0) hr hlk (Nat.le_of_ble_eq_true rfl) (Nat.le_of_ble_eq_true rfl) rfl d_Mt_init_74
