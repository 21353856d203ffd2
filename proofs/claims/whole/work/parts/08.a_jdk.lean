theorem d_Enum_ordinal_0 : decode b_Enum_ordinal 0 = .ok (.aload_n 0, 1) := by decide +kernel
theorem d_Enum_ordinal_1 : decode b_Enum_ordinal 1 = .ok (.getfield 7, 3) := by decide +kernel
theorem d_Enum_ordinal_4 : decode b_Enum_ordinal 4 = .ok (.ireturn, 1) := by decide +kernel
theorem d_String_length_0 : decode b_String_length 0 = .ok (.aload_n 0, 1) := by decide +kernel
theorem d_String_length_1 : decode b_String_length 1 = .ok (.getfield 9, 3) := by decide +kernel
theorem d_String_length_4 : decode b_String_length 4 = .ok (.arraylength, 1) := by decide +kernel
theorem d_String_length_5 : decode b_String_length 5 = .ok (.aload_n 0, 1) := by decide +kernel
theorem d_String_length_6 : decode b_String_length 6 = .ok (.invokevirtual 335, 3) := by decide +kernel
theorem d_String_length_9 : decode b_String_length 9 = .ok (.ishr, 1) := by decide +kernel
theorem d_String_length_10 : decode b_String_length 10 = .ok (.ireturn, 1) := by decide +kernel
theorem d_String_coder_0 : decode b_String_coder 0 = .ok (.getstatic 38, 3) := by decide +kernel
theorem d_String_coder_3 : decode b_String_coder 3 = .ok (.ifCond .eq 10, 3) := by decide +kernel
theorem d_String_coder_6 : decode b_String_coder 6 = .ok (.aload_n 0, 1) := by decide +kernel
theorem d_String_coder_7 : decode b_String_coder 7 = .ok (.getfield 15, 3) := by decide +kernel
theorem d_String_coder_10 : decode b_String_coder 10 = .ok (.goto 4, 3) := by decide +kernel
theorem d_String_coder_14 : decode b_String_coder 14 = .ok (.ireturn, 1) := by decide +kernel
theorem d_String_isLatin1_0 : decode b_String_isLatin1 0 = .ok (.getstatic 38, 3) := by decide +kernel
theorem d_String_isLatin1_3 : decode b_String_isLatin1 3 = .ok (.ifCond .eq 14, 3) := by decide +kernel
theorem d_String_isLatin1_6 : decode b_String_isLatin1 6 = .ok (.aload_n 0, 1) := by decide +kernel
theorem d_String_isLatin1_7 : decode b_String_isLatin1 7 = .ok (.getfield 15, 3) := by decide +kernel
theorem d_String_isLatin1_10 : decode b_String_isLatin1 10 = .ok (.ifCond .ne 7, 3) := by decide +kernel
theorem d_String_isLatin1_13 : decode b_String_isLatin1 13 = .ok (.iconst 1, 1) := by decide +kernel
theorem d_String_isLatin1_14 : decode b_String_isLatin1 14 = .ok (.goto 4, 3) := by decide +kernel
theorem d_String_isLatin1_18 : decode b_String_isLatin1 18 = .ok (.ireturn, 1) := by decide +kernel
theorem d_String_charAt_0 : decode b_String_charAt 0 = .ok (.aload_n 0, 1) := by decide +kernel
theorem d_String_charAt_1 : decode b_String_charAt 1 = .ok (.invokevirtual 492, 3) := by decide +kernel
theorem d_String_charAt_4 : decode b_String_charAt 4 = .ok (.ifCond .eq 12, 3) := by decide +kernel
theorem d_String_charAt_7 : decode b_String_charAt 7 = .ok (.aload_n 0, 1) := by decide +kernel
theorem d_String_charAt_8 : decode b_String_charAt 8 = .ok (.getfield 9, 3) := by decide +kernel
theorem d_String_charAt_11 : decode b_String_charAt 11 = .ok (.iload_n 1, 1) := by decide +kernel
theorem d_String_charAt_12 : decode b_String_charAt 12 = .ok (.invokestatic 495, 3) := by decide +kernel
theorem d_String_charAt_15 : decode b_String_charAt 15 = .ok (.ireturn, 1) := by decide +kernel
theorem d_StringLatin1_charAt_0 : decode b_StringLatin1_charAt 0 = .ok (.iload_n 1, 1) := by decide +kernel
theorem d_StringLatin1_charAt_1 : decode b_StringLatin1_charAt 1 = .ok (.aload_n 0, 1) := by decide +kernel
theorem d_StringLatin1_charAt_2 : decode b_StringLatin1_charAt 2 = .ok (.arraylength, 1) := by decide +kernel
theorem d_StringLatin1_charAt_3 : decode b_StringLatin1_charAt 3 = .ok (.invokestatic 9, 3) := by decide +kernel
theorem d_StringLatin1_charAt_6 : decode b_StringLatin1_charAt 6 = .ok (.aload_n 0, 1) := by decide +kernel
theorem d_StringLatin1_charAt_7 : decode b_StringLatin1_charAt 7 = .ok (.iload_n 1, 1) := by decide +kernel
theorem d_StringLatin1_charAt_8 : decode b_StringLatin1_charAt 8 = .ok (.baload, 1) := by decide +kernel
theorem d_StringLatin1_charAt_9 : decode b_StringLatin1_charAt 9 = .ok (.sipush 255, 3) := by decide +kernel
theorem d_StringLatin1_charAt_12 : decode b_StringLatin1_charAt 12 = .ok (.iand, 1) := by decide +kernel
theorem d_StringLatin1_charAt_13 : decode b_StringLatin1_charAt 13 = .ok (.i2c, 1) := by decide +kernel
theorem d_StringLatin1_charAt_14 : decode b_StringLatin1_charAt 14 = .ok (.ireturn, 1) := by decide +kernel
theorem d_String_checkIndex_0 : decode b_String_checkIndex 0 = .ok (.iload_n 0, 1) := by decide +kernel
theorem d_String_checkIndex_1 : decode b_String_checkIndex 1 = .ok (.iload_n 1, 1) := by decide +kernel
theorem d_String_checkIndex_2 : decode b_String_checkIndex 2 = .ok (.getstatic 1053, 3) := by decide +kernel
theorem d_String_checkIndex_5 : decode b_String_checkIndex 5 = .ok (.invokestatic 1059, 3) := by decide +kernel
theorem d_String_checkIndex_8 : decode b_String_checkIndex 8 = .ok (.pop, 1) := by decide +kernel
theorem d_String_checkIndex_9 : decode b_String_checkIndex 9 = .ok (.return_, 1) := by decide +kernel
theorem d_Preconditions_checkIndex_0 : decode b_Preconditions_checkIndex 0 = .ok (.iload_n 0, 1) := by decide +kernel
theorem d_Preconditions_checkIndex_1 : decode b_Preconditions_checkIndex 1 = .ok (.ifCond .lt 8, 3) := by decide +kernel
theorem d_Preconditions_checkIndex_4 : decode b_Preconditions_checkIndex 4 = .ok (.iload_n 0, 1) := by decide +kernel
theorem d_Preconditions_checkIndex_5 : decode b_Preconditions_checkIndex 5 = .ok (.iload_n 1, 1) := by decide +kernel
theorem d_Preconditions_checkIndex_6 : decode b_Preconditions_checkIndex 6 = .ok (.if_icmp .lt 10, 3) := by decide +kernel
theorem d_Preconditions_checkIndex_16 : decode b_Preconditions_checkIndex 16 = .ok (.iload_n 0, 1) := by decide +kernel
theorem d_Preconditions_checkIndex_17 : decode b_Preconditions_checkIndex 17 = .ok (.ireturn, 1) := by decide +kernel
set_option maxRecDepth 100000 in
theorem c_Enum_ordinal (l : Launch) (D : va_G) (tys : List (ClassId × FieldType)) (z : gZ) (ws : va_W) (i : Nat) (hi : i < 30) (sz : Nat) : Met l y_Enum_ordinal (.code y_Enum_ordinal b_Enum_ordinal 1 (some .int) :: lw_g) { frames := 0, cells := 0, slots := 0, locals := 0 } (gP D tys z [.ref (z.1 i)] ws sz) (gQi D tys (va_A ws sz) (nI i) ws) 0 0 (va_A ws sz) := by
  refine g_met (by decide) (Nat.le_of_ble_eq_true rfl) rfl ?_
  intro p e s m args below meth c F hr hlk
  refine g_aload_n F d_Enum_ordinal_0 0 rfl ?_
  refine g_of F (F.2.2.2.2.2.2.2.1.1 i hi).2.2 mw_1451 d_Enum_ordinal_1 ?_
  exact g_iret F hr hlk rfl rfl rfl d_Enum_ordinal_4
set_option maxRecDepth 100000 in
theorem c_String_coder (l : Launch) (D : va_G) (tys : List (ClassId × FieldType)) (z : gZ) (ws : va_W) (i : Nat) (hi : i < 42) (sz : Nat) : Met l y_String_coder (.code y_String_coder b_String_coder 1 (some .byte) :: lw_g) { frames := 0, cells := 0, slots := 0, locals := 0 } (gP D tys z [.ref (z.2.2.1 i)] ws sz) (gQi D tys (va_A ws sz) 0 ws) 0 0 (va_A ws sz) := by
  refine g_met (by decide) (Nat.le_of_ble_eq_true rfl) rfl ?_
  intro p e s m args below meth c F hr hlk
  refine g_gs F F.2.2.2.2.2.2.2.1.2.2.2.2.2.2.1 mw_487 d_String_coder_0 ?_
  refine g_if_eq F (tgt := 13) d_String_coder_3 (by decide) (fun h => absurd h (by decide)) (fun _ => ?_)
  refine g_aload_n F d_String_coder_6 0 rfl ?_
  refine g_of F (F.2.2.2.2.2.2.2.1.2.2.1 i hi).2.1 mw_1454 d_String_coder_7 ?_
  refine g_goto F (tgt := 14) d_String_coder_10 (by decide) ?_
  exact g_zret F hr rfl hlk rfl rfl rfl d_String_coder_14
set_option maxRecDepth 100000 in
theorem c_String_isLatin1 (l : Launch) (D : va_G) (tys : List (ClassId × FieldType)) (z : gZ) (ws : va_W) (i : Nat) (hi : i < 42) (sz : Nat) : Met l y_String_isLatin1 (.code y_String_isLatin1 b_String_isLatin1 1 (some .boolean) :: lw_g) { frames := 0, cells := 0, slots := 0, locals := 0 } (gP D tys z [.ref (z.2.2.1 i)] ws sz) (gQi D tys (va_A ws sz) 1 ws) 0 0 (va_A ws sz) := by
  refine g_met (by decide) (Nat.le_of_ble_eq_true rfl) rfl ?_
  intro p e s m args below meth c F hr hlk
  refine g_gs F F.2.2.2.2.2.2.2.1.2.2.2.2.2.2.1 mw_487 d_String_isLatin1_0 ?_
  refine g_if_eq F (tgt := 17) d_String_isLatin1_3 (by decide) (fun h => absurd h (by decide)) (fun _ => ?_)
  refine g_aload_n F d_String_isLatin1_6 0 rfl ?_
  refine g_of F (F.2.2.2.2.2.2.2.1.2.2.1 i hi).2.1 mw_1454 d_String_isLatin1_7 ?_
  refine g_if_ne F (tgt := 17) d_String_isLatin1_10 (by decide) (fun h => absurd rfl h) (fun _ => ?_)
  refine g_iconst F (v := 1) d_String_isLatin1_13 (by decide) ?_
  refine g_goto F (tgt := 18) d_String_isLatin1_14 (by decide) ?_
  exact g_zret F hr rfl hlk rfl rfl rfl d_String_isLatin1_18
set_option maxRecDepth 100000 in
theorem c_String_length (l : Launch) (D : va_G) (tys : List (ClassId × FieldType)) (z : gZ) (ws : va_W) (i : Nat) (hi : i < 42) (sz : Nat) : Met l y_String_length (.code y_String_length b_String_length 1 (some .int) :: lw_g) { frames := 1, cells := 0, slots := 0, locals := 20 } (gP D tys z [.ref (z.2.2.1 i)] ws sz) (gQi D tys (va_A ws sz) (nI (zs i).length) ws) 0 0 (va_A ws sz) := by
  refine g_met (by decide) (Nat.le_of_ble_eq_true rfl) rfl ?_
  intro p e s m args below meth c F hr hlk
  refine g_aload_n F d_String_length_0 0 rfl ?_
  refine g_of F (F.2.2.2.2.2.2.2.1.2.2.1 i hi).2.2.1 mw_1453 d_String_length_1 ?_
  refine g_tl F (F.2.2.2.2.2.2.2.1.2.2.1 i hi).2.2.2 d_String_length_4 ?_
  refine g_aload_n F d_String_length_5 0 rfl ?_
  refine g_ci F (r0 := 0) (ws' := ws) (fun H locs ls hP hD hS hl => g_runV F (As := []) (n := 0) mw_486 rfl rfl ⟨by decide, by decide⟩ rfl (by exact Nat.le_of_ble_eq_true rfl) mw_483 mw_484 mw_485 mw_90 (by decide +kernel) d_String_length_6 hP hD hS hl (zh_o (F.2.2.2.2.2.2.2.1.2.2.1 i hi).1 hS) (c_String_coder l D tys z ws i hi H.size)) ?_
  refine g_ishr F d_String_length_9 ?_
  exact g_iret F hr hlk rfl (sb_shr0 _) rfl d_String_length_10
set_option maxRecDepth 100000 in
theorem c_Preconditions_checkIndex (l : Launch) (D : va_G) (tys : List (ClassId × FieldType)) (z : gZ) (ws : va_W) (a b : Int32) (h1 : ¬ a < 0) (h2 : a < b) (sz : Nat) : Met l y_Preconditions_checkIndex (.code y_Preconditions_checkIndex b_Preconditions_checkIndex 3 (some .int) :: lw_g) { frames := 0, cells := 0, slots := 0, locals := 0 } (gP D tys z [.int a, .int b, .null] ws sz) (gQi D tys (va_A ws sz) a ws) 0 0 (va_A ws sz) := by
  refine g_met (by decide) (Nat.le_of_ble_eq_true rfl) rfl ?_
  intro p e s m args below meth c F hr hlk
  refine g_iload_n F d_Preconditions_checkIndex_0 0 rfl ?_
  refine g_if_lt F (tgt := 9) d_Preconditions_checkIndex_1 (by decide) (fun h => absurd h h1) (fun _ => ?_)
  refine g_iload_n F d_Preconditions_checkIndex_4 0 rfl ?_
  refine g_iload_n F d_Preconditions_checkIndex_5 1 rfl ?_
  refine g_icmp_lt F (tgt := 16) d_Preconditions_checkIndex_6 (by decide) (fun _ => ?_) (fun h => absurd h2 h)
  refine g_iload_n F d_Preconditions_checkIndex_16 0 rfl ?_
  exact g_iret F hr hlk rfl rfl rfl d_Preconditions_checkIndex_17
set_option maxRecDepth 100000 in
theorem c_Preconditions_checkIndex_r (l : Launch) (D : va_G) (tys : List (ClassId × FieldType)) (z : gZ) (ws : va_W) (q : Nat) (a b : Int32) (h1 : ¬ a < 0) (h2 : a < b) (sz : Nat) : Met l y_Preconditions_checkIndex (.code y_Preconditions_checkIndex b_Preconditions_checkIndex 3 (some .int) :: lw_g) { frames := 0, cells := 0, slots := 0, locals := 0 } (gP D tys z [.int a, .int b, .ref q] ws sz) (gQi D tys (va_A ws sz) a ws) 0 0 (va_A ws sz) := by
  refine g_met (by decide) (Nat.le_of_ble_eq_true rfl) rfl ?_
  intro p e s m args below meth c F hr hlk
  refine g_iload_n F d_Preconditions_checkIndex_0 0 rfl ?_
  refine g_if_lt F (tgt := 9) d_Preconditions_checkIndex_1 (by decide) (fun h => absurd h h1) (fun _ => ?_)
  refine g_iload_n F d_Preconditions_checkIndex_4 0 rfl ?_
  refine g_iload_n F d_Preconditions_checkIndex_5 1 rfl ?_
  refine g_icmp_lt F (tgt := 16) d_Preconditions_checkIndex_6 (by decide) (fun _ => ?_) (fun h => absurd h2 h)
  refine g_iload_n F d_Preconditions_checkIndex_16 0 rfl ?_
  exact g_iret F hr hlk rfl rfl rfl d_Preconditions_checkIndex_17
set_option maxRecDepth 100000 in
theorem c_String_checkIndex (l : Launch) (D : va_G) (tys : List (ClassId × FieldType)) (z : gZ) (ws : va_W) (a b : Int32) (h1 : ¬ a < 0) (h2 : a < b) (sz : Nat) : Met l y_String_checkIndex (.code y_String_checkIndex b_String_checkIndex 2 none :: lw_g) { frames := 1, cells := 0, slots := 0, locals := 22 } (gP D tys z [.int a, .int b] ws sz) (gQv D tys (va_A ws sz) ws) 0 0 (va_A ws sz) := by
  refine g_met (by decide) (Nat.le_of_ble_eq_true rfl) rfl ?_
  intro p e s m args below meth c F hr hlk
  refine g_iload_n F d_String_checkIndex_0 0 rfl ?_
  refine g_iload_n F d_String_checkIndex_1 1 rfl ?_
  rcases F.2.2.2.2.2.2.2.1.2.2.2.2.2.2.2 with hZ | ⟨q, hZ⟩
  · refine g_gs F hZ mw_504 d_String_checkIndex_2 ?_
    refine g_ci F (r0 := a) (ws' := ws) (fun H locs ls hP hD hS hl => g_runS F (As := [.int a, .int b, .null]) (n := 3) mw_508 rfl rfl ⟨by decide, by decide⟩ rfl (by exact Nat.le_of_ble_eq_true rfl) mw_506 mw_507 mw_92 (by decide +kernel) d_String_checkIndex_5 hP hD hS hl (c_Preconditions_checkIndex l D tys z ws a b h1 h2 H.size)) ?_
    refine g_pop F d_String_checkIndex_8 rfl ?_
    exact g_vret F hr hlk rfl rfl d_String_checkIndex_9
  · refine g_gs F hZ mw_504 d_String_checkIndex_2 ?_
    refine g_ci F (r0 := a) (ws' := ws) (fun H locs ls hP hD hS hl => g_runS F (As := [.int a, .int b, .ref q]) (n := 3) mw_508 rfl rfl ⟨by decide, by decide⟩ rfl (by exact Nat.le_of_ble_eq_true rfl) mw_506 mw_507 mw_92 (by decide +kernel) d_String_checkIndex_5 hP hD hS hl (c_Preconditions_checkIndex_r l D tys z ws q a b h1 h2 H.size)) ?_
    refine g_pop F d_String_checkIndex_8 rfl ?_
    exact g_vret F hr hlk rfl rfl d_String_checkIndex_9
theorem zs_ok : ∀ i, i < 42 → (zs i).length < 2 ^ 31 ∧ ∀ b ∈ zs i, ((b &&& 255).toUInt32 % 65536).toInt32 = b := by decide +kernel
theorem zs_at {i : Nat} (hi : i < 42) {k : Nat} (hk : k < (zs i).length) : ((((zs i).getD k 0) &&& 255).toUInt32 % 65536).toInt32 = (zs i).getD k 0 := (zs_ok i hi).2 _ (by rw [List.getD_eq_getElem?_getD, List.getElem?_eq_getElem hk]; exact List.getElem_mem hk)
set_option maxRecDepth 100000 in
theorem c_StringLatin1_charAt (l : Launch) (D : va_G) (tys : List (ClassId × FieldType)) (z : gZ) (ws : va_W) (i : Nat) (hi : i < 42) (k : Int32) (hk : ix k (zs i).length) (sz : Nat) : Met l y_StringLatin1_charAt (.code y_StringLatin1_charAt b_StringLatin1_charAt 2 (some .char) :: lw_g) { frames := 2, cells := 0, slots := 0, locals := 43 } (gP D tys z [.ref (z.2.2.2.1 i), .int k] ws sz) (gQi D tys (va_A ws sz) ((zs i).getD k.toNatClampNeg 0) ws) 0 0 (va_A ws sz) := by
  refine g_met (by decide) (Nat.le_of_ble_eq_true rfl) rfl ?_
  intro p e s m args below meth c F hr hlk
  have hlen := (zs_ok i hi).1
  obtain ⟨j, hj, rfl⟩ := vp_in_of (x := k) (n := (zs i).length) hk hlen
  have e1 : (nI j).toNatClampNeg = j := nI_clamp (by omega)
  rw [e1]
  refine g_iload_n F d_StringLatin1_charAt_0 1 rfl ?_
  refine g_aload_n F d_StringLatin1_charAt_1 0 rfl ?_
  refine g_tl F (F.2.2.2.2.2.2.2.1.2.2.1 i hi).2.2.2 d_StringLatin1_charAt_2 ?_
  refine g_cv F (ws' := ws) (fun H locs ls hP hD hS hl => g_runS F (As := [.int (nI j), .int (nI (zs i).length)]) (n := 2) mw_503 rfl rfl ⟨by decide, by decide⟩ rfl (by exact Nat.le_of_ble_eq_true rfl) mw_501 mw_502 mw_90 (by decide +kernel) d_StringLatin1_charAt_3 hP hD hS hl (c_String_checkIndex l D tys z ws (nI j) (nI (zs i).length) (nI_pos (by omega)) (nI_lt hj hlen) H.size)) ?_
  refine g_aload_n F d_StringLatin1_charAt_6 0 rfl ?_
  refine g_iload_n F d_StringLatin1_charAt_7 1 rfl ?_
  refine g_tb F (v := .int ((zs i).getD j 0)) (F.2.2.2.2.2.2.2.1.2.2.1 i hi).2.2.2 hk (by rw [e1]) d_StringLatin1_charAt_8 ?_
  refine g_sipush F (v := 255) d_StringLatin1_charAt_9 (by decide) ?_
  refine g_iand F d_StringLatin1_charAt_12 ?_
  refine g_i2c F (v := (zs i).getD j 0) d_StringLatin1_charAt_13 (zs_at hi hj) ?_
  exact g_zret F hr (by have h := zs_at hi hj; rw [← h]; exact pk_nc _) hlk rfl rfl rfl d_StringLatin1_charAt_14
set_option maxRecDepth 100000 in
theorem c_String_charAt (l : Launch) (D : va_G) (tys : List (ClassId × FieldType)) (z : gZ) (ws : va_W) (i : Nat) (hi : i < 42) (k : Int32) (hk : ix k (zs i).length) (sz : Nat) : Met l y_String_charAt (.code y_String_charAt b_String_charAt 2 (some .char) :: lw_g) { frames := 3, cells := 0, slots := 0, locals := 64 } (gP D tys z [.ref (z.2.2.1 i), .int k] ws sz) (gQi D tys (va_A ws sz) ((zs i).getD k.toNatClampNeg 0) ws) 0 0 (va_A ws sz) := by
  refine g_met (by decide) (Nat.le_of_ble_eq_true rfl) rfl ?_
  intro p e s m args below meth c F hr hlk
  have hlen := (zs_ok i hi).1
  refine g_aload_n F d_String_charAt_0 0 rfl ?_
  refine g_ci F (r0 := 1) (ws' := ws) (fun H locs ls hP hD hS hl => g_runV F (As := []) (n := 0) mw_497 rfl rfl ⟨by decide, by decide⟩ rfl (by exact Nat.le_of_ble_eq_true rfl) mw_494 mw_495 mw_496 mw_90 (by decide +kernel) d_String_charAt_1 hP hD hS hl (zh_o (F.2.2.2.2.2.2.2.1.2.2.1 i hi).1 hS) (c_String_isLatin1 l D tys z ws i hi H.size)) ?_
  refine g_if_eq F (tgt := 16) d_String_charAt_4 (by decide) (fun h => absurd h (by decide)) (fun _ => ?_)
  refine g_aload_n F d_String_charAt_7 0 rfl ?_
  refine g_of F (F.2.2.2.2.2.2.2.1.2.2.1 i hi).2.2.1 mw_1453 d_String_charAt_8 ?_
  refine g_iload_n F d_String_charAt_11 1 rfl ?_
  refine g_ci F (r0 := ((zs i).getD k.toNatClampNeg 0)) (ws' := ws) (fun H locs ls hP hD hS hl => g_runS F (As := [.ref (z.2.2.2.1 i), .int k]) (n := 2) mw_500 rfl rfl ⟨by decide, by decide⟩ rfl (by exact Nat.le_of_ble_eq_true rfl) mw_498 mw_499 mw_91 (by decide +kernel) d_String_charAt_12 hP hD hS hl (c_StringLatin1_charAt l D tys z ws i hi k hk H.size)) ?_
  exact g_zret F hr (by have h := zs_at hi (ix_lt hk); rw [← h]; exact pk_nc _) hlk rfl rfl rfl d_String_charAt_15
