set_option maxHeartbeats 4000000 in
set_option maxRecDepth 100000 in
theorem c_Mt_fault (l : Launch) (D : va_G) (cA : Nat → ClassId) (z : gZ) (ad : Nat → Nat) (sMt : SMt) (sSource : SSource) (sTokens : STokens) (sReferenceWays : SReferenceWays) (sTagWays : STagWays) (sCommentWays : SCommentWays) (sOut : SOut) (a1 : Int32) (a2 : Int32) {x : Int32} (hf : f_Mt_fault a1 a2 sSource = some x) (sz : Nat) : Met l y_Mt_fault (.code y_Mt_fault b_Mt_fault 3 (some .int) :: lw_g) { frames := 1, cells := 0, slots := 0, locals := 21 } (gP D (gT cA) z [.ref (ad 0), .int a1, .int a2] (Wc z ad cA sMt sSource sTokens sReferenceWays sTagWays sCommentWays sOut) sz) (gQi D (gT cA) (va_A (Wc z ad cA sMt sSource sTokens sReferenceWays sTagWays sCommentWays sOut) sz) x (Wc z ad cA sMt sSource sTokens sReferenceWays sTagWays sCommentWays sOut)) 0 0 (va_A (Wc z ad cA sMt sSource sTokens sReferenceWays sTagWays sCommentWays sOut) sz) := by
  refine g_met (by decide) (Nat.le_of_ble_eq_true rfl) rfl ?_
  intro p e s m args below meth c F hr hlk
  unfold f_Mt_fault at hf
  refine g_iload_n F d_Mt_fault_0 1 rfl ?_
  refine g_if_lt F (tgt := 15) d_Mt_fault_1 (by decide) (fun h => ?_) (fun h => ?_)
  · rw [if_pos h] at hf
    refine g_iconst F (v := (-1)) d_Mt_fault_15 (by decide) ?_
    cases hf
    exact g_iret F hr hlk rfl rfl rfl d_Mt_fault_16
  · rw [if_neg h] at hf
    refine g_iload_n F d_Mt_fault_4 1 rfl ?_
    refine g_aload_n F d_Mt_fault_5 0 rfl ?_
    refine g_get F (v := .ref (ad 1)) in_X12 0 rfl rfl 2 (by decide) mw_297 rfl d_Mt_fault_6 ?_
    refine g_ci F (r0 := (f_Source_faultCount sSource)) (ws' := (Wc z ad cA sMt sSource sTokens sReferenceWays sTagWays sCommentWays sOut)) (fun H locs ls hP hD hS hl => g_runV F (As := []) (n := 0) mw_949 rfl rfl ⟨by decide, by decide⟩ rfl (by exact Nat.le_of_ble_eq_true rfl) mw_946 mw_947 mw_948 mw_74 (by decide +kernel) d_Mt_fault_9 hP hD hS hl (va_recv F.2.2.2.2.2.1 hP (ci := 1) rfl (q0 := 1) rfl) (c_Source_faultCount l D cA z ad sMt sSource sTokens sReferenceWays sTagWays sCommentWays sOut rfl H.size)) ?_
    refine g_icmp_lt F (tgt := 17) d_Mt_fault_12 (by decide) (fun h => ?_) (fun h => ?_)
    · rw [if_pos h] at hf
      refine g_iload_n F d_Mt_fault_17 2 rfl ?_
      by_cases q1 : a2 = 0
      · rw [if_pos q1] at hf
        refine g_lookup F (off := 26) (tgt := 44) d_Mt_fault_18 (by decide) (by rw [q1]; decide) (by decide) ?_
        refine g_aload_n F d_Mt_fault_44 0 rfl ?_
        refine g_get F (v := .ref (ad 1)) in_X12 0 rfl rfl 2 (by decide) mw_297 rfl d_Mt_fault_45 ?_
        refine g_iload_n F d_Mt_fault_48 1 rfl ?_
        obtain ⟨x1, hx1, hf⟩ := g_bind hf
        refine g_ci F (r0 := x1) (ws' := (Wc z ad cA sMt sSource sTokens sReferenceWays sTagWays sCommentWays sOut)) (fun H locs ls hP hD hS hl => g_runV F (As := [.int a1]) (n := 1) mw_957 rfl rfl ⟨by decide, by decide⟩ rfl (by exact Nat.le_of_ble_eq_true rfl) mw_954 mw_955 mw_956 mw_74 (by decide +kernel) d_Mt_fault_49 hP hD hS hl (va_recv F.2.2.2.2.2.1 hP (ci := 1) rfl (q0 := 1) rfl) (c_Source_faultCode l D cA z ad sMt sSource sTokens sReferenceWays sTagWays sCommentWays sOut a1 hx1 H.size)) ?_
        cases hf
        exact g_iret F hr hlk rfl rfl rfl d_Mt_fault_52
      rw [if_neg q1] at hf
      by_cases q2 : a2 = 1
      · rw [if_pos q2] at hf
        refine g_lookup F (off := 35) (tgt := 53) d_Mt_fault_18 (by decide) (by rw [q2]; decide) (by decide) ?_
        refine g_aload_n F d_Mt_fault_53 0 rfl ?_
        refine g_get F (v := .ref (ad 1)) in_X12 0 rfl rfl 2 (by decide) mw_297 rfl d_Mt_fault_54 ?_
        refine g_iload_n F d_Mt_fault_57 1 rfl ?_
        obtain ⟨x2, hx2, hf⟩ := g_bind hf
        refine g_ci F (r0 := x2) (ws' := (Wc z ad cA sMt sSource sTokens sReferenceWays sTagWays sCommentWays sOut)) (fun H locs ls hP hD hS hl => g_runV F (As := [.int a1]) (n := 1) mw_961 rfl rfl ⟨by decide, by decide⟩ rfl (by exact Nat.le_of_ble_eq_true rfl) mw_958 mw_959 mw_960 mw_74 (by decide +kernel) d_Mt_fault_58 hP hD hS hl (va_recv F.2.2.2.2.2.1 hP (ci := 1) rfl (q0 := 1) rfl) (c_Source_faultPlace l D cA z ad sMt sSource sTokens sReferenceWays sTagWays sCommentWays sOut a1 hx2 H.size)) ?_
        cases hf
        exact g_iret F hr hlk rfl rfl rfl d_Mt_fault_61
      rw [if_neg q2] at hf
      refine g_lookup F (off := 44) (tgt := 62) d_Mt_fault_18 (by decide) (show Op.lookupswitch.offset ([(0, 26), (1, 35)] : List (Int × Int)) 44 (a2 : Int32).toInt = 44 by rw [lv_osw (k := 0) q1 (by decide), lv_osw (k := 1) q2 (by decide)]; rfl) (by decide) ?_
      refine g_iconst F (v := (-1)) d_Mt_fault_62 (by decide) ?_
      cases hf
      exact g_iret F hr hlk rfl rfl rfl d_Mt_fault_63
    · rw [if_neg h] at hf
      refine g_iconst F (v := (-1)) d_Mt_fault_15 (by decide) ?_
      cases hf
      exact g_iret F hr hlk rfl rfl rfl d_Mt_fault_16
set_option maxHeartbeats 4000000 in
set_option maxRecDepth 100000 in
theorem c_Out_putByte (l : Launch) (D : va_G) (cA : Nat → ClassId) (z : gZ) (ad : Nat → Nat) (sMt : SMt) (sSource : SSource) (sTokens : STokens) (sReferenceWays : SReferenceWays) (sTagWays : STagWays) (sCommentWays : SCommentWays) (sOut : SOut) (a1 : Int32) {x : SOut} (hf : f_Out_putByte a1 sOut = some x) (sz : Nat) : Met l y_Out_putByte (.code y_Out_putByte b_Out_putByte 2 none :: lw_g) { frames := 0, cells := 0, slots := 0, locals := 0 } (gP D (gT cA) z [.ref (ad 8), .int a1] (Wc z ad cA sMt sSource sTokens sReferenceWays sTagWays sCommentWays sOut) sz) (gQv D (gT cA) (va_A (Wc z ad cA sMt sSource sTokens sReferenceWays sTagWays sCommentWays sOut) sz) (Wc z ad cA sMt sSource sTokens sReferenceWays sTagWays sCommentWays x)) 0 0 (va_A (Wc z ad cA sMt sSource sTokens sReferenceWays sTagWays sCommentWays sOut) sz) := by
  refine g_met (by decide) (Nat.le_of_ble_eq_true rfl) rfl ?_
  intro p e s m args below meth c F hr hlk
  unfold f_Out_putByte at hf
  refine g_aload_n F d_Out_putByte_0 0 rfl ?_
  refine g_get F (v := .int (q_Out_length sOut)) in_X4 8 rfl rfl 2 (by decide) mw_287 rfl d_Out_putByte_1 ?_
  refine g_sipush F (v := 3200) d_Out_putByte_4 (by decide) ?_
  refine g_icmp_ge F (tgt := 31) d_Out_putByte_7 (by decide) (fun h => ?_) (fun h => ?_)
  · rw [if_pos h] at hf
    cases hf
    exact g_vret F hr hlk rfl rfl d_Out_putByte_31
  · rw [if_neg h] at hf
    refine g_aload_n F d_Out_putByte_10 0 rfl ?_
    refine g_get F (v := .ref (ad 23)) in_X4 8 rfl rfl 1 (by decide) mw_286 rfl d_Out_putByte_11 ?_
    refine g_aload_n F d_Out_putByte_14 0 rfl ?_
    refine g_get F (v := .int (q_Out_length sOut)) in_X4 8 rfl rfl 2 (by decide) mw_287 rfl d_Out_putByte_15 ?_
    refine g_iload_n F d_Out_putByte_18 1 rfl ?_
    refine g_i2b F d_Out_putByte_19 ?_
    obtain ⟨k1, hf⟩ := g_chk hf
    refine g_bast F (f := (q_Out_bytes sOut)) 23 1 rfl rfl k1 (ws' := (Wc z ad cA sMt sSource sTokens sReferenceWays sTagWays sCommentWays (u_Out_bytes sOut (upd (q_Out_bytes sOut) ((q_Out_length sOut) : Int32).toNatClampNeg (vp_nar .byte (a1 : Int32).toInt8.toInt32))))) rfl d_Out_putByte_20 ?_
    refine g_aload_n F d_Out_putByte_21 0 rfl ?_
    refine g_dup F d_Out_putByte_22 rfl ?_
    refine g_get F (v := .int (q_Out_length sOut)) in_X4 8 rfl rfl 2 (by decide) mw_287 rfl d_Out_putByte_23 ?_
    refine g_iconst F (v := 1) d_Out_putByte_26 (by decide) ?_
    refine g_iadd F d_Out_putByte_27 ?_
    refine g_put F in_X4 8 rfl rfl 2 (by decide) tyX4 tyX4_ok nmX4 mw_287 rfl rfl rfl (Nat.le_of_ble_eq_true rfl) (ws' := (Wc z ad cA sMt sSource sTokens sReferenceWays sTagWays sCommentWays (u_Out_length (u_Out_bytes sOut (upd (q_Out_bytes sOut) ((q_Out_length sOut) : Int32).toNatClampNeg (vp_nar .byte (a1 : Int32).toInt8.toInt32))) ((q_Out_length sOut) + 1)))) rfl d_Out_putByte_28 ?_
    cases hf
    exact g_vret F hr hlk rfl rfl d_Out_putByte_31
set_option maxHeartbeats 4000000 in
set_option maxRecDepth 100000 in
theorem c_Out_putString (l : Launch) (D : va_G) (cA : Nat → ClassId) (z : gZ) (ad : Nat → Nat) (sMt : SMt) (sSource : SSource) (sTokens : STokens) (sReferenceWays : SReferenceWays) (sTagWays : STagWays) (sCommentWays : SCommentWays) (sOut : SOut) (a1 : Nat) {x : SOut} (hf : f_Out_putString a1 sOut = some x) (sz : Nat) : Met l y_Out_putString (.code y_Out_putString b_Out_putString 3 none :: lw_g) { frames := 6, cells := 0, slots := 0, locals := 150 } (gP D (gT cA) z [.ref (ad 8), .ref (z.2.2.1 a1)] (Wc z ad cA sMt sSource sTokens sReferenceWays sTagWays sCommentWays sOut) sz) (gQv D (gT cA) (va_A (Wc z ad cA sMt sSource sTokens sReferenceWays sTagWays sCommentWays sOut) sz) (Wc z ad cA sMt sSource sTokens sReferenceWays sTagWays sCommentWays x)) 0 0 (va_A (Wc z ad cA sMt sSource sTokens sReferenceWays sTagWays sCommentWays sOut) sz) := by
  refine g_met (by decide) (Nat.le_of_ble_eq_true rfl) rfl ?_
  intro p e s m args below meth c F hr hlk
  have blk2 : ∀ (n : Nat) (v1 : Nat) (v2 : Int32) (tOut : SOut), f_Out_putString_2 n v1 v2 tOut = some x → GW p l e { frames := 6, cells := 0, slots := 0, locals := 150 } s m args below meth c (gQv D (gT cA) (va_A (Wc z ad cA sMt sSource sTokens sReferenceWays sTagWays sCommentWays sOut) sz) (Wc z ad cA sMt sSource sTokens sReferenceWays sTagWays sCommentWays x)) D (va_A (Wc z ad cA sMt sSource sTokens sReferenceWays sTagWays sCommentWays sOut) sz) 3 (Wc z ad cA sMt sSource sTokens sReferenceWays sTagWays sCommentWays tOut) 2 [(0, .ref (ad 8)), (1, .ref (z.2.2.1 v1)), (2, .int v2)] [] := by
    intro n
    induction n with
    | zero => intro _ _ _ hf; cases hf
    | succ n ih =>
      intro v1 v2 tOut hf
      rw [f_Out_putString_2] at hf
      refine g_iload_n F d_Out_putString_2 2 rfl ?_
      refine g_aload_n F d_Out_putString_3 1 rfl ?_
      obtain ⟨k1, hf⟩ := g_chk hf
      refine g_ci F (r0 := (nI (zs v1).length)) (ws' := (Wc z ad cA sMt sSource sTokens sReferenceWays sTagWays sCommentWays tOut)) (fun H locs ls hP hD hS hl => g_runV F (As := []) (n := 0) mw_482 rfl rfl ⟨by decide, by decide⟩ rfl (by exact Nat.le_of_ble_eq_true rfl) mw_983 mw_480 mw_481 mw_90 (by decide +kernel) d_Out_putString_4 hP hD hS hl (zh_o (F.2.2.2.2.2.2.2.1.2.2.1 _ k1).1 hS) (c_String_length l D (gT cA) z (Wc z ad cA sMt sSource sTokens sReferenceWays sTagWays sCommentWays tOut) v1 k1 H.size)) ?_
      refine g_icmp_ge F (tgt := 25) d_Out_putString_7 (by decide) (fun h => ?_) (fun h => ?_)
      · rw [if_pos h] at hf
        cases hf
        exact g_vret F hr hlk rfl rfl d_Out_putString_25
      · rw [if_neg h] at hf
        refine g_aload_n F d_Out_putString_10 0 rfl ?_
        refine g_aload_n F d_Out_putString_11 1 rfl ?_
        refine g_iload_n F d_Out_putString_12 2 rfl ?_
        obtain ⟨k2, hf⟩ := g_chk hf
        obtain ⟨k3, hf⟩ := g_chk hf
        refine g_ci F (r0 := ((zs v1).getD (v2 : Int32).toNatClampNeg 0)) (ws' := (Wc z ad cA sMt sSource sTokens sReferenceWays sTagWays sCommentWays tOut)) (fun H locs ls hP hD hS hl => g_runV F (As := [.int v2]) (n := 1) mw_493 rfl rfl ⟨by decide, by decide⟩ rfl (by exact Nat.le_of_ble_eq_true rfl) mw_984 mw_491 mw_492 mw_90 (by decide +kernel) d_Out_putString_13 hP hD hS hl (zh_o (F.2.2.2.2.2.2.2.1.2.2.1 _ k2).1 hS) (c_String_charAt l D (gT cA) z (Wc z ad cA sMt sSource sTokens sReferenceWays sTagWays sCommentWays tOut) v1 k2 v2 k3 H.size)) ?_
        obtain ⟨x1, hx1, hf⟩ := g_bind hf
        refine g_cv F (ws' := (Wc z ad cA sMt sSource sTokens sReferenceWays sTagWays sCommentWays x1)) (fun H locs ls hP hD hS hl => g_runV F (As := [.int ((zs v1).getD (v2 : Int32).toNatClampNeg 0)]) (n := 1) mw_988 rfl rfl ⟨by decide, by decide⟩ rfl (by exact Nat.le_of_ble_eq_true rfl) mw_985 mw_987 mw_24 mw_84 (by decide +kernel) d_Out_putString_16 hP hD hS hl (va_recv F.2.2.2.2.2.1 hP (ci := 8) rfl (q0 := 8) rfl) (c_Out_putByte l D cA z ad sMt sSource sTokens sReferenceWays sTagWays sCommentWays tOut ((zs v1).getD (v2 : Int32).toNatClampNeg 0) hx1 H.size)) ?_
        refine g_iinc F (j := 2) (v := (v2 + 1)) (L' := [(2, .int (v2 + 1)), (0, .ref (ad 8)), (1, .ref (z.2.2.1 v1))]) d_Out_putString_19 rfl rfl (by decide) rfl ?_
        refine g_goto F (tgt := 2) d_Out_putString_22 (by decide) ?_
        refine g_loc [1, 2, 0] rfl ?_
        exact ih v1 (v2 + 1) x1 hf
  unfold f_Out_putString at hf
  refine g_iconst F (v := 0) d_Out_putString_0 (by decide) ?_
  refine g_istore_n F (L' := [(2, .int 0), (0, .ref (ad 8)), (1, .ref (z.2.2.1 a1))]) d_Out_putString_1 rfl (by decide) rfl ?_
  refine g_loc [1, 2, 0] rfl ?_
  exact blk2 FU a1 0 sOut hf
set_option maxHeartbeats 4000000 in
set_option maxRecDepth 100000 in
theorem c_Out_putDigits (l : Launch) (D : va_G) (cA : Nat → ClassId) (z : gZ) (ad : Nat → Nat) (sMt : SMt) (sSource : SSource) (sTokens : STokens) (sReferenceWays : SReferenceWays) (sTagWays : STagWays) (sCommentWays : SCommentWays) (sOut : SOut) (a1 : Int32) {x : SOut} (hf : f_Out_putDigits a1 sOut = some x) (sz : Nat) : Met l y_Out_putDigits (.code y_Out_putDigits b_Out_putDigits 3 none :: lw_g) { frames := 1, cells := 0, slots := 0, locals := 21 } (gP D (gT cA) z [.ref (ad 8), .int a1] (Wc z ad cA sMt sSource sTokens sReferenceWays sTagWays sCommentWays sOut) sz) (gQv D (gT cA) (va_A (Wc z ad cA sMt sSource sTokens sReferenceWays sTagWays sCommentWays sOut) sz) (Wc z ad cA sMt sSource sTokens sReferenceWays sTagWays sCommentWays x)) 0 0 (va_A (Wc z ad cA sMt sSource sTokens sReferenceWays sTagWays sCommentWays sOut) sz) := by
  refine g_met (by decide) (Nat.le_of_ble_eq_true rfl) rfl ?_
  intro p e s m args below meth c F hr hlk
  have blk3 : ∀ (n : Nat) (v1 : Int32) (v2 : Int32) (tOut : SOut), f_Out_putDigits_3 n v1 v2 tOut = some x → GW p l e { frames := 1, cells := 0, slots := 0, locals := 21 } s m args below meth c (gQv D (gT cA) (va_A (Wc z ad cA sMt sSource sTokens sReferenceWays sTagWays sCommentWays sOut) sz) (Wc z ad cA sMt sSource sTokens sReferenceWays sTagWays sCommentWays x)) D (va_A (Wc z ad cA sMt sSource sTokens sReferenceWays sTagWays sCommentWays sOut) sz) 3 (Wc z ad cA sMt sSource sTokens sReferenceWays sTagWays sCommentWays tOut) 3 [(0, .ref (ad 8)), (1, .int v1), (2, .int v2)] [] := by
    intro n
    induction n with
    | zero => intro _ _ _ hf; cases hf
    | succ n ih =>
      intro v1 v2 tOut hf
      rw [f_Out_putDigits_3] at hf
      refine g_iload_n F d_Out_putDigits_3 2 rfl ?_
      refine g_if_le F (tgt := 33) d_Out_putDigits_4 (by decide) (fun h => ?_) (fun h => ?_)
      · rw [if_pos h] at hf
        cases hf
        exact g_vret F hr hlk rfl rfl d_Out_putDigits_33
      · rw [if_neg h] at hf
        refine g_iload_n F d_Out_putDigits_7 1 rfl ?_
        refine g_iload_n F d_Out_putDigits_8 2 rfl ?_
        refine g_icmp_lt F (tgt := 25) d_Out_putDigits_9 (by decide) (fun h => ?_) (fun h => ?_)
        · rw [if_pos h] at hf
          refine g_iload_n F d_Out_putDigits_25 2 rfl ?_
          refine g_bipush F (v := 10) d_Out_putDigits_26 (by decide) ?_
          refine g_idiv F d_Out_putDigits_28 (by decide) ?_
          refine g_istore_n F (L' := [(2, .int (v2 / 10)), (0, .ref (ad 8)), (1, .int v1)]) d_Out_putDigits_29 rfl (by decide) rfl ?_
          refine g_goto F (tgt := 3) d_Out_putDigits_30 (by decide) ?_
          refine g_loc [1, 2, 0] rfl ?_
          exact ih v1 (v2 / 10) tOut hf
        · rw [if_neg h] at hf
          refine g_aload_n F d_Out_putDigits_12 0 rfl ?_
          refine g_bipush F (v := 48) d_Out_putDigits_13 (by decide) ?_
          refine g_iload_n F d_Out_putDigits_15 1 rfl ?_
          refine g_iload_n F d_Out_putDigits_16 2 rfl ?_
          obtain ⟨k1, hf⟩ := g_chk hf
          refine g_idiv F d_Out_putDigits_17 k1 ?_
          refine g_bipush F (v := 10) d_Out_putDigits_18 (by decide) ?_
          refine g_irem F d_Out_putDigits_20 (by decide) ?_
          refine g_iadd F d_Out_putDigits_21 ?_
          obtain ⟨x1, hx1, hf⟩ := g_bind hf
          refine g_cv F (ws' := (Wc z ad cA sMt sSource sTokens sReferenceWays sTagWays sCommentWays x1)) (fun H locs ls hP hD hS hl => g_runV F (As := [.int (48 + ((v1 / v2) - (v1 / v2) / 10 * 10))]) (n := 1) mw_988 rfl rfl ⟨by decide, by decide⟩ rfl (by exact Nat.le_of_ble_eq_true rfl) mw_985 mw_987 mw_24 mw_84 (by decide +kernel) d_Out_putDigits_22 hP hD hS hl (va_recv F.2.2.2.2.2.1 hP (ci := 8) rfl (q0 := 8) rfl) (c_Out_putByte l D cA z ad sMt sSource sTokens sReferenceWays sTagWays sCommentWays tOut (48 + ((v1 / v2) - (v1 / v2) / 10 * 10)) hx1 H.size)) ?_
          refine g_iload_n F d_Out_putDigits_25 2 rfl ?_
          refine g_bipush F (v := 10) d_Out_putDigits_26 (by decide) ?_
          refine g_idiv F d_Out_putDigits_28 (by decide) ?_
          refine g_istore_n F (L' := [(2, .int (v2 / 10)), (0, .ref (ad 8)), (1, .int v1)]) d_Out_putDigits_29 rfl (by decide) rfl ?_
          refine g_goto F (tgt := 3) d_Out_putDigits_30 (by decide) ?_
          refine g_loc [1, 2, 0] rfl ?_
          exact ih v1 (v2 / 10) x1 hf
  unfold f_Out_putDigits at hf
  refine g_ldc F (v := 1000000) mw_999 d_Out_putDigits_0 ?_
  refine g_istore_n F (L' := [(2, .int 1000000), (0, .ref (ad 8)), (1, .int a1)]) d_Out_putDigits_2 rfl (by decide) rfl ?_
  refine g_loc [1, 2, 0] rfl ?_
  exact blk3 FU a1 1000000 sOut hf
set_option maxHeartbeats 4000000 in
set_option maxRecDepth 100000 in
theorem c_Out_putReferable (l : Launch) (D : va_G) (cA : Nat → ClassId) (z : gZ) (ad : Nat → Nat) (sMt : SMt) (sSource : SSource) (sTokens : STokens) (sReferenceWays : SReferenceWays) (sTagWays : STagWays) (sCommentWays : SCommentWays) (sOut : SOut) (a1 : Int32) {x : SOut} (hf : f_Out_putReferable a1 sOut = some x) (sz : Nat) : Met l y_Out_putReferable (.code y_Out_putReferable b_Out_putReferable 2 none :: lw_g) { frames := 7, cells := 0, slots := 0, locals := 172 } (gP D (gT cA) z [.ref (ad 8), .int a1] (Wc z ad cA sMt sSource sTokens sReferenceWays sTagWays sCommentWays sOut) sz) (gQv D (gT cA) (va_A (Wc z ad cA sMt sSource sTokens sReferenceWays sTagWays sCommentWays sOut) sz) (Wc z ad cA sMt sSource sTokens sReferenceWays sTagWays sCommentWays x)) 0 0 (va_A (Wc z ad cA sMt sSource sTokens sReferenceWays sTagWays sCommentWays sOut) sz) := by
  refine g_met (by decide) (Nat.le_of_ble_eq_true rfl) rfl ?_
  intro p e s m args below meth c F hr hlk
  unfold f_Out_putReferable at hf
  refine g_iload_n F d_Out_putReferable_0 1 rfl ?_
  refine g_bipush F (v := 38) d_Out_putReferable_1 (by decide) ?_
  refine g_icmp_ne F (tgt := 15) d_Out_putReferable_3 (by decide) (fun h => ?_) (fun h => ?_)
  · rw [if_neg h] at hf
    refine g_iload_n F d_Out_putReferable_15 1 rfl ?_
    refine g_bipush F (v := 13) d_Out_putReferable_16 (by decide) ?_
    refine g_icmp_eq F (tgt := 28) d_Out_putReferable_18 (by decide) (fun h => ?_) (fun h => ?_)
    · rw [if_pos h] at hf
      refine g_aload_n F d_Out_putReferable_28 0 rfl ?_
      refine g_str F ("MarkupTokens$Out", 121, "&#", 3) (by decide +kernel) rfl d_Out_putReferable_29 ?_
      obtain ⟨x1, hx1, hf⟩ := g_bind hf
      refine g_cv F (ws' := (Wc z ad cA sMt sSource sTokens sReferenceWays sTagWays sCommentWays x1)) (fun H locs ls hP hD hS hl => g_runV F (As := [.ref (z.2.2.1 3)]) (n := 1) mw_982 rfl rfl ⟨by decide, by decide⟩ rfl (by exact Nat.le_of_ble_eq_true rfl) mw_979 mw_981 mw_23 mw_84 (by decide +kernel) d_Out_putReferable_31 hP hD hS hl (va_recv F.2.2.2.2.2.1 hP (ci := 8) rfl (q0 := 8) rfl) (c_Out_putString l D cA z ad sMt sSource sTokens sReferenceWays sTagWays sCommentWays sOut 3 hx1 H.size)) ?_
      refine g_aload_n F d_Out_putReferable_34 0 rfl ?_
      refine g_iload_n F d_Out_putReferable_35 1 rfl ?_
      obtain ⟨x2, hx2, hf⟩ := g_bind hf
      refine g_cv F (ws' := (Wc z ad cA sMt sSource sTokens sReferenceWays sTagWays sCommentWays x2)) (fun H locs ls hP hD hS hl => g_runV F (As := [.int a1]) (n := 1) mw_998 rfl rfl ⟨by decide, by decide⟩ rfl (by exact Nat.le_of_ble_eq_true rfl) mw_995 mw_997 mw_26 mw_84 (by decide +kernel) d_Out_putReferable_36 hP hD hS hl (va_recv F.2.2.2.2.2.1 hP (ci := 8) rfl (q0 := 8) rfl) (c_Out_putDigits l D cA z ad sMt sSource sTokens sReferenceWays sTagWays sCommentWays x1 a1 hx2 H.size)) ?_
      refine g_aload_n F d_Out_putReferable_39 0 rfl ?_
      refine g_bipush F (v := 59) d_Out_putReferable_40 (by decide) ?_
      obtain ⟨x3, hx3, hf⟩ := g_bind hf
      refine g_cv F (ws' := (Wc z ad cA sMt sSource sTokens sReferenceWays sTagWays sCommentWays x3)) (fun H locs ls hP hD hS hl => g_runV F (As := [.int 59]) (n := 1) mw_988 rfl rfl ⟨by decide, by decide⟩ rfl (by exact Nat.le_of_ble_eq_true rfl) mw_985 mw_987 mw_24 mw_84 (by decide +kernel) d_Out_putReferable_42 hP hD hS hl (va_recv F.2.2.2.2.2.1 hP (ci := 8) rfl (q0 := 8) rfl) (c_Out_putByte l D cA z ad sMt sSource sTokens sReferenceWays sTagWays sCommentWays x2 59 hx3 H.size)) ?_
      refine g_goto F (tgt := 53) d_Out_putReferable_45 (by decide) ?_
      cases hf
      exact g_vret F hr hlk rfl rfl d_Out_putReferable_53
    · rw [if_neg h] at hf
      refine g_iload_n F d_Out_putReferable_21 1 rfl ?_
      refine g_sipush F (v := 255) d_Out_putReferable_22 (by decide) ?_
      refine g_icmp_le F (tgt := 48) d_Out_putReferable_25 (by decide) (fun h => ?_) (fun h => ?_)
      · rw [if_pos h] at hf
        refine g_aload_n F d_Out_putReferable_48 0 rfl ?_
        refine g_iload_n F d_Out_putReferable_49 1 rfl ?_
        obtain ⟨x4, hx4, hf⟩ := g_bind hf
        refine g_cv F (ws' := (Wc z ad cA sMt sSource sTokens sReferenceWays sTagWays sCommentWays x4)) (fun H locs ls hP hD hS hl => g_runV F (As := [.int a1]) (n := 1) mw_988 rfl rfl ⟨by decide, by decide⟩ rfl (by exact Nat.le_of_ble_eq_true rfl) mw_985 mw_987 mw_24 mw_84 (by decide +kernel) d_Out_putReferable_50 hP hD hS hl (va_recv F.2.2.2.2.2.1 hP (ci := 8) rfl (q0 := 8) rfl) (c_Out_putByte l D cA z ad sMt sSource sTokens sReferenceWays sTagWays sCommentWays sOut a1 hx4 H.size)) ?_
        cases hf
        exact g_vret F hr hlk rfl rfl d_Out_putReferable_53
      · rw [if_neg h] at hf
        refine g_aload_n F d_Out_putReferable_28 0 rfl ?_
        refine g_str F ("MarkupTokens$Out", 121, "&#", 3) (by decide +kernel) rfl d_Out_putReferable_29 ?_
        obtain ⟨x5, hx5, hf⟩ := g_bind hf
        refine g_cv F (ws' := (Wc z ad cA sMt sSource sTokens sReferenceWays sTagWays sCommentWays x5)) (fun H locs ls hP hD hS hl => g_runV F (As := [.ref (z.2.2.1 3)]) (n := 1) mw_982 rfl rfl ⟨by decide, by decide⟩ rfl (by exact Nat.le_of_ble_eq_true rfl) mw_979 mw_981 mw_23 mw_84 (by decide +kernel) d_Out_putReferable_31 hP hD hS hl (va_recv F.2.2.2.2.2.1 hP (ci := 8) rfl (q0 := 8) rfl) (c_Out_putString l D cA z ad sMt sSource sTokens sReferenceWays sTagWays sCommentWays sOut 3 hx5 H.size)) ?_
        refine g_aload_n F d_Out_putReferable_34 0 rfl ?_
        refine g_iload_n F d_Out_putReferable_35 1 rfl ?_
        obtain ⟨x6, hx6, hf⟩ := g_bind hf
        refine g_cv F (ws' := (Wc z ad cA sMt sSource sTokens sReferenceWays sTagWays sCommentWays x6)) (fun H locs ls hP hD hS hl => g_runV F (As := [.int a1]) (n := 1) mw_998 rfl rfl ⟨by decide, by decide⟩ rfl (by exact Nat.le_of_ble_eq_true rfl) mw_995 mw_997 mw_26 mw_84 (by decide +kernel) d_Out_putReferable_36 hP hD hS hl (va_recv F.2.2.2.2.2.1 hP (ci := 8) rfl (q0 := 8) rfl) (c_Out_putDigits l D cA z ad sMt sSource sTokens sReferenceWays sTagWays sCommentWays x5 a1 hx6 H.size)) ?_
        refine g_aload_n F d_Out_putReferable_39 0 rfl ?_
        refine g_bipush F (v := 59) d_Out_putReferable_40 (by decide) ?_
        obtain ⟨x7, hx7, hf⟩ := g_bind hf
        refine g_cv F (ws' := (Wc z ad cA sMt sSource sTokens sReferenceWays sTagWays sCommentWays x7)) (fun H locs ls hP hD hS hl => g_runV F (As := [.int 59]) (n := 1) mw_988 rfl rfl ⟨by decide, by decide⟩ rfl (by exact Nat.le_of_ble_eq_true rfl) mw_985 mw_987 mw_24 mw_84 (by decide +kernel) d_Out_putReferable_42 hP hD hS hl (va_recv F.2.2.2.2.2.1 hP (ci := 8) rfl (q0 := 8) rfl) (c_Out_putByte l D cA z ad sMt sSource sTokens sReferenceWays sTagWays sCommentWays x6 59 hx7 H.size)) ?_
        refine g_goto F (tgt := 53) d_Out_putReferable_45 (by decide) ?_
        cases hf
        exact g_vret F hr hlk rfl rfl d_Out_putReferable_53
  · rw [if_pos h] at hf
    refine g_aload_n F d_Out_putReferable_6 0 rfl ?_
    refine g_str F ("MarkupTokens$Out", 119, "&amp;", 2) (by decide +kernel) rfl d_Out_putReferable_7 ?_
    obtain ⟨x8, hx8, hf⟩ := g_bind hf
    refine g_cv F (ws' := (Wc z ad cA sMt sSource sTokens sReferenceWays sTagWays sCommentWays x8)) (fun H locs ls hP hD hS hl => g_runV F (As := [.ref (z.2.2.1 2)]) (n := 1) mw_982 rfl rfl ⟨by decide, by decide⟩ rfl (by exact Nat.le_of_ble_eq_true rfl) mw_979 mw_981 mw_23 mw_84 (by decide +kernel) d_Out_putReferable_9 hP hD hS hl (va_recv F.2.2.2.2.2.1 hP (ci := 8) rfl (q0 := 8) rfl) (c_Out_putString l D cA z ad sMt sSource sTokens sReferenceWays sTagWays sCommentWays sOut 2 hx8 H.size)) ?_
    refine g_goto F (tgt := 53) d_Out_putReferable_12 (by decide) ?_
    cases hf
    exact g_vret F hr hlk rfl rfl d_Out_putReferable_53
set_option maxHeartbeats 4000000 in
set_option maxRecDepth 100000 in
theorem c_Out_putText (l : Launch) (D : va_G) (cA : Nat → ClassId) (z : gZ) (ad : Nat → Nat) (sMt : SMt) (sSource : SSource) (sTokens : STokens) (sReferenceWays : SReferenceWays) (sTagWays : STagWays) (sCommentWays : SCommentWays) (sOut : SOut) (a1 : Int32) {x : SOut} (hf : f_Out_putText a1 sOut sTokens = some x) (sz : Nat) : Met l y_Out_putText (.code y_Out_putText b_Out_putText 4 none :: lw_g) { frames := 8, cells := 0, slots := 0, locals := 193 } (gP D (gT cA) z [.ref (ad 8), .int a1] (Wc z ad cA sMt sSource sTokens sReferenceWays sTagWays sCommentWays sOut) sz) (gQv D (gT cA) (va_A (Wc z ad cA sMt sSource sTokens sReferenceWays sTagWays sCommentWays sOut) sz) (Wc z ad cA sMt sSource sTokens sReferenceWays sTagWays sCommentWays x)) 0 0 (va_A (Wc z ad cA sMt sSource sTokens sReferenceWays sTagWays sCommentWays sOut) sz) := by
  refine g_met (by decide) (Nat.le_of_ble_eq_true rfl) rfl ?_
  intro p e s m args below meth c F hr hlk
  have blk2 : ∀ (n : Nat) (v1 : Int32) (v2 : Int32) (tOut : SOut), f_Out_putText_2 n v1 v2 tOut sTokens = some x → GW p l e { frames := 8, cells := 0, slots := 0, locals := 193 } s m args below meth c (gQv D (gT cA) (va_A (Wc z ad cA sMt sSource sTokens sReferenceWays sTagWays sCommentWays sOut) sz) (Wc z ad cA sMt sSource sTokens sReferenceWays sTagWays sCommentWays x)) D (va_A (Wc z ad cA sMt sSource sTokens sReferenceWays sTagWays sCommentWays sOut) sz) 4 (Wc z ad cA sMt sSource sTokens sReferenceWays sTagWays sCommentWays tOut) 2 [(0, .ref (ad 8)), (1, .int v1), (2, .int v2)] [] := by
    intro n
    induction n with
    | zero => intro _ _ _ hf; cases hf
    | succ n ih =>
      intro v1 v2 tOut hf
      rw [f_Out_putText_2] at hf
      refine g_iload_n F d_Out_putText_2 2 rfl ?_
      refine g_aload_n F d_Out_putText_3 0 rfl ?_
      refine g_get F (v := .ref (ad 2)) in_X4 8 rfl rfl 0 (by decide) mw_285 rfl d_Out_putText_4 ?_
      refine g_iload_n F d_Out_putText_7 1 rfl ?_
      obtain ⟨x1, hx1, hf⟩ := g_bind hf
      refine g_ci F (r0 := x1) (ws' := (Wc z ad cA sMt sSource sTokens sReferenceWays sTagWays sCommentWays tOut)) (fun H locs ls hP hD hS hl => g_runV F (As := [.int v1]) (n := 1) mw_895 rfl rfl ⟨by decide, by decide⟩ rfl (by exact Nat.le_of_ble_eq_true rfl) mw_976 mw_893 mw_894 mw_75 (by decide +kernel) d_Out_putText_8 hP hD hS hl (va_recv F.2.2.2.2.2.1 hP (ci := 2) rfl (q0 := 2) rfl) (c_Tokens_length l D cA z ad sMt sSource sTokens sReferenceWays sTagWays sCommentWays tOut v1 hx1 H.size)) ?_
      refine g_icmp_ge F (tgt := 50) d_Out_putText_11 (by decide) (fun h => ?_) (fun h => ?_)
      · rw [if_pos h] at hf
        cases hf
        exact g_vret F hr hlk rfl rfl d_Out_putText_50
      · rw [if_neg h] at hf
        refine g_aload_n F d_Out_putText_14 0 rfl ?_
        refine g_get F (v := .ref (ad 2)) in_X4 8 rfl rfl 0 (by decide) mw_285 rfl d_Out_putText_15 ?_
        refine g_iload_n F d_Out_putText_18 1 rfl ?_
        refine g_iload_n F d_Out_putText_19 2 rfl ?_
        obtain ⟨x2, hx2, hf⟩ := g_bind hf
        refine g_ci F (r0 := x2) (ws' := (Wc z ad cA sMt sSource sTokens sReferenceWays sTagWays sCommentWays tOut)) (fun H locs ls hP hD hS hl => g_runV F (As := [.int v1, .int v2]) (n := 2) mw_911 rfl rfl ⟨by decide, by decide⟩ rfl (by exact Nat.le_of_ble_eq_true rfl) mw_977 mw_909 mw_910 mw_75 (by decide +kernel) d_Out_putText_20 hP hD hS hl (va_recv F.2.2.2.2.2.1 hP (ci := 2) rfl (q0 := 2) rfl) (c_Tokens_character l D cA z ad sMt sSource sTokens sReferenceWays sTagWays sCommentWays tOut v1 v2 hx2 H.size)) ?_
        refine g_istore_n F (L' := [(3, .int x2), (0, .ref (ad 8)), (1, .int v1), (2, .int v2)]) d_Out_putText_23 rfl (by decide) rfl ?_
        refine g_iload_n F d_Out_putText_24 0 rfl ?_
        refine g_bipush F (v := 60) d_Out_putText_25 (by decide) ?_
        refine g_icmp_ne F (tgt := 39) d_Out_putText_27 (by decide) (fun h => ?_) (fun h => ?_)
        · rw [if_neg h] at hf
          refine g_aload_n F d_Out_putText_39 1 rfl ?_
          refine g_iload_n F d_Out_putText_40 0 rfl ?_
          obtain ⟨x3, hx3, hf⟩ := g_bind hf
          refine g_cv F (ws' := (Wc z ad cA sMt sSource sTokens sReferenceWays sTagWays sCommentWays x3)) (fun H locs ls hP hD hS hl => g_runV F (As := [.int x2]) (n := 1) mw_992 rfl rfl ⟨by decide, by decide⟩ rfl (by exact Nat.le_of_ble_eq_true rfl) mw_989 mw_991 mw_25 mw_84 (by decide +kernel) d_Out_putText_41 hP hD hS hl (va_recv F.2.2.2.2.2.1 hP (ci := 8) rfl (q0 := 8) rfl) (c_Out_putReferable l D cA z ad sMt sSource sTokens sReferenceWays sTagWays sCommentWays tOut x2 hx3 H.size)) ?_
          refine g_iinc F (j := 3) (v := (v2 + 1)) (L' := [(2, .int (v2 + 1)), (3, .int x2), (0, .ref (ad 8)), (1, .int v1)]) d_Out_putText_44 rfl rfl (by decide) rfl ?_
          refine g_goto F (tgt := 2) d_Out_putText_47 (by decide) ?_
          refine g_loc [2, 3, 0] rfl ?_
          exact ih v1 (v2 + 1) x3 hf
        · rw [if_pos h] at hf
          refine g_aload_n F d_Out_putText_30 1 rfl ?_
          refine g_str F ("MarkupTokens$Out", 65, "&lt;", 1) (by decide +kernel) rfl d_Out_putText_31 ?_
          obtain ⟨x4, hx4, hf⟩ := g_bind hf
          refine g_cv F (ws' := (Wc z ad cA sMt sSource sTokens sReferenceWays sTagWays sCommentWays x4)) (fun H locs ls hP hD hS hl => g_runV F (As := [.ref (z.2.2.1 1)]) (n := 1) mw_982 rfl rfl ⟨by decide, by decide⟩ rfl (by exact Nat.le_of_ble_eq_true rfl) mw_979 mw_981 mw_23 mw_84 (by decide +kernel) d_Out_putText_33 hP hD hS hl (va_recv F.2.2.2.2.2.1 hP (ci := 8) rfl (q0 := 8) rfl) (c_Out_putString l D cA z ad sMt sSource sTokens sReferenceWays sTagWays sCommentWays tOut 1 hx4 H.size)) ?_
          refine g_goto F (tgt := 44) d_Out_putText_36 (by decide) ?_
          refine g_iinc F (j := 3) (v := (v2 + 1)) (L' := [(2, .int (v2 + 1)), (3, .int x2), (0, .ref (ad 8)), (1, .int v1)]) d_Out_putText_44 rfl rfl (by decide) rfl ?_
          refine g_goto F (tgt := 2) d_Out_putText_47 (by decide) ?_
          refine g_loc [2, 3, 0] rfl ?_
          exact ih v1 (v2 + 1) x4 hf
  unfold f_Out_putText at hf
  refine g_iconst F (v := 0) d_Out_putText_0 (by decide) ?_
  refine g_istore_n F (L' := [(2, .int 0), (0, .ref (ad 8)), (1, .int a1)]) d_Out_putText_1 rfl (by decide) rfl ?_
  refine g_loc [1, 2, 0] rfl ?_
  exact blk2 FU a1 0 sOut hf
set_option maxHeartbeats 4000000 in
set_option maxRecDepth 100000 in
theorem c_Out_putPlain (l : Launch) (D : va_G) (cA : Nat → ClassId) (z : gZ) (ad : Nat → Nat) (sMt : SMt) (sSource : SSource) (sTokens : STokens) (sReferenceWays : SReferenceWays) (sTagWays : STagWays) (sCommentWays : SCommentWays) (sOut : SOut) (a1 : Int32) {x : SOut} (hf : f_Out_putPlain a1 sOut = some x) (sz : Nat) : Met l y_Out_putPlain (.code y_Out_putPlain b_Out_putPlain 2 none :: lw_g) { frames := 1, cells := 0, slots := 0, locals := 21 } (gP D (gT cA) z [.ref (ad 8), .int a1] (Wc z ad cA sMt sSource sTokens sReferenceWays sTagWays sCommentWays sOut) sz) (gQv D (gT cA) (va_A (Wc z ad cA sMt sSource sTokens sReferenceWays sTagWays sCommentWays sOut) sz) (Wc z ad cA sMt sSource sTokens sReferenceWays sTagWays sCommentWays x)) 0 0 (va_A (Wc z ad cA sMt sSource sTokens sReferenceWays sTagWays sCommentWays sOut) sz) := by
  refine g_met (by decide) (Nat.le_of_ble_eq_true rfl) rfl ?_
  intro p e s m args below meth c F hr hlk
  unfold f_Out_putPlain at hf
  refine g_aload_n F d_Out_putPlain_0 0 rfl ?_
  refine g_iload_n F d_Out_putPlain_1 1 rfl ?_
  refine g_ldc F (v := 65533) mw_1013 d_Out_putPlain_2 ?_
  refine g_icmp_ne F (tgt := 11) d_Out_putPlain_4 (by decide) (fun h => ?_) (fun h => ?_)
  · rw [if_neg h] at hf
    refine g_iload_n F d_Out_putPlain_11 1 rfl ?_
    obtain ⟨x1, hx1, hf⟩ := g_bind hf
    refine g_cv F (ws' := (Wc z ad cA sMt sSource sTokens sReferenceWays sTagWays sCommentWays x1)) (fun H locs ls hP hD hS hl => g_runV F (As := [.int a1]) (n := 1) mw_988 rfl rfl ⟨by decide, by decide⟩ rfl (by exact Nat.le_of_ble_eq_true rfl) mw_985 mw_987 mw_24 mw_84 (by decide +kernel) d_Out_putPlain_12 hP hD hS hl (va_recv F.2.2.2.2.2.1 hP (ci := 8) rfl (q0 := 8) rfl) (c_Out_putByte l D cA z ad sMt sSource sTokens sReferenceWays sTagWays sCommentWays sOut a1 hx1 H.size)) ?_
    cases hf
    exact g_vret F hr hlk rfl rfl d_Out_putPlain_15
  · rw [if_pos h] at hf
    refine g_iconst F (v := 0) d_Out_putPlain_7 (by decide) ?_
    refine g_goto F (tgt := 12) d_Out_putPlain_8 (by decide) ?_
    obtain ⟨x2, hx2, hf⟩ := g_bind hf
    refine g_cv F (ws' := (Wc z ad cA sMt sSource sTokens sReferenceWays sTagWays sCommentWays x2)) (fun H locs ls hP hD hS hl => g_runV F (As := [.int 0]) (n := 1) mw_988 rfl rfl ⟨by decide, by decide⟩ rfl (by exact Nat.le_of_ble_eq_true rfl) mw_985 mw_987 mw_24 mw_84 (by decide +kernel) d_Out_putPlain_12 hP hD hS hl (va_recv F.2.2.2.2.2.1 hP (ci := 8) rfl (q0 := 8) rfl) (c_Out_putByte l D cA z ad sMt sSource sTokens sReferenceWays sTagWays sCommentWays sOut 0 hx2 H.size)) ?_
    cases hf
    exact g_vret F hr hlk rfl rfl d_Out_putPlain_15
set_option maxHeartbeats 4000000 in
set_option maxRecDepth 100000 in
theorem c_Out_putOwn (l : Launch) (D : va_G) (cA : Nat → ClassId) (z : gZ) (ad : Nat → Nat) (sMt : SMt) (sSource : SSource) (sTokens : STokens) (sReferenceWays : SReferenceWays) (sTagWays : STagWays) (sCommentWays : SCommentWays) (sOut : SOut) (a1 : Int32) {x : SOut} (hf : f_Out_putOwn a1 sOut sTokens = some x) (sz : Nat) : Met l y_Out_putOwn (.code y_Out_putOwn b_Out_putOwn 3 none :: lw_g) { frames := 2, cells := 0, slots := 0, locals := 42 } (gP D (gT cA) z [.ref (ad 8), .int a1] (Wc z ad cA sMt sSource sTokens sReferenceWays sTagWays sCommentWays sOut) sz) (gQv D (gT cA) (va_A (Wc z ad cA sMt sSource sTokens sReferenceWays sTagWays sCommentWays sOut) sz) (Wc z ad cA sMt sSource sTokens sReferenceWays sTagWays sCommentWays x)) 0 0 (va_A (Wc z ad cA sMt sSource sTokens sReferenceWays sTagWays sCommentWays sOut) sz) := by
  refine g_met (by decide) (Nat.le_of_ble_eq_true rfl) rfl ?_
  intro p e s m args below meth c F hr hlk
  have blk2 : ∀ (n : Nat) (v1 : Int32) (v2 : Int32) (tOut : SOut), f_Out_putOwn_2 n v1 v2 tOut sTokens = some x → GW p l e { frames := 2, cells := 0, slots := 0, locals := 42 } s m args below meth c (gQv D (gT cA) (va_A (Wc z ad cA sMt sSource sTokens sReferenceWays sTagWays sCommentWays sOut) sz) (Wc z ad cA sMt sSource sTokens sReferenceWays sTagWays sCommentWays x)) D (va_A (Wc z ad cA sMt sSource sTokens sReferenceWays sTagWays sCommentWays sOut) sz) 3 (Wc z ad cA sMt sSource sTokens sReferenceWays sTagWays sCommentWays tOut) 2 [(0, .ref (ad 8)), (1, .int v1), (2, .int v2)] [] := by
    intro n
    induction n with
    | zero => intro _ _ _ hf; cases hf
    | succ n ih =>
      intro v1 v2 tOut hf
      rw [f_Out_putOwn_2] at hf
      refine g_iload_n F d_Out_putOwn_2 2 rfl ?_
      refine g_aload_n F d_Out_putOwn_3 0 rfl ?_
      refine g_get F (v := .ref (ad 2)) in_X4 8 rfl rfl 0 (by decide) mw_285 rfl d_Out_putOwn_4 ?_
      refine g_iload_n F d_Out_putOwn_7 1 rfl ?_
      obtain ⟨x1, hx1, hf⟩ := g_bind hf
      refine g_ci F (r0 := x1) (ws' := (Wc z ad cA sMt sSource sTokens sReferenceWays sTagWays sCommentWays tOut)) (fun H locs ls hP hD hS hl => g_runV F (As := [.int v1]) (n := 1) mw_895 rfl rfl ⟨by decide, by decide⟩ rfl (by exact Nat.le_of_ble_eq_true rfl) mw_976 mw_893 mw_894 mw_75 (by decide +kernel) d_Out_putOwn_8 hP hD hS hl (va_recv F.2.2.2.2.2.1 hP (ci := 2) rfl (q0 := 2) rfl) (c_Tokens_length l D cA z ad sMt sSource sTokens sReferenceWays sTagWays sCommentWays tOut v1 hx1 H.size)) ?_
      refine g_icmp_ge F (tgt := 33) d_Out_putOwn_11 (by decide) (fun h => ?_) (fun h => ?_)
      · rw [if_pos h] at hf
        cases hf
        exact g_vret F hr hlk rfl rfl d_Out_putOwn_33
      · rw [if_neg h] at hf
        refine g_aload_n F d_Out_putOwn_14 0 rfl ?_
        refine g_aload_n F d_Out_putOwn_15 0 rfl ?_
        refine g_get F (v := .ref (ad 2)) in_X4 8 rfl rfl 0 (by decide) mw_285 rfl d_Out_putOwn_16 ?_
        refine g_iload_n F d_Out_putOwn_19 1 rfl ?_
        refine g_iload_n F d_Out_putOwn_20 2 rfl ?_
        obtain ⟨x2, hx2, hf⟩ := g_bind hf
        refine g_ci F (r0 := x2) (ws' := (Wc z ad cA sMt sSource sTokens sReferenceWays sTagWays sCommentWays tOut)) (fun H locs ls hP hD hS hl => g_runV F (As := [.int v1, .int v2]) (n := 2) mw_911 rfl rfl ⟨by decide, by decide⟩ rfl (by exact Nat.le_of_ble_eq_true rfl) mw_977 mw_909 mw_910 mw_75 (by decide +kernel) d_Out_putOwn_21 hP hD hS hl (va_recv F.2.2.2.2.2.1 hP (ci := 2) rfl (q0 := 2) rfl) (c_Tokens_character l D cA z ad sMt sSource sTokens sReferenceWays sTagWays sCommentWays tOut v1 v2 hx2 H.size)) ?_
        obtain ⟨x3, hx3, hf⟩ := g_bind hf
        refine g_cv F (ws' := (Wc z ad cA sMt sSource sTokens sReferenceWays sTagWays sCommentWays x3)) (fun H locs ls hP hD hS hl => g_runV F (As := [.int x2]) (n := 1) mw_1012 rfl rfl ⟨by decide, by decide⟩ rfl (by exact Nat.le_of_ble_eq_true rfl) mw_1009 mw_1011 mw_29 mw_84 (by decide +kernel) d_Out_putOwn_24 hP hD hS hl (va_recv F.2.2.2.2.2.1 hP (ci := 8) rfl (q0 := 8) rfl) (c_Out_putPlain l D cA z ad sMt sSource sTokens sReferenceWays sTagWays sCommentWays tOut x2 hx3 H.size)) ?_
        refine g_iinc F (j := 2) (v := (v2 + 1)) (L' := [(2, .int (v2 + 1)), (0, .ref (ad 8)), (1, .int v1)]) d_Out_putOwn_27 rfl rfl (by decide) rfl ?_
        refine g_goto F (tgt := 2) d_Out_putOwn_30 (by decide) ?_
        refine g_loc [1, 2, 0] rfl ?_
        exact ih v1 (v2 + 1) x3 hf
  unfold f_Out_putOwn at hf
  refine g_iconst F (v := 0) d_Out_putOwn_0 (by decide) ?_
  refine g_istore_n F (L' := [(2, .int 0), (0, .ref (ad 8)), (1, .int a1)]) d_Out_putOwn_1 rfl (by decide) rfl ?_
  refine g_loc [1, 2, 0] rfl ?_
  exact blk2 FU a1 0 sOut hf
set_option maxHeartbeats 4000000 in
set_option maxRecDepth 100000 in
theorem c_Out_putComment (l : Launch) (D : va_G) (cA : Nat → ClassId) (z : gZ) (ad : Nat → Nat) (sMt : SMt) (sSource : SSource) (sTokens : STokens) (sReferenceWays : SReferenceWays) (sTagWays : STagWays) (sCommentWays : SCommentWays) (sOut : SOut) (a1 : Int32) {x : SOut} (hf : f_Out_putComment a1 sOut sTokens = some x) (sz : Nat) : Met l y_Out_putComment (.code y_Out_putComment b_Out_putComment 2 none :: lw_g) { frames := 7, cells := 0, slots := 0, locals := 172 } (gP D (gT cA) z [.ref (ad 8), .int a1] (Wc z ad cA sMt sSource sTokens sReferenceWays sTagWays sCommentWays sOut) sz) (gQv D (gT cA) (va_A (Wc z ad cA sMt sSource sTokens sReferenceWays sTagWays sCommentWays sOut) sz) (Wc z ad cA sMt sSource sTokens sReferenceWays sTagWays sCommentWays x)) 0 0 (va_A (Wc z ad cA sMt sSource sTokens sReferenceWays sTagWays sCommentWays sOut) sz) := by
  refine g_met (by decide) (Nat.le_of_ble_eq_true rfl) rfl ?_
  intro p e s m args below meth c F hr hlk
  unfold f_Out_putComment at hf
  refine g_aload_n F d_Out_putComment_0 0 rfl ?_
  refine g_str F ("MarkupTokens$Out", 74, "<!--", 4) (by decide +kernel) rfl d_Out_putComment_1 ?_
  obtain ⟨x1, hx1, hf⟩ := g_bind hf
  refine g_cv F (ws' := (Wc z ad cA sMt sSource sTokens sReferenceWays sTagWays sCommentWays x1)) (fun H locs ls hP hD hS hl => g_runV F (As := [.ref (z.2.2.1 4)]) (n := 1) mw_982 rfl rfl ⟨by decide, by decide⟩ rfl (by exact Nat.le_of_ble_eq_true rfl) mw_979 mw_981 mw_23 mw_84 (by decide +kernel) d_Out_putComment_3 hP hD hS hl (va_recv F.2.2.2.2.2.1 hP (ci := 8) rfl (q0 := 8) rfl) (c_Out_putString l D cA z ad sMt sSource sTokens sReferenceWays sTagWays sCommentWays sOut 4 hx1 H.size)) ?_
  refine g_aload_n F d_Out_putComment_6 0 rfl ?_
  refine g_iload_n F d_Out_putComment_7 1 rfl ?_
  obtain ⟨x2, hx2, hf⟩ := g_bind hf
  refine g_cv F (ws' := (Wc z ad cA sMt sSource sTokens sReferenceWays sTagWays sCommentWays x2)) (fun H locs ls hP hD hS hl => g_runV F (As := [.int a1]) (n := 1) mw_1008 rfl rfl ⟨by decide, by decide⟩ rfl (by exact Nat.le_of_ble_eq_true rfl) mw_1005 mw_1007 mw_28 mw_84 (by decide +kernel) d_Out_putComment_8 hP hD hS hl (va_recv F.2.2.2.2.2.1 hP (ci := 8) rfl (q0 := 8) rfl) (c_Out_putOwn l D cA z ad sMt sSource sTokens sReferenceWays sTagWays sCommentWays x1 a1 hx2 H.size)) ?_
  refine g_aload_n F d_Out_putComment_11 0 rfl ?_
  refine g_str F ("MarkupTokens$Out", 79, "-->", 5) (by decide +kernel) rfl d_Out_putComment_12 ?_
  obtain ⟨x3, hx3, hf⟩ := g_bind hf
  refine g_cv F (ws' := (Wc z ad cA sMt sSource sTokens sReferenceWays sTagWays sCommentWays x3)) (fun H locs ls hP hD hS hl => g_runV F (As := [.ref (z.2.2.1 5)]) (n := 1) mw_982 rfl rfl ⟨by decide, by decide⟩ rfl (by exact Nat.le_of_ble_eq_true rfl) mw_979 mw_981 mw_23 mw_84 (by decide +kernel) d_Out_putComment_14 hP hD hS hl (va_recv F.2.2.2.2.2.1 hP (ci := 8) rfl (q0 := 8) rfl) (c_Out_putString l D cA z ad sMt sSource sTokens sReferenceWays sTagWays sCommentWays x2 5 hx3 H.size)) ?_
  cases hf
  exact g_vret F hr hlk rfl rfl d_Out_putComment_17
set_option maxHeartbeats 4000000 in
set_option maxRecDepth 100000 in
theorem c_Out_putDoctype (l : Launch) (D : va_G) (cA : Nat → ClassId) (z : gZ) (ad : Nat → Nat) (sMt : SMt) (sSource : SSource) (sTokens : STokens) (sReferenceWays : SReferenceWays) (sTagWays : STagWays) (sCommentWays : SCommentWays) (sOut : SOut) (a1 : Int32) {x : SOut} (hf : f_Out_putDoctype a1 sOut sTokens = some x) (sz : Nat) : Met l y_Out_putDoctype (.code y_Out_putDoctype b_Out_putDoctype 2 none :: lw_g) { frames := 7, cells := 0, slots := 0, locals := 172 } (gP D (gT cA) z [.ref (ad 8), .int a1] (Wc z ad cA sMt sSource sTokens sReferenceWays sTagWays sCommentWays sOut) sz) (gQv D (gT cA) (va_A (Wc z ad cA sMt sSource sTokens sReferenceWays sTagWays sCommentWays sOut) sz) (Wc z ad cA sMt sSource sTokens sReferenceWays sTagWays sCommentWays x)) 0 0 (va_A (Wc z ad cA sMt sSource sTokens sReferenceWays sTagWays sCommentWays sOut) sz) := by
  refine g_met (by decide) (Nat.le_of_ble_eq_true rfl) rfl ?_
  intro p e s m args below meth c F hr hlk
  unfold f_Out_putDoctype at hf
  refine g_aload_n F d_Out_putDoctype_0 0 rfl ?_
  refine g_str F ("MarkupTokens$Out", 81, "<!DOCTYPE", 6) (by decide +kernel) rfl d_Out_putDoctype_1 ?_
  obtain ⟨x1, hx1, hf⟩ := g_bind hf
  refine g_cv F (ws' := (Wc z ad cA sMt sSource sTokens sReferenceWays sTagWays sCommentWays x1)) (fun H locs ls hP hD hS hl => g_runV F (As := [.ref (z.2.2.1 6)]) (n := 1) mw_982 rfl rfl ⟨by decide, by decide⟩ rfl (by exact Nat.le_of_ble_eq_true rfl) mw_979 mw_981 mw_23 mw_84 (by decide +kernel) d_Out_putDoctype_3 hP hD hS hl (va_recv F.2.2.2.2.2.1 hP (ci := 8) rfl (q0 := 8) rfl) (c_Out_putString l D cA z ad sMt sSource sTokens sReferenceWays sTagWays sCommentWays sOut 6 hx1 H.size)) ?_
  refine g_aload_n F d_Out_putDoctype_6 0 rfl ?_
  refine g_get F (v := .ref (ad 2)) in_X4 8 rfl rfl 0 (by decide) mw_285 rfl d_Out_putDoctype_7 ?_
  refine g_iload_n F d_Out_putDoctype_10 1 rfl ?_
  obtain ⟨x2, hx2, hf⟩ := g_bind hf
  refine g_ci F (r0 := x2) (ws' := (Wc z ad cA sMt sSource sTokens sReferenceWays sTagWays sCommentWays x1)) (fun H locs ls hP hD hS hl => g_runV F (As := [.int a1]) (n := 1) mw_895 rfl rfl ⟨by decide, by decide⟩ rfl (by exact Nat.le_of_ble_eq_true rfl) mw_976 mw_893 mw_894 mw_75 (by decide +kernel) d_Out_putDoctype_11 hP hD hS hl (va_recv F.2.2.2.2.2.1 hP (ci := 2) rfl (q0 := 2) rfl) (c_Tokens_length l D cA z ad sMt sSource sTokens sReferenceWays sTagWays sCommentWays x1 a1 hx2 H.size)) ?_
  refine g_if_le F (tgt := 46) d_Out_putDoctype_14 (by decide) (fun h => ?_) (fun h => ?_)
  · rw [if_pos h] at hf
    refine g_aload_n F d_Out_putDoctype_46 0 rfl ?_
    refine g_bipush F (v := 62) d_Out_putDoctype_47 (by decide) ?_
    obtain ⟨x3, hx3, hf⟩ := g_bind hf
    refine g_cv F (ws' := (Wc z ad cA sMt sSource sTokens sReferenceWays sTagWays sCommentWays x3)) (fun H locs ls hP hD hS hl => g_runV F (As := [.int 62]) (n := 1) mw_988 rfl rfl ⟨by decide, by decide⟩ rfl (by exact Nat.le_of_ble_eq_true rfl) mw_985 mw_987 mw_24 mw_84 (by decide +kernel) d_Out_putDoctype_49 hP hD hS hl (va_recv F.2.2.2.2.2.1 hP (ci := 8) rfl (q0 := 8) rfl) (c_Out_putByte l D cA z ad sMt sSource sTokens sReferenceWays sTagWays sCommentWays x1 62 hx3 H.size)) ?_
    cases hf
    exact g_vret F hr hlk rfl rfl d_Out_putDoctype_52
  · rw [if_neg h] at hf
    refine g_aload_n F d_Out_putDoctype_17 0 rfl ?_
    refine g_bipush F (v := 32) d_Out_putDoctype_18 (by decide) ?_
    obtain ⟨x4, hx4, hf⟩ := g_bind hf
    refine g_cv F (ws' := (Wc z ad cA sMt sSource sTokens sReferenceWays sTagWays sCommentWays x4)) (fun H locs ls hP hD hS hl => g_runV F (As := [.int 32]) (n := 1) mw_988 rfl rfl ⟨by decide, by decide⟩ rfl (by exact Nat.le_of_ble_eq_true rfl) mw_985 mw_987 mw_24 mw_84 (by decide +kernel) d_Out_putDoctype_20 hP hD hS hl (va_recv F.2.2.2.2.2.1 hP (ci := 8) rfl (q0 := 8) rfl) (c_Out_putByte l D cA z ad sMt sSource sTokens sReferenceWays sTagWays sCommentWays x1 32 hx4 H.size)) ?_
    refine g_aload_n F d_Out_putDoctype_23 0 rfl ?_
    refine g_iload_n F d_Out_putDoctype_24 1 rfl ?_
    obtain ⟨x5, hx5, hf⟩ := g_bind hf
    refine g_cv F (ws' := (Wc z ad cA sMt sSource sTokens sReferenceWays sTagWays sCommentWays x5)) (fun H locs ls hP hD hS hl => g_runV F (As := [.int a1]) (n := 1) mw_1008 rfl rfl ⟨by decide, by decide⟩ rfl (by exact Nat.le_of_ble_eq_true rfl) mw_1005 mw_1007 mw_28 mw_84 (by decide +kernel) d_Out_putDoctype_25 hP hD hS hl (va_recv F.2.2.2.2.2.1 hP (ci := 8) rfl (q0 := 8) rfl) (c_Out_putOwn l D cA z ad sMt sSource sTokens sReferenceWays sTagWays sCommentWays x4 a1 hx5 H.size)) ?_
    refine g_aload_n F d_Out_putDoctype_28 0 rfl ?_
    refine g_get F (v := .ref (ad 2)) in_X4 8 rfl rfl 0 (by decide) mw_285 rfl d_Out_putDoctype_29 ?_
    refine g_iload_n F d_Out_putDoctype_32 1 rfl ?_
    obtain ⟨x6, hx6, hf⟩ := g_bind hf
    refine g_ci F (r0 := x6) (ws' := (Wc z ad cA sMt sSource sTokens sReferenceWays sTagWays sCommentWays x5)) (fun H locs ls hP hD hS hl => g_runV F (As := [.int a1]) (n := 1) mw_899 rfl rfl ⟨by decide, by decide⟩ rfl (by exact Nat.le_of_ble_eq_true rfl) mw_1020 mw_897 mw_898 mw_75 (by decide +kernel) d_Out_putDoctype_33 hP hD hS hl (va_recv F.2.2.2.2.2.1 hP (ci := 2) rfl (q0 := 2) rfl) (c_Tokens_mark l D cA z ad sMt sSource sTokens sReferenceWays sTagWays sCommentWays x5 a1 hx6 H.size)) ?_
    refine g_iconst F (v := 1) d_Out_putDoctype_36 (by decide) ?_
    refine g_icmp_ne F (tgt := 46) d_Out_putDoctype_37 (by decide) (fun h => ?_) (fun h => ?_)
    · rw [if_neg h] at hf
      refine g_aload_n F d_Out_putDoctype_46 0 rfl ?_
      refine g_bipush F (v := 62) d_Out_putDoctype_47 (by decide) ?_
      obtain ⟨x7, hx7, hf⟩ := g_bind hf
      refine g_cv F (ws' := (Wc z ad cA sMt sSource sTokens sReferenceWays sTagWays sCommentWays x7)) (fun H locs ls hP hD hS hl => g_runV F (As := [.int 62]) (n := 1) mw_988 rfl rfl ⟨by decide, by decide⟩ rfl (by exact Nat.le_of_ble_eq_true rfl) mw_985 mw_987 mw_24 mw_84 (by decide +kernel) d_Out_putDoctype_49 hP hD hS hl (va_recv F.2.2.2.2.2.1 hP (ci := 8) rfl (q0 := 8) rfl) (c_Out_putByte l D cA z ad sMt sSource sTokens sReferenceWays sTagWays sCommentWays x5 62 hx7 H.size)) ?_
      cases hf
      exact g_vret F hr hlk rfl rfl d_Out_putDoctype_52
    · rw [if_pos h] at hf
      refine g_aload_n F d_Out_putDoctype_40 0 rfl ?_
      refine g_str F ("MarkupTokens$Out", 89, " x", 7) (by decide +kernel) rfl d_Out_putDoctype_41 ?_
      obtain ⟨x8, hx8, hf⟩ := g_bind hf
      refine g_cv F (ws' := (Wc z ad cA sMt sSource sTokens sReferenceWays sTagWays sCommentWays x8)) (fun H locs ls hP hD hS hl => g_runV F (As := [.ref (z.2.2.1 7)]) (n := 1) mw_982 rfl rfl ⟨by decide, by decide⟩ rfl (by exact Nat.le_of_ble_eq_true rfl) mw_979 mw_981 mw_23 mw_84 (by decide +kernel) d_Out_putDoctype_43 hP hD hS hl (va_recv F.2.2.2.2.2.1 hP (ci := 8) rfl (q0 := 8) rfl) (c_Out_putString l D cA z ad sMt sSource sTokens sReferenceWays sTagWays sCommentWays x5 7 hx8 H.size)) ?_
      refine g_aload_n F d_Out_putDoctype_46 0 rfl ?_
      refine g_bipush F (v := 62) d_Out_putDoctype_47 (by decide) ?_
      obtain ⟨x9, hx9, hf⟩ := g_bind hf
      refine g_cv F (ws' := (Wc z ad cA sMt sSource sTokens sReferenceWays sTagWays sCommentWays x9)) (fun H locs ls hP hD hS hl => g_runV F (As := [.int 62]) (n := 1) mw_988 rfl rfl ⟨by decide, by decide⟩ rfl (by exact Nat.le_of_ble_eq_true rfl) mw_985 mw_987 mw_24 mw_84 (by decide +kernel) d_Out_putDoctype_49 hP hD hS hl (va_recv F.2.2.2.2.2.1 hP (ci := 8) rfl (q0 := 8) rfl) (c_Out_putByte l D cA z ad sMt sSource sTokens sReferenceWays sTagWays sCommentWays x8 62 hx9 H.size)) ?_
      cases hf
      exact g_vret F hr hlk rfl rfl d_Out_putDoctype_52
set_option maxHeartbeats 4000000 in
set_option maxRecDepth 100000 in
theorem c_Out_putAttribute (l : Launch) (D : va_G) (cA : Nat → ClassId) (z : gZ) (ad : Nat → Nat) (sMt : SMt) (sSource : SSource) (sTokens : STokens) (sReferenceWays : SReferenceWays) (sTagWays : STagWays) (sCommentWays : SCommentWays) (sOut : SOut) (a1 : Int32) (a2 : Int32) {x : SOut} (hf : f_Out_putAttribute a1 a2 sOut sTokens = some x) (sz : Nat) : Met l y_Out_putAttribute (.code y_Out_putAttribute b_Out_putAttribute 5 none :: lw_g) { frames := 8, cells := 0, slots := 0, locals := 193 } (gP D (gT cA) z [.ref (ad 8), .int a1, .int a2] (Wc z ad cA sMt sSource sTokens sReferenceWays sTagWays sCommentWays sOut) sz) (gQv D (gT cA) (va_A (Wc z ad cA sMt sSource sTokens sReferenceWays sTagWays sCommentWays sOut) sz) (Wc z ad cA sMt sSource sTokens sReferenceWays sTagWays sCommentWays x)) 0 0 (va_A (Wc z ad cA sMt sSource sTokens sReferenceWays sTagWays sCommentWays sOut) sz) := by
  refine g_met (by decide) (Nat.le_of_ble_eq_true rfl) rfl ?_
  intro p e s m args below meth c F hr hlk
  have blk49 : ∀ (n : Nat) (v1 : Int32) (v2 : Int32) (v3 : Int32) (tOut : SOut), f_Out_putAttribute_49 n v1 v2 v3 tOut sTokens = some x → GW p l e { frames := 8, cells := 0, slots := 0, locals := 193 } s m args below meth c (gQv D (gT cA) (va_A (Wc z ad cA sMt sSource sTokens sReferenceWays sTagWays sCommentWays sOut) sz) (Wc z ad cA sMt sSource sTokens sReferenceWays sTagWays sCommentWays x)) D (va_A (Wc z ad cA sMt sSource sTokens sReferenceWays sTagWays sCommentWays sOut) sz) 5 (Wc z ad cA sMt sSource sTokens sReferenceWays sTagWays sCommentWays tOut) 49 [(0, .ref (ad 8)), (1, .int v1), (2, .int v2), (3, .int v3)] [] := by
    intro n
    induction n with
    | zero => intro _ _ _ _ hf; cases hf
    | succ n ih =>
      intro v1 v2 v3 tOut hf
      rw [f_Out_putAttribute_49] at hf
      refine g_iload_n F d_Out_putAttribute_49 3 rfl ?_
      refine g_aload_n F d_Out_putAttribute_50 0 rfl ?_
      refine g_get F (v := .ref (ad 2)) in_X4 8 rfl rfl 0 (by decide) mw_285 rfl d_Out_putAttribute_51 ?_
      refine g_iload_n F d_Out_putAttribute_54 1 rfl ?_
      refine g_iload_n F d_Out_putAttribute_55 2 rfl ?_
      obtain ⟨x1, hx1, hf⟩ := g_bind hf
      refine g_ci F (r0 := x1) (ws' := (Wc z ad cA sMt sSource sTokens sReferenceWays sTagWays sCommentWays tOut)) (fun H locs ls hP hD hS hl => g_runV F (As := [.int v1, .int v2]) (n := 2) mw_928 rfl rfl ⟨by decide, by decide⟩ rfl (by exact Nat.le_of_ble_eq_true rfl) mw_1034 mw_926 mw_927 mw_75 (by decide +kernel) d_Out_putAttribute_56 hP hD hS hl (va_recv F.2.2.2.2.2.1 hP (ci := 2) rfl (q0 := 2) rfl) (c_Tokens_valueLength l D cA z ad sMt sSource sTokens sReferenceWays sTagWays sCommentWays tOut v1 v2 hx1 H.size)) ?_
      refine g_icmp_ge F (tgt := 102) d_Out_putAttribute_59 (by decide) (fun h => ?_) (fun h => ?_)
      · rw [if_pos h] at hf
        refine g_aload_n F d_Out_putAttribute_102 0 rfl ?_
        refine g_bipush F (v := 34) d_Out_putAttribute_103 (by decide) ?_
        obtain ⟨x2, hx2, hf⟩ := g_bind hf
        refine g_cv F (ws' := (Wc z ad cA sMt sSource sTokens sReferenceWays sTagWays sCommentWays x2)) (fun H locs ls hP hD hS hl => g_runV F (As := [.int 34]) (n := 1) mw_988 rfl rfl ⟨by decide, by decide⟩ rfl (by exact Nat.le_of_ble_eq_true rfl) mw_985 mw_987 mw_24 mw_84 (by decide +kernel) d_Out_putAttribute_105 hP hD hS hl (va_recv F.2.2.2.2.2.1 hP (ci := 8) rfl (q0 := 8) rfl) (c_Out_putByte l D cA z ad sMt sSource sTokens sReferenceWays sTagWays sCommentWays tOut 34 hx2 H.size)) ?_
        cases hf
        exact g_vret F hr hlk rfl rfl d_Out_putAttribute_108
      · rw [if_neg h] at hf
        refine g_aload_n F d_Out_putAttribute_62 0 rfl ?_
        refine g_get F (v := .ref (ad 2)) in_X4 8 rfl rfl 0 (by decide) mw_285 rfl d_Out_putAttribute_63 ?_
        refine g_iload_n F d_Out_putAttribute_66 1 rfl ?_
        refine g_iload_n F d_Out_putAttribute_67 2 rfl ?_
        refine g_iload_n F d_Out_putAttribute_68 3 rfl ?_
        obtain ⟨x3, hx3, hf⟩ := g_bind hf
        refine g_ci F (r0 := x3) (ws' := (Wc z ad cA sMt sSource sTokens sReferenceWays sTagWays sCommentWays tOut)) (fun H locs ls hP hD hS hl => g_runV F (As := [.int v1, .int v2, .int v3]) (n := 3) mw_941 rfl rfl ⟨by decide, by decide⟩ rfl (by exact Nat.le_of_ble_eq_true rfl) mw_1035 mw_939 mw_940 mw_75 (by decide +kernel) d_Out_putAttribute_69 hP hD hS hl (va_recv F.2.2.2.2.2.1 hP (ci := 2) rfl (q0 := 2) rfl) (c_Tokens_valueCharacter l D cA z ad sMt sSource sTokens sReferenceWays sTagWays sCommentWays tOut v1 v2 v3 hx3 H.size)) ?_
        refine g_istore F (L' := [(4, .int x3), (0, .ref (ad 8)), (1, .int v1), (2, .int v2), (3, .int v3)]) d_Out_putAttribute_72 (by decide) rfl ?_
        refine g_iload F d_Out_putAttribute_74 0 rfl ?_
        refine g_bipush F (v := 34) d_Out_putAttribute_76 (by decide) ?_
        refine g_icmp_ne F (tgt := 90) d_Out_putAttribute_78 (by decide) (fun h => ?_) (fun h => ?_)
        · rw [if_neg h] at hf
          refine g_aload_n F d_Out_putAttribute_90 1 rfl ?_
          refine g_iload F d_Out_putAttribute_91 0 rfl ?_
          obtain ⟨x4, hx4, hf⟩ := g_bind hf
          refine g_cv F (ws' := (Wc z ad cA sMt sSource sTokens sReferenceWays sTagWays sCommentWays x4)) (fun H locs ls hP hD hS hl => g_runV F (As := [.int x3]) (n := 1) mw_992 rfl rfl ⟨by decide, by decide⟩ rfl (by exact Nat.le_of_ble_eq_true rfl) mw_989 mw_991 mw_25 mw_84 (by decide +kernel) d_Out_putAttribute_93 hP hD hS hl (va_recv F.2.2.2.2.2.1 hP (ci := 8) rfl (q0 := 8) rfl) (c_Out_putReferable l D cA z ad sMt sSource sTokens sReferenceWays sTagWays sCommentWays tOut x3 hx4 H.size)) ?_
          refine g_iinc F (j := 4) (v := (v3 + 1)) (L' := [(3, .int (v3 + 1)), (4, .int x3), (0, .ref (ad 8)), (1, .int v1), (2, .int v2)]) d_Out_putAttribute_96 rfl rfl (by decide) rfl ?_
          refine g_goto F (tgt := 49) d_Out_putAttribute_99 (by decide) ?_
          refine g_loc [2, 3, 4, 0] rfl ?_
          exact ih v1 v2 (v3 + 1) x4 hf
        · rw [if_pos h] at hf
          refine g_aload_n F d_Out_putAttribute_81 1 rfl ?_
          refine g_str F ("MarkupTokens$Out", 116, "&quot;", 9) (by decide +kernel) rfl d_Out_putAttribute_82 ?_
          obtain ⟨x5, hx5, hf⟩ := g_bind hf
          refine g_cv F (ws' := (Wc z ad cA sMt sSource sTokens sReferenceWays sTagWays sCommentWays x5)) (fun H locs ls hP hD hS hl => g_runV F (As := [.ref (z.2.2.1 9)]) (n := 1) mw_982 rfl rfl ⟨by decide, by decide⟩ rfl (by exact Nat.le_of_ble_eq_true rfl) mw_979 mw_981 mw_23 mw_84 (by decide +kernel) d_Out_putAttribute_84 hP hD hS hl (va_recv F.2.2.2.2.2.1 hP (ci := 8) rfl (q0 := 8) rfl) (c_Out_putString l D cA z ad sMt sSource sTokens sReferenceWays sTagWays sCommentWays tOut 9 hx5 H.size)) ?_
          refine g_goto F (tgt := 96) d_Out_putAttribute_87 (by decide) ?_
          refine g_iinc F (j := 4) (v := (v3 + 1)) (L' := [(3, .int (v3 + 1)), (4, .int x3), (0, .ref (ad 8)), (1, .int v1), (2, .int v2)]) d_Out_putAttribute_96 rfl rfl (by decide) rfl ?_
          refine g_goto F (tgt := 49) d_Out_putAttribute_99 (by decide) ?_
          refine g_loc [2, 3, 4, 0] rfl ?_
          exact ih v1 v2 (v3 + 1) x5 hf
  have blk8 : ∀ (n : Nat) (v1 : Int32) (v2 : Int32) (v3 : Int32) (tOut : SOut), f_Out_putAttribute_8 n v1 v2 v3 tOut sTokens = some x → GW p l e { frames := 8, cells := 0, slots := 0, locals := 193 } s m args below meth c (gQv D (gT cA) (va_A (Wc z ad cA sMt sSource sTokens sReferenceWays sTagWays sCommentWays sOut) sz) (Wc z ad cA sMt sSource sTokens sReferenceWays sTagWays sCommentWays x)) D (va_A (Wc z ad cA sMt sSource sTokens sReferenceWays sTagWays sCommentWays sOut) sz) 5 (Wc z ad cA sMt sSource sTokens sReferenceWays sTagWays sCommentWays tOut) 8 [(0, .ref (ad 8)), (1, .int v1), (2, .int v2), (3, .int v3)] [] := by
    intro n
    induction n with
    | zero => intro _ _ _ _ hf; cases hf
    | succ n ih =>
      intro v1 v2 v3 tOut hf
      rw [f_Out_putAttribute_8] at hf
      refine g_iload_n F d_Out_putAttribute_8 3 rfl ?_
      refine g_aload_n F d_Out_putAttribute_9 0 rfl ?_
      refine g_get F (v := .ref (ad 2)) in_X4 8 rfl rfl 0 (by decide) mw_285 rfl d_Out_putAttribute_10 ?_
      refine g_iload_n F d_Out_putAttribute_13 1 rfl ?_
      refine g_iload_n F d_Out_putAttribute_14 2 rfl ?_
      obtain ⟨x6, hx6, hf⟩ := g_bind hf
      refine g_ci F (r0 := x6) (ws' := (Wc z ad cA sMt sSource sTokens sReferenceWays sTagWays sCommentWays tOut)) (fun H locs ls hP hD hS hl => g_runV F (As := [.int v1, .int v2]) (n := 2) mw_924 rfl rfl ⟨by decide, by decide⟩ rfl (by exact Nat.le_of_ble_eq_true rfl) mw_1031 mw_922 mw_923 mw_75 (by decide +kernel) d_Out_putAttribute_15 hP hD hS hl (va_recv F.2.2.2.2.2.1 hP (ci := 2) rfl (q0 := 2) rfl) (c_Tokens_nameLength l D cA z ad sMt sSource sTokens sReferenceWays sTagWays sCommentWays tOut v1 v2 hx6 H.size)) ?_
      refine g_icmp_ge F (tgt := 41) d_Out_putAttribute_18 (by decide) (fun h => ?_) (fun h => ?_)
      · rw [if_pos h] at hf
        refine g_aload_n F d_Out_putAttribute_41 0 rfl ?_
        refine g_str F ("MarkupTokens$Out", 108, "=\"", 8) (by decide +kernel) rfl d_Out_putAttribute_42 ?_
        obtain ⟨x7, hx7, hf⟩ := g_bind hf
        refine g_cv F (ws' := (Wc z ad cA sMt sSource sTokens sReferenceWays sTagWays sCommentWays x7)) (fun H locs ls hP hD hS hl => g_runV F (As := [.ref (z.2.2.1 8)]) (n := 1) mw_982 rfl rfl ⟨by decide, by decide⟩ rfl (by exact Nat.le_of_ble_eq_true rfl) mw_979 mw_981 mw_23 mw_84 (by decide +kernel) d_Out_putAttribute_44 hP hD hS hl (va_recv F.2.2.2.2.2.1 hP (ci := 8) rfl (q0 := 8) rfl) (c_Out_putString l D cA z ad sMt sSource sTokens sReferenceWays sTagWays sCommentWays tOut 8 hx7 H.size)) ?_
        refine g_iconst F (v := 0) d_Out_putAttribute_47 (by decide) ?_
        refine g_istore_n F (L' := [(3, .int 0), (0, .ref (ad 8)), (1, .int v1), (2, .int v2)]) d_Out_putAttribute_48 rfl (by decide) rfl ?_
        refine g_loc [1, 2, 3, 0] rfl ?_
        exact blk49 FU v1 v2 0 x7 hf
      · rw [if_neg h] at hf
        refine g_aload_n F d_Out_putAttribute_21 0 rfl ?_
        refine g_aload_n F d_Out_putAttribute_22 0 rfl ?_
        refine g_get F (v := .ref (ad 2)) in_X4 8 rfl rfl 0 (by decide) mw_285 rfl d_Out_putAttribute_23 ?_
        refine g_iload_n F d_Out_putAttribute_26 1 rfl ?_
        refine g_iload_n F d_Out_putAttribute_27 2 rfl ?_
        refine g_iload_n F d_Out_putAttribute_28 3 rfl ?_
        obtain ⟨x8, hx8, hf⟩ := g_bind hf
        refine g_ci F (r0 := x8) (ws' := (Wc z ad cA sMt sSource sTokens sReferenceWays sTagWays sCommentWays tOut)) (fun H locs ls hP hD hS hl => g_runV F (As := [.int v1, .int v2, .int v3]) (n := 3) mw_937 rfl rfl ⟨by decide, by decide⟩ rfl (by exact Nat.le_of_ble_eq_true rfl) mw_1032 mw_935 mw_936 mw_75 (by decide +kernel) d_Out_putAttribute_29 hP hD hS hl (va_recv F.2.2.2.2.2.1 hP (ci := 2) rfl (q0 := 2) rfl) (c_Tokens_nameCharacter l D cA z ad sMt sSource sTokens sReferenceWays sTagWays sCommentWays tOut v1 v2 v3 hx8 H.size)) ?_
        obtain ⟨x9, hx9, hf⟩ := g_bind hf
        refine g_cv F (ws' := (Wc z ad cA sMt sSource sTokens sReferenceWays sTagWays sCommentWays x9)) (fun H locs ls hP hD hS hl => g_runV F (As := [.int x8]) (n := 1) mw_1012 rfl rfl ⟨by decide, by decide⟩ rfl (by exact Nat.le_of_ble_eq_true rfl) mw_1009 mw_1011 mw_29 mw_84 (by decide +kernel) d_Out_putAttribute_32 hP hD hS hl (va_recv F.2.2.2.2.2.1 hP (ci := 8) rfl (q0 := 8) rfl) (c_Out_putPlain l D cA z ad sMt sSource sTokens sReferenceWays sTagWays sCommentWays tOut x8 hx9 H.size)) ?_
        refine g_iinc F (j := 3) (v := (v3 + 1)) (L' := [(3, .int (v3 + 1)), (0, .ref (ad 8)), (1, .int v1), (2, .int v2)]) d_Out_putAttribute_35 rfl rfl (by decide) rfl ?_
        refine g_goto F (tgt := 8) d_Out_putAttribute_38 (by decide) ?_
        refine g_loc [1, 2, 3, 0] rfl ?_
        exact ih v1 v2 (v3 + 1) x9 hf
  unfold f_Out_putAttribute at hf
  refine g_aload_n F d_Out_putAttribute_0 0 rfl ?_
  refine g_bipush F (v := 32) d_Out_putAttribute_1 (by decide) ?_
  obtain ⟨x10, hx10, hf⟩ := g_bind hf
  refine g_cv F (ws' := (Wc z ad cA sMt sSource sTokens sReferenceWays sTagWays sCommentWays x10)) (fun H locs ls hP hD hS hl => g_runV F (As := [.int 32]) (n := 1) mw_988 rfl rfl ⟨by decide, by decide⟩ rfl (by exact Nat.le_of_ble_eq_true rfl) mw_985 mw_987 mw_24 mw_84 (by decide +kernel) d_Out_putAttribute_3 hP hD hS hl (va_recv F.2.2.2.2.2.1 hP (ci := 8) rfl (q0 := 8) rfl) (c_Out_putByte l D cA z ad sMt sSource sTokens sReferenceWays sTagWays sCommentWays sOut 32 hx10 H.size)) ?_
  refine g_iconst F (v := 0) d_Out_putAttribute_6 (by decide) ?_
  refine g_istore_n F (L' := [(3, .int 0), (0, .ref (ad 8)), (1, .int a1), (2, .int a2)]) d_Out_putAttribute_7 rfl (by decide) rfl ?_
  refine g_loc [1, 2, 3, 0] rfl ?_
  exact blk8 FU a1 a2 0 x10 hf
