set_option maxHeartbeats 4000000 in
set_option maxRecDepth 100000 in
theorem c_ReferenceWays_isNoCharacter (l : Launch) (D : va_G) (cA : Nat → ClassId) (z : gZ) (ad : Nat → Nat) (sMt : SMt) (sSource : SSource) (sTokens : STokens) (sReferenceWays : SReferenceWays) (sTagWays : STagWays) (sCommentWays : SCommentWays) (sOut : SOut) (a1 : Int32) {x : Int32} (hf : f_ReferenceWays_isNoCharacter a1 = x) (sz : Nat) : Met l y_ReferenceWays_isNoCharacter (.code y_ReferenceWays_isNoCharacter b_ReferenceWays_isNoCharacter 1 (some .boolean) :: lw_g) { frames := 0, cells := 0, slots := 0, locals := 0 } (gP D (gT cA) z [.int a1] (Wc z ad cA sMt sSource sTokens sReferenceWays sTagWays sCommentWays sOut) sz) (gQi D (gT cA) (va_A (Wc z ad cA sMt sSource sTokens sReferenceWays sTagWays sCommentWays sOut) sz) x (Wc z ad cA sMt sSource sTokens sReferenceWays sTagWays sCommentWays sOut)) 0 0 (va_A (Wc z ad cA sMt sSource sTokens sReferenceWays sTagWays sCommentWays sOut) sz) := by
  refine g_met (by decide) (Nat.le_of_ble_eq_true rfl) rfl ?_
  intro p e s m args below meth c F hr hlk
  unfold f_ReferenceWays_isNoCharacter at hf
  refine g_iload_n F d_ReferenceWays_isNoCharacter_0 0 rfl ?_
  refine g_ldc F (v := 64976) mw_576 d_ReferenceWays_isNoCharacter_1 ?_
  refine g_icmp_lt F (tgt := 12) d_ReferenceWays_isNoCharacter_3 (by decide) (fun h => ?_) (fun h => ?_)
  · rw [if_pos h] at hf
    refine g_iload_n F d_ReferenceWays_isNoCharacter_12 0 rfl ?_
    refine g_ldc F (v := 65535) mw_578 d_ReferenceWays_isNoCharacter_13 ?_
    refine g_iand F d_ReferenceWays_isNoCharacter_15 ?_
    refine g_ldc F (v := 65534) mw_579 d_ReferenceWays_isNoCharacter_16 ?_
    refine g_icmp_lt F (tgt := 25) d_ReferenceWays_isNoCharacter_18 (by decide) (fun h => ?_) (fun h => ?_)
    · rw [if_pos h] at hf
      refine g_iconst F (v := 0) d_ReferenceWays_isNoCharacter_25 (by decide) ?_
      subst hf
      exact g_zret F hr rfl hlk rfl rfl rfl d_ReferenceWays_isNoCharacter_26
    · rw [if_neg h] at hf
      refine g_iconst F (v := 1) d_ReferenceWays_isNoCharacter_21 (by decide) ?_
      refine g_goto F (tgt := 26) d_ReferenceWays_isNoCharacter_22 (by decide) ?_
      subst hf
      exact g_zret F hr rfl hlk rfl rfl rfl d_ReferenceWays_isNoCharacter_26
  · rw [if_neg h] at hf
    refine g_iload_n F d_ReferenceWays_isNoCharacter_6 0 rfl ?_
    refine g_ldc F (v := 65007) mw_577 d_ReferenceWays_isNoCharacter_7 ?_
    refine g_icmp_le F (tgt := 21) d_ReferenceWays_isNoCharacter_9 (by decide) (fun h => ?_) (fun h => ?_)
    · rw [if_pos h] at hf
      refine g_iconst F (v := 1) d_ReferenceWays_isNoCharacter_21 (by decide) ?_
      refine g_goto F (tgt := 26) d_ReferenceWays_isNoCharacter_22 (by decide) ?_
      subst hf
      exact g_zret F hr rfl hlk rfl rfl rfl d_ReferenceWays_isNoCharacter_26
    · rw [if_neg h] at hf
      refine g_iload_n F d_ReferenceWays_isNoCharacter_12 0 rfl ?_
      refine g_ldc F (v := 65535) mw_578 d_ReferenceWays_isNoCharacter_13 ?_
      refine g_iand F d_ReferenceWays_isNoCharacter_15 ?_
      refine g_ldc F (v := 65534) mw_579 d_ReferenceWays_isNoCharacter_16 ?_
      refine g_icmp_lt F (tgt := 25) d_ReferenceWays_isNoCharacter_18 (by decide) (fun h => ?_) (fun h => ?_)
      · rw [if_pos h] at hf
        refine g_iconst F (v := 0) d_ReferenceWays_isNoCharacter_25 (by decide) ?_
        subst hf
        exact g_zret F hr rfl hlk rfl rfl rfl d_ReferenceWays_isNoCharacter_26
      · rw [if_neg h] at hf
        refine g_iconst F (v := 1) d_ReferenceWays_isNoCharacter_21 (by decide) ?_
        refine g_goto F (tgt := 26) d_ReferenceWays_isNoCharacter_22 (by decide) ?_
        subst hf
        exact g_zret F hr rfl hlk rfl rfl rfl d_ReferenceWays_isNoCharacter_26
set_option maxHeartbeats 4000000 in
set_option maxRecDepth 100000 in
theorem c_Mt_isBlank (l : Launch) (D : va_G) (cA : Nat → ClassId) (z : gZ) (ad : Nat → Nat) (sMt : SMt) (sSource : SSource) (sTokens : STokens) (sReferenceWays : SReferenceWays) (sTagWays : STagWays) (sCommentWays : SCommentWays) (sOut : SOut) (a1 : Int32) {x : Int32} (hf : f_Mt_isBlank a1 = x) (sz : Nat) : Met l y_Mt_isBlank (.code y_Mt_isBlank b_Mt_isBlank 1 (some .boolean) :: lw_g) { frames := 0, cells := 0, slots := 0, locals := 0 } (gP D (gT cA) z [.int a1] (Wc z ad cA sMt sSource sTokens sReferenceWays sTagWays sCommentWays sOut) sz) (gQi D (gT cA) (va_A (Wc z ad cA sMt sSource sTokens sReferenceWays sTagWays sCommentWays sOut) sz) x (Wc z ad cA sMt sSource sTokens sReferenceWays sTagWays sCommentWays sOut)) 0 0 (va_A (Wc z ad cA sMt sSource sTokens sReferenceWays sTagWays sCommentWays sOut) sz) := by
  refine g_met (by decide) (Nat.le_of_ble_eq_true rfl) rfl ?_
  intro p e s m args below meth c F hr hlk
  unfold f_Mt_isBlank at hf
  refine g_iload_n F d_Mt_isBlank_0 0 rfl ?_
  refine g_bipush F (v := 10) d_Mt_isBlank_1 (by decide) ?_
  refine g_icmp_eq F (tgt := 24) d_Mt_isBlank_3 (by decide) (fun h => ?_) (fun h => ?_)
  · rw [if_pos h] at hf
    refine g_iconst F (v := 1) d_Mt_isBlank_24 (by decide) ?_
    refine g_goto F (tgt := 29) d_Mt_isBlank_25 (by decide) ?_
    subst hf
    exact g_zret F hr rfl hlk rfl rfl rfl d_Mt_isBlank_29
  · rw [if_neg h] at hf
    refine g_iload_n F d_Mt_isBlank_6 0 rfl ?_
    refine g_bipush F (v := 9) d_Mt_isBlank_7 (by decide) ?_
    refine g_icmp_eq F (tgt := 24) d_Mt_isBlank_9 (by decide) (fun h => ?_) (fun h => ?_)
    · rw [if_pos h] at hf
      refine g_iconst F (v := 1) d_Mt_isBlank_24 (by decide) ?_
      refine g_goto F (tgt := 29) d_Mt_isBlank_25 (by decide) ?_
      subst hf
      exact g_zret F hr rfl hlk rfl rfl rfl d_Mt_isBlank_29
    · rw [if_neg h] at hf
      refine g_iload_n F d_Mt_isBlank_12 0 rfl ?_
      refine g_bipush F (v := 12) d_Mt_isBlank_13 (by decide) ?_
      refine g_icmp_eq F (tgt := 24) d_Mt_isBlank_15 (by decide) (fun h => ?_) (fun h => ?_)
      · rw [if_pos h] at hf
        refine g_iconst F (v := 1) d_Mt_isBlank_24 (by decide) ?_
        refine g_goto F (tgt := 29) d_Mt_isBlank_25 (by decide) ?_
        subst hf
        exact g_zret F hr rfl hlk rfl rfl rfl d_Mt_isBlank_29
      · rw [if_neg h] at hf
        refine g_iload_n F d_Mt_isBlank_18 0 rfl ?_
        refine g_bipush F (v := 32) d_Mt_isBlank_19 (by decide) ?_
        refine g_icmp_ne F (tgt := 28) d_Mt_isBlank_21 (by decide) (fun h => ?_) (fun h => ?_)
        · rw [if_neg h] at hf
          refine g_iconst F (v := 0) d_Mt_isBlank_28 (by decide) ?_
          subst hf
          exact g_zret F hr rfl hlk rfl rfl rfl d_Mt_isBlank_29
        · rw [if_pos h] at hf
          refine g_iconst F (v := 1) d_Mt_isBlank_24 (by decide) ?_
          refine g_goto F (tgt := 29) d_Mt_isBlank_25 (by decide) ?_
          subst hf
          exact g_zret F hr rfl hlk rfl rfl rfl d_Mt_isBlank_29
set_option maxHeartbeats 4000000 in
set_option maxRecDepth 100000 in
theorem c_ReferenceWays_isControl (l : Launch) (D : va_G) (cA : Nat → ClassId) (z : gZ) (ad : Nat → Nat) (sMt : SMt) (sSource : SSource) (sTokens : STokens) (sReferenceWays : SReferenceWays) (sTagWays : STagWays) (sCommentWays : SCommentWays) (sOut : SOut) (a1 : Int32) {x : Int32} (hf : f_ReferenceWays_isControl a1 = x) (sz : Nat) : Met l y_ReferenceWays_isControl (.code y_ReferenceWays_isControl b_ReferenceWays_isControl 1 (some .boolean) :: lw_g) { frames := 1, cells := 0, slots := 0, locals := 20 } (gP D (gT cA) z [.int a1] (Wc z ad cA sMt sSource sTokens sReferenceWays sTagWays sCommentWays sOut) sz) (gQi D (gT cA) (va_A (Wc z ad cA sMt sSource sTokens sReferenceWays sTagWays sCommentWays sOut) sz) x (Wc z ad cA sMt sSource sTokens sReferenceWays sTagWays sCommentWays sOut)) 0 0 (va_A (Wc z ad cA sMt sSource sTokens sReferenceWays sTagWays sCommentWays sOut) sz) := by
  refine g_met (by decide) (Nat.le_of_ble_eq_true rfl) rfl ?_
  intro p e s m args below meth c F hr hlk
  unfold f_ReferenceWays_isControl at hf
  refine g_iload_n F d_ReferenceWays_isControl_0 0 rfl ?_
  refine g_bipush F (v := 127) d_ReferenceWays_isControl_1 (by decide) ?_
  refine g_icmp_lt F (tgt := 13) d_ReferenceWays_isControl_3 (by decide) (fun h => ?_) (fun h => ?_)
  · rw [if_pos h] at hf
    refine g_iload_n F d_ReferenceWays_isControl_13 0 rfl ?_
    refine g_bipush F (v := 32) d_ReferenceWays_isControl_14 (by decide) ?_
    refine g_icmp_ge F (tgt := 30) d_ReferenceWays_isControl_16 (by decide) (fun h => ?_) (fun h => ?_)
    · rw [if_pos h] at hf
      refine g_iconst F (v := 0) d_ReferenceWays_isControl_30 (by decide) ?_
      subst hf
      exact g_zret F hr rfl hlk rfl rfl rfl d_ReferenceWays_isControl_31
    · rw [if_neg h] at hf
      refine g_iload_n F d_ReferenceWays_isControl_19 0 rfl ?_
      refine g_ci F (r0 := (f_Mt_isBlank a1)) (ws' := (Wc z ad cA sMt sSource sTokens sReferenceWays sTagWays sCommentWays sOut)) (fun H locs ls hP hD hS hl => g_runSN F (As := [.int a1]) (n := 1) mw_585 rfl rfl ⟨by decide, by decide⟩ rfl (by exact Nat.le_of_ble_eq_true rfl) (F.2.2.2.2.2.2.2.2.1 (RX6, 133, y_Mt_isBlank) (by decide +kernel)) mw_584 mw_73 (by decide +kernel) d_ReferenceWays_isControl_20 hP hD hS hl (c_Mt_isBlank l D cA z ad sMt sSource sTokens sReferenceWays sTagWays sCommentWays sOut a1 rfl H.size)) ?_
      refine g_if_ne F (tgt := 30) d_ReferenceWays_isControl_23 (by decide) (fun h => ?_) (fun h => ?_)
      · rw [if_neg h] at hf
        refine g_iconst F (v := 0) d_ReferenceWays_isControl_30 (by decide) ?_
        subst hf
        exact g_zret F hr rfl hlk rfl rfl rfl d_ReferenceWays_isControl_31
      · rw [if_pos h] at hf
        refine g_iconst F (v := 1) d_ReferenceWays_isControl_26 (by decide) ?_
        refine g_goto F (tgt := 31) d_ReferenceWays_isControl_27 (by decide) ?_
        subst hf
        exact g_zret F hr rfl hlk rfl rfl rfl d_ReferenceWays_isControl_31
  · rw [if_neg h] at hf
    refine g_iload_n F d_ReferenceWays_isControl_6 0 rfl ?_
    refine g_sipush F (v := 159) d_ReferenceWays_isControl_7 (by decide) ?_
    refine g_icmp_le F (tgt := 26) d_ReferenceWays_isControl_10 (by decide) (fun h => ?_) (fun h => ?_)
    · rw [if_pos h] at hf
      refine g_iconst F (v := 1) d_ReferenceWays_isControl_26 (by decide) ?_
      refine g_goto F (tgt := 31) d_ReferenceWays_isControl_27 (by decide) ?_
      subst hf
      exact g_zret F hr rfl hlk rfl rfl rfl d_ReferenceWays_isControl_31
    · rw [if_neg h] at hf
      refine g_iload_n F d_ReferenceWays_isControl_13 0 rfl ?_
      refine g_bipush F (v := 32) d_ReferenceWays_isControl_14 (by decide) ?_
      refine g_icmp_ge F (tgt := 30) d_ReferenceWays_isControl_16 (by decide) (fun h => ?_) (fun h => ?_)
      · rw [if_pos h] at hf
        refine g_iconst F (v := 0) d_ReferenceWays_isControl_30 (by decide) ?_
        subst hf
        exact g_zret F hr rfl hlk rfl rfl rfl d_ReferenceWays_isControl_31
      · rw [if_neg h] at hf
        refine g_iload_n F d_ReferenceWays_isControl_19 0 rfl ?_
        refine g_ci F (r0 := (f_Mt_isBlank a1)) (ws' := (Wc z ad cA sMt sSource sTokens sReferenceWays sTagWays sCommentWays sOut)) (fun H locs ls hP hD hS hl => g_runSN F (As := [.int a1]) (n := 1) mw_585 rfl rfl ⟨by decide, by decide⟩ rfl (by exact Nat.le_of_ble_eq_true rfl) (F.2.2.2.2.2.2.2.2.1 (RX6, 133, y_Mt_isBlank) (by decide +kernel)) mw_584 mw_73 (by decide +kernel) d_ReferenceWays_isControl_20 hP hD hS hl (c_Mt_isBlank l D cA z ad sMt sSource sTokens sReferenceWays sTagWays sCommentWays sOut a1 rfl H.size)) ?_
        refine g_if_ne F (tgt := 30) d_ReferenceWays_isControl_23 (by decide) (fun h => ?_) (fun h => ?_)
        · rw [if_neg h] at hf
          refine g_iconst F (v := 0) d_ReferenceWays_isControl_30 (by decide) ?_
          subst hf
          exact g_zret F hr rfl hlk rfl rfl rfl d_ReferenceWays_isControl_31
        · rw [if_pos h] at hf
          refine g_iconst F (v := 1) d_ReferenceWays_isControl_26 (by decide) ?_
          refine g_goto F (tgt := 31) d_ReferenceWays_isControl_27 (by decide) ?_
          subst hf
          exact g_zret F hr rfl hlk rfl rfl rfl d_ReferenceWays_isControl_31
set_option maxHeartbeats 4000000 in
set_option maxRecDepth 100000 in
theorem c_ReferenceWays_replaced (l : Launch) (D : va_G) (cA : Nat → ClassId) (z : gZ) (ad : Nat → Nat) (sMt : SMt) (sSource : SSource) (sTokens : STokens) (sReferenceWays : SReferenceWays) (sTagWays : STagWays) (sCommentWays : SCommentWays) (sOut : SOut) (a1 : Int32) {x : Int32} (hf : f_ReferenceWays_replaced a1 = some x) (sz : Nat) : Met l y_ReferenceWays_replaced (.code y_ReferenceWays_replaced b_ReferenceWays_replaced 2 (some .int) :: lw_g) { frames := 0, cells := 0, slots := 0, locals := 0 } (gP D (gT cA) z [.int a1] (Wc z ad cA sMt sSource sTokens sReferenceWays sTagWays sCommentWays sOut) sz) (gQi D (gT cA) (va_A (Wc z ad cA sMt sSource sTokens sReferenceWays sTagWays sCommentWays sOut) sz) x (Wc z ad cA sMt sSource sTokens sReferenceWays sTagWays sCommentWays sOut)) 0 0 (va_A (Wc z ad cA sMt sSource sTokens sReferenceWays sTagWays sCommentWays sOut) sz) := by
  refine g_met (by decide) (Nat.le_of_ble_eq_true rfl) rfl ?_
  intro p e s m args below meth c F hr hlk
  unfold f_ReferenceWays_replaced at hf
  refine g_iload_n F d_ReferenceWays_replaced_0 0 rfl ?_
  refine g_sipush F (v := 128) d_ReferenceWays_replaced_1 (by decide) ?_
  refine g_isub F d_ReferenceWays_replaced_4 ?_
  refine g_istore_n F (L' := [(1, .int (a1 - 128)), (0, .int a1)]) d_ReferenceWays_replaced_5 rfl (by decide) rfl ?_
  refine g_iload_n F d_ReferenceWays_replaced_6 0 rfl ?_
  refine g_if_lt F (tgt := 26) d_ReferenceWays_replaced_7 (by decide) (fun h => ?_) (fun h => ?_)
  · rw [if_pos h] at hf
    refine g_iload_n F d_ReferenceWays_replaced_26 1 rfl ?_
    cases hf
    exact g_iret F hr hlk rfl rfl rfl d_ReferenceWays_replaced_27
  · rw [if_neg h] at hf
    refine g_iload_n F d_ReferenceWays_replaced_10 0 rfl ?_
    refine g_repl F mw_589 d_ReferenceWays_replaced_11 ?_
    refine g_repl_len F d_ReferenceWays_replaced_14 ?_
    refine g_icmp_ge F (tgt := 26) d_ReferenceWays_replaced_15 (by decide) (fun h => ?_) (fun h => ?_)
    · rw [if_pos h] at hf
      refine g_iload_n F d_ReferenceWays_replaced_26 1 rfl ?_
      cases hf
      exact g_iret F hr hlk rfl rfl rfl d_ReferenceWays_replaced_27
    · rw [if_neg h] at hf
      refine g_repl F mw_589 d_ReferenceWays_replaced_18 ?_
      refine g_iload_n F d_ReferenceWays_replaced_21 0 rfl ?_
      obtain ⟨k1, hf⟩ := g_chk hf
      refine g_repl_at F k1 d_ReferenceWays_replaced_22 ?_
      refine g_goto F (tgt := 27) d_ReferenceWays_replaced_23 (by decide) ?_
      cases hf
      exact g_iret F hr hlk rfl rfl rfl d_ReferenceWays_replaced_27
set_option maxHeartbeats 4000000 in
set_option maxRecDepth 100000 in
theorem c_ReferenceWays_characterOf (l : Launch) (D : va_G) (cA : Nat → ClassId) (z : gZ) (ad : Nat → Nat) (sMt : SMt) (sSource : SSource) (sTokens : STokens) (sReferenceWays : SReferenceWays) (sTagWays : STagWays) (sCommentWays : SCommentWays) (sOut : SOut) (a1 : Int32) {x : Int32 × SSource} (hf : f_ReferenceWays_characterOf a1 sSource = some x) (sz : Nat) : Met l y_ReferenceWays_characterOf (.code y_ReferenceWays_characterOf b_ReferenceWays_characterOf 2 (some .int) :: lw_g) { frames := 2, cells := 0, slots := 0, locals := 40 } (gP D (gT cA) z [.ref (ad 3), .int a1] (Wc z ad cA sMt sSource sTokens sReferenceWays sTagWays sCommentWays sOut) sz) (gQi D (gT cA) (va_A (Wc z ad cA sMt sSource sTokens sReferenceWays sTagWays sCommentWays sOut) sz) x.1 (Wc z ad cA sMt x.2 sTokens sReferenceWays sTagWays sCommentWays sOut)) 0 0 (va_A (Wc z ad cA sMt sSource sTokens sReferenceWays sTagWays sCommentWays sOut) sz) := by
  refine g_met (by decide) (Nat.le_of_ble_eq_true rfl) rfl ?_
  intro p e s m args below meth c F hr hlk
  unfold f_ReferenceWays_characterOf at hf
  refine g_iload_n F d_ReferenceWays_characterOf_0 1 rfl ?_
  refine g_if_ne F (tgt := 16) d_ReferenceWays_characterOf_1 (by decide) (fun h => ?_) (fun h => ?_)
  · rw [if_neg h] at hf
    refine g_iload_n F d_ReferenceWays_characterOf_16 1 rfl ?_
    refine g_ldc F (v := 1114111) mw_570 d_ReferenceWays_characterOf_17 ?_
    refine g_icmp_le F (tgt := 34) d_ReferenceWays_characterOf_19 (by decide) (fun h => ?_) (fun h => ?_)
    · rw [if_pos h] at hf
      refine g_iload_n F d_ReferenceWays_characterOf_34 1 rfl ?_
      refine g_ldc F (v := 55296) mw_571 d_ReferenceWays_characterOf_35 ?_
      refine g_icmp_lt F (tgt := 58) d_ReferenceWays_characterOf_37 (by decide) (fun h => ?_) (fun h => ?_)
      · rw [if_pos h] at hf
        refine g_iload_n F d_ReferenceWays_characterOf_58 1 rfl ?_
        refine g_ci F (r0 := (f_ReferenceWays_isNoCharacter a1)) (ws' := (Wc z ad cA sMt sSource sTokens sReferenceWays sTagWays sCommentWays sOut)) (fun H locs ls hP hD hS hl => g_runS F (As := [.int a1]) (n := 1) mw_575 rfl rfl ⟨by decide, by decide⟩ rfl (by exact Nat.le_of_ble_eq_true rfl) mw_573 mw_574 mw_78 (by decide +kernel) d_ReferenceWays_characterOf_59 hP hD hS hl (c_ReferenceWays_isNoCharacter l D cA z ad sMt sSource sTokens sReferenceWays sTagWays sCommentWays sOut a1 rfl H.size)) ?_
        refine g_if_eq F (tgt := 76) d_ReferenceWays_characterOf_62 (by decide) (fun h => ?_) (fun h => ?_)
        · rw [if_pos h] at hf
          refine g_iload_n F d_ReferenceWays_characterOf_76 1 rfl ?_
          refine g_ci F (r0 := (f_ReferenceWays_isControl a1)) (ws' := (Wc z ad cA sMt sSource sTokens sReferenceWays sTagWays sCommentWays sOut)) (fun H locs ls hP hD hS hl => g_runS F (As := [.int a1]) (n := 1) mw_582 rfl rfl ⟨by decide, by decide⟩ rfl (by exact Nat.le_of_ble_eq_true rfl) mw_580 mw_581 mw_78 (by decide +kernel) d_ReferenceWays_characterOf_77 hP hD hS hl (c_ReferenceWays_isControl l D cA z ad sMt sSource sTokens sReferenceWays sTagWays sCommentWays sOut a1 rfl H.size)) ?_
          refine g_if_eq F (tgt := 97) d_ReferenceWays_characterOf_80 (by decide) (fun h => ?_) (fun h => ?_)
          · rw [if_pos h] at hf
            refine g_iload_n F d_ReferenceWays_characterOf_97 1 rfl ?_
            cases hf
            exact g_iret F hr hlk rfl rfl rfl d_ReferenceWays_characterOf_98
          · rw [if_neg h] at hf
            refine g_aload_n F d_ReferenceWays_characterOf_83 0 rfl ?_
            refine g_getS F (v := .ref (ad 1)) in_X6 3 rfl rfl 0 (by decide) mw_204 mw_205 rfl d_ReferenceWays_characterOf_84 ?_
            refine g_bipush F (v := 32) d_ReferenceWays_characterOf_87 (by decide) ?_
            obtain ⟨x1, hx1, hf⟩ := g_bind hf
            refine g_cv F (ws' := (Wc z ad cA sMt x1 sTokens sReferenceWays sTagWays sCommentWays sOut)) (fun H locs ls hP hD hS hl => g_runV F (As := [.int 32]) (n := 1) mw_408 rfl rfl ⟨by decide, by decide⟩ rfl (by exact Nat.le_of_ble_eq_true rfl) mw_544 mw_406 mw_407 mw_74 (by decide +kernel) d_ReferenceWays_characterOf_89 hP hD hS hl (va_recv F.2.2.2.2.2.1 hP (ci := 1) rfl (q0 := 1) rfl) (c_Source_wrong l D cA z ad sMt sSource sTokens sReferenceWays sTagWays sCommentWays sOut 32 hx1 H.size)) ?_
            refine g_iload_n F d_ReferenceWays_characterOf_92 1 rfl ?_
            obtain ⟨x2, hx2, hf⟩ := g_bind hf
            refine g_ci F (r0 := x2) (ws' := (Wc z ad cA sMt x1 sTokens sReferenceWays sTagWays sCommentWays sOut)) (fun H locs ls hP hD hS hl => g_runS F (As := [.int a1]) (n := 1) mw_588 rfl rfl ⟨by decide, by decide⟩ rfl (by exact Nat.le_of_ble_eq_true rfl) mw_586 mw_587 mw_78 (by decide +kernel) d_ReferenceWays_characterOf_93 hP hD hS hl (c_ReferenceWays_replaced l D cA z ad sMt x1 sTokens sReferenceWays sTagWays sCommentWays sOut a1 hx2 H.size)) ?_
            cases hf
            exact g_iret F hr hlk rfl rfl rfl d_ReferenceWays_characterOf_96
        · rw [if_neg h] at hf
          refine g_aload_n F d_ReferenceWays_characterOf_65 0 rfl ?_
          refine g_getS F (v := .ref (ad 1)) in_X6 3 rfl rfl 0 (by decide) mw_204 mw_205 rfl d_ReferenceWays_characterOf_66 ?_
          refine g_bipush F (v := 31) d_ReferenceWays_characterOf_69 (by decide) ?_
          obtain ⟨x3, hx3, hf⟩ := g_bind hf
          refine g_cv F (ws' := (Wc z ad cA sMt x3 sTokens sReferenceWays sTagWays sCommentWays sOut)) (fun H locs ls hP hD hS hl => g_runV F (As := [.int 31]) (n := 1) mw_408 rfl rfl ⟨by decide, by decide⟩ rfl (by exact Nat.le_of_ble_eq_true rfl) mw_544 mw_406 mw_407 mw_74 (by decide +kernel) d_ReferenceWays_characterOf_71 hP hD hS hl (va_recv F.2.2.2.2.2.1 hP (ci := 1) rfl (q0 := 1) rfl) (c_Source_wrong l D cA z ad sMt sSource sTokens sReferenceWays sTagWays sCommentWays sOut 31 hx3 H.size)) ?_
          refine g_iload_n F d_ReferenceWays_characterOf_74 1 rfl ?_
          cases hf
          exact g_iret F hr hlk rfl rfl rfl d_ReferenceWays_characterOf_75
      · rw [if_neg h] at hf
        refine g_iload_n F d_ReferenceWays_characterOf_40 1 rfl ?_
        refine g_ldc F (v := 57343) mw_572 d_ReferenceWays_characterOf_41 ?_
        refine g_icmp_gt F (tgt := 58) d_ReferenceWays_characterOf_43 (by decide) (fun h => ?_) (fun h => ?_)
        · rw [if_pos h] at hf
          refine g_iload_n F d_ReferenceWays_characterOf_58 1 rfl ?_
          refine g_ci F (r0 := (f_ReferenceWays_isNoCharacter a1)) (ws' := (Wc z ad cA sMt sSource sTokens sReferenceWays sTagWays sCommentWays sOut)) (fun H locs ls hP hD hS hl => g_runS F (As := [.int a1]) (n := 1) mw_575 rfl rfl ⟨by decide, by decide⟩ rfl (by exact Nat.le_of_ble_eq_true rfl) mw_573 mw_574 mw_78 (by decide +kernel) d_ReferenceWays_characterOf_59 hP hD hS hl (c_ReferenceWays_isNoCharacter l D cA z ad sMt sSource sTokens sReferenceWays sTagWays sCommentWays sOut a1 rfl H.size)) ?_
          refine g_if_eq F (tgt := 76) d_ReferenceWays_characterOf_62 (by decide) (fun h => ?_) (fun h => ?_)
          · rw [if_pos h] at hf
            refine g_iload_n F d_ReferenceWays_characterOf_76 1 rfl ?_
            refine g_ci F (r0 := (f_ReferenceWays_isControl a1)) (ws' := (Wc z ad cA sMt sSource sTokens sReferenceWays sTagWays sCommentWays sOut)) (fun H locs ls hP hD hS hl => g_runS F (As := [.int a1]) (n := 1) mw_582 rfl rfl ⟨by decide, by decide⟩ rfl (by exact Nat.le_of_ble_eq_true rfl) mw_580 mw_581 mw_78 (by decide +kernel) d_ReferenceWays_characterOf_77 hP hD hS hl (c_ReferenceWays_isControl l D cA z ad sMt sSource sTokens sReferenceWays sTagWays sCommentWays sOut a1 rfl H.size)) ?_
            refine g_if_eq F (tgt := 97) d_ReferenceWays_characterOf_80 (by decide) (fun h => ?_) (fun h => ?_)
            · rw [if_pos h] at hf
              refine g_iload_n F d_ReferenceWays_characterOf_97 1 rfl ?_
              cases hf
              exact g_iret F hr hlk rfl rfl rfl d_ReferenceWays_characterOf_98
            · rw [if_neg h] at hf
              refine g_aload_n F d_ReferenceWays_characterOf_83 0 rfl ?_
              refine g_getS F (v := .ref (ad 1)) in_X6 3 rfl rfl 0 (by decide) mw_204 mw_205 rfl d_ReferenceWays_characterOf_84 ?_
              refine g_bipush F (v := 32) d_ReferenceWays_characterOf_87 (by decide) ?_
              obtain ⟨x4, hx4, hf⟩ := g_bind hf
              refine g_cv F (ws' := (Wc z ad cA sMt x4 sTokens sReferenceWays sTagWays sCommentWays sOut)) (fun H locs ls hP hD hS hl => g_runV F (As := [.int 32]) (n := 1) mw_408 rfl rfl ⟨by decide, by decide⟩ rfl (by exact Nat.le_of_ble_eq_true rfl) mw_544 mw_406 mw_407 mw_74 (by decide +kernel) d_ReferenceWays_characterOf_89 hP hD hS hl (va_recv F.2.2.2.2.2.1 hP (ci := 1) rfl (q0 := 1) rfl) (c_Source_wrong l D cA z ad sMt sSource sTokens sReferenceWays sTagWays sCommentWays sOut 32 hx4 H.size)) ?_
              refine g_iload_n F d_ReferenceWays_characterOf_92 1 rfl ?_
              obtain ⟨x5, hx5, hf⟩ := g_bind hf
              refine g_ci F (r0 := x5) (ws' := (Wc z ad cA sMt x4 sTokens sReferenceWays sTagWays sCommentWays sOut)) (fun H locs ls hP hD hS hl => g_runS F (As := [.int a1]) (n := 1) mw_588 rfl rfl ⟨by decide, by decide⟩ rfl (by exact Nat.le_of_ble_eq_true rfl) mw_586 mw_587 mw_78 (by decide +kernel) d_ReferenceWays_characterOf_93 hP hD hS hl (c_ReferenceWays_replaced l D cA z ad sMt x4 sTokens sReferenceWays sTagWays sCommentWays sOut a1 hx5 H.size)) ?_
              cases hf
              exact g_iret F hr hlk rfl rfl rfl d_ReferenceWays_characterOf_96
          · rw [if_neg h] at hf
            refine g_aload_n F d_ReferenceWays_characterOf_65 0 rfl ?_
            refine g_getS F (v := .ref (ad 1)) in_X6 3 rfl rfl 0 (by decide) mw_204 mw_205 rfl d_ReferenceWays_characterOf_66 ?_
            refine g_bipush F (v := 31) d_ReferenceWays_characterOf_69 (by decide) ?_
            obtain ⟨x6, hx6, hf⟩ := g_bind hf
            refine g_cv F (ws' := (Wc z ad cA sMt x6 sTokens sReferenceWays sTagWays sCommentWays sOut)) (fun H locs ls hP hD hS hl => g_runV F (As := [.int 31]) (n := 1) mw_408 rfl rfl ⟨by decide, by decide⟩ rfl (by exact Nat.le_of_ble_eq_true rfl) mw_544 mw_406 mw_407 mw_74 (by decide +kernel) d_ReferenceWays_characterOf_71 hP hD hS hl (va_recv F.2.2.2.2.2.1 hP (ci := 1) rfl (q0 := 1) rfl) (c_Source_wrong l D cA z ad sMt sSource sTokens sReferenceWays sTagWays sCommentWays sOut 31 hx6 H.size)) ?_
            refine g_iload_n F d_ReferenceWays_characterOf_74 1 rfl ?_
            cases hf
            exact g_iret F hr hlk rfl rfl rfl d_ReferenceWays_characterOf_75
        · rw [if_neg h] at hf
          refine g_aload_n F d_ReferenceWays_characterOf_46 0 rfl ?_
          refine g_getS F (v := .ref (ad 1)) in_X6 3 rfl rfl 0 (by decide) mw_204 mw_205 rfl d_ReferenceWays_characterOf_47 ?_
          refine g_bipush F (v := 30) d_ReferenceWays_characterOf_50 (by decide) ?_
          obtain ⟨x7, hx7, hf⟩ := g_bind hf
          refine g_cv F (ws' := (Wc z ad cA sMt x7 sTokens sReferenceWays sTagWays sCommentWays sOut)) (fun H locs ls hP hD hS hl => g_runV F (As := [.int 30]) (n := 1) mw_408 rfl rfl ⟨by decide, by decide⟩ rfl (by exact Nat.le_of_ble_eq_true rfl) mw_544 mw_406 mw_407 mw_74 (by decide +kernel) d_ReferenceWays_characterOf_52 hP hD hS hl (va_recv F.2.2.2.2.2.1 hP (ci := 1) rfl (q0 := 1) rfl) (c_Source_wrong l D cA z ad sMt sSource sTokens sReferenceWays sTagWays sCommentWays sOut 30 hx7 H.size)) ?_
          refine g_ldc F (v := 65533) mw_569 d_ReferenceWays_characterOf_55 ?_
          cases hf
          exact g_iret F hr hlk rfl rfl rfl d_ReferenceWays_characterOf_57
    · rw [if_neg h] at hf
      refine g_aload_n F d_ReferenceWays_characterOf_22 0 rfl ?_
      refine g_getS F (v := .ref (ad 1)) in_X6 3 rfl rfl 0 (by decide) mw_204 mw_205 rfl d_ReferenceWays_characterOf_23 ?_
      refine g_bipush F (v := 29) d_ReferenceWays_characterOf_26 (by decide) ?_
      obtain ⟨x8, hx8, hf⟩ := g_bind hf
      refine g_cv F (ws' := (Wc z ad cA sMt x8 sTokens sReferenceWays sTagWays sCommentWays sOut)) (fun H locs ls hP hD hS hl => g_runV F (As := [.int 29]) (n := 1) mw_408 rfl rfl ⟨by decide, by decide⟩ rfl (by exact Nat.le_of_ble_eq_true rfl) mw_544 mw_406 mw_407 mw_74 (by decide +kernel) d_ReferenceWays_characterOf_28 hP hD hS hl (va_recv F.2.2.2.2.2.1 hP (ci := 1) rfl (q0 := 1) rfl) (c_Source_wrong l D cA z ad sMt sSource sTokens sReferenceWays sTagWays sCommentWays sOut 29 hx8 H.size)) ?_
      refine g_ldc F (v := 65533) mw_569 d_ReferenceWays_characterOf_31 ?_
      cases hf
      exact g_iret F hr hlk rfl rfl rfl d_ReferenceWays_characterOf_33
  · rw [if_pos h] at hf
    refine g_aload_n F d_ReferenceWays_characterOf_4 0 rfl ?_
    refine g_getS F (v := .ref (ad 1)) in_X6 3 rfl rfl 0 (by decide) mw_204 mw_205 rfl d_ReferenceWays_characterOf_5 ?_
    refine g_bipush F (v := 28) d_ReferenceWays_characterOf_8 (by decide) ?_
    obtain ⟨x9, hx9, hf⟩ := g_bind hf
    refine g_cv F (ws' := (Wc z ad cA sMt x9 sTokens sReferenceWays sTagWays sCommentWays sOut)) (fun H locs ls hP hD hS hl => g_runV F (As := [.int 28]) (n := 1) mw_408 rfl rfl ⟨by decide, by decide⟩ rfl (by exact Nat.le_of_ble_eq_true rfl) mw_544 mw_406 mw_407 mw_74 (by decide +kernel) d_ReferenceWays_characterOf_10 hP hD hS hl (va_recv F.2.2.2.2.2.1 hP (ci := 1) rfl (q0 := 1) rfl) (c_Source_wrong l D cA z ad sMt sSource sTokens sReferenceWays sTagWays sCommentWays sOut 28 hx9 H.size)) ?_
    refine g_ldc F (v := 65533) mw_569 d_ReferenceWays_characterOf_13 ?_
    cases hf
    exact g_iret F hr hlk rfl rfl rfl d_ReferenceWays_characterOf_15
set_option maxHeartbeats 4000000 in
set_option maxRecDepth 100000 in
theorem c_ReferenceWays_numbered (l : Launch) (D : va_G) (cA : Nat → ClassId) (z : gZ) (ad : Nat → Nat) (sMt : SMt) (sSource : SSource) (sTokens : STokens) (sReferenceWays : SReferenceWays) (sTagWays : STagWays) (sCommentWays : SCommentWays) (sOut : SOut) {x : Nat × SSource × STokens} (hf : f_ReferenceWays_numbered sReferenceWays sSource sTokens = some x) (sz : Nat) : Met l y_ReferenceWays_numbered (.code y_ReferenceWays_numbered b_ReferenceWays_numbered 5 (some (.object "MarkupTokens$Way")) :: lw_g) { frames := 3, cells := 0, slots := 0, locals := 66 } (gP D (gT cA) z [.ref (ad 3)] (Wc z ad cA sMt sSource sTokens sReferenceWays sTagWays sCommentWays sOut) sz) (gQq D (gT cA) (va_A (Wc z ad cA sMt sSource sTokens sReferenceWays sTagWays sCommentWays sOut) sz) (some (z.1 x.1)) (Wc z ad cA sMt x.2.1 x.2.2 sReferenceWays sTagWays sCommentWays sOut)) 0 0 (va_A (Wc z ad cA sMt sSource sTokens sReferenceWays sTagWays sCommentWays sOut) sz) := by
  refine g_met (by decide) (Nat.le_of_ble_eq_true rfl) rfl ?_
  intro p e s m args below meth c F hr hlk
  unfold f_ReferenceWays_numbered at hf
  refine g_aload_n F d_ReferenceWays_numbered_0 0 rfl ?_
  refine g_getS F (v := .ref (ad 1)) in_X6 3 rfl rfl 0 (by decide) mw_204 mw_205 rfl d_ReferenceWays_numbered_1 ?_
  refine g_ci F (r0 := (f_Source_place sSource)) (ws' := (Wc z ad cA sMt sSource sTokens sReferenceWays sTagWays sCommentWays sOut)) (fun H locs ls hP hD hS hl => g_runV F (As := []) (n := 0) mw_474 rfl rfl ⟨by decide, by decide⟩ rfl (by exact Nat.le_of_ble_eq_true rfl) mw_471 mw_472 mw_473 mw_74 (by decide +kernel) d_ReferenceWays_numbered_4 hP hD hS hl (va_recv F.2.2.2.2.2.1 hP (ci := 1) rfl (q0 := 1) rfl) (c_Source_place l D cA z ad sMt sSource sTokens sReferenceWays sTagWays sCommentWays sOut rfl H.size)) ?_
  refine g_istore_n F (L' := [(1, .int (f_Source_place sSource)), (0, .ref (ad 3))]) d_ReferenceWays_numbered_7 rfl (by decide) rfl ?_
  refine g_aload_n F d_ReferenceWays_numbered_8 1 rfl ?_
  refine g_getS F (v := .ref (ad 1)) in_X6 3 rfl rfl 0 (by decide) mw_204 mw_205 rfl d_ReferenceWays_numbered_9 ?_
  refine g_iconst F (v := 1) d_ReferenceWays_numbered_12 (by decide) ?_
  refine g_cv F (ws' := (Wc z ad cA sMt (f_Source_skip 1 sSource) sTokens sReferenceWays sTagWays sCommentWays sOut)) (fun H locs ls hP hD hS hl => g_runV F (As := [.int 1]) (n := 1) mw_533 rfl rfl ⟨by decide, by decide⟩ rfl (by exact Nat.le_of_ble_eq_true rfl) mw_530 mw_531 mw_532 mw_74 (by decide +kernel) d_ReferenceWays_numbered_13 hP hD hS hl (va_recv F.2.2.2.2.2.1 hP (ci := 1) rfl (q0 := 1) rfl) (c_Source_skip l D cA z ad sMt sSource sTokens sReferenceWays sTagWays sCommentWays sOut 1 rfl H.size)) ?_
  refine g_bipush F (v := 10) d_ReferenceWays_numbered_16 (by decide) ?_
  refine g_istore_n F (L' := [(2, .int 10), (1, .int (f_Source_place sSource)), (0, .ref (ad 3))]) d_ReferenceWays_numbered_18 rfl (by decide) rfl ?_
  refine g_aload_n F d_ReferenceWays_numbered_19 2 rfl ?_
  refine g_getS F (v := .ref (ad 1)) in_X6 3 rfl rfl 0 (by decide) mw_204 mw_205 rfl d_ReferenceWays_numbered_20 ?_
  obtain ⟨x1, hx1, hf⟩ := g_bind hf
  refine g_ci F (r0 := x1) (ws' := (Wc z ad cA sMt (f_Source_skip 1 sSource) sTokens sReferenceWays sTagWays sCommentWays sOut)) (fun H locs ls hP hD hS hl => g_runV F (As := []) (n := 0) mw_363 rfl rfl ⟨by decide, by decide⟩ rfl (by exact Nat.le_of_ble_eq_true rfl) mw_536 mw_361 mw_362 mw_74 (by decide +kernel) d_ReferenceWays_numbered_23 hP hD hS hl (va_recv F.2.2.2.2.2.1 hP (ci := 1) rfl (q0 := 1) rfl) (c_Source_next l D cA z ad sMt (f_Source_skip 1 sSource) sTokens sReferenceWays sTagWays sCommentWays sOut hx1 H.size)) ?_
  refine g_ci F (r0 := (f_Mt_lowered x1)) (ws' := (Wc z ad cA sMt (f_Source_skip 1 sSource) sTokens sReferenceWays sTagWays sCommentWays sOut)) (fun H locs ls hP hD hS hl => g_runSN F (As := [.int x1]) (n := 1) mw_555 rfl rfl ⟨by decide, by decide⟩ rfl (by exact Nat.le_of_ble_eq_true rfl) (F.2.2.2.2.2.2.2.2.1 (RX6, 97, y_Mt_lowered) (by decide +kernel)) mw_554 mw_73 (by decide +kernel) d_ReferenceWays_numbered_26 hP hD hS hl (c_Mt_lowered l D cA z ad sMt (f_Source_skip 1 sSource) sTokens sReferenceWays sTagWays sCommentWays sOut x1 rfl H.size)) ?_
  refine g_bipush F (v := 120) d_ReferenceWays_numbered_29 (by decide) ?_
  refine g_icmp_ne F (tgt := 45) d_ReferenceWays_numbered_31 (by decide) (fun h => ?_) (fun h => ?_)
  · rw [if_neg h] at hf
    refine g_aload_n F d_ReferenceWays_numbered_45 2 rfl ?_
    refine g_getS F (v := .ref (ad 1)) in_X6 3 rfl rfl 0 (by decide) mw_204 mw_205 rfl d_ReferenceWays_numbered_46 ?_
    refine g_ci F (r0 := (f_Source_place (f_Source_skip 1 sSource))) (ws' := (Wc z ad cA sMt (f_Source_skip 1 sSource) sTokens sReferenceWays sTagWays sCommentWays sOut)) (fun H locs ls hP hD hS hl => g_runV F (As := []) (n := 0) mw_474 rfl rfl ⟨by decide, by decide⟩ rfl (by exact Nat.le_of_ble_eq_true rfl) mw_471 mw_472 mw_473 mw_74 (by decide +kernel) d_ReferenceWays_numbered_49 hP hD hS hl (va_recv F.2.2.2.2.2.1 hP (ci := 1) rfl (q0 := 1) rfl) (c_Source_place l D cA z ad sMt (f_Source_skip 1 sSource) sTokens sReferenceWays sTagWays sCommentWays sOut rfl H.size)) ?_
    refine g_istore_n F (L' := [(3, .int (f_Source_place (f_Source_skip 1 sSource))), (2, .int 10), (1, .int (f_Source_place sSource)), (0, .ref (ad 3))]) d_ReferenceWays_numbered_52 rfl (by decide) rfl ?_
    refine g_aload_n F d_ReferenceWays_numbered_53 3 rfl ?_
    refine g_iload_n F d_ReferenceWays_numbered_54 1 rfl ?_
    obtain ⟨x2, hx2, hf⟩ := g_bind hf
    refine g_ci F (r0 := x2.1) (ws' := (Wc z ad cA sMt x2.2 sTokens sReferenceWays sTagWays sCommentWays sOut)) (fun H locs ls hP hD hS hl => g_runV F (As := [.int 10]) (n := 1) mw_559 rfl rfl ⟨by decide, by decide⟩ rfl (by exact Nat.le_of_ble_eq_true rfl) mw_556 mw_558 mw_9 mw_78 (by decide +kernel) d_ReferenceWays_numbered_55 hP hD hS hl (va_recv F.2.2.2.2.2.1 hP (ci := 3) rfl (q0 := 3) rfl) (c_ReferenceWays_readDigits l D cA z ad sMt (f_Source_skip 1 sSource) sTokens sReferenceWays sTagWays sCommentWays sOut 10 hx2 H.size)) ?_
    refine g_istore F (L' := [(4, .int x2.1), (3, .int (f_Source_place (f_Source_skip 1 sSource))), (2, .int 10), (1, .int (f_Source_place sSource)), (0, .ref (ad 3))]) d_ReferenceWays_numbered_58 (by decide) rfl ?_
    refine g_aload_n F d_ReferenceWays_numbered_60 4 rfl ?_
    refine g_getS F (v := .ref (ad 1)) in_X6 3 rfl rfl 0 (by decide) mw_204 mw_205 rfl d_ReferenceWays_numbered_61 ?_
    refine g_ci F (r0 := (f_Source_place x2.2)) (ws' := (Wc z ad cA sMt x2.2 sTokens sReferenceWays sTagWays sCommentWays sOut)) (fun H locs ls hP hD hS hl => g_runV F (As := []) (n := 0) mw_474 rfl rfl ⟨by decide, by decide⟩ rfl (by exact Nat.le_of_ble_eq_true rfl) mw_471 mw_472 mw_473 mw_74 (by decide +kernel) d_ReferenceWays_numbered_64 hP hD hS hl (va_recv F.2.2.2.2.2.1 hP (ci := 1) rfl (q0 := 1) rfl) (c_Source_place l D cA z ad sMt x2.2 sTokens sReferenceWays sTagWays sCommentWays sOut rfl H.size)) ?_
    refine g_iload_n F d_ReferenceWays_numbered_67 1 rfl ?_
    refine g_icmp_ne F (tgt := 90) d_ReferenceWays_numbered_68 (by decide) (fun h => ?_) (fun h => ?_)
    · rw [if_neg h] at hf
      refine g_aload_n F d_ReferenceWays_numbered_90 4 rfl ?_
      refine g_getS F (v := .ref (ad 1)) in_X6 3 rfl rfl 0 (by decide) mw_204 mw_205 rfl d_ReferenceWays_numbered_91 ?_
      obtain ⟨x3, hx3, hf⟩ := g_bind hf
      refine g_ci F (r0 := x3) (ws' := (Wc z ad cA sMt x2.2 sTokens sReferenceWays sTagWays sCommentWays sOut)) (fun H locs ls hP hD hS hl => g_runV F (As := []) (n := 0) mw_363 rfl rfl ⟨by decide, by decide⟩ rfl (by exact Nat.le_of_ble_eq_true rfl) mw_536 mw_361 mw_362 mw_74 (by decide +kernel) d_ReferenceWays_numbered_94 hP hD hS hl (va_recv F.2.2.2.2.2.1 hP (ci := 1) rfl (q0 := 1) rfl) (c_Source_next l D cA z ad sMt x2.2 sTokens sReferenceWays sTagWays sCommentWays sOut hx3 H.size)) ?_
      refine g_bipush F (v := 59) d_ReferenceWays_numbered_97 (by decide) ?_
      refine g_icmp_ne F (tgt := 113) d_ReferenceWays_numbered_99 (by decide) (fun h => ?_) (fun h => ?_)
      · rw [if_neg h] at hf
        refine g_aload_n F d_ReferenceWays_numbered_113 4 rfl ?_
        refine g_getS F (v := .ref (ad 1)) in_X6 3 rfl rfl 0 (by decide) mw_204 mw_205 rfl d_ReferenceWays_numbered_114 ?_
        refine g_bipush F (v := 25) d_ReferenceWays_numbered_117 (by decide) ?_
        obtain ⟨x4, hx4, hf⟩ := g_bind hf
        refine g_cv F (ws' := (Wc z ad cA sMt x4 sTokens sReferenceWays sTagWays sCommentWays sOut)) (fun H locs ls hP hD hS hl => g_runV F (As := [.int 25]) (n := 1) mw_408 rfl rfl ⟨by decide, by decide⟩ rfl (by exact Nat.le_of_ble_eq_true rfl) mw_544 mw_406 mw_407 mw_74 (by decide +kernel) d_ReferenceWays_numbered_119 hP hD hS hl (va_recv F.2.2.2.2.2.1 hP (ci := 1) rfl (q0 := 1) rfl) (c_Source_wrong l D cA z ad sMt x2.2 sTokens sReferenceWays sTagWays sCommentWays sOut 25 hx4 H.size)) ?_
        refine g_aload_n F d_ReferenceWays_numbered_122 4 rfl ?_
        refine g_getS F (v := .ref (ad 2)) in_X6 3 rfl rfl 1 (by decide) mw_215 mw_216 rfl d_ReferenceWays_numbered_123 ?_
        refine g_aload_n F d_ReferenceWays_numbered_126 4 rfl ?_
        refine g_iload F d_ReferenceWays_numbered_127 0 rfl ?_
        obtain ⟨x5, hx5, hf⟩ := g_bind hf
        refine g_ci F (r0 := x5.1) (ws' := (Wc z ad cA sMt x5.2 sTokens sReferenceWays sTagWays sCommentWays sOut)) (fun H locs ls hP hD hS hl => g_runV F (As := [.int x2.1]) (n := 1) mw_568 rfl rfl ⟨by decide, by decide⟩ rfl (by exact Nat.le_of_ble_eq_true rfl) mw_565 mw_567 mw_10 mw_78 (by decide +kernel) d_ReferenceWays_numbered_129 hP hD hS hl (va_recv F.2.2.2.2.2.1 hP (ci := 3) rfl (q0 := 3) rfl) (c_ReferenceWays_characterOf l D cA z ad sMt x4 sTokens sReferenceWays sTagWays sCommentWays sOut x2.1 hx5 H.size)) ?_
        obtain ⟨x6, hx6, hf⟩ := g_bind hf
        refine g_cv F (ws' := (Wc z ad cA sMt x5.2 x6 sReferenceWays sTagWays sCommentWays sOut)) (fun H locs ls hP hD hS hl => g_runV F (As := [.int x5.1]) (n := 1) mw_416 rfl rfl ⟨by decide, by decide⟩ rfl (by exact Nat.le_of_ble_eq_true rfl) mw_460 mw_414 mw_415 mw_75 (by decide +kernel) d_ReferenceWays_numbered_132 hP hD hS hl (va_recv F.2.2.2.2.2.1 hP (ci := 2) rfl (q0 := 2) rfl) (c_Tokens_add l D cA z ad sMt x5.2 sTokens sReferenceWays sTagWays sCommentWays sOut x5.1 hx6 H.size)) ?_
        refine g_aload_n F d_ReferenceWays_numbered_135 4 rfl ?_
        refine g_get F (v := .ref (z.1 sReferenceWays)) in_X6 3 rfl rfl 2 (by decide) mw_198 rfl d_ReferenceWays_numbered_136 ?_
        cases hf
        exact g_aret F hr (Or.inl ⟨_, rfl⟩) hlk rfl rfl rfl d_ReferenceWays_numbered_139
      · rw [if_pos h] at hf
        refine g_aload_n F d_ReferenceWays_numbered_102 4 rfl ?_
        refine g_getS F (v := .ref (ad 1)) in_X6 3 rfl rfl 0 (by decide) mw_204 mw_205 rfl d_ReferenceWays_numbered_103 ?_
        refine g_iconst F (v := 1) d_ReferenceWays_numbered_106 (by decide) ?_
        refine g_cv F (ws' := (Wc z ad cA sMt (f_Source_skip 1 x2.2) sTokens sReferenceWays sTagWays sCommentWays sOut)) (fun H locs ls hP hD hS hl => g_runV F (As := [.int 1]) (n := 1) mw_533 rfl rfl ⟨by decide, by decide⟩ rfl (by exact Nat.le_of_ble_eq_true rfl) mw_530 mw_531 mw_532 mw_74 (by decide +kernel) d_ReferenceWays_numbered_107 hP hD hS hl (va_recv F.2.2.2.2.2.1 hP (ci := 1) rfl (q0 := 1) rfl) (c_Source_skip l D cA z ad sMt x2.2 sTokens sReferenceWays sTagWays sCommentWays sOut 1 rfl H.size)) ?_
        refine g_goto F (tgt := 122) d_ReferenceWays_numbered_110 (by decide) ?_
        refine g_aload_n F d_ReferenceWays_numbered_122 4 rfl ?_
        refine g_getS F (v := .ref (ad 2)) in_X6 3 rfl rfl 1 (by decide) mw_215 mw_216 rfl d_ReferenceWays_numbered_123 ?_
        refine g_aload_n F d_ReferenceWays_numbered_126 4 rfl ?_
        refine g_iload F d_ReferenceWays_numbered_127 0 rfl ?_
        obtain ⟨x7, hx7, hf⟩ := g_bind hf
        refine g_ci F (r0 := x7.1) (ws' := (Wc z ad cA sMt x7.2 sTokens sReferenceWays sTagWays sCommentWays sOut)) (fun H locs ls hP hD hS hl => g_runV F (As := [.int x2.1]) (n := 1) mw_568 rfl rfl ⟨by decide, by decide⟩ rfl (by exact Nat.le_of_ble_eq_true rfl) mw_565 mw_567 mw_10 mw_78 (by decide +kernel) d_ReferenceWays_numbered_129 hP hD hS hl (va_recv F.2.2.2.2.2.1 hP (ci := 3) rfl (q0 := 3) rfl) (c_ReferenceWays_characterOf l D cA z ad sMt (f_Source_skip 1 x2.2) sTokens sReferenceWays sTagWays sCommentWays sOut x2.1 hx7 H.size)) ?_
        obtain ⟨x8, hx8, hf⟩ := g_bind hf
        refine g_cv F (ws' := (Wc z ad cA sMt x7.2 x8 sReferenceWays sTagWays sCommentWays sOut)) (fun H locs ls hP hD hS hl => g_runV F (As := [.int x7.1]) (n := 1) mw_416 rfl rfl ⟨by decide, by decide⟩ rfl (by exact Nat.le_of_ble_eq_true rfl) mw_460 mw_414 mw_415 mw_75 (by decide +kernel) d_ReferenceWays_numbered_132 hP hD hS hl (va_recv F.2.2.2.2.2.1 hP (ci := 2) rfl (q0 := 2) rfl) (c_Tokens_add l D cA z ad sMt x7.2 sTokens sReferenceWays sTagWays sCommentWays sOut x7.1 hx8 H.size)) ?_
        refine g_aload_n F d_ReferenceWays_numbered_135 4 rfl ?_
        refine g_get F (v := .ref (z.1 sReferenceWays)) in_X6 3 rfl rfl 2 (by decide) mw_198 rfl d_ReferenceWays_numbered_136 ?_
        cases hf
        exact g_aret F hr (Or.inl ⟨_, rfl⟩) hlk rfl rfl rfl d_ReferenceWays_numbered_139
    · rw [if_pos h] at hf
      refine g_aload_n F d_ReferenceWays_numbered_71 4 rfl ?_
      refine g_getS F (v := .ref (ad 1)) in_X6 3 rfl rfl 0 (by decide) mw_204 mw_205 rfl d_ReferenceWays_numbered_72 ?_
      refine g_bipush F (v := 27) d_ReferenceWays_numbered_75 (by decide) ?_
      obtain ⟨x9, hx9, hf⟩ := g_bind hf
      refine g_cv F (ws' := (Wc z ad cA sMt x9 sTokens sReferenceWays sTagWays sCommentWays sOut)) (fun H locs ls hP hD hS hl => g_runV F (As := [.int 27]) (n := 1) mw_408 rfl rfl ⟨by decide, by decide⟩ rfl (by exact Nat.le_of_ble_eq_true rfl) mw_544 mw_406 mw_407 mw_74 (by decide +kernel) d_ReferenceWays_numbered_77 hP hD hS hl (va_recv F.2.2.2.2.2.1 hP (ci := 1) rfl (q0 := 1) rfl) (c_Source_wrong l D cA z ad sMt x2.2 sTokens sReferenceWays sTagWays sCommentWays sOut 27 hx9 H.size)) ?_
      refine g_aload_n F d_ReferenceWays_numbered_80 4 rfl ?_
      refine g_iload_n F d_ReferenceWays_numbered_81 3 rfl ?_
      obtain ⟨x10, hx10, hf⟩ := g_bind hf
      refine g_cv F (ws' := (Wc z ad cA sMt x9 x10 sReferenceWays sTagWays sCommentWays sOut)) (fun H locs ls hP hD hS hl => g_runV F (As := [.int (f_Source_place sSource)]) (n := 1) mw_543 rfl rfl ⟨by decide, by decide⟩ rfl (by exact Nat.le_of_ble_eq_true rfl) mw_540 mw_542 mw_8 mw_78 (by decide +kernel) d_ReferenceWays_numbered_82 hP hD hS hl (va_recv F.2.2.2.2.2.1 hP (ci := 3) rfl (q0 := 3) rfl) (c_ReferenceWays_addAsItIs l D cA z ad sMt x9 sTokens sReferenceWays sTagWays sCommentWays sOut (f_Source_place sSource) hx10 H.size)) ?_
      refine g_aload_n F d_ReferenceWays_numbered_85 4 rfl ?_
      refine g_get F (v := .ref (z.1 sReferenceWays)) in_X6 3 rfl rfl 2 (by decide) mw_198 rfl d_ReferenceWays_numbered_86 ?_
      cases hf
      exact g_aret F hr (Or.inl ⟨_, rfl⟩) hlk rfl rfl rfl d_ReferenceWays_numbered_89
  · rw [if_pos h] at hf
    refine g_bipush F (v := 16) d_ReferenceWays_numbered_34 (by decide) ?_
    refine g_istore_n F (L' := [(2, .int 16), (1, .int (f_Source_place sSource)), (0, .ref (ad 3))]) d_ReferenceWays_numbered_36 rfl (by decide) rfl ?_
    refine g_aload_n F d_ReferenceWays_numbered_37 2 rfl ?_
    refine g_getS F (v := .ref (ad 1)) in_X6 3 rfl rfl 0 (by decide) mw_204 mw_205 rfl d_ReferenceWays_numbered_38 ?_
    refine g_iconst F (v := 1) d_ReferenceWays_numbered_41 (by decide) ?_
    refine g_cv F (ws' := (Wc z ad cA sMt (f_Source_skip 1 (f_Source_skip 1 sSource)) sTokens sReferenceWays sTagWays sCommentWays sOut)) (fun H locs ls hP hD hS hl => g_runV F (As := [.int 1]) (n := 1) mw_533 rfl rfl ⟨by decide, by decide⟩ rfl (by exact Nat.le_of_ble_eq_true rfl) mw_530 mw_531 mw_532 mw_74 (by decide +kernel) d_ReferenceWays_numbered_42 hP hD hS hl (va_recv F.2.2.2.2.2.1 hP (ci := 1) rfl (q0 := 1) rfl) (c_Source_skip l D cA z ad sMt (f_Source_skip 1 sSource) sTokens sReferenceWays sTagWays sCommentWays sOut 1 rfl H.size)) ?_
    refine g_aload_n F d_ReferenceWays_numbered_45 2 rfl ?_
    refine g_getS F (v := .ref (ad 1)) in_X6 3 rfl rfl 0 (by decide) mw_204 mw_205 rfl d_ReferenceWays_numbered_46 ?_
    refine g_ci F (r0 := (f_Source_place (f_Source_skip 1 (f_Source_skip 1 sSource)))) (ws' := (Wc z ad cA sMt (f_Source_skip 1 (f_Source_skip 1 sSource)) sTokens sReferenceWays sTagWays sCommentWays sOut)) (fun H locs ls hP hD hS hl => g_runV F (As := []) (n := 0) mw_474 rfl rfl ⟨by decide, by decide⟩ rfl (by exact Nat.le_of_ble_eq_true rfl) mw_471 mw_472 mw_473 mw_74 (by decide +kernel) d_ReferenceWays_numbered_49 hP hD hS hl (va_recv F.2.2.2.2.2.1 hP (ci := 1) rfl (q0 := 1) rfl) (c_Source_place l D cA z ad sMt (f_Source_skip 1 (f_Source_skip 1 sSource)) sTokens sReferenceWays sTagWays sCommentWays sOut rfl H.size)) ?_
    refine g_istore_n F (L' := [(3, .int (f_Source_place (f_Source_skip 1 (f_Source_skip 1 sSource)))), (2, .int 16), (1, .int (f_Source_place sSource)), (0, .ref (ad 3))]) d_ReferenceWays_numbered_52 rfl (by decide) rfl ?_
    refine g_aload_n F d_ReferenceWays_numbered_53 3 rfl ?_
    refine g_iload_n F d_ReferenceWays_numbered_54 1 rfl ?_
    obtain ⟨x11, hx11, hf⟩ := g_bind hf
    refine g_ci F (r0 := x11.1) (ws' := (Wc z ad cA sMt x11.2 sTokens sReferenceWays sTagWays sCommentWays sOut)) (fun H locs ls hP hD hS hl => g_runV F (As := [.int 16]) (n := 1) mw_559 rfl rfl ⟨by decide, by decide⟩ rfl (by exact Nat.le_of_ble_eq_true rfl) mw_556 mw_558 mw_9 mw_78 (by decide +kernel) d_ReferenceWays_numbered_55 hP hD hS hl (va_recv F.2.2.2.2.2.1 hP (ci := 3) rfl (q0 := 3) rfl) (c_ReferenceWays_readDigits l D cA z ad sMt (f_Source_skip 1 (f_Source_skip 1 sSource)) sTokens sReferenceWays sTagWays sCommentWays sOut 16 hx11 H.size)) ?_
    refine g_istore F (L' := [(4, .int x11.1), (3, .int (f_Source_place (f_Source_skip 1 (f_Source_skip 1 sSource)))), (2, .int 16), (1, .int (f_Source_place sSource)), (0, .ref (ad 3))]) d_ReferenceWays_numbered_58 (by decide) rfl ?_
    refine g_aload_n F d_ReferenceWays_numbered_60 4 rfl ?_
    refine g_getS F (v := .ref (ad 1)) in_X6 3 rfl rfl 0 (by decide) mw_204 mw_205 rfl d_ReferenceWays_numbered_61 ?_
    refine g_ci F (r0 := (f_Source_place x11.2)) (ws' := (Wc z ad cA sMt x11.2 sTokens sReferenceWays sTagWays sCommentWays sOut)) (fun H locs ls hP hD hS hl => g_runV F (As := []) (n := 0) mw_474 rfl rfl ⟨by decide, by decide⟩ rfl (by exact Nat.le_of_ble_eq_true rfl) mw_471 mw_472 mw_473 mw_74 (by decide +kernel) d_ReferenceWays_numbered_64 hP hD hS hl (va_recv F.2.2.2.2.2.1 hP (ci := 1) rfl (q0 := 1) rfl) (c_Source_place l D cA z ad sMt x11.2 sTokens sReferenceWays sTagWays sCommentWays sOut rfl H.size)) ?_
    refine g_iload_n F d_ReferenceWays_numbered_67 1 rfl ?_
    refine g_icmp_ne F (tgt := 90) d_ReferenceWays_numbered_68 (by decide) (fun h => ?_) (fun h => ?_)
    · rw [if_neg h] at hf
      refine g_aload_n F d_ReferenceWays_numbered_90 4 rfl ?_
      refine g_getS F (v := .ref (ad 1)) in_X6 3 rfl rfl 0 (by decide) mw_204 mw_205 rfl d_ReferenceWays_numbered_91 ?_
      obtain ⟨x12, hx12, hf⟩ := g_bind hf
      refine g_ci F (r0 := x12) (ws' := (Wc z ad cA sMt x11.2 sTokens sReferenceWays sTagWays sCommentWays sOut)) (fun H locs ls hP hD hS hl => g_runV F (As := []) (n := 0) mw_363 rfl rfl ⟨by decide, by decide⟩ rfl (by exact Nat.le_of_ble_eq_true rfl) mw_536 mw_361 mw_362 mw_74 (by decide +kernel) d_ReferenceWays_numbered_94 hP hD hS hl (va_recv F.2.2.2.2.2.1 hP (ci := 1) rfl (q0 := 1) rfl) (c_Source_next l D cA z ad sMt x11.2 sTokens sReferenceWays sTagWays sCommentWays sOut hx12 H.size)) ?_
      refine g_bipush F (v := 59) d_ReferenceWays_numbered_97 (by decide) ?_
      refine g_icmp_ne F (tgt := 113) d_ReferenceWays_numbered_99 (by decide) (fun h => ?_) (fun h => ?_)
      · rw [if_neg h] at hf
        refine g_aload_n F d_ReferenceWays_numbered_113 4 rfl ?_
        refine g_getS F (v := .ref (ad 1)) in_X6 3 rfl rfl 0 (by decide) mw_204 mw_205 rfl d_ReferenceWays_numbered_114 ?_
        refine g_bipush F (v := 25) d_ReferenceWays_numbered_117 (by decide) ?_
        obtain ⟨x13, hx13, hf⟩ := g_bind hf
        refine g_cv F (ws' := (Wc z ad cA sMt x13 sTokens sReferenceWays sTagWays sCommentWays sOut)) (fun H locs ls hP hD hS hl => g_runV F (As := [.int 25]) (n := 1) mw_408 rfl rfl ⟨by decide, by decide⟩ rfl (by exact Nat.le_of_ble_eq_true rfl) mw_544 mw_406 mw_407 mw_74 (by decide +kernel) d_ReferenceWays_numbered_119 hP hD hS hl (va_recv F.2.2.2.2.2.1 hP (ci := 1) rfl (q0 := 1) rfl) (c_Source_wrong l D cA z ad sMt x11.2 sTokens sReferenceWays sTagWays sCommentWays sOut 25 hx13 H.size)) ?_
        refine g_aload_n F d_ReferenceWays_numbered_122 4 rfl ?_
        refine g_getS F (v := .ref (ad 2)) in_X6 3 rfl rfl 1 (by decide) mw_215 mw_216 rfl d_ReferenceWays_numbered_123 ?_
        refine g_aload_n F d_ReferenceWays_numbered_126 4 rfl ?_
        refine g_iload F d_ReferenceWays_numbered_127 0 rfl ?_
        obtain ⟨x14, hx14, hf⟩ := g_bind hf
        refine g_ci F (r0 := x14.1) (ws' := (Wc z ad cA sMt x14.2 sTokens sReferenceWays sTagWays sCommentWays sOut)) (fun H locs ls hP hD hS hl => g_runV F (As := [.int x11.1]) (n := 1) mw_568 rfl rfl ⟨by decide, by decide⟩ rfl (by exact Nat.le_of_ble_eq_true rfl) mw_565 mw_567 mw_10 mw_78 (by decide +kernel) d_ReferenceWays_numbered_129 hP hD hS hl (va_recv F.2.2.2.2.2.1 hP (ci := 3) rfl (q0 := 3) rfl) (c_ReferenceWays_characterOf l D cA z ad sMt x13 sTokens sReferenceWays sTagWays sCommentWays sOut x11.1 hx14 H.size)) ?_
        obtain ⟨x15, hx15, hf⟩ := g_bind hf
        refine g_cv F (ws' := (Wc z ad cA sMt x14.2 x15 sReferenceWays sTagWays sCommentWays sOut)) (fun H locs ls hP hD hS hl => g_runV F (As := [.int x14.1]) (n := 1) mw_416 rfl rfl ⟨by decide, by decide⟩ rfl (by exact Nat.le_of_ble_eq_true rfl) mw_460 mw_414 mw_415 mw_75 (by decide +kernel) d_ReferenceWays_numbered_132 hP hD hS hl (va_recv F.2.2.2.2.2.1 hP (ci := 2) rfl (q0 := 2) rfl) (c_Tokens_add l D cA z ad sMt x14.2 sTokens sReferenceWays sTagWays sCommentWays sOut x14.1 hx15 H.size)) ?_
        refine g_aload_n F d_ReferenceWays_numbered_135 4 rfl ?_
        refine g_get F (v := .ref (z.1 sReferenceWays)) in_X6 3 rfl rfl 2 (by decide) mw_198 rfl d_ReferenceWays_numbered_136 ?_
        cases hf
        exact g_aret F hr (Or.inl ⟨_, rfl⟩) hlk rfl rfl rfl d_ReferenceWays_numbered_139
      · rw [if_pos h] at hf
        refine g_aload_n F d_ReferenceWays_numbered_102 4 rfl ?_
        refine g_getS F (v := .ref (ad 1)) in_X6 3 rfl rfl 0 (by decide) mw_204 mw_205 rfl d_ReferenceWays_numbered_103 ?_
        refine g_iconst F (v := 1) d_ReferenceWays_numbered_106 (by decide) ?_
        refine g_cv F (ws' := (Wc z ad cA sMt (f_Source_skip 1 x11.2) sTokens sReferenceWays sTagWays sCommentWays sOut)) (fun H locs ls hP hD hS hl => g_runV F (As := [.int 1]) (n := 1) mw_533 rfl rfl ⟨by decide, by decide⟩ rfl (by exact Nat.le_of_ble_eq_true rfl) mw_530 mw_531 mw_532 mw_74 (by decide +kernel) d_ReferenceWays_numbered_107 hP hD hS hl (va_recv F.2.2.2.2.2.1 hP (ci := 1) rfl (q0 := 1) rfl) (c_Source_skip l D cA z ad sMt x11.2 sTokens sReferenceWays sTagWays sCommentWays sOut 1 rfl H.size)) ?_
        refine g_goto F (tgt := 122) d_ReferenceWays_numbered_110 (by decide) ?_
        refine g_aload_n F d_ReferenceWays_numbered_122 4 rfl ?_
        refine g_getS F (v := .ref (ad 2)) in_X6 3 rfl rfl 1 (by decide) mw_215 mw_216 rfl d_ReferenceWays_numbered_123 ?_
        refine g_aload_n F d_ReferenceWays_numbered_126 4 rfl ?_
        refine g_iload F d_ReferenceWays_numbered_127 0 rfl ?_
        obtain ⟨x16, hx16, hf⟩ := g_bind hf
        refine g_ci F (r0 := x16.1) (ws' := (Wc z ad cA sMt x16.2 sTokens sReferenceWays sTagWays sCommentWays sOut)) (fun H locs ls hP hD hS hl => g_runV F (As := [.int x11.1]) (n := 1) mw_568 rfl rfl ⟨by decide, by decide⟩ rfl (by exact Nat.le_of_ble_eq_true rfl) mw_565 mw_567 mw_10 mw_78 (by decide +kernel) d_ReferenceWays_numbered_129 hP hD hS hl (va_recv F.2.2.2.2.2.1 hP (ci := 3) rfl (q0 := 3) rfl) (c_ReferenceWays_characterOf l D cA z ad sMt (f_Source_skip 1 x11.2) sTokens sReferenceWays sTagWays sCommentWays sOut x11.1 hx16 H.size)) ?_
        obtain ⟨x17, hx17, hf⟩ := g_bind hf
        refine g_cv F (ws' := (Wc z ad cA sMt x16.2 x17 sReferenceWays sTagWays sCommentWays sOut)) (fun H locs ls hP hD hS hl => g_runV F (As := [.int x16.1]) (n := 1) mw_416 rfl rfl ⟨by decide, by decide⟩ rfl (by exact Nat.le_of_ble_eq_true rfl) mw_460 mw_414 mw_415 mw_75 (by decide +kernel) d_ReferenceWays_numbered_132 hP hD hS hl (va_recv F.2.2.2.2.2.1 hP (ci := 2) rfl (q0 := 2) rfl) (c_Tokens_add l D cA z ad sMt x16.2 sTokens sReferenceWays sTagWays sCommentWays sOut x16.1 hx17 H.size)) ?_
        refine g_aload_n F d_ReferenceWays_numbered_135 4 rfl ?_
        refine g_get F (v := .ref (z.1 sReferenceWays)) in_X6 3 rfl rfl 2 (by decide) mw_198 rfl d_ReferenceWays_numbered_136 ?_
        cases hf
        exact g_aret F hr (Or.inl ⟨_, rfl⟩) hlk rfl rfl rfl d_ReferenceWays_numbered_139
    · rw [if_pos h] at hf
      refine g_aload_n F d_ReferenceWays_numbered_71 4 rfl ?_
      refine g_getS F (v := .ref (ad 1)) in_X6 3 rfl rfl 0 (by decide) mw_204 mw_205 rfl d_ReferenceWays_numbered_72 ?_
      refine g_bipush F (v := 27) d_ReferenceWays_numbered_75 (by decide) ?_
      obtain ⟨x18, hx18, hf⟩ := g_bind hf
      refine g_cv F (ws' := (Wc z ad cA sMt x18 sTokens sReferenceWays sTagWays sCommentWays sOut)) (fun H locs ls hP hD hS hl => g_runV F (As := [.int 27]) (n := 1) mw_408 rfl rfl ⟨by decide, by decide⟩ rfl (by exact Nat.le_of_ble_eq_true rfl) mw_544 mw_406 mw_407 mw_74 (by decide +kernel) d_ReferenceWays_numbered_77 hP hD hS hl (va_recv F.2.2.2.2.2.1 hP (ci := 1) rfl (q0 := 1) rfl) (c_Source_wrong l D cA z ad sMt x11.2 sTokens sReferenceWays sTagWays sCommentWays sOut 27 hx18 H.size)) ?_
      refine g_aload_n F d_ReferenceWays_numbered_80 4 rfl ?_
      refine g_iload_n F d_ReferenceWays_numbered_81 3 rfl ?_
      obtain ⟨x19, hx19, hf⟩ := g_bind hf
      refine g_cv F (ws' := (Wc z ad cA sMt x18 x19 sReferenceWays sTagWays sCommentWays sOut)) (fun H locs ls hP hD hS hl => g_runV F (As := [.int (f_Source_place sSource)]) (n := 1) mw_543 rfl rfl ⟨by decide, by decide⟩ rfl (by exact Nat.le_of_ble_eq_true rfl) mw_540 mw_542 mw_8 mw_78 (by decide +kernel) d_ReferenceWays_numbered_82 hP hD hS hl (va_recv F.2.2.2.2.2.1 hP (ci := 3) rfl (q0 := 3) rfl) (c_ReferenceWays_addAsItIs l D cA z ad sMt x18 sTokens sReferenceWays sTagWays sCommentWays sOut (f_Source_place sSource) hx19 H.size)) ?_
      refine g_aload_n F d_ReferenceWays_numbered_85 4 rfl ?_
      refine g_get F (v := .ref (z.1 sReferenceWays)) in_X6 3 rfl rfl 2 (by decide) mw_198 rfl d_ReferenceWays_numbered_86 ?_
      cases hf
      exact g_aret F hr (Or.inl ⟨_, rfl⟩) hlk rfl rfl rfl d_ReferenceWays_numbered_89
set_option maxHeartbeats 4000000 in
set_option maxRecDepth 100000 in
theorem c_TagWays_endsName (l : Launch) (D : va_G) (cA : Nat → ClassId) (z : gZ) (ad : Nat → Nat) (sMt : SMt) (sSource : SSource) (sTokens : STokens) (sReferenceWays : SReferenceWays) (sTagWays : STagWays) (sCommentWays : SCommentWays) (sOut : SOut) (a1 : Int32) {x : Int32} (hf : f_TagWays_endsName a1 = x) (sz : Nat) : Met l y_TagWays_endsName (.code y_TagWays_endsName b_TagWays_endsName 1 (some .boolean) :: lw_g) { frames := 1, cells := 0, slots := 0, locals := 20 } (gP D (gT cA) z [.int a1] (Wc z ad cA sMt sSource sTokens sReferenceWays sTagWays sCommentWays sOut) sz) (gQi D (gT cA) (va_A (Wc z ad cA sMt sSource sTokens sReferenceWays sTagWays sCommentWays sOut) sz) x (Wc z ad cA sMt sSource sTokens sReferenceWays sTagWays sCommentWays sOut)) 0 0 (va_A (Wc z ad cA sMt sSource sTokens sReferenceWays sTagWays sCommentWays sOut) sz) := by
  refine g_met (by decide) (Nat.le_of_ble_eq_true rfl) rfl ?_
  intro p e s m args below meth c F hr hlk
  unfold f_TagWays_endsName at hf
  refine g_iload_n F d_TagWays_endsName_0 0 rfl ?_
  refine g_ci F (r0 := (f_Mt_isBlank a1)) (ws' := (Wc z ad cA sMt sSource sTokens sReferenceWays sTagWays sCommentWays sOut)) (fun H locs ls hP hD hS hl => g_runSN F (As := [.int a1]) (n := 1) mw_585 rfl rfl ⟨by decide, by decide⟩ rfl (by exact Nat.le_of_ble_eq_true rfl) (F.2.2.2.2.2.2.2.2.1 (RX8, 19, y_Mt_isBlank) (by decide +kernel)) mw_584 mw_73 (by decide +kernel) d_TagWays_endsName_1 hP hD hS hl (c_Mt_isBlank l D cA z ad sMt sSource sTokens sReferenceWays sTagWays sCommentWays sOut a1 rfl H.size)) ?_
  refine g_if_ne F (tgt := 24) d_TagWays_endsName_4 (by decide) (fun h => ?_) (fun h => ?_)
  · rw [if_neg h] at hf
    refine g_iconst F (v := 1) d_TagWays_endsName_24 (by decide) ?_
    refine g_goto F (tgt := 29) d_TagWays_endsName_25 (by decide) ?_
    subst hf
    exact g_zret F hr rfl hlk rfl rfl rfl d_TagWays_endsName_29
  · rw [if_pos h] at hf
    refine g_iload_n F d_TagWays_endsName_7 0 rfl ?_
    refine g_bipush F (v := 47) d_TagWays_endsName_8 (by decide) ?_
    refine g_icmp_eq F (tgt := 24) d_TagWays_endsName_10 (by decide) (fun h => ?_) (fun h => ?_)
    · rw [if_pos h] at hf
      refine g_iconst F (v := 1) d_TagWays_endsName_24 (by decide) ?_
      refine g_goto F (tgt := 29) d_TagWays_endsName_25 (by decide) ?_
      subst hf
      exact g_zret F hr rfl hlk rfl rfl rfl d_TagWays_endsName_29
    · rw [if_neg h] at hf
      refine g_iload_n F d_TagWays_endsName_13 0 rfl ?_
      refine g_bipush F (v := 62) d_TagWays_endsName_14 (by decide) ?_
      refine g_icmp_eq F (tgt := 24) d_TagWays_endsName_16 (by decide) (fun h => ?_) (fun h => ?_)
      · rw [if_pos h] at hf
        refine g_iconst F (v := 1) d_TagWays_endsName_24 (by decide) ?_
        refine g_goto F (tgt := 29) d_TagWays_endsName_25 (by decide) ?_
        subst hf
        exact g_zret F hr rfl hlk rfl rfl rfl d_TagWays_endsName_29
      · rw [if_neg h] at hf
        refine g_iload_n F d_TagWays_endsName_19 0 rfl ?_
        refine g_iconst F (v := (-1)) d_TagWays_endsName_20 (by decide) ?_
        refine g_icmp_ne F (tgt := 28) d_TagWays_endsName_21 (by decide) (fun h => ?_) (fun h => ?_)
        · rw [if_neg h] at hf
          refine g_iconst F (v := 0) d_TagWays_endsName_28 (by decide) ?_
          subst hf
          exact g_zret F hr rfl hlk rfl rfl rfl d_TagWays_endsName_29
        · rw [if_pos h] at hf
          refine g_iconst F (v := 1) d_TagWays_endsName_24 (by decide) ?_
          refine g_goto F (tgt := 29) d_TagWays_endsName_25 (by decide) ?_
          subst hf
          exact g_zret F hr rfl hlk rfl rfl rfl d_TagWays_endsName_29
set_option maxHeartbeats 4000000 in
set_option maxRecDepth 100000 in
theorem c_Tokens_endOwn (l : Launch) (D : va_G) (cA : Nat → ClassId) (z : gZ) (ad : Nat → Nat) (sMt : SMt) (sSource : SSource) (sTokens : STokens) (sReferenceWays : SReferenceWays) (sTagWays : STagWays) (sCommentWays : SCommentWays) (sOut : SOut) {x : STokens} (hf : f_Tokens_endOwn sTokens = some x) (sz : Nat) : Met l y_Tokens_endOwn (.code y_Tokens_endOwn b_Tokens_endOwn 1 none :: lw_g) { frames := 0, cells := 0, slots := 0, locals := 0 } (gP D (gT cA) z [.ref (ad 2)] (Wc z ad cA sMt sSource sTokens sReferenceWays sTagWays sCommentWays sOut) sz) (gQv D (gT cA) (va_A (Wc z ad cA sMt sSource sTokens sReferenceWays sTagWays sCommentWays sOut) sz) (Wc z ad cA sMt sSource x sReferenceWays sTagWays sCommentWays sOut)) 0 0 (va_A (Wc z ad cA sMt sSource sTokens sReferenceWays sTagWays sCommentWays sOut) sz) := by
  refine g_met (by decide) (Nat.le_of_ble_eq_true rfl) rfl ?_
  intro p e s m args below meth c F hr hlk
  unfold f_Tokens_endOwn at hf
  refine g_aload_n F d_Tokens_endOwn_0 0 rfl ?_
  refine g_get F (v := .int (q_Tokens_count sTokens)) in_X9 2 rfl rfl 8 (by decide) mw_143 rfl d_Tokens_endOwn_1 ?_
  refine g_sipush F (v := 400) d_Tokens_endOwn_4 (by decide) ?_
  refine g_icmp_ge F (tgt := 23) d_Tokens_endOwn_7 (by decide) (fun h => ?_) (fun h => ?_)
  · rw [if_pos h] at hf
    cases hf
    exact g_vret F hr hlk rfl rfl d_Tokens_endOwn_23
  · rw [if_neg h] at hf
    refine g_aload_n F d_Tokens_endOwn_10 0 rfl ?_
    refine g_get F (v := .ref (ad 16)) in_X9 2 rfl rfl 4 (by decide) mw_139 rfl d_Tokens_endOwn_11 ?_
    refine g_aload_n F d_Tokens_endOwn_14 0 rfl ?_
    refine g_get F (v := .int (q_Tokens_count sTokens)) in_X9 2 rfl rfl 8 (by decide) mw_143 rfl d_Tokens_endOwn_15 ?_
    refine g_aload_n F d_Tokens_endOwn_18 0 rfl ?_
    refine g_get F (v := .int (q_Tokens_used sTokens)) in_X9 2 rfl rfl 1 (by decide) mw_136 rfl d_Tokens_endOwn_19 ?_
    obtain ⟨k1, hf⟩ := g_chk hf
    refine g_iast F (f := (q_Tokens_ends sTokens)) 16 0 rfl rfl k1 (ws' := (Wc z ad cA sMt sSource (u_Tokens_ends sTokens (upd (q_Tokens_ends sTokens) ((q_Tokens_count sTokens) : Int32).toNatClampNeg (q_Tokens_used sTokens))) sReferenceWays sTagWays sCommentWays sOut)) rfl d_Tokens_endOwn_22 ?_
    cases hf
    exact g_vret F hr hlk rfl rfl d_Tokens_endOwn_23
