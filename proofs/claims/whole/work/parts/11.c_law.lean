abbrev SS : Type := SMt × SSource × STokens × SReferenceWays × STagWays × SCommentWays × SOut
abbrev Ws (z : gZ) (ad : Nat → Nat) (cA : Nat → ClassId) (S : SS) : va_W := Wc z ad cA S.1 S.2.1 S.2.2.1 S.2.2.2.1 S.2.2.2.2.1 S.2.2.2.2.2.1 S.2.2.2.2.2.2
def i0_S : SS := (i0_Mt, i0_Source, i0_Tokens, i0_ReferenceWays, i0_TagWays, i0_CommentWays, i0_Out)
def Op_feed (Rel : SS → SMo → Prop) : Prop := ∀ (S : SS) (M : SMo) (a1 : Int64) (a2 : Int32), Rel S M → ∃ (r : Int32) (s_Mt : SMt) (m1 : SMo), f_Mt_feed a1 a2 S.1 = some (r, s_Mt) ∧ f_Mo_feed a1 a2 M = some (r, m1) ∧ Rel (s_Mt, S.2.1, S.2.2.1, S.2.2.2.1, S.2.2.2.2.1, S.2.2.2.2.2.1, S.2.2.2.2.2.2) m1
def Op_clear (Rel : SS → SMo → Prop) : Prop := ∀ (S : SS) (M : SMo), Rel S M → ∃ (r : Int32) (s_Mt : SMt) (m1 : SMo), f_Mt_clear S.1 = (r, s_Mt) ∧ f_Mo_clear M = (r, m1) ∧ Rel (s_Mt, S.2.1, S.2.2.1, S.2.2.2.1, S.2.2.2.2.1, S.2.2.2.2.2.1, S.2.2.2.2.2.2) m1
def Op_again (Rel : SS → SMo → Prop) : Prop := ∀ (S : SS) (M : SMo), Rel S M → ∃ (r : Int32) (s_Mt : SMt) (m1 : SMo), f_Mt_again S.1 S.2.2.2.2.2.2 = some (r, s_Mt) ∧ f_Mo_again M = some (r, m1) ∧ Rel (s_Mt, S.2.1, S.2.2.1, S.2.2.2.1, S.2.2.2.2.1, S.2.2.2.2.2.1, S.2.2.2.2.2.2) m1
def Op_run (Rel : SS → SMo → Prop) : Prop := ∀ (S : SS) (M : SMo), Rel S M → ∃ (r : Int32) (s_CommentWays : SCommentWays) (s_ReferenceWays : SReferenceWays) (s_Source : SSource) (s_TagWays : STagWays) (s_Tokens : STokens) (m1 : SMo), f_Mt_run S.1 S.2.2.2.2.2.1 S.2.2.2.1 S.2.1 S.2.2.2.2.1 S.2.2.1 = some (r, s_CommentWays, s_ReferenceWays, s_Source, s_TagWays, s_Tokens) ∧ f_Mo_run M = some (r, m1) ∧ Rel (S.1, s_Source, s_Tokens, s_ReferenceWays, s_TagWays, s_CommentWays, S.2.2.2.2.2.2) m1
def Op_token (Rel : SS → SMo → Prop) : Prop := ∀ (S : SS) (M : SMo) (a1 : Int32) (a2 : Int32), Rel S M → ∃ (r : Int32), f_Mt_token a1 a2 S.2.2.1 = some r ∧ f_Mo_token a1 a2 M = some r
def Op_at (Rel : SS → SMo → Prop) : Prop := ∀ (S : SS) (M : SMo) (a1 : Int32) (a2 : Int32), Rel S M → ∃ (r : Int32), f_Mt_at a1 a2 S.2.2.1 = some r ∧ f_Mo_at a1 a2 M = some r
def Op_size (Rel : SS → SMo → Prop) : Prop := ∀ (S : SS) (M : SMo) (a1 : Int32) (a2 : Int32) (a3 : Int32), Rel S M → ∃ (r : Int32), f_Mt_size a1 a2 a3 S.2.2.1 = some r ∧ f_Mo_size a1 a2 a3 M = some r
def Op_part (Rel : SS → SMo → Prop) : Prop := ∀ (S : SS) (M : SMo) (a1 : Int32) (a2 : Int32) (a3 : Int32) (a4 : Int32), Rel S M → ∃ (r : Int32), f_Mt_part a1 a2 a3 a4 S.2.2.1 = some r ∧ f_Mo_part a1 a2 a3 a4 M = some r
def Op_faults (Rel : SS → SMo → Prop) : Prop := ∀ (S : SS) (M : SMo), Rel S M → ∃ (r : Int32), f_Mt_faults S.2.1 = r ∧ f_Mo_faults M = r
def Op_fault (Rel : SS → SMo → Prop) : Prop := ∀ (S : SS) (M : SMo) (a1 : Int32) (a2 : Int32), Rel S M → ∃ (r : Int32), f_Mt_fault a1 a2 S.2.1 = some r ∧ f_Mo_fault a1 a2 M = some r
def Op_write (Rel : SS → SMo → Prop) : Prop := ∀ (S : SS) (M : SMo), Rel S M → ∃ (r : Int32) (s_Out : SOut) (m1 : SMo), f_Mt_write S.2.2.2.2.2.2 S.2.2.1 = some (r, s_Out) ∧ f_Mo_write M = some (r, m1) ∧ Rel (S.1, S.2.1, S.2.2.1, S.2.2.2.1, S.2.2.2.2.1, S.2.2.2.2.2.1, s_Out) m1
def Op_word (Rel : SS → SMo → Prop) : Prop := ∀ (S : SS) (M : SMo) (a1 : Int32), Rel S M → ∃ (r : Int64), f_Mt_word a1 S.2.2.2.2.2.2 = some r ∧ f_Mo_word a1 M = some r
def Ops (Rel : SS → SMo → Prop) : Prop := Op_feed Rel ∧ Op_clear Rel ∧ Op_again Rel ∧ Op_run Rel ∧ Op_token Rel ∧ Op_at Rel ∧ Op_size Rel ∧ Op_part Rel ∧ Op_faults Rel ∧ Op_fault Rel ∧ Op_write Rel ∧ Op_word Rel
theorem law_le {k L : Nat} (hL : L ≤ 2560) (hk : k ≤ 2565) (h : ¬ Int32.ofNat L - 5 < nI k) : k + 5 ≤ L := by
  rw [Int32.lt_iff_toInt_lt, Int32.toInt_sub, nI_toInt (by omega), show (Int32.ofNat L).toInt = (L : Int) from nI_toInt (by omega), show (5 : Int32).toInt = 5 from rfl] at h
  unfold Int.bmod at h
  simp only [] at h
  split at h <;> omega
theorem law_in0 {k L : Nat} (h : k + 5 ≤ L) (hL : L ≤ 2560) : vp_in (nI k) L := nI_in (by omega) (by omega)
theorem law_in (j : Nat) {k L : Nat} (hj : j ≤ 4) (h : k + 5 ≤ L) (hL : L ≤ 2560) : vp_in (nI k + nI j) L := by rw [nI_add]; exact nI_in (by omega) (by omega)
theorem lg_cmp_self (r : Int64) : lg_cmp r r = 0 := by unfold lg_cmp; simp
section LAWR
variable {p : Program} {l : Launch} {e : Env} {R : Room} {s : State} {m : MethodId} {args : Array Value} {below : List Frame} {meth : Method} {c : Code} {Q : State → Prop} {D : va_G} {A : Nat → Prop} {nL ck cn : Nat} {tys : List (ClassId × FieldType)} {own : String} {cc : ByteArray} {ws : va_W} {pc : Nat} {L0 : List (Nat × Value)} {st : List Value} {z : gZ}
theorem h_sld (F : gF p s m args c D A tys z own cc nL) {b L : Nat} {xs : Nat → Int32} (hX : va_X b L xs s s.heap) (hbl : b < s.heap.size) (hbA : ¬ A b) {i : Int32} (hin : vp_in i L) (hd : decode cc pc = .ok (.iaload, 1)) (kk : GL p l e R s m args below meth c Q D A nL ck cn ws (pc + 1) L0 (.int (xs i.toNatClampNeg) :: st)) : GL p l e R s m args below meth c Q D A nL ck cn ws pc L0 (.int i :: .ref b :: st) := fun H locs ls hP hD hS hl => va_sld F.1 F.2.1 hX hbl hbA hS hin hd (kk H locs ls hP hD hS hl)
theorem h_slen (F : gF p s m args c D A tys z own cc nL) {b L : Nat} {xs : Nat → Int32} (hX : va_X b L xs s s.heap) (hbl : b < s.heap.size) (hbA : ¬ A b) (hd : decode cc pc = .ok (.arraylength, 1)) (kk : GL p l e R s m args below meth c Q D A nL ck cn ws (pc + 1) L0 (.int (Int32.ofNat L) :: st)) : GL p l e R s m args below meth c Q D A nL ck cn ws pc L0 (.ref b :: st) := fun H locs ls hP hD hS hl => va_slen F.1 F.2.1 hX hbl hbA hS hd (kk H locs ls hP hD hS hl)
theorem h_lawret {b : Nat} (F : gF p s m #[Value.ref b] c D A tys z own code nL) (hA' : ∀ q, A q → s.heap.size ≤ q) (hr : meth.sig.returnType = ret) (hlk : meth.locks = false) (hd : decode code pc = .ok (.ireturn, 1)) : GL p l e room_1 s m #[Value.ref b] below meth c (lw_Z below #[Value.ref b] s) D A nL 45 23056 ws pc L0 [.int 1] := fun H locs ls hP hD hS hl => va_forget (fun q hq => hA' _ (hS.2.2 q hq)) (lw_ret F.1 F.2.1 hr hlk hd)
end LAWR
set_option maxHeartbeats 4000000 in
set_option maxRecDepth 100000 in
theorem law_loop {Rel : SS → SMo → Prop} (hops : Ops Rel) {p : Program} {l : Launch} {e : Env} {s : State} {m : MethodId} {below : List Frame} {meth : Method} {c : Code} {D : va_G} {A : Nat → Prop} {z : gZ} {cA : Nat → ClassId} {b L : Nat} {xs : Nat → Int32} (F : gF p s m #[Value.ref b] c D A (gT cA) z RL cL_law 4) (hA' : ∀ q, A q → s.heap.size ≤ q) (hr : meth.sig.returnType = ret) (hlk : meth.locks = false) (hX : va_X b L xs s s.heap) (hbl : b < s.heap.size) (hL : L ≤ 2560) (ad1 ad2 : Nat → Nat) : ∀ (n k : Nat) (S : SS) (M : SMo), L ≤ k + n → k ≤ 2565 → Rel S M → GL p l e room_1 s m #[Value.ref b] below meth c (lw_Z below #[Value.ref b] s) D A 4 45 23056 (Ws z ad1 cA S ++ Wo ad2 cA M) 18 [(0, .ref b), (1, .ref (ad1 0)), (2, .ref (ad2 0)), (3, .int (nI k))] [] := by
  have hbA : ¬ A b := fun h => absurd (hA' b h) (by omega)
  intro n
  induction n with
  | zero =>
    intro k S M hn hk hR
    refine h_iload_n F dL_law_18 3 rfl ?_
    refine h_aload_n F dL_law_19 0 rfl ?_
    refine h_slen F hX hbl hbA dL_law_20 ?_
    refine h_iconst F (v := 5) dL_law_21 (by decide) ?_
    refine h_isub F dL_law_22 ?_
    refine h_icmp_gt F (tgt := 449) dL_law_23 (by decide) (fun h => ?_) (fun h => absurd (law_le hL hk h) (by omega))
    refine h_iconst F (v := 1) dL_law_449 (by decide) ?_
    exact h_lawret F hA' hr hlk dL_law_450
  | succ n ih =>
    intro k S M hn hk hR
    refine h_iload_n F dL_law_18 3 rfl ?_
    refine h_aload_n F dL_law_19 0 rfl ?_
    refine h_slen F hX hbl hbA dL_law_20 ?_
    refine h_iconst F (v := 5) dL_law_21 (by decide) ?_
    refine h_isub F dL_law_22 ?_
    refine h_icmp_gt F (tgt := 449) dL_law_23 (by decide) (fun h => ?_) (fun h => ?_)
    · refine h_iconst F (v := 1) dL_law_449 (by decide) ?_
      exact h_lawret F hA' hr hlk dL_law_450
    have hk5 : k + 5 ≤ L := law_le hL hk h
    have fin : ∀ (S1 : SS) (M1 : SMo), Rel S1 M1 → GL p l e room_1 s m #[Value.ref b] below meth c (lw_Z below #[Value.ref b] s) D A 4 45 23056 (Ws z ad1 cA S1 ++ Wo ad2 cA M1) 443 [(0, .ref b), (1, .ref (ad1 0)), (2, .ref (ad2 0)), (3, .int (nI k))] [] := by
      intro S1 M1 hR1
      refine h_iinc F (j := 3) (v := nI (k + 5)) (L' := [(3, .int (nI (k + 5))), (0, .ref b), (1, .ref (ad1 0)), (2, .ref (ad2 0))]) dL_law_443 rfl (nI_add k 5) (by decide) rfl ?_
      refine h_goto F (tgt := 18) dL_law_446 (by decide) ?_
      refine h_loc [1, 2, 3, 0] rfl ?_
      exact ih (k + 5) S1 M1 (by omega) (by omega) hR1
    refine h_aload_n F dL_law_26 0 rfl ?_
    refine h_iload_n F dL_law_27 3 rfl ?_
    refine h_sld F hX hbl hbA (law_in0 hk5 hL) dL_law_28 ?_
    refine h_bipush F (v := 15) dL_law_29 (by decide) ?_
    refine h_iand F dL_law_31 ?_
    generalize xs (nI k).toNatClampNeg &&& 15 = v
    by_cases w0 : v = 0
    · subst w0
      refine h_tableIn F (off := 64) (tgt := 96) dL_law_32 (by decide) (by decide) (by decide) (by decide) ?_
      refine h_aload_n F dL_law_96 1 rfl ?_
      refine h_aload_n F dL_law_97 0 rfl ?_
      refine h_iload_n F dL_law_98 3 rfl ?_
      refine h_iconst F (v := 1) dL_law_99 (by decide) ?_
      refine h_iadd F dL_law_100 ?_
      refine h_sld F hX hbl hbA (law_in 1 (by decide) hk5 hL) dL_law_101 ?_
      refine h_i2l F dL_law_102 ?_
      refine h_bipush F (v := 32) dL_law_103 (by decide) ?_
      refine h_lshl F dL_law_105 ?_
      refine h_aload_n F dL_law_106 0 rfl ?_
      refine h_iload_n F dL_law_107 3 rfl ?_
      refine h_iconst F (v := 2) dL_law_108 (by decide) ?_
      refine h_iadd F dL_law_109 ?_
      refine h_sld F hX hbl hbA (law_in 2 (by decide) hk5 hL) dL_law_110 ?_
      refine h_i2l F dL_law_111 ?_
      refine h_ldc2 F (v := 4294967295) mw_1450 dL_law_112 ?_
      refine h_land F dL_law_115 ?_
      refine h_lor F dL_law_116 ?_
      refine h_aload_n F dL_law_117 0 rfl ?_
      refine h_iload_n F dL_law_118 3 rfl ?_
      refine h_iconst F (v := 3) dL_law_119 (by decide) ?_
      refine h_iadd F dL_law_120 ?_
      refine h_sld F hX hbl hbA (law_in 3 (by decide) hk5 hL) dL_law_121 ?_
      obtain ⟨r, s_Mt, m1, e1, e2, hR1⟩ := hops.1 S M ((((xs (((nI k) + 1) : Int32).toNatClampNeg) : Int32).toInt64 <<< ((32 : Int32).toInt64 &&& 63)) ||| (((xs (((nI k) + 2) : Int32).toNatClampNeg) : Int32).toInt64 &&& (4294967295 : Int64))) (xs (((nI k) + 3) : Int32).toNatClampNeg) hR
      refine h_vi F (As := [.long ((((xs (((nI k) + 1) : Int32).toNatClampNeg) : Int32).toInt64 <<< ((32 : Int32).toInt64 &&& 63)) ||| (((xs (((nI k) + 2) : Int32).toNatClampNeg) : Int32).toInt64 &&& (4294967295 : Int64))), .int (xs (((nI k) + 3) : Int32).toNatClampNeg)]) (n := 2) (wc := Ws z ad1 cA S) (wr := Wo ad2 cA M) (w1 := Ws z ad1 cA (s_Mt, S.2.1, S.2.2.1, S.2.2.2.1, S.2.2.2.2.1, S.2.2.2.2.2.1, S.2.2.2.2.2.2)) (r0 := r) (C := RX12) (ci := 0) (q0 := 0) (fun sz => c_Mt_feed l D cA z ad1 S.1 S.2.1 S.2.2.1 S.2.2.2.1 S.2.2.2.2.1 S.2.2.2.2.2.1 S.2.2.2.2.2.2 _ _ e1 sz) mw_317 rfl rfl ⟨Nat.le_of_ble_eq_true rfl, Nat.le_of_ble_eq_true rfl⟩ rfl (Nat.le_of_ble_eq_true rfl) mw_314 mw_315 mw_316 mw_73 (by decide +kernel) rfl rfl rfl dL_law_122 (Nat.le_of_ble_eq_true rfl) (Nat.le_of_ble_eq_true rfl) [0, 1, 2, 3, 4, 5, 6, 7, 8, 9, 10, 11, 12, 13, 14, 15, 16, 17, 18, 19, 20, 21, 22, 23] [24, 25, 26, 27, 28, 29, 30, 31, 32, 33, 34, 35, 36, 37, 38, 39, 40, 41, 42, 43, 44] rfl rfl (by decide) (by decide) (by decide) ?_
      refine h_aload_n F dL_law_125 2 rfl ?_
      refine h_aload_n F dL_law_126 0 rfl ?_
      refine h_iload_n F dL_law_127 3 rfl ?_
      refine h_iconst F (v := 1) dL_law_128 (by decide) ?_
      refine h_iadd F dL_law_129 ?_
      refine h_sld F hX hbl hbA (law_in 1 (by decide) hk5 hL) dL_law_130 ?_
      refine h_i2l F dL_law_131 ?_
      refine h_bipush F (v := 32) dL_law_132 (by decide) ?_
      refine h_lshl F dL_law_134 ?_
      refine h_aload_n F dL_law_135 0 rfl ?_
      refine h_iload_n F dL_law_136 3 rfl ?_
      refine h_iconst F (v := 2) dL_law_137 (by decide) ?_
      refine h_iadd F dL_law_138 ?_
      refine h_sld F hX hbl hbA (law_in 2 (by decide) hk5 hL) dL_law_139 ?_
      refine h_i2l F dL_law_140 ?_
      refine h_ldc2 F (v := 4294967295) mw_1450 dL_law_141 ?_
      refine h_land F dL_law_144 ?_
      refine h_lor F dL_law_145 ?_
      refine h_aload_n F dL_law_146 0 rfl ?_
      refine h_iload_n F dL_law_147 3 rfl ?_
      refine h_iconst F (v := 3) dL_law_148 (by decide) ?_
      refine h_iadd F dL_law_149 ?_
      refine h_sld F hX hbl hbA (law_in 3 (by decide) hk5 hL) dL_law_150 ?_
      refine h_vi F (As := [.long ((((xs (((nI k) + 1) : Int32).toNatClampNeg) : Int32).toInt64 <<< ((32 : Int32).toInt64 &&& 63)) ||| (((xs (((nI k) + 2) : Int32).toNatClampNeg) : Int32).toInt64 &&& (4294967295 : Int64))), .int (xs (((nI k) + 3) : Int32).toNatClampNeg)]) (n := 2) (wc := Wo ad2 cA M) (wr := Ws z ad1 cA (s_Mt, S.2.1, S.2.2.1, S.2.2.2.1, S.2.2.2.2.1, S.2.2.2.2.2.1, S.2.2.2.2.2.2)) (w1 := Wo ad2 cA m1) (r0 := r) (C := RX13) (ci := 9) (q0 := 0) (fun sz => c_Mo_feed l D cA z ad2 M _ _ e2 sz) mw_1208 rfl rfl ⟨Nat.le_of_ble_eq_true rfl, Nat.le_of_ble_eq_true rfl⟩ rfl (Nat.le_of_ble_eq_true rfl) mw_1205 mw_1206 mw_1207 mw_85 (by decide +kernel) rfl rfl rfl dL_law_151 (Nat.le_of_ble_eq_true rfl) (Nat.le_of_ble_eq_true rfl) [0, 1, 2, 3, 4, 5, 6, 7, 8, 9, 10, 11, 12, 13, 14, 15, 16, 17, 18, 19, 20] [21, 22, 23, 24, 25, 26, 27, 28, 29, 30, 31, 32, 33, 34, 35, 36, 37, 38, 39, 40, 41, 42, 43, 44] rfl rfl (by decide) (by decide) (by decide) ?_
      refine h_icmp_eq F (tgt := 443) dL_law_154 (by decide) (fun _ => ?_) (fun h => absurd rfl h)
      exact fin (s_Mt, S.2.1, S.2.2.1, S.2.2.2.1, S.2.2.2.2.1, S.2.2.2.2.2.1, S.2.2.2.2.2.2) m1 hR1
    by_cases w1 : v = 1
    · subst w1
      refine h_tableIn F (off := 127) (tgt := 159) dL_law_32 (by decide) (by decide) (by decide) (by decide) ?_
      refine h_aload_n F dL_law_159 1 rfl ?_
      obtain ⟨r, s_Mt, m1, e1, e2, hR1⟩ := hops.2.1 S M hR
      refine h_vi F (As := []) (n := 0) (wc := Ws z ad1 cA S) (wr := Wo ad2 cA M) (w1 := Ws z ad1 cA (s_Mt, S.2.1, S.2.2.1, S.2.2.2.1, S.2.2.2.2.1, S.2.2.2.2.2.1, S.2.2.2.2.2.2)) (r0 := r) (C := RX12) (ci := 0) (q0 := 0) (fun sz => c_Mt_clear l D cA z ad1 S.1 S.2.1 S.2.2.1 S.2.2.2.1 S.2.2.2.2.1 S.2.2.2.2.2.1 S.2.2.2.2.2.2 e1 sz) mw_321 rfl rfl ⟨Nat.le_of_ble_eq_true rfl, Nat.le_of_ble_eq_true rfl⟩ rfl (Nat.le_of_ble_eq_true rfl) mw_318 mw_319 mw_320 mw_73 (by decide +kernel) rfl rfl rfl dL_law_160 (Nat.le_of_ble_eq_true rfl) (Nat.le_of_ble_eq_true rfl) [0, 1, 2, 3, 4, 5, 6, 7, 8, 9, 10, 11, 12, 13, 14, 15, 16, 17, 18, 19, 20, 21, 22, 23] [24, 25, 26, 27, 28, 29, 30, 31, 32, 33, 34, 35, 36, 37, 38, 39, 40, 41, 42, 43, 44] rfl rfl (by decide) (by decide) (by decide) ?_
      refine h_aload_n F dL_law_163 2 rfl ?_
      refine h_vi F (As := []) (n := 0) (wc := Wo ad2 cA M) (wr := Ws z ad1 cA (s_Mt, S.2.1, S.2.2.1, S.2.2.2.1, S.2.2.2.2.1, S.2.2.2.2.2.1, S.2.2.2.2.2.2)) (w1 := Wo ad2 cA m1) (r0 := r) (C := RX13) (ci := 9) (q0 := 0) (fun sz => c_Mo_clear l D cA z ad2 M e2 sz) mw_1212 rfl rfl ⟨Nat.le_of_ble_eq_true rfl, Nat.le_of_ble_eq_true rfl⟩ rfl (Nat.le_of_ble_eq_true rfl) mw_1209 mw_1210 mw_1211 mw_85 (by decide +kernel) rfl rfl rfl dL_law_164 (Nat.le_of_ble_eq_true rfl) (Nat.le_of_ble_eq_true rfl) [0, 1, 2, 3, 4, 5, 6, 7, 8, 9, 10, 11, 12, 13, 14, 15, 16, 17, 18, 19, 20] [21, 22, 23, 24, 25, 26, 27, 28, 29, 30, 31, 32, 33, 34, 35, 36, 37, 38, 39, 40, 41, 42, 43, 44] rfl rfl (by decide) (by decide) (by decide) ?_
      refine h_icmp_eq F (tgt := 443) dL_law_167 (by decide) (fun _ => ?_) (fun h => absurd rfl h)
      exact fin (s_Mt, S.2.1, S.2.2.1, S.2.2.2.1, S.2.2.2.2.1, S.2.2.2.2.2.1, S.2.2.2.2.2.2) m1 hR1
    by_cases w2 : v = 2
    · subst w2
      refine h_tableIn F (off := 140) (tgt := 172) dL_law_32 (by decide) (by decide) (by decide) (by decide) ?_
      refine h_aload_n F dL_law_172 1 rfl ?_
      obtain ⟨r, s_Mt, m1, e1, e2, hR1⟩ := hops.2.2.1 S M hR
      refine h_vi F (As := []) (n := 0) (wc := Ws z ad1 cA S) (wr := Wo ad2 cA M) (w1 := Ws z ad1 cA (s_Mt, S.2.1, S.2.2.1, S.2.2.2.1, S.2.2.2.2.1, S.2.2.2.2.2.1, S.2.2.2.2.2.2)) (r0 := r) (C := RX12) (ci := 0) (q0 := 0) (fun sz => c_Mt_again l D cA z ad1 S.1 S.2.1 S.2.2.1 S.2.2.2.1 S.2.2.2.2.1 S.2.2.2.2.2.1 S.2.2.2.2.2.2 e1 sz) mw_325 rfl rfl ⟨Nat.le_of_ble_eq_true rfl, Nat.le_of_ble_eq_true rfl⟩ rfl (Nat.le_of_ble_eq_true rfl) mw_322 mw_323 mw_324 mw_73 (by decide +kernel) rfl rfl rfl dL_law_173 (Nat.le_of_ble_eq_true rfl) (Nat.le_of_ble_eq_true rfl) [0, 1, 2, 3, 4, 5, 6, 7, 8, 9, 10, 11, 12, 13, 14, 15, 16, 17, 18, 19, 20, 21, 22, 23] [24, 25, 26, 27, 28, 29, 30, 31, 32, 33, 34, 35, 36, 37, 38, 39, 40, 41, 42, 43, 44] rfl rfl (by decide) (by decide) (by decide) ?_
      refine h_aload_n F dL_law_176 2 rfl ?_
      refine h_vi F (As := []) (n := 0) (wc := Wo ad2 cA M) (wr := Ws z ad1 cA (s_Mt, S.2.1, S.2.2.1, S.2.2.2.1, S.2.2.2.2.1, S.2.2.2.2.2.1, S.2.2.2.2.2.2)) (w1 := Wo ad2 cA m1) (r0 := r) (C := RX13) (ci := 9) (q0 := 0) (fun sz => c_Mo_again l D cA z ad2 M e2 sz) mw_1216 rfl rfl ⟨Nat.le_of_ble_eq_true rfl, Nat.le_of_ble_eq_true rfl⟩ rfl (Nat.le_of_ble_eq_true rfl) mw_1213 mw_1214 mw_1215 mw_85 (by decide +kernel) rfl rfl rfl dL_law_177 (Nat.le_of_ble_eq_true rfl) (Nat.le_of_ble_eq_true rfl) [0, 1, 2, 3, 4, 5, 6, 7, 8, 9, 10, 11, 12, 13, 14, 15, 16, 17, 18, 19, 20] [21, 22, 23, 24, 25, 26, 27, 28, 29, 30, 31, 32, 33, 34, 35, 36, 37, 38, 39, 40, 41, 42, 43, 44] rfl rfl (by decide) (by decide) (by decide) ?_
      refine h_icmp_eq F (tgt := 443) dL_law_180 (by decide) (fun _ => ?_) (fun h => absurd rfl h)
      exact fin (s_Mt, S.2.1, S.2.2.1, S.2.2.2.1, S.2.2.2.2.1, S.2.2.2.2.2.1, S.2.2.2.2.2.2) m1 hR1
    by_cases w3 : v = 3
    · subst w3
      refine h_tableIn F (off := 153) (tgt := 185) dL_law_32 (by decide) (by decide) (by decide) (by decide) ?_
      refine h_aload_n F dL_law_185 1 rfl ?_
      obtain ⟨r, s_CommentWays, s_ReferenceWays, s_Source, s_TagWays, s_Tokens, m1, e1, e2, hR1⟩ := hops.2.2.2.1 S M hR
      refine h_vi F (As := []) (n := 0) (wc := Ws z ad1 cA S) (wr := Wo ad2 cA M) (w1 := Ws z ad1 cA (S.1, s_Source, s_Tokens, s_ReferenceWays, s_TagWays, s_CommentWays, S.2.2.2.2.2.2)) (r0 := r) (C := RX12) (ci := 0) (q0 := 0) (fun sz => c_Mt_run l D cA z ad1 S.1 S.2.1 S.2.2.1 S.2.2.2.1 S.2.2.2.2.1 S.2.2.2.2.2.1 S.2.2.2.2.2.2 e1 sz) mw_343 rfl rfl ⟨Nat.le_of_ble_eq_true rfl, Nat.le_of_ble_eq_true rfl⟩ rfl (Nat.le_of_ble_eq_true rfl) mw_340 mw_341 mw_342 mw_73 (by decide +kernel) rfl rfl rfl dL_law_186 (Nat.le_of_ble_eq_true rfl) (Nat.le_of_ble_eq_true rfl) [0, 1, 2, 3, 4, 5, 6, 7, 8, 9, 10, 11, 12, 13, 14, 15, 16, 17, 18, 19, 20, 21, 22, 23] [24, 25, 26, 27, 28, 29, 30, 31, 32, 33, 34, 35, 36, 37, 38, 39, 40, 41, 42, 43, 44] rfl rfl (by decide) (by decide) (by decide) ?_
      refine h_aload_n F dL_law_189 2 rfl ?_
      refine h_vi F (As := []) (n := 0) (wc := Wo ad2 cA M) (wr := Ws z ad1 cA (S.1, s_Source, s_Tokens, s_ReferenceWays, s_TagWays, s_CommentWays, S.2.2.2.2.2.2)) (w1 := Wo ad2 cA m1) (r0 := r) (C := RX13) (ci := 9) (q0 := 0) (fun sz => c_Mo_run l D cA z ad2 M e2 sz) mw_1220 rfl rfl ⟨Nat.le_of_ble_eq_true rfl, Nat.le_of_ble_eq_true rfl⟩ rfl (Nat.le_of_ble_eq_true rfl) mw_1217 mw_1218 mw_1219 mw_85 (by decide +kernel) rfl rfl rfl dL_law_190 (Nat.le_of_ble_eq_true rfl) (Nat.le_of_ble_eq_true rfl) [0, 1, 2, 3, 4, 5, 6, 7, 8, 9, 10, 11, 12, 13, 14, 15, 16, 17, 18, 19, 20] [21, 22, 23, 24, 25, 26, 27, 28, 29, 30, 31, 32, 33, 34, 35, 36, 37, 38, 39, 40, 41, 42, 43, 44] rfl rfl (by decide) (by decide) (by decide) ?_
      refine h_icmp_eq F (tgt := 443) dL_law_193 (by decide) (fun _ => ?_) (fun h => absurd rfl h)
      exact fin (S.1, s_Source, s_Tokens, s_ReferenceWays, s_TagWays, s_CommentWays, S.2.2.2.2.2.2) m1 hR1
    by_cases w4 : v = 4
    · subst w4
      refine h_tableIn F (off := 166) (tgt := 198) dL_law_32 (by decide) (by decide) (by decide) (by decide) ?_
      refine h_aload_n F dL_law_198 1 rfl ?_
      refine h_aload_n F dL_law_199 0 rfl ?_
      refine h_iload_n F dL_law_200 3 rfl ?_
      refine h_iconst F (v := 1) dL_law_201 (by decide) ?_
      refine h_iadd F dL_law_202 ?_
      refine h_sld F hX hbl hbA (law_in 1 (by decide) hk5 hL) dL_law_203 ?_
      refine h_aload_n F dL_law_204 0 rfl ?_
      refine h_iload_n F dL_law_205 3 rfl ?_
      refine h_iconst F (v := 2) dL_law_206 (by decide) ?_
      refine h_iadd F dL_law_207 ?_
      refine h_sld F hX hbl hbA (law_in 2 (by decide) hk5 hL) dL_law_208 ?_
      obtain ⟨r, e1, e2⟩ := hops.2.2.2.2.1 S M (xs (((nI k) + 1) : Int32).toNatClampNeg) (xs (((nI k) + 2) : Int32).toNatClampNeg) hR
      refine h_vi F (As := [.int (xs (((nI k) + 1) : Int32).toNatClampNeg), .int (xs (((nI k) + 2) : Int32).toNatClampNeg)]) (n := 2) (wc := Ws z ad1 cA S) (wr := Wo ad2 cA M) (w1 := Ws z ad1 cA S) (r0 := r) (C := RX12) (ci := 0) (q0 := 0) (fun sz => c_Mt_token l D cA z ad1 S.1 S.2.1 S.2.2.1 S.2.2.2.1 S.2.2.2.2.1 S.2.2.2.2.2.1 S.2.2.2.2.2.2 _ _ e1 sz) mw_883 rfl rfl ⟨Nat.le_of_ble_eq_true rfl, Nat.le_of_ble_eq_true rfl⟩ rfl (Nat.le_of_ble_eq_true rfl) mw_880 mw_881 mw_882 mw_73 (by decide +kernel) rfl rfl rfl dL_law_209 (Nat.le_of_ble_eq_true rfl) (Nat.le_of_ble_eq_true rfl) [0, 1, 2, 3, 4, 5, 6, 7, 8, 9, 10, 11, 12, 13, 14, 15, 16, 17, 18, 19, 20, 21, 22, 23] [24, 25, 26, 27, 28, 29, 30, 31, 32, 33, 34, 35, 36, 37, 38, 39, 40, 41, 42, 43, 44] rfl rfl (by decide) (by decide) (by decide) ?_
      refine h_aload_n F dL_law_212 2 rfl ?_
      refine h_aload_n F dL_law_213 0 rfl ?_
      refine h_iload_n F dL_law_214 3 rfl ?_
      refine h_iconst F (v := 1) dL_law_215 (by decide) ?_
      refine h_iadd F dL_law_216 ?_
      refine h_sld F hX hbl hbA (law_in 1 (by decide) hk5 hL) dL_law_217 ?_
      refine h_aload_n F dL_law_218 0 rfl ?_
      refine h_iload_n F dL_law_219 3 rfl ?_
      refine h_iconst F (v := 2) dL_law_220 (by decide) ?_
      refine h_iadd F dL_law_221 ?_
      refine h_sld F hX hbl hbA (law_in 2 (by decide) hk5 hL) dL_law_222 ?_
      refine h_vi F (As := [.int (xs (((nI k) + 1) : Int32).toNatClampNeg), .int (xs (((nI k) + 2) : Int32).toNatClampNeg)]) (n := 2) (wc := Wo ad2 cA M) (wr := Ws z ad1 cA S) (w1 := Wo ad2 cA M) (r0 := r) (C := RX13) (ci := 9) (q0 := 0) (fun sz => c_Mo_token l D cA z ad2 M _ _ e2 sz) mw_1380 rfl rfl ⟨Nat.le_of_ble_eq_true rfl, Nat.le_of_ble_eq_true rfl⟩ rfl (Nat.le_of_ble_eq_true rfl) mw_1377 mw_1378 mw_1379 mw_85 (by decide +kernel) rfl rfl rfl dL_law_223 (Nat.le_of_ble_eq_true rfl) (Nat.le_of_ble_eq_true rfl) [0, 1, 2, 3, 4, 5, 6, 7, 8, 9, 10, 11, 12, 13, 14, 15, 16, 17, 18, 19, 20] [21, 22, 23, 24, 25, 26, 27, 28, 29, 30, 31, 32, 33, 34, 35, 36, 37, 38, 39, 40, 41, 42, 43, 44] rfl rfl (by decide) (by decide) (by decide) ?_
      refine h_icmp_eq F (tgt := 443) dL_law_226 (by decide) (fun _ => ?_) (fun h => absurd rfl h)
      exact fin S M hR
    by_cases w5 : v = 5
    · subst w5
      refine h_tableIn F (off := 199) (tgt := 231) dL_law_32 (by decide) (by decide) (by decide) (by decide) ?_
      refine h_aload_n F dL_law_231 1 rfl ?_
      refine h_aload_n F dL_law_232 0 rfl ?_
      refine h_iload_n F dL_law_233 3 rfl ?_
      refine h_iconst F (v := 1) dL_law_234 (by decide) ?_
      refine h_iadd F dL_law_235 ?_
      refine h_sld F hX hbl hbA (law_in 1 (by decide) hk5 hL) dL_law_236 ?_
      refine h_aload_n F dL_law_237 0 rfl ?_
      refine h_iload_n F dL_law_238 3 rfl ?_
      refine h_iconst F (v := 2) dL_law_239 (by decide) ?_
      refine h_iadd F dL_law_240 ?_
      refine h_sld F hX hbl hbA (law_in 2 (by decide) hk5 hL) dL_law_241 ?_
      obtain ⟨r, e1, e2⟩ := hops.2.2.2.2.2.1 S M (xs (((nI k) + 1) : Int32).toNatClampNeg) (xs (((nI k) + 2) : Int32).toNatClampNeg) hR
      refine h_vi F (As := [.int (xs (((nI k) + 1) : Int32).toNatClampNeg), .int (xs (((nI k) + 2) : Int32).toNatClampNeg)]) (n := 2) (wc := Ws z ad1 cA S) (wr := Wo ad2 cA M) (w1 := Ws z ad1 cA S) (r0 := r) (C := RX12) (ci := 0) (q0 := 0) (fun sz => c_Mt_at l D cA z ad1 S.1 S.2.1 S.2.2.1 S.2.2.2.1 S.2.2.2.2.1 S.2.2.2.2.2.1 S.2.2.2.2.2.2 _ _ e1 sz) mw_907 rfl rfl ⟨Nat.le_of_ble_eq_true rfl, Nat.le_of_ble_eq_true rfl⟩ rfl (Nat.le_of_ble_eq_true rfl) mw_904 mw_905 mw_906 mw_73 (by decide +kernel) rfl rfl rfl dL_law_242 (Nat.le_of_ble_eq_true rfl) (Nat.le_of_ble_eq_true rfl) [0, 1, 2, 3, 4, 5, 6, 7, 8, 9, 10, 11, 12, 13, 14, 15, 16, 17, 18, 19, 20, 21, 22, 23] [24, 25, 26, 27, 28, 29, 30, 31, 32, 33, 34, 35, 36, 37, 38, 39, 40, 41, 42, 43, 44] rfl rfl (by decide) (by decide) (by decide) ?_
      refine h_aload_n F dL_law_245 2 rfl ?_
      refine h_aload_n F dL_law_246 0 rfl ?_
      refine h_iload_n F dL_law_247 3 rfl ?_
      refine h_iconst F (v := 1) dL_law_248 (by decide) ?_
      refine h_iadd F dL_law_249 ?_
      refine h_sld F hX hbl hbA (law_in 1 (by decide) hk5 hL) dL_law_250 ?_
      refine h_aload_n F dL_law_251 0 rfl ?_
      refine h_iload_n F dL_law_252 3 rfl ?_
      refine h_iconst F (v := 2) dL_law_253 (by decide) ?_
      refine h_iadd F dL_law_254 ?_
      refine h_sld F hX hbl hbA (law_in 2 (by decide) hk5 hL) dL_law_255 ?_
      refine h_vi F (As := [.int (xs (((nI k) + 1) : Int32).toNatClampNeg), .int (xs (((nI k) + 2) : Int32).toNatClampNeg)]) (n := 2) (wc := Wo ad2 cA M) (wr := Ws z ad1 cA S) (w1 := Wo ad2 cA M) (r0 := r) (C := RX13) (ci := 9) (q0 := 0) (fun sz => c_Mo_at l D cA z ad2 M _ _ e2 sz) mw_1384 rfl rfl ⟨Nat.le_of_ble_eq_true rfl, Nat.le_of_ble_eq_true rfl⟩ rfl (Nat.le_of_ble_eq_true rfl) mw_1381 mw_1382 mw_1383 mw_85 (by decide +kernel) rfl rfl rfl dL_law_256 (Nat.le_of_ble_eq_true rfl) (Nat.le_of_ble_eq_true rfl) [0, 1, 2, 3, 4, 5, 6, 7, 8, 9, 10, 11, 12, 13, 14, 15, 16, 17, 18, 19, 20] [21, 22, 23, 24, 25, 26, 27, 28, 29, 30, 31, 32, 33, 34, 35, 36, 37, 38, 39, 40, 41, 42, 43, 44] rfl rfl (by decide) (by decide) (by decide) ?_
      refine h_icmp_eq F (tgt := 443) dL_law_259 (by decide) (fun _ => ?_) (fun h => absurd rfl h)
      exact fin S M hR
    by_cases w6 : v = 6
    · subst w6
      refine h_tableIn F (off := 232) (tgt := 264) dL_law_32 (by decide) (by decide) (by decide) (by decide) ?_
      refine h_aload_n F dL_law_264 1 rfl ?_
      refine h_aload_n F dL_law_265 0 rfl ?_
      refine h_iload_n F dL_law_266 3 rfl ?_
      refine h_iconst F (v := 1) dL_law_267 (by decide) ?_
      refine h_iadd F dL_law_268 ?_
      refine h_sld F hX hbl hbA (law_in 1 (by decide) hk5 hL) dL_law_269 ?_
      refine h_aload_n F dL_law_270 0 rfl ?_
      refine h_iload_n F dL_law_271 3 rfl ?_
      refine h_iconst F (v := 2) dL_law_272 (by decide) ?_
      refine h_iadd F dL_law_273 ?_
      refine h_sld F hX hbl hbA (law_in 2 (by decide) hk5 hL) dL_law_274 ?_
      refine h_aload_n F dL_law_275 0 rfl ?_
      refine h_iload_n F dL_law_276 3 rfl ?_
      refine h_iconst F (v := 3) dL_law_277 (by decide) ?_
      refine h_iadd F dL_law_278 ?_
      refine h_sld F hX hbl hbA (law_in 3 (by decide) hk5 hL) dL_law_279 ?_
      obtain ⟨r, e1, e2⟩ := hops.2.2.2.2.2.2.1 S M (xs (((nI k) + 1) : Int32).toNatClampNeg) (xs (((nI k) + 2) : Int32).toNatClampNeg) (xs (((nI k) + 3) : Int32).toNatClampNeg) hR
      refine h_vi F (As := [.int (xs (((nI k) + 1) : Int32).toNatClampNeg), .int (xs (((nI k) + 2) : Int32).toNatClampNeg), .int (xs (((nI k) + 3) : Int32).toNatClampNeg)]) (n := 3) (wc := Ws z ad1 cA S) (wr := Wo ad2 cA M) (w1 := Ws z ad1 cA S) (r0 := r) (C := RX12) (ci := 0) (q0 := 0) (fun sz => c_Mt_size l D cA z ad1 S.1 S.2.1 S.2.2.1 S.2.2.2.1 S.2.2.2.2.1 S.2.2.2.2.2.1 S.2.2.2.2.2.2 _ _ _ e1 sz) mw_915 rfl rfl ⟨Nat.le_of_ble_eq_true rfl, Nat.le_of_ble_eq_true rfl⟩ rfl (Nat.le_of_ble_eq_true rfl) mw_912 mw_913 mw_914 mw_73 (by decide +kernel) rfl rfl rfl dL_law_280 (Nat.le_of_ble_eq_true rfl) (Nat.le_of_ble_eq_true rfl) [0, 1, 2, 3, 4, 5, 6, 7, 8, 9, 10, 11, 12, 13, 14, 15, 16, 17, 18, 19, 20, 21, 22, 23] [24, 25, 26, 27, 28, 29, 30, 31, 32, 33, 34, 35, 36, 37, 38, 39, 40, 41, 42, 43, 44] rfl rfl (by decide) (by decide) (by decide) ?_
      refine h_aload_n F dL_law_283 2 rfl ?_
      refine h_aload_n F dL_law_284 0 rfl ?_
      refine h_iload_n F dL_law_285 3 rfl ?_
      refine h_iconst F (v := 1) dL_law_286 (by decide) ?_
      refine h_iadd F dL_law_287 ?_
      refine h_sld F hX hbl hbA (law_in 1 (by decide) hk5 hL) dL_law_288 ?_
      refine h_aload_n F dL_law_289 0 rfl ?_
      refine h_iload_n F dL_law_290 3 rfl ?_
      refine h_iconst F (v := 2) dL_law_291 (by decide) ?_
      refine h_iadd F dL_law_292 ?_
      refine h_sld F hX hbl hbA (law_in 2 (by decide) hk5 hL) dL_law_293 ?_
      refine h_aload_n F dL_law_294 0 rfl ?_
      refine h_iload_n F dL_law_295 3 rfl ?_
      refine h_iconst F (v := 3) dL_law_296 (by decide) ?_
      refine h_iadd F dL_law_297 ?_
      refine h_sld F hX hbl hbA (law_in 3 (by decide) hk5 hL) dL_law_298 ?_
      refine h_vi F (As := [.int (xs (((nI k) + 1) : Int32).toNatClampNeg), .int (xs (((nI k) + 2) : Int32).toNatClampNeg), .int (xs (((nI k) + 3) : Int32).toNatClampNeg)]) (n := 3) (wc := Wo ad2 cA M) (wr := Ws z ad1 cA S) (w1 := Wo ad2 cA M) (r0 := r) (C := RX13) (ci := 9) (q0 := 0) (fun sz => c_Mo_size l D cA z ad2 M _ _ _ e2 sz) mw_1388 rfl rfl ⟨Nat.le_of_ble_eq_true rfl, Nat.le_of_ble_eq_true rfl⟩ rfl (Nat.le_of_ble_eq_true rfl) mw_1385 mw_1386 mw_1387 mw_85 (by decide +kernel) rfl rfl rfl dL_law_299 (Nat.le_of_ble_eq_true rfl) (Nat.le_of_ble_eq_true rfl) [0, 1, 2, 3, 4, 5, 6, 7, 8, 9, 10, 11, 12, 13, 14, 15, 16, 17, 18, 19, 20] [21, 22, 23, 24, 25, 26, 27, 28, 29, 30, 31, 32, 33, 34, 35, 36, 37, 38, 39, 40, 41, 42, 43, 44] rfl rfl (by decide) (by decide) (by decide) ?_
      refine h_icmp_eq F (tgt := 443) dL_law_302 (by decide) (fun _ => ?_) (fun h => absurd rfl h)
      exact fin S M hR
    by_cases w7 : v = 7
    · subst w7
      refine h_tableIn F (off := 275) (tgt := 307) dL_law_32 (by decide) (by decide) (by decide) (by decide) ?_
      refine h_aload_n F dL_law_307 1 rfl ?_
      refine h_aload_n F dL_law_308 0 rfl ?_
      refine h_iload_n F dL_law_309 3 rfl ?_
      refine h_iconst F (v := 1) dL_law_310 (by decide) ?_
      refine h_iadd F dL_law_311 ?_
      refine h_sld F hX hbl hbA (law_in 1 (by decide) hk5 hL) dL_law_312 ?_
      refine h_aload_n F dL_law_313 0 rfl ?_
      refine h_iload_n F dL_law_314 3 rfl ?_
      refine h_iconst F (v := 2) dL_law_315 (by decide) ?_
      refine h_iadd F dL_law_316 ?_
      refine h_sld F hX hbl hbA (law_in 2 (by decide) hk5 hL) dL_law_317 ?_
      refine h_aload_n F dL_law_318 0 rfl ?_
      refine h_iload_n F dL_law_319 3 rfl ?_
      refine h_iconst F (v := 3) dL_law_320 (by decide) ?_
      refine h_iadd F dL_law_321 ?_
      refine h_sld F hX hbl hbA (law_in 3 (by decide) hk5 hL) dL_law_322 ?_
      refine h_aload_n F dL_law_323 0 rfl ?_
      refine h_iload_n F dL_law_324 3 rfl ?_
      refine h_iconst F (v := 4) dL_law_325 (by decide) ?_
      refine h_iadd F dL_law_326 ?_
      refine h_sld F hX hbl hbA (law_in 4 (by decide) hk5 hL) dL_law_327 ?_
      obtain ⟨r, e1, e2⟩ := hops.2.2.2.2.2.2.2.1 S M (xs (((nI k) + 1) : Int32).toNatClampNeg) (xs (((nI k) + 2) : Int32).toNatClampNeg) (xs (((nI k) + 3) : Int32).toNatClampNeg) (xs (((nI k) + 4) : Int32).toNatClampNeg) hR
      refine h_vi F (As := [.int (xs (((nI k) + 1) : Int32).toNatClampNeg), .int (xs (((nI k) + 2) : Int32).toNatClampNeg), .int (xs (((nI k) + 3) : Int32).toNatClampNeg), .int (xs (((nI k) + 4) : Int32).toNatClampNeg)]) (n := 4) (wc := Ws z ad1 cA S) (wr := Wo ad2 cA M) (w1 := Ws z ad1 cA S) (r0 := r) (C := RX12) (ci := 0) (q0 := 0) (fun sz => c_Mt_part l D cA z ad1 S.1 S.2.1 S.2.2.1 S.2.2.2.1 S.2.2.2.2.1 S.2.2.2.2.2.1 S.2.2.2.2.2.2 _ _ _ _ e1 sz) mw_932 rfl rfl ⟨Nat.le_of_ble_eq_true rfl, Nat.le_of_ble_eq_true rfl⟩ rfl (Nat.le_of_ble_eq_true rfl) mw_929 mw_930 mw_931 mw_73 (by decide +kernel) rfl rfl rfl dL_law_328 (Nat.le_of_ble_eq_true rfl) (Nat.le_of_ble_eq_true rfl) [0, 1, 2, 3, 4, 5, 6, 7, 8, 9, 10, 11, 12, 13, 14, 15, 16, 17, 18, 19, 20, 21, 22, 23] [24, 25, 26, 27, 28, 29, 30, 31, 32, 33, 34, 35, 36, 37, 38, 39, 40, 41, 42, 43, 44] rfl rfl (by decide) (by decide) (by decide) ?_
      refine h_aload_n F dL_law_331 2 rfl ?_
      refine h_aload_n F dL_law_332 0 rfl ?_
      refine h_iload_n F dL_law_333 3 rfl ?_
      refine h_iconst F (v := 1) dL_law_334 (by decide) ?_
      refine h_iadd F dL_law_335 ?_
      refine h_sld F hX hbl hbA (law_in 1 (by decide) hk5 hL) dL_law_336 ?_
      refine h_aload_n F dL_law_337 0 rfl ?_
      refine h_iload_n F dL_law_338 3 rfl ?_
      refine h_iconst F (v := 2) dL_law_339 (by decide) ?_
      refine h_iadd F dL_law_340 ?_
      refine h_sld F hX hbl hbA (law_in 2 (by decide) hk5 hL) dL_law_341 ?_
      refine h_aload_n F dL_law_342 0 rfl ?_
      refine h_iload_n F dL_law_343 3 rfl ?_
      refine h_iconst F (v := 3) dL_law_344 (by decide) ?_
      refine h_iadd F dL_law_345 ?_
      refine h_sld F hX hbl hbA (law_in 3 (by decide) hk5 hL) dL_law_346 ?_
      refine h_aload_n F dL_law_347 0 rfl ?_
      refine h_iload_n F dL_law_348 3 rfl ?_
      refine h_iconst F (v := 4) dL_law_349 (by decide) ?_
      refine h_iadd F dL_law_350 ?_
      refine h_sld F hX hbl hbA (law_in 4 (by decide) hk5 hL) dL_law_351 ?_
      refine h_vi F (As := [.int (xs (((nI k) + 1) : Int32).toNatClampNeg), .int (xs (((nI k) + 2) : Int32).toNatClampNeg), .int (xs (((nI k) + 3) : Int32).toNatClampNeg), .int (xs (((nI k) + 4) : Int32).toNatClampNeg)]) (n := 4) (wc := Wo ad2 cA M) (wr := Ws z ad1 cA S) (w1 := Wo ad2 cA M) (r0 := r) (C := RX13) (ci := 9) (q0 := 0) (fun sz => c_Mo_part l D cA z ad2 M _ _ _ _ e2 sz) mw_1396 rfl rfl ⟨Nat.le_of_ble_eq_true rfl, Nat.le_of_ble_eq_true rfl⟩ rfl (Nat.le_of_ble_eq_true rfl) mw_1393 mw_1394 mw_1395 mw_85 (by decide +kernel) rfl rfl rfl dL_law_352 (Nat.le_of_ble_eq_true rfl) (Nat.le_of_ble_eq_true rfl) [0, 1, 2, 3, 4, 5, 6, 7, 8, 9, 10, 11, 12, 13, 14, 15, 16, 17, 18, 19, 20] [21, 22, 23, 24, 25, 26, 27, 28, 29, 30, 31, 32, 33, 34, 35, 36, 37, 38, 39, 40, 41, 42, 43, 44] rfl rfl (by decide) (by decide) (by decide) ?_
      refine h_icmp_eq F (tgt := 443) dL_law_355 (by decide) (fun _ => ?_) (fun h => absurd rfl h)
      exact fin S M hR
    by_cases w8 : v = 8
    · subst w8
      refine h_tableIn F (off := 328) (tgt := 360) dL_law_32 (by decide) (by decide) (by decide) (by decide) ?_
      refine h_aload_n F dL_law_360 1 rfl ?_
      obtain ⟨r, e1, e2⟩ := hops.2.2.2.2.2.2.2.2.1 S M hR
      refine h_vi F (As := []) (n := 0) (wc := Ws z ad1 cA S) (wr := Wo ad2 cA M) (w1 := Ws z ad1 cA S) (r0 := r) (C := RX12) (ci := 0) (q0 := 0) (fun sz => c_Mt_faults l D cA z ad1 S.1 S.2.1 S.2.2.1 S.2.2.2.1 S.2.2.2.2.1 S.2.2.2.2.2.1 S.2.2.2.2.2.2 e1 sz) mw_945 rfl rfl ⟨Nat.le_of_ble_eq_true rfl, Nat.le_of_ble_eq_true rfl⟩ rfl (Nat.le_of_ble_eq_true rfl) mw_942 mw_943 mw_944 mw_73 (by decide +kernel) rfl rfl rfl dL_law_361 (Nat.le_of_ble_eq_true rfl) (Nat.le_of_ble_eq_true rfl) [0, 1, 2, 3, 4, 5, 6, 7, 8, 9, 10, 11, 12, 13, 14, 15, 16, 17, 18, 19, 20, 21, 22, 23] [24, 25, 26, 27, 28, 29, 30, 31, 32, 33, 34, 35, 36, 37, 38, 39, 40, 41, 42, 43, 44] rfl rfl (by decide) (by decide) (by decide) ?_
      refine h_aload_n F dL_law_364 2 rfl ?_
      refine h_vi F (As := []) (n := 0) (wc := Wo ad2 cA M) (wr := Ws z ad1 cA S) (w1 := Wo ad2 cA M) (r0 := r) (C := RX13) (ci := 9) (q0 := 0) (fun sz => c_Mo_faults l D cA z ad2 M e2 sz) mw_1401 rfl rfl ⟨Nat.le_of_ble_eq_true rfl, Nat.le_of_ble_eq_true rfl⟩ rfl (Nat.le_of_ble_eq_true rfl) mw_1398 mw_1399 mw_1400 mw_85 (by decide +kernel) rfl rfl rfl dL_law_365 (Nat.le_of_ble_eq_true rfl) (Nat.le_of_ble_eq_true rfl) [0, 1, 2, 3, 4, 5, 6, 7, 8, 9, 10, 11, 12, 13, 14, 15, 16, 17, 18, 19, 20] [21, 22, 23, 24, 25, 26, 27, 28, 29, 30, 31, 32, 33, 34, 35, 36, 37, 38, 39, 40, 41, 42, 43, 44] rfl rfl (by decide) (by decide) (by decide) ?_
      refine h_icmp_eq F (tgt := 443) dL_law_368 (by decide) (fun _ => ?_) (fun h => absurd rfl h)
      exact fin S M hR
    by_cases w9 : v = 9
    · subst w9
      refine h_tableIn F (off := 341) (tgt := 373) dL_law_32 (by decide) (by decide) (by decide) (by decide) ?_
      refine h_aload_n F dL_law_373 1 rfl ?_
      refine h_aload_n F dL_law_374 0 rfl ?_
      refine h_iload_n F dL_law_375 3 rfl ?_
      refine h_iconst F (v := 1) dL_law_376 (by decide) ?_
      refine h_iadd F dL_law_377 ?_
      refine h_sld F hX hbl hbA (law_in 1 (by decide) hk5 hL) dL_law_378 ?_
      refine h_aload_n F dL_law_379 0 rfl ?_
      refine h_iload_n F dL_law_380 3 rfl ?_
      refine h_iconst F (v := 2) dL_law_381 (by decide) ?_
      refine h_iadd F dL_law_382 ?_
      refine h_sld F hX hbl hbA (law_in 2 (by decide) hk5 hL) dL_law_383 ?_
      obtain ⟨r, e1, e2⟩ := hops.2.2.2.2.2.2.2.2.2.1 S M (xs (((nI k) + 1) : Int32).toNatClampNeg) (xs (((nI k) + 2) : Int32).toNatClampNeg) hR
      refine h_vi F (As := [.int (xs (((nI k) + 1) : Int32).toNatClampNeg), .int (xs (((nI k) + 2) : Int32).toNatClampNeg)]) (n := 2) (wc := Ws z ad1 cA S) (wr := Wo ad2 cA M) (w1 := Ws z ad1 cA S) (r0 := r) (C := RX12) (ci := 0) (q0 := 0) (fun sz => c_Mt_fault l D cA z ad1 S.1 S.2.1 S.2.2.1 S.2.2.2.1 S.2.2.2.2.1 S.2.2.2.2.2.1 S.2.2.2.2.2.2 _ _ e1 sz) mw_953 rfl rfl ⟨Nat.le_of_ble_eq_true rfl, Nat.le_of_ble_eq_true rfl⟩ rfl (Nat.le_of_ble_eq_true rfl) mw_950 mw_951 mw_952 mw_73 (by decide +kernel) rfl rfl rfl dL_law_384 (Nat.le_of_ble_eq_true rfl) (Nat.le_of_ble_eq_true rfl) [0, 1, 2, 3, 4, 5, 6, 7, 8, 9, 10, 11, 12, 13, 14, 15, 16, 17, 18, 19, 20, 21, 22, 23] [24, 25, 26, 27, 28, 29, 30, 31, 32, 33, 34, 35, 36, 37, 38, 39, 40, 41, 42, 43, 44] rfl rfl (by decide) (by decide) (by decide) ?_
      refine h_aload_n F dL_law_387 2 rfl ?_
      refine h_aload_n F dL_law_388 0 rfl ?_
      refine h_iload_n F dL_law_389 3 rfl ?_
      refine h_iconst F (v := 1) dL_law_390 (by decide) ?_
      refine h_iadd F dL_law_391 ?_
      refine h_sld F hX hbl hbA (law_in 1 (by decide) hk5 hL) dL_law_392 ?_
      refine h_aload_n F dL_law_393 0 rfl ?_
      refine h_iload_n F dL_law_394 3 rfl ?_
      refine h_iconst F (v := 2) dL_law_395 (by decide) ?_
      refine h_iadd F dL_law_396 ?_
      refine h_sld F hX hbl hbA (law_in 2 (by decide) hk5 hL) dL_law_397 ?_
      refine h_vi F (As := [.int (xs (((nI k) + 1) : Int32).toNatClampNeg), .int (xs (((nI k) + 2) : Int32).toNatClampNeg)]) (n := 2) (wc := Wo ad2 cA M) (wr := Ws z ad1 cA S) (w1 := Wo ad2 cA M) (r0 := r) (C := RX13) (ci := 9) (q0 := 0) (fun sz => c_Mo_fault l D cA z ad2 M _ _ e2 sz) mw_1405 rfl rfl ⟨Nat.le_of_ble_eq_true rfl, Nat.le_of_ble_eq_true rfl⟩ rfl (Nat.le_of_ble_eq_true rfl) mw_1402 mw_1403 mw_1404 mw_85 (by decide +kernel) rfl rfl rfl dL_law_398 (Nat.le_of_ble_eq_true rfl) (Nat.le_of_ble_eq_true rfl) [0, 1, 2, 3, 4, 5, 6, 7, 8, 9, 10, 11, 12, 13, 14, 15, 16, 17, 18, 19, 20] [21, 22, 23, 24, 25, 26, 27, 28, 29, 30, 31, 32, 33, 34, 35, 36, 37, 38, 39, 40, 41, 42, 43, 44] rfl rfl (by decide) (by decide) (by decide) ?_
      refine h_icmp_eq F (tgt := 443) dL_law_401 (by decide) (fun _ => ?_) (fun h => absurd rfl h)
      exact fin S M hR
    by_cases w10 : v = 10
    · subst w10
      refine h_tableIn F (off := 374) (tgt := 406) dL_law_32 (by decide) (by decide) (by decide) (by decide) ?_
      refine h_aload_n F dL_law_406 1 rfl ?_
      obtain ⟨r, s_Out, m1, e1, e2, hR1⟩ := hops.2.2.2.2.2.2.2.2.2.2.1 S M hR
      refine h_vi F (As := []) (n := 0) (wc := Ws z ad1 cA S) (wr := Wo ad2 cA M) (w1 := Ws z ad1 cA (S.1, S.2.1, S.2.2.1, S.2.2.2.1, S.2.2.2.2.1, S.2.2.2.2.2.1, s_Out)) (r0 := r) (C := RX12) (ci := 0) (q0 := 0) (fun sz => c_Mt_write l D cA z ad1 S.1 S.2.1 S.2.2.1 S.2.2.2.1 S.2.2.2.2.1 S.2.2.2.2.2.1 S.2.2.2.2.2.2 e1 sz) mw_965 rfl rfl ⟨Nat.le_of_ble_eq_true rfl, Nat.le_of_ble_eq_true rfl⟩ rfl (Nat.le_of_ble_eq_true rfl) mw_962 mw_963 mw_964 mw_73 (by decide +kernel) rfl rfl rfl dL_law_407 (Nat.le_of_ble_eq_true rfl) (Nat.le_of_ble_eq_true rfl) [0, 1, 2, 3, 4, 5, 6, 7, 8, 9, 10, 11, 12, 13, 14, 15, 16, 17, 18, 19, 20, 21, 22, 23] [24, 25, 26, 27, 28, 29, 30, 31, 32, 33, 34, 35, 36, 37, 38, 39, 40, 41, 42, 43, 44] rfl rfl (by decide) (by decide) (by decide) ?_
      refine h_aload_n F dL_law_410 2 rfl ?_
      refine h_vi F (As := []) (n := 0) (wc := Wo ad2 cA M) (wr := Ws z ad1 cA (S.1, S.2.1, S.2.2.1, S.2.2.2.1, S.2.2.2.2.1, S.2.2.2.2.2.1, s_Out)) (w1 := Wo ad2 cA m1) (r0 := r) (C := RX13) (ci := 9) (q0 := 0) (fun sz => c_Mo_write l D cA z ad2 M e2 sz) mw_1409 rfl rfl ⟨Nat.le_of_ble_eq_true rfl, Nat.le_of_ble_eq_true rfl⟩ rfl (Nat.le_of_ble_eq_true rfl) mw_1406 mw_1407 mw_1408 mw_85 (by decide +kernel) rfl rfl rfl dL_law_411 (Nat.le_of_ble_eq_true rfl) (Nat.le_of_ble_eq_true rfl) [0, 1, 2, 3, 4, 5, 6, 7, 8, 9, 10, 11, 12, 13, 14, 15, 16, 17, 18, 19, 20] [21, 22, 23, 24, 25, 26, 27, 28, 29, 30, 31, 32, 33, 34, 35, 36, 37, 38, 39, 40, 41, 42, 43, 44] rfl rfl (by decide) (by decide) (by decide) ?_
      refine h_icmp_eq F (tgt := 443) dL_law_414 (by decide) (fun _ => ?_) (fun h => absurd rfl h)
      exact fin (S.1, S.2.1, S.2.2.1, S.2.2.2.1, S.2.2.2.2.1, S.2.2.2.2.2.1, s_Out) m1 hR1
    by_cases w11 : v = 11
    · subst w11
      refine h_tableIn F (off := 387) (tgt := 419) dL_law_32 (by decide) (by decide) (by decide) (by decide) ?_
      refine h_aload_n F dL_law_419 1 rfl ?_
      refine h_aload_n F dL_law_420 0 rfl ?_
      refine h_iload_n F dL_law_421 3 rfl ?_
      refine h_iconst F (v := 1) dL_law_422 (by decide) ?_
      refine h_iadd F dL_law_423 ?_
      refine h_sld F hX hbl hbA (law_in 1 (by decide) hk5 hL) dL_law_424 ?_
      obtain ⟨r, e1, e2⟩ := hops.2.2.2.2.2.2.2.2.2.2.2 S M (xs (((nI k) + 1) : Int32).toNatClampNeg) hR
      refine h_vl F (As := [.int (xs (((nI k) + 1) : Int32).toNatClampNeg)]) (n := 1) (wc := Ws z ad1 cA S) (wr := Wo ad2 cA M) (w1 := Ws z ad1 cA S) (r0 := r) (C := RX12) (ci := 0) (q0 := 0) (fun sz => c_Mt_word l D cA z ad1 S.1 S.2.1 S.2.2.1 S.2.2.2.1 S.2.2.2.2.1 S.2.2.2.2.2.1 S.2.2.2.2.2.2 _ e1 sz) mw_1040 rfl rfl ⟨Nat.le_of_ble_eq_true rfl, Nat.le_of_ble_eq_true rfl⟩ rfl (Nat.le_of_ble_eq_true rfl) mw_1037 mw_1038 mw_1039 mw_73 (by decide +kernel) rfl rfl rfl dL_law_425 (Nat.le_of_ble_eq_true rfl) (Nat.le_of_ble_eq_true rfl) [0, 1, 2, 3, 4, 5, 6, 7, 8, 9, 10, 11, 12, 13, 14, 15, 16, 17, 18, 19, 20, 21, 22, 23] [24, 25, 26, 27, 28, 29, 30, 31, 32, 33, 34, 35, 36, 37, 38, 39, 40, 41, 42, 43, 44] rfl rfl (by decide) (by decide) (by decide) ?_
      refine h_aload_n F dL_law_428 2 rfl ?_
      refine h_aload_n F dL_law_429 0 rfl ?_
      refine h_iload_n F dL_law_430 3 rfl ?_
      refine h_iconst F (v := 1) dL_law_431 (by decide) ?_
      refine h_iadd F dL_law_432 ?_
      refine h_sld F hX hbl hbA (law_in 1 (by decide) hk5 hL) dL_law_433 ?_
      refine h_vl F (As := [.int (xs (((nI k) + 1) : Int32).toNatClampNeg)]) (n := 1) (wc := Wo ad2 cA M) (wr := Ws z ad1 cA S) (w1 := Wo ad2 cA M) (r0 := r) (C := RX13) (ci := 9) (q0 := 0) (fun sz => c_Mo_word l D cA z ad2 M _ e2 sz) mw_1449 rfl rfl ⟨Nat.le_of_ble_eq_true rfl, Nat.le_of_ble_eq_true rfl⟩ rfl (Nat.le_of_ble_eq_true rfl) mw_1446 mw_1447 mw_1448 mw_85 (by decide +kernel) rfl rfl rfl dL_law_434 (Nat.le_of_ble_eq_true rfl) (Nat.le_of_ble_eq_true rfl) [0, 1, 2, 3, 4, 5, 6, 7, 8, 9, 10, 11, 12, 13, 14, 15, 16, 17, 18, 19, 20] [21, 22, 23, 24, 25, 26, 27, 28, 29, 30, 31, 32, 33, 34, 35, 36, 37, 38, 39, 40, 41, 42, 43, 44] rfl rfl (by decide) (by decide) (by decide) ?_
      refine h_lcmp F dL_law_437 ?_
      refine h_if_eq F (tgt := 443) dL_law_438 (by decide) (fun _ => ?_) (fun h => absurd (lg_cmp_self r) h)
      exact fin S M hR
    refine h_tableOut F (tgt := 443) dL_law_32 (tsw (x := v) (fun k h1 h2 e => by
        have h3 : k.toInt = 0 ∨ k.toInt = 1 ∨ k.toInt = 2 ∨ k.toInt = 3 ∨ k.toInt = 4 ∨ k.toInt = 5 ∨ k.toInt = 6 ∨ k.toInt = 7 ∨ k.toInt = 8 ∨ k.toInt = 9 ∨ k.toInt = 10 ∨ k.toInt = 11 := by omega
        rcases h3 with h3 | h3 | h3 | h3 | h3 | h3 | h3 | h3 | h3 | h3 | h3 | h3
        · exact w0 (e.trans (Int32.toInt_inj.mp (h3.trans (by decide))))
        · exact w1 (e.trans (Int32.toInt_inj.mp (h3.trans (by decide))))
        · exact w2 (e.trans (Int32.toInt_inj.mp (h3.trans (by decide))))
        · exact w3 (e.trans (Int32.toInt_inj.mp (h3.trans (by decide))))
        · exact w4 (e.trans (Int32.toInt_inj.mp (h3.trans (by decide))))
        · exact w5 (e.trans (Int32.toInt_inj.mp (h3.trans (by decide))))
        · exact w6 (e.trans (Int32.toInt_inj.mp (h3.trans (by decide))))
        · exact w7 (e.trans (Int32.toInt_inj.mp (h3.trans (by decide))))
        · exact w8 (e.trans (Int32.toInt_inj.mp (h3.trans (by decide))))
        · exact w9 (e.trans (Int32.toInt_inj.mp (h3.trans (by decide))))
        · exact w10 (e.trans (Int32.toInt_inj.mp (h3.trans (by decide))))
        · exact w11 (e.trans (Int32.toInt_inj.mp (h3.trans (by decide)))))) (by decide) ?_
    exact fin S M hR
