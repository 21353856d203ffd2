theorem fit_nar (x : Int32) : fits .byte (.int (vp_nar .byte x)) = true := by
  rw [vp_nar_byte]
  have h1 := Int8.le_toInt x.toInt8
  have h2 := Int8.toInt_lt x.toInt8
  have h3 : (x.toInt8.toInt32).toInt = x.toInt8.toInt := Int8.toInt_toInt32 x.toInt8
  simp only [fits, Bool.and_eq_true, decide_eq_true_eq]
  rw [Int32.le_iff_toInt_le, Int32.le_iff_toInt_le, h3, show (-128 : Int32).toInt = -128 from rfl, show (127 : Int32).toInt = 127 from rfl]
  omega
theorem fit_b {v : Int32} (h : fits .byte (.int v) = true) : -128 ≤ v.toInt ∧ v.toInt ≤ 127 := by
  simp only [fits, Bool.and_eq_true, decide_eq_true_eq] at h
  rw [Int32.le_iff_toInt_le, Int32.le_iff_toInt_le, show (-128 : Int32).toInt = -128 from rfl, show (127 : Int32).toInt = 127 from rfl] at h
  exact h
theorem nar_fit {v : Int32} (h : fits .byte (.int v) = true) : vp_nar .byte v = v := by
  have hb := fit_b h
  rw [vp_nar_byte]
  apply Int32.toInt_inj.mp
  rw [Int8.toInt_toInt32, Int32.toInt_toInt8]
  unfold Int.bmod
  simp only []
  split <;> omega
theorem upd_same (f : Nat → Int32) (k : Nat) (x : Int32) : upd f k x k = x := by simp [upd]
theorem upd_ne (f : Nat → Int32) {k j : Nat} (x : Int32) (h : j ≠ k) : upd f k x j = f j := by simp [upd, h]
theorem feed_loop (v : Int64) {t m : Nat} (hm : t + m ≤ 400) : ∀ (d k n1 n2 : Nat) (s : SMt) (M : SMo), k + d = m → d < n1 → d < n2 → q_Mt_textLength s = nI t → q_Mo_size M = nI (t + k) → (∀ j, j < t + k → q_Mt_text s j = q_Mo_bytes M j ∧ fits .byte (.int (q_Mt_text s j)) = true) →
    ∃ (s' : SMt) (x : Int32) (y : Nat → Int32), f_Mt_feed_31 n1 v (nI m) (nI k) s = some (nI (t + m), s') ∧ f_Mo_feed_31 n2 v (nI m) (nI k) M = some (nI (t + m), u_Mo_size_bytes M x y) ∧ q_Mt_textLength s' = nI (t + m) ∧ x = nI (t + m) ∧ ∀ j, j < t + m → q_Mt_text s' j = y j ∧ fits .byte (.int (q_Mt_text s' j)) = true := by
  intro d
  induction d with
  | zero =>
    intro k n1 n2 s M hk h1 h2 ht hs hA
    obtain ⟨n1, rfl⟩ : ∃ q, n1 = q + 1 := ⟨n1 - 1, by omega⟩
    obtain ⟨n2, rfl⟩ : ∃ q, n2 = q + 1 := ⟨n2 - 1, by omega⟩
    have hkm : k = m := by omega
    subst hkm
    refine ⟨u_Mt_textLength s (nI (t + k)), q_Mo_size M, q_Mo_bytes M, ?_, ?_, rfl, hs, hA⟩
    · unfold f_Mt_feed_31
      rw [if_pos (nI_le (Nat.le_refl k) (by omega)), ht, nI_add]
    · unfold f_Mo_feed_31
      have e9 : u_Mo_size_bytes M (q_Mo_size M) (q_Mo_bytes M) = M := rfl
      rw [if_pos (nI_le (Nat.le_refl k) (by omega)), e9, hs]
  | succ d ih =>
    intro k n1 n2 s M hk h1 h2 ht hs hA
    obtain ⟨n1, rfl⟩ : ∃ q, n1 = q + 1 := ⟨n1 - 1, by omega⟩
    obtain ⟨n2, rfl⟩ : ∃ q, n2 = q + 1 := ⟨n2 - 1, by omega⟩
    have x1 : ix (nI (t + k)) 400 := ixI (by omega) (by omega)
    unfold f_Mt_feed_31 f_Mo_feed_31
    rw [if_neg (nI_ge (show k < m by omega) (by omega)), if_neg (nI_ge (show k < m by omega) (by omega)), ht, hs, nI_add, if_pos x1, if_pos x1, nI_clamp (by omega), nI_1, nI_1]
    obtain ⟨s', x, y, e1, e2, e3, e4, e5⟩ := ih (k + 1) n1 n2 (u_Mt_text s (upd (q_Mt_text s) (t + k) (vp_nar .byte (((v >>> (((8 * nI k) : Int32).toInt64 &&& 63)) : Int64).toInt32 : Int32).toInt8.toInt32))) (u_Mo_size_bytes M (nI (t + k + 1)) (upd (q_Mo_bytes M) (t + k) (vp_nar .byte (((v >>> (((8 * nI k) : Int32).toInt64 &&& 63)) : Int64).toInt32 : Int32).toInt8.toInt32))) (by omega) (by omega) (by omega) ht rfl (fun j hj => by
      show upd (q_Mt_text s) (t + k) _ j = upd (q_Mo_bytes M) (t + k) _ j ∧ fits .byte (.int (upd (q_Mt_text s) (t + k) _ j)) = true
      by_cases hjk : j = t + k
      · subst hjk
        rw [upd_same, upd_same]
        exact ⟨rfl, fit_nar _⟩
      · rw [upd_ne _ _ hjk, upd_ne _ _ hjk]
        exact hA j (by omega))
    exact ⟨s', x, y, e1, e2, e3, e4, e5⟩
theorem op_feed : Op_feed RelS := by
  intro S M a b h
  have hall := h
  obtain ⟨⟨n, h1, h2, h3, h4⟩, hr⟩ := h
  unfold f_Mt_feed f_Mo_feed
  rw [h2, h3]
  by_cases b1 : b < 1
  · exact ⟨-1, S.1, M, by rw [if_pos b1], by rw [if_pos b1], hall⟩
  by_cases b8 : b ≤ 8
  · have bn : ¬ b < 0 := fun h => b1 (by
      rw [Int32.lt_iff_toInt_lt, show (0 : Int32).toInt = 0 from rfl] at h
      rw [Int32.lt_iff_toInt_lt, show (1 : Int32).toInt = 1 from rfl]; omega)
    obtain ⟨m, hm, rfl⟩ := nI_of bn
    have hm8 : m ≤ 8 := (nI_leI hm (by decide)).mp b8
    rw [if_neg b1, if_pos b8, if_neg b1, if_pos b8, nI_add]
    by_cases hf : n + m ≤ 400
    · rw [if_pos (show nI (n + m) ≤ 400 from nI_le hf (by decide)), if_pos (show nI (n + m) ≤ 400 from nI_le hf (by decide))]
      obtain ⟨s', x, y, e1, e2, e3, e4, e5⟩ := feed_loop a hf m 0 FU FU S.1 M (by omega) (by unfold FU; omega) (by unfold FU; omega) h2 h3 h4
      exact ⟨nI (n + m), s', u_Mo_size_bytes M x y, e1, e2, ⟨n + m, hf, e3, e4, e5⟩, hr⟩
    · have e1 : ¬ nI (n + m) ≤ 400 := nI_ge (a := 400) (by omega) (by omega)
      rw [if_neg e1, if_neg e1]
      exact ⟨-2, S.1, M, rfl, rfl, hall⟩
  · exact ⟨-1, S.1, M, by rw [if_neg b1, if_neg b8], by rw [if_neg b1, if_neg b8], hall⟩
theorem again_loop {n : Nat} (hn : n ≤ 400) : ∀ (d k f : Nat) (M : SMo), k + d = n → d < f → q_Mo_outSize M = nI n → (∀ j, j < n → fits .byte (.int (q_Mo_out M j)) = true) → (∀ j, j < k → q_Mo_bytes M j = q_Mo_out M j) →
    ∃ (x : Int32) (y : Nat → Int32), f_Mo_again_15 f (nI k) M = some (nI n, u_Mo_size_bytes M x y) ∧ x = nI n ∧ ∀ j, j < n → y j = q_Mo_out M j := by
  intro d
  induction d with
  | zero =>
    intro k f M hk h1 ho hF hA
    obtain ⟨f, rfl⟩ : ∃ q, f = q + 1 := ⟨f - 1, by omega⟩
    have hkn : k = n := by omega
    subst hkn
    refine ⟨nI k, q_Mo_bytes M, ?_, rfl, hA⟩
    unfold f_Mo_again_15
    rw [ho, if_pos (nI_le (Nat.le_refl k) (by omega))]
  | succ d ih =>
    intro k f M hk h1 ho hF hA
    obtain ⟨f, rfl⟩ : ∃ q, f = q + 1 := ⟨f - 1, by omega⟩
    have x1 : ix (nI k) 400 := ixI (by omega) (by omega)
    have x2 : ix (nI k) 4000 := ixI (by omega) (by omega)
    unfold f_Mo_again_15
    rw [ho, if_neg (nI_ge (show k < n by omega) (by omega)), if_pos x2, if_pos x1, nI_clamp (by omega), nar_fit (hF k (by omega)), nI_1]
    obtain ⟨x, y, e1, e2, e3⟩ := ih (k + 1) f (u_Mo_bytes M (upd (q_Mo_bytes M) k (q_Mo_out M k))) (by omega) (by omega) ho hF (fun j hj => by
      show upd (q_Mo_bytes M) k (q_Mo_out M k) j = q_Mo_out M j
      by_cases hjk : j = k
      · subst hjk; rw [upd_same]
      · rw [upd_ne _ _ hjk]; exact hA j (by omega))
    exact ⟨x, y, e1, e2, e3⟩
theorem op_again : Op_again RelS := by
  intro S M h
  have hall := h
  obtain ⟨⟨n, h1, h2, h3, h4⟩, hF, hT, ⟨o, o1, o2, o3, o4⟩, hc⟩ := h
  unfold f_Mt_again f_Mo_again f_Out_copyTo f_Out_length
  rw [o2, o3]
  by_cases ho : o ≤ 400
  · have e9 : ¬ (400 : Int32) < nI o := nI_nlt (a := 400) ho (by decide)
    obtain ⟨x, y, e1, e2, e3⟩ := again_loop ho o 0 FU M (by omega) (by unfold FU; omega) o3 (fun j hj => by rw [← (o4 j hj).1]; exact (o4 j hj).2) (fun j hj => absurd hj (Nat.not_lt_zero j))
    rw [if_pos (show nI o ≤ 400 from nI_le ho (by decide)), if_pos (show nI o ≤ 400 from nI_le ho (by decide)), if_neg e9, nI_clamp (by omega)]
    refine ⟨nI o, u_Mt_textLength (u_Mt_text S.1 (va_cpy (q_Out_bytes S.2.2.2.2.2.2) (q_Mt_text S.1) (0 : Int32).toNatClampNeg (0 : Int32).toNatClampNeg o)) (nI o), u_Mo_size_bytes M x y, ?_, e1, ⟨o, ho, rfl, e2, ?_⟩, hF, hT, ⟨o, o1, o2, o3, o4⟩, hc⟩
    · rw [if_pos ⟨nI_pos (by omega), ho, fun i hi => by rw [Nat.zero_add]; exact (o4 i hi).2⟩, Option.bind_some]
    · intro k hk
      show va_cpy (q_Out_bytes S.2.2.2.2.2.2) (q_Mt_text S.1) 0 0 o k = y k ∧ fits .byte (.int (va_cpy (q_Out_bytes S.2.2.2.2.2.2) (q_Mt_text S.1) 0 0 o k)) = true
      have e5 : va_cpy (q_Out_bytes S.2.2.2.2.2.2) (q_Mt_text S.1) 0 0 o k = q_Out_bytes S.2.2.2.2.2.2 k := by
        unfold va_cpy
        rw [if_pos ⟨Nat.zero_le _, by omega⟩, Nat.sub_zero, Nat.zero_add]
      rw [e5, e3 k hk]
      exact o4 k hk
  · have e1 : ¬ nI o ≤ 400 := nI_ge (a := 400) (by omega) (by omega)
    exact ⟨-2, S.1, M, by rw [if_neg e1], by rw [if_neg e1], hall⟩
