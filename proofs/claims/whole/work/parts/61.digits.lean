theorem dig_all : ∀ i : Fin 256, (f_ReferenceWays_digitOf (nI i.val) < 10 ↔ f_Mo_digitOf (nI i.val) < 10) ∧ (f_ReferenceWays_digitOf (nI i.val) < 16 ↔ f_Mo_digitOf (nI i.val) < 16) ∧ (f_Mo_digitOf (nI i.val) < 16 → f_ReferenceWays_digitOf (nI i.val) = f_Mo_digitOf (nI i.val) ∧ f_Mo_digitOf (nI i.val) = nI (f_Mo_digitOf (nI i.val)).toNatClampNeg ∧ (f_Mo_digitOf (nI i.val)).toNatClampNeg < 16) := by decide +kernel
theorem dig_end : ¬ f_ReferenceWays_digitOf (-1) < 10 ∧ ¬ f_ReferenceWays_digitOf (-1) < 16 ∧ ¬ f_Mo_digitOf (-1) < 10 ∧ ¬ f_Mo_digitOf (-1) < 16 := by decide +kernel
theorem dig_ok {n : Nat} {C : Nat → Int32} (hC : CHs n C) {b : Nat} (hb : b = 10 ∨ b = 16) (q : Nat) : (f_ReferenceWays_digitOf (C q) < nI b ↔ f_Mo_digitOf (C q) < nI b) ∧ (f_Mo_digitOf (C q) < nI b → q < n ∧ ∃ g : Nat, g < 16 ∧ f_ReferenceWays_digitOf (C q) = nI g ∧ f_Mo_digitOf (C q) = nI g) := by
  by_cases hq : q < n
  · obtain ⟨c, hc, e⟩ := hC.2.1 q hq
    obtain ⟨h1, h2, h3⟩ := dig_all ⟨c, by omega⟩
    simp only at h1 h2 h3
    rw [e]
    rcases hb with rfl | rfl
    · refine ⟨h1, fun h => ⟨hq, ?_⟩⟩
      have h16 : f_Mo_digitOf (nI c) < 16 := by
        have h : f_Mo_digitOf (nI c) < 10 := h
        rw [Int32.lt_iff_toInt_lt] at h ⊢
        exact Int.lt_trans h (by decide)
      obtain ⟨g1, g2, g3⟩ := h3 h16
      exact ⟨_, g3, g1.trans g2, g2⟩
    · refine ⟨h2, fun h => ⟨hq, ?_⟩⟩
      obtain ⟨g1, g2, g3⟩ := h3 h
      exact ⟨_, g3, g1.trans g2, g2⟩
  · have e : C q = -1 := (ch_end hC).mpr (by omega)
    obtain ⟨h1, h2, h3, h4⟩ := dig_end
    rw [e]
    rcases hb with rfl | rfl
    · exact ⟨⟨fun h => absurd h h1, fun h => absurd h h3⟩, fun h => absurd h h3⟩
    · exact ⟨⟨fun h => absurd h h2, fun h => absurd h h4⟩, fun h => absurd h h4⟩
theorem nI_mul (a b : Nat) : nI a * nI b = nI (a * b) := (Int32.ofNat_mul a b).symm
/-- both read the digits -/
theorem digits_sim {n : Nat} {C : Nat → Int32} (hC : CHs n C) {b : Nat} (hb : b = 10 ∨ b = 16) {fl : Fl} {row : List Int32} {TL : List Tk} (a iv : Int32) : ∀ (d q k v m f1 f2 : Nat) (src : SSource) (M : SMo), n - q ≤ d → d < f1 → d < f2 → q ≤ n → k + (n - q) < 400 → v ≤ 17825807 → BS n C q fl src → BM n C q fl row TL M → ∃ (q' v' f' : Nat) (src' : SSource) (M' : SMo), q ≤ q' ∧ q' ≤ n ∧ v' ≤ 17825807 ∧ f_ReferenceWays_readDigits_4 f1 (nI b) (nI (min v 1114112)) (nI k) src = some (nI (min v' 1114112), src') ∧ BS n C q' fl src' ∧ f_Mo_number_63 f2 a iv (nI b) (nI v) (nI m) M = f_Mo_number_63 (f' + 1) a iv (nI b) (nI v') (nI (m + (q' - q))) M' ∧ BM n C q' fl row TL M' ∧ EF M M' ∧ EE M M' ∧ SM M M' ∧ SX M M' ∧ ¬ f_Mo_digitOf (C q') < nI b := by
  have hn := hC.1
  have hb16 : b ≤ 16 := by rcases hb with rfl | rfl <;> omega
  intro d
  induction d with
  | zero =>
    intro q k v m f1 f2 src M hd h1 h2 hq hk hv hS hB
    obtain ⟨f1, rfl⟩ : ∃ x, f1 = x + 1 := ⟨f1 - 1, by omega⟩
    obtain ⟨f2, rfl⟩ : ∃ x, f2 = x + 1 := ⟨f2 - 1, by omega⟩
    have hnd : ¬ f_Mo_digitOf (C q) < nI b := fun h => by have := ((dig_ok hC hb q).2 h).1; omega
    refine ⟨q, v, f2, src, M, Nat.le_refl _, hq, hv, ?_, hS, by rw [show m + (q - q) = m by omega], hB, EF.rf M, rfl, SM.rf M, ⟨rfl, rfl⟩, hnd⟩
    rw [f_ReferenceWays_readDigits_4, if_neg (show ¬ (400 : Int32) ≤ nI k from nI_ge (b := 400) (by omega) (by decide)), c_next hC hS hq, Option.bind_some, if_neg (fun h => hnd ((dig_ok hC hb q).1.mp h))]
  | succ d ih =>
    intro q k v m f1 f2 src M hd h1 h2 hq hk hv hS hB
    obtain ⟨f1, rfl⟩ : ∃ x, f1 = x + 1 := ⟨f1 - 1, by omega⟩
    obtain ⟨f2, rfl⟩ : ∃ x, f2 = x + 1 := ⟨f2 - 1, by omega⟩
    by_cases hdg : f_Mo_digitOf (C q) < nI b
    · obtain ⟨hqn, g, hg, e1, e2⟩ := (dig_ok hC hb q).2 hdg
      have hdc := (dig_ok hC hb q).1.mpr hdg
      obtain ⟨M1, x1, y1, y2, y3, y4, y5⟩ := m_adv hB
      have s1 : BS n C (q + 1) fl (f_Source_skip 1 src) := c_skip hn hS (k := 1) (by omega)
      -- the reference's next number
      obtain ⟨w, hw, ew1, ew2⟩ : ∃ w : Nat, w ≤ 17825807 ∧ (if nI v ≤ 1114111 then nI b * nI v + nI g else nI v) = nI w ∧ (if 1114112 < nI (min v 1114112) * nI b + nI g then (1114112 : Int32) else nI (min v 1114112) * nI b + nI g) = nI (min w 1114112) := by
        by_cases hvv : v ≤ 1114111
        · have hm : b * v ≤ 16 * 1114111 := Nat.mul_le_mul hb16 hvv
          refine ⟨b * v + g, by omega, ?_, ?_⟩
          · rw [if_pos (show nI v ≤ 1114111 from nI_le hvv (by decide)), nI_mul, nI_add]
          · rw [show min v 1114112 = v by omega, nI_mul, nI_add, Nat.mul_comm v b]
            by_cases hbig : 1114112 < b * v + g
            · rw [if_pos (show (1114112 : Int32) < nI (b * v + g) from nI_lt (a := 1114112) hbig (by omega)), show min (b * v + g) 1114112 = 1114112 by omega]; rfl
            · rw [if_neg (show ¬ (1114112 : Int32) < nI (b * v + g) from nI_nlt (a := 1114112) (by omega) (by decide)), show min (b * v + g) 1114112 = b * v + g by omega]
        · have hb10 : 10 ≤ b := by rcases hb with rfl | rfl <;> omega
          have hm1 : 1114112 * b ≤ 1114112 * 16 := Nat.mul_le_mul (Nat.le_refl _) hb16
          have hm2 : 1114112 * 10 ≤ 1114112 * b := Nat.mul_le_mul (Nat.le_refl _) hb10
          refine ⟨v, hv, ?_, ?_⟩
          · rw [if_neg (show ¬ nI v ≤ 1114111 from nI_ge (a := 1114111) (by omega) (by omega))]
          · rw [show min v 1114112 = 1114112 by omega, nI_mul, nI_add, if_pos (show (1114112 : Int32) < nI (1114112 * b + g) from nI_lt (a := 1114112) (by omega) (by omega))]; rfl
      obtain ⟨q', v', f', src', M', a1, a2, a3, a4, a5, a6, a7, a8, a9, a10, a11, a12⟩ := ih (q + 1) (k + 1) w (m + 1) f1 f2 (f_Source_skip 1 src) M1 (by omega) (by omega) (by omega) (by omega) (by omega) hw s1 y1
      refine ⟨q', v', f', src', M', by omega, a2, a3, ?_, a5, ?_, a7, y2.trans a8, y3.trans a9, y4.trans a10, y5.trans a11, a12⟩
      · rw [f_ReferenceWays_readDigits_4, if_neg (show ¬ (400 : Int32) ≤ nI k from nI_ge (b := 400) (by omega) (by decide)), c_next hC hS hq, Option.bind_some, if_pos hdc, e1, ew2, nI_1, a4]
      · rw [show m + (q' - q) = m + 1 + (q' - (q + 1)) by omega, ← a6, f_Mo_number_63, m_cp hC hB (by omega), Option.bind_some, if_neg (Int32.not_le.mpr hdg), Option.bind_some, e2, x1, nI_1, ← ew1]
        by_cases hvv : nI v ≤ 1114111
        · rw [if_pos hvv, if_pos hvv]
        · rw [if_neg hvv, if_neg hvv]
    · refine ⟨q, v, f2, src, M, Nat.le_refl _, hq, hv, ?_, hS, by rw [show m + (q - q) = m by omega], hB, EF.rf M, rfl, SM.rf M, ⟨rfl, rfl⟩, hdg⟩
      rw [f_ReferenceWays_readDigits_4, if_neg (show ¬ (400 : Int32) ≤ nI k from nI_ge (b := 400) (by omega) (by decide)), c_next hC hS hq, Option.bind_some, if_neg (fun h => hdg ((dig_ok hC hb q).1.mp h))]
