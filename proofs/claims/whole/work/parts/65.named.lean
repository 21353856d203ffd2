def idx (k : Nat) : Nat := if k < 21 then 2 * k else k + 21
theorem m_which {n : Nat} {C : Nat → Int32} {p : Nat} {fl : Fl} {row : List Int32} {TL : List Tk} {M : SMo} (h : BM n C p fl row TL M) (v : Int32) : ∃ M', u_Mo_which M v = M' ∧ BM n C p fl row TL M' ∧ EF M M' ∧ EE M M' ∧ SM M M' ∧ SX M M' ∧ q_Mo_which M' = v := by
  obtain ⟨h1, h2, h3, h4, h5, h6, h7, h8⟩ := h
  exact ⟨_, rfl, ⟨h1, h2, h3, h4, h5, h6, h7, h8⟩, EF.rf M, rfl, SM.rf M, ⟨rfl, rfl⟩, rfl⟩
/-- one entry of the reference's list -/
theorem m_entry {n : Nat} {C : Nat → Int32} (hC : CHs n C) {p : Nat} {fl : Fl} {row : List Int32} {TL : List Tk} {M : SMo} (hB : BM n C p fl row TL M) (hcn : RCon M) {a B i : Nat} (ha : a ≤ 500) (hi : i < 53) (hBB : B ≤ 20) (f : Nat) : ∃ (B' : Nat) (M' : SMo), f_Mo_longest_4 (f + 1) (nI a) (nI B) (nI i) M = f_Mo_longest_4 f (nI a) (nI B') (nI (i + 1)) M' ∧ BM n C p fl row TL M' ∧ EF M M' ∧ EE M M' ∧ SM M M' ∧ SX M M' ∧ ((mtb C a (NL i) = true ∧ B < (NL i).length ∧ B' = (NL i).length ∧ q_Mo_which M' = nI i) ∨ (¬ (mtb C a (NL i) = true ∧ B < (NL i).length) ∧ B' = B ∧ q_Mo_which M' = q_Mo_which M)) := by
  obtain ⟨u1, u2, -⟩ := NL_ok i hi
  have x1 : ix (nI i) 53 := ixI hi (by decide)
  have e : f_Mo_longest_4 (f + 1) (nI a) (nI B) (nI i) M = if mtb C a (NL i) = true then (if nI (NL i).length ≤ nI B then f_Mo_longest_4 f (nI a) (nI B) (nI (i + 1)) M else f_Mo_longest_4 f (nI a) (nI (NL i).length) (nI (i + 1)) (u_Mo_which M (nI i))) else f_Mo_longest_4 f (nI a) (nI B) (nI (i + 1)) M := by
    rw [f_Mo_longest_4, if_neg (show ¬ (53 : Int32) ≤ nI i from nI_ge (b := 53) hi (by decide)), if_pos x1]
    have g := in27_1 hC hB (fun v1 v2 v3 sMo => f_Mo_longest_4 f v1 v2 v3 sMo) ha (nI B) (nI i) (NL i) (fillL ini_names 53 i) 0 FU u1 (by unfold FU; omega) (by omega)
    rw [hcn.1, nI_clamp (by omega)]
    rw [Nat.add_zero, Nat.zero_add, nI_1] at g
    exact g
  rw [e]
  by_cases hm : mtb C a (NL i) = true
  · rw [if_pos hm]
    by_cases hl : B < (NL i).length
    · obtain ⟨M1, x1, y1, y2, y3, y4, y5, y6⟩ := m_which hB (nI i)
      rw [if_neg (nI_ge hl (by omega)), x1]
      exact ⟨_, M1, rfl, y1, y2, y3, y4, y5, Or.inl ⟨hm, hl, rfl, y6⟩⟩
    · rw [if_pos (nI_le (by omega) (by omega))]
      exact ⟨B, M, rfl, hB, EF.rf M, rfl, SM.rf M, ⟨rfl, rfl⟩, Or.inr ⟨fun h => hl h.2, rfl, rfl⟩⟩
  · rw [if_neg hm]
    exact ⟨B, M, rfl, hB, EF.rf M, rfl, SM.rf M, ⟨rfl, rfl⟩, Or.inr ⟨fun h => hm h.1, rfl, rfl⟩⟩
/-- the longest so far, in both -/
def LI (C : Nat → Int32) (a : Nat) (v : Option Nat) (B : Nat) (M : SMo) : Prop := B ≤ 20 ∧ ((v = none ∧ B = 0) ∨ ∃ kk w, v = some kk ∧ kk < 32 ∧ own C a kk = B ∧ 0 < B ∧ q_Mo_which M = nI w ∧ w < 53 ∧ fillI ini_gives 53 w = nm_given kk)
theorem NL_even {k : Nat} (h : k < 21) : NL (2 * k) = zs (nm_letters k) ∧ NL (2 * k + 1) = zs (nm_letters k) ++ [59] ∧ NK (2 * k) = k ∧ NK (2 * k + 1) = k := by
  unfold NL NK
  refine ⟨?_, ?_, ?_, ?_⟩
  · rw [if_pos (by omega), if_pos (by omega), show 2 * k / 2 = k by omega]
  · rw [if_pos (by omega), if_neg (by omega), show (2 * k + 1) / 2 = k by omega]
  · rw [if_pos (by omega)]; omega
  · rw [if_pos (by omega)]; omega
theorem NL_big {k : Nat} (h : 21 ≤ k) : NL (k + 21) = zs (nm_letters k) ++ [59] ∧ NK (k + 21) = k := by
  unfold NL NK
  rw [if_neg (by omega), if_neg (by omega), show k + 21 - 21 = k by omega]
  exact ⟨rfl, rfl⟩
/-- one name, in both -/
theorem name_step {n : Nat} {C : Nat → Int32} (hC : CHs n C) {p : Nat} {fl : Fl} {row : List Int32} {TL : List Tk} {M : SMo} (hB : BM n C p fl row TL M) (hcn : RCon M) {a B k : Nat} {v : Option Nat} (ha : a ≤ 500) (hk : k < 32) (hL : LI C a v B M) (f : Nat) : ∃ (B' : Nat) (M' : SMo), f_Mo_longest_4 (f + 2) (nI a) (nI B) (nI (idx k)) M = f_Mo_longest_4 (if k < 21 then f else f + 1) (nI a) (nI B') (nI (idx (k + 1))) M' ∧ BM n C p fl row TL M' ∧ EF M M' ∧ EE M M' ∧ SM M M' ∧ SX M M' ∧ B' = (if own C a k ≤ B then B else own C a k) ∧ LI C a (if own C a k ≤ B then v else some k) B' M' := by
  obtain ⟨h1, h2, h3, h4, -⟩ := NM_ok k hk
  obtain ⟨hB20, hL⟩ := hL
  have keepLI : ∀ {M' : SMo}, q_Mo_which M' = q_Mo_which M → LI C a v B M' := by
    intro M' hw
    refine ⟨hB20, ?_⟩
    rcases hL with h | ⟨kk, w, g1, g2, g3, g4, g5, g6⟩
    · exact Or.inl h
    · exact Or.inr ⟨kk, w, g1, g2, g3, g4, hw.trans g5, g6⟩
  by_cases h21 : k < 21
  · obtain ⟨n1, n2, n3, n4⟩ := NL_even h21
    have hfr : ¬ nm_free k = 0 := fun h => by have := h4.mp h; omega
    have i1 : idx k = 2 * k := by unfold idx; rw [if_pos h21]
    have i2 : idx (k + 1) = 2 * k + 1 + 1 := by
      unfold idx
      by_cases g : k + 1 < 21
      · rw [if_pos g]; omega
      · rw [if_neg g]; omega
    obtain ⟨B1, M1, e1, a1, a2, a3, a4, a5, a6⟩ := m_entry hC hB hcn ha (i := 2 * k) (by omega) hB20 (f + 1)
    have hB1 : B1 ≤ 20 := by rcases a6 with ⟨-, -, g, -⟩ | ⟨-, g, -⟩ <;> rw [g] <;> first | (rw [n1]; omega) | exact hB20
    obtain ⟨B2, M2, e2, b1, b2, b3, b4, b5, b6⟩ := m_entry hC a1 (RCon_EF hcn a2) ha (i := 2 * k + 1) (by omega) hB1 f
    rw [n1] at a6
    rw [n2, mtb_snoc, lenS] at b6
    have gv1 := (NL_ok (2 * k) (by omega)).2.2
    have gv2 := (NL_ok (2 * k + 1) (by omega)).2.2
    rw [n3] at gv1
    rw [n4] at gv2
    refine ⟨B2, M2, ?_, b1, a2.trans b2, a3.trans b3, a4.trans b4, a5.trans b5, ?_⟩
    · rw [if_pos h21, i1, i2]; exact e1.trans e2
    have ho : own C a k = if mtb C a (zs (nm_letters k)) = true then (if C (a + (zs (nm_letters k)).length) = 59 then (zs (nm_letters k)).length + 1 else (zs (nm_letters k)).length) else 0 := by
      unfold own; rw [if_neg hfr]
    by_cases hm : mtb C a (zs (nm_letters k)) = true
    · rw [if_pos hm] at ho
      by_cases h59 : C (a + (zs (nm_letters k)).length) = 59
      · rw [if_pos h59] at ho
        have hm2 : (mtb C a (zs (nm_letters k)) && decide (C (a + (zs (nm_letters k)).length) = 59)) = true := by rw [hm, decide_eq_true h59]; rfl
        by_cases hle : own C a k ≤ B
        · rw [if_pos hle, if_pos hle]
          have w1 : B1 = B ∧ q_Mo_which M1 = q_Mo_which M := by
            rcases a6 with ⟨-, g, -, -⟩ | ⟨-, g1, g2⟩
            · omega
            · exact ⟨g1, g2⟩
          have w2 : B2 = B1 ∧ q_Mo_which M2 = q_Mo_which M1 := by
            rcases b6 with ⟨-, g, -, -⟩ | ⟨-, g1, g2⟩
            · omega
            · exact ⟨g1, g2⟩
          obtain ⟨w3, w4⟩ := w1
          obtain ⟨w5, w6⟩ := w2
          subst w3; subst w5
          exact ⟨rfl, keepLI (w6.trans w4)⟩
        · rw [if_neg hle, if_neg hle]
          have hB1' : B1 < (zs (nm_letters k)).length + 1 := by
            rcases a6 with ⟨-, -, g, -⟩ | ⟨-, g1, -⟩ <;> omega
          rcases b6 with ⟨-, -, g1, g2⟩ | ⟨g, -⟩
          · exact ⟨by omega, by omega, Or.inr ⟨k, 2 * k + 1, rfl, hk, by omega, by omega, g2, by omega, gv2⟩⟩
          · exact absurd ⟨hm2, hB1'⟩ g
      · rw [if_neg h59] at ho
        have hm2 : ¬ (mtb C a (zs (nm_letters k)) && decide (C (a + (zs (nm_letters k)).length) = 59)) = true := by rw [hm, decide_eq_false h59]; decide
        have w2 : B2 = B1 ∧ q_Mo_which M2 = q_Mo_which M1 := by
          rcases b6 with ⟨g, -⟩ | ⟨-, g1, g2⟩
          · exact absurd g hm2
          · exact ⟨g1, g2⟩
        obtain ⟨w5, w6⟩ := w2
        subst w5
        by_cases hle : own C a k ≤ B
        · rw [if_pos hle, if_pos hle]
          rcases a6 with ⟨-, g, -, -⟩ | ⟨-, g1, g2⟩
          · omega
          · subst g1; exact ⟨rfl, keepLI (w6.trans g2)⟩
        · rw [if_neg hle, if_neg hle]
          rcases a6 with ⟨-, -, g1, g2⟩ | ⟨g, -⟩
          · exact ⟨by omega, by omega, Or.inr ⟨k, 2 * k, rfl, hk, by omega, by omega, w6.trans g2, by omega, gv1⟩⟩
          · exact absurd ⟨hm, by omega⟩ g
    · rw [if_neg hm] at ho
      rw [ho, if_pos (Nat.zero_le _), if_pos (Nat.zero_le _)]
      have hm2 : ¬ (mtb C a (zs (nm_letters k)) && decide (C (a + (zs (nm_letters k)).length) = 59)) = true := fun h => hm (Bool.and_eq_true_iff.mp h).1
      rcases a6 with ⟨g, -⟩ | ⟨-, g1, g2⟩
      · exact absurd g hm
      rcases b6 with ⟨g, -⟩ | ⟨-, g3, g4⟩
      · exact absurd g hm2
      subst g1; subst g3
      exact ⟨rfl, keepLI (g4.trans g2)⟩
  · obtain ⟨n1, n2⟩ := NL_big (show 21 ≤ k by omega)
    have hfr : nm_free k = 0 := h4.mpr (by omega)
    have i1 : idx k = k + 21 := by unfold idx; rw [if_neg h21]
    have i2 : idx (k + 1) = k + 21 + 1 := by unfold idx; rw [if_neg (by omega)]
    obtain ⟨B1, M1, e1, a1, a2, a3, a4, a5, a6⟩ := m_entry hC hB hcn ha (i := k + 21) (by omega) hB20 (f + 1)
    rw [n1, mtb_snoc, lenS] at a6
    have gv := (NL_ok (k + 21) (by omega)).2.2
    rw [n2] at gv
    refine ⟨B1, M1, by rw [if_neg h21, i1, i2]; exact e1, a1, a2, a3, a4, a5, ?_⟩
    have ho : own C a k = if mtb C a (zs (nm_letters k)) = true then (if C (a + (zs (nm_letters k)).length) = 59 then (zs (nm_letters k)).length + 1 else 0) else 0 := by
      unfold own; rw [if_pos hfr]
    by_cases hm2 : (mtb C a (zs (nm_letters k)) && decide (C (a + (zs (nm_letters k)).length) = 59)) = true
    · obtain ⟨hm, h59⟩ := Bool.and_eq_true_iff.mp hm2
      rw [if_pos hm, if_pos (of_decide_eq_true h59)] at ho
      by_cases hle : own C a k ≤ B
      · rw [if_pos hle, if_pos hle]
        rcases a6 with ⟨-, g, -, -⟩ | ⟨-, g1, g2⟩
        · omega
        · subst g1; exact ⟨rfl, keepLI g2⟩
      · rw [if_neg hle, if_neg hle]
        rcases a6 with ⟨-, -, g1, g2⟩ | ⟨g, -⟩
        · exact ⟨by omega, by omega, Or.inr ⟨k, k + 21, rfl, hk, by omega, by omega, g2, by omega, gv⟩⟩
        · exact absurd ⟨hm2, by omega⟩ g
    · have ho0 : own C a k = 0 := by
        rw [ho]
        by_cases hm : mtb C a (zs (nm_letters k)) = true
        · rw [if_pos hm]
          by_cases h59 : C (a + (zs (nm_letters k)).length) = 59
          · exact absurd (by rw [hm, decide_eq_true h59]; rfl) hm2
          · rw [if_neg h59]
        · rw [if_neg hm]
      rw [ho0, if_pos (Nat.zero_le _), if_pos (Nat.zero_le _)]
      rcases a6 with ⟨g, -⟩ | ⟨-, g1, g2⟩
      · exact absurd g hm2
      · subst g1; exact ⟨rfl, keepLI g2⟩
theorem longest_sim {n : Nat} {C : Nat → Int32} (hC : CHs n C) {fl : Fl} {row : List Int32} {TL : List Tk} {a : Nat} (ha : a ≤ n) {src : SSource} (hS : BS n C a fl src) : ∀ (d k B f1 f2 : Nat) (v : Option Nat) (M : SMo), k + d = 32 → d < f1 → 2 * d < f2 → BM n C a fl row TL M → RCon M → LI C a v B M → ∃ (B' : Nat) (v' : Option Nat) (M' : SMo), f_ReferenceWays_longestName_15 f1 v (nI B) 32 (nI k) src = some v' ∧ f_Mo_longest_4 f2 (nI a) (nI B) (nI (idx k)) M = some (nI B', M') ∧ BM n C a fl row TL M' ∧ EF M M' ∧ EE M M' ∧ SM M M' ∧ SX M M' ∧ LI C a v' B' M' := by
  have hn := hC.1
  intro d
  induction d with
  | zero =>
    intro k B f1 f2 v M hk h1 h2 hB hcn hL
    obtain ⟨f1, rfl⟩ : ∃ q, f1 = q + 1 := ⟨f1 - 1, by omega⟩
    obtain ⟨f2, rfl⟩ : ∃ q, f2 = q + 1 := ⟨f2 - 1, by omega⟩
    have : k = 32 := by omega
    subst this
    refine ⟨B, v, M, ?_, ?_, hB, EF.rf M, rfl, SM.rf M, ⟨rfl, rfl⟩, hL⟩
    · rw [f_ReferenceWays_longestName_15, if_pos (by decide)]
    · rw [f_Mo_longest_4, if_pos (by decide)]
  | succ d ih =>
    intro k B f1 f2 v M hk h1 h2 hB hcn hL
    obtain ⟨f1, rfl⟩ : ∃ q, f1 = q + 1 := ⟨f1 - 1, by omega⟩
    obtain ⟨f2, rfl⟩ : ∃ q, f2 = q + 2 := ⟨f2 - 2, by omega⟩
    obtain ⟨B1, M1, e1, a1, a2, a3, a4, a5, a6, a7⟩ := name_step hC hB hcn (by omega) (show k < 32 by omega) hL f2
    obtain ⟨B', v', M', e2, e3, b1, b2, b3, b4, b5, b6⟩ := ih (k + 1) B1 f1 (if k < 21 then f2 else f2 + 1) (if own C a k ≤ B then v else some k) M1 (by omega) (by omega) (by by_cases g : k < 21 <;> simp only [g, if_true, if_false] <;> omega) a1 (RCon_EF hcn a2) a7
    refine ⟨B', v', M', ?_, e1.trans e3, b1, a2.trans b2, a3.trans b3, a4.trans b4, a5.trans b5, b6⟩
    have hBB := hL.1
    have x1 : ix (nI k) nm_count := ixI (show k < 32 by omega) (by decide)
    have ho : own C a k ≤ 20 := by
      unfold own
      have := (NM_ok k (by omega)).1
      split
      · split
        · omega
        · split <;> omega
      · omega
    rw [f_ReferenceWays_longestName_15, if_neg (show ¬ (32 : Int32) ≤ nI k from nI_ge (b := 32) (by omega) (by decide)), if_pos x1, f_Source_place, hS.2.2.1]
    simp only [nI_clamp (show k < 2 ^ 31 by omega), c_len hC hS (show a ≤ 500 by omega) (show k < 32 by omega), Option.bind_some, nI_1]
    rw [← e2, a6]
    by_cases hle : own C a k ≤ B
    · rw [if_pos (nI_le hle (by omega)), if_pos hle, if_pos hle]
    · rw [if_neg (nI_ge (by omega) (by omega)), if_neg hle, if_neg hle]
