def rw (row : List Int32) : Nat → Int32 := fun k => row.getD k 0
def K0 (n : Nat) (C : Nat → Int32) (p : Nat) (fl : Fl) (row : List Int32) (TL : List Tk) (tx : Option Nat) (au : Nat) (s : CS) : Prop := BS n C p fl s.2.2.1 ∧ BT row TL s.2.2.2.2 ∧ MC0 au TL tx s.2.2.2.2
def K1 (n : Nat) (C : Nat → Int32) (p : Nat) (fl : Fl) (row : List Int32) (TL : List Tk) (ck : Int32) (cs : Nat) (cm : Int32) (au : Nat) (s : CS) : Prop := BS n C p fl s.2.2.1 ∧ BT row TL s.2.2.2.2 ∧ MC1 au TL ck cs cm s.2.2.2.2
/-- the class at its end -/
def KE (n : Nat) (C : Nat → Int32) (fl : Fl) (row : List Int32) (TL : List Tk) (tx : Option Nat) (au : Nat) (s : CS) : Prop := (∃ p, BS n C p fl s.2.2.1) ∧ BT row TL s.2.2.2.2 ∧ TC au TL s.2.2.2.2 ∧ ((tx = none ∧ q_Tokens_inText s.2.2.2.2 = 0) ∨ ∃ a, tx = some a ∧ q_Tokens_inText s.2.2.2.2 = 1 ∧ q_Tokens_kinds s.2.2.2.2 TL.length = 0 ∧ q_Tokens_starts s.2.2.2.2 TL.length = nI a ∧ q_Tokens_marks s.2.2.2.2 TL.length = 0 ∧ q_Tokens_attributeCounts s.2.2.2.2 TL.length = 0 ∧ q_Tokens_firstAttributes s.2.2.2.2 TL.length = nI au)
/-- the reference at its end -/
def JE (n : Nat) (C : Nat → Int32) (fl : Fl) (row : List Int32) (TL : List Tk) (tx : Option Nat) (ac : Nat) (M : SMo) : Prop := q_Mo_ended M = 1 ∧ (∃ p, BM n C p fl row TL M) ∧ TM ac TL M ∧ ((tx = none ∧ q_Mo_textSize M = 0) ∨ ∃ a, tx = some a ∧ q_Mo_attributeCount M = nI ac ∧ a ≤ row.length ∧ q_Mo_textSize M = nI (row.length - a) ∧ (a < row.length → q_Mo_textAt M = nI a))
def J0 (n : Nat) (C : Nat → Int32) (p : Nat) (fl : Fl) (row : List Int32) (TL : List Tk) (tx : Option Nat) (ac : Nat) (M : SMo) : Prop := q_Mo_ended M = 0 ∧ BM n C p fl row TL M ∧ MM0 ac row.length TL tx M
def J1 (n : Nat) (C : Nat → Int32) (p : Nat) (fl : Fl) (row : List Int32) (TL : List Tk) (ck : Int32) (cs : Nat) (cm : Int32) (ac : Nat) (M : SMo) : Prop := q_Mo_ended M = 0 ∧ BM n C p fl row TL M ∧ MM1 ac TL ck cs cm M
/-- bounds: b faults more than two a character -/
def INV (b n p : Nat) (fl : Fl) (row : List Int32) (TL : List Tk) (tx : Option Nat) (au ac : Nat) : Prop := p ≤ n ∧ row.length ≤ p ∧ (fT row.length tx TL).length ≤ p ∧ fl.length ≤ 2 * p + b ∧ TXok row.length tx ∧ au ≤ p ∧ ac ≤ p ∧ (∀ tk ∈ fT row.length tx TL, TkV row.length tk) ∧ (∀ x ∈ row, ∃ c : Nat, c ≤ 1114111 ∧ x = nI c) ∧ (wOut (rw row) (fT row.length tx TL)).length ≤ 8 * p
/-- what a piece of the run that began outside at p0 comes to: outside again, further on, or at the end -/
def OUT (n : Nat) (C : Nat → Int32) (M0 : SMo) (p0 kb : Nat) (w : Nat) (s : CS) (M' : SMo) : Prop := EF M0 M' ∧ ∃ (k : Nat) (s' : CS) (fl : Fl) (row : List Int32) (TL : List Tk) (tx : Option Nat) (au ac : Nat),
  (∃ p, Reach k w s 0 s' ∧ p0 < p ∧ k + kb ≤ 16 * (p - p0) ∧ K0 n C p fl row TL tx au s' ∧ J0 n C p fl row TL tx ac M' ∧ INV 0 n p fl row TL tx au ac) ∨ (Reach k w s 29 s' ∧ k + kb ≤ 16 * (n - p0) + 16 ∧ KE n C fl row TL tx au s' ∧ JE n C fl row TL tx ac M' ∧ INV 3 n n fl row TL tx au ac)
theorem isLetter_eq (c : Int32) : f_Mo_isLetter c = f_Mt_isLetter c := by
  unfold f_Mo_isLetter f_Mo_isGreat f_Mt_isLetter
  by_cases h1 : c < 65
  · simp only [h1, if_true]
  · by_cases h2 : 90 < c
    · have h3 : ¬ c ≤ 90 := Int32.not_le.mpr h2
      simp only [h1, h2, h3, if_true, if_false]
    · have h3 : c ≤ 90 := Int32.not_lt.mp h2
      simp only [h1, h2, h3, if_true, if_false, if_neg (show ¬ (1 : Int32) = 0 by decide)]
theorem lowered_eq (c : Int32) : f_Mo_lowered c = f_Mt_lowered c := by
  unfold f_Mo_lowered f_Mo_isGreat f_Mt_lowered
  by_cases h1 : c < 65
  · simp only [h1, if_true]
  · by_cases h2 : 90 < c
    · simp only [h1, h2, if_true, if_false]
    · simp only [h1, h2, if_false, if_neg (show ¬ (1 : Int32) = 0 by decide)]
theorem isBlank_eq (c : Int32) : f_Mo_isBlank c = f_Mt_isBlank c := rfl
/-- a character that is known: 0 is told and replaced -/
def flK (c : Int32) (p : Nat) (fl : Fl) : Fl := if c = 0 then fl ++ [(1, p)] else fl
def rK (c : Int32) : Int32 := if c = 0 then 65533 else c
theorem flK_len (c : Int32) (p : Nat) (fl : Fl) : fl.length ≤ (flK c p fl).length ∧ (flK c p fl).length ≤ fl.length + 1 := by
  unfold flK
  by_cases h : c = 0
  · rw [if_pos h, lenS]; omega
  · rw [if_neg h]; omega
theorem c_known {n : Nat} {C : Nat → Int32} {p : Nat} {fl : Fl} {row : List Int32} {TL : List Tk} {s : SSource} {t : STokens} (hS : BS n C p fl s) (hT : BT row TL t) (c : Int32) (hf : fl.length < 1203) (hu : row.length < 400) : ∃ s' t', f_Ways_addKnown c s t = some (s', t') ∧ BS n C p (flK c p fl) s' ∧ BT (row ++ [rK c]) TL t' ∧ SC t t' := by
  unfold f_Ways_addKnown flK rK
  by_cases h : c = 0
  · obtain ⟨s', e1, b1⟩ := c_wrong hS 1 hf
    obtain ⟨t', e2, b2, b3⟩ := c_add hT 65533 hu
    rw [if_pos h, if_pos h, if_pos h, e1, Option.bind_some, e2, Option.bind_some]
    exact ⟨s', t', rfl, b1, b2, b3⟩
  · obtain ⟨t', e2, b2, b3⟩ := c_add hT c hu
    rw [if_neg h, if_neg h, if_neg h, e2, Option.bind_some]
    exact ⟨s, t', rfl, hS, b2, b3⟩
theorem m_known {n : Nat} {C : Nat → Int32} {p : Nat} {fl : Fl} {row : List Int32} {TL : List Tk} {M : SMo} (hC : CHs n C) (h : BM n C p fl row TL M) (hp : p ≤ n) (hf : fl.length < 1200) : ∃ M', f_Mo_known M = some (rK (C p), M') ∧ BM n C (p + 1) (flK (C p) p fl) row TL M' ∧ EF M M' ∧ EE M M' ∧ SM M M' ∧ SX M M' := by
  have hn := hC.1
  unfold f_Mo_known flK rK
  rw [m_cp hC h (by omega), Option.bind_some]
  by_cases h0 : C p = 0
  · obtain ⟨M1, e1, b1, b2, b3, b4, b5⟩ := m_wrong h 1 p hf
    obtain ⟨M2, e2, d1, d2, d3, d4, d5⟩ := m_adv b1
    rw [if_pos h0, if_pos h0, if_pos h0, h.2.2.1, e1, Option.bind_some, e2]
    exact ⟨M2, rfl, d1, b2.trans d2, b3.trans d3, b4.trans d4, b5.trans d5⟩
  · obtain ⟨M2, e2, d1, d2, d3, d4, d5⟩ := m_adv h
    rw [if_neg h0, if_neg h0, if_neg h0, e2]
    exact ⟨M2, rfl, d1, d2, d3, d4, d5⟩
theorem EF.of {M0 M M' : SMo} (h : EF M0 M) (g : EF M M') : EF M0 M' := h.trans g
theorem ch_end {n : Nat} {C : Nat → Int32} (hC : CHs n C) {p : Nat} : C p = -1 ↔ n ≤ p := by
  constructor
  · intro h
    by_cases hp : p < n
    · obtain ⟨c, hc, e⟩ := hC.2.1 p hp
      rw [e] at h
      have := congrArg Int32.toInt h
      rw [nI_toInt (by omega), show (-1 : Int32).toInt = -1 from rfl] at this
      omega
    · omega
  · exact hC.2.2 p
/-- a step of the class -/
theorem step1 {w w' : Nat} {s s' : CS} {c : Int32} (hw : w < 29) (hc : f_Source_next s.2.2.1 = some c) (h : f_Reader_follow w c s.1 s.2.1 s.2.2.1 s.2.2.2.1 s.2.2.2.2 = some (w', s')) : Reach 1 w s w' s' := ⟨w', s', hw, by unfold stepC; rw [hc, Option.bind_some, h], rfl, rfl⟩
theorem OUT_pre {n : Nat} {C : Nat → Int32} {M0 : SMo} {p0 kb k1 w0 w : Nat} {s0 s : CS} {M' : SMo} (hr : Reach k1 w0 s0 w s) (h : OUT n C M0 p0 (kb + k1) w s M') : OUT n C M0 p0 kb w0 s0 M' := by
  obtain ⟨h1, k, s', fl, row, TL, tx, au, ac, h2⟩ := h
  refine ⟨h1, k1 + k, s', fl, row, TL, tx, au, ac, ?_⟩
  rcases h2 with ⟨p, a1, a2, a3, a4⟩ | ⟨a1, a2, a3⟩
  · exact Or.inl ⟨p, hr.trans a1, a2, by omega, a4⟩
  · exact Or.inr ⟨hr.trans a1, by omega, a3⟩
theorem OUT_EF {n : Nat} {C : Nat → Int32} {M0 M : SMo} {p0 kb w : Nat} {s : CS} {M' : SMo} (he : EF M0 M) (h : OUT n C M p0 kb w s M') : OUT n C M0 p0 kb w s M' := ⟨he.trans h.1, h.2⟩
