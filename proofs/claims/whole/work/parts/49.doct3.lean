/-- bounds outside with room for nine characters that were read and not kept -/
def I0r (r n p : Nat) (fl : Fl) (row : List Int32) (TL : List Tk) (tx : Option Nat) (au ac : Nat) : Prop := p ≤ n ∧ row.length + r ≤ p ∧ (fT row.length tx TL).length + r ≤ p ∧ fl.length + 2 * r ≤ 2 * p ∧ TXok row.length tx ∧ au ≤ p ∧ ac ≤ p ∧ (∀ tk ∈ fT row.length tx TL, TkV row.length tk) ∧ (∀ x ∈ row, ∃ c : Nat, c ≤ 1114111 ∧ x = nI c) ∧ (wOut (rw row) (fT row.length tx TL)).length + 8 * r ≤ 8 * p
theorem I0r_adv {r n p : Nat} {fl : Fl} {row : List Int32} {TL : List Tk} {tx : Option Nat} {au ac : Nat} (h : I0r r n p fl row TL tx au ac) (k : Nat) (hk : p + k ≤ n) : I0r (r + k) n (p + k) fl row TL tx au ac := by
  obtain ⟨i1, i2, i3, i4, i5, i6, i7, i8, i9, i10⟩ := h
  exact ⟨hk, by omega, by omega, by omega, i5, by omega, by omega, i8, i9, by omega⟩
theorem I0r_of {n p : Nat} {fl : Fl} {row : List Int32} {TL : List Tk} {tx : Option Nat} {au ac : Nat} (h : INV 0 n p fl row TL tx au ac) : I0r 0 n p fl row TL tx au ac := by
  obtain ⟨i1, i2, i3, i4, i5, i6, i7, i8, i9, i10⟩ := h
  exact ⟨i1, by omega, by omega, by omega, i5, i6, i7, i8, i9, by omega⟩
/-- the bounds inside a doctype that has been begun -/
theorem ID_of {n p : Nat} {fl fl' : Fl} {row : List Int32} {TL : List Tk} {tx : Option Nat} {au ac r : Nat} (hr : 9 ≤ r) (h : I0r r n p fl row TL tx au ac) (hl : fl'.length ≤ fl.length + 1) : ID 17 n p fl' row (fT row.length tx TL) row.length au ac := by
  obtain ⟨i1, i2, i3, i4, i5, i6, i7, i8, i9, i10⟩ := h
  exact ⟨i1, by omega, by omega, by omega, Nat.le_refl _, i6, i7, i8, i9, by omega⟩
theorem skip_fuel : ∀ (f : Nat) (M X : SMo), f_Mo_skipBlanks_0 f M = some X → f_Mo_skipBlanks_0 (f + 1) M = some X := by
  intro f
  induction f with
  | zero => intro M X h; cases h
  | succ f ih =>
    intro M X h
    rw [f_Mo_skipBlanks_0] at h ⊢
    obtain ⟨c, hc, h⟩ := g_bind h
    rw [hc, Option.bind_some]
    by_cases hb : f_Mo_isBlank c = 0
    · rw [if_pos hb] at h ⊢; exact h
    · rw [if_neg hb] at h ⊢; exact ih _ _ h
theorem doctype_sim {n : Nat} {C : Nat → Int32} (hC : CHs n C) {p0 p kb r : Nat} {fl : Fl} {row : List Int32} {TL : List Tk} {tx : Option Nat} {au ac : Nat} {s : CS} {M : SMo} (hr : 9 ≤ r) (hp0 : p0 + 9 ≤ p) (hK : K0 n C p fl row TL tx au s) (hJ : J0 n C p fl row TL tx ac M) (hI : I0r r n p fl row TL tx au ac) (hkb : kb ≤ 60) : ∃ M', f_Mo_doctype M = some M' ∧ OUT n C M p0 kb 24 s M' := by
  have hn := hC.1
  have hpn := hI.1
  have hfl := hI.2.2.2.1
  have hTl := hI.2.2.1
  have hrl := hI.2.1
  -- from way 25 on, at p' , with the faults fl'
  have key : ∀ (p1 : Nat) (fl' : Fl) (s1 : CS) (M1 : SMo) (kb1 : Nat) (v : Int32), p ≤ p1 → p1 ≤ n → fl'.length ≤ fl.length + 1 → K0 n C p1 fl' row TL tx au s1 → J0 n C p1 fl' row TL tx ac M1 → kb1 ≤ 70 + (p1 - p) → ∃ M', f_Mo_doctype_37 v M1 = some M' ∧ OUT n C M1 p0 kb1 25 s1 M' := by
    intro p1 fl' s1 M1 kb1 v h1 h2 h3 k1 j1 hk1
    obtain ⟨q, M2, e1, q1, q2, b1, b2, b3, b4, b5, b6, b7⟩ := m_skip hC (n - p1) p1 fl' row TL FU M1 (Nat.le_refl _) (by unfold FU; omega) h2 j1.2.1
    have e1' : f_Mo_skipBlanks M1 = some M2 := e1
    obtain ⟨s2, r2, k2⟩ := sk_reach (K := fun p s => K0 n C p fl' row TL tx au s) (c25_blank hC) (q - p1) p1 s1 (by omega) (fun k g1 g2 => b7 k g1 (by omega)) k1
    rw [show p1 + (q - p1) = q by omega] at k2
    obtain ⟨hS, hT, hM⟩ := k2
    obtain ⟨M3, e3, c1, c2, c3, c4⟩ := m_begin b1 (MM0_s j1.2.2 b4 b5) hI.2.2.2.2.1 (by omega) 4 (by omega)
    obtain ⟨t3, e4, c5, c6⟩ := c_begin hT hM 4 (by omega)
    have hId : ID 17 n q fl' row (fT row.length tx TL) row.length au ac := ID_adv (ID_of hr hI h3) (by omega) q2
    unfold f_Mo_doctype_37
    rw [e1', Option.bind_some, m_cp hC b1 (by omega), Option.bind_some, e3, Option.bind_some]
    have hend : q_Mo_ended M3 = 0 := Eq.trans c3 (Eq.trans b3 j1.1)
    have htl : (fT row.length tx TL).length < 400 := by omega
    by_cases hc : C q = -1
    · have hq : q = n := by have := (ch_end hC).mp hc; omega
      obtain ⟨x1, M4, g1, g2, g3, g4, g5⟩ := m_mark c1 c4 (by omega) 1 rfl
      obtain ⟨M5, w1, w2, w3, w4, w5, w6⟩ := m_wrong g2 23 q (by omega)
      obtain ⟨M6, u1, u2, u3, u4, u5, u6⟩ := m_pe w2 1
      obtain ⟨M', y1, y2, y3, y4, y5⟩ := m_tell u2 (MM1_s (MM1_s g5 w5 w6) u5 u6) (Nat.le_refl _) (by omega)
      obtain ⟨s4, a1, a2⟩ := c_wrong hS 23 (by omega)
      obtain ⟨t4, a3, a4, a5⟩ := c_setMark c5 c6 1 htl
      obtain ⟨t5, a6, a7, a8⟩ := c_toldW a4 a5 htl
      refine ⟨M', ?_, OUT_pre r2 ⟨b2.trans (c2.trans (g3.trans (w3.trans (u3.trans y3)))), 1, (s2.1, s2.2.1, s4, s2.2.2.2.1, t5), _, row, _, none, au, ac, Or.inr ⟨step1 (by decide) (c_next hC hS (by omega)) ?_, by omega, KE_of0 (s := (s2.1, s2.2.1, s4, s2.2.2.2.1, t5)) a2 a7 a8, JE_of0 (Eq.trans y4 u4) y2 y5, ID_done (Or.inr rfl) hId 3 n _ (by rw [lenS]; omega) (by omega) (Nat.le_refl _)⟩⟩⟩
      · rw [if_pos hc]
        unfold f_Mo_doctype_66
        rw [if_pos x1, if_pos hc, g1, c1.2.2.1, w1, Option.bind_some, if_pos hc, u1, y1, Option.bind_some]
      · rw [fol_25]; unfold f_DoctypeWays_before f_DoctypeWays_oddAtEnd
        rw [if_pos b6, e4, Option.bind_some, if_pos hc, a1, Option.bind_some, a3, Option.bind_some, a6, Option.bind_some, Option.bind_some, Option.bind_some]
    have hqn : q < n := by
      by_cases h : q < n
      · exact h
      · exact absurd ((ch_end hC).mpr (by omega)) hc
    by_cases h62 : C q = 62
    · obtain ⟨x1, M4, g1, g2, g3, g4, g5⟩ := m_mark c1 c4 (by omega) 1 rfl
      obtain ⟨M5, w1, w2, w3, w4, w5, w6⟩ := m_wrong g2 22 q (by omega)
      obtain ⟨M6, u1, u2, u3, u4, u5, u6⟩ := m_pe w2 0
      obtain ⟨M', y1, y2, y3, y4, y5⟩ := m_tell u2 (MM1_s (MM1_s g5 w5 w6) u5 u6) (Nat.le_refl _) (by omega)
      obtain ⟨s4, a1, a2⟩ := c_wrong hS 22 (by omega)
      obtain ⟨t4, a3, a4, a5⟩ := c_setMark c5 c6 1 htl
      obtain ⟨s5, t5, a6, a7, a8, a9⟩ := c_doneW hn a2 a4 a5 hqn htl
      refine ⟨M', ?_, OUT_pre r2 ⟨b2.trans (c2.trans (g3.trans (w3.trans (u3.trans y3)))), 1, (s2.1, s2.2.1, s5, s2.2.2.2.1, t5), _, row, _, none, au, ac, Or.inl ⟨q + 1, step1 (by decide) (c_next hC hS (by omega)) ?_, by omega, by omega, ⟨a7, a8, a9⟩, ⟨Eq.trans y4 u4, y2, y5⟩, ID_done (Or.inr rfl) hId 0 (q + 1) _ (by rw [lenS]; omega) (by omega) (by omega)⟩⟩⟩
      · rw [if_neg hc, if_pos h62]
        unfold f_Mo_doctype_66
        rw [if_pos x1, if_neg hc, g1, c1.2.2.1, w1, Option.bind_some, if_neg hc, u1, y1, Option.bind_some]
      · rw [fol_25]; unfold f_DoctypeWays_before
        rw [if_pos b6, e4, Option.bind_some, if_neg hc, if_pos h62, a1, Option.bind_some, a3, Option.bind_some, a6, Option.bind_some, Option.bind_some]
    · have r3 : Reach 1 25 s2 26 (s2.1, s2.2.1, s2.2.2.1, s2.2.2.2.1, t3) := step1 (by decide) (c_next hC hS (by omega)) (by
        rw [fol_25]; unfold f_DoctypeWays_before
        rw [if_pos b6, e4, Option.bind_some, if_neg hc, if_neg h62, Option.bind_some])
      have hId4 : ID 4 n q fl' row (fT row.length tx TL) row.length au ac := by
        obtain ⟨i1, i2, i3, i4, i5, i6, i7, i8, i9, i10⟩ := hId
        exact ⟨i1, i2, i3, by omega, i5, i6, i7, i8, i9, i10⟩
      obtain ⟨M', y1, o1⟩ := d125 hC (p0 := p0) (n - q) q fl' row (fT row.length tx TL) row.length au ac (kb1 + ((q - p1) + 1)) FU (s2.1, s2.2.1, s2.2.2.1, s2.2.2.2.1, t3) M3 (Nat.le_refl _) (by unfold FU; omega) (by omega) ⟨hS, c5, c6⟩ ⟨hend, c1, c4⟩ hId4 (by omega)
      exact ⟨M', by rw [if_neg hc, if_neg h62, y1], OUT_pre (r2.trans r3) (OUT_EF (b2.trans c2) o1)⟩
  obtain ⟨hS, hT, hM⟩ := hK
  unfold f_Mo_doctype
  rw [m_cp hC hJ.2.1 (by omega), Option.bind_some]
  by_cases hb : f_Mt_isBlank (C p) = 0
  · by_cases h6 : C p = 62
    · have r1 : Reach 1 24 s 25 s := step1 (by decide) (c_next hC hS hpn) (by
        rw [fol_24]; unfold f_DoctypeWays_start
        rw [if_pos hb, if_pos h6, Option.bind_some])
      obtain ⟨M', e1, o1⟩ := key p fl s M (kb + 1) (C p) (Nat.le_refl _) hpn (by omega) ⟨hS, hT, hM⟩ hJ (by omega)
      exact ⟨M', by rw [if_neg (by rw [h6]; decide), if_pos h6, e1], OUT_pre r1 o1⟩
    by_cases he : C p = -1
    · have r1 : Reach 1 24 s 25 s := step1 (by decide) (c_next hC hS hpn) (by
        rw [fol_24]; unfold f_DoctypeWays_start
        rw [if_pos hb, if_neg h6, if_pos he, Option.bind_some])
      obtain ⟨M', e1, o1⟩ := key p fl s M (kb + 1) (C p) (Nat.le_refl _) hpn (by omega) ⟨hS, hT, hM⟩ hJ (by omega)
      exact ⟨M', by rw [if_pos he, e1], OUT_pre r1 o1⟩
    · obtain ⟨s1, a1, a2⟩ := c_wrong hS 21 (by omega)
      obtain ⟨M1, w1, w2, w3, w4, w5, w6⟩ := m_wrong hJ.2.1 21 p (by omega)
      have r1 : Reach 1 24 s 25 (s.1, s.2.1, s1, s.2.2.2.1, s.2.2.2.2) := step1 (by decide) (c_next hC hS hpn) (by
        rw [fol_24]; unfold f_DoctypeWays_start
        rw [if_pos hb, if_neg h6, if_neg he, a1, Option.bind_some, Option.bind_some])
      obtain ⟨M', e1, o1⟩ := key p _ (s.1, s.2.1, s1, s.2.2.2.1, s.2.2.2.2) M1 (kb + 1) (C p) (Nat.le_refl _) hpn (by rw [lenS]; omega) ⟨a2, hT, hM⟩ ⟨Eq.trans w4 hJ.1, w2, MM0_s hJ.2.2 w5 w6⟩ (by omega)
      exact ⟨M', by rw [if_neg he, if_neg h6, isBlank_eq, if_pos hb, hJ.2.1.2.2.1, w1, Option.bind_some, e1], OUT_pre r1 (OUT_EF w3 o1)⟩
  · -- a blank: one step of way 24; the reference passes over all of them
    have hpl : p < n := by
      by_cases h : p < n
      · exact h
      · exact absurd (show f_Mt_isBlank (C p) = 0 by rw [(ch_end hC).mpr (by omega)]; decide) hb
    have he : ¬ C p = -1 := fun h => absurd ((ch_end hC).mp h) (by omega)
    have h6 : ¬ C p = 62 := fun h => hb (by rw [h]; decide)
    obtain ⟨s1, a1, a2⟩ := c_then hn hS 25 hpl
    have r1 : Reach 1 24 s 25 (s.1, s.2.1, s1, s.2.2.2.1, s.2.2.2.2) := step1 (by decide) (c_next hC hS hpn) (by
      rw [fol_24]; unfold f_DoctypeWays_start
      rw [if_neg hb, a1, Option.bind_some])
    obtain ⟨M1, g1, g2, g3, g4, g5, g6⟩ := m_adv hJ.2.1
    obtain ⟨M', e1, o1⟩ := key (p + 1) fl (s.1, s.2.1, s1, s.2.2.2.1, s.2.2.2.2) M1 (kb + 1) (C p) (by omega) (by omega) (by omega) ⟨a2, hT, hM⟩ ⟨Eq.trans g4 hJ.1, g2, MM0_s hJ.2.2 g5 g6⟩ (by omega)
    refine ⟨M', ?_, OUT_pre r1 (OUT_EF g3 o1)⟩
    rw [if_neg he, if_neg h6, isBlank_eq, if_neg hb, ← e1]
    unfold f_Mo_doctype_37
    have ef : f_Mo_skipBlanks M = f_Mo_skipBlanks M1 := by
      obtain ⟨q, X, x1, -⟩ := m_skip hC (n - (p + 1)) (p + 1) fl row TL 199999 M1 (Nat.le_refl _) (by omega) (by omega) g2
      have x2 : f_Mo_skipBlanks M1 = some X := skip_fuel 199999 M1 X x1
      rw [x2]
      show f_Mo_skipBlanks_0 (199999 + 1) M = some X
      rw [f_Mo_skipBlanks_0, m_cp hC hJ.2.1 (by omega), Option.bind_some, isBlank_eq, if_neg hb, g1, x1]
    rw [ef]
