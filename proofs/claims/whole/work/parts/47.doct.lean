theorem c_doneW {n : Nat} {C : Nat → Int32} {p : Nat} {fl : Fl} {row : List Int32} {TL : List Tk} {ck : Int32} {cs : Nat} {cm : Int32} {au : Nat} {s : SSource} {t : STokens} (hn : n ≤ 400) (hS : BS n C p fl s) (hT : BT row TL t) (hM : MC1 au TL ck cs cm t) (hp : p < n) (ht : TL.length < 400) : ∃ s' t', f_Ways_done s t = some (0, s', t') ∧ BS n C (p + 1) fl s' ∧ BT row (TL ++ [(ck, cs, row.length, cm, [])]) t' ∧ MC0 au (TL ++ [(ck, cs, row.length, cm, [])]) none t' := by
  obtain ⟨t1, e1, b1, b2⟩ := c_done hT hM ht
  obtain ⟨s2, e2, b4⟩ := c_then hn hS 0 hp
  refine ⟨s2, f_Tokens_tell t1, ?_, b4, b1, b2⟩
  unfold f_Ways_done
  rw [e1, Option.bind_some, e2]
theorem c_toldW {row : List Int32} {TL : List Tk} {ck : Int32} {cs : Nat} {cm : Int32} {au : Nat} {t : STokens} (hT : BT row TL t) (hM : MC1 au TL ck cs cm t) (ht : TL.length < 400) : ∃ t', f_Ways_toldAtEnd t = some (29, t') ∧ BT row (TL ++ [(ck, cs, row.length, cm, [])]) t' ∧ MC0 au (TL ++ [(ck, cs, row.length, cm, [])]) none t' := by
  obtain ⟨t1, e1, b1, b2⟩ := c_done hT hM ht
  refine ⟨f_Tokens_tell t1, ?_, b1, b2⟩
  unfold f_Ways_toldAtEnd
  rw [e1, Option.bind_some]
/-- the reference's blanks -/
theorem m_skip {n : Nat} {C : Nat → Int32} (hC : CHs n C) : ∀ (d p : Nat) (fl : Fl) (row : List Int32) (TL : List Tk) (f : Nat) (M : SMo), n - p ≤ d → d < f → p ≤ n → BM n C p fl row TL M → ∃ (q : Nat) (M' : SMo), f_Mo_skipBlanks_0 f M = some M' ∧ p ≤ q ∧ q ≤ n ∧ BM n C q fl row TL M' ∧ EF M M' ∧ EE M M' ∧ SM M M' ∧ SX M M' ∧ f_Mt_isBlank (C q) = 0 ∧ ∀ k, p ≤ k → k < q → ¬ f_Mt_isBlank (C k) = 0 := by
  have hn := hC.1
  intro d
  induction d with
  | zero =>
    intro p fl row TL f M hd hf hp hB
    obtain ⟨f, rfl⟩ : ∃ q, f = q + 1 := ⟨f - 1, by omega⟩
    have hc : C p = -1 := (ch_end hC).mpr (by omega)
    refine ⟨p, M, ?_, Nat.le_refl _, hp, hB, EF.rf M, rfl, SM.rf M, ⟨rfl, rfl⟩, by rw [hc]; decide, fun k h1 h2 => by omega⟩
    rw [f_Mo_skipBlanks_0, m_cp hC hB (by omega), Option.bind_some, hc, if_pos (by decide)]
  | succ d ih =>
    intro p fl row TL f M hd hf hp hB
    obtain ⟨f, rfl⟩ : ∃ q, f = q + 1 := ⟨f - 1, by omega⟩
    by_cases hb : f_Mt_isBlank (C p) = 0
    · refine ⟨p, M, ?_, Nat.le_refl _, hp, hB, EF.rf M, rfl, SM.rf M, ⟨rfl, rfl⟩, hb, fun k h1 h2 => by omega⟩
      rw [f_Mo_skipBlanks_0, m_cp hC hB (by omega), Option.bind_some, isBlank_eq, if_pos hb]
    · have hpn : p < n := by
        by_cases h : p < n
        · exact h
        · exact absurd (show f_Mt_isBlank (C p) = 0 by rw [(ch_end hC).mpr (by omega)]; decide) hb
      obtain ⟨M1, e1, b1, b2, b3, b4, b5⟩ := m_adv hB
      obtain ⟨q, M', e2, q1, q2, d1, d2, d3, d4, d5, d6, d7⟩ := ih (p + 1) fl row TL f M1 (by omega) (by omega) (by omega) b1
      refine ⟨q, M', ?_, by omega, q2, d1, b2.trans d2, b3.trans d3, b4.trans d4, b5.trans d5, d6, fun k h1 h2 => ?_⟩
      · rw [f_Mo_skipBlanks_0, m_cp hC hB (by omega), Option.bind_some, isBlank_eq, if_neg hb, e1, e2]
      · by_cases hk : k = p
        · subst hk; exact hb
        · exact d7 k (by omega) h2
/-- a way that passes over blanks -/
theorem sk_reach {n : Nat} {C : Nat → Int32} {w : Nat} {K : Nat → CS → Prop} (hstep : ∀ (p : Nat) (s : CS), K p s → p < n → ¬ f_Mt_isBlank (C p) = 0 → ∃ s', Reach 1 w s w s' ∧ K (p + 1) s') : ∀ (d p : Nat) (s : CS), p + d ≤ n → (∀ k, p ≤ k → k < p + d → ¬ f_Mt_isBlank (C k) = 0) → K p s → ∃ s', Reach d w s w s' ∧ K (p + d) s' := by
  intro d
  induction d with
  | zero => intro p s _ _ h; exact ⟨s, ⟨rfl, rfl⟩, h⟩
  | succ d ih =>
    intro p s hp hb h
    obtain ⟨s1, r1, k1⟩ := hstep p s h (by omega) (hb p (Nat.le_refl _) (by omega))
    obtain ⟨s2, r2, k2⟩ := ih (p + 1) s1 (by omega) (fun k h1 h2 => hb k (by omega) (by omega)) k1
    refine ⟨s2, ?_, by rw [show p + (d + 1) = p + 1 + d by omega]; exact k2⟩
    rw [show d + 1 = 1 + d by omega]
    exact r1.trans r2
theorem c25_blank {n : Nat} {C : Nat → Int32} (hC : CHs n C) {fl : Fl} {row : List Int32} {TL : List Tk} {tx : Option Nat} {au : Nat} (p : Nat) (s : CS) (h : K0 n C p fl row TL tx au s) (hp : p < n) (hb : ¬ f_Mt_isBlank (C p) = 0) : ∃ s', Reach 1 25 s 25 s' ∧ K0 n C (p + 1) fl row TL tx au s' := by
  obtain ⟨hS, hT, hM⟩ := h
  obtain ⟨s2, e2, b4⟩ := c_then hC.1 hS 25 hp
  refine ⟨(s.1, s.2.1, s2, s.2.2.2.1, s.2.2.2.2), step1 (by decide) (c_next hC hS (by omega)) ?_, b4, hT, hM⟩
  rw [fol_25]
  unfold f_DoctypeWays_before
  rw [if_neg hb, e2, Option.bind_some]
theorem c27_blank {n : Nat} {C : Nat → Int32} (hC : CHs n C) {fl : Fl} {row : List Int32} {TL : List Tk} {ck : Int32} {cs : Nat} {cm : Int32} {au : Nat} (p : Nat) (s : CS) (h : K1 n C p fl row TL ck cs cm au s) (hp : p < n) (hb : ¬ f_Mt_isBlank (C p) = 0) : ∃ s', Reach 1 27 s 27 s' ∧ K1 n C (p + 1) fl row TL ck cs cm au s' := by
  obtain ⟨hS, hT, hM⟩ := h
  obtain ⟨s2, e2, b4⟩ := c_then hC.1 hS 27 hp
  refine ⟨(s.1, s.2.1, s2, s.2.2.2.1, s.2.2.2.2), step1 (by decide) (c_next hC hS (by omega)) ?_, b4, hT, hM⟩
  rw [fol_27]
  unfold f_DoctypeWays_after
  rw [if_neg hb, e2, Option.bind_some]
theorem m_mark {n : Nat} {C : Nat → Int32} {p : Nat} {fl : Fl} {row : List Int32} {TL : List Tk} {ac : Nat} {ck : Int32} {cs : Nat} {cm : Int32} {M : SMo} (h : BM n C p fl row TL M) (hM : MM1 ac TL ck cs cm M) (ht : TL.length < 402) (k : Int32) (hk : vp_nar .boolean k = k) : ix (q_Mo_tokens M) 402 ∧ ∃ M', u_Mo_marks M (upd (q_Mo_marks M) ((q_Mo_tokens M) : Int32).toNatClampNeg (vp_nar .boolean k)) = M' ∧ BM n C p fl row TL M' ∧ EF M M' ∧ EE M M' ∧ MM1 ac TL ck cs k M' := by
  obtain ⟨m1, m2, m4, m5, m6, m7, m8, m9⟩ := hM
  rw [h.2.2.2.2.2.2.2, nI_clamp (by omega), hk]
  refine ⟨ixI ht (by decide), _, rfl, h, EF.rf M, rfl, ?_, m2, m4, m5, m6, upd_same _ _ _, m8, m9⟩
  exact TM_at (Nat.le_refl _) m1 (fun i hi => ⟨rfl, rfl, rfl, upd_ne _ _ (Nat.ne_of_lt hi), rfl, rfl⟩) (fun j hj => ⟨rfl, rfl, rfl, rfl⟩)
theorem doc_len (ρ : Nat → Int32) (a e : Nat) (m : Int32) : (tkOut ρ (4, a, e, m, [])).length ≤ 13 + (e - a) := by
  unfold tkOut
  rw [if_neg (show ¬ ((4 : Int32), a, e, m, ([] : List At)).1 = 0 by show ¬ (4 : Int32) = 0; decide), if_neg (show ¬ ((4 : Int32), a, e, m, ([] : List At)).1 = 3 by show ¬ (4 : Int32) = 3; decide), if_pos rfl]
  by_cases h : a = e
  · show ([60, 33, 68, 79, 67, 84, 89, 80, 69] ++ (if a = e then [62] else _) : List Int32).length ≤ _
    rw [if_pos h]; simp; omega
  · show ([60, 33, 68, 79, 67, 84, 89, 80, 69] ++ (if a = e then [62] else _) : List Int32).length ≤ _
    rw [if_neg h]
    by_cases hm : m = 0
    · simp only [hm, if_true, List.length_append, List.length_map, slice_len, List.length_cons, List.length_nil]; omega
    · simp only [hm, if_false, List.length_append, List.length_map, slice_len, List.length_cons, List.length_nil]; omega
/-- bounds inside a doctype -/
def ID (g n p : Nat) (fl : Fl) (row : List Int32) (TL : List Tk) (cs au ac : Nat) : Prop := p ≤ n ∧ row.length + 9 ≤ p ∧ TL.length + 9 ≤ p ∧ fl.length + g ≤ 2 * p ∧ cs ≤ row.length ∧ au ≤ p ∧ ac ≤ p ∧ (∀ tk ∈ TL, TkV row.length tk) ∧ (∀ x ∈ row, ∃ c : Nat, c ≤ 1114111 ∧ x = nI c) ∧ (wOut (rw row) TL).length + 13 + (row.length - cs) ≤ 8 * p
theorem ID_done {g n p : Nat} {fl : Fl} {row : List Int32} {TL : List Tk} {cs au ac : Nat} {cm : Int32} (hcm : cm = 0 ∨ cm = 1) (h : ID g n p fl row TL cs au ac) (b q : Nat) (fl' : Fl) (hfl : fl'.length ≤ fl.length + g + b) (hq : p ≤ q) (hqn : q ≤ n) : INV b n q fl' row (TL ++ [(4, cs, row.length, cm, [])]) none au ac := by
  obtain ⟨h1, h2, h3, h4, h5, h6, h7, h8, h9, h10⟩ := h
  refine ⟨hqn, by omega, ?_, by omega, (fun a h => by cases h), by omega, by omega, fun tk ht => ?_, h9, ?_⟩
  · show (TL ++ [_]).length ≤ q
    rw [lenS]; omega
  · rcases List.mem_append.mp ht with ht | ht
    · exact h8 tk ht
    · rw [List.mem_singleton.mp ht]
      exact ⟨h5, Nat.le_refl _, hcm, fun a h => by simp at h⟩
  · show (wOut (rw row) (TL ++ [_])).length ≤ 8 * q
    rw [wOut_snoc, List.length_append]
    have := doc_len (rw row) cs row.length cm
    omega
theorem ID_adv {g n p : Nat} {fl : Fl} {row : List Int32} {TL : List Tk} {cs au ac : Nat} (h : ID g n p fl row TL cs au ac) {q : Nat} (hq : p ≤ q) (hqn : q ≤ n) : ID g n q fl row TL cs au ac := by
  obtain ⟨h1, h2, h3, h4, h5, h6, h7, h8, h9, h10⟩ := h
  exact ⟨hqn, by omega, by omega, by omega, h5, by omega, by omega, h8, h9, by omega⟩
theorem ID_step {g n : Nat} {p : Nat} {fl fl' : Fl} {row : List Int32} {TL : List Tk} {cs au ac : Nat} (h : ID g n p fl row TL cs au ac) (hp : p < n) (hl : fl'.length ≤ fl.length + 1) {c : Nat} (hc : c ≤ 1114111) : ID g n (p + 1) fl' (row ++ [nI c]) TL cs au ac := by
  obtain ⟨h1, h2, h3, h4, h5, h6, h7, h8, h9, h10⟩ := h
  refine ⟨by omega, by rw [lenS]; omega, by omega, by omega, by rw [lenS]; omega, by omega, by omega, fun tk ht => TkV_mono (h8 tk ht) (by rw [lenS]; omega), fun x hx => ?_, ?_⟩
  · rcases List.mem_append.mp hx with hx | hx
    · exact h9 x hx
    · rw [List.mem_singleton.mp hx]; exact ⟨c, hc, rfl⟩
  · rw [wOut_rw h8, lenS]; omega
theorem ID_fault {g n p : Nat} {fl : Fl} {row : List Int32} {TL : List Tk} {cs au ac : Nat} (h : ID (g + 1) n p fl row TL cs au ac) (x : Int32 × Nat) : ID g n p (fl ++ [x]) row TL cs au ac := by
  obtain ⟨i1, i2, i3, i4, i5, i6, i7, i8, i9, i10⟩ := h
  exact ⟨i1, i2, i3, by rw [lenS]; omega, i5, i6, i7, i8, i9, i10⟩
theorem ID_less {g n p : Nat} {fl : Fl} {row : List Int32} {TL : List Tk} {cs au ac : Nat} (h : ID (g + 1) n p fl row TL cs au ac) : ID g n p fl row TL cs au ac := by
  obtain ⟨i1, i2, i3, i4, i5, i6, i7, i8, i9, i10⟩ := h
  exact ⟨i1, i2, i3, by omega, i5, i6, i7, i8, i9, i10⟩
