theorem c_bogus_step {n : Nat} {C : Nat → Int32} (hC : CHs n C) {p : Nat} {fl : Fl} {row : List Int32} {TL : List Tk} {cs : Nat} {cm : Int32} {au : Nat} {s : CS} (h : K1 n C p fl row TL 3 cs cm au s) (hp : p < n) (h62 : ¬ C p = 62) (hf : fl.length < 1203) (hu : row.length < 400) : ∃ s', Reach 1 17 s 17 s' ∧ K1 n C (p + 1) (flK (C p) p fl) (row ++ [rK (C p)]) TL 3 cs cm au s' := by
  obtain ⟨hS, hT, hM⟩ := h
  have hn := hC.1
  have he : ¬ C p = -1 := fun h => absurd ((ch_end hC).mp h) (by omega)
  obtain ⟨s1, t1, e1, b1, b2, b3⟩ := c_known hS hT (C p) hf hu
  obtain ⟨s2, e2, b4⟩ := c_then hn b1 17 hp
  refine ⟨(s.1, s.2.1, s2, s.2.2.2.1, t1), step1 (by decide) (c_next hC hS (by omega)) ?_, b4, b2, MC1_sc hM b3⟩
  rw [fol_17]
  unfold f_CommentWays_bogus
  rw [if_neg he, if_neg h62, e1, Option.bind_some, Option.bind_some, e2]
theorem c_bogus_gt {n : Nat} {C : Nat → Int32} (hC : CHs n C) {p : Nat} {fl : Fl} {row : List Int32} {TL : List Tk} {cs : Nat} {cm : Int32} {au : Nat} {s : CS} (h : K1 n C p fl row TL 3 cs cm au s) (hp : p < n) (h62 : C p = 62) (ht : TL.length < 400) : ∃ s', Reach 1 17 s 0 s' ∧ K0 n C (p + 1) fl row (TL ++ [(3, cs, row.length, cm, [])]) none au s' := by
  obtain ⟨hS, hT, hM⟩ := h
  have hn := hC.1
  obtain ⟨t1, e1, b1, b2⟩ := c_done hT hM ht
  obtain ⟨s2, e2, b4⟩ := c_then hn hS 0 hp
  refine ⟨(s.1, s.2.1, s2, s.2.2.2.1, f_Tokens_tell t1), step1 (by decide) (c_next hC hS (by omega)) ?_, b4, b1, b2⟩
  rw [fol_17]
  unfold f_CommentWays_bogus f_Ways_done
  rw [h62, if_neg (by decide), if_pos rfl, e1, Option.bind_some, Option.bind_some, Option.bind_some, e2]
theorem KE_of0 {n : Nat} {C : Nat → Int32} {p : Nat} {fl : Fl} {row : List Int32} {TL : List Tk} {tx : Option Nat} {au : Nat} {s : CS} (hS : BS n C p fl s.2.2.1) (hT : BT row TL s.2.2.2.2) (hM : MC0 au TL tx s.2.2.2.2) : KE n C fl row TL tx au s := ⟨⟨p, hS⟩, hT, hM.1, hM.2.2.2⟩
theorem JE_of0 {n : Nat} {C : Nat → Int32} {p : Nat} {fl : Fl} {row : List Int32} {TL : List Tk} {tx : Option Nat} {ac : Nat} {M : SMo} (he : q_Mo_ended M = 1) (hB : BM n C p fl row TL M) (hM : MM0 ac row.length TL tx M) : JE n C fl row TL tx ac M := ⟨he, ⟨p, hB⟩, hM.1, hM.2.2.elim Or.inl (fun ⟨a, h1, h2⟩ => Or.inr ⟨a, h1, hM.2.1, h2⟩)⟩
theorem c_bogus_end {n : Nat} {C : Nat → Int32} (hC : CHs n C) {p : Nat} {fl : Fl} {row : List Int32} {TL : List Tk} {cs : Nat} {cm : Int32} {au : Nat} {s : CS} (h : K1 n C p fl row TL 3 cs cm au s) (hp : p = n) (ht : TL.length < 400) : ∃ s', Reach 1 17 s 29 s' ∧ KE n C fl row (TL ++ [(3, cs, row.length, cm, [])]) none au s' := by
  obtain ⟨hS, hT, hM⟩ := h
  have hn := hC.1
  have he : C p = -1 := (ch_end hC).mpr (by omega)
  obtain ⟨t1, e1, b1, b2⟩ := c_done hT hM ht
  refine ⟨(s.1, s.2.1, s.2.2.1, s.2.2.2.1, f_Tokens_tell t1), step1 (by decide) (c_next hC hS (by omega)) ?_, KE_of0 (s := (s.1, s.2.1, s.2.2.1, s.2.2.2.1, f_Tokens_tell t1)) hS b1 b2⟩
  rw [fol_17]
  unfold f_CommentWays_bogus f_Ways_toldAtEnd
  rw [he, if_pos rfl, e1, Option.bind_some, Option.bind_some, Option.bind_some]
/-- p and ended are set together -/
theorem m_pe {n : Nat} {C : Nat → Int32} {p : Nat} {fl : Fl} {row : List Int32} {TL : List Tk} {M : SMo} (h : BM n C p fl row TL M) (e : Int32) : ∃ M', u_Mo_p_ended M (q_Mo_p M + 1) e = M' ∧ BM n C (p + 1) fl row TL M' ∧ EF M M' ∧ q_Mo_ended M' = e ∧ SM M M' ∧ SX M M' := by
  obtain ⟨h1, h2, h3, h4, h5, h6, h7, h8⟩ := h
  refine ⟨_, rfl, ⟨h1, h2, ?_, h4, h5, h6, h7, h8⟩, EF.rf M, rfl, SM.rf M, rfl, rfl⟩
  show q_Mo_p M + 1 = nI (p + 1)
  rw [h3, nI_1]
theorem m_en {n : Nat} {C : Nat → Int32} {p : Nat} {fl : Fl} {row : List Int32} {TL : List Tk} {M : SMo} (h : BM n C p fl row TL M) (e : Int32) : ∃ M', u_Mo_ended M e = M' ∧ BM n C p fl row TL M' ∧ EF M M' ∧ q_Mo_ended M' = e ∧ SM M M' ∧ SX M M' := by
  obtain ⟨h1, h2, h3, h4, h5, h6, h7, h8⟩ := h
  exact ⟨_, rfl, ⟨h1, h2, h3, h4, h5, h6, h7, h8⟩, EF.rf M, rfl, SM.rf M, rfl, rfl⟩
/-- bounds inside a bogus comment -/
def IB (n p : Nat) (fl : Fl) (row : List Int32) (TL : List Tk) (cs au ac : Nat) : Prop := p ≤ n ∧ row.length < p ∧ TL.length < p ∧ fl.length ≤ 2 * p ∧ cs ≤ row.length ∧ au ≤ p ∧ ac ≤ p ∧ (∀ tk ∈ TL, TkV row.length tk) ∧ (∀ x ∈ row, ∃ c : Nat, c ≤ 1114111 ∧ x = nI c) ∧ (wOut (rw row) TL).length + 7 + (row.length - cs) ≤ 8 * p
theorem rK_ok {n : Nat} {C : Nat → Int32} (hC : CHs n C) {p : Nat} (hp : p < n) : ∃ c : Nat, c ≤ 1114111 ∧ rK (C p) = nI c := by
  unfold rK
  obtain ⟨c, hc, e⟩ := hC.2.1 p hp
  by_cases h : C p = 0
  · rw [if_pos h]; exact ⟨65533, by decide, rfl⟩
  · rw [if_neg h, e]; exact ⟨c, by omega, rfl⟩
theorem IB_step {n : Nat} {C : Nat → Int32} (hC : CHs n C) {p : Nat} {fl : Fl} {row : List Int32} {TL : List Tk} {cs au ac : Nat} (h : IB n p fl row TL cs au ac) (hp : p < n) : IB n (p + 1) (flK (C p) p fl) (row ++ [rK (C p)]) TL cs au ac := by
  obtain ⟨h1, h2, h3, h4, h5, h6, h7, h8, h9, h10⟩ := h
  have hl := flK_len (C p) p fl
  refine ⟨by omega, by rw [lenS]; omega, by omega, by omega, by rw [lenS]; omega, by omega, by omega, fun tk ht => TkV_mono (h8 tk ht) (by rw [lenS]; omega), fun x hx => ?_, ?_⟩
  · rcases List.mem_append.mp hx with hx | hx
    · exact h9 x hx
    · rw [List.mem_singleton.mp hx]; exact rK_ok hC hp
  · rw [wOut_rw h8, lenS]; omega
theorem IB_done {n p : Nat} {fl : Fl} {row : List Int32} {TL : List Tk} {cs au ac : Nat} {cm : Int32} (hcm : cm = 0 ∨ cm = 1) (h : IB n p fl row TL cs au ac) (b q : Nat) (hq : p ≤ q) (hqn : q ≤ n) : INV b n q fl row (TL ++ [(3, cs, row.length, cm, [])]) none au ac := by
  obtain ⟨h1, h2, h3, h4, h5, h6, h7, h8, h9, h10⟩ := h
  refine ⟨hqn, by omega, ?_, by omega, (fun a h => by cases h), by omega, by omega, fun tk ht => ?_, h9, ?_⟩
  · show (TL ++ [_]).length ≤ q
    rw [lenS]; omega
  · rcases List.mem_append.mp ht with ht | ht
    · exact h8 tk ht
    · rw [List.mem_singleton.mp ht]
      exact ⟨h5, Nat.le_refl _, hcm, fun a h => by simp at h⟩
  · show (wOut (rw row) (TL ++ [_])).length ≤ 8 * q
    rw [wOut_snoc, List.length_append, com_len]; omega
theorem bogus_sim {n : Nat} {C : Nat → Int32} (hC : CHs n C) {p0 : Nat} : ∀ (d : Nat) (p : Nat) (fl : Fl) (row : List Int32) (TL : List Tk) (cs au ac kb f : Nat) (s : CS) (M : SMo), n - p ≤ d → d < f → p0 < p → K1 n C p fl row TL 3 cs 0 au s → J1 n C p fl row TL 3 cs 0 ac M → IB n p fl row TL cs au ac → kb ≤ 15 * (p - p0) → ∃ M', f_Mo_bogus_0 f M = some M' ∧ OUT n C M p0 kb 17 s M' := by
  have hn := hC.1
  intro d
  induction d with
  | zero =>
    intro p fl row TL cs au ac kb f s M hd hf hp0 hK hJ hI hk
    obtain ⟨f, rfl⟩ : ∃ q, f = q + 1 := ⟨f - 1, by omega⟩
    have hp : p = n := by have := hI.1; omega
    obtain ⟨he, hB, hM⟩ := hJ
    have hc : C p = -1 := (ch_end hC).mpr (by omega)
    obtain ⟨s', r1, k1⟩ := c_bogus_end hC hK hp (by have := hI.2.2.1; omega)
    obtain ⟨M1, e1, b1, b2, b3, b4, b5⟩ := m_pe hB 1
    obtain ⟨M2, e2, d1, d2, d3, d4⟩ := m_tell b1 (MM1_s hM b4 b5) hI.2.2.2.2.1 (by have := hI.2.2.1; omega)
    refine ⟨M2, ?_, b2.trans d2, 1, s', fl, row, _, none, au, ac, Or.inr ⟨r1, by omega, k1, JE_of0 (Eq.trans d3 b3) d1 d4, IB_done (Or.inl rfl) hI 3 n (by omega) (Nat.le_refl _)⟩⟩
    rw [f_Mo_bogus_0, m_cp hC hB (by omega), Option.bind_some, if_pos hc, Option.bind_some, if_pos hc, e1, e2, Option.bind_some]
  | succ d ih =>
    intro p fl row TL cs au ac kb f s M hd hf hp0 hK hJ hI hk
    obtain ⟨f, rfl⟩ : ∃ q, f = q + 1 := ⟨f - 1, by omega⟩
    by_cases hpn : p = n
    · exact ih p fl row TL cs au ac kb (f + 1) s M (by omega) (by omega) hp0 hK hJ hI hk
    have hp : p < n := by have := hI.1; omega
    obtain ⟨he, hB, hM⟩ := hJ
    have hc : ¬ C p = -1 := fun h => absurd ((ch_end hC).mp h) (by omega)
    by_cases h62 : C p = 62
    · obtain ⟨s', r1, k1⟩ := c_bogus_gt hC hK hp h62 (by have := hI.2.2.1; omega)
      obtain ⟨M1, e1, b1, b2, b3, b4, b5⟩ := m_pe hB 0
      obtain ⟨M2, e2, d1, d2, d3, d4⟩ := m_tell b1 (MM1_s hM b4 b5) hI.2.2.2.2.1 (by have := hI.2.2.1; omega)
      refine ⟨M2, ?_, b2.trans d2, 1, s', fl, row, _, none, au, ac, Or.inl ⟨p + 1, r1, by omega, by omega, k1, ⟨Eq.trans d3 b3, d1, d4⟩, IB_done (Or.inl rfl) hI 0 (p + 1) (by omega) (by omega)⟩⟩
      rw [f_Mo_bogus_0, m_cp hC hB (by omega), Option.bind_some, if_neg hc, Option.bind_some, if_pos h62, Option.bind_some, if_neg hc, e1, e2, Option.bind_some]
    · obtain ⟨s', r1, k1⟩ := c_bogus_step hC hK hp h62 (by have := hI.2.2.2.1; omega) (by have := hI.2.1; omega)
      obtain ⟨M1, e1, b1, b2, b3, b4, b5⟩ := m_known hC hB (by omega) (by have := hI.2.2.2.1; omega)
      obtain ⟨M2, e2, d1, d2, d3, d4, d5⟩ := m_keep b1 (rK (C p)) (by have := hI.2.1; omega)
      obtain ⟨M', e3, o1⟩ := ih (p + 1) (flK (C p) p fl) (row ++ [rK (C p)]) TL cs au ac (kb + 1) f s' M2 (by omega) (by omega) (by omega) k1 ⟨Eq.trans d3 (Eq.trans b3 he), d1, MM1_s (MM1_s hM b4 b5) d4 d5⟩ (IB_step hC hI hp) (by omega)
      refine ⟨M', ?_, OUT_pre r1 (OUT_EF (b2.trans d2) o1)⟩
      rw [f_Mo_bogus_0, m_cp hC hB (by omega), Option.bind_some, if_neg hc, Option.bind_some, if_neg h62, e1, Option.bind_some, e2, Option.bind_some, e3]
