theorem INV_of {n p : Nat} {fl : Fl} {row : List Int32} {TL : List Tk} {tx : Option Nat} {au ac : Nat} (b : Nat) (h : I0r 0 n p fl row TL tx au ac) : INV b n p fl row TL tx au ac := by
  obtain ⟨i1, i2, i3, i4, i5, i6, i7, i8, i9, i10⟩ := h
  exact ⟨i1, by omega, by omega, by omega, i5, i6, i7, i8, i9, by omega⟩
theorem c_addText {row : List Int32} {TL : List Tk} {au : Nat} {tx : Option Nat} {s : STokens} (hB : BT row TL s) (hM : MC0 au TL tx s) (ht : TL.length < 400) (hu : row.length < 400) (c : Int32) : ∃ s', f_Reader_addToText c s = some s' ∧ BT (row ++ [c]) TL s' ∧ MC0 au TL (some (tx.getD row.length)) s' := by
  obtain ⟨s1, e1, b1, b2⟩ := c_beginText hB hM ht
  obtain ⟨s2, e2, b3, b4⟩ := c_add b1 c hu
  refine ⟨s2, ?_, b3, MC0_sc b2 b4⟩
  unfold f_Reader_addToText
  rw [e1, Option.bind_some, e2, Option.bind_some]
theorem I0r_text {r n p : Nat} {fl fl' : Fl} {row : List Int32} {TL : List Tk} {tx : Option Nat} {au ac : Nat} (h : I0r (r + 1) n p fl row TL tx au ac) (hl : fl'.length ≤ fl.length + 2) {c : Nat} (hc : c < 100000) : I0r r n p fl' (row ++ [nI c]) TL (some (tx.getD row.length)) au ac := by
  obtain ⟨i1, i2, i3, i4, i5, i6, i7, i8, i9, i10⟩ := h
  have hx : tx.getD row.length ≤ row.length := by
    cases tx with
    | none => exact Nat.le_refl _
    | some a => exact Nat.le_of_lt (i5 a rfl)
  have hfl : (fT (row ++ [nI c]).length (some (tx.getD row.length)) TL).length = TL.length + 1 := by unfold fT; simp only []; rw [lenS]
  have hfl2 : TL.length ≤ (fT row.length tx TL).length := (fT_len _ _ _).1
  refine ⟨i1, by rw [lenS]; omega, ?_, by omega, ?_, i6, i7, ?_, ?_, ?_⟩
  · rw [hfl]; omega
  · intro a ha
    cases ha
    rw [lenS]; omega
  · refine fT_V (fun tk ht => TkV_mono (i8 tk (fT_sub ht)) (by rw [lenS]; omega)) (fun a ha => ?_)
    cases ha
    rw [lenS]; omega
  · intro x hx
    rcases List.mem_append.mp hx with hx | hx
    · exact i9 x hx
    · rw [List.mem_singleton.mp hx]; exact ⟨c, by omega, rfl⟩
  · rw [cost_text i8]
    have := (encT_len c (by omega)).2 hc
    omega
theorem IB_of {r n p : Nat} {fl fl' : Fl} {row : List Int32} {TL : List Tk} {tx : Option Nat} {au ac : Nat} (h : I0r (r + 1) n p fl row TL tx au ac) (hl : fl'.length ≤ fl.length + 2) : IB n p fl' row (fT row.length tx TL) row.length au ac := by
  obtain ⟨i1, i2, i3, i4, i5, i6, i7, i8, i9, i10⟩ := h
  exact ⟨i1, by omega, by omega, by omega, Nat.le_refl _, i6, i7, i8, i9, by omega⟩
theorem RCon_EF {M M' : SMo} (h : RCon M) (e : EF M M') : RCon M' := ⟨e.2.2.2.2.1.trans h.1, e.2.2.2.2.2.1.trans h.2.1, e.2.2.2.2.2.2.trans h.2.2⟩
/-- what is asked of a tag's walk: from behind begin(kind) on -/
def SimTag (n : Nat) (C : Nat → Int32) : Prop := ∀ (p0 p kb : Nat) (kd : Int32) (fl : Fl) (row : List Int32) (TL : List Tk) (au ac : Nat) (s : CS) (M : SMo), (kd = 1 ∨ kd = 2) → p0 < p → p < n → f_Mt_isLetter (C p) = 1 → K1 n C p fl row TL kd row.length 0 au s → J1 n C p fl row TL kd row.length 0 ac M → RCon M → I0r 1 n p fl row TL none au ac → kb ≤ 3 * (p - p0) → ∃ M', f_Mo_tagName M = some M' ∧ OUT n C M p0 kb 7 s M'
/-- of a comment's: behind '<!--' and begin(3) -/
def SimCom (n : Nat) (C : Nat → Int32) : Prop := ∀ (p0 p kb : Nat) (fl : Fl) (row : List Int32) (TL : List Tk) (au ac : Nat) (s : CS) (M : SMo), p0 + 4 ≤ p → p ≤ n → K1 n C p fl row TL 3 row.length 0 au s → J1 n C p fl row TL 3 row.length 0 ac M → I0r 4 n p fl row TL none au ac → kb ≤ 10 → ∃ M', f_Mo_comment M = some M' ∧ OUT n C M p0 kb 18 s M'
/-- of a reference's, outside: at the & -/
def SimRef (n : Nat) (C : Nat → Int32) : Prop := ∀ (p : Nat) (fl : Fl) (row : List Int32) (TL : List Tk) (tx : Option Nat) (au ac : Nat) (s : CS) (M : SMo), p < n → C p = 38 → K0 n C p fl row TL tx au s → J0 n C p fl row TL tx ac M → RCon M → INV 0 n p fl row TL tx au ac → ∃ M', f_Mo_reference 0 M = some M' ∧ OUT n C M p 0 0 s M'
theorem I0r_flush {r n p : Nat} {fl : Fl} {row : List Int32} {TL : List Tk} {tx : Option Nat} {au ac : Nat} (h : I0r r n p fl row TL tx au ac) : I0r r n p fl row (fT row.length tx TL) none au ac := by
  obtain ⟨i1, i2, i3, i4, i5, i6, i7, i8, i9, i10⟩ := h
  exact ⟨i1, i2, i3, i4, (fun a h => by cases h), i6, i7, i8, i9, i10⟩
theorem I0r_less {r n p : Nat} {fl fl' : Fl} {row : List Int32} {TL : List Tk} {tx : Option Nat} {au ac : Nat} (h : I0r (r + 1) n p fl row TL tx au ac) (hl : fl'.length ≤ fl.length + 2) : I0r r n p fl' row TL tx au ac := by
  obtain ⟨i1, i2, i3, i4, i5, i6, i7, i8, i9, i10⟩ := h
  exact ⟨i1, by omega, by omega, by omega, i5, i6, i7, i8, i9, by omega⟩
theorem isLetter_01 (c : Int32) : f_Mt_isLetter c = 0 ∨ f_Mt_isLetter c = 1 := by
  unfold f_Mt_isLetter
  split
  · split
    · exact Or.inl rfl
    · split
      · exact Or.inl rfl
      · exact Or.inr rfl
  · split
    · exact Or.inr rfl
    · split
      · exact Or.inl rfl
      · split
        · exact Or.inl rfl
        · exact Or.inr rfl
/-- behind '</' -/
theorem stop_sim {n : Nat} {C : Nat → Int32} (hC : CHs n C) (hTag : SimTag n C) {p0 p kb : Nat} {fl : Fl} {row : List Int32} {TL : List Tk} {tx : Option Nat} {au ac : Nat} {s : CS} {M : SMo} (hp0 : p0 + 2 ≤ p) (hK : K0 n C p fl row TL tx au s) (hJ : J0 n C p fl row TL tx ac M) (hcn : RCon M) (hI : I0r 2 n p fl row TL tx au ac) (hkb : kb ≤ 4) : ∃ M', f_Mo_stop M = some M' ∧ OUT n C M p0 kb 2 s M' := by
  have hn := hC.1
  obtain ⟨i1, i2, i3, i4, i5, i6, i7, i8, i9, i10⟩ := id hI
  obtain ⟨hS, hT, hM⟩ := hK
  have hf2 := fT_len row.length tx TL
  unfold f_Mo_stop
  rw [m_cp hC hJ.2.1 (by omega), Option.bind_some, isLetter_eq, hJ.2.1.2.2.1]
  rcases isLetter_01 (C p) with hl | hl
  · rw [if_pos hl]
    by_cases hc : C p = -1
    · have hp : p = n := by have := (ch_end hC).mp hc; omega
      obtain ⟨M1, w1, w2, w3, w4, w5, w6⟩ := m_wrong hJ.2.1 3 p (by omega)
      obtain ⟨M2, e2, b1, b2, b3, b4⟩ := m_toText w2 (MM0_s hJ.2.2 w5 w6) 60 (by omega)
      obtain ⟨M3, e3, d1, d2, d3, d4⟩ := m_toText b1 b4 47 (by rw [lenS]; omega)
      obtain ⟨M4, e4, g1, g2, g3, g4, g5⟩ := m_en d1 1
      obtain ⟨s1, a1, a2⟩ := c_wrong hS 3 (by omega)
      obtain ⟨t1, a3, a4, a5⟩ := c_addText hT hM (by omega) (by omega) 60
      obtain ⟨t2, a6, a7, a8⟩ := c_addText a4 a5 (by omega) (by rw [lenS]; omega) 47
      have hI2 := I0r_text (r := 0) (I0r_text (r := 1) (fl' := fl ++ [(3, p)]) hI (by rw [lenS]; omega) (c := 60) (by decide)) (fl' := fl ++ [(3, p)]) (by omega) (c := 47) (by decide)
      subst hp
      refine ⟨M4, ?_, w3.trans (b2.trans (d2.trans g2)), 1, (s.1, s.2.1, s1, s.2.2.2.1, t2), _, _, TL, _, au, ac, Or.inr ⟨step1 (by decide) (c_next hC hS (by omega)) ?_, by omega, KE_of0 (s := (s.1, s.2.1, s1, s.2.2.2.1, t2)) a2 a7 a8, JE_of0 g3 g1 (MM0_s d4 g4 g5), INV_of 3 hI2⟩⟩
      · rw [if_neg (by rw [hc]; decide), if_pos hc, w1, Option.bind_some, e2, Option.bind_some, e3, Option.bind_some, e4]
      · rw [fol_2]; unfold f_Reader_endTag
        rw [if_pos hl, if_pos hc, a1, Option.bind_some, a3, Option.bind_some, a6, Option.bind_some, Option.bind_some]
    have hp : p < n := by
      by_cases h : p < n
      · exact h
      · exact absurd ((ch_end hC).mpr (by omega)) hc
    by_cases h62 : C p = 62
    · obtain ⟨M1, w1, w2, w3, w4, w5, w6⟩ := m_wrong hJ.2.1 5 p (by omega)
      obtain ⟨M2, e2, b1, b2, b3, b4, b5⟩ := m_adv w2
      obtain ⟨s1, a1, a2⟩ := c_wrong hS 5 (by omega)
      obtain ⟨s2, a3, a4⟩ := c_then hn a2 0 hp
      have hI2 : I0r 0 n (p + 1) (fl ++ [(5, p)]) row TL tx au ac := I0r_less (I0r_less (I0r_less (I0r_adv hI 1 (by omega)) (fl' := fl) (by omega)) (fl' := fl) (by omega)) (by rw [lenS]; omega)
      refine ⟨M2, ?_, w3.trans b2, 1, (s.1, s.2.1, s2, s.2.2.2.1, s.2.2.2.2), _, row, TL, tx, au, ac, Or.inl ⟨p + 1, step1 (by decide) (c_next hC hS (by omega)) ?_, by omega, by omega, ⟨a4, hT, hM⟩, ⟨Eq.trans b3 (Eq.trans w4 hJ.1), b1, MM0_s (MM0_s hJ.2.2 w5 w6) b4 b5⟩, INV_of 0 hI2⟩⟩
      · rw [if_pos h62, w1, Option.bind_some, e2]
      · rw [fol_2]; unfold f_Reader_endTag
        rw [if_pos hl, if_neg hc, if_pos h62, a1, Option.bind_some, a3, Option.bind_some]
    · obtain ⟨M1, w1, w2, w3, w4, w5, w6⟩ := m_wrong hJ.2.1 4 p (by omega)
      obtain ⟨M2, e2, b1, b2, b3, b4⟩ := m_begin w2 (MM0_s hJ.2.2 w5 w6) i5 (by omega) 3 (by omega)
      obtain ⟨s1, a1, a2⟩ := c_wrong hS 4 (by omega)
      obtain ⟨t1, a3, a4, a5⟩ := c_begin hT hM 3 (by omega)
      have r1 : Reach 1 2 s 17 (s.1, s.2.1, s1, s.2.2.2.1, t1) := step1 (by decide) (c_next hC hS (by omega)) (by
        rw [fol_2]; unfold f_Reader_endTag f_Reader_bogus
        rw [if_pos hl, if_neg hc, if_neg h62, a1, Option.bind_some, a3, Option.bind_some, Option.bind_some, Option.bind_some])
      obtain ⟨M', e3, o1⟩ := bogus_sim hC (p0 := p0) (n - p) p (fl ++ [(4, p)]) row (fT row.length tx TL) row.length au ac (kb + 1) FU (s.1, s.2.1, s1, s.2.2.2.1, t1) M2 (Nat.le_refl _) (by unfold FU; omega) (by omega) ⟨a2, a4, a5⟩ ⟨Eq.trans b3 (Eq.trans w4 hJ.1), b1, b4⟩ (IB_of hI (by rw [lenS]; omega)) (by omega)
      refine ⟨M', ?_, OUT_pre r1 (OUT_EF (w3.trans b2) o1)⟩
      have e3' : f_Mo_bogus M2 = some M' := e3
      rw [if_neg h62, if_neg hc, w1, Option.bind_some, e2, Option.bind_some, e3', Option.bind_some]
  · have hc : ¬ C p = -1 := fun h => by rw [h] at hl; exact absurd hl (by decide)
    have hp : p < n := by
      by_cases h : p < n
      · exact h
      · exact absurd ((ch_end hC).mpr (by omega)) hc
    have hl0 : ¬ f_Mt_isLetter (C p) = 0 := by rw [hl]; decide
    obtain ⟨M2, e2, b1, b2, b3, b4⟩ := m_begin hJ.2.1 hJ.2.2 i5 (by omega) 2 (by omega)
    obtain ⟨t1, a3, a4, a5⟩ := c_begin hT hM 2 (by omega)
    have r1 : Reach 1 2 s 7 (s.1, s.2.1, s.2.2.1, s.2.2.2.1, t1) := step1 (by decide) (c_next hC hS (by omega)) (by
      rw [fol_2]; unfold f_Reader_endTag
      rw [if_neg hl0, a3, Option.bind_some, Option.bind_some])
    obtain ⟨M', e3, o1⟩ := hTag p0 p (kb + 1) 2 fl row (fT row.length tx TL) au ac (s.1, s.2.1, s.2.2.1, s.2.2.2.1, t1) M2 (Or.inr rfl) (by omega) hp hl ⟨hS, a4, a5⟩ ⟨Eq.trans b3 hJ.1, b1, b4⟩ (RCon_EF hcn b2) (I0r_flush (I0r_less hI (by omega))) (by omega)
    exact ⟨M', by rw [if_neg hl0, e2, Option.bind_some, e3, Option.bind_some], OUT_pre r1 (OUT_EF b2 o1)⟩
