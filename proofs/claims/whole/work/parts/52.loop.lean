/-- behind '<' -/
theorem tag_sim {n : Nat} {C : Nat → Int32} (hC : CHs n C) (hTag : SimTag n C) (hCom : SimCom n C) {p0 p : Nat} {fl : Fl} {row : List Int32} {TL : List Tk} {tx : Option Nat} {au ac : Nat} {s : CS} {M : SMo} (hp0 : p0 + 1 ≤ p) (hK : K0 n C p fl row TL tx au s) (hJ : J0 n C p fl row TL tx ac M) (hcn : RCon M) (hI : I0r 1 n p fl row TL tx au ac) : ∃ M', f_Mo_tag M = some M' ∧ OUT n C M p0 1 1 s M' := by
  have hn := hC.1
  obtain ⟨i1, i2, i3, i4, i5, i6, i7, i8, i9, i10⟩ := id hI
  have hK0 := hK
  obtain ⟨hS, hT, hM⟩ := hK
  have hf2 := fT_len row.length tx TL
  unfold f_Mo_tag
  rw [m_cp hC hJ.2.1 (by omega), Option.bind_some, isLetter_eq, hJ.2.1.2.2.1]
  by_cases hc : C p = -1
  · have hp : p = n := by have := (ch_end hC).mp hc; omega
    obtain ⟨M1, w1, w2, w3, w4, w5, w6⟩ := m_wrong hJ.2.1 3 p (by omega)
    obtain ⟨M2, e2, b1, b2, b3, b4⟩ := m_toText w2 (MM0_s hJ.2.2 w5 w6) 60 (by omega)
    obtain ⟨M4, e4, g1, g2, g3, g4, g5⟩ := m_en b1 1
    obtain ⟨s1, a1, a2⟩ := c_wrong hS 3 (by omega)
    obtain ⟨t1, a3, a4, a5⟩ := c_addText hT hM (by omega) (by omega) 60
    have hI2 := I0r_text (r := 0) (fl' := fl ++ [(3, p)]) hI (by rw [lenS]; omega) (c := 60) (by decide)
    have hl : f_Mt_isLetter (C p) = 0 := by rw [hc]; decide
    subst hp
    refine ⟨M4, ?_, w3.trans (b2.trans g2), 1, (s.1, s.2.1, s1, s.2.2.2.1, t1), _, _, TL, _, au, ac, Or.inr ⟨step1 (by decide) (c_next hC hS (by omega)) ?_, by omega, KE_of0 (s := (s.1, s.2.1, s1, s.2.2.2.1, t1)) a2 a4 a5, JE_of0 g3 g1 (MM0_s b4 g4 g5), INV_of 3 hI2⟩⟩
    · rw [if_neg (by rw [hc]; decide), if_neg (by rw [hc]; decide), if_pos hl, if_neg (by rw [hc]; decide), if_pos hc, w1, Option.bind_some, e2, Option.bind_some, e4]
    · rw [fol_1]; unfold f_Reader_tag
      rw [if_pos hl, if_pos hc, a1, Option.bind_some, a3, Option.bind_some, Option.bind_some]
  have hp : p < n := by
    by_cases h : p < n
    · exact h
    · exact absurd ((ch_end hC).mpr (by omega)) hc
  by_cases h33 : C p = 33
  · have hl : f_Mt_isLetter (C p) = 0 := by rw [h33]; decide
    obtain ⟨M1, g1, g2, g3, g4, g5, g6⟩ := m_setp hJ.2.1 (p + 1) (v := nI p + 1) (nI_1 p)
    obtain ⟨s1, a1, a2⟩ := c_then hn hS 16 hp
    have r1 : Reach 1 1 s 16 (s.1, s.2.1, s1, s.2.2.2.1, s.2.2.2.2) := step1 (by decide) (c_next hC hS i1) (by
      rw [fol_1]; unfold f_Reader_tag
      rw [if_pos hl, if_neg hc, if_pos h33, a1, Option.bind_some])
    obtain ⟨M', e3, o1⟩ := mark_sim hC hCom (p0 := p0) (p := p + 1) (kb := 1 + 1) (s := (s.1, s.2.1, s1, s.2.2.2.1, s.2.2.2.2)) (by omega) ⟨a2, hT, hM⟩ ⟨Eq.trans g4 hJ.1, g2, MM0_s hJ.2.2 g5 g6⟩ (I0r_adv hI 1 (by omega)) (by omega)
    exact ⟨M', by rw [if_pos h33, g1, e3, Option.bind_some], OUT_pre r1 (OUT_EF g3 o1)⟩
  by_cases h47 : C p = 47
  · have hl : f_Mt_isLetter (C p) = 0 := by rw [h47]; decide
    obtain ⟨M1, g1, g2, g3, g4, g5, g6⟩ := m_setp hJ.2.1 (p + 1) (v := nI p + 1) (nI_1 p)
    obtain ⟨s1, a1, a2⟩ := c_then hn hS 2 hp
    have r1 : Reach 1 1 s 2 (s.1, s.2.1, s1, s.2.2.2.1, s.2.2.2.2) := step1 (by decide) (c_next hC hS i1) (by
      rw [fol_1]; unfold f_Reader_tag
      rw [if_pos hl, if_neg hc, if_neg h33, if_pos h47, a1, Option.bind_some])
    obtain ⟨M', e3, o1⟩ := stop_sim hC hTag (p0 := p0) (p := p + 1) (kb := 1 + 1) (s := (s.1, s.2.1, s1, s.2.2.2.1, s.2.2.2.2)) (by omega) ⟨a2, hT, hM⟩ ⟨Eq.trans g4 hJ.1, g2, MM0_s hJ.2.2 g5 g6⟩ (RCon_EF hcn g3) (I0r_adv hI 1 (by omega)) (by omega)
    exact ⟨M', by rw [if_neg h33, if_pos h47, g1, e3, Option.bind_some], OUT_pre r1 (OUT_EF g3 o1)⟩
  rcases isLetter_01 (C p) with hl | hl
  · by_cases h63 : C p = 63
    · obtain ⟨M1, w1, w2, w3, w4, w5, w6⟩ := m_wrong hJ.2.1 2 p (by omega)
      obtain ⟨M2, e2, b1, b2, b3, b4⟩ := m_begin w2 (MM0_s hJ.2.2 w5 w6) i5 (by omega) 3 (by omega)
      obtain ⟨s1, a1, a2⟩ := c_wrong hS 2 (by omega)
      obtain ⟨t1, a3, a4, a5⟩ := c_begin hT hM 3 (by omega)
      have r1 : Reach 1 1 s 17 (s.1, s.2.1, s1, s.2.2.2.1, t1) := step1 (by decide) (c_next hC hS i1) (by
        rw [fol_1]; unfold f_Reader_tag f_Reader_bogus
        rw [if_pos hl, if_neg hc, if_neg h33, if_neg h47, if_pos h63, a1, Option.bind_some, a3, Option.bind_some, Option.bind_some, Option.bind_some])
      obtain ⟨M', e3, o1⟩ := bogus_sim hC (p0 := p0) (n - p) p (fl ++ [(2, p)]) row (fT row.length tx TL) row.length au ac (1 + 1) FU (s.1, s.2.1, s1, s.2.2.2.1, t1) M2 (Nat.le_refl _) (by unfold FU; omega) (by omega) ⟨a2, a4, a5⟩ ⟨Eq.trans b3 (Eq.trans w4 hJ.1), b1, b4⟩ (IB_of hI (by rw [lenS]; omega)) (by omega)
      have e3' : f_Mo_bogus M2 = some M' := e3
      exact ⟨M', by rw [if_neg h33, if_neg h47, if_pos hl, if_pos h63, w1, Option.bind_some, e2, Option.bind_some, e3', Option.bind_some], OUT_pre r1 (OUT_EF (w3.trans b2) o1)⟩
    · obtain ⟨M1, w1, w2, w3, w4, w5, w6⟩ := m_wrong hJ.2.1 4 p (by omega)
      obtain ⟨M2, e2, b1, b2, b3, b4⟩ := m_toText w2 (MM0_s hJ.2.2 w5 w6) 60 (by omega)
      obtain ⟨s1, a1, a2⟩ := c_wrong hS 4 (by omega)
      obtain ⟨t1, a3, a4, a5⟩ := c_addText hT hM (by omega) (by omega) 60
      have hI2 := I0r_text (r := 0) (fl' := fl ++ [(4, p)]) hI (by rw [lenS]; omega) (c := 60) (by decide)
      refine ⟨M2, ?_, w3.trans b2, 1, (s.1, s.2.1, s1, s.2.2.2.1, t1), _, _, TL, _, au, ac, Or.inl ⟨p, step1 (by decide) (c_next hC hS (by omega)) ?_, by omega, by omega, ⟨a2, a4, a5⟩, ⟨Eq.trans b3 (Eq.trans w4 hJ.1), b1, b4⟩, INV_of 0 hI2⟩⟩
      · rw [if_neg h33, if_neg h47, if_pos hl, if_neg h63, if_neg hc, w1, Option.bind_some, e2, Option.bind_some]
      · rw [fol_1]; unfold f_Reader_tag
        rw [if_pos hl, if_neg hc, if_neg h33, if_neg h47, if_neg h63, a1, Option.bind_some, a3, Option.bind_some, Option.bind_some]
  · have hl0 : ¬ f_Mt_isLetter (C p) = 0 := by rw [hl]; decide
    obtain ⟨M2, e2, b1, b2, b3, b4⟩ := m_begin hJ.2.1 hJ.2.2 i5 (by omega) 1 (by omega)
    obtain ⟨t1, a3, a4, a5⟩ := c_begin hT hM 1 (by omega)
    have r1 : Reach 1 1 s 7 (s.1, s.2.1, s.2.2.1, s.2.2.2.1, t1) := step1 (by decide) (c_next hC hS i1) (by
      rw [fol_1]; unfold f_Reader_tag
      rw [if_neg hl0, a3, Option.bind_some, Option.bind_some])
    obtain ⟨M', e3, o1⟩ := hTag p0 p (1 + 1) 1 fl row (fT row.length tx TL) au ac (s.1, s.2.1, s.2.2.1, s.2.2.2.1, t1) M2 (Or.inl rfl) (by omega) hp hl ⟨hS, a4, a5⟩ ⟨Eq.trans b3 hJ.1, b1, b4⟩ (RCon_EF hcn b2) (I0r_flush hI) (by omega)
    exact ⟨M', by rw [if_neg h33, if_neg h47, if_neg hl0, e2, Option.bind_some, e3, Option.bind_some], OUT_pre r1 (OUT_EF b2 o1)⟩
/-- one turn of the loop outside -/
theorem iter_sim {n : Nat} {C : Nat → Int32} (hC : CHs n C) (hTag : SimTag n C) (hCom : SimCom n C) (hRef : SimRef n C) {p : Nat} {fl : Fl} {row : List Int32} {TL : List Tk} {tx : Option Nat} {au ac : Nat} {s : CS} {M : SMo} (hK : K0 n C p fl row TL tx au s) (hJ : J0 n C p fl row TL tx ac M) (hcn : RCon M) (hI : INV 0 n p fl row TL tx au ac) : ∃ M', (∀ f, f_Mo_run_39 (f + 1) M = f_Mo_run_39 f M') ∧ OUT n C M p 0 0 s M' := by
  have hn := hC.1
  have hI0 := I0r_of hI
  obtain ⟨i1, i2, i3, i4, i5, i6, i7, i8, i9, i10⟩ := id hI0
  have hK0 := hK
  obtain ⟨hS, hT, hM⟩ := hK
  have hf2 := fT_len row.length tx TL
  have e0 : ∀ f, f_Mo_run_39 (f + 1) M = (if C p = (-1) then f_Mo_run_39 f (u_Mo_ended M 1) else if C p = 38 then (f_Mo_reference 0 M).bind fun x8 => f_Mo_run_39 f x8 else if C p = 60 then (f_Mo_tag (u_Mo_p M ((q_Mo_p M) + 1))).bind fun x7 => f_Mo_run_39 f x7 else if C p = 0 then (f_Mo_wrong 1 (q_Mo_p M) M).bind fun x5 => (f_Mo_toText (C p) x5).bind fun x6 => f_Mo_run_39 f (u_Mo_p x6 ((q_Mo_p x6) + 1)) else (f_Mo_toText (C p) M).bind fun x4 => f_Mo_run_39 f (u_Mo_p x4 ((q_Mo_p x4) + 1))) := by
    intro f
    rw [f_Mo_run_39, if_pos hJ.1, m_cp hC hJ.2.1 (by omega), Option.bind_some]
  by_cases hc : C p = -1
  · have hp : p = n := by have := (ch_end hC).mp hc; omega
    obtain ⟨M4, e4, g1, g2, g3, g4, g5⟩ := m_en hJ.2.1 1
    subst hp
    refine ⟨M4, fun f => by rw [e0 f, if_pos hc, e4], g2, 1, s, fl, row, TL, tx, au, ac, Or.inr ⟨step1 (by decide) (c_next hC hS i1) ?_, by omega, KE_of0 hS hT hM, JE_of0 g3 g1 (MM0_s hJ.2.2 g4 g5), INV_of 3 hI0⟩⟩
    rw [fol_0]; unfold f_Reader_data
    rw [if_pos hc, Option.bind_some]
  have hp : p < n := by
    by_cases h : p < n
    · exact h
    · exact absurd ((ch_end hC).mpr (by omega)) hc
  obtain ⟨cc, hcc, ecc⟩ := hC.2.1 p hp
  by_cases h38 : C p = 38
  · obtain ⟨M', e1, o1⟩ := hRef p fl row TL tx au ac s M hp h38 hK0 hJ hcn hI
    exact ⟨M', fun f => by rw [e0 f, if_neg hc, if_pos h38, e1, Option.bind_some], o1⟩
  by_cases h60 : C p = 60
  · obtain ⟨M1, g1, g2, g3, g4, g5, g6⟩ := m_adv hJ.2.1
    obtain ⟨s1, a1, a2⟩ := c_then hn hS 1 hp
    have r1 : Reach 1 0 s 1 (s.1, s.2.1, s1, s.2.2.2.1, s.2.2.2.2) := step1 (by decide) (c_next hC hS i1) (by
      rw [fol_0]; unfold f_Reader_data
      rw [if_neg hc, if_neg (by rw [h60]; decide), if_neg h38, if_pos h60, a1, Option.bind_some])
    obtain ⟨M', e1, o1⟩ := tag_sim hC hTag hCom (p0 := p) (p := p + 1) (s := (s.1, s.2.1, s1, s.2.2.2.1, s.2.2.2.2)) (Nat.le_refl _) ⟨a2, hT, hM⟩ ⟨Eq.trans g4 hJ.1, g2, MM0_s hJ.2.2 g5 g6⟩ (RCon_EF hcn g3) (I0r_adv hI0 1 (by omega))
    exact ⟨M', fun f => by rw [e0 f, if_neg hc, if_neg h38, if_pos h60, g1, e1, Option.bind_some], OUT_pre r1 (OUT_EF g3 o1)⟩
  -- a character of the text; the faults fl' behind it
  have txt : ∀ (fl' : Fl) (s1 : SSource) (M1 : SMo), fl'.length ≤ fl.length + 2 → BS n C p fl' s1 → BM n C p fl' row TL M1 → EF M M1 → EE M M1 → SM M M1 → SX M M1 → (∀ (t1 : STokens) (s2 : SSource), f_Reader_addToText (C p) s.2.2.2.2 = some t1 → f_Source_then 0 s1 = (0, s2) → Reach 1 0 s 0 (s.1, s.2.1, s2, s.2.2.2.1, t1)) → ∃ M2 M3, f_Mo_toText (C p) M1 = some M2 ∧ u_Mo_p M2 (q_Mo_p M2 + 1) = M3 ∧ OUT n C M p 0 0 s M3 := by
    intro fl' s1 M1 hl b1 b2 b3 b4 b5 b6 hr
    obtain ⟨M2, e2, d1, d2, d3, d4⟩ := m_toText b2 (MM0_s hJ.2.2 b5 b6) (C p) (by omega)
    obtain ⟨M3, e3, g1, g2, g3, g4, g5⟩ := m_adv d1
    obtain ⟨t1, a3, a4, a5⟩ := c_addText hT hM (by omega) (by omega) (C p)
    obtain ⟨s2, a6, a7⟩ := c_then hn b1 0 hp
    have hI2 := I0r_text (r := 0) (fl' := fl') (I0r_adv hI0 1 (by omega)) hl (c := cc) (by omega)
    rw [← ecc] at hI2
    exact ⟨M2, M3, e2, e3, b3.trans (d2.trans g2), 1, (s.1, s.2.1, s2, s.2.2.2.1, t1), fl', _, TL, _, au, ac, Or.inl ⟨p + 1, hr t1 s2 a3 a6, by omega, by omega, ⟨a7, a4, a5⟩, ⟨Eq.trans g3 (Eq.trans d3 (Eq.trans b4 hJ.1)), g1, MM0_s d4 g4 g5⟩, INV_of 0 hI2⟩⟩
  by_cases h0 : C p = 0
  · obtain ⟨M1, w1, w2, w3, w4, w5, w6⟩ := m_wrong hJ.2.1 1 p (by omega)
    obtain ⟨s1, a1, a2⟩ := c_wrong hS 1 (by omega)
    obtain ⟨M2, M3, e2, e3, o1⟩ := txt (fl ++ [(1, p)]) s1 M1 (by rw [lenS]; omega) a2 w2 w3 w4 w5 w6 (fun t1 s2 g1 g2 => step1 (by decide) (c_next hC hS i1) (by
      rw [fol_0]; unfold f_Reader_data
      rw [if_neg hc, if_pos h0, a1, Option.bind_some, g1, Option.bind_some, g2, Option.bind_some]))
    exact ⟨M3, fun f => by rw [e0 f, if_neg hc, if_neg h38, if_neg h60, if_pos h0, hJ.2.1.2.2.1, w1, Option.bind_some, e2, Option.bind_some, e3], o1⟩
  · obtain ⟨M2, M3, e2, e3, o1⟩ := txt fl s.2.2.1 M (by omega) hS hJ.2.1 (EF.rf M) rfl (SM.rf M) ⟨rfl, rfl⟩ (fun t1 s2 g1 g2 => step1 (by decide) (c_next hC hS i1) (by
      rw [fol_0]; unfold f_Reader_data
      rw [if_neg hc, if_neg h0, if_neg h38, if_neg h60, g1, Option.bind_some, g2, Option.bind_some]))
    exact ⟨M3, fun f => by rw [e0 f, if_neg hc, if_neg h38, if_neg h60, if_neg h0, e2, Option.bind_some, e3], o1⟩
/-- the whole loop -/
theorem loop_sim {n : Nat} {C : Nat → Int32} (hC : CHs n C) (hTag : SimTag n C) (hCom : SimCom n C) (hRef : SimRef n C) : ∀ (d p : Nat) (fl : Fl) (row : List Int32) (TL : List Tk) (tx : Option Nat) (au ac : Nat) (s : CS) (M : SMo) (f : Nat), n - p ≤ d → d + 1 < f → K0 n C p fl row TL tx au s → J0 n C p fl row TL tx ac M → RCon M → INV 0 n p fl row TL tx au ac → ∃ (k : Nat) (s' : CS) (fl' : Fl) (row' : List Int32) (TL' : List Tk) (tx' : Option Nat) (au' ac' f' : Nat) (M' : SMo), Reach k 0 s 29 s' ∧ k ≤ 16 * (n - p) + 16 ∧ KE n C fl' row' TL' tx' au' s' ∧ JE n C fl' row' TL' tx' ac' M' ∧ INV 3 n n fl' row' TL' tx' au' ac' ∧ EF M M' ∧ f_Mo_run_39 f M = f_Mo_run_39 (f' + 1) M' := by
  intro d
  induction d with
  | zero =>
    intro p fl row TL tx au ac s M f hd hf hK hJ hcn hI
    obtain ⟨f, rfl⟩ : ∃ q, f = q + 2 := ⟨f - 2, by omega⟩
    obtain ⟨M', e1, h1, k, s', fl', row', TL', tx', au', ac', ho⟩ := iter_sim hC hTag hCom hRef hK hJ hcn hI
    rcases ho with ⟨p', r1, r2, r3, k1, j1, v1⟩ | ⟨r1, r2, k1, j1, v1⟩
    · have := v1.1; have := hI.1; omega
    · exact ⟨k, s', fl', row', TL', tx', au', ac', f, M', r1, by omega, k1, j1, v1, h1, e1 (f + 1)⟩
  | succ d ih =>
    intro p fl row TL tx au ac s M f hd hf hK hJ hcn hI
    obtain ⟨f, rfl⟩ : ∃ q, f = q + 2 := ⟨f - 2, by omega⟩
    obtain ⟨M', e1, h1, k, s', fl', row', TL', tx', au', ac', ho⟩ := iter_sim hC hTag hCom hRef hK hJ hcn hI
    rcases ho with ⟨p', r1, r2, r3, k1, j1, v1⟩ | ⟨r1, r2, k1, j1, v1⟩
    · obtain ⟨k2, s2, fl2, row2, TL2, tx2, au2, ac2, f2, M2, a1, a2, a3, a4, a5, a6, a7⟩ := ih p' fl' row' TL' tx' au' ac' s' M' (f + 1) (by omega) (by omega) k1 j1 (RCon_EF hcn h1) v1
      have hv := v1.1
      exact ⟨k + k2, s2, fl2, row2, TL2, tx2, au2, ac2, f2, M2, r1.trans a1, by omega, a3, a4, a5, h1.trans a6, (e1 (f + 1)).trans a7⟩
    · exact ⟨k, s', fl', row', TL', tx', au', ac', f, M', r1, by omega, k1, j1, v1, h1, e1 (f + 1)⟩
