theorem d266 {n : Nat} {C : Nat → Int32} (hC : CHs n C) {p : Nat} {fl : Fl} {row : List Int32} {TL : List Tk} {ck : Int32} {cs : Nat} {cm : Int32} {ac : Nat} {M : SMo} (v : Int32) (hJ : J1 n C p fl row TL ck cs cm ac M) (hp : p ≤ n) (hcs : cs ≤ row.length) (ht : TL.length < 402) : ∃ M', f_Mo_doctype_266 v M = some M' ∧ EF M M' ∧ BM n C (p + 1) fl row (TL ++ [(ck, cs, row.length, cm, [])]) M' ∧ MM0 ac row.length (TL ++ [(ck, cs, row.length, cm, [])]) none M' ∧ q_Mo_ended M' = if p = n then 1 else 0 := by
  obtain ⟨he, hB, hM⟩ := hJ
  have hn := hC.1
  unfold f_Mo_doctype_266
  rw [m_cp hC hB (by omega), Option.bind_some]
  by_cases h : p = n
  · obtain ⟨M1, e1, b1, b2, b3, b4, b5⟩ := m_pe hB 1
    obtain ⟨M2, e2, d1, d2, d3, d4⟩ := m_tell b1 (MM1_s hM b4 b5) hcs ht
    rw [if_pos ((ch_end hC).mpr (by omega)), e1, e2, Option.bind_some]
    exact ⟨M2, rfl, b2.trans d2, d1, d4, by rw [if_pos h]; exact Eq.trans d3 b3⟩
  · obtain ⟨M1, e1, b1, b2, b3, b4, b5⟩ := m_pe hB 0
    obtain ⟨M2, e2, d1, d2, d3, d4⟩ := m_tell b1 (MM1_s hM b4 b5) hcs ht
    rw [if_neg (fun q => absurd ((ch_end hC).mp q) (by omega)), e1, e2, Option.bind_some]
    exact ⟨M2, rfl, b2.trans d2, d1, d4, by rw [if_neg h]; exact Eq.trans d3 b3⟩
/-- a class's step that tells the token and goes on outside -/
theorem out_gt {g n : Nat} {C : Nat → Int32} (hC : CHs n C) {p0 kb p w : Nat} {fl : Fl} {row : List Int32} {TL : List Tk} {cs : Nat} {cm : Int32} {au ac : Nat} {s : CS} {M M' : SMo} (hcm : cm = 0 ∨ cm = 1) (hI : ID g n p fl row TL cs au ac) (hp : p < n) (hp0 : p0 < p) (hkb : kb ≤ 15 * (p - p0)) (hE : EF M M') (hB : BM n C (p + 1) fl row (TL ++ [(4, cs, row.length, cm, [])]) M') (hM : MM0 ac row.length (TL ++ [(4, cs, row.length, cm, [])]) none M') (he : q_Mo_ended M' = 0) (hc : ∃ s', Reach 1 w s 0 s' ∧ K0 n C (p + 1) fl row (TL ++ [(4, cs, row.length, cm, [])]) none au s') : OUT n C M p0 kb w s M' := by
  obtain ⟨s', r1, k1⟩ := hc
  exact ⟨hE, 1, s', fl, row, _, none, au, ac, Or.inl ⟨p + 1, r1, by omega, by omega, k1, ⟨he, hB, hM⟩, ID_done hcm hI 0 (p + 1) fl (by omega) (by omega) (by omega)⟩⟩
theorem d28 {g n : Nat} {C : Nat → Int32} (hC : CHs n C) {p0 : Nat} : ∀ (d p : Nat) (fl : Fl) (row : List Int32) (TL : List Tk) (cs au ac kb f : Nat) (v : Int32) (s : CS) (M : SMo), n - p ≤ d → d < f → p0 < p → K1 n C p fl row TL 4 cs 1 au s → J1 n C p fl row TL 4 cs 1 ac M → ID g n p fl row TL cs au ac → kb ≤ 15 * (p - p0) → ∃ M', f_Mo_doctype_233 f v M = some M' ∧ OUT n C M p0 kb 28 s M' := by
  have hn := hC.1
  intro d
  induction d with
  | zero =>
    intro p fl row TL cs au ac kb f v s M hd hf hp0 hK hJ hI hk
    obtain ⟨f, rfl⟩ : ∃ q, f = q + 1 := ⟨f - 1, by omega⟩
    have hp : p = n := by have := hI.1; omega
    have hc : C p = -1 := (ch_end hC).mpr (by omega)
    obtain ⟨hS, hT, hM⟩ := hK
    obtain ⟨t1, e1, b1, b2⟩ := c_toldW hT hM (by have := hI.2.2.1; omega)
    obtain ⟨M', e2, d1, d2, d3, d4⟩ := d266 hC v hJ (by omega) hI.2.2.2.2.1 (by have := hI.2.2.1; omega)
    rw [if_pos hp] at d4
    refine ⟨M', ?_, d1, 1, (s.1, s.2.1, s.2.2.1, s.2.2.2.1, t1), fl, row, _, none, au, ac, Or.inr ⟨step1 (by decide) (c_next hC hS (by omega)) ?_, by omega, KE_of0 (s := (s.1, s.2.1, s.2.2.1, s.2.2.2.1, t1)) hS b1 b2, JE_of0 d4 d2 d3, ID_done (Or.inr rfl) hI 3 n fl (by omega) (by omega) (Nat.le_refl _)⟩⟩
    · rw [f_Mo_doctype_233, m_cp hC hJ.2.1 (by omega), Option.bind_some, if_pos hc, e2]
    · rw [fol_28]
      unfold f_DoctypeWays_odd
      rw [if_pos hc, e1, Option.bind_some, Option.bind_some]
  | succ d ih =>
    intro p fl row TL cs au ac kb f v s M hd hf hp0 hK hJ hI hk
    obtain ⟨f, rfl⟩ : ∃ q, f = q + 1 := ⟨f - 1, by omega⟩
    by_cases hpn : p = n
    · exact ih p fl row TL cs au ac kb (f + 1) v s M (by omega) (by omega) hp0 hK hJ hI hk
    have hp : p < n := by have := hI.1; omega
    have hc : ¬ C p = -1 := fun h => absurd ((ch_end hC).mp h) (by omega)
    obtain ⟨hS, hT, hM⟩ := hK
    by_cases h62 : C p = 62
    · obtain ⟨s1, t1, e1, b1, b2, b3⟩ := c_doneW hn hS hT hM hp (by have := hI.2.2.1; omega)
      obtain ⟨M', e2, d1, d2, d3, d4⟩ := d266 hC v hJ (by omega) hI.2.2.2.2.1 (by have := hI.2.2.1; omega)
      rw [if_neg hpn] at d4
      refine ⟨M', ?_, out_gt hC (Or.inr rfl) hI hp hp0 hk d1 d2 d3 d4 ⟨(s.1, s.2.1, s1, s.2.2.2.1, t1), step1 (by decide) (c_next hC hS (by omega)) ?_, b1, b2, b3⟩⟩
      · rw [f_Mo_doctype_233, m_cp hC hJ.2.1 (by omega), Option.bind_some, if_neg hc, Option.bind_some, if_pos h62, e2]
      · rw [fol_28]
        unfold f_DoctypeWays_odd
        rw [if_neg hc, if_neg (by rw [h62]; decide), if_pos h62, e1, Option.bind_some, Option.bind_some]
    · obtain ⟨M1, e1, b1, b2, b3, b4, b5⟩ := m_known hC hJ.2.1 (by omega) (by have := hI.2.2.2.1; omega)
      have cl : ∃ s', Reach 1 28 s 28 s' ∧ K1 n C (p + 1) (flK (C p) p fl) row TL 4 cs 1 au s' := by
        unfold flK
        by_cases h0 : C p = 0
        · obtain ⟨s1, g1, g2⟩ := c_wrong hS 1 (by have := hI.2.2.2.1; omega)
          obtain ⟨s2, g3, g4⟩ := c_then hn g2 28 hp
          refine ⟨(s.1, s.2.1, s2, s.2.2.2.1, s.2.2.2.2), step1 (by decide) (c_next hC hS (by omega)) ?_, by rw [if_pos h0]; exact g4, hT, hM⟩
          rw [fol_28]
          unfold f_DoctypeWays_odd
          rw [if_neg hc, if_pos h0, g1, Option.bind_some, g3, Option.bind_some]
        · obtain ⟨s2, g3, g4⟩ := c_then hn hS 28 hp
          refine ⟨(s.1, s.2.1, s2, s.2.2.2.1, s.2.2.2.2), step1 (by decide) (c_next hC hS (by omega)) ?_, by rw [if_neg h0]; exact g4, hT, hM⟩
          rw [fol_28]
          unfold f_DoctypeWays_odd
          rw [if_neg hc, if_neg h0, if_neg h62, g3, Option.bind_some]
      obtain ⟨s', r1, k1⟩ := cl
      have hI' : ID g n (p + 1) (flK (C p) p fl) row TL cs au ac := by
        obtain ⟨i1, i2, i3, i4, i5, i6, i7, i8, i9, i10⟩ := hI
        have hl := flK_len (C p) p fl
        exact ⟨by omega, by omega, by omega, by omega, i5, by omega, by omega, i8, i9, by omega⟩
      obtain ⟨M', e3, o1⟩ := ih (p + 1) (flK (C p) p fl) row TL cs au ac (kb + 1) f v s' M1 (by omega) (by omega) (by omega) k1 ⟨Eq.trans b3 hJ.1, b1, MM1_s hJ.2.2 b4 b5⟩ hI' (by omega)
      refine ⟨M', ?_, OUT_pre r1 (OUT_EF b2 o1)⟩
      rw [f_Mo_doctype_233, m_cp hC hJ.2.1 (by omega), Option.bind_some, if_neg hc, Option.bind_some, if_neg h62, e1, Option.bind_some, e3]
/-- behind the name, blanks passed: the way is 26 or 27 -/
theorem d166q {n : Nat} {C : Nat → Int32} (hC : CHs n C) {p0 p kb : Nat} {fl : Fl} {row : List Int32} {TL : List Tk} {cs au ac w : Nat} {s : CS} {M : SMo} (hw : w = 27 ∨ (w = 26 ∧ (C p = -1 ∨ C p = 62))) (hb : f_Mt_isBlank (C p) = 0) (hp0 : p0 < p) (hK : K1 n C p fl row TL 4 cs 0 au s) (hJ : J1 n C p fl row TL 4 cs 0 ac M) (hI : ID 4 n p fl row TL cs au ac) (hkb : kb + 1 ≤ 15 * (p - p0)) : ∃ M', ((f_Mo_charAt (q_Mo_p M) M).bind fun x10 =>
  if x10 = (-1) then
    if ix (q_Mo_tokens M) 402 then
    (f_Mo_wrong 23 (q_Mo_p M) (u_Mo_marks M (upd (q_Mo_marks M) ((q_Mo_tokens M) : Int32).toNatClampNeg (vp_nar .boolean 1)))).bind fun x12 =>
    f_Mo_doctype_266 x10 x12
    else none
  else
    if x10 = 62 then
      f_Mo_doctype_266 x10 M
    else
      if ix (q_Mo_tokens M) 402 then
      (f_Mo_wrong 24 (q_Mo_p M) (u_Mo_marks M (upd (q_Mo_marks M) ((q_Mo_tokens M) : Int32).toNatClampNeg (vp_nar .boolean 1)))).bind fun x11 =>
      f_Mo_doctype_233 FU x10 x11
      else none) = some M' ∧ OUT n C M p0 kb w s M' := by
  have hn := hC.1
  have hpn := hI.1
  have htl : TL.length < 400 := by have := hI.2.2.1; omega
  have hfl := hI.2.2.2.1
  obtain ⟨hS, hT, hM⟩ := hK
  obtain ⟨x1, M1, g1, g2, g3, g4, g5⟩ := m_mark hJ.2.1 hJ.2.2 (by omega) 1 rfl
  rw [m_cp hC hJ.2.1 (by omega), Option.bind_some, if_pos x1, if_pos x1, g1, hJ.2.1.2.2.1]
  by_cases hc : C p = -1
  · have hp : p = n := by have := (ch_end hC).mp hc; omega
    obtain ⟨M2, q1, q2, q3, q4, q5, q6⟩ := m_wrong g2 23 p (by omega)
    obtain ⟨M', e2, d1, d2, d3, d4⟩ := d266 hC (C p) (M := M2) ⟨Eq.trans q4 (Eq.trans g4 hJ.1), q2, MM1_s g5 q5 q6⟩ (by omega) hI.2.2.2.2.1 (by omega)
    rw [if_pos hp] at d4
    obtain ⟨s1, a1, a2⟩ := c_wrong hS 23 (by omega)
    obtain ⟨t1, a3, a4, a5⟩ := c_setMark hT hM 1 htl
    obtain ⟨t2, a6, a7, a8⟩ := c_toldW a4 a5 htl
    have ee : f_DoctypeWays_oddAtEnd s.2.2.1 s.2.2.2.2 = some (29, s1, t2) := by
      unfold f_DoctypeWays_oddAtEnd
      rw [a1, Option.bind_some, a3, Option.bind_some, a6, Option.bind_some]
    refine ⟨M', by rw [if_pos hc, q1, Option.bind_some, e2], g3.trans (q3.trans d1), 1, (s.1, s.2.1, s1, s.2.2.2.1, t2), _, row, _, none, au, ac, Or.inr ⟨step1 (by rcases hw with rfl | ⟨rfl, -⟩ <;> decide) (c_next hC hS (by omega)) ?_, by omega, KE_of0 (s := (s.1, s.2.1, s1, s.2.2.2.1, t2)) a2 a7 a8, JE_of0 d4 d2 d3, ID_done (Or.inr rfl) hI 3 n _ (by rw [lenS]; omega) (by omega) (Nat.le_refl _)⟩⟩
    rcases hw with rfl | ⟨rfl, -⟩
    · rw [fol_27]; unfold f_DoctypeWays_after
      rw [if_pos hb, if_pos hc, ee, Option.bind_some, Option.bind_some]
    · rw [fol_26]; unfold f_DoctypeWays_name
      rw [if_pos hb, if_pos hc, ee, Option.bind_some, Option.bind_some]
  have hp : p < n := by
    by_cases h : p < n
    · exact h
    · exact absurd ((ch_end hC).mpr (by omega)) hc
  by_cases h62 : C p = 62
  · obtain ⟨s1, t1, e1, b1, b2, b3⟩ := c_doneW hn hS hT hM hp htl
    obtain ⟨M', e2, d1, d2, d3, d4⟩ := d266 hC (C p) hJ (by omega) hI.2.2.2.2.1 (by omega)
    rw [if_neg (by omega)] at d4
    refine ⟨M', by rw [if_neg hc, if_pos h62, e2], out_gt hC (Or.inl rfl) hI hp hp0 (by omega) d1 d2 d3 d4 ⟨(s.1, s.2.1, s1, s.2.2.2.1, t1), step1 (by rcases hw with rfl | ⟨rfl, -⟩ <;> decide) (c_next hC hS (by omega)) ?_, b1, b2, b3⟩⟩
    rcases hw with rfl | ⟨rfl, -⟩
    · rw [fol_27]; unfold f_DoctypeWays_after
      rw [if_pos hb, if_neg hc, if_pos h62, e1, Option.bind_some, Option.bind_some]
    · rw [fol_26]; unfold f_DoctypeWays_name
      rw [if_pos hb, if_neg hc, if_pos h62, e1, Option.bind_some, Option.bind_some]
  · rcases hw with rfl | ⟨rfl, hx⟩
    · obtain ⟨M2, q1, q2, q3, q4, q5, q6⟩ := m_wrong g2 24 p (by omega)
      obtain ⟨s1, a1, a2⟩ := c_wrong hS 24 (by omega)
      obtain ⟨t1, a3, a4, a5⟩ := c_setMark hT hM 1 htl
      have r1 : Reach 1 27 s 28 (s.1, s.2.1, s1, s.2.2.2.1, t1) := step1 (by decide) (c_next hC hS (by omega)) (by
        rw [fol_27]; unfold f_DoctypeWays_after
        rw [if_pos hb, if_neg hc, if_neg h62, a1, Option.bind_some, a3, Option.bind_some, Option.bind_some])
      obtain ⟨M', e2, o1⟩ := d28 hC (g := 3) (n - p) p (fl ++ [(24, p)]) row TL cs au ac (kb + 1) FU (C p) (s.1, s.2.1, s1, s.2.2.2.1, t1) M2 (Nat.le_refl _) (by unfold FU; omega) hp0 ⟨a2, a4, a5⟩ ⟨Eq.trans q4 (Eq.trans g4 hJ.1), q2, MM1_s g5 q5 q6⟩ (ID_fault hI _) (by omega)
      exact ⟨M', by rw [if_neg hc, if_neg h62, q1, Option.bind_some, e2], OUT_pre r1 (OUT_EF (g3.trans q3) o1)⟩
    · exact absurd hx (fun h => h.elim hc h62)
/-- behind the name -/
theorem d166 {n : Nat} {C : Nat → Int32} (hC : CHs n C) {p0 p kb : Nat} {fl : Fl} {row : List Int32} {TL : List Tk} {cs au ac : Nat} {s : CS} {M : SMo} (v : Int32) (hw : ¬ f_Mt_isBlank (C p) = 0 ∨ C p = -1 ∨ C p = 62) (hp0 : p0 < p) (hK : K1 n C p fl row TL 4 cs 0 au s) (hJ : J1 n C p fl row TL 4 cs 0 ac M) (hI : ID 4 n p fl row TL cs au ac) (hkb : kb + 1 ≤ 15 * (p - p0)) : ∃ M', f_Mo_doctype_166 v M = some M' ∧ OUT n C M p0 kb 26 s M' := by
  have hn := hC.1
  have hpn := hI.1
  obtain ⟨q, M1, e1, q1, q2, b1, b2, b3, b4, b5, b6, b7⟩ := m_skip hC (n - p) p fl row TL FU M (Nat.le_refl _) (by unfold FU; omega) hpn hJ.2.1
  have hJ1 : J1 n C q fl row TL 4 cs 0 ac M1 := ⟨Eq.trans b3 hJ.1, b1, MM1_s hJ.2.2 b4 b5⟩
  have e1' : f_Mo_skipBlanks M = some M1 := e1
  unfold f_Mo_doctype_166
  rw [e1', Option.bind_some]
  by_cases hq : q = p
  · subst hq
    have hx : C q = -1 ∨ C q = 62 := hw.resolve_left (fun h => h b6)
    obtain ⟨M', e2, o1⟩ := d166q hC (kb := kb) (Or.inr ⟨rfl, hx⟩) b6 hp0 hK hJ1 hI hkb
    exact ⟨M', e2, OUT_EF b2 o1⟩
  · -- the first blank by way 26, the others by way 27
    have hpl : p < n := by omega
    obtain ⟨hS, hT, hM⟩ := hK
    obtain ⟨s2, e2, b8⟩ := c_then hn hS 27 hpl
    have r1 : Reach 1 26 s 27 (s.1, s.2.1, s2, s.2.2.2.1, s.2.2.2.2) := step1 (by decide) (c_next hC hS hpn) (by
      rw [fol_26]; unfold f_DoctypeWays_name
      rw [if_neg (b7 p (Nat.le_refl _) (by omega)), e2, Option.bind_some])
    obtain ⟨s3, r2, k3⟩ := sk_reach (K := fun p s => K1 n C p fl row TL 4 cs 0 au s) (c27_blank hC) (q - p - 1) (p + 1) (s.1, s.2.1, s2, s.2.2.2.1, s.2.2.2.2) (by omega) (fun k h1 h2 => b7 k (by omega) (by omega)) ⟨b8, hT, hM⟩
    rw [show p + 1 + (q - p - 1) = q by omega] at k3
    obtain ⟨M', e3, o1⟩ := d166q hC (p := q) (kb := kb + (1 + (q - p - 1))) (Or.inl rfl) b6 (show p0 < q by omega) k3 hJ1 (ID_adv hI q1 q2) (by omega)
    exact ⟨M', e3, OUT_pre (r1.trans r2) (OUT_EF b2 o1)⟩
theorem low_nI {c : Nat} (hc : c ≤ 1114111) : f_Mt_lowered (nI c) = nI (if 65 ≤ c ∧ c ≤ 90 then c + 32 else c) := by
  unfold f_Mt_lowered
  by_cases h1 : c < 65
  · rw [if_pos (show nI c < 65 from nI_lt (b := 65) h1 (by decide)), if_neg (by omega)]
  · rw [if_neg (show ¬ nI c < 65 from nI_nlt (b := 65) (by omega) (by omega))]
    by_cases h2 : 90 < c
    · rw [if_pos (show (90 : Int32) < nI c from nI_lt (a := 90) h2 (by omega)), if_neg (by omega)]
    · rw [if_neg (show ¬ (90 : Int32) < nI c from nI_nlt (a := 90) (by omega) (by decide)), if_pos (by omega)]
      exact nI_add c 32
theorem low_known {n : Nat} {C : Nat → Int32} (hC : CHs n C) {p : Nat} (hp : p < n) (fl : Fl) : f_Mo_lowered (rK (C p)) = rK (f_Mt_lowered (C p)) ∧ flK (f_Mt_lowered (C p)) p fl = flK (C p) p fl ∧ ∃ c : Nat, c ≤ 1114111 ∧ rK (f_Mt_lowered (C p)) = nI c := by
  obtain ⟨c, hc, e⟩ := hC.2.1 p hp
  rw [lowered_eq, e]
  by_cases h0 : c = 0
  · subst h0
    exact ⟨by decide, rfl, 65533, by decide, by decide⟩
  · have n0 : ¬ nI c = 0 := nI_ne0 (by omega) (by omega)
    have n1 : ¬ f_Mt_lowered (nI c) = 0 := by
      rw [low_nI (by omega)]
      by_cases h : 65 ≤ c ∧ c ≤ 90
      · rw [if_pos h]; exact nI_ne0 (by omega) (by omega)
      · rw [if_neg h]; exact n0
    unfold rK flK
    rw [if_neg n0, if_neg n1, if_neg n0, if_neg n1, low_nI (by omega)]
    refine ⟨rfl, rfl, _, ?_, rfl⟩
    by_cases h : 65 ≤ c ∧ c ≤ 90
    · rw [if_pos h]; omega
    · rw [if_neg h]; omega
/-- the name -/
theorem d125 {n : Nat} {C : Nat → Int32} (hC : CHs n C) {p0 : Nat} : ∀ (d p : Nat) (fl : Fl) (row : List Int32) (TL : List Tk) (cs au ac kb f : Nat) (s : CS) (M : SMo), n - p ≤ d → d < f → p0 < p → K1 n C p fl row TL 4 cs 0 au s → J1 n C p fl row TL 4 cs 0 ac M → ID 4 n p fl row TL cs au ac → kb + 1 ≤ 15 * (p - p0) → ∃ M', f_Mo_doctype_125 f (C p) M = some M' ∧ OUT n C M p0 kb 26 s M' := by
  have hn := hC.1
  intro d
  induction d with
  | zero =>
    intro p fl row TL cs au ac kb f s M hd hf hp0 hK hJ hI hk
    obtain ⟨f, rfl⟩ : ∃ q, f = q + 1 := ⟨f - 1, by omega⟩
    have hc : C p = -1 := (ch_end hC).mpr (by omega)
    obtain ⟨M', e2, o1⟩ := d166 hC (C p) (Or.inr (Or.inl hc)) hp0 hK hJ hI hk
    exact ⟨M', by rw [f_Mo_doctype_125, if_pos hc, e2], o1⟩
  | succ d ih =>
    intro p fl row TL cs au ac kb f s M hd hf hp0 hK hJ hI hk
    obtain ⟨f, rfl⟩ : ∃ q, f = q + 1 := ⟨f - 1, by omega⟩
    by_cases hc : C p = -1
    · obtain ⟨M', e2, o1⟩ := d166 hC (C p) (Or.inr (Or.inl hc)) hp0 hK hJ hI hk
      exact ⟨M', by rw [f_Mo_doctype_125, if_pos hc, e2], o1⟩
    by_cases h62 : C p = 62
    · obtain ⟨M', e2, o1⟩ := d166 hC (C p) (Or.inr (Or.inr h62)) hp0 hK hJ hI hk
      exact ⟨M', by rw [f_Mo_doctype_125, if_neg hc, if_pos h62, e2], o1⟩
    by_cases hb : f_Mt_isBlank (C p) = 0
    · have hp : p < n := by
        by_cases h : p < n
        · exact h
        · exact absurd ((ch_end hC).mpr (by omega)) hc
      have hfl := hI.2.2.2.1
      have hrl := hI.2.1
      obtain ⟨hS, hT, hM⟩ := hK
      obtain ⟨s1, t1, a1, a2, a3, a4⟩ := c_known hS hT (f_Mt_lowered (C p)) (by omega) (by omega)
      obtain ⟨s2, a5, a6⟩ := c_then hn a2 26 hp
      have r1 : Reach 1 26 s 26 (s.1, s.2.1, s2, s.2.2.2.1, t1) := step1 (by decide) (c_next hC hS (by omega)) (by
        rw [fol_26]; unfold f_DoctypeWays_name
        rw [if_pos hb, if_neg hc, if_neg h62, a1, Option.bind_some, a5, Option.bind_some])
      obtain ⟨M1, g1, g2, g3, g4, g5, g6⟩ := m_known hC hJ.2.1 (by omega) (by omega)
      obtain ⟨M2, g7, g8, g9, g10, g11, g12⟩ := m_keep g2 (f_Mo_lowered (rK (C p))) (by omega)
      have lk : f_Mo_lowered (rK (C p)) = rK (f_Mt_lowered (C p)) ∧ flK (f_Mt_lowered (C p)) p fl = flK (C p) p fl ∧ ∃ c : Nat, c ≤ 1114111 ∧ rK (f_Mt_lowered (C p)) = nI c := low_known hC hp fl
      obtain ⟨l1, l2, c, hcc, l3⟩ := lk
      rw [l1] at g7 g8
      rw [l2] at a6
      rw [l3] at g7 g8 a3
      have hfk := flK_len (C p) p fl
      obtain ⟨M', e3, o1⟩ := ih (p + 1) (flK (C p) p fl) (row ++ [nI c]) TL cs au ac (kb + 1) f (s.1, s.2.1, s2, s.2.2.2.1, t1) M2 (by omega) (by omega) (by omega) ⟨a6, a3, MC1_sc hM a4⟩ ⟨Eq.trans g10 (Eq.trans g4 hJ.1), g8, MM1_s (MM1_s hJ.2.2 g5 g6) g11 g12⟩ (ID_step hI hp hfk.2 hcc) (by omega)
      refine ⟨M', ?_, OUT_pre r1 (OUT_EF (g3.trans g9) o1)⟩
      rw [f_Mo_doctype_125, if_neg hc, if_neg h62, isBlank_eq, if_pos hb, g1, Option.bind_some, l1, l3, g7, Option.bind_some, m_cp hC g8 (by omega), Option.bind_some, e3]
    · obtain ⟨M', e2, o1⟩ := d166 hC (C p) (Or.inl hb) hp0 hK hJ hI hk
      exact ⟨M', by rw [f_Mo_doctype_125, if_neg hc, if_neg h62, isBlank_eq, if_neg hb, e2], o1⟩
