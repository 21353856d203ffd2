def DT (C : Nat → Int32) (p k : Nat) : Prop := ∀ j, k ≤ j → j < 7 → f_Mt_lowered (C (p + j)) = (zs 0).getD j 0
theorem DT_step {C : Nat → Int32} {p k : Nat} (h : f_Mt_lowered (C (p + k)) = (zs 0).getD k 0) : DT C p (k + 1) ↔ DT C p k := by
  constructor
  · intro g j h1 h2
    by_cases hj : j = k
    · subst hj; exact h
    · exact g j (by omega) h2
  · intro g j h1 h2; exact g j (by omega) h2
theorem cDT {n : Nat} {C : Nat → Int32} (hC : CHs n C) {p : Nat} {fl : Fl} {s : SSource} (hS : BS n C p fl s) (hp : p ≤ n) : ∀ (d k f : Nat), k + d = 7 → d < f → (DT C p k → f_Reader_doctypeComes_2 f (nI k) s = some 1) ∧ (¬ DT C p k → f_Reader_doctypeComes_2 f (nI k) s = some 0) := by
  have hn := hC.1
  intro d
  induction d with
  | zero =>
    intro k f hk hf
    obtain ⟨f, rfl⟩ : ∃ q, f = q + 1 := ⟨f - 1, by omega⟩
    have : k = 7 := by omega
    subst this
    refine ⟨fun _ => ?_, fun h => absurd (fun j h1 h2 => by omega) h⟩
    rw [f_Reader_doctypeComes_2, if_pos (by decide)]
  | succ d ih =>
    intro k f hk hf
    obtain ⟨f, rfl⟩ : ∃ q, f = q + 1 := ⟨f - 1, by omega⟩
    have x1 : ix (nI k) (zs 0).length := ixI (show k < 7 by omega) (by decide)
    have e : f_Reader_doctypeComes_2 (f + 1) (nI k) s = if f_Mt_lowered (C (p + k)) = (zs 0).getD k 0 then f_Reader_doctypeComes_2 f (nI (k + 1)) s else some 0 := by
      rw [f_Reader_doctypeComes_2, if_neg (show ¬ (7 : Int32) ≤ nI k from nI_ge (b := 7) (by omega) (by decide)), f_Source_place, hS.2.2.1, nI_add, c_char hC hS (by omega), Option.bind_some, if_pos x1, nI_clamp (by omega), nI_1]
    rw [e]
    by_cases h : f_Mt_lowered (C (p + k)) = (zs 0).getD k 0
    · rw [if_pos h, ← DT_step h]
      exact ih (k + 1) f (by omega) (by omega)
    · rw [if_neg h]
      exact ⟨fun g => absurd (g k (Nat.le_refl _) (by omega)) h, fun _ => rfl⟩
theorem dlet : ∀ k, k < 7 → ((((28552639593803620 : Int64).toUInt64 >>> (((8 * nI k) : Int32).toInt64.toUInt64 &&& Int64.toUInt64 63)).toInt64 &&& 255) : Int64).toInt32 = (zs 0).getD k 0 := by
  intro k hk
  rcases (show k = 0 ∨ k = 1 ∨ k = 2 ∨ k = 3 ∨ k = 4 ∨ k = 5 ∨ k = 6 by omega) with rfl | rfl | rfl | rfl | rfl | rfl | rfl <;> decide +kernel
theorem mDT0 : ∀ (d k f : Nat) (M : SMo), k + d = 7 → d < f → f_Mo_isDoctype_4 f 0 (nI k) M = some 0 := by
  intro d
  induction d with
  | zero =>
    intro k f M hk hf
    obtain ⟨f, rfl⟩ : ∃ q, f = q + 1 := ⟨f - 1, by omega⟩
    have : k = 7 := by omega
    subst this
    rw [f_Mo_isDoctype_4, if_pos (by decide), if_pos (Or.inl rfl)]
  | succ d ih =>
    intro k f M hk hf
    obtain ⟨f, rfl⟩ : ∃ q, f = q + 1 := ⟨f - 1, by omega⟩
    rw [f_Mo_isDoctype_4, if_neg (show ¬ (7 : Int32) ≤ nI k from nI_ge (b := 7) (by omega) (by decide)), if_pos rfl, nI_1]
    exact ih (k + 1) f M (by omega) (by omega)
theorem mDT {n : Nat} {C : Nat → Int32} (hC : CHs n C) {p : Nat} {fl : Fl} {row : List Int32} {TL : List Tk} {M : SMo} (hB : BM n C p fl row TL M) (hp : p ≤ n) : ∀ (d k f : Nat), k + d = 7 → d < f → (DT C p k → f_Mo_isDoctype_4 f 1 (nI k) M = some 1) ∧ (¬ DT C p k → f_Mo_isDoctype_4 f 1 (nI k) M = some 0) := by
  have hn := hC.1
  intro d
  induction d with
  | zero =>
    intro k f hk hf
    obtain ⟨f, rfl⟩ : ∃ q, f = q + 1 := ⟨f - 1, by omega⟩
    have : k = 7 := by omega
    subst this
    refine ⟨fun _ => ?_, fun h => absurd (fun j h1 h2 => by omega) h⟩
    rw [f_Mo_isDoctype_4, if_pos (by decide), if_pos (Or.inr rfl)]
  | succ d ih =>
    intro k f hk hf
    obtain ⟨f, rfl⟩ : ∃ q, f = q + 1 := ⟨f - 1, by omega⟩
    have e : f_Mo_isDoctype_4 (f + 1) 1 (nI k) M = if f_Mt_lowered (C (p + k)) = (zs 0).getD k 0 then f_Mo_isDoctype_4 f 1 (nI (k + 1)) M else f_Mo_isDoctype_4 f 0 (nI (k + 1)) M := by
      rw [f_Mo_isDoctype_4, if_neg (show ¬ (7 : Int32) ≤ nI k from nI_ge (b := 7) (by omega) (by decide)), if_neg (by decide), hB.2.2.1, nI_add, m_char hC hB (by omega), Option.bind_some, lowered_eq, dlet k (by omega), nI_1]
    rw [e]
    by_cases h : f_Mt_lowered (C (p + k)) = (zs 0).getD k 0
    · rw [if_pos h, ← DT_step h]
      exact ih (k + 1) f (by omega) (by omega)
    · rw [if_neg h]
      exact ⟨fun g => absurd (g k (Nat.le_refl _) (by omega)) h, fun _ => mDT0 d (k + 1) f M (by omega) (by omega)⟩
theorem DT_n {n : Nat} {C : Nat → Int32} (hC : CHs n C) {p : Nat} (h : DT C p 0) : p + 7 ≤ n := by
  by_cases hp : p + 6 < n
  · omega
  · have h6 := h 6 (by omega) (by omega)
    rw [(ch_end hC).mpr (show n ≤ p + 6 by omega)] at h6
    exact absurd h6 (by decide)
/-- behind '<!' -/
theorem mark_sim {n : Nat} {C : Nat → Int32} (hC : CHs n C) (hCom : SimCom n C) {p0 p kb : Nat} {fl : Fl} {row : List Int32} {TL : List Tk} {tx : Option Nat} {au ac : Nat} {s : CS} {M : SMo} (hp0 : p0 + 2 ≤ p) (hK : K0 n C p fl row TL tx au s) (hJ : J0 n C p fl row TL tx ac M) (hI : I0r 2 n p fl row TL tx au ac) (hkb : kb ≤ 4) : ∃ M', f_Mo_mark M = some M' ∧ OUT n C M p0 kb 16 s M' := by
  have hn := hC.1
  obtain ⟨i1, i2, i3, i4, i5, i6, i7, i8, i9, i10⟩ := id hI
  obtain ⟨hS, hT, hM⟩ := hK
  have hf2 := fT_len row.length tx TL
  have cd := cDT hC hS i1 7 0 FU (by omega) (by unfold FU; omega)
  have md := mDT hC hJ.2.1 i1 7 0 FU (by omega) (by unfold FU; omega)
  -- no comment: a doctype or a bogus comment
  have rest : ∀ (R : Option SMo) (hR : R = ((f_Mo_isDoctype M).bind fun x2 =>
    if x2 = 0 then
      (f_Mo_wrong 16 (q_Mo_p M) M).bind fun x3 =>
      (f_Mo_begin 3 x3).bind fun x4 =>
      (f_Mo_bogus x4).bind fun x5 =>
      some x5
    else
      (f_Mo_doctype (u_Mo_p M ((q_Mo_p M) + 7))).bind fun x6 =>
      some x6)) (hc : ∀ (w' : Nat) (s1 : SSource) (t1 : STokens), ((f_Reader_doctypeComes s.2.2.1).bind fun x1 =>
    if x1 = 0 then
      (f_Source_wrong 16 s.2.2.1).bind fun x2 =>
      (f_Reader_bogus s.2.2.2.2).bind fun x3 =>
      some (x3.1, x2, x3.2)
    else
      some (24, (f_Source_skip 7 s.2.2.1), s.2.2.2.2)) = some (w', s1, t1) → Reach 1 16 s w' (s.1, s.2.1, s1, s.2.2.2.1, t1)), ∃ M', R = some M' ∧ OUT n C M p0 kb 16 s M' := by
    intro R hR hc
    by_cases hd : DT C p 0
    · have hp7 := DT_n hC hd
      have e1 : f_Mo_isDoctype M = some 1 := md.1 hd
      have e2 : f_Reader_doctypeComes s.2.2.1 = some 1 := cd.1 hd
      obtain ⟨M1, g1, g2, g3, g4, g5, g6⟩ := m_setp hJ.2.1 (p + 7) (v := q_Mo_p M + 7) (by rw [hJ.2.1.2.2.1]; exact nI_add p 7)
      have k7 : BS n C (p + 7) fl (f_Source_skip 7 s.2.2.1) := c_skip hn hS hp7
      have r1 := hc 24 (f_Source_skip 7 s.2.2.1) s.2.2.2.2 (by rw [e2, Option.bind_some, if_neg (by decide)])
      obtain ⟨M', e3, o1⟩ := doctype_sim hC (p0 := p0) (p := p + 7) (kb := kb + 1) (r := 9) (s := (s.1, s.2.1, f_Source_skip 7 s.2.2.1, s.2.2.2.1, s.2.2.2.2)) (Nat.le_refl _) (by omega) ⟨k7, hT, hM⟩ ⟨Eq.trans g4 hJ.1, g2, MM0_s hJ.2.2 g5 g6⟩ (I0r_adv hI 7 hp7) (by omega)
      exact ⟨M', by rw [hR, e1, Option.bind_some, if_neg (by decide), g1, e3, Option.bind_some], OUT_pre r1 (OUT_EF g3 o1)⟩
    · have e1 : f_Mo_isDoctype M = some 0 := md.2 hd
      have e2 : f_Reader_doctypeComes s.2.2.1 = some 0 := cd.2 hd
      obtain ⟨M1, w1, w2, w3, w4, w5, w6⟩ := m_wrong hJ.2.1 16 p (by omega)
      obtain ⟨M2, e4, b1, b2, b3, b4⟩ := m_begin w2 (MM0_s hJ.2.2 w5 w6) i5 (by omega) 3 (by omega)
      obtain ⟨s1, a1, a2⟩ := c_wrong hS 16 (by omega)
      obtain ⟨t1, a3, a4, a5⟩ := c_begin hT hM 3 (by omega)
      have r1 := hc 17 s1 t1 (by unfold f_Reader_bogus; rw [e2, Option.bind_some, if_pos rfl, a1, Option.bind_some, a3, Option.bind_some, Option.bind_some])
      obtain ⟨M', e3, o1⟩ := bogus_sim hC (p0 := p0) (n - p) p (fl ++ [(16, p)]) row (fT row.length tx TL) row.length au ac (kb + 1) FU (s.1, s.2.1, s1, s.2.2.2.1, t1) M2 (Nat.le_refl _) (by unfold FU; omega) (by omega) ⟨a2, a4, a5⟩ ⟨Eq.trans b3 (Eq.trans w4 hJ.1), b1, b4⟩ (IB_of hI (by rw [lenS]; omega)) (by omega)
      have e3' : f_Mo_bogus M2 = some M' := e3
      exact ⟨M', by rw [hR, e1, Option.bind_some, if_pos rfl, hJ.2.1.2.2.1, w1, Option.bind_some, e4, Option.bind_some, e3', Option.bind_some], OUT_pre r1 (OUT_EF (w3.trans b2) o1)⟩
  unfold f_Mo_mark
  rw [m_cp hC hJ.2.1 (by omega), Option.bind_some]
  have e7 : f_Mo_charAt (q_Mo_p M + 1) M = some (C (p + 1)) := by rw [hJ.2.1.2.2.1, nI_1]; exact m_char hC hJ.2.1 (by omega)
  have c7 : f_Source_character (f_Source_place s.2.2.1 + 1) s.2.2.1 = some (C (p + 1)) := by rw [f_Source_place, hS.2.2.1, nI_1]; exact c_char hC hS (by omega)
  by_cases h1 : C p = 45
  · by_cases h2 : C (p + 1) = 45
    · have hp2 : p + 2 ≤ n := by
        by_cases h : p + 1 < n
        · omega
        · have := (ch_end hC).mpr (show n ≤ p + 1 by omega)
          rw [h2] at this
          exact absurd this (by decide)
      obtain ⟨M1, g1, g2, g3, g4, g5, g6⟩ := m_setp hJ.2.1 (p + 2) (v := q_Mo_p M + 2) (by rw [hJ.2.1.2.2.1]; exact nI_add p 2)
      have k2 : BS n C (p + 2) fl (f_Source_skip 2 s.2.2.1) := c_skip hn hS hp2
      obtain ⟨M2, e4, b1, b2, b3, b4⟩ := m_begin g2 (MM0_s hJ.2.2 g5 g6) i5 (by omega) 3 (by omega)
      obtain ⟨t1, a3, a4, a5⟩ := c_begin hT hM 3 (by omega)
      have r1 : Reach 1 16 s 18 (s.1, s.2.1, f_Source_skip 2 s.2.2.1, s.2.2.2.1, t1) := step1 (by decide) (c_next hC hS i1) (by
        rw [fol_16]; unfold f_Reader_mark
        rw [if_pos h1, c7, Option.bind_some, if_pos h2, a3, Option.bind_some, Option.bind_some])
      obtain ⟨M', e3, o1⟩ := hCom p0 (p + 2) (kb + 1) fl row (fT row.length tx TL) au ac (s.1, s.2.1, f_Source_skip 2 s.2.2.1, s.2.2.2.1, t1) M2 (by omega) hp2 ⟨k2, a4, a5⟩ ⟨Eq.trans b3 (Eq.trans g4 hJ.1), b1, b4⟩ (I0r_flush (I0r_adv hI 2 hp2)) (by omega)
      exact ⟨M', by rw [if_pos h1, e7, Option.bind_some, if_pos h2, g1, e4, Option.bind_some, e3, Option.bind_some], OUT_pre r1 (OUT_EF (g3.trans b2) o1)⟩
    · refine rest _ ?_ (fun w' s1 t1 h => step1 (by decide) (c_next hC hS i1) ?_)
      · rw [if_pos h1, e7, Option.bind_some, if_neg h2]
      · rw [fol_16]; unfold f_Reader_mark
        rw [if_pos h1, c7, Option.bind_some, if_neg h2, h, Option.bind_some]
  · refine rest _ ?_ (fun w' s1 t1 h => step1 (by decide) (c_next hC hS i1) ?_)
    · rw [if_neg h1]
    · rw [fol_16]; unfold f_Reader_mark
      rw [if_neg h1, h, Option.bind_some]
