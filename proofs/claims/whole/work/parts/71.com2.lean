abbrev D1 (C : Nat → Int32) (a q : Nat) : Prop := a + 1 ≤ q ∧ C (q - 1) = 45
abbrev D2 (C : Nat → Int32) (a q : Nat) : Prop := a + 2 ≤ q ∧ C (q - 1) = 45 ∧ C (q - 2) = 45
abbrev D3 (C : Nat → Int32) (a q : Nat) : Prop := a + 3 ≤ q ∧ C (q - 1) = 33 ∧ C (q - 2) = 45 ∧ C (q - 3) = 45
def CW (n : Nat) (C : Nat → Int32) (a w d q : Nat) : Prop := (w = 20 ∧ d = 0 ∧ (D1 C a q → q < n ∧ ¬ C q = 45) ∧ (D3 C a q → q < n) ∧ (D2 C a q → ¬ C q = 33)) ∨ (w = 21 ∧ d = 1 ∧ D1 C a q ∧ ¬ D2 C a q) ∨ (w = 22 ∧ d = 2 ∧ D2 C a q) ∨ (w = 23 ∧ d = 3 ∧ D3 C a q)
def cls (C : Nat → Int32) (j : Nat) : Prop := C j = 60 ∧ C (j + 1) = 33 ∧ C (j + 2) = 45 ∧ C (j + 3) = 45 ∧ ¬ C (j + 4) = 62 ∧ ¬ C (j + 4) = -1
def NPI (C : Nat → Int32) (a q : Nat) (x : Int32) : Prop := (x = -1 ∨ ∃ j, a ≤ j ∧ j < q ∧ cls C j ∧ x = nI (j + 4)) ∧ ∀ j, a ≤ j → j < q → cls C j → q ≤ j + 4 → x = nI (j + 4)
theorem NPI_s {C : Nat → Int32} {a q : Nat} {x : Int32} (h : NPI C a q x) (hc : ¬ C q = 60) : NPI C a (q + 1) x := by
  refine ⟨h.1.elim Or.inl (fun ⟨j, h1, h2, h3⟩ => Or.inr ⟨j, h1, by omega, h3⟩), fun j h1 h2 h3 h4 => ?_⟩
  by_cases hj : j = q
  · subst hj; exact absurd h3.1 hc
  · exact h.2 j h1 (by omega) h3 (by omega)
theorem c_look {n : Nat} {C : Nat → Int32} (hC : CHs n C) {a q : Nat} {fl : Fl} {x : Int32} {s : SSource} (hS : BS n C q fl s) (hq : q ≤ n) (haq : a ≤ q) (hc : C q = 60) (h : NPI C a q x) : ∃ x', f_CommentWays_lookForNested (f_Source_place s) x s = some x' ∧ NPI C a (q + 1) x' := by
  have hn := hC.1
  have c1 : f_Source_character (nI q + 1) s = some (C (q + 1)) := by rw [nI_1]; exact c_char hC hS (by omega)
  have c2 : f_Source_character (nI q + 2) s = some (C (q + 2)) := by rw [show nI q + 2 = nI (q + 2) from nI_add q 2]; exact c_char hC hS (by omega)
  have c3 : f_Source_character (nI q + 3) s = some (C (q + 3)) := by rw [show nI q + 3 = nI (q + 3) from nI_add q 3]; exact c_char hC hS (by omega)
  have c4 : f_Source_character (nI q + 4) s = some (C (q + 4)) := by rw [show nI q + 4 = nI (q + 4) from nI_add q 4]; exact c_char hC hS (by omega)
  have old : ∀ j, a ≤ j → j < q → cls C j → ¬ q + 1 ≤ j + 4 := by
    intro j j1 j2 ⟨_, j4, j5, j6, _⟩ j7
    rcases (show q = j + 1 ∨ q = j + 2 ∨ q = j + 3 by omega) with rfl | rfl | rfl
    · rw [j4] at hc; exact absurd hc (by decide)
    · rw [j5] at hc; exact absurd hc (by decide)
    · rw [j6] at hc; exact absurd hc (by decide)
  have no : ¬ cls C q → NPI C a (q + 1) x := by
    intro hn
    refine ⟨h.1.elim Or.inl (fun ⟨j, h1, h2, h3⟩ => Or.inr ⟨j, h1, by omega, h3⟩), fun j h1 h2 h3 h4 => ?_⟩
    by_cases hj : j = q
    · subst hj; exact absurd h3 hn
    · exact absurd h4 (old j h1 (by omega) h3)
  unfold f_CommentWays_lookForNested
  rw [f_Source_place, hS.2.2.1, c1, c2, c3, c4]
  simp only [Option.bind_some]
  by_cases x1 : C (q + 1) = 33
  · rw [if_pos x1]
    by_cases x2 : C (q + 2) = 45
    · rw [if_pos x2]
      by_cases x3 : C (q + 3) = 45
      · rw [if_pos x3]
        by_cases x4 : C (q + 4) = 62
        · rw [if_pos x4]; exact ⟨x, rfl, no (fun g => g.2.2.2.2.1 x4)⟩
        · rw [if_neg x4]
          by_cases x5 : C (q + 4) = -1
          · rw [if_pos x5]; exact ⟨x, rfl, no (fun g => g.2.2.2.2.2 x5)⟩
          · rw [if_neg x5, show nI q + 4 = nI (q + 4) from nI_add q 4]
            have g : cls C q := ⟨hc, x1, x2, x3, x4, x5⟩
            refine ⟨_, rfl, Or.inr ⟨q, haq, Nat.lt_succ_self q, g, rfl⟩, fun j h1 h2 h3 h4 => ?_⟩
            by_cases hj : j = q
            · subst hj; rfl
            · exact absurd h4 (old j h1 (by omega) h3)
      · rw [if_neg x3]; exact ⟨x, rfl, no (fun g => x3 g.2.2.2.1)⟩
    · rw [if_neg x2]; exact ⟨x, rfl, no (fun g => x2 g.2.2.1)⟩
  · rw [if_neg x1]; exact ⟨x, rfl, no (fun g => x1 g.2.1)⟩
theorem NPI_at {n : Nat} {C : Nat → Int32} (hC : CHs n C) {a q : Nat} {x : Int32} (ha : 4 ≤ a) (hq : q ≤ n) (h : NPI C a q x) (hd : D2 C a q) : (nI q = x ∧ NEST C a q) ∨ (¬ nI q = x ∧ (¬ NEST C a q ∨ q = n)) := by
  have hn := hC.1
  by_cases hx : nI q = x
  · refine Or.inl ⟨hx, ?_⟩
    rcases h.1 with g | ⟨j, j1, j2, ⟨k1, k2, k3, k4, k5, k6⟩, j4⟩
    · rw [g] at hx
      have := congrArg Int32.toInt hx
      rw [nI_toInt (by omega), show (-1 : Int32).toInt = -1 from rfl] at this
      omega
    · rw [j4] at hx
      have := (nI_eq (by omega) (by omega)).mp hx
      subst this
      exact ⟨by omega, k1, k2, k3, k4, k5⟩
  · refine Or.inr ⟨hx, ?_⟩
    by_cases hqn : q = n
    · exact Or.inr hqn
    · refine Or.inl (fun ⟨g1, g2, g3, g4, g5, g6⟩ => ?_)
      obtain ⟨j, rfl⟩ : ∃ j, q = j + 4 := ⟨q - 4, by omega⟩
      refine hx (h.2 j (by omega) (by omega) ⟨g2, g3, g4, g5, g6, fun g => ?_⟩ (Nat.le_refl _)).symm
      have := (ch_end hC).mp g
      omega
theorem NEST_n {C : Nat → Int32} {a q : Nat} (h : ¬ D2 C a q) : ¬ NEST C a q := fun g => h ⟨by have := g.1; omega, g.2.2.2.2.1, g.2.2.2.1⟩
/-- how the class's walk of a comment ends -/
def CE (n : Nat) (C : Nat → Int32) (a : Nat) (fl : Fl) (row : List Int32) (TL : List Tk) (cs au : Nat) (w q : Nat) (s : CS) : Prop := ∃ (k : Nat) (s' : CS),
  (∃ e, a ≤ e ∧ e < n ∧ ENDs C e ∧ (∀ j, a ≤ j → j < e → ¬ ENDs C j) ∧ Reach k w s 0 s' ∧ ((C (e + 2) = 62 ∧ e + 2 < n ∧ q ≤ e + 2 ∧ k + (if w = 20 then 1 else 0) ≤ 2 * (e + 3 - q) ∧ K0 n C (e + 3) (cFl C a fl (e + 2)) (CR C a row e) (TL ++ [(3, cs, (CR C a row e).length, 0, [])]) none au s') ∨ (¬ C (e + 2) = 62 ∧ e + 3 < n ∧ q ≤ e + 3 ∧ k + (if w = 20 then 1 else 0) ≤ 2 * (e + 4 - q) ∧ K0 n C (e + 4) (cFl C a fl (e + 3) ++ [(20, e + 3)]) (CR C a row e) (TL ++ [(3, cs, (CR C a row e).length, 0, [])]) none au s')))
  ∨ (∃ w' d', CW n C a w' d' n ∧ a + d' ≤ n ∧ (∀ j, a ≤ j → j < n → ¬ ENDs C j) ∧ Reach k w s 29 s' ∧ k + (if w = 20 then 1 else 0) ≤ 2 * (n - q) + 2 ∧ KE n C (cFl C a fl n ++ [(18, n)]) (CR C a row (n - d')) (TL ++ [(3, cs, (CR C a row (n - d')).length, 0, [])]) none au s')
theorem CE_stay {n : Nat} {C : Nat → Int32} {a : Nat} {fl : Fl} {row : List Int32} {TL : List Tk} {cs au : Nat} {w q : Nat} {s s1 : CS} (hw : ¬ w = 20) (hr : Reach 1 w s 20 s1) (h : CE n C a fl row TL cs au 20 q s1) : CE n C a fl row TL cs au w q s := by
  obtain ⟨k, s', h⟩ := h
  refine ⟨1 + k, s', ?_⟩
  rw [if_pos rfl] at h
  rw [if_neg hw]
  rcases h with ⟨e, h1, h2, h3, h4, h5, h6⟩ | ⟨w', d', h1, h2, h3, h4, h5, h6⟩
  · refine Or.inl ⟨e, h1, h2, h3, h4, hr.trans h5, ?_⟩
    rcases h6 with ⟨g1, g2, g3, g4, g5⟩ | ⟨g1, g2, g3, g4, g5⟩
    · exact Or.inl ⟨g1, g2, g3, by omega, g5⟩
    · exact Or.inr ⟨g1, g2, g3, by omega, g5⟩
  · exact Or.inr ⟨w', d', h1, h2, h3, hr.trans h4, by omega, h6⟩
theorem CE_move {n : Nat} {C : Nat → Int32} {a : Nat} {fl : Fl} {row : List Int32} {TL : List Tk} {cs au : Nat} {w w1 q : Nat} {s s1 : CS} (hq : q < n) (hr : Reach 1 w s w1 s1) (h : CE n C a fl row TL cs au w1 (q + 1) s1) : CE n C a fl row TL cs au w q s := by
  obtain ⟨k, s', h⟩ := h
  refine ⟨1 + k, s', ?_⟩
  have h0 : (if w = 20 then 1 else 0) ≤ 1 := by split <;> omega
  have h0' : 0 ≤ (if w1 = 20 then 1 else 0) := Nat.zero_le _
  rcases h with ⟨e, h1, h2, h3, h4, h5, h6⟩ | ⟨w', d', h1, h2, h3, h4, h5, h6⟩
  · refine Or.inl ⟨e, h1, h2, h3, h4, hr.trans h5, ?_⟩
    rcases h6 with ⟨g1, g2, g3, g4, g5⟩ | ⟨g1, g2, g3, g4, g5⟩
    · exact Or.inl ⟨g1, g2, by omega, by omega, g5⟩
    · exact Or.inr ⟨g1, g2, by omega, by omega, g5⟩
  · exact Or.inr ⟨w', d', h1, h2, h3, hr.trans h4, by omega, h6⟩
theorem ENDs_lt {n : Nat} {C : Nat → Int32} (hC : CHs n C) {j : Nat} (h : ENDs C j) : j + 2 < n ∧ (C (j + 2) = 33 → j + 3 < n) := by
  obtain ⟨h1, h2, h3⟩ := h
  constructor
  · by_cases hj : j + 2 < n
    · exact hj
    · rw [(ch_end hC).mpr (show n ≤ j + 2 by omega)] at h3
      rcases h3 with h3 | ⟨h3, -⟩ <;> exact absurd h3 (by decide)
  · intro h33
    by_cases hj : j + 3 < n
    · exact hj
    · rw [(ch_end hC).mpr (show n ≤ j + 3 by omega), h33] at h3
      rcases h3 with h3 | ⟨-, h3⟩ <;> exact absurd h3 (by decide)
theorem c_unf {n : Nat} {C : Nat → Int32} {p : Nat} {fl : Fl} {row : List Int32} {TL : List Tk} {cs : Nat} {cm : Int32} {au : Nat} {s : SSource} {t : STokens} (hS : BS n C p fl s) (hT : BT row TL t) (hM : MC1 au TL 3 cs cm t) (hf : fl.length < 1203) (ht : TL.length < 400) : ∃ s' t', f_CommentWays_unfinished s t = some (29, s', t') ∧ BS n C p (fl ++ [(18, p)]) s' ∧ BT row (TL ++ [(3, cs, row.length, cm, [])]) t' ∧ MC0 au (TL ++ [(3, cs, row.length, cm, [])]) none t' := by
  obtain ⟨s1, e1, b1⟩ := c_wrong hS 18 hf
  obtain ⟨t1, e2, b2, b3⟩ := c_done hT hM ht
  refine ⟨s1, f_Tokens_tell t1, ?_, b1, b2, b3⟩
  unfold f_CommentWays_unfinished f_Ways_toldAtEnd
  rw [e1, Option.bind_some, e2, Option.bind_some, Option.bind_some]
theorem c_fin {n : Nat} {C : Nat → Int32} (hn : n ≤ 400) {p : Nat} {fl : Fl} {row : List Int32} {TL : List Tk} {ck : Int32} {cs : Nat} {cm : Int32} {au : Nat} {s : SSource} {t : STokens} (hp : p < n) (hS : BS n C p fl s) (hT : BT row TL t) (hM : MC1 au TL ck cs cm t) (ht : TL.length < 400) : ∃ s' t', f_Ways_done s t = some (0, s', t') ∧ BS n C (p + 1) fl s' ∧ BT row (TL ++ [(ck, cs, row.length, cm, [])]) t' ∧ MC0 au (TL ++ [(ck, cs, row.length, cm, [])]) none t' := by
  obtain ⟨t1, e2, b2, b3⟩ := c_done hT hM ht
  obtain ⟨s2, e3, b4⟩ := c_then hn hS 0 hp
  refine ⟨s2, f_Tokens_tell t1, ?_, b4, b2, b3⟩
  unfold f_Ways_done
  rw [e2, Option.bind_some, e3]
theorem com_class {n : Nat} {C : Nat → Int32} (hC : CHs n C) {a : Nat} {fl : Fl} {row : List Int32} {TL : List Tk} {cs au : Nat} (ha : 4 ≤ a) (hfl : fl.length ≤ 2 * a) (hrow : row.length ≤ a) (hTL : TL.length < 400) (hrn : row.length + 4 ≤ a) : ∀ (m w d q : Nat) (s : CS), 2 * (n - q) + (if w = 20 then 0 else 1) < m → a + d ≤ q → q ≤ n → CW n C a w d q → NPI C a q s.1 → (∀ j, a ≤ j → j + d < q → ¬ ENDs C j) → K1 n C q (if w = 20 then n19 C a q (cFl C a fl q) else cFl C a fl q) (CR C a row (q - d)) TL 3 cs 0 au s → CE n C a fl row TL cs au w q s := by
  have hn := hC.1
  intro m
  induction m with
  | zero => intro w d q s h; omega
  | succ m ih =>
    intro w d q s hm haq hq hW hN hE hK
    obtain ⟨hS, hT, hM⟩ := hK
    have nx := c_next hC hS hq
    have hl := cFl_le C fl (show a ≤ q by omega)
    have hl2 := n19_len C a q (cFl C a fl q)
    have hr := CR_len C row (show a ≤ q - d by omega)
    have k45 : rK 45 = 45 := by decide
    have k33 : rK 33 = 33 := by decide
    -- at the end
    have atEnd : C q = -1 → ∀ (src : SSource), BS n C q (cFl C a fl q) src → (∀ s' t', f_CommentWays_unfinished src s.2.2.2.2 = some (29, s', t') → Reach 1 w s 29 (s.1, s.2.1, s', s.2.2.2.1, t')) → CE n C a fl row TL cs au w q s := by
      intro hc src hsrc hreach
      have hqn : q = n := by have := (ch_end hC).mp hc; omega
      obtain ⟨s', t', e1, b1, b2, b3⟩ := c_unf hsrc hT hM (by omega) hTL
      subst hqn
      refine ⟨1, (s.1, s.2.1, s', s.2.2.2.1, t'), Or.inr ⟨w, d, hW, haq, fun j j1 j2 j3 => ?_, hreach s' t' e1, ?_, KE_of0 (s := (s.1, s.2.1, s', s.2.2.2.1, t')) b1 b2 b3⟩⟩
      · by_cases hj : j + d < q
        · exact hE j j1 hj j3
        · obtain ⟨l1, l2⟩ := ENDs_lt hC j3
          rcases hW with ⟨-, rfl, -⟩ | ⟨-, rfl, -⟩ | ⟨-, rfl, -⟩ | ⟨-, rfl, h1, h2, h3⟩
          · omega
          · omega
          · omega
          · have : j + 3 = q := by omega
            subst this
            have := l2 h2
            omega
      · split <;> omega
    have hlt : ¬ C q = -1 → q < n := by
      intro h
      by_cases g : q < n
      · exact g
      · exact absurd ((ch_end hC).mpr (by omega)) h
    rcases hW with ⟨rfl, rfl, w1, w2, w3⟩ | ⟨rfl, rfl, w1, w2⟩ | ⟨rfl, rfl, w1⟩ | ⟨rfl, rfl, w1⟩
    · -- inside
      rw [if_pos rfl] at hS
      rw [Nat.sub_zero] at hT hr
      by_cases hc : C q = -1
      · have hn19 : n19 C a q (cFl C a fl q) = cFl C a fl q := by
          unfold n19
          refine if_neg (NEST_n (fun g => ?_))
          have := w1 ⟨by omega, g.2.1⟩
          have := (ch_end hC).mp hc
          omega
        rw [hn19] at hS
        refine atEnd hc s.2.2.1 hS (fun s' t' e => step1 (by decide) nx ?_)
        rw [fol_20]; unfold f_CommentWays_inside
        rw [if_pos hc, e, Option.bind_some, Option.bind_some]
      have hqn := hlt hc
      by_cases h45 : C q = 45
      · have nD1 : ¬ D1 C a q := fun g => (w1 g).2 h45
        have hn19 : n19 C a q (cFl C a fl q) = cFl C a fl q := if_neg (NEST_n (fun g => nD1 ⟨by omega, g.2.1⟩))
        rw [hn19] at hS
        obtain ⟨s2, e2, b4⟩ := c_then hn hS 21 hqn
        have hf1 : cFl C a fl (q + 1) = cFl C a fl q := by
          rw [cFl_s C fl (by omega), hn19]; unfold flK; rw [if_neg (by rw [h45]; decide)]
        refine CE_move hqn (s1 := (s.1, s.2.1, s2, s.2.2.2.1, s.2.2.2.2)) (step1 (by decide) nx (by
          rw [fol_20]; unfold f_CommentWays_inside
          rw [if_neg hc, if_pos h45, e2, Option.bind_some])) (ih 21 1 (q + 1) _ (by rw [if_pos rfl] at hm; rw [if_neg (by decide)]; omega) (by omega) (by omega) (Or.inr (Or.inl ⟨rfl, rfl, ⟨by omega, h45⟩, fun g => nD1 ⟨by omega, by have := g.2.2; rw [show q + 1 - 2 = q - 1 by omega] at this; exact this⟩⟩)) (NPI_s hN (by rw [h45]; decide)) (fun j j1 j2 => hE j j1 (by omega)) ⟨by rw [if_neg (by decide), hf1]; exact b4, hT, hM⟩)
      · -- a character that is kept
        have step : ∀ x', NPI C a (q + 1) x' → (∀ s3 t3, f_Ways_addKnown (C q) s.2.2.1 s.2.2.2.2 = some (s3, t3) → ∀ s4, f_Source_then 20 s3 = (20, s4) → Reach 1 20 s 20 (x', s.2.1, s4, s.2.2.2.1, t3)) → CE n C a fl row TL cs au 20 q s := by
          intro x' hx' hreach
          obtain ⟨s3, t3, e3, b1, b2, b3⟩ := c_known hS hT (C q) (by omega) (by omega)
          obtain ⟨s4, e4, b4⟩ := c_then hn b1 20 hqn
          have nD1 : ¬ D1 C a (q + 1) := fun g => h45 g.2
          have nD2 : ¬ D2 C a (q + 1) := fun g => h45 g.2.1
          have nD3 : ¬ D3 C a (q + 1) := by
            intro ⟨g1, g2, g3, g4⟩
            rw [show q + 1 - 2 = q - 1 by omega] at g3
            rw [show q + 1 - 3 = q - 2 by omega] at g4
            exact w3 ⟨by omega, g3, g4⟩ g2
          have hn19 : n19 C a (q + 1) (cFl C a fl (q + 1)) = cFl C a fl (q + 1) := if_neg (NEST_n nD2)
          refine CE_move hqn (hreach s3 t3 e3 s4 e4) (ih 20 0 (q + 1) (x', s.2.1, s4, s.2.2.2.1, t3) (by rw [if_pos rfl] at hm ⊢; omega) (by omega) (by omega) (Or.inl ⟨rfl, rfl, fun g => absurd g nD1, fun g => absurd g nD3, fun g => absurd g nD2⟩) hx' (fun j j1 j2 j3 => ?_) ⟨?_, ?_, MC1_sc hM b3⟩)
          · by_cases hj : j = q
            · subst hj; exact h45 j3.1
            · exact hE j j1 (by omega) j3
          · rw [if_pos rfl, hn19, cFl_s C fl (by omega)]; exact b4
          · rw [Nat.sub_zero, CR_s C row (by omega)]; exact b2
        by_cases h60 : C q = 60
        · obtain ⟨x', e1, hx'⟩ := c_look hC hS hq (by omega) h60 hN
          refine step x' hx' (fun s3 t3 e3 s4 e4 => step1 (by decide) nx ?_)
          rw [fol_20]; unfold f_CommentWays_inside
          rw [if_neg hc, if_neg h45, if_pos h60, e1, Option.bind_some, e3, Option.bind_some, Option.bind_some, e4]
        · refine step s.1 (NPI_s hN h60) (fun s3 t3 e3 s4 e4 => step1 (by decide) nx ?_)
          rw [fol_20]; unfold f_CommentWays_inside
          rw [if_neg hc, if_neg h45, if_neg h60, e3, Option.bind_some, Option.bind_some, e4]
    · -- one dash
      rw [if_neg (by decide)] at hS hm
      have hn19 : n19 C a q (cFl C a fl q) = cFl C a fl q := if_neg (NEST_n w2)
      obtain ⟨j, rfl⟩ : ∃ j, q = j + 1 := ⟨q - 1, by omega⟩
      have hj45 : C j = 45 := w1.2
      rw [show j + 1 - 1 = j from rfl] at hT hr
      by_cases hc : C (j + 1) = -1
      · refine atEnd hc s.2.2.1 hS (fun s' t' e => step1 (by decide) nx ?_)
        rw [fol_21]; unfold f_CommentWays_dash
        rw [if_pos hc, e, Option.bind_some, Option.bind_some]
      have hqn := hlt hc
      by_cases h45 : C (j + 1) = 45
      · obtain ⟨s2, e2, b4⟩ := c_then hn hS 22 hqn
        have hf1 : cFl C a fl (j + 1 + 1) = cFl C a fl (j + 1) := by
          rw [cFl_s C fl (by omega), hn19]; unfold flK; rw [if_neg (by rw [h45]; decide)]
        exact CE_move hqn (s1 := (s.1, s.2.1, s2, s.2.2.2.1, s.2.2.2.2)) (step1 (by decide) nx (by
          rw [fol_21]; unfold f_CommentWays_dash
          rw [if_neg hc, if_pos h45, e2, Option.bind_some])) (ih 22 2 (j + 1 + 1) _ (by rw [if_neg (by decide)]; omega) (by omega) (by omega) (Or.inr (Or.inr (Or.inl ⟨rfl, rfl, by omega, h45, hj45⟩))) (NPI_s hN (by rw [h45]; decide)) (fun i j1 j2 => hE i j1 (by omega)) ⟨by rw [if_neg (by decide), hf1]; exact b4, hT, hM⟩)
      · obtain ⟨t1, e1, b1, b2⟩ := c_add hT 45 (by omega)
        refine CE_stay (by decide) (s1 := (s.1, s.2.1, s.2.2.1, s.2.2.2.1, t1)) (step1 (by decide) nx (by
          rw [fol_21]; unfold f_CommentWays_dash
          rw [if_neg hc, if_neg h45, e1, Option.bind_some, Option.bind_some])) (ih 20 0 (j + 1) _ (by rw [if_pos rfl]; omega) (by omega) hq (Or.inl ⟨rfl, rfl, fun _ => ⟨hqn, h45⟩, fun _ => hqn, fun g => absurd g w2⟩) hN (fun i j1 j2 j3 => ?_) ⟨by rw [if_pos rfl, hn19]; exact hS, ?_, MC1_sc hM b2⟩)
        · by_cases hi : i = j
          · subst hi; exact h45 j3.2.1
          · exact hE i j1 (by omega) j3
        · rw [Nat.sub_zero, CR_s C row (by omega), hj45, k45]; exact b1
    · -- two dashes
      rw [if_neg (by decide)] at hS hm
      obtain ⟨j, rfl⟩ : ∃ j, q = j + 2 := ⟨q - 2, by omega⟩
      obtain ⟨w1, w2, w3⟩ := w1
      have w2' : C (j + 1) = 45 := w2
      have w3' : C j = 45 := w3
      rw [show j + 2 - 2 = j from rfl] at hT hr
      have hpl : f_Source_place s.2.2.1 = nI (j + 2) := hS.2.2.1
      -- the rest, behind the look for a nested one
      have rest : ∀ (src : SSource), BS n C (j + 2) (n19 C a (j + 2) (cFl C a fl (j + 2))) src → (C (j + 2) = -1 → src = s.2.2.1) → (∀ w' s' t', (if C (j + 2) = -1 then
      (f_CommentWays_unfinished src s.2.2.2.2).bind fun x1 =>
      some (x1.1, x1.2.1, x1.2.2)
    else
    if C (j + 2) = 33 then
      some ((f_Source_then 23 src).1, (f_Source_then 23 src).2, s.2.2.2.2)
    else
    if C (j + 2) = 45 then
      (f_Tokens_add 45 s.2.2.2.2).bind fun x2 =>
      some ((f_Source_then 22 src).1, (f_Source_then 22 src).2, x2)
    else
    if C (j + 2) = 62 then
      (f_Ways_done src s.2.2.2.2).bind fun x3 =>
      some (x3.1, x3.2.1, x3.2.2)
    else
    (f_Tokens_add 45 s.2.2.2.2).bind fun x4 =>
    (f_Tokens_add 45 x4).bind fun x5 =>
    some (20, src, x5)) = some (w', s', t') → Reach 1 22 s w' (s.1, s.2.1, s', s.2.2.2.1, t')) → CE n C a fl row TL cs au 22 (j + 2) s := by
        intro src hsrc hsame hreach
        by_cases hc : C (j + 2) = -1
        · refine atEnd hc s.2.2.1 hS (fun s' t' e => hreach 29 s' t' ?_)
          rw [if_pos hc, hsame hc, e, Option.bind_some]
        have hqn := hlt hc
        rw [if_neg hc] at hreach
        by_cases h33 : C (j + 2) = 33
        · rw [if_pos h33] at hreach
          obtain ⟨s2, e2, b4⟩ := c_then hn hsrc 23 hqn
          have hf1 : cFl C a fl (j + 2 + 1) = n19 C a (j + 2) (cFl C a fl (j + 2)) := by
            rw [cFl_s C fl (by omega)]; unfold flK; rw [if_neg (by rw [h33]; decide)]
          exact CE_move hqn (hreach 23 s2 s.2.2.2.2 (by rw [e2])) (ih 23 3 (j + 2 + 1) _ (by rw [if_neg (by decide)]; omega) (by omega) (by omega) (Or.inr (Or.inr (Or.inr ⟨rfl, rfl, by omega, h33, w2', w3'⟩))) (NPI_s hN (by rw [h33]; decide)) (fun i j1 j2 => hE i j1 (by omega)) ⟨by rw [if_neg (by decide), hf1]; exact b4, hT, hM⟩)
        rw [if_neg h33] at hreach
        by_cases h45 : C (j + 2) = 45
        · rw [if_pos h45] at hreach
          obtain ⟨t1, e1, b1, b2⟩ := c_add hT 45 (by omega)
          obtain ⟨s2, e2, b4⟩ := c_then hn hsrc 22 hqn
          have hf1 : cFl C a fl (j + 2 + 1) = n19 C a (j + 2) (cFl C a fl (j + 2)) := by
            rw [cFl_s C fl (by omega)]; unfold flK; rw [if_neg (by rw [h45]; decide)]
          refine CE_move hqn (hreach 22 s2 t1 (by rw [e1, Option.bind_some, e2])) (ih 22 2 (j + 2 + 1) _ (by rw [if_neg (by decide)]; omega) (by omega) (by omega) (Or.inr (Or.inr (Or.inl ⟨rfl, rfl, by omega, h45, w2'⟩))) (NPI_s hN (by rw [h45]; decide)) (fun i j1 j2 j3 => ?_) ⟨by rw [if_neg (by decide), hf1]; exact b4, ?_, MC1_sc hM b2⟩)
          · by_cases hi : i = j
            · subst hi
              rcases j3.2.2 with g | ⟨g, -⟩ <;> rw [h45] at g <;> exact absurd g (by decide)
            · exact hE i j1 (by omega) j3
          · rw [show j + 2 + 1 - 2 = j + 1 by omega, CR_s C row (by omega), w3', k45]; exact b1
        rw [if_neg h45] at hreach
        by_cases h62 : C (j + 2) = 62
        · rw [if_pos h62] at hreach
          have hn19 : n19 C a (j + 2) (cFl C a fl (j + 2)) = cFl C a fl (j + 2) := if_neg (fun g => g.2.2.2.2.2 h62)
          rw [hn19] at hsrc
          obtain ⟨s', t', e1, b1, b2, b3⟩ := c_fin hn hqn hsrc hT hM hTL
          exact ⟨1, (s.1, s.2.1, s', s.2.2.2.1, t'), Or.inl ⟨j, by omega, by omega, ⟨w3', w2', Or.inl h62⟩, fun i j1 j2 => hE i j1 (by omega), hreach 0 s' t' (by rw [e1, Option.bind_some]), Or.inl ⟨h62, hqn, Nat.le_refl _, by rw [if_neg (by decide)]; omega, b1, b2, b3⟩⟩⟩
        · rw [if_neg h62] at hreach
          obtain ⟨t1, e1, b1, b2⟩ := c_add hT 45 (by omega)
          obtain ⟨t2, e2, b3, b4⟩ := c_add b1 45 (by rw [lenS]; omega)
          refine CE_stay (by decide) (hreach 20 src t2 (by rw [e1, Option.bind_some, e2, Option.bind_some])) (ih 20 0 (j + 2) _ (by rw [if_pos rfl]; omega) (by omega) hq (Or.inl ⟨rfl, rfl, fun _ => ⟨hqn, h45⟩, fun _ => hqn, fun _ => h33⟩) hN (fun i j1 j2 j3 => ?_) ⟨by rw [if_pos rfl]; exact hsrc, ?_, MC1_sc (MC1_sc hM b2) b4⟩)
          · rcases (show i = j + 1 ∨ i = j ∨ i + 2 < j + 2 by omega) with rfl | rfl | g
            · exact h45 j3.2.1
            · rcases j3.2.2 with g | ⟨g, -⟩
              · exact h62 g
              · exact h33 g
            · exact hE i j1 g j3
          · rw [Nat.sub_zero, CR_s C row (by omega), CR_s C row (by omega), w3', w2', k45]; exact b3
      rcases NPI_at hC ha hq hN ⟨w1, w2, w3⟩ with ⟨x1, x2⟩ | ⟨x1, x2⟩
      · obtain ⟨s1, e1, b1⟩ := c_wrong hS 19 (by omega)
        refine rest s1 (by unfold n19; rw [if_pos x2]; exact b1) (fun hc => ?_) (fun w' s' t' e => step1 (by decide) nx ?_)
        · exfalso
          rcases hN.1 with g | ⟨i, j1, j2, ⟨k1, k2, k3, k4, k5, k6⟩, j4⟩
          · rw [g] at x1
            have := congrArg Int32.toInt x1
            rw [nI_toInt (by omega), show (-1 : Int32).toInt = -1 from rfl] at this
            omega
          · rw [j4] at x1
            have := (nI_eq (by omega) (by omega)).mp x1
            rw [← this] at k6
            exact k6 hc
        · rw [fol_22]; unfold f_CommentWays_end
          rw [hpl, if_pos x1, e1, Option.bind_some, e, Option.bind_some]
      · by_cases hqn : j + 2 = n
        · have hc : C (j + 2) = -1 := (ch_end hC).mpr (by omega)
          refine atEnd hc s.2.2.1 hS (fun s' t' e => step1 (by decide) nx ?_)
          rw [fol_22]; unfold f_CommentWays_end
          rw [hpl, if_neg x1, if_pos hc, e, Option.bind_some, Option.bind_some]
        · have nN : ¬ NEST C a (j + 2) := x2.elim id (fun g => absurd g hqn)
          refine rest s.2.2.1 (by unfold n19; rw [if_neg nN]; exact hS) (fun _ => rfl) (fun w' s' t' e => step1 (by decide) nx ?_)
          rw [fol_22]; unfold f_CommentWays_end
          rw [hpl, if_neg x1, e, Option.bind_some]
    · -- --!
      rw [if_neg (by decide)] at hS hm
      obtain ⟨j, rfl⟩ : ∃ j, q = j + 3 := ⟨q - 3, by omega⟩
      obtain ⟨w1, w2, w3, w4⟩ := w1
      have w2' : C (j + 2) = 33 := w2
      have w3' : C (j + 1) = 45 := w3
      have w4' : C j = 45 := w4
      have nD1 : ¬ C (j + 3 - 1) = 45 := by rw [w2]; decide
      have hn19 : n19 C a (j + 3) (cFl C a fl (j + 3)) = cFl C a fl (j + 3) := if_neg (NEST_n (fun g => nD1 g.2.1))
      rw [show j + 3 - 3 = j from rfl] at hT hr
      by_cases hc : C (j + 3) = -1
      · refine atEnd hc s.2.2.1 hS (fun s' t' e => step1 (by decide) nx ?_)
        rw [fol_23]; unfold f_CommentWays_bang
        rw [if_pos hc, e, Option.bind_some, Option.bind_some]
      have hqn := hlt hc
      by_cases h62 : C (j + 3) = 62
      · obtain ⟨s1, e0, b0⟩ := c_wrong hS 20 (by omega)
        obtain ⟨s', t', e1, b1, b2, b3⟩ := c_fin hn hqn b0 hT hM hTL
        exact ⟨1, (s.1, s.2.1, s', s.2.2.2.1, t'), Or.inl ⟨j, by omega, by omega, ⟨w4', w3', Or.inr ⟨w2', h62⟩⟩, fun i j1 j2 => hE i j1 (by omega), step1 (by decide) nx (by
          rw [fol_23]; unfold f_CommentWays_bang
          rw [if_neg hc, if_pos h62, e0, Option.bind_some, e1, Option.bind_some, Option.bind_some]), Or.inr ⟨by rw [w2']; decide, hqn, Nat.le_refl _, by rw [if_neg (by decide)]; omega, b1, b2, b3⟩⟩⟩
      obtain ⟨t1, e1, b1, b2⟩ := c_add hT 45 (by omega)
      obtain ⟨t2, e2, b3, b4⟩ := c_add b1 45 (by rw [lenS]; omega)
      obtain ⟨t3, e3, b5, b6⟩ := c_add b3 33 (by rw [lenS, lenS]; omega)
      have hrow3 : CR C a row (j + 3) = CR C a row j ++ [45] ++ [45] ++ [33] := by rw [CR_s C row (by omega), CR_s C row (by omega), CR_s C row (by omega), w4', w3', w2', k45, k33]
      have hMs := MC1_sc (MC1_sc (MC1_sc hM b2) b4) b6
      have noE : ∀ i, a ≤ i → i < j + 3 → ¬ ENDs C i := by
        intro i j1 j2 j3
        rcases (show i = j + 2 ∨ i = j + 1 ∨ i = j ∨ i + 3 < j + 3 by omega) with rfl | rfl | rfl | g
        · have := j3.1; rw [w2'] at this; exact absurd this (by decide)
        · have := j3.2.1; rw [show j + 1 + 1 = j + 2 from rfl, w2'] at this; exact absurd this (by decide)
        · rcases j3.2.2 with g | ⟨-, g⟩
          · rw [w2'] at g; exact absurd g (by decide)
          · exact h62 g
        · exact hE i j1 g j3
      by_cases h45 : C (j + 3) = 45
      · obtain ⟨s2, e4, b7⟩ := c_then hn hS 21 hqn
        have hf1 : cFl C a fl (j + 3 + 1) = cFl C a fl (j + 3) := by
          rw [cFl_s C fl (by omega), hn19]; unfold flK; rw [if_neg (by rw [h45]; decide)]
        exact CE_move hqn (s1 := (s.1, s.2.1, s2, s.2.2.2.1, t3)) (step1 (by decide) nx (by
          rw [fol_23]; unfold f_CommentWays_bang
          rw [if_neg hc, if_neg h62, e1, Option.bind_some, e2, Option.bind_some, e3, Option.bind_some, if_pos h45, e4, Option.bind_some])) (ih 21 1 (j + 3 + 1) _ (by rw [if_neg (by decide)]; omega) (by omega) (by omega) (Or.inr (Or.inl ⟨rfl, rfl, ⟨by omega, h45⟩, fun g => nD1 (by have := g.2.2; rw [show j + 3 + 1 - 2 = j + 3 - 1 by omega] at this; exact this)⟩)) (NPI_s hN (by rw [h45]; decide)) (fun i j1 j2 => noE i j1 (by omega)) ⟨by rw [if_neg (by decide), hf1]; exact b7, by rw [show j + 3 + 1 - 1 = j + 3 from rfl, hrow3]; exact b5, hMs⟩)
      · exact CE_stay (by decide) (s1 := (s.1, s.2.1, s.2.2.1, s.2.2.2.1, t3)) (step1 (by decide) nx (by
          rw [fol_23]; unfold f_CommentWays_bang
          rw [if_neg hc, if_neg h62, e1, Option.bind_some, e2, Option.bind_some, e3, Option.bind_some, if_neg h45, Option.bind_some])) (ih 20 0 (j + 3) _ (by rw [if_pos rfl]; omega) (by omega) hq (Or.inl ⟨rfl, rfl, fun g => absurd g.2 nD1, fun _ => hqn, fun g => absurd g.2.1 nD1⟩) hN (fun i j1 j2 => noE i j1 (by omega)) ⟨by rw [if_pos rfl, hn19]; exact hS, by rw [Nat.sub_zero, hrow3]; exact b5, hMs⟩)
