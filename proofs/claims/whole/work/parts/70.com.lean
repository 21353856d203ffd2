abbrev NEST (C : Nat → Int32) (a k : Nat) : Prop := a + 4 ≤ k ∧ C (k - 4) = 60 ∧ C (k - 3) = 33 ∧ C (k - 2) = 45 ∧ C (k - 1) = 45 ∧ ¬ C k = 62
def n19 (C : Nat → Int32) (a k : Nat) (fl : Fl) : Fl := if NEST C a k then fl ++ [(19, k)] else fl
def cFl (C : Nat → Int32) (a : Nat) (fl : Fl) : Nat → Fl
  | 0 => fl
  | k + 1 => if k < a then fl else flK (C k) k (n19 C a k (cFl C a fl k))
def CR (C : Nat → Int32) (a : Nat) (row : List Int32) : Nat → List Int32
  | 0 => row
  | k + 1 => if k < a then row else CR C a row k ++ [rK (C k)]
theorem cFl_a (C : Nat → Int32) (a : Nat) (fl : Fl) : cFl C a fl a = fl := by
  cases a with
  | zero => rfl
  | succ k => show (if k < k + 1 then fl else _) = fl; rw [if_pos (Nat.lt_succ_self k)]
theorem cFl_s (C : Nat → Int32) {a k : Nat} (fl : Fl) (h : a ≤ k) : cFl C a fl (k + 1) = flK (C k) k (n19 C a k (cFl C a fl k)) := by
  show (if k < a then fl else _) = _
  rw [if_neg (Nat.not_lt.mpr h)]
theorem CR_a (C : Nat → Int32) (a : Nat) (row : List Int32) : CR C a row a = row := by
  cases a with
  | zero => rfl
  | succ k => show (if k < k + 1 then row else _) = row; rw [if_pos (Nat.lt_succ_self k)]
theorem CR_s (C : Nat → Int32) {a k : Nat} (row : List Int32) (h : a ≤ k) : CR C a row (k + 1) = CR C a row k ++ [rK (C k)] := by
  show (if k < a then row else _) = _
  rw [if_neg (Nat.not_lt.mpr h)]
theorem n19_len (C : Nat → Int32) (a k : Nat) (fl : Fl) : fl.length ≤ (n19 C a k fl).length ∧ (n19 C a k fl).length ≤ fl.length + 1 := by
  unfold n19
  by_cases h : NEST C a k
  · rw [if_pos h, lenS]; omega
  · rw [if_neg h]; omega
theorem cFl_len (C : Nat → Int32) (a : Nat) (fl : Fl) : ∀ d, (cFl C a fl (a + d)).length ≤ fl.length + 2 * d := by
  intro d
  induction d with
  | zero => rw [Nat.add_zero, cFl_a]; omega
  | succ d ih =>
    rw [← Nat.add_assoc, cFl_s C fl (by omega)]
    have h1 := flK_len (C (a + d)) (a + d) (n19 C a (a + d) (cFl C a fl (a + d)))
    have h2 := n19_len C a (a + d) (cFl C a fl (a + d))
    omega
theorem cFl_le (C : Nat → Int32) {a k : Nat} (fl : Fl) (h : a ≤ k) : (cFl C a fl k).length + 2 * a ≤ fl.length + 2 * k := by
  obtain ⟨d, rfl⟩ : ∃ d, k = a + d := ⟨k - a, by omega⟩
  have := cFl_len C a fl d
  omega
theorem CR_len0 (C : Nat → Int32) (a : Nat) (row : List Int32) : ∀ d, (CR C a row (a + d)).length = row.length + d := by
  intro d
  induction d with
  | zero => rw [Nat.add_zero, CR_a, Nat.add_zero]
  | succ d ih => rw [← Nat.add_assoc, CR_s C row (by omega), lenS, ih]; omega
theorem CR_len (C : Nat → Int32) {a k : Nat} (row : List Int32) (h : a ≤ k) : (CR C a row k).length + a = row.length + k := by
  obtain ⟨d, rfl⟩ : ∃ d, k = a + d := ⟨k - a, by omega⟩
  rw [CR_len0]; omega
theorem CR_app {n : Nat} {C : Nat → Int32} (hC : CHs n C) (a : Nat) (row : List Int32) : ∀ d, a + d ≤ n → ∃ l, CR C a row (a + d) = row ++ l ∧ ∀ x ∈ l, ∃ c : Nat, c ≤ 1114111 ∧ x = nI c := by
  intro d
  induction d with
  | zero => intro _; exact ⟨[], by rw [Nat.add_zero, CR_a, List.append_nil], fun x h => by cases h⟩
  | succ d ih =>
    intro h
    obtain ⟨l, e, hl⟩ := ih (by omega)
    refine ⟨l ++ [rK (C (a + d))], ?_, fun x hx => ?_⟩
    · rw [← Nat.add_assoc, CR_s C row (by omega), e, List.append_assoc]
    · rcases List.mem_append.mp hx with hx | hx
      · exact hl x hx
      · rw [List.mem_singleton.mp hx]; exact rK_ok hC (by omega)
def ENDs (C : Nat → Int32) (j : Nat) : Prop := C j = 45 ∧ C (j + 1) = 45 ∧ (C (j + 2) = 62 ∨ (C (j + 2) = 33 ∧ C (j + 3) = 62))
theorem m_cend {n : Nat} {C : Nat → Int32} (hC : CHs n C) {p : Nat} {fl : Fl} {row : List Int32} {TL : List Tk} {M : SMo} (hB : BM n C p fl row TL M) (a : Nat) (v1 : Int32) : ∀ (d k f : Nat), n - k ≤ d → d + 1 < f → k ≤ n → (∀ j, a ≤ j → j < k → ¬ ENDs C j) → ∃ e, f_Mo_commentEnd_4 f v1 (nI k) 0 M = some (nI e) ∧ k ≤ e ∧ e ≤ n ∧ (∀ j, a ≤ j → j < e → ¬ ENDs C j) ∧ (e < n → ENDs C e) := by
  have hn := hC.1
  intro d
  induction d with
  | zero =>
    intro k f h1 h2 h3 h4
    obtain ⟨f, rfl⟩ : ∃ q, f = q + 1 := ⟨f - 1, by omega⟩
    refine ⟨k, ?_, Nat.le_refl _, h3, h4, fun h => by omega⟩
    rw [f_Mo_commentEnd_4, hB.1, if_pos (nI_le (by omega) (by omega))]
  | succ d ih =>
    intro k f h1 h2 h3 h4
    obtain ⟨f, rfl⟩ : ∃ q, f = q + 1 := ⟨f - 1, by omega⟩
    by_cases hk : n ≤ k
    · refine ⟨k, ?_, Nat.le_refl _, h3, h4, fun h => by omega⟩
      rw [f_Mo_commentEnd_4, hB.1, if_pos (nI_le (by omega) (by omega))]
    have c1 : f_Mo_charAt (nI k + 1) M = some (C (k + 1)) := by rw [nI_1]; exact m_char hC hB (by omega)
    have c2 : f_Mo_charAt (nI k + 2) M = some (C (k + 2)) := by rw [show nI k + 2 = nI (k + 2) from nI_add k 2]; exact m_char hC hB (by omega)
    have c3 : f_Mo_charAt (nI k + 3) M = some (C (k + 3)) := by rw [show nI k + 3 = nI (k + 3) from nI_add k 3]; exact m_char hC hB (by omega)
    rw [f_Mo_commentEnd_4, hB.1, if_neg (nI_ge (by omega) (by omega)), if_pos rfl, m_char hC hB (by omega), Option.bind_some]
    have yes : ENDs C k → ∃ e, f_Mo_commentEnd_4 f v1 (nI k) 1 M = some (nI e) ∧ k ≤ e ∧ e ≤ n ∧ (∀ j, a ≤ j → j < e → ¬ ENDs C j) ∧ (e < n → ENDs C e) := by
      intro h
      obtain ⟨f, rfl⟩ : ∃ q, f = q + 1 := ⟨f - 1, by omega⟩
      refine ⟨k, ?_, Nat.le_refl _, h3, h4, fun _ => h⟩
      rw [f_Mo_commentEnd_4, hB.1, if_neg (nI_ge (by omega) (by omega)), if_neg (by decide)]
    have no : ¬ ENDs C k → ∃ e, f_Mo_commentEnd_4 f v1 (nI k + 1) 0 M = some (nI e) ∧ k ≤ e ∧ e ≤ n ∧ (∀ j, a ≤ j → j < e → ¬ ENDs C j) ∧ (e < n → ENDs C e) := by
      intro h
      obtain ⟨e, e1, e2, e3⟩ := ih (k + 1) f (by omega) (by omega) (by omega) (fun j j1 j2 => by
        by_cases hj : j = k
        · subst hj; exact h
        · exact h4 j j1 (by omega))
      exact ⟨e, by rw [nI_1]; exact e1, by omega, e3⟩
    by_cases x1 : C k = 45
    · rw [if_pos x1, c1, Option.bind_some]
      by_cases x2 : C (k + 1) = 45
      · rw [if_pos x2, c2, Option.bind_some]
        by_cases x3 : C (k + 2) = 62
        · rw [if_pos x3]; exact yes ⟨x1, x2, Or.inl x3⟩
        · rw [if_neg x3, Option.bind_some]
          by_cases x4 : C (k + 2) = 33
          · rw [if_pos x4, c3, Option.bind_some]
            by_cases x5 : C (k + 3) = 62
            · rw [if_pos x5]; exact yes ⟨x1, x2, Or.inr ⟨x4, x5⟩⟩
            · rw [if_neg x5]; exact no (fun h => h.2.2.elim x3 (fun g => x5 g.2))
          · rw [if_neg x4]; exact no (fun h => h.2.2.elim x3 (fun g => x4 g.1))
      · rw [if_neg x2]; exact no (fun h => x2 h.2.1)
    · rw [if_neg x1]; exact no (fun h => x1 h.1)
theorem m_com446 {n : Nat} {C : Nat → Int32} (hC : CHs n C) {a k p kept : Nat} {fl : Fl} {row : List Int32} {TL : List Tk} {M : SMo} (hak : a ≤ k) (hk : k < n) (hB : BM n C p fl (CR C a row (min k kept)) TL M) (hfl : fl.length < 1200) (hakp : a ≤ kept) (hrow : row.length ≤ a) (K : Int32 → Int32 → Int32 → Int32 → Int32 → Int32 → SMo → Option SMo) (v1 v2 v3 v5 v7 : Int32) (hkn : kept ≤ n) : ∃ M', f_Mo_comment_446 K v1 v2 v3 (nI kept) v5 (nI k) v7 M = K v1 v2 v3 (nI kept) v5 (nI (k + 1)) M' ∧ BM n C p (flK (C k) k fl) (CR C a row (min (k + 1) kept)) TL M' ∧ EF M M' ∧ EE M M' ∧ SM M M' ∧ SX M M' := by
  have hn := hC.1
  have s446 : ∃ M1, f_Mo_comment_446 K v1 v2 v3 (nI kept) v5 (nI k) v7 M = f_Mo_comment_462 K v1 v2 v3 (nI kept) v5 (nI k) v7 M1 ∧ BM n C p (flK (C k) k fl) (CR C a row (min k kept)) TL M1 ∧ EF M M1 ∧ EE M M1 ∧ SM M M1 ∧ SX M M1 := by
    unfold f_Mo_comment_446 flK
    rw [m_char hC hB (by omega), Option.bind_some]
    by_cases h : C k = 0
    · obtain ⟨M1, e1, b⟩ := m_wrong hB 1 k hfl
      rw [if_pos h, if_pos h, e1, Option.bind_some]
      exact ⟨M1, rfl, b⟩
    · rw [if_neg h, if_neg h]
      exact ⟨M, rfl, hB, EF.rf M, rfl, SM.rf M, rfl, rfl⟩
  obtain ⟨M1, e1, b1, b2, b3, b4, b5⟩ := s446
  rw [e1]
  unfold f_Mo_comment_462
  by_cases h : kept ≤ k
  · rw [if_pos (nI_le h (by omega)), nI_1]
    refine ⟨M1, rfl, ?_, b2, b3, b4, b5⟩
    rw [show min (k + 1) kept = min k kept by omega]; exact b1
  · have h1 : min k kept = k := by omega
    have h2 : min (k + 1) kept = k + 1 := by omega
    have hl := CR_len C row hak
    rw [if_neg (nI_ge (by omega) (by omega)), m_char hC b1 (by omega), Option.bind_some, nI_1, h2, CR_s C row hak]
    rw [h1] at b1
    by_cases h0 : C k = 0
    · obtain ⟨M2, e2, d1, d2, d3, d4, d5⟩ := m_keep b1 65533 (by omega)
      rw [if_pos h0, e2, Option.bind_some]
      refine ⟨M2, rfl, ?_, b2.trans d2, b3.trans d3, b4.trans d4, b5.trans d5⟩
      rw [show rK (C k) = 65533 from if_pos h0]; exact d1
    · obtain ⟨M2, e2, d1, d2, d3, d4, d5⟩ := m_keep b1 (C k) (by omega)
      rw [if_neg h0, Option.bind_some, e2, Option.bind_some]
      refine ⟨M2, rfl, ?_, b2.trans d2, b3.trans d3, b4.trans d4, b5.trans d5⟩
      rw [show rK (C k) = C k from if_neg h0]; exact d1
theorem m_com_loop {n : Nat} {C : Nat → Int32} (hC : CHs n C) {a kept st p : Nat} {fl : Fl} {row : List Int32} {TL : List Tk} (ha : 4 ≤ a) (hfl : fl.length ≤ 2 * a) (hrow : row.length ≤ a) (hst : st ≤ n) (hks : kept ≤ st) (hak : a ≤ kept) (v3 : Int32) : ∀ (d k f : Nat) (M : SMo), st - k ≤ d → d < f → a ≤ k → k ≤ st → BM n C p (cFl C a fl k) (CR C a row (min k kept)) TL M → ∃ M' f', f_Mo_comment_348 f (nI a) 0 v3 (nI kept) (nI st) (nI k) M = f_Mo_comment_348 (f' + 1) (nI a) 0 v3 (nI kept) (nI st) (nI st) M' ∧ BM n C p (cFl C a fl st) (CR C a row kept) TL M' ∧ EF M M' ∧ EE M M' ∧ SM M M' ∧ SX M M' := by
  have hn := hC.1
  intro d
  induction d with
  | zero =>
    intro k f M h1 h2 h3 h4 hB
    obtain ⟨f, rfl⟩ : ∃ q, f = q + 1 := ⟨f - 1, by omega⟩
    have : k = st := by omega
    subst this
    rw [show min k kept = kept by omega] at hB
    exact ⟨M, f, rfl, hB, EF.rf M, rfl, SM.rf M, rfl, rfl⟩
  | succ d ih =>
    intro k f M h1 h2 h3 h4 hB
    obtain ⟨f, rfl⟩ : ∃ q, f = q + 1 := ⟨f - 1, by omega⟩
    by_cases hk : k = st
    · subst hk
      rw [show min k kept = kept by omega] at hB
      exact ⟨M, f, rfl, hB, EF.rf M, rfl, SM.rf M, rfl, rfl⟩
    have hl := cFl_le C fl h3
    have hl2 := n19_len C a k (cFl C a fl k)
    -- behind the look for a nested comment
    have go : ∀ (M1 : SMo) (v7 : Int32), BM n C p (n19 C a k (cFl C a fl k)) (CR C a row (min k kept)) TL M1 → ∃ M' f', f_Mo_comment_446 (fun v1 v2 v3 v4 v5 v6 sMo => f_Mo_comment_348 f v1 v2 v3 v4 v5 v6 sMo) (nI a) 0 v3 (nI kept) (nI st) (nI k) v7 M1 = f_Mo_comment_348 (f' + 1) (nI a) 0 v3 (nI kept) (nI st) (nI st) M' ∧ BM n C p (cFl C a fl st) (CR C a row kept) TL M' ∧ EF M1 M' ∧ EE M1 M' ∧ SM M1 M' ∧ SX M1 M' := by
      intro M1 v7 b1
      obtain ⟨M2, e2, d1, d2, d3, d4, d5⟩ := m_com446 hC h3 (by omega) b1 (by omega) hak hrow (fun v1 v2 v3 v4 v5 v6 sMo => f_Mo_comment_348 f v1 v2 v3 v4 v5 v6 sMo) (nI a) 0 v3 (nI st) v7 (by omega)
      rw [← cFl_s C fl h3] at d1
      obtain ⟨M3, f', e3, g1, g2, g3, g4, g5⟩ := ih (k + 1) f M2 (by omega) (by omega) (by omega) (by omega) d1
      exact ⟨M3, f', by rw [e2]; exact e3, g1, d2.trans g2, d3.trans g3, d4.trans g4, d5.trans g5⟩
    have no : ¬ NEST C a k → ∃ M' f', f_Mo_comment_419 (fun v1 v2 v3 v4 v5 v6 sMo => f_Mo_comment_348 f v1 v2 v3 v4 v5 v6 sMo) (nI a) 0 v3 (nI kept) (nI st) (nI k) M = f_Mo_comment_348 (f' + 1) (nI a) 0 v3 (nI kept) (nI st) (nI st) M' ∧ BM n C p (cFl C a fl st) (CR C a row kept) TL M' ∧ EF M M' ∧ EE M M' ∧ SM M M' ∧ SX M M' := by
      intro h
      unfold f_Mo_comment_419
      exact go M 0 (by unfold n19; rw [if_neg h]; exact hB)
    rw [f_Mo_comment_348, if_neg (nI_ge (by omega) (by omega))]
    rw [show nI k - 4 = nI (k - 4) from nI_sub (a := 4) (by omega), show nI k - 3 = nI (k - 3) from nI_sub (a := 3) (by omega), show nI k - 2 = nI (k - 2) from nI_sub (a := 2) (by omega), show nI k - 1 = nI (k - 1) from nI_sub (a := 1) (by omega)]
    rw [m_char hC hB (k := k - 4) (by omega), m_char hC hB (k := k - 3) (by omega), m_char hC hB (k := k - 2) (by omega), m_char hC hB (k := k - 1) (by omega), m_char hC hB (k := k) (by omega), Option.bind_some, Option.bind_some, Option.bind_some, Option.bind_some, Option.bind_some]
    by_cases x0 : a + 4 ≤ k
    · rw [if_neg (nI_nlt (by omega) (by omega))]
      by_cases x1 : C (k - 4) = 60
      · rw [if_pos x1]
        by_cases x2 : C (k - 3) = 33
        · rw [if_pos x2]
          by_cases x3 : C (k - 2) = 45
          · rw [if_pos x3]
            by_cases x4 : C (k - 1) = 45
            · rw [if_pos x4]
              by_cases x5 : C k = 62
              · rw [if_pos x5]
                exact go M 1 (by unfold n19; rw [if_neg (fun h => h.2.2.2.2.2 x5)]; exact hB)
              · rw [if_neg x5]
                obtain ⟨M1, e1, b1, b2, b3, b4, b5⟩ := m_wrong hB 19 k (by omega)
                rw [e1, Option.bind_some]
                obtain ⟨M', f', e3, g1, g2, g3, g4, g5⟩ := go M1 1 (by unfold n19; rw [if_pos ⟨x0, x1, x2, x3, x4, x5⟩]; exact b1)
                exact ⟨M', f', e3, g1, b2.trans g2, b3.trans g3, b4.trans g4, b5.trans g5⟩
            · rw [if_neg x4]; exact no (fun h => x4 h.2.2.2.2.1)
          · rw [if_neg x3]; exact no (fun h => x3 h.2.2.2.1)
        · rw [if_neg x2]; exact no (fun h => x2 h.2.2.1)
      · rw [if_neg x1]; exact no (fun h => x1 h.2.1)
    · rw [if_pos (nI_lt (by omega) (by omega))]; exact no (fun h => x0 h.1)
