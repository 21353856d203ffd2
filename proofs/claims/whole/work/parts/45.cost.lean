theorem fm_congr {α β : Type} {l : List α} {f g : α → List β} (h : ∀ a ∈ l, f a = g a) : l.flatMap f = l.flatMap g := by rw [List.flatMap_def, List.flatMap_def, List.map_congr_left h]
theorem rw_app {row l : List Int32} {k : Nat} (h : k < row.length) : rw (row ++ l) k = rw row k := by
  unfold rw
  rw [List.getD_eq_getElem?_getD, List.getD_eq_getElem?_getD, List.getElem?_append_left h]
theorem slice_congr {ρ ρ' : Nat → Int32} {a b : Nat} (h : ∀ k, a ≤ k → k < b → ρ k = ρ' k) : slice ρ a b = slice ρ' a b := by
  unfold slice
  apply List.map_congr_left
  intro k hk
  have := List.mem_range.mp hk
  exact h (a + k) (by omega) (by omega)
theorem slice_len (ρ : Nat → Int32) (a b : Nat) : (slice ρ a b).length = b - a := by unfold slice; rw [List.length_map, List.length_range]
theorem TkV_mono {u u' : Nat} {tk : Tk} (h : TkV u tk) (hu : u ≤ u') : TkV u' tk := ⟨h.1, Nat.le_trans h.2.1 hu, h.2.2.1, fun a ha => ⟨(h.2.2.2 a ha).1, (h.2.2.2 a ha).2.1, Nat.le_trans (h.2.2.2 a ha).2.2 hu⟩⟩
theorem tkOut_rw {row l : List Int32} {tk : Tk} (h : TkV row.length tk) : tkOut (rw (row ++ l)) tk = tkOut (rw row) tk := by
  obtain ⟨h1, h2, h3, h4⟩ := h
  have e1 : slice (rw (row ++ l)) tk.2.1 tk.2.2.1 = slice (rw row) tk.2.1 tk.2.2.1 := slice_congr (fun k _ hk => rw_app (by omega))
  have e2 : tk.2.2.2.2.flatMap (attOut (rw (row ++ l))) = tk.2.2.2.2.flatMap (attOut (rw row)) := by
    apply fm_congr
    intro a ha
    obtain ⟨g1, g2, g3⟩ := h4 a ha
    unfold attOut
    rw [slice_congr (ρ := rw (row ++ l)) (ρ' := rw row) (a := a.1) (b := a.2.1) (fun k _ hk => rw_app (by omega)), slice_congr (ρ := rw (row ++ l)) (ρ' := rw row) (a := a.2.1) (b := a.2.2) (fun k _ hk => rw_app (by omega))]
  unfold tkOut
  rw [e1, e2]
theorem wOut_rw {row l : List Int32} {TL : List Tk} (h : ∀ tk ∈ TL, TkV row.length tk) : wOut (rw (row ++ l)) TL = wOut (rw row) TL := by
  unfold wOut
  apply fm_congr
  intro tk ht
  exact tkOut_rw (h tk ht)
theorem wOut_snoc (ρ : Nat → Int32) (TL : List Tk) (tk : Tk) : wOut ρ (TL ++ [tk]) = wOut ρ TL ++ tkOut ρ tk := by unfold wOut; rw [List.flatMap_append, List.flatMap_singleton]
theorem com_len (ρ : Nat → Int32) (a e : Nat) (m : Int32) : (tkOut ρ (3, a, e, m, [])).length = 7 + (e - a) := by
  unfold tkOut
  rw [if_neg (show ¬ ((3 : Int32), a, e, m, ([] : List At)).1 = 0 by show ¬ (3 : Int32) = 0; decide), if_pos rfl]
  simp only [List.length_append, List.length_map, slice_len, List.length_cons, List.length_nil]
  omega
theorem dgk_len (n : Nat) : ∀ k, (dgk n k).length = k := by
  intro k
  induction k with
  | zero => rfl
  | succ k ih => show (_ :: dgk n k).length = k + 1; rw [List.length_cons, ih]
theorem ndg_le (n : Nat) : ndg n ≤ 7 := by
  unfold ndg
  by_cases a1 : n < 10
  · rw [if_pos a1]; omega
  by_cases a2 : n < 100
  · rw [if_neg a1, if_pos a2]; omega
  by_cases a3 : n < 1000
  · rw [if_neg a1, if_neg a2, if_pos a3]; omega
  by_cases a4 : n < 10000
  · rw [if_neg a1, if_neg a2, if_neg a3, if_pos a4]; omega
  by_cases a5 : n < 100000
  · rw [if_neg a1, if_neg a2, if_neg a3, if_neg a4, if_pos a5]; omega
  by_cases a6 : n < 1000000
  · rw [if_neg a1, if_neg a2, if_neg a3, if_neg a4, if_neg a5, if_pos a6]; omega
  · rw [if_neg a1, if_neg a2, if_neg a3, if_neg a4, if_neg a5, if_neg a6]; omega
theorem dgs_len (n : Nat) : (dgs n).length ≤ 7 := by unfold dgs; rw [dgk_len]; exact ndg_le n
theorem dgs_len5 {n : Nat} (h : n < 100000) : (dgs n).length ≤ 5 := by
  unfold dgs; rw [dgk_len]; unfold ndg
  by_cases a1 : n < 10
  · rw [if_pos a1]; omega
  by_cases a2 : n < 100
  · rw [if_neg a1, if_pos a2]; omega
  by_cases a3 : n < 1000
  · rw [if_neg a1, if_neg a2, if_pos a3]; omega
  by_cases a4 : n < 10000
  · rw [if_neg a1, if_neg a2, if_neg a3, if_pos a4]; omega
  · rw [if_neg a1, if_neg a2, if_neg a3, if_neg a4, if_pos h]; omega
theorem encR_len (c : Nat) (hc : c ≤ 1114111) : (encR (nI c)).length ≤ 10 ∧ (c < 100000 → (encR (nI c)).length ≤ 8) := by
  unfold encR
  rw [nI_clamp (by omega)]
  by_cases h1 : nI c = 38
  · rw [if_pos h1]; simp
  rw [if_neg h1]
  by_cases h2 : nI c = 13 ∨ 255 < nI c
  · rw [if_pos h2]
    simp only [List.length_append, List.length_cons, List.length_nil]
    have := dgs_len c
    exact ⟨by omega, fun h => by have := dgs_len5 h; omega⟩
  · rw [if_neg h2]; simp
theorem encT_len (c : Nat) (hc : c ≤ 1114111) : (encT (nI c)).length ≤ 10 ∧ (c < 100000 → (encT (nI c)).length ≤ 8) := by
  unfold encT
  by_cases h : nI c = 60
  · rw [if_pos h]; simp
  · rw [if_neg h]; exact encR_len c hc
theorem encV_len (c : Nat) (hc : c ≤ 1114111) : (encV (nI c)).length ≤ 10 ∧ (c < 100000 → (encV (nI c)).length ≤ 8) := by
  unfold encV
  by_cases h : nI c = 34
  · rw [if_pos h]; simp
  · rw [if_neg h]; exact encR_len c hc
theorem slice_snoc {ρ : Nat → Int32} {a b : Nat} (h : a ≤ b) : slice ρ a (b + 1) = slice ρ a b ++ [ρ b] := by
  unfold slice
  rw [show b + 1 - a = b - a + 1 by omega, List.range_succ, List.map_append]
  congr 1
  show [ρ (a + (b - a))] = [ρ b]
  rw [show a + (b - a) = b by omega]
theorem rw_last (row : List Int32) (c : Int32) : rw (row ++ [c]) row.length = c := by
  unfold rw
  rw [List.getD_eq_getElem?_getD]
  simp
/-- the cost of an open text grows by what its new character costs -/
theorem cost_text {row : List Int32} {TL : List Tk} {tx : Option Nat} (hV : ∀ tk ∈ fT row.length tx TL, TkV row.length tk) (c : Int32) : (wOut (rw (row ++ [c])) (fT (row ++ [c]).length (some (tx.getD row.length)) TL)).length = (wOut (rw row) (fT row.length tx TL)).length + (encT c).length := by
  have key : ∀ a, a ≤ row.length → (tkOut (rw (row ++ [c])) (0, a, (row ++ [c]).length, 0, [])) = (slice (rw row) a row.length).flatMap encT ++ encT c := by
    intro a ha
    unfold tkOut
    rw [if_pos rfl]
    show (slice (rw (row ++ [c])) a (row ++ [c]).length).flatMap encT = _
    rw [lenS, slice_snoc ha, List.flatMap_append, List.flatMap_singleton, rw_last, slice_congr (ρ := rw (row ++ [c])) (ρ' := rw row) (a := a) (b := row.length) (fun k _ hk => rw_app hk)]
  cases tx with
  | none =>
    show (wOut (rw (row ++ [c])) (TL ++ [(0, row.length, (row ++ [c]).length, 0, [])])).length = (wOut (rw row) TL).length + _
    rw [wOut_snoc, wOut_rw (TL := TL) (fun tk h => hV tk h), key _ (Nat.le_refl _), List.length_append, slice_nil (Nat.le_refl _)]
    simp
  | some a =>
    have ha : a ≤ row.length := (hV (0, a, row.length, 0, []) (by unfold fT; simp)).1
    have hV' : ∀ tk ∈ TL, TkV row.length tk := fun tk h => hV tk (by unfold fT; simp [h])
    show (wOut (rw (row ++ [c])) (TL ++ [(0, a, (row ++ [c]).length, 0, [])])).length = (wOut (rw row) (TL ++ [(0, a, row.length, 0, [])])).length + _
    rw [wOut_snoc, wOut_snoc, wOut_rw hV', key _ ha, List.length_append, List.length_append, List.length_append]
    have e : tkOut (rw row) (0, a, row.length, 0, []) = (slice (rw row) a row.length).flatMap encT := by unfold tkOut; rw [if_pos rfl]
    rw [e]; omega
theorem fT_V {u : Nat} {tx : Option Nat} {TL : List Tk} (h : ∀ tk ∈ TL, TkV u tk) (hx : ∀ a, tx = some a → a ≤ u) : ∀ tk ∈ fT u tx TL, TkV u tk := by
  cases tx with
  | none => exact h
  | some a =>
    intro tk ht
    rcases List.mem_append.mp ht with h1 | h1
    · exact h tk h1
    · have := List.mem_singleton.mp h1
      subst this
      exact ⟨hx a rfl, Nat.le_refl _, Or.inl rfl, fun a h => by simp at h⟩
theorem fT_sub {u : Nat} {tx : Option Nat} {TL : List Tk} {tk : Tk} (h : tk ∈ TL) : tk ∈ fT u tx TL := by
  cases tx with
  | none => exact h
  | some a => exact List.mem_append_left _ h
