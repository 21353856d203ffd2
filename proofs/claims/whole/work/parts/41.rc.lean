def CHs (n : Nat) (C : Nat → Int32) : Prop := n ≤ 400 ∧ (∀ k, k < n → ∃ c : Nat, c ≤ 255 ∧ C k = nI c) ∧ ∀ k, n ≤ k → C k = -1
abbrev Fl : Type := List (Int32 × Nat)
def BS (n : Nat) (C : Nat → Int32) (p : Nat) (fl : Fl) (s : SSource) : Prop := q_Source_count s = nI n ∧ (∀ k, k < n → q_Source_characters s k = C k) ∧ q_Source_place s = nI p ∧ q_Source_faultCount s = nI fl.length ∧ ∀ (k : Nat) (x : Int32 × Nat), fl[k]? = some x → q_Source_codes s k = x.1 ∧ q_Source_places s k = nI x.2
def BT (row : List Int32) (TL : List Tk) (s : STokens) : Prop := q_Tokens_used s = nI row.length ∧ (∀ (k : Nat) (x : Int32), row[k]? = some x → q_Tokens_row s k = x) ∧ q_Tokens_count s = nI TL.length
def TC (au : Nat) (TL : List Tk) (s : STokens) : Prop := ∀ (i : Nat) (tk : Tk), TL[i]? = some tk → q_Tokens_kinds s i = tk.1 ∧ q_Tokens_starts s i = nI tk.2.1 ∧ q_Tokens_ends s i = nI tk.2.2.1 ∧ q_Tokens_marks s i = tk.2.2.2.1 ∧ q_Tokens_attributeCounts s i = nI tk.2.2.2.2.length ∧ ∃ fa, q_Tokens_firstAttributes s i = nI fa ∧ fa + tk.2.2.2.2.length ≤ au ∧ ∀ (j : Nat) (a : At), tk.2.2.2.2[j]? = some a → q_Tokens_nameStarts s (fa + j) = nI a.1 ∧ q_Tokens_valueStarts s (fa + j) = nI a.2.1 ∧ q_Tokens_valueEnds s (fa + j) = nI a.2.2
/-- outside of tags, comments and doctypes: a text may be open -/
def MC0 (au : Nat) (TL : List Tk) (tx : Option Nat) (s : STokens) : Prop := TC au TL s ∧ q_Tokens_attributesUsed s = nI au ∧ q_Tokens_inAttribute s = 0 ∧ ((tx = none ∧ q_Tokens_inText s = 0) ∨ ∃ a, tx = some a ∧ q_Tokens_inText s = 1 ∧ q_Tokens_kinds s TL.length = 0 ∧ q_Tokens_starts s TL.length = nI a ∧ q_Tokens_marks s TL.length = 0 ∧ q_Tokens_attributeCounts s TL.length = 0 ∧ q_Tokens_firstAttributes s TL.length = nI au)
/-- a token is open, no attribute has been met -/
def MC1 (au : Nat) (TL : List Tk) (ck : Int32) (cs : Nat) (cm : Int32) (s : STokens) : Prop := TC au TL s ∧ q_Tokens_attributesUsed s = nI au ∧ q_Tokens_inAttribute s = 0 ∧ q_Tokens_inText s = 0 ∧ q_Tokens_kinds s TL.length = ck ∧ q_Tokens_starts s TL.length = nI cs ∧ q_Tokens_marks s TL.length = cm ∧ q_Tokens_attributeCounts s TL.length = 0 ∧ q_Tokens_firstAttributes s TL.length = nI au
/-- the tables are the same -/
def SC (s s' : STokens) : Prop := q_Tokens_kinds s' = q_Tokens_kinds s ∧ q_Tokens_starts s' = q_Tokens_starts s ∧ q_Tokens_ends s' = q_Tokens_ends s ∧ q_Tokens_marks s' = q_Tokens_marks s ∧ q_Tokens_firstAttributes s' = q_Tokens_firstAttributes s ∧ q_Tokens_attributeCounts s' = q_Tokens_attributeCounts s ∧ q_Tokens_inText s' = q_Tokens_inText s ∧ q_Tokens_nameStarts s' = q_Tokens_nameStarts s ∧ q_Tokens_valueStarts s' = q_Tokens_valueStarts s ∧ q_Tokens_valueEnds s' = q_Tokens_valueEnds s ∧ q_Tokens_attributesUsed s' = q_Tokens_attributesUsed s ∧ q_Tokens_inAttribute s' = q_Tokens_inAttribute s
theorem TC_sc {au : Nat} {TL : List Tk} {s s' : STokens} (h : TC au TL s) (e : SC s s') : TC au TL s' := by
  obtain ⟨e1, e2, e3, e4, e5, e6, e7, e8, e9, e10, e11, e12⟩ := e
  unfold TC
  rw [e1, e2, e3, e4, e5, e6, e8, e9, e10]
  exact h
theorem MC0_sc {au : Nat} {TL : List Tk} {tx : Option Nat} {s s' : STokens} (h : MC0 au TL tx s) (e : SC s s') : MC0 au TL tx s' := by
  have e0 := e
  obtain ⟨e1, e2, e3, e4, e5, e6, e7, e8, e9, e10, e11, e12⟩ := e
  obtain ⟨h1, h2, h3, h4⟩ := h
  unfold MC0
  rw [e1, e2, e4, e5, e6, e7, e11, e12]
  exact ⟨TC_sc h1 e0, h2, h3, h4⟩
theorem MC1_sc {au : Nat} {TL : List Tk} {ck : Int32} {cs : Nat} {cm : Int32} {s s' : STokens} (h : MC1 au TL ck cs cm s) (e : SC s s') : MC1 au TL ck cs cm s' := by
  have e0 := e
  obtain ⟨e1, e2, e3, e4, e5, e6, e7, e8, e9, e10, e11, e12⟩ := e
  obtain ⟨h1, h2⟩ := h
  unfold MC1
  rw [e1, e2, e4, e5, e6, e7, e11, e12]
  exact ⟨TC_sc h1 e0, h2⟩
theorem c_char {n : Nat} {C : Nat → Int32} {p : Nat} {fl : Fl} {s : SSource} (hC : CHs n C) (h : BS n C p fl s) {k : Nat} (hk : k < 2 ^ 31) : f_Source_character (nI k) s = some (C k) := by
  unfold f_Source_character
  have hn := hC.1
  rw [if_neg (nI_pos hk), h.1]
  by_cases hl : k < n
  · have x1 : ix (nI k) 400 := ixI (by omega) (by omega)
    rw [if_neg (nI_ge hl (by omega)), if_pos x1, nI_clamp hk, h.2.1 k hl]
  · rw [if_pos (nI_le (by omega) hk), hC.2.2 k (by omega)]
theorem c_next {n : Nat} {C : Nat → Int32} {p : Nat} {fl : Fl} {s : SSource} (hC : CHs n C) (h : BS n C p fl s) (hp : p ≤ n) : f_Source_next s = some (C p) := by
  unfold f_Source_next
  have hn := hC.1
  rw [h.2.2.1, c_char hC h (by omega), Option.bind_some]
theorem getApp {α : Type} {l : List α} {x : α} {k : Nat} {y : α} (h : (l ++ [x])[k]? = some y) : (k < l.length ∧ l[k]? = some y) ∨ (k = l.length ∧ y = x) := by
  by_cases hk : k < l.length
  · left; rw [List.getElem?_append_left hk] at h; exact ⟨hk, h⟩
  · right
    have h1 := (List.getElem?_eq_some_iff.mp h).1
    rw [List.length_append, List.length_singleton] at h1
    have : k = l.length := by omega
    subst this
    simp at h
    exact ⟨rfl, h.symm⟩
theorem lenS {α : Type} (l : List α) (x : α) : (l ++ [x]).length = l.length + 1 := by rw [List.length_append]; rfl
theorem c_wrong {n : Nat} {C : Nat → Int32} {p : Nat} {fl : Fl} {s : SSource} (h : BS n C p fl s) (c : Int32) (hf : fl.length < 1203) : ∃ s', f_Source_wrong c s = some s' ∧ BS n C p (fl ++ [(c, p)]) s' := by
  obtain ⟨h1, h2, h3, h4, h5⟩ := h
  have x1 : ix (nI fl.length) 1203 := ixI hf (by decide)
  refine ⟨u_Source_faultCount (u_Source_places (u_Source_codes s (upd (q_Source_codes s) fl.length c)) (upd (q_Source_places s) fl.length (nI p))) (nI (fl.length + 1)), ?_, h1, h2, h3, ?_, ?_⟩
  · unfold f_Source_wrong
    rw [h4, if_neg (show ¬ (1203 : Int32) ≤ nI fl.length from nI_ge (b := 1203) hf (by decide)), if_pos x1, if_pos x1, nI_clamp (by omega), nI_1, h3]
  · show nI (fl.length + 1) = nI (fl ++ [(c, p)]).length
    rw [lenS]
  · intro k x hx
    show upd (q_Source_codes s) fl.length c k = x.1 ∧ upd (q_Source_places s) fl.length (nI p) k = nI x.2
    rcases getApp hx with ⟨hk, hx⟩ | ⟨rfl, rfl⟩
    · rw [upd_ne _ _ (by omega), upd_ne _ _ (by omega)]
      exact h5 k x hx
    · rw [upd_same, upd_same]; exact ⟨rfl, rfl⟩
theorem c_then {n : Nat} {C : Nat → Int32} {p : Nat} {fl : Fl} {s : SSource} (hn : n ≤ 400) (h : BS n C p fl s) (w : Nat) (hp : p < n) : ∃ s', f_Source_then w s = (w, s') ∧ BS n C (p + 1) fl s' := by
  obtain ⟨h1, h2, h3, h4, h5⟩ := h
  refine ⟨u_Source_place s (nI (p + 1)), ?_, h1, h2, rfl, h4, h5⟩
  unfold f_Source_then
  rw [h1, h3, if_neg (nI_ge hp (by omega)), nI_1]
theorem c_skip {n : Nat} {C : Nat → Int32} {p : Nat} {fl : Fl} {s : SSource} (hn : n ≤ 400) (h : BS n C p fl s) {k : Nat} (hp : p + k ≤ n) : BS n C (p + k) fl (f_Source_skip (nI k) s) := by
  obtain ⟨h1, h2, h3, h4, h5⟩ := h
  refine ⟨h1, h2, ?_, h4, h5⟩
  show (if q_Source_count s < q_Source_place s + nI k then q_Source_count s else q_Source_place s + nI k) = nI (p + k)
  rw [h1, h3, nI_add, if_neg (nI_nlt hp (by omega))]
theorem c_add {row : List Int32} {TL : List Tk} {s : STokens} (h : BT row TL s) (c : Int32) (hu : row.length < 400) : ∃ s', f_Tokens_add c s = some s' ∧ BT (row ++ [c]) TL s' ∧ SC s s' := by
  obtain ⟨h1, h2, h3⟩ := h
  have x1 : ix (nI row.length) 400 := ixI hu (by decide)
  refine ⟨u_Tokens_used (u_Tokens_row s (upd (q_Tokens_row s) row.length c)) (nI (row.length + 1)), ?_, ⟨?_, ?_, h3⟩, rfl, rfl, rfl, rfl, rfl, rfl, rfl, rfl, rfl, rfl, rfl, rfl⟩
  · unfold f_Tokens_add
    rw [h1, if_neg (show ¬ (400 : Int32) ≤ nI row.length from nI_ge (b := 400) hu (by decide)), if_pos x1, nI_clamp (by omega), nI_1]
  · show nI (row.length + 1) = nI (row ++ [c]).length
    rw [lenS]
  · intro k x hx
    show upd (q_Tokens_row s) row.length c k = x
    rcases getApp hx with ⟨hk, hx⟩ | ⟨rfl, rfl⟩
    · rw [upd_ne _ _ (by omega)]; exact h2 k x hx
    · rw [upd_same]
