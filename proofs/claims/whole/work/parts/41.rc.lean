def CHs (n : Nat) (C : Nat → Int32) : Prop := n ≤ 400 ∧ (∀ k, k < n → ∃ c : Nat, c ≤ 255 ∧ C k = nI c) ∧ ∀ k, n ≤ k → C k = -1
abbrev a_wrong (A : AS) (c : Int32) : AS := w_fl A (a_fl A ++ [(c, a_p A)])
abbrev a_adv (A : AS) : AS := w_p A (a_p A + 1)
abbrev a_add (A : AS) (c : Int32) : AS := w_row A (a_row A ++ [c])
def BS (n : Nat) (C : Nat → Int32) (A : AS) (s : SSource) : Prop := q_Source_count s = nI n ∧ (∀ k, k < n → q_Source_characters s k = C k) ∧ q_Source_place s = nI (a_p A) ∧ q_Source_faultCount s = nI (a_fl A).length ∧ ∀ (k : Nat) (x : Int32 × Nat), (a_fl A)[k]? = some x → q_Source_codes s k = x.1 ∧ q_Source_places s k = nI x.2
def BT (A : AS) (s : STokens) : Prop := q_Tokens_used s = nI (a_row A).length ∧ (∀ (k : Nat) (x : Int32), (a_row A)[k]? = some x → q_Tokens_row s k = x) ∧ q_Tokens_count s = nI (a_TL A).length
def TC (au : Nat) (TL : List Tk) (s : STokens) : Prop := ∀ (i : Nat) (tk : Tk), TL[i]? = some tk → q_Tokens_kinds s i = tk.1 ∧ q_Tokens_starts s i = nI tk.2.1 ∧ q_Tokens_ends s i = nI tk.2.2.1 ∧ q_Tokens_marks s i = tk.2.2.2.1 ∧ q_Tokens_attributeCounts s i = nI tk.2.2.2.2.length ∧ ∃ fa, q_Tokens_firstAttributes s i = nI fa ∧ fa + tk.2.2.2.2.length ≤ au ∧ ∀ (j : Nat) (a : At), tk.2.2.2.2[j]? = some a → q_Tokens_nameStarts s (fa + j) = nI a.1 ∧ q_Tokens_valueStarts s (fa + j) = nI a.2.1 ∧ q_Tokens_valueEnds s (fa + j) = nI a.2.2
/-- outside of tags, comments and doctypes: a text may be open -/
def MC0 (A : AS) (s : STokens) : Prop := TC (a_au A) (a_TL A) s ∧ q_Tokens_attributesUsed s = nI (a_au A) ∧ q_Tokens_inAttribute s = 0 ∧ ((a_tx A = none ∧ q_Tokens_inText s = 0) ∨ ∃ a, a_tx A = some a ∧ q_Tokens_inText s = 1 ∧ q_Tokens_kinds s (a_TL A).length = 0 ∧ q_Tokens_starts s (a_TL A).length = nI a ∧ q_Tokens_marks s (a_TL A).length = 0 ∧ q_Tokens_attributeCounts s (a_TL A).length = 0 ∧ q_Tokens_firstAttributes s (a_TL A).length = nI (a_au A))
/-- a token is open, no attribute has been met -/
def MC1 (A : AS) (s : STokens) : Prop := TC (a_au A) (a_TL A) s ∧ q_Tokens_attributesUsed s = nI (a_au A) ∧ q_Tokens_inAttribute s = 0 ∧ a_tx A = none ∧ q_Tokens_inText s = 0 ∧ q_Tokens_kinds s (a_TL A).length = a_ck A ∧ q_Tokens_starts s (a_TL A).length = nI (a_cs A) ∧ q_Tokens_marks s (a_TL A).length = a_cm A ∧ q_Tokens_attributeCounts s (a_TL A).length = 0 ∧ q_Tokens_firstAttributes s (a_TL A).length = nI (a_au A)
theorem c_char {n : Nat} {C : Nat → Int32} {A : AS} {s : SSource} (hC : CHs n C) (h : BS n C A s) {k : Nat} (hk : k < 2 ^ 31) : f_Source_character (nI k) s = some (C k) := by
  unfold f_Source_character
  have hn := hC.1
  rw [if_neg (nI_pos hk), h.1]
  by_cases hl : k < n
  · have x1 : ix (nI k) 400 := ixI (by omega) (by omega)
    rw [if_neg (nI_ge hl (by omega)), if_pos x1, nI_clamp hk, h.2.1 k hl]
  · rw [if_pos (nI_le (by omega) hk), hC.2.2 k (by omega)]
theorem c_next {n : Nat} {C : Nat → Int32} {A : AS} {s : SSource} (hC : CHs n C) (h : BS n C A s) (hp : a_p A ≤ n) : f_Source_next s = some (C (a_p A)) := by
  unfold f_Source_next
  have hn := hC.1
  rw [h.2.2.1, c_char hC h (by omega), Option.bind_some]
theorem getApp {α : Type} {l : List α} {x : α} {k : Nat} {y : α} (h : (l ++ [x])[k]? = some y) : (k < l.length ∧ l[k]? = some y) ∨ (k = l.length ∧ y = x) := by
  by_cases hk : k < l.length
  · left; rw [List.getElem?_append_left hk] at h; exact ⟨hk, h⟩
  · right
    have h1 := (List.getElem?_eq_some_iff.mp h).1
    rw [List.length_append, List.length_singleton] at h1
    have : k = l.length := by omega
    subst this
    simp at h
    exact ⟨rfl, h.symm⟩
theorem c_wrong {n : Nat} {C : Nat → Int32} {A : AS} {s : SSource} (h : BS n C A s) (c : Int32) (hf : (a_fl A).length < 1203) : ∃ s', f_Source_wrong c s = some s' ∧ BS n C (a_wrong A c) s' := by
  obtain ⟨h1, h2, h3, h4, h5⟩ := h
  have x1 : ix (nI (a_fl A).length) 1203 := ixI hf (by decide)
  refine ⟨u_Source_faultCount (u_Source_places (u_Source_codes s (upd (q_Source_codes s) (a_fl A).length c)) (upd (q_Source_places s) (a_fl A).length (nI (a_p A)))) (nI ((a_fl A).length + 1)), ?_, h1, h2, h3, ?_, ?_⟩
  · unfold f_Source_wrong
    rw [h4, if_neg (show ¬ (1203 : Int32) ≤ nI (a_fl A).length from nI_ge (b := 1203) hf (by decide)), if_pos x1, if_pos x1, nI_clamp (by omega), nI_1, h3]
  · show nI ((a_fl A).length + 1) = nI (a_fl A ++ [(c, a_p A)]).length
    rw [List.length_append]; rfl
  · intro k x hx
    show upd (q_Source_codes s) (a_fl A).length c k = x.1 ∧ upd (q_Source_places s) (a_fl A).length (nI (a_p A)) k = nI x.2
    rcases getApp hx with ⟨hk, hx⟩ | ⟨rfl, rfl⟩
    · rw [upd_ne _ _ (by omega), upd_ne _ _ (by omega)]
      exact h5 k x hx
    · rw [upd_same, upd_same]; exact ⟨rfl, rfl⟩
theorem c_then {n : Nat} {C : Nat → Int32} {A : AS} {s : SSource} (hn : n ≤ 400) (h : BS n C A s) (w : Nat) (hp : a_p A < n) : ∃ s', f_Source_then w s = (w, s') ∧ BS n C (a_adv A) s' := by
  obtain ⟨h1, h2, h3, h4, h5⟩ := h
  refine ⟨u_Source_place s (nI (a_p A + 1)), ?_, h1, h2, rfl, h4, h5⟩
  unfold f_Source_then
  rw [h1, h3, if_neg (nI_ge hp (by omega)), nI_1]
theorem c_skip {n : Nat} {C : Nat → Int32} {A : AS} {s : SSource} (hn : n ≤ 400) (h : BS n C A s) {k : Nat} (hp : a_p A + k ≤ n) : BS n C (w_p A (a_p A + k)) (f_Source_skip (nI k) s) := by
  obtain ⟨h1, h2, h3, h4, h5⟩ := h
  refine ⟨h1, h2, ?_, h4, h5⟩
  show (if q_Source_count s < q_Source_place s + nI k then q_Source_count s else q_Source_place s + nI k) = nI (a_p A + k)
  rw [h1, h3, nI_add, if_neg (nI_nlt hp (by omega))]
theorem c_add {A : AS} {s : STokens} (h : BT A s) (c : Int32) (hu : (a_row A).length < 400) : f_Tokens_add c s = some (u_Tokens_used (u_Tokens_row s (upd (q_Tokens_row s) (a_row A).length c)) (nI ((a_row A).length + 1))) ∧ BT (a_add A c) (u_Tokens_used (u_Tokens_row s (upd (q_Tokens_row s) (a_row A).length c)) (nI ((a_row A).length + 1))) := by
  obtain ⟨h1, h2, h3⟩ := h
  have x1 : ix (nI (a_row A).length) 400 := ixI hu (by decide)
  refine ⟨?_, ?_, ?_, h3⟩
  · unfold f_Tokens_add
    rw [h1, if_neg (show ¬ (400 : Int32) ≤ nI (a_row A).length from nI_ge (b := 400) hu (by decide)), if_pos x1, nI_clamp (by omega), nI_1]
  · show nI ((a_row A).length + 1) = nI (a_row A ++ [c]).length
    rw [List.length_append]; rfl
  · intro k x hx
    show upd (q_Tokens_row s) (a_row A).length c k = x
    rcases getApp hx with ⟨hk, hx⟩ | ⟨rfl, rfl⟩
    · rw [upd_ne _ _ (by omega)]; exact h2 k x hx
    · rw [upd_same]
