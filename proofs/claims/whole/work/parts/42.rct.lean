def a_flush (A : AS) : AS := match a_tx A with
  | some a => w_tx (w_TL A (a_TL A ++ [(0, a, (a_row A).length, 0, [])])) none
  | none => A
abbrev a_open (A : AS) (k : Int32) : AS := w_pa (w_ea (w_cm (w_cs (w_ck A k) (a_row A).length) 0) []) none
abbrev a_begin (A : AS) (k : Int32) : AS := a_open (a_flush A) k
abbrev a_tell (A : AS) : AS := w_TL A (a_TL A ++ [(a_ck A, a_cs A, (a_row A).length, a_cm A, [])])
theorem flush_none {A : AS} (h : a_tx A = none) : a_flush A = A := by unfold a_flush; rw [h]
theorem flush_some {A : AS} {a : Nat} (h : a_tx A = some a) : a_flush A = w_tx (w_TL A (a_TL A ++ [(0, a, (a_row A).length, 0, [])])) none := by unfold a_flush; rw [h]
theorem TC_at {au : Nat} {TL : List Tk} {s s' : STokens} {t : Nat} (ht : TL.length ≤ t) (h : TC au TL s) (h1 : ∀ i, i < t → q_Tokens_kinds s' i = q_Tokens_kinds s i ∧ q_Tokens_starts s' i = q_Tokens_starts s i ∧ q_Tokens_ends s' i = q_Tokens_ends s i ∧ q_Tokens_marks s' i = q_Tokens_marks s i ∧ q_Tokens_attributeCounts s' i = q_Tokens_attributeCounts s i ∧ q_Tokens_firstAttributes s' i = q_Tokens_firstAttributes s i) (h2 : ∀ j, j < au → q_Tokens_nameStarts s' j = q_Tokens_nameStarts s j ∧ q_Tokens_valueStarts s' j = q_Tokens_valueStarts s j ∧ q_Tokens_valueEnds s' j = q_Tokens_valueEnds s j) : TC au TL s' := by
  intro i tk hi
  have hl := (List.getElem?_eq_some_iff.mp hi).1
  obtain ⟨c1, c2, c3, c4, c5, fa, c6, c7, c8⟩ := h i tk hi
  obtain ⟨d1, d2, d3, d4, d5, d6⟩ := h1 i (by omega)
  refine ⟨d1.trans c1, d2.trans c2, d3.trans c3, d4.trans c4, d5.trans c5, fa, d6.trans c6, c7, fun j a ha => ?_⟩
  have hj := (List.getElem?_eq_some_iff.mp ha).1
  obtain ⟨e1, e2, e3⟩ := c8 j a ha
  obtain ⟨f1, f2, f3⟩ := h2 (fa + j) (by omega)
  exact ⟨f1.trans e1, f2.trans e2, f3.trans e3⟩
theorem TC_snoc {au : Nat} {TL : List Tk} {s : STokens} {tk : Tk} (h : TC au TL s) (h1 : q_Tokens_kinds s TL.length = tk.1 ∧ q_Tokens_starts s TL.length = nI tk.2.1 ∧ q_Tokens_ends s TL.length = nI tk.2.2.1 ∧ q_Tokens_marks s TL.length = tk.2.2.2.1 ∧ q_Tokens_attributeCounts s TL.length = nI tk.2.2.2.2.length ∧ ∃ fa, q_Tokens_firstAttributes s TL.length = nI fa ∧ fa + tk.2.2.2.2.length ≤ au ∧ ∀ (j : Nat) (a : At), tk.2.2.2.2[j]? = some a → q_Tokens_nameStarts s (fa + j) = nI a.1 ∧ q_Tokens_valueStarts s (fa + j) = nI a.2.1 ∧ q_Tokens_valueEnds s (fa + j) = nI a.2.2) : TC au (TL ++ [tk]) s := by
  intro i x hx
  rcases getApp hx with ⟨-, hx⟩ | ⟨rfl, rfl⟩
  · exact h i x hx
  · exact h1
/-- the token that is opened at the end of those told -/
theorem c_open {A : AS} {s : STokens} (hB : BT A s) (hT : TC (a_au A) (a_TL A) s) (hau : q_Tokens_attributesUsed s = nI (a_au A)) (k : Int32) (ht : (a_TL A).length < 400) : ∃ s', f_Tokens_open k s = some s' ∧ BT A s' ∧ TC (a_au A) (a_TL A) s' ∧ q_Tokens_attributesUsed s' = nI (a_au A) ∧ q_Tokens_inAttribute s' = q_Tokens_inAttribute s ∧ q_Tokens_inText s' = q_Tokens_inText s ∧ q_Tokens_kinds s' (a_TL A).length = k ∧ q_Tokens_starts s' (a_TL A).length = nI (a_row A).length ∧ q_Tokens_marks s' (a_TL A).length = 0 ∧ q_Tokens_attributeCounts s' (a_TL A).length = 0 ∧ q_Tokens_firstAttributes s' (a_TL A).length = nI (a_au A) := by
  obtain ⟨h1, h2, h3⟩ := hB
  have x1 : ix (nI (a_TL A).length) 400 := ixI ht (by decide)
  refine ⟨u_Tokens_attributeCounts (u_Tokens_firstAttributes (u_Tokens_marks (u_Tokens_starts (u_Tokens_kinds s (upd (q_Tokens_kinds s) (a_TL A).length k)) (upd (q_Tokens_starts s) (a_TL A).length (nI (a_row A).length))) (upd (q_Tokens_marks s) (a_TL A).length 0)) (upd (q_Tokens_firstAttributes s) (a_TL A).length (nI (a_au A)))) (upd (q_Tokens_attributeCounts s) (a_TL A).length 0), ?_, ⟨h1, h2, h3⟩, ?_, hau, rfl, rfl, ?_, ?_, ?_, ?_, ?_⟩
  · unfold f_Tokens_open
    rw [h3, if_neg (show ¬ (400 : Int32) ≤ nI (a_TL A).length from nI_ge (b := 400) ht (by decide)), if_pos x1, if_pos x1, if_pos x1, if_pos x1, if_pos x1, nI_clamp (by omega), h1, hau]
  · refine TC_at (Nat.le_refl _) hT (fun i hi => ⟨upd_ne _ _ (Nat.ne_of_lt hi), upd_ne _ _ (Nat.ne_of_lt hi), rfl, upd_ne _ _ (Nat.ne_of_lt hi), upd_ne _ _ (Nat.ne_of_lt hi), upd_ne _ _ (Nat.ne_of_lt hi)⟩) (fun j hj => ⟨rfl, rfl, rfl⟩)
  · exact upd_same _ _ _
  · exact upd_same _ _ _
  · exact upd_same _ _ _
  · exact upd_same _ _ _
  · exact upd_same _ _ _
theorem c_beginText {A : AS} {s : STokens} (hB : BT A s) (hM : MC0 A s) (ht : (a_TL A).length < 400) : ∃ s', f_Tokens_beginText s = some s' ∧ BT (w_tx A (some ((a_tx A).getD (a_row A).length))) s' ∧ MC0 (w_tx A (some ((a_tx A).getD (a_row A).length))) s' := by
  obtain ⟨m1, m2, m3, hx⟩ := hM
  unfold f_Tokens_beginText
  rcases hx with ⟨x1, x2⟩ | ⟨a, x1, x2, x3⟩
  · rw [x1, if_pos x2]
    obtain ⟨s', e1, b1, b2, b3, b4, b5, b6⟩ := c_open (s := u_Tokens_inText s 1) hB m1 m2 0 ht
    exact ⟨s', by rw [e1, Option.bind_some], b1, b2, b3, b4.trans m3, Or.inr ⟨_, rfl, b5, b6⟩⟩
  · rw [x1, if_neg (by rw [x2]; decide)]
    exact ⟨s, rfl, hB, m1, m2, m3, Or.inr ⟨a, rfl, x2, x3⟩⟩
theorem c_endText {A : AS} {s : STokens} (hB : BT A s) (hM : MC0 A s) (ht : (a_TL A).length < 400) : ∃ s', f_Tokens_endText s = some s' ∧ BT (a_flush A) s' ∧ MC0 (a_flush A) s' ∧ a_tx (a_flush A) = none := by
  obtain ⟨m1, m2, m3, hx⟩ := hM
  obtain ⟨h1, h2, h3⟩ := hB
  unfold f_Tokens_endText
  rcases hx with ⟨x1, x2⟩ | ⟨a, x1, x2, x3, x4, x5, x6, x7⟩
  · rw [flush_none x1, if_pos x2]
    exact ⟨_, rfl, ⟨h1, h2, h3⟩, ⟨m1, m2, m3, Or.inl ⟨x1, rfl⟩⟩, x1⟩
  · rw [flush_some x1, if_neg (by rw [x2]; decide), h3, if_neg (show ¬ (400 : Int32) ≤ nI (a_TL A).length from nI_ge (b := 400) ht (by decide)), if_pos (ixI ht (by decide)), nI_clamp (by omega), nI_1, h1]
    refine ⟨_, rfl, ⟨h1, h2, ?_⟩, ⟨?_, m2, m3, Or.inl ⟨rfl, rfl⟩⟩, rfl⟩
    · show nI ((a_TL A).length + 1) = nI (a_TL A ++ [_]).length
      rw [List.length_append]; rfl
    · refine TC_snoc (TC_at (Nat.le_refl _) m1 (fun i hi => ⟨rfl, rfl, upd_ne _ _ (Nat.ne_of_lt hi), rfl, rfl, rfl⟩) (fun j hj => ⟨rfl, rfl, rfl⟩)) ⟨x3, x4, upd_same _ _ _, x5, x6, a_au A, x7, Nat.le_refl _, fun j a h => by simp at h⟩
theorem c_begin {A : AS} {s : STokens} (hB : BT A s) (hM : MC0 A s) (k : Int32) (ht : (a_TL (a_flush A)).length < 400) : ∃ s', f_Tokens_begin k s = some s' ∧ BT (a_begin A k) s' ∧ MC1 (a_begin A k) s' := by
  have ht0 : (a_TL A).length < 400 := by
    rcases hM.2.2.2 with ⟨x1, -⟩ | ⟨a, x1, -⟩
    · rw [flush_none x1] at ht; exact ht
    · rw [flush_some x1] at ht
      have : (a_TL A ++ [((0 : Int32), a, (a_row A).length, (0 : Int32), ([] : List At))]).length < 400 := ht
      rw [List.length_append] at this
      omega
  obtain ⟨s1, e1, b1, b2, b3⟩ := c_endText hB hM ht0
  obtain ⟨m1, m2, m3, hx⟩ := b2
  have hin : q_Tokens_inText s1 = 0 := by
    rcases hx with ⟨-, x2⟩ | ⟨a, x1, -⟩
    · exact x2
    · rw [b3] at x1; cases x1
  obtain ⟨s', e2, d1, d2, d3, d4, d5, d6, d7, d8, d9, d10⟩ := c_open b1 m1 m2 k ht
  refine ⟨s', ?_, d1, d2, d3, d4.trans m3, b3, d5.trans hin, d6, d7, d8, d9, d10⟩
  unfold f_Tokens_begin
  rw [e1, Option.bind_some, e2, Option.bind_some]
theorem c_done {A : AS} {s : STokens} (hB : BT A s) (hM : MC1 A s) (ht : (a_TL A).length < 400) : ∃ s1, f_Tokens_endOwn s = some s1 ∧ BT (a_tell A) (f_Tokens_tell s1) ∧ MC0 (a_tell A) (f_Tokens_tell s1) := by
  obtain ⟨m1, m2, m3, m4, m5, m6, m7, m8, m9, m10⟩ := hM
  obtain ⟨h1, h2, h3⟩ := hB
  have hge : ¬ (400 : Int32) ≤ nI (a_TL A).length := nI_ge (b := 400) ht (by decide)
  have e1 : f_Tokens_endOwn s = some (u_Tokens_ends s (upd (q_Tokens_ends s) (a_TL A).length (nI (a_row A).length))) := by
    unfold f_Tokens_endOwn
    rw [h3, if_neg hge, if_pos (ixI ht (by decide)), nI_clamp (by omega), h1]
  have e2 : f_Tokens_tell (u_Tokens_ends s (upd (q_Tokens_ends s) (a_TL A).length (nI (a_row A).length))) = u_Tokens_count (u_Tokens_ends s (upd (q_Tokens_ends s) (a_TL A).length (nI (a_row A).length))) (nI ((a_TL A).length + 1)) := by
    unfold f_Tokens_tell
    show (if 400 ≤ q_Tokens_count s then _ else u_Tokens_count _ (q_Tokens_count s + 1)) = _
    rw [h3, if_neg hge, nI_1]
  refine ⟨_, e1, ?_, ?_⟩
  · rw [e2]
    refine ⟨h1, h2, ?_⟩
    show nI ((a_TL A).length + 1) = nI (a_TL A ++ [_]).length
    rw [List.length_append]; rfl
  · rw [e2]
    refine ⟨TC_snoc (TC_at (Nat.le_refl _) m1 (fun i hi => ⟨rfl, rfl, upd_ne _ _ (Nat.ne_of_lt hi), rfl, rfl, rfl⟩) (fun j hj => ⟨rfl, rfl, rfl⟩)) ⟨m6, m7, upd_same _ _ _, m8, m9, a_au A, m10, Nat.le_refl _, fun j a h => by simp at h⟩, m2, m3, Or.inl ⟨m4, m5⟩⟩
theorem c_setMark {A : AS} {s : STokens} (hB : BT A s) (hM : MC1 A s) (k : Int32) (ht : (a_TL A).length < 400) : ∃ s1, f_Tokens_setMark k s = some s1 ∧ BT (w_cm A k) s1 ∧ MC1 (w_cm A k) s1 := by
  obtain ⟨m1, m2, m3, m4, m5, m6, m7, m8, m9, m10⟩ := hM
  obtain ⟨h1, h2, h3⟩ := hB
  refine ⟨u_Tokens_marks s (upd (q_Tokens_marks s) (a_TL A).length k), ?_, ⟨h1, h2, h3⟩, TC_at (Nat.le_refl _) m1 (fun i hi => ⟨rfl, rfl, rfl, upd_ne _ _ (Nat.ne_of_lt hi), rfl, rfl⟩) (fun j hj => ⟨rfl, rfl, rfl⟩), m2, m3, m4, m5, m6, m7, upd_same _ _ _, m9, m10⟩
  unfold f_Tokens_setMark
  rw [h3, if_neg (show ¬ (400 : Int32) ≤ nI (a_TL A).length from nI_ge (b := 400) ht (by decide)), if_pos (ixI ht (by decide)), nI_clamp (by omega)]
theorem MC0_add {A : AS} {s : STokens} (h : MC0 A s) (c : Int32) {v : Nat → Int32} {k : Int32} : MC0 (a_add A c) (u_Tokens_used (u_Tokens_row s v) k) := h
theorem MC1_add {A : AS} {s : STokens} (h : MC1 A s) (c : Int32) {v : Nat → Int32} {k : Int32} : MC1 (a_add A c) (u_Tokens_used (u_Tokens_row s v) k) := h
