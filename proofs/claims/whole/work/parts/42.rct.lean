def fT (u : Nat) (tx : Option Nat) (TL : List Tk) : List Tk := match tx with
  | some a => TL ++ [(0, a, u, 0, [])]
  | none => TL
theorem TC_at {au : Nat} {TL : List Tk} {s s' : STokens} {t : Nat} (ht : TL.length ≤ t) (h : TC au TL s) (h1 : ∀ i, i < t → q_Tokens_kinds s' i = q_Tokens_kinds s i ∧ q_Tokens_starts s' i = q_Tokens_starts s i ∧ q_Tokens_ends s' i = q_Tokens_ends s i ∧ q_Tokens_marks s' i = q_Tokens_marks s i ∧ q_Tokens_attributeCounts s' i = q_Tokens_attributeCounts s i ∧ q_Tokens_firstAttributes s' i = q_Tokens_firstAttributes s i) (h2 : ∀ j, j < au → q_Tokens_nameStarts s' j = q_Tokens_nameStarts s j ∧ q_Tokens_valueStarts s' j = q_Tokens_valueStarts s j ∧ q_Tokens_valueEnds s' j = q_Tokens_valueEnds s j) : TC au TL s' := by
  intro i tk hi
  have hl := (List.getElem?_eq_some_iff.mp hi).1
  obtain ⟨c1, c2, c3, c4, c5, fa, c6, c7, c8⟩ := h i tk hi
  obtain ⟨d1, d2, d3, d4, d5, d6⟩ := h1 i (by omega)
  refine ⟨d1.trans c1, d2.trans c2, d3.trans c3, d4.trans c4, d5.trans c5, fa, d6.trans c6, c7, fun j a ha => ?_⟩
  have hj := (List.getElem?_eq_some_iff.mp ha).1
  obtain ⟨e1, e2, e3⟩ := c8 j a ha
  obtain ⟨f1, f2, f3⟩ := h2 (fa + j) (by omega)
  exact ⟨f1.trans e1, f2.trans e2, f3.trans e3⟩
theorem TC_snoc {au : Nat} {TL : List Tk} {s : STokens} {tk : Tk} (h : TC au TL s) (h1 : q_Tokens_kinds s TL.length = tk.1 ∧ q_Tokens_starts s TL.length = nI tk.2.1 ∧ q_Tokens_ends s TL.length = nI tk.2.2.1 ∧ q_Tokens_marks s TL.length = tk.2.2.2.1 ∧ q_Tokens_attributeCounts s TL.length = nI tk.2.2.2.2.length ∧ ∃ fa, q_Tokens_firstAttributes s TL.length = nI fa ∧ fa + tk.2.2.2.2.length ≤ au ∧ ∀ (j : Nat) (a : At), tk.2.2.2.2[j]? = some a → q_Tokens_nameStarts s (fa + j) = nI a.1 ∧ q_Tokens_valueStarts s (fa + j) = nI a.2.1 ∧ q_Tokens_valueEnds s (fa + j) = nI a.2.2) : TC au (TL ++ [tk]) s := by
  intro i x hx
  rcases getApp hx with ⟨-, hx⟩ | ⟨rfl, rfl⟩
  · exact h i x hx
  · exact h1
/-- the token that is opened at the end of those told -/
theorem c_open {row : List Int32} {TL : List Tk} {au : Nat} {s : STokens} (hB : BT row TL s) (hT : TC au TL s) (hau : q_Tokens_attributesUsed s = nI au) (k : Int32) (ht : TL.length < 400) : ∃ s', f_Tokens_open k s = some s' ∧ BT row TL s' ∧ TC au TL s' ∧ q_Tokens_attributesUsed s' = nI au ∧ q_Tokens_inAttribute s' = q_Tokens_inAttribute s ∧ q_Tokens_inText s' = q_Tokens_inText s ∧ q_Tokens_kinds s' TL.length = k ∧ q_Tokens_starts s' TL.length = nI row.length ∧ q_Tokens_marks s' TL.length = 0 ∧ q_Tokens_attributeCounts s' TL.length = 0 ∧ q_Tokens_firstAttributes s' TL.length = nI au := by
  obtain ⟨h1, h2, h3⟩ := hB
  have x1 : ix (nI TL.length) 400 := ixI ht (by decide)
  refine ⟨u_Tokens_attributeCounts (u_Tokens_firstAttributes (u_Tokens_marks (u_Tokens_starts (u_Tokens_kinds s (upd (q_Tokens_kinds s) TL.length k)) (upd (q_Tokens_starts s) TL.length (nI row.length))) (upd (q_Tokens_marks s) TL.length 0)) (upd (q_Tokens_firstAttributes s) TL.length (nI au))) (upd (q_Tokens_attributeCounts s) TL.length 0), ?_, ⟨h1, h2, h3⟩, ?_, hau, rfl, rfl, ?_, ?_, ?_, ?_, ?_⟩
  · unfold f_Tokens_open
    rw [h3, if_neg (show ¬ (400 : Int32) ≤ nI TL.length from nI_ge (b := 400) ht (by decide)), if_pos x1, if_pos x1, if_pos x1, if_pos x1, if_pos x1, nI_clamp (by omega), h1, hau]
  · refine TC_at (Nat.le_refl _) hT (fun i hi => ⟨upd_ne _ _ (Nat.ne_of_lt hi), upd_ne _ _ (Nat.ne_of_lt hi), rfl, upd_ne _ _ (Nat.ne_of_lt hi), upd_ne _ _ (Nat.ne_of_lt hi), upd_ne _ _ (Nat.ne_of_lt hi)⟩) (fun j hj => ⟨rfl, rfl, rfl⟩)
  · exact upd_same _ _ _
  · exact upd_same _ _ _
  · exact upd_same _ _ _
  · exact upd_same _ _ _
  · exact upd_same _ _ _
theorem c_beginText {row : List Int32} {TL : List Tk} {au : Nat} {tx : Option Nat} {s : STokens} (hB : BT row TL s) (hM : MC0 au TL tx s) (ht : TL.length < 400) : ∃ s', f_Tokens_beginText s = some s' ∧ BT row TL s' ∧ MC0 au TL (some (tx.getD row.length)) s' := by
  obtain ⟨m1, m2, m3, hx⟩ := hM
  unfold f_Tokens_beginText
  rcases hx with ⟨rfl, x2⟩ | ⟨a, rfl, x2, x3⟩
  · rw [if_pos x2]
    obtain ⟨s', e1, b1, b2, b3, b4, b5, b6⟩ := c_open (s := u_Tokens_inText s 1) hB m1 m2 0 ht
    exact ⟨s', by rw [e1, Option.bind_some], b1, b2, b3, b4.trans m3, Or.inr ⟨_, rfl, b5, b6⟩⟩
  · rw [if_neg (by rw [x2]; decide)]
    exact ⟨s, rfl, hB, m1, m2, m3, Or.inr ⟨a, rfl, x2, x3⟩⟩
theorem c_endText {row : List Int32} {TL : List Tk} {au : Nat} {tx : Option Nat} {s : STokens} (hB : BT row TL s) (hM : MC0 au TL tx s) (ht : TL.length < 400) : ∃ s', f_Tokens_endText s = some s' ∧ BT row (fT row.length tx TL) s' ∧ MC0 au (fT row.length tx TL) none s' := by
  obtain ⟨m1, m2, m3, hx⟩ := hM
  obtain ⟨h1, h2, h3⟩ := hB
  unfold f_Tokens_endText
  rcases hx with ⟨rfl, x2⟩ | ⟨a, rfl, x2, x3, x4, x5, x6, x7⟩
  · rw [if_pos x2]
    exact ⟨_, rfl, ⟨h1, h2, h3⟩, m1, m2, m3, Or.inl ⟨rfl, rfl⟩⟩
  · rw [if_neg (by rw [x2]; decide), h3, if_neg (show ¬ (400 : Int32) ≤ nI TL.length from nI_ge (b := 400) ht (by decide)), if_pos (ixI ht (by decide)), nI_clamp (by omega), nI_1, h1]
    refine ⟨_, rfl, ⟨h1, h2, ?_⟩, ?_, m2, m3, Or.inl ⟨rfl, rfl⟩⟩
    · show nI (TL.length + 1) = nI (TL ++ [_]).length
      rw [lenS]
    · exact TC_snoc (TC_at (Nat.le_refl _) m1 (fun i hi => ⟨rfl, rfl, upd_ne _ _ (Nat.ne_of_lt hi), rfl, rfl, rfl⟩) (fun j hj => ⟨rfl, rfl, rfl⟩)) ⟨x3, x4, upd_same _ _ _, x5, x6, au, x7, Nat.le_refl _, fun j a h => by simp at h⟩
theorem fT_len (u : Nat) (tx : Option Nat) (TL : List Tk) : TL.length ≤ (fT u tx TL).length ∧ (fT u tx TL).length ≤ TL.length + 1 := by
  cases tx with
  | none => exact ⟨Nat.le_refl _, Nat.le_succ _⟩
  | some a => unfold fT; simp only []; rw [lenS]; omega
theorem c_begin {row : List Int32} {TL : List Tk} {au : Nat} {tx : Option Nat} {s : STokens} (hB : BT row TL s) (hM : MC0 au TL tx s) (k : Int32) (ht : (fT row.length tx TL).length < 400) : ∃ s', f_Tokens_begin k s = some s' ∧ BT row (fT row.length tx TL) s' ∧ MC1 au (fT row.length tx TL) k row.length 0 s' := by
  have ht0 := fT_len row.length tx TL
  obtain ⟨s1, e1, b1, m1, m2, m3, hx⟩ := c_endText hB hM (by omega)
  have hin : q_Tokens_inText s1 = 0 := by
    rcases hx with ⟨-, x2⟩ | ⟨a, x1, -⟩
    · exact x2
    · cases x1
  obtain ⟨s', e2, d1, d2, d3, d4, d5, d6, d7, d8, d9, d10⟩ := c_open b1 m1 m2 k ht
  refine ⟨s', ?_, d1, d2, d3, d4.trans m3, d5.trans hin, d6, d7, d8, d9, d10⟩
  unfold f_Tokens_begin
  rw [e1, Option.bind_some, e2, Option.bind_some]
theorem c_done {row : List Int32} {TL : List Tk} {au : Nat} {ck : Int32} {cs : Nat} {cm : Int32} {s : STokens} (hB : BT row TL s) (hM : MC1 au TL ck cs cm s) (ht : TL.length < 400) : ∃ s1, f_Tokens_endOwn s = some s1 ∧ BT row (TL ++ [(ck, cs, row.length, cm, [])]) (f_Tokens_tell s1) ∧ MC0 au (TL ++ [(ck, cs, row.length, cm, [])]) none (f_Tokens_tell s1) := by
  obtain ⟨m1, m2, m3, m5, m6, m7, m8, m9, m10⟩ := hM
  obtain ⟨h1, h2, h3⟩ := hB
  have hge : ¬ (400 : Int32) ≤ nI TL.length := nI_ge (b := 400) ht (by decide)
  have e1 : f_Tokens_endOwn s = some (u_Tokens_ends s (upd (q_Tokens_ends s) TL.length (nI row.length))) := by
    unfold f_Tokens_endOwn
    rw [h3, if_neg hge, if_pos (ixI ht (by decide)), nI_clamp (by omega), h1]
  have e2 : f_Tokens_tell (u_Tokens_ends s (upd (q_Tokens_ends s) TL.length (nI row.length))) = u_Tokens_count (u_Tokens_ends s (upd (q_Tokens_ends s) TL.length (nI row.length))) (nI (TL.length + 1)) := by
    unfold f_Tokens_tell
    show (if 400 ≤ q_Tokens_count s then _ else u_Tokens_count _ (q_Tokens_count s + 1)) = _
    rw [h3, if_neg hge, nI_1]
  refine ⟨_, e1, ?_, ?_⟩
  · rw [e2]
    refine ⟨h1, h2, ?_⟩
    show nI (TL.length + 1) = nI (TL ++ [_]).length
    rw [lenS]
  · rw [e2]
    exact ⟨TC_snoc (TC_at (Nat.le_refl _) m1 (fun i hi => ⟨rfl, rfl, upd_ne _ _ (Nat.ne_of_lt hi), rfl, rfl, rfl⟩) (fun j hj => ⟨rfl, rfl, rfl⟩)) ⟨m6, m7, upd_same _ _ _, m8, m9, au, m10, Nat.le_refl _, fun j a h => by simp at h⟩, m2, m3, Or.inl ⟨rfl, m5⟩⟩
theorem c_setMark {row : List Int32} {TL : List Tk} {au : Nat} {ck : Int32} {cs : Nat} {cm : Int32} {s : STokens} (hB : BT row TL s) (hM : MC1 au TL ck cs cm s) (k : Int32) (ht : TL.length < 400) : ∃ s1, f_Tokens_setMark k s = some s1 ∧ BT row TL s1 ∧ MC1 au TL ck cs k s1 := by
  obtain ⟨m1, m2, m3, m5, m6, m7, m8, m9, m10⟩ := hM
  obtain ⟨h1, h2, h3⟩ := hB
  refine ⟨u_Tokens_marks s (upd (q_Tokens_marks s) TL.length k), ?_, ⟨h1, h2, h3⟩, TC_at (Nat.le_refl _) m1 (fun i hi => ⟨rfl, rfl, rfl, upd_ne _ _ (Nat.ne_of_lt hi), rfl, rfl⟩) (fun j hj => ⟨rfl, rfl, rfl⟩), m2, m3, m5, m6, m7, upd_same _ _ _, m9, m10⟩
  unfold f_Tokens_setMark
  rw [h3, if_neg (show ¬ (400 : Int32) ≤ nI TL.length from nI_ge (b := 400) ht (by decide)), if_pos (ixI ht (by decide)), nI_clamp (by omega)]
