def BM (n : Nat) (C : Nat → Int32) (p : Nat) (fl : Fl) (row : List Int32) (TL : List Tk) (M : SMo) : Prop := q_Mo_n M = nI n ∧ (∀ k, k < n → q_Mo_text M k = C k) ∧ q_Mo_p M = nI p ∧ q_Mo_faultCount M = nI fl.length ∧ (∀ (k : Nat) (x : Int32 × Nat), fl[k]? = some x → q_Mo_codes M k = x.1 ∧ q_Mo_places M k = nI x.2) ∧ q_Mo_rowSize M = nI row.length ∧ (∀ (k : Nat) (x : Int32), row[k]? = some x → q_Mo_row M k = x) ∧ q_Mo_tokens M = nI TL.length
/-- what a run leaves as it was -/
def EF (M M' : SMo) : Prop := q_Mo_size M' = q_Mo_size M ∧ q_Mo_bytes M' = q_Mo_bytes M ∧ q_Mo_outSize M' = q_Mo_outSize M ∧ q_Mo_out M' = q_Mo_out M ∧ q_Mo_names M' = q_Mo_names M ∧ q_Mo_gives M' = q_Mo_gives M ∧ q_Mo_turned M' = q_Mo_turned M
def EE (M M' : SMo) : Prop := q_Mo_ended M' = q_Mo_ended M
def SM (M M' : SMo) : Prop := q_Mo_kinds M' = q_Mo_kinds M ∧ q_Mo_firsts M' = q_Mo_firsts M ∧ q_Mo_sizes M' = q_Mo_sizes M ∧ q_Mo_marks M' = q_Mo_marks M ∧ q_Mo_attributes M' = q_Mo_attributes M ∧ q_Mo_manyOf M' = q_Mo_manyOf M ∧ q_Mo_attributeCount M' = q_Mo_attributeCount M ∧ q_Mo_nameAt M' = q_Mo_nameAt M ∧ q_Mo_nameSize M' = q_Mo_nameSize M ∧ q_Mo_valueAt M' = q_Mo_valueAt M ∧ q_Mo_valueSize M' = q_Mo_valueSize M ∧ q_Mo_goes M' = q_Mo_goes M
def SX (M M' : SMo) : Prop := q_Mo_textAt M' = q_Mo_textAt M ∧ q_Mo_textSize M' = q_Mo_textSize M
theorem EF.rf (M : SMo) : EF M M := ⟨rfl, rfl, rfl, rfl, rfl, rfl, rfl⟩
theorem EF.trans {M M1 M2 : SMo} (h : EF M M1) (g : EF M1 M2) : EF M M2 := by
  obtain ⟨h1, h2, h3, h4, h5, h6, h7⟩ := h
  obtain ⟨g1, g2, g3, g4, g5, g6, g7⟩ := g
  exact ⟨g1.trans h1, g2.trans h2, g3.trans h3, g4.trans h4, g5.trans h5, g6.trans h6, g7.trans h7⟩
theorem SM.rf (M : SMo) : SM M M := ⟨rfl, rfl, rfl, rfl, rfl, rfl, rfl, rfl, rfl, rfl, rfl, rfl⟩
theorem SM.trans {M M1 M2 : SMo} (h : SM M M1) (g : SM M1 M2) : SM M M2 := by
  obtain ⟨h1, h2, h3, h4, h5, h6, h7, h8, h9, h10, h11, h12⟩ := h
  obtain ⟨g1, g2, g3, g4, g5, g6, g7, g8, g9, g10, g11, g12⟩ := g
  exact ⟨g1.trans h1, g2.trans h2, g3.trans h3, g4.trans h4, g5.trans h5, g6.trans h6, g7.trans h7, g8.trans h8, g9.trans h9, g10.trans h10, g11.trans h11, g12.trans h12⟩
theorem SX.trans {M M1 M2 : SMo} (h : SX M M1) (g : SX M1 M2) : SX M M2 := ⟨g.1.trans h.1, g.2.trans h.2⟩
theorem EE.trans {M M1 M2 : SMo} (h : EE M M1) (g : EE M1 M2) : EE M M2 := Eq.trans g h
def TM (ac : Nat) (TL : List Tk) (M : SMo) : Prop := ∀ (i : Nat) (tk : Tk), TL[i]? = some tk → q_Mo_kinds M i = tk.1 ∧ q_Mo_firsts M i = nI tk.2.1 ∧ q_Mo_sizes M i = nI (tk.2.2.1 - tk.2.1) ∧ q_Mo_marks M i = tk.2.2.2.1 ∧ q_Mo_manyOf M i = nI tk.2.2.2.2.length ∧ ∃ fm, q_Mo_attributes M i = nI fm ∧ fm + tk.2.2.2.2.length ≤ ac ∧ ∀ (j : Nat) (a : At), tk.2.2.2.2[j]? = some a → q_Mo_nameAt M (fm + j) = nI a.1 ∧ q_Mo_nameSize M (fm + j) = nI (a.2.1 - a.1) ∧ q_Mo_valueAt M (fm + j) = nI a.2.1 ∧ q_Mo_valueSize M (fm + j) = nI (a.2.2 - a.2.1)
def MM0 (ac u : Nat) (TL : List Tk) (tx : Option Nat) (M : SMo) : Prop := TM ac TL M ∧ q_Mo_attributeCount M = nI ac ∧ ((tx = none ∧ q_Mo_textSize M = 0) ∨ ∃ a, tx = some a ∧ a ≤ u ∧ q_Mo_textSize M = nI (u - a) ∧ (a < u → q_Mo_textAt M = nI a))
def MM1 (ac : Nat) (TL : List Tk) (ck : Int32) (cs : Nat) (cm : Int32) (M : SMo) : Prop := TM ac TL M ∧ q_Mo_attributeCount M = nI ac ∧ q_Mo_textSize M = 0 ∧ q_Mo_kinds M TL.length = ck ∧ q_Mo_firsts M TL.length = nI cs ∧ q_Mo_marks M TL.length = cm ∧ q_Mo_attributes M TL.length = nI ac ∧ q_Mo_manyOf M TL.length = 0
theorem TM_s {ac : Nat} {TL : List Tk} {M M' : SMo} (h : TM ac TL M) (e : SM M M') : TM ac TL M' := by
  obtain ⟨e1, e2, e3, e4, e5, e6, e7, e8, e9, e10, e11, e12⟩ := e
  unfold TM
  rw [e1, e2, e3, e4, e5, e6, e8, e9, e10, e11]
  exact h
theorem MM0_s {ac u : Nat} {TL : List Tk} {tx : Option Nat} {M M' : SMo} (h : MM0 ac u TL tx M) (e : SM M M') (x : SX M M') : MM0 ac u TL tx M' := by
  obtain ⟨h1, h2, h3⟩ := h
  refine ⟨TM_s h1 e, e.2.2.2.2.2.2.1.trans h2, ?_⟩
  rw [x.1, x.2]; exact h3
theorem MM1_s {ac : Nat} {TL : List Tk} {ck : Int32} {cs : Nat} {cm : Int32} {M M' : SMo} (h : MM1 ac TL ck cs cm M) (e : SM M M') (x : SX M M') : MM1 ac TL ck cs cm M' := by
  obtain ⟨h1, h2, h3, h4⟩ := h
  refine ⟨TM_s h1 e, e.2.2.2.2.2.2.1.trans h2, x.2.trans h3, ?_⟩
  obtain ⟨e1, e2, e3, e4, e5, e6, -⟩ := e
  rw [e1, e2, e4, e5, e6]; exact h4
theorem TM_at {ac : Nat} {TL : List Tk} {s s' : SMo} {t : Nat} (ht : TL.length ≤ t) (h : TM ac TL s) (h1 : ∀ i, i < t → q_Mo_kinds s' i = q_Mo_kinds s i ∧ q_Mo_firsts s' i = q_Mo_firsts s i ∧ q_Mo_sizes s' i = q_Mo_sizes s i ∧ q_Mo_marks s' i = q_Mo_marks s i ∧ q_Mo_manyOf s' i = q_Mo_manyOf s i ∧ q_Mo_attributes s' i = q_Mo_attributes s i) (h2 : ∀ j, j < ac → q_Mo_nameAt s' j = q_Mo_nameAt s j ∧ q_Mo_nameSize s' j = q_Mo_nameSize s j ∧ q_Mo_valueAt s' j = q_Mo_valueAt s j ∧ q_Mo_valueSize s' j = q_Mo_valueSize s j) : TM ac TL s' := by
  intro i tk hi
  have hl := (List.getElem?_eq_some_iff.mp hi).1
  obtain ⟨c1, c2, c3, c4, c5, fa, c6, c7, c8⟩ := h i tk hi
  obtain ⟨d1, d2, d3, d4, d5, d6⟩ := h1 i (by omega)
  refine ⟨d1.trans c1, d2.trans c2, d3.trans c3, d4.trans c4, d5.trans c5, fa, d6.trans c6, c7, fun j a ha => ?_⟩
  have hj := (List.getElem?_eq_some_iff.mp ha).1
  obtain ⟨e1, e2, e3, e4⟩ := c8 j a ha
  obtain ⟨f1, f2, f3, f4⟩ := h2 (fa + j) (by omega)
  exact ⟨f1.trans e1, f2.trans e2, f3.trans e3, f4.trans e4⟩
theorem TM_snoc {ac : Nat} {TL : List Tk} {s : SMo} {tk : Tk} (h : TM ac TL s) (h1 : q_Mo_kinds s TL.length = tk.1 ∧ q_Mo_firsts s TL.length = nI tk.2.1 ∧ q_Mo_sizes s TL.length = nI (tk.2.2.1 - tk.2.1) ∧ q_Mo_marks s TL.length = tk.2.2.2.1 ∧ q_Mo_manyOf s TL.length = nI tk.2.2.2.2.length ∧ ∃ fm, q_Mo_attributes s TL.length = nI fm ∧ fm + tk.2.2.2.2.length ≤ ac ∧ ∀ (j : Nat) (a : At), tk.2.2.2.2[j]? = some a → q_Mo_nameAt s (fm + j) = nI a.1 ∧ q_Mo_nameSize s (fm + j) = nI (a.2.1 - a.1) ∧ q_Mo_valueAt s (fm + j) = nI a.2.1 ∧ q_Mo_valueSize s (fm + j) = nI (a.2.2 - a.2.1)) : TM ac (TL ++ [tk]) s := by
  intro i x hx
  rcases getApp hx with ⟨-, hx⟩ | ⟨rfl, rfl⟩
  · exact h i x hx
  · exact h1
theorem m_char {n : Nat} {C : Nat → Int32} {p : Nat} {fl : Fl} {row : List Int32} {TL : List Tk} {M : SMo} (hC : CHs n C) (h : BM n C p fl row TL M) {k : Nat} (hk : k < 2 ^ 31) : f_Mo_charAt (nI k) M = some (C k) := by
  unfold f_Mo_charAt
  have hn := hC.1
  rw [h.1]
  by_cases hl : k < n
  · have x1 : ix (nI k) 400 := ixI (by omega) (by omega)
    rw [if_neg (nI_ge hl (by omega)), if_pos x1, nI_clamp hk, h.2.1 k hl]
  · rw [if_pos (nI_le (by omega) hk), hC.2.2 k (by omega)]
theorem m_cp {n : Nat} {C : Nat → Int32} {p : Nat} {fl : Fl} {row : List Int32} {TL : List Tk} {M : SMo} (hC : CHs n C) (h : BM n C p fl row TL M) (hp : p < 2 ^ 31) : f_Mo_charAt (q_Mo_p M) M = some (C p) := by
  rw [h.2.2.1]; exact m_char hC h hp
theorem m_wrong {n : Nat} {C : Nat → Int32} {p : Nat} {fl : Fl} {row : List Int32} {TL : List Tk} {M : SMo} (h : BM n C p fl row TL M) (c : Int32) (q : Nat) (hf : fl.length < 1200) : ∃ M', f_Mo_wrong c (nI q) M = some M' ∧ BM n C p (fl ++ [(c, q)]) row TL M' ∧ EF M M' ∧ EE M M' ∧ SM M M' ∧ SX M M' := by
  obtain ⟨h1, h2, h3, h4, h5, h6, h7, h8⟩ := h
  have x1 : ix (nI fl.length) 1200 := ixI hf (by decide)
  refine ⟨u_Mo_faultCount_codes_places M (nI (fl.length + 1)) (upd (q_Mo_codes M) fl.length c) (upd (q_Mo_places M) fl.length (nI q)), ?_, ⟨h1, h2, h3, ?_, ?_, h6, h7, h8⟩, EF.rf M, rfl, SM.rf M, rfl, rfl⟩
  · unfold f_Mo_wrong
    rw [h4, if_pos x1, if_pos x1, nI_clamp (by omega), nI_1]
  · show nI (fl.length + 1) = nI (fl ++ [(c, q)]).length
    rw [lenS]
  · intro k x hx
    show upd (q_Mo_codes M) fl.length c k = x.1 ∧ upd (q_Mo_places M) fl.length (nI q) k = nI x.2
    rcases getApp hx with ⟨hk, hx⟩ | ⟨rfl, rfl⟩
    · rw [upd_ne _ _ (by omega), upd_ne _ _ (by omega)]
      exact h5 k x hx
    · rw [upd_same, upd_same]; exact ⟨rfl, rfl⟩
theorem m_keep {n : Nat} {C : Nat → Int32} {p : Nat} {fl : Fl} {row : List Int32} {TL : List Tk} {M : SMo} (h : BM n C p fl row TL M) (c : Int32) (hu : row.length < 810) : ∃ M', f_Mo_keep c M = some M' ∧ BM n C p fl (row ++ [c]) TL M' ∧ EF M M' ∧ EE M M' ∧ SM M M' ∧ SX M M' := by
  obtain ⟨h1, h2, h3, h4, h5, h6, h7, h8⟩ := h
  have x1 : ix (nI row.length) 810 := ixI hu (by decide)
  refine ⟨u_Mo_rowSize_row M (nI (row.length + 1)) (upd (q_Mo_row M) row.length c), ?_, ⟨h1, h2, h3, h4, h5, ?_, ?_, h8⟩, EF.rf M, rfl, SM.rf M, rfl, rfl⟩
  · unfold f_Mo_keep
    rw [h6, if_pos x1, nI_clamp (by omega), nI_1]
  · show nI (row.length + 1) = nI (row ++ [c]).length
    rw [lenS]
  · intro k x hx
    show upd (q_Mo_row M) row.length c k = x
    rcases getApp hx with ⟨hk, hx⟩ | ⟨rfl, rfl⟩
    · rw [upd_ne _ _ (by omega)]; exact h7 k x hx
    · rw [upd_same]
theorem m_setp {n : Nat} {C : Nat → Int32} {p : Nat} {fl : Fl} {row : List Int32} {TL : List Tk} {M : SMo} (h : BM n C p fl row TL M) (q : Nat) {v : Int32} (hv : v = nI q) : ∃ M', u_Mo_p M v = M' ∧ BM n C q fl row TL M' ∧ EF M M' ∧ EE M M' ∧ SM M M' ∧ SX M M' := by
  subst hv
  obtain ⟨h1, h2, h3, h4, h5, h6, h7, h8⟩ := h
  exact ⟨_, rfl, ⟨h1, h2, rfl, h4, h5, h6, h7, h8⟩, EF.rf M, rfl, SM.rf M, rfl, rfl⟩
theorem m_adv {n : Nat} {C : Nat → Int32} {p : Nat} {fl : Fl} {row : List Int32} {TL : List Tk} {M : SMo} (h : BM n C p fl row TL M) : ∃ M', u_Mo_p M (q_Mo_p M + 1) = M' ∧ BM n C (p + 1) fl row TL M' ∧ EF M M' ∧ EE M M' ∧ SM M M' ∧ SX M M' := m_setp h (p + 1) (by rw [h.2.2.1, nI_1])
theorem m_toText {n : Nat} {C : Nat → Int32} {p : Nat} {fl : Fl} {row : List Int32} {TL : List Tk} {ac : Nat} {tx : Option Nat} {M : SMo} (h : BM n C p fl row TL M) (hM : MM0 ac row.length TL tx M) (c : Int32) (hu : row.length < 400) : ∃ M', f_Mo_toText c M = some M' ∧ BM n C p fl (row ++ [c]) TL M' ∧ EF M M' ∧ EE M M' ∧ MM0 ac (row ++ [c]).length TL (some (tx.getD row.length)) M' := by
  obtain ⟨m1, m2, hx⟩ := hM
  unfold f_Mo_toText
  -- what happens once the place of the text is set
  have fin : ∀ (M1 : SMo) (a : Nat), BM n C p fl row TL M1 → TM ac TL M1 → q_Mo_attributeCount M1 = nI ac → a ≤ row.length → q_Mo_textSize M1 = nI (row.length - a) → q_Mo_textAt M1 = nI a → ∃ M', (f_Mo_keep c M1).bind (fun x2 => some (u_Mo_textSize x2 ((q_Mo_textSize x2) + 1))) = some M' ∧ BM n C p fl (row ++ [c]) TL M' ∧ EF M1 M' ∧ EE M1 M' ∧ MM0 ac (row ++ [c]).length TL (some a) M' := by
    intro M1 a b1 b2 b3 b4 b5 b6
    obtain ⟨M2, e1, d1, d2, d3, d4, d5⟩ := m_keep b1 c (by omega)
    rw [e1, Option.bind_some]
    refine ⟨_, rfl, d1, d2, d3, TM_s b2 d4, d4.2.2.2.2.2.2.1.trans b3, Or.inr ⟨a, rfl, by rw [lenS]; omega, ?_, fun _ => d5.1.trans b6⟩⟩
    show q_Mo_textSize M2 + 1 = nI ((row ++ [c]).length - a)
    rw [d5.2, b5, nI_1, lenS, show row.length + 1 - a = row.length - a + 1 by omega]
  rcases hx with ⟨rfl, x2⟩ | ⟨a, rfl, x2, x3, x4⟩
  · rw [if_pos x2]
    obtain ⟨M', f1, f2, f3, f4, f5⟩ := fin (u_Mo_textAt M (q_Mo_rowSize M)) row.length h m1 m2 (Nat.le_refl _) (by rw [Nat.sub_self]; exact x2) h.2.2.2.2.2.1
    exact ⟨M', f1, f2, f3, f4, f5⟩
  · by_cases hz : a = row.length
    · subst hz
      have x5 : q_Mo_textSize M = 0 := by rw [x3, Nat.sub_self]; rfl
      rw [if_pos x5]
      obtain ⟨M', f1, f2, f3, f4, f5⟩ := fin (u_Mo_textAt M (q_Mo_rowSize M)) row.length h m1 m2 (Nat.le_refl _) (by rw [Nat.sub_self]; exact x5) h.2.2.2.2.2.1
      exact ⟨M', f1, f2, f3, f4, f5⟩
    · have x5 : ¬ q_Mo_textSize M = 0 := by rw [x3]; exact nI_ne0 (by omega) (by omega)
      rw [if_neg x5]
      exact fin M a h m1 m2 x2 x3 (x4 (by omega))
theorem m_begin0 {n : Nat} {C : Nat → Int32} {p : Nat} {fl : Fl} {row : List Int32} {TL : List Tk} {ac : Nat} {M : SMo} (h : BM n C p fl row TL M) (hT : TM ac TL M) (hac : q_Mo_attributeCount M = nI ac) (k : Int32) (q : Nat) (ht : TL.length < 402) : ∃ M', f_Mo_begin0 k (nI q) M = some M' ∧ BM n C p fl row TL M' ∧ EF M M' ∧ EE M M' ∧ TM ac TL M' ∧ q_Mo_attributeCount M' = nI ac ∧ q_Mo_textSize M' = q_Mo_textSize M ∧ q_Mo_textAt M' = q_Mo_textAt M ∧ q_Mo_kinds M' TL.length = k ∧ q_Mo_firsts M' TL.length = nI q ∧ q_Mo_marks M' TL.length = 0 ∧ q_Mo_attributes M' TL.length = nI ac ∧ q_Mo_manyOf M' TL.length = 0 := by
  have x1 : ix (nI TL.length) 402 := ixI ht (by decide)
  refine ⟨u_Mo_kinds_firsts_sizes_marks_attributes_manyOf M (upd (q_Mo_kinds M) TL.length k) (upd (q_Mo_firsts M) TL.length (nI q)) (upd (q_Mo_sizes M) TL.length 0) (upd (q_Mo_marks M) TL.length (vp_nar .boolean 0)) (upd (q_Mo_attributes M) TL.length (nI ac)) (upd (q_Mo_manyOf M) TL.length 0), ?_, h, EF.rf M, rfl, ?_, hac, rfl, rfl, upd_same _ _ _, upd_same _ _ _, upd_same _ _ _, upd_same _ _ _, upd_same _ _ _⟩
  · unfold f_Mo_begin0
    rw [h.2.2.2.2.2.2.2, if_pos x1, if_pos x1, if_pos x1, if_pos x1, if_pos x1, if_pos x1, nI_clamp (by omega), hac]
  · exact TM_at (Nat.le_refl _) hT (fun i hi => ⟨upd_ne _ _ (Nat.ne_of_lt hi), upd_ne _ _ (Nat.ne_of_lt hi), upd_ne _ _ (Nat.ne_of_lt hi), upd_ne _ _ (Nat.ne_of_lt hi), upd_ne _ _ (Nat.ne_of_lt hi), upd_ne _ _ (Nat.ne_of_lt hi)⟩) (fun j hj => ⟨rfl, rfl, rfl, rfl⟩)
def TXok (u : Nat) (tx : Option Nat) : Prop := ∀ a, tx = some a → a < u
theorem m_begin {n : Nat} {C : Nat → Int32} {p : Nat} {fl : Fl} {row : List Int32} {TL : List Tk} {ac : Nat} {tx : Option Nat} {M : SMo} (h : BM n C p fl row TL M) (hM : MM0 ac row.length TL tx M) (hx : TXok row.length tx) (hu : row.length ≤ 400) (k : Int32) (ht : (fT row.length tx TL).length < 402) : ∃ M', f_Mo_begin k M = some M' ∧ BM n C p fl row (fT row.length tx TL) M' ∧ EF M M' ∧ EE M M' ∧ MM1 ac (fT row.length tx TL) k row.length 0 M' := by
  obtain ⟨m1, m2, hm⟩ := hM
  unfold f_Mo_begin
  rcases hm with ⟨rfl, x2⟩ | ⟨a, rfl, x2, x3, x4⟩
  · rw [if_pos (by rw [x2]; decide)]
    obtain ⟨M', e1, b1, b2, b3, b4, b5, b6, b7, b8, b9, b10, b11, b12⟩ := m_begin0 h m1 m2 k row.length ht
    exact ⟨M', by rw [h.2.2.2.2.2.1, e1, Option.bind_some], b1, b2, b3, b4, b5, b6.trans x2, b8, b9, b10, b11, b12⟩
  · have ha := hx a rfl
    have hlen : (fT row.length (some a) TL).length = TL.length + 1 := by unfold fT; simp only []; rw [lenS]
    rw [if_neg (by rw [x3]; exact nI_nle (by omega) (by omega)), x4 ha]
    obtain ⟨M1, e1, b1, b2, b3, b4, b5, b6, b7, b8, b9, b10, b11, b12⟩ := m_begin0 (M := u_Mo_textSize M 0) h m1 m2 0 a (by omega)
    have y1 : ix (nI TL.length) 402 := ixI (by omega) (by decide)
    rw [e1, Option.bind_some, b1.2.2.2.2.2.2.2, if_pos y1, nI_clamp (by omega), nI_1, x3, b1.2.2.2.2.2.1]
    obtain ⟨M2, eM2, B2, F2, E2, T2, A2, X2⟩ : ∃ M2, u_Mo_tokens_sizes M1 (nI (TL.length + 1)) (upd (q_Mo_sizes M1) TL.length (nI (row.length - a))) = M2 ∧ BM n C p fl row (fT row.length (some a) TL) M2 ∧ EF M1 M2 ∧ EE M1 M2 ∧ TM ac (fT row.length (some a) TL) M2 ∧ q_Mo_attributeCount M2 = nI ac ∧ q_Mo_textSize M2 = 0 := by
      refine ⟨_, rfl, ⟨b1.1, b1.2.1, b1.2.2.1, b1.2.2.2.1, b1.2.2.2.2.1, b1.2.2.2.2.2.1, b1.2.2.2.2.2.2.1, ?_⟩, EF.rf M1, rfl, ?_, b5, b6⟩
      · show nI (TL.length + 1) = nI (fT row.length (some a) TL).length
        rw [hlen]
      · exact TM_snoc (TM_at (Nat.le_refl _) b4 (fun i hi => ⟨rfl, rfl, upd_ne _ _ (Nat.ne_of_lt hi), rfl, rfl, rfl⟩) (fun j hj => ⟨rfl, rfl, rfl, rfl⟩)) ⟨b8, b9, upd_same _ _ _, b10, b12, ac, b11, Nat.le_refl _, fun j a h => by simp at h⟩
    rw [eM2]
    obtain ⟨M', f1, d1, d2, d3, d4, d5, d6, d7, d8, d9, d10, d11, d12⟩ := m_begin0 B2 T2 A2 k row.length ht
    exact ⟨M', by rw [f1, Option.bind_some], d1, (show EF M M1 from b2).trans (F2.trans d2), (show EE M M1 from b3).trans (E2.trans d3), d4, d5, d6.trans X2, d8, d9, d10, d11, d12⟩
theorem m_tell {n : Nat} {C : Nat → Int32} {p : Nat} {fl : Fl} {row : List Int32} {TL : List Tk} {ac : Nat} {ck : Int32} {cs : Nat} {cm : Int32} {M : SMo} (h : BM n C p fl row TL M) (hM : MM1 ac TL ck cs cm M) (hcs : cs ≤ row.length) (ht : TL.length < 402) : ∃ M', f_Mo_tell M = some M' ∧ BM n C p fl row (TL ++ [(ck, cs, row.length, cm, [])]) M' ∧ EF M M' ∧ EE M M' ∧ MM0 ac row.length (TL ++ [(ck, cs, row.length, cm, [])]) none M' := by
  obtain ⟨m1, m2, m4, m5, m6, m7, m8, m9⟩ := hM
  have x1 : ix (nI TL.length) 402 := ixI ht (by decide)
  refine ⟨u_Mo_tokens_sizes M (nI (TL.length + 1)) (upd (q_Mo_sizes M) TL.length (nI (row.length - cs))), ?_, ⟨h.1, h.2.1, h.2.2.1, h.2.2.2.1, h.2.2.2.2.1, h.2.2.2.2.2.1, h.2.2.2.2.2.2.1, ?_⟩, EF.rf M, rfl, ?_, m2, Or.inl ⟨rfl, m4⟩⟩
  · unfold f_Mo_tell
    rw [h.2.2.2.2.2.2.2]
    simp only [if_pos x1, nI_clamp (show TL.length < 2 ^ 31 by omega), m6, h.2.2.2.2.2.1, nI_sub hcs, nI_1]
  · show nI (TL.length + 1) = nI (TL ++ [_]).length
    rw [lenS]
  · exact TM_snoc (TM_at (Nat.le_refl _) m1 (fun i hi => ⟨rfl, rfl, upd_ne _ _ (Nat.ne_of_lt hi), rfl, rfl, rfl⟩) (fun j hj => ⟨rfl, rfl, rfl, rfl⟩)) ⟨m5, m6, upd_same _ _ _, m7, m9, ac, m8, Nat.le_refl _, fun j a h => by simp at h⟩
