abbrev a_wrongAt (A : AS) (c : Int32) (q : Nat) : AS := w_fl A (a_fl A ++ [(c, q)])
def BM (n : Nat) (C : Nat → Int32) (A : AS) (M : SMo) : Prop := q_Mo_n M = nI n ∧ (∀ k, k < n → q_Mo_text M k = C k) ∧ q_Mo_p M = nI (a_p A) ∧ q_Mo_faultCount M = nI (a_fl A).length ∧ (∀ (k : Nat) (x : Int32 × Nat), (a_fl A)[k]? = some x → q_Mo_codes M k = x.1 ∧ q_Mo_places M k = nI x.2) ∧ q_Mo_rowSize M = nI (a_row A).length ∧ (∀ (k : Nat) (x : Int32), (a_row A)[k]? = some x → q_Mo_row M k = x) ∧ q_Mo_tokens M = nI (a_TL A).length
/-- what a run leaves as it was -/
def FRM (M0 M : SMo) : Prop := q_Mo_size M = q_Mo_size M0 ∧ q_Mo_bytes M = q_Mo_bytes M0 ∧ q_Mo_outSize M = q_Mo_outSize M0 ∧ q_Mo_out M = q_Mo_out M0 ∧ q_Mo_names M = q_Mo_names M0 ∧ q_Mo_gives M = q_Mo_gives M0 ∧ q_Mo_turned M = q_Mo_turned M0
def TM (ac : Nat) (TL : List Tk) (M : SMo) : Prop := ∀ (i : Nat) (tk : Tk), TL[i]? = some tk → q_Mo_kinds M i = tk.1 ∧ q_Mo_firsts M i = nI tk.2.1 ∧ q_Mo_sizes M i = nI (tk.2.2.1 - tk.2.1) ∧ q_Mo_marks M i = tk.2.2.2.1 ∧ q_Mo_manyOf M i = nI tk.2.2.2.2.length ∧ ∃ fm, q_Mo_attributes M i = nI fm ∧ fm + tk.2.2.2.2.length ≤ ac ∧ ∀ (j : Nat) (a : At), tk.2.2.2.2[j]? = some a → q_Mo_nameAt M (fm + j) = nI a.1 ∧ q_Mo_nameSize M (fm + j) = nI (a.2.1 - a.1) ∧ q_Mo_valueAt M (fm + j) = nI a.2.1 ∧ q_Mo_valueSize M (fm + j) = nI (a.2.2 - a.2.1)
def MM0 (A : AS) (M : SMo) : Prop := TM (a_ac A) (a_TL A) M ∧ q_Mo_attributeCount M = nI (a_ac A) ∧ ((a_tx A = none ∧ q_Mo_textSize M = 0) ∨ ∃ a, a_tx A = some a ∧ a ≤ (a_row A).length ∧ q_Mo_textSize M = nI ((a_row A).length - a) ∧ (a < (a_row A).length → q_Mo_textAt M = nI a))
def MM1 (A : AS) (M : SMo) : Prop := TM (a_ac A) (a_TL A) M ∧ q_Mo_attributeCount M = nI (a_ac A) ∧ a_tx A = none ∧ q_Mo_textSize M = 0 ∧ q_Mo_kinds M (a_TL A).length = a_ck A ∧ q_Mo_firsts M (a_TL A).length = nI (a_cs A) ∧ q_Mo_marks M (a_TL A).length = a_cm A ∧ q_Mo_attributes M (a_TL A).length = nI (a_ac A) ∧ q_Mo_manyOf M (a_TL A).length = 0
theorem TM_at {ac : Nat} {TL : List Tk} {s s' : SMo} {t : Nat} (ht : TL.length ≤ t) (h : TM ac TL s) (h1 : ∀ i, i < t → q_Mo_kinds s' i = q_Mo_kinds s i ∧ q_Mo_firsts s' i = q_Mo_firsts s i ∧ q_Mo_sizes s' i = q_Mo_sizes s i ∧ q_Mo_marks s' i = q_Mo_marks s i ∧ q_Mo_manyOf s' i = q_Mo_manyOf s i ∧ q_Mo_attributes s' i = q_Mo_attributes s i) (h2 : ∀ j, j < ac → q_Mo_nameAt s' j = q_Mo_nameAt s j ∧ q_Mo_nameSize s' j = q_Mo_nameSize s j ∧ q_Mo_valueAt s' j = q_Mo_valueAt s j ∧ q_Mo_valueSize s' j = q_Mo_valueSize s j) : TM ac TL s' := by
  intro i tk hi
  have hl := (List.getElem?_eq_some_iff.mp hi).1
  obtain ⟨c1, c2, c3, c4, c5, fa, c6, c7, c8⟩ := h i tk hi
  obtain ⟨d1, d2, d3, d4, d5, d6⟩ := h1 i (by omega)
  refine ⟨d1.trans c1, d2.trans c2, d3.trans c3, d4.trans c4, d5.trans c5, fa, d6.trans c6, c7, fun j a ha => ?_⟩
  have hj := (List.getElem?_eq_some_iff.mp ha).1
  obtain ⟨e1, e2, e3, e4⟩ := c8 j a ha
  obtain ⟨f1, f2, f3, f4⟩ := h2 (fa + j) (by omega)
  exact ⟨f1.trans e1, f2.trans e2, f3.trans e3, f4.trans e4⟩
theorem TM_snoc {ac : Nat} {TL : List Tk} {s : SMo} {tk : Tk} (h : TM ac TL s) (h1 : q_Mo_kinds s TL.length = tk.1 ∧ q_Mo_firsts s TL.length = nI tk.2.1 ∧ q_Mo_sizes s TL.length = nI (tk.2.2.1 - tk.2.1) ∧ q_Mo_marks s TL.length = tk.2.2.2.1 ∧ q_Mo_manyOf s TL.length = nI tk.2.2.2.2.length ∧ ∃ fm, q_Mo_attributes s TL.length = nI fm ∧ fm + tk.2.2.2.2.length ≤ ac ∧ ∀ (j : Nat) (a : At), tk.2.2.2.2[j]? = some a → q_Mo_nameAt s (fm + j) = nI a.1 ∧ q_Mo_nameSize s (fm + j) = nI (a.2.1 - a.1) ∧ q_Mo_valueAt s (fm + j) = nI a.2.1 ∧ q_Mo_valueSize s (fm + j) = nI (a.2.2 - a.2.1)) : TM ac (TL ++ [tk]) s := by
  intro i x hx
  rcases getApp hx with ⟨-, hx⟩ | ⟨rfl, rfl⟩
  · exact h i x hx
  · exact h1
theorem m_char {n : Nat} {C : Nat → Int32} {A : AS} {M : SMo} (hC : CHs n C) (h : BM n C A M) {k : Nat} (hk : k < 2 ^ 31) : f_Mo_charAt (nI k) M = some (C k) := by
  unfold f_Mo_charAt
  have hn := hC.1
  rw [h.1]
  by_cases hl : k < n
  · have x1 : ix (nI k) 400 := ixI (by omega) (by omega)
    rw [if_neg (nI_ge hl (by omega)), if_pos x1, nI_clamp hk, h.2.1 k hl]
  · rw [if_pos (nI_le (by omega) hk), hC.2.2 k (by omega)]
theorem m_wrong {n : Nat} {C : Nat → Int32} {A : AS} {M : SMo} (h : BM n C A M) (c : Int32) (q : Nat) (hf : (a_fl A).length < 1200) : ∃ (x : Int32) (y w : Nat → Int32), f_Mo_wrong c (nI q) M = some (u_Mo_faultCount_codes_places M x y w) ∧ BM n C (a_wrongAt A c q) (u_Mo_faultCount_codes_places M x y w) := by
  obtain ⟨h1, h2, h3, h4, h5, h6, h7, h8⟩ := h
  have x1 : ix (nI (a_fl A).length) 1200 := ixI hf (by decide)
  refine ⟨nI ((a_fl A).length + 1), upd (q_Mo_codes M) (a_fl A).length c, upd (q_Mo_places M) (a_fl A).length (nI q), ?_, h1, h2, h3, ?_, ?_, h6, h7, h8⟩
  · unfold f_Mo_wrong
    rw [h4, if_pos x1, if_pos x1, nI_clamp (by omega), nI_1]
  · show nI ((a_fl A).length + 1) = nI (a_fl A ++ [(c, q)]).length
    rw [List.length_append]; rfl
  · intro k x hx
    show upd (q_Mo_codes M) (a_fl A).length c k = x.1 ∧ upd (q_Mo_places M) (a_fl A).length (nI q) k = nI x.2
    rcases getApp hx with ⟨hk, hx⟩ | ⟨rfl, rfl⟩
    · rw [upd_ne _ _ (by omega), upd_ne _ _ (by omega)]
      exact h5 k x hx
    · rw [upd_same, upd_same]; exact ⟨rfl, rfl⟩
theorem m_keep {n : Nat} {C : Nat → Int32} {A : AS} {M : SMo} (h : BM n C A M) (c : Int32) (hu : (a_row A).length < 810) : ∃ (x : Int32) (y : Nat → Int32), f_Mo_keep c M = some (u_Mo_rowSize_row M x y) ∧ BM n C (a_add A c) (u_Mo_rowSize_row M x y) := by
  obtain ⟨h1, h2, h3, h4, h5, h6, h7, h8⟩ := h
  have x1 : ix (nI (a_row A).length) 810 := ixI hu (by decide)
  refine ⟨nI ((a_row A).length + 1), upd (q_Mo_row M) (a_row A).length c, ?_, h1, h2, h3, h4, h5, ?_, ?_, h8⟩
  · unfold f_Mo_keep
    rw [h6, if_pos x1, nI_clamp (by omega), nI_1]
  · show nI ((a_row A).length + 1) = nI (a_row A ++ [c]).length
    rw [List.length_append]; rfl
  · intro k x hx
    show upd (q_Mo_row M) (a_row A).length c k = x
    rcases getApp hx with ⟨hk, hx⟩ | ⟨rfl, rfl⟩
    · rw [upd_ne _ _ (by omega)]; exact h7 k x hx
    · rw [upd_same]
abbrev a_toText (A : AS) (c : Int32) : AS := a_add (w_tx A (some ((a_tx A).getD (a_row A).length))) c
/-- the reference in a frame: its base, what stays, whether it has ended -/
def RB (n : Nat) (C : Nat → Int32) (M0 : SMo) (e : Int32) (A : AS) (M : SMo) : Prop := BM n C A M ∧ FRM M0 M ∧ q_Mo_ended M = e
theorem m_toText {n : Nat} {C : Nat → Int32} {M0 : SMo} {e : Int32} {A : AS} {M : SMo} (h : RB n C M0 e A M) (hM : MM0 A M) (c : Int32) (hu : (a_row A).length < 400) : ∃ M', f_Mo_toText c M = some M' ∧ RB n C M0 e (a_toText A c) M' ∧ MM0 (a_toText A c) M' := by
  obtain ⟨v1, v2, v3, v4, v5, v6, v7, v8, v9, v10, v11, v12, v13, v14, v15, v16, v17, v18, v19, v20, v21, v22, v23, v24, v25, v26, v27, v28, v29, v30, v31, v32⟩ := M
  obtain ⟨hB, hF, hE⟩ := h
  obtain ⟨m1, m2, hx⟩ := hM
  unfold f_Mo_toText
  have hlen : (a_row A ++ [c]).length = (a_row A).length + 1 := by rw [List.length_append]; rfl
  rcases hx with ⟨x1, x2⟩ | ⟨a, x1, x2, x3, x4⟩
  · obtain ⟨x, y, e1, b1⟩ := m_keep (M := u_Mo_textAt (v1, v2, v3, v4, v5, v6, v7, v8, v9, v10, v11, v12, v13, v14, v15, v16, v17, v18, v19, v20, v21, v22, v23, v24, v25, v26, v27, v28, v29, v30, v31, v32) (q_Mo_rowSize (v1, v2, v3, v4, v5, v6, v7, v8, v9, v10, v11, v12, v13, v14, v15, v16, v17, v18, v19, v20, v21, v22, v23, v24, v25, v26, v27, v28, v29, v30, v31, v32))) (A := w_tx A (some (a_row A).length)) hB c (show (a_row A).length < 810 by omega)
    rw [if_pos x2, e1, Option.bind_some]
    refine ⟨_, rfl, ⟨b1, hF, hE⟩, m1, m2, Or.inr ⟨(a_row A).length, by show some ((a_tx A).getD _) = _; rw [x1]; rfl, ?_, ?_, fun _ => hB.2.2.2.2.2.1⟩⟩
    · show (a_row A).length ≤ (a_row A ++ [c]).length
      omega
    · show q_Mo_textSize (v1, v2, v3, v4, v5, v6, v7, v8, v9, v10, v11, v12, v13, v14, v15, v16, v17, v18, v19, v20, v21, v22, v23, v24, v25, v26, v27, v28, v29, v30, v31, v32) + 1 = nI ((a_row A ++ [c]).length - (a_row A).length)
      rw [x2, hlen, show (a_row A).length + 1 - (a_row A).length = 1 by omega]; rfl
  · by_cases hz : a = (a_row A).length
    · have x5 : q_Mo_textSize (v1, v2, v3, v4, v5, v6, v7, v8, v9, v10, v11, v12, v13, v14, v15, v16, v17, v18, v19, v20, v21, v22, v23, v24, v25, v26, v27, v28, v29, v30, v31, v32) = 0 := by rw [x3, hz, Nat.sub_self]; rfl
      obtain ⟨x, y, e1, b1⟩ := m_keep (M := u_Mo_textAt (v1, v2, v3, v4, v5, v6, v7, v8, v9, v10, v11, v12, v13, v14, v15, v16, v17, v18, v19, v20, v21, v22, v23, v24, v25, v26, v27, v28, v29, v30, v31, v32) (q_Mo_rowSize (v1, v2, v3, v4, v5, v6, v7, v8, v9, v10, v11, v12, v13, v14, v15, v16, v17, v18, v19, v20, v21, v22, v23, v24, v25, v26, v27, v28, v29, v30, v31, v32))) (A := w_tx A (some a)) hB c (show (a_row A).length < 810 by omega)
      rw [if_pos x5, e1, Option.bind_some]
      refine ⟨_, rfl, ⟨b1, hF, hE⟩, m1, m2, Or.inr ⟨a, by show some ((a_tx A).getD _) = _; rw [x1]; rfl, ?_, ?_, fun _ => by rw [hz]; exact hB.2.2.2.2.2.1⟩⟩
      · show a ≤ (a_row A ++ [c]).length
        omega
      · show q_Mo_textSize (v1, v2, v3, v4, v5, v6, v7, v8, v9, v10, v11, v12, v13, v14, v15, v16, v17, v18, v19, v20, v21, v22, v23, v24, v25, v26, v27, v28, v29, v30, v31, v32) + 1 = nI ((a_row A ++ [c]).length - a)
        rw [x5, hlen, show (a_row A).length + 1 - a = 1 by omega]; rfl
    · have x5 : ¬ q_Mo_textSize (v1, v2, v3, v4, v5, v6, v7, v8, v9, v10, v11, v12, v13, v14, v15, v16, v17, v18, v19, v20, v21, v22, v23, v24, v25, v26, v27, v28, v29, v30, v31, v32) = 0 := by rw [x3]; exact nI_ne0 (by omega) (by omega)
      obtain ⟨x, y, e1, b1⟩ := m_keep (M := (v1, v2, v3, v4, v5, v6, v7, v8, v9, v10, v11, v12, v13, v14, v15, v16, v17, v18, v19, v20, v21, v22, v23, v24, v25, v26, v27, v28, v29, v30, v31, v32)) (A := w_tx A (some a)) hB c (show (a_row A).length < 810 by omega)
      rw [if_neg x5, e1, Option.bind_some]
      refine ⟨_, rfl, ⟨b1, hF, hE⟩, m1, m2, Or.inr ⟨a, by show some ((a_tx A).getD _) = _; rw [x1]; rfl, ?_, ?_, fun _ => x4 (by omega)⟩⟩
      · show a ≤ (a_row A ++ [c]).length
        omega
      · show q_Mo_textSize (v1, v2, v3, v4, v5, v6, v7, v8, v9, v10, v11, v12, v13, v14, v15, v16, v17, v18, v19, v20, v21, v22, v23, v24, v25, v26, v27, v28, v29, v30, v31, v32) + 1 = nI ((a_row A ++ [c]).length - a)
        rw [x3, hlen, nI_1, show (a_row A).length + 1 - a = (a_row A).length - a + 1 by omega]
theorem m_begin0 {n : Nat} {C : Nat → Int32} {M0 : SMo} {e : Int32} {A : AS} {M : SMo} (h : RB n C M0 e A M) (hT : TM (a_ac A) (a_TL A) M) (hac : q_Mo_attributeCount M = nI (a_ac A)) (k : Int32) (q : Nat) (ht : (a_TL A).length < 402) : ∃ M', f_Mo_begin0 k (nI q) M = some M' ∧ RB n C M0 e A M' ∧ TM (a_ac A) (a_TL A) M' ∧ q_Mo_attributeCount M' = nI (a_ac A) ∧ q_Mo_textSize M' = q_Mo_textSize M ∧ q_Mo_textAt M' = q_Mo_textAt M ∧ q_Mo_kinds M' (a_TL A).length = k ∧ q_Mo_firsts M' (a_TL A).length = nI q ∧ q_Mo_sizes M' (a_TL A).length = 0 ∧ q_Mo_marks M' (a_TL A).length = 0 ∧ q_Mo_attributes M' (a_TL A).length = nI (a_ac A) ∧ q_Mo_manyOf M' (a_TL A).length = 0 := by
  obtain ⟨hB, hF, hE⟩ := h
  have x1 : ix (nI (a_TL A).length) 402 := ixI ht (by decide)
  refine ⟨u_Mo_kinds_firsts_sizes_marks_attributes_manyOf M (upd (q_Mo_kinds M) (a_TL A).length k) (upd (q_Mo_firsts M) (a_TL A).length (nI q)) (upd (q_Mo_sizes M) (a_TL A).length 0) (upd (q_Mo_marks M) (a_TL A).length (vp_nar .boolean 0)) (upd (q_Mo_attributes M) (a_TL A).length (nI (a_ac A))) (upd (q_Mo_manyOf M) (a_TL A).length 0), ?_, ⟨hB, hF, hE⟩, ?_, hac, rfl, rfl, upd_same _ _ _, upd_same _ _ _, upd_same _ _ _, upd_same _ _ _, upd_same _ _ _, upd_same _ _ _⟩
  · unfold f_Mo_begin0
    rw [hB.2.2.2.2.2.2.2, if_pos x1, if_pos x1, if_pos x1, if_pos x1, if_pos x1, if_pos x1, nI_clamp (by omega), hac]
  · exact TM_at (Nat.le_refl _) hT (fun i hi => ⟨upd_ne _ _ (Nat.ne_of_lt hi), upd_ne _ _ (Nat.ne_of_lt hi), upd_ne _ _ (Nat.ne_of_lt hi), upd_ne _ _ (Nat.ne_of_lt hi), upd_ne _ _ (Nat.ne_of_lt hi), upd_ne _ _ (Nat.ne_of_lt hi)⟩) (fun j hj => ⟨rfl, rfl, rfl, rfl⟩)
def TXok (A : AS) : Prop := ∀ a, a_tx A = some a → a < (a_row A).length
theorem m_begin {n : Nat} {C : Nat → Int32} {M0 : SMo} {e : Int32} {A : AS} {M : SMo} (h : RB n C M0 e A M) (hM : MM0 A M) (hx : TXok A) (hu : (a_row A).length ≤ 400) (k : Int32) (ht : (a_TL (a_flush A)).length < 402) : ∃ M', f_Mo_begin k M = some M' ∧ RB n C M0 e (a_begin A k) M' ∧ MM1 (a_begin A k) M' := by
  obtain ⟨m1, m2, hm⟩ := hM
  unfold f_Mo_begin
  rcases hm with ⟨x1, x2⟩ | ⟨a, x1, x2, x3, x4⟩
  · rw [if_pos (by rw [x2]; decide)]
    rw [flush_none x1] at ht
    obtain ⟨M', e1, b1, b2, b3, b4, b5, b6, b7, b8, b9, b10, b11⟩ := m_begin0 h m1 m2 k (a_row A).length ht
    refine ⟨M', by rw [h.1.2.2.2.2.2.1, e1, Option.bind_some], ?_, ?_⟩
    · show RB n C M0 e (a_open (a_flush A) k) M'
      rw [flush_none x1]; exact b1
    · show MM1 (a_open (a_flush A) k) M'
      rw [flush_none x1]
      exact ⟨b2, b3, x1, b4.trans x2, b6, b7, b9, b10, b11⟩
  · have ha := hx a x1
    rw [flush_some x1] at ht
    have ht2 : (a_TL A ++ [((0 : Int32), a, (a_row A).length, (0 : Int32), ([] : List At))]).length < 402 := ht
    have hlen : (a_TL A ++ [((0 : Int32), a, (a_row A).length, (0 : Int32), ([] : List At))]).length = (a_TL A).length + 1 := by rw [List.length_append]; rfl
    rw [if_neg (by rw [x3]; exact nI_nle (by omega) (by omega)), x4 ha]
    obtain ⟨M1, e1, b1, b2, b3, b4, b5, b6, b7, b8, b9, b10, b11⟩ := m_begin0 (M := u_Mo_textSize M 0) h m1 m2 0 a (by omega)
    have y1 : ix (nI (a_TL A).length) 402 := ixI (by omega) (by decide)
    rw [e1, Option.bind_some, b1.1.2.2.2.2.2.2.2, if_pos y1, nI_clamp (by omega), nI_1, x3, b1.1.2.2.2.2.2.1]
    have B2 : RB n C M0 e (a_flush A) (u_Mo_tokens_sizes M1 (nI ((a_TL A).length + 1)) (upd (q_Mo_sizes M1) (a_TL A).length (nI ((a_row A).length - a)))) := by
      rw [flush_some x1]
      refine ⟨⟨b1.1.1, b1.1.2.1, b1.1.2.2.1, b1.1.2.2.2.1, b1.1.2.2.2.2.1, b1.1.2.2.2.2.2.1, b1.1.2.2.2.2.2.2.1, ?_⟩, b1.2.1, b1.2.2⟩
      show nI ((a_TL A).length + 1) = nI (a_TL A ++ [_]).length
      rw [hlen]
    have T2 : TM (a_ac (a_flush A)) (a_TL (a_flush A)) (u_Mo_tokens_sizes M1 (nI ((a_TL A).length + 1)) (upd (q_Mo_sizes M1) (a_TL A).length (nI ((a_row A).length - a)))) := by
      rw [flush_some x1]
      exact TM_snoc (TM_at (Nat.le_refl _) b2 (fun i hi => ⟨rfl, rfl, upd_ne _ _ (Nat.ne_of_lt hi), rfl, rfl, rfl⟩) (fun j hj => ⟨rfl, rfl, rfl, rfl⟩)) ⟨b6, b7, upd_same _ _ _, b9, b11, a_ac A, b10, Nat.le_refl _, fun j a h => by simp at h⟩
    have hac2 : a_ac (a_flush A) = a_ac A := by rw [flush_some x1]
    have ht3 : (a_TL (a_flush A)).length < 402 := by rw [flush_some x1]; exact ht2
    obtain ⟨M', f1, d1, d2, d3, d4, d5, d6, d7, d8, d9, d10, d11⟩ := m_begin0 B2 T2 (by rw [hac2]; exact b3) k (a_row A).length ht3
    refine ⟨M', by rw [f1, Option.bind_some], d1, d2, d3, ?_, d4.trans b4, d6, ?_, d9, d10, d11⟩
    · show a_tx (a_flush A) = none
      rw [flush_some x1]
    · have e9 : (a_row (a_flush A)).length = (a_row A).length := by rw [flush_some x1]
      show q_Mo_firsts M' (a_TL (a_flush A)).length = nI (a_row (a_flush A)).length
      rw [e9]
      exact d7
theorem m_tell {n : Nat} {C : Nat → Int32} {M0 : SMo} {e : Int32} {A : AS} {M : SMo} (h : RB n C M0 e A M) (hM : MM1 A M) (hcs : a_cs A ≤ (a_row A).length) (ht : (a_TL A).length < 402) : ∃ M', f_Mo_tell M = some M' ∧ RB n C M0 e (a_tell A) M' ∧ MM0 (a_tell A) M' := by
  obtain ⟨m1, m2, m3, m4, m5, m6, m7, m8, m9⟩ := hM
  obtain ⟨hB, hF, hE⟩ := h
  have x1 : ix (nI (a_TL A).length) 402 := ixI ht (by decide)
  refine ⟨u_Mo_tokens_sizes M (nI ((a_TL A).length + 1)) (upd (q_Mo_sizes M) (a_TL A).length (nI ((a_row A).length - a_cs A))), ?_, ⟨⟨hB.1, hB.2.1, hB.2.2.1, hB.2.2.2.1, hB.2.2.2.2.1, hB.2.2.2.2.2.1, hB.2.2.2.2.2.2.1, ?_⟩, hF, hE⟩, ?_, m2, Or.inl ⟨m3, m4⟩⟩
  · unfold f_Mo_tell
    rw [hB.2.2.2.2.2.2.2]
    simp only [if_pos x1, nI_clamp (show (a_TL A).length < 2 ^ 31 by omega), m6, hB.2.2.2.2.2.1, nI_sub hcs, nI_1]
  · show nI ((a_TL A).length + 1) = nI (a_TL A ++ [_]).length
    rw [List.length_append]; rfl
  · exact TM_snoc (TM_at (Nat.le_refl _) m1 (fun i hi => ⟨rfl, rfl, upd_ne _ _ (Nat.ne_of_lt hi), rfl, rfl, rfl⟩) (fun j hj => ⟨rfl, rfl, rfl, rfl⟩)) ⟨m5, m6, upd_same _ _ _, m7, m9, a_ac A, m8, Nat.le_refl _, fun j a h => by simp at h⟩
