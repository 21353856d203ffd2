def E4 (M : SMo) (k : Nat) (a : At) : Prop := q_Mo_nameAt M k = nI a.1 ∧ q_Mo_nameSize M k = nI (a.2.1 - a.1) ∧ q_Mo_valueAt M k = nI a.2.1 ∧ q_Mo_valueSize M k = nI (a.2.2 - a.2.1)
abbrev AR_ : Type := List (At × Int32)
/-- the attributes that do not go -/
def kp : AR_ → List At
  | [] => []
  | x :: l => if x.2 = 0 then x.1 :: kp l else kp l
theorem kp_app (l m : AR_) : kp (l ++ m) = kp l ++ kp m := by
  induction l with
  | nil => rfl
  | cons x l ih =>
    show (if x.2 = 0 then x.1 :: kp (l ++ m) else kp (l ++ m)) = (if x.2 = 0 then x.1 :: kp l else kp l) ++ kp m
    rw [ih]
    by_cases h : x.2 = 0
    · rw [if_pos h, if_pos h]; rfl
    · rw [if_neg h, if_neg h]
theorem kp_len (l : AR_) : (kp l).length ≤ l.length := by
  induction l with
  | nil => exact Nat.le_refl _
  | cons x l ih =>
    show (if x.2 = 0 then x.1 :: kp l else kp l).length ≤ l.length + 1
    by_cases h : x.2 = 0
    · rw [if_pos h, List.length_cons]; omega
    · rw [if_neg h]; omega
theorem kp_mem {l : AR_} {a : At} (h : a ∈ kp l) : (a, (0 : Int32)) ∈ l := by
  induction l with
  | nil => cases h
  | cons x l ih =>
    have h' : a ∈ (if x.2 = 0 then x.1 :: kp l else kp l) := h
    by_cases hx : x.2 = 0
    · rw [if_pos hx] at h'
      rcases List.mem_cons.mp h' with g | g
      · have : x = (a, 0) := Prod.ext g.symm hx
        rw [this]; exact List.mem_cons_self
      · exact List.mem_cons_of_mem _ (ih g)
    · rw [if_neg hx] at h'
      exact List.mem_cons_of_mem _ (ih h')
theorem kp_in {l : AR_} {x : At × Int32} (h : x ∈ l) (hx : x.2 = 0) : x.1 ∈ kp l := by
  induction l with
  | nil => cases h
  | cons y l ih =>
    show x.1 ∈ (if y.2 = 0 then y.1 :: kp l else kp l)
    rcases List.mem_cons.mp h with g | g
    · subst g; rw [if_pos hx]; exact List.mem_cons_self
    · by_cases hy : y.2 = 0
      · rw [if_pos hy]; exact List.mem_cons_of_mem _ (ih g)
      · rw [if_neg hy]; exact ih g
def AM (ac : Nat) (TL : List Tk) (ck : Int32) (cs ce : Nat) (cm : Int32) (AR : AR_) (M : SMo) : Prop := TM ac TL M ∧ q_Mo_textSize M = 0 ∧ q_Mo_kinds M TL.length = ck ∧ q_Mo_firsts M TL.length = nI cs ∧ q_Mo_sizes M TL.length = nI (ce - cs) ∧ q_Mo_marks M TL.length = cm ∧ q_Mo_attributes M TL.length = nI ac ∧ ∀ (j : Nat) (x : At × Int32), AR[j]? = some x → E4 M (ac + j) x.1 ∧ q_Mo_goes M (ac + j) = x.2
theorem E4_s {M M' : SMo} {k : Nat} {a : At} (h : E4 M k a) (e : SM M M') : E4 M' k a := by
  obtain ⟨e1, e2, e3, e4, e5, e6, e7, e8, e9, e10, e11, e12⟩ := e
  unfold E4
  rw [e8, e9, e10, e11]; exact h
theorem AM_s {ac : Nat} {TL : List Tk} {ck : Int32} {cs ce : Nat} {cm : Int32} {AR : AR_} {M M' : SMo} (h : AM ac TL ck cs ce cm AR M) (e : SM M M') (x : SX M M') : AM ac TL ck cs ce cm AR M' := by
  obtain ⟨h1, h2, h3, h4, h5, h6, h7, h8⟩ := h
  have e0 := e
  obtain ⟨e1, e2, e3, e4, e5, e6, e7, e8, e9, e10, e11, e12⟩ := e
  refine ⟨TM_s h1 e0, x.2.trans h2, ?_, ?_, ?_, ?_, ?_, fun j y hj => ⟨E4_s (h8 j y hj).1 e0, ?_⟩⟩
  · rw [e1]; exact h3
  · rw [e2]; exact h4
  · rw [e3]; exact h5
  · rw [e4]; exact h6
  · rw [e5]; exact h7
  · rw [e12]; exact (h8 j y hj).2
/-- what the laying together of attributes leaves as it was -/
def FR (M M' : SMo) : Prop := q_Mo_kinds M' = q_Mo_kinds M ∧ q_Mo_firsts M' = q_Mo_firsts M ∧ q_Mo_sizes M' = q_Mo_sizes M ∧ q_Mo_marks M' = q_Mo_marks M ∧ q_Mo_attributes M' = q_Mo_attributes M ∧ q_Mo_manyOf M' = q_Mo_manyOf M ∧ q_Mo_attributeCount M' = q_Mo_attributeCount M ∧ q_Mo_textSize M' = q_Mo_textSize M
theorem FR.rf (M : SMo) : FR M M := ⟨rfl, rfl, rfl, rfl, rfl, rfl, rfl, rfl⟩
theorem FR.trans {M M1 M2 : SMo} (h : FR M M1) (g : FR M1 M2) : FR M M2 := by
  obtain ⟨h1, h2, h3, h4, h5, h6, h7, h8⟩ := h
  obtain ⟨g1, g2, g3, g4, g5, g6, g7, g8⟩ := g
  exact ⟨g1.trans h1, g2.trans h2, g3.trans h3, g4.trans h4, g5.trans h5, g6.trans h6, g7.trans h7, g8.trans h8⟩
theorem fin_loop {n : Nat} {C : Nat → Int32} {p : Nat} {fl : Fl} {row : List Int32} {TL : List Tk} {ac : Nat} : ∀ (rest : AR_) (K : List At) (i f : Nat) (M : SMo), rest.length < f → K.length ≤ i → ac + i + rest.length ≤ 401 → BM n C p fl row TL M → TM ac TL M → q_Mo_attributeCount M = nI (ac + i + rest.length) → (∀ (j : Nat) (a : At), K[j]? = some a → E4 M (ac + j) a) → (∀ (j : Nat) (x : At × Int32), rest[j]? = some x → E4 M (ac + i + j) x.1 ∧ q_Mo_goes M (ac + i + j) = x.2) → ∃ M' f', f_Mo_finish_14 f (nI ac) (nI (ac + K.length)) (nI (ac + i)) M = f_Mo_finish_14 (f' + 1) (nI ac) (nI (ac + (K ++ kp rest).length)) (nI (ac + i + rest.length)) M' ∧ BM n C p fl row TL M' ∧ TM ac TL M' ∧ EF M M' ∧ EE M M' ∧ FR M M' ∧ (∀ (j : Nat) (a : At), (K ++ kp rest)[j]? = some a → E4 M' (ac + j) a) := by
  intro rest
  induction rest with
  | nil =>
    intro K i f M hf hK hb hB hT hac hKs hR
    obtain ⟨f, rfl⟩ : ∃ q, f = q + 1 := ⟨f - 1, by omega⟩
    refine ⟨M, f, ?_, hB, hT, EF.rf M, rfl, FR.rf M, ?_⟩
    · rw [show K ++ kp [] = K from List.append_nil K]; rfl
    · rw [show K ++ kp [] = K from List.append_nil K]; exact hKs
  | cons x rest ih =>
    intro K i f M hf hK hb hB hT hac hKs hR
    obtain ⟨f, rfl⟩ : ∃ q, f = q + 1 := ⟨f - 1, by omega⟩
    rw [List.length_cons] at hf hb hac
    obtain ⟨r1, r2⟩ := hR 0 x rfl
    rw [Nat.add_zero] at r1 r2
    have y1 : ix (nI (ac + i)) 402 := ixI (by omega) (by decide)
    have y2 : ix (nI (ac + K.length)) 402 := ixI (by omega) (by decide)
    have hle : ¬ q_Mo_attributeCount M ≤ nI (ac + i) := by rw [hac]; exact nI_ge (by omega) (by omega)
    have c1 : (nI (ac + i)).toNatClampNeg = ac + i := nI_clamp (by omega)
    have c2 : (nI (ac + K.length)).toNatClampNeg = ac + K.length := nI_clamp (by omega)
    rw [f_Mo_finish_14, if_neg hle]
    simp only [if_pos y1, if_pos y2, c1, c2, r2]
    have hlen : ac + i + (x :: rest).length = ac + (i + 1) + rest.length := by rw [List.length_cons]; omega
    rw [hlen]
    by_cases hx : x.2 = 0
    · rw [if_pos hx]
      obtain ⟨M1, e1, b1, b2, b3, b4, b5, b6, b7, b8, b9⟩ : ∃ M1, u_Mo_nameAt_nameSize_valueAt_valueSize M (upd (q_Mo_nameAt M) (ac + K.length) (q_Mo_nameAt M (ac + i))) (upd (q_Mo_nameSize M) (ac + K.length) (q_Mo_nameSize M (ac + i))) (upd (q_Mo_valueAt M) (ac + K.length) (q_Mo_valueAt M (ac + i))) (upd (q_Mo_valueSize M) (ac + K.length) (q_Mo_valueSize M (ac + i))) = M1 ∧ BM n C p fl row TL M1 ∧ EF M M1 ∧ EE M M1 ∧ FR M M1 ∧ q_Mo_goes M1 = q_Mo_goes M ∧ q_Mo_nameAt M1 = upd (q_Mo_nameAt M) (ac + K.length) (q_Mo_nameAt M (ac + i)) ∧ q_Mo_nameSize M1 = upd (q_Mo_nameSize M) (ac + K.length) (q_Mo_nameSize M (ac + i)) ∧ q_Mo_valueAt M1 = upd (q_Mo_valueAt M) (ac + K.length) (q_Mo_valueAt M (ac + i)) ∧ q_Mo_valueSize M1 = upd (q_Mo_valueSize M) (ac + K.length) (q_Mo_valueSize M (ac + i)) := ⟨_, rfl, hB, EF.rf M, rfl, FR.rf M, rfl, rfl, rfl, rfl, rfl⟩
      rw [e1, nI_1, nI_1]
      have hne : ∀ (k : Nat) (a : At), k ≠ ac + K.length → E4 M k a → E4 M1 k a := by
        intro k a hk h
        unfold E4
        rw [b6, b7, b8, b9, upd_ne _ _ hk, upd_ne _ _ hk, upd_ne _ _ hk, upd_ne _ _ hk]
        exact h
      have hsm : E4 M1 (ac + K.length) x.1 := by
        unfold E4
        rw [b6, b7, b8, b9, upd_same, upd_same, upd_same, upd_same]
        exact r1
      have hT1 : TM ac TL M1 := by
        refine TM_at (Nat.le_refl _) hT (fun j _ => ?_) (fun j hj => ?_)
        · rw [b4.1, b4.2.1, b4.2.2.1, b4.2.2.2.1, b4.2.2.2.2.1, b4.2.2.2.2.2.1]
          exact ⟨rfl, rfl, rfl, rfl, rfl, rfl⟩
        · rw [b6, b7, b8, b9, upd_ne _ _ (by omega), upd_ne _ _ (by omega), upd_ne _ _ (by omega), upd_ne _ _ (by omega)]
          exact ⟨rfl, rfl, rfl, rfl⟩
      obtain ⟨M', f', e2, d1, d2, d3, d4, d5, d6⟩ := ih (K ++ [x.1]) (i + 1) f M1 (by omega) (by rw [lenS]; omega) (by omega) b1 hT1 (by rw [b4.2.2.2.2.2.2.1, hac, show ac + i + (rest.length + 1) = ac + (i + 1) + rest.length by omega]) (fun j a hj => by
        rcases getApp hj with ⟨hk, hx⟩ | ⟨rfl, rfl⟩
        · exact hne _ _ (by omega) (hKs j a hx)
        · exact hsm) (fun j y hj => by
        have := hR (j + 1) y hj
        rw [show ac + i + (j + 1) = ac + (i + 1) + j by omega] at this
        exact ⟨hne _ _ (by omega) this.1, by rw [b5]; exact this.2⟩)
      have hk2 : K ++ kp (x :: rest) = K ++ [x.1] ++ kp rest := by
        show K ++ (if x.2 = 0 then x.1 :: kp rest else kp rest) = _
        rw [if_pos hx, List.append_assoc]; rfl
      refine ⟨M', f', ?_, d1, d2, b2.trans d3, b3.trans d4, b4.trans d5, by rw [hk2]; exact d6⟩
      rw [hk2, ← e2, lenS]
      rfl
    · rw [if_neg hx, nI_1]
      obtain ⟨M', f', e2, d⟩ := ih K (i + 1) f M (by omega) (by omega) (by omega) hB hT (by rw [hac, show ac + i + (rest.length + 1) = ac + (i + 1) + rest.length by omega]) hKs (fun j y hj => by
        have := hR (j + 1) y hj
        rw [show ac + i + (j + 1) = ac + (i + 1) + j by omega] at this
        exact this)
      have hk2 : K ++ kp (x :: rest) = K ++ kp rest := by
        show K ++ (if x.2 = 0 then x.1 :: kp rest else kp rest) = _
        rw [if_neg hx]
      rw [hk2]
      exact ⟨M', f', e2, d⟩
theorem TM_mono {ac ac' : Nat} {TL : List Tk} {M : SMo} (h : TM ac TL M) (hl : ac ≤ ac') : TM ac' TL M := by
  intro i tk hi
  obtain ⟨c1, c2, c3, c4, c5, fa, c6, c7, c8⟩ := h i tk hi
  exact ⟨c1, c2, c3, c4, c5, fa, c6, Nat.le_trans c7 hl, c8⟩
/-- how a stop tag is told -/
theorem fin_stop {n : Nat} {C : Nat → Int32} {p : Nat} {fl : Fl} {row : List Int32} {TL : List Tk} {ac : Nat} {cs ce : Nat} {M : SMo} (mo : Nat → Int32) (hB : BM n C p fl row TL M) (hT : TM ac TL M) (hx : q_Mo_textSize M = 0) (h3 : q_Mo_kinds M TL.length = 2) (h4 : q_Mo_firsts M TL.length = nI cs) (h5 : q_Mo_sizes M TL.length = nI (ce - cs)) (h7 : q_Mo_attributes M TL.length = nI ac) (hmo : ∀ i, i < TL.length → mo i = q_Mo_manyOf M i) : ∃ M', u_Mo_p_tokens_marks_manyOf_attributeCount M (q_Mo_p M + 1) (q_Mo_tokens M + 1) (upd (q_Mo_marks M) TL.length (vp_nar .boolean 0)) (upd mo TL.length 0) (nI ac) = M' ∧ BM n C (p + 1) fl row (TL ++ [(2, cs, ce, 0, [])]) M' ∧ EF M M' ∧ EE M M' ∧ MM0 ac row.length (TL ++ [(2, cs, ce, 0, [])]) none M' := by
  obtain ⟨h1, h2, hp, hf, hfs, h6, h8, h9⟩ := hB
  refine ⟨_, rfl, ⟨h1, h2, ?_, hf, hfs, h6, h8, ?_⟩, EF.rf M, rfl, ?_, rfl, Or.inl ⟨rfl, hx⟩⟩
  · show q_Mo_p M + 1 = nI (p + 1)
    rw [hp, nI_1]
  · show q_Mo_tokens M + 1 = nI (TL ++ [_]).length
    rw [h9, nI_1, lenS]
  · refine TM_snoc (TM_at (Nat.le_refl _) hT (fun i hi => ⟨rfl, rfl, rfl, upd_ne _ _ (Nat.ne_of_lt hi), ?_, rfl⟩) (fun j hj => ⟨rfl, rfl, rfl, rfl⟩)) ⟨h3, h4, h5, upd_same _ _ _, upd_same _ _ _, ac, h7, Nat.le_refl _, fun j a h => by simp at h⟩
    exact (upd_ne _ _ (Nat.ne_of_lt hi)).trans (hmo i hi)
theorem m_finish {n : Nat} {C : Nat → Int32} {p : Nat} {fl : Fl} {row : List Int32} {TL : List Tk} {ac : Nat} {ck : Int32} {cs ce : Nat} {cm : Int32} {AR : AR_} {M : SMo} (hck : ck = 1 ∨ ck = 2) (hB : BM n C p fl row TL M) (hA : AM ac TL ck cs ce cm AR M) (hac : q_Mo_attributeCount M = nI (ac + AR.length)) (hb : ac + AR.length ≤ 401) (ht : TL.length < 402) (hf : fl.length + 2 < 1200) : ∃ M', f_Mo_finish M = some M' ∧ BM n C (p + 1) (tFl ck (kp AR) cm p fl) row (TL ++ [dTk ck cs ce cm (kp AR)]) M' ∧ EF M M' ∧ EE M M' ∧ MM0 (if ck = 2 then ac else ac + (kp AR).length) row.length (TL ++ [dTk ck cs ce cm (kp AR)]) none M' := by
  obtain ⟨a1, a2, a3, a4, a5, a6, a7, a8⟩ := hA
  have x1 : ix (nI TL.length) 402 := ixI ht (by decide)
  have c1 : (nI TL.length).toNatClampNeg = TL.length := nI_clamp (by omega)
  have hkl := kp_len AR
  obtain ⟨M1, f', e1, b1, b2, b3, b4, b5, b6⟩ := fin_loop (n := n) (C := C) (p := p) (fl := fl) (row := row) (TL := TL) (ac := ac) AR [] 0 FU M (by unfold FU; omega) (Nat.le_refl _) (by omega) hB a1 (by rw [hac]; rfl) (fun j a h => by simp at h) a8
  rw [show ([] : List At) ++ kp AR = kp AR from rfl] at e1 b6
  unfold f_Mo_finish
  rw [hB.2.2.2.2.2.2.2, if_pos x1, c1, a7]
  rw [show nI ac = nI (ac + ([] : List At).length) from rfl] at e1
  have e1' : f_Mo_finish_14 FU (nI ac) (nI ac) (nI ac) M = f_Mo_finish_14 (f' + 1) (nI ac) (nI (ac + (kp AR).length)) (nI (ac + 0 + AR.length)) M1 := e1
  obtain ⟨g1, g2, g3, g4, g5, g6, g7, g8⟩ := b5
  have hle : q_Mo_attributeCount M1 ≤ nI (ac + 0 + AR.length) := by rw [g7, hac]; exact nI_le (by omega) (by omega)
  have k3 : q_Mo_kinds M1 TL.length = ck := by rw [g1]; exact a3
  have k4 : q_Mo_firsts M1 TL.length = nI cs := by rw [g2]; exact a4
  have k5 : q_Mo_sizes M1 TL.length = nI (ce - cs) := by rw [g3]; exact a5
  have k6 : q_Mo_marks M1 TL.length = cm := by rw [g4]; exact a6
  have k7 : q_Mo_attributes M1 TL.length = nI ac := by rw [g5]; exact a7
  have k2 : q_Mo_textSize M1 = 0 := g8.trans a2
  have hsub : nI (ac + (kp AR).length) - nI ac = nI (kp AR).length := by rw [nI_sub (by omega)]; congr 1; omega
  rw [e1', f_Mo_finish_14, if_pos hle, b1.2.2.2.2.2.2.2]
  simp only [if_pos x1, c1, k3, k6, hsub]
  rcases hck with rfl | rfl
  · rw [if_neg (show ¬ (1 : Int32) = 2 by decide), if_neg (show ¬ (1 : Int32) = 2 by decide)]
    rw [show dTk 1 cs ce cm (kp AR) = (1, cs, ce, cm, kp AR) from if_neg (by decide), show tFl 1 (kp AR) cm p fl = fl from if_neg (by decide)]
    obtain ⟨h1, h2, hp, hf, hfs, h6, h8, h9⟩ := b1
    refine ⟨_, rfl, ⟨h1, h2, ?_, hf, hfs, h6, h8, ?_⟩, b3, b4, ?_, rfl, Or.inl ⟨rfl, k2⟩⟩
    · show q_Mo_p M1 + 1 = nI (p + 1)
      rw [hp, nI_1]
    · show nI TL.length + 1 = nI (TL ++ [_]).length
      rw [nI_1, lenS]
    · exact TM_snoc (TM_at (Nat.le_refl _) (TM_mono b2 (Nat.le_add_right _ _)) (fun i hi => ⟨rfl, rfl, rfl, rfl, upd_ne _ _ (Nat.ne_of_lt hi), rfl⟩) (fun j hj => ⟨rfl, rfl, rfl, rfl⟩)) ⟨k3, k4, k5, k6, upd_same _ _ _, ac, k7, Nat.le_refl _, b6⟩
  · rw [if_pos (show (2 : Int32) = 2 from rfl), if_pos (show (2 : Int32) = 2 from rfl), show dTk 2 cs ce cm (kp AR) = (2, cs, ce, 0, []) from if_pos rfl]
    unfold tFl
    rw [if_pos rfl]
    have hmo : ∀ v : Int32, ∀ i, i < TL.length → upd (q_Mo_manyOf M1) TL.length v i = q_Mo_manyOf M1 i := fun v i hi => upd_ne _ _ (Nat.ne_of_lt hi)
    obtain ⟨M2, e2, d1, d2, d3, d4, d5, d6, d7, d8, d9, d10, d11⟩ : ∃ M2, u_Mo_manyOf_attributeCount M1 (upd (q_Mo_manyOf M1) TL.length (nI (kp AR).length)) (nI (ac + (kp AR).length)) = M2 ∧ BM n C p fl row TL M2 ∧ TM ac TL M2 ∧ EF M1 M2 ∧ EE M1 M2 ∧ q_Mo_textSize M2 = 0 ∧ q_Mo_kinds M2 TL.length = 2 ∧ q_Mo_firsts M2 TL.length = nI cs ∧ q_Mo_sizes M2 TL.length = nI (ce - cs) ∧ q_Mo_marks M2 TL.length = cm ∧ q_Mo_attributes M2 TL.length = nI ac ∧ q_Mo_p M2 = nI p := by
      refine ⟨_, rfl, b1, ?_, EF.rf M1, rfl, k2, k3, k4, k5, k6, k7, b1.2.2.1⟩
      exact TM_at (Nat.le_refl _) b2 (fun i hi => ⟨rfl, rfl, rfl, rfl, upd_ne _ _ (Nat.ne_of_lt hi), rfl⟩) (fun j hj => ⟨rfl, rfl, rfl, rfl⟩)
    -- the end, behind the faults
    have fin : ∀ (fx : Fl) (Mx : SMo), BM n C p fx row TL Mx → TM ac TL Mx → EF M1 Mx → EE M1 Mx → q_Mo_textSize Mx = 0 → q_Mo_kinds Mx TL.length = 2 → q_Mo_firsts Mx TL.length = nI cs → q_Mo_sizes Mx TL.length = nI (ce - cs) → q_Mo_attributes Mx TL.length = nI ac → ∀ mo : Nat → Int32, (∀ i, i < TL.length → mo i = q_Mo_manyOf Mx i) → ∃ M', some (u_Mo_p_tokens_marks_manyOf_attributeCount Mx (q_Mo_p Mx + 1) (q_Mo_tokens Mx + 1) (upd (q_Mo_marks Mx) TL.length (vp_nar .boolean 0)) (upd mo TL.length 0) (nI ac)) = some M' ∧ BM n C (p + 1) fx row (TL ++ [(2, cs, ce, 0, [])]) M' ∧ EF M M' ∧ EE M M' ∧ MM0 ac row.length (TL ++ [(2, cs, ce, 0, [])]) none M' := by
      intro fx Mx y1 y2 y3 y4 y5 y6 y7 y8 y9 mo hmo
      obtain ⟨M', z1, z2, z3, z4, z5⟩ := fin_stop mo y1 y2 y5 y6 y7 y8 y9 hmo
      exact ⟨M', by rw [z1], z2, b3.trans (y3.trans z3), b4.trans (y4.trans z4), z5⟩
    have tk1 : nI TL.length + 1 = q_Mo_tokens M1 + 1 := by rw [b1.2.2.2.2.2.2.2]
    rw [tk1, e2]
    by_cases hk : (kp AR).length = 0
    · rw [if_pos (show nI (ac + (kp AR).length) ≤ nI ac from nI_le (by omega) (by omega)), if_pos hk]
      by_cases hm : cm = 0
      · rw [if_pos hm, if_pos hm]
        exact fin fl M1 b1 b2 (EF.rf M1) rfl k2 k3 k4 k5 k7 _ (hmo _)
      · rw [if_neg hm, if_neg hm]
        obtain ⟨M3, w1, w2, w3, w4, w5, w6⟩ := m_wrong d1 15 p (by omega)
        rw [b1.2.2.1, w1, Option.bind_some, w2.2.2.2.2.2.2.2]
        simp only [if_pos x1, c1]
        have tk3 : nI TL.length + 1 = q_Mo_tokens M3 + 1 := by rw [w2.2.2.2.2.2.2.2]
        rw [tk3]
        obtain ⟨s1, s2, s3, s4, s5, s6, s7, s8⟩ := id w5
        exact fin _ M3 w2 (TM_s d2 w5) (d3.trans w3) (d4.trans w4) (w6.2.trans d5) (by rw [s1]; exact d6) (by rw [s2]; exact d7) (by rw [s3]; exact d8) (by rw [s5]; exact d10) _ (fun i hi => rfl)
    · rw [if_neg (show ¬ nI (ac + (kp AR).length) ≤ nI ac from nI_ge (by omega) (by omega)), if_neg hk]
      obtain ⟨M3, w1, w2, w3, w4, w5, w6⟩ := m_wrong d1 14 p (by omega)
      rw [b1.2.2.1, w1, Option.bind_some, w2.2.2.2.2.2.2.2]
      obtain ⟨s1, s2, s3, s4, s5, s6, s7, s8⟩ := id w5
      have m3 : q_Mo_marks M3 TL.length = cm := by rw [s4]; exact d9
      simp only [if_pos x1, c1, m3]
      have tk3 : nI TL.length + 1 = q_Mo_tokens M3 + 1 := by rw [w2.2.2.2.2.2.2.2]
      by_cases hm : cm = 0
      · rw [if_pos hm, if_pos hm, tk3]
        exact fin _ M3 w2 (TM_s d2 w5) (d3.trans w3) (d4.trans w4) (w6.2.trans d5) (by rw [s1]; exact d6) (by rw [s2]; exact d7) (by rw [s3]; exact d8) (by rw [s5]; exact d10) _ (fun i hi => rfl)
      · rw [if_neg hm, if_neg hm]
        obtain ⟨M4, v1, v2, v3, v4, v5, v6⟩ := m_wrong w2 15 p (by rw [lenS]; omega)
        rw [w2.2.2.1, v1, Option.bind_some, v2.2.2.2.2.2.2.2]
        simp only [if_pos x1, c1]
        have tk4 : nI TL.length + 1 = q_Mo_tokens M4 + 1 := by rw [v2.2.2.2.2.2.2.2]
        rw [tk4]
        obtain ⟨u1, u2, u3, u4, u5, u6, u7, u8⟩ := id v5
        exact fin _ M4 v2 (TM_s (TM_s d2 w5) v5) (d3.trans (w3.trans v3)) (d4.trans (w4.trans v4)) (v6.2.trans (w6.2.trans d5)) (by rw [u1, s1]; exact d6) (by rw [u2, s2]; exact d7) (by rw [u3, s3]; exact d8) (by rw [u5, s5]; exact d10) _ (fun i hi => rfl)
