/-- the bounds at the head of a tag's walk -/
def TI (n p : Nat) (fl : Fl) (row : List Int32) (TL : List Tk) (cs ce au ac : Nat) (AR : AR_) : Prop := p ≤ n ∧ row.length + 1 ≤ p ∧ TL.length + 1 ≤ p ∧ fl.length + 2 ≤ 2 * p ∧ cs ≤ ce ∧ ce ≤ row.length ∧ au + AR.length + 1 ≤ p ∧ ac + AR.length + 1 ≤ p ∧ (∀ tk ∈ TL, TkV row.length tk) ∧ (∀ x ∈ row, ∃ c : Nat, c ≤ 1114111 ∧ x = nI c) ∧ (∀ x ∈ AR, x.1.1 ≤ x.1.2.1 ∧ x.1.2.1 ≤ x.1.2.2 ∧ x.1.2.2 ≤ row.length ∧ (x.2 = 0 ∨ x.2 = 1)) ∧ DUP row AR ∧ (wOut (rw row) TL).length + 3 + (ce - cs) + ((kp AR).flatMap (attOut (rw row))).length ≤ 8 * p
def HC (au : Nat) (TL : List Tk) (ck : Int32) (cs ce : Nat) (cm : Int32) (AR : AR_) (u : Nat) (t : STokens) : Prop := ∃ AL pn, AC au TL ck cs ce cm AL t ∧ PN au AL pn t ∧ kp AR = AL ++ pl pn u
def HD (n : Nat) (C : Nat → Int32) (p : Nat) (fl : Fl) (row : List Int32) (TL : List Tk) (au ac : Nat) (ck : Int32) (cs ce : Nat) (AR : AR_) (src : SSource) (t : STokens) (M : SMo) : Prop := BS n C p fl src ∧ BT row TL t ∧ HC au TL ck cs ce 0 AR row.length t ∧ BM n C p fl row TL M ∧ AM ac TL ck cs ce 0 AR M ∧ q_Mo_attributeCount M = nI (ac + AR.length) ∧ q_Mo_ended M = 0 ∧ RCon M ∧ TI n p fl row TL cs ce au ac AR
/-- what the class does at the head, whichever way it came by -/
def ENT (w : Nat) (c : Int32) (s : CS) (t : STokens) : Prop :=
  (¬ f_Mt_isBlank c = 0 → Reach 1 w s 8 (s.1, s.2.1, (f_Source_then 8 s.2.2.1).2, s.2.2.2.1, t)) ∧
  ((c = -1 ∨ c = 47 ∨ c = 62) → ∃ k, k ≤ 2 ∧ ∀ w' src' t', f_TagWays_leave c s.2.2.1 t = some (w', src', t') → Reach k w s w' (s.1, s.2.1, src', s.2.2.2.1, t')) ∧
  (f_Mt_isBlank c = 0 → ¬ (c = -1 ∨ c = 47 ∨ c = 62) → ¬ c = 61 → ∀ t', f_Tokens_beginAttribute t = some t' → Reach 1 w s 9 (s.1, s.2.1, s.2.2.1, s.2.2.2.1, t')) ∧
  (c = 61 → ∀ t' src' t'', f_Tokens_beginAttribute t = some t' → f_Source_wrong 7 s.2.2.1 = some src' → f_Tokens_add 61 t' = some t'' → Reach 1 w s 9 (s.1, s.2.1, (f_Source_then 9 src').2, s.2.2.2.1, t''))
def NXT (n : Nat) (C : Nat → Int32) (TL : List Tk) (au ac : Nat) (ck : Int32) (cs ce : Nat) (M0 : SMo) (p p0 kb : Nat) (w : Nat) (s : CS) (M' : SMo) : Prop := EF M0 M' ∧ ∃ (k q : Nat) (fl : Fl) (row : List Int32) (AR : AR_) (w' : Nat) (s' : CS) (t' : STokens), Reach k w s w' s' ∧ k + kb ≤ 10 * (q - p0) ∧ p < q ∧ HD n C q fl row TL au ac ck cs ce AR s'.2.2.1 t' M' ∧ ENT w' (C q) s' t'
def RES (n : Nat) (C : Nat → Int32) (TL : List Tk) (au ac : Nat) (ck : Int32) (cs ce : Nat) (M0 : SMo) (p p0 kb : Nat) (w : Nat) (s : CS) (x : Int32) (M' : SMo) : Prop := (x = 0 ∧ OUT n C M0 p0 kb w s M') ∨ (x = 1 ∧ NXT n C TL au ac ck cs ce M0 p p0 kb w s M')
theorem RES_pre {n : Nat} {C : Nat → Int32} {TL : List Tk} {au ac : Nat} {ck : Int32} {cs ce : Nat} {M0 : SMo} {p p0 kb k1 w0 w : Nat} {s0 s : CS} {x : Int32} {M' : SMo} (hr : Reach k1 w0 s0 w s) (h : RES n C TL au ac ck cs ce M0 p p0 (kb + k1) w s x M') : RES n C TL au ac ck cs ce M0 p p0 kb w0 s0 x M' := by
  rcases h with ⟨h1, h2⟩ | ⟨h1, h2, k, q, fl, row, AR, w', s', t', g1, g2, g3⟩
  · exact Or.inl ⟨h1, OUT_pre hr h2⟩
  · exact Or.inr ⟨h1, h2, k1 + k, q, fl, row, AR, w', s', t', hr.trans g1, by omega, g3⟩
theorem RES_EF {n : Nat} {C : Nat → Int32} {TL : List Tk} {au ac : Nat} {ck : Int32} {cs ce : Nat} {M0 M : SMo} {p p0 kb w : Nat} {s : CS} {x : Int32} {M' : SMo} (he : EF M0 M) (h : RES n C TL au ac ck cs ce M p p0 kb w s x M') : RES n C TL au ac ck cs ce M0 p p0 kb w s x M' := by
  rcases h with ⟨h1, h2⟩ | ⟨h1, h2, h3⟩
  · exact Or.inl ⟨h1, OUT_EF he h2⟩
  · exact Or.inr ⟨h1, he.trans h2, h3⟩
theorem RES_p {n : Nat} {C : Nat → Int32} {TL : List Tk} {au ac : Nat} {ck : Int32} {cs ce : Nat} {M : SMo} {p p' p0 kb w : Nat} {s : CS} {x : Int32} {M' : SMo} (hp : p ≤ p') (h : RES n C TL au ac ck cs ce M p' p0 kb w s x M') : RES n C TL au ac ck cs ce M p p0 kb w s x M' := by
  rcases h with ⟨h1, h2⟩ | ⟨h1, h2, k, q, fl, row, AR, w', s', t', g1, g2, g3, g4⟩
  · exact Or.inl ⟨h1, h2⟩
  · exact Or.inr ⟨h1, h2, k, q, fl, row, AR, w', s', t', g1, g2, by omega, g4⟩
theorem slice_at (a b : List Int32) : slice (rw (a ++ b)) a.length (a ++ b).length = b := by
  apply List.ext_getElem?
  intro k
  by_cases h : k < b.length
  · have hl : (a ++ b).length - a.length = b.length := by rw [List.length_append]; omega
    unfold slice
    rw [hl, List.getElem?_map, List.getElem?_range h, Option.map_some]
    have := rw_get (row := a ++ b) (k := a.length + k) (by rw [List.length_append]; omega)
    rw [← this, List.getElem?_append_right (by omega)]
    congr 1
    omega
  · rw [show b[k]? = none from List.getElem?_eq_none (by omega)]
    exact List.getElem?_eq_none (by rw [slice_len, List.length_append]; omega)
theorem att_rw {row : List Int32} (l : List Int32) {a : At} (h1 : a.1 ≤ a.2.1) (h2 : a.2.1 ≤ a.2.2) (h3 : a.2.2 ≤ row.length) : attOut (rw (row ++ l)) a = attOut (rw row) a := by
  unfold attOut
  rw [slice_congr (ρ := rw (row ++ l)) (ρ' := rw row) (a := a.1) (b := a.2.1) (fun k _ hk => rw_app (by omega)), slice_congr (ρ := rw (row ++ l)) (ρ' := rw row) (a := a.2.1) (b := a.2.2) (fun k _ hk => rw_app (by omega))]
theorem att_len (ρ : Nat → Int32) (a : At) : (attOut ρ a).length = 4 + (a.2.1 - a.1) + ((slice ρ a.2.1 a.2.2).flatMap encV).length := by
  unfold attOut
  simp only [List.length_append, List.length_map, slice_len, List.length_cons, List.length_nil]
  omega
theorem TI_attr {n p q r : Nat} {fl fl' : Fl} {row l v : List Int32} {TL : List Tk} {cs ce au ac : Nat} {AR : AR_} {g : Int32} (h : TI n p fl row TL cs ce au ac AR) (hpq : p < q) (hqr : q ≤ r) (hr : r ≤ n) (hl : l.length ≤ q - p) (hv : v.length ≤ r - q) (hvc : (v.flatMap encV).length ≤ 8 * (r - q)) (hlm : ∀ x ∈ l, ∃ c : Nat, c ≤ 1114111 ∧ x = nI c) (hvm : ∀ x ∈ v, ∃ c : Nat, c ≤ 1114111 ∧ x = nI c) (hf : fl'.length + 2 ≤ 2 * r) (hg : g = 0 ∨ g = 1) (hd : g = 1 → ∃ b ∈ kp AR, nm (row ++ l) b = nm (row ++ l) (row.length, (row ++ l).length, 0)) : TI n r fl' (row ++ l ++ v) TL cs ce au ac (AR ++ [((row.length, (row ++ l).length, (row ++ l ++ v).length), g)]) := by
  obtain ⟨i1, i2, i3, i4, i5, i6, i7, i8, i9, i10, i11, i12, i13⟩ := h
  have hL : (row ++ l ++ v).length = row.length + l.length + v.length := by rw [List.length_append, List.length_append]
  have hL2 : (row ++ l).length = row.length + l.length := List.length_append
  have hV : ∀ x ∈ AR, x.1.2.1 ≤ row.length := fun x hx => by have := i11 x hx; omega
  refine ⟨hr, by omega, by omega, hf, i5, by omega, by rw [lenS]; omega, by rw [lenS]; omega, fun tk ht => TkV_mono (i9 tk ht) (by omega), ?_, ?_, ?_, ?_⟩
  · intro x hx
    rcases List.mem_append.mp hx with hx | hx
    · rcases List.mem_append.mp hx with hx | hx
      · exact i10 x hx
      · exact hlm x hx
    · exact hvm x hx
  · intro x hx
    rcases List.mem_append.mp hx with hx | hx
    · have := i11 x hx
      exact ⟨this.1, this.2.1, by omega, this.2.2.2⟩
    · rw [List.mem_singleton.mp hx]
      refine ⟨?_, ?_, Nat.le_refl _, hg⟩
      · show row.length ≤ (row ++ l).length; omega
      · show (row ++ l).length ≤ (row ++ l ++ v).length; omega
  · have d1 := dup_app (dup_app i12 l hV) v (fun x hx => by have := hV x hx; omega)
    refine dup_snoc d1 (fun h1 => ?_)
    obtain ⟨b, b1, b2⟩ := hd h1
    refine ⟨b, b1, ?_⟩
    have hb : b.2.1 ≤ row.length := hV _ (kp_mem b1)
    rw [nm_app v (by omega), b2]
    exact (nm_app v (Nat.le_refl _)).symm
  · have e1 : wOut (rw (row ++ l ++ v)) TL = wOut (rw row) TL := by rw [List.append_assoc]; exact wOut_rw i9
    have e2 : (kp AR).flatMap (attOut (rw (row ++ l ++ v))) = (kp AR).flatMap (attOut (rw row)) := by
      apply fm_congr
      intro a ha
      have := i11 _ (kp_mem ha)
      rw [List.append_assoc]
      exact att_rw _ this.1 this.2.1 this.2.2.1
    have e3 := att_len (rw (row ++ l ++ v)) (row.length, (row ++ l).length, (row ++ l ++ v).length)
    have e4 : slice (rw (row ++ l ++ v)) (row ++ l).length (row ++ l ++ v).length = v := slice_at _ _
    have e5 : (attOut (rw (row ++ l ++ v)) (row.length, (row ++ l).length, (row ++ l ++ v).length)).length = 4 + ((row ++ l).length - row.length) + (v.flatMap encV).length := by
      rw [e3]
      show 4 + ((row ++ l).length - row.length) + ((slice (rw (row ++ l ++ v)) (row ++ l).length (row ++ l ++ v).length).flatMap encV).length = _
      rw [e4]
    rw [e1, kp_snoc, List.flatMap_append, List.length_append, e2]
    have e6 : ((if g = 0 then [(row.length, (row ++ l).length, (row ++ l ++ v).length)] else []).flatMap (attOut (rw (row ++ l ++ v)))).length ≤ 4 + ((row ++ l).length - row.length) + (v.flatMap encV).length := by
      by_cases h0 : g = 0
      · rw [if_pos h0, List.flatMap_singleton, e5]; omega
      · rw [if_neg h0]; show 0 ≤ _; omega
    omega
theorem tFl_len (ck : Int32) (K : List At) (cm : Int32) (p : Nat) (fl : Fl) : fl.length ≤ (tFl ck K cm p fl).length ∧ (tFl ck K cm p fl).length ≤ fl.length + 2 := by
  unfold tFl
  repeat' split
  all_goals first
    | exact ⟨Nat.le_refl _, by omega⟩
    | (rw [lenS, lenS]; omega)
    | (rw [lenS]; omega)
theorem tag_len {ρ : Nat → Int32} {ck : Int32} (hck : ck = 1 ∨ ck = 2) (cs ce : Nat) (cm : Int32) (K : List At) : (tkOut ρ (dTk ck cs ce cm K)).length ≤ 3 + (ce - cs) + (K.flatMap (attOut ρ)).length := by
  rcases hck with rfl | rfl
  · rw [show dTk 1 cs ce cm K = (1, cs, ce, cm, K) from if_neg (by decide)]
    unfold tkOut
    rw [if_neg (show ¬ ((1 : Int32), cs, ce, cm, K).1 = 0 by show ¬ (1 : Int32) = 0; decide), if_neg (show ¬ ((1 : Int32), cs, ce, cm, K).1 = 3 by show ¬ (1 : Int32) = 3; decide), if_neg (show ¬ ((1 : Int32), cs, ce, cm, K).1 = 4 by show ¬ (1 : Int32) = 4; decide), if_neg (show ¬ ((1 : Int32), cs, ce, cm, K).1 = 2 by show ¬ (1 : Int32) = 2; decide)]
    simp only [List.length_append, List.length_map, slice_len, List.length_cons, List.length_nil]
    split <;> simp only [List.length_cons, List.length_nil] <;> omega
  · rw [show dTk 2 cs ce cm K = (2, cs, ce, 0, []) from if_pos rfl]
    unfold tkOut
    rw [if_neg (show ¬ ((2 : Int32), cs, ce, (0 : Int32), ([] : List At)).1 = 0 by show ¬ (2 : Int32) = 0; decide), if_neg (show ¬ ((2 : Int32), cs, ce, (0 : Int32), ([] : List At)).1 = 3 by show ¬ (2 : Int32) = 3; decide), if_neg (show ¬ ((2 : Int32), cs, ce, (0 : Int32), ([] : List At)).1 = 4 by show ¬ (2 : Int32) = 4; decide), if_pos rfl]
    simp only [List.length_append, List.length_map, slice_len, List.length_cons, List.length_nil, List.flatMap_nil, if_true]
    omega
theorem TI_done {n p : Nat} {fl : Fl} {row : List Int32} {TL : List Tk} {cs ce au ac : Nat} {AR : AR_} {ck cm : Int32} (h : TI n p fl row TL cs ce au ac AR) (hp : p < n) (hck : ck = 1 ∨ ck = 2) (hcm : cm = 0 ∨ cm = 1) : INV 0 n (p + 1) (tFl ck (kp AR) cm p fl) row (TL ++ [dTk ck cs ce cm (kp AR)]) none (au + (kp AR).length) (if ck = 2 then ac else ac + (kp AR).length) := by
  obtain ⟨i1, i2, i3, i4, i5, i6, i7, i8, i9, i10, i11, i12, i13⟩ := h
  have hk := kp_len AR
  have hf := tFl_len ck (kp AR) cm p fl
  refine ⟨by omega, by omega, ?_, by omega, (fun a h => by cases h), by omega, ?_, ?_, i10, ?_⟩
  · show (TL ++ [_]).length ≤ p + 1
    rw [lenS]; omega
  · split <;> omega
  · intro tk ht
    rcases List.mem_append.mp ht with ht | ht
    · exact i9 tk ht
    · rw [List.mem_singleton.mp ht]
      unfold dTk
      split
      · exact ⟨i5, i6, Or.inl rfl, fun a h => by cases h⟩
      · refine ⟨i5, i6, hcm, fun a ha => ?_⟩
        have := i11 _ (kp_mem ha)
        exact ⟨this.1, this.2.1, this.2.2.1⟩
  · show (wOut (rw row) (TL ++ [dTk ck cs ce cm (kp AR)])).length ≤ 8 * (p + 1)
    rw [wOut_snoc, List.length_append]
    have := tag_len (ρ := rw row) hck cs ce cm (kp AR)
    omega
theorem TI_drop {n : Nat} {fl : Fl} {row : List Int32} {TL : List Tk} {cs ce au ac : Nat} {AR : AR_} (h : TI n n fl row TL cs ce au ac AR) : INV 3 n n (fl ++ [(6, n)]) row TL none au ac := by
  obtain ⟨i1, i2, i3, i4, i5, i6, i7, i8, i9, i10, i11, i12, i13⟩ := h
  refine ⟨i1, by omega, ?_, by rw [lenS]; omega, (fun a h => by cases h), by omega, by omega, i9, i10, ?_⟩
  · show TL.length ≤ n; omega
  · show (wOut (rw row) TL).length ≤ 8 * n; omega
/-- the end inside a tag -/
theorem drop_out {n : Nat} {C : Nat → Int32} (hC : CHs n C) {p0 kb k w : Nat} {fl : Fl} {row : List Int32} {TL : List Tk} {cs ce cs' ce' au ac : Nat} {AR AR' : AR_} {ck ck' cm cm' : Int32} {AL : List At} {s : CS} {src : SSource} {t : STokens} {M : SMo} (hS : BS n C n fl src) (hT : BT row TL t) (hA : AC au TL ck cs ce cm AL t) (hB : BM n C n fl row TL M) (hM : AM ac TL ck' cs' ce' cm' AR' M) (hI : TI n n fl row TL cs ce au ac AR) (hr : ∀ src', f_Source_wrong 6 src = some src' → ∃ a b d, Reach k w s 29 (a, b, src', d, t)) (hk : k + kb ≤ 16 * (n - p0) + 16) : ∃ M', f_Mo_drop M = some M' ∧ OUT n C M p0 kb w s M' := by
  have hn := hC.1
  obtain ⟨i1, i2, i3, i4, i5⟩ := id hI
  obtain ⟨s1, e1, b1⟩ := c_wrong hS 6 (by omega)
  obtain ⟨a, b, d, r⟩ := hr s1 e1
  obtain ⟨M1, w1, w2, w3, w4, w5, w6⟩ := m_wrong hB 6 n (by omega)
  obtain ⟨M2, e2, g1, g2, g3, g4, g5⟩ := m_en w2 1
  refine ⟨M2, ?_, w3.trans g2, k, (a, b, s1, d, t), _, row, TL, none, au, ac, Or.inr ⟨r, hk, ⟨⟨n, b1⟩, hT, hA.1, Or.inl ⟨rfl, hA.2.1⟩⟩, ⟨g3, ⟨n, g1⟩, TM_s (TM_s hM.1 w5) g4, Or.inl ⟨rfl, ?_⟩⟩, TI_drop hI⟩⟩
  · unfold f_Mo_drop
    rw [hB.2.2.1, w1, Option.bind_some, e2]
  · exact g5.2.trans (w6.2.trans hM.2.1)
/-- the tag's end -/
theorem fin_out {n : Nat} {C : Nat → Int32} (hC : CHs n C) {p p0 kb k w : Nat} {fl : Fl} {row : List Int32} {TL : List Tk} {cs ce au ac : Nat} {AR : AR_} {ck cm : Int32} {s : CS} {src : SSource} {t : STokens} {M : SMo} (hp : p < n) (hp0 : p0 ≤ p) (hck : ck = 1 ∨ ck = 2) (hcm : cm = 0 ∨ cm = 1) (hS : BS n C p fl src) (hT : BT row TL t) (hA : HC au TL ck cs ce cm AR row.length t) (hB : BM n C p fl row TL M) (hM : AM ac TL ck cs ce cm AR M) (hac : q_Mo_attributeCount M = nI (ac + AR.length)) (he : q_Mo_ended M = 0) (hI : TI n p fl row TL cs ce au ac AR) (hr : ∀ w' src' t', f_TagWays_tagDone src t = some (w', src', t') → ∃ a b d, Reach k w s w' (a, b, src', d, t')) (hk : k + kb ≤ 16 * (p + 1 - p0)) : ∃ M', f_Mo_finish M = some M' ∧ OUT n C M p0 kb w s M' := by
  have hn := hC.1
  obtain ⟨i1, i2, i3, i4, i5, i6, i7, i8, i9⟩ := id hI
  obtain ⟨AL, pn, a1, a2, a3⟩ := hA
  have hk2 := kp_len AR
  have hal : AL.length ≤ (kp AR).length := by rw [a3, List.length_append]; omega
  obtain ⟨src', t', e1, b1, b2, b3⟩ := c_tagDone hn hp hck hcm hS hT a1 a2 (by omega) (by omega) (by omega)
  rw [← a3] at b1 b2 b3
  obtain ⟨M', e2, d1, d2, d3, d4⟩ := m_finish hck hB hM hac (by omega) (by omega) (by omega)
  obtain ⟨a, b, d, r⟩ := hr 0 src' t' e1
  exact ⟨M', e2, d2, k, (a, b, src', d, t'), _, row, _, none, _, _, Or.inl ⟨p + 1, r, by omega, hk, ⟨b1, b2, b3⟩, ⟨Eq.trans d3 he, d1, d4⟩, TI_done hI hp hck hcm⟩⟩
