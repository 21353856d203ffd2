def AC (au : Nat) (TL : List Tk) (ck : Int32) (cs ce : Nat) (cm : Int32) (AL : List At) (t : STokens) : Prop := TC au TL t ∧ q_Tokens_inText t = 0 ∧ q_Tokens_kinds t TL.length = ck ∧ q_Tokens_starts t TL.length = nI cs ∧ q_Tokens_ends t TL.length = nI ce ∧ q_Tokens_marks t TL.length = cm ∧ q_Tokens_firstAttributes t TL.length = nI au ∧ q_Tokens_attributeCounts t TL.length = nI AL.length ∧ q_Tokens_attributesUsed t = nI (au + AL.length) ∧ ∀ (j : Nat) (a : At), AL[j]? = some a → q_Tokens_nameStarts t (au + j) = nI a.1 ∧ q_Tokens_valueStarts t (au + j) = nI a.2.1 ∧ q_Tokens_valueEnds t (au + j) = nI a.2.2
/-- the attribute that is pending, behind its name -/
def PN (au : Nat) (AL : List At) (pn : Option (Nat × Nat)) (t : STokens) : Prop := (pn = none ∧ q_Tokens_inAttribute t = 0) ∨ ∃ ns vs, pn = some (ns, vs) ∧ q_Tokens_inAttribute t = 1 ∧ q_Tokens_nameStarts t (au + AL.length) = nI ns ∧ q_Tokens_valueStarts t (au + AL.length) = nI vs
def pl (pn : Option (Nat × Nat)) (u : Nat) : List At := match pn with
  | none => []
  | some x => [(x.1, x.2, u)]
theorem AC_sc {au : Nat} {TL : List Tk} {ck : Int32} {cs ce : Nat} {cm : Int32} {AL : List At} {s s' : STokens} (h : AC au TL ck cs ce cm AL s) (e : SC s s') : AC au TL ck cs ce cm AL s' := by
  have e0 := e
  obtain ⟨e1, e2, e3, e4, e5, e6, e7, e8, e9, e10, e11, e12⟩ := e
  obtain ⟨h1, h2⟩ := h
  unfold AC
  rw [e1, e2, e3, e4, e5, e6, e7, e8, e9, e10, e11]
  exact ⟨TC_sc h1 e0, h2⟩
theorem PN_sc {au : Nat} {AL : List At} {pn : Option (Nat × Nat)} {s s' : STokens} (h : PN au AL pn s) (e : SC s s') : PN au AL pn s' := by
  obtain ⟨e1, e2, e3, e4, e5, e6, e7, e8, e9, e10, e11, e12⟩ := e
  unfold PN
  rw [e8, e9, e12]
  exact h
theorem c_endOwnT {row : List Int32} {TL : List Tk} {au : Nat} {ck : Int32} {cs : Nat} {cm : Int32} {s : STokens} (hB : BT row TL s) (hM : MC1 au TL ck cs cm s) (ht : TL.length < 400) : ∃ s1, f_Tokens_endOwn s = some s1 ∧ BT row TL s1 ∧ AC au TL ck cs row.length cm [] s1 ∧ PN au [] none s1 := by
  obtain ⟨m1, m2, m3, m5, m6, m7, m8, m9, m10⟩ := hM
  obtain ⟨h1, h2, h3⟩ := hB
  have hge : ¬ (400 : Int32) ≤ nI TL.length := nI_ge (b := 400) ht (by decide)
  refine ⟨u_Tokens_ends s (upd (q_Tokens_ends s) TL.length (nI row.length)), ?_, ⟨h1, h2, h3⟩, ⟨TC_at (Nat.le_refl _) m1 (fun i hi => ⟨rfl, rfl, upd_ne _ _ (Nat.ne_of_lt hi), rfl, rfl, rfl⟩) (fun j hj => ⟨rfl, rfl, rfl⟩), m5, m6, m7, upd_same _ _ _, m8, m10, m9, m2, fun j a h => by simp at h⟩, Or.inl ⟨rfl, m3⟩⟩
  unfold f_Tokens_endOwn
  rw [h3, if_neg hge, if_pos (ixI ht (by decide)), nI_clamp (by omega), h1]
theorem c_endAtt {row : List Int32} {TL : List Tk} {au : Nat} {ck : Int32} {cs ce : Nat} {cm : Int32} {AL : List At} {pn : Option (Nat × Nat)} {s : STokens} (hB : BT row TL s) (hA : AC au TL ck cs ce cm AL s) (hP : PN au AL pn s) (ht : TL.length < 400) (ha : au + AL.length < 400) : ∃ s1, f_Tokens_endAttribute s = some s1 ∧ BT row TL s1 ∧ AC au TL ck cs ce cm (AL ++ pl pn row.length) s1 ∧ q_Tokens_inAttribute s1 = 0 := by
  obtain ⟨h1, h2, h3⟩ := hB
  obtain ⟨a1, a2, a3, a4, a5, a6, a7, a8, a9, a10⟩ := hA
  unfold f_Tokens_endAttribute
  rcases hP with ⟨rfl, p1⟩ | ⟨ns, vs, rfl, p1, p2, p3⟩
  · rw [if_pos p1]
    refine ⟨_, rfl, ⟨h1, h2, h3⟩, ?_, rfl⟩
    rw [show AL ++ pl none row.length = AL from List.append_nil AL]
    exact ⟨a1, a2, a3, a4, a5, a6, a7, a8, a9, a10⟩
  · have hge : ¬ (400 : Int32) ≤ nI TL.length := nI_ge (b := 400) ht (by decide)
    have hge2 : ¬ (400 : Int32) ≤ nI (au + AL.length) := nI_ge (b := 400) ha (by decide)
    have x1 : ix (nI TL.length) 400 := ixI ht (by decide)
    have x2 : ix (nI (au + AL.length)) 400 := ixI ha (by decide)
    rw [if_neg (by rw [p1]; decide), h3, if_neg hge, a9, if_neg hge2]
    simp only [if_pos x1, if_pos x2, nI_clamp (show TL.length < 2 ^ 31 by omega), nI_clamp (show au + AL.length < 2 ^ 31 by omega), a8, h1, nI_1]
    refine ⟨_, rfl, ⟨h1, h2, h3⟩, ⟨?_, a2, a3, a4, a5, a6, a7, ?_, ?_, ?_⟩, rfl⟩
    · exact TC_at (Nat.le_refl _) a1 (fun i hi => ⟨rfl, rfl, rfl, rfl, upd_ne _ _ (Nat.ne_of_lt hi), rfl⟩) (fun j hj => ⟨rfl, rfl, upd_ne _ _ (by omega)⟩)
    · show upd (q_Tokens_attributeCounts s) TL.length (nI (AL.length + 1)) TL.length = nI (AL ++ [_]).length
      rw [upd_same, lenS]
    · show nI (au + AL.length + 1) = nI (au + (AL ++ [_]).length)
      rw [lenS, Nat.add_assoc]
    · intro j a hj
      show q_Tokens_nameStarts s (au + j) = nI a.1 ∧ q_Tokens_valueStarts s (au + j) = nI a.2.1 ∧ upd (q_Tokens_valueEnds s) (au + AL.length) (nI row.length) (au + j) = nI a.2.2
      rcases getApp hj with ⟨hk, hx⟩ | ⟨rfl, rfl⟩
      · rw [upd_ne _ _ (by omega)]; exact a10 j a hx
      · rw [upd_same]; exact ⟨p2, p3, rfl⟩
theorem c_beginAtt {row : List Int32} {TL : List Tk} {au : Nat} {ck : Int32} {cs ce : Nat} {cm : Int32} {AL : List At} {pn : Option (Nat × Nat)} {s : STokens} (hB : BT row TL s) (hA : AC au TL ck cs ce cm AL s) (hP : PN au AL pn s) (ht : TL.length < 400) (ha : au + (AL ++ pl pn row.length).length < 400) : ∃ s1, f_Tokens_beginAttribute s = some s1 ∧ BT row TL s1 ∧ AC au TL ck cs ce cm (AL ++ pl pn row.length) s1 ∧ q_Tokens_inAttribute s1 = 1 ∧ q_Tokens_nameStarts s1 (au + (AL ++ pl pn row.length).length) = nI row.length := by
  obtain ⟨s1, e1, ⟨h1, h2, h3⟩, ⟨a1, a2, a3, a4, a5, a6, a7, a8, a9, a10⟩, b3⟩ := c_endAtt hB hA hP ht (by rw [List.length_append] at ha; omega)
  unfold f_Tokens_beginAttribute
  have hge2 : ¬ (400 : Int32) ≤ nI (au + (AL ++ pl pn row.length).length) := nI_ge (b := 400) ha (by decide)
  have x2 : ix (nI (au + (AL ++ pl pn row.length).length)) 400 := ixI ha (by decide)
  rw [e1, Option.bind_some, a9, if_neg hge2]
  simp only [if_pos x2, nI_clamp (show au + (AL ++ pl pn row.length).length < 2 ^ 31 by omega), h1]
  refine ⟨_, rfl, ⟨h1, h2, h3⟩, ⟨?_, a2, a3, a4, a5, a6, a7, a8, a9, ?_⟩, rfl, upd_same _ _ _⟩
  · exact TC_at (Nat.le_refl _) a1 (fun i hi => ⟨rfl, rfl, rfl, rfl, rfl, rfl⟩) (fun j hj => ⟨upd_ne _ _ (by omega), rfl, rfl⟩)
  · intro j a hj
    have hl := (List.getElem?_eq_some_iff.mp hj).1
    show upd (q_Tokens_nameStarts s1) (au + (AL ++ pl pn row.length).length) (nI row.length) (au + j) = nI a.1 ∧ _
    rw [upd_ne _ _ (by omega)]
    exact a10 j a hj
theorem c_endName {row : List Int32} {TL : List Tk} {au : Nat} {ck : Int32} {cs ce : Nat} {cm : Int32} {AL : List At} {ns : Nat} {s : STokens} (hB : BT row TL s) (hA : AC au TL ck cs ce cm AL s) (hi : q_Tokens_inAttribute s = 1) (hns : q_Tokens_nameStarts s (au + AL.length) = nI ns) (ha : au + AL.length < 400) : ∃ s1, f_Tokens_endAttributeName s = some s1 ∧ BT row TL s1 ∧ AC au TL ck cs ce cm AL s1 ∧ PN au AL (some (ns, row.length)) s1 := by
  obtain ⟨h1, h2, h3⟩ := hB
  obtain ⟨a1, a2, a3, a4, a5, a6, a7, a8, a9, a10⟩ := hA
  have hge2 : ¬ (400 : Int32) ≤ nI (au + AL.length) := nI_ge (b := 400) ha (by decide)
  have x2 : ix (nI (au + AL.length)) 400 := ixI ha (by decide)
  unfold f_Tokens_endAttributeName
  rw [a9, if_neg hge2]
  simp only [if_pos x2, nI_clamp (show au + AL.length < 2 ^ 31 by omega), h1]
  refine ⟨_, rfl, ⟨h1, h2, h3⟩, ⟨?_, a2, a3, a4, a5, a6, a7, a8, a9, ?_⟩, Or.inr ⟨ns, row.length, rfl, hi, hns, upd_same _ _ _⟩⟩
  · exact TC_at (Nat.le_refl _) a1 (fun i hi => ⟨rfl, rfl, rfl, rfl, rfl, rfl⟩) (fun j hj => ⟨rfl, upd_ne _ _ (by omega), rfl⟩)
  · intro j a hj
    have hl := (List.getElem?_eq_some_iff.mp hj).1
    show q_Tokens_nameStarts s (au + j) = nI a.1 ∧ upd (q_Tokens_valueStarts s) (au + AL.length) (nI row.length) (au + j) = nI a.2.1 ∧ _
    rw [upd_ne _ _ (by omega)]
    exact a10 j a hj
def tFl (ck : Int32) (K : List At) (cm : Int32) (p : Nat) (fl : Fl) : Fl := if ck = 2 then (if cm = 0 then (if K.length = 0 then fl else fl ++ [(14, p)]) else (if K.length = 0 then fl else fl ++ [(14, p)]) ++ [(15, p)]) else fl
def dTk (ck : Int32) (cs ce : Nat) (cm : Int32) (K : List At) : Tk := if ck = 2 then (2, cs, ce, 0, []) else (ck, cs, ce, cm, K)
theorem c_dropAtt {row : List Int32} {TL : List Tk} {s : STokens} (hB : BT row TL s) (ht : TL.length < 400) : f_Tokens_dropAttributes s = some (u_Tokens_attributeCounts s (upd (q_Tokens_attributeCounts s) TL.length 0)) := by
  unfold f_Tokens_dropAttributes
  rw [hB.2.2, if_neg (show ¬ (400 : Int32) ≤ nI TL.length from nI_ge (b := 400) ht (by decide)), if_pos (ixI ht (by decide)), nI_clamp (by omega)]
theorem c_mark0 {row : List Int32} {TL : List Tk} {s : STokens} (hB : BT row TL s) (k : Int32) (ht : TL.length < 400) : f_Tokens_setMark k s = some (u_Tokens_marks s (upd (q_Tokens_marks s) TL.length k)) := by
  unfold f_Tokens_setMark
  rw [hB.2.2, if_neg (show ¬ (400 : Int32) ≤ nI TL.length from nI_ge (b := 400) ht (by decide)), if_pos (ixI ht (by decide)), nI_clamp (by omega)]
theorem c_tell0 {row : List Int32} {TL : List Tk} {s : STokens} (hB : BT row TL s) (ht : TL.length < 400) : f_Tokens_tell s = u_Tokens_count s (nI (TL.length + 1)) := by
  unfold f_Tokens_tell
  rw [hB.2.2, if_neg (show ¬ (400 : Int32) ≤ nI TL.length from nI_ge (b := 400) ht (by decide)), nI_1]
theorem c_setMarkT {row : List Int32} {TL : List Tk} {au : Nat} {ck : Int32} {cs ce : Nat} {cm : Int32} {AL : List At} {pn : Option (Nat × Nat)} {s : STokens} (hB : BT row TL s) (hA : AC au TL ck cs ce cm AL s) (hP : PN au AL pn s) (k : Int32) (ht : TL.length < 400) : ∃ s1, f_Tokens_setMark k s = some s1 ∧ BT row TL s1 ∧ AC au TL ck cs ce k AL s1 ∧ PN au AL pn s1 := by
  obtain ⟨a1, a2, a3, a4, a5, a6, a7, a8, a9, a10⟩ := hA
  exact ⟨_, c_mark0 hB k ht, hB, ⟨TC_at (Nat.le_refl _) a1 (fun i hi => ⟨rfl, rfl, rfl, upd_ne _ _ (Nat.ne_of_lt hi), rfl, rfl⟩) (fun j hj => ⟨rfl, rfl, rfl⟩), a2, a3, a4, a5, upd_same _ _ _, a7, a8, a9, a10⟩, hP⟩
theorem c_tagDone {n : Nat} {C : Nat → Int32} (hn : n ≤ 400) {p : Nat} {fl : Fl} {row : List Int32} {TL : List Tk} {au : Nat} {ck : Int32} {cs ce : Nat} {cm : Int32} {AL : List At} {pn : Option (Nat × Nat)} {src : SSource} {s : STokens} (hp : p < n) (hck : ck = 1 ∨ ck = 2) (hcm : cm = 0 ∨ cm = 1) (hS : BS n C p fl src) (hB : BT row TL s) (hA : AC au TL ck cs ce cm AL s) (hP : PN au AL pn s) (ht : TL.length < 400) (ha : au + AL.length < 400) (hf : fl.length + 2 < 1203) : ∃ src' s', f_TagWays_tagDone src s = some (0, src', s') ∧ BS n C (p + 1) (tFl ck (AL ++ pl pn row.length) cm p fl) src' ∧ BT row (TL ++ [dTk ck cs ce cm (AL ++ pl pn row.length)]) s' ∧ MC0 (au + (AL ++ pl pn row.length).length) (TL ++ [dTk ck cs ce cm (AL ++ pl pn row.length)]) none s' := by
  obtain ⟨s1, e1, hB1, hA1, hi⟩ := c_endAtt hB hA hP ht ha
  have hK : (AL ++ pl pn row.length).length < 2 ^ 31 := by
    rw [List.length_append]
    cases pn with
    | none => show AL.length + 0 < _; omega
    | some x => show AL.length + 1 < _; omega
  generalize AL ++ pl pn row.length = K at hA1 hK ⊢
  obtain ⟨h1, h2, h3⟩ := id hB1
  obtain ⟨a1, a2, a3, a4, a5, a6, a7, a8, a9, a10⟩ := hA1
  have hge : ¬ (400 : Int32) ≤ nI TL.length := nI_ge (b := 400) ht (by decide)
  have x1 : ix (nI TL.length) 400 := ixI ht (by decide)
  have i1 : f_Tokens_isStop s1 = some (if ck = 2 then 1 else 0) := by
    unfold f_Tokens_isStop
    rw [h3, if_neg hge, if_pos x1, nI_clamp (by omega), a3]
    by_cases h : ck = 2
    · rw [if_pos h, if_pos h]
    · rw [if_neg h, if_neg h]
  unfold f_TagWays_tagDone
  rw [e1, Option.bind_some, i1, Option.bind_some]
  rcases hck with rfl | rfl
  · rw [if_neg (show ¬ (1 : Int32) = 2 by decide), if_pos rfl]
    obtain ⟨s2, e3, b4⟩ := c_then hn hS 0 hp
    rw [e3, c_tell0 hB1 ht]
    have d1 : dTk 1 cs ce cm K = (1, cs, ce, cm, K) := if_neg (by decide)
    have d2 : tFl 1 K cm p fl = fl := if_neg (by decide)
    rw [d1, d2]
    refine ⟨s2, _, rfl, b4, ⟨h1, h2, ?_⟩, ?_, a9, hi, Or.inl ⟨rfl, a2⟩⟩
    · show nI (TL.length + 1) = nI (TL ++ [_]).length
      rw [lenS]
    · refine TC_snoc ?_ ⟨a3, a4, a5, a6, a8, au, a7, Nat.le_refl _, a10⟩
      intro i tk hi
      obtain ⟨c1, c2, c3, c4, c5, fa, c6, c7, c8⟩ := a1 i tk hi
      exact ⟨c1, c2, c3, c4, c5, fa, c6, Nat.le_trans c7 (Nat.le_add_right _ _), c8⟩
  · rw [if_pos (show (2 : Int32) = 2 from rfl), if_neg (show ¬ (1 : Int32) = 0 by decide)]
    have i2 : f_Tokens_hasAttributes s1 = some (if K.length = 0 then 0 else 1) := by
      unfold f_Tokens_hasAttributes
      rw [h3, if_neg hge, if_pos x1, nI_clamp (by omega), a8]
      by_cases h : K.length = 0
      · rw [if_pos h, h, if_pos (by decide)]
      · rw [if_neg h, if_neg (nI_nle (by omega) hK)]
    have i3 : f_Tokens_isMarked s1 = some cm := by
      unfold f_Tokens_isMarked
      rw [h3, if_neg hge, if_pos x1, nI_clamp (by omega), a6]
      rcases hcm with rfl | rfl
      · rw [if_neg (by decide)]
      · rw [if_pos rfl]
    have d1 : dTk 2 cs ce cm K = (2, cs, ce, 0, []) := if_pos rfl
    rw [d1]
    -- the end of it, once the faults have been told
    have fin : ∀ (sx : SSource) (fx : Fl), BS n C p fx sx → ∃ src' s', ((f_Tokens_dropAttributes s1).bind fun x5 => (f_Tokens_setMark 0 x5).bind fun x6 => some ((f_Source_then 0 sx).1, (f_Source_then 0 sx).2, (f_Tokens_tell x6))) = some (0, src', s') ∧ BS n C (p + 1) fx src' ∧ BT row (TL ++ [(2, cs, ce, 0, [])]) s' ∧ MC0 (au + K.length) (TL ++ [(2, cs, ce, 0, [])]) none s' := by
      intro sx fx hsx
      obtain ⟨s2, e3, b4⟩ := c_then hn hsx 0 hp
      rw [e3, c_dropAtt hB1 ht, Option.bind_some, c_mark0 (s := u_Tokens_attributeCounts s1 (upd (q_Tokens_attributeCounts s1) TL.length 0)) hB1 0 ht, Option.bind_some, c_tell0 (s := u_Tokens_marks (u_Tokens_attributeCounts s1 (upd (q_Tokens_attributeCounts s1) TL.length 0)) (upd (q_Tokens_marks (u_Tokens_attributeCounts s1 (upd (q_Tokens_attributeCounts s1) TL.length 0))) TL.length 0)) hB1 ht]
      refine ⟨s2, _, rfl, b4, ⟨h1, h2, ?_⟩, ?_, a9, hi, Or.inl ⟨rfl, a2⟩⟩
      · show nI (TL.length + 1) = nI (TL ++ [_]).length
        rw [lenS]
      · refine TC_snoc ?_ ⟨a3, a4, a5, upd_same _ _ _, upd_same _ _ _, au, a7, Nat.le_add_right _ _, fun j a h => by simp at h⟩
        intro i tk hi
        have hil := (List.getElem?_eq_some_iff.mp hi).1
        obtain ⟨c1, c2, c3, c4, c5, fa, c6, c7, c8⟩ := a1 i tk hi
        refine ⟨c1, c2, c3, ?_, ?_, fa, c6, Nat.le_trans c7 (Nat.le_add_right _ _), c8⟩
        · exact (upd_ne _ _ (Nat.ne_of_lt hil)).trans c4
        · exact (upd_ne _ _ (Nat.ne_of_lt hil)).trans c5
    rw [i2, Option.bind_some, i3, Option.bind_some]
    unfold tFl
    rw [if_pos rfl]
    by_cases hk : K.length = 0
    · rw [if_pos hk, if_pos rfl, if_pos hk]
      rcases hcm with rfl | rfl
      · rw [if_pos rfl, if_pos rfl]; exact fin src fl hS
      · rw [if_neg (by decide), if_neg (by decide)]
        obtain ⟨s3, e4, b5⟩ := c_wrong hS 15 (by omega)
        rw [e4, Option.bind_some]
        exact fin s3 _ b5
    · rw [if_neg hk, if_neg (by decide), if_neg hk]
      obtain ⟨s3, e4, b5⟩ := c_wrong hS 14 (by omega)
      rw [e4, Option.bind_some, Option.bind_some]
      rcases hcm with rfl | rfl
      · rw [if_pos rfl, if_pos rfl]; exact fin s3 _ b5
      · rw [if_neg (by decide), if_neg (by decide)]
        obtain ⟨s4, e5, b6⟩ := c_wrong b5 15 (by rw [lenS]; omega)
        rw [e5, Option.bind_some]
        exact fin s4 _ b6
