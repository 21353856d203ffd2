/-- the class's end: the open text is told -/
theorem endC {n : Nat} {C : Nat → Int32} {fl : Fl} {row : List Int32} {TL : List Tk} {tx : Option Nat} {au : Nat} {s : CS} (h : KE n C fl row TL tx au s) (ht : TL.length < 400 ∨ tx = none) : ∃ t', f_Tokens_endText s.2.2.2.2 = some t' ∧ BT row (fT row.length tx TL) t' ∧ TC au (fT row.length tx TL) t' := by
  obtain ⟨-, ⟨h1, h2, h3⟩, m1, hx⟩ := h
  unfold f_Tokens_endText
  rcases hx with ⟨rfl, x2⟩ | ⟨a, rfl, x2, x3, x4, x5, x6, x7⟩
  · rw [if_pos x2]
    exact ⟨_, rfl, ⟨h1, h2, h3⟩, m1⟩
  · have ht : TL.length < 400 := ht.resolve_right (by simp)
    rw [if_neg (by rw [x2]; decide), h3, if_neg (show ¬ (400 : Int32) ≤ nI TL.length from nI_ge (b := 400) ht (by decide)), if_pos (ixI ht (by decide)), nI_clamp (by omega), nI_1, h1]
    refine ⟨_, rfl, ⟨h1, h2, ?_⟩, ?_⟩
    · show nI (TL.length + 1) = nI (TL ++ [_]).length
      rw [lenS]
    · exact TC_snoc (TC_at (Nat.le_refl _) m1 (fun i hi => ⟨rfl, rfl, upd_ne _ _ (Nat.ne_of_lt hi), rfl, rfl, rfl⟩) (fun j hj => ⟨rfl, rfl, rfl⟩)) ⟨x3, x4, upd_same _ _ _, x5, x6, au, x7, Nat.le_refl _, fun j a h => by simp at h⟩
theorem begin0_any {n : Nat} {C : Nat → Int32} {p : Nat} {fl : Fl} {row : List Int32} {TL : List Tk} {ac : Nat} {M : SMo} (h : BM n C p fl row TL M) (hT : TM ac TL M) (k v : Int32) (ht : TL.length < 402) : ∃ M', f_Mo_begin0 k v M = some M' ∧ BM n C p fl row TL M' ∧ EF M M' ∧ TM ac TL M' ∧ q_Mo_kinds M' TL.length = k ∧ q_Mo_firsts M' TL.length = v ∧ q_Mo_marks M' TL.length = 0 ∧ q_Mo_attributes M' TL.length = q_Mo_attributeCount M ∧ q_Mo_manyOf M' TL.length = 0 := by
  have x1 : ix (nI TL.length) 402 := ixI ht (by decide)
  refine ⟨u_Mo_kinds_firsts_sizes_marks_attributes_manyOf M (upd (q_Mo_kinds M) TL.length k) (upd (q_Mo_firsts M) TL.length v) (upd (q_Mo_sizes M) TL.length 0) (upd (q_Mo_marks M) TL.length (vp_nar .boolean 0)) (upd (q_Mo_attributes M) TL.length (q_Mo_attributeCount M)) (upd (q_Mo_manyOf M) TL.length 0), ?_, h, EF.rf M, ?_, upd_same _ _ _, upd_same _ _ _, upd_same _ _ _, upd_same _ _ _, upd_same _ _ _⟩
  · unfold f_Mo_begin0
    rw [h.2.2.2.2.2.2.2, if_pos x1, if_pos x1, if_pos x1, if_pos x1, if_pos x1, if_pos x1, nI_clamp (by omega)]
  · exact TM_at (Nat.le_refl _) hT (fun i hi => ⟨upd_ne _ _ (Nat.ne_of_lt hi), upd_ne _ _ (Nat.ne_of_lt hi), upd_ne _ _ (Nat.ne_of_lt hi), upd_ne _ _ (Nat.ne_of_lt hi), upd_ne _ _ (Nat.ne_of_lt hi), upd_ne _ _ (Nat.ne_of_lt hi)⟩) (fun j hj => ⟨rfl, rfl, rfl, rfl⟩)
/-- the reference's end -/
theorem endM {n : Nat} {C : Nat → Int32} {fl : Fl} {row : List Int32} {TL : List Tk} {tx : Option Nat} {ac : Nat} {M : SMo} (h : JE n C fl row TL tx ac M) (hx : TXok row.length tx) (hu : row.length ≤ 400) (ht : (fT row.length tx TL).length < 402) : ∃ (p : Nat) (M' : SMo), f_Mo_begin 0 M = some M' ∧ BM n C p fl row (fT row.length tx TL) M' ∧ TM ac (fT row.length tx TL) M' ∧ EF M M' := by
  obtain ⟨he, ⟨p, hB⟩, m1, hm⟩ := h
  unfold f_Mo_begin
  rcases hm with ⟨rfl, x2⟩ | ⟨a, rfl, x0, x2, x3, x4⟩
  · rw [if_pos (by rw [x2]; decide)]
    obtain ⟨M', e1, b1, b2, b3, -⟩ := begin0_any hB m1 0 (q_Mo_rowSize M) ht
    exact ⟨p, M', by rw [e1, Option.bind_some], b1, b3, b2⟩
  · have ha := hx a rfl
    have hlen : (fT row.length (some a) TL).length = TL.length + 1 := by unfold fT; simp only []; rw [lenS]
    rw [if_neg (by rw [x3]; exact nI_nle (by omega) (by omega)), x4 ha]
    obtain ⟨M1, e1, b1, b2, b3, b4, b5, b6, b7, b8, b9, b10, b11, b12⟩ := m_begin0 (M := u_Mo_textSize M 0) hB m1 x0 0 a (by omega)
    have y1 : ix (nI TL.length) 402 := ixI (by omega) (by decide)
    rw [e1, Option.bind_some, b1.2.2.2.2.2.2.2, if_pos y1, nI_clamp (by omega), nI_1, x3]
    obtain ⟨M2, eM2, B2, F2, T2⟩ : ∃ M2, u_Mo_tokens_sizes M1 (nI (TL.length + 1)) (upd (q_Mo_sizes M1) TL.length (nI (row.length - a))) = M2 ∧ BM n C p fl row (fT row.length (some a) TL) M2 ∧ EF M1 M2 ∧ TM ac (fT row.length (some a) TL) M2 := by
      refine ⟨_, rfl, ⟨b1.1, b1.2.1, b1.2.2.1, b1.2.2.2.1, b1.2.2.2.2.1, b1.2.2.2.2.2.1, b1.2.2.2.2.2.2.1, ?_⟩, EF.rf M1, ?_⟩
      · show nI (TL.length + 1) = nI (fT row.length (some a) TL).length
        rw [hlen]
      · exact TM_snoc (TM_at (Nat.le_refl _) b4 (fun i hi => ⟨rfl, rfl, upd_ne _ _ (Nat.ne_of_lt hi), rfl, rfl, rfl⟩) (fun j hj => ⟨rfl, rfl, rfl, rfl⟩)) ⟨b8, b9, upd_same _ _ _, b10, b12, ac, b11, Nat.le_refl _, fun j a h => by simp at h⟩
    rw [eM2]
    obtain ⟨M', f1, d1, d2, d3, -⟩ := begin0_any B2 T2 0 (q_Mo_rowSize M1) ht
    exact ⟨p, M', by rw [f1, Option.bind_some], d1, d3, (show EF M M1 from b2).trans (F2.trans d2)⟩
/-- the run, once the three walks are there -/
theorem run_of (hTag : ∀ n C, CHs n C → SimTag n C) (hCom : ∀ n C, CHs n C → SimCom n C) (hRef : ∀ n C, CHs n C → SimRef n C) : Op_run RelS := by
  intro S M h
  obtain ⟨hTx, hF, hTk, hO, hCn⟩ := h
  obtain ⟨n0, h1, h2, h3, h4⟩ := id hTx
  -- the text is laid down
  obtain ⟨src, M1, n, a1, a2, a3, a4, a5, a6, a7, a8, a9⟩ := open_sim h1 (t := S.1) (fun k hk => (h4 k hk).2) n0 0 0 FU FU (u_Source_faultCount (u_Source_place (u_Source_count S.2.1 0) 0) 0) (u_Mo_n M 0) (by omega) (Nat.le_refl _) (by unfold FU; omega) (by unfold FU; omega) rfl rfl h3 (fun j hj => (h4 j hj).1) (fun j hj => absurd hj (Nat.not_lt_zero j))
  have hC : CHs n (fun k => if k < n then q_Mo_text M1 k else -1) := by
    refine ⟨by omega, fun k hk => ?_, fun k hk => ?_⟩
    · simp only [if_pos hk]; obtain ⟨v, hv, e⟩ := (a6 k hk).2; exact ⟨v, hv, e⟩
    · simp only [if_neg (Nat.not_lt.mpr hk)]
  generalize hCe : (fun k => if k < n then q_Mo_text M1 k else -1 : Nat → Int32) = C at hC
  have hCk : ∀ k, k < n → C k = q_Mo_text M1 k := fun k hk => by rw [← hCe]; simp only [if_pos hk]
  have ef0 : EF M M1 := a9
  -- the beginning
  obtain ⟨M2, eM2, hJ, ef1⟩ : ∃ M2, u_Mo_p_ended_tokens_attributeCount_rowSize_textSize_faultCount M1 0 0 0 0 0 0 0 = M2 ∧ J0 n C 0 [] [] [] none 0 M2 ∧ EF M1 M2 ∧ True ∧ q_Mo_names M2 = q_Mo_names M1 := by
    refine ⟨_, rfl, ⟨rfl, ⟨a5, fun k hk => (hCk k hk).symm, rfl, rfl, fun k x h => by simp at h, rfl, fun k x h => by simp at h, rfl⟩, fun i tk h => by simp at h, rfl, Or.inl ⟨rfl, rfl⟩⟩, EF.rf M1, trivial, rfl⟩
  have hK : K0 n C 0 [] [] [] none 0 (S.2.2.2.2.2.1, S.2.2.2.1, src, S.2.2.2.2.1, f_Tokens_forget S.2.2.1) := by
    refine ⟨⟨a4, fun k hk => ((a6 k hk).1).trans (hCk k hk).symm, a7, a8, fun k x h => by simp at h⟩, ⟨rfl, fun k x h => by simp at h, rfl⟩, fun i tk h => by simp at h, rfl, rfl, Or.inl ⟨rfl, rfl⟩⟩
  have hI : INV 0 n 0 [] [] [] none 0 0 := ⟨Nat.zero_le _, Nat.le_refl _, Nat.le_refl _, Nat.le_refl _, (fun a h => by cases h), Nat.le_refl _, Nat.le_refl _, fun tk h => by simp [fT] at h, fun x h => by simp at h, Nat.le_refl _⟩
  have cn2 : RCon M2 := by
    obtain ⟨g1, g2, g3⟩ := hCn
    obtain ⟨-, -, -, -, q1, q2, q3⟩ := ef0.trans ef1.1
    exact ⟨q1.trans g1, q2.trans g2, q3.trans g3⟩
  obtain ⟨k, s', fl, row, TL, tx, au, ac, f', M3, r1, r2, ke, je, iv, ef2, er⟩ := loop_sim hC (hTag n C hC) (hCom n C hC) (hRef n C hC) n 0 [] [] [] none 0 0 (S.2.2.2.2.2.1, S.2.2.2.1, src, S.2.2.2.2.1, f_Tokens_forget S.2.2.1) M2 FU (by omega) (by unfold FU; omega) hK hJ cn2 hI
  obtain ⟨i1, i2, i3, i4, i5, i6, i7, i8, i9, i10⟩ := iv
  have hf2 := fT_len row.length tx TL
  obtain ⟨t', e5, bt, tc⟩ := endC ke (by
    cases tx with
    | none => exact Or.inr rfl
    | some a =>
      left
      have : (fT row.length (some a) TL).length = TL.length + 1 := by unfold fT; simp only []; rw [lenS]
      omega)
  obtain ⟨pm, M4, e6, bm, tm, ef3⟩ := endM je i5 (by omega) (by omega)
  obtain ⟨⟨pc, bs⟩, -⟩ := ke
  have efA : EF M M4 := ef0.trans (ef1.1.trans (ef2.trans ef3))
  -- the class's loop
  have eCut : f_Reader_cut S.2.2.2.2.2.1 S.2.2.2.1 src S.2.2.2.2.1 (f_Tokens_forget S.2.2.1) = some (s'.1, s'.2.1, s'.2.2.1, s'.2.2.2.1, t') := by
    have := cut_reach r1 (199999 - k + 1) 0 (by omega)
    unfold f_Reader_cut
    rw [show FU = 199999 - k + 1 + k by unfold FU; omega]
    show f_Reader_cut_6 (199999 - k + 1 + k) 0 (nI 0) _ _ _ _ _ = _
    rw [this, f_Reader_cut_6, if_neg (show ¬ (100000 : Int32) ≤ nI (0 + k) from nI_ge (b := 100000) (by omega) (by decide)), if_pos (by decide), if_pos rfl, e5, Option.bind_some]
  have eOpen : f_Source_open (q_Mt_textLength S.1) S.1 S.2.1 = some src := by
    unfold f_Source_open; rw [h2]; exact a1
  have eLay : f_Mo_layDown M = some M1 := a2
  refine ⟨nI (fT row.length tx TL).length, s'.1, s'.2.1, s'.2.2.1, s'.2.2.2.1, t', M4, ?_, ?_, ?_⟩
  · unfold f_Mt_run
    rw [eOpen, Option.bind_some, eCut, Option.bind_some]
    show some (q_Tokens_count t', _) = _
    rw [bt.2.2]
  · unfold f_Mo_run
    rw [eLay, Option.bind_some, eM2, er, f_Mo_run_39, if_neg (by rw [je.1]; decide), e6, Option.bind_some, bm.2.2.2.2.2.2.2]
  · obtain ⟨q1, q2, q3, q4, q5, q6, q7⟩ := efA
    refine ⟨?_, ?_, ?_, ?_, ?_⟩
    · exact ⟨n0, h1, h2, q1.trans h3, fun k hk => ⟨by rw [q2]; exact (h4 k hk).1, (h4 k hk).2⟩⟩
    · refine ⟨fl.length, by omega, bs.2.2.2.1, bm.2.2.2.1, fun k hk => ?_⟩
      obtain ⟨x, hx⟩ : ∃ x, fl[k]? = some x := ⟨_, List.getElem?_eq_getElem hk⟩
      obtain ⟨u1, u2⟩ := bs.2.2.2.2 k x hx
      obtain ⟨u3, u4⟩ := bm.2.2.2.2.1 k x hx
      exact ⟨u1.trans u3.symm, u2.trans u4.symm⟩
    · refine ⟨rw row, row.length, au, ac, fT row.length tx TL, by omega, by omega, by omega, by omega, bt.2.2, bm.2.2.2.2.2.2.2, ⟨fun k hk => ?_, tc⟩, ⟨fun k hk => ?_, tm⟩, i8, fun k hk => ?_, by omega⟩
      · exact bt.2.1 k _ (by unfold rw; rw [List.getD_eq_getElem?_getD, List.getElem?_eq_getElem hk]; rfl)
      · exact bm.2.2.2.2.2.2.1 k _ (by unfold rw; rw [List.getD_eq_getElem?_getD, List.getElem?_eq_getElem hk]; rfl)
      · exact i9 _ (by unfold rw; rw [List.getD_eq_getElem?_getD, List.getElem?_eq_getElem hk]; exact List.getElem_mem hk)
    · obtain ⟨o, o1, o2, o3, o4⟩ := hO
      exact ⟨o, o1, o2, q3.trans o3, fun k hk => ⟨by rw [q4]; exact (o4 k hk).1, (o4 k hk).2⟩⟩
    · obtain ⟨g1, g2, g3⟩ := hCn
      exact ⟨q5.trans g1, q6.trans g2, q7.trans g3⟩
