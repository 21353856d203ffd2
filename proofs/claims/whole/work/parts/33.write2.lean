theorem tag31 {ρ : Nat → Int32} {u au ac : Nat} {TL : List Tk} {s : STokens} {M : SMo} (T : Tabs ρ u au ac TL s M) {i : Nat} {tk : Tk} (htk : TL[i]? = some tk) : ∀ (d j n : Nat), j + d = tk.2.2.2.2.length → d < n → PutC (fun o => f_Out_putTag_31 n (nI i) (nI j) o s) ((tk.2.2.2.2.drop j).flatMap (attOut ρ) ++ (if tk.2.2.2.1 = 0 then [62] else [47, 62])) := by
  obtain ⟨hi, t1, t2, t3, t4, t5, t6, v1, v2, v3, v4⟩ := tokAt T htk
  intro d
  induction d with
  | zero =>
    intro j n hj hn
    obtain ⟨n, rfl⟩ : ∃ q, n = q + 1 := ⟨n - 1, by omega⟩
    rw [List.drop_eq_nil_of_le (by omega), List.flatMap_nil, List.nil_append]
    rcases v3 with v3 | v3
    · rw [if_pos v3]
      refine (putByteC 62).eqf (fun o => ?_)
      rw [f_Out_putTag_31, t4, Option.bind_some, if_pos (nI_le (by omega) (by omega)), t3, Option.bind_some, v3, if_neg (by decide), bbC]
    · rw [if_neg (by rw [v3]; decide)]
      refine ((putByteC 47).seq (putByteC 62)).eqf (fun o => ?_)
      rw [f_Out_putTag_31, t4, Option.bind_some, if_pos (nI_le (by omega) (by omega)), t3, Option.bind_some, v3, if_pos rfl]
      simp only [bbC]
  | succ d ih =>
    intro j n hj hn
    obtain ⟨n, rfl⟩ : ∃ q, n = q + 1 := ⟨n - 1, by omega⟩
    have hlt : j < tk.2.2.2.2.length := by omega
    rw [List.drop_eq_getElem_cons hlt, List.flatMap_cons, List.append_assoc]
    refine ((attC T htk (List.getElem?_eq_getElem hlt)).seq (ih (j + 1) n (by omega) (by omega))).eqf (fun o => ?_)
    rw [f_Out_putTag_31, t4, Option.bind_some, if_neg (nI_ge hlt (by omega)), nI_1]
theorem tokenC {ρ : Nat → Int32} {u au ac : Nat} {TL : List Tk} {s : STokens} {M : SMo} (T : Tabs ρ u au ac TL s M) {i : Nat} {tk : Tk} (htk : TL[i]? = some tk) : PutC (fun o => if tk.1 = 0 then f_Out_putText (nI i) o s else if tk.1 = 3 then f_Out_putComment (nI i) o s else if tk.1 = 4 then f_Out_putDoctype (nI i) o s else f_Out_putTag (nI i) o s) (tkOut ρ tk) := by
  obtain ⟨hi, t1, t2, t3, t4, t5, t6, v1, v2, v3, v4⟩ := tokAt T htk
  have hu := T.1
  have own : PutC (fun o => f_Out_putOwn (nI i) o s) ((slice ρ tk.2.1 tk.2.2.1).map encP) := ownC T htk (tk.2.2.1 - tk.2.1) 0 FU (by omega) (by unfold FU; omega)
  unfold tkOut
  by_cases k0 : tk.1 = 0
  · simp only [if_pos k0]
    exact textC T htk (tk.2.2.1 - tk.2.1) 0 FU (by omega) (by unfold FU; omega)
  by_cases k3 : tk.1 = 3
  · simp only [if_neg k0, if_pos k3]
    rw [List.append_assoc]
    refine ((putStringC (i := 4) (by decide)).seq (own.seq (putStringC (i := 5) (by decide)))).eqf (fun o => ?_)
    unfold f_Out_putComment
    simp only [bbC]
  by_cases k4 : tk.1 = 4
  · simp only [if_neg k0, if_neg k3, if_pos k4]
    by_cases hz : tk.2.1 = tk.2.2.1
    · rw [if_pos hz]
      refine ((putStringC (i := 6) (by decide)).seq (putByteC 62)).eqf (fun o => ?_)
      unfold f_Out_putDoctype
      simp only [t2, Option.bind_some, if_pos (show nI (tk.2.2.1 - tk.2.1) ≤ 0 by rw [show tk.2.2.1 - tk.2.1 = 0 by omega]; decide), bbC]
    · rw [if_neg hz]
      have hp : ¬ nI (tk.2.2.1 - tk.2.1) ≤ 0 := nI_nle (by omega) (by omega)
      rcases v3 with v3 | v3
      · rw [if_pos v3, List.append_assoc]
        refine ((putStringC (i := 6) (by decide)).seq ((putByteC 32).seq (own.seq (putByteC 62)))).eqf (fun o => ?_)
        unfold f_Out_putDoctype
        simp only [t2, t3, Option.bind_some, if_neg hp, v3, if_neg (show ¬ (0 : Int32) = 1 by decide), bbC]
      · rw [if_neg (by rw [v3]; decide), List.append_assoc]
        refine ((putStringC (i := 6) (by decide)).seq ((putByteC 32).seq (own.seq ((putStringC (i := 7) (by decide)).seq (putByteC 62))))).eqf (fun o => ?_)
        unfold f_Out_putDoctype
        simp only [t2, t3, Option.bind_some, if_neg hp, v3, if_true, bbC]
  · simp only [if_neg k0, if_neg k3, if_neg k4]
    have tg := tag31 T htk tk.2.2.2.2.length 0 FU (by omega) (by unfold FU; omega)
    rw [List.drop_zero] at tg
    by_cases k2 : tk.1 = 2
    · rw [if_pos k2, List.append_assoc, List.append_assoc]
      refine ((putByteC 60).seq ((putByteC 47).seq (own.seq tg))).eqf (fun o => ?_)
      unfold f_Out_putTag
      simp only [t1, Option.bind_some, k2, if_true]
      rfl
    · rw [if_neg k2, List.append_assoc, List.append_assoc]
      refine ((putByteC 60).seq (own.seq tg)).eqf (fun o => ?_)
      unfold f_Out_putTag
      simp only [t1, Option.bind_some, if_neg k2]
      rfl
theorem allC {ρ : Nat → Int32} {u au ac : Nat} {TL : List Tk} {s : STokens} {M : SMo} (T : Tabs ρ u au ac TL s M) : ∀ (d i n : Nat), i + d = TL.length → d < n → PutC (fun o => f_Out_putAll_7 n (nI i) o s) ((TL.drop i).flatMap (tkOut ρ)) := by
  have ht := T.2.2.2.1
  have hc := T.2.2.2.2.1
  intro d
  induction d with
  | zero =>
    intro i n hi hn
    obtain ⟨n, rfl⟩ : ∃ q, n = q + 1 := ⟨n - 1, by omega⟩
    rw [List.drop_eq_nil_of_le (by omega), List.flatMap_nil]
    refine PutC.nil.eqf (fun o => ?_)
    rw [f_Out_putAll_7, f_Tokens_count, hc, if_pos (nI_le (by omega) (by omega))]
  | succ d ih =>
    intro i n hi hn
    obtain ⟨n, rfl⟩ : ∃ q, n = q + 1 := ⟨n - 1, by omega⟩
    have hlt : i < TL.length := by omega
    rw [List.drop_eq_getElem_cons hlt, List.flatMap_cons]
    have htk := List.getElem?_eq_getElem hlt
    obtain ⟨hi, t1, -⟩ := tokAt T htk
    refine ((tokenC T htk).seq (ih (i + 1) n (by omega) (by omega))).eqf (fun o => ?_)
    rw [f_Out_putAll_7, f_Tokens_count, hc, if_neg (nI_ge hlt (by omega)), t1, Option.bind_some]
    simp only [nI_1]
    by_cases k0 : (TL[i]).1 = 0
    · simp only [if_pos k0]
    by_cases k3 : (TL[i]).1 = 3
    · simp only [if_neg k0, if_pos k3]
    by_cases k4 : (TL[i]).1 = 4
    · simp only [if_neg k0, if_neg k3, if_pos k4]
    · simp only [if_neg k0, if_neg k3, if_neg k4]
/-- the reference -/
theorem rowM {M0 : SMo} {ρ : Nat → Int32} {u a m : Nat} (hu : u ≤ 400) (hr : ∀ k, k < u → q_Mo_row M0 k = ρ k) (ham : a + m ≤ u) : ∀ (d k n : Nat), k + d = m → d < n → PutM M0 (fun M => f_Mo_putRow_2 n (nI a) (nI m) (nI k) M) ((slice ρ (a + k) (a + m)).map encP) := by
  intro d
  induction d with
  | zero =>
    intro k n hk hn
    obtain ⟨n, rfl⟩ : ∃ q, n = q + 1 := ⟨n - 1, by omega⟩
    rw [slice_nil (by omega), List.map_nil]
    refine PutM.nil.eqf (fun o => ?_)
    rw [f_Mo_putRow_2, if_pos (nI_le (by omega) (by omega))]
  | succ d ih =>
    intro k n hk hn
    obtain ⟨n, rfl⟩ : ∃ q, n = q + 1 := ⟨n - 1, by omega⟩
    have x1 : ix (nI (a + k)) 810 := ixI (by omega) (by omega)
    rw [slice_cons (by omega), List.map_cons]
    refine ((putM1 (encP (ρ (a + k)))).seq (ih (k + 1) n (by omega) (by omega))).eqM (fun x y => ?_)
    have er : q_Mo_row (u_Mo_outSize_out M0 x y) (a + k) = ρ (a + k) := hr (a + k) (by omega)
    rw [f_Mo_putRow_2, if_neg (nI_ge (by omega) (by omega)), nI_add, if_pos x1, if_pos x1, nI_clamp (by omega), er, nI_1]
    unfold encP
    by_cases h : ρ (a + k) = 65533
    · rw [if_pos h, if_pos h]
    · rw [if_neg h, if_neg h]
theorem tag99 {ρ : Nat → Int32} {u au ac : Nat} {TL : List Tk} {s : STokens} {M0 : SMo} (T : Tabs ρ u au ac TL s M0) {i : Nat} {k46 : Int32 → Int32 → SMo → Option SMo} {w : List Int32} {q b e : Nat} (hq : q < 402) (q5 : q_Mo_valueAt M0 q = nI b) (q6 : q_Mo_valueSize M0 q = nI (e - b)) (hbe : b ≤ e) (he : e ≤ u) (hk : PutM M0 (fun M => k46 (nI i) (nI (q + 1)) M) w) : ∀ (d k n : Nat), b + k + d = e → d < n → PutM M0 (fun M => f_Mo_putTag_99 k46 n (nI i) (nI q) (nI k) M) ((slice ρ (b + k) e).flatMap encV ++ ([34] ++ w)) := by
  have hu := T.1
  have x1 : ix (nI q) 402 := ixI (by omega) (by omega)
  have e1 : (nI q).toNatClampNeg = q := nI_clamp (by omega)
  intro d
  induction d with
  | zero =>
    intro k n hkd hn
    obtain ⟨n, rfl⟩ : ∃ q, n = q + 1 := ⟨n - 1, by omega⟩
    rw [slice_nil (by omega), List.flatMap_nil, List.nil_append]
    refine ((putM1 34).seq hk).eqM (fun x y => ?_)
    have g6 : q_Mo_valueSize (u_Mo_outSize_out M0 x y) q = nI (e - b) := q6
    rw [f_Mo_putTag_99]
    simp only [if_pos x1, e1, g6, if_pos (show nI (e - b) ≤ nI k from nI_le (by omega) (by omega)), nI_1]
  | succ d ih =>
    intro k n hkd hn
    obtain ⟨n, rfl⟩ : ∃ q, n = q + 1 := ⟨n - 1, by omega⟩
    obtain ⟨c, hc, ec⟩ := T.2.2.2.2.2.2.2.2.2 (b + k) (by omega)
    have x2 : ix (nI (b + k)) 810 := ixI (by omega) (by omega)
    rw [slice_cons (by omega), List.flatMap_cons, ec, List.append_assoc]
    refine ((charV hc).seq (ih (k + 1) n (by omega) (by omega))).eqM (fun x y => ?_)
    have g6 : q_Mo_valueSize (u_Mo_outSize_out M0 x y) q = nI (e - b) := q6
    have g5 : q_Mo_valueAt (u_Mo_outSize_out M0 x y) q = nI b := q5
    have er : q_Mo_row (u_Mo_outSize_out M0 x y) (b + k) = nI c := (T.2.2.2.2.2.2.2.1.1 (b + k) (by omega)).trans ec
    rw [f_Mo_putTag_99]
    simp only [if_pos x1, e1, g6, if_neg (show ¬ nI (e - b) ≤ nI k from nI_ge (by omega) (by omega)), g5, nI_add, if_pos x2, nI_clamp (show b + k < 2 ^ 31 by omega), er, nI_1]
theorem tag46 {ρ : Nat → Int32} {u au ac : Nat} {TL : List Tk} {s : STokens} {M0 : SMo} (T : Tabs ρ u au ac TL s M0) {i fm : Nat} {tk : Tk} (htk : TL[i]? = some tk) (hfm : q_Mo_attributes M0 i = nI fm) (hfl : fm + tk.2.2.2.2.length ≤ ac) : ∀ (d j n : Nat), j + d = tk.2.2.2.2.length → d < n → PutM M0 (fun M => f_Mo_putTag_46 n (nI i) (nI (fm + j)) M) ((tk.2.2.2.2.drop j).flatMap (attOut ρ) ++ (if tk.2.2.2.1 = 0 then [62] else [47, 62])) := by
  obtain ⟨hi, t1, t2, t3, t4, t5, t6, v1, v2, v3, v4⟩ := tokAt T htk
  obtain ⟨m1, m2, m3, m4, m5, -⟩ := T.2.2.2.2.2.2.2.1.2 i tk htk
  have hu := T.1
  have hac := T.2.2.1
  have x1 : ix (nI i) 402 := ixI (by omega) (by omega)
  have e1 : (nI i).toNatClampNeg = i := nI_clamp (by omega)
  intro d
  induction d with
  | zero =>
    intro j n hj hn
    obtain ⟨n, rfl⟩ : ∃ q, n = q + 1 := ⟨n - 1, by omega⟩
    rw [List.drop_eq_nil_of_le (by omega), List.flatMap_nil, List.nil_append]
    rcases v3 with v3 | v3
    · rw [if_pos v3]
      refine (putM1 62).eqM (fun x y => ?_)
      have g1 : q_Mo_attributes (u_Mo_outSize_out M0 x y) i = nI fm := hfm
      have g2 : q_Mo_manyOf (u_Mo_outSize_out M0 x y) i = nI tk.2.2.2.2.length := m5
      have g3 : q_Mo_marks (u_Mo_outSize_out M0 x y) i = 0 := m4.trans v3
      rw [f_Mo_putTag_46]
      simp only [if_pos x1, e1, g1, g2, nI_add, if_pos (show nI (fm + tk.2.2.2.2.length) ≤ nI (fm + j) from nI_le (by omega) (by omega)), g3, if_true, bbM]
    · rw [if_neg (by rw [v3]; decide)]
      refine ((putM1 47).seq (putM1 62)).eqM (fun x y => ?_)
      have g1 : q_Mo_attributes (u_Mo_outSize_out M0 x y) i = nI fm := hfm
      have g2 : q_Mo_manyOf (u_Mo_outSize_out M0 x y) i = nI tk.2.2.2.2.length := m5
      have g3 : q_Mo_marks (u_Mo_outSize_out M0 x y) i = 1 := m4.trans v3
      rw [f_Mo_putTag_46]
      simp only [if_pos x1, e1, g1, g2, nI_add, if_pos (show nI (fm + tk.2.2.2.2.length) ≤ nI (fm + j) from nI_le (by omega) (by omega)), g3, if_neg (show ¬ (1 : Int32) = 0 by decide), bbM]
  | succ d ih =>
    intro j n hj hn
    obtain ⟨n, rfl⟩ : ∃ q, n = q + 1 := ⟨n - 1, by omega⟩
    have hlt : j < tk.2.2.2.2.length := by omega
    obtain ⟨p1, p2, p3, p4, fm', q1, q2, q3, q4, q5, q6, q7, q8, q9⟩ := attAt T.1 T.2.1 T.2.2.1 T.2.2.2.1 T.2.2.2.2.2.2.1 T.2.2.2.2.2.2.2.1 T.2.2.2.2.2.2.2.2.1 htk (List.getElem?_eq_getElem hlt)
    have hff : fm' = fm := (nI_eq (by omega) (by omega)).mp (q1.symm.trans hfm)
    subst hff
    have x2 : ix (nI (fm' + j)) 402 := ixI (by omega) (by omega)
    have e2 : (nI (fm' + j)).toNatClampNeg = fm' + j := nI_clamp (by omega)
    generalize hA : tk.2.2.2.2[j] = A at *
    have nm := rowM (M0 := M0) (a := A.1) (m := A.2.1 - A.1) hu T.2.2.2.2.2.2.2.1.1 (by omega) (A.2.1 - A.1) 0 FU (by omega) (by unfold FU; omega)
    have vl := tag99 T (i := i) q2 q5 q6 q8 q9 (ih (j + 1) n (by omega) (by omega)) (A.2.2 - A.2.1) 0 FU (by omega) (by unfold FU; omega)
    have inner : PutM M0 (fun x8 => if ix (nI (fm' + j)) 402 then if ix (nI (fm' + j)) 402 then (f_Mo_putRow (q_Mo_nameAt x8 (nI (fm' + j)).toNatClampNeg) (q_Mo_nameSize x8 (nI (fm' + j)).toNatClampNeg) x8).bind fun x9 => (f_Mo_put 61 x9).bind fun x10 => (f_Mo_put 34 x10).bind fun x11 => f_Mo_putTag_99 (fun v1 v2 sMo => f_Mo_putTag_46 n v1 v2 sMo) FU (nI i) (nI (fm' + j)) 0 x11 else none else none) _ := (nm.seq ((putM1 61).seq ((putM1 34).seq vl))).eqM (fun x y => by
      have g3 : q_Mo_nameAt (u_Mo_outSize_out M0 x y) (fm' + j) = nI A.1 := q3
      have g4 : q_Mo_nameSize (u_Mo_outSize_out M0 x y) (fm' + j) = nI (A.2.1 - A.1) := q4
      simp only [if_pos x2, e2, g3, g4]
      rfl)
    have all := (putM1 (M0 := M0) 32).seq inner
    rw [List.drop_eq_getElem_cons hlt, List.flatMap_cons, hA]
    have ee : attOut ρ A ++ List.flatMap (attOut ρ) (List.drop (j + 1) tk.2.2.2.2) ++ (if tk.2.2.2.1 = 0 then [62] else [47, 62]) = [32] ++ ((slice ρ (A.1 + 0) (A.1 + (A.2.1 - A.1))).map encP ++ ([61] ++ ([34] ++ ((slice ρ (A.2.1 + 0) A.2.2).flatMap encV ++ ([34] ++ (List.flatMap (attOut ρ) (List.drop (j + 1) tk.2.2.2.2) ++ (if tk.2.2.2.1 = 0 then [62] else [47, 62]))))))) := by
      unfold attOut
      rw [show A.1 + (A.2.1 - A.1) = A.2.1 by omega]
      simp only [List.append_assoc, Nat.add_zero, List.cons_append, List.nil_append]
    rw [ee]
    refine all.eqM (fun x y => ?_)
    have g1 : q_Mo_attributes (u_Mo_outSize_out M0 x y) i = nI fm' := hfm
    have g2 : q_Mo_manyOf (u_Mo_outSize_out M0 x y) i = nI tk.2.2.2.2.length := m5
    rw [f_Mo_putTag_46]
    simp only [if_pos x1, e1, g1, g2, nI_add, if_neg (show ¬ nI (fm' + tk.2.2.2.2.length) ≤ nI (fm' + j) from nI_ge (by omega) (by omega))]
