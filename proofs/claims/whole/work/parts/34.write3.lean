theorem write26 {ρ : Nat → Int32} {u au ac : Nat} {TL : List Tk} {s : STokens} {M0 : SMo} (T : Tabs ρ u au ac TL s M0) {i : Nat} {tk : Tk} (htk : TL[i]? = some tk) {k7 : Int32 → SMo → Option (Int32 × SMo)} {w : List Int32} (hk : PutR M0 (fun M => k7 (nI (i + 1)) M) w) : ∀ (d k n : Nat), tk.2.1 + k + d = tk.2.2.1 → d < n → PutR M0 (fun M => f_Mo_write_26 k7 n (nI i) (nI k) M) ((slice ρ (tk.2.1 + k) tk.2.2.1).flatMap encT ++ w) := by
  obtain ⟨hi, t1, t2, t3, t4, t5, t6, v1, v2, v3, v4⟩ := tokAt T htk
  obtain ⟨m1, m2, m3, m4, m5, -⟩ := T.2.2.2.2.2.2.2.1.2 i tk htk
  have hu := T.1
  have x1 : ix (nI i) 402 := ixI (by omega) (by omega)
  have e1 : (nI i).toNatClampNeg = i := nI_clamp (by omega)
  intro d
  induction d with
  | zero =>
    intro k n hkd hn
    obtain ⟨n, rfl⟩ : ∃ q, n = q + 1 := ⟨n - 1, by omega⟩
    rw [slice_nil (by omega), List.flatMap_nil, List.nil_append]
    refine hk.eqM (fun x y => ?_)
    have g3 : q_Mo_sizes (u_Mo_outSize_out M0 x y) i = nI (tk.2.2.1 - tk.2.1) := m3
    rw [f_Mo_write_26]
    simp only [if_pos x1, e1, g3, if_pos (show nI (tk.2.2.1 - tk.2.1) ≤ nI k from nI_le (by omega) (by omega)), nI_1]
  | succ d ih =>
    intro k n hkd hn
    obtain ⟨n, rfl⟩ : ∃ q, n = q + 1 := ⟨n - 1, by omega⟩
    obtain ⟨c, hc, ec⟩ := T.2.2.2.2.2.2.2.2.2 (tk.2.1 + k) (by omega)
    have x2 : ix (nI (tk.2.1 + k)) 810 := ixI (by omega) (by omega)
    rw [slice_cons (by omega), List.flatMap_cons, ec, List.append_assoc]
    refine ((charT hc).seqR (ih (k + 1) n (by omega) (by omega))).eqM (fun x y => ?_)
    have g3 : q_Mo_sizes (u_Mo_outSize_out M0 x y) i = nI (tk.2.2.1 - tk.2.1) := m3
    have g2 : q_Mo_firsts (u_Mo_outSize_out M0 x y) i = nI tk.2.1 := m2
    have er : q_Mo_row (u_Mo_outSize_out M0 x y) (tk.2.1 + k) = nI c := (T.2.2.2.2.2.2.2.1.1 (tk.2.1 + k) (by omega)).trans ec
    rw [f_Mo_write_26]
    simp only [if_pos x1, e1, g3, if_neg (show ¬ nI (tk.2.2.1 - tk.2.1) ≤ nI k from nI_ge (by omega) (by omega)), g2, nI_add, if_pos x2, nI_clamp (show tk.2.1 + k < 2 ^ 31 by omega), er, nI_1]
theorem ownM {ρ : Nat → Int32} {u au ac : Nat} {TL : List Tk} {s : STokens} {M0 : SMo} (T : Tabs ρ u au ac TL s M0) {i : Nat} {tk : Tk} (htk : TL[i]? = some tk) : PutM M0 (fun x => f_Mo_putRow (q_Mo_firsts x (nI i).toNatClampNeg) (q_Mo_sizes x (nI i).toNatClampNeg) x) ((slice ρ tk.2.1 tk.2.2.1).map encP) := by
  obtain ⟨hi, t1, t2, t3, t4, t5, t6, v1, v2, v3, v4⟩ := tokAt T htk
  obtain ⟨m1, m2, m3, m4, m5, -⟩ := T.2.2.2.2.2.2.2.1.2 i tk htk
  have hu := T.1
  have e1 : (nI i).toNatClampNeg = i := nI_clamp (by omega)
  have nm := rowM (M0 := M0) (a := tk.2.1) (m := tk.2.2.1 - tk.2.1) hu T.2.2.2.2.2.2.2.1.1 (by omega) (tk.2.2.1 - tk.2.1) 0 FU (by omega) (by unfold FU; omega)
  rw [Nat.add_zero, show tk.2.1 + (tk.2.2.1 - tk.2.1) = tk.2.2.1 by omega] at nm
  refine nm.eqM (fun x y => ?_)
  have g3 : q_Mo_sizes (u_Mo_outSize_out M0 x y) i = nI (tk.2.2.1 - tk.2.1) := m3
  have g2 : q_Mo_firsts (u_Mo_outSize_out M0 x y) i = nI tk.2.1 := m2
  simp only [e1, g2, g3]
  rfl
theorem tagM {ρ : Nat → Int32} {u au ac : Nat} {TL : List Tk} {s : STokens} {M0 : SMo} (T : Tabs ρ u au ac TL s M0) {i : Nat} {tk : Tk} (htk : TL[i]? = some tk) : PutM M0 (f_Mo_putTag (nI i)) ((if tk.1 = 2 then [60, 47] else [60]) ++ (slice ρ tk.2.1 tk.2.2.1).map encP ++ tk.2.2.2.2.flatMap (attOut ρ) ++ (if tk.2.2.2.1 = 0 then [62] else [47, 62])) := by
  obtain ⟨hi, t1, t2, t3, t4, t5, t6, v1, v2, v3, v4⟩ := tokAt T htk
  obtain ⟨m1, m2, m3, m4, m5, fm, m6, m7, -⟩ := T.2.2.2.2.2.2.2.1.2 i tk htk
  have e1 : (nI i).toNatClampNeg = i := nI_clamp (by omega)
  have x1 : ix (nI i) 402 := ixI (by omega) (by omega)
  have own := ownM T htk
  have tg := tag46 T htk m6 m7 tk.2.2.2.2.length 0 FU (by omega) (by unfold FU; omega)
  rw [List.drop_zero, Nat.add_zero] at tg
  have tl : PutM M0 (fun x4 => if ix (nI i) 402 then f_Mo_putTag_46 FU (nI i) (q_Mo_attributes x4 (nI i).toNatClampNeg) x4 else none) _ := tg.eqM (fun x y => by
    have g6 : q_Mo_attributes (u_Mo_outSize_out M0 x y) i = nI fm := m6
    simp only [if_pos x1, e1, g6])
  have mid : PutM M0 (fun x3 => if ix (nI i) 402 then if ix (nI i) 402 then (f_Mo_putRow (q_Mo_firsts x3 (nI i).toNatClampNeg) (q_Mo_sizes x3 (nI i).toNatClampNeg) x3).bind fun x4 => if ix (nI i) 402 then f_Mo_putTag_46 FU (nI i) (q_Mo_attributes x4 (nI i).toNatClampNeg) x4 else none else none else none) _ := (own.seq tl).eqM (fun x y => by rw [if_pos x1, if_pos x1])
  by_cases k2 : tk.1 = 2
  · rw [if_pos k2, List.append_assoc, List.append_assoc]
    refine ((putLit (w := 12092) (bs := [60, 47]) 9 (by decide) (by decide) (by decide)).seq mid).eqM (fun x y => ?_)
    have g1 : q_Mo_kinds (u_Mo_outSize_out M0 x y) i = 2 := m1.trans k2
    unfold f_Mo_putTag
    rw [if_pos x1]
    simp only [e1, if_pos g1]
  · rw [if_neg k2, List.append_assoc, List.append_assoc]
    refine ((putLit (w := 60) (bs := [60]) 9 (by decide) (by decide) (by decide)).seq mid).eqM (fun x y => ?_)
    have g1 : ¬ q_Mo_kinds (u_Mo_outSize_out M0 x y) i = 2 := fun h => k2 (m1.symm.trans h)
    unfold f_Mo_putTag
    rw [if_pos x1]
    simp only [e1, if_neg g1]
