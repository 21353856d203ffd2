theorem PutM.eqB {M0 : SMo} {f : SMo → Option SMo} {a b : List Int32} (hf : PutM M0 f a) (h : a = b) : PutM M0 f b := h ▸ hf
theorem PutR.eqB {M0 : SMo} {f : SMo → Option (Int32 × SMo)} {a b : List Int32} (hf : PutR M0 f a) (h : a = b) : PutR M0 f b := h ▸ hf
theorem doctM {ρ : Nat → Int32} {u au ac : Nat} {TL : List Tk} {s : STokens} {M0 : SMo} (T : Tabs ρ u au ac TL s M0) {i : Nat} {tk : Tk} (htk : TL[i]? = some tk) (k4 : tk.1 = 4) {w : List Int32} {g : SMo → Option (Int32 × SMo)} (hg : PutR M0 g w) :
    PutR M0 (fun sMo => (f_Mo_putAll 5789751444030890300 sMo).bind fun x2 =>
            (f_Mo_put 69 x2).bind fun x3 =>
            if ix (nI i) 402 then
            if ((q_Mo_sizes x3) ((nI i) : Int32).toNatClampNeg) ≤ 0 then
              (f_Mo_putAll 0 x3).bind fun x4 =>
              if ix (nI i) 402 then
              if ix (nI i) 402 then
              (f_Mo_putRow ((q_Mo_firsts x4) ((nI i) : Int32).toNatClampNeg) ((q_Mo_sizes x4) ((nI i) : Int32).toNatClampNeg) x4).bind fun x5 =>
              if ix (nI i) 402 then
              if ((q_Mo_sizes x5) ((nI i) : Int32).toNatClampNeg) ≤ 0 then
                (f_Mo_putAll 62 x5).bind fun x6 => g x6
              else
                if ix (nI i) 402 then
                if ((q_Mo_marks x5) ((nI i) : Int32).toNatClampNeg) = 0 then
                  (f_Mo_putAll 62 x5).bind fun x7 => g x7
                else
                  (f_Mo_putAll 4093984 x5).bind fun x8 => g x8
                else none
              else none
              else none
              else none
            else
              (f_Mo_putAll 32 x3).bind fun x9 =>
              if ix (nI i) 402 then
              if ix (nI i) 402 then
              (f_Mo_putRow ((q_Mo_firsts x9) ((nI i) : Int32).toNatClampNeg) ((q_Mo_sizes x9) ((nI i) : Int32).toNatClampNeg) x9).bind fun x10 =>
              if ix (nI i) 402 then
              if ((q_Mo_sizes x10) ((nI i) : Int32).toNatClampNeg) ≤ 0 then
                (f_Mo_putAll 62 x10).bind fun x11 => g x11
              else
                if ix (nI i) 402 then
                if ((q_Mo_marks x10) ((nI i) : Int32).toNatClampNeg) = 0 then
                  (f_Mo_putAll 62 x10).bind fun x12 => g x12
                else
                  (f_Mo_putAll 4093984 x10).bind fun x13 => g x13
                else none
              else none
              else none
              else none
            else none) (tkOut ρ tk ++ w) := by
  obtain ⟨hi, t1, t2, t3, t4, t5, t6, v1, v2, v3, v4⟩ := tokAt T htk
  obtain ⟨m1, m2, m3, m4, m5, -⟩ := T.2.2.2.2.2.2.2.1.2 i tk htk
  have hu := T.1
  have x1 : ix (nI i) 402 := ixI (by omega) (by omega)
  have e1 : (nI i).toNatClampNeg = i := nI_clamp (by omega)
  have own := ownM T htk
  have p0 := putLit (M0 := M0) (w := 5789751444030890300) (bs := [60, 33, 68, 79, 67, 84, 89, 80]) 12 (by decide) (by decide) (by decide)
  have p62 := putLit (M0 := M0) (w := 62) (bs := [62]) 9 (by decide) (by decide) (by decide)
  have px := putLit (M0 := M0) (w := 4093984) (bs := [32, 120, 62]) 9 (by decide) (by decide) (by decide)
  have pz := putLit (M0 := M0) (w := 0) (bs := []) 9 (by decide) (by decide) (by decide)
  have pb := putLit (M0 := M0) (w := 32) (bs := [32]) 9 (by decide) (by decide) (by decide)
  have g3 : ∀ x y, q_Mo_sizes (u_Mo_outSize_out M0 x y) i = nI (tk.2.2.1 - tk.2.1) := fun _ _ => m3
  have g4 : ∀ x y, q_Mo_marks (u_Mo_outSize_out M0 x y) i = tk.2.2.2.1 := fun _ _ => m4
  by_cases hz : tk.2.1 = tk.2.2.1
  · have hp : nI (tk.2.2.1 - tk.2.1) ≤ 0 := by rw [show tk.2.2.1 - tk.2.1 = 0 by omega]; decide
    have l5 : PutR M0 (fun x5 => if ix (nI i) 402 then
              if ((q_Mo_sizes x5) ((nI i) : Int32).toNatClampNeg) ≤ 0 then
                (f_Mo_putAll 62 x5).bind fun x6 => g x6
              else
                if ix (nI i) 402 then
                if ((q_Mo_marks x5) ((nI i) : Int32).toNatClampNeg) = 0 then
                  (f_Mo_putAll 62 x5).bind fun x7 => g x7
                else
                  (f_Mo_putAll 4093984 x5).bind fun x8 => g x8
                else none
              else none) ([62] ++ w) := (p62.seqR hg).eqM (fun x y => by simp only [if_pos x1, e1, g3, if_pos hp])
    have l4 : PutR M0 (fun x4 => if ix (nI i) 402 then
              if ix (nI i) 402 then
              (f_Mo_putRow ((q_Mo_firsts x4) ((nI i) : Int32).toNatClampNeg) ((q_Mo_sizes x4) ((nI i) : Int32).toNatClampNeg) x4).bind fun x5 =>
              if ix (nI i) 402 then
              if ((q_Mo_sizes x5) ((nI i) : Int32).toNatClampNeg) ≤ 0 then
                (f_Mo_putAll 62 x5).bind fun x6 => g x6
              else
                if ix (nI i) 402 then
                if ((q_Mo_marks x5) ((nI i) : Int32).toNatClampNeg) = 0 then
                  (f_Mo_putAll 62 x5).bind fun x7 => g x7
                else
                  (f_Mo_putAll 4093984 x5).bind fun x8 => g x8
                else none
              else none
              else none
              else none) _ := (own.seqR l5).eqM (fun x y => by rw [if_pos x1, if_pos x1])
    refine PutR.eqB (p0.seqR (PutM.seqR (putM1 69) ((pz.seqR l4).eqM (fun x y => ?_)))) ?_
    · rw [if_pos x1]
      simp only [e1, g3, if_pos hp]
    · unfold tkOut
      rw [k4, if_neg (show ¬ (4 : Int32) = 0 by decide), if_neg (show ¬ (4 : Int32) = 3 by decide), if_pos (show (4 : Int32) = 4 from rfl), if_pos hz, slice_nil (by omega)]
      rfl
  · have hp : ¬ nI (tk.2.2.1 - tk.2.1) ≤ 0 := nI_nle (by omega) (by omega)
    have l5 : PutR M0 (fun x5 => if ix (nI i) 402 then
              if ((q_Mo_sizes x5) ((nI i) : Int32).toNatClampNeg) ≤ 0 then
                (f_Mo_putAll 62 x5).bind fun x6 => g x6
              else
                if ix (nI i) 402 then
                if ((q_Mo_marks x5) ((nI i) : Int32).toNatClampNeg) = 0 then
                  (f_Mo_putAll 62 x5).bind fun x7 => g x7
                else
                  (f_Mo_putAll 4093984 x5).bind fun x8 => g x8
                else none
              else none) ((if tk.2.2.2.1 = 0 then [62] else [32, 120, 62]) ++ w) := by
      rcases v3 with v3 | v3
      · rw [if_pos v3]
        exact (p62.seqR hg).eqM (fun x y => by simp only [if_pos x1, e1, g3, if_neg hp, g4, if_pos v3])
      · rw [if_neg (by rw [v3]; decide)]
        exact (px.seqR hg).eqM (fun x y => by simp only [if_pos x1, e1, g3, if_neg hp, g4, if_neg (show ¬ tk.2.2.2.1 = 0 by rw [v3]; decide)])
    have l4 : PutR M0 (fun x4 => if ix (nI i) 402 then
              if ix (nI i) 402 then
              (f_Mo_putRow ((q_Mo_firsts x4) ((nI i) : Int32).toNatClampNeg) ((q_Mo_sizes x4) ((nI i) : Int32).toNatClampNeg) x4).bind fun x5 =>
              if ix (nI i) 402 then
              if ((q_Mo_sizes x5) ((nI i) : Int32).toNatClampNeg) ≤ 0 then
                (f_Mo_putAll 62 x5).bind fun x6 => g x6
              else
                if ix (nI i) 402 then
                if ((q_Mo_marks x5) ((nI i) : Int32).toNatClampNeg) = 0 then
                  (f_Mo_putAll 62 x5).bind fun x7 => g x7
                else
                  (f_Mo_putAll 4093984 x5).bind fun x8 => g x8
                else none
              else none
              else none
              else none) _ := (own.seqR l5).eqM (fun x y => by rw [if_pos x1, if_pos x1])
    refine PutR.eqB (p0.seqR (PutM.seqR (putM1 69) ((pb.seqR l4).eqM (fun x y => ?_)))) ?_
    · rw [if_pos x1]
      simp only [e1, g3, if_neg hp]
    · unfold tkOut
      rw [k4, if_neg (show ¬ (4 : Int32) = 0 by decide), if_neg (show ¬ (4 : Int32) = 3 by decide), if_pos (show (4 : Int32) = 4 from rfl), if_neg hz]
      simp only [List.append_assoc, List.cons_append, List.nil_append]
theorem allM {ρ : Nat → Int32} {u au ac : Nat} {TL : List Tk} {s : STokens} {M0 : SMo} (T : Tabs ρ u au ac TL s M0) : ∀ (d i n : Nat), i + d = TL.length → d < n → PutR M0 (fun M => f_Mo_write_7 n (nI i) M) ((TL.drop i).flatMap (tkOut ρ)) := by
  have ht := T.2.2.2.1
  have hm := T.2.2.2.2.2.1
  have hu := T.1
  intro d
  induction d with
  | zero =>
    intro i n hi hn
    obtain ⟨n, rfl⟩ : ∃ q, n = q + 1 := ⟨n - 1, by omega⟩
    rw [List.drop_eq_nil_of_le (by omega), List.flatMap_nil]
    intro M l hM hl
    refine ⟨M, ?_, by rw [List.append_nil]; exact hM⟩
    obtain ⟨x, y, rfl, rfl, -⟩ := hM
    have g1 : q_Mo_tokens (u_Mo_outSize_out M0 (nI l.length) y) = nI TL.length := hm
    show f_Mo_write_7 (n + 1) (nI i) (u_Mo_outSize_out M0 (nI l.length) y) = _
    rw [f_Mo_write_7, g1, if_pos (nI_le (by omega) (by omega)), List.append_nil]
  | succ d ih =>
    intro i n hi hn
    obtain ⟨n, rfl⟩ : ∃ q, n = q + 1 := ⟨n - 1, by omega⟩
    have hlt : i < TL.length := by omega
    have htk := List.getElem?_eq_getElem hlt
    rw [List.drop_eq_getElem_cons hlt, List.flatMap_cons]
    generalize TL[i] = tk at htk ⊢
    obtain ⟨hi4, t1, t2, t3, t4, t5, t6, v1, v2, v3, v4⟩ := tokAt T htk
    obtain ⟨m1, m2, m3, m4, m5, -⟩ := T.2.2.2.2.2.2.2.1.2 i tk htk
    have x1 : ix (nI i) 402 := ixI (by omega) (by omega)
    have e1 : (nI i).toNatClampNeg = i := nI_clamp (by omega)
    have nx := ih (i + 1) n (by omega) (by omega)
    have g1 : ∀ x y, q_Mo_tokens (u_Mo_outSize_out M0 x y) = nI TL.length := fun _ _ => hm
    have gk : ∀ x y, q_Mo_kinds (u_Mo_outSize_out M0 x y) i = tk.1 := fun _ _ => m1
    have hge : ¬ nI TL.length ≤ nI i := nI_ge hlt (by omega)
    by_cases k0 : tk.1 = 0
    · have w := write26 T htk (k7 := fun v1 sMo => f_Mo_write_7 n v1 sMo) nx (tk.2.2.1 - tk.2.1) 0 FU (by omega) (by unfold FU; omega)
      refine (w.eqB ?_).eqM (fun x y => ?_)
      · unfold tkOut; rw [if_pos k0, Nat.add_zero]
      · rw [f_Mo_write_7, g1, if_neg hge, if_pos x1]
        simp only [e1, gk, if_pos k0]
        rfl
    by_cases k3 : tk.1 = 3
    · have l14 : PutR M0 (fun x14 => if ix (nI i) 402 then
          if ix (nI i) 402 then
          (f_Mo_putRow ((q_Mo_firsts x14) ((nI i) : Int32).toNatClampNeg) ((q_Mo_sizes x14) ((nI i) : Int32).toNatClampNeg) x14).bind fun x15 =>
          (f_Mo_putAll 4074797 x15).bind fun x16 =>
          f_Mo_write_7 n (nI (i + 1)) x16
          else none
          else none) _ := ((ownM T htk).seqR ((putLit (w := 4074797) (bs := [45, 45, 62]) 9 (by decide) (by decide) (by decide)).seqR nx)).eqM (fun x y => by rw [if_pos x1, if_pos x1])
      refine (((putLit (w := 757932348) (bs := [60, 33, 45, 45]) 9 (by decide) (by decide) (by decide)).seqR l14).eqB ?_).eqM (fun x y => ?_)
      · unfold tkOut; rw [if_neg k0, if_pos k3]
        simp only [List.append_assoc]
      · rw [f_Mo_write_7, g1, if_neg hge, if_pos x1]
        simp only [e1, gk, if_neg k0, if_pos x1, if_pos k3, nI_1]
    by_cases k4 : tk.1 = 4
    · refine (doctM T htk k4 nx).eqM (fun x y => ?_)
      rw [f_Mo_write_7, g1, if_neg hge, if_pos x1]
      simp only [e1, gk, if_neg k0, if_pos x1, if_neg k3, if_pos k4, nI_1]
    · refine (((tagM T htk).seqR nx).eqB ?_).eqM (fun x y => ?_)
      · unfold tkOut; rw [if_neg k0, if_neg k3, if_neg k4]
      · rw [f_Mo_write_7, g1, if_neg hge, if_pos x1]
        simp only [e1, gk, if_neg k0, if_pos x1, if_neg k3, if_neg k4, nI_1]
theorem op_write : Op_write RelS := by
  intro S M h
  obtain ⟨hT, hF, ⟨ρ, u, au, ac, TL, hu, hau, hac, ht, hc, hm, hC, hM, hV, hρ, hw⟩, hO, hcn⟩ := h
  have T : Tabs ρ u au ac TL S.2.2.1 M := ⟨hu, hau, hac, ht, hc, hm, hC, hM, hV, hρ⟩
  have a1 := allC T TL.length 0 FU (by omega) (by unfold FU; omega)
  have a2 := allM T TL.length 0 FU (by omega) (by unfold FU; omega)
  rw [List.drop_zero] at a1 a2
  obtain ⟨s', e1, h1⟩ := a1 (u_Out_length S.2.2.2.2.2.2 0) [] ⟨rfl, fun k c h => by simp at h⟩ (by show 0 + _ ≤ 3200; rw [Nat.zero_add]; exact hw)
  obtain ⟨M', e2, h2⟩ := a2 (u_Mo_outSize M 0) [] ⟨0, q_Mo_out M, rfl, rfl, fun k c h => by simp at h⟩ (by show 0 + _ ≤ 3200; rw [Nat.zero_add]; exact hw)
  rw [List.nil_append] at h1 e2 h2
  obtain ⟨x, y, rfl, rfl, h3⟩ := h2
  refine ⟨nI (wOut ρ TL).length, s', u_Mo_outSize_out M (nI (wOut ρ TL).length) y, ?_, e2, hT, hF, ⟨ρ, u, au, ac, TL, hu, hau, hac, ht, hc, hm, hC, hM, hV, hρ, hw⟩, ⟨(wOut ρ TL).length, hw, h1.1, rfl, fun k hk => ?_⟩, hcn⟩
  · unfold f_Mt_write f_Out_putAll f_Out_length
    have e1' : f_Out_putAll_7 FU 0 (u_Out_length S.2.2.2.2.2.2 0) S.2.2.1 = some s' := e1
    rw [e1', Option.bind_some, h1.1]
    rfl
  · obtain ⟨c, hck⟩ : ∃ c, (wOut ρ TL)[k]? = some c := ⟨_, List.getElem?_eq_getElem hk⟩
    have f1 := h1.2 k c hck
    have f2 := h3 k c hck
    refine ⟨f1.trans f2.symm, ?_⟩
    show fits .byte (.int (q_Out_bytes s' k)) = true
    rw [f1]
    exact fit_nar _
