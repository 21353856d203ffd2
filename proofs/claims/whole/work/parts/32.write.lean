theorem PutM.eqM {M0 : SMo} {f g : SMo → Option SMo} {a : List Int32} (hf : PutM M0 f a) (h : ∀ (x : Int32) (y : Nat → Int32), g (u_Mo_outSize_out M0 x y) = f (u_Mo_outSize_out M0 x y)) : PutM M0 g a := by
  intro M l hM hl
  obtain ⟨M', e, h'⟩ := hf M l hM hl
  obtain ⟨x, y, rfl, -⟩ := hM
  exact ⟨M', by rw [h, e], h'⟩
def PutR (M0 : SMo) (f : SMo → Option (Int32 × SMo)) (w : List Int32) : Prop := ∀ (M : SMo) (l : List Int32), OutM M0 l M → l.length + w.length ≤ 3200 → ∃ M', f M = some (nI (l ++ w).length, M') ∧ OutM M0 (l ++ w) M'
theorem PutM.seqR {M0 : SMo} {f : SMo → Option SMo} {g : SMo → Option (Int32 × SMo)} {a b : List Int32} (hf : PutM M0 f a) (hg : PutR M0 g b) : PutR M0 (fun s => (f s).bind g) (a ++ b) := by
  intro s l h hl
  rw [List.length_append] at hl
  obtain ⟨s1, e1, h1⟩ := hf s l h (by omega)
  obtain ⟨s2, e2, h2⟩ := hg s1 (l ++ a) h1 (by rw [List.length_append]; omega)
  refine ⟨s2, ?_, by rw [← List.append_assoc]; exact h2⟩
  show (f s).bind g = _
  rw [e1, Option.bind_some, e2, List.append_assoc]
theorem PutR.eqM {M0 : SMo} {f g : SMo → Option (Int32 × SMo)} {a : List Int32} (hf : PutR M0 f a) (h : ∀ (x : Int32) (y : Nat → Int32), g (u_Mo_outSize_out M0 x y) = f (u_Mo_outSize_out M0 x y)) : PutR M0 g a := by
  intro M l hM hl
  obtain ⟨M', e, h'⟩ := hf M l hM hl
  obtain ⟨x, y, rfl, -⟩ := hM
  exact ⟨M', by rw [h, e], h'⟩
theorem slice_nil {ρ : Nat → Int32} {a b : Nat} (h : b ≤ a) : slice ρ a b = [] := by unfold slice; rw [Nat.sub_eq_zero_of_le h]; rfl
theorem slice_cons {ρ : Nat → Int32} {a b : Nat} (h : a < b) : slice ρ a b = ρ a :: slice ρ (a + 1) b := by
  unfold slice
  obtain ⟨d, rfl⟩ : ∃ d, b = a + (d + 1) := ⟨b - a - 1, by omega⟩
  rw [show a + (d + 1) - a = d + 1 by omega, show a + (d + 1) - (a + 1) = d by omega, List.range_succ_eq_map, List.map_cons, List.map_map]
  congr 1
  apply List.map_congr_left
  intro k _
  show ρ (a + Nat.succ k) = ρ (a + 1 + k)
  congr 1
  omega
/-- both tables, and the class's getters at a token -/
def Tabs (ρ : Nat → Int32) (u au ac : Nat) (TL : List Tk) (s : STokens) (M : SMo) : Prop := u ≤ 400 ∧ au ≤ 400 ∧ ac ≤ 402 ∧ TL.length ≤ 400 ∧ q_Tokens_count s = nI TL.length ∧ q_Mo_tokens M = nI TL.length ∧ TokC ρ u au TL s ∧ TokM ρ u ac TL M ∧ (∀ tk ∈ TL, TkV u tk) ∧ (∀ k, k < u → ∃ c : Nat, c ≤ 1114111 ∧ ρ k = nI c)
theorem tokAt {ρ : Nat → Int32} {u au ac : Nat} {TL : List Tk} {s : STokens} {M : SMo} (T : Tabs ρ u au ac TL s M) {i : Nat} {tk : Tk} (htk : TL[i]? = some tk) :
    i < 400 ∧ f_Tokens_kind (nI i) s = some tk.1 ∧ f_Tokens_length (nI i) s = some (nI (tk.2.2.1 - tk.2.1)) ∧ f_Tokens_mark (nI i) s = some tk.2.2.2.1 ∧ f_Tokens_attributes (nI i) s = some (nI tk.2.2.2.2.length) ∧ (∀ k, k < tk.2.2.1 - tk.2.1 → f_Tokens_character (nI i) (nI k) s = some (ρ (tk.2.1 + k))) ∧ tk.2.2.2.2.length ≤ 400 ∧ TkV u tk := by
  obtain ⟨hu, hau, hac, ht, hc, hm, hC, hM, hV, hρ⟩ := T
  have hk : i < TL.length := (List.getElem?_eq_some_iff.mp htk).1
  obtain ⟨c1, c2, c3, c4, c5, fa, c6, c7, c8⟩ := hC.2 i tk htk
  have hv := hV tk (List.mem_of_getElem? htk)
  obtain ⟨v1, v2, v3, v4⟩ := hv
  have e3 : (nI i).toNatClampNeg = i := nI_clamp (by omega)
  have x1 : ix (nI i) 400 := ixI (by omega) (by omega)
  refine ⟨by omega, ?_, ?_, ?_, ?_, fun k hk2 => ?_, by omega, v1, v2, v3, v4⟩
  · unfold f_Tokens_kind; rw [if_pos x1, e3, c1]
  · unfold f_Tokens_length; rw [if_pos x1, if_pos x1, e3, c3, c2, nI_sub v1]
  · unfold f_Tokens_mark; rw [if_pos x1, e3, c4]
  · unfold f_Tokens_attributes; rw [if_pos x1, e3, c5]
  · unfold f_Tokens_character
    have x3 : ix (nI (tk.2.1 + k)) 400 := ixI (by omega) (by omega)
    rw [if_pos x1, e3, c2, nI_add, if_pos x3, nI_clamp (by omega), hC.1 _ (by omega)]
theorem plainC (c : Int32) : PutC (f_Out_putPlain c) [encP c] := by
  unfold encP
  by_cases h : c = 65533
  · rw [if_pos h]
    refine (putByteC 0).eqf (fun s => ?_)
    unfold f_Out_putPlain
    rw [if_pos h, bbC]
  · rw [if_neg h]
    refine (putByteC c).eqf (fun s => ?_)
    unfold f_Out_putPlain
    rw [if_neg h, bbC]
theorem ownC {ρ : Nat → Int32} {u au ac : Nat} {TL : List Tk} {s : STokens} {M : SMo} (T : Tabs ρ u au ac TL s M) {i : Nat} {tk : Tk} (htk : TL[i]? = some tk) : ∀ (d k n : Nat), tk.2.1 + k + d = tk.2.2.1 → d < n → PutC (fun o => f_Out_putOwn_2 n (nI i) (nI k) o s) ((slice ρ (tk.2.1 + k) tk.2.2.1).map encP) := by
  obtain ⟨hi, t1, t2, t3, t4, t5, t6, v1, v2, v3, v4⟩ := tokAt T htk
  have hu := T.1
  intro d
  induction d with
  | zero =>
    intro k n hk hn
    obtain ⟨n, rfl⟩ : ∃ q, n = q + 1 := ⟨n - 1, by omega⟩
    rw [slice_nil (by omega), List.map_nil]
    refine PutC.nil.eqf (fun o => ?_)
    rw [f_Out_putOwn_2, t2, Option.bind_some, if_pos (nI_le (by omega) (by omega))]
  | succ d ih =>
    intro k n hk hn
    obtain ⟨n, rfl⟩ : ∃ q, n = q + 1 := ⟨n - 1, by omega⟩
    rw [slice_cons (by omega), List.map_cons]
    refine ((plainC (ρ (tk.2.1 + k))).seq (ih (k + 1) n (by omega) (by omega))).eqf (fun o => ?_)
    rw [f_Out_putOwn_2, t2, Option.bind_some, if_neg (nI_ge (by omega) (by omega)), t5 k (by omega), Option.bind_some, nI_1]
theorem textC {ρ : Nat → Int32} {u au ac : Nat} {TL : List Tk} {s : STokens} {M : SMo} (T : Tabs ρ u au ac TL s M) {i : Nat} {tk : Tk} (htk : TL[i]? = some tk) : ∀ (d k n : Nat), tk.2.1 + k + d = tk.2.2.1 → d < n → PutC (fun o => f_Out_putText_2 n (nI i) (nI k) o s) ((slice ρ (tk.2.1 + k) tk.2.2.1).flatMap encT) := by
  obtain ⟨hi, t1, t2, t3, t4, t5, t6, v1, v2, v3, v4⟩ := tokAt T htk
  have hu := T.1
  intro d
  induction d with
  | zero =>
    intro k n hk hn
    obtain ⟨n, rfl⟩ : ∃ q, n = q + 1 := ⟨n - 1, by omega⟩
    rw [slice_nil (by omega), List.flatMap_nil]
    refine PutC.nil.eqf (fun o => ?_)
    rw [f_Out_putText_2, t2, Option.bind_some, if_pos (nI_le (by omega) (by omega))]
  | succ d ih =>
    intro k n hk hn
    obtain ⟨n, rfl⟩ : ∃ q, n = q + 1 := ⟨n - 1, by omega⟩
    obtain ⟨c, hc, ec⟩ := T.2.2.2.2.2.2.2.2.2 (tk.2.1 + k) (by omega)
    rw [slice_cons (by omega), List.flatMap_cons, ec]
    by_cases h6 : nI c = 60
    · have e : encT (nI c) = zs 1 := by unfold encT; rw [if_pos h6]; rfl
      rw [e]
      refine ((putStringC (i := 1) (by decide)).seq (ih (k + 1) n (by omega) (by omega))).eqf (fun o => ?_)
      rw [f_Out_putText_2, t2, Option.bind_some, if_neg (nI_ge (by omega) (by omega)), t5 k (by omega), Option.bind_some, ec, if_pos h6, nI_1]
    · have e : encT (nI c) = encR (nI c) := by unfold encT; rw [if_neg h6]
      rw [e]
      refine ((refC hc).seq (ih (k + 1) n (by omega) (by omega))).eqf (fun o => ?_)
      rw [f_Out_putText_2, t2, Option.bind_some, if_neg (nI_ge (by omega) (by omega)), t5 k (by omega), Option.bind_some, ec, if_neg h6, nI_1]
theorem attC {ρ : Nat → Int32} {u au ac : Nat} {TL : List Tk} {s : STokens} {M : SMo} (T : Tabs ρ u au ac TL s M) {i j : Nat} {tk : Tk} (htk : TL[i]? = some tk) {a : At} (ha : tk.2.2.2.2[j]? = some a) : PutC (fun o => f_Out_putAttribute (nI i) (nI j) o s) (attOut ρ a) := by
  obtain ⟨p1, p2, p3, p4, fm', q1, q2, q3, q4, q5, q6, q7, q8, q9⟩ := attAt T.1 T.2.1 T.2.2.1 T.2.2.2.1 T.2.2.2.2.2.2.1 T.2.2.2.2.2.2.2.1 T.2.2.2.2.2.2.2.2.1 htk ha
  have hu := T.1
  have val : ∀ (d k n : Nat), a.2.1 + k + d = a.2.2 → d < n → PutC (fun o => f_Out_putAttribute_49 n (nI i) (nI j) (nI k) o s) ((slice ρ (a.2.1 + k) a.2.2).flatMap encV ++ [34]) := by
    intro d
    induction d with
    | zero =>
      intro k n hk hn
      obtain ⟨n, rfl⟩ : ∃ q, n = q + 1 := ⟨n - 1, by omega⟩
      rw [slice_nil (by omega), List.flatMap_nil, List.nil_append]
      refine (putByteC 34).eqf (fun o => ?_)
      rw [f_Out_putAttribute_49, p2, Option.bind_some, if_pos (nI_le (by omega) (by omega)), bbC]
    | succ d ih =>
      intro k n hk hn
      obtain ⟨n, rfl⟩ : ∃ q, n = q + 1 := ⟨n - 1, by omega⟩
      obtain ⟨c, hc, ec⟩ := T.2.2.2.2.2.2.2.2.2 (a.2.1 + k) (by omega)
      rw [slice_cons (by omega), List.flatMap_cons, ec, List.append_assoc]
      by_cases h6 : nI c = 34
      · have e : encV (nI c) = zs 9 := by unfold encV; rw [if_pos h6]; rfl
        rw [e]
        refine ((putStringC (i := 9) (by decide)).seq (ih (k + 1) n (by omega) (by omega))).eqf (fun o => ?_)
        rw [f_Out_putAttribute_49, p2, Option.bind_some, if_neg (nI_ge (by omega) (by omega)), p4 k (by omega), Option.bind_some, ec, if_pos h6, nI_1]
      · have e : encV (nI c) = encR (nI c) := by unfold encV; rw [if_neg h6]
        rw [e]
        refine ((refC hc).seq (ih (k + 1) n (by omega) (by omega))).eqf (fun o => ?_)
        rw [f_Out_putAttribute_49, p2, Option.bind_some, if_neg (nI_ge (by omega) (by omega)), p4 k (by omega), Option.bind_some, ec, if_neg h6, nI_1]
  have nam : ∀ (d k n : Nat), a.1 + k + d = a.2.1 → d < n → PutC (fun o => f_Out_putAttribute_8 n (nI i) (nI j) (nI k) o s) ((slice ρ (a.1 + k) a.2.1).map encP ++ ([61, 34] ++ ((slice ρ a.2.1 a.2.2).flatMap encV ++ [34]))) := by
    intro d
    induction d with
    | zero =>
      intro k n hk hn
      obtain ⟨n, rfl⟩ : ∃ q, n = q + 1 := ⟨n - 1, by omega⟩
      rw [slice_nil (by omega), List.map_nil, List.nil_append]
      refine ((putStringC (i := 8) (by decide)).seq (val (a.2.2 - a.2.1) 0 FU (by omega) (by unfold FU; omega))).eqf (fun o => ?_)
      rw [f_Out_putAttribute_8, p1, Option.bind_some, if_pos (nI_le (by omega) (by omega))]
      rfl
    | succ d ih =>
      intro k n hk hn
      obtain ⟨n, rfl⟩ : ∃ q, n = q + 1 := ⟨n - 1, by omega⟩
      rw [slice_cons (by omega), List.map_cons, List.cons_append]
      refine ((plainC (ρ (a.1 + k))).seq (ih (k + 1) n (by omega) (by omega))).eqf (fun o => ?_)
      rw [f_Out_putAttribute_8, p1, Option.bind_some, if_neg (nI_ge (by omega) (by omega)), p3 k (by omega), Option.bind_some, nI_1]
  have fin := (putByteC 32).seq (nam (a.2.1 - a.1) 0 FU (by omega) (by unfold FU; omega))
  have e : attOut ρ a = [32] ++ ((slice ρ (a.1 + 0) a.2.1).map encP ++ ([61, 34] ++ ((slice ρ a.2.1 a.2.2).flatMap encV ++ [34]))) := by
    unfold attOut
    simp only [List.append_assoc, Nat.add_zero]
  rw [e]
  exact fin
