/-- an attribute in both tables -/
theorem attAt {ρ : Nat → Int32} {u au ac : Nat} {TL : List Tk} {s : STokens} {M : SMo} (hu : u ≤ 400) (hau : au ≤ 400) (hac : ac ≤ 402) (ht : TL.length ≤ 400) (hC : TokC ρ u au TL s) (hM : TokM ρ u ac TL M) (hV : ∀ tk ∈ TL, TkV u tk) {i j : Nat} {tk : Tk} (htk : TL[i]? = some tk) {a : At} (ha : tk.2.2.2.2[j]? = some a) :
    f_Tokens_nameLength (nI i) (nI j) s = some (nI (a.2.1 - a.1)) ∧ f_Tokens_valueLength (nI i) (nI j) s = some (nI (a.2.2 - a.2.1)) ∧ (∀ k, k < a.2.1 - a.1 → f_Tokens_nameCharacter (nI i) (nI j) (nI k) s = some (ρ (a.1 + k))) ∧ (∀ k, k < a.2.2 - a.2.1 → f_Tokens_valueCharacter (nI i) (nI j) (nI k) s = some (ρ (a.2.1 + k))) ∧ ∃ fm, q_Mo_attributes M i = nI fm ∧ fm + j < 402 ∧ q_Mo_nameAt M (fm + j) = nI a.1 ∧ q_Mo_nameSize M (fm + j) = nI (a.2.1 - a.1) ∧ q_Mo_valueAt M (fm + j) = nI a.2.1 ∧ q_Mo_valueSize M (fm + j) = nI (a.2.2 - a.2.1) ∧ a.1 ≤ a.2.1 ∧ a.2.1 ≤ a.2.2 ∧ a.2.2 ≤ u := by
  have hi : i < TL.length := (List.getElem?_eq_some_iff.mp htk).1
  have hj : j < tk.2.2.2.2.length := (List.getElem?_eq_some_iff.mp ha).1
  obtain ⟨c1, c2, c3, c4, c5, fa, c6, c7, c8⟩ := hC.2 i tk htk
  obtain ⟨m1, m2, m3, m4, m5, fm, m6, m7, m8⟩ := hM.2 i tk htk
  obtain ⟨v1, v2, v3, v4⟩ := hV tk (List.mem_of_getElem? htk)
  obtain ⟨w1, w2, w3⟩ := v4 a (List.mem_of_getElem? ha)
  obtain ⟨c9, c10, c11⟩ := c8 j a ha
  obtain ⟨m9, m10, m11, m12⟩ := m8 j a ha
  have e3 : (nI i).toNatClampNeg = i := nI_clamp (by omega)
  have e4 : (nI (fa + j)).toNatClampNeg = fa + j := nI_clamp (by omega)
  have x1 : ix (nI i) 400 := ixI (by omega) (by omega)
  have x2 : ix (nI (fa + j)) 400 := ixI (by omega) (by omega)
  refine ⟨?_, ?_, fun k hk => ?_, fun k hk => ?_, fm, m6, by omega, m9, m10, m11, m12, w1, w2, w3⟩
  · unfold f_Tokens_nameLength
    rw [if_pos x1, e3, c6, nI_add, if_pos x2, if_pos x2, e4, c10, c9, nI_sub w1]
  · unfold f_Tokens_valueLength
    rw [if_pos x1, e3, c6, nI_add, if_pos x2, if_pos x2, e4, c11, c10, nI_sub w2]
  · unfold f_Tokens_nameCharacter
    have x3 : ix (nI (a.1 + k)) 400 := ixI (by omega) (by omega)
    rw [if_pos x1, e3, c6, nI_add, if_pos x2, e4, c9, nI_add, if_pos x3, nI_clamp (by omega), hC.1 _ (by omega)]
  · unfold f_Tokens_valueCharacter
    have x3 : ix (nI (a.2.1 + k)) 400 := ixI (by omega) (by omega)
    rw [if_pos x1, e3, c6, nI_add, if_pos x2, e4, c10, nI_add, if_pos x3, nI_clamp (by omega), hC.1 _ (by omega)]
theorem size_both {ρ : Nat → Int32} {u au ac : Nat} {TL : List Tk} {s : STokens} {M : SMo} (hu : u ≤ 400) (hau : au ≤ 400) (hac : ac ≤ 402) (ht : TL.length ≤ 400) (hc : q_Tokens_count s = nI TL.length) (hm : q_Mo_tokens M = nI TL.length) (hC : TokC ρ u au TL s) (hM : TokM ρ u ac TL M) (hV : ∀ tk ∈ TL, TkV u tk) (a b c : Int32) :
    (f_Mt_size a b c s = some (-1) ∧ f_Mo_size a b c M = some (-1) ∧ (f_Mo_isPart a b c M = some 0)) ∨ ∃ (i j : Nat) (tk : Tk) (x : At), a = nI i ∧ b = nI j ∧ TL[i]? = some tk ∧ tk.2.2.2.2[j]? = some x ∧ f_Mo_isPart a b c M = some 1 ∧ ((c = 0 ∧ f_Mt_size a b c s = some (nI (x.2.1 - x.1)) ∧ f_Mo_size a b c M = some (nI (x.2.1 - x.1))) ∨ (c = 1 ∧ f_Mt_size a b c s = some (nI (x.2.2 - x.2.1)) ∧ f_Mo_size a b c M = some (nI (x.2.2 - x.2.1)))) := by
  by_cases h0 : a < 0
  · left
    have k1 : f_Mo_isPart a b c M = some 0 := by unfold f_Mo_isPart; rw [if_pos h0]
    refine ⟨?_, ?_, k1⟩
    · unfold f_Mt_size f_Tokens_hasAttribute f_Tokens_has
      rw [if_pos h0, if_pos rfl, Option.bind_some, if_pos rfl]
    · unfold f_Mo_size; rw [k1, Option.bind_some, if_pos rfl]
  obtain ⟨i, hi, rfl⟩ := nI_of h0
  by_cases hk : i < TL.length
  · obtain ⟨tk, htk⟩ : ∃ tk, TL[i]? = some tk := ⟨TL[i], List.getElem?_eq_getElem hk⟩
    obtain ⟨c1, c2, c3, c4, c5, fa, c6, c7, c8⟩ := hC.2 i tk htk
    obtain ⟨m1, m2, m3, m4, m5, fm, m6, m7, m8⟩ := hM.2 i tk htk
    have e3 : (nI i).toNatClampNeg = i := nI_clamp hi
    have x1 : ix (nI i) 400 := ixI (by omega) (by omega)
    have x2 : ix (nI i) 402 := ixI (by omega) (by omega)
    by_cases bn : b < 0
    · left
      have k1 : f_Mo_isPart (nI i) b c M = some 0 := by unfold f_Mo_isPart; rw [if_neg h0, hm, if_neg (nI_ge hk (by omega)), if_pos bn]
      refine ⟨?_, ?_, k1⟩
      · unfold f_Mt_size f_Tokens_hasAttribute
        rw [hasI hc ht hi, if_pos hk, if_neg (show ¬ (1 : Int32) = 0 by decide), if_pos bn, Option.bind_some, if_pos rfl]
      · unfold f_Mo_size; rw [k1, Option.bind_some, if_pos rfl]
    obtain ⟨j, hj, rfl⟩ := nI_of bn
    by_cases hl : j < tk.2.2.2.2.length
    · have k2 : f_Tokens_hasAttribute (nI i) (nI j) s = some 1 := by
        unfold f_Tokens_hasAttribute
        rw [hasI hc ht hi, if_pos hk, if_neg (show ¬ (1 : Int32) = 0 by decide), if_neg bn, if_pos x1, e3, c5, if_neg (nI_ge hl (by omega))]
      obtain ⟨x, hx⟩ : ∃ x, tk.2.2.2.2[j]? = some x := ⟨tk.2.2.2.2[j], List.getElem?_eq_getElem hl⟩
      obtain ⟨p1, p2, p3, p4, fm', q1, q2, q3, q4, q5, q6, q7⟩ := attAt hu hau hac ht hC hM hV htk hx
      have e4 : (nI (fm' + j)).toNatClampNeg = fm' + j := nI_clamp (by omega)
      have x3 : ix (nI (fm' + j)) 402 := ixI (by omega) (by omega)
      have k3 : ∀ c : Int32, c = 0 ∨ c = 1 → f_Mo_isPart (nI i) (nI j) c M = some 1 := by
        intro c hc01
        unfold f_Mo_isPart
        rw [if_neg h0, hm, if_neg (nI_ge hk (by omega)), if_neg bn, if_pos x2, e3, m5, if_neg (nI_ge hl (by omega))]
        rcases hc01 with rfl | rfl
        · rw [if_pos rfl]
        · rw [if_neg (by decide), if_pos rfl]
      by_cases b0 : c = 0
      · subst b0
        right
        refine ⟨i, j, tk, x, rfl, rfl, htk, hx, k3 0 (Or.inl rfl), Or.inl ⟨rfl, ?_, ?_⟩⟩
        · unfold f_Mt_size; rw [k2, Option.bind_some, if_neg (by decide), if_pos rfl, p1, Option.bind_some]
        · unfold f_Mo_size; rw [k3 0 (Or.inl rfl), Option.bind_some, if_neg (by decide), if_pos rfl, if_pos x2, e3, q1, nI_add, if_pos x3, e4, q4]
      by_cases b1 : c = 1
      · subst b1
        right
        refine ⟨i, j, tk, x, rfl, rfl, htk, hx, k3 1 (Or.inr rfl), Or.inr ⟨rfl, ?_, ?_⟩⟩
        · unfold f_Mt_size; rw [k2, Option.bind_some, if_neg (by decide), if_neg (by decide), if_pos rfl, p2, Option.bind_some]
        · unfold f_Mo_size; rw [k3 1 (Or.inr rfl), Option.bind_some, if_neg (by decide), if_neg (by decide), if_pos x2, e3, q1, nI_add, if_pos x3, e4, q6]
      left
      have k1 : f_Mo_isPart (nI i) (nI j) c M = some 0 := by
        unfold f_Mo_isPart
        rw [if_neg h0, hm, if_neg (nI_ge hk (by omega)), if_neg bn, if_pos x2, e3, m5, if_neg (nI_ge hl (by omega)), if_neg b0, if_neg b1]
      refine ⟨?_, ?_, k1⟩
      · unfold f_Mt_size; rw [k2, Option.bind_some, if_neg (by decide), if_neg b0, if_neg b1]
      · unfold f_Mo_size; rw [k1, Option.bind_some, if_pos rfl]
    · left
      have k1 : f_Mo_isPart (nI i) (nI j) c M = some 0 := by
        unfold f_Mo_isPart
        rw [if_neg h0, hm, if_neg (nI_ge hk (by omega)), if_neg bn, if_pos x2, e3, m5, if_pos (nI_le (by omega) hj)]
      refine ⟨?_, ?_, k1⟩
      · unfold f_Mt_size f_Tokens_hasAttribute
        rw [hasI hc ht hi, if_pos hk, if_neg (show ¬ (1 : Int32) = 0 by decide), if_neg bn, if_pos x1, e3, c5, if_pos (nI_le (by omega) hj), Option.bind_some, if_pos rfl]
      · unfold f_Mo_size; rw [k1, Option.bind_some, if_pos rfl]
  · left
    have k1 : f_Mo_isPart (nI i) b c M = some 0 := by unfold f_Mo_isPart; rw [if_neg h0, hm, if_pos (nI_le (by omega) hi)]
    refine ⟨?_, ?_, k1⟩
    · unfold f_Mt_size f_Tokens_hasAttribute
      rw [hasI hc ht hi, if_neg hk, if_pos rfl, Option.bind_some, if_pos rfl]
    · unfold f_Mo_size; rw [k1, Option.bind_some, if_pos rfl]
theorem op_size : Op_size RelS := by
  intro S M a b c h
  obtain ⟨-, -, ⟨ρ, u, au, ac, TL, hu, hau, hac, ht, hc, hm, hC, hM, hV, hρ, hw⟩, -⟩ := h
  rcases size_both hu hau hac ht hc hm hC hM hV a b c with ⟨h1, h2, -⟩ | ⟨i, j, tk, x, -, -, -, -, -, ⟨-, h1, h2⟩ | ⟨-, h1, h2⟩⟩
  · exact ⟨_, h1, h2⟩
  · exact ⟨_, h1, h2⟩
  · exact ⟨_, h1, h2⟩
theorem op_part : Op_part RelS := by
  intro S M a b c d h
  obtain ⟨-, -, ⟨ρ, u, au, ac, TL, hu, hau, hac, ht, hc, hm, hC, hM, hV, hρ, hw⟩, -⟩ := h
  generalize S.2.2.1 = s at *
  unfold f_Mt_part f_Mo_part
  rcases size_both hu hau hac ht hc hm hC hM hV a b c with ⟨h1, h2, h3⟩ | ⟨i, j, tk, x, rfl, rfl, htk, hx, h3, hh⟩
  · refine ⟨-1, ?_, ?_⟩
    · rw [h1, Option.bind_some]
      by_cases dn : d < 0
      · rw [if_pos dn]
      · rw [if_neg dn, if_neg]
        intro hd
        obtain ⟨k, hk, rfl⟩ := nI_of dn
        rw [Int32.lt_iff_toInt_lt, nI_toInt hk, show (-1 : Int32).toInt = -1 from rfl] at hd
        omega
    · rw [h3, Option.bind_some, if_pos rfl]
  · have hi : i < TL.length := (List.getElem?_eq_some_iff.mp htk).1
    obtain ⟨p1, p2, p3, p4, fm', q1, q2, q3, q4, q5, q6, q7, q8, q9⟩ := attAt hu hau hac ht hC hM hV htk hx
    have e3 : (nI i).toNatClampNeg = i := nI_clamp (by omega)
    have x2 : ix (nI i) 402 := ixI (by omega) (by omega)
    have e4 : (nI (fm' + j)).toNatClampNeg = fm' + j := nI_clamp (by omega)
    have x3 : ix (nI (fm' + j)) 402 := ixI (by omega) (by omega)
    rw [h3, Option.bind_some, if_neg (show ¬ (1 : Int32) = 0 by decide)]
    by_cases dn : d < 0
    · rcases hh with ⟨rfl, h1, h2⟩ | ⟨rfl, h1, h2⟩
      · exact ⟨-1, by rw [h1, Option.bind_some, if_pos dn], by rw [if_pos dn]⟩
      · exact ⟨-1, by rw [h1, Option.bind_some, if_pos dn], by rw [if_pos dn]⟩
    obtain ⟨k, hk, rfl⟩ := nI_of dn
    rcases hh with ⟨rfl, h1, h2⟩ | ⟨rfl, h1, h2⟩
    · rw [h1, h2, Option.bind_some, Option.bind_some, if_neg dn, if_neg dn]
      by_cases hl : k < x.2.1 - x.1
      · refine ⟨ρ (x.1 + k), ?_, ?_⟩
        · rw [if_pos (nI_lt hl (by omega)), if_pos rfl, p3 k hl, Option.bind_some]
        · have x4 : ix (nI (x.1 + k)) 810 := ixI (by omega) (by omega)
          rw [if_pos (nI_lt hl (by omega)), if_pos rfl, if_pos x2, e3, q1, nI_add, if_pos x3, e4, q3, nI_add, if_pos x4, nI_clamp (by omega), hM.1 _ (by omega)]
      · exact ⟨-1, by rw [if_neg (nI_nlt (by omega) hk)], by rw [if_neg (nI_nlt (by omega) hk)]⟩
    · rw [h1, h2, Option.bind_some, Option.bind_some, if_neg dn, if_neg dn]
      by_cases hl : k < x.2.2 - x.2.1
      · refine ⟨ρ (x.2.1 + k), ?_, ?_⟩
        · rw [if_pos (nI_lt hl (by omega)), if_neg (show ¬ (1 : Int32) = 0 by decide), p4 k hl, Option.bind_some]
        · have x4 : ix (nI (x.2.1 + k)) 810 := ixI (by omega) (by omega)
          rw [if_pos (nI_lt hl (by omega)), if_neg (show ¬ (1 : Int32) = 0 by decide), if_pos x2, e3, q1, nI_add, if_pos x3, e4, q5, nI_add, if_pos x4, nI_clamp (by omega), hM.1 _ (by omega)]
      · exact ⟨-1, by rw [if_neg (nI_nlt (by omega) hk)], by rw [if_neg (nI_nlt (by omega) hk)]⟩
