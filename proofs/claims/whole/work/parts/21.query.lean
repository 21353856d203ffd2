theorem mk4 {b : Int32} (b0 : ¬ b = 0) (b1 : ¬ b = 1) (b2 : ¬ b = 2) (b3 : ¬ b = 3) (bn : ¬ b < 0) : ¬ b ≤ 3 := by
  intro h
  obtain ⟨j, hj, rfl⟩ := nI_of bn
  have : j ≤ 3 := (nI_leI hj (by decide)).mp h
  rcases (show j = 0 ∨ j = 1 ∨ j = 2 ∨ j = 3 by omega) with rfl | rfl | rfl | rfl
  · exact b0 rfl
  · exact b1 rfl
  · exact b2 rfl
  · exact b3 rfl
theorem hasI {s : STokens} {t i : Nat} (h : q_Tokens_count s = nI t) (ht : t ≤ 400) (hi : i < 2 ^ 31) : f_Tokens_has (nI i) s = if i < t then 1 else 0 := by
  unfold f_Tokens_has
  rw [h, if_neg (nI_pos hi)]
  by_cases hk : i < t
  · rw [if_pos hk, if_neg (nI_ge hk (by omega))]
  · rw [if_neg hk, if_pos (nI_le (by omega) hi)]
theorem nI_sub {a b : Nat} (h : a ≤ b) : nI b - nI a = nI (b - a) := by
  have e : nI (b - a) + nI a = nI b := by rw [nI_add, Nat.sub_add_cancel h]
  rw [← e]; simp
theorem op_token : Op_token RelS := by
  intro S M a b h
  obtain ⟨-, -, ⟨ρ, u, au, ac, TL, hu, hau, hac, ht, hc, hm, hC, hM, hV, hρ, hw⟩, -⟩ := h
  generalize S.2.2.1 = s at *
  unfold f_Mt_token f_Mo_token
  rw [hm]
  by_cases h0 : a < 0
  · refine ⟨-1, ?_, ?_⟩
    · unfold f_Tokens_has; rw [if_pos h0, if_pos rfl]
    · rw [if_pos h0]
  obtain ⟨i, hi, rfl⟩ := nI_of h0
  rw [hasI hc ht hi, if_neg h0]
  by_cases hk : i < TL.length
  · obtain ⟨tk, htk⟩ : ∃ tk, TL[i]? = some tk := ⟨TL[i], List.getElem?_eq_getElem hk⟩
    obtain ⟨c1, c2, c3, c4, c5, fa, c6, c7, c8⟩ := hC.2 i tk htk
    obtain ⟨m1, m2, m3, m4, m5, fm, m6, m7, m8⟩ := hM.2 i tk htk
    obtain ⟨v1, v2, v3, v4⟩ := hV tk (List.mem_of_getElem? htk)
    have e3 : (nI i).toNatClampNeg = i := nI_clamp hi
    have x1 : ix (nI i) 400 := ixI (by omega) (by omega)
    have x2 : ix (nI i) 402 := ixI (by omega) (by omega)
    have k1 : f_Tokens_kind (nI i) s = some tk.1 := by unfold f_Tokens_kind; rw [if_pos x1, e3, c1]
    have k2 : f_Tokens_length (nI i) s = some (nI (tk.2.2.1 - tk.2.1)) := by unfold f_Tokens_length; rw [if_pos x1, if_pos x1, e3, c3, c2, nI_sub v1]
    have k3 : f_Tokens_mark (nI i) s = some tk.2.2.2.1 := by unfold f_Tokens_mark; rw [if_pos x1, e3, c4]
    have k4 : f_Tokens_attributes (nI i) s = some (nI tk.2.2.2.2.length) := by unfold f_Tokens_attributes; rw [if_pos x1, e3, c5]
    rw [if_pos hk, if_neg (show ¬ (1 : Int32) = 0 by decide), if_neg (nI_ge hk (by omega)), k1, k2, k3, k4, if_pos x2, if_pos x2, if_pos x2, if_pos x2, e3, m1, m3, m4, m5]
    by_cases b0 : b = 0
    · subst b0
      refine ⟨tk.1, ?_, ?_⟩
      · rw [if_pos rfl, Option.bind_some]
      · rw [if_neg (by decide), if_pos (by decide), if_pos rfl]
    by_cases b1 : b = 1
    · subst b1
      refine ⟨nI (tk.2.2.1 - tk.2.1), ?_, ?_⟩
      · rw [if_neg (by decide), if_pos rfl, Option.bind_some]
      · rw [if_neg (by decide), if_pos (by decide), if_neg (by decide), if_pos rfl]
    by_cases b2 : b = 2
    · subst b2
      refine ⟨tk.2.2.2.1, ?_, ?_⟩
      · rw [if_neg (by decide), if_neg (by decide), if_pos rfl, Option.bind_some]
      · rw [if_neg (by decide), if_pos (by decide), if_neg (by decide), if_neg (by decide), if_pos rfl]
        rcases v3 with v3 | v3
        · rw [v3, if_pos rfl]
        · rw [v3, if_neg (by decide)]
    by_cases b3 : b = 3
    · subst b3
      refine ⟨nI tk.2.2.2.2.length, ?_, ?_⟩
      · rw [if_neg (by decide), if_neg (by decide), if_neg (by decide), if_pos rfl, Option.bind_some]
      · rw [if_neg (by decide), if_pos (by decide), if_neg (by decide), if_neg (by decide), if_neg (by decide)]
    refine ⟨-1, ?_, ?_⟩
    · rw [if_neg b0, if_neg b1, if_neg b2, if_neg b3]
    · by_cases bn : b < 0
      · rw [if_pos bn]
      · rw [if_neg bn, if_neg (mk4 b0 b1 b2 b3 bn)]
  · refine ⟨-1, ?_, ?_⟩
    · rw [if_neg hk, if_pos rfl]
    · rw [if_pos (nI_le (by omega) hi)]
theorem op_at : Op_at RelS := by
  intro S M a b h
  obtain ⟨-, -, ⟨ρ, u, au, ac, TL, hu, hau, hac, ht, hc, hm, hC, hM, hV, hρ, hw⟩, -⟩ := h
  generalize S.2.2.1 = s at *
  unfold f_Mt_at f_Mo_at
  rw [hm]
  by_cases h0 : a < 0
  · refine ⟨-1, ?_, ?_⟩
    · unfold f_Tokens_has; rw [if_pos h0, if_pos rfl]
    · rw [if_pos h0]
  obtain ⟨i, hi, rfl⟩ := nI_of h0
  rw [hasI hc ht hi, if_neg h0]
  by_cases hk : i < TL.length
  · obtain ⟨tk, htk⟩ : ∃ tk, TL[i]? = some tk := ⟨TL[i], List.getElem?_eq_getElem hk⟩
    obtain ⟨c1, c2, c3, c4, c5, fa, c6, c7, c8⟩ := hC.2 i tk htk
    obtain ⟨m1, m2, m3, m4, m5, fm, m6, m7, m8⟩ := hM.2 i tk htk
    obtain ⟨v1, v2, v3, v4⟩ := hV tk (List.mem_of_getElem? htk)
    have e3 : (nI i).toNatClampNeg = i := nI_clamp hi
    have x1 : ix (nI i) 400 := ixI (by omega) (by omega)
    have x2 : ix (nI i) 402 := ixI (by omega) (by omega)
    have k2 : f_Tokens_length (nI i) s = some (nI (tk.2.2.1 - tk.2.1)) := by unfold f_Tokens_length; rw [if_pos x1, if_pos x1, e3, c3, c2, nI_sub v1]
    rw [if_pos hk, if_neg (show ¬ (1 : Int32) = 0 by decide), if_neg (nI_ge hk (by omega)), k2, Option.bind_some, if_pos x2, if_pos x2, e3, m3]
    by_cases bn : b < 0
    · refine ⟨-1, ?_, ?_⟩
      · rw [if_pos bn]
      · rw [if_pos bn]
    obtain ⟨j, hj, rfl⟩ := nI_of bn
    rw [if_neg bn, if_neg bn]
    by_cases hl : j < tk.2.2.1 - tk.2.1
    · refine ⟨ρ (tk.2.1 + j), ?_, ?_⟩
      · rw [if_pos (nI_lt hl (by omega))]
        unfold f_Tokens_character
        have x3 : ix (nI (tk.2.1 + j)) 400 := ixI (by omega) (by omega)
        rw [if_pos x1, e3, c2, nI_add, if_pos x3, nI_clamp (by omega), Option.bind_some, hC.1 _ (by omega)]
      · have x3 : ix (nI (tk.2.1 + j)) 810 := ixI (by omega) (by omega)
        rw [if_pos (nI_lt hl (by omega)), m2, nI_add, if_pos x3, nI_clamp (by omega), hM.1 _ (by omega)]
    · refine ⟨-1, ?_, ?_⟩
      · rw [if_neg (nI_nlt (by omega) hj)]
      · rw [if_neg (nI_nlt (by omega) hj)]
  · refine ⟨-1, ?_, ?_⟩
    · rw [if_neg hk, if_pos rfl]
    · rw [if_pos (nI_le (by omega) hi)]
