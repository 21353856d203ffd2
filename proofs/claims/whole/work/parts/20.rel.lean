abbrev At : Type := Nat × Nat × Nat
abbrev Tk : Type := Int32 × Nat × Nat × Int32 × List At
/-- the class's tables hold the tokens TL over the row ρ -/
def TokC (ρ : Nat → Int32) (u au : Nat) (TL : List Tk) (s : STokens) : Prop :=
  (∀ k, k < u → q_Tokens_row s k = ρ k) ∧ ∀ (i : Nat) (tk : Tk), TL[i]? = some tk → q_Tokens_kinds s i = tk.1 ∧ q_Tokens_starts s i = nI tk.2.1 ∧ q_Tokens_ends s i = nI tk.2.2.1 ∧ q_Tokens_marks s i = tk.2.2.2.1 ∧ q_Tokens_attributeCounts s i = nI tk.2.2.2.2.length ∧ ∃ fa, q_Tokens_firstAttributes s i = nI fa ∧ fa + tk.2.2.2.2.length ≤ au ∧ ∀ (j : Nat) (a : At), tk.2.2.2.2[j]? = some a → q_Tokens_nameStarts s (fa + j) = nI a.1 ∧ q_Tokens_valueStarts s (fa + j) = nI a.2.1 ∧ q_Tokens_valueEnds s (fa + j) = nI a.2.2
/-- the reference's tables hold them -/
def TokM (ρ : Nat → Int32) (u ac : Nat) (TL : List Tk) (M : SMo) : Prop :=
  (∀ k, k < u → q_Mo_row M k = ρ k) ∧ ∀ (i : Nat) (tk : Tk), TL[i]? = some tk → q_Mo_kinds M i = tk.1 ∧ q_Mo_firsts M i = nI tk.2.1 ∧ q_Mo_sizes M i = nI (tk.2.2.1 - tk.2.1) ∧ q_Mo_marks M i = tk.2.2.2.1 ∧ q_Mo_manyOf M i = nI tk.2.2.2.2.length ∧ ∃ fm, q_Mo_attributes M i = nI fm ∧ fm + tk.2.2.2.2.length ≤ ac ∧ ∀ (j : Nat) (a : At), tk.2.2.2.2[j]? = some a → q_Mo_nameAt M (fm + j) = nI a.1 ∧ q_Mo_nameSize M (fm + j) = nI (a.2.1 - a.1) ∧ q_Mo_valueAt M (fm + j) = nI a.2.1 ∧ q_Mo_valueSize M (fm + j) = nI (a.2.2 - a.2.1)
def TkV (u : Nat) (tk : Tk) : Prop := tk.2.1 ≤ tk.2.2.1 ∧ tk.2.2.1 ≤ u ∧ (tk.2.2.2.1 = 0 ∨ tk.2.2.2.1 = 1) ∧ ∀ a ∈ tk.2.2.2.2, a.1 ≤ a.2.1 ∧ a.2.1 ≤ a.2.2 ∧ a.2.2 ≤ u
/-- what is written -/
def dgk (n : Nat) : Nat → List Int32
  | 0 => []
  | k + 1 => nI (48 + n / 10 ^ k % 10) :: dgk n k
def ndg (n : Nat) : Nat := if n < 10 then 1 else if n < 100 then 2 else if n < 1000 then 3 else if n < 10000 then 4 else if n < 100000 then 5 else if n < 1000000 then 6 else 7
def dgs (n : Nat) : List Int32 := dgk n (ndg n)
def encR (c : Int32) : List Int32 := if c = 38 then [38, 97, 109, 112, 59] else if c = 13 ∨ 255 < c then [38, 35] ++ dgs c.toNatClampNeg ++ [59] else [c]
def encT (c : Int32) : List Int32 := if c = 60 then [38, 108, 116, 59] else encR c
def encV (c : Int32) : List Int32 := if c = 34 then [38, 113, 117, 111, 116, 59] else encR c
def encP (c : Int32) : Int32 := if c = 65533 then 0 else c
def slice (ρ : Nat → Int32) (a b : Nat) : List Int32 := (List.range (b - a)).map (fun k => ρ (a + k))
def attOut (ρ : Nat → Int32) (a : At) : List Int32 := [32] ++ (slice ρ a.1 a.2.1).map encP ++ [61, 34] ++ (slice ρ a.2.1 a.2.2).flatMap encV ++ [34]
def tkOut (ρ : Nat → Int32) (tk : Tk) : List Int32 :=
  if tk.1 = 0 then (slice ρ tk.2.1 tk.2.2.1).flatMap encT
  else if tk.1 = 3 then [60, 33, 45, 45] ++ (slice ρ tk.2.1 tk.2.2.1).map encP ++ [45, 45, 62]
  else if tk.1 = 4 then [60, 33, 68, 79, 67, 84, 89, 80, 69] ++ (if tk.2.1 = tk.2.2.1 then [62] else [32] ++ (slice ρ tk.2.1 tk.2.2.1).map encP ++ (if tk.2.2.2.1 = 0 then [62] else [32, 120, 62]))
  else (if tk.1 = 2 then [60, 47] else [60]) ++ (slice ρ tk.2.1 tk.2.2.1).map encP ++ tk.2.2.2.2.flatMap (attOut ρ) ++ (if tk.2.2.2.1 = 0 then [62] else [47, 62])
def wOut (ρ : Nat → Int32) (TL : List Tk) : List Int32 := TL.flatMap (tkOut ρ)
def RTok (s : STokens) (M : SMo) : Prop := ∃ (ρ : Nat → Int32) (u au ac : Nat) (TL : List Tk), u ≤ 400 ∧ au ≤ 400 ∧ ac ≤ 402 ∧ TL.length ≤ 400 ∧ q_Tokens_count s = nI TL.length ∧ q_Mo_tokens M = nI TL.length ∧ TokC ρ u au TL s ∧ TokM ρ u ac TL M ∧ (∀ tk ∈ TL, TkV u tk) ∧ (∀ k, k < u → ∃ c : Nat, c ≤ 1114111 ∧ ρ k = nI c) ∧ (wOut ρ TL).length ≤ 3200
def RText (s : SMt) (M : SMo) : Prop := ∃ n : Nat, n ≤ 400 ∧ q_Mt_textLength s = nI n ∧ q_Mo_size M = nI n ∧ ∀ k, k < n → q_Mt_text s k = q_Mo_bytes M k ∧ fits .byte (.int (q_Mt_text s k)) = true
def RFault (s : SSource) (M : SMo) : Prop := ∃ f : Nat, f ≤ 1200 ∧ q_Source_faultCount s = nI f ∧ q_Mo_faultCount M = nI f ∧ ∀ k, k < f → q_Source_codes s k = q_Mo_codes M k ∧ q_Source_places s k = q_Mo_places M k
def ROut (s : SOut) (M : SMo) : Prop := ∃ n : Nat, n ≤ 3200 ∧ q_Out_length s = nI n ∧ q_Mo_outSize M = nI n ∧ ∀ k, k < n → q_Out_bytes s k = q_Mo_out M k ∧ fits .byte (.int (q_Out_bytes s k)) = true
def RCon (M : SMo) : Prop := q_Mo_names M = fillL ini_names 53 ∧ q_Mo_gives M = fillI ini_gives 53 ∧ q_Mo_turned M = fillI ini_turned 32
def RelS (S : SS) (M : SMo) : Prop := RText S.1 M ∧ RFault S.2.1 M ∧ RTok S.2.2.1 M ∧ ROut S.2.2.2.2.2.2 M ∧ RCon M
theorem rel0 : RelS i0_S i0_Mo :=
  ⟨⟨0, by decide, rfl, rfl, fun k h => absurd h (Nat.not_lt_zero k)⟩, ⟨0, by decide, rfl, rfl, fun k h => absurd h (Nat.not_lt_zero k)⟩,
   ⟨fun _ => 0, 0, 0, 0, [], by decide, by decide, by decide, by decide, rfl, rfl, ⟨fun k h => absurd h (Nat.not_lt_zero k), fun i tk h => by simp at h⟩, ⟨fun k h => absurd h (Nat.not_lt_zero k), fun i tk h => by simp at h⟩, fun tk h => by simp at h, fun k h => absurd h (Nat.not_lt_zero k), by decide⟩,
   ⟨0, by decide, rfl, rfl, fun k h => absurd h (Nat.not_lt_zero k)⟩, rfl, rfl, rfl⟩
theorem op_clear : Op_clear RelS := by
  intro S M h
  obtain ⟨⟨n, h1, h2, h3, h4⟩, hr⟩ := h
  refine ⟨nI n, u_Mt_textLength S.1 0, u_Mo_size M 0, ?_, ?_, ⟨0, by decide, rfl, rfl, fun k h => absurd h (Nat.not_lt_zero k)⟩, hr⟩
  · unfold f_Mt_clear; rw [h2]
  · unfold f_Mo_clear; rw [h3]
theorem op_faults : Op_faults RelS := by
  intro S M h
  obtain ⟨-, ⟨f, h1, h2, h3, h4⟩, hr⟩ := h
  exact ⟨nI f, h2, h3⟩
theorem ixI {c N : Nat} (h : c < N) (hN : N < 2 ^ 31) : ix (nI c) N := nI_in h hN
theorem op_fault : Op_fault RelS := by
  intro S M a b h
  obtain ⟨-, ⟨f, h1, h2, h3, h4⟩, hr⟩ := h
  unfold f_Mt_fault f_Mo_fault f_Source_faultCount f_Source_faultCode f_Source_faultPlace
  rw [h2, h3]
  by_cases h0 : a < 0
  · refine ⟨-1, ?_, ?_⟩
    · rw [if_pos h0]
    · rw [if_pos h0]
  obtain ⟨i, hi, rfl⟩ := nI_of h0
  by_cases hk : i < f
  · have e1 : nI i < nI f := nI_lt hk (by omega)
    have e2 : ¬ nI f ≤ nI i := nI_ge hk (by omega)
    have e3 : (nI i).toNatClampNeg = i := nI_clamp hi
    have x1 : ix (nI i) 1203 := ixI (by omega) (by omega)
    have x2 : ix (nI i) 1200 := ixI (by omega) (by omega)
    rw [if_neg h0, if_pos e1, if_neg h0, if_neg e2, if_pos x1, if_pos x1, if_pos x2, if_pos x2, e3]
    obtain ⟨g1, g2⟩ := h4 i hk
    by_cases b0 : b = 0
    · subst b0
      refine ⟨q_Mo_codes M i, ?_, ?_⟩
      · rw [if_pos rfl, Option.bind_some, g1]
      · rw [if_neg (by decide), if_pos (by decide), if_pos rfl]
    by_cases b1 : b = 1
    · subst b1
      refine ⟨q_Mo_places M i, ?_, ?_⟩
      · rw [if_neg (by decide), if_pos rfl, Option.bind_some, g2]
      · rw [if_neg (by decide), if_pos (by decide), if_neg (by decide)]
    · refine ⟨-1, ?_, ?_⟩
      · rw [if_neg b0, if_neg b1]
      · by_cases bn : b < 0
        · rw [if_pos bn]
        · rw [if_neg bn]
          by_cases b2 : b ≤ 1
          · exfalso
            obtain ⟨j, hj, rfl⟩ := nI_of bn
            have : j ≤ 1 := (nI_leI hj (by decide)).mp b2
            rcases (show j = 0 ∨ j = 1 by omega) with rfl | rfl
            · exact b0 rfl
            · exact b1 rfl
          · rw [if_neg b2]
  · have e1 : ¬ nI i < nI f := nI_nlt (by omega) hi
    have e2 : nI f ≤ nI i := nI_le (by omega) hi
    refine ⟨-1, ?_, ?_⟩
    · rw [if_neg h0, if_neg e1]
    · rw [if_neg h0, if_pos e2]
