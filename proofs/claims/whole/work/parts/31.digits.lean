def un (k : Nat) : Nat := if k = 0 then 0 else 10 ^ (k - 1)
theorem un_s (k : Nat) : un (k + 1) = 10 ^ k := by simp [un]
theorem un_div (k : Nat) : un (k + 1) / 10 = un k := by
  cases k with
  | zero => rfl
  | succ k => rw [un_s, un_s, Nat.pow_succ, Nat.mul_div_cancel _ (by decide)]
theorem p10 {k : Nat} (h : k ≤ 6) : 10 ^ k ≤ 1000000 := Nat.pow_le_pow_right (n := 10) (by decide) h
theorem p10p (k : Nat) : 0 < 10 ^ k := Nat.pow_pos (by decide)
theorem digit_eq {c k : Nat} (hc : c ≤ 1114111) (hk : k ≤ 6) : (48 : Int32) + ((nI c / nI (10 ^ k)) - (nI c / nI (10 ^ k)) / 10 * 10) = nI (48 + c / 10 ^ k % 10) := by
  have h1 := p10 hk
  rw [pk_div (by omega) (p10p k) (by omega), show (10 : Int32) = nI 10 from rfl, pk_rem (Nat.lt_of_le_of_lt (Nat.div_le_self _ _) (by omega)) (by decide) (by decide), show (48 : Int32) = nI 48 from rfl, nI_add]
theorem un_div_I {k : Nat} (hk : k ≤ 6) : nI (un (k + 1)) / 10 = nI (un k) := by
  have h1 := p10 hk
  rw [show (10 : Int32) = nI 10 from rfl, pk_div (by rw [un_s]; omega) (by decide) (by decide), un_div]
def dgc (n : Nat) : Nat → List Int32
  | 0 => []
  | k + 1 => (if n < 10 ^ k then [] else [nI (48 + n / 10 ^ k % 10)]) ++ dgc n k
theorem digC {c : Nat} (hc : c ≤ 1114111) : ∀ (k n : Nat), k ≤ 7 → k < n → PutC (fun s => f_Out_putDigits_3 n (nI c) (nI (un k)) s) (dgc c k) := by
  intro k
  induction k with
  | zero =>
    intro n _ hn
    obtain ⟨n, rfl⟩ : ∃ q, n = q + 1 := ⟨n - 1, by omega⟩
    refine PutC.nil.eqf (fun s => ?_)
    rw [f_Out_putDigits_3, if_pos (by decide)]
  | succ k ih =>
    intro n hk hn
    obtain ⟨n, rfl⟩ : ∃ q, n = q + 1 := ⟨n - 1, by omega⟩
    have h1 := p10 (k := k) (by omega)
    have h2 := p10p k
    by_cases hl : c < 10 ^ k
    · have e : dgc c (k + 1) = dgc c k := by rw [dgc, if_pos hl]; rfl
      rw [e]
      refine (ih n (by omega) (by omega)).eqf (fun s => ?_)
      rw [f_Out_putDigits_3, un_div_I (by omega), un_s, if_neg (nI_nle h2 (by omega)), if_pos (nI_lt hl (by omega))]
    · have e : dgc c (k + 1) = [nI (48 + c / 10 ^ k % 10)] ++ dgc c k := by rw [dgc, if_neg hl]
      rw [e]
      refine ((putByteC _).seq (ih n (by omega) (by omega))).eqf (fun s => ?_)
      rw [f_Out_putDigits_3, un_div_I (by omega), un_s, if_neg (nI_nle h2 (by omega)), if_neg (nI_nlt (by omega) (by omega)), if_pos (nI_ne0 h2 (by omega)), digit_eq hc (by omega)]
theorem dgc_eq {c : Nat} : ∀ k, 10 ^ k ≤ c → dgc c (k + 1) = dgk c (k + 1) := by
  intro k
  induction k with
  | zero => intro h; rw [dgc, if_neg (by omega)]; rfl
  | succ k ih =>
    intro h
    have h3 : 10 ^ k ≤ 10 ^ (k + 1) := Nat.pow_le_pow_right (by decide) (by omega)
    rw [dgc, if_neg (by omega), ih (by omega)]; rfl
theorem dgc_dgs {c : Nat} (h1 : 1 ≤ c) (h7 : c ≤ 1114111) : dgc c 7 = dgs c := by
  have hs : ∀ k, c < 10 ^ k → dgc c (k + 1) = dgc c k := fun k h => by rw [dgc, if_pos h]; rfl
  unfold dgs ndg
  by_cases a1 : c < 10
  · rw [if_pos a1, hs 6 (by omega), hs 5 (by omega), hs 4 (by omega), hs 3 (by omega), hs 2 (by omega), hs 1 (by omega), dgc_eq 0 (by omega)]
  by_cases a2 : c < 100
  · rw [if_neg a1, if_pos a2, hs 6 (by omega), hs 5 (by omega), hs 4 (by omega), hs 3 (by omega), hs 2 (by omega), dgc_eq 1 (by omega)]
  by_cases a3 : c < 1000
  · rw [if_neg a1, if_neg a2, if_pos a3, hs 6 (by omega), hs 5 (by omega), hs 4 (by omega), hs 3 (by omega), dgc_eq 2 (by omega)]
  by_cases a4 : c < 10000
  · rw [if_neg a1, if_neg a2, if_neg a3, if_pos a4, hs 6 (by omega), hs 5 (by omega), hs 4 (by omega), dgc_eq 3 (by omega)]
  by_cases a5 : c < 100000
  · rw [if_neg a1, if_neg a2, if_neg a3, if_neg a4, if_pos a5, hs 6 (by omega), hs 5 (by omega), dgc_eq 4 (by omega)]
  by_cases a6 : c < 1000000
  · rw [if_neg a1, if_neg a2, if_neg a3, if_neg a4, if_neg a5, if_pos a6, hs 6 (by omega), dgc_eq 5 (by omega)]
  · rw [if_neg a1, if_neg a2, if_neg a3, if_neg a4, if_neg a5, if_neg a6, dgc_eq 6 (by omega)]
theorem digitsC {c : Nat} (h1 : 1 ≤ c) (hc : c ≤ 1114111) : PutC (f_Out_putDigits (nI c)) (dgs c) := by
  rw [← dgc_dgs h1 hc]
  exact digC hc 7 FU (by omega) (by unfold FU; omega)
theorem digM18 {M0 : SMo} {c : Nat} (hc : c ≤ 1114111) : ∀ (k n : Nat), k ≤ 7 → k < n → PutM M0 (fun M => f_Mo_putNumber_18 n (nI c) (nI (un k)) M) (dgk c k) := by
  intro k
  induction k with
  | zero =>
    intro n _ hn
    obtain ⟨n, rfl⟩ : ∃ q, n = q + 1 := ⟨n - 1, by omega⟩
    refine PutM.nil.eqf (fun s => ?_)
    rw [f_Mo_putNumber_18, if_pos (by decide)]
  | succ k ih =>
    intro n hk hn
    obtain ⟨n, rfl⟩ : ∃ q, n = q + 1 := ⟨n - 1, by omega⟩
    have h1 := p10 (k := k) (by omega)
    have h2 := p10p k
    have e : dgk c (k + 1) = [nI (48 + c / 10 ^ k % 10)] ++ dgk c k := rfl
    rw [e]
    refine ((putM1 _).seq (ih n (by omega) (by omega))).eqf (fun s => ?_)
    rw [f_Mo_putNumber_18, un_div_I (by omega), un_s, if_neg (nI_nle h2 (by omega)), if_pos (nI_ne0 h2 (by omega)), digit_eq hc (by omega)]
theorem digM2 {c m : Nat} (hc : c ≤ 1114111) (hm : m ≤ 6) (hu : c < 10 ^ (m + 1)) (hl : 10 ^ m ≤ c ∨ m = 0) : ∀ (d j n : Nat), j + d = m → d < n → ∀ M, f_Mo_putNumber_2 n (nI c) (nI (10 ^ j)) M = f_Mo_putNumber_18 FU (nI c) (nI (10 ^ m)) M := by
  intro d
  induction d with
  | zero =>
    intro j n hj hn M
    obtain ⟨n, rfl⟩ : ∃ q, n = q + 1 := ⟨n - 1, by omega⟩
    have : j = m := by omega
    subst this
    have h1 := p10 hm
    have h2 := p10p j
    have h3 : c / 10 ^ j ≤ 9 := by
      rw [Nat.pow_succ] at hu
      have : c / 10 ^ j < 10 := (Nat.div_lt_iff_lt_mul h2).mpr (by omega)
      omega
    rw [f_Mo_putNumber_2, if_pos (nI_ne0 h2 (by omega)), pk_div (by omega) h2 (by omega), if_pos (show nI (c / 10 ^ j) ≤ 9 from nI_le h3 (by decide))]
  | succ d ih =>
    intro j n hj hn M
    obtain ⟨n, rfl⟩ : ∃ q, n = q + 1 := ⟨n - 1, by omega⟩
    have h1 := p10 (k := j) (by omega)
    have h2 := p10p j
    have h4 : 10 ^ (j + 1) ≤ c := by
      have : 10 ^ (j + 1) ≤ 10 ^ m := Nat.pow_le_pow_right (by decide) (by omega)
      rcases hl with hl | hl <;> omega
    have h3 : 10 ≤ c / 10 ^ j := (Nat.le_div_iff_mul_le h2).mpr (by rw [Nat.pow_succ] at h4; omega)
    have h5 : c / 10 ^ j ≤ c := Nat.div_le_self _ _
    have e : (10 : Int32) * nI (10 ^ j) = nI (10 ^ (j + 1)) := by
      have : (10 : Int32) * nI (10 ^ j) = nI (10 * 10 ^ j) := (Int32.ofNat_mul 10 (10 ^ j)).symm
      rw [this, Nat.pow_succ, Nat.mul_comm]
    rw [f_Mo_putNumber_2, if_pos (nI_ne0 h2 (by omega)), pk_div (by omega) h2 (by omega), if_neg (show ¬ nI (c / 10 ^ j) ≤ 9 from nI_ge (a := 9) (by omega) (by omega)), e]
    exact ih (j + 1) n (by omega) (by omega) M
theorem digitsM {M0 : SMo} {c : Nat} (hc : c ≤ 1114111) : PutM M0 (f_Mo_putNumber (nI c)) (dgs c) := by
  have key : ∀ m, m ≤ 6 → c < 10 ^ (m + 1) → (10 ^ m ≤ c ∨ m = 0) → PutM M0 (f_Mo_putNumber (nI c)) (dgk c (m + 1)) := by
    intro m hm hu hl
    refine (digM18 hc (m + 1) FU (by omega) (by unfold FU; omega)).eqf (fun M => ?_)
    rw [un_s]
    exact digM2 hc hm hu hl m 0 FU (by omega) (by unfold FU; omega) M
  unfold dgs ndg
  by_cases a1 : c < 10
  · rw [if_pos a1]; exact key 0 (by omega) (by omega) (Or.inr rfl)
  by_cases a2 : c < 100
  · rw [if_neg a1, if_pos a2]; exact key 1 (by omega) (by omega) (Or.inl (by omega))
  by_cases a3 : c < 1000
  · rw [if_neg a1, if_neg a2, if_pos a3]; exact key 2 (by omega) (by omega) (Or.inl (by omega))
  by_cases a4 : c < 10000
  · rw [if_neg a1, if_neg a2, if_neg a3, if_pos a4]; exact key 3 (by omega) (by omega) (Or.inl (by omega))
  by_cases a5 : c < 100000
  · rw [if_neg a1, if_neg a2, if_neg a3, if_neg a4, if_pos a5]; exact key 4 (by omega) (by omega) (Or.inl (by omega))
  by_cases a6 : c < 1000000
  · rw [if_neg a1, if_neg a2, if_neg a3, if_neg a4, if_neg a5, if_pos a6]; exact key 5 (by omega) (by omega) (Or.inl (by omega))
  · rw [if_neg a1, if_neg a2, if_neg a3, if_neg a4, if_neg a5, if_neg a6]; exact key 6 (by omega) (by omega) (Or.inl (by omega))
/-- one character, as both write it -/
theorem refC {c : Nat} (hc : c ≤ 1114111) : PutC (f_Out_putReferable (nI c)) (encR (nI c)) := by
  unfold encR
  rw [nI_clamp (by omega)]
  by_cases h1 : nI c = 38
  · rw [if_pos h1]
    refine (putStringC (i := 2) (by decide)).eqf (fun s => ?_)
    unfold f_Out_putReferable
    rw [if_pos h1]
    cases f_Out_putString 2 s <;> rfl
  rw [if_neg h1]
  have big : 1 ≤ c → PutC (fun s => (f_Out_putString 3 s).bind fun x1 => (f_Out_putDigits (nI c) x1).bind fun x2 => f_Out_putByte 59 x2) ([38, 35] ++ dgs c ++ [59]) := by
    intro h
    have := (putStringC (i := 3) (by decide)).seq ((digitsC h hc).seq (putByteC 59))
    rw [List.append_assoc]
    exact this
  have bb : ∀ o : Option SOut, (o.bind fun x => some x) = o := fun o => by cases o <;> rfl
  by_cases h2 : nI c = 13
  · rw [if_pos (Or.inl h2)]
    have h9 : c = 13 := (nI_eq (by omega) (by decide)).mp h2
    refine (big (by omega)).eqf (fun s => ?_)
    unfold f_Out_putReferable
    rw [if_neg h1, if_pos h2]
    simp only [bb]
  by_cases h3 : nI c ≤ 255
  · rw [if_neg (fun h => h.elim h2 (fun q => absurd (Int32.lt_iff_toInt_lt.mp q) (by have := Int32.le_iff_toInt_le.mp h3; omega)))]
    refine (putByteC (nI c)).eqf (fun s => ?_)
    unfold f_Out_putReferable
    rw [if_neg h1, if_neg h2, if_pos h3, bb]
  · have h4 : 255 < nI c := Int32.not_le.mp h3
    have h9 : 255 < c := (nI_ltI (a := 255) (by decide) (by omega)).mp h4
    rw [if_pos (Or.inr h4)]
    refine (big (by omega)).eqf (fun s => ?_)
    unfold f_Out_putReferable
    rw [if_neg h1, if_neg h2, if_neg h3]
    simp only [bb]
theorem bbM : ∀ o : Option SMo, (o.bind fun x => some x) = o := fun o => by cases o <;> rfl
theorem bbC : ∀ o : Option SOut, (o.bind fun x => some x) = o := fun o => by cases o <;> rfl
theorem ref56 {M0 : SMo} {c : Nat} (hc : c ≤ 1114111) (v2 : Int32) (h1 : ¬ nI c = 38) : PutM M0 (fun M => f_Mo_putCharacter_56 (nI c) v2 M) (encR (nI c)) := by
  unfold encR
  rw [nI_clamp (by omega), if_neg h1]
  have big : PutM M0 (fun s => (f_Mo_putAll 8998 s).bind fun x1 => (f_Mo_putNumber (nI c) x1).bind fun x2 => f_Mo_put 59 x2) ([38, 35] ++ dgs c ++ [59]) := by
    have := (putLit (M0 := M0) (w := 8998) (bs := [38, 35]) 4 (by decide) (by decide) (by decide)).seq ((digitsM hc).seq (putM1 59))
    rw [List.append_assoc]
    exact this
  by_cases h2 : nI c = 13
  · rw [if_pos (Or.inl h2)]
    refine big.eqf (fun s => ?_)
    unfold f_Mo_putCharacter_56
    rw [if_pos h2]
    simp only [bbM]
  by_cases h3 : nI c ≤ 255
  · rw [if_neg (fun h => h.elim h2 (fun q => absurd (Int32.lt_iff_toInt_lt.mp q) (by have := Int32.le_iff_toInt_le.mp h3; omega)))]
    refine (putM1 (nI c)).eqf (fun s => ?_)
    unfold f_Mo_putCharacter_56
    rw [if_neg h2, if_pos h3, bbM]
  · rw [if_pos (Or.inr (Int32.not_le.mp h3))]
    refine big.eqf (fun s => ?_)
    unfold f_Mo_putCharacter_56
    rw [if_neg h2, if_neg h3]
    simp only [bbM]
theorem charT {M0 : SMo} {c : Nat} (hc : c ≤ 1114111) : PutM M0 (f_Mo_putCharacter (nI c) 0) (encT (nI c)) := by
  unfold encT
  by_cases h1 : nI c = 38
  · rw [if_neg (by rw [h1]; decide)]
    have e : encR (nI c) = [38, 97, 109, 112, 59] := by unfold encR; rw [if_pos h1]
    rw [e]
    refine (putLit (w := 255289286950) (bs := [38, 97, 109, 112, 59]) 9 (by decide) (by decide) (by decide)).eqf (fun s => ?_)
    unfold f_Mo_putCharacter
    rw [if_pos h1, bbM]
  by_cases h2 : nI c = 60
  · rw [if_pos h2]
    refine (putLit (w := 997485606) (bs := [38, 108, 116, 59]) 9 (by decide) (by decide) (by decide)).eqf (fun s => ?_)
    unfold f_Mo_putCharacter
    rw [if_neg h1, if_pos h2, if_pos rfl, bbM]
  · rw [if_neg h2]
    refine (ref56 hc 0 h1).eqf (fun s => ?_)
    unfold f_Mo_putCharacter f_Mo_putCharacter_36
    rw [if_neg h1, if_neg h2]
    by_cases h3 : nI c = 34
    · rw [if_pos h3, if_pos rfl]
    · rw [if_neg h3]
theorem charV {M0 : SMo} {c : Nat} (hc : c ≤ 1114111) : PutM M0 (f_Mo_putCharacter (nI c) 1) (encV (nI c)) := by
  unfold encV
  by_cases h1 : nI c = 38
  · rw [if_neg (by rw [h1]; decide)]
    have e : encR (nI c) = [38, 97, 109, 112, 59] := by unfold encR; rw [if_pos h1]
    rw [e]
    refine (putLit (w := 255289286950) (bs := [38, 97, 109, 112, 59]) 9 (by decide) (by decide) (by decide)).eqf (fun s => ?_)
    unfold f_Mo_putCharacter
    rw [if_pos h1, bbM]
  by_cases h3 : nI c = 34
  · rw [if_pos h3]
    refine (putLit (w := 65371272212774) (bs := [38, 113, 117, 111, 116, 59]) 9 (by decide) (by decide) (by decide)).eqf (fun s => ?_)
    unfold f_Mo_putCharacter f_Mo_putCharacter_36
    rw [if_neg h1, if_neg (by rw [h3]; decide), if_pos h3, if_neg (by decide), bbM]
  · rw [if_neg h3]
    refine (ref56 hc 1 h1).eqf (fun s => ?_)
    unfold f_Mo_putCharacter f_Mo_putCharacter_36
    rw [if_neg h1]
    by_cases h2 : nI c = 60
    · rw [if_pos h2, if_neg (by decide), if_neg h3]
    · rw [if_neg h2, if_neg h3]
