def mtb (C : Nat → Int32) : Nat → List Int32 → Bool
  | _, [] => true
  | a, x :: l => decide (C a = x) && mtb C (a + 1) l
def ULb : Int64 → List Int32 → Bool
  | w, [] => decide (lg_cmp w 0 = 0)
  | w, x :: l => !decide (lg_cmp w 0 = 0) && (decide (w &&& 255 = x.toInt64) && ULb ((w.toUInt64 >>> ((8 : Int32).toInt64.toUInt64 &&& Int64.toUInt64 63)).toInt64) l)
def NL (i : Nat) : List Int32 := if i < 42 then (if i % 2 = 0 then zs (nm_letters (i / 2)) else zs (nm_letters (i / 2)) ++ [59]) else zs (nm_letters (i - 21)) ++ [59]
def NK (i : Nat) : Nat := if i < 42 then i / 2 else i - 21
theorem NL_ok : ∀ i, i < 53 → ULb (fillL ini_names 53 i) (NL i) = true ∧ (NL i).length < 10 ∧ fillI ini_gives 53 i = nm_given (NK i) := by decide +kernel
theorem NM_ok : ∀ k, k < 32 → (zs (nm_letters k)).length < 9 ∧ 0 < (zs (nm_letters k)).length ∧ nm_letters k < 42 ∧ ((nm_free k = 0) ↔ 21 ≤ k) ∧ nm_given k = nI (nm_given k).toNatClampNeg ∧ (nm_given k).toNatClampNeg ≤ 1114111 := by decide +kernel
def own (C : Nat → Int32) (a k : Nat) : Nat := if mtb C a (zs (nm_letters k)) = true then (if C (a + (zs (nm_letters k)).length) = 59 then (zs (nm_letters k)).length + 1 else if nm_free k = 0 then 0 else (zs (nm_letters k)).length) else 0
theorem mtb_snoc (C : Nat → Int32) (x : Int32) : ∀ (l : List Int32) (a : Nat), mtb C a (l ++ [x]) = (mtb C a l && decide (C (a + l.length) = x)) := by
  intro l
  induction l with
  | nil => intro a; simp [mtb]
  | cons y l ih =>
    intro a
    show (decide (C a = y) && mtb C (a + 1) (l ++ [x])) = (decide (C a = y) && mtb C (a + 1) l && decide (C (a + (y :: l).length) = x))
    rw [ih, List.length_cons, show a + (l.length + 1) = a + 1 + l.length by omega, Bool.and_assoc]
theorem c_len {n : Nat} {C : Nat → Int32} (hC : CHs n C) {p : Nat} {fl : Fl} {src : SSource} (hS : BS n C p fl src) {a k : Nat} (ha : a ≤ 500) (hk : k < 32) : f_Named_lengthIn k (nI a) src = some (nI (own C a k)) := by
  obtain ⟨h1, h2, h3, h4, -⟩ := NM_ok k hk
  have key : ∀ (d j f : Nat), j + d = (zs (nm_letters k)).length → d < f → f_Named_lengthIn_11 f k (nI a) (nI (zs (nm_letters k)).length) (nI j) src = some (nI (if mtb C (a + j) ((zs (nm_letters k)).drop j) = true then (if C (a + (zs (nm_letters k)).length) = 59 then (zs (nm_letters k)).length + 1 else if nm_free k = 0 then 0 else (zs (nm_letters k)).length) else 0)) := by
    intro d
    induction d with
    | zero =>
      intro j f hj hf
      obtain ⟨f, rfl⟩ : ∃ q, f = q + 1 := ⟨f - 1, by omega⟩
      rw [List.drop_eq_nil_of_le (by omega), show mtb C (a + j) [] = true from rfl, if_pos rfl, f_Named_lengthIn_11, if_pos (nI_le (by omega) (by omega)), nI_add, c_char hC hS (by omega), Option.bind_some]
      by_cases h59 : C (a + (zs (nm_letters k)).length) = 59
      · rw [if_pos h59, if_pos h59, nI_1]
      · rw [if_neg h59, if_neg h59, if_pos hk]
        by_cases hfr : nm_free k = 0
        · rw [if_pos hfr, if_pos hfr]; rfl
        · rw [if_neg hfr, if_neg hfr]
    | succ d ih =>
      intro j f hj hf
      obtain ⟨f, rfl⟩ : ∃ q, f = q + 1 := ⟨f - 1, by omega⟩
      have hlt : j < (zs (nm_letters k)).length := by omega
      have x1 : ix (nI j) (zs (nm_letters k)).length := ixI hlt (by omega)
      have eg : (zs (nm_letters k)).getD j 0 = (zs (nm_letters k))[j] := by rw [List.getD_eq_getElem?_getD, List.getElem?_eq_getElem hlt]; rfl
      rw [f_Named_lengthIn_11, if_neg (nI_ge hlt (by omega)), nI_add, c_char hC hS (by omega), Option.bind_some, if_pos hk, if_pos h3, if_pos x1, nI_1, List.drop_eq_getElem_cons hlt]
      simp only [nI_clamp (show j < 2 ^ 31 by omega), eg]
      by_cases hm : C (a + j) = (zs (nm_letters k))[j]
      · rw [if_pos hm, ih (j + 1) f (by omega) (by omega)]
        have : mtb C (a + j) ((zs (nm_letters k))[j] :: (zs (nm_letters k)).drop (j + 1)) = mtb C (a + (j + 1)) ((zs (nm_letters k)).drop (j + 1)) := by
          show (decide _ && _) = _
          rw [decide_eq_true hm, Bool.true_and]; rfl
        rw [this]
      · rw [if_neg hm]
        have : mtb C (a + j) ((zs (nm_letters k))[j] :: (zs (nm_letters k)).drop (j + 1)) = false := by
          show (decide _ && _) = _
          rw [decide_eq_false hm, Bool.false_and]
        rw [this, if_neg (by decide)]; rfl
  unfold f_Named_lengthIn own
  rw [if_pos hk, if_pos h3]
  have := key (zs (nm_letters k)).length 0 FU (by omega) (by unfold FU; omega)
  rw [List.drop_zero, Nat.add_zero] at this
  exact this
theorem cmp_eq0 (x y : Int64) : lg_cmp x y = 0 ↔ x = y := by
  unfold lg_cmp
  by_cases h : x > y
  · rw [if_pos h]
    constructor
    · intro g; exact absurd g (by decide)
    · intro g; rw [g] at h; exact absurd (Int64.lt_iff_toInt_lt.mp h) (by omega)
  · rw [if_neg h]
    by_cases g : x = y
    · rw [if_pos g]; exact ⟨fun _ => g, fun _ => rfl⟩
    · rw [if_neg g]; exact ⟨fun q => absurd q (by decide), fun q => absurd q g⟩
theorem in27_0 (k4 : Int32 → Int32 → Int32 → SMo → Option (Int32 × SMo)) (A B I : Int32) (M : SMo) : ∀ (R : List Int32) (w : Int64) (m f : Nat), ULb w R = true → R.length < f → f_Mo_longest_27 k4 f A B I (nI m) 0 w M = k4 A B (I + 1) M := by
  intro R
  induction R with
  | nil =>
    intro w m f hU hf
    obtain ⟨f, rfl⟩ : ∃ q, f = q + 1 := ⟨f - 1, by omega⟩
    have hz : lg_cmp w 0 = 0 := of_decide_eq_true hU
    rw [f_Mo_longest_27, if_pos hz, if_pos rfl]
  | cons x R ih =>
    intro w m f hU hf
    obtain ⟨f, rfl⟩ : ∃ q, f = q + 1 := ⟨f - 1, by omega⟩
    rw [List.length_cons] at hf
    have hU' : (!decide (lg_cmp w 0 = 0) && (decide (w &&& 255 = x.toInt64) && ULb ((w.toUInt64 >>> ((8 : Int32).toInt64.toUInt64 &&& Int64.toUInt64 63)).toInt64) R)) = true := hU
    simp only [Bool.and_eq_true, Bool.not_eq_true', decide_eq_false_iff_not, decide_eq_true_eq] at hU'
    rw [f_Mo_longest_27, if_neg hU'.1, if_pos rfl, nI_1]
    exact ih _ (m + 1) f hU'.2.2 (by omega)
theorem in27_1 {n : Nat} {C : Nat → Int32} (hC : CHs n C) {p : Nat} {fl : Fl} {row : List Int32} {TL : List Tk} {M : SMo} (hB : BM n C p fl row TL M) (k4 : Int32 → Int32 → Int32 → SMo → Option (Int32 × SMo)) {a : Nat} (ha : a ≤ 500) (B I : Int32) : ∀ (R : List Int32) (w : Int64) (m f : Nat), ULb w R = true → R.length < f → m + R.length ≤ 20 → f_Mo_longest_27 k4 f (nI a) B I (nI m) 1 w M = if mtb C (a + m) R = true then (if nI (m + R.length) ≤ B then k4 (nI a) B (I + 1) M else k4 (nI a) (nI (m + R.length)) (I + 1) (u_Mo_which M I)) else k4 (nI a) B (I + 1) M := by
  intro R
  induction R with
  | nil =>
    intro w m f hU hf hm
    obtain ⟨f, rfl⟩ : ∃ q, f = q + 1 := ⟨f - 1, by omega⟩
    have hz : lg_cmp w 0 = 0 := of_decide_eq_true hU
    rw [f_Mo_longest_27, if_pos hz, if_neg (by decide), show mtb C (a + m) [] = true from rfl, if_pos rfl]
    rfl
  | cons x R ih =>
    intro w m f hU hf hm
    obtain ⟨f, rfl⟩ : ∃ q, f = q + 1 := ⟨f - 1, by omega⟩
    rw [List.length_cons] at hf hm
    have hU' : (!decide (lg_cmp w 0 = 0) && (decide (w &&& 255 = x.toInt64) && ULb ((w.toUInt64 >>> ((8 : Int32).toInt64.toUInt64 &&& Int64.toUInt64 63)).toInt64) R)) = true := hU
    simp only [Bool.and_eq_true, Bool.not_eq_true', decide_eq_false_iff_not, decide_eq_true_eq] at hU'
    have hcond : (lg_cmp (C (a + m)).toInt64 (w &&& 255) = 0) ↔ C (a + m) = x := by
      rw [cmp_eq0, hU'.2.1]
      exact ⟨fun h => Int32.toInt_inj.mp (by have := congrArg Int64.toInt h; rwa [Int32.toInt_toInt64, Int32.toInt_toInt64] at this), fun h => by rw [h]⟩
    rw [f_Mo_longest_27, if_neg hU'.1, if_neg (by decide), nI_add, m_char hC hB (by omega), Option.bind_some, nI_1, List.length_cons]
    by_cases hx : C (a + m) = x
    · have e : mtb C (a + m) (x :: R) = mtb C (a + (m + 1)) R := by
        show (decide _ && _) = _
        rw [decide_eq_true hx, Bool.true_and]; rfl
      rw [if_pos (hcond.mpr hx), ih _ (m + 1) f hU'.2.2 (by omega) (by omega), e, show m + 1 + R.length = m + (R.length + 1) by omega]
    · have e : mtb C (a + m) (x :: R) = false := by
        show (decide _ && _) = _
        rw [decide_eq_false hx, Bool.false_and]
      rw [if_neg (fun h => hx (hcond.mp h)), e, if_neg (by decide)]
      exact in27_0 k4 (nI a) B I M R _ (m + 1) f hU'.2.2 (by omega)
