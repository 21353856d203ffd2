theorem bv_sl (x : Int64) (b : Int64) (k : Nat) (h : (b.toBitVec.smod 64).toNat = k) : (x <<< b).toBitVec = x.toBitVec <<< k := by
  rw [Int64.toBitVec_shiftLeft, BitVec.shiftLeft_eq', h]
theorem word_eq (b0 b1 b2 b3 b4 b5 b6 b7 : Int64) : (((((((((0 : Int64) ||| (b0 <<< (((8 * nI 0) : Int32).toInt64 &&& 63))) ||| (b1 <<< (((8 * nI 1) : Int32).toInt64 &&& 63))) ||| (b2 <<< (((8 * nI 2) : Int32).toInt64 &&& 63))) ||| (b3 <<< (((8 * nI 3) : Int32).toInt64 &&& 63))) ||| (b4 <<< (((8 * nI 4) : Int32).toInt64 &&& 63))) ||| (b5 <<< (((8 * nI 5) : Int32).toInt64 &&& 63))) ||| (b6 <<< (((8 * nI 6) : Int32).toInt64 &&& 63))) ||| (b7 <<< (((8 * nI 7) : Int32).toInt64 &&& 63))) = (((((((((((((((((0 : Int64) <<< ((8 : Int32).toInt64 &&& 63)) ||| b7) <<< ((8 : Int32).toInt64 &&& 63)) ||| b6) <<< ((8 : Int32).toInt64 &&& 63)) ||| b5) <<< ((8 : Int32).toInt64 &&& 63)) ||| b4) <<< ((8 : Int32).toInt64 &&& 63)) ||| b3) <<< ((8 : Int32).toInt64 &&& 63)) ||| b2) <<< ((8 : Int32).toInt64 &&& 63)) ||| b1) <<< ((8 : Int32).toInt64 &&& 63)) ||| b0) := by
  apply Int64.toBitVec_inj.mp
  simp only [Int64.toBitVec_or]
  rw [bv_sl b0 _ 0 (by decide), bv_sl b1 _ 8 (by decide), bv_sl b2 _ 16 (by decide), bv_sl b3 _ 24 (by decide), bv_sl b4 _ 32 (by decide), bv_sl b5 _ 40 (by decide), bv_sl b6 _ 48 (by decide), bv_sl b7 _ 56 (by decide)]
  simp only [bv_sl _ ((8 : Int32).toInt64 &&& 63) 8 (by decide), Int64.toBitVec_or, BitVec.shiftLeft_or_distrib, ← BitVec.shiftLeft_add, Nat.reduceAdd]
  have e0 : (0 : Int64).toBitVec = 0#64 := rfl
  rw [e0]
  simp only [BitVec.zero_shiftLeft, BitVec.zero_or, BitVec.shiftLeft_zero]
  generalize b0.toBitVec = c0
  generalize b1.toBitVec <<< 8 = c1
  generalize b2.toBitVec <<< 16 = c2
  generalize b3.toBitVec <<< 24 = c3
  generalize b4.toBitVec <<< 32 = c4
  generalize b5.toBitVec <<< 40 = c5
  generalize b6.toBitVec <<< 48 = c6
  generalize b7.toBitVec <<< 56 = c7
  simp only [BitVec.or_assoc]
  rw [BitVec.or_comm c0, BitVec.or_comm c1, BitVec.or_comm c2, BitVec.or_comm c3, BitVec.or_comm c4, BitVec.or_comm c5, BitVec.or_comm c6]
  simp only [BitVec.or_assoc]
/-- a byte of what was written, as both see it -/
def wb (o : Nat → Int32) (n k : Nat) : Int64 := if k < n then (o k).toInt64 &&& 255 else 0
theorem byteAt_in {s : SOut} {n k : Nat} (hn : n ≤ 3200) (h : q_Out_length s = nI n) (hk : k < 2 ^ 31) : f_Out_byteAt (lN k) s = some (wb (q_Out_bytes s) n k) := by
  unfold f_Out_byteAt wb lg_cmp
  rw [h, nI_l (by omega)]
  have z0 : (0 : Int64) = lN 0 := rfl
  by_cases hl : k < n
  · have x1 : ix (nI k) 3200 := ixI (by omega) (by omega)
    have g1 : ¬ lN k > lN n := fun q => absurd ((lN_lt (by omega) hk).mp q) (by omega)
    have g2 : ¬ lN k = lN n := fun q => absurd ((lN_eq hk (by omega)).mp q) (by omega)
    have g3 : ¬ (if lN k > (0 : Int64) then (1 : Int32) else if lN k = 0 then 0 else -1) < 0 := by
      by_cases q : lN k > (0 : Int64)
      · rw [if_pos q]; decide
      · rw [if_neg q]
        have : k = 0 := by
          rw [z0] at q
          exact Nat.eq_zero_of_not_pos fun p => q ((lN_lt (by decide) hk).mpr p)
        subst this
        decide
    rw [if_neg g3, if_neg g1, if_neg g2, if_neg (by decide), lN_i, if_pos x1, nI_clamp hk, if_pos hl]
  · have g3 : ¬ (if lN k > (0 : Int64) then (1 : Int32) else if lN k = 0 then 0 else -1) < 0 := by
      by_cases q : lN k > (0 : Int64)
      · rw [if_pos q]; decide
      · rw [if_neg q]
        have : k = 0 := by
          rw [z0] at q
          exact Nat.eq_zero_of_not_pos fun p => q ((lN_lt (by decide) hk).mpr p)
        subst this
        decide
    rw [if_neg g3, if_neg hl]
    by_cases q : n < k
    · rw [if_pos (show lN k > lN n from (lN_lt (by omega) hk).mpr q), if_pos (by decide)]
    · have : k = n := by omega
      subst this
      rw [if_neg (show ¬ lN k > lN k from fun p => absurd ((lN_lt hk hk).mp p) (by omega)), if_pos rfl, if_pos (by decide)]
theorem and255 (x : Int32) : (x &&& 255).toInt64 = x.toInt64 &&& 255 := by
  rw [Int32.toInt64_and]; rfl
theorem wordC {s : SOut} {n : Nat} (hn : n ≤ 3200) (h : q_Out_length s = nI n) {i : Nat} (hi : i < 500) (a : Int32) : ∀ (d k f : Nat) (acc : Int64), k + d = 8 → d < f →
    f_Mt_word_13 f a (lN (8 * i)) acc (nI k) s = some ((List.range d).foldl (fun c q => c ||| (wb (q_Out_bytes s) n (8 * i + (k + q)) <<< (((8 * nI (k + q)) : Int32).toInt64 &&& 63))) acc) := by
  intro d
  induction d with
  | zero =>
    intro k f acc hk hf
    obtain ⟨f, rfl⟩ : ∃ q, f = q + 1 := ⟨f - 1, by omega⟩
    have : k = 8 := by omega
    subst this
    unfold f_Mt_word_13
    rw [if_pos (by decide)]
    rfl
  | succ d ih =>
    intro k f acc hk hf
    obtain ⟨f, rfl⟩ : ∃ q, f = q + 1 := ⟨f - 1, by omega⟩
    unfold f_Mt_word_13
    rw [if_neg (show ¬ (8 : Int32) ≤ nI k from nI_ge (b := 8) (by omega) (by omega)), nI_l (by omega), lN_add, byteAt_in hn h (by omega), Option.bind_some, nI_1, ih (k + 1) f _ (by omega) (by omega), List.range_succ_eq_map, List.foldl_cons, List.foldl_map]
    have e : ∀ q, k + 1 + q = k + Nat.succ q := fun q => by omega
    simp only [e]
    rfl
theorem wordM {M : SMo} {n : Nat} (hn : n ≤ 3200) (h : q_Mo_outSize M = nI n) {i : Nat} (hi : i < 500) {k : Nat} (hk : k < 8) (f : Nat) (acc : Int64) :
    f_Mo_word_6 (f + 1) (nI i) acc (nI k) M = f_Mo_word_6 f (nI i) ((acc <<< ((8 : Int32).toInt64 &&& 63)) ||| wb (q_Mo_out M) n (8 * i + k)) (nI k + (-1)) M := by
  have e8 : (8 * nI i + nI k : Int32) = nI (8 * i + k) := by
    have : (8 : Int32) * nI i = nI (8 * i) := (Int32.ofNat_mul 8 i).symm
    rw [this, nI_add]
  rw [f_Mo_word_6, if_neg (nI_pos (by omega)), if_neg (nI_pos (by omega)), if_neg (show ¬ (500 : Int32) ≤ nI i from nI_ge (b := 500) hi (by decide)), h, e8]
  unfold wb
  by_cases hl : 8 * i + k < n
  · have x1 : ix (nI (8 * i + k)) 4000 := ixI (by omega) (by omega)
    rw [if_neg (nI_ge hl (by omega)), if_pos x1, nI_clamp (by omega), if_pos hl, and255]
  · rw [if_pos (nI_le (by omega) (by omega)), if_neg hl]
    rfl
theorem nI_m1 (k : Nat) : nI (k + 1) + (-1) = nI k := by
  exact (Int32.sub_eq_add_neg _ _).symm.trans (nI_pred k)
theorem cmp_neg {x y : Int64} (h : x.toInt < y.toInt) : lg_cmp x y < 0 := by
  unfold lg_cmp
  rw [if_neg (show ¬ x > y from fun q => by have := Int64.lt_iff_toInt_lt.mp q; omega), if_neg (show ¬ x = y from fun q => by rw [q] at h; omega)]
  decide
theorem cmp_ge {x y : Int64} (h : y.toInt ≤ x.toInt) : 0 ≤ lg_cmp x y ∧ ¬ lg_cmp x y < 0 := by
  unfold lg_cmp
  by_cases q : x > y
  · rw [if_pos q]; decide
  · rw [if_neg q]
    have : x = y := Int64.toInt_inj.mp (by
      have := mt Int64.lt_iff_toInt_lt.mpr q
      omega)
    rw [if_pos this]; decide
theorem w_at (a : Int32) {k : Nat} (hk : k < 8) : (8 * a.toInt64 + (nI k).toInt64).toInt = 8 * a.toInt + k := by
  have h1 := Int32.le_toInt a
  have h2 := Int32.toInt_lt a
  rw [Int64.toInt_add, Int64.toInt_mul, Int32.toInt_toInt64, Int32.toInt_toInt64, nI_toInt (by omega), show (8 : Int64).toInt = 8 from rfl]
  have e1 : (8 * a.toInt).bmod (2 ^ 64) = 8 * a.toInt := by unfold Int.bmod; simp only []; split <;> omega
  rw [e1]
  unfold Int.bmod; simp only []; split <;> omega
theorem byteAt_out {s : SOut} {n k : Nat} (hn : n ≤ 3200) (h : q_Out_length s = nI n) (a : Int32) (hk : k < 8) (ha : a.toInt < 0 ∨ 500 ≤ a.toInt) : f_Out_byteAt (8 * a.toInt64 + (nI k).toInt64) s = some 0 := by
  have e := w_at a hk
  unfold f_Out_byteAt
  rcases ha with ha | ha
  · rw [if_pos (cmp_neg (by rw [e, show (0 : Int64).toInt = 0 from rfl]; omega))]
  · rw [if_neg (cmp_ge (by rw [e, show (0 : Int64).toInt = 0 from rfl]; omega)).2, if_pos (cmp_ge (by rw [e, h, Int32.toInt_toInt64, nI_toInt (by omega)]; omega)).1]
theorem or_zero_shl (x : Int64) : (0 : Int64) ||| ((0 : Int64) <<< x) = 0 := by
  apply Int64.toBitVec_inj.mp
  rw [Int64.toBitVec_or, Int64.toBitVec_shiftLeft]
  simp
theorem wordZ {s : SOut} {n : Nat} (hn : n ≤ 3200) (h : q_Out_length s = nI n) (a : Int32) (ha : a.toInt < 0 ∨ 500 ≤ a.toInt) : ∀ (d k f : Nat), k + d = 8 → d < f → f_Mt_word_13 f a (8 * a.toInt64) 0 (nI k) s = some 0 := by
  intro d
  induction d with
  | zero =>
    intro k f hk hf
    obtain ⟨f, rfl⟩ : ∃ q, f = q + 1 := ⟨f - 1, by omega⟩
    have : k = 8 := by omega
    subst this
    unfold f_Mt_word_13
    rw [if_pos (by decide)]
  | succ d ih =>
    intro k f hk hf
    obtain ⟨f, rfl⟩ : ∃ q, f = q + 1 := ⟨f - 1, by omega⟩
    unfold f_Mt_word_13
    rw [if_neg (show ¬ (8 : Int32) ≤ nI k from nI_ge (b := 8) (by omega) (by omega)), byteAt_out hn h a (by omega) ha, Option.bind_some, nI_1, or_zero_shl]
    exact ih (k + 1) f (by omega) (by omega)
theorem op_word : Op_word RelS := by
  intro S M a h
  obtain ⟨-, -, -, ⟨n, h1, h2, h3, h4⟩, -⟩ := h
  generalize S.2.2.2.2.2.2 = s at *
  by_cases a0 : a < 0
  · refine ⟨0, ?_, ?_⟩
    · exact wordZ h1 h2 a (Or.inl (by simpa using Int32.lt_iff_toInt_lt.mp a0)) 8 0 FU (by omega) (by unfold FU; omega)
    · unfold f_Mo_word
      rw [show FU = 199999 + 1 from rfl, f_Mo_word_6, if_neg (by decide), if_pos a0]
  obtain ⟨i, hi, rfl⟩ := nI_of a0
  by_cases h5 : i < 500
  · refine ⟨(List.range 8).foldl (fun c q => c ||| (wb (q_Out_bytes s) n (8 * i + (0 + q)) <<< (((8 * nI (0 + q)) : Int32).toInt64 &&& 63))) 0, ?_, ?_⟩
    · unfold f_Mt_word
      have e1 : (8 : Int64) * (nI i).toInt64 = lN (8 * i) := by rw [nI_l hi]; exact lN_mul 8 i
      rw [e1]
      exact wordC h1 h2 h5 (nI i) 8 0 FU 0 (by omega) (by unfold FU; omega)
    · unfold f_Mo_word
      rw [show FU = 199991 + 1 + 1 + 1 + 1 + 1 + 1 + 1 + 1 + 1 from rfl, show (7 : Int32) = nI 7 from rfl, wordM h1 h3 h5 (by omega), nI_m1, wordM h1 h3 h5 (by omega), nI_m1, wordM h1 h3 h5 (by omega), nI_m1, wordM h1 h3 h5 (by omega), nI_m1, wordM h1 h3 h5 (by omega), nI_m1, wordM h1 h3 h5 (by omega), nI_m1, wordM h1 h3 h5 (by omega), nI_m1, wordM h1 h3 h5 (by omega), f_Mo_word_6, if_pos (by decide), ← word_eq]
      have ew : ∀ k, wb (q_Mo_out M) n k = wb (q_Out_bytes s) n k := by
        intro k
        unfold wb
        by_cases hk : k < n
        · rw [if_pos hk, if_pos hk, (h4 k hk).1]
        · rw [if_neg hk, if_neg hk]
      simp only [ew]
      rfl
  · refine ⟨0, ?_, ?_⟩
    · exact wordZ h1 h2 (nI i) (Or.inr (by rw [nI_toInt hi]; omega)) 8 0 FU (by omega) (by unfold FU; omega)
    · unfold f_Mo_word
      rw [show FU = 199999 + 1 from rfl, f_Mo_word_6, if_neg (by decide), if_neg a0, if_pos (show (500 : Int32) ≤ nI i from nI_le (a := 500) (by omega) hi)]
