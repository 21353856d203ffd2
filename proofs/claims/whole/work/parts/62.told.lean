theorem repl_all : ∀ i : Fin 32, ta_REPLACED i.val = (if fillI ini_turned 32 i.val ≤ 0 then nI (128 + i.val) else fillI ini_turned 32 i.val) ∧ ta_REPLACED i.val = nI (ta_REPLACED i.val).toNatClampNeg ∧ (ta_REPLACED i.val).toNatClampNeg ≤ 1114111 := by decide +kernel
theorem wrong_turned {c q : Int32} {M M' : SMo} (h : f_Mo_wrong c q M = some M') : q_Mo_turned M' = q_Mo_turned M ∧ q_Mo_which M' = q_Mo_which M ∧ q_Mo_gives M' = q_Mo_gives M := by
  unfold f_Mo_wrong at h
  obtain ⟨-, h⟩ := g_chk h
  obtain ⟨-, h⟩ := g_chk h
  cases h
  exact ⟨rfl, rfl, rfl⟩
/-- what a number gives, in both -/
def Told (n : Nat) (C : Nat → Int32) (q : Nat) (fl : Fl) (row : List Int32) (TL : List Tk) (M : SMo) (R1 : Option (Int32 × SSource)) (R2 : Option (Int32 × SMo)) : Prop := ∃ (c : Nat) (fl' : Fl) (src' : SSource) (M' : SMo), c ≤ 1114111 ∧ fl'.length ≤ fl.length + 1 ∧ R1 = some (nI c, src') ∧ R2 = some (nI c, M') ∧ BS n C q fl' src' ∧ BM n C q fl' row TL M' ∧ EF M M' ∧ EE M M' ∧ SM M M' ∧ SX M M'
theorem told_one {n : Nat} {C : Nat → Int32} {q : Nat} {fl : Fl} {row : List Int32} {TL : List Tk} {src : SSource} {M : SMo} (hS : BS n C q fl src) (hB : BM n C q fl row TL M) (hf : fl.length < 1200) (k : Int32) {c : Nat} (hc : c ≤ 1114111) : Told n C q fl row TL M ((f_Source_wrong k src).bind fun x => some (nI c, x)) ((f_Mo_wrong k (q_Mo_p M) M).bind fun x => some (nI c, x)) := by
  obtain ⟨s1, e1, b1⟩ := c_wrong hS k (by omega)
  obtain ⟨M1, e2, d1, d2, d3, d4, d5⟩ := m_wrong hB k q hf
  refine ⟨c, fl ++ [(k, q)], s1, M1, hc, by rw [lenS]; omega, by rw [e1, Option.bind_some], by rw [hB.2.2.1, e2, Option.bind_some], b1, d1, d2, d3, d4, d5⟩
theorem told_none {n : Nat} {C : Nat → Int32} {q : Nat} {fl : Fl} {row : List Int32} {TL : List Tk} {src : SSource} {M : SMo} (hS : BS n C q fl src) (hB : BM n C q fl row TL M) {c : Nat} (hc : c ≤ 1114111) : Told n C q fl row TL M (some (nI c, src)) (some (nI c, M)) := ⟨c, fl, src, M, hc, by omega, rfl, rfl, hS, hB, EF.rf M, rfl, SM.rf M, rfl, rfl⟩
theorem blank13 : f_Mt_isBlank 13 = 0 := by decide
/-- 128 to 159 are replaced -/
theorem told_ctl {n : Nat} {C : Nat → Int32} {q : Nat} {fl : Fl} {row : List Int32} {TL : List Tk} {src : SSource} {M : SMo} (hS : BS n C q fl src) (hB : BM n C q fl row TL M) (hcn : RCon M) (hf : fl.length < 1200) {v : Nat} (hv : v ≤ 1114111) : Told n C q fl row TL M ((f_Source_wrong 32 src).bind fun x1 => (f_ReferenceWays_replaced (nI v)).bind fun x2 => some (x2, x1)) (f_Mo_told_133 (nI v) M) := by
  obtain ⟨s1, e1, b1⟩ := c_wrong hS 32 (by omega)
  obtain ⟨M1, e2, d1, d2, d3, d4, d5⟩ := m_wrong hB 32 q hf
  have et := (wrong_turned e2).1.trans hcn.2.2
  unfold f_Mo_told_133 f_ReferenceWays_replaced
  rw [e1, Option.bind_some, hB.2.2.1, e2, Option.bind_some]
  by_cases h1 : v < 128
  · have n1 : (nI v - 128 : Int32) < 0 := by
      rw [Int32.lt_iff_toInt_lt, Int32.toInt_sub, nI_toInt (by omega), show (128 : Int32).toInt = 128 from rfl, show (0 : Int32).toInt = 0 from rfl]
      unfold Int.bmod; simp only []; split <;> omega
    rw [if_pos n1, Option.bind_some, if_pos (show nI v < 128 from nI_lt (b := 128) h1 (by decide))]
    exact ⟨v, _, s1, M1, hv, by rw [lenS]; omega, rfl, rfl, b1, d1, d2, d3, d4, d5⟩
  · have es : (nI v - 128 : Int32) = nI (v - 128) := nI_sub (a := 128) (by omega)
    rw [es, if_neg (nI_pos (by omega)), if_neg (show ¬ nI v < 128 from nI_nlt (b := 128) (by omega) (by omega))]
    by_cases h2 : 159 < v
    · rw [if_pos (show nI ta_REPLACED_len ≤ nI (v - 128) from nI_le (show 32 ≤ v - 128 by omega) (by omega)), Option.bind_some, if_pos (show (159 : Int32) < nI v from nI_lt (a := 159) h2 (by omega))]
      exact ⟨v, _, s1, M1, hv, by rw [lenS]; omega, rfl, rfl, b1, d1, d2, d3, d4, d5⟩
    · have x1 : ix (nI (v - 128)) ta_REPLACED_len := ixI (show v - 128 < 32 by omega) (by decide)
      obtain ⟨r1, r2, r3⟩ := repl_all ⟨v - 128, by omega⟩
      simp only at r1 r2 r3
      rw [if_neg (show ¬ nI ta_REPLACED_len ≤ nI (v - 128) from nI_ge (show v - 128 < 32 by omega) (by decide)), if_pos x1, Option.bind_some, if_neg (show ¬ (159 : Int32) < nI v from nI_nlt (a := 159) (by omega) (by decide)), if_pos (show ix (nI (v - 128)) 32 from x1)]
      simp only [nI_clamp (show v - 128 < 2 ^ 31 by omega), et]
      rw [show 128 + (v - 128) = v by omega] at r1
      refine ⟨(ta_REPLACED (v - 128)).toNatClampNeg, _, s1, M1, r3, by rw [lenS]; omega, by rw [← r2], ?_, b1, d1, d2, d3, d4, d5⟩
      rw [← r2, r1]
      by_cases h3 : fillI ini_turned 32 (v - 128) ≤ 0
      · rw [if_pos h3, if_pos h3]
      · rw [if_neg h3, if_neg h3]
theorem told_sim {n : Nat} {C : Nat → Int32} {q : Nat} {fl : Fl} {row : List Int32} {TL : List Tk} {src : SSource} {M : SMo} (hS : BS n C q fl src) (hB : BM n C q fl row TL M) (hcn : RCon M) (hf : fl.length < 1200) {v : Nat} (hv : v ≤ 17825807) : Told n C q fl row TL M (f_ReferenceWays_characterOf (nI (min v 1114112)) src) (f_Mo_told (nI v) M) := by
  unfold f_ReferenceWays_characterOf f_Mo_told
  by_cases h0 : v = 0
  · subst h0
    rw [if_pos (by decide), if_pos (by decide)]
    exact told_one hS hB hf 28 (c := 65533) (by decide)
  have z1 : ¬ nI (min v 1114112) = 0 := nI_ne0 (by omega) (by omega)
  have z2 : ¬ nI v = 0 := nI_ne0 (by omega) (by omega)
  rw [if_neg z1, if_neg z2]
  by_cases h1 : 1114111 < v
  · rw [if_neg (show ¬ nI (min v 1114112) ≤ 1114111 from nI_ge (a := 1114111) (by omega) (by omega)), if_neg (show ¬ nI v ≤ 1114111 from nI_ge (a := 1114111) (by omega) (by omega))]
    exact told_one hS hB hf 29 (c := 65533) (by decide)
  rw [show min v 1114112 = v by omega, if_pos (show nI v ≤ 1114111 from nI_le (b := 1114111) (by omega) (by decide)), if_pos (show nI v ≤ 1114111 from nI_le (b := 1114111) (by omega) (by decide))]
  -- behind the surrogates, in both
  have rest : Told n C q fl row TL M (if f_ReferenceWays_isNoCharacter (nI v) = 0 then if f_ReferenceWays_isControl (nI v) = 0 then some (nI v, src) else (f_Source_wrong 32 src).bind fun x1 => (f_ReferenceWays_replaced (nI v)).bind fun x2 => some (x2, x1) else (f_Source_wrong 31 src).bind fun x3 => some (nI v, x3)) (f_Mo_told_64 (nI v) M) := by
    have em : (nI v - nI v / 65536 * 65536 : Int32) = nI (v % 65536) := pk_rem (d := 65536) (by omega) (by decide) (by decide)
    have ea : (nI v &&& 65535 : Int32) = nI (v % 65536) := pk_andN (by omega) 16 (by decide)
    have hm : v % 65536 < 65536 := Nat.mod_lt _ (by decide)
    -- no character
    have nc : f_ReferenceWays_isNoCharacter (nI v) = if (64976 ≤ v ∧ v ≤ 65007) ∨ 65534 ≤ v % 65536 then 1 else 0 := by
      unfold f_ReferenceWays_isNoCharacter
      rw [ea]
      by_cases g1 : v < 64976
      · rw [if_pos (show nI v < 64976 from nI_lt (b := 64976) g1 (by decide))]
        by_cases g2 : v % 65536 < 65534
        · rw [if_pos (show nI (v % 65536) < 65534 from nI_lt (b := 65534) g2 (by decide)), if_neg (by omega)]
        · rw [if_neg (show ¬ nI (v % 65536) < 65534 from nI_nlt (b := 65534) (by omega) (by omega)), if_pos (by omega)]
      · rw [if_neg (show ¬ nI v < 64976 from nI_nlt (b := 64976) (by omega) (by omega))]
        by_cases g3 : v ≤ 65007
        · rw [if_pos (show nI v ≤ 65007 from nI_le (b := 65007) g3 (by decide)), if_pos (by omega)]
        · rw [if_neg (show ¬ nI v ≤ 65007 from nI_ge (a := 65007) (by omega) (by omega))]
          by_cases g2 : v % 65536 < 65534
          · rw [if_pos (show nI (v % 65536) < 65534 from nI_lt (b := 65534) g2 (by decide)), if_neg (by omega)]
          · rw [if_neg (show ¬ nI (v % 65536) < 65534 from nI_nlt (b := 65534) (by omega) (by omega)), if_pos (by omega)]
    have n31 : Told n C q fl row TL M ((f_Source_wrong 31 src).bind fun x3 => some (nI v, x3)) ((f_Mo_wrong 31 (q_Mo_p M) M).bind fun x => some (nI v, x)) := told_one hS hB hf 31 (by omega)
    -- the reference's rest
    have t78 : ¬ (64976 ≤ v ∧ v ≤ 65007) → Told n C q fl row TL M (if f_ReferenceWays_isNoCharacter (nI v) = 0 then if f_ReferenceWays_isControl (nI v) = 0 then some (nI v, src) else (f_Source_wrong 32 src).bind fun x1 => (f_ReferenceWays_replaced (nI v)).bind fun x2 => some (x2, x1) else (f_Source_wrong 31 src).bind fun x3 => some (nI v, x3)) (f_Mo_told_78 (nI v) M) := by
      intro hno
      unfold f_Mo_told_78
      rw [nc, em]
      by_cases g2 : v % 65536 < 65534
      · rw [if_neg (show ¬ ((64976 ≤ v ∧ v ≤ 65007) ∨ 65534 ≤ v % 65536) by omega), if_pos rfl, if_pos (show nI (v % 65536) < 65534 from nI_lt (b := 65534) g2 (by decide))]
        have ctl := told_ctl hS hB hcn hf (v := v) (by omega)
        unfold f_ReferenceWays_isControl
        by_cases c1 : v < 127
        · rw [if_pos (show nI v < 127 from nI_lt (b := 127) c1 (by decide)), if_pos (show nI v < 127 from nI_lt (b := 127) c1 (by decide))]
          unfold f_Mo_told_114
          by_cases c2 : 32 ≤ v
          · rw [if_pos (show (32 : Int32) ≤ nI v from nI_le (a := 32) c2 (by omega)), if_pos rfl, if_neg (show ¬ nI v = 13 from fun h => by have := (nI_eq (b := 13) (by omega) (by decide)).mp h; omega), if_pos (show (32 : Int32) ≤ nI v from nI_le (a := 32) c2 (by omega))]
            exact told_none hS hB (by omega)
          · rw [if_neg (show ¬ (32 : Int32) ≤ nI v from nI_ge (b := 32) (by omega) (by decide))]
            by_cases c3 : nI v = 13
            · rw [if_pos c3, c3, blank13, if_pos rfl, if_neg (by decide)]
              rw [c3] at ctl; exact ctl
            · rw [if_neg c3, if_neg (show ¬ (32 : Int32) ≤ nI v from nI_ge (b := 32) (by omega) (by decide)), isBlank_eq]
              by_cases c4 : f_Mt_isBlank (nI v) = 0
              · rw [if_pos c4, if_neg (by decide), if_pos c4]; exact ctl
              · rw [if_neg c4, if_pos rfl, if_neg c4]; exact told_none hS hB (by omega)
        · rw [if_neg (show ¬ nI v < 127 from nI_nlt (b := 127) (by omega) (by omega)), if_neg (show ¬ nI v < 127 from nI_nlt (b := 127) (by omega) (by omega))]
          by_cases c5 : v ≤ 159
          · rw [if_pos (show nI v ≤ 159 from nI_le (b := 159) c5 (by decide)), if_neg (by decide), if_pos (show nI v ≤ 159 from nI_le (b := 159) c5 (by decide))]; exact ctl
          · unfold f_Mo_told_114
            rw [if_neg (show ¬ nI v ≤ 159 from nI_ge (a := 159) (by omega) (by omega)), if_pos (show (32 : Int32) ≤ nI v from nI_le (a := 32) (by omega) (by omega)), if_pos rfl, if_neg (show ¬ nI v ≤ 159 from nI_ge (a := 159) (by omega) (by omega)), if_neg (show ¬ nI v = 13 from fun h => by have := (nI_eq (b := 13) (by omega) (by decide)).mp h; omega), if_pos (show (32 : Int32) ≤ nI v from nI_le (a := 32) (by omega) (by omega))]
            exact told_none hS hB (by omega)
      · rw [if_pos (show (64976 ≤ v ∧ v ≤ 65007) ∨ 65534 ≤ v % 65536 by omega), if_neg (by decide), if_neg (show ¬ nI (v % 65536) < 65534 from nI_nlt (b := 65534) (by omega) (by omega))]
        exact n31
    unfold f_Mo_told_64
    by_cases g1 : v < 64976
    · rw [if_pos (show nI v < 64976 from nI_lt (b := 64976) g1 (by decide))]
      exact t78 (by omega)
    · rw [if_neg (show ¬ nI v < 64976 from nI_nlt (b := 64976) (by omega) (by omega))]
      by_cases g3 : v ≤ 65007
      · rw [if_pos (show nI v ≤ 65007 from nI_le (b := 65007) g3 (by decide)), nc, if_pos (show (64976 ≤ v ∧ v ≤ 65007) ∨ 65534 ≤ v % 65536 from Or.inl ⟨by omega, g3⟩), if_neg (show ¬ (1 : Int32) = 0 by decide)]
        exact n31
      · rw [if_neg (show ¬ nI v ≤ 65007 from nI_ge (a := 65007) (by omega) (by omega))]
        exact t78 (by omega)
  by_cases h2 : v < 55296
  · rw [if_pos (show nI v < 55296 from nI_lt (b := 55296) h2 (by decide)), if_pos (show nI v < 55296 from nI_lt (b := 55296) h2 (by decide))]
    exact rest
  · rw [if_neg (show ¬ nI v < 55296 from nI_nlt (b := 55296) (by omega) (by omega)), if_neg (show ¬ nI v < 55296 from nI_nlt (b := 55296) (by omega) (by omega))]
    by_cases h3 : 57343 < v
    · rw [if_pos (show (57343 : Int32) < nI v from nI_lt (a := 57343) h3 (by omega)), if_pos (show (57343 : Int32) < nI v from nI_lt (a := 57343) h3 (by omega))]
      exact rest
    · rw [if_neg (show ¬ (57343 : Int32) < nI v from nI_nlt (a := 57343) (by omega) (by decide)), if_neg (show ¬ (57343 : Int32) < nI v from nI_nlt (a := 57343) (by omega) (by decide))]
      exact told_one hS hB hf 30 (c := 65533) (by decide)
