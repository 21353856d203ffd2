theorem lod (c : Int32) : f_Mt_isLetterOrDigit c = if f_Mt_isLetter c = 0 then f_Mo_isDigit c else 1 := rfl
theorem unnamed_sim {n : Nat} {C : Nat → Int32} (hC : CHs n C) {TL : List Tk} {iv : Int32} {X : STokens → Prop} {Y : Nat → SMo → Prop} (hx : CtxOK n C TL iv X Y) {p bk : Nat} {fl : Fl} {row : List Int32} {t : STokens} (v3 : Int32) (h38 : C p = 38) (hl : row.length ≤ p) (hfl : fl.length + 4 ≤ 1200) (hT : BT row TL t) (hX : X t) : ∀ (d q k f1 f2 : Nat) (src : SSource) (M : SMo), n - q ≤ d → d < f1 → d < f2 → p < q → q ≤ n → k + (n - q) < 400 → BS n C q fl src → BM n C q fl row TL M → Y row.length M → ∃ (src' : SSource) (t' : STokens) (M' : SMo), f_ReferenceWays_unnamed_10 f1 (nI (p + 1)) (nI k) bk src t = some (bk, src', t') ∧ f_Mo_named_13 f2 (nI p) iv v3 M = some M' ∧ RefRes n C TL p X Y fl row src' t' M M' := by
  have hn := hC.1
  -- where no letter and no digit stands
  have stop : ∀ (q k f1 f2 : Nat) (src : SSource) (M : SMo), p < q → q ≤ n → k + (n - q) < 400 → BS n C q fl src → BM n C q fl row TL M → Y row.length M → f_Mt_isLetterOrDigit (C q) = 0 → ∃ (src' : SSource) (t' : STokens) (M' : SMo), f_ReferenceWays_unnamed_10 (f1 + 1) (nI (p + 1)) (nI k) bk src t = some (bk, src', t') ∧ f_Mo_named_13 (f2 + 1) (nI p) iv v3 M = some M' ∧ RefRes n C TL p X Y fl row src' t' M M' := by
    intro q k f1 f2 src M hpq hq hk hS hB hY hz
    have hz2 : f_Mt_isLetter (C q) = 0 ∧ f_Mo_isDigit (C q) = 0 := by
      rw [lod] at hz
      by_cases h : f_Mt_isLetter (C q) = 0
      · rw [if_pos h] at hz; exact ⟨h, hz⟩
      · rw [if_neg h] at hz; exact absurd hz (by decide)
    obtain ⟨t1, M1, g1, g2, g3, g4, g5, g6, g7, g8⟩ := ref_asItIs hC hx h38 hpq hq hl hS hT hX hB hY
    obtain ⟨u1, u2, u3⟩ := slice_ok hC (a := p) (b := q) hq
    have hne : slice C p q ≠ [] := by rw [slice_cons hpq]; simp
    by_cases h59 : C q = 59
    · obtain ⟨s2, e1, b1⟩ := c_wrong hS 26 (by omega)
      obtain ⟨M2, e2, d1, d2, d3, d4, d5⟩ := m_wrong g7 26 q (by omega)
      refine ⟨s2, t1, M2, ?_, ?_, g3.trans d2, g4.trans d3, q, _, slice C p q, by omega, hq, b1, g5, g6, d1, hx.2.1 _ M1 M2 g8 d4 d5, hne, by rw [slice_len]; omega, by rw [lenS]; omega, u1, u2, u3⟩
      · rw [f_ReferenceWays_unnamed_10, if_neg (show ¬ (400 : Int32) ≤ nI k from nI_ge (b := 400) (by omega) (by decide)), c_next hC hS hq, Option.bind_some, if_pos hz, g1, Option.bind_some, Option.bind_some, if_pos h59, e1, Option.bind_some]
      · rw [f_Mo_named_13, m_cp hC hB (by omega), Option.bind_some, isLetter_eq, if_pos hz2.1, Option.bind_some, if_pos hz2.2, g2, Option.bind_some, m_cp hC g7 (by omega), Option.bind_some, if_pos h59, g7.2.2.1, e2, Option.bind_some]
    · refine ⟨src, t1, M1, ?_, ?_, g3, g4, q, _, slice C p q, by omega, hq, hS, g5, g6, g7, g8, hne, by rw [slice_len]; omega, by omega, u1, u2, u3⟩
      · rw [f_ReferenceWays_unnamed_10, if_neg (show ¬ (400 : Int32) ≤ nI k from nI_ge (b := 400) (by omega) (by decide)), c_next hC hS hq, Option.bind_some, if_pos hz, g1, Option.bind_some, Option.bind_some, if_neg h59]
      · rw [f_Mo_named_13, m_cp hC hB (by omega), Option.bind_some, isLetter_eq, if_pos hz2.1, Option.bind_some, if_pos hz2.2, g2, Option.bind_some, m_cp hC g7 (by omega), Option.bind_some, if_neg h59]
  intro d
  induction d with
  | zero =>
    intro q k f1 f2 src M hd h1 h2 hpq hq hk hS hB hY
    obtain ⟨f1, rfl⟩ : ∃ x, f1 = x + 1 := ⟨f1 - 1, by omega⟩
    obtain ⟨f2, rfl⟩ : ∃ x, f2 = x + 1 := ⟨f2 - 1, by omega⟩
    exact stop q k f1 f2 src M hpq hq hk hS hB hY (by rw [(ch_end hC).mpr (show n ≤ q by omega)]; decide)
  | succ d ih =>
    intro q k f1 f2 src M hd h1 h2 hpq hq hk hS hB hY
    obtain ⟨f1, rfl⟩ : ∃ x, f1 = x + 1 := ⟨f1 - 1, by omega⟩
    obtain ⟨f2, rfl⟩ : ∃ x, f2 = x + 1 := ⟨f2 - 1, by omega⟩
    by_cases hz : f_Mt_isLetterOrDigit (C q) = 0
    · exact stop q k f1 f2 src M hpq hq hk hS hB hY hz
    · have hqn : q < n := by
        by_cases h : q < n
        · exact h
        · exact absurd (show f_Mt_isLetterOrDigit (C q) = 0 by rw [(ch_end hC).mpr (show n ≤ q by omega)]; decide) hz
      obtain ⟨M1, x1, y1, y2, y3, y4, y5⟩ := m_adv hB
      have s1 : BS n C (q + 1) fl (f_Source_skip 1 src) := c_skip hn hS (k := 1) (by omega)
      obtain ⟨src', t', M', e1, e2, r1, r2, r3⟩ := ih (q + 1) (k + 1) f1 f2 (f_Source_skip 1 src) M1 (by omega) (by omega) (by omega) (by omega) (by omega) (by omega) s1 y1 (hx.2.1 _ M M1 hY y4 y5)
      refine ⟨src', t', M', ?_, ?_, y2.trans r1, y3.trans r2, r3⟩
      · rw [f_ReferenceWays_unnamed_10, if_neg (show ¬ (400 : Int32) ≤ nI k from nI_ge (b := 400) (by omega) (by decide)), c_next hC hS hq, Option.bind_some, if_neg hz, nI_1, e1]
      · rw [f_Mo_named_13, m_cp hC hB (by omega), Option.bind_some, isLetter_eq, Option.bind_some, x1]
        rw [lod] at hz
        by_cases h : f_Mt_isLetter (C q) = 0
        · rw [if_pos h] at hz
          rw [if_pos h, if_neg hz, e2]
        · rw [if_neg h, e2]
theorem zs_ne : ∀ k, k < 32 → ∀ x ∈ zs (nm_letters k), ¬ x = -1 := by decide +kernel
theorem mtb_n {n : Nat} {C : Nat → Int32} (hC : CHs n C) : ∀ (l : List Int32) (a : Nat), a ≤ n → (∀ x ∈ l, ¬ x = -1) → mtb C a l = true → a + l.length ≤ n := by
  intro l
  induction l with
  | nil => intro a ha _ _; exact ha
  | cons x l ih =>
    intro a ha hx hm
    obtain ⟨h1, h2⟩ := Bool.and_eq_true_iff.mp (show (decide (C a = x) && mtb C (a + 1) l) = true from hm)
    have hax := of_decide_eq_true h1
    have han : a < n := by
      by_cases h : a < n
      · exact h
      · rw [(ch_end hC).mpr (show n ≤ a by omega)] at hax
        exact absurd hax.symm (hx x List.mem_cons_self)
    have := ih (a + 1) (by omega) (fun y hy => hx y (List.mem_cons_of_mem _ hy)) h2
    rw [List.length_cons]; omega
theorem own_n {n : Nat} {C : Nat → Int32} (hC : CHs n C) {a k : Nat} (ha : a ≤ n) (hk : k < 32) (h : 0 < own C a k) : a + own C a k ≤ n := by
  unfold own at h ⊢
  by_cases hm : mtb C a (zs (nm_letters k)) = true
  · have h1 := mtb_n hC _ a ha (zs_ne k hk) hm
    rw [if_pos hm] at h ⊢
    by_cases h59 : C (a + (zs (nm_letters k)).length) = 59
    · rw [if_pos h59]
      have : a + (zs (nm_letters k)).length < n := by
        by_cases g : a + (zs (nm_letters k)).length < n
        · exact g
        · rw [(ch_end hC).mpr (show n ≤ a + (zs (nm_letters k)).length by omega)] at h59
          exact absurd h59 (by decide)
      omega
    · rw [if_neg h59] at h ⊢
      by_cases hfr : nm_free k = 0
      · rw [if_pos hfr] at h; omega
      · rw [if_neg hfr]; exact h1
  · rw [if_neg hm] at h; omega
theorem own_2 {C : Nat → Int32} {a k : Nat} (hk : k < 32) (h : 0 < own C a k) : 2 ≤ own C a k := by
  have : ∀ k, k < 32 → 2 ≤ (zs (nm_letters k)).length := by decide +kernel
  have h2 := this k hk
  unfold own at h ⊢
  by_cases hm : mtb C a (zs (nm_letters k)) = true
  · rw [if_pos hm] at h ⊢
    by_cases h59 : C (a + (zs (nm_letters k)).length) = 59
    · rw [if_pos h59]; omega
    · rw [if_neg h59] at h ⊢
      by_cases hfr : nm_free k = 0
      · rw [if_pos hfr] at h; omega
      · rw [if_neg hfr]; exact h2
  · rw [if_neg hm] at h; omega
/-- a name, from behind the & on: the class's way 4 -/
theorem named_sim {n : Nat} {C : Nat → Int32} (hC : CHs n C) {TL : List Tk} {iv : Int32} {X : STokens → Prop} {Y : Nat → SMo → Prop} (hx : CtxOK n C TL iv X Y) {p bk : Nat} (hbk : (iv = 0 ∧ bk = 0) ∨ (iv = 1 ∧ ¬ bk = 0 ∧ bk < 30)) {fl : Fl} {row : List Int32} {src : SSource} {t : STokens} {M : SMo} (h38 : C p = 38) (hp : p + 1 ≤ n) (hl : row.length ≤ p) (hfl : fl.length + 4 ≤ 1200) (hS : BS n C (p + 1) fl src) (hT : BT row TL t) (hX : X t) (hB : BM n C (p + 1) fl row TL M) (hY : Y row.length M) (hcn : RCon M) : ∃ (src' : SSource) (t' : STokens) (M' : SMo), (f_ReferenceWays_named bk src t = some (bk, src', t') ∨ (f_ReferenceWays_named bk src t = some (5, src, t) ∧ f_ReferenceWays_unnamed bk src t = some (bk, src', t'))) ∧ f_Mo_named (nI p) iv M = some M' ∧ RefRes n C TL p X Y fl row src' t' M M' := by
  have hn := hC.1
  obtain ⟨B, v, M1, e1, e2, b1, b2, b3, b4, b5, hB20, hL⟩ := longest_sim hC hp hS 32 0 0 FU FU none M (by omega) (by unfold FU; omega) (by unfold FU; omega) hB hcn ⟨by omega, Or.inl ⟨rfl, rfl⟩⟩
  have el : f_ReferenceWays_longestName src = some v := e1
  have em : f_Mo_longest (q_Mo_p M) M = some (nI B, M1) := by rw [hB.2.2.1]; exact e2
  have hY1 := hx.2.1 _ M M1 hY b4 b5
  have pl : f_Source_place src = nI (p + 1) := hS.2.2.1
  unfold f_ReferenceWays_named f_Mo_named
  rw [el, Option.bind_some, em, Option.bind_some]
  rcases hL with ⟨rfl, rfl⟩ | ⟨kk, w, rfl, hkk, ho, hpos, hw, hw53, hgv⟩
  · obtain ⟨src', t', M', g1, g2, r1, r2, r3⟩ := unnamed_sim hC hx (bk := bk) (nI 0) h38 hl hfl hT hX (n - (p + 1)) (p + 1) 0 FU FU src M1 (Nat.le_refl _) (by unfold FU; omega) (by unfold FU; omega) (by omega) hp (by omega) hS b1 hY1
    refine ⟨src', t', M', Or.inr ⟨rfl, ?_⟩, ?_, b2.trans r1, b3.trans r2, r3⟩
    · unfold f_ReferenceWays_unnamed; rw [pl]; exact g1
    · rw [if_pos (show nI 0 = 0 from rfl)]; exact g2
  · have hqn : p + 1 + B ≤ n := by rw [← ho]; exact own_n hC hp hkk (by omega)
    have hB2 : 2 ≤ B := by rw [← ho]; exact own_2 hkk (by omega)
    have hlen : f_Named_lengthIn kk (nI (p + 1)) src = some (nI B) := by rw [c_len hC hS (by omega) hkk, ho]
    have s1 : BS n C (p + 1 + B) fl (f_Source_skip (nI B) src) := c_skip hn hS hqn
    obtain ⟨M2, x1, y1, y2, y3, y4, y5⟩ := m_setp b1 (p + 1 + B) (v := q_Mo_p M1 + nI B) (by rw [b1.2.2.1, nI_add])
    have hY2 := hx.2.1 _ M1 M2 hY1 y4 y5
    obtain ⟨-, -, -, -, gc, gm⟩ := NM_ok kk hkk
    have ep1 : (nI (p + 1 + B) - 1 : Int32) = nI (p + 1 + B - 1) := nI_sub (a := 1) (by omega)
    have c4 : f_Source_character (f_Source_place (f_Source_skip (nI B) src) - 1) (f_Source_skip (nI B) src) = some (C (p + 1 + B - 1)) := by
      rw [f_Source_place, s1.2.2.1, ep1]; exact c_char hC s1 (by omega)
    have m2 : f_Mo_charAt (q_Mo_p M1 + nI B) (u_Mo_p M1 (q_Mo_p M1 + nI B)) = some (C (p + 1 + B)) := by rw [x1, b1.2.2.1, nI_add]; exact m_char hC y1 (by omega)
    have m3 : f_Mo_charAt (q_Mo_p M1 + nI B - 1) (u_Mo_p M1 (q_Mo_p M1 + nI B)) = some (C (p + 1 + B - 1)) := by rw [x1, b1.2.2.1, nI_add, ep1]; exact m_char hC y1 (by omega)
    have hx53 : ix (q_Mo_which M1) 53 := by rw [hw]; exact ixI hw53 (by decide)
    have gv1 : q_Mo_gives M1 (q_Mo_which M1).toNatClampNeg = nI (nm_given kk).toNatClampNeg := by
      rw [hw, nI_clamp (by omega), (RCon_EF hcn b2).2.1, hgv]; exact gc
    have fin : ∀ (fl' : Fl) (s2 : SSource) (M3 : SMo), fl'.length ≤ fl.length + 3 → BS n C (p + 1 + B) fl' s2 → BM n C (p + 1 + B) fl' row TL M3 → EF M2 M3 → EE M2 M3 → SM M2 M3 → SX M2 M3 → ∃ t' M', f_Tokens_add (nm_given kk) t = some t' ∧ f_Mo_give (nI (nm_given kk).toNatClampNeg) iv M3 = some M' ∧ RefRes n C TL p X Y fl row s2 t' M M' := by
      intro fl' s2 M3 hf3 q1 q2 q3 q4 q5 q6
      obtain ⟨t', M', g1, g2, g3⟩ := give_one hx (p := p) (q := p + 1 + B) (fl0 := fl) (M0 := M) gm (by omega) hqn hn hl hf3 q1 hT hX q2 (hx.2.1 _ M2 M3 hY2 q5 q6) (b2.trans (y2.trans q3)) (b3.trans (y3.trans q4))
      exact ⟨t', M', by rw [gc]; exact g1, g2, g3⟩
    have told : ∃ t' s2 M3 M', f_Source_wrong 25 (f_Source_skip (nI B) src) = some s2 ∧ f_Mo_wrong 25 (q_Mo_p M1 + nI B) (u_Mo_p M1 (q_Mo_p M1 + nI B)) = some M3 ∧ q_Mo_which M3 = q_Mo_which M1 ∧ q_Mo_gives M3 = q_Mo_gives M1 ∧ f_Tokens_add (nm_given kk) t = some t' ∧ f_Mo_give (nI (nm_given kk).toNatClampNeg) iv M3 = some M' ∧ RefRes n C TL p X Y fl row s2 t' M M' := by
      obtain ⟨s2, a1, a2⟩ := c_wrong s1 25 (by omega)
      obtain ⟨M3, a3, a4, a5, a6, a7, a8⟩ := m_wrong y1 25 (p + 1 + B) (by omega)
      obtain ⟨t', M', g1, g2, g3⟩ := fin _ s2 M3 (by rw [lenS]; omega) a2 a4 a5 a6 a7 a8
      have hwt := wrong_turned a3
      have hw2 : q_Mo_which M2 = q_Mo_which M1 := by rw [← x1]
      have hg2 : q_Mo_gives M2 = q_Mo_gives M1 := y2.2.2.2.2.2.1
      exact ⟨t', s2, M3, M', a1, by rw [x1, b1.2.2.1, nI_add]; exact a3, hwt.2.1.trans hw2, hwt.2.2.trans hg2, g1, g2, g3⟩
    have hB0 : ¬ nI B = 0 := nI_ne0 hpos (by omega)
    simp only [if_neg hB0, m2, m3, Option.bind_some, if_pos (show kk < nm_count from hkk), pl, hlen, c4]
    by_cases h59 : C (p + 1 + B - 1) = 59
    · obtain ⟨t', M', g1, g2, g3⟩ := fin fl (f_Source_skip (nI B) src) M2 (by omega) s1 y1 (EF.rf M2) rfl (SM.rf M2) ⟨rfl, rfl⟩
      refine ⟨_, t', M', Or.inl ?_, ?_, g3⟩
      · simp only [if_pos h59, g1, Option.bind_some]
      · simp only [if_pos h59, if_pos hx53, gv1, x1, g2, Option.bind_some]
    · obtain ⟨t', s2, M3, M', t1, t2, t3, t4, t5, t6, t7⟩ := told
      rcases hbk with ⟨rfl, rfl⟩ | ⟨rfl, hb1, hb2⟩
      · refine ⟨s2, t', M', Or.inl ?_, ?_, t7⟩
        · simp only [if_neg h59, if_pos (show (0 : Nat) < 30 by decide), if_true, t1, t5, Option.bind_some]
        · simp only [if_neg h59, if_true, t2, Option.bind_some, t3, if_pos hx53, t4, gv1, t6]
      · have cn := c_next hC s1 hqn
        by_cases hg : f_ReferenceWays_goesOn (C (p + 1 + B)) = 0
        · have hg2 : f_Mt_isLetter (C (p + 1 + B)) = 0 ∧ f_Mo_isDigit (C (p + 1 + B)) = 0 ∧ ¬ C (p + 1 + B) = 61 := by
            unfold f_ReferenceWays_goesOn at hg
            rw [lod] at hg
            by_cases h1 : f_Mt_isLetter (C (p + 1 + B)) = 0
            · rw [if_pos h1] at hg
              by_cases h2 : f_Mo_isDigit (C (p + 1 + B)) = 0
              · rw [if_pos h2] at hg
                refine ⟨h1, h2, fun h3 => ?_⟩
                rw [if_pos h3] at hg; exact absurd hg (by decide)
              · rw [if_neg h2] at hg; exact absurd hg (by decide)
            · rw [if_neg h1, if_neg (by decide)] at hg; exact absurd hg (by decide)
          refine ⟨s2, t', M', Or.inl ?_, ?_, t7⟩
          · simp only [if_neg h59, if_pos hb2, if_neg hb1, cn, Option.bind_some, if_pos hg, t1, t5]
          · simp only [if_neg h59, if_neg (show ¬ (1 : Int32) = 0 by decide), isLetter_eq, if_pos hg2.1, if_pos hg2.2.1, if_neg hg2.2.2, t2, Option.bind_some, t3, if_pos hx53, t4, gv1, t6]
        · obtain ⟨t3', M4, g1, g2, g3, g4, g5, g6, g7, g8⟩ := ref_asItIs hC hx h38 (show p < p + 1 + B by omega) hqn hl s1 hT hX y1 hY2
          obtain ⟨u1, u2, u3⟩ := slice_ok hC (a := p) (b := p + 1 + B) hqn
          refine ⟨f_Source_skip (nI B) src, t3', M4, Or.inl ?_, ?_, b2.trans (y2.trans g3), b3.trans (y3.trans g4), p + 1 + B, fl, slice C p (p + 1 + B), by omega, hqn, s1, g5, g6, g7, g8, ?_, by rw [slice_len]; omega, by omega, u1, u2, u3⟩
          · simp only [if_neg h59, if_pos hb2, if_neg hb1, cn, Option.bind_some, if_neg hg, g1]
          · have key : (f_Mo_giveAll (nI p) 1 (u_Mo_p M1 (q_Mo_p M1 + nI B))).bind (fun x => some x) = some M4 := by rw [x1, g2, Option.bind_some]
            simp only [if_neg h59, if_neg (show ¬ (1 : Int32) = 0 by decide), isLetter_eq, key]
            unfold f_ReferenceWays_goesOn at hg
            rw [lod] at hg
            by_cases h1 : f_Mt_isLetter (C (p + 1 + B)) = 0
            · rw [if_pos h1] at hg
              rw [if_pos h1]
              by_cases h2 : f_Mo_isDigit (C (p + 1 + B)) = 0
              · rw [if_pos h2] at hg
                rw [if_pos h2]
                by_cases h3 : C (p + 1 + B) = 61
                · rw [if_pos h3]
                · rw [if_neg h3] at hg; exact absurd rfl hg
              · rw [if_neg h2]
            · rw [if_neg h1]
          · rw [slice_cons (by omega)]; simp
