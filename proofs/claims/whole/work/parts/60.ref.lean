/-- where a reference stands: in a text or in a value; X, Y: what holds of the class's and the reference's tables there -/
def CtxOK (n : Nat) (C : Nat → Int32) (TL : List Tk) (iv : Int32) (X : STokens → Prop) (Y : Nat → SMo → Prop) : Prop :=
  (∀ t t', X t → SC t t' → X t') ∧ (∀ u M M', Y u M → SM M M' → SX M M' → Y u M') ∧ ∀ (p : Nat) (fl : Fl) (row : List Int32) (M : SMo) (c : Int32), BM n C p fl row TL M → Y row.length M → row.length < 400 → ∃ M', f_Mo_give c iv M = some M' ∧ BM n C p fl (row ++ [c]) TL M' ∧ EF M M' ∧ EE M M' ∧ Y (row ++ [c]).length M'
theorem ctx_text {n : Nat} {C : Nat → Int32} {TL : List Tk} (au ac a : Nat) : CtxOK n C TL 0 (fun t => MC0 au TL (some a) t) (fun u M => MM0 ac u TL (some a) M) := by
  refine ⟨fun t t' h e => MC0_sc h e, fun u M M' h e x => MM0_s h e x, fun p fl row M c hB hY hu => ?_⟩
  obtain ⟨M', e1, b1, b2, b3, b4⟩ := m_toText hB hY c hu
  exact ⟨M', by unfold f_Mo_give; rw [if_pos rfl, e1, Option.bind_some], b1, b2, b3, b4⟩
theorem slice_one {ρ : Nat → Int32} {a : Nat} : slice ρ a (a + 1) = [ρ a] := by rw [slice_cons (by omega), slice_nil (by omega)]
theorem giveAll_sim {n : Nat} {C : Nat → Int32} (hC : CHs n C) {TL : List Tk} {iv : Int32} {X : STokens → Prop} {Y : Nat → SMo → Prop} (hx : CtxOK n C TL iv X Y) {p : Nat} {fl : Fl} (v : Int32) (hp : p ≤ n) : ∀ (d k f : Nat) (row : List Int32) (M : SMo), k + d = p → d < f → row.length + d ≤ 400 → BM n C p fl row TL M → Y row.length M → ∃ M', f_Mo_giveAll_2 f v iv (nI k) M = some M' ∧ BM n C p fl (row ++ slice C k p) TL M' ∧ EF M M' ∧ EE M M' ∧ Y (row ++ slice C k p).length M' := by
  have hn := hC.1
  intro d
  induction d with
  | zero =>
    intro k f row M hk hf hl hB hY
    obtain ⟨f, rfl⟩ : ∃ q, f = q + 1 := ⟨f - 1, by omega⟩
    refine ⟨M, ?_, by rw [slice_nil (by omega), List.append_nil]; exact hB, EF.rf M, rfl, by rw [slice_nil (by omega), List.append_nil]; exact hY⟩
    rw [f_Mo_giveAll_2, hB.2.2.1, if_pos (nI_le (by omega) (by omega))]
  | succ d ih =>
    intro k f row M hk hf hl hB hY
    obtain ⟨f, rfl⟩ : ∃ q, f = q + 1 := ⟨f - 1, by omega⟩
    obtain ⟨M1, e1, b1, b2, b3, b4⟩ := hx.2.2 p fl row M (C k) hB hY (by omega)
    obtain ⟨M2, e2, d1, d2, d3, d4⟩ := ih (k + 1) f (row ++ [C k]) M1 (by omega) (by omega) (by rw [lenS]; omega) b1 b4
    have es : row ++ slice C k p = row ++ [C k] ++ slice C (k + 1) p := by rw [slice_cons (show k < p by omega), List.append_assoc]; rfl
    rw [es]
    refine ⟨M2, ?_, d1, b2.trans d2, b3.trans d3, d4⟩
    rw [f_Mo_giveAll_2, hB.2.2.1, if_neg (nI_ge (by omega) (by omega)), m_char hC hB (by omega), Option.bind_some, e1, Option.bind_some, nI_1, e2]
theorem SC.rf (t : STokens) : SC t t := ⟨rfl, rfl, rfl, rfl, rfl, rfl, rfl, rfl, rfl, rfl, rfl, rfl⟩
theorem SC.trans {t t1 t2 : STokens} (h : SC t t1) (g : SC t1 t2) : SC t t2 := by
  obtain ⟨h1, h2, h3, h4, h5, h6, h7, h8, h9, h10, h11, h12⟩ := h
  obtain ⟨g1, g2, g3, g4, g5, g6, g7, g8, g9, g10, g11, g12⟩ := g
  exact ⟨g1.trans h1, g2.trans h2, g3.trans h3, g4.trans h4, g5.trans h5, g6.trans h6, g7.trans h7, g8.trans h8, g9.trans h9, g10.trans h10, g11.trans h11, g12.trans h12⟩
theorem addAll_sim {n : Nat} {C : Nat → Int32} (hC : CHs n C) {TL : List Tk} {p : Nat} {fl : Fl} {src : SSource} (hS : BS n C p fl src) (v : Int32) (hp : p ≤ n) : ∀ (d k f : Nat) (row : List Int32) (t : STokens), k + d = p → d < f → row.length + d ≤ 400 → BT row TL t → ∃ t', f_ReferenceWays_addAsItIs_19 f v (nI p) (nI k) src t = some t' ∧ BT (row ++ slice C k p) TL t' ∧ SC t t' := by
  have hn := hC.1
  intro d
  induction d with
  | zero =>
    intro k f row t hk hf hl hB
    obtain ⟨f, rfl⟩ : ∃ q, f = q + 1 := ⟨f - 1, by omega⟩
    refine ⟨t, ?_, by rw [slice_nil (by omega), List.append_nil]; exact hB, SC.rf t⟩
    rw [f_ReferenceWays_addAsItIs_19, if_pos (nI_le (by omega) (by omega))]
  | succ d ih =>
    intro k f row t hk hf hl hB
    obtain ⟨f, rfl⟩ : ∃ q, f = q + 1 := ⟨f - 1, by omega⟩
    obtain ⟨t1, e1, b1, b2⟩ := c_add hB (C k) (by omega)
    obtain ⟨t2, e2, d1, d2⟩ := ih (k + 1) f (row ++ [C k]) t1 (by omega) (by omega) (by rw [lenS]; omega) b1
    have es : row ++ slice C k p = row ++ [C k] ++ slice C (k + 1) p := by rw [slice_cons (show k < p by omega), List.append_assoc]; rfl
    rw [es]
    refine ⟨t2, ?_, d1, b2.trans d2⟩
    rw [f_ReferenceWays_addAsItIs_19, if_neg (nI_ge (by omega) (by omega)), c_char hC hS (by omega), Option.bind_some, e1, Option.bind_some, nI_1, e2]
/-- the characters from the & at p up to q, as they are -/
theorem asItIs {n : Nat} {C : Nat → Int32} (hC : CHs n C) {TL : List Tk} {p q : Nat} {fl : Fl} {src : SSource} (hS : BS n C q fl src) (h38 : C p = 38) (hpq : p < q) (hq : q ≤ n) {row : List Int32} {t : STokens} (hB : BT row TL t) (hl : row.length + (q - p) ≤ 400) : ∃ t', f_ReferenceWays_addAsItIs (nI (p + 1)) src t = some t' ∧ BT (row ++ slice C p q) TL t' ∧ SC t t' := by
  have hn := hC.1
  obtain ⟨t1, e1, b1, b2⟩ := c_add hB 38 (by omega)
  obtain ⟨t2, e2, d1, d2⟩ := addAll_sim hC hS (nI (p + 1)) hq (q - (p + 1)) (p + 1) FU (row ++ [38]) t1 (by omega) (by unfold FU; omega) (by rw [lenS]; omega) b1
  refine ⟨t2, ?_, ?_, b2.trans d2⟩
  · unfold f_ReferenceWays_addAsItIs
    rw [e1, Option.bind_some, f_Source_place, hS.2.2.1, e2]
  · rw [slice_cons hpq, h38]
    rw [List.append_assoc] at d1
    exact d1
/-- what a reference comes to -/
def RefOut (n : Nat) (C : Nat → Int32) (TL : List Tk) (p bk : Nat) (X : STokens → Prop) (Y : Nat → SMo → Prop) (w : Nat) (s : CS) (fl : Fl) (row : List Int32) (M M' : SMo) : Prop := EF M M' ∧ EE M M' ∧ ∃ (k q : Nat) (fl' : Fl) (l : List Int32) (s' : CS), Reach k w s bk s' ∧ k ≤ 3 ∧ p + 1 ≤ q ∧ q ≤ n ∧ BS n C q fl' s'.2.2.1 ∧ BT (row ++ l) TL s'.2.2.2.2 ∧ X s'.2.2.2.2 ∧ s'.1 = s.1 ∧ s'.2.1 = bk ∧ s'.2.2.2.1 = s.2.2.2.1 ∧ BM n C q fl' (row ++ l) TL M' ∧ Y (row ++ l).length M' ∧ l ≠ [] ∧ l.length ≤ q - p ∧ fl'.length ≤ fl.length + (q - p) ∧ (∀ x ∈ l, ∃ c : Nat, c ≤ 1114111 ∧ x = nI c) ∧ (l.flatMap encT).length ≤ 8 * (q - p) ∧ (l.flatMap encV).length ≤ 8 * (q - p)
theorem slice_ok {n : Nat} {C : Nat → Int32} (hC : CHs n C) {a b : Nat} (hb : b ≤ n) : (∀ x ∈ slice C a b, ∃ c : Nat, c ≤ 1114111 ∧ x = nI c) ∧ ((slice C a b).flatMap encT).length ≤ 8 * (b - a) ∧ ((slice C a b).flatMap encV).length ≤ 8 * (b - a) := by
  have key : ∀ (d a : Nat), a + d = b → (∀ x ∈ slice C a b, ∃ c : Nat, c ≤ 1114111 ∧ x = nI c) ∧ ((slice C a b).flatMap encT).length ≤ 8 * d ∧ ((slice C a b).flatMap encV).length ≤ 8 * d := by
    intro d
    induction d with
    | zero =>
      intro a ha
      rw [slice_nil (by omega)]
      exact ⟨fun x h => by simp at h, Nat.le_refl _, Nat.le_refl _⟩
    | succ d ih =>
      intro a ha
      obtain ⟨h1, h2, h3⟩ := ih (a + 1) (by omega)
      obtain ⟨c, hc, e⟩ := hC.2.1 a (by omega)
      rw [slice_cons (by omega), List.flatMap_cons, List.flatMap_cons, List.length_append, List.length_append, e]
      have t1 := (encT_len c (by omega)).2 (by omega)
      have t2 := (encV_len c (by omega)).2 (by omega)
      refine ⟨fun x hx => ?_, by omega, by omega⟩
      rcases List.mem_cons.mp hx with rfl | hx
      · exact ⟨c, by omega, rfl⟩
      · exact h1 x hx
  by_cases h : a ≤ b
  · exact key (b - a) a (by omega)
  · rw [slice_nil (by omega)]
    exact ⟨fun x h => by simp at h, Nat.zero_le _, Nat.zero_le _⟩
/-- 'as it is' in both: from the & at p up to q, with the faults fl' told before -/
theorem ref_asItIs {n : Nat} {C : Nat → Int32} (hC : CHs n C) {TL : List Tk} {iv : Int32} {X : STokens → Prop} {Y : Nat → SMo → Prop} (hx : CtxOK n C TL iv X Y) {p q : Nat} {fl : Fl} {row : List Int32} {src : SSource} {t : STokens} {M : SMo} (h38 : C p = 38) (hpq : p < q) (hq : q ≤ n) (hl : row.length ≤ p) (hS : BS n C q fl src) (hT : BT row TL t) (hX : X t) (hB : BM n C q fl row TL M) (hY : Y row.length M) : ∃ t' M', f_ReferenceWays_addAsItIs (nI (p + 1)) src t = some t' ∧ f_Mo_giveAll (nI p) iv M = some M' ∧ EF M M' ∧ EE M M' ∧ BT (row ++ slice C p q) TL t' ∧ X t' ∧ BM n C q fl (row ++ slice C p q) TL M' ∧ Y (row ++ slice C p q).length M' := by
  have hn := hC.1
  obtain ⟨t', e1, b1, b2⟩ := asItIs hC hS h38 hpq hq hT (by omega)
  obtain ⟨M', e2, d1, d2, d3, d4⟩ := giveAll_sim hC hx (nI p) hq (q - p) p FU row M (by omega) (by unfold FU; omega) (by omega) hB hY
  exact ⟨t', M', e1, e2, d2, d3, b1, hx.1 t t' hX b2, d1, d4⟩
