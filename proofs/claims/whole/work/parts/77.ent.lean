theorem then1 (w : Nat) (s : SSource) : (f_Source_then w s).1 = w := by
  unfold f_Source_then
  split <;> rfl
theorem c_then2 {n : Nat} {C : Nat → Int32} {p : Nat} {fl : Fl} {s : SSource} (hn : n ≤ 400) (h : BS n C p fl s) (w : Nat) (hp : p < n) : BS n C (p + 1) fl (f_Source_then w s).2 := by
  obtain ⟨s', e, b⟩ := c_then hn h w hp
  rw [e]; exact b
theorem ends_1 {c : Int32} (h : c = -1 ∨ c = 47 ∨ c = 62) : f_Mt_isBlank c = 0 ∧ f_TagWays_endsName c = 1 := by
  rcases h with rfl | rfl | rfl <;> exact ⟨by decide, by decide⟩
theorem ends_b {c : Int32} (h : ¬ f_Mt_isBlank c = 0) : f_TagWays_endsName c = 1 ∧ ¬ c = -1 ∧ ¬ c = 47 ∧ ¬ c = 62 ∧ ¬ c = 61 ∧ ¬ c = 34 ∧ ¬ c = 39 := by
  refine ⟨by unfold f_TagWays_endsName; rw [if_neg h], ?_, ?_, ?_, ?_, ?_, ?_⟩ <;> (intro g; subst g; exact h (by decide))
theorem ends_0 {c : Int32} (h : f_Mt_isBlank c = 0) (h2 : ¬ (c = -1 ∨ c = 47 ∨ c = 62)) : f_TagWays_endsName c = 0 := by
  unfold f_TagWays_endsName
  rw [if_pos h, if_neg (fun g => h2 (Or.inr (Or.inl g))), if_neg (fun g => h2 (Or.inr (Or.inr g))), if_neg (fun g => h2 (Or.inl g))]
theorem ends_c {c : Int32} (h : ¬ f_TagWays_endsName c = 0) : ¬ f_Mt_isBlank c = 0 ∨ c = -1 ∨ c = 47 ∨ c = 62 := by
  by_cases hb : f_Mt_isBlank c = 0
  · right
    by_cases h2 : c = -1 ∨ c = 47 ∨ c = 62
    · exact h2
    · exact absurd (ends_0 hb h2) h
  · exact Or.inl hb
theorem ENT8 {n : Nat} {C : Nat → Int32} (hC : CHs n C) {p : Nat} {fl : Fl} {s : CS} (hS : BS n C p fl s.2.2.1) (hp : p ≤ n) : ENT 8 (C p) s s.2.2.2.2 := by
  have nx := c_next hC hS hp
  refine ⟨fun hb => step1 (by decide) nx ?_, fun hl => ⟨2, Nat.le_refl _, fun w' src' t' h => ?_⟩, fun hb hl h61 t' h => step1 (by decide) nx ?_, fun h61 t' src' t'' h1 h2 h3 => step1 (by decide) nx ?_⟩
  · rw [fol_8]; unfold f_TagWays_before
    rw [if_neg hb, Option.bind_some, then1]
  · obtain ⟨g1, g2⟩ := ends_1 hl
    have r1 : Reach 1 8 s 10 (s.1, s.2.1, s.2.2.1, s.2.2.2.1, s.2.2.2.2) := step1 (by decide) nx (by
      rw [fol_8]; unfold f_TagWays_before
      rw [if_pos g1, if_neg (by rw [g2]; decide), Option.bind_some])
    have r2 : Reach 1 10 (s.1, s.2.1, s.2.2.1, s.2.2.2.1, s.2.2.2.2) w' (s.1, s.2.1, src', s.2.2.2.1, t') := step1 (by decide) nx (by
      rw [fol_10]; unfold f_TagWays_after
      rw [if_pos g1, if_neg (by rw [g2]; decide), h, Option.bind_some, Option.bind_some])
    exact r1.trans r2
  · rw [fol_8]; unfold f_TagWays_before
    rw [if_pos hb, if_pos (ends_0 hb hl), h, Option.bind_some, if_neg h61, Option.bind_some]
  · rw [fol_8]; unfold f_TagWays_before
    rw [if_pos (by rw [h61]; decide), if_pos (by rw [h61]; decide), h1, Option.bind_some, if_pos h61, h2, Option.bind_some, h61, h3, Option.bind_some, Option.bind_some, then1]
theorem ENT10 {n : Nat} {C : Nat → Int32} (hC : CHs n C) {p : Nat} {fl : Fl} {s : CS} (hS : BS n C p fl s.2.2.1) (hp : p ≤ n) (hb0 : f_Mt_isBlank (C p) = 0) (h610 : ¬ C p = 61) : ENT 10 (C p) s s.2.2.2.2 := by
  have nx := c_next hC hS hp
  refine ⟨fun hb => absurd hb0 hb, fun hl => ⟨1, by decide, fun w' src' t' h => step1 (by decide) nx ?_⟩, fun hb hl h61 t' h => step1 (by decide) nx ?_, fun h61 => absurd h61 h610⟩
  · obtain ⟨g1, g2⟩ := ends_1 hl
    rw [fol_10]; unfold f_TagWays_after
    rw [if_pos g1, if_neg (by rw [g2]; decide), h, Option.bind_some, Option.bind_some]
  · rw [fol_10]; unfold f_TagWays_after
    rw [if_pos hb, if_pos (ends_0 hb hl), if_neg h61, h, Option.bind_some, Option.bind_some]
theorem leave_b {c : Int32} (hb : ¬ f_Mt_isBlank c = 0) (src : SSource) (t : STokens) : f_TagWays_leave c src t = some (8, (f_Source_then 8 src).2, t) := by
  obtain ⟨_, g1, g2, g3, _⟩ := ends_b hb
  unfold f_TagWays_leave
  rw [if_neg g1, if_neg g2, if_neg g3, then1]
theorem ENT7 {n : Nat} {C : Nat → Int32} (hC : CHs n C) {p : Nat} {fl : Fl} {s : CS} (hS : BS n C p fl s.2.2.1) (hp : p ≤ n) (he : ¬ f_TagWays_endsName (C p) = 0) {t1 : STokens} (h1 : f_Tokens_endOwn s.2.2.2.2 = some t1) : ENT 7 (C p) s t1 := by
  have nx := c_next hC hS hp
  have key : ∀ w' src' t', f_TagWays_leave (C p) s.2.2.1 t1 = some (w', src', t') → Reach 1 7 s w' (s.1, s.2.1, src', s.2.2.2.1, t') := fun w' src' t' h => step1 (by decide) nx (by
    rw [fol_7]; unfold f_TagWays_name
    rw [if_neg he, h1, Option.bind_some, h, Option.bind_some, Option.bind_some])
  refine ⟨fun hb => key _ _ _ (leave_b hb _ _), fun hl => ⟨1, by decide, key⟩, fun hb hl => absurd (ends_0 hb hl) he, fun h61 => absurd (by rw [h61]; decide) he⟩
theorem ENT14 {n : Nat} {C : Nat → Int32} (hC : CHs n C) {p : Nat} {fl : Fl} {s : CS} (hS : BS n C p fl s.2.2.1) (hp : p ≤ n) (he : ¬ f_TagWays_endsName (C p) = 0) : ENT 14 (C p) s s.2.2.2.2 := by
  have nx := c_next hC hS hp
  have key : ∀ w' src' t', f_TagWays_leave (C p) s.2.2.1 s.2.2.2.2 = some (w', src', t') → Reach 1 14 s w' (s.1, s.2.1, src', s.2.2.2.1, t') := fun w' src' t' h => step1 (by decide) nx (by
    rw [fol_14]; unfold f_TagWays_behind
    rw [if_neg he, h, Option.bind_some, Option.bind_some])
  refine ⟨fun hb => key _ _ _ (leave_b hb _ _), fun hl => ⟨1, by decide, key⟩, fun hb hl => absurd (ends_0 hb hl) he, fun h61 => absurd (by rw [h61]; decide) he⟩
theorem leave62 (src : SSource) (t : STokens) : f_TagWays_leave 62 src t = f_TagWays_tagDone src t := by
  unfold f_TagWays_leave
  rw [if_neg (by decide), if_neg (by decide), if_pos rfl]
  cases f_TagWays_tagDone src t with
  | none => rfl
  | some x => rfl
theorem ENT13 {n : Nat} {C : Nat → Int32} (hC : CHs n C) {p : Nat} {fl : Fl} {s : CS} (hS : BS n C p fl s.2.2.1) (hp : p ≤ n) (he : ¬ f_Mt_isBlank (C p) = 0 ∨ C p = 62) : ENT 13 (C p) s s.2.2.2.2 := by
  have nx := c_next hC hS hp
  refine ⟨fun hb => step1 (by decide) nx ?_, fun hl => ⟨1, by decide, fun w' src' t' h => step1 (by decide) nx ?_⟩, fun hb hl => ?_, fun h61 => ?_⟩
  · rw [fol_13]; unfold f_TagWays_unquoted
    rw [if_neg hb, Option.bind_some, then1]
  · have h62 : C p = 62 := by
      rcases he with h | h
      · exact absurd (ends_1 hl).1 h
      · exact h
    rw [h62, leave62] at h
    rw [fol_13]; unfold f_TagWays_unquoted
    rw [h62, if_pos (by decide), if_neg (by decide), if_neg (by decide), if_neg (by decide), if_pos rfl, h, Option.bind_some, Option.bind_some]
  · rcases he with h | h
    · exact absurd hb h
    · exact absurd (Or.inr (Or.inr h)) hl
  · rcases he with h | h
    · exact absurd (by rw [h61]; decide) h
    · rw [h61] at h; exact absurd h (by decide)
theorem TI_mono {n p q : Nat} {fl : Fl} {row : List Int32} {TL : List Tk} {cs ce au ac : Nat} {AR : AR_} (h : TI n p fl row TL cs ce au ac AR) (hq : p ≤ q) (hn : q ≤ n) : TI n q fl row TL cs ce au ac AR := by
  obtain ⟨i1, i2, i3, i4, i5, i6, i7, i8, i9, i10, i11, i12, i13⟩ := h
  exact ⟨hn, by omega, by omega, by omega, i5, i6, by omega, by omega, i9, i10, i11, i12, by omega⟩
theorem HD_mv {n : Nat} {C : Nat → Int32} {p q : Nat} {fl fl' : Fl} {row : List Int32} {TL : List Tk} {au ac : Nat} {ck : Int32} {cs ce : Nat} {AR : AR_} {src src' : SSource} {t : STokens} {M M1 : SMo} (h : HD n C p fl row TL au ac ck cs ce AR src t M) (hS : BS n C q fl' src') (hB : BM n C q fl' row TL M1) (e1 : EF M M1) (e2 : EE M M1) (e3 : SM M M1) (e4 : SX M M1) (hI : TI n q fl' row TL cs ce au ac AR) : HD n C q fl' row TL au ac ck cs ce AR src' t M1 := by
  obtain ⟨h1, h2, h3, h4, h5, h6, h7, h8, h9⟩ := h
  exact ⟨hS, h2, h3, hB, AM_s h5 e3 e4, e3.2.2.2.2.2.2.1.trans h6, Eq.trans e2 h7, RCon_EF h8 e1, hI⟩
/-- blanks that a way passes over, staying the same way -/
theorem skip_w {n : Nat} {C : Nat → Int32} (hC : CHs n C) {w : Nat} (hw : w < 29) (hb : ∀ (c : Int32) (s : CS), ¬ f_Mt_isBlank c = 0 → f_Reader_follow w c s.1 s.2.1 s.2.2.1 s.2.2.2.1 s.2.2.2.2 = some (w, s.1, s.2.1, (f_Source_then w s.2.2.1).2, s.2.2.2.1, s.2.2.2.2)) {p q : Nat} {fl : Fl} {s : CS} (hS : BS n C p fl s.2.2.1) (hpq : p ≤ q) (hq : q ≤ n) (hk : ∀ k, p ≤ k → k < q → ¬ f_Mt_isBlank (C k) = 0) : ∃ src', Reach (q - p) w s w (s.1, s.2.1, src', s.2.2.2.1, s.2.2.2.2) ∧ BS n C q fl src' := by
  obtain ⟨s', r, k1, k2, k3, k4, k5⟩ := sk_reach (n := n) (C := C) (w := w) (K := fun p' s' => BS n C p' fl s'.2.2.1 ∧ s'.1 = s.1 ∧ s'.2.1 = s.2.1 ∧ s'.2.2.2.1 = s.2.2.2.1 ∧ s'.2.2.2.2 = s.2.2.2.2) (fun p' s' h hp' hb' => by
    obtain ⟨g1, g2, g3, g4, g5⟩ := h
    exact ⟨(s'.1, s'.2.1, (f_Source_then w s'.2.2.1).2, s'.2.2.2.1, s'.2.2.2.2), step1 hw (c_next hC g1 (by omega)) (hb _ _ hb'), c_then2 hC.1 g1 w hp', g2, g3, g4, g5⟩) (q - p) p s (by omega) (fun k h1 h2 => hk k h1 (by omega)) ⟨hS, rfl, rfl, rfl, rfl⟩
  rw [show p + (q - p) = q by omega] at k1
  refine ⟨s'.2.2.1, ?_, k1⟩
  have : s' = (s.1, s.2.1, s'.2.2.1, s.2.2.2.1, s.2.2.2.2) := by rw [← k2, ← k3, ← k4, ← k5]
  rw [← this]; exact r
theorem blank8 (c : Int32) (s : CS) (hb : ¬ f_Mt_isBlank c = 0) : f_Reader_follow 8 c s.1 s.2.1 s.2.2.1 s.2.2.2.1 s.2.2.2.2 = some (8, s.1, s.2.1, (f_Source_then 8 s.2.2.1).2, s.2.2.2.1, s.2.2.2.2) := by
  rw [fol_8]; unfold f_TagWays_before
  rw [if_neg hb, Option.bind_some, then1]
theorem blank10 (c : Int32) (s : CS) (hb : ¬ f_Mt_isBlank c = 0) : f_Reader_follow 10 c s.1 s.2.1 s.2.2.1 s.2.2.2.1 s.2.2.2.2 = some (10, s.1, s.2.1, (f_Source_then 10 s.2.2.1).2, s.2.2.2.1, s.2.2.2.2) := by
  rw [fol_10]; unfold f_TagWays_after
  rw [if_neg hb, Option.bind_some, then1]
theorem blank11 (c : Int32) (s : CS) (hb : ¬ f_Mt_isBlank c = 0) : f_Reader_follow 11 c s.1 s.2.1 s.2.2.1 s.2.2.2.1 s.2.2.2.2 = some (11, s.1, s.2.1, (f_Source_then 11 s.2.2.1).2, s.2.2.2.1, s.2.2.2.2) := by
  rw [fol_11]; unfold f_TagWays_value
  rw [if_neg hb, Option.bind_some, then1]
theorem skip_head {n : Nat} {C : Nat → Int32} (hC : CHs n C) {p : Nat} {fl : Fl} {row : List Int32} {TL : List Tk} {au ac : Nat} {ck : Int32} {cs ce : Nat} {AR : AR_} {w : Nat} {s : CS} {t : STokens} {M : SMo} (h : HD n C p fl row TL au ac ck cs ce AR s.2.2.1 t M) (hE : ENT w (C p) s t) : ∃ (q : Nat) (M1 : SMo) (k w1 : Nat) (s1 : CS), f_Mo_skipBlanks M = some M1 ∧ p ≤ q ∧ q ≤ n ∧ EF M M1 ∧ HD n C q fl row TL au ac ck cs ce AR s1.2.2.1 t M1 ∧ ENT w1 (C q) s1 t ∧ Reach k w s w1 s1 ∧ k ≤ q - p ∧ f_Mt_isBlank (C q) = 0 := by
  have hI := h.2.2.2.2.2.2.2.2
  have hn := hC.1
  obtain ⟨q, M1, e1, g1, g2, g3, g4, g5, g6, g7, g8, g9⟩ := m_skip hC (n - p) p fl row TL FU M (Nat.le_refl _) (by unfold FU; omega) hI.1 h.2.2.2.1
  by_cases hpq : q = p
  · subst hpq
    exact ⟨q, M1, 0, w, s, e1, g1, g2, g4, HD_mv h h.1 g3 g4 g5 g6 g7 hI, hE, ⟨rfl, rfl⟩, Nat.zero_le _, g8⟩
  · have hb := g9 p (Nat.le_refl _) (by omega)
    have r1 := hE.1 hb
    have b1 := c_then2 hn h.1 8 (show p < n by omega)
    obtain ⟨src', r2, b2⟩ := skip_w hC (w := 8) (by decide) blank8 (s := (s.1, s.2.1, (f_Source_then 8 s.2.2.1).2, s.2.2.2.1, t)) (p := p + 1) (q := q) (fl := fl) b1 (by omega) g2 (fun k h1 h2 => g9 k (by omega) h2)
    refine ⟨q, M1, 1 + (q - (p + 1)), 8, (s.1, s.2.1, src', s.2.2.2.1, t), e1, g1, g2, g4, HD_mv h b2 g3 g4 g5 g6 g7 (TI_mono hI g1 g2), ?_, r1.trans r2, by omega, g8⟩
    exact ENT8 hC (s := (s.1, s.2.1, src', s.2.2.2.1, t)) b2 g2
