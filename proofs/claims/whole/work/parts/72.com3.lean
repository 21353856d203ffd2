theorem m_p2 {n : Nat} {C : Nat → Int32} {p : Nat} {fl : Fl} {row : List Int32} {TL : List Tk} {M : SMo} (h : BM n C p fl row TL M) (e : Int32) (q : Nat) {v : Int32} (hv : v = nI q) : ∃ M', u_Mo_p_ended M v e = M' ∧ BM n C q fl row TL M' ∧ EF M M' ∧ q_Mo_ended M' = e ∧ SM M M' ∧ SX M M' := by
  subst hv
  obtain ⟨h1, h2, h3, h4, h5, h6, h7, h8⟩ := h
  exact ⟨_, rfl, ⟨h1, h2, rfl, h4, h5, h6, h7, h8⟩, EF.rf M, rfl, SM.rf M, rfl, rfl⟩
theorem m_102_n {n : Nat} {C : Nat → Int32} (hC : CHs n C) {p a : Nat} {fl : Fl} {row : List Int32} {TL : List Tk} {M : SMo} (ha : 4 ≤ a) (han : a ≤ n) (hB : BM n C p fl row TL M) (he : f_Mo_commentEnd (nI a) M = some (nI n)) {w d : Nat} (hW : CW n C a w d n) : f_Mo_comment_102 (nI a) 0 M = f_Mo_comment_348 FU (nI a) 0 (nI n) (nI (n - d)) (nI n) (nI a) M := by
  have hn := hC.1
  have c1 : f_Mo_charAt (nI n - 1) M = some (C (n - 1)) := by rw [show nI n - 1 = nI (n - 1) from nI_sub (a := 1) (by omega)]; exact m_char hC hB (by omega)
  have c2 : f_Mo_charAt (nI n - 2) M = some (C (n - 2)) := by rw [show nI n - 2 = nI (n - 2) from nI_sub (a := 2) (by omega)]; exact m_char hC hB (by omega)
  have c3 : f_Mo_charAt (nI n - 3) M = some (C (n - 3)) := by rw [show nI n - 3 = nI (n - 3) from nI_sub (a := 3) (by omega)]; exact m_char hC hB (by omega)
  have s1 : nI n - 1 = nI (n - 1) := nI_sub (a := 1) (by omega)
  have s2 : nI n - 2 = nI (n - 2) := nI_sub (a := 2) (by omega)
  have s3 : nI n - 3 = nI (n - 3) := nI_sub (a := 3) (by omega)
  have sa : nI n - nI a = nI (n - a) := nI_sub han
  have l2 : nI (n - a) ≤ 2 ↔ n - a ≤ 2 := nI_leI (b := 2) (by omega) (by decide)
  have l1 : nI (n - a) ≤ 1 ↔ n - a ≤ 1 := nI_leI (b := 1) (by omega) (by decide)
  have l0 : nI (n - a) ≤ 0 ↔ n - a ≤ 0 := nI_leI (b := 0) (by omega) (by decide)
  have n1 : ¬ (33 : Int32) = 45 := by decide
  have n2 : ¬ (45 : Int32) = 33 := by decide
  have n3 : ¬ (1 : Int32) = 0 := by decide
  unfold f_Mo_comment_102
  rw [he, Option.bind_some, hB.1, if_pos rfl, if_pos rfl, c1, c2, c3, sa]
  simp only [Option.bind_some, l2, l1, l0]
  rcases hW with ⟨-, rfl, w1, w2, w3⟩ | ⟨-, rfl, w1, w2⟩ | ⟨-, rfl, w1⟩ | ⟨-, rfl, w1⟩
  · have g1 : ¬ D1 C a n := fun g => absurd (w1 g).1 (Nat.lt_irrefl n)
    have g3 : ¬ D3 C a n := fun g => absurd (w2 g) (Nat.lt_irrefl n)
    have e263 : f_Mo_comment_263 (nI a) 0 (nI n) (nI n) (nI n) 0 M = f_Mo_comment_348 FU (nI a) 0 (nI n) (nI (n - 0)) (nI n) (nI a) M := by
      unfold f_Mo_comment_263
      rw [hB.1, sa, c1]
      simp only [Option.bind_some, l0, Nat.sub_zero, if_true]
      by_cases h : n - a ≤ 0
      · rw [if_pos h]
      · rw [if_neg h, if_neg (fun g => g1 ⟨by omega, g⟩)]
    have e216 : f_Mo_comment_216 (nI a) 0 (nI n) (nI n) (nI n) M = f_Mo_comment_348 FU (nI a) 0 (nI n) (nI (n - 0)) (nI n) (nI a) M := by
      unfold f_Mo_comment_216
      rw [hB.1, sa, c1, e263]
      simp only [Option.bind_some, l1]
      by_cases h : n - a ≤ 1
      · rw [if_pos h]
      · rw [if_neg h, if_neg (fun g => g1 ⟨by omega, g⟩)]
    rw [e216]
    by_cases h : n - a ≤ 2
    · rw [if_pos h]
    · rw [if_neg h]
      by_cases x1 : C (n - 1) = 33
      · rw [if_pos x1]
        by_cases x2 : C (n - 2) = 45
        · rw [if_pos x2, if_neg (fun g => g3 ⟨by omega, x1, x2, g⟩)]
        · rw [if_neg x2]
      · rw [if_neg x1]
  · have e263 : f_Mo_comment_263 (nI a) 0 (nI n) (nI n) (nI n) 0 M = f_Mo_comment_348 FU (nI a) 0 (nI n) (nI (n - 1)) (nI n) (nI a) M := by
      unfold f_Mo_comment_263
      rw [hB.1, sa, c1, s1]
      simp only [Option.bind_some, l0, if_true]
      rw [if_neg (show ¬ n - a ≤ 0 by have := w1.1; omega), if_pos w1.2]
    have e216 : f_Mo_comment_216 (nI a) 0 (nI n) (nI n) (nI n) M = f_Mo_comment_348 FU (nI a) 0 (nI n) (nI (n - 1)) (nI n) (nI a) M := by
      unfold f_Mo_comment_216
      rw [hB.1, sa, c1, c2, e263]
      simp only [Option.bind_some, l1]
      by_cases h : n - a ≤ 1
      · rw [if_pos h]
      · rw [if_neg h, if_pos w1.2, if_neg (fun g => w2 ⟨by omega, w1.2, g⟩)]
    rw [e216]
    by_cases h : n - a ≤ 2
    · rw [if_pos h]
    · rw [if_neg h, if_neg (by rw [w1.2]; decide)]
  · have e216 : f_Mo_comment_216 (nI a) 0 (nI n) (nI n) (nI n) M = f_Mo_comment_348 FU (nI a) 0 (nI n) (nI (n - 2)) (nI n) (nI a) M := by
      unfold f_Mo_comment_216
      rw [hB.1, sa, c1, c2, s2]
      simp only [Option.bind_some, l1, l0]
      have := w1.1
      rw [if_neg (show ¬ n - a ≤ 1 by omega), if_pos w1.2.1, if_pos w1.2.2, if_neg (show ¬ n - a ≤ 0 by omega), if_pos w1.2.1]
    rw [e216]
    by_cases h : n - a ≤ 2
    · rw [if_pos h]
    · rw [if_neg h, if_neg (by rw [w1.2.1]; decide)]
  · have hx := w1.1
    have e263 : f_Mo_comment_263 (nI a) 0 (nI n) (nI n) (nI n) 1 M = f_Mo_comment_348 FU (nI a) 0 (nI n) (nI (n - 3)) (nI n) (nI a) M := by
      unfold f_Mo_comment_263
      rw [hB.1, sa, c1, s3]
      simp only [Option.bind_some, l0, n3, if_false]
      rw [if_neg (show ¬ n - a ≤ 0 by omega), if_neg (by rw [w1.2.1]; decide)]
    rw [if_neg (show ¬ n - a ≤ 2 by omega), if_pos w1.2.1, if_pos w1.2.2.1, if_pos w1.2.2.2, if_neg (show ¬ n - a ≤ 1 by omega), if_neg (by rw [w1.2.1]; decide), e263]
theorem IB_com {n : Nat} {C : Nat → Int32} (hC : CHs n C) {p : Nat} {fl fl' : Fl} {row : List Int32} {TL : List Tk} {au ac : Nat} (h : I0r 4 n p fl row TL none au ac) {e P : Nat} (h1 : p ≤ e) (h2 : e ≤ P) (h3 : P ≤ n) (h4 : fl'.length + 2 * p ≤ fl.length + 2 * P + 1) : IB n P fl' (CR C p row e) TL row.length au ac := by
  obtain ⟨i1, i2, i3, i4, i5, i6, i7, i8, i9, i10⟩ := h
  have hl := CR_len C row h1
  obtain ⟨l, e1, hl1⟩ := CR_app hC p row (e - p) (by omega)
  rw [show p + (e - p) = e by omega] at e1
  have i3' : TL.length + 4 ≤ p := i3
  have i8' : ∀ tk ∈ TL, TkV row.length tk := i8
  have i10' : (wOut (rw row) TL).length + 8 * 4 ≤ 8 * p := i10
  refine ⟨h3, by omega, by omega, by omega, by omega, by omega, by omega, fun tk ht => TkV_mono (i8' tk ht) (by omega), ?_, ?_⟩
  · intro x hx
    rw [e1] at hx
    rcases List.mem_append.mp hx with g | g
    · exact i9 x g
    · exact hl1 x g
  · rw [e1, wOut_rw i8', ← e1]; omega
theorem com_rest {n : Nat} {C : Nat → Int32} (hC : CHs n C) {p0 p kb w q : Nat} {fl : Fl} {row : List Int32} {TL : List Tk} {au ac : Nat} {s : CS} {M : SMo} (hp0 : p0 + 4 ≤ p) (hp : p ≤ n) (hJ : J1 n C p fl row TL 3 row.length 0 ac M) (hI : I0r 4 n p fl row TL none au ac) (hq1 : p ≤ q) (hkb : kb ≤ 12) (hce : CE n C p fl row TL row.length au w q s) : ∃ M', f_Mo_comment_102 (nI p) 0 M = some M' ∧ OUT n C M p0 kb w s M' := by
  have hn := hC.1
  obtain ⟨hE, hB, hM⟩ := hJ
  obtain ⟨i1, i2, i3, i4, -⟩ := id hI
  have i3' : TL.length + 4 ≤ p := i3
  obtain ⟨e', c1, c2, c3, c4, c5⟩ := m_cend hC hB p (nI p) n p FU (by omega) (by unfold FU; omega) hp (fun j h1 h2 => by omega)
  have c1' : f_Mo_commentEnd (nI p) M = some (nI e') := c1
  have hB0 : ∀ kept, p ≤ kept → BM n C p (cFl C p fl p) (CR C p row (min p kept)) TL M := by
    intro kept h
    rw [show min p kept = p by omega, cFl_a, CR_a]; exact hB
  obtain ⟨k, s', hce⟩ := hce
  rcases hce with ⟨e, h1, h2, h3, h4, h5, h6⟩ | ⟨w', d', h1, h2, h3, h4, h5, h6⟩
  · have he : e' = e := by
      rcases Nat.lt_trichotomy e' e with g | g | g
      · exact absurd (c5 (by omega)) (h4 e' c2 g)
      · exact g
      · exact absurd h3 (c4 e h1 g)
    subst he
    have ne : ¬ nI e' = nI n := fun g => by have := (nI_eq (by omega) (by omega)).mp g; omega
    have x2 : f_Mo_charAt (nI e' + 2) M = some (C (e' + 2)) := by rw [show nI e' + 2 = nI (e' + 2) from nI_add e' 2]; exact m_char hC hB (by omega)
    have e102 : f_Mo_comment_102 (nI p) 0 M = if C (e' + 2) = 62 then f_Mo_comment_348 FU (nI p) 0 (nI e') (nI e') (nI (e' + 2)) (nI p) M else f_Mo_comment_348 FU (nI p) 0 (nI e') (nI e') (nI (e' + 3)) (nI p) M := by
      unfold f_Mo_comment_102
      rw [c1', Option.bind_some, hB.1, if_neg ne, if_neg ne, if_neg ne, x2, Option.bind_some, show nI e' + 2 = nI (e' + 2) from nI_add e' 2, show nI e' + 3 = nI (e' + 3) from nI_add e' 3]
    rw [e102]
    have hkl := Nat.zero_le (if w = 20 then 1 else 0)
    have hcl := CR_len C row h1
    rcases h6 with ⟨g1, g2, g3, g4, g5⟩ | ⟨g1, g2, g3, g4, g5⟩
    · rw [if_pos g1]
      obtain ⟨M1, f', e1, b1, b2, b3, b4, b5⟩ := m_com_loop hC (kept := e') (st := e' + 2) (by omega) (by omega) (by omega) (by omega) (by omega) h1 (nI e') n p FU M (by omega) (by unfold FU; omega) (Nat.le_refl _) (by omega) (hB0 e' h1)
      obtain ⟨M2, e2, d1, d2, d3, d4, d5⟩ := m_setp b1 (e' + 3) (v := nI (e' + 2) + 1) (nI_1 _)
      obtain ⟨M3, e3, k1, k2, k3, k4⟩ := m_tell d1 (MM1_s (MM1_s hM b4 b5) d4 d5) (by omega) (by omega)
      refine ⟨M3, ?_, b2.trans (d2.trans k2), k, s', _, _, _, none, au, ac, Or.inl ⟨e' + 3, h5, by omega, by omega, g5, ⟨Eq.trans k3 (Eq.trans d3 (Eq.trans b3 hE)), k1, k4⟩, IB_done (Or.inl rfl) (IB_com hC hI h1 (P := e' + 2) (by omega) (by omega) (by have := cFl_le C fl (show p ≤ e' + 2 by omega); omega)) 0 (e' + 3) (by omega) (by omega)⟩⟩
      rw [e1, f_Mo_comment_348, if_pos (nI_le (Nat.le_refl _) (by omega)), b1.1, if_neg ne, show nI e' + 3 = nI (e' + 3) from nI_add e' 3, if_neg (fun g => by have := (nI_eq (by omega) (by omega)).mp g; omega), e2, e3, Option.bind_some]
    · rw [if_neg g1]
      obtain ⟨M1, f', e1, b1, b2, b3, b4, b5⟩ := m_com_loop hC (kept := e') (st := e' + 3) (by omega) (by omega) (by omega) (by omega) (by omega) h1 (nI e') n p FU M (by omega) (by unfold FU; omega) (Nat.le_refl _) (by omega) (hB0 e' h1)
      have hcf := cFl_le C fl (show p ≤ e' + 3 by omega)
      obtain ⟨M4, e4, f1, f2, f3, f4, f5⟩ := m_wrong b1 20 (e' + 3) (by omega)
      obtain ⟨M2, e2, d1, d2, d3, d4, d5⟩ := m_setp f1 (e' + 4) (v := nI (e' + 3) + 1) (nI_1 _)
      obtain ⟨M3, e3, k1, k2, k3, k4⟩ := m_tell d1 (MM1_s (MM1_s (MM1_s hM b4 b5) f4 f5) d4 d5) (by omega) (by omega)
      refine ⟨M3, ?_, b2.trans (f2.trans (d2.trans k2)), k, s', _, _, _, none, au, ac, Or.inl ⟨e' + 4, h5, by omega, by omega, g5, ⟨Eq.trans k3 (Eq.trans d3 (Eq.trans f3 (Eq.trans b3 hE))), k1, k4⟩, IB_done (Or.inl rfl) (IB_com hC hI h1 (P := e' + 3) (by omega) (by omega) (by rw [lenS]; omega)) 0 (e' + 4) (by omega) (by omega)⟩⟩
      rw [e1, f_Mo_comment_348, if_pos (nI_le (Nat.le_refl _) (by omega)), b1.1, if_neg ne, show nI e' + 3 = nI (e' + 3) from nI_add e' 3, if_pos rfl, e4, Option.bind_some, e2, e3, Option.bind_some]
  · have he : e' = n := by
      by_cases g : e' < n
      · exact absurd (c5 g) (h3 e' c2 g)
      · omega
    subst he
    have hkl := Nat.zero_le (if w = 20 then 1 else 0)
    rw [m_102_n hC (by omega) hp hB c1' h1]
    obtain ⟨M1, f', e1, b1, b2, b3, b4, b5⟩ := m_com_loop hC (kept := e' - d') (st := e') (by omega) (by omega) (by omega) (by omega) (by omega) (by omega) (nI e') e' p FU M (by omega) (by unfold FU; omega) (Nat.le_refl _) hp (hB0 (e' - d') (by omega))
    have hcf := cFl_le C fl hp
    have hcl := CR_len C row (show p ≤ e' - d' by omega)
    obtain ⟨M4, e4, f1, f2, f3, f4, f5⟩ := m_wrong b1 18 e' (by omega)
    obtain ⟨M2, e2, d1, d2, d3, d4, d5⟩ := m_p2 f1 1 (e' + 1) (v := nI e' + 1) (nI_1 _)
    obtain ⟨M3, e3, k1, k2, k3, k4⟩ := m_tell d1 (MM1_s (MM1_s (MM1_s hM b4 b5) f4 f5) d4 d5) (by omega) (by omega)
    refine ⟨M3, ?_, b2.trans (f2.trans (d2.trans k2)), k, s', _, _, _, none, au, ac, Or.inr ⟨h4, by omega, h6, JE_of0 (Eq.trans k3 d3) k1 k4, IB_done (Or.inl rfl) (IB_com hC hI (e := e' - d') (P := e') (by omega) (by omega) (by omega) (by rw [lenS]; omega)) 3 e' (by omega) (by omega)⟩⟩
    rw [e1, f_Mo_comment_348, if_pos (nI_le (Nat.le_refl _) (by omega)), b1.1, if_pos rfl, e4, Option.bind_some, e2, e3, Option.bind_some]
theorem simCom {n : Nat} {C : Nat → Int32} (hC : CHs n C) : SimCom n C := by
  intro p0 p kb fl row TL au ac s M hp0 hp hK hJ hI hkb
  have hn := hC.1
  obtain ⟨hS, hT, hM⟩ := hK
  obtain ⟨hE, hB, hMM⟩ := id hJ
  obtain ⟨i1, i2, i3, i4, -⟩ := id hI
  have i3' : TL.length + 4 ≤ p := i3
  have nx := c_next hC hS hp
  have npi : ∀ q, q ≤ p + 1 → C p ≠ 60 ∨ q ≤ p → NPI C p q (-1) := by
    intro q h1 h2
    refine ⟨Or.inl rfl, fun j j1 j2 j3 j4 => ?_⟩
    rcases h2 with h2 | h2
    · have : j = p := by omega
      subst this
      exact absurd j3.1 h2
    · omega
  -- closed early at P
  have early : ∀ (P k1 : Nat) (s1 : CS) (w1 : Nat), p ≤ P → P < n → P ≤ p + 1 → Reach k1 18 s w1 s1 → k1 ≤ 2 → w1 < 29 → K1 n C P fl row TL 3 row.length 0 au s1 → (∀ s' t', f_CommentWays_closedEarly s1.2.2.1 s1.2.2.2.2 = some (0, s', t') → ∃ x, Reach 1 w1 s1 0 (x, s1.2.1, s', s1.2.2.2.1, t')) → ∃ M', ((f_Mo_wrong 17 (nI P) (u_Mo_p M (nI P))).bind fun x6 => (f_Mo_tell (u_Mo_p x6 ((q_Mo_p x6) + 1))).bind fun x7 => some x7) = some M' ∧ OUT n C M p0 kb 18 s M' := by
    intro P k1 s1 w1 h1 h2 h3 hr hk hw hK1 hreach
    obtain ⟨hS1, hT1, hM1⟩ := hK1
    obtain ⟨M1, e1, b1, b2, b3, b4, b5⟩ := m_setp hB P (v := nI P) rfl
    obtain ⟨M2, e2, d1, d2, d3, d4, d5⟩ := m_wrong b1 17 P (by omega)
    obtain ⟨M3, e3, g1, g2, g3, g4, g5⟩ := m_adv d1
    obtain ⟨M4, e4, k1', k2, k3, k4⟩ := m_tell g1 (MM1_s (MM1_s (MM1_s hMM b4 b5) d4 d5) g4 g5) (Nat.le_refl _) (by omega)
    obtain ⟨s2, a1, a2⟩ := c_wrong hS1 17 (by omega)
    obtain ⟨s3, t3, a3, a4, a5, a6⟩ := c_fin hn h2 a2 hT1 hM1 (by omega)
    obtain ⟨x, r⟩ := hreach s3 t3 (by unfold f_CommentWays_closedEarly; rw [a1, Option.bind_some, a3, Option.bind_some])
    have hib : IB n p (fl ++ [(17, P)]) row TL row.length au ac := IB_of hI (by rw [lenS]; omega)
    refine ⟨M4, by rw [e1, e2, Option.bind_some, e3, e4, Option.bind_some], b2.trans (d2.trans (g2.trans k2)), k1 + 1, (x, s1.2.1, s3, s1.2.2.2.1, t3), _, row, _, none, au, ac, Or.inl ⟨P + 1, hr.trans r, by omega, by omega, ⟨a4, a5, a6⟩, ⟨Eq.trans k3 (Eq.trans g3 (Eq.trans d3 (Eq.trans b3 hE))), k1', k4⟩, IB_done (Or.inl rfl) hib 0 (P + 1) (by omega) (by omega)⟩⟩
  have hpn : ¬ C p = -1 → p < n := by
    intro h
    by_cases g : p < n
    · exact g
    · exact absurd ((ch_end hC).mpr (by omega)) h
  have nN : ∀ q, q ≤ p + 1 → ∀ f : Fl, n19 C p q f = f := fun q hq f => if_neg (fun g => by have := g.1; omega)
  have e7 : f_Mo_charAt (q_Mo_p M + 1) M = some (C (p + 1)) := by rw [hB.2.2.1, nI_1]; exact m_char hC hB (by omega)
  unfold f_Mo_comment
  rw [m_cp hC hB (by omega), Option.bind_some, e7, Option.bind_some, Option.bind_some, hB.2.2.1, nI_1]
  by_cases h62 : C p = 62
  · rw [if_pos h62]
    refine early p 0 s 18 (Nat.le_refl _) (hpn (by rw [h62]; decide)) (by omega) ⟨rfl, rfl⟩ (by omega) (by decide) ⟨hS, hT, hM⟩ (fun s' t' e => ⟨-1, step1 (by decide) nx ?_⟩)
    rw [fol_18]; unfold f_CommentWays_start
    rw [if_neg (by rw [h62]; decide), if_pos h62, e, Option.bind_some, Option.bind_some]
  rw [if_neg h62]
  by_cases h45 : C p = 45
  · rw [if_pos h45]
    have hpn' := hpn (by rw [h45]; decide)
    obtain ⟨s2, e2, b4⟩ := c_then hn hS 19 hpn'
    have r1 : Reach 1 18 s 19 (-1, s.2.1, s2, s.2.2.2.1, s.2.2.2.2) := step1 (by decide) nx (by
      rw [fol_18]; unfold f_CommentWays_start
      rw [if_pos h45, e2, Option.bind_some])
    have nx2 := c_next hC b4 (show p + 1 ≤ n by omega)
    by_cases h2 : C (p + 1) = 62
    · rw [if_pos h2]
      have hp1 : p + 1 < n := by
        by_cases g : p + 1 < n
        · exact g
        · rw [(ch_end hC).mpr (show n ≤ p + 1 by omega)] at h2
          exact absurd h2 (by decide)
      refine early (p + 1) 1 (-1, s.2.1, s2, s.2.2.2.1, s.2.2.2.2) 19 (by omega) hp1 (by omega) r1 (by omega) (by decide) ⟨b4, hT, hM⟩ (fun s' t' e => ⟨-1, step1 (by decide) nx2 ?_⟩)
      rw [fol_19]; unfold f_CommentWays_startDash
      rw [if_pos h2, e, Option.bind_some, Option.bind_some]
    · rw [if_neg h2]
      have r2 : Reach 1 19 (-1, s.2.1, s2, s.2.2.2.1, s.2.2.2.2) 21 (-1, s.2.1, s2, s.2.2.2.1, s.2.2.2.2) := step1 (by decide) nx2 (by
        rw [fol_19]; unfold f_CommentWays_startDash
        rw [if_neg h2, Option.bind_some])
      have hf1 : cFl C p fl (p + 1) = fl := by
        rw [cFl_s C fl (Nat.le_refl _), nN p (by omega), cFl_a]; unfold flK; rw [if_neg (by rw [h45]; decide)]
      have ce := com_class hC (a := p) (fl := fl) (row := row) (TL := TL) (cs := row.length) (au := au) (by omega) (by omega) (by omega) (by omega) i2 (2 * n + 10) 21 1 (p + 1) (-1, s.2.1, s2, s.2.2.2.1, s.2.2.2.2) (by rw [if_neg (by decide)]; omega) (Nat.le_refl _) hpn' (Or.inr (Or.inl ⟨rfl, rfl, ⟨Nat.le_refl _, h45⟩, fun g => by have := g.1; omega⟩)) (npi (p + 1) (Nat.le_refl _) (Or.inl (by rw [h45]; decide))) (fun j j1 j2 => by omega) ⟨by rw [if_neg (by decide), hf1]; exact b4, by rw [show p + 1 - 1 = p from rfl, CR_a]; exact hT, hM⟩
      obtain ⟨M', e3, o1⟩ := com_rest hC (kb := kb + (1 + 1)) hp0 hp hJ hI (show p ≤ p + 1 by omega) (by omega) ce
      exact ⟨M', e3, OUT_pre (r1.trans r2) o1⟩
  · rw [if_neg h45]
    have r1 : Reach 1 18 s 20 (-1, s.2.1, s.2.2.1, s.2.2.2.1, s.2.2.2.2) := step1 (by decide) nx (by
      rw [fol_18]; unfold f_CommentWays_start
      rw [if_neg h45, if_neg h62, Option.bind_some])
    have ce := com_class hC (a := p) (fl := fl) (row := row) (TL := TL) (cs := row.length) (au := au) (by omega) (by omega) (by omega) (by omega) i2 (2 * n + 10) 20 0 p (-1, s.2.1, s.2.2.1, s.2.2.2.1, s.2.2.2.2) (by rw [if_pos rfl]; omega) (Nat.le_refl _) hp (Or.inl ⟨rfl, rfl, fun g => by have := g.1; omega, fun g => by have := g.1; omega, fun g => by have := g.1; omega⟩) (npi p (by omega) (Or.inr (Nat.le_refl _))) (fun j j1 j2 => by omega) ⟨by rw [if_pos rfl, nN p (by omega), cFl_a]; exact hS, by rw [Nat.sub_zero, CR_a]; exact hT, hM⟩
    obtain ⟨M', e3, o1⟩ := com_rest hC (kb := kb + 1) hp0 hp hJ hI (Nat.le_refl p) (by omega) ce
    exact ⟨M', e3, OUT_pre r1 o1⟩
