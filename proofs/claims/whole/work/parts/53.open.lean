theorem by255 : ∀ i : Fin 256, (Int32.ofInt ((i.val : Int) - 128) &&& 255) = nI (Int32.ofInt ((i.val : Int) - 128) &&& 255).toNatClampNeg ∧ (Int32.ofInt ((i.val : Int) - 128) &&& 255).toNatClampNeg ≤ 255 ∧ ((Int32.ofInt ((i.val : Int) - 128) &&& 255) = 13 ↔ Int32.ofInt ((i.val : Int) - 128) = 13) := by decide +kernel
theorem by_ok {b : Int32} (h : fits .byte (.int b) = true) : ∃ v : Nat, v ≤ 255 ∧ b &&& 255 = nI v ∧ (b &&& 255 = 13 ↔ b = 13) := by
  obtain ⟨h1, h2⟩ := fit_b h
  have e : Int32.ofInt (((b.toInt + 128).toNat : Int) - 128) = b := by
    rw [show (((b.toInt + 128).toNat : Int) - 128) = b.toInt by omega]
    exact Int32.ofInt_toInt b
  obtain ⟨g1, g2, g3⟩ := by255 ⟨(b.toInt + 128).toNat, by omega⟩
  simp only [e] at g1 g2 g3
  exact ⟨_, g2, g1, g3⟩
/-- both lay the text down -/
theorem open_sim {n0 : Nat} (hn0 : n0 ≤ 400) {t : SMt} (ht : ∀ k, k < n0 → fits .byte (.int (q_Mt_text t k)) = true) : ∀ (d k c f1 f2 : Nat) (s : SSource) (M : SMo), k + d = n0 → c ≤ k → d < f1 → d < f2 → q_Source_count s = nI c → q_Mo_n M = nI c → q_Mo_size M = nI n0 → (∀ j, j < n0 → q_Mt_text t j = q_Mo_bytes M j) → (∀ j, j < c → q_Source_characters s j = q_Mo_text M j ∧ ∃ v : Nat, v ≤ 255 ∧ q_Mo_text M j = nI v) →
    ∃ (s' : SSource) (M' : SMo) (n : Nat), f_Source_open_17 f1 (nI n0) (nI k) t s = some s' ∧ f_Mo_layDown_7 f2 (nI k) M = some M' ∧ n ≤ n0 ∧ q_Source_count s' = nI n ∧ q_Mo_n M' = nI n ∧ (∀ j, j < n → q_Source_characters s' j = q_Mo_text M' j ∧ ∃ v : Nat, v ≤ 255 ∧ q_Mo_text M' j = nI v) ∧ q_Source_place s' = q_Source_place s ∧ q_Source_faultCount s' = q_Source_faultCount s ∧ EF M M' := by
  intro d
  induction d with
  | zero =>
    intro k c f1 f2 s M hk hc h1 h2 e1 e2 e3 e4 e5
    obtain ⟨f1, rfl⟩ : ∃ q, f1 = q + 1 := ⟨f1 - 1, by omega⟩
    obtain ⟨f2, rfl⟩ : ∃ q, f2 = q + 1 := ⟨f2 - 1, by omega⟩
    have : k = n0 := by omega
    subst this
    refine ⟨s, M, c, ?_, ?_, hc, e1, e2, e5, rfl, rfl, EF.rf M⟩
    · rw [f_Source_open_17, if_pos (nI_le (Nat.le_refl _) (by omega))]
    · rw [f_Mo_layDown_7, e3, if_pos (nI_le (Nat.le_refl _) (by omega))]
  | succ d ih =>
    intro k c f1 f2 s M hk hc h1 h2 e1 e2 e3 e4 e5
    obtain ⟨f1, rfl⟩ : ∃ q, f1 = q + 1 := ⟨f1 - 1, by omega⟩
    obtain ⟨f2, rfl⟩ : ∃ q, f2 = q + 1 := ⟨f2 - 1, by omega⟩
    have x1 : ix (nI k) 400 := ixI (by omega) (by omega)
    have x2 : ix (nI c) 400 := ixI (by omega) (by omega)
    have k1 : (nI k).toNatClampNeg = k := nI_clamp (by omega)
    have k2 : (nI c).toNatClampNeg = c := nI_clamp (by omega)
    have k3 : (nI (k + 1)).toNatClampNeg = k + 1 := nI_clamp (by omega)
    have hge : ¬ nI n0 ≤ nI k := nI_ge (by omega) (by omega)
    obtain ⟨v, hv, ev, e13⟩ := by_ok (ht k (by omega))
    have eb : q_Mo_bytes M k = q_Mt_text t k := (e4 k (by omega)).symm
    -- a character x is laid down
    have lay : ∀ x : Int32, (∃ v : Nat, v ≤ 255 ∧ x = nI v) → f_Source_open_17 (f1 + 1) (nI n0) (nI k) t s = f_Source_open_17 f1 (nI n0) (nI (k + 1)) t (u_Source_count (u_Source_characters s (upd (q_Source_characters s) c x)) (nI (c + 1))) → f_Mo_layDown_7 (f2 + 1) (nI k) M = f_Mo_layDown_7 f2 (nI (k + 1)) (u_Mo_n_text M (nI (c + 1)) (upd (q_Mo_text M) c x)) → ∃ (s' : SSource) (M' : SMo) (n : Nat), f_Source_open_17 (f1 + 1) (nI n0) (nI k) t s = some s' ∧ f_Mo_layDown_7 (f2 + 1) (nI k) M = some M' ∧ n ≤ n0 ∧ q_Source_count s' = nI n ∧ q_Mo_n M' = nI n ∧ (∀ j, j < n → q_Source_characters s' j = q_Mo_text M' j ∧ ∃ v : Nat, v ≤ 255 ∧ q_Mo_text M' j = nI v) ∧ q_Source_place s' = q_Source_place s ∧ q_Source_faultCount s' = q_Source_faultCount s ∧ EF M M' := by
      intro x hx g1 g2
      obtain ⟨s', M', n, a1, a2, a3, a4, a5, a6, a7, a8, a9⟩ := ih (k + 1) (c + 1) f1 f2 (u_Source_count (u_Source_characters s (upd (q_Source_characters s) c x)) (nI (c + 1))) (u_Mo_n_text M (nI (c + 1)) (upd (q_Mo_text M) c x)) (by omega) (by omega) (by omega) (by omega) rfl rfl e3 e4 (fun j hj => by
        show upd (q_Source_characters s) c x j = upd (q_Mo_text M) c x j ∧ ∃ v : Nat, v ≤ 255 ∧ upd (q_Mo_text M) c x j = nI v
        by_cases hjc : j = c
        · subst hjc; rw [upd_same, upd_same]; exact ⟨rfl, hx⟩
        · rw [upd_ne _ _ hjc, upd_ne _ _ hjc]; exact e5 j (by omega))
      exact ⟨s', M', n, g1.trans a1, g2.trans a2, a3, a4, a5, a6, a7, a8, a9⟩
    by_cases h13 : q_Mt_text t k = 13
    · have m13 : q_Mo_bytes M k &&& 255 = 13 := by rw [eb]; exact e13.mpr h13
      by_cases hlast : n0 ≤ k + 1
      · refine lay 10 ⟨10, by decide, rfl⟩ ?_ ?_
        · rw [f_Source_open_17, if_neg hge, if_pos x1]
          simp only [k1, if_pos h13, nI_1, if_pos (show nI n0 ≤ nI (k + 1) from nI_le hlast (by omega)), if_pos x1, e1, if_pos x2, k2]
        · rw [f_Mo_layDown_7, e3, if_neg hge, if_pos x1]
          simp only [k1, if_pos m13, nI_1, if_pos (show nI n0 ≤ nI (k + 1) from nI_le hlast (by omega)), e2, if_pos x2, k2]
      · have x3 : ix (nI (k + 1)) 400 := ixI (by omega) (by omega)
        have hl2 : ¬ nI n0 ≤ nI (k + 1) := nI_ge (by omega) (by omega)
        have eb2 : q_Mo_bytes M (k + 1) = q_Mt_text t (k + 1) := (e4 (k + 1) (by omega)).symm
        by_cases h10 : q_Mt_text t (k + 1) = 10
        · obtain ⟨s', M', n, a1, a2, a3, a4, a5, a6, a7, a8, a9⟩ := ih (k + 1) c f1 f2 s M (by omega) (by omega) (by omega) (by omega) e1 e2 e3 e4 e5
          refine ⟨s', M', n, ?_, ?_, a3, a4, a5, a6, a7, a8, a9⟩
          · rw [f_Source_open_17, if_neg hge, if_pos x1]
            simp only [k1, if_pos h13, nI_1, if_neg hl2, if_pos x3, k3, if_pos h10, a1]
          · rw [f_Mo_layDown_7, e3, if_neg hge, if_pos x1]
            simp only [k1, if_pos m13, nI_1, if_neg hl2, if_pos x3, k3, eb2, if_pos h10, a2]
        · refine lay 10 ⟨10, by decide, rfl⟩ ?_ ?_
          · rw [f_Source_open_17, if_neg hge, if_pos x1]
            simp only [k1, if_pos h13, nI_1, if_neg hl2, if_pos x3, k3, if_neg h10, if_pos x1, e1, if_pos x2, k2]
          · rw [f_Mo_layDown_7, e3, if_neg hge, if_pos x1]
            simp only [k1, if_pos m13, nI_1, if_neg hl2, if_pos x3, k3, eb2, if_neg h10, e2, if_pos x2, k2]
    · have m13 : ¬ q_Mo_bytes M k &&& 255 = 13 := by rw [eb]; exact fun h => h13 (e13.mp h)
      refine lay (q_Mt_text t k &&& 255) ⟨v, hv, ev⟩ ?_ ?_
      · rw [f_Source_open_17, if_neg hge, if_pos x1]
        simp only [k1, if_neg h13, nI_1, if_pos x1, e1, if_pos x2, k2]
      · rw [f_Mo_layDown_7, e3, if_neg hge, if_pos x1]
        have m14 : ¬ q_Mt_text t k &&& 255 = 13 := fun h => h13 (e13.mp h)
        simp only [k1, eb, if_neg m14, nI_1, e2, if_pos x2, k2]
