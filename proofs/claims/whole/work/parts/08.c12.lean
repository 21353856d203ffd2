set_option maxHeartbeats 4000000 in
set_option maxRecDepth 100000 in
theorem c_Out_putTag (l : Launch) (D : va_G) (cA : Nat → ClassId) (z : gZ) (ad : Nat → Nat) (sMt : SMt) (sSource : SSource) (sTokens : STokens) (sReferenceWays : SReferenceWays) (sTagWays : STagWays) (sCommentWays : SCommentWays) (sOut : SOut) (a1 : Int32) {x : SOut} (hf : f_Out_putTag a1 sOut sTokens = some x) (sz : Nat) : Met l y_Out_putTag (.code y_Out_putTag b_Out_putTag 3 none :: lw_g) { frames := 9, cells := 0, slots := 0, locals := 217 } (gP D (gT cA) z [.ref (ad 8), .int a1] (Wc z ad cA sMt sSource sTokens sReferenceWays sTagWays sCommentWays sOut) sz) (gQv D (gT cA) (va_A (Wc z ad cA sMt sSource sTokens sReferenceWays sTagWays sCommentWays sOut) sz) (Wc z ad cA sMt sSource sTokens sReferenceWays sTagWays sCommentWays x)) 0 0 (va_A (Wc z ad cA sMt sSource sTokens sReferenceWays sTagWays sCommentWays sOut) sz) := by
  refine g_met (by decide) (Nat.le_of_ble_eq_true rfl) rfl ?_
  intro p e s m args below meth c F hr hlk
  have blk31 : ∀ (n : Nat) (v1 : Int32) (v2 : Int32) (tOut : SOut), f_Out_putTag_31 n v1 v2 tOut sTokens = some x → GW p l e { frames := 9, cells := 0, slots := 0, locals := 217 } s m args below meth c (gQv D (gT cA) (va_A (Wc z ad cA sMt sSource sTokens sReferenceWays sTagWays sCommentWays sOut) sz) (Wc z ad cA sMt sSource sTokens sReferenceWays sTagWays sCommentWays x)) D (va_A (Wc z ad cA sMt sSource sTokens sReferenceWays sTagWays sCommentWays sOut) sz) 3 (Wc z ad cA sMt sSource sTokens sReferenceWays sTagWays sCommentWays tOut) 31 [(0, .ref (ad 8)), (1, .int v1), (2, .int v2)] [] := by
    intro n
    induction n with
    | zero => intro _ _ _ hf; cases hf
    | succ n ih =>
      intro v1 v2 tOut hf
      rw [f_Out_putTag_31] at hf
      refine g_iload_n F d_Out_putTag_31 2 rfl ?_
      refine g_aload_n F d_Out_putTag_32 0 rfl ?_
      refine g_get F (v := .ref (ad 2)) in_X4 8 rfl rfl 0 (by decide) mw_285 rfl d_Out_putTag_33 ?_
      refine g_iload_n F d_Out_putTag_36 1 rfl ?_
      obtain ⟨x1, hx1, hf⟩ := g_bind hf
      refine g_ci F (r0 := x1) (ws' := (Wc z ad cA sMt sSource sTokens sReferenceWays sTagWays sCommentWays tOut)) (fun H locs ls hP hD hS hl => g_runV F (As := [.int v1]) (n := 1) mw_903 rfl rfl ⟨by decide, by decide⟩ rfl (by exact Nat.le_of_ble_eq_true rfl) mw_1026 mw_901 mw_902 mw_75 (by decide +kernel) d_Out_putTag_37 hP hD hS hl (va_recv F.2.2.2.2.2.1 hP (ci := 2) rfl (q0 := 2) rfl) (c_Tokens_attributes l D cA z ad sMt sSource sTokens sReferenceWays sTagWays sCommentWays tOut v1 hx1 H.size)) ?_
      refine g_icmp_ge F (tgt := 55) d_Out_putTag_40 (by decide) (fun h => ?_) (fun h => ?_)
      · rw [if_pos h] at hf
        refine g_aload_n F d_Out_putTag_55 0 rfl ?_
        refine g_get F (v := .ref (ad 2)) in_X4 8 rfl rfl 0 (by decide) mw_285 rfl d_Out_putTag_56 ?_
        refine g_iload_n F d_Out_putTag_59 1 rfl ?_
        obtain ⟨x2, hx2, hf⟩ := g_bind hf
        refine g_ci F (r0 := x2) (ws' := (Wc z ad cA sMt sSource sTokens sReferenceWays sTagWays sCommentWays tOut)) (fun H locs ls hP hD hS hl => g_runV F (As := [.int v1]) (n := 1) mw_899 rfl rfl ⟨by decide, by decide⟩ rfl (by exact Nat.le_of_ble_eq_true rfl) mw_1020 mw_897 mw_898 mw_75 (by decide +kernel) d_Out_putTag_60 hP hD hS hl (va_recv F.2.2.2.2.2.1 hP (ci := 2) rfl (q0 := 2) rfl) (c_Tokens_mark l D cA z ad sMt sSource sTokens sReferenceWays sTagWays sCommentWays tOut v1 hx2 H.size)) ?_
        refine g_iconst F (v := 1) d_Out_putTag_63 (by decide) ?_
        refine g_icmp_ne F (tgt := 73) d_Out_putTag_64 (by decide) (fun h => ?_) (fun h => ?_)
        · rw [if_neg h] at hf
          refine g_aload_n F d_Out_putTag_73 0 rfl ?_
          refine g_bipush F (v := 62) d_Out_putTag_74 (by decide) ?_
          obtain ⟨x3, hx3, hf⟩ := g_bind hf
          refine g_cv F (ws' := (Wc z ad cA sMt sSource sTokens sReferenceWays sTagWays sCommentWays x3)) (fun H locs ls hP hD hS hl => g_runV F (As := [.int 62]) (n := 1) mw_988 rfl rfl ⟨by decide, by decide⟩ rfl (by exact Nat.le_of_ble_eq_true rfl) mw_985 mw_987 mw_24 mw_84 (by decide +kernel) d_Out_putTag_76 hP hD hS hl (va_recv F.2.2.2.2.2.1 hP (ci := 8) rfl (q0 := 8) rfl) (c_Out_putByte l D cA z ad sMt sSource sTokens sReferenceWays sTagWays sCommentWays tOut 62 hx3 H.size)) ?_
          cases hf
          exact g_vret F hr hlk rfl rfl d_Out_putTag_79
        · rw [if_pos h] at hf
          refine g_aload_n F d_Out_putTag_67 0 rfl ?_
          refine g_bipush F (v := 47) d_Out_putTag_68 (by decide) ?_
          obtain ⟨x4, hx4, hf⟩ := g_bind hf
          refine g_cv F (ws' := (Wc z ad cA sMt sSource sTokens sReferenceWays sTagWays sCommentWays x4)) (fun H locs ls hP hD hS hl => g_runV F (As := [.int 47]) (n := 1) mw_988 rfl rfl ⟨by decide, by decide⟩ rfl (by exact Nat.le_of_ble_eq_true rfl) mw_985 mw_987 mw_24 mw_84 (by decide +kernel) d_Out_putTag_70 hP hD hS hl (va_recv F.2.2.2.2.2.1 hP (ci := 8) rfl (q0 := 8) rfl) (c_Out_putByte l D cA z ad sMt sSource sTokens sReferenceWays sTagWays sCommentWays tOut 47 hx4 H.size)) ?_
          refine g_aload_n F d_Out_putTag_73 0 rfl ?_
          refine g_bipush F (v := 62) d_Out_putTag_74 (by decide) ?_
          obtain ⟨x5, hx5, hf⟩ := g_bind hf
          refine g_cv F (ws' := (Wc z ad cA sMt sSource sTokens sReferenceWays sTagWays sCommentWays x5)) (fun H locs ls hP hD hS hl => g_runV F (As := [.int 62]) (n := 1) mw_988 rfl rfl ⟨by decide, by decide⟩ rfl (by exact Nat.le_of_ble_eq_true rfl) mw_985 mw_987 mw_24 mw_84 (by decide +kernel) d_Out_putTag_76 hP hD hS hl (va_recv F.2.2.2.2.2.1 hP (ci := 8) rfl (q0 := 8) rfl) (c_Out_putByte l D cA z ad sMt sSource sTokens sReferenceWays sTagWays sCommentWays x4 62 hx5 H.size)) ?_
          cases hf
          exact g_vret F hr hlk rfl rfl d_Out_putTag_79
      · rw [if_neg h] at hf
        refine g_aload_n F d_Out_putTag_43 0 rfl ?_
        refine g_iload_n F d_Out_putTag_44 1 rfl ?_
        refine g_iload_n F d_Out_putTag_45 2 rfl ?_
        obtain ⟨x6, hx6, hf⟩ := g_bind hf
        refine g_cv F (ws' := (Wc z ad cA sMt sSource sTokens sReferenceWays sTagWays sCommentWays x6)) (fun H locs ls hP hD hS hl => g_runV F (As := [.int v1, .int v2]) (n := 2) mw_1030 rfl rfl ⟨by decide, by decide⟩ rfl (by exact Nat.le_of_ble_eq_true rfl) mw_1027 mw_1029 mw_32 mw_84 (by decide +kernel) d_Out_putTag_46 hP hD hS hl (va_recv F.2.2.2.2.2.1 hP (ci := 8) rfl (q0 := 8) rfl) (c_Out_putAttribute l D cA z ad sMt sSource sTokens sReferenceWays sTagWays sCommentWays tOut v1 v2 hx6 H.size)) ?_
        refine g_iinc F (j := 2) (v := (v2 + 1)) (L' := [(2, .int (v2 + 1)), (0, .ref (ad 8)), (1, .int v1)]) d_Out_putTag_49 rfl rfl (by decide) rfl ?_
        refine g_goto F (tgt := 31) d_Out_putTag_52 (by decide) ?_
        refine g_loc [1, 2, 0] rfl ?_
        exact ih v1 (v2 + 1) x6 hf
  unfold f_Out_putTag at hf
  refine g_aload_n F d_Out_putTag_0 0 rfl ?_
  refine g_bipush F (v := 60) d_Out_putTag_1 (by decide) ?_
  obtain ⟨x7, hx7, hf⟩ := g_bind hf
  refine g_cv F (ws' := (Wc z ad cA sMt sSource sTokens sReferenceWays sTagWays sCommentWays x7)) (fun H locs ls hP hD hS hl => g_runV F (As := [.int 60]) (n := 1) mw_988 rfl rfl ⟨by decide, by decide⟩ rfl (by exact Nat.le_of_ble_eq_true rfl) mw_985 mw_987 mw_24 mw_84 (by decide +kernel) d_Out_putTag_3 hP hD hS hl (va_recv F.2.2.2.2.2.1 hP (ci := 8) rfl (q0 := 8) rfl) (c_Out_putByte l D cA z ad sMt sSource sTokens sReferenceWays sTagWays sCommentWays sOut 60 hx7 H.size)) ?_
  refine g_aload_n F d_Out_putTag_6 0 rfl ?_
  refine g_get F (v := .ref (ad 2)) in_X4 8 rfl rfl 0 (by decide) mw_285 rfl d_Out_putTag_7 ?_
  refine g_iload_n F d_Out_putTag_10 1 rfl ?_
  obtain ⟨x8, hx8, hf⟩ := g_bind hf
  refine g_ci F (r0 := x8) (ws' := (Wc z ad cA sMt sSource sTokens sReferenceWays sTagWays sCommentWays x7)) (fun H locs ls hP hD hS hl => g_runV F (As := [.int a1]) (n := 1) mw_891 rfl rfl ⟨by decide, by decide⟩ rfl (by exact Nat.le_of_ble_eq_true rfl) mw_971 mw_889 mw_890 mw_75 (by decide +kernel) d_Out_putTag_11 hP hD hS hl (va_recv F.2.2.2.2.2.1 hP (ci := 2) rfl (q0 := 2) rfl) (c_Tokens_kind l D cA z ad sMt sSource sTokens sReferenceWays sTagWays sCommentWays x7 a1 hx8 H.size)) ?_
  refine g_iconst F (v := 2) d_Out_putTag_14 (by decide) ?_
  refine g_icmp_ne F (tgt := 24) d_Out_putTag_15 (by decide) (fun h => ?_) (fun h => ?_)
  · rw [if_neg h] at hf
    refine g_aload_n F d_Out_putTag_24 0 rfl ?_
    refine g_iload_n F d_Out_putTag_25 1 rfl ?_
    obtain ⟨x9, hx9, hf⟩ := g_bind hf
    refine g_cv F (ws' := (Wc z ad cA sMt sSource sTokens sReferenceWays sTagWays sCommentWays x9)) (fun H locs ls hP hD hS hl => g_runV F (As := [.int a1]) (n := 1) mw_1008 rfl rfl ⟨by decide, by decide⟩ rfl (by exact Nat.le_of_ble_eq_true rfl) mw_1005 mw_1007 mw_28 mw_84 (by decide +kernel) d_Out_putTag_26 hP hD hS hl (va_recv F.2.2.2.2.2.1 hP (ci := 8) rfl (q0 := 8) rfl) (c_Out_putOwn l D cA z ad sMt sSource sTokens sReferenceWays sTagWays sCommentWays x7 a1 hx9 H.size)) ?_
    refine g_iconst F (v := 0) d_Out_putTag_29 (by decide) ?_
    refine g_istore_n F (L' := [(2, .int 0), (0, .ref (ad 8)), (1, .int a1)]) d_Out_putTag_30 rfl (by decide) rfl ?_
    refine g_loc [1, 2, 0] rfl ?_
    exact blk31 FU a1 0 x9 hf
  · rw [if_pos h] at hf
    refine g_aload_n F d_Out_putTag_18 0 rfl ?_
    refine g_bipush F (v := 47) d_Out_putTag_19 (by decide) ?_
    obtain ⟨x10, hx10, hf⟩ := g_bind hf
    refine g_cv F (ws' := (Wc z ad cA sMt sSource sTokens sReferenceWays sTagWays sCommentWays x10)) (fun H locs ls hP hD hS hl => g_runV F (As := [.int 47]) (n := 1) mw_988 rfl rfl ⟨by decide, by decide⟩ rfl (by exact Nat.le_of_ble_eq_true rfl) mw_985 mw_987 mw_24 mw_84 (by decide +kernel) d_Out_putTag_21 hP hD hS hl (va_recv F.2.2.2.2.2.1 hP (ci := 8) rfl (q0 := 8) rfl) (c_Out_putByte l D cA z ad sMt sSource sTokens sReferenceWays sTagWays sCommentWays x7 47 hx10 H.size)) ?_
    refine g_aload_n F d_Out_putTag_24 0 rfl ?_
    refine g_iload_n F d_Out_putTag_25 1 rfl ?_
    obtain ⟨x11, hx11, hf⟩ := g_bind hf
    refine g_cv F (ws' := (Wc z ad cA sMt sSource sTokens sReferenceWays sTagWays sCommentWays x11)) (fun H locs ls hP hD hS hl => g_runV F (As := [.int a1]) (n := 1) mw_1008 rfl rfl ⟨by decide, by decide⟩ rfl (by exact Nat.le_of_ble_eq_true rfl) mw_1005 mw_1007 mw_28 mw_84 (by decide +kernel) d_Out_putTag_26 hP hD hS hl (va_recv F.2.2.2.2.2.1 hP (ci := 8) rfl (q0 := 8) rfl) (c_Out_putOwn l D cA z ad sMt sSource sTokens sReferenceWays sTagWays sCommentWays x10 a1 hx11 H.size)) ?_
    refine g_iconst F (v := 0) d_Out_putTag_29 (by decide) ?_
    refine g_istore_n F (L' := [(2, .int 0), (0, .ref (ad 8)), (1, .int a1)]) d_Out_putTag_30 rfl (by decide) rfl ?_
    refine g_loc [1, 2, 0] rfl ?_
    exact blk31 FU a1 0 x11 hf
set_option maxHeartbeats 4000000 in
set_option maxRecDepth 100000 in
theorem c_Out_putAll (l : Launch) (D : va_G) (cA : Nat → ClassId) (z : gZ) (ad : Nat → Nat) (sMt : SMt) (sSource : SSource) (sTokens : STokens) (sReferenceWays : SReferenceWays) (sTagWays : STagWays) (sCommentWays : SCommentWays) (sOut : SOut) {x : SOut} (hf : f_Out_putAll sOut sTokens = some x) (sz : Nat) : Met l y_Out_putAll (.code y_Out_putAll b_Out_putAll 2 none :: lw_g) { frames := 10, cells := 0, slots := 0, locals := 239 } (gP D (gT cA) z [.ref (ad 8)] (Wc z ad cA sMt sSource sTokens sReferenceWays sTagWays sCommentWays sOut) sz) (gQv D (gT cA) (va_A (Wc z ad cA sMt sSource sTokens sReferenceWays sTagWays sCommentWays sOut) sz) (Wc z ad cA sMt sSource sTokens sReferenceWays sTagWays sCommentWays x)) 0 0 (va_A (Wc z ad cA sMt sSource sTokens sReferenceWays sTagWays sCommentWays sOut) sz) := by
  refine g_met (by decide) (Nat.le_of_ble_eq_true rfl) rfl ?_
  intro p e s m args below meth c F hr hlk
  have blk7 : ∀ (n : Nat) (v1 : Int32) (tOut : SOut), f_Out_putAll_7 n v1 tOut sTokens = some x → GW p l e { frames := 10, cells := 0, slots := 0, locals := 239 } s m args below meth c (gQv D (gT cA) (va_A (Wc z ad cA sMt sSource sTokens sReferenceWays sTagWays sCommentWays sOut) sz) (Wc z ad cA sMt sSource sTokens sReferenceWays sTagWays sCommentWays x)) D (va_A (Wc z ad cA sMt sSource sTokens sReferenceWays sTagWays sCommentWays sOut) sz) 2 (Wc z ad cA sMt sSource sTokens sReferenceWays sTagWays sCommentWays tOut) 7 [(0, .ref (ad 8)), (1, .int v1)] [] := by
    intro n
    induction n with
    | zero => intro _ _ hf; cases hf
    | succ n ih =>
      intro v1 tOut hf
      rw [f_Out_putAll_7] at hf
      refine g_iload_n F d_Out_putAll_7 1 rfl ?_
      refine g_aload_n F d_Out_putAll_8 0 rfl ?_
      refine g_get F (v := .ref (ad 2)) in_X4 8 rfl rfl 0 (by decide) mw_285 rfl d_Out_putAll_9 ?_
      refine g_ci F (r0 := (f_Tokens_count sTokens)) (ws' := (Wc z ad cA sMt sSource sTokens sReferenceWays sTagWays sCommentWays tOut)) (fun H locs ls hP hD hS hl => g_runV F (As := []) (n := 0) mw_879 rfl rfl ⟨by decide, by decide⟩ rfl (by exact Nat.le_of_ble_eq_true rfl) mw_970 mw_877 mw_878 mw_75 (by decide +kernel) d_Out_putAll_12 hP hD hS hl (va_recv F.2.2.2.2.2.1 hP (ci := 2) rfl (q0 := 2) rfl) (c_Tokens_count l D cA z ad sMt sSource sTokens sReferenceWays sTagWays sCommentWays tOut rfl H.size)) ?_
      refine g_icmp_ge F (tgt := 95) d_Out_putAll_15 (by decide) (fun h => ?_) (fun h => ?_)
      · rw [if_pos h] at hf
        cases hf
        exact g_vret F hr hlk rfl rfl d_Out_putAll_95
      · rw [if_neg h] at hf
        refine g_aload_n F d_Out_putAll_18 0 rfl ?_
        refine g_get F (v := .ref (ad 2)) in_X4 8 rfl rfl 0 (by decide) mw_285 rfl d_Out_putAll_19 ?_
        refine g_iload_n F d_Out_putAll_22 1 rfl ?_
        obtain ⟨x1, hx1, hf⟩ := g_bind hf
        refine g_ci F (r0 := x1) (ws' := (Wc z ad cA sMt sSource sTokens sReferenceWays sTagWays sCommentWays tOut)) (fun H locs ls hP hD hS hl => g_runV F (As := [.int v1]) (n := 1) mw_891 rfl rfl ⟨by decide, by decide⟩ rfl (by exact Nat.le_of_ble_eq_true rfl) mw_971 mw_889 mw_890 mw_75 (by decide +kernel) d_Out_putAll_23 hP hD hS hl (va_recv F.2.2.2.2.2.1 hP (ci := 2) rfl (q0 := 2) rfl) (c_Tokens_kind l D cA z ad sMt sSource sTokens sReferenceWays sTagWays sCommentWays tOut v1 hx1 H.size)) ?_
        by_cases q1 : x1 = 0
        · rw [if_pos q1] at hf
          refine g_tableIn F (off := 34) (tgt := 60) d_Out_putAll_26 (by rw [q1]; decide) (by rw [q1]; decide) (by rw [q1]; decide) (by decide) ?_
          refine g_aload_n F d_Out_putAll_60 0 rfl ?_
          refine g_iload_n F d_Out_putAll_61 1 rfl ?_
          obtain ⟨x2, hx2, hf⟩ := g_bind hf
          refine g_cv F (ws' := (Wc z ad cA sMt sSource sTokens sReferenceWays sTagWays sCommentWays x2)) (fun H locs ls hP hD hS hl => g_runV F (As := [.int v1]) (n := 1) mw_975 rfl rfl ⟨by decide, by decide⟩ rfl (by exact Nat.le_of_ble_eq_true rfl) mw_972 mw_974 mw_22 mw_84 (by decide +kernel) d_Out_putAll_62 hP hD hS hl (va_recv F.2.2.2.2.2.1 hP (ci := 8) rfl (q0 := 8) rfl) (c_Out_putText l D cA z ad sMt sSource sTokens sReferenceWays sTagWays sCommentWays tOut v1 hx2 H.size)) ?_
          refine g_goto F (tgt := 89) d_Out_putAll_65 (by decide) ?_
          refine g_iinc F (j := 1) (v := (v1 + 1)) (L' := [(1, .int (v1 + 1)), (0, .ref (ad 8))]) d_Out_putAll_89 rfl rfl (by decide) rfl ?_
          refine g_goto F (tgt := 7) d_Out_putAll_92 (by decide) ?_
          refine g_loc [1, 0] rfl ?_
          exact ih (v1 + 1) x2 hf
        rw [if_neg q1] at hf
        by_cases q2 : x1 = 3
        · rw [if_pos q2] at hf
          refine g_tableIn F (off := 42) (tgt := 68) d_Out_putAll_26 (by rw [q2]; decide) (by rw [q2]; decide) (by rw [q2]; decide) (by decide) ?_
          refine g_aload_n F d_Out_putAll_68 0 rfl ?_
          refine g_iload_n F d_Out_putAll_69 1 rfl ?_
          obtain ⟨x3, hx3, hf⟩ := g_bind hf
          refine g_cv F (ws' := (Wc z ad cA sMt sSource sTokens sReferenceWays sTagWays sCommentWays x3)) (fun H locs ls hP hD hS hl => g_runV F (As := [.int v1]) (n := 1) mw_1003 rfl rfl ⟨by decide, by decide⟩ rfl (by exact Nat.le_of_ble_eq_true rfl) mw_1000 mw_1002 mw_27 mw_84 (by decide +kernel) d_Out_putAll_70 hP hD hS hl (va_recv F.2.2.2.2.2.1 hP (ci := 8) rfl (q0 := 8) rfl) (c_Out_putComment l D cA z ad sMt sSource sTokens sReferenceWays sTagWays sCommentWays tOut v1 hx3 H.size)) ?_
          refine g_goto F (tgt := 89) d_Out_putAll_73 (by decide) ?_
          refine g_iinc F (j := 1) (v := (v1 + 1)) (L' := [(1, .int (v1 + 1)), (0, .ref (ad 8))]) d_Out_putAll_89 rfl rfl (by decide) rfl ?_
          refine g_goto F (tgt := 7) d_Out_putAll_92 (by decide) ?_
          refine g_loc [1, 0] rfl ?_
          exact ih (v1 + 1) x3 hf
        rw [if_neg q2] at hf
        by_cases q3 : x1 = 4
        · rw [if_pos q3] at hf
          refine g_tableIn F (off := 50) (tgt := 76) d_Out_putAll_26 (by rw [q3]; decide) (by rw [q3]; decide) (by rw [q3]; decide) (by decide) ?_
          refine g_aload_n F d_Out_putAll_76 0 rfl ?_
          refine g_iload_n F d_Out_putAll_77 1 rfl ?_
          obtain ⟨x4, hx4, hf⟩ := g_bind hf
          refine g_cv F (ws' := (Wc z ad cA sMt sSource sTokens sReferenceWays sTagWays sCommentWays x4)) (fun H locs ls hP hD hS hl => g_runV F (As := [.int v1]) (n := 1) mw_1018 rfl rfl ⟨by decide, by decide⟩ rfl (by exact Nat.le_of_ble_eq_true rfl) mw_1015 mw_1017 mw_30 mw_84 (by decide +kernel) d_Out_putAll_78 hP hD hS hl (va_recv F.2.2.2.2.2.1 hP (ci := 8) rfl (q0 := 8) rfl) (c_Out_putDoctype l D cA z ad sMt sSource sTokens sReferenceWays sTagWays sCommentWays tOut v1 hx4 H.size)) ?_
          refine g_goto F (tgt := 89) d_Out_putAll_81 (by decide) ?_
          refine g_iinc F (j := 1) (v := (v1 + 1)) (L' := [(1, .int (v1 + 1)), (0, .ref (ad 8))]) d_Out_putAll_89 rfl rfl (by decide) rfl ?_
          refine g_goto F (tgt := 7) d_Out_putAll_92 (by decide) ?_
          refine g_loc [1, 0] rfl ?_
          exact ih (v1 + 1) x4 hf
        rw [if_neg q3] at hf
        by_cases q4 : x1 = 1
        ·
          refine g_tableIn F (off := 58) (tgt := 84) d_Out_putAll_26 (by rw [q4]; decide) (by rw [q4]; decide) (by rw [q4]; decide) (by decide) ?_
          refine g_aload_n F d_Out_putAll_84 0 rfl ?_
          refine g_iload_n F d_Out_putAll_85 1 rfl ?_
          obtain ⟨x5, hx5, hf⟩ := g_bind hf
          refine g_cv F (ws' := (Wc z ad cA sMt sSource sTokens sReferenceWays sTagWays sCommentWays x5)) (fun H locs ls hP hD hS hl => g_runV F (As := [.int v1]) (n := 1) mw_1025 rfl rfl ⟨by decide, by decide⟩ rfl (by exact Nat.le_of_ble_eq_true rfl) mw_1022 mw_1024 mw_31 mw_84 (by decide +kernel) d_Out_putAll_86 hP hD hS hl (va_recv F.2.2.2.2.2.1 hP (ci := 8) rfl (q0 := 8) rfl) (c_Out_putTag l D cA z ad sMt sSource sTokens sReferenceWays sTagWays sCommentWays tOut v1 hx5 H.size)) ?_
          refine g_iinc F (j := 1) (v := (v1 + 1)) (L' := [(1, .int (v1 + 1)), (0, .ref (ad 8))]) d_Out_putAll_89 rfl rfl (by decide) rfl ?_
          refine g_goto F (tgt := 7) d_Out_putAll_92 (by decide) ?_
          refine g_loc [1, 0] rfl ?_
          exact ih (v1 + 1) x5 hf
        by_cases q5 : x1 = 2
        ·
          refine g_tableIn F (off := 58) (tgt := 84) d_Out_putAll_26 (by rw [q5]; decide) (by rw [q5]; decide) (by rw [q5]; decide) (by decide) ?_
          refine g_aload_n F d_Out_putAll_84 0 rfl ?_
          refine g_iload_n F d_Out_putAll_85 1 rfl ?_
          obtain ⟨x6, hx6, hf⟩ := g_bind hf
          refine g_cv F (ws' := (Wc z ad cA sMt sSource sTokens sReferenceWays sTagWays sCommentWays x6)) (fun H locs ls hP hD hS hl => g_runV F (As := [.int v1]) (n := 1) mw_1025 rfl rfl ⟨by decide, by decide⟩ rfl (by exact Nat.le_of_ble_eq_true rfl) mw_1022 mw_1024 mw_31 mw_84 (by decide +kernel) d_Out_putAll_86 hP hD hS hl (va_recv F.2.2.2.2.2.1 hP (ci := 8) rfl (q0 := 8) rfl) (c_Out_putTag l D cA z ad sMt sSource sTokens sReferenceWays sTagWays sCommentWays tOut v1 hx6 H.size)) ?_
          refine g_iinc F (j := 1) (v := (v1 + 1)) (L' := [(1, .int (v1 + 1)), (0, .ref (ad 8))]) d_Out_putAll_89 rfl rfl (by decide) rfl ?_
          refine g_goto F (tgt := 7) d_Out_putAll_92 (by decide) ?_
          refine g_loc [1, 0] rfl ?_
          exact ih (v1 + 1) x6 hf
        refine g_tableOut F (tgt := 84) d_Out_putAll_26 (tsw (x := x1) (fun k h1 h2 e => by
            have h3 : k.toInt = 0 ∨ k.toInt = 1 ∨ k.toInt = 2 ∨ k.toInt = 3 ∨ k.toInt = 4 := by omega
            rcases h3 with h3 | h3 | h3 | h3 | h3
            · exact q1 (e.trans (Int32.toInt_inj.mp (h3.trans (by decide))))
            · exact q4 (e.trans (Int32.toInt_inj.mp (h3.trans (by decide))))
            · exact q5 (e.trans (Int32.toInt_inj.mp (h3.trans (by decide))))
            · exact q2 (e.trans (Int32.toInt_inj.mp (h3.trans (by decide))))
            · exact q3 (e.trans (Int32.toInt_inj.mp (h3.trans (by decide)))))) (by decide) ?_
        refine g_aload_n F d_Out_putAll_84 0 rfl ?_
        refine g_iload_n F d_Out_putAll_85 1 rfl ?_
        obtain ⟨x7, hx7, hf⟩ := g_bind hf
        refine g_cv F (ws' := (Wc z ad cA sMt sSource sTokens sReferenceWays sTagWays sCommentWays x7)) (fun H locs ls hP hD hS hl => g_runV F (As := [.int v1]) (n := 1) mw_1025 rfl rfl ⟨by decide, by decide⟩ rfl (by exact Nat.le_of_ble_eq_true rfl) mw_1022 mw_1024 mw_31 mw_84 (by decide +kernel) d_Out_putAll_86 hP hD hS hl (va_recv F.2.2.2.2.2.1 hP (ci := 8) rfl (q0 := 8) rfl) (c_Out_putTag l D cA z ad sMt sSource sTokens sReferenceWays sTagWays sCommentWays tOut v1 hx7 H.size)) ?_
        refine g_iinc F (j := 1) (v := (v1 + 1)) (L' := [(1, .int (v1 + 1)), (0, .ref (ad 8))]) d_Out_putAll_89 rfl rfl (by decide) rfl ?_
        refine g_goto F (tgt := 7) d_Out_putAll_92 (by decide) ?_
        refine g_loc [1, 0] rfl ?_
        exact ih (v1 + 1) x7 hf
  unfold f_Out_putAll at hf
  refine g_aload_n F d_Out_putAll_0 0 rfl ?_
  refine g_iconst F (v := 0) d_Out_putAll_1 (by decide) ?_
  refine g_put F in_X4 8 rfl rfl 2 (by decide) tyX4 tyX4_ok nmX4 mw_287 rfl rfl rfl (Nat.le_of_ble_eq_true rfl) (ws' := (Wc z ad cA sMt sSource sTokens sReferenceWays sTagWays sCommentWays (u_Out_length sOut 0))) rfl d_Out_putAll_2 ?_
  refine g_iconst F (v := 0) d_Out_putAll_5 (by decide) ?_
  refine g_istore_n F (L' := [(1, .int 0), (0, .ref (ad 8))]) d_Out_putAll_6 rfl (by decide) rfl ?_
  refine g_loc [1, 0] rfl ?_
  exact blk7 FU 0 (u_Out_length sOut 0) hf
set_option maxHeartbeats 4000000 in
set_option maxRecDepth 100000 in
theorem c_Mt_write (l : Launch) (D : va_G) (cA : Nat → ClassId) (z : gZ) (ad : Nat → Nat) (sMt : SMt) (sSource : SSource) (sTokens : STokens) (sReferenceWays : SReferenceWays) (sTagWays : STagWays) (sCommentWays : SCommentWays) (sOut : SOut) {x : Int32 × SOut} (hf : f_Mt_write sOut sTokens = some x) (sz : Nat) : Met l y_Mt_write (.code y_Mt_write b_Mt_write 1 (some .int) :: lw_g) { frames := 11, cells := 0, slots := 0, locals := 260 } (gP D (gT cA) z [.ref (ad 0)] (Wc z ad cA sMt sSource sTokens sReferenceWays sTagWays sCommentWays sOut) sz) (gQi D (gT cA) (va_A (Wc z ad cA sMt sSource sTokens sReferenceWays sTagWays sCommentWays sOut) sz) x.1 (Wc z ad cA sMt sSource sTokens sReferenceWays sTagWays sCommentWays x.2)) 0 0 (va_A (Wc z ad cA sMt sSource sTokens sReferenceWays sTagWays sCommentWays sOut) sz) := by
  refine g_met (by decide) (Nat.le_of_ble_eq_true rfl) rfl ?_
  intro p e s m args below meth c F hr hlk
  unfold f_Mt_write at hf
  refine g_aload_n F d_Mt_write_0 0 rfl ?_
  refine g_get F (v := .ref (ad 8)) in_X12 0 rfl rfl 5 (by decide) mw_300 rfl d_Mt_write_1 ?_
  obtain ⟨x1, hx1, hf⟩ := g_bind hf
  refine g_cv F (ws' := (Wc z ad cA sMt sSource sTokens sReferenceWays sTagWays sCommentWays x1)) (fun H locs ls hP hD hS hl => g_runV F (As := []) (n := 0) mw_969 rfl rfl ⟨by decide, by decide⟩ rfl (by exact Nat.le_of_ble_eq_true rfl) mw_966 mw_967 mw_968 mw_84 (by decide +kernel) d_Mt_write_4 hP hD hS hl (va_recv F.2.2.2.2.2.1 hP (ci := 8) rfl (q0 := 8) rfl) (c_Out_putAll l D cA z ad sMt sSource sTokens sReferenceWays sTagWays sCommentWays sOut hx1 H.size)) ?_
  refine g_aload_n F d_Mt_write_7 0 rfl ?_
  refine g_get F (v := .ref (ad 8)) in_X12 0 rfl rfl 5 (by decide) mw_300 rfl d_Mt_write_8 ?_
  refine g_ci F (r0 := (f_Out_length x1)) (ws' := (Wc z ad cA sMt sSource sTokens sReferenceWays sTagWays sCommentWays x1)) (fun H locs ls hP hD hS hl => g_runV F (As := []) (n := 0) mw_329 rfl rfl ⟨by decide, by decide⟩ rfl (by exact Nat.le_of_ble_eq_true rfl) mw_326 mw_327 mw_328 mw_84 (by decide +kernel) d_Mt_write_11 hP hD hS hl (va_recv F.2.2.2.2.2.1 hP (ci := 8) rfl (q0 := 8) rfl) (c_Out_length l D cA z ad sMt sSource sTokens sReferenceWays sTagWays sCommentWays x1 rfl H.size)) ?_
  cases hf
  exact g_iret F hr hlk rfl rfl rfl d_Mt_write_14
set_option maxHeartbeats 4000000 in
set_option maxRecDepth 100000 in
theorem c_Out_byteAt (l : Launch) (D : va_G) (cA : Nat → ClassId) (z : gZ) (ad : Nat → Nat) (sMt : SMt) (sSource : SSource) (sTokens : STokens) (sReferenceWays : SReferenceWays) (sTagWays : STagWays) (sCommentWays : SCommentWays) (sOut : SOut) (a1 : Int64) {x : Int64} (hf : f_Out_byteAt a1 sOut = some x) (sz : Nat) : Met l y_Out_byteAt (.code y_Out_byteAt b_Out_byteAt 3 (some .long) :: lw_g) { frames := 0, cells := 0, slots := 0, locals := 0 } (gP D (gT cA) z [.ref (ad 8), .long a1] (Wc z ad cA sMt sSource sTokens sReferenceWays sTagWays sCommentWays sOut) sz) (gQl D (gT cA) (va_A (Wc z ad cA sMt sSource sTokens sReferenceWays sTagWays sCommentWays sOut) sz) x (Wc z ad cA sMt sSource sTokens sReferenceWays sTagWays sCommentWays sOut)) 0 0 (va_A (Wc z ad cA sMt sSource sTokens sReferenceWays sTagWays sCommentWays sOut) sz) := by
  refine g_met (by decide) (Nat.le_of_ble_eq_true rfl) rfl ?_
  intro p e s m args below meth c F hr hlk
  unfold f_Out_byteAt at hf
  refine g_lload_n F d_Out_byteAt_0 1 rfl ?_
  refine g_lconst F (v := 0) d_Out_byteAt_1 (by decide) ?_
  refine g_lcmp F d_Out_byteAt_2 ?_
  refine g_if_lt F (tgt := 31) d_Out_byteAt_3 (by decide) (fun h => ?_) (fun h => ?_)
  · rw [if_pos h] at hf
    refine g_lconst F (v := 0) d_Out_byteAt_31 (by decide) ?_
    cases hf
    exact g_lret F hr hlk rfl rfl rfl d_Out_byteAt_32
  · rw [if_neg h] at hf
    refine g_lload_n F d_Out_byteAt_6 1 rfl ?_
    refine g_aload_n F d_Out_byteAt_7 0 rfl ?_
    refine g_get F (v := .int (q_Out_length sOut)) in_X4 8 rfl rfl 2 (by decide) mw_287 rfl d_Out_byteAt_8 ?_
    refine g_i2l F d_Out_byteAt_11 ?_
    refine g_lcmp F d_Out_byteAt_12 ?_
    refine g_if_ge F (tgt := 31) d_Out_byteAt_13 (by decide) (fun h => ?_) (fun h => ?_)
    · rw [if_pos h] at hf
      refine g_lconst F (v := 0) d_Out_byteAt_31 (by decide) ?_
      cases hf
      exact g_lret F hr hlk rfl rfl rfl d_Out_byteAt_32
    · rw [if_neg h] at hf
      refine g_aload_n F d_Out_byteAt_16 0 rfl ?_
      refine g_get F (v := .ref (ad 23)) in_X4 8 rfl rfl 1 (by decide) mw_286 rfl d_Out_byteAt_17 ?_
      refine g_lload_n F d_Out_byteAt_20 1 rfl ?_
      refine g_l2i F d_Out_byteAt_21 ?_
      obtain ⟨k1, hf⟩ := g_chk hf
      refine g_bald F (f := (q_Out_bytes sOut)) 23 1 rfl rfl k1 d_Out_byteAt_22 ?_
      refine g_i2l F d_Out_byteAt_23 ?_
      refine g_ldc2 F (v := 255) mw_1046 d_Out_byteAt_24 ?_
      refine g_land F d_Out_byteAt_27 ?_
      refine g_goto F (tgt := 32) d_Out_byteAt_28 (by decide) ?_
      cases hf
      exact g_lret F hr hlk rfl rfl rfl d_Out_byteAt_32
set_option maxHeartbeats 4000000 in
set_option maxRecDepth 100000 in
theorem c_Mt_word (l : Launch) (D : va_G) (cA : Nat → ClassId) (z : gZ) (ad : Nat → Nat) (sMt : SMt) (sSource : SSource) (sTokens : STokens) (sReferenceWays : SReferenceWays) (sTagWays : STagWays) (sCommentWays : SCommentWays) (sOut : SOut) (a1 : Int32) {x : Int64} (hf : f_Mt_word a1 sOut = some x) (sz : Nat) : Met l y_Mt_word (.code y_Mt_word b_Mt_word 7 (some .long) :: lw_g) { frames := 1, cells := 0, slots := 0, locals := 22 } (gP D (gT cA) z [.ref (ad 0), .int a1] (Wc z ad cA sMt sSource sTokens sReferenceWays sTagWays sCommentWays sOut) sz) (gQl D (gT cA) (va_A (Wc z ad cA sMt sSource sTokens sReferenceWays sTagWays sCommentWays sOut) sz) x (Wc z ad cA sMt sSource sTokens sReferenceWays sTagWays sCommentWays sOut)) 0 0 (va_A (Wc z ad cA sMt sSource sTokens sReferenceWays sTagWays sCommentWays sOut) sz) := by
  refine g_met (by decide) (Nat.le_of_ble_eq_true rfl) rfl ?_
  intro p e s m args below meth c F hr hlk
  have blk13 : ∀ (n : Nat) (v1 : Int32) (v2 : Int64) (v4 : Int64) (v6 : Int32), f_Mt_word_13 n v1 v2 v4 v6 sOut = some x → GW p l e { frames := 1, cells := 0, slots := 0, locals := 22 } s m args below meth c (gQl D (gT cA) (va_A (Wc z ad cA sMt sSource sTokens sReferenceWays sTagWays sCommentWays sOut) sz) x (Wc z ad cA sMt sSource sTokens sReferenceWays sTagWays sCommentWays sOut)) D (va_A (Wc z ad cA sMt sSource sTokens sReferenceWays sTagWays sCommentWays sOut) sz) 7 (Wc z ad cA sMt sSource sTokens sReferenceWays sTagWays sCommentWays sOut) 13 [(0, .ref (ad 0)), (1, .int v1), (2, .long v2), (4, .long v4), (6, .int v6)] [] := by
    intro n
    induction n with
    | zero => intro _ _ _ _ hf; cases hf
    | succ n ih =>
      intro v1 v2 v4 v6 hf
      rw [f_Mt_word_13] at hf
      refine g_iload F d_Mt_word_13 4 rfl ?_
      refine g_bipush F (v := 8) d_Mt_word_15 (by decide) ?_
      refine g_icmp_ge F (tgt := 49) d_Mt_word_17 (by decide) (fun h => ?_) (fun h => ?_)
      · rw [if_pos h] at hf
        refine g_lload F d_Mt_word_49 3 rfl ?_
        cases hf
        exact g_lret F hr hlk rfl rfl rfl d_Mt_word_51
      · rw [if_neg h] at hf
        refine g_lload F d_Mt_word_20 3 rfl ?_
        refine g_aload_n F d_Mt_word_22 0 rfl ?_
        refine g_get F (v := .ref (ad 8)) in_X12 0 rfl rfl 5 (by decide) mw_300 rfl d_Mt_word_23 ?_
        refine g_lload_n F d_Mt_word_26 2 rfl ?_
        refine g_iload F d_Mt_word_27 4 rfl ?_
        refine g_i2l F d_Mt_word_29 ?_
        refine g_ladd F d_Mt_word_30 ?_
        obtain ⟨x1, hx1, hf⟩ := g_bind hf
        refine g_cl F (r0 := x1) (ws' := (Wc z ad cA sMt sSource sTokens sReferenceWays sTagWays sCommentWays sOut)) (fun H locs ls hP hD hS hl => g_runV F (As := [.long (v2 + (v6 : Int32).toInt64)]) (n := 1) mw_1045 rfl rfl ⟨by decide, by decide⟩ rfl (by exact Nat.le_of_ble_eq_true rfl) mw_1042 mw_1043 mw_1044 mw_84 (by decide +kernel) d_Mt_word_31 hP hD hS hl (va_recv F.2.2.2.2.2.1 hP (ci := 8) rfl (q0 := 8) rfl) (c_Out_byteAt l D cA z ad sMt sSource sTokens sReferenceWays sTagWays sCommentWays sOut (v2 + (v6 : Int32).toInt64) hx1 H.size)) ?_
        refine g_bipush F (v := 8) d_Mt_word_34 (by decide) ?_
        refine g_iload F d_Mt_word_36 4 rfl ?_
        refine g_imul F d_Mt_word_38 ?_
        refine g_lshl F d_Mt_word_39 ?_
        refine g_lor F d_Mt_word_40 ?_
        refine g_lstore F (L' := [(4, .long (v4 ||| (x1 <<< (((8 * v6) : Int32).toInt64 &&& 63)))), (0, .ref (ad 0)), (1, .int v1), (2, .long v2), (6, .int v6)]) d_Mt_word_41 (by decide) rfl ?_
        refine g_iinc F (j := 4) (v := (v6 + 1)) (L' := [(6, .int (v6 + 1)), (4, .long (v4 ||| (x1 <<< (((8 * v6) : Int32).toInt64 &&& 63)))), (0, .ref (ad 0)), (1, .int v1), (2, .long v2)]) d_Mt_word_43 rfl rfl (by decide) rfl ?_
        refine g_goto F (tgt := 13) d_Mt_word_46 (by decide) ?_
        refine g_loc [2, 3, 4, 1, 0] rfl ?_
        exact ih v1 v2 (v4 ||| (x1 <<< (((8 * v6) : Int32).toInt64 &&& 63))) (v6 + 1) hf
  unfold f_Mt_word at hf
  refine g_ldc2 F (v := 8) mw_1041 d_Mt_word_0 ?_
  refine g_iload_n F d_Mt_word_3 1 rfl ?_
  refine g_i2l F d_Mt_word_4 ?_
  refine g_lmul F d_Mt_word_5 ?_
  refine g_lstore_n F (L' := [(2, .long (8 * (a1 : Int32).toInt64)), (0, .ref (ad 0)), (1, .int a1)]) d_Mt_word_6 rfl (by decide) rfl ?_
  refine g_lconst F (v := 0) d_Mt_word_7 (by decide) ?_
  refine g_lstore F (L' := [(4, .long 0), (2, .long (8 * (a1 : Int32).toInt64)), (0, .ref (ad 0)), (1, .int a1)]) d_Mt_word_8 (by decide) rfl ?_
  refine g_iconst F (v := 0) d_Mt_word_10 (by decide) ?_
  refine g_istore F (L' := [(6, .int 0), (4, .long 0), (2, .long (8 * (a1 : Int32).toInt64)), (0, .ref (ad 0)), (1, .int a1)]) d_Mt_word_11 (by decide) rfl ?_
  refine g_loc [3, 4, 2, 1, 0] rfl ?_
  exact blk13 FU a1 (8 * (a1 : Int32).toInt64) 0 0 hf
