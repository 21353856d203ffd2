set_option maxHeartbeats 4000000 in
set_option maxRecDepth 100000 in
theorem c_Tokens_endAttribute (l : Launch) (D : va_G) (cA : Nat → ClassId) (z : gZ) (ad : Nat → Nat) (sMt : SMt) (sSource : SSource) (sTokens : STokens) (sReferenceWays : SReferenceWays) (sTagWays : STagWays) (sCommentWays : SCommentWays) (sOut : SOut) {x : STokens} (hf : f_Tokens_endAttribute sTokens = some x) (sz : Nat) : Met l y_Tokens_endAttribute (.code y_Tokens_endAttribute b_Tokens_endAttribute 1 none :: lw_g) { frames := 0, cells := 0, slots := 0, locals := 0 } (gP D (gT cA) z [.ref (ad 2)] (Wc z ad cA sMt sSource sTokens sReferenceWays sTagWays sCommentWays sOut) sz) (gQv D (gT cA) (va_A (Wc z ad cA sMt sSource sTokens sReferenceWays sTagWays sCommentWays sOut) sz) (Wc z ad cA sMt sSource x sReferenceWays sTagWays sCommentWays sOut)) 0 0 (va_A (Wc z ad cA sMt sSource sTokens sReferenceWays sTagWays sCommentWays sOut) sz) := by
  refine g_met (by decide) (Nat.le_of_ble_eq_true rfl) rfl ?_
  intro p e s m args below meth c F hr hlk
  unfold f_Tokens_endAttribute at hf
  refine g_aload_n F d_Tokens_endAttribute_0 0 rfl ?_
  refine g_get F (v := .int (q_Tokens_inAttribute sTokens)) in_X9 2 rfl rfl 14 (by decide) mw_149 rfl d_Tokens_endAttribute_1 ?_
  refine g_if_eq F (tgt := 63) d_Tokens_endAttribute_4 (by decide) (fun h => ?_) (fun h => ?_)
  · rw [if_pos h] at hf
    refine g_aload_n F d_Tokens_endAttribute_63 0 rfl ?_
    refine g_iconst F (v := 0) d_Tokens_endAttribute_64 (by decide) ?_
    refine g_put F in_X9 2 rfl rfl 14 (by decide) tyX9 tyX9_ok nmX9 mw_149 rfl rfl rfl (Nat.le_of_ble_eq_true rfl) (ws' := (Wc z ad cA sMt sSource (u_Tokens_inAttribute sTokens 0) sReferenceWays sTagWays sCommentWays sOut)) rfl d_Tokens_endAttribute_65 ?_
    cases hf
    exact g_vret F hr hlk rfl rfl d_Tokens_endAttribute_68
  · rw [if_neg h] at hf
    refine g_aload_n F d_Tokens_endAttribute_7 0 rfl ?_
    refine g_get F (v := .int (q_Tokens_count sTokens)) in_X9 2 rfl rfl 8 (by decide) mw_143 rfl d_Tokens_endAttribute_8 ?_
    refine g_sipush F (v := 400) d_Tokens_endAttribute_11 (by decide) ?_
    refine g_icmp_ge F (tgt := 63) d_Tokens_endAttribute_14 (by decide) (fun h => ?_) (fun h => ?_)
    · rw [if_pos h] at hf
      refine g_aload_n F d_Tokens_endAttribute_63 0 rfl ?_
      refine g_iconst F (v := 0) d_Tokens_endAttribute_64 (by decide) ?_
      refine g_put F in_X9 2 rfl rfl 14 (by decide) tyX9 tyX9_ok nmX9 mw_149 rfl rfl rfl (Nat.le_of_ble_eq_true rfl) (ws' := (Wc z ad cA sMt sSource (u_Tokens_inAttribute sTokens 0) sReferenceWays sTagWays sCommentWays sOut)) rfl d_Tokens_endAttribute_65 ?_
      cases hf
      exact g_vret F hr hlk rfl rfl d_Tokens_endAttribute_68
    · rw [if_neg h] at hf
      refine g_aload_n F d_Tokens_endAttribute_17 0 rfl ?_
      refine g_get F (v := .int (q_Tokens_attributesUsed sTokens)) in_X9 2 rfl rfl 13 (by decide) mw_148 rfl d_Tokens_endAttribute_18 ?_
      refine g_sipush F (v := 400) d_Tokens_endAttribute_21 (by decide) ?_
      refine g_icmp_ge F (tgt := 63) d_Tokens_endAttribute_24 (by decide) (fun h => ?_) (fun h => ?_)
      · rw [if_pos h] at hf
        refine g_aload_n F d_Tokens_endAttribute_63 0 rfl ?_
        refine g_iconst F (v := 0) d_Tokens_endAttribute_64 (by decide) ?_
        refine g_put F in_X9 2 rfl rfl 14 (by decide) tyX9 tyX9_ok nmX9 mw_149 rfl rfl rfl (Nat.le_of_ble_eq_true rfl) (ws' := (Wc z ad cA sMt sSource (u_Tokens_inAttribute sTokens 0) sReferenceWays sTagWays sCommentWays sOut)) rfl d_Tokens_endAttribute_65 ?_
        cases hf
        exact g_vret F hr hlk rfl rfl d_Tokens_endAttribute_68
      · rw [if_neg h] at hf
        refine g_aload_n F d_Tokens_endAttribute_27 0 rfl ?_
        refine g_get F (v := .ref (ad 22)) in_X9 2 rfl rfl 12 (by decide) mw_147 rfl d_Tokens_endAttribute_28 ?_
        refine g_aload_n F d_Tokens_endAttribute_31 0 rfl ?_
        refine g_get F (v := .int (q_Tokens_attributesUsed sTokens)) in_X9 2 rfl rfl 13 (by decide) mw_148 rfl d_Tokens_endAttribute_32 ?_
        refine g_aload_n F d_Tokens_endAttribute_35 0 rfl ?_
        refine g_get F (v := .int (q_Tokens_used sTokens)) in_X9 2 rfl rfl 1 (by decide) mw_136 rfl d_Tokens_endAttribute_36 ?_
        obtain ⟨k1, hf⟩ := g_chk hf
        refine g_iast F (f := (q_Tokens_valueEnds sTokens)) 22 0 rfl rfl k1 (ws' := (Wc z ad cA sMt sSource (u_Tokens_valueEnds sTokens (upd (q_Tokens_valueEnds sTokens) ((q_Tokens_attributesUsed sTokens) : Int32).toNatClampNeg (q_Tokens_used sTokens))) sReferenceWays sTagWays sCommentWays sOut)) rfl d_Tokens_endAttribute_39 ?_
        refine g_aload_n F d_Tokens_endAttribute_40 0 rfl ?_
        refine g_dup F d_Tokens_endAttribute_41 rfl ?_
        refine g_get F (v := .int (q_Tokens_attributesUsed sTokens)) in_X9 2 rfl rfl 13 (by decide) mw_148 rfl d_Tokens_endAttribute_42 ?_
        refine g_iconst F (v := 1) d_Tokens_endAttribute_45 (by decide) ?_
        refine g_iadd F d_Tokens_endAttribute_46 ?_
        refine g_put F in_X9 2 rfl rfl 13 (by decide) tyX9 tyX9_ok nmX9 mw_148 rfl rfl rfl (Nat.le_of_ble_eq_true rfl) (ws' := (Wc z ad cA sMt sSource (u_Tokens_attributesUsed (u_Tokens_valueEnds sTokens (upd (q_Tokens_valueEnds sTokens) ((q_Tokens_attributesUsed sTokens) : Int32).toNatClampNeg (q_Tokens_used sTokens))) ((q_Tokens_attributesUsed sTokens) + 1)) sReferenceWays sTagWays sCommentWays sOut)) rfl d_Tokens_endAttribute_47 ?_
        refine g_aload_n F d_Tokens_endAttribute_50 0 rfl ?_
        refine g_get F (v := .ref (ad 19)) in_X9 2 rfl rfl 7 (by decide) mw_142 rfl d_Tokens_endAttribute_51 ?_
        refine g_aload_n F d_Tokens_endAttribute_54 0 rfl ?_
        refine g_get F (v := .int (q_Tokens_count sTokens)) in_X9 2 rfl rfl 8 (by decide) mw_143 rfl d_Tokens_endAttribute_55 ?_
        refine g_dup2 F d_Tokens_endAttribute_58 rfl rfl ?_
        obtain ⟨k2, hf⟩ := g_chk hf
        refine g_iald F (f := (q_Tokens_attributeCounts sTokens)) 19 0 rfl rfl k2 d_Tokens_endAttribute_59 ?_
        refine g_iconst F (v := 1) d_Tokens_endAttribute_60 (by decide) ?_
        refine g_iadd F d_Tokens_endAttribute_61 ?_
        obtain ⟨k3, hf⟩ := g_chk hf
        refine g_iast F (f := (q_Tokens_attributeCounts sTokens)) 19 0 rfl rfl k3 (ws' := (Wc z ad cA sMt sSource (u_Tokens_attributesUsed (u_Tokens_valueEnds (u_Tokens_attributeCounts sTokens (upd (q_Tokens_attributeCounts sTokens) ((q_Tokens_count sTokens) : Int32).toNatClampNeg (((q_Tokens_attributeCounts sTokens) ((q_Tokens_count sTokens) : Int32).toNatClampNeg) + 1))) (upd (q_Tokens_valueEnds sTokens) ((q_Tokens_attributesUsed sTokens) : Int32).toNatClampNeg (q_Tokens_used sTokens))) ((q_Tokens_attributesUsed sTokens) + 1)) sReferenceWays sTagWays sCommentWays sOut)) rfl d_Tokens_endAttribute_62 ?_
        refine g_aload_n F d_Tokens_endAttribute_63 0 rfl ?_
        refine g_iconst F (v := 0) d_Tokens_endAttribute_64 (by decide) ?_
        refine g_put F in_X9 2 rfl rfl 14 (by decide) tyX9 tyX9_ok nmX9 mw_149 rfl rfl rfl (Nat.le_of_ble_eq_true rfl) (ws' := (Wc z ad cA sMt sSource (u_Tokens_inAttribute (u_Tokens_attributesUsed (u_Tokens_valueEnds (u_Tokens_attributeCounts sTokens (upd (q_Tokens_attributeCounts sTokens) ((q_Tokens_count sTokens) : Int32).toNatClampNeg (((q_Tokens_attributeCounts sTokens) ((q_Tokens_count sTokens) : Int32).toNatClampNeg) + 1))) (upd (q_Tokens_valueEnds sTokens) ((q_Tokens_attributesUsed sTokens) : Int32).toNatClampNeg (q_Tokens_used sTokens))) ((q_Tokens_attributesUsed sTokens) + 1)) 0) sReferenceWays sTagWays sCommentWays sOut)) rfl d_Tokens_endAttribute_65 ?_
        cases hf
        exact g_vret F hr hlk rfl rfl d_Tokens_endAttribute_68
set_option maxHeartbeats 4000000 in
set_option maxRecDepth 100000 in
theorem c_Tokens_isStop (l : Launch) (D : va_G) (cA : Nat → ClassId) (z : gZ) (ad : Nat → Nat) (sMt : SMt) (sSource : SSource) (sTokens : STokens) (sReferenceWays : SReferenceWays) (sTagWays : STagWays) (sCommentWays : SCommentWays) (sOut : SOut) {x : Int32} (hf : f_Tokens_isStop sTokens = some x) (sz : Nat) : Met l y_Tokens_isStop (.code y_Tokens_isStop b_Tokens_isStop 1 (some .boolean) :: lw_g) { frames := 0, cells := 0, slots := 0, locals := 0 } (gP D (gT cA) z [.ref (ad 2)] (Wc z ad cA sMt sSource sTokens sReferenceWays sTagWays sCommentWays sOut) sz) (gQi D (gT cA) (va_A (Wc z ad cA sMt sSource sTokens sReferenceWays sTagWays sCommentWays sOut) sz) x (Wc z ad cA sMt sSource sTokens sReferenceWays sTagWays sCommentWays sOut)) 0 0 (va_A (Wc z ad cA sMt sSource sTokens sReferenceWays sTagWays sCommentWays sOut) sz) := by
  refine g_met (by decide) (Nat.le_of_ble_eq_true rfl) rfl ?_
  intro p e s m args below meth c F hr hlk
  unfold f_Tokens_isStop at hf
  refine g_aload_n F d_Tokens_isStop_0 0 rfl ?_
  refine g_get F (v := .int (q_Tokens_count sTokens)) in_X9 2 rfl rfl 8 (by decide) mw_143 rfl d_Tokens_isStop_1 ?_
  refine g_sipush F (v := 400) d_Tokens_isStop_4 (by decide) ?_
  refine g_icmp_ge F (tgt := 27) d_Tokens_isStop_7 (by decide) (fun h => ?_) (fun h => ?_)
  · rw [if_pos h] at hf
    refine g_iconst F (v := 0) d_Tokens_isStop_27 (by decide) ?_
    cases hf
    exact g_zret F hr rfl hlk rfl rfl rfl d_Tokens_isStop_28
  · rw [if_neg h] at hf
    refine g_aload_n F d_Tokens_isStop_10 0 rfl ?_
    refine g_get F (v := .ref (ad 14)) in_X9 2 rfl rfl 2 (by decide) mw_137 rfl d_Tokens_isStop_11 ?_
    refine g_aload_n F d_Tokens_isStop_14 0 rfl ?_
    refine g_get F (v := .int (q_Tokens_count sTokens)) in_X9 2 rfl rfl 8 (by decide) mw_143 rfl d_Tokens_isStop_15 ?_
    obtain ⟨k1, hf⟩ := g_chk hf
    refine g_iald F (f := (q_Tokens_kinds sTokens)) 14 0 rfl rfl k1 d_Tokens_isStop_18 ?_
    refine g_iconst F (v := 2) d_Tokens_isStop_19 (by decide) ?_
    refine g_icmp_ne F (tgt := 27) d_Tokens_isStop_20 (by decide) (fun h => ?_) (fun h => ?_)
    · rw [if_neg h] at hf
      refine g_iconst F (v := 0) d_Tokens_isStop_27 (by decide) ?_
      cases hf
      exact g_zret F hr rfl hlk rfl rfl rfl d_Tokens_isStop_28
    · rw [if_pos h] at hf
      refine g_iconst F (v := 1) d_Tokens_isStop_23 (by decide) ?_
      refine g_goto F (tgt := 28) d_Tokens_isStop_24 (by decide) ?_
      cases hf
      exact g_zret F hr rfl hlk rfl rfl rfl d_Tokens_isStop_28
set_option maxHeartbeats 4000000 in
set_option maxRecDepth 100000 in
theorem c_Tokens_hasAttributes (l : Launch) (D : va_G) (cA : Nat → ClassId) (z : gZ) (ad : Nat → Nat) (sMt : SMt) (sSource : SSource) (sTokens : STokens) (sReferenceWays : SReferenceWays) (sTagWays : STagWays) (sCommentWays : SCommentWays) (sOut : SOut) {x : Int32} (hf : f_Tokens_hasAttributes sTokens = some x) (sz : Nat) : Met l y_Tokens_hasAttributes (.code y_Tokens_hasAttributes b_Tokens_hasAttributes 1 (some .boolean) :: lw_g) { frames := 0, cells := 0, slots := 0, locals := 0 } (gP D (gT cA) z [.ref (ad 2)] (Wc z ad cA sMt sSource sTokens sReferenceWays sTagWays sCommentWays sOut) sz) (gQi D (gT cA) (va_A (Wc z ad cA sMt sSource sTokens sReferenceWays sTagWays sCommentWays sOut) sz) x (Wc z ad cA sMt sSource sTokens sReferenceWays sTagWays sCommentWays sOut)) 0 0 (va_A (Wc z ad cA sMt sSource sTokens sReferenceWays sTagWays sCommentWays sOut) sz) := by
  refine g_met (by decide) (Nat.le_of_ble_eq_true rfl) rfl ?_
  intro p e s m args below meth c F hr hlk
  unfold f_Tokens_hasAttributes at hf
  refine g_aload_n F d_Tokens_hasAttributes_0 0 rfl ?_
  refine g_get F (v := .int (q_Tokens_count sTokens)) in_X9 2 rfl rfl 8 (by decide) mw_143 rfl d_Tokens_hasAttributes_1 ?_
  refine g_sipush F (v := 400) d_Tokens_hasAttributes_4 (by decide) ?_
  refine g_icmp_ge F (tgt := 26) d_Tokens_hasAttributes_7 (by decide) (fun h => ?_) (fun h => ?_)
  · rw [if_pos h] at hf
    refine g_iconst F (v := 0) d_Tokens_hasAttributes_26 (by decide) ?_
    cases hf
    exact g_zret F hr rfl hlk rfl rfl rfl d_Tokens_hasAttributes_27
  · rw [if_neg h] at hf
    refine g_aload_n F d_Tokens_hasAttributes_10 0 rfl ?_
    refine g_get F (v := .ref (ad 19)) in_X9 2 rfl rfl 7 (by decide) mw_142 rfl d_Tokens_hasAttributes_11 ?_
    refine g_aload_n F d_Tokens_hasAttributes_14 0 rfl ?_
    refine g_get F (v := .int (q_Tokens_count sTokens)) in_X9 2 rfl rfl 8 (by decide) mw_143 rfl d_Tokens_hasAttributes_15 ?_
    obtain ⟨k1, hf⟩ := g_chk hf
    refine g_iald F (f := (q_Tokens_attributeCounts sTokens)) 19 0 rfl rfl k1 d_Tokens_hasAttributes_18 ?_
    refine g_if_le F (tgt := 26) d_Tokens_hasAttributes_19 (by decide) (fun h => ?_) (fun h => ?_)
    · rw [if_pos h] at hf
      refine g_iconst F (v := 0) d_Tokens_hasAttributes_26 (by decide) ?_
      cases hf
      exact g_zret F hr rfl hlk rfl rfl rfl d_Tokens_hasAttributes_27
    · rw [if_neg h] at hf
      refine g_iconst F (v := 1) d_Tokens_hasAttributes_22 (by decide) ?_
      refine g_goto F (tgt := 27) d_Tokens_hasAttributes_23 (by decide) ?_
      cases hf
      exact g_zret F hr rfl hlk rfl rfl rfl d_Tokens_hasAttributes_27
set_option maxHeartbeats 4000000 in
set_option maxRecDepth 100000 in
theorem c_Tokens_isMarked (l : Launch) (D : va_G) (cA : Nat → ClassId) (z : gZ) (ad : Nat → Nat) (sMt : SMt) (sSource : SSource) (sTokens : STokens) (sReferenceWays : SReferenceWays) (sTagWays : STagWays) (sCommentWays : SCommentWays) (sOut : SOut) {x : Int32} (hf : f_Tokens_isMarked sTokens = some x) (sz : Nat) : Met l y_Tokens_isMarked (.code y_Tokens_isMarked b_Tokens_isMarked 1 (some .boolean) :: lw_g) { frames := 0, cells := 0, slots := 0, locals := 0 } (gP D (gT cA) z [.ref (ad 2)] (Wc z ad cA sMt sSource sTokens sReferenceWays sTagWays sCommentWays sOut) sz) (gQi D (gT cA) (va_A (Wc z ad cA sMt sSource sTokens sReferenceWays sTagWays sCommentWays sOut) sz) x (Wc z ad cA sMt sSource sTokens sReferenceWays sTagWays sCommentWays sOut)) 0 0 (va_A (Wc z ad cA sMt sSource sTokens sReferenceWays sTagWays sCommentWays sOut) sz) := by
  refine g_met (by decide) (Nat.le_of_ble_eq_true rfl) rfl ?_
  intro p e s m args below meth c F hr hlk
  unfold f_Tokens_isMarked at hf
  refine g_aload_n F d_Tokens_isMarked_0 0 rfl ?_
  refine g_get F (v := .int (q_Tokens_count sTokens)) in_X9 2 rfl rfl 8 (by decide) mw_143 rfl d_Tokens_isMarked_1 ?_
  refine g_sipush F (v := 400) d_Tokens_isMarked_4 (by decide) ?_
  refine g_icmp_ge F (tgt := 27) d_Tokens_isMarked_7 (by decide) (fun h => ?_) (fun h => ?_)
  · rw [if_pos h] at hf
    refine g_iconst F (v := 0) d_Tokens_isMarked_27 (by decide) ?_
    cases hf
    exact g_zret F hr rfl hlk rfl rfl rfl d_Tokens_isMarked_28
  · rw [if_neg h] at hf
    refine g_aload_n F d_Tokens_isMarked_10 0 rfl ?_
    refine g_get F (v := .ref (ad 17)) in_X9 2 rfl rfl 5 (by decide) mw_140 rfl d_Tokens_isMarked_11 ?_
    refine g_aload_n F d_Tokens_isMarked_14 0 rfl ?_
    refine g_get F (v := .int (q_Tokens_count sTokens)) in_X9 2 rfl rfl 8 (by decide) mw_143 rfl d_Tokens_isMarked_15 ?_
    obtain ⟨k1, hf⟩ := g_chk hf
    refine g_iald F (f := (q_Tokens_marks sTokens)) 17 0 rfl rfl k1 d_Tokens_isMarked_18 ?_
    refine g_iconst F (v := 1) d_Tokens_isMarked_19 (by decide) ?_
    refine g_icmp_ne F (tgt := 27) d_Tokens_isMarked_20 (by decide) (fun h => ?_) (fun h => ?_)
    · rw [if_neg h] at hf
      refine g_iconst F (v := 0) d_Tokens_isMarked_27 (by decide) ?_
      cases hf
      exact g_zret F hr rfl hlk rfl rfl rfl d_Tokens_isMarked_28
    · rw [if_pos h] at hf
      refine g_iconst F (v := 1) d_Tokens_isMarked_23 (by decide) ?_
      refine g_goto F (tgt := 28) d_Tokens_isMarked_24 (by decide) ?_
      cases hf
      exact g_zret F hr rfl hlk rfl rfl rfl d_Tokens_isMarked_28
set_option maxHeartbeats 4000000 in
set_option maxRecDepth 100000 in
theorem c_Tokens_dropAttributes (l : Launch) (D : va_G) (cA : Nat → ClassId) (z : gZ) (ad : Nat → Nat) (sMt : SMt) (sSource : SSource) (sTokens : STokens) (sReferenceWays : SReferenceWays) (sTagWays : STagWays) (sCommentWays : SCommentWays) (sOut : SOut) {x : STokens} (hf : f_Tokens_dropAttributes sTokens = some x) (sz : Nat) : Met l y_Tokens_dropAttributes (.code y_Tokens_dropAttributes b_Tokens_dropAttributes 1 none :: lw_g) { frames := 0, cells := 0, slots := 0, locals := 0 } (gP D (gT cA) z [.ref (ad 2)] (Wc z ad cA sMt sSource sTokens sReferenceWays sTagWays sCommentWays sOut) sz) (gQv D (gT cA) (va_A (Wc z ad cA sMt sSource sTokens sReferenceWays sTagWays sCommentWays sOut) sz) (Wc z ad cA sMt sSource x sReferenceWays sTagWays sCommentWays sOut)) 0 0 (va_A (Wc z ad cA sMt sSource sTokens sReferenceWays sTagWays sCommentWays sOut) sz) := by
  refine g_met (by decide) (Nat.le_of_ble_eq_true rfl) rfl ?_
  intro p e s m args below meth c F hr hlk
  unfold f_Tokens_dropAttributes at hf
  refine g_aload_n F d_Tokens_dropAttributes_0 0 rfl ?_
  refine g_get F (v := .int (q_Tokens_count sTokens)) in_X9 2 rfl rfl 8 (by decide) mw_143 rfl d_Tokens_dropAttributes_1 ?_
  refine g_sipush F (v := 400) d_Tokens_dropAttributes_4 (by decide) ?_
  refine g_icmp_ge F (tgt := 20) d_Tokens_dropAttributes_7 (by decide) (fun h => ?_) (fun h => ?_)
  · rw [if_pos h] at hf
    cases hf
    exact g_vret F hr hlk rfl rfl d_Tokens_dropAttributes_20
  · rw [if_neg h] at hf
    refine g_aload_n F d_Tokens_dropAttributes_10 0 rfl ?_
    refine g_get F (v := .ref (ad 19)) in_X9 2 rfl rfl 7 (by decide) mw_142 rfl d_Tokens_dropAttributes_11 ?_
    refine g_aload_n F d_Tokens_dropAttributes_14 0 rfl ?_
    refine g_get F (v := .int (q_Tokens_count sTokens)) in_X9 2 rfl rfl 8 (by decide) mw_143 rfl d_Tokens_dropAttributes_15 ?_
    refine g_iconst F (v := 0) d_Tokens_dropAttributes_18 (by decide) ?_
    obtain ⟨k1, hf⟩ := g_chk hf
    refine g_iast F (f := (q_Tokens_attributeCounts sTokens)) 19 0 rfl rfl k1 (ws' := (Wc z ad cA sMt sSource (u_Tokens_attributeCounts sTokens (upd (q_Tokens_attributeCounts sTokens) ((q_Tokens_count sTokens) : Int32).toNatClampNeg 0)) sReferenceWays sTagWays sCommentWays sOut)) rfl d_Tokens_dropAttributes_19 ?_
    cases hf
    exact g_vret F hr hlk rfl rfl d_Tokens_dropAttributes_20
set_option maxHeartbeats 4000000 in
set_option maxRecDepth 100000 in
theorem c_Tokens_setMark (l : Launch) (D : va_G) (cA : Nat → ClassId) (z : gZ) (ad : Nat → Nat) (sMt : SMt) (sSource : SSource) (sTokens : STokens) (sReferenceWays : SReferenceWays) (sTagWays : STagWays) (sCommentWays : SCommentWays) (sOut : SOut) (a1 : Int32) {x : STokens} (hf : f_Tokens_setMark a1 sTokens = some x) (sz : Nat) : Met l y_Tokens_setMark (.code y_Tokens_setMark b_Tokens_setMark 2 none :: lw_g) { frames := 0, cells := 0, slots := 0, locals := 0 } (gP D (gT cA) z [.ref (ad 2), .int a1] (Wc z ad cA sMt sSource sTokens sReferenceWays sTagWays sCommentWays sOut) sz) (gQv D (gT cA) (va_A (Wc z ad cA sMt sSource sTokens sReferenceWays sTagWays sCommentWays sOut) sz) (Wc z ad cA sMt sSource x sReferenceWays sTagWays sCommentWays sOut)) 0 0 (va_A (Wc z ad cA sMt sSource sTokens sReferenceWays sTagWays sCommentWays sOut) sz) := by
  refine g_met (by decide) (Nat.le_of_ble_eq_true rfl) rfl ?_
  intro p e s m args below meth c F hr hlk
  unfold f_Tokens_setMark at hf
  refine g_aload_n F d_Tokens_setMark_0 0 rfl ?_
  refine g_get F (v := .int (q_Tokens_count sTokens)) in_X9 2 rfl rfl 8 (by decide) mw_143 rfl d_Tokens_setMark_1 ?_
  refine g_sipush F (v := 400) d_Tokens_setMark_4 (by decide) ?_
  refine g_icmp_ge F (tgt := 20) d_Tokens_setMark_7 (by decide) (fun h => ?_) (fun h => ?_)
  · rw [if_pos h] at hf
    cases hf
    exact g_vret F hr hlk rfl rfl d_Tokens_setMark_20
  · rw [if_neg h] at hf
    refine g_aload_n F d_Tokens_setMark_10 0 rfl ?_
    refine g_get F (v := .ref (ad 17)) in_X9 2 rfl rfl 5 (by decide) mw_140 rfl d_Tokens_setMark_11 ?_
    refine g_aload_n F d_Tokens_setMark_14 0 rfl ?_
    refine g_get F (v := .int (q_Tokens_count sTokens)) in_X9 2 rfl rfl 8 (by decide) mw_143 rfl d_Tokens_setMark_15 ?_
    refine g_iload_n F d_Tokens_setMark_18 1 rfl ?_
    obtain ⟨k1, hf⟩ := g_chk hf
    refine g_iast F (f := (q_Tokens_marks sTokens)) 17 0 rfl rfl k1 (ws' := (Wc z ad cA sMt sSource (u_Tokens_marks sTokens (upd (q_Tokens_marks sTokens) ((q_Tokens_count sTokens) : Int32).toNatClampNeg a1)) sReferenceWays sTagWays sCommentWays sOut)) rfl d_Tokens_setMark_19 ?_
    cases hf
    exact g_vret F hr hlk rfl rfl d_Tokens_setMark_20
set_option maxHeartbeats 4000000 in
set_option maxRecDepth 100000 in
theorem c_Tokens_tell (l : Launch) (D : va_G) (cA : Nat → ClassId) (z : gZ) (ad : Nat → Nat) (sMt : SMt) (sSource : SSource) (sTokens : STokens) (sReferenceWays : SReferenceWays) (sTagWays : STagWays) (sCommentWays : SCommentWays) (sOut : SOut) {x : STokens} (hf : f_Tokens_tell sTokens = x) (sz : Nat) : Met l y_Tokens_tell (.code y_Tokens_tell b_Tokens_tell 1 none :: lw_g) { frames := 0, cells := 0, slots := 0, locals := 0 } (gP D (gT cA) z [.ref (ad 2)] (Wc z ad cA sMt sSource sTokens sReferenceWays sTagWays sCommentWays sOut) sz) (gQv D (gT cA) (va_A (Wc z ad cA sMt sSource sTokens sReferenceWays sTagWays sCommentWays sOut) sz) (Wc z ad cA sMt sSource x sReferenceWays sTagWays sCommentWays sOut)) 0 0 (va_A (Wc z ad cA sMt sSource sTokens sReferenceWays sTagWays sCommentWays sOut) sz) := by
  refine g_met (by decide) (Nat.le_of_ble_eq_true rfl) rfl ?_
  intro p e s m args below meth c F hr hlk
  unfold f_Tokens_tell at hf
  refine g_aload_n F d_Tokens_tell_0 0 rfl ?_
  refine g_get F (v := .int (q_Tokens_count sTokens)) in_X9 2 rfl rfl 8 (by decide) mw_143 rfl d_Tokens_tell_1 ?_
  refine g_sipush F (v := 400) d_Tokens_tell_4 (by decide) ?_
  refine g_icmp_ge F (tgt := 20) d_Tokens_tell_7 (by decide) (fun h => ?_) (fun h => ?_)
  · rw [if_pos h] at hf
    subst hf
    exact g_vret F hr hlk rfl rfl d_Tokens_tell_20
  · rw [if_neg h] at hf
    refine g_aload_n F d_Tokens_tell_10 0 rfl ?_
    refine g_dup F d_Tokens_tell_11 rfl ?_
    refine g_get F (v := .int (q_Tokens_count sTokens)) in_X9 2 rfl rfl 8 (by decide) mw_143 rfl d_Tokens_tell_12 ?_
    refine g_iconst F (v := 1) d_Tokens_tell_15 (by decide) ?_
    refine g_iadd F d_Tokens_tell_16 ?_
    refine g_put F in_X9 2 rfl rfl 8 (by decide) tyX9 tyX9_ok nmX9 mw_143 rfl rfl rfl (Nat.le_of_ble_eq_true rfl) (ws' := (Wc z ad cA sMt sSource (u_Tokens_count sTokens ((q_Tokens_count sTokens) + 1)) sReferenceWays sTagWays sCommentWays sOut)) rfl d_Tokens_tell_17 ?_
    subst hf
    exact g_vret F hr hlk rfl rfl d_Tokens_tell_20
set_option maxHeartbeats 4000000 in
set_option maxRecDepth 100000 in
theorem c_TagWays_tagDone (l : Launch) (D : va_G) (cA : Nat → ClassId) (z : gZ) (ad : Nat → Nat) (sMt : SMt) (sSource : SSource) (sTokens : STokens) (sReferenceWays : SReferenceWays) (sTagWays : STagWays) (sCommentWays : SCommentWays) (sOut : SOut) {x : Nat × SSource × STokens} (hf : f_TagWays_tagDone sSource sTokens = some x) (sz : Nat) : Met l y_TagWays_tagDone (.code y_TagWays_tagDone b_TagWays_tagDone 1 (some (.object "MarkupTokens$Way")) :: lw_g) { frames := 1, cells := 0, slots := 0, locals := 21 } (gP D (gT cA) z [.ref (ad 4)] (Wc z ad cA sMt sSource sTokens sReferenceWays sTagWays sCommentWays sOut) sz) (gQq D (gT cA) (va_A (Wc z ad cA sMt sSource sTokens sReferenceWays sTagWays sCommentWays sOut) sz) (some (z.1 x.1)) (Wc z ad cA sMt x.2.1 x.2.2 sReferenceWays sTagWays sCommentWays sOut)) 0 0 (va_A (Wc z ad cA sMt sSource sTokens sReferenceWays sTagWays sCommentWays sOut) sz) := by
  refine g_met (by decide) (Nat.le_of_ble_eq_true rfl) rfl ?_
  intro p e s m args below meth c F hr hlk
  unfold f_TagWays_tagDone at hf
  refine g_aload_n F d_TagWays_tagDone_0 0 rfl ?_
  refine g_getS F (v := .ref (ad 2)) in_X8 4 rfl rfl 1 (by decide) mw_217 mw_218 rfl d_TagWays_tagDone_1 ?_
  obtain ⟨x1, hx1, hf⟩ := g_bind hf
  refine g_cv F (ws' := (Wc z ad cA sMt sSource x1 sReferenceWays sTagWays sCommentWays sOut)) (fun H locs ls hP hD hS hl => g_runV F (As := []) (n := 0) mw_617 rfl rfl ⟨by decide, by decide⟩ rfl (by exact Nat.le_of_ble_eq_true rfl) mw_614 mw_615 mw_616 mw_75 (by decide +kernel) d_TagWays_tagDone_4 hP hD hS hl (va_recv F.2.2.2.2.2.1 hP (ci := 2) rfl (q0 := 2) rfl) (c_Tokens_endAttribute l D cA z ad sMt sSource sTokens sReferenceWays sTagWays sCommentWays sOut hx1 H.size)) ?_
  refine g_aload_n F d_TagWays_tagDone_7 0 rfl ?_
  refine g_getS F (v := .ref (ad 2)) in_X8 4 rfl rfl 1 (by decide) mw_217 mw_218 rfl d_TagWays_tagDone_8 ?_
  obtain ⟨x2, hx2, hf⟩ := g_bind hf
  refine g_ci F (r0 := x2) (ws' := (Wc z ad cA sMt sSource x1 sReferenceWays sTagWays sCommentWays sOut)) (fun H locs ls hP hD hS hl => g_runV F (As := []) (n := 0) mw_621 rfl rfl ⟨by decide, by decide⟩ rfl (by exact Nat.le_of_ble_eq_true rfl) mw_618 mw_619 mw_620 mw_75 (by decide +kernel) d_TagWays_tagDone_11 hP hD hS hl (va_recv F.2.2.2.2.2.1 hP (ci := 2) rfl (q0 := 2) rfl) (c_Tokens_isStop l D cA z ad sMt sSource x1 sReferenceWays sTagWays sCommentWays sOut hx2 H.size)) ?_
  refine g_if_eq F (tgt := 70) d_TagWays_tagDone_14 (by decide) (fun h => ?_) (fun h => ?_)
  · rw [if_pos h] at hf
    refine g_aload_n F d_TagWays_tagDone_70 0 rfl ?_
    refine g_getS F (v := .ref (ad 2)) in_X8 4 rfl rfl 1 (by decide) mw_217 mw_218 rfl d_TagWays_tagDone_71 ?_
    refine g_cv F (ws' := (Wc z ad cA sMt sSource (f_Tokens_tell x1) sReferenceWays sTagWays sCommentWays sOut)) (fun H locs ls hP hD hS hl => g_runV F (As := []) (n := 0) mw_642 rfl rfl ⟨by decide, by decide⟩ rfl (by exact Nat.le_of_ble_eq_true rfl) mw_639 mw_640 mw_641 mw_75 (by decide +kernel) d_TagWays_tagDone_74 hP hD hS hl (va_recv F.2.2.2.2.2.1 hP (ci := 2) rfl (q0 := 2) rfl) (c_Tokens_tell l D cA z ad sMt sSource x1 sReferenceWays sTagWays sCommentWays sOut rfl H.size)) ?_
    refine g_aload_n F d_TagWays_tagDone_77 0 rfl ?_
    refine g_getS F (v := .ref (ad 1)) in_X8 4 rfl rfl 0 (by decide) mw_208 mw_209 rfl d_TagWays_tagDone_78 ?_
    refine g_way F 0 (by decide) mw_643 d_TagWays_tagDone_81 ?_
    refine g_cw F (r0 := z.1 ((f_Source_then 0 sSource).1)) (ws' := (Wc z ad cA sMt ((f_Source_then 0 sSource).2) (f_Tokens_tell x1) sReferenceWays sTagWays sCommentWays sOut)) (fun H locs ls hP hD hS hl => g_runV F (As := [.ref (z.1 0)]) (n := 1) mw_401 rfl rfl ⟨by decide, by decide⟩ rfl (by exact Nat.le_of_ble_eq_true rfl) mw_609 mw_399 mw_400 mw_74 (by decide +kernel) d_TagWays_tagDone_84 hP hD hS hl (va_recv F.2.2.2.2.2.1 hP (ci := 1) rfl (q0 := 1) rfl) (c_Source_then l D cA z ad sMt sSource (f_Tokens_tell x1) sReferenceWays sTagWays sCommentWays sOut 0 rfl H.size)) ?_
    cases hf
    exact g_aret F hr (Or.inl ⟨_, rfl⟩) hlk rfl rfl rfl d_TagWays_tagDone_87
  · rw [if_neg h] at hf
    refine g_aload_n F d_TagWays_tagDone_17 0 rfl ?_
    refine g_getS F (v := .ref (ad 2)) in_X8 4 rfl rfl 1 (by decide) mw_217 mw_218 rfl d_TagWays_tagDone_18 ?_
    obtain ⟨x3, hx3, hf⟩ := g_bind hf
    refine g_ci F (r0 := x3) (ws' := (Wc z ad cA sMt sSource x1 sReferenceWays sTagWays sCommentWays sOut)) (fun H locs ls hP hD hS hl => g_runV F (As := []) (n := 0) mw_625 rfl rfl ⟨by decide, by decide⟩ rfl (by exact Nat.le_of_ble_eq_true rfl) mw_622 mw_623 mw_624 mw_75 (by decide +kernel) d_TagWays_tagDone_21 hP hD hS hl (va_recv F.2.2.2.2.2.1 hP (ci := 2) rfl (q0 := 2) rfl) (c_Tokens_hasAttributes l D cA z ad sMt sSource x1 sReferenceWays sTagWays sCommentWays sOut hx3 H.size)) ?_
    refine g_if_eq F (tgt := 36) d_TagWays_tagDone_24 (by decide) (fun h => ?_) (fun h => ?_)
    · rw [if_pos h] at hf
      refine g_aload_n F d_TagWays_tagDone_36 0 rfl ?_
      refine g_getS F (v := .ref (ad 2)) in_X8 4 rfl rfl 1 (by decide) mw_217 mw_218 rfl d_TagWays_tagDone_37 ?_
      obtain ⟨x4, hx4, hf⟩ := g_bind hf
      refine g_ci F (r0 := x4) (ws' := (Wc z ad cA sMt sSource x1 sReferenceWays sTagWays sCommentWays sOut)) (fun H locs ls hP hD hS hl => g_runV F (As := []) (n := 0) mw_630 rfl rfl ⟨by decide, by decide⟩ rfl (by exact Nat.le_of_ble_eq_true rfl) mw_627 mw_628 mw_629 mw_75 (by decide +kernel) d_TagWays_tagDone_40 hP hD hS hl (va_recv F.2.2.2.2.2.1 hP (ci := 2) rfl (q0 := 2) rfl) (c_Tokens_isMarked l D cA z ad sMt sSource x1 sReferenceWays sTagWays sCommentWays sOut hx4 H.size)) ?_
      refine g_if_eq F (tgt := 55) d_TagWays_tagDone_43 (by decide) (fun h => ?_) (fun h => ?_)
      · rw [if_pos h] at hf
        refine g_aload_n F d_TagWays_tagDone_55 0 rfl ?_
        refine g_getS F (v := .ref (ad 2)) in_X8 4 rfl rfl 1 (by decide) mw_217 mw_218 rfl d_TagWays_tagDone_56 ?_
        obtain ⟨x5, hx5, hf⟩ := g_bind hf
        refine g_cv F (ws' := (Wc z ad cA sMt sSource x5 sReferenceWays sTagWays sCommentWays sOut)) (fun H locs ls hP hD hS hl => g_runV F (As := []) (n := 0) mw_634 rfl rfl ⟨by decide, by decide⟩ rfl (by exact Nat.le_of_ble_eq_true rfl) mw_631 mw_632 mw_633 mw_75 (by decide +kernel) d_TagWays_tagDone_59 hP hD hS hl (va_recv F.2.2.2.2.2.1 hP (ci := 2) rfl (q0 := 2) rfl) (c_Tokens_dropAttributes l D cA z ad sMt sSource x1 sReferenceWays sTagWays sCommentWays sOut hx5 H.size)) ?_
        refine g_aload_n F d_TagWays_tagDone_62 0 rfl ?_
        refine g_getS F (v := .ref (ad 2)) in_X8 4 rfl rfl 1 (by decide) mw_217 mw_218 rfl d_TagWays_tagDone_63 ?_
        refine g_iconst F (v := 0) d_TagWays_tagDone_66 (by decide) ?_
        obtain ⟨x6, hx6, hf⟩ := g_bind hf
        refine g_cv F (ws' := (Wc z ad cA sMt sSource x6 sReferenceWays sTagWays sCommentWays sOut)) (fun H locs ls hP hD hS hl => g_runV F (As := [.int 0]) (n := 1) mw_638 rfl rfl ⟨by decide, by decide⟩ rfl (by exact Nat.le_of_ble_eq_true rfl) mw_635 mw_636 mw_637 mw_75 (by decide +kernel) d_TagWays_tagDone_67 hP hD hS hl (va_recv F.2.2.2.2.2.1 hP (ci := 2) rfl (q0 := 2) rfl) (c_Tokens_setMark l D cA z ad sMt sSource x5 sReferenceWays sTagWays sCommentWays sOut 0 hx6 H.size)) ?_
        refine g_aload_n F d_TagWays_tagDone_70 0 rfl ?_
        refine g_getS F (v := .ref (ad 2)) in_X8 4 rfl rfl 1 (by decide) mw_217 mw_218 rfl d_TagWays_tagDone_71 ?_
        refine g_cv F (ws' := (Wc z ad cA sMt sSource (f_Tokens_tell x6) sReferenceWays sTagWays sCommentWays sOut)) (fun H locs ls hP hD hS hl => g_runV F (As := []) (n := 0) mw_642 rfl rfl ⟨by decide, by decide⟩ rfl (by exact Nat.le_of_ble_eq_true rfl) mw_639 mw_640 mw_641 mw_75 (by decide +kernel) d_TagWays_tagDone_74 hP hD hS hl (va_recv F.2.2.2.2.2.1 hP (ci := 2) rfl (q0 := 2) rfl) (c_Tokens_tell l D cA z ad sMt sSource x6 sReferenceWays sTagWays sCommentWays sOut rfl H.size)) ?_
        refine g_aload_n F d_TagWays_tagDone_77 0 rfl ?_
        refine g_getS F (v := .ref (ad 1)) in_X8 4 rfl rfl 0 (by decide) mw_208 mw_209 rfl d_TagWays_tagDone_78 ?_
        refine g_way F 0 (by decide) mw_643 d_TagWays_tagDone_81 ?_
        refine g_cw F (r0 := z.1 ((f_Source_then 0 sSource).1)) (ws' := (Wc z ad cA sMt ((f_Source_then 0 sSource).2) (f_Tokens_tell x6) sReferenceWays sTagWays sCommentWays sOut)) (fun H locs ls hP hD hS hl => g_runV F (As := [.ref (z.1 0)]) (n := 1) mw_401 rfl rfl ⟨by decide, by decide⟩ rfl (by exact Nat.le_of_ble_eq_true rfl) mw_609 mw_399 mw_400 mw_74 (by decide +kernel) d_TagWays_tagDone_84 hP hD hS hl (va_recv F.2.2.2.2.2.1 hP (ci := 1) rfl (q0 := 1) rfl) (c_Source_then l D cA z ad sMt sSource (f_Tokens_tell x6) sReferenceWays sTagWays sCommentWays sOut 0 rfl H.size)) ?_
        cases hf
        exact g_aret F hr (Or.inl ⟨_, rfl⟩) hlk rfl rfl rfl d_TagWays_tagDone_87
      · rw [if_neg h] at hf
        refine g_aload_n F d_TagWays_tagDone_46 0 rfl ?_
        refine g_getS F (v := .ref (ad 1)) in_X8 4 rfl rfl 0 (by decide) mw_208 mw_209 rfl d_TagWays_tagDone_47 ?_
        refine g_bipush F (v := 15) d_TagWays_tagDone_50 (by decide) ?_
        obtain ⟨x7, hx7, hf⟩ := g_bind hf
        refine g_cv F (ws' := (Wc z ad cA sMt x7 x1 sReferenceWays sTagWays sCommentWays sOut)) (fun H locs ls hP hD hS hl => g_runV F (As := [.int 15]) (n := 1) mw_408 rfl rfl ⟨by decide, by decide⟩ rfl (by exact Nat.le_of_ble_eq_true rfl) mw_626 mw_406 mw_407 mw_74 (by decide +kernel) d_TagWays_tagDone_52 hP hD hS hl (va_recv F.2.2.2.2.2.1 hP (ci := 1) rfl (q0 := 1) rfl) (c_Source_wrong l D cA z ad sMt sSource x1 sReferenceWays sTagWays sCommentWays sOut 15 hx7 H.size)) ?_
        refine g_aload_n F d_TagWays_tagDone_55 0 rfl ?_
        refine g_getS F (v := .ref (ad 2)) in_X8 4 rfl rfl 1 (by decide) mw_217 mw_218 rfl d_TagWays_tagDone_56 ?_
        obtain ⟨x8, hx8, hf⟩ := g_bind hf
        refine g_cv F (ws' := (Wc z ad cA sMt x7 x8 sReferenceWays sTagWays sCommentWays sOut)) (fun H locs ls hP hD hS hl => g_runV F (As := []) (n := 0) mw_634 rfl rfl ⟨by decide, by decide⟩ rfl (by exact Nat.le_of_ble_eq_true rfl) mw_631 mw_632 mw_633 mw_75 (by decide +kernel) d_TagWays_tagDone_59 hP hD hS hl (va_recv F.2.2.2.2.2.1 hP (ci := 2) rfl (q0 := 2) rfl) (c_Tokens_dropAttributes l D cA z ad sMt x7 x1 sReferenceWays sTagWays sCommentWays sOut hx8 H.size)) ?_
        refine g_aload_n F d_TagWays_tagDone_62 0 rfl ?_
        refine g_getS F (v := .ref (ad 2)) in_X8 4 rfl rfl 1 (by decide) mw_217 mw_218 rfl d_TagWays_tagDone_63 ?_
        refine g_iconst F (v := 0) d_TagWays_tagDone_66 (by decide) ?_
        obtain ⟨x9, hx9, hf⟩ := g_bind hf
        refine g_cv F (ws' := (Wc z ad cA sMt x7 x9 sReferenceWays sTagWays sCommentWays sOut)) (fun H locs ls hP hD hS hl => g_runV F (As := [.int 0]) (n := 1) mw_638 rfl rfl ⟨by decide, by decide⟩ rfl (by exact Nat.le_of_ble_eq_true rfl) mw_635 mw_636 mw_637 mw_75 (by decide +kernel) d_TagWays_tagDone_67 hP hD hS hl (va_recv F.2.2.2.2.2.1 hP (ci := 2) rfl (q0 := 2) rfl) (c_Tokens_setMark l D cA z ad sMt x7 x8 sReferenceWays sTagWays sCommentWays sOut 0 hx9 H.size)) ?_
        refine g_aload_n F d_TagWays_tagDone_70 0 rfl ?_
        refine g_getS F (v := .ref (ad 2)) in_X8 4 rfl rfl 1 (by decide) mw_217 mw_218 rfl d_TagWays_tagDone_71 ?_
        refine g_cv F (ws' := (Wc z ad cA sMt x7 (f_Tokens_tell x9) sReferenceWays sTagWays sCommentWays sOut)) (fun H locs ls hP hD hS hl => g_runV F (As := []) (n := 0) mw_642 rfl rfl ⟨by decide, by decide⟩ rfl (by exact Nat.le_of_ble_eq_true rfl) mw_639 mw_640 mw_641 mw_75 (by decide +kernel) d_TagWays_tagDone_74 hP hD hS hl (va_recv F.2.2.2.2.2.1 hP (ci := 2) rfl (q0 := 2) rfl) (c_Tokens_tell l D cA z ad sMt x7 x9 sReferenceWays sTagWays sCommentWays sOut rfl H.size)) ?_
        refine g_aload_n F d_TagWays_tagDone_77 0 rfl ?_
        refine g_getS F (v := .ref (ad 1)) in_X8 4 rfl rfl 0 (by decide) mw_208 mw_209 rfl d_TagWays_tagDone_78 ?_
        refine g_way F 0 (by decide) mw_643 d_TagWays_tagDone_81 ?_
        refine g_cw F (r0 := z.1 ((f_Source_then 0 x7).1)) (ws' := (Wc z ad cA sMt ((f_Source_then 0 x7).2) (f_Tokens_tell x9) sReferenceWays sTagWays sCommentWays sOut)) (fun H locs ls hP hD hS hl => g_runV F (As := [.ref (z.1 0)]) (n := 1) mw_401 rfl rfl ⟨by decide, by decide⟩ rfl (by exact Nat.le_of_ble_eq_true rfl) mw_609 mw_399 mw_400 mw_74 (by decide +kernel) d_TagWays_tagDone_84 hP hD hS hl (va_recv F.2.2.2.2.2.1 hP (ci := 1) rfl (q0 := 1) rfl) (c_Source_then l D cA z ad sMt x7 (f_Tokens_tell x9) sReferenceWays sTagWays sCommentWays sOut 0 rfl H.size)) ?_
        cases hf
        exact g_aret F hr (Or.inl ⟨_, rfl⟩) hlk rfl rfl rfl d_TagWays_tagDone_87
    · rw [if_neg h] at hf
      refine g_aload_n F d_TagWays_tagDone_27 0 rfl ?_
      refine g_getS F (v := .ref (ad 1)) in_X8 4 rfl rfl 0 (by decide) mw_208 mw_209 rfl d_TagWays_tagDone_28 ?_
      refine g_bipush F (v := 14) d_TagWays_tagDone_31 (by decide) ?_
      obtain ⟨x10, hx10, hf⟩ := g_bind hf
      refine g_cv F (ws' := (Wc z ad cA sMt x10 x1 sReferenceWays sTagWays sCommentWays sOut)) (fun H locs ls hP hD hS hl => g_runV F (As := [.int 14]) (n := 1) mw_408 rfl rfl ⟨by decide, by decide⟩ rfl (by exact Nat.le_of_ble_eq_true rfl) mw_626 mw_406 mw_407 mw_74 (by decide +kernel) d_TagWays_tagDone_33 hP hD hS hl (va_recv F.2.2.2.2.2.1 hP (ci := 1) rfl (q0 := 1) rfl) (c_Source_wrong l D cA z ad sMt sSource x1 sReferenceWays sTagWays sCommentWays sOut 14 hx10 H.size)) ?_
      refine g_aload_n F d_TagWays_tagDone_36 0 rfl ?_
      refine g_getS F (v := .ref (ad 2)) in_X8 4 rfl rfl 1 (by decide) mw_217 mw_218 rfl d_TagWays_tagDone_37 ?_
      obtain ⟨x11, hx11, hf⟩ := g_bind hf
      refine g_ci F (r0 := x11) (ws' := (Wc z ad cA sMt x10 x1 sReferenceWays sTagWays sCommentWays sOut)) (fun H locs ls hP hD hS hl => g_runV F (As := []) (n := 0) mw_630 rfl rfl ⟨by decide, by decide⟩ rfl (by exact Nat.le_of_ble_eq_true rfl) mw_627 mw_628 mw_629 mw_75 (by decide +kernel) d_TagWays_tagDone_40 hP hD hS hl (va_recv F.2.2.2.2.2.1 hP (ci := 2) rfl (q0 := 2) rfl) (c_Tokens_isMarked l D cA z ad sMt x10 x1 sReferenceWays sTagWays sCommentWays sOut hx11 H.size)) ?_
      refine g_if_eq F (tgt := 55) d_TagWays_tagDone_43 (by decide) (fun h => ?_) (fun h => ?_)
      · rw [if_pos h] at hf
        refine g_aload_n F d_TagWays_tagDone_55 0 rfl ?_
        refine g_getS F (v := .ref (ad 2)) in_X8 4 rfl rfl 1 (by decide) mw_217 mw_218 rfl d_TagWays_tagDone_56 ?_
        obtain ⟨x12, hx12, hf⟩ := g_bind hf
        refine g_cv F (ws' := (Wc z ad cA sMt x10 x12 sReferenceWays sTagWays sCommentWays sOut)) (fun H locs ls hP hD hS hl => g_runV F (As := []) (n := 0) mw_634 rfl rfl ⟨by decide, by decide⟩ rfl (by exact Nat.le_of_ble_eq_true rfl) mw_631 mw_632 mw_633 mw_75 (by decide +kernel) d_TagWays_tagDone_59 hP hD hS hl (va_recv F.2.2.2.2.2.1 hP (ci := 2) rfl (q0 := 2) rfl) (c_Tokens_dropAttributes l D cA z ad sMt x10 x1 sReferenceWays sTagWays sCommentWays sOut hx12 H.size)) ?_
        refine g_aload_n F d_TagWays_tagDone_62 0 rfl ?_
        refine g_getS F (v := .ref (ad 2)) in_X8 4 rfl rfl 1 (by decide) mw_217 mw_218 rfl d_TagWays_tagDone_63 ?_
        refine g_iconst F (v := 0) d_TagWays_tagDone_66 (by decide) ?_
        obtain ⟨x13, hx13, hf⟩ := g_bind hf
        refine g_cv F (ws' := (Wc z ad cA sMt x10 x13 sReferenceWays sTagWays sCommentWays sOut)) (fun H locs ls hP hD hS hl => g_runV F (As := [.int 0]) (n := 1) mw_638 rfl rfl ⟨by decide, by decide⟩ rfl (by exact Nat.le_of_ble_eq_true rfl) mw_635 mw_636 mw_637 mw_75 (by decide +kernel) d_TagWays_tagDone_67 hP hD hS hl (va_recv F.2.2.2.2.2.1 hP (ci := 2) rfl (q0 := 2) rfl) (c_Tokens_setMark l D cA z ad sMt x10 x12 sReferenceWays sTagWays sCommentWays sOut 0 hx13 H.size)) ?_
        refine g_aload_n F d_TagWays_tagDone_70 0 rfl ?_
        refine g_getS F (v := .ref (ad 2)) in_X8 4 rfl rfl 1 (by decide) mw_217 mw_218 rfl d_TagWays_tagDone_71 ?_
        refine g_cv F (ws' := (Wc z ad cA sMt x10 (f_Tokens_tell x13) sReferenceWays sTagWays sCommentWays sOut)) (fun H locs ls hP hD hS hl => g_runV F (As := []) (n := 0) mw_642 rfl rfl ⟨by decide, by decide⟩ rfl (by exact Nat.le_of_ble_eq_true rfl) mw_639 mw_640 mw_641 mw_75 (by decide +kernel) d_TagWays_tagDone_74 hP hD hS hl (va_recv F.2.2.2.2.2.1 hP (ci := 2) rfl (q0 := 2) rfl) (c_Tokens_tell l D cA z ad sMt x10 x13 sReferenceWays sTagWays sCommentWays sOut rfl H.size)) ?_
        refine g_aload_n F d_TagWays_tagDone_77 0 rfl ?_
        refine g_getS F (v := .ref (ad 1)) in_X8 4 rfl rfl 0 (by decide) mw_208 mw_209 rfl d_TagWays_tagDone_78 ?_
        refine g_way F 0 (by decide) mw_643 d_TagWays_tagDone_81 ?_
        refine g_cw F (r0 := z.1 ((f_Source_then 0 x10).1)) (ws' := (Wc z ad cA sMt ((f_Source_then 0 x10).2) (f_Tokens_tell x13) sReferenceWays sTagWays sCommentWays sOut)) (fun H locs ls hP hD hS hl => g_runV F (As := [.ref (z.1 0)]) (n := 1) mw_401 rfl rfl ⟨by decide, by decide⟩ rfl (by exact Nat.le_of_ble_eq_true rfl) mw_609 mw_399 mw_400 mw_74 (by decide +kernel) d_TagWays_tagDone_84 hP hD hS hl (va_recv F.2.2.2.2.2.1 hP (ci := 1) rfl (q0 := 1) rfl) (c_Source_then l D cA z ad sMt x10 (f_Tokens_tell x13) sReferenceWays sTagWays sCommentWays sOut 0 rfl H.size)) ?_
        cases hf
        exact g_aret F hr (Or.inl ⟨_, rfl⟩) hlk rfl rfl rfl d_TagWays_tagDone_87
      · rw [if_neg h] at hf
        refine g_aload_n F d_TagWays_tagDone_46 0 rfl ?_
        refine g_getS F (v := .ref (ad 1)) in_X8 4 rfl rfl 0 (by decide) mw_208 mw_209 rfl d_TagWays_tagDone_47 ?_
        refine g_bipush F (v := 15) d_TagWays_tagDone_50 (by decide) ?_
        obtain ⟨x14, hx14, hf⟩ := g_bind hf
        refine g_cv F (ws' := (Wc z ad cA sMt x14 x1 sReferenceWays sTagWays sCommentWays sOut)) (fun H locs ls hP hD hS hl => g_runV F (As := [.int 15]) (n := 1) mw_408 rfl rfl ⟨by decide, by decide⟩ rfl (by exact Nat.le_of_ble_eq_true rfl) mw_626 mw_406 mw_407 mw_74 (by decide +kernel) d_TagWays_tagDone_52 hP hD hS hl (va_recv F.2.2.2.2.2.1 hP (ci := 1) rfl (q0 := 1) rfl) (c_Source_wrong l D cA z ad sMt x10 x1 sReferenceWays sTagWays sCommentWays sOut 15 hx14 H.size)) ?_
        refine g_aload_n F d_TagWays_tagDone_55 0 rfl ?_
        refine g_getS F (v := .ref (ad 2)) in_X8 4 rfl rfl 1 (by decide) mw_217 mw_218 rfl d_TagWays_tagDone_56 ?_
        obtain ⟨x15, hx15, hf⟩ := g_bind hf
        refine g_cv F (ws' := (Wc z ad cA sMt x14 x15 sReferenceWays sTagWays sCommentWays sOut)) (fun H locs ls hP hD hS hl => g_runV F (As := []) (n := 0) mw_634 rfl rfl ⟨by decide, by decide⟩ rfl (by exact Nat.le_of_ble_eq_true rfl) mw_631 mw_632 mw_633 mw_75 (by decide +kernel) d_TagWays_tagDone_59 hP hD hS hl (va_recv F.2.2.2.2.2.1 hP (ci := 2) rfl (q0 := 2) rfl) (c_Tokens_dropAttributes l D cA z ad sMt x14 x1 sReferenceWays sTagWays sCommentWays sOut hx15 H.size)) ?_
        refine g_aload_n F d_TagWays_tagDone_62 0 rfl ?_
        refine g_getS F (v := .ref (ad 2)) in_X8 4 rfl rfl 1 (by decide) mw_217 mw_218 rfl d_TagWays_tagDone_63 ?_
        refine g_iconst F (v := 0) d_TagWays_tagDone_66 (by decide) ?_
        obtain ⟨x16, hx16, hf⟩ := g_bind hf
        refine g_cv F (ws' := (Wc z ad cA sMt x14 x16 sReferenceWays sTagWays sCommentWays sOut)) (fun H locs ls hP hD hS hl => g_runV F (As := [.int 0]) (n := 1) mw_638 rfl rfl ⟨by decide, by decide⟩ rfl (by exact Nat.le_of_ble_eq_true rfl) mw_635 mw_636 mw_637 mw_75 (by decide +kernel) d_TagWays_tagDone_67 hP hD hS hl (va_recv F.2.2.2.2.2.1 hP (ci := 2) rfl (q0 := 2) rfl) (c_Tokens_setMark l D cA z ad sMt x14 x15 sReferenceWays sTagWays sCommentWays sOut 0 hx16 H.size)) ?_
        refine g_aload_n F d_TagWays_tagDone_70 0 rfl ?_
        refine g_getS F (v := .ref (ad 2)) in_X8 4 rfl rfl 1 (by decide) mw_217 mw_218 rfl d_TagWays_tagDone_71 ?_
        refine g_cv F (ws' := (Wc z ad cA sMt x14 (f_Tokens_tell x16) sReferenceWays sTagWays sCommentWays sOut)) (fun H locs ls hP hD hS hl => g_runV F (As := []) (n := 0) mw_642 rfl rfl ⟨by decide, by decide⟩ rfl (by exact Nat.le_of_ble_eq_true rfl) mw_639 mw_640 mw_641 mw_75 (by decide +kernel) d_TagWays_tagDone_74 hP hD hS hl (va_recv F.2.2.2.2.2.1 hP (ci := 2) rfl (q0 := 2) rfl) (c_Tokens_tell l D cA z ad sMt x14 x16 sReferenceWays sTagWays sCommentWays sOut rfl H.size)) ?_
        refine g_aload_n F d_TagWays_tagDone_77 0 rfl ?_
        refine g_getS F (v := .ref (ad 1)) in_X8 4 rfl rfl 0 (by decide) mw_208 mw_209 rfl d_TagWays_tagDone_78 ?_
        refine g_way F 0 (by decide) mw_643 d_TagWays_tagDone_81 ?_
        refine g_cw F (r0 := z.1 ((f_Source_then 0 x14).1)) (ws' := (Wc z ad cA sMt ((f_Source_then 0 x14).2) (f_Tokens_tell x16) sReferenceWays sTagWays sCommentWays sOut)) (fun H locs ls hP hD hS hl => g_runV F (As := [.ref (z.1 0)]) (n := 1) mw_401 rfl rfl ⟨by decide, by decide⟩ rfl (by exact Nat.le_of_ble_eq_true rfl) mw_609 mw_399 mw_400 mw_74 (by decide +kernel) d_TagWays_tagDone_84 hP hD hS hl (va_recv F.2.2.2.2.2.1 hP (ci := 1) rfl (q0 := 1) rfl) (c_Source_then l D cA z ad sMt x14 (f_Tokens_tell x16) sReferenceWays sTagWays sCommentWays sOut 0 rfl H.size)) ?_
        cases hf
        exact g_aret F hr (Or.inl ⟨_, rfl⟩) hlk rfl rfl rfl d_TagWays_tagDone_87
set_option maxHeartbeats 4000000 in
set_option maxRecDepth 100000 in
theorem c_TagWays_dropped (l : Launch) (D : va_G) (cA : Nat → ClassId) (z : gZ) (ad : Nat → Nat) (sMt : SMt) (sSource : SSource) (sTokens : STokens) (sReferenceWays : SReferenceWays) (sTagWays : STagWays) (sCommentWays : SCommentWays) (sOut : SOut) {x : Nat × SSource} (hf : f_TagWays_dropped sSource = some x) (sz : Nat) : Met l y_TagWays_dropped (.code y_TagWays_dropped b_TagWays_dropped 1 (some (.object "MarkupTokens$Way")) :: lw_g) { frames := 1, cells := 0, slots := 0, locals := 21 } (gP D (gT cA) z [.ref (ad 4)] (Wc z ad cA sMt sSource sTokens sReferenceWays sTagWays sCommentWays sOut) sz) (gQq D (gT cA) (va_A (Wc z ad cA sMt sSource sTokens sReferenceWays sTagWays sCommentWays sOut) sz) (some (z.1 x.1)) (Wc z ad cA sMt x.2 sTokens sReferenceWays sTagWays sCommentWays sOut)) 0 0 (va_A (Wc z ad cA sMt sSource sTokens sReferenceWays sTagWays sCommentWays sOut) sz) := by
  refine g_met (by decide) (Nat.le_of_ble_eq_true rfl) rfl ?_
  intro p e s m args below meth c F hr hlk
  unfold f_TagWays_dropped at hf
  refine g_aload_n F d_TagWays_dropped_0 0 rfl ?_
  refine g_getS F (v := .ref (ad 1)) in_X8 4 rfl rfl 0 (by decide) mw_208 mw_209 rfl d_TagWays_dropped_1 ?_
  refine g_bipush F (v := 6) d_TagWays_dropped_4 (by decide) ?_
  obtain ⟨x1, hx1, hf⟩ := g_bind hf
  refine g_cv F (ws' := (Wc z ad cA sMt x1 sTokens sReferenceWays sTagWays sCommentWays sOut)) (fun H locs ls hP hD hS hl => g_runV F (As := [.int 6]) (n := 1) mw_408 rfl rfl ⟨by decide, by decide⟩ rfl (by exact Nat.le_of_ble_eq_true rfl) mw_626 mw_406 mw_407 mw_74 (by decide +kernel) d_TagWays_dropped_6 hP hD hS hl (va_recv F.2.2.2.2.2.1 hP (ci := 1) rfl (q0 := 1) rfl) (c_Source_wrong l D cA z ad sMt sSource sTokens sReferenceWays sTagWays sCommentWays sOut 6 hx1 H.size)) ?_
  refine g_way F 29 (by decide) mw_648 d_TagWays_dropped_9 ?_
  cases hf
  exact g_aret F hr (Or.inl ⟨_, rfl⟩) hlk rfl rfl rfl d_TagWays_dropped_12
set_option maxHeartbeats 4000000 in
set_option maxRecDepth 100000 in
theorem c_TagWays_leave (l : Launch) (D : va_G) (cA : Nat → ClassId) (z : gZ) (ad : Nat → Nat) (sMt : SMt) (sSource : SSource) (sTokens : STokens) (sReferenceWays : SReferenceWays) (sTagWays : STagWays) (sCommentWays : SCommentWays) (sOut : SOut) (a1 : Int32) {x : Nat × SSource × STokens} (hf : f_TagWays_leave a1 sSource sTokens = some x) (sz : Nat) : Met l y_TagWays_leave (.code y_TagWays_leave b_TagWays_leave 2 (some (.object "MarkupTokens$Way")) :: lw_g) { frames := 2, cells := 0, slots := 0, locals := 41 } (gP D (gT cA) z [.ref (ad 4), .int a1] (Wc z ad cA sMt sSource sTokens sReferenceWays sTagWays sCommentWays sOut) sz) (gQq D (gT cA) (va_A (Wc z ad cA sMt sSource sTokens sReferenceWays sTagWays sCommentWays sOut) sz) (some (z.1 x.1)) (Wc z ad cA sMt x.2.1 x.2.2 sReferenceWays sTagWays sCommentWays sOut)) 0 0 (va_A (Wc z ad cA sMt sSource sTokens sReferenceWays sTagWays sCommentWays sOut) sz) := by
  refine g_met (by decide) (Nat.le_of_ble_eq_true rfl) rfl ?_
  intro p e s m args below meth c F hr hlk
  unfold f_TagWays_leave at hf
  refine g_iload_n F d_TagWays_leave_0 1 rfl ?_
  by_cases q1 : a1 = (-1)
  · rw [if_pos q1] at hf
    refine g_lookup F (off := 51) (tgt := 52) d_TagWays_leave_1 (by decide) (by rw [q1]; decide) (by decide) ?_
    refine g_aload_n F d_TagWays_leave_52 0 rfl ?_
    obtain ⟨x1, hx1, hf⟩ := g_bind hf
    refine g_cw F (r0 := z.1 x1.1) (ws' := (Wc z ad cA sMt x1.2 sTokens sReferenceWays sTagWays sCommentWays sOut)) (fun H locs ls hP hD hS hl => g_runV F (As := []) (n := 0) mw_647 rfl rfl ⟨by decide, by decide⟩ rfl (by exact Nat.le_of_ble_eq_true rfl) mw_644 mw_646 mw_13 mw_81 (by decide +kernel) d_TagWays_leave_53 hP hD hS hl (va_recv F.2.2.2.2.2.1 hP (ci := 4) rfl (q0 := 4) rfl) (c_TagWays_dropped l D cA z ad sMt sSource sTokens sReferenceWays sTagWays sCommentWays sOut hx1 H.size)) ?_
    cases hf
    exact g_aret F hr (Or.inl ⟨_, rfl⟩) hlk rfl rfl rfl d_TagWays_leave_56
  rw [if_neg q1] at hf
  by_cases q2 : a1 = 47
  · rw [if_pos q2] at hf
    refine g_lookup F (off := 35) (tgt := 36) d_TagWays_leave_1 (by decide) (by rw [q2]; decide) (by decide) ?_
    refine g_aload_n F d_TagWays_leave_36 0 rfl ?_
    refine g_getS F (v := .ref (ad 1)) in_X8 4 rfl rfl 0 (by decide) mw_208 mw_209 rfl d_TagWays_leave_37 ?_
    refine g_way F 15 (by decide) mw_607 d_TagWays_leave_40 ?_
    refine g_cw F (r0 := z.1 ((f_Source_then 15 sSource).1)) (ws' := (Wc z ad cA sMt ((f_Source_then 15 sSource).2) sTokens sReferenceWays sTagWays sCommentWays sOut)) (fun H locs ls hP hD hS hl => g_runV F (As := [.ref (z.1 15)]) (n := 1) mw_401 rfl rfl ⟨by decide, by decide⟩ rfl (by exact Nat.le_of_ble_eq_true rfl) mw_609 mw_399 mw_400 mw_74 (by decide +kernel) d_TagWays_leave_43 hP hD hS hl (va_recv F.2.2.2.2.2.1 hP (ci := 1) rfl (q0 := 1) rfl) (c_Source_then l D cA z ad sMt sSource sTokens sReferenceWays sTagWays sCommentWays sOut 15 rfl H.size)) ?_
    cases hf
    exact g_aret F hr (Or.inl ⟨_, rfl⟩) hlk rfl rfl rfl d_TagWays_leave_46
  rw [if_neg q2] at hf
  by_cases q3 : a1 = 62
  · rw [if_pos q3] at hf
    refine g_lookup F (off := 46) (tgt := 47) d_TagWays_leave_1 (by decide) (by rw [q3]; decide) (by decide) ?_
    refine g_aload_n F d_TagWays_leave_47 0 rfl ?_
    obtain ⟨x2, hx2, hf⟩ := g_bind hf
    refine g_cw F (r0 := z.1 x2.1) (ws' := (Wc z ad cA sMt x2.2.1 x2.2.2 sReferenceWays sTagWays sCommentWays sOut)) (fun H locs ls hP hD hS hl => g_runV F (As := []) (n := 0) mw_613 rfl rfl ⟨by decide, by decide⟩ rfl (by exact Nat.le_of_ble_eq_true rfl) mw_610 mw_612 mw_12 mw_81 (by decide +kernel) d_TagWays_leave_48 hP hD hS hl (va_recv F.2.2.2.2.2.1 hP (ci := 4) rfl (q0 := 4) rfl) (c_TagWays_tagDone l D cA z ad sMt sSource sTokens sReferenceWays sTagWays sCommentWays sOut hx2 H.size)) ?_
    cases hf
    exact g_aret F hr (Or.inl ⟨_, rfl⟩) hlk rfl rfl rfl d_TagWays_leave_51
  rw [if_neg q3] at hf
  refine g_lookup F (off := 56) (tgt := 57) d_TagWays_leave_1 (by decide) (show Op.lookupswitch.offset ([((-1), 51), (47, 35), (62, 46)] : List (Int × Int)) 56 (a1 : Int32).toInt = 56 by rw [lv_osw (k := (-1)) q1 (by decide), lv_osw (k := 47) q2 (by decide), lv_osw (k := 62) q3 (by decide)]; rfl) (by decide) ?_
  refine g_aload_n F d_TagWays_leave_57 0 rfl ?_
  refine g_getS F (v := .ref (ad 1)) in_X8 4 rfl rfl 0 (by decide) mw_208 mw_209 rfl d_TagWays_leave_58 ?_
  refine g_way F 8 (by decide) mw_649 d_TagWays_leave_61 ?_
  refine g_cw F (r0 := z.1 ((f_Source_then 8 sSource).1)) (ws' := (Wc z ad cA sMt ((f_Source_then 8 sSource).2) sTokens sReferenceWays sTagWays sCommentWays sOut)) (fun H locs ls hP hD hS hl => g_runV F (As := [.ref (z.1 8)]) (n := 1) mw_401 rfl rfl ⟨by decide, by decide⟩ rfl (by exact Nat.le_of_ble_eq_true rfl) mw_609 mw_399 mw_400 mw_74 (by decide +kernel) d_TagWays_leave_64 hP hD hS hl (va_recv F.2.2.2.2.2.1 hP (ci := 1) rfl (q0 := 1) rfl) (c_Source_then l D cA z ad sMt sSource sTokens sReferenceWays sTagWays sCommentWays sOut 8 rfl H.size)) ?_
  cases hf
  exact g_aret F hr (Or.inl ⟨_, rfl⟩) hlk rfl rfl rfl d_TagWays_leave_67
set_option maxHeartbeats 4000000 in
set_option maxRecDepth 100000 in
theorem c_Ways_addKnown_TagWays (l : Launch) (D : va_G) (cA : Nat → ClassId) (z : gZ) (ad : Nat → Nat) (sMt : SMt) (sSource : SSource) (sTokens : STokens) (sReferenceWays : SReferenceWays) (sTagWays : STagWays) (sCommentWays : SCommentWays) (sOut : SOut) (a1 : Int32) {x : SSource × STokens} (hf : f_Ways_addKnown a1 sSource sTokens = some x) (sz : Nat) : Met l y_Ways_addKnown (.code y_Ways_addKnown b_Ways_addKnown 2 none :: lw_g) { frames := 1, cells := 0, slots := 0, locals := 21 } (gP D (gT cA) z [.ref (ad 4), .int a1] (Wc z ad cA sMt sSource sTokens sReferenceWays sTagWays sCommentWays sOut) sz) (gQv D (gT cA) (va_A (Wc z ad cA sMt sSource sTokens sReferenceWays sTagWays sCommentWays sOut) sz) (Wc z ad cA sMt x.1 x.2 sReferenceWays sTagWays sCommentWays sOut)) 0 0 (va_A (Wc z ad cA sMt sSource sTokens sReferenceWays sTagWays sCommentWays sOut) sz) := by
  refine g_met (by decide) (Nat.le_of_ble_eq_true rfl) rfl ?_
  intro p e s m args below meth c F hr hlk
  unfold f_Ways_addKnown at hf
  refine g_iload_n F d_Ways_addKnown_0 1 rfl ?_
  refine g_if_ne F (tgt := 24) d_Ways_addKnown_1 (by decide) (fun h => ?_) (fun h => ?_)
  · rw [if_neg h] at hf
    refine g_aload_n F d_Ways_addKnown_24 0 rfl ?_
    refine g_get F (v := .ref (ad 2)) in_X8 4 rfl rfl 1 (by decide) mw_210 rfl d_Ways_addKnown_25 ?_
    refine g_iload_n F d_Ways_addKnown_28 1 rfl ?_
    obtain ⟨x1, hx1, hf⟩ := g_bind hf
    refine g_cv F (ws' := (Wc z ad cA sMt sSource x1 sReferenceWays sTagWays sCommentWays sOut)) (fun H locs ls hP hD hS hl => g_runV F (As := [.int a1]) (n := 1) mw_416 rfl rfl ⟨by decide, by decide⟩ rfl (by exact Nat.le_of_ble_eq_true rfl) mw_660 mw_414 mw_415 mw_75 (by decide +kernel) d_Ways_addKnown_29 hP hD hS hl (va_recv F.2.2.2.2.2.1 hP (ci := 2) rfl (q0 := 2) rfl) (c_Tokens_add l D cA z ad sMt sSource sTokens sReferenceWays sTagWays sCommentWays sOut a1 hx1 H.size)) ?_
    cases hf
    exact g_vret F hr hlk rfl rfl d_Ways_addKnown_32
  · rw [if_pos h] at hf
    refine g_aload_n F d_Ways_addKnown_4 0 rfl ?_
    refine g_get F (v := .ref (ad 1)) in_X8 4 rfl rfl 0 (by decide) mw_199 rfl d_Ways_addKnown_5 ?_
    refine g_iconst F (v := 1) d_Ways_addKnown_8 (by decide) ?_
    obtain ⟨x2, hx2, hf⟩ := g_bind hf
    refine g_cv F (ws' := (Wc z ad cA sMt x2 sTokens sReferenceWays sTagWays sCommentWays sOut)) (fun H locs ls hP hD hS hl => g_runV F (As := [.int 1]) (n := 1) mw_408 rfl rfl ⟨by decide, by decide⟩ rfl (by exact Nat.le_of_ble_eq_true rfl) mw_658 mw_406 mw_407 mw_74 (by decide +kernel) d_Ways_addKnown_9 hP hD hS hl (va_recv F.2.2.2.2.2.1 hP (ci := 1) rfl (q0 := 1) rfl) (c_Source_wrong l D cA z ad sMt sSource sTokens sReferenceWays sTagWays sCommentWays sOut 1 hx2 H.size)) ?_
    refine g_aload_n F d_Ways_addKnown_12 0 rfl ?_
    refine g_get F (v := .ref (ad 2)) in_X8 4 rfl rfl 1 (by decide) mw_210 rfl d_Ways_addKnown_13 ?_
    refine g_ldc F (v := 65533) mw_659 d_Ways_addKnown_16 ?_
    obtain ⟨x3, hx3, hf⟩ := g_bind hf
    refine g_cv F (ws' := (Wc z ad cA sMt x2 x3 sReferenceWays sTagWays sCommentWays sOut)) (fun H locs ls hP hD hS hl => g_runV F (As := [.int 65533]) (n := 1) mw_416 rfl rfl ⟨by decide, by decide⟩ rfl (by exact Nat.le_of_ble_eq_true rfl) mw_660 mw_414 mw_415 mw_75 (by decide +kernel) d_Ways_addKnown_18 hP hD hS hl (va_recv F.2.2.2.2.2.1 hP (ci := 2) rfl (q0 := 2) rfl) (c_Tokens_add l D cA z ad sMt x2 sTokens sReferenceWays sTagWays sCommentWays sOut 65533 hx3 H.size)) ?_
    refine g_goto F (tgt := 32) d_Ways_addKnown_21 (by decide) ?_
    cases hf
    exact g_vret F hr hlk rfl rfl d_Ways_addKnown_32
set_option maxHeartbeats 4000000 in
set_option maxRecDepth 100000 in
theorem c_Ways_addKnown_CommentWays (l : Launch) (D : va_G) (cA : Nat → ClassId) (z : gZ) (ad : Nat → Nat) (sMt : SMt) (sSource : SSource) (sTokens : STokens) (sReferenceWays : SReferenceWays) (sTagWays : STagWays) (sCommentWays : SCommentWays) (sOut : SOut) (a1 : Int32) {x : SSource × STokens} (hf : f_Ways_addKnown a1 sSource sTokens = some x) (sz : Nat) : Met l y_Ways_addKnown (.code y_Ways_addKnown b_Ways_addKnown 2 none :: lw_g) { frames := 1, cells := 0, slots := 0, locals := 21 } (gP D (gT cA) z [.ref (ad 5), .int a1] (Wc z ad cA sMt sSource sTokens sReferenceWays sTagWays sCommentWays sOut) sz) (gQv D (gT cA) (va_A (Wc z ad cA sMt sSource sTokens sReferenceWays sTagWays sCommentWays sOut) sz) (Wc z ad cA sMt x.1 x.2 sReferenceWays sTagWays sCommentWays sOut)) 0 0 (va_A (Wc z ad cA sMt sSource sTokens sReferenceWays sTagWays sCommentWays sOut) sz) := by
  refine g_met (by decide) (Nat.le_of_ble_eq_true rfl) rfl ?_
  intro p e s m args below meth c F hr hlk
  unfold f_Ways_addKnown at hf
  refine g_iload_n F d_Ways_addKnown_0 1 rfl ?_
  refine g_if_ne F (tgt := 24) d_Ways_addKnown_1 (by decide) (fun h => ?_) (fun h => ?_)
  · rw [if_neg h] at hf
    refine g_aload_n F d_Ways_addKnown_24 0 rfl ?_
    refine g_get F (v := .ref (ad 2)) in_X1 5 rfl rfl 1 (by decide) mw_210 rfl d_Ways_addKnown_25 ?_
    refine g_iload_n F d_Ways_addKnown_28 1 rfl ?_
    obtain ⟨x1, hx1, hf⟩ := g_bind hf
    refine g_cv F (ws' := (Wc z ad cA sMt sSource x1 sReferenceWays sTagWays sCommentWays sOut)) (fun H locs ls hP hD hS hl => g_runV F (As := [.int a1]) (n := 1) mw_416 rfl rfl ⟨by decide, by decide⟩ rfl (by exact Nat.le_of_ble_eq_true rfl) mw_660 mw_414 mw_415 mw_75 (by decide +kernel) d_Ways_addKnown_29 hP hD hS hl (va_recv F.2.2.2.2.2.1 hP (ci := 2) rfl (q0 := 2) rfl) (c_Tokens_add l D cA z ad sMt sSource sTokens sReferenceWays sTagWays sCommentWays sOut a1 hx1 H.size)) ?_
    cases hf
    exact g_vret F hr hlk rfl rfl d_Ways_addKnown_32
  · rw [if_pos h] at hf
    refine g_aload_n F d_Ways_addKnown_4 0 rfl ?_
    refine g_get F (v := .ref (ad 1)) in_X1 5 rfl rfl 0 (by decide) mw_199 rfl d_Ways_addKnown_5 ?_
    refine g_iconst F (v := 1) d_Ways_addKnown_8 (by decide) ?_
    obtain ⟨x2, hx2, hf⟩ := g_bind hf
    refine g_cv F (ws' := (Wc z ad cA sMt x2 sTokens sReferenceWays sTagWays sCommentWays sOut)) (fun H locs ls hP hD hS hl => g_runV F (As := [.int 1]) (n := 1) mw_408 rfl rfl ⟨by decide, by decide⟩ rfl (by exact Nat.le_of_ble_eq_true rfl) mw_658 mw_406 mw_407 mw_74 (by decide +kernel) d_Ways_addKnown_9 hP hD hS hl (va_recv F.2.2.2.2.2.1 hP (ci := 1) rfl (q0 := 1) rfl) (c_Source_wrong l D cA z ad sMt sSource sTokens sReferenceWays sTagWays sCommentWays sOut 1 hx2 H.size)) ?_
    refine g_aload_n F d_Ways_addKnown_12 0 rfl ?_
    refine g_get F (v := .ref (ad 2)) in_X1 5 rfl rfl 1 (by decide) mw_210 rfl d_Ways_addKnown_13 ?_
    refine g_ldc F (v := 65533) mw_659 d_Ways_addKnown_16 ?_
    obtain ⟨x3, hx3, hf⟩ := g_bind hf
    refine g_cv F (ws' := (Wc z ad cA sMt x2 x3 sReferenceWays sTagWays sCommentWays sOut)) (fun H locs ls hP hD hS hl => g_runV F (As := [.int 65533]) (n := 1) mw_416 rfl rfl ⟨by decide, by decide⟩ rfl (by exact Nat.le_of_ble_eq_true rfl) mw_660 mw_414 mw_415 mw_75 (by decide +kernel) d_Ways_addKnown_18 hP hD hS hl (va_recv F.2.2.2.2.2.1 hP (ci := 2) rfl (q0 := 2) rfl) (c_Tokens_add l D cA z ad sMt x2 sTokens sReferenceWays sTagWays sCommentWays sOut 65533 hx3 H.size)) ?_
    refine g_goto F (tgt := 32) d_Ways_addKnown_21 (by decide) ?_
    cases hf
    exact g_vret F hr hlk rfl rfl d_Ways_addKnown_32
set_option maxHeartbeats 4000000 in
set_option maxRecDepth 100000 in
theorem c_Ways_addKnown_DoctypeWays (l : Launch) (D : va_G) (cA : Nat → ClassId) (z : gZ) (ad : Nat → Nat) (sMt : SMt) (sSource : SSource) (sTokens : STokens) (sReferenceWays : SReferenceWays) (sTagWays : STagWays) (sCommentWays : SCommentWays) (sOut : SOut) (a1 : Int32) {x : SSource × STokens} (hf : f_Ways_addKnown a1 sSource sTokens = some x) (sz : Nat) : Met l y_Ways_addKnown (.code y_Ways_addKnown b_Ways_addKnown 2 none :: lw_g) { frames := 1, cells := 0, slots := 0, locals := 21 } (gP D (gT cA) z [.ref (ad 6), .int a1] (Wc z ad cA sMt sSource sTokens sReferenceWays sTagWays sCommentWays sOut) sz) (gQv D (gT cA) (va_A (Wc z ad cA sMt sSource sTokens sReferenceWays sTagWays sCommentWays sOut) sz) (Wc z ad cA sMt x.1 x.2 sReferenceWays sTagWays sCommentWays sOut)) 0 0 (va_A (Wc z ad cA sMt sSource sTokens sReferenceWays sTagWays sCommentWays sOut) sz) := by
  refine g_met (by decide) (Nat.le_of_ble_eq_true rfl) rfl ?_
  intro p e s m args below meth c F hr hlk
  unfold f_Ways_addKnown at hf
  refine g_iload_n F d_Ways_addKnown_0 1 rfl ?_
  refine g_if_ne F (tgt := 24) d_Ways_addKnown_1 (by decide) (fun h => ?_) (fun h => ?_)
  · rw [if_neg h] at hf
    refine g_aload_n F d_Ways_addKnown_24 0 rfl ?_
    refine g_get F (v := .ref (ad 2)) in_X2 6 rfl rfl 1 (by decide) mw_210 rfl d_Ways_addKnown_25 ?_
    refine g_iload_n F d_Ways_addKnown_28 1 rfl ?_
    obtain ⟨x1, hx1, hf⟩ := g_bind hf
    refine g_cv F (ws' := (Wc z ad cA sMt sSource x1 sReferenceWays sTagWays sCommentWays sOut)) (fun H locs ls hP hD hS hl => g_runV F (As := [.int a1]) (n := 1) mw_416 rfl rfl ⟨by decide, by decide⟩ rfl (by exact Nat.le_of_ble_eq_true rfl) mw_660 mw_414 mw_415 mw_75 (by decide +kernel) d_Ways_addKnown_29 hP hD hS hl (va_recv F.2.2.2.2.2.1 hP (ci := 2) rfl (q0 := 2) rfl) (c_Tokens_add l D cA z ad sMt sSource sTokens sReferenceWays sTagWays sCommentWays sOut a1 hx1 H.size)) ?_
    cases hf
    exact g_vret F hr hlk rfl rfl d_Ways_addKnown_32
  · rw [if_pos h] at hf
    refine g_aload_n F d_Ways_addKnown_4 0 rfl ?_
    refine g_get F (v := .ref (ad 1)) in_X2 6 rfl rfl 0 (by decide) mw_199 rfl d_Ways_addKnown_5 ?_
    refine g_iconst F (v := 1) d_Ways_addKnown_8 (by decide) ?_
    obtain ⟨x2, hx2, hf⟩ := g_bind hf
    refine g_cv F (ws' := (Wc z ad cA sMt x2 sTokens sReferenceWays sTagWays sCommentWays sOut)) (fun H locs ls hP hD hS hl => g_runV F (As := [.int 1]) (n := 1) mw_408 rfl rfl ⟨by decide, by decide⟩ rfl (by exact Nat.le_of_ble_eq_true rfl) mw_658 mw_406 mw_407 mw_74 (by decide +kernel) d_Ways_addKnown_9 hP hD hS hl (va_recv F.2.2.2.2.2.1 hP (ci := 1) rfl (q0 := 1) rfl) (c_Source_wrong l D cA z ad sMt sSource sTokens sReferenceWays sTagWays sCommentWays sOut 1 hx2 H.size)) ?_
    refine g_aload_n F d_Ways_addKnown_12 0 rfl ?_
    refine g_get F (v := .ref (ad 2)) in_X2 6 rfl rfl 1 (by decide) mw_210 rfl d_Ways_addKnown_13 ?_
    refine g_ldc F (v := 65533) mw_659 d_Ways_addKnown_16 ?_
    obtain ⟨x3, hx3, hf⟩ := g_bind hf
    refine g_cv F (ws' := (Wc z ad cA sMt x2 x3 sReferenceWays sTagWays sCommentWays sOut)) (fun H locs ls hP hD hS hl => g_runV F (As := [.int 65533]) (n := 1) mw_416 rfl rfl ⟨by decide, by decide⟩ rfl (by exact Nat.le_of_ble_eq_true rfl) mw_660 mw_414 mw_415 mw_75 (by decide +kernel) d_Ways_addKnown_18 hP hD hS hl (va_recv F.2.2.2.2.2.1 hP (ci := 2) rfl (q0 := 2) rfl) (c_Tokens_add l D cA z ad sMt x2 sTokens sReferenceWays sTagWays sCommentWays sOut 65533 hx3 H.size)) ?_
    refine g_goto F (tgt := 32) d_Ways_addKnown_21 (by decide) ?_
    cases hf
    exact g_vret F hr hlk rfl rfl d_Ways_addKnown_32
