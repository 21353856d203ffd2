section
-- ===== PART A: goes FIRST, ahead of the names: the tables' words, and 'selects' of the private methods out of them =====
/-- a private method of a class that the tables say can be made, by its rows of tables_1 -/
def lw_okq (q : MethodName × Nat) : Prop := (q.1.cls ≠ "java/lang/invoke/MethodHandle" ∧ q.1.cls ≠ "java/lang/invoke/VarHandle") ∧ Cond.instantiable q.1.cls q.2 ∈ tables_1 ∧ Cond.privateMethod q.1 ∈ tables_1 ∧ Cond.instanceMethod q.1 ∈ tables_1
theorem lw_p0 : lw_okq (⟨"MarkupTokens$Reader", "follow", "(LMarkupTokens$Way;I)LMarkupTokens$Way;"⟩, 6) := ⟨⟨by decide +kernel, by decide +kernel⟩, List.mem_of_getElem? (i := 110) (by decide +kernel), List.mem_of_getElem? (i := 297) (by decide +kernel), List.mem_of_getElem? (i := 298) (by decide +kernel)⟩
theorem lw_p1 : lw_okq (⟨"MarkupTokens$Reader", "data", "(I)LMarkupTokens$Way;"⟩, 6) := ⟨⟨by decide +kernel, by decide +kernel⟩, List.mem_of_getElem? (i := 110) (by decide +kernel), List.mem_of_getElem? (i := 309) (by decide +kernel), List.mem_of_getElem? (i := 310) (by decide +kernel)⟩
theorem lw_p2 : lw_okq (⟨"MarkupTokens$Tokens", "open", "(I)V"⟩, 15) := ⟨⟨by decide +kernel, by decide +kernel⟩, List.mem_of_getElem? (i := 58) (by decide +kernel), List.mem_of_getElem? (i := 317) (by decide +kernel), List.mem_of_getElem? (i := 318) (by decide +kernel)⟩
theorem lw_p3 : lw_okq (⟨"MarkupTokens$Reader", "addToText", "(I)V"⟩, 6) := ⟨⟨by decide +kernel, by decide +kernel⟩, List.mem_of_getElem? (i := 110) (by decide +kernel), List.mem_of_getElem? (i := 338) (by decide +kernel), List.mem_of_getElem? (i := 339) (by decide +kernel)⟩
theorem lw_p4 : lw_okq (⟨"MarkupTokens$Reader", "tag", "(I)LMarkupTokens$Way;"⟩, 6) := ⟨⟨by decide +kernel, by decide +kernel⟩, List.mem_of_getElem? (i := 110) (by decide +kernel), List.mem_of_getElem? (i := 346) (by decide +kernel), List.mem_of_getElem? (i := 347) (by decide +kernel)⟩
theorem lw_p5 : lw_okq (⟨"MarkupTokens$Reader", "bogus", "()LMarkupTokens$Way;"⟩, 6) := ⟨⟨by decide +kernel, by decide +kernel⟩, List.mem_of_getElem? (i := 110) (by decide +kernel), List.mem_of_getElem? (i := 367) (by decide +kernel), List.mem_of_getElem? (i := 368) (by decide +kernel)⟩
theorem lw_p6 : lw_okq (⟨"MarkupTokens$Reader", "endTag", "(I)LMarkupTokens$Way;"⟩, 6) := ⟨⟨by decide +kernel, by decide +kernel⟩, List.mem_of_getElem? (i := 110) (by decide +kernel), List.mem_of_getElem? (i := 373) (by decide +kernel), List.mem_of_getElem? (i := 374) (by decide +kernel)⟩
theorem lw_p7 : lw_okq (⟨"MarkupTokens$ReferenceWays", "longestName", "()LMarkupTokens$Named;"⟩, 3) := ⟨⟨by decide +kernel, by decide +kernel⟩, List.mem_of_getElem? (i := 119) (by decide +kernel), List.mem_of_getElem? (i := 394) (by decide +kernel), List.mem_of_getElem? (i := 395) (by decide +kernel)⟩
theorem lw_p8 : lw_okq (⟨"MarkupTokens$ReferenceWays", "addAsItIs", "(I)V"⟩, 3) := ⟨⟨by decide +kernel, by decide +kernel⟩, List.mem_of_getElem? (i := 119) (by decide +kernel), List.mem_of_getElem? (i := 469) (by decide +kernel), List.mem_of_getElem? (i := 470) (by decide +kernel)⟩
theorem lw_p9 : lw_okq (⟨"MarkupTokens$ReferenceWays", "readDigits", "(I)I"⟩, 3) := ⟨⟨by decide +kernel, by decide +kernel⟩, List.mem_of_getElem? (i := 119) (by decide +kernel), List.mem_of_getElem? (i := 485) (by decide +kernel), List.mem_of_getElem? (i := 486) (by decide +kernel)⟩
theorem lw_p10 : lw_okq (⟨"MarkupTokens$ReferenceWays", "characterOf", "(I)I"⟩, 3) := ⟨⟨by decide +kernel, by decide +kernel⟩, List.mem_of_getElem? (i := 119) (by decide +kernel), List.mem_of_getElem? (i := 494) (by decide +kernel), List.mem_of_getElem? (i := 495) (by decide +kernel)⟩
theorem lw_p11 : lw_okq (⟨"MarkupTokens$TagWays", "leave", "(I)LMarkupTokens$Way;"⟩, 4) := ⟨⟨by decide +kernel, by decide +kernel⟩, List.mem_of_getElem? (i := 157) (by decide +kernel), List.mem_of_getElem? (i := 532) (by decide +kernel), List.mem_of_getElem? (i := 533) (by decide +kernel)⟩
theorem lw_p12 : lw_okq (⟨"MarkupTokens$TagWays", "tagDone", "()LMarkupTokens$Way;"⟩, 4) := ⟨⟨by decide +kernel, by decide +kernel⟩, List.mem_of_getElem? (i := 157) (by decide +kernel), List.mem_of_getElem? (i := 539) (by decide +kernel), List.mem_of_getElem? (i := 540) (by decide +kernel)⟩
theorem lw_p13 : lw_okq (⟨"MarkupTokens$TagWays", "dropped", "()LMarkupTokens$Way;"⟩, 4) := ⟨⟨by decide +kernel, by decide +kernel⟩, List.mem_of_getElem? (i := 157) (by decide +kernel), List.mem_of_getElem? (i := 573) (by decide +kernel), List.mem_of_getElem? (i := 574) (by decide +kernel)⟩
theorem lw_p14 : lw_okq (⟨"MarkupTokens$TagWays", "leaveAttributeName", "()V"⟩, 4) := ⟨⟨by decide +kernel, by decide +kernel⟩, List.mem_of_getElem? (i := 157) (by decide +kernel), List.mem_of_getElem? (i := 609) (by decide +kernel), List.mem_of_getElem? (i := 610) (by decide +kernel)⟩
theorem lw_p15 : lw_okq (⟨"MarkupTokens$Tokens", "sameName", "(II)Z"⟩, 15) := ⟨⟨by decide +kernel, by decide +kernel⟩, List.mem_of_getElem? (i := 58) (by decide +kernel), List.mem_of_getElem? (i := 621) (by decide +kernel), List.mem_of_getElem? (i := 622) (by decide +kernel)⟩
def lw_privs_1 : List (MethodName × Nat) := [(⟨"MarkupTokens$Reader", "follow", "(LMarkupTokens$Way;I)LMarkupTokens$Way;"⟩, 6), (⟨"MarkupTokens$Reader", "data", "(I)LMarkupTokens$Way;"⟩, 6), (⟨"MarkupTokens$Tokens", "open", "(I)V"⟩, 15), (⟨"MarkupTokens$Reader", "addToText", "(I)V"⟩, 6), (⟨"MarkupTokens$Reader", "tag", "(I)LMarkupTokens$Way;"⟩, 6), (⟨"MarkupTokens$Reader", "bogus", "()LMarkupTokens$Way;"⟩, 6), (⟨"MarkupTokens$Reader", "endTag", "(I)LMarkupTokens$Way;"⟩, 6), (⟨"MarkupTokens$ReferenceWays", "longestName", "()LMarkupTokens$Named;"⟩, 3), (⟨"MarkupTokens$ReferenceWays", "addAsItIs", "(I)V"⟩, 3), (⟨"MarkupTokens$ReferenceWays", "readDigits", "(I)I"⟩, 3), (⟨"MarkupTokens$ReferenceWays", "characterOf", "(I)I"⟩, 3), (⟨"MarkupTokens$TagWays", "leave", "(I)LMarkupTokens$Way;"⟩, 4), (⟨"MarkupTokens$TagWays", "tagDone", "()LMarkupTokens$Way;"⟩, 4), (⟨"MarkupTokens$TagWays", "dropped", "()LMarkupTokens$Way;"⟩, 4), (⟨"MarkupTokens$TagWays", "leaveAttributeName", "()V"⟩, 4), (⟨"MarkupTokens$Tokens", "sameName", "(II)Z"⟩, 15)]
theorem lw_r1 : ∀ q ∈ lw_privs_1, lw_okq q := List.forall_mem_cons.mpr ⟨lw_p0, List.forall_mem_cons.mpr ⟨lw_p1, List.forall_mem_cons.mpr ⟨lw_p2, List.forall_mem_cons.mpr ⟨lw_p3, List.forall_mem_cons.mpr ⟨lw_p4, List.forall_mem_cons.mpr ⟨lw_p5, List.forall_mem_cons.mpr ⟨lw_p6, List.forall_mem_cons.mpr ⟨lw_p7, List.forall_mem_cons.mpr ⟨lw_p8, List.forall_mem_cons.mpr ⟨lw_p9, List.forall_mem_cons.mpr ⟨lw_p10, List.forall_mem_cons.mpr ⟨lw_p11, List.forall_mem_cons.mpr ⟨lw_p12, List.forall_mem_cons.mpr ⟨lw_p13, List.forall_mem_cons.mpr ⟨lw_p14, List.forall_mem_cons.mpr ⟨lw_p15, fun _ h => absurd h List.not_mem_nil⟩⟩⟩⟩⟩⟩⟩⟩⟩⟩⟩⟩⟩⟩⟩⟩
theorem lw_p16 : lw_okq (⟨"MarkupTokens$Reader", "mark", "(I)LMarkupTokens$Way;"⟩, 6) := ⟨⟨by decide +kernel, by decide +kernel⟩, List.mem_of_getElem? (i := 110) (by decide +kernel), List.mem_of_getElem? (i := 662) (by decide +kernel), List.mem_of_getElem? (i := 663) (by decide +kernel)⟩
theorem lw_p17 : lw_okq (⟨"MarkupTokens$Reader", "doctypeComes", "()Z"⟩, 6) := ⟨⟨by decide +kernel, by decide +kernel⟩, List.mem_of_getElem? (i := 110) (by decide +kernel), List.mem_of_getElem? (i := 671) (by decide +kernel), List.mem_of_getElem? (i := 672) (by decide +kernel)⟩
theorem lw_p18 : lw_okq (⟨"MarkupTokens$CommentWays", "closedEarly", "()LMarkupTokens$Way;"⟩, 3) := ⟨⟨by decide +kernel, by decide +kernel⟩, List.mem_of_getElem? (i := 172) (by decide +kernel), List.mem_of_getElem? (i := 713) (by decide +kernel), List.mem_of_getElem? (i := 714) (by decide +kernel)⟩
theorem lw_p19 : lw_okq (⟨"MarkupTokens$CommentWays", "unfinished", "()LMarkupTokens$Way;"⟩, 3) := ⟨⟨by decide +kernel, by decide +kernel⟩, List.mem_of_getElem? (i := 172) (by decide +kernel), List.mem_of_getElem? (i := 730) (by decide +kernel), List.mem_of_getElem? (i := 731) (by decide +kernel)⟩
theorem lw_p20 : lw_okq (⟨"MarkupTokens$CommentWays", "lookForNested", "(I)V"⟩, 3) := ⟨⟨by decide +kernel, by decide +kernel⟩, List.mem_of_getElem? (i := 172) (by decide +kernel), List.mem_of_getElem? (i := 735) (by decide +kernel), List.mem_of_getElem? (i := 736) (by decide +kernel)⟩
theorem lw_p21 : lw_okq (⟨"MarkupTokens$DoctypeWays", "oddAtEnd", "()LMarkupTokens$Way;"⟩, 2) := ⟨⟨by decide +kernel, by decide +kernel⟩, List.mem_of_getElem? (i := 184) (by decide +kernel), List.mem_of_getElem? (i := 775) (by decide +kernel), List.mem_of_getElem? (i := 776) (by decide +kernel)⟩
theorem lw_p22 : lw_okq (⟨"MarkupTokens$Out", "putText", "(I)V"⟩, 3) := ⟨⟨by decide +kernel, by decide +kernel⟩, List.mem_of_getElem? (i := 208) (by decide +kernel), List.mem_of_getElem? (i := 901) (by decide +kernel), List.mem_of_getElem? (i := 902) (by decide +kernel)⟩
theorem lw_p23 : lw_okq (⟨"MarkupTokens$Out", "putString", "(Ljava/lang/String;)V"⟩, 3) := ⟨⟨by decide +kernel, by decide +kernel⟩, List.mem_of_getElem? (i := 208) (by decide +kernel), List.mem_of_getElem? (i := 908) (by decide +kernel), List.mem_of_getElem? (i := 909) (by decide +kernel)⟩
theorem lw_p24 : lw_okq (⟨"MarkupTokens$Out", "putByte", "(I)V"⟩, 3) := ⟨⟨by decide +kernel, by decide +kernel⟩, List.mem_of_getElem? (i := 208) (by decide +kernel), List.mem_of_getElem? (i := 914) (by decide +kernel), List.mem_of_getElem? (i := 915) (by decide +kernel)⟩
theorem lw_p25 : lw_okq (⟨"MarkupTokens$Out", "putReferable", "(I)V"⟩, 3) := ⟨⟨by decide +kernel, by decide +kernel⟩, List.mem_of_getElem? (i := 208) (by decide +kernel), List.mem_of_getElem? (i := 918) (by decide +kernel), List.mem_of_getElem? (i := 919) (by decide +kernel)⟩
theorem lw_p26 : lw_okq (⟨"MarkupTokens$Out", "putDigits", "(I)V"⟩, 3) := ⟨⟨by decide +kernel, by decide +kernel⟩, List.mem_of_getElem? (i := 208) (by decide +kernel), List.mem_of_getElem? (i := 924) (by decide +kernel), List.mem_of_getElem? (i := 925) (by decide +kernel)⟩
theorem lw_p27 : lw_okq (⟨"MarkupTokens$Out", "putComment", "(I)V"⟩, 3) := ⟨⟨by decide +kernel, by decide +kernel⟩, List.mem_of_getElem? (i := 208) (by decide +kernel), List.mem_of_getElem? (i := 929) (by decide +kernel), List.mem_of_getElem? (i := 930) (by decide +kernel)⟩
theorem lw_p28 : lw_okq (⟨"MarkupTokens$Out", "putOwn", "(I)V"⟩, 3) := ⟨⟨by decide +kernel, by decide +kernel⟩, List.mem_of_getElem? (i := 208) (by decide +kernel), List.mem_of_getElem? (i := 934) (by decide +kernel), List.mem_of_getElem? (i := 935) (by decide +kernel)⟩
theorem lw_p29 : lw_okq (⟨"MarkupTokens$Out", "putPlain", "(I)V"⟩, 3) := ⟨⟨by decide +kernel, by decide +kernel⟩, List.mem_of_getElem? (i := 208) (by decide +kernel), List.mem_of_getElem? (i := 938) (by decide +kernel), List.mem_of_getElem? (i := 939) (by decide +kernel)⟩
theorem lw_p30 : lw_okq (⟨"MarkupTokens$Out", "putDoctype", "(I)V"⟩, 3) := ⟨⟨by decide +kernel, by decide +kernel⟩, List.mem_of_getElem? (i := 208) (by decide +kernel), List.mem_of_getElem? (i := 944) (by decide +kernel), List.mem_of_getElem? (i := 945) (by decide +kernel)⟩
theorem lw_p31 : lw_okq (⟨"MarkupTokens$Out", "putTag", "(I)V"⟩, 3) := ⟨⟨by decide +kernel, by decide +kernel⟩, List.mem_of_getElem? (i := 208) (by decide +kernel), List.mem_of_getElem? (i := 951) (by decide +kernel), List.mem_of_getElem? (i := 952) (by decide +kernel)⟩
def lw_privs_2 : List (MethodName × Nat) := [(⟨"MarkupTokens$Reader", "mark", "(I)LMarkupTokens$Way;"⟩, 6), (⟨"MarkupTokens$Reader", "doctypeComes", "()Z"⟩, 6), (⟨"MarkupTokens$CommentWays", "closedEarly", "()LMarkupTokens$Way;"⟩, 3), (⟨"MarkupTokens$CommentWays", "unfinished", "()LMarkupTokens$Way;"⟩, 3), (⟨"MarkupTokens$CommentWays", "lookForNested", "(I)V"⟩, 3), (⟨"MarkupTokens$DoctypeWays", "oddAtEnd", "()LMarkupTokens$Way;"⟩, 2), (⟨"MarkupTokens$Out", "putText", "(I)V"⟩, 3), (⟨"MarkupTokens$Out", "putString", "(Ljava/lang/String;)V"⟩, 3), (⟨"MarkupTokens$Out", "putByte", "(I)V"⟩, 3), (⟨"MarkupTokens$Out", "putReferable", "(I)V"⟩, 3), (⟨"MarkupTokens$Out", "putDigits", "(I)V"⟩, 3), (⟨"MarkupTokens$Out", "putComment", "(I)V"⟩, 3), (⟨"MarkupTokens$Out", "putOwn", "(I)V"⟩, 3), (⟨"MarkupTokens$Out", "putPlain", "(I)V"⟩, 3), (⟨"MarkupTokens$Out", "putDoctype", "(I)V"⟩, 3), (⟨"MarkupTokens$Out", "putTag", "(I)V"⟩, 3)]
theorem lw_r2 : ∀ q ∈ lw_privs_2, lw_okq q := List.forall_mem_cons.mpr ⟨lw_p16, List.forall_mem_cons.mpr ⟨lw_p17, List.forall_mem_cons.mpr ⟨lw_p18, List.forall_mem_cons.mpr ⟨lw_p19, List.forall_mem_cons.mpr ⟨lw_p20, List.forall_mem_cons.mpr ⟨lw_p21, List.forall_mem_cons.mpr ⟨lw_p22, List.forall_mem_cons.mpr ⟨lw_p23, List.forall_mem_cons.mpr ⟨lw_p24, List.forall_mem_cons.mpr ⟨lw_p25, List.forall_mem_cons.mpr ⟨lw_p26, List.forall_mem_cons.mpr ⟨lw_p27, List.forall_mem_cons.mpr ⟨lw_p28, List.forall_mem_cons.mpr ⟨lw_p29, List.forall_mem_cons.mpr ⟨lw_p30, List.forall_mem_cons.mpr ⟨lw_p31, fun _ h => absurd h List.not_mem_nil⟩⟩⟩⟩⟩⟩⟩⟩⟩⟩⟩⟩⟩⟩⟩⟩
theorem lw_p32 : lw_okq (⟨"MarkupTokens$Out", "putAttribute", "(II)V"⟩, 3) := ⟨⟨by decide +kernel, by decide +kernel⟩, List.mem_of_getElem? (i := 208) (by decide +kernel), List.mem_of_getElem? (i := 956) (by decide +kernel), List.mem_of_getElem? (i := 957) (by decide +kernel)⟩
theorem lw_p33 : lw_okq (⟨"MarkupTokensModel", "layDown", "()V"⟩, 32) := ⟨⟨by decide +kernel, by decide +kernel⟩, List.mem_of_getElem? (i := 976) (by decide +kernel), List.mem_of_getElem? (i := 1150) (by decide +kernel), List.mem_of_getElem? (i := 1151) (by decide +kernel)⟩
theorem lw_p34 : lw_okq (⟨"MarkupTokensModel", "charAt", "(I)I"⟩, 32) := ⟨⟨by decide +kernel, by decide +kernel⟩, List.mem_of_getElem? (i := 976) (by decide +kernel), List.mem_of_getElem? (i := 1154) (by decide +kernel), List.mem_of_getElem? (i := 1155) (by decide +kernel)⟩
theorem lw_p35 : lw_okq (⟨"MarkupTokensModel", "reference", "(Z)V"⟩, 32) := ⟨⟨by decide +kernel, by decide +kernel⟩, List.mem_of_getElem? (i := 976) (by decide +kernel), List.mem_of_getElem? (i := 1158) (by decide +kernel), List.mem_of_getElem? (i := 1159) (by decide +kernel)⟩
theorem lw_p36 : lw_okq (⟨"MarkupTokensModel", "number", "(IZ)V"⟩, 32) := ⟨⟨by decide +kernel, by decide +kernel⟩, List.mem_of_getElem? (i := 976) (by decide +kernel), List.mem_of_getElem? (i := 1162) (by decide +kernel), List.mem_of_getElem? (i := 1163) (by decide +kernel)⟩
theorem lw_p37 : lw_okq (⟨"MarkupTokensModel", "wrong", "(II)V"⟩, 32) := ⟨⟨by decide +kernel, by decide +kernel⟩, List.mem_of_getElem? (i := 976) (by decide +kernel), List.mem_of_getElem? (i := 1173) (by decide +kernel), List.mem_of_getElem? (i := 1174) (by decide +kernel)⟩
theorem lw_p38 : lw_okq (⟨"MarkupTokensModel", "giveAll", "(IZ)V"⟩, 32) := ⟨⟨by decide +kernel, by decide +kernel⟩, List.mem_of_getElem? (i := 976) (by decide +kernel), List.mem_of_getElem? (i := 1177) (by decide +kernel), List.mem_of_getElem? (i := 1178) (by decide +kernel)⟩
theorem lw_p39 : lw_okq (⟨"MarkupTokensModel", "give", "(IZ)V"⟩, 32) := ⟨⟨by decide +kernel, by decide +kernel⟩, List.mem_of_getElem? (i := 976) (by decide +kernel), List.mem_of_getElem? (i := 1181) (by decide +kernel), List.mem_of_getElem? (i := 1182) (by decide +kernel)⟩
theorem lw_p40 : lw_okq (⟨"MarkupTokensModel", "keep", "(I)V"⟩, 32) := ⟨⟨by decide +kernel, by decide +kernel⟩, List.mem_of_getElem? (i := 976) (by decide +kernel), List.mem_of_getElem? (i := 1185) (by decide +kernel), List.mem_of_getElem? (i := 1186) (by decide +kernel)⟩
theorem lw_p41 : lw_okq (⟨"MarkupTokensModel", "toText", "(I)V"⟩, 32) := ⟨⟨by decide +kernel, by decide +kernel⟩, List.mem_of_getElem? (i := 976) (by decide +kernel), List.mem_of_getElem? (i := 1189) (by decide +kernel), List.mem_of_getElem? (i := 1190) (by decide +kernel)⟩
theorem lw_p42 : lw_okq (⟨"MarkupTokensModel", "told", "(I)I"⟩, 32) := ⟨⟨by decide +kernel, by decide +kernel⟩, List.mem_of_getElem? (i := 976) (by decide +kernel), List.mem_of_getElem? (i := 1193) (by decide +kernel), List.mem_of_getElem? (i := 1194) (by decide +kernel)⟩
theorem lw_p43 : lw_okq (⟨"MarkupTokensModel", "named", "(IZ)V"⟩, 32) := ⟨⟨by decide +kernel, by decide +kernel⟩, List.mem_of_getElem? (i := 976) (by decide +kernel), List.mem_of_getElem? (i := 1213) (by decide +kernel), List.mem_of_getElem? (i := 1214) (by decide +kernel)⟩
theorem lw_p44 : lw_okq (⟨"MarkupTokensModel", "longest", "(I)I"⟩, 32) := ⟨⟨by decide +kernel, by decide +kernel⟩, List.mem_of_getElem? (i := 976) (by decide +kernel), List.mem_of_getElem? (i := 1217) (by decide +kernel), List.mem_of_getElem? (i := 1218) (by decide +kernel)⟩
theorem lw_p45 : lw_okq (⟨"MarkupTokensModel", "tag", "()V"⟩, 32) := ⟨⟨by decide +kernel, by decide +kernel⟩, List.mem_of_getElem? (i := 976) (by decide +kernel), List.mem_of_getElem? (i := 1222) (by decide +kernel), List.mem_of_getElem? (i := 1223) (by decide +kernel)⟩
theorem lw_p46 : lw_okq (⟨"MarkupTokensModel", "mark", "()V"⟩, 32) := ⟨⟨by decide +kernel, by decide +kernel⟩, List.mem_of_getElem? (i := 976) (by decide +kernel), List.mem_of_getElem? (i := 1226) (by decide +kernel), List.mem_of_getElem? (i := 1227) (by decide +kernel)⟩
theorem lw_p47 : lw_okq (⟨"MarkupTokensModel", "begin", "(I)V"⟩, 32) := ⟨⟨by decide +kernel, by decide +kernel⟩, List.mem_of_getElem? (i := 976) (by decide +kernel), List.mem_of_getElem? (i := 1230) (by decide +kernel), List.mem_of_getElem? (i := 1231) (by decide +kernel)⟩
def lw_privs_3 : List (MethodName × Nat) := [(⟨"MarkupTokens$Out", "putAttribute", "(II)V"⟩, 3), (⟨"MarkupTokensModel", "layDown", "()V"⟩, 32), (⟨"MarkupTokensModel", "charAt", "(I)I"⟩, 32), (⟨"MarkupTokensModel", "reference", "(Z)V"⟩, 32), (⟨"MarkupTokensModel", "number", "(IZ)V"⟩, 32), (⟨"MarkupTokensModel", "wrong", "(II)V"⟩, 32), (⟨"MarkupTokensModel", "giveAll", "(IZ)V"⟩, 32), (⟨"MarkupTokensModel", "give", "(IZ)V"⟩, 32), (⟨"MarkupTokensModel", "keep", "(I)V"⟩, 32), (⟨"MarkupTokensModel", "toText", "(I)V"⟩, 32), (⟨"MarkupTokensModel", "told", "(I)I"⟩, 32), (⟨"MarkupTokensModel", "named", "(IZ)V"⟩, 32), (⟨"MarkupTokensModel", "longest", "(I)I"⟩, 32), (⟨"MarkupTokensModel", "tag", "()V"⟩, 32), (⟨"MarkupTokensModel", "mark", "()V"⟩, 32), (⟨"MarkupTokensModel", "begin", "(I)V"⟩, 32)]
theorem lw_r3 : ∀ q ∈ lw_privs_3, lw_okq q := List.forall_mem_cons.mpr ⟨lw_p32, List.forall_mem_cons.mpr ⟨lw_p33, List.forall_mem_cons.mpr ⟨lw_p34, List.forall_mem_cons.mpr ⟨lw_p35, List.forall_mem_cons.mpr ⟨lw_p36, List.forall_mem_cons.mpr ⟨lw_p37, List.forall_mem_cons.mpr ⟨lw_p38, List.forall_mem_cons.mpr ⟨lw_p39, List.forall_mem_cons.mpr ⟨lw_p40, List.forall_mem_cons.mpr ⟨lw_p41, List.forall_mem_cons.mpr ⟨lw_p42, List.forall_mem_cons.mpr ⟨lw_p43, List.forall_mem_cons.mpr ⟨lw_p44, List.forall_mem_cons.mpr ⟨lw_p45, List.forall_mem_cons.mpr ⟨lw_p46, List.forall_mem_cons.mpr ⟨lw_p47, fun _ h => absurd h List.not_mem_nil⟩⟩⟩⟩⟩⟩⟩⟩⟩⟩⟩⟩⟩⟩⟩⟩
theorem lw_p48 : lw_okq (⟨"MarkupTokensModel", "begin0", "(II)V"⟩, 32) := ⟨⟨by decide +kernel, by decide +kernel⟩, List.mem_of_getElem? (i := 976) (by decide +kernel), List.mem_of_getElem? (i := 1234) (by decide +kernel), List.mem_of_getElem? (i := 1235) (by decide +kernel)⟩
theorem lw_p49 : lw_okq (⟨"MarkupTokensModel", "comment", "()V"⟩, 32) := ⟨⟨by decide +kernel, by decide +kernel⟩, List.mem_of_getElem? (i := 976) (by decide +kernel), List.mem_of_getElem? (i := 1238) (by decide +kernel), List.mem_of_getElem? (i := 1239) (by decide +kernel)⟩
theorem lw_p50 : lw_okq (⟨"MarkupTokensModel", "tell", "()V"⟩, 32) := ⟨⟨by decide +kernel, by decide +kernel⟩, List.mem_of_getElem? (i := 976) (by decide +kernel), List.mem_of_getElem? (i := 1242) (by decide +kernel), List.mem_of_getElem? (i := 1243) (by decide +kernel)⟩
theorem lw_p51 : lw_okq (⟨"MarkupTokensModel", "commentEnd", "(I)I"⟩, 32) := ⟨⟨by decide +kernel, by decide +kernel⟩, List.mem_of_getElem? (i := 976) (by decide +kernel), List.mem_of_getElem? (i := 1246) (by decide +kernel), List.mem_of_getElem? (i := 1247) (by decide +kernel)⟩
theorem lw_p52 : lw_okq (⟨"MarkupTokensModel", "isDoctype", "()Z"⟩, 32) := ⟨⟨by decide +kernel, by decide +kernel⟩, List.mem_of_getElem? (i := 976) (by decide +kernel), List.mem_of_getElem? (i := 1250) (by decide +kernel), List.mem_of_getElem? (i := 1251) (by decide +kernel)⟩
theorem lw_p53 : lw_okq (⟨"MarkupTokensModel", "doctype", "()V"⟩, 32) := ⟨⟨by decide +kernel, by decide +kernel⟩, List.mem_of_getElem? (i := 976) (by decide +kernel), List.mem_of_getElem? (i := 1258) (by decide +kernel), List.mem_of_getElem? (i := 1259) (by decide +kernel)⟩
theorem lw_p54 : lw_okq (⟨"MarkupTokensModel", "skipBlanks", "()V"⟩, 32) := ⟨⟨by decide +kernel, by decide +kernel⟩, List.mem_of_getElem? (i := 976) (by decide +kernel), List.mem_of_getElem? (i := 1262) (by decide +kernel), List.mem_of_getElem? (i := 1263) (by decide +kernel)⟩
theorem lw_p55 : lw_okq (⟨"MarkupTokensModel", "known", "()I"⟩, 32) := ⟨⟨by decide +kernel, by decide +kernel⟩, List.mem_of_getElem? (i := 976) (by decide +kernel), List.mem_of_getElem? (i := 1266) (by decide +kernel), List.mem_of_getElem? (i := 1267) (by decide +kernel)⟩
theorem lw_p56 : lw_okq (⟨"MarkupTokensModel", "bogus", "()V"⟩, 32) := ⟨⟨by decide +kernel, by decide +kernel⟩, List.mem_of_getElem? (i := 976) (by decide +kernel), List.mem_of_getElem? (i := 1270) (by decide +kernel), List.mem_of_getElem? (i := 1271) (by decide +kernel)⟩
theorem lw_p57 : lw_okq (⟨"MarkupTokensModel", "stop", "()V"⟩, 32) := ⟨⟨by decide +kernel, by decide +kernel⟩, List.mem_of_getElem? (i := 976) (by decide +kernel), List.mem_of_getElem? (i := 1274) (by decide +kernel), List.mem_of_getElem? (i := 1275) (by decide +kernel)⟩
theorem lw_p58 : lw_okq (⟨"MarkupTokensModel", "tagName", "()V"⟩, 32) := ⟨⟨by decide +kernel, by decide +kernel⟩, List.mem_of_getElem? (i := 976) (by decide +kernel), List.mem_of_getElem? (i := 1278) (by decide +kernel), List.mem_of_getElem? (i := 1279) (by decide +kernel)⟩
theorem lw_p59 : lw_okq (⟨"MarkupTokensModel", "behindName", "()Z"⟩, 32) := ⟨⟨by decide +kernel, by decide +kernel⟩, List.mem_of_getElem? (i := 976) (by decide +kernel), List.mem_of_getElem? (i := 1282) (by decide +kernel), List.mem_of_getElem? (i := 1283) (by decide +kernel)⟩
theorem lw_p60 : lw_okq (⟨"MarkupTokensModel", "drop", "()V"⟩, 32) := ⟨⟨by decide +kernel, by decide +kernel⟩, List.mem_of_getElem? (i := 976) (by decide +kernel), List.mem_of_getElem? (i := 1286) (by decide +kernel), List.mem_of_getElem? (i := 1287) (by decide +kernel)⟩
theorem lw_p61 : lw_okq (⟨"MarkupTokensModel", "finish", "()V"⟩, 32) := ⟨⟨by decide +kernel, by decide +kernel⟩, List.mem_of_getElem? (i := 976) (by decide +kernel), List.mem_of_getElem? (i := 1290) (by decide +kernel), List.mem_of_getElem? (i := 1291) (by decide +kernel)⟩
theorem lw_p62 : lw_okq (⟨"MarkupTokensModel", "attribute", "()Z"⟩, 32) := ⟨⟨by decide +kernel, by decide +kernel⟩, List.mem_of_getElem? (i := 976) (by decide +kernel), List.mem_of_getElem? (i := 1294) (by decide +kernel), List.mem_of_getElem? (i := 1295) (by decide +kernel)⟩
theorem lw_p63 : lw_okq (⟨"MarkupTokensModel", "isThere", "(I)Z"⟩, 32) := ⟨⟨by decide +kernel, by decide +kernel⟩, List.mem_of_getElem? (i := 976) (by decide +kernel), List.mem_of_getElem? (i := 1298) (by decide +kernel), List.mem_of_getElem? (i := 1299) (by decide +kernel)⟩
def lw_privs_4 : List (MethodName × Nat) := [(⟨"MarkupTokensModel", "begin0", "(II)V"⟩, 32), (⟨"MarkupTokensModel", "comment", "()V"⟩, 32), (⟨"MarkupTokensModel", "tell", "()V"⟩, 32), (⟨"MarkupTokensModel", "commentEnd", "(I)I"⟩, 32), (⟨"MarkupTokensModel", "isDoctype", "()Z"⟩, 32), (⟨"MarkupTokensModel", "doctype", "()V"⟩, 32), (⟨"MarkupTokensModel", "skipBlanks", "()V"⟩, 32), (⟨"MarkupTokensModel", "known", "()I"⟩, 32), (⟨"MarkupTokensModel", "bogus", "()V"⟩, 32), (⟨"MarkupTokensModel", "stop", "()V"⟩, 32), (⟨"MarkupTokensModel", "tagName", "()V"⟩, 32), (⟨"MarkupTokensModel", "behindName", "()Z"⟩, 32), (⟨"MarkupTokensModel", "drop", "()V"⟩, 32), (⟨"MarkupTokensModel", "finish", "()V"⟩, 32), (⟨"MarkupTokensModel", "attribute", "()Z"⟩, 32), (⟨"MarkupTokensModel", "isThere", "(I)Z"⟩, 32)]
theorem lw_r4 : ∀ q ∈ lw_privs_4, lw_okq q := List.forall_mem_cons.mpr ⟨lw_p48, List.forall_mem_cons.mpr ⟨lw_p49, List.forall_mem_cons.mpr ⟨lw_p50, List.forall_mem_cons.mpr ⟨lw_p51, List.forall_mem_cons.mpr ⟨lw_p52, List.forall_mem_cons.mpr ⟨lw_p53, List.forall_mem_cons.mpr ⟨lw_p54, List.forall_mem_cons.mpr ⟨lw_p55, List.forall_mem_cons.mpr ⟨lw_p56, List.forall_mem_cons.mpr ⟨lw_p57, List.forall_mem_cons.mpr ⟨lw_p58, List.forall_mem_cons.mpr ⟨lw_p59, List.forall_mem_cons.mpr ⟨lw_p60, List.forall_mem_cons.mpr ⟨lw_p61, List.forall_mem_cons.mpr ⟨lw_p62, List.forall_mem_cons.mpr ⟨lw_p63, fun _ h => absurd h List.not_mem_nil⟩⟩⟩⟩⟩⟩⟩⟩⟩⟩⟩⟩⟩⟩⟩⟩
theorem lw_p64 : lw_okq (⟨"MarkupTokensModel", "value", "(I)Z"⟩, 32) := ⟨⟨by decide +kernel, by decide +kernel⟩, List.mem_of_getElem? (i := 976) (by decide +kernel), List.mem_of_getElem? (i := 1302) (by decide +kernel), List.mem_of_getElem? (i := 1303) (by decide +kernel)⟩
theorem lw_p65 : lw_okq (⟨"MarkupTokensModel", "isPart", "(III)Z"⟩, 32) := ⟨⟨by decide +kernel, by decide +kernel⟩, List.mem_of_getElem? (i := 976) (by decide +kernel), List.mem_of_getElem? (i := 1318) (by decide +kernel), List.mem_of_getElem? (i := 1319) (by decide +kernel)⟩
theorem lw_p66 : lw_okq (⟨"MarkupTokensModel", "putCharacter", "(IZ)V"⟩, 32) := ⟨⟨by decide +kernel, by decide +kernel⟩, List.mem_of_getElem? (i := 976) (by decide +kernel), List.mem_of_getElem? (i := 1339) (by decide +kernel), List.mem_of_getElem? (i := 1340) (by decide +kernel)⟩
theorem lw_p67 : lw_okq (⟨"MarkupTokensModel", "putAll", "(J)V"⟩, 32) := ⟨⟨by decide +kernel, by decide +kernel⟩, List.mem_of_getElem? (i := 976) (by decide +kernel), List.mem_of_getElem? (i := 1344) (by decide +kernel), List.mem_of_getElem? (i := 1345) (by decide +kernel)⟩
theorem lw_p68 : lw_okq (⟨"MarkupTokensModel", "put", "(I)V"⟩, 32) := ⟨⟨by decide +kernel, by decide +kernel⟩, List.mem_of_getElem? (i := 976) (by decide +kernel), List.mem_of_getElem? (i := 1348) (by decide +kernel), List.mem_of_getElem? (i := 1349) (by decide +kernel)⟩
theorem lw_p69 : lw_okq (⟨"MarkupTokensModel", "putNumber", "(I)V"⟩, 32) := ⟨⟨by decide +kernel, by decide +kernel⟩, List.mem_of_getElem? (i := 976) (by decide +kernel), List.mem_of_getElem? (i := 1355) (by decide +kernel), List.mem_of_getElem? (i := 1356) (by decide +kernel)⟩
theorem lw_p70 : lw_okq (⟨"MarkupTokensModel", "putRow", "(II)V"⟩, 32) := ⟨⟨by decide +kernel, by decide +kernel⟩, List.mem_of_getElem? (i := 976) (by decide +kernel), List.mem_of_getElem? (i := 1360) (by decide +kernel), List.mem_of_getElem? (i := 1361) (by decide +kernel)⟩
theorem lw_p71 : lw_okq (⟨"MarkupTokensModel", "putTag", "(I)V"⟩, 32) := ⟨⟨by decide +kernel, by decide +kernel⟩, List.mem_of_getElem? (i := 976) (by decide +kernel), List.mem_of_getElem? (i := 1369) (by decide +kernel), List.mem_of_getElem? (i := 1370) (by decide +kernel)⟩
def lw_privs_5 : List (MethodName × Nat) := [(⟨"MarkupTokensModel", "value", "(I)Z"⟩, 32), (⟨"MarkupTokensModel", "isPart", "(III)Z"⟩, 32), (⟨"MarkupTokensModel", "putCharacter", "(IZ)V"⟩, 32), (⟨"MarkupTokensModel", "putAll", "(J)V"⟩, 32), (⟨"MarkupTokensModel", "put", "(I)V"⟩, 32), (⟨"MarkupTokensModel", "putNumber", "(I)V"⟩, 32), (⟨"MarkupTokensModel", "putRow", "(II)V"⟩, 32), (⟨"MarkupTokensModel", "putTag", "(I)V"⟩, 32)]
theorem lw_r5 : ∀ q ∈ lw_privs_5, lw_okq q := List.forall_mem_cons.mpr ⟨lw_p64, List.forall_mem_cons.mpr ⟨lw_p65, List.forall_mem_cons.mpr ⟨lw_p66, List.forall_mem_cons.mpr ⟨lw_p67, List.forall_mem_cons.mpr ⟨lw_p68, List.forall_mem_cons.mpr ⟨lw_p69, List.forall_mem_cons.mpr ⟨lw_p70, List.forall_mem_cons.mpr ⟨lw_p71, fun _ h => absurd h List.not_mem_nil⟩⟩⟩⟩⟩⟩⟩⟩
def lw_privs : List (MethodName × Nat) := lw_privs_1 ++ (lw_privs_2 ++ (lw_privs_3 ++ (lw_privs_4 ++ (lw_privs_5))))
def lw_tbl : List Cond := k2_sels lw_privs ++ tables_1
theorem lw_privs_ok : ∀ q ∈ lw_privs, lw_okq q := by
  show ∀ q ∈ lw_privs_1 ++ (lw_privs_2 ++ (lw_privs_3 ++ (lw_privs_4 ++ (lw_privs_5)))), lw_okq q
  exact List.forall_mem_append.mpr ⟨lw_r1, List.forall_mem_append.mpr ⟨lw_r2, List.forall_mem_append.mpr ⟨lw_r3, List.forall_mem_append.mpr ⟨lw_r4, lw_r5⟩⟩⟩⟩
end
section
def RX0 : String := "MarkupTokens$1"
def TX0 : u_T := fun k => match k with
  | _ => ("", "", "", false)
def tyX0 : Nat → FieldType := fun k => match k with
  | _ => .int
abbrev wsX00 : List Cond := u_ws RX0 TX0 0
theorem nmX0 : ∀ a, a < 0 → ∀ b, b < 0 → a ≠ b → (TX0 a).2.1 ≠ (TX0 b).2.1 := by decide +kernel
theorem tyX0_ok : ∀ k, k < 0 → parseFieldDescriptor (TX0 k).2.2.1 = some (tyX0 k) := by decide +kernel
def RX1 : String := "MarkupTokens$CommentWays"
def TX1 : u_T := fun k => match k with
  | 0 => ("MarkupTokens$Ways", "source", "LMarkupTokens$Source;", true)
  | 1 => ("MarkupTokens$Ways", "tokens", "LMarkupTokens$Tokens;", true)
  | _ => ("MarkupTokens$CommentWays", "nestedPlace", "I", false)
def tyX1 : Nat → FieldType := fun k => match k with
  | 0 => .object "MarkupTokens$Source"
  | 1 => .object "MarkupTokens$Tokens"
  | _ => .int
abbrev wsX10 : List Cond := u_ws RX1 TX1 3
theorem nmX1 : ∀ a, a < 3 → ∀ b, b < 3 → a ≠ b → (TX1 a).2.1 ≠ (TX1 b).2.1 := by decide +kernel
theorem tyX1_ok : ∀ k, k < 3 → parseFieldDescriptor (TX1 k).2.2.1 = some (tyX1 k) := by decide +kernel
abbrev cX1_init : ByteArray := prog_3_method_1_code
def yX1_init : MethodName := ⟨RX1, "<init>", "(LMarkupTokens$Source;LMarkupTokens$Tokens;)V"⟩
def RX2 : String := "MarkupTokens$DoctypeWays"
def TX2 : u_T := fun k => match k with
  | 0 => ("MarkupTokens$Ways", "source", "LMarkupTokens$Source;", true)
  | _ => ("MarkupTokens$Ways", "tokens", "LMarkupTokens$Tokens;", true)
def tyX2 : Nat → FieldType := fun k => match k with
  | 0 => .object "MarkupTokens$Source"
  | _ => .object "MarkupTokens$Tokens"
abbrev wsX20 : List Cond := u_ws RX2 TX2 2
theorem nmX2 : ∀ a, a < 2 → ∀ b, b < 2 → a ≠ b → (TX2 a).2.1 ≠ (TX2 b).2.1 := by decide +kernel
theorem tyX2_ok : ∀ k, k < 2 → parseFieldDescriptor (TX2 k).2.2.1 = some (tyX2 k) := by decide +kernel
abbrev cX2_init : ByteArray := prog_4_method_1_code
def yX2_init : MethodName := ⟨RX2, "<init>", "(LMarkupTokens$Source;LMarkupTokens$Tokens;)V"⟩
def RX3 : String := "MarkupTokens$Named"
def TX3 : u_T := fun k => match k with
  | _ => ("", "", "", false)
def tyX3 : Nat → FieldType := fun k => match k with
  | _ => .int
abbrev wsX30 : List Cond := u_ws RX3 TX3 0
theorem nmX3 : ∀ a, a < 0 → ∀ b, b < 0 → a ≠ b → (TX3 a).2.1 ≠ (TX3 b).2.1 := by decide +kernel
theorem tyX3_ok : ∀ k, k < 0 → parseFieldDescriptor (TX3 k).2.2.1 = some (tyX3 k) := by decide +kernel
def RX4 : String := "MarkupTokens$Out"
def TX4 : u_T := fun k => match k with
  | 0 => ("MarkupTokens$Out", "tokens", "LMarkupTokens$Tokens;", true)
  | 1 => ("MarkupTokens$Out", "bytes", "[B", true)
  | _ => ("MarkupTokens$Out", "length", "I", false)
def tyX4 : Nat → FieldType := fun k => match k with
  | 0 => .object "MarkupTokens$Tokens"
  | 1 => .array .byte
  | _ => .int
abbrev wsX40 : List Cond := u_ws RX4 TX4 3
theorem nmX4 : ∀ a, a < 3 → ∀ b, b < 3 → a ≠ b → (TX4 a).2.1 ≠ (TX4 b).2.1 := by decide +kernel
theorem tyX4_ok : ∀ k, k < 3 → parseFieldDescriptor (TX4 k).2.2.1 = some (tyX4 k) := by decide +kernel
abbrev cX4_init : ByteArray := prog_6_method_1_code
def yX4_init : MethodName := ⟨RX4, "<init>", "(LMarkupTokens$Tokens;)V"⟩
def RX5 : String := "MarkupTokens$Reader"
def TX5 : u_T := fun k => match k with
  | 0 => ("MarkupTokens$Ways", "source", "LMarkupTokens$Source;", true)
  | 1 => ("MarkupTokens$Ways", "tokens", "LMarkupTokens$Tokens;", true)
  | 2 => ("MarkupTokens$Reader", "references", "LMarkupTokens$ReferenceWays;", true)
  | 3 => ("MarkupTokens$Reader", "tags", "LMarkupTokens$TagWays;", true)
  | 4 => ("MarkupTokens$Reader", "comments", "LMarkupTokens$CommentWays;", true)
  | _ => ("MarkupTokens$Reader", "doctypes", "LMarkupTokens$DoctypeWays;", true)
def tyX5 : Nat → FieldType := fun k => match k with
  | 0 => .object "MarkupTokens$Source"
  | 1 => .object "MarkupTokens$Tokens"
  | 2 => .object "MarkupTokens$ReferenceWays"
  | 3 => .object "MarkupTokens$TagWays"
  | 4 => .object "MarkupTokens$CommentWays"
  | _ => .object "MarkupTokens$DoctypeWays"
abbrev wsX50 : List Cond := u_ws RX5 TX5 6
theorem nmX5 : ∀ a, a < 6 → ∀ b, b < 6 → a ≠ b → (TX5 a).2.1 ≠ (TX5 b).2.1 := by decide +kernel
theorem tyX5_ok : ∀ k, k < 6 → parseFieldDescriptor (TX5 k).2.2.1 = some (tyX5 k) := by decide +kernel
abbrev cX5_init : ByteArray := prog_7_method_1_code
def yX5_init : MethodName := ⟨RX5, "<init>", "(LMarkupTokens$Source;LMarkupTokens$Tokens;)V"⟩
def RX6 : String := "MarkupTokens$ReferenceWays"
def TX6 : u_T := fun k => match k with
  | 0 => ("MarkupTokens$Ways", "source", "LMarkupTokens$Source;", true)
  | 1 => ("MarkupTokens$Ways", "tokens", "LMarkupTokens$Tokens;", true)
  | _ => ("MarkupTokens$ReferenceWays", "back", "LMarkupTokens$Way;", false)
def tyX6 : Nat → FieldType := fun k => match k with
  | 0 => .object "MarkupTokens$Source"
  | 1 => .object "MarkupTokens$Tokens"
  | _ => .object "MarkupTokens$Way"
abbrev wsX60 : List Cond := u_ws RX6 TX6 3
theorem nmX6 : ∀ a, a < 3 → ∀ b, b < 3 → a ≠ b → (TX6 a).2.1 ≠ (TX6 b).2.1 := by decide +kernel
theorem tyX6_ok : ∀ k, k < 3 → parseFieldDescriptor (TX6 k).2.2.1 = some (tyX6 k) := by decide +kernel
abbrev cX6_init : ByteArray := prog_8_method_1_code
def yX6_init : MethodName := ⟨RX6, "<init>", "(LMarkupTokens$Source;LMarkupTokens$Tokens;)V"⟩
def RX7 : String := "MarkupTokens$Source"
def TX7 : u_T := fun k => match k with
  | 0 => ("MarkupTokens$Source", "characters", "[I", true)
  | 1 => ("MarkupTokens$Source", "count", "I", false)
  | 2 => ("MarkupTokens$Source", "place", "I", false)
  | 3 => ("MarkupTokens$Source", "codes", "[I", true)
  | 4 => ("MarkupTokens$Source", "places", "[I", true)
  | _ => ("MarkupTokens$Source", "faultCount", "I", false)
def tyX7 : Nat → FieldType := fun k => match k with
  | 0 => .array .int
  | 1 => .int
  | 2 => .int
  | 3 => .array .int
  | 4 => .array .int
  | _ => .int
abbrev wsX70 : List Cond := u_ws RX7 TX7 6
theorem nmX7 : ∀ a, a < 6 → ∀ b, b < 6 → a ≠ b → (TX7 a).2.1 ≠ (TX7 b).2.1 := by decide +kernel
theorem tyX7_ok : ∀ k, k < 6 → parseFieldDescriptor (TX7 k).2.2.1 = some (tyX7 k) := by decide +kernel
abbrev cX7_init : ByteArray := prog_9_method_1_code
def yX7_init : MethodName := ⟨RX7, "<init>", "()V"⟩
def RX8 : String := "MarkupTokens$TagWays"
def TX8 : u_T := fun k => match k with
  | 0 => ("MarkupTokens$Ways", "source", "LMarkupTokens$Source;", true)
  | 1 => ("MarkupTokens$Ways", "tokens", "LMarkupTokens$Tokens;", true)
  | 2 => ("MarkupTokens$TagWays", "references", "LMarkupTokens$ReferenceWays;", true)
  | _ => ("MarkupTokens$TagWays", "quote", "I", false)
def tyX8 : Nat → FieldType := fun k => match k with
  | 0 => .object "MarkupTokens$Source"
  | 1 => .object "MarkupTokens$Tokens"
  | 2 => .object "MarkupTokens$ReferenceWays"
  | _ => .int
abbrev wsX80 : List Cond := u_ws RX8 TX8 4
theorem nmX8 : ∀ a, a < 4 → ∀ b, b < 4 → a ≠ b → (TX8 a).2.1 ≠ (TX8 b).2.1 := by decide +kernel
theorem tyX8_ok : ∀ k, k < 4 → parseFieldDescriptor (TX8 k).2.2.1 = some (tyX8 k) := by decide +kernel
abbrev cX8_init : ByteArray := prog_10_method_1_code
def yX8_init : MethodName := ⟨RX8, "<init>", "(LMarkupTokens$Source;LMarkupTokens$Tokens;LMarkupTokens$ReferenceWays;)V"⟩
def RX9 : String := "MarkupTokens$Tokens"
def TX9 : u_T := fun k => match k with
  | 0 => ("MarkupTokens$Tokens", "row", "[I", true)
  | 1 => ("MarkupTokens$Tokens", "used", "I", false)
  | 2 => ("MarkupTokens$Tokens", "kinds", "[I", true)
  | 3 => ("MarkupTokens$Tokens", "starts", "[I", true)
  | 4 => ("MarkupTokens$Tokens", "ends", "[I", true)
  | 5 => ("MarkupTokens$Tokens", "marks", "[I", true)
  | 6 => ("MarkupTokens$Tokens", "firstAttributes", "[I", true)
  | 7 => ("MarkupTokens$Tokens", "attributeCounts", "[I", true)
  | 8 => ("MarkupTokens$Tokens", "count", "I", false)
  | 9 => ("MarkupTokens$Tokens", "inText", "Z", false)
  | 10 => ("MarkupTokens$Tokens", "nameStarts", "[I", true)
  | 11 => ("MarkupTokens$Tokens", "valueStarts", "[I", true)
  | 12 => ("MarkupTokens$Tokens", "valueEnds", "[I", true)
  | 13 => ("MarkupTokens$Tokens", "attributesUsed", "I", false)
  | _ => ("MarkupTokens$Tokens", "inAttribute", "Z", false)
def tyX9 : Nat → FieldType := fun k => match k with
  | 0 => .array .int
  | 1 => .int
  | 2 => .array .int
  | 3 => .array .int
  | 4 => .array .int
  | 5 => .array .int
  | 6 => .array .int
  | 7 => .array .int
  | 8 => .int
  | 9 => .boolean
  | 10 => .array .int
  | 11 => .array .int
  | 12 => .array .int
  | 13 => .int
  | _ => .boolean
abbrev wsX90 : List Cond := u_ws RX9 TX9 15
theorem nmX9 : ∀ a, a < 15 → ∀ b, b < 15 → a ≠ b → (TX9 a).2.1 ≠ (TX9 b).2.1 := by decide +kernel
theorem tyX9_ok : ∀ k, k < 15 → parseFieldDescriptor (TX9 k).2.2.1 = some (tyX9 k) := by decide +kernel
abbrev cX9_init : ByteArray := prog_11_method_1_code
def yX9_init : MethodName := ⟨RX9, "<init>", "()V"⟩
def RX10 : String := "MarkupTokens$Way"
def TX10 : u_T := fun k => match k with
  | _ => ("", "", "", false)
def tyX10 : Nat → FieldType := fun k => match k with
  | _ => .int
abbrev wsX100 : List Cond := u_ws RX10 TX10 0
theorem nmX10 : ∀ a, a < 0 → ∀ b, b < 0 → a ≠ b → (TX10 a).2.1 ≠ (TX10 b).2.1 := by decide +kernel
theorem tyX10_ok : ∀ k, k < 0 → parseFieldDescriptor (TX10 k).2.2.1 = some (tyX10 k) := by decide +kernel
def RX11 : String := "MarkupTokens$Ways"
def TX11 : u_T := fun k => match k with
  | _ => ("", "", "", false)
def tyX11 : Nat → FieldType := fun k => match k with
  | _ => .int
abbrev wsX110 : List Cond := u_ws RX11 TX11 0
theorem nmX11 : ∀ a, a < 0 → ∀ b, b < 0 → a ≠ b → (TX11 a).2.1 ≠ (TX11 b).2.1 := by decide +kernel
theorem tyX11_ok : ∀ k, k < 0 → parseFieldDescriptor (TX11 k).2.2.1 = some (tyX11 k) := by decide +kernel
abbrev cX11_init : ByteArray := prog_13_method_1_code
def yX11_init : MethodName := ⟨RX11, "<init>", "(LMarkupTokens$Source;LMarkupTokens$Tokens;)V"⟩
def RX12 : String := "MarkupTokens"
def TX12 : u_T := fun k => match k with
  | 0 => ("MarkupTokens", "text", "[B", true)
  | 1 => ("MarkupTokens", "textLength", "I", false)
  | 2 => ("MarkupTokens", "source", "LMarkupTokens$Source;", true)
  | 3 => ("MarkupTokens", "tokens", "LMarkupTokens$Tokens;", true)
  | 4 => ("MarkupTokens", "reader", "LMarkupTokens$Reader;", true)
  | _ => ("MarkupTokens", "out", "LMarkupTokens$Out;", true)
def tyX12 : Nat → FieldType := fun k => match k with
  | 0 => .array .byte
  | 1 => .int
  | 2 => .object "MarkupTokens$Source"
  | 3 => .object "MarkupTokens$Tokens"
  | 4 => .object "MarkupTokens$Reader"
  | _ => .object "MarkupTokens$Out"
abbrev wsX120 : List Cond := u_ws RX12 TX12 6
theorem nmX12 : ∀ a, a < 6 → ∀ b, b < 6 → a ≠ b → (TX12 a).2.1 ≠ (TX12 b).2.1 := by decide +kernel
theorem tyX12_ok : ∀ k, k < 6 → parseFieldDescriptor (TX12 k).2.2.1 = some (tyX12 k) := by decide +kernel
abbrev cX12_init : ByteArray := prog_1_method_1_code
def yX12_init : MethodName := ⟨RX12, "<init>", "()V"⟩
def RX13 : String := "MarkupTokensModel"
def TX13 : u_T := fun k => match k with
  | 0 => ("MarkupTokensModel", "names", "[J", true)
  | 1 => ("MarkupTokensModel", "gives", "[I", true)
  | 2 => ("MarkupTokensModel", "turned", "[I", true)
  | 3 => ("MarkupTokensModel", "size", "I", false)
  | 4 => ("MarkupTokensModel", "bytes", "[B", true)
  | 5 => ("MarkupTokensModel", "n", "I", false)
  | 6 => ("MarkupTokensModel", "text", "[I", true)
  | 7 => ("MarkupTokensModel", "p", "I", false)
  | 8 => ("MarkupTokensModel", "ended", "Z", false)
  | 9 => ("MarkupTokensModel", "tokens", "I", false)
  | 10 => ("MarkupTokensModel", "kinds", "[I", true)
  | 11 => ("MarkupTokensModel", "firsts", "[I", true)
  | 12 => ("MarkupTokensModel", "sizes", "[I", true)
  | 13 => ("MarkupTokensModel", "marks", "[Z", true)
  | 14 => ("MarkupTokensModel", "attributes", "[I", true)
  | 15 => ("MarkupTokensModel", "manyOf", "[I", true)
  | 16 => ("MarkupTokensModel", "attributeCount", "I", false)
  | 17 => ("MarkupTokensModel", "nameAt", "[I", true)
  | 18 => ("MarkupTokensModel", "nameSize", "[I", true)
  | 19 => ("MarkupTokensModel", "valueAt", "[I", true)
  | 20 => ("MarkupTokensModel", "valueSize", "[I", true)
  | 21 => ("MarkupTokensModel", "goes", "[Z", true)
  | 22 => ("MarkupTokensModel", "rowSize", "I", false)
  | 23 => ("MarkupTokensModel", "row", "[I", true)
  | 24 => ("MarkupTokensModel", "textAt", "I", false)
  | 25 => ("MarkupTokensModel", "textSize", "I", false)
  | 26 => ("MarkupTokensModel", "faultCount", "I", false)
  | 27 => ("MarkupTokensModel", "codes", "[I", true)
  | 28 => ("MarkupTokensModel", "places", "[I", true)
  | 29 => ("MarkupTokensModel", "outSize", "I", false)
  | 30 => ("MarkupTokensModel", "out", "[B", true)
  | _ => ("MarkupTokensModel", "which", "I", false)
def tyX13 : Nat → FieldType := fun k => match k with
  | 0 => .array .long
  | 1 => .array .int
  | 2 => .array .int
  | 3 => .int
  | 4 => .array .byte
  | 5 => .int
  | 6 => .array .int
  | 7 => .int
  | 8 => .boolean
  | 9 => .int
  | 10 => .array .int
  | 11 => .array .int
  | 12 => .array .int
  | 13 => .array .boolean
  | 14 => .array .int
  | 15 => .array .int
  | 16 => .int
  | 17 => .array .int
  | 18 => .array .int
  | 19 => .array .int
  | 20 => .array .int
  | 21 => .array .boolean
  | 22 => .int
  | 23 => .array .int
  | 24 => .int
  | 25 => .int
  | 26 => .int
  | 27 => .array .int
  | 28 => .array .int
  | 29 => .int
  | 30 => .array .byte
  | _ => .int
theorem nmX13 : ∀ a, a < 32 → ∀ b, b < 32 → a ≠ b → (TX13 a).2.1 ≠ (TX13 b).2.1 := by decide +kernel
theorem tyX13_ok : ∀ k, k < 32 → parseFieldDescriptor (TX13 k).2.2.1 = some (tyX13 k) := by decide +kernel
def RJx29ce0 : String := "java/lang/Enum"
def TJx29ce0 : u_T := fun k => match k with
  | _ => ("", "", "", false)
def tyJx29ce0 : Nat → FieldType := fun k => match k with
  | _ => .int
abbrev wsJx29ce00 : List Cond := u_ws RJx29ce0 TJx29ce0 0
theorem nmJx29ce0 : ∀ a, a < 0 → ∀ b, b < 0 → a ≠ b → (TJx29ce0 a).2.1 ≠ (TJx29ce0 b).2.1 := by decide +kernel
theorem tyJx29ce0_ok : ∀ k, k < 0 → parseFieldDescriptor (TJx29ce0 k).2.2.1 = some (tyJx29ce0 k) := by decide +kernel
def RJ9 : String := "java/lang/Math"
def TJ9 : u_T := fun k => match k with
  | _ => ("", "", "", false)
def tyJ9 : Nat → FieldType := fun k => match k with
  | _ => .int
abbrev wsJ90 : List Cond := u_ws RJ9 TJ9 0
theorem nmJ9 : ∀ a, a < 0 → ∀ b, b < 0 → a ≠ b → (TJ9 a).2.1 ≠ (TJ9 b).2.1 := by decide +kernel
theorem tyJ9_ok : ∀ k, k < 0 → parseFieldDescriptor (TJ9 k).2.2.1 = some (tyJ9 k) := by decide +kernel
def RJ0 : String := "java/lang/String"
def TJ0 : u_T := fun k => match k with
  | _ => ("", "", "", false)
def tyJ0 : Nat → FieldType := fun k => match k with
  | _ => .int
abbrev wsJ00 : List Cond := u_ws RJ0 TJ0 0
theorem nmJ0 : ∀ a, a < 0 → ∀ b, b < 0 → a ≠ b → (TJ0 a).2.1 ≠ (TJ0 b).2.1 := by decide +kernel
theorem tyJ0_ok : ∀ k, k < 0 → parseFieldDescriptor (TJ0 k).2.2.1 = some (tyJ0 k) := by decide +kernel
def RJ1 : String := "java/lang/StringLatin1"
def TJ1 : u_T := fun k => match k with
  | _ => ("", "", "", false)
def tyJ1 : Nat → FieldType := fun k => match k with
  | _ => .int
abbrev wsJ10 : List Cond := u_ws RJ1 TJ1 0
theorem nmJ1 : ∀ a, a < 0 → ∀ b, b < 0 → a ≠ b → (TJ1 a).2.1 ≠ (TJ1 b).2.1 := by decide +kernel
theorem tyJ1_ok : ∀ k, k < 0 → parseFieldDescriptor (TJ1 k).2.2.1 = some (tyJ1 k) := by decide +kernel
def RJ2 : String := "java/lang/StringUTF16"
def TJ2 : u_T := fun k => match k with
  | _ => ("", "", "", false)
def tyJ2 : Nat → FieldType := fun k => match k with
  | _ => .int
abbrev wsJ20 : List Cond := u_ws RJ2 TJ2 0
theorem nmJ2 : ∀ a, a < 0 → ∀ b, b < 0 → a ≠ b → (TJ2 a).2.1 ≠ (TJ2 b).2.1 := by decide +kernel
theorem tyJ2_ok : ∀ k, k < 0 → parseFieldDescriptor (TJ2 k).2.2.1 = some (tyJ2 k) := by decide +kernel
def RJ10 : String := "java/lang/System"
def TJ10 : u_T := fun k => match k with
  | _ => ("", "", "", false)
def tyJ10 : Nat → FieldType := fun k => match k with
  | _ => .int
abbrev wsJ100 : List Cond := u_ws RJ10 TJ10 0
theorem nmJ10 : ∀ a, a < 0 → ∀ b, b < 0 → a ≠ b → (TJ10 a).2.1 ≠ (TJ10 b).2.1 := by decide +kernel
theorem tyJ10_ok : ∀ k, k < 0 → parseFieldDescriptor (TJ10 k).2.2.1 = some (tyJ10 k) := by decide +kernel
def RJ3 : String := "jdk/internal/util/Preconditions"
def TJ3 : u_T := fun k => match k with
  | _ => ("", "", "", false)
def tyJ3 : Nat → FieldType := fun k => match k with
  | _ => .int
abbrev wsJ30 : List Cond := u_ws RJ3 TJ3 0
theorem nmJ3 : ∀ a, a < 0 → ∀ b, b < 0 → a ≠ b → (TJ3 a).2.1 ≠ (TJ3 b).2.1 := by decide +kernel
theorem tyJ3_ok : ∀ k, k < 0 → parseFieldDescriptor (TJ3 k).2.2.1 = some (tyJ3 k) := by decide +kernel
def RL : String := "MarkupTokensLaw"
abbrev cL_law : ByteArray := code
def yL_law : MethodName := ⟨RL, "law", "([I)Z"⟩
theorem dX1_init_0 : decode cX1_init 0 = .ok (.aload_n 0, 1) := by decide +kernel
theorem dX1_init_1 : decode cX1_init 1 = .ok (.aload_n 1, 1) := by decide +kernel
theorem dX1_init_2 : decode cX1_init 2 = .ok (.aload_n 2, 1) := by decide +kernel
theorem dX1_init_3 : decode cX1_init 3 = .ok (.invokespecial 3, 3) := by decide +kernel
theorem dX1_init_6 : decode cX1_init 6 = .ok (.aload_n 0, 1) := by decide +kernel
theorem dX1_init_7 : decode cX1_init 7 = .ok (.iconst (-1), 1) := by decide +kernel
theorem dX1_init_8 : decode cX1_init 8 = .ok (.putfield 11, 3) := by decide +kernel
theorem dX1_init_11 : decode cX1_init 11 = .ok (.return_, 1) := by decide +kernel
theorem dX2_init_0 : decode cX2_init 0 = .ok (.aload_n 0, 1) := by decide +kernel
theorem dX2_init_1 : decode cX2_init 1 = .ok (.aload_n 1, 1) := by decide +kernel
theorem dX2_init_2 : decode cX2_init 2 = .ok (.aload_n 2, 1) := by decide +kernel
theorem dX2_init_3 : decode cX2_init 3 = .ok (.invokespecial 3, 3) := by decide +kernel
theorem dX2_init_6 : decode cX2_init 6 = .ok (.return_, 1) := by decide +kernel
theorem dX4_init_0 : decode cX4_init 0 = .ok (.aload_n 0, 1) := by decide +kernel
theorem dX4_init_1 : decode cX4_init 1 = .ok (.invokespecial 3, 3) := by decide +kernel
theorem dX4_init_4 : decode cX4_init 4 = .ok (.aload_n 0, 1) := by decide +kernel
theorem dX4_init_5 : decode cX4_init 5 = .ok (.sipush 3200, 3) := by decide +kernel
theorem dX4_init_8 : decode cX4_init 8 = .ok (.newarray .byte, 2) := by decide +kernel
theorem dX4_init_10 : decode cX4_init 10 = .ok (.putfield 11, 3) := by decide +kernel
theorem dX4_init_13 : decode cX4_init 13 = .ok (.aload_n 0, 1) := by decide +kernel
theorem dX4_init_14 : decode cX4_init 14 = .ok (.iconst 0, 1) := by decide +kernel
theorem dX4_init_15 : decode cX4_init 15 = .ok (.putfield 15, 3) := by decide +kernel
theorem dX4_init_18 : decode cX4_init 18 = .ok (.aload_n 0, 1) := by decide +kernel
theorem dX4_init_19 : decode cX4_init 19 = .ok (.aload_n 1, 1) := by decide +kernel
theorem dX4_init_20 : decode cX4_init 20 = .ok (.putfield 19, 3) := by decide +kernel
theorem dX4_init_23 : decode cX4_init 23 = .ok (.return_, 1) := by decide +kernel
theorem dX5_init_0 : decode cX5_init 0 = .ok (.aload_n 0, 1) := by decide +kernel
theorem dX5_init_1 : decode cX5_init 1 = .ok (.aload_n 1, 1) := by decide +kernel
theorem dX5_init_2 : decode cX5_init 2 = .ok (.aload_n 2, 1) := by decide +kernel
theorem dX5_init_3 : decode cX5_init 3 = .ok (.invokespecial 3, 3) := by decide +kernel
theorem dX5_init_6 : decode cX5_init 6 = .ok (.aload_n 0, 1) := by decide +kernel
theorem dX5_init_7 : decode cX5_init 7 = .ok (.new 9, 3) := by decide +kernel
theorem dX5_init_10 : decode cX5_init 10 = .ok (.dup, 1) := by decide +kernel
theorem dX5_init_11 : decode cX5_init 11 = .ok (.aload_n 1, 1) := by decide +kernel
theorem dX5_init_12 : decode cX5_init 12 = .ok (.aload_n 2, 1) := by decide +kernel
theorem dX5_init_13 : decode cX5_init 13 = .ok (.invokespecial 11, 3) := by decide +kernel
theorem dX5_init_16 : decode cX5_init 16 = .ok (.putfield 12, 3) := by decide +kernel
theorem dX5_init_19 : decode cX5_init 19 = .ok (.aload_n 0, 1) := by decide +kernel
theorem dX5_init_20 : decode cX5_init 20 = .ok (.new 18, 3) := by decide +kernel
theorem dX5_init_23 : decode cX5_init 23 = .ok (.dup, 1) := by decide +kernel
theorem dX5_init_24 : decode cX5_init 24 = .ok (.aload_n 1, 1) := by decide +kernel
theorem dX5_init_25 : decode cX5_init 25 = .ok (.aload_n 2, 1) := by decide +kernel
theorem dX5_init_26 : decode cX5_init 26 = .ok (.aload_n 0, 1) := by decide +kernel
theorem dX5_init_27 : decode cX5_init 27 = .ok (.getfield 12, 3) := by decide +kernel
theorem dX5_init_30 : decode cX5_init 30 = .ok (.invokespecial 20, 3) := by decide +kernel
theorem dX5_init_33 : decode cX5_init 33 = .ok (.putfield 23, 3) := by decide +kernel
theorem dX5_init_36 : decode cX5_init 36 = .ok (.aload_n 0, 1) := by decide +kernel
theorem dX5_init_37 : decode cX5_init 37 = .ok (.new 27, 3) := by decide +kernel
theorem dX5_init_40 : decode cX5_init 40 = .ok (.dup, 1) := by decide +kernel
theorem dX5_init_41 : decode cX5_init 41 = .ok (.aload_n 1, 1) := by decide +kernel
theorem dX5_init_42 : decode cX5_init 42 = .ok (.aload_n 2, 1) := by decide +kernel
theorem dX5_init_43 : decode cX5_init 43 = .ok (.invokespecial 29, 3) := by decide +kernel
theorem dX5_init_46 : decode cX5_init 46 = .ok (.putfield 30, 3) := by decide +kernel
theorem dX5_init_49 : decode cX5_init 49 = .ok (.aload_n 0, 1) := by decide +kernel
theorem dX5_init_50 : decode cX5_init 50 = .ok (.new 34, 3) := by decide +kernel
theorem dX5_init_53 : decode cX5_init 53 = .ok (.dup, 1) := by decide +kernel
theorem dX5_init_54 : decode cX5_init 54 = .ok (.aload_n 1, 1) := by decide +kernel
theorem dX5_init_55 : decode cX5_init 55 = .ok (.aload_n 2, 1) := by decide +kernel
theorem dX5_init_56 : decode cX5_init 56 = .ok (.invokespecial 36, 3) := by decide +kernel
theorem dX5_init_59 : decode cX5_init 59 = .ok (.putfield 37, 3) := by decide +kernel
theorem dX5_init_62 : decode cX5_init 62 = .ok (.return_, 1) := by decide +kernel
theorem dX6_init_0 : decode cX6_init 0 = .ok (.aload_n 0, 1) := by decide +kernel
theorem dX6_init_1 : decode cX6_init 1 = .ok (.aload_n 1, 1) := by decide +kernel
theorem dX6_init_2 : decode cX6_init 2 = .ok (.aload_n 2, 1) := by decide +kernel
theorem dX6_init_3 : decode cX6_init 3 = .ok (.invokespecial 3, 3) := by decide +kernel
theorem dX6_init_6 : decode cX6_init 6 = .ok (.aload_n 0, 1) := by decide +kernel
theorem dX6_init_7 : decode cX6_init 7 = .ok (.getstatic 9, 3) := by decide +kernel
theorem dX6_init_10 : decode cX6_init 10 = .ok (.putfield 15, 3) := by decide +kernel
theorem dX6_init_13 : decode cX6_init 13 = .ok (.return_, 1) := by decide +kernel
theorem dX7_init_0 : decode cX7_init 0 = .ok (.aload_n 0, 1) := by decide +kernel
theorem dX7_init_1 : decode cX7_init 1 = .ok (.invokespecial 3, 3) := by decide +kernel
theorem dX7_init_4 : decode cX7_init 4 = .ok (.aload_n 0, 1) := by decide +kernel
theorem dX7_init_5 : decode cX7_init 5 = .ok (.sipush 400, 3) := by decide +kernel
theorem dX7_init_8 : decode cX7_init 8 = .ok (.newarray .int, 2) := by decide +kernel
theorem dX7_init_10 : decode cX7_init 10 = .ok (.putfield 9, 3) := by decide +kernel
theorem dX7_init_13 : decode cX7_init 13 = .ok (.aload_n 0, 1) := by decide +kernel
theorem dX7_init_14 : decode cX7_init 14 = .ok (.iconst 0, 1) := by decide +kernel
theorem dX7_init_15 : decode cX7_init 15 = .ok (.putfield 15, 3) := by decide +kernel
theorem dX7_init_18 : decode cX7_init 18 = .ok (.aload_n 0, 1) := by decide +kernel
theorem dX7_init_19 : decode cX7_init 19 = .ok (.iconst 0, 1) := by decide +kernel
theorem dX7_init_20 : decode cX7_init 20 = .ok (.putfield 19, 3) := by decide +kernel
theorem dX7_init_23 : decode cX7_init 23 = .ok (.aload_n 0, 1) := by decide +kernel
theorem dX7_init_24 : decode cX7_init 24 = .ok (.sipush 1203, 3) := by decide +kernel
theorem dX7_init_27 : decode cX7_init 27 = .ok (.newarray .int, 2) := by decide +kernel
theorem dX7_init_29 : decode cX7_init 29 = .ok (.putfield 22, 3) := by decide +kernel
theorem dX7_init_32 : decode cX7_init 32 = .ok (.aload_n 0, 1) := by decide +kernel
theorem dX7_init_33 : decode cX7_init 33 = .ok (.sipush 1203, 3) := by decide +kernel
theorem dX7_init_36 : decode cX7_init 36 = .ok (.newarray .int, 2) := by decide +kernel
theorem dX7_init_38 : decode cX7_init 38 = .ok (.putfield 25, 3) := by decide +kernel
theorem dX7_init_41 : decode cX7_init 41 = .ok (.aload_n 0, 1) := by decide +kernel
theorem dX7_init_42 : decode cX7_init 42 = .ok (.iconst 0, 1) := by decide +kernel
theorem dX7_init_43 : decode cX7_init 43 = .ok (.putfield 28, 3) := by decide +kernel
theorem dX7_init_46 : decode cX7_init 46 = .ok (.return_, 1) := by decide +kernel
theorem dX8_init_0 : decode cX8_init 0 = .ok (.aload_n 0, 1) := by decide +kernel
theorem dX8_init_1 : decode cX8_init 1 = .ok (.aload_n 1, 1) := by decide +kernel
theorem dX8_init_2 : decode cX8_init 2 = .ok (.aload_n 2, 1) := by decide +kernel
theorem dX8_init_3 : decode cX8_init 3 = .ok (.invokespecial 3, 3) := by decide +kernel
theorem dX8_init_6 : decode cX8_init 6 = .ok (.aload_n 0, 1) := by decide +kernel
theorem dX8_init_7 : decode cX8_init 7 = .ok (.bipush 34, 2) := by decide +kernel
theorem dX8_init_9 : decode cX8_init 9 = .ok (.putfield 9, 3) := by decide +kernel
theorem dX8_init_12 : decode cX8_init 12 = .ok (.aload_n 0, 1) := by decide +kernel
theorem dX8_init_13 : decode cX8_init 13 = .ok (.aload_n 3, 1) := by decide +kernel
theorem dX8_init_14 : decode cX8_init 14 = .ok (.putfield 15, 3) := by decide +kernel
theorem dX8_init_17 : decode cX8_init 17 = .ok (.return_, 1) := by decide +kernel
theorem dX9_init_0 : decode cX9_init 0 = .ok (.aload_n 0, 1) := by decide +kernel
theorem dX9_init_1 : decode cX9_init 1 = .ok (.invokespecial 3, 3) := by decide +kernel
theorem dX9_init_4 : decode cX9_init 4 = .ok (.aload_n 0, 1) := by decide +kernel
theorem dX9_init_5 : decode cX9_init 5 = .ok (.sipush 400, 3) := by decide +kernel
theorem dX9_init_8 : decode cX9_init 8 = .ok (.newarray .int, 2) := by decide +kernel
theorem dX9_init_10 : decode cX9_init 10 = .ok (.putfield 11, 3) := by decide +kernel
theorem dX9_init_13 : decode cX9_init 13 = .ok (.aload_n 0, 1) := by decide +kernel
theorem dX9_init_14 : decode cX9_init 14 = .ok (.iconst 0, 1) := by decide +kernel
theorem dX9_init_15 : decode cX9_init 15 = .ok (.putfield 15, 3) := by decide +kernel
theorem dX9_init_18 : decode cX9_init 18 = .ok (.aload_n 0, 1) := by decide +kernel
theorem dX9_init_19 : decode cX9_init 19 = .ok (.sipush 400, 3) := by decide +kernel
theorem dX9_init_22 : decode cX9_init 22 = .ok (.newarray .int, 2) := by decide +kernel
theorem dX9_init_24 : decode cX9_init 24 = .ok (.putfield 19, 3) := by decide +kernel
theorem dX9_init_27 : decode cX9_init 27 = .ok (.aload_n 0, 1) := by decide +kernel
theorem dX9_init_28 : decode cX9_init 28 = .ok (.sipush 400, 3) := by decide +kernel
theorem dX9_init_31 : decode cX9_init 31 = .ok (.newarray .int, 2) := by decide +kernel
theorem dX9_init_33 : decode cX9_init 33 = .ok (.putfield 22, 3) := by decide +kernel
theorem dX9_init_36 : decode cX9_init 36 = .ok (.aload_n 0, 1) := by decide +kernel
theorem dX9_init_37 : decode cX9_init 37 = .ok (.sipush 400, 3) := by decide +kernel
theorem dX9_init_40 : decode cX9_init 40 = .ok (.newarray .int, 2) := by decide +kernel
theorem dX9_init_42 : decode cX9_init 42 = .ok (.putfield 25, 3) := by decide +kernel
theorem dX9_init_45 : decode cX9_init 45 = .ok (.aload_n 0, 1) := by decide +kernel
theorem dX9_init_46 : decode cX9_init 46 = .ok (.sipush 400, 3) := by decide +kernel
theorem dX9_init_49 : decode cX9_init 49 = .ok (.newarray .int, 2) := by decide +kernel
theorem dX9_init_51 : decode cX9_init 51 = .ok (.putfield 28, 3) := by decide +kernel
theorem dX9_init_54 : decode cX9_init 54 = .ok (.aload_n 0, 1) := by decide +kernel
theorem dX9_init_55 : decode cX9_init 55 = .ok (.sipush 400, 3) := by decide +kernel
theorem dX9_init_58 : decode cX9_init 58 = .ok (.newarray .int, 2) := by decide +kernel
theorem dX9_init_60 : decode cX9_init 60 = .ok (.putfield 31, 3) := by decide +kernel
theorem dX9_init_63 : decode cX9_init 63 = .ok (.aload_n 0, 1) := by decide +kernel
theorem dX9_init_64 : decode cX9_init 64 = .ok (.sipush 400, 3) := by decide +kernel
theorem dX9_init_67 : decode cX9_init 67 = .ok (.newarray .int, 2) := by decide +kernel
theorem dX9_init_69 : decode cX9_init 69 = .ok (.putfield 34, 3) := by decide +kernel
theorem dX9_init_72 : decode cX9_init 72 = .ok (.aload_n 0, 1) := by decide +kernel
theorem dX9_init_73 : decode cX9_init 73 = .ok (.iconst 0, 1) := by decide +kernel
theorem dX9_init_74 : decode cX9_init 74 = .ok (.putfield 37, 3) := by decide +kernel
theorem dX9_init_77 : decode cX9_init 77 = .ok (.aload_n 0, 1) := by decide +kernel
theorem dX9_init_78 : decode cX9_init 78 = .ok (.iconst 0, 1) := by decide +kernel
theorem dX9_init_79 : decode cX9_init 79 = .ok (.putfield 40, 3) := by decide +kernel
theorem dX9_init_82 : decode cX9_init 82 = .ok (.aload_n 0, 1) := by decide +kernel
theorem dX9_init_83 : decode cX9_init 83 = .ok (.sipush 400, 3) := by decide +kernel
theorem dX9_init_86 : decode cX9_init 86 = .ok (.newarray .int, 2) := by decide +kernel
theorem dX9_init_88 : decode cX9_init 88 = .ok (.putfield 44, 3) := by decide +kernel
theorem dX9_init_91 : decode cX9_init 91 = .ok (.aload_n 0, 1) := by decide +kernel
theorem dX9_init_92 : decode cX9_init 92 = .ok (.sipush 400, 3) := by decide +kernel
theorem dX9_init_95 : decode cX9_init 95 = .ok (.newarray .int, 2) := by decide +kernel
theorem dX9_init_97 : decode cX9_init 97 = .ok (.putfield 47, 3) := by decide +kernel
theorem dX9_init_100 : decode cX9_init 100 = .ok (.aload_n 0, 1) := by decide +kernel
theorem dX9_init_101 : decode cX9_init 101 = .ok (.sipush 400, 3) := by decide +kernel
theorem dX9_init_104 : decode cX9_init 104 = .ok (.newarray .int, 2) := by decide +kernel
theorem dX9_init_106 : decode cX9_init 106 = .ok (.putfield 50, 3) := by decide +kernel
theorem dX9_init_109 : decode cX9_init 109 = .ok (.aload_n 0, 1) := by decide +kernel
theorem dX9_init_110 : decode cX9_init 110 = .ok (.iconst 0, 1) := by decide +kernel
theorem dX9_init_111 : decode cX9_init 111 = .ok (.putfield 53, 3) := by decide +kernel
theorem dX9_init_114 : decode cX9_init 114 = .ok (.aload_n 0, 1) := by decide +kernel
theorem dX9_init_115 : decode cX9_init 115 = .ok (.iconst 0, 1) := by decide +kernel
theorem dX9_init_116 : decode cX9_init 116 = .ok (.putfield 56, 3) := by decide +kernel
theorem dX9_init_119 : decode cX9_init 119 = .ok (.return_, 1) := by decide +kernel
theorem dX11_init_0 : decode cX11_init 0 = .ok (.aload_n 0, 1) := by decide +kernel
theorem dX11_init_1 : decode cX11_init 1 = .ok (.invokespecial 3, 3) := by decide +kernel
theorem dX11_init_4 : decode cX11_init 4 = .ok (.aload_n 0, 1) := by decide +kernel
theorem dX11_init_5 : decode cX11_init 5 = .ok (.aload_n 1, 1) := by decide +kernel
theorem dX11_init_6 : decode cX11_init 6 = .ok (.putfield 9, 3) := by decide +kernel
theorem dX11_init_9 : decode cX11_init 9 = .ok (.aload_n 0, 1) := by decide +kernel
theorem dX11_init_10 : decode cX11_init 10 = .ok (.aload_n 2, 1) := by decide +kernel
theorem dX11_init_11 : decode cX11_init 11 = .ok (.putfield 15, 3) := by decide +kernel
theorem dX11_init_14 : decode cX11_init 14 = .ok (.return_, 1) := by decide +kernel
theorem dX12_init_0 : decode cX12_init 0 = .ok (.aload_n 0, 1) := by decide +kernel
theorem dX12_init_1 : decode cX12_init 1 = .ok (.invokespecial 1, 3) := by decide +kernel
theorem dX12_init_4 : decode cX12_init 4 = .ok (.aload_n 0, 1) := by decide +kernel
theorem dX12_init_5 : decode cX12_init 5 = .ok (.sipush 400, 3) := by decide +kernel
theorem dX12_init_8 : decode cX12_init 8 = .ok (.newarray .byte, 2) := by decide +kernel
theorem dX12_init_10 : decode cX12_init 10 = .ok (.putfield 9, 3) := by decide +kernel
theorem dX12_init_13 : decode cX12_init 13 = .ok (.aload_n 0, 1) := by decide +kernel
theorem dX12_init_14 : decode cX12_init 14 = .ok (.iconst 0, 1) := by decide +kernel
theorem dX12_init_15 : decode cX12_init 15 = .ok (.putfield 13, 3) := by decide +kernel
theorem dX12_init_18 : decode cX12_init 18 = .ok (.aload_n 0, 1) := by decide +kernel
theorem dX12_init_19 : decode cX12_init 19 = .ok (.new 17, 3) := by decide +kernel
theorem dX12_init_22 : decode cX12_init 22 = .ok (.dup, 1) := by decide +kernel
theorem dX12_init_23 : decode cX12_init 23 = .ok (.invokespecial 19, 3) := by decide +kernel
theorem dX12_init_26 : decode cX12_init 26 = .ok (.putfield 20, 3) := by decide +kernel
theorem dX12_init_29 : decode cX12_init 29 = .ok (.aload_n 0, 1) := by decide +kernel
theorem dX12_init_30 : decode cX12_init 30 = .ok (.new 24, 3) := by decide +kernel
theorem dX12_init_33 : decode cX12_init 33 = .ok (.dup, 1) := by decide +kernel
theorem dX12_init_34 : decode cX12_init 34 = .ok (.invokespecial 26, 3) := by decide +kernel
theorem dX12_init_37 : decode cX12_init 37 = .ok (.putfield 27, 3) := by decide +kernel
theorem dX12_init_40 : decode cX12_init 40 = .ok (.aload_n 0, 1) := by decide +kernel
theorem dX12_init_41 : decode cX12_init 41 = .ok (.new 31, 3) := by decide +kernel
theorem dX12_init_44 : decode cX12_init 44 = .ok (.dup, 1) := by decide +kernel
theorem dX12_init_45 : decode cX12_init 45 = .ok (.aload_n 0, 1) := by decide +kernel
theorem dX12_init_46 : decode cX12_init 46 = .ok (.getfield 20, 3) := by decide +kernel
theorem dX12_init_49 : decode cX12_init 49 = .ok (.aload_n 0, 1) := by decide +kernel
theorem dX12_init_50 : decode cX12_init 50 = .ok (.getfield 27, 3) := by decide +kernel
theorem dX12_init_53 : decode cX12_init 53 = .ok (.invokespecial 33, 3) := by decide +kernel
theorem dX12_init_56 : decode cX12_init 56 = .ok (.putfield 36, 3) := by decide +kernel
theorem dX12_init_59 : decode cX12_init 59 = .ok (.aload_n 0, 1) := by decide +kernel
theorem dX12_init_60 : decode cX12_init 60 = .ok (.new 40, 3) := by decide +kernel
theorem dX12_init_63 : decode cX12_init 63 = .ok (.dup, 1) := by decide +kernel
theorem dX12_init_64 : decode cX12_init 64 = .ok (.aload_n 0, 1) := by decide +kernel
theorem dX12_init_65 : decode cX12_init 65 = .ok (.getfield 27, 3) := by decide +kernel
theorem dX12_init_68 : decode cX12_init 68 = .ok (.invokespecial 42, 3) := by decide +kernel
theorem dX12_init_71 : decode cX12_init 71 = .ok (.putfield 45, 3) := by decide +kernel
theorem dX12_init_74 : decode cX12_init 74 = .ok (.return_, 1) := by decide +kernel
theorem dL_law_0 : decode cL_law 0 = .ok (.new 7, 3) := by decide +kernel
theorem dL_law_3 : decode cL_law 3 = .ok (.dup, 1) := by decide +kernel
theorem dL_law_4 : decode cL_law 4 = .ok (.invokespecial 9, 3) := by decide +kernel
theorem dL_law_7 : decode cL_law 7 = .ok (.astore_n 1, 1) := by decide +kernel
theorem dL_law_8 : decode cL_law 8 = .ok (.new 10, 3) := by decide +kernel
theorem dL_law_11 : decode cL_law 11 = .ok (.dup, 1) := by decide +kernel
theorem dL_law_12 : decode cL_law 12 = .ok (.invokespecial 12, 3) := by decide +kernel
theorem dL_law_15 : decode cL_law 15 = .ok (.astore_n 2, 1) := by decide +kernel
theorem dL_law_16 : decode cL_law 16 = .ok (.iconst 0, 1) := by decide +kernel
theorem dL_law_17 : decode cL_law 17 = .ok (.istore_n 3, 1) := by decide +kernel
theorem dL_law_18 : decode cL_law 18 = .ok (.iload_n 3, 1) := by decide +kernel
theorem dL_law_19 : decode cL_law 19 = .ok (.aload_n 0, 1) := by decide +kernel
theorem dL_law_20 : decode cL_law 20 = .ok (.arraylength, 1) := by decide +kernel
theorem dL_law_21 : decode cL_law 21 = .ok (.iconst 5, 1) := by decide +kernel
theorem dL_law_22 : decode cL_law 22 = .ok (.isub, 1) := by decide +kernel
theorem dL_law_23 : decode cL_law 23 = .ok (.if_icmp .gt 426, 3) := by decide +kernel
theorem dL_law_26 : decode cL_law 26 = .ok (.aload_n 0, 1) := by decide +kernel
theorem dL_law_27 : decode cL_law 27 = .ok (.iload_n 3, 1) := by decide +kernel
theorem dL_law_28 : decode cL_law 28 = .ok (.iaload, 1) := by decide +kernel
theorem dL_law_29 : decode cL_law 29 = .ok (.bipush 15, 2) := by decide +kernel
theorem dL_law_31 : decode cL_law 31 = .ok (.iand, 1) := by decide +kernel
theorem dL_law_32 : decode cL_law 32 = .ok (.tableswitch 411 0 11 #[64, 127, 140, 153, 166, 199, 232, 275, 328, 341, 374, 387], 64) := by decide +kernel
theorem dL_law_96 : decode cL_law 96 = .ok (.aload_n 1, 1) := by decide +kernel
theorem dL_law_97 : decode cL_law 97 = .ok (.aload_n 0, 1) := by decide +kernel
theorem dL_law_98 : decode cL_law 98 = .ok (.iload_n 3, 1) := by decide +kernel
theorem dL_law_99 : decode cL_law 99 = .ok (.iconst 1, 1) := by decide +kernel
theorem dL_law_100 : decode cL_law 100 = .ok (.iadd, 1) := by decide +kernel
theorem dL_law_101 : decode cL_law 101 = .ok (.iaload, 1) := by decide +kernel
theorem dL_law_102 : decode cL_law 102 = .ok (.i2l, 1) := by decide +kernel
theorem dL_law_103 : decode cL_law 103 = .ok (.bipush 32, 2) := by decide +kernel
theorem dL_law_105 : decode cL_law 105 = .ok (.lshl, 1) := by decide +kernel
theorem dL_law_106 : decode cL_law 106 = .ok (.aload_n 0, 1) := by decide +kernel
theorem dL_law_107 : decode cL_law 107 = .ok (.iload_n 3, 1) := by decide +kernel
theorem dL_law_108 : decode cL_law 108 = .ok (.iconst 2, 1) := by decide +kernel
theorem dL_law_109 : decode cL_law 109 = .ok (.iadd, 1) := by decide +kernel
theorem dL_law_110 : decode cL_law 110 = .ok (.iaload, 1) := by decide +kernel
theorem dL_law_111 : decode cL_law 111 = .ok (.i2l, 1) := by decide +kernel
theorem dL_law_112 : decode cL_law 112 = .ok (.ldc2_w 13, 3) := by decide +kernel
theorem dL_law_115 : decode cL_law 115 = .ok (.land, 1) := by decide +kernel
theorem dL_law_116 : decode cL_law 116 = .ok (.lor, 1) := by decide +kernel
theorem dL_law_117 : decode cL_law 117 = .ok (.aload_n 0, 1) := by decide +kernel
theorem dL_law_118 : decode cL_law 118 = .ok (.iload_n 3, 1) := by decide +kernel
theorem dL_law_119 : decode cL_law 119 = .ok (.iconst 3, 1) := by decide +kernel
theorem dL_law_120 : decode cL_law 120 = .ok (.iadd, 1) := by decide +kernel
theorem dL_law_121 : decode cL_law 121 = .ok (.iaload, 1) := by decide +kernel
theorem dL_law_122 : decode cL_law 122 = .ok (.invokevirtual 15, 3) := by decide +kernel
theorem dL_law_125 : decode cL_law 125 = .ok (.aload_n 2, 1) := by decide +kernel
theorem dL_law_126 : decode cL_law 126 = .ok (.aload_n 0, 1) := by decide +kernel
theorem dL_law_127 : decode cL_law 127 = .ok (.iload_n 3, 1) := by decide +kernel
theorem dL_law_128 : decode cL_law 128 = .ok (.iconst 1, 1) := by decide +kernel
theorem dL_law_129 : decode cL_law 129 = .ok (.iadd, 1) := by decide +kernel
theorem dL_law_130 : decode cL_law 130 = .ok (.iaload, 1) := by decide +kernel
theorem dL_law_131 : decode cL_law 131 = .ok (.i2l, 1) := by decide +kernel
theorem dL_law_132 : decode cL_law 132 = .ok (.bipush 32, 2) := by decide +kernel
theorem dL_law_134 : decode cL_law 134 = .ok (.lshl, 1) := by decide +kernel
theorem dL_law_135 : decode cL_law 135 = .ok (.aload_n 0, 1) := by decide +kernel
theorem dL_law_136 : decode cL_law 136 = .ok (.iload_n 3, 1) := by decide +kernel
theorem dL_law_137 : decode cL_law 137 = .ok (.iconst 2, 1) := by decide +kernel
theorem dL_law_138 : decode cL_law 138 = .ok (.iadd, 1) := by decide +kernel
theorem dL_law_139 : decode cL_law 139 = .ok (.iaload, 1) := by decide +kernel
theorem dL_law_140 : decode cL_law 140 = .ok (.i2l, 1) := by decide +kernel
theorem dL_law_141 : decode cL_law 141 = .ok (.ldc2_w 13, 3) := by decide +kernel
theorem dL_law_144 : decode cL_law 144 = .ok (.land, 1) := by decide +kernel
theorem dL_law_145 : decode cL_law 145 = .ok (.lor, 1) := by decide +kernel
theorem dL_law_146 : decode cL_law 146 = .ok (.aload_n 0, 1) := by decide +kernel
theorem dL_law_147 : decode cL_law 147 = .ok (.iload_n 3, 1) := by decide +kernel
theorem dL_law_148 : decode cL_law 148 = .ok (.iconst 3, 1) := by decide +kernel
theorem dL_law_149 : decode cL_law 149 = .ok (.iadd, 1) := by decide +kernel
theorem dL_law_150 : decode cL_law 150 = .ok (.iaload, 1) := by decide +kernel
theorem dL_law_151 : decode cL_law 151 = .ok (.invokevirtual 19, 3) := by decide +kernel
theorem dL_law_154 : decode cL_law 154 = .ok (.if_icmp .eq 289, 3) := by decide +kernel
theorem dL_law_157 : decode cL_law 157 = .ok (.iconst 0, 1) := by decide +kernel
theorem dL_law_158 : decode cL_law 158 = .ok (.ireturn, 1) := by decide +kernel
theorem dL_law_159 : decode cL_law 159 = .ok (.aload_n 1, 1) := by decide +kernel
theorem dL_law_160 : decode cL_law 160 = .ok (.invokevirtual 20, 3) := by decide +kernel
theorem dL_law_163 : decode cL_law 163 = .ok (.aload_n 2, 1) := by decide +kernel
theorem dL_law_164 : decode cL_law 164 = .ok (.invokevirtual 24, 3) := by decide +kernel
theorem dL_law_167 : decode cL_law 167 = .ok (.if_icmp .eq 276, 3) := by decide +kernel
theorem dL_law_170 : decode cL_law 170 = .ok (.iconst 0, 1) := by decide +kernel
theorem dL_law_171 : decode cL_law 171 = .ok (.ireturn, 1) := by decide +kernel
theorem dL_law_172 : decode cL_law 172 = .ok (.aload_n 1, 1) := by decide +kernel
theorem dL_law_173 : decode cL_law 173 = .ok (.invokevirtual 25, 3) := by decide +kernel
theorem dL_law_176 : decode cL_law 176 = .ok (.aload_n 2, 1) := by decide +kernel
theorem dL_law_177 : decode cL_law 177 = .ok (.invokevirtual 28, 3) := by decide +kernel
theorem dL_law_180 : decode cL_law 180 = .ok (.if_icmp .eq 263, 3) := by decide +kernel
theorem dL_law_183 : decode cL_law 183 = .ok (.iconst 0, 1) := by decide +kernel
theorem dL_law_184 : decode cL_law 184 = .ok (.ireturn, 1) := by decide +kernel
theorem dL_law_185 : decode cL_law 185 = .ok (.aload_n 1, 1) := by decide +kernel
theorem dL_law_186 : decode cL_law 186 = .ok (.invokevirtual 29, 3) := by decide +kernel
theorem dL_law_189 : decode cL_law 189 = .ok (.aload_n 2, 1) := by decide +kernel
theorem dL_law_190 : decode cL_law 190 = .ok (.invokevirtual 32, 3) := by decide +kernel
theorem dL_law_193 : decode cL_law 193 = .ok (.if_icmp .eq 250, 3) := by decide +kernel
theorem dL_law_196 : decode cL_law 196 = .ok (.iconst 0, 1) := by decide +kernel
theorem dL_law_197 : decode cL_law 197 = .ok (.ireturn, 1) := by decide +kernel
theorem dL_law_198 : decode cL_law 198 = .ok (.aload_n 1, 1) := by decide +kernel
theorem dL_law_199 : decode cL_law 199 = .ok (.aload_n 0, 1) := by decide +kernel
theorem dL_law_200 : decode cL_law 200 = .ok (.iload_n 3, 1) := by decide +kernel
theorem dL_law_201 : decode cL_law 201 = .ok (.iconst 1, 1) := by decide +kernel
theorem dL_law_202 : decode cL_law 202 = .ok (.iadd, 1) := by decide +kernel
theorem dL_law_203 : decode cL_law 203 = .ok (.iaload, 1) := by decide +kernel
theorem dL_law_204 : decode cL_law 204 = .ok (.aload_n 0, 1) := by decide +kernel
theorem dL_law_205 : decode cL_law 205 = .ok (.iload_n 3, 1) := by decide +kernel
theorem dL_law_206 : decode cL_law 206 = .ok (.iconst 2, 1) := by decide +kernel
theorem dL_law_207 : decode cL_law 207 = .ok (.iadd, 1) := by decide +kernel
theorem dL_law_208 : decode cL_law 208 = .ok (.iaload, 1) := by decide +kernel
theorem dL_law_209 : decode cL_law 209 = .ok (.invokevirtual 33, 3) := by decide +kernel
theorem dL_law_212 : decode cL_law 212 = .ok (.aload_n 2, 1) := by decide +kernel
theorem dL_law_213 : decode cL_law 213 = .ok (.aload_n 0, 1) := by decide +kernel
theorem dL_law_214 : decode cL_law 214 = .ok (.iload_n 3, 1) := by decide +kernel
theorem dL_law_215 : decode cL_law 215 = .ok (.iconst 1, 1) := by decide +kernel
theorem dL_law_216 : decode cL_law 216 = .ok (.iadd, 1) := by decide +kernel
theorem dL_law_217 : decode cL_law 217 = .ok (.iaload, 1) := by decide +kernel
theorem dL_law_218 : decode cL_law 218 = .ok (.aload_n 0, 1) := by decide +kernel
theorem dL_law_219 : decode cL_law 219 = .ok (.iload_n 3, 1) := by decide +kernel
theorem dL_law_220 : decode cL_law 220 = .ok (.iconst 2, 1) := by decide +kernel
theorem dL_law_221 : decode cL_law 221 = .ok (.iadd, 1) := by decide +kernel
theorem dL_law_222 : decode cL_law 222 = .ok (.iaload, 1) := by decide +kernel
theorem dL_law_223 : decode cL_law 223 = .ok (.invokevirtual 37, 3) := by decide +kernel
theorem dL_law_226 : decode cL_law 226 = .ok (.if_icmp .eq 217, 3) := by decide +kernel
theorem dL_law_229 : decode cL_law 229 = .ok (.iconst 0, 1) := by decide +kernel
theorem dL_law_230 : decode cL_law 230 = .ok (.ireturn, 1) := by decide +kernel
theorem dL_law_231 : decode cL_law 231 = .ok (.aload_n 1, 1) := by decide +kernel
theorem dL_law_232 : decode cL_law 232 = .ok (.aload_n 0, 1) := by decide +kernel
theorem dL_law_233 : decode cL_law 233 = .ok (.iload_n 3, 1) := by decide +kernel
theorem dL_law_234 : decode cL_law 234 = .ok (.iconst 1, 1) := by decide +kernel
theorem dL_law_235 : decode cL_law 235 = .ok (.iadd, 1) := by decide +kernel
theorem dL_law_236 : decode cL_law 236 = .ok (.iaload, 1) := by decide +kernel
theorem dL_law_237 : decode cL_law 237 = .ok (.aload_n 0, 1) := by decide +kernel
theorem dL_law_238 : decode cL_law 238 = .ok (.iload_n 3, 1) := by decide +kernel
theorem dL_law_239 : decode cL_law 239 = .ok (.iconst 2, 1) := by decide +kernel
theorem dL_law_240 : decode cL_law 240 = .ok (.iadd, 1) := by decide +kernel
theorem dL_law_241 : decode cL_law 241 = .ok (.iaload, 1) := by decide +kernel
theorem dL_law_242 : decode cL_law 242 = .ok (.invokevirtual 38, 3) := by decide +kernel
theorem dL_law_245 : decode cL_law 245 = .ok (.aload_n 2, 1) := by decide +kernel
theorem dL_law_246 : decode cL_law 246 = .ok (.aload_n 0, 1) := by decide +kernel
theorem dL_law_247 : decode cL_law 247 = .ok (.iload_n 3, 1) := by decide +kernel
theorem dL_law_248 : decode cL_law 248 = .ok (.iconst 1, 1) := by decide +kernel
theorem dL_law_249 : decode cL_law 249 = .ok (.iadd, 1) := by decide +kernel
theorem dL_law_250 : decode cL_law 250 = .ok (.iaload, 1) := by decide +kernel
theorem dL_law_251 : decode cL_law 251 = .ok (.aload_n 0, 1) := by decide +kernel
theorem dL_law_252 : decode cL_law 252 = .ok (.iload_n 3, 1) := by decide +kernel
theorem dL_law_253 : decode cL_law 253 = .ok (.iconst 2, 1) := by decide +kernel
theorem dL_law_254 : decode cL_law 254 = .ok (.iadd, 1) := by decide +kernel
theorem dL_law_255 : decode cL_law 255 = .ok (.iaload, 1) := by decide +kernel
theorem dL_law_256 : decode cL_law 256 = .ok (.invokevirtual 41, 3) := by decide +kernel
theorem dL_law_259 : decode cL_law 259 = .ok (.if_icmp .eq 184, 3) := by decide +kernel
theorem dL_law_262 : decode cL_law 262 = .ok (.iconst 0, 1) := by decide +kernel
theorem dL_law_263 : decode cL_law 263 = .ok (.ireturn, 1) := by decide +kernel
theorem dL_law_264 : decode cL_law 264 = .ok (.aload_n 1, 1) := by decide +kernel
theorem dL_law_265 : decode cL_law 265 = .ok (.aload_n 0, 1) := by decide +kernel
theorem dL_law_266 : decode cL_law 266 = .ok (.iload_n 3, 1) := by decide +kernel
theorem dL_law_267 : decode cL_law 267 = .ok (.iconst 1, 1) := by decide +kernel
theorem dL_law_268 : decode cL_law 268 = .ok (.iadd, 1) := by decide +kernel
theorem dL_law_269 : decode cL_law 269 = .ok (.iaload, 1) := by decide +kernel
theorem dL_law_270 : decode cL_law 270 = .ok (.aload_n 0, 1) := by decide +kernel
theorem dL_law_271 : decode cL_law 271 = .ok (.iload_n 3, 1) := by decide +kernel
theorem dL_law_272 : decode cL_law 272 = .ok (.iconst 2, 1) := by decide +kernel
theorem dL_law_273 : decode cL_law 273 = .ok (.iadd, 1) := by decide +kernel
theorem dL_law_274 : decode cL_law 274 = .ok (.iaload, 1) := by decide +kernel
theorem dL_law_275 : decode cL_law 275 = .ok (.aload_n 0, 1) := by decide +kernel
theorem dL_law_276 : decode cL_law 276 = .ok (.iload_n 3, 1) := by decide +kernel
theorem dL_law_277 : decode cL_law 277 = .ok (.iconst 3, 1) := by decide +kernel
theorem dL_law_278 : decode cL_law 278 = .ok (.iadd, 1) := by decide +kernel
theorem dL_law_279 : decode cL_law 279 = .ok (.iaload, 1) := by decide +kernel
theorem dL_law_280 : decode cL_law 280 = .ok (.invokevirtual 42, 3) := by decide +kernel
theorem dL_law_283 : decode cL_law 283 = .ok (.aload_n 2, 1) := by decide +kernel
theorem dL_law_284 : decode cL_law 284 = .ok (.aload_n 0, 1) := by decide +kernel
theorem dL_law_285 : decode cL_law 285 = .ok (.iload_n 3, 1) := by decide +kernel
theorem dL_law_286 : decode cL_law 286 = .ok (.iconst 1, 1) := by decide +kernel
theorem dL_law_287 : decode cL_law 287 = .ok (.iadd, 1) := by decide +kernel
theorem dL_law_288 : decode cL_law 288 = .ok (.iaload, 1) := by decide +kernel
theorem dL_law_289 : decode cL_law 289 = .ok (.aload_n 0, 1) := by decide +kernel
theorem dL_law_290 : decode cL_law 290 = .ok (.iload_n 3, 1) := by decide +kernel
theorem dL_law_291 : decode cL_law 291 = .ok (.iconst 2, 1) := by decide +kernel
theorem dL_law_292 : decode cL_law 292 = .ok (.iadd, 1) := by decide +kernel
theorem dL_law_293 : decode cL_law 293 = .ok (.iaload, 1) := by decide +kernel
theorem dL_law_294 : decode cL_law 294 = .ok (.aload_n 0, 1) := by decide +kernel
theorem dL_law_295 : decode cL_law 295 = .ok (.iload_n 3, 1) := by decide +kernel
theorem dL_law_296 : decode cL_law 296 = .ok (.iconst 3, 1) := by decide +kernel
theorem dL_law_297 : decode cL_law 297 = .ok (.iadd, 1) := by decide +kernel
theorem dL_law_298 : decode cL_law 298 = .ok (.iaload, 1) := by decide +kernel
theorem dL_law_299 : decode cL_law 299 = .ok (.invokevirtual 46, 3) := by decide +kernel
theorem dL_law_302 : decode cL_law 302 = .ok (.if_icmp .eq 141, 3) := by decide +kernel
theorem dL_law_305 : decode cL_law 305 = .ok (.iconst 0, 1) := by decide +kernel
theorem dL_law_306 : decode cL_law 306 = .ok (.ireturn, 1) := by decide +kernel
theorem dL_law_307 : decode cL_law 307 = .ok (.aload_n 1, 1) := by decide +kernel
theorem dL_law_308 : decode cL_law 308 = .ok (.aload_n 0, 1) := by decide +kernel
theorem dL_law_309 : decode cL_law 309 = .ok (.iload_n 3, 1) := by decide +kernel
theorem dL_law_310 : decode cL_law 310 = .ok (.iconst 1, 1) := by decide +kernel
theorem dL_law_311 : decode cL_law 311 = .ok (.iadd, 1) := by decide +kernel
theorem dL_law_312 : decode cL_law 312 = .ok (.iaload, 1) := by decide +kernel
theorem dL_law_313 : decode cL_law 313 = .ok (.aload_n 0, 1) := by decide +kernel
theorem dL_law_314 : decode cL_law 314 = .ok (.iload_n 3, 1) := by decide +kernel
theorem dL_law_315 : decode cL_law 315 = .ok (.iconst 2, 1) := by decide +kernel
theorem dL_law_316 : decode cL_law 316 = .ok (.iadd, 1) := by decide +kernel
theorem dL_law_317 : decode cL_law 317 = .ok (.iaload, 1) := by decide +kernel
theorem dL_law_318 : decode cL_law 318 = .ok (.aload_n 0, 1) := by decide +kernel
theorem dL_law_319 : decode cL_law 319 = .ok (.iload_n 3, 1) := by decide +kernel
theorem dL_law_320 : decode cL_law 320 = .ok (.iconst 3, 1) := by decide +kernel
theorem dL_law_321 : decode cL_law 321 = .ok (.iadd, 1) := by decide +kernel
theorem dL_law_322 : decode cL_law 322 = .ok (.iaload, 1) := by decide +kernel
theorem dL_law_323 : decode cL_law 323 = .ok (.aload_n 0, 1) := by decide +kernel
theorem dL_law_324 : decode cL_law 324 = .ok (.iload_n 3, 1) := by decide +kernel
theorem dL_law_325 : decode cL_law 325 = .ok (.iconst 4, 1) := by decide +kernel
theorem dL_law_326 : decode cL_law 326 = .ok (.iadd, 1) := by decide +kernel
theorem dL_law_327 : decode cL_law 327 = .ok (.iaload, 1) := by decide +kernel
theorem dL_law_328 : decode cL_law 328 = .ok (.invokevirtual 47, 3) := by decide +kernel
theorem dL_law_331 : decode cL_law 331 = .ok (.aload_n 2, 1) := by decide +kernel
theorem dL_law_332 : decode cL_law 332 = .ok (.aload_n 0, 1) := by decide +kernel
theorem dL_law_333 : decode cL_law 333 = .ok (.iload_n 3, 1) := by decide +kernel
theorem dL_law_334 : decode cL_law 334 = .ok (.iconst 1, 1) := by decide +kernel
theorem dL_law_335 : decode cL_law 335 = .ok (.iadd, 1) := by decide +kernel
theorem dL_law_336 : decode cL_law 336 = .ok (.iaload, 1) := by decide +kernel
theorem dL_law_337 : decode cL_law 337 = .ok (.aload_n 0, 1) := by decide +kernel
theorem dL_law_338 : decode cL_law 338 = .ok (.iload_n 3, 1) := by decide +kernel
theorem dL_law_339 : decode cL_law 339 = .ok (.iconst 2, 1) := by decide +kernel
theorem dL_law_340 : decode cL_law 340 = .ok (.iadd, 1) := by decide +kernel
theorem dL_law_341 : decode cL_law 341 = .ok (.iaload, 1) := by decide +kernel
theorem dL_law_342 : decode cL_law 342 = .ok (.aload_n 0, 1) := by decide +kernel
theorem dL_law_343 : decode cL_law 343 = .ok (.iload_n 3, 1) := by decide +kernel
theorem dL_law_344 : decode cL_law 344 = .ok (.iconst 3, 1) := by decide +kernel
theorem dL_law_345 : decode cL_law 345 = .ok (.iadd, 1) := by decide +kernel
theorem dL_law_346 : decode cL_law 346 = .ok (.iaload, 1) := by decide +kernel
theorem dL_law_347 : decode cL_law 347 = .ok (.aload_n 0, 1) := by decide +kernel
theorem dL_law_348 : decode cL_law 348 = .ok (.iload_n 3, 1) := by decide +kernel
theorem dL_law_349 : decode cL_law 349 = .ok (.iconst 4, 1) := by decide +kernel
theorem dL_law_350 : decode cL_law 350 = .ok (.iadd, 1) := by decide +kernel
theorem dL_law_351 : decode cL_law 351 = .ok (.iaload, 1) := by decide +kernel
theorem dL_law_352 : decode cL_law 352 = .ok (.invokevirtual 51, 3) := by decide +kernel
theorem dL_law_355 : decode cL_law 355 = .ok (.if_icmp .eq 88, 3) := by decide +kernel
theorem dL_law_358 : decode cL_law 358 = .ok (.iconst 0, 1) := by decide +kernel
theorem dL_law_359 : decode cL_law 359 = .ok (.ireturn, 1) := by decide +kernel
theorem dL_law_360 : decode cL_law 360 = .ok (.aload_n 1, 1) := by decide +kernel
theorem dL_law_361 : decode cL_law 361 = .ok (.invokevirtual 52, 3) := by decide +kernel
theorem dL_law_364 : decode cL_law 364 = .ok (.aload_n 2, 1) := by decide +kernel
theorem dL_law_365 : decode cL_law 365 = .ok (.invokevirtual 55, 3) := by decide +kernel
theorem dL_law_368 : decode cL_law 368 = .ok (.if_icmp .eq 75, 3) := by decide +kernel
theorem dL_law_371 : decode cL_law 371 = .ok (.iconst 0, 1) := by decide +kernel
theorem dL_law_372 : decode cL_law 372 = .ok (.ireturn, 1) := by decide +kernel
theorem dL_law_373 : decode cL_law 373 = .ok (.aload_n 1, 1) := by decide +kernel
theorem dL_law_374 : decode cL_law 374 = .ok (.aload_n 0, 1) := by decide +kernel
theorem dL_law_375 : decode cL_law 375 = .ok (.iload_n 3, 1) := by decide +kernel
theorem dL_law_376 : decode cL_law 376 = .ok (.iconst 1, 1) := by decide +kernel
theorem dL_law_377 : decode cL_law 377 = .ok (.iadd, 1) := by decide +kernel
theorem dL_law_378 : decode cL_law 378 = .ok (.iaload, 1) := by decide +kernel
theorem dL_law_379 : decode cL_law 379 = .ok (.aload_n 0, 1) := by decide +kernel
theorem dL_law_380 : decode cL_law 380 = .ok (.iload_n 3, 1) := by decide +kernel
theorem dL_law_381 : decode cL_law 381 = .ok (.iconst 2, 1) := by decide +kernel
theorem dL_law_382 : decode cL_law 382 = .ok (.iadd, 1) := by decide +kernel
theorem dL_law_383 : decode cL_law 383 = .ok (.iaload, 1) := by decide +kernel
theorem dL_law_384 : decode cL_law 384 = .ok (.invokevirtual 56, 3) := by decide +kernel
theorem dL_law_387 : decode cL_law 387 = .ok (.aload_n 2, 1) := by decide +kernel
theorem dL_law_388 : decode cL_law 388 = .ok (.aload_n 0, 1) := by decide +kernel
theorem dL_law_389 : decode cL_law 389 = .ok (.iload_n 3, 1) := by decide +kernel
theorem dL_law_390 : decode cL_law 390 = .ok (.iconst 1, 1) := by decide +kernel
theorem dL_law_391 : decode cL_law 391 = .ok (.iadd, 1) := by decide +kernel
theorem dL_law_392 : decode cL_law 392 = .ok (.iaload, 1) := by decide +kernel
theorem dL_law_393 : decode cL_law 393 = .ok (.aload_n 0, 1) := by decide +kernel
theorem dL_law_394 : decode cL_law 394 = .ok (.iload_n 3, 1) := by decide +kernel
theorem dL_law_395 : decode cL_law 395 = .ok (.iconst 2, 1) := by decide +kernel
theorem dL_law_396 : decode cL_law 396 = .ok (.iadd, 1) := by decide +kernel
theorem dL_law_397 : decode cL_law 397 = .ok (.iaload, 1) := by decide +kernel
theorem dL_law_398 : decode cL_law 398 = .ok (.invokevirtual 59, 3) := by decide +kernel
theorem dL_law_401 : decode cL_law 401 = .ok (.if_icmp .eq 42, 3) := by decide +kernel
theorem dL_law_404 : decode cL_law 404 = .ok (.iconst 0, 1) := by decide +kernel
theorem dL_law_405 : decode cL_law 405 = .ok (.ireturn, 1) := by decide +kernel
theorem dL_law_406 : decode cL_law 406 = .ok (.aload_n 1, 1) := by decide +kernel
theorem dL_law_407 : decode cL_law 407 = .ok (.invokevirtual 60, 3) := by decide +kernel
theorem dL_law_410 : decode cL_law 410 = .ok (.aload_n 2, 1) := by decide +kernel
theorem dL_law_411 : decode cL_law 411 = .ok (.invokevirtual 63, 3) := by decide +kernel
theorem dL_law_414 : decode cL_law 414 = .ok (.if_icmp .eq 29, 3) := by decide +kernel
theorem dL_law_417 : decode cL_law 417 = .ok (.iconst 0, 1) := by decide +kernel
theorem dL_law_418 : decode cL_law 418 = .ok (.ireturn, 1) := by decide +kernel
theorem dL_law_419 : decode cL_law 419 = .ok (.aload_n 1, 1) := by decide +kernel
theorem dL_law_420 : decode cL_law 420 = .ok (.aload_n 0, 1) := by decide +kernel
theorem dL_law_421 : decode cL_law 421 = .ok (.iload_n 3, 1) := by decide +kernel
theorem dL_law_422 : decode cL_law 422 = .ok (.iconst 1, 1) := by decide +kernel
theorem dL_law_423 : decode cL_law 423 = .ok (.iadd, 1) := by decide +kernel
theorem dL_law_424 : decode cL_law 424 = .ok (.iaload, 1) := by decide +kernel
theorem dL_law_425 : decode cL_law 425 = .ok (.invokevirtual 64, 3) := by decide +kernel
theorem dL_law_428 : decode cL_law 428 = .ok (.aload_n 2, 1) := by decide +kernel
theorem dL_law_429 : decode cL_law 429 = .ok (.aload_n 0, 1) := by decide +kernel
theorem dL_law_430 : decode cL_law 430 = .ok (.iload_n 3, 1) := by decide +kernel
theorem dL_law_431 : decode cL_law 431 = .ok (.iconst 1, 1) := by decide +kernel
theorem dL_law_432 : decode cL_law 432 = .ok (.iadd, 1) := by decide +kernel
theorem dL_law_433 : decode cL_law 433 = .ok (.iaload, 1) := by decide +kernel
theorem dL_law_434 : decode cL_law 434 = .ok (.invokevirtual 68, 3) := by decide +kernel
theorem dL_law_437 : decode cL_law 437 = .ok (.lcmp, 1) := by decide +kernel
theorem dL_law_438 : decode cL_law 438 = .ok (.ifCond .eq 5, 3) := by decide +kernel
theorem dL_law_441 : decode cL_law 441 = .ok (.iconst 0, 1) := by decide +kernel
theorem dL_law_442 : decode cL_law 442 = .ok (.ireturn, 1) := by decide +kernel
theorem dL_law_443 : decode cL_law 443 = .ok (.iinc 3 5, 3) := by decide +kernel
theorem dL_law_446 : decode cL_law 446 = .ok (.goto (-428), 3) := by decide +kernel
theorem dL_law_449 : decode cL_law 449 = .ok (.iconst 1, 1) := by decide +kernel
theorem dL_law_450 : decode cL_law 450 = .ok (.ireturn, 1) := by decide +kernel
end
section
def lw_g : List Cond := lw_tbl.filter goodWord
theorem lg_mem {w : Cond} (h : w ∈ lw_tbl) (g : goodWord w = true) : w ∈ lw_g := List.mem_filter.mpr ⟨h, g⟩
theorem lg_ok {w : Cond} (h : w ∈ lw_g) : (w.onTables && w.keeps) = true ∨ ∃ ty, w = .arrayClass ty := good_of_word (List.mem_filter.mp h).2
theorem lg_all {ws : List Cond} (h : ∀ w ∈ ws, w ∈ lw_g) : GoodIn lw_g ws := fun w hw => ⟨h w hw, lg_ok (h w hw)⟩
theorem lg_good {b : Cond} (hb : b ∈ lw_g) : GoodIn lw_g (b :: lw_g) := lg_all (fun w hw => (List.mem_cons.mp hw).elim (fun e => e ▸ hb) id)
theorem lg_app {a b : List Cond} (ha : GoodIn lw_g a) (hb : GoodIn lw_g b) : GoodIn lw_g (a ++ b) := fun w h => (List.mem_append.mp h).elim (ha w) (hb w)
theorem lg_goodV {own C : String} {index maxL : Nat} {y : MethodName} {bytes : ByteArray} {ret : Option FieldType} (hcode : Cond.code y bytes maxL ret ∈ lw_g) (hlink : Cond.methodLink own index y ∈ lw_g) (hinst : Cond.instanceMethod y ∈ lw_g) (hsel : Cond.selects C y y ∈ lw_g) (hini : Cond.initialized C ∈ lw_g) : GoodIn lw_g (wsV own index C y (.code y bytes maxL ret :: lw_g)) :=
  lg_app (lg_all (List.forall_mem_cons.mpr ⟨hlink, List.forall_mem_cons.mpr ⟨hinst, List.forall_mem_cons.mpr ⟨hsel, List.forall_mem_cons.mpr ⟨hini, fun _ h => absurd h List.not_mem_nil⟩⟩⟩⟩)) (lg_good hcode)
theorem lg_goodS {own : String} {index maxL : Nat} {y : MethodName} {bytes : ByteArray} {ret : Option FieldType} (hcode : Cond.code y bytes maxL ret ∈ lw_g) (hlink : Cond.methodLink own index y ∈ lw_g) (hstat : Cond.static y ∈ lw_g) (hini : Cond.initialized own ∈ lw_g) : GoodIn lw_g (wsS own index y (.code y bytes maxL ret :: lw_g)) :=
  lg_app (lg_all (List.forall_mem_cons.mpr ⟨hlink, List.forall_mem_cons.mpr ⟨hstat, List.forall_mem_cons.mpr ⟨hini, fun _ h => absurd h List.not_mem_nil⟩⟩⟩)) (lg_good hcode)
theorem lg_goodU {own C owner : String} {index maxL : Nat} {x y : MethodName} {bytes : ByteArray} {ret : Option FieldType} (hcode : Cond.code y bytes maxL ret ∈ lw_g) (hlink : Cond.methodLink own index x ∈ lw_g) (hsm : Cond.sameMethod x.cls owner x.name x.desc ∈ lw_g) (hsel : Cond.selects C x y ∈ lw_g) (hinst : Cond.instanceMethod y ∈ lw_g) (hini : Cond.initialized y.cls ∈ lw_g) : GoodIn lw_g (va_wsU own index C owner x y (.code y bytes maxL ret :: lw_g)) :=
  lg_app (lg_all (List.forall_mem_cons.mpr ⟨hlink, List.forall_mem_cons.mpr ⟨hsm, List.forall_mem_cons.mpr ⟨hsel, List.forall_mem_cons.mpr ⟨hinst, List.forall_mem_cons.mpr ⟨hini, fun _ h => absurd h List.not_mem_nil⟩⟩⟩⟩⟩)) (lg_good hcode)
theorem g_chk {P : Prop} [Decidable P] {α : Type} {a : Option α} {r : α} (h : (if P then a else none) = some r) : P ∧ a = some r := by
  by_cases hp : P
  · rw [if_pos hp] at h; exact ⟨hp, h⟩
  · rw [if_neg hp] at h; cases h
theorem g_bind {α β : Type} {o : Option α} {k : α → Option β} {r : β} (h : o.bind k = some r) : ∃ x, o = some x ∧ k x = some r := by
  cases o with
  | none => cases h
  | some x => exact ⟨x, rfl, h⟩
abbrev ix (i : Int32) (n : Nat) : Prop := ¬ (i < 0 ∨ n ≤ i.toNatClampNeg)
theorem tsw {x : Int32} {lo hi : Int} (h : ∀ k : Int32, lo ≤ k.toInt → k.toInt ≤ hi → ¬ x = k) : x.toInt < lo ∨ hi < x.toInt := by
  by_cases h1 : x.toInt < lo
  · exact Or.inl h1
  · by_cases h2 : hi < x.toInt
    · exact Or.inr h2
    · exact absurd rfl (h x (by omega) (by omega))
theorem ix_lt {i : Int32} {n : Nat} (h : ix i n) : i.toNatClampNeg < n := Nat.not_le.mp fun q => h (Or.inr q)
abbrev vwC : List vw_C := [(RX12, TX12, 6), (RX7, TX7, 6), (RX9, TX9, 15), (RX6, TX6, 3), (RX8, TX8, 4), (RX1, TX1, 3), (RX2, TX2, 2), (RX5, TX5, 6), (RX4, TX4, 3), (RX13, TX13, 32)]
theorem in_X12 : ∀ w ∈ u_ws RX12 TX12 6, w ∈ lw_g := by decide +kernel
theorem in_X7 : ∀ w ∈ u_ws RX7 TX7 6, w ∈ lw_g := by decide +kernel
theorem in_X9 : ∀ w ∈ u_ws RX9 TX9 15, w ∈ lw_g := by decide +kernel
theorem in_X6 : ∀ w ∈ u_ws RX6 TX6 3, w ∈ lw_g := by decide +kernel
theorem in_X8 : ∀ w ∈ u_ws RX8 TX8 4, w ∈ lw_g := by decide +kernel
theorem in_X1 : ∀ w ∈ u_ws RX1 TX1 3, w ∈ lw_g := by decide +kernel
theorem in_X2 : ∀ w ∈ u_ws RX2 TX2 2, w ∈ lw_g := by decide +kernel
theorem in_X5 : ∀ w ∈ u_ws RX5 TX5 6, w ∈ lw_g := by decide +kernel
theorem in_X4 : ∀ w ∈ u_ws RX4 TX4 3, w ∈ lw_g := by decide +kernel
theorem in_X13 : ∀ w ∈ u_ws RX13 TX13 32, w ∈ lw_g := by decide +kernel
abbrev b_Mt_feed : ByteArray := prog_1_method_2_code
def y_Mt_feed : MethodName := ⟨RX12, "feed", "(JI)I"⟩
abbrev b_Mt_clear : ByteArray := prog_1_method_3_code
def y_Mt_clear : MethodName := ⟨RX12, "clear", "()I"⟩
abbrev b_Out_length : ByteArray := prog_6_method_2_code
def y_Out_length : MethodName := ⟨RX4, "length", "()I"⟩
abbrev b_Out_copyTo : ByteArray := prog_6_method_4_code
def y_Out_copyTo : MethodName := ⟨RX4, "copyTo", "([B)V"⟩
abbrev b_Mt_again : ByteArray := prog_1_method_4_code
def y_Mt_again : MethodName := ⟨RX12, "again", "()I"⟩
abbrev b_Source_open : ByteArray := prog_9_method_2_code
def y_Source_open : MethodName := ⟨RX7, "open", "([BI)V"⟩
abbrev b_Tokens_forget : ByteArray := prog_11_method_2_code
def y_Tokens_forget : MethodName := ⟨RX9, "forget", "()V"⟩
abbrev b_Source_character : ByteArray := prog_9_method_4_code
def y_Source_character : MethodName := ⟨RX7, "character", "(I)I"⟩
abbrev b_Source_next : ByteArray := prog_9_method_3_code
def y_Source_next : MethodName := ⟨RX7, "next", "()I"⟩
abbrev b_Tokens_open : ByteArray := prog_11_method_4_code
def y_Tokens_open : MethodName := ⟨RX9, "open", "(I)V"⟩
abbrev b_Tokens_beginText : ByteArray := prog_11_method_5_code
def y_Tokens_beginText : MethodName := ⟨RX9, "beginText", "()V"⟩
abbrev b_Source_then : ByteArray := prog_9_method_7_code
def y_Source_then : MethodName := ⟨RX7, "then", "(LMarkupTokens$Way;)LMarkupTokens$Way;"⟩
abbrev b_ReferenceWays_open : ByteArray := prog_8_method_2_code
def y_ReferenceWays_open : MethodName := ⟨RX6, "open", "(LMarkupTokens$Way;)LMarkupTokens$Way;"⟩
abbrev b_Source_wrong : ByteArray := prog_9_method_8_code
def y_Source_wrong : MethodName := ⟨RX7, "wrong", "(I)V"⟩
abbrev b_Tokens_add : ByteArray := prog_11_method_7_code
def y_Tokens_add : MethodName := ⟨RX9, "add", "(I)V"⟩
abbrev b_Reader_addToText : ByteArray := prog_7_method_4_code
def y_Reader_addToText : MethodName := ⟨RX5, "addToText", "(I)V"⟩
abbrev b_Reader_data : ByteArray := prog_7_method_6_code
def y_Reader_data : MethodName := ⟨RX5, "data", "(I)LMarkupTokens$Way;"⟩
abbrev b_Mt_isLetter : ByteArray := prog_1_method_14_code
def y_Mt_isLetter : MethodName := ⟨RX12, "isLetter", "(I)Z"⟩
abbrev b_Tokens_endText : ByteArray := prog_11_method_6_code
def y_Tokens_endText : MethodName := ⟨RX9, "endText", "()V"⟩
abbrev b_Tokens_begin : ByteArray := prog_11_method_3_code
def y_Tokens_begin : MethodName := ⟨RX9, "begin", "(I)V"⟩
abbrev b_Reader_bogus : ByteArray := prog_7_method_5_code
def y_Reader_bogus : MethodName := ⟨RX5, "bogus", "()LMarkupTokens$Way;"⟩
abbrev b_Reader_tag : ByteArray := prog_7_method_7_code
def y_Reader_tag : MethodName := ⟨RX5, "tag", "(I)LMarkupTokens$Way;"⟩
abbrev b_Reader_endTag : ByteArray := prog_7_method_8_code
def y_Reader_endTag : MethodName := ⟨RX5, "endTag", "(I)LMarkupTokens$Way;"⟩
abbrev b_Mt_isLetterOrDigit : ByteArray := prog_1_method_15_code
def y_Mt_isLetterOrDigit : MethodName := ⟨RX12, "isLetterOrDigit", "(I)Z"⟩
abbrev b_ReferenceWays_start : ByteArray := prog_8_method_3_code
def y_ReferenceWays_start : MethodName := ⟨RX6, "start", "(I)LMarkupTokens$Way;"⟩
abbrev b_Source_place : ByteArray := prog_9_method_5_code
def y_Source_place : MethodName := ⟨RX7, "place", "()I"⟩
abbrev b_Named_lengthIn : ByteArray := prog_5_method_4_code
def y_Named_lengthIn : MethodName := ⟨RX3, "lengthIn", "(LMarkupTokens$Source;I)I"⟩
abbrev b_ReferenceWays_longestName : ByteArray := prog_8_method_4_code
def y_ReferenceWays_longestName : MethodName := ⟨RX6, "longestName", "()LMarkupTokens$Named;"⟩
abbrev b_Source_skip : ByteArray := prog_9_method_6_code
def y_Source_skip : MethodName := ⟨RX7, "skip", "(I)V"⟩
abbrev b_ReferenceWays_goesOn : ByteArray := prog_8_method_6_code
def y_ReferenceWays_goesOn : MethodName := ⟨RX6, "goesOn", "(I)Z"⟩
abbrev b_ReferenceWays_addAsItIs : ByteArray := prog_8_method_7_code
def y_ReferenceWays_addAsItIs : MethodName := ⟨RX6, "addAsItIs", "(I)V"⟩
abbrev b_ReferenceWays_named : ByteArray := prog_8_method_5_code
def y_ReferenceWays_named : MethodName := ⟨RX6, "named", "()LMarkupTokens$Way;"⟩
abbrev b_ReferenceWays_unnamed : ByteArray := prog_8_method_8_code
def y_ReferenceWays_unnamed : MethodName := ⟨RX6, "unnamed", "()LMarkupTokens$Way;"⟩
abbrev b_Mt_lowered : ByteArray := prog_1_method_17_code
def y_Mt_lowered : MethodName := ⟨RX12, "lowered", "(I)I"⟩
abbrev b_ReferenceWays_digitOf : ByteArray := prog_8_method_11_code
def y_ReferenceWays_digitOf : MethodName := ⟨RX6, "digitOf", "(I)I"⟩
abbrev b_ReferenceWays_readDigits : ByteArray := prog_8_method_10_code
def y_ReferenceWays_readDigits : MethodName := ⟨RX6, "readDigits", "(I)I"⟩
abbrev b_ReferenceWays_isNoCharacter : ByteArray := prog_8_method_13_code
def y_ReferenceWays_isNoCharacter : MethodName := ⟨RX6, "isNoCharacter", "(I)Z"⟩
abbrev b_Mt_isBlank : ByteArray := prog_1_method_16_code
def y_Mt_isBlank : MethodName := ⟨RX12, "isBlank", "(I)Z"⟩
abbrev b_ReferenceWays_isControl : ByteArray := prog_8_method_14_code
def y_ReferenceWays_isControl : MethodName := ⟨RX6, "isControl", "(I)Z"⟩
abbrev b_ReferenceWays_replaced : ByteArray := prog_8_method_15_code
def y_ReferenceWays_replaced : MethodName := ⟨RX6, "replaced", "(I)I"⟩
abbrev b_ReferenceWays_characterOf : ByteArray := prog_8_method_12_code
def y_ReferenceWays_characterOf : MethodName := ⟨RX6, "characterOf", "(I)I"⟩
abbrev b_ReferenceWays_numbered : ByteArray := prog_8_method_9_code
def y_ReferenceWays_numbered : MethodName := ⟨RX6, "numbered", "()LMarkupTokens$Way;"⟩
abbrev b_TagWays_endsName : ByteArray := prog_10_method_2_code
def y_TagWays_endsName : MethodName := ⟨RX8, "endsName", "(I)Z"⟩
abbrev b_Tokens_endOwn : ByteArray := prog_11_method_8_code
def y_Tokens_endOwn : MethodName := ⟨RX9, "endOwn", "()V"⟩
abbrev b_Tokens_endAttribute : ByteArray := prog_11_method_17_code
def y_Tokens_endAttribute : MethodName := ⟨RX9, "endAttribute", "()V"⟩
abbrev b_Tokens_isStop : ByteArray := prog_11_method_12_code
def y_Tokens_isStop : MethodName := ⟨RX9, "isStop", "()Z"⟩
abbrev b_Tokens_hasAttributes : ByteArray := prog_11_method_13_code
def y_Tokens_hasAttributes : MethodName := ⟨RX9, "hasAttributes", "()Z"⟩
abbrev b_Tokens_isMarked : ByteArray := prog_11_method_11_code
def y_Tokens_isMarked : MethodName := ⟨RX9, "isMarked", "()Z"⟩
abbrev b_Tokens_dropAttributes : ByteArray := prog_11_method_14_code
def y_Tokens_dropAttributes : MethodName := ⟨RX9, "dropAttributes", "()V"⟩
abbrev b_Tokens_setMark : ByteArray := prog_11_method_10_code
def y_Tokens_setMark : MethodName := ⟨RX9, "setMark", "(I)V"⟩
abbrev b_Tokens_tell : ByteArray := prog_11_method_9_code
def y_Tokens_tell : MethodName := ⟨RX9, "tell", "()V"⟩
abbrev b_TagWays_tagDone : ByteArray := prog_10_method_5_code
def y_TagWays_tagDone : MethodName := ⟨RX8, "tagDone", "()LMarkupTokens$Way;"⟩
abbrev b_TagWays_dropped : ByteArray := prog_10_method_4_code
def y_TagWays_dropped : MethodName := ⟨RX8, "dropped", "()LMarkupTokens$Way;"⟩
abbrev b_TagWays_leave : ByteArray := prog_10_method_3_code
def y_TagWays_leave : MethodName := ⟨RX8, "leave", "(I)LMarkupTokens$Way;"⟩
abbrev b_Ways_addKnown : ByteArray := prog_13_method_2_code
def y_Ways_addKnown : MethodName := ⟨RX11, "addKnown", "(I)V"⟩
abbrev b_TagWays_name : ByteArray := prog_10_method_6_code
def y_TagWays_name : MethodName := ⟨RX8, "name", "(I)LMarkupTokens$Way;"⟩
abbrev b_Tokens_beginAttribute : ByteArray := prog_11_method_15_code
def y_Tokens_beginAttribute : MethodName := ⟨RX9, "beginAttribute", "()V"⟩
abbrev b_TagWays_before : ByteArray := prog_10_method_7_code
def y_TagWays_before : MethodName := ⟨RX8, "before", "(I)LMarkupTokens$Way;"⟩
abbrev b_Tokens_endAttributeName : ByteArray := prog_11_method_16_code
def y_Tokens_endAttributeName : MethodName := ⟨RX9, "endAttributeName", "()V"⟩
abbrev b_Tokens_sameName : ByteArray := prog_11_method_20_code
def y_Tokens_sameName : MethodName := ⟨RX9, "sameName", "(II)Z"⟩
abbrev b_Tokens_stoodBefore : ByteArray := prog_11_method_19_code
def y_Tokens_stoodBefore : MethodName := ⟨RX9, "stoodBefore", "()Z"⟩
abbrev b_Tokens_loseAttribute : ByteArray := prog_11_method_18_code
def y_Tokens_loseAttribute : MethodName := ⟨RX9, "loseAttribute", "()V"⟩
abbrev b_TagWays_leaveAttributeName : ByteArray := prog_10_method_9_code
def y_TagWays_leaveAttributeName : MethodName := ⟨RX8, "leaveAttributeName", "()V"⟩
abbrev b_TagWays_attribute : ByteArray := prog_10_method_8_code
def y_TagWays_attribute : MethodName := ⟨RX8, "attribute", "(I)LMarkupTokens$Way;"⟩
abbrev b_TagWays_after : ByteArray := prog_10_method_10_code
def y_TagWays_after : MethodName := ⟨RX8, "after", "(I)LMarkupTokens$Way;"⟩
abbrev b_TagWays_value : ByteArray := prog_10_method_11_code
def y_TagWays_value : MethodName := ⟨RX8, "value", "(I)LMarkupTokens$Way;"⟩
abbrev b_TagWays_quoted : ByteArray := prog_10_method_12_code
def y_TagWays_quoted : MethodName := ⟨RX8, "quoted", "(I)LMarkupTokens$Way;"⟩
abbrev b_TagWays_unquoted : ByteArray := prog_10_method_13_code
def y_TagWays_unquoted : MethodName := ⟨RX8, "unquoted", "(I)LMarkupTokens$Way;"⟩
abbrev b_TagWays_behind : ByteArray := prog_10_method_14_code
def y_TagWays_behind : MethodName := ⟨RX8, "behind", "(I)LMarkupTokens$Way;"⟩
abbrev b_TagWays_self : ByteArray := prog_10_method_15_code
def y_TagWays_self : MethodName := ⟨RX8, "self", "(I)LMarkupTokens$Way;"⟩
abbrev b_Reader_doctypeComes : ByteArray := prog_7_method_10_code
def y_Reader_doctypeComes : MethodName := ⟨RX5, "doctypeComes", "()Z"⟩
abbrev b_Reader_mark : ByteArray := prog_7_method_9_code
def y_Reader_mark : MethodName := ⟨RX5, "mark", "(I)LMarkupTokens$Way;"⟩
abbrev b_Ways_done : ByteArray := prog_13_method_3_code
def y_Ways_done : MethodName := ⟨RX11, "done", "()LMarkupTokens$Way;"⟩
abbrev b_Ways_toldAtEnd : ByteArray := prog_13_method_4_code
def y_Ways_toldAtEnd : MethodName := ⟨RX11, "toldAtEnd", "()LMarkupTokens$Way;"⟩
abbrev b_CommentWays_bogus : ByteArray := prog_3_method_4_code
def y_CommentWays_bogus : MethodName := ⟨RX1, "bogus", "(I)LMarkupTokens$Way;"⟩
abbrev b_CommentWays_closedEarly : ByteArray := prog_3_method_2_code
def y_CommentWays_closedEarly : MethodName := ⟨RX1, "closedEarly", "()LMarkupTokens$Way;"⟩
abbrev b_CommentWays_start : ByteArray := prog_3_method_5_code
def y_CommentWays_start : MethodName := ⟨RX1, "start", "(I)LMarkupTokens$Way;"⟩
abbrev b_CommentWays_startDash : ByteArray := prog_3_method_6_code
def y_CommentWays_startDash : MethodName := ⟨RX1, "startDash", "(I)LMarkupTokens$Way;"⟩
abbrev b_CommentWays_unfinished : ByteArray := prog_3_method_3_code
def y_CommentWays_unfinished : MethodName := ⟨RX1, "unfinished", "()LMarkupTokens$Way;"⟩
abbrev b_CommentWays_lookForNested : ByteArray := prog_3_method_8_code
def y_CommentWays_lookForNested : MethodName := ⟨RX1, "lookForNested", "(I)V"⟩
abbrev b_CommentWays_inside : ByteArray := prog_3_method_7_code
def y_CommentWays_inside : MethodName := ⟨RX1, "inside", "(I)LMarkupTokens$Way;"⟩
abbrev b_CommentWays_dash : ByteArray := prog_3_method_9_code
def y_CommentWays_dash : MethodName := ⟨RX1, "dash", "(I)LMarkupTokens$Way;"⟩
abbrev b_CommentWays_end : ByteArray := prog_3_method_10_code
def y_CommentWays_end : MethodName := ⟨RX1, "end", "(I)LMarkupTokens$Way;"⟩
abbrev b_CommentWays_bang : ByteArray := prog_3_method_11_code
def y_CommentWays_bang : MethodName := ⟨RX1, "bang", "(I)LMarkupTokens$Way;"⟩
abbrev b_DoctypeWays_start : ByteArray := prog_4_method_3_code
def y_DoctypeWays_start : MethodName := ⟨RX2, "start", "(I)LMarkupTokens$Way;"⟩
abbrev b_DoctypeWays_oddAtEnd : ByteArray := prog_4_method_2_code
def y_DoctypeWays_oddAtEnd : MethodName := ⟨RX2, "oddAtEnd", "()LMarkupTokens$Way;"⟩
abbrev b_DoctypeWays_before : ByteArray := prog_4_method_4_code
def y_DoctypeWays_before : MethodName := ⟨RX2, "before", "(I)LMarkupTokens$Way;"⟩
abbrev b_DoctypeWays_name : ByteArray := prog_4_method_5_code
def y_DoctypeWays_name : MethodName := ⟨RX2, "name", "(I)LMarkupTokens$Way;"⟩
abbrev b_DoctypeWays_after : ByteArray := prog_4_method_6_code
def y_DoctypeWays_after : MethodName := ⟨RX2, "after", "(I)LMarkupTokens$Way;"⟩
abbrev b_DoctypeWays_odd : ByteArray := prog_4_method_7_code
def y_DoctypeWays_odd : MethodName := ⟨RX2, "odd", "(I)LMarkupTokens$Way;"⟩
abbrev b_Reader_follow : ByteArray := prog_7_method_3_code
def y_Reader_follow : MethodName := ⟨RX5, "follow", "(LMarkupTokens$Way;I)LMarkupTokens$Way;"⟩
abbrev b_Reader_cut : ByteArray := prog_7_method_2_code
def y_Reader_cut : MethodName := ⟨RX5, "cut", "()V"⟩
abbrev b_Tokens_count : ByteArray := prog_11_method_21_code
def y_Tokens_count : MethodName := ⟨RX9, "count", "()I"⟩
abbrev b_Mt_run : ByteArray := prog_1_method_5_code
def y_Mt_run : MethodName := ⟨RX12, "run", "()I"⟩
abbrev b_Tokens_has : ByteArray := prog_11_method_22_code
def y_Tokens_has : MethodName := ⟨RX9, "has", "(I)Z"⟩
abbrev b_Tokens_kind : ByteArray := prog_11_method_23_code
def y_Tokens_kind : MethodName := ⟨RX9, "kind", "(I)I"⟩
abbrev b_Tokens_length : ByteArray := prog_11_method_24_code
def y_Tokens_length : MethodName := ⟨RX9, "length", "(I)I"⟩
abbrev b_Tokens_mark : ByteArray := prog_11_method_26_code
def y_Tokens_mark : MethodName := ⟨RX9, "mark", "(I)I"⟩
abbrev b_Tokens_attributes : ByteArray := prog_11_method_27_code
def y_Tokens_attributes : MethodName := ⟨RX9, "attributes", "(I)I"⟩
abbrev b_Mt_token : ByteArray := prog_1_method_6_code
def y_Mt_token : MethodName := ⟨RX12, "token", "(II)I"⟩
abbrev b_Tokens_character : ByteArray := prog_11_method_25_code
def y_Tokens_character : MethodName := ⟨RX9, "character", "(II)I"⟩
abbrev b_Mt_at : ByteArray := prog_1_method_7_code
def y_Mt_at : MethodName := ⟨RX12, "at", "(II)I"⟩
abbrev b_Tokens_hasAttribute : ByteArray := prog_11_method_28_code
def y_Tokens_hasAttribute : MethodName := ⟨RX9, "hasAttribute", "(II)Z"⟩
abbrev b_Tokens_nameLength : ByteArray := prog_11_method_29_code
def y_Tokens_nameLength : MethodName := ⟨RX9, "nameLength", "(II)I"⟩
abbrev b_Tokens_valueLength : ByteArray := prog_11_method_31_code
def y_Tokens_valueLength : MethodName := ⟨RX9, "valueLength", "(II)I"⟩
abbrev b_Mt_size : ByteArray := prog_1_method_8_code
def y_Mt_size : MethodName := ⟨RX12, "size", "(III)I"⟩
abbrev b_Tokens_nameCharacter : ByteArray := prog_11_method_30_code
def y_Tokens_nameCharacter : MethodName := ⟨RX9, "nameCharacter", "(III)I"⟩
abbrev b_Tokens_valueCharacter : ByteArray := prog_11_method_32_code
def y_Tokens_valueCharacter : MethodName := ⟨RX9, "valueCharacter", "(III)I"⟩
abbrev b_Mt_part : ByteArray := prog_1_method_9_code
def y_Mt_part : MethodName := ⟨RX12, "part", "(IIII)I"⟩
abbrev b_Source_faultCount : ByteArray := prog_9_method_9_code
def y_Source_faultCount : MethodName := ⟨RX7, "faultCount", "()I"⟩
abbrev b_Mt_faults : ByteArray := prog_1_method_10_code
def y_Mt_faults : MethodName := ⟨RX12, "faults", "()I"⟩
abbrev b_Source_faultCode : ByteArray := prog_9_method_10_code
def y_Source_faultCode : MethodName := ⟨RX7, "faultCode", "(I)I"⟩
abbrev b_Source_faultPlace : ByteArray := prog_9_method_11_code
def y_Source_faultPlace : MethodName := ⟨RX7, "faultPlace", "(I)I"⟩
abbrev b_Mt_fault : ByteArray := prog_1_method_11_code
def y_Mt_fault : MethodName := ⟨RX12, "fault", "(II)I"⟩
abbrev b_Out_putByte : ByteArray := prog_6_method_16_code
def y_Out_putByte : MethodName := ⟨RX4, "putByte", "(I)V"⟩
abbrev b_Out_putString : ByteArray := prog_6_method_15_code
def y_Out_putString : MethodName := ⟨RX4, "putString", "(Ljava/lang/String;)V"⟩
abbrev b_Out_putDigits : ByteArray := prog_6_method_14_code
def y_Out_putDigits : MethodName := ⟨RX4, "putDigits", "(I)V"⟩
abbrev b_Out_putReferable : ByteArray := prog_6_method_13_code
def y_Out_putReferable : MethodName := ⟨RX4, "putReferable", "(I)V"⟩
abbrev b_Out_putText : ByteArray := prog_6_method_6_code
def y_Out_putText : MethodName := ⟨RX4, "putText", "(I)V"⟩
abbrev b_Out_putPlain : ByteArray := prog_6_method_12_code
def y_Out_putPlain : MethodName := ⟨RX4, "putPlain", "(I)V"⟩
abbrev b_Out_putOwn : ByteArray := prog_6_method_11_code
def y_Out_putOwn : MethodName := ⟨RX4, "putOwn", "(I)V"⟩
abbrev b_Out_putComment : ByteArray := prog_6_method_7_code
def y_Out_putComment : MethodName := ⟨RX4, "putComment", "(I)V"⟩
abbrev b_Out_putDoctype : ByteArray := prog_6_method_8_code
def y_Out_putDoctype : MethodName := ⟨RX4, "putDoctype", "(I)V"⟩
abbrev b_Out_putAttribute : ByteArray := prog_6_method_10_code
def y_Out_putAttribute : MethodName := ⟨RX4, "putAttribute", "(II)V"⟩
abbrev b_Out_putTag : ByteArray := prog_6_method_9_code
def y_Out_putTag : MethodName := ⟨RX4, "putTag", "(I)V"⟩
abbrev b_Out_putAll : ByteArray := prog_6_method_5_code
def y_Out_putAll : MethodName := ⟨RX4, "putAll", "()V"⟩
abbrev b_Mt_write : ByteArray := prog_1_method_12_code
def y_Mt_write : MethodName := ⟨RX12, "write", "()I"⟩
abbrev b_Out_byteAt : ByteArray := prog_6_method_3_code
def y_Out_byteAt : MethodName := ⟨RX4, "byteAt", "(J)J"⟩
abbrev b_Mt_word : ByteArray := prog_1_method_13_code
def y_Mt_word : MethodName := ⟨RX12, "word", "(I)J"⟩
abbrev b_Mo_feed : ByteArray := prog_15_method_2_code
def y_Mo_feed : MethodName := ⟨RX13, "feed", "(JI)I"⟩
abbrev b_Mo_clear : ByteArray := prog_15_method_3_code
def y_Mo_clear : MethodName := ⟨RX13, "clear", "()I"⟩
abbrev b_Mo_again : ByteArray := prog_15_method_4_code
def y_Mo_again : MethodName := ⟨RX13, "again", "()I"⟩
abbrev b_Mo_layDown : ByteArray := prog_15_method_5_code
def y_Mo_layDown : MethodName := ⟨RX13, "layDown", "()V"⟩
abbrev b_Mo_charAt : ByteArray := prog_15_method_6_code
def y_Mo_charAt : MethodName := ⟨RX13, "charAt", "(I)I"⟩
abbrev b_Mo_isBlank : ByteArray := prog_15_method_7_code
def y_Mo_isBlank : MethodName := ⟨RX13, "isBlank", "(I)Z"⟩
abbrev b_Mo_isGreat : ByteArray := prog_15_method_8_code
def y_Mo_isGreat : MethodName := ⟨RX13, "isGreat", "(I)Z"⟩
abbrev b_Mo_isLetter : ByteArray := prog_15_method_9_code
def y_Mo_isLetter : MethodName := ⟨RX13, "isLetter", "(I)Z"⟩
abbrev b_Mo_isDigit : ByteArray := prog_15_method_10_code
def y_Mo_isDigit : MethodName := ⟨RX13, "isDigit", "(I)Z"⟩
abbrev b_Mo_lowered : ByteArray := prog_15_method_11_code
def y_Mo_lowered : MethodName := ⟨RX13, "lowered", "(I)I"⟩
abbrev b_Mo_skipBlanks : ByteArray := prog_15_method_12_code
def y_Mo_skipBlanks : MethodName := ⟨RX13, "skipBlanks", "()V"⟩
abbrev b_Mo_wrong : ByteArray := prog_15_method_13_code
def y_Mo_wrong : MethodName := ⟨RX13, "wrong", "(II)V"⟩
abbrev b_Mo_keep : ByteArray := prog_15_method_14_code
def y_Mo_keep : MethodName := ⟨RX13, "keep", "(I)V"⟩
abbrev b_Mo_known : ByteArray := prog_15_method_15_code
def y_Mo_known : MethodName := ⟨RX13, "known", "()I"⟩
abbrev b_Mo_toText : ByteArray := prog_15_method_16_code
def y_Mo_toText : MethodName := ⟨RX13, "toText", "(I)V"⟩
abbrev b_Mo_begin0 : ByteArray := prog_15_method_18_code
def y_Mo_begin0 : MethodName := ⟨RX13, "begin0", "(II)V"⟩
abbrev b_Mo_begin : ByteArray := prog_15_method_17_code
def y_Mo_begin : MethodName := ⟨RX13, "begin", "(I)V"⟩
abbrev b_Mo_digitOf : ByteArray := prog_15_method_41_code
def y_Mo_digitOf : MethodName := ⟨RX13, "digitOf", "(I)I"⟩
abbrev b_Mo_give : ByteArray := prog_15_method_36_code
def y_Mo_give : MethodName := ⟨RX13, "give", "(IZ)V"⟩
abbrev b_Mo_giveAll : ByteArray := prog_15_method_37_code
def y_Mo_giveAll : MethodName := ⟨RX13, "giveAll", "(IZ)V"⟩
abbrev b_Mo_told : ByteArray := prog_15_method_43_code
def y_Mo_told : MethodName := ⟨RX13, "told", "(I)I"⟩
abbrev b_Mo_number : ByteArray := prog_15_method_42_code
def y_Mo_number : MethodName := ⟨RX13, "number", "(IZ)V"⟩
abbrev b_Mo_longest : ByteArray := prog_15_method_38_code
def y_Mo_longest : MethodName := ⟨RX13, "longest", "(I)I"⟩
abbrev b_Mo_named : ByteArray := prog_15_method_40_code
def y_Mo_named : MethodName := ⟨RX13, "named", "(IZ)V"⟩
abbrev b_Mo_reference : ByteArray := prog_15_method_39_code
def y_Mo_reference : MethodName := ⟨RX13, "reference", "(Z)V"⟩
abbrev b_Mo_tell : ByteArray := prog_15_method_31_code
def y_Mo_tell : MethodName := ⟨RX13, "tell", "()V"⟩
abbrev b_Mo_commentEnd : ByteArray := prog_15_method_33_code
def y_Mo_commentEnd : MethodName := ⟨RX13, "commentEnd", "(I)I"⟩
abbrev b_Mo_comment : ByteArray := prog_15_method_34_code
def y_Mo_comment : MethodName := ⟨RX13, "comment", "()V"⟩
abbrev b_Mo_isDoctype : ByteArray := prog_15_method_29_code
def y_Mo_isDoctype : MethodName := ⟨RX13, "isDoctype", "()Z"⟩
abbrev b_Mo_doctype : ByteArray := prog_15_method_35_code
def y_Mo_doctype : MethodName := ⟨RX13, "doctype", "()V"⟩
abbrev b_Mo_bogus : ByteArray := prog_15_method_32_code
def y_Mo_bogus : MethodName := ⟨RX13, "bogus", "()V"⟩
abbrev b_Mo_mark : ByteArray := prog_15_method_30_code
def y_Mo_mark : MethodName := ⟨RX13, "mark", "()V"⟩
abbrev b_Mo_drop : ByteArray := prog_15_method_22_code
def y_Mo_drop : MethodName := ⟨RX13, "drop", "()V"⟩
abbrev b_Mo_finish : ByteArray := prog_15_method_25_code
def y_Mo_finish : MethodName := ⟨RX13, "finish", "()V"⟩
abbrev b_Mo_isThere : ByteArray := prog_15_method_26_code
def y_Mo_isThere : MethodName := ⟨RX13, "isThere", "(I)Z"⟩
abbrev b_Mo_value : ByteArray := prog_15_method_28_code
def y_Mo_value : MethodName := ⟨RX13, "value", "(I)Z"⟩
abbrev b_Mo_attribute : ByteArray := prog_15_method_27_code
def y_Mo_attribute : MethodName := ⟨RX13, "attribute", "()Z"⟩
abbrev b_Mo_behindName : ByteArray := prog_15_method_24_code
def y_Mo_behindName : MethodName := ⟨RX13, "behindName", "()Z"⟩
abbrev b_Mo_tagName : ByteArray := prog_15_method_23_code
def y_Mo_tagName : MethodName := ⟨RX13, "tagName", "()V"⟩
abbrev b_Mo_stop : ByteArray := prog_15_method_21_code
def y_Mo_stop : MethodName := ⟨RX13, "stop", "()V"⟩
abbrev b_Mo_tag : ByteArray := prog_15_method_20_code
def y_Mo_tag : MethodName := ⟨RX13, "tag", "()V"⟩
abbrev b_Mo_run : ByteArray := prog_15_method_19_code
def y_Mo_run : MethodName := ⟨RX13, "run", "()I"⟩
abbrev b_Mo_token : ByteArray := prog_15_method_44_code
def y_Mo_token : MethodName := ⟨RX13, "token", "(II)I"⟩
abbrev b_Mo_at : ByteArray := prog_15_method_45_code
def y_Mo_at : MethodName := ⟨RX13, "at", "(II)I"⟩
abbrev b_Mo_isPart : ByteArray := prog_15_method_46_code
def y_Mo_isPart : MethodName := ⟨RX13, "isPart", "(III)Z"⟩
abbrev b_Mo_size : ByteArray := prog_15_method_47_code
def y_Mo_size : MethodName := ⟨RX13, "size", "(III)I"⟩
abbrev b_Mo_part : ByteArray := prog_15_method_48_code
def y_Mo_part : MethodName := ⟨RX13, "part", "(IIII)I"⟩
abbrev b_Mo_faults : ByteArray := prog_15_method_49_code
def y_Mo_faults : MethodName := ⟨RX13, "faults", "()I"⟩
abbrev b_Mo_fault : ByteArray := prog_15_method_50_code
def y_Mo_fault : MethodName := ⟨RX13, "fault", "(II)I"⟩
abbrev b_Mo_put : ByteArray := prog_15_method_51_code
def y_Mo_put : MethodName := ⟨RX13, "put", "(I)V"⟩
abbrev b_Mo_putAll : ByteArray := prog_15_method_52_code
def y_Mo_putAll : MethodName := ⟨RX13, "putAll", "(J)V"⟩
abbrev b_Mo_putNumber : ByteArray := prog_15_method_53_code
def y_Mo_putNumber : MethodName := ⟨RX13, "putNumber", "(I)V"⟩
abbrev b_Mo_putCharacter : ByteArray := prog_15_method_54_code
def y_Mo_putCharacter : MethodName := ⟨RX13, "putCharacter", "(IZ)V"⟩
abbrev b_Mo_putRow : ByteArray := prog_15_method_55_code
def y_Mo_putRow : MethodName := ⟨RX13, "putRow", "(II)V"⟩
abbrev b_Mo_putTag : ByteArray := prog_15_method_56_code
def y_Mo_putTag : MethodName := ⟨RX13, "putTag", "(I)V"⟩
abbrev b_Mo_write : ByteArray := prog_15_method_57_code
def y_Mo_write : MethodName := ⟨RX13, "write", "()I"⟩
abbrev b_Mo_word : ByteArray := prog_15_method_58_code
def y_Mo_word : MethodName := ⟨RX13, "word", "(I)J"⟩
abbrev b_Enum_ordinal : ByteArray := prog_16_method_2_code
def y_Enum_ordinal : MethodName := ⟨"java/lang/Enum", "ordinal", "()I"⟩
abbrev b_String_length : ByteArray := prog_18_method_54_code
def y_String_length : MethodName := ⟨"java/lang/String", "length", "()I"⟩
abbrev b_String_coder : ByteArray := prog_18_method_152_code
def y_String_coder : MethodName := ⟨"java/lang/String", "coder", "()B"⟩
abbrev b_String_charAt : ByteArray := prog_18_method_56_code
def y_String_charAt : MethodName := ⟨"java/lang/String", "charAt", "(I)C"⟩
abbrev b_String_isLatin1 : ByteArray := prog_18_method_154_code
def y_String_isLatin1 : MethodName := ⟨"java/lang/String", "isLatin1", "()Z"⟩
abbrev b_StringLatin1_charAt : ByteArray := prog_19_method_2_code
def y_StringLatin1_charAt : MethodName := ⟨"java/lang/StringLatin1", "charAt", "([BI)C"⟩
abbrev b_String_checkIndex : ByteArray := prog_18_method_155_code
def y_String_checkIndex : MethodName := ⟨"java/lang/String", "checkIndex", "(II)V"⟩
abbrev b_Preconditions_checkIndex : ByteArray := prog_22_method_11_code
def y_Preconditions_checkIndex : MethodName := ⟨"jdk/internal/util/Preconditions", "checkIndex", "(IILjava/util/function/BiFunction;)I"⟩
end
section
theorem mw_0 : (.selects RX5 y_Reader_follow y_Reader_follow : Cond) ∈ lw_g := lg_mem (List.mem_of_getElem? (i := 0) (by decide +kernel)) (by decide +kernel)
theorem mw_1 : (.selects RX5 y_Reader_data y_Reader_data : Cond) ∈ lw_g := lg_mem (List.mem_of_getElem? (i := 1) (by decide +kernel)) (by decide +kernel)
theorem mw_2 : (.selects RX9 y_Tokens_open y_Tokens_open : Cond) ∈ lw_g := lg_mem (List.mem_of_getElem? (i := 2) (by decide +kernel)) (by decide +kernel)
theorem mw_3 : (.selects RX5 y_Reader_addToText y_Reader_addToText : Cond) ∈ lw_g := lg_mem (List.mem_of_getElem? (i := 3) (by decide +kernel)) (by decide +kernel)
theorem mw_4 : (.selects RX5 y_Reader_tag y_Reader_tag : Cond) ∈ lw_g := lg_mem (List.mem_of_getElem? (i := 4) (by decide +kernel)) (by decide +kernel)
theorem mw_5 : (.selects RX5 y_Reader_bogus y_Reader_bogus : Cond) ∈ lw_g := lg_mem (List.mem_of_getElem? (i := 5) (by decide +kernel)) (by decide +kernel)
theorem mw_6 : (.selects RX5 y_Reader_endTag y_Reader_endTag : Cond) ∈ lw_g := lg_mem (List.mem_of_getElem? (i := 6) (by decide +kernel)) (by decide +kernel)
theorem mw_7 : (.selects RX6 y_ReferenceWays_longestName y_ReferenceWays_longestName : Cond) ∈ lw_g := lg_mem (List.mem_of_getElem? (i := 7) (by decide +kernel)) (by decide +kernel)
theorem mw_8 : (.selects RX6 y_ReferenceWays_addAsItIs y_ReferenceWays_addAsItIs : Cond) ∈ lw_g := lg_mem (List.mem_of_getElem? (i := 8) (by decide +kernel)) (by decide +kernel)
theorem mw_9 : (.selects RX6 y_ReferenceWays_readDigits y_ReferenceWays_readDigits : Cond) ∈ lw_g := lg_mem (List.mem_of_getElem? (i := 9) (by decide +kernel)) (by decide +kernel)
theorem mw_10 : (.selects RX6 y_ReferenceWays_characterOf y_ReferenceWays_characterOf : Cond) ∈ lw_g := lg_mem (List.mem_of_getElem? (i := 10) (by decide +kernel)) (by decide +kernel)
theorem mw_11 : (.selects RX8 y_TagWays_leave y_TagWays_leave : Cond) ∈ lw_g := lg_mem (List.mem_of_getElem? (i := 11) (by decide +kernel)) (by decide +kernel)
theorem mw_12 : (.selects RX8 y_TagWays_tagDone y_TagWays_tagDone : Cond) ∈ lw_g := lg_mem (List.mem_of_getElem? (i := 12) (by decide +kernel)) (by decide +kernel)
theorem mw_13 : (.selects RX8 y_TagWays_dropped y_TagWays_dropped : Cond) ∈ lw_g := lg_mem (List.mem_of_getElem? (i := 13) (by decide +kernel)) (by decide +kernel)
theorem mw_14 : (.selects RX8 y_TagWays_leaveAttributeName y_TagWays_leaveAttributeName : Cond) ∈ lw_g := lg_mem (List.mem_of_getElem? (i := 14) (by decide +kernel)) (by decide +kernel)
theorem mw_15 : (.selects RX9 y_Tokens_sameName y_Tokens_sameName : Cond) ∈ lw_g := lg_mem (List.mem_of_getElem? (i := 15) (by decide +kernel)) (by decide +kernel)
theorem mw_16 : (.selects RX5 y_Reader_mark y_Reader_mark : Cond) ∈ lw_g := lg_mem (List.mem_of_getElem? (i := 16) (by decide +kernel)) (by decide +kernel)
theorem mw_17 : (.selects RX5 y_Reader_doctypeComes y_Reader_doctypeComes : Cond) ∈ lw_g := lg_mem (List.mem_of_getElem? (i := 17) (by decide +kernel)) (by decide +kernel)
theorem mw_18 : (.selects RX1 y_CommentWays_closedEarly y_CommentWays_closedEarly : Cond) ∈ lw_g := lg_mem (List.mem_of_getElem? (i := 18) (by decide +kernel)) (by decide +kernel)
theorem mw_19 : (.selects RX1 y_CommentWays_unfinished y_CommentWays_unfinished : Cond) ∈ lw_g := lg_mem (List.mem_of_getElem? (i := 19) (by decide +kernel)) (by decide +kernel)
theorem mw_20 : (.selects RX1 y_CommentWays_lookForNested y_CommentWays_lookForNested : Cond) ∈ lw_g := lg_mem (List.mem_of_getElem? (i := 20) (by decide +kernel)) (by decide +kernel)
theorem mw_21 : (.selects RX2 y_DoctypeWays_oddAtEnd y_DoctypeWays_oddAtEnd : Cond) ∈ lw_g := lg_mem (List.mem_of_getElem? (i := 21) (by decide +kernel)) (by decide +kernel)
theorem mw_22 : (.selects RX4 y_Out_putText y_Out_putText : Cond) ∈ lw_g := lg_mem (List.mem_of_getElem? (i := 22) (by decide +kernel)) (by decide +kernel)
theorem mw_23 : (.selects RX4 y_Out_putString y_Out_putString : Cond) ∈ lw_g := lg_mem (List.mem_of_getElem? (i := 23) (by decide +kernel)) (by decide +kernel)
theorem mw_24 : (.selects RX4 y_Out_putByte y_Out_putByte : Cond) ∈ lw_g := lg_mem (List.mem_of_getElem? (i := 24) (by decide +kernel)) (by decide +kernel)
theorem mw_25 : (.selects RX4 y_Out_putReferable y_Out_putReferable : Cond) ∈ lw_g := lg_mem (List.mem_of_getElem? (i := 25) (by decide +kernel)) (by decide +kernel)
theorem mw_26 : (.selects RX4 y_Out_putDigits y_Out_putDigits : Cond) ∈ lw_g := lg_mem (List.mem_of_getElem? (i := 26) (by decide +kernel)) (by decide +kernel)
theorem mw_27 : (.selects RX4 y_Out_putComment y_Out_putComment : Cond) ∈ lw_g := lg_mem (List.mem_of_getElem? (i := 27) (by decide +kernel)) (by decide +kernel)
theorem mw_28 : (.selects RX4 y_Out_putOwn y_Out_putOwn : Cond) ∈ lw_g := lg_mem (List.mem_of_getElem? (i := 28) (by decide +kernel)) (by decide +kernel)
theorem mw_29 : (.selects RX4 y_Out_putPlain y_Out_putPlain : Cond) ∈ lw_g := lg_mem (List.mem_of_getElem? (i := 29) (by decide +kernel)) (by decide +kernel)
theorem mw_30 : (.selects RX4 y_Out_putDoctype y_Out_putDoctype : Cond) ∈ lw_g := lg_mem (List.mem_of_getElem? (i := 30) (by decide +kernel)) (by decide +kernel)
theorem mw_31 : (.selects RX4 y_Out_putTag y_Out_putTag : Cond) ∈ lw_g := lg_mem (List.mem_of_getElem? (i := 31) (by decide +kernel)) (by decide +kernel)
theorem mw_32 : (.selects RX4 y_Out_putAttribute y_Out_putAttribute : Cond) ∈ lw_g := lg_mem (List.mem_of_getElem? (i := 32) (by decide +kernel)) (by decide +kernel)
theorem mw_33 : (.selects RX13 y_Mo_layDown y_Mo_layDown : Cond) ∈ lw_g := lg_mem (List.mem_of_getElem? (i := 33) (by decide +kernel)) (by decide +kernel)
theorem mw_34 : (.selects RX13 y_Mo_charAt y_Mo_charAt : Cond) ∈ lw_g := lg_mem (List.mem_of_getElem? (i := 34) (by decide +kernel)) (by decide +kernel)
theorem mw_35 : (.selects RX13 y_Mo_reference y_Mo_reference : Cond) ∈ lw_g := lg_mem (List.mem_of_getElem? (i := 35) (by decide +kernel)) (by decide +kernel)
theorem mw_36 : (.selects RX13 y_Mo_number y_Mo_number : Cond) ∈ lw_g := lg_mem (List.mem_of_getElem? (i := 36) (by decide +kernel)) (by decide +kernel)
theorem mw_37 : (.selects RX13 y_Mo_wrong y_Mo_wrong : Cond) ∈ lw_g := lg_mem (List.mem_of_getElem? (i := 37) (by decide +kernel)) (by decide +kernel)
theorem mw_38 : (.selects RX13 y_Mo_giveAll y_Mo_giveAll : Cond) ∈ lw_g := lg_mem (List.mem_of_getElem? (i := 38) (by decide +kernel)) (by decide +kernel)
theorem mw_39 : (.selects RX13 y_Mo_give y_Mo_give : Cond) ∈ lw_g := lg_mem (List.mem_of_getElem? (i := 39) (by decide +kernel)) (by decide +kernel)
theorem mw_40 : (.selects RX13 y_Mo_keep y_Mo_keep : Cond) ∈ lw_g := lg_mem (List.mem_of_getElem? (i := 40) (by decide +kernel)) (by decide +kernel)
theorem mw_41 : (.selects RX13 y_Mo_toText y_Mo_toText : Cond) ∈ lw_g := lg_mem (List.mem_of_getElem? (i := 41) (by decide +kernel)) (by decide +kernel)
theorem mw_42 : (.selects RX13 y_Mo_told y_Mo_told : Cond) ∈ lw_g := lg_mem (List.mem_of_getElem? (i := 42) (by decide +kernel)) (by decide +kernel)
theorem mw_43 : (.selects RX13 y_Mo_named y_Mo_named : Cond) ∈ lw_g := lg_mem (List.mem_of_getElem? (i := 43) (by decide +kernel)) (by decide +kernel)
theorem mw_44 : (.selects RX13 y_Mo_longest y_Mo_longest : Cond) ∈ lw_g := lg_mem (List.mem_of_getElem? (i := 44) (by decide +kernel)) (by decide +kernel)
theorem mw_45 : (.selects RX13 y_Mo_tag y_Mo_tag : Cond) ∈ lw_g := lg_mem (List.mem_of_getElem? (i := 45) (by decide +kernel)) (by decide +kernel)
theorem mw_46 : (.selects RX13 y_Mo_mark y_Mo_mark : Cond) ∈ lw_g := lg_mem (List.mem_of_getElem? (i := 46) (by decide +kernel)) (by decide +kernel)
theorem mw_47 : (.selects RX13 y_Mo_begin y_Mo_begin : Cond) ∈ lw_g := lg_mem (List.mem_of_getElem? (i := 47) (by decide +kernel)) (by decide +kernel)
theorem mw_48 : (.selects RX13 y_Mo_begin0 y_Mo_begin0 : Cond) ∈ lw_g := lg_mem (List.mem_of_getElem? (i := 48) (by decide +kernel)) (by decide +kernel)
theorem mw_49 : (.selects RX13 y_Mo_comment y_Mo_comment : Cond) ∈ lw_g := lg_mem (List.mem_of_getElem? (i := 49) (by decide +kernel)) (by decide +kernel)
theorem mw_50 : (.selects RX13 y_Mo_tell y_Mo_tell : Cond) ∈ lw_g := lg_mem (List.mem_of_getElem? (i := 50) (by decide +kernel)) (by decide +kernel)
theorem mw_51 : (.selects RX13 y_Mo_commentEnd y_Mo_commentEnd : Cond) ∈ lw_g := lg_mem (List.mem_of_getElem? (i := 51) (by decide +kernel)) (by decide +kernel)
theorem mw_52 : (.selects RX13 y_Mo_isDoctype y_Mo_isDoctype : Cond) ∈ lw_g := lg_mem (List.mem_of_getElem? (i := 52) (by decide +kernel)) (by decide +kernel)
theorem mw_53 : (.selects RX13 y_Mo_doctype y_Mo_doctype : Cond) ∈ lw_g := lg_mem (List.mem_of_getElem? (i := 53) (by decide +kernel)) (by decide +kernel)
theorem mw_54 : (.selects RX13 y_Mo_skipBlanks y_Mo_skipBlanks : Cond) ∈ lw_g := lg_mem (List.mem_of_getElem? (i := 54) (by decide +kernel)) (by decide +kernel)
theorem mw_55 : (.selects RX13 y_Mo_known y_Mo_known : Cond) ∈ lw_g := lg_mem (List.mem_of_getElem? (i := 55) (by decide +kernel)) (by decide +kernel)
theorem mw_56 : (.selects RX13 y_Mo_bogus y_Mo_bogus : Cond) ∈ lw_g := lg_mem (List.mem_of_getElem? (i := 56) (by decide +kernel)) (by decide +kernel)
theorem mw_57 : (.selects RX13 y_Mo_stop y_Mo_stop : Cond) ∈ lw_g := lg_mem (List.mem_of_getElem? (i := 57) (by decide +kernel)) (by decide +kernel)
theorem mw_58 : (.selects RX13 y_Mo_tagName y_Mo_tagName : Cond) ∈ lw_g := lg_mem (List.mem_of_getElem? (i := 58) (by decide +kernel)) (by decide +kernel)
theorem mw_59 : (.selects RX13 y_Mo_behindName y_Mo_behindName : Cond) ∈ lw_g := lg_mem (List.mem_of_getElem? (i := 59) (by decide +kernel)) (by decide +kernel)
theorem mw_60 : (.selects RX13 y_Mo_drop y_Mo_drop : Cond) ∈ lw_g := lg_mem (List.mem_of_getElem? (i := 60) (by decide +kernel)) (by decide +kernel)
theorem mw_61 : (.selects RX13 y_Mo_finish y_Mo_finish : Cond) ∈ lw_g := lg_mem (List.mem_of_getElem? (i := 61) (by decide +kernel)) (by decide +kernel)
theorem mw_62 : (.selects RX13 y_Mo_attribute y_Mo_attribute : Cond) ∈ lw_g := lg_mem (List.mem_of_getElem? (i := 62) (by decide +kernel)) (by decide +kernel)
theorem mw_63 : (.selects RX13 y_Mo_isThere y_Mo_isThere : Cond) ∈ lw_g := lg_mem (List.mem_of_getElem? (i := 63) (by decide +kernel)) (by decide +kernel)
theorem mw_64 : (.selects RX13 y_Mo_value y_Mo_value : Cond) ∈ lw_g := lg_mem (List.mem_of_getElem? (i := 64) (by decide +kernel)) (by decide +kernel)
theorem mw_65 : (.selects RX13 y_Mo_isPart y_Mo_isPart : Cond) ∈ lw_g := lg_mem (List.mem_of_getElem? (i := 65) (by decide +kernel)) (by decide +kernel)
theorem mw_66 : (.selects RX13 y_Mo_putCharacter y_Mo_putCharacter : Cond) ∈ lw_g := lg_mem (List.mem_of_getElem? (i := 66) (by decide +kernel)) (by decide +kernel)
theorem mw_67 : (.selects RX13 y_Mo_putAll y_Mo_putAll : Cond) ∈ lw_g := lg_mem (List.mem_of_getElem? (i := 67) (by decide +kernel)) (by decide +kernel)
theorem mw_68 : (.selects RX13 y_Mo_put y_Mo_put : Cond) ∈ lw_g := lg_mem (List.mem_of_getElem? (i := 68) (by decide +kernel)) (by decide +kernel)
theorem mw_69 : (.selects RX13 y_Mo_putNumber y_Mo_putNumber : Cond) ∈ lw_g := lg_mem (List.mem_of_getElem? (i := 69) (by decide +kernel)) (by decide +kernel)
theorem mw_70 : (.selects RX13 y_Mo_putRow y_Mo_putRow : Cond) ∈ lw_g := lg_mem (List.mem_of_getElem? (i := 70) (by decide +kernel)) (by decide +kernel)
theorem mw_71 : (.selects RX13 y_Mo_putTag y_Mo_putTag : Cond) ∈ lw_g := lg_mem (List.mem_of_getElem? (i := 71) (by decide +kernel)) (by decide +kernel)
theorem mw_73 : (.initialized RX12 : Cond) ∈ lw_g := lg_mem (List.mem_of_getElem? (i := 73) (by decide +kernel)) (by decide +kernel)
theorem mw_74 : (.initialized RX7 : Cond) ∈ lw_g := lg_mem (List.mem_of_getElem? (i := 74) (by decide +kernel)) (by decide +kernel)
theorem mw_75 : (.initialized RX9 : Cond) ∈ lw_g := lg_mem (List.mem_of_getElem? (i := 75) (by decide +kernel)) (by decide +kernel)
theorem mw_76 : (.initialized RX11 : Cond) ∈ lw_g := lg_mem (List.mem_of_getElem? (i := 76) (by decide +kernel)) (by decide +kernel)
theorem mw_77 : (.initialized RX5 : Cond) ∈ lw_g := lg_mem (List.mem_of_getElem? (i := 77) (by decide +kernel)) (by decide +kernel)
theorem mw_78 : (.initialized RX6 : Cond) ∈ lw_g := lg_mem (List.mem_of_getElem? (i := 78) (by decide +kernel)) (by decide +kernel)
theorem mw_79 : (.initialized "java/lang/Enum" : Cond) ∈ lw_g := lg_mem (List.mem_of_getElem? (i := 79) (by decide +kernel)) (by decide +kernel)
theorem mw_81 : (.initialized RX8 : Cond) ∈ lw_g := lg_mem (List.mem_of_getElem? (i := 81) (by decide +kernel)) (by decide +kernel)
theorem mw_82 : (.initialized RX1 : Cond) ∈ lw_g := lg_mem (List.mem_of_getElem? (i := 82) (by decide +kernel)) (by decide +kernel)
theorem mw_83 : (.initialized RX2 : Cond) ∈ lw_g := lg_mem (List.mem_of_getElem? (i := 83) (by decide +kernel)) (by decide +kernel)
theorem mw_84 : (.initialized RX4 : Cond) ∈ lw_g := lg_mem (List.mem_of_getElem? (i := 84) (by decide +kernel)) (by decide +kernel)
theorem mw_85 : (.initialized RX13 : Cond) ∈ lw_g := lg_mem (List.mem_of_getElem? (i := 85) (by decide +kernel)) (by decide +kernel)
theorem mw_86 : (.initialized "java/lang/Math" : Cond) ∈ lw_g := lg_mem (List.mem_of_getElem? (i := 86) (by decide +kernel)) (by decide +kernel)
theorem mw_87 : (.initialized "java/lang/System" : Cond) ∈ lw_g := lg_mem (List.mem_of_getElem? (i := 87) (by decide +kernel)) (by decide +kernel)
theorem mw_89 : (.initialized RX3 : Cond) ∈ lw_g := lg_mem (List.mem_of_getElem? (i := 89) (by decide +kernel)) (by decide +kernel)
theorem mw_90 : (.initialized "java/lang/String" : Cond) ∈ lw_g := lg_mem (List.mem_of_getElem? (i := 90) (by decide +kernel)) (by decide +kernel)
theorem mw_91 : (.initialized "java/lang/StringLatin1" : Cond) ∈ lw_g := lg_mem (List.mem_of_getElem? (i := 91) (by decide +kernel)) (by decide +kernel)
theorem mw_92 : (.initialized "jdk/internal/util/Preconditions" : Cond) ∈ lw_g := lg_mem (List.mem_of_getElem? (i := 92) (by decide +kernel)) (by decide +kernel)
theorem mw_108 : (.fieldLink RX7 9 "MarkupTokens$Source" "characters" "[I" : Cond) ∈ lw_g := lg_mem (List.mem_of_getElem? (i := 108) (by decide +kernel)) (by decide +kernel)
theorem mw_109 : (.fieldLink RX7 15 "MarkupTokens$Source" "count" "I" : Cond) ∈ lw_g := lg_mem (List.mem_of_getElem? (i := 109) (by decide +kernel)) (by decide +kernel)
theorem mw_110 : (.fieldLink RX7 19 "MarkupTokens$Source" "place" "I" : Cond) ∈ lw_g := lg_mem (List.mem_of_getElem? (i := 110) (by decide +kernel)) (by decide +kernel)
theorem mw_111 : (.fieldLink RX7 22 "MarkupTokens$Source" "codes" "[I" : Cond) ∈ lw_g := lg_mem (List.mem_of_getElem? (i := 111) (by decide +kernel)) (by decide +kernel)
theorem mw_112 : (.fieldLink RX7 25 "MarkupTokens$Source" "places" "[I" : Cond) ∈ lw_g := lg_mem (List.mem_of_getElem? (i := 112) (by decide +kernel)) (by decide +kernel)
theorem mw_113 : (.fieldLink RX7 28 "MarkupTokens$Source" "faultCount" "I" : Cond) ∈ lw_g := lg_mem (List.mem_of_getElem? (i := 113) (by decide +kernel)) (by decide +kernel)
theorem mw_135 : (.fieldLink RX9 11 "MarkupTokens$Tokens" "row" "[I" : Cond) ∈ lw_g := lg_mem (List.mem_of_getElem? (i := 135) (by decide +kernel)) (by decide +kernel)
theorem mw_136 : (.fieldLink RX9 15 "MarkupTokens$Tokens" "used" "I" : Cond) ∈ lw_g := lg_mem (List.mem_of_getElem? (i := 136) (by decide +kernel)) (by decide +kernel)
theorem mw_137 : (.fieldLink RX9 19 "MarkupTokens$Tokens" "kinds" "[I" : Cond) ∈ lw_g := lg_mem (List.mem_of_getElem? (i := 137) (by decide +kernel)) (by decide +kernel)
theorem mw_138 : (.fieldLink RX9 22 "MarkupTokens$Tokens" "starts" "[I" : Cond) ∈ lw_g := lg_mem (List.mem_of_getElem? (i := 138) (by decide +kernel)) (by decide +kernel)
theorem mw_139 : (.fieldLink RX9 25 "MarkupTokens$Tokens" "ends" "[I" : Cond) ∈ lw_g := lg_mem (List.mem_of_getElem? (i := 139) (by decide +kernel)) (by decide +kernel)
theorem mw_140 : (.fieldLink RX9 28 "MarkupTokens$Tokens" "marks" "[I" : Cond) ∈ lw_g := lg_mem (List.mem_of_getElem? (i := 140) (by decide +kernel)) (by decide +kernel)
theorem mw_141 : (.fieldLink RX9 31 "MarkupTokens$Tokens" "firstAttributes" "[I" : Cond) ∈ lw_g := lg_mem (List.mem_of_getElem? (i := 141) (by decide +kernel)) (by decide +kernel)
theorem mw_142 : (.fieldLink RX9 34 "MarkupTokens$Tokens" "attributeCounts" "[I" : Cond) ∈ lw_g := lg_mem (List.mem_of_getElem? (i := 142) (by decide +kernel)) (by decide +kernel)
theorem mw_143 : (.fieldLink RX9 37 "MarkupTokens$Tokens" "count" "I" : Cond) ∈ lw_g := lg_mem (List.mem_of_getElem? (i := 143) (by decide +kernel)) (by decide +kernel)
theorem mw_144 : (.fieldLink RX9 40 "MarkupTokens$Tokens" "inText" "Z" : Cond) ∈ lw_g := lg_mem (List.mem_of_getElem? (i := 144) (by decide +kernel)) (by decide +kernel)
theorem mw_145 : (.fieldLink RX9 44 "MarkupTokens$Tokens" "nameStarts" "[I" : Cond) ∈ lw_g := lg_mem (List.mem_of_getElem? (i := 145) (by decide +kernel)) (by decide +kernel)
theorem mw_146 : (.fieldLink RX9 47 "MarkupTokens$Tokens" "valueStarts" "[I" : Cond) ∈ lw_g := lg_mem (List.mem_of_getElem? (i := 146) (by decide +kernel)) (by decide +kernel)
theorem mw_147 : (.fieldLink RX9 50 "MarkupTokens$Tokens" "valueEnds" "[I" : Cond) ∈ lw_g := lg_mem (List.mem_of_getElem? (i := 147) (by decide +kernel)) (by decide +kernel)
theorem mw_148 : (.fieldLink RX9 53 "MarkupTokens$Tokens" "attributesUsed" "I" : Cond) ∈ lw_g := lg_mem (List.mem_of_getElem? (i := 148) (by decide +kernel)) (by decide +kernel)
theorem mw_149 : (.fieldLink RX9 56 "MarkupTokens$Tokens" "inAttribute" "Z" : Cond) ∈ lw_g := lg_mem (List.mem_of_getElem? (i := 149) (by decide +kernel)) (by decide +kernel)
theorem mw_196 : (.fieldLink RX6 9 "MarkupTokens$Way" "DATA" "LMarkupTokens$Way;" : Cond) ∈ lw_g := lg_mem (List.mem_of_getElem? (i := 196) (by decide +kernel)) (by decide +kernel)
theorem mw_198 : (.fieldLink RX6 15 "MarkupTokens$ReferenceWays" "back" "LMarkupTokens$Way;" : Cond) ∈ lw_g := lg_mem (List.mem_of_getElem? (i := 198) (by decide +kernel)) (by decide +kernel)
theorem mw_199 : (.fieldLink RX11 9 "MarkupTokens$Ways" "source" "LMarkupTokens$Source;" : Cond) ∈ lw_g := lg_mem (List.mem_of_getElem? (i := 199) (by decide +kernel)) (by decide +kernel)
theorem mw_200 : (.fieldLink RX1 15 "MarkupTokens$CommentWays" "source" "LMarkupTokens$Source;" : Cond) ∈ lw_g := lg_mem (List.mem_of_getElem? (i := 200) (by decide +kernel)) (by decide +kernel)
theorem mw_201 : (.sameField "MarkupTokens$CommentWays" "MarkupTokens$Ways" "source" "LMarkupTokens$Source;" : Cond) ∈ lw_g := lg_mem (List.mem_of_getElem? (i := 201) (by decide +kernel)) (by decide +kernel)
theorem mw_202 : (.fieldLink RX2 9 "MarkupTokens$DoctypeWays" "source" "LMarkupTokens$Source;" : Cond) ∈ lw_g := lg_mem (List.mem_of_getElem? (i := 202) (by decide +kernel)) (by decide +kernel)
theorem mw_203 : (.sameField "MarkupTokens$DoctypeWays" "MarkupTokens$Ways" "source" "LMarkupTokens$Source;" : Cond) ∈ lw_g := lg_mem (List.mem_of_getElem? (i := 203) (by decide +kernel)) (by decide +kernel)
theorem mw_204 : (.fieldLink RX6 20 "MarkupTokens$ReferenceWays" "source" "LMarkupTokens$Source;" : Cond) ∈ lw_g := lg_mem (List.mem_of_getElem? (i := 204) (by decide +kernel)) (by decide +kernel)
theorem mw_205 : (.sameField "MarkupTokens$ReferenceWays" "MarkupTokens$Ways" "source" "LMarkupTokens$Source;" : Cond) ∈ lw_g := lg_mem (List.mem_of_getElem? (i := 205) (by decide +kernel)) (by decide +kernel)
theorem mw_206 : (.fieldLink RX5 51 "MarkupTokens$Reader" "source" "LMarkupTokens$Source;" : Cond) ∈ lw_g := lg_mem (List.mem_of_getElem? (i := 206) (by decide +kernel)) (by decide +kernel)
theorem mw_207 : (.sameField "MarkupTokens$Reader" "MarkupTokens$Ways" "source" "LMarkupTokens$Source;" : Cond) ∈ lw_g := lg_mem (List.mem_of_getElem? (i := 207) (by decide +kernel)) (by decide +kernel)
theorem mw_208 : (.fieldLink RX8 23 "MarkupTokens$TagWays" "source" "LMarkupTokens$Source;" : Cond) ∈ lw_g := lg_mem (List.mem_of_getElem? (i := 208) (by decide +kernel)) (by decide +kernel)
theorem mw_209 : (.sameField "MarkupTokens$TagWays" "MarkupTokens$Ways" "source" "LMarkupTokens$Source;" : Cond) ∈ lw_g := lg_mem (List.mem_of_getElem? (i := 209) (by decide +kernel)) (by decide +kernel)
theorem mw_210 : (.fieldLink RX11 15 "MarkupTokens$Ways" "tokens" "LMarkupTokens$Tokens;" : Cond) ∈ lw_g := lg_mem (List.mem_of_getElem? (i := 210) (by decide +kernel)) (by decide +kernel)
theorem mw_211 : (.fieldLink RX2 21 "MarkupTokens$DoctypeWays" "tokens" "LMarkupTokens$Tokens;" : Cond) ∈ lw_g := lg_mem (List.mem_of_getElem? (i := 211) (by decide +kernel)) (by decide +kernel)
theorem mw_212 : (.sameField "MarkupTokens$DoctypeWays" "MarkupTokens$Ways" "tokens" "LMarkupTokens$Tokens;" : Cond) ∈ lw_g := lg_mem (List.mem_of_getElem? (i := 212) (by decide +kernel)) (by decide +kernel)
theorem mw_213 : (.fieldLink RX5 65 "MarkupTokens$Reader" "tokens" "LMarkupTokens$Tokens;" : Cond) ∈ lw_g := lg_mem (List.mem_of_getElem? (i := 213) (by decide +kernel)) (by decide +kernel)
theorem mw_214 : (.sameField "MarkupTokens$Reader" "MarkupTokens$Ways" "tokens" "LMarkupTokens$Tokens;" : Cond) ∈ lw_g := lg_mem (List.mem_of_getElem? (i := 214) (by decide +kernel)) (by decide +kernel)
theorem mw_215 : (.fieldLink RX6 43 "MarkupTokens$ReferenceWays" "tokens" "LMarkupTokens$Tokens;" : Cond) ∈ lw_g := lg_mem (List.mem_of_getElem? (i := 215) (by decide +kernel)) (by decide +kernel)
theorem mw_216 : (.sameField "MarkupTokens$ReferenceWays" "MarkupTokens$Ways" "tokens" "LMarkupTokens$Tokens;" : Cond) ∈ lw_g := lg_mem (List.mem_of_getElem? (i := 216) (by decide +kernel)) (by decide +kernel)
theorem mw_217 : (.fieldLink RX8 56 "MarkupTokens$TagWays" "tokens" "LMarkupTokens$Tokens;" : Cond) ∈ lw_g := lg_mem (List.mem_of_getElem? (i := 217) (by decide +kernel)) (by decide +kernel)
theorem mw_218 : (.sameField "MarkupTokens$TagWays" "MarkupTokens$Ways" "tokens" "LMarkupTokens$Tokens;" : Cond) ∈ lw_g := lg_mem (List.mem_of_getElem? (i := 218) (by decide +kernel)) (by decide +kernel)
theorem mw_219 : (.fieldLink RX1 74 "MarkupTokens$CommentWays" "tokens" "LMarkupTokens$Tokens;" : Cond) ∈ lw_g := lg_mem (List.mem_of_getElem? (i := 219) (by decide +kernel)) (by decide +kernel)
theorem mw_220 : (.sameField "MarkupTokens$CommentWays" "MarkupTokens$Ways" "tokens" "LMarkupTokens$Tokens;" : Cond) ∈ lw_g := lg_mem (List.mem_of_getElem? (i := 220) (by decide +kernel)) (by decide +kernel)
theorem mw_234 : (.fieldLink RX8 15 "MarkupTokens$TagWays" "references" "LMarkupTokens$ReferenceWays;" : Cond) ∈ lw_g := lg_mem (List.mem_of_getElem? (i := 234) (by decide +kernel)) (by decide +kernel)
theorem mw_235 : (.fieldLink RX8 9 "MarkupTokens$TagWays" "quote" "I" : Cond) ∈ lw_g := lg_mem (List.mem_of_getElem? (i := 235) (by decide +kernel)) (by decide +kernel)
theorem mw_249 : (.fieldLink RX1 11 "MarkupTokens$CommentWays" "nestedPlace" "I" : Cond) ∈ lw_g := lg_mem (List.mem_of_getElem? (i := 249) (by decide +kernel)) (by decide +kernel)
theorem mw_264 : (.fieldLink RX5 12 "MarkupTokens$Reader" "references" "LMarkupTokens$ReferenceWays;" : Cond) ∈ lw_g := lg_mem (List.mem_of_getElem? (i := 264) (by decide +kernel)) (by decide +kernel)
theorem mw_265 : (.fieldLink RX5 23 "MarkupTokens$Reader" "tags" "LMarkupTokens$TagWays;" : Cond) ∈ lw_g := lg_mem (List.mem_of_getElem? (i := 265) (by decide +kernel)) (by decide +kernel)
theorem mw_266 : (.fieldLink RX5 30 "MarkupTokens$Reader" "comments" "LMarkupTokens$CommentWays;" : Cond) ∈ lw_g := lg_mem (List.mem_of_getElem? (i := 266) (by decide +kernel)) (by decide +kernel)
theorem mw_267 : (.fieldLink RX5 37 "MarkupTokens$Reader" "doctypes" "LMarkupTokens$DoctypeWays;" : Cond) ∈ lw_g := lg_mem (List.mem_of_getElem? (i := 267) (by decide +kernel)) (by decide +kernel)
theorem mw_285 : (.fieldLink RX4 19 "MarkupTokens$Out" "tokens" "LMarkupTokens$Tokens;" : Cond) ∈ lw_g := lg_mem (List.mem_of_getElem? (i := 285) (by decide +kernel)) (by decide +kernel)
theorem mw_286 : (.fieldLink RX4 11 "MarkupTokens$Out" "bytes" "[B" : Cond) ∈ lw_g := lg_mem (List.mem_of_getElem? (i := 286) (by decide +kernel)) (by decide +kernel)
theorem mw_287 : (.fieldLink RX4 15 "MarkupTokens$Out" "length" "I" : Cond) ∈ lw_g := lg_mem (List.mem_of_getElem? (i := 287) (by decide +kernel)) (by decide +kernel)
theorem mw_295 : (.fieldLink RX12 9 "MarkupTokens" "text" "[B" : Cond) ∈ lw_g := lg_mem (List.mem_of_getElem? (i := 295) (by decide +kernel)) (by decide +kernel)
theorem mw_296 : (.fieldLink RX12 13 "MarkupTokens" "textLength" "I" : Cond) ∈ lw_g := lg_mem (List.mem_of_getElem? (i := 296) (by decide +kernel)) (by decide +kernel)
theorem mw_297 : (.fieldLink RX12 20 "MarkupTokens" "source" "LMarkupTokens$Source;" : Cond) ∈ lw_g := lg_mem (List.mem_of_getElem? (i := 297) (by decide +kernel)) (by decide +kernel)
theorem mw_298 : (.fieldLink RX12 27 "MarkupTokens" "tokens" "LMarkupTokens$Tokens;" : Cond) ∈ lw_g := lg_mem (List.mem_of_getElem? (i := 298) (by decide +kernel)) (by decide +kernel)
theorem mw_299 : (.fieldLink RX12 36 "MarkupTokens" "reader" "LMarkupTokens$Reader;" : Cond) ∈ lw_g := lg_mem (List.mem_of_getElem? (i := 299) (by decide +kernel)) (by decide +kernel)
theorem mw_300 : (.fieldLink RX12 45 "MarkupTokens" "out" "LMarkupTokens$Out;" : Cond) ∈ lw_g := lg_mem (List.mem_of_getElem? (i := 300) (by decide +kernel)) (by decide +kernel)
theorem mw_326 : (.methodLink RX12 49 y_Out_length : Cond) ∈ lw_g := lg_mem (List.mem_of_getElem? (i := 326) (by decide +kernel)) (by decide +kernel)
theorem mw_327 : (.instanceMethod y_Out_length : Cond) ∈ lw_g := lg_mem (List.mem_of_getElem? (i := 327) (by decide +kernel)) (by decide +kernel)
theorem mw_328 : (.selects RX4 y_Out_length y_Out_length : Cond) ∈ lw_g := lg_mem (List.mem_of_getElem? (i := 328) (by decide +kernel)) (by decide +kernel)
theorem mw_329 : (.code y_Out_length b_Out_length 1 (some .int) : Cond) ∈ lw_g := lg_mem (List.mem_of_getElem? (i := 329) (by decide +kernel)) (by decide +kernel)
theorem mw_330 : (.methodLink RX12 53 y_Out_copyTo : Cond) ∈ lw_g := lg_mem (List.mem_of_getElem? (i := 330) (by decide +kernel)) (by decide +kernel)
theorem mw_331 : (.instanceMethod y_Out_copyTo : Cond) ∈ lw_g := lg_mem (List.mem_of_getElem? (i := 331) (by decide +kernel)) (by decide +kernel)
theorem mw_332 : (.selects RX4 y_Out_copyTo y_Out_copyTo : Cond) ∈ lw_g := lg_mem (List.mem_of_getElem? (i := 332) (by decide +kernel)) (by decide +kernel)
theorem mw_333 : (.code y_Out_copyTo b_Out_copyTo 2 none : Cond) ∈ lw_g := lg_mem (List.mem_of_getElem? (i := 333) (by decide +kernel)) (by decide +kernel)
theorem mw_334 : (.methodLink RX4 25 Lib.Math.min.name : Cond) ∈ lw_g := lg_mem (List.mem_of_getElem? (i := 334) (by decide +kernel)) (by decide +kernel)
theorem mw_335 : (.static Lib.Math.min.name : Cond) ∈ lw_g := lg_mem (List.mem_of_getElem? (i := 335) (by decide +kernel)) (by decide +kernel)
theorem mw_336 : (.code Lib.Math.min.name Lib.Math.min.code 2 (some .int) : Cond) ∈ lw_g := lg_mem (List.mem_of_getElem? (i := 336) (by decide +kernel)) (by decide +kernel)
theorem mw_337 : (.methodLink RX4 31 arraycopyName : Cond) ∈ lw_g := lg_mem (List.mem_of_getElem? (i := 337) (by decide +kernel)) (by decide +kernel)
theorem mw_338 : (.static arraycopyName : Cond) ∈ lw_g := lg_mem (List.mem_of_getElem? (i := 338) (by decide +kernel)) (by decide +kernel)
theorem mw_339 : (.native arraycopyName : Cond) ∈ lw_g := lg_mem (List.mem_of_getElem? (i := 339) (by decide +kernel)) (by decide +kernel)
theorem mw_344 : (.methodLink RX12 57 y_Source_open : Cond) ∈ lw_g := lg_mem (List.mem_of_getElem? (i := 344) (by decide +kernel)) (by decide +kernel)
theorem mw_345 : (.instanceMethod y_Source_open : Cond) ∈ lw_g := lg_mem (List.mem_of_getElem? (i := 345) (by decide +kernel)) (by decide +kernel)
theorem mw_346 : (.selects RX7 y_Source_open y_Source_open : Cond) ∈ lw_g := lg_mem (List.mem_of_getElem? (i := 346) (by decide +kernel)) (by decide +kernel)
theorem mw_347 : (.code y_Source_open b_Source_open 5 none : Cond) ∈ lw_g := lg_mem (List.mem_of_getElem? (i := 347) (by decide +kernel)) (by decide +kernel)
theorem mw_348 : (.methodLink RX12 61 y_Tokens_forget : Cond) ∈ lw_g := lg_mem (List.mem_of_getElem? (i := 348) (by decide +kernel)) (by decide +kernel)
theorem mw_349 : (.instanceMethod y_Tokens_forget : Cond) ∈ lw_g := lg_mem (List.mem_of_getElem? (i := 349) (by decide +kernel)) (by decide +kernel)
theorem mw_350 : (.selects RX9 y_Tokens_forget y_Tokens_forget : Cond) ∈ lw_g := lg_mem (List.mem_of_getElem? (i := 350) (by decide +kernel)) (by decide +kernel)
theorem mw_351 : (.code y_Tokens_forget b_Tokens_forget 1 none : Cond) ∈ lw_g := lg_mem (List.mem_of_getElem? (i := 351) (by decide +kernel)) (by decide +kernel)
theorem mw_352 : (.methodLink RX12 64 y_Reader_cut : Cond) ∈ lw_g := lg_mem (List.mem_of_getElem? (i := 352) (by decide +kernel)) (by decide +kernel)
theorem mw_353 : (.instanceMethod y_Reader_cut : Cond) ∈ lw_g := lg_mem (List.mem_of_getElem? (i := 353) (by decide +kernel)) (by decide +kernel)
theorem mw_354 : (.selects RX5 y_Reader_cut y_Reader_cut : Cond) ∈ lw_g := lg_mem (List.mem_of_getElem? (i := 354) (by decide +kernel)) (by decide +kernel)
theorem mw_355 : (.code y_Reader_cut b_Reader_cut 3 none : Cond) ∈ lw_g := lg_mem (List.mem_of_getElem? (i := 355) (by decide +kernel)) (by decide +kernel)
theorem mw_356 : (.fieldLink RX5 41 "MarkupTokens$Way" "DATA" "LMarkupTokens$Way;" : Cond) ∈ lw_g := lg_mem (List.mem_of_getElem? (i := 356) (by decide +kernel)) (by decide +kernel)
theorem mw_357 : (.constant RX5 47 100000 : Cond) ∈ lw_g := lg_mem (List.mem_of_getElem? (i := 357) (by decide +kernel)) (by decide +kernel)
theorem mw_358 : (.fieldLink RX5 48 "MarkupTokens$Way" "OVER" "LMarkupTokens$Way;" : Cond) ∈ lw_g := lg_mem (List.mem_of_getElem? (i := 358) (by decide +kernel)) (by decide +kernel)
theorem mw_360 : (.methodLink RX5 55 y_Source_next : Cond) ∈ lw_g := lg_mem (List.mem_of_getElem? (i := 360) (by decide +kernel)) (by decide +kernel)
theorem mw_361 : (.instanceMethod y_Source_next : Cond) ∈ lw_g := lg_mem (List.mem_of_getElem? (i := 361) (by decide +kernel)) (by decide +kernel)
theorem mw_362 : (.selects RX7 y_Source_next y_Source_next : Cond) ∈ lw_g := lg_mem (List.mem_of_getElem? (i := 362) (by decide +kernel)) (by decide +kernel)
theorem mw_363 : (.code y_Source_next b_Source_next 1 (some .int) : Cond) ∈ lw_g := lg_mem (List.mem_of_getElem? (i := 363) (by decide +kernel)) (by decide +kernel)
theorem mw_364 : (.methodLink RX7 31 y_Source_character : Cond) ∈ lw_g := lg_mem (List.mem_of_getElem? (i := 364) (by decide +kernel)) (by decide +kernel)
theorem mw_365 : (.instanceMethod y_Source_character : Cond) ∈ lw_g := lg_mem (List.mem_of_getElem? (i := 365) (by decide +kernel)) (by decide +kernel)
theorem mw_366 : (.selects RX7 y_Source_character y_Source_character : Cond) ∈ lw_g := lg_mem (List.mem_of_getElem? (i := 366) (by decide +kernel)) (by decide +kernel)
theorem mw_367 : (.code y_Source_character b_Source_character 2 (some .int) : Cond) ∈ lw_g := lg_mem (List.mem_of_getElem? (i := 367) (by decide +kernel)) (by decide +kernel)
theorem mw_368 : (.methodLink RX5 61 y_Reader_follow : Cond) ∈ lw_g := lg_mem (List.mem_of_getElem? (i := 368) (by decide +kernel)) (by decide +kernel)
theorem mw_370 : (.instanceMethod y_Reader_follow : Cond) ∈ lw_g := lg_mem (List.mem_of_getElem? (i := 370) (by decide +kernel)) (by decide +kernel)
theorem mw_371 : (.code y_Reader_follow b_Reader_follow 3 (some (.object "MarkupTokens$Way")) : Cond) ∈ lw_g := lg_mem (List.mem_of_getElem? (i := 371) (by decide +kernel)) (by decide +kernel)
theorem mw_372 : (.fieldLink RX5 75 "MarkupTokens$1" "$SwitchMap$MarkupTokens$Way" "[I" : Cond) ∈ lw_g := lg_mem (List.mem_of_getElem? (i := 372) (by decide +kernel)) (by decide +kernel)
theorem mw_374 : (.methodLink RX5 81 ⟨"MarkupTokens$Way", "ordinal", "()I"⟩ : Cond) ∈ lw_g := lg_mem (List.mem_of_getElem? (i := 374) (by decide +kernel)) (by decide +kernel)
theorem mw_375 : (.sameMethod "MarkupTokens$Way" "java/lang/Enum" "ordinal" "()I" : Cond) ∈ lw_g := lg_mem (List.mem_of_getElem? (i := 375) (by decide +kernel)) (by decide +kernel)
theorem mw_377 : (.selects RX10 ⟨"MarkupTokens$Way", "ordinal", "()I"⟩ y_Enum_ordinal : Cond) ∈ lw_g := lg_mem (List.mem_of_getElem? (i := 377) (by decide +kernel)) (by decide +kernel)
theorem mw_378 : (.instanceMethod y_Enum_ordinal : Cond) ∈ lw_g := lg_mem (List.mem_of_getElem? (i := 378) (by decide +kernel)) (by decide +kernel)
theorem mw_379 : (.code y_Enum_ordinal b_Enum_ordinal 1 (some .int) : Cond) ∈ lw_g := lg_mem (List.mem_of_getElem? (i := 379) (by decide +kernel)) (by decide +kernel)
theorem mw_380 : (.methodLink RX5 84 y_Reader_data : Cond) ∈ lw_g := lg_mem (List.mem_of_getElem? (i := 380) (by decide +kernel)) (by decide +kernel)
theorem mw_382 : (.instanceMethod y_Reader_data : Cond) ∈ lw_g := lg_mem (List.mem_of_getElem? (i := 382) (by decide +kernel)) (by decide +kernel)
theorem mw_383 : (.code y_Reader_data b_Reader_data 2 (some (.object "MarkupTokens$Way")) : Cond) ∈ lw_g := lg_mem (List.mem_of_getElem? (i := 383) (by decide +kernel)) (by decide +kernel)
theorem mw_384 : (.methodLink RX5 163 y_Tokens_beginText : Cond) ∈ lw_g := lg_mem (List.mem_of_getElem? (i := 384) (by decide +kernel)) (by decide +kernel)
theorem mw_385 : (.instanceMethod y_Tokens_beginText : Cond) ∈ lw_g := lg_mem (List.mem_of_getElem? (i := 385) (by decide +kernel)) (by decide +kernel)
theorem mw_386 : (.selects RX9 y_Tokens_beginText y_Tokens_beginText : Cond) ∈ lw_g := lg_mem (List.mem_of_getElem? (i := 386) (by decide +kernel)) (by decide +kernel)
theorem mw_387 : (.code y_Tokens_beginText b_Tokens_beginText 1 none : Cond) ∈ lw_g := lg_mem (List.mem_of_getElem? (i := 387) (by decide +kernel)) (by decide +kernel)
theorem mw_388 : (.methodLink RX9 62 y_Tokens_open : Cond) ∈ lw_g := lg_mem (List.mem_of_getElem? (i := 388) (by decide +kernel)) (by decide +kernel)
theorem mw_390 : (.instanceMethod y_Tokens_open : Cond) ∈ lw_g := lg_mem (List.mem_of_getElem? (i := 390) (by decide +kernel)) (by decide +kernel)
theorem mw_391 : (.code y_Tokens_open b_Tokens_open 2 none : Cond) ∈ lw_g := lg_mem (List.mem_of_getElem? (i := 391) (by decide +kernel)) (by decide +kernel)
theorem mw_392 : (.methodLink RX5 176 y_ReferenceWays_open : Cond) ∈ lw_g := lg_mem (List.mem_of_getElem? (i := 392) (by decide +kernel)) (by decide +kernel)
theorem mw_393 : (.instanceMethod y_ReferenceWays_open : Cond) ∈ lw_g := lg_mem (List.mem_of_getElem? (i := 393) (by decide +kernel)) (by decide +kernel)
theorem mw_394 : (.selects RX6 y_ReferenceWays_open y_ReferenceWays_open : Cond) ∈ lw_g := lg_mem (List.mem_of_getElem? (i := 394) (by decide +kernel)) (by decide +kernel)
theorem mw_395 : (.code y_ReferenceWays_open b_ReferenceWays_open 2 (some (.object "MarkupTokens$Way")) : Cond) ∈ lw_g := lg_mem (List.mem_of_getElem? (i := 395) (by decide +kernel)) (by decide +kernel)
theorem mw_396 : (.fieldLink RX6 24 "MarkupTokens$Way" "REFERENCE" "LMarkupTokens$Way;" : Cond) ∈ lw_g := lg_mem (List.mem_of_getElem? (i := 396) (by decide +kernel)) (by decide +kernel)
theorem mw_398 : (.methodLink RX6 27 y_Source_then : Cond) ∈ lw_g := lg_mem (List.mem_of_getElem? (i := 398) (by decide +kernel)) (by decide +kernel)
theorem mw_399 : (.instanceMethod y_Source_then : Cond) ∈ lw_g := lg_mem (List.mem_of_getElem? (i := 399) (by decide +kernel)) (by decide +kernel)
theorem mw_400 : (.selects RX7 y_Source_then y_Source_then : Cond) ∈ lw_g := lg_mem (List.mem_of_getElem? (i := 400) (by decide +kernel)) (by decide +kernel)
theorem mw_401 : (.code y_Source_then b_Source_then 2 (some (.object "MarkupTokens$Way")) : Cond) ∈ lw_g := lg_mem (List.mem_of_getElem? (i := 401) (by decide +kernel)) (by decide +kernel)
theorem mw_402 : (.fieldLink RX5 180 "MarkupTokens$Way" "TAG" "LMarkupTokens$Way;" : Cond) ∈ lw_g := lg_mem (List.mem_of_getElem? (i := 402) (by decide +kernel)) (by decide +kernel)
theorem mw_404 : (.methodLink RX5 183 y_Source_then : Cond) ∈ lw_g := lg_mem (List.mem_of_getElem? (i := 404) (by decide +kernel)) (by decide +kernel)
theorem mw_405 : (.methodLink RX5 186 y_Source_wrong : Cond) ∈ lw_g := lg_mem (List.mem_of_getElem? (i := 405) (by decide +kernel)) (by decide +kernel)
theorem mw_406 : (.instanceMethod y_Source_wrong : Cond) ∈ lw_g := lg_mem (List.mem_of_getElem? (i := 406) (by decide +kernel)) (by decide +kernel)
theorem mw_407 : (.selects RX7 y_Source_wrong y_Source_wrong : Cond) ∈ lw_g := lg_mem (List.mem_of_getElem? (i := 407) (by decide +kernel)) (by decide +kernel)
theorem mw_408 : (.code y_Source_wrong b_Source_wrong 2 none : Cond) ∈ lw_g := lg_mem (List.mem_of_getElem? (i := 408) (by decide +kernel)) (by decide +kernel)
theorem mw_409 : (.methodLink RX5 189 y_Reader_addToText : Cond) ∈ lw_g := lg_mem (List.mem_of_getElem? (i := 409) (by decide +kernel)) (by decide +kernel)
theorem mw_411 : (.instanceMethod y_Reader_addToText : Cond) ∈ lw_g := lg_mem (List.mem_of_getElem? (i := 411) (by decide +kernel)) (by decide +kernel)
theorem mw_412 : (.code y_Reader_addToText b_Reader_addToText 2 none : Cond) ∈ lw_g := lg_mem (List.mem_of_getElem? (i := 412) (by decide +kernel)) (by decide +kernel)
theorem mw_413 : (.methodLink RX5 166 y_Tokens_add : Cond) ∈ lw_g := lg_mem (List.mem_of_getElem? (i := 413) (by decide +kernel)) (by decide +kernel)
theorem mw_414 : (.instanceMethod y_Tokens_add : Cond) ∈ lw_g := lg_mem (List.mem_of_getElem? (i := 414) (by decide +kernel)) (by decide +kernel)
theorem mw_415 : (.selects RX9 y_Tokens_add y_Tokens_add : Cond) ∈ lw_g := lg_mem (List.mem_of_getElem? (i := 415) (by decide +kernel)) (by decide +kernel)
theorem mw_416 : (.code y_Tokens_add b_Tokens_add 2 none : Cond) ∈ lw_g := lg_mem (List.mem_of_getElem? (i := 416) (by decide +kernel)) (by decide +kernel)
theorem mw_417 : (.methodLink RX5 88 y_Reader_tag : Cond) ∈ lw_g := lg_mem (List.mem_of_getElem? (i := 417) (by decide +kernel)) (by decide +kernel)
theorem mw_419 : (.instanceMethod y_Reader_tag : Cond) ∈ lw_g := lg_mem (List.mem_of_getElem? (i := 419) (by decide +kernel)) (by decide +kernel)
theorem mw_420 : (.code y_Reader_tag b_Reader_tag 2 (some (.object "MarkupTokens$Way")) : Cond) ∈ lw_g := lg_mem (List.mem_of_getElem? (i := 420) (by decide +kernel)) (by decide +kernel)
theorem mw_422 : (.static y_Mt_isLetter : Cond) ∈ lw_g := lg_mem (List.mem_of_getElem? (i := 422) (by decide +kernel)) (by decide +kernel)
theorem mw_423 : (.code y_Mt_isLetter b_Mt_isLetter 1 (some .boolean) : Cond) ∈ lw_g := lg_mem (List.mem_of_getElem? (i := 423) (by decide +kernel)) (by decide +kernel)
theorem mw_424 : (.methodLink RX5 170 y_Tokens_begin : Cond) ∈ lw_g := lg_mem (List.mem_of_getElem? (i := 424) (by decide +kernel)) (by decide +kernel)
theorem mw_425 : (.instanceMethod y_Tokens_begin : Cond) ∈ lw_g := lg_mem (List.mem_of_getElem? (i := 425) (by decide +kernel)) (by decide +kernel)
theorem mw_426 : (.selects RX9 y_Tokens_begin y_Tokens_begin : Cond) ∈ lw_g := lg_mem (List.mem_of_getElem? (i := 426) (by decide +kernel)) (by decide +kernel)
theorem mw_427 : (.code y_Tokens_begin b_Tokens_begin 2 none : Cond) ∈ lw_g := lg_mem (List.mem_of_getElem? (i := 427) (by decide +kernel)) (by decide +kernel)
theorem mw_428 : (.methodLink RX9 59 y_Tokens_endText : Cond) ∈ lw_g := lg_mem (List.mem_of_getElem? (i := 428) (by decide +kernel)) (by decide +kernel)
theorem mw_429 : (.instanceMethod y_Tokens_endText : Cond) ∈ lw_g := lg_mem (List.mem_of_getElem? (i := 429) (by decide +kernel)) (by decide +kernel)
theorem mw_430 : (.selects RX9 y_Tokens_endText y_Tokens_endText : Cond) ∈ lw_g := lg_mem (List.mem_of_getElem? (i := 430) (by decide +kernel)) (by decide +kernel)
theorem mw_431 : (.code y_Tokens_endText b_Tokens_endText 1 none : Cond) ∈ lw_g := lg_mem (List.mem_of_getElem? (i := 431) (by decide +kernel)) (by decide +kernel)
theorem mw_432 : (.fieldLink RX5 196 "MarkupTokens$Way" "NAME" "LMarkupTokens$Way;" : Cond) ∈ lw_g := lg_mem (List.mem_of_getElem? (i := 432) (by decide +kernel)) (by decide +kernel)
theorem mw_434 : (.fieldLink RX5 199 "MarkupTokens$Way" "MARK" "LMarkupTokens$Way;" : Cond) ∈ lw_g := lg_mem (List.mem_of_getElem? (i := 434) (by decide +kernel)) (by decide +kernel)
theorem mw_436 : (.fieldLink RX5 202 "MarkupTokens$Way" "ENDTAG" "LMarkupTokens$Way;" : Cond) ∈ lw_g := lg_mem (List.mem_of_getElem? (i := 436) (by decide +kernel)) (by decide +kernel)
theorem mw_438 : (.methodLink RX5 205 y_Reader_bogus : Cond) ∈ lw_g := lg_mem (List.mem_of_getElem? (i := 438) (by decide +kernel)) (by decide +kernel)
theorem mw_440 : (.instanceMethod y_Reader_bogus : Cond) ∈ lw_g := lg_mem (List.mem_of_getElem? (i := 440) (by decide +kernel)) (by decide +kernel)
theorem mw_441 : (.code y_Reader_bogus b_Reader_bogus 1 (some (.object "MarkupTokens$Way")) : Cond) ∈ lw_g := lg_mem (List.mem_of_getElem? (i := 441) (by decide +kernel)) (by decide +kernel)
theorem mw_442 : (.fieldLink RX5 173 "MarkupTokens$Way" "BOGUS" "LMarkupTokens$Way;" : Cond) ∈ lw_g := lg_mem (List.mem_of_getElem? (i := 442) (by decide +kernel)) (by decide +kernel)
theorem mw_444 : (.methodLink RX5 91 y_Reader_endTag : Cond) ∈ lw_g := lg_mem (List.mem_of_getElem? (i := 444) (by decide +kernel)) (by decide +kernel)
theorem mw_446 : (.instanceMethod y_Reader_endTag : Cond) ∈ lw_g := lg_mem (List.mem_of_getElem? (i := 446) (by decide +kernel)) (by decide +kernel)
theorem mw_447 : (.code y_Reader_endTag b_Reader_endTag 2 (some (.object "MarkupTokens$Way")) : Cond) ∈ lw_g := lg_mem (List.mem_of_getElem? (i := 447) (by decide +kernel)) (by decide +kernel)
theorem mw_448 : (.methodLink RX5 94 y_ReferenceWays_start : Cond) ∈ lw_g := lg_mem (List.mem_of_getElem? (i := 448) (by decide +kernel)) (by decide +kernel)
theorem mw_449 : (.instanceMethod y_ReferenceWays_start : Cond) ∈ lw_g := lg_mem (List.mem_of_getElem? (i := 449) (by decide +kernel)) (by decide +kernel)
theorem mw_450 : (.selects RX6 y_ReferenceWays_start y_ReferenceWays_start : Cond) ∈ lw_g := lg_mem (List.mem_of_getElem? (i := 450) (by decide +kernel)) (by decide +kernel)
theorem mw_451 : (.code y_ReferenceWays_start b_ReferenceWays_start 2 (some (.object "MarkupTokens$Way")) : Cond) ∈ lw_g := lg_mem (List.mem_of_getElem? (i := 451) (by decide +kernel)) (by decide +kernel)
theorem mw_452 : (.fieldLink RX6 33 "MarkupTokens$Way" "NUMBERED" "LMarkupTokens$Way;" : Cond) ∈ lw_g := lg_mem (List.mem_of_getElem? (i := 452) (by decide +kernel)) (by decide +kernel)
theorem mw_455 : (.static y_Mt_isLetterOrDigit : Cond) ∈ lw_g := lg_mem (List.mem_of_getElem? (i := 455) (by decide +kernel)) (by decide +kernel)
theorem mw_456 : (.code y_Mt_isLetterOrDigit b_Mt_isLetterOrDigit 1 (some .boolean) : Cond) ∈ lw_g := lg_mem (List.mem_of_getElem? (i := 456) (by decide +kernel)) (by decide +kernel)
theorem mw_457 : (.methodLink RX12 128 y_Mt_isLetter : Cond) ∈ lw_g := lg_mem (List.mem_of_getElem? (i := 457) (by decide +kernel)) (by decide +kernel)
theorem mw_458 : (.fieldLink RX6 40 "MarkupTokens$Way" "NAMED" "LMarkupTokens$Way;" : Cond) ∈ lw_g := lg_mem (List.mem_of_getElem? (i := 458) (by decide +kernel)) (by decide +kernel)
theorem mw_460 : (.methodLink RX6 47 y_Tokens_add : Cond) ∈ lw_g := lg_mem (List.mem_of_getElem? (i := 460) (by decide +kernel)) (by decide +kernel)
theorem mw_461 : (.methodLink RX5 97 y_ReferenceWays_named : Cond) ∈ lw_g := lg_mem (List.mem_of_getElem? (i := 461) (by decide +kernel)) (by decide +kernel)
theorem mw_462 : (.instanceMethod y_ReferenceWays_named : Cond) ∈ lw_g := lg_mem (List.mem_of_getElem? (i := 462) (by decide +kernel)) (by decide +kernel)
theorem mw_463 : (.selects RX6 y_ReferenceWays_named y_ReferenceWays_named : Cond) ∈ lw_g := lg_mem (List.mem_of_getElem? (i := 463) (by decide +kernel)) (by decide +kernel)
theorem mw_464 : (.code y_ReferenceWays_named b_ReferenceWays_named 4 (some (.object "MarkupTokens$Way")) : Cond) ∈ lw_g := lg_mem (List.mem_of_getElem? (i := 464) (by decide +kernel)) (by decide +kernel)
theorem mw_465 : (.methodLink RX6 67 y_ReferenceWays_longestName : Cond) ∈ lw_g := lg_mem (List.mem_of_getElem? (i := 465) (by decide +kernel)) (by decide +kernel)
theorem mw_467 : (.instanceMethod y_ReferenceWays_longestName : Cond) ∈ lw_g := lg_mem (List.mem_of_getElem? (i := 467) (by decide +kernel)) (by decide +kernel)
theorem mw_468 : (.code y_ReferenceWays_longestName b_ReferenceWays_longestName 8 (some (.object "MarkupTokens$Named")) : Cond) ∈ lw_g := lg_mem (List.mem_of_getElem? (i := 468) (by decide +kernel)) (by decide +kernel)
theorem mw_471 : (.methodLink RX6 59 y_Source_place : Cond) ∈ lw_g := lg_mem (List.mem_of_getElem? (i := 471) (by decide +kernel)) (by decide +kernel)
theorem mw_472 : (.instanceMethod y_Source_place : Cond) ∈ lw_g := lg_mem (List.mem_of_getElem? (i := 472) (by decide +kernel)) (by decide +kernel)
theorem mw_473 : (.selects RX7 y_Source_place y_Source_place : Cond) ∈ lw_g := lg_mem (List.mem_of_getElem? (i := 473) (by decide +kernel)) (by decide +kernel)
theorem mw_474 : (.code y_Source_place b_Source_place 1 (some .int) : Cond) ∈ lw_g := lg_mem (List.mem_of_getElem? (i := 474) (by decide +kernel)) (by decide +kernel)
theorem mw_475 : (.methodLink RX6 63 y_Named_lengthIn : Cond) ∈ lw_g := lg_mem (List.mem_of_getElem? (i := 475) (by decide +kernel)) (by decide +kernel)
theorem mw_476 : (.instanceMethod y_Named_lengthIn : Cond) ∈ lw_g := lg_mem (List.mem_of_getElem? (i := 476) (by decide +kernel)) (by decide +kernel)
theorem mw_477 : (.selects RX3 y_Named_lengthIn y_Named_lengthIn : Cond) ∈ lw_g := lg_mem (List.mem_of_getElem? (i := 477) (by decide +kernel)) (by decide +kernel)
theorem mw_478 : (.code y_Named_lengthIn b_Named_lengthIn 5 (some .int) : Cond) ∈ lw_g := lg_mem (List.mem_of_getElem? (i := 478) (by decide +kernel)) (by decide +kernel)
theorem mw_479 : (.methodLink RX3 131 y_String_length : Cond) ∈ lw_g := lg_mem (List.mem_of_getElem? (i := 479) (by decide +kernel)) (by decide +kernel)
theorem mw_480 : (.instanceMethod y_String_length : Cond) ∈ lw_g := lg_mem (List.mem_of_getElem? (i := 480) (by decide +kernel)) (by decide +kernel)
theorem mw_481 : (.selects "java/lang/String" y_String_length y_String_length : Cond) ∈ lw_g := lg_mem (List.mem_of_getElem? (i := 481) (by decide +kernel)) (by decide +kernel)
theorem mw_482 : (.code y_String_length b_String_length 1 (some .int) : Cond) ∈ lw_g := lg_mem (List.mem_of_getElem? (i := 482) (by decide +kernel)) (by decide +kernel)
theorem mw_483 : (.methodLink "java/lang/String" 335 y_String_coder : Cond) ∈ lw_g := lg_mem (List.mem_of_getElem? (i := 483) (by decide +kernel)) (by decide +kernel)
theorem mw_484 : (.instanceMethod y_String_coder : Cond) ∈ lw_g := lg_mem (List.mem_of_getElem? (i := 484) (by decide +kernel)) (by decide +kernel)
theorem mw_485 : (.selects "java/lang/String" y_String_coder y_String_coder : Cond) ∈ lw_g := lg_mem (List.mem_of_getElem? (i := 485) (by decide +kernel)) (by decide +kernel)
theorem mw_486 : (.code y_String_coder b_String_coder 1 (some .byte) : Cond) ∈ lw_g := lg_mem (List.mem_of_getElem? (i := 486) (by decide +kernel)) (by decide +kernel)
theorem mw_487 : (.fieldLink "java/lang/String" 38 "java/lang/String" "COMPACT_STRINGS" "Z" : Cond) ∈ lw_g := lg_mem (List.mem_of_getElem? (i := 487) (by decide +kernel)) (by decide +kernel)
theorem mw_489 : (.methodLink RX3 137 y_Source_character : Cond) ∈ lw_g := lg_mem (List.mem_of_getElem? (i := 489) (by decide +kernel)) (by decide +kernel)
theorem mw_490 : (.methodLink RX3 143 y_String_charAt : Cond) ∈ lw_g := lg_mem (List.mem_of_getElem? (i := 490) (by decide +kernel)) (by decide +kernel)
theorem mw_491 : (.instanceMethod y_String_charAt : Cond) ∈ lw_g := lg_mem (List.mem_of_getElem? (i := 491) (by decide +kernel)) (by decide +kernel)
theorem mw_492 : (.selects "java/lang/String" y_String_charAt y_String_charAt : Cond) ∈ lw_g := lg_mem (List.mem_of_getElem? (i := 492) (by decide +kernel)) (by decide +kernel)
theorem mw_493 : (.code y_String_charAt b_String_charAt 2 (some .char) : Cond) ∈ lw_g := lg_mem (List.mem_of_getElem? (i := 493) (by decide +kernel)) (by decide +kernel)
theorem mw_494 : (.methodLink "java/lang/String" 492 y_String_isLatin1 : Cond) ∈ lw_g := lg_mem (List.mem_of_getElem? (i := 494) (by decide +kernel)) (by decide +kernel)
theorem mw_495 : (.instanceMethod y_String_isLatin1 : Cond) ∈ lw_g := lg_mem (List.mem_of_getElem? (i := 495) (by decide +kernel)) (by decide +kernel)
theorem mw_496 : (.selects "java/lang/String" y_String_isLatin1 y_String_isLatin1 : Cond) ∈ lw_g := lg_mem (List.mem_of_getElem? (i := 496) (by decide +kernel)) (by decide +kernel)
theorem mw_497 : (.code y_String_isLatin1 b_String_isLatin1 1 (some .boolean) : Cond) ∈ lw_g := lg_mem (List.mem_of_getElem? (i := 497) (by decide +kernel)) (by decide +kernel)
theorem mw_498 : (.methodLink "java/lang/String" 495 y_StringLatin1_charAt : Cond) ∈ lw_g := lg_mem (List.mem_of_getElem? (i := 498) (by decide +kernel)) (by decide +kernel)
theorem mw_499 : (.static y_StringLatin1_charAt : Cond) ∈ lw_g := lg_mem (List.mem_of_getElem? (i := 499) (by decide +kernel)) (by decide +kernel)
theorem mw_500 : (.code y_StringLatin1_charAt b_StringLatin1_charAt 2 (some .char) : Cond) ∈ lw_g := lg_mem (List.mem_of_getElem? (i := 500) (by decide +kernel)) (by decide +kernel)
theorem mw_501 : (.methodLink "java/lang/StringLatin1" 9 y_String_checkIndex : Cond) ∈ lw_g := lg_mem (List.mem_of_getElem? (i := 501) (by decide +kernel)) (by decide +kernel)
theorem mw_502 : (.static y_String_checkIndex : Cond) ∈ lw_g := lg_mem (List.mem_of_getElem? (i := 502) (by decide +kernel)) (by decide +kernel)
theorem mw_503 : (.code y_String_checkIndex b_String_checkIndex 2 none : Cond) ∈ lw_g := lg_mem (List.mem_of_getElem? (i := 503) (by decide +kernel)) (by decide +kernel)
theorem mw_504 : (.fieldLink "java/lang/String" 1053 "jdk/internal/util/Preconditions" "SIOOBE_FORMATTER" "Ljava/util/function/BiFunction;" : Cond) ∈ lw_g := lg_mem (List.mem_of_getElem? (i := 504) (by decide +kernel)) (by decide +kernel)
theorem mw_506 : (.methodLink "java/lang/String" 1059 y_Preconditions_checkIndex : Cond) ∈ lw_g := lg_mem (List.mem_of_getElem? (i := 506) (by decide +kernel)) (by decide +kernel)
theorem mw_507 : (.static y_Preconditions_checkIndex : Cond) ∈ lw_g := lg_mem (List.mem_of_getElem? (i := 507) (by decide +kernel)) (by decide +kernel)
theorem mw_508 : (.code y_Preconditions_checkIndex b_Preconditions_checkIndex 3 (some .int) : Cond) ∈ lw_g := lg_mem (List.mem_of_getElem? (i := 508) (by decide +kernel)) (by decide +kernel)
theorem mw_528 : (.fieldLink RX6 71 "MarkupTokens$Way" "UNNAMED" "LMarkupTokens$Way;" : Cond) ∈ lw_g := lg_mem (List.mem_of_getElem? (i := 528) (by decide +kernel)) (by decide +kernel)
theorem mw_530 : (.methodLink RX6 74 y_Source_skip : Cond) ∈ lw_g := lg_mem (List.mem_of_getElem? (i := 530) (by decide +kernel)) (by decide +kernel)
theorem mw_531 : (.instanceMethod y_Source_skip : Cond) ∈ lw_g := lg_mem (List.mem_of_getElem? (i := 531) (by decide +kernel)) (by decide +kernel)
theorem mw_532 : (.selects RX7 y_Source_skip y_Source_skip : Cond) ∈ lw_g := lg_mem (List.mem_of_getElem? (i := 532) (by decide +kernel)) (by decide +kernel)
theorem mw_533 : (.code y_Source_skip b_Source_skip 2 none : Cond) ∈ lw_g := lg_mem (List.mem_of_getElem? (i := 533) (by decide +kernel)) (by decide +kernel)
theorem mw_534 : (.methodLink RX7 35 Lib.Math.min.name : Cond) ∈ lw_g := lg_mem (List.mem_of_getElem? (i := 534) (by decide +kernel)) (by decide +kernel)
theorem mw_535 : (.methodLink RX6 77 y_Source_character : Cond) ∈ lw_g := lg_mem (List.mem_of_getElem? (i := 535) (by decide +kernel)) (by decide +kernel)
theorem mw_536 : (.methodLink RX6 81 y_Source_next : Cond) ∈ lw_g := lg_mem (List.mem_of_getElem? (i := 536) (by decide +kernel)) (by decide +kernel)
theorem mw_537 : (.methodLink RX6 84 y_ReferenceWays_goesOn : Cond) ∈ lw_g := lg_mem (List.mem_of_getElem? (i := 537) (by decide +kernel)) (by decide +kernel)
theorem mw_538 : (.static y_ReferenceWays_goesOn : Cond) ∈ lw_g := lg_mem (List.mem_of_getElem? (i := 538) (by decide +kernel)) (by decide +kernel)
theorem mw_539 : (.code y_ReferenceWays_goesOn b_ReferenceWays_goesOn 1 (some .boolean) : Cond) ∈ lw_g := lg_mem (List.mem_of_getElem? (i := 539) (by decide +kernel)) (by decide +kernel)
theorem mw_540 : (.methodLink RX6 87 y_ReferenceWays_addAsItIs : Cond) ∈ lw_g := lg_mem (List.mem_of_getElem? (i := 540) (by decide +kernel)) (by decide +kernel)
theorem mw_542 : (.instanceMethod y_ReferenceWays_addAsItIs : Cond) ∈ lw_g := lg_mem (List.mem_of_getElem? (i := 542) (by decide +kernel)) (by decide +kernel)
theorem mw_543 : (.code y_ReferenceWays_addAsItIs b_ReferenceWays_addAsItIs 4 none : Cond) ∈ lw_g := lg_mem (List.mem_of_getElem? (i := 543) (by decide +kernel)) (by decide +kernel)
theorem mw_544 : (.methodLink RX6 90 y_Source_wrong : Cond) ∈ lw_g := lg_mem (List.mem_of_getElem? (i := 544) (by decide +kernel)) (by decide +kernel)
theorem mw_545 : (.methodLink RX5 101 y_ReferenceWays_unnamed : Cond) ∈ lw_g := lg_mem (List.mem_of_getElem? (i := 545) (by decide +kernel)) (by decide +kernel)
theorem mw_546 : (.instanceMethod y_ReferenceWays_unnamed : Cond) ∈ lw_g := lg_mem (List.mem_of_getElem? (i := 546) (by decide +kernel)) (by decide +kernel)
theorem mw_547 : (.selects RX6 y_ReferenceWays_unnamed y_ReferenceWays_unnamed : Cond) ∈ lw_g := lg_mem (List.mem_of_getElem? (i := 547) (by decide +kernel)) (by decide +kernel)
theorem mw_548 : (.code y_ReferenceWays_unnamed b_ReferenceWays_unnamed 3 (some (.object "MarkupTokens$Way")) : Cond) ∈ lw_g := lg_mem (List.mem_of_getElem? (i := 548) (by decide +kernel)) (by decide +kernel)
theorem mw_549 : (.methodLink RX5 104 y_ReferenceWays_numbered : Cond) ∈ lw_g := lg_mem (List.mem_of_getElem? (i := 549) (by decide +kernel)) (by decide +kernel)
theorem mw_550 : (.instanceMethod y_ReferenceWays_numbered : Cond) ∈ lw_g := lg_mem (List.mem_of_getElem? (i := 550) (by decide +kernel)) (by decide +kernel)
theorem mw_551 : (.selects RX6 y_ReferenceWays_numbered y_ReferenceWays_numbered : Cond) ∈ lw_g := lg_mem (List.mem_of_getElem? (i := 551) (by decide +kernel)) (by decide +kernel)
theorem mw_552 : (.code y_ReferenceWays_numbered b_ReferenceWays_numbered 5 (some (.object "MarkupTokens$Way")) : Cond) ∈ lw_g := lg_mem (List.mem_of_getElem? (i := 552) (by decide +kernel)) (by decide +kernel)
theorem mw_554 : (.static y_Mt_lowered : Cond) ∈ lw_g := lg_mem (List.mem_of_getElem? (i := 554) (by decide +kernel)) (by decide +kernel)
theorem mw_555 : (.code y_Mt_lowered b_Mt_lowered 1 (some .int) : Cond) ∈ lw_g := lg_mem (List.mem_of_getElem? (i := 555) (by decide +kernel)) (by decide +kernel)
theorem mw_556 : (.methodLink RX6 100 y_ReferenceWays_readDigits : Cond) ∈ lw_g := lg_mem (List.mem_of_getElem? (i := 556) (by decide +kernel)) (by decide +kernel)
theorem mw_558 : (.instanceMethod y_ReferenceWays_readDigits : Cond) ∈ lw_g := lg_mem (List.mem_of_getElem? (i := 558) (by decide +kernel)) (by decide +kernel)
theorem mw_559 : (.code y_ReferenceWays_readDigits b_ReferenceWays_readDigits 5 (some .int) : Cond) ∈ lw_g := lg_mem (List.mem_of_getElem? (i := 559) (by decide +kernel)) (by decide +kernel)
theorem mw_560 : (.methodLink RX6 106 y_ReferenceWays_digitOf : Cond) ∈ lw_g := lg_mem (List.mem_of_getElem? (i := 560) (by decide +kernel)) (by decide +kernel)
theorem mw_561 : (.static y_ReferenceWays_digitOf : Cond) ∈ lw_g := lg_mem (List.mem_of_getElem? (i := 561) (by decide +kernel)) (by decide +kernel)
theorem mw_562 : (.code y_ReferenceWays_digitOf b_ReferenceWays_digitOf 2 (some .int) : Cond) ∈ lw_g := lg_mem (List.mem_of_getElem? (i := 562) (by decide +kernel)) (by decide +kernel)
theorem mw_563 : (.constant RX6 109 1114112 : Cond) ∈ lw_g := lg_mem (List.mem_of_getElem? (i := 563) (by decide +kernel)) (by decide +kernel)
theorem mw_564 : (.methodLink RX6 110 Lib.Math.min.name : Cond) ∈ lw_g := lg_mem (List.mem_of_getElem? (i := 564) (by decide +kernel)) (by decide +kernel)
theorem mw_565 : (.methodLink RX6 103 y_ReferenceWays_characterOf : Cond) ∈ lw_g := lg_mem (List.mem_of_getElem? (i := 565) (by decide +kernel)) (by decide +kernel)
theorem mw_567 : (.instanceMethod y_ReferenceWays_characterOf : Cond) ∈ lw_g := lg_mem (List.mem_of_getElem? (i := 567) (by decide +kernel)) (by decide +kernel)
theorem mw_568 : (.code y_ReferenceWays_characterOf b_ReferenceWays_characterOf 2 (some .int) : Cond) ∈ lw_g := lg_mem (List.mem_of_getElem? (i := 568) (by decide +kernel)) (by decide +kernel)
theorem mw_569 : (.constant RX6 116 65533 : Cond) ∈ lw_g := lg_mem (List.mem_of_getElem? (i := 569) (by decide +kernel)) (by decide +kernel)
theorem mw_570 : (.constant RX6 117 1114111 : Cond) ∈ lw_g := lg_mem (List.mem_of_getElem? (i := 570) (by decide +kernel)) (by decide +kernel)
theorem mw_571 : (.constant RX6 118 55296 : Cond) ∈ lw_g := lg_mem (List.mem_of_getElem? (i := 571) (by decide +kernel)) (by decide +kernel)
theorem mw_572 : (.constant RX6 119 57343 : Cond) ∈ lw_g := lg_mem (List.mem_of_getElem? (i := 572) (by decide +kernel)) (by decide +kernel)
theorem mw_573 : (.methodLink RX6 120 y_ReferenceWays_isNoCharacter : Cond) ∈ lw_g := lg_mem (List.mem_of_getElem? (i := 573) (by decide +kernel)) (by decide +kernel)
theorem mw_574 : (.static y_ReferenceWays_isNoCharacter : Cond) ∈ lw_g := lg_mem (List.mem_of_getElem? (i := 574) (by decide +kernel)) (by decide +kernel)
theorem mw_575 : (.code y_ReferenceWays_isNoCharacter b_ReferenceWays_isNoCharacter 1 (some .boolean) : Cond) ∈ lw_g := lg_mem (List.mem_of_getElem? (i := 575) (by decide +kernel)) (by decide +kernel)
theorem mw_576 : (.constant RX6 129 64976 : Cond) ∈ lw_g := lg_mem (List.mem_of_getElem? (i := 576) (by decide +kernel)) (by decide +kernel)
theorem mw_577 : (.constant RX6 130 65007 : Cond) ∈ lw_g := lg_mem (List.mem_of_getElem? (i := 577) (by decide +kernel)) (by decide +kernel)
theorem mw_578 : (.constant RX6 131 65535 : Cond) ∈ lw_g := lg_mem (List.mem_of_getElem? (i := 578) (by decide +kernel)) (by decide +kernel)
theorem mw_579 : (.constant RX6 132 65534 : Cond) ∈ lw_g := lg_mem (List.mem_of_getElem? (i := 579) (by decide +kernel)) (by decide +kernel)
theorem mw_580 : (.methodLink RX6 123 y_ReferenceWays_isControl : Cond) ∈ lw_g := lg_mem (List.mem_of_getElem? (i := 580) (by decide +kernel)) (by decide +kernel)
theorem mw_581 : (.static y_ReferenceWays_isControl : Cond) ∈ lw_g := lg_mem (List.mem_of_getElem? (i := 581) (by decide +kernel)) (by decide +kernel)
theorem mw_582 : (.code y_ReferenceWays_isControl b_ReferenceWays_isControl 1 (some .boolean) : Cond) ∈ lw_g := lg_mem (List.mem_of_getElem? (i := 582) (by decide +kernel)) (by decide +kernel)
theorem mw_584 : (.static y_Mt_isBlank : Cond) ∈ lw_g := lg_mem (List.mem_of_getElem? (i := 584) (by decide +kernel)) (by decide +kernel)
theorem mw_585 : (.code y_Mt_isBlank b_Mt_isBlank 1 (some .boolean) : Cond) ∈ lw_g := lg_mem (List.mem_of_getElem? (i := 585) (by decide +kernel)) (by decide +kernel)
theorem mw_586 : (.methodLink RX6 126 y_ReferenceWays_replaced : Cond) ∈ lw_g := lg_mem (List.mem_of_getElem? (i := 586) (by decide +kernel)) (by decide +kernel)
theorem mw_587 : (.static y_ReferenceWays_replaced : Cond) ∈ lw_g := lg_mem (List.mem_of_getElem? (i := 587) (by decide +kernel)) (by decide +kernel)
theorem mw_588 : (.code y_ReferenceWays_replaced b_ReferenceWays_replaced 2 (some .int) : Cond) ∈ lw_g := lg_mem (List.mem_of_getElem? (i := 588) (by decide +kernel)) (by decide +kernel)
theorem mw_589 : (.fieldLink RX6 136 "MarkupTokens$ReferenceWays" "REPLACED" "[I" : Cond) ∈ lw_g := lg_mem (List.mem_of_getElem? (i := 589) (by decide +kernel)) (by decide +kernel)
theorem mw_591 : (.methodLink RX5 107 y_TagWays_name : Cond) ∈ lw_g := lg_mem (List.mem_of_getElem? (i := 591) (by decide +kernel)) (by decide +kernel)
theorem mw_592 : (.instanceMethod y_TagWays_name : Cond) ∈ lw_g := lg_mem (List.mem_of_getElem? (i := 592) (by decide +kernel)) (by decide +kernel)
theorem mw_593 : (.selects RX8 y_TagWays_name y_TagWays_name : Cond) ∈ lw_g := lg_mem (List.mem_of_getElem? (i := 593) (by decide +kernel)) (by decide +kernel)
theorem mw_594 : (.code y_TagWays_name b_TagWays_name 2 (some (.object "MarkupTokens$Way")) : Cond) ∈ lw_g := lg_mem (List.mem_of_getElem? (i := 594) (by decide +kernel)) (by decide +kernel)
theorem mw_595 : (.methodLink RX8 88 y_TagWays_endsName : Cond) ∈ lw_g := lg_mem (List.mem_of_getElem? (i := 595) (by decide +kernel)) (by decide +kernel)
theorem mw_596 : (.static y_TagWays_endsName : Cond) ∈ lw_g := lg_mem (List.mem_of_getElem? (i := 596) (by decide +kernel)) (by decide +kernel)
theorem mw_597 : (.code y_TagWays_endsName b_TagWays_endsName 1 (some .boolean) : Cond) ∈ lw_g := lg_mem (List.mem_of_getElem? (i := 597) (by decide +kernel)) (by decide +kernel)
theorem mw_599 : (.methodLink RX8 91 y_Tokens_endOwn : Cond) ∈ lw_g := lg_mem (List.mem_of_getElem? (i := 599) (by decide +kernel)) (by decide +kernel)
theorem mw_600 : (.instanceMethod y_Tokens_endOwn : Cond) ∈ lw_g := lg_mem (List.mem_of_getElem? (i := 600) (by decide +kernel)) (by decide +kernel)
theorem mw_601 : (.selects RX9 y_Tokens_endOwn y_Tokens_endOwn : Cond) ∈ lw_g := lg_mem (List.mem_of_getElem? (i := 601) (by decide +kernel)) (by decide +kernel)
theorem mw_602 : (.code y_Tokens_endOwn b_Tokens_endOwn 1 none : Cond) ∈ lw_g := lg_mem (List.mem_of_getElem? (i := 602) (by decide +kernel)) (by decide +kernel)
theorem mw_603 : (.methodLink RX8 94 y_TagWays_leave : Cond) ∈ lw_g := lg_mem (List.mem_of_getElem? (i := 603) (by decide +kernel)) (by decide +kernel)
theorem mw_605 : (.instanceMethod y_TagWays_leave : Cond) ∈ lw_g := lg_mem (List.mem_of_getElem? (i := 605) (by decide +kernel)) (by decide +kernel)
theorem mw_606 : (.code y_TagWays_leave b_TagWays_leave 2 (some (.object "MarkupTokens$Way")) : Cond) ∈ lw_g := lg_mem (List.mem_of_getElem? (i := 606) (by decide +kernel)) (by decide +kernel)
theorem mw_607 : (.fieldLink RX8 27 "MarkupTokens$Way" "SELF" "LMarkupTokens$Way;" : Cond) ∈ lw_g := lg_mem (List.mem_of_getElem? (i := 607) (by decide +kernel)) (by decide +kernel)
theorem mw_609 : (.methodLink RX8 33 y_Source_then : Cond) ∈ lw_g := lg_mem (List.mem_of_getElem? (i := 609) (by decide +kernel)) (by decide +kernel)
theorem mw_610 : (.methodLink RX8 39 y_TagWays_tagDone : Cond) ∈ lw_g := lg_mem (List.mem_of_getElem? (i := 610) (by decide +kernel)) (by decide +kernel)
theorem mw_612 : (.instanceMethod y_TagWays_tagDone : Cond) ∈ lw_g := lg_mem (List.mem_of_getElem? (i := 612) (by decide +kernel)) (by decide +kernel)
theorem mw_613 : (.code y_TagWays_tagDone b_TagWays_tagDone 1 (some (.object "MarkupTokens$Way")) : Cond) ∈ lw_g := lg_mem (List.mem_of_getElem? (i := 613) (by decide +kernel)) (by decide +kernel)
theorem mw_614 : (.methodLink RX8 60 y_Tokens_endAttribute : Cond) ∈ lw_g := lg_mem (List.mem_of_getElem? (i := 614) (by decide +kernel)) (by decide +kernel)
theorem mw_615 : (.instanceMethod y_Tokens_endAttribute : Cond) ∈ lw_g := lg_mem (List.mem_of_getElem? (i := 615) (by decide +kernel)) (by decide +kernel)
theorem mw_616 : (.selects RX9 y_Tokens_endAttribute y_Tokens_endAttribute : Cond) ∈ lw_g := lg_mem (List.mem_of_getElem? (i := 616) (by decide +kernel)) (by decide +kernel)
theorem mw_617 : (.code y_Tokens_endAttribute b_Tokens_endAttribute 1 none : Cond) ∈ lw_g := lg_mem (List.mem_of_getElem? (i := 617) (by decide +kernel)) (by decide +kernel)
theorem mw_618 : (.methodLink RX8 66 y_Tokens_isStop : Cond) ∈ lw_g := lg_mem (List.mem_of_getElem? (i := 618) (by decide +kernel)) (by decide +kernel)
theorem mw_619 : (.instanceMethod y_Tokens_isStop : Cond) ∈ lw_g := lg_mem (List.mem_of_getElem? (i := 619) (by decide +kernel)) (by decide +kernel)
theorem mw_620 : (.selects RX9 y_Tokens_isStop y_Tokens_isStop : Cond) ∈ lw_g := lg_mem (List.mem_of_getElem? (i := 620) (by decide +kernel)) (by decide +kernel)
theorem mw_621 : (.code y_Tokens_isStop b_Tokens_isStop 1 (some .boolean) : Cond) ∈ lw_g := lg_mem (List.mem_of_getElem? (i := 621) (by decide +kernel)) (by decide +kernel)
theorem mw_622 : (.methodLink RX8 70 y_Tokens_hasAttributes : Cond) ∈ lw_g := lg_mem (List.mem_of_getElem? (i := 622) (by decide +kernel)) (by decide +kernel)
theorem mw_623 : (.instanceMethod y_Tokens_hasAttributes : Cond) ∈ lw_g := lg_mem (List.mem_of_getElem? (i := 623) (by decide +kernel)) (by decide +kernel)
theorem mw_624 : (.selects RX9 y_Tokens_hasAttributes y_Tokens_hasAttributes : Cond) ∈ lw_g := lg_mem (List.mem_of_getElem? (i := 624) (by decide +kernel)) (by decide +kernel)
theorem mw_625 : (.code y_Tokens_hasAttributes b_Tokens_hasAttributes 1 (some .boolean) : Cond) ∈ lw_g := lg_mem (List.mem_of_getElem? (i := 625) (by decide +kernel)) (by decide +kernel)
theorem mw_626 : (.methodLink RX8 49 y_Source_wrong : Cond) ∈ lw_g := lg_mem (List.mem_of_getElem? (i := 626) (by decide +kernel)) (by decide +kernel)
theorem mw_627 : (.methodLink RX8 73 y_Tokens_isMarked : Cond) ∈ lw_g := lg_mem (List.mem_of_getElem? (i := 627) (by decide +kernel)) (by decide +kernel)
theorem mw_628 : (.instanceMethod y_Tokens_isMarked : Cond) ∈ lw_g := lg_mem (List.mem_of_getElem? (i := 628) (by decide +kernel)) (by decide +kernel)
theorem mw_629 : (.selects RX9 y_Tokens_isMarked y_Tokens_isMarked : Cond) ∈ lw_g := lg_mem (List.mem_of_getElem? (i := 629) (by decide +kernel)) (by decide +kernel)
theorem mw_630 : (.code y_Tokens_isMarked b_Tokens_isMarked 1 (some .boolean) : Cond) ∈ lw_g := lg_mem (List.mem_of_getElem? (i := 630) (by decide +kernel)) (by decide +kernel)
theorem mw_631 : (.methodLink RX8 76 y_Tokens_dropAttributes : Cond) ∈ lw_g := lg_mem (List.mem_of_getElem? (i := 631) (by decide +kernel)) (by decide +kernel)
theorem mw_632 : (.instanceMethod y_Tokens_dropAttributes : Cond) ∈ lw_g := lg_mem (List.mem_of_getElem? (i := 632) (by decide +kernel)) (by decide +kernel)
theorem mw_633 : (.selects RX9 y_Tokens_dropAttributes y_Tokens_dropAttributes : Cond) ∈ lw_g := lg_mem (List.mem_of_getElem? (i := 633) (by decide +kernel)) (by decide +kernel)
theorem mw_634 : (.code y_Tokens_dropAttributes b_Tokens_dropAttributes 1 none : Cond) ∈ lw_g := lg_mem (List.mem_of_getElem? (i := 634) (by decide +kernel)) (by decide +kernel)
theorem mw_635 : (.methodLink RX8 79 y_Tokens_setMark : Cond) ∈ lw_g := lg_mem (List.mem_of_getElem? (i := 635) (by decide +kernel)) (by decide +kernel)
theorem mw_636 : (.instanceMethod y_Tokens_setMark : Cond) ∈ lw_g := lg_mem (List.mem_of_getElem? (i := 636) (by decide +kernel)) (by decide +kernel)
theorem mw_637 : (.selects RX9 y_Tokens_setMark y_Tokens_setMark : Cond) ∈ lw_g := lg_mem (List.mem_of_getElem? (i := 637) (by decide +kernel)) (by decide +kernel)
theorem mw_638 : (.code y_Tokens_setMark b_Tokens_setMark 2 none : Cond) ∈ lw_g := lg_mem (List.mem_of_getElem? (i := 638) (by decide +kernel)) (by decide +kernel)
theorem mw_639 : (.methodLink RX8 82 y_Tokens_tell : Cond) ∈ lw_g := lg_mem (List.mem_of_getElem? (i := 639) (by decide +kernel)) (by decide +kernel)
theorem mw_640 : (.instanceMethod y_Tokens_tell : Cond) ∈ lw_g := lg_mem (List.mem_of_getElem? (i := 640) (by decide +kernel)) (by decide +kernel)
theorem mw_641 : (.selects RX9 y_Tokens_tell y_Tokens_tell : Cond) ∈ lw_g := lg_mem (List.mem_of_getElem? (i := 641) (by decide +kernel)) (by decide +kernel)
theorem mw_642 : (.code y_Tokens_tell b_Tokens_tell 1 none : Cond) ∈ lw_g := lg_mem (List.mem_of_getElem? (i := 642) (by decide +kernel)) (by decide +kernel)
theorem mw_643 : (.fieldLink RX8 85 "MarkupTokens$Way" "DATA" "LMarkupTokens$Way;" : Cond) ∈ lw_g := lg_mem (List.mem_of_getElem? (i := 643) (by decide +kernel)) (by decide +kernel)
theorem mw_644 : (.methodLink RX8 43 y_TagWays_dropped : Cond) ∈ lw_g := lg_mem (List.mem_of_getElem? (i := 644) (by decide +kernel)) (by decide +kernel)
theorem mw_646 : (.instanceMethod y_TagWays_dropped : Cond) ∈ lw_g := lg_mem (List.mem_of_getElem? (i := 646) (by decide +kernel)) (by decide +kernel)
theorem mw_647 : (.code y_TagWays_dropped b_TagWays_dropped 1 (some (.object "MarkupTokens$Way")) : Cond) ∈ lw_g := lg_mem (List.mem_of_getElem? (i := 647) (by decide +kernel)) (by decide +kernel)
theorem mw_648 : (.fieldLink RX8 53 "MarkupTokens$Way" "OVER" "LMarkupTokens$Way;" : Cond) ∈ lw_g := lg_mem (List.mem_of_getElem? (i := 648) (by decide +kernel)) (by decide +kernel)
theorem mw_649 : (.fieldLink RX8 46 "MarkupTokens$Way" "BEFORE" "LMarkupTokens$Way;" : Cond) ∈ lw_g := lg_mem (List.mem_of_getElem? (i := 649) (by decide +kernel)) (by decide +kernel)
theorem mw_652 : (.methodLink RX8 102 ⟨"MarkupTokens$TagWays", "addKnown", "(I)V"⟩ : Cond) ∈ lw_g := lg_mem (List.mem_of_getElem? (i := 652) (by decide +kernel)) (by decide +kernel)
theorem mw_653 : (.sameMethod "MarkupTokens$TagWays" "MarkupTokens$Ways" "addKnown" "(I)V" : Cond) ∈ lw_g := lg_mem (List.mem_of_getElem? (i := 653) (by decide +kernel)) (by decide +kernel)
theorem mw_655 : (.selects RX8 ⟨"MarkupTokens$TagWays", "addKnown", "(I)V"⟩ y_Ways_addKnown : Cond) ∈ lw_g := lg_mem (List.mem_of_getElem? (i := 655) (by decide +kernel)) (by decide +kernel)
theorem mw_656 : (.instanceMethod y_Ways_addKnown : Cond) ∈ lw_g := lg_mem (List.mem_of_getElem? (i := 656) (by decide +kernel)) (by decide +kernel)
theorem mw_657 : (.code y_Ways_addKnown b_Ways_addKnown 2 none : Cond) ∈ lw_g := lg_mem (List.mem_of_getElem? (i := 657) (by decide +kernel)) (by decide +kernel)
theorem mw_658 : (.methodLink RX11 19 y_Source_wrong : Cond) ∈ lw_g := lg_mem (List.mem_of_getElem? (i := 658) (by decide +kernel)) (by decide +kernel)
theorem mw_659 : (.constant RX11 25 65533 : Cond) ∈ lw_g := lg_mem (List.mem_of_getElem? (i := 659) (by decide +kernel)) (by decide +kernel)
theorem mw_660 : (.methodLink RX11 26 y_Tokens_add : Cond) ∈ lw_g := lg_mem (List.mem_of_getElem? (i := 660) (by decide +kernel)) (by decide +kernel)
theorem mw_661 : (.fieldLink RX8 105 "MarkupTokens$Way" "NAME" "LMarkupTokens$Way;" : Cond) ∈ lw_g := lg_mem (List.mem_of_getElem? (i := 661) (by decide +kernel)) (by decide +kernel)
theorem mw_662 : (.methodLink RX5 110 y_TagWays_before : Cond) ∈ lw_g := lg_mem (List.mem_of_getElem? (i := 662) (by decide +kernel)) (by decide +kernel)
theorem mw_663 : (.instanceMethod y_TagWays_before : Cond) ∈ lw_g := lg_mem (List.mem_of_getElem? (i := 663) (by decide +kernel)) (by decide +kernel)
theorem mw_664 : (.selects RX8 y_TagWays_before y_TagWays_before : Cond) ∈ lw_g := lg_mem (List.mem_of_getElem? (i := 664) (by decide +kernel)) (by decide +kernel)
theorem mw_665 : (.code y_TagWays_before b_TagWays_before 2 (some (.object "MarkupTokens$Way")) : Cond) ∈ lw_g := lg_mem (List.mem_of_getElem? (i := 665) (by decide +kernel)) (by decide +kernel)
theorem mw_666 : (.fieldLink RX8 108 "MarkupTokens$Way" "AFTER" "LMarkupTokens$Way;" : Cond) ∈ lw_g := lg_mem (List.mem_of_getElem? (i := 666) (by decide +kernel)) (by decide +kernel)
theorem mw_668 : (.methodLink RX8 111 y_Tokens_beginAttribute : Cond) ∈ lw_g := lg_mem (List.mem_of_getElem? (i := 668) (by decide +kernel)) (by decide +kernel)
theorem mw_669 : (.instanceMethod y_Tokens_beginAttribute : Cond) ∈ lw_g := lg_mem (List.mem_of_getElem? (i := 669) (by decide +kernel)) (by decide +kernel)
theorem mw_670 : (.selects RX9 y_Tokens_beginAttribute y_Tokens_beginAttribute : Cond) ∈ lw_g := lg_mem (List.mem_of_getElem? (i := 670) (by decide +kernel)) (by decide +kernel)
theorem mw_671 : (.code y_Tokens_beginAttribute b_Tokens_beginAttribute 1 none : Cond) ∈ lw_g := lg_mem (List.mem_of_getElem? (i := 671) (by decide +kernel)) (by decide +kernel)
theorem mw_672 : (.methodLink RX9 66 y_Tokens_endAttribute : Cond) ∈ lw_g := lg_mem (List.mem_of_getElem? (i := 672) (by decide +kernel)) (by decide +kernel)
theorem mw_673 : (.methodLink RX8 114 y_Tokens_add : Cond) ∈ lw_g := lg_mem (List.mem_of_getElem? (i := 673) (by decide +kernel)) (by decide +kernel)
theorem mw_674 : (.fieldLink RX8 117 "MarkupTokens$Way" "ATTRIBUTE" "LMarkupTokens$Way;" : Cond) ∈ lw_g := lg_mem (List.mem_of_getElem? (i := 674) (by decide +kernel)) (by decide +kernel)
theorem mw_676 : (.methodLink RX5 113 y_TagWays_attribute : Cond) ∈ lw_g := lg_mem (List.mem_of_getElem? (i := 676) (by decide +kernel)) (by decide +kernel)
theorem mw_677 : (.instanceMethod y_TagWays_attribute : Cond) ∈ lw_g := lg_mem (List.mem_of_getElem? (i := 677) (by decide +kernel)) (by decide +kernel)
theorem mw_678 : (.selects RX8 y_TagWays_attribute y_TagWays_attribute : Cond) ∈ lw_g := lg_mem (List.mem_of_getElem? (i := 678) (by decide +kernel)) (by decide +kernel)
theorem mw_679 : (.code y_TagWays_attribute b_TagWays_attribute 2 (some (.object "MarkupTokens$Way")) : Cond) ∈ lw_g := lg_mem (List.mem_of_getElem? (i := 679) (by decide +kernel)) (by decide +kernel)
theorem mw_680 : (.methodLink RX8 120 y_TagWays_leaveAttributeName : Cond) ∈ lw_g := lg_mem (List.mem_of_getElem? (i := 680) (by decide +kernel)) (by decide +kernel)
theorem mw_682 : (.instanceMethod y_TagWays_leaveAttributeName : Cond) ∈ lw_g := lg_mem (List.mem_of_getElem? (i := 682) (by decide +kernel)) (by decide +kernel)
theorem mw_683 : (.code y_TagWays_leaveAttributeName b_TagWays_leaveAttributeName 1 none : Cond) ∈ lw_g := lg_mem (List.mem_of_getElem? (i := 683) (by decide +kernel)) (by decide +kernel)
theorem mw_684 : (.methodLink RX8 126 y_Tokens_endAttributeName : Cond) ∈ lw_g := lg_mem (List.mem_of_getElem? (i := 684) (by decide +kernel)) (by decide +kernel)
theorem mw_685 : (.instanceMethod y_Tokens_endAttributeName : Cond) ∈ lw_g := lg_mem (List.mem_of_getElem? (i := 685) (by decide +kernel)) (by decide +kernel)
theorem mw_686 : (.selects RX9 y_Tokens_endAttributeName y_Tokens_endAttributeName : Cond) ∈ lw_g := lg_mem (List.mem_of_getElem? (i := 686) (by decide +kernel)) (by decide +kernel)
theorem mw_687 : (.code y_Tokens_endAttributeName b_Tokens_endAttributeName 1 none : Cond) ∈ lw_g := lg_mem (List.mem_of_getElem? (i := 687) (by decide +kernel)) (by decide +kernel)
theorem mw_688 : (.methodLink RX8 129 y_Tokens_stoodBefore : Cond) ∈ lw_g := lg_mem (List.mem_of_getElem? (i := 688) (by decide +kernel)) (by decide +kernel)
theorem mw_689 : (.instanceMethod y_Tokens_stoodBefore : Cond) ∈ lw_g := lg_mem (List.mem_of_getElem? (i := 689) (by decide +kernel)) (by decide +kernel)
theorem mw_690 : (.selects RX9 y_Tokens_stoodBefore y_Tokens_stoodBefore : Cond) ∈ lw_g := lg_mem (List.mem_of_getElem? (i := 690) (by decide +kernel)) (by decide +kernel)
theorem mw_691 : (.code y_Tokens_stoodBefore b_Tokens_stoodBefore 2 (some .boolean) : Cond) ∈ lw_g := lg_mem (List.mem_of_getElem? (i := 691) (by decide +kernel)) (by decide +kernel)
theorem mw_692 : (.methodLink RX9 69 y_Tokens_sameName : Cond) ∈ lw_g := lg_mem (List.mem_of_getElem? (i := 692) (by decide +kernel)) (by decide +kernel)
theorem mw_694 : (.instanceMethod y_Tokens_sameName : Cond) ∈ lw_g := lg_mem (List.mem_of_getElem? (i := 694) (by decide +kernel)) (by decide +kernel)
theorem mw_695 : (.code y_Tokens_sameName b_Tokens_sameName 5 (some .boolean) : Cond) ∈ lw_g := lg_mem (List.mem_of_getElem? (i := 695) (by decide +kernel)) (by decide +kernel)
theorem mw_696 : (.methodLink RX8 132 y_Tokens_loseAttribute : Cond) ∈ lw_g := lg_mem (List.mem_of_getElem? (i := 696) (by decide +kernel)) (by decide +kernel)
theorem mw_697 : (.instanceMethod y_Tokens_loseAttribute : Cond) ∈ lw_g := lg_mem (List.mem_of_getElem? (i := 697) (by decide +kernel)) (by decide +kernel)
theorem mw_698 : (.selects RX9 y_Tokens_loseAttribute y_Tokens_loseAttribute : Cond) ∈ lw_g := lg_mem (List.mem_of_getElem? (i := 698) (by decide +kernel)) (by decide +kernel)
theorem mw_699 : (.code y_Tokens_loseAttribute b_Tokens_loseAttribute 1 none : Cond) ∈ lw_g := lg_mem (List.mem_of_getElem? (i := 699) (by decide +kernel)) (by decide +kernel)
theorem mw_700 : (.fieldLink RX8 123 "MarkupTokens$Way" "VALUE" "LMarkupTokens$Way;" : Cond) ∈ lw_g := lg_mem (List.mem_of_getElem? (i := 700) (by decide +kernel)) (by decide +kernel)
theorem mw_702 : (.methodLink RX5 116 y_TagWays_after : Cond) ∈ lw_g := lg_mem (List.mem_of_getElem? (i := 702) (by decide +kernel)) (by decide +kernel)
theorem mw_703 : (.instanceMethod y_TagWays_after : Cond) ∈ lw_g := lg_mem (List.mem_of_getElem? (i := 703) (by decide +kernel)) (by decide +kernel)
theorem mw_704 : (.selects RX8 y_TagWays_after y_TagWays_after : Cond) ∈ lw_g := lg_mem (List.mem_of_getElem? (i := 704) (by decide +kernel)) (by decide +kernel)
theorem mw_705 : (.code y_TagWays_after b_TagWays_after 2 (some (.object "MarkupTokens$Way")) : Cond) ∈ lw_g := lg_mem (List.mem_of_getElem? (i := 705) (by decide +kernel)) (by decide +kernel)
theorem mw_706 : (.methodLink RX5 119 y_TagWays_value : Cond) ∈ lw_g := lg_mem (List.mem_of_getElem? (i := 706) (by decide +kernel)) (by decide +kernel)
theorem mw_707 : (.instanceMethod y_TagWays_value : Cond) ∈ lw_g := lg_mem (List.mem_of_getElem? (i := 707) (by decide +kernel)) (by decide +kernel)
theorem mw_708 : (.selects RX8 y_TagWays_value y_TagWays_value : Cond) ∈ lw_g := lg_mem (List.mem_of_getElem? (i := 708) (by decide +kernel)) (by decide +kernel)
theorem mw_709 : (.code y_TagWays_value b_TagWays_value 2 (some (.object "MarkupTokens$Way")) : Cond) ∈ lw_g := lg_mem (List.mem_of_getElem? (i := 709) (by decide +kernel)) (by decide +kernel)
theorem mw_710 : (.fieldLink RX8 135 "MarkupTokens$Way" "QUOTED" "LMarkupTokens$Way;" : Cond) ∈ lw_g := lg_mem (List.mem_of_getElem? (i := 710) (by decide +kernel)) (by decide +kernel)
theorem mw_712 : (.fieldLink RX8 138 "MarkupTokens$Way" "UNQUOTED" "LMarkupTokens$Way;" : Cond) ∈ lw_g := lg_mem (List.mem_of_getElem? (i := 712) (by decide +kernel)) (by decide +kernel)
theorem mw_714 : (.methodLink RX5 122 y_TagWays_quoted : Cond) ∈ lw_g := lg_mem (List.mem_of_getElem? (i := 714) (by decide +kernel)) (by decide +kernel)
theorem mw_715 : (.instanceMethod y_TagWays_quoted : Cond) ∈ lw_g := lg_mem (List.mem_of_getElem? (i := 715) (by decide +kernel)) (by decide +kernel)
theorem mw_716 : (.selects RX8 y_TagWays_quoted y_TagWays_quoted : Cond) ∈ lw_g := lg_mem (List.mem_of_getElem? (i := 716) (by decide +kernel)) (by decide +kernel)
theorem mw_717 : (.code y_TagWays_quoted b_TagWays_quoted 2 (some (.object "MarkupTokens$Way")) : Cond) ∈ lw_g := lg_mem (List.mem_of_getElem? (i := 717) (by decide +kernel)) (by decide +kernel)
theorem mw_718 : (.fieldLink RX8 141 "MarkupTokens$Way" "BEHIND" "LMarkupTokens$Way;" : Cond) ∈ lw_g := lg_mem (List.mem_of_getElem? (i := 718) (by decide +kernel)) (by decide +kernel)
theorem mw_720 : (.methodLink RX8 144 y_ReferenceWays_open : Cond) ∈ lw_g := lg_mem (List.mem_of_getElem? (i := 720) (by decide +kernel)) (by decide +kernel)
theorem mw_721 : (.methodLink RX5 125 y_TagWays_unquoted : Cond) ∈ lw_g := lg_mem (List.mem_of_getElem? (i := 721) (by decide +kernel)) (by decide +kernel)
theorem mw_722 : (.instanceMethod y_TagWays_unquoted : Cond) ∈ lw_g := lg_mem (List.mem_of_getElem? (i := 722) (by decide +kernel)) (by decide +kernel)
theorem mw_723 : (.selects RX8 y_TagWays_unquoted y_TagWays_unquoted : Cond) ∈ lw_g := lg_mem (List.mem_of_getElem? (i := 723) (by decide +kernel)) (by decide +kernel)
theorem mw_724 : (.code y_TagWays_unquoted b_TagWays_unquoted 2 (some (.object "MarkupTokens$Way")) : Cond) ∈ lw_g := lg_mem (List.mem_of_getElem? (i := 724) (by decide +kernel)) (by decide +kernel)
theorem mw_725 : (.methodLink RX5 128 y_TagWays_behind : Cond) ∈ lw_g := lg_mem (List.mem_of_getElem? (i := 725) (by decide +kernel)) (by decide +kernel)
theorem mw_726 : (.instanceMethod y_TagWays_behind : Cond) ∈ lw_g := lg_mem (List.mem_of_getElem? (i := 726) (by decide +kernel)) (by decide +kernel)
theorem mw_727 : (.selects RX8 y_TagWays_behind y_TagWays_behind : Cond) ∈ lw_g := lg_mem (List.mem_of_getElem? (i := 727) (by decide +kernel)) (by decide +kernel)
theorem mw_728 : (.code y_TagWays_behind b_TagWays_behind 2 (some (.object "MarkupTokens$Way")) : Cond) ∈ lw_g := lg_mem (List.mem_of_getElem? (i := 728) (by decide +kernel)) (by decide +kernel)
theorem mw_729 : (.methodLink RX5 131 y_TagWays_self : Cond) ∈ lw_g := lg_mem (List.mem_of_getElem? (i := 729) (by decide +kernel)) (by decide +kernel)
theorem mw_730 : (.instanceMethod y_TagWays_self : Cond) ∈ lw_g := lg_mem (List.mem_of_getElem? (i := 730) (by decide +kernel)) (by decide +kernel)
theorem mw_731 : (.selects RX8 y_TagWays_self y_TagWays_self : Cond) ∈ lw_g := lg_mem (List.mem_of_getElem? (i := 731) (by decide +kernel)) (by decide +kernel)
theorem mw_732 : (.code y_TagWays_self b_TagWays_self 2 (some (.object "MarkupTokens$Way")) : Cond) ∈ lw_g := lg_mem (List.mem_of_getElem? (i := 732) (by decide +kernel)) (by decide +kernel)
theorem mw_733 : (.methodLink RX5 134 y_Reader_mark : Cond) ∈ lw_g := lg_mem (List.mem_of_getElem? (i := 733) (by decide +kernel)) (by decide +kernel)
theorem mw_735 : (.instanceMethod y_Reader_mark : Cond) ∈ lw_g := lg_mem (List.mem_of_getElem? (i := 735) (by decide +kernel)) (by decide +kernel)
theorem mw_736 : (.code y_Reader_mark b_Reader_mark 2 (some (.object "MarkupTokens$Way")) : Cond) ∈ lw_g := lg_mem (List.mem_of_getElem? (i := 736) (by decide +kernel)) (by decide +kernel)
theorem mw_737 : (.methodLink RX5 207 y_Source_place : Cond) ∈ lw_g := lg_mem (List.mem_of_getElem? (i := 737) (by decide +kernel)) (by decide +kernel)
theorem mw_738 : (.methodLink RX5 210 y_Source_character : Cond) ∈ lw_g := lg_mem (List.mem_of_getElem? (i := 738) (by decide +kernel)) (by decide +kernel)
theorem mw_739 : (.methodLink RX5 214 y_Source_skip : Cond) ∈ lw_g := lg_mem (List.mem_of_getElem? (i := 739) (by decide +kernel)) (by decide +kernel)
theorem mw_740 : (.fieldLink RX5 217 "MarkupTokens$Way" "COMMENTSTART" "LMarkupTokens$Way;" : Cond) ∈ lw_g := lg_mem (List.mem_of_getElem? (i := 740) (by decide +kernel)) (by decide +kernel)
theorem mw_742 : (.methodLink RX5 220 y_Reader_doctypeComes : Cond) ∈ lw_g := lg_mem (List.mem_of_getElem? (i := 742) (by decide +kernel)) (by decide +kernel)
theorem mw_744 : (.instanceMethod y_Reader_doctypeComes : Cond) ∈ lw_g := lg_mem (List.mem_of_getElem? (i := 744) (by decide +kernel)) (by decide +kernel)
theorem mw_745 : (.code y_Reader_doctypeComes b_Reader_doctypeComes 3 (some .boolean) : Cond) ∈ lw_g := lg_mem (List.mem_of_getElem? (i := 745) (by decide +kernel)) (by decide +kernel)
theorem mw_747 : (.methodLink RX5 226 y_String_length : Cond) ∈ lw_g := lg_mem (List.mem_of_getElem? (i := 747) (by decide +kernel)) (by decide +kernel)
theorem mw_749 : (.methodLink RX5 237 y_String_charAt : Cond) ∈ lw_g := lg_mem (List.mem_of_getElem? (i := 749) (by decide +kernel)) (by decide +kernel)
theorem mw_750 : (.fieldLink RX5 231 "MarkupTokens$Way" "DOCTYPE" "LMarkupTokens$Way;" : Cond) ∈ lw_g := lg_mem (List.mem_of_getElem? (i := 750) (by decide +kernel)) (by decide +kernel)
theorem mw_752 : (.methodLink RX5 137 y_CommentWays_bogus : Cond) ∈ lw_g := lg_mem (List.mem_of_getElem? (i := 752) (by decide +kernel)) (by decide +kernel)
theorem mw_753 : (.instanceMethod y_CommentWays_bogus : Cond) ∈ lw_g := lg_mem (List.mem_of_getElem? (i := 753) (by decide +kernel)) (by decide +kernel)
theorem mw_754 : (.selects RX1 y_CommentWays_bogus y_CommentWays_bogus : Cond) ∈ lw_g := lg_mem (List.mem_of_getElem? (i := 754) (by decide +kernel)) (by decide +kernel)
theorem mw_755 : (.code y_CommentWays_bogus b_CommentWays_bogus 2 (some (.object "MarkupTokens$Way")) : Cond) ∈ lw_g := lg_mem (List.mem_of_getElem? (i := 755) (by decide +kernel)) (by decide +kernel)
theorem mw_756 : (.methodLink RX1 25 ⟨"MarkupTokens$CommentWays", "done", "()LMarkupTokens$Way;"⟩ : Cond) ∈ lw_g := lg_mem (List.mem_of_getElem? (i := 756) (by decide +kernel)) (by decide +kernel)
theorem mw_757 : (.sameMethod "MarkupTokens$CommentWays" "MarkupTokens$Ways" "done" "()LMarkupTokens$Way;" : Cond) ∈ lw_g := lg_mem (List.mem_of_getElem? (i := 757) (by decide +kernel)) (by decide +kernel)
theorem mw_759 : (.selects RX1 ⟨"MarkupTokens$CommentWays", "done", "()LMarkupTokens$Way;"⟩ y_Ways_done : Cond) ∈ lw_g := lg_mem (List.mem_of_getElem? (i := 759) (by decide +kernel)) (by decide +kernel)
theorem mw_760 : (.instanceMethod y_Ways_done : Cond) ∈ lw_g := lg_mem (List.mem_of_getElem? (i := 760) (by decide +kernel)) (by decide +kernel)
theorem mw_761 : (.code y_Ways_done b_Ways_done 1 (some (.object "MarkupTokens$Way")) : Cond) ∈ lw_g := lg_mem (List.mem_of_getElem? (i := 761) (by decide +kernel)) (by decide +kernel)
theorem mw_762 : (.methodLink RX11 31 y_Tokens_endOwn : Cond) ∈ lw_g := lg_mem (List.mem_of_getElem? (i := 762) (by decide +kernel)) (by decide +kernel)
theorem mw_763 : (.methodLink RX11 34 y_Tokens_tell : Cond) ∈ lw_g := lg_mem (List.mem_of_getElem? (i := 763) (by decide +kernel)) (by decide +kernel)
theorem mw_764 : (.fieldLink RX11 37 "MarkupTokens$Way" "DATA" "LMarkupTokens$Way;" : Cond) ∈ lw_g := lg_mem (List.mem_of_getElem? (i := 764) (by decide +kernel)) (by decide +kernel)
theorem mw_765 : (.methodLink RX11 43 y_Source_then : Cond) ∈ lw_g := lg_mem (List.mem_of_getElem? (i := 765) (by decide +kernel)) (by decide +kernel)
theorem mw_766 : (.methodLink RX1 29 ⟨"MarkupTokens$CommentWays", "toldAtEnd", "()LMarkupTokens$Way;"⟩ : Cond) ∈ lw_g := lg_mem (List.mem_of_getElem? (i := 766) (by decide +kernel)) (by decide +kernel)
theorem mw_767 : (.sameMethod "MarkupTokens$CommentWays" "MarkupTokens$Ways" "toldAtEnd" "()LMarkupTokens$Way;" : Cond) ∈ lw_g := lg_mem (List.mem_of_getElem? (i := 767) (by decide +kernel)) (by decide +kernel)
theorem mw_769 : (.selects RX1 ⟨"MarkupTokens$CommentWays", "toldAtEnd", "()LMarkupTokens$Way;"⟩ y_Ways_toldAtEnd : Cond) ∈ lw_g := lg_mem (List.mem_of_getElem? (i := 769) (by decide +kernel)) (by decide +kernel)
theorem mw_770 : (.instanceMethod y_Ways_toldAtEnd : Cond) ∈ lw_g := lg_mem (List.mem_of_getElem? (i := 770) (by decide +kernel)) (by decide +kernel)
theorem mw_771 : (.code y_Ways_toldAtEnd b_Ways_toldAtEnd 1 (some (.object "MarkupTokens$Way")) : Cond) ∈ lw_g := lg_mem (List.mem_of_getElem? (i := 771) (by decide +kernel)) (by decide +kernel)
theorem mw_772 : (.fieldLink RX11 47 "MarkupTokens$Way" "OVER" "LMarkupTokens$Way;" : Cond) ∈ lw_g := lg_mem (List.mem_of_getElem? (i := 772) (by decide +kernel)) (by decide +kernel)
theorem mw_773 : (.methodLink RX1 32 ⟨"MarkupTokens$CommentWays", "addKnown", "(I)V"⟩ : Cond) ∈ lw_g := lg_mem (List.mem_of_getElem? (i := 773) (by decide +kernel)) (by decide +kernel)
theorem mw_774 : (.sameMethod "MarkupTokens$CommentWays" "MarkupTokens$Ways" "addKnown" "(I)V" : Cond) ∈ lw_g := lg_mem (List.mem_of_getElem? (i := 774) (by decide +kernel)) (by decide +kernel)
theorem mw_775 : (.selects RX1 ⟨"MarkupTokens$CommentWays", "addKnown", "(I)V"⟩ y_Ways_addKnown : Cond) ∈ lw_g := lg_mem (List.mem_of_getElem? (i := 775) (by decide +kernel)) (by decide +kernel)
theorem mw_776 : (.fieldLink RX1 35 "MarkupTokens$Way" "BOGUS" "LMarkupTokens$Way;" : Cond) ∈ lw_g := lg_mem (List.mem_of_getElem? (i := 776) (by decide +kernel)) (by decide +kernel)
theorem mw_777 : (.methodLink RX1 41 y_Source_then : Cond) ∈ lw_g := lg_mem (List.mem_of_getElem? (i := 777) (by decide +kernel)) (by decide +kernel)
theorem mw_778 : (.methodLink RX5 140 y_CommentWays_start : Cond) ∈ lw_g := lg_mem (List.mem_of_getElem? (i := 778) (by decide +kernel)) (by decide +kernel)
theorem mw_779 : (.instanceMethod y_CommentWays_start : Cond) ∈ lw_g := lg_mem (List.mem_of_getElem? (i := 779) (by decide +kernel)) (by decide +kernel)
theorem mw_780 : (.selects RX1 y_CommentWays_start y_CommentWays_start : Cond) ∈ lw_g := lg_mem (List.mem_of_getElem? (i := 780) (by decide +kernel)) (by decide +kernel)
theorem mw_781 : (.code y_CommentWays_start b_CommentWays_start 2 (some (.object "MarkupTokens$Way")) : Cond) ∈ lw_g := lg_mem (List.mem_of_getElem? (i := 781) (by decide +kernel)) (by decide +kernel)
theorem mw_782 : (.fieldLink RX1 45 "MarkupTokens$Way" "STARTDASH" "LMarkupTokens$Way;" : Cond) ∈ lw_g := lg_mem (List.mem_of_getElem? (i := 782) (by decide +kernel)) (by decide +kernel)
theorem mw_784 : (.methodLink RX1 48 y_CommentWays_closedEarly : Cond) ∈ lw_g := lg_mem (List.mem_of_getElem? (i := 784) (by decide +kernel)) (by decide +kernel)
theorem mw_786 : (.instanceMethod y_CommentWays_closedEarly : Cond) ∈ lw_g := lg_mem (List.mem_of_getElem? (i := 786) (by decide +kernel)) (by decide +kernel)
theorem mw_787 : (.code y_CommentWays_closedEarly b_CommentWays_closedEarly 1 (some (.object "MarkupTokens$Way")) : Cond) ∈ lw_g := lg_mem (List.mem_of_getElem? (i := 787) (by decide +kernel)) (by decide +kernel)
theorem mw_788 : (.methodLink RX1 19 y_Source_wrong : Cond) ∈ lw_g := lg_mem (List.mem_of_getElem? (i := 788) (by decide +kernel)) (by decide +kernel)
theorem mw_789 : (.fieldLink RX1 51 "MarkupTokens$Way" "COMMENT" "LMarkupTokens$Way;" : Cond) ∈ lw_g := lg_mem (List.mem_of_getElem? (i := 789) (by decide +kernel)) (by decide +kernel)
theorem mw_791 : (.methodLink RX5 141 y_CommentWays_startDash : Cond) ∈ lw_g := lg_mem (List.mem_of_getElem? (i := 791) (by decide +kernel)) (by decide +kernel)
theorem mw_792 : (.instanceMethod y_CommentWays_startDash : Cond) ∈ lw_g := lg_mem (List.mem_of_getElem? (i := 792) (by decide +kernel)) (by decide +kernel)
theorem mw_793 : (.selects RX1 y_CommentWays_startDash y_CommentWays_startDash : Cond) ∈ lw_g := lg_mem (List.mem_of_getElem? (i := 793) (by decide +kernel)) (by decide +kernel)
theorem mw_794 : (.code y_CommentWays_startDash b_CommentWays_startDash 2 (some (.object "MarkupTokens$Way")) : Cond) ∈ lw_g := lg_mem (List.mem_of_getElem? (i := 794) (by decide +kernel)) (by decide +kernel)
theorem mw_795 : (.fieldLink RX1 54 "MarkupTokens$Way" "COMMENTDASH" "LMarkupTokens$Way;" : Cond) ∈ lw_g := lg_mem (List.mem_of_getElem? (i := 795) (by decide +kernel)) (by decide +kernel)
theorem mw_797 : (.methodLink RX5 144 y_CommentWays_inside : Cond) ∈ lw_g := lg_mem (List.mem_of_getElem? (i := 797) (by decide +kernel)) (by decide +kernel)
theorem mw_798 : (.instanceMethod y_CommentWays_inside : Cond) ∈ lw_g := lg_mem (List.mem_of_getElem? (i := 798) (by decide +kernel)) (by decide +kernel)
theorem mw_799 : (.selects RX1 y_CommentWays_inside y_CommentWays_inside : Cond) ∈ lw_g := lg_mem (List.mem_of_getElem? (i := 799) (by decide +kernel)) (by decide +kernel)
theorem mw_800 : (.code y_CommentWays_inside b_CommentWays_inside 2 (some (.object "MarkupTokens$Way")) : Cond) ∈ lw_g := lg_mem (List.mem_of_getElem? (i := 800) (by decide +kernel)) (by decide +kernel)
theorem mw_801 : (.methodLink RX1 57 y_CommentWays_unfinished : Cond) ∈ lw_g := lg_mem (List.mem_of_getElem? (i := 801) (by decide +kernel)) (by decide +kernel)
theorem mw_803 : (.instanceMethod y_CommentWays_unfinished : Cond) ∈ lw_g := lg_mem (List.mem_of_getElem? (i := 803) (by decide +kernel)) (by decide +kernel)
theorem mw_804 : (.code y_CommentWays_unfinished b_CommentWays_unfinished 1 (some (.object "MarkupTokens$Way")) : Cond) ∈ lw_g := lg_mem (List.mem_of_getElem? (i := 804) (by decide +kernel)) (by decide +kernel)
theorem mw_805 : (.methodLink RX1 60 y_Source_place : Cond) ∈ lw_g := lg_mem (List.mem_of_getElem? (i := 805) (by decide +kernel)) (by decide +kernel)
theorem mw_806 : (.methodLink RX1 64 y_CommentWays_lookForNested : Cond) ∈ lw_g := lg_mem (List.mem_of_getElem? (i := 806) (by decide +kernel)) (by decide +kernel)
theorem mw_808 : (.instanceMethod y_CommentWays_lookForNested : Cond) ∈ lw_g := lg_mem (List.mem_of_getElem? (i := 808) (by decide +kernel)) (by decide +kernel)
theorem mw_809 : (.code y_CommentWays_lookForNested b_CommentWays_lookForNested 4 none : Cond) ∈ lw_g := lg_mem (List.mem_of_getElem? (i := 809) (by decide +kernel)) (by decide +kernel)
theorem mw_810 : (.methodLink RX1 67 y_Source_character : Cond) ∈ lw_g := lg_mem (List.mem_of_getElem? (i := 810) (by decide +kernel)) (by decide +kernel)
theorem mw_811 : (.methodLink RX5 147 y_CommentWays_dash : Cond) ∈ lw_g := lg_mem (List.mem_of_getElem? (i := 811) (by decide +kernel)) (by decide +kernel)
theorem mw_812 : (.instanceMethod y_CommentWays_dash : Cond) ∈ lw_g := lg_mem (List.mem_of_getElem? (i := 812) (by decide +kernel)) (by decide +kernel)
theorem mw_813 : (.selects RX1 y_CommentWays_dash y_CommentWays_dash : Cond) ∈ lw_g := lg_mem (List.mem_of_getElem? (i := 813) (by decide +kernel)) (by decide +kernel)
theorem mw_814 : (.code y_CommentWays_dash b_CommentWays_dash 2 (some (.object "MarkupTokens$Way")) : Cond) ∈ lw_g := lg_mem (List.mem_of_getElem? (i := 814) (by decide +kernel)) (by decide +kernel)
theorem mw_815 : (.fieldLink RX1 71 "MarkupTokens$Way" "COMMENTEND" "LMarkupTokens$Way;" : Cond) ∈ lw_g := lg_mem (List.mem_of_getElem? (i := 815) (by decide +kernel)) (by decide +kernel)
theorem mw_817 : (.methodLink RX1 78 y_Tokens_add : Cond) ∈ lw_g := lg_mem (List.mem_of_getElem? (i := 817) (by decide +kernel)) (by decide +kernel)
theorem mw_818 : (.methodLink RX5 150 y_CommentWays_end : Cond) ∈ lw_g := lg_mem (List.mem_of_getElem? (i := 818) (by decide +kernel)) (by decide +kernel)
theorem mw_819 : (.instanceMethod y_CommentWays_end : Cond) ∈ lw_g := lg_mem (List.mem_of_getElem? (i := 819) (by decide +kernel)) (by decide +kernel)
theorem mw_820 : (.selects RX1 y_CommentWays_end y_CommentWays_end : Cond) ∈ lw_g := lg_mem (List.mem_of_getElem? (i := 820) (by decide +kernel)) (by decide +kernel)
theorem mw_821 : (.code y_CommentWays_end b_CommentWays_end 2 (some (.object "MarkupTokens$Way")) : Cond) ∈ lw_g := lg_mem (List.mem_of_getElem? (i := 821) (by decide +kernel)) (by decide +kernel)
theorem mw_822 : (.fieldLink RX1 83 "MarkupTokens$Way" "COMMENTBANG" "LMarkupTokens$Way;" : Cond) ∈ lw_g := lg_mem (List.mem_of_getElem? (i := 822) (by decide +kernel)) (by decide +kernel)
theorem mw_824 : (.methodLink RX5 153 y_CommentWays_bang : Cond) ∈ lw_g := lg_mem (List.mem_of_getElem? (i := 824) (by decide +kernel)) (by decide +kernel)
theorem mw_825 : (.instanceMethod y_CommentWays_bang : Cond) ∈ lw_g := lg_mem (List.mem_of_getElem? (i := 825) (by decide +kernel)) (by decide +kernel)
theorem mw_826 : (.selects RX1 y_CommentWays_bang y_CommentWays_bang : Cond) ∈ lw_g := lg_mem (List.mem_of_getElem? (i := 826) (by decide +kernel)) (by decide +kernel)
theorem mw_827 : (.code y_CommentWays_bang b_CommentWays_bang 2 (some (.object "MarkupTokens$Way")) : Cond) ∈ lw_g := lg_mem (List.mem_of_getElem? (i := 827) (by decide +kernel)) (by decide +kernel)
theorem mw_828 : (.methodLink RX5 156 y_DoctypeWays_start : Cond) ∈ lw_g := lg_mem (List.mem_of_getElem? (i := 828) (by decide +kernel)) (by decide +kernel)
theorem mw_829 : (.instanceMethod y_DoctypeWays_start : Cond) ∈ lw_g := lg_mem (List.mem_of_getElem? (i := 829) (by decide +kernel)) (by decide +kernel)
theorem mw_830 : (.selects RX2 y_DoctypeWays_start y_DoctypeWays_start : Cond) ∈ lw_g := lg_mem (List.mem_of_getElem? (i := 830) (by decide +kernel)) (by decide +kernel)
theorem mw_831 : (.code y_DoctypeWays_start b_DoctypeWays_start 2 (some (.object "MarkupTokens$Way")) : Cond) ∈ lw_g := lg_mem (List.mem_of_getElem? (i := 831) (by decide +kernel)) (by decide +kernel)
theorem mw_833 : (.fieldLink RX2 38 "MarkupTokens$Way" "DOCTYPEBEFORE" "LMarkupTokens$Way;" : Cond) ∈ lw_g := lg_mem (List.mem_of_getElem? (i := 833) (by decide +kernel)) (by decide +kernel)
theorem mw_835 : (.methodLink RX2 44 y_Source_then : Cond) ∈ lw_g := lg_mem (List.mem_of_getElem? (i := 835) (by decide +kernel)) (by decide +kernel)
theorem mw_836 : (.methodLink RX2 15 y_Source_wrong : Cond) ∈ lw_g := lg_mem (List.mem_of_getElem? (i := 836) (by decide +kernel)) (by decide +kernel)
theorem mw_837 : (.methodLink RX5 157 y_DoctypeWays_before : Cond) ∈ lw_g := lg_mem (List.mem_of_getElem? (i := 837) (by decide +kernel)) (by decide +kernel)
theorem mw_838 : (.instanceMethod y_DoctypeWays_before : Cond) ∈ lw_g := lg_mem (List.mem_of_getElem? (i := 838) (by decide +kernel)) (by decide +kernel)
theorem mw_839 : (.selects RX2 y_DoctypeWays_before y_DoctypeWays_before : Cond) ∈ lw_g := lg_mem (List.mem_of_getElem? (i := 839) (by decide +kernel)) (by decide +kernel)
theorem mw_840 : (.code y_DoctypeWays_before b_DoctypeWays_before 2 (some (.object "MarkupTokens$Way")) : Cond) ∈ lw_g := lg_mem (List.mem_of_getElem? (i := 840) (by decide +kernel)) (by decide +kernel)
theorem mw_841 : (.methodLink RX2 48 y_Tokens_begin : Cond) ∈ lw_g := lg_mem (List.mem_of_getElem? (i := 841) (by decide +kernel)) (by decide +kernel)
theorem mw_842 : (.methodLink RX2 25 y_Tokens_setMark : Cond) ∈ lw_g := lg_mem (List.mem_of_getElem? (i := 842) (by decide +kernel)) (by decide +kernel)
theorem mw_843 : (.methodLink RX2 51 ⟨"MarkupTokens$DoctypeWays", "done", "()LMarkupTokens$Way;"⟩ : Cond) ∈ lw_g := lg_mem (List.mem_of_getElem? (i := 843) (by decide +kernel)) (by decide +kernel)
theorem mw_844 : (.sameMethod "MarkupTokens$DoctypeWays" "MarkupTokens$Ways" "done" "()LMarkupTokens$Way;" : Cond) ∈ lw_g := lg_mem (List.mem_of_getElem? (i := 844) (by decide +kernel)) (by decide +kernel)
theorem mw_845 : (.selects RX2 ⟨"MarkupTokens$DoctypeWays", "done", "()LMarkupTokens$Way;"⟩ y_Ways_done : Cond) ∈ lw_g := lg_mem (List.mem_of_getElem? (i := 845) (by decide +kernel)) (by decide +kernel)
theorem mw_846 : (.methodLink RX2 54 y_DoctypeWays_oddAtEnd : Cond) ∈ lw_g := lg_mem (List.mem_of_getElem? (i := 846) (by decide +kernel)) (by decide +kernel)
theorem mw_848 : (.instanceMethod y_DoctypeWays_oddAtEnd : Cond) ∈ lw_g := lg_mem (List.mem_of_getElem? (i := 848) (by decide +kernel)) (by decide +kernel)
theorem mw_849 : (.code y_DoctypeWays_oddAtEnd b_DoctypeWays_oddAtEnd 1 (some (.object "MarkupTokens$Way")) : Cond) ∈ lw_g := lg_mem (List.mem_of_getElem? (i := 849) (by decide +kernel)) (by decide +kernel)
theorem mw_850 : (.methodLink RX2 30 ⟨"MarkupTokens$DoctypeWays", "toldAtEnd", "()LMarkupTokens$Way;"⟩ : Cond) ∈ lw_g := lg_mem (List.mem_of_getElem? (i := 850) (by decide +kernel)) (by decide +kernel)
theorem mw_851 : (.sameMethod "MarkupTokens$DoctypeWays" "MarkupTokens$Ways" "toldAtEnd" "()LMarkupTokens$Way;" : Cond) ∈ lw_g := lg_mem (List.mem_of_getElem? (i := 851) (by decide +kernel)) (by decide +kernel)
theorem mw_852 : (.selects RX2 ⟨"MarkupTokens$DoctypeWays", "toldAtEnd", "()LMarkupTokens$Way;"⟩ y_Ways_toldAtEnd : Cond) ∈ lw_g := lg_mem (List.mem_of_getElem? (i := 852) (by decide +kernel)) (by decide +kernel)
theorem mw_853 : (.fieldLink RX2 57 "MarkupTokens$Way" "DOCTYPENAME" "LMarkupTokens$Way;" : Cond) ∈ lw_g := lg_mem (List.mem_of_getElem? (i := 853) (by decide +kernel)) (by decide +kernel)
theorem mw_855 : (.methodLink RX5 158 y_DoctypeWays_name : Cond) ∈ lw_g := lg_mem (List.mem_of_getElem? (i := 855) (by decide +kernel)) (by decide +kernel)
theorem mw_856 : (.instanceMethod y_DoctypeWays_name : Cond) ∈ lw_g := lg_mem (List.mem_of_getElem? (i := 856) (by decide +kernel)) (by decide +kernel)
theorem mw_857 : (.selects RX2 y_DoctypeWays_name y_DoctypeWays_name : Cond) ∈ lw_g := lg_mem (List.mem_of_getElem? (i := 857) (by decide +kernel)) (by decide +kernel)
theorem mw_858 : (.code y_DoctypeWays_name b_DoctypeWays_name 2 (some (.object "MarkupTokens$Way")) : Cond) ∈ lw_g := lg_mem (List.mem_of_getElem? (i := 858) (by decide +kernel)) (by decide +kernel)
theorem mw_859 : (.fieldLink RX2 60 "MarkupTokens$Way" "DOCTYPEAFTER" "LMarkupTokens$Way;" : Cond) ∈ lw_g := lg_mem (List.mem_of_getElem? (i := 859) (by decide +kernel)) (by decide +kernel)
theorem mw_862 : (.methodLink RX2 67 ⟨"MarkupTokens$DoctypeWays", "addKnown", "(I)V"⟩ : Cond) ∈ lw_g := lg_mem (List.mem_of_getElem? (i := 862) (by decide +kernel)) (by decide +kernel)
theorem mw_863 : (.sameMethod "MarkupTokens$DoctypeWays" "MarkupTokens$Ways" "addKnown" "(I)V" : Cond) ∈ lw_g := lg_mem (List.mem_of_getElem? (i := 863) (by decide +kernel)) (by decide +kernel)
theorem mw_864 : (.selects RX2 ⟨"MarkupTokens$DoctypeWays", "addKnown", "(I)V"⟩ y_Ways_addKnown : Cond) ∈ lw_g := lg_mem (List.mem_of_getElem? (i := 864) (by decide +kernel)) (by decide +kernel)
theorem mw_865 : (.methodLink RX5 159 y_DoctypeWays_after : Cond) ∈ lw_g := lg_mem (List.mem_of_getElem? (i := 865) (by decide +kernel)) (by decide +kernel)
theorem mw_866 : (.instanceMethod y_DoctypeWays_after : Cond) ∈ lw_g := lg_mem (List.mem_of_getElem? (i := 866) (by decide +kernel)) (by decide +kernel)
theorem mw_867 : (.selects RX2 y_DoctypeWays_after y_DoctypeWays_after : Cond) ∈ lw_g := lg_mem (List.mem_of_getElem? (i := 867) (by decide +kernel)) (by decide +kernel)
theorem mw_868 : (.code y_DoctypeWays_after b_DoctypeWays_after 2 (some (.object "MarkupTokens$Way")) : Cond) ∈ lw_g := lg_mem (List.mem_of_getElem? (i := 868) (by decide +kernel)) (by decide +kernel)
theorem mw_869 : (.fieldLink RX2 70 "MarkupTokens$Way" "DOCTYPEODD" "LMarkupTokens$Way;" : Cond) ∈ lw_g := lg_mem (List.mem_of_getElem? (i := 869) (by decide +kernel)) (by decide +kernel)
theorem mw_871 : (.methodLink RX5 160 y_DoctypeWays_odd : Cond) ∈ lw_g := lg_mem (List.mem_of_getElem? (i := 871) (by decide +kernel)) (by decide +kernel)
theorem mw_872 : (.instanceMethod y_DoctypeWays_odd : Cond) ∈ lw_g := lg_mem (List.mem_of_getElem? (i := 872) (by decide +kernel)) (by decide +kernel)
theorem mw_873 : (.selects RX2 y_DoctypeWays_odd y_DoctypeWays_odd : Cond) ∈ lw_g := lg_mem (List.mem_of_getElem? (i := 873) (by decide +kernel)) (by decide +kernel)
theorem mw_874 : (.code y_DoctypeWays_odd b_DoctypeWays_odd 2 (some (.object "MarkupTokens$Way")) : Cond) ∈ lw_g := lg_mem (List.mem_of_getElem? (i := 874) (by decide +kernel)) (by decide +kernel)
theorem mw_875 : (.methodLink RX5 69 y_Tokens_endText : Cond) ∈ lw_g := lg_mem (List.mem_of_getElem? (i := 875) (by decide +kernel)) (by decide +kernel)
theorem mw_876 : (.methodLink RX12 67 y_Tokens_count : Cond) ∈ lw_g := lg_mem (List.mem_of_getElem? (i := 876) (by decide +kernel)) (by decide +kernel)
theorem mw_877 : (.instanceMethod y_Tokens_count : Cond) ∈ lw_g := lg_mem (List.mem_of_getElem? (i := 877) (by decide +kernel)) (by decide +kernel)
theorem mw_878 : (.selects RX9 y_Tokens_count y_Tokens_count : Cond) ∈ lw_g := lg_mem (List.mem_of_getElem? (i := 878) (by decide +kernel)) (by decide +kernel)
theorem mw_879 : (.code y_Tokens_count b_Tokens_count 1 (some .int) : Cond) ∈ lw_g := lg_mem (List.mem_of_getElem? (i := 879) (by decide +kernel)) (by decide +kernel)
theorem mw_884 : (.methodLink RX12 70 y_Tokens_has : Cond) ∈ lw_g := lg_mem (List.mem_of_getElem? (i := 884) (by decide +kernel)) (by decide +kernel)
theorem mw_885 : (.instanceMethod y_Tokens_has : Cond) ∈ lw_g := lg_mem (List.mem_of_getElem? (i := 885) (by decide +kernel)) (by decide +kernel)
theorem mw_886 : (.selects RX9 y_Tokens_has y_Tokens_has : Cond) ∈ lw_g := lg_mem (List.mem_of_getElem? (i := 886) (by decide +kernel)) (by decide +kernel)
theorem mw_887 : (.code y_Tokens_has b_Tokens_has 2 (some .boolean) : Cond) ∈ lw_g := lg_mem (List.mem_of_getElem? (i := 887) (by decide +kernel)) (by decide +kernel)
theorem mw_888 : (.methodLink RX12 74 y_Tokens_kind : Cond) ∈ lw_g := lg_mem (List.mem_of_getElem? (i := 888) (by decide +kernel)) (by decide +kernel)
theorem mw_889 : (.instanceMethod y_Tokens_kind : Cond) ∈ lw_g := lg_mem (List.mem_of_getElem? (i := 889) (by decide +kernel)) (by decide +kernel)
theorem mw_890 : (.selects RX9 y_Tokens_kind y_Tokens_kind : Cond) ∈ lw_g := lg_mem (List.mem_of_getElem? (i := 890) (by decide +kernel)) (by decide +kernel)
theorem mw_891 : (.code y_Tokens_kind b_Tokens_kind 2 (some .int) : Cond) ∈ lw_g := lg_mem (List.mem_of_getElem? (i := 891) (by decide +kernel)) (by decide +kernel)
theorem mw_892 : (.methodLink RX12 78 y_Tokens_length : Cond) ∈ lw_g := lg_mem (List.mem_of_getElem? (i := 892) (by decide +kernel)) (by decide +kernel)
theorem mw_893 : (.instanceMethod y_Tokens_length : Cond) ∈ lw_g := lg_mem (List.mem_of_getElem? (i := 893) (by decide +kernel)) (by decide +kernel)
theorem mw_894 : (.selects RX9 y_Tokens_length y_Tokens_length : Cond) ∈ lw_g := lg_mem (List.mem_of_getElem? (i := 894) (by decide +kernel)) (by decide +kernel)
theorem mw_895 : (.code y_Tokens_length b_Tokens_length 2 (some .int) : Cond) ∈ lw_g := lg_mem (List.mem_of_getElem? (i := 895) (by decide +kernel)) (by decide +kernel)
theorem mw_896 : (.methodLink RX12 80 y_Tokens_mark : Cond) ∈ lw_g := lg_mem (List.mem_of_getElem? (i := 896) (by decide +kernel)) (by decide +kernel)
theorem mw_897 : (.instanceMethod y_Tokens_mark : Cond) ∈ lw_g := lg_mem (List.mem_of_getElem? (i := 897) (by decide +kernel)) (by decide +kernel)
theorem mw_898 : (.selects RX9 y_Tokens_mark y_Tokens_mark : Cond) ∈ lw_g := lg_mem (List.mem_of_getElem? (i := 898) (by decide +kernel)) (by decide +kernel)
theorem mw_899 : (.code y_Tokens_mark b_Tokens_mark 2 (some .int) : Cond) ∈ lw_g := lg_mem (List.mem_of_getElem? (i := 899) (by decide +kernel)) (by decide +kernel)
theorem mw_900 : (.methodLink RX12 83 y_Tokens_attributes : Cond) ∈ lw_g := lg_mem (List.mem_of_getElem? (i := 900) (by decide +kernel)) (by decide +kernel)
theorem mw_901 : (.instanceMethod y_Tokens_attributes : Cond) ∈ lw_g := lg_mem (List.mem_of_getElem? (i := 901) (by decide +kernel)) (by decide +kernel)
theorem mw_902 : (.selects RX9 y_Tokens_attributes y_Tokens_attributes : Cond) ∈ lw_g := lg_mem (List.mem_of_getElem? (i := 902) (by decide +kernel)) (by decide +kernel)
theorem mw_903 : (.code y_Tokens_attributes b_Tokens_attributes 2 (some .int) : Cond) ∈ lw_g := lg_mem (List.mem_of_getElem? (i := 903) (by decide +kernel)) (by decide +kernel)
theorem mw_908 : (.methodLink RX12 86 y_Tokens_character : Cond) ∈ lw_g := lg_mem (List.mem_of_getElem? (i := 908) (by decide +kernel)) (by decide +kernel)
theorem mw_909 : (.instanceMethod y_Tokens_character : Cond) ∈ lw_g := lg_mem (List.mem_of_getElem? (i := 909) (by decide +kernel)) (by decide +kernel)
theorem mw_910 : (.selects RX9 y_Tokens_character y_Tokens_character : Cond) ∈ lw_g := lg_mem (List.mem_of_getElem? (i := 910) (by decide +kernel)) (by decide +kernel)
theorem mw_911 : (.code y_Tokens_character b_Tokens_character 3 (some .int) : Cond) ∈ lw_g := lg_mem (List.mem_of_getElem? (i := 911) (by decide +kernel)) (by decide +kernel)
theorem mw_913 : (.instanceMethod y_Mt_size : Cond) ∈ lw_g := lg_mem (List.mem_of_getElem? (i := 913) (by decide +kernel)) (by decide +kernel)
theorem mw_914 : (.selects RX12 y_Mt_size y_Mt_size : Cond) ∈ lw_g := lg_mem (List.mem_of_getElem? (i := 914) (by decide +kernel)) (by decide +kernel)
theorem mw_915 : (.code y_Mt_size b_Mt_size 4 (some .int) : Cond) ∈ lw_g := lg_mem (List.mem_of_getElem? (i := 915) (by decide +kernel)) (by decide +kernel)
theorem mw_916 : (.methodLink RX12 90 y_Tokens_hasAttribute : Cond) ∈ lw_g := lg_mem (List.mem_of_getElem? (i := 916) (by decide +kernel)) (by decide +kernel)
theorem mw_917 : (.instanceMethod y_Tokens_hasAttribute : Cond) ∈ lw_g := lg_mem (List.mem_of_getElem? (i := 917) (by decide +kernel)) (by decide +kernel)
theorem mw_918 : (.selects RX9 y_Tokens_hasAttribute y_Tokens_hasAttribute : Cond) ∈ lw_g := lg_mem (List.mem_of_getElem? (i := 918) (by decide +kernel)) (by decide +kernel)
theorem mw_919 : (.code y_Tokens_hasAttribute b_Tokens_hasAttribute 3 (some .boolean) : Cond) ∈ lw_g := lg_mem (List.mem_of_getElem? (i := 919) (by decide +kernel)) (by decide +kernel)
theorem mw_920 : (.methodLink RX9 73 y_Tokens_has : Cond) ∈ lw_g := lg_mem (List.mem_of_getElem? (i := 920) (by decide +kernel)) (by decide +kernel)
theorem mw_921 : (.methodLink RX12 94 y_Tokens_nameLength : Cond) ∈ lw_g := lg_mem (List.mem_of_getElem? (i := 921) (by decide +kernel)) (by decide +kernel)
theorem mw_922 : (.instanceMethod y_Tokens_nameLength : Cond) ∈ lw_g := lg_mem (List.mem_of_getElem? (i := 922) (by decide +kernel)) (by decide +kernel)
theorem mw_923 : (.selects RX9 y_Tokens_nameLength y_Tokens_nameLength : Cond) ∈ lw_g := lg_mem (List.mem_of_getElem? (i := 923) (by decide +kernel)) (by decide +kernel)
theorem mw_924 : (.code y_Tokens_nameLength b_Tokens_nameLength 4 (some .int) : Cond) ∈ lw_g := lg_mem (List.mem_of_getElem? (i := 924) (by decide +kernel)) (by decide +kernel)
theorem mw_925 : (.methodLink RX12 97 y_Tokens_valueLength : Cond) ∈ lw_g := lg_mem (List.mem_of_getElem? (i := 925) (by decide +kernel)) (by decide +kernel)
theorem mw_926 : (.instanceMethod y_Tokens_valueLength : Cond) ∈ lw_g := lg_mem (List.mem_of_getElem? (i := 926) (by decide +kernel)) (by decide +kernel)
theorem mw_927 : (.selects RX9 y_Tokens_valueLength y_Tokens_valueLength : Cond) ∈ lw_g := lg_mem (List.mem_of_getElem? (i := 927) (by decide +kernel)) (by decide +kernel)
theorem mw_928 : (.code y_Tokens_valueLength b_Tokens_valueLength 4 (some .int) : Cond) ∈ lw_g := lg_mem (List.mem_of_getElem? (i := 928) (by decide +kernel)) (by decide +kernel)
theorem mw_933 : (.methodLink RX12 100 y_Mt_size : Cond) ∈ lw_g := lg_mem (List.mem_of_getElem? (i := 933) (by decide +kernel)) (by decide +kernel)
theorem mw_934 : (.methodLink RX12 104 y_Tokens_nameCharacter : Cond) ∈ lw_g := lg_mem (List.mem_of_getElem? (i := 934) (by decide +kernel)) (by decide +kernel)
theorem mw_935 : (.instanceMethod y_Tokens_nameCharacter : Cond) ∈ lw_g := lg_mem (List.mem_of_getElem? (i := 935) (by decide +kernel)) (by decide +kernel)
theorem mw_936 : (.selects RX9 y_Tokens_nameCharacter y_Tokens_nameCharacter : Cond) ∈ lw_g := lg_mem (List.mem_of_getElem? (i := 936) (by decide +kernel)) (by decide +kernel)
theorem mw_937 : (.code y_Tokens_nameCharacter b_Tokens_nameCharacter 4 (some .int) : Cond) ∈ lw_g := lg_mem (List.mem_of_getElem? (i := 937) (by decide +kernel)) (by decide +kernel)
theorem mw_938 : (.methodLink RX12 107 y_Tokens_valueCharacter : Cond) ∈ lw_g := lg_mem (List.mem_of_getElem? (i := 938) (by decide +kernel)) (by decide +kernel)
theorem mw_939 : (.instanceMethod y_Tokens_valueCharacter : Cond) ∈ lw_g := lg_mem (List.mem_of_getElem? (i := 939) (by decide +kernel)) (by decide +kernel)
theorem mw_940 : (.selects RX9 y_Tokens_valueCharacter y_Tokens_valueCharacter : Cond) ∈ lw_g := lg_mem (List.mem_of_getElem? (i := 940) (by decide +kernel)) (by decide +kernel)
theorem mw_941 : (.code y_Tokens_valueCharacter b_Tokens_valueCharacter 4 (some .int) : Cond) ∈ lw_g := lg_mem (List.mem_of_getElem? (i := 941) (by decide +kernel)) (by decide +kernel)
theorem mw_946 : (.methodLink RX12 110 y_Source_faultCount : Cond) ∈ lw_g := lg_mem (List.mem_of_getElem? (i := 946) (by decide +kernel)) (by decide +kernel)
theorem mw_947 : (.instanceMethod y_Source_faultCount : Cond) ∈ lw_g := lg_mem (List.mem_of_getElem? (i := 947) (by decide +kernel)) (by decide +kernel)
theorem mw_948 : (.selects RX7 y_Source_faultCount y_Source_faultCount : Cond) ∈ lw_g := lg_mem (List.mem_of_getElem? (i := 948) (by decide +kernel)) (by decide +kernel)
theorem mw_949 : (.code y_Source_faultCount b_Source_faultCount 1 (some .int) : Cond) ∈ lw_g := lg_mem (List.mem_of_getElem? (i := 949) (by decide +kernel)) (by decide +kernel)
theorem mw_954 : (.methodLink RX12 113 y_Source_faultCode : Cond) ∈ lw_g := lg_mem (List.mem_of_getElem? (i := 954) (by decide +kernel)) (by decide +kernel)
theorem mw_955 : (.instanceMethod y_Source_faultCode : Cond) ∈ lw_g := lg_mem (List.mem_of_getElem? (i := 955) (by decide +kernel)) (by decide +kernel)
theorem mw_956 : (.selects RX7 y_Source_faultCode y_Source_faultCode : Cond) ∈ lw_g := lg_mem (List.mem_of_getElem? (i := 956) (by decide +kernel)) (by decide +kernel)
theorem mw_957 : (.code y_Source_faultCode b_Source_faultCode 2 (some .int) : Cond) ∈ lw_g := lg_mem (List.mem_of_getElem? (i := 957) (by decide +kernel)) (by decide +kernel)
theorem mw_958 : (.methodLink RX12 116 y_Source_faultPlace : Cond) ∈ lw_g := lg_mem (List.mem_of_getElem? (i := 958) (by decide +kernel)) (by decide +kernel)
theorem mw_959 : (.instanceMethod y_Source_faultPlace : Cond) ∈ lw_g := lg_mem (List.mem_of_getElem? (i := 959) (by decide +kernel)) (by decide +kernel)
theorem mw_960 : (.selects RX7 y_Source_faultPlace y_Source_faultPlace : Cond) ∈ lw_g := lg_mem (List.mem_of_getElem? (i := 960) (by decide +kernel)) (by decide +kernel)
theorem mw_961 : (.code y_Source_faultPlace b_Source_faultPlace 2 (some .int) : Cond) ∈ lw_g := lg_mem (List.mem_of_getElem? (i := 961) (by decide +kernel)) (by decide +kernel)
theorem mw_966 : (.methodLink RX12 119 y_Out_putAll : Cond) ∈ lw_g := lg_mem (List.mem_of_getElem? (i := 966) (by decide +kernel)) (by decide +kernel)
theorem mw_967 : (.instanceMethod y_Out_putAll : Cond) ∈ lw_g := lg_mem (List.mem_of_getElem? (i := 967) (by decide +kernel)) (by decide +kernel)
theorem mw_968 : (.selects RX4 y_Out_putAll y_Out_putAll : Cond) ∈ lw_g := lg_mem (List.mem_of_getElem? (i := 968) (by decide +kernel)) (by decide +kernel)
theorem mw_969 : (.code y_Out_putAll b_Out_putAll 2 none : Cond) ∈ lw_g := lg_mem (List.mem_of_getElem? (i := 969) (by decide +kernel)) (by decide +kernel)
theorem mw_970 : (.methodLink RX4 37 y_Tokens_count : Cond) ∈ lw_g := lg_mem (List.mem_of_getElem? (i := 970) (by decide +kernel)) (by decide +kernel)
theorem mw_971 : (.methodLink RX4 43 y_Tokens_kind : Cond) ∈ lw_g := lg_mem (List.mem_of_getElem? (i := 971) (by decide +kernel)) (by decide +kernel)
theorem mw_972 : (.methodLink RX4 47 y_Out_putText : Cond) ∈ lw_g := lg_mem (List.mem_of_getElem? (i := 972) (by decide +kernel)) (by decide +kernel)
theorem mw_974 : (.instanceMethod y_Out_putText : Cond) ∈ lw_g := lg_mem (List.mem_of_getElem? (i := 974) (by decide +kernel)) (by decide +kernel)
theorem mw_975 : (.code y_Out_putText b_Out_putText 4 none : Cond) ∈ lw_g := lg_mem (List.mem_of_getElem? (i := 975) (by decide +kernel)) (by decide +kernel)
theorem mw_976 : (.methodLink RX4 60 y_Tokens_length : Cond) ∈ lw_g := lg_mem (List.mem_of_getElem? (i := 976) (by decide +kernel)) (by decide +kernel)
theorem mw_977 : (.methodLink RX4 62 y_Tokens_character : Cond) ∈ lw_g := lg_mem (List.mem_of_getElem? (i := 977) (by decide +kernel)) (by decide +kernel)
theorem mw_979 : (.methodLink RX4 67 y_Out_putString : Cond) ∈ lw_g := lg_mem (List.mem_of_getElem? (i := 979) (by decide +kernel)) (by decide +kernel)
theorem mw_981 : (.instanceMethod y_Out_putString : Cond) ∈ lw_g := lg_mem (List.mem_of_getElem? (i := 981) (by decide +kernel)) (by decide +kernel)
theorem mw_982 : (.code y_Out_putString b_Out_putString 3 none : Cond) ∈ lw_g := lg_mem (List.mem_of_getElem? (i := 982) (by decide +kernel)) (by decide +kernel)
theorem mw_983 : (.methodLink RX4 127 y_String_length : Cond) ∈ lw_g := lg_mem (List.mem_of_getElem? (i := 983) (by decide +kernel)) (by decide +kernel)
theorem mw_984 : (.methodLink RX4 131 y_String_charAt : Cond) ∈ lw_g := lg_mem (List.mem_of_getElem? (i := 984) (by decide +kernel)) (by decide +kernel)
theorem mw_985 : (.methodLink RX4 83 y_Out_putByte : Cond) ∈ lw_g := lg_mem (List.mem_of_getElem? (i := 985) (by decide +kernel)) (by decide +kernel)
theorem mw_987 : (.instanceMethod y_Out_putByte : Cond) ∈ lw_g := lg_mem (List.mem_of_getElem? (i := 987) (by decide +kernel)) (by decide +kernel)
theorem mw_988 : (.code y_Out_putByte b_Out_putByte 2 none : Cond) ∈ lw_g := lg_mem (List.mem_of_getElem? (i := 988) (by decide +kernel)) (by decide +kernel)
theorem mw_989 : (.methodLink RX4 71 y_Out_putReferable : Cond) ∈ lw_g := lg_mem (List.mem_of_getElem? (i := 989) (by decide +kernel)) (by decide +kernel)
theorem mw_991 : (.instanceMethod y_Out_putReferable : Cond) ∈ lw_g := lg_mem (List.mem_of_getElem? (i := 991) (by decide +kernel)) (by decide +kernel)
theorem mw_992 : (.code y_Out_putReferable b_Out_putReferable 2 none : Cond) ∈ lw_g := lg_mem (List.mem_of_getElem? (i := 992) (by decide +kernel)) (by decide +kernel)
theorem mw_995 : (.methodLink RX4 123 y_Out_putDigits : Cond) ∈ lw_g := lg_mem (List.mem_of_getElem? (i := 995) (by decide +kernel)) (by decide +kernel)
theorem mw_997 : (.instanceMethod y_Out_putDigits : Cond) ∈ lw_g := lg_mem (List.mem_of_getElem? (i := 997) (by decide +kernel)) (by decide +kernel)
theorem mw_998 : (.code y_Out_putDigits b_Out_putDigits 3 none : Cond) ∈ lw_g := lg_mem (List.mem_of_getElem? (i := 998) (by decide +kernel)) (by decide +kernel)
theorem mw_999 : (.constant RX4 126 1000000 : Cond) ∈ lw_g := lg_mem (List.mem_of_getElem? (i := 999) (by decide +kernel)) (by decide +kernel)
theorem mw_1000 : (.methodLink RX4 51 y_Out_putComment : Cond) ∈ lw_g := lg_mem (List.mem_of_getElem? (i := 1000) (by decide +kernel)) (by decide +kernel)
theorem mw_1002 : (.instanceMethod y_Out_putComment : Cond) ∈ lw_g := lg_mem (List.mem_of_getElem? (i := 1002) (by decide +kernel)) (by decide +kernel)
theorem mw_1003 : (.code y_Out_putComment b_Out_putComment 2 none : Cond) ∈ lw_g := lg_mem (List.mem_of_getElem? (i := 1003) (by decide +kernel)) (by decide +kernel)
theorem mw_1005 : (.methodLink RX4 76 y_Out_putOwn : Cond) ∈ lw_g := lg_mem (List.mem_of_getElem? (i := 1005) (by decide +kernel)) (by decide +kernel)
theorem mw_1007 : (.instanceMethod y_Out_putOwn : Cond) ∈ lw_g := lg_mem (List.mem_of_getElem? (i := 1007) (by decide +kernel)) (by decide +kernel)
theorem mw_1008 : (.code y_Out_putOwn b_Out_putOwn 3 none : Cond) ∈ lw_g := lg_mem (List.mem_of_getElem? (i := 1008) (by decide +kernel)) (by decide +kernel)
theorem mw_1009 : (.methodLink RX4 105 y_Out_putPlain : Cond) ∈ lw_g := lg_mem (List.mem_of_getElem? (i := 1009) (by decide +kernel)) (by decide +kernel)
theorem mw_1011 : (.instanceMethod y_Out_putPlain : Cond) ∈ lw_g := lg_mem (List.mem_of_getElem? (i := 1011) (by decide +kernel)) (by decide +kernel)
theorem mw_1012 : (.code y_Out_putPlain b_Out_putPlain 2 none : Cond) ∈ lw_g := lg_mem (List.mem_of_getElem? (i := 1012) (by decide +kernel)) (by decide +kernel)
theorem mw_1013 : (.constant RX4 118 65533 : Cond) ∈ lw_g := lg_mem (List.mem_of_getElem? (i := 1013) (by decide +kernel)) (by decide +kernel)
theorem mw_1015 : (.methodLink RX4 54 y_Out_putDoctype : Cond) ∈ lw_g := lg_mem (List.mem_of_getElem? (i := 1015) (by decide +kernel)) (by decide +kernel)
theorem mw_1017 : (.instanceMethod y_Out_putDoctype : Cond) ∈ lw_g := lg_mem (List.mem_of_getElem? (i := 1017) (by decide +kernel)) (by decide +kernel)
theorem mw_1018 : (.code y_Out_putDoctype b_Out_putDoctype 2 none : Cond) ∈ lw_g := lg_mem (List.mem_of_getElem? (i := 1018) (by decide +kernel)) (by decide +kernel)
theorem mw_1020 : (.methodLink RX4 86 y_Tokens_mark : Cond) ∈ lw_g := lg_mem (List.mem_of_getElem? (i := 1020) (by decide +kernel)) (by decide +kernel)
theorem mw_1022 : (.methodLink RX4 57 y_Out_putTag : Cond) ∈ lw_g := lg_mem (List.mem_of_getElem? (i := 1022) (by decide +kernel)) (by decide +kernel)
theorem mw_1024 : (.instanceMethod y_Out_putTag : Cond) ∈ lw_g := lg_mem (List.mem_of_getElem? (i := 1024) (by decide +kernel)) (by decide +kernel)
theorem mw_1025 : (.code y_Out_putTag b_Out_putTag 3 none : Cond) ∈ lw_g := lg_mem (List.mem_of_getElem? (i := 1025) (by decide +kernel)) (by decide +kernel)
theorem mw_1026 : (.methodLink RX4 91 y_Tokens_attributes : Cond) ∈ lw_g := lg_mem (List.mem_of_getElem? (i := 1026) (by decide +kernel)) (by decide +kernel)
theorem mw_1027 : (.methodLink RX4 94 y_Out_putAttribute : Cond) ∈ lw_g := lg_mem (List.mem_of_getElem? (i := 1027) (by decide +kernel)) (by decide +kernel)
theorem mw_1029 : (.instanceMethod y_Out_putAttribute : Cond) ∈ lw_g := lg_mem (List.mem_of_getElem? (i := 1029) (by decide +kernel)) (by decide +kernel)
theorem mw_1030 : (.code y_Out_putAttribute b_Out_putAttribute 5 none : Cond) ∈ lw_g := lg_mem (List.mem_of_getElem? (i := 1030) (by decide +kernel)) (by decide +kernel)
theorem mw_1031 : (.methodLink RX4 98 y_Tokens_nameLength : Cond) ∈ lw_g := lg_mem (List.mem_of_getElem? (i := 1031) (by decide +kernel)) (by decide +kernel)
theorem mw_1032 : (.methodLink RX4 101 y_Tokens_nameCharacter : Cond) ∈ lw_g := lg_mem (List.mem_of_getElem? (i := 1032) (by decide +kernel)) (by decide +kernel)
theorem mw_1034 : (.methodLink RX4 110 y_Tokens_valueLength : Cond) ∈ lw_g := lg_mem (List.mem_of_getElem? (i := 1034) (by decide +kernel)) (by decide +kernel)
theorem mw_1035 : (.methodLink RX4 113 y_Tokens_valueCharacter : Cond) ∈ lw_g := lg_mem (List.mem_of_getElem? (i := 1035) (by decide +kernel)) (by decide +kernel)
theorem mw_1041 : (.constantLong RX12 122 8 : Cond) ∈ lw_g := lg_mem (List.mem_of_getElem? (i := 1041) (by decide +kernel)) (by decide +kernel)
theorem mw_1042 : (.methodLink RX12 124 y_Out_byteAt : Cond) ∈ lw_g := lg_mem (List.mem_of_getElem? (i := 1042) (by decide +kernel)) (by decide +kernel)
theorem mw_1043 : (.instanceMethod y_Out_byteAt : Cond) ∈ lw_g := lg_mem (List.mem_of_getElem? (i := 1043) (by decide +kernel)) (by decide +kernel)
theorem mw_1044 : (.selects RX4 y_Out_byteAt y_Out_byteAt : Cond) ∈ lw_g := lg_mem (List.mem_of_getElem? (i := 1044) (by decide +kernel)) (by decide +kernel)
theorem mw_1045 : (.code y_Out_byteAt b_Out_byteAt 3 (some .long) : Cond) ∈ lw_g := lg_mem (List.mem_of_getElem? (i := 1045) (by decide +kernel)) (by decide +kernel)
theorem mw_1046 : (.constantLong RX4 23 255 : Cond) ∈ lw_g := lg_mem (List.mem_of_getElem? (i := 1046) (by decide +kernel)) (by decide +kernel)
theorem mw_1106 : (.fieldLink RX13 113 "MarkupTokensModel" "names" "[J" : Cond) ∈ lw_g := lg_mem (List.mem_of_getElem? (i := 1106) (by decide +kernel)) (by decide +kernel)
theorem mw_1107 : (.fieldLink RX13 119 "MarkupTokensModel" "gives" "[I" : Cond) ∈ lw_g := lg_mem (List.mem_of_getElem? (i := 1107) (by decide +kernel)) (by decide +kernel)
theorem mw_1108 : (.fieldLink RX13 123 "MarkupTokensModel" "turned" "[I" : Cond) ∈ lw_g := lg_mem (List.mem_of_getElem? (i := 1108) (by decide +kernel)) (by decide +kernel)
theorem mw_1109 : (.fieldLink RX13 179 "MarkupTokensModel" "size" "I" : Cond) ∈ lw_g := lg_mem (List.mem_of_getElem? (i := 1109) (by decide +kernel)) (by decide +kernel)
theorem mw_1110 : (.fieldLink RX13 126 "MarkupTokensModel" "bytes" "[B" : Cond) ∈ lw_g := lg_mem (List.mem_of_getElem? (i := 1110) (by decide +kernel)) (by decide +kernel)
theorem mw_1111 : (.fieldLink RX13 186 "MarkupTokensModel" "n" "I" : Cond) ∈ lw_g := lg_mem (List.mem_of_getElem? (i := 1111) (by decide +kernel)) (by decide +kernel)
theorem mw_1112 : (.fieldLink RX13 130 "MarkupTokensModel" "text" "[I" : Cond) ∈ lw_g := lg_mem (List.mem_of_getElem? (i := 1112) (by decide +kernel)) (by decide +kernel)
theorem mw_1113 : (.fieldLink RX13 193 "MarkupTokensModel" "p" "I" : Cond) ∈ lw_g := lg_mem (List.mem_of_getElem? (i := 1113) (by decide +kernel)) (by decide +kernel)
theorem mw_1114 : (.fieldLink RX13 236 "MarkupTokensModel" "ended" "Z" : Cond) ∈ lw_g := lg_mem (List.mem_of_getElem? (i := 1114) (by decide +kernel)) (by decide +kernel)
theorem mw_1115 : (.fieldLink RX13 227 "MarkupTokensModel" "tokens" "I" : Cond) ∈ lw_g := lg_mem (List.mem_of_getElem? (i := 1115) (by decide +kernel)) (by decide +kernel)
theorem mw_1116 : (.fieldLink RX13 133 "MarkupTokensModel" "kinds" "[I" : Cond) ∈ lw_g := lg_mem (List.mem_of_getElem? (i := 1116) (by decide +kernel)) (by decide +kernel)
theorem mw_1117 : (.fieldLink RX13 136 "MarkupTokensModel" "firsts" "[I" : Cond) ∈ lw_g := lg_mem (List.mem_of_getElem? (i := 1117) (by decide +kernel)) (by decide +kernel)
theorem mw_1118 : (.fieldLink RX13 139 "MarkupTokensModel" "sizes" "[I" : Cond) ∈ lw_g := lg_mem (List.mem_of_getElem? (i := 1118) (by decide +kernel)) (by decide +kernel)
theorem mw_1119 : (.fieldLink RX13 142 "MarkupTokensModel" "marks" "[Z" : Cond) ∈ lw_g := lg_mem (List.mem_of_getElem? (i := 1119) (by decide +kernel)) (by decide +kernel)
theorem mw_1120 : (.fieldLink RX13 146 "MarkupTokensModel" "attributes" "[I" : Cond) ∈ lw_g := lg_mem (List.mem_of_getElem? (i := 1120) (by decide +kernel)) (by decide +kernel)
theorem mw_1121 : (.fieldLink RX13 149 "MarkupTokensModel" "manyOf" "[I" : Cond) ∈ lw_g := lg_mem (List.mem_of_getElem? (i := 1121) (by decide +kernel)) (by decide +kernel)
theorem mw_1122 : (.fieldLink RX13 230 "MarkupTokensModel" "attributeCount" "I" : Cond) ∈ lw_g := lg_mem (List.mem_of_getElem? (i := 1122) (by decide +kernel)) (by decide +kernel)
theorem mw_1123 : (.fieldLink RX13 152 "MarkupTokensModel" "nameAt" "[I" : Cond) ∈ lw_g := lg_mem (List.mem_of_getElem? (i := 1123) (by decide +kernel)) (by decide +kernel)
theorem mw_1124 : (.fieldLink RX13 155 "MarkupTokensModel" "nameSize" "[I" : Cond) ∈ lw_g := lg_mem (List.mem_of_getElem? (i := 1124) (by decide +kernel)) (by decide +kernel)
theorem mw_1125 : (.fieldLink RX13 158 "MarkupTokensModel" "valueAt" "[I" : Cond) ∈ lw_g := lg_mem (List.mem_of_getElem? (i := 1125) (by decide +kernel)) (by decide +kernel)
theorem mw_1126 : (.fieldLink RX13 161 "MarkupTokensModel" "valueSize" "[I" : Cond) ∈ lw_g := lg_mem (List.mem_of_getElem? (i := 1126) (by decide +kernel)) (by decide +kernel)
theorem mw_1127 : (.fieldLink RX13 164 "MarkupTokensModel" "goes" "[Z" : Cond) ∈ lw_g := lg_mem (List.mem_of_getElem? (i := 1127) (by decide +kernel)) (by decide +kernel)
theorem mw_1128 : (.fieldLink RX13 206 "MarkupTokensModel" "rowSize" "I" : Cond) ∈ lw_g := lg_mem (List.mem_of_getElem? (i := 1128) (by decide +kernel)) (by decide +kernel)
theorem mw_1129 : (.fieldLink RX13 167 "MarkupTokensModel" "row" "[I" : Cond) ∈ lw_g := lg_mem (List.mem_of_getElem? (i := 1129) (by decide +kernel)) (by decide +kernel)
theorem mw_1130 : (.fieldLink RX13 217 "MarkupTokensModel" "textAt" "I" : Cond) ∈ lw_g := lg_mem (List.mem_of_getElem? (i := 1130) (by decide +kernel)) (by decide +kernel)
theorem mw_1131 : (.fieldLink RX13 214 "MarkupTokensModel" "textSize" "I" : Cond) ∈ lw_g := lg_mem (List.mem_of_getElem? (i := 1131) (by decide +kernel)) (by decide +kernel)
theorem mw_1132 : (.fieldLink RX13 203 "MarkupTokensModel" "faultCount" "I" : Cond) ∈ lw_g := lg_mem (List.mem_of_getElem? (i := 1132) (by decide +kernel)) (by decide +kernel)
theorem mw_1133 : (.fieldLink RX13 170 "MarkupTokensModel" "codes" "[I" : Cond) ∈ lw_g := lg_mem (List.mem_of_getElem? (i := 1133) (by decide +kernel)) (by decide +kernel)
theorem mw_1134 : (.fieldLink RX13 173 "MarkupTokensModel" "places" "[I" : Cond) ∈ lw_g := lg_mem (List.mem_of_getElem? (i := 1134) (by decide +kernel)) (by decide +kernel)
theorem mw_1135 : (.fieldLink RX13 183 "MarkupTokensModel" "outSize" "I" : Cond) ∈ lw_g := lg_mem (List.mem_of_getElem? (i := 1135) (by decide +kernel)) (by decide +kernel)
theorem mw_1136 : (.fieldLink RX13 176 "MarkupTokensModel" "out" "[B" : Cond) ∈ lw_g := lg_mem (List.mem_of_getElem? (i := 1136) (by decide +kernel)) (by decide +kernel)
theorem mw_1137 : (.fieldLink RX13 320 "MarkupTokensModel" "which" "I" : Cond) ∈ lw_g := lg_mem (List.mem_of_getElem? (i := 1137) (by decide +kernel)) (by decide +kernel)
theorem mw_1221 : (.methodLink RX13 233 y_Mo_layDown : Cond) ∈ lw_g := lg_mem (List.mem_of_getElem? (i := 1221) (by decide +kernel)) (by decide +kernel)
theorem mw_1223 : (.instanceMethod y_Mo_layDown : Cond) ∈ lw_g := lg_mem (List.mem_of_getElem? (i := 1223) (by decide +kernel)) (by decide +kernel)
theorem mw_1224 : (.code y_Mo_layDown b_Mo_layDown 4 none : Cond) ∈ lw_g := lg_mem (List.mem_of_getElem? (i := 1224) (by decide +kernel)) (by decide +kernel)
theorem mw_1225 : (.methodLink RX13 196 y_Mo_charAt : Cond) ∈ lw_g := lg_mem (List.mem_of_getElem? (i := 1225) (by decide +kernel)) (by decide +kernel)
theorem mw_1227 : (.instanceMethod y_Mo_charAt : Cond) ∈ lw_g := lg_mem (List.mem_of_getElem? (i := 1227) (by decide +kernel)) (by decide +kernel)
theorem mw_1228 : (.code y_Mo_charAt b_Mo_charAt 2 (some .int) : Cond) ∈ lw_g := lg_mem (List.mem_of_getElem? (i := 1228) (by decide +kernel)) (by decide +kernel)
theorem mw_1229 : (.methodLink RX13 240 y_Mo_reference : Cond) ∈ lw_g := lg_mem (List.mem_of_getElem? (i := 1229) (by decide +kernel)) (by decide +kernel)
theorem mw_1231 : (.instanceMethod y_Mo_reference : Cond) ∈ lw_g := lg_mem (List.mem_of_getElem? (i := 1231) (by decide +kernel)) (by decide +kernel)
theorem mw_1232 : (.code y_Mo_reference b_Mo_reference 4 none : Cond) ∈ lw_g := lg_mem (List.mem_of_getElem? (i := 1232) (by decide +kernel)) (by decide +kernel)
theorem mw_1233 : (.methodLink RX13 323 y_Mo_number : Cond) ∈ lw_g := lg_mem (List.mem_of_getElem? (i := 1233) (by decide +kernel)) (by decide +kernel)
theorem mw_1235 : (.instanceMethod y_Mo_number : Cond) ∈ lw_g := lg_mem (List.mem_of_getElem? (i := 1235) (by decide +kernel)) (by decide +kernel)
theorem mw_1236 : (.code y_Mo_number b_Mo_number 6 none : Cond) ∈ lw_g := lg_mem (List.mem_of_getElem? (i := 1236) (by decide +kernel)) (by decide +kernel)
theorem mw_1237 : (.methodLink RX13 338 y_Mo_digitOf : Cond) ∈ lw_g := lg_mem (List.mem_of_getElem? (i := 1237) (by decide +kernel)) (by decide +kernel)
theorem mw_1238 : (.static y_Mo_digitOf : Cond) ∈ lw_g := lg_mem (List.mem_of_getElem? (i := 1238) (by decide +kernel)) (by decide +kernel)
theorem mw_1239 : (.code y_Mo_digitOf b_Mo_digitOf 1 (some .int) : Cond) ∈ lw_g := lg_mem (List.mem_of_getElem? (i := 1239) (by decide +kernel)) (by decide +kernel)
theorem mw_1240 : (.methodLink RX13 326 y_Mo_isDigit : Cond) ∈ lw_g := lg_mem (List.mem_of_getElem? (i := 1240) (by decide +kernel)) (by decide +kernel)
theorem mw_1241 : (.static y_Mo_isDigit : Cond) ∈ lw_g := lg_mem (List.mem_of_getElem? (i := 1241) (by decide +kernel)) (by decide +kernel)
theorem mw_1242 : (.code y_Mo_isDigit b_Mo_isDigit 1 (some .boolean) : Cond) ∈ lw_g := lg_mem (List.mem_of_getElem? (i := 1242) (by decide +kernel)) (by decide +kernel)
theorem mw_1243 : (.constant RX13 341 1114111 : Cond) ∈ lw_g := lg_mem (List.mem_of_getElem? (i := 1243) (by decide +kernel)) (by decide +kernel)
theorem mw_1244 : (.methodLink RX13 209 y_Mo_wrong : Cond) ∈ lw_g := lg_mem (List.mem_of_getElem? (i := 1244) (by decide +kernel)) (by decide +kernel)
theorem mw_1246 : (.instanceMethod y_Mo_wrong : Cond) ∈ lw_g := lg_mem (List.mem_of_getElem? (i := 1246) (by decide +kernel)) (by decide +kernel)
theorem mw_1247 : (.code y_Mo_wrong b_Mo_wrong 3 none : Cond) ∈ lw_g := lg_mem (List.mem_of_getElem? (i := 1247) (by decide +kernel)) (by decide +kernel)
theorem mw_1248 : (.methodLink RX13 332 y_Mo_giveAll : Cond) ∈ lw_g := lg_mem (List.mem_of_getElem? (i := 1248) (by decide +kernel)) (by decide +kernel)
theorem mw_1250 : (.instanceMethod y_Mo_giveAll : Cond) ∈ lw_g := lg_mem (List.mem_of_getElem? (i := 1250) (by decide +kernel)) (by decide +kernel)
theorem mw_1251 : (.code y_Mo_giveAll b_Mo_giveAll 4 none : Cond) ∈ lw_g := lg_mem (List.mem_of_getElem? (i := 1251) (by decide +kernel)) (by decide +kernel)
theorem mw_1252 : (.methodLink RX13 316 y_Mo_give : Cond) ∈ lw_g := lg_mem (List.mem_of_getElem? (i := 1252) (by decide +kernel)) (by decide +kernel)
theorem mw_1254 : (.instanceMethod y_Mo_give : Cond) ∈ lw_g := lg_mem (List.mem_of_getElem? (i := 1254) (by decide +kernel)) (by decide +kernel)
theorem mw_1255 : (.code y_Mo_give b_Mo_give 3 none : Cond) ∈ lw_g := lg_mem (List.mem_of_getElem? (i := 1255) (by decide +kernel)) (by decide +kernel)
theorem mw_1256 : (.methodLink RX13 220 y_Mo_keep : Cond) ∈ lw_g := lg_mem (List.mem_of_getElem? (i := 1256) (by decide +kernel)) (by decide +kernel)
theorem mw_1258 : (.instanceMethod y_Mo_keep : Cond) ∈ lw_g := lg_mem (List.mem_of_getElem? (i := 1258) (by decide +kernel)) (by decide +kernel)
theorem mw_1259 : (.code y_Mo_keep b_Mo_keep 2 none : Cond) ∈ lw_g := lg_mem (List.mem_of_getElem? (i := 1259) (by decide +kernel)) (by decide +kernel)
theorem mw_1260 : (.methodLink RX13 247 y_Mo_toText : Cond) ∈ lw_g := lg_mem (List.mem_of_getElem? (i := 1260) (by decide +kernel)) (by decide +kernel)
theorem mw_1262 : (.instanceMethod y_Mo_toText : Cond) ∈ lw_g := lg_mem (List.mem_of_getElem? (i := 1262) (by decide +kernel)) (by decide +kernel)
theorem mw_1263 : (.code y_Mo_toText b_Mo_toText 2 none : Cond) ∈ lw_g := lg_mem (List.mem_of_getElem? (i := 1263) (by decide +kernel)) (by decide +kernel)
theorem mw_1264 : (.methodLink RX13 342 y_Mo_told : Cond) ∈ lw_g := lg_mem (List.mem_of_getElem? (i := 1264) (by decide +kernel)) (by decide +kernel)
theorem mw_1266 : (.instanceMethod y_Mo_told : Cond) ∈ lw_g := lg_mem (List.mem_of_getElem? (i := 1266) (by decide +kernel)) (by decide +kernel)
theorem mw_1267 : (.code y_Mo_told b_Mo_told 3 (some .int) : Cond) ∈ lw_g := lg_mem (List.mem_of_getElem? (i := 1267) (by decide +kernel)) (by decide +kernel)
theorem mw_1268 : (.constant RX13 213 65533 : Cond) ∈ lw_g := lg_mem (List.mem_of_getElem? (i := 1268) (by decide +kernel)) (by decide +kernel)
theorem mw_1269 : (.constant RX13 345 55296 : Cond) ∈ lw_g := lg_mem (List.mem_of_getElem? (i := 1269) (by decide +kernel)) (by decide +kernel)
theorem mw_1270 : (.constant RX13 346 57343 : Cond) ∈ lw_g := lg_mem (List.mem_of_getElem? (i := 1270) (by decide +kernel)) (by decide +kernel)
theorem mw_1271 : (.constant RX13 347 64976 : Cond) ∈ lw_g := lg_mem (List.mem_of_getElem? (i := 1271) (by decide +kernel)) (by decide +kernel)
theorem mw_1272 : (.constant RX13 348 65007 : Cond) ∈ lw_g := lg_mem (List.mem_of_getElem? (i := 1272) (by decide +kernel)) (by decide +kernel)
theorem mw_1273 : (.constant RX13 349 65536 : Cond) ∈ lw_g := lg_mem (List.mem_of_getElem? (i := 1273) (by decide +kernel)) (by decide +kernel)
theorem mw_1274 : (.constant RX13 350 65534 : Cond) ∈ lw_g := lg_mem (List.mem_of_getElem? (i := 1274) (by decide +kernel)) (by decide +kernel)
theorem mw_1275 : (.methodLink RX13 200 y_Mo_isBlank : Cond) ∈ lw_g := lg_mem (List.mem_of_getElem? (i := 1275) (by decide +kernel)) (by decide +kernel)
theorem mw_1276 : (.static y_Mo_isBlank : Cond) ∈ lw_g := lg_mem (List.mem_of_getElem? (i := 1276) (by decide +kernel)) (by decide +kernel)
theorem mw_1277 : (.code y_Mo_isBlank b_Mo_isBlank 1 (some .boolean) : Cond) ∈ lw_g := lg_mem (List.mem_of_getElem? (i := 1277) (by decide +kernel)) (by decide +kernel)
theorem mw_1278 : (.methodLink RX13 259 y_Mo_isLetter : Cond) ∈ lw_g := lg_mem (List.mem_of_getElem? (i := 1278) (by decide +kernel)) (by decide +kernel)
theorem mw_1279 : (.static y_Mo_isLetter : Cond) ∈ lw_g := lg_mem (List.mem_of_getElem? (i := 1279) (by decide +kernel)) (by decide +kernel)
theorem mw_1280 : (.code y_Mo_isLetter b_Mo_isLetter 1 (some .boolean) : Cond) ∈ lw_g := lg_mem (List.mem_of_getElem? (i := 1280) (by decide +kernel)) (by decide +kernel)
theorem mw_1281 : (.methodLink RX13 189 y_Mo_isGreat : Cond) ∈ lw_g := lg_mem (List.mem_of_getElem? (i := 1281) (by decide +kernel)) (by decide +kernel)
theorem mw_1282 : (.static y_Mo_isGreat : Cond) ∈ lw_g := lg_mem (List.mem_of_getElem? (i := 1282) (by decide +kernel)) (by decide +kernel)
theorem mw_1283 : (.code y_Mo_isGreat b_Mo_isGreat 1 (some .boolean) : Cond) ∈ lw_g := lg_mem (List.mem_of_getElem? (i := 1283) (by decide +kernel)) (by decide +kernel)
theorem mw_1284 : (.methodLink RX13 329 y_Mo_named : Cond) ∈ lw_g := lg_mem (List.mem_of_getElem? (i := 1284) (by decide +kernel)) (by decide +kernel)
theorem mw_1286 : (.instanceMethod y_Mo_named : Cond) ∈ lw_g := lg_mem (List.mem_of_getElem? (i := 1286) (by decide +kernel)) (by decide +kernel)
theorem mw_1287 : (.code y_Mo_named b_Mo_named 6 none : Cond) ∈ lw_g := lg_mem (List.mem_of_getElem? (i := 1287) (by decide +kernel)) (by decide +kernel)
theorem mw_1288 : (.methodLink RX13 335 y_Mo_longest : Cond) ∈ lw_g := lg_mem (List.mem_of_getElem? (i := 1288) (by decide +kernel)) (by decide +kernel)
theorem mw_1290 : (.instanceMethod y_Mo_longest : Cond) ∈ lw_g := lg_mem (List.mem_of_getElem? (i := 1290) (by decide +kernel)) (by decide +kernel)
theorem mw_1291 : (.code y_Mo_longest b_Mo_longest 8 (some .int) : Cond) ∈ lw_g := lg_mem (List.mem_of_getElem? (i := 1291) (by decide +kernel)) (by decide +kernel)
theorem mw_1292 : (.constantLong RX13 299 255 : Cond) ∈ lw_g := lg_mem (List.mem_of_getElem? (i := 1292) (by decide +kernel)) (by decide +kernel)
theorem mw_1293 : (.methodLink RX13 244 y_Mo_tag : Cond) ∈ lw_g := lg_mem (List.mem_of_getElem? (i := 1293) (by decide +kernel)) (by decide +kernel)
theorem mw_1295 : (.instanceMethod y_Mo_tag : Cond) ∈ lw_g := lg_mem (List.mem_of_getElem? (i := 1295) (by decide +kernel)) (by decide +kernel)
theorem mw_1296 : (.code y_Mo_tag b_Mo_tag 2 none : Cond) ∈ lw_g := lg_mem (List.mem_of_getElem? (i := 1296) (by decide +kernel)) (by decide +kernel)
theorem mw_1297 : (.methodLink RX13 253 y_Mo_mark : Cond) ∈ lw_g := lg_mem (List.mem_of_getElem? (i := 1297) (by decide +kernel)) (by decide +kernel)
theorem mw_1299 : (.instanceMethod y_Mo_mark : Cond) ∈ lw_g := lg_mem (List.mem_of_getElem? (i := 1299) (by decide +kernel)) (by decide +kernel)
theorem mw_1300 : (.code y_Mo_mark b_Mo_mark 1 none : Cond) ∈ lw_g := lg_mem (List.mem_of_getElem? (i := 1300) (by decide +kernel)) (by decide +kernel)
theorem mw_1301 : (.methodLink RX13 250 y_Mo_begin : Cond) ∈ lw_g := lg_mem (List.mem_of_getElem? (i := 1301) (by decide +kernel)) (by decide +kernel)
theorem mw_1303 : (.instanceMethod y_Mo_begin : Cond) ∈ lw_g := lg_mem (List.mem_of_getElem? (i := 1303) (by decide +kernel)) (by decide +kernel)
theorem mw_1304 : (.code y_Mo_begin b_Mo_begin 3 none : Cond) ∈ lw_g := lg_mem (List.mem_of_getElem? (i := 1304) (by decide +kernel)) (by decide +kernel)
theorem mw_1305 : (.methodLink RX13 224 y_Mo_begin0 : Cond) ∈ lw_g := lg_mem (List.mem_of_getElem? (i := 1305) (by decide +kernel)) (by decide +kernel)
theorem mw_1307 : (.instanceMethod y_Mo_begin0 : Cond) ∈ lw_g := lg_mem (List.mem_of_getElem? (i := 1307) (by decide +kernel)) (by decide +kernel)
theorem mw_1308 : (.code y_Mo_begin0 b_Mo_begin0 3 none : Cond) ∈ lw_g := lg_mem (List.mem_of_getElem? (i := 1308) (by decide +kernel)) (by decide +kernel)
theorem mw_1309 : (.methodLink RX13 301 y_Mo_comment : Cond) ∈ lw_g := lg_mem (List.mem_of_getElem? (i := 1309) (by decide +kernel)) (by decide +kernel)
theorem mw_1311 : (.instanceMethod y_Mo_comment : Cond) ∈ lw_g := lg_mem (List.mem_of_getElem? (i := 1311) (by decide +kernel)) (by decide +kernel)
theorem mw_1312 : (.code y_Mo_comment b_Mo_comment 9 none : Cond) ∈ lw_g := lg_mem (List.mem_of_getElem? (i := 1312) (by decide +kernel)) (by decide +kernel)
theorem mw_1313 : (.methodLink RX13 310 y_Mo_tell : Cond) ∈ lw_g := lg_mem (List.mem_of_getElem? (i := 1313) (by decide +kernel)) (by decide +kernel)
theorem mw_1315 : (.instanceMethod y_Mo_tell : Cond) ∈ lw_g := lg_mem (List.mem_of_getElem? (i := 1315) (by decide +kernel)) (by decide +kernel)
theorem mw_1316 : (.code y_Mo_tell b_Mo_tell 1 none : Cond) ∈ lw_g := lg_mem (List.mem_of_getElem? (i := 1316) (by decide +kernel)) (by decide +kernel)
theorem mw_1317 : (.methodLink RX13 313 y_Mo_commentEnd : Cond) ∈ lw_g := lg_mem (List.mem_of_getElem? (i := 1317) (by decide +kernel)) (by decide +kernel)
theorem mw_1319 : (.instanceMethod y_Mo_commentEnd : Cond) ∈ lw_g := lg_mem (List.mem_of_getElem? (i := 1319) (by decide +kernel)) (by decide +kernel)
theorem mw_1320 : (.code y_Mo_commentEnd b_Mo_commentEnd 5 (some .int) : Cond) ∈ lw_g := lg_mem (List.mem_of_getElem? (i := 1320) (by decide +kernel)) (by decide +kernel)
theorem mw_1321 : (.methodLink RX13 304 y_Mo_isDoctype : Cond) ∈ lw_g := lg_mem (List.mem_of_getElem? (i := 1321) (by decide +kernel)) (by decide +kernel)
theorem mw_1323 : (.instanceMethod y_Mo_isDoctype : Cond) ∈ lw_g := lg_mem (List.mem_of_getElem? (i := 1323) (by decide +kernel)) (by decide +kernel)
theorem mw_1324 : (.code y_Mo_isDoctype b_Mo_isDoctype 3 (some .boolean) : Cond) ∈ lw_g := lg_mem (List.mem_of_getElem? (i := 1324) (by decide +kernel)) (by decide +kernel)
theorem mw_1325 : (.methodLink RX13 272 y_Mo_lowered : Cond) ∈ lw_g := lg_mem (List.mem_of_getElem? (i := 1325) (by decide +kernel)) (by decide +kernel)
theorem mw_1326 : (.static y_Mo_lowered : Cond) ∈ lw_g := lg_mem (List.mem_of_getElem? (i := 1326) (by decide +kernel)) (by decide +kernel)
theorem mw_1327 : (.code y_Mo_lowered b_Mo_lowered 1 (some .int) : Cond) ∈ lw_g := lg_mem (List.mem_of_getElem? (i := 1327) (by decide +kernel)) (by decide +kernel)
theorem mw_1328 : (.constantLong RX13 297 28552639593803620 : Cond) ∈ lw_g := lg_mem (List.mem_of_getElem? (i := 1328) (by decide +kernel)) (by decide +kernel)
theorem mw_1329 : (.methodLink RX13 307 y_Mo_doctype : Cond) ∈ lw_g := lg_mem (List.mem_of_getElem? (i := 1329) (by decide +kernel)) (by decide +kernel)
theorem mw_1331 : (.instanceMethod y_Mo_doctype : Cond) ∈ lw_g := lg_mem (List.mem_of_getElem? (i := 1331) (by decide +kernel)) (by decide +kernel)
theorem mw_1332 : (.code y_Mo_doctype b_Mo_doctype 2 none : Cond) ∈ lw_g := lg_mem (List.mem_of_getElem? (i := 1332) (by decide +kernel)) (by decide +kernel)
theorem mw_1333 : (.methodLink RX13 279 y_Mo_skipBlanks : Cond) ∈ lw_g := lg_mem (List.mem_of_getElem? (i := 1333) (by decide +kernel)) (by decide +kernel)
theorem mw_1335 : (.instanceMethod y_Mo_skipBlanks : Cond) ∈ lw_g := lg_mem (List.mem_of_getElem? (i := 1335) (by decide +kernel)) (by decide +kernel)
theorem mw_1336 : (.code y_Mo_skipBlanks b_Mo_skipBlanks 1 none : Cond) ∈ lw_g := lg_mem (List.mem_of_getElem? (i := 1336) (by decide +kernel)) (by decide +kernel)
theorem mw_1337 : (.methodLink RX13 268 y_Mo_known : Cond) ∈ lw_g := lg_mem (List.mem_of_getElem? (i := 1337) (by decide +kernel)) (by decide +kernel)
theorem mw_1339 : (.instanceMethod y_Mo_known : Cond) ∈ lw_g := lg_mem (List.mem_of_getElem? (i := 1339) (by decide +kernel)) (by decide +kernel)
theorem mw_1340 : (.code y_Mo_known b_Mo_known 2 (some .int) : Cond) ∈ lw_g := lg_mem (List.mem_of_getElem? (i := 1340) (by decide +kernel)) (by decide +kernel)
theorem mw_1341 : (.methodLink RX13 265 y_Mo_bogus : Cond) ∈ lw_g := lg_mem (List.mem_of_getElem? (i := 1341) (by decide +kernel)) (by decide +kernel)
theorem mw_1343 : (.instanceMethod y_Mo_bogus : Cond) ∈ lw_g := lg_mem (List.mem_of_getElem? (i := 1343) (by decide +kernel)) (by decide +kernel)
theorem mw_1344 : (.code y_Mo_bogus b_Mo_bogus 1 none : Cond) ∈ lw_g := lg_mem (List.mem_of_getElem? (i := 1344) (by decide +kernel)) (by decide +kernel)
theorem mw_1345 : (.methodLink RX13 256 y_Mo_stop : Cond) ∈ lw_g := lg_mem (List.mem_of_getElem? (i := 1345) (by decide +kernel)) (by decide +kernel)
theorem mw_1347 : (.instanceMethod y_Mo_stop : Cond) ∈ lw_g := lg_mem (List.mem_of_getElem? (i := 1347) (by decide +kernel)) (by decide +kernel)
theorem mw_1348 : (.code y_Mo_stop b_Mo_stop 2 none : Cond) ∈ lw_g := lg_mem (List.mem_of_getElem? (i := 1348) (by decide +kernel)) (by decide +kernel)
theorem mw_1349 : (.methodLink RX13 262 y_Mo_tagName : Cond) ∈ lw_g := lg_mem (List.mem_of_getElem? (i := 1349) (by decide +kernel)) (by decide +kernel)
theorem mw_1351 : (.instanceMethod y_Mo_tagName : Cond) ∈ lw_g := lg_mem (List.mem_of_getElem? (i := 1351) (by decide +kernel)) (by decide +kernel)
theorem mw_1352 : (.code y_Mo_tagName b_Mo_tagName 3 none : Cond) ∈ lw_g := lg_mem (List.mem_of_getElem? (i := 1352) (by decide +kernel)) (by decide +kernel)
theorem mw_1353 : (.methodLink RX13 275 y_Mo_behindName : Cond) ∈ lw_g := lg_mem (List.mem_of_getElem? (i := 1353) (by decide +kernel)) (by decide +kernel)
theorem mw_1355 : (.instanceMethod y_Mo_behindName : Cond) ∈ lw_g := lg_mem (List.mem_of_getElem? (i := 1355) (by decide +kernel)) (by decide +kernel)
theorem mw_1356 : (.code y_Mo_behindName b_Mo_behindName 2 (some .boolean) : Cond) ∈ lw_g := lg_mem (List.mem_of_getElem? (i := 1356) (by decide +kernel)) (by decide +kernel)
theorem mw_1357 : (.methodLink RX13 282 y_Mo_drop : Cond) ∈ lw_g := lg_mem (List.mem_of_getElem? (i := 1357) (by decide +kernel)) (by decide +kernel)
theorem mw_1359 : (.instanceMethod y_Mo_drop : Cond) ∈ lw_g := lg_mem (List.mem_of_getElem? (i := 1359) (by decide +kernel)) (by decide +kernel)
theorem mw_1360 : (.code y_Mo_drop b_Mo_drop 1 none : Cond) ∈ lw_g := lg_mem (List.mem_of_getElem? (i := 1360) (by decide +kernel)) (by decide +kernel)
theorem mw_1361 : (.methodLink RX13 285 y_Mo_finish : Cond) ∈ lw_g := lg_mem (List.mem_of_getElem? (i := 1361) (by decide +kernel)) (by decide +kernel)
theorem mw_1363 : (.instanceMethod y_Mo_finish : Cond) ∈ lw_g := lg_mem (List.mem_of_getElem? (i := 1363) (by decide +kernel)) (by decide +kernel)
theorem mw_1364 : (.code y_Mo_finish b_Mo_finish 4 none : Cond) ∈ lw_g := lg_mem (List.mem_of_getElem? (i := 1364) (by decide +kernel)) (by decide +kernel)
theorem mw_1365 : (.methodLink RX13 288 y_Mo_attribute : Cond) ∈ lw_g := lg_mem (List.mem_of_getElem? (i := 1365) (by decide +kernel)) (by decide +kernel)
theorem mw_1367 : (.instanceMethod y_Mo_attribute : Cond) ∈ lw_g := lg_mem (List.mem_of_getElem? (i := 1367) (by decide +kernel)) (by decide +kernel)
theorem mw_1368 : (.code y_Mo_attribute b_Mo_attribute 3 (some .boolean) : Cond) ∈ lw_g := lg_mem (List.mem_of_getElem? (i := 1368) (by decide +kernel)) (by decide +kernel)
theorem mw_1369 : (.methodLink RX13 291 y_Mo_isThere : Cond) ∈ lw_g := lg_mem (List.mem_of_getElem? (i := 1369) (by decide +kernel)) (by decide +kernel)
theorem mw_1371 : (.instanceMethod y_Mo_isThere : Cond) ∈ lw_g := lg_mem (List.mem_of_getElem? (i := 1371) (by decide +kernel)) (by decide +kernel)
theorem mw_1372 : (.code y_Mo_isThere b_Mo_isThere 6 (some .boolean) : Cond) ∈ lw_g := lg_mem (List.mem_of_getElem? (i := 1372) (by decide +kernel)) (by decide +kernel)
theorem mw_1373 : (.methodLink RX13 294 y_Mo_value : Cond) ∈ lw_g := lg_mem (List.mem_of_getElem? (i := 1373) (by decide +kernel)) (by decide +kernel)
theorem mw_1375 : (.instanceMethod y_Mo_value : Cond) ∈ lw_g := lg_mem (List.mem_of_getElem? (i := 1375) (by decide +kernel)) (by decide +kernel)
theorem mw_1376 : (.code y_Mo_value b_Mo_value 5 (some .boolean) : Cond) ∈ lw_g := lg_mem (List.mem_of_getElem? (i := 1376) (by decide +kernel)) (by decide +kernel)
theorem mw_1386 : (.instanceMethod y_Mo_size : Cond) ∈ lw_g := lg_mem (List.mem_of_getElem? (i := 1386) (by decide +kernel)) (by decide +kernel)
theorem mw_1387 : (.selects RX13 y_Mo_size y_Mo_size : Cond) ∈ lw_g := lg_mem (List.mem_of_getElem? (i := 1387) (by decide +kernel)) (by decide +kernel)
theorem mw_1388 : (.code y_Mo_size b_Mo_size 4 (some .int) : Cond) ∈ lw_g := lg_mem (List.mem_of_getElem? (i := 1388) (by decide +kernel)) (by decide +kernel)
theorem mw_1389 : (.methodLink RX13 351 y_Mo_isPart : Cond) ∈ lw_g := lg_mem (List.mem_of_getElem? (i := 1389) (by decide +kernel)) (by decide +kernel)
theorem mw_1391 : (.instanceMethod y_Mo_isPart : Cond) ∈ lw_g := lg_mem (List.mem_of_getElem? (i := 1391) (by decide +kernel)) (by decide +kernel)
theorem mw_1392 : (.code y_Mo_isPart b_Mo_isPart 4 (some .boolean) : Cond) ∈ lw_g := lg_mem (List.mem_of_getElem? (i := 1392) (by decide +kernel)) (by decide +kernel)
theorem mw_1397 : (.methodLink RX13 355 y_Mo_size : Cond) ∈ lw_g := lg_mem (List.mem_of_getElem? (i := 1397) (by decide +kernel)) (by decide +kernel)
theorem mw_1410 : (.methodLink RX13 383 y_Mo_putCharacter : Cond) ∈ lw_g := lg_mem (List.mem_of_getElem? (i := 1410) (by decide +kernel)) (by decide +kernel)
theorem mw_1412 : (.instanceMethod y_Mo_putCharacter : Cond) ∈ lw_g := lg_mem (List.mem_of_getElem? (i := 1412) (by decide +kernel)) (by decide +kernel)
theorem mw_1413 : (.code y_Mo_putCharacter b_Mo_putCharacter 3 none : Cond) ∈ lw_g := lg_mem (List.mem_of_getElem? (i := 1413) (by decide +kernel)) (by decide +kernel)
theorem mw_1414 : (.constantLong RX13 361 255289286950 : Cond) ∈ lw_g := lg_mem (List.mem_of_getElem? (i := 1414) (by decide +kernel)) (by decide +kernel)
theorem mw_1415 : (.methodLink RX13 363 y_Mo_putAll : Cond) ∈ lw_g := lg_mem (List.mem_of_getElem? (i := 1415) (by decide +kernel)) (by decide +kernel)
theorem mw_1417 : (.instanceMethod y_Mo_putAll : Cond) ∈ lw_g := lg_mem (List.mem_of_getElem? (i := 1417) (by decide +kernel)) (by decide +kernel)
theorem mw_1418 : (.code y_Mo_putAll b_Mo_putAll 5 none : Cond) ∈ lw_g := lg_mem (List.mem_of_getElem? (i := 1418) (by decide +kernel)) (by decide +kernel)
theorem mw_1419 : (.methodLink RX13 358 y_Mo_put : Cond) ∈ lw_g := lg_mem (List.mem_of_getElem? (i := 1419) (by decide +kernel)) (by decide +kernel)
theorem mw_1421 : (.instanceMethod y_Mo_put : Cond) ∈ lw_g := lg_mem (List.mem_of_getElem? (i := 1421) (by decide +kernel)) (by decide +kernel)
theorem mw_1422 : (.code y_Mo_put b_Mo_put 2 none : Cond) ∈ lw_g := lg_mem (List.mem_of_getElem? (i := 1422) (by decide +kernel)) (by decide +kernel)
theorem mw_1423 : (.constantLong RX13 367 997485606 : Cond) ∈ lw_g := lg_mem (List.mem_of_getElem? (i := 1423) (by decide +kernel)) (by decide +kernel)
theorem mw_1424 : (.constantLong RX13 369 65371272212774 : Cond) ∈ lw_g := lg_mem (List.mem_of_getElem? (i := 1424) (by decide +kernel)) (by decide +kernel)
theorem mw_1425 : (.constantLong RX13 371 8998 : Cond) ∈ lw_g := lg_mem (List.mem_of_getElem? (i := 1425) (by decide +kernel)) (by decide +kernel)
theorem mw_1426 : (.methodLink RX13 373 y_Mo_putNumber : Cond) ∈ lw_g := lg_mem (List.mem_of_getElem? (i := 1426) (by decide +kernel)) (by decide +kernel)
theorem mw_1428 : (.instanceMethod y_Mo_putNumber : Cond) ∈ lw_g := lg_mem (List.mem_of_getElem? (i := 1428) (by decide +kernel)) (by decide +kernel)
theorem mw_1429 : (.code y_Mo_putNumber b_Mo_putNumber 3 none : Cond) ∈ lw_g := lg_mem (List.mem_of_getElem? (i := 1429) (by decide +kernel)) (by decide +kernel)
theorem mw_1430 : (.constantLong RX13 386 757932348 : Cond) ∈ lw_g := lg_mem (List.mem_of_getElem? (i := 1430) (by decide +kernel)) (by decide +kernel)
theorem mw_1431 : (.methodLink RX13 380 y_Mo_putRow : Cond) ∈ lw_g := lg_mem (List.mem_of_getElem? (i := 1431) (by decide +kernel)) (by decide +kernel)
theorem mw_1433 : (.instanceMethod y_Mo_putRow : Cond) ∈ lw_g := lg_mem (List.mem_of_getElem? (i := 1433) (by decide +kernel)) (by decide +kernel)
theorem mw_1434 : (.code y_Mo_putRow b_Mo_putRow 4 none : Cond) ∈ lw_g := lg_mem (List.mem_of_getElem? (i := 1434) (by decide +kernel)) (by decide +kernel)
theorem mw_1435 : (.constantLong RX13 388 4074797 : Cond) ∈ lw_g := lg_mem (List.mem_of_getElem? (i := 1435) (by decide +kernel)) (by decide +kernel)
theorem mw_1436 : (.constantLong RX13 390 5789751444030890300 : Cond) ∈ lw_g := lg_mem (List.mem_of_getElem? (i := 1436) (by decide +kernel)) (by decide +kernel)
theorem mw_1437 : (.constantLong RX13 392 32 : Cond) ∈ lw_g := lg_mem (List.mem_of_getElem? (i := 1437) (by decide +kernel)) (by decide +kernel)
theorem mw_1438 : (.constantLong RX13 394 4093984 : Cond) ∈ lw_g := lg_mem (List.mem_of_getElem? (i := 1438) (by decide +kernel)) (by decide +kernel)
theorem mw_1439 : (.constantLong RX13 396 62 : Cond) ∈ lw_g := lg_mem (List.mem_of_getElem? (i := 1439) (by decide +kernel)) (by decide +kernel)
theorem mw_1440 : (.methodLink RX13 398 y_Mo_putTag : Cond) ∈ lw_g := lg_mem (List.mem_of_getElem? (i := 1440) (by decide +kernel)) (by decide +kernel)
theorem mw_1442 : (.instanceMethod y_Mo_putTag : Cond) ∈ lw_g := lg_mem (List.mem_of_getElem? (i := 1442) (by decide +kernel)) (by decide +kernel)
theorem mw_1443 : (.code y_Mo_putTag b_Mo_putTag 4 none : Cond) ∈ lw_g := lg_mem (List.mem_of_getElem? (i := 1443) (by decide +kernel)) (by decide +kernel)
theorem mw_1444 : (.constantLong RX13 376 12092 : Cond) ∈ lw_g := lg_mem (List.mem_of_getElem? (i := 1444) (by decide +kernel)) (by decide +kernel)
theorem mw_1445 : (.constantLong RX13 378 60 : Cond) ∈ lw_g := lg_mem (List.mem_of_getElem? (i := 1445) (by decide +kernel)) (by decide +kernel)
theorem mw_1451 : (.fieldLink "java/lang/Enum" 7 "java/lang/Enum" "ordinal" "I" : Cond) ∈ lw_g := lg_mem (List.mem_of_getElem? (i := 1451) (by decide +kernel)) (by decide +kernel)
theorem mw_1452 : (.fieldLink RX3 119 "MarkupTokens$Named" "letters" "Ljava/lang/String;" : Cond) ∈ lw_g := lg_mem (List.mem_of_getElem? (i := 1452) (by decide +kernel)) (by decide +kernel)
theorem mw_1453 : (.fieldLink "java/lang/String" 9 "java/lang/String" "value" "[B" : Cond) ∈ lw_g := lg_mem (List.mem_of_getElem? (i := 1453) (by decide +kernel)) (by decide +kernel)
theorem mw_1454 : (.fieldLink "java/lang/String" 15 "java/lang/String" "coder" "B" : Cond) ∈ lw_g := lg_mem (List.mem_of_getElem? (i := 1454) (by decide +kernel)) (by decide +kernel)
theorem mw_1455 : (.fieldLink RX3 127 "MarkupTokens$Named" "free" "Z" : Cond) ∈ lw_g := lg_mem (List.mem_of_getElem? (i := 1455) (by decide +kernel)) (by decide +kernel)
end
section
abbrev SMt : Type := (Nat → Int32) × Int32
abbrev SSource : Type := (Nat → Int32) × Int32 × Int32 × (Nat → Int32) × (Nat → Int32) × Int32
abbrev STokens : Type := (Nat → Int32) × Int32 × (Nat → Int32) × (Nat → Int32) × (Nat → Int32) × (Nat → Int32) × (Nat → Int32) × (Nat → Int32) × Int32 × Int32 × (Nat → Int32) × (Nat → Int32) × (Nat → Int32) × Int32 × Int32
abbrev SReferenceWays : Type := Nat
abbrev STagWays : Type := Int32
abbrev SCommentWays : Type := Int32
abbrev SOut : Type := (Nat → Int32) × Int32
abbrev SMo : Type := (Nat → Int64) × (Nat → Int32) × (Nat → Int32) × Int32 × (Nat → Int32) × Int32 × (Nat → Int32) × Int32 × Int32 × Int32 × (Nat → Int32) × (Nat → Int32) × (Nat → Int32) × (Nat → Int32) × (Nat → Int32) × (Nat → Int32) × Int32 × (Nat → Int32) × (Nat → Int32) × (Nat → Int32) × (Nat → Int32) × (Nat → Int32) × Int32 × (Nat → Int32) × Int32 × Int32 × Int32 × (Nat → Int32) × (Nat → Int32) × Int32 × (Nat → Int32) × Int32
abbrev q_Mt_text (s : SMt) : (Nat → Int32) := s.1
abbrev u_Mt_text (s : SMt) (v : (Nat → Int32)) : SMt := (v, s.2)
abbrev q_Mt_textLength (s : SMt) : Int32 := s.2
abbrev u_Mt_textLength (s : SMt) (v : Int32) : SMt := (s.1, v)
abbrev q_Source_characters (s : SSource) : (Nat → Int32) := s.1
abbrev u_Source_characters (s : SSource) (v : (Nat → Int32)) : SSource := (v, s.2.1, s.2.2.1, s.2.2.2.1, s.2.2.2.2.1, s.2.2.2.2.2)
abbrev q_Source_count (s : SSource) : Int32 := s.2.1
abbrev u_Source_count (s : SSource) (v : Int32) : SSource := (s.1, v, s.2.2.1, s.2.2.2.1, s.2.2.2.2.1, s.2.2.2.2.2)
abbrev q_Source_place (s : SSource) : Int32 := s.2.2.1
abbrev u_Source_place (s : SSource) (v : Int32) : SSource := (s.1, s.2.1, v, s.2.2.2.1, s.2.2.2.2.1, s.2.2.2.2.2)
abbrev q_Source_codes (s : SSource) : (Nat → Int32) := s.2.2.2.1
abbrev u_Source_codes (s : SSource) (v : (Nat → Int32)) : SSource := (s.1, s.2.1, s.2.2.1, v, s.2.2.2.2.1, s.2.2.2.2.2)
abbrev q_Source_places (s : SSource) : (Nat → Int32) := s.2.2.2.2.1
abbrev u_Source_places (s : SSource) (v : (Nat → Int32)) : SSource := (s.1, s.2.1, s.2.2.1, s.2.2.2.1, v, s.2.2.2.2.2)
abbrev q_Source_faultCount (s : SSource) : Int32 := s.2.2.2.2.2
abbrev u_Source_faultCount (s : SSource) (v : Int32) : SSource := (s.1, s.2.1, s.2.2.1, s.2.2.2.1, s.2.2.2.2.1, v)
abbrev q_Tokens_row (s : STokens) : (Nat → Int32) := s.1
abbrev u_Tokens_row (s : STokens) (v : (Nat → Int32)) : STokens := (v, s.2.1, s.2.2.1, s.2.2.2.1, s.2.2.2.2.1, s.2.2.2.2.2.1, s.2.2.2.2.2.2.1, s.2.2.2.2.2.2.2.1, s.2.2.2.2.2.2.2.2.1, s.2.2.2.2.2.2.2.2.2.1, s.2.2.2.2.2.2.2.2.2.2.1, s.2.2.2.2.2.2.2.2.2.2.2.1, s.2.2.2.2.2.2.2.2.2.2.2.2.1, s.2.2.2.2.2.2.2.2.2.2.2.2.2.1, s.2.2.2.2.2.2.2.2.2.2.2.2.2.2)
abbrev q_Tokens_used (s : STokens) : Int32 := s.2.1
abbrev u_Tokens_used (s : STokens) (v : Int32) : STokens := (s.1, v, s.2.2.1, s.2.2.2.1, s.2.2.2.2.1, s.2.2.2.2.2.1, s.2.2.2.2.2.2.1, s.2.2.2.2.2.2.2.1, s.2.2.2.2.2.2.2.2.1, s.2.2.2.2.2.2.2.2.2.1, s.2.2.2.2.2.2.2.2.2.2.1, s.2.2.2.2.2.2.2.2.2.2.2.1, s.2.2.2.2.2.2.2.2.2.2.2.2.1, s.2.2.2.2.2.2.2.2.2.2.2.2.2.1, s.2.2.2.2.2.2.2.2.2.2.2.2.2.2)
abbrev q_Tokens_kinds (s : STokens) : (Nat → Int32) := s.2.2.1
abbrev u_Tokens_kinds (s : STokens) (v : (Nat → Int32)) : STokens := (s.1, s.2.1, v, s.2.2.2.1, s.2.2.2.2.1, s.2.2.2.2.2.1, s.2.2.2.2.2.2.1, s.2.2.2.2.2.2.2.1, s.2.2.2.2.2.2.2.2.1, s.2.2.2.2.2.2.2.2.2.1, s.2.2.2.2.2.2.2.2.2.2.1, s.2.2.2.2.2.2.2.2.2.2.2.1, s.2.2.2.2.2.2.2.2.2.2.2.2.1, s.2.2.2.2.2.2.2.2.2.2.2.2.2.1, s.2.2.2.2.2.2.2.2.2.2.2.2.2.2)
abbrev q_Tokens_starts (s : STokens) : (Nat → Int32) := s.2.2.2.1
abbrev u_Tokens_starts (s : STokens) (v : (Nat → Int32)) : STokens := (s.1, s.2.1, s.2.2.1, v, s.2.2.2.2.1, s.2.2.2.2.2.1, s.2.2.2.2.2.2.1, s.2.2.2.2.2.2.2.1, s.2.2.2.2.2.2.2.2.1, s.2.2.2.2.2.2.2.2.2.1, s.2.2.2.2.2.2.2.2.2.2.1, s.2.2.2.2.2.2.2.2.2.2.2.1, s.2.2.2.2.2.2.2.2.2.2.2.2.1, s.2.2.2.2.2.2.2.2.2.2.2.2.2.1, s.2.2.2.2.2.2.2.2.2.2.2.2.2.2)
abbrev q_Tokens_ends (s : STokens) : (Nat → Int32) := s.2.2.2.2.1
abbrev u_Tokens_ends (s : STokens) (v : (Nat → Int32)) : STokens := (s.1, s.2.1, s.2.2.1, s.2.2.2.1, v, s.2.2.2.2.2.1, s.2.2.2.2.2.2.1, s.2.2.2.2.2.2.2.1, s.2.2.2.2.2.2.2.2.1, s.2.2.2.2.2.2.2.2.2.1, s.2.2.2.2.2.2.2.2.2.2.1, s.2.2.2.2.2.2.2.2.2.2.2.1, s.2.2.2.2.2.2.2.2.2.2.2.2.1, s.2.2.2.2.2.2.2.2.2.2.2.2.2.1, s.2.2.2.2.2.2.2.2.2.2.2.2.2.2)
abbrev q_Tokens_marks (s : STokens) : (Nat → Int32) := s.2.2.2.2.2.1
abbrev u_Tokens_marks (s : STokens) (v : (Nat → Int32)) : STokens := (s.1, s.2.1, s.2.2.1, s.2.2.2.1, s.2.2.2.2.1, v, s.2.2.2.2.2.2.1, s.2.2.2.2.2.2.2.1, s.2.2.2.2.2.2.2.2.1, s.2.2.2.2.2.2.2.2.2.1, s.2.2.2.2.2.2.2.2.2.2.1, s.2.2.2.2.2.2.2.2.2.2.2.1, s.2.2.2.2.2.2.2.2.2.2.2.2.1, s.2.2.2.2.2.2.2.2.2.2.2.2.2.1, s.2.2.2.2.2.2.2.2.2.2.2.2.2.2)
abbrev q_Tokens_firstAttributes (s : STokens) : (Nat → Int32) := s.2.2.2.2.2.2.1
abbrev u_Tokens_firstAttributes (s : STokens) (v : (Nat → Int32)) : STokens := (s.1, s.2.1, s.2.2.1, s.2.2.2.1, s.2.2.2.2.1, s.2.2.2.2.2.1, v, s.2.2.2.2.2.2.2.1, s.2.2.2.2.2.2.2.2.1, s.2.2.2.2.2.2.2.2.2.1, s.2.2.2.2.2.2.2.2.2.2.1, s.2.2.2.2.2.2.2.2.2.2.2.1, s.2.2.2.2.2.2.2.2.2.2.2.2.1, s.2.2.2.2.2.2.2.2.2.2.2.2.2.1, s.2.2.2.2.2.2.2.2.2.2.2.2.2.2)
abbrev q_Tokens_attributeCounts (s : STokens) : (Nat → Int32) := s.2.2.2.2.2.2.2.1
abbrev u_Tokens_attributeCounts (s : STokens) (v : (Nat → Int32)) : STokens := (s.1, s.2.1, s.2.2.1, s.2.2.2.1, s.2.2.2.2.1, s.2.2.2.2.2.1, s.2.2.2.2.2.2.1, v, s.2.2.2.2.2.2.2.2.1, s.2.2.2.2.2.2.2.2.2.1, s.2.2.2.2.2.2.2.2.2.2.1, s.2.2.2.2.2.2.2.2.2.2.2.1, s.2.2.2.2.2.2.2.2.2.2.2.2.1, s.2.2.2.2.2.2.2.2.2.2.2.2.2.1, s.2.2.2.2.2.2.2.2.2.2.2.2.2.2)
abbrev q_Tokens_count (s : STokens) : Int32 := s.2.2.2.2.2.2.2.2.1
abbrev u_Tokens_count (s : STokens) (v : Int32) : STokens := (s.1, s.2.1, s.2.2.1, s.2.2.2.1, s.2.2.2.2.1, s.2.2.2.2.2.1, s.2.2.2.2.2.2.1, s.2.2.2.2.2.2.2.1, v, s.2.2.2.2.2.2.2.2.2.1, s.2.2.2.2.2.2.2.2.2.2.1, s.2.2.2.2.2.2.2.2.2.2.2.1, s.2.2.2.2.2.2.2.2.2.2.2.2.1, s.2.2.2.2.2.2.2.2.2.2.2.2.2.1, s.2.2.2.2.2.2.2.2.2.2.2.2.2.2)
abbrev q_Tokens_inText (s : STokens) : Int32 := s.2.2.2.2.2.2.2.2.2.1
abbrev u_Tokens_inText (s : STokens) (v : Int32) : STokens := (s.1, s.2.1, s.2.2.1, s.2.2.2.1, s.2.2.2.2.1, s.2.2.2.2.2.1, s.2.2.2.2.2.2.1, s.2.2.2.2.2.2.2.1, s.2.2.2.2.2.2.2.2.1, v, s.2.2.2.2.2.2.2.2.2.2.1, s.2.2.2.2.2.2.2.2.2.2.2.1, s.2.2.2.2.2.2.2.2.2.2.2.2.1, s.2.2.2.2.2.2.2.2.2.2.2.2.2.1, s.2.2.2.2.2.2.2.2.2.2.2.2.2.2)
abbrev q_Tokens_nameStarts (s : STokens) : (Nat → Int32) := s.2.2.2.2.2.2.2.2.2.2.1
abbrev u_Tokens_nameStarts (s : STokens) (v : (Nat → Int32)) : STokens := (s.1, s.2.1, s.2.2.1, s.2.2.2.1, s.2.2.2.2.1, s.2.2.2.2.2.1, s.2.2.2.2.2.2.1, s.2.2.2.2.2.2.2.1, s.2.2.2.2.2.2.2.2.1, s.2.2.2.2.2.2.2.2.2.1, v, s.2.2.2.2.2.2.2.2.2.2.2.1, s.2.2.2.2.2.2.2.2.2.2.2.2.1, s.2.2.2.2.2.2.2.2.2.2.2.2.2.1, s.2.2.2.2.2.2.2.2.2.2.2.2.2.2)
abbrev q_Tokens_valueStarts (s : STokens) : (Nat → Int32) := s.2.2.2.2.2.2.2.2.2.2.2.1
abbrev u_Tokens_valueStarts (s : STokens) (v : (Nat → Int32)) : STokens := (s.1, s.2.1, s.2.2.1, s.2.2.2.1, s.2.2.2.2.1, s.2.2.2.2.2.1, s.2.2.2.2.2.2.1, s.2.2.2.2.2.2.2.1, s.2.2.2.2.2.2.2.2.1, s.2.2.2.2.2.2.2.2.2.1, s.2.2.2.2.2.2.2.2.2.2.1, v, s.2.2.2.2.2.2.2.2.2.2.2.2.1, s.2.2.2.2.2.2.2.2.2.2.2.2.2.1, s.2.2.2.2.2.2.2.2.2.2.2.2.2.2)
abbrev q_Tokens_valueEnds (s : STokens) : (Nat → Int32) := s.2.2.2.2.2.2.2.2.2.2.2.2.1
abbrev u_Tokens_valueEnds (s : STokens) (v : (Nat → Int32)) : STokens := (s.1, s.2.1, s.2.2.1, s.2.2.2.1, s.2.2.2.2.1, s.2.2.2.2.2.1, s.2.2.2.2.2.2.1, s.2.2.2.2.2.2.2.1, s.2.2.2.2.2.2.2.2.1, s.2.2.2.2.2.2.2.2.2.1, s.2.2.2.2.2.2.2.2.2.2.1, s.2.2.2.2.2.2.2.2.2.2.2.1, v, s.2.2.2.2.2.2.2.2.2.2.2.2.2.1, s.2.2.2.2.2.2.2.2.2.2.2.2.2.2)
abbrev q_Tokens_attributesUsed (s : STokens) : Int32 := s.2.2.2.2.2.2.2.2.2.2.2.2.2.1
abbrev u_Tokens_attributesUsed (s : STokens) (v : Int32) : STokens := (s.1, s.2.1, s.2.2.1, s.2.2.2.1, s.2.2.2.2.1, s.2.2.2.2.2.1, s.2.2.2.2.2.2.1, s.2.2.2.2.2.2.2.1, s.2.2.2.2.2.2.2.2.1, s.2.2.2.2.2.2.2.2.2.1, s.2.2.2.2.2.2.2.2.2.2.1, s.2.2.2.2.2.2.2.2.2.2.2.1, s.2.2.2.2.2.2.2.2.2.2.2.2.1, v, s.2.2.2.2.2.2.2.2.2.2.2.2.2.2)
abbrev q_Tokens_inAttribute (s : STokens) : Int32 := s.2.2.2.2.2.2.2.2.2.2.2.2.2.2
abbrev u_Tokens_inAttribute (s : STokens) (v : Int32) : STokens := (s.1, s.2.1, s.2.2.1, s.2.2.2.1, s.2.2.2.2.1, s.2.2.2.2.2.1, s.2.2.2.2.2.2.1, s.2.2.2.2.2.2.2.1, s.2.2.2.2.2.2.2.2.1, s.2.2.2.2.2.2.2.2.2.1, s.2.2.2.2.2.2.2.2.2.2.1, s.2.2.2.2.2.2.2.2.2.2.2.1, s.2.2.2.2.2.2.2.2.2.2.2.2.1, s.2.2.2.2.2.2.2.2.2.2.2.2.2.1, v)
abbrev q_Out_bytes (s : SOut) : (Nat → Int32) := s.1
abbrev u_Out_bytes (s : SOut) (v : (Nat → Int32)) : SOut := (v, s.2)
abbrev q_Out_length (s : SOut) : Int32 := s.2
abbrev u_Out_length (s : SOut) (v : Int32) : SOut := (s.1, v)
abbrev q_Mo_names (s : SMo) : (Nat → Int64) := s.1
abbrev u_Mo_names (s : SMo) (v : (Nat → Int64)) : SMo := (v, s.2.1, s.2.2.1, s.2.2.2.1, s.2.2.2.2.1, s.2.2.2.2.2.1, s.2.2.2.2.2.2.1, s.2.2.2.2.2.2.2.1, s.2.2.2.2.2.2.2.2.1, s.2.2.2.2.2.2.2.2.2.1, s.2.2.2.2.2.2.2.2.2.2.1, s.2.2.2.2.2.2.2.2.2.2.2.1, s.2.2.2.2.2.2.2.2.2.2.2.2.1, s.2.2.2.2.2.2.2.2.2.2.2.2.2.1, s.2.2.2.2.2.2.2.2.2.2.2.2.2.2.1, s.2.2.2.2.2.2.2.2.2.2.2.2.2.2.2.1, s.2.2.2.2.2.2.2.2.2.2.2.2.2.2.2.2.1, s.2.2.2.2.2.2.2.2.2.2.2.2.2.2.2.2.2.1, s.2.2.2.2.2.2.2.2.2.2.2.2.2.2.2.2.2.2.1, s.2.2.2.2.2.2.2.2.2.2.2.2.2.2.2.2.2.2.2.1, s.2.2.2.2.2.2.2.2.2.2.2.2.2.2.2.2.2.2.2.2.1, s.2.2.2.2.2.2.2.2.2.2.2.2.2.2.2.2.2.2.2.2.2.1, s.2.2.2.2.2.2.2.2.2.2.2.2.2.2.2.2.2.2.2.2.2.2.1, s.2.2.2.2.2.2.2.2.2.2.2.2.2.2.2.2.2.2.2.2.2.2.2.1, s.2.2.2.2.2.2.2.2.2.2.2.2.2.2.2.2.2.2.2.2.2.2.2.2.1, s.2.2.2.2.2.2.2.2.2.2.2.2.2.2.2.2.2.2.2.2.2.2.2.2.2.1, s.2.2.2.2.2.2.2.2.2.2.2.2.2.2.2.2.2.2.2.2.2.2.2.2.2.2.1, s.2.2.2.2.2.2.2.2.2.2.2.2.2.2.2.2.2.2.2.2.2.2.2.2.2.2.2.1, s.2.2.2.2.2.2.2.2.2.2.2.2.2.2.2.2.2.2.2.2.2.2.2.2.2.2.2.2.1, s.2.2.2.2.2.2.2.2.2.2.2.2.2.2.2.2.2.2.2.2.2.2.2.2.2.2.2.2.2.1, s.2.2.2.2.2.2.2.2.2.2.2.2.2.2.2.2.2.2.2.2.2.2.2.2.2.2.2.2.2.2.1, s.2.2.2.2.2.2.2.2.2.2.2.2.2.2.2.2.2.2.2.2.2.2.2.2.2.2.2.2.2.2.2)
abbrev q_Mo_gives (s : SMo) : (Nat → Int32) := s.2.1
abbrev u_Mo_gives (s : SMo) (v : (Nat → Int32)) : SMo := (s.1, v, s.2.2.1, s.2.2.2.1, s.2.2.2.2.1, s.2.2.2.2.2.1, s.2.2.2.2.2.2.1, s.2.2.2.2.2.2.2.1, s.2.2.2.2.2.2.2.2.1, s.2.2.2.2.2.2.2.2.2.1, s.2.2.2.2.2.2.2.2.2.2.1, s.2.2.2.2.2.2.2.2.2.2.2.1, s.2.2.2.2.2.2.2.2.2.2.2.2.1, s.2.2.2.2.2.2.2.2.2.2.2.2.2.1, s.2.2.2.2.2.2.2.2.2.2.2.2.2.2.1, s.2.2.2.2.2.2.2.2.2.2.2.2.2.2.2.1, s.2.2.2.2.2.2.2.2.2.2.2.2.2.2.2.2.1, s.2.2.2.2.2.2.2.2.2.2.2.2.2.2.2.2.2.1, s.2.2.2.2.2.2.2.2.2.2.2.2.2.2.2.2.2.2.1, s.2.2.2.2.2.2.2.2.2.2.2.2.2.2.2.2.2.2.2.1, s.2.2.2.2.2.2.2.2.2.2.2.2.2.2.2.2.2.2.2.2.1, s.2.2.2.2.2.2.2.2.2.2.2.2.2.2.2.2.2.2.2.2.2.1, s.2.2.2.2.2.2.2.2.2.2.2.2.2.2.2.2.2.2.2.2.2.2.1, s.2.2.2.2.2.2.2.2.2.2.2.2.2.2.2.2.2.2.2.2.2.2.2.1, s.2.2.2.2.2.2.2.2.2.2.2.2.2.2.2.2.2.2.2.2.2.2.2.2.1, s.2.2.2.2.2.2.2.2.2.2.2.2.2.2.2.2.2.2.2.2.2.2.2.2.2.1, s.2.2.2.2.2.2.2.2.2.2.2.2.2.2.2.2.2.2.2.2.2.2.2.2.2.2.1, s.2.2.2.2.2.2.2.2.2.2.2.2.2.2.2.2.2.2.2.2.2.2.2.2.2.2.2.1, s.2.2.2.2.2.2.2.2.2.2.2.2.2.2.2.2.2.2.2.2.2.2.2.2.2.2.2.2.1, s.2.2.2.2.2.2.2.2.2.2.2.2.2.2.2.2.2.2.2.2.2.2.2.2.2.2.2.2.2.1, s.2.2.2.2.2.2.2.2.2.2.2.2.2.2.2.2.2.2.2.2.2.2.2.2.2.2.2.2.2.2.1, s.2.2.2.2.2.2.2.2.2.2.2.2.2.2.2.2.2.2.2.2.2.2.2.2.2.2.2.2.2.2.2)
abbrev q_Mo_turned (s : SMo) : (Nat → Int32) := s.2.2.1
abbrev u_Mo_turned (s : SMo) (v : (Nat → Int32)) : SMo := (s.1, s.2.1, v, s.2.2.2.1, s.2.2.2.2.1, s.2.2.2.2.2.1, s.2.2.2.2.2.2.1, s.2.2.2.2.2.2.2.1, s.2.2.2.2.2.2.2.2.1, s.2.2.2.2.2.2.2.2.2.1, s.2.2.2.2.2.2.2.2.2.2.1, s.2.2.2.2.2.2.2.2.2.2.2.1, s.2.2.2.2.2.2.2.2.2.2.2.2.1, s.2.2.2.2.2.2.2.2.2.2.2.2.2.1, s.2.2.2.2.2.2.2.2.2.2.2.2.2.2.1, s.2.2.2.2.2.2.2.2.2.2.2.2.2.2.2.1, s.2.2.2.2.2.2.2.2.2.2.2.2.2.2.2.2.1, s.2.2.2.2.2.2.2.2.2.2.2.2.2.2.2.2.2.1, s.2.2.2.2.2.2.2.2.2.2.2.2.2.2.2.2.2.2.1, s.2.2.2.2.2.2.2.2.2.2.2.2.2.2.2.2.2.2.2.1, s.2.2.2.2.2.2.2.2.2.2.2.2.2.2.2.2.2.2.2.2.1, s.2.2.2.2.2.2.2.2.2.2.2.2.2.2.2.2.2.2.2.2.2.1, s.2.2.2.2.2.2.2.2.2.2.2.2.2.2.2.2.2.2.2.2.2.2.1, s.2.2.2.2.2.2.2.2.2.2.2.2.2.2.2.2.2.2.2.2.2.2.2.1, s.2.2.2.2.2.2.2.2.2.2.2.2.2.2.2.2.2.2.2.2.2.2.2.2.1, s.2.2.2.2.2.2.2.2.2.2.2.2.2.2.2.2.2.2.2.2.2.2.2.2.2.1, s.2.2.2.2.2.2.2.2.2.2.2.2.2.2.2.2.2.2.2.2.2.2.2.2.2.2.1, s.2.2.2.2.2.2.2.2.2.2.2.2.2.2.2.2.2.2.2.2.2.2.2.2.2.2.2.1, s.2.2.2.2.2.2.2.2.2.2.2.2.2.2.2.2.2.2.2.2.2.2.2.2.2.2.2.2.1, s.2.2.2.2.2.2.2.2.2.2.2.2.2.2.2.2.2.2.2.2.2.2.2.2.2.2.2.2.2.1, s.2.2.2.2.2.2.2.2.2.2.2.2.2.2.2.2.2.2.2.2.2.2.2.2.2.2.2.2.2.2.1, s.2.2.2.2.2.2.2.2.2.2.2.2.2.2.2.2.2.2.2.2.2.2.2.2.2.2.2.2.2.2.2)
abbrev q_Mo_size (s : SMo) : Int32 := s.2.2.2.1
abbrev u_Mo_size (s : SMo) (v : Int32) : SMo := (s.1, s.2.1, s.2.2.1, v, s.2.2.2.2.1, s.2.2.2.2.2.1, s.2.2.2.2.2.2.1, s.2.2.2.2.2.2.2.1, s.2.2.2.2.2.2.2.2.1, s.2.2.2.2.2.2.2.2.2.1, s.2.2.2.2.2.2.2.2.2.2.1, s.2.2.2.2.2.2.2.2.2.2.2.1, s.2.2.2.2.2.2.2.2.2.2.2.2.1, s.2.2.2.2.2.2.2.2.2.2.2.2.2.1, s.2.2.2.2.2.2.2.2.2.2.2.2.2.2.1, s.2.2.2.2.2.2.2.2.2.2.2.2.2.2.2.1, s.2.2.2.2.2.2.2.2.2.2.2.2.2.2.2.2.1, s.2.2.2.2.2.2.2.2.2.2.2.2.2.2.2.2.2.1, s.2.2.2.2.2.2.2.2.2.2.2.2.2.2.2.2.2.2.1, s.2.2.2.2.2.2.2.2.2.2.2.2.2.2.2.2.2.2.2.1, s.2.2.2.2.2.2.2.2.2.2.2.2.2.2.2.2.2.2.2.2.1, s.2.2.2.2.2.2.2.2.2.2.2.2.2.2.2.2.2.2.2.2.2.1, s.2.2.2.2.2.2.2.2.2.2.2.2.2.2.2.2.2.2.2.2.2.2.1, s.2.2.2.2.2.2.2.2.2.2.2.2.2.2.2.2.2.2.2.2.2.2.2.1, s.2.2.2.2.2.2.2.2.2.2.2.2.2.2.2.2.2.2.2.2.2.2.2.2.1, s.2.2.2.2.2.2.2.2.2.2.2.2.2.2.2.2.2.2.2.2.2.2.2.2.2.1, s.2.2.2.2.2.2.2.2.2.2.2.2.2.2.2.2.2.2.2.2.2.2.2.2.2.2.1, s.2.2.2.2.2.2.2.2.2.2.2.2.2.2.2.2.2.2.2.2.2.2.2.2.2.2.2.1, s.2.2.2.2.2.2.2.2.2.2.2.2.2.2.2.2.2.2.2.2.2.2.2.2.2.2.2.2.1, s.2.2.2.2.2.2.2.2.2.2.2.2.2.2.2.2.2.2.2.2.2.2.2.2.2.2.2.2.2.1, s.2.2.2.2.2.2.2.2.2.2.2.2.2.2.2.2.2.2.2.2.2.2.2.2.2.2.2.2.2.2.1, s.2.2.2.2.2.2.2.2.2.2.2.2.2.2.2.2.2.2.2.2.2.2.2.2.2.2.2.2.2.2.2)
abbrev q_Mo_bytes (s : SMo) : (Nat → Int32) := s.2.2.2.2.1
abbrev u_Mo_bytes (s : SMo) (v : (Nat → Int32)) : SMo := (s.1, s.2.1, s.2.2.1, s.2.2.2.1, v, s.2.2.2.2.2.1, s.2.2.2.2.2.2.1, s.2.2.2.2.2.2.2.1, s.2.2.2.2.2.2.2.2.1, s.2.2.2.2.2.2.2.2.2.1, s.2.2.2.2.2.2.2.2.2.2.1, s.2.2.2.2.2.2.2.2.2.2.2.1, s.2.2.2.2.2.2.2.2.2.2.2.2.1, s.2.2.2.2.2.2.2.2.2.2.2.2.2.1, s.2.2.2.2.2.2.2.2.2.2.2.2.2.2.1, s.2.2.2.2.2.2.2.2.2.2.2.2.2.2.2.1, s.2.2.2.2.2.2.2.2.2.2.2.2.2.2.2.2.1, s.2.2.2.2.2.2.2.2.2.2.2.2.2.2.2.2.2.1, s.2.2.2.2.2.2.2.2.2.2.2.2.2.2.2.2.2.2.1, s.2.2.2.2.2.2.2.2.2.2.2.2.2.2.2.2.2.2.2.1, s.2.2.2.2.2.2.2.2.2.2.2.2.2.2.2.2.2.2.2.2.1, s.2.2.2.2.2.2.2.2.2.2.2.2.2.2.2.2.2.2.2.2.2.1, s.2.2.2.2.2.2.2.2.2.2.2.2.2.2.2.2.2.2.2.2.2.2.1, s.2.2.2.2.2.2.2.2.2.2.2.2.2.2.2.2.2.2.2.2.2.2.2.1, s.2.2.2.2.2.2.2.2.2.2.2.2.2.2.2.2.2.2.2.2.2.2.2.2.1, s.2.2.2.2.2.2.2.2.2.2.2.2.2.2.2.2.2.2.2.2.2.2.2.2.2.1, s.2.2.2.2.2.2.2.2.2.2.2.2.2.2.2.2.2.2.2.2.2.2.2.2.2.2.1, s.2.2.2.2.2.2.2.2.2.2.2.2.2.2.2.2.2.2.2.2.2.2.2.2.2.2.2.1, s.2.2.2.2.2.2.2.2.2.2.2.2.2.2.2.2.2.2.2.2.2.2.2.2.2.2.2.2.1, s.2.2.2.2.2.2.2.2.2.2.2.2.2.2.2.2.2.2.2.2.2.2.2.2.2.2.2.2.2.1, s.2.2.2.2.2.2.2.2.2.2.2.2.2.2.2.2.2.2.2.2.2.2.2.2.2.2.2.2.2.2.1, s.2.2.2.2.2.2.2.2.2.2.2.2.2.2.2.2.2.2.2.2.2.2.2.2.2.2.2.2.2.2.2)
abbrev q_Mo_n (s : SMo) : Int32 := s.2.2.2.2.2.1
abbrev u_Mo_n (s : SMo) (v : Int32) : SMo := (s.1, s.2.1, s.2.2.1, s.2.2.2.1, s.2.2.2.2.1, v, s.2.2.2.2.2.2.1, s.2.2.2.2.2.2.2.1, s.2.2.2.2.2.2.2.2.1, s.2.2.2.2.2.2.2.2.2.1, s.2.2.2.2.2.2.2.2.2.2.1, s.2.2.2.2.2.2.2.2.2.2.2.1, s.2.2.2.2.2.2.2.2.2.2.2.2.1, s.2.2.2.2.2.2.2.2.2.2.2.2.2.1, s.2.2.2.2.2.2.2.2.2.2.2.2.2.2.1, s.2.2.2.2.2.2.2.2.2.2.2.2.2.2.2.1, s.2.2.2.2.2.2.2.2.2.2.2.2.2.2.2.2.1, s.2.2.2.2.2.2.2.2.2.2.2.2.2.2.2.2.2.1, s.2.2.2.2.2.2.2.2.2.2.2.2.2.2.2.2.2.2.1, s.2.2.2.2.2.2.2.2.2.2.2.2.2.2.2.2.2.2.2.1, s.2.2.2.2.2.2.2.2.2.2.2.2.2.2.2.2.2.2.2.2.1, s.2.2.2.2.2.2.2.2.2.2.2.2.2.2.2.2.2.2.2.2.2.1, s.2.2.2.2.2.2.2.2.2.2.2.2.2.2.2.2.2.2.2.2.2.2.1, s.2.2.2.2.2.2.2.2.2.2.2.2.2.2.2.2.2.2.2.2.2.2.2.1, s.2.2.2.2.2.2.2.2.2.2.2.2.2.2.2.2.2.2.2.2.2.2.2.2.1, s.2.2.2.2.2.2.2.2.2.2.2.2.2.2.2.2.2.2.2.2.2.2.2.2.2.1, s.2.2.2.2.2.2.2.2.2.2.2.2.2.2.2.2.2.2.2.2.2.2.2.2.2.2.1, s.2.2.2.2.2.2.2.2.2.2.2.2.2.2.2.2.2.2.2.2.2.2.2.2.2.2.2.1, s.2.2.2.2.2.2.2.2.2.2.2.2.2.2.2.2.2.2.2.2.2.2.2.2.2.2.2.2.1, s.2.2.2.2.2.2.2.2.2.2.2.2.2.2.2.2.2.2.2.2.2.2.2.2.2.2.2.2.2.1, s.2.2.2.2.2.2.2.2.2.2.2.2.2.2.2.2.2.2.2.2.2.2.2.2.2.2.2.2.2.2.1, s.2.2.2.2.2.2.2.2.2.2.2.2.2.2.2.2.2.2.2.2.2.2.2.2.2.2.2.2.2.2.2)
abbrev q_Mo_text (s : SMo) : (Nat → Int32) := s.2.2.2.2.2.2.1
abbrev u_Mo_text (s : SMo) (v : (Nat → Int32)) : SMo := (s.1, s.2.1, s.2.2.1, s.2.2.2.1, s.2.2.2.2.1, s.2.2.2.2.2.1, v, s.2.2.2.2.2.2.2.1, s.2.2.2.2.2.2.2.2.1, s.2.2.2.2.2.2.2.2.2.1, s.2.2.2.2.2.2.2.2.2.2.1, s.2.2.2.2.2.2.2.2.2.2.2.1, s.2.2.2.2.2.2.2.2.2.2.2.2.1, s.2.2.2.2.2.2.2.2.2.2.2.2.2.1, s.2.2.2.2.2.2.2.2.2.2.2.2.2.2.1, s.2.2.2.2.2.2.2.2.2.2.2.2.2.2.2.1, s.2.2.2.2.2.2.2.2.2.2.2.2.2.2.2.2.1, s.2.2.2.2.2.2.2.2.2.2.2.2.2.2.2.2.2.1, s.2.2.2.2.2.2.2.2.2.2.2.2.2.2.2.2.2.2.1, s.2.2.2.2.2.2.2.2.2.2.2.2.2.2.2.2.2.2.2.1, s.2.2.2.2.2.2.2.2.2.2.2.2.2.2.2.2.2.2.2.2.1, s.2.2.2.2.2.2.2.2.2.2.2.2.2.2.2.2.2.2.2.2.2.1, s.2.2.2.2.2.2.2.2.2.2.2.2.2.2.2.2.2.2.2.2.2.2.1, s.2.2.2.2.2.2.2.2.2.2.2.2.2.2.2.2.2.2.2.2.2.2.2.1, s.2.2.2.2.2.2.2.2.2.2.2.2.2.2.2.2.2.2.2.2.2.2.2.2.1, s.2.2.2.2.2.2.2.2.2.2.2.2.2.2.2.2.2.2.2.2.2.2.2.2.2.1, s.2.2.2.2.2.2.2.2.2.2.2.2.2.2.2.2.2.2.2.2.2.2.2.2.2.2.1, s.2.2.2.2.2.2.2.2.2.2.2.2.2.2.2.2.2.2.2.2.2.2.2.2.2.2.2.1, s.2.2.2.2.2.2.2.2.2.2.2.2.2.2.2.2.2.2.2.2.2.2.2.2.2.2.2.2.1, s.2.2.2.2.2.2.2.2.2.2.2.2.2.2.2.2.2.2.2.2.2.2.2.2.2.2.2.2.2.1, s.2.2.2.2.2.2.2.2.2.2.2.2.2.2.2.2.2.2.2.2.2.2.2.2.2.2.2.2.2.2.1, s.2.2.2.2.2.2.2.2.2.2.2.2.2.2.2.2.2.2.2.2.2.2.2.2.2.2.2.2.2.2.2)
abbrev q_Mo_p (s : SMo) : Int32 := s.2.2.2.2.2.2.2.1
abbrev u_Mo_p (s : SMo) (v : Int32) : SMo := (s.1, s.2.1, s.2.2.1, s.2.2.2.1, s.2.2.2.2.1, s.2.2.2.2.2.1, s.2.2.2.2.2.2.1, v, s.2.2.2.2.2.2.2.2.1, s.2.2.2.2.2.2.2.2.2.1, s.2.2.2.2.2.2.2.2.2.2.1, s.2.2.2.2.2.2.2.2.2.2.2.1, s.2.2.2.2.2.2.2.2.2.2.2.2.1, s.2.2.2.2.2.2.2.2.2.2.2.2.2.1, s.2.2.2.2.2.2.2.2.2.2.2.2.2.2.1, s.2.2.2.2.2.2.2.2.2.2.2.2.2.2.2.1, s.2.2.2.2.2.2.2.2.2.2.2.2.2.2.2.2.1, s.2.2.2.2.2.2.2.2.2.2.2.2.2.2.2.2.2.1, s.2.2.2.2.2.2.2.2.2.2.2.2.2.2.2.2.2.2.1, s.2.2.2.2.2.2.2.2.2.2.2.2.2.2.2.2.2.2.2.1, s.2.2.2.2.2.2.2.2.2.2.2.2.2.2.2.2.2.2.2.2.1, s.2.2.2.2.2.2.2.2.2.2.2.2.2.2.2.2.2.2.2.2.2.1, s.2.2.2.2.2.2.2.2.2.2.2.2.2.2.2.2.2.2.2.2.2.2.1, s.2.2.2.2.2.2.2.2.2.2.2.2.2.2.2.2.2.2.2.2.2.2.2.1, s.2.2.2.2.2.2.2.2.2.2.2.2.2.2.2.2.2.2.2.2.2.2.2.2.1, s.2.2.2.2.2.2.2.2.2.2.2.2.2.2.2.2.2.2.2.2.2.2.2.2.2.1, s.2.2.2.2.2.2.2.2.2.2.2.2.2.2.2.2.2.2.2.2.2.2.2.2.2.2.1, s.2.2.2.2.2.2.2.2.2.2.2.2.2.2.2.2.2.2.2.2.2.2.2.2.2.2.2.1, s.2.2.2.2.2.2.2.2.2.2.2.2.2.2.2.2.2.2.2.2.2.2.2.2.2.2.2.2.1, s.2.2.2.2.2.2.2.2.2.2.2.2.2.2.2.2.2.2.2.2.2.2.2.2.2.2.2.2.2.1, s.2.2.2.2.2.2.2.2.2.2.2.2.2.2.2.2.2.2.2.2.2.2.2.2.2.2.2.2.2.2.1, s.2.2.2.2.2.2.2.2.2.2.2.2.2.2.2.2.2.2.2.2.2.2.2.2.2.2.2.2.2.2.2)
abbrev q_Mo_ended (s : SMo) : Int32 := s.2.2.2.2.2.2.2.2.1
abbrev u_Mo_ended (s : SMo) (v : Int32) : SMo := (s.1, s.2.1, s.2.2.1, s.2.2.2.1, s.2.2.2.2.1, s.2.2.2.2.2.1, s.2.2.2.2.2.2.1, s.2.2.2.2.2.2.2.1, v, s.2.2.2.2.2.2.2.2.2.1, s.2.2.2.2.2.2.2.2.2.2.1, s.2.2.2.2.2.2.2.2.2.2.2.1, s.2.2.2.2.2.2.2.2.2.2.2.2.1, s.2.2.2.2.2.2.2.2.2.2.2.2.2.1, s.2.2.2.2.2.2.2.2.2.2.2.2.2.2.1, s.2.2.2.2.2.2.2.2.2.2.2.2.2.2.2.1, s.2.2.2.2.2.2.2.2.2.2.2.2.2.2.2.2.1, s.2.2.2.2.2.2.2.2.2.2.2.2.2.2.2.2.2.1, s.2.2.2.2.2.2.2.2.2.2.2.2.2.2.2.2.2.2.1, s.2.2.2.2.2.2.2.2.2.2.2.2.2.2.2.2.2.2.2.1, s.2.2.2.2.2.2.2.2.2.2.2.2.2.2.2.2.2.2.2.2.1, s.2.2.2.2.2.2.2.2.2.2.2.2.2.2.2.2.2.2.2.2.2.1, s.2.2.2.2.2.2.2.2.2.2.2.2.2.2.2.2.2.2.2.2.2.2.1, s.2.2.2.2.2.2.2.2.2.2.2.2.2.2.2.2.2.2.2.2.2.2.2.1, s.2.2.2.2.2.2.2.2.2.2.2.2.2.2.2.2.2.2.2.2.2.2.2.2.1, s.2.2.2.2.2.2.2.2.2.2.2.2.2.2.2.2.2.2.2.2.2.2.2.2.2.1, s.2.2.2.2.2.2.2.2.2.2.2.2.2.2.2.2.2.2.2.2.2.2.2.2.2.2.1, s.2.2.2.2.2.2.2.2.2.2.2.2.2.2.2.2.2.2.2.2.2.2.2.2.2.2.2.1, s.2.2.2.2.2.2.2.2.2.2.2.2.2.2.2.2.2.2.2.2.2.2.2.2.2.2.2.2.1, s.2.2.2.2.2.2.2.2.2.2.2.2.2.2.2.2.2.2.2.2.2.2.2.2.2.2.2.2.2.1, s.2.2.2.2.2.2.2.2.2.2.2.2.2.2.2.2.2.2.2.2.2.2.2.2.2.2.2.2.2.2.1, s.2.2.2.2.2.2.2.2.2.2.2.2.2.2.2.2.2.2.2.2.2.2.2.2.2.2.2.2.2.2.2)
abbrev q_Mo_tokens (s : SMo) : Int32 := s.2.2.2.2.2.2.2.2.2.1
abbrev u_Mo_tokens (s : SMo) (v : Int32) : SMo := (s.1, s.2.1, s.2.2.1, s.2.2.2.1, s.2.2.2.2.1, s.2.2.2.2.2.1, s.2.2.2.2.2.2.1, s.2.2.2.2.2.2.2.1, s.2.2.2.2.2.2.2.2.1, v, s.2.2.2.2.2.2.2.2.2.2.1, s.2.2.2.2.2.2.2.2.2.2.2.1, s.2.2.2.2.2.2.2.2.2.2.2.2.1, s.2.2.2.2.2.2.2.2.2.2.2.2.2.1, s.2.2.2.2.2.2.2.2.2.2.2.2.2.2.1, s.2.2.2.2.2.2.2.2.2.2.2.2.2.2.2.1, s.2.2.2.2.2.2.2.2.2.2.2.2.2.2.2.2.1, s.2.2.2.2.2.2.2.2.2.2.2.2.2.2.2.2.2.1, s.2.2.2.2.2.2.2.2.2.2.2.2.2.2.2.2.2.2.1, s.2.2.2.2.2.2.2.2.2.2.2.2.2.2.2.2.2.2.2.1, s.2.2.2.2.2.2.2.2.2.2.2.2.2.2.2.2.2.2.2.2.1, s.2.2.2.2.2.2.2.2.2.2.2.2.2.2.2.2.2.2.2.2.2.1, s.2.2.2.2.2.2.2.2.2.2.2.2.2.2.2.2.2.2.2.2.2.2.1, s.2.2.2.2.2.2.2.2.2.2.2.2.2.2.2.2.2.2.2.2.2.2.2.1, s.2.2.2.2.2.2.2.2.2.2.2.2.2.2.2.2.2.2.2.2.2.2.2.2.1, s.2.2.2.2.2.2.2.2.2.2.2.2.2.2.2.2.2.2.2.2.2.2.2.2.2.1, s.2.2.2.2.2.2.2.2.2.2.2.2.2.2.2.2.2.2.2.2.2.2.2.2.2.2.1, s.2.2.2.2.2.2.2.2.2.2.2.2.2.2.2.2.2.2.2.2.2.2.2.2.2.2.2.1, s.2.2.2.2.2.2.2.2.2.2.2.2.2.2.2.2.2.2.2.2.2.2.2.2.2.2.2.2.1, s.2.2.2.2.2.2.2.2.2.2.2.2.2.2.2.2.2.2.2.2.2.2.2.2.2.2.2.2.2.1, s.2.2.2.2.2.2.2.2.2.2.2.2.2.2.2.2.2.2.2.2.2.2.2.2.2.2.2.2.2.2.1, s.2.2.2.2.2.2.2.2.2.2.2.2.2.2.2.2.2.2.2.2.2.2.2.2.2.2.2.2.2.2.2)
abbrev q_Mo_kinds (s : SMo) : (Nat → Int32) := s.2.2.2.2.2.2.2.2.2.2.1
abbrev u_Mo_kinds (s : SMo) (v : (Nat → Int32)) : SMo := (s.1, s.2.1, s.2.2.1, s.2.2.2.1, s.2.2.2.2.1, s.2.2.2.2.2.1, s.2.2.2.2.2.2.1, s.2.2.2.2.2.2.2.1, s.2.2.2.2.2.2.2.2.1, s.2.2.2.2.2.2.2.2.2.1, v, s.2.2.2.2.2.2.2.2.2.2.2.1, s.2.2.2.2.2.2.2.2.2.2.2.2.1, s.2.2.2.2.2.2.2.2.2.2.2.2.2.1, s.2.2.2.2.2.2.2.2.2.2.2.2.2.2.1, s.2.2.2.2.2.2.2.2.2.2.2.2.2.2.2.1, s.2.2.2.2.2.2.2.2.2.2.2.2.2.2.2.2.1, s.2.2.2.2.2.2.2.2.2.2.2.2.2.2.2.2.2.1, s.2.2.2.2.2.2.2.2.2.2.2.2.2.2.2.2.2.2.1, s.2.2.2.2.2.2.2.2.2.2.2.2.2.2.2.2.2.2.2.1, s.2.2.2.2.2.2.2.2.2.2.2.2.2.2.2.2.2.2.2.2.1, s.2.2.2.2.2.2.2.2.2.2.2.2.2.2.2.2.2.2.2.2.2.1, s.2.2.2.2.2.2.2.2.2.2.2.2.2.2.2.2.2.2.2.2.2.2.1, s.2.2.2.2.2.2.2.2.2.2.2.2.2.2.2.2.2.2.2.2.2.2.2.1, s.2.2.2.2.2.2.2.2.2.2.2.2.2.2.2.2.2.2.2.2.2.2.2.2.1, s.2.2.2.2.2.2.2.2.2.2.2.2.2.2.2.2.2.2.2.2.2.2.2.2.2.1, s.2.2.2.2.2.2.2.2.2.2.2.2.2.2.2.2.2.2.2.2.2.2.2.2.2.2.1, s.2.2.2.2.2.2.2.2.2.2.2.2.2.2.2.2.2.2.2.2.2.2.2.2.2.2.2.1, s.2.2.2.2.2.2.2.2.2.2.2.2.2.2.2.2.2.2.2.2.2.2.2.2.2.2.2.2.1, s.2.2.2.2.2.2.2.2.2.2.2.2.2.2.2.2.2.2.2.2.2.2.2.2.2.2.2.2.2.1, s.2.2.2.2.2.2.2.2.2.2.2.2.2.2.2.2.2.2.2.2.2.2.2.2.2.2.2.2.2.2.1, s.2.2.2.2.2.2.2.2.2.2.2.2.2.2.2.2.2.2.2.2.2.2.2.2.2.2.2.2.2.2.2)
abbrev q_Mo_firsts (s : SMo) : (Nat → Int32) := s.2.2.2.2.2.2.2.2.2.2.2.1
abbrev u_Mo_firsts (s : SMo) (v : (Nat → Int32)) : SMo := (s.1, s.2.1, s.2.2.1, s.2.2.2.1, s.2.2.2.2.1, s.2.2.2.2.2.1, s.2.2.2.2.2.2.1, s.2.2.2.2.2.2.2.1, s.2.2.2.2.2.2.2.2.1, s.2.2.2.2.2.2.2.2.2.1, s.2.2.2.2.2.2.2.2.2.2.1, v, s.2.2.2.2.2.2.2.2.2.2.2.2.1, s.2.2.2.2.2.2.2.2.2.2.2.2.2.1, s.2.2.2.2.2.2.2.2.2.2.2.2.2.2.1, s.2.2.2.2.2.2.2.2.2.2.2.2.2.2.2.1, s.2.2.2.2.2.2.2.2.2.2.2.2.2.2.2.2.1, s.2.2.2.2.2.2.2.2.2.2.2.2.2.2.2.2.2.1, s.2.2.2.2.2.2.2.2.2.2.2.2.2.2.2.2.2.2.1, s.2.2.2.2.2.2.2.2.2.2.2.2.2.2.2.2.2.2.2.1, s.2.2.2.2.2.2.2.2.2.2.2.2.2.2.2.2.2.2.2.2.1, s.2.2.2.2.2.2.2.2.2.2.2.2.2.2.2.2.2.2.2.2.2.1, s.2.2.2.2.2.2.2.2.2.2.2.2.2.2.2.2.2.2.2.2.2.2.1, s.2.2.2.2.2.2.2.2.2.2.2.2.2.2.2.2.2.2.2.2.2.2.2.1, s.2.2.2.2.2.2.2.2.2.2.2.2.2.2.2.2.2.2.2.2.2.2.2.2.1, s.2.2.2.2.2.2.2.2.2.2.2.2.2.2.2.2.2.2.2.2.2.2.2.2.2.1, s.2.2.2.2.2.2.2.2.2.2.2.2.2.2.2.2.2.2.2.2.2.2.2.2.2.2.1, s.2.2.2.2.2.2.2.2.2.2.2.2.2.2.2.2.2.2.2.2.2.2.2.2.2.2.2.1, s.2.2.2.2.2.2.2.2.2.2.2.2.2.2.2.2.2.2.2.2.2.2.2.2.2.2.2.2.1, s.2.2.2.2.2.2.2.2.2.2.2.2.2.2.2.2.2.2.2.2.2.2.2.2.2.2.2.2.2.1, s.2.2.2.2.2.2.2.2.2.2.2.2.2.2.2.2.2.2.2.2.2.2.2.2.2.2.2.2.2.2.1, s.2.2.2.2.2.2.2.2.2.2.2.2.2.2.2.2.2.2.2.2.2.2.2.2.2.2.2.2.2.2.2)
abbrev q_Mo_sizes (s : SMo) : (Nat → Int32) := s.2.2.2.2.2.2.2.2.2.2.2.2.1
abbrev u_Mo_sizes (s : SMo) (v : (Nat → Int32)) : SMo := (s.1, s.2.1, s.2.2.1, s.2.2.2.1, s.2.2.2.2.1, s.2.2.2.2.2.1, s.2.2.2.2.2.2.1, s.2.2.2.2.2.2.2.1, s.2.2.2.2.2.2.2.2.1, s.2.2.2.2.2.2.2.2.2.1, s.2.2.2.2.2.2.2.2.2.2.1, s.2.2.2.2.2.2.2.2.2.2.2.1, v, s.2.2.2.2.2.2.2.2.2.2.2.2.2.1, s.2.2.2.2.2.2.2.2.2.2.2.2.2.2.1, s.2.2.2.2.2.2.2.2.2.2.2.2.2.2.2.1, s.2.2.2.2.2.2.2.2.2.2.2.2.2.2.2.2.1, s.2.2.2.2.2.2.2.2.2.2.2.2.2.2.2.2.2.1, s.2.2.2.2.2.2.2.2.2.2.2.2.2.2.2.2.2.2.1, s.2.2.2.2.2.2.2.2.2.2.2.2.2.2.2.2.2.2.2.1, s.2.2.2.2.2.2.2.2.2.2.2.2.2.2.2.2.2.2.2.2.1, s.2.2.2.2.2.2.2.2.2.2.2.2.2.2.2.2.2.2.2.2.2.1, s.2.2.2.2.2.2.2.2.2.2.2.2.2.2.2.2.2.2.2.2.2.2.1, s.2.2.2.2.2.2.2.2.2.2.2.2.2.2.2.2.2.2.2.2.2.2.2.1, s.2.2.2.2.2.2.2.2.2.2.2.2.2.2.2.2.2.2.2.2.2.2.2.2.1, s.2.2.2.2.2.2.2.2.2.2.2.2.2.2.2.2.2.2.2.2.2.2.2.2.2.1, s.2.2.2.2.2.2.2.2.2.2.2.2.2.2.2.2.2.2.2.2.2.2.2.2.2.2.1, s.2.2.2.2.2.2.2.2.2.2.2.2.2.2.2.2.2.2.2.2.2.2.2.2.2.2.2.1, s.2.2.2.2.2.2.2.2.2.2.2.2.2.2.2.2.2.2.2.2.2.2.2.2.2.2.2.2.1, s.2.2.2.2.2.2.2.2.2.2.2.2.2.2.2.2.2.2.2.2.2.2.2.2.2.2.2.2.2.1, s.2.2.2.2.2.2.2.2.2.2.2.2.2.2.2.2.2.2.2.2.2.2.2.2.2.2.2.2.2.2.1, s.2.2.2.2.2.2.2.2.2.2.2.2.2.2.2.2.2.2.2.2.2.2.2.2.2.2.2.2.2.2.2)
abbrev q_Mo_marks (s : SMo) : (Nat → Int32) := s.2.2.2.2.2.2.2.2.2.2.2.2.2.1
abbrev u_Mo_marks (s : SMo) (v : (Nat → Int32)) : SMo := (s.1, s.2.1, s.2.2.1, s.2.2.2.1, s.2.2.2.2.1, s.2.2.2.2.2.1, s.2.2.2.2.2.2.1, s.2.2.2.2.2.2.2.1, s.2.2.2.2.2.2.2.2.1, s.2.2.2.2.2.2.2.2.2.1, s.2.2.2.2.2.2.2.2.2.2.1, s.2.2.2.2.2.2.2.2.2.2.2.1, s.2.2.2.2.2.2.2.2.2.2.2.2.1, v, s.2.2.2.2.2.2.2.2.2.2.2.2.2.2.1, s.2.2.2.2.2.2.2.2.2.2.2.2.2.2.2.1, s.2.2.2.2.2.2.2.2.2.2.2.2.2.2.2.2.1, s.2.2.2.2.2.2.2.2.2.2.2.2.2.2.2.2.2.1, s.2.2.2.2.2.2.2.2.2.2.2.2.2.2.2.2.2.2.1, s.2.2.2.2.2.2.2.2.2.2.2.2.2.2.2.2.2.2.2.1, s.2.2.2.2.2.2.2.2.2.2.2.2.2.2.2.2.2.2.2.2.1, s.2.2.2.2.2.2.2.2.2.2.2.2.2.2.2.2.2.2.2.2.2.1, s.2.2.2.2.2.2.2.2.2.2.2.2.2.2.2.2.2.2.2.2.2.2.1, s.2.2.2.2.2.2.2.2.2.2.2.2.2.2.2.2.2.2.2.2.2.2.2.1, s.2.2.2.2.2.2.2.2.2.2.2.2.2.2.2.2.2.2.2.2.2.2.2.2.1, s.2.2.2.2.2.2.2.2.2.2.2.2.2.2.2.2.2.2.2.2.2.2.2.2.2.1, s.2.2.2.2.2.2.2.2.2.2.2.2.2.2.2.2.2.2.2.2.2.2.2.2.2.2.1, s.2.2.2.2.2.2.2.2.2.2.2.2.2.2.2.2.2.2.2.2.2.2.2.2.2.2.2.1, s.2.2.2.2.2.2.2.2.2.2.2.2.2.2.2.2.2.2.2.2.2.2.2.2.2.2.2.2.1, s.2.2.2.2.2.2.2.2.2.2.2.2.2.2.2.2.2.2.2.2.2.2.2.2.2.2.2.2.2.1, s.2.2.2.2.2.2.2.2.2.2.2.2.2.2.2.2.2.2.2.2.2.2.2.2.2.2.2.2.2.2.1, s.2.2.2.2.2.2.2.2.2.2.2.2.2.2.2.2.2.2.2.2.2.2.2.2.2.2.2.2.2.2.2)
abbrev q_Mo_attributes (s : SMo) : (Nat → Int32) := s.2.2.2.2.2.2.2.2.2.2.2.2.2.2.1
abbrev u_Mo_attributes (s : SMo) (v : (Nat → Int32)) : SMo := (s.1, s.2.1, s.2.2.1, s.2.2.2.1, s.2.2.2.2.1, s.2.2.2.2.2.1, s.2.2.2.2.2.2.1, s.2.2.2.2.2.2.2.1, s.2.2.2.2.2.2.2.2.1, s.2.2.2.2.2.2.2.2.2.1, s.2.2.2.2.2.2.2.2.2.2.1, s.2.2.2.2.2.2.2.2.2.2.2.1, s.2.2.2.2.2.2.2.2.2.2.2.2.1, s.2.2.2.2.2.2.2.2.2.2.2.2.2.1, v, s.2.2.2.2.2.2.2.2.2.2.2.2.2.2.2.1, s.2.2.2.2.2.2.2.2.2.2.2.2.2.2.2.2.1, s.2.2.2.2.2.2.2.2.2.2.2.2.2.2.2.2.2.1, s.2.2.2.2.2.2.2.2.2.2.2.2.2.2.2.2.2.2.1, s.2.2.2.2.2.2.2.2.2.2.2.2.2.2.2.2.2.2.2.1, s.2.2.2.2.2.2.2.2.2.2.2.2.2.2.2.2.2.2.2.2.1, s.2.2.2.2.2.2.2.2.2.2.2.2.2.2.2.2.2.2.2.2.2.1, s.2.2.2.2.2.2.2.2.2.2.2.2.2.2.2.2.2.2.2.2.2.2.1, s.2.2.2.2.2.2.2.2.2.2.2.2.2.2.2.2.2.2.2.2.2.2.2.1, s.2.2.2.2.2.2.2.2.2.2.2.2.2.2.2.2.2.2.2.2.2.2.2.2.1, s.2.2.2.2.2.2.2.2.2.2.2.2.2.2.2.2.2.2.2.2.2.2.2.2.2.1, s.2.2.2.2.2.2.2.2.2.2.2.2.2.2.2.2.2.2.2.2.2.2.2.2.2.2.1, s.2.2.2.2.2.2.2.2.2.2.2.2.2.2.2.2.2.2.2.2.2.2.2.2.2.2.2.1, s.2.2.2.2.2.2.2.2.2.2.2.2.2.2.2.2.2.2.2.2.2.2.2.2.2.2.2.2.1, s.2.2.2.2.2.2.2.2.2.2.2.2.2.2.2.2.2.2.2.2.2.2.2.2.2.2.2.2.2.1, s.2.2.2.2.2.2.2.2.2.2.2.2.2.2.2.2.2.2.2.2.2.2.2.2.2.2.2.2.2.2.1, s.2.2.2.2.2.2.2.2.2.2.2.2.2.2.2.2.2.2.2.2.2.2.2.2.2.2.2.2.2.2.2)
abbrev q_Mo_manyOf (s : SMo) : (Nat → Int32) := s.2.2.2.2.2.2.2.2.2.2.2.2.2.2.2.1
abbrev u_Mo_manyOf (s : SMo) (v : (Nat → Int32)) : SMo := (s.1, s.2.1, s.2.2.1, s.2.2.2.1, s.2.2.2.2.1, s.2.2.2.2.2.1, s.2.2.2.2.2.2.1, s.2.2.2.2.2.2.2.1, s.2.2.2.2.2.2.2.2.1, s.2.2.2.2.2.2.2.2.2.1, s.2.2.2.2.2.2.2.2.2.2.1, s.2.2.2.2.2.2.2.2.2.2.2.1, s.2.2.2.2.2.2.2.2.2.2.2.2.1, s.2.2.2.2.2.2.2.2.2.2.2.2.2.1, s.2.2.2.2.2.2.2.2.2.2.2.2.2.2.1, v, s.2.2.2.2.2.2.2.2.2.2.2.2.2.2.2.2.1, s.2.2.2.2.2.2.2.2.2.2.2.2.2.2.2.2.2.1, s.2.2.2.2.2.2.2.2.2.2.2.2.2.2.2.2.2.2.1, s.2.2.2.2.2.2.2.2.2.2.2.2.2.2.2.2.2.2.2.1, s.2.2.2.2.2.2.2.2.2.2.2.2.2.2.2.2.2.2.2.2.1, s.2.2.2.2.2.2.2.2.2.2.2.2.2.2.2.2.2.2.2.2.2.1, s.2.2.2.2.2.2.2.2.2.2.2.2.2.2.2.2.2.2.2.2.2.2.1, s.2.2.2.2.2.2.2.2.2.2.2.2.2.2.2.2.2.2.2.2.2.2.2.1, s.2.2.2.2.2.2.2.2.2.2.2.2.2.2.2.2.2.2.2.2.2.2.2.2.1, s.2.2.2.2.2.2.2.2.2.2.2.2.2.2.2.2.2.2.2.2.2.2.2.2.2.1, s.2.2.2.2.2.2.2.2.2.2.2.2.2.2.2.2.2.2.2.2.2.2.2.2.2.2.1, s.2.2.2.2.2.2.2.2.2.2.2.2.2.2.2.2.2.2.2.2.2.2.2.2.2.2.2.1, s.2.2.2.2.2.2.2.2.2.2.2.2.2.2.2.2.2.2.2.2.2.2.2.2.2.2.2.2.1, s.2.2.2.2.2.2.2.2.2.2.2.2.2.2.2.2.2.2.2.2.2.2.2.2.2.2.2.2.2.1, s.2.2.2.2.2.2.2.2.2.2.2.2.2.2.2.2.2.2.2.2.2.2.2.2.2.2.2.2.2.2.1, s.2.2.2.2.2.2.2.2.2.2.2.2.2.2.2.2.2.2.2.2.2.2.2.2.2.2.2.2.2.2.2)
abbrev q_Mo_attributeCount (s : SMo) : Int32 := s.2.2.2.2.2.2.2.2.2.2.2.2.2.2.2.2.1
abbrev u_Mo_attributeCount (s : SMo) (v : Int32) : SMo := (s.1, s.2.1, s.2.2.1, s.2.2.2.1, s.2.2.2.2.1, s.2.2.2.2.2.1, s.2.2.2.2.2.2.1, s.2.2.2.2.2.2.2.1, s.2.2.2.2.2.2.2.2.1, s.2.2.2.2.2.2.2.2.2.1, s.2.2.2.2.2.2.2.2.2.2.1, s.2.2.2.2.2.2.2.2.2.2.2.1, s.2.2.2.2.2.2.2.2.2.2.2.2.1, s.2.2.2.2.2.2.2.2.2.2.2.2.2.1, s.2.2.2.2.2.2.2.2.2.2.2.2.2.2.1, s.2.2.2.2.2.2.2.2.2.2.2.2.2.2.2.1, v, s.2.2.2.2.2.2.2.2.2.2.2.2.2.2.2.2.2.1, s.2.2.2.2.2.2.2.2.2.2.2.2.2.2.2.2.2.2.1, s.2.2.2.2.2.2.2.2.2.2.2.2.2.2.2.2.2.2.2.1, s.2.2.2.2.2.2.2.2.2.2.2.2.2.2.2.2.2.2.2.2.1, s.2.2.2.2.2.2.2.2.2.2.2.2.2.2.2.2.2.2.2.2.2.1, s.2.2.2.2.2.2.2.2.2.2.2.2.2.2.2.2.2.2.2.2.2.2.1, s.2.2.2.2.2.2.2.2.2.2.2.2.2.2.2.2.2.2.2.2.2.2.2.1, s.2.2.2.2.2.2.2.2.2.2.2.2.2.2.2.2.2.2.2.2.2.2.2.2.1, s.2.2.2.2.2.2.2.2.2.2.2.2.2.2.2.2.2.2.2.2.2.2.2.2.2.1, s.2.2.2.2.2.2.2.2.2.2.2.2.2.2.2.2.2.2.2.2.2.2.2.2.2.2.1, s.2.2.2.2.2.2.2.2.2.2.2.2.2.2.2.2.2.2.2.2.2.2.2.2.2.2.2.1, s.2.2.2.2.2.2.2.2.2.2.2.2.2.2.2.2.2.2.2.2.2.2.2.2.2.2.2.2.1, s.2.2.2.2.2.2.2.2.2.2.2.2.2.2.2.2.2.2.2.2.2.2.2.2.2.2.2.2.2.1, s.2.2.2.2.2.2.2.2.2.2.2.2.2.2.2.2.2.2.2.2.2.2.2.2.2.2.2.2.2.2.1, s.2.2.2.2.2.2.2.2.2.2.2.2.2.2.2.2.2.2.2.2.2.2.2.2.2.2.2.2.2.2.2)
abbrev q_Mo_nameAt (s : SMo) : (Nat → Int32) := s.2.2.2.2.2.2.2.2.2.2.2.2.2.2.2.2.2.1
abbrev u_Mo_nameAt (s : SMo) (v : (Nat → Int32)) : SMo := (s.1, s.2.1, s.2.2.1, s.2.2.2.1, s.2.2.2.2.1, s.2.2.2.2.2.1, s.2.2.2.2.2.2.1, s.2.2.2.2.2.2.2.1, s.2.2.2.2.2.2.2.2.1, s.2.2.2.2.2.2.2.2.2.1, s.2.2.2.2.2.2.2.2.2.2.1, s.2.2.2.2.2.2.2.2.2.2.2.1, s.2.2.2.2.2.2.2.2.2.2.2.2.1, s.2.2.2.2.2.2.2.2.2.2.2.2.2.1, s.2.2.2.2.2.2.2.2.2.2.2.2.2.2.1, s.2.2.2.2.2.2.2.2.2.2.2.2.2.2.2.1, s.2.2.2.2.2.2.2.2.2.2.2.2.2.2.2.2.1, v, s.2.2.2.2.2.2.2.2.2.2.2.2.2.2.2.2.2.2.1, s.2.2.2.2.2.2.2.2.2.2.2.2.2.2.2.2.2.2.2.1, s.2.2.2.2.2.2.2.2.2.2.2.2.2.2.2.2.2.2.2.2.1, s.2.2.2.2.2.2.2.2.2.2.2.2.2.2.2.2.2.2.2.2.2.1, s.2.2.2.2.2.2.2.2.2.2.2.2.2.2.2.2.2.2.2.2.2.2.1, s.2.2.2.2.2.2.2.2.2.2.2.2.2.2.2.2.2.2.2.2.2.2.2.1, s.2.2.2.2.2.2.2.2.2.2.2.2.2.2.2.2.2.2.2.2.2.2.2.2.1, s.2.2.2.2.2.2.2.2.2.2.2.2.2.2.2.2.2.2.2.2.2.2.2.2.2.1, s.2.2.2.2.2.2.2.2.2.2.2.2.2.2.2.2.2.2.2.2.2.2.2.2.2.2.1, s.2.2.2.2.2.2.2.2.2.2.2.2.2.2.2.2.2.2.2.2.2.2.2.2.2.2.2.1, s.2.2.2.2.2.2.2.2.2.2.2.2.2.2.2.2.2.2.2.2.2.2.2.2.2.2.2.2.1, s.2.2.2.2.2.2.2.2.2.2.2.2.2.2.2.2.2.2.2.2.2.2.2.2.2.2.2.2.2.1, s.2.2.2.2.2.2.2.2.2.2.2.2.2.2.2.2.2.2.2.2.2.2.2.2.2.2.2.2.2.2.1, s.2.2.2.2.2.2.2.2.2.2.2.2.2.2.2.2.2.2.2.2.2.2.2.2.2.2.2.2.2.2.2)
abbrev q_Mo_nameSize (s : SMo) : (Nat → Int32) := s.2.2.2.2.2.2.2.2.2.2.2.2.2.2.2.2.2.2.1
abbrev u_Mo_nameSize (s : SMo) (v : (Nat → Int32)) : SMo := (s.1, s.2.1, s.2.2.1, s.2.2.2.1, s.2.2.2.2.1, s.2.2.2.2.2.1, s.2.2.2.2.2.2.1, s.2.2.2.2.2.2.2.1, s.2.2.2.2.2.2.2.2.1, s.2.2.2.2.2.2.2.2.2.1, s.2.2.2.2.2.2.2.2.2.2.1, s.2.2.2.2.2.2.2.2.2.2.2.1, s.2.2.2.2.2.2.2.2.2.2.2.2.1, s.2.2.2.2.2.2.2.2.2.2.2.2.2.1, s.2.2.2.2.2.2.2.2.2.2.2.2.2.2.1, s.2.2.2.2.2.2.2.2.2.2.2.2.2.2.2.1, s.2.2.2.2.2.2.2.2.2.2.2.2.2.2.2.2.1, s.2.2.2.2.2.2.2.2.2.2.2.2.2.2.2.2.2.1, v, s.2.2.2.2.2.2.2.2.2.2.2.2.2.2.2.2.2.2.2.1, s.2.2.2.2.2.2.2.2.2.2.2.2.2.2.2.2.2.2.2.2.1, s.2.2.2.2.2.2.2.2.2.2.2.2.2.2.2.2.2.2.2.2.2.1, s.2.2.2.2.2.2.2.2.2.2.2.2.2.2.2.2.2.2.2.2.2.2.1, s.2.2.2.2.2.2.2.2.2.2.2.2.2.2.2.2.2.2.2.2.2.2.2.1, s.2.2.2.2.2.2.2.2.2.2.2.2.2.2.2.2.2.2.2.2.2.2.2.2.1, s.2.2.2.2.2.2.2.2.2.2.2.2.2.2.2.2.2.2.2.2.2.2.2.2.2.1, s.2.2.2.2.2.2.2.2.2.2.2.2.2.2.2.2.2.2.2.2.2.2.2.2.2.2.1, s.2.2.2.2.2.2.2.2.2.2.2.2.2.2.2.2.2.2.2.2.2.2.2.2.2.2.2.1, s.2.2.2.2.2.2.2.2.2.2.2.2.2.2.2.2.2.2.2.2.2.2.2.2.2.2.2.2.1, s.2.2.2.2.2.2.2.2.2.2.2.2.2.2.2.2.2.2.2.2.2.2.2.2.2.2.2.2.2.1, s.2.2.2.2.2.2.2.2.2.2.2.2.2.2.2.2.2.2.2.2.2.2.2.2.2.2.2.2.2.2.1, s.2.2.2.2.2.2.2.2.2.2.2.2.2.2.2.2.2.2.2.2.2.2.2.2.2.2.2.2.2.2.2)
abbrev q_Mo_valueAt (s : SMo) : (Nat → Int32) := s.2.2.2.2.2.2.2.2.2.2.2.2.2.2.2.2.2.2.2.1
abbrev u_Mo_valueAt (s : SMo) (v : (Nat → Int32)) : SMo := (s.1, s.2.1, s.2.2.1, s.2.2.2.1, s.2.2.2.2.1, s.2.2.2.2.2.1, s.2.2.2.2.2.2.1, s.2.2.2.2.2.2.2.1, s.2.2.2.2.2.2.2.2.1, s.2.2.2.2.2.2.2.2.2.1, s.2.2.2.2.2.2.2.2.2.2.1, s.2.2.2.2.2.2.2.2.2.2.2.1, s.2.2.2.2.2.2.2.2.2.2.2.2.1, s.2.2.2.2.2.2.2.2.2.2.2.2.2.1, s.2.2.2.2.2.2.2.2.2.2.2.2.2.2.1, s.2.2.2.2.2.2.2.2.2.2.2.2.2.2.2.1, s.2.2.2.2.2.2.2.2.2.2.2.2.2.2.2.2.1, s.2.2.2.2.2.2.2.2.2.2.2.2.2.2.2.2.2.1, s.2.2.2.2.2.2.2.2.2.2.2.2.2.2.2.2.2.2.1, v, s.2.2.2.2.2.2.2.2.2.2.2.2.2.2.2.2.2.2.2.2.1, s.2.2.2.2.2.2.2.2.2.2.2.2.2.2.2.2.2.2.2.2.2.1, s.2.2.2.2.2.2.2.2.2.2.2.2.2.2.2.2.2.2.2.2.2.2.1, s.2.2.2.2.2.2.2.2.2.2.2.2.2.2.2.2.2.2.2.2.2.2.2.1, s.2.2.2.2.2.2.2.2.2.2.2.2.2.2.2.2.2.2.2.2.2.2.2.2.1, s.2.2.2.2.2.2.2.2.2.2.2.2.2.2.2.2.2.2.2.2.2.2.2.2.2.1, s.2.2.2.2.2.2.2.2.2.2.2.2.2.2.2.2.2.2.2.2.2.2.2.2.2.2.1, s.2.2.2.2.2.2.2.2.2.2.2.2.2.2.2.2.2.2.2.2.2.2.2.2.2.2.2.1, s.2.2.2.2.2.2.2.2.2.2.2.2.2.2.2.2.2.2.2.2.2.2.2.2.2.2.2.2.1, s.2.2.2.2.2.2.2.2.2.2.2.2.2.2.2.2.2.2.2.2.2.2.2.2.2.2.2.2.2.1, s.2.2.2.2.2.2.2.2.2.2.2.2.2.2.2.2.2.2.2.2.2.2.2.2.2.2.2.2.2.2.1, s.2.2.2.2.2.2.2.2.2.2.2.2.2.2.2.2.2.2.2.2.2.2.2.2.2.2.2.2.2.2.2)
abbrev q_Mo_valueSize (s : SMo) : (Nat → Int32) := s.2.2.2.2.2.2.2.2.2.2.2.2.2.2.2.2.2.2.2.2.1
abbrev u_Mo_valueSize (s : SMo) (v : (Nat → Int32)) : SMo := (s.1, s.2.1, s.2.2.1, s.2.2.2.1, s.2.2.2.2.1, s.2.2.2.2.2.1, s.2.2.2.2.2.2.1, s.2.2.2.2.2.2.2.1, s.2.2.2.2.2.2.2.2.1, s.2.2.2.2.2.2.2.2.2.1, s.2.2.2.2.2.2.2.2.2.2.1, s.2.2.2.2.2.2.2.2.2.2.2.1, s.2.2.2.2.2.2.2.2.2.2.2.2.1, s.2.2.2.2.2.2.2.2.2.2.2.2.2.1, s.2.2.2.2.2.2.2.2.2.2.2.2.2.2.1, s.2.2.2.2.2.2.2.2.2.2.2.2.2.2.2.1, s.2.2.2.2.2.2.2.2.2.2.2.2.2.2.2.2.1, s.2.2.2.2.2.2.2.2.2.2.2.2.2.2.2.2.2.1, s.2.2.2.2.2.2.2.2.2.2.2.2.2.2.2.2.2.2.1, s.2.2.2.2.2.2.2.2.2.2.2.2.2.2.2.2.2.2.2.1, v, s.2.2.2.2.2.2.2.2.2.2.2.2.2.2.2.2.2.2.2.2.2.1, s.2.2.2.2.2.2.2.2.2.2.2.2.2.2.2.2.2.2.2.2.2.2.1, s.2.2.2.2.2.2.2.2.2.2.2.2.2.2.2.2.2.2.2.2.2.2.2.1, s.2.2.2.2.2.2.2.2.2.2.2.2.2.2.2.2.2.2.2.2.2.2.2.2.1, s.2.2.2.2.2.2.2.2.2.2.2.2.2.2.2.2.2.2.2.2.2.2.2.2.2.1, s.2.2.2.2.2.2.2.2.2.2.2.2.2.2.2.2.2.2.2.2.2.2.2.2.2.2.1, s.2.2.2.2.2.2.2.2.2.2.2.2.2.2.2.2.2.2.2.2.2.2.2.2.2.2.2.1, s.2.2.2.2.2.2.2.2.2.2.2.2.2.2.2.2.2.2.2.2.2.2.2.2.2.2.2.2.1, s.2.2.2.2.2.2.2.2.2.2.2.2.2.2.2.2.2.2.2.2.2.2.2.2.2.2.2.2.2.1, s.2.2.2.2.2.2.2.2.2.2.2.2.2.2.2.2.2.2.2.2.2.2.2.2.2.2.2.2.2.2.1, s.2.2.2.2.2.2.2.2.2.2.2.2.2.2.2.2.2.2.2.2.2.2.2.2.2.2.2.2.2.2.2)
abbrev q_Mo_goes (s : SMo) : (Nat → Int32) := s.2.2.2.2.2.2.2.2.2.2.2.2.2.2.2.2.2.2.2.2.2.1
abbrev u_Mo_goes (s : SMo) (v : (Nat → Int32)) : SMo := (s.1, s.2.1, s.2.2.1, s.2.2.2.1, s.2.2.2.2.1, s.2.2.2.2.2.1, s.2.2.2.2.2.2.1, s.2.2.2.2.2.2.2.1, s.2.2.2.2.2.2.2.2.1, s.2.2.2.2.2.2.2.2.2.1, s.2.2.2.2.2.2.2.2.2.2.1, s.2.2.2.2.2.2.2.2.2.2.2.1, s.2.2.2.2.2.2.2.2.2.2.2.2.1, s.2.2.2.2.2.2.2.2.2.2.2.2.2.1, s.2.2.2.2.2.2.2.2.2.2.2.2.2.2.1, s.2.2.2.2.2.2.2.2.2.2.2.2.2.2.2.1, s.2.2.2.2.2.2.2.2.2.2.2.2.2.2.2.2.1, s.2.2.2.2.2.2.2.2.2.2.2.2.2.2.2.2.2.1, s.2.2.2.2.2.2.2.2.2.2.2.2.2.2.2.2.2.2.1, s.2.2.2.2.2.2.2.2.2.2.2.2.2.2.2.2.2.2.2.1, s.2.2.2.2.2.2.2.2.2.2.2.2.2.2.2.2.2.2.2.2.1, v, s.2.2.2.2.2.2.2.2.2.2.2.2.2.2.2.2.2.2.2.2.2.2.1, s.2.2.2.2.2.2.2.2.2.2.2.2.2.2.2.2.2.2.2.2.2.2.2.1, s.2.2.2.2.2.2.2.2.2.2.2.2.2.2.2.2.2.2.2.2.2.2.2.2.1, s.2.2.2.2.2.2.2.2.2.2.2.2.2.2.2.2.2.2.2.2.2.2.2.2.2.1, s.2.2.2.2.2.2.2.2.2.2.2.2.2.2.2.2.2.2.2.2.2.2.2.2.2.2.1, s.2.2.2.2.2.2.2.2.2.2.2.2.2.2.2.2.2.2.2.2.2.2.2.2.2.2.2.1, s.2.2.2.2.2.2.2.2.2.2.2.2.2.2.2.2.2.2.2.2.2.2.2.2.2.2.2.2.1, s.2.2.2.2.2.2.2.2.2.2.2.2.2.2.2.2.2.2.2.2.2.2.2.2.2.2.2.2.2.1, s.2.2.2.2.2.2.2.2.2.2.2.2.2.2.2.2.2.2.2.2.2.2.2.2.2.2.2.2.2.2.1, s.2.2.2.2.2.2.2.2.2.2.2.2.2.2.2.2.2.2.2.2.2.2.2.2.2.2.2.2.2.2.2)
abbrev q_Mo_rowSize (s : SMo) : Int32 := s.2.2.2.2.2.2.2.2.2.2.2.2.2.2.2.2.2.2.2.2.2.2.1
abbrev u_Mo_rowSize (s : SMo) (v : Int32) : SMo := (s.1, s.2.1, s.2.2.1, s.2.2.2.1, s.2.2.2.2.1, s.2.2.2.2.2.1, s.2.2.2.2.2.2.1, s.2.2.2.2.2.2.2.1, s.2.2.2.2.2.2.2.2.1, s.2.2.2.2.2.2.2.2.2.1, s.2.2.2.2.2.2.2.2.2.2.1, s.2.2.2.2.2.2.2.2.2.2.2.1, s.2.2.2.2.2.2.2.2.2.2.2.2.1, s.2.2.2.2.2.2.2.2.2.2.2.2.2.1, s.2.2.2.2.2.2.2.2.2.2.2.2.2.2.1, s.2.2.2.2.2.2.2.2.2.2.2.2.2.2.2.1, s.2.2.2.2.2.2.2.2.2.2.2.2.2.2.2.2.1, s.2.2.2.2.2.2.2.2.2.2.2.2.2.2.2.2.2.1, s.2.2.2.2.2.2.2.2.2.2.2.2.2.2.2.2.2.2.1, s.2.2.2.2.2.2.2.2.2.2.2.2.2.2.2.2.2.2.2.1, s.2.2.2.2.2.2.2.2.2.2.2.2.2.2.2.2.2.2.2.2.1, s.2.2.2.2.2.2.2.2.2.2.2.2.2.2.2.2.2.2.2.2.2.1, v, s.2.2.2.2.2.2.2.2.2.2.2.2.2.2.2.2.2.2.2.2.2.2.2.1, s.2.2.2.2.2.2.2.2.2.2.2.2.2.2.2.2.2.2.2.2.2.2.2.2.1, s.2.2.2.2.2.2.2.2.2.2.2.2.2.2.2.2.2.2.2.2.2.2.2.2.2.1, s.2.2.2.2.2.2.2.2.2.2.2.2.2.2.2.2.2.2.2.2.2.2.2.2.2.2.1, s.2.2.2.2.2.2.2.2.2.2.2.2.2.2.2.2.2.2.2.2.2.2.2.2.2.2.2.1, s.2.2.2.2.2.2.2.2.2.2.2.2.2.2.2.2.2.2.2.2.2.2.2.2.2.2.2.2.1, s.2.2.2.2.2.2.2.2.2.2.2.2.2.2.2.2.2.2.2.2.2.2.2.2.2.2.2.2.2.1, s.2.2.2.2.2.2.2.2.2.2.2.2.2.2.2.2.2.2.2.2.2.2.2.2.2.2.2.2.2.2.1, s.2.2.2.2.2.2.2.2.2.2.2.2.2.2.2.2.2.2.2.2.2.2.2.2.2.2.2.2.2.2.2)
abbrev q_Mo_row (s : SMo) : (Nat → Int32) := s.2.2.2.2.2.2.2.2.2.2.2.2.2.2.2.2.2.2.2.2.2.2.2.1
abbrev u_Mo_row (s : SMo) (v : (Nat → Int32)) : SMo := (s.1, s.2.1, s.2.2.1, s.2.2.2.1, s.2.2.2.2.1, s.2.2.2.2.2.1, s.2.2.2.2.2.2.1, s.2.2.2.2.2.2.2.1, s.2.2.2.2.2.2.2.2.1, s.2.2.2.2.2.2.2.2.2.1, s.2.2.2.2.2.2.2.2.2.2.1, s.2.2.2.2.2.2.2.2.2.2.2.1, s.2.2.2.2.2.2.2.2.2.2.2.2.1, s.2.2.2.2.2.2.2.2.2.2.2.2.2.1, s.2.2.2.2.2.2.2.2.2.2.2.2.2.2.1, s.2.2.2.2.2.2.2.2.2.2.2.2.2.2.2.1, s.2.2.2.2.2.2.2.2.2.2.2.2.2.2.2.2.1, s.2.2.2.2.2.2.2.2.2.2.2.2.2.2.2.2.2.1, s.2.2.2.2.2.2.2.2.2.2.2.2.2.2.2.2.2.2.1, s.2.2.2.2.2.2.2.2.2.2.2.2.2.2.2.2.2.2.2.1, s.2.2.2.2.2.2.2.2.2.2.2.2.2.2.2.2.2.2.2.2.1, s.2.2.2.2.2.2.2.2.2.2.2.2.2.2.2.2.2.2.2.2.2.1, s.2.2.2.2.2.2.2.2.2.2.2.2.2.2.2.2.2.2.2.2.2.2.1, v, s.2.2.2.2.2.2.2.2.2.2.2.2.2.2.2.2.2.2.2.2.2.2.2.2.1, s.2.2.2.2.2.2.2.2.2.2.2.2.2.2.2.2.2.2.2.2.2.2.2.2.2.1, s.2.2.2.2.2.2.2.2.2.2.2.2.2.2.2.2.2.2.2.2.2.2.2.2.2.2.1, s.2.2.2.2.2.2.2.2.2.2.2.2.2.2.2.2.2.2.2.2.2.2.2.2.2.2.2.1, s.2.2.2.2.2.2.2.2.2.2.2.2.2.2.2.2.2.2.2.2.2.2.2.2.2.2.2.2.1, s.2.2.2.2.2.2.2.2.2.2.2.2.2.2.2.2.2.2.2.2.2.2.2.2.2.2.2.2.2.1, s.2.2.2.2.2.2.2.2.2.2.2.2.2.2.2.2.2.2.2.2.2.2.2.2.2.2.2.2.2.2.1, s.2.2.2.2.2.2.2.2.2.2.2.2.2.2.2.2.2.2.2.2.2.2.2.2.2.2.2.2.2.2.2)
abbrev q_Mo_textAt (s : SMo) : Int32 := s.2.2.2.2.2.2.2.2.2.2.2.2.2.2.2.2.2.2.2.2.2.2.2.2.1
abbrev u_Mo_textAt (s : SMo) (v : Int32) : SMo := (s.1, s.2.1, s.2.2.1, s.2.2.2.1, s.2.2.2.2.1, s.2.2.2.2.2.1, s.2.2.2.2.2.2.1, s.2.2.2.2.2.2.2.1, s.2.2.2.2.2.2.2.2.1, s.2.2.2.2.2.2.2.2.2.1, s.2.2.2.2.2.2.2.2.2.2.1, s.2.2.2.2.2.2.2.2.2.2.2.1, s.2.2.2.2.2.2.2.2.2.2.2.2.1, s.2.2.2.2.2.2.2.2.2.2.2.2.2.1, s.2.2.2.2.2.2.2.2.2.2.2.2.2.2.1, s.2.2.2.2.2.2.2.2.2.2.2.2.2.2.2.1, s.2.2.2.2.2.2.2.2.2.2.2.2.2.2.2.2.1, s.2.2.2.2.2.2.2.2.2.2.2.2.2.2.2.2.2.1, s.2.2.2.2.2.2.2.2.2.2.2.2.2.2.2.2.2.2.1, s.2.2.2.2.2.2.2.2.2.2.2.2.2.2.2.2.2.2.2.1, s.2.2.2.2.2.2.2.2.2.2.2.2.2.2.2.2.2.2.2.2.1, s.2.2.2.2.2.2.2.2.2.2.2.2.2.2.2.2.2.2.2.2.2.1, s.2.2.2.2.2.2.2.2.2.2.2.2.2.2.2.2.2.2.2.2.2.2.1, s.2.2.2.2.2.2.2.2.2.2.2.2.2.2.2.2.2.2.2.2.2.2.2.1, v, s.2.2.2.2.2.2.2.2.2.2.2.2.2.2.2.2.2.2.2.2.2.2.2.2.2.1, s.2.2.2.2.2.2.2.2.2.2.2.2.2.2.2.2.2.2.2.2.2.2.2.2.2.2.1, s.2.2.2.2.2.2.2.2.2.2.2.2.2.2.2.2.2.2.2.2.2.2.2.2.2.2.2.1, s.2.2.2.2.2.2.2.2.2.2.2.2.2.2.2.2.2.2.2.2.2.2.2.2.2.2.2.2.1, s.2.2.2.2.2.2.2.2.2.2.2.2.2.2.2.2.2.2.2.2.2.2.2.2.2.2.2.2.2.1, s.2.2.2.2.2.2.2.2.2.2.2.2.2.2.2.2.2.2.2.2.2.2.2.2.2.2.2.2.2.2.1, s.2.2.2.2.2.2.2.2.2.2.2.2.2.2.2.2.2.2.2.2.2.2.2.2.2.2.2.2.2.2.2)
abbrev q_Mo_textSize (s : SMo) : Int32 := s.2.2.2.2.2.2.2.2.2.2.2.2.2.2.2.2.2.2.2.2.2.2.2.2.2.1
abbrev u_Mo_textSize (s : SMo) (v : Int32) : SMo := (s.1, s.2.1, s.2.2.1, s.2.2.2.1, s.2.2.2.2.1, s.2.2.2.2.2.1, s.2.2.2.2.2.2.1, s.2.2.2.2.2.2.2.1, s.2.2.2.2.2.2.2.2.1, s.2.2.2.2.2.2.2.2.2.1, s.2.2.2.2.2.2.2.2.2.2.1, s.2.2.2.2.2.2.2.2.2.2.2.1, s.2.2.2.2.2.2.2.2.2.2.2.2.1, s.2.2.2.2.2.2.2.2.2.2.2.2.2.1, s.2.2.2.2.2.2.2.2.2.2.2.2.2.2.1, s.2.2.2.2.2.2.2.2.2.2.2.2.2.2.2.1, s.2.2.2.2.2.2.2.2.2.2.2.2.2.2.2.2.1, s.2.2.2.2.2.2.2.2.2.2.2.2.2.2.2.2.2.1, s.2.2.2.2.2.2.2.2.2.2.2.2.2.2.2.2.2.2.1, s.2.2.2.2.2.2.2.2.2.2.2.2.2.2.2.2.2.2.2.1, s.2.2.2.2.2.2.2.2.2.2.2.2.2.2.2.2.2.2.2.2.1, s.2.2.2.2.2.2.2.2.2.2.2.2.2.2.2.2.2.2.2.2.2.1, s.2.2.2.2.2.2.2.2.2.2.2.2.2.2.2.2.2.2.2.2.2.2.1, s.2.2.2.2.2.2.2.2.2.2.2.2.2.2.2.2.2.2.2.2.2.2.2.1, s.2.2.2.2.2.2.2.2.2.2.2.2.2.2.2.2.2.2.2.2.2.2.2.2.1, v, s.2.2.2.2.2.2.2.2.2.2.2.2.2.2.2.2.2.2.2.2.2.2.2.2.2.2.1, s.2.2.2.2.2.2.2.2.2.2.2.2.2.2.2.2.2.2.2.2.2.2.2.2.2.2.2.1, s.2.2.2.2.2.2.2.2.2.2.2.2.2.2.2.2.2.2.2.2.2.2.2.2.2.2.2.2.1, s.2.2.2.2.2.2.2.2.2.2.2.2.2.2.2.2.2.2.2.2.2.2.2.2.2.2.2.2.2.1, s.2.2.2.2.2.2.2.2.2.2.2.2.2.2.2.2.2.2.2.2.2.2.2.2.2.2.2.2.2.2.1, s.2.2.2.2.2.2.2.2.2.2.2.2.2.2.2.2.2.2.2.2.2.2.2.2.2.2.2.2.2.2.2)
abbrev q_Mo_faultCount (s : SMo) : Int32 := s.2.2.2.2.2.2.2.2.2.2.2.2.2.2.2.2.2.2.2.2.2.2.2.2.2.2.1
abbrev u_Mo_faultCount (s : SMo) (v : Int32) : SMo := (s.1, s.2.1, s.2.2.1, s.2.2.2.1, s.2.2.2.2.1, s.2.2.2.2.2.1, s.2.2.2.2.2.2.1, s.2.2.2.2.2.2.2.1, s.2.2.2.2.2.2.2.2.1, s.2.2.2.2.2.2.2.2.2.1, s.2.2.2.2.2.2.2.2.2.2.1, s.2.2.2.2.2.2.2.2.2.2.2.1, s.2.2.2.2.2.2.2.2.2.2.2.2.1, s.2.2.2.2.2.2.2.2.2.2.2.2.2.1, s.2.2.2.2.2.2.2.2.2.2.2.2.2.2.1, s.2.2.2.2.2.2.2.2.2.2.2.2.2.2.2.1, s.2.2.2.2.2.2.2.2.2.2.2.2.2.2.2.2.1, s.2.2.2.2.2.2.2.2.2.2.2.2.2.2.2.2.2.1, s.2.2.2.2.2.2.2.2.2.2.2.2.2.2.2.2.2.2.1, s.2.2.2.2.2.2.2.2.2.2.2.2.2.2.2.2.2.2.2.1, s.2.2.2.2.2.2.2.2.2.2.2.2.2.2.2.2.2.2.2.2.1, s.2.2.2.2.2.2.2.2.2.2.2.2.2.2.2.2.2.2.2.2.2.1, s.2.2.2.2.2.2.2.2.2.2.2.2.2.2.2.2.2.2.2.2.2.2.1, s.2.2.2.2.2.2.2.2.2.2.2.2.2.2.2.2.2.2.2.2.2.2.2.1, s.2.2.2.2.2.2.2.2.2.2.2.2.2.2.2.2.2.2.2.2.2.2.2.2.1, s.2.2.2.2.2.2.2.2.2.2.2.2.2.2.2.2.2.2.2.2.2.2.2.2.2.1, v, s.2.2.2.2.2.2.2.2.2.2.2.2.2.2.2.2.2.2.2.2.2.2.2.2.2.2.2.1, s.2.2.2.2.2.2.2.2.2.2.2.2.2.2.2.2.2.2.2.2.2.2.2.2.2.2.2.2.1, s.2.2.2.2.2.2.2.2.2.2.2.2.2.2.2.2.2.2.2.2.2.2.2.2.2.2.2.2.2.1, s.2.2.2.2.2.2.2.2.2.2.2.2.2.2.2.2.2.2.2.2.2.2.2.2.2.2.2.2.2.2.1, s.2.2.2.2.2.2.2.2.2.2.2.2.2.2.2.2.2.2.2.2.2.2.2.2.2.2.2.2.2.2.2)
abbrev q_Mo_codes (s : SMo) : (Nat → Int32) := s.2.2.2.2.2.2.2.2.2.2.2.2.2.2.2.2.2.2.2.2.2.2.2.2.2.2.2.1
abbrev u_Mo_codes (s : SMo) (v : (Nat → Int32)) : SMo := (s.1, s.2.1, s.2.2.1, s.2.2.2.1, s.2.2.2.2.1, s.2.2.2.2.2.1, s.2.2.2.2.2.2.1, s.2.2.2.2.2.2.2.1, s.2.2.2.2.2.2.2.2.1, s.2.2.2.2.2.2.2.2.2.1, s.2.2.2.2.2.2.2.2.2.2.1, s.2.2.2.2.2.2.2.2.2.2.2.1, s.2.2.2.2.2.2.2.2.2.2.2.2.1, s.2.2.2.2.2.2.2.2.2.2.2.2.2.1, s.2.2.2.2.2.2.2.2.2.2.2.2.2.2.1, s.2.2.2.2.2.2.2.2.2.2.2.2.2.2.2.1, s.2.2.2.2.2.2.2.2.2.2.2.2.2.2.2.2.1, s.2.2.2.2.2.2.2.2.2.2.2.2.2.2.2.2.2.1, s.2.2.2.2.2.2.2.2.2.2.2.2.2.2.2.2.2.2.1, s.2.2.2.2.2.2.2.2.2.2.2.2.2.2.2.2.2.2.2.1, s.2.2.2.2.2.2.2.2.2.2.2.2.2.2.2.2.2.2.2.2.1, s.2.2.2.2.2.2.2.2.2.2.2.2.2.2.2.2.2.2.2.2.2.1, s.2.2.2.2.2.2.2.2.2.2.2.2.2.2.2.2.2.2.2.2.2.2.1, s.2.2.2.2.2.2.2.2.2.2.2.2.2.2.2.2.2.2.2.2.2.2.2.1, s.2.2.2.2.2.2.2.2.2.2.2.2.2.2.2.2.2.2.2.2.2.2.2.2.1, s.2.2.2.2.2.2.2.2.2.2.2.2.2.2.2.2.2.2.2.2.2.2.2.2.2.1, s.2.2.2.2.2.2.2.2.2.2.2.2.2.2.2.2.2.2.2.2.2.2.2.2.2.2.1, v, s.2.2.2.2.2.2.2.2.2.2.2.2.2.2.2.2.2.2.2.2.2.2.2.2.2.2.2.2.1, s.2.2.2.2.2.2.2.2.2.2.2.2.2.2.2.2.2.2.2.2.2.2.2.2.2.2.2.2.2.1, s.2.2.2.2.2.2.2.2.2.2.2.2.2.2.2.2.2.2.2.2.2.2.2.2.2.2.2.2.2.2.1, s.2.2.2.2.2.2.2.2.2.2.2.2.2.2.2.2.2.2.2.2.2.2.2.2.2.2.2.2.2.2.2)
abbrev q_Mo_places (s : SMo) : (Nat → Int32) := s.2.2.2.2.2.2.2.2.2.2.2.2.2.2.2.2.2.2.2.2.2.2.2.2.2.2.2.2.1
abbrev u_Mo_places (s : SMo) (v : (Nat → Int32)) : SMo := (s.1, s.2.1, s.2.2.1, s.2.2.2.1, s.2.2.2.2.1, s.2.2.2.2.2.1, s.2.2.2.2.2.2.1, s.2.2.2.2.2.2.2.1, s.2.2.2.2.2.2.2.2.1, s.2.2.2.2.2.2.2.2.2.1, s.2.2.2.2.2.2.2.2.2.2.1, s.2.2.2.2.2.2.2.2.2.2.2.1, s.2.2.2.2.2.2.2.2.2.2.2.2.1, s.2.2.2.2.2.2.2.2.2.2.2.2.2.1, s.2.2.2.2.2.2.2.2.2.2.2.2.2.2.1, s.2.2.2.2.2.2.2.2.2.2.2.2.2.2.2.1, s.2.2.2.2.2.2.2.2.2.2.2.2.2.2.2.2.1, s.2.2.2.2.2.2.2.2.2.2.2.2.2.2.2.2.2.1, s.2.2.2.2.2.2.2.2.2.2.2.2.2.2.2.2.2.2.1, s.2.2.2.2.2.2.2.2.2.2.2.2.2.2.2.2.2.2.2.1, s.2.2.2.2.2.2.2.2.2.2.2.2.2.2.2.2.2.2.2.2.1, s.2.2.2.2.2.2.2.2.2.2.2.2.2.2.2.2.2.2.2.2.2.1, s.2.2.2.2.2.2.2.2.2.2.2.2.2.2.2.2.2.2.2.2.2.2.1, s.2.2.2.2.2.2.2.2.2.2.2.2.2.2.2.2.2.2.2.2.2.2.2.1, s.2.2.2.2.2.2.2.2.2.2.2.2.2.2.2.2.2.2.2.2.2.2.2.2.1, s.2.2.2.2.2.2.2.2.2.2.2.2.2.2.2.2.2.2.2.2.2.2.2.2.2.1, s.2.2.2.2.2.2.2.2.2.2.2.2.2.2.2.2.2.2.2.2.2.2.2.2.2.2.1, s.2.2.2.2.2.2.2.2.2.2.2.2.2.2.2.2.2.2.2.2.2.2.2.2.2.2.2.1, v, s.2.2.2.2.2.2.2.2.2.2.2.2.2.2.2.2.2.2.2.2.2.2.2.2.2.2.2.2.2.1, s.2.2.2.2.2.2.2.2.2.2.2.2.2.2.2.2.2.2.2.2.2.2.2.2.2.2.2.2.2.2.1, s.2.2.2.2.2.2.2.2.2.2.2.2.2.2.2.2.2.2.2.2.2.2.2.2.2.2.2.2.2.2.2)
abbrev q_Mo_outSize (s : SMo) : Int32 := s.2.2.2.2.2.2.2.2.2.2.2.2.2.2.2.2.2.2.2.2.2.2.2.2.2.2.2.2.2.1
abbrev u_Mo_outSize (s : SMo) (v : Int32) : SMo := (s.1, s.2.1, s.2.2.1, s.2.2.2.1, s.2.2.2.2.1, s.2.2.2.2.2.1, s.2.2.2.2.2.2.1, s.2.2.2.2.2.2.2.1, s.2.2.2.2.2.2.2.2.1, s.2.2.2.2.2.2.2.2.2.1, s.2.2.2.2.2.2.2.2.2.2.1, s.2.2.2.2.2.2.2.2.2.2.2.1, s.2.2.2.2.2.2.2.2.2.2.2.2.1, s.2.2.2.2.2.2.2.2.2.2.2.2.2.1, s.2.2.2.2.2.2.2.2.2.2.2.2.2.2.1, s.2.2.2.2.2.2.2.2.2.2.2.2.2.2.2.1, s.2.2.2.2.2.2.2.2.2.2.2.2.2.2.2.2.1, s.2.2.2.2.2.2.2.2.2.2.2.2.2.2.2.2.2.1, s.2.2.2.2.2.2.2.2.2.2.2.2.2.2.2.2.2.2.1, s.2.2.2.2.2.2.2.2.2.2.2.2.2.2.2.2.2.2.2.1, s.2.2.2.2.2.2.2.2.2.2.2.2.2.2.2.2.2.2.2.2.1, s.2.2.2.2.2.2.2.2.2.2.2.2.2.2.2.2.2.2.2.2.2.1, s.2.2.2.2.2.2.2.2.2.2.2.2.2.2.2.2.2.2.2.2.2.2.1, s.2.2.2.2.2.2.2.2.2.2.2.2.2.2.2.2.2.2.2.2.2.2.2.1, s.2.2.2.2.2.2.2.2.2.2.2.2.2.2.2.2.2.2.2.2.2.2.2.2.1, s.2.2.2.2.2.2.2.2.2.2.2.2.2.2.2.2.2.2.2.2.2.2.2.2.2.1, s.2.2.2.2.2.2.2.2.2.2.2.2.2.2.2.2.2.2.2.2.2.2.2.2.2.2.1, s.2.2.2.2.2.2.2.2.2.2.2.2.2.2.2.2.2.2.2.2.2.2.2.2.2.2.2.1, s.2.2.2.2.2.2.2.2.2.2.2.2.2.2.2.2.2.2.2.2.2.2.2.2.2.2.2.2.1, v, s.2.2.2.2.2.2.2.2.2.2.2.2.2.2.2.2.2.2.2.2.2.2.2.2.2.2.2.2.2.2.1, s.2.2.2.2.2.2.2.2.2.2.2.2.2.2.2.2.2.2.2.2.2.2.2.2.2.2.2.2.2.2.2)
abbrev q_Mo_out (s : SMo) : (Nat → Int32) := s.2.2.2.2.2.2.2.2.2.2.2.2.2.2.2.2.2.2.2.2.2.2.2.2.2.2.2.2.2.2.1
abbrev u_Mo_out (s : SMo) (v : (Nat → Int32)) : SMo := (s.1, s.2.1, s.2.2.1, s.2.2.2.1, s.2.2.2.2.1, s.2.2.2.2.2.1, s.2.2.2.2.2.2.1, s.2.2.2.2.2.2.2.1, s.2.2.2.2.2.2.2.2.1, s.2.2.2.2.2.2.2.2.2.1, s.2.2.2.2.2.2.2.2.2.2.1, s.2.2.2.2.2.2.2.2.2.2.2.1, s.2.2.2.2.2.2.2.2.2.2.2.2.1, s.2.2.2.2.2.2.2.2.2.2.2.2.2.1, s.2.2.2.2.2.2.2.2.2.2.2.2.2.2.1, s.2.2.2.2.2.2.2.2.2.2.2.2.2.2.2.1, s.2.2.2.2.2.2.2.2.2.2.2.2.2.2.2.2.1, s.2.2.2.2.2.2.2.2.2.2.2.2.2.2.2.2.2.1, s.2.2.2.2.2.2.2.2.2.2.2.2.2.2.2.2.2.2.1, s.2.2.2.2.2.2.2.2.2.2.2.2.2.2.2.2.2.2.2.1, s.2.2.2.2.2.2.2.2.2.2.2.2.2.2.2.2.2.2.2.2.1, s.2.2.2.2.2.2.2.2.2.2.2.2.2.2.2.2.2.2.2.2.2.1, s.2.2.2.2.2.2.2.2.2.2.2.2.2.2.2.2.2.2.2.2.2.2.1, s.2.2.2.2.2.2.2.2.2.2.2.2.2.2.2.2.2.2.2.2.2.2.2.1, s.2.2.2.2.2.2.2.2.2.2.2.2.2.2.2.2.2.2.2.2.2.2.2.2.1, s.2.2.2.2.2.2.2.2.2.2.2.2.2.2.2.2.2.2.2.2.2.2.2.2.2.1, s.2.2.2.2.2.2.2.2.2.2.2.2.2.2.2.2.2.2.2.2.2.2.2.2.2.2.1, s.2.2.2.2.2.2.2.2.2.2.2.2.2.2.2.2.2.2.2.2.2.2.2.2.2.2.2.1, s.2.2.2.2.2.2.2.2.2.2.2.2.2.2.2.2.2.2.2.2.2.2.2.2.2.2.2.2.1, s.2.2.2.2.2.2.2.2.2.2.2.2.2.2.2.2.2.2.2.2.2.2.2.2.2.2.2.2.2.1, v, s.2.2.2.2.2.2.2.2.2.2.2.2.2.2.2.2.2.2.2.2.2.2.2.2.2.2.2.2.2.2.2)
abbrev q_Mo_which (s : SMo) : Int32 := s.2.2.2.2.2.2.2.2.2.2.2.2.2.2.2.2.2.2.2.2.2.2.2.2.2.2.2.2.2.2.2
abbrev u_Mo_which (s : SMo) (v : Int32) : SMo := (s.1, s.2.1, s.2.2.1, s.2.2.2.1, s.2.2.2.2.1, s.2.2.2.2.2.1, s.2.2.2.2.2.2.1, s.2.2.2.2.2.2.2.1, s.2.2.2.2.2.2.2.2.1, s.2.2.2.2.2.2.2.2.2.1, s.2.2.2.2.2.2.2.2.2.2.1, s.2.2.2.2.2.2.2.2.2.2.2.1, s.2.2.2.2.2.2.2.2.2.2.2.2.1, s.2.2.2.2.2.2.2.2.2.2.2.2.2.1, s.2.2.2.2.2.2.2.2.2.2.2.2.2.2.1, s.2.2.2.2.2.2.2.2.2.2.2.2.2.2.2.1, s.2.2.2.2.2.2.2.2.2.2.2.2.2.2.2.2.1, s.2.2.2.2.2.2.2.2.2.2.2.2.2.2.2.2.2.1, s.2.2.2.2.2.2.2.2.2.2.2.2.2.2.2.2.2.2.1, s.2.2.2.2.2.2.2.2.2.2.2.2.2.2.2.2.2.2.2.1, s.2.2.2.2.2.2.2.2.2.2.2.2.2.2.2.2.2.2.2.2.1, s.2.2.2.2.2.2.2.2.2.2.2.2.2.2.2.2.2.2.2.2.2.1, s.2.2.2.2.2.2.2.2.2.2.2.2.2.2.2.2.2.2.2.2.2.2.1, s.2.2.2.2.2.2.2.2.2.2.2.2.2.2.2.2.2.2.2.2.2.2.2.1, s.2.2.2.2.2.2.2.2.2.2.2.2.2.2.2.2.2.2.2.2.2.2.2.2.1, s.2.2.2.2.2.2.2.2.2.2.2.2.2.2.2.2.2.2.2.2.2.2.2.2.2.1, s.2.2.2.2.2.2.2.2.2.2.2.2.2.2.2.2.2.2.2.2.2.2.2.2.2.2.1, s.2.2.2.2.2.2.2.2.2.2.2.2.2.2.2.2.2.2.2.2.2.2.2.2.2.2.2.1, s.2.2.2.2.2.2.2.2.2.2.2.2.2.2.2.2.2.2.2.2.2.2.2.2.2.2.2.2.1, s.2.2.2.2.2.2.2.2.2.2.2.2.2.2.2.2.2.2.2.2.2.2.2.2.2.2.2.2.2.1, s.2.2.2.2.2.2.2.2.2.2.2.2.2.2.2.2.2.2.2.2.2.2.2.2.2.2.2.2.2.2.1, v)
def FU : Nat := 200000
abbrev gZ : Type := (Nat → Nat) × (Nat → Nat) × (Nat → Nat) × (Nat → Nat) × Nat × Nat × Nat
def zW : List String := ["DATA", "TAG", "ENDTAG", "REFERENCE", "NAMED", "UNNAMED", "NUMBERED", "NAME", "BEFORE", "ATTRIBUTE", "AFTER", "VALUE", "QUOTED", "UNQUOTED", "BEHIND", "SELF", "MARK", "BOGUS", "COMMENTSTART", "STARTDASH", "COMMENT", "COMMENTDASH", "COMMENTEND", "COMMENTBANG", "DOCTYPE", "DOCTYPEBEFORE", "DOCTYPENAME", "DOCTYPEAFTER", "DOCTYPEODD", "OVER"]
def zN : List String := ["AMP", "GREAT_AMP", "LT", "GREAT_LT", "GT", "GREAT_GT", "QUOT", "GREAT_QUOT", "NBSP", "COPY", "GREAT_COPY", "REG", "GREAT_REG", "NOT", "SHY", "YEN", "DEG", "TIMES", "PARA", "SUP2", "FRAC12", "APOS", "NUM", "NOTIN", "NOTNI", "TIMESB", "COPYSR", "HELLIP", "EURO", "NE", "LE", "PAR"]
def zT : List (List Int32) := [[100, 111, 99, 116, 121, 112, 101], [38, 108, 116, 59], [38, 97, 109, 112, 59], [38, 35], [60, 33, 45, 45], [45, 45, 62], [60, 33, 68, 79, 67, 84, 89, 80, 69], [32, 120], [61, 34], [38, 113, 117, 111, 116, 59], [97, 109, 112], [65, 77, 80], [108, 116], [76, 84], [103, 116], [71, 84], [113, 117, 111, 116], [81, 85, 79, 84], [110, 98, 115, 112], [99, 111, 112, 121], [67, 79, 80, 89], [114, 101, 103], [82, 69, 71], [110, 111, 116], [115, 104, 121], [121, 101, 110], [100, 101, 103], [116, 105, 109, 101, 115], [112, 97, 114, 97], [115, 117, 112, 50], [102, 114, 97, 99, 49, 50], [97, 112, 111, 115], [110, 117, 109], [110, 111, 116, 105, 110], [110, 111, 116, 110, 105], [116, 105, 109, 101, 115, 98], [99, 111, 112, 121, 115, 114], [104, 101, 108, 108, 105, 112], [101, 117, 114, 111], [110, 101], [108, 101], [112, 97, 114]]
def zs (i : Nat) : List Int32 := zT.getD i []
def zLetters : List Nat := [10, 11, 12, 13, 14, 15, 16, 17, 18, 19, 20, 21, 22, 23, 24, 25, 26, 27, 28, 29, 30, 31, 32, 33, 34, 35, 36, 37, 38, 39, 40, 41]
def zNs (k : Nat) : Nat := zLetters.getD k 0
def nm_given (k : Nat) : Int32 := ([38, 38, 60, 60, 62, 62, 34, 34, 160, 169, 169, 174, 174, 172, 173, 165, 176, 215, 182, 178, 189, 39, 35, 8713, 8716, 8864, 8471, 8230, 8364, 8800, 8804, 8741] : List Int32).getD k 0
def nm_free (k : Nat) : Int32 := ([1, 1, 1, 1, 1, 1, 1, 1, 1, 1, 1, 1, 1, 1, 1, 1, 1, 1, 1, 1, 1, 0, 0, 0, 0, 0, 0, 0, 0, 0, 0, 0] : List Int32).getD k 0
abbrev nm_letters (k : Nat) : Nat := zNs k
abbrev nm_count : Nat := 32
def ta__SwitchMap_MarkupTokens_Way (j : Nat) : Int32 := ([1, 2, 3, 4, 5, 6, 7, 8, 9, 10, 11, 12, 13, 14, 15, 16, 17, 18, 19, 20, 21, 22, 23, 24, 25, 26, 27, 28, 29, 0] : List Int32).getD j 0
abbrev ta__SwitchMap_MarkupTokens_Way_len : Nat := 30
def ta_REPLACED (j : Nat) : Int32 := ([8364, 129, 8218, 402, 8222, 8230, 8224, 8225, 710, 8240, 352, 8249, 338, 141, 381, 143, 144, 8216, 8217, 8220, 8221, 8226, 8211, 8212, 732, 8482, 353, 8250, 339, 157, 382, 376] : List Int32).getD j 0
abbrev ta_REPLACED_len : Nat := 32
def ZHw (z : gZ) (A : Nat → Prop) (U : State) (H : Heap) : Prop := ∀ i, i < 30 → va_Z "MarkupTokens$Way" (zW.getD i "") "LMarkupTokens$Way;" (.ref (z.1 i)) A U H ∧ va_O "MarkupTokens$Way" (z.1 i) A U H ∧ va_OF "java/lang/Enum" "ordinal" "I" (.int (nI i)) (z.1 i) A U H
def ZHn (z : gZ) (A : Nat → Prop) (U : State) (H : Heap) : Prop := ∀ i, i < 32 → va_O "MarkupTokens$Named" (z.2.1 i) A U H ∧ va_OF "MarkupTokens$Named" "letters" "Ljava/lang/String;" (.ref (z.2.2.1 (zNs i))) (z.2.1 i) A U H ∧ va_OF "MarkupTokens$Named" "given" "I" (.int (nm_given i)) (z.2.1 i) A U H ∧ va_OF "MarkupTokens$Named" "free" "Z" (.int (nm_free i)) (z.2.1 i) A U H
def ZHs (z : gZ) (A : Nat → Prop) (U : State) (H : Heap) : Prop := ∀ i, i < 42 → va_O "java/lang/String" (z.2.2.1 i) A U H ∧ va_OF "java/lang/String" "coder" "B" (.int 0) (z.2.2.1 i) A U H ∧ va_OF "java/lang/String" "value" "[B" (.ref (z.2.2.2.1 i)) (z.2.2.1 i) A U H ∧ va_T .byte (z.2.2.2.1 i) (zs i).length (fun j => .int ((zs i).getD j 0)) A U H
def ZHt (z : gZ) (A : Nat → Prop) (U : State) (H : Heap) : Prop := (va_Z "MarkupTokens$ReferenceWays" "REPLACED" "[I" (.ref z.2.2.2.2.1) A U H ∧ va_T .int z.2.2.2.2.1 ta_REPLACED_len (fun j => .int (ta_REPLACED j)) A U H) ∧ (va_Z "MarkupTokens$1" "$SwitchMap$MarkupTokens$Way" "[I" (.ref z.2.2.2.2.2.1) A U H ∧ va_T .int z.2.2.2.2.2.1 ta__SwitchMap_MarkupTokens_Way_len (fun j => .int (ta__SwitchMap_MarkupTokens_Way j)) A U H) ∧ (va_Z "MarkupTokens$Named" "ALL" "[LMarkupTokens$Named;" (.ref z.2.2.2.2.2.2) A U H ∧ va_T (.object "MarkupTokens$Named") z.2.2.2.2.2.2 nm_count (fun j => .ref (z.2.1 j)) A U H) ∧ va_Z "java/lang/String" "COMPACT_STRINGS" "Z" (.int 1) A U H ∧ va_Zq "jdk/internal/util/Preconditions" "SIOOBE_FORMATTER" "Ljava/util/function/BiFunction;" A U H
def ZH (z : gZ) (A : Nat → Prop) (U : State) (H : Heap) : Prop := ZHw z A U H ∧ ZHn z A U H ∧ ZHs z A U H ∧ ZHt z A U H
theorem ZH.moved {z : gZ} {A : Nat → Prop} {u U : State} {H : Heap} (hvm : u.vm.Alike U.vm) (h : ZH z A u H) : ZH z A U H :=
  ⟨fun i hi => ⟨va_Z.moved hvm (h.1 i hi).1, va_O.moved hvm (h.1 i hi).2.1, va_OF.moved hvm (h.1 i hi).2.2⟩,
   fun i hi => ⟨va_O.moved hvm (h.2.1 i hi).1, va_OF.moved hvm (h.2.1 i hi).2.1, va_OF.moved hvm (h.2.1 i hi).2.2.1, va_OF.moved hvm (h.2.1 i hi).2.2.2⟩,
   fun i hi => ⟨va_O.moved hvm (h.2.2.1 i hi).1, va_OF.moved hvm (h.2.2.1 i hi).2.1, va_OF.moved hvm (h.2.2.1 i hi).2.2.1, va_T.moved hvm (h.2.2.1 i hi).2.2.2⟩,
   ⟨va_Z.moved hvm h.2.2.2.1.1, va_T.moved hvm h.2.2.2.1.2⟩, ⟨va_Z.moved hvm h.2.2.2.2.1.1, va_T.moved hvm h.2.2.2.2.1.2⟩, ⟨va_Z.moved hvm h.2.2.2.2.2.1.1, va_T.moved hvm h.2.2.2.2.2.1.2⟩, va_Z.moved hvm h.2.2.2.2.2.2.1, va_Zq.moved hvm h.2.2.2.2.2.2.2⟩
theorem ZH.kept {z : gZ} {A : Nat → Prop} {U : State} {H H1 : Heap} (h : ZH z A U H) (hq : ∀ a : Nat, a < H.size → ¬ A a → H1[a]? = H[a]?) : ZH z A U H1 :=
  ⟨fun i hi => ⟨va_Z.kept (h.1 i hi).1 hq, va_O.kept (h.1 i hi).2.1 hq, va_OF.kept (h.1 i hi).2.2 hq⟩,
   fun i hi => ⟨va_O.kept (h.2.1 i hi).1 hq, va_OF.kept (h.2.1 i hi).2.1 hq, va_OF.kept (h.2.1 i hi).2.2.1 hq, va_OF.kept (h.2.1 i hi).2.2.2 hq⟩,
   fun i hi => ⟨va_O.kept (h.2.2.1 i hi).1 hq, va_OF.kept (h.2.2.1 i hi).2.1 hq, va_OF.kept (h.2.2.1 i hi).2.2.1 hq, va_T.kept (h.2.2.1 i hi).2.2.2 hq⟩,
   ⟨va_Z.kept h.2.2.2.1.1 hq, va_T.kept h.2.2.2.1.2 hq⟩, ⟨va_Z.kept h.2.2.2.2.1.1 hq, va_T.kept h.2.2.2.2.1.2 hq⟩, ⟨va_Z.kept h.2.2.2.2.2.1.1 hq, va_T.kept h.2.2.2.2.2.1.2 hq⟩, va_Z.kept h.2.2.2.2.2.2.1 hq, va_Zq.kept h.2.2.2.2.2.2.2 hq⟩
theorem ZH.narrow {z : gZ} {A : Nat → Prop} {B : Nat → Prop} {U : State} {H : Heap} (h : ZH z A U H) (hAB : ∀ q, B q → A q) : ZH z B U H :=
  ⟨fun i hi => ⟨va_Z.narrow (h.1 i hi).1 hAB, va_O.narrow (h.1 i hi).2.1 hAB, va_OF.narrow (h.1 i hi).2.2 hAB⟩,
   fun i hi => ⟨va_O.narrow (h.2.1 i hi).1 hAB, va_OF.narrow (h.2.1 i hi).2.1 hAB, va_OF.narrow (h.2.1 i hi).2.2.1 hAB, va_OF.narrow (h.2.1 i hi).2.2.2 hAB⟩,
   fun i hi => ⟨va_O.narrow (h.2.2.1 i hi).1 hAB, va_OF.narrow (h.2.2.1 i hi).2.1 hAB, va_OF.narrow (h.2.2.1 i hi).2.2.1 hAB, va_T.narrow (h.2.2.1 i hi).2.2.2 hAB⟩,
   ⟨va_Z.narrow h.2.2.2.1.1 hAB, va_T.narrow h.2.2.2.1.2 hAB⟩, ⟨va_Z.narrow h.2.2.2.2.1.1 hAB, va_T.narrow h.2.2.2.2.1.2 hAB⟩, ⟨va_Z.narrow h.2.2.2.2.2.1.1 hAB, va_T.narrow h.2.2.2.2.2.1.2 hAB⟩, va_Z.narrow h.2.2.2.2.2.2.1 hAB, va_Zq.narrow h.2.2.2.2.2.2.2 hAB⟩
def lw_nm : List (String × Nat × MethodName) := [("MarkupTokens$Reader", 192, y_Mt_isLetter), ("MarkupTokens$ReferenceWays", 36, y_Mt_isLetterOrDigit), ("MarkupTokens$ReferenceWays", 97, y_Mt_lowered), ("MarkupTokens$ReferenceWays", 133, y_Mt_isBlank), ("MarkupTokens$TagWays", 19, y_Mt_isBlank), ("MarkupTokens$TagWays", 98, y_Mt_lowered), ("MarkupTokens$Reader", 234, y_Mt_lowered), ("MarkupTokens$DoctypeWays", 34, y_Mt_isBlank), ("MarkupTokens$DoctypeWays", 63, y_Mt_lowered)]
def lw_nf : List (String × Nat × String × String × String) := [("MarkupTokens$ReferenceWays", 53, "MarkupTokens$Named", "ALL", "[LMarkupTokens$Named;"), ("MarkupTokens$ReferenceWays", 93, "MarkupTokens$Named", "given", "I")]
def zR : List (String × Nat × String × Nat) := [("MarkupTokens$Reader", 224, "doctype", 0), ("MarkupTokens$Out", 65, "&lt;", 1), ("MarkupTokens$Out", 119, "&amp;", 2), ("MarkupTokens$Out", 121, "&#", 3), ("MarkupTokens$Out", 74, "<!--", 4), ("MarkupTokens$Out", 79, "-->", 5), ("MarkupTokens$Out", 81, "<!DOCTYPE", 6), ("MarkupTokens$Out", 89, " x", 7), ("MarkupTokens$Out", 108, "=\"", 8), ("MarkupTokens$Out", 116, "&quot;", 9)]
def ZN (z : gZ) (U : State) : Prop := (∀ q ∈ lw_nm, va_Nw (.methodLinkNest q.1 q.2.1 q.2.2 "MarkupTokens") U) ∧ (∀ q ∈ lw_nf, va_Nw (.fieldLinkNest q.1 q.2.1 q.2.2.1 q.2.2.2.1 q.2.2.2.2 "MarkupTokens") U) ∧ ∀ q ∈ zR, vk_R q.1 q.2.1 q.2.2.1 (z.2.2.1 q.2.2.2) U
theorem ZN.same {z : gZ} {u U : State} (hv : u.vm = U.vm) (h : ZN z u) : ZN z U := ⟨fun q hq => va_Nw.same rfl hv (h.1 q hq), fun q hq => va_Nw.same rfl hv (h.2.1 q hq), fun q hq => vk_R.same hv.symm (h.2.2 q hq)⟩
theorem ZN.warm {z : gZ} {s U : State} (hW : s.WarmedH U.vm) (h : ZN z s) : ZN z U := ⟨fun q hq => va_Nw.warmM hW (h.1 q hq), fun q hq => va_Nw.warmF hW (h.2.1 q hq), fun q hq => vk_R.warm hW (h.2.2 q hq)⟩
theorem zh_inj {z : gZ} {A : Nat → Prop} {U : State} {H : Heap} (h : ZH z A U H) {i j : Nat} (hi : i < 30) (hj : j < 30) (e : z.1 i = z.1 j) : i = j := by
  obtain ⟨cf, k, n, f, cell, h1, h2, h3, h4, h5, h6⟩ := (h.1 i hi).2.2
  obtain ⟨cf', k', n', f', cell', g1, g2, g3, g4, g5, g6⟩ := (h.1 j hj).2.2
  rw [h1] at g1
  cases g1
  rw [← e, h3] at g3
  cases g3
  rw [h5] at g5
  exact (nI_eq (by omega) (by omega)).mp (Value.int.inj (Option.some.inj g5))
abbrev gT (cA : Nat → ClassId) : List (ClassId × FieldType) := [(cA 0, .int), (cA 1, .byte), (cA 2, .long), (cA 3, .boolean)]
abbrev Wc (z : gZ) (ad : Nat → Nat) (cA : Nat → ClassId) (sMt : SMt) (sSource : SSource) (sTokens : STokens) (sReferenceWays : SReferenceWays) (sTagWays : STagWays) (sCommentWays : SCommentWays) (sOut : SOut) : va_W := [(ad 0, .inr (0, [.ref (ad 9), .int (q_Mt_textLength sMt), .ref (ad 1), .ref (ad 2), .ref (ad 7), .ref (ad 8)])), (ad 1, .inr (1, [.ref (ad 10), .int (q_Source_count sSource), .int (q_Source_place sSource), .ref (ad 11), .ref (ad 12), .int (q_Source_faultCount sSource)])), (ad 2, .inr (2, [.ref (ad 13), .int (q_Tokens_used sTokens), .ref (ad 14), .ref (ad 15), .ref (ad 16), .ref (ad 17), .ref (ad 18), .ref (ad 19), .int (q_Tokens_count sTokens), .int (q_Tokens_inText sTokens), .ref (ad 20), .ref (ad 21), .ref (ad 22), .int (q_Tokens_attributesUsed sTokens), .int (q_Tokens_inAttribute sTokens)])), (ad 3, .inr (3, [.ref (ad 1), .ref (ad 2), .ref (z.1 sReferenceWays)])), (ad 4, .inr (4, [.ref (ad 1), .ref (ad 2), .ref (ad 3), .int sTagWays])), (ad 5, .inr (5, [.ref (ad 1), .ref (ad 2), .int sCommentWays])), (ad 6, .inr (6, [.ref (ad 1), .ref (ad 2)])), (ad 7, .inr (7, [.ref (ad 1), .ref (ad 2), .ref (ad 3), .ref (ad 4), .ref (ad 5), .ref (ad 6)])), (ad 8, .inr (8, [.ref (ad 2), .ref (ad 23), .int (q_Out_length sOut)])), (ad 9, .inl ((cA 1), 400, .inl (q_Mt_text sMt))), (ad 10, .inl ((cA 0), 400, .inl (q_Source_characters sSource))), (ad 11, .inl ((cA 0), 1203, .inl (q_Source_codes sSource))), (ad 12, .inl ((cA 0), 1203, .inl (q_Source_places sSource))), (ad 13, .inl ((cA 0), 400, .inl (q_Tokens_row sTokens))), (ad 14, .inl ((cA 0), 400, .inl (q_Tokens_kinds sTokens))), (ad 15, .inl ((cA 0), 400, .inl (q_Tokens_starts sTokens))), (ad 16, .inl ((cA 0), 400, .inl (q_Tokens_ends sTokens))), (ad 17, .inl ((cA 0), 400, .inl (q_Tokens_marks sTokens))), (ad 18, .inl ((cA 0), 400, .inl (q_Tokens_firstAttributes sTokens))), (ad 19, .inl ((cA 0), 400, .inl (q_Tokens_attributeCounts sTokens))), (ad 20, .inl ((cA 0), 400, .inl (q_Tokens_nameStarts sTokens))), (ad 21, .inl ((cA 0), 400, .inl (q_Tokens_valueStarts sTokens))), (ad 22, .inl ((cA 0), 400, .inl (q_Tokens_valueEnds sTokens))), (ad 23, .inl ((cA 1), 3200, .inl (q_Out_bytes sOut)))]
abbrev Wm (ad : Nat → Nat) (cA : Nat → ClassId) (sMo : SMo) : va_W := [(ad 0, .inr (9, [.ref (ad 1), .ref (ad 2), .ref (ad 3), .int (q_Mo_size sMo), .ref (ad 4), .int (q_Mo_n sMo), .ref (ad 5), .int (q_Mo_p sMo), .int (q_Mo_ended sMo), .int (q_Mo_tokens sMo), .ref (ad 6), .ref (ad 7), .ref (ad 8), .ref (ad 9), .ref (ad 10), .ref (ad 11), .int (q_Mo_attributeCount sMo), .ref (ad 12), .ref (ad 13), .ref (ad 14), .ref (ad 15), .ref (ad 16), .int (q_Mo_rowSize sMo), .ref (ad 17), .int (q_Mo_textAt sMo), .int (q_Mo_textSize sMo), .int (q_Mo_faultCount sMo), .ref (ad 18), .ref (ad 19), .int (q_Mo_outSize sMo), .ref (ad 20), .int (q_Mo_which sMo)])), (ad 1, .inl ((cA 2), 53, .inr (.inl (q_Mo_names sMo)))), (ad 2, .inl ((cA 0), 53, .inl (q_Mo_gives sMo))), (ad 3, .inl ((cA 0), 32, .inl (q_Mo_turned sMo))), (ad 4, .inl ((cA 1), 400, .inl (q_Mo_bytes sMo))), (ad 5, .inl ((cA 0), 400, .inl (q_Mo_text sMo))), (ad 6, .inl ((cA 0), 402, .inl (q_Mo_kinds sMo))), (ad 7, .inl ((cA 0), 402, .inl (q_Mo_firsts sMo))), (ad 8, .inl ((cA 0), 402, .inl (q_Mo_sizes sMo))), (ad 9, .inl ((cA 3), 402, .inl (q_Mo_marks sMo))), (ad 10, .inl ((cA 0), 402, .inl (q_Mo_attributes sMo))), (ad 11, .inl ((cA 0), 402, .inl (q_Mo_manyOf sMo))), (ad 12, .inl ((cA 0), 402, .inl (q_Mo_nameAt sMo))), (ad 13, .inl ((cA 0), 402, .inl (q_Mo_nameSize sMo))), (ad 14, .inl ((cA 0), 402, .inl (q_Mo_valueAt sMo))), (ad 15, .inl ((cA 0), 402, .inl (q_Mo_valueSize sMo))), (ad 16, .inl ((cA 3), 402, .inl (q_Mo_goes sMo))), (ad 17, .inl ((cA 0), 810, .inl (q_Mo_row sMo))), (ad 18, .inl ((cA 0), 1200, .inl (q_Mo_codes sMo))), (ad 19, .inl ((cA 0), 1200, .inl (q_Mo_places sMo))), (ad 20, .inl ((cA 1), 4000, .inl (q_Mo_out sMo)))]
end
