def rfv (o : Option Value) : Nat := match o with
  | some (.ref a) => a
  | _ => 0
def zK : List (String × Nat) := [("MarkupTokens$Reader", 224), ("MarkupTokens$Out", 65), ("MarkupTokens$Out", 119), ("MarkupTokens$Out", 121), ("MarkupTokens$Out", 74), ("MarkupTokens$Out", 79), ("MarkupTokens$Out", 81), ("MarkupTokens$Out", 89), ("MarkupTokens$Out", 108), ("MarkupTokens$Out", 116), ("MarkupTokens$Named", 148), ("MarkupTokens$Named", 147), ("MarkupTokens$Named", 155), ("MarkupTokens$Named", 154), ("MarkupTokens$Named", 159), ("MarkupTokens$Named", 158), ("MarkupTokens$Named", 163), ("MarkupTokens$Named", 162), ("MarkupTokens$Named", 167), ("MarkupTokens$Named", 170), ("MarkupTokens$Named", 169), ("MarkupTokens$Named", 174), ("MarkupTokens$Named", 173), ("MarkupTokens$Named", 178), ("MarkupTokens$Named", 181), ("MarkupTokens$Named", 184), ("MarkupTokens$Named", 187), ("MarkupTokens$Named", 190), ("MarkupTokens$Named", 193), ("MarkupTokens$Named", 196), ("MarkupTokens$Named", 199), ("MarkupTokens$Named", 202), ("MarkupTokens$Named", 205), ("MarkupTokens$Named", 208), ("MarkupTokens$Named", 211), ("MarkupTokens$Named", 214), ("MarkupTokens$Named", 217), ("MarkupTokens$Named", 220), ("MarkupTokens$Named", 223), ("MarkupTokens$Named", 226), ("MarkupTokens$Named", 229), ("MarkupTokens$Named", 232)]
def tW (i : Nat) : Term := .static "MarkupTokens$Way" (zW.getD i "") "LMarkupTokens$Way;"
def tN (i : Nat) : Term := .static "MarkupTokens$Named" (zN.getD i "") "LMarkupTokens$Named;"
def tS (i : Nat) : Term := .string (zK.getD i ("", 0)).1 (zK.getD i ("", 0)).2
def tV (i : Nat) : Term := .field (tS i) "java/lang/String" "value" "[B"
def tR : Term := .static "MarkupTokens$ReferenceWays" "REPLACED" "[I"
def tM : Term := .static "MarkupTokens$1" "$SwitchMap$MarkupTokens$Way" "[I"
def tA : Term := .static "MarkupTokens$Named" "ALL" "[LMarkupTokens$Named;"
def PRE : List Cond := flatC (Jvm.Cond.and given_1 narrow_1)
def pW1_p : List Nat := [4, 43, 49, 41, 55, 99, 53, 45, 138, 142, 140, 144, 146, 148, 150, 136, 47, 51, 152, 156, 158, 160, 162, 164, 154, 166, 168, 170, 172, 6]
theorem pW1_0 : ∀ i, i < 10 → 0 ≤ i → PRE[pW1_p.getD i 0]? = some (Cond.exactly (tW i) "MarkupTokens$Way") := by decide +kernel
theorem pW1_1 : ∀ i, i < 20 → 10 ≤ i → PRE[pW1_p.getD i 0]? = some (Cond.exactly (tW i) "MarkupTokens$Way") := by decide +kernel
theorem pW1_2 : ∀ i, i < 30 → 20 ≤ i → PRE[pW1_p.getD i 0]? = some (Cond.exactly (tW i) "MarkupTokens$Way") := by decide +kernel
theorem pW1 : ∀ i, i < 30 → (Cond.exactly (tW i) "MarkupTokens$Way") ∈ PRE := fun i hi => List.mem_of_getElem? (i := pW1_p.getD i 0) (by
  by_cases h0 : i < 10
  · exact pW1_0 i h0 (by omega)
  by_cases h1 : i < 20
  · exact pW1_1 i h1 (by omega)
  exact pW1_2 i hi (by omega))
def pW4_p : List Nat := [5, 44, 50, 42, 56, 100, 54, 46, 139, 143, 141, 145, 147, 149, 151, 137, 48, 52, 153, 157, 159, 161, 163, 165, 155, 167, 169, 171, 173, 7]
theorem pW4_0 : ∀ i, i < 10 → 0 ≤ i → PRE[pW4_p.getD i 0]? = some (Cond.eq (.field (tW i) "java/lang/Enum" "ordinal" "I") (.int (nI i))) := by decide +kernel
theorem pW4_1 : ∀ i, i < 20 → 10 ≤ i → PRE[pW4_p.getD i 0]? = some (Cond.eq (.field (tW i) "java/lang/Enum" "ordinal" "I") (.int (nI i))) := by decide +kernel
theorem pW4_2 : ∀ i, i < 30 → 20 ≤ i → PRE[pW4_p.getD i 0]? = some (Cond.eq (.field (tW i) "java/lang/Enum" "ordinal" "I") (.int (nI i))) := by decide +kernel
theorem pW4 : ∀ i, i < 30 → (Cond.eq (.field (tW i) "java/lang/Enum" "ordinal" "I") (.int (nI i))) ∈ PRE := fun i hi => List.mem_of_getElem? (i := pW4_p.getD i 0) (by
  by_cases h0 : i < 10
  · exact pW4_0 i h0 (by omega)
  by_cases h1 : i < 20
  · exact pW4_1 i h1 (by omega)
  exact pW4_2 i hi (by omega))
def pN1_p : List Nat := [174, 180, 186, 192, 198, 204, 210, 216, 222, 228, 234, 240, 246, 252, 258, 264, 270, 276, 282, 288, 294, 300, 306, 312, 318, 324, 330, 336, 342, 348, 354, 359]
theorem pN1_0 : ∀ i, i < 8 → 0 ≤ i → PRE[pN1_p.getD i 0]? = some (Cond.exactly (tN i) "MarkupTokens$Named") := by decide +kernel
theorem pN1_1 : ∀ i, i < 16 → 8 ≤ i → PRE[pN1_p.getD i 0]? = some (Cond.exactly (tN i) "MarkupTokens$Named") := by decide +kernel
theorem pN1_2 : ∀ i, i < 24 → 16 ≤ i → PRE[pN1_p.getD i 0]? = some (Cond.exactly (tN i) "MarkupTokens$Named") := by decide +kernel
theorem pN1_3 : ∀ i, i < 32 → 24 ≤ i → PRE[pN1_p.getD i 0]? = some (Cond.exactly (tN i) "MarkupTokens$Named") := by decide +kernel
theorem pN1 : ∀ i, i < 32 → (Cond.exactly (tN i) "MarkupTokens$Named") ∈ PRE := fun i hi => List.mem_of_getElem? (i := pN1_p.getD i 0) (by
  by_cases h0 : i < 8
  · exact pN1_0 i h0 (by omega)
  by_cases h1 : i < 16
  · exact pN1_1 i h1 (by omega)
  by_cases h2 : i < 24
  · exact pN1_2 i h2 (by omega)
  exact pN1_3 i hi (by omega))
def pN2_p : List Nat := [176, 182, 188, 194, 200, 206, 212, 218, 224, 230, 236, 242, 248, 254, 260, 266, 272, 278, 284, 290, 296, 302, 308, 314, 320, 326, 332, 338, 344, 350, 356, 361]
theorem pN2_0 : ∀ i, i < 8 → 0 ≤ i → PRE[pN2_p.getD i 0]? = some (Cond.eq (.field (tN i) "MarkupTokens$Named" "letters" "Ljava/lang/String;") (tS (zNs i))) := by decide +kernel
theorem pN2_1 : ∀ i, i < 16 → 8 ≤ i → PRE[pN2_p.getD i 0]? = some (Cond.eq (.field (tN i) "MarkupTokens$Named" "letters" "Ljava/lang/String;") (tS (zNs i))) := by decide +kernel
theorem pN2_2 : ∀ i, i < 24 → 16 ≤ i → PRE[pN2_p.getD i 0]? = some (Cond.eq (.field (tN i) "MarkupTokens$Named" "letters" "Ljava/lang/String;") (tS (zNs i))) := by decide +kernel
theorem pN2_3 : ∀ i, i < 32 → 24 ≤ i → PRE[pN2_p.getD i 0]? = some (Cond.eq (.field (tN i) "MarkupTokens$Named" "letters" "Ljava/lang/String;") (tS (zNs i))) := by decide +kernel
theorem pN2 : ∀ i, i < 32 → (Cond.eq (.field (tN i) "MarkupTokens$Named" "letters" "Ljava/lang/String;") (tS (zNs i))) ∈ PRE := fun i hi => List.mem_of_getElem? (i := pN2_p.getD i 0) (by
  by_cases h0 : i < 8
  · exact pN2_0 i h0 (by omega)
  by_cases h1 : i < 16
  · exact pN2_1 i h1 (by omega)
  by_cases h2 : i < 24
  · exact pN2_2 i h2 (by omega)
  exact pN2_3 i hi (by omega))
def pN3_p : List Nat := [177, 183, 189, 195, 201, 207, 213, 219, 225, 231, 237, 243, 249, 255, 261, 267, 273, 279, 285, 291, 297, 303, 309, 315, 321, 327, 333, 339, 345, 351, 357, 362]
theorem pN3_0 : ∀ i, i < 8 → 0 ≤ i → PRE[pN3_p.getD i 0]? = some (Cond.eq (.field (tN i) "MarkupTokens$Named" "given" "I") (.int (nm_given i))) := by decide +kernel
theorem pN3_1 : ∀ i, i < 16 → 8 ≤ i → PRE[pN3_p.getD i 0]? = some (Cond.eq (.field (tN i) "MarkupTokens$Named" "given" "I") (.int (nm_given i))) := by decide +kernel
theorem pN3_2 : ∀ i, i < 24 → 16 ≤ i → PRE[pN3_p.getD i 0]? = some (Cond.eq (.field (tN i) "MarkupTokens$Named" "given" "I") (.int (nm_given i))) := by decide +kernel
theorem pN3_3 : ∀ i, i < 32 → 24 ≤ i → PRE[pN3_p.getD i 0]? = some (Cond.eq (.field (tN i) "MarkupTokens$Named" "given" "I") (.int (nm_given i))) := by decide +kernel
theorem pN3 : ∀ i, i < 32 → (Cond.eq (.field (tN i) "MarkupTokens$Named" "given" "I") (.int (nm_given i))) ∈ PRE := fun i hi => List.mem_of_getElem? (i := pN3_p.getD i 0) (by
  by_cases h0 : i < 8
  · exact pN3_0 i h0 (by omega)
  by_cases h1 : i < 16
  · exact pN3_1 i h1 (by omega)
  by_cases h2 : i < 24
  · exact pN3_2 i h2 (by omega)
  exact pN3_3 i hi (by omega))
def pN4_p : List Nat := [178, 184, 190, 196, 202, 208, 214, 220, 226, 232, 238, 244, 250, 256, 262, 268, 274, 280, 286, 292, 298, 304, 310, 316, 322, 328, 334, 340, 346, 352, 358, 363]
theorem pN4_0 : ∀ i, i < 8 → 0 ≤ i → PRE[pN4_p.getD i 0]? = some (Cond.eq (.field (tN i) "MarkupTokens$Named" "free" "Z") (.int (nm_free i))) := by decide +kernel
theorem pN4_1 : ∀ i, i < 16 → 8 ≤ i → PRE[pN4_p.getD i 0]? = some (Cond.eq (.field (tN i) "MarkupTokens$Named" "free" "Z") (.int (nm_free i))) := by decide +kernel
theorem pN4_2 : ∀ i, i < 24 → 16 ≤ i → PRE[pN4_p.getD i 0]? = some (Cond.eq (.field (tN i) "MarkupTokens$Named" "free" "Z") (.int (nm_free i))) := by decide +kernel
theorem pN4_3 : ∀ i, i < 32 → 24 ≤ i → PRE[pN4_p.getD i 0]? = some (Cond.eq (.field (tN i) "MarkupTokens$Named" "free" "Z") (.int (nm_free i))) := by decide +kernel
theorem pN4 : ∀ i, i < 32 → (Cond.eq (.field (tN i) "MarkupTokens$Named" "free" "Z") (.int (nm_free i))) ∈ PRE := fun i hi => List.mem_of_getElem? (i := pN4_p.getD i 0) (by
  by_cases h0 : i < 8
  · exact pN4_0 i h0 (by omega)
  by_cases h1 : i < 16
  · exact pN4_1 i h1 (by omega)
  by_cases h2 : i < 24
  · exact pN4_2 i h2 (by omega)
  exact pN4_3 i hi (by omega))
def pS1_p : List Nat := [364, 375, 383, 392, 398, 406, 413, 426, 432, 438, 448, 455, 462, 468, 474, 480, 486, 494, 502, 510, 518, 526, 533, 540, 547, 554, 561, 568, 577, 585, 593, 603, 611, 618, 627, 636, 646, 656, 666, 674, 680, 686]
theorem pS1_0 : ∀ i, i < 7 → 0 ≤ i → PRE[pS1_p.getD i 0]? = some (Cond.exactly (tS i) "java/lang/String") := by decide +kernel
theorem pS1_1 : ∀ i, i < 14 → 7 ≤ i → PRE[pS1_p.getD i 0]? = some (Cond.exactly (tS i) "java/lang/String") := by decide +kernel
theorem pS1_2 : ∀ i, i < 21 → 14 ≤ i → PRE[pS1_p.getD i 0]? = some (Cond.exactly (tS i) "java/lang/String") := by decide +kernel
theorem pS1_3 : ∀ i, i < 28 → 21 ≤ i → PRE[pS1_p.getD i 0]? = some (Cond.exactly (tS i) "java/lang/String") := by decide +kernel
theorem pS1_4 : ∀ i, i < 35 → 28 ≤ i → PRE[pS1_p.getD i 0]? = some (Cond.exactly (tS i) "java/lang/String") := by decide +kernel
theorem pS1_5 : ∀ i, i < 42 → 35 ≤ i → PRE[pS1_p.getD i 0]? = some (Cond.exactly (tS i) "java/lang/String") := by decide +kernel
theorem pS1 : ∀ i, i < 42 → (Cond.exactly (tS i) "java/lang/String") ∈ PRE := fun i hi => List.mem_of_getElem? (i := pS1_p.getD i 0) (by
  by_cases h0 : i < 7
  · exact pS1_0 i h0 (by omega)
  by_cases h1 : i < 14
  · exact pS1_1 i h1 (by omega)
  by_cases h2 : i < 21
  · exact pS1_2 i h2 (by omega)
  by_cases h3 : i < 28
  · exact pS1_3 i h3 (by omega)
  by_cases h4 : i < 35
  · exact pS1_4 i h4 (by omega)
  exact pS1_5 i hi (by omega))
def pS2_p : List Nat := [365, 376, 384, 393, 399, 407, 414, 427, 433, 439, 449, 456, 463, 469, 475, 481, 487, 495, 503, 511, 519, 527, 534, 541, 548, 555, 562, 569, 578, 586, 594, 604, 612, 619, 628, 637, 647, 657, 667, 675, 681, 687]
theorem pS2_0 : ∀ i, i < 7 → 0 ≤ i → PRE[pS2_p.getD i 0]? = some (Cond.eq (.field (tS i) "java/lang/String" "coder" "B") (.int 0)) := by decide +kernel
theorem pS2_1 : ∀ i, i < 14 → 7 ≤ i → PRE[pS2_p.getD i 0]? = some (Cond.eq (.field (tS i) "java/lang/String" "coder" "B") (.int 0)) := by decide +kernel
theorem pS2_2 : ∀ i, i < 21 → 14 ≤ i → PRE[pS2_p.getD i 0]? = some (Cond.eq (.field (tS i) "java/lang/String" "coder" "B") (.int 0)) := by decide +kernel
theorem pS2_3 : ∀ i, i < 28 → 21 ≤ i → PRE[pS2_p.getD i 0]? = some (Cond.eq (.field (tS i) "java/lang/String" "coder" "B") (.int 0)) := by decide +kernel
theorem pS2_4 : ∀ i, i < 35 → 28 ≤ i → PRE[pS2_p.getD i 0]? = some (Cond.eq (.field (tS i) "java/lang/String" "coder" "B") (.int 0)) := by decide +kernel
theorem pS2_5 : ∀ i, i < 42 → 35 ≤ i → PRE[pS2_p.getD i 0]? = some (Cond.eq (.field (tS i) "java/lang/String" "coder" "B") (.int 0)) := by decide +kernel
theorem pS2 : ∀ i, i < 42 → (Cond.eq (.field (tS i) "java/lang/String" "coder" "B") (.int 0)) ∈ PRE := fun i hi => List.mem_of_getElem? (i := pS2_p.getD i 0) (by
  by_cases h0 : i < 7
  · exact pS2_0 i h0 (by omega)
  by_cases h1 : i < 14
  · exact pS2_1 i h1 (by omega)
  by_cases h2 : i < 21
  · exact pS2_2 i h2 (by omega)
  by_cases h3 : i < 28
  · exact pS2_3 i h3 (by omega)
  by_cases h4 : i < 35
  · exact pS2_4 i h4 (by omega)
  exact pS2_5 i hi (by omega))
def pS3_p : List Nat := [366, 377, 385, 394, 400, 408, 415, 428, 434, 440, 450, 457, 464, 470, 476, 482, 488, 496, 504, 512, 520, 528, 535, 542, 549, 556, 563, 570, 579, 587, 595, 605, 613, 620, 629, 638, 648, 658, 668, 676, 682, 688]
theorem pS3_0 : ∀ i, i < 7 → 0 ≤ i → PRE[pS3_p.getD i 0]? = some (Cond.arrayOf (tV i) .byte) := by decide +kernel
theorem pS3_1 : ∀ i, i < 14 → 7 ≤ i → PRE[pS3_p.getD i 0]? = some (Cond.arrayOf (tV i) .byte) := by decide +kernel
theorem pS3_2 : ∀ i, i < 21 → 14 ≤ i → PRE[pS3_p.getD i 0]? = some (Cond.arrayOf (tV i) .byte) := by decide +kernel
theorem pS3_3 : ∀ i, i < 28 → 21 ≤ i → PRE[pS3_p.getD i 0]? = some (Cond.arrayOf (tV i) .byte) := by decide +kernel
theorem pS3_4 : ∀ i, i < 35 → 28 ≤ i → PRE[pS3_p.getD i 0]? = some (Cond.arrayOf (tV i) .byte) := by decide +kernel
theorem pS3_5 : ∀ i, i < 42 → 35 ≤ i → PRE[pS3_p.getD i 0]? = some (Cond.arrayOf (tV i) .byte) := by decide +kernel
theorem pS3 : ∀ i, i < 42 → (Cond.arrayOf (tV i) .byte) ∈ PRE := fun i hi => List.mem_of_getElem? (i := pS3_p.getD i 0) (by
  by_cases h0 : i < 7
  · exact pS3_0 i h0 (by omega)
  by_cases h1 : i < 14
  · exact pS3_1 i h1 (by omega)
  by_cases h2 : i < 21
  · exact pS3_2 i h2 (by omega)
  by_cases h3 : i < 28
  · exact pS3_3 i h3 (by omega)
  by_cases h4 : i < 35
  · exact pS3_4 i h4 (by omega)
  exact pS3_5 i hi (by omega))
def pS4_p : List Nat := [367, 378, 386, 395, 401, 409, 416, 429, 435, 441, 451, 458, 465, 471, 477, 483, 489, 497, 505, 513, 521, 529, 536, 543, 550, 557, 564, 571, 580, 588, 596, 606, 614, 621, 630, 639, 649, 659, 669, 677, 683, 689]
theorem pS4_0 : ∀ i, i < 7 → 0 ≤ i → PRE[pS4_p.getD i 0]? = some (Cond.eq (.length (tV i)) (.int (Int32.ofNat (zs i).length))) := by decide +kernel
theorem pS4_1 : ∀ i, i < 14 → 7 ≤ i → PRE[pS4_p.getD i 0]? = some (Cond.eq (.length (tV i)) (.int (Int32.ofNat (zs i).length))) := by decide +kernel
theorem pS4_2 : ∀ i, i < 21 → 14 ≤ i → PRE[pS4_p.getD i 0]? = some (Cond.eq (.length (tV i)) (.int (Int32.ofNat (zs i).length))) := by decide +kernel
theorem pS4_3 : ∀ i, i < 28 → 21 ≤ i → PRE[pS4_p.getD i 0]? = some (Cond.eq (.length (tV i)) (.int (Int32.ofNat (zs i).length))) := by decide +kernel
theorem pS4_4 : ∀ i, i < 35 → 28 ≤ i → PRE[pS4_p.getD i 0]? = some (Cond.eq (.length (tV i)) (.int (Int32.ofNat (zs i).length))) := by decide +kernel
theorem pS4_5 : ∀ i, i < 42 → 35 ≤ i → PRE[pS4_p.getD i 0]? = some (Cond.eq (.length (tV i)) (.int (Int32.ofNat (zs i).length))) := by decide +kernel
theorem pS4 : ∀ i, i < 42 → (Cond.eq (.length (tV i)) (.int (Int32.ofNat (zs i).length))) ∈ PRE := fun i hi => List.mem_of_getElem? (i := pS4_p.getD i 0) (by
  by_cases h0 : i < 7
  · exact pS4_0 i h0 (by omega)
  by_cases h1 : i < 14
  · exact pS4_1 i h1 (by omega)
  by_cases h2 : i < 21
  · exact pS4_2 i h2 (by omega)
  by_cases h3 : i < 28
  · exact pS4_3 i h3 (by omega)
  by_cases h4 : i < 35
  · exact pS4_4 i h4 (by omega)
  exact pS4_5 i hi (by omega))
def pS5_p : List (List Nat) := [[368, 369, 370, 371, 372, 373, 374], [379, 380, 381, 382], [387, 388, 389, 390, 391], [396, 397], [402, 403, 404, 405], [410, 411, 412], [417, 418, 419, 420, 421, 422, 423, 424, 425], [430, 431], [436, 437], [442, 443, 444, 445, 446, 447], [452, 453, 454], [459, 460, 461], [466, 467], [472, 473], [478, 479], [484, 485], [490, 491, 492, 493], [498, 499, 500, 501], [506, 507, 508, 509], [514, 515, 516, 517], [522, 523, 524, 525], [530, 531, 532], [537, 538, 539], [544, 545, 546], [551, 552, 553], [558, 559, 560], [565, 566, 567], [572, 573, 574, 575, 576], [581, 582, 583, 584], [589, 590, 591, 592], [597, 598, 599, 600, 601, 602], [607, 608, 609, 610], [615, 616, 617], [622, 623, 624, 625, 626], [631, 632, 633, 634, 635], [640, 641, 642, 643, 644, 645], [650, 651, 652, 653, 654, 655], [660, 661, 662, 663, 664, 665], [670, 671, 672, 673], [678, 679], [684, 685], [690, 691, 692]]
theorem pS5_0 : ∀ i, i < 3 → 0 ≤ i → ∀ j, j < (zs i).length → PRE[(pS5_p.getD i []).getD j 0]? = some (Cond.eq (.elem (tV i) (.int (Int32.ofNat j))) (.int ((zs i).getD j 0))) := by decide +kernel
theorem pS5_1 : ∀ i, i < 6 → 3 ≤ i → ∀ j, j < (zs i).length → PRE[(pS5_p.getD i []).getD j 0]? = some (Cond.eq (.elem (tV i) (.int (Int32.ofNat j))) (.int ((zs i).getD j 0))) := by decide +kernel
theorem pS5_2 : ∀ i, i < 9 → 6 ≤ i → ∀ j, j < (zs i).length → PRE[(pS5_p.getD i []).getD j 0]? = some (Cond.eq (.elem (tV i) (.int (Int32.ofNat j))) (.int ((zs i).getD j 0))) := by decide +kernel
theorem pS5_3 : ∀ i, i < 12 → 9 ≤ i → ∀ j, j < (zs i).length → PRE[(pS5_p.getD i []).getD j 0]? = some (Cond.eq (.elem (tV i) (.int (Int32.ofNat j))) (.int ((zs i).getD j 0))) := by decide +kernel
theorem pS5_4 : ∀ i, i < 15 → 12 ≤ i → ∀ j, j < (zs i).length → PRE[(pS5_p.getD i []).getD j 0]? = some (Cond.eq (.elem (tV i) (.int (Int32.ofNat j))) (.int ((zs i).getD j 0))) := by decide +kernel
theorem pS5_5 : ∀ i, i < 18 → 15 ≤ i → ∀ j, j < (zs i).length → PRE[(pS5_p.getD i []).getD j 0]? = some (Cond.eq (.elem (tV i) (.int (Int32.ofNat j))) (.int ((zs i).getD j 0))) := by decide +kernel
theorem pS5_6 : ∀ i, i < 21 → 18 ≤ i → ∀ j, j < (zs i).length → PRE[(pS5_p.getD i []).getD j 0]? = some (Cond.eq (.elem (tV i) (.int (Int32.ofNat j))) (.int ((zs i).getD j 0))) := by decide +kernel
theorem pS5_7 : ∀ i, i < 24 → 21 ≤ i → ∀ j, j < (zs i).length → PRE[(pS5_p.getD i []).getD j 0]? = some (Cond.eq (.elem (tV i) (.int (Int32.ofNat j))) (.int ((zs i).getD j 0))) := by decide +kernel
theorem pS5_8 : ∀ i, i < 27 → 24 ≤ i → ∀ j, j < (zs i).length → PRE[(pS5_p.getD i []).getD j 0]? = some (Cond.eq (.elem (tV i) (.int (Int32.ofNat j))) (.int ((zs i).getD j 0))) := by decide +kernel
theorem pS5_9 : ∀ i, i < 30 → 27 ≤ i → ∀ j, j < (zs i).length → PRE[(pS5_p.getD i []).getD j 0]? = some (Cond.eq (.elem (tV i) (.int (Int32.ofNat j))) (.int ((zs i).getD j 0))) := by decide +kernel
theorem pS5_10 : ∀ i, i < 33 → 30 ≤ i → ∀ j, j < (zs i).length → PRE[(pS5_p.getD i []).getD j 0]? = some (Cond.eq (.elem (tV i) (.int (Int32.ofNat j))) (.int ((zs i).getD j 0))) := by decide +kernel
theorem pS5_11 : ∀ i, i < 36 → 33 ≤ i → ∀ j, j < (zs i).length → PRE[(pS5_p.getD i []).getD j 0]? = some (Cond.eq (.elem (tV i) (.int (Int32.ofNat j))) (.int ((zs i).getD j 0))) := by decide +kernel
theorem pS5_12 : ∀ i, i < 39 → 36 ≤ i → ∀ j, j < (zs i).length → PRE[(pS5_p.getD i []).getD j 0]? = some (Cond.eq (.elem (tV i) (.int (Int32.ofNat j))) (.int ((zs i).getD j 0))) := by decide +kernel
theorem pS5_13 : ∀ i, i < 42 → 39 ≤ i → ∀ j, j < (zs i).length → PRE[(pS5_p.getD i []).getD j 0]? = some (Cond.eq (.elem (tV i) (.int (Int32.ofNat j))) (.int ((zs i).getD j 0))) := by decide +kernel
theorem pS5 : ∀ i, i < 42 → ∀ j, j < (zs i).length → (Cond.eq (.elem (tV i) (.int (Int32.ofNat j))) (.int ((zs i).getD j 0))) ∈ PRE := fun i hi j hj => List.mem_of_getElem? (i := (pS5_p.getD i []).getD j 0) (by
  by_cases h0 : i < 3
  · exact pS5_0 i h0 (by omega) j hj
  by_cases h1 : i < 6
  · exact pS5_1 i h1 (by omega) j hj
  by_cases h2 : i < 9
  · exact pS5_2 i h2 (by omega) j hj
  by_cases h3 : i < 12
  · exact pS5_3 i h3 (by omega) j hj
  by_cases h4 : i < 15
  · exact pS5_4 i h4 (by omega) j hj
  by_cases h5 : i < 18
  · exact pS5_5 i h5 (by omega) j hj
  by_cases h6 : i < 21
  · exact pS5_6 i h6 (by omega) j hj
  by_cases h7 : i < 24
  · exact pS5_7 i h7 (by omega) j hj
  by_cases h8 : i < 27
  · exact pS5_8 i h8 (by omega) j hj
  by_cases h9 : i < 30
  · exact pS5_9 i h9 (by omega) j hj
  by_cases h10 : i < 33
  · exact pS5_10 i h10 (by omega) j hj
  by_cases h11 : i < 36
  · exact pS5_11 i h11 (by omega) j hj
  by_cases h12 : i < 39
  · exact pS5_12 i h12 (by omega) j hj
  exact pS5_13 i hi (by omega) j hj)
theorem pW2 : ∀ i, i < 30 → (Cond.laysStatic "MarkupTokens$Way" (zW.getD i "") "LMarkupTokens$Way;") ∈ lw_tbl := by decide +kernel
theorem pW3 : (Cond.initialized "MarkupTokens$Way") ∈ lw_tbl := by decide +kernel
theorem pN5 : ∀ i, i < 32 → zNs i < 42 := by decide +kernel
theorem pS6 : ∀ i, i < 42 → (zs i).length < 2 ^ 31 := by decide +kernel
theorem pR1 : (Cond.laysStatic "MarkupTokens$ReferenceWays" "REPLACED" "[I") ∈ lw_tbl ∧ (Cond.initialized "MarkupTokens$ReferenceWays") ∈ lw_tbl := by decide +kernel
theorem pR2 : (Cond.arrayOf tR .int) ∈ PRE ∧ (Cond.eq (.length tR) (.int (Int32.ofNat ta_REPLACED_len))) ∈ PRE := by decide +kernel
theorem pR3 : ∀ j, j < ta_REPLACED_len → (Cond.eq (.elem tR (.int (Int32.ofNat j))) (.int (ta_REPLACED j))) ∈ PRE := by decide +kernel
theorem pM1 : (Cond.laysStatic "MarkupTokens$1" "$SwitchMap$MarkupTokens$Way" "[I") ∈ lw_tbl ∧ (Cond.initialized "MarkupTokens$1") ∈ lw_tbl := by decide +kernel
theorem pM2 : (Cond.arrayOf tM .int) ∈ PRE ∧ (Cond.eq (.length tM) (.int (Int32.ofNat ta__SwitchMap_MarkupTokens_Way_len))) ∈ PRE := by decide +kernel
theorem pM3 : ∀ j, j < ta__SwitchMap_MarkupTokens_Way_len → (Cond.eq (.elem tM (.int (Int32.ofNat j))) (.int (ta__SwitchMap_MarkupTokens_Way j))) ∈ PRE := by decide +kernel
theorem pA1 : (Cond.laysStatic "MarkupTokens$Named" "ALL" "[LMarkupTokens$Named;") ∈ lw_tbl ∧ (Cond.initialized "MarkupTokens$Named") ∈ lw_tbl := by decide +kernel
theorem pA2 : (Cond.arrayOf tA (.object "MarkupTokens$Named")) ∈ PRE ∧ (Cond.eq (.length tA) (.int (Int32.ofNat nm_count))) ∈ PRE := by decide +kernel
theorem pA3 : ∀ j, j < nm_count → (Cond.eq (.elem tA (.int (Int32.ofNat j))) (tN j)) ∈ PRE := by decide +kernel
theorem pC1 : (Cond.laysStatic "java/lang/String" "COMPACT_STRINGS" "Z") ∈ lw_tbl ∧ (Cond.initialized "java/lang/String") ∈ lw_tbl ∧ (Cond.eq (.static "java/lang/String" "COMPACT_STRINGS" "Z") (.int 1)) ∈ PRE := by decide +kernel
theorem pP1 : (Cond.laysStatic "jdk/internal/util/Preconditions" "SIOOBE_FORMATTER" "Ljava/util/function/BiFunction;") ∈ lw_tbl ∧ (Cond.initialized "jdk/internal/util/Preconditions") ∈ lw_tbl ∧ (Cond.isRef (.static "jdk/internal/util/Preconditions" "SIOOBE_FORMATTER" "Ljava/util/function/BiFunction;")) ∈ PRE := by decide +kernel
theorem pZ1 : ∀ q ∈ lw_nm, (Cond.methodLinkNest q.1 q.2.1 q.2.2 "MarkupTokens") ∈ lw_tbl := by decide +kernel
theorem pZ2 : ∀ q ∈ lw_nf, (Cond.fieldLinkNest q.1 q.2.1 q.2.2.1 q.2.2.2.1 q.2.2.2.2 "MarkupTokens") ∈ lw_tbl := by decide +kernel
theorem pZ3 : ∀ q ∈ zR, (Cond.stringRef q.1 q.2.1 q.2.2.1) ∈ lw_tbl ∧ tS q.2.2.2 = .string q.1 q.2.1 ∧ q.2.2.2 < 42 := by decide +kernel
theorem pX0 : (Cond.methodLinkNest "MarkupTokens" 19 y_Source_init "MarkupTokens") ∈ lw_tbl ∧ (Cond.methodLinkNest "MarkupTokens" 26 y_Tokens_init "MarkupTokens") ∈ lw_tbl := by decide +kernel
def zof (args : Array Value) (s : State) : gZ := (fun i => rfv ((tW i).eval args s none [] s), fun i => rfv ((tN i).eval args s none [] s), fun i => rfv ((tS i).eval args s none [] s), fun i => rfv ((tV i).eval args s none [] s), rfv (tR.eval args s none [] s), rfv (tM.eval args s none [] s), rfv (tA.eval args s none [] s))
theorem ref_of_exact {args : Array Value} {s : State} {t : Term} {nm : String} (h : (Cond.exactly t nm).before args s = true) : t.eval args s none [] s = some (.ref (rfv (t.eval args s none [] s))) := by
  obtain ⟨a2, c, cA, kA, q1, -⟩ := Cond.exactly_spec (args := args) (first := s) (o := none) (s := s) (idx := []) (t := t) (cls := nm) h
  rw [q1]; rfl
theorem zh_of {args : Array Value} {s : State} (hts : ∀ w ∈ lw_tbl, w.before args s = true) (hs : ∀ c ∈ PRE, c.before args s = true) : ZH (zof args s) (fun q => s.heap.size ≤ q) s s.heap := by
  have hA : ∀ a : Nat, a < s.heap.size → ¬ (fun q => s.heap.size ≤ q) a := fun a h => Nat.not_le.mpr h
  refine ⟨fun i hi => ?_, fun i hi => ?_, fun i hi => ?_, ?_⟩
  · have e := ref_of_exact (hs _ (pW1 i hi))
    exact ⟨va_Zof (hts _ (pW2 i hi)) (hts _ pW3) e hA, va_Oof (hs _ (pW1 i hi)) e hA, vk_OFof e (va_eqt (hs _ (pW4 i hi))) hA⟩
  · have e := ref_of_exact (hs _ (pN1 i hi))
    exact ⟨va_Oof (hs _ (pN1 i hi)) e hA, vk_OFof e (va_eqv (hs _ (pN2 i hi)) (ref_of_exact (hs _ (pS1 (zNs i) (pN5 i hi))))) hA, vk_OFof e (va_eqt (hs _ (pN3 i hi))) hA, vk_OFof e (va_eqt (hs _ (pN4 i hi))) hA⟩
  · have e := ref_of_exact (hs _ (pS1 i hi))
    obtain ⟨t, ht, hT⟩ := va_Tof (N := (zs i).length) (f := fun j => .int ((zs i).getD j 0)) (pS6 i hi) (hs _ (pS3 i hi)) (va_eqt (hs _ (pS4 i hi))) (fun j hj => va_eqt (hs _ (pS5 i hi j hj))) hA
    have et : t = rfv ((tV i).eval args s none [] s) := by rw [ht]; rfl
    subst et
    exact ⟨va_Oof (hs _ (pS1 i hi)) e hA, vk_OFof e (va_eqt (hs _ (pS2 i hi))) hA, vk_OFof e ht hA, hT⟩
  · obtain ⟨t1, ht1, hT1⟩ := va_Tof (N := ta_REPLACED_len) (f := fun j => .int (ta_REPLACED j)) (by decide) (hs _ pR2.1) (va_eqt (hs _ pR2.2)) (fun j hj => va_eqt (hs _ (pR3 j hj))) hA
    have et1 : t1 = rfv (tR.eval args s none [] s) := by rw [ht1]; rfl
    subst et1
    obtain ⟨t2, ht2, hT2⟩ := va_Tof (N := ta__SwitchMap_MarkupTokens_Way_len) (f := fun j => .int (ta__SwitchMap_MarkupTokens_Way j)) (by decide) (hs _ pM2.1) (va_eqt (hs _ pM2.2)) (fun j hj => va_eqt (hs _ (pM3 j hj))) hA
    have et2 : t2 = rfv (tM.eval args s none [] s) := by rw [ht2]; rfl
    subst et2
    obtain ⟨t3, ht3, hT3⟩ := va_Tof (N := nm_count) (f := fun j => .ref (rfv ((tN j).eval args s none [] s))) (by decide) (hs _ pA2.1) (va_eqt (hs _ pA2.2)) (fun j hj => va_eqv (hs _ (pA3 j hj)) (ref_of_exact (hs _ (pN1 j hj)))) hA
    have et3 : t3 = rfv (tA.eval args s none [] s) := by rw [ht3]; rfl
    subst et3
    exact ⟨⟨va_Zof (hts _ pR1.1) (hts _ pR1.2) ht1 hA, hT1⟩, ⟨va_Zof (hts _ pM1.1) (hts _ pM1.2) ht2 hA, hT2⟩, ⟨va_Zof (hts _ pA1.1) (hts _ pA1.2) ht3 hA, hT3⟩, va_Zof (hts _ pC1.1) (hts _ pC1.2.1) (va_eqi (hs _ pC1.2.2)) hA, va_Zqof (hts _ pP1.1) (hts _ pP1.2.1) (hs _ pP1.2.2) hA⟩
theorem zn_of {args : Array Value} {s : State} (hts : ∀ w ∈ lw_tbl, w.before args s = true) (hs : ∀ c ∈ PRE, c.before args s = true) : ZN (zof args s) s := by
  refine ⟨fun q hq => va_Nw.of rfl (hts _ (pZ1 q hq)), fun q hq => va_Nw.of rfl (hts _ (pZ2 q hq)), fun q hq => ?_⟩
  obtain ⟨h1, h2, h3⟩ := pZ3 q hq
  have e := ref_of_exact (hs _ (pS1 _ h3))
  refine vk_R.of (hts _ h1) ?_
  rw [← h2]
  exact e
theorem x0_of {args : Array Value} {s : State} (hts : ∀ w ∈ lw_tbl, w.before args s = true) : X0 s := ⟨va_Nw.of rfl (hts _ pX0.1), va_Nw.of rfl (hts _ pX0.2)⟩
theorem k_of {args : Array Value} {s : State} (hts : ∀ w ∈ lw_g, w.before args s = true) : ∃ (D : va_G) (cA : Nat → ClassId), va_K D vwC (gT cA) s := by
  obtain ⟨c0, i0, h0⟩ := u_known (N := 6) hts in_X12 (hts _ mw_95)
  obtain ⟨c1, i1, h1⟩ := u_known (N := 6) hts in_X7 (hts _ mw_103)
  obtain ⟨c2, i2, h2⟩ := u_known (N := 15) hts in_X9 (hts _ mw_130)
  obtain ⟨c3, i3, h3⟩ := u_known (N := 3) hts in_X6 (hts _ mw_191)
  obtain ⟨c4, i4, h4⟩ := u_known (N := 4) hts in_X8 (hts _ mw_229)
  obtain ⟨c5, i5, h5⟩ := u_known (N := 3) hts in_X1 (hts _ mw_244)
  obtain ⟨c6, i6, h6⟩ := u_known (N := 2) hts in_X2 (hts _ mw_256)
  obtain ⟨c7, i7, h7⟩ := u_known (N := 6) hts in_X5 (hts _ mw_182)
  obtain ⟨c8, i8, h8⟩ := u_known (N := 3) hts in_X4 (hts _ mw_280)
  obtain ⟨c9, i9, h9⟩ := u_known (N := 32) hts in_X13 (hts _ mw_1048)
  obtain ⟨a0, k0, p0, e0, g0, f0⟩ := Cond.arrayClass_spec (hts _ mw_128)
  obtain ⟨a1, k1, p1, e1, g1, f1⟩ := Cond.arrayClass_spec (hts _ mw_127)
  obtain ⟨a2, k2, p2, e2, g2, f2⟩ := Cond.arrayClass_spec (hts _ mw_1203)
  obtain ⟨a3, k3, p3, e3, g3, f3⟩ := Cond.arrayClass_spec (hts _ mw_1204)
  refine ⟨(fun k => [c0, c1, c2, c3, c4, c5, c6, c7, c8, c9].getD k c0, fun k => [i0, i1, i2, i3, i4, i5, i6, i7, i8, i9].getD k i0), fun k => [a0, a1, a2, a3].getD k a0, ?_, ?_⟩
  · intro c q hq
    match c, hq with
    | 0, hq => cases hq; exact h0
    | 1, hq => cases hq; exact h1
    | 2, hq => cases hq; exact h2
    | 3, hq => cases hq; exact h3
    | 4, hq => cases hq; exact h4
    | 5, hq => cases hq; exact h5
    | 6, hq => cases hq; exact h6
    | 7, hq => cases hq; exact h7
    | 8, hq => cases hq; exact h8
    | 9, hq => cases hq; exact h9
    | n + 10, hq => exact absurd hq (by simp [vwC])
  · intro c q hq
    match c, hq with
    | 0, hq => cases hq; exact ⟨fun n z => ⟨fun k h => (by cases h), k0, g0, p0, f0⟩, e0⟩
    | 1, hq => cases hq; exact ⟨fun n z => ⟨fun k h => (by cases h), k1, g1, p1, f1⟩, e1⟩
    | 2, hq => cases hq; exact ⟨fun n z => ⟨fun k h => (by cases h), k2, g2, p2, f2⟩, e2⟩
    | 3, hq => cases hq; exact ⟨fun n z => ⟨fun k h => (by cases h), k3, g3, p3, f3⟩, e3⟩
    | n + 4, hq => exact absurd hq (by simp [gT])
set_option maxHeartbeats 4000000 in
set_option maxRecDepth 100000 in
theorem start_of {Rel : SS → SMo → Prop} (hops : Ops Rel) (h0 : Rel i0_S i0_Mo) {p : Program} {e : Env} {s : State} {m : MethodId} {below : List Frame} {meth : Method} {c : Code} (l : Launch) {b L : Nat} {xs : Nat → Int32} (hL : L ≤ 2560) (C0 : lw_At p s m meth c b L xs) : W p l e room_1 s m #[Value.ref b] below meth c s.heap [] 0 0 (lw_Z below #[Value.ref b] s) (entryFrame m ([Value.ref b] : List Value).toArray 4) := by
  obtain ⟨hx, hb, hr, hml, hown, hts, hX, hbl, hlk, hgv⟩ := C0
  have hs : ∀ c ∈ PRE, c.before #[Value.ref b] s = true := flat_of_before _ hgv
  have hg : ∀ w ∈ lw_g, w.before #[Value.ref b] s = true := fun w hw => hts w (List.mem_filter.mp hw).1
  obtain ⟨D, cA, hK⟩ := k_of hg
  have F : gF p s m #[Value.ref b] c D (fun q => s.heap.size ≤ q) (gT cA) (zof #[Value.ref b] s) RL cL_law 4 := ⟨hx, hb, hml, hown, hg, hK, fun q h => h, zh_of hts hs, zn_of hts hs⟩
  have key : GL p l e room_1 s m #[Value.ref b] below meth c (lw_Z below #[Value.ref b] s) D (fun q => s.heap.size ≤ q) 4 0 0 [] 0 [(0, .ref b)] [] := by
    generalize zof #[Value.ref b] s = z at F ⊢
    refine h_new F (ci := 0) (C := RX12) (T := TX12) (N := 6) (fs := [.null, .int 0, .null, .null, .null, .null]) in_X12 tyX12 tyX12_ok mw_94 mw_95 mw_73 rfl (by decide +kernel) (Nat.le_of_ble_eq_true rfl) (Nat.le_of_ble_eq_true rfl) dL_law_0 (fun q1 => ?_)
    refine h_ws (ws' := [(q1, .inr (0, [.null, .int 0, .null, .null, .null, .null]))]) rfl ?_
    refine h_dup F dL_law_3 rfl ?_
    refine h_ctorX F (X := X0) (fun U hW => ⟨va_Nw.warmM hW (x0_of hts).1, va_Nw.warmM hW (x0_of hts).2⟩) (fun a U g mk h => ⟨va_Nw.same rfl (u := U) rfl h.1, va_Nw.same rfl (u := U) rfl h.2⟩) (As := []) (n := 0) (wc := [(q1, .inr (0, [.null, .int 0, .null, .null, .null, .null]))]) (wr := []) (W1 := wi_Mt_init cA z q1) (fun sz => c_Mt_init l D cA z q1 sz) mw_98 rfl rfl ⟨Nat.le_of_ble_eq_true rfl, Nat.le_of_ble_eq_true rfl⟩ rfl (Nat.le_of_ble_eq_true rfl) mw_96 mw_97 mw_73 rfl (by decide +kernel) dL_law_4 (Nat.le_of_ble_eq_true rfl) (Nat.le_of_ble_eq_true rfl) [0] [] rfl rfl (by decide) (by decide) (by decide) (fun u1 => ?_)
    refine h_ws (ws' := Ws z (adof q1 u1) cA i0_S) rfl ?_
    refine h_astore_n F (L' := [(1, .ref q1), (0, .ref b)]) dL_law_7 rfl (by decide) rfl ?_
    refine h_new F (ci := 9) (C := RX13) (T := TX13) (N := 32) (fs := [.null, .null, .null, .int 0, .null, .int 0, .null, .int 0, .int 0, .int 0, .null, .null, .null, .null, .null, .null, .int 0, .null, .null, .null, .null, .null, .int 0, .null, .int 0, .int 0, .int 0, .null, .null, .int 0, .null, .int 0]) in_X13 tyX13 tyX13_ok mw_1047 mw_1048 mw_85 rfl (by decide +kernel) (Nat.le_of_ble_eq_true rfl) (Nat.le_of_ble_eq_true rfl) dL_law_8 (fun q2 => ?_)
    refine h_dup F dL_law_11 rfl ?_
    refine h_ctor F (As := []) (n := 0) (wc := [(q2, .inr (9, [.null, .null, .null, .int 0, .null, .int 0, .null, .int 0, .int 0, .int 0, .null, .null, .null, .null, .null, .null, .int 0, .null, .null, .null, .null, .null, .int 0, .null, .int 0, .int 0, .int 0, .null, .null, .int 0, .null, .int 0]))]) (wr := Ws z (adof q1 u1) cA i0_S) (W1 := wi_Mo_init cA z q2) (fun sz => c_Mo_init l D cA z q2 sz) mw_1051 rfl rfl ⟨Nat.le_of_ble_eq_true rfl, Nat.le_of_ble_eq_true rfl⟩ rfl (Nat.le_of_ble_eq_true rfl) mw_1049 mw_1050 mw_85 rfl (by decide +kernel) dL_law_12 (Nat.le_of_ble_eq_true rfl) (Nat.le_of_ble_eq_true rfl) [24] [0, 1, 2, 3, 4, 5, 6, 7, 8, 9, 10, 11, 12, 13, 14, 15, 16, 17, 18, 19, 20, 21, 22, 23] rfl rfl (by decide) (by decide) (by decide) (fun u2 => ?_)
    refine h_astore_n F (L' := [(2, .ref q2), (1, .ref q1), (0, .ref b)]) dL_law_15 rfl (by decide) rfl ?_
    refine h_iconst F (v := nI 0) dL_law_16 (by decide) ?_
    refine h_istore_n F (L' := [(3, .int (nI 0)), (2, .ref q2), (1, .ref q1), (0, .ref b)]) dL_law_17 rfl (by decide) rfl ?_
    refine h_loc [3, 2, 1, 0] rfl ?_
    refine h_wid (ck' := 45) (cn' := 23056) (Nat.le_of_ble_eq_true rfl) (Nat.le_of_ble_eq_true rfl) ?_
    exact law_loop hops F (fun q h => h) hr hlk hX hbl hL (adof q1 u1) (adof q2 u2) L 0 i0_S i0_Mo (by omega) (by omega) h0
  have hl := lv_entry [Value.ref b] (n := 4) (Nat.le_of_ble_eq_true rfl)
  rw [lg_entry_eq]
  exact key s.heap [] _ (fun k q h => by simp at h) ⟨fun i j p q h => by simp at h, fun k q h => by simp at h⟩ va_S.rf hl
