abbrev b_Mt_init : ByteArray := prog_1_method_1_code
def y_Mt_init : MethodName := ⟨"MarkupTokens", "<init>", "()V"⟩
abbrev b_Mo_init : ByteArray := prog_15_method_1_code
def y_Mo_init : MethodName := ⟨"MarkupTokensModel", "<init>", "()V"⟩
abbrev b_CommentWays_init : ByteArray := prog_3_method_1_code
def y_CommentWays_init : MethodName := ⟨"MarkupTokens$CommentWays", "<init>", "(LMarkupTokens$Source;LMarkupTokens$Tokens;)V"⟩
abbrev b_DoctypeWays_init : ByteArray := prog_4_method_1_code
def y_DoctypeWays_init : MethodName := ⟨"MarkupTokens$DoctypeWays", "<init>", "(LMarkupTokens$Source;LMarkupTokens$Tokens;)V"⟩
abbrev b_Out_init : ByteArray := prog_6_method_1_code
def y_Out_init : MethodName := ⟨"MarkupTokens$Out", "<init>", "(LMarkupTokens$Tokens;)V"⟩
abbrev b_Reader_init : ByteArray := prog_7_method_1_code
def y_Reader_init : MethodName := ⟨"MarkupTokens$Reader", "<init>", "(LMarkupTokens$Source;LMarkupTokens$Tokens;)V"⟩
abbrev b_ReferenceWays_init : ByteArray := prog_8_method_1_code
def y_ReferenceWays_init : MethodName := ⟨"MarkupTokens$ReferenceWays", "<init>", "(LMarkupTokens$Source;LMarkupTokens$Tokens;)V"⟩
abbrev b_Source_init : ByteArray := prog_9_method_1_code
def y_Source_init : MethodName := ⟨"MarkupTokens$Source", "<init>", "()V"⟩
abbrev b_TagWays_init : ByteArray := prog_10_method_1_code
def y_TagWays_init : MethodName := ⟨"MarkupTokens$TagWays", "<init>", "(LMarkupTokens$Source;LMarkupTokens$Tokens;LMarkupTokens$ReferenceWays;)V"⟩
abbrev b_Tokens_init : ByteArray := prog_11_method_1_code
def y_Tokens_init : MethodName := ⟨"MarkupTokens$Tokens", "<init>", "()V"⟩
abbrev b_Ways_init : ByteArray := prog_13_method_1_code
def y_Ways_init : MethodName := ⟨"MarkupTokens$Ways", "<init>", "(LMarkupTokens$Source;LMarkupTokens$Tokens;)V"⟩
theorem d_Mt_init_0 : decode b_Mt_init 0 = .ok (.aload_n 0, 1) := by decide +kernel
theorem d_Mt_init_1 : decode b_Mt_init 1 = .ok (.invokespecial 1, 3) := by decide +kernel
theorem d_Mt_init_4 : decode b_Mt_init 4 = .ok (.aload_n 0, 1) := by decide +kernel
theorem d_Mt_init_5 : decode b_Mt_init 5 = .ok (.sipush 400, 3) := by decide +kernel
theorem d_Mt_init_8 : decode b_Mt_init 8 = .ok (.newarray .byte, 2) := by decide +kernel
theorem d_Mt_init_10 : decode b_Mt_init 10 = .ok (.putfield 9, 3) := by decide +kernel
theorem d_Mt_init_13 : decode b_Mt_init 13 = .ok (.aload_n 0, 1) := by decide +kernel
theorem d_Mt_init_14 : decode b_Mt_init 14 = .ok (.iconst 0, 1) := by decide +kernel
theorem d_Mt_init_15 : decode b_Mt_init 15 = .ok (.putfield 13, 3) := by decide +kernel
theorem d_Mt_init_18 : decode b_Mt_init 18 = .ok (.aload_n 0, 1) := by decide +kernel
theorem d_Mt_init_19 : decode b_Mt_init 19 = .ok (.new 17, 3) := by decide +kernel
theorem d_Mt_init_22 : decode b_Mt_init 22 = .ok (.dup, 1) := by decide +kernel
theorem d_Mt_init_23 : decode b_Mt_init 23 = .ok (.invokespecial 19, 3) := by decide +kernel
theorem d_Mt_init_26 : decode b_Mt_init 26 = .ok (.putfield 20, 3) := by decide +kernel
theorem d_Mt_init_29 : decode b_Mt_init 29 = .ok (.aload_n 0, 1) := by decide +kernel
theorem d_Mt_init_30 : decode b_Mt_init 30 = .ok (.new 24, 3) := by decide +kernel
theorem d_Mt_init_33 : decode b_Mt_init 33 = .ok (.dup, 1) := by decide +kernel
theorem d_Mt_init_34 : decode b_Mt_init 34 = .ok (.invokespecial 26, 3) := by decide +kernel
theorem d_Mt_init_37 : decode b_Mt_init 37 = .ok (.putfield 27, 3) := by decide +kernel
theorem d_Mt_init_40 : decode b_Mt_init 40 = .ok (.aload_n 0, 1) := by decide +kernel
theorem d_Mt_init_41 : decode b_Mt_init 41 = .ok (.new 31, 3) := by decide +kernel
theorem d_Mt_init_44 : decode b_Mt_init 44 = .ok (.dup, 1) := by decide +kernel
theorem d_Mt_init_45 : decode b_Mt_init 45 = .ok (.aload_n 0, 1) := by decide +kernel
theorem d_Mt_init_46 : decode b_Mt_init 46 = .ok (.getfield 20, 3) := by decide +kernel
theorem d_Mt_init_49 : decode b_Mt_init 49 = .ok (.aload_n 0, 1) := by decide +kernel
theorem d_Mt_init_50 : decode b_Mt_init 50 = .ok (.getfield 27, 3) := by decide +kernel
theorem d_Mt_init_53 : decode b_Mt_init 53 = .ok (.invokespecial 33, 3) := by decide +kernel
theorem d_Mt_init_56 : decode b_Mt_init 56 = .ok (.putfield 36, 3) := by decide +kernel
theorem d_Mt_init_59 : decode b_Mt_init 59 = .ok (.aload_n 0, 1) := by decide +kernel
theorem d_Mt_init_60 : decode b_Mt_init 60 = .ok (.new 40, 3) := by decide +kernel
theorem d_Mt_init_63 : decode b_Mt_init 63 = .ok (.dup, 1) := by decide +kernel
theorem d_Mt_init_64 : decode b_Mt_init 64 = .ok (.aload_n 0, 1) := by decide +kernel
theorem d_Mt_init_65 : decode b_Mt_init 65 = .ok (.getfield 27, 3) := by decide +kernel
theorem d_Mt_init_68 : decode b_Mt_init 68 = .ok (.invokespecial 42, 3) := by decide +kernel
theorem d_Mt_init_71 : decode b_Mt_init 71 = .ok (.putfield 45, 3) := by decide +kernel
theorem d_Mt_init_74 : decode b_Mt_init 74 = .ok (.return_, 1) := by decide +kernel
theorem d_Mo_init_0 : decode b_Mo_init 0 = .ok (.aload_n 0, 1) := by decide +kernel
theorem d_Mo_init_1 : decode b_Mo_init 1 = .ok (.invokespecial 1, 3) := by decide +kernel
theorem d_Mo_init_4 : decode b_Mo_init 4 = .ok (.aload_n 0, 1) := by decide +kernel
theorem d_Mo_init_5 : decode b_Mo_init 5 = .ok (.bipush 53, 2) := by decide +kernel
theorem d_Mo_init_7 : decode b_Mo_init 7 = .ok (.newarray .long, 2) := by decide +kernel
theorem d_Mo_init_9 : decode b_Mo_init 9 = .ok (.dup, 1) := by decide +kernel
theorem d_Mo_init_10 : decode b_Mo_init 10 = .ok (.iconst 0, 1) := by decide +kernel
theorem d_Mo_init_11 : decode b_Mo_init 11 = .ok (.ldc2_w 7, 3) := by decide +kernel
theorem d_Mo_init_14 : decode b_Mo_init 14 = .ok (.lastore, 1) := by decide +kernel
theorem d_Mo_init_15 : decode b_Mo_init 15 = .ok (.dup, 1) := by decide +kernel
theorem d_Mo_init_16 : decode b_Mo_init 16 = .ok (.iconst 1, 1) := by decide +kernel
theorem d_Mo_init_17 : decode b_Mo_init 17 = .ok (.ldc2_w 9, 3) := by decide +kernel
theorem d_Mo_init_20 : decode b_Mo_init 20 = .ok (.lastore, 1) := by decide +kernel
theorem d_Mo_init_21 : decode b_Mo_init 21 = .ok (.dup, 1) := by decide +kernel
theorem d_Mo_init_22 : decode b_Mo_init 22 = .ok (.iconst 2, 1) := by decide +kernel
theorem d_Mo_init_23 : decode b_Mo_init 23 = .ok (.ldc2_w 11, 3) := by decide +kernel
theorem d_Mo_init_26 : decode b_Mo_init 26 = .ok (.lastore, 1) := by decide +kernel
theorem d_Mo_init_27 : decode b_Mo_init 27 = .ok (.dup, 1) := by decide +kernel
theorem d_Mo_init_28 : decode b_Mo_init 28 = .ok (.iconst 3, 1) := by decide +kernel
theorem d_Mo_init_29 : decode b_Mo_init 29 = .ok (.ldc2_w 13, 3) := by decide +kernel
theorem d_Mo_init_32 : decode b_Mo_init 32 = .ok (.lastore, 1) := by decide +kernel
theorem d_Mo_init_33 : decode b_Mo_init 33 = .ok (.dup, 1) := by decide +kernel
theorem d_Mo_init_34 : decode b_Mo_init 34 = .ok (.iconst 4, 1) := by decide +kernel
theorem d_Mo_init_35 : decode b_Mo_init 35 = .ok (.ldc2_w 15, 3) := by decide +kernel
theorem d_Mo_init_38 : decode b_Mo_init 38 = .ok (.lastore, 1) := by decide +kernel
theorem d_Mo_init_39 : decode b_Mo_init 39 = .ok (.dup, 1) := by decide +kernel
theorem d_Mo_init_40 : decode b_Mo_init 40 = .ok (.iconst 5, 1) := by decide +kernel
theorem d_Mo_init_41 : decode b_Mo_init 41 = .ok (.ldc2_w 17, 3) := by decide +kernel
theorem d_Mo_init_44 : decode b_Mo_init 44 = .ok (.lastore, 1) := by decide +kernel
theorem d_Mo_init_45 : decode b_Mo_init 45 = .ok (.dup, 1) := by decide +kernel
theorem d_Mo_init_46 : decode b_Mo_init 46 = .ok (.bipush 6, 2) := by decide +kernel
theorem d_Mo_init_48 : decode b_Mo_init 48 = .ok (.ldc2_w 19, 3) := by decide +kernel
theorem d_Mo_init_51 : decode b_Mo_init 51 = .ok (.lastore, 1) := by decide +kernel
theorem d_Mo_init_52 : decode b_Mo_init 52 = .ok (.dup, 1) := by decide +kernel
theorem d_Mo_init_53 : decode b_Mo_init 53 = .ok (.bipush 7, 2) := by decide +kernel
theorem d_Mo_init_55 : decode b_Mo_init 55 = .ok (.ldc2_w 21, 3) := by decide +kernel
theorem d_Mo_init_58 : decode b_Mo_init 58 = .ok (.lastore, 1) := by decide +kernel
theorem d_Mo_init_59 : decode b_Mo_init 59 = .ok (.dup, 1) := by decide +kernel
theorem d_Mo_init_60 : decode b_Mo_init 60 = .ok (.bipush 8, 2) := by decide +kernel
theorem d_Mo_init_62 : decode b_Mo_init 62 = .ok (.ldc2_w 23, 3) := by decide +kernel
theorem d_Mo_init_65 : decode b_Mo_init 65 = .ok (.lastore, 1) := by decide +kernel
theorem d_Mo_init_66 : decode b_Mo_init 66 = .ok (.dup, 1) := by decide +kernel
theorem d_Mo_init_67 : decode b_Mo_init 67 = .ok (.bipush 9, 2) := by decide +kernel
theorem d_Mo_init_69 : decode b_Mo_init 69 = .ok (.ldc2_w 25, 3) := by decide +kernel
theorem d_Mo_init_72 : decode b_Mo_init 72 = .ok (.lastore, 1) := by decide +kernel
theorem d_Mo_init_73 : decode b_Mo_init 73 = .ok (.dup, 1) := by decide +kernel
theorem d_Mo_init_74 : decode b_Mo_init 74 = .ok (.bipush 10, 2) := by decide +kernel
theorem d_Mo_init_76 : decode b_Mo_init 76 = .ok (.ldc2_w 27, 3) := by decide +kernel
theorem d_Mo_init_79 : decode b_Mo_init 79 = .ok (.lastore, 1) := by decide +kernel
theorem d_Mo_init_80 : decode b_Mo_init 80 = .ok (.dup, 1) := by decide +kernel
theorem d_Mo_init_81 : decode b_Mo_init 81 = .ok (.bipush 11, 2) := by decide +kernel
theorem d_Mo_init_83 : decode b_Mo_init 83 = .ok (.ldc2_w 29, 3) := by decide +kernel
theorem d_Mo_init_86 : decode b_Mo_init 86 = .ok (.lastore, 1) := by decide +kernel
theorem d_Mo_init_87 : decode b_Mo_init 87 = .ok (.dup, 1) := by decide +kernel
theorem d_Mo_init_88 : decode b_Mo_init 88 = .ok (.bipush 12, 2) := by decide +kernel
theorem d_Mo_init_90 : decode b_Mo_init 90 = .ok (.ldc2_w 31, 3) := by decide +kernel
theorem d_Mo_init_93 : decode b_Mo_init 93 = .ok (.lastore, 1) := by decide +kernel
theorem d_Mo_init_94 : decode b_Mo_init 94 = .ok (.dup, 1) := by decide +kernel
theorem d_Mo_init_95 : decode b_Mo_init 95 = .ok (.bipush 13, 2) := by decide +kernel
theorem d_Mo_init_97 : decode b_Mo_init 97 = .ok (.ldc2_w 33, 3) := by decide +kernel
theorem d_Mo_init_100 : decode b_Mo_init 100 = .ok (.lastore, 1) := by decide +kernel
theorem d_Mo_init_101 : decode b_Mo_init 101 = .ok (.dup, 1) := by decide +kernel
theorem d_Mo_init_102 : decode b_Mo_init 102 = .ok (.bipush 14, 2) := by decide +kernel
theorem d_Mo_init_104 : decode b_Mo_init 104 = .ok (.ldc2_w 35, 3) := by decide +kernel
theorem d_Mo_init_107 : decode b_Mo_init 107 = .ok (.lastore, 1) := by decide +kernel
theorem d_Mo_init_108 : decode b_Mo_init 108 = .ok (.dup, 1) := by decide +kernel
theorem d_Mo_init_109 : decode b_Mo_init 109 = .ok (.bipush 15, 2) := by decide +kernel
theorem d_Mo_init_111 : decode b_Mo_init 111 = .ok (.ldc2_w 37, 3) := by decide +kernel
theorem d_Mo_init_114 : decode b_Mo_init 114 = .ok (.lastore, 1) := by decide +kernel
theorem d_Mo_init_115 : decode b_Mo_init 115 = .ok (.dup, 1) := by decide +kernel
theorem d_Mo_init_116 : decode b_Mo_init 116 = .ok (.bipush 16, 2) := by decide +kernel
theorem d_Mo_init_118 : decode b_Mo_init 118 = .ok (.ldc2_w 39, 3) := by decide +kernel
theorem d_Mo_init_121 : decode b_Mo_init 121 = .ok (.lastore, 1) := by decide +kernel
theorem d_Mo_init_122 : decode b_Mo_init 122 = .ok (.dup, 1) := by decide +kernel
theorem d_Mo_init_123 : decode b_Mo_init 123 = .ok (.bipush 17, 2) := by decide +kernel
theorem d_Mo_init_125 : decode b_Mo_init 125 = .ok (.ldc2_w 41, 3) := by decide +kernel
theorem d_Mo_init_128 : decode b_Mo_init 128 = .ok (.lastore, 1) := by decide +kernel
theorem d_Mo_init_129 : decode b_Mo_init 129 = .ok (.dup, 1) := by decide +kernel
theorem d_Mo_init_130 : decode b_Mo_init 130 = .ok (.bipush 18, 2) := by decide +kernel
theorem d_Mo_init_132 : decode b_Mo_init 132 = .ok (.ldc2_w 43, 3) := by decide +kernel
theorem d_Mo_init_135 : decode b_Mo_init 135 = .ok (.lastore, 1) := by decide +kernel
theorem d_Mo_init_136 : decode b_Mo_init 136 = .ok (.dup, 1) := by decide +kernel
theorem d_Mo_init_137 : decode b_Mo_init 137 = .ok (.bipush 19, 2) := by decide +kernel
theorem d_Mo_init_139 : decode b_Mo_init 139 = .ok (.ldc2_w 45, 3) := by decide +kernel
theorem d_Mo_init_142 : decode b_Mo_init 142 = .ok (.lastore, 1) := by decide +kernel
theorem d_Mo_init_143 : decode b_Mo_init 143 = .ok (.dup, 1) := by decide +kernel
theorem d_Mo_init_144 : decode b_Mo_init 144 = .ok (.bipush 20, 2) := by decide +kernel
theorem d_Mo_init_146 : decode b_Mo_init 146 = .ok (.ldc2_w 47, 3) := by decide +kernel
theorem d_Mo_init_149 : decode b_Mo_init 149 = .ok (.lastore, 1) := by decide +kernel
theorem d_Mo_init_150 : decode b_Mo_init 150 = .ok (.dup, 1) := by decide +kernel
theorem d_Mo_init_151 : decode b_Mo_init 151 = .ok (.bipush 21, 2) := by decide +kernel
theorem d_Mo_init_153 : decode b_Mo_init 153 = .ok (.ldc2_w 49, 3) := by decide +kernel
theorem d_Mo_init_156 : decode b_Mo_init 156 = .ok (.lastore, 1) := by decide +kernel
theorem d_Mo_init_157 : decode b_Mo_init 157 = .ok (.dup, 1) := by decide +kernel
theorem d_Mo_init_158 : decode b_Mo_init 158 = .ok (.bipush 22, 2) := by decide +kernel
theorem d_Mo_init_160 : decode b_Mo_init 160 = .ok (.ldc2_w 51, 3) := by decide +kernel
theorem d_Mo_init_163 : decode b_Mo_init 163 = .ok (.lastore, 1) := by decide +kernel
theorem d_Mo_init_164 : decode b_Mo_init 164 = .ok (.dup, 1) := by decide +kernel
theorem d_Mo_init_165 : decode b_Mo_init 165 = .ok (.bipush 23, 2) := by decide +kernel
theorem d_Mo_init_167 : decode b_Mo_init 167 = .ok (.ldc2_w 53, 3) := by decide +kernel
theorem d_Mo_init_170 : decode b_Mo_init 170 = .ok (.lastore, 1) := by decide +kernel
theorem d_Mo_init_171 : decode b_Mo_init 171 = .ok (.dup, 1) := by decide +kernel
theorem d_Mo_init_172 : decode b_Mo_init 172 = .ok (.bipush 24, 2) := by decide +kernel
theorem d_Mo_init_174 : decode b_Mo_init 174 = .ok (.ldc2_w 55, 3) := by decide +kernel
theorem d_Mo_init_177 : decode b_Mo_init 177 = .ok (.lastore, 1) := by decide +kernel
theorem d_Mo_init_178 : decode b_Mo_init 178 = .ok (.dup, 1) := by decide +kernel
theorem d_Mo_init_179 : decode b_Mo_init 179 = .ok (.bipush 25, 2) := by decide +kernel
theorem d_Mo_init_181 : decode b_Mo_init 181 = .ok (.ldc2_w 57, 3) := by decide +kernel
theorem d_Mo_init_184 : decode b_Mo_init 184 = .ok (.lastore, 1) := by decide +kernel
theorem d_Mo_init_185 : decode b_Mo_init 185 = .ok (.dup, 1) := by decide +kernel
theorem d_Mo_init_186 : decode b_Mo_init 186 = .ok (.bipush 26, 2) := by decide +kernel
theorem d_Mo_init_188 : decode b_Mo_init 188 = .ok (.ldc2_w 59, 3) := by decide +kernel
theorem d_Mo_init_191 : decode b_Mo_init 191 = .ok (.lastore, 1) := by decide +kernel
theorem d_Mo_init_192 : decode b_Mo_init 192 = .ok (.dup, 1) := by decide +kernel
theorem d_Mo_init_193 : decode b_Mo_init 193 = .ok (.bipush 27, 2) := by decide +kernel
theorem d_Mo_init_195 : decode b_Mo_init 195 = .ok (.ldc2_w 61, 3) := by decide +kernel
theorem d_Mo_init_198 : decode b_Mo_init 198 = .ok (.lastore, 1) := by decide +kernel
theorem d_Mo_init_199 : decode b_Mo_init 199 = .ok (.dup, 1) := by decide +kernel
theorem d_Mo_init_200 : decode b_Mo_init 200 = .ok (.bipush 28, 2) := by decide +kernel
theorem d_Mo_init_202 : decode b_Mo_init 202 = .ok (.ldc2_w 63, 3) := by decide +kernel
theorem d_Mo_init_205 : decode b_Mo_init 205 = .ok (.lastore, 1) := by decide +kernel
theorem d_Mo_init_206 : decode b_Mo_init 206 = .ok (.dup, 1) := by decide +kernel
theorem d_Mo_init_207 : decode b_Mo_init 207 = .ok (.bipush 29, 2) := by decide +kernel
theorem d_Mo_init_209 : decode b_Mo_init 209 = .ok (.ldc2_w 65, 3) := by decide +kernel
theorem d_Mo_init_212 : decode b_Mo_init 212 = .ok (.lastore, 1) := by decide +kernel
theorem d_Mo_init_213 : decode b_Mo_init 213 = .ok (.dup, 1) := by decide +kernel
theorem d_Mo_init_214 : decode b_Mo_init 214 = .ok (.bipush 30, 2) := by decide +kernel
theorem d_Mo_init_216 : decode b_Mo_init 216 = .ok (.ldc2_w 67, 3) := by decide +kernel
theorem d_Mo_init_219 : decode b_Mo_init 219 = .ok (.lastore, 1) := by decide +kernel
theorem d_Mo_init_220 : decode b_Mo_init 220 = .ok (.dup, 1) := by decide +kernel
theorem d_Mo_init_221 : decode b_Mo_init 221 = .ok (.bipush 31, 2) := by decide +kernel
theorem d_Mo_init_223 : decode b_Mo_init 223 = .ok (.ldc2_w 69, 3) := by decide +kernel
theorem d_Mo_init_226 : decode b_Mo_init 226 = .ok (.lastore, 1) := by decide +kernel
theorem d_Mo_init_227 : decode b_Mo_init 227 = .ok (.dup, 1) := by decide +kernel
theorem d_Mo_init_228 : decode b_Mo_init 228 = .ok (.bipush 32, 2) := by decide +kernel
theorem d_Mo_init_230 : decode b_Mo_init 230 = .ok (.ldc2_w 71, 3) := by decide +kernel
theorem d_Mo_init_233 : decode b_Mo_init 233 = .ok (.lastore, 1) := by decide +kernel
theorem d_Mo_init_234 : decode b_Mo_init 234 = .ok (.dup, 1) := by decide +kernel
theorem d_Mo_init_235 : decode b_Mo_init 235 = .ok (.bipush 33, 2) := by decide +kernel
theorem d_Mo_init_237 : decode b_Mo_init 237 = .ok (.ldc2_w 73, 3) := by decide +kernel
theorem d_Mo_init_240 : decode b_Mo_init 240 = .ok (.lastore, 1) := by decide +kernel
theorem d_Mo_init_241 : decode b_Mo_init 241 = .ok (.dup, 1) := by decide +kernel
theorem d_Mo_init_242 : decode b_Mo_init 242 = .ok (.bipush 34, 2) := by decide +kernel
theorem d_Mo_init_244 : decode b_Mo_init 244 = .ok (.ldc2_w 75, 3) := by decide +kernel
theorem d_Mo_init_247 : decode b_Mo_init 247 = .ok (.lastore, 1) := by decide +kernel
theorem d_Mo_init_248 : decode b_Mo_init 248 = .ok (.dup, 1) := by decide +kernel
theorem d_Mo_init_249 : decode b_Mo_init 249 = .ok (.bipush 35, 2) := by decide +kernel
theorem d_Mo_init_251 : decode b_Mo_init 251 = .ok (.ldc2_w 77, 3) := by decide +kernel
theorem d_Mo_init_254 : decode b_Mo_init 254 = .ok (.lastore, 1) := by decide +kernel
theorem d_Mo_init_255 : decode b_Mo_init 255 = .ok (.dup, 1) := by decide +kernel
theorem d_Mo_init_256 : decode b_Mo_init 256 = .ok (.bipush 36, 2) := by decide +kernel
theorem d_Mo_init_258 : decode b_Mo_init 258 = .ok (.ldc2_w 79, 3) := by decide +kernel
theorem d_Mo_init_261 : decode b_Mo_init 261 = .ok (.lastore, 1) := by decide +kernel
theorem d_Mo_init_262 : decode b_Mo_init 262 = .ok (.dup, 1) := by decide +kernel
theorem d_Mo_init_263 : decode b_Mo_init 263 = .ok (.bipush 37, 2) := by decide +kernel
theorem d_Mo_init_265 : decode b_Mo_init 265 = .ok (.ldc2_w 81, 3) := by decide +kernel
theorem d_Mo_init_268 : decode b_Mo_init 268 = .ok (.lastore, 1) := by decide +kernel
theorem d_Mo_init_269 : decode b_Mo_init 269 = .ok (.dup, 1) := by decide +kernel
theorem d_Mo_init_270 : decode b_Mo_init 270 = .ok (.bipush 38, 2) := by decide +kernel
theorem d_Mo_init_272 : decode b_Mo_init 272 = .ok (.ldc2_w 83, 3) := by decide +kernel
theorem d_Mo_init_275 : decode b_Mo_init 275 = .ok (.lastore, 1) := by decide +kernel
theorem d_Mo_init_276 : decode b_Mo_init 276 = .ok (.dup, 1) := by decide +kernel
theorem d_Mo_init_277 : decode b_Mo_init 277 = .ok (.bipush 39, 2) := by decide +kernel
theorem d_Mo_init_279 : decode b_Mo_init 279 = .ok (.ldc2_w 85, 3) := by decide +kernel
theorem d_Mo_init_282 : decode b_Mo_init 282 = .ok (.lastore, 1) := by decide +kernel
theorem d_Mo_init_283 : decode b_Mo_init 283 = .ok (.dup, 1) := by decide +kernel
theorem d_Mo_init_284 : decode b_Mo_init 284 = .ok (.bipush 40, 2) := by decide +kernel
theorem d_Mo_init_286 : decode b_Mo_init 286 = .ok (.ldc2_w 87, 3) := by decide +kernel
theorem d_Mo_init_289 : decode b_Mo_init 289 = .ok (.lastore, 1) := by decide +kernel
theorem d_Mo_init_290 : decode b_Mo_init 290 = .ok (.dup, 1) := by decide +kernel
theorem d_Mo_init_291 : decode b_Mo_init 291 = .ok (.bipush 41, 2) := by decide +kernel
theorem d_Mo_init_293 : decode b_Mo_init 293 = .ok (.ldc2_w 89, 3) := by decide +kernel
theorem d_Mo_init_296 : decode b_Mo_init 296 = .ok (.lastore, 1) := by decide +kernel
theorem d_Mo_init_297 : decode b_Mo_init 297 = .ok (.dup, 1) := by decide +kernel
theorem d_Mo_init_298 : decode b_Mo_init 298 = .ok (.bipush 42, 2) := by decide +kernel
theorem d_Mo_init_300 : decode b_Mo_init 300 = .ok (.ldc2_w 91, 3) := by decide +kernel
theorem d_Mo_init_303 : decode b_Mo_init 303 = .ok (.lastore, 1) := by decide +kernel
theorem d_Mo_init_304 : decode b_Mo_init 304 = .ok (.dup, 1) := by decide +kernel
theorem d_Mo_init_305 : decode b_Mo_init 305 = .ok (.bipush 43, 2) := by decide +kernel
theorem d_Mo_init_307 : decode b_Mo_init 307 = .ok (.ldc2_w 93, 3) := by decide +kernel
theorem d_Mo_init_310 : decode b_Mo_init 310 = .ok (.lastore, 1) := by decide +kernel
theorem d_Mo_init_311 : decode b_Mo_init 311 = .ok (.dup, 1) := by decide +kernel
theorem d_Mo_init_312 : decode b_Mo_init 312 = .ok (.bipush 44, 2) := by decide +kernel
theorem d_Mo_init_314 : decode b_Mo_init 314 = .ok (.ldc2_w 95, 3) := by decide +kernel
theorem d_Mo_init_317 : decode b_Mo_init 317 = .ok (.lastore, 1) := by decide +kernel
theorem d_Mo_init_318 : decode b_Mo_init 318 = .ok (.dup, 1) := by decide +kernel
theorem d_Mo_init_319 : decode b_Mo_init 319 = .ok (.bipush 45, 2) := by decide +kernel
theorem d_Mo_init_321 : decode b_Mo_init 321 = .ok (.ldc2_w 97, 3) := by decide +kernel
theorem d_Mo_init_324 : decode b_Mo_init 324 = .ok (.lastore, 1) := by decide +kernel
theorem d_Mo_init_325 : decode b_Mo_init 325 = .ok (.dup, 1) := by decide +kernel
theorem d_Mo_init_326 : decode b_Mo_init 326 = .ok (.bipush 46, 2) := by decide +kernel
theorem d_Mo_init_328 : decode b_Mo_init 328 = .ok (.ldc2_w 99, 3) := by decide +kernel
theorem d_Mo_init_331 : decode b_Mo_init 331 = .ok (.lastore, 1) := by decide +kernel
theorem d_Mo_init_332 : decode b_Mo_init 332 = .ok (.dup, 1) := by decide +kernel
theorem d_Mo_init_333 : decode b_Mo_init 333 = .ok (.bipush 47, 2) := by decide +kernel
theorem d_Mo_init_335 : decode b_Mo_init 335 = .ok (.ldc2_w 101, 3) := by decide +kernel
theorem d_Mo_init_338 : decode b_Mo_init 338 = .ok (.lastore, 1) := by decide +kernel
theorem d_Mo_init_339 : decode b_Mo_init 339 = .ok (.dup, 1) := by decide +kernel
theorem d_Mo_init_340 : decode b_Mo_init 340 = .ok (.bipush 48, 2) := by decide +kernel
theorem d_Mo_init_342 : decode b_Mo_init 342 = .ok (.ldc2_w 103, 3) := by decide +kernel
theorem d_Mo_init_345 : decode b_Mo_init 345 = .ok (.lastore, 1) := by decide +kernel
theorem d_Mo_init_346 : decode b_Mo_init 346 = .ok (.dup, 1) := by decide +kernel
theorem d_Mo_init_347 : decode b_Mo_init 347 = .ok (.bipush 49, 2) := by decide +kernel
theorem d_Mo_init_349 : decode b_Mo_init 349 = .ok (.ldc2_w 105, 3) := by decide +kernel
theorem d_Mo_init_352 : decode b_Mo_init 352 = .ok (.lastore, 1) := by decide +kernel
theorem d_Mo_init_353 : decode b_Mo_init 353 = .ok (.dup, 1) := by decide +kernel
theorem d_Mo_init_354 : decode b_Mo_init 354 = .ok (.bipush 50, 2) := by decide +kernel
theorem d_Mo_init_356 : decode b_Mo_init 356 = .ok (.ldc2_w 107, 3) := by decide +kernel
theorem d_Mo_init_359 : decode b_Mo_init 359 = .ok (.lastore, 1) := by decide +kernel
theorem d_Mo_init_360 : decode b_Mo_init 360 = .ok (.dup, 1) := by decide +kernel
theorem d_Mo_init_361 : decode b_Mo_init 361 = .ok (.bipush 51, 2) := by decide +kernel
theorem d_Mo_init_363 : decode b_Mo_init 363 = .ok (.ldc2_w 109, 3) := by decide +kernel
theorem d_Mo_init_366 : decode b_Mo_init 366 = .ok (.lastore, 1) := by decide +kernel
theorem d_Mo_init_367 : decode b_Mo_init 367 = .ok (.dup, 1) := by decide +kernel
theorem d_Mo_init_368 : decode b_Mo_init 368 = .ok (.bipush 52, 2) := by decide +kernel
theorem d_Mo_init_370 : decode b_Mo_init 370 = .ok (.ldc2_w 111, 3) := by decide +kernel
theorem d_Mo_init_373 : decode b_Mo_init 373 = .ok (.lastore, 1) := by decide +kernel
theorem d_Mo_init_374 : decode b_Mo_init 374 = .ok (.putfield 113, 3) := by decide +kernel
theorem d_Mo_init_377 : decode b_Mo_init 377 = .ok (.aload_n 0, 1) := by decide +kernel
theorem d_Mo_init_378 : decode b_Mo_init 378 = .ok (.bipush 53, 2) := by decide +kernel
theorem d_Mo_init_380 : decode b_Mo_init 380 = .ok (.newarray .int, 2) := by decide +kernel
theorem d_Mo_init_382 : decode b_Mo_init 382 = .ok (.dup, 1) := by decide +kernel
theorem d_Mo_init_383 : decode b_Mo_init 383 = .ok (.iconst 0, 1) := by decide +kernel
theorem d_Mo_init_384 : decode b_Mo_init 384 = .ok (.bipush 38, 2) := by decide +kernel
theorem d_Mo_init_386 : decode b_Mo_init 386 = .ok (.iastore, 1) := by decide +kernel
theorem d_Mo_init_387 : decode b_Mo_init 387 = .ok (.dup, 1) := by decide +kernel
theorem d_Mo_init_388 : decode b_Mo_init 388 = .ok (.iconst 1, 1) := by decide +kernel
theorem d_Mo_init_389 : decode b_Mo_init 389 = .ok (.bipush 38, 2) := by decide +kernel
theorem d_Mo_init_391 : decode b_Mo_init 391 = .ok (.iastore, 1) := by decide +kernel
theorem d_Mo_init_392 : decode b_Mo_init 392 = .ok (.dup, 1) := by decide +kernel
theorem d_Mo_init_393 : decode b_Mo_init 393 = .ok (.iconst 2, 1) := by decide +kernel
theorem d_Mo_init_394 : decode b_Mo_init 394 = .ok (.bipush 38, 2) := by decide +kernel
theorem d_Mo_init_396 : decode b_Mo_init 396 = .ok (.iastore, 1) := by decide +kernel
theorem d_Mo_init_397 : decode b_Mo_init 397 = .ok (.dup, 1) := by decide +kernel
theorem d_Mo_init_398 : decode b_Mo_init 398 = .ok (.iconst 3, 1) := by decide +kernel
theorem d_Mo_init_399 : decode b_Mo_init 399 = .ok (.bipush 38, 2) := by decide +kernel
theorem d_Mo_init_401 : decode b_Mo_init 401 = .ok (.iastore, 1) := by decide +kernel
theorem d_Mo_init_402 : decode b_Mo_init 402 = .ok (.dup, 1) := by decide +kernel
theorem d_Mo_init_403 : decode b_Mo_init 403 = .ok (.iconst 4, 1) := by decide +kernel
theorem d_Mo_init_404 : decode b_Mo_init 404 = .ok (.bipush 60, 2) := by decide +kernel
theorem d_Mo_init_406 : decode b_Mo_init 406 = .ok (.iastore, 1) := by decide +kernel
theorem d_Mo_init_407 : decode b_Mo_init 407 = .ok (.dup, 1) := by decide +kernel
theorem d_Mo_init_408 : decode b_Mo_init 408 = .ok (.iconst 5, 1) := by decide +kernel
theorem d_Mo_init_409 : decode b_Mo_init 409 = .ok (.bipush 60, 2) := by decide +kernel
theorem d_Mo_init_411 : decode b_Mo_init 411 = .ok (.iastore, 1) := by decide +kernel
theorem d_Mo_init_412 : decode b_Mo_init 412 = .ok (.dup, 1) := by decide +kernel
theorem d_Mo_init_413 : decode b_Mo_init 413 = .ok (.bipush 6, 2) := by decide +kernel
theorem d_Mo_init_415 : decode b_Mo_init 415 = .ok (.bipush 60, 2) := by decide +kernel
theorem d_Mo_init_417 : decode b_Mo_init 417 = .ok (.iastore, 1) := by decide +kernel
theorem d_Mo_init_418 : decode b_Mo_init 418 = .ok (.dup, 1) := by decide +kernel
theorem d_Mo_init_419 : decode b_Mo_init 419 = .ok (.bipush 7, 2) := by decide +kernel
theorem d_Mo_init_421 : decode b_Mo_init 421 = .ok (.bipush 60, 2) := by decide +kernel
theorem d_Mo_init_423 : decode b_Mo_init 423 = .ok (.iastore, 1) := by decide +kernel
theorem d_Mo_init_424 : decode b_Mo_init 424 = .ok (.dup, 1) := by decide +kernel
theorem d_Mo_init_425 : decode b_Mo_init 425 = .ok (.bipush 8, 2) := by decide +kernel
theorem d_Mo_init_427 : decode b_Mo_init 427 = .ok (.bipush 62, 2) := by decide +kernel
theorem d_Mo_init_429 : decode b_Mo_init 429 = .ok (.iastore, 1) := by decide +kernel
theorem d_Mo_init_430 : decode b_Mo_init 430 = .ok (.dup, 1) := by decide +kernel
theorem d_Mo_init_431 : decode b_Mo_init 431 = .ok (.bipush 9, 2) := by decide +kernel
theorem d_Mo_init_433 : decode b_Mo_init 433 = .ok (.bipush 62, 2) := by decide +kernel
theorem d_Mo_init_435 : decode b_Mo_init 435 = .ok (.iastore, 1) := by decide +kernel
theorem d_Mo_init_436 : decode b_Mo_init 436 = .ok (.dup, 1) := by decide +kernel
theorem d_Mo_init_437 : decode b_Mo_init 437 = .ok (.bipush 10, 2) := by decide +kernel
theorem d_Mo_init_439 : decode b_Mo_init 439 = .ok (.bipush 62, 2) := by decide +kernel
theorem d_Mo_init_441 : decode b_Mo_init 441 = .ok (.iastore, 1) := by decide +kernel
theorem d_Mo_init_442 : decode b_Mo_init 442 = .ok (.dup, 1) := by decide +kernel
theorem d_Mo_init_443 : decode b_Mo_init 443 = .ok (.bipush 11, 2) := by decide +kernel
theorem d_Mo_init_445 : decode b_Mo_init 445 = .ok (.bipush 62, 2) := by decide +kernel
theorem d_Mo_init_447 : decode b_Mo_init 447 = .ok (.iastore, 1) := by decide +kernel
theorem d_Mo_init_448 : decode b_Mo_init 448 = .ok (.dup, 1) := by decide +kernel
theorem d_Mo_init_449 : decode b_Mo_init 449 = .ok (.bipush 12, 2) := by decide +kernel
theorem d_Mo_init_451 : decode b_Mo_init 451 = .ok (.bipush 34, 2) := by decide +kernel
theorem d_Mo_init_453 : decode b_Mo_init 453 = .ok (.iastore, 1) := by decide +kernel
theorem d_Mo_init_454 : decode b_Mo_init 454 = .ok (.dup, 1) := by decide +kernel
theorem d_Mo_init_455 : decode b_Mo_init 455 = .ok (.bipush 13, 2) := by decide +kernel
theorem d_Mo_init_457 : decode b_Mo_init 457 = .ok (.bipush 34, 2) := by decide +kernel
theorem d_Mo_init_459 : decode b_Mo_init 459 = .ok (.iastore, 1) := by decide +kernel
theorem d_Mo_init_460 : decode b_Mo_init 460 = .ok (.dup, 1) := by decide +kernel
theorem d_Mo_init_461 : decode b_Mo_init 461 = .ok (.bipush 14, 2) := by decide +kernel
theorem d_Mo_init_463 : decode b_Mo_init 463 = .ok (.bipush 34, 2) := by decide +kernel
theorem d_Mo_init_465 : decode b_Mo_init 465 = .ok (.iastore, 1) := by decide +kernel
theorem d_Mo_init_466 : decode b_Mo_init 466 = .ok (.dup, 1) := by decide +kernel
theorem d_Mo_init_467 : decode b_Mo_init 467 = .ok (.bipush 15, 2) := by decide +kernel
theorem d_Mo_init_469 : decode b_Mo_init 469 = .ok (.bipush 34, 2) := by decide +kernel
theorem d_Mo_init_471 : decode b_Mo_init 471 = .ok (.iastore, 1) := by decide +kernel
theorem d_Mo_init_472 : decode b_Mo_init 472 = .ok (.dup, 1) := by decide +kernel
theorem d_Mo_init_473 : decode b_Mo_init 473 = .ok (.bipush 16, 2) := by decide +kernel
theorem d_Mo_init_475 : decode b_Mo_init 475 = .ok (.sipush 160, 3) := by decide +kernel
theorem d_Mo_init_478 : decode b_Mo_init 478 = .ok (.iastore, 1) := by decide +kernel
theorem d_Mo_init_479 : decode b_Mo_init 479 = .ok (.dup, 1) := by decide +kernel
theorem d_Mo_init_480 : decode b_Mo_init 480 = .ok (.bipush 17, 2) := by decide +kernel
theorem d_Mo_init_482 : decode b_Mo_init 482 = .ok (.sipush 160, 3) := by decide +kernel
theorem d_Mo_init_485 : decode b_Mo_init 485 = .ok (.iastore, 1) := by decide +kernel
theorem d_Mo_init_486 : decode b_Mo_init 486 = .ok (.dup, 1) := by decide +kernel
theorem d_Mo_init_487 : decode b_Mo_init 487 = .ok (.bipush 18, 2) := by decide +kernel
theorem d_Mo_init_489 : decode b_Mo_init 489 = .ok (.sipush 169, 3) := by decide +kernel
theorem d_Mo_init_492 : decode b_Mo_init 492 = .ok (.iastore, 1) := by decide +kernel
theorem d_Mo_init_493 : decode b_Mo_init 493 = .ok (.dup, 1) := by decide +kernel
theorem d_Mo_init_494 : decode b_Mo_init 494 = .ok (.bipush 19, 2) := by decide +kernel
theorem d_Mo_init_496 : decode b_Mo_init 496 = .ok (.sipush 169, 3) := by decide +kernel
theorem d_Mo_init_499 : decode b_Mo_init 499 = .ok (.iastore, 1) := by decide +kernel
theorem d_Mo_init_500 : decode b_Mo_init 500 = .ok (.dup, 1) := by decide +kernel
theorem d_Mo_init_501 : decode b_Mo_init 501 = .ok (.bipush 20, 2) := by decide +kernel
theorem d_Mo_init_503 : decode b_Mo_init 503 = .ok (.sipush 169, 3) := by decide +kernel
theorem d_Mo_init_506 : decode b_Mo_init 506 = .ok (.iastore, 1) := by decide +kernel
theorem d_Mo_init_507 : decode b_Mo_init 507 = .ok (.dup, 1) := by decide +kernel
theorem d_Mo_init_508 : decode b_Mo_init 508 = .ok (.bipush 21, 2) := by decide +kernel
theorem d_Mo_init_510 : decode b_Mo_init 510 = .ok (.sipush 169, 3) := by decide +kernel
theorem d_Mo_init_513 : decode b_Mo_init 513 = .ok (.iastore, 1) := by decide +kernel
theorem d_Mo_init_514 : decode b_Mo_init 514 = .ok (.dup, 1) := by decide +kernel
theorem d_Mo_init_515 : decode b_Mo_init 515 = .ok (.bipush 22, 2) := by decide +kernel
theorem d_Mo_init_517 : decode b_Mo_init 517 = .ok (.sipush 174, 3) := by decide +kernel
theorem d_Mo_init_520 : decode b_Mo_init 520 = .ok (.iastore, 1) := by decide +kernel
theorem d_Mo_init_521 : decode b_Mo_init 521 = .ok (.dup, 1) := by decide +kernel
theorem d_Mo_init_522 : decode b_Mo_init 522 = .ok (.bipush 23, 2) := by decide +kernel
theorem d_Mo_init_524 : decode b_Mo_init 524 = .ok (.sipush 174, 3) := by decide +kernel
theorem d_Mo_init_527 : decode b_Mo_init 527 = .ok (.iastore, 1) := by decide +kernel
theorem d_Mo_init_528 : decode b_Mo_init 528 = .ok (.dup, 1) := by decide +kernel
theorem d_Mo_init_529 : decode b_Mo_init 529 = .ok (.bipush 24, 2) := by decide +kernel
theorem d_Mo_init_531 : decode b_Mo_init 531 = .ok (.sipush 174, 3) := by decide +kernel
theorem d_Mo_init_534 : decode b_Mo_init 534 = .ok (.iastore, 1) := by decide +kernel
theorem d_Mo_init_535 : decode b_Mo_init 535 = .ok (.dup, 1) := by decide +kernel
theorem d_Mo_init_536 : decode b_Mo_init 536 = .ok (.bipush 25, 2) := by decide +kernel
theorem d_Mo_init_538 : decode b_Mo_init 538 = .ok (.sipush 174, 3) := by decide +kernel
theorem d_Mo_init_541 : decode b_Mo_init 541 = .ok (.iastore, 1) := by decide +kernel
theorem d_Mo_init_542 : decode b_Mo_init 542 = .ok (.dup, 1) := by decide +kernel
theorem d_Mo_init_543 : decode b_Mo_init 543 = .ok (.bipush 26, 2) := by decide +kernel
theorem d_Mo_init_545 : decode b_Mo_init 545 = .ok (.sipush 172, 3) := by decide +kernel
theorem d_Mo_init_548 : decode b_Mo_init 548 = .ok (.iastore, 1) := by decide +kernel
theorem d_Mo_init_549 : decode b_Mo_init 549 = .ok (.dup, 1) := by decide +kernel
theorem d_Mo_init_550 : decode b_Mo_init 550 = .ok (.bipush 27, 2) := by decide +kernel
theorem d_Mo_init_552 : decode b_Mo_init 552 = .ok (.sipush 172, 3) := by decide +kernel
theorem d_Mo_init_555 : decode b_Mo_init 555 = .ok (.iastore, 1) := by decide +kernel
theorem d_Mo_init_556 : decode b_Mo_init 556 = .ok (.dup, 1) := by decide +kernel
theorem d_Mo_init_557 : decode b_Mo_init 557 = .ok (.bipush 28, 2) := by decide +kernel
theorem d_Mo_init_559 : decode b_Mo_init 559 = .ok (.sipush 173, 3) := by decide +kernel
theorem d_Mo_init_562 : decode b_Mo_init 562 = .ok (.iastore, 1) := by decide +kernel
theorem d_Mo_init_563 : decode b_Mo_init 563 = .ok (.dup, 1) := by decide +kernel
theorem d_Mo_init_564 : decode b_Mo_init 564 = .ok (.bipush 29, 2) := by decide +kernel
theorem d_Mo_init_566 : decode b_Mo_init 566 = .ok (.sipush 173, 3) := by decide +kernel
theorem d_Mo_init_569 : decode b_Mo_init 569 = .ok (.iastore, 1) := by decide +kernel
theorem d_Mo_init_570 : decode b_Mo_init 570 = .ok (.dup, 1) := by decide +kernel
theorem d_Mo_init_571 : decode b_Mo_init 571 = .ok (.bipush 30, 2) := by decide +kernel
theorem d_Mo_init_573 : decode b_Mo_init 573 = .ok (.sipush 165, 3) := by decide +kernel
theorem d_Mo_init_576 : decode b_Mo_init 576 = .ok (.iastore, 1) := by decide +kernel
theorem d_Mo_init_577 : decode b_Mo_init 577 = .ok (.dup, 1) := by decide +kernel
theorem d_Mo_init_578 : decode b_Mo_init 578 = .ok (.bipush 31, 2) := by decide +kernel
theorem d_Mo_init_580 : decode b_Mo_init 580 = .ok (.sipush 165, 3) := by decide +kernel
theorem d_Mo_init_583 : decode b_Mo_init 583 = .ok (.iastore, 1) := by decide +kernel
theorem d_Mo_init_584 : decode b_Mo_init 584 = .ok (.dup, 1) := by decide +kernel
theorem d_Mo_init_585 : decode b_Mo_init 585 = .ok (.bipush 32, 2) := by decide +kernel
theorem d_Mo_init_587 : decode b_Mo_init 587 = .ok (.sipush 176, 3) := by decide +kernel
theorem d_Mo_init_590 : decode b_Mo_init 590 = .ok (.iastore, 1) := by decide +kernel
theorem d_Mo_init_591 : decode b_Mo_init 591 = .ok (.dup, 1) := by decide +kernel
theorem d_Mo_init_592 : decode b_Mo_init 592 = .ok (.bipush 33, 2) := by decide +kernel
theorem d_Mo_init_594 : decode b_Mo_init 594 = .ok (.sipush 176, 3) := by decide +kernel
theorem d_Mo_init_597 : decode b_Mo_init 597 = .ok (.iastore, 1) := by decide +kernel
theorem d_Mo_init_598 : decode b_Mo_init 598 = .ok (.dup, 1) := by decide +kernel
theorem d_Mo_init_599 : decode b_Mo_init 599 = .ok (.bipush 34, 2) := by decide +kernel
theorem d_Mo_init_601 : decode b_Mo_init 601 = .ok (.sipush 215, 3) := by decide +kernel
theorem d_Mo_init_604 : decode b_Mo_init 604 = .ok (.iastore, 1) := by decide +kernel
theorem d_Mo_init_605 : decode b_Mo_init 605 = .ok (.dup, 1) := by decide +kernel
theorem d_Mo_init_606 : decode b_Mo_init 606 = .ok (.bipush 35, 2) := by decide +kernel
theorem d_Mo_init_608 : decode b_Mo_init 608 = .ok (.sipush 215, 3) := by decide +kernel
theorem d_Mo_init_611 : decode b_Mo_init 611 = .ok (.iastore, 1) := by decide +kernel
theorem d_Mo_init_612 : decode b_Mo_init 612 = .ok (.dup, 1) := by decide +kernel
theorem d_Mo_init_613 : decode b_Mo_init 613 = .ok (.bipush 36, 2) := by decide +kernel
theorem d_Mo_init_615 : decode b_Mo_init 615 = .ok (.sipush 182, 3) := by decide +kernel
theorem d_Mo_init_618 : decode b_Mo_init 618 = .ok (.iastore, 1) := by decide +kernel
theorem d_Mo_init_619 : decode b_Mo_init 619 = .ok (.dup, 1) := by decide +kernel
theorem d_Mo_init_620 : decode b_Mo_init 620 = .ok (.bipush 37, 2) := by decide +kernel
theorem d_Mo_init_622 : decode b_Mo_init 622 = .ok (.sipush 182, 3) := by decide +kernel
theorem d_Mo_init_625 : decode b_Mo_init 625 = .ok (.iastore, 1) := by decide +kernel
theorem d_Mo_init_626 : decode b_Mo_init 626 = .ok (.dup, 1) := by decide +kernel
theorem d_Mo_init_627 : decode b_Mo_init 627 = .ok (.bipush 38, 2) := by decide +kernel
theorem d_Mo_init_629 : decode b_Mo_init 629 = .ok (.sipush 178, 3) := by decide +kernel
theorem d_Mo_init_632 : decode b_Mo_init 632 = .ok (.iastore, 1) := by decide +kernel
theorem d_Mo_init_633 : decode b_Mo_init 633 = .ok (.dup, 1) := by decide +kernel
theorem d_Mo_init_634 : decode b_Mo_init 634 = .ok (.bipush 39, 2) := by decide +kernel
theorem d_Mo_init_636 : decode b_Mo_init 636 = .ok (.sipush 178, 3) := by decide +kernel
theorem d_Mo_init_639 : decode b_Mo_init 639 = .ok (.iastore, 1) := by decide +kernel
theorem d_Mo_init_640 : decode b_Mo_init 640 = .ok (.dup, 1) := by decide +kernel
theorem d_Mo_init_641 : decode b_Mo_init 641 = .ok (.bipush 40, 2) := by decide +kernel
theorem d_Mo_init_643 : decode b_Mo_init 643 = .ok (.sipush 189, 3) := by decide +kernel
theorem d_Mo_init_646 : decode b_Mo_init 646 = .ok (.iastore, 1) := by decide +kernel
theorem d_Mo_init_647 : decode b_Mo_init 647 = .ok (.dup, 1) := by decide +kernel
theorem d_Mo_init_648 : decode b_Mo_init 648 = .ok (.bipush 41, 2) := by decide +kernel
theorem d_Mo_init_650 : decode b_Mo_init 650 = .ok (.sipush 189, 3) := by decide +kernel
theorem d_Mo_init_653 : decode b_Mo_init 653 = .ok (.iastore, 1) := by decide +kernel
theorem d_Mo_init_654 : decode b_Mo_init 654 = .ok (.dup, 1) := by decide +kernel
theorem d_Mo_init_655 : decode b_Mo_init 655 = .ok (.bipush 42, 2) := by decide +kernel
theorem d_Mo_init_657 : decode b_Mo_init 657 = .ok (.bipush 39, 2) := by decide +kernel
theorem d_Mo_init_659 : decode b_Mo_init 659 = .ok (.iastore, 1) := by decide +kernel
theorem d_Mo_init_660 : decode b_Mo_init 660 = .ok (.dup, 1) := by decide +kernel
theorem d_Mo_init_661 : decode b_Mo_init 661 = .ok (.bipush 43, 2) := by decide +kernel
theorem d_Mo_init_663 : decode b_Mo_init 663 = .ok (.bipush 35, 2) := by decide +kernel
theorem d_Mo_init_665 : decode b_Mo_init 665 = .ok (.iastore, 1) := by decide +kernel
theorem d_Mo_init_666 : decode b_Mo_init 666 = .ok (.dup, 1) := by decide +kernel
theorem d_Mo_init_667 : decode b_Mo_init 667 = .ok (.bipush 44, 2) := by decide +kernel
theorem d_Mo_init_669 : decode b_Mo_init 669 = .ok (.sipush 8713, 3) := by decide +kernel
theorem d_Mo_init_672 : decode b_Mo_init 672 = .ok (.iastore, 1) := by decide +kernel
theorem d_Mo_init_673 : decode b_Mo_init 673 = .ok (.dup, 1) := by decide +kernel
theorem d_Mo_init_674 : decode b_Mo_init 674 = .ok (.bipush 45, 2) := by decide +kernel
theorem d_Mo_init_676 : decode b_Mo_init 676 = .ok (.sipush 8716, 3) := by decide +kernel
theorem d_Mo_init_679 : decode b_Mo_init 679 = .ok (.iastore, 1) := by decide +kernel
theorem d_Mo_init_680 : decode b_Mo_init 680 = .ok (.dup, 1) := by decide +kernel
theorem d_Mo_init_681 : decode b_Mo_init 681 = .ok (.bipush 46, 2) := by decide +kernel
theorem d_Mo_init_683 : decode b_Mo_init 683 = .ok (.sipush 8864, 3) := by decide +kernel
theorem d_Mo_init_686 : decode b_Mo_init 686 = .ok (.iastore, 1) := by decide +kernel
theorem d_Mo_init_687 : decode b_Mo_init 687 = .ok (.dup, 1) := by decide +kernel
theorem d_Mo_init_688 : decode b_Mo_init 688 = .ok (.bipush 47, 2) := by decide +kernel
theorem d_Mo_init_690 : decode b_Mo_init 690 = .ok (.sipush 8471, 3) := by decide +kernel
theorem d_Mo_init_693 : decode b_Mo_init 693 = .ok (.iastore, 1) := by decide +kernel
theorem d_Mo_init_694 : decode b_Mo_init 694 = .ok (.dup, 1) := by decide +kernel
theorem d_Mo_init_695 : decode b_Mo_init 695 = .ok (.bipush 48, 2) := by decide +kernel
theorem d_Mo_init_697 : decode b_Mo_init 697 = .ok (.sipush 8230, 3) := by decide +kernel
theorem d_Mo_init_700 : decode b_Mo_init 700 = .ok (.iastore, 1) := by decide +kernel
theorem d_Mo_init_701 : decode b_Mo_init 701 = .ok (.dup, 1) := by decide +kernel
theorem d_Mo_init_702 : decode b_Mo_init 702 = .ok (.bipush 49, 2) := by decide +kernel
theorem d_Mo_init_704 : decode b_Mo_init 704 = .ok (.sipush 8364, 3) := by decide +kernel
theorem d_Mo_init_707 : decode b_Mo_init 707 = .ok (.iastore, 1) := by decide +kernel
theorem d_Mo_init_708 : decode b_Mo_init 708 = .ok (.dup, 1) := by decide +kernel
theorem d_Mo_init_709 : decode b_Mo_init 709 = .ok (.bipush 50, 2) := by decide +kernel
theorem d_Mo_init_711 : decode b_Mo_init 711 = .ok (.sipush 8800, 3) := by decide +kernel
theorem d_Mo_init_714 : decode b_Mo_init 714 = .ok (.iastore, 1) := by decide +kernel
theorem d_Mo_init_715 : decode b_Mo_init 715 = .ok (.dup, 1) := by decide +kernel
theorem d_Mo_init_716 : decode b_Mo_init 716 = .ok (.bipush 51, 2) := by decide +kernel
theorem d_Mo_init_718 : decode b_Mo_init 718 = .ok (.sipush 8804, 3) := by decide +kernel
theorem d_Mo_init_721 : decode b_Mo_init 721 = .ok (.iastore, 1) := by decide +kernel
theorem d_Mo_init_722 : decode b_Mo_init 722 = .ok (.dup, 1) := by decide +kernel
theorem d_Mo_init_723 : decode b_Mo_init 723 = .ok (.bipush 52, 2) := by decide +kernel
theorem d_Mo_init_725 : decode b_Mo_init 725 = .ok (.sipush 8741, 3) := by decide +kernel
theorem d_Mo_init_728 : decode b_Mo_init 728 = .ok (.iastore, 1) := by decide +kernel
theorem d_Mo_init_729 : decode b_Mo_init 729 = .ok (.putfield 119, 3) := by decide +kernel
theorem d_Mo_init_732 : decode b_Mo_init 732 = .ok (.aload_n 0, 1) := by decide +kernel
theorem d_Mo_init_733 : decode b_Mo_init 733 = .ok (.bipush 32, 2) := by decide +kernel
theorem d_Mo_init_735 : decode b_Mo_init 735 = .ok (.newarray .int, 2) := by decide +kernel
theorem d_Mo_init_737 : decode b_Mo_init 737 = .ok (.dup, 1) := by decide +kernel
theorem d_Mo_init_738 : decode b_Mo_init 738 = .ok (.iconst 0, 1) := by decide +kernel
theorem d_Mo_init_739 : decode b_Mo_init 739 = .ok (.sipush 8364, 3) := by decide +kernel
theorem d_Mo_init_742 : decode b_Mo_init 742 = .ok (.iastore, 1) := by decide +kernel
theorem d_Mo_init_743 : decode b_Mo_init 743 = .ok (.dup, 1) := by decide +kernel
theorem d_Mo_init_744 : decode b_Mo_init 744 = .ok (.iconst 1, 1) := by decide +kernel
theorem d_Mo_init_745 : decode b_Mo_init 745 = .ok (.iconst 0, 1) := by decide +kernel
theorem d_Mo_init_746 : decode b_Mo_init 746 = .ok (.iastore, 1) := by decide +kernel
theorem d_Mo_init_747 : decode b_Mo_init 747 = .ok (.dup, 1) := by decide +kernel
theorem d_Mo_init_748 : decode b_Mo_init 748 = .ok (.iconst 2, 1) := by decide +kernel
theorem d_Mo_init_749 : decode b_Mo_init 749 = .ok (.sipush 8218, 3) := by decide +kernel
theorem d_Mo_init_752 : decode b_Mo_init 752 = .ok (.iastore, 1) := by decide +kernel
theorem d_Mo_init_753 : decode b_Mo_init 753 = .ok (.dup, 1) := by decide +kernel
theorem d_Mo_init_754 : decode b_Mo_init 754 = .ok (.iconst 3, 1) := by decide +kernel
theorem d_Mo_init_755 : decode b_Mo_init 755 = .ok (.sipush 402, 3) := by decide +kernel
theorem d_Mo_init_758 : decode b_Mo_init 758 = .ok (.iastore, 1) := by decide +kernel
theorem d_Mo_init_759 : decode b_Mo_init 759 = .ok (.dup, 1) := by decide +kernel
theorem d_Mo_init_760 : decode b_Mo_init 760 = .ok (.iconst 4, 1) := by decide +kernel
theorem d_Mo_init_761 : decode b_Mo_init 761 = .ok (.sipush 8222, 3) := by decide +kernel
theorem d_Mo_init_764 : decode b_Mo_init 764 = .ok (.iastore, 1) := by decide +kernel
theorem d_Mo_init_765 : decode b_Mo_init 765 = .ok (.dup, 1) := by decide +kernel
theorem d_Mo_init_766 : decode b_Mo_init 766 = .ok (.iconst 5, 1) := by decide +kernel
theorem d_Mo_init_767 : decode b_Mo_init 767 = .ok (.sipush 8230, 3) := by decide +kernel
theorem d_Mo_init_770 : decode b_Mo_init 770 = .ok (.iastore, 1) := by decide +kernel
theorem d_Mo_init_771 : decode b_Mo_init 771 = .ok (.dup, 1) := by decide +kernel
theorem d_Mo_init_772 : decode b_Mo_init 772 = .ok (.bipush 6, 2) := by decide +kernel
theorem d_Mo_init_774 : decode b_Mo_init 774 = .ok (.sipush 8224, 3) := by decide +kernel
theorem d_Mo_init_777 : decode b_Mo_init 777 = .ok (.iastore, 1) := by decide +kernel
theorem d_Mo_init_778 : decode b_Mo_init 778 = .ok (.dup, 1) := by decide +kernel
theorem d_Mo_init_779 : decode b_Mo_init 779 = .ok (.bipush 7, 2) := by decide +kernel
theorem d_Mo_init_781 : decode b_Mo_init 781 = .ok (.sipush 8225, 3) := by decide +kernel
theorem d_Mo_init_784 : decode b_Mo_init 784 = .ok (.iastore, 1) := by decide +kernel
theorem d_Mo_init_785 : decode b_Mo_init 785 = .ok (.dup, 1) := by decide +kernel
theorem d_Mo_init_786 : decode b_Mo_init 786 = .ok (.bipush 8, 2) := by decide +kernel
theorem d_Mo_init_788 : decode b_Mo_init 788 = .ok (.sipush 710, 3) := by decide +kernel
theorem d_Mo_init_791 : decode b_Mo_init 791 = .ok (.iastore, 1) := by decide +kernel
theorem d_Mo_init_792 : decode b_Mo_init 792 = .ok (.dup, 1) := by decide +kernel
theorem d_Mo_init_793 : decode b_Mo_init 793 = .ok (.bipush 9, 2) := by decide +kernel
theorem d_Mo_init_795 : decode b_Mo_init 795 = .ok (.sipush 8240, 3) := by decide +kernel
theorem d_Mo_init_798 : decode b_Mo_init 798 = .ok (.iastore, 1) := by decide +kernel
theorem d_Mo_init_799 : decode b_Mo_init 799 = .ok (.dup, 1) := by decide +kernel
theorem d_Mo_init_800 : decode b_Mo_init 800 = .ok (.bipush 10, 2) := by decide +kernel
theorem d_Mo_init_802 : decode b_Mo_init 802 = .ok (.sipush 352, 3) := by decide +kernel
theorem d_Mo_init_805 : decode b_Mo_init 805 = .ok (.iastore, 1) := by decide +kernel
theorem d_Mo_init_806 : decode b_Mo_init 806 = .ok (.dup, 1) := by decide +kernel
theorem d_Mo_init_807 : decode b_Mo_init 807 = .ok (.bipush 11, 2) := by decide +kernel
theorem d_Mo_init_809 : decode b_Mo_init 809 = .ok (.sipush 8249, 3) := by decide +kernel
theorem d_Mo_init_812 : decode b_Mo_init 812 = .ok (.iastore, 1) := by decide +kernel
theorem d_Mo_init_813 : decode b_Mo_init 813 = .ok (.dup, 1) := by decide +kernel
theorem d_Mo_init_814 : decode b_Mo_init 814 = .ok (.bipush 12, 2) := by decide +kernel
theorem d_Mo_init_816 : decode b_Mo_init 816 = .ok (.sipush 338, 3) := by decide +kernel
theorem d_Mo_init_819 : decode b_Mo_init 819 = .ok (.iastore, 1) := by decide +kernel
theorem d_Mo_init_820 : decode b_Mo_init 820 = .ok (.dup, 1) := by decide +kernel
theorem d_Mo_init_821 : decode b_Mo_init 821 = .ok (.bipush 13, 2) := by decide +kernel
theorem d_Mo_init_823 : decode b_Mo_init 823 = .ok (.iconst 0, 1) := by decide +kernel
theorem d_Mo_init_824 : decode b_Mo_init 824 = .ok (.iastore, 1) := by decide +kernel
theorem d_Mo_init_825 : decode b_Mo_init 825 = .ok (.dup, 1) := by decide +kernel
theorem d_Mo_init_826 : decode b_Mo_init 826 = .ok (.bipush 14, 2) := by decide +kernel
theorem d_Mo_init_828 : decode b_Mo_init 828 = .ok (.sipush 381, 3) := by decide +kernel
theorem d_Mo_init_831 : decode b_Mo_init 831 = .ok (.iastore, 1) := by decide +kernel
theorem d_Mo_init_832 : decode b_Mo_init 832 = .ok (.dup, 1) := by decide +kernel
theorem d_Mo_init_833 : decode b_Mo_init 833 = .ok (.bipush 15, 2) := by decide +kernel
theorem d_Mo_init_835 : decode b_Mo_init 835 = .ok (.iconst 0, 1) := by decide +kernel
theorem d_Mo_init_836 : decode b_Mo_init 836 = .ok (.iastore, 1) := by decide +kernel
theorem d_Mo_init_837 : decode b_Mo_init 837 = .ok (.dup, 1) := by decide +kernel
theorem d_Mo_init_838 : decode b_Mo_init 838 = .ok (.bipush 16, 2) := by decide +kernel
theorem d_Mo_init_840 : decode b_Mo_init 840 = .ok (.iconst 0, 1) := by decide +kernel
theorem d_Mo_init_841 : decode b_Mo_init 841 = .ok (.iastore, 1) := by decide +kernel
theorem d_Mo_init_842 : decode b_Mo_init 842 = .ok (.dup, 1) := by decide +kernel
theorem d_Mo_init_843 : decode b_Mo_init 843 = .ok (.bipush 17, 2) := by decide +kernel
theorem d_Mo_init_845 : decode b_Mo_init 845 = .ok (.sipush 8216, 3) := by decide +kernel
theorem d_Mo_init_848 : decode b_Mo_init 848 = .ok (.iastore, 1) := by decide +kernel
theorem d_Mo_init_849 : decode b_Mo_init 849 = .ok (.dup, 1) := by decide +kernel
theorem d_Mo_init_850 : decode b_Mo_init 850 = .ok (.bipush 18, 2) := by decide +kernel
theorem d_Mo_init_852 : decode b_Mo_init 852 = .ok (.sipush 8217, 3) := by decide +kernel
theorem d_Mo_init_855 : decode b_Mo_init 855 = .ok (.iastore, 1) := by decide +kernel
theorem d_Mo_init_856 : decode b_Mo_init 856 = .ok (.dup, 1) := by decide +kernel
theorem d_Mo_init_857 : decode b_Mo_init 857 = .ok (.bipush 19, 2) := by decide +kernel
theorem d_Mo_init_859 : decode b_Mo_init 859 = .ok (.sipush 8220, 3) := by decide +kernel
theorem d_Mo_init_862 : decode b_Mo_init 862 = .ok (.iastore, 1) := by decide +kernel
theorem d_Mo_init_863 : decode b_Mo_init 863 = .ok (.dup, 1) := by decide +kernel
theorem d_Mo_init_864 : decode b_Mo_init 864 = .ok (.bipush 20, 2) := by decide +kernel
theorem d_Mo_init_866 : decode b_Mo_init 866 = .ok (.sipush 8221, 3) := by decide +kernel
theorem d_Mo_init_869 : decode b_Mo_init 869 = .ok (.iastore, 1) := by decide +kernel
theorem d_Mo_init_870 : decode b_Mo_init 870 = .ok (.dup, 1) := by decide +kernel
theorem d_Mo_init_871 : decode b_Mo_init 871 = .ok (.bipush 21, 2) := by decide +kernel
theorem d_Mo_init_873 : decode b_Mo_init 873 = .ok (.sipush 8226, 3) := by decide +kernel
theorem d_Mo_init_876 : decode b_Mo_init 876 = .ok (.iastore, 1) := by decide +kernel
theorem d_Mo_init_877 : decode b_Mo_init 877 = .ok (.dup, 1) := by decide +kernel
theorem d_Mo_init_878 : decode b_Mo_init 878 = .ok (.bipush 22, 2) := by decide +kernel
theorem d_Mo_init_880 : decode b_Mo_init 880 = .ok (.sipush 8211, 3) := by decide +kernel
theorem d_Mo_init_883 : decode b_Mo_init 883 = .ok (.iastore, 1) := by decide +kernel
theorem d_Mo_init_884 : decode b_Mo_init 884 = .ok (.dup, 1) := by decide +kernel
theorem d_Mo_init_885 : decode b_Mo_init 885 = .ok (.bipush 23, 2) := by decide +kernel
theorem d_Mo_init_887 : decode b_Mo_init 887 = .ok (.sipush 8212, 3) := by decide +kernel
theorem d_Mo_init_890 : decode b_Mo_init 890 = .ok (.iastore, 1) := by decide +kernel
theorem d_Mo_init_891 : decode b_Mo_init 891 = .ok (.dup, 1) := by decide +kernel
theorem d_Mo_init_892 : decode b_Mo_init 892 = .ok (.bipush 24, 2) := by decide +kernel
theorem d_Mo_init_894 : decode b_Mo_init 894 = .ok (.sipush 732, 3) := by decide +kernel
theorem d_Mo_init_897 : decode b_Mo_init 897 = .ok (.iastore, 1) := by decide +kernel
theorem d_Mo_init_898 : decode b_Mo_init 898 = .ok (.dup, 1) := by decide +kernel
theorem d_Mo_init_899 : decode b_Mo_init 899 = .ok (.bipush 25, 2) := by decide +kernel
theorem d_Mo_init_901 : decode b_Mo_init 901 = .ok (.sipush 8482, 3) := by decide +kernel
theorem d_Mo_init_904 : decode b_Mo_init 904 = .ok (.iastore, 1) := by decide +kernel
theorem d_Mo_init_905 : decode b_Mo_init 905 = .ok (.dup, 1) := by decide +kernel
theorem d_Mo_init_906 : decode b_Mo_init 906 = .ok (.bipush 26, 2) := by decide +kernel
theorem d_Mo_init_908 : decode b_Mo_init 908 = .ok (.sipush 353, 3) := by decide +kernel
theorem d_Mo_init_911 : decode b_Mo_init 911 = .ok (.iastore, 1) := by decide +kernel
theorem d_Mo_init_912 : decode b_Mo_init 912 = .ok (.dup, 1) := by decide +kernel
theorem d_Mo_init_913 : decode b_Mo_init 913 = .ok (.bipush 27, 2) := by decide +kernel
theorem d_Mo_init_915 : decode b_Mo_init 915 = .ok (.sipush 8250, 3) := by decide +kernel
theorem d_Mo_init_918 : decode b_Mo_init 918 = .ok (.iastore, 1) := by decide +kernel
theorem d_Mo_init_919 : decode b_Mo_init 919 = .ok (.dup, 1) := by decide +kernel
theorem d_Mo_init_920 : decode b_Mo_init 920 = .ok (.bipush 28, 2) := by decide +kernel
theorem d_Mo_init_922 : decode b_Mo_init 922 = .ok (.sipush 339, 3) := by decide +kernel
theorem d_Mo_init_925 : decode b_Mo_init 925 = .ok (.iastore, 1) := by decide +kernel
theorem d_Mo_init_926 : decode b_Mo_init 926 = .ok (.dup, 1) := by decide +kernel
theorem d_Mo_init_927 : decode b_Mo_init 927 = .ok (.bipush 29, 2) := by decide +kernel
theorem d_Mo_init_929 : decode b_Mo_init 929 = .ok (.iconst 0, 1) := by decide +kernel
theorem d_Mo_init_930 : decode b_Mo_init 930 = .ok (.iastore, 1) := by decide +kernel
theorem d_Mo_init_931 : decode b_Mo_init 931 = .ok (.dup, 1) := by decide +kernel
theorem d_Mo_init_932 : decode b_Mo_init 932 = .ok (.bipush 30, 2) := by decide +kernel
theorem d_Mo_init_934 : decode b_Mo_init 934 = .ok (.sipush 382, 3) := by decide +kernel
theorem d_Mo_init_937 : decode b_Mo_init 937 = .ok (.iastore, 1) := by decide +kernel
theorem d_Mo_init_938 : decode b_Mo_init 938 = .ok (.dup, 1) := by decide +kernel
theorem d_Mo_init_939 : decode b_Mo_init 939 = .ok (.bipush 31, 2) := by decide +kernel
theorem d_Mo_init_941 : decode b_Mo_init 941 = .ok (.sipush 376, 3) := by decide +kernel
theorem d_Mo_init_944 : decode b_Mo_init 944 = .ok (.iastore, 1) := by decide +kernel
theorem d_Mo_init_945 : decode b_Mo_init 945 = .ok (.putfield 123, 3) := by decide +kernel
theorem d_Mo_init_948 : decode b_Mo_init 948 = .ok (.aload_n 0, 1) := by decide +kernel
theorem d_Mo_init_949 : decode b_Mo_init 949 = .ok (.sipush 400, 3) := by decide +kernel
theorem d_Mo_init_952 : decode b_Mo_init 952 = .ok (.newarray .byte, 2) := by decide +kernel
theorem d_Mo_init_954 : decode b_Mo_init 954 = .ok (.putfield 126, 3) := by decide +kernel
theorem d_Mo_init_957 : decode b_Mo_init 957 = .ok (.aload_n 0, 1) := by decide +kernel
theorem d_Mo_init_958 : decode b_Mo_init 958 = .ok (.sipush 400, 3) := by decide +kernel
theorem d_Mo_init_961 : decode b_Mo_init 961 = .ok (.newarray .int, 2) := by decide +kernel
theorem d_Mo_init_963 : decode b_Mo_init 963 = .ok (.putfield 130, 3) := by decide +kernel
theorem d_Mo_init_966 : decode b_Mo_init 966 = .ok (.aload_n 0, 1) := by decide +kernel
theorem d_Mo_init_967 : decode b_Mo_init 967 = .ok (.sipush 402, 3) := by decide +kernel
theorem d_Mo_init_970 : decode b_Mo_init 970 = .ok (.newarray .int, 2) := by decide +kernel
theorem d_Mo_init_972 : decode b_Mo_init 972 = .ok (.putfield 133, 3) := by decide +kernel
theorem d_Mo_init_975 : decode b_Mo_init 975 = .ok (.aload_n 0, 1) := by decide +kernel
theorem d_Mo_init_976 : decode b_Mo_init 976 = .ok (.sipush 402, 3) := by decide +kernel
theorem d_Mo_init_979 : decode b_Mo_init 979 = .ok (.newarray .int, 2) := by decide +kernel
theorem d_Mo_init_981 : decode b_Mo_init 981 = .ok (.putfield 136, 3) := by decide +kernel
theorem d_Mo_init_984 : decode b_Mo_init 984 = .ok (.aload_n 0, 1) := by decide +kernel
theorem d_Mo_init_985 : decode b_Mo_init 985 = .ok (.sipush 402, 3) := by decide +kernel
theorem d_Mo_init_988 : decode b_Mo_init 988 = .ok (.newarray .int, 2) := by decide +kernel
theorem d_Mo_init_990 : decode b_Mo_init 990 = .ok (.putfield 139, 3) := by decide +kernel
theorem d_Mo_init_993 : decode b_Mo_init 993 = .ok (.aload_n 0, 1) := by decide +kernel
theorem d_Mo_init_994 : decode b_Mo_init 994 = .ok (.sipush 402, 3) := by decide +kernel
theorem d_Mo_init_997 : decode b_Mo_init 997 = .ok (.newarray .boolean, 2) := by decide +kernel
theorem d_Mo_init_999 : decode b_Mo_init 999 = .ok (.putfield 142, 3) := by decide +kernel
theorem d_Mo_init_1002 : decode b_Mo_init 1002 = .ok (.aload_n 0, 1) := by decide +kernel
theorem d_Mo_init_1003 : decode b_Mo_init 1003 = .ok (.sipush 402, 3) := by decide +kernel
theorem d_Mo_init_1006 : decode b_Mo_init 1006 = .ok (.newarray .int, 2) := by decide +kernel
theorem d_Mo_init_1008 : decode b_Mo_init 1008 = .ok (.putfield 146, 3) := by decide +kernel
theorem d_Mo_init_1011 : decode b_Mo_init 1011 = .ok (.aload_n 0, 1) := by decide +kernel
theorem d_Mo_init_1012 : decode b_Mo_init 1012 = .ok (.sipush 402, 3) := by decide +kernel
theorem d_Mo_init_1015 : decode b_Mo_init 1015 = .ok (.newarray .int, 2) := by decide +kernel
theorem d_Mo_init_1017 : decode b_Mo_init 1017 = .ok (.putfield 149, 3) := by decide +kernel
theorem d_Mo_init_1020 : decode b_Mo_init 1020 = .ok (.aload_n 0, 1) := by decide +kernel
theorem d_Mo_init_1021 : decode b_Mo_init 1021 = .ok (.sipush 402, 3) := by decide +kernel
theorem d_Mo_init_1024 : decode b_Mo_init 1024 = .ok (.newarray .int, 2) := by decide +kernel
theorem d_Mo_init_1026 : decode b_Mo_init 1026 = .ok (.putfield 152, 3) := by decide +kernel
theorem d_Mo_init_1029 : decode b_Mo_init 1029 = .ok (.aload_n 0, 1) := by decide +kernel
theorem d_Mo_init_1030 : decode b_Mo_init 1030 = .ok (.sipush 402, 3) := by decide +kernel
theorem d_Mo_init_1033 : decode b_Mo_init 1033 = .ok (.newarray .int, 2) := by decide +kernel
theorem d_Mo_init_1035 : decode b_Mo_init 1035 = .ok (.putfield 155, 3) := by decide +kernel
theorem d_Mo_init_1038 : decode b_Mo_init 1038 = .ok (.aload_n 0, 1) := by decide +kernel
theorem d_Mo_init_1039 : decode b_Mo_init 1039 = .ok (.sipush 402, 3) := by decide +kernel
theorem d_Mo_init_1042 : decode b_Mo_init 1042 = .ok (.newarray .int, 2) := by decide +kernel
theorem d_Mo_init_1044 : decode b_Mo_init 1044 = .ok (.putfield 158, 3) := by decide +kernel
theorem d_Mo_init_1047 : decode b_Mo_init 1047 = .ok (.aload_n 0, 1) := by decide +kernel
theorem d_Mo_init_1048 : decode b_Mo_init 1048 = .ok (.sipush 402, 3) := by decide +kernel
theorem d_Mo_init_1051 : decode b_Mo_init 1051 = .ok (.newarray .int, 2) := by decide +kernel
theorem d_Mo_init_1053 : decode b_Mo_init 1053 = .ok (.putfield 161, 3) := by decide +kernel
theorem d_Mo_init_1056 : decode b_Mo_init 1056 = .ok (.aload_n 0, 1) := by decide +kernel
theorem d_Mo_init_1057 : decode b_Mo_init 1057 = .ok (.sipush 402, 3) := by decide +kernel
theorem d_Mo_init_1060 : decode b_Mo_init 1060 = .ok (.newarray .boolean, 2) := by decide +kernel
theorem d_Mo_init_1062 : decode b_Mo_init 1062 = .ok (.putfield 164, 3) := by decide +kernel
theorem d_Mo_init_1065 : decode b_Mo_init 1065 = .ok (.aload_n 0, 1) := by decide +kernel
theorem d_Mo_init_1066 : decode b_Mo_init 1066 = .ok (.sipush 810, 3) := by decide +kernel
theorem d_Mo_init_1069 : decode b_Mo_init 1069 = .ok (.newarray .int, 2) := by decide +kernel
theorem d_Mo_init_1071 : decode b_Mo_init 1071 = .ok (.putfield 167, 3) := by decide +kernel
theorem d_Mo_init_1074 : decode b_Mo_init 1074 = .ok (.aload_n 0, 1) := by decide +kernel
theorem d_Mo_init_1075 : decode b_Mo_init 1075 = .ok (.sipush 1200, 3) := by decide +kernel
theorem d_Mo_init_1078 : decode b_Mo_init 1078 = .ok (.newarray .int, 2) := by decide +kernel
theorem d_Mo_init_1080 : decode b_Mo_init 1080 = .ok (.putfield 170, 3) := by decide +kernel
theorem d_Mo_init_1083 : decode b_Mo_init 1083 = .ok (.aload_n 0, 1) := by decide +kernel
theorem d_Mo_init_1084 : decode b_Mo_init 1084 = .ok (.sipush 1200, 3) := by decide +kernel
theorem d_Mo_init_1087 : decode b_Mo_init 1087 = .ok (.newarray .int, 2) := by decide +kernel
theorem d_Mo_init_1089 : decode b_Mo_init 1089 = .ok (.putfield 173, 3) := by decide +kernel
theorem d_Mo_init_1092 : decode b_Mo_init 1092 = .ok (.aload_n 0, 1) := by decide +kernel
theorem d_Mo_init_1093 : decode b_Mo_init 1093 = .ok (.sipush 4000, 3) := by decide +kernel
theorem d_Mo_init_1096 : decode b_Mo_init 1096 = .ok (.newarray .byte, 2) := by decide +kernel
theorem d_Mo_init_1098 : decode b_Mo_init 1098 = .ok (.putfield 176, 3) := by decide +kernel
theorem d_Mo_init_1101 : decode b_Mo_init 1101 = .ok (.return_, 1) := by decide +kernel
theorem d_CommentWays_init_0 : decode b_CommentWays_init 0 = .ok (.aload_n 0, 1) := by decide +kernel
theorem d_CommentWays_init_1 : decode b_CommentWays_init 1 = .ok (.aload_n 1, 1) := by decide +kernel
theorem d_CommentWays_init_2 : decode b_CommentWays_init 2 = .ok (.aload_n 2, 1) := by decide +kernel
theorem d_CommentWays_init_3 : decode b_CommentWays_init 3 = .ok (.invokespecial 3, 3) := by decide +kernel
theorem d_CommentWays_init_6 : decode b_CommentWays_init 6 = .ok (.aload_n 0, 1) := by decide +kernel
theorem d_CommentWays_init_7 : decode b_CommentWays_init 7 = .ok (.iconst (-1), 1) := by decide +kernel
theorem d_CommentWays_init_8 : decode b_CommentWays_init 8 = .ok (.putfield 11, 3) := by decide +kernel
theorem d_CommentWays_init_11 : decode b_CommentWays_init 11 = .ok (.return_, 1) := by decide +kernel
theorem d_DoctypeWays_init_0 : decode b_DoctypeWays_init 0 = .ok (.aload_n 0, 1) := by decide +kernel
theorem d_DoctypeWays_init_1 : decode b_DoctypeWays_init 1 = .ok (.aload_n 1, 1) := by decide +kernel
theorem d_DoctypeWays_init_2 : decode b_DoctypeWays_init 2 = .ok (.aload_n 2, 1) := by decide +kernel
theorem d_DoctypeWays_init_3 : decode b_DoctypeWays_init 3 = .ok (.invokespecial 3, 3) := by decide +kernel
theorem d_DoctypeWays_init_6 : decode b_DoctypeWays_init 6 = .ok (.return_, 1) := by decide +kernel
theorem d_Out_init_0 : decode b_Out_init 0 = .ok (.aload_n 0, 1) := by decide +kernel
theorem d_Out_init_1 : decode b_Out_init 1 = .ok (.invokespecial 3, 3) := by decide +kernel
theorem d_Out_init_4 : decode b_Out_init 4 = .ok (.aload_n 0, 1) := by decide +kernel
theorem d_Out_init_5 : decode b_Out_init 5 = .ok (.sipush 3200, 3) := by decide +kernel
theorem d_Out_init_8 : decode b_Out_init 8 = .ok (.newarray .byte, 2) := by decide +kernel
theorem d_Out_init_10 : decode b_Out_init 10 = .ok (.putfield 11, 3) := by decide +kernel
theorem d_Out_init_13 : decode b_Out_init 13 = .ok (.aload_n 0, 1) := by decide +kernel
theorem d_Out_init_14 : decode b_Out_init 14 = .ok (.iconst 0, 1) := by decide +kernel
theorem d_Out_init_15 : decode b_Out_init 15 = .ok (.putfield 15, 3) := by decide +kernel
theorem d_Out_init_18 : decode b_Out_init 18 = .ok (.aload_n 0, 1) := by decide +kernel
theorem d_Out_init_19 : decode b_Out_init 19 = .ok (.aload_n 1, 1) := by decide +kernel
theorem d_Out_init_20 : decode b_Out_init 20 = .ok (.putfield 19, 3) := by decide +kernel
theorem d_Out_init_23 : decode b_Out_init 23 = .ok (.return_, 1) := by decide +kernel
theorem d_Reader_init_0 : decode b_Reader_init 0 = .ok (.aload_n 0, 1) := by decide +kernel
theorem d_Reader_init_1 : decode b_Reader_init 1 = .ok (.aload_n 1, 1) := by decide +kernel
theorem d_Reader_init_2 : decode b_Reader_init 2 = .ok (.aload_n 2, 1) := by decide +kernel
theorem d_Reader_init_3 : decode b_Reader_init 3 = .ok (.invokespecial 3, 3) := by decide +kernel
theorem d_Reader_init_6 : decode b_Reader_init 6 = .ok (.aload_n 0, 1) := by decide +kernel
theorem d_Reader_init_7 : decode b_Reader_init 7 = .ok (.new 9, 3) := by decide +kernel
theorem d_Reader_init_10 : decode b_Reader_init 10 = .ok (.dup, 1) := by decide +kernel
theorem d_Reader_init_11 : decode b_Reader_init 11 = .ok (.aload_n 1, 1) := by decide +kernel
theorem d_Reader_init_12 : decode b_Reader_init 12 = .ok (.aload_n 2, 1) := by decide +kernel
theorem d_Reader_init_13 : decode b_Reader_init 13 = .ok (.invokespecial 11, 3) := by decide +kernel
theorem d_Reader_init_16 : decode b_Reader_init 16 = .ok (.putfield 12, 3) := by decide +kernel
theorem d_Reader_init_19 : decode b_Reader_init 19 = .ok (.aload_n 0, 1) := by decide +kernel
theorem d_Reader_init_20 : decode b_Reader_init 20 = .ok (.new 18, 3) := by decide +kernel
theorem d_Reader_init_23 : decode b_Reader_init 23 = .ok (.dup, 1) := by decide +kernel
theorem d_Reader_init_24 : decode b_Reader_init 24 = .ok (.aload_n 1, 1) := by decide +kernel
theorem d_Reader_init_25 : decode b_Reader_init 25 = .ok (.aload_n 2, 1) := by decide +kernel
theorem d_Reader_init_26 : decode b_Reader_init 26 = .ok (.aload_n 0, 1) := by decide +kernel
theorem d_Reader_init_27 : decode b_Reader_init 27 = .ok (.getfield 12, 3) := by decide +kernel
theorem d_Reader_init_30 : decode b_Reader_init 30 = .ok (.invokespecial 20, 3) := by decide +kernel
theorem d_Reader_init_33 : decode b_Reader_init 33 = .ok (.putfield 23, 3) := by decide +kernel
theorem d_Reader_init_36 : decode b_Reader_init 36 = .ok (.aload_n 0, 1) := by decide +kernel
theorem d_Reader_init_37 : decode b_Reader_init 37 = .ok (.new 27, 3) := by decide +kernel
theorem d_Reader_init_40 : decode b_Reader_init 40 = .ok (.dup, 1) := by decide +kernel
theorem d_Reader_init_41 : decode b_Reader_init 41 = .ok (.aload_n 1, 1) := by decide +kernel
theorem d_Reader_init_42 : decode b_Reader_init 42 = .ok (.aload_n 2, 1) := by decide +kernel
theorem d_Reader_init_43 : decode b_Reader_init 43 = .ok (.invokespecial 29, 3) := by decide +kernel
theorem d_Reader_init_46 : decode b_Reader_init 46 = .ok (.putfield 30, 3) := by decide +kernel
theorem d_Reader_init_49 : decode b_Reader_init 49 = .ok (.aload_n 0, 1) := by decide +kernel
theorem d_Reader_init_50 : decode b_Reader_init 50 = .ok (.new 34, 3) := by decide +kernel
theorem d_Reader_init_53 : decode b_Reader_init 53 = .ok (.dup, 1) := by decide +kernel
theorem d_Reader_init_54 : decode b_Reader_init 54 = .ok (.aload_n 1, 1) := by decide +kernel
theorem d_Reader_init_55 : decode b_Reader_init 55 = .ok (.aload_n 2, 1) := by decide +kernel
theorem d_Reader_init_56 : decode b_Reader_init 56 = .ok (.invokespecial 36, 3) := by decide +kernel
theorem d_Reader_init_59 : decode b_Reader_init 59 = .ok (.putfield 37, 3) := by decide +kernel
theorem d_Reader_init_62 : decode b_Reader_init 62 = .ok (.return_, 1) := by decide +kernel
theorem d_ReferenceWays_init_0 : decode b_ReferenceWays_init 0 = .ok (.aload_n 0, 1) := by decide +kernel
theorem d_ReferenceWays_init_1 : decode b_ReferenceWays_init 1 = .ok (.aload_n 1, 1) := by decide +kernel
theorem d_ReferenceWays_init_2 : decode b_ReferenceWays_init 2 = .ok (.aload_n 2, 1) := by decide +kernel
theorem d_ReferenceWays_init_3 : decode b_ReferenceWays_init 3 = .ok (.invokespecial 3, 3) := by decide +kernel
theorem d_ReferenceWays_init_6 : decode b_ReferenceWays_init 6 = .ok (.aload_n 0, 1) := by decide +kernel
theorem d_ReferenceWays_init_7 : decode b_ReferenceWays_init 7 = .ok (.getstatic 9, 3) := by decide +kernel
theorem d_ReferenceWays_init_10 : decode b_ReferenceWays_init 10 = .ok (.putfield 15, 3) := by decide +kernel
theorem d_ReferenceWays_init_13 : decode b_ReferenceWays_init 13 = .ok (.return_, 1) := by decide +kernel
theorem d_Source_init_0 : decode b_Source_init 0 = .ok (.aload_n 0, 1) := by decide +kernel
theorem d_Source_init_1 : decode b_Source_init 1 = .ok (.invokespecial 3, 3) := by decide +kernel
theorem d_Source_init_4 : decode b_Source_init 4 = .ok (.aload_n 0, 1) := by decide +kernel
theorem d_Source_init_5 : decode b_Source_init 5 = .ok (.sipush 400, 3) := by decide +kernel
theorem d_Source_init_8 : decode b_Source_init 8 = .ok (.newarray .int, 2) := by decide +kernel
theorem d_Source_init_10 : decode b_Source_init 10 = .ok (.putfield 9, 3) := by decide +kernel
theorem d_Source_init_13 : decode b_Source_init 13 = .ok (.aload_n 0, 1) := by decide +kernel
theorem d_Source_init_14 : decode b_Source_init 14 = .ok (.iconst 0, 1) := by decide +kernel
theorem d_Source_init_15 : decode b_Source_init 15 = .ok (.putfield 15, 3) := by decide +kernel
theorem d_Source_init_18 : decode b_Source_init 18 = .ok (.aload_n 0, 1) := by decide +kernel
theorem d_Source_init_19 : decode b_Source_init 19 = .ok (.iconst 0, 1) := by decide +kernel
theorem d_Source_init_20 : decode b_Source_init 20 = .ok (.putfield 19, 3) := by decide +kernel
theorem d_Source_init_23 : decode b_Source_init 23 = .ok (.aload_n 0, 1) := by decide +kernel
theorem d_Source_init_24 : decode b_Source_init 24 = .ok (.sipush 1203, 3) := by decide +kernel
theorem d_Source_init_27 : decode b_Source_init 27 = .ok (.newarray .int, 2) := by decide +kernel
theorem d_Source_init_29 : decode b_Source_init 29 = .ok (.putfield 22, 3) := by decide +kernel
theorem d_Source_init_32 : decode b_Source_init 32 = .ok (.aload_n 0, 1) := by decide +kernel
theorem d_Source_init_33 : decode b_Source_init 33 = .ok (.sipush 1203, 3) := by decide +kernel
theorem d_Source_init_36 : decode b_Source_init 36 = .ok (.newarray .int, 2) := by decide +kernel
theorem d_Source_init_38 : decode b_Source_init 38 = .ok (.putfield 25, 3) := by decide +kernel
theorem d_Source_init_41 : decode b_Source_init 41 = .ok (.aload_n 0, 1) := by decide +kernel
theorem d_Source_init_42 : decode b_Source_init 42 = .ok (.iconst 0, 1) := by decide +kernel
theorem d_Source_init_43 : decode b_Source_init 43 = .ok (.putfield 28, 3) := by decide +kernel
theorem d_Source_init_46 : decode b_Source_init 46 = .ok (.return_, 1) := by decide +kernel
theorem d_TagWays_init_0 : decode b_TagWays_init 0 = .ok (.aload_n 0, 1) := by decide +kernel
theorem d_TagWays_init_1 : decode b_TagWays_init 1 = .ok (.aload_n 1, 1) := by decide +kernel
theorem d_TagWays_init_2 : decode b_TagWays_init 2 = .ok (.aload_n 2, 1) := by decide +kernel
theorem d_TagWays_init_3 : decode b_TagWays_init 3 = .ok (.invokespecial 3, 3) := by decide +kernel
theorem d_TagWays_init_6 : decode b_TagWays_init 6 = .ok (.aload_n 0, 1) := by decide +kernel
theorem d_TagWays_init_7 : decode b_TagWays_init 7 = .ok (.bipush 34, 2) := by decide +kernel
theorem d_TagWays_init_9 : decode b_TagWays_init 9 = .ok (.putfield 9, 3) := by decide +kernel
theorem d_TagWays_init_12 : decode b_TagWays_init 12 = .ok (.aload_n 0, 1) := by decide +kernel
theorem d_TagWays_init_13 : decode b_TagWays_init 13 = .ok (.aload_n 3, 1) := by decide +kernel
theorem d_TagWays_init_14 : decode b_TagWays_init 14 = .ok (.putfield 15, 3) := by decide +kernel
theorem d_TagWays_init_17 : decode b_TagWays_init 17 = .ok (.return_, 1) := by decide +kernel
theorem d_Tokens_init_0 : decode b_Tokens_init 0 = .ok (.aload_n 0, 1) := by decide +kernel
theorem d_Tokens_init_1 : decode b_Tokens_init 1 = .ok (.invokespecial 3, 3) := by decide +kernel
theorem d_Tokens_init_4 : decode b_Tokens_init 4 = .ok (.aload_n 0, 1) := by decide +kernel
theorem d_Tokens_init_5 : decode b_Tokens_init 5 = .ok (.sipush 400, 3) := by decide +kernel
theorem d_Tokens_init_8 : decode b_Tokens_init 8 = .ok (.newarray .int, 2) := by decide +kernel
theorem d_Tokens_init_10 : decode b_Tokens_init 10 = .ok (.putfield 11, 3) := by decide +kernel
theorem d_Tokens_init_13 : decode b_Tokens_init 13 = .ok (.aload_n 0, 1) := by decide +kernel
theorem d_Tokens_init_14 : decode b_Tokens_init 14 = .ok (.iconst 0, 1) := by decide +kernel
theorem d_Tokens_init_15 : decode b_Tokens_init 15 = .ok (.putfield 15, 3) := by decide +kernel
theorem d_Tokens_init_18 : decode b_Tokens_init 18 = .ok (.aload_n 0, 1) := by decide +kernel
theorem d_Tokens_init_19 : decode b_Tokens_init 19 = .ok (.sipush 400, 3) := by decide +kernel
theorem d_Tokens_init_22 : decode b_Tokens_init 22 = .ok (.newarray .int, 2) := by decide +kernel
theorem d_Tokens_init_24 : decode b_Tokens_init 24 = .ok (.putfield 19, 3) := by decide +kernel
theorem d_Tokens_init_27 : decode b_Tokens_init 27 = .ok (.aload_n 0, 1) := by decide +kernel
theorem d_Tokens_init_28 : decode b_Tokens_init 28 = .ok (.sipush 400, 3) := by decide +kernel
theorem d_Tokens_init_31 : decode b_Tokens_init 31 = .ok (.newarray .int, 2) := by decide +kernel
theorem d_Tokens_init_33 : decode b_Tokens_init 33 = .ok (.putfield 22, 3) := by decide +kernel
theorem d_Tokens_init_36 : decode b_Tokens_init 36 = .ok (.aload_n 0, 1) := by decide +kernel
theorem d_Tokens_init_37 : decode b_Tokens_init 37 = .ok (.sipush 400, 3) := by decide +kernel
theorem d_Tokens_init_40 : decode b_Tokens_init 40 = .ok (.newarray .int, 2) := by decide +kernel
theorem d_Tokens_init_42 : decode b_Tokens_init 42 = .ok (.putfield 25, 3) := by decide +kernel
theorem d_Tokens_init_45 : decode b_Tokens_init 45 = .ok (.aload_n 0, 1) := by decide +kernel
theorem d_Tokens_init_46 : decode b_Tokens_init 46 = .ok (.sipush 400, 3) := by decide +kernel
theorem d_Tokens_init_49 : decode b_Tokens_init 49 = .ok (.newarray .int, 2) := by decide +kernel
theorem d_Tokens_init_51 : decode b_Tokens_init 51 = .ok (.putfield 28, 3) := by decide +kernel
theorem d_Tokens_init_54 : decode b_Tokens_init 54 = .ok (.aload_n 0, 1) := by decide +kernel
theorem d_Tokens_init_55 : decode b_Tokens_init 55 = .ok (.sipush 400, 3) := by decide +kernel
theorem d_Tokens_init_58 : decode b_Tokens_init 58 = .ok (.newarray .int, 2) := by decide +kernel
theorem d_Tokens_init_60 : decode b_Tokens_init 60 = .ok (.putfield 31, 3) := by decide +kernel
theorem d_Tokens_init_63 : decode b_Tokens_init 63 = .ok (.aload_n 0, 1) := by decide +kernel
theorem d_Tokens_init_64 : decode b_Tokens_init 64 = .ok (.sipush 400, 3) := by decide +kernel
theorem d_Tokens_init_67 : decode b_Tokens_init 67 = .ok (.newarray .int, 2) := by decide +kernel
theorem d_Tokens_init_69 : decode b_Tokens_init 69 = .ok (.putfield 34, 3) := by decide +kernel
theorem d_Tokens_init_72 : decode b_Tokens_init 72 = .ok (.aload_n 0, 1) := by decide +kernel
theorem d_Tokens_init_73 : decode b_Tokens_init 73 = .ok (.iconst 0, 1) := by decide +kernel
theorem d_Tokens_init_74 : decode b_Tokens_init 74 = .ok (.putfield 37, 3) := by decide +kernel
theorem d_Tokens_init_77 : decode b_Tokens_init 77 = .ok (.aload_n 0, 1) := by decide +kernel
theorem d_Tokens_init_78 : decode b_Tokens_init 78 = .ok (.iconst 0, 1) := by decide +kernel
theorem d_Tokens_init_79 : decode b_Tokens_init 79 = .ok (.putfield 40, 3) := by decide +kernel
theorem d_Tokens_init_82 : decode b_Tokens_init 82 = .ok (.aload_n 0, 1) := by decide +kernel
theorem d_Tokens_init_83 : decode b_Tokens_init 83 = .ok (.sipush 400, 3) := by decide +kernel
theorem d_Tokens_init_86 : decode b_Tokens_init 86 = .ok (.newarray .int, 2) := by decide +kernel
theorem d_Tokens_init_88 : decode b_Tokens_init 88 = .ok (.putfield 44, 3) := by decide +kernel
theorem d_Tokens_init_91 : decode b_Tokens_init 91 = .ok (.aload_n 0, 1) := by decide +kernel
theorem d_Tokens_init_92 : decode b_Tokens_init 92 = .ok (.sipush 400, 3) := by decide +kernel
theorem d_Tokens_init_95 : decode b_Tokens_init 95 = .ok (.newarray .int, 2) := by decide +kernel
theorem d_Tokens_init_97 : decode b_Tokens_init 97 = .ok (.putfield 47, 3) := by decide +kernel
theorem d_Tokens_init_100 : decode b_Tokens_init 100 = .ok (.aload_n 0, 1) := by decide +kernel
theorem d_Tokens_init_101 : decode b_Tokens_init 101 = .ok (.sipush 400, 3) := by decide +kernel
theorem d_Tokens_init_104 : decode b_Tokens_init 104 = .ok (.newarray .int, 2) := by decide +kernel
theorem d_Tokens_init_106 : decode b_Tokens_init 106 = .ok (.putfield 50, 3) := by decide +kernel
theorem d_Tokens_init_109 : decode b_Tokens_init 109 = .ok (.aload_n 0, 1) := by decide +kernel
theorem d_Tokens_init_110 : decode b_Tokens_init 110 = .ok (.iconst 0, 1) := by decide +kernel
theorem d_Tokens_init_111 : decode b_Tokens_init 111 = .ok (.putfield 53, 3) := by decide +kernel
theorem d_Tokens_init_114 : decode b_Tokens_init 114 = .ok (.aload_n 0, 1) := by decide +kernel
theorem d_Tokens_init_115 : decode b_Tokens_init 115 = .ok (.iconst 0, 1) := by decide +kernel
theorem d_Tokens_init_116 : decode b_Tokens_init 116 = .ok (.putfield 56, 3) := by decide +kernel
theorem d_Tokens_init_119 : decode b_Tokens_init 119 = .ok (.return_, 1) := by decide +kernel
theorem d_Ways_init_0 : decode b_Ways_init 0 = .ok (.aload_n 0, 1) := by decide +kernel
theorem d_Ways_init_1 : decode b_Ways_init 1 = .ok (.invokespecial 3, 3) := by decide +kernel
theorem d_Ways_init_4 : decode b_Ways_init 4 = .ok (.aload_n 0, 1) := by decide +kernel
theorem d_Ways_init_5 : decode b_Ways_init 5 = .ok (.aload_n 1, 1) := by decide +kernel
theorem d_Ways_init_6 : decode b_Ways_init 6 = .ok (.putfield 9, 3) := by decide +kernel
theorem d_Ways_init_9 : decode b_Ways_init 9 = .ok (.aload_n 0, 1) := by decide +kernel
theorem d_Ways_init_10 : decode b_Ways_init 10 = .ok (.aload_n 2, 1) := by decide +kernel
theorem d_Ways_init_11 : decode b_Ways_init 11 = .ok (.putfield 15, 3) := by decide +kernel
theorem d_Ways_init_14 : decode b_Ways_init 14 = .ok (.return_, 1) := by decide +kernel
