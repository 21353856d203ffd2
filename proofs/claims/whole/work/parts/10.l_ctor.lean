def ini_names : List Int64 := [7368033, 997223777, 5262657, 995118401, 29804, 3896428, 21580, 3888204, 29799, 3896423, 21575, 3888199, 1953461617, 255356532081, 1414485329, 254817555793, 1886610030, 255289680494, 2037411683, 255440482147, 1498435395, 254901505859, 6776178, 996631922, 4670802, 994526546, 7630702, 997486446, 7956595, 997812339, 7234937, 997090681, 6776164, 996631908, 495622908276, 65366808947060, 1634886000, 255037956464, 846230899, 254249301363, 55187702116966, 16662211328045670, 255339753569, 997029230, 65345401679726, 65324010729326, 16715271388359028, 16732863910145891, 16730621718848872, 255272842597, 3892590, 3892588, 997351792]
def ini_gives : List Int32 := [38, 38, 38, 38, 60, 60, 60, 60, 62, 62, 62, 62, 34, 34, 34, 34, 160, 160, 169, 169, 169, 169, 174, 174, 174, 174, 172, 172, 173, 173, 165, 165, 176, 176, 215, 215, 182, 182, 178, 178, 189, 189, 39, 35, 8713, 8716, 8864, 8471, 8230, 8364, 8800, 8804, 8741]
def ini_turned : List Int32 := [8364, 0, 8218, 402, 8222, 8230, 8224, 8225, 710, 8240, 352, 8249, 338, 0, 381, 0, 0, 8216, 8217, 8220, 8221, 8226, 8211, 8212, 732, 8482, 353, 8250, 339, 0, 382, 376]
def i0_Mo : SMo := (fillL ini_names 53, fillI ini_gives 53, fillI ini_turned 32, 0, fun _ => 0, 0, fun _ => 0, 0, 0, 0, fun _ => 0, fun _ => 0, fun _ => 0, fun _ => 0, fun _ => 0, fun _ => 0, 0, fun _ => 0, fun _ => 0, fun _ => 0, fun _ => 0, fun _ => 0, 0, fun _ => 0, 0, 0, 0, fun _ => 0, fun _ => 0, 0, fun _ => 0, 0)
abbrev wi_Mo_init (cA : Nat → ClassId) (z : gZ) (a : Nat) (u : Nat → Nat) : va_W := Wo (adof a u) cA i0_Mo
set_option maxHeartbeats 4000000 in
set_option maxRecDepth 100000 in
theorem c_Mo_init (l : Launch) (D : va_G) (cA : Nat → ClassId) (z : gZ) (a : Nat) (sz : Nat) : Met l y_Mo_init (.code y_Mo_init b_Mo_init 1 none :: lw_g) { frames := 1, cells := 20, slots := 12570, locals := 20 } (gP D (gT cA) z [.ref a] [(a, .inr (9, [.null, .null, .null, .int 0, .null, .int 0, .null, .int 0, .int 0, .int 0, .null, .null, .null, .null, .null, .null, .int 0, .null, .null, .null, .null, .null, .int 0, .null, .int 0, .int 0, .int 0, .null, .null, .int 0, .null, .int 0]))] sz) (gQc D (gT cA) (va_A [(a, .inr (9, [.null, .null, .null, .int 0, .null, .int 0, .null, .int 0, .int 0, .int 0, .null, .null, .null, .null, .null, .null, .int 0, .null, .null, .null, .null, .null, .int 0, .null, .int 0, .int 0, .int 0, .null, .null, .int 0, .null, .int 0]))] sz) (wi_Mo_init cA z a)) 20 12570 (va_A [(a, .inr (9, [.null, .null, .null, .int 0, .null, .int 0, .null, .int 0, .int 0, .int 0, .null, .null, .null, .null, .null, .null, .int 0, .null, .null, .null, .null, .null, .int 0, .null, .int 0, .int 0, .int 0, .null, .null, .int 0, .null, .int 0]))] sz) := by
  refine h_met (by decide) rfl (Nat.le_of_ble_eq_true rfl) rfl ?_
  intro p e s m args below meth c F hr hlk hmn
  refine h_aload_n F d_Mo_init_0 0 rfl ?_
  refine h_objInit F mw_1052 mw_100 mw_101 (by decide) (Nat.le_of_ble_eq_true rfl) d_Mo_init_1 ?_
  refine h_aload_n F d_Mo_init_4 0 rfl ?_
  refine h_bipush F (v := 53) d_Mo_init_5 (by decide) ?_
  refine h_newa F (ty := .long) (N' := 53) (a0 := (53, .inr (.inl (fun _ => 0)))) 2 rfl (fun _ _ h => h) mw_1203 rfl (fun _ => rfl) (by decide) rfl (Nat.le_of_ble_eq_true rfl) (Nat.le_of_ble_eq_true rfl) (Nat.le_of_ble_eq_true rfl) d_Mo_init_7 (fun q1 => ?_)
  refine h_ws (ws' := [(a, .inr (9, [.null, .null, .null, .int 0, .null, .int 0, .null, .int 0, .int 0, .int 0, .null, .null, .null, .null, .null, .null, .int 0, .null, .null, .null, .null, .null, .int 0, .null, .int 0, .int 0, .int 0, .null, .null, .int 0, .null, .int 0])), (q1, .inl (cA 2, 53, .inr (.inl (fun _ => 0))))]) rfl ?_
  refine h_ws (ws' := [(a, .inr (9, [.null, .null, .null, .int 0, .null, .int 0, .null, .int 0, .int 0, .int 0, .null, .null, .null, .null, .null, .null, .int 0, .null, .null, .null, .null, .null, .int 0, .null, .int 0, .int 0, .int 0, .null, .null, .int 0, .null, .int 0]))] ++ [(q1, .inl (cA 2, 53, .inr (.inl (fillL ini_names 0))))]) (by rw [fillL_0]; rfl) ?_
  refine h_dup F d_Mo_init_9 rfl ?_
  refine h_iconst F (v := 0) d_Mo_init_10 (by decide) ?_
  refine h_ldc2 F (v := 7368033) mw_1053 d_Mo_init_11 ?_
  refine h_fillL F (k := 0) (k' := 1) 2 rfl (show ¬ _ by decide) rfl rfl rfl d_Mo_init_14 ?_
  refine h_dup F d_Mo_init_15 rfl ?_
  refine h_iconst F (v := 1) d_Mo_init_16 (by decide) ?_
  refine h_ldc2 F (v := 997223777) mw_1054 d_Mo_init_17 ?_
  refine h_fillL F (k := 1) (k' := 2) 2 rfl (show ¬ _ by decide) rfl rfl rfl d_Mo_init_20 ?_
  refine h_dup F d_Mo_init_21 rfl ?_
  refine h_iconst F (v := 2) d_Mo_init_22 (by decide) ?_
  refine h_ldc2 F (v := 5262657) mw_1055 d_Mo_init_23 ?_
  refine h_fillL F (k := 2) (k' := 3) 2 rfl (show ¬ _ by decide) rfl rfl rfl d_Mo_init_26 ?_
  refine h_dup F d_Mo_init_27 rfl ?_
  refine h_iconst F (v := 3) d_Mo_init_28 (by decide) ?_
  refine h_ldc2 F (v := 995118401) mw_1056 d_Mo_init_29 ?_
  refine h_fillL F (k := 3) (k' := 4) 2 rfl (show ¬ _ by decide) rfl rfl rfl d_Mo_init_32 ?_
  refine h_dup F d_Mo_init_33 rfl ?_
  refine h_iconst F (v := 4) d_Mo_init_34 (by decide) ?_
  refine h_ldc2 F (v := 29804) mw_1057 d_Mo_init_35 ?_
  refine h_fillL F (k := 4) (k' := 5) 2 rfl (show ¬ _ by decide) rfl rfl rfl d_Mo_init_38 ?_
  refine h_dup F d_Mo_init_39 rfl ?_
  refine h_iconst F (v := 5) d_Mo_init_40 (by decide) ?_
  refine h_ldc2 F (v := 3896428) mw_1058 d_Mo_init_41 ?_
  refine h_fillL F (k := 5) (k' := 6) 2 rfl (show ¬ _ by decide) rfl rfl rfl d_Mo_init_44 ?_
  refine h_dup F d_Mo_init_45 rfl ?_
  refine h_bipush F (v := 6) d_Mo_init_46 (by decide) ?_
  refine h_ldc2 F (v := 21580) mw_1059 d_Mo_init_48 ?_
  refine h_fillL F (k := 6) (k' := 7) 2 rfl (show ¬ _ by decide) rfl rfl rfl d_Mo_init_51 ?_
  refine h_dup F d_Mo_init_52 rfl ?_
  refine h_bipush F (v := 7) d_Mo_init_53 (by decide) ?_
  refine h_ldc2 F (v := 3888204) mw_1060 d_Mo_init_55 ?_
  refine h_fillL F (k := 7) (k' := 8) 2 rfl (show ¬ _ by decide) rfl rfl rfl d_Mo_init_58 ?_
  refine h_dup F d_Mo_init_59 rfl ?_
  refine h_bipush F (v := 8) d_Mo_init_60 (by decide) ?_
  refine h_ldc2 F (v := 29799) mw_1061 d_Mo_init_62 ?_
  refine h_fillL F (k := 8) (k' := 9) 2 rfl (show ¬ _ by decide) rfl rfl rfl d_Mo_init_65 ?_
  refine h_dup F d_Mo_init_66 rfl ?_
  refine h_bipush F (v := 9) d_Mo_init_67 (by decide) ?_
  refine h_ldc2 F (v := 3896423) mw_1062 d_Mo_init_69 ?_
  refine h_fillL F (k := 9) (k' := 10) 2 rfl (show ¬ _ by decide) rfl rfl rfl d_Mo_init_72 ?_
  refine h_dup F d_Mo_init_73 rfl ?_
  refine h_bipush F (v := 10) d_Mo_init_74 (by decide) ?_
  refine h_ldc2 F (v := 21575) mw_1063 d_Mo_init_76 ?_
  refine h_fillL F (k := 10) (k' := 11) 2 rfl (show ¬ _ by decide) rfl rfl rfl d_Mo_init_79 ?_
  refine h_dup F d_Mo_init_80 rfl ?_
  refine h_bipush F (v := 11) d_Mo_init_81 (by decide) ?_
  refine h_ldc2 F (v := 3888199) mw_1064 d_Mo_init_83 ?_
  refine h_fillL F (k := 11) (k' := 12) 2 rfl (show ¬ _ by decide) rfl rfl rfl d_Mo_init_86 ?_
  refine h_dup F d_Mo_init_87 rfl ?_
  refine h_bipush F (v := 12) d_Mo_init_88 (by decide) ?_
  refine h_ldc2 F (v := 1953461617) mw_1065 d_Mo_init_90 ?_
  refine h_fillL F (k := 12) (k' := 13) 2 rfl (show ¬ _ by decide) rfl rfl rfl d_Mo_init_93 ?_
  refine h_dup F d_Mo_init_94 rfl ?_
  refine h_bipush F (v := 13) d_Mo_init_95 (by decide) ?_
  refine h_ldc2 F (v := 255356532081) mw_1066 d_Mo_init_97 ?_
  refine h_fillL F (k := 13) (k' := 14) 2 rfl (show ¬ _ by decide) rfl rfl rfl d_Mo_init_100 ?_
  refine h_dup F d_Mo_init_101 rfl ?_
  refine h_bipush F (v := 14) d_Mo_init_102 (by decide) ?_
  refine h_ldc2 F (v := 1414485329) mw_1067 d_Mo_init_104 ?_
  refine h_fillL F (k := 14) (k' := 15) 2 rfl (show ¬ _ by decide) rfl rfl rfl d_Mo_init_107 ?_
  refine h_dup F d_Mo_init_108 rfl ?_
  refine h_bipush F (v := 15) d_Mo_init_109 (by decide) ?_
  refine h_ldc2 F (v := 254817555793) mw_1068 d_Mo_init_111 ?_
  refine h_fillL F (k := 15) (k' := 16) 2 rfl (show ¬ _ by decide) rfl rfl rfl d_Mo_init_114 ?_
  refine h_dup F d_Mo_init_115 rfl ?_
  refine h_bipush F (v := 16) d_Mo_init_116 (by decide) ?_
  refine h_ldc2 F (v := 1886610030) mw_1069 d_Mo_init_118 ?_
  refine h_fillL F (k := 16) (k' := 17) 2 rfl (show ¬ _ by decide) rfl rfl rfl d_Mo_init_121 ?_
  refine h_dup F d_Mo_init_122 rfl ?_
  refine h_bipush F (v := 17) d_Mo_init_123 (by decide) ?_
  refine h_ldc2 F (v := 255289680494) mw_1070 d_Mo_init_125 ?_
  refine h_fillL F (k := 17) (k' := 18) 2 rfl (show ¬ _ by decide) rfl rfl rfl d_Mo_init_128 ?_
  refine h_dup F d_Mo_init_129 rfl ?_
  refine h_bipush F (v := 18) d_Mo_init_130 (by decide) ?_
  refine h_ldc2 F (v := 2037411683) mw_1071 d_Mo_init_132 ?_
  refine h_fillL F (k := 18) (k' := 19) 2 rfl (show ¬ _ by decide) rfl rfl rfl d_Mo_init_135 ?_
  refine h_dup F d_Mo_init_136 rfl ?_
  refine h_bipush F (v := 19) d_Mo_init_137 (by decide) ?_
  refine h_ldc2 F (v := 255440482147) mw_1072 d_Mo_init_139 ?_
  refine h_fillL F (k := 19) (k' := 20) 2 rfl (show ¬ _ by decide) rfl rfl rfl d_Mo_init_142 ?_
  refine h_dup F d_Mo_init_143 rfl ?_
  refine h_bipush F (v := 20) d_Mo_init_144 (by decide) ?_
  refine h_ldc2 F (v := 1498435395) mw_1073 d_Mo_init_146 ?_
  refine h_fillL F (k := 20) (k' := 21) 2 rfl (show ¬ _ by decide) rfl rfl rfl d_Mo_init_149 ?_
  refine h_dup F d_Mo_init_150 rfl ?_
  refine h_bipush F (v := 21) d_Mo_init_151 (by decide) ?_
  refine h_ldc2 F (v := 254901505859) mw_1074 d_Mo_init_153 ?_
  refine h_fillL F (k := 21) (k' := 22) 2 rfl (show ¬ _ by decide) rfl rfl rfl d_Mo_init_156 ?_
  refine h_dup F d_Mo_init_157 rfl ?_
  refine h_bipush F (v := 22) d_Mo_init_158 (by decide) ?_
  refine h_ldc2 F (v := 6776178) mw_1075 d_Mo_init_160 ?_
  refine h_fillL F (k := 22) (k' := 23) 2 rfl (show ¬ _ by decide) rfl rfl rfl d_Mo_init_163 ?_
  refine h_dup F d_Mo_init_164 rfl ?_
  refine h_bipush F (v := 23) d_Mo_init_165 (by decide) ?_
  refine h_ldc2 F (v := 996631922) mw_1076 d_Mo_init_167 ?_
  refine h_fillL F (k := 23) (k' := 24) 2 rfl (show ¬ _ by decide) rfl rfl rfl d_Mo_init_170 ?_
  refine h_dup F d_Mo_init_171 rfl ?_
  refine h_bipush F (v := 24) d_Mo_init_172 (by decide) ?_
  refine h_ldc2 F (v := 4670802) mw_1077 d_Mo_init_174 ?_
  refine h_fillL F (k := 24) (k' := 25) 2 rfl (show ¬ _ by decide) rfl rfl rfl d_Mo_init_177 ?_
  refine h_dup F d_Mo_init_178 rfl ?_
  refine h_bipush F (v := 25) d_Mo_init_179 (by decide) ?_
  refine h_ldc2 F (v := 994526546) mw_1078 d_Mo_init_181 ?_
  refine h_fillL F (k := 25) (k' := 26) 2 rfl (show ¬ _ by decide) rfl rfl rfl d_Mo_init_184 ?_
  refine h_dup F d_Mo_init_185 rfl ?_
  refine h_bipush F (v := 26) d_Mo_init_186 (by decide) ?_
  refine h_ldc2 F (v := 7630702) mw_1079 d_Mo_init_188 ?_
  refine h_fillL F (k := 26) (k' := 27) 2 rfl (show ¬ _ by decide) rfl rfl rfl d_Mo_init_191 ?_
  refine h_dup F d_Mo_init_192 rfl ?_
  refine h_bipush F (v := 27) d_Mo_init_193 (by decide) ?_
  refine h_ldc2 F (v := 997486446) mw_1080 d_Mo_init_195 ?_
  refine h_fillL F (k := 27) (k' := 28) 2 rfl (show ¬ _ by decide) rfl rfl rfl d_Mo_init_198 ?_
  refine h_dup F d_Mo_init_199 rfl ?_
  refine h_bipush F (v := 28) d_Mo_init_200 (by decide) ?_
  refine h_ldc2 F (v := 7956595) mw_1081 d_Mo_init_202 ?_
  refine h_fillL F (k := 28) (k' := 29) 2 rfl (show ¬ _ by decide) rfl rfl rfl d_Mo_init_205 ?_
  refine h_dup F d_Mo_init_206 rfl ?_
  refine h_bipush F (v := 29) d_Mo_init_207 (by decide) ?_
  refine h_ldc2 F (v := 997812339) mw_1082 d_Mo_init_209 ?_
  refine h_fillL F (k := 29) (k' := 30) 2 rfl (show ¬ _ by decide) rfl rfl rfl d_Mo_init_212 ?_
  refine h_dup F d_Mo_init_213 rfl ?_
  refine h_bipush F (v := 30) d_Mo_init_214 (by decide) ?_
  refine h_ldc2 F (v := 7234937) mw_1083 d_Mo_init_216 ?_
  refine h_fillL F (k := 30) (k' := 31) 2 rfl (show ¬ _ by decide) rfl rfl rfl d_Mo_init_219 ?_
  refine h_dup F d_Mo_init_220 rfl ?_
  refine h_bipush F (v := 31) d_Mo_init_221 (by decide) ?_
  refine h_ldc2 F (v := 997090681) mw_1084 d_Mo_init_223 ?_
  refine h_fillL F (k := 31) (k' := 32) 2 rfl (show ¬ _ by decide) rfl rfl rfl d_Mo_init_226 ?_
  refine h_dup F d_Mo_init_227 rfl ?_
  refine h_bipush F (v := 32) d_Mo_init_228 (by decide) ?_
  refine h_ldc2 F (v := 6776164) mw_1085 d_Mo_init_230 ?_
  refine h_fillL F (k := 32) (k' := 33) 2 rfl (show ¬ _ by decide) rfl rfl rfl d_Mo_init_233 ?_
  refine h_dup F d_Mo_init_234 rfl ?_
  refine h_bipush F (v := 33) d_Mo_init_235 (by decide) ?_
  refine h_ldc2 F (v := 996631908) mw_1086 d_Mo_init_237 ?_
  refine h_fillL F (k := 33) (k' := 34) 2 rfl (show ¬ _ by decide) rfl rfl rfl d_Mo_init_240 ?_
  refine h_dup F d_Mo_init_241 rfl ?_
  refine h_bipush F (v := 34) d_Mo_init_242 (by decide) ?_
  refine h_ldc2 F (v := 495622908276) mw_1087 d_Mo_init_244 ?_
  refine h_fillL F (k := 34) (k' := 35) 2 rfl (show ¬ _ by decide) rfl rfl rfl d_Mo_init_247 ?_
  refine h_dup F d_Mo_init_248 rfl ?_
  refine h_bipush F (v := 35) d_Mo_init_249 (by decide) ?_
  refine h_ldc2 F (v := 65366808947060) mw_1088 d_Mo_init_251 ?_
  refine h_fillL F (k := 35) (k' := 36) 2 rfl (show ¬ _ by decide) rfl rfl rfl d_Mo_init_254 ?_
  refine h_dup F d_Mo_init_255 rfl ?_
  refine h_bipush F (v := 36) d_Mo_init_256 (by decide) ?_
  refine h_ldc2 F (v := 1634886000) mw_1089 d_Mo_init_258 ?_
  refine h_fillL F (k := 36) (k' := 37) 2 rfl (show ¬ _ by decide) rfl rfl rfl d_Mo_init_261 ?_
  refine h_dup F d_Mo_init_262 rfl ?_
  refine h_bipush F (v := 37) d_Mo_init_263 (by decide) ?_
  refine h_ldc2 F (v := 255037956464) mw_1090 d_Mo_init_265 ?_
  refine h_fillL F (k := 37) (k' := 38) 2 rfl (show ¬ _ by decide) rfl rfl rfl d_Mo_init_268 ?_
  refine h_dup F d_Mo_init_269 rfl ?_
  refine h_bipush F (v := 38) d_Mo_init_270 (by decide) ?_
  refine h_ldc2 F (v := 846230899) mw_1091 d_Mo_init_272 ?_
  refine h_fillL F (k := 38) (k' := 39) 2 rfl (show ¬ _ by decide) rfl rfl rfl d_Mo_init_275 ?_
  refine h_dup F d_Mo_init_276 rfl ?_
  refine h_bipush F (v := 39) d_Mo_init_277 (by decide) ?_
  refine h_ldc2 F (v := 254249301363) mw_1092 d_Mo_init_279 ?_
  refine h_fillL F (k := 39) (k' := 40) 2 rfl (show ¬ _ by decide) rfl rfl rfl d_Mo_init_282 ?_
  refine h_dup F d_Mo_init_283 rfl ?_
  refine h_bipush F (v := 40) d_Mo_init_284 (by decide) ?_
  refine h_ldc2 F (v := 55187702116966) mw_1093 d_Mo_init_286 ?_
  refine h_fillL F (k := 40) (k' := 41) 2 rfl (show ¬ _ by decide) rfl rfl rfl d_Mo_init_289 ?_
  refine h_dup F d_Mo_init_290 rfl ?_
  refine h_bipush F (v := 41) d_Mo_init_291 (by decide) ?_
  refine h_ldc2 F (v := 16662211328045670) mw_1094 d_Mo_init_293 ?_
  refine h_fillL F (k := 41) (k' := 42) 2 rfl (show ¬ _ by decide) rfl rfl rfl d_Mo_init_296 ?_
  refine h_dup F d_Mo_init_297 rfl ?_
  refine h_bipush F (v := 42) d_Mo_init_298 (by decide) ?_
  refine h_ldc2 F (v := 255339753569) mw_1095 d_Mo_init_300 ?_
  refine h_fillL F (k := 42) (k' := 43) 2 rfl (show ¬ _ by decide) rfl rfl rfl d_Mo_init_303 ?_
  refine h_dup F d_Mo_init_304 rfl ?_
  refine h_bipush F (v := 43) d_Mo_init_305 (by decide) ?_
  refine h_ldc2 F (v := 997029230) mw_1096 d_Mo_init_307 ?_
  refine h_fillL F (k := 43) (k' := 44) 2 rfl (show ¬ _ by decide) rfl rfl rfl d_Mo_init_310 ?_
  refine h_dup F d_Mo_init_311 rfl ?_
  refine h_bipush F (v := 44) d_Mo_init_312 (by decide) ?_
  refine h_ldc2 F (v := 65345401679726) mw_1097 d_Mo_init_314 ?_
  refine h_fillL F (k := 44) (k' := 45) 2 rfl (show ¬ _ by decide) rfl rfl rfl d_Mo_init_317 ?_
  refine h_dup F d_Mo_init_318 rfl ?_
  refine h_bipush F (v := 45) d_Mo_init_319 (by decide) ?_
  refine h_ldc2 F (v := 65324010729326) mw_1098 d_Mo_init_321 ?_
  refine h_fillL F (k := 45) (k' := 46) 2 rfl (show ¬ _ by decide) rfl rfl rfl d_Mo_init_324 ?_
  refine h_dup F d_Mo_init_325 rfl ?_
  refine h_bipush F (v := 46) d_Mo_init_326 (by decide) ?_
  refine h_ldc2 F (v := 16715271388359028) mw_1099 d_Mo_init_328 ?_
  refine h_fillL F (k := 46) (k' := 47) 2 rfl (show ¬ _ by decide) rfl rfl rfl d_Mo_init_331 ?_
  refine h_dup F d_Mo_init_332 rfl ?_
  refine h_bipush F (v := 47) d_Mo_init_333 (by decide) ?_
  refine h_ldc2 F (v := 16732863910145891) mw_1100 d_Mo_init_335 ?_
  refine h_fillL F (k := 47) (k' := 48) 2 rfl (show ¬ _ by decide) rfl rfl rfl d_Mo_init_338 ?_
  refine h_dup F d_Mo_init_339 rfl ?_
  refine h_bipush F (v := 48) d_Mo_init_340 (by decide) ?_
  refine h_ldc2 F (v := 16730621718848872) mw_1101 d_Mo_init_342 ?_
  refine h_fillL F (k := 48) (k' := 49) 2 rfl (show ¬ _ by decide) rfl rfl rfl d_Mo_init_345 ?_
  refine h_dup F d_Mo_init_346 rfl ?_
  refine h_bipush F (v := 49) d_Mo_init_347 (by decide) ?_
  refine h_ldc2 F (v := 255272842597) mw_1102 d_Mo_init_349 ?_
  refine h_fillL F (k := 49) (k' := 50) 2 rfl (show ¬ _ by decide) rfl rfl rfl d_Mo_init_352 ?_
  refine h_dup F d_Mo_init_353 rfl ?_
  refine h_bipush F (v := 50) d_Mo_init_354 (by decide) ?_
  refine h_ldc2 F (v := 3892590) mw_1103 d_Mo_init_356 ?_
  refine h_fillL F (k := 50) (k' := 51) 2 rfl (show ¬ _ by decide) rfl rfl rfl d_Mo_init_359 ?_
  refine h_dup F d_Mo_init_360 rfl ?_
  refine h_bipush F (v := 51) d_Mo_init_361 (by decide) ?_
  refine h_ldc2 F (v := 3892588) mw_1104 d_Mo_init_363 ?_
  refine h_fillL F (k := 51) (k' := 52) 2 rfl (show ¬ _ by decide) rfl rfl rfl d_Mo_init_366 ?_
  refine h_dup F d_Mo_init_367 rfl ?_
  refine h_bipush F (v := 52) d_Mo_init_368 (by decide) ?_
  refine h_ldc2 F (v := 997351792) mw_1105 d_Mo_init_370 ?_
  refine h_fillL F (k := 52) (k' := 53) 2 rfl (show ¬ _ by decide) rfl rfl rfl d_Mo_init_373 ?_
  refine h_ws (ws' := [(a, .inr (9, [.null, .null, .null, .int 0, .null, .int 0, .null, .int 0, .int 0, .int 0, .null, .null, .null, .null, .null, .null, .int 0, .null, .null, .null, .null, .null, .int 0, .null, .int 0, .int 0, .int 0, .null, .null, .int 0, .null, .int 0])), (q1, .inl (cA 2, 53, .inr (.inl (fillL ini_names 53))))]) rfl ?_
  refine h_putF F in_X13 0 rfl rfl 0 (by decide) tyX13 tyX13_ok nmX13 mw_1106 rfl hmn rfl rfl rfl (Nat.le_of_ble_eq_true rfl) (ws' := [(a, .inr (9, [.ref q1, .null, .null, .int 0, .null, .int 0, .null, .int 0, .int 0, .int 0, .null, .null, .null, .null, .null, .null, .int 0, .null, .null, .null, .null, .null, .int 0, .null, .int 0, .int 0, .int 0, .null, .null, .int 0, .null, .int 0])), (q1, .inl (cA 2, 53, .inr (.inl (fillL ini_names 53))))]) rfl d_Mo_init_374 ?_
  refine h_aload_n F d_Mo_init_377 0 rfl ?_
  refine h_bipush F (v := 53) d_Mo_init_378 (by decide) ?_
  refine h_newa F (ty := .int) (N' := 53) (a0 := (53, .inl (fun _ => 0))) 0 rfl (fun _ _ h => h) mw_128 rfl (fun _ => rfl) (by decide) rfl (Nat.le_of_ble_eq_true rfl) (Nat.le_of_ble_eq_true rfl) (Nat.le_of_ble_eq_true rfl) d_Mo_init_380 (fun q2 => ?_)
  refine h_ws (ws' := [(a, .inr (9, [.ref q1, .null, .null, .int 0, .null, .int 0, .null, .int 0, .int 0, .int 0, .null, .null, .null, .null, .null, .null, .int 0, .null, .null, .null, .null, .null, .int 0, .null, .int 0, .int 0, .int 0, .null, .null, .int 0, .null, .int 0])), (q1, .inl (cA 2, 53, .inr (.inl (fillL ini_names 53)))), (q2, .inl (cA 0, 53, .inl (fun _ => 0)))]) rfl ?_
  refine h_ws (ws' := [(a, .inr (9, [.ref q1, .null, .null, .int 0, .null, .int 0, .null, .int 0, .int 0, .int 0, .null, .null, .null, .null, .null, .null, .int 0, .null, .null, .null, .null, .null, .int 0, .null, .int 0, .int 0, .int 0, .null, .null, .int 0, .null, .int 0])), (q1, .inl (cA 2, 53, .inr (.inl (fillL ini_names 53))))] ++ [(q2, .inl (cA 0, 53, .inl (fillI ini_gives 0)))]) (by rw [fillI_0]; rfl) ?_
  refine h_dup F d_Mo_init_382 rfl ?_
  refine h_iconst F (v := 0) d_Mo_init_383 (by decide) ?_
  refine h_bipush F (v := 38) d_Mo_init_384 (by decide) ?_
  refine h_fillI F (k := 0) (k' := 1) 0 rfl (show ¬ _ by decide) rfl rfl rfl d_Mo_init_386 ?_
  refine h_dup F d_Mo_init_387 rfl ?_
  refine h_iconst F (v := 1) d_Mo_init_388 (by decide) ?_
  refine h_bipush F (v := 38) d_Mo_init_389 (by decide) ?_
  refine h_fillI F (k := 1) (k' := 2) 0 rfl (show ¬ _ by decide) rfl rfl rfl d_Mo_init_391 ?_
  refine h_dup F d_Mo_init_392 rfl ?_
  refine h_iconst F (v := 2) d_Mo_init_393 (by decide) ?_
  refine h_bipush F (v := 38) d_Mo_init_394 (by decide) ?_
  refine h_fillI F (k := 2) (k' := 3) 0 rfl (show ¬ _ by decide) rfl rfl rfl d_Mo_init_396 ?_
  refine h_dup F d_Mo_init_397 rfl ?_
  refine h_iconst F (v := 3) d_Mo_init_398 (by decide) ?_
  refine h_bipush F (v := 38) d_Mo_init_399 (by decide) ?_
  refine h_fillI F (k := 3) (k' := 4) 0 rfl (show ¬ _ by decide) rfl rfl rfl d_Mo_init_401 ?_
  refine h_dup F d_Mo_init_402 rfl ?_
  refine h_iconst F (v := 4) d_Mo_init_403 (by decide) ?_
  refine h_bipush F (v := 60) d_Mo_init_404 (by decide) ?_
  refine h_fillI F (k := 4) (k' := 5) 0 rfl (show ¬ _ by decide) rfl rfl rfl d_Mo_init_406 ?_
  refine h_dup F d_Mo_init_407 rfl ?_
  refine h_iconst F (v := 5) d_Mo_init_408 (by decide) ?_
  refine h_bipush F (v := 60) d_Mo_init_409 (by decide) ?_
  refine h_fillI F (k := 5) (k' := 6) 0 rfl (show ¬ _ by decide) rfl rfl rfl d_Mo_init_411 ?_
  refine h_dup F d_Mo_init_412 rfl ?_
  refine h_bipush F (v := 6) d_Mo_init_413 (by decide) ?_
  refine h_bipush F (v := 60) d_Mo_init_415 (by decide) ?_
  refine h_fillI F (k := 6) (k' := 7) 0 rfl (show ¬ _ by decide) rfl rfl rfl d_Mo_init_417 ?_
  refine h_dup F d_Mo_init_418 rfl ?_
  refine h_bipush F (v := 7) d_Mo_init_419 (by decide) ?_
  refine h_bipush F (v := 60) d_Mo_init_421 (by decide) ?_
  refine h_fillI F (k := 7) (k' := 8) 0 rfl (show ¬ _ by decide) rfl rfl rfl d_Mo_init_423 ?_
  refine h_dup F d_Mo_init_424 rfl ?_
  refine h_bipush F (v := 8) d_Mo_init_425 (by decide) ?_
  refine h_bipush F (v := 62) d_Mo_init_427 (by decide) ?_
  refine h_fillI F (k := 8) (k' := 9) 0 rfl (show ¬ _ by decide) rfl rfl rfl d_Mo_init_429 ?_
  refine h_dup F d_Mo_init_430 rfl ?_
  refine h_bipush F (v := 9) d_Mo_init_431 (by decide) ?_
  refine h_bipush F (v := 62) d_Mo_init_433 (by decide) ?_
  refine h_fillI F (k := 9) (k' := 10) 0 rfl (show ¬ _ by decide) rfl rfl rfl d_Mo_init_435 ?_
  refine h_dup F d_Mo_init_436 rfl ?_
  refine h_bipush F (v := 10) d_Mo_init_437 (by decide) ?_
  refine h_bipush F (v := 62) d_Mo_init_439 (by decide) ?_
  refine h_fillI F (k := 10) (k' := 11) 0 rfl (show ¬ _ by decide) rfl rfl rfl d_Mo_init_441 ?_
  refine h_dup F d_Mo_init_442 rfl ?_
  refine h_bipush F (v := 11) d_Mo_init_443 (by decide) ?_
  refine h_bipush F (v := 62) d_Mo_init_445 (by decide) ?_
  refine h_fillI F (k := 11) (k' := 12) 0 rfl (show ¬ _ by decide) rfl rfl rfl d_Mo_init_447 ?_
  refine h_dup F d_Mo_init_448 rfl ?_
  refine h_bipush F (v := 12) d_Mo_init_449 (by decide) ?_
  refine h_bipush F (v := 34) d_Mo_init_451 (by decide) ?_
  refine h_fillI F (k := 12) (k' := 13) 0 rfl (show ¬ _ by decide) rfl rfl rfl d_Mo_init_453 ?_
  refine h_dup F d_Mo_init_454 rfl ?_
  refine h_bipush F (v := 13) d_Mo_init_455 (by decide) ?_
  refine h_bipush F (v := 34) d_Mo_init_457 (by decide) ?_
  refine h_fillI F (k := 13) (k' := 14) 0 rfl (show ¬ _ by decide) rfl rfl rfl d_Mo_init_459 ?_
  refine h_dup F d_Mo_init_460 rfl ?_
  refine h_bipush F (v := 14) d_Mo_init_461 (by decide) ?_
  refine h_bipush F (v := 34) d_Mo_init_463 (by decide) ?_
  refine h_fillI F (k := 14) (k' := 15) 0 rfl (show ¬ _ by decide) rfl rfl rfl d_Mo_init_465 ?_
  refine h_dup F d_Mo_init_466 rfl ?_
  refine h_bipush F (v := 15) d_Mo_init_467 (by decide) ?_
  refine h_bipush F (v := 34) d_Mo_init_469 (by decide) ?_
  refine h_fillI F (k := 15) (k' := 16) 0 rfl (show ¬ _ by decide) rfl rfl rfl d_Mo_init_471 ?_
  refine h_dup F d_Mo_init_472 rfl ?_
  refine h_bipush F (v := 16) d_Mo_init_473 (by decide) ?_
  refine h_sipush F (v := 160) d_Mo_init_475 (by decide) ?_
  refine h_fillI F (k := 16) (k' := 17) 0 rfl (show ¬ _ by decide) rfl rfl rfl d_Mo_init_478 ?_
  refine h_dup F d_Mo_init_479 rfl ?_
  refine h_bipush F (v := 17) d_Mo_init_480 (by decide) ?_
  refine h_sipush F (v := 160) d_Mo_init_482 (by decide) ?_
  refine h_fillI F (k := 17) (k' := 18) 0 rfl (show ¬ _ by decide) rfl rfl rfl d_Mo_init_485 ?_
  refine h_dup F d_Mo_init_486 rfl ?_
  refine h_bipush F (v := 18) d_Mo_init_487 (by decide) ?_
  refine h_sipush F (v := 169) d_Mo_init_489 (by decide) ?_
  refine h_fillI F (k := 18) (k' := 19) 0 rfl (show ¬ _ by decide) rfl rfl rfl d_Mo_init_492 ?_
  refine h_dup F d_Mo_init_493 rfl ?_
  refine h_bipush F (v := 19) d_Mo_init_494 (by decide) ?_
  refine h_sipush F (v := 169) d_Mo_init_496 (by decide) ?_
  refine h_fillI F (k := 19) (k' := 20) 0 rfl (show ¬ _ by decide) rfl rfl rfl d_Mo_init_499 ?_
  refine h_dup F d_Mo_init_500 rfl ?_
  refine h_bipush F (v := 20) d_Mo_init_501 (by decide) ?_
  refine h_sipush F (v := 169) d_Mo_init_503 (by decide) ?_
  refine h_fillI F (k := 20) (k' := 21) 0 rfl (show ¬ _ by decide) rfl rfl rfl d_Mo_init_506 ?_
  refine h_dup F d_Mo_init_507 rfl ?_
  refine h_bipush F (v := 21) d_Mo_init_508 (by decide) ?_
  refine h_sipush F (v := 169) d_Mo_init_510 (by decide) ?_
  refine h_fillI F (k := 21) (k' := 22) 0 rfl (show ¬ _ by decide) rfl rfl rfl d_Mo_init_513 ?_
  refine h_dup F d_Mo_init_514 rfl ?_
  refine h_bipush F (v := 22) d_Mo_init_515 (by decide) ?_
  refine h_sipush F (v := 174) d_Mo_init_517 (by decide) ?_
  refine h_fillI F (k := 22) (k' := 23) 0 rfl (show ¬ _ by decide) rfl rfl rfl d_Mo_init_520 ?_
  refine h_dup F d_Mo_init_521 rfl ?_
  refine h_bipush F (v := 23) d_Mo_init_522 (by decide) ?_
  refine h_sipush F (v := 174) d_Mo_init_524 (by decide) ?_
  refine h_fillI F (k := 23) (k' := 24) 0 rfl (show ¬ _ by decide) rfl rfl rfl d_Mo_init_527 ?_
  refine h_dup F d_Mo_init_528 rfl ?_
  refine h_bipush F (v := 24) d_Mo_init_529 (by decide) ?_
  refine h_sipush F (v := 174) d_Mo_init_531 (by decide) ?_
  refine h_fillI F (k := 24) (k' := 25) 0 rfl (show ¬ _ by decide) rfl rfl rfl d_Mo_init_534 ?_
  refine h_dup F d_Mo_init_535 rfl ?_
  refine h_bipush F (v := 25) d_Mo_init_536 (by decide) ?_
  refine h_sipush F (v := 174) d_Mo_init_538 (by decide) ?_
  refine h_fillI F (k := 25) (k' := 26) 0 rfl (show ¬ _ by decide) rfl rfl rfl d_Mo_init_541 ?_
  refine h_dup F d_Mo_init_542 rfl ?_
  refine h_bipush F (v := 26) d_Mo_init_543 (by decide) ?_
  refine h_sipush F (v := 172) d_Mo_init_545 (by decide) ?_
  refine h_fillI F (k := 26) (k' := 27) 0 rfl (show ¬ _ by decide) rfl rfl rfl d_Mo_init_548 ?_
  refine h_dup F d_Mo_init_549 rfl ?_
  refine h_bipush F (v := 27) d_Mo_init_550 (by decide) ?_
  refine h_sipush F (v := 172) d_Mo_init_552 (by decide) ?_
  refine h_fillI F (k := 27) (k' := 28) 0 rfl (show ¬ _ by decide) rfl rfl rfl d_Mo_init_555 ?_
  refine h_dup F d_Mo_init_556 rfl ?_
  refine h_bipush F (v := 28) d_Mo_init_557 (by decide) ?_
  refine h_sipush F (v := 173) d_Mo_init_559 (by decide) ?_
  refine h_fillI F (k := 28) (k' := 29) 0 rfl (show ¬ _ by decide) rfl rfl rfl d_Mo_init_562 ?_
  refine h_dup F d_Mo_init_563 rfl ?_
  refine h_bipush F (v := 29) d_Mo_init_564 (by decide) ?_
  refine h_sipush F (v := 173) d_Mo_init_566 (by decide) ?_
  refine h_fillI F (k := 29) (k' := 30) 0 rfl (show ¬ _ by decide) rfl rfl rfl d_Mo_init_569 ?_
  refine h_dup F d_Mo_init_570 rfl ?_
  refine h_bipush F (v := 30) d_Mo_init_571 (by decide) ?_
  refine h_sipush F (v := 165) d_Mo_init_573 (by decide) ?_
  refine h_fillI F (k := 30) (k' := 31) 0 rfl (show ¬ _ by decide) rfl rfl rfl d_Mo_init_576 ?_
  refine h_dup F d_Mo_init_577 rfl ?_
  refine h_bipush F (v := 31) d_Mo_init_578 (by decide) ?_
  refine h_sipush F (v := 165) d_Mo_init_580 (by decide) ?_
  refine h_fillI F (k := 31) (k' := 32) 0 rfl (show ¬ _ by decide) rfl rfl rfl d_Mo_init_583 ?_
  refine h_dup F d_Mo_init_584 rfl ?_
  refine h_bipush F (v := 32) d_Mo_init_585 (by decide) ?_
  refine h_sipush F (v := 176) d_Mo_init_587 (by decide) ?_
  refine h_fillI F (k := 32) (k' := 33) 0 rfl (show ¬ _ by decide) rfl rfl rfl d_Mo_init_590 ?_
  refine h_dup F d_Mo_init_591 rfl ?_
  refine h_bipush F (v := 33) d_Mo_init_592 (by decide) ?_
  refine h_sipush F (v := 176) d_Mo_init_594 (by decide) ?_
  refine h_fillI F (k := 33) (k' := 34) 0 rfl (show ¬ _ by decide) rfl rfl rfl d_Mo_init_597 ?_
  refine h_dup F d_Mo_init_598 rfl ?_
  refine h_bipush F (v := 34) d_Mo_init_599 (by decide) ?_
  refine h_sipush F (v := 215) d_Mo_init_601 (by decide) ?_
  refine h_fillI F (k := 34) (k' := 35) 0 rfl (show ¬ _ by decide) rfl rfl rfl d_Mo_init_604 ?_
  refine h_dup F d_Mo_init_605 rfl ?_
  refine h_bipush F (v := 35) d_Mo_init_606 (by decide) ?_
  refine h_sipush F (v := 215) d_Mo_init_608 (by decide) ?_
  refine h_fillI F (k := 35) (k' := 36) 0 rfl (show ¬ _ by decide) rfl rfl rfl d_Mo_init_611 ?_
  refine h_dup F d_Mo_init_612 rfl ?_
  refine h_bipush F (v := 36) d_Mo_init_613 (by decide) ?_
  refine h_sipush F (v := 182) d_Mo_init_615 (by decide) ?_
  refine h_fillI F (k := 36) (k' := 37) 0 rfl (show ¬ _ by decide) rfl rfl rfl d_Mo_init_618 ?_
  refine h_dup F d_Mo_init_619 rfl ?_
  refine h_bipush F (v := 37) d_Mo_init_620 (by decide) ?_
  refine h_sipush F (v := 182) d_Mo_init_622 (by decide) ?_
  refine h_fillI F (k := 37) (k' := 38) 0 rfl (show ¬ _ by decide) rfl rfl rfl d_Mo_init_625 ?_
  refine h_dup F d_Mo_init_626 rfl ?_
  refine h_bipush F (v := 38) d_Mo_init_627 (by decide) ?_
  refine h_sipush F (v := 178) d_Mo_init_629 (by decide) ?_
  refine h_fillI F (k := 38) (k' := 39) 0 rfl (show ¬ _ by decide) rfl rfl rfl d_Mo_init_632 ?_
  refine h_dup F d_Mo_init_633 rfl ?_
  refine h_bipush F (v := 39) d_Mo_init_634 (by decide) ?_
  refine h_sipush F (v := 178) d_Mo_init_636 (by decide) ?_
  refine h_fillI F (k := 39) (k' := 40) 0 rfl (show ¬ _ by decide) rfl rfl rfl d_Mo_init_639 ?_
  refine h_dup F d_Mo_init_640 rfl ?_
  refine h_bipush F (v := 40) d_Mo_init_641 (by decide) ?_
  refine h_sipush F (v := 189) d_Mo_init_643 (by decide) ?_
  refine h_fillI F (k := 40) (k' := 41) 0 rfl (show ¬ _ by decide) rfl rfl rfl d_Mo_init_646 ?_
  refine h_dup F d_Mo_init_647 rfl ?_
  refine h_bipush F (v := 41) d_Mo_init_648 (by decide) ?_
  refine h_sipush F (v := 189) d_Mo_init_650 (by decide) ?_
  refine h_fillI F (k := 41) (k' := 42) 0 rfl (show ¬ _ by decide) rfl rfl rfl d_Mo_init_653 ?_
  refine h_dup F d_Mo_init_654 rfl ?_
  refine h_bipush F (v := 42) d_Mo_init_655 (by decide) ?_
  refine h_bipush F (v := 39) d_Mo_init_657 (by decide) ?_
  refine h_fillI F (k := 42) (k' := 43) 0 rfl (show ¬ _ by decide) rfl rfl rfl d_Mo_init_659 ?_
  refine h_dup F d_Mo_init_660 rfl ?_
  refine h_bipush F (v := 43) d_Mo_init_661 (by decide) ?_
  refine h_bipush F (v := 35) d_Mo_init_663 (by decide) ?_
  refine h_fillI F (k := 43) (k' := 44) 0 rfl (show ¬ _ by decide) rfl rfl rfl d_Mo_init_665 ?_
  refine h_dup F d_Mo_init_666 rfl ?_
  refine h_bipush F (v := 44) d_Mo_init_667 (by decide) ?_
  refine h_sipush F (v := 8713) d_Mo_init_669 (by decide) ?_
  refine h_fillI F (k := 44) (k' := 45) 0 rfl (show ¬ _ by decide) rfl rfl rfl d_Mo_init_672 ?_
  refine h_dup F d_Mo_init_673 rfl ?_
  refine h_bipush F (v := 45) d_Mo_init_674 (by decide) ?_
  refine h_sipush F (v := 8716) d_Mo_init_676 (by decide) ?_
  refine h_fillI F (k := 45) (k' := 46) 0 rfl (show ¬ _ by decide) rfl rfl rfl d_Mo_init_679 ?_
  refine h_dup F d_Mo_init_680 rfl ?_
  refine h_bipush F (v := 46) d_Mo_init_681 (by decide) ?_
  refine h_sipush F (v := 8864) d_Mo_init_683 (by decide) ?_
  refine h_fillI F (k := 46) (k' := 47) 0 rfl (show ¬ _ by decide) rfl rfl rfl d_Mo_init_686 ?_
  refine h_dup F d_Mo_init_687 rfl ?_
  refine h_bipush F (v := 47) d_Mo_init_688 (by decide) ?_
  refine h_sipush F (v := 8471) d_Mo_init_690 (by decide) ?_
  refine h_fillI F (k := 47) (k' := 48) 0 rfl (show ¬ _ by decide) rfl rfl rfl d_Mo_init_693 ?_
  refine h_dup F d_Mo_init_694 rfl ?_
  refine h_bipush F (v := 48) d_Mo_init_695 (by decide) ?_
  refine h_sipush F (v := 8230) d_Mo_init_697 (by decide) ?_
  refine h_fillI F (k := 48) (k' := 49) 0 rfl (show ¬ _ by decide) rfl rfl rfl d_Mo_init_700 ?_
  refine h_dup F d_Mo_init_701 rfl ?_
  refine h_bipush F (v := 49) d_Mo_init_702 (by decide) ?_
  refine h_sipush F (v := 8364) d_Mo_init_704 (by decide) ?_
  refine h_fillI F (k := 49) (k' := 50) 0 rfl (show ¬ _ by decide) rfl rfl rfl d_Mo_init_707 ?_
  refine h_dup F d_Mo_init_708 rfl ?_
  refine h_bipush F (v := 50) d_Mo_init_709 (by decide) ?_
  refine h_sipush F (v := 8800) d_Mo_init_711 (by decide) ?_
  refine h_fillI F (k := 50) (k' := 51) 0 rfl (show ¬ _ by decide) rfl rfl rfl d_Mo_init_714 ?_
  refine h_dup F d_Mo_init_715 rfl ?_
  refine h_bipush F (v := 51) d_Mo_init_716 (by decide) ?_
  refine h_sipush F (v := 8804) d_Mo_init_718 (by decide) ?_
  refine h_fillI F (k := 51) (k' := 52) 0 rfl (show ¬ _ by decide) rfl rfl rfl d_Mo_init_721 ?_
  refine h_dup F d_Mo_init_722 rfl ?_
  refine h_bipush F (v := 52) d_Mo_init_723 (by decide) ?_
  refine h_sipush F (v := 8741) d_Mo_init_725 (by decide) ?_
  refine h_fillI F (k := 52) (k' := 53) 0 rfl (show ¬ _ by decide) rfl rfl rfl d_Mo_init_728 ?_
  refine h_ws (ws' := [(a, .inr (9, [.ref q1, .null, .null, .int 0, .null, .int 0, .null, .int 0, .int 0, .int 0, .null, .null, .null, .null, .null, .null, .int 0, .null, .null, .null, .null, .null, .int 0, .null, .int 0, .int 0, .int 0, .null, .null, .int 0, .null, .int 0])), (q1, .inl (cA 2, 53, .inr (.inl (fillL ini_names 53)))), (q2, .inl (cA 0, 53, .inl (fillI ini_gives 53)))]) rfl ?_
  refine h_putF F in_X13 0 rfl rfl 1 (by decide) tyX13 tyX13_ok nmX13 mw_1107 rfl hmn rfl rfl rfl (Nat.le_of_ble_eq_true rfl) (ws' := [(a, .inr (9, [.ref q1, .ref q2, .null, .int 0, .null, .int 0, .null, .int 0, .int 0, .int 0, .null, .null, .null, .null, .null, .null, .int 0, .null, .null, .null, .null, .null, .int 0, .null, .int 0, .int 0, .int 0, .null, .null, .int 0, .null, .int 0])), (q1, .inl (cA 2, 53, .inr (.inl (fillL ini_names 53)))), (q2, .inl (cA 0, 53, .inl (fillI ini_gives 53)))]) rfl d_Mo_init_729 ?_
  refine h_aload_n F d_Mo_init_732 0 rfl ?_
  refine h_bipush F (v := 32) d_Mo_init_733 (by decide) ?_
  refine h_newa F (ty := .int) (N' := 32) (a0 := (32, .inl (fun _ => 0))) 0 rfl (fun _ _ h => h) mw_128 rfl (fun _ => rfl) (by decide) rfl (Nat.le_of_ble_eq_true rfl) (Nat.le_of_ble_eq_true rfl) (Nat.le_of_ble_eq_true rfl) d_Mo_init_735 (fun q3 => ?_)
  refine h_ws (ws' := [(a, .inr (9, [.ref q1, .ref q2, .null, .int 0, .null, .int 0, .null, .int 0, .int 0, .int 0, .null, .null, .null, .null, .null, .null, .int 0, .null, .null, .null, .null, .null, .int 0, .null, .int 0, .int 0, .int 0, .null, .null, .int 0, .null, .int 0])), (q1, .inl (cA 2, 53, .inr (.inl (fillL ini_names 53)))), (q2, .inl (cA 0, 53, .inl (fillI ini_gives 53))), (q3, .inl (cA 0, 32, .inl (fun _ => 0)))]) rfl ?_
  refine h_ws (ws' := [(a, .inr (9, [.ref q1, .ref q2, .null, .int 0, .null, .int 0, .null, .int 0, .int 0, .int 0, .null, .null, .null, .null, .null, .null, .int 0, .null, .null, .null, .null, .null, .int 0, .null, .int 0, .int 0, .int 0, .null, .null, .int 0, .null, .int 0])), (q1, .inl (cA 2, 53, .inr (.inl (fillL ini_names 53)))), (q2, .inl (cA 0, 53, .inl (fillI ini_gives 53)))] ++ [(q3, .inl (cA 0, 32, .inl (fillI ini_turned 0)))]) (by rw [fillI_0]; rfl) ?_
  refine h_dup F d_Mo_init_737 rfl ?_
  refine h_iconst F (v := 0) d_Mo_init_738 (by decide) ?_
  refine h_sipush F (v := 8364) d_Mo_init_739 (by decide) ?_
  refine h_fillI F (k := 0) (k' := 1) 0 rfl (show ¬ _ by decide) rfl rfl rfl d_Mo_init_742 ?_
  refine h_dup F d_Mo_init_743 rfl ?_
  refine h_iconst F (v := 1) d_Mo_init_744 (by decide) ?_
  refine h_iconst F (v := 0) d_Mo_init_745 (by decide) ?_
  refine h_fillI F (k := 1) (k' := 2) 0 rfl (show ¬ _ by decide) rfl rfl rfl d_Mo_init_746 ?_
  refine h_dup F d_Mo_init_747 rfl ?_
  refine h_iconst F (v := 2) d_Mo_init_748 (by decide) ?_
  refine h_sipush F (v := 8218) d_Mo_init_749 (by decide) ?_
  refine h_fillI F (k := 2) (k' := 3) 0 rfl (show ¬ _ by decide) rfl rfl rfl d_Mo_init_752 ?_
  refine h_dup F d_Mo_init_753 rfl ?_
  refine h_iconst F (v := 3) d_Mo_init_754 (by decide) ?_
  refine h_sipush F (v := 402) d_Mo_init_755 (by decide) ?_
  refine h_fillI F (k := 3) (k' := 4) 0 rfl (show ¬ _ by decide) rfl rfl rfl d_Mo_init_758 ?_
  refine h_dup F d_Mo_init_759 rfl ?_
  refine h_iconst F (v := 4) d_Mo_init_760 (by decide) ?_
  refine h_sipush F (v := 8222) d_Mo_init_761 (by decide) ?_
  refine h_fillI F (k := 4) (k' := 5) 0 rfl (show ¬ _ by decide) rfl rfl rfl d_Mo_init_764 ?_
  refine h_dup F d_Mo_init_765 rfl ?_
  refine h_iconst F (v := 5) d_Mo_init_766 (by decide) ?_
  refine h_sipush F (v := 8230) d_Mo_init_767 (by decide) ?_
  refine h_fillI F (k := 5) (k' := 6) 0 rfl (show ¬ _ by decide) rfl rfl rfl d_Mo_init_770 ?_
  refine h_dup F d_Mo_init_771 rfl ?_
  refine h_bipush F (v := 6) d_Mo_init_772 (by decide) ?_
  refine h_sipush F (v := 8224) d_Mo_init_774 (by decide) ?_
  refine h_fillI F (k := 6) (k' := 7) 0 rfl (show ¬ _ by decide) rfl rfl rfl d_Mo_init_777 ?_
  refine h_dup F d_Mo_init_778 rfl ?_
  refine h_bipush F (v := 7) d_Mo_init_779 (by decide) ?_
  refine h_sipush F (v := 8225) d_Mo_init_781 (by decide) ?_
  refine h_fillI F (k := 7) (k' := 8) 0 rfl (show ¬ _ by decide) rfl rfl rfl d_Mo_init_784 ?_
  refine h_dup F d_Mo_init_785 rfl ?_
  refine h_bipush F (v := 8) d_Mo_init_786 (by decide) ?_
  refine h_sipush F (v := 710) d_Mo_init_788 (by decide) ?_
  refine h_fillI F (k := 8) (k' := 9) 0 rfl (show ¬ _ by decide) rfl rfl rfl d_Mo_init_791 ?_
  refine h_dup F d_Mo_init_792 rfl ?_
  refine h_bipush F (v := 9) d_Mo_init_793 (by decide) ?_
  refine h_sipush F (v := 8240) d_Mo_init_795 (by decide) ?_
  refine h_fillI F (k := 9) (k' := 10) 0 rfl (show ¬ _ by decide) rfl rfl rfl d_Mo_init_798 ?_
  refine h_dup F d_Mo_init_799 rfl ?_
  refine h_bipush F (v := 10) d_Mo_init_800 (by decide) ?_
  refine h_sipush F (v := 352) d_Mo_init_802 (by decide) ?_
  refine h_fillI F (k := 10) (k' := 11) 0 rfl (show ¬ _ by decide) rfl rfl rfl d_Mo_init_805 ?_
  refine h_dup F d_Mo_init_806 rfl ?_
  refine h_bipush F (v := 11) d_Mo_init_807 (by decide) ?_
  refine h_sipush F (v := 8249) d_Mo_init_809 (by decide) ?_
  refine h_fillI F (k := 11) (k' := 12) 0 rfl (show ¬ _ by decide) rfl rfl rfl d_Mo_init_812 ?_
  refine h_dup F d_Mo_init_813 rfl ?_
  refine h_bipush F (v := 12) d_Mo_init_814 (by decide) ?_
  refine h_sipush F (v := 338) d_Mo_init_816 (by decide) ?_
  refine h_fillI F (k := 12) (k' := 13) 0 rfl (show ¬ _ by decide) rfl rfl rfl d_Mo_init_819 ?_
  refine h_dup F d_Mo_init_820 rfl ?_
  refine h_bipush F (v := 13) d_Mo_init_821 (by decide) ?_
  refine h_iconst F (v := 0) d_Mo_init_823 (by decide) ?_
  refine h_fillI F (k := 13) (k' := 14) 0 rfl (show ¬ _ by decide) rfl rfl rfl d_Mo_init_824 ?_
  refine h_dup F d_Mo_init_825 rfl ?_
  refine h_bipush F (v := 14) d_Mo_init_826 (by decide) ?_
  refine h_sipush F (v := 381) d_Mo_init_828 (by decide) ?_
  refine h_fillI F (k := 14) (k' := 15) 0 rfl (show ¬ _ by decide) rfl rfl rfl d_Mo_init_831 ?_
  refine h_dup F d_Mo_init_832 rfl ?_
  refine h_bipush F (v := 15) d_Mo_init_833 (by decide) ?_
  refine h_iconst F (v := 0) d_Mo_init_835 (by decide) ?_
  refine h_fillI F (k := 15) (k' := 16) 0 rfl (show ¬ _ by decide) rfl rfl rfl d_Mo_init_836 ?_
  refine h_dup F d_Mo_init_837 rfl ?_
  refine h_bipush F (v := 16) d_Mo_init_838 (by decide) ?_
  refine h_iconst F (v := 0) d_Mo_init_840 (by decide) ?_
  refine h_fillI F (k := 16) (k' := 17) 0 rfl (show ¬ _ by decide) rfl rfl rfl d_Mo_init_841 ?_
  refine h_dup F d_Mo_init_842 rfl ?_
  refine h_bipush F (v := 17) d_Mo_init_843 (by decide) ?_
  refine h_sipush F (v := 8216) d_Mo_init_845 (by decide) ?_
  refine h_fillI F (k := 17) (k' := 18) 0 rfl (show ¬ _ by decide) rfl rfl rfl d_Mo_init_848 ?_
  refine h_dup F d_Mo_init_849 rfl ?_
  refine h_bipush F (v := 18) d_Mo_init_850 (by decide) ?_
  refine h_sipush F (v := 8217) d_Mo_init_852 (by decide) ?_
  refine h_fillI F (k := 18) (k' := 19) 0 rfl (show ¬ _ by decide) rfl rfl rfl d_Mo_init_855 ?_
  refine h_dup F d_Mo_init_856 rfl ?_
  refine h_bipush F (v := 19) d_Mo_init_857 (by decide) ?_
  refine h_sipush F (v := 8220) d_Mo_init_859 (by decide) ?_
  refine h_fillI F (k := 19) (k' := 20) 0 rfl (show ¬ _ by decide) rfl rfl rfl d_Mo_init_862 ?_
  refine h_dup F d_Mo_init_863 rfl ?_
  refine h_bipush F (v := 20) d_Mo_init_864 (by decide) ?_
  refine h_sipush F (v := 8221) d_Mo_init_866 (by decide) ?_
  refine h_fillI F (k := 20) (k' := 21) 0 rfl (show ¬ _ by decide) rfl rfl rfl d_Mo_init_869 ?_
  refine h_dup F d_Mo_init_870 rfl ?_
  refine h_bipush F (v := 21) d_Mo_init_871 (by decide) ?_
  refine h_sipush F (v := 8226) d_Mo_init_873 (by decide) ?_
  refine h_fillI F (k := 21) (k' := 22) 0 rfl (show ¬ _ by decide) rfl rfl rfl d_Mo_init_876 ?_
  refine h_dup F d_Mo_init_877 rfl ?_
  refine h_bipush F (v := 22) d_Mo_init_878 (by decide) ?_
  refine h_sipush F (v := 8211) d_Mo_init_880 (by decide) ?_
  refine h_fillI F (k := 22) (k' := 23) 0 rfl (show ¬ _ by decide) rfl rfl rfl d_Mo_init_883 ?_
  refine h_dup F d_Mo_init_884 rfl ?_
  refine h_bipush F (v := 23) d_Mo_init_885 (by decide) ?_
  refine h_sipush F (v := 8212) d_Mo_init_887 (by decide) ?_
  refine h_fillI F (k := 23) (k' := 24) 0 rfl (show ¬ _ by decide) rfl rfl rfl d_Mo_init_890 ?_
  refine h_dup F d_Mo_init_891 rfl ?_
  refine h_bipush F (v := 24) d_Mo_init_892 (by decide) ?_
  refine h_sipush F (v := 732) d_Mo_init_894 (by decide) ?_
  refine h_fillI F (k := 24) (k' := 25) 0 rfl (show ¬ _ by decide) rfl rfl rfl d_Mo_init_897 ?_
  refine h_dup F d_Mo_init_898 rfl ?_
  refine h_bipush F (v := 25) d_Mo_init_899 (by decide) ?_
  refine h_sipush F (v := 8482) d_Mo_init_901 (by decide) ?_
  refine h_fillI F (k := 25) (k' := 26) 0 rfl (show ¬ _ by decide) rfl rfl rfl d_Mo_init_904 ?_
  refine h_dup F d_Mo_init_905 rfl ?_
  refine h_bipush F (v := 26) d_Mo_init_906 (by decide) ?_
  refine h_sipush F (v := 353) d_Mo_init_908 (by decide) ?_
  refine h_fillI F (k := 26) (k' := 27) 0 rfl (show ¬ _ by decide) rfl rfl rfl d_Mo_init_911 ?_
  refine h_dup F d_Mo_init_912 rfl ?_
  refine h_bipush F (v := 27) d_Mo_init_913 (by decide) ?_
  refine h_sipush F (v := 8250) d_Mo_init_915 (by decide) ?_
  refine h_fillI F (k := 27) (k' := 28) 0 rfl (show ¬ _ by decide) rfl rfl rfl d_Mo_init_918 ?_
  refine h_dup F d_Mo_init_919 rfl ?_
  refine h_bipush F (v := 28) d_Mo_init_920 (by decide) ?_
  refine h_sipush F (v := 339) d_Mo_init_922 (by decide) ?_
  refine h_fillI F (k := 28) (k' := 29) 0 rfl (show ¬ _ by decide) rfl rfl rfl d_Mo_init_925 ?_
  refine h_dup F d_Mo_init_926 rfl ?_
  refine h_bipush F (v := 29) d_Mo_init_927 (by decide) ?_
  refine h_iconst F (v := 0) d_Mo_init_929 (by decide) ?_
  refine h_fillI F (k := 29) (k' := 30) 0 rfl (show ¬ _ by decide) rfl rfl rfl d_Mo_init_930 ?_
  refine h_dup F d_Mo_init_931 rfl ?_
  refine h_bipush F (v := 30) d_Mo_init_932 (by decide) ?_
  refine h_sipush F (v := 382) d_Mo_init_934 (by decide) ?_
  refine h_fillI F (k := 30) (k' := 31) 0 rfl (show ¬ _ by decide) rfl rfl rfl d_Mo_init_937 ?_
  refine h_dup F d_Mo_init_938 rfl ?_
  refine h_bipush F (v := 31) d_Mo_init_939 (by decide) ?_
  refine h_sipush F (v := 376) d_Mo_init_941 (by decide) ?_
  refine h_fillI F (k := 31) (k' := 32) 0 rfl (show ¬ _ by decide) rfl rfl rfl d_Mo_init_944 ?_
  refine h_ws (ws' := [(a, .inr (9, [.ref q1, .ref q2, .null, .int 0, .null, .int 0, .null, .int 0, .int 0, .int 0, .null, .null, .null, .null, .null, .null, .int 0, .null, .null, .null, .null, .null, .int 0, .null, .int 0, .int 0, .int 0, .null, .null, .int 0, .null, .int 0])), (q1, .inl (cA 2, 53, .inr (.inl (fillL ini_names 53)))), (q2, .inl (cA 0, 53, .inl (fillI ini_gives 53))), (q3, .inl (cA 0, 32, .inl (fillI ini_turned 32)))]) rfl ?_
  refine h_putF F in_X13 0 rfl rfl 2 (by decide) tyX13 tyX13_ok nmX13 mw_1108 rfl hmn rfl rfl rfl (Nat.le_of_ble_eq_true rfl) (ws' := [(a, .inr (9, [.ref q1, .ref q2, .ref q3, .int 0, .null, .int 0, .null, .int 0, .int 0, .int 0, .null, .null, .null, .null, .null, .null, .int 0, .null, .null, .null, .null, .null, .int 0, .null, .int 0, .int 0, .int 0, .null, .null, .int 0, .null, .int 0])), (q1, .inl (cA 2, 53, .inr (.inl (fillL ini_names 53)))), (q2, .inl (cA 0, 53, .inl (fillI ini_gives 53))), (q3, .inl (cA 0, 32, .inl (fillI ini_turned 32)))]) rfl d_Mo_init_945 ?_
  refine h_aload_n F d_Mo_init_948 0 rfl ?_
  refine h_sipush F (v := 400) d_Mo_init_949 (by decide) ?_
  refine h_newa F (ty := .byte) (N' := 400) (a0 := (400, .inl (fun _ => 0))) 1 rfl (fun _ _ h => h) mw_127 rfl (fun _ => rfl) (by decide) rfl (Nat.le_of_ble_eq_true rfl) (Nat.le_of_ble_eq_true rfl) (Nat.le_of_ble_eq_true rfl) d_Mo_init_952 (fun q4 => ?_)
  refine h_ws (ws' := [(a, .inr (9, [.ref q1, .ref q2, .ref q3, .int 0, .null, .int 0, .null, .int 0, .int 0, .int 0, .null, .null, .null, .null, .null, .null, .int 0, .null, .null, .null, .null, .null, .int 0, .null, .int 0, .int 0, .int 0, .null, .null, .int 0, .null, .int 0])), (q1, .inl (cA 2, 53, .inr (.inl (fillL ini_names 53)))), (q2, .inl (cA 0, 53, .inl (fillI ini_gives 53))), (q3, .inl (cA 0, 32, .inl (fillI ini_turned 32))), (q4, .inl (cA 1, 400, .inl (fun _ => 0)))]) rfl ?_
  refine h_putF F in_X13 0 rfl rfl 4 (by decide) tyX13 tyX13_ok nmX13 mw_1110 rfl hmn rfl rfl rfl (Nat.le_of_ble_eq_true rfl) (ws' := [(a, .inr (9, [.ref q1, .ref q2, .ref q3, .int 0, .ref q4, .int 0, .null, .int 0, .int 0, .int 0, .null, .null, .null, .null, .null, .null, .int 0, .null, .null, .null, .null, .null, .int 0, .null, .int 0, .int 0, .int 0, .null, .null, .int 0, .null, .int 0])), (q1, .inl (cA 2, 53, .inr (.inl (fillL ini_names 53)))), (q2, .inl (cA 0, 53, .inl (fillI ini_gives 53))), (q3, .inl (cA 0, 32, .inl (fillI ini_turned 32))), (q4, .inl (cA 1, 400, .inl (fun _ => 0)))]) rfl d_Mo_init_954 ?_
  refine h_aload_n F d_Mo_init_957 0 rfl ?_
  refine h_sipush F (v := 400) d_Mo_init_958 (by decide) ?_
  refine h_newa F (ty := .int) (N' := 400) (a0 := (400, .inl (fun _ => 0))) 0 rfl (fun _ _ h => h) mw_128 rfl (fun _ => rfl) (by decide) rfl (Nat.le_of_ble_eq_true rfl) (Nat.le_of_ble_eq_true rfl) (Nat.le_of_ble_eq_true rfl) d_Mo_init_961 (fun q5 => ?_)
  refine h_ws (ws' := [(a, .inr (9, [.ref q1, .ref q2, .ref q3, .int 0, .ref q4, .int 0, .null, .int 0, .int 0, .int 0, .null, .null, .null, .null, .null, .null, .int 0, .null, .null, .null, .null, .null, .int 0, .null, .int 0, .int 0, .int 0, .null, .null, .int 0, .null, .int 0])), (q1, .inl (cA 2, 53, .inr (.inl (fillL ini_names 53)))), (q2, .inl (cA 0, 53, .inl (fillI ini_gives 53))), (q3, .inl (cA 0, 32, .inl (fillI ini_turned 32))), (q4, .inl (cA 1, 400, .inl (fun _ => 0))), (q5, .inl (cA 0, 400, .inl (fun _ => 0)))]) rfl ?_
  refine h_putF F in_X13 0 rfl rfl 6 (by decide) tyX13 tyX13_ok nmX13 mw_1112 rfl hmn rfl rfl rfl (Nat.le_of_ble_eq_true rfl) (ws' := [(a, .inr (9, [.ref q1, .ref q2, .ref q3, .int 0, .ref q4, .int 0, .ref q5, .int 0, .int 0, .int 0, .null, .null, .null, .null, .null, .null, .int 0, .null, .null, .null, .null, .null, .int 0, .null, .int 0, .int 0, .int 0, .null, .null, .int 0, .null, .int 0])), (q1, .inl (cA 2, 53, .inr (.inl (fillL ini_names 53)))), (q2, .inl (cA 0, 53, .inl (fillI ini_gives 53))), (q3, .inl (cA 0, 32, .inl (fillI ini_turned 32))), (q4, .inl (cA 1, 400, .inl (fun _ => 0))), (q5, .inl (cA 0, 400, .inl (fun _ => 0)))]) rfl d_Mo_init_963 ?_
  refine h_aload_n F d_Mo_init_966 0 rfl ?_
  refine h_sipush F (v := 402) d_Mo_init_967 (by decide) ?_
  refine h_newa F (ty := .int) (N' := 402) (a0 := (402, .inl (fun _ => 0))) 0 rfl (fun _ _ h => h) mw_128 rfl (fun _ => rfl) (by decide) rfl (Nat.le_of_ble_eq_true rfl) (Nat.le_of_ble_eq_true rfl) (Nat.le_of_ble_eq_true rfl) d_Mo_init_970 (fun q6 => ?_)
  refine h_ws (ws' := [(a, .inr (9, [.ref q1, .ref q2, .ref q3, .int 0, .ref q4, .int 0, .ref q5, .int 0, .int 0, .int 0, .null, .null, .null, .null, .null, .null, .int 0, .null, .null, .null, .null, .null, .int 0, .null, .int 0, .int 0, .int 0, .null, .null, .int 0, .null, .int 0])), (q1, .inl (cA 2, 53, .inr (.inl (fillL ini_names 53)))), (q2, .inl (cA 0, 53, .inl (fillI ini_gives 53))), (q3, .inl (cA 0, 32, .inl (fillI ini_turned 32))), (q4, .inl (cA 1, 400, .inl (fun _ => 0))), (q5, .inl (cA 0, 400, .inl (fun _ => 0))), (q6, .inl (cA 0, 402, .inl (fun _ => 0)))]) rfl ?_
  refine h_putF F in_X13 0 rfl rfl 10 (by decide) tyX13 tyX13_ok nmX13 mw_1116 rfl hmn rfl rfl rfl (Nat.le_of_ble_eq_true rfl) (ws' := [(a, .inr (9, [.ref q1, .ref q2, .ref q3, .int 0, .ref q4, .int 0, .ref q5, .int 0, .int 0, .int 0, .ref q6, .null, .null, .null, .null, .null, .int 0, .null, .null, .null, .null, .null, .int 0, .null, .int 0, .int 0, .int 0, .null, .null, .int 0, .null, .int 0])), (q1, .inl (cA 2, 53, .inr (.inl (fillL ini_names 53)))), (q2, .inl (cA 0, 53, .inl (fillI ini_gives 53))), (q3, .inl (cA 0, 32, .inl (fillI ini_turned 32))), (q4, .inl (cA 1, 400, .inl (fun _ => 0))), (q5, .inl (cA 0, 400, .inl (fun _ => 0))), (q6, .inl (cA 0, 402, .inl (fun _ => 0)))]) rfl d_Mo_init_972 ?_
  refine h_aload_n F d_Mo_init_975 0 rfl ?_
  refine h_sipush F (v := 402) d_Mo_init_976 (by decide) ?_
  refine h_newa F (ty := .int) (N' := 402) (a0 := (402, .inl (fun _ => 0))) 0 rfl (fun _ _ h => h) mw_128 rfl (fun _ => rfl) (by decide) rfl (Nat.le_of_ble_eq_true rfl) (Nat.le_of_ble_eq_true rfl) (Nat.le_of_ble_eq_true rfl) d_Mo_init_979 (fun q7 => ?_)
  refine h_ws (ws' := [(a, .inr (9, [.ref q1, .ref q2, .ref q3, .int 0, .ref q4, .int 0, .ref q5, .int 0, .int 0, .int 0, .ref q6, .null, .null, .null, .null, .null, .int 0, .null, .null, .null, .null, .null, .int 0, .null, .int 0, .int 0, .int 0, .null, .null, .int 0, .null, .int 0])), (q1, .inl (cA 2, 53, .inr (.inl (fillL ini_names 53)))), (q2, .inl (cA 0, 53, .inl (fillI ini_gives 53))), (q3, .inl (cA 0, 32, .inl (fillI ini_turned 32))), (q4, .inl (cA 1, 400, .inl (fun _ => 0))), (q5, .inl (cA 0, 400, .inl (fun _ => 0))), (q6, .inl (cA 0, 402, .inl (fun _ => 0))), (q7, .inl (cA 0, 402, .inl (fun _ => 0)))]) rfl ?_
  refine h_putF F in_X13 0 rfl rfl 11 (by decide) tyX13 tyX13_ok nmX13 mw_1117 rfl hmn rfl rfl rfl (Nat.le_of_ble_eq_true rfl) (ws' := [(a, .inr (9, [.ref q1, .ref q2, .ref q3, .int 0, .ref q4, .int 0, .ref q5, .int 0, .int 0, .int 0, .ref q6, .ref q7, .null, .null, .null, .null, .int 0, .null, .null, .null, .null, .null, .int 0, .null, .int 0, .int 0, .int 0, .null, .null, .int 0, .null, .int 0])), (q1, .inl (cA 2, 53, .inr (.inl (fillL ini_names 53)))), (q2, .inl (cA 0, 53, .inl (fillI ini_gives 53))), (q3, .inl (cA 0, 32, .inl (fillI ini_turned 32))), (q4, .inl (cA 1, 400, .inl (fun _ => 0))), (q5, .inl (cA 0, 400, .inl (fun _ => 0))), (q6, .inl (cA 0, 402, .inl (fun _ => 0))), (q7, .inl (cA 0, 402, .inl (fun _ => 0)))]) rfl d_Mo_init_981 ?_
  refine h_aload_n F d_Mo_init_984 0 rfl ?_
  refine h_sipush F (v := 402) d_Mo_init_985 (by decide) ?_
  refine h_newa F (ty := .int) (N' := 402) (a0 := (402, .inl (fun _ => 0))) 0 rfl (fun _ _ h => h) mw_128 rfl (fun _ => rfl) (by decide) rfl (Nat.le_of_ble_eq_true rfl) (Nat.le_of_ble_eq_true rfl) (Nat.le_of_ble_eq_true rfl) d_Mo_init_988 (fun q8 => ?_)
  refine h_ws (ws' := [(a, .inr (9, [.ref q1, .ref q2, .ref q3, .int 0, .ref q4, .int 0, .ref q5, .int 0, .int 0, .int 0, .ref q6, .ref q7, .null, .null, .null, .null, .int 0, .null, .null, .null, .null, .null, .int 0, .null, .int 0, .int 0, .int 0, .null, .null, .int 0, .null, .int 0])), (q1, .inl (cA 2, 53, .inr (.inl (fillL ini_names 53)))), (q2, .inl (cA 0, 53, .inl (fillI ini_gives 53))), (q3, .inl (cA 0, 32, .inl (fillI ini_turned 32))), (q4, .inl (cA 1, 400, .inl (fun _ => 0))), (q5, .inl (cA 0, 400, .inl (fun _ => 0))), (q6, .inl (cA 0, 402, .inl (fun _ => 0))), (q7, .inl (cA 0, 402, .inl (fun _ => 0))), (q8, .inl (cA 0, 402, .inl (fun _ => 0)))]) rfl ?_
  refine h_putF F in_X13 0 rfl rfl 12 (by decide) tyX13 tyX13_ok nmX13 mw_1118 rfl hmn rfl rfl rfl (Nat.le_of_ble_eq_true rfl) (ws' := [(a, .inr (9, [.ref q1, .ref q2, .ref q3, .int 0, .ref q4, .int 0, .ref q5, .int 0, .int 0, .int 0, .ref q6, .ref q7, .ref q8, .null, .null, .null, .int 0, .null, .null, .null, .null, .null, .int 0, .null, .int 0, .int 0, .int 0, .null, .null, .int 0, .null, .int 0])), (q1, .inl (cA 2, 53, .inr (.inl (fillL ini_names 53)))), (q2, .inl (cA 0, 53, .inl (fillI ini_gives 53))), (q3, .inl (cA 0, 32, .inl (fillI ini_turned 32))), (q4, .inl (cA 1, 400, .inl (fun _ => 0))), (q5, .inl (cA 0, 400, .inl (fun _ => 0))), (q6, .inl (cA 0, 402, .inl (fun _ => 0))), (q7, .inl (cA 0, 402, .inl (fun _ => 0))), (q8, .inl (cA 0, 402, .inl (fun _ => 0)))]) rfl d_Mo_init_990 ?_
  refine h_aload_n F d_Mo_init_993 0 rfl ?_
  refine h_sipush F (v := 402) d_Mo_init_994 (by decide) ?_
  refine h_newa F (ty := .boolean) (N' := 402) (a0 := (402, .inl (fun _ => 0))) 3 rfl (fun _ _ h => h) mw_1204 rfl (fun _ => rfl) (by decide) rfl (Nat.le_of_ble_eq_true rfl) (Nat.le_of_ble_eq_true rfl) (Nat.le_of_ble_eq_true rfl) d_Mo_init_997 (fun q9 => ?_)
  refine h_ws (ws' := [(a, .inr (9, [.ref q1, .ref q2, .ref q3, .int 0, .ref q4, .int 0, .ref q5, .int 0, .int 0, .int 0, .ref q6, .ref q7, .ref q8, .null, .null, .null, .int 0, .null, .null, .null, .null, .null, .int 0, .null, .int 0, .int 0, .int 0, .null, .null, .int 0, .null, .int 0])), (q1, .inl (cA 2, 53, .inr (.inl (fillL ini_names 53)))), (q2, .inl (cA 0, 53, .inl (fillI ini_gives 53))), (q3, .inl (cA 0, 32, .inl (fillI ini_turned 32))), (q4, .inl (cA 1, 400, .inl (fun _ => 0))), (q5, .inl (cA 0, 400, .inl (fun _ => 0))), (q6, .inl (cA 0, 402, .inl (fun _ => 0))), (q7, .inl (cA 0, 402, .inl (fun _ => 0))), (q8, .inl (cA 0, 402, .inl (fun _ => 0))), (q9, .inl (cA 3, 402, .inl (fun _ => 0)))]) rfl ?_
  refine h_putF F in_X13 0 rfl rfl 13 (by decide) tyX13 tyX13_ok nmX13 mw_1119 rfl hmn rfl rfl rfl (Nat.le_of_ble_eq_true rfl) (ws' := [(a, .inr (9, [.ref q1, .ref q2, .ref q3, .int 0, .ref q4, .int 0, .ref q5, .int 0, .int 0, .int 0, .ref q6, .ref q7, .ref q8, .ref q9, .null, .null, .int 0, .null, .null, .null, .null, .null, .int 0, .null, .int 0, .int 0, .int 0, .null, .null, .int 0, .null, .int 0])), (q1, .inl (cA 2, 53, .inr (.inl (fillL ini_names 53)))), (q2, .inl (cA 0, 53, .inl (fillI ini_gives 53))), (q3, .inl (cA 0, 32, .inl (fillI ini_turned 32))), (q4, .inl (cA 1, 400, .inl (fun _ => 0))), (q5, .inl (cA 0, 400, .inl (fun _ => 0))), (q6, .inl (cA 0, 402, .inl (fun _ => 0))), (q7, .inl (cA 0, 402, .inl (fun _ => 0))), (q8, .inl (cA 0, 402, .inl (fun _ => 0))), (q9, .inl (cA 3, 402, .inl (fun _ => 0)))]) rfl d_Mo_init_999 ?_
  refine h_aload_n F d_Mo_init_1002 0 rfl ?_
  refine h_sipush F (v := 402) d_Mo_init_1003 (by decide) ?_
  refine h_newa F (ty := .int) (N' := 402) (a0 := (402, .inl (fun _ => 0))) 0 rfl (fun _ _ h => h) mw_128 rfl (fun _ => rfl) (by decide) rfl (Nat.le_of_ble_eq_true rfl) (Nat.le_of_ble_eq_true rfl) (Nat.le_of_ble_eq_true rfl) d_Mo_init_1006 (fun q10 => ?_)
  refine h_ws (ws' := [(a, .inr (9, [.ref q1, .ref q2, .ref q3, .int 0, .ref q4, .int 0, .ref q5, .int 0, .int 0, .int 0, .ref q6, .ref q7, .ref q8, .ref q9, .null, .null, .int 0, .null, .null, .null, .null, .null, .int 0, .null, .int 0, .int 0, .int 0, .null, .null, .int 0, .null, .int 0])), (q1, .inl (cA 2, 53, .inr (.inl (fillL ini_names 53)))), (q2, .inl (cA 0, 53, .inl (fillI ini_gives 53))), (q3, .inl (cA 0, 32, .inl (fillI ini_turned 32))), (q4, .inl (cA 1, 400, .inl (fun _ => 0))), (q5, .inl (cA 0, 400, .inl (fun _ => 0))), (q6, .inl (cA 0, 402, .inl (fun _ => 0))), (q7, .inl (cA 0, 402, .inl (fun _ => 0))), (q8, .inl (cA 0, 402, .inl (fun _ => 0))), (q9, .inl (cA 3, 402, .inl (fun _ => 0))), (q10, .inl (cA 0, 402, .inl (fun _ => 0)))]) rfl ?_
  refine h_putF F in_X13 0 rfl rfl 14 (by decide) tyX13 tyX13_ok nmX13 mw_1120 rfl hmn rfl rfl rfl (Nat.le_of_ble_eq_true rfl) (ws' := [(a, .inr (9, [.ref q1, .ref q2, .ref q3, .int 0, .ref q4, .int 0, .ref q5, .int 0, .int 0, .int 0, .ref q6, .ref q7, .ref q8, .ref q9, .ref q10, .null, .int 0, .null, .null, .null, .null, .null, .int 0, .null, .int 0, .int 0, .int 0, .null, .null, .int 0, .null, .int 0])), (q1, .inl (cA 2, 53, .inr (.inl (fillL ini_names 53)))), (q2, .inl (cA 0, 53, .inl (fillI ini_gives 53))), (q3, .inl (cA 0, 32, .inl (fillI ini_turned 32))), (q4, .inl (cA 1, 400, .inl (fun _ => 0))), (q5, .inl (cA 0, 400, .inl (fun _ => 0))), (q6, .inl (cA 0, 402, .inl (fun _ => 0))), (q7, .inl (cA 0, 402, .inl (fun _ => 0))), (q8, .inl (cA 0, 402, .inl (fun _ => 0))), (q9, .inl (cA 3, 402, .inl (fun _ => 0))), (q10, .inl (cA 0, 402, .inl (fun _ => 0)))]) rfl d_Mo_init_1008 ?_
  refine h_aload_n F d_Mo_init_1011 0 rfl ?_
  refine h_sipush F (v := 402) d_Mo_init_1012 (by decide) ?_
  refine h_newa F (ty := .int) (N' := 402) (a0 := (402, .inl (fun _ => 0))) 0 rfl (fun _ _ h => h) mw_128 rfl (fun _ => rfl) (by decide) rfl (Nat.le_of_ble_eq_true rfl) (Nat.le_of_ble_eq_true rfl) (Nat.le_of_ble_eq_true rfl) d_Mo_init_1015 (fun q11 => ?_)
  refine h_ws (ws' := [(a, .inr (9, [.ref q1, .ref q2, .ref q3, .int 0, .ref q4, .int 0, .ref q5, .int 0, .int 0, .int 0, .ref q6, .ref q7, .ref q8, .ref q9, .ref q10, .null, .int 0, .null, .null, .null, .null, .null, .int 0, .null, .int 0, .int 0, .int 0, .null, .null, .int 0, .null, .int 0])), (q1, .inl (cA 2, 53, .inr (.inl (fillL ini_names 53)))), (q2, .inl (cA 0, 53, .inl (fillI ini_gives 53))), (q3, .inl (cA 0, 32, .inl (fillI ini_turned 32))), (q4, .inl (cA 1, 400, .inl (fun _ => 0))), (q5, .inl (cA 0, 400, .inl (fun _ => 0))), (q6, .inl (cA 0, 402, .inl (fun _ => 0))), (q7, .inl (cA 0, 402, .inl (fun _ => 0))), (q8, .inl (cA 0, 402, .inl (fun _ => 0))), (q9, .inl (cA 3, 402, .inl (fun _ => 0))), (q10, .inl (cA 0, 402, .inl (fun _ => 0))), (q11, .inl (cA 0, 402, .inl (fun _ => 0)))]) rfl ?_
  refine h_putF F in_X13 0 rfl rfl 15 (by decide) tyX13 tyX13_ok nmX13 mw_1121 rfl hmn rfl rfl rfl (Nat.le_of_ble_eq_true rfl) (ws' := [(a, .inr (9, [.ref q1, .ref q2, .ref q3, .int 0, .ref q4, .int 0, .ref q5, .int 0, .int 0, .int 0, .ref q6, .ref q7, .ref q8, .ref q9, .ref q10, .ref q11, .int 0, .null, .null, .null, .null, .null, .int 0, .null, .int 0, .int 0, .int 0, .null, .null, .int 0, .null, .int 0])), (q1, .inl (cA 2, 53, .inr (.inl (fillL ini_names 53)))), (q2, .inl (cA 0, 53, .inl (fillI ini_gives 53))), (q3, .inl (cA 0, 32, .inl (fillI ini_turned 32))), (q4, .inl (cA 1, 400, .inl (fun _ => 0))), (q5, .inl (cA 0, 400, .inl (fun _ => 0))), (q6, .inl (cA 0, 402, .inl (fun _ => 0))), (q7, .inl (cA 0, 402, .inl (fun _ => 0))), (q8, .inl (cA 0, 402, .inl (fun _ => 0))), (q9, .inl (cA 3, 402, .inl (fun _ => 0))), (q10, .inl (cA 0, 402, .inl (fun _ => 0))), (q11, .inl (cA 0, 402, .inl (fun _ => 0)))]) rfl d_Mo_init_1017 ?_
  refine h_aload_n F d_Mo_init_1020 0 rfl ?_
  refine h_sipush F (v := 402) d_Mo_init_1021 (by decide) ?_
  refine h_newa F (ty := .int) (N' := 402) (a0 := (402, .inl (fun _ => 0))) 0 rfl (fun _ _ h => h) mw_128 rfl (fun _ => rfl) (by decide) rfl (Nat.le_of_ble_eq_true rfl) (Nat.le_of_ble_eq_true rfl) (Nat.le_of_ble_eq_true rfl) d_Mo_init_1024 (fun q12 => ?_)
  refine h_ws (ws' := [(a, .inr (9, [.ref q1, .ref q2, .ref q3, .int 0, .ref q4, .int 0, .ref q5, .int 0, .int 0, .int 0, .ref q6, .ref q7, .ref q8, .ref q9, .ref q10, .ref q11, .int 0, .null, .null, .null, .null, .null, .int 0, .null, .int 0, .int 0, .int 0, .null, .null, .int 0, .null, .int 0])), (q1, .inl (cA 2, 53, .inr (.inl (fillL ini_names 53)))), (q2, .inl (cA 0, 53, .inl (fillI ini_gives 53))), (q3, .inl (cA 0, 32, .inl (fillI ini_turned 32))), (q4, .inl (cA 1, 400, .inl (fun _ => 0))), (q5, .inl (cA 0, 400, .inl (fun _ => 0))), (q6, .inl (cA 0, 402, .inl (fun _ => 0))), (q7, .inl (cA 0, 402, .inl (fun _ => 0))), (q8, .inl (cA 0, 402, .inl (fun _ => 0))), (q9, .inl (cA 3, 402, .inl (fun _ => 0))), (q10, .inl (cA 0, 402, .inl (fun _ => 0))), (q11, .inl (cA 0, 402, .inl (fun _ => 0))), (q12, .inl (cA 0, 402, .inl (fun _ => 0)))]) rfl ?_
  refine h_putF F in_X13 0 rfl rfl 17 (by decide) tyX13 tyX13_ok nmX13 mw_1123 rfl hmn rfl rfl rfl (Nat.le_of_ble_eq_true rfl) (ws' := [(a, .inr (9, [.ref q1, .ref q2, .ref q3, .int 0, .ref q4, .int 0, .ref q5, .int 0, .int 0, .int 0, .ref q6, .ref q7, .ref q8, .ref q9, .ref q10, .ref q11, .int 0, .ref q12, .null, .null, .null, .null, .int 0, .null, .int 0, .int 0, .int 0, .null, .null, .int 0, .null, .int 0])), (q1, .inl (cA 2, 53, .inr (.inl (fillL ini_names 53)))), (q2, .inl (cA 0, 53, .inl (fillI ini_gives 53))), (q3, .inl (cA 0, 32, .inl (fillI ini_turned 32))), (q4, .inl (cA 1, 400, .inl (fun _ => 0))), (q5, .inl (cA 0, 400, .inl (fun _ => 0))), (q6, .inl (cA 0, 402, .inl (fun _ => 0))), (q7, .inl (cA 0, 402, .inl (fun _ => 0))), (q8, .inl (cA 0, 402, .inl (fun _ => 0))), (q9, .inl (cA 3, 402, .inl (fun _ => 0))), (q10, .inl (cA 0, 402, .inl (fun _ => 0))), (q11, .inl (cA 0, 402, .inl (fun _ => 0))), (q12, .inl (cA 0, 402, .inl (fun _ => 0)))]) rfl d_Mo_init_1026 ?_
  refine h_aload_n F d_Mo_init_1029 0 rfl ?_
  refine h_sipush F (v := 402) d_Mo_init_1030 (by decide) ?_
  refine h_newa F (ty := .int) (N' := 402) (a0 := (402, .inl (fun _ => 0))) 0 rfl (fun _ _ h => h) mw_128 rfl (fun _ => rfl) (by decide) rfl (Nat.le_of_ble_eq_true rfl) (Nat.le_of_ble_eq_true rfl) (Nat.le_of_ble_eq_true rfl) d_Mo_init_1033 (fun q13 => ?_)
  refine h_ws (ws' := [(a, .inr (9, [.ref q1, .ref q2, .ref q3, .int 0, .ref q4, .int 0, .ref q5, .int 0, .int 0, .int 0, .ref q6, .ref q7, .ref q8, .ref q9, .ref q10, .ref q11, .int 0, .ref q12, .null, .null, .null, .null, .int 0, .null, .int 0, .int 0, .int 0, .null, .null, .int 0, .null, .int 0])), (q1, .inl (cA 2, 53, .inr (.inl (fillL ini_names 53)))), (q2, .inl (cA 0, 53, .inl (fillI ini_gives 53))), (q3, .inl (cA 0, 32, .inl (fillI ini_turned 32))), (q4, .inl (cA 1, 400, .inl (fun _ => 0))), (q5, .inl (cA 0, 400, .inl (fun _ => 0))), (q6, .inl (cA 0, 402, .inl (fun _ => 0))), (q7, .inl (cA 0, 402, .inl (fun _ => 0))), (q8, .inl (cA 0, 402, .inl (fun _ => 0))), (q9, .inl (cA 3, 402, .inl (fun _ => 0))), (q10, .inl (cA 0, 402, .inl (fun _ => 0))), (q11, .inl (cA 0, 402, .inl (fun _ => 0))), (q12, .inl (cA 0, 402, .inl (fun _ => 0))), (q13, .inl (cA 0, 402, .inl (fun _ => 0)))]) rfl ?_
  refine h_putF F in_X13 0 rfl rfl 18 (by decide) tyX13 tyX13_ok nmX13 mw_1124 rfl hmn rfl rfl rfl (Nat.le_of_ble_eq_true rfl) (ws' := [(a, .inr (9, [.ref q1, .ref q2, .ref q3, .int 0, .ref q4, .int 0, .ref q5, .int 0, .int 0, .int 0, .ref q6, .ref q7, .ref q8, .ref q9, .ref q10, .ref q11, .int 0, .ref q12, .ref q13, .null, .null, .null, .int 0, .null, .int 0, .int 0, .int 0, .null, .null, .int 0, .null, .int 0])), (q1, .inl (cA 2, 53, .inr (.inl (fillL ini_names 53)))), (q2, .inl (cA 0, 53, .inl (fillI ini_gives 53))), (q3, .inl (cA 0, 32, .inl (fillI ini_turned 32))), (q4, .inl (cA 1, 400, .inl (fun _ => 0))), (q5, .inl (cA 0, 400, .inl (fun _ => 0))), (q6, .inl (cA 0, 402, .inl (fun _ => 0))), (q7, .inl (cA 0, 402, .inl (fun _ => 0))), (q8, .inl (cA 0, 402, .inl (fun _ => 0))), (q9, .inl (cA 3, 402, .inl (fun _ => 0))), (q10, .inl (cA 0, 402, .inl (fun _ => 0))), (q11, .inl (cA 0, 402, .inl (fun _ => 0))), (q12, .inl (cA 0, 402, .inl (fun _ => 0))), (q13, .inl (cA 0, 402, .inl (fun _ => 0)))]) rfl d_Mo_init_1035 ?_
  refine h_aload_n F d_Mo_init_1038 0 rfl ?_
  refine h_sipush F (v := 402) d_Mo_init_1039 (by decide) ?_
  refine h_newa F (ty := .int) (N' := 402) (a0 := (402, .inl (fun _ => 0))) 0 rfl (fun _ _ h => h) mw_128 rfl (fun _ => rfl) (by decide) rfl (Nat.le_of_ble_eq_true rfl) (Nat.le_of_ble_eq_true rfl) (Nat.le_of_ble_eq_true rfl) d_Mo_init_1042 (fun q14 => ?_)
  refine h_ws (ws' := [(a, .inr (9, [.ref q1, .ref q2, .ref q3, .int 0, .ref q4, .int 0, .ref q5, .int 0, .int 0, .int 0, .ref q6, .ref q7, .ref q8, .ref q9, .ref q10, .ref q11, .int 0, .ref q12, .ref q13, .null, .null, .null, .int 0, .null, .int 0, .int 0, .int 0, .null, .null, .int 0, .null, .int 0])), (q1, .inl (cA 2, 53, .inr (.inl (fillL ini_names 53)))), (q2, .inl (cA 0, 53, .inl (fillI ini_gives 53))), (q3, .inl (cA 0, 32, .inl (fillI ini_turned 32))), (q4, .inl (cA 1, 400, .inl (fun _ => 0))), (q5, .inl (cA 0, 400, .inl (fun _ => 0))), (q6, .inl (cA 0, 402, .inl (fun _ => 0))), (q7, .inl (cA 0, 402, .inl (fun _ => 0))), (q8, .inl (cA 0, 402, .inl (fun _ => 0))), (q9, .inl (cA 3, 402, .inl (fun _ => 0))), (q10, .inl (cA 0, 402, .inl (fun _ => 0))), (q11, .inl (cA 0, 402, .inl (fun _ => 0))), (q12, .inl (cA 0, 402, .inl (fun _ => 0))), (q13, .inl (cA 0, 402, .inl (fun _ => 0))), (q14, .inl (cA 0, 402, .inl (fun _ => 0)))]) rfl ?_
  refine h_putF F in_X13 0 rfl rfl 19 (by decide) tyX13 tyX13_ok nmX13 mw_1125 rfl hmn rfl rfl rfl (Nat.le_of_ble_eq_true rfl) (ws' := [(a, .inr (9, [.ref q1, .ref q2, .ref q3, .int 0, .ref q4, .int 0, .ref q5, .int 0, .int 0, .int 0, .ref q6, .ref q7, .ref q8, .ref q9, .ref q10, .ref q11, .int 0, .ref q12, .ref q13, .ref q14, .null, .null, .int 0, .null, .int 0, .int 0, .int 0, .null, .null, .int 0, .null, .int 0])), (q1, .inl (cA 2, 53, .inr (.inl (fillL ini_names 53)))), (q2, .inl (cA 0, 53, .inl (fillI ini_gives 53))), (q3, .inl (cA 0, 32, .inl (fillI ini_turned 32))), (q4, .inl (cA 1, 400, .inl (fun _ => 0))), (q5, .inl (cA 0, 400, .inl (fun _ => 0))), (q6, .inl (cA 0, 402, .inl (fun _ => 0))), (q7, .inl (cA 0, 402, .inl (fun _ => 0))), (q8, .inl (cA 0, 402, .inl (fun _ => 0))), (q9, .inl (cA 3, 402, .inl (fun _ => 0))), (q10, .inl (cA 0, 402, .inl (fun _ => 0))), (q11, .inl (cA 0, 402, .inl (fun _ => 0))), (q12, .inl (cA 0, 402, .inl (fun _ => 0))), (q13, .inl (cA 0, 402, .inl (fun _ => 0))), (q14, .inl (cA 0, 402, .inl (fun _ => 0)))]) rfl d_Mo_init_1044 ?_
  refine h_aload_n F d_Mo_init_1047 0 rfl ?_
  refine h_sipush F (v := 402) d_Mo_init_1048 (by decide) ?_
  refine h_newa F (ty := .int) (N' := 402) (a0 := (402, .inl (fun _ => 0))) 0 rfl (fun _ _ h => h) mw_128 rfl (fun _ => rfl) (by decide) rfl (Nat.le_of_ble_eq_true rfl) (Nat.le_of_ble_eq_true rfl) (Nat.le_of_ble_eq_true rfl) d_Mo_init_1051 (fun q15 => ?_)
  refine h_ws (ws' := [(a, .inr (9, [.ref q1, .ref q2, .ref q3, .int 0, .ref q4, .int 0, .ref q5, .int 0, .int 0, .int 0, .ref q6, .ref q7, .ref q8, .ref q9, .ref q10, .ref q11, .int 0, .ref q12, .ref q13, .ref q14, .null, .null, .int 0, .null, .int 0, .int 0, .int 0, .null, .null, .int 0, .null, .int 0])), (q1, .inl (cA 2, 53, .inr (.inl (fillL ini_names 53)))), (q2, .inl (cA 0, 53, .inl (fillI ini_gives 53))), (q3, .inl (cA 0, 32, .inl (fillI ini_turned 32))), (q4, .inl (cA 1, 400, .inl (fun _ => 0))), (q5, .inl (cA 0, 400, .inl (fun _ => 0))), (q6, .inl (cA 0, 402, .inl (fun _ => 0))), (q7, .inl (cA 0, 402, .inl (fun _ => 0))), (q8, .inl (cA 0, 402, .inl (fun _ => 0))), (q9, .inl (cA 3, 402, .inl (fun _ => 0))), (q10, .inl (cA 0, 402, .inl (fun _ => 0))), (q11, .inl (cA 0, 402, .inl (fun _ => 0))), (q12, .inl (cA 0, 402, .inl (fun _ => 0))), (q13, .inl (cA 0, 402, .inl (fun _ => 0))), (q14, .inl (cA 0, 402, .inl (fun _ => 0))), (q15, .inl (cA 0, 402, .inl (fun _ => 0)))]) rfl ?_
  refine h_putF F in_X13 0 rfl rfl 20 (by decide) tyX13 tyX13_ok nmX13 mw_1126 rfl hmn rfl rfl rfl (Nat.le_of_ble_eq_true rfl) (ws' := [(a, .inr (9, [.ref q1, .ref q2, .ref q3, .int 0, .ref q4, .int 0, .ref q5, .int 0, .int 0, .int 0, .ref q6, .ref q7, .ref q8, .ref q9, .ref q10, .ref q11, .int 0, .ref q12, .ref q13, .ref q14, .ref q15, .null, .int 0, .null, .int 0, .int 0, .int 0, .null, .null, .int 0, .null, .int 0])), (q1, .inl (cA 2, 53, .inr (.inl (fillL ini_names 53)))), (q2, .inl (cA 0, 53, .inl (fillI ini_gives 53))), (q3, .inl (cA 0, 32, .inl (fillI ini_turned 32))), (q4, .inl (cA 1, 400, .inl (fun _ => 0))), (q5, .inl (cA 0, 400, .inl (fun _ => 0))), (q6, .inl (cA 0, 402, .inl (fun _ => 0))), (q7, .inl (cA 0, 402, .inl (fun _ => 0))), (q8, .inl (cA 0, 402, .inl (fun _ => 0))), (q9, .inl (cA 3, 402, .inl (fun _ => 0))), (q10, .inl (cA 0, 402, .inl (fun _ => 0))), (q11, .inl (cA 0, 402, .inl (fun _ => 0))), (q12, .inl (cA 0, 402, .inl (fun _ => 0))), (q13, .inl (cA 0, 402, .inl (fun _ => 0))), (q14, .inl (cA 0, 402, .inl (fun _ => 0))), (q15, .inl (cA 0, 402, .inl (fun _ => 0)))]) rfl d_Mo_init_1053 ?_
  refine h_aload_n F d_Mo_init_1056 0 rfl ?_
  refine h_sipush F (v := 402) d_Mo_init_1057 (by decide) ?_
  refine h_newa F (ty := .boolean) (N' := 402) (a0 := (402, .inl (fun _ => 0))) 3 rfl (fun _ _ h => h) mw_1204 rfl (fun _ => rfl) (by decide) rfl (Nat.le_of_ble_eq_true rfl) (Nat.le_of_ble_eq_true rfl) (Nat.le_of_ble_eq_true rfl) d_Mo_init_1060 (fun q16 => ?_)
  refine h_ws (ws' := [(a, .inr (9, [.ref q1, .ref q2, .ref q3, .int 0, .ref q4, .int 0, .ref q5, .int 0, .int 0, .int 0, .ref q6, .ref q7, .ref q8, .ref q9, .ref q10, .ref q11, .int 0, .ref q12, .ref q13, .ref q14, .ref q15, .null, .int 0, .null, .int 0, .int 0, .int 0, .null, .null, .int 0, .null, .int 0])), (q1, .inl (cA 2, 53, .inr (.inl (fillL ini_names 53)))), (q2, .inl (cA 0, 53, .inl (fillI ini_gives 53))), (q3, .inl (cA 0, 32, .inl (fillI ini_turned 32))), (q4, .inl (cA 1, 400, .inl (fun _ => 0))), (q5, .inl (cA 0, 400, .inl (fun _ => 0))), (q6, .inl (cA 0, 402, .inl (fun _ => 0))), (q7, .inl (cA 0, 402, .inl (fun _ => 0))), (q8, .inl (cA 0, 402, .inl (fun _ => 0))), (q9, .inl (cA 3, 402, .inl (fun _ => 0))), (q10, .inl (cA 0, 402, .inl (fun _ => 0))), (q11, .inl (cA 0, 402, .inl (fun _ => 0))), (q12, .inl (cA 0, 402, .inl (fun _ => 0))), (q13, .inl (cA 0, 402, .inl (fun _ => 0))), (q14, .inl (cA 0, 402, .inl (fun _ => 0))), (q15, .inl (cA 0, 402, .inl (fun _ => 0))), (q16, .inl (cA 3, 402, .inl (fun _ => 0)))]) rfl ?_
  refine h_putF F in_X13 0 rfl rfl 21 (by decide) tyX13 tyX13_ok nmX13 mw_1127 rfl hmn rfl rfl rfl (Nat.le_of_ble_eq_true rfl) (ws' := [(a, .inr (9, [.ref q1, .ref q2, .ref q3, .int 0, .ref q4, .int 0, .ref q5, .int 0, .int 0, .int 0, .ref q6, .ref q7, .ref q8, .ref q9, .ref q10, .ref q11, .int 0, .ref q12, .ref q13, .ref q14, .ref q15, .ref q16, .int 0, .null, .int 0, .int 0, .int 0, .null, .null, .int 0, .null, .int 0])), (q1, .inl (cA 2, 53, .inr (.inl (fillL ini_names 53)))), (q2, .inl (cA 0, 53, .inl (fillI ini_gives 53))), (q3, .inl (cA 0, 32, .inl (fillI ini_turned 32))), (q4, .inl (cA 1, 400, .inl (fun _ => 0))), (q5, .inl (cA 0, 400, .inl (fun _ => 0))), (q6, .inl (cA 0, 402, .inl (fun _ => 0))), (q7, .inl (cA 0, 402, .inl (fun _ => 0))), (q8, .inl (cA 0, 402, .inl (fun _ => 0))), (q9, .inl (cA 3, 402, .inl (fun _ => 0))), (q10, .inl (cA 0, 402, .inl (fun _ => 0))), (q11, .inl (cA 0, 402, .inl (fun _ => 0))), (q12, .inl (cA 0, 402, .inl (fun _ => 0))), (q13, .inl (cA 0, 402, .inl (fun _ => 0))), (q14, .inl (cA 0, 402, .inl (fun _ => 0))), (q15, .inl (cA 0, 402, .inl (fun _ => 0))), (q16, .inl (cA 3, 402, .inl (fun _ => 0)))]) rfl d_Mo_init_1062 ?_
  refine h_aload_n F d_Mo_init_1065 0 rfl ?_
  refine h_sipush F (v := 810) d_Mo_init_1066 (by decide) ?_
  refine h_newa F (ty := .int) (N' := 810) (a0 := (810, .inl (fun _ => 0))) 0 rfl (fun _ _ h => h) mw_128 rfl (fun _ => rfl) (by decide) rfl (Nat.le_of_ble_eq_true rfl) (Nat.le_of_ble_eq_true rfl) (Nat.le_of_ble_eq_true rfl) d_Mo_init_1069 (fun q17 => ?_)
  refine h_ws (ws' := [(a, .inr (9, [.ref q1, .ref q2, .ref q3, .int 0, .ref q4, .int 0, .ref q5, .int 0, .int 0, .int 0, .ref q6, .ref q7, .ref q8, .ref q9, .ref q10, .ref q11, .int 0, .ref q12, .ref q13, .ref q14, .ref q15, .ref q16, .int 0, .null, .int 0, .int 0, .int 0, .null, .null, .int 0, .null, .int 0])), (q1, .inl (cA 2, 53, .inr (.inl (fillL ini_names 53)))), (q2, .inl (cA 0, 53, .inl (fillI ini_gives 53))), (q3, .inl (cA 0, 32, .inl (fillI ini_turned 32))), (q4, .inl (cA 1, 400, .inl (fun _ => 0))), (q5, .inl (cA 0, 400, .inl (fun _ => 0))), (q6, .inl (cA 0, 402, .inl (fun _ => 0))), (q7, .inl (cA 0, 402, .inl (fun _ => 0))), (q8, .inl (cA 0, 402, .inl (fun _ => 0))), (q9, .inl (cA 3, 402, .inl (fun _ => 0))), (q10, .inl (cA 0, 402, .inl (fun _ => 0))), (q11, .inl (cA 0, 402, .inl (fun _ => 0))), (q12, .inl (cA 0, 402, .inl (fun _ => 0))), (q13, .inl (cA 0, 402, .inl (fun _ => 0))), (q14, .inl (cA 0, 402, .inl (fun _ => 0))), (q15, .inl (cA 0, 402, .inl (fun _ => 0))), (q16, .inl (cA 3, 402, .inl (fun _ => 0))), (q17, .inl (cA 0, 810, .inl (fun _ => 0)))]) rfl ?_
  refine h_putF F in_X13 0 rfl rfl 23 (by decide) tyX13 tyX13_ok nmX13 mw_1129 rfl hmn rfl rfl rfl (Nat.le_of_ble_eq_true rfl) (ws' := [(a, .inr (9, [.ref q1, .ref q2, .ref q3, .int 0, .ref q4, .int 0, .ref q5, .int 0, .int 0, .int 0, .ref q6, .ref q7, .ref q8, .ref q9, .ref q10, .ref q11, .int 0, .ref q12, .ref q13, .ref q14, .ref q15, .ref q16, .int 0, .ref q17, .int 0, .int 0, .int 0, .null, .null, .int 0, .null, .int 0])), (q1, .inl (cA 2, 53, .inr (.inl (fillL ini_names 53)))), (q2, .inl (cA 0, 53, .inl (fillI ini_gives 53))), (q3, .inl (cA 0, 32, .inl (fillI ini_turned 32))), (q4, .inl (cA 1, 400, .inl (fun _ => 0))), (q5, .inl (cA 0, 400, .inl (fun _ => 0))), (q6, .inl (cA 0, 402, .inl (fun _ => 0))), (q7, .inl (cA 0, 402, .inl (fun _ => 0))), (q8, .inl (cA 0, 402, .inl (fun _ => 0))), (q9, .inl (cA 3, 402, .inl (fun _ => 0))), (q10, .inl (cA 0, 402, .inl (fun _ => 0))), (q11, .inl (cA 0, 402, .inl (fun _ => 0))), (q12, .inl (cA 0, 402, .inl (fun _ => 0))), (q13, .inl (cA 0, 402, .inl (fun _ => 0))), (q14, .inl (cA 0, 402, .inl (fun _ => 0))), (q15, .inl (cA 0, 402, .inl (fun _ => 0))), (q16, .inl (cA 3, 402, .inl (fun _ => 0))), (q17, .inl (cA 0, 810, .inl (fun _ => 0)))]) rfl d_Mo_init_1071 ?_
  refine h_aload_n F d_Mo_init_1074 0 rfl ?_
  refine h_sipush F (v := 1200) d_Mo_init_1075 (by decide) ?_
  refine h_newa F (ty := .int) (N' := 1200) (a0 := (1200, .inl (fun _ => 0))) 0 rfl (fun _ _ h => h) mw_128 rfl (fun _ => rfl) (by decide) rfl (Nat.le_of_ble_eq_true rfl) (Nat.le_of_ble_eq_true rfl) (Nat.le_of_ble_eq_true rfl) d_Mo_init_1078 (fun q18 => ?_)
  refine h_ws (ws' := [(a, .inr (9, [.ref q1, .ref q2, .ref q3, .int 0, .ref q4, .int 0, .ref q5, .int 0, .int 0, .int 0, .ref q6, .ref q7, .ref q8, .ref q9, .ref q10, .ref q11, .int 0, .ref q12, .ref q13, .ref q14, .ref q15, .ref q16, .int 0, .ref q17, .int 0, .int 0, .int 0, .null, .null, .int 0, .null, .int 0])), (q1, .inl (cA 2, 53, .inr (.inl (fillL ini_names 53)))), (q2, .inl (cA 0, 53, .inl (fillI ini_gives 53))), (q3, .inl (cA 0, 32, .inl (fillI ini_turned 32))), (q4, .inl (cA 1, 400, .inl (fun _ => 0))), (q5, .inl (cA 0, 400, .inl (fun _ => 0))), (q6, .inl (cA 0, 402, .inl (fun _ => 0))), (q7, .inl (cA 0, 402, .inl (fun _ => 0))), (q8, .inl (cA 0, 402, .inl (fun _ => 0))), (q9, .inl (cA 3, 402, .inl (fun _ => 0))), (q10, .inl (cA 0, 402, .inl (fun _ => 0))), (q11, .inl (cA 0, 402, .inl (fun _ => 0))), (q12, .inl (cA 0, 402, .inl (fun _ => 0))), (q13, .inl (cA 0, 402, .inl (fun _ => 0))), (q14, .inl (cA 0, 402, .inl (fun _ => 0))), (q15, .inl (cA 0, 402, .inl (fun _ => 0))), (q16, .inl (cA 3, 402, .inl (fun _ => 0))), (q17, .inl (cA 0, 810, .inl (fun _ => 0))), (q18, .inl (cA 0, 1200, .inl (fun _ => 0)))]) rfl ?_
  refine h_putF F in_X13 0 rfl rfl 27 (by decide) tyX13 tyX13_ok nmX13 mw_1133 rfl hmn rfl rfl rfl (Nat.le_of_ble_eq_true rfl) (ws' := [(a, .inr (9, [.ref q1, .ref q2, .ref q3, .int 0, .ref q4, .int 0, .ref q5, .int 0, .int 0, .int 0, .ref q6, .ref q7, .ref q8, .ref q9, .ref q10, .ref q11, .int 0, .ref q12, .ref q13, .ref q14, .ref q15, .ref q16, .int 0, .ref q17, .int 0, .int 0, .int 0, .ref q18, .null, .int 0, .null, .int 0])), (q1, .inl (cA 2, 53, .inr (.inl (fillL ini_names 53)))), (q2, .inl (cA 0, 53, .inl (fillI ini_gives 53))), (q3, .inl (cA 0, 32, .inl (fillI ini_turned 32))), (q4, .inl (cA 1, 400, .inl (fun _ => 0))), (q5, .inl (cA 0, 400, .inl (fun _ => 0))), (q6, .inl (cA 0, 402, .inl (fun _ => 0))), (q7, .inl (cA 0, 402, .inl (fun _ => 0))), (q8, .inl (cA 0, 402, .inl (fun _ => 0))), (q9, .inl (cA 3, 402, .inl (fun _ => 0))), (q10, .inl (cA 0, 402, .inl (fun _ => 0))), (q11, .inl (cA 0, 402, .inl (fun _ => 0))), (q12, .inl (cA 0, 402, .inl (fun _ => 0))), (q13, .inl (cA 0, 402, .inl (fun _ => 0))), (q14, .inl (cA 0, 402, .inl (fun _ => 0))), (q15, .inl (cA 0, 402, .inl (fun _ => 0))), (q16, .inl (cA 3, 402, .inl (fun _ => 0))), (q17, .inl (cA 0, 810, .inl (fun _ => 0))), (q18, .inl (cA 0, 1200, .inl (fun _ => 0)))]) rfl d_Mo_init_1080 ?_
  refine h_aload_n F d_Mo_init_1083 0 rfl ?_
  refine h_sipush F (v := 1200) d_Mo_init_1084 (by decide) ?_
  refine h_newa F (ty := .int) (N' := 1200) (a0 := (1200, .inl (fun _ => 0))) 0 rfl (fun _ _ h => h) mw_128 rfl (fun _ => rfl) (by decide) rfl (Nat.le_of_ble_eq_true rfl) (Nat.le_of_ble_eq_true rfl) (Nat.le_of_ble_eq_true rfl) d_Mo_init_1087 (fun q19 => ?_)
  refine h_ws (ws' := [(a, .inr (9, [.ref q1, .ref q2, .ref q3, .int 0, .ref q4, .int 0, .ref q5, .int 0, .int 0, .int 0, .ref q6, .ref q7, .ref q8, .ref q9, .ref q10, .ref q11, .int 0, .ref q12, .ref q13, .ref q14, .ref q15, .ref q16, .int 0, .ref q17, .int 0, .int 0, .int 0, .ref q18, .null, .int 0, .null, .int 0])), (q1, .inl (cA 2, 53, .inr (.inl (fillL ini_names 53)))), (q2, .inl (cA 0, 53, .inl (fillI ini_gives 53))), (q3, .inl (cA 0, 32, .inl (fillI ini_turned 32))), (q4, .inl (cA 1, 400, .inl (fun _ => 0))), (q5, .inl (cA 0, 400, .inl (fun _ => 0))), (q6, .inl (cA 0, 402, .inl (fun _ => 0))), (q7, .inl (cA 0, 402, .inl (fun _ => 0))), (q8, .inl (cA 0, 402, .inl (fun _ => 0))), (q9, .inl (cA 3, 402, .inl (fun _ => 0))), (q10, .inl (cA 0, 402, .inl (fun _ => 0))), (q11, .inl (cA 0, 402, .inl (fun _ => 0))), (q12, .inl (cA 0, 402, .inl (fun _ => 0))), (q13, .inl (cA 0, 402, .inl (fun _ => 0))), (q14, .inl (cA 0, 402, .inl (fun _ => 0))), (q15, .inl (cA 0, 402, .inl (fun _ => 0))), (q16, .inl (cA 3, 402, .inl (fun _ => 0))), (q17, .inl (cA 0, 810, .inl (fun _ => 0))), (q18, .inl (cA 0, 1200, .inl (fun _ => 0))), (q19, .inl (cA 0, 1200, .inl (fun _ => 0)))]) rfl ?_
  refine h_putF F in_X13 0 rfl rfl 28 (by decide) tyX13 tyX13_ok nmX13 mw_1134 rfl hmn rfl rfl rfl (Nat.le_of_ble_eq_true rfl) (ws' := [(a, .inr (9, [.ref q1, .ref q2, .ref q3, .int 0, .ref q4, .int 0, .ref q5, .int 0, .int 0, .int 0, .ref q6, .ref q7, .ref q8, .ref q9, .ref q10, .ref q11, .int 0, .ref q12, .ref q13, .ref q14, .ref q15, .ref q16, .int 0, .ref q17, .int 0, .int 0, .int 0, .ref q18, .ref q19, .int 0, .null, .int 0])), (q1, .inl (cA 2, 53, .inr (.inl (fillL ini_names 53)))), (q2, .inl (cA 0, 53, .inl (fillI ini_gives 53))), (q3, .inl (cA 0, 32, .inl (fillI ini_turned 32))), (q4, .inl (cA 1, 400, .inl (fun _ => 0))), (q5, .inl (cA 0, 400, .inl (fun _ => 0))), (q6, .inl (cA 0, 402, .inl (fun _ => 0))), (q7, .inl (cA 0, 402, .inl (fun _ => 0))), (q8, .inl (cA 0, 402, .inl (fun _ => 0))), (q9, .inl (cA 3, 402, .inl (fun _ => 0))), (q10, .inl (cA 0, 402, .inl (fun _ => 0))), (q11, .inl (cA 0, 402, .inl (fun _ => 0))), (q12, .inl (cA 0, 402, .inl (fun _ => 0))), (q13, .inl (cA 0, 402, .inl (fun _ => 0))), (q14, .inl (cA 0, 402, .inl (fun _ => 0))), (q15, .inl (cA 0, 402, .inl (fun _ => 0))), (q16, .inl (cA 3, 402, .inl (fun _ => 0))), (q17, .inl (cA 0, 810, .inl (fun _ => 0))), (q18, .inl (cA 0, 1200, .inl (fun _ => 0))), (q19, .inl (cA 0, 1200, .inl (fun _ => 0)))]) rfl d_Mo_init_1089 ?_
  refine h_aload_n F d_Mo_init_1092 0 rfl ?_
  refine h_sipush F (v := 4000) d_Mo_init_1093 (by decide) ?_
  refine h_newa F (ty := .byte) (N' := 4000) (a0 := (4000, .inl (fun _ => 0))) 1 rfl (fun _ _ h => h) mw_127 rfl (fun _ => rfl) (by decide) rfl (Nat.le_of_ble_eq_true rfl) (Nat.le_of_ble_eq_true rfl) (Nat.le_of_ble_eq_true rfl) d_Mo_init_1096 (fun q20 => ?_)
  refine h_ws (ws' := [(a, .inr (9, [.ref q1, .ref q2, .ref q3, .int 0, .ref q4, .int 0, .ref q5, .int 0, .int 0, .int 0, .ref q6, .ref q7, .ref q8, .ref q9, .ref q10, .ref q11, .int 0, .ref q12, .ref q13, .ref q14, .ref q15, .ref q16, .int 0, .ref q17, .int 0, .int 0, .int 0, .ref q18, .ref q19, .int 0, .null, .int 0])), (q1, .inl (cA 2, 53, .inr (.inl (fillL ini_names 53)))), (q2, .inl (cA 0, 53, .inl (fillI ini_gives 53))), (q3, .inl (cA 0, 32, .inl (fillI ini_turned 32))), (q4, .inl (cA 1, 400, .inl (fun _ => 0))), (q5, .inl (cA 0, 400, .inl (fun _ => 0))), (q6, .inl (cA 0, 402, .inl (fun _ => 0))), (q7, .inl (cA 0, 402, .inl (fun _ => 0))), (q8, .inl (cA 0, 402, .inl (fun _ => 0))), (q9, .inl (cA 3, 402, .inl (fun _ => 0))), (q10, .inl (cA 0, 402, .inl (fun _ => 0))), (q11, .inl (cA 0, 402, .inl (fun _ => 0))), (q12, .inl (cA 0, 402, .inl (fun _ => 0))), (q13, .inl (cA 0, 402, .inl (fun _ => 0))), (q14, .inl (cA 0, 402, .inl (fun _ => 0))), (q15, .inl (cA 0, 402, .inl (fun _ => 0))), (q16, .inl (cA 3, 402, .inl (fun _ => 0))), (q17, .inl (cA 0, 810, .inl (fun _ => 0))), (q18, .inl (cA 0, 1200, .inl (fun _ => 0))), (q19, .inl (cA 0, 1200, .inl (fun _ => 0))), (q20, .inl (cA 1, 4000, .inl (fun _ => 0)))]) rfl ?_
  refine h_putF F in_X13 0 rfl rfl 30 (by decide) tyX13 tyX13_ok nmX13 mw_1136 rfl hmn rfl rfl rfl (Nat.le_of_ble_eq_true rfl) (ws' := [(a, .inr (9, [.ref q1, .ref q2, .ref q3, .int 0, .ref q4, .int 0, .ref q5, .int 0, .int 0, .int 0, .ref q6, .ref q7, .ref q8, .ref q9, .ref q10, .ref q11, .int 0, .ref q12, .ref q13, .ref q14, .ref q15, .ref q16, .int 0, .ref q17, .int 0, .int 0, .int 0, .ref q18, .ref q19, .int 0, .ref q20, .int 0])), (q1, .inl (cA 2, 53, .inr (.inl (fillL ini_names 53)))), (q2, .inl (cA 0, 53, .inl (fillI ini_gives 53))), (q3, .inl (cA 0, 32, .inl (fillI ini_turned 32))), (q4, .inl (cA 1, 400, .inl (fun _ => 0))), (q5, .inl (cA 0, 400, .inl (fun _ => 0))), (q6, .inl (cA 0, 402, .inl (fun _ => 0))), (q7, .inl (cA 0, 402, .inl (fun _ => 0))), (q8, .inl (cA 0, 402, .inl (fun _ => 0))), (q9, .inl (cA 3, 402, .inl (fun _ => 0))), (q10, .inl (cA 0, 402, .inl (fun _ => 0))), (q11, .inl (cA 0, 402, .inl (fun _ => 0))), (q12, .inl (cA 0, 402, .inl (fun _ => 0))), (q13, .inl (cA 0, 402, .inl (fun _ => 0))), (q14, .inl (cA 0, 402, .inl (fun _ => 0))), (q15, .inl (cA 0, 402, .inl (fun _ => 0))), (q16, .inl (cA 3, 402, .inl (fun _ => 0))), (q17, .inl (cA 0, 810, .inl (fun _ => 0))), (q18, .inl (cA 0, 1200, .inl (fun _ => 0))), (q19, .inl (cA 0, 1200, .inl (fun _ => 0))), (q20, .inl (cA 1, 4000, .inl (fun _ => 0)))]) rfl d_Mo_init_1098 ?_
  exact h_vret F (fun k => ([q1, q2, q3, q4, q5, q6, q7, q8, q9, q10, q11, q12, q13, q14, q15, q16, q17, q18, q19, q20] : List Nat).getD k 0) hr hlk (Nat.le_of_ble_eq_true rfl) (Nat.le_of_ble_eq_true rfl) rfl d_Mo_init_1101
