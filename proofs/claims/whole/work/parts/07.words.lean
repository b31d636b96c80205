def WA : List Cond := lw_tbl.filter goodWord
theorem wa_of {w : Cond} (i : Nat) (h : lw_tbl[i]? = some w) (hg : goodWord w = true) : w ∈ WA := List.mem_filter.mpr ⟨List.mem_of_getElem? h, hg⟩
theorem wa_good : GoodIn WA WA := fun w h => ⟨h, good_of_word (List.mem_filter.mp h).2⟩
theorem wi_L : Cond.initialized RL ∈ WA := wa_of 51 rfl rfl
theorem wi_X5 : Cond.initialized RX5 ∈ WA := wa_of 52 rfl rfl
theorem wi_X4 : Cond.initialized RX4 ∈ WA := wa_of 53 rfl rfl
theorem wi_X2 : Cond.initialized RX2 ∈ WA := wa_of 54 rfl rfl
theorem wi_X3 : Cond.initialized RX3 ∈ WA := wa_of 55 rfl rfl
theorem wi_X1 : Cond.initialized RX1 ∈ WA := wa_of 56 rfl rfl
theorem wi_X6 : Cond.initialized RX6 ∈ WA := wa_of 57 rfl rfl
theorem wi_X0 : Cond.initialized RX0 ∈ WA := wa_of 58 rfl rfl
theorem wi_Math : Cond.initialized "java/lang/Math" ∈ WA := wa_of 59 rfl rfl
theorem wi_Long : Cond.initialized "java/lang/Long" ∈ WA := wa_of 60 rfl rfl
theorem wk_L_7 : Cond.classLink RL 7 RX5 ∈ WA := wa_of 61 rfl rfl
theorem wn_X5 : Cond.instantiable RX5 10 ∈ WA := wa_of 62 rfl rfl
theorem wl_L_9 : Cond.methodLink RL 9 yX5_init ∈ WA := wa_of 63 rfl rfl
theorem wv_X5_init : Cond.instanceMethod yX5_init ∈ WA := wa_of 64 rfl rfl
theorem wc_X5_init : Cond.code yX5_init cX5_init 2 none ∈ WA := wa_of 65 rfl rfl
theorem wl_X5_1 : Cond.methodLink RX5 1 ⟨"java/lang/Object", "<init>", "()V"⟩ ∈ WA := wa_of 66 rfl rfl
-- 16 (Jvm.Cond.instanceMethod ({ cls := "java/lang/Object", name := "<init>", desc := "()V" } : Jvm.MethodName))
-- 17 (Jvm.Cond.code ({ cls := "java/lang/Object", name := "<init>", desc := "()V" } : Jvm.MethodName) object_method_1_code (1 : Nat) (Option.none : Option Jvm.ClassFile.FieldType))
theorem wk_X5_7 : Cond.classLink RX5 7 RX4 ∈ WA := wa_of 69 rfl rfl
theorem wn_X4 : Cond.instantiable RX4 3 ∈ WA := wa_of 70 rfl rfl
theorem wv_X4_init : Cond.instanceMethod yX4_init ∈ WA := wa_of 72 rfl rfl
theorem wc_X4_init : Cond.code yX4_init cX4_init 1 none ∈ WA := wa_of 73 rfl rfl
theorem wl_X4_3 : Cond.methodLink RX4 3 ⟨"java/lang/Object", "<init>", "()V"⟩ ∈ WA := wa_of 74 rfl rfl
theorem wk_X4_19 : Cond.classLink RX4 19 RX0 ∈ WA := wa_of 75 rfl rfl
theorem wf0_X4_9 : Cond.fieldLink RX4 9 "RootRows$State" "settings" "[I" ∈ WA := wa_of 77 rfl rfl
theorem wf0_X4_15 : Cond.fieldLink RX4 15 "RootRows$State" "cells" "[J" ∈ WA := wa_of 78 rfl rfl
theorem wf0_X4_21 : Cond.fieldLink RX4 21 "RootRows$State" "formulas" "[LRootRows$Formula;" ∈ WA := wa_of 79 rfl rfl
theorem wa_int : Cond.arrayClass .int ∈ WA := wa_of 87 rfl rfl
theorem wa_long : Cond.arrayClass .long ∈ WA := wa_of 88 rfl rfl
theorem wk_X5_27 : Cond.classLink RX5 27 RX2 ∈ WA := wa_of 90 rfl rfl
theorem wn_X2 : Cond.instantiable RX2 6 ∈ WA := wa_of 91 rfl rfl
theorem wv_X2_init : Cond.instanceMethod yX2_init ∈ WA := wa_of 93 rfl rfl
theorem wc_X2_init : Cond.code yX2_init cX2_init 1 none ∈ WA := wa_of 94 rfl rfl
theorem wl_X2_3 : Cond.methodLink RX2 3 ⟨"java/lang/Object", "<init>", "()V"⟩ ∈ WA := wa_of 95 rfl rfl
theorem wf0_X2_9 : Cond.fieldLink RX2 9 "RootRows$Reader" "steps" "[I" ∈ WA := wa_of 96 rfl rfl
theorem wf0_X2_15 : Cond.fieldLink RX2 15 "RootRows$Reader" "waiting" "[C" ∈ WA := wa_of 98 rfl rfl
theorem wf0_X2_19 : Cond.fieldLink RX2 19 "RootRows$Reader" "size" "I" ∈ WA := wa_of 99 rfl rfl
theorem wf0_X2_23 : Cond.fieldLink RX2 23 "RootRows$Reader" "waits" "I" ∈ WA := wa_of 101 rfl rfl
theorem wf0_X2_26 : Cond.fieldLink RX2 26 "RootRows$Reader" "open" "I" ∈ WA := wa_of 102 rfl rfl
theorem wf0_X2_29 : Cond.fieldLink RX2 29 "RootRows$Reader" "next" "I" ∈ WA := wa_of 103 rfl rfl
theorem wa_char : Cond.arrayClass .char ∈ WA := wa_of 117 rfl rfl
theorem wk_X5_34 : Cond.classLink RX5 34 RX3 ∈ WA := wa_of 118 rfl rfl
theorem wn_X3 : Cond.instantiable RX3 5 ∈ WA := wa_of 119 rfl rfl
theorem wv_X3_init : Cond.instanceMethod yX3_init ∈ WA := wa_of 121 rfl rfl
theorem wc_X3_init : Cond.code yX3_init cX3_init 1 none ∈ WA := wa_of 122 rfl rfl
theorem wl_X3_3 : Cond.methodLink RX3 3 ⟨"java/lang/Object", "<init>", "()V"⟩ ∈ WA := wa_of 123 rfl rfl
theorem wf0_X3_9 : Cond.fieldLink RX3 9 "RootRows$Reckoner" "values" "[J" ∈ WA := wa_of 124 rfl rfl
theorem wf0_X3_15 : Cond.fieldLink RX3 15 "RootRows$Reckoner" "operands" "[J" ∈ WA := wa_of 125 rfl rfl
theorem wf0_X3_18 : Cond.fieldLink RX3 18 "RootRows$Reckoner" "height" "I" ∈ WA := wa_of 126 rfl rfl
theorem wf0_X3_22 : Cond.fieldLink RX3 22 "RootRows$Reckoner" "reached" "I" ∈ WA := wa_of 127 rfl rfl
theorem wf0_X3_25 : Cond.fieldLink RX3 25 "RootRows$Reckoner" "reason" "I" ∈ WA := wa_of 129 rfl rfl
theorem wk_X5_41 : Cond.classLink RX5 41 RX1 ∈ WA := wa_of 142 rfl rfl
theorem wn_X1 : Cond.instantiable RX1 9 ∈ WA := wa_of 143 rfl rfl
theorem wv_X1_init : Cond.instanceMethod yX1_init ∈ WA := wa_of 145 rfl rfl
theorem wc_X1_init : Cond.code yX1_init cX1_init 1 none ∈ WA := wa_of 146 rfl rfl
theorem wl_X1_3 : Cond.methodLink RX1 3 ⟨"java/lang/Object", "<init>", "()V"⟩ ∈ WA := wa_of 147 rfl rfl
theorem wf0_X1_9 : Cond.fieldLink RX1 9 "RootRows$Fraction" "number" "I" ∈ WA := wa_of 148 rfl rfl
theorem wf0_X1_19 : Cond.fieldLink RX1 19 "RootRows$Fraction" "whole" "I" ∈ WA := wa_of 149 rfl rfl
theorem wf0_X1_22 : Cond.fieldLink RX1 22 "RootRows$Fraction" "addend" "I" ∈ WA := wa_of 150 rfl rfl
theorem wf0_X1_25 : Cond.fieldLink RX1 25 "RootRows$Fraction" "divisor" "I" ∈ WA := wa_of 151 rfl rfl
theorem wf0_X1_28 : Cond.fieldLink RX1 28 "RootRows$Fraction" "quotient" "I" ∈ WA := wa_of 153 rfl rfl
theorem wf0_X1_31 : Cond.fieldLink RX1 31 "RootRows$Fraction" "upper" "J" ∈ WA := wa_of 155 rfl rfl
theorem wf0_X1_35 : Cond.fieldLink RX1 35 "RootRows$Fraction" "lower" "J" ∈ WA := wa_of 157 rfl rfl
theorem wf0_X1_38 : Cond.fieldLink RX1 38 "RootRows$Fraction" "upperBefore" "J" ∈ WA := wa_of 159 rfl rfl
theorem wf0_X1_41 : Cond.fieldLink RX1 41 "RootRows$Fraction" "lowerBefore" "J" ∈ WA := wa_of 160 rfl rfl
theorem wf0_X5_10 : Cond.fieldLink RX5 10 "RootRows" "now" "LRootRows$State;" ∈ WA := wa_of 180 rfl rfl
theorem wf0_X5_16 : Cond.fieldLink RX5 16 "RootRows" "history" "[LRootRows$State;" ∈ WA := wa_of 181 rfl rfl
theorem wf0_X5_20 : Cond.fieldLink RX5 20 "RootRows" "slots" "[LRootRows$State;" ∈ WA := wa_of 182 rfl rfl
theorem wf0_X5_23 : Cond.fieldLink RX5 23 "RootRows" "pad" "[C" ∈ WA := wa_of 183 rfl rfl
theorem wf0_X5_30 : Cond.fieldLink RX5 30 "RootRows" "reader" "LRootRows$Reader;" ∈ WA := wa_of 184 rfl rfl
theorem wf0_X5_37 : Cond.fieldLink RX5 37 "RootRows" "reckoner" "LRootRows$Reckoner;" ∈ WA := wa_of 185 rfl rfl
theorem wf0_X5_44 : Cond.fieldLink RX5 44 "RootRows" "fraction" "LRootRows$Fraction;" ∈ WA := wa_of 186 rfl rfl
theorem wf0_X5_87 : Cond.fieldLink RX5 87 "RootRows" "padLength" "I" ∈ WA := wa_of 187 rfl rfl
theorem wf0_X5_231 : Cond.fieldLink RX5 231 "RootRows" "oldest" "I" ∈ WA := wa_of 188 rfl rfl
theorem wf0_X5_155 : Cond.fieldLink RX5 155 "RootRows" "changes" "I" ∈ WA := wa_of 189 rfl rfl
theorem wl_L_13 : Cond.methodLink RL 13 yX5_set ∈ WA := wa_of 211 rfl rfl
theorem wv_X5_set : Cond.instanceMethod yX5_set ∈ WA := wa_of 212 rfl rfl
theorem we_X5_set : Cond.selects RX5 yX5_set yX5_set ∈ WA := wa_of 213 rfl rfl
theorem wc_X5_set : Cond.code yX5_set cX5_set 4 (some .int) ∈ WA := wa_of 214 rfl rfl
theorem wl_X5_48 : Cond.methodLink RX5 48 yX5_within ∈ WA := wa_of 215 rfl rfl
theorem ws_X5_within : Cond.static yX5_within ∈ WA := wa_of 216 rfl rfl
theorem wc_X5_within : Cond.code yX5_within cX5_within 6 (some .boolean) ∈ WA := wa_of 217 rfl rfl
theorem wq_X5_52 : Cond.constantLong RX5 52 (2) ∈ WA := wa_of 218 rfl rfl
theorem wq_X5_54 : Cond.constantLong RX5 54 (6) ∈ WA := wa_of 219 rfl rfl
theorem wl_X5_56 : Cond.methodLink RX5 56 yX5_keepState ∈ WA := wa_of 220 rfl rfl
theorem wv_X5_keepState : Cond.instanceMethod yX5_keepState ∈ WA := wa_of 222 rfl rfl
theorem wc_X5_keepState : Cond.code yX5_keepState cX5_keepState 2 none ∈ WA := wa_of 223 rfl rfl
theorem wl_X5_234 : Cond.methodLink RX5 234 yX5_stateIn ∈ WA := wa_of 224 rfl rfl
theorem ws_X5_stateIn : Cond.static yX5_stateIn ∈ WA := wa_of 225 rfl rfl
theorem wc_X5_stateIn : Cond.code yX5_stateIn cX5_stateIn 2 (some (.object "RootRows$State")) ∈ WA := wa_of 226 rfl rfl
theorem wv_X4_become : Cond.instanceMethod yX4_become ∈ WA := wa_of 229 rfl rfl
theorem wc_X4_become : Cond.code yX4_become cX4_become 3 none ∈ WA := wa_of 230 rfl rfl
theorem wl_X4_25 : Cond.methodLink RX4 25 yX4_setting ∈ WA := wa_of 231 rfl rfl
theorem wv_X4_setting : Cond.instanceMethod yX4_setting ∈ WA := wa_of 233 rfl rfl
theorem wc_X4_setting : Cond.code yX4_setting cX4_setting 2 (some .int) ∈ WA := wa_of 234 rfl rfl
theorem wl_X4_29 : Cond.methodLink RX4 29 yX4_cellValue ∈ WA := wa_of 235 rfl rfl
theorem wv_X4_cellValue : Cond.instanceMethod yX4_cellValue ∈ WA := wa_of 237 rfl rfl
theorem wc_X4_cellValue : Cond.code yX4_cellValue cX4_cellValue 2 (some .long) ∈ WA := wa_of 238 rfl rfl
theorem wl_X4_33 : Cond.methodLink RX4 33 yX4_formula ∈ WA := wa_of 239 rfl rfl
theorem wv_X4_formula : Cond.instanceMethod yX4_formula ∈ WA := wa_of 241 rfl rfl
theorem wc_X4_formula : Cond.code yX4_formula cX4_formula 2 (some (.object "RootRows$Formula")) ∈ WA := wa_of 242 rfl rfl
theorem wv_X4_changeSetting : Cond.instanceMethod yX4_changeSetting ∈ WA := wa_of 246 rfl rfl
theorem wc_X4_changeSetting : Cond.code yX4_changeSetting cX4_changeSetting 3 none ∈ WA := wa_of 247 rfl rfl
theorem wl_L_20 : Cond.methodLink RL 20 yX5_setCell ∈ WA := wa_of 248 rfl rfl
theorem wv_X5_setCell : Cond.instanceMethod yX5_setCell ∈ WA := wa_of 249 rfl rfl
theorem we_X5_setCell : Cond.selects RX5 yX5_setCell yX5_setCell ∈ WA := wa_of 250 rfl rfl
theorem wc_X5_setCell : Cond.code yX5_setCell cX5_setCell 6 (some .long) ∈ WA := wa_of 251 rfl rfl
theorem wq_X5_67 : Cond.constantLong RX5 67 (7) ∈ WA := wa_of 252 rfl rfl
theorem wq_X5_69 : Cond.constantLong RX5 69 (-1) ∈ WA := wa_of 253 rfl rfl
theorem wq_X5_71 : Cond.constantLong RX5 71 (1000000000000) ∈ WA := wa_of 254 rfl rfl
theorem wq_X5_73 : Cond.constantLong RX5 73 (-2) ∈ WA := wa_of 255 rfl rfl
theorem wv_X4_changeCell : Cond.instanceMethod yX4_changeCell ∈ WA := wa_of 259 rfl rfl
theorem wc_X4_changeCell : Cond.code yX4_changeCell cX4_changeCell 4 none ∈ WA := wa_of 260 rfl rfl
theorem wl_L_25 : Cond.methodLink RL 25 yX5_cell ∈ WA := wa_of 261 rfl rfl
theorem wv_X5_cell : Cond.instanceMethod yX5_cell ∈ WA := wa_of 262 rfl rfl
theorem we_X5_cell : Cond.selects RX5 yX5_cell yX5_cell ∈ WA := wa_of 263 rfl rfl
theorem wc_X5_cell : Cond.code yX5_cell cX5_cell 2 (some .long) ∈ WA := wa_of 264 rfl rfl
theorem wl_L_30 : Cond.methodLink RL 30 yX5_put ∈ WA := wa_of 265 rfl rfl
theorem wv_X5_put : Cond.instanceMethod yX5_put ∈ WA := wa_of 266 rfl rfl
theorem we_X5_put : Cond.selects RX5 yX5_put yX5_put ∈ WA := wa_of 267 rfl rfl
theorem wc_X5_put : Cond.code yX5_put cX5_put 5 (some .int) ∈ WA := wa_of 268 rfl rfl
theorem wl_X5_83 : Cond.methodLink RX5 83 yX5_sizeOf ∈ WA := wa_of 269 rfl rfl
theorem ws_X5_sizeOf : Cond.static yX5_sizeOf ∈ WA := wa_of 270 rfl rfl
theorem wc_X5_sizeOf : Cond.code yX5_sizeOf cX5_sizeOf 5 (some .int) ∈ WA := wa_of 271 rfl rfl
theorem wq_X5_91 : Cond.constantLong RX5 91 (255) ∈ WA := wa_of 272 rfl rfl
theorem wq_X5_242 : Cond.constantLong RX5 242 (33) ∈ WA := wa_of 273 rfl rfl
theorem wq_X5_244 : Cond.constantLong RX5 244 (126) ∈ WA := wa_of 274 rfl rfl
theorem wl_X5_93 : Cond.methodLink RX5 93 yX5_addToPad ∈ WA := wa_of 275 rfl rfl
theorem wv_X5_addToPad : Cond.instanceMethod yX5_addToPad ∈ WA := wa_of 277 rfl rfl
theorem wc_X5_addToPad : Cond.code yX5_addToPad cX5_addToPad 2 none ∈ WA := wa_of 278 rfl rfl
theorem wl_L_35 : Cond.methodLink RL 35 yX5_wipe ∈ WA := wa_of 279 rfl rfl
theorem wv_X5_wipe : Cond.instanceMethod yX5_wipe ∈ WA := wa_of 280 rfl rfl
theorem we_X5_wipe : Cond.selects RX5 yX5_wipe yX5_wipe ∈ WA := wa_of 281 rfl rfl
theorem wc_X5_wipe : Cond.code yX5_wipe cX5_wipe 2 (some .int) ∈ WA := wa_of 282 rfl rfl
theorem wl_L_40 : Cond.methodLink RL 40 yX5_fault ∈ WA := wa_of 283 rfl rfl
theorem wv_X5_fault : Cond.instanceMethod yX5_fault ∈ WA := wa_of 284 rfl rfl
theorem we_X5_fault : Cond.selects RX5 yX5_fault yX5_fault ∈ WA := wa_of 285 rfl rfl
theorem wc_X5_fault : Cond.code yX5_fault cX5_fault 1 (some .int) ∈ WA := wa_of 286 rfl rfl
theorem wv_X2_faultOf : Cond.instanceMethod yX2_faultOf ∈ WA := wa_of 289 rfl rfl
theorem wc_X2_faultOf : Cond.code yX2_faultOf cX2_faultOf 4 (some .int) ∈ WA := wa_of 290 rfl rfl
theorem wl_X2_32 : Cond.methodLink RX2 32 yX2_takes ∈ WA := wa_of 291 rfl rfl
theorem wv_X2_takes : Cond.instanceMethod yX2_takes ∈ WA := wa_of 293 rfl rfl
theorem wc_X2_takes : Cond.code yX2_takes cX2_takes 2 (some .boolean) ∈ WA := wa_of 294 rfl rfl
theorem wl_X2_40 : Cond.methodLink RX2 40 yX2_takesFactor ∈ WA := wa_of 295 rfl rfl
theorem wv_X2_takesFactor : Cond.instanceMethod yX2_takesFactor ∈ WA := wa_of 297 rfl rfl
theorem wc_X2_takesFactor : Cond.code yX2_takesFactor cX2_takesFactor 2 (some .boolean) ∈ WA := wa_of 298 rfl rfl
theorem wl_X2_43 : Cond.methodLink RX2 43 yX2_isDigit ∈ WA := wa_of 299 rfl rfl
theorem ws_X2_isDigit : Cond.static yX2_isDigit ∈ WA := wa_of 300 rfl rfl
theorem wc_X2_isDigit : Cond.code yX2_isDigit cX2_isDigit 1 (some .boolean) ∈ WA := wa_of 301 rfl rfl
theorem wl_X2_52 : Cond.methodLink RX2 52 yX2_addStep ∈ WA := wa_of 302 rfl rfl
theorem wv_X2_addStep : Cond.instanceMethod yX2_addStep ∈ WA := wa_of 304 rfl rfl
theorem wc_X2_addStep : Cond.code yX2_addStep cX2_addStep 2 none ∈ WA := wa_of 305 rfl rfl
theorem wq_X2_55 : Cond.constantLong RX2 55 (65) ∈ WA := wa_of 306 rfl rfl
theorem wq_X2_57 : Cond.constantLong RX2 57 (72) ∈ WA := wa_of 307 rfl rfl
theorem wl_X2_63 : Cond.methodLink RX2 63 yX2_push ∈ WA := wa_of 309 rfl rfl
theorem wv_X2_push : Cond.instanceMethod yX2_push ∈ WA := wa_of 311 rfl rfl
theorem wc_X2_push : Cond.code yX2_push cX2_push 2 none ∈ WA := wa_of 312 rfl rfl
theorem wl_X2_46 : Cond.methodLink RX2 46 yX2_takesDigit ∈ WA := wa_of 313 rfl rfl
theorem wv_X2_takesDigit : Cond.instanceMethod yX2_takesDigit ∈ WA := wa_of 315 rfl rfl
theorem wc_X2_takesDigit : Cond.code yX2_takesDigit cX2_takesDigit 4 (some .boolean) ∈ WA := wa_of 316 rfl rfl
theorem wl_X2_49 : Cond.methodLink RX2 49 yX2_takesBehind ∈ WA := wa_of 317 rfl rfl
theorem wv_X2_takesBehind : Cond.instanceMethod yX2_takesBehind ∈ WA := wa_of 319 rfl rfl
theorem wc_X2_takesBehind : Cond.code yX2_takesBehind cX2_takesBehind 3 (some .boolean) ∈ WA := wa_of 320 rfl rfl
theorem wl_X2_67 : Cond.methodLink RX2 67 yX2_closeBracket ∈ WA := wa_of 321 rfl rfl
theorem wv_X2_closeBracket : Cond.instanceMethod yX2_closeBracket ∈ WA := wa_of 323 rfl rfl
theorem wc_X2_closeBracket : Cond.code yX2_closeBracket cX2_closeBracket 2 none ∈ WA := wa_of 324 rfl rfl
theorem wl_X2_36 : Cond.methodLink RX2 36 yX2_release ∈ WA := wa_of 325 rfl rfl
theorem wv_X2_release : Cond.instanceMethod yX2_release ∈ WA := wa_of 327 rfl rfl
theorem wc_X2_release : Cond.code yX2_release cX2_release 2 none ∈ WA := wa_of 328 rfl rfl
theorem wl_X2_74 : Cond.methodLink RX2 74 yX2_top ∈ WA := wa_of 329 rfl rfl
theorem wv_X2_top : Cond.instanceMethod yX2_top ∈ WA := wa_of 331 rfl rfl
theorem wc_X2_top : Cond.code yX2_top cX2_top 2 (some .char) ∈ WA := wa_of 332 rfl rfl
theorem wl_X2_70 : Cond.methodLink RX2 70 yX2_strengthOf ∈ WA := wa_of 333 rfl rfl
theorem ws_X2_strengthOf : Cond.static yX2_strengthOf ∈ WA := wa_of 334 rfl rfl
theorem wc_X2_strengthOf : Cond.code yX2_strengthOf cX2_strengthOf 1 (some .int) ∈ WA := wa_of 335 rfl rfl
theorem wl_L_44 : Cond.methodLink RL 44 yX5_load ∈ WA := wa_of 336 rfl rfl
theorem wv_X5_load : Cond.instanceMethod yX5_load ∈ WA := wa_of 337 rfl rfl
theorem we_X5_load : Cond.selects RX5 yX5_load yX5_load ∈ WA := wa_of 338 rfl rfl
theorem wc_X5_load : Cond.code yX5_load cX5_load 3 (some .int) ∈ WA := wa_of 339 rfl rfl
theorem wq_X5_101 : Cond.constantLong RX5 101 (5) ∈ WA := wa_of 340 rfl rfl
theorem wk_X5_103 : Cond.classLink RX5 103 RX0 ∈ WA := wa_of 341 rfl rfl
theorem wn_X0 : Cond.instantiable RX0 1 ∈ WA := wa_of 342 rfl rfl
theorem wv_X0_init : Cond.instanceMethod yX0_init ∈ WA := wa_of 344 rfl rfl
theorem wc_X0_init : Cond.code yX0_init cX0_init 4 none ∈ WA := wa_of 345 rfl rfl
theorem wl_X0_3 : Cond.methodLink RX0 3 ⟨"java/lang/Object", "<init>", "()V"⟩ ∈ WA := wa_of 346 rfl rfl
theorem wl_X0_9 : Cond.methodLink RX0 9 ⟨"java/lang/Math", "max", "(II)I"⟩ ∈ WA := wa_of 347 rfl rfl
-- 297 (Jvm.Cond.static ({ cls := "java/lang/Math", name := "max", desc := "(II)I" } : Jvm.MethodName))
-- 298 (Jvm.Cond.code ({ cls := "java/lang/Math", name := "max", desc := "(II)I" } : Jvm.MethodName) prog_10_method_65_code (2 : Nat) (Option.some Jvm.ClassFile.FieldType.int))
theorem wf0_X0_15 : Cond.fieldLink RX0 15 "RootRows$Formula" "steps" "[I" ∈ WA := wa_of 350 rfl rfl
theorem wv_X4_changeFormula : Cond.instanceMethod yX4_changeFormula ∈ WA := wa_of 358 rfl rfl
theorem wc_X4_changeFormula : Cond.code yX4_changeFormula cX4_changeFormula 3 none ∈ WA := wa_of 359 rfl rfl
theorem wl_L_49 : Cond.methodLink RL 49 yX5_assign ∈ WA := wa_of 360 rfl rfl
theorem wv_X5_assign : Cond.instanceMethod yX5_assign ∈ WA := wa_of 361 rfl rfl
theorem we_X5_assign : Cond.selects RX5 yX5_assign yX5_assign ∈ WA := wa_of 362 rfl rfl
theorem wc_X5_assign : Cond.code yX5_assign cX5_assign 4 (some .long) ∈ WA := wa_of 363 rfl rfl
theorem wv_X3_reckon : Cond.instanceMethod yX3_reckon ∈ WA := wa_of 367 rfl rfl
theorem wc_X3_reckon : Cond.code yX3_reckon cX3_reckon 6 none ∈ WA := wa_of 368 rfl rfl
theorem wl_X3_34 : Cond.methodLink RX3 34 yX3_numberOf ∈ WA := wa_of 369 rfl rfl
theorem wv_X3_numberOf : Cond.instanceMethod yX3_numberOf ∈ WA := wa_of 371 rfl rfl
theorem wc_X3_numberOf : Cond.code yX3_numberOf cX3_numberOf 6 (some .long) ∈ WA := wa_of 372 rfl rfl
theorem wq_X3_44 : Cond.constantLong RX3 44 (7) ∈ WA := wa_of 373 rfl rfl
theorem wl_X3_56 : Cond.methodLink RX3 56 yX3_pop ∈ WA := wa_of 376 rfl rfl
theorem wv_X3_pop : Cond.instanceMethod yX3_pop ∈ WA := wa_of 378 rfl rfl
theorem wc_X3_pop : Cond.code yX3_pop cX3_pop 1 (some .long) ∈ WA := wa_of 379 rfl rfl
theorem ws_X5_rootRounded : Cond.static yX5_rootRounded ∈ WA := wa_of 382 rfl rfl
theorem wc_X5_rootRounded : Cond.code yX5_rootRounded cX5_rootRounded 9 (some .long) ∈ WA := wa_of 383 rfl rfl
theorem wl_X5_167 : Cond.methodLink RX5 167 yX5_rootDown ∈ WA := wa_of 384 rfl rfl
theorem ws_X5_rootDown : Cond.static yX5_rootDown ∈ WA := wa_of 385 rfl rfl
theorem wc_X5_rootDown : Cond.code yX5_rootDown cX5_rootDown 7 (some .long) ∈ WA := wa_of 386 rfl rfl
theorem wl_X5_250 : Cond.methodLink RX5 250 yX5_firstBit ∈ WA := wa_of 387 rfl rfl
theorem ws_X5_firstBit : Cond.static yX5_firstBit ∈ WA := wa_of 388 rfl rfl
theorem wc_X5_firstBit : Cond.code yX5_firstBit cX5_firstBit 5 (some .long) ∈ WA := wa_of 389 rfl rfl
theorem wq_X5_248 : Cond.constantLong RX5 248 (1073741824) ∈ WA := wa_of 390 rfl rfl
theorem wl_X5_171 : Cond.methodLink RX5 171 yX5_power ∈ WA := wa_of 391 rfl rfl
theorem ws_X5_power : Cond.static yX5_power ∈ WA := wa_of 392 rfl rfl
theorem wc_X5_power : Cond.code yX5_power cX5_power 3 (some .long) ∈ WA := wa_of 393 rfl rfl
theorem wq_X5_253 : Cond.constantLong RX5 253 (8) ∈ WA := wa_of 394 rfl rfl
theorem wl_X3_68 : Cond.methodLink RX3 68 yX3_product ∈ WA := wa_of 395 rfl rfl
theorem ws_X3_product : Cond.static yX3_product ∈ WA := wa_of 396 rfl rfl
theorem wc_X3_product : Cond.code yX3_product cX3_product 4 (some .long) ∈ WA := wa_of 397 rfl rfl
theorem wq_X3_38 : Cond.constantLong RX3 38 (1000000000000) ∈ WA := wa_of 398 rfl rfl
theorem wq_X3_72 : Cond.constantLong RX3 72 (1000000000001) ∈ WA := wa_of 399 rfl rfl
theorem wl_X3_40 : Cond.methodLink RX3 40 yX3_push ∈ WA := wa_of 400 rfl rfl
theorem wv_X3_push : Cond.instanceMethod yX3_push ∈ WA := wa_of 402 rfl rfl
theorem wc_X3_push : Cond.code yX3_push cX3_push 3 none ∈ WA := wa_of 403 rfl rfl
theorem wq_X5_131 : Cond.constantLong RX5 131 (-5) ∈ WA := wa_of 404 rfl rfl
theorem wv_X3_result : Cond.instanceMethod yX3_result ∈ WA := wa_of 407 rfl rfl
theorem wc_X3_result : Cond.code yX3_result cX3_result 1 (some .long) ∈ WA := wa_of 408 rfl rfl
theorem wl_X3_74 : Cond.methodLink RX3 74 yX3_valueOf ∈ WA := wa_of 409 rfl rfl
theorem wv_X3_valueOf : Cond.instanceMethod yX3_valueOf ∈ WA := wa_of 411 rfl rfl
theorem wc_X3_valueOf : Cond.code yX3_valueOf cX3_valueOf 2 (some .long) ∈ WA := wa_of 412 rfl rfl
theorem wl_L_54 : Cond.methodLink RL 54 yX5_settle ∈ WA := wa_of 413 rfl rfl
theorem wv_X5_settle : Cond.instanceMethod yX5_settle ∈ WA := wa_of 414 rfl rfl
theorem we_X5_settle : Cond.selects RX5 yX5_settle yX5_settle ∈ WA := wa_of 415 rfl rfl
theorem wc_X5_settle : Cond.code yX5_settle cX5_settle 6 (some .int) ∈ WA := wa_of 416 rfl rfl
theorem wq_X5_137 : Cond.constantLong RX5 137 (100) ∈ WA := wa_of 417 rfl rfl
theorem wl_L_59 : Cond.methodLink RL 59 yX5_value ∈ WA := wa_of 418 rfl rfl
theorem wv_X5_value : Cond.instanceMethod yX5_value ∈ WA := wa_of 419 rfl rfl
theorem we_X5_value : Cond.selects RX5 yX5_value yX5_value ∈ WA := wa_of 420 rfl rfl
theorem wc_X5_value : Cond.code yX5_value cX5_value 3 (some .long) ∈ WA := wa_of 421 rfl rfl
theorem wl_L_63 : Cond.methodLink RL 63 yX5_ofFormula ∈ WA := wa_of 422 rfl rfl
theorem wv_X5_ofFormula : Cond.instanceMethod yX5_ofFormula ∈ WA := wa_of 423 rfl rfl
theorem we_X5_ofFormula : Cond.selects RX5 yX5_ofFormula yX5_ofFormula ∈ WA := wa_of 424 rfl rfl
theorem wc_X5_ofFormula : Cond.code yX5_ofFormula cX5_ofFormula 4 (some .int) ∈ WA := wa_of 425 rfl rfl
theorem wv_X0_cellsNamed : Cond.instanceMethod yX0_cellsNamed ∈ WA := wa_of 428 rfl rfl
theorem wc_X0_cellsNamed : Cond.code yX0_cellsNamed cX0_cellsNamed 4 (some .int) ∈ WA := wa_of 429 rfl rfl
theorem wq_X0_21 : Cond.constantLong RX0 21 (7) ∈ WA := wa_of 430 rfl rfl
theorem wv_X0_rootsInside : Cond.instanceMethod yX0_rootsInside ∈ WA := wa_of 434 rfl rfl
theorem wc_X0_rootsInside : Cond.code yX0_rootsInside cX0_rootsInside 3 (some .int) ∈ WA := wa_of 435 rfl rfl
theorem wl_L_67 : Cond.methodLink RL 67 yX5_stepValue ∈ WA := wa_of 436 rfl rfl
theorem wv_X5_stepValue : Cond.instanceMethod yX5_stepValue ∈ WA := wa_of 437 rfl rfl
theorem we_X5_stepValue : Cond.selects RX5 yX5_stepValue yX5_stepValue ∈ WA := wa_of 438 rfl rfl
theorem wc_X5_stepValue : Cond.code yX5_stepValue cX5_stepValue 4 (some .long) ∈ WA := wa_of 439 rfl rfl
theorem wl_L_71 : Cond.methodLink RL 71 yX5_count ∈ WA := wa_of 441 rfl rfl
theorem wv_X5_count : Cond.instanceMethod yX5_count ∈ WA := wa_of 442 rfl rfl
theorem we_X5_count : Cond.selects RX5 yX5_count yX5_count ∈ WA := wa_of 443 rfl rfl
theorem wc_X5_count : Cond.code yX5_count cX5_count 2 (some .int) ∈ WA := wa_of 444 rfl rfl
theorem wv_X4_formulasThere : Cond.instanceMethod yX4_formulasThere ∈ WA := wa_of 447 rfl rfl
theorem wc_X4_formulasThere : Cond.code yX4_formulasThere cX4_formulasThere 3 (some .int) ∈ WA := wa_of 448 rfl rfl
theorem wv_X4_cellsNotZero : Cond.instanceMethod yX4_cellsNotZero ∈ WA := wa_of 451 rfl rfl
theorem wc_X4_cellsNotZero : Cond.code yX4_cellsNotZero cX4_cellsNotZero 3 (some .int) ∈ WA := wa_of 452 rfl rfl
theorem wl_L_75 : Cond.methodLink RL 75 yX5_root ∈ WA := wa_of 453 rfl rfl
theorem wv_X5_root : Cond.instanceMethod yX5_root ∈ WA := wa_of 454 rfl rfl
theorem we_X5_root : Cond.selects RX5 yX5_root yX5_root ∈ WA := wa_of 455 rfl rfl
theorem wc_X5_root : Cond.code yX5_root cX5_root 4 (some .int) ∈ WA := wa_of 456 rfl rfl
theorem wq_X5_161 : Cond.constantLong RX5 161 (3) ∈ WA := wa_of 457 rfl rfl
theorem wl_X5_163 : Cond.methodLink RX5 163 yX5_rootRounded ∈ WA := wa_of 458 rfl rfl
theorem wl_L_80 : Cond.methodLink RL 80 yX5_remainder ∈ WA := wa_of 459 rfl rfl
theorem wv_X5_remainder : Cond.instanceMethod yX5_remainder ∈ WA := wa_of 460 rfl rfl
theorem we_X5_remainder : Cond.selects RX5 yX5_remainder yX5_remainder ∈ WA := wa_of 461 rfl rfl
theorem wc_X5_remainder : Cond.code yX5_remainder cX5_remainder 4 (some .long) ∈ WA := wa_of 462 rfl rfl
theorem wl_L_85 : Cond.methodLink RL 85 yX5_bit ∈ WA := wa_of 463 rfl rfl
theorem wv_X5_bit : Cond.instanceMethod yX5_bit ∈ WA := wa_of 464 rfl rfl
theorem we_X5_bit : Cond.selects RX5 yX5_bit yX5_bit ∈ WA := wa_of 465 rfl rfl
theorem wc_X5_bit : Cond.code yX5_bit cX5_bit 6 (some .long) ∈ WA := wa_of 466 rfl rfl
theorem wl_X5_174 : Cond.methodLink RX5 174 yX5_bitsOfRoot ∈ WA := wa_of 467 rfl rfl
theorem ws_X5_bitsOfRoot : Cond.static yX5_bitsOfRoot ∈ WA := wa_of 468 rfl rfl
theorem wc_X5_bitsOfRoot : Cond.code yX5_bitsOfRoot cX5_bitsOfRoot 6 (some .int) ∈ WA := wa_of 469 rfl rfl
theorem wl_X5_178 : Cond.methodLink RX5 178 yX5_behindBit ∈ WA := wa_of 470 rfl rfl
theorem ws_X5_behindBit : Cond.static yX5_behindBit ∈ WA := wa_of 471 rfl rfl
theorem wc_X5_behindBit : Cond.code yX5_behindBit cX5_behindBit 11 (some .long) ∈ WA := wa_of 472 rfl rfl
theorem wq_X5_213 : Cond.constantLong RX5 213 (-6) ∈ WA := wa_of 473 rfl rfl
theorem wl_L_90 : Cond.methodLink RL 90 yX5_digits ∈ WA := wa_of 474 rfl rfl
theorem wv_X5_digits : Cond.instanceMethod yX5_digits ∈ WA := wa_of 475 rfl rfl
theorem we_X5_digits : Cond.selects RX5 yX5_digits yX5_digits ∈ WA := wa_of 476 rfl rfl
theorem wc_X5_digits : Cond.code yX5_digits cX5_digits 5 (some .int) ∈ WA := wa_of 477 rfl rfl
theorem wq_X5_182 : Cond.constantLong RX5 182 (1000000) ∈ WA := wa_of 478 rfl rfl
theorem wl_L_94 : Cond.methodLink RL 94 yX5_compare ∈ WA := wa_of 479 rfl rfl
theorem wv_X5_compare : Cond.instanceMethod yX5_compare ∈ WA := wa_of 480 rfl rfl
theorem we_X5_compare : Cond.selects RX5 yX5_compare yX5_compare ∈ WA := wa_of 481 rfl rfl
theorem wc_X5_compare : Cond.code yX5_compare cX5_compare 6 (some .int) ∈ WA := wa_of 482 rfl rfl
theorem wl_X5_184 : Cond.methodLink RX5 184 yX5_comparable ∈ WA := wa_of 483 rfl rfl
theorem ws_X5_comparable : Cond.static yX5_comparable ∈ WA := wa_of 484 rfl rfl
theorem wc_X5_comparable : Cond.code yX5_comparable cX5_comparable 1 (some .boolean) ∈ WA := wa_of 485 rfl rfl
theorem wq_X5_246 : Cond.constantLong RX5 246 (10000) ∈ WA := wa_of 486 rfl rfl
theorem wq_X5_188 : Cond.constantLong RX5 188 (4) ∈ WA := wa_of 487 rfl rfl
theorem wl_X5_190 : Cond.methodLink RX5 190 yX5_signOfRoots ∈ WA := wa_of 488 rfl rfl
theorem ws_X5_signOfRoots : Cond.static yX5_signOfRoots ∈ WA := wa_of 489 rfl rfl
theorem wc_X5_signOfRoots : Cond.code yX5_signOfRoots cX5_signOfRoots 6 (some .int) ∈ WA := wa_of 490 rfl rfl
theorem wl_X5_255 : Cond.methodLink RX5 255 yX5_signOfRootsAgainst ∈ WA := wa_of 491 rfl rfl
theorem ws_X5_signOfRootsAgainst : Cond.static yX5_signOfRootsAgainst ∈ WA := wa_of 492 rfl rfl
theorem wc_X5_signOfRootsAgainst : Cond.code yX5_signOfRootsAgainst cX5_signOfRootsAgainst 8 (some .int) ∈ WA := wa_of 493 rfl rfl
theorem wl_X5_258 : Cond.methodLink RX5 258 ⟨"java/lang/Long", "compare", "(JJ)I"⟩ ∈ WA := wa_of 494 rfl rfl
-- 444 (Jvm.Cond.static ({ cls := "java/lang/Long", name := "compare", desc := "(JJ)I" } : Jvm.MethodName))
-- 445 (Jvm.Cond.code ({ cls := "java/lang/Long", name := "compare", desc := "(JJ)I" } : Jvm.MethodName) prog_9_method_42_code (4 : Nat) (Option.some Jvm.ClassFile.FieldType.int))
theorem wl_L_99 : Cond.methodLink RL 99 yX5_period ∈ WA := wa_of 497 rfl rfl
theorem wv_X5_period : Cond.instanceMethod yX5_period ∈ WA := wa_of 498 rfl rfl
theorem we_X5_period : Cond.selects RX5 yX5_period yX5_period ∈ WA := wa_of 499 rfl rfl
theorem wc_X5_period : Cond.code yX5_period cX5_period 3 (some .int) ∈ WA := wa_of 500 rfl rfl
theorem wq_X5_194 : Cond.constantLong RX5 194 (100000) ∈ WA := wa_of 501 rfl rfl
theorem wv_X1_start : Cond.instanceMethod yX1_start ∈ WA := wa_of 504 rfl rfl
theorem wc_X1_start : Cond.code yX1_start cX1_start 2 none ∈ WA := wa_of 505 rfl rfl
theorem wq_X5_200 : Cond.constant RX5 200 (1000000) ∈ WA := wa_of 507 rfl rfl
theorem wv_X1_goesOn : Cond.instanceMethod yX1_goesOn ∈ WA := wa_of 510 rfl rfl
theorem wc_X1_goesOn : Cond.code yX1_goesOn cX1_goesOn 1 (some .boolean) ∈ WA := wa_of 511 rfl rfl
theorem wl_L_103 : Cond.methodLink RL 103 yX5_term ∈ WA := wa_of 512 rfl rfl
theorem wv_X5_term : Cond.instanceMethod yX5_term ∈ WA := wa_of 513 rfl rfl
theorem we_X5_term : Cond.selects RX5 yX5_term yX5_term ∈ WA := wa_of 514 rfl rfl
theorem wc_X5_term : Cond.code yX5_term cX5_term 4 (some .int) ∈ WA := wa_of 515 rfl rfl
theorem wq_X5_208 : Cond.constantLong RX5 208 (500) ∈ WA := wa_of 516 rfl rfl
theorem wl_L_107 : Cond.methodLink RL 107 yX5_convergent ∈ WA := wa_of 517 rfl rfl
theorem wv_X5_convergent : Cond.instanceMethod yX5_convergent ∈ WA := wa_of 518 rfl rfl
theorem we_X5_convergent : Cond.selects RX5 yX5_convergent yX5_convergent ∈ WA := wa_of 519 rfl rfl
theorem wc_X5_convergent : Cond.code yX5_convergent cX5_convergent 5 (some .long) ∈ WA := wa_of 520 rfl rfl
theorem wv_X1_extend : Cond.instanceMethod yX1_extend ∈ WA := wa_of 523 rfl rfl
theorem wc_X1_extend : Cond.code yX1_extend cX1_extend 5 none ∈ WA := wa_of 524 rfl rfl
theorem wl_L_112 : Cond.methodLink RL 112 yX5_twoSquares ∈ WA := wa_of 525 rfl rfl
theorem wv_X5_twoSquares : Cond.instanceMethod yX5_twoSquares ∈ WA := wa_of 526 rfl rfl
theorem we_X5_twoSquares : Cond.selects RX5 yX5_twoSquares yX5_twoSquares ∈ WA := wa_of 527 rfl rfl
theorem wc_X5_twoSquares : Cond.code yX5_twoSquares cX5_twoSquares 6 (some .int) ∈ WA := wa_of 528 rfl rfl
theorem wl_L_116 : Cond.methodLink RL 116 yX5_powers ∈ WA := wa_of 529 rfl rfl
theorem wv_X5_powers : Cond.instanceMethod yX5_powers ∈ WA := wa_of 530 rfl rfl
theorem we_X5_powers : Cond.selects RX5 yX5_powers yX5_powers ∈ WA := wa_of 531 rfl rfl
theorem wc_X5_powers : Cond.code yX5_powers cX5_powers 5 (some .int) ∈ WA := wa_of 532 rfl rfl
theorem wl_X5_225 : Cond.methodLink RX5 225 yX5_powersBelow ∈ WA := wa_of 533 rfl rfl
theorem ws_X5_powersBelow : Cond.static yX5_powersBelow ∈ WA := wa_of 534 rfl rfl
theorem wc_X5_powersBelow : Cond.code yX5_powersBelow cX5_powersBelow 4 (some .long) ∈ WA := wa_of 535 rfl rfl
theorem wl_L_121 : Cond.methodLink RL 121 yX5_rootSum ∈ WA := wa_of 536 rfl rfl
theorem wv_X5_rootSum : Cond.instanceMethod yX5_rootSum ∈ WA := wa_of 537 rfl rfl
theorem we_X5_rootSum : Cond.selects RX5 yX5_rootSum yX5_rootSum ∈ WA := wa_of 538 rfl rfl
theorem wc_X5_rootSum : Cond.code yX5_rootSum cX5_rootSum 6 (some .long) ∈ WA := wa_of 539 rfl rfl
theorem wq_X5_229 : Cond.constantLong RX5 229 (1000000000) ∈ WA := wa_of 540 rfl rfl
theorem wl_L_125 : Cond.methodLink RL 125 yX5_undo ∈ WA := wa_of 541 rfl rfl
theorem wv_X5_undo : Cond.instanceMethod yX5_undo ∈ WA := wa_of 542 rfl rfl
theorem we_X5_undo : Cond.selects RX5 yX5_undo yX5_undo ∈ WA := wa_of 543 rfl rfl
theorem wc_X5_undo : Cond.code yX5_undo cX5_undo 1 (some .int) ∈ WA := wa_of 544 rfl rfl
theorem wl_L_129 : Cond.methodLink RL 129 yX5_save ∈ WA := wa_of 545 rfl rfl
theorem wv_X5_save : Cond.instanceMethod yX5_save ∈ WA := wa_of 546 rfl rfl
theorem we_X5_save : Cond.selects RX5 yX5_save yX5_save ∈ WA := wa_of 547 rfl rfl
theorem wc_X5_save : Cond.code yX5_save cX5_save 2 (some .int) ∈ WA := wa_of 548 rfl rfl
theorem wl_L_133 : Cond.methodLink RL 133 yX5_restore ∈ WA := wa_of 549 rfl rfl
theorem wv_X5_restore : Cond.instanceMethod yX5_restore ∈ WA := wa_of 550 rfl rfl
theorem we_X5_restore : Cond.selects RX5 yX5_restore yX5_restore ∈ WA := wa_of 551 rfl rfl
theorem wc_X5_restore : Cond.code yX5_restore cX5_restore 3 (some .int) ∈ WA := wa_of 552 rfl rfl
theorem wk_L_10 : Cond.classLink RL 10 RX6 ∈ WA := wa_of 553 rfl rfl
theorem wn_X6 : Cond.instantiable RX6 25 ∈ WA := wa_of 554 rfl rfl
theorem wl_L_12 : Cond.methodLink RL 12 yX6_init ∈ WA := wa_of 555 rfl rfl
theorem wv_X6_init : Cond.instanceMethod yX6_init ∈ WA := wa_of 556 rfl rfl
theorem wc_X6_init : Cond.code yX6_init cX6_init 1 none ∈ WA := wa_of 557 rfl rfl
theorem wl_X6_1 : Cond.methodLink RX6 1 ⟨"java/lang/Object", "<init>", "()V"⟩ ∈ WA := wa_of 558 rfl rfl
theorem wf0_X6_7 : Cond.fieldLink RX6 7 "RootRowsModel" "now" "[I" ∈ WA := wa_of 559 rfl rfl
theorem wf0_X6_13 : Cond.fieldLink RX6 13 "RootRowsModel" "cells" "[J" ∈ WA := wa_of 560 rfl rfl
theorem wf0_X6_17 : Cond.fieldLink RX6 17 "RootRowsModel" "history" "[I" ∈ WA := wa_of 561 rfl rfl
theorem wf0_X6_20 : Cond.fieldLink RX6 20 "RootRowsModel" "historyCells" "[J" ∈ WA := wa_of 562 rfl rfl
theorem wf0_X6_53 : Cond.fieldLink RX6 53 "RootRowsModel" "undos" "I" ∈ WA := wa_of 563 rfl rfl
theorem wf0_X6_23 : Cond.fieldLink RX6 23 "RootRowsModel" "saved" "[I" ∈ WA := wa_of 564 rfl rfl
theorem wf0_X6_26 : Cond.fieldLink RX6 26 "RootRowsModel" "savedCells" "[J" ∈ WA := wa_of 565 rfl rfl
theorem wf0_X6_29 : Cond.fieldLink RX6 29 "RootRowsModel" "isSaved" "[Z" ∈ WA := wa_of 566 rfl rfl
theorem wf0_X6_33 : Cond.fieldLink RX6 33 "RootRowsModel" "pad" "[I" ∈ WA := wa_of 567 rfl rfl
theorem wf0_X6_74 : Cond.fieldLink RX6 74 "RootRowsModel" "signs" "I" ∈ WA := wa_of 568 rfl rfl
theorem wf0_X6_36 : Cond.fieldLink RX6 36 "RootRowsModel" "kind" "[I" ∈ WA := wa_of 569 rfl rfl
theorem wf0_X6_39 : Cond.fieldLink RX6 39 "RootRowsModel" "arg" "[I" ∈ WA := wa_of 570 rfl rfl
theorem wf0_X6_80 : Cond.fieldLink RX6 80 "RootRowsModel" "read" "I" ∈ WA := wa_of 571 rfl rfl
theorem wf0_X6_42 : Cond.fieldLink RX6 42 "RootRowsModel" "open" "[I" ∈ WA := wa_of 572 rfl rfl
theorem wf0_X6_83 : Cond.fieldLink RX6 83 "RootRowsModel" "opened" "I" ∈ WA := wa_of 573 rfl rfl
theorem wf0_X6_105 : Cond.fieldLink RX6 105 "RootRowsModel" "depth" "I" ∈ WA := wa_of 574 rfl rfl
theorem wf0_X6_77 : Cond.fieldLink RX6 77 "RootRowsModel" "place" "I" ∈ WA := wa_of 575 rfl rfl
theorem wf0_X6_45 : Cond.fieldLink RX6 45 "RootRowsModel" "values" "[J" ∈ WA := wa_of 576 rfl rfl
theorem wf0_X6_48 : Cond.fieldLink RX6 48 "RootRowsModel" "pile" "[J" ∈ WA := wa_of 577 rfl rfl
theorem wf0_X6_140 : Cond.fieldLink RX6 140 "RootRowsModel" "ends" "I" ∈ WA := wa_of 578 rfl rfl
theorem wf0_X6_143 : Cond.fieldLink RX6 143 "RootRowsModel" "reason" "I" ∈ WA := wa_of 579 rfl rfl
theorem wf0_X6_188 : Cond.fieldLink RX6 188 "RootRowsModel" "whole" "I" ∈ WA := wa_of 580 rfl rfl
theorem wf0_X6_191 : Cond.fieldLink RX6 191 "RootRowsModel" "term" "I" ∈ WA := wa_of 581 rfl rfl
theorem wf0_X6_194 : Cond.fieldLink RX6 194 "RootRowsModel" "m" "I" ∈ WA := wa_of 582 rfl rfl
theorem wf0_X6_197 : Cond.fieldLink RX6 197 "RootRowsModel" "d" "I" ∈ WA := wa_of 583 rfl rfl
theorem wa_boolean : Cond.arrayClass .boolean ∈ WA := wa_of 635 rfl rfl
theorem wl_L_17 : Cond.methodLink RL 17 yX6_set ∈ WA := wa_of 636 rfl rfl
theorem wv_X6_set : Cond.instanceMethod yX6_set ∈ WA := wa_of 637 rfl rfl
theorem we_X6_set : Cond.selects RX6 yX6_set yX6_set ∈ WA := wa_of 638 rfl rfl
theorem wc_X6_set : Cond.code yX6_set cX6_set 4 (some .int) ∈ WA := wa_of 639 rfl rfl
theorem wl_X6_57 : Cond.methodLink RX6 57 yX6_in ∈ WA := wa_of 640 rfl rfl
theorem ws_X6_in : Cond.static yX6_in ∈ WA := wa_of 641 rfl rfl
theorem wc_X6_in : Cond.code yX6_in cX6_in 3 (some .boolean) ∈ WA := wa_of 642 rfl rfl
theorem wl_X6_61 : Cond.methodLink RX6 61 yX6_record ∈ WA := wa_of 643 rfl rfl
theorem wv_X6_record : Cond.instanceMethod yX6_record ∈ WA := wa_of 645 rfl rfl
theorem wc_X6_record : Cond.code yX6_record cX6_record 2 none ∈ WA := wa_of 646 rfl rfl
theorem wl_L_24 : Cond.methodLink RL 24 yX6_setCell ∈ WA := wa_of 647 rfl rfl
theorem wv_X6_setCell : Cond.instanceMethod yX6_setCell ∈ WA := wa_of 648 rfl rfl
theorem we_X6_setCell : Cond.selects RX6 yX6_setCell yX6_setCell ∈ WA := wa_of 649 rfl rfl
theorem wc_X6_setCell : Cond.code yX6_setCell cX6_setCell 6 (some .long) ∈ WA := wa_of 650 rfl rfl
theorem wq_X6_64 : Cond.constantLong RX6 64 (-1) ∈ WA := wa_of 651 rfl rfl
theorem wl_X6_66 : Cond.methodLink RX6 66 yX6_isValue ∈ WA := wa_of 652 rfl rfl
theorem ws_X6_isValue : Cond.static yX6_isValue ∈ WA := wa_of 653 rfl rfl
theorem wc_X6_isValue : Cond.code yX6_isValue cX6_isValue 2 (some .boolean) ∈ WA := wa_of 654 rfl rfl
theorem wq_X6_51 : Cond.constantLong RX6 51 (1000000000000) ∈ WA := wa_of 655 rfl rfl
theorem wq_X6_70 : Cond.constantLong RX6 70 (-2) ∈ WA := wa_of 656 rfl rfl
theorem wl_L_29 : Cond.methodLink RL 29 yX6_cell ∈ WA := wa_of 657 rfl rfl
theorem wv_X6_cell : Cond.instanceMethod yX6_cell ∈ WA := wa_of 658 rfl rfl
theorem we_X6_cell : Cond.selects RX6 yX6_cell yX6_cell ∈ WA := wa_of 659 rfl rfl
theorem wc_X6_cell : Cond.code yX6_cell cX6_cell 2 (some .long) ∈ WA := wa_of 660 rfl rfl
theorem wl_L_34 : Cond.methodLink RL 34 yX6_put ∈ WA := wa_of 661 rfl rfl
theorem wv_X6_put : Cond.instanceMethod yX6_put ∈ WA := wa_of 662 rfl rfl
theorem we_X6_put : Cond.selects RX6 yX6_put yX6_put ∈ WA := wa_of 663 rfl rfl
theorem wc_X6_put : Cond.code yX6_put cX6_put 7 (some .int) ∈ WA := wa_of 664 rfl rfl
theorem wq_X6_72 : Cond.constantLong RX6 72 (255) ∈ WA := wa_of 665 rfl rfl
theorem wl_L_39 : Cond.methodLink RL 39 yX6_wipe ∈ WA := wa_of 666 rfl rfl
theorem wv_X6_wipe : Cond.instanceMethod yX6_wipe ∈ WA := wa_of 667 rfl rfl
theorem we_X6_wipe : Cond.selects RX6 yX6_wipe yX6_wipe ∈ WA := wa_of 668 rfl rfl
theorem wc_X6_wipe : Cond.code yX6_wipe cX6_wipe 2 (some .int) ∈ WA := wa_of 669 rfl rfl
theorem wl_L_43 : Cond.methodLink RL 43 yX6_fault ∈ WA := wa_of 670 rfl rfl
theorem wv_X6_fault : Cond.instanceMethod yX6_fault ∈ WA := wa_of 671 rfl rfl
theorem we_X6_fault : Cond.selects RX6 yX6_fault yX6_fault ∈ WA := wa_of 672 rfl rfl
theorem wc_X6_fault : Cond.code yX6_fault cX6_fault 1 (some .int) ∈ WA := wa_of 673 rfl rfl
theorem wl_X6_121 : Cond.methodLink RX6 121 yX6_readPad ∈ WA := wa_of 674 rfl rfl
theorem wv_X6_readPad : Cond.instanceMethod yX6_readPad ∈ WA := wa_of 676 rfl rfl
theorem wc_X6_readPad : Cond.code yX6_readPad cX6_readPad 4 (some .int) ∈ WA := wa_of 677 rfl rfl
theorem wl_X6_111 : Cond.methodLink RX6 111 yX6_readOperand ∈ WA := wa_of 678 rfl rfl
theorem wv_X6_readOperand : Cond.instanceMethod yX6_readOperand ∈ WA := wa_of 680 rfl rfl
theorem wc_X6_readOperand : Cond.code yX6_readOperand cX6_readOperand 2 (some .boolean) ∈ WA := wa_of 681 rfl rfl
theorem wl_X6_94 : Cond.methodLink RX6 94 yX6_sign ∈ WA := wa_of 682 rfl rfl
theorem wv_X6_sign : Cond.instanceMethod yX6_sign ∈ WA := wa_of 684 rfl rfl
theorem wc_X6_sign : Cond.code yX6_sign cX6_sign 1 (some .int) ∈ WA := wa_of 685 rfl rfl
theorem wl_X6_98 : Cond.methodLink RX6 98 yX6_readNumber ∈ WA := wa_of 686 rfl rfl
theorem wv_X6_readNumber : Cond.instanceMethod yX6_readNumber ∈ WA := wa_of 688 rfl rfl
theorem wc_X6_readNumber : Cond.code yX6_readNumber cX6_readNumber 2 none ∈ WA := wa_of 689 rfl rfl
theorem wl_X6_90 : Cond.methodLink RX6 90 yX6_emit ∈ WA := wa_of 690 rfl rfl
theorem wv_X6_emit : Cond.instanceMethod yX6_emit ∈ WA := wa_of 692 rfl rfl
theorem wc_X6_emit : Cond.code yX6_emit cX6_emit 3 none ∈ WA := wa_of 693 rfl rfl
theorem wl_X6_115 : Cond.methodLink RX6 115 yX6_readOpening ∈ WA := wa_of 694 rfl rfl
theorem wv_X6_readOpening : Cond.instanceMethod yX6_readOpening ∈ WA := wa_of 696 rfl rfl
theorem wc_X6_readOpening : Cond.code yX6_readOpening cX6_readOpening 2 (some .boolean) ∈ WA := wa_of 697 rfl rfl
theorem wl_X6_101 : Cond.methodLink RX6 101 yX6_push ∈ WA := wa_of 698 rfl rfl
theorem wv_X6_push : Cond.instanceMethod yX6_push ∈ WA := wa_of 700 rfl rfl
theorem wc_X6_push : Cond.code yX6_push cX6_push 2 none ∈ WA := wa_of 701 rfl rfl
theorem wl_X6_118 : Cond.methodLink RX6 118 yX6_readBehind ∈ WA := wa_of 702 rfl rfl
theorem wv_X6_readBehind : Cond.instanceMethod yX6_readBehind ∈ WA := wa_of 704 rfl rfl
theorem wc_X6_readBehind : Cond.code yX6_readBehind cX6_readBehind 2 (some .boolean) ∈ WA := wa_of 705 rfl rfl
theorem wl_X6_108 : Cond.methodLink RX6 108 yX6_close ∈ WA := wa_of 706 rfl rfl
theorem wv_X6_close : Cond.instanceMethod yX6_close ∈ WA := wa_of 708 rfl rfl
theorem wc_X6_close : Cond.code yX6_close cX6_close 2 none ∈ WA := wa_of 709 rfl rfl
theorem wl_X6_86 : Cond.methodLink RX6 86 yX6_binds ∈ WA := wa_of 710 rfl rfl
theorem wv_X6_binds : Cond.instanceMethod yX6_binds ∈ WA := wa_of 712 rfl rfl
theorem wc_X6_binds : Cond.code yX6_binds cX6_binds 3 (some .boolean) ∈ WA := wa_of 713 rfl rfl
theorem wl_L_48 : Cond.methodLink RL 48 yX6_load ∈ WA := wa_of 714 rfl rfl
theorem wv_X6_load : Cond.instanceMethod yX6_load ∈ WA := wa_of 715 rfl rfl
theorem we_X6_load : Cond.selects RX6 yX6_load yX6_load ∈ WA := wa_of 716 rfl rfl
theorem wc_X6_load : Cond.code yX6_load cX6_load 3 (some .int) ∈ WA := wa_of 717 rfl rfl
theorem wl_L_53 : Cond.methodLink RL 53 yX6_assign ∈ WA := wa_of 718 rfl rfl
theorem wv_X6_assign : Cond.instanceMethod yX6_assign ∈ WA := wa_of 719 rfl rfl
theorem we_X6_assign : Cond.selects RX6 yX6_assign yX6_assign ∈ WA := wa_of 720 rfl rfl
theorem wc_X6_assign : Cond.code yX6_assign cX6_assign 3 (some .long) ∈ WA := wa_of 721 rfl rfl
theorem wl_X6_153 : Cond.methodLink RX6 153 yX6_isFormula ∈ WA := wa_of 722 rfl rfl
theorem wv_X6_isFormula : Cond.instanceMethod yX6_isFormula ∈ WA := wa_of 724 rfl rfl
theorem wc_X6_isFormula : Cond.code yX6_isFormula cX6_isFormula 2 (some .boolean) ∈ WA := wa_of 725 rfl rfl
theorem wl_X6_156 : Cond.methodLink RX6 156 yX6_reckon ∈ WA := wa_of 726 rfl rfl
theorem wv_X6_reckon : Cond.instanceMethod yX6_reckon ∈ WA := wa_of 728 rfl rfl
theorem wc_X6_reckon : Cond.code yX6_reckon cX6_reckon 12 (some .boolean) ∈ WA := wa_of 729 rfl rfl
theorem wl_X6_146 : Cond.methodLink RX6 146 yX6_times ∈ WA := wa_of 730 rfl rfl
theorem ws_X6_times : Cond.static yX6_times ∈ WA := wa_of 731 rfl rfl
theorem wc_X6_times : Cond.code yX6_times cX6_times 4 (some .long) ∈ WA := wa_of 732 rfl rfl
theorem wq_X6_138 : Cond.constantLong RX6 138 (1000000000001) ∈ WA := wa_of 733 rfl rfl
theorem wl_X6_150 : Cond.methodLink RX6 150 yX6_rounded ∈ WA := wa_of 734 rfl rfl
theorem wv_X6_rounded : Cond.instanceMethod yX6_rounded ∈ WA := wa_of 736 rfl rfl
theorem wc_X6_rounded : Cond.code yX6_rounded cX6_rounded 10 (some .long) ∈ WA := wa_of 737 rfl rfl
theorem wl_X6_133 : Cond.methodLink RX6 133 yX6_floorRoot ∈ WA := wa_of 738 rfl rfl
theorem ws_X6_floorRoot : Cond.static yX6_floorRoot ∈ WA := wa_of 739 rfl rfl
theorem wc_X6_floorRoot : Cond.code yX6_floorRoot cX6_floorRoot 7 (some .long) ∈ WA := wa_of 740 rfl rfl
theorem wl_X6_130 : Cond.methodLink RX6 130 yX6_firstBit ∈ WA := wa_of 741 rfl rfl
theorem ws_X6_firstBit : Cond.static yX6_firstBit ∈ WA := wa_of 742 rfl rfl
theorem wc_X6_firstBit : Cond.code yX6_firstBit cX6_firstBit 5 (some .long) ∈ WA := wa_of 743 rfl rfl
theorem wq_X6_124 : Cond.constantLong RX6 124 (2) ∈ WA := wa_of 744 rfl rfl
theorem wl_X6_126 : Cond.methodLink RX6 126 yX6_power ∈ WA := wa_of 745 rfl rfl
theorem ws_X6_power : Cond.static yX6_power ∈ WA := wa_of 746 rfl rfl
theorem wc_X6_power : Cond.code yX6_power cX6_power 3 (some .long) ∈ WA := wa_of 747 rfl rfl
theorem wq_X6_136 : Cond.constantLong RX6 136 (8) ∈ WA := wa_of 748 rfl rfl
theorem wq_X6_159 : Cond.constantLong RX6 159 (-5) ∈ WA := wa_of 749 rfl rfl
theorem wl_L_58 : Cond.methodLink RL 58 yX6_settle ∈ WA := wa_of 750 rfl rfl
theorem wv_X6_settle : Cond.instanceMethod yX6_settle ∈ WA := wa_of 751 rfl rfl
theorem we_X6_settle : Cond.selects RX6 yX6_settle yX6_settle ∈ WA := wa_of 752 rfl rfl
theorem wc_X6_settle : Cond.code yX6_settle cX6_settle 6 (some .int) ∈ WA := wa_of 753 rfl rfl
theorem wl_L_62 : Cond.methodLink RL 62 yX6_value ∈ WA := wa_of 754 rfl rfl
theorem wv_X6_value : Cond.instanceMethod yX6_value ∈ WA := wa_of 755 rfl rfl
theorem we_X6_value : Cond.selects RX6 yX6_value yX6_value ∈ WA := wa_of 756 rfl rfl
theorem wc_X6_value : Cond.code yX6_value cX6_value 2 (some .long) ∈ WA := wa_of 757 rfl rfl
theorem wl_L_66 : Cond.methodLink RL 66 yX6_ofFormula ∈ WA := wa_of 758 rfl rfl
theorem wv_X6_ofFormula : Cond.instanceMethod yX6_ofFormula ∈ WA := wa_of 759 rfl rfl
theorem we_X6_ofFormula : Cond.selects RX6 yX6_ofFormula yX6_ofFormula ∈ WA := wa_of 760 rfl rfl
theorem wc_X6_ofFormula : Cond.code yX6_ofFormula cX6_ofFormula 3 (some .int) ∈ WA := wa_of 761 rfl rfl
theorem wl_X6_161 : Cond.methodLink RX6 161 yX6_cellsOf ∈ WA := wa_of 762 rfl rfl
theorem wv_X6_cellsOf : Cond.instanceMethod yX6_cellsOf ∈ WA := wa_of 764 rfl rfl
theorem wc_X6_cellsOf : Cond.code yX6_cellsOf cX6_cellsOf 5 (some .int) ∈ WA := wa_of 765 rfl rfl
theorem wl_X6_165 : Cond.methodLink RX6 165 yX6_rootsOf ∈ WA := wa_of 766 rfl rfl
theorem wv_X6_rootsOf : Cond.instanceMethod yX6_rootsOf ∈ WA := wa_of 768 rfl rfl
theorem wc_X6_rootsOf : Cond.code yX6_rootsOf cX6_rootsOf 5 (some .int) ∈ WA := wa_of 769 rfl rfl
theorem wl_L_70 : Cond.methodLink RL 70 yX6_stepValue ∈ WA := wa_of 770 rfl rfl
theorem wv_X6_stepValue : Cond.instanceMethod yX6_stepValue ∈ WA := wa_of 771 rfl rfl
theorem we_X6_stepValue : Cond.selects RX6 yX6_stepValue yX6_stepValue ∈ WA := wa_of 772 rfl rfl
theorem wc_X6_stepValue : Cond.code yX6_stepValue cX6_stepValue 3 (some .long) ∈ WA := wa_of 773 rfl rfl
theorem wl_L_74 : Cond.methodLink RL 74 yX6_count ∈ WA := wa_of 774 rfl rfl
theorem wv_X6_count : Cond.instanceMethod yX6_count ∈ WA := wa_of 775 rfl rfl
theorem we_X6_count : Cond.selects RX6 yX6_count yX6_count ∈ WA := wa_of 776 rfl rfl
theorem wc_X6_count : Cond.code yX6_count cX6_count 4 (some .int) ∈ WA := wa_of 777 rfl rfl
theorem wl_X6_168 : Cond.methodLink RX6 168 yX6_formulas ∈ WA := wa_of 778 rfl rfl
theorem wv_X6_formulas : Cond.instanceMethod yX6_formulas ∈ WA := wa_of 780 rfl rfl
theorem wc_X6_formulas : Cond.code yX6_formulas cX6_formulas 3 (some .int) ∈ WA := wa_of 781 rfl rfl
theorem wl_L_79 : Cond.methodLink RL 79 yX6_root ∈ WA := wa_of 782 rfl rfl
theorem wv_X6_root : Cond.instanceMethod yX6_root ∈ WA := wa_of 783 rfl rfl
theorem we_X6_root : Cond.selects RX6 yX6_root yX6_root ∈ WA := wa_of 784 rfl rfl
theorem wc_X6_root : Cond.code yX6_root cX6_root 4 (some .int) ∈ WA := wa_of 785 rfl rfl
theorem wl_X6_171 : Cond.methodLink RX6 171 yX6_isAsked ∈ WA := wa_of 786 rfl rfl
theorem ws_X6_isAsked : Cond.static yX6_isAsked ∈ WA := wa_of 787 rfl rfl
theorem wc_X6_isAsked : Cond.code yX6_isAsked cX6_isAsked 3 (some .boolean) ∈ WA := wa_of 788 rfl rfl
theorem wl_L_84 : Cond.methodLink RL 84 yX6_remainder ∈ WA := wa_of 789 rfl rfl
theorem wv_X6_remainder : Cond.instanceMethod yX6_remainder ∈ WA := wa_of 790 rfl rfl
theorem we_X6_remainder : Cond.selects RX6 yX6_remainder yX6_remainder ∈ WA := wa_of 791 rfl rfl
theorem wc_X6_remainder : Cond.code yX6_remainder cX6_remainder 4 (some .long) ∈ WA := wa_of 792 rfl rfl
theorem wl_L_89 : Cond.methodLink RL 89 yX6_bit ∈ WA := wa_of 793 rfl rfl
theorem wv_X6_bit : Cond.instanceMethod yX6_bit ∈ WA := wa_of 794 rfl rfl
theorem we_X6_bit : Cond.selects RX6 yX6_bit yX6_bit ∈ WA := wa_of 795 rfl rfl
theorem wc_X6_bit : Cond.code yX6_bit cX6_bit 12 (some .long) ∈ WA := wa_of 796 rfl rfl
theorem wq_X6_175 : Cond.constantLong RX6 175 (-6) ∈ WA := wa_of 797 rfl rfl
theorem wl_L_93 : Cond.methodLink RL 93 yX6_digits ∈ WA := wa_of 798 rfl rfl
theorem wv_X6_digits : Cond.instanceMethod yX6_digits ∈ WA := wa_of 799 rfl rfl
theorem we_X6_digits : Cond.selects RX6 yX6_digits yX6_digits ∈ WA := wa_of 800 rfl rfl
theorem wc_X6_digits : Cond.code yX6_digits cX6_digits 5 (some .int) ∈ WA := wa_of 801 rfl rfl
theorem wq_X6_177 : Cond.constant RX6 177 (1000000) ∈ WA := wa_of 802 rfl rfl
theorem wq_X6_178 : Cond.constantLong RX6 178 (100) ∈ WA := wa_of 803 rfl rfl
theorem wl_L_98 : Cond.methodLink RL 98 yX6_compare ∈ WA := wa_of 804 rfl rfl
theorem wv_X6_compare : Cond.instanceMethod yX6_compare ∈ WA := wa_of 805 rfl rfl
theorem we_X6_compare : Cond.selects RX6 yX6_compare yX6_compare ∈ WA := wa_of 806 rfl rfl
theorem wc_X6_compare : Cond.code yX6_compare cX6_compare 12 (some .int) ∈ WA := wa_of 807 rfl rfl
theorem wl_X6_184 : Cond.methodLink RX6 184 yX6_side ∈ WA := wa_of 808 rfl rfl
theorem ws_X6_side : Cond.static yX6_side ∈ WA := wa_of 809 rfl rfl
theorem wc_X6_side : Cond.code yX6_side cX6_side 12 (some .int) ∈ WA := wa_of 810 rfl rfl
theorem wq_X6_180 : Cond.constantLong RX6 180 (4) ∈ WA := wa_of 811 rfl rfl
theorem wq_X6_182 : Cond.constantLong RX6 182 (16) ∈ WA := wa_of 812 rfl rfl
theorem wl_L_102 : Cond.methodLink RL 102 yX6_period ∈ WA := wa_of 813 rfl rfl
theorem wv_X6_period : Cond.instanceMethod yX6_period ∈ WA := wa_of 814 rfl rfl
theorem we_X6_period : Cond.selects RX6 yX6_period yX6_period ∈ WA := wa_of 815 rfl rfl
theorem wc_X6_period : Cond.code yX6_period cX6_period 4 (some .int) ∈ WA := wa_of 816 rfl rfl
theorem wq_X6_200 : Cond.constant RX6 200 (100000) ∈ WA := wa_of 817 rfl rfl
theorem wl_X6_201 : Cond.methodLink RX6 201 yX6_beginFraction ∈ WA := wa_of 818 rfl rfl
theorem wv_X6_beginFraction : Cond.instanceMethod yX6_beginFraction ∈ WA := wa_of 820 rfl rfl
theorem wc_X6_beginFraction : Cond.code yX6_beginFraction cX6_beginFraction 2 none ∈ WA := wa_of 821 rfl rfl
theorem wl_X6_204 : Cond.methodLink RX6 204 yX6_nextTerm ∈ WA := wa_of 822 rfl rfl
theorem wv_X6_nextTerm : Cond.instanceMethod yX6_nextTerm ∈ WA := wa_of 824 rfl rfl
theorem wc_X6_nextTerm : Cond.code yX6_nextTerm cX6_nextTerm 2 none ∈ WA := wa_of 825 rfl rfl
theorem wl_L_106 : Cond.methodLink RL 106 yX6_term ∈ WA := wa_of 826 rfl rfl
theorem wv_X6_term : Cond.instanceMethod yX6_term ∈ WA := wa_of 827 rfl rfl
theorem we_X6_term : Cond.selects RX6 yX6_term yX6_term ∈ WA := wa_of 828 rfl rfl
theorem wc_X6_term : Cond.code yX6_term cX6_term 4 (some .int) ∈ WA := wa_of 829 rfl rfl
theorem wl_L_111 : Cond.methodLink RL 111 yX6_convergent ∈ WA := wa_of 830 rfl rfl
theorem wv_X6_convergent : Cond.instanceMethod yX6_convergent ∈ WA := wa_of 831 rfl rfl
theorem we_X6_convergent : Cond.selects RX6 yX6_convergent yX6_convergent ∈ WA := wa_of 832 rfl rfl
theorem wc_X6_convergent : Cond.code yX6_convergent cX6_convergent 17 (some .long) ∈ WA := wa_of 833 rfl rfl
theorem wl_L_115 : Cond.methodLink RL 115 yX6_twoSquares ∈ WA := wa_of 834 rfl rfl
theorem wv_X6_twoSquares : Cond.instanceMethod yX6_twoSquares ∈ WA := wa_of 835 rfl rfl
theorem we_X6_twoSquares : Cond.selects RX6 yX6_twoSquares yX6_twoSquares ∈ WA := wa_of 836 rfl rfl
theorem wc_X6_twoSquares : Cond.code yX6_twoSquares cX6_twoSquares 8 (some .int) ∈ WA := wa_of 837 rfl rfl
theorem wl_L_120 : Cond.methodLink RL 120 yX6_powers ∈ WA := wa_of 838 rfl rfl
theorem wv_X6_powers : Cond.instanceMethod yX6_powers ∈ WA := wa_of 839 rfl rfl
theorem we_X6_powers : Cond.selects RX6 yX6_powers yX6_powers ∈ WA := wa_of 840 rfl rfl
theorem wc_X6_powers : Cond.code yX6_powers cX6_powers 5 (some .int) ∈ WA := wa_of 841 rfl rfl
theorem wl_X6_207 : Cond.methodLink RX6 207 yX6_powersTo ∈ WA := wa_of 842 rfl rfl
theorem ws_X6_powersTo : Cond.static yX6_powersTo ∈ WA := wa_of 843 rfl rfl
theorem wc_X6_powersTo : Cond.code yX6_powersTo cX6_powersTo 2 (some .long) ∈ WA := wa_of 844 rfl rfl
theorem wl_L_124 : Cond.methodLink RL 124 yX6_rootSum ∈ WA := wa_of 845 rfl rfl
theorem wv_X6_rootSum : Cond.instanceMethod yX6_rootSum ∈ WA := wa_of 846 rfl rfl
theorem we_X6_rootSum : Cond.selects RX6 yX6_rootSum yX6_rootSum ∈ WA := wa_of 847 rfl rfl
theorem wc_X6_rootSum : Cond.code yX6_rootSum cX6_rootSum 8 (some .long) ∈ WA := wa_of 848 rfl rfl
theorem wq_X6_211 : Cond.constant RX6 211 (1000000000) ∈ WA := wa_of 849 rfl rfl
theorem wl_L_128 : Cond.methodLink RL 128 yX6_undo ∈ WA := wa_of 850 rfl rfl
theorem wv_X6_undo : Cond.instanceMethod yX6_undo ∈ WA := wa_of 851 rfl rfl
theorem we_X6_undo : Cond.selects RX6 yX6_undo yX6_undo ∈ WA := wa_of 852 rfl rfl
theorem wc_X6_undo : Cond.code yX6_undo cX6_undo 2 (some .int) ∈ WA := wa_of 853 rfl rfl
theorem wl_L_132 : Cond.methodLink RL 132 yX6_save ∈ WA := wa_of 854 rfl rfl
theorem wv_X6_save : Cond.instanceMethod yX6_save ∈ WA := wa_of 855 rfl rfl
theorem we_X6_save : Cond.selects RX6 yX6_save yX6_save ∈ WA := wa_of 856 rfl rfl
theorem wc_X6_save : Cond.code yX6_save cX6_save 3 (some .int) ∈ WA := wa_of 857 rfl rfl
theorem wl_L_136 : Cond.methodLink RL 136 yX6_restore ∈ WA := wa_of 858 rfl rfl
theorem wv_X6_restore : Cond.instanceMethod yX6_restore ∈ WA := wa_of 859 rfl rfl
theorem we_X6_restore : Cond.selects RX6 yX6_restore yX6_restore ∈ WA := wa_of 860 rfl rfl
theorem wc_X6_restore : Cond.code yX6_restore cX6_restore 3 (some .int) ∈ WA := wa_of 861 rfl rfl
theorem wq_L_18 : Cond.constantLong RL 18 (4294967295) ∈ WA := wa_of 862 rfl rfl
theorem we_X5_keepState : Cond.selects RX5 yX5_keepState yX5_keepState ∈ WA := wa_of 0 rfl rfl
theorem we_X4_become : Cond.selects RX4 yX4_become yX4_become ∈ WA := wa_of 1 rfl rfl
theorem we_X4_setting : Cond.selects RX4 yX4_setting yX4_setting ∈ WA := wa_of 2 rfl rfl
theorem we_X4_cellValue : Cond.selects RX4 yX4_cellValue yX4_cellValue ∈ WA := wa_of 3 rfl rfl
theorem we_X4_formula : Cond.selects RX4 yX4_formula yX4_formula ∈ WA := wa_of 4 rfl rfl
theorem we_X4_changeSetting : Cond.selects RX4 yX4_changeSetting yX4_changeSetting ∈ WA := wa_of 5 rfl rfl
theorem we_X4_changeCell : Cond.selects RX4 yX4_changeCell yX4_changeCell ∈ WA := wa_of 6 rfl rfl
theorem we_X5_addToPad : Cond.selects RX5 yX5_addToPad yX5_addToPad ∈ WA := wa_of 7 rfl rfl
theorem we_X2_faultOf : Cond.selects RX2 yX2_faultOf yX2_faultOf ∈ WA := wa_of 8 rfl rfl
theorem we_X2_takes : Cond.selects RX2 yX2_takes yX2_takes ∈ WA := wa_of 9 rfl rfl
theorem we_X2_takesFactor : Cond.selects RX2 yX2_takesFactor yX2_takesFactor ∈ WA := wa_of 10 rfl rfl
theorem we_X2_addStep : Cond.selects RX2 yX2_addStep yX2_addStep ∈ WA := wa_of 11 rfl rfl
theorem we_X2_push : Cond.selects RX2 yX2_push yX2_push ∈ WA := wa_of 12 rfl rfl
theorem we_X2_takesDigit : Cond.selects RX2 yX2_takesDigit yX2_takesDigit ∈ WA := wa_of 13 rfl rfl
theorem we_X2_takesBehind : Cond.selects RX2 yX2_takesBehind yX2_takesBehind ∈ WA := wa_of 14 rfl rfl
theorem we_X2_closeBracket : Cond.selects RX2 yX2_closeBracket yX2_closeBracket ∈ WA := wa_of 15 rfl rfl
theorem we_X2_release : Cond.selects RX2 yX2_release yX2_release ∈ WA := wa_of 16 rfl rfl
theorem we_X2_top : Cond.selects RX2 yX2_top yX2_top ∈ WA := wa_of 17 rfl rfl
theorem we_X4_changeFormula : Cond.selects RX4 yX4_changeFormula yX4_changeFormula ∈ WA := wa_of 18 rfl rfl
theorem we_X3_reckon : Cond.selects RX3 yX3_reckon yX3_reckon ∈ WA := wa_of 19 rfl rfl
theorem we_X3_numberOf : Cond.selects RX3 yX3_numberOf yX3_numberOf ∈ WA := wa_of 20 rfl rfl
theorem we_X3_pop : Cond.selects RX3 yX3_pop yX3_pop ∈ WA := wa_of 21 rfl rfl
theorem we_X3_push : Cond.selects RX3 yX3_push yX3_push ∈ WA := wa_of 22 rfl rfl
theorem we_X3_result : Cond.selects RX3 yX3_result yX3_result ∈ WA := wa_of 23 rfl rfl
theorem we_X3_valueOf : Cond.selects RX3 yX3_valueOf yX3_valueOf ∈ WA := wa_of 24 rfl rfl
theorem we_X0_cellsNamed : Cond.selects RX0 yX0_cellsNamed yX0_cellsNamed ∈ WA := wa_of 25 rfl rfl
theorem we_X0_rootsInside : Cond.selects RX0 yX0_rootsInside yX0_rootsInside ∈ WA := wa_of 26 rfl rfl
theorem we_X4_formulasThere : Cond.selects RX4 yX4_formulasThere yX4_formulasThere ∈ WA := wa_of 27 rfl rfl
theorem we_X4_cellsNotZero : Cond.selects RX4 yX4_cellsNotZero yX4_cellsNotZero ∈ WA := wa_of 28 rfl rfl
theorem we_X1_start : Cond.selects RX1 yX1_start yX1_start ∈ WA := wa_of 29 rfl rfl
theorem we_X1_goesOn : Cond.selects RX1 yX1_goesOn yX1_goesOn ∈ WA := wa_of 30 rfl rfl
theorem we_X1_extend : Cond.selects RX1 yX1_extend yX1_extend ∈ WA := wa_of 31 rfl rfl
theorem we_X6_record : Cond.selects RX6 yX6_record yX6_record ∈ WA := wa_of 32 rfl rfl
theorem we_X6_readPad : Cond.selects RX6 yX6_readPad yX6_readPad ∈ WA := wa_of 33 rfl rfl
theorem we_X6_readOperand : Cond.selects RX6 yX6_readOperand yX6_readOperand ∈ WA := wa_of 34 rfl rfl
theorem we_X6_sign : Cond.selects RX6 yX6_sign yX6_sign ∈ WA := wa_of 35 rfl rfl
theorem we_X6_readNumber : Cond.selects RX6 yX6_readNumber yX6_readNumber ∈ WA := wa_of 36 rfl rfl
theorem we_X6_emit : Cond.selects RX6 yX6_emit yX6_emit ∈ WA := wa_of 37 rfl rfl
theorem we_X6_readOpening : Cond.selects RX6 yX6_readOpening yX6_readOpening ∈ WA := wa_of 38 rfl rfl
theorem we_X6_push : Cond.selects RX6 yX6_push yX6_push ∈ WA := wa_of 39 rfl rfl
theorem we_X6_readBehind : Cond.selects RX6 yX6_readBehind yX6_readBehind ∈ WA := wa_of 40 rfl rfl
theorem we_X6_close : Cond.selects RX6 yX6_close yX6_close ∈ WA := wa_of 41 rfl rfl
theorem we_X6_binds : Cond.selects RX6 yX6_binds yX6_binds ∈ WA := wa_of 42 rfl rfl
theorem we_X6_isFormula : Cond.selects RX6 yX6_isFormula yX6_isFormula ∈ WA := wa_of 43 rfl rfl
theorem we_X6_reckon : Cond.selects RX6 yX6_reckon yX6_reckon ∈ WA := wa_of 44 rfl rfl
theorem we_X6_rounded : Cond.selects RX6 yX6_rounded yX6_rounded ∈ WA := wa_of 45 rfl rfl
theorem we_X6_cellsOf : Cond.selects RX6 yX6_cellsOf yX6_cellsOf ∈ WA := wa_of 46 rfl rfl
theorem we_X6_rootsOf : Cond.selects RX6 yX6_rootsOf yX6_rootsOf ∈ WA := wa_of 47 rfl rfl
theorem we_X6_formulas : Cond.selects RX6 yX6_formulas yX6_formulas ∈ WA := wa_of 48 rfl rfl
theorem we_X6_beginFraction : Cond.selects RX6 yX6_beginFraction yX6_beginFraction ∈ WA := wa_of 49 rfl rfl
theorem we_X6_nextTerm : Cond.selects RX6 yX6_nextTerm yX6_nextTerm ∈ WA := wa_of 50 rfl rfl
theorem wu_X0 : ∀ w ∈ u_ws RX0 TX0 1, w ∈ WA := by
  intro w hw
  obtain ⟨k, hk, rfl⟩ := List.mem_map.mp hw
  have hk := List.mem_range.mp hk
  match k, hk with
  | 0, _ => exact wa_of 353 rfl rfl
  | k + 1, h => exact absurd h (by omega)
theorem wcl_X0 : vwCl[0]? = some (RX0, TX0, 1) := rfl
theorem wu_X1 : ∀ w ∈ u_ws RX1 TX1 9, w ∈ WA := by
  intro w hw
  obtain ⟨k, hk, rfl⟩ := List.mem_map.mp hw
  have hk := List.mem_range.mp hk
  match k, hk with
  | 0, _ => exact wa_of 161 rfl rfl
  | 1, _ => exact wa_of 163 rfl rfl
  | 2, _ => exact wa_of 165 rfl rfl
  | 3, _ => exact wa_of 167 rfl rfl
  | 4, _ => exact wa_of 169 rfl rfl
  | 5, _ => exact wa_of 171 rfl rfl
  | 6, _ => exact wa_of 173 rfl rfl
  | 7, _ => exact wa_of 175 rfl rfl
  | 8, _ => exact wa_of 177 rfl rfl
  | k + 9, h => exact absurd h (by omega)
theorem wcl_X1 : vwCl[1]? = some (RX1, TX1, 9) := rfl
theorem wu_X2 : ∀ w ∈ u_ws RX2 TX2 6, w ∈ WA := by
  intro w hw
  obtain ⟨k, hk, rfl⟩ := List.mem_map.mp hw
  have hk := List.mem_range.mp hk
  match k, hk with
  | 0, _ => exact wa_of 104 rfl rfl
  | 1, _ => exact wa_of 106 rfl rfl
  | 2, _ => exact wa_of 108 rfl rfl
  | 3, _ => exact wa_of 110 rfl rfl
  | 4, _ => exact wa_of 112 rfl rfl
  | 5, _ => exact wa_of 114 rfl rfl
  | k + 6, h => exact absurd h (by omega)
theorem wcl_X2 : vwCl[2]? = some (RX2, TX2, 6) := rfl
theorem wu_X3 : ∀ w ∈ u_ws RX3 TX3 5, w ∈ WA := by
  intro w hw
  obtain ⟨k, hk, rfl⟩ := List.mem_map.mp hw
  have hk := List.mem_range.mp hk
  match k, hk with
  | 0, _ => exact wa_of 131 rfl rfl
  | 1, _ => exact wa_of 133 rfl rfl
  | 2, _ => exact wa_of 135 rfl rfl
  | 3, _ => exact wa_of 137 rfl rfl
  | 4, _ => exact wa_of 139 rfl rfl
  | k + 5, h => exact absurd h (by omega)
theorem wcl_X3 : vwCl[3]? = some (RX3, TX3, 5) := rfl
theorem wu_X4 : ∀ w ∈ u_ws RX4 TX4 3, w ∈ WA := by
  intro w hw
  obtain ⟨k, hk, rfl⟩ := List.mem_map.mp hw
  have hk := List.mem_range.mp hk
  match k, hk with
  | 0, _ => exact wa_of 80 rfl rfl
  | 1, _ => exact wa_of 82 rfl rfl
  | 2, _ => exact wa_of 84 rfl rfl
  | k + 3, h => exact absurd h (by omega)
theorem wcl_X4 : vwCl[4]? = some (RX4, TX4, 3) := rfl
theorem wu_X5 : ∀ w ∈ u_ws RX5 TX5 10, w ∈ WA := by
  intro w hw
  obtain ⟨k, hk, rfl⟩ := List.mem_map.mp hw
  have hk := List.mem_range.mp hk
  match k, hk with
  | 0, _ => exact wa_of 190 rfl rfl
  | 1, _ => exact wa_of 192 rfl rfl
  | 2, _ => exact wa_of 194 rfl rfl
  | 3, _ => exact wa_of 196 rfl rfl
  | 4, _ => exact wa_of 198 rfl rfl
  | 5, _ => exact wa_of 200 rfl rfl
  | 6, _ => exact wa_of 202 rfl rfl
  | 7, _ => exact wa_of 204 rfl rfl
  | 8, _ => exact wa_of 206 rfl rfl
  | 9, _ => exact wa_of 208 rfl rfl
  | k + 10, h => exact absurd h (by omega)
theorem wcl_X5 : vwCl[5]? = some (RX5, TX5, 10) := rfl
theorem wu_X6 : ∀ w ∈ u_ws RX6 TX6 25, w ∈ WA := by
  intro w hw
  obtain ⟨k, hk, rfl⟩ := List.mem_map.mp hw
  have hk := List.mem_range.mp hk
  match k, hk with
  | 0, _ => exact wa_of 584 rfl rfl
  | 1, _ => exact wa_of 586 rfl rfl
  | 2, _ => exact wa_of 588 rfl rfl
  | 3, _ => exact wa_of 590 rfl rfl
  | 4, _ => exact wa_of 592 rfl rfl
  | 5, _ => exact wa_of 594 rfl rfl
  | 6, _ => exact wa_of 596 rfl rfl
  | 7, _ => exact wa_of 598 rfl rfl
  | 8, _ => exact wa_of 600 rfl rfl
  | 9, _ => exact wa_of 602 rfl rfl
  | 10, _ => exact wa_of 604 rfl rfl
  | 11, _ => exact wa_of 606 rfl rfl
  | 12, _ => exact wa_of 608 rfl rfl
  | 13, _ => exact wa_of 610 rfl rfl
  | 14, _ => exact wa_of 612 rfl rfl
  | 15, _ => exact wa_of 614 rfl rfl
  | 16, _ => exact wa_of 616 rfl rfl
  | 17, _ => exact wa_of 618 rfl rfl
  | 18, _ => exact wa_of 620 rfl rfl
  | 19, _ => exact wa_of 622 rfl rfl
  | 20, _ => exact wa_of 624 rfl rfl
  | 21, _ => exact wa_of 626 rfl rfl
  | 22, _ => exact wa_of 628 rfl rfl
  | 23, _ => exact wa_of 630 rfl rfl
  | 24, _ => exact wa_of 632 rfl rfl
  | k + 25, h => exact absurd h (by omega)
theorem wcl_X6 : vwCl[6]? = some (RX6, TX6, 25) := rfl
theorem wv_objInit : Cond.instanceMethod Lib.objectInit ∈ WA := wa_of 67 rfl rfl
theorem wc_objInit : Cond.code Lib.objectInit ⟨#[0xb1]⟩ 1 none ∈ WA := wa_of 68 rfl rfl
theorem ws_max : Cond.static Lib.Math.max.name ∈ WA := wa_of 348 rfl rfl
theorem wc_max : Cond.code Lib.Math.max.name Lib.Math.max.code 2 (some .int) ∈ WA := wa_of 349 rfl rfl
def yLong : MethodName := ⟨"java/lang/Long", "compare", "(JJ)I"⟩
abbrev cLong : ByteArray := prog_9_method_42_code
theorem ws_Long : Cond.static yLong ∈ WA := wa_of 495 rfl rfl
theorem wc_Long : Cond.code yLong cLong 4 (some .int) ∈ WA := wa_of 496 rfl rfl
theorem dLong_0 : decode cLong 0 = .ok (.lload_n 0, 1) := by decide +kernel
theorem dLong_1 : decode cLong 1 = .ok (.lload_n 2, 1) := by decide +kernel
theorem dLong_2 : decode cLong 2 = .ok (.lcmp, 1) := by decide +kernel
theorem dLong_3 : decode cLong 3 = .ok (.ifCond .ge 7, 3) := by decide +kernel
theorem dLong_6 : decode cLong 6 = .ok (.iconst (-1), 1) := by decide +kernel
theorem dLong_7 : decode cLong 7 = .ok (.goto 14, 3) := by decide +kernel
theorem dLong_10 : decode cLong 10 = .ok (.lload_n 0, 1) := by decide +kernel
theorem dLong_11 : decode cLong 11 = .ok (.lload_n 2, 1) := by decide +kernel
theorem dLong_12 : decode cLong 12 = .ok (.lcmp, 1) := by decide +kernel
theorem dLong_13 : decode cLong 13 = .ok (.ifCond .ne 7, 3) := by decide +kernel
theorem dLong_16 : decode cLong 16 = .ok (.iconst 0, 1) := by decide +kernel
theorem dLong_17 : decode cLong 17 = .ok (.goto 4, 3) := by decide +kernel
theorem dLong_20 : decode cLong 20 = .ok (.iconst 1, 1) := by decide +kernel
theorem dLong_21 : decode cLong 21 = .ok (.ireturn, 1) := by decide +kernel
def wNm : List (String × Nat × MethodName) := [(RX5, 9, yX4_init), (RX5, 29, yX2_init), (RX5, 36, yX3_init), (RX5, 43, yX1_init), (RX5, 238, yX4_become), (RX5, 59, yX4_setting), (RX5, 63, yX4_changeSetting), (RX5, 75, yX4_cellValue), (RX5, 79, yX4_changeCell), (RX5, 97, yX2_faultOf), (RX2, 59, yX5_within), (RX5, 112, yX0_init), (RX5, 115, yX4_changeFormula), (RX5, 120, yX4_formula), (RX5, 124, yX3_reckon), (RX3, 46, yX5_within), (RX3, 50, yX4_cellValue), (RX3, 60, yX4_setting), (RX3, 64, yX5_rootRounded), (RX5, 133, yX3_result), (RX5, 139, yX0_cellsNamed), (RX0, 23, yX5_within), (RX5, 146, yX0_rootsInside), (RX5, 149, yX3_valueOf), (RX5, 152, yX4_formulasThere), (RX5, 158, yX4_cellsNotZero), (RX5, 196, yX1_start), (RX1, 15, yX5_rootDown), (RX5, 201, yX1_goesOn), (RX5, 215, yX1_extend)]
def wNf : List (String × Nat × String × String × String) := [(RX5, 105, "RootRows$Reader", "steps", "[I"), (RX5, 109, "RootRows$Reader", "size", "I"), (RX5, 143, "RootRows$Reckoner", "reached", "I"), (RX5, 128, "RootRows$Reckoner", "reason", "I"), (RX5, 205, "RootRows$Fraction", "divisor", "I"), (RX5, 210, "RootRows$Fraction", "quotient", "I"), (RX5, 218, "RootRows$Fraction", "upper", "J"), (RX5, 222, "RootRows$Fraction", "lower", "J"), (RX3, 28, "RootRows$Formula", "steps", "[I"), (RX5, 119, "RootRows$Formula", "steps", "[I")]
theorem wl_X5_9 : (RX5, 9, yX4_init) ∈ wNm := List.mem_of_getElem? (i := 0) rfl
theorem wl_X5_29 : (RX5, 29, yX2_init) ∈ wNm := List.mem_of_getElem? (i := 1) rfl
theorem wl_X5_36 : (RX5, 36, yX3_init) ∈ wNm := List.mem_of_getElem? (i := 2) rfl
theorem wl_X5_43 : (RX5, 43, yX1_init) ∈ wNm := List.mem_of_getElem? (i := 3) rfl
theorem wl_X5_238 : (RX5, 238, yX4_become) ∈ wNm := List.mem_of_getElem? (i := 4) rfl
theorem wl_X5_59 : (RX5, 59, yX4_setting) ∈ wNm := List.mem_of_getElem? (i := 5) rfl
theorem wl_X5_63 : (RX5, 63, yX4_changeSetting) ∈ wNm := List.mem_of_getElem? (i := 6) rfl
theorem wl_X5_75 : (RX5, 75, yX4_cellValue) ∈ wNm := List.mem_of_getElem? (i := 7) rfl
theorem wl_X5_79 : (RX5, 79, yX4_changeCell) ∈ wNm := List.mem_of_getElem? (i := 8) rfl
theorem wl_X5_97 : (RX5, 97, yX2_faultOf) ∈ wNm := List.mem_of_getElem? (i := 9) rfl
theorem wl_X2_59 : (RX2, 59, yX5_within) ∈ wNm := List.mem_of_getElem? (i := 10) rfl
theorem wl_X5_112 : (RX5, 112, yX0_init) ∈ wNm := List.mem_of_getElem? (i := 11) rfl
theorem wl_X5_115 : (RX5, 115, yX4_changeFormula) ∈ wNm := List.mem_of_getElem? (i := 12) rfl
theorem wl_X5_120 : (RX5, 120, yX4_formula) ∈ wNm := List.mem_of_getElem? (i := 13) rfl
theorem wl_X5_124 : (RX5, 124, yX3_reckon) ∈ wNm := List.mem_of_getElem? (i := 14) rfl
theorem wl_X3_46 : (RX3, 46, yX5_within) ∈ wNm := List.mem_of_getElem? (i := 15) rfl
theorem wl_X3_50 : (RX3, 50, yX4_cellValue) ∈ wNm := List.mem_of_getElem? (i := 16) rfl
theorem wl_X3_60 : (RX3, 60, yX4_setting) ∈ wNm := List.mem_of_getElem? (i := 17) rfl
theorem wl_X3_64 : (RX3, 64, yX5_rootRounded) ∈ wNm := List.mem_of_getElem? (i := 18) rfl
theorem wl_X5_133 : (RX5, 133, yX3_result) ∈ wNm := List.mem_of_getElem? (i := 19) rfl
theorem wl_X5_139 : (RX5, 139, yX0_cellsNamed) ∈ wNm := List.mem_of_getElem? (i := 20) rfl
theorem wl_X0_23 : (RX0, 23, yX5_within) ∈ wNm := List.mem_of_getElem? (i := 21) rfl
theorem wl_X5_146 : (RX5, 146, yX0_rootsInside) ∈ wNm := List.mem_of_getElem? (i := 22) rfl
theorem wl_X5_149 : (RX5, 149, yX3_valueOf) ∈ wNm := List.mem_of_getElem? (i := 23) rfl
theorem wl_X5_152 : (RX5, 152, yX4_formulasThere) ∈ wNm := List.mem_of_getElem? (i := 24) rfl
theorem wl_X5_158 : (RX5, 158, yX4_cellsNotZero) ∈ wNm := List.mem_of_getElem? (i := 25) rfl
theorem wl_X5_196 : (RX5, 196, yX1_start) ∈ wNm := List.mem_of_getElem? (i := 26) rfl
theorem wl_X1_15 : (RX1, 15, yX5_rootDown) ∈ wNm := List.mem_of_getElem? (i := 27) rfl
theorem wl_X5_201 : (RX5, 201, yX1_goesOn) ∈ wNm := List.mem_of_getElem? (i := 28) rfl
theorem wl_X5_215 : (RX5, 215, yX1_extend) ∈ wNm := List.mem_of_getElem? (i := 29) rfl
theorem wNm_ok : ∀ q ∈ wNm, Cond.methodLinkNest q.1 q.2.1 q.2.2 "RootRows" ∈ lw_tbl := by
  intro q hq
  obtain ⟨i, hi⟩ := List.getElem?_of_mem hq
  match i, hi with
  | 0, hi => cases hi; exact List.mem_of_getElem? (i := 71) rfl
  | 1, hi => cases hi; exact List.mem_of_getElem? (i := 92) rfl
  | 2, hi => cases hi; exact List.mem_of_getElem? (i := 120) rfl
  | 3, hi => cases hi; exact List.mem_of_getElem? (i := 144) rfl
  | 4, hi => cases hi; exact List.mem_of_getElem? (i := 227) rfl
  | 5, hi => cases hi; exact List.mem_of_getElem? (i := 243) rfl
  | 6, hi => cases hi; exact List.mem_of_getElem? (i := 244) rfl
  | 7, hi => cases hi; exact List.mem_of_getElem? (i := 256) rfl
  | 8, hi => cases hi; exact List.mem_of_getElem? (i := 257) rfl
  | 9, hi => cases hi; exact List.mem_of_getElem? (i := 287) rfl
  | 10, hi => cases hi; exact List.mem_of_getElem? (i := 308) rfl
  | 11, hi => cases hi; exact List.mem_of_getElem? (i := 343) rfl
  | 12, hi => cases hi; exact List.mem_of_getElem? (i := 356) rfl
  | 13, hi => cases hi; exact List.mem_of_getElem? (i := 364) rfl
  | 14, hi => cases hi; exact List.mem_of_getElem? (i := 365) rfl
  | 15, hi => cases hi; exact List.mem_of_getElem? (i := 374) rfl
  | 16, hi => cases hi; exact List.mem_of_getElem? (i := 375) rfl
  | 17, hi => cases hi; exact List.mem_of_getElem? (i := 380) rfl
  | 18, hi => cases hi; exact List.mem_of_getElem? (i := 381) rfl
  | 19, hi => cases hi; exact List.mem_of_getElem? (i := 405) rfl
  | 20, hi => cases hi; exact List.mem_of_getElem? (i := 426) rfl
  | 21, hi => cases hi; exact List.mem_of_getElem? (i := 431) rfl
  | 22, hi => cases hi; exact List.mem_of_getElem? (i := 432) rfl
  | 23, hi => cases hi; exact List.mem_of_getElem? (i := 440) rfl
  | 24, hi => cases hi; exact List.mem_of_getElem? (i := 445) rfl
  | 25, hi => cases hi; exact List.mem_of_getElem? (i := 449) rfl
  | 26, hi => cases hi; exact List.mem_of_getElem? (i := 502) rfl
  | 27, hi => cases hi; exact List.mem_of_getElem? (i := 506) rfl
  | 28, hi => cases hi; exact List.mem_of_getElem? (i := 508) rfl
  | 29, hi => cases hi; exact List.mem_of_getElem? (i := 521) rfl
  | i + 30, hi => simp [wNm] at hi
theorem wNf_ok : ∀ q ∈ wNf, Cond.fieldLinkNest q.1 q.2.1 q.2.2.1 q.2.2.2.1 q.2.2.2.2 "RootRows" ∈ lw_tbl := by
  intro q hq
  obtain ⟨i, hi⟩ := List.getElem?_of_mem hq
  match i, hi with
  | 0, hi => cases hi; exact List.mem_of_getElem? (i := 97) rfl
  | 1, hi => cases hi; exact List.mem_of_getElem? (i := 100) rfl
  | 2, hi => cases hi; exact List.mem_of_getElem? (i := 128) rfl
  | 3, hi => cases hi; exact List.mem_of_getElem? (i := 130) rfl
  | 4, hi => cases hi; exact List.mem_of_getElem? (i := 152) rfl
  | 5, hi => cases hi; exact List.mem_of_getElem? (i := 154) rfl
  | 6, hi => cases hi; exact List.mem_of_getElem? (i := 156) rfl
  | 7, hi => cases hi; exact List.mem_of_getElem? (i := 158) rfl
  | 8, hi => cases hi; exact List.mem_of_getElem? (i := 351) rfl
  | 9, hi => cases hi; exact List.mem_of_getElem? (i := 352) rfl
  | i + 10, hi => simp [wNf] at hi
/-- a field by its place in an owner's pool -/
def hFl (own : String) (idx : Nat) (T : u_T) (k : Nat) : Prop := Cond.fieldLink own idx (T k).1 (T k).2.1 (T k).2.2.1 ∈ WA ∨ (own, idx, (T k).1, (T k).2.1, (T k).2.2.1) ∈ wNf
theorem wf_X4_9 : hFl RX4 9 TX4 0 := Or.inl wf0_X4_9
theorem wf_X4_15 : hFl RX4 15 TX4 1 := Or.inl wf0_X4_15
theorem wf_X4_21 : hFl RX4 21 TX4 2 := Or.inl wf0_X4_21
theorem wf_X2_9 : hFl RX2 9 TX2 0 := Or.inl wf0_X2_9
theorem wf_X5_105 : hFl RX5 105 TX2 0 := Or.inr (List.mem_of_getElem? (i := 0) rfl)
theorem wf_X2_15 : hFl RX2 15 TX2 1 := Or.inl wf0_X2_15
theorem wf_X2_19 : hFl RX2 19 TX2 2 := Or.inl wf0_X2_19
theorem wf_X5_109 : hFl RX5 109 TX2 2 := Or.inr (List.mem_of_getElem? (i := 1) rfl)
theorem wf_X2_23 : hFl RX2 23 TX2 3 := Or.inl wf0_X2_23
theorem wf_X2_26 : hFl RX2 26 TX2 4 := Or.inl wf0_X2_26
theorem wf_X2_29 : hFl RX2 29 TX2 5 := Or.inl wf0_X2_29
theorem wf_X3_9 : hFl RX3 9 TX3 0 := Or.inl wf0_X3_9
theorem wf_X3_15 : hFl RX3 15 TX3 1 := Or.inl wf0_X3_15
theorem wf_X3_18 : hFl RX3 18 TX3 2 := Or.inl wf0_X3_18
theorem wf_X3_22 : hFl RX3 22 TX3 3 := Or.inl wf0_X3_22
theorem wf_X5_143 : hFl RX5 143 TX3 3 := Or.inr (List.mem_of_getElem? (i := 2) rfl)
theorem wf_X3_25 : hFl RX3 25 TX3 4 := Or.inl wf0_X3_25
theorem wf_X5_128 : hFl RX5 128 TX3 4 := Or.inr (List.mem_of_getElem? (i := 3) rfl)
theorem wf_X1_9 : hFl RX1 9 TX1 0 := Or.inl wf0_X1_9
theorem wf_X1_19 : hFl RX1 19 TX1 1 := Or.inl wf0_X1_19
theorem wf_X1_22 : hFl RX1 22 TX1 2 := Or.inl wf0_X1_22
theorem wf_X1_25 : hFl RX1 25 TX1 3 := Or.inl wf0_X1_25
theorem wf_X5_205 : hFl RX5 205 TX1 3 := Or.inr (List.mem_of_getElem? (i := 4) rfl)
theorem wf_X1_28 : hFl RX1 28 TX1 4 := Or.inl wf0_X1_28
theorem wf_X5_210 : hFl RX5 210 TX1 4 := Or.inr (List.mem_of_getElem? (i := 5) rfl)
theorem wf_X1_31 : hFl RX1 31 TX1 5 := Or.inl wf0_X1_31
theorem wf_X5_218 : hFl RX5 218 TX1 5 := Or.inr (List.mem_of_getElem? (i := 6) rfl)
theorem wf_X1_35 : hFl RX1 35 TX1 6 := Or.inl wf0_X1_35
theorem wf_X5_222 : hFl RX5 222 TX1 6 := Or.inr (List.mem_of_getElem? (i := 7) rfl)
theorem wf_X1_38 : hFl RX1 38 TX1 7 := Or.inl wf0_X1_38
theorem wf_X1_41 : hFl RX1 41 TX1 8 := Or.inl wf0_X1_41
theorem wf_X5_10 : hFl RX5 10 TX5 0 := Or.inl wf0_X5_10
theorem wf_X5_16 : hFl RX5 16 TX5 1 := Or.inl wf0_X5_16
theorem wf_X5_20 : hFl RX5 20 TX5 2 := Or.inl wf0_X5_20
theorem wf_X5_23 : hFl RX5 23 TX5 3 := Or.inl wf0_X5_23
theorem wf_X5_30 : hFl RX5 30 TX5 4 := Or.inl wf0_X5_30
theorem wf_X5_37 : hFl RX5 37 TX5 5 := Or.inl wf0_X5_37
theorem wf_X5_44 : hFl RX5 44 TX5 6 := Or.inl wf0_X5_44
theorem wf_X5_87 : hFl RX5 87 TX5 7 := Or.inl wf0_X5_87
theorem wf_X5_231 : hFl RX5 231 TX5 8 := Or.inl wf0_X5_231
theorem wf_X5_155 : hFl RX5 155 TX5 9 := Or.inl wf0_X5_155
theorem wf_X0_15 : hFl RX0 15 TX0 0 := Or.inl wf0_X0_15
theorem wf_X3_28 : hFl RX3 28 TX0 0 := Or.inr (List.mem_of_getElem? (i := 8) rfl)
theorem wf_X5_119 : hFl RX5 119 TX0 0 := Or.inr (List.mem_of_getElem? (i := 9) rfl)
theorem wf_X6_7 : hFl RX6 7 TX6 0 := Or.inl wf0_X6_7
theorem wf_X6_13 : hFl RX6 13 TX6 1 := Or.inl wf0_X6_13
theorem wf_X6_17 : hFl RX6 17 TX6 2 := Or.inl wf0_X6_17
theorem wf_X6_20 : hFl RX6 20 TX6 3 := Or.inl wf0_X6_20
theorem wf_X6_53 : hFl RX6 53 TX6 4 := Or.inl wf0_X6_53
theorem wf_X6_23 : hFl RX6 23 TX6 5 := Or.inl wf0_X6_23
theorem wf_X6_26 : hFl RX6 26 TX6 6 := Or.inl wf0_X6_26
theorem wf_X6_29 : hFl RX6 29 TX6 7 := Or.inl wf0_X6_29
theorem wf_X6_33 : hFl RX6 33 TX6 8 := Or.inl wf0_X6_33
theorem wf_X6_74 : hFl RX6 74 TX6 9 := Or.inl wf0_X6_74
theorem wf_X6_36 : hFl RX6 36 TX6 10 := Or.inl wf0_X6_36
theorem wf_X6_39 : hFl RX6 39 TX6 11 := Or.inl wf0_X6_39
theorem wf_X6_80 : hFl RX6 80 TX6 12 := Or.inl wf0_X6_80
theorem wf_X6_42 : hFl RX6 42 TX6 13 := Or.inl wf0_X6_42
theorem wf_X6_83 : hFl RX6 83 TX6 14 := Or.inl wf0_X6_83
theorem wf_X6_105 : hFl RX6 105 TX6 15 := Or.inl wf0_X6_105
theorem wf_X6_77 : hFl RX6 77 TX6 16 := Or.inl wf0_X6_77
theorem wf_X6_45 : hFl RX6 45 TX6 17 := Or.inl wf0_X6_45
theorem wf_X6_48 : hFl RX6 48 TX6 18 := Or.inl wf0_X6_48
theorem wf_X6_140 : hFl RX6 140 TX6 19 := Or.inl wf0_X6_140
theorem wf_X6_143 : hFl RX6 143 TX6 20 := Or.inl wf0_X6_143
theorem wf_X6_188 : hFl RX6 188 TX6 21 := Or.inl wf0_X6_188
theorem wf_X6_191 : hFl RX6 191 TX6 22 := Or.inl wf0_X6_191
theorem wf_X6_194 : hFl RX6 194 TX6 23 := Or.inl wf0_X6_194
theorem wf_X6_197 : hFl RX6 197 TX6 24 := Or.inl wf0_X6_197
