def WA : List Cond := lw_tbl.filter goodWord
theorem wa_of {w : Cond} (i : Nat) (h : lw_tbl[i]? = some w) (hg : goodWord w = true) : w ∈ WA := List.mem_filter.mpr ⟨List.mem_of_getElem? h, hg⟩
theorem wa_t1 {w : Cond} (i : Nat) (h : tables_1_1[i]? = some w) : w ∈ lw_tbl := List.mem_append_right _ (List.mem_append_left _ (List.mem_of_getElem? h))
theorem wa_t2 {w : Cond} (i : Nat) (h : tables_1_2[i]? = some w) : w ∈ lw_tbl := List.mem_append_right _ (List.mem_append_right _ (List.mem_append_left _ (List.mem_of_getElem? h)))
theorem wa_t3 {w : Cond} (i : Nat) (h : tables_1_3[i]? = some w) : w ∈ lw_tbl := List.mem_append_right _ (List.mem_append_right _ (List.mem_append_right _ (List.mem_append_left _ (List.mem_of_getElem? h))))
theorem wa_t4 {w : Cond} (i : Nat) (h : tables_1_4[i]? = some w) : w ∈ lw_tbl := List.mem_append_right _ (List.mem_append_right _ (List.mem_append_right _ (List.mem_append_right _ (List.mem_of_getElem? h))))
theorem wa_tg {w : Cond} (h : w ∈ lw_tbl) (hg : goodWord w = true) : w ∈ WA := List.mem_filter.mpr ⟨h, hg⟩
theorem wa_good : GoodIn WA WA := fun w h => ⟨h, good_of_word (List.mem_filter.mp h).2⟩
theorem wi_L : Cond.initialized RL ∈ WA := wa_tg (wa_t1 0 rfl) rfl
theorem wi_X5 : Cond.initialized RX5 ∈ WA := wa_tg (wa_t1 1 rfl) rfl
theorem wi_X4 : Cond.initialized RX4 ∈ WA := wa_tg (wa_t1 2 rfl) rfl
theorem wi_X2 : Cond.initialized RX2 ∈ WA := wa_tg (wa_t1 3 rfl) rfl
theorem wi_X3 : Cond.initialized RX3 ∈ WA := wa_tg (wa_t1 4 rfl) rfl
theorem wi_X1 : Cond.initialized RX1 ∈ WA := wa_tg (wa_t1 5 rfl) rfl
theorem wi_X6 : Cond.initialized RX6 ∈ WA := wa_tg (wa_t1 6 rfl) rfl
theorem wi_X0 : Cond.initialized RX0 ∈ WA := wa_tg (wa_t1 7 rfl) rfl
theorem wi_Math : Cond.initialized "java/lang/Math" ∈ WA := wa_tg (wa_t1 8 rfl) rfl
theorem wi_Long : Cond.initialized "java/lang/Long" ∈ WA := wa_tg (wa_t1 9 rfl) rfl
theorem wk_L_7 : Cond.classLink RL 7 RX5 ∈ WA := wa_tg (wa_t1 10 rfl) rfl
theorem wn_X5 : Cond.instantiable RX5 10 ∈ WA := wa_tg (wa_t1 11 rfl) rfl
theorem wl_L_9 : Cond.methodLink RL 9 yX5_init ∈ WA := wa_tg (wa_t1 12 rfl) rfl
theorem wv_X5_init : Cond.instanceMethod yX5_init ∈ WA := wa_tg (wa_t1 13 rfl) rfl
theorem wc_X5_init : Cond.code yX5_init cX5_init 2 none ∈ WA := wa_tg (wa_t1 14 rfl) rfl
theorem wl_X5_1 : Cond.methodLink RX5 1 ⟨"java/lang/Object", "<init>", "()V"⟩ ∈ WA := wa_tg (wa_t1 15 rfl) rfl
-- 16 (Jvm.Cond.instanceMethod ({ cls := "java/lang/Object", name := "<init>", desc := "()V" } : Jvm.MethodName))
-- 17 (Jvm.Cond.code ({ cls := "java/lang/Object", name := "<init>", desc := "()V" } : Jvm.MethodName) object_method_1_code (1 : Nat) (Option.none : Option Jvm.ClassFile.FieldType))
theorem wk_X5_7 : Cond.classLink RX5 7 RX4 ∈ WA := wa_tg (wa_t1 18 rfl) rfl
theorem wn_X4 : Cond.instantiable RX4 3 ∈ WA := wa_tg (wa_t1 19 rfl) rfl
theorem wv_X4_init : Cond.instanceMethod yX4_init ∈ WA := wa_tg (wa_t1 21 rfl) rfl
theorem wc_X4_init : Cond.code yX4_init cX4_init 1 none ∈ WA := wa_tg (wa_t1 22 rfl) rfl
theorem wl_X4_3 : Cond.methodLink RX4 3 ⟨"java/lang/Object", "<init>", "()V"⟩ ∈ WA := wa_tg (wa_t1 23 rfl) rfl
theorem wk_X4_19 : Cond.classLink RX4 19 RX0 ∈ WA := wa_tg (wa_t1 24 rfl) rfl
theorem wf0_X4_9 : Cond.fieldLink RX4 9 "RootRows$State" "settings" "[I" ∈ WA := wa_tg (wa_t1 26 rfl) rfl
theorem wf0_X4_15 : Cond.fieldLink RX4 15 "RootRows$State" "cells" "[J" ∈ WA := wa_tg (wa_t1 27 rfl) rfl
theorem wf0_X4_21 : Cond.fieldLink RX4 21 "RootRows$State" "formulas" "[LRootRows$Formula;" ∈ WA := wa_tg (wa_t1 28 rfl) rfl
theorem wa_int : Cond.arrayClass .int ∈ WA := wa_tg (wa_t1 36 rfl) rfl
theorem wa_long : Cond.arrayClass .long ∈ WA := wa_tg (wa_t1 37 rfl) rfl
theorem wk_X5_27 : Cond.classLink RX5 27 RX2 ∈ WA := wa_tg (wa_t1 39 rfl) rfl
theorem wn_X2 : Cond.instantiable RX2 6 ∈ WA := wa_tg (wa_t1 40 rfl) rfl
theorem wv_X2_init : Cond.instanceMethod yX2_init ∈ WA := wa_tg (wa_t1 42 rfl) rfl
theorem wc_X2_init : Cond.code yX2_init cX2_init 1 none ∈ WA := wa_tg (wa_t1 43 rfl) rfl
theorem wl_X2_3 : Cond.methodLink RX2 3 ⟨"java/lang/Object", "<init>", "()V"⟩ ∈ WA := wa_tg (wa_t1 44 rfl) rfl
theorem wf0_X2_9 : Cond.fieldLink RX2 9 "RootRows$Reader" "steps" "[I" ∈ WA := wa_tg (wa_t1 45 rfl) rfl
theorem wf0_X2_15 : Cond.fieldLink RX2 15 "RootRows$Reader" "waiting" "[C" ∈ WA := wa_tg (wa_t1 47 rfl) rfl
theorem wf0_X2_19 : Cond.fieldLink RX2 19 "RootRows$Reader" "size" "I" ∈ WA := wa_tg (wa_t1 48 rfl) rfl
theorem wf0_X2_23 : Cond.fieldLink RX2 23 "RootRows$Reader" "waits" "I" ∈ WA := wa_tg (wa_t1 50 rfl) rfl
theorem wf0_X2_26 : Cond.fieldLink RX2 26 "RootRows$Reader" "open" "I" ∈ WA := wa_tg (wa_t1 51 rfl) rfl
theorem wf0_X2_29 : Cond.fieldLink RX2 29 "RootRows$Reader" "next" "I" ∈ WA := wa_tg (wa_t1 52 rfl) rfl
theorem wa_char : Cond.arrayClass .char ∈ WA := wa_tg (wa_t1 66 rfl) rfl
theorem wk_X5_34 : Cond.classLink RX5 34 RX3 ∈ WA := wa_tg (wa_t1 67 rfl) rfl
theorem wn_X3 : Cond.instantiable RX3 5 ∈ WA := wa_tg (wa_t1 68 rfl) rfl
theorem wv_X3_init : Cond.instanceMethod yX3_init ∈ WA := wa_tg (wa_t1 70 rfl) rfl
theorem wc_X3_init : Cond.code yX3_init cX3_init 1 none ∈ WA := wa_tg (wa_t1 71 rfl) rfl
theorem wl_X3_3 : Cond.methodLink RX3 3 ⟨"java/lang/Object", "<init>", "()V"⟩ ∈ WA := wa_tg (wa_t1 72 rfl) rfl
theorem wf0_X3_9 : Cond.fieldLink RX3 9 "RootRows$Reckoner" "values" "[J" ∈ WA := wa_tg (wa_t1 73 rfl) rfl
theorem wf0_X3_15 : Cond.fieldLink RX3 15 "RootRows$Reckoner" "operands" "[J" ∈ WA := wa_tg (wa_t1 74 rfl) rfl
theorem wf0_X3_18 : Cond.fieldLink RX3 18 "RootRows$Reckoner" "height" "I" ∈ WA := wa_tg (wa_t1 75 rfl) rfl
theorem wf0_X3_22 : Cond.fieldLink RX3 22 "RootRows$Reckoner" "reached" "I" ∈ WA := wa_tg (wa_t1 76 rfl) rfl
theorem wf0_X3_25 : Cond.fieldLink RX3 25 "RootRows$Reckoner" "reason" "I" ∈ WA := wa_tg (wa_t1 78 rfl) rfl
theorem wk_X5_41 : Cond.classLink RX5 41 RX1 ∈ WA := wa_tg (wa_t1 91 rfl) rfl
theorem wn_X1 : Cond.instantiable RX1 9 ∈ WA := wa_tg (wa_t1 92 rfl) rfl
theorem wv_X1_init : Cond.instanceMethod yX1_init ∈ WA := wa_tg (wa_t1 94 rfl) rfl
theorem wc_X1_init : Cond.code yX1_init cX1_init 1 none ∈ WA := wa_tg (wa_t1 95 rfl) rfl
theorem wl_X1_3 : Cond.methodLink RX1 3 ⟨"java/lang/Object", "<init>", "()V"⟩ ∈ WA := wa_tg (wa_t1 96 rfl) rfl
theorem wf0_X1_9 : Cond.fieldLink RX1 9 "RootRows$Fraction" "number" "I" ∈ WA := wa_tg (wa_t1 97 rfl) rfl
theorem wf0_X1_19 : Cond.fieldLink RX1 19 "RootRows$Fraction" "whole" "I" ∈ WA := wa_tg (wa_t1 98 rfl) rfl
theorem wf0_X1_22 : Cond.fieldLink RX1 22 "RootRows$Fraction" "addend" "I" ∈ WA := wa_tg (wa_t1 99 rfl) rfl
theorem wf0_X1_25 : Cond.fieldLink RX1 25 "RootRows$Fraction" "divisor" "I" ∈ WA := wa_tg (wa_t1 100 rfl) rfl
theorem wf0_X1_28 : Cond.fieldLink RX1 28 "RootRows$Fraction" "quotient" "I" ∈ WA := wa_tg (wa_t1 102 rfl) rfl
theorem wf0_X1_31 : Cond.fieldLink RX1 31 "RootRows$Fraction" "upper" "J" ∈ WA := wa_tg (wa_t1 104 rfl) rfl
theorem wf0_X1_35 : Cond.fieldLink RX1 35 "RootRows$Fraction" "lower" "J" ∈ WA := wa_tg (wa_t1 106 rfl) rfl
theorem wf0_X1_38 : Cond.fieldLink RX1 38 "RootRows$Fraction" "upperBefore" "J" ∈ WA := wa_tg (wa_t1 108 rfl) rfl
theorem wf0_X1_41 : Cond.fieldLink RX1 41 "RootRows$Fraction" "lowerBefore" "J" ∈ WA := wa_tg (wa_t1 109 rfl) rfl
theorem wf0_X5_10 : Cond.fieldLink RX5 10 "RootRows" "now" "LRootRows$State;" ∈ WA := wa_tg (wa_t1 129 rfl) rfl
theorem wf0_X5_16 : Cond.fieldLink RX5 16 "RootRows" "history" "[LRootRows$State;" ∈ WA := wa_tg (wa_t1 130 rfl) rfl
theorem wf0_X5_20 : Cond.fieldLink RX5 20 "RootRows" "slots" "[LRootRows$State;" ∈ WA := wa_tg (wa_t1 131 rfl) rfl
theorem wf0_X5_23 : Cond.fieldLink RX5 23 "RootRows" "pad" "[C" ∈ WA := wa_tg (wa_t1 132 rfl) rfl
theorem wf0_X5_30 : Cond.fieldLink RX5 30 "RootRows" "reader" "LRootRows$Reader;" ∈ WA := wa_tg (wa_t1 133 rfl) rfl
theorem wf0_X5_37 : Cond.fieldLink RX5 37 "RootRows" "reckoner" "LRootRows$Reckoner;" ∈ WA := wa_tg (wa_t1 134 rfl) rfl
theorem wf0_X5_44 : Cond.fieldLink RX5 44 "RootRows" "fraction" "LRootRows$Fraction;" ∈ WA := wa_tg (wa_t1 135 rfl) rfl
theorem wf0_X5_87 : Cond.fieldLink RX5 87 "RootRows" "padLength" "I" ∈ WA := wa_tg (wa_t1 136 rfl) rfl
theorem wf0_X5_231 : Cond.fieldLink RX5 231 "RootRows" "oldest" "I" ∈ WA := wa_tg (wa_t1 137 rfl) rfl
theorem wf0_X5_155 : Cond.fieldLink RX5 155 "RootRows" "changes" "I" ∈ WA := wa_tg (wa_t1 138 rfl) rfl
theorem wl_L_13 : Cond.methodLink RL 13 yX5_set ∈ WA := wa_tg (wa_t1 160 rfl) rfl
theorem wv_X5_set : Cond.instanceMethod yX5_set ∈ WA := wa_tg (wa_t1 161 rfl) rfl
theorem we_X5_set : Cond.selects RX5 yX5_set yX5_set ∈ WA := wa_tg (wa_t1 162 rfl) rfl
theorem wc_X5_set : Cond.code yX5_set cX5_set 4 (some .int) ∈ WA := wa_tg (wa_t1 163 rfl) rfl
theorem wl_X5_48 : Cond.methodLink RX5 48 yX5_within ∈ WA := wa_tg (wa_t1 164 rfl) rfl
theorem ws_X5_within : Cond.static yX5_within ∈ WA := wa_tg (wa_t1 165 rfl) rfl
theorem wc_X5_within : Cond.code yX5_within cX5_within 6 (some .boolean) ∈ WA := wa_tg (wa_t1 166 rfl) rfl
theorem wq_X5_52 : Cond.constantLong RX5 52 (2) ∈ WA := wa_tg (wa_t1 167 rfl) rfl
theorem wq_X5_54 : Cond.constantLong RX5 54 (6) ∈ WA := wa_tg (wa_t1 168 rfl) rfl
theorem wl_X5_56 : Cond.methodLink RX5 56 yX5_keepState ∈ WA := wa_tg (wa_t1 169 rfl) rfl
theorem wv_X5_keepState : Cond.instanceMethod yX5_keepState ∈ WA := wa_tg (wa_t1 171 rfl) rfl
theorem wc_X5_keepState : Cond.code yX5_keepState cX5_keepState 2 none ∈ WA := wa_tg (wa_t1 172 rfl) rfl
theorem wl_X5_234 : Cond.methodLink RX5 234 yX5_stateIn ∈ WA := wa_tg (wa_t1 173 rfl) rfl
theorem ws_X5_stateIn : Cond.static yX5_stateIn ∈ WA := wa_tg (wa_t1 174 rfl) rfl
theorem wc_X5_stateIn : Cond.code yX5_stateIn cX5_stateIn 2 (some (.object "RootRows$State")) ∈ WA := wa_tg (wa_t1 175 rfl) rfl
theorem wv_X4_become : Cond.instanceMethod yX4_become ∈ WA := wa_tg (wa_t1 178 rfl) rfl
theorem wc_X4_become : Cond.code yX4_become cX4_become 3 none ∈ WA := wa_tg (wa_t1 179 rfl) rfl
theorem wl_X4_25 : Cond.methodLink RX4 25 yX4_setting ∈ WA := wa_tg (wa_t1 180 rfl) rfl
theorem wv_X4_setting : Cond.instanceMethod yX4_setting ∈ WA := wa_tg (wa_t1 182 rfl) rfl
theorem wc_X4_setting : Cond.code yX4_setting cX4_setting 2 (some .int) ∈ WA := wa_tg (wa_t1 183 rfl) rfl
theorem wl_X4_29 : Cond.methodLink RX4 29 yX4_cellValue ∈ WA := wa_tg (wa_t1 184 rfl) rfl
theorem wv_X4_cellValue : Cond.instanceMethod yX4_cellValue ∈ WA := wa_tg (wa_t1 186 rfl) rfl
theorem wc_X4_cellValue : Cond.code yX4_cellValue cX4_cellValue 2 (some .long) ∈ WA := wa_tg (wa_t1 187 rfl) rfl
theorem wl_X4_33 : Cond.methodLink RX4 33 yX4_formula ∈ WA := wa_tg (wa_t1 188 rfl) rfl
theorem wv_X4_formula : Cond.instanceMethod yX4_formula ∈ WA := wa_tg (wa_t1 190 rfl) rfl
theorem wc_X4_formula : Cond.code yX4_formula cX4_formula 2 (some (.object "RootRows$Formula")) ∈ WA := wa_tg (wa_t1 191 rfl) rfl
theorem wv_X4_changeSetting : Cond.instanceMethod yX4_changeSetting ∈ WA := wa_tg (wa_t1 195 rfl) rfl
theorem wc_X4_changeSetting : Cond.code yX4_changeSetting cX4_changeSetting 3 none ∈ WA := wa_tg (wa_t1 196 rfl) rfl
theorem wl_L_20 : Cond.methodLink RL 20 yX5_setCell ∈ WA := wa_tg (wa_t1 197 rfl) rfl
theorem wv_X5_setCell : Cond.instanceMethod yX5_setCell ∈ WA := wa_tg (wa_t1 198 rfl) rfl
theorem we_X5_setCell : Cond.selects RX5 yX5_setCell yX5_setCell ∈ WA := wa_tg (wa_t1 199 rfl) rfl
theorem wc_X5_setCell : Cond.code yX5_setCell cX5_setCell 6 (some .long) ∈ WA := wa_tg (wa_t1 200 rfl) rfl
theorem wq_X5_67 : Cond.constantLong RX5 67 (7) ∈ WA := wa_tg (wa_t1 201 rfl) rfl
theorem wq_X5_69 : Cond.constantLong RX5 69 (-1) ∈ WA := wa_tg (wa_t1 202 rfl) rfl
theorem wq_X5_71 : Cond.constantLong RX5 71 (1000000000000) ∈ WA := wa_tg (wa_t1 203 rfl) rfl
theorem wq_X5_73 : Cond.constantLong RX5 73 (-2) ∈ WA := wa_tg (wa_t1 204 rfl) rfl
theorem wv_X4_changeCell : Cond.instanceMethod yX4_changeCell ∈ WA := wa_tg (wa_t1 208 rfl) rfl
theorem wc_X4_changeCell : Cond.code yX4_changeCell cX4_changeCell 4 none ∈ WA := wa_tg (wa_t1 209 rfl) rfl
theorem wl_L_25 : Cond.methodLink RL 25 yX5_cell ∈ WA := wa_tg (wa_t1 210 rfl) rfl
theorem wv_X5_cell : Cond.instanceMethod yX5_cell ∈ WA := wa_tg (wa_t1 211 rfl) rfl
theorem we_X5_cell : Cond.selects RX5 yX5_cell yX5_cell ∈ WA := wa_tg (wa_t1 212 rfl) rfl
theorem wc_X5_cell : Cond.code yX5_cell cX5_cell 2 (some .long) ∈ WA := wa_tg (wa_t1 213 rfl) rfl
theorem wl_L_30 : Cond.methodLink RL 30 yX5_put ∈ WA := wa_tg (wa_t1 214 rfl) rfl
theorem wv_X5_put : Cond.instanceMethod yX5_put ∈ WA := wa_tg (wa_t1 215 rfl) rfl
theorem we_X5_put : Cond.selects RX5 yX5_put yX5_put ∈ WA := wa_tg (wa_t1 216 rfl) rfl
theorem wc_X5_put : Cond.code yX5_put cX5_put 5 (some .int) ∈ WA := wa_tg (wa_t1 217 rfl) rfl
theorem wl_X5_83 : Cond.methodLink RX5 83 yX5_sizeOf ∈ WA := wa_tg (wa_t1 218 rfl) rfl
theorem ws_X5_sizeOf : Cond.static yX5_sizeOf ∈ WA := wa_tg (wa_t1 219 rfl) rfl
theorem wc_X5_sizeOf : Cond.code yX5_sizeOf cX5_sizeOf 5 (some .int) ∈ WA := wa_tg (wa_t1 220 rfl) rfl
theorem wq_X5_91 : Cond.constantLong RX5 91 (255) ∈ WA := wa_tg (wa_t1 221 rfl) rfl
theorem wq_X5_242 : Cond.constantLong RX5 242 (33) ∈ WA := wa_tg (wa_t1 222 rfl) rfl
theorem wq_X5_244 : Cond.constantLong RX5 244 (126) ∈ WA := wa_tg (wa_t1 223 rfl) rfl
theorem wl_X5_93 : Cond.methodLink RX5 93 yX5_addToPad ∈ WA := wa_tg (wa_t1 224 rfl) rfl
theorem wv_X5_addToPad : Cond.instanceMethod yX5_addToPad ∈ WA := wa_tg (wa_t1 226 rfl) rfl
theorem wc_X5_addToPad : Cond.code yX5_addToPad cX5_addToPad 2 none ∈ WA := wa_tg (wa_t1 227 rfl) rfl
theorem wl_L_35 : Cond.methodLink RL 35 yX5_wipe ∈ WA := wa_tg (wa_t1 228 rfl) rfl
theorem wv_X5_wipe : Cond.instanceMethod yX5_wipe ∈ WA := wa_tg (wa_t1 229 rfl) rfl
theorem we_X5_wipe : Cond.selects RX5 yX5_wipe yX5_wipe ∈ WA := wa_tg (wa_t1 230 rfl) rfl
theorem wc_X5_wipe : Cond.code yX5_wipe cX5_wipe 2 (some .int) ∈ WA := wa_tg (wa_t1 231 rfl) rfl
theorem wl_L_40 : Cond.methodLink RL 40 yX5_fault ∈ WA := wa_tg (wa_t1 232 rfl) rfl
theorem wv_X5_fault : Cond.instanceMethod yX5_fault ∈ WA := wa_tg (wa_t1 233 rfl) rfl
theorem we_X5_fault : Cond.selects RX5 yX5_fault yX5_fault ∈ WA := wa_tg (wa_t1 234 rfl) rfl
theorem wc_X5_fault : Cond.code yX5_fault cX5_fault 1 (some .int) ∈ WA := wa_tg (wa_t1 235 rfl) rfl
theorem wv_X2_faultOf : Cond.instanceMethod yX2_faultOf ∈ WA := wa_tg (wa_t1 238 rfl) rfl
theorem wc_X2_faultOf : Cond.code yX2_faultOf cX2_faultOf 4 (some .int) ∈ WA := wa_tg (wa_t1 239 rfl) rfl
theorem wl_X2_32 : Cond.methodLink RX2 32 yX2_takes ∈ WA := wa_tg (wa_t2 0 rfl) rfl
theorem wv_X2_takes : Cond.instanceMethod yX2_takes ∈ WA := wa_tg (wa_t2 2 rfl) rfl
theorem wc_X2_takes : Cond.code yX2_takes cX2_takes 2 (some .boolean) ∈ WA := wa_tg (wa_t2 3 rfl) rfl
theorem wl_X2_40 : Cond.methodLink RX2 40 yX2_takesFactor ∈ WA := wa_tg (wa_t2 4 rfl) rfl
theorem wv_X2_takesFactor : Cond.instanceMethod yX2_takesFactor ∈ WA := wa_tg (wa_t2 6 rfl) rfl
theorem wc_X2_takesFactor : Cond.code yX2_takesFactor cX2_takesFactor 2 (some .boolean) ∈ WA := wa_tg (wa_t2 7 rfl) rfl
theorem wl_X2_43 : Cond.methodLink RX2 43 yX2_isDigit ∈ WA := wa_tg (wa_t2 8 rfl) rfl
theorem ws_X2_isDigit : Cond.static yX2_isDigit ∈ WA := wa_tg (wa_t2 9 rfl) rfl
theorem wc_X2_isDigit : Cond.code yX2_isDigit cX2_isDigit 1 (some .boolean) ∈ WA := wa_tg (wa_t2 10 rfl) rfl
theorem wl_X2_52 : Cond.methodLink RX2 52 yX2_addStep ∈ WA := wa_tg (wa_t2 11 rfl) rfl
theorem wv_X2_addStep : Cond.instanceMethod yX2_addStep ∈ WA := wa_tg (wa_t2 13 rfl) rfl
theorem wc_X2_addStep : Cond.code yX2_addStep cX2_addStep 2 none ∈ WA := wa_tg (wa_t2 14 rfl) rfl
theorem wq_X2_55 : Cond.constantLong RX2 55 (65) ∈ WA := wa_tg (wa_t2 15 rfl) rfl
theorem wq_X2_57 : Cond.constantLong RX2 57 (72) ∈ WA := wa_tg (wa_t2 16 rfl) rfl
theorem wl_X2_63 : Cond.methodLink RX2 63 yX2_push ∈ WA := wa_tg (wa_t2 18 rfl) rfl
theorem wv_X2_push : Cond.instanceMethod yX2_push ∈ WA := wa_tg (wa_t2 20 rfl) rfl
theorem wc_X2_push : Cond.code yX2_push cX2_push 2 none ∈ WA := wa_tg (wa_t2 21 rfl) rfl
theorem wl_X2_46 : Cond.methodLink RX2 46 yX2_takesDigit ∈ WA := wa_tg (wa_t2 22 rfl) rfl
theorem wv_X2_takesDigit : Cond.instanceMethod yX2_takesDigit ∈ WA := wa_tg (wa_t2 24 rfl) rfl
theorem wc_X2_takesDigit : Cond.code yX2_takesDigit cX2_takesDigit 4 (some .boolean) ∈ WA := wa_tg (wa_t2 25 rfl) rfl
theorem wl_X2_49 : Cond.methodLink RX2 49 yX2_takesBehind ∈ WA := wa_tg (wa_t2 26 rfl) rfl
theorem wv_X2_takesBehind : Cond.instanceMethod yX2_takesBehind ∈ WA := wa_tg (wa_t2 28 rfl) rfl
theorem wc_X2_takesBehind : Cond.code yX2_takesBehind cX2_takesBehind 3 (some .boolean) ∈ WA := wa_tg (wa_t2 29 rfl) rfl
theorem wl_X2_67 : Cond.methodLink RX2 67 yX2_closeBracket ∈ WA := wa_tg (wa_t2 30 rfl) rfl
theorem wv_X2_closeBracket : Cond.instanceMethod yX2_closeBracket ∈ WA := wa_tg (wa_t2 32 rfl) rfl
theorem wc_X2_closeBracket : Cond.code yX2_closeBracket cX2_closeBracket 2 none ∈ WA := wa_tg (wa_t2 33 rfl) rfl
theorem wl_X2_36 : Cond.methodLink RX2 36 yX2_release ∈ WA := wa_tg (wa_t2 34 rfl) rfl
theorem wv_X2_release : Cond.instanceMethod yX2_release ∈ WA := wa_tg (wa_t2 36 rfl) rfl
theorem wc_X2_release : Cond.code yX2_release cX2_release 2 none ∈ WA := wa_tg (wa_t2 37 rfl) rfl
theorem wl_X2_74 : Cond.methodLink RX2 74 yX2_top ∈ WA := wa_tg (wa_t2 38 rfl) rfl
theorem wv_X2_top : Cond.instanceMethod yX2_top ∈ WA := wa_tg (wa_t2 40 rfl) rfl
theorem wc_X2_top : Cond.code yX2_top cX2_top 2 (some .char) ∈ WA := wa_tg (wa_t2 41 rfl) rfl
theorem wl_X2_70 : Cond.methodLink RX2 70 yX2_strengthOf ∈ WA := wa_tg (wa_t2 42 rfl) rfl
theorem ws_X2_strengthOf : Cond.static yX2_strengthOf ∈ WA := wa_tg (wa_t2 43 rfl) rfl
theorem wc_X2_strengthOf : Cond.code yX2_strengthOf cX2_strengthOf 1 (some .int) ∈ WA := wa_tg (wa_t2 44 rfl) rfl
theorem wl_L_44 : Cond.methodLink RL 44 yX5_load ∈ WA := wa_tg (wa_t2 45 rfl) rfl
theorem wv_X5_load : Cond.instanceMethod yX5_load ∈ WA := wa_tg (wa_t2 46 rfl) rfl
theorem we_X5_load : Cond.selects RX5 yX5_load yX5_load ∈ WA := wa_tg (wa_t2 47 rfl) rfl
theorem wc_X5_load : Cond.code yX5_load cX5_load 3 (some .int) ∈ WA := wa_tg (wa_t2 48 rfl) rfl
theorem wq_X5_101 : Cond.constantLong RX5 101 (5) ∈ WA := wa_tg (wa_t2 49 rfl) rfl
theorem wk_X5_103 : Cond.classLink RX5 103 RX0 ∈ WA := wa_tg (wa_t2 50 rfl) rfl
theorem wn_X0 : Cond.instantiable RX0 1 ∈ WA := wa_tg (wa_t2 51 rfl) rfl
theorem wv_X0_init : Cond.instanceMethod yX0_init ∈ WA := wa_tg (wa_t2 53 rfl) rfl
theorem wc_X0_init : Cond.code yX0_init cX0_init 4 none ∈ WA := wa_tg (wa_t2 54 rfl) rfl
theorem wl_X0_3 : Cond.methodLink RX0 3 ⟨"java/lang/Object", "<init>", "()V"⟩ ∈ WA := wa_tg (wa_t2 55 rfl) rfl
theorem wl_X0_9 : Cond.methodLink RX0 9 ⟨"java/lang/Math", "max", "(II)I"⟩ ∈ WA := wa_tg (wa_t2 56 rfl) rfl
-- 297 (Jvm.Cond.static ({ cls := "java/lang/Math", name := "max", desc := "(II)I" } : Jvm.MethodName))
-- 298 (Jvm.Cond.code ({ cls := "java/lang/Math", name := "max", desc := "(II)I" } : Jvm.MethodName) prog_10_method_65_code (2 : Nat) (Option.some Jvm.ClassFile.FieldType.int))
theorem wf0_X0_15 : Cond.fieldLink RX0 15 "RootRows$Formula" "steps" "[I" ∈ WA := wa_tg (wa_t2 59 rfl) rfl
theorem wv_X4_changeFormula : Cond.instanceMethod yX4_changeFormula ∈ WA := wa_tg (wa_t2 67 rfl) rfl
theorem wc_X4_changeFormula : Cond.code yX4_changeFormula cX4_changeFormula 3 none ∈ WA := wa_tg (wa_t2 68 rfl) rfl
theorem wl_L_49 : Cond.methodLink RL 49 yX5_assign ∈ WA := wa_tg (wa_t2 69 rfl) rfl
theorem wv_X5_assign : Cond.instanceMethod yX5_assign ∈ WA := wa_tg (wa_t2 70 rfl) rfl
theorem we_X5_assign : Cond.selects RX5 yX5_assign yX5_assign ∈ WA := wa_tg (wa_t2 71 rfl) rfl
theorem wc_X5_assign : Cond.code yX5_assign cX5_assign 4 (some .long) ∈ WA := wa_tg (wa_t2 72 rfl) rfl
theorem wv_X3_reckon : Cond.instanceMethod yX3_reckon ∈ WA := wa_tg (wa_t2 76 rfl) rfl
theorem wc_X3_reckon : Cond.code yX3_reckon cX3_reckon 6 none ∈ WA := wa_tg (wa_t2 77 rfl) rfl
theorem wl_X3_34 : Cond.methodLink RX3 34 yX3_numberOf ∈ WA := wa_tg (wa_t2 78 rfl) rfl
theorem wv_X3_numberOf : Cond.instanceMethod yX3_numberOf ∈ WA := wa_tg (wa_t2 80 rfl) rfl
theorem wc_X3_numberOf : Cond.code yX3_numberOf cX3_numberOf 6 (some .long) ∈ WA := wa_tg (wa_t2 81 rfl) rfl
theorem wq_X3_44 : Cond.constantLong RX3 44 (7) ∈ WA := wa_tg (wa_t2 82 rfl) rfl
theorem wl_X3_56 : Cond.methodLink RX3 56 yX3_pop ∈ WA := wa_tg (wa_t2 85 rfl) rfl
theorem wv_X3_pop : Cond.instanceMethod yX3_pop ∈ WA := wa_tg (wa_t2 87 rfl) rfl
theorem wc_X3_pop : Cond.code yX3_pop cX3_pop 1 (some .long) ∈ WA := wa_tg (wa_t2 88 rfl) rfl
theorem ws_X5_rootRounded : Cond.static yX5_rootRounded ∈ WA := wa_tg (wa_t2 91 rfl) rfl
theorem wc_X5_rootRounded : Cond.code yX5_rootRounded cX5_rootRounded 9 (some .long) ∈ WA := wa_tg (wa_t2 92 rfl) rfl
theorem wl_X5_167 : Cond.methodLink RX5 167 yX5_rootDown ∈ WA := wa_tg (wa_t2 93 rfl) rfl
theorem ws_X5_rootDown : Cond.static yX5_rootDown ∈ WA := wa_tg (wa_t2 94 rfl) rfl
theorem wc_X5_rootDown : Cond.code yX5_rootDown cX5_rootDown 7 (some .long) ∈ WA := wa_tg (wa_t2 95 rfl) rfl
theorem wl_X5_250 : Cond.methodLink RX5 250 yX5_firstBit ∈ WA := wa_tg (wa_t2 96 rfl) rfl
theorem ws_X5_firstBit : Cond.static yX5_firstBit ∈ WA := wa_tg (wa_t2 97 rfl) rfl
theorem wc_X5_firstBit : Cond.code yX5_firstBit cX5_firstBit 5 (some .long) ∈ WA := wa_tg (wa_t2 98 rfl) rfl
theorem wq_X5_248 : Cond.constantLong RX5 248 (1073741824) ∈ WA := wa_tg (wa_t2 99 rfl) rfl
theorem wl_X5_171 : Cond.methodLink RX5 171 yX5_power ∈ WA := wa_tg (wa_t2 100 rfl) rfl
theorem ws_X5_power : Cond.static yX5_power ∈ WA := wa_tg (wa_t2 101 rfl) rfl
theorem wc_X5_power : Cond.code yX5_power cX5_power 3 (some .long) ∈ WA := wa_tg (wa_t2 102 rfl) rfl
theorem wq_X5_253 : Cond.constantLong RX5 253 (8) ∈ WA := wa_tg (wa_t2 103 rfl) rfl
theorem wl_X3_68 : Cond.methodLink RX3 68 yX3_product ∈ WA := wa_tg (wa_t2 104 rfl) rfl
theorem ws_X3_product : Cond.static yX3_product ∈ WA := wa_tg (wa_t2 105 rfl) rfl
theorem wc_X3_product : Cond.code yX3_product cX3_product 4 (some .long) ∈ WA := wa_tg (wa_t2 106 rfl) rfl
theorem wq_X3_38 : Cond.constantLong RX3 38 (1000000000000) ∈ WA := wa_tg (wa_t2 107 rfl) rfl
theorem wq_X3_72 : Cond.constantLong RX3 72 (1000000000001) ∈ WA := wa_tg (wa_t2 108 rfl) rfl
theorem wl_X3_40 : Cond.methodLink RX3 40 yX3_push ∈ WA := wa_tg (wa_t2 109 rfl) rfl
theorem wv_X3_push : Cond.instanceMethod yX3_push ∈ WA := wa_tg (wa_t2 111 rfl) rfl
theorem wc_X3_push : Cond.code yX3_push cX3_push 3 none ∈ WA := wa_tg (wa_t2 112 rfl) rfl
theorem wq_X5_131 : Cond.constantLong RX5 131 (-5) ∈ WA := wa_tg (wa_t2 113 rfl) rfl
theorem wv_X3_result : Cond.instanceMethod yX3_result ∈ WA := wa_tg (wa_t2 116 rfl) rfl
theorem wc_X3_result : Cond.code yX3_result cX3_result 1 (some .long) ∈ WA := wa_tg (wa_t2 117 rfl) rfl
theorem wl_X3_74 : Cond.methodLink RX3 74 yX3_valueOf ∈ WA := wa_tg (wa_t2 118 rfl) rfl
theorem wv_X3_valueOf : Cond.instanceMethod yX3_valueOf ∈ WA := wa_tg (wa_t2 120 rfl) rfl
theorem wc_X3_valueOf : Cond.code yX3_valueOf cX3_valueOf 2 (some .long) ∈ WA := wa_tg (wa_t2 121 rfl) rfl
theorem wl_L_54 : Cond.methodLink RL 54 yX5_settle ∈ WA := wa_tg (wa_t2 122 rfl) rfl
theorem wv_X5_settle : Cond.instanceMethod yX5_settle ∈ WA := wa_tg (wa_t2 123 rfl) rfl
theorem we_X5_settle : Cond.selects RX5 yX5_settle yX5_settle ∈ WA := wa_tg (wa_t2 124 rfl) rfl
theorem wc_X5_settle : Cond.code yX5_settle cX5_settle 6 (some .int) ∈ WA := wa_tg (wa_t2 125 rfl) rfl
theorem wq_X5_137 : Cond.constantLong RX5 137 (100) ∈ WA := wa_tg (wa_t2 126 rfl) rfl
theorem wl_L_59 : Cond.methodLink RL 59 yX5_value ∈ WA := wa_tg (wa_t2 127 rfl) rfl
theorem wv_X5_value : Cond.instanceMethod yX5_value ∈ WA := wa_tg (wa_t2 128 rfl) rfl
theorem we_X5_value : Cond.selects RX5 yX5_value yX5_value ∈ WA := wa_tg (wa_t2 129 rfl) rfl
theorem wc_X5_value : Cond.code yX5_value cX5_value 3 (some .long) ∈ WA := wa_tg (wa_t2 130 rfl) rfl
theorem wl_L_63 : Cond.methodLink RL 63 yX5_ofFormula ∈ WA := wa_tg (wa_t2 131 rfl) rfl
theorem wv_X5_ofFormula : Cond.instanceMethod yX5_ofFormula ∈ WA := wa_tg (wa_t2 132 rfl) rfl
theorem we_X5_ofFormula : Cond.selects RX5 yX5_ofFormula yX5_ofFormula ∈ WA := wa_tg (wa_t2 133 rfl) rfl
theorem wc_X5_ofFormula : Cond.code yX5_ofFormula cX5_ofFormula 4 (some .int) ∈ WA := wa_tg (wa_t2 134 rfl) rfl
theorem wv_X0_cellsNamed : Cond.instanceMethod yX0_cellsNamed ∈ WA := wa_tg (wa_t2 137 rfl) rfl
theorem wc_X0_cellsNamed : Cond.code yX0_cellsNamed cX0_cellsNamed 4 (some .int) ∈ WA := wa_tg (wa_t2 138 rfl) rfl
theorem wq_X0_21 : Cond.constantLong RX0 21 (7) ∈ WA := wa_tg (wa_t2 139 rfl) rfl
theorem wv_X0_rootsInside : Cond.instanceMethod yX0_rootsInside ∈ WA := wa_tg (wa_t2 143 rfl) rfl
theorem wc_X0_rootsInside : Cond.code yX0_rootsInside cX0_rootsInside 3 (some .int) ∈ WA := wa_tg (wa_t2 144 rfl) rfl
theorem wl_L_67 : Cond.methodLink RL 67 yX5_stepValue ∈ WA := wa_tg (wa_t2 145 rfl) rfl
theorem wv_X5_stepValue : Cond.instanceMethod yX5_stepValue ∈ WA := wa_tg (wa_t2 146 rfl) rfl
theorem we_X5_stepValue : Cond.selects RX5 yX5_stepValue yX5_stepValue ∈ WA := wa_tg (wa_t2 147 rfl) rfl
theorem wc_X5_stepValue : Cond.code yX5_stepValue cX5_stepValue 4 (some .long) ∈ WA := wa_tg (wa_t2 148 rfl) rfl
theorem wl_L_71 : Cond.methodLink RL 71 yX5_count ∈ WA := wa_tg (wa_t2 150 rfl) rfl
theorem wv_X5_count : Cond.instanceMethod yX5_count ∈ WA := wa_tg (wa_t2 151 rfl) rfl
theorem we_X5_count : Cond.selects RX5 yX5_count yX5_count ∈ WA := wa_tg (wa_t2 152 rfl) rfl
theorem wc_X5_count : Cond.code yX5_count cX5_count 2 (some .int) ∈ WA := wa_tg (wa_t2 153 rfl) rfl
theorem wv_X4_formulasThere : Cond.instanceMethod yX4_formulasThere ∈ WA := wa_tg (wa_t2 156 rfl) rfl
theorem wc_X4_formulasThere : Cond.code yX4_formulasThere cX4_formulasThere 3 (some .int) ∈ WA := wa_tg (wa_t2 157 rfl) rfl
theorem wv_X4_cellsNotZero : Cond.instanceMethod yX4_cellsNotZero ∈ WA := wa_tg (wa_t2 160 rfl) rfl
theorem wc_X4_cellsNotZero : Cond.code yX4_cellsNotZero cX4_cellsNotZero 3 (some .int) ∈ WA := wa_tg (wa_t2 161 rfl) rfl
theorem wl_L_75 : Cond.methodLink RL 75 yX5_root ∈ WA := wa_tg (wa_t2 162 rfl) rfl
theorem wv_X5_root : Cond.instanceMethod yX5_root ∈ WA := wa_tg (wa_t2 163 rfl) rfl
theorem we_X5_root : Cond.selects RX5 yX5_root yX5_root ∈ WA := wa_tg (wa_t2 164 rfl) rfl
theorem wc_X5_root : Cond.code yX5_root cX5_root 4 (some .int) ∈ WA := wa_tg (wa_t2 165 rfl) rfl
theorem wq_X5_161 : Cond.constantLong RX5 161 (3) ∈ WA := wa_tg (wa_t2 166 rfl) rfl
theorem wl_X5_163 : Cond.methodLink RX5 163 yX5_rootRounded ∈ WA := wa_tg (wa_t2 167 rfl) rfl
theorem wl_L_80 : Cond.methodLink RL 80 yX5_remainder ∈ WA := wa_tg (wa_t2 168 rfl) rfl
theorem wv_X5_remainder : Cond.instanceMethod yX5_remainder ∈ WA := wa_tg (wa_t2 169 rfl) rfl
theorem we_X5_remainder : Cond.selects RX5 yX5_remainder yX5_remainder ∈ WA := wa_tg (wa_t2 170 rfl) rfl
theorem wc_X5_remainder : Cond.code yX5_remainder cX5_remainder 4 (some .long) ∈ WA := wa_tg (wa_t2 171 rfl) rfl
theorem wl_L_85 : Cond.methodLink RL 85 yX5_bit ∈ WA := wa_tg (wa_t2 172 rfl) rfl
theorem wv_X5_bit : Cond.instanceMethod yX5_bit ∈ WA := wa_tg (wa_t2 173 rfl) rfl
theorem we_X5_bit : Cond.selects RX5 yX5_bit yX5_bit ∈ WA := wa_tg (wa_t2 174 rfl) rfl
theorem wc_X5_bit : Cond.code yX5_bit cX5_bit 6 (some .long) ∈ WA := wa_tg (wa_t2 175 rfl) rfl
theorem wl_X5_174 : Cond.methodLink RX5 174 yX5_bitsOfRoot ∈ WA := wa_tg (wa_t2 176 rfl) rfl
theorem ws_X5_bitsOfRoot : Cond.static yX5_bitsOfRoot ∈ WA := wa_tg (wa_t2 177 rfl) rfl
theorem wc_X5_bitsOfRoot : Cond.code yX5_bitsOfRoot cX5_bitsOfRoot 6 (some .int) ∈ WA := wa_tg (wa_t2 178 rfl) rfl
theorem wl_X5_178 : Cond.methodLink RX5 178 yX5_behindBit ∈ WA := wa_tg (wa_t2 179 rfl) rfl
theorem ws_X5_behindBit : Cond.static yX5_behindBit ∈ WA := wa_tg (wa_t2 180 rfl) rfl
theorem wc_X5_behindBit : Cond.code yX5_behindBit cX5_behindBit 11 (some .long) ∈ WA := wa_tg (wa_t2 181 rfl) rfl
theorem wq_X5_213 : Cond.constantLong RX5 213 (-6) ∈ WA := wa_tg (wa_t2 182 rfl) rfl
theorem wl_L_90 : Cond.methodLink RL 90 yX5_digits ∈ WA := wa_tg (wa_t2 183 rfl) rfl
theorem wv_X5_digits : Cond.instanceMethod yX5_digits ∈ WA := wa_tg (wa_t2 184 rfl) rfl
theorem we_X5_digits : Cond.selects RX5 yX5_digits yX5_digits ∈ WA := wa_tg (wa_t2 185 rfl) rfl
theorem wc_X5_digits : Cond.code yX5_digits cX5_digits 5 (some .int) ∈ WA := wa_tg (wa_t2 186 rfl) rfl
theorem wq_X5_182 : Cond.constantLong RX5 182 (1000000) ∈ WA := wa_tg (wa_t2 187 rfl) rfl
theorem wl_L_94 : Cond.methodLink RL 94 yX5_compare ∈ WA := wa_tg (wa_t2 188 rfl) rfl
theorem wv_X5_compare : Cond.instanceMethod yX5_compare ∈ WA := wa_tg (wa_t2 189 rfl) rfl
theorem we_X5_compare : Cond.selects RX5 yX5_compare yX5_compare ∈ WA := wa_tg (wa_t2 190 rfl) rfl
theorem wc_X5_compare : Cond.code yX5_compare cX5_compare 6 (some .int) ∈ WA := wa_tg (wa_t2 191 rfl) rfl
theorem wl_X5_184 : Cond.methodLink RX5 184 yX5_comparable ∈ WA := wa_tg (wa_t2 192 rfl) rfl
theorem ws_X5_comparable : Cond.static yX5_comparable ∈ WA := wa_tg (wa_t2 193 rfl) rfl
theorem wc_X5_comparable : Cond.code yX5_comparable cX5_comparable 1 (some .boolean) ∈ WA := wa_tg (wa_t2 194 rfl) rfl
theorem wq_X5_246 : Cond.constantLong RX5 246 (10000) ∈ WA := wa_tg (wa_t2 195 rfl) rfl
theorem wq_X5_188 : Cond.constantLong RX5 188 (4) ∈ WA := wa_tg (wa_t2 196 rfl) rfl
theorem wl_X5_190 : Cond.methodLink RX5 190 yX5_signOfRoots ∈ WA := wa_tg (wa_t2 197 rfl) rfl
theorem ws_X5_signOfRoots : Cond.static yX5_signOfRoots ∈ WA := wa_tg (wa_t2 198 rfl) rfl
theorem wc_X5_signOfRoots : Cond.code yX5_signOfRoots cX5_signOfRoots 6 (some .int) ∈ WA := wa_tg (wa_t2 199 rfl) rfl
theorem wl_X5_255 : Cond.methodLink RX5 255 yX5_signOfRootsAgainst ∈ WA := wa_tg (wa_t2 200 rfl) rfl
theorem ws_X5_signOfRootsAgainst : Cond.static yX5_signOfRootsAgainst ∈ WA := wa_tg (wa_t2 201 rfl) rfl
theorem wc_X5_signOfRootsAgainst : Cond.code yX5_signOfRootsAgainst cX5_signOfRootsAgainst 8 (some .int) ∈ WA := wa_tg (wa_t2 202 rfl) rfl
theorem wl_X5_258 : Cond.methodLink RX5 258 ⟨"java/lang/Long", "compare", "(JJ)I"⟩ ∈ WA := wa_tg (wa_t2 203 rfl) rfl
-- 444 (Jvm.Cond.static ({ cls := "java/lang/Long", name := "compare", desc := "(JJ)I" } : Jvm.MethodName))
-- 445 (Jvm.Cond.code ({ cls := "java/lang/Long", name := "compare", desc := "(JJ)I" } : Jvm.MethodName) prog_9_method_42_code (4 : Nat) (Option.some Jvm.ClassFile.FieldType.int))
theorem wl_L_99 : Cond.methodLink RL 99 yX5_period ∈ WA := wa_tg (wa_t2 206 rfl) rfl
theorem wv_X5_period : Cond.instanceMethod yX5_period ∈ WA := wa_tg (wa_t2 207 rfl) rfl
theorem we_X5_period : Cond.selects RX5 yX5_period yX5_period ∈ WA := wa_tg (wa_t2 208 rfl) rfl
theorem wc_X5_period : Cond.code yX5_period cX5_period 3 (some .int) ∈ WA := wa_tg (wa_t2 209 rfl) rfl
theorem wq_X5_194 : Cond.constantLong RX5 194 (100000) ∈ WA := wa_tg (wa_t2 210 rfl) rfl
theorem wv_X1_start : Cond.instanceMethod yX1_start ∈ WA := wa_tg (wa_t2 213 rfl) rfl
theorem wc_X1_start : Cond.code yX1_start cX1_start 2 none ∈ WA := wa_tg (wa_t2 214 rfl) rfl
theorem wq_X5_200 : Cond.constant RX5 200 (1000000) ∈ WA := wa_tg (wa_t2 216 rfl) rfl
theorem wv_X1_goesOn : Cond.instanceMethod yX1_goesOn ∈ WA := wa_tg (wa_t2 219 rfl) rfl
theorem wc_X1_goesOn : Cond.code yX1_goesOn cX1_goesOn 1 (some .boolean) ∈ WA := wa_tg (wa_t2 220 rfl) rfl
theorem wl_L_103 : Cond.methodLink RL 103 yX5_term ∈ WA := wa_tg (wa_t2 221 rfl) rfl
theorem wv_X5_term : Cond.instanceMethod yX5_term ∈ WA := wa_tg (wa_t2 222 rfl) rfl
theorem we_X5_term : Cond.selects RX5 yX5_term yX5_term ∈ WA := wa_tg (wa_t2 223 rfl) rfl
theorem wc_X5_term : Cond.code yX5_term cX5_term 4 (some .int) ∈ WA := wa_tg (wa_t2 224 rfl) rfl
theorem wq_X5_208 : Cond.constantLong RX5 208 (500) ∈ WA := wa_tg (wa_t2 225 rfl) rfl
theorem wl_L_107 : Cond.methodLink RL 107 yX5_convergent ∈ WA := wa_tg (wa_t2 226 rfl) rfl
theorem wv_X5_convergent : Cond.instanceMethod yX5_convergent ∈ WA := wa_tg (wa_t2 227 rfl) rfl
theorem we_X5_convergent : Cond.selects RX5 yX5_convergent yX5_convergent ∈ WA := wa_tg (wa_t2 228 rfl) rfl
theorem wc_X5_convergent : Cond.code yX5_convergent cX5_convergent 5 (some .long) ∈ WA := wa_tg (wa_t2 229 rfl) rfl
theorem wv_X1_extend : Cond.instanceMethod yX1_extend ∈ WA := wa_tg (wa_t2 232 rfl) rfl
theorem wc_X1_extend : Cond.code yX1_extend cX1_extend 5 none ∈ WA := wa_tg (wa_t2 233 rfl) rfl
theorem wl_L_112 : Cond.methodLink RL 112 yX5_twoSquares ∈ WA := wa_tg (wa_t2 234 rfl) rfl
theorem wv_X5_twoSquares : Cond.instanceMethod yX5_twoSquares ∈ WA := wa_tg (wa_t2 235 rfl) rfl
theorem we_X5_twoSquares : Cond.selects RX5 yX5_twoSquares yX5_twoSquares ∈ WA := wa_tg (wa_t2 236 rfl) rfl
theorem wc_X5_twoSquares : Cond.code yX5_twoSquares cX5_twoSquares 6 (some .int) ∈ WA := wa_tg (wa_t2 237 rfl) rfl
theorem wl_L_116 : Cond.methodLink RL 116 yX5_powers ∈ WA := wa_tg (wa_t2 238 rfl) rfl
theorem wv_X5_powers : Cond.instanceMethod yX5_powers ∈ WA := wa_tg (wa_t2 239 rfl) rfl
theorem we_X5_powers : Cond.selects RX5 yX5_powers yX5_powers ∈ WA := wa_tg (wa_t3 0 rfl) rfl
theorem wc_X5_powers : Cond.code yX5_powers cX5_powers 5 (some .int) ∈ WA := wa_tg (wa_t3 1 rfl) rfl
theorem wl_X5_225 : Cond.methodLink RX5 225 yX5_powersBelow ∈ WA := wa_tg (wa_t3 2 rfl) rfl
theorem ws_X5_powersBelow : Cond.static yX5_powersBelow ∈ WA := wa_tg (wa_t3 3 rfl) rfl
theorem wc_X5_powersBelow : Cond.code yX5_powersBelow cX5_powersBelow 4 (some .long) ∈ WA := wa_tg (wa_t3 4 rfl) rfl
theorem wl_L_121 : Cond.methodLink RL 121 yX5_rootSum ∈ WA := wa_tg (wa_t3 5 rfl) rfl
theorem wv_X5_rootSum : Cond.instanceMethod yX5_rootSum ∈ WA := wa_tg (wa_t3 6 rfl) rfl
theorem we_X5_rootSum : Cond.selects RX5 yX5_rootSum yX5_rootSum ∈ WA := wa_tg (wa_t3 7 rfl) rfl
theorem wc_X5_rootSum : Cond.code yX5_rootSum cX5_rootSum 6 (some .long) ∈ WA := wa_tg (wa_t3 8 rfl) rfl
theorem wq_X5_229 : Cond.constantLong RX5 229 (1000000000) ∈ WA := wa_tg (wa_t3 9 rfl) rfl
theorem wl_L_125 : Cond.methodLink RL 125 yX5_undo ∈ WA := wa_tg (wa_t3 10 rfl) rfl
theorem wv_X5_undo : Cond.instanceMethod yX5_undo ∈ WA := wa_tg (wa_t3 11 rfl) rfl
theorem we_X5_undo : Cond.selects RX5 yX5_undo yX5_undo ∈ WA := wa_tg (wa_t3 12 rfl) rfl
theorem wc_X5_undo : Cond.code yX5_undo cX5_undo 1 (some .int) ∈ WA := wa_tg (wa_t3 13 rfl) rfl
theorem wl_L_129 : Cond.methodLink RL 129 yX5_save ∈ WA := wa_tg (wa_t3 14 rfl) rfl
theorem wv_X5_save : Cond.instanceMethod yX5_save ∈ WA := wa_tg (wa_t3 15 rfl) rfl
theorem we_X5_save : Cond.selects RX5 yX5_save yX5_save ∈ WA := wa_tg (wa_t3 16 rfl) rfl
theorem wc_X5_save : Cond.code yX5_save cX5_save 2 (some .int) ∈ WA := wa_tg (wa_t3 17 rfl) rfl
theorem wl_L_133 : Cond.methodLink RL 133 yX5_restore ∈ WA := wa_tg (wa_t3 18 rfl) rfl
theorem wv_X5_restore : Cond.instanceMethod yX5_restore ∈ WA := wa_tg (wa_t3 19 rfl) rfl
theorem we_X5_restore : Cond.selects RX5 yX5_restore yX5_restore ∈ WA := wa_tg (wa_t3 20 rfl) rfl
theorem wc_X5_restore : Cond.code yX5_restore cX5_restore 3 (some .int) ∈ WA := wa_tg (wa_t3 21 rfl) rfl
theorem wk_L_10 : Cond.classLink RL 10 RX6 ∈ WA := wa_tg (wa_t3 22 rfl) rfl
theorem wn_X6 : Cond.instantiable RX6 25 ∈ WA := wa_tg (wa_t3 23 rfl) rfl
theorem wl_L_12 : Cond.methodLink RL 12 yX6_init ∈ WA := wa_tg (wa_t3 24 rfl) rfl
theorem wv_X6_init : Cond.instanceMethod yX6_init ∈ WA := wa_tg (wa_t3 25 rfl) rfl
theorem wc_X6_init : Cond.code yX6_init cX6_init 1 none ∈ WA := wa_tg (wa_t3 26 rfl) rfl
theorem wl_X6_1 : Cond.methodLink RX6 1 ⟨"java/lang/Object", "<init>", "()V"⟩ ∈ WA := wa_tg (wa_t3 27 rfl) rfl
theorem wf0_X6_7 : Cond.fieldLink RX6 7 "RootRowsModel" "now" "[I" ∈ WA := wa_tg (wa_t3 28 rfl) rfl
theorem wf0_X6_13 : Cond.fieldLink RX6 13 "RootRowsModel" "cells" "[J" ∈ WA := wa_tg (wa_t3 29 rfl) rfl
theorem wf0_X6_17 : Cond.fieldLink RX6 17 "RootRowsModel" "history" "[I" ∈ WA := wa_tg (wa_t3 30 rfl) rfl
theorem wf0_X6_20 : Cond.fieldLink RX6 20 "RootRowsModel" "historyCells" "[J" ∈ WA := wa_tg (wa_t3 31 rfl) rfl
theorem wf0_X6_53 : Cond.fieldLink RX6 53 "RootRowsModel" "undos" "I" ∈ WA := wa_tg (wa_t3 32 rfl) rfl
theorem wf0_X6_23 : Cond.fieldLink RX6 23 "RootRowsModel" "saved" "[I" ∈ WA := wa_tg (wa_t3 33 rfl) rfl
theorem wf0_X6_26 : Cond.fieldLink RX6 26 "RootRowsModel" "savedCells" "[J" ∈ WA := wa_tg (wa_t3 34 rfl) rfl
theorem wf0_X6_29 : Cond.fieldLink RX6 29 "RootRowsModel" "isSaved" "[Z" ∈ WA := wa_tg (wa_t3 35 rfl) rfl
theorem wf0_X6_33 : Cond.fieldLink RX6 33 "RootRowsModel" "pad" "[I" ∈ WA := wa_tg (wa_t3 36 rfl) rfl
theorem wf0_X6_74 : Cond.fieldLink RX6 74 "RootRowsModel" "signs" "I" ∈ WA := wa_tg (wa_t3 37 rfl) rfl
theorem wf0_X6_36 : Cond.fieldLink RX6 36 "RootRowsModel" "kind" "[I" ∈ WA := wa_tg (wa_t3 38 rfl) rfl
theorem wf0_X6_39 : Cond.fieldLink RX6 39 "RootRowsModel" "arg" "[I" ∈ WA := wa_tg (wa_t3 39 rfl) rfl
theorem wf0_X6_80 : Cond.fieldLink RX6 80 "RootRowsModel" "read" "I" ∈ WA := wa_tg (wa_t3 40 rfl) rfl
theorem wf0_X6_42 : Cond.fieldLink RX6 42 "RootRowsModel" "open" "[I" ∈ WA := wa_tg (wa_t3 41 rfl) rfl
theorem wf0_X6_83 : Cond.fieldLink RX6 83 "RootRowsModel" "opened" "I" ∈ WA := wa_tg (wa_t3 42 rfl) rfl
theorem wf0_X6_105 : Cond.fieldLink RX6 105 "RootRowsModel" "depth" "I" ∈ WA := wa_tg (wa_t3 43 rfl) rfl
theorem wf0_X6_77 : Cond.fieldLink RX6 77 "RootRowsModel" "place" "I" ∈ WA := wa_tg (wa_t3 44 rfl) rfl
theorem wf0_X6_45 : Cond.fieldLink RX6 45 "RootRowsModel" "values" "[J" ∈ WA := wa_tg (wa_t3 45 rfl) rfl
theorem wf0_X6_48 : Cond.fieldLink RX6 48 "RootRowsModel" "pile" "[J" ∈ WA := wa_tg (wa_t3 46 rfl) rfl
theorem wf0_X6_140 : Cond.fieldLink RX6 140 "RootRowsModel" "ends" "I" ∈ WA := wa_tg (wa_t3 47 rfl) rfl
theorem wf0_X6_143 : Cond.fieldLink RX6 143 "RootRowsModel" "reason" "I" ∈ WA := wa_tg (wa_t3 48 rfl) rfl
theorem wf0_X6_188 : Cond.fieldLink RX6 188 "RootRowsModel" "whole" "I" ∈ WA := wa_tg (wa_t3 49 rfl) rfl
theorem wf0_X6_191 : Cond.fieldLink RX6 191 "RootRowsModel" "term" "I" ∈ WA := wa_tg (wa_t3 50 rfl) rfl
theorem wf0_X6_194 : Cond.fieldLink RX6 194 "RootRowsModel" "m" "I" ∈ WA := wa_tg (wa_t3 51 rfl) rfl
theorem wf0_X6_197 : Cond.fieldLink RX6 197 "RootRowsModel" "d" "I" ∈ WA := wa_tg (wa_t3 52 rfl) rfl
theorem wa_boolean : Cond.arrayClass .boolean ∈ WA := wa_tg (wa_t3 104 rfl) rfl
theorem wl_L_17 : Cond.methodLink RL 17 yX6_set ∈ WA := wa_tg (wa_t3 105 rfl) rfl
theorem wv_X6_set : Cond.instanceMethod yX6_set ∈ WA := wa_tg (wa_t3 106 rfl) rfl
theorem we_X6_set : Cond.selects RX6 yX6_set yX6_set ∈ WA := wa_tg (wa_t3 107 rfl) rfl
theorem wc_X6_set : Cond.code yX6_set cX6_set 4 (some .int) ∈ WA := wa_tg (wa_t3 108 rfl) rfl
theorem wl_X6_57 : Cond.methodLink RX6 57 yX6_in ∈ WA := wa_tg (wa_t3 109 rfl) rfl
theorem ws_X6_in : Cond.static yX6_in ∈ WA := wa_tg (wa_t3 110 rfl) rfl
theorem wc_X6_in : Cond.code yX6_in cX6_in 3 (some .boolean) ∈ WA := wa_tg (wa_t3 111 rfl) rfl
theorem wl_X6_61 : Cond.methodLink RX6 61 yX6_record ∈ WA := wa_tg (wa_t3 112 rfl) rfl
theorem wv_X6_record : Cond.instanceMethod yX6_record ∈ WA := wa_tg (wa_t3 114 rfl) rfl
theorem wc_X6_record : Cond.code yX6_record cX6_record 2 none ∈ WA := wa_tg (wa_t3 115 rfl) rfl
theorem wl_L_24 : Cond.methodLink RL 24 yX6_setCell ∈ WA := wa_tg (wa_t3 116 rfl) rfl
theorem wv_X6_setCell : Cond.instanceMethod yX6_setCell ∈ WA := wa_tg (wa_t3 117 rfl) rfl
theorem we_X6_setCell : Cond.selects RX6 yX6_setCell yX6_setCell ∈ WA := wa_tg (wa_t3 118 rfl) rfl
theorem wc_X6_setCell : Cond.code yX6_setCell cX6_setCell 6 (some .long) ∈ WA := wa_tg (wa_t3 119 rfl) rfl
theorem wq_X6_64 : Cond.constantLong RX6 64 (-1) ∈ WA := wa_tg (wa_t3 120 rfl) rfl
theorem wl_X6_66 : Cond.methodLink RX6 66 yX6_isValue ∈ WA := wa_tg (wa_t3 121 rfl) rfl
theorem ws_X6_isValue : Cond.static yX6_isValue ∈ WA := wa_tg (wa_t3 122 rfl) rfl
theorem wc_X6_isValue : Cond.code yX6_isValue cX6_isValue 2 (some .boolean) ∈ WA := wa_tg (wa_t3 123 rfl) rfl
theorem wq_X6_51 : Cond.constantLong RX6 51 (1000000000000) ∈ WA := wa_tg (wa_t3 124 rfl) rfl
theorem wq_X6_70 : Cond.constantLong RX6 70 (-2) ∈ WA := wa_tg (wa_t3 125 rfl) rfl
theorem wl_L_29 : Cond.methodLink RL 29 yX6_cell ∈ WA := wa_tg (wa_t3 126 rfl) rfl
theorem wv_X6_cell : Cond.instanceMethod yX6_cell ∈ WA := wa_tg (wa_t3 127 rfl) rfl
theorem we_X6_cell : Cond.selects RX6 yX6_cell yX6_cell ∈ WA := wa_tg (wa_t3 128 rfl) rfl
theorem wc_X6_cell : Cond.code yX6_cell cX6_cell 2 (some .long) ∈ WA := wa_tg (wa_t3 129 rfl) rfl
theorem wl_L_34 : Cond.methodLink RL 34 yX6_put ∈ WA := wa_tg (wa_t3 130 rfl) rfl
theorem wv_X6_put : Cond.instanceMethod yX6_put ∈ WA := wa_tg (wa_t3 131 rfl) rfl
theorem we_X6_put : Cond.selects RX6 yX6_put yX6_put ∈ WA := wa_tg (wa_t3 132 rfl) rfl
theorem wc_X6_put : Cond.code yX6_put cX6_put 7 (some .int) ∈ WA := wa_tg (wa_t3 133 rfl) rfl
theorem wq_X6_72 : Cond.constantLong RX6 72 (255) ∈ WA := wa_tg (wa_t3 134 rfl) rfl
theorem wl_L_39 : Cond.methodLink RL 39 yX6_wipe ∈ WA := wa_tg (wa_t3 135 rfl) rfl
theorem wv_X6_wipe : Cond.instanceMethod yX6_wipe ∈ WA := wa_tg (wa_t3 136 rfl) rfl
theorem we_X6_wipe : Cond.selects RX6 yX6_wipe yX6_wipe ∈ WA := wa_tg (wa_t3 137 rfl) rfl
theorem wc_X6_wipe : Cond.code yX6_wipe cX6_wipe 2 (some .int) ∈ WA := wa_tg (wa_t3 138 rfl) rfl
theorem wl_L_43 : Cond.methodLink RL 43 yX6_fault ∈ WA := wa_tg (wa_t3 139 rfl) rfl
theorem wv_X6_fault : Cond.instanceMethod yX6_fault ∈ WA := wa_tg (wa_t3 140 rfl) rfl
theorem we_X6_fault : Cond.selects RX6 yX6_fault yX6_fault ∈ WA := wa_tg (wa_t3 141 rfl) rfl
theorem wc_X6_fault : Cond.code yX6_fault cX6_fault 1 (some .int) ∈ WA := wa_tg (wa_t3 142 rfl) rfl
theorem wl_X6_121 : Cond.methodLink RX6 121 yX6_readPad ∈ WA := wa_tg (wa_t3 143 rfl) rfl
theorem wv_X6_readPad : Cond.instanceMethod yX6_readPad ∈ WA := wa_tg (wa_t3 145 rfl) rfl
theorem wc_X6_readPad : Cond.code yX6_readPad cX6_readPad 4 (some .int) ∈ WA := wa_tg (wa_t3 146 rfl) rfl
theorem wl_X6_111 : Cond.methodLink RX6 111 yX6_readOperand ∈ WA := wa_tg (wa_t3 147 rfl) rfl
theorem wv_X6_readOperand : Cond.instanceMethod yX6_readOperand ∈ WA := wa_tg (wa_t3 149 rfl) rfl
theorem wc_X6_readOperand : Cond.code yX6_readOperand cX6_readOperand 2 (some .boolean) ∈ WA := wa_tg (wa_t3 150 rfl) rfl
theorem wl_X6_94 : Cond.methodLink RX6 94 yX6_sign ∈ WA := wa_tg (wa_t3 151 rfl) rfl
theorem wv_X6_sign : Cond.instanceMethod yX6_sign ∈ WA := wa_tg (wa_t3 153 rfl) rfl
theorem wc_X6_sign : Cond.code yX6_sign cX6_sign 1 (some .int) ∈ WA := wa_tg (wa_t3 154 rfl) rfl
theorem wl_X6_98 : Cond.methodLink RX6 98 yX6_readNumber ∈ WA := wa_tg (wa_t3 155 rfl) rfl
theorem wv_X6_readNumber : Cond.instanceMethod yX6_readNumber ∈ WA := wa_tg (wa_t3 157 rfl) rfl
theorem wc_X6_readNumber : Cond.code yX6_readNumber cX6_readNumber 2 none ∈ WA := wa_tg (wa_t3 158 rfl) rfl
theorem wl_X6_90 : Cond.methodLink RX6 90 yX6_emit ∈ WA := wa_tg (wa_t3 159 rfl) rfl
theorem wv_X6_emit : Cond.instanceMethod yX6_emit ∈ WA := wa_tg (wa_t3 161 rfl) rfl
theorem wc_X6_emit : Cond.code yX6_emit cX6_emit 3 none ∈ WA := wa_tg (wa_t3 162 rfl) rfl
theorem wl_X6_115 : Cond.methodLink RX6 115 yX6_readOpening ∈ WA := wa_tg (wa_t3 163 rfl) rfl
theorem wv_X6_readOpening : Cond.instanceMethod yX6_readOpening ∈ WA := wa_tg (wa_t3 165 rfl) rfl
theorem wc_X6_readOpening : Cond.code yX6_readOpening cX6_readOpening 2 (some .boolean) ∈ WA := wa_tg (wa_t3 166 rfl) rfl
theorem wl_X6_101 : Cond.methodLink RX6 101 yX6_push ∈ WA := wa_tg (wa_t3 167 rfl) rfl
theorem wv_X6_push : Cond.instanceMethod yX6_push ∈ WA := wa_tg (wa_t3 169 rfl) rfl
theorem wc_X6_push : Cond.code yX6_push cX6_push 2 none ∈ WA := wa_tg (wa_t3 170 rfl) rfl
theorem wl_X6_118 : Cond.methodLink RX6 118 yX6_readBehind ∈ WA := wa_tg (wa_t3 171 rfl) rfl
theorem wv_X6_readBehind : Cond.instanceMethod yX6_readBehind ∈ WA := wa_tg (wa_t3 173 rfl) rfl
theorem wc_X6_readBehind : Cond.code yX6_readBehind cX6_readBehind 2 (some .boolean) ∈ WA := wa_tg (wa_t3 174 rfl) rfl
theorem wl_X6_108 : Cond.methodLink RX6 108 yX6_close ∈ WA := wa_tg (wa_t3 175 rfl) rfl
theorem wv_X6_close : Cond.instanceMethod yX6_close ∈ WA := wa_tg (wa_t3 177 rfl) rfl
theorem wc_X6_close : Cond.code yX6_close cX6_close 2 none ∈ WA := wa_tg (wa_t3 178 rfl) rfl
theorem wl_X6_86 : Cond.methodLink RX6 86 yX6_binds ∈ WA := wa_tg (wa_t3 179 rfl) rfl
theorem wv_X6_binds : Cond.instanceMethod yX6_binds ∈ WA := wa_tg (wa_t3 181 rfl) rfl
theorem wc_X6_binds : Cond.code yX6_binds cX6_binds 3 (some .boolean) ∈ WA := wa_tg (wa_t3 182 rfl) rfl
theorem wl_L_48 : Cond.methodLink RL 48 yX6_load ∈ WA := wa_tg (wa_t3 183 rfl) rfl
theorem wv_X6_load : Cond.instanceMethod yX6_load ∈ WA := wa_tg (wa_t3 184 rfl) rfl
theorem we_X6_load : Cond.selects RX6 yX6_load yX6_load ∈ WA := wa_tg (wa_t3 185 rfl) rfl
theorem wc_X6_load : Cond.code yX6_load cX6_load 3 (some .int) ∈ WA := wa_tg (wa_t3 186 rfl) rfl
theorem wl_L_53 : Cond.methodLink RL 53 yX6_assign ∈ WA := wa_tg (wa_t3 187 rfl) rfl
theorem wv_X6_assign : Cond.instanceMethod yX6_assign ∈ WA := wa_tg (wa_t3 188 rfl) rfl
theorem we_X6_assign : Cond.selects RX6 yX6_assign yX6_assign ∈ WA := wa_tg (wa_t3 189 rfl) rfl
theorem wc_X6_assign : Cond.code yX6_assign cX6_assign 3 (some .long) ∈ WA := wa_tg (wa_t3 190 rfl) rfl
theorem wl_X6_153 : Cond.methodLink RX6 153 yX6_isFormula ∈ WA := wa_tg (wa_t3 191 rfl) rfl
theorem wv_X6_isFormula : Cond.instanceMethod yX6_isFormula ∈ WA := wa_tg (wa_t3 193 rfl) rfl
theorem wc_X6_isFormula : Cond.code yX6_isFormula cX6_isFormula 2 (some .boolean) ∈ WA := wa_tg (wa_t3 194 rfl) rfl
theorem wl_X6_156 : Cond.methodLink RX6 156 yX6_reckon ∈ WA := wa_tg (wa_t3 195 rfl) rfl
theorem wv_X6_reckon : Cond.instanceMethod yX6_reckon ∈ WA := wa_tg (wa_t3 197 rfl) rfl
theorem wc_X6_reckon : Cond.code yX6_reckon cX6_reckon 12 (some .boolean) ∈ WA := wa_tg (wa_t3 198 rfl) rfl
theorem wl_X6_146 : Cond.methodLink RX6 146 yX6_times ∈ WA := wa_tg (wa_t3 199 rfl) rfl
theorem ws_X6_times : Cond.static yX6_times ∈ WA := wa_tg (wa_t3 200 rfl) rfl
theorem wc_X6_times : Cond.code yX6_times cX6_times 4 (some .long) ∈ WA := wa_tg (wa_t3 201 rfl) rfl
theorem wq_X6_138 : Cond.constantLong RX6 138 (1000000000001) ∈ WA := wa_tg (wa_t3 202 rfl) rfl
theorem wl_X6_150 : Cond.methodLink RX6 150 yX6_rounded ∈ WA := wa_tg (wa_t3 203 rfl) rfl
theorem wv_X6_rounded : Cond.instanceMethod yX6_rounded ∈ WA := wa_tg (wa_t3 205 rfl) rfl
theorem wc_X6_rounded : Cond.code yX6_rounded cX6_rounded 10 (some .long) ∈ WA := wa_tg (wa_t3 206 rfl) rfl
theorem wl_X6_133 : Cond.methodLink RX6 133 yX6_floorRoot ∈ WA := wa_tg (wa_t3 207 rfl) rfl
theorem ws_X6_floorRoot : Cond.static yX6_floorRoot ∈ WA := wa_tg (wa_t3 208 rfl) rfl
theorem wc_X6_floorRoot : Cond.code yX6_floorRoot cX6_floorRoot 7 (some .long) ∈ WA := wa_tg (wa_t3 209 rfl) rfl
theorem wl_X6_130 : Cond.methodLink RX6 130 yX6_firstBit ∈ WA := wa_tg (wa_t3 210 rfl) rfl
theorem ws_X6_firstBit : Cond.static yX6_firstBit ∈ WA := wa_tg (wa_t3 211 rfl) rfl
theorem wc_X6_firstBit : Cond.code yX6_firstBit cX6_firstBit 5 (some .long) ∈ WA := wa_tg (wa_t3 212 rfl) rfl
theorem wq_X6_124 : Cond.constantLong RX6 124 (2) ∈ WA := wa_tg (wa_t3 213 rfl) rfl
theorem wl_X6_126 : Cond.methodLink RX6 126 yX6_power ∈ WA := wa_tg (wa_t3 214 rfl) rfl
theorem ws_X6_power : Cond.static yX6_power ∈ WA := wa_tg (wa_t3 215 rfl) rfl
theorem wc_X6_power : Cond.code yX6_power cX6_power 3 (some .long) ∈ WA := wa_tg (wa_t3 216 rfl) rfl
theorem wq_X6_136 : Cond.constantLong RX6 136 (8) ∈ WA := wa_tg (wa_t3 217 rfl) rfl
theorem wq_X6_159 : Cond.constantLong RX6 159 (-5) ∈ WA := wa_tg (wa_t3 218 rfl) rfl
theorem wl_L_58 : Cond.methodLink RL 58 yX6_settle ∈ WA := wa_tg (wa_t3 219 rfl) rfl
theorem wv_X6_settle : Cond.instanceMethod yX6_settle ∈ WA := wa_tg (wa_t3 220 rfl) rfl
theorem we_X6_settle : Cond.selects RX6 yX6_settle yX6_settle ∈ WA := wa_tg (wa_t3 221 rfl) rfl
theorem wc_X6_settle : Cond.code yX6_settle cX6_settle 6 (some .int) ∈ WA := wa_tg (wa_t3 222 rfl) rfl
theorem wl_L_62 : Cond.methodLink RL 62 yX6_value ∈ WA := wa_tg (wa_t3 223 rfl) rfl
theorem wv_X6_value : Cond.instanceMethod yX6_value ∈ WA := wa_tg (wa_t3 224 rfl) rfl
theorem we_X6_value : Cond.selects RX6 yX6_value yX6_value ∈ WA := wa_tg (wa_t3 225 rfl) rfl
theorem wc_X6_value : Cond.code yX6_value cX6_value 2 (some .long) ∈ WA := wa_tg (wa_t3 226 rfl) rfl
theorem wl_L_66 : Cond.methodLink RL 66 yX6_ofFormula ∈ WA := wa_tg (wa_t3 227 rfl) rfl
theorem wv_X6_ofFormula : Cond.instanceMethod yX6_ofFormula ∈ WA := wa_tg (wa_t3 228 rfl) rfl
theorem we_X6_ofFormula : Cond.selects RX6 yX6_ofFormula yX6_ofFormula ∈ WA := wa_tg (wa_t3 229 rfl) rfl
theorem wc_X6_ofFormula : Cond.code yX6_ofFormula cX6_ofFormula 3 (some .int) ∈ WA := wa_tg (wa_t3 230 rfl) rfl
theorem wl_X6_161 : Cond.methodLink RX6 161 yX6_cellsOf ∈ WA := wa_tg (wa_t3 231 rfl) rfl
theorem wv_X6_cellsOf : Cond.instanceMethod yX6_cellsOf ∈ WA := wa_tg (wa_t3 233 rfl) rfl
theorem wc_X6_cellsOf : Cond.code yX6_cellsOf cX6_cellsOf 5 (some .int) ∈ WA := wa_tg (wa_t3 234 rfl) rfl
theorem wl_X6_165 : Cond.methodLink RX6 165 yX6_rootsOf ∈ WA := wa_tg (wa_t3 235 rfl) rfl
theorem wv_X6_rootsOf : Cond.instanceMethod yX6_rootsOf ∈ WA := wa_tg (wa_t3 237 rfl) rfl
theorem wc_X6_rootsOf : Cond.code yX6_rootsOf cX6_rootsOf 5 (some .int) ∈ WA := wa_tg (wa_t3 238 rfl) rfl
theorem wl_L_70 : Cond.methodLink RL 70 yX6_stepValue ∈ WA := wa_tg (wa_t3 239 rfl) rfl
theorem wv_X6_stepValue : Cond.instanceMethod yX6_stepValue ∈ WA := wa_tg (wa_t4 0 rfl) rfl
theorem we_X6_stepValue : Cond.selects RX6 yX6_stepValue yX6_stepValue ∈ WA := wa_tg (wa_t4 1 rfl) rfl
theorem wc_X6_stepValue : Cond.code yX6_stepValue cX6_stepValue 3 (some .long) ∈ WA := wa_tg (wa_t4 2 rfl) rfl
theorem wl_L_74 : Cond.methodLink RL 74 yX6_count ∈ WA := wa_tg (wa_t4 3 rfl) rfl
theorem wv_X6_count : Cond.instanceMethod yX6_count ∈ WA := wa_tg (wa_t4 4 rfl) rfl
theorem we_X6_count : Cond.selects RX6 yX6_count yX6_count ∈ WA := wa_tg (wa_t4 5 rfl) rfl
theorem wc_X6_count : Cond.code yX6_count cX6_count 4 (some .int) ∈ WA := wa_tg (wa_t4 6 rfl) rfl
theorem wl_X6_168 : Cond.methodLink RX6 168 yX6_formulas ∈ WA := wa_tg (wa_t4 7 rfl) rfl
theorem wv_X6_formulas : Cond.instanceMethod yX6_formulas ∈ WA := wa_tg (wa_t4 9 rfl) rfl
theorem wc_X6_formulas : Cond.code yX6_formulas cX6_formulas 3 (some .int) ∈ WA := wa_tg (wa_t4 10 rfl) rfl
theorem wl_L_79 : Cond.methodLink RL 79 yX6_root ∈ WA := wa_tg (wa_t4 11 rfl) rfl
theorem wv_X6_root : Cond.instanceMethod yX6_root ∈ WA := wa_tg (wa_t4 12 rfl) rfl
theorem we_X6_root : Cond.selects RX6 yX6_root yX6_root ∈ WA := wa_tg (wa_t4 13 rfl) rfl
theorem wc_X6_root : Cond.code yX6_root cX6_root 4 (some .int) ∈ WA := wa_tg (wa_t4 14 rfl) rfl
theorem wl_X6_171 : Cond.methodLink RX6 171 yX6_isAsked ∈ WA := wa_tg (wa_t4 15 rfl) rfl
theorem ws_X6_isAsked : Cond.static yX6_isAsked ∈ WA := wa_tg (wa_t4 16 rfl) rfl
theorem wc_X6_isAsked : Cond.code yX6_isAsked cX6_isAsked 3 (some .boolean) ∈ WA := wa_tg (wa_t4 17 rfl) rfl
theorem wl_L_84 : Cond.methodLink RL 84 yX6_remainder ∈ WA := wa_tg (wa_t4 18 rfl) rfl
theorem wv_X6_remainder : Cond.instanceMethod yX6_remainder ∈ WA := wa_tg (wa_t4 19 rfl) rfl
theorem we_X6_remainder : Cond.selects RX6 yX6_remainder yX6_remainder ∈ WA := wa_tg (wa_t4 20 rfl) rfl
theorem wc_X6_remainder : Cond.code yX6_remainder cX6_remainder 4 (some .long) ∈ WA := wa_tg (wa_t4 21 rfl) rfl
theorem wl_L_89 : Cond.methodLink RL 89 yX6_bit ∈ WA := wa_tg (wa_t4 22 rfl) rfl
theorem wv_X6_bit : Cond.instanceMethod yX6_bit ∈ WA := wa_tg (wa_t4 23 rfl) rfl
theorem we_X6_bit : Cond.selects RX6 yX6_bit yX6_bit ∈ WA := wa_tg (wa_t4 24 rfl) rfl
theorem wc_X6_bit : Cond.code yX6_bit cX6_bit 12 (some .long) ∈ WA := wa_tg (wa_t4 25 rfl) rfl
theorem wq_X6_175 : Cond.constantLong RX6 175 (-6) ∈ WA := wa_tg (wa_t4 26 rfl) rfl
theorem wl_L_93 : Cond.methodLink RL 93 yX6_digits ∈ WA := wa_tg (wa_t4 27 rfl) rfl
theorem wv_X6_digits : Cond.instanceMethod yX6_digits ∈ WA := wa_tg (wa_t4 28 rfl) rfl
theorem we_X6_digits : Cond.selects RX6 yX6_digits yX6_digits ∈ WA := wa_tg (wa_t4 29 rfl) rfl
theorem wc_X6_digits : Cond.code yX6_digits cX6_digits 5 (some .int) ∈ WA := wa_tg (wa_t4 30 rfl) rfl
theorem wq_X6_177 : Cond.constant RX6 177 (1000000) ∈ WA := wa_tg (wa_t4 31 rfl) rfl
theorem wq_X6_178 : Cond.constantLong RX6 178 (100) ∈ WA := wa_tg (wa_t4 32 rfl) rfl
theorem wl_L_98 : Cond.methodLink RL 98 yX6_compare ∈ WA := wa_tg (wa_t4 33 rfl) rfl
theorem wv_X6_compare : Cond.instanceMethod yX6_compare ∈ WA := wa_tg (wa_t4 34 rfl) rfl
theorem we_X6_compare : Cond.selects RX6 yX6_compare yX6_compare ∈ WA := wa_tg (wa_t4 35 rfl) rfl
theorem wc_X6_compare : Cond.code yX6_compare cX6_compare 12 (some .int) ∈ WA := wa_tg (wa_t4 36 rfl) rfl
theorem wl_X6_184 : Cond.methodLink RX6 184 yX6_side ∈ WA := wa_tg (wa_t4 37 rfl) rfl
theorem ws_X6_side : Cond.static yX6_side ∈ WA := wa_tg (wa_t4 38 rfl) rfl
theorem wc_X6_side : Cond.code yX6_side cX6_side 12 (some .int) ∈ WA := wa_tg (wa_t4 39 rfl) rfl
theorem wq_X6_180 : Cond.constantLong RX6 180 (4) ∈ WA := wa_tg (wa_t4 40 rfl) rfl
theorem wq_X6_182 : Cond.constantLong RX6 182 (16) ∈ WA := wa_tg (wa_t4 41 rfl) rfl
theorem wl_L_102 : Cond.methodLink RL 102 yX6_period ∈ WA := wa_tg (wa_t4 42 rfl) rfl
theorem wv_X6_period : Cond.instanceMethod yX6_period ∈ WA := wa_tg (wa_t4 43 rfl) rfl
theorem we_X6_period : Cond.selects RX6 yX6_period yX6_period ∈ WA := wa_tg (wa_t4 44 rfl) rfl
theorem wc_X6_period : Cond.code yX6_period cX6_period 4 (some .int) ∈ WA := wa_tg (wa_t4 45 rfl) rfl
theorem wq_X6_200 : Cond.constant RX6 200 (100000) ∈ WA := wa_tg (wa_t4 46 rfl) rfl
theorem wl_X6_201 : Cond.methodLink RX6 201 yX6_beginFraction ∈ WA := wa_tg (wa_t4 47 rfl) rfl
theorem wv_X6_beginFraction : Cond.instanceMethod yX6_beginFraction ∈ WA := wa_tg (wa_t4 49 rfl) rfl
theorem wc_X6_beginFraction : Cond.code yX6_beginFraction cX6_beginFraction 2 none ∈ WA := wa_tg (wa_t4 50 rfl) rfl
theorem wl_X6_204 : Cond.methodLink RX6 204 yX6_nextTerm ∈ WA := wa_tg (wa_t4 51 rfl) rfl
theorem wv_X6_nextTerm : Cond.instanceMethod yX6_nextTerm ∈ WA := wa_tg (wa_t4 53 rfl) rfl
theorem wc_X6_nextTerm : Cond.code yX6_nextTerm cX6_nextTerm 2 none ∈ WA := wa_tg (wa_t4 54 rfl) rfl
theorem wl_L_106 : Cond.methodLink RL 106 yX6_term ∈ WA := wa_tg (wa_t4 55 rfl) rfl
theorem wv_X6_term : Cond.instanceMethod yX6_term ∈ WA := wa_tg (wa_t4 56 rfl) rfl
theorem we_X6_term : Cond.selects RX6 yX6_term yX6_term ∈ WA := wa_tg (wa_t4 57 rfl) rfl
theorem wc_X6_term : Cond.code yX6_term cX6_term 4 (some .int) ∈ WA := wa_tg (wa_t4 58 rfl) rfl
theorem wl_L_111 : Cond.methodLink RL 111 yX6_convergent ∈ WA := wa_tg (wa_t4 59 rfl) rfl
theorem wv_X6_convergent : Cond.instanceMethod yX6_convergent ∈ WA := wa_tg (wa_t4 60 rfl) rfl
theorem we_X6_convergent : Cond.selects RX6 yX6_convergent yX6_convergent ∈ WA := wa_tg (wa_t4 61 rfl) rfl
theorem wc_X6_convergent : Cond.code yX6_convergent cX6_convergent 17 (some .long) ∈ WA := wa_tg (wa_t4 62 rfl) rfl
theorem wl_L_115 : Cond.methodLink RL 115 yX6_twoSquares ∈ WA := wa_tg (wa_t4 63 rfl) rfl
theorem wv_X6_twoSquares : Cond.instanceMethod yX6_twoSquares ∈ WA := wa_tg (wa_t4 64 rfl) rfl
theorem we_X6_twoSquares : Cond.selects RX6 yX6_twoSquares yX6_twoSquares ∈ WA := wa_tg (wa_t4 65 rfl) rfl
theorem wc_X6_twoSquares : Cond.code yX6_twoSquares cX6_twoSquares 8 (some .int) ∈ WA := wa_tg (wa_t4 66 rfl) rfl
theorem wl_L_120 : Cond.methodLink RL 120 yX6_powers ∈ WA := wa_tg (wa_t4 67 rfl) rfl
theorem wv_X6_powers : Cond.instanceMethod yX6_powers ∈ WA := wa_tg (wa_t4 68 rfl) rfl
theorem we_X6_powers : Cond.selects RX6 yX6_powers yX6_powers ∈ WA := wa_tg (wa_t4 69 rfl) rfl
theorem wc_X6_powers : Cond.code yX6_powers cX6_powers 5 (some .int) ∈ WA := wa_tg (wa_t4 70 rfl) rfl
theorem wl_X6_207 : Cond.methodLink RX6 207 yX6_powersTo ∈ WA := wa_tg (wa_t4 71 rfl) rfl
theorem ws_X6_powersTo : Cond.static yX6_powersTo ∈ WA := wa_tg (wa_t4 72 rfl) rfl
theorem wc_X6_powersTo : Cond.code yX6_powersTo cX6_powersTo 2 (some .long) ∈ WA := wa_tg (wa_t4 73 rfl) rfl
theorem wl_L_124 : Cond.methodLink RL 124 yX6_rootSum ∈ WA := wa_tg (wa_t4 74 rfl) rfl
theorem wv_X6_rootSum : Cond.instanceMethod yX6_rootSum ∈ WA := wa_tg (wa_t4 75 rfl) rfl
theorem we_X6_rootSum : Cond.selects RX6 yX6_rootSum yX6_rootSum ∈ WA := wa_tg (wa_t4 76 rfl) rfl
theorem wc_X6_rootSum : Cond.code yX6_rootSum cX6_rootSum 8 (some .long) ∈ WA := wa_tg (wa_t4 77 rfl) rfl
theorem wq_X6_211 : Cond.constant RX6 211 (1000000000) ∈ WA := wa_tg (wa_t4 78 rfl) rfl
theorem wl_L_128 : Cond.methodLink RL 128 yX6_undo ∈ WA := wa_tg (wa_t4 79 rfl) rfl
theorem wv_X6_undo : Cond.instanceMethod yX6_undo ∈ WA := wa_tg (wa_t4 80 rfl) rfl
theorem we_X6_undo : Cond.selects RX6 yX6_undo yX6_undo ∈ WA := wa_tg (wa_t4 81 rfl) rfl
theorem wc_X6_undo : Cond.code yX6_undo cX6_undo 2 (some .int) ∈ WA := wa_tg (wa_t4 82 rfl) rfl
theorem wl_L_132 : Cond.methodLink RL 132 yX6_save ∈ WA := wa_tg (wa_t4 83 rfl) rfl
theorem wv_X6_save : Cond.instanceMethod yX6_save ∈ WA := wa_tg (wa_t4 84 rfl) rfl
theorem we_X6_save : Cond.selects RX6 yX6_save yX6_save ∈ WA := wa_tg (wa_t4 85 rfl) rfl
theorem wc_X6_save : Cond.code yX6_save cX6_save 3 (some .int) ∈ WA := wa_tg (wa_t4 86 rfl) rfl
theorem wl_L_136 : Cond.methodLink RL 136 yX6_restore ∈ WA := wa_tg (wa_t4 87 rfl) rfl
theorem wv_X6_restore : Cond.instanceMethod yX6_restore ∈ WA := wa_tg (wa_t4 88 rfl) rfl
theorem we_X6_restore : Cond.selects RX6 yX6_restore yX6_restore ∈ WA := wa_tg (wa_t4 89 rfl) rfl
theorem wc_X6_restore : Cond.code yX6_restore cX6_restore 3 (some .int) ∈ WA := wa_tg (wa_t4 90 rfl) rfl
theorem wq_L_18 : Cond.constantLong RL 18 (4294967295) ∈ WA := wa_tg (wa_t4 91 rfl) rfl
theorem we_X5_keepState : Cond.selects RX5 yX5_keepState yX5_keepState ∈ WA := wa_of 0 rfl rfl
theorem we_X4_become : Cond.selects RX4 yX4_become yX4_become ∈ WA := wa_of 1 rfl rfl
theorem we_X4_setting : Cond.selects RX4 yX4_setting yX4_setting ∈ WA := wa_of 2 rfl rfl
theorem we_X4_cellValue : Cond.selects RX4 yX4_cellValue yX4_cellValue ∈ WA := wa_of 3 rfl rfl
theorem we_X4_formula : Cond.selects RX4 yX4_formula yX4_formula ∈ WA := wa_of 4 rfl rfl
theorem we_X4_changeSetting : Cond.selects RX4 yX4_changeSetting yX4_changeSetting ∈ WA := wa_of 5 rfl rfl
theorem we_X4_changeCell : Cond.selects RX4 yX4_changeCell yX4_changeCell ∈ WA := wa_of 6 rfl rfl
theorem we_X5_addToPad : Cond.selects RX5 yX5_addToPad yX5_addToPad ∈ WA := wa_of 7 rfl rfl
theorem we_X2_faultOf : Cond.selects RX2 yX2_faultOf yX2_faultOf ∈ WA := wa_of 8 rfl rfl
theorem we_X2_takes : Cond.selects RX2 yX2_takes yX2_takes ∈ WA := wa_of 9 rfl rfl
theorem we_X2_takesFactor : Cond.selects RX2 yX2_takesFactor yX2_takesFactor ∈ WA := wa_of 10 rfl rfl
theorem we_X2_addStep : Cond.selects RX2 yX2_addStep yX2_addStep ∈ WA := wa_of 11 rfl rfl
theorem we_X2_push : Cond.selects RX2 yX2_push yX2_push ∈ WA := wa_of 12 rfl rfl
theorem we_X2_takesDigit : Cond.selects RX2 yX2_takesDigit yX2_takesDigit ∈ WA := wa_of 13 rfl rfl
theorem we_X2_takesBehind : Cond.selects RX2 yX2_takesBehind yX2_takesBehind ∈ WA := wa_of 14 rfl rfl
theorem we_X2_closeBracket : Cond.selects RX2 yX2_closeBracket yX2_closeBracket ∈ WA := wa_of 15 rfl rfl
theorem we_X2_release : Cond.selects RX2 yX2_release yX2_release ∈ WA := wa_of 16 rfl rfl
theorem we_X2_top : Cond.selects RX2 yX2_top yX2_top ∈ WA := wa_of 17 rfl rfl
theorem we_X4_changeFormula : Cond.selects RX4 yX4_changeFormula yX4_changeFormula ∈ WA := wa_of 18 rfl rfl
theorem we_X3_reckon : Cond.selects RX3 yX3_reckon yX3_reckon ∈ WA := wa_of 19 rfl rfl
theorem we_X3_numberOf : Cond.selects RX3 yX3_numberOf yX3_numberOf ∈ WA := wa_of 20 rfl rfl
theorem we_X3_pop : Cond.selects RX3 yX3_pop yX3_pop ∈ WA := wa_of 21 rfl rfl
theorem we_X3_push : Cond.selects RX3 yX3_push yX3_push ∈ WA := wa_of 22 rfl rfl
theorem we_X3_result : Cond.selects RX3 yX3_result yX3_result ∈ WA := wa_of 23 rfl rfl
theorem we_X3_valueOf : Cond.selects RX3 yX3_valueOf yX3_valueOf ∈ WA := wa_of 24 rfl rfl
theorem we_X0_cellsNamed : Cond.selects RX0 yX0_cellsNamed yX0_cellsNamed ∈ WA := wa_of 25 rfl rfl
theorem we_X0_rootsInside : Cond.selects RX0 yX0_rootsInside yX0_rootsInside ∈ WA := wa_of 26 rfl rfl
theorem we_X4_formulasThere : Cond.selects RX4 yX4_formulasThere yX4_formulasThere ∈ WA := wa_of 27 rfl rfl
theorem we_X4_cellsNotZero : Cond.selects RX4 yX4_cellsNotZero yX4_cellsNotZero ∈ WA := wa_of 28 rfl rfl
theorem we_X1_start : Cond.selects RX1 yX1_start yX1_start ∈ WA := wa_of 29 rfl rfl
theorem we_X1_goesOn : Cond.selects RX1 yX1_goesOn yX1_goesOn ∈ WA := wa_of 30 rfl rfl
theorem we_X1_extend : Cond.selects RX1 yX1_extend yX1_extend ∈ WA := wa_of 31 rfl rfl
theorem we_X6_record : Cond.selects RX6 yX6_record yX6_record ∈ WA := wa_of 32 rfl rfl
theorem we_X6_readPad : Cond.selects RX6 yX6_readPad yX6_readPad ∈ WA := wa_of 33 rfl rfl
theorem we_X6_readOperand : Cond.selects RX6 yX6_readOperand yX6_readOperand ∈ WA := wa_of 34 rfl rfl
theorem we_X6_sign : Cond.selects RX6 yX6_sign yX6_sign ∈ WA := wa_of 35 rfl rfl
theorem we_X6_readNumber : Cond.selects RX6 yX6_readNumber yX6_readNumber ∈ WA := wa_of 36 rfl rfl
theorem we_X6_emit : Cond.selects RX6 yX6_emit yX6_emit ∈ WA := wa_of 37 rfl rfl
theorem we_X6_readOpening : Cond.selects RX6 yX6_readOpening yX6_readOpening ∈ WA := wa_of 38 rfl rfl
theorem we_X6_push : Cond.selects RX6 yX6_push yX6_push ∈ WA := wa_of 39 rfl rfl
theorem we_X6_readBehind : Cond.selects RX6 yX6_readBehind yX6_readBehind ∈ WA := wa_of 40 rfl rfl
theorem we_X6_close : Cond.selects RX6 yX6_close yX6_close ∈ WA := wa_of 41 rfl rfl
theorem we_X6_binds : Cond.selects RX6 yX6_binds yX6_binds ∈ WA := wa_of 42 rfl rfl
theorem we_X6_isFormula : Cond.selects RX6 yX6_isFormula yX6_isFormula ∈ WA := wa_of 43 rfl rfl
theorem we_X6_reckon : Cond.selects RX6 yX6_reckon yX6_reckon ∈ WA := wa_of 44 rfl rfl
theorem we_X6_rounded : Cond.selects RX6 yX6_rounded yX6_rounded ∈ WA := wa_of 45 rfl rfl
theorem we_X6_cellsOf : Cond.selects RX6 yX6_cellsOf yX6_cellsOf ∈ WA := wa_of 46 rfl rfl
theorem we_X6_rootsOf : Cond.selects RX6 yX6_rootsOf yX6_rootsOf ∈ WA := wa_of 47 rfl rfl
theorem we_X6_formulas : Cond.selects RX6 yX6_formulas yX6_formulas ∈ WA := wa_of 48 rfl rfl
theorem we_X6_beginFraction : Cond.selects RX6 yX6_beginFraction yX6_beginFraction ∈ WA := wa_of 49 rfl rfl
theorem we_X6_nextTerm : Cond.selects RX6 yX6_nextTerm yX6_nextTerm ∈ WA := wa_of 50 rfl rfl
theorem wu_X0 : ∀ w ∈ u_ws RX0 TX0 1, w ∈ WA := by
  intro w hw
  obtain ⟨k, hk, rfl⟩ := List.mem_map.mp hw
  have hk := List.mem_range.mp hk
  match k, hk with
  | 0, _ => exact wa_tg (wa_t2 62 rfl) rfl
  | k + 1, h => exact absurd h (by omega)
theorem wcl_X0 : vwCl[0]? = some (RX0, TX0, 1) := rfl
theorem wu_X1 : ∀ w ∈ u_ws RX1 TX1 9, w ∈ WA := by
  intro w hw
  obtain ⟨k, hk, rfl⟩ := List.mem_map.mp hw
  have hk := List.mem_range.mp hk
  match k, hk with
  | 0, _ => exact wa_tg (wa_t1 110 rfl) rfl
  | 1, _ => exact wa_tg (wa_t1 112 rfl) rfl
  | 2, _ => exact wa_tg (wa_t1 114 rfl) rfl
  | 3, _ => exact wa_tg (wa_t1 116 rfl) rfl
  | 4, _ => exact wa_tg (wa_t1 118 rfl) rfl
  | 5, _ => exact wa_tg (wa_t1 120 rfl) rfl
  | 6, _ => exact wa_tg (wa_t1 122 rfl) rfl
  | 7, _ => exact wa_tg (wa_t1 124 rfl) rfl
  | 8, _ => exact wa_tg (wa_t1 126 rfl) rfl
  | k + 9, h => exact absurd h (by omega)
theorem wcl_X1 : vwCl[1]? = some (RX1, TX1, 9) := rfl
theorem wu_X2 : ∀ w ∈ u_ws RX2 TX2 6, w ∈ WA := by
  intro w hw
  obtain ⟨k, hk, rfl⟩ := List.mem_map.mp hw
  have hk := List.mem_range.mp hk
  match k, hk with
  | 0, _ => exact wa_tg (wa_t1 53 rfl) rfl
  | 1, _ => exact wa_tg (wa_t1 55 rfl) rfl
  | 2, _ => exact wa_tg (wa_t1 57 rfl) rfl
  | 3, _ => exact wa_tg (wa_t1 59 rfl) rfl
  | 4, _ => exact wa_tg (wa_t1 61 rfl) rfl
  | 5, _ => exact wa_tg (wa_t1 63 rfl) rfl
  | k + 6, h => exact absurd h (by omega)
theorem wcl_X2 : vwCl[2]? = some (RX2, TX2, 6) := rfl
theorem wu_X3 : ∀ w ∈ u_ws RX3 TX3 5, w ∈ WA := by
  intro w hw
  obtain ⟨k, hk, rfl⟩ := List.mem_map.mp hw
  have hk := List.mem_range.mp hk
  match k, hk with
  | 0, _ => exact wa_tg (wa_t1 80 rfl) rfl
  | 1, _ => exact wa_tg (wa_t1 82 rfl) rfl
  | 2, _ => exact wa_tg (wa_t1 84 rfl) rfl
  | 3, _ => exact wa_tg (wa_t1 86 rfl) rfl
  | 4, _ => exact wa_tg (wa_t1 88 rfl) rfl
  | k + 5, h => exact absurd h (by omega)
theorem wcl_X3 : vwCl[3]? = some (RX3, TX3, 5) := rfl
theorem wu_X4 : ∀ w ∈ u_ws RX4 TX4 3, w ∈ WA := by
  intro w hw
  obtain ⟨k, hk, rfl⟩ := List.mem_map.mp hw
  have hk := List.mem_range.mp hk
  match k, hk with
  | 0, _ => exact wa_tg (wa_t1 29 rfl) rfl
  | 1, _ => exact wa_tg (wa_t1 31 rfl) rfl
  | 2, _ => exact wa_tg (wa_t1 33 rfl) rfl
  | k + 3, h => exact absurd h (by omega)
theorem wcl_X4 : vwCl[4]? = some (RX4, TX4, 3) := rfl
theorem wu_X5 : ∀ w ∈ u_ws RX5 TX5 10, w ∈ WA := by
  intro w hw
  obtain ⟨k, hk, rfl⟩ := List.mem_map.mp hw
  have hk := List.mem_range.mp hk
  match k, hk with
  | 0, _ => exact wa_tg (wa_t1 139 rfl) rfl
  | 1, _ => exact wa_tg (wa_t1 141 rfl) rfl
  | 2, _ => exact wa_tg (wa_t1 143 rfl) rfl
  | 3, _ => exact wa_tg (wa_t1 145 rfl) rfl
  | 4, _ => exact wa_tg (wa_t1 147 rfl) rfl
  | 5, _ => exact wa_tg (wa_t1 149 rfl) rfl
  | 6, _ => exact wa_tg (wa_t1 151 rfl) rfl
  | 7, _ => exact wa_tg (wa_t1 153 rfl) rfl
  | 8, _ => exact wa_tg (wa_t1 155 rfl) rfl
  | 9, _ => exact wa_tg (wa_t1 157 rfl) rfl
  | k + 10, h => exact absurd h (by omega)
theorem wcl_X5 : vwCl[5]? = some (RX5, TX5, 10) := rfl
theorem wu_X6 : ∀ w ∈ u_ws RX6 TX6 25, w ∈ WA := by
  intro w hw
  obtain ⟨k, hk, rfl⟩ := List.mem_map.mp hw
  have hk := List.mem_range.mp hk
  match k, hk with
  | 0, _ => exact wa_tg (wa_t3 53 rfl) rfl
  | 1, _ => exact wa_tg (wa_t3 55 rfl) rfl
  | 2, _ => exact wa_tg (wa_t3 57 rfl) rfl
  | 3, _ => exact wa_tg (wa_t3 59 rfl) rfl
  | 4, _ => exact wa_tg (wa_t3 61 rfl) rfl
  | 5, _ => exact wa_tg (wa_t3 63 rfl) rfl
  | 6, _ => exact wa_tg (wa_t3 65 rfl) rfl
  | 7, _ => exact wa_tg (wa_t3 67 rfl) rfl
  | 8, _ => exact wa_tg (wa_t3 69 rfl) rfl
  | 9, _ => exact wa_tg (wa_t3 71 rfl) rfl
  | 10, _ => exact wa_tg (wa_t3 73 rfl) rfl
  | 11, _ => exact wa_tg (wa_t3 75 rfl) rfl
  | 12, _ => exact wa_tg (wa_t3 77 rfl) rfl
  | 13, _ => exact wa_tg (wa_t3 79 rfl) rfl
  | 14, _ => exact wa_tg (wa_t3 81 rfl) rfl
  | 15, _ => exact wa_tg (wa_t3 83 rfl) rfl
  | 16, _ => exact wa_tg (wa_t3 85 rfl) rfl
  | 17, _ => exact wa_tg (wa_t3 87 rfl) rfl
  | 18, _ => exact wa_tg (wa_t3 89 rfl) rfl
  | 19, _ => exact wa_tg (wa_t3 91 rfl) rfl
  | 20, _ => exact wa_tg (wa_t3 93 rfl) rfl
  | 21, _ => exact wa_tg (wa_t3 95 rfl) rfl
  | 22, _ => exact wa_tg (wa_t3 97 rfl) rfl
  | 23, _ => exact wa_tg (wa_t3 99 rfl) rfl
  | 24, _ => exact wa_tg (wa_t3 101 rfl) rfl
  | k + 25, h => exact absurd h (by omega)
theorem wcl_X6 : vwCl[6]? = some (RX6, TX6, 25) := rfl
theorem wv_objInit : Cond.instanceMethod Lib.objectInit ∈ WA := wa_tg (wa_t1 16 rfl) rfl
theorem wc_objInit : Cond.code Lib.objectInit ⟨#[0xb1]⟩ 1 none ∈ WA := wa_tg (wa_t1 17 rfl) rfl
theorem ws_max : Cond.static Lib.Math.max.name ∈ WA := wa_tg (wa_t2 57 rfl) rfl
theorem wc_max : Cond.code Lib.Math.max.name Lib.Math.max.code 2 (some .int) ∈ WA := wa_tg (wa_t2 58 rfl) rfl
def yLong : MethodName := ⟨"java/lang/Long", "compare", "(JJ)I"⟩
abbrev cLong : ByteArray := prog_9_method_42_code
theorem ws_Long : Cond.static yLong ∈ WA := wa_tg (wa_t2 204 rfl) rfl
theorem wc_Long : Cond.code yLong cLong 4 (some .int) ∈ WA := wa_tg (wa_t2 205 rfl) rfl
theorem dLong_0 : decode cLong 0 = .ok (.lload_n 0, 1) := by decide +kernel
theorem dLong_1 : decode cLong 1 = .ok (.lload_n 2, 1) := by decide +kernel
theorem dLong_2 : decode cLong 2 = .ok (.lcmp, 1) := by decide +kernel
theorem dLong_3 : decode cLong 3 = .ok (.ifCond .ge 7, 3) := by decide +kernel
theorem dLong_6 : decode cLong 6 = .ok (.iconst (-1), 1) := by decide +kernel
theorem dLong_7 : decode cLong 7 = .ok (.goto 14, 3) := by decide +kernel
theorem dLong_10 : decode cLong 10 = .ok (.lload_n 0, 1) := by decide +kernel
theorem dLong_11 : decode cLong 11 = .ok (.lload_n 2, 1) := by decide +kernel
theorem dLong_12 : decode cLong 12 = .ok (.lcmp, 1) := by decide +kernel
theorem dLong_13 : decode cLong 13 = .ok (.ifCond .ne 7, 3) := by decide +kernel
theorem dLong_16 : decode cLong 16 = .ok (.iconst 0, 1) := by decide +kernel
theorem dLong_17 : decode cLong 17 = .ok (.goto 4, 3) := by decide +kernel
theorem dLong_20 : decode cLong 20 = .ok (.iconst 1, 1) := by decide +kernel
theorem dLong_21 : decode cLong 21 = .ok (.ireturn, 1) := by decide +kernel
def wNm : List (String × Nat × MethodName) := [(RX5, 9, yX4_init), (RX5, 29, yX2_init), (RX5, 36, yX3_init), (RX5, 43, yX1_init), (RX5, 238, yX4_become), (RX5, 59, yX4_setting), (RX5, 63, yX4_changeSetting), (RX5, 75, yX4_cellValue), (RX5, 79, yX4_changeCell), (RX5, 97, yX2_faultOf), (RX2, 59, yX5_within), (RX5, 112, yX0_init), (RX5, 115, yX4_changeFormula), (RX5, 120, yX4_formula), (RX5, 124, yX3_reckon), (RX3, 46, yX5_within), (RX3, 50, yX4_cellValue), (RX3, 60, yX4_setting), (RX3, 64, yX5_rootRounded), (RX5, 133, yX3_result), (RX5, 139, yX0_cellsNamed), (RX0, 23, yX5_within), (RX5, 146, yX0_rootsInside), (RX5, 149, yX3_valueOf), (RX5, 152, yX4_formulasThere), (RX5, 158, yX4_cellsNotZero), (RX5, 196, yX1_start), (RX1, 15, yX5_rootDown), (RX5, 201, yX1_goesOn), (RX5, 215, yX1_extend)]
def wNf : List (String × Nat × String × String × String) := [(RX5, 105, "RootRows$Reader", "steps", "[I"), (RX5, 109, "RootRows$Reader", "size", "I"), (RX5, 143, "RootRows$Reckoner", "reached", "I"), (RX5, 128, "RootRows$Reckoner", "reason", "I"), (RX5, 205, "RootRows$Fraction", "divisor", "I"), (RX5, 210, "RootRows$Fraction", "quotient", "I"), (RX5, 218, "RootRows$Fraction", "upper", "J"), (RX5, 222, "RootRows$Fraction", "lower", "J"), (RX3, 28, "RootRows$Formula", "steps", "[I"), (RX5, 119, "RootRows$Formula", "steps", "[I")]
theorem wl_X5_9 : (RX5, 9, yX4_init) ∈ wNm := List.mem_of_getElem? (i := 0) rfl
theorem wl_X5_29 : (RX5, 29, yX2_init) ∈ wNm := List.mem_of_getElem? (i := 1) rfl
theorem wl_X5_36 : (RX5, 36, yX3_init) ∈ wNm := List.mem_of_getElem? (i := 2) rfl
theorem wl_X5_43 : (RX5, 43, yX1_init) ∈ wNm := List.mem_of_getElem? (i := 3) rfl
theorem wl_X5_238 : (RX5, 238, yX4_become) ∈ wNm := List.mem_of_getElem? (i := 4) rfl
theorem wl_X5_59 : (RX5, 59, yX4_setting) ∈ wNm := List.mem_of_getElem? (i := 5) rfl
theorem wl_X5_63 : (RX5, 63, yX4_changeSetting) ∈ wNm := List.mem_of_getElem? (i := 6) rfl
theorem wl_X5_75 : (RX5, 75, yX4_cellValue) ∈ wNm := List.mem_of_getElem? (i := 7) rfl
theorem wl_X5_79 : (RX5, 79, yX4_changeCell) ∈ wNm := List.mem_of_getElem? (i := 8) rfl
theorem wl_X5_97 : (RX5, 97, yX2_faultOf) ∈ wNm := List.mem_of_getElem? (i := 9) rfl
theorem wl_X2_59 : (RX2, 59, yX5_within) ∈ wNm := List.mem_of_getElem? (i := 10) rfl
theorem wl_X5_112 : (RX5, 112, yX0_init) ∈ wNm := List.mem_of_getElem? (i := 11) rfl
theorem wl_X5_115 : (RX5, 115, yX4_changeFormula) ∈ wNm := List.mem_of_getElem? (i := 12) rfl
theorem wl_X5_120 : (RX5, 120, yX4_formula) ∈ wNm := List.mem_of_getElem? (i := 13) rfl
theorem wl_X5_124 : (RX5, 124, yX3_reckon) ∈ wNm := List.mem_of_getElem? (i := 14) rfl
theorem wl_X3_46 : (RX3, 46, yX5_within) ∈ wNm := List.mem_of_getElem? (i := 15) rfl
theorem wl_X3_50 : (RX3, 50, yX4_cellValue) ∈ wNm := List.mem_of_getElem? (i := 16) rfl
theorem wl_X3_60 : (RX3, 60, yX4_setting) ∈ wNm := List.mem_of_getElem? (i := 17) rfl
theorem wl_X3_64 : (RX3, 64, yX5_rootRounded) ∈ wNm := List.mem_of_getElem? (i := 18) rfl
theorem wl_X5_133 : (RX5, 133, yX3_result) ∈ wNm := List.mem_of_getElem? (i := 19) rfl
theorem wl_X5_139 : (RX5, 139, yX0_cellsNamed) ∈ wNm := List.mem_of_getElem? (i := 20) rfl
theorem wl_X0_23 : (RX0, 23, yX5_within) ∈ wNm := List.mem_of_getElem? (i := 21) rfl
theorem wl_X5_146 : (RX5, 146, yX0_rootsInside) ∈ wNm := List.mem_of_getElem? (i := 22) rfl
theorem wl_X5_149 : (RX5, 149, yX3_valueOf) ∈ wNm := List.mem_of_getElem? (i := 23) rfl
theorem wl_X5_152 : (RX5, 152, yX4_formulasThere) ∈ wNm := List.mem_of_getElem? (i := 24) rfl
theorem wl_X5_158 : (RX5, 158, yX4_cellsNotZero) ∈ wNm := List.mem_of_getElem? (i := 25) rfl
theorem wl_X5_196 : (RX5, 196, yX1_start) ∈ wNm := List.mem_of_getElem? (i := 26) rfl
theorem wl_X1_15 : (RX1, 15, yX5_rootDown) ∈ wNm := List.mem_of_getElem? (i := 27) rfl
theorem wl_X5_201 : (RX5, 201, yX1_goesOn) ∈ wNm := List.mem_of_getElem? (i := 28) rfl
theorem wl_X5_215 : (RX5, 215, yX1_extend) ∈ wNm := List.mem_of_getElem? (i := 29) rfl
theorem wNm_ok : ∀ q ∈ wNm, Cond.methodLinkNest q.1 q.2.1 q.2.2 "RootRows" ∈ lw_tbl := by
  intro q hq
  obtain ⟨i, hi⟩ := List.getElem?_of_mem hq
  match i, hi with
  | 0, hi => cases hi; exact wa_t1 20 rfl
  | 1, hi => cases hi; exact wa_t1 41 rfl
  | 2, hi => cases hi; exact wa_t1 69 rfl
  | 3, hi => cases hi; exact wa_t1 93 rfl
  | 4, hi => cases hi; exact wa_t1 176 rfl
  | 5, hi => cases hi; exact wa_t1 192 rfl
  | 6, hi => cases hi; exact wa_t1 193 rfl
  | 7, hi => cases hi; exact wa_t1 205 rfl
  | 8, hi => cases hi; exact wa_t1 206 rfl
  | 9, hi => cases hi; exact wa_t1 236 rfl
  | 10, hi => cases hi; exact wa_t2 17 rfl
  | 11, hi => cases hi; exact wa_t2 52 rfl
  | 12, hi => cases hi; exact wa_t2 65 rfl
  | 13, hi => cases hi; exact wa_t2 73 rfl
  | 14, hi => cases hi; exact wa_t2 74 rfl
  | 15, hi => cases hi; exact wa_t2 83 rfl
  | 16, hi => cases hi; exact wa_t2 84 rfl
  | 17, hi => cases hi; exact wa_t2 89 rfl
  | 18, hi => cases hi; exact wa_t2 90 rfl
  | 19, hi => cases hi; exact wa_t2 114 rfl
  | 20, hi => cases hi; exact wa_t2 135 rfl
  | 21, hi => cases hi; exact wa_t2 140 rfl
  | 22, hi => cases hi; exact wa_t2 141 rfl
  | 23, hi => cases hi; exact wa_t2 149 rfl
  | 24, hi => cases hi; exact wa_t2 154 rfl
  | 25, hi => cases hi; exact wa_t2 158 rfl
  | 26, hi => cases hi; exact wa_t2 211 rfl
  | 27, hi => cases hi; exact wa_t2 215 rfl
  | 28, hi => cases hi; exact wa_t2 217 rfl
  | 29, hi => cases hi; exact wa_t2 230 rfl
  | i + 30, hi => simp [wNm] at hi
theorem wNf_ok : ∀ q ∈ wNf, Cond.fieldLinkNest q.1 q.2.1 q.2.2.1 q.2.2.2.1 q.2.2.2.2 "RootRows" ∈ lw_tbl := by
  intro q hq
  obtain ⟨i, hi⟩ := List.getElem?_of_mem hq
  match i, hi with
  | 0, hi => cases hi; exact wa_t1 46 rfl
  | 1, hi => cases hi; exact wa_t1 49 rfl
  | 2, hi => cases hi; exact wa_t1 77 rfl
  | 3, hi => cases hi; exact wa_t1 79 rfl
  | 4, hi => cases hi; exact wa_t1 101 rfl
  | 5, hi => cases hi; exact wa_t1 103 rfl
  | 6, hi => cases hi; exact wa_t1 105 rfl
  | 7, hi => cases hi; exact wa_t1 107 rfl
  | 8, hi => cases hi; exact wa_t2 60 rfl
  | 9, hi => cases hi; exact wa_t2 61 rfl
  | i + 10, hi => simp [wNf] at hi
/-- a field by its place in an owner's pool -/
def hFl (own : String) (idx : Nat) (T : u_T) (k : Nat) : Prop := Cond.fieldLink own idx (T k).1 (T k).2.1 (T k).2.2.1 ∈ WA ∨ (own, idx, (T k).1, (T k).2.1, (T k).2.2.1) ∈ wNf
theorem wf_X4_9 : hFl RX4 9 TX4 0 := Or.inl wf0_X4_9
theorem wf_X4_15 : hFl RX4 15 TX4 1 := Or.inl wf0_X4_15
theorem wf_X4_21 : hFl RX4 21 TX4 2 := Or.inl wf0_X4_21
theorem wf_X2_9 : hFl RX2 9 TX2 0 := Or.inl wf0_X2_9
theorem wf_X5_105 : hFl RX5 105 TX2 0 := Or.inr (List.mem_of_getElem? (i := 0) rfl)
theorem wf_X2_15 : hFl RX2 15 TX2 1 := Or.inl wf0_X2_15
theorem wf_X2_19 : hFl RX2 19 TX2 2 := Or.inl wf0_X2_19
theorem wf_X5_109 : hFl RX5 109 TX2 2 := Or.inr (List.mem_of_getElem? (i := 1) rfl)
theorem wf_X2_23 : hFl RX2 23 TX2 3 := Or.inl wf0_X2_23
theorem wf_X2_26 : hFl RX2 26 TX2 4 := Or.inl wf0_X2_26
theorem wf_X2_29 : hFl RX2 29 TX2 5 := Or.inl wf0_X2_29
theorem wf_X3_9 : hFl RX3 9 TX3 0 := Or.inl wf0_X3_9
theorem wf_X3_15 : hFl RX3 15 TX3 1 := Or.inl wf0_X3_15
theorem wf_X3_18 : hFl RX3 18 TX3 2 := Or.inl wf0_X3_18
theorem wf_X3_22 : hFl RX3 22 TX3 3 := Or.inl wf0_X3_22
theorem wf_X5_143 : hFl RX5 143 TX3 3 := Or.inr (List.mem_of_getElem? (i := 2) rfl)
theorem wf_X3_25 : hFl RX3 25 TX3 4 := Or.inl wf0_X3_25
theorem wf_X5_128 : hFl RX5 128 TX3 4 := Or.inr (List.mem_of_getElem? (i := 3) rfl)
theorem wf_X1_9 : hFl RX1 9 TX1 0 := Or.inl wf0_X1_9
theorem wf_X1_19 : hFl RX1 19 TX1 1 := Or.inl wf0_X1_19
theorem wf_X1_22 : hFl RX1 22 TX1 2 := Or.inl wf0_X1_22
theorem wf_X1_25 : hFl RX1 25 TX1 3 := Or.inl wf0_X1_25
theorem wf_X5_205 : hFl RX5 205 TX1 3 := Or.inr (List.mem_of_getElem? (i := 4) rfl)
theorem wf_X1_28 : hFl RX1 28 TX1 4 := Or.inl wf0_X1_28
theorem wf_X5_210 : hFl RX5 210 TX1 4 := Or.inr (List.mem_of_getElem? (i := 5) rfl)
theorem wf_X1_31 : hFl RX1 31 TX1 5 := Or.inl wf0_X1_31
theorem wf_X5_218 : hFl RX5 218 TX1 5 := Or.inr (List.mem_of_getElem? (i := 6) rfl)
theorem wf_X1_35 : hFl RX1 35 TX1 6 := Or.inl wf0_X1_35
theorem wf_X5_222 : hFl RX5 222 TX1 6 := Or.inr (List.mem_of_getElem? (i := 7) rfl)
theorem wf_X1_38 : hFl RX1 38 TX1 7 := Or.inl wf0_X1_38
theorem wf_X1_41 : hFl RX1 41 TX1 8 := Or.inl wf0_X1_41
theorem wf_X5_10 : hFl RX5 10 TX5 0 := Or.inl wf0_X5_10
theorem wf_X5_16 : hFl RX5 16 TX5 1 := Or.inl wf0_X5_16
theorem wf_X5_20 : hFl RX5 20 TX5 2 := Or.inl wf0_X5_20
theorem wf_X5_23 : hFl RX5 23 TX5 3 := Or.inl wf0_X5_23
theorem wf_X5_30 : hFl RX5 30 TX5 4 := Or.inl wf0_X5_30
theorem wf_X5_37 : hFl RX5 37 TX5 5 := Or.inl wf0_X5_37
theorem wf_X5_44 : hFl RX5 44 TX5 6 := Or.inl wf0_X5_44
theorem wf_X5_87 : hFl RX5 87 TX5 7 := Or.inl wf0_X5_87
theorem wf_X5_231 : hFl RX5 231 TX5 8 := Or.inl wf0_X5_231
theorem wf_X5_155 : hFl RX5 155 TX5 9 := Or.inl wf0_X5_155
theorem wf_X0_15 : hFl RX0 15 TX0 0 := Or.inl wf0_X0_15
theorem wf_X3_28 : hFl RX3 28 TX0 0 := Or.inr (List.mem_of_getElem? (i := 8) rfl)
theorem wf_X5_119 : hFl RX5 119 TX0 0 := Or.inr (List.mem_of_getElem? (i := 9) rfl)
theorem wf_X6_7 : hFl RX6 7 TX6 0 := Or.inl wf0_X6_7
theorem wf_X6_13 : hFl RX6 13 TX6 1 := Or.inl wf0_X6_13
theorem wf_X6_17 : hFl RX6 17 TX6 2 := Or.inl wf0_X6_17
theorem wf_X6_20 : hFl RX6 20 TX6 3 := Or.inl wf0_X6_20
theorem wf_X6_53 : hFl RX6 53 TX6 4 := Or.inl wf0_X6_53
theorem wf_X6_23 : hFl RX6 23 TX6 5 := Or.inl wf0_X6_23
theorem wf_X6_26 : hFl RX6 26 TX6 6 := Or.inl wf0_X6_26
theorem wf_X6_29 : hFl RX6 29 TX6 7 := Or.inl wf0_X6_29
theorem wf_X6_33 : hFl RX6 33 TX6 8 := Or.inl wf0_X6_33
theorem wf_X6_74 : hFl RX6 74 TX6 9 := Or.inl wf0_X6_74
theorem wf_X6_36 : hFl RX6 36 TX6 10 := Or.inl wf0_X6_36
theorem wf_X6_39 : hFl RX6 39 TX6 11 := Or.inl wf0_X6_39
theorem wf_X6_80 : hFl RX6 80 TX6 12 := Or.inl wf0_X6_80
theorem wf_X6_42 : hFl RX6 42 TX6 13 := Or.inl wf0_X6_42
theorem wf_X6_83 : hFl RX6 83 TX6 14 := Or.inl wf0_X6_83
theorem wf_X6_105 : hFl RX6 105 TX6 15 := Or.inl wf0_X6_105
theorem wf_X6_77 : hFl RX6 77 TX6 16 := Or.inl wf0_X6_77
theorem wf_X6_45 : hFl RX6 45 TX6 17 := Or.inl wf0_X6_45
theorem wf_X6_48 : hFl RX6 48 TX6 18 := Or.inl wf0_X6_48
theorem wf_X6_140 : hFl RX6 140 TX6 19 := Or.inl wf0_X6_140
theorem wf_X6_143 : hFl RX6 143 TX6 20 := Or.inl wf0_X6_143
theorem wf_X6_188 : hFl RX6 188 TX6 21 := Or.inl wf0_X6_188
theorem wf_X6_191 : hFl RX6 191 TX6 22 := Or.inl wf0_X6_191
theorem wf_X6_194 : hFl RX6 194 TX6 23 := Or.inl wf0_X6_194
theorem wf_X6_197 : hFl RX6 197 TX6 24 := Or.inl wf0_X6_197
