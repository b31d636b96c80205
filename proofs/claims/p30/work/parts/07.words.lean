def WA : List Cond := lw_tbl.filter goodWord
theorem wa_of {w : Cond} (i : Nat) (h : lw_tbl[i]? = some w) (hg : goodWord w = true) : w ∈ WA := List.mem_filter.mpr ⟨List.mem_of_getElem? h, hg⟩
theorem wa_t1 {w : Cond} (i : Nat) (h : tables_1_1[i]? = some w) : w ∈ lw_tbl := List.mem_append_right _ (List.mem_append_left _ (List.mem_of_getElem? h))
theorem wa_t2 {w : Cond} (i : Nat) (h : tables_1_2[i]? = some w) : w ∈ lw_tbl := List.mem_append_right _ (List.mem_append_right _ (List.mem_append_left _ (List.mem_of_getElem? h)))
theorem wa_t3 {w : Cond} (i : Nat) (h : tables_1_3[i]? = some w) : w ∈ lw_tbl := List.mem_append_right _ (List.mem_append_right _ (List.mem_append_right _ (List.mem_of_getElem? h)))
theorem wa_tg {w : Cond} (h : w ∈ lw_tbl) (hg : goodWord w = true) : w ∈ WA := List.mem_filter.mpr ⟨h, hg⟩
theorem wa_good : GoodIn WA WA := fun w h => ⟨h, good_of_word (List.mem_filter.mp h).2⟩
theorem wi_L : Cond.initialized RL ∈ WA := wa_tg (wa_t1 0 rfl) rfl
theorem wi_X5 : Cond.initialized RX5 ∈ WA := wa_tg (wa_t1 1 rfl) rfl
theorem wi_X4 : Cond.initialized RX4 ∈ WA := wa_tg (wa_t1 2 rfl) rfl
theorem wi_X2 : Cond.initialized RX2 ∈ WA := wa_tg (wa_t1 3 rfl) rfl
theorem wi_X3 : Cond.initialized RX3 ∈ WA := wa_tg (wa_t1 4 rfl) rfl
theorem wi_X1 : Cond.initialized RX1 ∈ WA := wa_tg (wa_t1 5 rfl) rfl
theorem wi_X0 : Cond.initialized RX0 ∈ WA := wa_tg (wa_t1 6 rfl) rfl
theorem wi_Math : Cond.initialized "java/lang/Math" ∈ WA := wa_tg (wa_t1 7 rfl) rfl
theorem wk_L_32 : Cond.classLink RL 32 RX5 ∈ WA := wa_tg (wa_t1 8 rfl) rfl
theorem wn_X5 : Cond.instantiable RX5 10 ∈ WA := wa_tg (wa_t1 9 rfl) rfl
theorem wl_L_174 : Cond.methodLink RL 174 yX5_init ∈ WA := wa_tg (wa_t1 10 rfl) rfl
theorem wv_X5_init : Cond.instanceMethod yX5_init ∈ WA := wa_tg (wa_t1 11 rfl) rfl
theorem wc_X5_init : Cond.code yX5_init cX5_init 2 none ∈ WA := wa_tg (wa_t1 12 rfl) rfl
theorem wl_X5_1 : Cond.methodLink RX5 1 ⟨"java/lang/Object", "<init>", "()V"⟩ ∈ WA := wa_tg (wa_t1 13 rfl) rfl
-- 14 (Jvm.Cond.instanceMethod ({ cls := "java/lang/Object", name := "<init>", desc := "()V" } : Jvm.MethodName))
-- 15 (Jvm.Cond.code ({ cls := "java/lang/Object", name := "<init>", desc := "()V" } : Jvm.MethodName) object_method_1_code (1 : Nat) (Option.none : Option Jvm.ClassFile.FieldType))
theorem wk_X5_7 : Cond.classLink RX5 7 RX4 ∈ WA := wa_tg (wa_t1 16 rfl) rfl
theorem wn_X4 : Cond.instantiable RX4 3 ∈ WA := wa_tg (wa_t1 17 rfl) rfl
theorem wv_X4_init : Cond.instanceMethod yX4_init ∈ WA := wa_tg (wa_t1 19 rfl) rfl
theorem wc_X4_init : Cond.code yX4_init cX4_init 1 none ∈ WA := wa_tg (wa_t1 20 rfl) rfl
theorem wl_X4_3 : Cond.methodLink RX4 3 ⟨"java/lang/Object", "<init>", "()V"⟩ ∈ WA := wa_tg (wa_t1 21 rfl) rfl
theorem wk_X4_19 : Cond.classLink RX4 19 RX0 ∈ WA := wa_tg (wa_t1 22 rfl) rfl
theorem wf0_X4_9 : Cond.fieldLink RX4 9 "RootRows$State" "settings" "[I" ∈ WA := wa_tg (wa_t1 24 rfl) rfl
theorem wf0_X4_15 : Cond.fieldLink RX4 15 "RootRows$State" "cells" "[J" ∈ WA := wa_tg (wa_t1 25 rfl) rfl
theorem wf0_X4_21 : Cond.fieldLink RX4 21 "RootRows$State" "formulas" "[LRootRows$Formula;" ∈ WA := wa_tg (wa_t1 26 rfl) rfl
theorem wa_int : Cond.arrayClass .int ∈ WA := wa_tg (wa_t1 34 rfl) rfl
theorem wa_long : Cond.arrayClass .long ∈ WA := wa_tg (wa_t1 35 rfl) rfl
theorem wk_X5_27 : Cond.classLink RX5 27 RX2 ∈ WA := wa_tg (wa_t1 37 rfl) rfl
theorem wn_X2 : Cond.instantiable RX2 6 ∈ WA := wa_tg (wa_t1 38 rfl) rfl
theorem wv_X2_init : Cond.instanceMethod yX2_init ∈ WA := wa_tg (wa_t1 40 rfl) rfl
theorem wc_X2_init : Cond.code yX2_init cX2_init 1 none ∈ WA := wa_tg (wa_t1 41 rfl) rfl
theorem wl_X2_3 : Cond.methodLink RX2 3 ⟨"java/lang/Object", "<init>", "()V"⟩ ∈ WA := wa_tg (wa_t1 42 rfl) rfl
theorem wf0_X2_9 : Cond.fieldLink RX2 9 "RootRows$Reader" "steps" "[I" ∈ WA := wa_tg (wa_t1 43 rfl) rfl
theorem wf0_X2_15 : Cond.fieldLink RX2 15 "RootRows$Reader" "waiting" "[C" ∈ WA := wa_tg (wa_t1 45 rfl) rfl
theorem wf0_X2_19 : Cond.fieldLink RX2 19 "RootRows$Reader" "size" "I" ∈ WA := wa_tg (wa_t1 46 rfl) rfl
theorem wf0_X2_23 : Cond.fieldLink RX2 23 "RootRows$Reader" "waits" "I" ∈ WA := wa_tg (wa_t1 48 rfl) rfl
theorem wf0_X2_26 : Cond.fieldLink RX2 26 "RootRows$Reader" "open" "I" ∈ WA := wa_tg (wa_t1 49 rfl) rfl
theorem wf0_X2_29 : Cond.fieldLink RX2 29 "RootRows$Reader" "next" "I" ∈ WA := wa_tg (wa_t1 50 rfl) rfl
theorem wa_char : Cond.arrayClass .char ∈ WA := wa_tg (wa_t1 64 rfl) rfl
theorem wk_X5_34 : Cond.classLink RX5 34 RX3 ∈ WA := wa_tg (wa_t1 65 rfl) rfl
theorem wn_X3 : Cond.instantiable RX3 5 ∈ WA := wa_tg (wa_t1 66 rfl) rfl
theorem wv_X3_init : Cond.instanceMethod yX3_init ∈ WA := wa_tg (wa_t1 68 rfl) rfl
theorem wc_X3_init : Cond.code yX3_init cX3_init 1 none ∈ WA := wa_tg (wa_t1 69 rfl) rfl
theorem wl_X3_3 : Cond.methodLink RX3 3 ⟨"java/lang/Object", "<init>", "()V"⟩ ∈ WA := wa_tg (wa_t1 70 rfl) rfl
theorem wf0_X3_9 : Cond.fieldLink RX3 9 "RootRows$Reckoner" "values" "[J" ∈ WA := wa_tg (wa_t1 71 rfl) rfl
theorem wf0_X3_15 : Cond.fieldLink RX3 15 "RootRows$Reckoner" "operands" "[J" ∈ WA := wa_tg (wa_t1 72 rfl) rfl
theorem wf0_X3_18 : Cond.fieldLink RX3 18 "RootRows$Reckoner" "height" "I" ∈ WA := wa_tg (wa_t1 73 rfl) rfl
theorem wf0_X3_22 : Cond.fieldLink RX3 22 "RootRows$Reckoner" "reached" "I" ∈ WA := wa_tg (wa_t1 74 rfl) rfl
theorem wf0_X3_25 : Cond.fieldLink RX3 25 "RootRows$Reckoner" "reason" "I" ∈ WA := wa_tg (wa_t1 76 rfl) rfl
theorem wk_X5_41 : Cond.classLink RX5 41 RX1 ∈ WA := wa_tg (wa_t1 89 rfl) rfl
theorem wn_X1 : Cond.instantiable RX1 9 ∈ WA := wa_tg (wa_t1 90 rfl) rfl
theorem wv_X1_init : Cond.instanceMethod yX1_init ∈ WA := wa_tg (wa_t1 92 rfl) rfl
theorem wc_X1_init : Cond.code yX1_init cX1_init 1 none ∈ WA := wa_tg (wa_t1 93 rfl) rfl
theorem wl_X1_3 : Cond.methodLink RX1 3 ⟨"java/lang/Object", "<init>", "()V"⟩ ∈ WA := wa_tg (wa_t1 94 rfl) rfl
theorem wf0_X5_10 : Cond.fieldLink RX5 10 "RootRows" "now" "LRootRows$State;" ∈ WA := wa_tg (wa_t1 114 rfl) rfl
theorem wf0_X5_16 : Cond.fieldLink RX5 16 "RootRows" "history" "[LRootRows$State;" ∈ WA := wa_tg (wa_t1 115 rfl) rfl
theorem wf0_X5_20 : Cond.fieldLink RX5 20 "RootRows" "slots" "[LRootRows$State;" ∈ WA := wa_tg (wa_t1 116 rfl) rfl
theorem wf0_X5_23 : Cond.fieldLink RX5 23 "RootRows" "pad" "[C" ∈ WA := wa_tg (wa_t1 117 rfl) rfl
theorem wf0_X5_30 : Cond.fieldLink RX5 30 "RootRows" "reader" "LRootRows$Reader;" ∈ WA := wa_tg (wa_t1 118 rfl) rfl
theorem wf0_X5_37 : Cond.fieldLink RX5 37 "RootRows" "reckoner" "LRootRows$Reckoner;" ∈ WA := wa_tg (wa_t1 119 rfl) rfl
theorem wf0_X5_44 : Cond.fieldLink RX5 44 "RootRows" "fraction" "LRootRows$Fraction;" ∈ WA := wa_tg (wa_t1 120 rfl) rfl
theorem wf0_X5_87 : Cond.fieldLink RX5 87 "RootRows" "padLength" "I" ∈ WA := wa_tg (wa_t1 121 rfl) rfl
theorem wf0_X5_231 : Cond.fieldLink RX5 231 "RootRows" "oldest" "I" ∈ WA := wa_tg (wa_t1 122 rfl) rfl
theorem wf0_X5_155 : Cond.fieldLink RX5 155 "RootRows" "changes" "I" ∈ WA := wa_tg (wa_t1 123 rfl) rfl
theorem wl_L_170 : Cond.methodLink RL 170 yL_isCell ∈ WA := wa_tg (wa_t1 145 rfl) rfl
theorem ws_L_isCell : Cond.static yL_isCell ∈ WA := wa_tg (wa_t1 146 rfl) rfl
theorem wc_L_isCell : Cond.code yL_isCell cL_isCell 6 (some .boolean) ∈ WA := wa_tg (wa_t1 147 rfl) rfl
theorem wl_L_49 : Cond.methodLink RL 49 yX5_cell ∈ WA := wa_tg (wa_t1 148 rfl) rfl
theorem wv_X5_cell : Cond.instanceMethod yX5_cell ∈ WA := wa_tg (wa_t1 149 rfl) rfl
theorem we_X5_cell : Cond.selects RX5 yX5_cell yX5_cell ∈ WA := wa_tg (wa_t1 150 rfl) rfl
theorem wc_X5_cell : Cond.code yX5_cell cX5_cell 2 (some .long) ∈ WA := wa_tg (wa_t1 151 rfl) rfl
theorem wq_X5_67 : Cond.constantLong RX5 67 (7) ∈ WA := wa_tg (wa_t1 152 rfl) rfl
theorem wl_X5_48 : Cond.methodLink RX5 48 yX5_within ∈ WA := wa_tg (wa_t1 153 rfl) rfl
theorem ws_X5_within : Cond.static yX5_within ∈ WA := wa_tg (wa_t1 154 rfl) rfl
theorem wc_X5_within : Cond.code yX5_within cX5_within 6 (some .boolean) ∈ WA := wa_tg (wa_t1 155 rfl) rfl
theorem wv_X4_cellValue : Cond.instanceMethod yX4_cellValue ∈ WA := wa_tg (wa_t1 158 rfl) rfl
theorem wc_X4_cellValue : Cond.code yX4_cellValue cX4_cellValue 2 (some .long) ∈ WA := wa_tg (wa_t1 159 rfl) rfl
theorem wq_X5_69 : Cond.constantLong RX5 69 (-1) ∈ WA := wa_tg (wa_t1 160 rfl) rfl
theorem wl_L_125 : Cond.methodLink RL 125 yX5_setCell ∈ WA := wa_tg (wa_t1 161 rfl) rfl
theorem wv_X5_setCell : Cond.instanceMethod yX5_setCell ∈ WA := wa_tg (wa_t1 162 rfl) rfl
theorem we_X5_setCell : Cond.selects RX5 yX5_setCell yX5_setCell ∈ WA := wa_tg (wa_t1 163 rfl) rfl
theorem wc_X5_setCell : Cond.code yX5_setCell cX5_setCell 6 (some .long) ∈ WA := wa_tg (wa_t1 164 rfl) rfl
theorem wq_X5_71 : Cond.constantLong RX5 71 (1000000000000) ∈ WA := wa_tg (wa_t1 165 rfl) rfl
theorem wq_X5_73 : Cond.constantLong RX5 73 (-2) ∈ WA := wa_tg (wa_t1 166 rfl) rfl
theorem wl_X5_56 : Cond.methodLink RX5 56 yX5_keepState ∈ WA := wa_tg (wa_t1 167 rfl) rfl
theorem wv_X5_keepState : Cond.instanceMethod yX5_keepState ∈ WA := wa_tg (wa_t1 169 rfl) rfl
theorem wc_X5_keepState : Cond.code yX5_keepState cX5_keepState 2 none ∈ WA := wa_tg (wa_t1 170 rfl) rfl
theorem wl_X5_234 : Cond.methodLink RX5 234 yX5_stateIn ∈ WA := wa_tg (wa_t1 171 rfl) rfl
theorem ws_X5_stateIn : Cond.static yX5_stateIn ∈ WA := wa_tg (wa_t1 172 rfl) rfl
theorem wc_X5_stateIn : Cond.code yX5_stateIn cX5_stateIn 2 (some (.object "RootRows$State")) ∈ WA := wa_tg (wa_t1 173 rfl) rfl
theorem wv_X4_become : Cond.instanceMethod yX4_become ∈ WA := wa_tg (wa_t1 176 rfl) rfl
theorem wc_X4_become : Cond.code yX4_become cX4_become 3 none ∈ WA := wa_tg (wa_t1 177 rfl) rfl
theorem wl_X4_25 : Cond.methodLink RX4 25 yX4_setting ∈ WA := wa_tg (wa_t1 178 rfl) rfl
theorem wv_X4_setting : Cond.instanceMethod yX4_setting ∈ WA := wa_tg (wa_t1 180 rfl) rfl
theorem wc_X4_setting : Cond.code yX4_setting cX4_setting 2 (some .int) ∈ WA := wa_tg (wa_t1 181 rfl) rfl
theorem wl_X4_29 : Cond.methodLink RX4 29 yX4_cellValue ∈ WA := wa_tg (wa_t1 182 rfl) rfl
theorem wl_X4_33 : Cond.methodLink RX4 33 yX4_formula ∈ WA := wa_tg (wa_t1 183 rfl) rfl
theorem wv_X4_formula : Cond.instanceMethod yX4_formula ∈ WA := wa_tg (wa_t1 185 rfl) rfl
theorem wc_X4_formula : Cond.code yX4_formula cX4_formula 2 (some (.object "RootRows$Formula")) ∈ WA := wa_tg (wa_t1 186 rfl) rfl
theorem wv_X4_changeCell : Cond.instanceMethod yX4_changeCell ∈ WA := wa_tg (wa_t1 189 rfl) rfl
theorem wc_X4_changeCell : Cond.code yX4_changeCell cX4_changeCell 4 none ∈ WA := wa_tg (wa_t1 190 rfl) rfl
theorem wl_L_163 : Cond.methodLink RL 163 yL_value ∈ WA := wa_tg (wa_t1 191 rfl) rfl
theorem ws_L_value : Cond.static yL_value ∈ WA := wa_tg (wa_t1 192 rfl) rfl
theorem wc_L_value : Cond.code yL_value cL_value 5 (some .long) ∈ WA := wa_tg (wa_t1 193 rfl) rfl
theorem wq_L_129 : Cond.constant RL 129 (4194304) ∈ WA := wa_tg (wa_t1 194 rfl) rfl
theorem wl_L_41 : Cond.methodLink RL 41 yL_cell ∈ WA := wa_tg (wa_t1 195 rfl) rfl
theorem ws_L_cell : Cond.static yL_cell ∈ WA := wa_tg (wa_t1 196 rfl) rfl
theorem wc_L_cell : Cond.code yL_cell cL_cell 3 (some .int) ∈ WA := wa_tg (wa_t1 197 rfl) rfl
theorem wq_L_7 : Cond.constant RL 7 (4194303) ∈ WA := wa_tg (wa_t1 198 rfl) rfl
theorem wq_L_130 : Cond.constant RL 130 (238419) ∈ WA := wa_tg (wa_t1 199 rfl) rfl
theorem wq_L_27 : Cond.constantLong RL 27 (1000000000000) ∈ WA := wa_tg (wa_t1 200 rfl) rfl
theorem wl_L_14 : Cond.methodLink RL 14 yL_power ∈ WA := wa_tg (wa_t1 201 rfl) rfl
theorem ws_L_power : Cond.static yL_power ∈ WA := wa_tg (wa_t1 202 rfl) rfl
theorem wc_L_power : Cond.code yL_power cL_power 3 (some .long) ∈ WA := wa_tg (wa_t1 203 rfl) rfl
theorem wq_L_131 : Cond.constant RL 131 (1000000) ∈ WA := wa_tg (wa_t1 204 rfl) rfl
theorem wl_L_175 : Cond.methodLink RL 175 yL_isAct ∈ WA := wa_tg (wa_t1 205 rfl) rfl
theorem ws_L_isAct : Cond.static yL_isAct ∈ WA := wa_tg (wa_t1 206 rfl) rfl
theorem wc_L_isAct : Cond.code yL_isAct cL_isAct 8 (some .boolean) ∈ WA := wa_tg (wa_t1 207 rfl) rfl
theorem wl_L_144 : Cond.methodLink RL 144 yL_isLoaded ∈ WA := wa_tg (wa_t1 208 rfl) rfl
theorem ws_L_isLoaded : Cond.static yL_isLoaded ∈ WA := wa_tg (wa_t1 209 rfl) rfl
theorem wc_L_isLoaded : Cond.code yL_isLoaded cL_isLoaded 15 (some .boolean) ∈ WA := wa_tg (wa_t1 210 rfl) rfl
theorem wl_L_82 : Cond.methodLink RL 82 yX5_wipe ∈ WA := wa_tg (wa_t1 211 rfl) rfl
theorem wv_X5_wipe : Cond.instanceMethod yX5_wipe ∈ WA := wa_tg (wa_t1 212 rfl) rfl
theorem we_X5_wipe : Cond.selects RX5 yX5_wipe yX5_wipe ∈ WA := wa_tg (wa_t1 213 rfl) rfl
theorem wc_X5_wipe : Cond.code yX5_wipe cX5_wipe 2 (some .int) ∈ WA := wa_tg (wa_t1 214 rfl) rfl
theorem wl_L_31 : Cond.methodLink RL 31 yX5_put ∈ WA := wa_tg (wa_t1 215 rfl) rfl
theorem wv_X5_put : Cond.instanceMethod yX5_put ∈ WA := wa_tg (wa_t1 216 rfl) rfl
theorem we_X5_put : Cond.selects RX5 yX5_put yX5_put ∈ WA := wa_tg (wa_t1 217 rfl) rfl
theorem wc_X5_put : Cond.code yX5_put cX5_put 5 (some .int) ∈ WA := wa_tg (wa_t1 218 rfl) rfl
theorem wl_X5_83 : Cond.methodLink RX5 83 yX5_sizeOf ∈ WA := wa_tg (wa_t1 219 rfl) rfl
theorem ws_X5_sizeOf : Cond.static yX5_sizeOf ∈ WA := wa_tg (wa_t1 220 rfl) rfl
theorem wc_X5_sizeOf : Cond.code yX5_sizeOf cX5_sizeOf 5 (some .int) ∈ WA := wa_tg (wa_t1 221 rfl) rfl
theorem wq_X5_91 : Cond.constantLong RX5 91 (255) ∈ WA := wa_tg (wa_t1 222 rfl) rfl
theorem wq_X5_242 : Cond.constantLong RX5 242 (33) ∈ WA := wa_tg (wa_t1 223 rfl) rfl
theorem wq_X5_244 : Cond.constantLong RX5 244 (126) ∈ WA := wa_tg (wa_t1 224 rfl) rfl
theorem wl_X5_93 : Cond.methodLink RX5 93 yX5_addToPad ∈ WA := wa_tg (wa_t1 225 rfl) rfl
theorem wv_X5_addToPad : Cond.instanceMethod yX5_addToPad ∈ WA := wa_tg (wa_t1 227 rfl) rfl
theorem wc_X5_addToPad : Cond.code yX5_addToPad cX5_addToPad 2 none ∈ WA := wa_tg (wa_t1 228 rfl) rfl
theorem wl_L_86 : Cond.methodLink RL 86 yL_factor ∈ WA := wa_tg (wa_t1 229 rfl) rfl
theorem ws_L_factor : Cond.static yL_factor ∈ WA := wa_tg (wa_t1 230 rfl) rfl
theorem wc_L_factor : Cond.code yL_factor cL_factor 13 (some .long) ∈ WA := wa_tg (wa_t1 231 rfl) rfl
theorem wl_L_56 : Cond.methodLink RL 56 yL_atom ∈ WA := wa_tg (wa_t1 232 rfl) rfl
theorem ws_L_atom : Cond.static yL_atom ∈ WA := wa_tg (wa_t1 233 rfl) rfl
theorem wc_L_atom : Cond.code yL_atom cL_atom 7 (some .long) ∈ WA := wa_tg (wa_t1 234 rfl) rfl
theorem wl_L_45 : Cond.methodLink RL 45 yL_number ∈ WA := wa_tg (wa_t1 235 rfl) rfl
theorem ws_L_number : Cond.static yL_number ∈ WA := wa_tg (wa_t1 236 rfl) rfl
theorem wc_L_number : Cond.code yL_number cL_number 5 (some .long) ∈ WA := wa_tg (wa_t1 237 rfl) rfl
theorem wl_L_37 : Cond.methodLink RL 37 yL_step ∈ WA := wa_tg (wa_t1 238 rfl) rfl
theorem ws_L_step : Cond.static yL_step ∈ WA := wa_tg (wa_t1 239 rfl) rfl
theorem wc_L_step : Cond.code yL_step cL_step 4 (some .long) ∈ WA := wa_tg (wa_t2 0 rfl) rfl
theorem wq_L_60 : Cond.constantLong RL 60 (113) ∈ WA := wa_tg (wa_t2 1 rfl) rfl
theorem wq_L_62 : Cond.constantLong RL 62 (107) ∈ WA := wa_tg (wa_t2 2 rfl) rfl
theorem wq_L_64 : Cond.constantLong RL 64 (115) ∈ WA := wa_tg (wa_t2 3 rfl) rfl
theorem wq_L_66 : Cond.constantLong RL 66 (40) ∈ WA := wa_tg (wa_t2 4 rfl) rfl
theorem wl_L_68 : Cond.methodLink RL 68 yL_apply ∈ WA := wa_tg (wa_t2 5 rfl) rfl
theorem ws_L_apply : Cond.static yL_apply ∈ WA := wa_tg (wa_t2 6 rfl) rfl
theorem wc_L_apply : Cond.code yL_apply cL_apply 7 (some .long) ∈ WA := wa_tg (wa_t2 7 rfl) rfl
theorem wl_L_52 : Cond.methodLink RL 52 yL_times ∈ WA := wa_tg (wa_t2 8 rfl) rfl
theorem ws_L_times : Cond.static yL_times ∈ WA := wa_tg (wa_t2 9 rfl) rfl
theorem wc_L_times : Cond.code yL_times cL_times 4 (some .long) ∈ WA := wa_tg (wa_t2 10 rfl) rfl
theorem wq_L_29 : Cond.constantLong RL 29 (1000000000001) ∈ WA := wa_tg (wa_t2 11 rfl) rfl
theorem wq_L_72 : Cond.constantLong RL 72 (41) ∈ WA := wa_tg (wa_t2 12 rfl) rfl
theorem wl_L_74 : Cond.methodLink RL 74 yX5_count ∈ WA := wa_tg (wa_t2 13 rfl) rfl
theorem wv_X5_count : Cond.instanceMethod yX5_count ∈ WA := wa_tg (wa_t2 14 rfl) rfl
theorem we_X5_count : Cond.selects RX5 yX5_count yX5_count ∈ WA := wa_tg (wa_t2 15 rfl) rfl
theorem wc_X5_count : Cond.code yX5_count cX5_count 2 (some .int) ∈ WA := wa_tg (wa_t2 16 rfl) rfl
theorem wv_X4_formulasThere : Cond.instanceMethod yX4_formulasThere ∈ WA := wa_tg (wa_t2 19 rfl) rfl
theorem wc_X4_formulasThere : Cond.code yX4_formulasThere cX4_formulasThere 3 (some .int) ∈ WA := wa_tg (wa_t2 20 rfl) rfl
theorem wv_X4_cellsNotZero : Cond.instanceMethod yX4_cellsNotZero ∈ WA := wa_tg (wa_t2 24 rfl) rfl
theorem wc_X4_cellsNotZero : Cond.code yX4_cellsNotZero cX4_cellsNotZero 3 (some .int) ∈ WA := wa_tg (wa_t2 25 rfl) rfl
theorem wl_L_78 : Cond.methodLink RL 78 yL_rounded ∈ WA := wa_tg (wa_t2 26 rfl) rfl
theorem ws_L_rounded : Cond.static yL_rounded ∈ WA := wa_tg (wa_t2 27 rfl) rfl
theorem wc_L_rounded : Cond.code yL_rounded cL_rounded 10 (some .long) ∈ WA := wa_tg (wa_t2 28 rfl) rfl
theorem wl_L_20 : Cond.methodLink RL 20 yL_root ∈ WA := wa_tg (wa_t2 29 rfl) rfl
theorem ws_L_root : Cond.static yL_root ∈ WA := wa_tg (wa_t2 30 rfl) rfl
theorem wc_L_root : Cond.code yL_root cL_root 9 (some .long) ∈ WA := wa_tg (wa_t2 31 rfl) rfl
theorem wq_L_8 : Cond.constantLong RL 8 (1000001) ∈ WA := wa_tg (wa_t2 32 rfl) rfl
theorem wq_L_10 : Cond.constantLong RL 10 (10001) ∈ WA := wa_tg (wa_t2 33 rfl) rfl
theorem wq_L_12 : Cond.constantLong RL 12 (2) ∈ WA := wa_tg (wa_t2 34 rfl) rfl
theorem wq_L_23 : Cond.constantLong RL 23 (4) ∈ WA := wa_tg (wa_t2 35 rfl) rfl
theorem wq_L_25 : Cond.constantLong RL 25 (8) ∈ WA := wa_tg (wa_t2 36 rfl) rfl
theorem wq_L_89 : Cond.constantLong RL 89 (42) ∈ WA := wa_tg (wa_t2 37 rfl) rfl
theorem wl_L_91 : Cond.methodLink RL 91 yX5_fault ∈ WA := wa_tg (wa_t2 38 rfl) rfl
theorem wv_X5_fault : Cond.instanceMethod yX5_fault ∈ WA := wa_tg (wa_t2 39 rfl) rfl
theorem we_X5_fault : Cond.selects RX5 yX5_fault yX5_fault ∈ WA := wa_tg (wa_t2 40 rfl) rfl
theorem wc_X5_fault : Cond.code yX5_fault cX5_fault 1 (some .int) ∈ WA := wa_tg (wa_t2 41 rfl) rfl
theorem wv_X2_faultOf : Cond.instanceMethod yX2_faultOf ∈ WA := wa_tg (wa_t2 44 rfl) rfl
theorem wc_X2_faultOf : Cond.code yX2_faultOf cX2_faultOf 4 (some .int) ∈ WA := wa_tg (wa_t2 45 rfl) rfl
theorem wl_X2_32 : Cond.methodLink RX2 32 yX2_takes ∈ WA := wa_tg (wa_t2 46 rfl) rfl
theorem wv_X2_takes : Cond.instanceMethod yX2_takes ∈ WA := wa_tg (wa_t2 48 rfl) rfl
theorem wc_X2_takes : Cond.code yX2_takes cX2_takes 2 (some .boolean) ∈ WA := wa_tg (wa_t2 49 rfl) rfl
theorem wl_X2_40 : Cond.methodLink RX2 40 yX2_takesFactor ∈ WA := wa_tg (wa_t2 50 rfl) rfl
theorem wv_X2_takesFactor : Cond.instanceMethod yX2_takesFactor ∈ WA := wa_tg (wa_t2 52 rfl) rfl
theorem wc_X2_takesFactor : Cond.code yX2_takesFactor cX2_takesFactor 2 (some .boolean) ∈ WA := wa_tg (wa_t2 53 rfl) rfl
theorem wl_X2_43 : Cond.methodLink RX2 43 yX2_isDigit ∈ WA := wa_tg (wa_t2 54 rfl) rfl
theorem ws_X2_isDigit : Cond.static yX2_isDigit ∈ WA := wa_tg (wa_t2 55 rfl) rfl
theorem wc_X2_isDigit : Cond.code yX2_isDigit cX2_isDigit 1 (some .boolean) ∈ WA := wa_tg (wa_t2 56 rfl) rfl
theorem wl_X2_52 : Cond.methodLink RX2 52 yX2_addStep ∈ WA := wa_tg (wa_t2 57 rfl) rfl
theorem wv_X2_addStep : Cond.instanceMethod yX2_addStep ∈ WA := wa_tg (wa_t2 59 rfl) rfl
theorem wc_X2_addStep : Cond.code yX2_addStep cX2_addStep 2 none ∈ WA := wa_tg (wa_t2 60 rfl) rfl
theorem wq_X2_55 : Cond.constantLong RX2 55 (65) ∈ WA := wa_tg (wa_t2 61 rfl) rfl
theorem wq_X2_57 : Cond.constantLong RX2 57 (72) ∈ WA := wa_tg (wa_t2 62 rfl) rfl
theorem wl_X2_63 : Cond.methodLink RX2 63 yX2_push ∈ WA := wa_tg (wa_t2 64 rfl) rfl
theorem wv_X2_push : Cond.instanceMethod yX2_push ∈ WA := wa_tg (wa_t2 66 rfl) rfl
theorem wc_X2_push : Cond.code yX2_push cX2_push 2 none ∈ WA := wa_tg (wa_t2 67 rfl) rfl
theorem wl_X2_46 : Cond.methodLink RX2 46 yX2_takesDigit ∈ WA := wa_tg (wa_t2 68 rfl) rfl
theorem wv_X2_takesDigit : Cond.instanceMethod yX2_takesDigit ∈ WA := wa_tg (wa_t2 70 rfl) rfl
theorem wc_X2_takesDigit : Cond.code yX2_takesDigit cX2_takesDigit 4 (some .boolean) ∈ WA := wa_tg (wa_t2 71 rfl) rfl
theorem wl_X2_49 : Cond.methodLink RX2 49 yX2_takesBehind ∈ WA := wa_tg (wa_t2 72 rfl) rfl
theorem wv_X2_takesBehind : Cond.instanceMethod yX2_takesBehind ∈ WA := wa_tg (wa_t2 74 rfl) rfl
theorem wc_X2_takesBehind : Cond.code yX2_takesBehind cX2_takesBehind 3 (some .boolean) ∈ WA := wa_tg (wa_t2 75 rfl) rfl
theorem wl_X2_67 : Cond.methodLink RX2 67 yX2_closeBracket ∈ WA := wa_tg (wa_t2 76 rfl) rfl
theorem wv_X2_closeBracket : Cond.instanceMethod yX2_closeBracket ∈ WA := wa_tg (wa_t2 78 rfl) rfl
theorem wc_X2_closeBracket : Cond.code yX2_closeBracket cX2_closeBracket 2 none ∈ WA := wa_tg (wa_t2 79 rfl) rfl
theorem wl_X2_36 : Cond.methodLink RX2 36 yX2_release ∈ WA := wa_tg (wa_t2 80 rfl) rfl
theorem wv_X2_release : Cond.instanceMethod yX2_release ∈ WA := wa_tg (wa_t2 82 rfl) rfl
theorem wc_X2_release : Cond.code yX2_release cX2_release 2 none ∈ WA := wa_tg (wa_t2 83 rfl) rfl
theorem wl_X2_74 : Cond.methodLink RX2 74 yX2_top ∈ WA := wa_tg (wa_t2 84 rfl) rfl
theorem wv_X2_top : Cond.instanceMethod yX2_top ∈ WA := wa_tg (wa_t2 86 rfl) rfl
theorem wc_X2_top : Cond.code yX2_top cX2_top 2 (some .char) ∈ WA := wa_tg (wa_t2 87 rfl) rfl
theorem wl_X2_70 : Cond.methodLink RX2 70 yX2_strengthOf ∈ WA := wa_tg (wa_t2 88 rfl) rfl
theorem ws_X2_strengthOf : Cond.static yX2_strengthOf ∈ WA := wa_tg (wa_t2 89 rfl) rfl
theorem wc_X2_strengthOf : Cond.code yX2_strengthOf cX2_strengthOf 1 (some .int) ∈ WA := wa_tg (wa_t2 90 rfl) rfl
theorem wl_L_94 : Cond.methodLink RL 94 yX5_load ∈ WA := wa_tg (wa_t2 91 rfl) rfl
theorem wv_X5_load : Cond.instanceMethod yX5_load ∈ WA := wa_tg (wa_t2 92 rfl) rfl
theorem we_X5_load : Cond.selects RX5 yX5_load yX5_load ∈ WA := wa_tg (wa_t2 93 rfl) rfl
theorem wc_X5_load : Cond.code yX5_load cX5_load 3 (some .int) ∈ WA := wa_tg (wa_t2 94 rfl) rfl
theorem wq_X5_101 : Cond.constantLong RX5 101 (5) ∈ WA := wa_tg (wa_t2 95 rfl) rfl
theorem wk_X5_103 : Cond.classLink RX5 103 RX0 ∈ WA := wa_tg (wa_t2 96 rfl) rfl
theorem wn_X0 : Cond.instantiable RX0 1 ∈ WA := wa_tg (wa_t2 97 rfl) rfl
theorem wv_X0_init : Cond.instanceMethod yX0_init ∈ WA := wa_tg (wa_t2 99 rfl) rfl
theorem wc_X0_init : Cond.code yX0_init cX0_init 4 none ∈ WA := wa_tg (wa_t2 100 rfl) rfl
theorem wl_X0_3 : Cond.methodLink RX0 3 ⟨"java/lang/Object", "<init>", "()V"⟩ ∈ WA := wa_tg (wa_t2 101 rfl) rfl
theorem wl_X0_9 : Cond.methodLink RX0 9 ⟨"java/lang/Math", "max", "(II)I"⟩ ∈ WA := wa_tg (wa_t2 102 rfl) rfl
-- 343 (Jvm.Cond.static ({ cls := "java/lang/Math", name := "max", desc := "(II)I" } : Jvm.MethodName))
-- 344 (Jvm.Cond.code ({ cls := "java/lang/Math", name := "max", desc := "(II)I" } : Jvm.MethodName) prog_9_method_65_code (2 : Nat) (Option.some Jvm.ClassFile.FieldType.int))
theorem wf0_X0_15 : Cond.fieldLink RX0 15 "RootRows$Formula" "steps" "[I" ∈ WA := wa_tg (wa_t2 105 rfl) rfl
theorem wv_X4_changeFormula : Cond.instanceMethod yX4_changeFormula ∈ WA := wa_tg (wa_t2 113 rfl) rfl
theorem wc_X4_changeFormula : Cond.code yX4_changeFormula cX4_changeFormula 3 none ∈ WA := wa_tg (wa_t2 114 rfl) rfl
theorem wl_L_148 : Cond.methodLink RL 148 yL_isFormula ∈ WA := wa_tg (wa_t2 115 rfl) rfl
theorem ws_L_isFormula : Cond.static yL_isFormula ∈ WA := wa_tg (wa_t2 116 rfl) rfl
theorem wc_L_isFormula : Cond.code yL_isFormula cL_isFormula 6 (some .boolean) ∈ WA := wa_tg (wa_t2 117 rfl) rfl
theorem wl_L_97 : Cond.methodLink RL 97 yX5_stepValue ∈ WA := wa_tg (wa_t2 118 rfl) rfl
theorem wv_X5_stepValue : Cond.instanceMethod yX5_stepValue ∈ WA := wa_tg (wa_t2 119 rfl) rfl
theorem we_X5_stepValue : Cond.selects RX5 yX5_stepValue yX5_stepValue ∈ WA := wa_tg (wa_t2 120 rfl) rfl
theorem wc_X5_stepValue : Cond.code yX5_stepValue cX5_stepValue 4 (some .long) ∈ WA := wa_tg (wa_t2 121 rfl) rfl
theorem wv_X3_reckon : Cond.instanceMethod yX3_reckon ∈ WA := wa_tg (wa_t2 125 rfl) rfl
theorem wc_X3_reckon : Cond.code yX3_reckon cX3_reckon 6 none ∈ WA := wa_tg (wa_t2 126 rfl) rfl
theorem wl_X3_34 : Cond.methodLink RX3 34 yX3_numberOf ∈ WA := wa_tg (wa_t2 127 rfl) rfl
theorem wv_X3_numberOf : Cond.instanceMethod yX3_numberOf ∈ WA := wa_tg (wa_t2 129 rfl) rfl
theorem wc_X3_numberOf : Cond.code yX3_numberOf cX3_numberOf 6 (some .long) ∈ WA := wa_tg (wa_t2 130 rfl) rfl
theorem wq_X3_44 : Cond.constantLong RX3 44 (7) ∈ WA := wa_tg (wa_t2 131 rfl) rfl
theorem wl_X3_56 : Cond.methodLink RX3 56 yX3_pop ∈ WA := wa_tg (wa_t2 134 rfl) rfl
theorem wv_X3_pop : Cond.instanceMethod yX3_pop ∈ WA := wa_tg (wa_t2 136 rfl) rfl
theorem wc_X3_pop : Cond.code yX3_pop cX3_pop 1 (some .long) ∈ WA := wa_tg (wa_t2 137 rfl) rfl
theorem ws_X5_rootRounded : Cond.static yX5_rootRounded ∈ WA := wa_tg (wa_t2 140 rfl) rfl
theorem wc_X5_rootRounded : Cond.code yX5_rootRounded cX5_rootRounded 9 (some .long) ∈ WA := wa_tg (wa_t2 141 rfl) rfl
theorem wl_X5_167 : Cond.methodLink RX5 167 yX5_rootDown ∈ WA := wa_tg (wa_t2 142 rfl) rfl
theorem ws_X5_rootDown : Cond.static yX5_rootDown ∈ WA := wa_tg (wa_t2 143 rfl) rfl
theorem wc_X5_rootDown : Cond.code yX5_rootDown cX5_rootDown 7 (some .long) ∈ WA := wa_tg (wa_t2 144 rfl) rfl
theorem wl_X5_250 : Cond.methodLink RX5 250 yX5_firstBit ∈ WA := wa_tg (wa_t2 145 rfl) rfl
theorem ws_X5_firstBit : Cond.static yX5_firstBit ∈ WA := wa_tg (wa_t2 146 rfl) rfl
theorem wc_X5_firstBit : Cond.code yX5_firstBit cX5_firstBit 5 (some .long) ∈ WA := wa_tg (wa_t2 147 rfl) rfl
theorem wq_X5_248 : Cond.constantLong RX5 248 (1073741824) ∈ WA := wa_tg (wa_t2 148 rfl) rfl
theorem wq_X5_52 : Cond.constantLong RX5 52 (2) ∈ WA := wa_tg (wa_t2 149 rfl) rfl
theorem wl_X5_171 : Cond.methodLink RX5 171 yX5_power ∈ WA := wa_tg (wa_t2 150 rfl) rfl
theorem ws_X5_power : Cond.static yX5_power ∈ WA := wa_tg (wa_t2 151 rfl) rfl
theorem wc_X5_power : Cond.code yX5_power cX5_power 3 (some .long) ∈ WA := wa_tg (wa_t2 152 rfl) rfl
theorem wq_X5_253 : Cond.constantLong RX5 253 (8) ∈ WA := wa_tg (wa_t2 153 rfl) rfl
theorem wl_X3_68 : Cond.methodLink RX3 68 yX3_product ∈ WA := wa_tg (wa_t2 154 rfl) rfl
theorem ws_X3_product : Cond.static yX3_product ∈ WA := wa_tg (wa_t2 155 rfl) rfl
theorem wc_X3_product : Cond.code yX3_product cX3_product 4 (some .long) ∈ WA := wa_tg (wa_t2 156 rfl) rfl
theorem wq_X3_38 : Cond.constantLong RX3 38 (1000000000000) ∈ WA := wa_tg (wa_t2 157 rfl) rfl
theorem wq_X3_72 : Cond.constantLong RX3 72 (1000000000001) ∈ WA := wa_tg (wa_t2 158 rfl) rfl
theorem wl_X3_40 : Cond.methodLink RX3 40 yX3_push ∈ WA := wa_tg (wa_t2 159 rfl) rfl
theorem wv_X3_push : Cond.instanceMethod yX3_push ∈ WA := wa_tg (wa_t2 161 rfl) rfl
theorem wc_X3_push : Cond.code yX3_push cX3_push 3 none ∈ WA := wa_tg (wa_t2 162 rfl) rfl
theorem wv_X3_valueOf : Cond.instanceMethod yX3_valueOf ∈ WA := wa_tg (wa_t2 165 rfl) rfl
theorem wc_X3_valueOf : Cond.code yX3_valueOf cX3_valueOf 2 (some .long) ∈ WA := wa_tg (wa_t2 166 rfl) rfl
theorem wq_X5_131 : Cond.constantLong RX5 131 (-5) ∈ WA := wa_tg (wa_t2 167 rfl) rfl
theorem wq_L_101 : Cond.constantLong RL 101 (-5) ∈ WA := wa_tg (wa_t2 168 rfl) rfl
theorem wl_L_103 : Cond.methodLink RL 103 yX5_ofFormula ∈ WA := wa_tg (wa_t2 169 rfl) rfl
theorem wv_X5_ofFormula : Cond.instanceMethod yX5_ofFormula ∈ WA := wa_tg (wa_t2 170 rfl) rfl
theorem we_X5_ofFormula : Cond.selects RX5 yX5_ofFormula yX5_ofFormula ∈ WA := wa_tg (wa_t2 171 rfl) rfl
theorem wc_X5_ofFormula : Cond.code yX5_ofFormula cX5_ofFormula 4 (some .int) ∈ WA := wa_tg (wa_t2 172 rfl) rfl
theorem wv_X0_cellsNamed : Cond.instanceMethod yX0_cellsNamed ∈ WA := wa_tg (wa_t2 175 rfl) rfl
theorem wc_X0_cellsNamed : Cond.code yX0_cellsNamed cX0_cellsNamed 4 (some .int) ∈ WA := wa_tg (wa_t2 176 rfl) rfl
theorem wq_X0_21 : Cond.constantLong RX0 21 (7) ∈ WA := wa_tg (wa_t2 177 rfl) rfl
theorem wv_X0_rootsInside : Cond.instanceMethod yX0_rootsInside ∈ WA := wa_tg (wa_t2 181 rfl) rfl
theorem wc_X0_rootsInside : Cond.code yX0_rootsInside cX0_rootsInside 3 (some .int) ∈ WA := wa_tg (wa_t2 182 rfl) rfl
theorem wq_L_107 : Cond.constantLong RL 107 (-1) ∈ WA := wa_tg (wa_t2 183 rfl) rfl
theorem wl_L_109 : Cond.methodLink RL 109 yX5_value ∈ WA := wa_tg (wa_t2 184 rfl) rfl
theorem wv_X5_value : Cond.instanceMethod yX5_value ∈ WA := wa_tg (wa_t2 185 rfl) rfl
theorem we_X5_value : Cond.selects RX5 yX5_value yX5_value ∈ WA := wa_tg (wa_t2 186 rfl) rfl
theorem wc_X5_value : Cond.code yX5_value cX5_value 3 (some .long) ∈ WA := wa_tg (wa_t2 187 rfl) rfl
theorem wv_X3_result : Cond.instanceMethod yX3_result ∈ WA := wa_tg (wa_t2 190 rfl) rfl
theorem wc_X3_result : Cond.code yX3_result cX3_result 1 (some .long) ∈ WA := wa_tg (wa_t2 191 rfl) rfl
theorem wl_X3_74 : Cond.methodLink RX3 74 yX3_valueOf ∈ WA := wa_tg (wa_t2 192 rfl) rfl
theorem wl_L_152 : Cond.methodLink RL 152 yL_isAssigned ∈ WA := wa_tg (wa_t2 193 rfl) rfl
theorem ws_L_isAssigned : Cond.static yL_isAssigned ∈ WA := wa_tg (wa_t2 194 rfl) rfl
theorem wc_L_isAssigned : Cond.code yL_isAssigned cL_isAssigned 10 (some .boolean) ∈ WA := wa_tg (wa_t2 195 rfl) rfl
theorem wl_L_112 : Cond.methodLink RL 112 yX5_assign ∈ WA := wa_tg (wa_t2 196 rfl) rfl
theorem wv_X5_assign : Cond.instanceMethod yX5_assign ∈ WA := wa_tg (wa_t2 197 rfl) rfl
theorem we_X5_assign : Cond.selects RX5 yX5_assign yX5_assign ∈ WA := wa_tg (wa_t2 198 rfl) rfl
theorem wc_X5_assign : Cond.code yX5_assign cX5_assign 4 (some .long) ∈ WA := wa_tg (wa_t2 199 rfl) rfl
theorem wl_L_156 : Cond.methodLink RL 156 yL_isSettled ∈ WA := wa_tg (wa_t2 200 rfl) rfl
theorem ws_L_isSettled : Cond.static yL_isSettled ∈ WA := wa_tg (wa_t2 201 rfl) rfl
theorem wc_L_isSettled : Cond.code yL_isSettled cL_isSettled 13 (some .boolean) ∈ WA := wa_tg (wa_t2 202 rfl) rfl
theorem wl_L_115 : Cond.methodLink RL 115 yX5_settle ∈ WA := wa_tg (wa_t2 203 rfl) rfl
theorem wv_X5_settle : Cond.instanceMethod yX5_settle ∈ WA := wa_tg (wa_t2 204 rfl) rfl
theorem we_X5_settle : Cond.selects RX5 yX5_settle yX5_settle ∈ WA := wa_tg (wa_t2 205 rfl) rfl
theorem wc_X5_settle : Cond.code yX5_settle cX5_settle 6 (some .int) ∈ WA := wa_tg (wa_t2 206 rfl) rfl
theorem wq_X5_137 : Cond.constantLong RX5 137 (100) ∈ WA := wa_tg (wa_t2 207 rfl) rfl
theorem wl_L_119 : Cond.methodLink RL 119 yX5_save ∈ WA := wa_tg (wa_t2 208 rfl) rfl
theorem wv_X5_save : Cond.instanceMethod yX5_save ∈ WA := wa_tg (wa_t2 209 rfl) rfl
theorem we_X5_save : Cond.selects RX5 yX5_save yX5_save ∈ WA := wa_tg (wa_t2 210 rfl) rfl
theorem wc_X5_save : Cond.code yX5_save cX5_save 2 (some .int) ∈ WA := wa_tg (wa_t2 211 rfl) rfl
theorem wl_L_122 : Cond.methodLink RL 122 yX5_restore ∈ WA := wa_tg (wa_t2 212 rfl) rfl
theorem wv_X5_restore : Cond.instanceMethod yX5_restore ∈ WA := wa_tg (wa_t2 213 rfl) rfl
theorem we_X5_restore : Cond.selects RX5 yX5_restore yX5_restore ∈ WA := wa_tg (wa_t2 214 rfl) rfl
theorem wc_X5_restore : Cond.code yX5_restore cX5_restore 3 (some .int) ∈ WA := wa_tg (wa_t2 215 rfl) rfl
theorem wl_L_160 : Cond.methodLink RL 160 yX5_set ∈ WA := wa_tg (wa_t2 216 rfl) rfl
theorem wv_X5_set : Cond.instanceMethod yX5_set ∈ WA := wa_tg (wa_t2 217 rfl) rfl
theorem we_X5_set : Cond.selects RX5 yX5_set yX5_set ∈ WA := wa_tg (wa_t2 218 rfl) rfl
theorem wc_X5_set : Cond.code yX5_set cX5_set 4 (some .int) ∈ WA := wa_tg (wa_t2 219 rfl) rfl
theorem wq_X5_54 : Cond.constantLong RX5 54 (6) ∈ WA := wa_tg (wa_t2 220 rfl) rfl
theorem wv_X4_changeSetting : Cond.instanceMethod yX4_changeSetting ∈ WA := wa_tg (wa_t2 223 rfl) rfl
theorem wc_X4_changeSetting : Cond.code yX4_changeSetting cX4_changeSetting 3 none ∈ WA := wa_tg (wa_t2 224 rfl) rfl
theorem wl_L_166 : Cond.methodLink RL 166 yL_isRoot ∈ WA := wa_tg (wa_t2 225 rfl) rfl
theorem ws_L_isRoot : Cond.static yL_isRoot ∈ WA := wa_tg (wa_t2 226 rfl) rfl
theorem wc_L_isRoot : Cond.code yL_isRoot cL_isRoot 13 (some .boolean) ∈ WA := wa_tg (wa_t2 227 rfl) rfl
theorem wl_L_132 : Cond.methodLink RL 132 yX5_root ∈ WA := wa_tg (wa_t2 228 rfl) rfl
theorem wv_X5_root : Cond.instanceMethod yX5_root ∈ WA := wa_tg (wa_t2 229 rfl) rfl
theorem we_X5_root : Cond.selects RX5 yX5_root yX5_root ∈ WA := wa_tg (wa_t2 230 rfl) rfl
theorem wc_X5_root : Cond.code yX5_root cX5_root 4 (some .int) ∈ WA := wa_tg (wa_t2 231 rfl) rfl
theorem wq_X5_161 : Cond.constantLong RX5 161 (3) ∈ WA := wa_tg (wa_t2 232 rfl) rfl
theorem wl_X5_163 : Cond.methodLink RX5 163 yX5_rootRounded ∈ WA := wa_tg (wa_t2 233 rfl) rfl
theorem wl_L_135 : Cond.methodLink RL 135 yX5_remainder ∈ WA := wa_tg (wa_t2 234 rfl) rfl
theorem wv_X5_remainder : Cond.instanceMethod yX5_remainder ∈ WA := wa_tg (wa_t2 235 rfl) rfl
theorem we_X5_remainder : Cond.selects RX5 yX5_remainder yX5_remainder ∈ WA := wa_tg (wa_t2 236 rfl) rfl
theorem wc_X5_remainder : Cond.code yX5_remainder cX5_remainder 4 (some .long) ∈ WA := wa_tg (wa_t2 237 rfl) rfl
theorem wl_L_138 : Cond.methodLink RL 138 yX5_bit ∈ WA := wa_tg (wa_t2 238 rfl) rfl
theorem wv_X5_bit : Cond.instanceMethod yX5_bit ∈ WA := wa_tg (wa_t2 239 rfl) rfl
theorem we_X5_bit : Cond.selects RX5 yX5_bit yX5_bit ∈ WA := wa_tg (wa_t3 0 rfl) rfl
theorem wc_X5_bit : Cond.code yX5_bit cX5_bit 6 (some .long) ∈ WA := wa_tg (wa_t3 1 rfl) rfl
theorem wl_X5_174 : Cond.methodLink RX5 174 yX5_bitsOfRoot ∈ WA := wa_tg (wa_t3 2 rfl) rfl
theorem ws_X5_bitsOfRoot : Cond.static yX5_bitsOfRoot ∈ WA := wa_tg (wa_t3 3 rfl) rfl
theorem wc_X5_bitsOfRoot : Cond.code yX5_bitsOfRoot cX5_bitsOfRoot 6 (some .int) ∈ WA := wa_tg (wa_t3 4 rfl) rfl
theorem wl_X5_178 : Cond.methodLink RX5 178 yX5_behindBit ∈ WA := wa_tg (wa_t3 5 rfl) rfl
theorem ws_X5_behindBit : Cond.static yX5_behindBit ∈ WA := wa_tg (wa_t3 6 rfl) rfl
theorem wc_X5_behindBit : Cond.code yX5_behindBit cX5_behindBit 11 (some .long) ∈ WA := wa_tg (wa_t3 7 rfl) rfl
theorem wq_X5_213 : Cond.constantLong RX5 213 (-6) ∈ WA := wa_tg (wa_t3 8 rfl) rfl
theorem wq_L_142 : Cond.constantLong RL 142 (-6) ∈ WA := wa_tg (wa_t3 9 rfl) rfl
theorem we_X4_cellValue : Cond.selects RX4 yX4_cellValue yX4_cellValue ∈ WA := wa_of 0 rfl rfl
theorem we_X5_keepState : Cond.selects RX5 yX5_keepState yX5_keepState ∈ WA := wa_of 1 rfl rfl
theorem we_X4_become : Cond.selects RX4 yX4_become yX4_become ∈ WA := wa_of 2 rfl rfl
theorem we_X4_setting : Cond.selects RX4 yX4_setting yX4_setting ∈ WA := wa_of 3 rfl rfl
theorem we_X4_formula : Cond.selects RX4 yX4_formula yX4_formula ∈ WA := wa_of 4 rfl rfl
theorem we_X4_changeCell : Cond.selects RX4 yX4_changeCell yX4_changeCell ∈ WA := wa_of 5 rfl rfl
theorem we_X5_addToPad : Cond.selects RX5 yX5_addToPad yX5_addToPad ∈ WA := wa_of 6 rfl rfl
theorem we_X4_formulasThere : Cond.selects RX4 yX4_formulasThere yX4_formulasThere ∈ WA := wa_of 7 rfl rfl
theorem we_X4_cellsNotZero : Cond.selects RX4 yX4_cellsNotZero yX4_cellsNotZero ∈ WA := wa_of 8 rfl rfl
theorem we_X2_faultOf : Cond.selects RX2 yX2_faultOf yX2_faultOf ∈ WA := wa_of 9 rfl rfl
theorem we_X2_takes : Cond.selects RX2 yX2_takes yX2_takes ∈ WA := wa_of 10 rfl rfl
theorem we_X2_takesFactor : Cond.selects RX2 yX2_takesFactor yX2_takesFactor ∈ WA := wa_of 11 rfl rfl
theorem we_X2_addStep : Cond.selects RX2 yX2_addStep yX2_addStep ∈ WA := wa_of 12 rfl rfl
theorem we_X2_push : Cond.selects RX2 yX2_push yX2_push ∈ WA := wa_of 13 rfl rfl
theorem we_X2_takesDigit : Cond.selects RX2 yX2_takesDigit yX2_takesDigit ∈ WA := wa_of 14 rfl rfl
theorem we_X2_takesBehind : Cond.selects RX2 yX2_takesBehind yX2_takesBehind ∈ WA := wa_of 15 rfl rfl
theorem we_X2_closeBracket : Cond.selects RX2 yX2_closeBracket yX2_closeBracket ∈ WA := wa_of 16 rfl rfl
theorem we_X2_release : Cond.selects RX2 yX2_release yX2_release ∈ WA := wa_of 17 rfl rfl
theorem we_X2_top : Cond.selects RX2 yX2_top yX2_top ∈ WA := wa_of 18 rfl rfl
theorem we_X4_changeFormula : Cond.selects RX4 yX4_changeFormula yX4_changeFormula ∈ WA := wa_of 19 rfl rfl
theorem we_X3_reckon : Cond.selects RX3 yX3_reckon yX3_reckon ∈ WA := wa_of 20 rfl rfl
theorem we_X3_numberOf : Cond.selects RX3 yX3_numberOf yX3_numberOf ∈ WA := wa_of 21 rfl rfl
theorem we_X3_pop : Cond.selects RX3 yX3_pop yX3_pop ∈ WA := wa_of 22 rfl rfl
theorem we_X3_push : Cond.selects RX3 yX3_push yX3_push ∈ WA := wa_of 23 rfl rfl
theorem we_X3_valueOf : Cond.selects RX3 yX3_valueOf yX3_valueOf ∈ WA := wa_of 24 rfl rfl
theorem we_X0_cellsNamed : Cond.selects RX0 yX0_cellsNamed yX0_cellsNamed ∈ WA := wa_of 25 rfl rfl
theorem we_X0_rootsInside : Cond.selects RX0 yX0_rootsInside yX0_rootsInside ∈ WA := wa_of 26 rfl rfl
theorem we_X3_result : Cond.selects RX3 yX3_result yX3_result ∈ WA := wa_of 27 rfl rfl
theorem we_X4_changeSetting : Cond.selects RX4 yX4_changeSetting yX4_changeSetting ∈ WA := wa_of 28 rfl rfl
theorem wu_X0 : ∀ w ∈ u_ws RX0 TX0 1, w ∈ WA := by
  intro w hw
  obtain ⟨k, hk, rfl⟩ := List.mem_map.mp hw
  have hk := List.mem_range.mp hk
  match k, hk with
  | 0, _ => exact wa_tg (wa_t2 108 rfl) rfl
  | k + 1, h => exact absurd h (by omega)
theorem wcl_X0 : vwCl[0]? = some (RX0, TX0, 1) := rfl
theorem wu_X1 : ∀ w ∈ u_ws RX1 TX1 9, w ∈ WA := by
  intro w hw
  obtain ⟨k, hk, rfl⟩ := List.mem_map.mp hw
  have hk := List.mem_range.mp hk
  match k, hk with
  | 0, _ => exact wa_tg (wa_t1 95 rfl) rfl
  | 1, _ => exact wa_tg (wa_t1 97 rfl) rfl
  | 2, _ => exact wa_tg (wa_t1 99 rfl) rfl
  | 3, _ => exact wa_tg (wa_t1 101 rfl) rfl
  | 4, _ => exact wa_tg (wa_t1 103 rfl) rfl
  | 5, _ => exact wa_tg (wa_t1 105 rfl) rfl
  | 6, _ => exact wa_tg (wa_t1 107 rfl) rfl
  | 7, _ => exact wa_tg (wa_t1 109 rfl) rfl
  | 8, _ => exact wa_tg (wa_t1 111 rfl) rfl
  | k + 9, h => exact absurd h (by omega)
theorem wcl_X1 : vwCl[1]? = some (RX1, TX1, 9) := rfl
theorem wu_X2 : ∀ w ∈ u_ws RX2 TX2 6, w ∈ WA := by
  intro w hw
  obtain ⟨k, hk, rfl⟩ := List.mem_map.mp hw
  have hk := List.mem_range.mp hk
  match k, hk with
  | 0, _ => exact wa_tg (wa_t1 51 rfl) rfl
  | 1, _ => exact wa_tg (wa_t1 53 rfl) rfl
  | 2, _ => exact wa_tg (wa_t1 55 rfl) rfl
  | 3, _ => exact wa_tg (wa_t1 57 rfl) rfl
  | 4, _ => exact wa_tg (wa_t1 59 rfl) rfl
  | 5, _ => exact wa_tg (wa_t1 61 rfl) rfl
  | k + 6, h => exact absurd h (by omega)
theorem wcl_X2 : vwCl[2]? = some (RX2, TX2, 6) := rfl
theorem wu_X3 : ∀ w ∈ u_ws RX3 TX3 5, w ∈ WA := by
  intro w hw
  obtain ⟨k, hk, rfl⟩ := List.mem_map.mp hw
  have hk := List.mem_range.mp hk
  match k, hk with
  | 0, _ => exact wa_tg (wa_t1 78 rfl) rfl
  | 1, _ => exact wa_tg (wa_t1 80 rfl) rfl
  | 2, _ => exact wa_tg (wa_t1 82 rfl) rfl
  | 3, _ => exact wa_tg (wa_t1 84 rfl) rfl
  | 4, _ => exact wa_tg (wa_t1 86 rfl) rfl
  | k + 5, h => exact absurd h (by omega)
theorem wcl_X3 : vwCl[3]? = some (RX3, TX3, 5) := rfl
theorem wu_X4 : ∀ w ∈ u_ws RX4 TX4 3, w ∈ WA := by
  intro w hw
  obtain ⟨k, hk, rfl⟩ := List.mem_map.mp hw
  have hk := List.mem_range.mp hk
  match k, hk with
  | 0, _ => exact wa_tg (wa_t1 27 rfl) rfl
  | 1, _ => exact wa_tg (wa_t1 29 rfl) rfl
  | 2, _ => exact wa_tg (wa_t1 31 rfl) rfl
  | k + 3, h => exact absurd h (by omega)
theorem wcl_X4 : vwCl[4]? = some (RX4, TX4, 3) := rfl
theorem wu_X5 : ∀ w ∈ u_ws RX5 TX5 10, w ∈ WA := by
  intro w hw
  obtain ⟨k, hk, rfl⟩ := List.mem_map.mp hw
  have hk := List.mem_range.mp hk
  match k, hk with
  | 0, _ => exact wa_tg (wa_t1 124 rfl) rfl
  | 1, _ => exact wa_tg (wa_t1 126 rfl) rfl
  | 2, _ => exact wa_tg (wa_t1 128 rfl) rfl
  | 3, _ => exact wa_tg (wa_t1 130 rfl) rfl
  | 4, _ => exact wa_tg (wa_t1 132 rfl) rfl
  | 5, _ => exact wa_tg (wa_t1 134 rfl) rfl
  | 6, _ => exact wa_tg (wa_t1 136 rfl) rfl
  | 7, _ => exact wa_tg (wa_t1 138 rfl) rfl
  | 8, _ => exact wa_tg (wa_t1 140 rfl) rfl
  | 9, _ => exact wa_tg (wa_t1 142 rfl) rfl
  | k + 10, h => exact absurd h (by omega)
theorem wcl_X5 : vwCl[5]? = some (RX5, TX5, 10) := rfl
theorem wv_objInit : Cond.instanceMethod Lib.objectInit ∈ WA := wa_tg (wa_t1 14 rfl) rfl
theorem wc_objInit : Cond.code Lib.objectInit ⟨#[0xb1]⟩ 1 none ∈ WA := wa_tg (wa_t1 15 rfl) rfl
theorem ws_max : Cond.static Lib.Math.max.name ∈ WA := wa_tg (wa_t2 103 rfl) rfl
theorem wc_max : Cond.code Lib.Math.max.name Lib.Math.max.code 2 (some .int) ∈ WA := wa_tg (wa_t2 104 rfl) rfl
def wNm : List (String × Nat × MethodName) := [(RX5, 9, yX4_init), (RX5, 29, yX2_init), (RX5, 36, yX3_init), (RX5, 43, yX1_init), (RX5, 75, yX4_cellValue), (RX5, 238, yX4_become), (RX5, 79, yX4_changeCell), (RX5, 152, yX4_formulasThere), (RX5, 59, yX4_setting), (RX5, 158, yX4_cellsNotZero), (RX5, 97, yX2_faultOf), (RX2, 59, yX5_within), (RX5, 112, yX0_init), (RX5, 115, yX4_changeFormula), (RX5, 120, yX4_formula), (RX5, 124, yX3_reckon), (RX3, 46, yX5_within), (RX3, 50, yX4_cellValue), (RX3, 60, yX4_setting), (RX3, 64, yX5_rootRounded), (RX5, 149, yX3_valueOf), (RX5, 139, yX0_cellsNamed), (RX0, 23, yX5_within), (RX5, 146, yX0_rootsInside), (RX5, 133, yX3_result), (RX5, 63, yX4_changeSetting)]
def wNf : List (String × Nat × String × String × String) := [(RX5, 105, "RootRows$Reader", "steps", "[I"), (RX5, 109, "RootRows$Reader", "size", "I"), (RX5, 143, "RootRows$Reckoner", "reached", "I"), (RX5, 128, "RootRows$Reckoner", "reason", "I"), (RX3, 28, "RootRows$Formula", "steps", "[I"), (RX5, 119, "RootRows$Formula", "steps", "[I")]
theorem wl_X5_9 : (RX5, 9, yX4_init) ∈ wNm := List.mem_of_getElem? (i := 0) rfl
theorem wl_X5_29 : (RX5, 29, yX2_init) ∈ wNm := List.mem_of_getElem? (i := 1) rfl
theorem wl_X5_36 : (RX5, 36, yX3_init) ∈ wNm := List.mem_of_getElem? (i := 2) rfl
theorem wl_X5_43 : (RX5, 43, yX1_init) ∈ wNm := List.mem_of_getElem? (i := 3) rfl
theorem wl_X5_75 : (RX5, 75, yX4_cellValue) ∈ wNm := List.mem_of_getElem? (i := 4) rfl
theorem wl_X5_238 : (RX5, 238, yX4_become) ∈ wNm := List.mem_of_getElem? (i := 5) rfl
theorem wl_X5_79 : (RX5, 79, yX4_changeCell) ∈ wNm := List.mem_of_getElem? (i := 6) rfl
theorem wl_X5_152 : (RX5, 152, yX4_formulasThere) ∈ wNm := List.mem_of_getElem? (i := 7) rfl
theorem wl_X5_59 : (RX5, 59, yX4_setting) ∈ wNm := List.mem_of_getElem? (i := 8) rfl
theorem wl_X5_158 : (RX5, 158, yX4_cellsNotZero) ∈ wNm := List.mem_of_getElem? (i := 9) rfl
theorem wl_X5_97 : (RX5, 97, yX2_faultOf) ∈ wNm := List.mem_of_getElem? (i := 10) rfl
theorem wl_X2_59 : (RX2, 59, yX5_within) ∈ wNm := List.mem_of_getElem? (i := 11) rfl
theorem wl_X5_112 : (RX5, 112, yX0_init) ∈ wNm := List.mem_of_getElem? (i := 12) rfl
theorem wl_X5_115 : (RX5, 115, yX4_changeFormula) ∈ wNm := List.mem_of_getElem? (i := 13) rfl
theorem wl_X5_120 : (RX5, 120, yX4_formula) ∈ wNm := List.mem_of_getElem? (i := 14) rfl
theorem wl_X5_124 : (RX5, 124, yX3_reckon) ∈ wNm := List.mem_of_getElem? (i := 15) rfl
theorem wl_X3_46 : (RX3, 46, yX5_within) ∈ wNm := List.mem_of_getElem? (i := 16) rfl
theorem wl_X3_50 : (RX3, 50, yX4_cellValue) ∈ wNm := List.mem_of_getElem? (i := 17) rfl
theorem wl_X3_60 : (RX3, 60, yX4_setting) ∈ wNm := List.mem_of_getElem? (i := 18) rfl
theorem wl_X3_64 : (RX3, 64, yX5_rootRounded) ∈ wNm := List.mem_of_getElem? (i := 19) rfl
theorem wl_X5_149 : (RX5, 149, yX3_valueOf) ∈ wNm := List.mem_of_getElem? (i := 20) rfl
theorem wl_X5_139 : (RX5, 139, yX0_cellsNamed) ∈ wNm := List.mem_of_getElem? (i := 21) rfl
theorem wl_X0_23 : (RX0, 23, yX5_within) ∈ wNm := List.mem_of_getElem? (i := 22) rfl
theorem wl_X5_146 : (RX5, 146, yX0_rootsInside) ∈ wNm := List.mem_of_getElem? (i := 23) rfl
theorem wl_X5_133 : (RX5, 133, yX3_result) ∈ wNm := List.mem_of_getElem? (i := 24) rfl
theorem wl_X5_63 : (RX5, 63, yX4_changeSetting) ∈ wNm := List.mem_of_getElem? (i := 25) rfl
theorem wNm_ok : ∀ q ∈ wNm, Cond.methodLinkNest q.1 q.2.1 q.2.2 "RootRows" ∈ lw_tbl := by
  intro q hq
  obtain ⟨i, hi⟩ := List.getElem?_of_mem hq
  match i, hi with
  | 0, hi => cases hi; exact wa_t1 18 rfl
  | 1, hi => cases hi; exact wa_t1 39 rfl
  | 2, hi => cases hi; exact wa_t1 67 rfl
  | 3, hi => cases hi; exact wa_t1 91 rfl
  | 4, hi => cases hi; exact wa_t1 156 rfl
  | 5, hi => cases hi; exact wa_t1 174 rfl
  | 6, hi => cases hi; exact wa_t1 187 rfl
  | 7, hi => cases hi; exact wa_t2 17 rfl
  | 8, hi => cases hi; exact wa_t2 21 rfl
  | 9, hi => cases hi; exact wa_t2 22 rfl
  | 10, hi => cases hi; exact wa_t2 42 rfl
  | 11, hi => cases hi; exact wa_t2 63 rfl
  | 12, hi => cases hi; exact wa_t2 98 rfl
  | 13, hi => cases hi; exact wa_t2 111 rfl
  | 14, hi => cases hi; exact wa_t2 122 rfl
  | 15, hi => cases hi; exact wa_t2 123 rfl
  | 16, hi => cases hi; exact wa_t2 132 rfl
  | 17, hi => cases hi; exact wa_t2 133 rfl
  | 18, hi => cases hi; exact wa_t2 138 rfl
  | 19, hi => cases hi; exact wa_t2 139 rfl
  | 20, hi => cases hi; exact wa_t2 163 rfl
  | 21, hi => cases hi; exact wa_t2 173 rfl
  | 22, hi => cases hi; exact wa_t2 178 rfl
  | 23, hi => cases hi; exact wa_t2 179 rfl
  | 24, hi => cases hi; exact wa_t2 188 rfl
  | 25, hi => cases hi; exact wa_t2 221 rfl
  | i + 26, hi => simp [wNm] at hi
theorem wNf_ok : ∀ q ∈ wNf, Cond.fieldLinkNest q.1 q.2.1 q.2.2.1 q.2.2.2.1 q.2.2.2.2 "RootRows" ∈ lw_tbl := by
  intro q hq
  obtain ⟨i, hi⟩ := List.getElem?_of_mem hq
  match i, hi with
  | 0, hi => cases hi; exact wa_t1 44 rfl
  | 1, hi => cases hi; exact wa_t1 47 rfl
  | 2, hi => cases hi; exact wa_t1 75 rfl
  | 3, hi => cases hi; exact wa_t1 77 rfl
  | 4, hi => cases hi; exact wa_t2 106 rfl
  | 5, hi => cases hi; exact wa_t2 107 rfl
  | i + 6, hi => simp [wNf] at hi
/-- a field by its place in an owner's pool -/
def hFl (own : String) (idx : Nat) (T : u_T) (k : Nat) : Prop := Cond.fieldLink own idx (T k).1 (T k).2.1 (T k).2.2.1 ∈ WA ∨ (own, idx, (T k).1, (T k).2.1, (T k).2.2.1) ∈ wNf
theorem wf_X4_9 : hFl RX4 9 TX4 0 := Or.inl wf0_X4_9
theorem wf_X4_15 : hFl RX4 15 TX4 1 := Or.inl wf0_X4_15
theorem wf_X4_21 : hFl RX4 21 TX4 2 := Or.inl wf0_X4_21
theorem wf_X2_9 : hFl RX2 9 TX2 0 := Or.inl wf0_X2_9
theorem wf_X5_105 : hFl RX5 105 TX2 0 := Or.inr (List.mem_of_getElem? (i := 0) rfl)
theorem wf_X2_15 : hFl RX2 15 TX2 1 := Or.inl wf0_X2_15
theorem wf_X2_19 : hFl RX2 19 TX2 2 := Or.inl wf0_X2_19
theorem wf_X5_109 : hFl RX5 109 TX2 2 := Or.inr (List.mem_of_getElem? (i := 1) rfl)
theorem wf_X2_23 : hFl RX2 23 TX2 3 := Or.inl wf0_X2_23
theorem wf_X2_26 : hFl RX2 26 TX2 4 := Or.inl wf0_X2_26
theorem wf_X2_29 : hFl RX2 29 TX2 5 := Or.inl wf0_X2_29
theorem wf_X3_9 : hFl RX3 9 TX3 0 := Or.inl wf0_X3_9
theorem wf_X3_15 : hFl RX3 15 TX3 1 := Or.inl wf0_X3_15
theorem wf_X3_18 : hFl RX3 18 TX3 2 := Or.inl wf0_X3_18
theorem wf_X3_22 : hFl RX3 22 TX3 3 := Or.inl wf0_X3_22
theorem wf_X5_143 : hFl RX5 143 TX3 3 := Or.inr (List.mem_of_getElem? (i := 2) rfl)
theorem wf_X3_25 : hFl RX3 25 TX3 4 := Or.inl wf0_X3_25
theorem wf_X5_128 : hFl RX5 128 TX3 4 := Or.inr (List.mem_of_getElem? (i := 3) rfl)
theorem wf_X5_10 : hFl RX5 10 TX5 0 := Or.inl wf0_X5_10
theorem wf_X5_16 : hFl RX5 16 TX5 1 := Or.inl wf0_X5_16
theorem wf_X5_20 : hFl RX5 20 TX5 2 := Or.inl wf0_X5_20
theorem wf_X5_23 : hFl RX5 23 TX5 3 := Or.inl wf0_X5_23
theorem wf_X5_30 : hFl RX5 30 TX5 4 := Or.inl wf0_X5_30
theorem wf_X5_37 : hFl RX5 37 TX5 5 := Or.inl wf0_X5_37
theorem wf_X5_44 : hFl RX5 44 TX5 6 := Or.inl wf0_X5_44
theorem wf_X5_87 : hFl RX5 87 TX5 7 := Or.inl wf0_X5_87
theorem wf_X5_231 : hFl RX5 231 TX5 8 := Or.inl wf0_X5_231
theorem wf_X5_155 : hFl RX5 155 TX5 9 := Or.inl wf0_X5_155
theorem wf_X0_15 : hFl RX0 15 TX0 0 := Or.inl wf0_X0_15
theorem wf_X3_28 : hFl RX3 28 TX0 0 := Or.inr (List.mem_of_getElem? (i := 4) rfl)
theorem wf_X5_119 : hFl RX5 119 TX0 0 := Or.inr (List.mem_of_getElem? (i := 5) rfl)
