/-- the tables' words that stay so, whatever is resolved meanwhile -/
def TB : List Cond := lw_tbl.filter goodWord
theorem tbw {w : Cond} (i : Nat) (h : tables_1[i]? = some w) (hg : goodWord w = true) : w ∈ TB := List.mem_filter.mpr ⟨List.mem_append_right _ (List.mem_of_getElem? h), hg⟩
theorem tbs {w : Cond} (i : Nat) (h : (k2_sels lw_privs)[i]? = some w) (hg : goodWord w = true) : w ∈ TB := List.mem_filter.mpr ⟨List.mem_append_left _ (List.mem_of_getElem? h), hg⟩
theorem tb_good {c : Cond} (hc : c ∈ TB) : GoodIn TB (c :: TB) := fun w h => by
  rcases List.mem_cons.mp h with rfl | h
  · exact ⟨hc, good_of_word (List.mem_filter.mp hc).2⟩
  · exact ⟨h, good_of_word (List.mem_filter.mp h).2⟩
theorem wi_RL : Cond.initialized RL ∈ TB := tbw 0 rfl rfl
theorem wi_RX10 : Cond.initialized RX10 ∈ TB := tbw 1 rfl rfl
theorem wi_RX3 : Cond.initialized RX3 ∈ TB := tbw 2 rfl rfl
theorem wi_RX0 : Cond.initialized RX0 ∈ TB := tbw 3 rfl rfl
theorem wi_RX7 : Cond.initialized RX7 ∈ TB := tbw 4 rfl rfl
theorem wi_RX6 : Cond.initialized RX6 ∈ TB := tbw 5 rfl rfl
theorem wi_RX5 : Cond.initialized RX5 ∈ TB := tbw 6 rfl rfl
theorem wi_RX2 : Cond.initialized RX2 ∈ TB := tbw 7 rfl rfl
theorem wi_RX8 : Cond.initialized RX8 ∈ TB := tbw 8 rfl rfl
theorem wi_RX4 : Cond.initialized RX4 ∈ TB := tbw 9 rfl rfl
theorem wi_RX9 : Cond.initialized RX9 ∈ TB := tbw 10 rfl rfl
theorem wi_RX11 : Cond.initialized RX11 ∈ TB := tbw 11 rfl rfl
theorem wi_RJ10 : Cond.initialized RJ10 ∈ TB := tbw 12 rfl rfl
theorem wi_RJ6 : Cond.initialized RJ6 ∈ TB := tbw 13 rfl rfl
theorem wi_RX1 : Cond.initialized RX1 ∈ TB := tbw 14 rfl rfl
theorem wi_RJ9 : Cond.initialized RJ9 ∈ TB := tbw 15 rfl rfl
theorem wi_RJ7 : Cond.initialized RJ7 ∈ TB := tbw 16 rfl rfl
theorem wcl_L_7 : Cond.classLink RL 7 RX10 ∈ TB := tbw 17 rfl rfl
theorem win_X10 : Cond.instantiable RX10 8 ∈ TB := tbw 18 rfl rfl
theorem wl_L_9 : Cond.methodLink RL 9 yX10_init ∈ TB := tbw 19 rfl rfl
theorem wm_X10_init : Cond.instanceMethod yX10_init ∈ TB := tbw 20 rfl rfl
theorem wc_X10_init : Cond.code yX10_init cX10_init 2 none ∈ TB := tbw 21 rfl rfl
theorem wl_X10_1 : Cond.methodLink RX10 1 objectInit ∈ TB := tbw 22 rfl rfl
theorem wm_objectInit : Cond.instanceMethod objectInit ∈ TB := tbw 23 rfl rfl
theorem wc_objectInit : Cond.code objectInit object_method_1_code 1 none ∈ TB := tbw 24 rfl rfl
theorem wcl_X10_7 : Cond.classLink RX10 7 RX3 ∈ TB := tbw 25 rfl rfl
theorem win_X3 : Cond.instantiable RX3 4 ∈ TB := tbw 26 rfl rfl
theorem wm_X3_init : Cond.instanceMethod yX3_init ∈ TB := tbw 28 rfl rfl
theorem wc_X3_init : Cond.code yX3_init cX3_init 1 none ∈ TB := tbw 29 rfl rfl
theorem wl_X3_3 : Cond.methodLink RX3 3 objectInit ∈ TB := tbw 30 rfl rfl
theorem wcl_X3_9 : Cond.classLink RX3 9 RX0 ∈ TB := tbw 31 rfl rfl
theorem win_X0 : Cond.instantiable RX0 3 ∈ TB := tbw 32 rfl rfl
theorem wl_X3_11 : Cond.methodLink RX3 11 yX0_init ∈ TB := tbw 33 rfl rfl
theorem wm_X0_init : Cond.instanceMethod yX0_init ∈ TB := tbw 34 rfl rfl
theorem wc_X0_init : Cond.code yX0_init cX0_init 1 none ∈ TB := tbw 35 rfl rfl
theorem wl_X0_1 : Cond.methodLink RX0 1 objectInit ∈ TB := tbw 36 rfl rfl
theorem wl_X0_7 : Cond.methodLink RX0 7 yX0_set ∈ TB := tbw 37 rfl rfl
theorem wm_X0_set : Cond.instanceMethod yX0_set ∈ TB := tbw 38 rfl rfl
theorem wv_X0_set : Cond.selects RX0 yX0_set yX0_set ∈ TB := tbw 39 rfl rfl
theorem wc_X0_set : Cond.code yX0_set cX0_set 4 none ∈ TB := tbw 40 rfl rfl
theorem wf_X0_13 : Cond.fieldLink RX0 13 "GridRows$Code" "memory" "I" ∈ TB := tbw 41 rfl rfl
theorem wf_X3_40 : Cond.fieldLink RX3 40 "GridRows$Code" "memory" "I" ∈ TB := tbw 42 rfl rfl
theorem wf_X10_145 : Cond.fieldLink RX10 145 "GridRows$Code" "memory" "I" ∈ TB := tbw 43 rfl rfl
theorem wf_X0_17 : Cond.fieldLink RX0 17 "GridRows$Code" "ruleG" "I" ∈ TB := tbw 44 rfl rfl
theorem wf_X3_43 : Cond.fieldLink RX3 43 "GridRows$Code" "ruleG" "I" ∈ TB := tbw 45 rfl rfl
theorem wf_X10_148 : Cond.fieldLink RX10 148 "GridRows$Code" "ruleG" "I" ∈ TB := tbw 46 rfl rfl
theorem wf_X0_20 : Cond.fieldLink RX0 20 "GridRows$Code" "ruleH" "I" ∈ TB := tbw 47 rfl rfl
theorem wf_X3_46 : Cond.fieldLink RX3 46 "GridRows$Code" "ruleH" "I" ∈ TB := tbw 48 rfl rfl
theorem wf_X10_151 : Cond.fieldLink RX10 151 "GridRows$Code" "ruleH" "I" ∈ TB := tbw 49 rfl rfl
theorem wcl_X3_18 : Cond.classLink RX3 18 RX7 ∈ TB := tbw 57 rfl rfl
theorem win_X7 : Cond.instantiable RX7 5 ∈ TB := tbw 58 rfl rfl
theorem wm_X7_init : Cond.instanceMethod yX7_init ∈ TB := tbw 60 rfl rfl
theorem wc_X7_init : Cond.code yX7_init cX7_init 1 none ∈ TB := tbw 61 rfl rfl
theorem wl_X7_3 : Cond.methodLink RX7 3 objectInit ∈ TB := tbw 62 rfl rfl
theorem wf_X7_24 : Cond.fieldLink RX7 24 "GridRows$Row" "count" "I" ∈ TB := tbw 63 rfl rfl
theorem wf_X3_36 : Cond.fieldLink RX3 36 "GridRows$Row" "count" "I" ∈ TB := tbw 64 rfl rfl
theorem wf_X8_46 : Cond.fieldLink RX8 46 "GridRows$Row" "count" "I" ∈ TB := tbw 65 rfl rfl
theorem wf_X10_134 : Cond.fieldLink RX10 134 "GridRows$Row" "count" "I" ∈ TB := tbw 66 rfl rfl
theorem wf_X7_9 : Cond.fieldLink RX7 9 "GridRows$Row" "bits" "[I" ∈ TB := tbw 67 rfl rfl
theorem wf_X7_15 : Cond.fieldLink RX7 15 "GridRows$Row" "choices" "[I" ∈ TB := tbw 68 rfl rfl
theorem wf_X10_236 : Cond.fieldLink RX10 236 "GridRows$Row" "choices" "[I" ∈ TB := tbw 69 rfl rfl
theorem wf_X7_18 : Cond.fieldLink RX7 18 "GridRows$Row" "points" "[I" ∈ TB := tbw 70 rfl rfl
theorem wf_X10_228 : Cond.fieldLink RX10 228 "GridRows$Row" "points" "[I" ∈ TB := tbw 71 rfl rfl
theorem wf_X7_21 : Cond.fieldLink RX7 21 "GridRows$Row" "states" "[I" ∈ TB := tbw 72 rfl rfl
theorem wa_int : Cond.arrayClass .int ∈ TB := tbw 84 rfl rfl
theorem wcl_X3_25 : Cond.classLink RX3 25 RX6 ∈ TB := tbw 85 rfl rfl
theorem win_X6 : Cond.instantiable RX6 3 ∈ TB := tbw 86 rfl rfl
theorem wm_X6_init : Cond.instanceMethod yX6_init ∈ TB := tbw 88 rfl rfl
theorem wc_X6_init : Cond.code yX6_init cX6_init 1 none ∈ TB := tbw 89 rfl rfl
theorem wl_X6_3 : Cond.methodLink RX6 3 objectInit ∈ TB := tbw 90 rfl rfl
theorem wf_X6_18 : Cond.fieldLink RX6 18 "GridRows$Places" "count" "I" ∈ TB := tbw 91 rfl rfl
theorem wf_X3_39 : Cond.fieldLink RX3 39 "GridRows$Places" "count" "I" ∈ TB := tbw 92 rfl rfl
theorem wf_X10_114 : Cond.fieldLink RX10 114 "GridRows$Places" "count" "I" ∈ TB := tbw 93 rfl rfl
theorem wf_X6_9 : Cond.fieldLink RX6 9 "GridRows$Places" "xs" "[I" ∈ TB := tbw 94 rfl rfl
theorem wf_X8_55 : Cond.fieldLink RX8 55 "GridRows$Places" "xs" "[I" ∈ TB := tbw 95 rfl rfl
theorem wf_X10_212 : Cond.fieldLink RX10 212 "GridRows$Places" "xs" "[I" ∈ TB := tbw 96 rfl rfl
theorem wf_X6_15 : Cond.fieldLink RX6 15 "GridRows$Places" "ys" "[I" ∈ TB := tbw 97 rfl rfl
theorem wf_X8_60 : Cond.fieldLink RX8 60 "GridRows$Places" "ys" "[I" ∈ TB := tbw 98 rfl rfl
theorem wf_X10_216 : Cond.fieldLink RX10 216 "GridRows$Places" "ys" "[I" ∈ TB := tbw 99 rfl rfl
theorem wf_X3_12 : Cond.fieldLink RX3 12 "GridRows$Moment" "code" "LGridRows$Code;" ∈ TB := tbw 107 rfl rfl
theorem wf_X8_38 : Cond.fieldLink RX8 38 "GridRows$Moment" "code" "LGridRows$Code;" ∈ TB := tbw 108 rfl rfl
theorem wf_X10_68 : Cond.fieldLink RX10 68 "GridRows$Moment" "code" "LGridRows$Code;" ∈ TB := tbw 109 rfl rfl
theorem wf_X3_21 : Cond.fieldLink RX3 21 "GridRows$Moment" "row" "LGridRows$Row;" ∈ TB := tbw 110 rfl rfl
theorem wf_X10_89 : Cond.fieldLink RX10 89 "GridRows$Moment" "row" "LGridRows$Row;" ∈ TB := tbw 111 rfl rfl
theorem wf_X3_28 : Cond.fieldLink RX3 28 "GridRows$Moment" "places" "LGridRows$Places;" ∈ TB := tbw 112 rfl rfl
theorem wf_X8_28 : Cond.fieldLink RX8 28 "GridRows$Moment" "places" "LGridRows$Places;" ∈ TB := tbw 113 rfl rfl
theorem wf_X10_104 : Cond.fieldLink RX10 104 "GridRows$Moment" "places" "LGridRows$Places;" ∈ TB := tbw 114 rfl rfl
theorem wf_X3_32 : Cond.fieldLink RX3 32 "GridRows$Moment" "ending" "I" ∈ TB := tbw 115 rfl rfl
theorem wf_X10_81 : Cond.fieldLink RX10 81 "GridRows$Moment" "ending" "I" ∈ TB := tbw 116 rfl rfl
theorem wcl_X10_16 : Cond.classLink RX10 16 RX5 ∈ TB := tbw 126 rfl rfl
theorem win_X5 : Cond.instantiable RX5 3 ∈ TB := tbw 127 rfl rfl
theorem wl_X10_18 : Cond.methodLink RX10 18 yX5_init ∈ TB := tbw 128 rfl rfl
theorem wm_X5_init : Cond.instanceMethod yX5_init ∈ TB := tbw 129 rfl rfl
theorem wc_X5_init : Cond.code yX5_init cX5_init 2 none ∈ TB := tbw 130 rfl rfl
theorem wl_X5_3 : Cond.methodLink RX5 3 objectInit ∈ TB := tbw 131 rfl rfl
theorem wcl_X5_9 : Cond.classLink RX5 9 RX3 ∈ TB := tbw 132 rfl rfl
theorem wf_X5_22 : Cond.fieldLink RX5 22 "GridRows$Past" "count" "I" ∈ TB := tbw 135 rfl rfl
theorem wf_X10_140 : Cond.fieldLink RX10 140 "GridRows$Past" "count" "I" ∈ TB := tbw 136 rfl rfl
theorem wf_X5_18 : Cond.fieldLink RX5 18 "GridRows$Past" "oldest" "I" ∈ TB := tbw 137 rfl rfl
theorem wf_X5_11 : Cond.fieldLink RX5 11 "GridRows$Past" "ring" "[LGridRows$Moment;" ∈ TB := tbw 138 rfl rfl
theorem wcl_X10_31 : Cond.classLink RX10 31 RX2 ∈ TB := tbw 146 rfl rfl
theorem win_X2 : Cond.instantiable RX2 1 ∈ TB := tbw 147 rfl rfl
theorem wm_X2_init : Cond.instanceMethod yX2_init ∈ TB := tbw 149 rfl rfl
theorem wc_X2_init : Cond.code yX2_init cX2_init 1 none ∈ TB := tbw 150 rfl rfl
theorem wl_X2_1 : Cond.methodLink RX2 1 objectInit ∈ TB := tbw 151 rfl rfl
theorem wf_X2_7 : Cond.fieldLink RX2 7 "GridRows$Lots" "x" "J" ∈ TB := tbw 152 rfl rfl
theorem wa_boolean : Cond.arrayClass .boolean ∈ TB := tbw 156 rfl rfl
theorem wcl_X10_38 : Cond.classLink RX10 38 RX8 ∈ TB := tbw 157 rfl rfl
theorem win_X8 : Cond.instantiable RX8 4 ∈ TB := tbw 158 rfl rfl
theorem wm_X8_init : Cond.instanceMethod yX8_init ∈ TB := tbw 160 rfl rfl
theorem wc_X8_init : Cond.code yX8_init cX8_init 1 none ∈ TB := tbw 161 rfl rfl
theorem wl_X8_3 : Cond.methodLink RX8 3 objectInit ∈ TB := tbw 162 rfl rfl
theorem wcl_X8_9 : Cond.classLink RX8 9 RX7 ∈ TB := tbw 163 rfl rfl
theorem wf_X8_12 : Cond.fieldLink RX8 12 "GridRows$Search" "row" "LGridRows$Row;" ∈ TB := tbw 165 rfl rfl
theorem wf_X10_223 : Cond.fieldLink RX10 223 "GridRows$Search" "row" "LGridRows$Row;" ∈ TB := tbw 166 rfl rfl
theorem wf_X8_18 : Cond.fieldLink RX8 18 "GridRows$Search" "choices" "[I" ∈ TB := tbw 167 rfl rfl
theorem wf_X8_22 : Cond.fieldLink RX8 22 "GridRows$Search" "tolls" "[I" ∈ TB := tbw 168 rfl rfl
theorem wf_X8_25 : Cond.fieldLink RX8 25 "GridRows$Search" "rest" "[I" ∈ TB := tbw 169 rfl rfl
theorem wcl_X10_45 : Cond.classLink RX10 45 RX4 ∈ TB := tbw 179 rfl rfl
theorem win_X4 : Cond.instantiable RX4 3 ∈ TB := tbw 180 rfl rfl
theorem wm_X4_init : Cond.instanceMethod yX4_init ∈ TB := tbw 182 rfl rfl
theorem wc_X4_init : Cond.code yX4_init cX4_init 1 none ∈ TB := tbw 183 rfl rfl
theorem wl_X4_3 : Cond.methodLink RX4 3 objectInit ∈ TB := tbw 184 rfl rfl
theorem wf_X4_9 : Cond.fieldLink RX4 9 "GridRows$Parting" "gaps" "[I" ∈ TB := tbw 185 rfl rfl
theorem wf_X4_15 : Cond.fieldLink RX4 15 "GridRows$Parting" "sums" "[I" ∈ TB := tbw 186 rfl rfl
theorem wf_X4_18 : Cond.fieldLink RX4 18 "GridRows$Parting" "laterSums" "[I" ∈ TB := tbw 187 rfl rfl
theorem wcl_X10_52 : Cond.classLink RX10 52 RX9 ∈ TB := tbw 195 rfl rfl
theorem win_X9 : Cond.instantiable RX9 2 ∈ TB := tbw 196 rfl rfl
theorem wm_X9_init : Cond.instanceMethod yX9_init ∈ TB := tbw 198 rfl rfl
theorem wc_X9_init : Cond.code yX9_init cX9_init 1 none ∈ TB := tbw 199 rfl rfl
theorem wl_X9_3 : Cond.methodLink RX9 3 objectInit ∈ TB := tbw 200 rfl rfl
theorem wf_X9_11 : Cond.fieldLink RX9 11 "GridRows$Turning" "reached" "[I" ∈ TB := tbw 201 rfl rfl
theorem wf_X9_27 : Cond.fieldLink RX9 27 "GridRows$Turning" "grown" "Z" ∈ TB := tbw 202 rfl rfl
theorem wf_X10_10 : Cond.fieldLink RX10 10 "GridRows" "now" "LGridRows$Moment;" ∈ TB := tbw 208 rfl rfl
theorem wf_X10_19 : Cond.fieldLink RX10 19 "GridRows" "past" "LGridRows$Past;" ∈ TB := tbw 209 rfl rfl
theorem wf_X10_23 : Cond.fieldLink RX10 23 "GridRows" "images" "[LGridRows$Moment;" ∈ TB := tbw 210 rfl rfl
theorem wf_X10_27 : Cond.fieldLink RX10 27 "GridRows" "kept" "[Z" ∈ TB := tbw 211 rfl rfl
theorem wf_X10_34 : Cond.fieldLink RX10 34 "GridRows" "lots" "LGridRows$Lots;" ∈ TB := tbw 212 rfl rfl
theorem wf_X10_41 : Cond.fieldLink RX10 41 "GridRows" "search" "LGridRows$Search;" ∈ TB := tbw 213 rfl rfl
theorem wf_X10_48 : Cond.fieldLink RX10 48 "GridRows" "parting" "LGridRows$Parting;" ∈ TB := tbw 214 rfl rfl
theorem wf_X10_55 : Cond.fieldLink RX10 55 "GridRows" "turning" "LGridRows$Turning;" ∈ TB := tbw 215 rfl rfl
theorem wl_L_13 : Cond.methodLink RL 13 yX10_code ∈ TB := tbw 233 rfl rfl
theorem wm_X10_code : Cond.instanceMethod yX10_code ∈ TB := tbw 234 rfl rfl
theorem wv_X10_code : Cond.selects RX10 yX10_code yX10_code ∈ TB := tbw 235 rfl rfl
theorem wc_X10_code : Cond.code yX10_code cX10_code 5 (some .int) ∈ TB := tbw 236 rfl rfl
theorem wk_X10_59 : Cond.constant RX10 59 (-1000000002) ∈ TB := tbw 237 rfl rfl
theorem wl_X10_60 : Cond.methodLink RX10 60 yX10_isOutside ∈ TB := tbw 238 rfl rfl
theorem ws_X10_isOutside : Cond.static yX10_isOutside ∈ TB := tbw 239 rfl rfl
theorem wc_X10_isOutside : Cond.code yX10_isOutside cX10_isOutside 3 (some .boolean) ∈ TB := tbw 240 rfl rfl
theorem wl_X10_64 : Cond.methodLink RX10 64 yX5_push ∈ TB := tbw 241 rfl rfl
theorem wm_X5_push : Cond.instanceMethod yX5_push ∈ TB := tbw 242 rfl rfl
theorem wv_X5_push : Cond.selects RX5 yX5_push yX5_push ∈ TB := tbw 243 rfl rfl
theorem wc_X5_push : Cond.code yX5_push cX5_push 2 none ∈ TB := tbw 244 rfl rfl
theorem wl_X5_25 : Cond.methodLink RX5 25 yX3_become ∈ TB := tbw 245 rfl rfl
theorem wm_X3_become : Cond.instanceMethod yX3_become ∈ TB := tbw 246 rfl rfl
theorem wv_X3_become : Cond.selects RX3 yX3_become yX3_become ∈ TB := tbw 247 rfl rfl
theorem wc_X3_become : Cond.code yX3_become cX3_become 2 none ∈ TB := tbw 248 rfl rfl
theorem wl_X3_49 : Cond.methodLink RX3 49 yX0_set ∈ TB := tbw 249 rfl rfl
theorem wl_X3_53 : Cond.methodLink RX3 53 yX7_become ∈ TB := tbw 250 rfl rfl
theorem wm_X7_become : Cond.instanceMethod yX7_become ∈ TB := tbw 251 rfl rfl
theorem wv_X7_become : Cond.selects RX7 yX7_become yX7_become ∈ TB := tbw 252 rfl rfl
theorem wc_X7_become : Cond.code yX7_become cX7_become 2 none ∈ TB := tbw 253 rfl rfl
theorem wl_X7_52 : Cond.methodLink RX7 52 arraycopyName ∈ TB := tbw 254 rfl rfl
theorem ws_arraycopyName : Cond.static arraycopyName ∈ TB := tbw 255 rfl rfl
theorem wn_arraycopyName : Cond.native arraycopyName ∈ TB := tbw 256 rfl rfl
theorem wl_X3_57 : Cond.methodLink RX3 57 yX6_become ∈ TB := tbw 257 rfl rfl
theorem wm_X6_become : Cond.instanceMethod yX6_become ∈ TB := tbw 258 rfl rfl
theorem wv_X6_become : Cond.selects RX6 yX6_become yX6_become ∈ TB := tbw 259 rfl rfl
theorem wc_X6_become : Cond.code yX6_become cX6_become 2 none ∈ TB := tbw 260 rfl rfl
theorem wl_X6_26 : Cond.methodLink RX6 26 arraycopyName ∈ TB := tbw 261 rfl rfl
theorem wl_X10_72 : Cond.methodLink RX10 72 yX0_set ∈ TB := tbw 262 rfl rfl
theorem wl_X10_78 : Cond.methodLink RX10 78 yX3_clear ∈ TB := tbw 263 rfl rfl
theorem wm_X3_clear : Cond.instanceMethod yX3_clear ∈ TB := tbw 264 rfl rfl
theorem wv_X3_clear : Cond.selects RX3 yX3_clear yX3_clear ∈ TB := tbw 265 rfl rfl
theorem wc_X3_clear : Cond.code yX3_clear cX3_clear 1 none ∈ TB := tbw 266 rfl rfl
theorem wl_X10_85 : Cond.methodLink RX10 85 yX0_states ∈ TB := tbw 267 rfl rfl
theorem wm_X0_states : Cond.instanceMethod yX0_states ∈ TB := tbw 268 rfl rfl
theorem wv_X0_states : Cond.selects RX0 yX0_states yX0_states ∈ TB := tbw 269 rfl rfl
theorem wc_X0_states : Cond.code yX0_states cX0_states 1 (some .int) ∈ TB := tbw 270 rfl rfl
theorem wl_L_18 : Cond.methodLink RL 18 yX10_send ∈ TB := tbw 271 rfl rfl
theorem wm_X10_send : Cond.instanceMethod yX10_send ∈ TB := tbw 272 rfl rfl
theorem wv_X10_send : Cond.selects RX10 yX10_send yX10_send ∈ TB := tbw 273 rfl rfl
theorem wc_X10_send : Cond.code yX10_send cX10_send 3 (some .int) ∈ TB := tbw 274 rfl rfl
theorem wl_X10_93 : Cond.methodLink RX10 93 yX7_isFull ∈ TB := tbw 275 rfl rfl
theorem wm_X7_isFull : Cond.instanceMethod yX7_isFull ∈ TB := tbw 276 rfl rfl
theorem wv_X7_isFull : Cond.selects RX7 yX7_isFull yX7_isFull ∈ TB := tbw 277 rfl rfl
theorem wc_X7_isFull : Cond.code yX7_isFull cX7_isFull 1 (some .boolean) ∈ TB := tbw 278 rfl rfl
theorem wk_X10_99 : Cond.constant RX10 99 (-1000000004) ∈ TB := tbw 279 rfl rfl
theorem wl_X10_100 : Cond.methodLink RX10 100 yX7_append ∈ TB := tbw 280 rfl rfl
theorem wm_X7_append : Cond.instanceMethod yX7_append ∈ TB := tbw 281 rfl rfl
theorem wv_X7_append : Cond.selects RX7 yX7_append yX7_append ∈ TB := tbw 282 rfl rfl
theorem wc_X7_append : Cond.code yX7_append cX7_append 6 (some .int) ∈ TB := tbw 283 rfl rfl
theorem wl_X7_28 : Cond.methodLink RX7 28 yX7_isFull ∈ TB := tbw 284 rfl rfl
theorem wk_X7_32 : Cond.constant RX7 32 (-1000000004) ∈ TB := tbw 285 rfl rfl
theorem wl_X7_33 : Cond.methodLink RX7 33 yX7_lastState ∈ TB := tbw 286 rfl rfl
theorem wm_X7_lastState : Cond.instanceMethod yX7_lastState ∈ TB := tbw 287 rfl rfl
theorem wv_X7_lastState : Cond.selects RX7 yX7_lastState yX7_lastState ∈ TB := tbw 288 rfl rfl
theorem wc_X7_lastState : Cond.code yX7_lastState cX7_lastState 1 (some .int) ∈ TB := tbw 289 rfl rfl
theorem wl_X7_37 : Cond.methodLink RX7 37 yX0_familyFrom ∈ TB := tbw 290 rfl rfl
theorem wm_X0_familyFrom : Cond.instanceMethod yX0_familyFrom ∈ TB := tbw 291 rfl rfl
theorem wv_X0_familyFrom : Cond.selects RX0 yX0_familyFrom yX0_familyFrom ∈ TB := tbw 292 rfl rfl
theorem wc_X0_familyFrom : Cond.code yX0_familyFrom cX0_familyFrom 4 (some .int) ∈ TB := tbw 293 rfl rfl
theorem wl_X0_23 : Cond.methodLink RX0 23 yX0_registerOf ∈ TB := tbw 294 rfl rfl
theorem wm_X0_registerOf : Cond.instanceMethod yX0_registerOf ∈ TB := tbw 296 rfl rfl
theorem wc_X0_registerOf : Cond.code yX0_registerOf cX0_registerOf 3 (some .int) ∈ TB := tbw 297 rfl rfl
theorem wl_X0_27 : Cond.methodLink RX0 27 yJ6_bitCount_0f7a4 ∈ TB := tbw 298 rfl rfl
theorem ws_J6_bitCount_0f7a4 : Cond.static yJ6_bitCount_0f7a4 ∈ TB := tbw 299 rfl rfl
set_option maxRecDepth 20000 in
theorem wc_J6_bitCount_0f7a4 : Cond.code yJ6_bitCount_0f7a4 cJ6_bitCount_0f7a4 1 (some .int) ∈ TB := tbw 300 rfl rfl
set_option maxRecDepth 20000 in
theorem wk_J6_265 : Cond.constant RJ6 265 (1431655765) ∈ TB := tbw 301 rfl rfl
set_option maxRecDepth 20000 in
theorem wk_J6_266 : Cond.constant RJ6 266 (858993459) ∈ TB := tbw 302 rfl rfl
set_option maxRecDepth 20000 in
theorem wk_J6_267 : Cond.constant RJ6 267 (252645135) ∈ TB := tbw 303 rfl rfl
set_option maxRecDepth 20000 in
theorem wl_X7_43 : Cond.methodLink RX7 43 yX1_pointOf ∈ TB := tbw 304 rfl rfl
set_option maxRecDepth 20000 in
theorem ws_X1_pointOf : Cond.static yX1_pointOf ∈ TB := tbw 305 rfl rfl
set_option maxRecDepth 20000 in
theorem wc_X1_pointOf : Cond.code yX1_pointOf cX1_pointOf 6 (some .int) ∈ TB := tbw 306 rfl rfl
set_option maxRecDepth 20000 in
theorem wl_X7_48 : Cond.methodLink RX7 48 yX0_stateAfter ∈ TB := tbw 307 rfl rfl
set_option maxRecDepth 20000 in
theorem wm_X0_stateAfter : Cond.instanceMethod yX0_stateAfter ∈ TB := tbw 308 rfl rfl
set_option maxRecDepth 20000 in
theorem wv_X0_stateAfter : Cond.selects RX0 yX0_stateAfter yX0_stateAfter ∈ TB := tbw 309 rfl rfl
set_option maxRecDepth 20000 in
theorem wc_X0_stateAfter : Cond.code yX0_stateAfter cX0_stateAfter 3 (some .int) ∈ TB := tbw 310 rfl rfl
set_option maxRecDepth 20000 in
theorem wl_L_23 : Cond.methodLink RL 23 yX10_hear ∈ TB := tbw 311 rfl rfl
set_option maxRecDepth 20000 in
theorem wm_X10_hear : Cond.instanceMethod yX10_hear ∈ TB := tbw 312 rfl rfl
set_option maxRecDepth 20000 in
theorem wv_X10_hear : Cond.selects RX10 yX10_hear yX10_hear ∈ TB := tbw 313 rfl rfl
set_option maxRecDepth 20000 in
theorem wc_X10_hear : Cond.code yX10_hear cX10_hear 3 (some .int) ∈ TB := tbw 314 rfl rfl
set_option maxRecDepth 20000 in
theorem wl_X10_108 : Cond.methodLink RX10 108 yX6_isFull ∈ TB := tbw 315 rfl rfl
set_option maxRecDepth 20000 in
theorem wm_X6_isFull : Cond.instanceMethod yX6_isFull ∈ TB := tbw 316 rfl rfl
set_option maxRecDepth 20000 in
theorem wv_X6_isFull : Cond.selects RX6 yX6_isFull yX6_isFull ∈ TB := tbw 317 rfl rfl
set_option maxRecDepth 20000 in
theorem wc_X6_isFull : Cond.code yX6_isFull cX6_isFull 1 (some .boolean) ∈ TB := tbw 318 rfl rfl
set_option maxRecDepth 20000 in
theorem wl_X10_111 : Cond.methodLink RX10 111 yX6_append ∈ TB := tbw 319 rfl rfl
set_option maxRecDepth 20000 in
theorem wm_X6_append : Cond.instanceMethod yX6_append ∈ TB := tbw 320 rfl rfl
set_option maxRecDepth 20000 in
theorem wv_X6_append : Cond.selects RX6 yX6_append yX6_append ∈ TB := tbw 321 rfl rfl
set_option maxRecDepth 20000 in
theorem wc_X6_append : Cond.code yX6_append cX6_append 3 none ∈ TB := tbw 322 rfl rfl
set_option maxRecDepth 20000 in
theorem wl_X6_22 : Cond.methodLink RX6 22 yX6_isFull ∈ TB := tbw 323 rfl rfl
set_option maxRecDepth 20000 in
theorem wl_L_27 : Cond.methodLink RL 27 yX10_drift ∈ TB := tbw 324 rfl rfl
set_option maxRecDepth 20000 in
theorem wm_X10_drift : Cond.instanceMethod yX10_drift ∈ TB := tbw 325 rfl rfl
set_option maxRecDepth 20000 in
theorem wv_X10_drift : Cond.selects RX10 yX10_drift yX10_drift ∈ TB := tbw 326 rfl rfl
set_option maxRecDepth 20000 in
theorem wc_X10_drift : Cond.code yX10_drift cX10_drift 9 (some .int) ∈ TB := tbw 327 rfl rfl
set_option maxRecDepth 20000 in
theorem wk_X10_117 : Cond.constant RX10 117 (999999) ∈ TB := tbw 328 rfl rfl
set_option maxRecDepth 20000 in
theorem wl_X10_118 : Cond.methodLink RX10 118 yX2_begin ∈ TB := tbw 329 rfl rfl
set_option maxRecDepth 20000 in
theorem wm_X2_begin : Cond.instanceMethod yX2_begin ∈ TB := tbw 330 rfl rfl
set_option maxRecDepth 20000 in
theorem wv_X2_begin : Cond.selects RX2 yX2_begin yX2_begin ∈ TB := tbw 331 rfl rfl
set_option maxRecDepth 20000 in
theorem wc_X2_begin : Cond.code yX2_begin cX2_begin 2 none ∈ TB := tbw 332 rfl rfl
set_option maxRecDepth 20000 in
theorem wl_X10_122 : Cond.methodLink RX10 122 yX2_draw ∈ TB := tbw 333 rfl rfl
set_option maxRecDepth 20000 in
theorem wm_X2_draw : Cond.instanceMethod yX2_draw ∈ TB := tbw 334 rfl rfl
set_option maxRecDepth 20000 in
theorem wv_X2_draw : Cond.selects RX2 yX2_draw yX2_draw ∈ TB := tbw 335 rfl rfl
set_option maxRecDepth 20000 in
theorem wc_X2_draw : Cond.code yX2_draw cX2_draw 2 (some .int) ∈ TB := tbw 336 rfl rfl
set_option maxRecDepth 20000 in
theorem wkl_X2_13 : Cond.constantLong RX2 13 (16807) ∈ TB := tbw 337 rfl rfl
set_option maxRecDepth 20000 in
theorem wkl_X2_15 : Cond.constantLong RX2 15 (2147483647) ∈ TB := tbw 338 rfl rfl
set_option maxRecDepth 20000 in
theorem wl_X10_126 : Cond.methodLink RX10 126 yX1_xOf ∈ TB := tbw 339 rfl rfl
set_option maxRecDepth 20000 in
theorem ws_X1_xOf : Cond.static yX1_xOf ∈ TB := tbw 340 rfl rfl
set_option maxRecDepth 20000 in
theorem wc_X1_xOf : Cond.code yX1_xOf cX1_xOf 1 (some .int) ∈ TB := tbw 341 rfl rfl
set_option maxRecDepth 20000 in
theorem wl_X10_131 : Cond.methodLink RX10 131 yX1_yOf ∈ TB := tbw 342 rfl rfl
set_option maxRecDepth 20000 in
theorem ws_X1_yOf : Cond.static yX1_yOf ∈ TB := tbw 343 rfl rfl
set_option maxRecDepth 20000 in
theorem wc_X1_yOf : Cond.code yX1_yOf cX1_yOf 1 (some .int) ∈ TB := tbw 344 rfl rfl
set_option maxRecDepth 20000 in
theorem wl_L_31 : Cond.methodLink RL 31 yX10_wipe ∈ TB := tbw 345 rfl rfl
set_option maxRecDepth 20000 in
theorem wm_X10_wipe : Cond.instanceMethod yX10_wipe ∈ TB := tbw 346 rfl rfl
set_option maxRecDepth 20000 in
theorem wv_X10_wipe : Cond.selects RX10 yX10_wipe yX10_wipe ∈ TB := tbw 347 rfl rfl
set_option maxRecDepth 20000 in
theorem wc_X10_wipe : Cond.code yX10_wipe cX10_wipe 2 (some .int) ∈ TB := tbw 348 rfl rfl
set_option maxRecDepth 20000 in
theorem wl_L_36 : Cond.methodLink RL 36 yX10_end ∈ TB := tbw 349 rfl rfl
set_option maxRecDepth 20000 in
theorem wm_X10_end : Cond.instanceMethod yX10_end ∈ TB := tbw 350 rfl rfl
set_option maxRecDepth 20000 in
theorem wv_X10_end : Cond.selects RX10 yX10_end yX10_end ∈ TB := tbw 351 rfl rfl
set_option maxRecDepth 20000 in
theorem wc_X10_end : Cond.code yX10_end cX10_end 3 (some .int) ∈ TB := tbw 352 rfl rfl
set_option maxRecDepth 20000 in
theorem wl_X10_135 : Cond.methodLink RX10 135 yX10_isState ∈ TB := tbw 353 rfl rfl
set_option maxRecDepth 20000 in
theorem wm_X10_isState : Cond.instanceMethod yX10_isState ∈ TB := tbw 355 rfl rfl
set_option maxRecDepth 20000 in
theorem wc_X10_isState : Cond.code yX10_isState cX10_isState 2 (some .boolean) ∈ TB := tbw 356 rfl rfl
set_option maxRecDepth 20000 in
theorem wk_X10_139 : Cond.constant RX10 139 (-1000000001) ∈ TB := tbw 357 rfl rfl
set_option maxRecDepth 20000 in
theorem wl_L_41 : Cond.methodLink RL 41 yX10_undo ∈ TB := tbw 358 rfl rfl
set_option maxRecDepth 20000 in
theorem wm_X10_undo : Cond.instanceMethod yX10_undo ∈ TB := tbw 359 rfl rfl
set_option maxRecDepth 20000 in
theorem wv_X10_undo : Cond.selects RX10 yX10_undo yX10_undo ∈ TB := tbw 360 rfl rfl
set_option maxRecDepth 20000 in
theorem wc_X10_undo : Cond.code yX10_undo cX10_undo 1 (some .int) ∈ TB := tbw 361 rfl rfl
set_option maxRecDepth 20000 in
theorem wk_X10_141 : Cond.constant RX10 141 (-1000000003) ∈ TB := tbw 362 rfl rfl
set_option maxRecDepth 20000 in
theorem wl_X10_142 : Cond.methodLink RX10 142 yX5_popInto ∈ TB := tbw 363 rfl rfl
set_option maxRecDepth 20000 in
theorem wm_X5_popInto : Cond.instanceMethod yX5_popInto ∈ TB := tbw 364 rfl rfl
set_option maxRecDepth 20000 in
theorem wv_X5_popInto : Cond.selects RX5 yX5_popInto yX5_popInto ∈ TB := tbw 365 rfl rfl
set_option maxRecDepth 20000 in
theorem wc_X5_popInto : Cond.code yX5_popInto cX5_popInto 2 none ∈ TB := tbw 366 rfl rfl
set_option maxRecDepth 20000 in
theorem wl_L_45 : Cond.methodLink RL 45 yX10_told ∈ TB := tbw 367 rfl rfl
set_option maxRecDepth 20000 in
theorem wm_X10_told : Cond.instanceMethod yX10_told ∈ TB := tbw 368 rfl rfl
set_option maxRecDepth 20000 in
theorem wv_X10_told : Cond.selects RX10 yX10_told yX10_told ∈ TB := tbw 369 rfl rfl
set_option maxRecDepth 20000 in
theorem wc_X10_told : Cond.code yX10_told cX10_told 2 (some .int) ∈ TB := tbw 370 rfl rfl
set_option maxRecDepth 20000 in
theorem wl_X10_154 : Cond.methodLink RX10 154 yX7_lastState ∈ TB := tbw 371 rfl rfl
set_option maxRecDepth 20000 in
theorem wl_X10_157 : Cond.methodLink RX10 157 yX10_seekNearest ∈ TB := tbw 372 rfl rfl
set_option maxRecDepth 20000 in
theorem wm_X10_seekNearest : Cond.instanceMethod yX10_seekNearest ∈ TB := tbw 374 rfl rfl
set_option maxRecDepth 20000 in
theorem wc_X10_seekNearest : Cond.code yX10_seekNearest cX10_seekNearest 1 (some .int) ∈ TB := tbw 375 rfl rfl
set_option maxRecDepth 20000 in
theorem wl_X10_224 : Cond.methodLink RX10 224 yX8_seek ∈ TB := tbw 376 rfl rfl
set_option maxRecDepth 20000 in
theorem wm_X8_seek : Cond.instanceMethod yX8_seek ∈ TB := tbw 377 rfl rfl
set_option maxRecDepth 20000 in
theorem wv_X8_seek : Cond.selects RX8 yX8_seek yX8_seek ∈ TB := tbw 378 rfl rfl
set_option maxRecDepth 20000 in
theorem wc_X8_seek : Cond.code yX8_seek cX8_seek 4 (some .int) ∈ TB := tbw 379 rfl rfl
set_option maxRecDepth 20000 in
theorem wl_X8_34 : Cond.methodLink RX8 34 yX8_weigh ∈ TB := tbw 380 rfl rfl
set_option maxRecDepth 20000 in
theorem wm_X8_weigh : Cond.instanceMethod yX8_weigh ∈ TB := tbw 382 rfl rfl
set_option maxRecDepth 20000 in
theorem wc_X8_weigh : Cond.code yX8_weigh cX8_weigh 5 none ∈ TB := tbw 383 rfl rfl
set_option maxRecDepth 20000 in
theorem wl_X8_63 : Cond.methodLink RX8 63 yX8_choose ∈ TB := tbw 384 rfl rfl
set_option maxRecDepth 20000 in
theorem wm_X8_choose : Cond.instanceMethod yX8_choose ∈ TB := tbw 386 rfl rfl
set_option maxRecDepth 20000 in
theorem wc_X8_choose : Cond.code yX8_choose cX8_choose 8 none ∈ TB := tbw 387 rfl rfl
set_option maxRecDepth 20000 in
theorem wk_X8_50 : Cond.constant RX8 50 (99999999) ∈ TB := tbw 388 rfl rfl
set_option maxRecDepth 20000 in
theorem wl_X8_67 : Cond.methodLink RX8 67 yX1_pointOf ∈ TB := tbw 389 rfl rfl
set_option maxRecDepth 20000 in
theorem wl_X8_73 : Cond.methodLink RX8 73 yX1_farFrom ∈ TB := tbw 390 rfl rfl
set_option maxRecDepth 20000 in
theorem ws_X1_farFrom : Cond.static yX1_farFrom ∈ TB := tbw 391 rfl rfl
set_option maxRecDepth 20000 in
theorem wc_X1_farFrom : Cond.code yX1_farFrom cX1_farFrom 5 (some .int) ∈ TB := tbw 392 rfl rfl
set_option maxRecDepth 20000 in
theorem wl_X1_22 : Cond.methodLink RX1 22 yX1_xOf ∈ TB := tbw 393 rfl rfl
set_option maxRecDepth 20000 in
theorem wl_X1_25 : Cond.methodLink RX1 25 yX1_yOf ∈ TB := tbw 394 rfl rfl
set_option maxRecDepth 20000 in
theorem wl_X8_42 : Cond.methodLink RX8 42 yX8_reckon ∈ TB := tbw 395 rfl rfl
set_option maxRecDepth 20000 in
theorem wm_X8_reckon : Cond.instanceMethod yX8_reckon ∈ TB := tbw 397 rfl rfl
set_option maxRecDepth 20000 in
theorem wc_X8_reckon : Cond.code yX8_reckon cX8_reckon 6 none ∈ TB := tbw 398 rfl rfl
set_option maxRecDepth 20000 in
theorem wl_X8_77 : Cond.methodLink RX8 77 yX0_states ∈ TB := tbw 399 rfl rfl
set_option maxRecDepth 20000 in
theorem wl_X8_83 : Cond.methodLink RX8 83 yX8_restBy ∈ TB := tbw 400 rfl rfl
set_option maxRecDepth 20000 in
theorem wm_X8_restBy : Cond.instanceMethod yX8_restBy ∈ TB := tbw 402 rfl rfl
set_option maxRecDepth 20000 in
theorem wc_X8_restBy : Cond.code yX8_restBy cX8_restBy 6 (some .int) ∈ TB := tbw 403 rfl rfl
set_option maxRecDepth 20000 in
theorem wl_X8_92 : Cond.methodLink RX8 92 yX0_stateAfter ∈ TB := tbw 404 rfl rfl
set_option maxRecDepth 20000 in
theorem wl_X8_95 : Cond.methodLink RX8 95 yX0_familyFrom ∈ TB := tbw 405 rfl rfl
set_option maxRecDepth 20000 in
theorem wl_X8_87 : Cond.methodLink RX8 87 yJ9_min_7cf53 ∈ TB := tbw 406 rfl rfl
set_option maxRecDepth 20000 in
theorem ws_J9_min_7cf53 : Cond.static yJ9_min_7cf53 ∈ TB := tbw 407 rfl rfl
set_option maxRecDepth 20000 in
theorem wc_J9_min_7cf53 : Cond.code yJ9_min_7cf53 cJ9_min_7cf53 2 (some .int) ∈ TB := tbw 408 rfl rfl
set_option maxRecDepth 20000 in
theorem wl_X8_51 : Cond.methodLink RX8 51 yX8_walk ∈ TB := tbw 409 rfl rfl
set_option maxRecDepth 20000 in
theorem wm_X8_walk : Cond.instanceMethod yX8_walk ∈ TB := tbw 411 rfl rfl
set_option maxRecDepth 20000 in
theorem wc_X8_walk : Cond.code yX8_walk cX8_walk 6 none ∈ TB := tbw 412 rfl rfl
set_option maxRecDepth 20000 in
theorem wl_X8_98 : Cond.methodLink RX8 98 yX7_lastState ∈ TB := tbw 413 rfl rfl
set_option maxRecDepth 20000 in
theorem wl_X8_101 : Cond.methodLink RX8 101 yX7_append ∈ TB := tbw 414 rfl rfl
set_option maxRecDepth 20000 in
theorem wl_X10_160 : Cond.methodLink RX10 160 yX10_countUnlike ∈ TB := tbw 415 rfl rfl
set_option maxRecDepth 20000 in
theorem wm_X10_countUnlike : Cond.instanceMethod yX10_countUnlike ∈ TB := tbw 417 rfl rfl
set_option maxRecDepth 20000 in
theorem wc_X10_countUnlike : Cond.code yX10_countUnlike cX10_countUnlike 4 (some .int) ∈ TB := tbw 418 rfl rfl
set_option maxRecDepth 20000 in
theorem wl_X10_231 : Cond.methodLink RX10 231 yJ9_min_7cf53 ∈ TB := tbw 419 rfl rfl
set_option maxRecDepth 20000 in
theorem wl_X10_163 : Cond.methodLink RX10 163 yX4_leastSum ∈ TB := tbw 420 rfl rfl
set_option maxRecDepth 20000 in
theorem wm_X4_leastSum : Cond.instanceMethod yX4_leastSum ∈ TB := tbw 421 rfl rfl
set_option maxRecDepth 20000 in
theorem wv_X4_leastSum : Cond.selects RX4 yX4_leastSum yX4_leastSum ∈ TB := tbw 422 rfl rfl
set_option maxRecDepth 20000 in
theorem wc_X4_leastSum : Cond.code yX4_leastSum cX4_leastSum 4 (some .int) ∈ TB := tbw 423 rfl rfl
set_option maxRecDepth 20000 in
theorem wk_X4_21 : Cond.constant RX4 21 (99999999) ∈ TB := tbw 424 rfl rfl
set_option maxRecDepth 20000 in
theorem wl_X4_22 : Cond.methodLink RX4 22 yX1_gapOf ∈ TB := tbw 425 rfl rfl
set_option maxRecDepth 20000 in
theorem ws_X1_gapOf : Cond.static yX1_gapOf ∈ TB := tbw 426 rfl rfl
set_option maxRecDepth 20000 in
theorem wc_X1_gapOf : Cond.code yX1_gapOf cX1_gapOf 7 (some .int) ∈ TB := tbw 427 rfl rfl
set_option maxRecDepth 20000 in
theorem wk_X1_32 : Cond.constant RX1 32 (99999999) ∈ TB := tbw 428 rfl rfl
set_option maxRecDepth 20000 in
theorem wl_X1_9 : Cond.methodLink RX1 9 yX1_pointOf ∈ TB := tbw 429 rfl rfl
set_option maxRecDepth 20000 in
theorem wl_X1_28 : Cond.methodLink RX1 28 yX1_farFrom ∈ TB := tbw 430 rfl rfl
set_option maxRecDepth 20000 in
theorem wl_X1_33 : Cond.methodLink RX1 33 yJ9_min_7cf53 ∈ TB := tbw 431 rfl rfl
set_option maxRecDepth 20000 in
theorem wl_X4_28 : Cond.methodLink RX4 28 yJ9_min_7cf53 ∈ TB := tbw 432 rfl rfl
set_option maxRecDepth 20000 in
theorem wl_X4_33 : Cond.methodLink RX4 33 yX4_fillGaps ∈ TB := tbw 433 rfl rfl
set_option maxRecDepth 20000 in
theorem wm_X4_fillGaps : Cond.instanceMethod yX4_fillGaps ∈ TB := tbw 435 rfl rfl
set_option maxRecDepth 20000 in
theorem wc_X4_fillGaps : Cond.code yX4_fillGaps cX4_fillGaps 3 none ∈ TB := tbw 436 rfl rfl
set_option maxRecDepth 20000 in
theorem wl_X4_36 : Cond.methodLink RX4 36 yX4_part ∈ TB := tbw 437 rfl rfl
set_option maxRecDepth 20000 in
theorem wm_X4_part : Cond.instanceMethod yX4_part ∈ TB := tbw 439 rfl rfl
set_option maxRecDepth 20000 in
theorem wc_X4_part : Cond.code yX4_part cX4_part 4 none ∈ TB := tbw 440 rfl rfl
set_option maxRecDepth 20000 in
theorem wl_X4_44 : Cond.methodLink RX4 44 yJ7_fill_53178 ∈ TB := tbw 441 rfl rfl
set_option maxRecDepth 20000 in
theorem ws_J7_fill_53178 : Cond.static yJ7_fill_53178 ∈ TB := tbw 442 rfl rfl
set_option maxRecDepth 20000 in
theorem wc_J7_fill_53178 : Cond.code yJ7_fill_53178 cJ7_fill_53178 4 none ∈ TB := tbw 443 rfl rfl
set_option maxRecDepth 20000 in
theorem wl_X4_50 : Cond.methodLink RX4 50 yX0_states ∈ TB := tbw 444 rfl rfl
set_option maxRecDepth 20000 in
theorem wl_X4_56 : Cond.methodLink RX4 56 yX0_stateAfter ∈ TB := tbw 445 rfl rfl
set_option maxRecDepth 20000 in
theorem wl_X4_59 : Cond.methodLink RX4 59 yX4_gapOfSteps ∈ TB := tbw 446 rfl rfl
set_option maxRecDepth 20000 in
theorem wm_X4_gapOfSteps : Cond.instanceMethod yX4_gapOfSteps ∈ TB := tbw 448 rfl rfl
set_option maxRecDepth 20000 in
theorem wc_X4_gapOfSteps : Cond.code yX4_gapOfSteps cX4_gapOfSteps 6 (some .int) ∈ TB := tbw 449 rfl rfl
set_option maxRecDepth 20000 in
theorem wl_X4_73 : Cond.methodLink RX4 73 yX0_familyFrom ∈ TB := tbw 450 rfl rfl
set_option maxRecDepth 20000 in
theorem wl_X4_40 : Cond.methodLink RX4 40 yX4_advance ∈ TB := tbw 451 rfl rfl
set_option maxRecDepth 20000 in
theorem wm_X4_advance : Cond.instanceMethod yX4_advance ∈ TB := tbw 453 rfl rfl
set_option maxRecDepth 20000 in
theorem wc_X4_advance : Cond.code yX4_advance cX4_advance 6 (some .int) ∈ TB := tbw 454 rfl rfl
set_option maxRecDepth 20000 in
theorem wl_X4_63 : Cond.methodLink RX4 63 yX4_advancePair ∈ TB := tbw 455 rfl rfl
set_option maxRecDepth 20000 in
theorem wm_X4_advancePair : Cond.instanceMethod yX4_advancePair ∈ TB := tbw 457 rfl rfl
set_option maxRecDepth 20000 in
theorem wc_X4_advancePair : Cond.code yX4_advancePair cX4_advancePair 11 (some .int) ∈ TB := tbw 458 rfl rfl
set_option maxRecDepth 20000 in
theorem wl_X4_67 : Cond.methodLink RX4 67 arraycopyName ∈ TB := tbw 459 rfl rfl
set_option maxRecDepth 20000 in
theorem wl_X10_167 : Cond.methodLink RX10 167 yX9_holdsFor ∈ TB := tbw 460 rfl rfl
set_option maxRecDepth 20000 in
theorem wm_X9_holdsFor : Cond.instanceMethod yX9_holdsFor ∈ TB := tbw 461 rfl rfl
set_option maxRecDepth 20000 in
theorem wv_X9_holdsFor : Cond.selects RX9 yX9_holdsFor yX9_holdsFor ∈ TB := tbw 462 rfl rfl
set_option maxRecDepth 20000 in
theorem wc_X9_holdsFor : Cond.code yX9_holdsFor cX9_holdsFor 5 (some .boolean) ∈ TB := tbw 463 rfl rfl
set_option maxRecDepth 20000 in
theorem wl_X9_15 : Cond.methodLink RX9 15 yX0_states ∈ TB := tbw 464 rfl rfl
set_option maxRecDepth 20000 in
theorem wl_X9_21 : Cond.methodLink RX9 21 yJ7_fill_53178 ∈ TB := tbw 465 rfl rfl
set_option maxRecDepth 20000 in
theorem wl_X9_31 : Cond.methodLink RX9 31 yX9_carryOn ∈ TB := tbw 466 rfl rfl
set_option maxRecDepth 20000 in
theorem wm_X9_carryOn : Cond.instanceMethod yX9_carryOn ∈ TB := tbw 468 rfl rfl
set_option maxRecDepth 20000 in
theorem wc_X9_carryOn : Cond.code yX9_carryOn cX9_carryOn 6 (some .boolean) ∈ TB := tbw 469 rfl rfl
set_option maxRecDepth 20000 in
theorem wl_X9_35 : Cond.methodLink RX9 35 yX0_familyFrom ∈ TB := tbw 470 rfl rfl
set_option maxRecDepth 20000 in
theorem wl_X9_39 : Cond.methodLink RX9 39 yX1_turnOfFamily ∈ TB := tbw 471 rfl rfl
set_option maxRecDepth 20000 in
theorem ws_X1_turnOfFamily : Cond.static yX1_turnOfFamily ∈ TB := tbw 472 rfl rfl
set_option maxRecDepth 20000 in
theorem wc_X1_turnOfFamily : Cond.code yX1_turnOfFamily cX1_turnOfFamily 1 (some .int) ∈ TB := tbw 473 rfl rfl
set_option maxRecDepth 20000 in
theorem wl_X1_15 : Cond.methodLink RX1 15 yX1_turnOf ∈ TB := tbw 474 rfl rfl
set_option maxRecDepth 20000 in
theorem ws_X1_turnOf : Cond.static yX1_turnOf ∈ TB := tbw 475 rfl rfl
set_option maxRecDepth 20000 in
theorem wc_X1_turnOf : Cond.code yX1_turnOf cX1_turnOf 1 (some .int) ∈ TB := tbw 476 rfl rfl
set_option maxRecDepth 20000 in
theorem wl_X1_19 : Cond.methodLink RX1 19 yX1_familyOf ∈ TB := tbw 477 rfl rfl
set_option maxRecDepth 20000 in
theorem ws_X1_familyOf : Cond.static yX1_familyOf ∈ TB := tbw 478 rfl rfl
set_option maxRecDepth 20000 in
theorem wc_X1_familyOf : Cond.code yX1_familyOf cX1_familyOf 3 (some .int) ∈ TB := tbw 479 rfl rfl
set_option maxRecDepth 20000 in
theorem wl_X9_45 : Cond.methodLink RX9 45 yX9_follow ∈ TB := tbw 480 rfl rfl
set_option maxRecDepth 20000 in
theorem ws_X9_follow : Cond.static yX9_follow ∈ TB := tbw 481 rfl rfl
set_option maxRecDepth 20000 in
theorem wc_X9_follow : Cond.code yX9_follow cX9_follow 6 (some .int) ∈ TB := tbw 482 rfl rfl
set_option maxRecDepth 20000 in
theorem wl_X9_49 : Cond.methodLink RX9 49 yX0_stateAfter ∈ TB := tbw 483 rfl rfl
set_option maxRecDepth 20000 in
theorem wl_X9_52 : Cond.methodLink RX9 52 yX9_mark ∈ TB := tbw 484 rfl rfl
set_option maxRecDepth 20000 in
theorem wm_X9_mark : Cond.instanceMethod yX9_mark ∈ TB := tbw 486 rfl rfl
set_option maxRecDepth 20000 in
theorem wc_X9_mark : Cond.code yX9_mark cX9_mark 3 none ∈ TB := tbw 487 rfl rfl
set_option maxRecDepth 20000 in
theorem wl_X10_171 : Cond.methodLink RX10 171 yX10_countSigns ∈ TB := tbw 488 rfl rfl
set_option maxRecDepth 20000 in
theorem wm_X10_countSigns : Cond.instanceMethod yX10_countSigns ∈ TB := tbw 490 rfl rfl
set_option maxRecDepth 20000 in
theorem wc_X10_countSigns : Cond.code yX10_countSigns cX10_countSigns 2 (some .int) ∈ TB := tbw 491 rfl rfl
set_option maxRecDepth 20000 in
theorem wl_L_49 : Cond.methodLink RL 49 yX10_point ∈ TB := tbw 492 rfl rfl
set_option maxRecDepth 20000 in
theorem wm_X10_point : Cond.instanceMethod yX10_point ∈ TB := tbw 493 rfl rfl
set_option maxRecDepth 20000 in
theorem wv_X10_point : Cond.selects RX10 yX10_point yX10_point ∈ TB := tbw 494 rfl rfl
set_option maxRecDepth 20000 in
theorem wc_X10_point : Cond.code yX10_point cX10_point 3 (some .int) ∈ TB := tbw 495 rfl rfl
set_option maxRecDepth 20000 in
theorem wl_X10_174 : Cond.methodLink RX10 174 yX10_isPoint ∈ TB := tbw 496 rfl rfl
set_option maxRecDepth 20000 in
theorem ws_X10_isPoint : Cond.static yX10_isPoint ∈ TB := tbw 497 rfl rfl
set_option maxRecDepth 20000 in
theorem wc_X10_isPoint : Cond.code yX10_isPoint cX10_isPoint 1 (some .boolean) ∈ TB := tbw 498 rfl rfl
set_option maxRecDepth 20000 in
theorem wl_X10_177 : Cond.methodLink RX10 177 yX1_familyOf ∈ TB := tbw 499 rfl rfl
set_option maxRecDepth 20000 in
theorem wl_X10_180 : Cond.methodLink RX10 180 yX1_rankOf ∈ TB := tbw 500 rfl rfl
set_option maxRecDepth 20000 in
theorem ws_X1_rankOf : Cond.static yX1_rankOf ∈ TB := tbw 501 rfl rfl
set_option maxRecDepth 20000 in
theorem wc_X1_rankOf : Cond.code yX1_rankOf cX1_rankOf 3 (some .int) ∈ TB := tbw 502 rfl rfl
set_option maxRecDepth 20000 in
theorem wl_X10_183 : Cond.methodLink RX10 183 yX1_turnOf ∈ TB := tbw 503 rfl rfl
set_option maxRecDepth 20000 in
theorem wl_L_53 : Cond.methodLink RL 53 yX10_member ∈ TB := tbw 504 rfl rfl
set_option maxRecDepth 20000 in
theorem wm_X10_member : Cond.instanceMethod yX10_member ∈ TB := tbw 505 rfl rfl
set_option maxRecDepth 20000 in
theorem wv_X10_member : Cond.selects RX10 yX10_member yX10_member ∈ TB := tbw 506 rfl rfl
set_option maxRecDepth 20000 in
theorem wc_X10_member : Cond.code yX10_member cX10_member 3 (some .int) ∈ TB := tbw 507 rfl rfl
set_option maxRecDepth 20000 in
theorem wl_X10_186 : Cond.methodLink RX10 186 yX10_isFamily ∈ TB := tbw 508 rfl rfl
set_option maxRecDepth 20000 in
theorem ws_X10_isFamily : Cond.static yX10_isFamily ∈ TB := tbw 509 rfl rfl
set_option maxRecDepth 20000 in
theorem wc_X10_isFamily : Cond.code yX10_isFamily cX10_isFamily 1 (some .boolean) ∈ TB := tbw 510 rfl rfl
set_option maxRecDepth 20000 in
theorem wl_X10_189 : Cond.methodLink RX10 189 yX1_pointOf ∈ TB := tbw 511 rfl rfl
set_option maxRecDepth 20000 in
theorem wl_L_57 : Cond.methodLink RL 57 yX10_apart ∈ TB := tbw 512 rfl rfl
set_option maxRecDepth 20000 in
theorem wm_X10_apart : Cond.instanceMethod yX10_apart ∈ TB := tbw 513 rfl rfl
set_option maxRecDepth 20000 in
theorem wv_X10_apart : Cond.selects RX10 yX10_apart yX10_apart ∈ TB := tbw 514 rfl rfl
set_option maxRecDepth 20000 in
theorem wc_X10_apart : Cond.code yX10_apart cX10_apart 3 (some .int) ∈ TB := tbw 515 rfl rfl
set_option maxRecDepth 20000 in
theorem wl_X10_193 : Cond.methodLink RX10 193 yX1_gapOf ∈ TB := tbw 516 rfl rfl
set_option maxRecDepth 20000 in
theorem wl_L_61 : Cond.methodLink RL 61 yX10_distance ∈ TB := tbw 517 rfl rfl
set_option maxRecDepth 20000 in
theorem wm_X10_distance : Cond.instanceMethod yX10_distance ∈ TB := tbw 518 rfl rfl
set_option maxRecDepth 20000 in
theorem wv_X10_distance : Cond.selects RX10 yX10_distance yX10_distance ∈ TB := tbw 519 rfl rfl
set_option maxRecDepth 20000 in
theorem wc_X10_distance : Cond.code yX10_distance cX10_distance 3 (some .int) ∈ TB := tbw 520 rfl rfl
set_option maxRecDepth 20000 in
theorem wl_X10_196 : Cond.methodLink RX10 196 yX1_farFrom ∈ TB := tbw 521 rfl rfl
set_option maxRecDepth 20000 in
theorem wl_L_65 : Cond.methodLink RL 65 yX10_turned ∈ TB := tbw 522 rfl rfl
set_option maxRecDepth 20000 in
theorem wm_X10_turned : Cond.instanceMethod yX10_turned ∈ TB := tbw 523 rfl rfl
set_option maxRecDepth 20000 in
theorem wv_X10_turned : Cond.selects RX10 yX10_turned yX10_turned ∈ TB := tbw 524 rfl rfl
set_option maxRecDepth 20000 in
theorem wc_X10_turned : Cond.code yX10_turned cX10_turned 2 (some .int) ∈ TB := tbw 525 rfl rfl
set_option maxRecDepth 20000 in
theorem wl_X10_200 : Cond.methodLink RX10 200 yX1_turnOfFamily ∈ TB := tbw 526 rfl rfl
set_option maxRecDepth 20000 in
theorem wl_L_69 : Cond.methodLink RL 69 yX10_next ∈ TB := tbw 527 rfl rfl
set_option maxRecDepth 20000 in
theorem wm_X10_next : Cond.instanceMethod yX10_next ∈ TB := tbw 528 rfl rfl
set_option maxRecDepth 20000 in
theorem wv_X10_next : Cond.selects RX10 yX10_next yX10_next ∈ TB := tbw 529 rfl rfl
set_option maxRecDepth 20000 in
theorem wc_X10_next : Cond.code yX10_next cX10_next 4 (some .int) ∈ TB := tbw 530 rfl rfl
set_option maxRecDepth 20000 in
theorem wl_X10_203 : Cond.methodLink RX10 203 yX0_familyFrom ∈ TB := tbw 531 rfl rfl
set_option maxRecDepth 20000 in
theorem wl_X10_206 : Cond.methodLink RX10 206 yX0_stateAfter ∈ TB := tbw 532 rfl rfl
set_option maxRecDepth 20000 in
theorem wl_L_73 : Cond.methodLink RL 73 yX10_sent ∈ TB := tbw 533 rfl rfl
set_option maxRecDepth 20000 in
theorem wm_X10_sent : Cond.instanceMethod yX10_sent ∈ TB := tbw 534 rfl rfl
set_option maxRecDepth 20000 in
theorem wv_X10_sent : Cond.selects RX10 yX10_sent yX10_sent ∈ TB := tbw 535 rfl rfl
set_option maxRecDepth 20000 in
theorem wc_X10_sent : Cond.code yX10_sent cX10_sent 3 (some .int) ∈ TB := tbw 536 rfl rfl
set_option maxRecDepth 20000 in
theorem wl_X10_209 : Cond.methodLink RX10 209 yX7_partOf ∈ TB := tbw 537 rfl rfl
set_option maxRecDepth 20000 in
theorem wm_X7_partOf : Cond.instanceMethod yX7_partOf ∈ TB := tbw 538 rfl rfl
set_option maxRecDepth 20000 in
theorem wv_X7_partOf : Cond.selects RX7 yX7_partOf yX7_partOf ∈ TB := tbw 539 rfl rfl
set_option maxRecDepth 20000 in
theorem wc_X7_partOf : Cond.code yX7_partOf cX7_partOf 3 (some .int) ∈ TB := tbw 540 rfl rfl
set_option maxRecDepth 20000 in
theorem wk_X7_51 : Cond.constant RX7 51 (-1000000002) ∈ TB := tbw 541 rfl rfl
set_option maxRecDepth 20000 in
theorem wl_L_77 : Cond.methodLink RL 77 yX10_heard ∈ TB := tbw 542 rfl rfl
set_option maxRecDepth 20000 in
theorem wm_X10_heard : Cond.instanceMethod yX10_heard ∈ TB := tbw 543 rfl rfl
set_option maxRecDepth 20000 in
theorem wv_X10_heard : Cond.selects RX10 yX10_heard yX10_heard ∈ TB := tbw 544 rfl rfl
set_option maxRecDepth 20000 in
theorem wc_X10_heard : Cond.code yX10_heard cX10_heard 3 (some .int) ∈ TB := tbw 545 rfl rfl
set_option maxRecDepth 20000 in
theorem wl_X10_219 : Cond.methodLink RX10 219 yX1_pointAt ∈ TB := tbw 546 rfl rfl
set_option maxRecDepth 20000 in
theorem ws_X1_pointAt : Cond.static yX1_pointAt ∈ TB := tbw 547 rfl rfl
set_option maxRecDepth 20000 in
theorem wc_X1_pointAt : Cond.code yX1_pointAt cX1_pointAt 4 (some .int) ∈ TB := tbw 548 rfl rfl
set_option maxRecDepth 20000 in
theorem wl_L_81 : Cond.methodLink RL 81 yX10_nearest ∈ TB := tbw 549 rfl rfl
set_option maxRecDepth 20000 in
theorem wm_X10_nearest : Cond.instanceMethod yX10_nearest ∈ TB := tbw 550 rfl rfl
set_option maxRecDepth 20000 in
theorem wv_X10_nearest : Cond.selects RX10 yX10_nearest yX10_nearest ∈ TB := tbw 551 rfl rfl
set_option maxRecDepth 20000 in
theorem wc_X10_nearest : Cond.code yX10_nearest cX10_nearest 3 (some .int) ∈ TB := tbw 552 rfl rfl
set_option maxRecDepth 20000 in
theorem wk_X10_222 : Cond.constant RX10 222 (99999999) ∈ TB := tbw 553 rfl rfl
set_option maxRecDepth 20000 in
theorem wl_L_85 : Cond.methodLink RL 85 yX10_ahead ∈ TB := tbw 554 rfl rfl
set_option maxRecDepth 20000 in
theorem wm_X10_ahead : Cond.instanceMethod yX10_ahead ∈ TB := tbw 555 rfl rfl
set_option maxRecDepth 20000 in
theorem wv_X10_ahead : Cond.selects RX10 yX10_ahead yX10_ahead ∈ TB := tbw 556 rfl rfl
set_option maxRecDepth 20000 in
theorem wc_X10_ahead : Cond.code yX10_ahead cX10_ahead 3 (some .int) ∈ TB := tbw 557 rfl rfl
set_option maxRecDepth 20000 in
theorem wl_L_89 : Cond.methodLink RL 89 yX10_decided ∈ TB := tbw 558 rfl rfl
set_option maxRecDepth 20000 in
theorem wm_X10_decided : Cond.instanceMethod yX10_decided ∈ TB := tbw 559 rfl rfl
set_option maxRecDepth 20000 in
theorem wv_X10_decided : Cond.selects RX10 yX10_decided yX10_decided ∈ TB := tbw 560 rfl rfl
set_option maxRecDepth 20000 in
theorem wc_X10_decided : Cond.code yX10_decided cX10_decided 4 (some .int) ∈ TB := tbw 561 rfl rfl
set_option maxRecDepth 20000 in
theorem wl_L_93 : Cond.methodLink RL 93 yX10_cost ∈ TB := tbw 562 rfl rfl
set_option maxRecDepth 20000 in
theorem wm_X10_cost : Cond.instanceMethod yX10_cost ∈ TB := tbw 563 rfl rfl
set_option maxRecDepth 20000 in
theorem wv_X10_cost : Cond.selects RX10 yX10_cost yX10_cost ∈ TB := tbw 564 rfl rfl
set_option maxRecDepth 20000 in
theorem wc_X10_cost : Cond.code yX10_cost cX10_cost 4 (some .int) ∈ TB := tbw 565 rfl rfl
set_option maxRecDepth 20000 in
theorem wl_L_97 : Cond.methodLink RL 97 yX10_sign ∈ TB := tbw 566 rfl rfl
set_option maxRecDepth 20000 in
theorem wm_X10_sign : Cond.instanceMethod yX10_sign ∈ TB := tbw 567 rfl rfl
set_option maxRecDepth 20000 in
theorem wv_X10_sign : Cond.selects RX10 yX10_sign yX10_sign ∈ TB := tbw 568 rfl rfl
set_option maxRecDepth 20000 in
theorem wc_X10_sign : Cond.code yX10_sign cX10_sign 4 (some .int) ∈ TB := tbw 569 rfl rfl
set_option maxRecDepth 20000 in
theorem wl_L_101 : Cond.methodLink RL 101 yX10_keep ∈ TB := tbw 570 rfl rfl
set_option maxRecDepth 20000 in
theorem wm_X10_keep : Cond.instanceMethod yX10_keep ∈ TB := tbw 571 rfl rfl
set_option maxRecDepth 20000 in
theorem wv_X10_keep : Cond.selects RX10 yX10_keep yX10_keep ∈ TB := tbw 572 rfl rfl
set_option maxRecDepth 20000 in
theorem wc_X10_keep : Cond.code yX10_keep cX10_keep 2 (some .int) ∈ TB := tbw 573 rfl rfl
set_option maxRecDepth 20000 in
theorem wl_X10_239 : Cond.methodLink RX10 239 yX3_become ∈ TB := tbw 574 rfl rfl
set_option maxRecDepth 20000 in
theorem wl_X10_242 : Cond.methodLink RX10 242 yX5_forget ∈ TB := tbw 575 rfl rfl
set_option maxRecDepth 20000 in
theorem wm_X5_forget : Cond.instanceMethod yX5_forget ∈ TB := tbw 576 rfl rfl
set_option maxRecDepth 20000 in
theorem wv_X5_forget : Cond.selects RX5 yX5_forget yX5_forget ∈ TB := tbw 577 rfl rfl
set_option maxRecDepth 20000 in
theorem wc_X5_forget : Cond.code yX5_forget cX5_forget 1 none ∈ TB := tbw 578 rfl rfl
set_option maxRecDepth 20000 in
theorem wl_L_105 : Cond.methodLink RL 105 yX10_goBack ∈ TB := tbw 579 rfl rfl
set_option maxRecDepth 20000 in
theorem wm_X10_goBack : Cond.instanceMethod yX10_goBack ∈ TB := tbw 580 rfl rfl
set_option maxRecDepth 20000 in
theorem wv_X10_goBack : Cond.selects RX10 yX10_goBack yX10_goBack ∈ TB := tbw 581 rfl rfl
set_option maxRecDepth 20000 in
theorem wc_X10_goBack : Cond.code yX10_goBack cX10_goBack 2 (some .int) ∈ TB := tbw 582 rfl rfl
set_option maxRecDepth 20000 in
theorem wcl_L_10 : Cond.classLink RL 10 RX11 ∈ TB := tbw 583 rfl rfl
set_option maxRecDepth 20000 in
theorem win_X11 : Cond.instantiable RX11 13 ∈ TB := tbw 584 rfl rfl
set_option maxRecDepth 20000 in
theorem wl_L_12 : Cond.methodLink RL 12 yX11_init ∈ TB := tbw 585 rfl rfl
set_option maxRecDepth 20000 in
theorem wm_X11_init : Cond.instanceMethod yX11_init ∈ TB := tbw 586 rfl rfl
set_option maxRecDepth 20000 in
theorem wc_X11_init : Cond.code yX11_init cX11_init 1 none ∈ TB := tbw 587 rfl rfl
set_option maxRecDepth 20000 in
theorem wl_X11_1 : Cond.methodLink RX11 1 objectInit ∈ TB := tbw 588 rfl rfl
set_option maxRecDepth 20000 in
theorem wf_X11_7 : Cond.fieldLink RX11 7 "GridRowsModel" "now" "[I" ∈ TB := tbw 589 rfl rfl
set_option maxRecDepth 20000 in
theorem wf_X11_13 : Cond.fieldLink RX11 13 "GridRowsModel" "past" "[I" ∈ TB := tbw 590 rfl rfl
set_option maxRecDepth 20000 in
theorem wf_X11_80 : Cond.fieldLink RX11 80 "GridRowsModel" "acts" "I" ∈ TB := tbw 591 rfl rfl
set_option maxRecDepth 20000 in
theorem wf_X11_16 : Cond.fieldLink RX11 16 "GridRowsModel" "images" "[I" ∈ TB := tbw 592 rfl rfl
set_option maxRecDepth 20000 in
theorem wf_X11_19 : Cond.fieldLink RX11 19 "GridRowsModel" "kept" "[Z" ∈ TB := tbw 593 rfl rfl
set_option maxRecDepth 20000 in
theorem wf_X11_23 : Cond.fieldLink RX11 23 "GridRowsModel" "least" "[I" ∈ TB := tbw 594 rfl rfl
set_option maxRecDepth 20000 in
theorem wf_X11_26 : Cond.fieldLink RX11 26 "GridRowsModel" "bits" "[I" ∈ TB := tbw 595 rfl rfl
set_option maxRecDepth 20000 in
theorem wf_X11_29 : Cond.fieldLink RX11 29 "GridRowsModel" "choices" "[I" ∈ TB := tbw 596 rfl rfl
set_option maxRecDepth 20000 in
theorem wf_X11_32 : Cond.fieldLink RX11 32 "GridRowsModel" "states" "[I" ∈ TB := tbw 597 rfl rfl
set_option maxRecDepth 20000 in
theorem wf_X11_35 : Cond.fieldLink RX11 35 "GridRowsModel" "pairs" "[I" ∈ TB := tbw 598 rfl rfl
set_option maxRecDepth 20000 in
theorem wf_X11_38 : Cond.fieldLink RX11 38 "GridRowsModel" "next" "[I" ∈ TB := tbw 599 rfl rfl
set_option maxRecDepth 20000 in
theorem wf_X11_41 : Cond.fieldLink RX11 41 "GridRowsModel" "seen" "[Z" ∈ TB := tbw 600 rfl rfl
set_option maxRecDepth 20000 in
theorem wf_X11_44 : Cond.fieldLink RX11 44 "GridRowsModel" "heap" "[I" ∈ TB := tbw 601 rfl rfl
set_option maxRecDepth 20000 in
theorem wl_L_17 : Cond.methodLink RL 17 yX11_code ∈ TB := tbw 629 rfl rfl
set_option maxRecDepth 20000 in
theorem wm_X11_code : Cond.instanceMethod yX11_code ∈ TB := tbw 630 rfl rfl
set_option maxRecDepth 20000 in
theorem wv_X11_code : Cond.selects RX11 yX11_code yX11_code ∈ TB := tbw 631 rfl rfl
set_option maxRecDepth 20000 in
theorem wc_X11_code : Cond.code yX11_code cX11_code 4 (some .int) ∈ TB := tbw 632 rfl rfl
set_option maxRecDepth 20000 in
theorem wl_X11_69 : Cond.methodLink RX11 69 yX11_in ∈ TB := tbw 633 rfl rfl
set_option maxRecDepth 20000 in
theorem ws_X11_in : Cond.static yX11_in ∈ TB := tbw 634 rfl rfl
set_option maxRecDepth 20000 in
theorem wc_X11_in : Cond.code yX11_in cX11_in 3 (some .boolean) ∈ TB := tbw 635 rfl rfl
set_option maxRecDepth 20000 in
theorem wk_X11_84 : Cond.constant RX11 84 (-1000000002) ∈ TB := tbw 636 rfl rfl
set_option maxRecDepth 20000 in
theorem wl_X11_85 : Cond.methodLink RX11 85 yX11_notes ∈ TB := tbw 637 rfl rfl
set_option maxRecDepth 20000 in
theorem wm_X11_notes : Cond.instanceMethod yX11_notes ∈ TB := tbw 639 rfl rfl
set_option maxRecDepth 20000 in
theorem wc_X11_notes : Cond.code yX11_notes cX11_notes 2 none ∈ TB := tbw 640 rfl rfl
set_option maxRecDepth 20000 in
theorem wl_X11_73 : Cond.methodLink RX11 73 yX11_manyStates ∈ TB := tbw 641 rfl rfl
set_option maxRecDepth 20000 in
theorem wm_X11_manyStates : Cond.instanceMethod yX11_manyStates ∈ TB := tbw 643 rfl rfl
set_option maxRecDepth 20000 in
theorem wc_X11_manyStates : Cond.code yX11_manyStates cX11_manyStates 1 (some .int) ∈ TB := tbw 644 rfl rfl
set_option maxRecDepth 20000 in
theorem wl_L_22 : Cond.methodLink RL 22 yX11_send ∈ TB := tbw 645 rfl rfl
set_option maxRecDepth 20000 in
theorem wm_X11_send : Cond.instanceMethod yX11_send ∈ TB := tbw 646 rfl rfl
set_option maxRecDepth 20000 in
theorem wv_X11_send : Cond.selects RX11 yX11_send yX11_send ∈ TB := tbw 647 rfl rfl
set_option maxRecDepth 20000 in
theorem wc_X11_send : Cond.code yX11_send cX11_send 3 (some .int) ∈ TB := tbw 648 rfl rfl
set_option maxRecDepth 20000 in
theorem wk_X11_97 : Cond.constant RX11 97 (-1000000004) ∈ TB := tbw 649 rfl rfl
set_option maxRecDepth 20000 in
theorem wl_X11_98 : Cond.methodLink RX11 98 yX11_sends ∈ TB := tbw 650 rfl rfl
set_option maxRecDepth 20000 in
theorem wm_X11_sends : Cond.instanceMethod yX11_sends ∈ TB := tbw 652 rfl rfl
set_option maxRecDepth 20000 in
theorem wc_X11_sends : Cond.code yX11_sends cX11_sends 4 none ∈ TB := tbw 653 rfl rfl
set_option maxRecDepth 20000 in
theorem wl_X11_102 : Cond.methodLink RX11 102 yX11_pointSent ∈ TB := tbw 654 rfl rfl
set_option maxRecDepth 20000 in
theorem wm_X11_pointSent : Cond.instanceMethod yX11_pointSent ∈ TB := tbw 656 rfl rfl
set_option maxRecDepth 20000 in
theorem wc_X11_pointSent : Cond.code yX11_pointSent cX11_pointSent 2 (some .int) ∈ TB := tbw 657 rfl rfl
set_option maxRecDepth 20000 in
theorem wl_X11_91 : Cond.methodLink RX11 91 yX11_stateBehind ∈ TB := tbw 658 rfl rfl
set_option maxRecDepth 20000 in
theorem wm_X11_stateBehind : Cond.instanceMethod yX11_stateBehind ∈ TB := tbw 660 rfl rfl
set_option maxRecDepth 20000 in
theorem wc_X11_stateBehind : Cond.code yX11_stateBehind cX11_stateBehind 4 (some .int) ∈ TB := tbw 661 rfl rfl
set_option maxRecDepth 20000 in
theorem wl_X11_88 : Cond.methodLink RX11 88 yX11_stateBy ∈ TB := tbw 662 rfl rfl
set_option maxRecDepth 20000 in
theorem wm_X11_stateBy : Cond.instanceMethod yX11_stateBy ∈ TB := tbw 664 rfl rfl
set_option maxRecDepth 20000 in
theorem wc_X11_stateBy : Cond.code yX11_stateBy cX11_stateBy 3 (some .int) ∈ TB := tbw 665 rfl rfl
set_option maxRecDepth 20000 in
theorem wl_X11_94 : Cond.methodLink RX11 94 yX11_familyBy ∈ TB := tbw 666 rfl rfl
set_option maxRecDepth 20000 in
theorem wm_X11_familyBy : Cond.instanceMethod yX11_familyBy ∈ TB := tbw 668 rfl rfl
set_option maxRecDepth 20000 in
theorem wc_X11_familyBy : Cond.code yX11_familyBy cX11_familyBy 4 (some .int) ∈ TB := tbw 669 rfl rfl
set_option maxRecDepth 20000 in
theorem wl_X11_77 : Cond.methodLink RX11 77 yX11_odd ∈ TB := tbw 670 rfl rfl
set_option maxRecDepth 20000 in
theorem ws_X11_odd : Cond.static yX11_odd ∈ TB := tbw 671 rfl rfl
set_option maxRecDepth 20000 in
theorem wc_X11_odd : Cond.code yX11_odd cX11_odd 3 (some .int) ∈ TB := tbw 672 rfl rfl
set_option maxRecDepth 20000 in
theorem wl_X11_62 : Cond.methodLink RX11 62 yX11_memberOf ∈ TB := tbw 673 rfl rfl
set_option maxRecDepth 20000 in
theorem ws_X11_memberOf : Cond.static yX11_memberOf ∈ TB := tbw 674 rfl rfl
set_option maxRecDepth 20000 in
theorem wc_X11_memberOf : Cond.code yX11_memberOf cX11_memberOf 4 (some .int) ∈ TB := tbw 675 rfl rfl
set_option maxRecDepth 20000 in
theorem wl_X11_47 : Cond.methodLink RX11 47 yX11_familyOf ∈ TB := tbw 676 rfl rfl
set_option maxRecDepth 20000 in
theorem ws_X11_familyOf : Cond.static yX11_familyOf ∈ TB := tbw 677 rfl rfl
set_option maxRecDepth 20000 in
theorem wc_X11_familyOf : Cond.code yX11_familyOf cX11_familyOf 3 (some .int) ∈ TB := tbw 678 rfl rfl
set_option maxRecDepth 20000 in
theorem wl_L_26 : Cond.methodLink RL 26 yX11_hear ∈ TB := tbw 679 rfl rfl
set_option maxRecDepth 20000 in
theorem wm_X11_hear : Cond.instanceMethod yX11_hear ∈ TB := tbw 680 rfl rfl
set_option maxRecDepth 20000 in
theorem wv_X11_hear : Cond.selects RX11 yX11_hear yX11_hear ∈ TB := tbw 681 rfl rfl
set_option maxRecDepth 20000 in
theorem wc_X11_hear : Cond.code yX11_hear cX11_hear 3 (some .int) ∈ TB := tbw 682 rfl rfl
set_option maxRecDepth 20000 in
theorem wl_X11_105 : Cond.methodLink RX11 105 yX11_hears ∈ TB := tbw 683 rfl rfl
set_option maxRecDepth 20000 in
theorem wm_X11_hears : Cond.instanceMethod yX11_hears ∈ TB := tbw 685 rfl rfl
set_option maxRecDepth 20000 in
theorem wc_X11_hears : Cond.code yX11_hears cX11_hears 4 none ∈ TB := tbw 686 rfl rfl
set_option maxRecDepth 20000 in
theorem wl_L_30 : Cond.methodLink RL 30 yX11_drift ∈ TB := tbw 687 rfl rfl
set_option maxRecDepth 20000 in
theorem wm_X11_drift : Cond.instanceMethod yX11_drift ∈ TB := tbw 688 rfl rfl
set_option maxRecDepth 20000 in
theorem wv_X11_drift : Cond.selects RX11 yX11_drift yX11_drift ∈ TB := tbw 689 rfl rfl
set_option maxRecDepth 20000 in
theorem wc_X11_drift : Cond.code yX11_drift cX11_drift 9 (some .int) ∈ TB := tbw 690 rfl rfl
set_option maxRecDepth 20000 in
theorem wk_X11_112 : Cond.constant RX11 112 (999999) ∈ TB := tbw 691 rfl rfl
set_option maxRecDepth 20000 in
theorem wl_X11_113 : Cond.methodLink RX11 113 yX11_drawn ∈ TB := tbw 692 rfl rfl
set_option maxRecDepth 20000 in
theorem ws_X11_drawn : Cond.static yX11_drawn ∈ TB := tbw 693 rfl rfl
set_option maxRecDepth 20000 in
theorem wc_X11_drawn : Cond.code yX11_drawn cX11_drawn 2 (some .long) ∈ TB := tbw 694 rfl rfl
set_option maxRecDepth 20000 in
theorem wkl_X11_108 : Cond.constantLong RX11 108 (16807) ∈ TB := tbw 695 rfl rfl
set_option maxRecDepth 20000 in
theorem wkl_X11_110 : Cond.constantLong RX11 110 (2147483647) ∈ TB := tbw 696 rfl rfl
set_option maxRecDepth 20000 in
theorem wkl_X11_117 : Cond.constantLong RX11 117 (2) ∈ TB := tbw 697 rfl rfl
set_option maxRecDepth 20000 in
theorem wkl_X11_119 : Cond.constantLong RX11 119 (4) ∈ TB := tbw 698 rfl rfl
set_option maxRecDepth 20000 in
theorem wkl_X11_121 : Cond.constantLong RX11 121 (25) ∈ TB := tbw 699 rfl rfl
set_option maxRecDepth 20000 in
theorem wl_X11_51 : Cond.methodLink RX11 51 yX11_xOf ∈ TB := tbw 700 rfl rfl
set_option maxRecDepth 20000 in
theorem ws_X11_xOf : Cond.static yX11_xOf ∈ TB := tbw 701 rfl rfl
set_option maxRecDepth 20000 in
theorem wc_X11_xOf : Cond.code yX11_xOf cX11_xOf 1 (some .int) ∈ TB := tbw 702 rfl rfl
set_option maxRecDepth 20000 in
theorem wl_X11_54 : Cond.methodLink RX11 54 yX11_yOf ∈ TB := tbw 703 rfl rfl
set_option maxRecDepth 20000 in
theorem ws_X11_yOf : Cond.static yX11_yOf ∈ TB := tbw 704 rfl rfl
set_option maxRecDepth 20000 in
theorem wc_X11_yOf : Cond.code yX11_yOf cX11_yOf 1 (some .int) ∈ TB := tbw 705 rfl rfl
set_option maxRecDepth 20000 in
theorem wl_L_35 : Cond.methodLink RL 35 yX11_wipe ∈ TB := tbw 706 rfl rfl
set_option maxRecDepth 20000 in
theorem wm_X11_wipe : Cond.instanceMethod yX11_wipe ∈ TB := tbw 707 rfl rfl
set_option maxRecDepth 20000 in
theorem wv_X11_wipe : Cond.selects RX11 yX11_wipe yX11_wipe ∈ TB := tbw 708 rfl rfl
set_option maxRecDepth 20000 in
theorem wc_X11_wipe : Cond.code yX11_wipe cX11_wipe 2 (some .int) ∈ TB := tbw 709 rfl rfl
set_option maxRecDepth 20000 in
theorem wl_L_40 : Cond.methodLink RL 40 yX11_end ∈ TB := tbw 710 rfl rfl
set_option maxRecDepth 20000 in
theorem wm_X11_end : Cond.instanceMethod yX11_end ∈ TB := tbw 711 rfl rfl
set_option maxRecDepth 20000 in
theorem wv_X11_end : Cond.selects RX11 yX11_end yX11_end ∈ TB := tbw 712 rfl rfl
set_option maxRecDepth 20000 in
theorem wc_X11_end : Cond.code yX11_end cX11_end 3 (some .int) ∈ TB := tbw 713 rfl rfl
set_option maxRecDepth 20000 in
theorem wl_X11_123 : Cond.methodLink RX11 123 yX11_isState ∈ TB := tbw 714 rfl rfl
set_option maxRecDepth 20000 in
theorem wm_X11_isState : Cond.instanceMethod yX11_isState ∈ TB := tbw 716 rfl rfl
set_option maxRecDepth 20000 in
theorem wc_X11_isState : Cond.code yX11_isState cX11_isState 2 (some .boolean) ∈ TB := tbw 717 rfl rfl
set_option maxRecDepth 20000 in
theorem wk_X11_127 : Cond.constant RX11 127 (-1000000001) ∈ TB := tbw 718 rfl rfl
set_option maxRecDepth 20000 in
theorem wl_L_44 : Cond.methodLink RL 44 yX11_undo ∈ TB := tbw 719 rfl rfl
set_option maxRecDepth 20000 in
theorem wm_X11_undo : Cond.instanceMethod yX11_undo ∈ TB := tbw 720 rfl rfl
set_option maxRecDepth 20000 in
theorem wv_X11_undo : Cond.selects RX11 yX11_undo yX11_undo ∈ TB := tbw 721 rfl rfl
set_option maxRecDepth 20000 in
theorem wc_X11_undo : Cond.code yX11_undo cX11_undo 2 (some .int) ∈ TB := tbw 722 rfl rfl
set_option maxRecDepth 20000 in
theorem wk_X11_128 : Cond.constant RX11 128 (-1000000003) ∈ TB := tbw 723 rfl rfl
set_option maxRecDepth 20000 in
theorem wl_L_48 : Cond.methodLink RL 48 yX11_told ∈ TB := tbw 724 rfl rfl
set_option maxRecDepth 20000 in
theorem wm_X11_told : Cond.instanceMethod yX11_told ∈ TB := tbw 725 rfl rfl
set_option maxRecDepth 20000 in
theorem wv_X11_told : Cond.selects RX11 yX11_told yX11_told ∈ TB := tbw 726 rfl rfl
set_option maxRecDepth 20000 in
theorem wc_X11_told : Cond.code yX11_told cX11_told 2 (some .int) ∈ TB := tbw 727 rfl rfl
set_option maxRecDepth 20000 in
theorem wl_X11_136 : Cond.methodLink RX11 136 yX11_finds ∈ TB := tbw 728 rfl rfl
set_option maxRecDepth 20000 in
theorem wm_X11_finds : Cond.instanceMethod yX11_finds ∈ TB := tbw 730 rfl rfl
set_option maxRecDepth 20000 in
theorem wc_X11_finds : Cond.code yX11_finds cX11_finds 8 (some .int) ∈ TB := tbw 731 rfl rfl
set_option maxRecDepth 20000 in
theorem wk_X11_57 : Cond.constant RX11 57 (99999999) ∈ TB := tbw 732 rfl rfl
set_option maxRecDepth 20000 in
theorem wl_X11_132 : Cond.methodLink RX11 132 yX11_costFrom ∈ TB := tbw 733 rfl rfl
set_option maxRecDepth 20000 in
theorem wm_X11_costFrom : Cond.instanceMethod yX11_costFrom ∈ TB := tbw 735 rfl rfl
set_option maxRecDepth 20000 in
theorem wc_X11_costFrom : Cond.code yX11_costFrom cX11_costFrom 6 (some .int) ∈ TB := tbw 736 rfl rfl
set_option maxRecDepth 20000 in
theorem wl_X11_129 : Cond.methodLink RX11 129 yX11_costAt ∈ TB := tbw 737 rfl rfl
set_option maxRecDepth 20000 in
theorem wm_X11_costAt : Cond.instanceMethod yX11_costAt ∈ TB := tbw 739 rfl rfl
set_option maxRecDepth 20000 in
theorem wc_X11_costAt : Cond.code yX11_costAt cX11_costAt 3 (some .int) ∈ TB := tbw 740 rfl rfl
set_option maxRecDepth 20000 in
theorem wl_X11_58 : Cond.methodLink RX11 58 yX11_far ∈ TB := tbw 741 rfl rfl
set_option maxRecDepth 20000 in
theorem ws_X11_far : Cond.static yX11_far ∈ TB := tbw 742 rfl rfl
set_option maxRecDepth 20000 in
theorem wc_X11_far : Cond.code yX11_far cX11_far 5 (some .int) ∈ TB := tbw 743 rfl rfl
set_option maxRecDepth 20000 in
theorem wl_X11_151 : Cond.methodLink RX11 151 yX11_errors ∈ TB := tbw 744 rfl rfl
set_option maxRecDepth 20000 in
theorem wm_X11_errors : Cond.instanceMethod yX11_errors ∈ TB := tbw 746 rfl rfl
set_option maxRecDepth 20000 in
theorem wc_X11_errors : Cond.code yX11_errors cX11_errors 3 (some .int) ∈ TB := tbw 747 rfl rfl
set_option maxRecDepth 20000 in
theorem wl_X11_139 : Cond.methodLink RX11 139 yX11_pointOf ∈ TB := tbw 748 rfl rfl
set_option maxRecDepth 20000 in
theorem wm_X11_pointOf : Cond.instanceMethod yX11_pointOf ∈ TB := tbw 750 rfl rfl
set_option maxRecDepth 20000 in
theorem wc_X11_pointOf : Cond.code yX11_pointOf cX11_pointOf 2 (some .int) ∈ TB := tbw 751 rfl rfl
set_option maxRecDepth 20000 in
theorem wl_X11_154 : Cond.methodLink RX11 154 yX11_free ∈ TB := tbw 752 rfl rfl
set_option maxRecDepth 20000 in
theorem wm_X11_free : Cond.instanceMethod yX11_free ∈ TB := tbw 754 rfl rfl
set_option maxRecDepth 20000 in
theorem wc_X11_free : Cond.code yX11_free cX11_free 9 (some .int) ∈ TB := tbw 755 rfl rfl
set_option maxRecDepth 20000 in
theorem wl_X11_142 : Cond.methodLink RX11 142 yX11_apartOf ∈ TB := tbw 756 rfl rfl
set_option maxRecDepth 20000 in
theorem ws_X11_apartOf : Cond.static yX11_apartOf ∈ TB := tbw 757 rfl rfl
set_option maxRecDepth 20000 in
theorem wc_X11_apartOf : Cond.code yX11_apartOf cX11_apartOf 7 (some .int) ∈ TB := tbw 758 rfl rfl
set_option maxRecDepth 20000 in
theorem wl_X11_145 : Cond.methodLink RX11 145 yX11_apartBy ∈ TB := tbw 759 rfl rfl
set_option maxRecDepth 20000 in
theorem wm_X11_apartBy : Cond.instanceMethod yX11_apartBy ∈ TB := tbw 761 rfl rfl
set_option maxRecDepth 20000 in
theorem wc_X11_apartBy : Cond.code yX11_apartBy cX11_apartBy 7 (some .int) ∈ TB := tbw 762 rfl rfl
set_option maxRecDepth 20000 in
theorem wl_X11_157 : Cond.methodLink RX11 157 yX11_isTurning ∈ TB := tbw 763 rfl rfl
set_option maxRecDepth 20000 in
theorem wm_X11_isTurning : Cond.instanceMethod yX11_isTurning ∈ TB := tbw 765 rfl rfl
set_option maxRecDepth 20000 in
theorem wc_X11_isTurning : Cond.code yX11_isTurning cX11_isTurning 11 (some .boolean) ∈ TB := tbw 766 rfl rfl
set_option maxRecDepth 20000 in
theorem wl_X11_148 : Cond.methodLink RX11 148 yX11_turnedFamily ∈ TB := tbw 767 rfl rfl
set_option maxRecDepth 20000 in
theorem ws_X11_turnedFamily : Cond.static yX11_turnedFamily ∈ TB := tbw 768 rfl rfl
set_option maxRecDepth 20000 in
theorem wc_X11_turnedFamily : Cond.code yX11_turnedFamily cX11_turnedFamily 1 (some .int) ∈ TB := tbw 769 rfl rfl
set_option maxRecDepth 20000 in
theorem wl_X11_66 : Cond.methodLink RX11 66 yX11_turn ∈ TB := tbw 770 rfl rfl
set_option maxRecDepth 20000 in
theorem ws_X11_turn : Cond.static yX11_turn ∈ TB := tbw 771 rfl rfl
set_option maxRecDepth 20000 in
theorem wc_X11_turn : Cond.code yX11_turn cX11_turn 1 (some .int) ∈ TB := tbw 772 rfl rfl
set_option maxRecDepth 20000 in
theorem wl_X11_161 : Cond.methodLink RX11 161 yX11_signs ∈ TB := tbw 773 rfl rfl
set_option maxRecDepth 20000 in
theorem wm_X11_signs : Cond.instanceMethod yX11_signs ∈ TB := tbw 775 rfl rfl
set_option maxRecDepth 20000 in
theorem wc_X11_signs : Cond.code yX11_signs cX11_signs 2 (some .int) ∈ TB := tbw 776 rfl rfl
set_option maxRecDepth 20000 in
theorem wl_L_52 : Cond.methodLink RL 52 yX11_point ∈ TB := tbw 777 rfl rfl
set_option maxRecDepth 20000 in
theorem wm_X11_point : Cond.instanceMethod yX11_point ∈ TB := tbw 778 rfl rfl
set_option maxRecDepth 20000 in
theorem wv_X11_point : Cond.selects RX11 yX11_point yX11_point ∈ TB := tbw 779 rfl rfl
set_option maxRecDepth 20000 in
theorem wc_X11_point : Cond.code yX11_point cX11_point 3 (some .int) ∈ TB := tbw 780 rfl rfl
set_option maxRecDepth 20000 in
theorem wl_X11_164 : Cond.methodLink RX11 164 yX11_isPoint ∈ TB := tbw 781 rfl rfl
set_option maxRecDepth 20000 in
theorem ws_X11_isPoint : Cond.static yX11_isPoint ∈ TB := tbw 782 rfl rfl
set_option maxRecDepth 20000 in
theorem wc_X11_isPoint : Cond.code yX11_isPoint cX11_isPoint 1 (some .boolean) ∈ TB := tbw 783 rfl rfl
set_option maxRecDepth 20000 in
theorem wl_X11_167 : Cond.methodLink RX11 167 yX11_orderOf ∈ TB := tbw 784 rfl rfl
set_option maxRecDepth 20000 in
theorem ws_X11_orderOf : Cond.static yX11_orderOf ∈ TB := tbw 785 rfl rfl
set_option maxRecDepth 20000 in
theorem wc_X11_orderOf : Cond.code yX11_orderOf cX11_orderOf 3 (some .int) ∈ TB := tbw 786 rfl rfl
set_option maxRecDepth 20000 in
theorem wl_L_56 : Cond.methodLink RL 56 yX11_member ∈ TB := tbw 787 rfl rfl
set_option maxRecDepth 20000 in
theorem wm_X11_member : Cond.instanceMethod yX11_member ∈ TB := tbw 788 rfl rfl
set_option maxRecDepth 20000 in
theorem wv_X11_member : Cond.selects RX11 yX11_member yX11_member ∈ TB := tbw 789 rfl rfl
set_option maxRecDepth 20000 in
theorem wc_X11_member : Cond.code yX11_member cX11_member 3 (some .int) ∈ TB := tbw 790 rfl rfl
set_option maxRecDepth 20000 in
theorem wl_X11_170 : Cond.methodLink RX11 170 yX11_isFamily ∈ TB := tbw 791 rfl rfl
set_option maxRecDepth 20000 in
theorem ws_X11_isFamily : Cond.static yX11_isFamily ∈ TB := tbw 792 rfl rfl
set_option maxRecDepth 20000 in
theorem wc_X11_isFamily : Cond.code yX11_isFamily cX11_isFamily 1 (some .boolean) ∈ TB := tbw 793 rfl rfl
set_option maxRecDepth 20000 in
theorem wl_L_60 : Cond.methodLink RL 60 yX11_apart ∈ TB := tbw 794 rfl rfl
set_option maxRecDepth 20000 in
theorem wm_X11_apart : Cond.instanceMethod yX11_apart ∈ TB := tbw 795 rfl rfl
set_option maxRecDepth 20000 in
theorem wv_X11_apart : Cond.selects RX11 yX11_apart yX11_apart ∈ TB := tbw 796 rfl rfl
set_option maxRecDepth 20000 in
theorem wc_X11_apart : Cond.code yX11_apart cX11_apart 3 (some .int) ∈ TB := tbw 797 rfl rfl
set_option maxRecDepth 20000 in
theorem wl_L_64 : Cond.methodLink RL 64 yX11_distance ∈ TB := tbw 798 rfl rfl
set_option maxRecDepth 20000 in
theorem wm_X11_distance : Cond.instanceMethod yX11_distance ∈ TB := tbw 799 rfl rfl
set_option maxRecDepth 20000 in
theorem wv_X11_distance : Cond.selects RX11 yX11_distance yX11_distance ∈ TB := tbw 800 rfl rfl
set_option maxRecDepth 20000 in
theorem wc_X11_distance : Cond.code yX11_distance cX11_distance 3 (some .int) ∈ TB := tbw 801 rfl rfl
set_option maxRecDepth 20000 in
theorem wl_L_68 : Cond.methodLink RL 68 yX11_turned ∈ TB := tbw 802 rfl rfl
set_option maxRecDepth 20000 in
theorem wm_X11_turned : Cond.instanceMethod yX11_turned ∈ TB := tbw 803 rfl rfl
set_option maxRecDepth 20000 in
theorem wv_X11_turned : Cond.selects RX11 yX11_turned yX11_turned ∈ TB := tbw 804 rfl rfl
set_option maxRecDepth 20000 in
theorem wc_X11_turned : Cond.code yX11_turned cX11_turned 2 (some .int) ∈ TB := tbw 805 rfl rfl
set_option maxRecDepth 20000 in
theorem wl_L_72 : Cond.methodLink RL 72 yX11_next ∈ TB := tbw 806 rfl rfl
set_option maxRecDepth 20000 in
theorem wm_X11_next : Cond.instanceMethod yX11_next ∈ TB := tbw 807 rfl rfl
set_option maxRecDepth 20000 in
theorem wv_X11_next : Cond.selects RX11 yX11_next yX11_next ∈ TB := tbw 808 rfl rfl
set_option maxRecDepth 20000 in
theorem wc_X11_next : Cond.code yX11_next cX11_next 4 (some .int) ∈ TB := tbw 809 rfl rfl
set_option maxRecDepth 20000 in
theorem wl_L_76 : Cond.methodLink RL 76 yX11_sent ∈ TB := tbw 810 rfl rfl
set_option maxRecDepth 20000 in
theorem wm_X11_sent : Cond.instanceMethod yX11_sent ∈ TB := tbw 811 rfl rfl
set_option maxRecDepth 20000 in
theorem wv_X11_sent : Cond.selects RX11 yX11_sent yX11_sent ∈ TB := tbw 812 rfl rfl
set_option maxRecDepth 20000 in
theorem wc_X11_sent : Cond.code yX11_sent cX11_sent 3 (some .int) ∈ TB := tbw 813 rfl rfl
set_option maxRecDepth 20000 in
theorem wl_L_80 : Cond.methodLink RL 80 yX11_heard ∈ TB := tbw 814 rfl rfl
set_option maxRecDepth 20000 in
theorem wm_X11_heard : Cond.instanceMethod yX11_heard ∈ TB := tbw 815 rfl rfl
set_option maxRecDepth 20000 in
theorem wv_X11_heard : Cond.selects RX11 yX11_heard yX11_heard ∈ TB := tbw 816 rfl rfl
set_option maxRecDepth 20000 in
theorem wc_X11_heard : Cond.code yX11_heard cX11_heard 5 (some .int) ∈ TB := tbw 817 rfl rfl
set_option maxRecDepth 20000 in
theorem wl_L_84 : Cond.methodLink RL 84 yX11_nearest ∈ TB := tbw 818 rfl rfl
set_option maxRecDepth 20000 in
theorem wm_X11_nearest : Cond.instanceMethod yX11_nearest ∈ TB := tbw 819 rfl rfl
set_option maxRecDepth 20000 in
theorem wv_X11_nearest : Cond.selects RX11 yX11_nearest yX11_nearest ∈ TB := tbw 820 rfl rfl
set_option maxRecDepth 20000 in
theorem wc_X11_nearest : Cond.code yX11_nearest cX11_nearest 3 (some .int) ∈ TB := tbw 821 rfl rfl
set_option maxRecDepth 20000 in
theorem wl_L_88 : Cond.methodLink RL 88 yX11_ahead ∈ TB := tbw 822 rfl rfl
set_option maxRecDepth 20000 in
theorem wm_X11_ahead : Cond.instanceMethod yX11_ahead ∈ TB := tbw 823 rfl rfl
set_option maxRecDepth 20000 in
theorem wv_X11_ahead : Cond.selects RX11 yX11_ahead yX11_ahead ∈ TB := tbw 824 rfl rfl
set_option maxRecDepth 20000 in
theorem wc_X11_ahead : Cond.code yX11_ahead cX11_ahead 3 (some .int) ∈ TB := tbw 825 rfl rfl
set_option maxRecDepth 20000 in
theorem wl_L_92 : Cond.methodLink RL 92 yX11_decided ∈ TB := tbw 826 rfl rfl
set_option maxRecDepth 20000 in
theorem wm_X11_decided : Cond.instanceMethod yX11_decided ∈ TB := tbw 827 rfl rfl
set_option maxRecDepth 20000 in
theorem wv_X11_decided : Cond.selects RX11 yX11_decided yX11_decided ∈ TB := tbw 828 rfl rfl
set_option maxRecDepth 20000 in
theorem wc_X11_decided : Cond.code yX11_decided cX11_decided 3 (some .int) ∈ TB := tbw 829 rfl rfl
set_option maxRecDepth 20000 in
theorem wl_L_96 : Cond.methodLink RL 96 yX11_cost ∈ TB := tbw 830 rfl rfl
set_option maxRecDepth 20000 in
theorem wm_X11_cost : Cond.instanceMethod yX11_cost ∈ TB := tbw 831 rfl rfl
set_option maxRecDepth 20000 in
theorem wv_X11_cost : Cond.selects RX11 yX11_cost yX11_cost ∈ TB := tbw 832 rfl rfl
set_option maxRecDepth 20000 in
theorem wc_X11_cost : Cond.code yX11_cost cX11_cost 3 (some .int) ∈ TB := tbw 833 rfl rfl
set_option maxRecDepth 20000 in
theorem wl_L_100 : Cond.methodLink RL 100 yX11_sign ∈ TB := tbw 834 rfl rfl
set_option maxRecDepth 20000 in
theorem wm_X11_sign : Cond.instanceMethod yX11_sign ∈ TB := tbw 835 rfl rfl
set_option maxRecDepth 20000 in
theorem wv_X11_sign : Cond.selects RX11 yX11_sign yX11_sign ∈ TB := tbw 836 rfl rfl
set_option maxRecDepth 20000 in
theorem wc_X11_sign : Cond.code yX11_sign cX11_sign 3 (some .int) ∈ TB := tbw 837 rfl rfl
set_option maxRecDepth 20000 in
theorem wl_L_104 : Cond.methodLink RL 104 yX11_keep ∈ TB := tbw 838 rfl rfl
set_option maxRecDepth 20000 in
theorem wm_X11_keep : Cond.instanceMethod yX11_keep ∈ TB := tbw 839 rfl rfl
set_option maxRecDepth 20000 in
theorem wv_X11_keep : Cond.selects RX11 yX11_keep yX11_keep ∈ TB := tbw 840 rfl rfl
set_option maxRecDepth 20000 in
theorem wc_X11_keep : Cond.code yX11_keep cX11_keep 3 (some .int) ∈ TB := tbw 841 rfl rfl
set_option maxRecDepth 20000 in
theorem wl_L_108 : Cond.methodLink RL 108 yX11_goBack ∈ TB := tbw 842 rfl rfl
set_option maxRecDepth 20000 in
theorem wm_X11_goBack : Cond.instanceMethod yX11_goBack ∈ TB := tbw 843 rfl rfl
set_option maxRecDepth 20000 in
theorem wv_X11_goBack : Cond.selects RX11 yX11_goBack yX11_goBack ∈ TB := tbw 844 rfl rfl
set_option maxRecDepth 20000 in
theorem wc_X11_goBack : Cond.code yX11_goBack cX11_goBack 3 (some .int) ∈ TB := tbw 845 rfl rfl
theorem wv_X0_registerOf : Cond.selects RX0 yX0_registerOf yX0_registerOf ∈ TB := tbs 0 rfl rfl
theorem wv_X10_isState : Cond.selects RX10 yX10_isState yX10_isState ∈ TB := tbs 1 rfl rfl
theorem wv_X10_seekNearest : Cond.selects RX10 yX10_seekNearest yX10_seekNearest ∈ TB := tbs 2 rfl rfl
theorem wv_X8_weigh : Cond.selects RX8 yX8_weigh yX8_weigh ∈ TB := tbs 3 rfl rfl
theorem wv_X8_choose : Cond.selects RX8 yX8_choose yX8_choose ∈ TB := tbs 4 rfl rfl
theorem wv_X8_reckon : Cond.selects RX8 yX8_reckon yX8_reckon ∈ TB := tbs 5 rfl rfl
theorem wv_X8_restBy : Cond.selects RX8 yX8_restBy yX8_restBy ∈ TB := tbs 6 rfl rfl
theorem wv_X8_walk : Cond.selects RX8 yX8_walk yX8_walk ∈ TB := tbs 7 rfl rfl
theorem wv_X10_countUnlike : Cond.selects RX10 yX10_countUnlike yX10_countUnlike ∈ TB := tbs 8 rfl rfl
theorem wv_X4_fillGaps : Cond.selects RX4 yX4_fillGaps yX4_fillGaps ∈ TB := tbs 9 rfl rfl
theorem wv_X4_part : Cond.selects RX4 yX4_part yX4_part ∈ TB := tbs 10 rfl rfl
theorem wv_X4_gapOfSteps : Cond.selects RX4 yX4_gapOfSteps yX4_gapOfSteps ∈ TB := tbs 11 rfl rfl
theorem wv_X4_advance : Cond.selects RX4 yX4_advance yX4_advance ∈ TB := tbs 12 rfl rfl
theorem wv_X4_advancePair : Cond.selects RX4 yX4_advancePair yX4_advancePair ∈ TB := tbs 13 rfl rfl
theorem wv_X9_carryOn : Cond.selects RX9 yX9_carryOn yX9_carryOn ∈ TB := tbs 14 rfl rfl
theorem wv_X9_mark : Cond.selects RX9 yX9_mark yX9_mark ∈ TB := tbs 15 rfl rfl
theorem wv_X10_countSigns : Cond.selects RX10 yX10_countSigns yX10_countSigns ∈ TB := tbs 16 rfl rfl
theorem wv_X11_notes : Cond.selects RX11 yX11_notes yX11_notes ∈ TB := tbs 17 rfl rfl
theorem wv_X11_manyStates : Cond.selects RX11 yX11_manyStates yX11_manyStates ∈ TB := tbs 18 rfl rfl
theorem wv_X11_sends : Cond.selects RX11 yX11_sends yX11_sends ∈ TB := tbs 19 rfl rfl
theorem wv_X11_pointSent : Cond.selects RX11 yX11_pointSent yX11_pointSent ∈ TB := tbs 20 rfl rfl
theorem wv_X11_stateBehind : Cond.selects RX11 yX11_stateBehind yX11_stateBehind ∈ TB := tbs 21 rfl rfl
theorem wv_X11_stateBy : Cond.selects RX11 yX11_stateBy yX11_stateBy ∈ TB := tbs 22 rfl rfl
theorem wv_X11_familyBy : Cond.selects RX11 yX11_familyBy yX11_familyBy ∈ TB := tbs 23 rfl rfl
theorem wv_X11_hears : Cond.selects RX11 yX11_hears yX11_hears ∈ TB := tbs 24 rfl rfl
theorem wv_X11_isState : Cond.selects RX11 yX11_isState yX11_isState ∈ TB := tbs 25 rfl rfl
theorem wv_X11_finds : Cond.selects RX11 yX11_finds yX11_finds ∈ TB := tbs 26 rfl rfl
theorem wv_X11_costFrom : Cond.selects RX11 yX11_costFrom yX11_costFrom ∈ TB := tbs 27 rfl rfl
theorem wv_X11_costAt : Cond.selects RX11 yX11_costAt yX11_costAt ∈ TB := tbs 28 rfl rfl
theorem wv_X11_errors : Cond.selects RX11 yX11_errors yX11_errors ∈ TB := tbs 29 rfl rfl
theorem wv_X11_pointOf : Cond.selects RX11 yX11_pointOf yX11_pointOf ∈ TB := tbs 30 rfl rfl
theorem wv_X11_free : Cond.selects RX11 yX11_free yX11_free ∈ TB := tbs 31 rfl rfl
theorem wv_X11_apartBy : Cond.selects RX11 yX11_apartBy yX11_apartBy ∈ TB := tbs 32 rfl rfl
theorem wv_X11_isTurning : Cond.selects RX11 yX11_isTurning yX11_isTurning ∈ TB := tbs 33 rfl rfl
theorem wv_X11_signs : Cond.selects RX11 yX11_signs yX11_signs ∈ TB := tbs 34 rfl rfl
set_option maxRecDepth 20000 in
theorem inX0 : ∀ w ∈ wsX00, w ∈ TB := by
  intro w hw
  obtain ⟨k, hk, rfl⟩ := List.mem_map.mp hw
  have hk := List.mem_range.mp hk
  match k, hk with
  | 0, _ => exact tbw 50 rfl rfl
  | 1, _ => exact tbw 52 rfl rfl
  | 2, _ => exact tbw 54 rfl rfl
  | k + 3, h => exact absurd h (by omega)
set_option maxRecDepth 20000 in
theorem inX2 : ∀ w ∈ wsX20, w ∈ TB := by
  intro w hw
  obtain ⟨k, hk, rfl⟩ := List.mem_map.mp hw
  have hk := List.mem_range.mp hk
  match k, hk with
  | 0, _ => exact tbw 153 rfl rfl
  | k + 1, h => exact absurd h (by omega)
set_option maxRecDepth 20000 in
theorem inX3 : ∀ w ∈ wsX30, w ∈ TB := by
  intro w hw
  obtain ⟨k, hk, rfl⟩ := List.mem_map.mp hw
  have hk := List.mem_range.mp hk
  match k, hk with
  | 0, _ => exact tbw 117 rfl rfl
  | 1, _ => exact tbw 119 rfl rfl
  | 2, _ => exact tbw 121 rfl rfl
  | 3, _ => exact tbw 123 rfl rfl
  | k + 4, h => exact absurd h (by omega)
set_option maxRecDepth 20000 in
theorem inX4 : ∀ w ∈ wsX40, w ∈ TB := by
  intro w hw
  obtain ⟨k, hk, rfl⟩ := List.mem_map.mp hw
  have hk := List.mem_range.mp hk
  match k, hk with
  | 0, _ => exact tbw 188 rfl rfl
  | 1, _ => exact tbw 190 rfl rfl
  | 2, _ => exact tbw 192 rfl rfl
  | k + 3, h => exact absurd h (by omega)
set_option maxRecDepth 20000 in
theorem inX5 : ∀ w ∈ wsX50, w ∈ TB := by
  intro w hw
  obtain ⟨k, hk, rfl⟩ := List.mem_map.mp hw
  have hk := List.mem_range.mp hk
  match k, hk with
  | 0, _ => exact tbw 139 rfl rfl
  | 1, _ => exact tbw 141 rfl rfl
  | 2, _ => exact tbw 143 rfl rfl
  | k + 3, h => exact absurd h (by omega)
set_option maxRecDepth 20000 in
theorem inX6 : ∀ w ∈ wsX60, w ∈ TB := by
  intro w hw
  obtain ⟨k, hk, rfl⟩ := List.mem_map.mp hw
  have hk := List.mem_range.mp hk
  match k, hk with
  | 0, _ => exact tbw 100 rfl rfl
  | 1, _ => exact tbw 102 rfl rfl
  | 2, _ => exact tbw 104 rfl rfl
  | k + 3, h => exact absurd h (by omega)
set_option maxRecDepth 20000 in
theorem inX7 : ∀ w ∈ wsX70, w ∈ TB := by
  intro w hw
  obtain ⟨k, hk, rfl⟩ := List.mem_map.mp hw
  have hk := List.mem_range.mp hk
  match k, hk with
  | 0, _ => exact tbw 73 rfl rfl
  | 1, _ => exact tbw 75 rfl rfl
  | 2, _ => exact tbw 77 rfl rfl
  | 3, _ => exact tbw 79 rfl rfl
  | 4, _ => exact tbw 81 rfl rfl
  | k + 5, h => exact absurd h (by omega)
set_option maxRecDepth 20000 in
theorem inX8 : ∀ w ∈ wsX80, w ∈ TB := by
  intro w hw
  obtain ⟨k, hk, rfl⟩ := List.mem_map.mp hw
  have hk := List.mem_range.mp hk
  match k, hk with
  | 0, _ => exact tbw 170 rfl rfl
  | 1, _ => exact tbw 172 rfl rfl
  | 2, _ => exact tbw 174 rfl rfl
  | 3, _ => exact tbw 176 rfl rfl
  | k + 4, h => exact absurd h (by omega)
set_option maxRecDepth 20000 in
theorem inX9 : ∀ w ∈ wsX90, w ∈ TB := by
  intro w hw
  obtain ⟨k, hk, rfl⟩ := List.mem_map.mp hw
  have hk := List.mem_range.mp hk
  match k, hk with
  | 0, _ => exact tbw 203 rfl rfl
  | 1, _ => exact tbw 205 rfl rfl
  | k + 2, h => exact absurd h (by omega)
set_option maxRecDepth 20000 in
theorem inX10 : ∀ w ∈ wsX100, w ∈ TB := by
  intro w hw
  obtain ⟨k, hk, rfl⟩ := List.mem_map.mp hw
  have hk := List.mem_range.mp hk
  match k, hk with
  | 0, _ => exact tbw 216 rfl rfl
  | 1, _ => exact tbw 218 rfl rfl
  | 2, _ => exact tbw 220 rfl rfl
  | 3, _ => exact tbw 222 rfl rfl
  | 4, _ => exact tbw 224 rfl rfl
  | 5, _ => exact tbw 226 rfl rfl
  | 6, _ => exact tbw 228 rfl rfl
  | 7, _ => exact tbw 230 rfl rfl
  | k + 8, h => exact absurd h (by omega)
set_option maxRecDepth 20000 in
theorem inX11 : ∀ w ∈ wsX110, w ∈ TB := by
  intro w hw
  obtain ⟨k, hk, rfl⟩ := List.mem_map.mp hw
  have hk := List.mem_range.mp hk
  match k, hk with
  | 0, _ => exact tbw 602 rfl rfl
  | 1, _ => exact tbw 604 rfl rfl
  | 2, _ => exact tbw 606 rfl rfl
  | 3, _ => exact tbw 608 rfl rfl
  | 4, _ => exact tbw 610 rfl rfl
  | 5, _ => exact tbw 612 rfl rfl
  | 6, _ => exact tbw 614 rfl rfl
  | 7, _ => exact tbw 616 rfl rfl
  | 8, _ => exact tbw 618 rfl rfl
  | 9, _ => exact tbw 620 rfl rfl
  | 10, _ => exact tbw 622 rfl rfl
  | 11, _ => exact tbw 624 rfl rfl
  | 12, _ => exact tbw 626 rfl rfl
  | k + 13, h => exact absurd h (by omega)
def MI (y : MethodName) (bytes : ByteArray) (maxL : Nat) (ret : Option FieldType) (n : Nat) : Prop := Cond.code y bytes maxL ret ∈ TB ∧ Cond.initialized y.cls ∈ TB ∧ y.cls ≠ "java/lang/invoke/MethodHandle" ∧ y.cls ≠ "java/lang/invoke/VarHandle" ∧ (parseMethodDescriptor y.desc).map (fun d => d.parameters.length) = some n
def MV (y : MethodName) (bytes : ByteArray) (maxL : Nat) (ret : Option FieldType) (n : Nat) : Prop := MI y bytes maxL ret n ∧ Cond.instanceMethod y ∈ TB ∧ Cond.selects y.cls y y ∈ TB
def MS (y : MethodName) (bytes : ByteArray) (maxL : Nat) (ret : Option FieldType) (n : Nat) : Prop := MI y bytes maxL ret n ∧ Cond.static y ∈ TB
theorem mi_X10_init : MI yX10_init cX10_init 2 none 0 := ⟨wc_X10_init, wi_RX10, by decide +kernel, by decide +kernel, by decide +kernel⟩
theorem mi_X3_init : MI yX3_init cX3_init 1 none 0 := ⟨wc_X3_init, wi_RX3, by decide +kernel, by decide +kernel, by decide +kernel⟩
theorem mi_X0_init : MI yX0_init cX0_init 1 none 0 := ⟨wc_X0_init, wi_RX0, by decide +kernel, by decide +kernel, by decide +kernel⟩
theorem mi_X0_set : MV yX0_set cX0_set 4 none 3 := ⟨⟨wc_X0_set, wi_RX0, by decide +kernel, by decide +kernel, by decide +kernel⟩, wm_X0_set, wv_X0_set⟩
theorem mi_X7_init : MI yX7_init cX7_init 1 none 0 := ⟨wc_X7_init, wi_RX7, by decide +kernel, by decide +kernel, by decide +kernel⟩
theorem mi_X6_init : MI yX6_init cX6_init 1 none 0 := ⟨wc_X6_init, wi_RX6, by decide +kernel, by decide +kernel, by decide +kernel⟩
theorem mi_X5_init : MI yX5_init cX5_init 2 none 0 := ⟨wc_X5_init, wi_RX5, by decide +kernel, by decide +kernel, by decide +kernel⟩
theorem mi_X2_init : MI yX2_init cX2_init 1 none 0 := ⟨wc_X2_init, wi_RX2, by decide +kernel, by decide +kernel, by decide +kernel⟩
theorem mi_X8_init : MI yX8_init cX8_init 1 none 0 := ⟨wc_X8_init, wi_RX8, by decide +kernel, by decide +kernel, by decide +kernel⟩
theorem mi_X4_init : MI yX4_init cX4_init 1 none 0 := ⟨wc_X4_init, wi_RX4, by decide +kernel, by decide +kernel, by decide +kernel⟩
theorem mi_X9_init : MI yX9_init cX9_init 1 none 0 := ⟨wc_X9_init, wi_RX9, by decide +kernel, by decide +kernel, by decide +kernel⟩
theorem mi_X10_code : MV yX10_code cX10_code 5 (some .int) 3 := ⟨⟨wc_X10_code, wi_RX10, by decide +kernel, by decide +kernel, by decide +kernel⟩, wm_X10_code, wv_X10_code⟩
theorem mi_X10_isOutside : MS yX10_isOutside cX10_isOutside 3 (some .boolean) 3 := ⟨⟨wc_X10_isOutside, wi_RX10, by decide +kernel, by decide +kernel, by decide +kernel⟩, ws_X10_isOutside⟩
theorem mi_X5_push : MV yX5_push cX5_push 2 none 1 := ⟨⟨wc_X5_push, wi_RX5, by decide +kernel, by decide +kernel, by decide +kernel⟩, wm_X5_push, wv_X5_push⟩
theorem mi_X3_become : MV yX3_become cX3_become 2 none 1 := ⟨⟨wc_X3_become, wi_RX3, by decide +kernel, by decide +kernel, by decide +kernel⟩, wm_X3_become, wv_X3_become⟩
theorem mi_X7_become : MV yX7_become cX7_become 2 none 1 := ⟨⟨wc_X7_become, wi_RX7, by decide +kernel, by decide +kernel, by decide +kernel⟩, wm_X7_become, wv_X7_become⟩
theorem mi_X6_become : MV yX6_become cX6_become 2 none 1 := ⟨⟨wc_X6_become, wi_RX6, by decide +kernel, by decide +kernel, by decide +kernel⟩, wm_X6_become, wv_X6_become⟩
theorem mi_X3_clear : MV yX3_clear cX3_clear 1 none 0 := ⟨⟨wc_X3_clear, wi_RX3, by decide +kernel, by decide +kernel, by decide +kernel⟩, wm_X3_clear, wv_X3_clear⟩
theorem mi_X0_states : MV yX0_states cX0_states 1 (some .int) 0 := ⟨⟨wc_X0_states, wi_RX0, by decide +kernel, by decide +kernel, by decide +kernel⟩, wm_X0_states, wv_X0_states⟩
theorem mi_X10_send : MV yX10_send cX10_send 3 (some .int) 2 := ⟨⟨wc_X10_send, wi_RX10, by decide +kernel, by decide +kernel, by decide +kernel⟩, wm_X10_send, wv_X10_send⟩
theorem mi_X7_isFull : MV yX7_isFull cX7_isFull 1 (some .boolean) 0 := ⟨⟨wc_X7_isFull, wi_RX7, by decide +kernel, by decide +kernel, by decide +kernel⟩, wm_X7_isFull, wv_X7_isFull⟩
theorem mi_X7_append : MV yX7_append cX7_append 6 (some .int) 3 := ⟨⟨wc_X7_append, wi_RX7, by decide +kernel, by decide +kernel, by decide +kernel⟩, wm_X7_append, wv_X7_append⟩
theorem mi_X7_lastState : MV yX7_lastState cX7_lastState 1 (some .int) 0 := ⟨⟨wc_X7_lastState, wi_RX7, by decide +kernel, by decide +kernel, by decide +kernel⟩, wm_X7_lastState, wv_X7_lastState⟩
theorem mi_X0_familyFrom : MV yX0_familyFrom cX0_familyFrom 4 (some .int) 2 := ⟨⟨wc_X0_familyFrom, wi_RX0, by decide +kernel, by decide +kernel, by decide +kernel⟩, wm_X0_familyFrom, wv_X0_familyFrom⟩
theorem mi_X0_registerOf : MV yX0_registerOf cX0_registerOf 3 (some .int) 2 := ⟨⟨wc_X0_registerOf, wi_RX0, by decide +kernel, by decide +kernel, by decide +kernel⟩, wm_X0_registerOf, wv_X0_registerOf⟩
theorem mi_J6_bitCount_0f7a4 : MS yJ6_bitCount_0f7a4 cJ6_bitCount_0f7a4 1 (some .int) 1 := ⟨⟨wc_J6_bitCount_0f7a4, wi_RJ6, by decide +kernel, by decide +kernel, by decide +kernel⟩, ws_J6_bitCount_0f7a4⟩
theorem mi_X1_pointOf : MS yX1_pointOf cX1_pointOf 6 (some .int) 2 := ⟨⟨wc_X1_pointOf, wi_RX1, by decide +kernel, by decide +kernel, by decide +kernel⟩, ws_X1_pointOf⟩
theorem mi_X0_stateAfter : MV yX0_stateAfter cX0_stateAfter 3 (some .int) 2 := ⟨⟨wc_X0_stateAfter, wi_RX0, by decide +kernel, by decide +kernel, by decide +kernel⟩, wm_X0_stateAfter, wv_X0_stateAfter⟩
theorem mi_X10_hear : MV yX10_hear cX10_hear 3 (some .int) 2 := ⟨⟨wc_X10_hear, wi_RX10, by decide +kernel, by decide +kernel, by decide +kernel⟩, wm_X10_hear, wv_X10_hear⟩
theorem mi_X6_isFull : MV yX6_isFull cX6_isFull 1 (some .boolean) 0 := ⟨⟨wc_X6_isFull, wi_RX6, by decide +kernel, by decide +kernel, by decide +kernel⟩, wm_X6_isFull, wv_X6_isFull⟩
theorem mi_X6_append : MV yX6_append cX6_append 3 none 2 := ⟨⟨wc_X6_append, wi_RX6, by decide +kernel, by decide +kernel, by decide +kernel⟩, wm_X6_append, wv_X6_append⟩
theorem mi_X10_drift : MV yX10_drift cX10_drift 9 (some .int) 2 := ⟨⟨wc_X10_drift, wi_RX10, by decide +kernel, by decide +kernel, by decide +kernel⟩, wm_X10_drift, wv_X10_drift⟩
theorem mi_X2_begin : MV yX2_begin cX2_begin 2 none 1 := ⟨⟨wc_X2_begin, wi_RX2, by decide +kernel, by decide +kernel, by decide +kernel⟩, wm_X2_begin, wv_X2_begin⟩
theorem mi_X2_draw : MV yX2_draw cX2_draw 2 (some .int) 1 := ⟨⟨wc_X2_draw, wi_RX2, by decide +kernel, by decide +kernel, by decide +kernel⟩, wm_X2_draw, wv_X2_draw⟩
theorem mi_X1_xOf : MS yX1_xOf cX1_xOf 1 (some .int) 1 := ⟨⟨wc_X1_xOf, wi_RX1, by decide +kernel, by decide +kernel, by decide +kernel⟩, ws_X1_xOf⟩
theorem mi_X1_yOf : MS yX1_yOf cX1_yOf 1 (some .int) 1 := ⟨⟨wc_X1_yOf, wi_RX1, by decide +kernel, by decide +kernel, by decide +kernel⟩, ws_X1_yOf⟩
theorem mi_X10_wipe : MV yX10_wipe cX10_wipe 2 (some .int) 0 := ⟨⟨wc_X10_wipe, wi_RX10, by decide +kernel, by decide +kernel, by decide +kernel⟩, wm_X10_wipe, wv_X10_wipe⟩
theorem mi_X10_end : MV yX10_end cX10_end 3 (some .int) 1 := ⟨⟨wc_X10_end, wi_RX10, by decide +kernel, by decide +kernel, by decide +kernel⟩, wm_X10_end, wv_X10_end⟩
theorem mi_X10_isState : MV yX10_isState cX10_isState 2 (some .boolean) 1 := ⟨⟨wc_X10_isState, wi_RX10, by decide +kernel, by decide +kernel, by decide +kernel⟩, wm_X10_isState, wv_X10_isState⟩
theorem mi_X10_undo : MV yX10_undo cX10_undo 1 (some .int) 0 := ⟨⟨wc_X10_undo, wi_RX10, by decide +kernel, by decide +kernel, by decide +kernel⟩, wm_X10_undo, wv_X10_undo⟩
theorem mi_X5_popInto : MV yX5_popInto cX5_popInto 2 none 1 := ⟨⟨wc_X5_popInto, wi_RX5, by decide +kernel, by decide +kernel, by decide +kernel⟩, wm_X5_popInto, wv_X5_popInto⟩
theorem mi_X10_told : MV yX10_told cX10_told 2 (some .int) 1 := ⟨⟨wc_X10_told, wi_RX10, by decide +kernel, by decide +kernel, by decide +kernel⟩, wm_X10_told, wv_X10_told⟩
theorem mi_X10_seekNearest : MV yX10_seekNearest cX10_seekNearest 1 (some .int) 0 := ⟨⟨wc_X10_seekNearest, wi_RX10, by decide +kernel, by decide +kernel, by decide +kernel⟩, wm_X10_seekNearest, wv_X10_seekNearest⟩
theorem mi_X8_seek : MV yX8_seek cX8_seek 4 (some .int) 3 := ⟨⟨wc_X8_seek, wi_RX8, by decide +kernel, by decide +kernel, by decide +kernel⟩, wm_X8_seek, wv_X8_seek⟩
theorem mi_X8_weigh : MV yX8_weigh cX8_weigh 5 none 2 := ⟨⟨wc_X8_weigh, wi_RX8, by decide +kernel, by decide +kernel, by decide +kernel⟩, wm_X8_weigh, wv_X8_weigh⟩
theorem mi_X8_choose : MV yX8_choose cX8_choose 8 none 4 := ⟨⟨wc_X8_choose, wi_RX8, by decide +kernel, by decide +kernel, by decide +kernel⟩, wm_X8_choose, wv_X8_choose⟩
theorem mi_X1_farFrom : MS yX1_farFrom cX1_farFrom 5 (some .int) 3 := ⟨⟨wc_X1_farFrom, wi_RX1, by decide +kernel, by decide +kernel, by decide +kernel⟩, ws_X1_farFrom⟩
theorem mi_X8_reckon : MV yX8_reckon cX8_reckon 6 none 3 := ⟨⟨wc_X8_reckon, wi_RX8, by decide +kernel, by decide +kernel, by decide +kernel⟩, wm_X8_reckon, wv_X8_reckon⟩
theorem mi_X8_restBy : MV yX8_restBy cX8_restBy 6 (some .int) 4 := ⟨⟨wc_X8_restBy, wi_RX8, by decide +kernel, by decide +kernel, by decide +kernel⟩, wm_X8_restBy, wv_X8_restBy⟩
theorem mi_J9_min_7cf53 : MS yJ9_min_7cf53 cJ9_min_7cf53 2 (some .int) 2 := ⟨⟨wc_J9_min_7cf53, wi_RJ9, by decide +kernel, by decide +kernel, by decide +kernel⟩, ws_J9_min_7cf53⟩
theorem mi_X8_walk : MV yX8_walk cX8_walk 6 none 2 := ⟨⟨wc_X8_walk, wi_RX8, by decide +kernel, by decide +kernel, by decide +kernel⟩, wm_X8_walk, wv_X8_walk⟩
theorem mi_X10_countUnlike : MV yX10_countUnlike cX10_countUnlike 4 (some .int) 0 := ⟨⟨wc_X10_countUnlike, wi_RX10, by decide +kernel, by decide +kernel, by decide +kernel⟩, wm_X10_countUnlike, wv_X10_countUnlike⟩
theorem mi_X4_leastSum : MV yX4_leastSum cX4_leastSum 4 (some .int) 1 := ⟨⟨wc_X4_leastSum, wi_RX4, by decide +kernel, by decide +kernel, by decide +kernel⟩, wm_X4_leastSum, wv_X4_leastSum⟩
theorem mi_X1_gapOf : MS yX1_gapOf cX1_gapOf 7 (some .int) 2 := ⟨⟨wc_X1_gapOf, wi_RX1, by decide +kernel, by decide +kernel, by decide +kernel⟩, ws_X1_gapOf⟩
theorem mi_X4_fillGaps : MV yX4_fillGaps cX4_fillGaps 3 none 0 := ⟨⟨wc_X4_fillGaps, wi_RX4, by decide +kernel, by decide +kernel, by decide +kernel⟩, wm_X4_fillGaps, wv_X4_fillGaps⟩
theorem mi_X4_part : MV yX4_part cX4_part 4 none 1 := ⟨⟨wc_X4_part, wi_RX4, by decide +kernel, by decide +kernel, by decide +kernel⟩, wm_X4_part, wv_X4_part⟩
theorem mi_J7_fill_53178 : MS yJ7_fill_53178 cJ7_fill_53178 4 none 2 := ⟨⟨wc_J7_fill_53178, wi_RJ7, by decide +kernel, by decide +kernel, by decide +kernel⟩, ws_J7_fill_53178⟩
theorem mi_X4_gapOfSteps : MV yX4_gapOfSteps cX4_gapOfSteps 6 (some .int) 5 := ⟨⟨wc_X4_gapOfSteps, wi_RX4, by decide +kernel, by decide +kernel, by decide +kernel⟩, wm_X4_gapOfSteps, wv_X4_gapOfSteps⟩
theorem mi_X4_advance : MV yX4_advance cX4_advance 6 (some .int) 2 := ⟨⟨wc_X4_advance, wi_RX4, by decide +kernel, by decide +kernel, by decide +kernel⟩, wm_X4_advance, wv_X4_advance⟩
theorem mi_X4_advancePair : MV yX4_advancePair cX4_advancePair 11 (some .int) 3 := ⟨⟨wc_X4_advancePair, wi_RX4, by decide +kernel, by decide +kernel, by decide +kernel⟩, wm_X4_advancePair, wv_X4_advancePair⟩
theorem mi_X9_holdsFor : MV yX9_holdsFor cX9_holdsFor 5 (some .boolean) 1 := ⟨⟨wc_X9_holdsFor, wi_RX9, by decide +kernel, by decide +kernel, by decide +kernel⟩, wm_X9_holdsFor, wv_X9_holdsFor⟩
theorem mi_X9_carryOn : MV yX9_carryOn cX9_carryOn 6 (some .boolean) 2 := ⟨⟨wc_X9_carryOn, wi_RX9, by decide +kernel, by decide +kernel, by decide +kernel⟩, wm_X9_carryOn, wv_X9_carryOn⟩
theorem mi_X1_turnOfFamily : MS yX1_turnOfFamily cX1_turnOfFamily 1 (some .int) 1 := ⟨⟨wc_X1_turnOfFamily, wi_RX1, by decide +kernel, by decide +kernel, by decide +kernel⟩, ws_X1_turnOfFamily⟩
theorem mi_X1_turnOf : MS yX1_turnOf cX1_turnOf 1 (some .int) 1 := ⟨⟨wc_X1_turnOf, wi_RX1, by decide +kernel, by decide +kernel, by decide +kernel⟩, ws_X1_turnOf⟩
theorem mi_X1_familyOf : MS yX1_familyOf cX1_familyOf 3 (some .int) 1 := ⟨⟨wc_X1_familyOf, wi_RX1, by decide +kernel, by decide +kernel, by decide +kernel⟩, ws_X1_familyOf⟩
theorem mi_X9_follow : MS yX9_follow cX9_follow 6 (some .int) 3 := ⟨⟨wc_X9_follow, wi_RX9, by decide +kernel, by decide +kernel, by decide +kernel⟩, ws_X9_follow⟩
theorem mi_X9_mark : MV yX9_mark cX9_mark 3 none 2 := ⟨⟨wc_X9_mark, wi_RX9, by decide +kernel, by decide +kernel, by decide +kernel⟩, wm_X9_mark, wv_X9_mark⟩
theorem mi_X10_countSigns : MV yX10_countSigns cX10_countSigns 2 (some .int) 0 := ⟨⟨wc_X10_countSigns, wi_RX10, by decide +kernel, by decide +kernel, by decide +kernel⟩, wm_X10_countSigns, wv_X10_countSigns⟩
theorem mi_X10_point : MV yX10_point cX10_point 3 (some .int) 2 := ⟨⟨wc_X10_point, wi_RX10, by decide +kernel, by decide +kernel, by decide +kernel⟩, wm_X10_point, wv_X10_point⟩
theorem mi_X10_isPoint : MS yX10_isPoint cX10_isPoint 1 (some .boolean) 1 := ⟨⟨wc_X10_isPoint, wi_RX10, by decide +kernel, by decide +kernel, by decide +kernel⟩, ws_X10_isPoint⟩
theorem mi_X1_rankOf : MS yX1_rankOf cX1_rankOf 3 (some .int) 1 := ⟨⟨wc_X1_rankOf, wi_RX1, by decide +kernel, by decide +kernel, by decide +kernel⟩, ws_X1_rankOf⟩
theorem mi_X10_member : MV yX10_member cX10_member 3 (some .int) 2 := ⟨⟨wc_X10_member, wi_RX10, by decide +kernel, by decide +kernel, by decide +kernel⟩, wm_X10_member, wv_X10_member⟩
theorem mi_X10_isFamily : MS yX10_isFamily cX10_isFamily 1 (some .boolean) 1 := ⟨⟨wc_X10_isFamily, wi_RX10, by decide +kernel, by decide +kernel, by decide +kernel⟩, ws_X10_isFamily⟩
theorem mi_X10_apart : MV yX10_apart cX10_apart 3 (some .int) 2 := ⟨⟨wc_X10_apart, wi_RX10, by decide +kernel, by decide +kernel, by decide +kernel⟩, wm_X10_apart, wv_X10_apart⟩
theorem mi_X10_distance : MV yX10_distance cX10_distance 3 (some .int) 2 := ⟨⟨wc_X10_distance, wi_RX10, by decide +kernel, by decide +kernel, by decide +kernel⟩, wm_X10_distance, wv_X10_distance⟩
theorem mi_X10_turned : MV yX10_turned cX10_turned 2 (some .int) 1 := ⟨⟨wc_X10_turned, wi_RX10, by decide +kernel, by decide +kernel, by decide +kernel⟩, wm_X10_turned, wv_X10_turned⟩
theorem mi_X10_next : MV yX10_next cX10_next 4 (some .int) 3 := ⟨⟨wc_X10_next, wi_RX10, by decide +kernel, by decide +kernel, by decide +kernel⟩, wm_X10_next, wv_X10_next⟩
theorem mi_X10_sent : MV yX10_sent cX10_sent 3 (some .int) 2 := ⟨⟨wc_X10_sent, wi_RX10, by decide +kernel, by decide +kernel, by decide +kernel⟩, wm_X10_sent, wv_X10_sent⟩
theorem mi_X7_partOf : MV yX7_partOf cX7_partOf 3 (some .int) 2 := ⟨⟨wc_X7_partOf, wi_RX7, by decide +kernel, by decide +kernel, by decide +kernel⟩, wm_X7_partOf, wv_X7_partOf⟩
theorem mi_X10_heard : MV yX10_heard cX10_heard 3 (some .int) 2 := ⟨⟨wc_X10_heard, wi_RX10, by decide +kernel, by decide +kernel, by decide +kernel⟩, wm_X10_heard, wv_X10_heard⟩
theorem mi_X1_pointAt : MS yX1_pointAt cX1_pointAt 4 (some .int) 2 := ⟨⟨wc_X1_pointAt, wi_RX1, by decide +kernel, by decide +kernel, by decide +kernel⟩, ws_X1_pointAt⟩
theorem mi_X10_nearest : MV yX10_nearest cX10_nearest 3 (some .int) 2 := ⟨⟨wc_X10_nearest, wi_RX10, by decide +kernel, by decide +kernel, by decide +kernel⟩, wm_X10_nearest, wv_X10_nearest⟩
theorem mi_X10_ahead : MV yX10_ahead cX10_ahead 3 (some .int) 2 := ⟨⟨wc_X10_ahead, wi_RX10, by decide +kernel, by decide +kernel, by decide +kernel⟩, wm_X10_ahead, wv_X10_ahead⟩
theorem mi_X10_decided : MV yX10_decided cX10_decided 4 (some .int) 2 := ⟨⟨wc_X10_decided, wi_RX10, by decide +kernel, by decide +kernel, by decide +kernel⟩, wm_X10_decided, wv_X10_decided⟩
theorem mi_X10_cost : MV yX10_cost cX10_cost 4 (some .int) 0 := ⟨⟨wc_X10_cost, wi_RX10, by decide +kernel, by decide +kernel, by decide +kernel⟩, wm_X10_cost, wv_X10_cost⟩
theorem mi_X10_sign : MV yX10_sign cX10_sign 4 (some .int) 1 := ⟨⟨wc_X10_sign, wi_RX10, by decide +kernel, by decide +kernel, by decide +kernel⟩, wm_X10_sign, wv_X10_sign⟩
theorem mi_X10_keep : MV yX10_keep cX10_keep 2 (some .int) 1 := ⟨⟨wc_X10_keep, wi_RX10, by decide +kernel, by decide +kernel, by decide +kernel⟩, wm_X10_keep, wv_X10_keep⟩
theorem mi_X5_forget : MV yX5_forget cX5_forget 1 none 0 := ⟨⟨wc_X5_forget, wi_RX5, by decide +kernel, by decide +kernel, by decide +kernel⟩, wm_X5_forget, wv_X5_forget⟩
theorem mi_X10_goBack : MV yX10_goBack cX10_goBack 2 (some .int) 1 := ⟨⟨wc_X10_goBack, wi_RX10, by decide +kernel, by decide +kernel, by decide +kernel⟩, wm_X10_goBack, wv_X10_goBack⟩
theorem mi_X11_init : MI yX11_init cX11_init 1 none 0 := ⟨wc_X11_init, wi_RX11, by decide +kernel, by decide +kernel, by decide +kernel⟩
theorem mi_X11_code : MV yX11_code cX11_code 4 (some .int) 3 := ⟨⟨wc_X11_code, wi_RX11, by decide +kernel, by decide +kernel, by decide +kernel⟩, wm_X11_code, wv_X11_code⟩
theorem mi_X11_in : MS yX11_in cX11_in 3 (some .boolean) 3 := ⟨⟨wc_X11_in, wi_RX11, by decide +kernel, by decide +kernel, by decide +kernel⟩, ws_X11_in⟩
theorem mi_X11_notes : MV yX11_notes cX11_notes 2 none 0 := ⟨⟨wc_X11_notes, wi_RX11, by decide +kernel, by decide +kernel, by decide +kernel⟩, wm_X11_notes, wv_X11_notes⟩
theorem mi_X11_manyStates : MV yX11_manyStates cX11_manyStates 1 (some .int) 0 := ⟨⟨wc_X11_manyStates, wi_RX11, by decide +kernel, by decide +kernel, by decide +kernel⟩, wm_X11_manyStates, wv_X11_manyStates⟩
theorem mi_X11_send : MV yX11_send cX11_send 3 (some .int) 2 := ⟨⟨wc_X11_send, wi_RX11, by decide +kernel, by decide +kernel, by decide +kernel⟩, wm_X11_send, wv_X11_send⟩
theorem mi_X11_sends : MV yX11_sends cX11_sends 4 none 2 := ⟨⟨wc_X11_sends, wi_RX11, by decide +kernel, by decide +kernel, by decide +kernel⟩, wm_X11_sends, wv_X11_sends⟩
theorem mi_X11_pointSent : MV yX11_pointSent cX11_pointSent 2 (some .int) 1 := ⟨⟨wc_X11_pointSent, wi_RX11, by decide +kernel, by decide +kernel, by decide +kernel⟩, wm_X11_pointSent, wv_X11_pointSent⟩
theorem mi_X11_stateBehind : MV yX11_stateBehind cX11_stateBehind 4 (some .int) 1 := ⟨⟨wc_X11_stateBehind, wi_RX11, by decide +kernel, by decide +kernel, by decide +kernel⟩, wm_X11_stateBehind, wv_X11_stateBehind⟩
theorem mi_X11_stateBy : MV yX11_stateBy cX11_stateBy 3 (some .int) 2 := ⟨⟨wc_X11_stateBy, wi_RX11, by decide +kernel, by decide +kernel, by decide +kernel⟩, wm_X11_stateBy, wv_X11_stateBy⟩
theorem mi_X11_familyBy : MV yX11_familyBy cX11_familyBy 4 (some .int) 2 := ⟨⟨wc_X11_familyBy, wi_RX11, by decide +kernel, by decide +kernel, by decide +kernel⟩, wm_X11_familyBy, wv_X11_familyBy⟩
theorem mi_X11_odd : MS yX11_odd cX11_odd 3 (some .int) 1 := ⟨⟨wc_X11_odd, wi_RX11, by decide +kernel, by decide +kernel, by decide +kernel⟩, ws_X11_odd⟩
theorem mi_X11_memberOf : MS yX11_memberOf cX11_memberOf 4 (some .int) 2 := ⟨⟨wc_X11_memberOf, wi_RX11, by decide +kernel, by decide +kernel, by decide +kernel⟩, ws_X11_memberOf⟩
theorem mi_X11_familyOf : MS yX11_familyOf cX11_familyOf 3 (some .int) 1 := ⟨⟨wc_X11_familyOf, wi_RX11, by decide +kernel, by decide +kernel, by decide +kernel⟩, ws_X11_familyOf⟩
theorem mi_X11_hear : MV yX11_hear cX11_hear 3 (some .int) 2 := ⟨⟨wc_X11_hear, wi_RX11, by decide +kernel, by decide +kernel, by decide +kernel⟩, wm_X11_hear, wv_X11_hear⟩
theorem mi_X11_hears : MV yX11_hears cX11_hears 4 none 2 := ⟨⟨wc_X11_hears, wi_RX11, by decide +kernel, by decide +kernel, by decide +kernel⟩, wm_X11_hears, wv_X11_hears⟩
theorem mi_X11_drift : MV yX11_drift cX11_drift 9 (some .int) 2 := ⟨⟨wc_X11_drift, wi_RX11, by decide +kernel, by decide +kernel, by decide +kernel⟩, wm_X11_drift, wv_X11_drift⟩
theorem mi_X11_drawn : MS yX11_drawn cX11_drawn 2 (some .long) 1 := ⟨⟨wc_X11_drawn, wi_RX11, by decide +kernel, by decide +kernel, by decide +kernel⟩, ws_X11_drawn⟩
theorem mi_X11_xOf : MS yX11_xOf cX11_xOf 1 (some .int) 1 := ⟨⟨wc_X11_xOf, wi_RX11, by decide +kernel, by decide +kernel, by decide +kernel⟩, ws_X11_xOf⟩
theorem mi_X11_yOf : MS yX11_yOf cX11_yOf 1 (some .int) 1 := ⟨⟨wc_X11_yOf, wi_RX11, by decide +kernel, by decide +kernel, by decide +kernel⟩, ws_X11_yOf⟩
theorem mi_X11_wipe : MV yX11_wipe cX11_wipe 2 (some .int) 0 := ⟨⟨wc_X11_wipe, wi_RX11, by decide +kernel, by decide +kernel, by decide +kernel⟩, wm_X11_wipe, wv_X11_wipe⟩
theorem mi_X11_end : MV yX11_end cX11_end 3 (some .int) 1 := ⟨⟨wc_X11_end, wi_RX11, by decide +kernel, by decide +kernel, by decide +kernel⟩, wm_X11_end, wv_X11_end⟩
theorem mi_X11_isState : MV yX11_isState cX11_isState 2 (some .boolean) 1 := ⟨⟨wc_X11_isState, wi_RX11, by decide +kernel, by decide +kernel, by decide +kernel⟩, wm_X11_isState, wv_X11_isState⟩
theorem mi_X11_undo : MV yX11_undo cX11_undo 2 (some .int) 0 := ⟨⟨wc_X11_undo, wi_RX11, by decide +kernel, by decide +kernel, by decide +kernel⟩, wm_X11_undo, wv_X11_undo⟩
theorem mi_X11_told : MV yX11_told cX11_told 2 (some .int) 1 := ⟨⟨wc_X11_told, wi_RX11, by decide +kernel, by decide +kernel, by decide +kernel⟩, wm_X11_told, wv_X11_told⟩
theorem mi_X11_finds : MV yX11_finds cX11_finds 8 (some .int) 2 := ⟨⟨wc_X11_finds, wi_RX11, by decide +kernel, by decide +kernel, by decide +kernel⟩, wm_X11_finds, wv_X11_finds⟩
theorem mi_X11_costFrom : MV yX11_costFrom cX11_costFrom 6 (some .int) 4 := ⟨⟨wc_X11_costFrom, wi_RX11, by decide +kernel, by decide +kernel, by decide +kernel⟩, wm_X11_costFrom, wv_X11_costFrom⟩
theorem mi_X11_costAt : MV yX11_costAt cX11_costAt 3 (some .int) 2 := ⟨⟨wc_X11_costAt, wi_RX11, by decide +kernel, by decide +kernel, by decide +kernel⟩, wm_X11_costAt, wv_X11_costAt⟩
theorem mi_X11_far : MS yX11_far cX11_far 5 (some .int) 3 := ⟨⟨wc_X11_far, wi_RX11, by decide +kernel, by decide +kernel, by decide +kernel⟩, ws_X11_far⟩
theorem mi_X11_errors : MV yX11_errors cX11_errors 3 (some .int) 0 := ⟨⟨wc_X11_errors, wi_RX11, by decide +kernel, by decide +kernel, by decide +kernel⟩, wm_X11_errors, wv_X11_errors⟩
theorem mi_X11_pointOf : MV yX11_pointOf cX11_pointOf 2 (some .int) 1 := ⟨⟨wc_X11_pointOf, wi_RX11, by decide +kernel, by decide +kernel, by decide +kernel⟩, wm_X11_pointOf, wv_X11_pointOf⟩
theorem mi_X11_free : MV yX11_free cX11_free 9 (some .int) 0 := ⟨⟨wc_X11_free, wi_RX11, by decide +kernel, by decide +kernel, by decide +kernel⟩, wm_X11_free, wv_X11_free⟩
theorem mi_X11_apartOf : MS yX11_apartOf cX11_apartOf 7 (some .int) 2 := ⟨⟨wc_X11_apartOf, wi_RX11, by decide +kernel, by decide +kernel, by decide +kernel⟩, ws_X11_apartOf⟩
theorem mi_X11_apartBy : MV yX11_apartBy cX11_apartBy 7 (some .int) 4 := ⟨⟨wc_X11_apartBy, wi_RX11, by decide +kernel, by decide +kernel, by decide +kernel⟩, wm_X11_apartBy, wv_X11_apartBy⟩
theorem mi_X11_isTurning : MV yX11_isTurning cX11_isTurning 11 (some .boolean) 0 := ⟨⟨wc_X11_isTurning, wi_RX11, by decide +kernel, by decide +kernel, by decide +kernel⟩, wm_X11_isTurning, wv_X11_isTurning⟩
theorem mi_X11_turnedFamily : MS yX11_turnedFamily cX11_turnedFamily 1 (some .int) 1 := ⟨⟨wc_X11_turnedFamily, wi_RX11, by decide +kernel, by decide +kernel, by decide +kernel⟩, ws_X11_turnedFamily⟩
theorem mi_X11_turn : MS yX11_turn cX11_turn 1 (some .int) 1 := ⟨⟨wc_X11_turn, wi_RX11, by decide +kernel, by decide +kernel, by decide +kernel⟩, ws_X11_turn⟩
theorem mi_X11_signs : MV yX11_signs cX11_signs 2 (some .int) 0 := ⟨⟨wc_X11_signs, wi_RX11, by decide +kernel, by decide +kernel, by decide +kernel⟩, wm_X11_signs, wv_X11_signs⟩
theorem mi_X11_point : MV yX11_point cX11_point 3 (some .int) 2 := ⟨⟨wc_X11_point, wi_RX11, by decide +kernel, by decide +kernel, by decide +kernel⟩, wm_X11_point, wv_X11_point⟩
theorem mi_X11_isPoint : MS yX11_isPoint cX11_isPoint 1 (some .boolean) 1 := ⟨⟨wc_X11_isPoint, wi_RX11, by decide +kernel, by decide +kernel, by decide +kernel⟩, ws_X11_isPoint⟩
theorem mi_X11_orderOf : MS yX11_orderOf cX11_orderOf 3 (some .int) 1 := ⟨⟨wc_X11_orderOf, wi_RX11, by decide +kernel, by decide +kernel, by decide +kernel⟩, ws_X11_orderOf⟩
theorem mi_X11_member : MV yX11_member cX11_member 3 (some .int) 2 := ⟨⟨wc_X11_member, wi_RX11, by decide +kernel, by decide +kernel, by decide +kernel⟩, wm_X11_member, wv_X11_member⟩
theorem mi_X11_isFamily : MS yX11_isFamily cX11_isFamily 1 (some .boolean) 1 := ⟨⟨wc_X11_isFamily, wi_RX11, by decide +kernel, by decide +kernel, by decide +kernel⟩, ws_X11_isFamily⟩
theorem mi_X11_apart : MV yX11_apart cX11_apart 3 (some .int) 2 := ⟨⟨wc_X11_apart, wi_RX11, by decide +kernel, by decide +kernel, by decide +kernel⟩, wm_X11_apart, wv_X11_apart⟩
theorem mi_X11_distance : MV yX11_distance cX11_distance 3 (some .int) 2 := ⟨⟨wc_X11_distance, wi_RX11, by decide +kernel, by decide +kernel, by decide +kernel⟩, wm_X11_distance, wv_X11_distance⟩
theorem mi_X11_turned : MV yX11_turned cX11_turned 2 (some .int) 1 := ⟨⟨wc_X11_turned, wi_RX11, by decide +kernel, by decide +kernel, by decide +kernel⟩, wm_X11_turned, wv_X11_turned⟩
theorem mi_X11_next : MV yX11_next cX11_next 4 (some .int) 3 := ⟨⟨wc_X11_next, wi_RX11, by decide +kernel, by decide +kernel, by decide +kernel⟩, wm_X11_next, wv_X11_next⟩
theorem mi_X11_sent : MV yX11_sent cX11_sent 3 (some .int) 2 := ⟨⟨wc_X11_sent, wi_RX11, by decide +kernel, by decide +kernel, by decide +kernel⟩, wm_X11_sent, wv_X11_sent⟩
theorem mi_X11_heard : MV yX11_heard cX11_heard 5 (some .int) 2 := ⟨⟨wc_X11_heard, wi_RX11, by decide +kernel, by decide +kernel, by decide +kernel⟩, wm_X11_heard, wv_X11_heard⟩
theorem mi_X11_nearest : MV yX11_nearest cX11_nearest 3 (some .int) 2 := ⟨⟨wc_X11_nearest, wi_RX11, by decide +kernel, by decide +kernel, by decide +kernel⟩, wm_X11_nearest, wv_X11_nearest⟩
theorem mi_X11_ahead : MV yX11_ahead cX11_ahead 3 (some .int) 2 := ⟨⟨wc_X11_ahead, wi_RX11, by decide +kernel, by decide +kernel, by decide +kernel⟩, wm_X11_ahead, wv_X11_ahead⟩
theorem mi_X11_decided : MV yX11_decided cX11_decided 3 (some .int) 2 := ⟨⟨wc_X11_decided, wi_RX11, by decide +kernel, by decide +kernel, by decide +kernel⟩, wm_X11_decided, wv_X11_decided⟩
theorem mi_X11_cost : MV yX11_cost cX11_cost 3 (some .int) 0 := ⟨⟨wc_X11_cost, wi_RX11, by decide +kernel, by decide +kernel, by decide +kernel⟩, wm_X11_cost, wv_X11_cost⟩
theorem mi_X11_sign : MV yX11_sign cX11_sign 3 (some .int) 1 := ⟨⟨wc_X11_sign, wi_RX11, by decide +kernel, by decide +kernel, by decide +kernel⟩, wm_X11_sign, wv_X11_sign⟩
theorem mi_X11_keep : MV yX11_keep cX11_keep 3 (some .int) 1 := ⟨⟨wc_X11_keep, wi_RX11, by decide +kernel, by decide +kernel, by decide +kernel⟩, wm_X11_keep, wv_X11_keep⟩
theorem mi_X11_goBack : MV yX11_goBack cX11_goBack 3 (some .int) 1 := ⟨⟨wc_X11_goBack, wi_RX11, by decide +kernel, by decide +kernel, by decide +kernel⟩, wm_X11_goBack, wv_X11_goBack⟩
