def gwl_b_1_0 : List (Nat × Cond) := [(0, Cond.initialized RL), (22, Cond.classLink RL 8 "Ninewheel"), (228, Cond.classLink RL 14 "NinewheelLaw$Out"), (24, Cond.methodLink RL 168 yX1_init), (69, Cond.methodLink RL 320 yX1_knock), (73, Cond.methodLink RL 324 yX1_isSound), (171, Cond.methodLink RL 329 yX1_digest)]
theorem gw_b_1_0 : ∀ q ∈ gwl_b_1_0, tables_1_1[q.1]? = some q.2 ∧ goodWord q.2 = true := by decide +kernel
def gwl_b_2_0 : List (Nat × Cond) := [(2, Cond.static yL_put), (109, Cond.static yL_write), (116, Cond.static yL_copy), (123, Cond.static yL_negate), (130, Cond.static yL_size), (140, Cond.static yL_add), (147, Cond.static yL_subtract), (154, Cond.static yL_multiply), (161, Cond.static yL_power), (168, Cond.static yL_divide), (179, Cond.static yL_share), (188, Cond.static yL_whole), (195, Cond.static yL_rest), (202, Cond.static yL_setPlaces), (209, Cond.static yL_strip), (216, Cond.static yL_move), (228, Cond.static yL_round), (236, Cond.static yL_greater), (6, Cond.methodLink RL 7 yX1_put), (111, Cond.methodLink RL 23 yX1_write), (118, Cond.methodLink RL 27 yX1_copy), (125, Cond.methodLink RL 31 yX1_negate), (132, Cond.methodLink RL 35 yX1_size), (142, Cond.methodLink RL 38 yX1_add), (149, Cond.methodLink RL 41 yX1_subtract), (156, Cond.methodLink RL 44 yX1_multiply), (163, Cond.methodLink RL 47 yX1_power), (170, Cond.methodLink RL 50 yX1_divide), (181, Cond.methodLink RL 54 yX1_share), (190, Cond.methodLink RL 57 yX1_whole), (197, Cond.methodLink RL 60 yX1_rest), (204, Cond.methodLink RL 63 yX1_setPlaces), (211, Cond.methodLink RL 66 yX1_strip), (218, Cond.methodLink RL 69 yX1_move), (230, Cond.methodLink RL 72 yX1_round), (238, Cond.methodLink RL 75 yX1_greater), (1, Cond.methodLink RL 173 yL_put), (108, Cond.methodLink RL 179 yL_write), (115, Cond.methodLink RL 183 yL_copy), (122, Cond.methodLink RL 187 yL_negate), (129, Cond.methodLink RL 191 yL_size), (139, Cond.methodLink RL 194 yL_add), (146, Cond.methodLink RL 197 yL_subtract), (153, Cond.methodLink RL 200 yL_multiply), (160, Cond.methodLink RL 203 yL_power), (167, Cond.methodLink RL 206 yL_divide), (178, Cond.methodLink RL 210 yL_share), (187, Cond.methodLink RL 213 yL_whole), (194, Cond.methodLink RL 216 yL_rest), (201, Cond.methodLink RL 219 yL_setPlaces), (208, Cond.methodLink RL 222 yL_strip), (215, Cond.methodLink RL 225 yL_move), (227, Cond.methodLink RL 228 yL_round), (235, Cond.methodLink RL 231 yL_greater), (4, Cond.classLink RL 19 "java/lang/IndexOutOfBoundsException"), (5, Cond.classLink RL 21 "java/lang/IllegalArgumentException")]
theorem gw_b_2_0 : ∀ q ∈ gwl_b_2_0, tables_1_2[q.1]? = some q.2 ∧ goodWord q.2 = true := by decide +kernel
def gwl_b_3_0 : List (Nat × Cond) := [(3, Cond.static yL_lesser), (10, Cond.static yL_cut), (21, Cond.static yL_count), (28, Cond.static yL_places), (35, Cond.static yL_digits), (42, Cond.static yL_sign), (49, Cond.static yL_text), (5, Cond.methodLink RL 78 yX1_lesser), (12, Cond.methodLink RL 81 yX1_cut), (23, Cond.methodLink RL 84 yX1_count), (30, Cond.methodLink RL 87 yX1_places), (37, Cond.methodLink RL 90 yX1_digits), (44, Cond.methodLink RL 93 yX1_sign), (51, Cond.methodLink RL 96 yX1_text), (2, Cond.methodLink RL 234 yL_lesser), (9, Cond.methodLink RL 237 yL_cut), (20, Cond.methodLink RL 240 yL_count), (27, Cond.methodLink RL 243 yL_places), (34, Cond.methodLink RL 246 yL_digits), (41, Cond.methodLink RL 249 yL_sign), (48, Cond.methodLink RL 252 yL_text)]
theorem gw_b_3_0 : ∀ q ∈ gwl_b_3_0, tables_1_3[q.1]? = some q.2 ∧ goodWord q.2 = true := by decide +kernel
def gwl_b_4_0 : List (Nat × Cond) := [(115, Cond.static yL_order), (122, Cond.static yL_same), (129, Cond.static yL_setWheel), (147, Cond.static yL_step), (158, Cond.static yL_turn), (166, Cond.static yL_times), (173, Cond.static yL_spoke), (181, Cond.static yL_lowest), (188, Cond.static yL_tens), (195, Cond.static yL_restAt), (202, Cond.static yL_digitsFrom), (214, Cond.static yL_cutText), (222, Cond.static yL_number), (229, Cond.static yL_product), (117, Cond.methodLink RL 104 yX1_order), (124, Cond.methodLink RL 107 yX1_same), (131, Cond.methodLink RL 111 yX1_setWheel), (149, Cond.methodLink RL 114 yX1_step), (160, Cond.methodLink RL 117 yX1_turn), (168, Cond.methodLink RL 120 yX1_times), (175, Cond.methodLink RL 123 yX1_spoke), (183, Cond.methodLink RL 126 yX1_lowest), (190, Cond.methodLink RL 129 yX1_tens), (197, Cond.methodLink RL 132 yX1_restAt), (204, Cond.methodLink RL 135 yX1_digitsFrom), (216, Cond.methodLink RL 139 yX1_cutText), (224, Cond.methodLink RL 143 yX1_number), (231, Cond.methodLink RL 147 yX1_product), (114, Cond.methodLink RL 255 yL_order), (121, Cond.methodLink RL 258 yL_same), (128, Cond.methodLink RL 261 yL_setWheel), (146, Cond.methodLink RL 264 yL_step), (157, Cond.methodLink RL 267 yL_turn), (165, Cond.methodLink RL 270 yL_times), (172, Cond.methodLink RL 273 yL_spoke), (180, Cond.methodLink RL 276 yL_lowest), (187, Cond.methodLink RL 279 yL_tens), (194, Cond.methodLink RL 282 yL_restAt), (201, Cond.methodLink RL 285 yL_digitsFrom), (213, Cond.methodLink RL 288 yL_cutText), (221, Cond.methodLink RL 292 yL_number), (228, Cond.methodLink RL 295 yL_product)]
theorem gw_b_4_0 : ∀ q ∈ gwl_b_4_0, tables_1_4[q.1]? = some q.2 ∧ goodWord q.2 = true := by decide +kernel
def gwl_b_5_0 : List (Nat × Cond) := [(5, Cond.static yL_partSum), (13, Cond.static yL_nines), (20, Cond.static yL_placeOf), (27, Cond.static yL_wheelOrder), (34, Cond.static yL_against), (41, Cond.static yL_house), (7, Cond.methodLink RL 150 yX1_partSum), (15, Cond.methodLink RL 153 yX1_nines), (22, Cond.methodLink RL 156 yX1_placeOf), (29, Cond.methodLink RL 159 yX1_wheelOrder), (36, Cond.methodLink RL 162 yX1_against), (43, Cond.methodLink RL 165 yX1_house), (47, Cond.classLink RL 169 "NinewheelModel"), (49, Cond.methodLink RL 171 yX3_init), (79, Cond.methodLink RL 178 yX3_put), (108, Cond.methodLink RL 182 yX3_write), (116, Cond.methodLink RL 186 yX3_copy), (120, Cond.methodLink RL 190 yX3_negate), (124, Cond.methodLink RL 193 yX3_size), (128, Cond.methodLink RL 196 yX3_add), (144, Cond.methodLink RL 199 yX3_subtract), (148, Cond.methodLink RL 202 yX3_multiply), (152, Cond.methodLink RL 205 yX3_power), (156, Cond.methodLink RL 209 yX3_divide), (170, Cond.methodLink RL 212 yX3_share), (174, Cond.methodLink RL 215 yX3_whole), (182, Cond.methodLink RL 218 yX3_rest), (186, Cond.methodLink RL 221 yX3_setPlaces), (190, Cond.methodLink RL 224 yX3_strip), (194, Cond.methodLink RL 227 yX3_move), (198, Cond.methodLink RL 230 yX3_round), (205, Cond.methodLink RL 233 yX3_greater), (213, Cond.methodLink RL 236 yX3_lesser), (217, Cond.methodLink RL 239 yX3_cut), (228, Cond.methodLink RL 242 yX3_count), (232, Cond.methodLink RL 245 yX3_places), (236, Cond.methodLink RL 248 yX3_digits), (4, Cond.methodLink RL 298 yL_partSum), (12, Cond.methodLink RL 301 yL_nines), (19, Cond.methodLink RL 304 yL_placeOf), (26, Cond.methodLink RL 307 yL_wheelOrder), (33, Cond.methodLink RL 310 yL_against), (40, Cond.methodLink RL 313 yL_house), (75, Cond.methodLink RL 316 yX3_thrown)]
theorem gw_b_5_0 : ∀ q ∈ gwl_b_5_0, tables_1_5[q.1]? = some q.2 ∧ goodWord q.2 = true := by decide +kernel
def gwl_b_6_0 : List (Nat × Cond) := [(0, Cond.methodLink RL 251 yX3_sign), (4, Cond.methodLink RL 254 yX3_text), (19, Cond.methodLink RL 257 yX3_order), (23, Cond.methodLink RL 260 yX3_same), (31, Cond.methodLink RL 263 yX3_setWheel), (49, Cond.methodLink RL 266 yX3_step), (56, Cond.methodLink RL 269 yX3_turn), (60, Cond.methodLink RL 272 yX3_times), (64, Cond.methodLink RL 275 yX3_spoke), (72, Cond.methodLink RL 278 yX3_lowest), (76, Cond.methodLink RL 281 yX3_tens), (80, Cond.methodLink RL 284 yX3_restAt), (84, Cond.methodLink RL 287 yX3_digitsFrom), (95, Cond.methodLink RL 291 yX3_cutText), (100, Cond.methodLink RL 294 yX3_number_), (104, Cond.methodLink RL 297 yX3_product), (115, Cond.methodLink RL 300 yX3_partSum), (123, Cond.methodLink RL 303 yX3_nines), (134, Cond.methodLink RL 306 yX3_placeOf), (138, Cond.methodLink RL 309 yX3_wheelOrder), (146, Cond.methodLink RL 312 yX3_against), (154, Cond.methodLink RL 315 yX3_house), (158, Cond.methodLink RL 323 yX3_knock), (162, Cond.methodLink RL 328 yX3_isSound), (182, Cond.methodLink RL 333 yX3_digest)]
theorem gw_b_6_0 : ∀ q ∈ gwl_b_6_0, tables_1_6[q.1]? = some q.2 ∧ goodWord q.2 = true := by decide +kernel
def gyl_b_0 : List (MethodName × Nat) := [(yL_put, 5), (yL_write, 7), (yL_copy, 4), (yL_negate, 3), (yL_size, 3), (yL_add, 5), (yL_subtract, 5), (yL_multiply, 5), (yL_power, 5), (yL_divide, 7), (yL_share, 5), (yL_whole, 5), (yL_rest, 5), (yL_setPlaces, 5), (yL_strip, 3), (yL_move, 4), (yL_round, 5), (yL_greater, 5), (yL_lesser, 5), (yL_cut, 7), (yL_count, 3), (yL_places, 3), (yL_digits, 3), (yL_sign, 3), (yL_text, 4), (yL_order, 4), (yL_same, 4), (yL_setWheel, 5), (yL_step, 3), (yL_turn, 4)]
theorem gy_b_0 : ∀ q ∈ gyl_b_0, q.1.cls ≠ "java/lang/invoke/MethodHandle" ∧ q.1.cls ≠ "java/lang/invoke/VarHandle" ∧ (parseMethodDescriptor q.1.desc).map (fun d => d.parameters.length) = some q.2 := by decide +kernel
def gyl_b_1 : List (MethodName × Nat) := [(yL_times, 5), (yL_spoke, 4), (yL_lowest, 3), (yL_tens, 3), (yL_restAt, 4), (yL_digitsFrom, 5), (yL_cutText, 6), (yL_number, 3), (yL_product, 3), (yL_partSum, 4), (yL_nines, 4), (yL_placeOf, 4), (yL_wheelOrder, 4), (yL_against, 4), (yL_house, 3)]
theorem gy_b_1 : ∀ q ∈ gyl_b_1, q.1.cls ≠ "java/lang/invoke/MethodHandle" ∧ q.1.cls ≠ "java/lang/invoke/VarHandle" ∧ (parseMethodDescriptor q.1.desc).map (fun d => d.parameters.length) = some q.2 := by decide +kernel
theorem nw_inL : Cond.initialized RL ∈ nw_T := nw_tq1 gw_b_1_0 0 rfl
theorem nw_kL_put : Cond.codeWith yL_put cL_put 6 (some .int) [(0, 13, 16, 19), (0, 13, 20, 21)] ∈ nw_T := nw_tf (nw_ms2 (List.mem_of_getElem? (i := 3) rfl)) rfl
theorem nw_yL_put : ne_cy yL_put (.codeWith yL_put cL_put 6 (some .int) [(0, 13, 16, 19), (0, 13, 20, 21)]) 5 nw_T := ⟨nw_kL_put, nw_inL, gy_b_0 (yL_put, 5) (List.mem_of_getElem? (i := 0) rfl)⟩
theorem nw_sL_put : Cond.static yL_put ∈ nw_T := nw_tq2 gw_b_2_0 0 rfl
theorem nw_kL_write : Cond.codeWith yL_write cL_write 8 (some .int) [(0, 17, 20, 19), (0, 17, 24, 21)] ∈ nw_T := nw_tf (nw_ms2 (List.mem_of_getElem? (i := 110) rfl)) rfl
theorem nw_yL_write : ne_cy yL_write (.codeWith yL_write cL_write 8 (some .int) [(0, 17, 20, 19), (0, 17, 24, 21)]) 7 nw_T := ⟨nw_kL_write, nw_inL, gy_b_0 (yL_write, 7) (List.mem_of_getElem? (i := 1) rfl)⟩
theorem nw_sL_write : Cond.static yL_write ∈ nw_T := nw_tq2 gw_b_2_0 1 rfl
theorem nw_kL_copy : Cond.codeWith yL_copy cL_copy 5 (some .int) [(0, 11, 14, 19)] ∈ nw_T := nw_tf (nw_ms2 (List.mem_of_getElem? (i := 117) rfl)) rfl
theorem nw_yL_copy : ne_cy yL_copy (.codeWith yL_copy cL_copy 5 (some .int) [(0, 11, 14, 19)]) 4 nw_T := ⟨nw_kL_copy, nw_inL, gy_b_0 (yL_copy, 4) (List.mem_of_getElem? (i := 2) rfl)⟩
theorem nw_sL_copy : Cond.static yL_copy ∈ nw_T := nw_tq2 gw_b_2_0 2 rfl
theorem nw_kL_negate : Cond.codeWith yL_negate cL_negate 4 (some .int) [(0, 10, 13, 19)] ∈ nw_T := nw_tf (nw_ms2 (List.mem_of_getElem? (i := 124) rfl)) rfl
theorem nw_yL_negate : ne_cy yL_negate (.codeWith yL_negate cL_negate 4 (some .int) [(0, 10, 13, 19)]) 3 nw_T := ⟨nw_kL_negate, nw_inL, gy_b_0 (yL_negate, 3) (List.mem_of_getElem? (i := 3) rfl)⟩
theorem nw_sL_negate : Cond.static yL_negate ∈ nw_T := nw_tq2 gw_b_2_0 3 rfl
theorem nw_kL_size : Cond.codeWith yL_size cL_size 4 (some .int) [(0, 10, 13, 19)] ∈ nw_T := nw_tf (nw_ms2 (List.mem_of_getElem? (i := 131) rfl)) rfl
theorem nw_yL_size : ne_cy yL_size (.codeWith yL_size cL_size 4 (some .int) [(0, 10, 13, 19)]) 3 nw_T := ⟨nw_kL_size, nw_inL, gy_b_0 (yL_size, 3) (List.mem_of_getElem? (i := 4) rfl)⟩
theorem nw_sL_size : Cond.static yL_size ∈ nw_T := nw_tq2 gw_b_2_0 4 rfl
theorem nw_kL_add : Cond.codeWith yL_add cL_add 6 (some .int) [(0, 13, 16, 19)] ∈ nw_T := nw_tf (nw_ms2 (List.mem_of_getElem? (i := 141) rfl)) rfl
theorem nw_yL_add : ne_cy yL_add (.codeWith yL_add cL_add 6 (some .int) [(0, 13, 16, 19)]) 5 nw_T := ⟨nw_kL_add, nw_inL, gy_b_0 (yL_add, 5) (List.mem_of_getElem? (i := 5) rfl)⟩
theorem nw_sL_add : Cond.static yL_add ∈ nw_T := nw_tq2 gw_b_2_0 5 rfl
theorem nw_kL_subtract : Cond.codeWith yL_subtract cL_subtract 6 (some .int) [(0, 13, 16, 19)] ∈ nw_T := nw_tf (nw_ms2 (List.mem_of_getElem? (i := 148) rfl)) rfl
theorem nw_yL_subtract : ne_cy yL_subtract (.codeWith yL_subtract cL_subtract 6 (some .int) [(0, 13, 16, 19)]) 5 nw_T := ⟨nw_kL_subtract, nw_inL, gy_b_0 (yL_subtract, 5) (List.mem_of_getElem? (i := 6) rfl)⟩
theorem nw_sL_subtract : Cond.static yL_subtract ∈ nw_T := nw_tq2 gw_b_2_0 6 rfl
theorem nw_kL_multiply : Cond.codeWith yL_multiply cL_multiply 6 (some .int) [(0, 13, 16, 19)] ∈ nw_T := nw_tf (nw_ms2 (List.mem_of_getElem? (i := 155) rfl)) rfl
theorem nw_yL_multiply : ne_cy yL_multiply (.codeWith yL_multiply cL_multiply 6 (some .int) [(0, 13, 16, 19)]) 5 nw_T := ⟨nw_kL_multiply, nw_inL, gy_b_0 (yL_multiply, 5) (List.mem_of_getElem? (i := 7) rfl)⟩
theorem nw_sL_multiply : Cond.static yL_multiply ∈ nw_T := nw_tq2 gw_b_2_0 7 rfl
theorem nw_kL_power : Cond.codeWith yL_power cL_power 6 (some .int) [(0, 13, 16, 19), (0, 13, 20, 21)] ∈ nw_T := nw_tf (nw_ms2 (List.mem_of_getElem? (i := 162) rfl)) rfl
theorem nw_yL_power : ne_cy yL_power (.codeWith yL_power cL_power 6 (some .int) [(0, 13, 16, 19), (0, 13, 20, 21)]) 5 nw_T := ⟨nw_kL_power, nw_inL, gy_b_0 (yL_power, 5) (List.mem_of_getElem? (i := 8) rfl)⟩
theorem nw_sL_power : Cond.static yL_power ∈ nw_T := nw_tq2 gw_b_2_0 8 rfl
theorem nw_kL_divide : Cond.codeWith yL_divide cL_divide 8 (some .int) [(0, 17, 20, 19), (0, 17, 24, 21)] ∈ nw_T := nw_tf (nw_ms2 (List.mem_of_getElem? (i := 169) rfl)) rfl
theorem nw_yL_divide : ne_cy yL_divide (.codeWith yL_divide cL_divide 8 (some .int) [(0, 17, 20, 19), (0, 17, 24, 21)]) 7 nw_T := ⟨nw_kL_divide, nw_inL, gy_b_0 (yL_divide, 7) (List.mem_of_getElem? (i := 9) rfl)⟩
theorem nw_sL_divide : Cond.static yL_divide ∈ nw_T := nw_tq2 gw_b_2_0 9 rfl
theorem nw_kL_share : Cond.codeWith yL_share cL_share 6 (some .int) [(0, 13, 16, 19), (0, 13, 20, 21)] ∈ nw_T := nw_tf (nw_ms2 (List.mem_of_getElem? (i := 180) rfl)) rfl
theorem nw_yL_share : ne_cy yL_share (.codeWith yL_share cL_share 6 (some .int) [(0, 13, 16, 19), (0, 13, 20, 21)]) 5 nw_T := ⟨nw_kL_share, nw_inL, gy_b_0 (yL_share, 5) (List.mem_of_getElem? (i := 10) rfl)⟩
theorem nw_sL_share : Cond.static yL_share ∈ nw_T := nw_tq2 gw_b_2_0 10 rfl
theorem nw_kL_whole : Cond.codeWith yL_whole cL_whole 6 (some .int) [(0, 13, 16, 19), (0, 13, 20, 21)] ∈ nw_T := nw_tf (nw_ms2 (List.mem_of_getElem? (i := 189) rfl)) rfl
theorem nw_yL_whole : ne_cy yL_whole (.codeWith yL_whole cL_whole 6 (some .int) [(0, 13, 16, 19), (0, 13, 20, 21)]) 5 nw_T := ⟨nw_kL_whole, nw_inL, gy_b_0 (yL_whole, 5) (List.mem_of_getElem? (i := 11) rfl)⟩
theorem nw_sL_whole : Cond.static yL_whole ∈ nw_T := nw_tq2 gw_b_2_0 11 rfl
theorem nw_kL_rest : Cond.codeWith yL_rest cL_rest 6 (some .int) [(0, 13, 16, 19), (0, 13, 20, 21)] ∈ nw_T := nw_tf (nw_ms2 (List.mem_of_getElem? (i := 196) rfl)) rfl
theorem nw_yL_rest : ne_cy yL_rest (.codeWith yL_rest cL_rest 6 (some .int) [(0, 13, 16, 19), (0, 13, 20, 21)]) 5 nw_T := ⟨nw_kL_rest, nw_inL, gy_b_0 (yL_rest, 5) (List.mem_of_getElem? (i := 12) rfl)⟩
theorem nw_sL_rest : Cond.static yL_rest ∈ nw_T := nw_tq2 gw_b_2_0 12 rfl
theorem nw_kL_setPlaces : Cond.codeWith yL_setPlaces cL_setPlaces 6 (some .int) [(0, 13, 16, 19), (0, 13, 20, 21)] ∈ nw_T := nw_tf (nw_ms2 (List.mem_of_getElem? (i := 203) rfl)) rfl
theorem nw_yL_setPlaces : ne_cy yL_setPlaces (.codeWith yL_setPlaces cL_setPlaces 6 (some .int) [(0, 13, 16, 19), (0, 13, 20, 21)]) 5 nw_T := ⟨nw_kL_setPlaces, nw_inL, gy_b_0 (yL_setPlaces, 5) (List.mem_of_getElem? (i := 13) rfl)⟩
theorem nw_sL_setPlaces : Cond.static yL_setPlaces ∈ nw_T := nw_tq2 gw_b_2_0 13 rfl
theorem nw_kL_strip : Cond.codeWith yL_strip cL_strip 4 (some .int) [(0, 10, 13, 19)] ∈ nw_T := nw_tf (nw_ms2 (List.mem_of_getElem? (i := 210) rfl)) rfl
theorem nw_yL_strip : ne_cy yL_strip (.codeWith yL_strip cL_strip 4 (some .int) [(0, 10, 13, 19)]) 3 nw_T := ⟨nw_kL_strip, nw_inL, gy_b_0 (yL_strip, 3) (List.mem_of_getElem? (i := 14) rfl)⟩
theorem nw_sL_strip : Cond.static yL_strip ∈ nw_T := nw_tq2 gw_b_2_0 14 rfl
theorem nw_kL_move : Cond.codeWith yL_move cL_move 5 (some .int) [(0, 11, 14, 19), (0, 11, 18, 21)] ∈ nw_T := nw_tf (nw_ms2 (List.mem_of_getElem? (i := 217) rfl)) rfl
theorem nw_yL_move : ne_cy yL_move (.codeWith yL_move cL_move 5 (some .int) [(0, 11, 14, 19), (0, 11, 18, 21)]) 4 nw_T := ⟨nw_kL_move, nw_inL, gy_b_0 (yL_move, 4) (List.mem_of_getElem? (i := 15) rfl)⟩
theorem nw_sL_move : Cond.static yL_move ∈ nw_T := nw_tq2 gw_b_2_0 15 rfl
theorem nw_kL_round : Cond.codeWith yL_round cL_round 6 (some .int) [(0, 13, 16, 19), (0, 13, 20, 21)] ∈ nw_T := nw_tf (nw_ms2 (List.mem_of_getElem? (i := 229) rfl)) rfl
theorem nw_yL_round : ne_cy yL_round (.codeWith yL_round cL_round 6 (some .int) [(0, 13, 16, 19), (0, 13, 20, 21)]) 5 nw_T := ⟨nw_kL_round, nw_inL, gy_b_0 (yL_round, 5) (List.mem_of_getElem? (i := 16) rfl)⟩
theorem nw_sL_round : Cond.static yL_round ∈ nw_T := nw_tq2 gw_b_2_0 16 rfl
theorem nw_kL_greater : Cond.codeWith yL_greater cL_greater 6 (some .int) [(0, 13, 16, 19)] ∈ nw_T := nw_tf (nw_ms2 (List.mem_of_getElem? (i := 237) rfl)) rfl
theorem nw_yL_greater : ne_cy yL_greater (.codeWith yL_greater cL_greater 6 (some .int) [(0, 13, 16, 19)]) 5 nw_T := ⟨nw_kL_greater, nw_inL, gy_b_0 (yL_greater, 5) (List.mem_of_getElem? (i := 17) rfl)⟩
theorem nw_sL_greater : Cond.static yL_greater ∈ nw_T := nw_tq2 gw_b_2_0 17 rfl
theorem nw_kL_lesser : Cond.codeWith yL_lesser cL_lesser 6 (some .int) [(0, 13, 16, 19)] ∈ nw_T := nw_tf (nw_ms3 (List.mem_of_getElem? (i := 4) rfl)) rfl
theorem nw_yL_lesser : ne_cy yL_lesser (.codeWith yL_lesser cL_lesser 6 (some .int) [(0, 13, 16, 19)]) 5 nw_T := ⟨nw_kL_lesser, nw_inL, gy_b_0 (yL_lesser, 5) (List.mem_of_getElem? (i := 18) rfl)⟩
theorem nw_sL_lesser : Cond.static yL_lesser ∈ nw_T := nw_tq3 gw_b_3_0 0 rfl
theorem nw_kL_cut : Cond.codeWith yL_cut cL_cut 8 (some .int) [(0, 17, 20, 19), (0, 17, 24, 21)] ∈ nw_T := nw_tf (nw_ms3 (List.mem_of_getElem? (i := 11) rfl)) rfl
theorem nw_yL_cut : ne_cy yL_cut (.codeWith yL_cut cL_cut 8 (some .int) [(0, 17, 20, 19), (0, 17, 24, 21)]) 7 nw_T := ⟨nw_kL_cut, nw_inL, gy_b_0 (yL_cut, 7) (List.mem_of_getElem? (i := 19) rfl)⟩
theorem nw_sL_cut : Cond.static yL_cut ∈ nw_T := nw_tq3 gw_b_3_0 1 rfl
theorem nw_kL_count : Cond.codeWith yL_count cL_count 4 (some .int) [(0, 10, 13, 19)] ∈ nw_T := nw_tf (nw_ms3 (List.mem_of_getElem? (i := 22) rfl)) rfl
theorem nw_yL_count : ne_cy yL_count (.codeWith yL_count cL_count 4 (some .int) [(0, 10, 13, 19)]) 3 nw_T := ⟨nw_kL_count, nw_inL, gy_b_0 (yL_count, 3) (List.mem_of_getElem? (i := 20) rfl)⟩
theorem nw_sL_count : Cond.static yL_count ∈ nw_T := nw_tq3 gw_b_3_0 2 rfl
theorem nw_kL_places : Cond.codeWith yL_places cL_places 4 (some .int) [(0, 10, 13, 19)] ∈ nw_T := nw_tf (nw_ms3 (List.mem_of_getElem? (i := 29) rfl)) rfl
theorem nw_yL_places : ne_cy yL_places (.codeWith yL_places cL_places 4 (some .int) [(0, 10, 13, 19)]) 3 nw_T := ⟨nw_kL_places, nw_inL, gy_b_0 (yL_places, 3) (List.mem_of_getElem? (i := 21) rfl)⟩
theorem nw_sL_places : Cond.static yL_places ∈ nw_T := nw_tq3 gw_b_3_0 3 rfl
theorem nw_kL_digits : Cond.codeWith yL_digits cL_digits 4 (some .int) [(0, 10, 13, 19)] ∈ nw_T := nw_tf (nw_ms3 (List.mem_of_getElem? (i := 36) rfl)) rfl
theorem nw_yL_digits : ne_cy yL_digits (.codeWith yL_digits cL_digits 4 (some .int) [(0, 10, 13, 19)]) 3 nw_T := ⟨nw_kL_digits, nw_inL, gy_b_0 (yL_digits, 3) (List.mem_of_getElem? (i := 22) rfl)⟩
theorem nw_sL_digits : Cond.static yL_digits ∈ nw_T := nw_tq3 gw_b_3_0 4 rfl
theorem nw_kL_sign : Cond.codeWith yL_sign cL_sign 4 (some .int) [(0, 10, 13, 19)] ∈ nw_T := nw_tf (nw_ms3 (List.mem_of_getElem? (i := 43) rfl)) rfl
theorem nw_yL_sign : ne_cy yL_sign (.codeWith yL_sign cL_sign 4 (some .int) [(0, 10, 13, 19)]) 3 nw_T := ⟨nw_kL_sign, nw_inL, gy_b_0 (yL_sign, 3) (List.mem_of_getElem? (i := 23) rfl)⟩
theorem nw_sL_sign : Cond.static yL_sign ∈ nw_T := nw_tq3 gw_b_3_0 5 rfl
theorem nw_kL_text : Cond.codeWith yL_text cL_text 5 (some .int) [(0, 10, 13, 19), (0, 10, 17, 21)] ∈ nw_T := nw_tf (nw_ms3 (List.mem_of_getElem? (i := 50) rfl)) rfl
theorem nw_yL_text : ne_cy yL_text (.codeWith yL_text cL_text 5 (some .int) [(0, 10, 13, 19), (0, 10, 17, 21)]) 4 nw_T := ⟨nw_kL_text, nw_inL, gy_b_0 (yL_text, 4) (List.mem_of_getElem? (i := 24) rfl)⟩
theorem nw_sL_text : Cond.static yL_text ∈ nw_T := nw_tq3 gw_b_3_0 6 rfl
theorem nw_kL_order : Cond.codeWith yL_order cL_order 5 (some .int) [(0, 11, 14, 19)] ∈ nw_T := nw_tf (nw_ms4 (List.mem_of_getElem? (i := 116) rfl)) rfl
theorem nw_yL_order : ne_cy yL_order (.codeWith yL_order cL_order 5 (some .int) [(0, 11, 14, 19)]) 4 nw_T := ⟨nw_kL_order, nw_inL, gy_b_0 (yL_order, 4) (List.mem_of_getElem? (i := 25) rfl)⟩
theorem nw_sL_order : Cond.static yL_order ∈ nw_T := nw_tq4 gw_b_4_0 0 rfl
theorem nw_kL_same : Cond.codeWith yL_same cL_same 5 (some .int) [(0, 18, 21, 19)] ∈ nw_T := nw_tf (nw_ms4 (List.mem_of_getElem? (i := 123) rfl)) rfl
theorem nw_yL_same : ne_cy yL_same (.codeWith yL_same cL_same 5 (some .int) [(0, 18, 21, 19)]) 4 nw_T := ⟨nw_kL_same, nw_inL, gy_b_0 (yL_same, 4) (List.mem_of_getElem? (i := 26) rfl)⟩
theorem nw_sL_same : Cond.static yL_same ∈ nw_T := nw_tq4 gw_b_4_0 1 rfl
theorem nw_kL_setWheel : Cond.codeWith yL_setWheel cL_setWheel 6 (some .int) [(0, 13, 16, 19), (0, 13, 20, 21)] ∈ nw_T := nw_tf (nw_ms4 (List.mem_of_getElem? (i := 130) rfl)) rfl
theorem nw_yL_setWheel : ne_cy yL_setWheel (.codeWith yL_setWheel cL_setWheel 6 (some .int) [(0, 13, 16, 19), (0, 13, 20, 21)]) 5 nw_T := ⟨nw_kL_setWheel, nw_inL, gy_b_0 (yL_setWheel, 5) (List.mem_of_getElem? (i := 27) rfl)⟩
theorem nw_sL_setWheel : Cond.static yL_setWheel ∈ nw_T := nw_tq4 gw_b_4_0 2 rfl
theorem nw_kL_step : Cond.codeWith yL_step cL_step 4 (some .int) [(0, 10, 13, 19)] ∈ nw_T := nw_tf (nw_ms4 (List.mem_of_getElem? (i := 148) rfl)) rfl
theorem nw_yL_step : ne_cy yL_step (.codeWith yL_step cL_step 4 (some .int) [(0, 10, 13, 19)]) 3 nw_T := ⟨nw_kL_step, nw_inL, gy_b_0 (yL_step, 3) (List.mem_of_getElem? (i := 28) rfl)⟩
theorem nw_sL_step : Cond.static yL_step ∈ nw_T := nw_tq4 gw_b_4_0 3 rfl
theorem nw_kL_turn : Cond.codeWith yL_turn cL_turn 5 (some .int) [(0, 11, 14, 19), (0, 11, 18, 21)] ∈ nw_T := nw_tf (nw_ms4 (List.mem_of_getElem? (i := 159) rfl)) rfl
theorem nw_yL_turn : ne_cy yL_turn (.codeWith yL_turn cL_turn 5 (some .int) [(0, 11, 14, 19), (0, 11, 18, 21)]) 4 nw_T := ⟨nw_kL_turn, nw_inL, gy_b_0 (yL_turn, 4) (List.mem_of_getElem? (i := 29) rfl)⟩
theorem nw_sL_turn : Cond.static yL_turn ∈ nw_T := nw_tq4 gw_b_4_0 4 rfl
theorem nw_kL_times : Cond.codeWith yL_times cL_times 6 (some .int) [(0, 13, 16, 19), (0, 13, 20, 21)] ∈ nw_T := nw_tf (nw_ms4 (List.mem_of_getElem? (i := 167) rfl)) rfl
theorem nw_yL_times : ne_cy yL_times (.codeWith yL_times cL_times 6 (some .int) [(0, 13, 16, 19), (0, 13, 20, 21)]) 5 nw_T := ⟨nw_kL_times, nw_inL, gy_b_1 (yL_times, 5) (List.mem_of_getElem? (i := 0) rfl)⟩
theorem nw_sL_times : Cond.static yL_times ∈ nw_T := nw_tq4 gw_b_4_0 5 rfl
theorem nw_kL_spoke : Cond.codeWith yL_spoke cL_spoke 5 (some .int) [(0, 11, 14, 19), (0, 11, 18, 21)] ∈ nw_T := nw_tf (nw_ms4 (List.mem_of_getElem? (i := 174) rfl)) rfl
theorem nw_yL_spoke : ne_cy yL_spoke (.codeWith yL_spoke cL_spoke 5 (some .int) [(0, 11, 14, 19), (0, 11, 18, 21)]) 4 nw_T := ⟨nw_kL_spoke, nw_inL, gy_b_1 (yL_spoke, 4) (List.mem_of_getElem? (i := 1) rfl)⟩
theorem nw_sL_spoke : Cond.static yL_spoke ∈ nw_T := nw_tq4 gw_b_4_0 6 rfl
theorem nw_kL_lowest : Cond.codeWith yL_lowest cL_lowest 4 (some .int) [(0, 10, 13, 19)] ∈ nw_T := nw_tf (nw_ms4 (List.mem_of_getElem? (i := 182) rfl)) rfl
theorem nw_yL_lowest : ne_cy yL_lowest (.codeWith yL_lowest cL_lowest 4 (some .int) [(0, 10, 13, 19)]) 3 nw_T := ⟨nw_kL_lowest, nw_inL, gy_b_1 (yL_lowest, 3) (List.mem_of_getElem? (i := 2) rfl)⟩
theorem nw_sL_lowest : Cond.static yL_lowest ∈ nw_T := nw_tq4 gw_b_4_0 7 rfl
theorem nw_kL_tens : Cond.codeWith yL_tens cL_tens 4 (some .int) [(0, 10, 13, 21)] ∈ nw_T := nw_tf (nw_ms4 (List.mem_of_getElem? (i := 189) rfl)) rfl
theorem nw_yL_tens : ne_cy yL_tens (.codeWith yL_tens cL_tens 4 (some .int) [(0, 10, 13, 21)]) 3 nw_T := ⟨nw_kL_tens, nw_inL, gy_b_1 (yL_tens, 3) (List.mem_of_getElem? (i := 3) rfl)⟩
theorem nw_sL_tens : Cond.static yL_tens ∈ nw_T := nw_tq4 gw_b_4_0 8 rfl
theorem nw_kL_restAt : Cond.codeWith yL_restAt cL_restAt 5 (some .int) [(0, 11, 14, 19), (0, 11, 18, 21)] ∈ nw_T := nw_tf (nw_ms4 (List.mem_of_getElem? (i := 196) rfl)) rfl
theorem nw_yL_restAt : ne_cy yL_restAt (.codeWith yL_restAt cL_restAt 5 (some .int) [(0, 11, 14, 19), (0, 11, 18, 21)]) 4 nw_T := ⟨nw_kL_restAt, nw_inL, gy_b_1 (yL_restAt, 4) (List.mem_of_getElem? (i := 4) rfl)⟩
theorem nw_sL_restAt : Cond.static yL_restAt ∈ nw_T := nw_tq4 gw_b_4_0 9 rfl
theorem nw_kL_digitsFrom : Cond.codeWith yL_digitsFrom cL_digitsFrom 6 (some .int) [(0, 12, 15, 19), (0, 12, 19, 21)] ∈ nw_T := nw_tf (nw_ms4 (List.mem_of_getElem? (i := 203) rfl)) rfl
theorem nw_yL_digitsFrom : ne_cy yL_digitsFrom (.codeWith yL_digitsFrom cL_digitsFrom 6 (some .int) [(0, 12, 15, 19), (0, 12, 19, 21)]) 5 nw_T := ⟨nw_kL_digitsFrom, nw_inL, gy_b_1 (yL_digitsFrom, 5) (List.mem_of_getElem? (i := 5) rfl)⟩
theorem nw_sL_digitsFrom : Cond.static yL_digitsFrom ∈ nw_T := nw_tq4 gw_b_4_0 10 rfl
theorem nw_kL_cutText : Cond.codeWith yL_cutText cL_cutText 7 (some .int) [(0, 14, 17, 19), (0, 14, 21, 21)] ∈ nw_T := nw_tf (nw_ms4 (List.mem_of_getElem? (i := 215) rfl)) rfl
theorem nw_yL_cutText : ne_cy yL_cutText (.codeWith yL_cutText cL_cutText 7 (some .int) [(0, 14, 17, 19), (0, 14, 21, 21)]) 6 nw_T := ⟨nw_kL_cutText, nw_inL, gy_b_1 (yL_cutText, 6) (List.mem_of_getElem? (i := 6) rfl)⟩
theorem nw_sL_cutText : Cond.static yL_cutText ∈ nw_T := nw_tq4 gw_b_4_0 11 rfl
theorem nw_kL_number : Cond.codeWith yL_number cL_number 4 (some .int) [(0, 9, 12, 19)] ∈ nw_T := nw_tf (nw_ms4 (List.mem_of_getElem? (i := 223) rfl)) rfl
theorem nw_yL_number : ne_cy yL_number (.codeWith yL_number cL_number 4 (some .int) [(0, 9, 12, 19)]) 3 nw_T := ⟨nw_kL_number, nw_inL, gy_b_1 (yL_number, 3) (List.mem_of_getElem? (i := 7) rfl)⟩
theorem nw_sL_number : Cond.static yL_number ∈ nw_T := nw_tq4 gw_b_4_0 12 rfl
theorem nw_kL_product : Cond.codeWith yL_product cL_product 4 (some .int) [(0, 9, 12, 19)] ∈ nw_T := nw_tf (nw_ms4 (List.mem_of_getElem? (i := 230) rfl)) rfl
theorem nw_yL_product : ne_cy yL_product (.codeWith yL_product cL_product 4 (some .int) [(0, 9, 12, 19)]) 3 nw_T := ⟨nw_kL_product, nw_inL, gy_b_1 (yL_product, 3) (List.mem_of_getElem? (i := 8) rfl)⟩
theorem nw_sL_product : Cond.static yL_product ∈ nw_T := nw_tq4 gw_b_4_0 13 rfl
theorem nw_kL_partSum : Cond.codeWith yL_partSum cL_partSum 5 (some .int) [(0, 10, 13, 19), (0, 10, 17, 21)] ∈ nw_T := nw_tf (nw_ms5 (List.mem_of_getElem? (i := 6) rfl)) rfl
theorem nw_yL_partSum : ne_cy yL_partSum (.codeWith yL_partSum cL_partSum 5 (some .int) [(0, 10, 13, 19), (0, 10, 17, 21)]) 4 nw_T := ⟨nw_kL_partSum, nw_inL, gy_b_1 (yL_partSum, 4) (List.mem_of_getElem? (i := 9) rfl)⟩
theorem nw_sL_partSum : Cond.static yL_partSum ∈ nw_T := nw_tq5 gw_b_5_0 0 rfl
theorem nw_kL_nines : Cond.codeWith yL_nines cL_nines 5 (some .int) [(0, 11, 14, 19), (0, 11, 18, 21)] ∈ nw_T := nw_tf (nw_ms5 (List.mem_of_getElem? (i := 14) rfl)) rfl
theorem nw_yL_nines : ne_cy yL_nines (.codeWith yL_nines cL_nines 5 (some .int) [(0, 11, 14, 19), (0, 11, 18, 21)]) 4 nw_T := ⟨nw_kL_nines, nw_inL, gy_b_1 (yL_nines, 4) (List.mem_of_getElem? (i := 10) rfl)⟩
theorem nw_sL_nines : Cond.static yL_nines ∈ nw_T := nw_tq5 gw_b_5_0 1 rfl
theorem nw_kL_placeOf : Cond.codeWith yL_placeOf cL_placeOf 5 (some .int) [(0, 11, 14, 19)] ∈ nw_T := nw_tf (nw_ms5 (List.mem_of_getElem? (i := 21) rfl)) rfl
theorem nw_yL_placeOf : ne_cy yL_placeOf (.codeWith yL_placeOf cL_placeOf 5 (some .int) [(0, 11, 14, 19)]) 4 nw_T := ⟨nw_kL_placeOf, nw_inL, gy_b_1 (yL_placeOf, 4) (List.mem_of_getElem? (i := 11) rfl)⟩
theorem nw_sL_placeOf : Cond.static yL_placeOf ∈ nw_T := nw_tq5 gw_b_5_0 2 rfl
theorem nw_kL_wheelOrder : Cond.codeWith yL_wheelOrder cL_wheelOrder 5 (some .int) [(0, 11, 14, 19)] ∈ nw_T := nw_tf (nw_ms5 (List.mem_of_getElem? (i := 28) rfl)) rfl
theorem nw_yL_wheelOrder : ne_cy yL_wheelOrder (.codeWith yL_wheelOrder cL_wheelOrder 5 (some .int) [(0, 11, 14, 19)]) 4 nw_T := ⟨nw_kL_wheelOrder, nw_inL, gy_b_1 (yL_wheelOrder, 4) (List.mem_of_getElem? (i := 12) rfl)⟩
theorem nw_sL_wheelOrder : Cond.static yL_wheelOrder ∈ nw_T := nw_tq5 gw_b_5_0 3 rfl
theorem nw_kL_against : Cond.codeWith yL_against cL_against 5 (some .int) [(0, 11, 14, 19)] ∈ nw_T := nw_tf (nw_ms5 (List.mem_of_getElem? (i := 35) rfl)) rfl
theorem nw_yL_against : ne_cy yL_against (.codeWith yL_against cL_against 5 (some .int) [(0, 11, 14, 19)]) 4 nw_T := ⟨nw_kL_against, nw_inL, gy_b_1 (yL_against, 4) (List.mem_of_getElem? (i := 13) rfl)⟩
theorem nw_sL_against : Cond.static yL_against ∈ nw_T := nw_tq5 gw_b_5_0 4 rfl
theorem nw_kL_house : Cond.codeWith yL_house cL_house 4 (some .int) [(0, 10, 13, 21)] ∈ nw_T := nw_tf (nw_ms5 (List.mem_of_getElem? (i := 42) rfl)) rfl
theorem nw_yL_house : ne_cy yL_house (.codeWith yL_house cL_house 4 (some .int) [(0, 10, 13, 21)]) 3 nw_T := ⟨nw_kL_house, nw_inL, gy_b_1 (yL_house, 3) (List.mem_of_getElem? (i := 14) rfl)⟩
theorem nw_sL_house : Cond.static yL_house ∈ nw_T := nw_tq5 gw_b_5_0 5 rfl
theorem nw_mL_7 : Cond.methodLink RL 7 yX1_put ∈ nw_T := nw_tq2 gw_b_2_0 18 rfl
theorem nw_qL_8 : Cond.classLink RL 8 "Ninewheel" ∈ nw_T := nw_tq1 gw_b_1_0 1 rfl
theorem nw_fL_13 : ne_fln nw_cl RL 13 4 0 "NinewheelLaw" nw_T := ⟨RX2, TX2, 2, rfl, by decide, nw_uX2, by decide +kernel⟩
theorem nw_qL_14 : Cond.classLink RL 14 "NinewheelLaw$Out" ∈ nw_T := nw_tq1 gw_b_1_0 2 rfl
theorem nw_mL_23 : Cond.methodLink RL 23 yX1_write ∈ nw_T := nw_tq2 gw_b_2_0 19 rfl
theorem nw_mL_27 : Cond.methodLink RL 27 yX1_copy ∈ nw_T := nw_tq2 gw_b_2_0 20 rfl
theorem nw_mL_31 : Cond.methodLink RL 31 yX1_negate ∈ nw_T := nw_tq2 gw_b_2_0 21 rfl
theorem nw_mL_35 : Cond.methodLink RL 35 yX1_size ∈ nw_T := nw_tq2 gw_b_2_0 22 rfl
theorem nw_mL_38 : Cond.methodLink RL 38 yX1_add ∈ nw_T := nw_tq2 gw_b_2_0 23 rfl
theorem nw_mL_41 : Cond.methodLink RL 41 yX1_subtract ∈ nw_T := nw_tq2 gw_b_2_0 24 rfl
theorem nw_mL_44 : Cond.methodLink RL 44 yX1_multiply ∈ nw_T := nw_tq2 gw_b_2_0 25 rfl
theorem nw_mL_47 : Cond.methodLink RL 47 yX1_power ∈ nw_T := nw_tq2 gw_b_2_0 26 rfl
theorem nw_mL_50 : Cond.methodLink RL 50 yX1_divide ∈ nw_T := nw_tq2 gw_b_2_0 27 rfl
theorem nw_mL_54 : Cond.methodLink RL 54 yX1_share ∈ nw_T := nw_tq2 gw_b_2_0 28 rfl
theorem nw_mL_57 : Cond.methodLink RL 57 yX1_whole ∈ nw_T := nw_tq2 gw_b_2_0 29 rfl
theorem nw_mL_60 : Cond.methodLink RL 60 yX1_rest ∈ nw_T := nw_tq2 gw_b_2_0 30 rfl
theorem nw_mL_63 : Cond.methodLink RL 63 yX1_setPlaces ∈ nw_T := nw_tq2 gw_b_2_0 31 rfl
theorem nw_mL_66 : Cond.methodLink RL 66 yX1_strip ∈ nw_T := nw_tq2 gw_b_2_0 32 rfl
theorem nw_mL_69 : Cond.methodLink RL 69 yX1_move ∈ nw_T := nw_tq2 gw_b_2_0 33 rfl
theorem nw_mL_72 : Cond.methodLink RL 72 yX1_round ∈ nw_T := nw_tq2 gw_b_2_0 34 rfl
theorem nw_mL_75 : Cond.methodLink RL 75 yX1_greater ∈ nw_T := nw_tq2 gw_b_2_0 35 rfl
theorem nw_mL_78 : Cond.methodLink RL 78 yX1_lesser ∈ nw_T := nw_tq3 gw_b_3_0 7 rfl
theorem nw_mL_81 : Cond.methodLink RL 81 yX1_cut ∈ nw_T := nw_tq3 gw_b_3_0 8 rfl
theorem nw_mL_84 : Cond.methodLink RL 84 yX1_count ∈ nw_T := nw_tq3 gw_b_3_0 9 rfl
theorem nw_mL_87 : Cond.methodLink RL 87 yX1_places ∈ nw_T := nw_tq3 gw_b_3_0 10 rfl
theorem nw_mL_90 : Cond.methodLink RL 90 yX1_digits ∈ nw_T := nw_tq3 gw_b_3_0 11 rfl
theorem nw_mL_93 : Cond.methodLink RL 93 yX1_sign ∈ nw_T := nw_tq3 gw_b_3_0 12 rfl
theorem nw_mL_96 : Cond.methodLink RL 96 yX1_text ∈ nw_T := nw_tq3 gw_b_3_0 13 rfl
theorem nw_fL_100 : ne_fln nw_cl RL 100 4 1 "NinewheelLaw" nw_T := ⟨RX2, TX2, 2, rfl, by decide, nw_uX2, by decide +kernel⟩
theorem nw_mL_104 : Cond.methodLink RL 104 yX1_order ∈ nw_T := nw_tq4 gw_b_4_0 14 rfl
theorem nw_mL_107 : Cond.methodLink RL 107 yX1_same ∈ nw_T := nw_tq4 gw_b_4_0 15 rfl
theorem nw_mL_111 : Cond.methodLink RL 111 yX1_setWheel ∈ nw_T := nw_tq4 gw_b_4_0 16 rfl
theorem nw_mL_114 : Cond.methodLink RL 114 yX1_step ∈ nw_T := nw_tq4 gw_b_4_0 17 rfl
theorem nw_mL_117 : Cond.methodLink RL 117 yX1_turn ∈ nw_T := nw_tq4 gw_b_4_0 18 rfl
theorem nw_mL_120 : Cond.methodLink RL 120 yX1_times ∈ nw_T := nw_tq4 gw_b_4_0 19 rfl
theorem nw_mL_123 : Cond.methodLink RL 123 yX1_spoke ∈ nw_T := nw_tq4 gw_b_4_0 20 rfl
theorem nw_mL_126 : Cond.methodLink RL 126 yX1_lowest ∈ nw_T := nw_tq4 gw_b_4_0 21 rfl
theorem nw_mL_129 : Cond.methodLink RL 129 yX1_tens ∈ nw_T := nw_tq4 gw_b_4_0 22 rfl
theorem nw_mL_132 : Cond.methodLink RL 132 yX1_restAt ∈ nw_T := nw_tq4 gw_b_4_0 23 rfl
theorem nw_mL_135 : Cond.methodLink RL 135 yX1_digitsFrom ∈ nw_T := nw_tq4 gw_b_4_0 24 rfl
theorem nw_mL_139 : Cond.methodLink RL 139 yX1_cutText ∈ nw_T := nw_tq4 gw_b_4_0 25 rfl
theorem nw_mL_143 : Cond.methodLink RL 143 yX1_number ∈ nw_T := nw_tq4 gw_b_4_0 26 rfl
theorem nw_mL_147 : Cond.methodLink RL 147 yX1_product ∈ nw_T := nw_tq4 gw_b_4_0 27 rfl
theorem nw_mL_150 : Cond.methodLink RL 150 yX1_partSum ∈ nw_T := nw_tq5 gw_b_5_0 6 rfl
theorem nw_mL_153 : Cond.methodLink RL 153 yX1_nines ∈ nw_T := nw_tq5 gw_b_5_0 7 rfl
theorem nw_mL_156 : Cond.methodLink RL 156 yX1_placeOf ∈ nw_T := nw_tq5 gw_b_5_0 8 rfl
theorem nw_mL_159 : Cond.methodLink RL 159 yX1_wheelOrder ∈ nw_T := nw_tq5 gw_b_5_0 9 rfl
theorem nw_mL_162 : Cond.methodLink RL 162 yX1_against ∈ nw_T := nw_tq5 gw_b_5_0 10 rfl
theorem nw_mL_165 : Cond.methodLink RL 165 yX1_house ∈ nw_T := nw_tq5 gw_b_5_0 11 rfl
theorem nw_mL_168 : Cond.methodLink RL 168 yX1_init ∈ nw_T := nw_tq1 gw_b_1_0 3 rfl
theorem nw_qL_169 : Cond.classLink RL 169 "NinewheelModel" ∈ nw_T := nw_tq5 gw_b_5_0 12 rfl
theorem nw_mL_171 : Cond.methodLink RL 171 yX3_init ∈ nw_T := nw_tq5 gw_b_5_0 13 rfl
theorem nw_mL_173 : Cond.methodLink RL 173 yL_put ∈ nw_T := nw_tq2 gw_b_2_0 36 rfl
theorem nw_mL_178 : Cond.methodLink RL 178 yX3_put ∈ nw_T := nw_tq5 gw_b_5_0 14 rfl
theorem nw_mL_179 : Cond.methodLink RL 179 yL_write ∈ nw_T := nw_tq2 gw_b_2_0 37 rfl
theorem nw_mL_182 : Cond.methodLink RL 182 yX3_write ∈ nw_T := nw_tq5 gw_b_5_0 15 rfl
theorem nw_mL_183 : Cond.methodLink RL 183 yL_copy ∈ nw_T := nw_tq2 gw_b_2_0 38 rfl
theorem nw_mL_186 : Cond.methodLink RL 186 yX3_copy ∈ nw_T := nw_tq5 gw_b_5_0 16 rfl
theorem nw_mL_187 : Cond.methodLink RL 187 yL_negate ∈ nw_T := nw_tq2 gw_b_2_0 39 rfl
theorem nw_mL_190 : Cond.methodLink RL 190 yX3_negate ∈ nw_T := nw_tq5 gw_b_5_0 17 rfl
theorem nw_mL_191 : Cond.methodLink RL 191 yL_size ∈ nw_T := nw_tq2 gw_b_2_0 40 rfl
theorem nw_mL_193 : Cond.methodLink RL 193 yX3_size ∈ nw_T := nw_tq5 gw_b_5_0 18 rfl
theorem nw_mL_194 : Cond.methodLink RL 194 yL_add ∈ nw_T := nw_tq2 gw_b_2_0 41 rfl
theorem nw_mL_196 : Cond.methodLink RL 196 yX3_add ∈ nw_T := nw_tq5 gw_b_5_0 19 rfl
theorem nw_mL_197 : Cond.methodLink RL 197 yL_subtract ∈ nw_T := nw_tq2 gw_b_2_0 42 rfl
theorem nw_mL_199 : Cond.methodLink RL 199 yX3_subtract ∈ nw_T := nw_tq5 gw_b_5_0 20 rfl
theorem nw_mL_200 : Cond.methodLink RL 200 yL_multiply ∈ nw_T := nw_tq2 gw_b_2_0 43 rfl
theorem nw_mL_202 : Cond.methodLink RL 202 yX3_multiply ∈ nw_T := nw_tq5 gw_b_5_0 21 rfl
theorem nw_mL_203 : Cond.methodLink RL 203 yL_power ∈ nw_T := nw_tq2 gw_b_2_0 44 rfl
theorem nw_mL_205 : Cond.methodLink RL 205 yX3_power ∈ nw_T := nw_tq5 gw_b_5_0 22 rfl
theorem nw_mL_206 : Cond.methodLink RL 206 yL_divide ∈ nw_T := nw_tq2 gw_b_2_0 45 rfl
theorem nw_mL_209 : Cond.methodLink RL 209 yX3_divide ∈ nw_T := nw_tq5 gw_b_5_0 23 rfl
theorem nw_mL_210 : Cond.methodLink RL 210 yL_share ∈ nw_T := nw_tq2 gw_b_2_0 46 rfl
theorem nw_mL_212 : Cond.methodLink RL 212 yX3_share ∈ nw_T := nw_tq5 gw_b_5_0 24 rfl
theorem nw_mL_213 : Cond.methodLink RL 213 yL_whole ∈ nw_T := nw_tq2 gw_b_2_0 47 rfl
theorem nw_mL_215 : Cond.methodLink RL 215 yX3_whole ∈ nw_T := nw_tq5 gw_b_5_0 25 rfl
theorem nw_mL_216 : Cond.methodLink RL 216 yL_rest ∈ nw_T := nw_tq2 gw_b_2_0 48 rfl
theorem nw_mL_218 : Cond.methodLink RL 218 yX3_rest ∈ nw_T := nw_tq5 gw_b_5_0 26 rfl
theorem nw_mL_219 : Cond.methodLink RL 219 yL_setPlaces ∈ nw_T := nw_tq2 gw_b_2_0 49 rfl
theorem nw_mL_221 : Cond.methodLink RL 221 yX3_setPlaces ∈ nw_T := nw_tq5 gw_b_5_0 27 rfl
theorem nw_mL_222 : Cond.methodLink RL 222 yL_strip ∈ nw_T := nw_tq2 gw_b_2_0 50 rfl
theorem nw_mL_224 : Cond.methodLink RL 224 yX3_strip ∈ nw_T := nw_tq5 gw_b_5_0 28 rfl
theorem nw_mL_225 : Cond.methodLink RL 225 yL_move ∈ nw_T := nw_tq2 gw_b_2_0 51 rfl
theorem nw_mL_227 : Cond.methodLink RL 227 yX3_move ∈ nw_T := nw_tq5 gw_b_5_0 29 rfl
theorem nw_mL_228 : Cond.methodLink RL 228 yL_round ∈ nw_T := nw_tq2 gw_b_2_0 52 rfl
theorem nw_mL_230 : Cond.methodLink RL 230 yX3_round ∈ nw_T := nw_tq5 gw_b_5_0 30 rfl
theorem nw_mL_231 : Cond.methodLink RL 231 yL_greater ∈ nw_T := nw_tq2 gw_b_2_0 53 rfl
theorem nw_mL_233 : Cond.methodLink RL 233 yX3_greater ∈ nw_T := nw_tq5 gw_b_5_0 31 rfl
theorem nw_mL_234 : Cond.methodLink RL 234 yL_lesser ∈ nw_T := nw_tq3 gw_b_3_0 14 rfl
theorem nw_mL_236 : Cond.methodLink RL 236 yX3_lesser ∈ nw_T := nw_tq5 gw_b_5_0 32 rfl
theorem nw_mL_237 : Cond.methodLink RL 237 yL_cut ∈ nw_T := nw_tq3 gw_b_3_0 15 rfl
theorem nw_mL_239 : Cond.methodLink RL 239 yX3_cut ∈ nw_T := nw_tq5 gw_b_5_0 33 rfl
theorem nw_mL_240 : Cond.methodLink RL 240 yL_count ∈ nw_T := nw_tq3 gw_b_3_0 16 rfl
theorem nw_mL_242 : Cond.methodLink RL 242 yX3_count ∈ nw_T := nw_tq5 gw_b_5_0 34 rfl
theorem nw_mL_243 : Cond.methodLink RL 243 yL_places ∈ nw_T := nw_tq3 gw_b_3_0 17 rfl
theorem nw_mL_245 : Cond.methodLink RL 245 yX3_places ∈ nw_T := nw_tq5 gw_b_5_0 35 rfl
theorem nw_mL_246 : Cond.methodLink RL 246 yL_digits ∈ nw_T := nw_tq3 gw_b_3_0 18 rfl
theorem nw_mL_248 : Cond.methodLink RL 248 yX3_digits ∈ nw_T := nw_tq5 gw_b_5_0 36 rfl
theorem nw_mL_249 : Cond.methodLink RL 249 yL_sign ∈ nw_T := nw_tq3 gw_b_3_0 19 rfl
theorem nw_mL_251 : Cond.methodLink RL 251 yX3_sign ∈ nw_T := nw_tq6 gw_b_6_0 0 rfl
theorem nw_mL_252 : Cond.methodLink RL 252 yL_text ∈ nw_T := nw_tq3 gw_b_3_0 20 rfl
theorem nw_mL_254 : Cond.methodLink RL 254 yX3_text ∈ nw_T := nw_tq6 gw_b_6_0 1 rfl
theorem nw_mL_255 : Cond.methodLink RL 255 yL_order ∈ nw_T := nw_tq4 gw_b_4_0 28 rfl
theorem nw_mL_257 : Cond.methodLink RL 257 yX3_order ∈ nw_T := nw_tq6 gw_b_6_0 2 rfl
theorem nw_mL_258 : Cond.methodLink RL 258 yL_same ∈ nw_T := nw_tq4 gw_b_4_0 29 rfl
theorem nw_mL_260 : Cond.methodLink RL 260 yX3_same ∈ nw_T := nw_tq6 gw_b_6_0 3 rfl
theorem nw_mL_261 : Cond.methodLink RL 261 yL_setWheel ∈ nw_T := nw_tq4 gw_b_4_0 30 rfl
theorem nw_mL_263 : Cond.methodLink RL 263 yX3_setWheel ∈ nw_T := nw_tq6 gw_b_6_0 4 rfl
theorem nw_mL_264 : Cond.methodLink RL 264 yL_step ∈ nw_T := nw_tq4 gw_b_4_0 31 rfl
theorem nw_mL_266 : Cond.methodLink RL 266 yX3_step ∈ nw_T := nw_tq6 gw_b_6_0 5 rfl
theorem nw_mL_267 : Cond.methodLink RL 267 yL_turn ∈ nw_T := nw_tq4 gw_b_4_0 32 rfl
theorem nw_mL_269 : Cond.methodLink RL 269 yX3_turn ∈ nw_T := nw_tq6 gw_b_6_0 6 rfl
theorem nw_mL_270 : Cond.methodLink RL 270 yL_times ∈ nw_T := nw_tq4 gw_b_4_0 33 rfl
theorem nw_mL_272 : Cond.methodLink RL 272 yX3_times ∈ nw_T := nw_tq6 gw_b_6_0 7 rfl
theorem nw_mL_273 : Cond.methodLink RL 273 yL_spoke ∈ nw_T := nw_tq4 gw_b_4_0 34 rfl
theorem nw_mL_275 : Cond.methodLink RL 275 yX3_spoke ∈ nw_T := nw_tq6 gw_b_6_0 8 rfl
theorem nw_mL_276 : Cond.methodLink RL 276 yL_lowest ∈ nw_T := nw_tq4 gw_b_4_0 35 rfl
theorem nw_mL_278 : Cond.methodLink RL 278 yX3_lowest ∈ nw_T := nw_tq6 gw_b_6_0 9 rfl
theorem nw_mL_279 : Cond.methodLink RL 279 yL_tens ∈ nw_T := nw_tq4 gw_b_4_0 36 rfl
theorem nw_mL_281 : Cond.methodLink RL 281 yX3_tens ∈ nw_T := nw_tq6 gw_b_6_0 10 rfl
theorem nw_mL_282 : Cond.methodLink RL 282 yL_restAt ∈ nw_T := nw_tq4 gw_b_4_0 37 rfl
theorem nw_mL_284 : Cond.methodLink RL 284 yX3_restAt ∈ nw_T := nw_tq6 gw_b_6_0 11 rfl
theorem nw_mL_285 : Cond.methodLink RL 285 yL_digitsFrom ∈ nw_T := nw_tq4 gw_b_4_0 38 rfl
theorem nw_mL_287 : Cond.methodLink RL 287 yX3_digitsFrom ∈ nw_T := nw_tq6 gw_b_6_0 12 rfl
theorem nw_mL_288 : Cond.methodLink RL 288 yL_cutText ∈ nw_T := nw_tq4 gw_b_4_0 39 rfl
theorem nw_mL_291 : Cond.methodLink RL 291 yX3_cutText ∈ nw_T := nw_tq6 gw_b_6_0 13 rfl
theorem nw_mL_292 : Cond.methodLink RL 292 yL_number ∈ nw_T := nw_tq4 gw_b_4_0 40 rfl
theorem nw_mL_294 : Cond.methodLink RL 294 yX3_number_ ∈ nw_T := nw_tq6 gw_b_6_0 14 rfl
theorem nw_mL_295 : Cond.methodLink RL 295 yL_product ∈ nw_T := nw_tq4 gw_b_4_0 41 rfl
theorem nw_mL_297 : Cond.methodLink RL 297 yX3_product ∈ nw_T := nw_tq6 gw_b_6_0 15 rfl
theorem nw_mL_298 : Cond.methodLink RL 298 yL_partSum ∈ nw_T := nw_tq5 gw_b_5_0 37 rfl
theorem nw_mL_300 : Cond.methodLink RL 300 yX3_partSum ∈ nw_T := nw_tq6 gw_b_6_0 16 rfl
theorem nw_mL_301 : Cond.methodLink RL 301 yL_nines ∈ nw_T := nw_tq5 gw_b_5_0 38 rfl
theorem nw_mL_303 : Cond.methodLink RL 303 yX3_nines ∈ nw_T := nw_tq6 gw_b_6_0 17 rfl
theorem nw_mL_304 : Cond.methodLink RL 304 yL_placeOf ∈ nw_T := nw_tq5 gw_b_5_0 39 rfl
theorem nw_mL_306 : Cond.methodLink RL 306 yX3_placeOf ∈ nw_T := nw_tq6 gw_b_6_0 18 rfl
theorem nw_mL_307 : Cond.methodLink RL 307 yL_wheelOrder ∈ nw_T := nw_tq5 gw_b_5_0 40 rfl
theorem nw_mL_309 : Cond.methodLink RL 309 yX3_wheelOrder ∈ nw_T := nw_tq6 gw_b_6_0 19 rfl
theorem nw_mL_310 : Cond.methodLink RL 310 yL_against ∈ nw_T := nw_tq5 gw_b_5_0 41 rfl
theorem nw_mL_312 : Cond.methodLink RL 312 yX3_against ∈ nw_T := nw_tq6 gw_b_6_0 20 rfl
theorem nw_mL_313 : Cond.methodLink RL 313 yL_house ∈ nw_T := nw_tq5 gw_b_5_0 42 rfl
theorem nw_mL_315 : Cond.methodLink RL 315 yX3_house ∈ nw_T := nw_tq6 gw_b_6_0 21 rfl
theorem nw_mL_316 : Cond.methodLink RL 316 yX3_thrown ∈ nw_T := nw_tq5 gw_b_5_0 43 rfl
theorem nw_mL_320 : Cond.methodLink RL 320 yX1_knock ∈ nw_T := nw_tq1 gw_b_1_0 4 rfl
theorem nw_mL_323 : Cond.methodLink RL 323 yX3_knock ∈ nw_T := nw_tq6 gw_b_6_0 22 rfl
theorem nw_mL_324 : Cond.methodLink RL 324 yX1_isSound ∈ nw_T := nw_tq1 gw_b_1_0 5 rfl
theorem nw_mL_328 : Cond.methodLink RL 328 yX3_isSound ∈ nw_T := nw_tq6 gw_b_6_0 23 rfl
theorem nw_mL_329 : Cond.methodLink RL 329 yX1_digest ∈ nw_T := nw_tq1 gw_b_1_0 6 rfl
theorem nw_mL_333 : Cond.methodLink RL 333 yX3_digest ∈ nw_T := nw_tq6 gw_b_6_0 24 rfl
theorem nw_qL_19 : Cond.classLink RL 19 "java/lang/IndexOutOfBoundsException" ∈ nw_T := nw_tq2 gw_b_2_0 54 rfl
theorem nw_qL_21 : Cond.classLink RL 21 "java/lang/IllegalArgumentException" ∈ nw_T := nw_tq2 gw_b_2_0 55 rfl
theorem nw_nL_8 : ne_nl nw_cl RL 8 3 9 [.null, .null, .null, .null, .null, .null, .null, .null, .null] nw_T := ⟨RX1, TX1, tyX1, rfl, nw_uX1, tyX1_ok, (fun j hj => by rcases (show j = 0 ∨ j = 1 ∨ j = 2 ∨ j = 3 ∨ j = 4 ∨ j = 5 ∨ j = 6 ∨ j = 7 ∨ j = 8 by omega) with rfl | rfl | rfl | rfl | rfl | rfl | rfl | rfl | rfl <;> rfl), nw_qL_8, nw_tm 79 (by decide +kernel) (by decide +kernel), nw_tm 57 (by decide +kernel) (by decide +kernel), fun _ => rfl⟩
theorem nw_nL_14 : ne_nl nw_cl RL 14 4 2 [nl 0, .null] nw_T := ⟨RX2, TX2, tyX2, rfl, nw_uX2, tyX2_ok, (fun j hj => by rcases (show j = 0 ∨ j = 1 by omega) with rfl | rfl <;> rfl), nw_qL_14, nw_tm 285 (by decide +kernel) (by decide +kernel), nw_tm 60 (by decide +kernel) (by decide +kernel), fun _ => rfl⟩
theorem nw_nL_169 : ne_nl nw_cl RL 169 5 7 [.null, .null, .null, .null, .null, .null, ni 0] nw_T := ⟨RX3, TX3, tyX3, rfl, nw_uX3, tyX3_ok, (fun j hj => by rcases (show j = 0 ∨ j = 1 ∨ j = 2 ∨ j = 3 ∨ j = 4 ∨ j = 5 ∨ j = 6 by omega) with rfl | rfl | rfl | rfl | rfl | rfl | rfl <;> rfl), nw_qL_169, nw_tm 1064 (by decide +kernel) (by decide +kernel), nw_tm 59 (by decide +kernel) (by decide +kernel), fun _ => rfl⟩
section NEW
variable {cl : List vw_C} {D : va_G} {ct : Nat → ClassId} {A : Nat → Prop} {n0 : Nat} {ad0 : Nat → Nat} {p : Program} {l : Launch} {e : Env} {R : Room} {s : State} {m : MethodId} {args : Array Value} {below : List Frame} {meth : Method} {c : Code} {Q : State → Prop} {own : String} {cc : ByteArray} {nL : Nat} {Ts : List Cond} {fr lo mc ms C S pc : Nat} {L : List (Option Value)} {st : List Value} {ws : ne_W}
theorem ne_callSFW {hh : List (Nat × Nat × Nat × Nat)} {y : MethodName} {bytes : ByteArray} {maxL n ix fr1 lo1 mc1 ms1 : Nat} {ret : Option FieldType} {as st1 : List Value} {is : List Nat} {wc : ne_W} {post : Option Value → ne_W → Prop} {px : String → ne_W → Prop} (X : ne_F cl D ct A p l R s m args meth c own cc nL Ts fr lo mc ms) (hg : ∀ w ∈ Ts, goodWord w = true) (hM : ne_M l cl (.codeWith y bytes maxL ret hh) Ts y fr1 lo1 mc1 ms1 as wc post px) (hy : ne_cy y (.codeWith y bytes maxL ret hh) n Ts) (hw1 : Cond.methodLink own ix y ∈ Ts) (hw2 : Cond.static y ∈ Ts) (hdg : decode cc pc = .ok (.invokestatic ix, 3)) (hst : st1 = (as.map (ne_rn is ws.length)).reverse ++ st) (hlen : as.length = n) (hfr : fr1 + 1 ≤ fr) (hlo : 8 + (maxL + 11) + lo1 ≤ lo) (hC : mc1 ≤ C) (hS : ms1 ≤ S) (hn0 : n0 ≤ ws.length) (hw : ne_cw ws.length ws = true) (hl : ne_cl ws.length L = true) (hs : ne_cs ws.length st = true) (hcat : (st.map fun v => v.category).sum ≤ 8) (hp : ne_pt ws is wc) (kk : ∀ (v : Option Value) (ws1 : ne_W), post v ws1 → ne_G cl D ct A n0 ad0 p l e R s m args below meth c Q nL mc ms (C - mc1) (S - ms1) (pc + 3) L ((v.map (ne_rn is ws.length)).toList ++ st) (ne_mg ws is ws1)) (kx : ∀ (E : String) (ws1 : ne_W), px E ws1 → ne_T cl D ct A n0 ad0 p l e R s m args below meth c Q nL mc ms (C - mc1) (S - ms1) pc L E (ne_mg ws is ws1)) : ne_G cl D ct A n0 ad0 p l e R s m args below meth c Q nL mc ms C S pc L st1 ws := fun H locs cells slots ad ls h1 h2 h3 h4 h5 h6 h7 => by
  subst hst
  have e8 : ∀ z : List Value, z.map (fun v => ne_v ad (ne_rn is ws.length v)) = z.map (ne_v (ne_ac is ws.length ad)) := fun z => List.map_congr_left fun v _ => (ne_ac_v v).symm
  have e9 : ((as.map (ne_rn is ws.length)).reverse ++ st).map (ne_v ad) = (as.map (ne_v (ne_ac is ws.length ad))).reverse ++ st.map (ne_v ad) := by
    rw [← e8]
    simp [List.map_append, List.map_reverse, ne_v, ne_ac, Function.comp_def]
  rw [e9]
  have hF := ne_preF (av := as.map (ne_v (ne_ac is ws.length ad))) X hp h4 h5 h6
  have cw := vx_cwSW (R := R) (s := s) (args := args) (own := own) (index := ix) (y := y) (bytes := bytes) (maxL := maxL) (mc := mc1) (ms := ms1) (ret := ret) (hh := hh) (Ts := Ts) (ws := .codeWith y bytes maxL ret hh :: Ts) (ws' := Ts) (rm := { frames := fr1, cells := mc1, slots := ms1, locals := lo1 }) n X.1.2.2.2.2 (ne_gi hg (fun w hw => by
    unfold va_wsS at hw
    simp only [List.cons_append, List.nil_append, List.mem_cons] at hw
    rcases hw with rfl | rfl | rfl | rfl | hw
    · exact hw1
    · exact hw2
    · exact hy.2.1
    · exact hy.1
    · exact hw)) rfl rfl rfl ⟨hy.2.2.1, hy.2.2.2.1, hy.2.2.2.2⟩ ⟨Nat.le_trans hfr X.2.2.2.1, Nat.le_trans hlo X.2.2.2.2.1⟩
  exact ne_afterF X hp hF.1 (vx_runSX (As := as.map (ne_v (ne_ac is ws.length ad))) (rest := st.map (ne_v ad)) X.1 (hM D ct (ne_ac is ws.length ad) H.size) cw hF.2.2 rfl (by rw [List.length_map]; exact hlen) h7.1 rfl (by show 2 * 0 + _ ≤ 8; rw [ne_mcat]; omega) hdg ⟨by have := X.2.2.2.2.2.1; omega, by have := X.2.2.2.2.2.2.1; omega⟩) h1 h2 h3 h4 h5 h6 h7 hC hS hn0 hw hl hs kk kx
theorem ne_meetW {hh : List (Nat × Nat × Nat × Nat)} {cl : List vw_C} {l : Launch} {y : MethodName} {own : String} {bytes : ByteArray} {maxL fr lo mc ms : Nat} {ret : Option FieldType} {Ts : List Cond} {as : List Value} {ws : ne_W} {post : Option Value → ne_W → Prop} {px : String → ne_W → Prop} (hl : l.stackTraces = false) (ho : y.cls = own) (hy : plainName y.cls = true) (hlen : (ne_a as).length ≤ maxL)
    (body : ∀ (D : va_G) (ct : Nat → ClassId) (A : Nat → Prop) (p : Program) (e : Env) (R : Room) (s : State) (m : MethodId) (args : Array Value) (below : List Frame) (meth : Method) (c : Code) (ad0 : Nat → Nat), ne_F cl D ct A p l R s m args meth c own bytes maxL Ts fr lo mc ms → meth.sig.returnType = ret → meth.name = y.name → c.exceptionTable.toList = tableOf hh →
      ne_G cl D ct A ws.length ad0 p l e R s m args below meth c (ne_O cl D ct ad0 ws.length A below args s mc ms post px) maxL mc ms mc ms 0 (ne_a as ++ List.replicate (maxL - (ne_a as).length) none) [] ws) : ne_M l cl (.codeWith y bytes maxL ret hh) Ts y fr lo mc ms as ws post px := by
  intro D ct ad sz
  refine vx_ofWH (hh := hh) (cc := bytes) (maxL := maxL) (ret := ret) (ws' := Ts) hy rfl ?_
  intro p e s m args below meth c s₁ B hml hv
  obtain ⟨rfl, hsz, hP, hK, hD0, hZ⟩ := hv
  subst hsz
  have hts := atoms_spec (ws := Cond.codeWith y bytes maxL ret hh :: Ts) B.pre
  have ht : c.exceptionTable.toList = tableOf hh := vx_table (x := y) B (hts _ List.mem_cons_self)
  have hown : s.vm.findClass own = some m.cls := by rw [← ho]; exact findClass_of_methodNamed B.named
  have hD := hD0.self (sz := s.heap.size)
  have hin : meth.name = y.name := (name_of_methodNamed B.named B.method).1
  have hlsl : ∀ vs : List Value, (lg_sl (vs.map (ne_v ad))).length = (ne_a vs).length := by
    intro vs
    induction vs with
    | nil => rfl
    | cons v t ih =>
      have e9 : ∀ (w : Value) (t' : List Value), lg_sl (w :: t') = (if w.category = 2 then [Slot.val w, Slot.second] else [Slot.val w]) ++ lg_sl t' := fun w t' => by simp [lg_sl]
      rw [ne_a, List.map_cons, e9, List.length_append, ih, ne_v_cat]
      by_cases h : v.category = 2
      · rw [if_pos h, if_pos h]; simp only [List.length_cons, List.length_nil]; omega
      · rw [if_neg h, if_neg h]; simp only [List.length_cons, List.length_nil]; omega
  have h9 := lv_entry (as.map (ne_v ad)) (n := maxL) (by rw [hlsl]; exact hlen)
  rw [lg_entry_eq]
  refine body D ct (va_A (ne_w ct ad 0 ws) s.heap.size) p e _ s m _ below meth c ad ⟨⟨B.exec, B.bytes, hml, hown, fun w hw => hts w (List.mem_cons_of_mem _ hw)⟩, hK, fun q hq => Or.inr hq, Nat.le_refl _, Nat.le_refl _, Nat.le_refl _, Nat.le_refl _, hZ, B.notSynchronized, hl⟩ B.returns hin ht s.heap [] 0 0 ad _ (fun _ _ => rfl) (by omega) (by omega) hP hD va_S.rf ?_
  rw [ne_l_pad, ne_a_args]
  exact h9
/-- caught here: the thrown object is a place of its own, without a cell -/
theorem ne_catch {E name : String} {pre suf : List ExceptionTableEntry} {x : ExceptionTableEntry} (X : ne_F cl D ct A p l R s m args meth c own cc nL Ts fr lo mc ms) (ht : c.exceptionTable.toList = pre ++ x :: suf) (hpass : ∀ z ∈ pre, covers z pc = false ∨ (z.catchType ≠ 0 ∧ ∃ nm : String, Cond.classLink own z.catchType nm ∈ Ts ∧ (E, nm) ∈ ne_cb)) (hx : covers x pc = true) (h0 : x.catchType ≠ 0) (hlink : Cond.classLink own x.catchType name ∈ Ts) (hcast : (E, name) ∈ ne_ca) (hn0 : n0 ≤ ws.length) (hw : ne_cw ws.length ws = true) (hl : ne_cl ws.length L = true) (kk : ne_G cl D ct A n0 ad0 p l e R s m args below meth c Q nL mc ms C S x.handlerPc L [.ref ws.length] (ws ++ [none])) : ne_T cl D ct A n0 ad0 p l e R s m args below meth c Q nL mc ms C S pc L E ws := fun H locs cells slots ad ls rest q ce h1 h2 h3 h4 h5 h6 h7 h8 h9 h10 => by
  have hag : ∀ k, k < ws.length → ne_up ad ws.length q k = ad k := fun k hk => ne_up_lt hk
  have hN := X.2.2.2.2.2.2.2.1.2.2.2.2
  refine vx_catch (own := own) (name := name) X.1.2.2.2.1 pre x suf ht (fun z hz => (hpass z hz).imp_right fun ⟨g0, nm, g1, g2⟩ => ⟨g0, nm, X.1.2.2.2.2 _ g1, hN.2.2.2.1 _ g2⟩) hx h0 (X.1.2.2.2.2 _ hlink) ((hN.2.2.1 _ hcast).use rfl) h8 h9 h10 ?_
  have k9 := kk H locs cells slots (ne_up ad ws.length q) ls (fun k hk => (hag k (by omega)).trans (h1 k hk)) h2 h3 (by rw [ne_w_appN, ne_w_eq hag hw (by omega)]; exact h4) (by rw [ne_w_appN, ne_w_eq hag hw (by omega)]; exact h5) h6 (by rw [ne_l_eq hag hl]; exact h7)
  have e3 : List.map (ne_v (ne_up ad ws.length q)) [.ref ws.length] = [.ref q] := by simp only [List.map, ne_v, ne_up_self]
  rw [e3] at k9
  exact k9
/-- a place without a cell -/
theorem ne_addN (hn0 : n0 ≤ ws.length) (hw : ne_cw ws.length ws = true) (hl : ne_cl ws.length L = true) (hs : ne_cs ws.length st = true) (kk : ne_G cl D ct A n0 ad0 p l e R s m args below meth c Q nL mc ms C S pc L st (ws ++ [none])) : ne_G cl D ct A n0 ad0 p l e R s m args below meth c Q nL mc ms C S pc L st ws := fun H locs cells slots ad ls h1 h2 h3 h4 h5 h6 h7 => by
  have hag : ∀ k, k < ws.length → ne_up ad ws.length 0 k = ad k := fun k hk => ne_up_lt hk
  have k9 := kk H locs cells slots (ne_up ad ws.length 0) ls (fun k hk => (hag k (by omega)).trans (h1 k hk)) h2 h3 (by rw [ne_w_appN, ne_w_eq hag hw (by omega)]; exact h4) (by rw [ne_w_appN, ne_w_eq hag hw (by omega)]; exact h5) h6 (by rw [ne_l_eq hag hl]; exact h7)
  rw [ne_s_eq hag hs] at k9
  exact k9
/-- the law's script, at the place 0 -/
theorem ne_slen {b N : Nat} {xs : Nat → Int32} (X : ne_F cl D ct A p l R s m args meth c own cc nL Ts fr lo mc ms) (hX : va_X b N xs s s.heap) (hbl : b < s.heap.size) (hbA : ¬ A b) (hb0 : ad0 0 = b) (hn1 : 0 < n0) (hdg : decode cc pc = .ok (.arraylength, 1)) (kk : ne_G cl D ct A n0 ad0 p l e R s m args below meth c Q nL mc ms C S (pc + 1) L (ni (N : Int) :: st) ws) : ne_G cl D ct A n0 ad0 p l e R s m args below meth c Q nL mc ms C S pc L (.ref 0 :: st) ws := fun H locs cells slots ad ls h1 h2 h3 h4 h5 h6 h7 => by
  have k9 := kk H locs cells slots ad ls h1 h2 h3 h4 h5 h6 h7
  have e0 : ad 0 = b := (h1 0 hn1).trans hb0
  show W p l e R s m args below meth c H locs cells slots Q (F0 m pc ls (.ref (ad 0) :: st.map (ne_v ad)))
  rw [e0]
  exact va_slen X.1.1 X.1.2.1 hX hbl hbA h6 hdg k9
theorem ne_sld {b N : Nat} {xs : Nat → Int32} {i : Int} (X : ne_F cl D ct A p l R s m args meth c own cc nL Ts fr lo mc ms) (hX : va_X b N xs s s.heap) (hbl : b < s.heap.size) (hbA : ¬ A b) (hb0 : ad0 0 = b) (hn1 : 0 < n0) (hi : 0 ≤ i ∧ i < N ∧ i < 2147483648) (hdg : decode cc pc = .ok (.iaload, 1)) (kk : ∀ z : Int, z = (xs (Int32.ofInt i).toNatClampNeg).toInt → -2147483648 ≤ z → z < 2147483648 → ne_G cl D ct A n0 ad0 p l e R s m args below meth c Q nL mc ms C S (pc + 1) L (ni z :: st) ws) : ne_G cl D ct A n0 ad0 p l e R s m args below meth c Q nL mc ms C S pc L (ni i :: .ref 0 :: st) ws := fun H locs cells slots ad ls h1 h2 h3 h4 h5 h6 h7 => by
  have g1 := Int32.le_toInt (xs (Int32.ofInt i).toNatClampNeg)
  have g2 := Int32.toInt_lt (xs (Int32.ofInt i).toNatClampNeg)
  have k9 := kk (xs (Int32.ofInt i).toNatClampNeg).toInt rfl (by omega) (by omega) H locs cells slots ad ls h1 h2 h3 h4 h5 h6 h7
  have e0 : ad 0 = b := (h1 0 hn1).trans hb0
  have e2 : (ni (xs (Int32.ofInt i).toNatClampNeg).toInt) = Value.int (xs (Int32.ofInt i).toNatClampNeg) := by
    show Value.int (Int32.ofInt _) = _
    rw [Int32.ofInt_toInt]
  show W p l e R s m args below meth c H locs cells slots Q (F0 m pc ls (.int (Int32.ofInt i) :: .ref (ad 0) :: st.map (ne_v ad)))
  rw [e0]
  refine va_sld X.1.1 X.1.2.1 hX hbl hbA h6 (ne_in hi.1 hi.2.1 hi.2.2).1 hdg ?_
  rw [e2] at k9
  exact k9
theorem ne_and63 {x : Int} (X : ne_F cl D ct A p l R s m args meth c own cc nL Ts fr lo mc ms) (hdg : decode cc pc = .ok (.iand, 1)) (kk : ∀ z : Int, 0 ≤ z → z ≤ 63 → ne_G cl D ct A n0 ad0 p l e R s m args below meth c Q nL mc ms C S (pc + 1) L (ni z :: st) ws) : ne_G cl D ct A n0 ad0 p l e R s m args below meth c Q nL mc ms C S pc L (ni 63 :: ni x :: st) ws := fun H locs cells slots ad ls h1 h2 h3 h4 h5 h6 h7 => by
  have hb : (Int32.ofInt x &&& Int32.ofInt 63).toBitVec.toNat ≤ 63 := by
    rw [Int32.toBitVec_and, BitVec.toNat_and]
    exact Nat.le_trans Nat.and_le_right (by decide)
  have h9 : (Int32.ofInt x &&& Int32.ofInt 63).toInt = ((Int32.ofInt x &&& Int32.ofInt 63).toBitVec.toNat : Int) := by
    rw [← Int32.toInt_toBitVec, BitVec.toInt_eq_toNat_of_lt (by omega)]
  have k9 := kk (Int32.ofInt x &&& Int32.ofInt 63).toInt (by omega) (by omega) H locs cells slots ad ls h1 h2 h3 h4 h5 h6 h7
  have e2 : ni (Int32.ofInt x &&& Int32.ofInt 63).toInt = Value.int (Int32.ofInt x &&& Int32.ofInt 63) := by
    show Value.int (Int32.ofInt _) = _
    rw [Int32.ofInt_toInt]
  rw [e2] at k9
  exact lv_iand X.1.1 X.1.2.1 hdg k9
end NEW
