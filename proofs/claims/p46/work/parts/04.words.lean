abbrev nw_cl : List vw_C := [(RJ0, TJ0, 4), (RJ4, TJ4, 4), (RX0, TX0, 1), (RX1, TX1, 9), (RX2, TX2, 2), (RX3, TX3, 7)]
/-- the tables' words that last -/
def nw_ex : List Cond := [.selects RJ4 yJ5_ensureCapacityInternal_d00df yJ5_ensureCapacityInternal_d00df, .selects RJ4 yJ5_newCapacity_0f7a4 yJ5_newCapacity_0f7a4]
def nw_T : List Cond := nw_ex ++ lw_tbl.filter goodWord
theorem nw_Tg : ∀ w ∈ nw_T, goodWord w = true := fun w h => (List.mem_append.mp h).elim (fun h => List.all_eq_true.mp (by decide +kernel : nw_ex.all goodWord = true) w h) (fun h => (List.mem_filter.mp h).2)
theorem nw_tf {w : Cond} (h : w ∈ lw_tbl) (g : goodWord w = true) : w ∈ nw_T := List.mem_append_right _ (List.mem_filter.mpr ⟨h, g⟩)
theorem nw_tm (i : Nat) {w : Cond} (h : lw_tbl[i]? = some w) (g : goodWord w = true) : w ∈ nw_T := nw_tf (List.mem_of_getElem? h) g
theorem nw_uJ0 : ∀ w ∈ u_ws RJ0 TJ0 4, w ∈ nw_T := by
  have h : (u_ws RJ0 TJ0 4).all (fun w => decide (w ∈ lw_tbl) && goodWord w) = true := by decide +kernel
  intro w hw
  have h1 := List.all_eq_true.mp h w hw
  simp only [Bool.and_eq_true, decide_eq_true_eq] at h1
  exact nw_tf h1.1 h1.2
theorem nw_uJ4 : ∀ w ∈ u_ws RJ4 TJ4 4, w ∈ nw_T := by
  have h : (u_ws RJ4 TJ4 4).all (fun w => decide (w ∈ lw_tbl) && goodWord w) = true := by decide +kernel
  intro w hw
  have h1 := List.all_eq_true.mp h w hw
  simp only [Bool.and_eq_true, decide_eq_true_eq] at h1
  exact nw_tf h1.1 h1.2
theorem nw_uX0 : ∀ w ∈ u_ws RX0 TX0 1, w ∈ nw_T := by
  have h : (u_ws RX0 TX0 1).all (fun w => decide (w ∈ lw_tbl) && goodWord w) = true := by decide +kernel
  intro w hw
  have h1 := List.all_eq_true.mp h w hw
  simp only [Bool.and_eq_true, decide_eq_true_eq] at h1
  exact nw_tf h1.1 h1.2
theorem nw_uX1 : ∀ w ∈ u_ws RX1 TX1 9, w ∈ nw_T := by
  have h : (u_ws RX1 TX1 9).all (fun w => decide (w ∈ lw_tbl) && goodWord w) = true := by decide +kernel
  intro w hw
  have h1 := List.all_eq_true.mp h w hw
  simp only [Bool.and_eq_true, decide_eq_true_eq] at h1
  exact nw_tf h1.1 h1.2
theorem nw_uX2 : ∀ w ∈ u_ws RX2 TX2 2, w ∈ nw_T := by
  have h : (u_ws RX2 TX2 2).all (fun w => decide (w ∈ lw_tbl) && goodWord w) = true := by decide +kernel
  intro w hw
  have h1 := List.all_eq_true.mp h w hw
  simp only [Bool.and_eq_true, decide_eq_true_eq] at h1
  exact nw_tf h1.1 h1.2
theorem nw_uX3 : ∀ w ∈ u_ws RX3 TX3 7, w ∈ nw_T := by
  have h : (u_ws RX3 TX3 7).all (fun w => decide (w ∈ lw_tbl) && goodWord w) = true := by decide +kernel
  intro w hw
  have h1 := List.all_eq_true.mp h w hw
  simp only [Bool.and_eq_true, decide_eq_true_eq] at h1
  exact nw_tf h1.1 h1.2
theorem nw_tq {L : List (Nat × Cond)} (h : ∀ q ∈ L, lw_tbl[q.1]? = some q.2 ∧ goodWord q.2 = true) (k : Nat) {i : Nat} {w : Cond} (hk : L[k]? = some (i, w)) : w ∈ nw_T := nw_tm i (h (i, w) (List.mem_of_getElem? hk)).1 (h (i, w) (List.mem_of_getElem? hk)).2
theorem nw_ms1 {w : Cond} (h : w ∈ tables_1_1) : w ∈ lw_tbl := List.mem_append_right _ (List.mem_append_left _ h)
theorem nw_tq1 {L : List (Nat × Cond)} (h : ∀ q ∈ L, tables_1_1[q.1]? = some q.2 ∧ goodWord q.2 = true) (k : Nat) {i : Nat} {w : Cond} (hk : L[k]? = some (i, w)) : w ∈ nw_T := nw_tf (nw_ms1 (List.mem_of_getElem? (h (i, w) (List.mem_of_getElem? hk)).1)) (h (i, w) (List.mem_of_getElem? hk)).2
theorem nw_ms2 {w : Cond} (h : w ∈ tables_1_2) : w ∈ lw_tbl := List.mem_append_right _ (List.mem_append_right _ (List.mem_append_left _ h))
theorem nw_tq2 {L : List (Nat × Cond)} (h : ∀ q ∈ L, tables_1_2[q.1]? = some q.2 ∧ goodWord q.2 = true) (k : Nat) {i : Nat} {w : Cond} (hk : L[k]? = some (i, w)) : w ∈ nw_T := nw_tf (nw_ms2 (List.mem_of_getElem? (h (i, w) (List.mem_of_getElem? hk)).1)) (h (i, w) (List.mem_of_getElem? hk)).2
theorem nw_ms3 {w : Cond} (h : w ∈ tables_1_3) : w ∈ lw_tbl := List.mem_append_right _ (List.mem_append_right _ (List.mem_append_right _ (List.mem_append_left _ h)))
theorem nw_tq3 {L : List (Nat × Cond)} (h : ∀ q ∈ L, tables_1_3[q.1]? = some q.2 ∧ goodWord q.2 = true) (k : Nat) {i : Nat} {w : Cond} (hk : L[k]? = some (i, w)) : w ∈ nw_T := nw_tf (nw_ms3 (List.mem_of_getElem? (h (i, w) (List.mem_of_getElem? hk)).1)) (h (i, w) (List.mem_of_getElem? hk)).2
theorem nw_ms4 {w : Cond} (h : w ∈ tables_1_4) : w ∈ lw_tbl := List.mem_append_right _ (List.mem_append_right _ (List.mem_append_right _ (List.mem_append_right _ (List.mem_append_left _ h))))
theorem nw_tq4 {L : List (Nat × Cond)} (h : ∀ q ∈ L, tables_1_4[q.1]? = some q.2 ∧ goodWord q.2 = true) (k : Nat) {i : Nat} {w : Cond} (hk : L[k]? = some (i, w)) : w ∈ nw_T := nw_tf (nw_ms4 (List.mem_of_getElem? (h (i, w) (List.mem_of_getElem? hk)).1)) (h (i, w) (List.mem_of_getElem? hk)).2
theorem nw_ms5 {w : Cond} (h : w ∈ tables_1_5) : w ∈ lw_tbl := List.mem_append_right _ (List.mem_append_right _ (List.mem_append_right _ (List.mem_append_right _ (List.mem_append_right _ (List.mem_append_left _ h)))))
theorem nw_tq5 {L : List (Nat × Cond)} (h : ∀ q ∈ L, tables_1_5[q.1]? = some q.2 ∧ goodWord q.2 = true) (k : Nat) {i : Nat} {w : Cond} (hk : L[k]? = some (i, w)) : w ∈ nw_T := nw_tf (nw_ms5 (List.mem_of_getElem? (h (i, w) (List.mem_of_getElem? hk)).1)) (h (i, w) (List.mem_of_getElem? hk)).2
theorem nw_ms6 {w : Cond} (h : w ∈ tables_1_6) : w ∈ lw_tbl := List.mem_append_right _ (List.mem_append_right _ (List.mem_append_right _ (List.mem_append_right _ (List.mem_append_right _ (List.mem_append_right _ h)))))
theorem nw_tq6 {L : List (Nat × Cond)} (h : ∀ q ∈ L, tables_1_6[q.1]? = some q.2 ∧ goodWord q.2 = true) (k : Nat) {i : Nat} {w : Cond} (hk : L[k]? = some (i, w)) : w ∈ nw_T := nw_tf (nw_ms6 (List.mem_of_getElem? (h (i, w) (List.mem_of_getElem? hk)).1)) (h (i, w) (List.mem_of_getElem? hk)).2
def gwl_a_0_0 : List (Nat × Cond) := [(26, Cond.selects RX1 yX1_bring yX1_bring), (28, Cond.selects RX1 yX1_bringAt yX1_bringAt), (27, Cond.selects RX1 yX1_decline yX1_decline), (1, Cond.selects RX1 yX1_countAt yX1_countAt), (2, Cond.selects RX1 yX1_orderOfCells yX1_orderOfCells), (3, Cond.selects RX1 yX1_areSame yX1_areSame), (13, Cond.selects RX1 yX1_cutCount yX1_cutCount), (18, Cond.selects RX1 yX1_restOfPlace yX1_restOfPlace), (29, Cond.selects RX1 yX1_bringWheel yX1_bringWheel), (30, Cond.selects RX1 yX1_turnBy yX1_turnBy), (17, Cond.selects RX1 yX1_spokeOf yX1_spokeOf), (31, Cond.selects RX1 yX1_digitText yX1_digitText), (24, Cond.selects RX1 yX1_orderOfWheels yX1_orderOfWheels), (23, Cond.selects RX1 yX1_orderAgainst yX1_orderAgainst), (6, Cond.selects RX1 yX1_workOutProduct yX1_workOutProduct), (20, Cond.selects RX1 yX1_hasParts yX1_hasParts), (21, Cond.selects RX1 yX1_partLength yX1_partLength), (22, Cond.selects RX1 yX1_workOutPartSum yX1_workOutPartSum), (19, Cond.selects RX1 yX1_ninesOf yX1_ninesOf), (0, Cond.selects RX1 yX1_isCellSoundWithAll yX1_isCellSoundWithAll), (4, Cond.selects RX1 yX1_isLengthSound yX1_isLengthSound), (5, Cond.selects RX1 yX1_isProductSound yX1_isProductSound), (12, Cond.selects RX1 yX1_isCutSound yX1_isCutSound), (14, Cond.selects RX1 yX1_digestOfCells yX1_digestOfCells), (15, Cond.selects RX1 yX1_digestOfWheels yX1_digestOfWheels), (16, Cond.selects RX1 yX1_digestOfWheel yX1_digestOfWheel), (33, Cond.selects RX3 yX3_refuse yX3_refuse), (35, Cond.selects RX3 yX3_nay yX3_nay), (34, Cond.selects RX3 yX3_come yX3_come), (38, Cond.selects RX3 yX3_units yX3_units), (37, Cond.selects RX3 yX3_most yX3_most), (40, Cond.selects RX3 yX3_ordered yX3_ordered), (36, Cond.selects RX3 yX3_areNoCells yX3_areNoCells), (39, Cond.selects RX3 yX3_wholeOf yX3_wholeOf), (41, Cond.selects RX3 yX3_cutOf yX3_cutOf), (42, Cond.selects RX3 yX3_areSame yX3_areSame), (44, Cond.selects RX3 yX3_lengthOf_ yX3_lengthOf_), (43, Cond.selects RX3 yX3_set yX3_set), (45, Cond.selects RX3 yX3_spokeOf yX3_spokeOf), (46, Cond.selects RX3 yX3_row yX3_row), (47, Cond.selects RX3 yX3_timesBottom yX3_timesBottom), (48, Cond.selects RX3 yX3_sumOf yX3_sumOf), (49, Cond.selects RX3 yX3_ninesOf yX3_ninesOf), (50, Cond.selects RX3 yX3_wheelsOrdered yX3_wheelsOrdered), (51, Cond.selects RX3 yX3_heldAgainst yX3_heldAgainst), (53, Cond.selects RX3 yX3_isSoundPair yX3_isSoundPair), (55, Cond.selects RX3 yX3_allNines yX3_allNines), (54, Cond.selects RX3 yX3_isSoundWheel yX3_isSoundWheel), (52, Cond.selects RX3 yX3_isWhole yX3_isWhole), (7, Cond.selects RX0 yX0_clear yX0_clear), (8, Cond.selects RX0 yX0_raise yX0_raise), (9, Cond.selects RX0 yX0_carry yX0_carry), (10, Cond.selects RX0 yX0_becomeNines yX0_becomeNines), (11, Cond.selects RX0 yX0_isLike yX0_isLike), (32, Cond.selects RX0 yX0_written yX0_written)]
theorem gw_a_0_0 : ∀ q ∈ gwl_a_0_0, lw_tbl[q.1]? = some q.2 ∧ goodWord q.2 = true := by decide +kernel
def gwl_a_1_0 : List (Nat × Cond) := [(1, Cond.initialized RX1), (25, Cond.instanceMethod yX1_init), (70, Cond.instanceMethod yX1_knock), (71, Cond.selects RX1 yX1_knock yX1_knock), (74, Cond.instanceMethod yX1_isSound), (75, Cond.selects RX1 yX1_isSound yX1_isSound), (172, Cond.instanceMethod yX1_digest), (173, Cond.selects RX1 yX1_digest yX1_digest), (78, Cond.static yX1_fits), (91, Cond.instanceMethod yX1_countAt), (99, Cond.instanceMethod yX1_orderOfCells), (106, Cond.instanceMethod yX1_areSame), (102, Cond.static yX1_signOf), (94, Cond.static yX1_tenTo), (185, Cond.static yX1_digitsIn), (161, Cond.static yX1_rounded), (169, Cond.static yX1_isFartherTaken), (158, Cond.instanceMethod yX1_cutCount), (116, Cond.static yX1_leftover), (113, Cond.static yX1_restAfter), (131, Cond.static yX1_digitAfter), (201, Cond.instanceMethod yX1_restOfPlace), (197, Cond.instanceMethod yX1_spokeOf), (225, Cond.instanceMethod yX1_orderOfWheels), (221, Cond.instanceMethod yX1_orderAgainst), (124, Cond.instanceMethod yX1_workOutProduct), (209, Cond.instanceMethod yX1_hasParts), (213, Cond.instanceMethod yX1_partLength), (217, Cond.instanceMethod yX1_workOutPartSum), (205, Cond.instanceMethod yX1_ninesOf), (84, Cond.instanceMethod yX1_isCellSoundWithAll), (110, Cond.instanceMethod yX1_isLengthSound), (120, Cond.instanceMethod yX1_isProductSound), (154, Cond.instanceMethod yX1_isCutSound), (181, Cond.static yX1_joined), (178, Cond.instanceMethod yX1_digestOfCells), (189, Cond.instanceMethod yX1_digestOfWheels), (193, Cond.instanceMethod yX1_digestOfWheel), (3, Cond.initialized RX3), (2, Cond.initialized RX0), (33, Cond.instanceMethod yX0_init), (128, Cond.instanceMethod yX0_clear), (135, Cond.instanceMethod yX0_raise), (139, Cond.instanceMethod yX0_carry), (143, Cond.instanceMethod yX0_becomeNines), (150, Cond.instanceMethod yX0_isLike), (4, Cond.initialized RX2), (231, Cond.instanceMethod yX2_init), (12, Cond.initialized RJ4), (11, Cond.initialized RJ5), (13, Cond.initialized RJ0), (18, Cond.initialized RJ1), (16, Cond.initialized RJ7), (15, Cond.initialized RJ8), (27, Cond.methodLink RX1 1 Lib.objectInit), (30, Cond.classLink RX1 31 "Ninewheel$LongNumber"), (80, Cond.constantLong RX1 45 (-999999)), (81, Cond.constantLong RX1 47 (999999)), (93, Cond.methodLink RX1 59 yX1_tenTo), (86, Cond.methodLink RX1 69 Lib.Math.max.name)]
theorem gw_a_1_0 : ∀ q ∈ gwl_a_1_0, tables_1_1[q.1]? = some q.2 ∧ goodWord q.2 = true := by decide +kernel
def gwl_a_1_1 : List (Nat × Cond) := [(89, Cond.methodLink RX1 73 yX1_countAt), (160, Cond.methodLink RX1 84 yX1_rounded), (96, Cond.constantLong RX1 92 (10)), (184, Cond.methodLink RX1 101 yX1_digitsIn), (163, Cond.constantLong RX1 105 (-9000000000000000000)), (97, Cond.methodLink RX1 107 yX1_orderOfCells), (156, Cond.methodLink RX1 113 yX1_cutCount), (101, Cond.methodLink RX1 117 yX1_signOf), (104, Cond.methodLink RX1 124 yX1_areSame), (199, Cond.methodLink RX1 135 yX1_restOfPlace), (130, Cond.methodLink RX1 138 yX1_digitAfter), (115, Cond.methodLink RX1 147 yX1_leftover), (195, Cond.methodLink RX1 152 yX1_spokeOf), (122, Cond.methodLink RX1 166 yX1_workOutProduct), (167, Cond.constantLong RX1 173 (2)), (207, Cond.methodLink RX1 177 yX1_hasParts), (211, Cond.methodLink RX1 180 yX1_partLength), (215, Cond.methodLink RX1 183 yX1_workOutPartSum), (203, Cond.methodLink RX1 186 yX1_ninesOf), (112, Cond.methodLink RX1 189 yX1_restAfter), (223, Cond.methodLink RX1 192 yX1_orderOfWheels), (219, Cond.methodLink RX1 195 yX1_orderAgainst), (77, Cond.methodLink RX1 198 yX1_fits), (82, Cond.methodLink RX1 202 yX1_isCellSoundWithAll), (108, Cond.methodLink RX1 206 yX1_isLengthSound), (118, Cond.methodLink RX1 209 yX1_isProductSound), (152, Cond.methodLink RX1 212 yX1_isCutSound), (175, Cond.constantLong RX1 215 (7944)), (176, Cond.methodLink RX1 217 yX1_digestOfCells), (187, Cond.methodLink RX1 221 yX1_digestOfWheels), (180, Cond.methodLink RX1 224 yX1_joined), (227, Cond.methodLink RX1 228 yX1_isSound), (164, Cond.methodLink RX1 250 Lib.MathLoose.abs_long.x), (168, Cond.methodLink RX1 270 yX1_isFartherTaken), (183, Cond.constantLong RX1 290 (31)), (191, Cond.methodLink RX1 292 yX1_digestOfWheel), (35, Cond.methodLink RX0 1 Lib.objectInit), (145, Cond.methodLink RX0 13 yX0_clear), (146, Cond.methodLink RX0 16 yX0_raise), (147, Cond.methodLink RX0 20 yX0_carry), (233, Cond.methodLink RX2 1 Lib.objectInit), (87, Cond.static Lib.Math.max.name), (165, Cond.static Lib.MathLoose.abs_long.x), (10, Cond.initialized "java/lang/Math"), (28, Cond.instanceMethod Lib.objectInit), (40, Cond.arrayClass .int)]
theorem gw_a_1_1 : ∀ q ∈ gwl_a_1_1, tables_1_1[q.1]? = some q.2 ∧ goodWord q.2 = true := by decide +kernel
def gwl_a_2_0 : List (Nat × Cond) := [(7, Cond.instanceMethod yX1_put), (8, Cond.selects RX1 yX1_put yX1_put), (112, Cond.instanceMethod yX1_write), (113, Cond.selects RX1 yX1_write yX1_write), (119, Cond.instanceMethod yX1_copy), (120, Cond.selects RX1 yX1_copy yX1_copy), (126, Cond.instanceMethod yX1_negate), (127, Cond.selects RX1 yX1_negate yX1_negate), (133, Cond.instanceMethod yX1_size), (134, Cond.selects RX1 yX1_size yX1_size), (143, Cond.instanceMethod yX1_add), (144, Cond.selects RX1 yX1_add yX1_add), (150, Cond.instanceMethod yX1_subtract), (151, Cond.selects RX1 yX1_subtract yX1_subtract), (157, Cond.instanceMethod yX1_multiply), (158, Cond.selects RX1 yX1_multiply yX1_multiply), (164, Cond.instanceMethod yX1_power), (165, Cond.selects RX1 yX1_power yX1_power), (171, Cond.instanceMethod yX1_divide), (172, Cond.selects RX1 yX1_divide yX1_divide), (182, Cond.instanceMethod yX1_share), (183, Cond.selects RX1 yX1_share yX1_share), (191, Cond.instanceMethod yX1_whole), (192, Cond.selects RX1 yX1_whole yX1_whole), (198, Cond.instanceMethod yX1_rest), (199, Cond.selects RX1 yX1_rest yX1_rest), (205, Cond.instanceMethod yX1_setPlaces), (206, Cond.selects RX1 yX1_setPlaces yX1_setPlaces), (212, Cond.instanceMethod yX1_strip), (213, Cond.selects RX1 yX1_strip yX1_strip), (219, Cond.instanceMethod yX1_move), (220, Cond.selects RX1 yX1_move yX1_move), (231, Cond.instanceMethod yX1_round), (232, Cond.selects RX1 yX1_round yX1_round), (239, Cond.instanceMethod yX1_greater), (11, Cond.static yX1_requireCell), (81, Cond.static yX1_requireBetween), (175, Cond.static yX1_requireWay), (102, Cond.instanceMethod yX1_bring), (225, Cond.instanceMethod yX1_bringAt), (106, Cond.instanceMethod yX1_decline), (10, Cond.methodLink RX1 41 yX1_requireCell), (80, Cond.methodLink RX1 49 yX1_requireBetween), (99, Cond.constantLong RX1 53 (3)), (100, Cond.methodLink RX1 55 yX1_bring), (136, Cond.methodLink RX1 63 Lib.Math.abs.name), (174, Cond.methodLink RX1 77 yX1_requireWay), (104, Cond.methodLink RX1 80 yX1_decline), (185, Cond.constantLong RX1 88 (-99)), (186, Cond.constantLong RX1 90 (99)), (222, Cond.constantLong RX1 94 (-3)), (223, Cond.methodLink RX1 96 yX1_bringAt), (234, Cond.constantLong RX1 99 (6)), (13, Cond.classLink RX1 232 "java/lang/IndexOutOfBoundsException"), (54, Cond.methodLink RX1 236 ⟨"java/lang/IndexOutOfBoundsException", "<init>", "(Ljava/lang/String;)V"⟩), (83, Cond.classLink RX1 241 "java/lang/IllegalArgumentException"), (93, Cond.methodLink RX1 245 ⟨"java/lang/IllegalArgumentException", "<init>", "(Ljava/lang/String;)V"⟩), (177, Cond.constantLong RX1 246 (7)), (137, Cond.static Lib.Math.abs.name), (79, Cond.arrayClass .byte)]
theorem gw_a_2_0 : ∀ q ∈ gwl_a_2_0, tables_1_2[q.1]? = some q.2 ∧ goodWord q.2 = true := by decide +kernel
def gwl_a_3_0 : List (Nat × Cond) := [(0, Cond.selects RX1 yX1_greater yX1_greater), (6, Cond.instanceMethod yX1_lesser), (7, Cond.selects RX1 yX1_lesser yX1_lesser), (13, Cond.instanceMethod yX1_cut), (14, Cond.selects RX1 yX1_cut yX1_cut), (24, Cond.instanceMethod yX1_count), (25, Cond.selects RX1 yX1_count yX1_count), (31, Cond.instanceMethod yX1_places), (32, Cond.selects RX1 yX1_places yX1_places), (38, Cond.instanceMethod yX1_digits), (39, Cond.selects RX1 yX1_digits yX1_digits), (45, Cond.instanceMethod yX1_sign), (46, Cond.selects RX1 yX1_sign yX1_sign), (52, Cond.instanceMethod yX1_text), (53, Cond.selects RX1 yX1_text yX1_text), (17, Cond.static yX1_requireWheel), (56, Cond.static yX1_decimalText), (183, Cond.static yX1_signOfDigit), (61, Cond.instanceMethod yJ4_init_da8c8), (90, Cond.instanceMethod yJ4_append_cf468), (91, Cond.selects RJ4 yJ4_append_cf468 yJ4_append_cf468), (223, Cond.instanceMethod yJ4_toString_0e30d), (224, Cond.selects RJ4 yJ4_toString_0e30d yJ4_toString_0e30d), (186, Cond.instanceMethod yJ4_reverse_43fcb), (187, Cond.selects RJ4 yJ4_reverse_43fcb yJ4_reverse_43fcb), (64, Cond.instanceMethod yJ5_init_d00df), (94, Cond.instanceMethod yJ5_append_3fe6f), (98, Cond.instanceMethod yJ5_ensureCapacityInternal_d00df), (102, Cond.instanceMethod yJ5_newCapacity_0f7a4), (130, Cond.instanceMethod yJ5_isLatin1_aae02), (190, Cond.instanceMethod yJ5_reverse_278bc), (236, Cond.instanceMethod yJ5_getValue_6d5f1), (229, Cond.instanceMethod yJ0_init_81219), (232, Cond.instanceMethod yJ0_init_db425), (135, Cond.static yJ1_canEncode_fc78d), (114, Cond.static yJ7_copyOf_9075b), (105, Cond.static yJ8_newLength_cabcc), (16, Cond.methodLink RX1 110 yX1_requireWheel), (55, Cond.methodLink RX1 120 yX1_decimalText), (58, Cond.classLink RX1 252 "java/lang/StringBuilder"), (60, Cond.methodLink RX1 254 yJ4_init_da8c8), (89, Cond.methodLink RX1 255 yJ4_append_cf468), (182, Cond.methodLink RX1 259 yX1_signOfDigit), (185, Cond.methodLink RX1 263 yJ4_reverse_43fcb), (222, Cond.methodLink RX1 267 yJ4_toString_0e30d), (66, Cond.methodLink RJ5 3 Lib.objectInit), (67, Cond.fieldLink RJ5 18 "java/lang/String" "COMPACT_STRINGS" "Z"), (69, Cond.methodLink RJ5 26 yJ2_newBytesFor_77867), (112, Cond.constant RJ5 39 (2147483647)), (129, Cond.methodLink RJ5 83 yJ5_isLatin1_aae02), (96, Cond.methodLink RJ5 100 yJ5_ensureCapacityInternal_d00df), (100, Cond.methodLink RJ5 104 yJ5_newCapacity_0f7a4), (113, Cond.methodLink RJ5 108 yJ7_copyOf_9075b), (104, Cond.methodLink RJ5 114 yJ8_newLength_cabcc), (134, Cond.methodLink RJ5 191 yJ1_canEncode_fc78d), (137, Cond.methodLink RJ5 195 yJ5_inflate_da8c8), (170, Cond.methodLink RJ5 197 yJ2_putCharSB_b72d1), (192, Cond.methodLink RJ5 358 yJ2_reverse_db04f), (234, Cond.methodLink RJ0 1 Lib.objectInit), (231, Cond.methodLink RJ0 489 yJ0_init_db425)]
theorem gw_a_3_0 : ∀ q ∈ gwl_a_3_0, tables_1_3[q.1]? = some q.2 ∧ goodWord q.2 = true := by decide +kernel
def gwl_a_3_1 : List (Nat × Cond) := [(235, Cond.methodLink RJ0 552 yJ5_getValue_6d5f1), (63, Cond.methodLink RJ4 1 yJ5_init_d00df), (226, Cond.classLink RJ4 18 "java/lang/String"), (93, Cond.methodLink RJ4 50 yJ5_append_3fe6f), (189, Cond.methodLink RJ4 127 yJ5_reverse_278bc), (228, Cond.methodLink RJ4 137 yJ0_init_81219), (126, Cond.methodLink RJ7 150 ⟨"java/lang/System", "arraycopy", "(Ljava/lang/Object;ILjava/lang/Object;II)V"⟩), (123, Cond.methodLink RJ7 304 Lib.Math.min.name), (122, Cond.classLink RJ7 311 "[B"), (107, Cond.methodLink RJ8 194 Lib.Math.max.name), (108, Cond.constant RJ8 200 (2147483639)), (109, Cond.methodLink RJ8 201 yJ8_hugeLength_7cf53), (124, Cond.static Lib.Math.min.name)]
theorem gw_a_3_1 : ∀ q ∈ gwl_a_3_1, tables_1_3[q.1]? = some q.2 ∧ goodWord q.2 = true := by decide +kernel
def gwl_a_4_0 : List (Nat × Cond) := [(118, Cond.instanceMethod yX1_order), (119, Cond.selects RX1 yX1_order yX1_order), (125, Cond.instanceMethod yX1_same), (126, Cond.selects RX1 yX1_same yX1_same), (132, Cond.instanceMethod yX1_setWheel), (133, Cond.selects RX1 yX1_setWheel yX1_setWheel), (150, Cond.instanceMethod yX1_step), (151, Cond.selects RX1 yX1_step yX1_step), (161, Cond.instanceMethod yX1_turn), (162, Cond.selects RX1 yX1_turn yX1_turn), (169, Cond.instanceMethod yX1_times), (170, Cond.selects RX1 yX1_times yX1_times), (176, Cond.instanceMethod yX1_spoke), (177, Cond.selects RX1 yX1_spoke yX1_spoke), (184, Cond.instanceMethod yX1_lowest), (185, Cond.selects RX1 yX1_lowest yX1_lowest), (191, Cond.instanceMethod yX1_tens), (192, Cond.selects RX1 yX1_tens yX1_tens), (198, Cond.instanceMethod yX1_restAt), (199, Cond.selects RX1 yX1_restAt yX1_restAt), (205, Cond.instanceMethod yX1_digitsFrom), (206, Cond.selects RX1 yX1_digitsFrom yX1_digitsFrom), (217, Cond.instanceMethod yX1_cutText), (218, Cond.selects RX1 yX1_cutText yX1_cutText), (225, Cond.instanceMethod yX1_number), (226, Cond.selects RX1 yX1_number yX1_number), (232, Cond.instanceMethod yX1_product), (233, Cond.selects RX1 yX1_product yX1_product), (136, Cond.static yX1_requireBottom), (144, Cond.static yX1_lengthOf), (141, Cond.instanceMethod yX1_bringWheel), (155, Cond.instanceMethod yX1_turnBy), (211, Cond.instanceMethod yX1_digitText), (237, Cond.instanceMethod yX0_written), (4, Cond.instanceMethod yJ4_length_8abf5), (1, Cond.instanceMethod yJ5_length_8abf5), (10, Cond.static yJ7_copyOfRange_39247), (13, Cond.static yJ7_copyOfRangeByte_39247), (16, Cond.static yJ7_checkLength_df160), (135, Cond.methodLink RX1 128 yX1_requireBottom), (139, Cond.methodLink RX1 131 yX1_bringWheel), (153, Cond.methodLink RX1 141 yX1_turnBy), (164, Cond.constantLong RX1 145 (200)), (179, Cond.constantLong RX1 150 (4)), (143, Cond.methodLink RX1 155 yX1_lengthOf), (208, Cond.constantLong RX1 158 (16)), (209, Cond.methodLink RX1 160 yX1_digitText), (239, Cond.classLink RX0 23 "java/lang/StringBuilder"), (75, Cond.fieldLink RJ0 38 "java/lang/String" "COMPACT_STRINGS" "Z"), (100, Cond.methodLink RJ0 47 yJ2_coderFromArrayLen_85cad), (9, Cond.methodLink RJ0 54 yJ7_copyOfRange_39247), (0, Cond.methodLink RJ0 549 yJ5_length_8abf5), (8, Cond.methodLink RJ0 1047 yJ5_isLatin1_aae02), (93, Cond.methodLink RJ0 1051 yJ2_compress_39247), (18, Cond.classLink RJ7 43 "java/lang/IllegalArgumentException"), (19, Cond.classLink RJ7 45 "java/lang/StringBuilder"), (20, Cond.methodLink RJ7 47 yJ4_init_da8c8), (53, Cond.methodLink RJ7 50 yJ4_append_15ec4), (21, Cond.methodLink RJ7 54 yJ4_append_bf812), (91, Cond.methodLink RJ7 61 yJ4_toString_0e30d)]
theorem gw_a_4_0 : ∀ q ∈ gwl_a_4_0, tables_1_4[q.1]? = some q.2 ∧ goodWord q.2 = true := by decide +kernel
def gwl_a_4_1 : List (Nat × Cond) := [(92, Cond.methodLink RJ7 65 ⟨"java/lang/IllegalArgumentException", "<init>", "(Ljava/lang/String;)V"⟩), (12, Cond.methodLink RJ7 339 yJ7_copyOfRangeByte_39247), (15, Cond.methodLink RJ7 343 yJ7_checkLength_df160)]
theorem gw_a_4_1 : ∀ q ∈ gwl_a_4_1, tables_1_4[q.1]? = some q.2 ∧ goodWord q.2 = true := by decide +kernel
def gwl_a_5_0 : List (Nat × Cond) := [(8, Cond.instanceMethod yX1_partSum), (9, Cond.selects RX1 yX1_partSum yX1_partSum), (16, Cond.instanceMethod yX1_nines), (17, Cond.selects RX1 yX1_nines yX1_nines), (23, Cond.instanceMethod yX1_placeOf), (24, Cond.selects RX1 yX1_placeOf yX1_placeOf), (30, Cond.instanceMethod yX1_wheelOrder), (31, Cond.selects RX1 yX1_wheelOrder yX1_wheelOrder), (37, Cond.instanceMethod yX1_against), (38, Cond.selects RX1 yX1_against yX1_against), (44, Cond.instanceMethod yX1_house), (45, Cond.selects RX1 yX1_house yX1_house), (50, Cond.instanceMethod yX3_init), (76, Cond.instanceMethod yX3_thrown), (77, Cond.selects RX3 yX3_thrown yX3_thrown), (93, Cond.instanceMethod yX3_refuse), (87, Cond.static yX3_isOut), (84, Cond.static yX3_isNoCell), (222, Cond.static yX3_isNoWheel), (161, Cond.static yX3_isNoCut), (113, Cond.static yX3_ten), (168, Cond.static yX3_side), (101, Cond.static yX3_sizeOf), (203, Cond.static yX3_digitsOf), (164, Cond.static yX3_rounded), (106, Cond.instanceMethod yX3_nay), (97, Cond.instanceMethod yX3_come), (142, Cond.instanceMethod yX3_units), (138, Cond.instanceMethod yX3_most), (211, Cond.instanceMethod yX3_ordered), (80, Cond.instanceMethod yX3_put), (81, Cond.selects RX3 yX3_put yX3_put), (109, Cond.instanceMethod yX3_write), (110, Cond.selects RX3 yX3_write yX3_write), (117, Cond.instanceMethod yX3_copy), (118, Cond.selects RX3 yX3_copy yX3_copy), (121, Cond.instanceMethod yX3_negate), (122, Cond.selects RX3 yX3_negate yX3_negate), (125, Cond.instanceMethod yX3_size), (126, Cond.selects RX3 yX3_size yX3_size), (134, Cond.instanceMethod yX3_areNoCells), (129, Cond.instanceMethod yX3_add), (130, Cond.selects RX3 yX3_add yX3_add), (145, Cond.instanceMethod yX3_subtract), (146, Cond.selects RX3 yX3_subtract yX3_subtract), (149, Cond.instanceMethod yX3_multiply), (150, Cond.selects RX3 yX3_multiply yX3_multiply), (153, Cond.instanceMethod yX3_power), (154, Cond.selects RX3 yX3_power yX3_power), (157, Cond.instanceMethod yX3_divide), (158, Cond.selects RX3 yX3_divide yX3_divide), (171, Cond.instanceMethod yX3_share), (172, Cond.selects RX3 yX3_share yX3_share), (180, Cond.instanceMethod yX3_wholeOf), (175, Cond.instanceMethod yX3_whole), (176, Cond.selects RX3 yX3_whole yX3_whole), (183, Cond.instanceMethod yX3_rest), (184, Cond.selects RX3 yX3_rest yX3_rest), (187, Cond.instanceMethod yX3_setPlaces), (188, Cond.selects RX3 yX3_setPlaces yX3_setPlaces)]
theorem gw_a_5_0 : ∀ q ∈ gwl_a_5_0, tables_1_5[q.1]? = some q.2 ∧ goodWord q.2 = true := by decide +kernel
def gwl_a_5_1 : List (Nat × Cond) := [(191, Cond.instanceMethod yX3_strip), (192, Cond.selects RX3 yX3_strip yX3_strip), (195, Cond.instanceMethod yX3_move), (196, Cond.selects RX3 yX3_move yX3_move), (199, Cond.instanceMethod yX3_round), (200, Cond.selects RX3 yX3_round yX3_round), (206, Cond.instanceMethod yX3_greater), (207, Cond.selects RX3 yX3_greater yX3_greater), (214, Cond.instanceMethod yX3_lesser), (215, Cond.selects RX3 yX3_lesser yX3_lesser), (226, Cond.instanceMethod yX3_cutOf), (218, Cond.instanceMethod yX3_cut), (219, Cond.selects RX3 yX3_cut yX3_cut), (229, Cond.instanceMethod yX3_count), (230, Cond.selects RX3 yX3_count yX3_count), (233, Cond.instanceMethod yX3_places), (234, Cond.selects RX3 yX3_places yX3_places), (237, Cond.instanceMethod yX3_digits), (238, Cond.selects RX3 yX3_digits yX3_digits), (11, Cond.constantLong RX1 175 (12)), (0, Cond.methodLink RX0 25 yJ4_init_da8c8), (2, Cond.methodLink RX0 32 yJ4_append_cf468), (3, Cond.methodLink RX0 36 yJ4_toString_0e30d), (52, Cond.methodLink RX3 3 Lib.objectInit), (86, Cond.methodLink RX3 34 yX3_isOut), (115, Cond.constantLong RX3 38 (10)), (100, Cond.methodLink RX3 40 yX3_sizeOf), (99, Cond.constantLong RX3 44 (-9223372036854775808)), (166, Cond.constantLong RX3 46 (2)), (167, Cond.methodLink RX3 48 yX3_side), (103, Cond.constantLong RX3 52 (999999)), (104, Cond.methodLink RX3 54 yX3_nay), (112, Cond.methodLink RX3 58 yX3_ten), (140, Cond.methodLink RX3 62 yX3_units), (83, Cond.methodLink RX3 66 yX3_isNoCell), (89, Cond.constant RX3 70 (-999999)), (90, Cond.constant RX3 71 (999999)), (91, Cond.methodLink RX3 72 yX3_refuse), (95, Cond.methodLink RX3 76 yX3_come), (132, Cond.methodLink RX3 80 yX3_areNoCells), (136, Cond.methodLink RX3 83 yX3_most), (160, Cond.methodLink RX3 87 yX3_isNoCut), (163, Cond.methodLink RX3 90 yX3_rounded), (178, Cond.methodLink RX3 94 yX3_wholeOf), (202, Cond.methodLink RX3 97 yX3_digitsOf), (209, Cond.methodLink RX3 101 yX3_ordered), (221, Cond.methodLink RX3 104 yX3_isNoWheel), (224, Cond.methodLink RX3 107 yX3_cutOf)]
theorem gw_a_5_1 : ∀ q ∈ gwl_a_5_1, tables_1_5[q.1]? = some q.2 ∧ goodWord q.2 = true := by decide +kernel
def gwl_a_6_0 : List (Nat × Cond) := [(36, Cond.static yX3_isNoBottom), (1, Cond.instanceMethod yX3_sign), (2, Cond.selects RX3 yX3_sign yX3_sign), (10, Cond.static yX3_textOf), (5, Cond.instanceMethod yX3_text), (6, Cond.selects RX3 yX3_text yX3_text), (20, Cond.instanceMethod yX3_order), (21, Cond.selects RX3 yX3_order yX3_order), (29, Cond.instanceMethod yX3_areSame), (24, Cond.instanceMethod yX3_same), (25, Cond.selects RX3 yX3_same yX3_same), (54, Cond.static yX3_restOf), (47, Cond.static yX3_lengthOf), (44, Cond.instanceMethod yX3_lengthOf_), (40, Cond.instanceMethod yX3_set), (32, Cond.instanceMethod yX3_setWheel), (33, Cond.selects RX3 yX3_setWheel yX3_setWheel), (50, Cond.instanceMethod yX3_step), (51, Cond.selects RX3 yX3_step yX3_step), (57, Cond.instanceMethod yX3_turn), (58, Cond.selects RX3 yX3_turn yX3_turn), (61, Cond.instanceMethod yX3_times), (62, Cond.selects RX3 yX3_times yX3_times), (70, Cond.instanceMethod yX3_spokeOf), (65, Cond.instanceMethod yX3_spoke), (66, Cond.selects RX3 yX3_spoke yX3_spoke), (73, Cond.instanceMethod yX3_lowest), (74, Cond.selects RX3 yX3_lowest yX3_lowest), (77, Cond.instanceMethod yX3_tens), (78, Cond.selects RX3 yX3_tens yX3_tens), (81, Cond.instanceMethod yX3_restAt), (82, Cond.selects RX3 yX3_restAt yX3_restAt), (90, Cond.instanceMethod yX3_row), (93, Cond.static yX3_written), (113, Cond.static yX3_number), (85, Cond.instanceMethod yX3_digitsFrom), (86, Cond.selects RX3 yX3_digitsFrom yX3_digitsFrom), (96, Cond.instanceMethod yX3_cutText), (97, Cond.selects RX3 yX3_cutText yX3_cutText), (101, Cond.instanceMethod yX3_number_), (102, Cond.selects RX3 yX3_number_ yX3_number_), (110, Cond.instanceMethod yX3_timesBottom), (105, Cond.instanceMethod yX3_product), (106, Cond.selects RX3 yX3_product yX3_product), (121, Cond.instanceMethod yX3_sumOf), (116, Cond.instanceMethod yX3_partSum), (117, Cond.selects RX3 yX3_partSum yX3_partSum), (132, Cond.static yX3_areLike), (129, Cond.instanceMethod yX3_ninesOf), (124, Cond.instanceMethod yX3_nines), (125, Cond.selects RX3 yX3_nines yX3_nines), (135, Cond.instanceMethod yX3_placeOf), (136, Cond.selects RX3 yX3_placeOf yX3_placeOf), (144, Cond.instanceMethod yX3_wheelsOrdered), (139, Cond.instanceMethod yX3_wheelOrder), (140, Cond.selects RX3 yX3_wheelOrder yX3_wheelOrder), (152, Cond.instanceMethod yX3_heldAgainst), (147, Cond.instanceMethod yX3_against), (148, Cond.selects RX3 yX3_against yX3_against), (155, Cond.instanceMethod yX3_house)]
theorem gw_a_6_0 : ∀ q ∈ gwl_a_6_0, tables_1_6[q.1]? = some q.2 ∧ goodWord q.2 = true := by decide +kernel
def gwl_a_6_1 : List (Nat × Cond) := [(156, Cond.selects RX3 yX3_house yX3_house), (159, Cond.instanceMethod yX3_knock), (160, Cond.selects RX3 yX3_knock yX3_knock), (172, Cond.instanceMethod yX3_isSoundPair), (180, Cond.instanceMethod yX3_allNines), (176, Cond.instanceMethod yX3_isSoundWheel), (168, Cond.instanceMethod yX3_isWhole), (163, Cond.instanceMethod yX3_isSound), (164, Cond.selects RX3 yX3_isSound yX3_isSound), (188, Cond.static yX3_add_), (183, Cond.instanceMethod yX3_digest), (184, Cond.selects RX3 yX3_digest yX3_digest), (14, Cond.instanceMethod yJ4_init_d00df), (12, Cond.classLink RX3 111 "java/lang/StringBuilder"), (13, Cond.methodLink RX3 113 yJ4_init_d00df), (16, Cond.methodLink RX3 116 yJ4_append_cf468), (17, Cond.constantLong RX3 120 (48)), (18, Cond.methodLink RX3 122 yJ4_toString_0e30d), (9, Cond.methodLink RX3 128 yX3_textOf), (27, Cond.methodLink RX3 132 yX3_areSame), (46, Cond.methodLink RX3 136 yX3_lengthOf), (35, Cond.methodLink RX3 139 yX3_isNoBottom), (38, Cond.methodLink RX3 142 yX3_set), (42, Cond.methodLink RX3 146 yX3_lengthOf_), (53, Cond.methodLink RX3 149 yX3_restOf), (68, Cond.methodLink RX3 153 yX3_spokeOf), (92, Cond.methodLink RX3 156 yX3_written), (88, Cond.methodLink RX3 160 yX3_row), (108, Cond.methodLink RX3 166 yX3_timesBottom), (112, Cond.methodLink RX3 170 yX3_number), (119, Cond.methodLink RX3 174 yX3_sumOf), (131, Cond.methodLink RX3 178 yX3_areLike), (127, Cond.methodLink RX3 182 yX3_ninesOf), (142, Cond.methodLink RX3 185 yX3_wheelsOrdered), (150, Cond.methodLink RX3 188 yX3_heldAgainst), (178, Cond.methodLink RX3 191 yX3_allNines), (170, Cond.methodLink RX3 194 yX3_isSoundPair), (174, Cond.methodLink RX3 197 yX3_isSoundWheel), (166, Cond.methodLink RX3 200 yX3_isWhole), (190, Cond.constantLong RX3 204 (31)), (186, Cond.constantLong RX3 206 (7944)), (187, Cond.methodLink RX3 208 yX3_add_)]
theorem gw_a_6_1 : ∀ q ∈ gwl_a_6_1, tables_1_6[q.1]? = some q.2 ∧ goodWord q.2 = true := by decide +kernel
def gyl_a_0 : List (MethodName × Nat) := [(yX1_init, 0), (yX1_put, 3), (yX1_write, 5), (yX1_copy, 2), (yX1_negate, 1), (yX1_size, 1), (yX1_add, 3), (yX1_subtract, 3), (yX1_multiply, 3), (yX1_power, 3), (yX1_divide, 5), (yX1_share, 3), (yX1_whole, 3), (yX1_rest, 3), (yX1_setPlaces, 3), (yX1_strip, 1), (yX1_move, 2), (yX1_round, 3), (yX1_greater, 3), (yX1_lesser, 3), (yX1_cut, 5), (yX1_count, 1), (yX1_places, 1), (yX1_digits, 1), (yX1_sign, 1), (yX1_text, 2), (yX1_order, 2), (yX1_same, 2), (yX1_setWheel, 3), (yX1_step, 1)]
theorem gy_a_0 : ∀ q ∈ gyl_a_0, q.1.cls ≠ "java/lang/invoke/MethodHandle" ∧ q.1.cls ≠ "java/lang/invoke/VarHandle" ∧ (parseMethodDescriptor q.1.desc).map (fun d => d.parameters.length) = some q.2 := by decide +kernel
def gyl_a_1 : List (MethodName × Nat) := [(yX1_turn, 2), (yX1_times, 3), (yX1_spoke, 2), (yX1_lowest, 1), (yX1_tens, 1), (yX1_restAt, 2), (yX1_digitsFrom, 3), (yX1_cutText, 4), (yX1_number, 1), (yX1_product, 1), (yX1_partSum, 2), (yX1_nines, 2), (yX1_placeOf, 2), (yX1_wheelOrder, 2), (yX1_against, 2), (yX1_house, 1), (yX1_knock, 0), (yX1_isSound, 0), (yX1_digest, 0), (yX1_requireCell, 1), (yX1_requireWheel, 1), (yX1_requireBetween, 3), (yX1_requireWay, 1), (yX1_requireBottom, 1), (yX1_fits, 2), (yX1_bring, 3), (yX1_bringAt, 3), (yX1_decline, 0), (yX1_countAt, 2), (yX1_orderOfCells, 2)]
theorem gy_a_1 : ∀ q ∈ gyl_a_1, q.1.cls ≠ "java/lang/invoke/MethodHandle" ∧ q.1.cls ≠ "java/lang/invoke/VarHandle" ∧ (parseMethodDescriptor q.1.desc).map (fun d => d.parameters.length) = some q.2 := by decide +kernel
def gyl_a_2 : List (MethodName × Nat) := [(yX1_areSame, 2), (yX1_signOf, 1), (yX1_tenTo, 1), (yX1_digitsIn, 1), (yX1_decimalText, 2), (yX1_signOfDigit, 1), (yX1_rounded, 3), (yX1_isFartherTaken, 4), (yX1_cutCount, 4), (yX1_leftover, 2), (yX1_restAfter, 2), (yX1_digitAfter, 2), (yX1_lengthOf, 2), (yX1_restOfPlace, 2), (yX1_bringWheel, 3), (yX1_turnBy, 2), (yX1_spokeOf, 2), (yX1_digitText, 3), (yX1_orderOfWheels, 2), (yX1_orderAgainst, 2), (yX1_workOutProduct, 1), (yX1_hasParts, 2), (yX1_partLength, 2), (yX1_workOutPartSum, 2), (yX1_ninesOf, 2), (yX1_isCellSoundWithAll, 1), (yX1_isLengthSound, 1), (yX1_isProductSound, 1), (yX1_isCutSound, 1), (yX1_joined, 2)]
theorem gy_a_2 : ∀ q ∈ gyl_a_2, q.1.cls ≠ "java/lang/invoke/MethodHandle" ∧ q.1.cls ≠ "java/lang/invoke/VarHandle" ∧ (parseMethodDescriptor q.1.desc).map (fun d => d.parameters.length) = some q.2 := by decide +kernel
def gyl_a_3 : List (MethodName × Nat) := [(yX1_digestOfCells, 1), (yX1_digestOfWheels, 1), (yX1_digestOfWheel, 2), (yX3_init, 0), (yX3_thrown, 0), (yX3_refuse, 2), (yX3_isOut, 3), (yX3_isNoCell, 1), (yX3_isNoWheel, 1), (yX3_isNoCut, 3), (yX3_isNoBottom, 1), (yX3_ten, 1), (yX3_side, 2), (yX3_sizeOf, 1), (yX3_digitsOf, 1), (yX3_rounded, 3), (yX3_nay, 0), (yX3_come, 3), (yX3_units, 2), (yX3_most, 2), (yX3_ordered, 2), (yX3_put, 3), (yX3_write, 5), (yX3_copy, 2), (yX3_negate, 1), (yX3_size, 1), (yX3_areNoCells, 3), (yX3_add, 3), (yX3_subtract, 3), (yX3_multiply, 3)]
theorem gy_a_3 : ∀ q ∈ gyl_a_3, q.1.cls ≠ "java/lang/invoke/MethodHandle" ∧ q.1.cls ≠ "java/lang/invoke/VarHandle" ∧ (parseMethodDescriptor q.1.desc).map (fun d => d.parameters.length) = some q.2 := by decide +kernel
def gyl_a_4 : List (MethodName × Nat) := [(yX3_power, 3), (yX3_divide, 5), (yX3_share, 3), (yX3_wholeOf, 2), (yX3_whole, 3), (yX3_rest, 3), (yX3_setPlaces, 3), (yX3_strip, 1), (yX3_move, 2), (yX3_round, 3), (yX3_greater, 3), (yX3_lesser, 3), (yX3_cutOf, 4), (yX3_cut, 5), (yX3_count, 1), (yX3_places, 1), (yX3_digits, 1), (yX3_sign, 1), (yX3_textOf, 2), (yX3_text, 2), (yX3_order, 2), (yX3_areSame, 2), (yX3_same, 2), (yX3_restOf, 3), (yX3_lengthOf, 2), (yX3_lengthOf_, 1), (yX3_set, 3), (yX3_setWheel, 3), (yX3_step, 1), (yX3_turn, 2)]
theorem gy_a_4 : ∀ q ∈ gyl_a_4, q.1.cls ≠ "java/lang/invoke/MethodHandle" ∧ q.1.cls ≠ "java/lang/invoke/VarHandle" ∧ (parseMethodDescriptor q.1.desc).map (fun d => d.parameters.length) = some q.2 := by decide +kernel
def gyl_a_5 : List (MethodName × Nat) := [(yX3_times, 3), (yX3_spokeOf, 2), (yX3_spoke, 2), (yX3_lowest, 1), (yX3_tens, 1), (yX3_restAt, 2), (yX3_row, 3), (yX3_written, 2), (yX3_number, 1), (yX3_digitsFrom, 3), (yX3_cutText, 4), (yX3_number_, 1), (yX3_timesBottom, 1), (yX3_product, 1), (yX3_sumOf, 2), (yX3_partSum, 2), (yX3_areLike, 2), (yX3_ninesOf, 2), (yX3_nines, 2), (yX3_placeOf, 2), (yX3_wheelsOrdered, 2), (yX3_wheelOrder, 2), (yX3_heldAgainst, 2), (yX3_against, 2), (yX3_house, 1), (yX3_knock, 0), (yX3_isSoundPair, 2), (yX3_allNines, 1), (yX3_isSoundWheel, 1), (yX3_isWhole, 0)]
theorem gy_a_5 : ∀ q ∈ gyl_a_5, q.1.cls ≠ "java/lang/invoke/MethodHandle" ∧ q.1.cls ≠ "java/lang/invoke/VarHandle" ∧ (parseMethodDescriptor q.1.desc).map (fun d => d.parameters.length) = some q.2 := by decide +kernel
def gyl_a_6 : List (MethodName × Nat) := [(yX3_isSound, 0), (yX3_add_, 2), (yX3_digest, 0), (yX0_init, 0), (yX0_clear, 0), (yX0_raise, 2), (yX0_carry, 0), (yX0_becomeNines, 2), (yX0_isLike, 1), (yX0_written, 0), (yX2_init, 0), (yJ4_init_da8c8, 0), (yJ4_init_d00df, 1), (yJ4_append_cf468, 1), (yJ4_toString_0e30d, 0), (yJ4_reverse_43fcb, 0), (yJ4_length_8abf5, 0), (yJ5_init_d00df, 1), (yJ5_append_3fe6f, 1), (yJ5_ensureCapacityInternal_d00df, 1), (yJ5_newCapacity_0f7a4, 1), (yJ5_isLatin1_aae02, 0), (yJ5_reverse_278bc, 0), (yJ5_getValue_6d5f1, 0), (yJ5_length_8abf5, 0), (yJ0_init_81219, 1), (yJ0_init_db425, 2), (yJ1_canEncode_fc78d, 1), (yJ7_copyOf_9075b, 2), (yJ7_copyOfRange_39247, 3)]
theorem gy_a_6 : ∀ q ∈ gyl_a_6, q.1.cls ≠ "java/lang/invoke/MethodHandle" ∧ q.1.cls ≠ "java/lang/invoke/VarHandle" ∧ (parseMethodDescriptor q.1.desc).map (fun d => d.parameters.length) = some q.2 := by decide +kernel
def gyl_a_7 : List (MethodName × Nat) := [(yJ7_copyOfRangeByte_39247, 3), (yJ7_checkLength_df160, 2), (yJ8_newLength_cabcc, 3)]
theorem gy_a_7 : ∀ q ∈ gyl_a_7, q.1.cls ≠ "java/lang/invoke/MethodHandle" ∧ q.1.cls ≠ "java/lang/invoke/VarHandle" ∧ (parseMethodDescriptor q.1.desc).map (fun d => d.parameters.length) = some q.2 := by decide +kernel
theorem nw_kX1_init : Cond.code yX1_init cX1_init 2 (none) ∈ nw_T := nw_tf (nw_ms1 (List.mem_of_getElem? (i := 26) rfl)) rfl
theorem nw_inX1 : Cond.initialized RX1 ∈ nw_T := nw_tq1 gw_a_1_0 0 rfl
theorem nw_yX1_init : ne_cy yX1_init (.code yX1_init cX1_init 2 (none)) 0 nw_T := ⟨nw_kX1_init, nw_inX1, gy_a_0 (yX1_init, 0) (List.mem_of_getElem? (i := 0) rfl)⟩
theorem nw_iX1_init : Cond.instanceMethod yX1_init ∈ nw_T := nw_tq1 gw_a_1_0 1 rfl
theorem nw_kX1_put : Cond.code yX1_put cX1_put 4 (some .int) ∈ nw_T := nw_tf (nw_ms2 (List.mem_of_getElem? (i := 9) rfl)) rfl
theorem nw_yX1_put : ne_cy yX1_put (.code yX1_put cX1_put 4 (some .int)) 3 nw_T := ⟨nw_kX1_put, nw_inX1, gy_a_0 (yX1_put, 3) (List.mem_of_getElem? (i := 1) rfl)⟩
theorem nw_iX1_put : Cond.instanceMethod yX1_put ∈ nw_T := nw_tq2 gw_a_2_0 0 rfl
theorem nw_eX1_put : Cond.selects RX1 yX1_put yX1_put ∈ nw_T := nw_tq2 gw_a_2_0 1 rfl
theorem nw_kX1_write : Cond.code yX1_write cX1_write 8 (some .int) ∈ nw_T := nw_tf (nw_ms2 (List.mem_of_getElem? (i := 114) rfl)) rfl
theorem nw_yX1_write : ne_cy yX1_write (.code yX1_write cX1_write 8 (some .int)) 5 nw_T := ⟨nw_kX1_write, nw_inX1, gy_a_0 (yX1_write, 5) (List.mem_of_getElem? (i := 2) rfl)⟩
theorem nw_iX1_write : Cond.instanceMethod yX1_write ∈ nw_T := nw_tq2 gw_a_2_0 2 rfl
theorem nw_eX1_write : Cond.selects RX1 yX1_write yX1_write ∈ nw_T := nw_tq2 gw_a_2_0 3 rfl
theorem nw_kX1_copy : Cond.code yX1_copy cX1_copy 3 (some .int) ∈ nw_T := nw_tf (nw_ms2 (List.mem_of_getElem? (i := 121) rfl)) rfl
theorem nw_yX1_copy : ne_cy yX1_copy (.code yX1_copy cX1_copy 3 (some .int)) 2 nw_T := ⟨nw_kX1_copy, nw_inX1, gy_a_0 (yX1_copy, 2) (List.mem_of_getElem? (i := 3) rfl)⟩
theorem nw_iX1_copy : Cond.instanceMethod yX1_copy ∈ nw_T := nw_tq2 gw_a_2_0 4 rfl
theorem nw_eX1_copy : Cond.selects RX1 yX1_copy yX1_copy ∈ nw_T := nw_tq2 gw_a_2_0 5 rfl
theorem nw_kX1_negate : Cond.code yX1_negate cX1_negate 2 (some .int) ∈ nw_T := nw_tf (nw_ms2 (List.mem_of_getElem? (i := 128) rfl)) rfl
theorem nw_yX1_negate : ne_cy yX1_negate (.code yX1_negate cX1_negate 2 (some .int)) 1 nw_T := ⟨nw_kX1_negate, nw_inX1, gy_a_0 (yX1_negate, 1) (List.mem_of_getElem? (i := 4) rfl)⟩
theorem nw_iX1_negate : Cond.instanceMethod yX1_negate ∈ nw_T := nw_tq2 gw_a_2_0 6 rfl
theorem nw_eX1_negate : Cond.selects RX1 yX1_negate yX1_negate ∈ nw_T := nw_tq2 gw_a_2_0 7 rfl
theorem nw_kX1_size : Cond.code yX1_size cX1_size 2 (some .int) ∈ nw_T := nw_tf (nw_ms2 (List.mem_of_getElem? (i := 135) rfl)) rfl
theorem nw_yX1_size : ne_cy yX1_size (.code yX1_size cX1_size 2 (some .int)) 1 nw_T := ⟨nw_kX1_size, nw_inX1, gy_a_0 (yX1_size, 1) (List.mem_of_getElem? (i := 5) rfl)⟩
theorem nw_iX1_size : Cond.instanceMethod yX1_size ∈ nw_T := nw_tq2 gw_a_2_0 8 rfl
theorem nw_eX1_size : Cond.selects RX1 yX1_size yX1_size ∈ nw_T := nw_tq2 gw_a_2_0 9 rfl
theorem nw_kX1_add : Cond.code yX1_add cX1_add 5 (some .int) ∈ nw_T := nw_tf (nw_ms2 (List.mem_of_getElem? (i := 145) rfl)) rfl
theorem nw_yX1_add : ne_cy yX1_add (.code yX1_add cX1_add 5 (some .int)) 3 nw_T := ⟨nw_kX1_add, nw_inX1, gy_a_0 (yX1_add, 3) (List.mem_of_getElem? (i := 6) rfl)⟩
theorem nw_iX1_add : Cond.instanceMethod yX1_add ∈ nw_T := nw_tq2 gw_a_2_0 10 rfl
theorem nw_eX1_add : Cond.selects RX1 yX1_add yX1_add ∈ nw_T := nw_tq2 gw_a_2_0 11 rfl
theorem nw_kX1_subtract : Cond.code yX1_subtract cX1_subtract 5 (some .int) ∈ nw_T := nw_tf (nw_ms2 (List.mem_of_getElem? (i := 152) rfl)) rfl
theorem nw_yX1_subtract : ne_cy yX1_subtract (.code yX1_subtract cX1_subtract 5 (some .int)) 3 nw_T := ⟨nw_kX1_subtract, nw_inX1, gy_a_0 (yX1_subtract, 3) (List.mem_of_getElem? (i := 7) rfl)⟩
theorem nw_iX1_subtract : Cond.instanceMethod yX1_subtract ∈ nw_T := nw_tq2 gw_a_2_0 12 rfl
theorem nw_eX1_subtract : Cond.selects RX1 yX1_subtract yX1_subtract ∈ nw_T := nw_tq2 gw_a_2_0 13 rfl
theorem nw_kX1_multiply : Cond.code yX1_multiply cX1_multiply 4 (some .int) ∈ nw_T := nw_tf (nw_ms2 (List.mem_of_getElem? (i := 159) rfl)) rfl
theorem nw_yX1_multiply : ne_cy yX1_multiply (.code yX1_multiply cX1_multiply 4 (some .int)) 3 nw_T := ⟨nw_kX1_multiply, nw_inX1, gy_a_0 (yX1_multiply, 3) (List.mem_of_getElem? (i := 8) rfl)⟩
theorem nw_iX1_multiply : Cond.instanceMethod yX1_multiply ∈ nw_T := nw_tq2 gw_a_2_0 14 rfl
theorem nw_eX1_multiply : Cond.selects RX1 yX1_multiply yX1_multiply ∈ nw_T := nw_tq2 gw_a_2_0 15 rfl
theorem nw_kX1_power : Cond.code yX1_power cX1_power 7 (some .int) ∈ nw_T := nw_tf (nw_ms2 (List.mem_of_getElem? (i := 166) rfl)) rfl
theorem nw_yX1_power : ne_cy yX1_power (.code yX1_power cX1_power 7 (some .int)) 3 nw_T := ⟨nw_kX1_power, nw_inX1, gy_a_0 (yX1_power, 3) (List.mem_of_getElem? (i := 9) rfl)⟩
theorem nw_iX1_power : Cond.instanceMethod yX1_power ∈ nw_T := nw_tq2 gw_a_2_0 16 rfl
theorem nw_eX1_power : Cond.selects RX1 yX1_power yX1_power ∈ nw_T := nw_tq2 gw_a_2_0 17 rfl
theorem nw_kX1_divide : Cond.code yX1_divide cX1_divide 10 (some .int) ∈ nw_T := nw_tf (nw_ms2 (List.mem_of_getElem? (i := 173) rfl)) rfl
theorem nw_yX1_divide : ne_cy yX1_divide (.code yX1_divide cX1_divide 10 (some .int)) 5 nw_T := ⟨nw_kX1_divide, nw_inX1, gy_a_0 (yX1_divide, 5) (List.mem_of_getElem? (i := 10) rfl)⟩
theorem nw_iX1_divide : Cond.instanceMethod yX1_divide ∈ nw_T := nw_tq2 gw_a_2_0 18 rfl
theorem nw_eX1_divide : Cond.selects RX1 yX1_divide yX1_divide ∈ nw_T := nw_tq2 gw_a_2_0 19 rfl
theorem nw_kX1_share : Cond.code yX1_share cX1_share 7 (some .int) ∈ nw_T := nw_tf (nw_ms2 (List.mem_of_getElem? (i := 184) rfl)) rfl
theorem nw_yX1_share : ne_cy yX1_share (.code yX1_share cX1_share 7 (some .int)) 3 nw_T := ⟨nw_kX1_share, nw_inX1, gy_a_0 (yX1_share, 3) (List.mem_of_getElem? (i := 11) rfl)⟩
theorem nw_iX1_share : Cond.instanceMethod yX1_share ∈ nw_T := nw_tq2 gw_a_2_0 20 rfl
theorem nw_eX1_share : Cond.selects RX1 yX1_share yX1_share ∈ nw_T := nw_tq2 gw_a_2_0 21 rfl
theorem nw_kX1_whole : Cond.code yX1_whole cX1_whole 6 (some .int) ∈ nw_T := nw_tf (nw_ms2 (List.mem_of_getElem? (i := 193) rfl)) rfl
theorem nw_yX1_whole : ne_cy yX1_whole (.code yX1_whole cX1_whole 6 (some .int)) 3 nw_T := ⟨nw_kX1_whole, nw_inX1, gy_a_0 (yX1_whole, 3) (List.mem_of_getElem? (i := 12) rfl)⟩
theorem nw_iX1_whole : Cond.instanceMethod yX1_whole ∈ nw_T := nw_tq2 gw_a_2_0 22 rfl
theorem nw_eX1_whole : Cond.selects RX1 yX1_whole yX1_whole ∈ nw_T := nw_tq2 gw_a_2_0 23 rfl
theorem nw_kX1_rest : Cond.code yX1_rest cX1_rest 6 (some .int) ∈ nw_T := nw_tf (nw_ms2 (List.mem_of_getElem? (i := 200) rfl)) rfl
theorem nw_yX1_rest : ne_cy yX1_rest (.code yX1_rest cX1_rest 6 (some .int)) 3 nw_T := ⟨nw_kX1_rest, nw_inX1, gy_a_0 (yX1_rest, 3) (List.mem_of_getElem? (i := 13) rfl)⟩
theorem nw_iX1_rest : Cond.instanceMethod yX1_rest ∈ nw_T := nw_tq2 gw_a_2_0 24 rfl
theorem nw_eX1_rest : Cond.selects RX1 yX1_rest yX1_rest ∈ nw_T := nw_tq2 gw_a_2_0 25 rfl
theorem nw_kX1_setPlaces : Cond.code yX1_setPlaces cX1_setPlaces 4 (some .int) ∈ nw_T := nw_tf (nw_ms2 (List.mem_of_getElem? (i := 207) rfl)) rfl
theorem nw_yX1_setPlaces : ne_cy yX1_setPlaces (.code yX1_setPlaces cX1_setPlaces 4 (some .int)) 3 nw_T := ⟨nw_kX1_setPlaces, nw_inX1, gy_a_0 (yX1_setPlaces, 3) (List.mem_of_getElem? (i := 14) rfl)⟩
theorem nw_iX1_setPlaces : Cond.instanceMethod yX1_setPlaces ∈ nw_T := nw_tq2 gw_a_2_0 26 rfl
theorem nw_eX1_setPlaces : Cond.selects RX1 yX1_setPlaces yX1_setPlaces ∈ nw_T := nw_tq2 gw_a_2_0 27 rfl
theorem nw_kX1_strip : Cond.code yX1_strip cX1_strip 4 (some .int) ∈ nw_T := nw_tf (nw_ms2 (List.mem_of_getElem? (i := 214) rfl)) rfl
theorem nw_yX1_strip : ne_cy yX1_strip (.code yX1_strip cX1_strip 4 (some .int)) 1 nw_T := ⟨nw_kX1_strip, nw_inX1, gy_a_0 (yX1_strip, 1) (List.mem_of_getElem? (i := 15) rfl)⟩
theorem nw_iX1_strip : Cond.instanceMethod yX1_strip ∈ nw_T := nw_tq2 gw_a_2_0 28 rfl
theorem nw_eX1_strip : Cond.selects RX1 yX1_strip yX1_strip ∈ nw_T := nw_tq2 gw_a_2_0 29 rfl
theorem nw_kX1_move : Cond.code yX1_move cX1_move 3 (some .int) ∈ nw_T := nw_tf (nw_ms2 (List.mem_of_getElem? (i := 221) rfl)) rfl
theorem nw_yX1_move : ne_cy yX1_move (.code yX1_move cX1_move 3 (some .int)) 2 nw_T := ⟨nw_kX1_move, nw_inX1, gy_a_0 (yX1_move, 2) (List.mem_of_getElem? (i := 16) rfl)⟩
theorem nw_iX1_move : Cond.instanceMethod yX1_move ∈ nw_T := nw_tq2 gw_a_2_0 30 rfl
theorem nw_eX1_move : Cond.selects RX1 yX1_move yX1_move ∈ nw_T := nw_tq2 gw_a_2_0 31 rfl
theorem nw_kX1_round : Cond.code yX1_round cX1_round 8 (some .int) ∈ nw_T := nw_tf (nw_ms2 (List.mem_of_getElem? (i := 233) rfl)) rfl
theorem nw_yX1_round : ne_cy yX1_round (.code yX1_round cX1_round 8 (some .int)) 3 nw_T := ⟨nw_kX1_round, nw_inX1, gy_a_0 (yX1_round, 3) (List.mem_of_getElem? (i := 17) rfl)⟩
theorem nw_iX1_round : Cond.instanceMethod yX1_round ∈ nw_T := nw_tq2 gw_a_2_0 32 rfl
theorem nw_eX1_round : Cond.selects RX1 yX1_round yX1_round ∈ nw_T := nw_tq2 gw_a_2_0 33 rfl
theorem nw_kX1_greater : Cond.code yX1_greater cX1_greater 5 (some .int) ∈ nw_T := nw_tf (nw_ms3 (List.mem_of_getElem? (i := 1) rfl)) rfl
theorem nw_yX1_greater : ne_cy yX1_greater (.code yX1_greater cX1_greater 5 (some .int)) 3 nw_T := ⟨nw_kX1_greater, nw_inX1, gy_a_0 (yX1_greater, 3) (List.mem_of_getElem? (i := 18) rfl)⟩
theorem nw_iX1_greater : Cond.instanceMethod yX1_greater ∈ nw_T := nw_tq2 gw_a_2_0 34 rfl
theorem nw_eX1_greater : Cond.selects RX1 yX1_greater yX1_greater ∈ nw_T := nw_tq3 gw_a_3_0 0 rfl
theorem nw_kX1_lesser : Cond.code yX1_lesser cX1_lesser 5 (some .int) ∈ nw_T := nw_tf (nw_ms3 (List.mem_of_getElem? (i := 8) rfl)) rfl
theorem nw_yX1_lesser : ne_cy yX1_lesser (.code yX1_lesser cX1_lesser 5 (some .int)) 3 nw_T := ⟨nw_kX1_lesser, nw_inX1, gy_a_0 (yX1_lesser, 3) (List.mem_of_getElem? (i := 19) rfl)⟩
theorem nw_iX1_lesser : Cond.instanceMethod yX1_lesser ∈ nw_T := nw_tq3 gw_a_3_0 1 rfl
theorem nw_eX1_lesser : Cond.selects RX1 yX1_lesser yX1_lesser ∈ nw_T := nw_tq3 gw_a_3_0 2 rfl
theorem nw_kX1_cut : Cond.code yX1_cut cX1_cut 6 (some .int) ∈ nw_T := nw_tf (nw_ms3 (List.mem_of_getElem? (i := 15) rfl)) rfl
theorem nw_yX1_cut : ne_cy yX1_cut (.code yX1_cut cX1_cut 6 (some .int)) 5 nw_T := ⟨nw_kX1_cut, nw_inX1, gy_a_0 (yX1_cut, 5) (List.mem_of_getElem? (i := 20) rfl)⟩
theorem nw_iX1_cut : Cond.instanceMethod yX1_cut ∈ nw_T := nw_tq3 gw_a_3_0 3 rfl
theorem nw_eX1_cut : Cond.selects RX1 yX1_cut yX1_cut ∈ nw_T := nw_tq3 gw_a_3_0 4 rfl
theorem nw_kX1_count : Cond.code yX1_count cX1_count 2 (some .int) ∈ nw_T := nw_tf (nw_ms3 (List.mem_of_getElem? (i := 26) rfl)) rfl
theorem nw_yX1_count : ne_cy yX1_count (.code yX1_count cX1_count 2 (some .int)) 1 nw_T := ⟨nw_kX1_count, nw_inX1, gy_a_0 (yX1_count, 1) (List.mem_of_getElem? (i := 21) rfl)⟩
theorem nw_iX1_count : Cond.instanceMethod yX1_count ∈ nw_T := nw_tq3 gw_a_3_0 5 rfl
theorem nw_eX1_count : Cond.selects RX1 yX1_count yX1_count ∈ nw_T := nw_tq3 gw_a_3_0 6 rfl
theorem nw_kX1_places : Cond.code yX1_places cX1_places 2 (some .int) ∈ nw_T := nw_tf (nw_ms3 (List.mem_of_getElem? (i := 33) rfl)) rfl
theorem nw_yX1_places : ne_cy yX1_places (.code yX1_places cX1_places 2 (some .int)) 1 nw_T := ⟨nw_kX1_places, nw_inX1, gy_a_0 (yX1_places, 1) (List.mem_of_getElem? (i := 22) rfl)⟩
theorem nw_iX1_places : Cond.instanceMethod yX1_places ∈ nw_T := nw_tq3 gw_a_3_0 7 rfl
theorem nw_eX1_places : Cond.selects RX1 yX1_places yX1_places ∈ nw_T := nw_tq3 gw_a_3_0 8 rfl
theorem nw_kX1_digits : Cond.code yX1_digits cX1_digits 2 (some .int) ∈ nw_T := nw_tf (nw_ms3 (List.mem_of_getElem? (i := 40) rfl)) rfl
theorem nw_yX1_digits : ne_cy yX1_digits (.code yX1_digits cX1_digits 2 (some .int)) 1 nw_T := ⟨nw_kX1_digits, nw_inX1, gy_a_0 (yX1_digits, 1) (List.mem_of_getElem? (i := 23) rfl)⟩
theorem nw_iX1_digits : Cond.instanceMethod yX1_digits ∈ nw_T := nw_tq3 gw_a_3_0 9 rfl
theorem nw_eX1_digits : Cond.selects RX1 yX1_digits yX1_digits ∈ nw_T := nw_tq3 gw_a_3_0 10 rfl
theorem nw_kX1_sign : Cond.code yX1_sign cX1_sign 2 (some .int) ∈ nw_T := nw_tf (nw_ms3 (List.mem_of_getElem? (i := 47) rfl)) rfl
theorem nw_yX1_sign : ne_cy yX1_sign (.code yX1_sign cX1_sign 2 (some .int)) 1 nw_T := ⟨nw_kX1_sign, nw_inX1, gy_a_0 (yX1_sign, 1) (List.mem_of_getElem? (i := 24) rfl)⟩
theorem nw_iX1_sign : Cond.instanceMethod yX1_sign ∈ nw_T := nw_tq3 gw_a_3_0 11 rfl
theorem nw_eX1_sign : Cond.selects RX1 yX1_sign yX1_sign ∈ nw_T := nw_tq3 gw_a_3_0 12 rfl
theorem nw_kX1_text : Cond.code yX1_text cX1_text 3 (some (.object "java/lang/String")) ∈ nw_T := nw_tf (nw_ms3 (List.mem_of_getElem? (i := 54) rfl)) rfl
theorem nw_yX1_text : ne_cy yX1_text (.code yX1_text cX1_text 3 (some (.object "java/lang/String"))) 2 nw_T := ⟨nw_kX1_text, nw_inX1, gy_a_0 (yX1_text, 2) (List.mem_of_getElem? (i := 25) rfl)⟩
theorem nw_iX1_text : Cond.instanceMethod yX1_text ∈ nw_T := nw_tq3 gw_a_3_0 13 rfl
theorem nw_eX1_text : Cond.selects RX1 yX1_text yX1_text ∈ nw_T := nw_tq3 gw_a_3_0 14 rfl
theorem nw_kX1_order : Cond.code yX1_order cX1_order 3 (some .int) ∈ nw_T := nw_tf (nw_ms4 (List.mem_of_getElem? (i := 120) rfl)) rfl
theorem nw_yX1_order : ne_cy yX1_order (.code yX1_order cX1_order 3 (some .int)) 2 nw_T := ⟨nw_kX1_order, nw_inX1, gy_a_0 (yX1_order, 2) (List.mem_of_getElem? (i := 26) rfl)⟩
theorem nw_iX1_order : Cond.instanceMethod yX1_order ∈ nw_T := nw_tq4 gw_a_4_0 0 rfl
theorem nw_eX1_order : Cond.selects RX1 yX1_order yX1_order ∈ nw_T := nw_tq4 gw_a_4_0 1 rfl
theorem nw_kX1_same : Cond.code yX1_same cX1_same 3 (some .boolean) ∈ nw_T := nw_tf (nw_ms4 (List.mem_of_getElem? (i := 127) rfl)) rfl
theorem nw_yX1_same : ne_cy yX1_same (.code yX1_same cX1_same 3 (some .boolean)) 2 nw_T := ⟨nw_kX1_same, nw_inX1, gy_a_0 (yX1_same, 2) (List.mem_of_getElem? (i := 27) rfl)⟩
theorem nw_iX1_same : Cond.instanceMethod yX1_same ∈ nw_T := nw_tq4 gw_a_4_0 2 rfl
theorem nw_eX1_same : Cond.selects RX1 yX1_same yX1_same ∈ nw_T := nw_tq4 gw_a_4_0 3 rfl
theorem nw_kX1_setWheel : Cond.code yX1_setWheel cX1_setWheel 4 (some .int) ∈ nw_T := nw_tf (nw_ms4 (List.mem_of_getElem? (i := 134) rfl)) rfl
theorem nw_yX1_setWheel : ne_cy yX1_setWheel (.code yX1_setWheel cX1_setWheel 4 (some .int)) 3 nw_T := ⟨nw_kX1_setWheel, nw_inX1, gy_a_0 (yX1_setWheel, 3) (List.mem_of_getElem? (i := 28) rfl)⟩
theorem nw_iX1_setWheel : Cond.instanceMethod yX1_setWheel ∈ nw_T := nw_tq4 gw_a_4_0 4 rfl
theorem nw_eX1_setWheel : Cond.selects RX1 yX1_setWheel yX1_setWheel ∈ nw_T := nw_tq4 gw_a_4_0 5 rfl
theorem nw_kX1_step : Cond.code yX1_step cX1_step 3 (some .int) ∈ nw_T := nw_tf (nw_ms4 (List.mem_of_getElem? (i := 152) rfl)) rfl
theorem nw_yX1_step : ne_cy yX1_step (.code yX1_step cX1_step 3 (some .int)) 1 nw_T := ⟨nw_kX1_step, nw_inX1, gy_a_0 (yX1_step, 1) (List.mem_of_getElem? (i := 29) rfl)⟩
theorem nw_iX1_step : Cond.instanceMethod yX1_step ∈ nw_T := nw_tq4 gw_a_4_0 6 rfl
theorem nw_eX1_step : Cond.selects RX1 yX1_step yX1_step ∈ nw_T := nw_tq4 gw_a_4_0 7 rfl
theorem nw_kX1_turn : Cond.code yX1_turn cX1_turn 3 (some .int) ∈ nw_T := nw_tf (nw_ms4 (List.mem_of_getElem? (i := 163) rfl)) rfl
theorem nw_yX1_turn : ne_cy yX1_turn (.code yX1_turn cX1_turn 3 (some .int)) 2 nw_T := ⟨nw_kX1_turn, nw_inX1, gy_a_1 (yX1_turn, 2) (List.mem_of_getElem? (i := 0) rfl)⟩
theorem nw_iX1_turn : Cond.instanceMethod yX1_turn ∈ nw_T := nw_tq4 gw_a_4_0 8 rfl
theorem nw_eX1_turn : Cond.selects RX1 yX1_turn yX1_turn ∈ nw_T := nw_tq4 gw_a_4_0 9 rfl
theorem nw_kX1_times : Cond.code yX1_times cX1_times 4 (some .int) ∈ nw_T := nw_tf (nw_ms4 (List.mem_of_getElem? (i := 171) rfl)) rfl
theorem nw_yX1_times : ne_cy yX1_times (.code yX1_times cX1_times 4 (some .int)) 3 nw_T := ⟨nw_kX1_times, nw_inX1, gy_a_1 (yX1_times, 3) (List.mem_of_getElem? (i := 1) rfl)⟩
theorem nw_iX1_times : Cond.instanceMethod yX1_times ∈ nw_T := nw_tq4 gw_a_4_0 10 rfl
theorem nw_eX1_times : Cond.selects RX1 yX1_times yX1_times ∈ nw_T := nw_tq4 gw_a_4_0 11 rfl
theorem nw_kX1_spoke : Cond.code yX1_spoke cX1_spoke 3 (some .int) ∈ nw_T := nw_tf (nw_ms4 (List.mem_of_getElem? (i := 178) rfl)) rfl
theorem nw_yX1_spoke : ne_cy yX1_spoke (.code yX1_spoke cX1_spoke 3 (some .int)) 2 nw_T := ⟨nw_kX1_spoke, nw_inX1, gy_a_1 (yX1_spoke, 2) (List.mem_of_getElem? (i := 2) rfl)⟩
theorem nw_iX1_spoke : Cond.instanceMethod yX1_spoke ∈ nw_T := nw_tq4 gw_a_4_0 12 rfl
theorem nw_eX1_spoke : Cond.selects RX1 yX1_spoke yX1_spoke ∈ nw_T := nw_tq4 gw_a_4_0 13 rfl
theorem nw_kX1_lowest : Cond.code yX1_lowest cX1_lowest 4 (some .int) ∈ nw_T := nw_tf (nw_ms4 (List.mem_of_getElem? (i := 186) rfl)) rfl
theorem nw_yX1_lowest : ne_cy yX1_lowest (.code yX1_lowest cX1_lowest 4 (some .int)) 1 nw_T := ⟨nw_kX1_lowest, nw_inX1, gy_a_1 (yX1_lowest, 1) (List.mem_of_getElem? (i := 3) rfl)⟩
theorem nw_iX1_lowest : Cond.instanceMethod yX1_lowest ∈ nw_T := nw_tq4 gw_a_4_0 14 rfl
theorem nw_eX1_lowest : Cond.selects RX1 yX1_lowest yX1_lowest ∈ nw_T := nw_tq4 gw_a_4_0 15 rfl
theorem nw_kX1_tens : Cond.code yX1_tens cX1_tens 2 (some .int) ∈ nw_T := nw_tf (nw_ms4 (List.mem_of_getElem? (i := 193) rfl)) rfl
theorem nw_yX1_tens : ne_cy yX1_tens (.code yX1_tens cX1_tens 2 (some .int)) 1 nw_T := ⟨nw_kX1_tens, nw_inX1, gy_a_1 (yX1_tens, 1) (List.mem_of_getElem? (i := 4) rfl)⟩
theorem nw_iX1_tens : Cond.instanceMethod yX1_tens ∈ nw_T := nw_tq4 gw_a_4_0 16 rfl
theorem nw_eX1_tens : Cond.selects RX1 yX1_tens yX1_tens ∈ nw_T := nw_tq4 gw_a_4_0 17 rfl
theorem nw_kX1_restAt : Cond.code yX1_restAt cX1_restAt 3 (some .int) ∈ nw_T := nw_tf (nw_ms4 (List.mem_of_getElem? (i := 200) rfl)) rfl
theorem nw_yX1_restAt : ne_cy yX1_restAt (.code yX1_restAt cX1_restAt 3 (some .int)) 2 nw_T := ⟨nw_kX1_restAt, nw_inX1, gy_a_1 (yX1_restAt, 2) (List.mem_of_getElem? (i := 5) rfl)⟩
theorem nw_iX1_restAt : Cond.instanceMethod yX1_restAt ∈ nw_T := nw_tq4 gw_a_4_0 18 rfl
theorem nw_eX1_restAt : Cond.selects RX1 yX1_restAt yX1_restAt ∈ nw_T := nw_tq4 gw_a_4_0 19 rfl
theorem nw_kX1_digitsFrom : Cond.code yX1_digitsFrom cX1_digitsFrom 4 (some (.object "java/lang/String")) ∈ nw_T := nw_tf (nw_ms4 (List.mem_of_getElem? (i := 207) rfl)) rfl
theorem nw_yX1_digitsFrom : ne_cy yX1_digitsFrom (.code yX1_digitsFrom cX1_digitsFrom 4 (some (.object "java/lang/String"))) 3 nw_T := ⟨nw_kX1_digitsFrom, nw_inX1, gy_a_1 (yX1_digitsFrom, 3) (List.mem_of_getElem? (i := 6) rfl)⟩
theorem nw_iX1_digitsFrom : Cond.instanceMethod yX1_digitsFrom ∈ nw_T := nw_tq4 gw_a_4_0 20 rfl
theorem nw_eX1_digitsFrom : Cond.selects RX1 yX1_digitsFrom yX1_digitsFrom ∈ nw_T := nw_tq4 gw_a_4_0 21 rfl
theorem nw_kX1_cutText : Cond.code yX1_cutText cX1_cutText 7 (some (.object "java/lang/String")) ∈ nw_T := nw_tf (nw_ms4 (List.mem_of_getElem? (i := 219) rfl)) rfl
theorem nw_yX1_cutText : ne_cy yX1_cutText (.code yX1_cutText cX1_cutText 7 (some (.object "java/lang/String"))) 4 nw_T := ⟨nw_kX1_cutText, nw_inX1, gy_a_1 (yX1_cutText, 4) (List.mem_of_getElem? (i := 7) rfl)⟩
theorem nw_iX1_cutText : Cond.instanceMethod yX1_cutText ∈ nw_T := nw_tq4 gw_a_4_0 22 rfl
theorem nw_eX1_cutText : Cond.selects RX1 yX1_cutText yX1_cutText ∈ nw_T := nw_tq4 gw_a_4_0 23 rfl
theorem nw_kX1_number : Cond.code yX1_number cX1_number 2 (some (.object "java/lang/String")) ∈ nw_T := nw_tf (nw_ms4 (List.mem_of_getElem? (i := 227) rfl)) rfl
theorem nw_yX1_number : ne_cy yX1_number (.code yX1_number cX1_number 2 (some (.object "java/lang/String"))) 1 nw_T := ⟨nw_kX1_number, nw_inX1, gy_a_1 (yX1_number, 1) (List.mem_of_getElem? (i := 8) rfl)⟩
theorem nw_iX1_number : Cond.instanceMethod yX1_number ∈ nw_T := nw_tq4 gw_a_4_0 24 rfl
theorem nw_eX1_number : Cond.selects RX1 yX1_number yX1_number ∈ nw_T := nw_tq4 gw_a_4_0 25 rfl
theorem nw_kX1_product : Cond.code yX1_product cX1_product 2 (some (.object "java/lang/String")) ∈ nw_T := nw_tf (nw_ms4 (List.mem_of_getElem? (i := 234) rfl)) rfl
theorem nw_yX1_product : ne_cy yX1_product (.code yX1_product cX1_product 2 (some (.object "java/lang/String"))) 1 nw_T := ⟨nw_kX1_product, nw_inX1, gy_a_1 (yX1_product, 1) (List.mem_of_getElem? (i := 9) rfl)⟩
theorem nw_iX1_product : Cond.instanceMethod yX1_product ∈ nw_T := nw_tq4 gw_a_4_0 26 rfl
theorem nw_eX1_product : Cond.selects RX1 yX1_product yX1_product ∈ nw_T := nw_tq4 gw_a_4_0 27 rfl
theorem nw_kX1_partSum : Cond.code yX1_partSum cX1_partSum 3 (some (.object "java/lang/String")) ∈ nw_T := nw_tf (nw_ms5 (List.mem_of_getElem? (i := 10) rfl)) rfl
theorem nw_yX1_partSum : ne_cy yX1_partSum (.code yX1_partSum cX1_partSum 3 (some (.object "java/lang/String"))) 2 nw_T := ⟨nw_kX1_partSum, nw_inX1, gy_a_1 (yX1_partSum, 2) (List.mem_of_getElem? (i := 10) rfl)⟩
theorem nw_iX1_partSum : Cond.instanceMethod yX1_partSum ∈ nw_T := nw_tq5 gw_a_5_0 0 rfl
theorem nw_eX1_partSum : Cond.selects RX1 yX1_partSum yX1_partSum ∈ nw_T := nw_tq5 gw_a_5_0 1 rfl
theorem nw_kX1_nines : Cond.code yX1_nines cX1_nines 3 (some .int) ∈ nw_T := nw_tf (nw_ms5 (List.mem_of_getElem? (i := 18) rfl)) rfl
theorem nw_yX1_nines : ne_cy yX1_nines (.code yX1_nines cX1_nines 3 (some .int)) 2 nw_T := ⟨nw_kX1_nines, nw_inX1, gy_a_1 (yX1_nines, 2) (List.mem_of_getElem? (i := 11) rfl)⟩
theorem nw_iX1_nines : Cond.instanceMethod yX1_nines ∈ nw_T := nw_tq5 gw_a_5_0 2 rfl
theorem nw_eX1_nines : Cond.selects RX1 yX1_nines yX1_nines ∈ nw_T := nw_tq5 gw_a_5_0 3 rfl
theorem nw_kX1_placeOf : Cond.code yX1_placeOf cX1_placeOf 5 (some .int) ∈ nw_T := nw_tf (nw_ms5 (List.mem_of_getElem? (i := 25) rfl)) rfl
theorem nw_yX1_placeOf : ne_cy yX1_placeOf (.code yX1_placeOf cX1_placeOf 5 (some .int)) 2 nw_T := ⟨nw_kX1_placeOf, nw_inX1, gy_a_1 (yX1_placeOf, 2) (List.mem_of_getElem? (i := 12) rfl)⟩
theorem nw_iX1_placeOf : Cond.instanceMethod yX1_placeOf ∈ nw_T := nw_tq5 gw_a_5_0 4 rfl
theorem nw_eX1_placeOf : Cond.selects RX1 yX1_placeOf yX1_placeOf ∈ nw_T := nw_tq5 gw_a_5_0 5 rfl
theorem nw_kX1_wheelOrder : Cond.code yX1_wheelOrder cX1_wheelOrder 3 (some .int) ∈ nw_T := nw_tf (nw_ms5 (List.mem_of_getElem? (i := 32) rfl)) rfl
theorem nw_yX1_wheelOrder : ne_cy yX1_wheelOrder (.code yX1_wheelOrder cX1_wheelOrder 3 (some .int)) 2 nw_T := ⟨nw_kX1_wheelOrder, nw_inX1, gy_a_1 (yX1_wheelOrder, 2) (List.mem_of_getElem? (i := 13) rfl)⟩
theorem nw_iX1_wheelOrder : Cond.instanceMethod yX1_wheelOrder ∈ nw_T := nw_tq5 gw_a_5_0 6 rfl
theorem nw_eX1_wheelOrder : Cond.selects RX1 yX1_wheelOrder yX1_wheelOrder ∈ nw_T := nw_tq5 gw_a_5_0 7 rfl
theorem nw_kX1_against : Cond.code yX1_against cX1_against 3 (some .int) ∈ nw_T := nw_tf (nw_ms5 (List.mem_of_getElem? (i := 39) rfl)) rfl
theorem nw_yX1_against : ne_cy yX1_against (.code yX1_against cX1_against 3 (some .int)) 2 nw_T := ⟨nw_kX1_against, nw_inX1, gy_a_1 (yX1_against, 2) (List.mem_of_getElem? (i := 14) rfl)⟩
theorem nw_iX1_against : Cond.instanceMethod yX1_against ∈ nw_T := nw_tq5 gw_a_5_0 8 rfl
theorem nw_eX1_against : Cond.selects RX1 yX1_against yX1_against ∈ nw_T := nw_tq5 gw_a_5_0 9 rfl
theorem nw_kX1_house : Cond.code yX1_house cX1_house 2 (some .int) ∈ nw_T := nw_tf (nw_ms5 (List.mem_of_getElem? (i := 46) rfl)) rfl
theorem nw_yX1_house : ne_cy yX1_house (.code yX1_house cX1_house 2 (some .int)) 1 nw_T := ⟨nw_kX1_house, nw_inX1, gy_a_1 (yX1_house, 1) (List.mem_of_getElem? (i := 15) rfl)⟩
theorem nw_iX1_house : Cond.instanceMethod yX1_house ∈ nw_T := nw_tq5 gw_a_5_0 10 rfl
theorem nw_eX1_house : Cond.selects RX1 yX1_house yX1_house ∈ nw_T := nw_tq5 gw_a_5_0 11 rfl
theorem nw_kX1_knock : Cond.code yX1_knock cX1_knock 1 (some .int) ∈ nw_T := nw_tf (nw_ms1 (List.mem_of_getElem? (i := 72) rfl)) rfl
theorem nw_yX1_knock : ne_cy yX1_knock (.code yX1_knock cX1_knock 1 (some .int)) 0 nw_T := ⟨nw_kX1_knock, nw_inX1, gy_a_1 (yX1_knock, 0) (List.mem_of_getElem? (i := 16) rfl)⟩
theorem nw_iX1_knock : Cond.instanceMethod yX1_knock ∈ nw_T := nw_tq1 gw_a_1_0 2 rfl
theorem nw_eX1_knock : Cond.selects RX1 yX1_knock yX1_knock ∈ nw_T := nw_tq1 gw_a_1_0 3 rfl
theorem nw_kX1_isSound : Cond.code yX1_isSound cX1_isSound 2 (some .boolean) ∈ nw_T := nw_tf (nw_ms1 (List.mem_of_getElem? (i := 76) rfl)) rfl
theorem nw_yX1_isSound : ne_cy yX1_isSound (.code yX1_isSound cX1_isSound 2 (some .boolean)) 0 nw_T := ⟨nw_kX1_isSound, nw_inX1, gy_a_1 (yX1_isSound, 0) (List.mem_of_getElem? (i := 17) rfl)⟩
theorem nw_iX1_isSound : Cond.instanceMethod yX1_isSound ∈ nw_T := nw_tq1 gw_a_1_0 4 rfl
theorem nw_eX1_isSound : Cond.selects RX1 yX1_isSound yX1_isSound ∈ nw_T := nw_tq1 gw_a_1_0 5 rfl
theorem nw_kX1_digest : Cond.code yX1_digest cX1_digest 4 (some .long) ∈ nw_T := nw_tf (nw_ms1 (List.mem_of_getElem? (i := 174) rfl)) rfl
theorem nw_yX1_digest : ne_cy yX1_digest (.code yX1_digest cX1_digest 4 (some .long)) 0 nw_T := ⟨nw_kX1_digest, nw_inX1, gy_a_1 (yX1_digest, 0) (List.mem_of_getElem? (i := 18) rfl)⟩
theorem nw_iX1_digest : Cond.instanceMethod yX1_digest ∈ nw_T := nw_tq1 gw_a_1_0 6 rfl
theorem nw_eX1_digest : Cond.selects RX1 yX1_digest yX1_digest ∈ nw_T := nw_tq1 gw_a_1_0 7 rfl
theorem nw_kX1_requireCell : Cond.code yX1_requireCell cX1_requireCell 1 (none) ∈ nw_T := nw_tf (nw_ms2 (List.mem_of_getElem? (i := 12) rfl)) rfl
theorem nw_yX1_requireCell : ne_cy yX1_requireCell (.code yX1_requireCell cX1_requireCell 1 (none)) 1 nw_T := ⟨nw_kX1_requireCell, nw_inX1, gy_a_1 (yX1_requireCell, 1) (List.mem_of_getElem? (i := 19) rfl)⟩
theorem nw_sX1_requireCell : Cond.static yX1_requireCell ∈ nw_T := nw_tq2 gw_a_2_0 35 rfl
theorem nw_kX1_requireWheel : Cond.code yX1_requireWheel cX1_requireWheel 1 (none) ∈ nw_T := nw_tf (nw_ms3 (List.mem_of_getElem? (i := 18) rfl)) rfl
theorem nw_yX1_requireWheel : ne_cy yX1_requireWheel (.code yX1_requireWheel cX1_requireWheel 1 (none)) 1 nw_T := ⟨nw_kX1_requireWheel, nw_inX1, gy_a_1 (yX1_requireWheel, 1) (List.mem_of_getElem? (i := 20) rfl)⟩
theorem nw_sX1_requireWheel : Cond.static yX1_requireWheel ∈ nw_T := nw_tq3 gw_a_3_0 15 rfl
theorem nw_kX1_requireBetween : Cond.code yX1_requireBetween cX1_requireBetween 5 (none) ∈ nw_T := nw_tf (nw_ms2 (List.mem_of_getElem? (i := 82) rfl)) rfl
theorem nw_yX1_requireBetween : ne_cy yX1_requireBetween (.code yX1_requireBetween cX1_requireBetween 5 (none)) 3 nw_T := ⟨nw_kX1_requireBetween, nw_inX1, gy_a_1 (yX1_requireBetween, 3) (List.mem_of_getElem? (i := 21) rfl)⟩
theorem nw_sX1_requireBetween : Cond.static yX1_requireBetween ∈ nw_T := nw_tq2 gw_a_2_0 36 rfl
theorem nw_kX1_requireWay : Cond.code yX1_requireWay cX1_requireWay 1 (none) ∈ nw_T := nw_tf (nw_ms2 (List.mem_of_getElem? (i := 176) rfl)) rfl
theorem nw_yX1_requireWay : ne_cy yX1_requireWay (.code yX1_requireWay cX1_requireWay 1 (none)) 1 nw_T := ⟨nw_kX1_requireWay, nw_inX1, gy_a_1 (yX1_requireWay, 1) (List.mem_of_getElem? (i := 22) rfl)⟩
theorem nw_sX1_requireWay : Cond.static yX1_requireWay ∈ nw_T := nw_tq2 gw_a_2_0 37 rfl
theorem nw_kX1_requireBottom : Cond.code yX1_requireBottom cX1_requireBottom 1 (none) ∈ nw_T := nw_tf (nw_ms4 (List.mem_of_getElem? (i := 137) rfl)) rfl
theorem nw_yX1_requireBottom : ne_cy yX1_requireBottom (.code yX1_requireBottom cX1_requireBottom 1 (none)) 1 nw_T := ⟨nw_kX1_requireBottom, nw_inX1, gy_a_1 (yX1_requireBottom, 1) (List.mem_of_getElem? (i := 23) rfl)⟩
theorem nw_sX1_requireBottom : Cond.static yX1_requireBottom ∈ nw_T := nw_tq4 gw_a_4_0 28 rfl
theorem nw_kX1_fits : Cond.code yX1_fits cX1_fits 3 (some .boolean) ∈ nw_T := nw_tf (nw_ms1 (List.mem_of_getElem? (i := 79) rfl)) rfl
theorem nw_yX1_fits : ne_cy yX1_fits (.code yX1_fits cX1_fits 3 (some .boolean)) 2 nw_T := ⟨nw_kX1_fits, nw_inX1, gy_a_1 (yX1_fits, 2) (List.mem_of_getElem? (i := 24) rfl)⟩
theorem nw_sX1_fits : Cond.static yX1_fits ∈ nw_T := nw_tq1 gw_a_1_0 8 rfl
theorem nw_kX1_bring : Cond.code yX1_bring cX1_bring 5 (some .int) ∈ nw_T := nw_tf (nw_ms2 (List.mem_of_getElem? (i := 103) rfl)) rfl
theorem nw_yX1_bring : ne_cy yX1_bring (.code yX1_bring cX1_bring 5 (some .int)) 3 nw_T := ⟨nw_kX1_bring, nw_inX1, gy_a_1 (yX1_bring, 3) (List.mem_of_getElem? (i := 25) rfl)⟩
theorem nw_iX1_bring : Cond.instanceMethod yX1_bring ∈ nw_T := nw_tq2 gw_a_2_0 38 rfl
theorem nw_eX1_bring : Cond.selects RX1 yX1_bring yX1_bring ∈ nw_T := nw_tq gw_a_0_0 0 rfl
theorem nw_kX1_bringAt : Cond.code yX1_bringAt cX1_bringAt 5 (some .int) ∈ nw_T := nw_tf (nw_ms2 (List.mem_of_getElem? (i := 226) rfl)) rfl
theorem nw_yX1_bringAt : ne_cy yX1_bringAt (.code yX1_bringAt cX1_bringAt 5 (some .int)) 3 nw_T := ⟨nw_kX1_bringAt, nw_inX1, gy_a_1 (yX1_bringAt, 3) (List.mem_of_getElem? (i := 26) rfl)⟩
theorem nw_iX1_bringAt : Cond.instanceMethod yX1_bringAt ∈ nw_T := nw_tq2 gw_a_2_0 39 rfl
theorem nw_eX1_bringAt : Cond.selects RX1 yX1_bringAt yX1_bringAt ∈ nw_T := nw_tq gw_a_0_0 1 rfl
theorem nw_kX1_decline : Cond.code yX1_decline cX1_decline 1 (some .int) ∈ nw_T := nw_tf (nw_ms2 (List.mem_of_getElem? (i := 107) rfl)) rfl
theorem nw_yX1_decline : ne_cy yX1_decline (.code yX1_decline cX1_decline 1 (some .int)) 0 nw_T := ⟨nw_kX1_decline, nw_inX1, gy_a_1 (yX1_decline, 0) (List.mem_of_getElem? (i := 27) rfl)⟩
theorem nw_iX1_decline : Cond.instanceMethod yX1_decline ∈ nw_T := nw_tq2 gw_a_2_0 40 rfl
theorem nw_eX1_decline : Cond.selects RX1 yX1_decline yX1_decline ∈ nw_T := nw_tq gw_a_0_0 2 rfl
theorem nw_kX1_countAt : Cond.code yX1_countAt cX1_countAt 3 (some .long) ∈ nw_T := nw_tf (nw_ms1 (List.mem_of_getElem? (i := 92) rfl)) rfl
theorem nw_yX1_countAt : ne_cy yX1_countAt (.code yX1_countAt cX1_countAt 3 (some .long)) 2 nw_T := ⟨nw_kX1_countAt, nw_inX1, gy_a_1 (yX1_countAt, 2) (List.mem_of_getElem? (i := 28) rfl)⟩
theorem nw_iX1_countAt : Cond.instanceMethod yX1_countAt ∈ nw_T := nw_tq1 gw_a_1_0 9 rfl
theorem nw_eX1_countAt : Cond.selects RX1 yX1_countAt yX1_countAt ∈ nw_T := nw_tq gw_a_0_0 3 rfl
theorem nw_kX1_orderOfCells : Cond.code yX1_orderOfCells cX1_orderOfCells 3 (some .int) ∈ nw_T := nw_tf (nw_ms1 (List.mem_of_getElem? (i := 100) rfl)) rfl
theorem nw_yX1_orderOfCells : ne_cy yX1_orderOfCells (.code yX1_orderOfCells cX1_orderOfCells 3 (some .int)) 2 nw_T := ⟨nw_kX1_orderOfCells, nw_inX1, gy_a_1 (yX1_orderOfCells, 2) (List.mem_of_getElem? (i := 29) rfl)⟩
theorem nw_iX1_orderOfCells : Cond.instanceMethod yX1_orderOfCells ∈ nw_T := nw_tq1 gw_a_1_0 10 rfl
theorem nw_eX1_orderOfCells : Cond.selects RX1 yX1_orderOfCells yX1_orderOfCells ∈ nw_T := nw_tq gw_a_0_0 4 rfl
theorem nw_kX1_areSame : Cond.code yX1_areSame cX1_areSame 3 (some .boolean) ∈ nw_T := nw_tf (nw_ms1 (List.mem_of_getElem? (i := 107) rfl)) rfl
theorem nw_yX1_areSame : ne_cy yX1_areSame (.code yX1_areSame cX1_areSame 3 (some .boolean)) 2 nw_T := ⟨nw_kX1_areSame, nw_inX1, gy_a_2 (yX1_areSame, 2) (List.mem_of_getElem? (i := 0) rfl)⟩
theorem nw_iX1_areSame : Cond.instanceMethod yX1_areSame ∈ nw_T := nw_tq1 gw_a_1_0 11 rfl
theorem nw_eX1_areSame : Cond.selects RX1 yX1_areSame yX1_areSame ∈ nw_T := nw_tq gw_a_0_0 5 rfl
theorem nw_kX1_signOf : Cond.code yX1_signOf cX1_signOf 2 (some .int) ∈ nw_T := nw_tf (nw_ms1 (List.mem_of_getElem? (i := 103) rfl)) rfl
theorem nw_yX1_signOf : ne_cy yX1_signOf (.code yX1_signOf cX1_signOf 2 (some .int)) 1 nw_T := ⟨nw_kX1_signOf, nw_inX1, gy_a_2 (yX1_signOf, 1) (List.mem_of_getElem? (i := 1) rfl)⟩
theorem nw_sX1_signOf : Cond.static yX1_signOf ∈ nw_T := nw_tq1 gw_a_1_0 12 rfl
theorem nw_kX1_tenTo : Cond.code yX1_tenTo cX1_tenTo 4 (some .long) ∈ nw_T := nw_tf (nw_ms1 (List.mem_of_getElem? (i := 95) rfl)) rfl
theorem nw_yX1_tenTo : ne_cy yX1_tenTo (.code yX1_tenTo cX1_tenTo 4 (some .long)) 1 nw_T := ⟨nw_kX1_tenTo, nw_inX1, gy_a_2 (yX1_tenTo, 1) (List.mem_of_getElem? (i := 2) rfl)⟩
theorem nw_sX1_tenTo : Cond.static yX1_tenTo ∈ nw_T := nw_tq1 gw_a_1_0 13 rfl
theorem nw_kX1_digitsIn : Cond.code yX1_digitsIn cX1_digitsIn 5 (some .int) ∈ nw_T := nw_tf (nw_ms1 (List.mem_of_getElem? (i := 186) rfl)) rfl
theorem nw_yX1_digitsIn : ne_cy yX1_digitsIn (.code yX1_digitsIn cX1_digitsIn 5 (some .int)) 1 nw_T := ⟨nw_kX1_digitsIn, nw_inX1, gy_a_2 (yX1_digitsIn, 1) (List.mem_of_getElem? (i := 3) rfl)⟩
theorem nw_sX1_digitsIn : Cond.static yX1_digitsIn ∈ nw_T := nw_tq1 gw_a_1_0 14 rfl
theorem nw_kX1_decimalText : Cond.code yX1_decimalText cX1_decimalText 8 (some (.object "java/lang/String")) ∈ nw_T := nw_tf (nw_ms3 (List.mem_of_getElem? (i := 57) rfl)) rfl
theorem nw_yX1_decimalText : ne_cy yX1_decimalText (.code yX1_decimalText cX1_decimalText 8 (some (.object "java/lang/String"))) 2 nw_T := ⟨nw_kX1_decimalText, nw_inX1, gy_a_2 (yX1_decimalText, 2) (List.mem_of_getElem? (i := 4) rfl)⟩
theorem nw_sX1_decimalText : Cond.static yX1_decimalText ∈ nw_T := nw_tq3 gw_a_3_0 16 rfl
theorem nw_kX1_signOfDigit : Cond.code yX1_signOfDigit cX1_signOfDigit 1 (some .char) ∈ nw_T := nw_tf (nw_ms3 (List.mem_of_getElem? (i := 184) rfl)) rfl
theorem nw_yX1_signOfDigit : ne_cy yX1_signOfDigit (.code yX1_signOfDigit cX1_signOfDigit 1 (some .char)) 1 nw_T := ⟨nw_kX1_signOfDigit, nw_inX1, gy_a_2 (yX1_signOfDigit, 1) (List.mem_of_getElem? (i := 5) rfl)⟩
theorem nw_sX1_signOfDigit : Cond.static yX1_signOfDigit ∈ nw_T := nw_tq3 gw_a_3_0 17 rfl
theorem nw_kX1_rounded : Cond.code yX1_rounded cX1_rounded 9 (some .long) ∈ nw_T := nw_tf (nw_ms1 (List.mem_of_getElem? (i := 162) rfl)) rfl
theorem nw_yX1_rounded : ne_cy yX1_rounded (.code yX1_rounded cX1_rounded 9 (some .long)) 3 nw_T := ⟨nw_kX1_rounded, nw_inX1, gy_a_2 (yX1_rounded, 3) (List.mem_of_getElem? (i := 6) rfl)⟩
theorem nw_sX1_rounded : Cond.static yX1_rounded ∈ nw_T := nw_tq1 gw_a_1_0 15 rfl
theorem nw_kX1_isFartherTaken : Cond.code yX1_isFartherTaken cX1_isFartherTaken 6 (some .boolean) ∈ nw_T := nw_tf (nw_ms1 (List.mem_of_getElem? (i := 170) rfl)) rfl
theorem nw_yX1_isFartherTaken : ne_cy yX1_isFartherTaken (.code yX1_isFartherTaken cX1_isFartherTaken 6 (some .boolean)) 4 nw_T := ⟨nw_kX1_isFartherTaken, nw_inX1, gy_a_2 (yX1_isFartherTaken, 4) (List.mem_of_getElem? (i := 7) rfl)⟩
theorem nw_sX1_isFartherTaken : Cond.static yX1_isFartherTaken ∈ nw_T := nw_tq1 gw_a_1_0 16 rfl
theorem nw_kX1_cutCount : Cond.code yX1_cutCount cX1_cutCount 7 (some .long) ∈ nw_T := nw_tf (nw_ms1 (List.mem_of_getElem? (i := 159) rfl)) rfl
theorem nw_yX1_cutCount : ne_cy yX1_cutCount (.code yX1_cutCount cX1_cutCount 7 (some .long)) 4 nw_T := ⟨nw_kX1_cutCount, nw_inX1, gy_a_2 (yX1_cutCount, 4) (List.mem_of_getElem? (i := 8) rfl)⟩
theorem nw_iX1_cutCount : Cond.instanceMethod yX1_cutCount ∈ nw_T := nw_tq1 gw_a_1_0 17 rfl
theorem nw_eX1_cutCount : Cond.selects RX1 yX1_cutCount yX1_cutCount ∈ nw_T := nw_tq gw_a_0_0 6 rfl
theorem nw_kX1_leftover : Cond.code yX1_leftover cX1_leftover 2 (some .int) ∈ nw_T := nw_tf (nw_ms1 (List.mem_of_getElem? (i := 117) rfl)) rfl
theorem nw_yX1_leftover : ne_cy yX1_leftover (.code yX1_leftover cX1_leftover 2 (some .int)) 2 nw_T := ⟨nw_kX1_leftover, nw_inX1, gy_a_2 (yX1_leftover, 2) (List.mem_of_getElem? (i := 9) rfl)⟩
theorem nw_sX1_leftover : Cond.static yX1_leftover ∈ nw_T := nw_tq1 gw_a_1_0 18 rfl
theorem nw_kX1_restAfter : Cond.code yX1_restAfter cX1_restAfter 2 (some .int) ∈ nw_T := nw_tf (nw_ms1 (List.mem_of_getElem? (i := 114) rfl)) rfl
theorem nw_yX1_restAfter : ne_cy yX1_restAfter (.code yX1_restAfter cX1_restAfter 2 (some .int)) 2 nw_T := ⟨nw_kX1_restAfter, nw_inX1, gy_a_2 (yX1_restAfter, 2) (List.mem_of_getElem? (i := 10) rfl)⟩
theorem nw_sX1_restAfter : Cond.static yX1_restAfter ∈ nw_T := nw_tq1 gw_a_1_0 19 rfl
theorem nw_kX1_digitAfter : Cond.code yX1_digitAfter cX1_digitAfter 2 (some .int) ∈ nw_T := nw_tf (nw_ms1 (List.mem_of_getElem? (i := 132) rfl)) rfl
theorem nw_yX1_digitAfter : ne_cy yX1_digitAfter (.code yX1_digitAfter cX1_digitAfter 2 (some .int)) 2 nw_T := ⟨nw_kX1_digitAfter, nw_inX1, gy_a_2 (yX1_digitAfter, 2) (List.mem_of_getElem? (i := 11) rfl)⟩
theorem nw_sX1_digitAfter : Cond.static yX1_digitAfter ∈ nw_T := nw_tq1 gw_a_1_0 20 rfl
theorem nw_kX1_lengthOf : Cond.code yX1_lengthOf cX1_lengthOf 4 (some .int) ∈ nw_T := nw_tf (nw_ms4 (List.mem_of_getElem? (i := 145) rfl)) rfl
theorem nw_yX1_lengthOf : ne_cy yX1_lengthOf (.code yX1_lengthOf cX1_lengthOf 4 (some .int)) 2 nw_T := ⟨nw_kX1_lengthOf, nw_inX1, gy_a_2 (yX1_lengthOf, 2) (List.mem_of_getElem? (i := 12) rfl)⟩
theorem nw_sX1_lengthOf : Cond.static yX1_lengthOf ∈ nw_T := nw_tq4 gw_a_4_0 29 rfl
theorem nw_kX1_restOfPlace : Cond.code yX1_restOfPlace cX1_restOfPlace 5 (some .int) ∈ nw_T := nw_tf (nw_ms1 (List.mem_of_getElem? (i := 202) rfl)) rfl
theorem nw_yX1_restOfPlace : ne_cy yX1_restOfPlace (.code yX1_restOfPlace cX1_restOfPlace 5 (some .int)) 2 nw_T := ⟨nw_kX1_restOfPlace, nw_inX1, gy_a_2 (yX1_restOfPlace, 2) (List.mem_of_getElem? (i := 13) rfl)⟩
theorem nw_iX1_restOfPlace : Cond.instanceMethod yX1_restOfPlace ∈ nw_T := nw_tq1 gw_a_1_0 21 rfl
theorem nw_eX1_restOfPlace : Cond.selects RX1 yX1_restOfPlace yX1_restOfPlace ∈ nw_T := nw_tq gw_a_0_0 7 rfl
theorem nw_kX1_bringWheel : Cond.code yX1_bringWheel cX1_bringWheel 4 (none) ∈ nw_T := nw_tf (nw_ms4 (List.mem_of_getElem? (i := 142) rfl)) rfl
theorem nw_yX1_bringWheel : ne_cy yX1_bringWheel (.code yX1_bringWheel cX1_bringWheel 4 (none)) 3 nw_T := ⟨nw_kX1_bringWheel, nw_inX1, gy_a_2 (yX1_bringWheel, 3) (List.mem_of_getElem? (i := 14) rfl)⟩
theorem nw_iX1_bringWheel : Cond.instanceMethod yX1_bringWheel ∈ nw_T := nw_tq4 gw_a_4_0 30 rfl
theorem nw_eX1_bringWheel : Cond.selects RX1 yX1_bringWheel yX1_bringWheel ∈ nw_T := nw_tq gw_a_0_0 8 rfl
theorem nw_kX1_turnBy : Cond.code yX1_turnBy cX1_turnBy 3 (none) ∈ nw_T := nw_tf (nw_ms4 (List.mem_of_getElem? (i := 156) rfl)) rfl
theorem nw_yX1_turnBy : ne_cy yX1_turnBy (.code yX1_turnBy cX1_turnBy 3 (none)) 2 nw_T := ⟨nw_kX1_turnBy, nw_inX1, gy_a_2 (yX1_turnBy, 2) (List.mem_of_getElem? (i := 15) rfl)⟩
theorem nw_iX1_turnBy : Cond.instanceMethod yX1_turnBy ∈ nw_T := nw_tq4 gw_a_4_0 31 rfl
theorem nw_eX1_turnBy : Cond.selects RX1 yX1_turnBy yX1_turnBy ∈ nw_T := nw_tq gw_a_0_0 9 rfl
theorem nw_kX1_spokeOf : Cond.code yX1_spokeOf cX1_spokeOf 3 (some .int) ∈ nw_T := nw_tf (nw_ms1 (List.mem_of_getElem? (i := 198) rfl)) rfl
theorem nw_yX1_spokeOf : ne_cy yX1_spokeOf (.code yX1_spokeOf cX1_spokeOf 3 (some .int)) 2 nw_T := ⟨nw_kX1_spokeOf, nw_inX1, gy_a_2 (yX1_spokeOf, 2) (List.mem_of_getElem? (i := 16) rfl)⟩
theorem nw_iX1_spokeOf : Cond.instanceMethod yX1_spokeOf ∈ nw_T := nw_tq1 gw_a_1_0 22 rfl
theorem nw_eX1_spokeOf : Cond.selects RX1 yX1_spokeOf yX1_spokeOf ∈ nw_T := nw_tq gw_a_0_0 10 rfl
theorem nw_kX1_digitText : Cond.code yX1_digitText cX1_digitText 7 (some (.object "java/lang/String")) ∈ nw_T := nw_tf (nw_ms4 (List.mem_of_getElem? (i := 212) rfl)) rfl
theorem nw_yX1_digitText : ne_cy yX1_digitText (.code yX1_digitText cX1_digitText 7 (some (.object "java/lang/String"))) 3 nw_T := ⟨nw_kX1_digitText, nw_inX1, gy_a_2 (yX1_digitText, 3) (List.mem_of_getElem? (i := 17) rfl)⟩
theorem nw_iX1_digitText : Cond.instanceMethod yX1_digitText ∈ nw_T := nw_tq4 gw_a_4_0 32 rfl
theorem nw_eX1_digitText : Cond.selects RX1 yX1_digitText yX1_digitText ∈ nw_T := nw_tq gw_a_0_0 11 rfl
theorem nw_kX1_orderOfWheels : Cond.code yX1_orderOfWheels cX1_orderOfWheels 3 (some .int) ∈ nw_T := nw_tf (nw_ms1 (List.mem_of_getElem? (i := 226) rfl)) rfl
theorem nw_yX1_orderOfWheels : ne_cy yX1_orderOfWheels (.code yX1_orderOfWheels cX1_orderOfWheels 3 (some .int)) 2 nw_T := ⟨nw_kX1_orderOfWheels, nw_inX1, gy_a_2 (yX1_orderOfWheels, 2) (List.mem_of_getElem? (i := 18) rfl)⟩
theorem nw_iX1_orderOfWheels : Cond.instanceMethod yX1_orderOfWheels ∈ nw_T := nw_tq1 gw_a_1_0 23 rfl
theorem nw_eX1_orderOfWheels : Cond.selects RX1 yX1_orderOfWheels yX1_orderOfWheels ∈ nw_T := nw_tq gw_a_0_0 12 rfl
theorem nw_kX1_orderAgainst : Cond.code yX1_orderAgainst cX1_orderAgainst 3 (some .int) ∈ nw_T := nw_tf (nw_ms1 (List.mem_of_getElem? (i := 222) rfl)) rfl
theorem nw_yX1_orderAgainst : ne_cy yX1_orderAgainst (.code yX1_orderAgainst cX1_orderAgainst 3 (some .int)) 2 nw_T := ⟨nw_kX1_orderAgainst, nw_inX1, gy_a_2 (yX1_orderAgainst, 2) (List.mem_of_getElem? (i := 19) rfl)⟩
theorem nw_iX1_orderAgainst : Cond.instanceMethod yX1_orderAgainst ∈ nw_T := nw_tq1 gw_a_1_0 24 rfl
theorem nw_eX1_orderAgainst : Cond.selects RX1 yX1_orderAgainst yX1_orderAgainst ∈ nw_T := nw_tq gw_a_0_0 13 rfl
theorem nw_kX1_workOutProduct : Cond.code yX1_workOutProduct cX1_workOutProduct 5 (none) ∈ nw_T := nw_tf (nw_ms1 (List.mem_of_getElem? (i := 125) rfl)) rfl
theorem nw_yX1_workOutProduct : ne_cy yX1_workOutProduct (.code yX1_workOutProduct cX1_workOutProduct 5 (none)) 1 nw_T := ⟨nw_kX1_workOutProduct, nw_inX1, gy_a_2 (yX1_workOutProduct, 1) (List.mem_of_getElem? (i := 20) rfl)⟩
theorem nw_iX1_workOutProduct : Cond.instanceMethod yX1_workOutProduct ∈ nw_T := nw_tq1 gw_a_1_0 25 rfl
theorem nw_eX1_workOutProduct : Cond.selects RX1 yX1_workOutProduct yX1_workOutProduct ∈ nw_T := nw_tq gw_a_0_0 14 rfl
theorem nw_kX1_hasParts : Cond.code yX1_hasParts cX1_hasParts 3 (some .boolean) ∈ nw_T := nw_tf (nw_ms1 (List.mem_of_getElem? (i := 210) rfl)) rfl
theorem nw_yX1_hasParts : ne_cy yX1_hasParts (.code yX1_hasParts cX1_hasParts 3 (some .boolean)) 2 nw_T := ⟨nw_kX1_hasParts, nw_inX1, gy_a_2 (yX1_hasParts, 2) (List.mem_of_getElem? (i := 21) rfl)⟩
theorem nw_iX1_hasParts : Cond.instanceMethod yX1_hasParts ∈ nw_T := nw_tq1 gw_a_1_0 26 rfl
theorem nw_eX1_hasParts : Cond.selects RX1 yX1_hasParts yX1_hasParts ∈ nw_T := nw_tq gw_a_0_0 15 rfl
theorem nw_kX1_partLength : Cond.code yX1_partLength cX1_partLength 3 (some .int) ∈ nw_T := nw_tf (nw_ms1 (List.mem_of_getElem? (i := 214) rfl)) rfl
theorem nw_yX1_partLength : ne_cy yX1_partLength (.code yX1_partLength cX1_partLength 3 (some .int)) 2 nw_T := ⟨nw_kX1_partLength, nw_inX1, gy_a_2 (yX1_partLength, 2) (List.mem_of_getElem? (i := 22) rfl)⟩
theorem nw_iX1_partLength : Cond.instanceMethod yX1_partLength ∈ nw_T := nw_tq1 gw_a_1_0 27 rfl
theorem nw_eX1_partLength : Cond.selects RX1 yX1_partLength yX1_partLength ∈ nw_T := nw_tq gw_a_0_0 16 rfl
theorem nw_kX1_workOutPartSum : Cond.code yX1_workOutPartSum cX1_workOutPartSum 5 (none) ∈ nw_T := nw_tf (nw_ms1 (List.mem_of_getElem? (i := 218) rfl)) rfl
theorem nw_yX1_workOutPartSum : ne_cy yX1_workOutPartSum (.code yX1_workOutPartSum cX1_workOutPartSum 5 (none)) 2 nw_T := ⟨nw_kX1_workOutPartSum, nw_inX1, gy_a_2 (yX1_workOutPartSum, 2) (List.mem_of_getElem? (i := 23) rfl)⟩
theorem nw_iX1_workOutPartSum : Cond.instanceMethod yX1_workOutPartSum ∈ nw_T := nw_tq1 gw_a_1_0 28 rfl
theorem nw_eX1_workOutPartSum : Cond.selects RX1 yX1_workOutPartSum yX1_workOutPartSum ∈ nw_T := nw_tq gw_a_0_0 17 rfl
theorem nw_kX1_ninesOf : Cond.code yX1_ninesOf cX1_ninesOf 5 (some .int) ∈ nw_T := nw_tf (nw_ms1 (List.mem_of_getElem? (i := 206) rfl)) rfl
theorem nw_yX1_ninesOf : ne_cy yX1_ninesOf (.code yX1_ninesOf cX1_ninesOf 5 (some .int)) 2 nw_T := ⟨nw_kX1_ninesOf, nw_inX1, gy_a_2 (yX1_ninesOf, 2) (List.mem_of_getElem? (i := 24) rfl)⟩
theorem nw_iX1_ninesOf : Cond.instanceMethod yX1_ninesOf ∈ nw_T := nw_tq1 gw_a_1_0 29 rfl
theorem nw_eX1_ninesOf : Cond.selects RX1 yX1_ninesOf yX1_ninesOf ∈ nw_T := nw_tq gw_a_0_0 18 rfl
theorem nw_kX1_isCellSoundWithAll : Cond.code yX1_isCellSoundWithAll cX1_isCellSoundWithAll 7 (some .boolean) ∈ nw_T := nw_tf (nw_ms1 (List.mem_of_getElem? (i := 85) rfl)) rfl
theorem nw_yX1_isCellSoundWithAll : ne_cy yX1_isCellSoundWithAll (.code yX1_isCellSoundWithAll cX1_isCellSoundWithAll 7 (some .boolean)) 1 nw_T := ⟨nw_kX1_isCellSoundWithAll, nw_inX1, gy_a_2 (yX1_isCellSoundWithAll, 1) (List.mem_of_getElem? (i := 25) rfl)⟩
theorem nw_iX1_isCellSoundWithAll : Cond.instanceMethod yX1_isCellSoundWithAll ∈ nw_T := nw_tq1 gw_a_1_0 30 rfl
theorem nw_eX1_isCellSoundWithAll : Cond.selects RX1 yX1_isCellSoundWithAll yX1_isCellSoundWithAll ∈ nw_T := nw_tq gw_a_0_0 19 rfl
theorem nw_kX1_isLengthSound : Cond.code yX1_isLengthSound cX1_isLengthSound 6 (some .boolean) ∈ nw_T := nw_tf (nw_ms1 (List.mem_of_getElem? (i := 111) rfl)) rfl
theorem nw_yX1_isLengthSound : ne_cy yX1_isLengthSound (.code yX1_isLengthSound cX1_isLengthSound 6 (some .boolean)) 1 nw_T := ⟨nw_kX1_isLengthSound, nw_inX1, gy_a_2 (yX1_isLengthSound, 1) (List.mem_of_getElem? (i := 26) rfl)⟩
theorem nw_iX1_isLengthSound : Cond.instanceMethod yX1_isLengthSound ∈ nw_T := nw_tq1 gw_a_1_0 31 rfl
theorem nw_eX1_isLengthSound : Cond.selects RX1 yX1_isLengthSound yX1_isLengthSound ∈ nw_T := nw_tq gw_a_0_0 20 rfl
theorem nw_kX1_isProductSound : Cond.code yX1_isProductSound cX1_isProductSound 2 (some .boolean) ∈ nw_T := nw_tf (nw_ms1 (List.mem_of_getElem? (i := 121) rfl)) rfl
theorem nw_yX1_isProductSound : ne_cy yX1_isProductSound (.code yX1_isProductSound cX1_isProductSound 2 (some .boolean)) 1 nw_T := ⟨nw_kX1_isProductSound, nw_inX1, gy_a_2 (yX1_isProductSound, 1) (List.mem_of_getElem? (i := 27) rfl)⟩
theorem nw_iX1_isProductSound : Cond.instanceMethod yX1_isProductSound ∈ nw_T := nw_tq1 gw_a_1_0 32 rfl
theorem nw_eX1_isProductSound : Cond.selects RX1 yX1_isProductSound yX1_isProductSound ∈ nw_T := nw_tq gw_a_0_0 21 rfl
theorem nw_kX1_isCutSound : Cond.code yX1_isCutSound cX1_isCutSound 8 (some .boolean) ∈ nw_T := nw_tf (nw_ms1 (List.mem_of_getElem? (i := 155) rfl)) rfl
theorem nw_yX1_isCutSound : ne_cy yX1_isCutSound (.code yX1_isCutSound cX1_isCutSound 8 (some .boolean)) 1 nw_T := ⟨nw_kX1_isCutSound, nw_inX1, gy_a_2 (yX1_isCutSound, 1) (List.mem_of_getElem? (i := 28) rfl)⟩
theorem nw_iX1_isCutSound : Cond.instanceMethod yX1_isCutSound ∈ nw_T := nw_tq1 gw_a_1_0 33 rfl
theorem nw_eX1_isCutSound : Cond.selects RX1 yX1_isCutSound yX1_isCutSound ∈ nw_T := nw_tq gw_a_0_0 22 rfl
theorem nw_kX1_joined : Cond.code yX1_joined cX1_joined 4 (some .long) ∈ nw_T := nw_tf (nw_ms1 (List.mem_of_getElem? (i := 182) rfl)) rfl
theorem nw_yX1_joined : ne_cy yX1_joined (.code yX1_joined cX1_joined 4 (some .long)) 2 nw_T := ⟨nw_kX1_joined, nw_inX1, gy_a_2 (yX1_joined, 2) (List.mem_of_getElem? (i := 29) rfl)⟩
theorem nw_sX1_joined : Cond.static yX1_joined ∈ nw_T := nw_tq1 gw_a_1_0 34 rfl
theorem nw_kX1_digestOfCells : Cond.code yX1_digestOfCells cX1_digestOfCells 7 (some .long) ∈ nw_T := nw_tf (nw_ms1 (List.mem_of_getElem? (i := 179) rfl)) rfl
theorem nw_yX1_digestOfCells : ne_cy yX1_digestOfCells (.code yX1_digestOfCells cX1_digestOfCells 7 (some .long)) 1 nw_T := ⟨nw_kX1_digestOfCells, nw_inX1, gy_a_3 (yX1_digestOfCells, 1) (List.mem_of_getElem? (i := 0) rfl)⟩
theorem nw_iX1_digestOfCells : Cond.instanceMethod yX1_digestOfCells ∈ nw_T := nw_tq1 gw_a_1_0 35 rfl
theorem nw_eX1_digestOfCells : Cond.selects RX1 yX1_digestOfCells yX1_digestOfCells ∈ nw_T := nw_tq gw_a_0_0 23 rfl
theorem nw_kX1_digestOfWheels : Cond.code yX1_digestOfWheels cX1_digestOfWheels 7 (some .long) ∈ nw_T := nw_tf (nw_ms1 (List.mem_of_getElem? (i := 190) rfl)) rfl
theorem nw_yX1_digestOfWheels : ne_cy yX1_digestOfWheels (.code yX1_digestOfWheels cX1_digestOfWheels 7 (some .long)) 1 nw_T := ⟨nw_kX1_digestOfWheels, nw_inX1, gy_a_3 (yX1_digestOfWheels, 1) (List.mem_of_getElem? (i := 1) rfl)⟩
theorem nw_iX1_digestOfWheels : Cond.instanceMethod yX1_digestOfWheels ∈ nw_T := nw_tq1 gw_a_1_0 36 rfl
theorem nw_eX1_digestOfWheels : Cond.selects RX1 yX1_digestOfWheels yX1_digestOfWheels ∈ nw_T := nw_tq gw_a_0_0 24 rfl
theorem nw_kX1_digestOfWheel : Cond.code yX1_digestOfWheel cX1_digestOfWheel 7 (some .long) ∈ nw_T := nw_tf (nw_ms1 (List.mem_of_getElem? (i := 194) rfl)) rfl
theorem nw_yX1_digestOfWheel : ne_cy yX1_digestOfWheel (.code yX1_digestOfWheel cX1_digestOfWheel 7 (some .long)) 2 nw_T := ⟨nw_kX1_digestOfWheel, nw_inX1, gy_a_3 (yX1_digestOfWheel, 2) (List.mem_of_getElem? (i := 2) rfl)⟩
theorem nw_iX1_digestOfWheel : Cond.instanceMethod yX1_digestOfWheel ∈ nw_T := nw_tq1 gw_a_1_0 37 rfl
theorem nw_eX1_digestOfWheel : Cond.selects RX1 yX1_digestOfWheel yX1_digestOfWheel ∈ nw_T := nw_tq gw_a_0_0 25 rfl
theorem nw_kX3_init : Cond.code yX3_init cX3_init 1 (none) ∈ nw_T := nw_tf (nw_ms5 (List.mem_of_getElem? (i := 51) rfl)) rfl
theorem nw_inX3 : Cond.initialized RX3 ∈ nw_T := nw_tq1 gw_a_1_0 38 rfl
theorem nw_yX3_init : ne_cy yX3_init (.code yX3_init cX3_init 1 (none)) 0 nw_T := ⟨nw_kX3_init, nw_inX3, gy_a_3 (yX3_init, 0) (List.mem_of_getElem? (i := 3) rfl)⟩
theorem nw_iX3_init : Cond.instanceMethod yX3_init ∈ nw_T := nw_tq5 gw_a_5_0 12 rfl
theorem nw_kX3_thrown : Cond.code yX3_thrown cX3_thrown 1 (some .int) ∈ nw_T := nw_tf (nw_ms5 (List.mem_of_getElem? (i := 78) rfl)) rfl
theorem nw_yX3_thrown : ne_cy yX3_thrown (.code yX3_thrown cX3_thrown 1 (some .int)) 0 nw_T := ⟨nw_kX3_thrown, nw_inX3, gy_a_3 (yX3_thrown, 0) (List.mem_of_getElem? (i := 4) rfl)⟩
theorem nw_iX3_thrown : Cond.instanceMethod yX3_thrown ∈ nw_T := nw_tq5 gw_a_5_0 13 rfl
theorem nw_eX3_thrown : Cond.selects RX3 yX3_thrown yX3_thrown ∈ nw_T := nw_tq5 gw_a_5_0 14 rfl
theorem nw_kX3_refuse : Cond.code yX3_refuse cX3_refuse 3 (some .boolean) ∈ nw_T := nw_tf (nw_ms5 (List.mem_of_getElem? (i := 94) rfl)) rfl
theorem nw_yX3_refuse : ne_cy yX3_refuse (.code yX3_refuse cX3_refuse 3 (some .boolean)) 2 nw_T := ⟨nw_kX3_refuse, nw_inX3, gy_a_3 (yX3_refuse, 2) (List.mem_of_getElem? (i := 5) rfl)⟩
theorem nw_iX3_refuse : Cond.instanceMethod yX3_refuse ∈ nw_T := nw_tq5 gw_a_5_0 15 rfl
theorem nw_eX3_refuse : Cond.selects RX3 yX3_refuse yX3_refuse ∈ nw_T := nw_tq gw_a_0_0 26 rfl
theorem nw_kX3_isOut : Cond.code yX3_isOut cX3_isOut 3 (some .boolean) ∈ nw_T := nw_tf (nw_ms5 (List.mem_of_getElem? (i := 88) rfl)) rfl
theorem nw_yX3_isOut : ne_cy yX3_isOut (.code yX3_isOut cX3_isOut 3 (some .boolean)) 3 nw_T := ⟨nw_kX3_isOut, nw_inX3, gy_a_3 (yX3_isOut, 3) (List.mem_of_getElem? (i := 6) rfl)⟩
theorem nw_sX3_isOut : Cond.static yX3_isOut ∈ nw_T := nw_tq5 gw_a_5_0 16 rfl
theorem nw_kX3_isNoCell : Cond.code yX3_isNoCell cX3_isNoCell 1 (some .boolean) ∈ nw_T := nw_tf (nw_ms5 (List.mem_of_getElem? (i := 85) rfl)) rfl
theorem nw_yX3_isNoCell : ne_cy yX3_isNoCell (.code yX3_isNoCell cX3_isNoCell 1 (some .boolean)) 1 nw_T := ⟨nw_kX3_isNoCell, nw_inX3, gy_a_3 (yX3_isNoCell, 1) (List.mem_of_getElem? (i := 7) rfl)⟩
theorem nw_sX3_isNoCell : Cond.static yX3_isNoCell ∈ nw_T := nw_tq5 gw_a_5_0 17 rfl
theorem nw_kX3_isNoWheel : Cond.code yX3_isNoWheel cX3_isNoWheel 1 (some .boolean) ∈ nw_T := nw_tf (nw_ms5 (List.mem_of_getElem? (i := 223) rfl)) rfl
theorem nw_yX3_isNoWheel : ne_cy yX3_isNoWheel (.code yX3_isNoWheel cX3_isNoWheel 1 (some .boolean)) 1 nw_T := ⟨nw_kX3_isNoWheel, nw_inX3, gy_a_3 (yX3_isNoWheel, 1) (List.mem_of_getElem? (i := 8) rfl)⟩
theorem nw_sX3_isNoWheel : Cond.static yX3_isNoWheel ∈ nw_T := nw_tq5 gw_a_5_0 18 rfl
theorem nw_kX3_isNoCut : Cond.code yX3_isNoCut cX3_isNoCut 3 (some .boolean) ∈ nw_T := nw_tf (nw_ms5 (List.mem_of_getElem? (i := 162) rfl)) rfl
theorem nw_yX3_isNoCut : ne_cy yX3_isNoCut (.code yX3_isNoCut cX3_isNoCut 3 (some .boolean)) 3 nw_T := ⟨nw_kX3_isNoCut, nw_inX3, gy_a_3 (yX3_isNoCut, 3) (List.mem_of_getElem? (i := 9) rfl)⟩
theorem nw_sX3_isNoCut : Cond.static yX3_isNoCut ∈ nw_T := nw_tq5 gw_a_5_0 19 rfl
theorem nw_kX3_isNoBottom : Cond.code yX3_isNoBottom cX3_isNoBottom 1 (some .boolean) ∈ nw_T := nw_tf (nw_ms6 (List.mem_of_getElem? (i := 37) rfl)) rfl
theorem nw_yX3_isNoBottom : ne_cy yX3_isNoBottom (.code yX3_isNoBottom cX3_isNoBottom 1 (some .boolean)) 1 nw_T := ⟨nw_kX3_isNoBottom, nw_inX3, gy_a_3 (yX3_isNoBottom, 1) (List.mem_of_getElem? (i := 10) rfl)⟩
theorem nw_sX3_isNoBottom : Cond.static yX3_isNoBottom ∈ nw_T := nw_tq6 gw_a_6_0 0 rfl
theorem nw_kX3_ten : Cond.code yX3_ten cX3_ten 4 (some .long) ∈ nw_T := nw_tf (nw_ms5 (List.mem_of_getElem? (i := 114) rfl)) rfl
theorem nw_yX3_ten : ne_cy yX3_ten (.code yX3_ten cX3_ten 4 (some .long)) 1 nw_T := ⟨nw_kX3_ten, nw_inX3, gy_a_3 (yX3_ten, 1) (List.mem_of_getElem? (i := 11) rfl)⟩
theorem nw_sX3_ten : Cond.static yX3_ten ∈ nw_T := nw_tq5 gw_a_5_0 20 rfl
theorem nw_kX3_side : Cond.code yX3_side cX3_side 4 (some .int) ∈ nw_T := nw_tf (nw_ms5 (List.mem_of_getElem? (i := 169) rfl)) rfl
theorem nw_yX3_side : ne_cy yX3_side (.code yX3_side cX3_side 4 (some .int)) 2 nw_T := ⟨nw_kX3_side, nw_inX3, gy_a_3 (yX3_side, 2) (List.mem_of_getElem? (i := 12) rfl)⟩
theorem nw_sX3_side : Cond.static yX3_side ∈ nw_T := nw_tq5 gw_a_5_0 21 rfl
theorem nw_kX3_sizeOf : Cond.code yX3_sizeOf cX3_sizeOf 2 (some .long) ∈ nw_T := nw_tf (nw_ms5 (List.mem_of_getElem? (i := 102) rfl)) rfl
theorem nw_yX3_sizeOf : ne_cy yX3_sizeOf (.code yX3_sizeOf cX3_sizeOf 2 (some .long)) 1 nw_T := ⟨nw_kX3_sizeOf, nw_inX3, gy_a_3 (yX3_sizeOf, 1) (List.mem_of_getElem? (i := 13) rfl)⟩
theorem nw_sX3_sizeOf : Cond.static yX3_sizeOf ∈ nw_T := nw_tq5 gw_a_5_0 22 rfl
theorem nw_kX3_digitsOf : Cond.code yX3_digitsOf cX3_digitsOf 5 (some .int) ∈ nw_T := nw_tf (nw_ms5 (List.mem_of_getElem? (i := 204) rfl)) rfl
theorem nw_yX3_digitsOf : ne_cy yX3_digitsOf (.code yX3_digitsOf cX3_digitsOf 5 (some .int)) 1 nw_T := ⟨nw_kX3_digitsOf, nw_inX3, gy_a_3 (yX3_digitsOf, 1) (List.mem_of_getElem? (i := 14) rfl)⟩
theorem nw_sX3_digitsOf : Cond.static yX3_digitsOf ∈ nw_T := nw_tq5 gw_a_5_0 23 rfl
theorem nw_kX3_rounded : Cond.code yX3_rounded cX3_rounded 12 (some .long) ∈ nw_T := nw_tf (nw_ms5 (List.mem_of_getElem? (i := 165) rfl)) rfl
theorem nw_yX3_rounded : ne_cy yX3_rounded (.code yX3_rounded cX3_rounded 12 (some .long)) 3 nw_T := ⟨nw_kX3_rounded, nw_inX3, gy_a_3 (yX3_rounded, 3) (List.mem_of_getElem? (i := 15) rfl)⟩
theorem nw_sX3_rounded : Cond.static yX3_rounded ∈ nw_T := nw_tq5 gw_a_5_0 24 rfl
theorem nw_kX3_nay : Cond.code yX3_nay cX3_nay 1 (some .int) ∈ nw_T := nw_tf (nw_ms5 (List.mem_of_getElem? (i := 107) rfl)) rfl
theorem nw_yX3_nay : ne_cy yX3_nay (.code yX3_nay cX3_nay 1 (some .int)) 0 nw_T := ⟨nw_kX3_nay, nw_inX3, gy_a_3 (yX3_nay, 0) (List.mem_of_getElem? (i := 16) rfl)⟩
theorem nw_iX3_nay : Cond.instanceMethod yX3_nay ∈ nw_T := nw_tq5 gw_a_5_0 25 rfl
theorem nw_eX3_nay : Cond.selects RX3 yX3_nay yX3_nay ∈ nw_T := nw_tq gw_a_0_0 27 rfl
theorem nw_kX3_come : Cond.code yX3_come cX3_come 6 (some .int) ∈ nw_T := nw_tf (nw_ms5 (List.mem_of_getElem? (i := 98) rfl)) rfl
theorem nw_yX3_come : ne_cy yX3_come (.code yX3_come cX3_come 6 (some .int)) 3 nw_T := ⟨nw_kX3_come, nw_inX3, gy_a_3 (yX3_come, 3) (List.mem_of_getElem? (i := 17) rfl)⟩
theorem nw_iX3_come : Cond.instanceMethod yX3_come ∈ nw_T := nw_tq5 gw_a_5_0 26 rfl
theorem nw_eX3_come : Cond.selects RX3 yX3_come yX3_come ∈ nw_T := nw_tq gw_a_0_0 28 rfl
theorem nw_kX3_units : Cond.code yX3_units cX3_units 3 (some .long) ∈ nw_T := nw_tf (nw_ms5 (List.mem_of_getElem? (i := 143) rfl)) rfl
theorem nw_yX3_units : ne_cy yX3_units (.code yX3_units cX3_units 3 (some .long)) 2 nw_T := ⟨nw_kX3_units, nw_inX3, gy_a_3 (yX3_units, 2) (List.mem_of_getElem? (i := 18) rfl)⟩
theorem nw_iX3_units : Cond.instanceMethod yX3_units ∈ nw_T := nw_tq5 gw_a_5_0 27 rfl
theorem nw_eX3_units : Cond.selects RX3 yX3_units yX3_units ∈ nw_T := nw_tq gw_a_0_0 29 rfl
theorem nw_kX3_most : Cond.code yX3_most cX3_most 3 (some .int) ∈ nw_T := nw_tf (nw_ms5 (List.mem_of_getElem? (i := 139) rfl)) rfl
theorem nw_yX3_most : ne_cy yX3_most (.code yX3_most cX3_most 3 (some .int)) 2 nw_T := ⟨nw_kX3_most, nw_inX3, gy_a_3 (yX3_most, 2) (List.mem_of_getElem? (i := 19) rfl)⟩
theorem nw_iX3_most : Cond.instanceMethod yX3_most ∈ nw_T := nw_tq5 gw_a_5_0 28 rfl
theorem nw_eX3_most : Cond.selects RX3 yX3_most yX3_most ∈ nw_T := nw_tq gw_a_0_0 30 rfl
theorem nw_kX3_ordered : Cond.code yX3_ordered cX3_ordered 3 (some .int) ∈ nw_T := nw_tf (nw_ms5 (List.mem_of_getElem? (i := 212) rfl)) rfl
theorem nw_yX3_ordered : ne_cy yX3_ordered (.code yX3_ordered cX3_ordered 3 (some .int)) 2 nw_T := ⟨nw_kX3_ordered, nw_inX3, gy_a_3 (yX3_ordered, 2) (List.mem_of_getElem? (i := 20) rfl)⟩
theorem nw_iX3_ordered : Cond.instanceMethod yX3_ordered ∈ nw_T := nw_tq5 gw_a_5_0 29 rfl
theorem nw_eX3_ordered : Cond.selects RX3 yX3_ordered yX3_ordered ∈ nw_T := nw_tq gw_a_0_0 31 rfl
theorem nw_kX3_put : Cond.code yX3_put cX3_put 4 (some .int) ∈ nw_T := nw_tf (nw_ms5 (List.mem_of_getElem? (i := 82) rfl)) rfl
theorem nw_yX3_put : ne_cy yX3_put (.code yX3_put cX3_put 4 (some .int)) 3 nw_T := ⟨nw_kX3_put, nw_inX3, gy_a_3 (yX3_put, 3) (List.mem_of_getElem? (i := 21) rfl)⟩
theorem nw_iX3_put : Cond.instanceMethod yX3_put ∈ nw_T := nw_tq5 gw_a_5_0 30 rfl
theorem nw_eX3_put : Cond.selects RX3 yX3_put yX3_put ∈ nw_T := nw_tq5 gw_a_5_0 31 rfl
theorem nw_kX3_write : Cond.code yX3_write cX3_write 8 (some .int) ∈ nw_T := nw_tf (nw_ms5 (List.mem_of_getElem? (i := 111) rfl)) rfl
theorem nw_yX3_write : ne_cy yX3_write (.code yX3_write cX3_write 8 (some .int)) 5 nw_T := ⟨nw_kX3_write, nw_inX3, gy_a_3 (yX3_write, 5) (List.mem_of_getElem? (i := 22) rfl)⟩
theorem nw_iX3_write : Cond.instanceMethod yX3_write ∈ nw_T := nw_tq5 gw_a_5_0 32 rfl
theorem nw_eX3_write : Cond.selects RX3 yX3_write yX3_write ∈ nw_T := nw_tq5 gw_a_5_0 33 rfl
theorem nw_kX3_copy : Cond.code yX3_copy cX3_copy 3 (some .int) ∈ nw_T := nw_tf (nw_ms5 (List.mem_of_getElem? (i := 119) rfl)) rfl
theorem nw_yX3_copy : ne_cy yX3_copy (.code yX3_copy cX3_copy 3 (some .int)) 2 nw_T := ⟨nw_kX3_copy, nw_inX3, gy_a_3 (yX3_copy, 2) (List.mem_of_getElem? (i := 23) rfl)⟩
theorem nw_iX3_copy : Cond.instanceMethod yX3_copy ∈ nw_T := nw_tq5 gw_a_5_0 34 rfl
theorem nw_eX3_copy : Cond.selects RX3 yX3_copy yX3_copy ∈ nw_T := nw_tq5 gw_a_5_0 35 rfl
theorem nw_kX3_negate : Cond.code yX3_negate cX3_negate 2 (some .int) ∈ nw_T := nw_tf (nw_ms5 (List.mem_of_getElem? (i := 123) rfl)) rfl
theorem nw_yX3_negate : ne_cy yX3_negate (.code yX3_negate cX3_negate 2 (some .int)) 1 nw_T := ⟨nw_kX3_negate, nw_inX3, gy_a_3 (yX3_negate, 1) (List.mem_of_getElem? (i := 24) rfl)⟩
theorem nw_iX3_negate : Cond.instanceMethod yX3_negate ∈ nw_T := nw_tq5 gw_a_5_0 36 rfl
theorem nw_eX3_negate : Cond.selects RX3 yX3_negate yX3_negate ∈ nw_T := nw_tq5 gw_a_5_0 37 rfl
theorem nw_kX3_size : Cond.code yX3_size cX3_size 2 (some .int) ∈ nw_T := nw_tf (nw_ms5 (List.mem_of_getElem? (i := 127) rfl)) rfl
theorem nw_yX3_size : ne_cy yX3_size (.code yX3_size cX3_size 2 (some .int)) 1 nw_T := ⟨nw_kX3_size, nw_inX3, gy_a_3 (yX3_size, 1) (List.mem_of_getElem? (i := 25) rfl)⟩
theorem nw_iX3_size : Cond.instanceMethod yX3_size ∈ nw_T := nw_tq5 gw_a_5_0 38 rfl
theorem nw_eX3_size : Cond.selects RX3 yX3_size yX3_size ∈ nw_T := nw_tq5 gw_a_5_0 39 rfl
theorem nw_kX3_areNoCells : Cond.code yX3_areNoCells cX3_areNoCells 4 (some .boolean) ∈ nw_T := nw_tf (nw_ms5 (List.mem_of_getElem? (i := 135) rfl)) rfl
theorem nw_yX3_areNoCells : ne_cy yX3_areNoCells (.code yX3_areNoCells cX3_areNoCells 4 (some .boolean)) 3 nw_T := ⟨nw_kX3_areNoCells, nw_inX3, gy_a_3 (yX3_areNoCells, 3) (List.mem_of_getElem? (i := 26) rfl)⟩
theorem nw_iX3_areNoCells : Cond.instanceMethod yX3_areNoCells ∈ nw_T := nw_tq5 gw_a_5_0 40 rfl
theorem nw_eX3_areNoCells : Cond.selects RX3 yX3_areNoCells yX3_areNoCells ∈ nw_T := nw_tq gw_a_0_0 32 rfl
theorem nw_kX3_add : Cond.code yX3_add cX3_add 5 (some .int) ∈ nw_T := nw_tf (nw_ms5 (List.mem_of_getElem? (i := 131) rfl)) rfl
theorem nw_yX3_add : ne_cy yX3_add (.code yX3_add cX3_add 5 (some .int)) 3 nw_T := ⟨nw_kX3_add, nw_inX3, gy_a_3 (yX3_add, 3) (List.mem_of_getElem? (i := 27) rfl)⟩
theorem nw_iX3_add : Cond.instanceMethod yX3_add ∈ nw_T := nw_tq5 gw_a_5_0 41 rfl
theorem nw_eX3_add : Cond.selects RX3 yX3_add yX3_add ∈ nw_T := nw_tq5 gw_a_5_0 42 rfl
theorem nw_kX3_subtract : Cond.code yX3_subtract cX3_subtract 5 (some .int) ∈ nw_T := nw_tf (nw_ms5 (List.mem_of_getElem? (i := 147) rfl)) rfl
theorem nw_yX3_subtract : ne_cy yX3_subtract (.code yX3_subtract cX3_subtract 5 (some .int)) 3 nw_T := ⟨nw_kX3_subtract, nw_inX3, gy_a_3 (yX3_subtract, 3) (List.mem_of_getElem? (i := 28) rfl)⟩
theorem nw_iX3_subtract : Cond.instanceMethod yX3_subtract ∈ nw_T := nw_tq5 gw_a_5_0 43 rfl
theorem nw_eX3_subtract : Cond.selects RX3 yX3_subtract yX3_subtract ∈ nw_T := nw_tq5 gw_a_5_0 44 rfl
theorem nw_kX3_multiply : Cond.code yX3_multiply cX3_multiply 4 (some .int) ∈ nw_T := nw_tf (nw_ms5 (List.mem_of_getElem? (i := 151) rfl)) rfl
theorem nw_yX3_multiply : ne_cy yX3_multiply (.code yX3_multiply cX3_multiply 4 (some .int)) 3 nw_T := ⟨nw_kX3_multiply, nw_inX3, gy_a_3 (yX3_multiply, 3) (List.mem_of_getElem? (i := 29) rfl)⟩
theorem nw_iX3_multiply : Cond.instanceMethod yX3_multiply ∈ nw_T := nw_tq5 gw_a_5_0 45 rfl
theorem nw_eX3_multiply : Cond.selects RX3 yX3_multiply yX3_multiply ∈ nw_T := nw_tq5 gw_a_5_0 46 rfl
theorem nw_kX3_power : Cond.code yX3_power cX3_power 7 (some .int) ∈ nw_T := nw_tf (nw_ms5 (List.mem_of_getElem? (i := 155) rfl)) rfl
theorem nw_yX3_power : ne_cy yX3_power (.code yX3_power cX3_power 7 (some .int)) 3 nw_T := ⟨nw_kX3_power, nw_inX3, gy_a_4 (yX3_power, 3) (List.mem_of_getElem? (i := 0) rfl)⟩
theorem nw_iX3_power : Cond.instanceMethod yX3_power ∈ nw_T := nw_tq5 gw_a_5_0 47 rfl
theorem nw_eX3_power : Cond.selects RX3 yX3_power yX3_power ∈ nw_T := nw_tq5 gw_a_5_0 48 rfl
theorem nw_kX3_divide : Cond.code yX3_divide cX3_divide 10 (some .int) ∈ nw_T := nw_tf (nw_ms5 (List.mem_of_getElem? (i := 159) rfl)) rfl
theorem nw_yX3_divide : ne_cy yX3_divide (.code yX3_divide cX3_divide 10 (some .int)) 5 nw_T := ⟨nw_kX3_divide, nw_inX3, gy_a_4 (yX3_divide, 5) (List.mem_of_getElem? (i := 1) rfl)⟩
theorem nw_iX3_divide : Cond.instanceMethod yX3_divide ∈ nw_T := nw_tq5 gw_a_5_0 49 rfl
theorem nw_eX3_divide : Cond.selects RX3 yX3_divide yX3_divide ∈ nw_T := nw_tq5 gw_a_5_0 50 rfl
theorem nw_kX3_share : Cond.code yX3_share cX3_share 5 (some .int) ∈ nw_T := nw_tf (nw_ms5 (List.mem_of_getElem? (i := 173) rfl)) rfl
theorem nw_yX3_share : ne_cy yX3_share (.code yX3_share cX3_share 5 (some .int)) 3 nw_T := ⟨nw_kX3_share, nw_inX3, gy_a_4 (yX3_share, 3) (List.mem_of_getElem? (i := 2) rfl)⟩
theorem nw_iX3_share : Cond.instanceMethod yX3_share ∈ nw_T := nw_tq5 gw_a_5_0 51 rfl
theorem nw_eX3_share : Cond.selects RX3 yX3_share yX3_share ∈ nw_T := nw_tq5 gw_a_5_0 52 rfl
theorem nw_kX3_wholeOf : Cond.code yX3_wholeOf cX3_wholeOf 3 (some .long) ∈ nw_T := nw_tf (nw_ms5 (List.mem_of_getElem? (i := 181) rfl)) rfl
theorem nw_yX3_wholeOf : ne_cy yX3_wholeOf (.code yX3_wholeOf cX3_wholeOf 3 (some .long)) 2 nw_T := ⟨nw_kX3_wholeOf, nw_inX3, gy_a_4 (yX3_wholeOf, 2) (List.mem_of_getElem? (i := 3) rfl)⟩
theorem nw_iX3_wholeOf : Cond.instanceMethod yX3_wholeOf ∈ nw_T := nw_tq5 gw_a_5_0 53 rfl
theorem nw_eX3_wholeOf : Cond.selects RX3 yX3_wholeOf yX3_wholeOf ∈ nw_T := nw_tq gw_a_0_0 33 rfl
theorem nw_kX3_whole : Cond.code yX3_whole cX3_whole 4 (some .int) ∈ nw_T := nw_tf (nw_ms5 (List.mem_of_getElem? (i := 177) rfl)) rfl
theorem nw_yX3_whole : ne_cy yX3_whole (.code yX3_whole cX3_whole 4 (some .int)) 3 nw_T := ⟨nw_kX3_whole, nw_inX3, gy_a_4 (yX3_whole, 3) (List.mem_of_getElem? (i := 4) rfl)⟩
theorem nw_iX3_whole : Cond.instanceMethod yX3_whole ∈ nw_T := nw_tq5 gw_a_5_0 54 rfl
theorem nw_eX3_whole : Cond.selects RX3 yX3_whole yX3_whole ∈ nw_T := nw_tq5 gw_a_5_0 55 rfl
theorem nw_kX3_rest : Cond.code yX3_rest cX3_rest 4 (some .int) ∈ nw_T := nw_tf (nw_ms5 (List.mem_of_getElem? (i := 185) rfl)) rfl
theorem nw_yX3_rest : ne_cy yX3_rest (.code yX3_rest cX3_rest 4 (some .int)) 3 nw_T := ⟨nw_kX3_rest, nw_inX3, gy_a_4 (yX3_rest, 3) (List.mem_of_getElem? (i := 5) rfl)⟩
theorem nw_iX3_rest : Cond.instanceMethod yX3_rest ∈ nw_T := nw_tq5 gw_a_5_0 56 rfl
theorem nw_eX3_rest : Cond.selects RX3 yX3_rest yX3_rest ∈ nw_T := nw_tq5 gw_a_5_0 57 rfl
theorem nw_kX3_setPlaces : Cond.code yX3_setPlaces cX3_setPlaces 4 (some .int) ∈ nw_T := nw_tf (nw_ms5 (List.mem_of_getElem? (i := 189) rfl)) rfl
theorem nw_yX3_setPlaces : ne_cy yX3_setPlaces (.code yX3_setPlaces cX3_setPlaces 4 (some .int)) 3 nw_T := ⟨nw_kX3_setPlaces, nw_inX3, gy_a_4 (yX3_setPlaces, 3) (List.mem_of_getElem? (i := 6) rfl)⟩
theorem nw_iX3_setPlaces : Cond.instanceMethod yX3_setPlaces ∈ nw_T := nw_tq5 gw_a_5_0 58 rfl
theorem nw_eX3_setPlaces : Cond.selects RX3 yX3_setPlaces yX3_setPlaces ∈ nw_T := nw_tq5 gw_a_5_0 59 rfl
theorem nw_kX3_strip : Cond.code yX3_strip cX3_strip 3 (some .int) ∈ nw_T := nw_tf (nw_ms5 (List.mem_of_getElem? (i := 193) rfl)) rfl
theorem nw_yX3_strip : ne_cy yX3_strip (.code yX3_strip cX3_strip 3 (some .int)) 1 nw_T := ⟨nw_kX3_strip, nw_inX3, gy_a_4 (yX3_strip, 1) (List.mem_of_getElem? (i := 7) rfl)⟩
theorem nw_iX3_strip : Cond.instanceMethod yX3_strip ∈ nw_T := nw_tq5 gw_a_5_1 0 rfl
theorem nw_eX3_strip : Cond.selects RX3 yX3_strip yX3_strip ∈ nw_T := nw_tq5 gw_a_5_1 1 rfl
theorem nw_kX3_move : Cond.code yX3_move cX3_move 4 (some .int) ∈ nw_T := nw_tf (nw_ms5 (List.mem_of_getElem? (i := 197) rfl)) rfl
theorem nw_yX3_move : ne_cy yX3_move (.code yX3_move cX3_move 4 (some .int)) 2 nw_T := ⟨nw_kX3_move, nw_inX3, gy_a_4 (yX3_move, 2) (List.mem_of_getElem? (i := 8) rfl)⟩
theorem nw_iX3_move : Cond.instanceMethod yX3_move ∈ nw_T := nw_tq5 gw_a_5_1 2 rfl
theorem nw_eX3_move : Cond.selects RX3 yX3_move yX3_move ∈ nw_T := nw_tq5 gw_a_5_1 3 rfl
theorem nw_kX3_round : Cond.code yX3_round cX3_round 8 (some .int) ∈ nw_T := nw_tf (nw_ms5 (List.mem_of_getElem? (i := 201) rfl)) rfl
theorem nw_yX3_round : ne_cy yX3_round (.code yX3_round cX3_round 8 (some .int)) 3 nw_T := ⟨nw_kX3_round, nw_inX3, gy_a_4 (yX3_round, 3) (List.mem_of_getElem? (i := 9) rfl)⟩
theorem nw_iX3_round : Cond.instanceMethod yX3_round ∈ nw_T := nw_tq5 gw_a_5_1 4 rfl
theorem nw_eX3_round : Cond.selects RX3 yX3_round yX3_round ∈ nw_T := nw_tq5 gw_a_5_1 5 rfl
theorem nw_kX3_greater : Cond.code yX3_greater cX3_greater 5 (some .int) ∈ nw_T := nw_tf (nw_ms5 (List.mem_of_getElem? (i := 208) rfl)) rfl
theorem nw_yX3_greater : ne_cy yX3_greater (.code yX3_greater cX3_greater 5 (some .int)) 3 nw_T := ⟨nw_kX3_greater, nw_inX3, gy_a_4 (yX3_greater, 3) (List.mem_of_getElem? (i := 10) rfl)⟩
theorem nw_iX3_greater : Cond.instanceMethod yX3_greater ∈ nw_T := nw_tq5 gw_a_5_1 6 rfl
theorem nw_eX3_greater : Cond.selects RX3 yX3_greater yX3_greater ∈ nw_T := nw_tq5 gw_a_5_1 7 rfl
theorem nw_kX3_lesser : Cond.code yX3_lesser cX3_lesser 5 (some .int) ∈ nw_T := nw_tf (nw_ms5 (List.mem_of_getElem? (i := 216) rfl)) rfl
theorem nw_yX3_lesser : ne_cy yX3_lesser (.code yX3_lesser cX3_lesser 5 (some .int)) 3 nw_T := ⟨nw_kX3_lesser, nw_inX3, gy_a_4 (yX3_lesser, 3) (List.mem_of_getElem? (i := 11) rfl)⟩
theorem nw_iX3_lesser : Cond.instanceMethod yX3_lesser ∈ nw_T := nw_tq5 gw_a_5_1 8 rfl
theorem nw_eX3_lesser : Cond.selects RX3 yX3_lesser yX3_lesser ∈ nw_T := nw_tq5 gw_a_5_1 9 rfl
theorem nw_kX3_cutOf : Cond.code yX3_cutOf cX3_cutOf 7 (some .long) ∈ nw_T := nw_tf (nw_ms5 (List.mem_of_getElem? (i := 227) rfl)) rfl
theorem nw_yX3_cutOf : ne_cy yX3_cutOf (.code yX3_cutOf cX3_cutOf 7 (some .long)) 4 nw_T := ⟨nw_kX3_cutOf, nw_inX3, gy_a_4 (yX3_cutOf, 4) (List.mem_of_getElem? (i := 12) rfl)⟩
theorem nw_iX3_cutOf : Cond.instanceMethod yX3_cutOf ∈ nw_T := nw_tq5 gw_a_5_1 10 rfl
theorem nw_eX3_cutOf : Cond.selects RX3 yX3_cutOf yX3_cutOf ∈ nw_T := nw_tq gw_a_0_0 34 rfl
theorem nw_kX3_cut : Cond.code yX3_cut cX3_cut 6 (some .int) ∈ nw_T := nw_tf (nw_ms5 (List.mem_of_getElem? (i := 220) rfl)) rfl
theorem nw_yX3_cut : ne_cy yX3_cut (.code yX3_cut cX3_cut 6 (some .int)) 5 nw_T := ⟨nw_kX3_cut, nw_inX3, gy_a_4 (yX3_cut, 5) (List.mem_of_getElem? (i := 13) rfl)⟩
theorem nw_iX3_cut : Cond.instanceMethod yX3_cut ∈ nw_T := nw_tq5 gw_a_5_1 11 rfl
theorem nw_eX3_cut : Cond.selects RX3 yX3_cut yX3_cut ∈ nw_T := nw_tq5 gw_a_5_1 12 rfl
theorem nw_kX3_count : Cond.code yX3_count cX3_count 2 (some .int) ∈ nw_T := nw_tf (nw_ms5 (List.mem_of_getElem? (i := 231) rfl)) rfl
theorem nw_yX3_count : ne_cy yX3_count (.code yX3_count cX3_count 2 (some .int)) 1 nw_T := ⟨nw_kX3_count, nw_inX3, gy_a_4 (yX3_count, 1) (List.mem_of_getElem? (i := 14) rfl)⟩
theorem nw_iX3_count : Cond.instanceMethod yX3_count ∈ nw_T := nw_tq5 gw_a_5_1 13 rfl
theorem nw_eX3_count : Cond.selects RX3 yX3_count yX3_count ∈ nw_T := nw_tq5 gw_a_5_1 14 rfl
theorem nw_kX3_places : Cond.code yX3_places cX3_places 2 (some .int) ∈ nw_T := nw_tf (nw_ms5 (List.mem_of_getElem? (i := 235) rfl)) rfl
theorem nw_yX3_places : ne_cy yX3_places (.code yX3_places cX3_places 2 (some .int)) 1 nw_T := ⟨nw_kX3_places, nw_inX3, gy_a_4 (yX3_places, 1) (List.mem_of_getElem? (i := 15) rfl)⟩
theorem nw_iX3_places : Cond.instanceMethod yX3_places ∈ nw_T := nw_tq5 gw_a_5_1 15 rfl
theorem nw_eX3_places : Cond.selects RX3 yX3_places yX3_places ∈ nw_T := nw_tq5 gw_a_5_1 16 rfl
theorem nw_kX3_digits : Cond.code yX3_digits cX3_digits 2 (some .int) ∈ nw_T := nw_tf (nw_ms5 (List.mem_of_getElem? (i := 239) rfl)) rfl
theorem nw_yX3_digits : ne_cy yX3_digits (.code yX3_digits cX3_digits 2 (some .int)) 1 nw_T := ⟨nw_kX3_digits, nw_inX3, gy_a_4 (yX3_digits, 1) (List.mem_of_getElem? (i := 16) rfl)⟩
theorem nw_iX3_digits : Cond.instanceMethod yX3_digits ∈ nw_T := nw_tq5 gw_a_5_1 17 rfl
theorem nw_eX3_digits : Cond.selects RX3 yX3_digits yX3_digits ∈ nw_T := nw_tq5 gw_a_5_1 18 rfl
theorem nw_kX3_sign : Cond.code yX3_sign cX3_sign 2 (some .int) ∈ nw_T := nw_tf (nw_ms6 (List.mem_of_getElem? (i := 3) rfl)) rfl
theorem nw_yX3_sign : ne_cy yX3_sign (.code yX3_sign cX3_sign 2 (some .int)) 1 nw_T := ⟨nw_kX3_sign, nw_inX3, gy_a_4 (yX3_sign, 1) (List.mem_of_getElem? (i := 17) rfl)⟩
theorem nw_iX3_sign : Cond.instanceMethod yX3_sign ∈ nw_T := nw_tq6 gw_a_6_0 1 rfl
theorem nw_eX3_sign : Cond.selects RX3 yX3_sign yX3_sign ∈ nw_T := nw_tq6 gw_a_6_0 2 rfl
theorem nw_kX3_textOf : Cond.code yX3_textOf cX3_textOf 6 (some (.object "java/lang/String")) ∈ nw_T := nw_tf (nw_ms6 (List.mem_of_getElem? (i := 11) rfl)) rfl
theorem nw_yX3_textOf : ne_cy yX3_textOf (.code yX3_textOf cX3_textOf 6 (some (.object "java/lang/String"))) 2 nw_T := ⟨nw_kX3_textOf, nw_inX3, gy_a_4 (yX3_textOf, 2) (List.mem_of_getElem? (i := 18) rfl)⟩
theorem nw_sX3_textOf : Cond.static yX3_textOf ∈ nw_T := nw_tq6 gw_a_6_0 3 rfl
theorem nw_kX3_text : Cond.code yX3_text cX3_text 3 (some (.object "java/lang/String")) ∈ nw_T := nw_tf (nw_ms6 (List.mem_of_getElem? (i := 7) rfl)) rfl
theorem nw_yX3_text : ne_cy yX3_text (.code yX3_text cX3_text 3 (some (.object "java/lang/String"))) 2 nw_T := ⟨nw_kX3_text, nw_inX3, gy_a_4 (yX3_text, 2) (List.mem_of_getElem? (i := 19) rfl)⟩
theorem nw_iX3_text : Cond.instanceMethod yX3_text ∈ nw_T := nw_tq6 gw_a_6_0 4 rfl
theorem nw_eX3_text : Cond.selects RX3 yX3_text yX3_text ∈ nw_T := nw_tq6 gw_a_6_0 5 rfl
theorem nw_kX3_order : Cond.code yX3_order cX3_order 3 (some .int) ∈ nw_T := nw_tf (nw_ms6 (List.mem_of_getElem? (i := 22) rfl)) rfl
theorem nw_yX3_order : ne_cy yX3_order (.code yX3_order cX3_order 3 (some .int)) 2 nw_T := ⟨nw_kX3_order, nw_inX3, gy_a_4 (yX3_order, 2) (List.mem_of_getElem? (i := 20) rfl)⟩
theorem nw_iX3_order : Cond.instanceMethod yX3_order ∈ nw_T := nw_tq6 gw_a_6_0 6 rfl
theorem nw_eX3_order : Cond.selects RX3 yX3_order yX3_order ∈ nw_T := nw_tq6 gw_a_6_0 7 rfl
theorem nw_kX3_areSame : Cond.code yX3_areSame cX3_areSame 3 (some .boolean) ∈ nw_T := nw_tf (nw_ms6 (List.mem_of_getElem? (i := 30) rfl)) rfl
theorem nw_yX3_areSame : ne_cy yX3_areSame (.code yX3_areSame cX3_areSame 3 (some .boolean)) 2 nw_T := ⟨nw_kX3_areSame, nw_inX3, gy_a_4 (yX3_areSame, 2) (List.mem_of_getElem? (i := 21) rfl)⟩
theorem nw_iX3_areSame : Cond.instanceMethod yX3_areSame ∈ nw_T := nw_tq6 gw_a_6_0 8 rfl
theorem nw_eX3_areSame : Cond.selects RX3 yX3_areSame yX3_areSame ∈ nw_T := nw_tq gw_a_0_0 35 rfl
theorem nw_kX3_same : Cond.code yX3_same cX3_same 3 (some .boolean) ∈ nw_T := nw_tf (nw_ms6 (List.mem_of_getElem? (i := 26) rfl)) rfl
theorem nw_yX3_same : ne_cy yX3_same (.code yX3_same cX3_same 3 (some .boolean)) 2 nw_T := ⟨nw_kX3_same, nw_inX3, gy_a_4 (yX3_same, 2) (List.mem_of_getElem? (i := 22) rfl)⟩
theorem nw_iX3_same : Cond.instanceMethod yX3_same ∈ nw_T := nw_tq6 gw_a_6_0 9 rfl
theorem nw_eX3_same : Cond.selects RX3 yX3_same yX3_same ∈ nw_T := nw_tq6 gw_a_6_0 10 rfl
theorem nw_kX3_restOf : Cond.code yX3_restOf cX3_restOf 5 (some .int) ∈ nw_T := nw_tf (nw_ms6 (List.mem_of_getElem? (i := 55) rfl)) rfl
theorem nw_yX3_restOf : ne_cy yX3_restOf (.code yX3_restOf cX3_restOf 5 (some .int)) 3 nw_T := ⟨nw_kX3_restOf, nw_inX3, gy_a_4 (yX3_restOf, 3) (List.mem_of_getElem? (i := 23) rfl)⟩
theorem nw_sX3_restOf : Cond.static yX3_restOf ∈ nw_T := nw_tq6 gw_a_6_0 11 rfl
theorem nw_kX3_lengthOf : Cond.code yX3_lengthOf cX3_lengthOf 4 (some .int) ∈ nw_T := nw_tf (nw_ms6 (List.mem_of_getElem? (i := 48) rfl)) rfl
theorem nw_yX3_lengthOf : ne_cy yX3_lengthOf (.code yX3_lengthOf cX3_lengthOf 4 (some .int)) 2 nw_T := ⟨nw_kX3_lengthOf, nw_inX3, gy_a_4 (yX3_lengthOf, 2) (List.mem_of_getElem? (i := 24) rfl)⟩
theorem nw_sX3_lengthOf : Cond.static yX3_lengthOf ∈ nw_T := nw_tq6 gw_a_6_0 12 rfl
theorem nw_kX3_lengthOf_ : Cond.code yX3_lengthOf_ cX3_lengthOf_ 2 (some .int) ∈ nw_T := nw_tf (nw_ms6 (List.mem_of_getElem? (i := 45) rfl)) rfl
theorem nw_yX3_lengthOf_ : ne_cy yX3_lengthOf_ (.code yX3_lengthOf_ cX3_lengthOf_ 2 (some .int)) 1 nw_T := ⟨nw_kX3_lengthOf_, nw_inX3, gy_a_4 (yX3_lengthOf_, 1) (List.mem_of_getElem? (i := 25) rfl)⟩
theorem nw_iX3_lengthOf_ : Cond.instanceMethod yX3_lengthOf_ ∈ nw_T := nw_tq6 gw_a_6_0 13 rfl
theorem nw_eX3_lengthOf_ : Cond.selects RX3 yX3_lengthOf_ yX3_lengthOf_ ∈ nw_T := nw_tq gw_a_0_0 36 rfl
theorem nw_kX3_set : Cond.code yX3_set cX3_set 4 (none) ∈ nw_T := nw_tf (nw_ms6 (List.mem_of_getElem? (i := 41) rfl)) rfl
theorem nw_yX3_set : ne_cy yX3_set (.code yX3_set cX3_set 4 (none)) 3 nw_T := ⟨nw_kX3_set, nw_inX3, gy_a_4 (yX3_set, 3) (List.mem_of_getElem? (i := 26) rfl)⟩
theorem nw_iX3_set : Cond.instanceMethod yX3_set ∈ nw_T := nw_tq6 gw_a_6_0 14 rfl
theorem nw_eX3_set : Cond.selects RX3 yX3_set yX3_set ∈ nw_T := nw_tq gw_a_0_0 37 rfl
theorem nw_kX3_setWheel : Cond.code yX3_setWheel cX3_setWheel 4 (some .int) ∈ nw_T := nw_tf (nw_ms6 (List.mem_of_getElem? (i := 34) rfl)) rfl
theorem nw_yX3_setWheel : ne_cy yX3_setWheel (.code yX3_setWheel cX3_setWheel 4 (some .int)) 3 nw_T := ⟨nw_kX3_setWheel, nw_inX3, gy_a_4 (yX3_setWheel, 3) (List.mem_of_getElem? (i := 27) rfl)⟩
theorem nw_iX3_setWheel : Cond.instanceMethod yX3_setWheel ∈ nw_T := nw_tq6 gw_a_6_0 15 rfl
theorem nw_eX3_setWheel : Cond.selects RX3 yX3_setWheel yX3_setWheel ∈ nw_T := nw_tq6 gw_a_6_0 16 rfl
theorem nw_kX3_step : Cond.code yX3_step cX3_step 3 (some .int) ∈ nw_T := nw_tf (nw_ms6 (List.mem_of_getElem? (i := 52) rfl)) rfl
theorem nw_yX3_step : ne_cy yX3_step (.code yX3_step cX3_step 3 (some .int)) 1 nw_T := ⟨nw_kX3_step, nw_inX3, gy_a_4 (yX3_step, 1) (List.mem_of_getElem? (i := 28) rfl)⟩
theorem nw_iX3_step : Cond.instanceMethod yX3_step ∈ nw_T := nw_tq6 gw_a_6_0 17 rfl
theorem nw_eX3_step : Cond.selects RX3 yX3_step yX3_step ∈ nw_T := nw_tq6 gw_a_6_0 18 rfl
theorem nw_kX3_turn : Cond.code yX3_turn cX3_turn 3 (some .int) ∈ nw_T := nw_tf (nw_ms6 (List.mem_of_getElem? (i := 59) rfl)) rfl
theorem nw_yX3_turn : ne_cy yX3_turn (.code yX3_turn cX3_turn 3 (some .int)) 2 nw_T := ⟨nw_kX3_turn, nw_inX3, gy_a_4 (yX3_turn, 2) (List.mem_of_getElem? (i := 29) rfl)⟩
theorem nw_iX3_turn : Cond.instanceMethod yX3_turn ∈ nw_T := nw_tq6 gw_a_6_0 19 rfl
theorem nw_eX3_turn : Cond.selects RX3 yX3_turn yX3_turn ∈ nw_T := nw_tq6 gw_a_6_0 20 rfl
theorem nw_kX3_times : Cond.code yX3_times cX3_times 4 (some .int) ∈ nw_T := nw_tf (nw_ms6 (List.mem_of_getElem? (i := 63) rfl)) rfl
theorem nw_yX3_times : ne_cy yX3_times (.code yX3_times cX3_times 4 (some .int)) 3 nw_T := ⟨nw_kX3_times, nw_inX3, gy_a_5 (yX3_times, 3) (List.mem_of_getElem? (i := 0) rfl)⟩
theorem nw_iX3_times : Cond.instanceMethod yX3_times ∈ nw_T := nw_tq6 gw_a_6_0 21 rfl
theorem nw_eX3_times : Cond.selects RX3 yX3_times yX3_times ∈ nw_T := nw_tq6 gw_a_6_0 22 rfl
theorem nw_kX3_spokeOf : Cond.code yX3_spokeOf cX3_spokeOf 3 (some .int) ∈ nw_T := nw_tf (nw_ms6 (List.mem_of_getElem? (i := 71) rfl)) rfl
theorem nw_yX3_spokeOf : ne_cy yX3_spokeOf (.code yX3_spokeOf cX3_spokeOf 3 (some .int)) 2 nw_T := ⟨nw_kX3_spokeOf, nw_inX3, gy_a_5 (yX3_spokeOf, 2) (List.mem_of_getElem? (i := 1) rfl)⟩
theorem nw_iX3_spokeOf : Cond.instanceMethod yX3_spokeOf ∈ nw_T := nw_tq6 gw_a_6_0 23 rfl
theorem nw_eX3_spokeOf : Cond.selects RX3 yX3_spokeOf yX3_spokeOf ∈ nw_T := nw_tq gw_a_0_0 38 rfl
theorem nw_kX3_spoke : Cond.code yX3_spoke cX3_spoke 3 (some .int) ∈ nw_T := nw_tf (nw_ms6 (List.mem_of_getElem? (i := 67) rfl)) rfl
theorem nw_yX3_spoke : ne_cy yX3_spoke (.code yX3_spoke cX3_spoke 3 (some .int)) 2 nw_T := ⟨nw_kX3_spoke, nw_inX3, gy_a_5 (yX3_spoke, 2) (List.mem_of_getElem? (i := 2) rfl)⟩
theorem nw_iX3_spoke : Cond.instanceMethod yX3_spoke ∈ nw_T := nw_tq6 gw_a_6_0 24 rfl
theorem nw_eX3_spoke : Cond.selects RX3 yX3_spoke yX3_spoke ∈ nw_T := nw_tq6 gw_a_6_0 25 rfl
theorem nw_kX3_lowest : Cond.code yX3_lowest cX3_lowest 3 (some .int) ∈ nw_T := nw_tf (nw_ms6 (List.mem_of_getElem? (i := 75) rfl)) rfl
theorem nw_yX3_lowest : ne_cy yX3_lowest (.code yX3_lowest cX3_lowest 3 (some .int)) 1 nw_T := ⟨nw_kX3_lowest, nw_inX3, gy_a_5 (yX3_lowest, 1) (List.mem_of_getElem? (i := 3) rfl)⟩
theorem nw_iX3_lowest : Cond.instanceMethod yX3_lowest ∈ nw_T := nw_tq6 gw_a_6_0 26 rfl
theorem nw_eX3_lowest : Cond.selects RX3 yX3_lowest yX3_lowest ∈ nw_T := nw_tq6 gw_a_6_0 27 rfl
theorem nw_kX3_tens : Cond.code yX3_tens cX3_tens 2 (some .int) ∈ nw_T := nw_tf (nw_ms6 (List.mem_of_getElem? (i := 79) rfl)) rfl
theorem nw_yX3_tens : ne_cy yX3_tens (.code yX3_tens cX3_tens 2 (some .int)) 1 nw_T := ⟨nw_kX3_tens, nw_inX3, gy_a_5 (yX3_tens, 1) (List.mem_of_getElem? (i := 4) rfl)⟩
theorem nw_iX3_tens : Cond.instanceMethod yX3_tens ∈ nw_T := nw_tq6 gw_a_6_0 28 rfl
theorem nw_eX3_tens : Cond.selects RX3 yX3_tens yX3_tens ∈ nw_T := nw_tq6 gw_a_6_0 29 rfl
theorem nw_kX3_restAt : Cond.code yX3_restAt cX3_restAt 3 (some .int) ∈ nw_T := nw_tf (nw_ms6 (List.mem_of_getElem? (i := 83) rfl)) rfl
theorem nw_yX3_restAt : ne_cy yX3_restAt (.code yX3_restAt cX3_restAt 3 (some .int)) 2 nw_T := ⟨nw_kX3_restAt, nw_inX3, gy_a_5 (yX3_restAt, 2) (List.mem_of_getElem? (i := 5) rfl)⟩
theorem nw_iX3_restAt : Cond.instanceMethod yX3_restAt ∈ nw_T := nw_tq6 gw_a_6_0 30 rfl
theorem nw_eX3_restAt : Cond.selects RX3 yX3_restAt yX3_restAt ∈ nw_T := nw_tq6 gw_a_6_0 31 rfl
theorem nw_kX3_row : Cond.code yX3_row cX3_row 7 (some (.array .int)) ∈ nw_T := nw_tf (nw_ms6 (List.mem_of_getElem? (i := 91) rfl)) rfl
theorem nw_yX3_row : ne_cy yX3_row (.code yX3_row cX3_row 7 (some (.array .int))) 3 nw_T := ⟨nw_kX3_row, nw_inX3, gy_a_5 (yX3_row, 3) (List.mem_of_getElem? (i := 6) rfl)⟩
theorem nw_iX3_row : Cond.instanceMethod yX3_row ∈ nw_T := nw_tq6 gw_a_6_0 32 rfl
theorem nw_eX3_row : Cond.selects RX3 yX3_row yX3_row ∈ nw_T := nw_tq gw_a_0_0 39 rfl
theorem nw_kX3_written : Cond.code yX3_written cX3_written 4 (some (.object "java/lang/String")) ∈ nw_T := nw_tf (nw_ms6 (List.mem_of_getElem? (i := 94) rfl)) rfl
theorem nw_yX3_written : ne_cy yX3_written (.code yX3_written cX3_written 4 (some (.object "java/lang/String"))) 2 nw_T := ⟨nw_kX3_written, nw_inX3, gy_a_5 (yX3_written, 2) (List.mem_of_getElem? (i := 7) rfl)⟩
theorem nw_sX3_written : Cond.static yX3_written ∈ nw_T := nw_tq6 gw_a_6_0 33 rfl
theorem nw_kX3_number : Cond.code yX3_number cX3_number 2 (some (.object "java/lang/String")) ∈ nw_T := nw_tf (nw_ms6 (List.mem_of_getElem? (i := 114) rfl)) rfl
theorem nw_yX3_number : ne_cy yX3_number (.code yX3_number cX3_number 2 (some (.object "java/lang/String"))) 1 nw_T := ⟨nw_kX3_number, nw_inX3, gy_a_5 (yX3_number, 1) (List.mem_of_getElem? (i := 8) rfl)⟩
theorem nw_sX3_number : Cond.static yX3_number ∈ nw_T := nw_tq6 gw_a_6_0 34 rfl
theorem nw_kX3_digitsFrom : Cond.code yX3_digitsFrom cX3_digitsFrom 4 (some (.object "java/lang/String")) ∈ nw_T := nw_tf (nw_ms6 (List.mem_of_getElem? (i := 87) rfl)) rfl
theorem nw_yX3_digitsFrom : ne_cy yX3_digitsFrom (.code yX3_digitsFrom cX3_digitsFrom 4 (some (.object "java/lang/String"))) 3 nw_T := ⟨nw_kX3_digitsFrom, nw_inX3, gy_a_5 (yX3_digitsFrom, 3) (List.mem_of_getElem? (i := 9) rfl)⟩
theorem nw_iX3_digitsFrom : Cond.instanceMethod yX3_digitsFrom ∈ nw_T := nw_tq6 gw_a_6_0 35 rfl
theorem nw_eX3_digitsFrom : Cond.selects RX3 yX3_digitsFrom yX3_digitsFrom ∈ nw_T := nw_tq6 gw_a_6_0 36 rfl
theorem nw_kX3_cutText : Cond.code yX3_cutText cX3_cutText 7 (some (.object "java/lang/String")) ∈ nw_T := nw_tf (nw_ms6 (List.mem_of_getElem? (i := 98) rfl)) rfl
theorem nw_yX3_cutText : ne_cy yX3_cutText (.code yX3_cutText cX3_cutText 7 (some (.object "java/lang/String"))) 4 nw_T := ⟨nw_kX3_cutText, nw_inX3, gy_a_5 (yX3_cutText, 4) (List.mem_of_getElem? (i := 10) rfl)⟩
theorem nw_iX3_cutText : Cond.instanceMethod yX3_cutText ∈ nw_T := nw_tq6 gw_a_6_0 37 rfl
theorem nw_eX3_cutText : Cond.selects RX3 yX3_cutText yX3_cutText ∈ nw_T := nw_tq6 gw_a_6_0 38 rfl
theorem nw_kX3_number_ : Cond.code yX3_number_ cX3_number_ 2 (some (.object "java/lang/String")) ∈ nw_T := nw_tf (nw_ms6 (List.mem_of_getElem? (i := 103) rfl)) rfl
theorem nw_yX3_number_ : ne_cy yX3_number_ (.code yX3_number_ cX3_number_ 2 (some (.object "java/lang/String"))) 1 nw_T := ⟨nw_kX3_number_, nw_inX3, gy_a_5 (yX3_number_, 1) (List.mem_of_getElem? (i := 11) rfl)⟩
theorem nw_iX3_number_ : Cond.instanceMethod yX3_number_ ∈ nw_T := nw_tq6 gw_a_6_0 39 rfl
theorem nw_eX3_number_ : Cond.selects RX3 yX3_number_ yX3_number_ ∈ nw_T := nw_tq6 gw_a_6_0 40 rfl
theorem nw_kX3_timesBottom : Cond.code yX3_timesBottom cX3_timesBottom 6 (some (.array .int)) ∈ nw_T := nw_tf (nw_ms6 (List.mem_of_getElem? (i := 111) rfl)) rfl
theorem nw_yX3_timesBottom : ne_cy yX3_timesBottom (.code yX3_timesBottom cX3_timesBottom 6 (some (.array .int))) 1 nw_T := ⟨nw_kX3_timesBottom, nw_inX3, gy_a_5 (yX3_timesBottom, 1) (List.mem_of_getElem? (i := 12) rfl)⟩
theorem nw_iX3_timesBottom : Cond.instanceMethod yX3_timesBottom ∈ nw_T := nw_tq6 gw_a_6_0 41 rfl
theorem nw_eX3_timesBottom : Cond.selects RX3 yX3_timesBottom yX3_timesBottom ∈ nw_T := nw_tq gw_a_0_0 40 rfl
theorem nw_kX3_product : Cond.code yX3_product cX3_product 2 (some (.object "java/lang/String")) ∈ nw_T := nw_tf (nw_ms6 (List.mem_of_getElem? (i := 107) rfl)) rfl
theorem nw_yX3_product : ne_cy yX3_product (.code yX3_product cX3_product 2 (some (.object "java/lang/String"))) 1 nw_T := ⟨nw_kX3_product, nw_inX3, gy_a_5 (yX3_product, 1) (List.mem_of_getElem? (i := 13) rfl)⟩
theorem nw_iX3_product : Cond.instanceMethod yX3_product ∈ nw_T := nw_tq6 gw_a_6_0 42 rfl
theorem nw_eX3_product : Cond.selects RX3 yX3_product yX3_product ∈ nw_T := nw_tq6 gw_a_6_0 43 rfl
theorem nw_kX3_sumOf : Cond.code yX3_sumOf cX3_sumOf 10 (some (.array .int)) ∈ nw_T := nw_tf (nw_ms6 (List.mem_of_getElem? (i := 122) rfl)) rfl
theorem nw_yX3_sumOf : ne_cy yX3_sumOf (.code yX3_sumOf cX3_sumOf 10 (some (.array .int))) 2 nw_T := ⟨nw_kX3_sumOf, nw_inX3, gy_a_5 (yX3_sumOf, 2) (List.mem_of_getElem? (i := 14) rfl)⟩
theorem nw_iX3_sumOf : Cond.instanceMethod yX3_sumOf ∈ nw_T := nw_tq6 gw_a_6_0 44 rfl
theorem nw_eX3_sumOf : Cond.selects RX3 yX3_sumOf yX3_sumOf ∈ nw_T := nw_tq gw_a_0_0 41 rfl
theorem nw_kX3_partSum : Cond.code yX3_partSum cX3_partSum 4 (some (.object "java/lang/String")) ∈ nw_T := nw_tf (nw_ms6 (List.mem_of_getElem? (i := 118) rfl)) rfl
theorem nw_yX3_partSum : ne_cy yX3_partSum (.code yX3_partSum cX3_partSum 4 (some (.object "java/lang/String"))) 2 nw_T := ⟨nw_kX3_partSum, nw_inX3, gy_a_5 (yX3_partSum, 2) (List.mem_of_getElem? (i := 15) rfl)⟩
theorem nw_iX3_partSum : Cond.instanceMethod yX3_partSum ∈ nw_T := nw_tq6 gw_a_6_0 45 rfl
theorem nw_eX3_partSum : Cond.selects RX3 yX3_partSum yX3_partSum ∈ nw_T := nw_tq6 gw_a_6_0 46 rfl
theorem nw_kX3_areLike : Cond.code yX3_areLike cX3_areLike 3 (some .boolean) ∈ nw_T := nw_tf (nw_ms6 (List.mem_of_getElem? (i := 133) rfl)) rfl
theorem nw_yX3_areLike : ne_cy yX3_areLike (.code yX3_areLike cX3_areLike 3 (some .boolean)) 2 nw_T := ⟨nw_kX3_areLike, nw_inX3, gy_a_5 (yX3_areLike, 2) (List.mem_of_getElem? (i := 16) rfl)⟩
theorem nw_sX3_areLike : Cond.static yX3_areLike ∈ nw_T := nw_tq6 gw_a_6_0 47 rfl
theorem nw_kX3_ninesOf : Cond.code yX3_ninesOf cX3_ninesOf 8 (some .int) ∈ nw_T := nw_tf (nw_ms6 (List.mem_of_getElem? (i := 130) rfl)) rfl
theorem nw_yX3_ninesOf : ne_cy yX3_ninesOf (.code yX3_ninesOf cX3_ninesOf 8 (some .int)) 2 nw_T := ⟨nw_kX3_ninesOf, nw_inX3, gy_a_5 (yX3_ninesOf, 2) (List.mem_of_getElem? (i := 17) rfl)⟩
theorem nw_iX3_ninesOf : Cond.instanceMethod yX3_ninesOf ∈ nw_T := nw_tq6 gw_a_6_0 48 rfl
theorem nw_eX3_ninesOf : Cond.selects RX3 yX3_ninesOf yX3_ninesOf ∈ nw_T := nw_tq gw_a_0_0 42 rfl
theorem nw_kX3_nines : Cond.code yX3_nines cX3_nines 3 (some .int) ∈ nw_T := nw_tf (nw_ms6 (List.mem_of_getElem? (i := 126) rfl)) rfl
theorem nw_yX3_nines : ne_cy yX3_nines (.code yX3_nines cX3_nines 3 (some .int)) 2 nw_T := ⟨nw_kX3_nines, nw_inX3, gy_a_5 (yX3_nines, 2) (List.mem_of_getElem? (i := 18) rfl)⟩
theorem nw_iX3_nines : Cond.instanceMethod yX3_nines ∈ nw_T := nw_tq6 gw_a_6_0 49 rfl
theorem nw_eX3_nines : Cond.selects RX3 yX3_nines yX3_nines ∈ nw_T := nw_tq6 gw_a_6_0 50 rfl
theorem nw_kX3_placeOf : Cond.code yX3_placeOf cX3_placeOf 5 (some .int) ∈ nw_T := nw_tf (nw_ms6 (List.mem_of_getElem? (i := 137) rfl)) rfl
theorem nw_yX3_placeOf : ne_cy yX3_placeOf (.code yX3_placeOf cX3_placeOf 5 (some .int)) 2 nw_T := ⟨nw_kX3_placeOf, nw_inX3, gy_a_5 (yX3_placeOf, 2) (List.mem_of_getElem? (i := 19) rfl)⟩
theorem nw_iX3_placeOf : Cond.instanceMethod yX3_placeOf ∈ nw_T := nw_tq6 gw_a_6_0 51 rfl
theorem nw_eX3_placeOf : Cond.selects RX3 yX3_placeOf yX3_placeOf ∈ nw_T := nw_tq6 gw_a_6_0 52 rfl
theorem nw_kX3_wheelsOrdered : Cond.code yX3_wheelsOrdered cX3_wheelsOrdered 3 (some .int) ∈ nw_T := nw_tf (nw_ms6 (List.mem_of_getElem? (i := 145) rfl)) rfl
theorem nw_yX3_wheelsOrdered : ne_cy yX3_wheelsOrdered (.code yX3_wheelsOrdered cX3_wheelsOrdered 3 (some .int)) 2 nw_T := ⟨nw_kX3_wheelsOrdered, nw_inX3, gy_a_5 (yX3_wheelsOrdered, 2) (List.mem_of_getElem? (i := 20) rfl)⟩
theorem nw_iX3_wheelsOrdered : Cond.instanceMethod yX3_wheelsOrdered ∈ nw_T := nw_tq6 gw_a_6_0 53 rfl
theorem nw_eX3_wheelsOrdered : Cond.selects RX3 yX3_wheelsOrdered yX3_wheelsOrdered ∈ nw_T := nw_tq gw_a_0_0 43 rfl
theorem nw_kX3_wheelOrder : Cond.code yX3_wheelOrder cX3_wheelOrder 3 (some .int) ∈ nw_T := nw_tf (nw_ms6 (List.mem_of_getElem? (i := 141) rfl)) rfl
theorem nw_yX3_wheelOrder : ne_cy yX3_wheelOrder (.code yX3_wheelOrder cX3_wheelOrder 3 (some .int)) 2 nw_T := ⟨nw_kX3_wheelOrder, nw_inX3, gy_a_5 (yX3_wheelOrder, 2) (List.mem_of_getElem? (i := 21) rfl)⟩
theorem nw_iX3_wheelOrder : Cond.instanceMethod yX3_wheelOrder ∈ nw_T := nw_tq6 gw_a_6_0 54 rfl
theorem nw_eX3_wheelOrder : Cond.selects RX3 yX3_wheelOrder yX3_wheelOrder ∈ nw_T := nw_tq6 gw_a_6_0 55 rfl
theorem nw_kX3_heldAgainst : Cond.code yX3_heldAgainst cX3_heldAgainst 3 (some .int) ∈ nw_T := nw_tf (nw_ms6 (List.mem_of_getElem? (i := 153) rfl)) rfl
theorem nw_yX3_heldAgainst : ne_cy yX3_heldAgainst (.code yX3_heldAgainst cX3_heldAgainst 3 (some .int)) 2 nw_T := ⟨nw_kX3_heldAgainst, nw_inX3, gy_a_5 (yX3_heldAgainst, 2) (List.mem_of_getElem? (i := 22) rfl)⟩
theorem nw_iX3_heldAgainst : Cond.instanceMethod yX3_heldAgainst ∈ nw_T := nw_tq6 gw_a_6_0 56 rfl
theorem nw_eX3_heldAgainst : Cond.selects RX3 yX3_heldAgainst yX3_heldAgainst ∈ nw_T := nw_tq gw_a_0_0 44 rfl
theorem nw_kX3_against : Cond.code yX3_against cX3_against 3 (some .int) ∈ nw_T := nw_tf (nw_ms6 (List.mem_of_getElem? (i := 149) rfl)) rfl
theorem nw_yX3_against : ne_cy yX3_against (.code yX3_against cX3_against 3 (some .int)) 2 nw_T := ⟨nw_kX3_against, nw_inX3, gy_a_5 (yX3_against, 2) (List.mem_of_getElem? (i := 23) rfl)⟩
theorem nw_iX3_against : Cond.instanceMethod yX3_against ∈ nw_T := nw_tq6 gw_a_6_0 57 rfl
theorem nw_eX3_against : Cond.selects RX3 yX3_against yX3_against ∈ nw_T := nw_tq6 gw_a_6_0 58 rfl
theorem nw_kX3_house : Cond.code yX3_house cX3_house 2 (some .int) ∈ nw_T := nw_tf (nw_ms6 (List.mem_of_getElem? (i := 157) rfl)) rfl
theorem nw_yX3_house : ne_cy yX3_house (.code yX3_house cX3_house 2 (some .int)) 1 nw_T := ⟨nw_kX3_house, nw_inX3, gy_a_5 (yX3_house, 1) (List.mem_of_getElem? (i := 24) rfl)⟩
theorem nw_iX3_house : Cond.instanceMethod yX3_house ∈ nw_T := nw_tq6 gw_a_6_0 59 rfl
theorem nw_eX3_house : Cond.selects RX3 yX3_house yX3_house ∈ nw_T := nw_tq6 gw_a_6_1 0 rfl
theorem nw_kX3_knock : Cond.code yX3_knock cX3_knock 1 (some .int) ∈ nw_T := nw_tf (nw_ms6 (List.mem_of_getElem? (i := 161) rfl)) rfl
theorem nw_yX3_knock : ne_cy yX3_knock (.code yX3_knock cX3_knock 1 (some .int)) 0 nw_T := ⟨nw_kX3_knock, nw_inX3, gy_a_5 (yX3_knock, 0) (List.mem_of_getElem? (i := 25) rfl)⟩
theorem nw_iX3_knock : Cond.instanceMethod yX3_knock ∈ nw_T := nw_tq6 gw_a_6_1 1 rfl
theorem nw_eX3_knock : Cond.selects RX3 yX3_knock yX3_knock ∈ nw_T := nw_tq6 gw_a_6_1 2 rfl
theorem nw_kX3_isSoundPair : Cond.code yX3_isSoundPair cX3_isSoundPair 7 (some .boolean) ∈ nw_T := nw_tf (nw_ms6 (List.mem_of_getElem? (i := 173) rfl)) rfl
theorem nw_yX3_isSoundPair : ne_cy yX3_isSoundPair (.code yX3_isSoundPair cX3_isSoundPair 7 (some .boolean)) 2 nw_T := ⟨nw_kX3_isSoundPair, nw_inX3, gy_a_5 (yX3_isSoundPair, 2) (List.mem_of_getElem? (i := 26) rfl)⟩
theorem nw_iX3_isSoundPair : Cond.instanceMethod yX3_isSoundPair ∈ nw_T := nw_tq6 gw_a_6_1 3 rfl
theorem nw_eX3_isSoundPair : Cond.selects RX3 yX3_isSoundPair yX3_isSoundPair ∈ nw_T := nw_tq gw_a_0_0 45 rfl
theorem nw_kX3_allNines : Cond.code yX3_allNines cX3_allNines 5 (some (.array .int)) ∈ nw_T := nw_tf (nw_ms6 (List.mem_of_getElem? (i := 181) rfl)) rfl
theorem nw_yX3_allNines : ne_cy yX3_allNines (.code yX3_allNines cX3_allNines 5 (some (.array .int))) 1 nw_T := ⟨nw_kX3_allNines, nw_inX3, gy_a_5 (yX3_allNines, 1) (List.mem_of_getElem? (i := 27) rfl)⟩
theorem nw_iX3_allNines : Cond.instanceMethod yX3_allNines ∈ nw_T := nw_tq6 gw_a_6_1 4 rfl
theorem nw_eX3_allNines : Cond.selects RX3 yX3_allNines yX3_allNines ∈ nw_T := nw_tq gw_a_0_0 46 rfl
theorem nw_kX3_isSoundWheel : Cond.code yX3_isSoundWheel cX3_isSoundWheel 5 (some .boolean) ∈ nw_T := nw_tf (nw_ms6 (List.mem_of_getElem? (i := 177) rfl)) rfl
theorem nw_yX3_isSoundWheel : ne_cy yX3_isSoundWheel (.code yX3_isSoundWheel cX3_isSoundWheel 5 (some .boolean)) 1 nw_T := ⟨nw_kX3_isSoundWheel, nw_inX3, gy_a_5 (yX3_isSoundWheel, 1) (List.mem_of_getElem? (i := 28) rfl)⟩
theorem nw_iX3_isSoundWheel : Cond.instanceMethod yX3_isSoundWheel ∈ nw_T := nw_tq6 gw_a_6_1 5 rfl
theorem nw_eX3_isSoundWheel : Cond.selects RX3 yX3_isSoundWheel yX3_isSoundWheel ∈ nw_T := nw_tq gw_a_0_0 47 rfl
theorem nw_kX3_isWhole : Cond.code yX3_isWhole cX3_isWhole 3 (some .boolean) ∈ nw_T := nw_tf (nw_ms6 (List.mem_of_getElem? (i := 169) rfl)) rfl
theorem nw_yX3_isWhole : ne_cy yX3_isWhole (.code yX3_isWhole cX3_isWhole 3 (some .boolean)) 0 nw_T := ⟨nw_kX3_isWhole, nw_inX3, gy_a_5 (yX3_isWhole, 0) (List.mem_of_getElem? (i := 29) rfl)⟩
theorem nw_iX3_isWhole : Cond.instanceMethod yX3_isWhole ∈ nw_T := nw_tq6 gw_a_6_1 6 rfl
theorem nw_eX3_isWhole : Cond.selects RX3 yX3_isWhole yX3_isWhole ∈ nw_T := nw_tq gw_a_0_0 48 rfl
theorem nw_kX3_isSound : Cond.code yX3_isSound cX3_isSound 1 (some .boolean) ∈ nw_T := nw_tf (nw_ms6 (List.mem_of_getElem? (i := 165) rfl)) rfl
theorem nw_yX3_isSound : ne_cy yX3_isSound (.code yX3_isSound cX3_isSound 1 (some .boolean)) 0 nw_T := ⟨nw_kX3_isSound, nw_inX3, gy_a_6 (yX3_isSound, 0) (List.mem_of_getElem? (i := 0) rfl)⟩
theorem nw_iX3_isSound : Cond.instanceMethod yX3_isSound ∈ nw_T := nw_tq6 gw_a_6_1 7 rfl
theorem nw_eX3_isSound : Cond.selects RX3 yX3_isSound yX3_isSound ∈ nw_T := nw_tq6 gw_a_6_1 8 rfl
theorem nw_kX3_add_ : Cond.code yX3_add_ cX3_add_ 4 (some .long) ∈ nw_T := nw_tf (nw_ms6 (List.mem_of_getElem? (i := 189) rfl)) rfl
theorem nw_yX3_add_ : ne_cy yX3_add_ (.code yX3_add_ cX3_add_ 4 (some .long)) 2 nw_T := ⟨nw_kX3_add_, nw_inX3, gy_a_6 (yX3_add_, 2) (List.mem_of_getElem? (i := 1) rfl)⟩
theorem nw_sX3_add_ : Cond.static yX3_add_ ∈ nw_T := nw_tq6 gw_a_6_1 9 rfl
theorem nw_kX3_digest : Cond.code yX3_digest cX3_digest 5 (some .long) ∈ nw_T := nw_tf (nw_ms6 (List.mem_of_getElem? (i := 185) rfl)) rfl
theorem nw_yX3_digest : ne_cy yX3_digest (.code yX3_digest cX3_digest 5 (some .long)) 0 nw_T := ⟨nw_kX3_digest, nw_inX3, gy_a_6 (yX3_digest, 0) (List.mem_of_getElem? (i := 2) rfl)⟩
theorem nw_iX3_digest : Cond.instanceMethod yX3_digest ∈ nw_T := nw_tq6 gw_a_6_1 10 rfl
theorem nw_eX3_digest : Cond.selects RX3 yX3_digest yX3_digest ∈ nw_T := nw_tq6 gw_a_6_1 11 rfl
theorem nw_kX0_init : Cond.code yX0_init cX0_init 1 (none) ∈ nw_T := nw_tf (nw_ms1 (List.mem_of_getElem? (i := 34) rfl)) rfl
theorem nw_inX0 : Cond.initialized RX0 ∈ nw_T := nw_tq1 gw_a_1_0 39 rfl
theorem nw_yX0_init : ne_cy yX0_init (.code yX0_init cX0_init 1 (none)) 0 nw_T := ⟨nw_kX0_init, nw_inX0, gy_a_6 (yX0_init, 0) (List.mem_of_getElem? (i := 3) rfl)⟩
theorem nw_iX0_init : Cond.instanceMethod yX0_init ∈ nw_T := nw_tq1 gw_a_1_0 40 rfl
theorem nw_kX0_clear : Cond.code yX0_clear cX0_clear 2 (none) ∈ nw_T := nw_tf (nw_ms1 (List.mem_of_getElem? (i := 129) rfl)) rfl
theorem nw_yX0_clear : ne_cy yX0_clear (.code yX0_clear cX0_clear 2 (none)) 0 nw_T := ⟨nw_kX0_clear, nw_inX0, gy_a_6 (yX0_clear, 0) (List.mem_of_getElem? (i := 4) rfl)⟩
theorem nw_iX0_clear : Cond.instanceMethod yX0_clear ∈ nw_T := nw_tq1 gw_a_1_0 41 rfl
theorem nw_eX0_clear : Cond.selects RX0 yX0_clear yX0_clear ∈ nw_T := nw_tq gw_a_0_0 49 rfl
theorem nw_kX0_raise : Cond.code yX0_raise cX0_raise 3 (none) ∈ nw_T := nw_tf (nw_ms1 (List.mem_of_getElem? (i := 136) rfl)) rfl
theorem nw_yX0_raise : ne_cy yX0_raise (.code yX0_raise cX0_raise 3 (none)) 2 nw_T := ⟨nw_kX0_raise, nw_inX0, gy_a_6 (yX0_raise, 2) (List.mem_of_getElem? (i := 5) rfl)⟩
theorem nw_iX0_raise : Cond.instanceMethod yX0_raise ∈ nw_T := nw_tq1 gw_a_1_0 42 rfl
theorem nw_eX0_raise : Cond.selects RX0 yX0_raise yX0_raise ∈ nw_T := nw_tq gw_a_0_0 50 rfl
theorem nw_kX0_carry : Cond.code yX0_carry cX0_carry 4 (none) ∈ nw_T := nw_tf (nw_ms1 (List.mem_of_getElem? (i := 140) rfl)) rfl
theorem nw_yX0_carry : ne_cy yX0_carry (.code yX0_carry cX0_carry 4 (none)) 0 nw_T := ⟨nw_kX0_carry, nw_inX0, gy_a_6 (yX0_carry, 0) (List.mem_of_getElem? (i := 6) rfl)⟩
theorem nw_iX0_carry : Cond.instanceMethod yX0_carry ∈ nw_T := nw_tq1 gw_a_1_0 43 rfl
theorem nw_eX0_carry : Cond.selects RX0 yX0_carry yX0_carry ∈ nw_T := nw_tq gw_a_0_0 51 rfl
theorem nw_kX0_becomeNines : Cond.code yX0_becomeNines cX0_becomeNines 4 (none) ∈ nw_T := nw_tf (nw_ms1 (List.mem_of_getElem? (i := 144) rfl)) rfl
theorem nw_yX0_becomeNines : ne_cy yX0_becomeNines (.code yX0_becomeNines cX0_becomeNines 4 (none)) 2 nw_T := ⟨nw_kX0_becomeNines, nw_inX0, gy_a_6 (yX0_becomeNines, 2) (List.mem_of_getElem? (i := 7) rfl)⟩
theorem nw_iX0_becomeNines : Cond.instanceMethod yX0_becomeNines ∈ nw_T := nw_tq1 gw_a_1_0 44 rfl
theorem nw_eX0_becomeNines : Cond.selects RX0 yX0_becomeNines yX0_becomeNines ∈ nw_T := nw_tq gw_a_0_0 52 rfl
theorem nw_kX0_isLike : Cond.code yX0_isLike cX0_isLike 3 (some .boolean) ∈ nw_T := nw_tf (nw_ms1 (List.mem_of_getElem? (i := 151) rfl)) rfl
theorem nw_yX0_isLike : ne_cy yX0_isLike (.code yX0_isLike cX0_isLike 3 (some .boolean)) 1 nw_T := ⟨nw_kX0_isLike, nw_inX0, gy_a_6 (yX0_isLike, 1) (List.mem_of_getElem? (i := 8) rfl)⟩
theorem nw_iX0_isLike : Cond.instanceMethod yX0_isLike ∈ nw_T := nw_tq1 gw_a_1_0 45 rfl
theorem nw_eX0_isLike : Cond.selects RX0 yX0_isLike yX0_isLike ∈ nw_T := nw_tq gw_a_0_0 53 rfl
theorem nw_kX0_written : Cond.code yX0_written cX0_written 4 (some (.object "java/lang/String")) ∈ nw_T := nw_tf (nw_ms4 (List.mem_of_getElem? (i := 238) rfl)) rfl
theorem nw_yX0_written : ne_cy yX0_written (.code yX0_written cX0_written 4 (some (.object "java/lang/String"))) 0 nw_T := ⟨nw_kX0_written, nw_inX0, gy_a_6 (yX0_written, 0) (List.mem_of_getElem? (i := 9) rfl)⟩
theorem nw_iX0_written : Cond.instanceMethod yX0_written ∈ nw_T := nw_tq4 gw_a_4_0 33 rfl
theorem nw_eX0_written : Cond.selects RX0 yX0_written yX0_written ∈ nw_T := nw_tq gw_a_0_0 54 rfl
theorem nw_kX2_init : Cond.code yX2_init cX2_init 1 (none) ∈ nw_T := nw_tf (nw_ms1 (List.mem_of_getElem? (i := 232) rfl)) rfl
theorem nw_inX2 : Cond.initialized RX2 ∈ nw_T := nw_tq1 gw_a_1_0 46 rfl
theorem nw_yX2_init : ne_cy yX2_init (.code yX2_init cX2_init 1 (none)) 0 nw_T := ⟨nw_kX2_init, nw_inX2, gy_a_6 (yX2_init, 0) (List.mem_of_getElem? (i := 10) rfl)⟩
theorem nw_iX2_init : Cond.instanceMethod yX2_init ∈ nw_T := nw_tq1 gw_a_1_0 47 rfl
theorem nw_kJ4_init_da8c8 : Cond.code yJ4_init_da8c8 cJ4_init_da8c8 1 (none) ∈ nw_T := nw_tf (nw_ms3 (List.mem_of_getElem? (i := 62) rfl)) rfl
theorem nw_inJ4 : Cond.initialized RJ4 ∈ nw_T := nw_tq1 gw_a_1_0 48 rfl
theorem nw_yJ4_init_da8c8 : ne_cy yJ4_init_da8c8 (.code yJ4_init_da8c8 cJ4_init_da8c8 1 (none)) 0 nw_T := ⟨nw_kJ4_init_da8c8, nw_inJ4, gy_a_6 (yJ4_init_da8c8, 0) (List.mem_of_getElem? (i := 11) rfl)⟩
theorem nw_iJ4_init_da8c8 : Cond.instanceMethod yJ4_init_da8c8 ∈ nw_T := nw_tq3 gw_a_3_0 18 rfl
theorem nw_kJ4_init_d00df : Cond.code yJ4_init_d00df cJ4_init_d00df 2 (none) ∈ nw_T := nw_tf (nw_ms6 (List.mem_of_getElem? (i := 15) rfl)) rfl
theorem nw_yJ4_init_d00df : ne_cy yJ4_init_d00df (.code yJ4_init_d00df cJ4_init_d00df 2 (none)) 1 nw_T := ⟨nw_kJ4_init_d00df, nw_inJ4, gy_a_6 (yJ4_init_d00df, 1) (List.mem_of_getElem? (i := 12) rfl)⟩
theorem nw_iJ4_init_d00df : Cond.instanceMethod yJ4_init_d00df ∈ nw_T := nw_tq6 gw_a_6_1 12 rfl
theorem nw_kJ4_append_cf468 : Cond.code yJ4_append_cf468 cJ4_append_cf468 2 (some (.object "java/lang/StringBuilder")) ∈ nw_T := nw_tf (nw_ms3 (List.mem_of_getElem? (i := 92) rfl)) rfl
theorem nw_yJ4_append_cf468 : ne_cy yJ4_append_cf468 (.code yJ4_append_cf468 cJ4_append_cf468 2 (some (.object "java/lang/StringBuilder"))) 1 nw_T := ⟨nw_kJ4_append_cf468, nw_inJ4, gy_a_6 (yJ4_append_cf468, 1) (List.mem_of_getElem? (i := 13) rfl)⟩
theorem nw_iJ4_append_cf468 : Cond.instanceMethod yJ4_append_cf468 ∈ nw_T := nw_tq3 gw_a_3_0 19 rfl
theorem nw_eJ4_append_cf468 : Cond.selects RJ4 yJ4_append_cf468 yJ4_append_cf468 ∈ nw_T := nw_tq3 gw_a_3_0 20 rfl
theorem nw_kJ4_toString_0e30d : Cond.code yJ4_toString_0e30d cJ4_toString_0e30d 1 (some (.object "java/lang/String")) ∈ nw_T := nw_tf (nw_ms3 (List.mem_of_getElem? (i := 225) rfl)) rfl
theorem nw_yJ4_toString_0e30d : ne_cy yJ4_toString_0e30d (.code yJ4_toString_0e30d cJ4_toString_0e30d 1 (some (.object "java/lang/String"))) 0 nw_T := ⟨nw_kJ4_toString_0e30d, nw_inJ4, gy_a_6 (yJ4_toString_0e30d, 0) (List.mem_of_getElem? (i := 14) rfl)⟩
theorem nw_iJ4_toString_0e30d : Cond.instanceMethod yJ4_toString_0e30d ∈ nw_T := nw_tq3 gw_a_3_0 21 rfl
theorem nw_eJ4_toString_0e30d : Cond.selects RJ4 yJ4_toString_0e30d yJ4_toString_0e30d ∈ nw_T := nw_tq3 gw_a_3_0 22 rfl
theorem nw_kJ4_reverse_43fcb : Cond.code yJ4_reverse_43fcb cJ4_reverse_43fcb 1 (some (.object "java/lang/StringBuilder")) ∈ nw_T := nw_tf (nw_ms3 (List.mem_of_getElem? (i := 188) rfl)) rfl
theorem nw_yJ4_reverse_43fcb : ne_cy yJ4_reverse_43fcb (.code yJ4_reverse_43fcb cJ4_reverse_43fcb 1 (some (.object "java/lang/StringBuilder"))) 0 nw_T := ⟨nw_kJ4_reverse_43fcb, nw_inJ4, gy_a_6 (yJ4_reverse_43fcb, 0) (List.mem_of_getElem? (i := 15) rfl)⟩
theorem nw_iJ4_reverse_43fcb : Cond.instanceMethod yJ4_reverse_43fcb ∈ nw_T := nw_tq3 gw_a_3_0 23 rfl
theorem nw_eJ4_reverse_43fcb : Cond.selects RJ4 yJ4_reverse_43fcb yJ4_reverse_43fcb ∈ nw_T := nw_tq3 gw_a_3_0 24 rfl
theorem nw_kJ4_length_8abf5 : Cond.code yJ4_length_8abf5 cJ4_length_8abf5 1 (some .int) ∈ nw_T := nw_tf (nw_ms4 (List.mem_of_getElem? (i := 5) rfl)) rfl
theorem nw_yJ4_length_8abf5 : ne_cy yJ4_length_8abf5 (.code yJ4_length_8abf5 cJ4_length_8abf5 1 (some .int)) 0 nw_T := ⟨nw_kJ4_length_8abf5, nw_inJ4, gy_a_6 (yJ4_length_8abf5, 0) (List.mem_of_getElem? (i := 16) rfl)⟩
theorem nw_iJ4_length_8abf5 : Cond.instanceMethod yJ4_length_8abf5 ∈ nw_T := nw_tq4 gw_a_4_0 34 rfl
theorem nw_kJ5_init_d00df : Cond.code yJ5_init_d00df cJ5_init_d00df 2 (none) ∈ nw_T := nw_tf (nw_ms3 (List.mem_of_getElem? (i := 65) rfl)) rfl
theorem nw_inJ5 : Cond.initialized RJ5 ∈ nw_T := nw_tq1 gw_a_1_0 49 rfl
theorem nw_yJ5_init_d00df : ne_cy yJ5_init_d00df (.code yJ5_init_d00df cJ5_init_d00df 2 (none)) 1 nw_T := ⟨nw_kJ5_init_d00df, nw_inJ5, gy_a_6 (yJ5_init_d00df, 1) (List.mem_of_getElem? (i := 17) rfl)⟩
theorem nw_iJ5_init_d00df : Cond.instanceMethod yJ5_init_d00df ∈ nw_T := nw_tq3 gw_a_3_0 25 rfl
theorem nw_kJ5_append_3fe6f : Cond.code yJ5_append_3fe6f cJ5_append_3fe6f 2 (some (.object "java/lang/AbstractStringBuilder")) ∈ nw_T := nw_tf (nw_ms3 (List.mem_of_getElem? (i := 95) rfl)) rfl
theorem nw_yJ5_append_3fe6f : ne_cy yJ5_append_3fe6f (.code yJ5_append_3fe6f cJ5_append_3fe6f 2 (some (.object "java/lang/AbstractStringBuilder"))) 1 nw_T := ⟨nw_kJ5_append_3fe6f, nw_inJ5, gy_a_6 (yJ5_append_3fe6f, 1) (List.mem_of_getElem? (i := 18) rfl)⟩
theorem nw_iJ5_append_3fe6f : Cond.instanceMethod yJ5_append_3fe6f ∈ nw_T := nw_tq3 gw_a_3_0 26 rfl
theorem nw_kJ5_ensureCapacityInternal_d00df : Cond.code yJ5_ensureCapacityInternal_d00df cJ5_ensureCapacityInternal_d00df 3 (none) ∈ nw_T := nw_tf (nw_ms3 (List.mem_of_getElem? (i := 99) rfl)) rfl
theorem nw_yJ5_ensureCapacityInternal_d00df : ne_cy yJ5_ensureCapacityInternal_d00df (.code yJ5_ensureCapacityInternal_d00df cJ5_ensureCapacityInternal_d00df 3 (none)) 1 nw_T := ⟨nw_kJ5_ensureCapacityInternal_d00df, nw_inJ5, gy_a_6 (yJ5_ensureCapacityInternal_d00df, 1) (List.mem_of_getElem? (i := 19) rfl)⟩
theorem nw_iJ5_ensureCapacityInternal_d00df : Cond.instanceMethod yJ5_ensureCapacityInternal_d00df ∈ nw_T := nw_tq3 gw_a_3_0 27 rfl
theorem nw_kJ5_newCapacity_0f7a4 : Cond.code yJ5_newCapacity_0f7a4 cJ5_newCapacity_0f7a4 6 (some .int) ∈ nw_T := nw_tf (nw_ms3 (List.mem_of_getElem? (i := 103) rfl)) rfl
theorem nw_yJ5_newCapacity_0f7a4 : ne_cy yJ5_newCapacity_0f7a4 (.code yJ5_newCapacity_0f7a4 cJ5_newCapacity_0f7a4 6 (some .int)) 1 nw_T := ⟨nw_kJ5_newCapacity_0f7a4, nw_inJ5, gy_a_6 (yJ5_newCapacity_0f7a4, 1) (List.mem_of_getElem? (i := 20) rfl)⟩
theorem nw_iJ5_newCapacity_0f7a4 : Cond.instanceMethod yJ5_newCapacity_0f7a4 ∈ nw_T := nw_tq3 gw_a_3_0 28 rfl
theorem nw_kJ5_isLatin1_aae02 : Cond.code yJ5_isLatin1_aae02 cJ5_isLatin1_aae02 1 (some .boolean) ∈ nw_T := nw_tf (nw_ms3 (List.mem_of_getElem? (i := 133) rfl)) rfl
theorem nw_yJ5_isLatin1_aae02 : ne_cy yJ5_isLatin1_aae02 (.code yJ5_isLatin1_aae02 cJ5_isLatin1_aae02 1 (some .boolean)) 0 nw_T := ⟨nw_kJ5_isLatin1_aae02, nw_inJ5, gy_a_6 (yJ5_isLatin1_aae02, 0) (List.mem_of_getElem? (i := 21) rfl)⟩
theorem nw_iJ5_isLatin1_aae02 : Cond.instanceMethod yJ5_isLatin1_aae02 ∈ nw_T := nw_tq3 gw_a_3_0 29 rfl
theorem nw_kJ5_reverse_278bc : Cond.code yJ5_reverse_278bc cJ5_reverse_278bc 7 (some (.object "java/lang/AbstractStringBuilder")) ∈ nw_T := nw_tf (nw_ms3 (List.mem_of_getElem? (i := 191) rfl)) rfl
theorem nw_yJ5_reverse_278bc : ne_cy yJ5_reverse_278bc (.code yJ5_reverse_278bc cJ5_reverse_278bc 7 (some (.object "java/lang/AbstractStringBuilder"))) 0 nw_T := ⟨nw_kJ5_reverse_278bc, nw_inJ5, gy_a_6 (yJ5_reverse_278bc, 0) (List.mem_of_getElem? (i := 22) rfl)⟩
theorem nw_iJ5_reverse_278bc : Cond.instanceMethod yJ5_reverse_278bc ∈ nw_T := nw_tq3 gw_a_3_0 30 rfl
theorem nw_kJ5_getValue_6d5f1 : Cond.code yJ5_getValue_6d5f1 cJ5_getValue_6d5f1 1 (some (.array .byte)) ∈ nw_T := nw_tf (nw_ms3 (List.mem_of_getElem? (i := 239) rfl)) rfl
theorem nw_yJ5_getValue_6d5f1 : ne_cy yJ5_getValue_6d5f1 (.code yJ5_getValue_6d5f1 cJ5_getValue_6d5f1 1 (some (.array .byte))) 0 nw_T := ⟨nw_kJ5_getValue_6d5f1, nw_inJ5, gy_a_6 (yJ5_getValue_6d5f1, 0) (List.mem_of_getElem? (i := 23) rfl)⟩
theorem nw_iJ5_getValue_6d5f1 : Cond.instanceMethod yJ5_getValue_6d5f1 ∈ nw_T := nw_tq3 gw_a_3_0 31 rfl
theorem nw_kJ5_length_8abf5 : Cond.code yJ5_length_8abf5 cJ5_length_8abf5 1 (some .int) ∈ nw_T := nw_tf (nw_ms4 (List.mem_of_getElem? (i := 7) rfl)) rfl
theorem nw_yJ5_length_8abf5 : ne_cy yJ5_length_8abf5 (.code yJ5_length_8abf5 cJ5_length_8abf5 1 (some .int)) 0 nw_T := ⟨nw_kJ5_length_8abf5, nw_inJ5, gy_a_6 (yJ5_length_8abf5, 0) (List.mem_of_getElem? (i := 24) rfl)⟩
theorem nw_iJ5_length_8abf5 : Cond.instanceMethod yJ5_length_8abf5 ∈ nw_T := nw_tq4 gw_a_4_0 35 rfl
theorem nw_kJ0_init_81219 : Cond.code yJ0_init_81219 cJ0_init_81219 2 (none) ∈ nw_T := nw_tf (nw_ms3 (List.mem_of_getElem? (i := 230) rfl)) rfl
theorem nw_inJ0 : Cond.initialized RJ0 ∈ nw_T := nw_tq1 gw_a_1_0 50 rfl
theorem nw_yJ0_init_81219 : ne_cy yJ0_init_81219 (.code yJ0_init_81219 cJ0_init_81219 2 (none)) 1 nw_T := ⟨nw_kJ0_init_81219, nw_inJ0, gy_a_6 (yJ0_init_81219, 1) (List.mem_of_getElem? (i := 25) rfl)⟩
theorem nw_iJ0_init_81219 : Cond.instanceMethod yJ0_init_81219 ∈ nw_T := nw_tq3 gw_a_3_0 32 rfl
theorem nw_kJ0_init_db425 : Cond.code yJ0_init_db425 cJ0_init_db425 5 (none) ∈ nw_T := nw_tf (nw_ms3 (List.mem_of_getElem? (i := 233) rfl)) rfl
theorem nw_yJ0_init_db425 : ne_cy yJ0_init_db425 (.code yJ0_init_db425 cJ0_init_db425 5 (none)) 2 nw_T := ⟨nw_kJ0_init_db425, nw_inJ0, gy_a_6 (yJ0_init_db425, 2) (List.mem_of_getElem? (i := 26) rfl)⟩
theorem nw_iJ0_init_db425 : Cond.instanceMethod yJ0_init_db425 ∈ nw_T := nw_tq3 gw_a_3_0 33 rfl
theorem nw_kJ1_canEncode_fc78d : Cond.code yJ1_canEncode_fc78d cJ1_canEncode_fc78d 1 (some .boolean) ∈ nw_T := nw_tf (nw_ms3 (List.mem_of_getElem? (i := 136) rfl)) rfl
theorem nw_inJ1 : Cond.initialized RJ1 ∈ nw_T := nw_tq1 gw_a_1_0 51 rfl
theorem nw_yJ1_canEncode_fc78d : ne_cy yJ1_canEncode_fc78d (.code yJ1_canEncode_fc78d cJ1_canEncode_fc78d 1 (some .boolean)) 1 nw_T := ⟨nw_kJ1_canEncode_fc78d, nw_inJ1, gy_a_6 (yJ1_canEncode_fc78d, 1) (List.mem_of_getElem? (i := 27) rfl)⟩
theorem nw_sJ1_canEncode_fc78d : Cond.static yJ1_canEncode_fc78d ∈ nw_T := nw_tq3 gw_a_3_0 34 rfl
theorem nw_kJ7_copyOf_9075b : Cond.code yJ7_copyOf_9075b cJ7_copyOf_9075b 3 (some (.array .byte)) ∈ nw_T := nw_tf (nw_ms3 (List.mem_of_getElem? (i := 115) rfl)) rfl
theorem nw_inJ7 : Cond.initialized RJ7 ∈ nw_T := nw_tq1 gw_a_1_0 52 rfl
theorem nw_yJ7_copyOf_9075b : ne_cy yJ7_copyOf_9075b (.code yJ7_copyOf_9075b cJ7_copyOf_9075b 3 (some (.array .byte))) 2 nw_T := ⟨nw_kJ7_copyOf_9075b, nw_inJ7, gy_a_6 (yJ7_copyOf_9075b, 2) (List.mem_of_getElem? (i := 28) rfl)⟩
theorem nw_sJ7_copyOf_9075b : Cond.static yJ7_copyOf_9075b ∈ nw_T := nw_tq3 gw_a_3_0 35 rfl
theorem nw_kJ7_copyOfRange_39247 : Cond.code yJ7_copyOfRange_39247 cJ7_copyOfRange_39247 3 (some (.array .byte)) ∈ nw_T := nw_tf (nw_ms4 (List.mem_of_getElem? (i := 11) rfl)) rfl
theorem nw_yJ7_copyOfRange_39247 : ne_cy yJ7_copyOfRange_39247 (.code yJ7_copyOfRange_39247 cJ7_copyOfRange_39247 3 (some (.array .byte))) 3 nw_T := ⟨nw_kJ7_copyOfRange_39247, nw_inJ7, gy_a_6 (yJ7_copyOfRange_39247, 3) (List.mem_of_getElem? (i := 29) rfl)⟩
theorem nw_sJ7_copyOfRange_39247 : Cond.static yJ7_copyOfRange_39247 ∈ nw_T := nw_tq4 gw_a_4_0 36 rfl
theorem nw_kJ7_copyOfRangeByte_39247 : Cond.code yJ7_copyOfRangeByte_39247 cJ7_copyOfRangeByte_39247 5 (some (.array .byte)) ∈ nw_T := nw_tf (nw_ms4 (List.mem_of_getElem? (i := 14) rfl)) rfl
theorem nw_yJ7_copyOfRangeByte_39247 : ne_cy yJ7_copyOfRangeByte_39247 (.code yJ7_copyOfRangeByte_39247 cJ7_copyOfRangeByte_39247 5 (some (.array .byte))) 3 nw_T := ⟨nw_kJ7_copyOfRangeByte_39247, nw_inJ7, gy_a_7 (yJ7_copyOfRangeByte_39247, 3) (List.mem_of_getElem? (i := 0) rfl)⟩
theorem nw_sJ7_copyOfRangeByte_39247 : Cond.static yJ7_copyOfRangeByte_39247 ∈ nw_T := nw_tq4 gw_a_4_0 37 rfl
theorem nw_kJ7_checkLength_df160 : Cond.code yJ7_checkLength_df160 cJ7_checkLength_df160 2 (none) ∈ nw_T := nw_tf (nw_ms4 (List.mem_of_getElem? (i := 17) rfl)) rfl
theorem nw_yJ7_checkLength_df160 : ne_cy yJ7_checkLength_df160 (.code yJ7_checkLength_df160 cJ7_checkLength_df160 2 (none)) 2 nw_T := ⟨nw_kJ7_checkLength_df160, nw_inJ7, gy_a_7 (yJ7_checkLength_df160, 2) (List.mem_of_getElem? (i := 1) rfl)⟩
theorem nw_sJ7_checkLength_df160 : Cond.static yJ7_checkLength_df160 ∈ nw_T := nw_tq4 gw_a_4_0 38 rfl
theorem nw_kJ8_newLength_cabcc : Cond.code yJ8_newLength_cabcc cJ8_newLength_cabcc 4 (some .int) ∈ nw_T := nw_tf (nw_ms3 (List.mem_of_getElem? (i := 106) rfl)) rfl
theorem nw_inJ8 : Cond.initialized RJ8 ∈ nw_T := nw_tq1 gw_a_1_0 53 rfl
theorem nw_yJ8_newLength_cabcc : ne_cy yJ8_newLength_cabcc (.code yJ8_newLength_cabcc cJ8_newLength_cabcc 4 (some .int)) 3 nw_T := ⟨nw_kJ8_newLength_cabcc, nw_inJ8, gy_a_7 (yJ8_newLength_cabcc, 3) (List.mem_of_getElem? (i := 2) rfl)⟩
theorem nw_sJ8_newLength_cabcc : Cond.static yJ8_newLength_cabcc ∈ nw_T := nw_tq3 gw_a_3_0 36 rfl
theorem nw_mX1_1 : Cond.methodLink RX1 1 Lib.objectInit ∈ nw_T := nw_tq1 gw_a_1_0 54 rfl
theorem nw_fX1_9 : ne_fl nw_cl RX1 9 3 0 nw_T := ⟨RX1, TX1, 9, rfl, by decide, nw_uX1, nw_tm 97 (by decide +kernel) (by decide +kernel)⟩
theorem nw_fX1_13 : ne_fl nw_cl RX1 13 3 1 nw_T := ⟨RX1, TX1, 9, rfl, by decide, nw_uX1, nw_tm 98 (by decide +kernel) (by decide +kernel)⟩
theorem nw_fX1_16 : ne_fl nw_cl RX1 16 3 2 nw_T := ⟨RX1, TX1, 9, rfl, by decide, nw_uX1, nw_tm 99 (by decide +kernel) (by decide +kernel)⟩
theorem nw_fX1_19 : ne_fl nw_cl RX1 19 3 3 nw_T := ⟨RX1, TX1, 9, rfl, by decide, nw_uX1, nw_tm 100 (by decide +kernel) (by decide +kernel)⟩
theorem nw_fX1_22 : ne_fl nw_cl RX1 22 3 4 nw_T := ⟨RX1, TX1, 9, rfl, by decide, nw_uX1, nw_tm 101 (by decide +kernel) (by decide +kernel)⟩
theorem nw_fX1_25 : ne_fl nw_cl RX1 25 3 5 nw_T := ⟨RX1, TX1, 9, rfl, by decide, nw_uX1, nw_tm 102 (by decide +kernel) (by decide +kernel)⟩
theorem nw_fX1_28 : ne_fl nw_cl RX1 28 3 6 nw_T := ⟨RX1, TX1, 9, rfl, by decide, nw_uX1, nw_tm 103 (by decide +kernel) (by decide +kernel)⟩
theorem nw_qX1_31 : Cond.classLink RX1 31 "Ninewheel$LongNumber" ∈ nw_T := nw_tq1 gw_a_1_0 55 rfl
theorem nw_nX1_31 : ne_nl nw_cl RX1 31 2 1 [.null] nw_T := ⟨RX0, TX0, tyX0, rfl, nw_uX0, tyX0_ok, (fun j hj => by rcases (show j = 0 by omega) with rfl <;> rfl), nw_qX1_31, nw_tm 87 (by decide +kernel) (by decide +kernel), nw_tm 58 (by decide +kernel) (by decide +kernel), fun _ => rfl⟩
theorem nw_fX1_34 : ne_fl nw_cl RX1 34 3 7 nw_T := ⟨RX1, TX1, 9, rfl, by decide, nw_uX1, nw_tm 104 (by decide +kernel) (by decide +kernel)⟩
theorem nw_fX1_38 : ne_fl nw_cl RX1 38 3 8 nw_T := ⟨RX1, TX1, 9, rfl, by decide, nw_uX1, nw_tm 105 (by decide +kernel) (by decide +kernel)⟩
theorem nw_mX1_41 : Cond.methodLink RX1 41 yX1_requireCell ∈ nw_T := nw_tq2 gw_a_2_0 41 rfl
theorem nw_cX1_45 : Cond.constantLong RX1 45 (-999999) ∈ nw_T := nw_tq1 gw_a_1_0 56 rfl
theorem nw_cX1_47 : Cond.constantLong RX1 47 (999999) ∈ nw_T := nw_tq1 gw_a_1_0 57 rfl
theorem nw_mX1_49 : Cond.methodLink RX1 49 yX1_requireBetween ∈ nw_T := nw_tq2 gw_a_2_0 42 rfl
theorem nw_cX1_53 : Cond.constantLong RX1 53 (3) ∈ nw_T := nw_tq2 gw_a_2_0 43 rfl
theorem nw_mX1_55 : Cond.methodLink RX1 55 yX1_bring ∈ nw_T := nw_tq2 gw_a_2_0 44 rfl
theorem nw_mX1_59 : Cond.methodLink RX1 59 yX1_tenTo ∈ nw_T := nw_tq1 gw_a_1_0 58 rfl
theorem nw_mX1_63 : Cond.methodLink RX1 63 Lib.Math.abs.name ∈ nw_T := nw_tq2 gw_a_2_0 45 rfl
theorem nw_mX1_69 : Cond.methodLink RX1 69 Lib.Math.max.name ∈ nw_T := nw_tq1 gw_a_1_0 59 rfl
theorem nw_mX1_73 : Cond.methodLink RX1 73 yX1_countAt ∈ nw_T := nw_tq1 gw_a_1_1 0 rfl
theorem nw_mX1_77 : Cond.methodLink RX1 77 yX1_requireWay ∈ nw_T := nw_tq2 gw_a_2_0 46 rfl
theorem nw_mX1_80 : Cond.methodLink RX1 80 yX1_decline ∈ nw_T := nw_tq2 gw_a_2_0 47 rfl
theorem nw_mX1_84 : Cond.methodLink RX1 84 yX1_rounded ∈ nw_T := nw_tq1 gw_a_1_1 1 rfl
theorem nw_cX1_88 : Cond.constantLong RX1 88 (-99) ∈ nw_T := nw_tq2 gw_a_2_0 48 rfl
theorem nw_cX1_90 : Cond.constantLong RX1 90 (99) ∈ nw_T := nw_tq2 gw_a_2_0 49 rfl
theorem nw_cX1_92 : Cond.constantLong RX1 92 (10) ∈ nw_T := nw_tq1 gw_a_1_1 2 rfl
theorem nw_cX1_94 : Cond.constantLong RX1 94 (-3) ∈ nw_T := nw_tq2 gw_a_2_0 50 rfl
theorem nw_mX1_96 : Cond.methodLink RX1 96 yX1_bringAt ∈ nw_T := nw_tq2 gw_a_2_0 51 rfl
theorem nw_cX1_99 : Cond.constantLong RX1 99 (6) ∈ nw_T := nw_tq2 gw_a_2_0 52 rfl
theorem nw_mX1_101 : Cond.methodLink RX1 101 yX1_digitsIn ∈ nw_T := nw_tq1 gw_a_1_1 3 rfl
theorem nw_cX1_105 : Cond.constantLong RX1 105 (-9000000000000000000) ∈ nw_T := nw_tq1 gw_a_1_1 4 rfl
theorem nw_mX1_107 : Cond.methodLink RX1 107 yX1_orderOfCells ∈ nw_T := nw_tq1 gw_a_1_1 5 rfl
theorem nw_mX1_110 : Cond.methodLink RX1 110 yX1_requireWheel ∈ nw_T := nw_tq3 gw_a_3_0 37 rfl
theorem nw_mX1_113 : Cond.methodLink RX1 113 yX1_cutCount ∈ nw_T := nw_tq1 gw_a_1_1 6 rfl
theorem nw_mX1_117 : Cond.methodLink RX1 117 yX1_signOf ∈ nw_T := nw_tq1 gw_a_1_1 7 rfl
theorem nw_mX1_120 : Cond.methodLink RX1 120 yX1_decimalText ∈ nw_T := nw_tq3 gw_a_3_0 38 rfl
theorem nw_mX1_124 : Cond.methodLink RX1 124 yX1_areSame ∈ nw_T := nw_tq1 gw_a_1_1 8 rfl
theorem nw_mX1_128 : Cond.methodLink RX1 128 yX1_requireBottom ∈ nw_T := nw_tq4 gw_a_4_0 39 rfl
theorem nw_mX1_131 : Cond.methodLink RX1 131 yX1_bringWheel ∈ nw_T := nw_tq4 gw_a_4_0 40 rfl
theorem nw_mX1_135 : Cond.methodLink RX1 135 yX1_restOfPlace ∈ nw_T := nw_tq1 gw_a_1_1 9 rfl
theorem nw_mX1_138 : Cond.methodLink RX1 138 yX1_digitAfter ∈ nw_T := nw_tq1 gw_a_1_1 10 rfl
theorem nw_mX1_141 : Cond.methodLink RX1 141 yX1_turnBy ∈ nw_T := nw_tq4 gw_a_4_0 41 rfl
theorem nw_cX1_145 : Cond.constantLong RX1 145 (200) ∈ nw_T := nw_tq4 gw_a_4_0 42 rfl
theorem nw_mX1_147 : Cond.methodLink RX1 147 yX1_leftover ∈ nw_T := nw_tq1 gw_a_1_1 11 rfl
theorem nw_cX1_150 : Cond.constantLong RX1 150 (4) ∈ nw_T := nw_tq4 gw_a_4_0 43 rfl
theorem nw_mX1_152 : Cond.methodLink RX1 152 yX1_spokeOf ∈ nw_T := nw_tq1 gw_a_1_1 12 rfl
theorem nw_mX1_155 : Cond.methodLink RX1 155 yX1_lengthOf ∈ nw_T := nw_tq4 gw_a_4_0 44 rfl
theorem nw_cX1_158 : Cond.constantLong RX1 158 (16) ∈ nw_T := nw_tq4 gw_a_4_0 45 rfl
theorem nw_mX1_160 : Cond.methodLink RX1 160 yX1_digitText ∈ nw_T := nw_tq4 gw_a_4_0 46 rfl
theorem nw_mX1_166 : Cond.methodLink RX1 166 yX1_workOutProduct ∈ nw_T := nw_tq1 gw_a_1_1 13 rfl
theorem nw_cX1_173 : Cond.constantLong RX1 173 (2) ∈ nw_T := nw_tq1 gw_a_1_1 14 rfl
theorem nw_cX1_175 : Cond.constantLong RX1 175 (12) ∈ nw_T := nw_tq5 gw_a_5_1 19 rfl
theorem nw_mX1_177 : Cond.methodLink RX1 177 yX1_hasParts ∈ nw_T := nw_tq1 gw_a_1_1 15 rfl
theorem nw_mX1_180 : Cond.methodLink RX1 180 yX1_partLength ∈ nw_T := nw_tq1 gw_a_1_1 16 rfl
theorem nw_mX1_183 : Cond.methodLink RX1 183 yX1_workOutPartSum ∈ nw_T := nw_tq1 gw_a_1_1 17 rfl
theorem nw_mX1_186 : Cond.methodLink RX1 186 yX1_ninesOf ∈ nw_T := nw_tq1 gw_a_1_1 18 rfl
theorem nw_mX1_189 : Cond.methodLink RX1 189 yX1_restAfter ∈ nw_T := nw_tq1 gw_a_1_1 19 rfl
theorem nw_mX1_192 : Cond.methodLink RX1 192 yX1_orderOfWheels ∈ nw_T := nw_tq1 gw_a_1_1 20 rfl
theorem nw_mX1_195 : Cond.methodLink RX1 195 yX1_orderAgainst ∈ nw_T := nw_tq1 gw_a_1_1 21 rfl
theorem nw_mX1_198 : Cond.methodLink RX1 198 yX1_fits ∈ nw_T := nw_tq1 gw_a_1_1 22 rfl
theorem nw_mX1_202 : Cond.methodLink RX1 202 yX1_isCellSoundWithAll ∈ nw_T := nw_tq1 gw_a_1_1 23 rfl
theorem nw_mX1_206 : Cond.methodLink RX1 206 yX1_isLengthSound ∈ nw_T := nw_tq1 gw_a_1_1 24 rfl
theorem nw_mX1_209 : Cond.methodLink RX1 209 yX1_isProductSound ∈ nw_T := nw_tq1 gw_a_1_1 25 rfl
theorem nw_mX1_212 : Cond.methodLink RX1 212 yX1_isCutSound ∈ nw_T := nw_tq1 gw_a_1_1 26 rfl
theorem nw_cX1_215 : Cond.constantLong RX1 215 (7944) ∈ nw_T := nw_tq1 gw_a_1_1 27 rfl
theorem nw_mX1_217 : Cond.methodLink RX1 217 yX1_digestOfCells ∈ nw_T := nw_tq1 gw_a_1_1 28 rfl
theorem nw_mX1_221 : Cond.methodLink RX1 221 yX1_digestOfWheels ∈ nw_T := nw_tq1 gw_a_1_1 29 rfl
theorem nw_mX1_224 : Cond.methodLink RX1 224 yX1_joined ∈ nw_T := nw_tq1 gw_a_1_1 30 rfl
theorem nw_mX1_228 : Cond.methodLink RX1 228 yX1_isSound ∈ nw_T := nw_tq1 gw_a_1_1 31 rfl
theorem nw_qX1_232 : Cond.classLink RX1 232 "java/lang/IndexOutOfBoundsException" ∈ nw_T := nw_tq2 gw_a_2_0 53 rfl
theorem nw_mX1_236 : Cond.methodLink RX1 236 ⟨"java/lang/IndexOutOfBoundsException", "<init>", "(Ljava/lang/String;)V"⟩ ∈ nw_T := nw_tq2 gw_a_2_0 54 rfl
theorem nw_qX1_241 : Cond.classLink RX1 241 "java/lang/IllegalArgumentException" ∈ nw_T := nw_tq2 gw_a_2_0 55 rfl
theorem nw_mX1_245 : Cond.methodLink RX1 245 ⟨"java/lang/IllegalArgumentException", "<init>", "(Ljava/lang/String;)V"⟩ ∈ nw_T := nw_tq2 gw_a_2_0 56 rfl
theorem nw_cX1_246 : Cond.constantLong RX1 246 (7) ∈ nw_T := nw_tq2 gw_a_2_0 57 rfl
theorem nw_mX1_250 : Cond.methodLink RX1 250 Lib.MathLoose.abs_long.x ∈ nw_T := nw_tq1 gw_a_1_1 32 rfl
theorem nw_qX1_252 : Cond.classLink RX1 252 "java/lang/StringBuilder" ∈ nw_T := nw_tq3 gw_a_3_0 39 rfl
theorem nw_nX1_252 : ne_nl nw_cl RX1 252 1 4 [.null, ni 0, ni 0, ni 0] nw_T := ⟨RJ4, TJ4, tyJ4, rfl, nw_uJ4, tyJ4_ok, (fun j hj => by rcases (show j = 0 ∨ j = 1 ∨ j = 2 ∨ j = 3 by omega) with rfl | rfl | rfl | rfl <;> rfl), nw_qX1_252, nw_tm 595 (by decide +kernel) (by decide +kernel), nw_tm 68 (by decide +kernel) (by decide +kernel), fun _ => rfl⟩
theorem nw_mX1_254 : Cond.methodLink RX1 254 yJ4_init_da8c8 ∈ nw_T := nw_tq3 gw_a_3_0 40 rfl
theorem nw_mX1_255 : Cond.methodLink RX1 255 yJ4_append_cf468 ∈ nw_T := nw_tq3 gw_a_3_0 41 rfl
theorem nw_mX1_259 : Cond.methodLink RX1 259 yX1_signOfDigit ∈ nw_T := nw_tq3 gw_a_3_0 42 rfl
theorem nw_mX1_263 : Cond.methodLink RX1 263 yJ4_reverse_43fcb ∈ nw_T := nw_tq3 gw_a_3_0 43 rfl
theorem nw_mX1_267 : Cond.methodLink RX1 267 yJ4_toString_0e30d ∈ nw_T := nw_tq3 gw_a_3_0 44 rfl
theorem nw_mX1_270 : Cond.methodLink RX1 270 yX1_isFartherTaken ∈ nw_T := nw_tq1 gw_a_1_1 33 rfl
theorem nw_cX1_290 : Cond.constantLong RX1 290 (31) ∈ nw_T := nw_tq1 gw_a_1_1 34 rfl
theorem nw_mX1_292 : Cond.methodLink RX1 292 yX1_digestOfWheel ∈ nw_T := nw_tq1 gw_a_1_1 35 rfl
theorem nw_mX0_1 : Cond.methodLink RX0 1 Lib.objectInit ∈ nw_T := nw_tq1 gw_a_1_1 36 rfl
theorem nw_fX0_9 : ne_fl nw_cl RX0 9 2 0 nw_T := ⟨RX0, TX0, 1, rfl, by decide, nw_uX0, nw_tm 92 (by decide +kernel) (by decide +kernel)⟩
theorem nw_mX0_13 : Cond.methodLink RX0 13 yX0_clear ∈ nw_T := nw_tq1 gw_a_1_1 37 rfl
theorem nw_mX0_16 : Cond.methodLink RX0 16 yX0_raise ∈ nw_T := nw_tq1 gw_a_1_1 38 rfl
theorem nw_mX0_20 : Cond.methodLink RX0 20 yX0_carry ∈ nw_T := nw_tq1 gw_a_1_1 39 rfl
theorem nw_qX0_23 : Cond.classLink RX0 23 "java/lang/StringBuilder" ∈ nw_T := nw_tq4 gw_a_4_0 47 rfl
theorem nw_nX0_23 : ne_nl nw_cl RX0 23 1 4 [.null, ni 0, ni 0, ni 0] nw_T := ⟨RJ4, TJ4, tyJ4, rfl, nw_uJ4, tyJ4_ok, (fun j hj => by rcases (show j = 0 ∨ j = 1 ∨ j = 2 ∨ j = 3 by omega) with rfl | rfl | rfl | rfl <;> rfl), nw_qX0_23, nw_tm 595 (by decide +kernel) (by decide +kernel), nw_tm 68 (by decide +kernel) (by decide +kernel), fun _ => rfl⟩
theorem nw_mX0_25 : Cond.methodLink RX0 25 yJ4_init_da8c8 ∈ nw_T := nw_tq5 gw_a_5_1 20 rfl
theorem nw_mX0_32 : Cond.methodLink RX0 32 yJ4_append_cf468 ∈ nw_T := nw_tq5 gw_a_5_1 21 rfl
theorem nw_mX0_36 : Cond.methodLink RX0 36 yJ4_toString_0e30d ∈ nw_T := nw_tq5 gw_a_5_1 22 rfl
theorem nw_mX2_1 : Cond.methodLink RX2 1 Lib.objectInit ∈ nw_T := nw_tq1 gw_a_1_1 40 rfl
theorem nw_mX3_3 : Cond.methodLink RX3 3 Lib.objectInit ∈ nw_T := nw_tq5 gw_a_5_1 23 rfl
theorem nw_fX3_9 : ne_fl nw_cl RX3 9 5 0 nw_T := ⟨RX3, TX3, 7, rfl, by decide, nw_uX3, nw_tm 1069 (by decide +kernel) (by decide +kernel)⟩
theorem nw_fX3_15 : ne_fl nw_cl RX3 15 5 1 nw_T := ⟨RX3, TX3, 7, rfl, by decide, nw_uX3, nw_tm 1070 (by decide +kernel) (by decide +kernel)⟩
theorem nw_fX3_18 : ne_fl nw_cl RX3 18 5 2 nw_T := ⟨RX3, TX3, 7, rfl, by decide, nw_uX3, nw_tm 1071 (by decide +kernel) (by decide +kernel)⟩
theorem nw_fX3_21 : ne_fl nw_cl RX3 21 5 3 nw_T := ⟨RX3, TX3, 7, rfl, by decide, nw_uX3, nw_tm 1072 (by decide +kernel) (by decide +kernel)⟩
theorem nw_fX3_24 : ne_fl nw_cl RX3 24 5 4 nw_T := ⟨RX3, TX3, 7, rfl, by decide, nw_uX3, nw_tm 1073 (by decide +kernel) (by decide +kernel)⟩
theorem nw_fX3_27 : ne_fl nw_cl RX3 27 5 5 nw_T := ⟨RX3, TX3, 7, rfl, by decide, nw_uX3, nw_tm 1074 (by decide +kernel) (by decide +kernel)⟩
theorem nw_fX3_30 : ne_fl nw_cl RX3 30 5 6 nw_T := ⟨RX3, TX3, 7, rfl, by decide, nw_uX3, nw_tm 1075 (by decide +kernel) (by decide +kernel)⟩
theorem nw_mX3_34 : Cond.methodLink RX3 34 yX3_isOut ∈ nw_T := nw_tq5 gw_a_5_1 24 rfl
theorem nw_cX3_38 : Cond.constantLong RX3 38 (10) ∈ nw_T := nw_tq5 gw_a_5_1 25 rfl
theorem nw_mX3_40 : Cond.methodLink RX3 40 yX3_sizeOf ∈ nw_T := nw_tq5 gw_a_5_1 26 rfl
theorem nw_cX3_44 : Cond.constantLong RX3 44 (-9223372036854775808) ∈ nw_T := nw_tq5 gw_a_5_1 27 rfl
theorem nw_cX3_46 : Cond.constantLong RX3 46 (2) ∈ nw_T := nw_tq5 gw_a_5_1 28 rfl
theorem nw_mX3_48 : Cond.methodLink RX3 48 yX3_side ∈ nw_T := nw_tq5 gw_a_5_1 29 rfl
theorem nw_cX3_52 : Cond.constantLong RX3 52 (999999) ∈ nw_T := nw_tq5 gw_a_5_1 30 rfl
theorem nw_mX3_54 : Cond.methodLink RX3 54 yX3_nay ∈ nw_T := nw_tq5 gw_a_5_1 31 rfl
theorem nw_mX3_58 : Cond.methodLink RX3 58 yX3_ten ∈ nw_T := nw_tq5 gw_a_5_1 32 rfl
theorem nw_mX3_62 : Cond.methodLink RX3 62 yX3_units ∈ nw_T := nw_tq5 gw_a_5_1 33 rfl
theorem nw_mX3_66 : Cond.methodLink RX3 66 yX3_isNoCell ∈ nw_T := nw_tq5 gw_a_5_1 34 rfl
theorem nw_cX3_70 : Cond.constant RX3 70 (-999999) ∈ nw_T := nw_tq5 gw_a_5_1 35 rfl
theorem nw_cX3_71 : Cond.constant RX3 71 (999999) ∈ nw_T := nw_tq5 gw_a_5_1 36 rfl
theorem nw_mX3_72 : Cond.methodLink RX3 72 yX3_refuse ∈ nw_T := nw_tq5 gw_a_5_1 37 rfl
theorem nw_mX3_76 : Cond.methodLink RX3 76 yX3_come ∈ nw_T := nw_tq5 gw_a_5_1 38 rfl
theorem nw_mX3_80 : Cond.methodLink RX3 80 yX3_areNoCells ∈ nw_T := nw_tq5 gw_a_5_1 39 rfl
theorem nw_mX3_83 : Cond.methodLink RX3 83 yX3_most ∈ nw_T := nw_tq5 gw_a_5_1 40 rfl
theorem nw_mX3_87 : Cond.methodLink RX3 87 yX3_isNoCut ∈ nw_T := nw_tq5 gw_a_5_1 41 rfl
theorem nw_mX3_90 : Cond.methodLink RX3 90 yX3_rounded ∈ nw_T := nw_tq5 gw_a_5_1 42 rfl
theorem nw_mX3_94 : Cond.methodLink RX3 94 yX3_wholeOf ∈ nw_T := nw_tq5 gw_a_5_1 43 rfl
theorem nw_mX3_97 : Cond.methodLink RX3 97 yX3_digitsOf ∈ nw_T := nw_tq5 gw_a_5_1 44 rfl
theorem nw_mX3_101 : Cond.methodLink RX3 101 yX3_ordered ∈ nw_T := nw_tq5 gw_a_5_1 45 rfl
theorem nw_mX3_104 : Cond.methodLink RX3 104 yX3_isNoWheel ∈ nw_T := nw_tq5 gw_a_5_1 46 rfl
theorem nw_mX3_107 : Cond.methodLink RX3 107 yX3_cutOf ∈ nw_T := nw_tq5 gw_a_5_1 47 rfl
theorem nw_qX3_111 : Cond.classLink RX3 111 "java/lang/StringBuilder" ∈ nw_T := nw_tq6 gw_a_6_1 13 rfl
theorem nw_nX3_111 : ne_nl nw_cl RX3 111 1 4 [.null, ni 0, ni 0, ni 0] nw_T := ⟨RJ4, TJ4, tyJ4, rfl, nw_uJ4, tyJ4_ok, (fun j hj => by rcases (show j = 0 ∨ j = 1 ∨ j = 2 ∨ j = 3 by omega) with rfl | rfl | rfl | rfl <;> rfl), nw_qX3_111, nw_tm 595 (by decide +kernel) (by decide +kernel), nw_tm 68 (by decide +kernel) (by decide +kernel), fun _ => rfl⟩
theorem nw_mX3_113 : Cond.methodLink RX3 113 yJ4_init_d00df ∈ nw_T := nw_tq6 gw_a_6_1 14 rfl
theorem nw_mX3_116 : Cond.methodLink RX3 116 yJ4_append_cf468 ∈ nw_T := nw_tq6 gw_a_6_1 15 rfl
theorem nw_cX3_120 : Cond.constantLong RX3 120 (48) ∈ nw_T := nw_tq6 gw_a_6_1 16 rfl
theorem nw_mX3_122 : Cond.methodLink RX3 122 yJ4_toString_0e30d ∈ nw_T := nw_tq6 gw_a_6_1 17 rfl
theorem nw_mX3_128 : Cond.methodLink RX3 128 yX3_textOf ∈ nw_T := nw_tq6 gw_a_6_1 18 rfl
theorem nw_mX3_132 : Cond.methodLink RX3 132 yX3_areSame ∈ nw_T := nw_tq6 gw_a_6_1 19 rfl
theorem nw_mX3_136 : Cond.methodLink RX3 136 yX3_lengthOf ∈ nw_T := nw_tq6 gw_a_6_1 20 rfl
theorem nw_mX3_139 : Cond.methodLink RX3 139 yX3_isNoBottom ∈ nw_T := nw_tq6 gw_a_6_1 21 rfl
theorem nw_mX3_142 : Cond.methodLink RX3 142 yX3_set ∈ nw_T := nw_tq6 gw_a_6_1 22 rfl
theorem nw_mX3_146 : Cond.methodLink RX3 146 yX3_lengthOf_ ∈ nw_T := nw_tq6 gw_a_6_1 23 rfl
theorem nw_mX3_149 : Cond.methodLink RX3 149 yX3_restOf ∈ nw_T := nw_tq6 gw_a_6_1 24 rfl
theorem nw_mX3_153 : Cond.methodLink RX3 153 yX3_spokeOf ∈ nw_T := nw_tq6 gw_a_6_1 25 rfl
theorem nw_mX3_156 : Cond.methodLink RX3 156 yX3_written ∈ nw_T := nw_tq6 gw_a_6_1 26 rfl
theorem nw_mX3_160 : Cond.methodLink RX3 160 yX3_row ∈ nw_T := nw_tq6 gw_a_6_1 27 rfl
theorem nw_mX3_166 : Cond.methodLink RX3 166 yX3_timesBottom ∈ nw_T := nw_tq6 gw_a_6_1 28 rfl
theorem nw_mX3_170 : Cond.methodLink RX3 170 yX3_number ∈ nw_T := nw_tq6 gw_a_6_1 29 rfl
theorem nw_mX3_174 : Cond.methodLink RX3 174 yX3_sumOf ∈ nw_T := nw_tq6 gw_a_6_1 30 rfl
theorem nw_mX3_178 : Cond.methodLink RX3 178 yX3_areLike ∈ nw_T := nw_tq6 gw_a_6_1 31 rfl
theorem nw_mX3_182 : Cond.methodLink RX3 182 yX3_ninesOf ∈ nw_T := nw_tq6 gw_a_6_1 32 rfl
theorem nw_mX3_185 : Cond.methodLink RX3 185 yX3_wheelsOrdered ∈ nw_T := nw_tq6 gw_a_6_1 33 rfl
theorem nw_mX3_188 : Cond.methodLink RX3 188 yX3_heldAgainst ∈ nw_T := nw_tq6 gw_a_6_1 34 rfl
theorem nw_mX3_191 : Cond.methodLink RX3 191 yX3_allNines ∈ nw_T := nw_tq6 gw_a_6_1 35 rfl
theorem nw_mX3_194 : Cond.methodLink RX3 194 yX3_isSoundPair ∈ nw_T := nw_tq6 gw_a_6_1 36 rfl
theorem nw_mX3_197 : Cond.methodLink RX3 197 yX3_isSoundWheel ∈ nw_T := nw_tq6 gw_a_6_1 37 rfl
theorem nw_mX3_200 : Cond.methodLink RX3 200 yX3_isWhole ∈ nw_T := nw_tq6 gw_a_6_1 38 rfl
theorem nw_cX3_204 : Cond.constantLong RX3 204 (31) ∈ nw_T := nw_tq6 gw_a_6_1 39 rfl
theorem nw_cX3_206 : Cond.constantLong RX3 206 (7944) ∈ nw_T := nw_tq6 gw_a_6_1 40 rfl
theorem nw_mX3_208 : Cond.methodLink RX3 208 yX3_add_ ∈ nw_T := nw_tq6 gw_a_6_1 41 rfl
theorem nw_mJ5_3 : Cond.methodLink RJ5 3 Lib.objectInit ∈ nw_T := nw_tq3 gw_a_3_0 45 rfl
theorem nw_fJ5_15 : ne_fl nw_cl RJ5 15 1 0 nw_T := ⟨RJ4, TJ4, 4, rfl, by decide, nw_uJ4, nw_tm 612 (by decide +kernel) (by decide +kernel)⟩
theorem nw_lJ5_18 : Cond.fieldLink RJ5 18 "java/lang/String" "COMPACT_STRINGS" "Z" ∈ nw_T := nw_tq3 gw_a_3_0 46 rfl
theorem nw_fJ5_22 : ne_fl nw_cl RJ5 22 1 1 nw_T := ⟨RJ4, TJ4, 4, rfl, by decide, nw_uJ4, nw_tm 613 (by decide +kernel) (by decide +kernel)⟩
theorem nw_mJ5_26 : Cond.methodLink RJ5 26 yJ2_newBytesFor_77867 ∈ nw_T := nw_tq3 gw_a_3_0 47 rfl
theorem nw_cJ5_39 : Cond.constant RJ5 39 (2147483647) ∈ nw_T := nw_tq3 gw_a_3_0 48 rfl
theorem nw_fJ5_79 : ne_fl nw_cl RJ5 79 1 3 nw_T := ⟨RJ4, TJ4, 4, rfl, by decide, nw_uJ4, nw_tm 615 (by decide +kernel) (by decide +kernel)⟩
theorem nw_mJ5_83 : Cond.methodLink RJ5 83 yJ5_isLatin1_aae02 ∈ nw_T := nw_tq3 gw_a_3_0 49 rfl
theorem nw_mJ5_100 : Cond.methodLink RJ5 100 yJ5_ensureCapacityInternal_d00df ∈ nw_T := nw_tq3 gw_a_3_0 50 rfl
theorem nw_mJ5_104 : Cond.methodLink RJ5 104 yJ5_newCapacity_0f7a4 ∈ nw_T := nw_tq3 gw_a_3_0 51 rfl
theorem nw_mJ5_108 : Cond.methodLink RJ5 108 yJ7_copyOf_9075b ∈ nw_T := nw_tq3 gw_a_3_0 52 rfl
theorem nw_mJ5_114 : Cond.methodLink RJ5 114 yJ8_newLength_cabcc ∈ nw_T := nw_tq3 gw_a_3_0 53 rfl
theorem nw_mJ5_191 : Cond.methodLink RJ5 191 yJ1_canEncode_fc78d ∈ nw_T := nw_tq3 gw_a_3_0 54 rfl
theorem nw_mJ5_195 : Cond.methodLink RJ5 195 yJ5_inflate_da8c8 ∈ nw_T := nw_tq3 gw_a_3_0 55 rfl
theorem nw_mJ5_197 : Cond.methodLink RJ5 197 yJ2_putCharSB_b72d1 ∈ nw_T := nw_tq3 gw_a_3_0 56 rfl
theorem nw_mJ5_358 : Cond.methodLink RJ5 358 yJ2_reverse_db04f ∈ nw_T := nw_tq3 gw_a_3_0 57 rfl
theorem nw_mJ0_1 : Cond.methodLink RJ0 1 Lib.objectInit ∈ nw_T := nw_tq3 gw_a_3_0 58 rfl
theorem nw_fJ0_9 : ne_fl nw_cl RJ0 9 0 0 nw_T := ⟨RJ0, TJ0, 4, rfl, by decide, nw_uJ0, nw_tm 879 (by decide +kernel) (by decide +kernel)⟩
theorem nw_fJ0_15 : ne_fl nw_cl RJ0 15 0 1 nw_T := ⟨RJ0, TJ0, 4, rfl, by decide, nw_uJ0, nw_tm 880 (by decide +kernel) (by decide +kernel)⟩
theorem nw_lJ0_38 : Cond.fieldLink RJ0 38 "java/lang/String" "COMPACT_STRINGS" "Z" ∈ nw_T := nw_tq4 gw_a_4_0 48 rfl
theorem nw_mJ0_47 : Cond.methodLink RJ0 47 yJ2_coderFromArrayLen_85cad ∈ nw_T := nw_tq4 gw_a_4_0 49 rfl
theorem nw_mJ0_54 : Cond.methodLink RJ0 54 yJ7_copyOfRange_39247 ∈ nw_T := nw_tq4 gw_a_4_0 50 rfl
theorem nw_mJ0_489 : Cond.methodLink RJ0 489 yJ0_init_db425 ∈ nw_T := nw_tq3 gw_a_3_0 59 rfl
theorem nw_mJ0_549 : Cond.methodLink RJ0 549 yJ5_length_8abf5 ∈ nw_T := nw_tq4 gw_a_4_0 51 rfl
theorem nw_mJ0_552 : Cond.methodLink RJ0 552 yJ5_getValue_6d5f1 ∈ nw_T := nw_tq3 gw_a_3_1 0 rfl
theorem nw_mJ0_1047 : Cond.methodLink RJ0 1047 yJ5_isLatin1_aae02 ∈ nw_T := nw_tq4 gw_a_4_0 52 rfl
theorem nw_fJ0_1048 : ne_fl nw_cl RJ0 1048 1 2 nw_T := ⟨RJ4, TJ4, 4, rfl, by decide, nw_uJ4, nw_tm 614 (by decide +kernel) (by decide +kernel)⟩
theorem nw_mJ0_1051 : Cond.methodLink RJ0 1051 yJ2_compress_39247 ∈ nw_T := nw_tq4 gw_a_4_0 53 rfl
theorem nw_mJ4_1 : Cond.methodLink RJ4 1 yJ5_init_d00df ∈ nw_T := nw_tq3 gw_a_3_1 1 rfl
theorem nw_qJ4_18 : Cond.classLink RJ4 18 "java/lang/String" ∈ nw_T := nw_tq3 gw_a_3_1 2 rfl
theorem nw_nJ4_18 : ne_nl nw_cl RJ4 18 0 4 [.null, ni 0, ni 0, ni 0] nw_T := ⟨RJ0, TJ0, tyJ0, rfl, nw_uJ0, tyJ0_ok, (fun j hj => by rcases (show j = 0 ∨ j = 1 ∨ j = 2 ∨ j = 3 by omega) with rfl | rfl | rfl | rfl <;> rfl), nw_qJ4_18, nw_tm 763 (by decide +kernel) (by decide +kernel), nw_tm 69 (by decide +kernel) (by decide +kernel), fun _ => rfl⟩
theorem nw_mJ4_50 : Cond.methodLink RJ4 50 yJ5_append_3fe6f ∈ nw_T := nw_tq3 gw_a_3_1 3 rfl
theorem nw_mJ4_127 : Cond.methodLink RJ4 127 yJ5_reverse_278bc ∈ nw_T := nw_tq3 gw_a_3_1 4 rfl
theorem nw_mJ4_137 : Cond.methodLink RJ4 137 yJ0_init_81219 ∈ nw_T := nw_tq3 gw_a_3_1 5 rfl
theorem nw_qJ7_43 : Cond.classLink RJ7 43 "java/lang/IllegalArgumentException" ∈ nw_T := nw_tq4 gw_a_4_0 54 rfl
theorem nw_qJ7_45 : Cond.classLink RJ7 45 "java/lang/StringBuilder" ∈ nw_T := nw_tq4 gw_a_4_0 55 rfl
theorem nw_nJ7_45 : ne_nl nw_cl RJ7 45 1 4 [.null, ni 0, ni 0, ni 0] nw_T := ⟨RJ4, TJ4, tyJ4, rfl, nw_uJ4, tyJ4_ok, (fun j hj => by rcases (show j = 0 ∨ j = 1 ∨ j = 2 ∨ j = 3 by omega) with rfl | rfl | rfl | rfl <;> rfl), nw_qJ7_45, nw_tm 595 (by decide +kernel) (by decide +kernel), nw_tm 68 (by decide +kernel) (by decide +kernel), fun _ => rfl⟩
theorem nw_mJ7_47 : Cond.methodLink RJ7 47 yJ4_init_da8c8 ∈ nw_T := nw_tq4 gw_a_4_0 56 rfl
theorem nw_mJ7_50 : Cond.methodLink RJ7 50 yJ4_append_15ec4 ∈ nw_T := nw_tq4 gw_a_4_0 57 rfl
theorem nw_mJ7_54 : Cond.methodLink RJ7 54 yJ4_append_bf812 ∈ nw_T := nw_tq4 gw_a_4_0 58 rfl
theorem nw_mJ7_61 : Cond.methodLink RJ7 61 yJ4_toString_0e30d ∈ nw_T := nw_tq4 gw_a_4_0 59 rfl
theorem nw_mJ7_65 : Cond.methodLink RJ7 65 ⟨"java/lang/IllegalArgumentException", "<init>", "(Ljava/lang/String;)V"⟩ ∈ nw_T := nw_tq4 gw_a_4_1 0 rfl
theorem nw_mJ7_150 : Cond.methodLink RJ7 150 ⟨"java/lang/System", "arraycopy", "(Ljava/lang/Object;ILjava/lang/Object;II)V"⟩ ∈ nw_T := nw_tq3 gw_a_3_1 6 rfl
theorem nw_mJ7_304 : Cond.methodLink RJ7 304 Lib.Math.min.name ∈ nw_T := nw_tq3 gw_a_3_1 7 rfl
theorem nw_qJ7_311 : Cond.classLink RJ7 311 "[B" ∈ nw_T := nw_tq3 gw_a_3_1 8 rfl
theorem nw_mJ7_339 : Cond.methodLink RJ7 339 yJ7_copyOfRangeByte_39247 ∈ nw_T := nw_tq4 gw_a_4_1 1 rfl
theorem nw_mJ7_343 : Cond.methodLink RJ7 343 yJ7_checkLength_df160 ∈ nw_T := nw_tq4 gw_a_4_1 2 rfl
theorem nw_mJ8_194 : Cond.methodLink RJ8 194 Lib.Math.max.name ∈ nw_T := nw_tq3 gw_a_3_1 9 rfl
theorem nw_cJ8_200 : Cond.constant RJ8 200 (2147483639) ∈ nw_T := nw_tq3 gw_a_3_1 10 rfl
theorem nw_mJ8_201 : Cond.methodLink RJ8 201 yJ8_hugeLength_7cf53 ∈ nw_T := nw_tq3 gw_a_3_1 11 rfl
theorem nw_p3_0 : ne_fp nw_cl 3 0 (.array .int) true := ⟨RX1, TX1, 9, tyX1, rfl, tyX1_ok, nmX1, rfl, by decide +kernel⟩
theorem nw_p3_1 : ne_fp nw_cl 3 1 (.array .int) true := ⟨RX1, TX1, 9, tyX1, rfl, tyX1_ok, nmX1, rfl, by decide +kernel⟩
theorem nw_p3_2 : ne_fp nw_cl 3 2 (.array .int) true := ⟨RX1, TX1, 9, tyX1, rfl, tyX1_ok, nmX1, rfl, by decide +kernel⟩
theorem nw_p3_3 : ne_fp nw_cl 3 3 (.array .int) true := ⟨RX1, TX1, 9, tyX1, rfl, tyX1_ok, nmX1, rfl, by decide +kernel⟩
theorem nw_p3_4 : ne_fp nw_cl 3 4 (.array .int) true := ⟨RX1, TX1, 9, tyX1, rfl, tyX1_ok, nmX1, rfl, by decide +kernel⟩
theorem nw_p3_5 : ne_fp nw_cl 3 5 (.array .int) true := ⟨RX1, TX1, 9, tyX1, rfl, tyX1_ok, nmX1, rfl, by decide +kernel⟩
theorem nw_p3_6 : ne_fp nw_cl 3 6 (.array .int) true := ⟨RX1, TX1, 9, tyX1, rfl, tyX1_ok, nmX1, rfl, by decide +kernel⟩
theorem nw_p3_7 : ne_fp nw_cl 3 7 (.object "Ninewheel$LongNumber") true := ⟨RX1, TX1, 9, tyX1, rfl, tyX1_ok, nmX1, rfl, by decide +kernel⟩
theorem nw_p3_8 : ne_fp nw_cl 3 8 (.object "Ninewheel$LongNumber") true := ⟨RX1, TX1, 9, tyX1, rfl, tyX1_ok, nmX1, rfl, by decide +kernel⟩
theorem nw_p2_0 : ne_fp nw_cl 2 0 (.array .int) true := ⟨RX0, TX0, 1, tyX0, rfl, tyX0_ok, nmX0, rfl, by decide +kernel⟩
theorem nw_p4_0 : ne_fp nw_cl 4 0 .long false := ⟨RX2, TX2, 2, tyX2, rfl, tyX2_ok, nmX2, rfl, by decide +kernel⟩
theorem nw_p4_1 : ne_fp nw_cl 4 1 (.object "java/lang/String") false := ⟨RX2, TX2, 2, tyX2, rfl, tyX2_ok, nmX2, rfl, by decide +kernel⟩
theorem nw_p5_0 : ne_fp nw_cl 5 0 (.array .int) true := ⟨RX3, TX3, 7, tyX3, rfl, tyX3_ok, nmX3, rfl, by decide +kernel⟩
theorem nw_p5_1 : ne_fp nw_cl 5 1 (.array .int) true := ⟨RX3, TX3, 7, tyX3, rfl, tyX3_ok, nmX3, rfl, by decide +kernel⟩
theorem nw_p5_2 : ne_fp nw_cl 5 2 (.array .int) true := ⟨RX3, TX3, 7, tyX3, rfl, tyX3_ok, nmX3, rfl, by decide +kernel⟩
theorem nw_p5_3 : ne_fp nw_cl 5 3 (.array .int) true := ⟨RX3, TX3, 7, tyX3, rfl, tyX3_ok, nmX3, rfl, by decide +kernel⟩
theorem nw_p5_4 : ne_fp nw_cl 5 4 (.array .int) true := ⟨RX3, TX3, 7, tyX3, rfl, tyX3_ok, nmX3, rfl, by decide +kernel⟩
theorem nw_p5_5 : ne_fp nw_cl 5 5 (.array .int) true := ⟨RX3, TX3, 7, tyX3, rfl, tyX3_ok, nmX3, rfl, by decide +kernel⟩
theorem nw_p5_6 : ne_fp nw_cl 5 6 .int false := ⟨RX3, TX3, 7, tyX3, rfl, tyX3_ok, nmX3, rfl, by decide +kernel⟩
theorem nw_p0_0 : ne_fp nw_cl 0 0 (.array .byte) true := ⟨RJ0, TJ0, 4, tyJ0, rfl, tyJ0_ok, nmJ0, rfl, by decide +kernel⟩
theorem nw_p0_1 : ne_fp nw_cl 0 1 .byte true := ⟨RJ0, TJ0, 4, tyJ0, rfl, tyJ0_ok, nmJ0, rfl, by decide +kernel⟩
theorem nw_p0_2 : ne_fp nw_cl 0 2 .int false := ⟨RJ0, TJ0, 4, tyJ0, rfl, tyJ0_ok, nmJ0, rfl, by decide +kernel⟩
theorem nw_p0_3 : ne_fp nw_cl 0 3 .boolean false := ⟨RJ0, TJ0, 4, tyJ0, rfl, tyJ0_ok, nmJ0, rfl, by decide +kernel⟩
theorem nw_p1_0 : ne_fp nw_cl 1 0 (.array .byte) false := ⟨RJ4, TJ4, 4, tyJ4, rfl, tyJ4_ok, nmJ4, rfl, by decide +kernel⟩
theorem nw_p1_1 : ne_fp nw_cl 1 1 .byte false := ⟨RJ4, TJ4, 4, tyJ4, rfl, tyJ4_ok, nmJ4, rfl, by decide +kernel⟩
theorem nw_p1_2 : ne_fp nw_cl 1 2 .boolean false := ⟨RJ4, TJ4, 4, tyJ4, rfl, tyJ4_ok, nmJ4, rfl, by decide +kernel⟩
theorem nw_p1_3 : ne_fp nw_cl 1 3 .int false := ⟨RJ4, TJ4, 4, tyJ4, rfl, tyJ4_ok, nmJ4, rfl, by decide +kernel⟩
theorem nw_Ms_max : Cond.static Lib.Math.max.name ∈ nw_T := nw_tq1 gw_a_1_1 41 rfl
theorem nw_Mc_max : Cond.code Lib.Math.max.name Lib.Math.max.code 2 (some .int) ∈ nw_T := nw_tf (nw_ms1 (List.mem_of_getElem? (i := 88) rfl)) rfl
theorem nw_Ms_min : Cond.static Lib.Math.min.name ∈ nw_T := nw_tq3 gw_a_3_1 12 rfl
theorem nw_Mc_min : Cond.code Lib.Math.min.name Lib.Math.min.code 2 (some .int) ∈ nw_T := nw_tf (nw_ms3 (List.mem_of_getElem? (i := 125) rfl)) rfl
theorem nw_Ms_abs : Cond.static Lib.Math.abs.name ∈ nw_T := nw_tq2 gw_a_2_0 58 rfl
theorem nw_Mc_abs : Cond.code Lib.Math.abs.name Lib.Math.abs.code 1 (some .int) ∈ nw_T := nw_tf (nw_ms2 (List.mem_of_getElem? (i := 138) rfl)) rfl
theorem nw_Ms_absl : Cond.static Lib.MathLoose.abs_long.x ∈ nw_T := nw_tq1 gw_a_1_1 42 rfl
theorem nw_Mc_absl : Cond.code Lib.MathLoose.abs_long.x Lib.MathLoose.abs_long.code 2 (some .long) ∈ nw_T := nw_tf (nw_ms1 (List.mem_of_getElem? (i := 166) rfl)) rfl
theorem nw_Mi : Cond.initialized "java/lang/Math" ∈ nw_T := nw_tq1 gw_a_1_1 43 rfl
theorem nw_Oi : Cond.instanceMethod Lib.objectInit ∈ nw_T := nw_tq1 gw_a_1_1 44 rfl
theorem nw_Ok : Cond.code Lib.objectInit ⟨#[0xb1]⟩ 1 none ∈ nw_T := nw_tf (nw_ms1 (List.mem_of_getElem? (i := 29) rfl)) rfl
theorem nw_Aint : Cond.arrayClass .int ∈ nw_T := nw_tq1 gw_a_1_1 45 rfl
theorem nw_Abyte : Cond.arrayClass .byte ∈ nw_T := nw_tq2 gw_a_2_0 59 rfl
