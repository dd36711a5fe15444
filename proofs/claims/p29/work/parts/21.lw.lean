theorem nw_inL : Cond.initialized RL ∈ nw_T := nw_tm 56 (by decide +kernel) (by decide +kernel)
theorem nw_kL_put : Cond.codeWith yL_put cL_put 6 (some .int) [(0, 13, 16, 19), (0, 13, 20, 21)] ∈ nw_T := nw_tm 299 (by decide +kernel) (by decide +kernel)
theorem nw_yL_put : ne_cy yL_put (.codeWith yL_put cL_put 6 (some .int) [(0, 13, 16, 19), (0, 13, 20, 21)]) 5 nw_T := ⟨nw_kL_put, nw_inL, by decide +kernel, by decide +kernel, by decide +kernel⟩
theorem nw_sL_put : Cond.static yL_put ∈ nw_T := nw_tm 298 (by decide +kernel) (by decide +kernel)
theorem nw_kL_write : Cond.codeWith yL_write cL_write 8 (some .int) [(0, 17, 20, 19), (0, 17, 24, 21)] ∈ nw_T := nw_tm 406 (by decide +kernel) (by decide +kernel)
theorem nw_yL_write : ne_cy yL_write (.codeWith yL_write cL_write 8 (some .int) [(0, 17, 20, 19), (0, 17, 24, 21)]) 7 nw_T := ⟨nw_kL_write, nw_inL, by decide +kernel, by decide +kernel, by decide +kernel⟩
theorem nw_sL_write : Cond.static yL_write ∈ nw_T := nw_tm 405 (by decide +kernel) (by decide +kernel)
theorem nw_kL_copy : Cond.codeWith yL_copy cL_copy 5 (some .int) [(0, 11, 14, 19)] ∈ nw_T := nw_tm 413 (by decide +kernel) (by decide +kernel)
theorem nw_yL_copy : ne_cy yL_copy (.codeWith yL_copy cL_copy 5 (some .int) [(0, 11, 14, 19)]) 4 nw_T := ⟨nw_kL_copy, nw_inL, by decide +kernel, by decide +kernel, by decide +kernel⟩
theorem nw_sL_copy : Cond.static yL_copy ∈ nw_T := nw_tm 412 (by decide +kernel) (by decide +kernel)
theorem nw_kL_negate : Cond.codeWith yL_negate cL_negate 4 (some .int) [(0, 10, 13, 19)] ∈ nw_T := nw_tm 420 (by decide +kernel) (by decide +kernel)
theorem nw_yL_negate : ne_cy yL_negate (.codeWith yL_negate cL_negate 4 (some .int) [(0, 10, 13, 19)]) 3 nw_T := ⟨nw_kL_negate, nw_inL, by decide +kernel, by decide +kernel, by decide +kernel⟩
theorem nw_sL_negate : Cond.static yL_negate ∈ nw_T := nw_tm 419 (by decide +kernel) (by decide +kernel)
theorem nw_kL_size : Cond.codeWith yL_size cL_size 4 (some .int) [(0, 10, 13, 19)] ∈ nw_T := nw_tm 427 (by decide +kernel) (by decide +kernel)
theorem nw_yL_size : ne_cy yL_size (.codeWith yL_size cL_size 4 (some .int) [(0, 10, 13, 19)]) 3 nw_T := ⟨nw_kL_size, nw_inL, by decide +kernel, by decide +kernel, by decide +kernel⟩
theorem nw_sL_size : Cond.static yL_size ∈ nw_T := nw_tm 426 (by decide +kernel) (by decide +kernel)
theorem nw_kL_add : Cond.codeWith yL_add cL_add 6 (some .int) [(0, 13, 16, 19)] ∈ nw_T := nw_tm 437 (by decide +kernel) (by decide +kernel)
theorem nw_yL_add : ne_cy yL_add (.codeWith yL_add cL_add 6 (some .int) [(0, 13, 16, 19)]) 5 nw_T := ⟨nw_kL_add, nw_inL, by decide +kernel, by decide +kernel, by decide +kernel⟩
theorem nw_sL_add : Cond.static yL_add ∈ nw_T := nw_tm 436 (by decide +kernel) (by decide +kernel)
theorem nw_kL_subtract : Cond.codeWith yL_subtract cL_subtract 6 (some .int) [(0, 13, 16, 19)] ∈ nw_T := nw_tm 444 (by decide +kernel) (by decide +kernel)
theorem nw_yL_subtract : ne_cy yL_subtract (.codeWith yL_subtract cL_subtract 6 (some .int) [(0, 13, 16, 19)]) 5 nw_T := ⟨nw_kL_subtract, nw_inL, by decide +kernel, by decide +kernel, by decide +kernel⟩
theorem nw_sL_subtract : Cond.static yL_subtract ∈ nw_T := nw_tm 443 (by decide +kernel) (by decide +kernel)
theorem nw_kL_multiply : Cond.codeWith yL_multiply cL_multiply 6 (some .int) [(0, 13, 16, 19)] ∈ nw_T := nw_tm 451 (by decide +kernel) (by decide +kernel)
theorem nw_yL_multiply : ne_cy yL_multiply (.codeWith yL_multiply cL_multiply 6 (some .int) [(0, 13, 16, 19)]) 5 nw_T := ⟨nw_kL_multiply, nw_inL, by decide +kernel, by decide +kernel, by decide +kernel⟩
theorem nw_sL_multiply : Cond.static yL_multiply ∈ nw_T := nw_tm 450 (by decide +kernel) (by decide +kernel)
theorem nw_kL_power : Cond.codeWith yL_power cL_power 6 (some .int) [(0, 13, 16, 19), (0, 13, 20, 21)] ∈ nw_T := nw_tm 458 (by decide +kernel) (by decide +kernel)
theorem nw_yL_power : ne_cy yL_power (.codeWith yL_power cL_power 6 (some .int) [(0, 13, 16, 19), (0, 13, 20, 21)]) 5 nw_T := ⟨nw_kL_power, nw_inL, by decide +kernel, by decide +kernel, by decide +kernel⟩
theorem nw_sL_power : Cond.static yL_power ∈ nw_T := nw_tm 457 (by decide +kernel) (by decide +kernel)
theorem nw_kL_divide : Cond.codeWith yL_divide cL_divide 8 (some .int) [(0, 17, 20, 19), (0, 17, 24, 21)] ∈ nw_T := nw_tm 465 (by decide +kernel) (by decide +kernel)
theorem nw_yL_divide : ne_cy yL_divide (.codeWith yL_divide cL_divide 8 (some .int) [(0, 17, 20, 19), (0, 17, 24, 21)]) 7 nw_T := ⟨nw_kL_divide, nw_inL, by decide +kernel, by decide +kernel, by decide +kernel⟩
theorem nw_sL_divide : Cond.static yL_divide ∈ nw_T := nw_tm 464 (by decide +kernel) (by decide +kernel)
theorem nw_kL_share : Cond.codeWith yL_share cL_share 6 (some .int) [(0, 13, 16, 19), (0, 13, 20, 21)] ∈ nw_T := nw_tm 476 (by decide +kernel) (by decide +kernel)
theorem nw_yL_share : ne_cy yL_share (.codeWith yL_share cL_share 6 (some .int) [(0, 13, 16, 19), (0, 13, 20, 21)]) 5 nw_T := ⟨nw_kL_share, nw_inL, by decide +kernel, by decide +kernel, by decide +kernel⟩
theorem nw_sL_share : Cond.static yL_share ∈ nw_T := nw_tm 475 (by decide +kernel) (by decide +kernel)
theorem nw_kL_whole : Cond.codeWith yL_whole cL_whole 6 (some .int) [(0, 13, 16, 19), (0, 13, 20, 21)] ∈ nw_T := nw_tm 485 (by decide +kernel) (by decide +kernel)
theorem nw_yL_whole : ne_cy yL_whole (.codeWith yL_whole cL_whole 6 (some .int) [(0, 13, 16, 19), (0, 13, 20, 21)]) 5 nw_T := ⟨nw_kL_whole, nw_inL, by decide +kernel, by decide +kernel, by decide +kernel⟩
theorem nw_sL_whole : Cond.static yL_whole ∈ nw_T := nw_tm 484 (by decide +kernel) (by decide +kernel)
theorem nw_kL_rest : Cond.codeWith yL_rest cL_rest 6 (some .int) [(0, 13, 16, 19), (0, 13, 20, 21)] ∈ nw_T := nw_tm 492 (by decide +kernel) (by decide +kernel)
theorem nw_yL_rest : ne_cy yL_rest (.codeWith yL_rest cL_rest 6 (some .int) [(0, 13, 16, 19), (0, 13, 20, 21)]) 5 nw_T := ⟨nw_kL_rest, nw_inL, by decide +kernel, by decide +kernel, by decide +kernel⟩
theorem nw_sL_rest : Cond.static yL_rest ∈ nw_T := nw_tm 491 (by decide +kernel) (by decide +kernel)
theorem nw_kL_setPlaces : Cond.codeWith yL_setPlaces cL_setPlaces 6 (some .int) [(0, 13, 16, 19), (0, 13, 20, 21)] ∈ nw_T := nw_tm 499 (by decide +kernel) (by decide +kernel)
theorem nw_yL_setPlaces : ne_cy yL_setPlaces (.codeWith yL_setPlaces cL_setPlaces 6 (some .int) [(0, 13, 16, 19), (0, 13, 20, 21)]) 5 nw_T := ⟨nw_kL_setPlaces, nw_inL, by decide +kernel, by decide +kernel, by decide +kernel⟩
theorem nw_sL_setPlaces : Cond.static yL_setPlaces ∈ nw_T := nw_tm 498 (by decide +kernel) (by decide +kernel)
theorem nw_kL_strip : Cond.codeWith yL_strip cL_strip 4 (some .int) [(0, 10, 13, 19)] ∈ nw_T := nw_tm 506 (by decide +kernel) (by decide +kernel)
theorem nw_yL_strip : ne_cy yL_strip (.codeWith yL_strip cL_strip 4 (some .int) [(0, 10, 13, 19)]) 3 nw_T := ⟨nw_kL_strip, nw_inL, by decide +kernel, by decide +kernel, by decide +kernel⟩
theorem nw_sL_strip : Cond.static yL_strip ∈ nw_T := nw_tm 505 (by decide +kernel) (by decide +kernel)
theorem nw_kL_move : Cond.codeWith yL_move cL_move 5 (some .int) [(0, 11, 14, 19), (0, 11, 18, 21)] ∈ nw_T := nw_tm 513 (by decide +kernel) (by decide +kernel)
theorem nw_yL_move : ne_cy yL_move (.codeWith yL_move cL_move 5 (some .int) [(0, 11, 14, 19), (0, 11, 18, 21)]) 4 nw_T := ⟨nw_kL_move, nw_inL, by decide +kernel, by decide +kernel, by decide +kernel⟩
theorem nw_sL_move : Cond.static yL_move ∈ nw_T := nw_tm 512 (by decide +kernel) (by decide +kernel)
theorem nw_kL_round : Cond.codeWith yL_round cL_round 6 (some .int) [(0, 13, 16, 19), (0, 13, 20, 21)] ∈ nw_T := nw_tm 525 (by decide +kernel) (by decide +kernel)
theorem nw_yL_round : ne_cy yL_round (.codeWith yL_round cL_round 6 (some .int) [(0, 13, 16, 19), (0, 13, 20, 21)]) 5 nw_T := ⟨nw_kL_round, nw_inL, by decide +kernel, by decide +kernel, by decide +kernel⟩
theorem nw_sL_round : Cond.static yL_round ∈ nw_T := nw_tm 524 (by decide +kernel) (by decide +kernel)
theorem nw_kL_greater : Cond.codeWith yL_greater cL_greater 6 (some .int) [(0, 13, 16, 19)] ∈ nw_T := nw_tm 533 (by decide +kernel) (by decide +kernel)
theorem nw_yL_greater : ne_cy yL_greater (.codeWith yL_greater cL_greater 6 (some .int) [(0, 13, 16, 19)]) 5 nw_T := ⟨nw_kL_greater, nw_inL, by decide +kernel, by decide +kernel, by decide +kernel⟩
theorem nw_sL_greater : Cond.static yL_greater ∈ nw_T := nw_tm 532 (by decide +kernel) (by decide +kernel)
theorem nw_kL_lesser : Cond.codeWith yL_lesser cL_lesser 6 (some .int) [(0, 13, 16, 19)] ∈ nw_T := nw_tm 540 (by decide +kernel) (by decide +kernel)
theorem nw_yL_lesser : ne_cy yL_lesser (.codeWith yL_lesser cL_lesser 6 (some .int) [(0, 13, 16, 19)]) 5 nw_T := ⟨nw_kL_lesser, nw_inL, by decide +kernel, by decide +kernel, by decide +kernel⟩
theorem nw_sL_lesser : Cond.static yL_lesser ∈ nw_T := nw_tm 539 (by decide +kernel) (by decide +kernel)
theorem nw_kL_cut : Cond.codeWith yL_cut cL_cut 8 (some .int) [(0, 17, 20, 19), (0, 17, 24, 21)] ∈ nw_T := nw_tm 547 (by decide +kernel) (by decide +kernel)
theorem nw_yL_cut : ne_cy yL_cut (.codeWith yL_cut cL_cut 8 (some .int) [(0, 17, 20, 19), (0, 17, 24, 21)]) 7 nw_T := ⟨nw_kL_cut, nw_inL, by decide +kernel, by decide +kernel, by decide +kernel⟩
theorem nw_sL_cut : Cond.static yL_cut ∈ nw_T := nw_tm 546 (by decide +kernel) (by decide +kernel)
theorem nw_kL_count : Cond.codeWith yL_count cL_count 4 (some .int) [(0, 10, 13, 19)] ∈ nw_T := nw_tm 558 (by decide +kernel) (by decide +kernel)
theorem nw_yL_count : ne_cy yL_count (.codeWith yL_count cL_count 4 (some .int) [(0, 10, 13, 19)]) 3 nw_T := ⟨nw_kL_count, nw_inL, by decide +kernel, by decide +kernel, by decide +kernel⟩
theorem nw_sL_count : Cond.static yL_count ∈ nw_T := nw_tm 557 (by decide +kernel) (by decide +kernel)
theorem nw_kL_places : Cond.codeWith yL_places cL_places 4 (some .int) [(0, 10, 13, 19)] ∈ nw_T := nw_tm 565 (by decide +kernel) (by decide +kernel)
theorem nw_yL_places : ne_cy yL_places (.codeWith yL_places cL_places 4 (some .int) [(0, 10, 13, 19)]) 3 nw_T := ⟨nw_kL_places, nw_inL, by decide +kernel, by decide +kernel, by decide +kernel⟩
theorem nw_sL_places : Cond.static yL_places ∈ nw_T := nw_tm 564 (by decide +kernel) (by decide +kernel)
theorem nw_kL_digits : Cond.codeWith yL_digits cL_digits 4 (some .int) [(0, 10, 13, 19)] ∈ nw_T := nw_tm 572 (by decide +kernel) (by decide +kernel)
theorem nw_yL_digits : ne_cy yL_digits (.codeWith yL_digits cL_digits 4 (some .int) [(0, 10, 13, 19)]) 3 nw_T := ⟨nw_kL_digits, nw_inL, by decide +kernel, by decide +kernel, by decide +kernel⟩
theorem nw_sL_digits : Cond.static yL_digits ∈ nw_T := nw_tm 571 (by decide +kernel) (by decide +kernel)
theorem nw_kL_sign : Cond.codeWith yL_sign cL_sign 4 (some .int) [(0, 10, 13, 19)] ∈ nw_T := nw_tm 579 (by decide +kernel) (by decide +kernel)
theorem nw_yL_sign : ne_cy yL_sign (.codeWith yL_sign cL_sign 4 (some .int) [(0, 10, 13, 19)]) 3 nw_T := ⟨nw_kL_sign, nw_inL, by decide +kernel, by decide +kernel, by decide +kernel⟩
theorem nw_sL_sign : Cond.static yL_sign ∈ nw_T := nw_tm 578 (by decide +kernel) (by decide +kernel)
theorem nw_kL_text : Cond.codeWith yL_text cL_text 5 (some .int) [(0, 10, 13, 19), (0, 10, 17, 21)] ∈ nw_T := nw_tm 586 (by decide +kernel) (by decide +kernel)
theorem nw_yL_text : ne_cy yL_text (.codeWith yL_text cL_text 5 (some .int) [(0, 10, 13, 19), (0, 10, 17, 21)]) 4 nw_T := ⟨nw_kL_text, nw_inL, by decide +kernel, by decide +kernel, by decide +kernel⟩
theorem nw_sL_text : Cond.static yL_text ∈ nw_T := nw_tm 585 (by decide +kernel) (by decide +kernel)
theorem nw_kL_order : Cond.codeWith yL_order cL_order 5 (some .int) [(0, 11, 14, 19)] ∈ nw_T := nw_tm 892 (by decide +kernel) (by decide +kernel)
theorem nw_yL_order : ne_cy yL_order (.codeWith yL_order cL_order 5 (some .int) [(0, 11, 14, 19)]) 4 nw_T := ⟨nw_kL_order, nw_inL, by decide +kernel, by decide +kernel, by decide +kernel⟩
theorem nw_sL_order : Cond.static yL_order ∈ nw_T := nw_tm 891 (by decide +kernel) (by decide +kernel)
theorem nw_kL_same : Cond.codeWith yL_same cL_same 5 (some .int) [(0, 18, 21, 19)] ∈ nw_T := nw_tm 899 (by decide +kernel) (by decide +kernel)
theorem nw_yL_same : ne_cy yL_same (.codeWith yL_same cL_same 5 (some .int) [(0, 18, 21, 19)]) 4 nw_T := ⟨nw_kL_same, nw_inL, by decide +kernel, by decide +kernel, by decide +kernel⟩
theorem nw_sL_same : Cond.static yL_same ∈ nw_T := nw_tm 898 (by decide +kernel) (by decide +kernel)
theorem nw_kL_setWheel : Cond.codeWith yL_setWheel cL_setWheel 6 (some .int) [(0, 13, 16, 19), (0, 13, 20, 21)] ∈ nw_T := nw_tm 906 (by decide +kernel) (by decide +kernel)
theorem nw_yL_setWheel : ne_cy yL_setWheel (.codeWith yL_setWheel cL_setWheel 6 (some .int) [(0, 13, 16, 19), (0, 13, 20, 21)]) 5 nw_T := ⟨nw_kL_setWheel, nw_inL, by decide +kernel, by decide +kernel, by decide +kernel⟩
theorem nw_sL_setWheel : Cond.static yL_setWheel ∈ nw_T := nw_tm 905 (by decide +kernel) (by decide +kernel)
theorem nw_kL_step : Cond.codeWith yL_step cL_step 4 (some .int) [(0, 10, 13, 19)] ∈ nw_T := nw_tm 924 (by decide +kernel) (by decide +kernel)
theorem nw_yL_step : ne_cy yL_step (.codeWith yL_step cL_step 4 (some .int) [(0, 10, 13, 19)]) 3 nw_T := ⟨nw_kL_step, nw_inL, by decide +kernel, by decide +kernel, by decide +kernel⟩
theorem nw_sL_step : Cond.static yL_step ∈ nw_T := nw_tm 923 (by decide +kernel) (by decide +kernel)
theorem nw_kL_turn : Cond.codeWith yL_turn cL_turn 5 (some .int) [(0, 11, 14, 19), (0, 11, 18, 21)] ∈ nw_T := nw_tm 935 (by decide +kernel) (by decide +kernel)
theorem nw_yL_turn : ne_cy yL_turn (.codeWith yL_turn cL_turn 5 (some .int) [(0, 11, 14, 19), (0, 11, 18, 21)]) 4 nw_T := ⟨nw_kL_turn, nw_inL, by decide +kernel, by decide +kernel, by decide +kernel⟩
theorem nw_sL_turn : Cond.static yL_turn ∈ nw_T := nw_tm 934 (by decide +kernel) (by decide +kernel)
theorem nw_kL_times : Cond.codeWith yL_times cL_times 6 (some .int) [(0, 13, 16, 19), (0, 13, 20, 21)] ∈ nw_T := nw_tm 943 (by decide +kernel) (by decide +kernel)
theorem nw_yL_times : ne_cy yL_times (.codeWith yL_times cL_times 6 (some .int) [(0, 13, 16, 19), (0, 13, 20, 21)]) 5 nw_T := ⟨nw_kL_times, nw_inL, by decide +kernel, by decide +kernel, by decide +kernel⟩
theorem nw_sL_times : Cond.static yL_times ∈ nw_T := nw_tm 942 (by decide +kernel) (by decide +kernel)
theorem nw_kL_spoke : Cond.codeWith yL_spoke cL_spoke 5 (some .int) [(0, 11, 14, 19), (0, 11, 18, 21)] ∈ nw_T := nw_tm 950 (by decide +kernel) (by decide +kernel)
theorem nw_yL_spoke : ne_cy yL_spoke (.codeWith yL_spoke cL_spoke 5 (some .int) [(0, 11, 14, 19), (0, 11, 18, 21)]) 4 nw_T := ⟨nw_kL_spoke, nw_inL, by decide +kernel, by decide +kernel, by decide +kernel⟩
theorem nw_sL_spoke : Cond.static yL_spoke ∈ nw_T := nw_tm 949 (by decide +kernel) (by decide +kernel)
theorem nw_kL_lowest : Cond.codeWith yL_lowest cL_lowest 4 (some .int) [(0, 10, 13, 19)] ∈ nw_T := nw_tm 958 (by decide +kernel) (by decide +kernel)
theorem nw_yL_lowest : ne_cy yL_lowest (.codeWith yL_lowest cL_lowest 4 (some .int) [(0, 10, 13, 19)]) 3 nw_T := ⟨nw_kL_lowest, nw_inL, by decide +kernel, by decide +kernel, by decide +kernel⟩
theorem nw_sL_lowest : Cond.static yL_lowest ∈ nw_T := nw_tm 957 (by decide +kernel) (by decide +kernel)
theorem nw_kL_tens : Cond.codeWith yL_tens cL_tens 4 (some .int) [(0, 10, 13, 21)] ∈ nw_T := nw_tm 965 (by decide +kernel) (by decide +kernel)
theorem nw_yL_tens : ne_cy yL_tens (.codeWith yL_tens cL_tens 4 (some .int) [(0, 10, 13, 21)]) 3 nw_T := ⟨nw_kL_tens, nw_inL, by decide +kernel, by decide +kernel, by decide +kernel⟩
theorem nw_sL_tens : Cond.static yL_tens ∈ nw_T := nw_tm 964 (by decide +kernel) (by decide +kernel)
theorem nw_kL_restAt : Cond.codeWith yL_restAt cL_restAt 5 (some .int) [(0, 11, 14, 19), (0, 11, 18, 21)] ∈ nw_T := nw_tm 972 (by decide +kernel) (by decide +kernel)
theorem nw_yL_restAt : ne_cy yL_restAt (.codeWith yL_restAt cL_restAt 5 (some .int) [(0, 11, 14, 19), (0, 11, 18, 21)]) 4 nw_T := ⟨nw_kL_restAt, nw_inL, by decide +kernel, by decide +kernel, by decide +kernel⟩
theorem nw_sL_restAt : Cond.static yL_restAt ∈ nw_T := nw_tm 971 (by decide +kernel) (by decide +kernel)
theorem nw_kL_digitsFrom : Cond.codeWith yL_digitsFrom cL_digitsFrom 6 (some .int) [(0, 12, 15, 19), (0, 12, 19, 21)] ∈ nw_T := nw_tm 979 (by decide +kernel) (by decide +kernel)
theorem nw_yL_digitsFrom : ne_cy yL_digitsFrom (.codeWith yL_digitsFrom cL_digitsFrom 6 (some .int) [(0, 12, 15, 19), (0, 12, 19, 21)]) 5 nw_T := ⟨nw_kL_digitsFrom, nw_inL, by decide +kernel, by decide +kernel, by decide +kernel⟩
theorem nw_sL_digitsFrom : Cond.static yL_digitsFrom ∈ nw_T := nw_tm 978 (by decide +kernel) (by decide +kernel)
theorem nw_kL_cutText : Cond.codeWith yL_cutText cL_cutText 7 (some .int) [(0, 14, 17, 19), (0, 14, 21, 21)] ∈ nw_T := nw_tm 991 (by decide +kernel) (by decide +kernel)
theorem nw_yL_cutText : ne_cy yL_cutText (.codeWith yL_cutText cL_cutText 7 (some .int) [(0, 14, 17, 19), (0, 14, 21, 21)]) 6 nw_T := ⟨nw_kL_cutText, nw_inL, by decide +kernel, by decide +kernel, by decide +kernel⟩
theorem nw_sL_cutText : Cond.static yL_cutText ∈ nw_T := nw_tm 990 (by decide +kernel) (by decide +kernel)
theorem nw_kL_number : Cond.codeWith yL_number cL_number 4 (some .int) [(0, 9, 12, 19)] ∈ nw_T := nw_tm 999 (by decide +kernel) (by decide +kernel)
theorem nw_yL_number : ne_cy yL_number (.codeWith yL_number cL_number 4 (some .int) [(0, 9, 12, 19)]) 3 nw_T := ⟨nw_kL_number, nw_inL, by decide +kernel, by decide +kernel, by decide +kernel⟩
theorem nw_sL_number : Cond.static yL_number ∈ nw_T := nw_tm 998 (by decide +kernel) (by decide +kernel)
theorem nw_kL_product : Cond.codeWith yL_product cL_product 4 (some .int) [(0, 9, 12, 19)] ∈ nw_T := nw_tm 1006 (by decide +kernel) (by decide +kernel)
theorem nw_yL_product : ne_cy yL_product (.codeWith yL_product cL_product 4 (some .int) [(0, 9, 12, 19)]) 3 nw_T := ⟨nw_kL_product, nw_inL, by decide +kernel, by decide +kernel, by decide +kernel⟩
theorem nw_sL_product : Cond.static yL_product ∈ nw_T := nw_tm 1005 (by decide +kernel) (by decide +kernel)
theorem nw_kL_partSum : Cond.codeWith yL_partSum cL_partSum 5 (some .int) [(0, 10, 13, 19), (0, 10, 17, 21)] ∈ nw_T := nw_tm 1022 (by decide +kernel) (by decide +kernel)
theorem nw_yL_partSum : ne_cy yL_partSum (.codeWith yL_partSum cL_partSum 5 (some .int) [(0, 10, 13, 19), (0, 10, 17, 21)]) 4 nw_T := ⟨nw_kL_partSum, nw_inL, by decide +kernel, by decide +kernel, by decide +kernel⟩
theorem nw_sL_partSum : Cond.static yL_partSum ∈ nw_T := nw_tm 1021 (by decide +kernel) (by decide +kernel)
theorem nw_kL_nines : Cond.codeWith yL_nines cL_nines 5 (some .int) [(0, 11, 14, 19), (0, 11, 18, 21)] ∈ nw_T := nw_tm 1030 (by decide +kernel) (by decide +kernel)
theorem nw_yL_nines : ne_cy yL_nines (.codeWith yL_nines cL_nines 5 (some .int) [(0, 11, 14, 19), (0, 11, 18, 21)]) 4 nw_T := ⟨nw_kL_nines, nw_inL, by decide +kernel, by decide +kernel, by decide +kernel⟩
theorem nw_sL_nines : Cond.static yL_nines ∈ nw_T := nw_tm 1029 (by decide +kernel) (by decide +kernel)
theorem nw_kL_placeOf : Cond.codeWith yL_placeOf cL_placeOf 5 (some .int) [(0, 11, 14, 19)] ∈ nw_T := nw_tm 1037 (by decide +kernel) (by decide +kernel)
theorem nw_yL_placeOf : ne_cy yL_placeOf (.codeWith yL_placeOf cL_placeOf 5 (some .int) [(0, 11, 14, 19)]) 4 nw_T := ⟨nw_kL_placeOf, nw_inL, by decide +kernel, by decide +kernel, by decide +kernel⟩
theorem nw_sL_placeOf : Cond.static yL_placeOf ∈ nw_T := nw_tm 1036 (by decide +kernel) (by decide +kernel)
theorem nw_kL_wheelOrder : Cond.codeWith yL_wheelOrder cL_wheelOrder 5 (some .int) [(0, 11, 14, 19)] ∈ nw_T := nw_tm 1044 (by decide +kernel) (by decide +kernel)
theorem nw_yL_wheelOrder : ne_cy yL_wheelOrder (.codeWith yL_wheelOrder cL_wheelOrder 5 (some .int) [(0, 11, 14, 19)]) 4 nw_T := ⟨nw_kL_wheelOrder, nw_inL, by decide +kernel, by decide +kernel, by decide +kernel⟩
theorem nw_sL_wheelOrder : Cond.static yL_wheelOrder ∈ nw_T := nw_tm 1043 (by decide +kernel) (by decide +kernel)
theorem nw_kL_against : Cond.codeWith yL_against cL_against 5 (some .int) [(0, 11, 14, 19)] ∈ nw_T := nw_tm 1051 (by decide +kernel) (by decide +kernel)
theorem nw_yL_against : ne_cy yL_against (.codeWith yL_against cL_against 5 (some .int) [(0, 11, 14, 19)]) 4 nw_T := ⟨nw_kL_against, nw_inL, by decide +kernel, by decide +kernel, by decide +kernel⟩
theorem nw_sL_against : Cond.static yL_against ∈ nw_T := nw_tm 1050 (by decide +kernel) (by decide +kernel)
theorem nw_kL_house : Cond.codeWith yL_house cL_house 4 (some .int) [(0, 10, 13, 21)] ∈ nw_T := nw_tm 1058 (by decide +kernel) (by decide +kernel)
theorem nw_yL_house : ne_cy yL_house (.codeWith yL_house cL_house 4 (some .int) [(0, 10, 13, 21)]) 3 nw_T := ⟨nw_kL_house, nw_inL, by decide +kernel, by decide +kernel, by decide +kernel⟩
theorem nw_sL_house : Cond.static yL_house ∈ nw_T := nw_tm 1057 (by decide +kernel) (by decide +kernel)
theorem nw_mL_7 : Cond.methodLink RL 7 yX1_put ∈ nw_T := nw_tm 302 (by decide +kernel) (by decide +kernel)
theorem nw_qL_8 : Cond.classLink RL 8 "Ninewheel" ∈ nw_T := nw_tm 78 (by decide +kernel) (by decide +kernel)
theorem nw_fL_13 : ne_fln nw_cl RL 13 4 0 "NinewheelLaw" nw_T := ⟨RX2, TX2, 2, rfl, by decide, nw_uX2, by decide +kernel⟩
theorem nw_qL_14 : Cond.classLink RL 14 "NinewheelLaw$Out" ∈ nw_T := nw_tm 284 (by decide +kernel) (by decide +kernel)
theorem nw_mL_23 : Cond.methodLink RL 23 yX1_write ∈ nw_T := nw_tm 407 (by decide +kernel) (by decide +kernel)
theorem nw_mL_27 : Cond.methodLink RL 27 yX1_copy ∈ nw_T := nw_tm 414 (by decide +kernel) (by decide +kernel)
theorem nw_mL_31 : Cond.methodLink RL 31 yX1_negate ∈ nw_T := nw_tm 421 (by decide +kernel) (by decide +kernel)
theorem nw_mL_35 : Cond.methodLink RL 35 yX1_size ∈ nw_T := nw_tm 428 (by decide +kernel) (by decide +kernel)
theorem nw_mL_38 : Cond.methodLink RL 38 yX1_add ∈ nw_T := nw_tm 438 (by decide +kernel) (by decide +kernel)
theorem nw_mL_41 : Cond.methodLink RL 41 yX1_subtract ∈ nw_T := nw_tm 445 (by decide +kernel) (by decide +kernel)
theorem nw_mL_44 : Cond.methodLink RL 44 yX1_multiply ∈ nw_T := nw_tm 452 (by decide +kernel) (by decide +kernel)
theorem nw_mL_47 : Cond.methodLink RL 47 yX1_power ∈ nw_T := nw_tm 459 (by decide +kernel) (by decide +kernel)
theorem nw_mL_50 : Cond.methodLink RL 50 yX1_divide ∈ nw_T := nw_tm 466 (by decide +kernel) (by decide +kernel)
theorem nw_mL_54 : Cond.methodLink RL 54 yX1_share ∈ nw_T := nw_tm 477 (by decide +kernel) (by decide +kernel)
theorem nw_mL_57 : Cond.methodLink RL 57 yX1_whole ∈ nw_T := nw_tm 486 (by decide +kernel) (by decide +kernel)
theorem nw_mL_60 : Cond.methodLink RL 60 yX1_rest ∈ nw_T := nw_tm 493 (by decide +kernel) (by decide +kernel)
theorem nw_mL_63 : Cond.methodLink RL 63 yX1_setPlaces ∈ nw_T := nw_tm 500 (by decide +kernel) (by decide +kernel)
theorem nw_mL_66 : Cond.methodLink RL 66 yX1_strip ∈ nw_T := nw_tm 507 (by decide +kernel) (by decide +kernel)
theorem nw_mL_69 : Cond.methodLink RL 69 yX1_move ∈ nw_T := nw_tm 514 (by decide +kernel) (by decide +kernel)
theorem nw_mL_72 : Cond.methodLink RL 72 yX1_round ∈ nw_T := nw_tm 526 (by decide +kernel) (by decide +kernel)
theorem nw_mL_75 : Cond.methodLink RL 75 yX1_greater ∈ nw_T := nw_tm 534 (by decide +kernel) (by decide +kernel)
theorem nw_mL_78 : Cond.methodLink RL 78 yX1_lesser ∈ nw_T := nw_tm 541 (by decide +kernel) (by decide +kernel)
theorem nw_mL_81 : Cond.methodLink RL 81 yX1_cut ∈ nw_T := nw_tm 548 (by decide +kernel) (by decide +kernel)
theorem nw_mL_84 : Cond.methodLink RL 84 yX1_count ∈ nw_T := nw_tm 559 (by decide +kernel) (by decide +kernel)
theorem nw_mL_87 : Cond.methodLink RL 87 yX1_places ∈ nw_T := nw_tm 566 (by decide +kernel) (by decide +kernel)
theorem nw_mL_90 : Cond.methodLink RL 90 yX1_digits ∈ nw_T := nw_tm 573 (by decide +kernel) (by decide +kernel)
theorem nw_mL_93 : Cond.methodLink RL 93 yX1_sign ∈ nw_T := nw_tm 580 (by decide +kernel) (by decide +kernel)
theorem nw_mL_96 : Cond.methodLink RL 96 yX1_text ∈ nw_T := nw_tm 587 (by decide +kernel) (by decide +kernel)
theorem nw_fL_100 : ne_fln nw_cl RL 100 4 1 "NinewheelLaw" nw_T := ⟨RX2, TX2, 2, rfl, by decide, nw_uX2, by decide +kernel⟩
theorem nw_mL_104 : Cond.methodLink RL 104 yX1_order ∈ nw_T := nw_tm 893 (by decide +kernel) (by decide +kernel)
theorem nw_mL_107 : Cond.methodLink RL 107 yX1_same ∈ nw_T := nw_tm 900 (by decide +kernel) (by decide +kernel)
theorem nw_mL_111 : Cond.methodLink RL 111 yX1_setWheel ∈ nw_T := nw_tm 907 (by decide +kernel) (by decide +kernel)
theorem nw_mL_114 : Cond.methodLink RL 114 yX1_step ∈ nw_T := nw_tm 925 (by decide +kernel) (by decide +kernel)
theorem nw_mL_117 : Cond.methodLink RL 117 yX1_turn ∈ nw_T := nw_tm 936 (by decide +kernel) (by decide +kernel)
theorem nw_mL_120 : Cond.methodLink RL 120 yX1_times ∈ nw_T := nw_tm 944 (by decide +kernel) (by decide +kernel)
theorem nw_mL_123 : Cond.methodLink RL 123 yX1_spoke ∈ nw_T := nw_tm 951 (by decide +kernel) (by decide +kernel)
theorem nw_mL_126 : Cond.methodLink RL 126 yX1_lowest ∈ nw_T := nw_tm 959 (by decide +kernel) (by decide +kernel)
theorem nw_mL_129 : Cond.methodLink RL 129 yX1_tens ∈ nw_T := nw_tm 966 (by decide +kernel) (by decide +kernel)
theorem nw_mL_132 : Cond.methodLink RL 132 yX1_restAt ∈ nw_T := nw_tm 973 (by decide +kernel) (by decide +kernel)
theorem nw_mL_135 : Cond.methodLink RL 135 yX1_digitsFrom ∈ nw_T := nw_tm 980 (by decide +kernel) (by decide +kernel)
theorem nw_mL_139 : Cond.methodLink RL 139 yX1_cutText ∈ nw_T := nw_tm 992 (by decide +kernel) (by decide +kernel)
theorem nw_mL_143 : Cond.methodLink RL 143 yX1_number ∈ nw_T := nw_tm 1000 (by decide +kernel) (by decide +kernel)
theorem nw_mL_147 : Cond.methodLink RL 147 yX1_product ∈ nw_T := nw_tm 1007 (by decide +kernel) (by decide +kernel)
theorem nw_mL_150 : Cond.methodLink RL 150 yX1_partSum ∈ nw_T := nw_tm 1023 (by decide +kernel) (by decide +kernel)
theorem nw_mL_153 : Cond.methodLink RL 153 yX1_nines ∈ nw_T := nw_tm 1031 (by decide +kernel) (by decide +kernel)
theorem nw_mL_156 : Cond.methodLink RL 156 yX1_placeOf ∈ nw_T := nw_tm 1038 (by decide +kernel) (by decide +kernel)
theorem nw_mL_159 : Cond.methodLink RL 159 yX1_wheelOrder ∈ nw_T := nw_tm 1045 (by decide +kernel) (by decide +kernel)
theorem nw_mL_162 : Cond.methodLink RL 162 yX1_against ∈ nw_T := nw_tm 1052 (by decide +kernel) (by decide +kernel)
theorem nw_mL_165 : Cond.methodLink RL 165 yX1_house ∈ nw_T := nw_tm 1059 (by decide +kernel) (by decide +kernel)
theorem nw_mL_168 : Cond.methodLink RL 168 yX1_init ∈ nw_T := nw_tm 80 (by decide +kernel) (by decide +kernel)
theorem nw_qL_169 : Cond.classLink RL 169 "NinewheelModel" ∈ nw_T := nw_tm 1063 (by decide +kernel) (by decide +kernel)
theorem nw_mL_171 : Cond.methodLink RL 171 yX3_init ∈ nw_T := nw_tm 1065 (by decide +kernel) (by decide +kernel)
theorem nw_mL_173 : Cond.methodLink RL 173 yL_put ∈ nw_T := nw_tm 297 (by decide +kernel) (by decide +kernel)
theorem nw_mL_178 : Cond.methodLink RL 178 yX3_put ∈ nw_T := nw_tm 1095 (by decide +kernel) (by decide +kernel)
theorem nw_mL_179 : Cond.methodLink RL 179 yL_write ∈ nw_T := nw_tm 404 (by decide +kernel) (by decide +kernel)
theorem nw_mL_182 : Cond.methodLink RL 182 yX3_write ∈ nw_T := nw_tm 1124 (by decide +kernel) (by decide +kernel)
theorem nw_mL_183 : Cond.methodLink RL 183 yL_copy ∈ nw_T := nw_tm 411 (by decide +kernel) (by decide +kernel)
theorem nw_mL_186 : Cond.methodLink RL 186 yX3_copy ∈ nw_T := nw_tm 1132 (by decide +kernel) (by decide +kernel)
theorem nw_mL_187 : Cond.methodLink RL 187 yL_negate ∈ nw_T := nw_tm 418 (by decide +kernel) (by decide +kernel)
theorem nw_mL_190 : Cond.methodLink RL 190 yX3_negate ∈ nw_T := nw_tm 1136 (by decide +kernel) (by decide +kernel)
theorem nw_mL_191 : Cond.methodLink RL 191 yL_size ∈ nw_T := nw_tm 425 (by decide +kernel) (by decide +kernel)
theorem nw_mL_193 : Cond.methodLink RL 193 yX3_size ∈ nw_T := nw_tm 1140 (by decide +kernel) (by decide +kernel)
theorem nw_mL_194 : Cond.methodLink RL 194 yL_add ∈ nw_T := nw_tm 435 (by decide +kernel) (by decide +kernel)
theorem nw_mL_196 : Cond.methodLink RL 196 yX3_add ∈ nw_T := nw_tm 1144 (by decide +kernel) (by decide +kernel)
theorem nw_mL_197 : Cond.methodLink RL 197 yL_subtract ∈ nw_T := nw_tm 442 (by decide +kernel) (by decide +kernel)
theorem nw_mL_199 : Cond.methodLink RL 199 yX3_subtract ∈ nw_T := nw_tm 1160 (by decide +kernel) (by decide +kernel)
theorem nw_mL_200 : Cond.methodLink RL 200 yL_multiply ∈ nw_T := nw_tm 449 (by decide +kernel) (by decide +kernel)
theorem nw_mL_202 : Cond.methodLink RL 202 yX3_multiply ∈ nw_T := nw_tm 1164 (by decide +kernel) (by decide +kernel)
theorem nw_mL_203 : Cond.methodLink RL 203 yL_power ∈ nw_T := nw_tm 456 (by decide +kernel) (by decide +kernel)
theorem nw_mL_205 : Cond.methodLink RL 205 yX3_power ∈ nw_T := nw_tm 1168 (by decide +kernel) (by decide +kernel)
theorem nw_mL_206 : Cond.methodLink RL 206 yL_divide ∈ nw_T := nw_tm 463 (by decide +kernel) (by decide +kernel)
theorem nw_mL_209 : Cond.methodLink RL 209 yX3_divide ∈ nw_T := nw_tm 1172 (by decide +kernel) (by decide +kernel)
theorem nw_mL_210 : Cond.methodLink RL 210 yL_share ∈ nw_T := nw_tm 474 (by decide +kernel) (by decide +kernel)
theorem nw_mL_212 : Cond.methodLink RL 212 yX3_share ∈ nw_T := nw_tm 1186 (by decide +kernel) (by decide +kernel)
theorem nw_mL_213 : Cond.methodLink RL 213 yL_whole ∈ nw_T := nw_tm 483 (by decide +kernel) (by decide +kernel)
theorem nw_mL_215 : Cond.methodLink RL 215 yX3_whole ∈ nw_T := nw_tm 1190 (by decide +kernel) (by decide +kernel)
theorem nw_mL_216 : Cond.methodLink RL 216 yL_rest ∈ nw_T := nw_tm 490 (by decide +kernel) (by decide +kernel)
theorem nw_mL_218 : Cond.methodLink RL 218 yX3_rest ∈ nw_T := nw_tm 1198 (by decide +kernel) (by decide +kernel)
theorem nw_mL_219 : Cond.methodLink RL 219 yL_setPlaces ∈ nw_T := nw_tm 497 (by decide +kernel) (by decide +kernel)
theorem nw_mL_221 : Cond.methodLink RL 221 yX3_setPlaces ∈ nw_T := nw_tm 1202 (by decide +kernel) (by decide +kernel)
theorem nw_mL_222 : Cond.methodLink RL 222 yL_strip ∈ nw_T := nw_tm 504 (by decide +kernel) (by decide +kernel)
theorem nw_mL_224 : Cond.methodLink RL 224 yX3_strip ∈ nw_T := nw_tm 1206 (by decide +kernel) (by decide +kernel)
theorem nw_mL_225 : Cond.methodLink RL 225 yL_move ∈ nw_T := nw_tm 511 (by decide +kernel) (by decide +kernel)
theorem nw_mL_227 : Cond.methodLink RL 227 yX3_move ∈ nw_T := nw_tm 1210 (by decide +kernel) (by decide +kernel)
theorem nw_mL_228 : Cond.methodLink RL 228 yL_round ∈ nw_T := nw_tm 523 (by decide +kernel) (by decide +kernel)
theorem nw_mL_230 : Cond.methodLink RL 230 yX3_round ∈ nw_T := nw_tm 1214 (by decide +kernel) (by decide +kernel)
theorem nw_mL_231 : Cond.methodLink RL 231 yL_greater ∈ nw_T := nw_tm 531 (by decide +kernel) (by decide +kernel)
theorem nw_mL_233 : Cond.methodLink RL 233 yX3_greater ∈ nw_T := nw_tm 1221 (by decide +kernel) (by decide +kernel)
theorem nw_mL_234 : Cond.methodLink RL 234 yL_lesser ∈ nw_T := nw_tm 538 (by decide +kernel) (by decide +kernel)
theorem nw_mL_236 : Cond.methodLink RL 236 yX3_lesser ∈ nw_T := nw_tm 1229 (by decide +kernel) (by decide +kernel)
theorem nw_mL_237 : Cond.methodLink RL 237 yL_cut ∈ nw_T := nw_tm 545 (by decide +kernel) (by decide +kernel)
theorem nw_mL_239 : Cond.methodLink RL 239 yX3_cut ∈ nw_T := nw_tm 1233 (by decide +kernel) (by decide +kernel)
theorem nw_mL_240 : Cond.methodLink RL 240 yL_count ∈ nw_T := nw_tm 556 (by decide +kernel) (by decide +kernel)
theorem nw_mL_242 : Cond.methodLink RL 242 yX3_count ∈ nw_T := nw_tm 1244 (by decide +kernel) (by decide +kernel)
theorem nw_mL_243 : Cond.methodLink RL 243 yL_places ∈ nw_T := nw_tm 563 (by decide +kernel) (by decide +kernel)
theorem nw_mL_245 : Cond.methodLink RL 245 yX3_places ∈ nw_T := nw_tm 1248 (by decide +kernel) (by decide +kernel)
theorem nw_mL_246 : Cond.methodLink RL 246 yL_digits ∈ nw_T := nw_tm 570 (by decide +kernel) (by decide +kernel)
theorem nw_mL_248 : Cond.methodLink RL 248 yX3_digits ∈ nw_T := nw_tm 1252 (by decide +kernel) (by decide +kernel)
theorem nw_mL_249 : Cond.methodLink RL 249 yL_sign ∈ nw_T := nw_tm 577 (by decide +kernel) (by decide +kernel)
theorem nw_mL_251 : Cond.methodLink RL 251 yX3_sign ∈ nw_T := nw_tm 1256 (by decide +kernel) (by decide +kernel)
theorem nw_mL_252 : Cond.methodLink RL 252 yL_text ∈ nw_T := nw_tm 584 (by decide +kernel) (by decide +kernel)
theorem nw_mL_254 : Cond.methodLink RL 254 yX3_text ∈ nw_T := nw_tm 1260 (by decide +kernel) (by decide +kernel)
theorem nw_mL_255 : Cond.methodLink RL 255 yL_order ∈ nw_T := nw_tm 890 (by decide +kernel) (by decide +kernel)
theorem nw_mL_257 : Cond.methodLink RL 257 yX3_order ∈ nw_T := nw_tm 1275 (by decide +kernel) (by decide +kernel)
theorem nw_mL_258 : Cond.methodLink RL 258 yL_same ∈ nw_T := nw_tm 897 (by decide +kernel) (by decide +kernel)
theorem nw_mL_260 : Cond.methodLink RL 260 yX3_same ∈ nw_T := nw_tm 1279 (by decide +kernel) (by decide +kernel)
theorem nw_mL_261 : Cond.methodLink RL 261 yL_setWheel ∈ nw_T := nw_tm 904 (by decide +kernel) (by decide +kernel)
theorem nw_mL_263 : Cond.methodLink RL 263 yX3_setWheel ∈ nw_T := nw_tm 1287 (by decide +kernel) (by decide +kernel)
theorem nw_mL_264 : Cond.methodLink RL 264 yX3_thrown ∈ nw_T := nw_tm 1091 (by decide +kernel) (by decide +kernel)
theorem nw_mL_268 : Cond.methodLink RL 268 yL_step ∈ nw_T := nw_tm 922 (by decide +kernel) (by decide +kernel)
theorem nw_mL_270 : Cond.methodLink RL 270 yX3_step ∈ nw_T := nw_tm 1305 (by decide +kernel) (by decide +kernel)
theorem nw_mL_271 : Cond.methodLink RL 271 yL_turn ∈ nw_T := nw_tm 933 (by decide +kernel) (by decide +kernel)
theorem nw_mL_273 : Cond.methodLink RL 273 yX3_turn ∈ nw_T := nw_tm 1312 (by decide +kernel) (by decide +kernel)
theorem nw_mL_274 : Cond.methodLink RL 274 yL_times ∈ nw_T := nw_tm 941 (by decide +kernel) (by decide +kernel)
theorem nw_mL_276 : Cond.methodLink RL 276 yX3_times ∈ nw_T := nw_tm 1316 (by decide +kernel) (by decide +kernel)
theorem nw_mL_277 : Cond.methodLink RL 277 yL_spoke ∈ nw_T := nw_tm 948 (by decide +kernel) (by decide +kernel)
theorem nw_mL_279 : Cond.methodLink RL 279 yX3_spoke ∈ nw_T := nw_tm 1320 (by decide +kernel) (by decide +kernel)
theorem nw_mL_280 : Cond.methodLink RL 280 yL_lowest ∈ nw_T := nw_tm 956 (by decide +kernel) (by decide +kernel)
theorem nw_mL_282 : Cond.methodLink RL 282 yX3_lowest ∈ nw_T := nw_tm 1328 (by decide +kernel) (by decide +kernel)
theorem nw_mL_283 : Cond.methodLink RL 283 yL_tens ∈ nw_T := nw_tm 963 (by decide +kernel) (by decide +kernel)
theorem nw_mL_285 : Cond.methodLink RL 285 yX3_tens ∈ nw_T := nw_tm 1332 (by decide +kernel) (by decide +kernel)
theorem nw_mL_286 : Cond.methodLink RL 286 yL_restAt ∈ nw_T := nw_tm 970 (by decide +kernel) (by decide +kernel)
theorem nw_mL_288 : Cond.methodLink RL 288 yX3_restAt ∈ nw_T := nw_tm 1336 (by decide +kernel) (by decide +kernel)
theorem nw_mL_289 : Cond.methodLink RL 289 yL_digitsFrom ∈ nw_T := nw_tm 977 (by decide +kernel) (by decide +kernel)
theorem nw_mL_291 : Cond.methodLink RL 291 yX3_digitsFrom ∈ nw_T := nw_tm 1340 (by decide +kernel) (by decide +kernel)
theorem nw_mL_292 : Cond.methodLink RL 292 yL_cutText ∈ nw_T := nw_tm 989 (by decide +kernel) (by decide +kernel)
theorem nw_mL_295 : Cond.methodLink RL 295 yX3_cutText ∈ nw_T := nw_tm 1351 (by decide +kernel) (by decide +kernel)
theorem nw_mL_296 : Cond.methodLink RL 296 yL_number ∈ nw_T := nw_tm 997 (by decide +kernel) (by decide +kernel)
theorem nw_mL_298 : Cond.methodLink RL 298 yX3_number_ ∈ nw_T := nw_tm 1356 (by decide +kernel) (by decide +kernel)
theorem nw_mL_299 : Cond.methodLink RL 299 yL_product ∈ nw_T := nw_tm 1004 (by decide +kernel) (by decide +kernel)
theorem nw_mL_301 : Cond.methodLink RL 301 yX3_product ∈ nw_T := nw_tm 1360 (by decide +kernel) (by decide +kernel)
theorem nw_mL_302 : Cond.methodLink RL 302 yL_partSum ∈ nw_T := nw_tm 1020 (by decide +kernel) (by decide +kernel)
theorem nw_mL_304 : Cond.methodLink RL 304 yX3_partSum ∈ nw_T := nw_tm 1371 (by decide +kernel) (by decide +kernel)
theorem nw_mL_305 : Cond.methodLink RL 305 yL_nines ∈ nw_T := nw_tm 1028 (by decide +kernel) (by decide +kernel)
theorem nw_mL_307 : Cond.methodLink RL 307 yX3_nines ∈ nw_T := nw_tm 1379 (by decide +kernel) (by decide +kernel)
theorem nw_mL_308 : Cond.methodLink RL 308 yL_placeOf ∈ nw_T := nw_tm 1035 (by decide +kernel) (by decide +kernel)
theorem nw_mL_310 : Cond.methodLink RL 310 yX3_placeOf ∈ nw_T := nw_tm 1390 (by decide +kernel) (by decide +kernel)
theorem nw_mL_311 : Cond.methodLink RL 311 yL_wheelOrder ∈ nw_T := nw_tm 1042 (by decide +kernel) (by decide +kernel)
theorem nw_mL_313 : Cond.methodLink RL 313 yX3_wheelOrder ∈ nw_T := nw_tm 1394 (by decide +kernel) (by decide +kernel)
theorem nw_mL_314 : Cond.methodLink RL 314 yL_against ∈ nw_T := nw_tm 1049 (by decide +kernel) (by decide +kernel)
theorem nw_mL_316 : Cond.methodLink RL 316 yX3_against ∈ nw_T := nw_tm 1402 (by decide +kernel) (by decide +kernel)
theorem nw_mL_317 : Cond.methodLink RL 317 yL_house ∈ nw_T := nw_tm 1056 (by decide +kernel) (by decide +kernel)
theorem nw_mL_319 : Cond.methodLink RL 319 yX3_house ∈ nw_T := nw_tm 1410 (by decide +kernel) (by decide +kernel)
theorem nw_mL_320 : Cond.methodLink RL 320 yX1_knock ∈ nw_T := nw_tm 125 (by decide +kernel) (by decide +kernel)
theorem nw_mL_323 : Cond.methodLink RL 323 yX3_knock ∈ nw_T := nw_tm 1414 (by decide +kernel) (by decide +kernel)
theorem nw_mL_324 : Cond.methodLink RL 324 yX1_isSound ∈ nw_T := nw_tm 129 (by decide +kernel) (by decide +kernel)
theorem nw_mL_328 : Cond.methodLink RL 328 yX3_isSound ∈ nw_T := nw_tm 1418 (by decide +kernel) (by decide +kernel)
theorem nw_mL_329 : Cond.methodLink RL 329 yX1_digest ∈ nw_T := nw_tm 227 (by decide +kernel) (by decide +kernel)
theorem nw_mL_333 : Cond.methodLink RL 333 yX3_digest ∈ nw_T := nw_tm 1438 (by decide +kernel) (by decide +kernel)
theorem nw_qL_19 : Cond.classLink RL 19 "java/lang/IndexOutOfBoundsException" ∈ nw_T := nw_tm 300 (by decide +kernel) (by decide +kernel)
theorem nw_qL_21 : Cond.classLink RL 21 "java/lang/IllegalArgumentException" ∈ nw_T := nw_tm 301 (by decide +kernel) (by decide +kernel)
theorem nw_nL_8 : ne_nl nw_cl RL 8 3 9 [.null, .null, .null, .null, .null, .null, .null, .null, .null] nw_T := ⟨RX1, TX1, tyX1, rfl, nw_uX1, tyX1_ok, (fun j hj => by rcases (show j = 0 ∨ j = 1 ∨ j = 2 ∨ j = 3 ∨ j = 4 ∨ j = 5 ∨ j = 6 ∨ j = 7 ∨ j = 8 by omega) with rfl | rfl | rfl | rfl | rfl | rfl | rfl | rfl | rfl <;> rfl), nw_qL_8, nw_tm 79 (by decide +kernel) (by decide +kernel), nw_tm 57 (by decide +kernel) (by decide +kernel), fun _ => rfl⟩
theorem nw_nL_14 : ne_nl nw_cl RL 14 4 2 [nl 0, .null] nw_T := ⟨RX2, TX2, tyX2, rfl, nw_uX2, tyX2_ok, (fun j hj => by rcases (show j = 0 ∨ j = 1 by omega) with rfl | rfl <;> rfl), nw_qL_14, nw_tm 285 (by decide +kernel) (by decide +kernel), nw_tm 60 (by decide +kernel) (by decide +kernel), fun _ => rfl⟩
theorem nw_nL_169 : ne_nl nw_cl RL 169 5 7 [.null, .null, .null, .null, .null, .null, ni 0] nw_T := ⟨RX3, TX3, tyX3, rfl, nw_uX3, tyX3_ok, (fun j hj => by rcases (show j = 0 ∨ j = 1 ∨ j = 2 ∨ j = 3 ∨ j = 4 ∨ j = 5 ∨ j = 6 by omega) with rfl | rfl | rfl | rfl | rfl | rfl | rfl <;> rfl), nw_qL_169, nw_tm 1064 (by decide +kernel) (by decide +kernel), nw_tm 59 (by decide +kernel) (by decide +kernel), fun _ => rfl⟩
section NEW
variable {cl : List vw_C} {D : va_G} {ct : Nat → ClassId} {A : Nat → Prop} {n0 : Nat} {ad0 : Nat → Nat} {p : Program} {l : Launch} {e : Env} {R : Room} {s : State} {m : MethodId} {args : Array Value} {below : List Frame} {meth : Method} {c : Code} {Q : State → Prop} {own : String} {cc : ByteArray} {nL : Nat} {Ts : List Cond} {fr lo mc ms C S pc : Nat} {L : List (Option Value)} {st : List Value} {ws : ne_W}
theorem ne_callSFW {hh : List (Nat × Nat × Nat × Nat)} {y : MethodName} {bytes : ByteArray} {maxL n ix fr1 lo1 mc1 ms1 : Nat} {ret : Option FieldType} {as st1 : List Value} {is : List Nat} {wc : ne_W} {post : Option Value → ne_W → Prop} {px : String → ne_W → Prop} (X : ne_F cl D ct A p l R s m args meth c own cc nL Ts fr lo mc ms) (hg : ∀ w ∈ Ts, goodWord w = true) (hM : ne_M l cl (.codeWith y bytes maxL ret hh) Ts y fr1 lo1 mc1 ms1 as wc post px) (hy : ne_cy y (.codeWith y bytes maxL ret hh) n Ts) (hw1 : Cond.methodLink own ix y ∈ Ts) (hw2 : Cond.static y ∈ Ts) (hdg : decode cc pc = .ok (.invokestatic ix, 3)) (hst : st1 = (as.map (ne_rn is ws.length)).reverse ++ st) (hlen : as.length = n) (hfr : fr1 + 1 ≤ fr) (hlo : 8 + (maxL + 11) + lo1 ≤ lo) (hC : mc1 ≤ C) (hS : ms1 ≤ S) (hn0 : n0 ≤ ws.length) (hw : ne_cw ws.length ws = true) (hl : ne_cl ws.length L = true) (hs : ne_cs ws.length st = true) (hcat : (st.map fun v => v.category).sum ≤ 8) (hp : ne_pt ws is wc) (kk : ∀ (v : Option Value) (ws1 : ne_W), post v ws1 → ne_G cl D ct A n0 ad0 p l e R s m args below meth c Q nL mc ms (C - mc1) (S - ms1) (pc + 3) L ((v.map (ne_rn is ws.length)).toList ++ st) (ne_mg ws is ws1)) (kx : ∀ (E : String) (ws1 : ne_W), px E ws1 → ne_T cl D ct A n0 ad0 p l e R s m args below meth c Q nL mc ms (C - mc1) (S - ms1) pc L E (ne_mg ws is ws1)) : ne_G cl D ct A n0 ad0 p l e R s m args below meth c Q nL mc ms C S pc L st1 ws := fun H locs cells slots ad ls h1 h2 h3 h4 h5 h6 h7 => by
  subst hst
  have e8 : ∀ z : List Value, z.map (fun v => ne_v ad (ne_rn is ws.length v)) = z.map (ne_v (ne_ac is ws.length ad)) := fun z => List.map_congr_left fun v _ => (ne_ac_v v).symm
  have e9 : ((as.map (ne_rn is ws.length)).reverse ++ st).map (ne_v ad) = (as.map (ne_v (ne_ac is ws.length ad))).reverse ++ st.map (ne_v ad) := by
    rw [← e8]
    simp [List.map_append, List.map_reverse, ne_v, ne_ac, Function.comp_def]
  rw [e9]
  have hF := ne_preF (av := as.map (ne_v (ne_ac is ws.length ad))) X hp h4 h5 h6
  have cw := vx_cwSW (R := R) (s := s) (args := args) (own := own) (index := ix) (y := y) (bytes := bytes) (maxL := maxL) (mc := mc1) (ms := ms1) (ret := ret) (hh := hh) (Ts := Ts) (ws := .codeWith y bytes maxL ret hh :: Ts) (ws' := Ts) (rm := { frames := fr1, cells := mc1, slots := ms1, locals := lo1 }) n X.1.2.2.2.2 (ne_gi hg (fun w hw => by
    unfold va_wsS at hw
    simp only [List.cons_append, List.nil_append, List.mem_cons] at hw
    rcases hw with rfl | rfl | rfl | rfl | hw
    · exact hw1
    · exact hw2
    · exact hy.2.1
    · exact hy.1
    · exact hw)) rfl rfl rfl ⟨hy.2.2.1, hy.2.2.2.1, hy.2.2.2.2⟩ ⟨Nat.le_trans hfr X.2.2.2.1, Nat.le_trans hlo X.2.2.2.2.1⟩
  exact ne_afterF X hp hF.1 (vx_runSX (As := as.map (ne_v (ne_ac is ws.length ad))) (rest := st.map (ne_v ad)) X.1 (hM D ct (ne_ac is ws.length ad) H.size) cw hF.2.2 rfl (by rw [List.length_map]; exact hlen) h7.1 rfl (by show 2 * 0 + _ ≤ 8; rw [ne_mcat]; omega) hdg ⟨by have := X.2.2.2.2.2.1; omega, by have := X.2.2.2.2.2.2.1; omega⟩) h1 h2 h3 h4 h5 h6 h7 hC hS hn0 hw hl hs kk kx
theorem ne_meetW {hh : List (Nat × Nat × Nat × Nat)} {cl : List vw_C} {l : Launch} {y : MethodName} {own : String} {bytes : ByteArray} {maxL fr lo mc ms : Nat} {ret : Option FieldType} {Ts : List Cond} {as : List Value} {ws : ne_W} {post : Option Value → ne_W → Prop} {px : String → ne_W → Prop} (hl : l.stackTraces = false) (ho : y.cls = own) (hy : plainName y.cls = true) (hlen : (ne_a as).length ≤ maxL)
    (body : ∀ (D : va_G) (ct : Nat → ClassId) (A : Nat → Prop) (p : Program) (e : Env) (R : Room) (s : State) (m : MethodId) (args : Array Value) (below : List Frame) (meth : Method) (c : Code) (ad0 : Nat → Nat), ne_F cl D ct A p l R s m args meth c own bytes maxL Ts fr lo mc ms → meth.sig.returnType = ret → meth.name = y.name → c.exceptionTable.toList = tableOf hh →
      ne_G cl D ct A ws.length ad0 p l e R s m args below meth c (ne_O cl D ct ad0 ws.length A below args s mc ms post px) maxL mc ms mc ms 0 (ne_a as ++ List.replicate (maxL - (ne_a as).length) none) [] ws) : ne_M l cl (.codeWith y bytes maxL ret hh) Ts y fr lo mc ms as ws post px := by
  intro D ct ad sz
  refine vx_ofWH (hh := hh) (cc := bytes) (maxL := maxL) (ret := ret) (ws' := Ts) hy rfl ?_
  intro p e s m args below meth c s₁ B hml hv
  obtain ⟨rfl, hsz, hP, hK, hD0, hZ⟩ := hv
  subst hsz
  have hts := atoms_spec (ws := Cond.codeWith y bytes maxL ret hh :: Ts) B.pre
  have ht : c.exceptionTable.toList = tableOf hh := vx_table (x := y) B (hts _ List.mem_cons_self)
  have hown : s.vm.findClass own = some m.cls := by rw [← ho]; exact findClass_of_methodNamed B.named
  have hD := hD0.self (sz := s.heap.size)
  have hin : meth.name = y.name := (name_of_methodNamed B.named B.method).1
  have hlsl : ∀ vs : List Value, (lg_sl (vs.map (ne_v ad))).length = (ne_a vs).length := by
    intro vs
    induction vs with
    | nil => rfl
    | cons v t ih =>
      have e9 : ∀ (w : Value) (t' : List Value), lg_sl (w :: t') = (if w.category = 2 then [Slot.val w, Slot.second] else [Slot.val w]) ++ lg_sl t' := fun w t' => by simp [lg_sl]
      rw [ne_a, List.map_cons, e9, List.length_append, ih, ne_v_cat]
      by_cases h : v.category = 2
      · rw [if_pos h, if_pos h]; simp only [List.length_cons, List.length_nil]; omega
      · rw [if_neg h, if_neg h]; simp only [List.length_cons, List.length_nil]; omega
  have h9 := lv_entry (as.map (ne_v ad)) (n := maxL) (by rw [hlsl]; exact hlen)
  rw [lg_entry_eq]
  refine body D ct (va_A (ne_w ct ad 0 ws) s.heap.size) p e _ s m _ below meth c ad ⟨⟨B.exec, B.bytes, hml, hown, fun w hw => hts w (List.mem_cons_of_mem _ hw)⟩, hK, fun q hq => Or.inr hq, Nat.le_refl _, Nat.le_refl _, Nat.le_refl _, Nat.le_refl _, hZ, B.notSynchronized, hl⟩ B.returns hin ht s.heap [] 0 0 ad _ (fun _ _ => rfl) (by omega) (by omega) hP hD va_S.rf ?_
  rw [ne_l_pad, ne_a_args]
  exact h9
/-- caught here: the thrown object is a place of its own, without a cell -/
theorem ne_catch {E name : String} {pre suf : List ExceptionTableEntry} {x : ExceptionTableEntry} (X : ne_F cl D ct A p l R s m args meth c own cc nL Ts fr lo mc ms) (ht : c.exceptionTable.toList = pre ++ x :: suf) (hpass : ∀ z ∈ pre, covers z pc = false ∨ (z.catchType ≠ 0 ∧ ∃ nm : String, Cond.classLink own z.catchType nm ∈ Ts ∧ (E, nm) ∈ ne_cb)) (hx : covers x pc = true) (h0 : x.catchType ≠ 0) (hlink : Cond.classLink own x.catchType name ∈ Ts) (hcast : (E, name) ∈ ne_ca) (hn0 : n0 ≤ ws.length) (hw : ne_cw ws.length ws = true) (hl : ne_cl ws.length L = true) (kk : ne_G cl D ct A n0 ad0 p l e R s m args below meth c Q nL mc ms C S x.handlerPc L [.ref ws.length] (ws ++ [none])) : ne_T cl D ct A n0 ad0 p l e R s m args below meth c Q nL mc ms C S pc L E ws := fun H locs cells slots ad ls rest q ce h1 h2 h3 h4 h5 h6 h7 h8 h9 h10 => by
  have hag : ∀ k, k < ws.length → ne_up ad ws.length q k = ad k := fun k hk => ne_up_lt hk
  have hN := X.2.2.2.2.2.2.2.1.2.2.2.2
  refine vx_catch (own := own) (name := name) X.1.2.2.2.1 pre x suf ht (fun z hz => (hpass z hz).imp_right fun ⟨g0, nm, g1, g2⟩ => ⟨g0, nm, X.1.2.2.2.2 _ g1, hN.2.2.2.1 _ g2⟩) hx h0 (X.1.2.2.2.2 _ hlink) ((hN.2.2.1 _ hcast).use rfl) h8 h9 h10 ?_
  have k9 := kk H locs cells slots (ne_up ad ws.length q) ls (fun k hk => (hag k (by omega)).trans (h1 k hk)) h2 h3 (by rw [ne_w_appN, ne_w_eq hag hw (by omega)]; exact h4) (by rw [ne_w_appN, ne_w_eq hag hw (by omega)]; exact h5) h6 (by rw [ne_l_eq hag hl]; exact h7)
  have e3 : List.map (ne_v (ne_up ad ws.length q)) [.ref ws.length] = [.ref q] := by simp only [List.map, ne_v, ne_up_self]
  rw [e3] at k9
  exact k9
/-- a place without a cell -/
theorem ne_addN (hn0 : n0 ≤ ws.length) (hw : ne_cw ws.length ws = true) (hl : ne_cl ws.length L = true) (hs : ne_cs ws.length st = true) (kk : ne_G cl D ct A n0 ad0 p l e R s m args below meth c Q nL mc ms C S pc L st (ws ++ [none])) : ne_G cl D ct A n0 ad0 p l e R s m args below meth c Q nL mc ms C S pc L st ws := fun H locs cells slots ad ls h1 h2 h3 h4 h5 h6 h7 => by
  have hag : ∀ k, k < ws.length → ne_up ad ws.length 0 k = ad k := fun k hk => ne_up_lt hk
  have k9 := kk H locs cells slots (ne_up ad ws.length 0) ls (fun k hk => (hag k (by omega)).trans (h1 k hk)) h2 h3 (by rw [ne_w_appN, ne_w_eq hag hw (by omega)]; exact h4) (by rw [ne_w_appN, ne_w_eq hag hw (by omega)]; exact h5) h6 (by rw [ne_l_eq hag hl]; exact h7)
  rw [ne_s_eq hag hs] at k9
  exact k9
/-- the law's script, at the place 0 -/
theorem ne_slen {b N : Nat} {xs : Nat → Int32} (X : ne_F cl D ct A p l R s m args meth c own cc nL Ts fr lo mc ms) (hX : va_X b N xs s s.heap) (hbl : b < s.heap.size) (hbA : ¬ A b) (hb0 : ad0 0 = b) (hn1 : 0 < n0) (hdg : decode cc pc = .ok (.arraylength, 1)) (kk : ne_G cl D ct A n0 ad0 p l e R s m args below meth c Q nL mc ms C S (pc + 1) L (ni (N : Int) :: st) ws) : ne_G cl D ct A n0 ad0 p l e R s m args below meth c Q nL mc ms C S pc L (.ref 0 :: st) ws := fun H locs cells slots ad ls h1 h2 h3 h4 h5 h6 h7 => by
  have k9 := kk H locs cells slots ad ls h1 h2 h3 h4 h5 h6 h7
  have e0 : ad 0 = b := (h1 0 hn1).trans hb0
  show W p l e R s m args below meth c H locs cells slots Q (F0 m pc ls (.ref (ad 0) :: st.map (ne_v ad)))
  rw [e0]
  exact va_slen X.1.1 X.1.2.1 hX hbl hbA h6 hdg k9
theorem ne_sld {b N : Nat} {xs : Nat → Int32} {i : Int} (X : ne_F cl D ct A p l R s m args meth c own cc nL Ts fr lo mc ms) (hX : va_X b N xs s s.heap) (hbl : b < s.heap.size) (hbA : ¬ A b) (hb0 : ad0 0 = b) (hn1 : 0 < n0) (hi : 0 ≤ i ∧ i < N ∧ i < 2147483648) (hdg : decode cc pc = .ok (.iaload, 1)) (kk : ∀ z : Int, z = (xs (Int32.ofInt i).toNatClampNeg).toInt → -2147483648 ≤ z → z < 2147483648 → ne_G cl D ct A n0 ad0 p l e R s m args below meth c Q nL mc ms C S (pc + 1) L (ni z :: st) ws) : ne_G cl D ct A n0 ad0 p l e R s m args below meth c Q nL mc ms C S pc L (ni i :: .ref 0 :: st) ws := fun H locs cells slots ad ls h1 h2 h3 h4 h5 h6 h7 => by
  have g1 := Int32.le_toInt (xs (Int32.ofInt i).toNatClampNeg)
  have g2 := Int32.toInt_lt (xs (Int32.ofInt i).toNatClampNeg)
  have k9 := kk (xs (Int32.ofInt i).toNatClampNeg).toInt rfl (by omega) (by omega) H locs cells slots ad ls h1 h2 h3 h4 h5 h6 h7
  have e0 : ad 0 = b := (h1 0 hn1).trans hb0
  have e2 : (ni (xs (Int32.ofInt i).toNatClampNeg).toInt) = Value.int (xs (Int32.ofInt i).toNatClampNeg) := by
    show Value.int (Int32.ofInt _) = _
    rw [Int32.ofInt_toInt]
  show W p l e R s m args below meth c H locs cells slots Q (F0 m pc ls (.int (Int32.ofInt i) :: .ref (ad 0) :: st.map (ne_v ad)))
  rw [e0]
  refine va_sld X.1.1 X.1.2.1 hX hbl hbA h6 (ne_in hi.1 hi.2.1 hi.2.2).1 hdg ?_
  rw [e2] at k9
  exact k9
theorem ne_and63 {x : Int} (X : ne_F cl D ct A p l R s m args meth c own cc nL Ts fr lo mc ms) (hdg : decode cc pc = .ok (.iand, 1)) (kk : ∀ z : Int, 0 ≤ z → z ≤ 63 → ne_G cl D ct A n0 ad0 p l e R s m args below meth c Q nL mc ms C S (pc + 1) L (ni z :: st) ws) : ne_G cl D ct A n0 ad0 p l e R s m args below meth c Q nL mc ms C S pc L (ni 63 :: ni x :: st) ws := fun H locs cells slots ad ls h1 h2 h3 h4 h5 h6 h7 => by
  have hb : (Int32.ofInt x &&& Int32.ofInt 63).toBitVec.toNat ≤ 63 := by
    rw [Int32.toBitVec_and, BitVec.toNat_and]
    exact Nat.le_trans Nat.and_le_right (by decide)
  have h9 : (Int32.ofInt x &&& Int32.ofInt 63).toInt = ((Int32.ofInt x &&& Int32.ofInt 63).toBitVec.toNat : Int) := by
    rw [← Int32.toInt_toBitVec, BitVec.toInt_eq_toNat_of_lt (by omega)]
  have k9 := kk (Int32.ofInt x &&& Int32.ofInt 63).toInt (by omega) (by omega) H locs cells slots ad ls h1 h2 h3 h4 h5 h6 h7
  have e2 : ni (Int32.ofInt x &&& Int32.ofInt 63).toInt = Value.int (Int32.ofInt x &&& Int32.ofInt 63) := by
    show Value.int (Int32.ofInt _) = _
    rw [Int32.ofInt_toInt]
  rw [e2] at k9
  exact lv_iand X.1.1 X.1.2.1 hdg k9
end NEW
