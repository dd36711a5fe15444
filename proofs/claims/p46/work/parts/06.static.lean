theorem ne_p10 : ∀ n : Nat, n ≤ 18 → (1 : Int) ≤ 10 ^ n ∧ (10 : Int) ^ n ≤ 1000000000000000000 := by
  intro n hn
  have h : ∀ k : Fin 19, (1 : Int) ≤ 10 ^ k.val ∧ (10 : Int) ^ k.val ≤ 1000000000000000000 := by decide +kernel
  exact h ⟨n, by omega⟩
theorem ne_p10r (k n : Nat) (h : n ≤ k) (hk : k ≤ 18 := by decide) : (10 : Int) ^ n ≤ 10 ^ k := by
  have h2 : ∀ k n : Fin 19, n.val ≤ k.val → (10 : Int) ^ n.val ≤ 10 ^ k.val := by decide +kernel
  exact h2 ⟨k, by omega⟩ ⟨n, by omega⟩ h
theorem ne_mul (a b A B : Int) (h : -A ≤ a ∧ a ≤ A) (hb : 0 ≤ b ∧ b ≤ B) : -(A * B) ≤ a * b ∧ a * b ≤ A * B := by
  have hA : 0 ≤ A := by omega
  have h1 : a * b ≤ A * b := Int.mul_le_mul_of_nonneg_right h.2 hb.1
  have h2 : A * b ≤ A * B := Int.mul_le_mul_of_nonneg_left hb.2 hA
  have h3 : -A * b ≤ a * b := Int.mul_le_mul_of_nonneg_right h.1 hb.1
  have h4 : -A * b = -(A * b) := Int.neg_mul A b
  omega
set_option maxRecDepth 100000 in
set_option maxHeartbeats 4000000 in
theorem me_X1_requireCell (l : Launch) (hl : l.stackTraces = false) (ws : ne_W) (a : Int) (ha : -2147483648 ≤ a ∧ a < 2147483648) : ne_M l nw_cl (.code yX1_requireCell cX1_requireCell 1 (none)) nw_T yX1_requireCell 6 90 1 6 [ni a] ws (fun v w => w = ws ∧ v = none ∧ 0 ≤ a ∧ a < 4) (fun E w => w = ws ∧ E = "java/lang/IndexOutOfBoundsException") := by
  refine ne_meet (own := RX1) hl rfl (by decide +kernel) (Nat.le_of_ble_eq_true rfl) ?_
  intro D ct A P9 V9 R9 S9 M9 as9 bl9 mt9 C9 ad0 X hr hin ht
  refine ne_iload_n X dX1_requireCell_0 rfl ?_
  refine ne_if_lt (tgt := 9) X dX1_requireCell_1 rfl (by omega) (fun b1 => ?_) (fun b1 => ?_)
  · exact ne_throw (cls := "java/lang/IndexOutOfBoundsException") (text := "no such cell") (names := ["java/lang/RuntimeException", "java/lang/Exception"]) X X.1.2.2.2.2 (by decide +kernel) (by decide +kernel) nw_qX1_232 nw_inI (by decide +kernel) nw_xI1 (by decide +kernel) nw_xI2 nw_xI3 ht dX1_requireCell_9 dX1_requireCell_12 dX1_requireCell_13 dX1_requireCell_15 dX1_requireCell_18 (by decide) (Nat.le_of_ble_eq_true rfl) (by decide) (by decide) ⟨rfl, rfl⟩
  · refine ne_iload_n X dX1_requireCell_4 rfl ?_
    refine ne_iconst X dX1_requireCell_5 ?_
    refine ne_icmp_lt (tgt := 19) X dX1_requireCell_6 rfl (by omega) (by omega) (fun b6 => ?_) (fun b6 => ?_)
    · exact ne_vret X hr dX1_requireCell_19 ⟨rfl, rfl, by omega⟩
    · exact ne_throw (cls := "java/lang/IndexOutOfBoundsException") (text := "no such cell") (names := ["java/lang/RuntimeException", "java/lang/Exception"]) X X.1.2.2.2.2 (by decide +kernel) (by decide +kernel) nw_qX1_232 nw_inI (by decide +kernel) nw_xI1 (by decide +kernel) nw_xI2 nw_xI3 ht dX1_requireCell_9 dX1_requireCell_12 dX1_requireCell_13 dX1_requireCell_15 dX1_requireCell_18 (by decide) (Nat.le_of_ble_eq_true rfl) (by decide) (by decide) ⟨rfl, rfl⟩
set_option maxRecDepth 100000 in
set_option maxHeartbeats 4000000 in
theorem me_X1_requireWheel (l : Launch) (hl : l.stackTraces = false) (ws : ne_W) (a : Int) (ha : -2147483648 ≤ a ∧ a < 2147483648) : ne_M l nw_cl (.code yX1_requireWheel cX1_requireWheel 1 (none)) nw_T yX1_requireWheel 6 90 1 6 [ni a] ws (fun v w => w = ws ∧ v = none ∧ 0 ≤ a ∧ a < 3) (fun E w => w = ws ∧ E = "java/lang/IndexOutOfBoundsException") := by
  refine ne_meet (own := RX1) hl rfl (by decide +kernel) (Nat.le_of_ble_eq_true rfl) ?_
  intro D ct A P9 V9 R9 S9 M9 as9 bl9 mt9 C9 ad0 X hr hin ht
  refine ne_iload_n X dX1_requireWheel_0 rfl ?_
  refine ne_if_lt (tgt := 9) X dX1_requireWheel_1 rfl (by omega) (fun b1 => ?_) (fun b1 => ?_)
  · exact ne_throw (cls := "java/lang/IndexOutOfBoundsException") (text := "no such wheel") (names := ["java/lang/RuntimeException", "java/lang/Exception"]) X X.1.2.2.2.2 (by decide +kernel) (by decide +kernel) nw_qX1_232 nw_inI (by decide +kernel) nw_xI1 (by decide +kernel) nw_xI2 nw_xI3 ht dX1_requireWheel_9 dX1_requireWheel_12 dX1_requireWheel_13 dX1_requireWheel_15 dX1_requireWheel_18 (by decide) (Nat.le_of_ble_eq_true rfl) (by decide) (by decide) ⟨rfl, rfl⟩
  · refine ne_iload_n X dX1_requireWheel_4 rfl ?_
    refine ne_iconst X dX1_requireWheel_5 ?_
    refine ne_icmp_lt (tgt := 19) X dX1_requireWheel_6 rfl (by omega) (by omega) (fun b6 => ?_) (fun b6 => ?_)
    · exact ne_vret X hr dX1_requireWheel_19 ⟨rfl, rfl, by omega⟩
    · exact ne_throw (cls := "java/lang/IndexOutOfBoundsException") (text := "no such wheel") (names := ["java/lang/RuntimeException", "java/lang/Exception"]) X X.1.2.2.2.2 (by decide +kernel) (by decide +kernel) nw_qX1_232 nw_inI (by decide +kernel) nw_xI1 (by decide +kernel) nw_xI2 nw_xI3 ht dX1_requireWheel_9 dX1_requireWheel_12 dX1_requireWheel_13 dX1_requireWheel_15 dX1_requireWheel_18 (by decide) (Nat.le_of_ble_eq_true rfl) (by decide) (by decide) ⟨rfl, rfl⟩
set_option maxRecDepth 100000 in
set_option maxHeartbeats 4000000 in
theorem me_X1_requireBetween (l : Launch) (hl : l.stackTraces = false) (ws : ne_W) (a lo hi : Int) (ha : -2147483648 ≤ a ∧ a < 2147483648) (h1 : -9223372036854775808 ≤ lo ∧ lo < 9223372036854775808) (h2 : -9223372036854775808 ≤ hi ∧ hi < 9223372036854775808) : ne_M l nw_cl (.code yX1_requireBetween cX1_requireBetween 5 (none)) nw_T yX1_requireBetween 6 90 1 6 [ni a, nl lo, nl hi] ws (fun v w => w = ws ∧ v = none ∧ lo ≤ a ∧ a ≤ hi) (fun E w => w = ws ∧ E = "java/lang/IllegalArgumentException") := by
  refine ne_meet (own := RX1) hl rfl (by decide +kernel) (Nat.le_of_ble_eq_true rfl) ?_
  intro D ct A P9 V9 R9 S9 M9 as9 bl9 mt9 C9 ad0 X hr hin ht
  refine ne_iload_n X dX1_requireBetween_0 rfl ?_
  refine ne_i2l (by omega) X dX1_requireBetween_1 ?_
  refine ne_lload_n X dX1_requireBetween_2 rfl ?_
  refine ne_lcif_lt (tgt := 14) X dX1_requireBetween_3 dX1_requireBetween_4 rfl (by omega) (by omega) (fun b4 => ?_) (fun b4 => ?_)
  · exact ne_throw (cls := "java/lang/IllegalArgumentException") (text := "an argument is out of its bounds") (names := ["java/lang/RuntimeException", "java/lang/Exception"]) X X.1.2.2.2.2 (by decide +kernel) (by decide +kernel) nw_qX1_241 nw_inA (by decide +kernel) nw_xA1 (by decide +kernel) nw_xA2 nw_xA3 ht dX1_requireBetween_14 dX1_requireBetween_17 dX1_requireBetween_18 dX1_requireBetween_20 dX1_requireBetween_23 (by decide) (Nat.le_of_ble_eq_true rfl) (by decide) (by decide) ⟨rfl, rfl⟩
  · refine ne_iload_n X dX1_requireBetween_7 rfl ?_
    refine ne_i2l (by omega) X dX1_requireBetween_8 ?_
    refine ne_lload_n X dX1_requireBetween_9 rfl ?_
    refine ne_lcif_le (tgt := 24) X dX1_requireBetween_10 dX1_requireBetween_11 rfl (by omega) (by omega) (fun b11 => ?_) (fun b11 => ?_)
    · exact ne_vret X hr dX1_requireBetween_24 ⟨rfl, rfl, by omega⟩
    · exact ne_throw (cls := "java/lang/IllegalArgumentException") (text := "an argument is out of its bounds") (names := ["java/lang/RuntimeException", "java/lang/Exception"]) X X.1.2.2.2.2 (by decide +kernel) (by decide +kernel) nw_qX1_241 nw_inA (by decide +kernel) nw_xA1 (by decide +kernel) nw_xA2 nw_xA3 ht dX1_requireBetween_14 dX1_requireBetween_17 dX1_requireBetween_18 dX1_requireBetween_20 dX1_requireBetween_23 (by decide) (Nat.le_of_ble_eq_true rfl) (by decide) (by decide) ⟨rfl, rfl⟩
set_option maxRecDepth 100000 in
set_option maxHeartbeats 4000000 in
theorem me_X1_requireWay (l : Launch) (hl : l.stackTraces = false) (ws : ne_W) (a : Int) (ha : -2147483648 ≤ a ∧ a < 2147483648) : ne_M l nw_cl (.code yX1_requireWay cX1_requireWay 1 (none)) nw_T yX1_requireWay 7 130 1 6 [ni a] ws (fun v w => w = ws ∧ v = none ∧ 0 ≤ a ∧ a ≤ 7) (fun E w => w = ws ∧ E = "java/lang/IllegalArgumentException") := by
  refine ne_meet (own := RX1) hl rfl (by decide +kernel) (Nat.le_of_ble_eq_true rfl) ?_
  intro D ct A P9 V9 R9 S9 M9 as9 bl9 mt9 C9 ad0 X hr hin ht
  refine ne_iload_n X dX1_requireWay_0 rfl ?_
  refine ne_lconst (z := 0) (by decide) X dX1_requireWay_1 ?_
  refine ne_ldc2 (z := 7) (by decide) nw_cX1_246 X dX1_requireWay_2 ?_
  refine ne_callS X nw_Tg (me_X1_requireBetween l hl _ _ _ _ (by omega) (by omega) (by omega)) nw_yX1_requireBetween nw_mX1_49 nw_sX1_requireBetween dX1_requireWay_5 rfl rfl (by decide) (by decide) (by first | decide | omega) (by first | decide | omega) (Nat.le_refl _) rfl rfl (Nat.le_of_ble_eq_true rfl) ?_ ?_
  rotate_left
  · rintro E9 w9 h9; exact ne_out X ht (by first | exact h9 | (obtain ⟨rfl, h8⟩ := h9; exact ⟨rfl, by first | exact h8 | exact Or.inl h8 | exact Or.inr h8⟩))
  rintro v5 w5 ⟨rfl, rfl, g5, k5⟩
  exact ne_vret X hr dX1_requireWay_8 ⟨rfl, rfl, by omega⟩
set_option maxRecDepth 100000 in
set_option maxHeartbeats 4000000 in
theorem me_X1_requireBottom (l : Launch) (hl : l.stackTraces = false) (ws : ne_W) (a : Int) (ha : -2147483648 ≤ a ∧ a < 2147483648) : ne_M l nw_cl (.code yX1_requireBottom cX1_requireBottom 1 (none)) nw_T yX1_requireBottom 7 130 2 12 [ni a] ws (fun v w => w = ws ∧ v = none ∧ 1 ≤ a ∧ a ≤ 99 ∧ a.tmod 2 ≠ 0 ∧ a.tmod 5 ≠ 0) (fun E w => w = ws ∧ E = "java/lang/IllegalArgumentException") := by
  refine ne_meet (own := RX1) hl rfl (by decide +kernel) (Nat.le_of_ble_eq_true rfl) ?_
  intro D ct A P9 V9 R9 S9 M9 as9 bl9 mt9 C9 ad0 X hr hin ht
  have t2 := tmod_bounds (a := a) (M := 2) (by decide)
  have t5 := tmod_bounds (a := a) (M := 5) (by decide)
  refine ne_iload_n X dX1_requireBottom_0 rfl ?_
  refine ne_lconst (z := 1) (by decide) X dX1_requireBottom_1 ?_
  refine ne_ldc2 (z := 99) (by decide) nw_cX1_90 X dX1_requireBottom_2 ?_
  refine ne_callS X nw_Tg (me_X1_requireBetween l hl _ _ _ _ (by omega) (by omega) (by omega)) nw_yX1_requireBetween nw_mX1_49 nw_sX1_requireBetween dX1_requireBottom_5 rfl rfl (by decide) (by decide) (by first | decide | omega) (by first | decide | omega) (Nat.le_refl _) rfl rfl (Nat.le_of_ble_eq_true rfl) ?_ ?_
  rotate_left
  · rintro E9 w9 h9; exact ne_out X ht (by first | exact h9 | (obtain ⟨rfl, h8⟩ := h9; exact ⟨rfl, by first | exact h8 | exact Or.inl h8 | exact Or.inr h8⟩))
  rintro v5 w5 ⟨rfl, rfl, g5, k5⟩
  refine ne_iload_n X dX1_requireBottom_8 rfl ?_
  refine ne_iconst X dX1_requireBottom_9 ?_
  refine ne_irem X dX1_requireBottom_10 (by omega) (by omega) (by omega) ?_
  refine ne_if_eq (tgt := 20) X dX1_requireBottom_11 rfl (by omega) (fun b11 => ?_) (fun b11 => ?_)
  · exact ne_throw (cls := "java/lang/IllegalArgumentException") (text := "a bottom is divided by 2 or by 5") (names := ["java/lang/RuntimeException", "java/lang/Exception"]) X X.1.2.2.2.2 (by decide +kernel) (by decide +kernel) nw_qX1_241 nw_inA (by decide +kernel) nw_xA1 (by decide +kernel) nw_xA2 nw_xA3 ht dX1_requireBottom_20 dX1_requireBottom_23 dX1_requireBottom_24 dX1_requireBottom_26 dX1_requireBottom_29 (by decide) (Nat.le_of_ble_eq_true rfl) (by decide) (by decide) ⟨rfl, rfl⟩
  · refine ne_iload_n X dX1_requireBottom_14 rfl ?_
    refine ne_iconst X dX1_requireBottom_15 ?_
    refine ne_irem X dX1_requireBottom_16 (by omega) (by omega) (by omega) ?_
    refine ne_if_ne (tgt := 30) X dX1_requireBottom_17 rfl (by omega) (fun b17 => ?_) (fun b17 => ?_)
    · exact ne_vret X hr dX1_requireBottom_30 ⟨rfl, rfl, by omega⟩
    · exact ne_throw (cls := "java/lang/IllegalArgumentException") (text := "a bottom is divided by 2 or by 5") (names := ["java/lang/RuntimeException", "java/lang/Exception"]) X X.1.2.2.2.2 (by decide +kernel) (by decide +kernel) nw_qX1_241 nw_inA (by decide +kernel) nw_xA1 (by decide +kernel) nw_xA2 nw_xA3 ht dX1_requireBottom_20 dX1_requireBottom_23 dX1_requireBottom_24 dX1_requireBottom_26 dX1_requireBottom_29 (by decide) (Nat.le_of_ble_eq_true rfl) (by decide) (by decide) ⟨rfl, rfl⟩
set_option maxRecDepth 100000 in
set_option maxHeartbeats 4000000 in
theorem me_X1_fits (l : Launch) (hl : l.stackTraces = false) (ws : ne_W) (a b : Int) (ha : -9223372036854775808 ≤ a ∧ a < 9223372036854775808) (hb : -2147483648 ≤ b ∧ b < 2147483648) : ne_M l nw_cl (.code yX1_fits cX1_fits 3 (some .boolean)) nw_T yX1_fits 0 0 0 0 [nl a, ni b] ws (fun v w => w = ws ∧ ∃ z : Int, v = some (ni z) ∧ ((z = 1 ∧ -999999 ≤ a ∧ a ≤ 999999 ∧ 0 ≤ b ∧ b ≤ 3) ∨ (z = 0 ∧ ¬ (-999999 ≤ a ∧ a ≤ 999999 ∧ 0 ≤ b ∧ b ≤ 3)))) (fun _ _ => False) := by
  refine ne_meet (own := RX1) hl rfl (by decide +kernel) (Nat.le_of_ble_eq_true rfl) ?_
  intro D ct A P9 V9 R9 S9 M9 as9 bl9 mt9 C9 ad0 X hr hin ht
  refine ne_lload_n X dX1_fits_0 rfl ?_
  refine ne_ldc2 (z := -999999) (by decide) nw_cX1_45 X dX1_fits_1 ?_
  refine ne_lcif_lt (tgt := 29) X dX1_fits_4 dX1_fits_5 rfl (by omega) (by omega) (fun b5 => ?_) (fun b5 => ?_)
  · refine ne_iconst X dX1_fits_29 ?_
    exact ne_iret X hr (by first | rfl | decide | rfl) dX1_fits_30 ⟨rfl, _, rfl, by omega⟩
  · refine ne_lload_n X dX1_fits_8 rfl ?_
    refine ne_ldc2 (z := 999999) (by decide) nw_cX1_47 X dX1_fits_9 ?_
    refine ne_lcif_gt (tgt := 29) X dX1_fits_12 dX1_fits_13 rfl (by omega) (by omega) (fun b13 => ?_) (fun b13 => ?_)
    · refine ne_iconst X dX1_fits_29 ?_
      exact ne_iret X hr (by first | rfl | decide | rfl) dX1_fits_30 ⟨rfl, _, rfl, by omega⟩
    · refine ne_iload_n X dX1_fits_16 rfl ?_
      refine ne_if_lt (tgt := 29) X dX1_fits_17 rfl (by omega) (fun b17 => ?_) (fun b17 => ?_)
      · refine ne_iconst X dX1_fits_29 ?_
        exact ne_iret X hr (by first | rfl | decide | rfl) dX1_fits_30 ⟨rfl, _, rfl, by omega⟩
      · refine ne_iload_n X dX1_fits_20 rfl ?_
        refine ne_iconst X dX1_fits_21 ?_
        refine ne_icmp_gt (tgt := 29) X dX1_fits_22 rfl (by omega) (by omega) (fun b22 => ?_) (fun b22 => ?_)
        · refine ne_iconst X dX1_fits_29 ?_
          exact ne_iret X hr (by first | rfl | decide | rfl) dX1_fits_30 ⟨rfl, _, rfl, by omega⟩
        · refine ne_iconst X dX1_fits_25 ?_
          refine ne_goto (tgt := 30) X dX1_fits_26 rfl ?_
          exact ne_iret X hr (by first | rfl | decide | rfl) dX1_fits_30 ⟨rfl, _, rfl, by omega⟩
set_option maxRecDepth 100000 in
set_option maxHeartbeats 4000000 in
theorem me_X1_signOf (l : Launch) (hl : l.stackTraces = false) (ws : ne_W) (a : Int) (ha : -9223372036854775808 ≤ a ∧ a < 9223372036854775808) : ne_M l nw_cl (.code yX1_signOf cX1_signOf 2 (some .int)) nw_T yX1_signOf 0 0 0 0 [nl a] ws (fun v w => w = ws ∧ ∃ z : Int, v = some (ni z) ∧ -1 ≤ z ∧ z ≤ 1 ∧ (z < 0 ↔ a < 0) ∧ (0 < z ↔ 0 < a)) (fun _ _ => False) := by
  refine ne_meet (own := RX1) hl rfl (by decide +kernel) (Nat.le_of_ble_eq_true rfl) ?_
  intro D ct A P9 V9 R9 S9 M9 as9 bl9 mt9 C9 ad0 X hr hin ht
  refine ne_lload_n X dX1_signOf_0 rfl ?_
  refine ne_lconst (z := 0) (by decide) X dX1_signOf_1 ?_
  refine ne_lcif_ne (tgt := 8) X dX1_signOf_2 dX1_signOf_3 rfl (by omega) (by omega) (fun b3 => ?_) (fun b3 => ?_)
  · refine ne_lload_n X dX1_signOf_8 rfl ?_
    refine ne_lconst (z := 0) (by decide) X dX1_signOf_9 ?_
    refine ne_lcif_ge (tgt := 18) X dX1_signOf_10 dX1_signOf_11 rfl (by omega) (by omega) (fun b11 => ?_) (fun b11 => ?_)
    · refine ne_iconst X dX1_signOf_18 ?_
      exact ne_iret X hr (by first | rfl | decide | rfl) dX1_signOf_19 ⟨rfl, _, rfl, by omega⟩
    · refine ne_iconst X dX1_signOf_14 ?_
      refine ne_goto (tgt := 19) X dX1_signOf_15 rfl ?_
      exact ne_iret X hr (by first | rfl | decide | rfl) dX1_signOf_19 ⟨rfl, _, rfl, by omega⟩
  · refine ne_iconst X dX1_signOf_6 ?_
    exact ne_iret X hr (by first | rfl | decide | rfl) dX1_signOf_7 ⟨rfl, _, rfl, by omega⟩
set_option maxRecDepth 100000 in
set_option maxHeartbeats 4000000 in
theorem me_X1_signOfDigit (l : Launch) (hl : l.stackTraces = false) (ws : ne_W) (a : Int) (ha : 0 ≤ a ∧ a ≤ 9) : ne_M l nw_cl (.code yX1_signOfDigit cX1_signOfDigit 1 (some .char)) nw_T yX1_signOfDigit 0 0 0 0 [ni a] ws (fun v w => w = ws ∧ ∃ z : Int, v = some (ni z) ∧ z = 48 + a) (fun _ _ => False) := by
  refine ne_meet (own := RX1) hl rfl (by decide +kernel) (Nat.le_of_ble_eq_true rfl) ?_
  intro D ct A P9 V9 R9 S9 M9 as9 bl9 mt9 C9 ad0 X hr hin ht
  refine ne_bipush (v := 48) (by decide) X dX1_signOfDigit_0 ?_
  refine ne_iload_n X dX1_signOfDigit_2 rfl ?_
  refine ne_iadd X dX1_signOfDigit_3 ?_
  refine ne_i2c (by omega) X dX1_signOfDigit_4 ?_
  exact ne_iret X hr (by first | rfl | decide | (rcases (show a = 0 ∨ a = 1 ∨ a = 2 ∨ a = 3 ∨ a = 4 ∨ a = 5 ∨ a = 6 ∨ a = 7 ∨ a = 8 ∨ a = 9 by omega) with rfl | rfl | rfl | rfl | rfl | rfl | rfl | rfl | rfl | rfl <;> rfl)) dX1_signOfDigit_5 ⟨rfl, _, rfl, by omega⟩
set_option maxRecDepth 100000 in
set_option maxHeartbeats 4000000 in
theorem me_X1_leftover (l : Launch) (hl : l.stackTraces = false) (ws : ne_W) (a b : Int) (ha : -2147483648 ≤ a ∧ a < 2147483648) (hb : -2147483648 ≤ b ∧ b < 2147483648) : ne_M l nw_cl (.code yX1_leftover cX1_leftover 2 (some .int)) nw_T yX1_leftover 0 0 0 0 [ni a, ni b] ws (fun v w => w = ws ∧ ∃ z : Int, v = some (ni z) ∧ ((b < 1 ∧ z = 0) ∨ (1 ≤ b ∧ z = a.tmod b))) (fun _ _ => False) := by
  refine ne_meet (own := RX1) hl rfl (by decide +kernel) (Nat.le_of_ble_eq_true rfl) ?_
  intro D ct A P9 V9 R9 S9 M9 as9 bl9 mt9 C9 ad0 X hr hin ht
  refine ne_iload_n X dX1_leftover_0 rfl ?_
  refine ne_iconst X dX1_leftover_1 ?_
  refine ne_icmp_ge (tgt := 9) X dX1_leftover_2 rfl (by omega) (by omega) (fun b2 => ?_) (fun b2 => ?_)
  · refine ne_iload_n X dX1_leftover_9 rfl ?_
    refine ne_iload_n X dX1_leftover_10 rfl ?_
    refine ne_irem X dX1_leftover_11 (by omega) (by omega) (by omega) ?_
    exact ne_iret X hr (by first | rfl | decide | rfl) dX1_leftover_12 ⟨rfl, _, rfl, by omega⟩
  · refine ne_iconst X dX1_leftover_5 ?_
    refine ne_goto (tgt := 12) X dX1_leftover_6 rfl ?_
    exact ne_iret X hr (by first | rfl | decide | rfl) dX1_leftover_12 ⟨rfl, _, rfl, by omega⟩
set_option maxRecDepth 100000 in
set_option maxHeartbeats 4000000 in
theorem me_X1_restAfter (l : Launch) (hl : l.stackTraces = false) (ws : ne_W) (a b : Int) (ha : 0 ≤ a) (hab : a < b) (hb : b ≤ 99) : ne_M l nw_cl (.code yX1_restAfter cX1_restAfter 2 (some .int)) nw_T yX1_restAfter 1 40 0 0 [ni a, ni b] ws (fun v w => w = ws ∧ ∃ z : Int, v = some (ni z) ∧ z = (10 * a).tmod b ∧ 0 ≤ z ∧ z < b) (fun _ _ => False) := by
  refine ne_meet (own := RX1) hl rfl (by decide +kernel) (Nat.le_of_ble_eq_true rfl) ?_
  intro D ct A P9 V9 R9 S9 M9 as9 bl9 mt9 C9 ad0 X hr hin ht
  have d9 := ne_dg a b ha hab
  refine ne_bipush (v := 10) (by decide) X dX1_restAfter_0 ?_
  refine ne_iload_n X dX1_restAfter_2 rfl ?_
  refine ne_imul X dX1_restAfter_3 ?_
  refine ne_iload_n X dX1_restAfter_4 rfl ?_
  refine ne_callS X nw_Tg (me_X1_leftover l hl _ _ _ (by omega) (by omega)) nw_yX1_leftover nw_mX1_147 nw_sX1_leftover dX1_restAfter_5 rfl rfl (by decide) (by decide) (by first | decide | omega) (by first | decide | omega) (Nat.le_refl _) rfl rfl (Nat.le_of_ble_eq_true rfl) ?_ ?_
  rotate_left
  · rintro E9 w9 h9; exact h9.elim
  rintro v5 w5 ⟨rfl, z5, rfl, g5⟩
  exact ne_iret X hr (by first | rfl | decide | rfl) dX1_restAfter_8 ⟨rfl, _, rfl, by omega⟩
set_option maxRecDepth 100000 in
set_option maxHeartbeats 4000000 in
theorem me_X1_digitAfter (l : Launch) (hl : l.stackTraces = false) (ws : ne_W) (a b : Int) (ha : 0 ≤ a) (hab : a < b) (hb : b ≤ 99) : ne_M l nw_cl (.code yX1_digitAfter cX1_digitAfter 2 (some .int)) nw_T yX1_digitAfter 0 0 0 0 [ni a, ni b] ws (fun v w => w = ws ∧ ∃ z : Int, v = some (ni z) ∧ z = (10 * a).tdiv b ∧ 0 ≤ z ∧ z ≤ 9) (fun _ _ => False) := by
  refine ne_meet (own := RX1) hl rfl (by decide +kernel) (Nat.le_of_ble_eq_true rfl) ?_
  intro D ct A P9 V9 R9 S9 M9 as9 bl9 mt9 C9 ad0 X hr hin ht
  have d9 := ne_dg a b ha hab
  refine ne_iload_n X dX1_digitAfter_0 rfl ?_
  refine ne_iconst X dX1_digitAfter_1 ?_
  refine ne_icmp_ge (tgt := 9) X dX1_digitAfter_2 rfl (by omega) (by omega) (fun b2 => ?_) (fun b2 => ?_)
  · refine ne_bipush (v := 10) (by decide) X dX1_digitAfter_9 ?_
    refine ne_iload_n X dX1_digitAfter_11 rfl ?_
    refine ne_imul X dX1_digitAfter_12 ?_
    refine ne_iload_n X dX1_digitAfter_13 rfl ?_
    refine ne_idiv X dX1_digitAfter_14 (by omega) (by omega) (by omega) ?_
    exact ne_iret X hr (by first | rfl | decide | rfl) dX1_digitAfter_15 ⟨rfl, _, rfl, by omega⟩
  · exfalso; omega
set_option maxRecDepth 100000 in
set_option maxHeartbeats 4000000 in
theorem me_X1_joined (l : Launch) (hl : l.stackTraces = false) (ws : ne_W) (a b : Int) : ne_M l nw_cl (.code yX1_joined cX1_joined 4 (some .long)) nw_T yX1_joined 0 0 0 0 [nl a, nl b] ws (fun v w => w = ws ∧ ∃ z : Int, v = some (nl z) ∧ True) (fun _ _ => False) := by
  refine ne_meet (own := RX1) hl rfl (by decide +kernel) (Nat.le_of_ble_eq_true rfl) ?_
  intro D ct A P9 V9 R9 S9 M9 as9 bl9 mt9 C9 ad0 X hr hin ht
  refine ne_lload_n X dX1_joined_0 rfl ?_
  refine ne_ldc2 (z := 31) (by decide) nw_cX1_290 X dX1_joined_1 ?_
  refine ne_lmul X dX1_joined_4 ?_
  refine ne_lload_n X dX1_joined_5 rfl ?_
  refine ne_ladd X dX1_joined_6 ?_
  exact ne_lret X hr dX1_joined_7 ⟨rfl, _, rfl, trivial⟩
set_option maxRecDepth 100000 in
set_option maxHeartbeats 4000000 in
theorem me_X1_isFartherTaken (l : Launch) (hl : l.stackTraces = false) (ws : ne_W) (a b h w0 : Int) (ha : -9223372036854775808 ≤ a ∧ a < 9223372036854775808) (hb : -9223372036854775808 ≤ b ∧ b < 9223372036854775808) (hh : -2147483648 ≤ h ∧ h < 2147483648) (hw : -2147483648 ≤ w0 ∧ w0 < 2147483648) : ne_M l nw_cl (.code yX1_isFartherTaken cX1_isFartherTaken 6 (some .boolean)) nw_T yX1_isFartherTaken 0 0 0 0 [nl a, nl b, ni h, ni w0] ws (fun v w => w = ws ∧ ∃ z : Int, v = some (ni z) ∧ 0 ≤ z ∧ z ≤ 1) (fun _ _ => False) := by
  refine ne_meet (own := RX1) hl rfl (by decide +kernel) (Nat.le_of_ble_eq_true rfl) ?_
  intro D ct A P9 V9 R9 S9 M9 as9 bl9 mt9 C9 ad0 X hr hin ht
  have t9 := tmod_bounds (a := b) (M := 2) (by decide)
  refine ne_iload X dX1_isFartherTaken_0 rfl ?_
  rcases (show w0 = 0 ∨ w0 = 1 ∨ w0 = 2 ∨ w0 = 3 ∨ w0 = 4 ∨ w0 = 5 ∨ (w0 < 0 ∨ 5 < w0) by omega) with rfl | rfl | rfl | rfl | rfl | rfl | h2
  · refine ne_tswIn (tgt := 40) X dX1_isFartherTaken_2 (by omega) (by omega) (by omega) rfl rfl ?_
    refine ne_iconst X dX1_isFartherTaken_40 ?_
    exact ne_iret X hr (by first | rfl | decide | rfl) dX1_isFartherTaken_41 ⟨rfl, _, rfl, by omega⟩
  · refine ne_tswIn (tgt := 42) X dX1_isFartherTaken_2 (by omega) (by omega) (by omega) rfl rfl ?_
    refine ne_iconst X dX1_isFartherTaken_42 ?_
    exact ne_iret X hr (by first | rfl | decide | rfl) dX1_isFartherTaken_43 ⟨rfl, _, rfl, by omega⟩
  · refine ne_tswIn (tgt := 44) X dX1_isFartherTaken_2 (by omega) (by omega) (by omega) rfl rfl ?_
    refine ne_lload_n X dX1_isFartherTaken_44 rfl ?_
    refine ne_lconst (z := 0) (by decide) X dX1_isFartherTaken_45 ?_
    refine ne_lcif_le (tgt := 54) X dX1_isFartherTaken_46 dX1_isFartherTaken_47 rfl (by omega) (by omega) (fun b47 => ?_) (fun b47 => ?_)
    · refine ne_iconst X dX1_isFartherTaken_54 ?_
      exact ne_iret X hr (by first | rfl | decide | rfl) dX1_isFartherTaken_55 ⟨rfl, _, rfl, by omega⟩
    · refine ne_iconst X dX1_isFartherTaken_50 ?_
      refine ne_goto (tgt := 55) X dX1_isFartherTaken_51 rfl ?_
      exact ne_iret X hr (by first | rfl | decide | rfl) dX1_isFartherTaken_55 ⟨rfl, _, rfl, by omega⟩
  · refine ne_tswIn (tgt := 56) X dX1_isFartherTaken_2 (by omega) (by omega) (by omega) rfl rfl ?_
    refine ne_lload_n X dX1_isFartherTaken_56 rfl ?_
    refine ne_lconst (z := 0) (by decide) X dX1_isFartherTaken_57 ?_
    refine ne_lcif_ge (tgt := 66) X dX1_isFartherTaken_58 dX1_isFartherTaken_59 rfl (by omega) (by omega) (fun b59 => ?_) (fun b59 => ?_)
    · refine ne_iconst X dX1_isFartherTaken_66 ?_
      exact ne_iret X hr (by first | rfl | decide | rfl) dX1_isFartherTaken_67 ⟨rfl, _, rfl, by omega⟩
    · refine ne_iconst X dX1_isFartherTaken_62 ?_
      refine ne_goto (tgt := 67) X dX1_isFartherTaken_63 rfl ?_
      exact ne_iret X hr (by first | rfl | decide | rfl) dX1_isFartherTaken_67 ⟨rfl, _, rfl, by omega⟩
  · refine ne_tswIn (tgt := 68) X dX1_isFartherTaken_2 (by omega) (by omega) (by omega) rfl rfl ?_
    refine ne_iload X dX1_isFartherTaken_68 rfl ?_
    refine ne_if_lt (tgt := 77) X dX1_isFartherTaken_70 rfl (by omega) (fun b70 => ?_) (fun b70 => ?_)
    · refine ne_iconst X dX1_isFartherTaken_77 ?_
      exact ne_iret X hr (by first | rfl | decide | rfl) dX1_isFartherTaken_78 ⟨rfl, _, rfl, by omega⟩
    · refine ne_iconst X dX1_isFartherTaken_73 ?_
      refine ne_goto (tgt := 78) X dX1_isFartherTaken_74 rfl ?_
      exact ne_iret X hr (by first | rfl | decide | rfl) dX1_isFartherTaken_78 ⟨rfl, _, rfl, by omega⟩
  · refine ne_tswIn (tgt := 79) X dX1_isFartherTaken_2 (by omega) (by omega) (by omega) rfl rfl ?_
    refine ne_iload X dX1_isFartherTaken_79 rfl ?_
    refine ne_if_le (tgt := 88) X dX1_isFartherTaken_81 rfl (by omega) (fun b81 => ?_) (fun b81 => ?_)
    · refine ne_iconst X dX1_isFartherTaken_88 ?_
      exact ne_iret X hr (by first | rfl | decide | rfl) dX1_isFartherTaken_89 ⟨rfl, _, rfl, by omega⟩
    · refine ne_iconst X dX1_isFartherTaken_84 ?_
      refine ne_goto (tgt := 89) X dX1_isFartherTaken_85 rfl ?_
      exact ne_iret X hr (by first | rfl | decide | rfl) dX1_isFartherTaken_89 ⟨rfl, _, rfl, by omega⟩
  · refine ne_tswOut (tgt := 90) X dX1_isFartherTaken_2 (by omega) h2 rfl ?_
    refine ne_iload X dX1_isFartherTaken_90 rfl ?_
    refine ne_if_gt (tgt := 110) X dX1_isFartherTaken_92 rfl (by omega) (fun b92 => ?_) (fun b92 => ?_)
    · refine ne_iconst X dX1_isFartherTaken_110 ?_
      refine ne_goto (tgt := 115) X dX1_isFartherTaken_111 rfl ?_
      exact ne_iret X hr (by first | rfl | decide | rfl) dX1_isFartherTaken_115 ⟨rfl, _, rfl, by omega⟩
    · refine ne_iload X dX1_isFartherTaken_95 rfl ?_
      refine ne_if_ne (tgt := 114) X dX1_isFartherTaken_97 rfl (by omega) (fun b97 => ?_) (fun b97 => ?_)
      · refine ne_iconst X dX1_isFartherTaken_114 ?_
        exact ne_iret X hr (by first | rfl | decide | rfl) dX1_isFartherTaken_115 ⟨rfl, _, rfl, by omega⟩
      · refine ne_lload_n X dX1_isFartherTaken_100 rfl ?_
        refine ne_ldc2 (z := 2) (by decide) nw_cX1_173 X dX1_isFartherTaken_101 ?_
        refine ne_lrem X dX1_isFartherTaken_104 (by omega) (by omega) (by omega) ?_
        refine ne_lconst (z := 0) (by decide) X dX1_isFartherTaken_105 ?_
        refine ne_lcif_eq (tgt := 114) X dX1_isFartherTaken_106 dX1_isFartherTaken_107 rfl (by omega) (by omega) (fun b107 => ?_) (fun b107 => ?_)
        · refine ne_iconst X dX1_isFartherTaken_114 ?_
          exact ne_iret X hr (by first | rfl | decide | rfl) dX1_isFartherTaken_115 ⟨rfl, _, rfl, by omega⟩
        · refine ne_iconst X dX1_isFartherTaken_110 ?_
          refine ne_goto (tgt := 115) X dX1_isFartherTaken_111 rfl ?_
          exact ne_iret X hr (by first | rfl | decide | rfl) dX1_isFartherTaken_115 ⟨rfl, _, rfl, by omega⟩
set_option maxRecDepth 100000 in
set_option maxHeartbeats 4000000 in
theorem me_X1_tenTo (l : Launch) (hl : l.stackTraces = false) (ws : ne_W) (a : Int) (ha : -20 ≤ a ∧ a ≤ 18) : ne_M l nw_cl (.code yX1_tenTo cX1_tenTo 4 (some .long)) nw_T yX1_tenTo 0 0 0 0 [ni a] ws (fun v w => w = ws ∧ ∃ z : Int, v = some (nl z) ∧ z = 10 ^ a.toNat ∧ 1 ≤ z ∧ (a ≤ 3 → z ≤ 1000) ∧ (a ≤ 5 → z ≤ 100000) ∧ (a ≤ 16 → z ≤ 10000000000000000)) (fun _ _ => False) := by
  refine ne_meet (own := RX1) hl rfl (by decide +kernel) (Nat.le_of_ble_eq_true rfl) ?_
  intro D ct A P9 V9 R9 S9 M9 as9 bl9 mt9 C9 ad0 X hr hin ht
  have lp4 : ∀ (n9 : Nat) (r j : Int), (18 - j).toNat < n9 → (0 ≤ j) → (j ≤ 18) → (j ≤ a ∨ j = 0) → (r = 10 ^ j.toNat) → ne_G nw_cl D ct A ws.length ad0 P9 l V9 R9 S9 M9 as9 bl9 mt9 C9 (ne_O nw_cl D ct ad0 ws.length A bl9 as9 S9 0 0 (fun v w => w = ws ∧ ∃ z : Int, v = some (nl z) ∧ z = 10 ^ a.toNat ∧ 1 ≤ z ∧ (a ≤ 3 → z ≤ 1000) ∧ (a ≤ 5 → z ≤ 100000) ∧ (a ≤ 16 → z ≤ 10000000000000000)) (fun _ _ => False)) 4 0 0 0 0 4 [some (ni a), some (nl r), none, some (ni j)] [] ws := by
    intro n9
    induction n9 with
    | zero => intro r j hm9 q1 q2 q3 q4; exfalso; omega
    | succ n9 ih =>
      intro r j hm9 q1 q2 q3 q4
      have q5 : (1 : Int) ≤ 10 ^ j.toNat ∧ (10 : Int) ^ j.toNat ≤ 1000000000000000000 := ne_p10 j.toNat (by omega)
      have q6 : (10 : Int) ^ (j + 1).toNat = 10 ^ j.toNat * 10 := by rw [show (j + 1).toNat = j.toNat + 1 by omega, Int.pow_succ]
      refine ne_iload_n X dX1_tenTo_4 rfl ?_
      refine ne_iload_n X dX1_tenTo_5 rfl ?_
      refine ne_icmp_ge (tgt := 27) X dX1_tenTo_6 rfl (by omega) (by omega) (fun b6 => ?_) (fun b6 => ?_)
      · refine ne_lload_n X dX1_tenTo_27 rfl ?_
        exact ne_lret X hr dX1_tenTo_28 ⟨rfl, _, rfl, by rw [q4]; congr 1; omega, by rw [q4]; exact (ne_p10 _ (by omega)).1, fun h => by rw [q4]; exact ne_p10r 3 _ (by omega), fun h => by rw [q4]; exact ne_p10r 5 _ (by omega), fun h => by rw [q4]; exact ne_p10r 16 _ (by omega)⟩
      · refine ne_iload_n X dX1_tenTo_9 rfl ?_
        refine ne_bipush (v := 18) (by decide) X dX1_tenTo_10 ?_
        refine ne_icmp_ge (tgt := 27) X dX1_tenTo_12 rfl (by omega) (by omega) (fun b12 => ?_) (fun b12 => ?_)
        · refine ne_lload_n X dX1_tenTo_27 rfl ?_
          exact ne_lret X hr dX1_tenTo_28 ⟨rfl, _, rfl, by rw [q4]; congr 1; omega, by rw [q4]; exact (ne_p10 _ (by omega)).1, fun h => by rw [q4]; exact ne_p10r 3 _ (by omega), fun h => by rw [q4]; exact ne_p10r 5 _ (by omega), fun h => by rw [q4]; exact ne_p10r 16 _ (by omega)⟩
        · refine ne_lload_n X dX1_tenTo_15 rfl ?_
          refine ne_ldc2 (z := 10) (by decide) nw_cX1_92 X dX1_tenTo_16 ?_
          refine ne_lmul X dX1_tenTo_19 ?_
          refine ne_lstore_n X dX1_tenTo_20 rfl (by decide) ?_
          refine ne_iinc X dX1_tenTo_21 rfl (by decide) ?_
          refine ne_ll (L' := [some (ni _), some (nl _), none, some (ni _)]) rfl ?_
          refine ne_goto (tgt := 4) X dX1_tenTo_24 rfl ?_
          exact ih _ _ (by omega) (by omega) (by omega) (by omega) (by rw [q6, q4])
  refine ne_lconst (z := 1) (by decide) X dX1_tenTo_0 ?_
  refine ne_lstore_n X dX1_tenTo_1 rfl (by decide) ?_
  refine ne_iconst X dX1_tenTo_2 ?_
  refine ne_istore_n X dX1_tenTo_3 rfl (by decide) ?_
  refine ne_ll (L' := [some (ni _), some (nl _), none, some (ni _)]) rfl ?_
  exact lp4 _ 1 0 (Nat.lt_succ_self _) (by omega) (by omega) (by omega) rfl
set_option maxRecDepth 100000 in
set_option maxHeartbeats 4000000 in
theorem me_X1_digitsIn (l : Launch) (hl : l.stackTraces = false) (ws : ne_W) (a : Int) (ha : -9000000000000000000 ≤ a ∧ a ≤ 9000000000000000000) : ne_M l nw_cl (.code yX1_digitsIn cX1_digitsIn 5 (some .int)) nw_T yX1_digitsIn 1 40 0 0 [nl a] ws (fun v w => w = ws ∧ ∃ z : Int, v = some (ni z) ∧ 1 ≤ z ∧ z ≤ 19) (fun _ _ => False) := by
  refine ne_meet (own := RX1) hl rfl (by decide +kernel) (Nat.le_of_ble_eq_true rfl) ?_
  intro D ct A P9 V9 R9 S9 M9 as9 bl9 mt9 C9 ad0 X hr hin ht
  have lp11 : ∀ (n9 : Nat) (d r : Int), (19 - d).toNat < n9 → (1 ≤ d) → (d ≤ 19) → (0 ≤ r) → (r ≤ 9000000000000000000) → ne_G nw_cl D ct A ws.length ad0 P9 l V9 R9 S9 M9 as9 bl9 mt9 C9 (ne_O nw_cl D ct ad0 ws.length A bl9 as9 S9 0 0 (fun v w => w = ws ∧ ∃ z : Int, v = some (ni z) ∧ 1 ≤ z ∧ z ≤ 19) (fun _ _ => False)) 5 0 0 0 0 11 [some (nl a), none, some (ni d), some (nl r), none] [] ws := by
    intro n9
    induction n9 with
    | zero => intro d r hm9 q1 q2 q3 q4; exfalso; omega
    | succ n9 ih =>
      intro d r hm9 q1 q2 q3 q4
      have q5 := ne_t10 r q3
      refine ne_lload_n X dX1_digitsIn_11 rfl ?_
      refine ne_lconst (z := 0) (by decide) X dX1_digitsIn_12 ?_
      refine ne_lcif_le (tgt := 35) X dX1_digitsIn_13 dX1_digitsIn_14 rfl (by omega) (by omega) (fun b14 => ?_) (fun b14 => ?_)
      · refine ne_iload_n X dX1_digitsIn_35 rfl ?_
        exact ne_iret X hr (by first | rfl | decide | rfl) dX1_digitsIn_36 ⟨rfl, _, rfl, by omega⟩
      · refine ne_iload_n X dX1_digitsIn_17 rfl ?_
        refine ne_bipush (v := 19) (by decide) X dX1_digitsIn_18 ?_
        refine ne_icmp_ge (tgt := 35) X dX1_digitsIn_20 rfl (by omega) (by omega) (fun b20 => ?_) (fun b20 => ?_)
        · refine ne_iload_n X dX1_digitsIn_35 rfl ?_
          exact ne_iret X hr (by first | rfl | decide | rfl) dX1_digitsIn_36 ⟨rfl, _, rfl, by omega⟩
        · refine ne_iinc X dX1_digitsIn_23 rfl (by decide) ?_
          refine ne_lload_n X dX1_digitsIn_26 rfl ?_
          refine ne_ldc2 (z := 10) (by decide) nw_cX1_92 X dX1_digitsIn_27 ?_
          refine ne_ldiv X dX1_digitsIn_30 (by omega) (by omega) (by omega) ?_
          refine ne_lstore_n X dX1_digitsIn_31 rfl (by decide) ?_
          refine ne_ll (L' := [some (nl _), none, some (ni _), some (nl _), none]) rfl ?_
          refine ne_goto (tgt := 11) X dX1_digitsIn_32 rfl ?_
          exact ih _ _ (by omega) (by omega) (by omega) (by omega) (by omega)
  refine ne_iconst X dX1_digitsIn_0 ?_
  refine ne_istore_n X dX1_digitsIn_1 rfl (by decide) ?_
  refine ne_lload_n X dX1_digitsIn_2 rfl ?_
  refine ne_mabsl X dX1_digitsIn_3 nw_mX1_250 nw_Ms_absl nw_Mi nw_Mc_absl (by decide) (Nat.le_of_ble_eq_true rfl) (by omega) ?_
  refine ne_topL (fun a3 e3 => ?_)
  have p3 : 0 ≤ a3 ∧ a3 ≤ 9000000000000000000 := by rw [e3]; split <;> omega
  have t3 := ne_t10 a3 p3.1
  refine ne_ldc2 (z := 10) (by decide) nw_cX1_92 X dX1_digitsIn_6 ?_
  refine ne_ldiv X dX1_digitsIn_9 (by omega) (by omega) (by omega) ?_
  refine ne_lstore_n X dX1_digitsIn_10 rfl (by decide) ?_
  refine ne_ll (L' := [some (nl _), none, some (ni _), some (nl _), none]) rfl ?_
  exact lp11 _ 1 _ (Nat.lt_succ_self _) (by omega) (by omega) (by omega) (by omega)
set_option maxRecDepth 100000 in
set_option maxHeartbeats 4000000 in
theorem me_X1_rounded (l : Launch) (hl : l.stackTraces = false) (ws : ne_W) (a b w0 : Int) (ha : -1000000000000000000 ≤ a ∧ a ≤ 1000000000000000000) (hb : -1000000000000000 ≤ b ∧ b ≤ 1000000000000000) (hw : -2147483648 ≤ w0 ∧ w0 < 2147483648) : ne_M l nw_cl (.code yX1_rounded cX1_rounded 9 (some .long)) nw_T yX1_rounded 2 80 0 0 [nl a, nl b, ni w0] ws (fun v w => w = ws ∧ ∃ z : Int, v = some (nl z) ∧ (z = -9000000000000000000 ∨ (-1000000000000000001 ≤ z ∧ z ≤ 1000000000000000001))) (fun _ _ => False) := by
  refine ne_meet (own := RX1) hl rfl (by decide +kernel) (Nat.le_of_ble_eq_true rfl) ?_
  intro D ct A P9 V9 R9 S9 M9 as9 bl9 mt9 C9 ad0 X hr hin ht
  refine ne_lload_n X dX1_rounded_0 rfl ?_
  refine ne_lconst (z := 1) (by decide) X dX1_rounded_1 ?_
  refine ne_lcif_ge (tgt := 10) X dX1_rounded_2 dX1_rounded_3 rfl (by omega) (by omega) (fun b3 => ?_) (fun b3 => ?_)
  · have t9 := ne_tdm a b (by omega)
    refine ne_lload_n X dX1_rounded_10 rfl ?_
    refine ne_lload_n X dX1_rounded_11 rfl ?_
    refine ne_ldiv X dX1_rounded_12 (by omega) (by omega) (by omega) ?_
    refine ne_lstore X dX1_rounded_13 (by decide) ?_
    refine ne_lload_n X dX1_rounded_15 rfl ?_
    refine ne_lload_n X dX1_rounded_16 rfl ?_
    refine ne_lrem X dX1_rounded_17 (by omega) (by omega) (by omega) ?_
    refine ne_mabsl X dX1_rounded_18 nw_mX1_250 nw_Ms_absl nw_Mi nw_Mc_absl (by decide) (Nat.le_of_ble_eq_true rfl) (by omega) ?_
    refine ne_topL (fun a18 e18 => ?_)
    have p18 : 0 ≤ a18 ∧ a18 < b := by rw [e18]; split <;> omega
    refine ne_lstore X dX1_rounded_21 (by decide) ?_
    refine ne_ll (L' := [some (nl _), none, some (nl _), none, some (ni _), some (nl _), none, some (nl _), none]) rfl ?_
    refine ne_lload X dX1_rounded_23 rfl ?_
    refine ne_lconst (z := 0) (by decide) X dX1_rounded_25 ?_
    refine ne_lcif_ne (tgt := 33) X dX1_rounded_26 dX1_rounded_27 rfl (by omega) (by omega) (fun b27 => ?_) (fun b27 => ?_)
    · refine ne_iload X dX1_rounded_33 rfl ?_
      refine ne_bipush (v := 7) (by decide) X dX1_rounded_35 ?_
      refine ne_icmp_ne (tgt := 44) X dX1_rounded_37 rfl (by omega) (by omega) (fun b37 => ?_) (fun b37 => ?_)
      · refine ne_lload_n X dX1_rounded_44 rfl ?_
        refine ne_lload X dX1_rounded_45 rfl ?_
        refine ne_ldc2 (z := 2) (by decide) nw_cX1_173 X dX1_rounded_47 ?_
        refine ne_lload X dX1_rounded_50 rfl ?_
        refine ne_lmul X dX1_rounded_52 ?_
        refine ne_lload_n X dX1_rounded_53 rfl ?_
        refine ne_lsub X dX1_rounded_54 ?_
        refine ne_callS X nw_Tg (me_X1_signOf l hl _ _ (by omega)) nw_yX1_signOf nw_mX1_117 nw_sX1_signOf dX1_rounded_55 rfl rfl (by decide) (by decide) (by first | decide | omega) (by first | decide | omega) (Nat.le_refl _) rfl rfl (Nat.le_of_ble_eq_true rfl) ?_ ?_
        rotate_left
        · rintro E9 w9 h9; exact h9.elim
        rintro v55 w55 ⟨rfl, z55, rfl, g55, k55, i55, j55⟩
        refine ne_iload X dX1_rounded_58 rfl ?_
        refine ne_callS X nw_Tg (me_X1_isFartherTaken l hl _ _ _ _ _ (by omega) (by omega) (by omega) (by omega)) nw_yX1_isFartherTaken nw_mX1_270 nw_sX1_isFartherTaken dX1_rounded_60 rfl rfl (by decide) (by decide) (by first | decide | omega) (by first | decide | omega) (Nat.le_refl _) rfl rfl (Nat.le_of_ble_eq_true rfl) ?_ ?_
        rotate_left
        · rintro E9 w9 h9; exact h9.elim
        rintro v60 w60 ⟨rfl, z60, rfl, g60, k60⟩
        refine ne_if_eq (tgt := 77) X dX1_rounded_63 rfl (by omega) (fun b63 => ?_) (fun b63 => ?_)
        · refine ne_lload X dX1_rounded_77 rfl ?_
          exact ne_lret X hr dX1_rounded_79 ⟨rfl, _, rfl, by omega⟩
        · refine ne_lload X dX1_rounded_66 rfl ?_
          refine ne_lload_n X dX1_rounded_68 rfl ?_
          refine ne_callS X nw_Tg (me_X1_signOf l hl _ _ (by omega)) nw_yX1_signOf nw_mX1_117 nw_sX1_signOf dX1_rounded_69 rfl rfl (by decide) (by decide) (by first | decide | omega) (by first | decide | omega) (Nat.le_refl _) rfl rfl (Nat.le_of_ble_eq_true rfl) ?_ ?_
          rotate_left
          · rintro E9 w9 h9; exact h9.elim
          rintro v69 w69 ⟨rfl, z69, rfl, g69, k69, i69, j69⟩
          refine ne_i2l (by omega) X dX1_rounded_72 ?_
          refine ne_ladd X dX1_rounded_73 ?_
          refine ne_goto (tgt := 79) X dX1_rounded_74 rfl ?_
          exact ne_lret X hr dX1_rounded_79 ⟨rfl, _, rfl, by omega⟩
      · refine ne_ldc2 (z := -9000000000000000000) (by decide) nw_cX1_105 X dX1_rounded_40 ?_
        exact ne_lret X hr dX1_rounded_43 ⟨rfl, _, rfl, by omega⟩
    · refine ne_lload X dX1_rounded_30 rfl ?_
      exact ne_lret X hr dX1_rounded_32 ⟨rfl, _, rfl, by omega⟩
  · refine ne_ldc2 (z := -9000000000000000000) (by decide) nw_cX1_105 X dX1_rounded_6 ?_
    exact ne_lret X hr dX1_rounded_9 ⟨rfl, _, rfl, by omega⟩
set_option maxRecDepth 100000 in
set_option maxHeartbeats 4000000 in
theorem me_X1_lengthOf (l : Launch) (hl : l.stackTraces = false) (ws : ne_W) (a b : Int) (ha : 0 ≤ a) (hab : a < b) (hb : b ≤ 99) : ne_M l nw_cl (.code yX1_lengthOf cX1_lengthOf 4 (some .int)) nw_T yX1_lengthOf 2 70 0 0 [ni a, ni b] ws (fun v w => w = ws ∧ ∃ z : Int, v = some (ni z) ∧ 1 ≤ z ∧ z ≤ 96 ∧ (∀ k : Nat, 0 < k → (k : Int) < z → ne_rs a b k ≠ a) ∧ (ne_rs a b z.toNat = a ∨ z = 96)) (fun _ _ => False) := by
  refine ne_meet (own := RX1) hl rfl (by decide +kernel) (Nat.le_of_ble_eq_true rfl) ?_
  intro D ct A P9 V9 R9 S9 M9 as9 bl9 mt9 C9 ad0 X hr hin ht
  have lp8 : ∀ (n9 : Nat) (r j : Int), (96 - j).toNat < n9 → (1 ≤ j) → (j ≤ 96) → (r = ne_rs a b j.toNat) → (∀ k : Nat, 0 < k → (k : Int) < j → ne_rs a b k ≠ a) → ne_G nw_cl D ct A ws.length ad0 P9 l V9 R9 S9 M9 as9 bl9 mt9 C9 (ne_O nw_cl D ct ad0 ws.length A bl9 as9 S9 0 0 (fun v w => w = ws ∧ ∃ z : Int, v = some (ni z) ∧ 1 ≤ z ∧ z ≤ 96 ∧ (∀ k : Nat, 0 < k → (k : Int) < z → ne_rs a b k ≠ a) ∧ (ne_rs a b z.toNat = a ∨ z = 96)) (fun _ _ => False)) 4 0 0 0 0 8 [some (ni a), some (ni b), some (ni r), some (ni j)] [] ws := by
    intro n9
    induction n9 with
    | zero => intro r j hm9 q1 q2 q3 q4; exfalso; omega
    | succ n9 ih =>
      intro r j hm9 q1 q2 q3 q4
      have q5 := ne_rs_in a b ha hab j.toNat
      have q6 : ne_rs a b (j + 1).toNat = (10 * ne_rs a b j.toNat).tmod b := by rw [show (j + 1).toNat = j.toNat + 1 by omega]; rfl
      refine ne_iload_n X dX1_lengthOf_8 rfl ?_
      refine ne_iload_n X dX1_lengthOf_9 rfl ?_
      refine ne_icmp_eq (tgt := 31) X dX1_lengthOf_10 rfl (by omega) (by omega) (fun b10 => ?_) (fun b10 => ?_)
      · refine ne_iload_n X dX1_lengthOf_31 rfl ?_
        exact ne_iret X hr (by first | rfl | decide | rfl) dX1_lengthOf_32 ⟨rfl, _, rfl, q1, q2, q4, by first | (left; rw [← q3]; assumption) | (right; omega)⟩
      · refine ne_iload_n X dX1_lengthOf_13 rfl ?_
        refine ne_bipush (v := 96) (by decide) X dX1_lengthOf_14 ?_
        refine ne_icmp_ge (tgt := 31) X dX1_lengthOf_16 rfl (by omega) (by omega) (fun b16 => ?_) (fun b16 => ?_)
        · refine ne_iload_n X dX1_lengthOf_31 rfl ?_
          exact ne_iret X hr (by first | rfl | decide | rfl) dX1_lengthOf_32 ⟨rfl, _, rfl, q1, q2, q4, by first | (left; rw [← q3]; assumption) | (right; omega)⟩
        · refine ne_iload_n X dX1_lengthOf_19 rfl ?_
          refine ne_iload_n X dX1_lengthOf_20 rfl ?_
          refine ne_callS X nw_Tg (me_X1_restAfter l hl _ _ _ (by omega) (by omega) (by omega)) nw_yX1_restAfter nw_mX1_189 nw_sX1_restAfter dX1_lengthOf_21 rfl rfl (by decide) (by decide) (by first | decide | omega) (by first | decide | omega) (Nat.le_refl _) rfl rfl (Nat.le_of_ble_eq_true rfl) ?_ ?_
          rotate_left
          · rintro E9 w9 h9; exact h9.elim
          rintro v21 w21 ⟨rfl, z21, rfl, g21, k21, i21⟩
          refine ne_istore_n X dX1_lengthOf_24 rfl (by decide) ?_
          refine ne_iinc X dX1_lengthOf_25 rfl (by decide) ?_
          refine ne_ll (L' := [some (ni _), some (ni _), some (ni _), some (ni _)]) rfl ?_
          refine ne_goto (tgt := 8) X dX1_lengthOf_28 rfl ?_
          refine ih _ _ (by omega) (by omega) (by omega) (by rw [q6, ← q3]; assumption) (fun k h1 h2 => ?_)
          rcases (show (k : Int) < j ∨ k = j.toNat by omega) with h3 | h3
          · exact q4 k h1 h3
          · rw [h3, ← q3]; assumption
  refine ne_iload_n X dX1_lengthOf_0 rfl ?_
  refine ne_iload_n X dX1_lengthOf_1 rfl ?_
  refine ne_callS X nw_Tg (me_X1_restAfter l hl _ _ _ (by omega) (by omega) (by omega)) nw_yX1_restAfter nw_mX1_189 nw_sX1_restAfter dX1_lengthOf_2 rfl rfl (by decide) (by decide) (by first | decide | omega) (by first | decide | omega) (Nat.le_refl _) rfl rfl (Nat.le_of_ble_eq_true rfl) ?_ ?_
  rotate_left
  · rintro E9 w9 h9; exact h9.elim
  rintro v2 w2 ⟨rfl, z2, rfl, g2, k2, i2⟩
  refine ne_istore_n X dX1_lengthOf_5 rfl (by decide) ?_
  refine ne_iconst X dX1_lengthOf_6 ?_
  refine ne_istore_n X dX1_lengthOf_7 rfl (by decide) ?_
  refine ne_ll (L' := [some (ni _), some (ni _), some (ni _), some (ni _)]) rfl ?_
  exact lp8 _ _ 1 (Nat.lt_succ_self _) (by omega) (by omega) (by assumption) (fun k h1 h2 => by omega)
