set_option maxRecDepth 100000 in
set_option maxHeartbeats 4000000 in
theorem me_X1_requireBetweenS (l : Launch) (hl : l.stackTraces = false) (ws : ne_W) (a lo hi : Int) (ha : -2147483648 ≤ a ∧ a < 2147483648) (h1 : -9223372036854775808 ≤ lo ∧ lo < 9223372036854775808) (h2 : -9223372036854775808 ≤ hi ∧ hi < 9223372036854775808) : ne_M l nw_cl (.code yX1_requireBetween cX1_requireBetween 5 (none)) nw_T yX1_requireBetween 6 90 1 6 [ni a, nl lo, nl hi] ws (fun v w => w = ws ∧ v = none ∧ lo ≤ a ∧ a ≤ hi) (fun E w => w = ws ∧ E = "java/lang/IllegalArgumentException" ∧ (a < lo ∨ hi < a)) := by
  refine ne_meet (own := RX1) hl rfl (by decide +kernel) (Nat.le_of_ble_eq_true rfl) ?_
  intro D ct A P9 V9 R9 S9 M9 as9 bl9 mt9 C9 ad0 X hr hin ht
  refine ne_iload_n X dX1_requireBetween_0 rfl ?_
  refine ne_i2l (by omega) X dX1_requireBetween_1 ?_
  refine ne_lload_n X dX1_requireBetween_2 rfl ?_
  refine ne_lcif_lt (tgt := 14) X dX1_requireBetween_3 dX1_requireBetween_4 rfl (by omega) (by omega) (fun b4 => ?_) (fun b4 => ?_)
  · exact ne_throw (cls := "java/lang/IllegalArgumentException") (text := "an argument is out of its bounds") (names := ["java/lang/RuntimeException", "java/lang/Exception"]) X X.1.2.2.2.2 (by decide +kernel) (by decide +kernel) nw_qX1_241 nw_inA (by decide +kernel) nw_xA1 (by decide +kernel) nw_xA2 nw_xA3 ht dX1_requireBetween_14 dX1_requireBetween_17 dX1_requireBetween_18 dX1_requireBetween_20 dX1_requireBetween_23 (by decide) (Nat.le_of_ble_eq_true rfl) (by decide) (by decide) ⟨rfl, rfl, by omega⟩
  · refine ne_iload_n X dX1_requireBetween_7 rfl ?_
    refine ne_i2l (by omega) X dX1_requireBetween_8 ?_
    refine ne_lload_n X dX1_requireBetween_9 rfl ?_
    refine ne_lcif_le (tgt := 24) X dX1_requireBetween_10 dX1_requireBetween_11 rfl (by omega) (by omega) (fun b11 => ?_) (fun b11 => ?_)
    · exact ne_vret X hr dX1_requireBetween_24 ⟨rfl, rfl, by omega⟩
    · exact ne_throw (cls := "java/lang/IllegalArgumentException") (text := "an argument is out of its bounds") (names := ["java/lang/RuntimeException", "java/lang/Exception"]) X X.1.2.2.2.2 (by decide +kernel) (by decide +kernel) nw_qX1_241 nw_inA (by decide +kernel) nw_xA1 (by decide +kernel) nw_xA2 nw_xA3 ht dX1_requireBetween_14 dX1_requireBetween_17 dX1_requireBetween_18 dX1_requireBetween_20 dX1_requireBetween_23 (by decide) (Nat.le_of_ble_eq_true rfl) (by decide) (by decide) ⟨rfl, rfl, by omega⟩
set_option maxRecDepth 100000 in
set_option maxHeartbeats 4000000 in
theorem me_X1_requireBottomS (l : Launch) (hl : l.stackTraces = false) (ws : ne_W) (a : Int) (ha : -2147483648 ≤ a ∧ a < 2147483648) : ne_M l nw_cl (.code yX1_requireBottom cX1_requireBottom 1 (none)) nw_T yX1_requireBottom 7 130 2 12 [ni a] ws (fun v w => w = ws ∧ v = none ∧ 1 ≤ a ∧ a ≤ 99 ∧ a.tmod 2 ≠ 0 ∧ a.tmod 5 ≠ 0) (fun E w => w = ws ∧ E = "java/lang/IllegalArgumentException" ∧ (a < 1 ∨ 99 < a ∨ a.tmod 2 = 0 ∨ a.tmod 5 = 0)) := by
  refine ne_meet (own := RX1) hl rfl (by decide +kernel) (Nat.le_of_ble_eq_true rfl) ?_
  intro D ct A P9 V9 R9 S9 M9 as9 bl9 mt9 C9 ad0 X hr hin ht
  have t2 := tmod_bounds (a := a) (M := 2) (by decide)
  have t5 := tmod_bounds (a := a) (M := 5) (by decide)
  refine ne_iload_n X dX1_requireBottom_0 rfl ?_
  refine ne_lconst (z := 1) (by decide) X dX1_requireBottom_1 ?_
  refine ne_ldc2 (z := 99) (by decide) nw_cX1_90 X dX1_requireBottom_2 ?_
  refine ne_callS X nw_Tg (me_X1_requireBetweenS l hl _ _ _ _ (by omega) (by omega) (by omega)) nw_yX1_requireBetween nw_mX1_49 nw_sX1_requireBetween dX1_requireBottom_5 rfl rfl (by decide) (by decide) (by first | decide | omega) (by first | decide | omega) (Nat.le_refl _) rfl rfl (Nat.le_of_ble_eq_true rfl) ?_ ?_
  rotate_left
  · rintro E9 w9 h9; exact ne_out X ht (by obtain ⟨rfl, rfl, h9⟩ := h9; exact ⟨rfl, rfl, by omega⟩)
  rintro v5 w5 ⟨rfl, rfl, g5, k5⟩
  refine ne_iload_n X dX1_requireBottom_8 rfl ?_
  refine ne_iconst X dX1_requireBottom_9 ?_
  refine ne_irem X dX1_requireBottom_10 (by omega) (by omega) (by omega) ?_
  refine ne_if_eq (tgt := 20) X dX1_requireBottom_11 rfl (by omega) (fun b11 => ?_) (fun b11 => ?_)
  · exact ne_throw (cls := "java/lang/IllegalArgumentException") (text := "a bottom is divided by 2 or by 5") (names := ["java/lang/RuntimeException", "java/lang/Exception"]) X X.1.2.2.2.2 (by decide +kernel) (by decide +kernel) nw_qX1_241 nw_inA (by decide +kernel) nw_xA1 (by decide +kernel) nw_xA2 nw_xA3 ht dX1_requireBottom_20 dX1_requireBottom_23 dX1_requireBottom_24 dX1_requireBottom_26 dX1_requireBottom_29 (by decide) (Nat.le_of_ble_eq_true rfl) (by decide) (by decide) ⟨rfl, rfl, by omega⟩
  · refine ne_iload_n X dX1_requireBottom_14 rfl ?_
    refine ne_iconst X dX1_requireBottom_15 ?_
    refine ne_irem X dX1_requireBottom_16 (by omega) (by omega) (by omega) ?_
    refine ne_if_ne (tgt := 30) X dX1_requireBottom_17 rfl (by omega) (fun b17 => ?_) (fun b17 => ?_)
    · exact ne_vret X hr dX1_requireBottom_30 ⟨rfl, rfl, by omega⟩
    · exact ne_throw (cls := "java/lang/IllegalArgumentException") (text := "a bottom is divided by 2 or by 5") (names := ["java/lang/RuntimeException", "java/lang/Exception"]) X X.1.2.2.2.2 (by decide +kernel) (by decide +kernel) nw_qX1_241 nw_inA (by decide +kernel) nw_xA1 (by decide +kernel) nw_xA2 nw_xA3 ht dX1_requireBottom_20 dX1_requireBottom_23 dX1_requireBottom_24 dX1_requireBottom_26 dX1_requireBottom_29 (by decide) (Nat.le_of_ble_eq_true rfl) (by decide) (by decide) ⟨rfl, rfl, by omega⟩
set_option maxRecDepth 100000 in
set_option maxHeartbeats 4000000 in
theorem me_X1_tensS (l : Launch) (hl : l.stackTraces = false) (c q t b k n h x y : Nat → Int) (T : Int) (hI : cI c q t b k n h x y T) (hT : 0 ≤ T ∧ T ≤ 1000) (a : Int) (ha : -2147483648 ≤ a ∧ a < 2147483648) : ne_M l nw_cl (.code yX1_tens cX1_tens 2 (some .int)) nw_T yX1_tens 9 330 8 48 [.ref 0, ni a] (cW c q t b k n h x y) (fun v w => w = cW c q t b k n h x y ∧ ∃ z : Int, v = some (ni z) ∧ (1 ≤ a ∧ a ≤ 99 ∧ a.tmod 2 ≠ 0 ∧ a.tmod 5 ≠ 0) ∧ 1 ≤ z ∧ z ≤ 96 ∧ (∀ m : Nat, 0 < m → (m : Int) < z → ne_rs ((1 : Int).tmod a) a m ≠ (1 : Int).tmod a) ∧ (ne_rs ((1 : Int).tmod a) a z.toNat = (1 : Int).tmod a ∨ z = 96)) (fun E w => w = cW c q t b k n h x y ∧ E = "java/lang/IllegalArgumentException" ∧ (a < 1 ∨ 99 < a ∨ a.tmod 2 = 0 ∨ a.tmod 5 = 0)) := by
  refine ne_meet (own := RX1) hl rfl (by decide +kernel) (Nat.le_of_ble_eq_true rfl) ?_
  intro D ct A P9 V9 R9 S9 M9 as9 bl9 mt9 C9 ad0 X hr hin ht
  obtain ⟨Ic, Iq, It, Ib, Itb, Ik, In, Ih, Ix, Iy⟩ := hI
  refine ne_iload_n X dX1_tens_0 rfl ?_
  refine ne_callS X nw_Tg (me_X1_requireBottomS l hl _ _ (by omega)) nw_yX1_requireBottom nw_mX1_128 nw_sX1_requireBottom dX1_tens_1 rfl rfl (by decide) (by decide) (by first | decide | omega) (by first | decide | omega) (Nat.le_of_ble_eq_true rfl) rfl rfl (Nat.le_of_ble_eq_true rfl) ?_ ?_
  rotate_left
  · rintro E9 w9 h9; exact ne_out X ht (by obtain ⟨rfl, rfl, h9⟩ := h9; exact ⟨rfl, rfl, h9⟩)
  rintro v1 w1 ⟨rfl, rfl, g1, k1, i1, j1⟩
  refine ne_iconst X dX1_tens_4 ?_
  refine ne_iload_n X dX1_tens_5 rfl ?_
  refine ne_callS X nw_Tg (me_X1_leftover l hl _ _ _ (by omega) (by omega)) nw_yX1_leftover nw_mX1_147 nw_sX1_leftover dX1_tens_6 rfl rfl (by decide) (by decide) (by first | decide | omega) (by first | decide | omega) (Nat.le_of_ble_eq_true rfl) rfl rfl (Nat.le_of_ble_eq_true rfl) ?_ ?_
  rotate_left
  · rintro E9 w9 h9; exact h9.elim
  rintro v6 w6 ⟨rfl, z6, rfl, g6⟩
  have t6 := (ne_tdm 1 a (by omega)).1 (by omega)
  obtain rfl : z6 = (1 : Int).tmod a := by omega
  refine ne_iload_n X dX1_tens_9 rfl ?_
  refine ne_callS X nw_Tg (me_X1_lengthOf l hl _ _ _ (by omega) (by omega) (by omega)) nw_yX1_lengthOf nw_mX1_155 nw_sX1_lengthOf dX1_tens_10 rfl rfl (by decide) (by decide) (by first | decide | omega) (by first | decide | omega) (Nat.le_of_ble_eq_true rfl) rfl rfl (Nat.le_of_ble_eq_true rfl) ?_ ?_
  rotate_left
  · rintro E9 w9 h9; exact h9.elim
  rintro v10 w10 ⟨rfl, z10, rfl, g10, k10, i10, j10⟩
  exact ne_iret X hr (by first | rfl | decide | rfl) dX1_tens_13 ⟨rfl, _, rfl, ⟨by omega, by omega, i1, j1⟩, by omega, by omega, i10, j10⟩
set_option maxRecDepth 100000 in
set_option maxHeartbeats 4000000 in
theorem me_X1_countS (l : Launch) (hl : l.stackTraces = false) (c q t b k n h x y : Nat → Int) (T : Int) (hI : cI c q t b k n h x y T) (hT : 0 ≤ T ∧ T ≤ 1000) (i : Int) (hi : -2147483648 ≤ i ∧ i < 2147483648)  : ne_M l nw_cl (.code yX1_count cX1_count 2 (some .int)) nw_T yX1_count 9 330 8 48 [.ref 0, ni i] (cW c q t b k n h x y) (fun v w => (∃ x1 y1, w = cW c q t b k n h x1 y1 ∧ cI c q t b k n h x1 y1 (T + 1)) ∧ ∃ z : Int, v = some (ni z) ∧ True) (fun E w => w = cW c q t b k n h x y ∧ E = "java/lang/IndexOutOfBoundsException") := by
  refine ne_meet (own := RX1) hl rfl (by decide +kernel) (Nat.le_of_ble_eq_true rfl) ?_
  intro D ct A P9 V9 R9 S9 M9 as9 bl9 mt9 C9 ad0 X hr hin ht
  obtain ⟨Ic, Iq, It, Ib, Itb, Ik, In, Ih, Ix, Iy⟩ := hI
  refine ne_iload_n X dX1_count_0 rfl ?_
  refine ne_callS X nw_Tg (me_X1_requireCell l hl _ _ (by omega)) nw_yX1_requireCell nw_mX1_41 nw_sX1_requireCell dX1_count_1 rfl rfl (by decide) (by decide) (by first | decide | omega) (by first | decide | omega) (Nat.le_of_ble_eq_true rfl) rfl rfl (Nat.le_of_ble_eq_true rfl) ?_ ?_
  rotate_left
  · rintro E9 w9 h9; exact ne_out X ht (by obtain ⟨rfl, rfl⟩ := h9; exact ⟨rfl, rfl⟩)
  rintro v1 w1 ⟨rfl, rfl, g1, k1⟩
  refine ne_aload_n X dX1_count_4 rfl ?_
  refine ne_getf X dX1_count_5 nw_fX1_9 rfl rfl ?_
  refine ne_iload_n X dX1_count_8 rfl ?_
  refine ne_ialdR X dX1_count_9 rfl (by omega) Ic (fun v9 e9 f9 u9 => ?_)
  exact ne_iret X hr (by first | rfl | decide | rfl) dX1_count_10 ⟨⟨_, _, rfl, Ic, Iq, It, Ib, Itb, Ik, In, ne_rg_mono Ih (by omega) (by omega), Ix, Iy⟩, _, rfl, trivial⟩
set_option maxRecDepth 100000 in
set_option maxHeartbeats 4000000 in
theorem me_X1_placesS (l : Launch) (hl : l.stackTraces = false) (c q t b k n h x y : Nat → Int) (T : Int) (hI : cI c q t b k n h x y T) (hT : 0 ≤ T ∧ T ≤ 1000) (i : Int) (hi : -2147483648 ≤ i ∧ i < 2147483648)  : ne_M l nw_cl (.code yX1_places cX1_places 2 (some .int)) nw_T yX1_places 9 330 8 48 [.ref 0, ni i] (cW c q t b k n h x y) (fun v w => (∃ x1 y1, w = cW c q t b k n h x1 y1 ∧ cI c q t b k n h x1 y1 (T + 1)) ∧ ∃ z : Int, v = some (ni z) ∧ True) (fun E w => w = cW c q t b k n h x y ∧ E = "java/lang/IndexOutOfBoundsException") := by
  refine ne_meet (own := RX1) hl rfl (by decide +kernel) (Nat.le_of_ble_eq_true rfl) ?_
  intro D ct A P9 V9 R9 S9 M9 as9 bl9 mt9 C9 ad0 X hr hin ht
  obtain ⟨Ic, Iq, It, Ib, Itb, Ik, In, Ih, Ix, Iy⟩ := hI
  refine ne_iload_n X dX1_places_0 rfl ?_
  refine ne_callS X nw_Tg (me_X1_requireCell l hl _ _ (by omega)) nw_yX1_requireCell nw_mX1_41 nw_sX1_requireCell dX1_places_1 rfl rfl (by decide) (by decide) (by first | decide | omega) (by first | decide | omega) (Nat.le_of_ble_eq_true rfl) rfl rfl (Nat.le_of_ble_eq_true rfl) ?_ ?_
  rotate_left
  · rintro E9 w9 h9; exact ne_out X ht (by obtain ⟨rfl, rfl⟩ := h9; exact ⟨rfl, rfl⟩)
  rintro v1 w1 ⟨rfl, rfl, g1, k1⟩
  refine ne_aload_n X dX1_places_4 rfl ?_
  refine ne_getf X dX1_places_5 nw_fX1_13 rfl rfl ?_
  refine ne_iload_n X dX1_places_8 rfl ?_
  refine ne_ialdR X dX1_places_9 rfl (by omega) Iq (fun v9 e9 f9 u9 => ?_)
  exact ne_iret X hr (by first | rfl | decide | rfl) dX1_places_10 ⟨⟨_, _, rfl, Ic, Iq, It, Ib, Itb, Ik, In, ne_rg_mono Ih (by omega) (by omega), Ix, Iy⟩, _, rfl, trivial⟩
set_option maxRecDepth 100000 in
set_option maxHeartbeats 4000000 in
theorem me_X1_digitsS (l : Launch) (hl : l.stackTraces = false) (c q t b k n h x y : Nat → Int) (T : Int) (hI : cI c q t b k n h x y T) (hT : 0 ≤ T ∧ T ≤ 1000) (i : Int) (hi : -2147483648 ≤ i ∧ i < 2147483648)  : ne_M l nw_cl (.code yX1_digits cX1_digits 2 (some .int)) nw_T yX1_digits 9 330 8 48 [.ref 0, ni i] (cW c q t b k n h x y) (fun v w => (∃ x1 y1, w = cW c q t b k n h x1 y1 ∧ cI c q t b k n h x1 y1 (T + 1)) ∧ ∃ z : Int, v = some (ni z) ∧ True) (fun E w => w = cW c q t b k n h x y ∧ E = "java/lang/IndexOutOfBoundsException") := by
  refine ne_meet (own := RX1) hl rfl (by decide +kernel) (Nat.le_of_ble_eq_true rfl) ?_
  intro D ct A P9 V9 R9 S9 M9 as9 bl9 mt9 C9 ad0 X hr hin ht
  obtain ⟨Ic, Iq, It, Ib, Itb, Ik, In, Ih, Ix, Iy⟩ := hI
  refine ne_iload_n X dX1_digits_0 rfl ?_
  refine ne_callS X nw_Tg (me_X1_requireCell l hl _ _ (by omega)) nw_yX1_requireCell nw_mX1_41 nw_sX1_requireCell dX1_digits_1 rfl rfl (by decide) (by decide) (by first | decide | omega) (by first | decide | omega) (Nat.le_of_ble_eq_true rfl) rfl rfl (Nat.le_of_ble_eq_true rfl) ?_ ?_
  rotate_left
  · rintro E9 w9 h9; exact ne_out X ht (by obtain ⟨rfl, rfl⟩ := h9; exact ⟨rfl, rfl⟩)
  rintro v1 w1 ⟨rfl, rfl, g1, k1⟩
  refine ne_aload_n X dX1_digits_4 rfl ?_
  refine ne_getf X dX1_digits_5 nw_fX1_9 rfl rfl ?_
  refine ne_iload_n X dX1_digits_8 rfl ?_
  refine ne_ialdR X dX1_digits_9 rfl (by omega) Ic (fun v9 e9 f9 u9 => ?_)
  refine ne_i2l (by omega) X dX1_digits_10 ?_
  refine ne_callS X nw_Tg (me_X1_digitsIn l hl _ _ (by omega)) nw_yX1_digitsIn nw_mX1_101 nw_sX1_digitsIn dX1_digits_11 rfl rfl (by decide) (by decide) (by first | decide | omega) (by first | decide | omega) (Nat.le_of_ble_eq_true rfl) rfl rfl (Nat.le_of_ble_eq_true rfl) ?_ ?_
  rotate_left
  · rintro E9 w9 h9; exact h9.elim
  rintro v11 w11 ⟨rfl, z11, rfl, g11, k11⟩
  exact ne_iret X hr (by first | rfl | decide | rfl) dX1_digits_14 ⟨⟨_, _, rfl, Ic, Iq, It, Ib, Itb, Ik, In, ne_rg_mono Ih (by omega) (by omega), Ix, Iy⟩, _, rfl, trivial⟩
set_option maxRecDepth 100000 in
set_option maxHeartbeats 4000000 in
theorem me_X1_signS (l : Launch) (hl : l.stackTraces = false) (c q t b k n h x y : Nat → Int) (T : Int) (hI : cI c q t b k n h x y T) (hT : 0 ≤ T ∧ T ≤ 1000) (i : Int) (hi : -2147483648 ≤ i ∧ i < 2147483648)  : ne_M l nw_cl (.code yX1_sign cX1_sign 2 (some .int)) nw_T yX1_sign 9 330 8 48 [.ref 0, ni i] (cW c q t b k n h x y) (fun v w => (∃ x1 y1, w = cW c q t b k n h x1 y1 ∧ cI c q t b k n h x1 y1 (T + 1)) ∧ ∃ z : Int, v = some (ni z) ∧ True) (fun E w => w = cW c q t b k n h x y ∧ E = "java/lang/IndexOutOfBoundsException") := by
  refine ne_meet (own := RX1) hl rfl (by decide +kernel) (Nat.le_of_ble_eq_true rfl) ?_
  intro D ct A P9 V9 R9 S9 M9 as9 bl9 mt9 C9 ad0 X hr hin ht
  obtain ⟨Ic, Iq, It, Ib, Itb, Ik, In, Ih, Ix, Iy⟩ := hI
  refine ne_iload_n X dX1_sign_0 rfl ?_
  refine ne_callS X nw_Tg (me_X1_requireCell l hl _ _ (by omega)) nw_yX1_requireCell nw_mX1_41 nw_sX1_requireCell dX1_sign_1 rfl rfl (by decide) (by decide) (by first | decide | omega) (by first | decide | omega) (Nat.le_of_ble_eq_true rfl) rfl rfl (Nat.le_of_ble_eq_true rfl) ?_ ?_
  rotate_left
  · rintro E9 w9 h9; exact ne_out X ht (by obtain ⟨rfl, rfl⟩ := h9; exact ⟨rfl, rfl⟩)
  rintro v1 w1 ⟨rfl, rfl, g1, k1⟩
  refine ne_aload_n X dX1_sign_4 rfl ?_
  refine ne_getf X dX1_sign_5 nw_fX1_9 rfl rfl ?_
  refine ne_iload_n X dX1_sign_8 rfl ?_
  refine ne_ialdR X dX1_sign_9 rfl (by omega) Ic (fun v9 e9 f9 u9 => ?_)
  refine ne_i2l (by omega) X dX1_sign_10 ?_
  refine ne_callS X nw_Tg (me_X1_signOf l hl _ _ (by omega)) nw_yX1_signOf nw_mX1_117 nw_sX1_signOf dX1_sign_11 rfl rfl (by decide) (by decide) (by first | decide | omega) (by first | decide | omega) (Nat.le_of_ble_eq_true rfl) rfl rfl (Nat.le_of_ble_eq_true rfl) ?_ ?_
  rotate_left
  · rintro E9 w9 h9; exact h9.elim
  rintro v11 w11 ⟨rfl, z11, rfl, g11, k11, i11, j11⟩
  exact ne_iret X hr (by first | rfl | decide | rfl) dX1_sign_14 ⟨⟨_, _, rfl, Ic, Iq, It, Ib, Itb, Ik, In, ne_rg_mono Ih (by omega) (by omega), Ix, Iy⟩, _, rfl, trivial⟩
set_option maxRecDepth 100000 in
set_option maxHeartbeats 4000000 in
theorem me_X1_orderS (l : Launch) (hl : l.stackTraces = false) (c q t b k n h x y : Nat → Int) (T : Int) (hI : cI c q t b k n h x y T) (hT : 0 ≤ T ∧ T ≤ 1000) (i : Int) (j : Int) (hi : -2147483648 ≤ i ∧ i < 2147483648) (hj : -2147483648 ≤ j ∧ j < 2147483648)  : ne_M l nw_cl (.code yX1_order cX1_order 3 (some .int)) nw_T yX1_order 9 330 8 48 [.ref 0, ni i, ni j] (cW c q t b k n h x y) (fun v w => (∃ x1 y1, w = cW c q t b k n h x1 y1 ∧ cI c q t b k n h x1 y1 (T + 1)) ∧ ∃ z : Int, v = some (ni z) ∧ True) (fun E w => w = cW c q t b k n h x y ∧ E = "java/lang/IndexOutOfBoundsException") := by
  refine ne_meet (own := RX1) hl rfl (by decide +kernel) (Nat.le_of_ble_eq_true rfl) ?_
  intro D ct A P9 V9 R9 S9 M9 as9 bl9 mt9 C9 ad0 X hr hin ht
  obtain ⟨Ic, Iq, It, Ib, Itb, Ik, In, Ih, Ix, Iy⟩ := hI
  refine ne_iload_n X dX1_order_0 rfl ?_
  refine ne_callS X nw_Tg (me_X1_requireCell l hl _ _ (by omega)) nw_yX1_requireCell nw_mX1_41 nw_sX1_requireCell dX1_order_1 rfl rfl (by decide) (by decide) (by first | decide | omega) (by first | decide | omega) (Nat.le_of_ble_eq_true rfl) rfl rfl (Nat.le_of_ble_eq_true rfl) ?_ ?_
  rotate_left
  · rintro E9 w9 h9; exact ne_out X ht (by obtain ⟨rfl, rfl⟩ := h9; exact ⟨rfl, rfl⟩)
  rintro v1 w1 ⟨rfl, rfl, g1, k1⟩
  refine ne_iload_n X dX1_order_4 rfl ?_
  refine ne_callS X nw_Tg (me_X1_requireCell l hl _ _ (by omega)) nw_yX1_requireCell nw_mX1_41 nw_sX1_requireCell dX1_order_5 rfl rfl (by decide) (by decide) (by first | decide | omega) (by first | decide | omega) (Nat.le_of_ble_eq_true rfl) rfl rfl (Nat.le_of_ble_eq_true rfl) ?_ ?_
  rotate_left
  · rintro E9 w9 h9; exact ne_out X ht (by obtain ⟨rfl, rfl⟩ := h9; exact ⟨rfl, rfl⟩)
  rintro v5 w5 ⟨rfl, rfl, g5, k5⟩
  refine ne_aload_n X dX1_order_8 rfl ?_
  refine ne_iload_n X dX1_order_9 rfl ?_
  refine ne_iload_n X dX1_order_10 rfl ?_
  refine ne_callV X nw_Tg (me_X1_orderOfCells l hl c q t b k n h x y T (by exact ⟨Ic, Iq, It, Ib, Itb, Ik, In, Ih, Ix, Iy⟩) (by omega) _ _ (by omega) (by omega)) nw_yX1_orderOfCells nw_mX1_107 nw_iX1_orderOfCells nw_eX1_orderOfCells (ci := 3) rfl rfl rfl dX1_order_11 rfl rfl (by decide) (by decide) (by first | decide | omega) (by first | decide | omega) (Nat.le_of_ble_eq_true rfl) rfl rfl (Nat.le_of_ble_eq_true rfl) ?_ ?_
  rotate_left
  · rintro E9 w9 h9; exact h9.elim
  rintro v11 w11 ⟨rfl, z11, rfl, g11, k11, i11, j11⟩
  exact ne_iret X hr (by first | rfl | decide | rfl) dX1_order_14 ⟨⟨_, _, rfl, Ic, Iq, It, Ib, Itb, Ik, In, ne_rg_mono Ih (by omega) (by omega), Ix, Iy⟩, _, rfl, trivial⟩
set_option maxRecDepth 100000 in
set_option maxHeartbeats 4000000 in
theorem me_X1_sameS (l : Launch) (hl : l.stackTraces = false) (c q t b k n h x y : Nat → Int) (T : Int) (hI : cI c q t b k n h x y T) (hT : 0 ≤ T ∧ T ≤ 1000) (i : Int) (j : Int) (hi : -2147483648 ≤ i ∧ i < 2147483648) (hj : -2147483648 ≤ j ∧ j < 2147483648)  : ne_M l nw_cl (.code yX1_same cX1_same 3 (some .boolean)) nw_T yX1_same 9 330 8 48 [.ref 0, ni i, ni j] (cW c q t b k n h x y) (fun v w => (∃ x1 y1, w = cW c q t b k n h x1 y1 ∧ cI c q t b k n h x1 y1 (T + 1)) ∧ ∃ z : Int, v = some (ni z) ∧ 0 ≤ z ∧ z ≤ 1) (fun E w => w = cW c q t b k n h x y ∧ E = "java/lang/IndexOutOfBoundsException") := by
  refine ne_meet (own := RX1) hl rfl (by decide +kernel) (Nat.le_of_ble_eq_true rfl) ?_
  intro D ct A P9 V9 R9 S9 M9 as9 bl9 mt9 C9 ad0 X hr hin ht
  obtain ⟨Ic, Iq, It, Ib, Itb, Ik, In, Ih, Ix, Iy⟩ := hI
  refine ne_iload_n X dX1_same_0 rfl ?_
  refine ne_callS X nw_Tg (me_X1_requireCell l hl _ _ (by omega)) nw_yX1_requireCell nw_mX1_41 nw_sX1_requireCell dX1_same_1 rfl rfl (by decide) (by decide) (by first | decide | omega) (by first | decide | omega) (Nat.le_of_ble_eq_true rfl) rfl rfl (Nat.le_of_ble_eq_true rfl) ?_ ?_
  rotate_left
  · rintro E9 w9 h9; exact ne_out X ht (by obtain ⟨rfl, rfl⟩ := h9; exact ⟨rfl, rfl⟩)
  rintro v1 w1 ⟨rfl, rfl, g1, k1⟩
  refine ne_iload_n X dX1_same_4 rfl ?_
  refine ne_callS X nw_Tg (me_X1_requireCell l hl _ _ (by omega)) nw_yX1_requireCell nw_mX1_41 nw_sX1_requireCell dX1_same_5 rfl rfl (by decide) (by decide) (by first | decide | omega) (by first | decide | omega) (Nat.le_of_ble_eq_true rfl) rfl rfl (Nat.le_of_ble_eq_true rfl) ?_ ?_
  rotate_left
  · rintro E9 w9 h9; exact ne_out X ht (by obtain ⟨rfl, rfl⟩ := h9; exact ⟨rfl, rfl⟩)
  rintro v5 w5 ⟨rfl, rfl, g5, k5⟩
  refine ne_aload_n X dX1_same_8 rfl ?_
  refine ne_iload_n X dX1_same_9 rfl ?_
  refine ne_iload_n X dX1_same_10 rfl ?_
  refine ne_callV X nw_Tg (me_X1_areSame l hl c q t b k n h x y T (by exact ⟨Ic, Iq, It, Ib, Itb, Ik, In, Ih, Ix, Iy⟩) (by omega) _ _ (by omega) (by omega)) nw_yX1_areSame nw_mX1_124 nw_iX1_areSame nw_eX1_areSame (ci := 3) rfl rfl rfl dX1_same_11 rfl rfl (by decide) (by decide) (by first | decide | omega) (by first | decide | omega) (Nat.le_of_ble_eq_true rfl) rfl rfl (Nat.le_of_ble_eq_true rfl) ?_ ?_
  rotate_left
  · rintro E9 w9 h9; exact h9.elim
  rintro v11 w11 ⟨rfl, z11, rfl, g11, k11, i11⟩
  exact ne_iret X hr (by first | rfl | decide | (rcases (show z11 = 0 ∨ z11 = 1 by omega) with rfl | rfl <;> rfl)) dX1_same_14 ⟨⟨_, _, rfl, Ic, Iq, It, Ib, Itb, Ik, In, ne_rg_mono Ih (by omega) (by omega), Ix, Iy⟩, _, rfl, by omega⟩
set_option maxRecDepth 100000 in
set_option maxHeartbeats 4000000 in
theorem me_X1_lowestS (l : Launch) (hl : l.stackTraces = false) (c q t b k n h x y : Nat → Int) (T : Int) (hI : cI c q t b k n h x y T) (hT : 0 ≤ T ∧ T ≤ 1000) (i : Int) (hi : -2147483648 ≤ i ∧ i < 2147483648)  : ne_M l nw_cl (.code yX1_lowest cX1_lowest 4 (some .int)) nw_T yX1_lowest 9 330 8 48 [.ref 0, ni i] (cW c q t b k n h x y) (fun v w => (∃ x1 y1, w = cW c q t b k n h x1 y1 ∧ cI c q t b k n h x1 y1 (T + 1)) ∧ ∃ z : Int, v = some (ni z) ∧ True) (fun E w => w = cW c q t b k n h x y ∧ E = "java/lang/IndexOutOfBoundsException") := by
  refine ne_meet (own := RX1) hl rfl (by decide +kernel) (Nat.le_of_ble_eq_true rfl) ?_
  intro D ct A P9 V9 R9 S9 M9 as9 bl9 mt9 C9 ad0 X hr hin ht
  obtain ⟨Ic, Iq, It, Ib, Itb, Ik, In, Ih, Ix, Iy⟩ := hI
  have lp13 : ∀ (n9 : Nat) (d j : Int), (99 - j).toNat < n9 → (1 ≤ j) → (j ≤ 99) → (1 ≤ d) → (d ≤ 99) → (0 ≤ i) → (i < 3) → ne_G nw_cl D ct A 12 ad0 P9 l V9 R9 S9 M9 as9 bl9 mt9 C9 (ne_O nw_cl D ct ad0 12 A bl9 as9 S9 8 48 (fun v w => (∃ x1 y1, w = cW c q t b k n h x1 y1 ∧ cI c q t b k n h x1 y1 (T + 1)) ∧ ∃ z : Int, v = some (ni z) ∧ True) (fun E w => w = cW c q t b k n h x y ∧ E = "java/lang/IndexOutOfBoundsException")) 4 8 48 7 42 13 [some (.ref 0), some (ni i), some (ni d), some (ni j)] [] (cW c q t b k n h x y) := by
    intro n9
    induction n9 with
    | zero => intro d j hm9 q1 q2 q3 q4 q6 q7; exfalso; omega
    | succ n9 ih =>
      intro d j hm9 q1 q2 q3 q4 q6 q7
      refine ne_iload_n X dX1_lowest_13 rfl ?_
      refine ne_iload_n X dX1_lowest_14 rfl ?_
      refine ne_icmp_ge (tgt := 41) X dX1_lowest_15 rfl (by omega) (by omega) (fun b15 => ?_) (fun b15 => ?_)
      · refine ne_iload_n X dX1_lowest_41 rfl ?_
        exact ne_iret X hr (by first | rfl | decide | rfl) dX1_lowest_42 ⟨⟨_, _, rfl, Ic, Iq, It, Ib, Itb, Ik, In, ne_rg_mono Ih (by omega) (by omega), Ix, Iy⟩, _, rfl, trivial⟩
      · refine ne_iload_n X dX1_lowest_18 rfl ?_
        refine ne_aload_n X dX1_lowest_19 rfl ?_
        refine ne_getf X dX1_lowest_20 nw_fX1_16 rfl rfl ?_
        refine ne_iload_n X dX1_lowest_23 rfl ?_
        refine ne_ialdR X dX1_lowest_24 rfl (by omega) It (fun v24 e24 f24 u24 => ?_)
        have m25 := ne_mul j v24 99 98 (by omega) (by omega)
        have m26 : 0 ≤ j * v24 := Int.mul_nonneg (by omega) (by omega)
        refine ne_imul X dX1_lowest_25 ?_
        refine ne_iload_n X dX1_lowest_26 rfl ?_
        refine ne_callS X nw_Tg (me_X1_leftover l hl _ _ _ (by omega) (by omega)) nw_yX1_leftover nw_mX1_147 nw_sX1_leftover dX1_lowest_27 rfl rfl (by decide) (by decide) (by first | decide | omega) (by first | decide | omega) (Nat.le_of_ble_eq_true rfl) rfl rfl (Nat.le_of_ble_eq_true rfl) ?_ ?_
        rotate_left
        · rintro E9 w9 h9; exact h9.elim
        rintro v27 w27 ⟨rfl, z27, rfl, g27⟩
        have t27 := (ne_tdm (j * v24) d (by omega)).1 m26
        refine ne_if_ne (tgt := 35) X dX1_lowest_30 rfl (by omega) (fun b30 => ?_) (fun b30 => ?_)
        · refine ne_iinc X dX1_lowest_35 rfl (by decide) ?_
          refine ne_goto (tgt := 13) X dX1_lowest_38 rfl ?_
          exact ih _ _ (by omega) (by omega) (by omega) (by omega) (by omega) (by omega) (by omega)
        · refine ne_iload_n X dX1_lowest_33 rfl ?_
          exact ne_iret X hr (by first | rfl | decide | rfl) dX1_lowest_34 ⟨⟨_, _, rfl, Ic, Iq, It, Ib, Itb, Ik, In, ne_rg_mono Ih (by omega) (by omega), Ix, Iy⟩, _, rfl, trivial⟩
  refine ne_iload_n X dX1_lowest_0 rfl ?_
  refine ne_callS X nw_Tg (me_X1_requireWheel l hl _ _ (by omega)) nw_yX1_requireWheel nw_mX1_110 nw_sX1_requireWheel dX1_lowest_1 rfl rfl (by decide) (by decide) (by first | decide | omega) (by first | decide | omega) (Nat.le_of_ble_eq_true rfl) rfl rfl (Nat.le_of_ble_eq_true rfl) ?_ ?_
  rotate_left
  · rintro E9 w9 h9; exact ne_out X ht (by obtain ⟨rfl, rfl⟩ := h9; exact ⟨rfl, rfl⟩)
  rintro v1 w1 ⟨rfl, rfl, g1, k1⟩
  refine ne_aload_n X dX1_lowest_4 rfl ?_
  refine ne_getf X dX1_lowest_5 nw_fX1_19 rfl rfl ?_
  refine ne_iload_n X dX1_lowest_8 rfl ?_
  refine ne_ialdR X dX1_lowest_9 rfl (by omega) Ib (fun v9 e9 f9 u9 => ?_)
  refine ne_istore_n X dX1_lowest_10 rfl (by decide) ?_
  refine ne_iconst X dX1_lowest_11 ?_
  refine ne_istore_n X dX1_lowest_12 rfl (by decide) ?_
  refine ne_ll (L' := [some (.ref 0), some (ni _), some (ni _), some (ni _)]) rfl ?_
  exact lp13 _ _ 1 (Nat.lt_succ_self _) (by omega) (by omega) (by omega) (by omega) (by omega) (by omega)
set_option maxRecDepth 100000 in
set_option maxHeartbeats 4000000 in
theorem me_X1_placeOfS (l : Launch) (hl : l.stackTraces = false) (c q t b k n h x y : Nat → Int) (T : Int) (hI : cI c q t b k n h x y T) (hT : 0 ≤ T ∧ T ≤ 1000) (i : Int) (j : Int) (hi : -2147483648 ≤ i ∧ i < 2147483648) (hj : -2147483648 ≤ j ∧ j < 2147483648)  : ne_M l nw_cl (.code yX1_placeOf cX1_placeOf 5 (some .int)) nw_T yX1_placeOf 9 330 8 48 [.ref 0, ni i, ni j] (cW c q t b k n h x y) (fun v w => (∃ x1 y1, w = cW c q t b k n h x1 y1 ∧ cI c q t b k n h x1 y1 (T + 1)) ∧ ∃ z : Int, v = some (ni z) ∧ True) (fun E w => w = cW c q t b k n h x y ∧ E = "java/lang/IndexOutOfBoundsException") := by
  refine ne_meet (own := RX1) hl rfl (by decide +kernel) (Nat.le_of_ble_eq_true rfl) ?_
  intro D ct A P9 V9 R9 S9 M9 as9 bl9 mt9 C9 ad0 X hr hin ht
  obtain ⟨Ic, Iq, It, Ib, Itb, Ik, In, Ih, Ix, Iy⟩ := hI
  have lp18 : ∀ (n9 : Nat) (r m : Int), (96 - m).toNat < n9 → (0 ≤ m) → (m ≤ 96) → (0 ≤ r) → (r < b i.toNat) → (0 ≤ j) → (j < 3) → (0 ≤ i) → (i < 3) → ne_G nw_cl D ct A 12 ad0 P9 l V9 R9 S9 M9 as9 bl9 mt9 C9 (ne_O nw_cl D ct ad0 12 A bl9 as9 S9 8 48 (fun v w => (∃ x1 y1, w = cW c q t b k n h x1 y1 ∧ cI c q t b k n h x1 y1 (T + 1)) ∧ ∃ z : Int, v = some (ni z) ∧ True) (fun E w => w = cW c q t b k n h x y ∧ E = "java/lang/IndexOutOfBoundsException")) 5 8 48 6 36 18 [some (.ref 0), some (ni i), some (ni j), some (ni r), some (ni m)] [] (cW c q t b k n h x y) := by
    intro n9
    induction n9 with
    | zero => intro r m hm9 q1 q2 q3 q4 q5 q6 q7 q8; exfalso; omega
    | succ n9 ih =>
      intro r m hm9 q1 q2 q3 q4 q5 q6 q7 q8
      have hb9 := Ib i.toNat
      refine ne_iload X dX1_placeOf_18 rfl ?_
      refine ne_aload_n X dX1_placeOf_20 rfl ?_
      refine ne_getf X dX1_placeOf_21 nw_fX1_25 rfl rfl ?_
      refine ne_iload_n X dX1_placeOf_24 rfl ?_
      refine ne_ialdR X dX1_placeOf_25 rfl (by omega) In (fun v25 e25 f25 u25 => ?_)
      refine ne_icmp_ge (tgt := 73) X dX1_placeOf_26 rfl (by omega) (by omega) (fun b26 => ?_) (fun b26 => ?_)
      · refine ne_iconst X dX1_placeOf_73 ?_
        exact ne_iret X hr (by first | rfl | decide | rfl) dX1_placeOf_74 ⟨⟨_, _, rfl, Ic, Iq, It, Ib, Itb, Ik, In, ne_rg_mono Ih (by omega) (by omega), Ix, Iy⟩, _, rfl, trivial⟩
      · refine ne_iload_n X dX1_placeOf_29 rfl ?_
        refine ne_aload_n X dX1_placeOf_30 rfl ?_
        refine ne_getf X dX1_placeOf_31 nw_fX1_19 rfl rfl ?_
        refine ne_iload_n X dX1_placeOf_34 rfl ?_
        refine ne_ialdR X dX1_placeOf_35 rfl (by omega) Ib (fun v35 e35 f35 u35 => ?_)
        have m36 := ne_mul r v35 98 99 (by omega) (by omega)
        refine ne_imul X dX1_placeOf_36 ?_
        refine ne_aload_n X dX1_placeOf_37 rfl ?_
        refine ne_getf X dX1_placeOf_38 nw_fX1_16 rfl rfl ?_
        refine ne_iload_n X dX1_placeOf_41 rfl ?_
        refine ne_ialdR X dX1_placeOf_42 rfl (by omega) It (fun v42 e42 f42 u42 => ?_)
        refine ne_aload_n X dX1_placeOf_43 rfl ?_
        refine ne_getf X dX1_placeOf_44 nw_fX1_19 rfl rfl ?_
        refine ne_iload_n X dX1_placeOf_47 rfl ?_
        refine ne_ialdR X dX1_placeOf_48 rfl (by omega) Ib (fun v48 e48 f48 u48 => ?_)
        have m49 := ne_mul v42 v48 98 99 (by omega) (by omega)
        refine ne_imul X dX1_placeOf_49 ?_
        refine ne_icmp_ne (tgt := 56) X dX1_placeOf_50 rfl (by omega) (by omega) (fun b50 => ?_) (fun b50 => ?_)
        · refine ne_iload_n X dX1_placeOf_56 rfl ?_
          refine ne_aload_n X dX1_placeOf_57 rfl ?_
          refine ne_getf X dX1_placeOf_58 nw_fX1_19 rfl rfl ?_
          refine ne_iload_n X dX1_placeOf_61 rfl ?_
          refine ne_ialdR X dX1_placeOf_62 rfl (by omega) Ib (fun v62 e62 f62 u62 => ?_)
          refine ne_callS X nw_Tg (me_X1_restAfter l hl _ _ _ (by omega) (by omega) (by omega)) nw_yX1_restAfter nw_mX1_189 nw_sX1_restAfter dX1_placeOf_63 rfl rfl (by decide) (by decide) (by first | decide | omega) (by first | decide | omega) (Nat.le_of_ble_eq_true rfl) rfl rfl (Nat.le_of_ble_eq_true rfl) ?_ ?_
          rotate_left
          · rintro E9 w9 h9; exact h9.elim
          rintro v63 w63 ⟨rfl, z63, rfl, g63, k63, i63⟩
          refine ne_istore_n X dX1_placeOf_66 rfl (by decide) ?_
          refine ne_iinc X dX1_placeOf_67 rfl (by decide) ?_
          refine ne_ll (L' := [some (.ref 0), some (ni _), some (ni _), some (ni _), some (ni _)]) rfl ?_
          refine ne_goto (tgt := 18) X dX1_placeOf_70 rfl ?_
          exact ih _ _ (by omega) (by omega) (by omega) (by omega) (by omega) (by omega) (by omega) (by omega) (by omega)
        · refine ne_iload X dX1_placeOf_53 rfl ?_
          exact ne_iret X hr (by first | rfl | decide | rfl) dX1_placeOf_55 ⟨⟨_, _, rfl, Ic, Iq, It, Ib, Itb, Ik, In, ne_rg_mono Ih (by omega) (by omega), Ix, Iy⟩, _, rfl, trivial⟩
  refine ne_iload_n X dX1_placeOf_0 rfl ?_
  refine ne_callS X nw_Tg (me_X1_requireWheel l hl _ _ (by omega)) nw_yX1_requireWheel nw_mX1_110 nw_sX1_requireWheel dX1_placeOf_1 rfl rfl (by decide) (by decide) (by first | decide | omega) (by first | decide | omega) (Nat.le_of_ble_eq_true rfl) rfl rfl (Nat.le_of_ble_eq_true rfl) ?_ ?_
  rotate_left
  · rintro E9 w9 h9; exact ne_out X ht (by obtain ⟨rfl, rfl⟩ := h9; exact ⟨rfl, rfl⟩)
  rintro v1 w1 ⟨rfl, rfl, g1, k1⟩
  refine ne_iload_n X dX1_placeOf_4 rfl ?_
  refine ne_callS X nw_Tg (me_X1_requireWheel l hl _ _ (by omega)) nw_yX1_requireWheel nw_mX1_110 nw_sX1_requireWheel dX1_placeOf_5 rfl rfl (by decide) (by decide) (by first | decide | omega) (by first | decide | omega) (Nat.le_of_ble_eq_true rfl) rfl rfl (Nat.le_of_ble_eq_true rfl) ?_ ?_
  rotate_left
  · rintro E9 w9 h9; exact ne_out X ht (by obtain ⟨rfl, rfl⟩ := h9; exact ⟨rfl, rfl⟩)
  rintro v5 w5 ⟨rfl, rfl, g5, k5⟩
  refine ne_aload_n X dX1_placeOf_8 rfl ?_
  refine ne_getf X dX1_placeOf_9 nw_fX1_16 rfl rfl ?_
  refine ne_iload_n X dX1_placeOf_12 rfl ?_
  refine ne_ialdR X dX1_placeOf_13 rfl (by omega) It (fun v13 e13 f13 u13 => ?_)
  refine ne_istore_n X dX1_placeOf_14 rfl (by decide) ?_
  refine ne_iconst X dX1_placeOf_15 ?_
  refine ne_istore X dX1_placeOf_16 (by decide) ?_
  refine ne_ll (L' := [some (.ref 0), some (ni _), some (ni _), some (ni _), some (ni _)]) rfl ?_
  have htb9 := Itb i.toNat
  exact lp18 _ _ 0 (Nat.lt_succ_self _) (by omega) (by omega) (by omega) (by omega) (by omega) (by omega) (by omega) (by omega)
set_option maxRecDepth 100000 in
set_option maxHeartbeats 4000000 in
theorem me_X1_wheelOrderS (l : Launch) (hl : l.stackTraces = false) (c q t b k n h x y : Nat → Int) (T : Int) (hI : cI c q t b k n h x y T) (hT : 0 ≤ T ∧ T ≤ 1000) (i : Int) (j : Int) (hi : -2147483648 ≤ i ∧ i < 2147483648) (hj : -2147483648 ≤ j ∧ j < 2147483648)  : ne_M l nw_cl (.code yX1_wheelOrder cX1_wheelOrder 3 (some .int)) nw_T yX1_wheelOrder 9 330 8 48 [.ref 0, ni i, ni j] (cW c q t b k n h x y) (fun v w => (∃ x1 y1, w = cW c q t b k n h x1 y1 ∧ cI c q t b k n h x1 y1 (T + 1)) ∧ ∃ z : Int, v = some (ni z) ∧ True) (fun E w => w = cW c q t b k n h x y ∧ E = "java/lang/IndexOutOfBoundsException") := by
  refine ne_meet (own := RX1) hl rfl (by decide +kernel) (Nat.le_of_ble_eq_true rfl) ?_
  intro D ct A P9 V9 R9 S9 M9 as9 bl9 mt9 C9 ad0 X hr hin ht
  obtain ⟨Ic, Iq, It, Ib, Itb, Ik, In, Ih, Ix, Iy⟩ := hI
  refine ne_iload_n X dX1_wheelOrder_0 rfl ?_
  refine ne_callS X nw_Tg (me_X1_requireWheel l hl _ _ (by omega)) nw_yX1_requireWheel nw_mX1_110 nw_sX1_requireWheel dX1_wheelOrder_1 rfl rfl (by decide) (by decide) (by first | decide | omega) (by first | decide | omega) (Nat.le_of_ble_eq_true rfl) rfl rfl (Nat.le_of_ble_eq_true rfl) ?_ ?_
  rotate_left
  · rintro E9 w9 h9; exact ne_out X ht (by obtain ⟨rfl, rfl⟩ := h9; exact ⟨rfl, rfl⟩)
  rintro v1 w1 ⟨rfl, rfl, g1, k1⟩
  refine ne_iload_n X dX1_wheelOrder_4 rfl ?_
  refine ne_callS X nw_Tg (me_X1_requireWheel l hl _ _ (by omega)) nw_yX1_requireWheel nw_mX1_110 nw_sX1_requireWheel dX1_wheelOrder_5 rfl rfl (by decide) (by decide) (by first | decide | omega) (by first | decide | omega) (Nat.le_of_ble_eq_true rfl) rfl rfl (Nat.le_of_ble_eq_true rfl) ?_ ?_
  rotate_left
  · rintro E9 w9 h9; exact ne_out X ht (by obtain ⟨rfl, rfl⟩ := h9; exact ⟨rfl, rfl⟩)
  rintro v5 w5 ⟨rfl, rfl, g5, k5⟩
  refine ne_aload_n X dX1_wheelOrder_8 rfl ?_
  refine ne_iload_n X dX1_wheelOrder_9 rfl ?_
  refine ne_iload_n X dX1_wheelOrder_10 rfl ?_
  refine ne_callV X nw_Tg (me_X1_orderOfWheels l hl c q t b k n h x y T (by exact ⟨Ic, Iq, It, Ib, Itb, Ik, In, Ih, Ix, Iy⟩) (by omega) _ _ (by omega) (by omega)) nw_yX1_orderOfWheels nw_mX1_192 nw_iX1_orderOfWheels nw_eX1_orderOfWheels (ci := 3) rfl rfl rfl dX1_wheelOrder_11 rfl rfl (by decide) (by decide) (by first | decide | omega) (by first | decide | omega) (Nat.le_of_ble_eq_true rfl) rfl rfl (Nat.le_of_ble_eq_true rfl) ?_ ?_
  rotate_left
  · rintro E9 w9 h9; exact h9.elim
  rintro v11 w11 ⟨rfl, z11, rfl, g11, k11⟩
  exact ne_iret X hr (by first | rfl | decide | rfl) dX1_wheelOrder_14 ⟨⟨_, _, rfl, Ic, Iq, It, Ib, Itb, Ik, In, ne_rg_mono Ih (by omega) (by omega), Ix, Iy⟩, _, rfl, trivial⟩
set_option maxRecDepth 100000 in
set_option maxHeartbeats 4000000 in
theorem me_X1_againstS (l : Launch) (hl : l.stackTraces = false) (c q t b k n h x y : Nat → Int) (T : Int) (hI : cI c q t b k n h x y T) (hT : 0 ≤ T ∧ T ≤ 1000) (i : Int) (j : Int) (hi : -2147483648 ≤ i ∧ i < 2147483648) (hj : -2147483648 ≤ j ∧ j < 2147483648)  : ne_M l nw_cl (.code yX1_against cX1_against 3 (some .int)) nw_T yX1_against 9 330 8 48 [.ref 0, ni i, ni j] (cW c q t b k n h x y) (fun v w => (∃ x1 y1, w = cW c q t b k n h x1 y1 ∧ cI c q t b k n h x1 y1 (T + 1)) ∧ ∃ z : Int, v = some (ni z) ∧ True) (fun E w => w = cW c q t b k n h x y ∧ E = "java/lang/IndexOutOfBoundsException") := by
  refine ne_meet (own := RX1) hl rfl (by decide +kernel) (Nat.le_of_ble_eq_true rfl) ?_
  intro D ct A P9 V9 R9 S9 M9 as9 bl9 mt9 C9 ad0 X hr hin ht
  obtain ⟨Ic, Iq, It, Ib, Itb, Ik, In, Ih, Ix, Iy⟩ := hI
  refine ne_iload_n X dX1_against_0 rfl ?_
  refine ne_callS X nw_Tg (me_X1_requireWheel l hl _ _ (by omega)) nw_yX1_requireWheel nw_mX1_110 nw_sX1_requireWheel dX1_against_1 rfl rfl (by decide) (by decide) (by first | decide | omega) (by first | decide | omega) (Nat.le_of_ble_eq_true rfl) rfl rfl (Nat.le_of_ble_eq_true rfl) ?_ ?_
  rotate_left
  · rintro E9 w9 h9; exact ne_out X ht (by obtain ⟨rfl, rfl⟩ := h9; exact ⟨rfl, rfl⟩)
  rintro v1 w1 ⟨rfl, rfl, g1, k1⟩
  refine ne_iload_n X dX1_against_4 rfl ?_
  refine ne_callS X nw_Tg (me_X1_requireCell l hl _ _ (by omega)) nw_yX1_requireCell nw_mX1_41 nw_sX1_requireCell dX1_against_5 rfl rfl (by decide) (by decide) (by first | decide | omega) (by first | decide | omega) (Nat.le_of_ble_eq_true rfl) rfl rfl (Nat.le_of_ble_eq_true rfl) ?_ ?_
  rotate_left
  · rintro E9 w9 h9; exact ne_out X ht (by obtain ⟨rfl, rfl⟩ := h9; exact ⟨rfl, rfl⟩)
  rintro v5 w5 ⟨rfl, rfl, g5, k5⟩
  refine ne_aload_n X dX1_against_8 rfl ?_
  refine ne_iload_n X dX1_against_9 rfl ?_
  refine ne_iload_n X dX1_against_10 rfl ?_
  refine ne_callV X nw_Tg (me_X1_orderAgainst l hl c q t b k n h x y T (by exact ⟨Ic, Iq, It, Ib, Itb, Ik, In, Ih, Ix, Iy⟩) (by omega) _ _ (by omega) (by omega)) nw_yX1_orderAgainst nw_mX1_195 nw_iX1_orderAgainst nw_eX1_orderAgainst (ci := 3) rfl rfl rfl dX1_against_11 rfl rfl (by decide) (by decide) (by first | decide | omega) (by first | decide | omega) (Nat.le_of_ble_eq_true rfl) rfl rfl (Nat.le_of_ble_eq_true rfl) ?_ ?_
  rotate_left
  · rintro E9 w9 h9; exact h9.elim
  rintro v11 w11 ⟨rfl, z11, rfl, g11, k11⟩
  exact ne_iret X hr (by first | rfl | decide | rfl) dX1_against_14 ⟨⟨_, _, rfl, Ic, Iq, It, Ib, Itb, Ik, In, ne_rg_mono Ih (by omega) (by omega), Ix, Iy⟩, _, rfl, trivial⟩
set_option maxRecDepth 100000 in
set_option maxHeartbeats 4000000 in
theorem me_X1_numberS (l : Launch) (hl : l.stackTraces = false) (c q t b k n h x y : Nat → Int) (T : Int) (hI : cI c q t b k n h x y T) (hT : 0 ≤ T ∧ T ≤ 1000) (i : Int) (hi : -2147483648 ≤ i ∧ i < 2147483648) : ne_M l nw_cl (.code yX1_number cX1_number 2 (some (.object "java/lang/String"))) nw_T yX1_number 12 520 230 600 [.ref 0, ni i] (cW c q t b k n h x y) (fun v w => (∃ x1 y1, w = cW c q t b k n h x1 y1 ++ [none] ∧ cI c q t b k n h x1 y1 (T + 1)) ∧ v = some (.ref 12)) (fun E w => w = cW c q t b k n h x y ∧ E = "java/lang/IndexOutOfBoundsException") := by
  refine ne_meet (own := RX1) hl rfl (by decide +kernel) (Nat.le_of_ble_eq_true rfl) ?_
  intro D ct A P9 V9 R9 S9 M9 as9 bl9 mt9 C9 ad0 X hr hin ht
  obtain ⟨Ic, Iq, It, Ib, Itb, Ik, In, Ih, Ix, Iy⟩ := hI
  refine ne_iload_n X dX1_number_0 rfl ?_
  refine ne_callS X nw_Tg (me_X1_requireWheel l hl _ _ (by omega)) nw_yX1_requireWheel nw_mX1_110 nw_sX1_requireWheel dX1_number_1 rfl rfl (by decide) (by decide) (by first | decide | omega) (by first | decide | omega) (Nat.le_of_ble_eq_true rfl) rfl rfl (Nat.le_of_ble_eq_true rfl) ?_ ?_
  rotate_left
  · rintro E9 w9 h9; exact ne_out X ht (by obtain ⟨rfl, rfl⟩ := h9; exact ⟨rfl, rfl⟩)
  rintro v1 w1 ⟨rfl, rfl, g1, k1⟩
  refine ne_aload_n X dX1_number_4 rfl ?_
  refine ne_iload_n X dX1_number_5 rfl ?_
  refine ne_iconst X dX1_number_6 ?_
  refine ne_aload_n X dX1_number_7 rfl ?_
  refine ne_getf X dX1_number_8 nw_fX1_25 rfl rfl ?_
  refine ne_iload_n X dX1_number_11 rfl ?_
  refine ne_ialdR X dX1_number_12 rfl (by omega) In (fun v12 e12 f12 u12 => ?_)
  refine ne_callV X nw_Tg (me_X1_digitText l hl c q t b k n h x y T (by exact ⟨Ic, Iq, It, Ib, Itb, Ik, In, Ih, Ix, Iy⟩) (by omega) _ _ _ (by omega) (by omega) (by omega)) nw_yX1_digitText nw_mX1_160 nw_iX1_digitText nw_eX1_digitText (ci := 3) rfl rfl rfl dX1_number_13 rfl rfl (by decide) (by decide) (by first | decide | omega) (by first | decide | omega) (Nat.le_of_ble_eq_true rfl) rfl rfl (Nat.le_of_ble_eq_true rfl) ?_ ?_
  rotate_left
  · rintro E9 w9 h9; exact h9.elim
  rintro v13 w13 ⟨rfl, rfl⟩
  exact ne_aret X hr (by first | exact Or.inl ⟨_, rfl⟩ | exact Or.inr ⟨_, rfl⟩) dX1_number_16 ⟨⟨_, _, rfl, Ic, Iq, It, Ib, Itb, Ik, In, ne_rg_mono Ih (by omega) (by omega), Ix, Iy⟩, rfl⟩
set_option maxRecDepth 100000 in
set_option maxHeartbeats 4000000 in
theorem me_X1_productS (l : Launch) (hl : l.stackTraces = false) (c q t b k n h x y : Nat → Int) (T : Int) (hI : cI c q t b k n h x y T) (hT : 0 ≤ T ∧ T ≤ 1000) (i : Int) (hi : -2147483648 ≤ i ∧ i < 2147483648) : ne_M l nw_cl (.code yX1_product cX1_product 2 (some (.object "java/lang/String"))) nw_T yX1_product 12 520 230 600 [.ref 0, ni i] (cW c q t b k n h x y) (fun v w => (∃ x1 y1, w = cW c q t b k n h x1 y1 ++ [none] ∧ cI c q t b k n h x1 y1 (T + 1)) ∧ v = some (.ref 12)) (fun E w => w = cW c q t b k n h x y ∧ E = "java/lang/IndexOutOfBoundsException") := by
  refine ne_meet (own := RX1) hl rfl (by decide +kernel) (Nat.le_of_ble_eq_true rfl) ?_
  intro D ct A P9 V9 R9 S9 M9 as9 bl9 mt9 C9 ad0 X hr hin ht
  obtain ⟨Ic, Iq, It, Ib, Itb, Ik, In, Ih, Ix, Iy⟩ := hI
  refine ne_iload_n X dX1_product_0 rfl ?_
  refine ne_callS X nw_Tg (me_X1_requireWheel l hl _ _ (by omega)) nw_yX1_requireWheel nw_mX1_110 nw_sX1_requireWheel dX1_product_1 rfl rfl (by decide) (by decide) (by first | decide | omega) (by first | decide | omega) (Nat.le_of_ble_eq_true rfl) rfl rfl (Nat.le_of_ble_eq_true rfl) ?_ ?_
  rotate_left
  · rintro E9 w9 h9; exact ne_out X ht (by obtain ⟨rfl, rfl⟩ := h9; exact ⟨rfl, rfl⟩)
  rintro v1 w1 ⟨rfl, rfl, g1, k1⟩
  refine ne_aload_n X dX1_product_4 rfl ?_
  refine ne_iload_n X dX1_product_5 rfl ?_
  refine ne_callV X nw_Tg (me_X1_workOutProduct l hl c q t b k n h x y T (by exact ⟨Ic, Iq, It, Ib, Itb, Ik, In, Ih, Ix, Iy⟩) (by omega) _ (by omega)) nw_yX1_workOutProduct nw_mX1_166 nw_iX1_workOutProduct nw_eX1_workOutProduct (ci := 3) rfl rfl rfl dX1_product_6 rfl rfl (by decide) (by decide) (by first | decide | omega) (by first | decide | omega) (Nat.le_of_ble_eq_true rfl) rfl rfl (Nat.le_of_ble_eq_true rfl) ?_ ?_
  rotate_left
  · rintro E9 w9 h9; exact h9.elim
  rintro v6 w6 ⟨rfl, x6, rfl, Ix⟩
  refine ne_aload_n X dX1_product_9 rfl ?_
  refine ne_getf X dX1_product_10 nw_fX1_34 rfl rfl ?_
  refine ne_callVN (host := "Ninewheel") X nw_Tg (me_X0_written_x l hl c q t b k n h x6 y T (by exact ⟨Ic, Iq, It, Ib, Itb, Ik, In, Ih, Ix, Iy⟩) (by omega)) nw_yX0_written (by decide +kernel) nw_iX0_written nw_eX0_written (ci := 2) rfl rfl rfl dX1_product_13 rfl rfl (by decide) (by decide) (by first | decide | omega) (by first | decide | omega) (Nat.le_of_ble_eq_true rfl) rfl rfl (Nat.le_of_ble_eq_true rfl) ?_ ?_
  rotate_left
  · rintro E9 w9 h9; exact h9.elim
  rintro v13 w13 ⟨rfl, rfl⟩
  exact ne_aret X hr (by first | exact Or.inl ⟨_, rfl⟩ | exact Or.inr ⟨_, rfl⟩) dX1_product_16 ⟨⟨_, _, rfl, Ic, Iq, It, Ib, Itb, Ik, In, ne_rg_mono Ih (by omega) (by omega), Ix, Iy⟩, rfl⟩
