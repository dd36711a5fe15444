/-- what the class's search for a length finds -/
def ne_pc (a b L : Int) : Prop := 1 ≤ L ∧ L ≤ 96 ∧ (∀ m : Nat, 0 < m → (m : Int) < L → ne_rs a b m ≠ a) ∧ (ne_rs a b L.toNat = a ∨ L = 96)
theorem ne_pcper {a b L : Int} (ha : 0 ≤ a) (hab : a < b) (hb : b ≤ 99) (h2 : b.tmod 2 ≠ 0) (h5 : b.tmod 5 ≠ 0) (h1 : 1 ≤ L) (h96 : L ≤ 96) (hl : ∀ m : Nat, 0 < m → (m : Int) < L → ne_rs a b m ≠ a) (hr : ne_rs a b L.toNat = a ∨ L = 96) : ne_per a b L := by
  refine ⟨h1, h96, hl, ?_⟩
  rcases hr with h | h
  · exact h
  · obtain ⟨m, g1, g2, g3⟩ := ne_turns a b ha hab hb h2 h5
    rcases (show m = L.toNat ∨ (m : Int) < L by omega) with e | e
    · rw [← e]; exact g3
    · exact absurd g3 (hl m (by omega) e)
theorem ne_ups {f : Nat → Int} {k : Nat} {v : Int} : va_up f k v k = v := by unfold va_up; rw [if_pos rfl]
theorem ne_pcU {a b L Z : Int} (h1 : 1 ≤ L) (h96 : L ≤ 96) (hl : ∀ m : Nat, 0 < m → (m : Int) < L → ne_rs a b m ≠ a) (hr : ne_rs a b L.toNat = a ∨ L = 96) (hz : ne_per a b Z) : L = Z := by
  rcases hr with h | h
  · exact ne_perU ⟨h1, h96, hl, h⟩ hz
  · obtain ⟨g1, g2, g3, g4⟩ := hz
    rcases (show Z = L ∨ Z < L by omega) with e | e
    · exact e.symm
    · exact absurd g4 (hl Z.toNat (by omega) (by omega))
set_option maxRecDepth 100000 in
set_option maxHeartbeats 4000000 in
theorem me_X1_requireCellS (l : Launch) (hl : l.stackTraces = false) (ws : ne_W) (a : Int) (ha : -2147483648 ≤ a ∧ a < 2147483648) : ne_M l nw_cl (.code yX1_requireCell cX1_requireCell 1 (none)) nw_T yX1_requireCell 6 90 1 6 [ni a] ws (fun v w => w = ws ∧ v = none ∧ 0 ≤ a ∧ a < 4) (fun E w => w = ws ∧ E = "java/lang/IndexOutOfBoundsException" ∧ (a < 0 ∨ 4 ≤ a)) := by
  refine ne_meet (own := RX1) hl rfl (by decide +kernel) (Nat.le_of_ble_eq_true rfl) ?_
  intro D ct A P9 V9 R9 S9 M9 as9 bl9 mt9 C9 ad0 X hr hin ht
  refine ne_iload_n X dX1_requireCell_0 rfl ?_
  refine ne_if_lt (tgt := 9) X dX1_requireCell_1 rfl (by omega) (fun b1 => ?_) (fun b1 => ?_)
  · exact ne_throw (cls := "java/lang/IndexOutOfBoundsException") (text := "no such cell") (names := ["java/lang/RuntimeException", "java/lang/Exception"]) X X.1.2.2.2.2 (by decide +kernel) (by decide +kernel) nw_qX1_232 nw_inI (by decide +kernel) nw_xI1 (by decide +kernel) nw_xI2 nw_xI3 ht dX1_requireCell_9 dX1_requireCell_12 dX1_requireCell_13 dX1_requireCell_15 dX1_requireCell_18 (by decide) (Nat.le_of_ble_eq_true rfl) (by decide) (by decide) ⟨rfl, rfl, by omega⟩
  · refine ne_iload_n X dX1_requireCell_4 rfl ?_
    refine ne_iconst X dX1_requireCell_5 ?_
    refine ne_icmp_lt (tgt := 19) X dX1_requireCell_6 rfl (by omega) (by omega) (fun b6 => ?_) (fun b6 => ?_)
    · exact ne_vret X hr dX1_requireCell_19 ⟨rfl, rfl, by omega⟩
    · exact ne_throw (cls := "java/lang/IndexOutOfBoundsException") (text := "no such cell") (names := ["java/lang/RuntimeException", "java/lang/Exception"]) X X.1.2.2.2.2 (by decide +kernel) (by decide +kernel) nw_qX1_232 nw_inI (by decide +kernel) nw_xI1 (by decide +kernel) nw_xI2 nw_xI3 ht dX1_requireCell_9 dX1_requireCell_12 dX1_requireCell_13 dX1_requireCell_15 dX1_requireCell_18 (by decide) (Nat.le_of_ble_eq_true rfl) (by decide) (by decide) ⟨rfl, rfl, by omega⟩
set_option maxRecDepth 100000 in
set_option maxHeartbeats 4000000 in
theorem me_X1_requireWheelS (l : Launch) (hl : l.stackTraces = false) (ws : ne_W) (a : Int) (ha : -2147483648 ≤ a ∧ a < 2147483648) : ne_M l nw_cl (.code yX1_requireWheel cX1_requireWheel 1 (none)) nw_T yX1_requireWheel 6 90 1 6 [ni a] ws (fun v w => w = ws ∧ v = none ∧ 0 ≤ a ∧ a < 3) (fun E w => w = ws ∧ E = "java/lang/IndexOutOfBoundsException" ∧ (a < 0 ∨ 3 ≤ a)) := by
  refine ne_meet (own := RX1) hl rfl (by decide +kernel) (Nat.le_of_ble_eq_true rfl) ?_
  intro D ct A P9 V9 R9 S9 M9 as9 bl9 mt9 C9 ad0 X hr hin ht
  refine ne_iload_n X dX1_requireWheel_0 rfl ?_
  refine ne_if_lt (tgt := 9) X dX1_requireWheel_1 rfl (by omega) (fun b1 => ?_) (fun b1 => ?_)
  · exact ne_throw (cls := "java/lang/IndexOutOfBoundsException") (text := "no such wheel") (names := ["java/lang/RuntimeException", "java/lang/Exception"]) X X.1.2.2.2.2 (by decide +kernel) (by decide +kernel) nw_qX1_232 nw_inI (by decide +kernel) nw_xI1 (by decide +kernel) nw_xI2 nw_xI3 ht dX1_requireWheel_9 dX1_requireWheel_12 dX1_requireWheel_13 dX1_requireWheel_15 dX1_requireWheel_18 (by decide) (Nat.le_of_ble_eq_true rfl) (by decide) (by decide) ⟨rfl, rfl, by omega⟩
  · refine ne_iload_n X dX1_requireWheel_4 rfl ?_
    refine ne_iconst X dX1_requireWheel_5 ?_
    refine ne_icmp_lt (tgt := 19) X dX1_requireWheel_6 rfl (by omega) (by omega) (fun b6 => ?_) (fun b6 => ?_)
    · exact ne_vret X hr dX1_requireWheel_19 ⟨rfl, rfl, by omega⟩
    · exact ne_throw (cls := "java/lang/IndexOutOfBoundsException") (text := "no such wheel") (names := ["java/lang/RuntimeException", "java/lang/Exception"]) X X.1.2.2.2.2 (by decide +kernel) (by decide +kernel) nw_qX1_232 nw_inI (by decide +kernel) nw_xI1 (by decide +kernel) nw_xI2 nw_xI3 ht dX1_requireWheel_9 dX1_requireWheel_12 dX1_requireWheel_13 dX1_requireWheel_15 dX1_requireWheel_18 (by decide) (Nat.le_of_ble_eq_true rfl) (by decide) (by decide) ⟨rfl, rfl, by omega⟩
set_option maxRecDepth 100000 in
set_option maxHeartbeats 4000000 in
theorem me_X1_setWheelW (l : Launch) (hl : l.stackTraces = false) (c q t b k n h x y : Nat → Int) (T : Int) (hI : cI c q t b k n h x y T) (hT : 0 ≤ T ∧ T ≤ 1000) (i : Int) (a : Int) (d : Int) (hi : -2147483648 ≤ i ∧ i < 2147483648) (ha : -2147483648 ≤ a ∧ a < 2147483648) (hd : -2147483648 ≤ d ∧ d < 2147483648) : ne_M l nw_cl (.code yX1_setWheel cX1_setWheel 4 (some .int)) nw_T yX1_setWheel 9 330 8 48 [.ref 0, ni i, ni a, ni d] (cW c q t b k n h x y) (fun v w => ∃ h1 L, w = cW c q (va_up t i.toNat a) (va_up b i.toNat d) (va_up k i.toNat 0) (va_up n i.toNat L) h1 x y ∧ cI c q (va_up t i.toNat a) (va_up b i.toNat d) (va_up k i.toNat 0) (va_up n i.toNat L) h1 x y (T + 1) ∧ v = some (ni L) ∧ (1 ≤ L ∧ L ≤ 96) ∧ (0 ≤ i ∧ i < 3) ∧ (1 ≤ d ∧ d ≤ 99 ∧ d.tmod 2 ≠ 0 ∧ d.tmod 5 ≠ 0) ∧ (0 ≤ a ∧ a < d) ∧ ne_per a d L ∧ h1 = va_up h 1 (h 1 + 1)) (fun E w => w = cW c q t b k n h x y ∧ ((E = "java/lang/IndexOutOfBoundsException" ∧ (i < 0 ∨ 3 ≤ i)) ∨ (E = "java/lang/IllegalArgumentException" ∧ (0 ≤ i ∧ i < 3) ∧ (d < 1 ∨ 99 < d ∨ d.tmod 2 = 0 ∨ d.tmod 5 = 0 ∨ a < 0 ∨ d ≤ a)))) := by
  refine ne_meet (own := RX1) hl rfl (by decide +kernel) (Nat.le_of_ble_eq_true rfl) ?_
  intro D ct A P9 V9 R9 S9 M9 as9 bl9 mt9 C9 ad0 X hr hin ht
  obtain ⟨Ic, Iq, It, Ib, Itb, Ik, In, Ih, Ix, Iy⟩ := hI
  refine ne_iload_n X dX1_setWheel_0 rfl ?_
  refine ne_callS X nw_Tg (me_X1_requireWheelS l hl _ _ (by omega)) nw_yX1_requireWheel nw_mX1_110 nw_sX1_requireWheel dX1_setWheel_1 rfl rfl (by decide) (by decide) (by first | decide | omega) (by first | decide | omega) (Nat.le_of_ble_eq_true rfl) rfl rfl (Nat.le_of_ble_eq_true rfl) ?_ ?_
  rotate_left
  · rintro E9 w9 h9; exact ne_out X ht (by obtain ⟨rfl, rfl, h9⟩ := h9; exact ⟨rfl, by first | exact Or.inl ⟨rfl, by omega⟩ | exact Or.inr ⟨rfl, by omega⟩⟩)
  rintro v1 w1 ⟨rfl, rfl, g1, k1⟩
  refine ne_iload_n X dX1_setWheel_4 rfl ?_
  refine ne_callS X nw_Tg (me_X1_requireBottomS l hl _ _ (by omega)) nw_yX1_requireBottom nw_mX1_128 nw_sX1_requireBottom dX1_setWheel_5 rfl rfl (by decide) (by decide) (by first | decide | omega) (by first | decide | omega) (Nat.le_of_ble_eq_true rfl) rfl rfl (Nat.le_of_ble_eq_true rfl) ?_ ?_
  rotate_left
  · rintro E9 w9 h9; exact ne_out X ht (by obtain ⟨rfl, rfl, h9⟩ := h9; exact ⟨rfl, by first | exact Or.inl ⟨rfl, by omega⟩ | exact Or.inr ⟨rfl, by omega⟩⟩)
  rintro v5 w5 ⟨rfl, rfl, g5, k5, i5, j5⟩
  refine ne_iload_n X dX1_setWheel_8 rfl ?_
  refine ne_lconst (z := 0) (by decide) X dX1_setWheel_9 ?_
  refine ne_iload_n X dX1_setWheel_10 rfl ?_
  refine ne_iconst X dX1_setWheel_11 ?_
  refine ne_isub X dX1_setWheel_12 ?_
  refine ne_i2l (by omega) X dX1_setWheel_13 ?_
  refine ne_callS X nw_Tg (me_X1_requireBetweenS l hl _ _ _ _ (by omega) (by omega) (by omega)) nw_yX1_requireBetween nw_mX1_49 nw_sX1_requireBetween dX1_setWheel_14 rfl rfl (by decide) (by decide) (by first | decide | omega) (by first | decide | omega) (Nat.le_of_ble_eq_true rfl) rfl rfl (Nat.le_of_ble_eq_true rfl) ?_ ?_
  rotate_left
  · rintro E9 w9 h9; exact ne_out X ht (by obtain ⟨rfl, rfl, h9⟩ := h9; exact ⟨rfl, by first | exact Or.inl ⟨rfl, by omega⟩ | exact Or.inr ⟨rfl, by omega⟩⟩)
  rintro v14 w14 ⟨rfl, rfl, g14, k14⟩
  refine ne_aload_n X dX1_setWheel_17 rfl ?_
  refine ne_iload_n X dX1_setWheel_18 rfl ?_
  refine ne_iload_n X dX1_setWheel_19 rfl ?_
  refine ne_iload_n X dX1_setWheel_20 rfl ?_
  refine ne_callV X nw_Tg (me_X1_bringWheel l hl c q t b k n h x y T (by exact ⟨Ic, Iq, It, Ib, Itb, Ik, In, Ih, Ix, Iy⟩) (by omega) _ _ _ (by omega) (by omega)) nw_yX1_bringWheel nw_mX1_131 nw_iX1_bringWheel nw_eX1_bringWheel (ci := 3) rfl rfl rfl dX1_setWheel_21 rfl rfl (by decide) (by decide) (by first | decide | omega) (by first | decide | omega) (Nat.le_of_ble_eq_true rfl) rfl rfl (Nat.le_of_ble_eq_true rfl) ?_ ?_
  rotate_left
  · rintro E9 w9 h9; exact h9.elim
  rintro v21 w21 ⟨rfl, t21, b21, k21, n21, h21, rfl, It, Ib, Itb, Ik, In, Ih, g21, i21, j21, o21, L21, r21, m21, f21, u21, d21⟩
  subst g21
  subst i21
  subst j21
  subst r21
  refine ne_aload_n X dX1_setWheel_24 rfl ?_
  refine ne_getf X dX1_setWheel_25 nw_fX1_25 rfl rfl ?_
  refine ne_iload_n X dX1_setWheel_28 rfl ?_
  refine ne_ialdR X dX1_setWheel_29 rfl (by omega) In (fun v29 e29 f29 u29 => ?_)
  exact ne_iret X hr (by first | rfl | decide | rfl) dX1_setWheel_30 ⟨_, L21, rfl, ⟨Ic, Iq, It, Ib, Itb, Ik, In, ne_rg_mono Ih (by omega) (by omega), Ix, Iy⟩, (by rw [e29, ne_ups]), by omega, by omega, ⟨by omega, by omega, i5, j5⟩, by omega, ne_pcper (by omega) (by omega) (by omega) i5 j5 m21 f21 u21 d21, o21⟩
set_option maxRecDepth 100000 in
set_option maxHeartbeats 4000000 in
theorem me_X1_stepW (l : Launch) (hl : l.stackTraces = false) (c q t b k n h x y : Nat → Int) (T : Int) (hI : cI c q t b k n h x y T) (hT : 0 ≤ T ∧ T ≤ 1000) (i : Int) (hi : -2147483648 ≤ i ∧ i < 2147483648) : ne_M l nw_cl (.code yX1_step cX1_step 3 (some .int)) nw_T yX1_step 9 330 8 48 [.ref 0, ni i] (cW c q t b k n h x y) (fun v w => ∃ h1, w = cW c q t b (va_up k i.toNat ((k i.toNat + 1).tmod (n i.toNat))) n h1 x y ∧ cI c q t b (va_up k i.toNat ((k i.toNat + 1).tmod (n i.toNat))) n h1 x y (T + 1) ∧ ∃ z : Int, v = some (ni z) ∧ (0 ≤ z ∧ z ≤ 9) ∧ z = (10 * ne_rs (t i.toNat) (b i.toNat) (k i.toNat).toNat).tdiv (b i.toNat) ∧ (0 ≤ i ∧ i < 3) ∧ h1 = va_up h 1 (h 1 + 1)) (fun E w => w = cW c q t b k n h x y ∧ ((E = "java/lang/IndexOutOfBoundsException" ∧ (i < 0 ∨ 3 ≤ i)) ∨ (E = "java/lang/IllegalArgumentException" ∧ False))) := by
  refine ne_meet (own := RX1) hl rfl (by decide +kernel) (Nat.le_of_ble_eq_true rfl) ?_
  intro D ct A P9 V9 R9 S9 M9 as9 bl9 mt9 C9 ad0 X hr hin ht
  obtain ⟨Ic, Iq, It, Ib, Itb, Ik, In, Ih, Ix, Iy⟩ := hI
  refine ne_iload_n X dX1_step_0 rfl ?_
  refine ne_callS X nw_Tg (me_X1_requireWheelS l hl _ _ (by omega)) nw_yX1_requireWheel nw_mX1_110 nw_sX1_requireWheel dX1_step_1 rfl rfl (by decide) (by decide) (by first | decide | omega) (by first | decide | omega) (Nat.le_of_ble_eq_true rfl) rfl rfl (Nat.le_of_ble_eq_true rfl) ?_ ?_
  rotate_left
  · rintro E9 w9 h9; exact ne_out X ht (by obtain ⟨rfl, rfl, h9⟩ := h9; exact ⟨rfl, by first | exact Or.inl ⟨rfl, by omega⟩ | exact Or.inr ⟨rfl, by omega⟩⟩)
  rintro v1 w1 ⟨rfl, rfl, g1, k1⟩
  refine ne_aload_n X dX1_step_4 rfl ?_
  refine ne_iload_n X dX1_step_5 rfl ?_
  refine ne_aload_n X dX1_step_6 rfl ?_
  refine ne_getf X dX1_step_7 nw_fX1_22 rfl rfl ?_
  refine ne_iload_n X dX1_step_10 rfl ?_
  refine ne_ialdR X dX1_step_11 rfl (by omega) Ik (fun v11 e11 f11 u11 => ?_)
  refine ne_callV X nw_Tg (me_X1_restOfPlace l hl c q t b k n h x y T (by exact ⟨Ic, Iq, It, Ib, Itb, Ik, In, Ih, Ix, Iy⟩) (by omega) _ _ (by omega) (by omega)) nw_yX1_restOfPlace nw_mX1_135 nw_iX1_restOfPlace nw_eX1_restOfPlace (ci := 3) rfl rfl rfl dX1_step_12 rfl rfl (by decide) (by decide) (by first | decide | omega) (by first | decide | omega) (Nat.le_of_ble_eq_true rfl) rfl rfl (Nat.le_of_ble_eq_true rfl) ?_ ?_
  rotate_left
  · rintro E9 w9 h9; exact h9.elim
  rintro v12 w12 ⟨rfl, z12, rfl, g12, k12, i12, j12⟩
  refine ne_aload_n X dX1_step_15 rfl ?_
  refine ne_getf X dX1_step_16 nw_fX1_19 rfl rfl ?_
  refine ne_iload_n X dX1_step_19 rfl ?_
  refine ne_ialdR X dX1_step_20 rfl (by omega) Ib (fun v20 e20 f20 u20 => ?_)
  have hb9 := Itb i.toNat
  have t21 := Ib i.toNat
  refine ne_callS X nw_Tg (me_X1_digitAfter l hl _ _ _ (by omega) (by omega) (by omega)) nw_yX1_digitAfter nw_mX1_138 nw_sX1_digitAfter dX1_step_21 rfl rfl (by decide) (by decide) (by first | decide | omega) (by first | decide | omega) (Nat.le_of_ble_eq_true rfl) rfl rfl (Nat.le_of_ble_eq_true rfl) ?_ ?_
  rotate_left
  · rintro E9 w9 h9; exact h9.elim
  rintro v21 w21 ⟨rfl, z21, rfl, g21, k21, i21⟩
  refine ne_istore_n X dX1_step_24 rfl (by decide) ?_
  refine ne_aload_n X dX1_step_25 rfl ?_
  refine ne_iload_n X dX1_step_26 rfl ?_
  refine ne_iconst X dX1_step_27 ?_
  refine ne_callV X nw_Tg (me_X1_turnBy l hl c q t b k n h x y T (by exact ⟨Ic, Iq, It, Ib, Itb, Ik, In, Ih, Ix, Iy⟩) (by omega) _ _ (by omega) (by omega)) nw_yX1_turnBy nw_mX1_141 nw_iX1_turnBy nw_eX1_turnBy (ci := 3) rfl rfl rfl dX1_step_28 rfl rfl (by decide) (by decide) (by first | decide | omega) (by first | decide | omega) (Nat.le_of_ble_eq_true rfl) rfl rfl (Nat.le_of_ble_eq_true rfl) ?_ ?_
  rotate_left
  · rintro E9 w9 h9; exact h9.elim
  rintro v28 w28 ⟨rfl, k28, h28, rfl, Ik, Ih, g28, j28⟩
  subst g28
  refine ne_iload_n X dX1_step_31 rfl ?_
  exact ne_iret X hr (by first | rfl | decide | rfl) dX1_step_32 ⟨_, rfl, ⟨Ic, Iq, It, Ib, Itb, Ik, In, ne_rg_mono Ih (by omega) (by omega), Ix, Iy⟩, _, rfl, by omega, (by rw [g21, e20, g12, e11]), by omega, j28⟩
set_option maxRecDepth 100000 in
set_option maxHeartbeats 4000000 in
theorem me_X1_turnW (l : Launch) (hl : l.stackTraces = false) (c q t b k n h x y : Nat → Int) (T : Int) (hI : cI c q t b k n h x y T) (hT : 0 ≤ T ∧ T ≤ 1000) (i : Int) (a : Int) (hi : -2147483648 ≤ i ∧ i < 2147483648) (ha : -2147483648 ≤ a ∧ a < 2147483648) : ne_M l nw_cl (.code yX1_turn cX1_turn 3 (some .int)) nw_T yX1_turn 9 330 8 48 [.ref 0, ni i, ni a] (cW c q t b k n h x y) (fun v w => ∃ h1, w = cW c q t b (va_up k i.toNat ((k i.toNat + a).tmod (n i.toNat))) n h1 x y ∧ cI c q t b (va_up k i.toNat ((k i.toNat + a).tmod (n i.toNat))) n h1 x y (T + 1) ∧ ∃ z : Int, v = some (ni z) ∧ (0 ≤ z ∧ z ≤ 98) ∧ z = ne_rs (t i.toNat) (b i.toNat) ((k i.toNat + a).tmod (n i.toNat)).toNat ∧ (0 ≤ i ∧ i < 3 ∧ 0 ≤ a ∧ a ≤ 200) ∧ h1 = va_up h 1 (h 1 + 1)) (fun E w => w = cW c q t b k n h x y ∧ ((E = "java/lang/IndexOutOfBoundsException" ∧ (i < 0 ∨ 3 ≤ i)) ∨ (E = "java/lang/IllegalArgumentException" ∧ (0 ≤ i ∧ i < 3) ∧ (a < 0 ∨ 200 < a)))) := by
  refine ne_meet (own := RX1) hl rfl (by decide +kernel) (Nat.le_of_ble_eq_true rfl) ?_
  intro D ct A P9 V9 R9 S9 M9 as9 bl9 mt9 C9 ad0 X hr hin ht
  obtain ⟨Ic, Iq, It, Ib, Itb, Ik, In, Ih, Ix, Iy⟩ := hI
  refine ne_iload_n X dX1_turn_0 rfl ?_
  refine ne_callS X nw_Tg (me_X1_requireWheelS l hl _ _ (by omega)) nw_yX1_requireWheel nw_mX1_110 nw_sX1_requireWheel dX1_turn_1 rfl rfl (by decide) (by decide) (by first | decide | omega) (by first | decide | omega) (Nat.le_of_ble_eq_true rfl) rfl rfl (Nat.le_of_ble_eq_true rfl) ?_ ?_
  rotate_left
  · rintro E9 w9 h9; exact ne_out X ht (by obtain ⟨rfl, rfl, h9⟩ := h9; exact ⟨rfl, by first | exact Or.inl ⟨rfl, by omega⟩ | exact Or.inr ⟨rfl, by omega⟩⟩)
  rintro v1 w1 ⟨rfl, rfl, g1, k1⟩
  refine ne_iload_n X dX1_turn_4 rfl ?_
  refine ne_lconst (z := 0) (by decide) X dX1_turn_5 ?_
  refine ne_ldc2 (z := 200) (by decide) nw_cX1_145 X dX1_turn_6 ?_
  refine ne_callS X nw_Tg (me_X1_requireBetweenS l hl _ _ _ _ (by omega) (by omega) (by omega)) nw_yX1_requireBetween nw_mX1_49 nw_sX1_requireBetween dX1_turn_9 rfl rfl (by decide) (by decide) (by first | decide | omega) (by first | decide | omega) (Nat.le_of_ble_eq_true rfl) rfl rfl (Nat.le_of_ble_eq_true rfl) ?_ ?_
  rotate_left
  · rintro E9 w9 h9; exact ne_out X ht (by obtain ⟨rfl, rfl, h9⟩ := h9; exact ⟨rfl, by first | exact Or.inl ⟨rfl, by omega⟩ | exact Or.inr ⟨rfl, by omega⟩⟩)
  rintro v9 w9 ⟨rfl, rfl, g9, k9⟩
  refine ne_aload_n X dX1_turn_12 rfl ?_
  refine ne_iload_n X dX1_turn_13 rfl ?_
  refine ne_iload_n X dX1_turn_14 rfl ?_
  refine ne_callV X nw_Tg (me_X1_turnBy l hl c q t b k n h x y T (by exact ⟨Ic, Iq, It, Ib, Itb, Ik, In, Ih, Ix, Iy⟩) (by omega) _ _ (by omega) (by omega)) nw_yX1_turnBy nw_mX1_141 nw_iX1_turnBy nw_eX1_turnBy (ci := 3) rfl rfl rfl dX1_turn_15 rfl rfl (by decide) (by decide) (by first | decide | omega) (by first | decide | omega) (Nat.le_of_ble_eq_true rfl) rfl rfl (Nat.le_of_ble_eq_true rfl) ?_ ?_
  rotate_left
  · rintro E9 w9 h9; exact h9.elim
  rintro v15 w15 ⟨rfl, k15, h15, rfl, Ik, Ih, g15, j15⟩
  refine ne_aload_n X dX1_turn_18 rfl ?_
  refine ne_iload_n X dX1_turn_19 rfl ?_
  refine ne_aload_n X dX1_turn_20 rfl ?_
  refine ne_getf X dX1_turn_21 nw_fX1_22 rfl rfl ?_
  refine ne_iload_n X dX1_turn_24 rfl ?_
  refine ne_ialdR X dX1_turn_25 rfl (by omega) Ik (fun v25 e25 f25 u25 => ?_)
  refine ne_callV X nw_Tg (me_X1_restOfPlace l hl c q t b k15 n h15 x y (T + 1) (by exact ⟨Ic, Iq, It, Ib, Itb, Ik, In, Ih, Ix, Iy⟩) (by omega) _ _ (by omega) (by omega)) nw_yX1_restOfPlace nw_mX1_135 nw_iX1_restOfPlace nw_eX1_restOfPlace (ci := 3) rfl rfl rfl dX1_turn_26 rfl rfl (by decide) (by decide) (by first | decide | omega) (by first | decide | omega) (Nat.le_of_ble_eq_true rfl) rfl rfl (Nat.le_of_ble_eq_true rfl) ?_ ?_
  rotate_left
  · rintro E9 w9 h9; exact h9.elim
  rintro v26 w26 ⟨rfl, z26, rfl, g26, k26, i26, j26⟩
  subst g15
  exact ne_iret X hr (by first | rfl | decide | rfl) dX1_turn_29 ⟨_, rfl, ⟨Ic, Iq, It, Ib, Itb, Ik, In, ne_rg_mono Ih (by omega) (by omega), Ix, Iy⟩, _, rfl, by omega, (by rw [g26, e25, ne_ups]), ⟨by omega, by omega, by omega, by omega⟩, j15⟩
set_option maxRecDepth 100000 in
set_option maxHeartbeats 4000000 in
theorem me_X1_timesW (l : Launch) (hl : l.stackTraces = false) (c q t b k n h x y : Nat → Int) (T : Int) (hI : cI c q t b k n h x y T) (hT : 0 ≤ T ∧ T ≤ 1000) (i : Int) (a : Int) (o : Int) (hi : -2147483648 ≤ i ∧ i < 2147483648) (ha : -2147483648 ≤ a ∧ a < 2147483648) (ho : -2147483648 ≤ o ∧ o < 2147483648) : ne_M l nw_cl (.code yX1_times cX1_times 4 (some .int)) nw_T yX1_times 9 330 8 48 [.ref 0, ni i, ni a, ni o] (cW c q t b k n h x y) (fun v w => ∃ h1 L, w = cW c q (va_up t o.toNat ((a * t i.toNat).tmod (b i.toNat))) (va_up b o.toNat (b i.toNat)) (va_up k o.toNat 0) (va_up n o.toNat L) h1 x y ∧ cI c q (va_up t o.toNat ((a * t i.toNat).tmod (b i.toNat))) (va_up b o.toNat (b i.toNat)) (va_up k o.toNat 0) (va_up n o.toNat L) h1 x y (T + 1) ∧ ∃ z : Int, v = some (ni z) ∧ (0 ≤ z ∧ z ≤ 98) ∧ z = ((a * t i.toNat).tmod (b i.toNat)) ∧ (0 ≤ i ∧ i < 3 ∧ 0 ≤ o ∧ o < 3 ∧ 0 ≤ a ∧ a ≤ 99) ∧ (0 ≤ ((a * t i.toNat).tmod (b i.toNat)) ∧ ((a * t i.toNat).tmod (b i.toNat)) < b i.toNat) ∧ ne_pc ((a * t i.toNat).tmod (b i.toNat)) (b i.toNat) L ∧ h1 = va_up h 1 (h 1 + 1)) (fun E w => w = cW c q t b k n h x y ∧ ((E = "java/lang/IndexOutOfBoundsException" ∧ (i < 0 ∨ 3 ≤ i ∨ o < 0 ∨ 3 ≤ o)) ∨ (E = "java/lang/IllegalArgumentException" ∧ (0 ≤ i ∧ i < 3 ∧ 0 ≤ o ∧ o < 3) ∧ (a < 0 ∨ 99 < a)))) := by
  refine ne_meet (own := RX1) hl rfl (by decide +kernel) (Nat.le_of_ble_eq_true rfl) ?_
  intro D ct A P9 V9 R9 S9 M9 as9 bl9 mt9 C9 ad0 X hr hin ht
  obtain ⟨Ic, Iq, It, Ib, Itb, Ik, In, Ih, Ix, Iy⟩ := hI
  refine ne_iload_n X dX1_times_0 rfl ?_
  refine ne_callS X nw_Tg (me_X1_requireWheelS l hl _ _ (by omega)) nw_yX1_requireWheel nw_mX1_110 nw_sX1_requireWheel dX1_times_1 rfl rfl (by decide) (by decide) (by first | decide | omega) (by first | decide | omega) (Nat.le_of_ble_eq_true rfl) rfl rfl (Nat.le_of_ble_eq_true rfl) ?_ ?_
  rotate_left
  · rintro E9 w9 h9; exact ne_out X ht (by obtain ⟨rfl, rfl, h9⟩ := h9; exact ⟨rfl, by first | exact Or.inl ⟨rfl, by omega⟩ | exact Or.inr ⟨rfl, by omega⟩⟩)
  rintro v1 w1 ⟨rfl, rfl, g1, k1⟩
  refine ne_iload_n X dX1_times_4 rfl ?_
  refine ne_callS X nw_Tg (me_X1_requireWheelS l hl _ _ (by omega)) nw_yX1_requireWheel nw_mX1_110 nw_sX1_requireWheel dX1_times_5 rfl rfl (by decide) (by decide) (by first | decide | omega) (by first | decide | omega) (Nat.le_of_ble_eq_true rfl) rfl rfl (Nat.le_of_ble_eq_true rfl) ?_ ?_
  rotate_left
  · rintro E9 w9 h9; exact ne_out X ht (by obtain ⟨rfl, rfl, h9⟩ := h9; exact ⟨rfl, by first | exact Or.inl ⟨rfl, by omega⟩ | exact Or.inr ⟨rfl, by omega⟩⟩)
  rintro v5 w5 ⟨rfl, rfl, g5, k5⟩
  refine ne_iload_n X dX1_times_8 rfl ?_
  refine ne_lconst (z := 0) (by decide) X dX1_times_9 ?_
  refine ne_ldc2 (z := 99) (by decide) nw_cX1_90 X dX1_times_10 ?_
  refine ne_callS X nw_Tg (me_X1_requireBetweenS l hl _ _ _ _ (by omega) (by omega) (by omega)) nw_yX1_requireBetween nw_mX1_49 nw_sX1_requireBetween dX1_times_13 rfl rfl (by decide) (by decide) (by first | decide | omega) (by first | decide | omega) (Nat.le_of_ble_eq_true rfl) rfl rfl (Nat.le_of_ble_eq_true rfl) ?_ ?_
  rotate_left
  · rintro E9 w9 h9; exact ne_out X ht (by obtain ⟨rfl, rfl, h9⟩ := h9; exact ⟨rfl, by first | exact Or.inl ⟨rfl, by omega⟩ | exact Or.inr ⟨rfl, by omega⟩⟩)
  rintro v13 w13 ⟨rfl, rfl, g13, k13⟩
  refine ne_aload_n X dX1_times_16 rfl ?_
  refine ne_iload_n X dX1_times_17 rfl ?_
  refine ne_iload_n X dX1_times_18 rfl ?_
  refine ne_aload_n X dX1_times_19 rfl ?_
  refine ne_getf X dX1_times_20 nw_fX1_16 rfl rfl ?_
  refine ne_iload_n X dX1_times_23 rfl ?_
  refine ne_ialdR X dX1_times_24 rfl (by omega) It (fun v24 e24 f24 u24 => ?_)
  have m25 := ne_mul a v24 99 98 (by omega) (by omega)
  have m26 : 0 ≤ a * v24 := Int.mul_nonneg (by omega) (by omega)
  refine ne_imul X dX1_times_25 ?_
  refine ne_aload_n X dX1_times_26 rfl ?_
  refine ne_getf X dX1_times_27 nw_fX1_19 rfl rfl ?_
  refine ne_iload_n X dX1_times_30 rfl ?_
  refine ne_ialdR X dX1_times_31 rfl (by omega) Ib (fun v31 e31 f31 u31 => ?_)
  refine ne_callS X nw_Tg (me_X1_leftover l hl _ _ _ (by omega) (by omega)) nw_yX1_leftover nw_mX1_147 nw_sX1_leftover dX1_times_32 rfl rfl (by decide) (by decide) (by first | decide | omega) (by first | decide | omega) (Nat.le_of_ble_eq_true rfl) rfl rfl (Nat.le_of_ble_eq_true rfl) ?_ ?_
  rotate_left
  · rintro E9 w9 h9; exact h9.elim
  rintro v32 w32 ⟨rfl, z32, rfl, g32⟩
  have t32 := (ne_tdm (a * v24) v31 (by omega)).1 m26
  obtain rfl : z32 = (a * v24).tmod v31 := by omega
  subst e24
  subst e31
  refine ne_aload_n X dX1_times_35 rfl ?_
  refine ne_getf X dX1_times_36 nw_fX1_19 rfl rfl ?_
  refine ne_iload_n X dX1_times_39 rfl ?_
  refine ne_ialdR X dX1_times_40 rfl (by omega) Ib (fun v40 e40 f40 u40 => ?_)
  refine ne_callV X nw_Tg (me_X1_bringWheel l hl c q t b k n h x y T (by exact ⟨Ic, Iq, It, Ib, Itb, Ik, In, Ih, Ix, Iy⟩) (by omega) _ _ _ (by omega) (by omega)) nw_yX1_bringWheel nw_mX1_131 nw_iX1_bringWheel nw_eX1_bringWheel (ci := 3) rfl rfl rfl dX1_times_41 rfl rfl (by decide) (by decide) (by first | decide | omega) (by first | decide | omega) (Nat.le_of_ble_eq_true rfl) rfl rfl (Nat.le_of_ble_eq_true rfl) ?_ ?_
  rotate_left
  · rintro E9 w9 h9; exact h9.elim
  rintro v41 w41 ⟨rfl, t41, b41, k41, n41, h41, rfl, It, Ib, Itb, Ik, In, Ih, g41, i41, j41, o41, L41, r41, m41, f41, u41, d41⟩
  subst e40
  subst g41
  subst i41
  subst j41
  subst r41
  refine ne_aload_n X dX1_times_44 rfl ?_
  refine ne_getf X dX1_times_45 nw_fX1_16 rfl rfl ?_
  refine ne_iload_n X dX1_times_48 rfl ?_
  refine ne_ialdR X dX1_times_49 rfl (by omega) It (fun v49 e49 f49 u49 => ?_)
  exact ne_iret X hr (by first | rfl | decide | rfl) dX1_times_50 ⟨_, L41, rfl, ⟨Ic, Iq, It, Ib, Itb, Ik, In, ne_rg_mono Ih (by omega) (by omega), Ix, Iy⟩, _, rfl, by omega, (by rw [e49, ne_ups]), by omega, by omega, ⟨m41, f41, u41, d41⟩, o41⟩
