set_option maxRecDepth 100000 in
set_option maxHeartbeats 4000000 in
theorem me_X3_count (l : Launch) (hl : l.stackTraces = false) (c q t b k h : Nat → Int) (vt T : Int) (hI : mI c q t b k h vt T) (hT : 0 ≤ T ∧ T ≤ 1000) (i : Int) (hi : -2147483648 ≤ i ∧ i < 2147483648)  : ne_M l nw_cl (.code yX3_count cX3_count 2 (some .int)) nw_T yX3_count 9 330 0 0 [.ref 0, ni i] (mW c q t b k h vt) (fun v w => (∃ v1, w = mW c q t b k h v1 ∧ mI c q t b k h v1 (T + 1)) ∧ ∃ z : Int, v = some (ni z) ∧ True) (fun _ _ => False) := by
  refine ne_meet (own := RX3) hl rfl (by decide +kernel) (Nat.le_of_ble_eq_true rfl) ?_
  intro D ct A P9 V9 R9 S9 M9 as9 bl9 mt9 C9 ad0 X hr hin ht
  obtain ⟨Ic, Iq, It, Ib, Itb, Igb, Ik, Ih, Iv⟩ := hI
  refine ne_aload_n X dX3_count_0 rfl ?_
  refine ne_iload_n X dX3_count_1 rfl ?_
  refine ne_callS X nw_Tg (me_X3_isNoCell l hl _ _ (by omega)) nw_yX3_isNoCell nw_mX3_66 nw_sX3_isNoCell dX3_count_2 rfl rfl (by decide) (by decide) (by first | decide | omega) (by first | decide | omega) (Nat.le_of_ble_eq_true rfl) rfl rfl (Nat.le_of_ble_eq_true rfl) ?_ ?_
  rotate_left
  · rintro E9 w9 h9; exact h9.elim
  rintro v2 w2 ⟨rfl, z2, rfl, g2⟩
  refine ne_iconst X dX3_count_5 ?_
  refine ne_callV X nw_Tg (me_X3_refuse l hl c q t b k h vt T (by exact ⟨Ic, Iq, It, Ib, Itb, Igb, Ik, Ih, Iv⟩) (by omega) _ _ (by omega) (by omega)) nw_yX3_refuse nw_mX3_72 nw_iX3_refuse nw_eX3_refuse (ci := 5) rfl rfl rfl dX3_count_6 rfl rfl (by decide) (by decide) (by first | decide | omega) (by first | decide | omega) (Nat.le_of_ble_eq_true rfl) rfl rfl (Nat.le_of_ble_eq_true rfl) ?_ ?_
  rotate_left
  · rintro E9 w9 h9; exact h9.elim
  rintro v6 w6 ⟨u6, rfl, Iv, z6, rfl, g6⟩
  refine ne_if_eq (tgt := 16) X dX3_count_9 rfl (by omega) (fun b9 => ?_) (fun b9 => ?_)
  · refine ne_aload_n X dX3_count_16 rfl ?_
    refine ne_getf X dX3_count_17 nw_fX3_9 rfl rfl ?_
    refine ne_iload_n X dX3_count_20 rfl ?_
    refine ne_ialdR X dX3_count_21 rfl (by omega) Ic (fun v21 e21 f21 u21 => ?_)
    exact ne_iret X hr (by first | rfl | decide | rfl) dX3_count_22 ⟨⟨_, rfl, Ic, Iq, It, Ib, Itb, Igb, Ik, ne_rg_mono Ih (by omega) (by omega), Iv⟩, _, rfl, trivial⟩
  · refine ne_iconst X dX3_count_12 ?_
    refine ne_goto (tgt := 22) X dX3_count_13 rfl ?_
    exact ne_iret X hr (by first | rfl | decide | rfl) dX3_count_22 ⟨⟨_, rfl, Ic, Iq, It, Ib, Itb, Igb, Ik, ne_rg_mono Ih (by omega) (by omega), Iv⟩, _, rfl, trivial⟩
set_option maxRecDepth 100000 in
set_option maxHeartbeats 4000000 in
theorem me_X3_places (l : Launch) (hl : l.stackTraces = false) (c q t b k h : Nat → Int) (vt T : Int) (hI : mI c q t b k h vt T) (hT : 0 ≤ T ∧ T ≤ 1000) (i : Int) (hi : -2147483648 ≤ i ∧ i < 2147483648)  : ne_M l nw_cl (.code yX3_places cX3_places 2 (some .int)) nw_T yX3_places 9 330 0 0 [.ref 0, ni i] (mW c q t b k h vt) (fun v w => (∃ v1, w = mW c q t b k h v1 ∧ mI c q t b k h v1 (T + 1)) ∧ ∃ z : Int, v = some (ni z) ∧ True) (fun _ _ => False) := by
  refine ne_meet (own := RX3) hl rfl (by decide +kernel) (Nat.le_of_ble_eq_true rfl) ?_
  intro D ct A P9 V9 R9 S9 M9 as9 bl9 mt9 C9 ad0 X hr hin ht
  obtain ⟨Ic, Iq, It, Ib, Itb, Igb, Ik, Ih, Iv⟩ := hI
  refine ne_aload_n X dX3_places_0 rfl ?_
  refine ne_iload_n X dX3_places_1 rfl ?_
  refine ne_callS X nw_Tg (me_X3_isNoCell l hl _ _ (by omega)) nw_yX3_isNoCell nw_mX3_66 nw_sX3_isNoCell dX3_places_2 rfl rfl (by decide) (by decide) (by first | decide | omega) (by first | decide | omega) (Nat.le_of_ble_eq_true rfl) rfl rfl (Nat.le_of_ble_eq_true rfl) ?_ ?_
  rotate_left
  · rintro E9 w9 h9; exact h9.elim
  rintro v2 w2 ⟨rfl, z2, rfl, g2⟩
  refine ne_iconst X dX3_places_5 ?_
  refine ne_callV X nw_Tg (me_X3_refuse l hl c q t b k h vt T (by exact ⟨Ic, Iq, It, Ib, Itb, Igb, Ik, Ih, Iv⟩) (by omega) _ _ (by omega) (by omega)) nw_yX3_refuse nw_mX3_72 nw_iX3_refuse nw_eX3_refuse (ci := 5) rfl rfl rfl dX3_places_6 rfl rfl (by decide) (by decide) (by first | decide | omega) (by first | decide | omega) (Nat.le_of_ble_eq_true rfl) rfl rfl (Nat.le_of_ble_eq_true rfl) ?_ ?_
  rotate_left
  · rintro E9 w9 h9; exact h9.elim
  rintro v6 w6 ⟨u6, rfl, Iv, z6, rfl, g6⟩
  refine ne_if_eq (tgt := 16) X dX3_places_9 rfl (by omega) (fun b9 => ?_) (fun b9 => ?_)
  · refine ne_aload_n X dX3_places_16 rfl ?_
    refine ne_getf X dX3_places_17 nw_fX3_15 rfl rfl ?_
    refine ne_iload_n X dX3_places_20 rfl ?_
    refine ne_ialdR X dX3_places_21 rfl (by omega) Iq (fun v21 e21 f21 u21 => ?_)
    exact ne_iret X hr (by first | rfl | decide | rfl) dX3_places_22 ⟨⟨_, rfl, Ic, Iq, It, Ib, Itb, Igb, Ik, ne_rg_mono Ih (by omega) (by omega), Iv⟩, _, rfl, trivial⟩
  · refine ne_iconst X dX3_places_12 ?_
    refine ne_goto (tgt := 22) X dX3_places_13 rfl ?_
    exact ne_iret X hr (by first | rfl | decide | rfl) dX3_places_22 ⟨⟨_, rfl, Ic, Iq, It, Ib, Itb, Igb, Ik, ne_rg_mono Ih (by omega) (by omega), Iv⟩, _, rfl, trivial⟩
set_option maxRecDepth 100000 in
set_option maxHeartbeats 4000000 in
theorem me_X3_sign (l : Launch) (hl : l.stackTraces = false) (c q t b k h : Nat → Int) (vt T : Int) (hI : mI c q t b k h vt T) (hT : 0 ≤ T ∧ T ≤ 1000) (i : Int) (hi : -2147483648 ≤ i ∧ i < 2147483648)  : ne_M l nw_cl (.code yX3_sign cX3_sign 2 (some .int)) nw_T yX3_sign 9 330 0 0 [.ref 0, ni i] (mW c q t b k h vt) (fun v w => (∃ v1, w = mW c q t b k h v1 ∧ mI c q t b k h v1 (T + 1)) ∧ ∃ z : Int, v = some (ni z) ∧ True) (fun _ _ => False) := by
  refine ne_meet (own := RX3) hl rfl (by decide +kernel) (Nat.le_of_ble_eq_true rfl) ?_
  intro D ct A P9 V9 R9 S9 M9 as9 bl9 mt9 C9 ad0 X hr hin ht
  obtain ⟨Ic, Iq, It, Ib, Itb, Igb, Ik, Ih, Iv⟩ := hI
  refine ne_aload_n X dX3_sign_0 rfl ?_
  refine ne_iload_n X dX3_sign_1 rfl ?_
  refine ne_callS X nw_Tg (me_X3_isNoCell l hl _ _ (by omega)) nw_yX3_isNoCell nw_mX3_66 nw_sX3_isNoCell dX3_sign_2 rfl rfl (by decide) (by decide) (by first | decide | omega) (by first | decide | omega) (Nat.le_of_ble_eq_true rfl) rfl rfl (Nat.le_of_ble_eq_true rfl) ?_ ?_
  rotate_left
  · rintro E9 w9 h9; exact h9.elim
  rintro v2 w2 ⟨rfl, z2, rfl, g2⟩
  refine ne_iconst X dX3_sign_5 ?_
  refine ne_callV X nw_Tg (me_X3_refuse l hl c q t b k h vt T (by exact ⟨Ic, Iq, It, Ib, Itb, Igb, Ik, Ih, Iv⟩) (by omega) _ _ (by omega) (by omega)) nw_yX3_refuse nw_mX3_72 nw_iX3_refuse nw_eX3_refuse (ci := 5) rfl rfl rfl dX3_sign_6 rfl rfl (by decide) (by decide) (by first | decide | omega) (by first | decide | omega) (Nat.le_of_ble_eq_true rfl) rfl rfl (Nat.le_of_ble_eq_true rfl) ?_ ?_
  rotate_left
  · rintro E9 w9 h9; exact h9.elim
  rintro v6 w6 ⟨u6, rfl, Iv, z6, rfl, g6⟩
  refine ne_if_eq (tgt := 16) X dX3_sign_9 rfl (by omega) (fun b9 => ?_) (fun b9 => ?_)
  · refine ne_aload_n X dX3_sign_16 rfl ?_
    refine ne_getf X dX3_sign_17 nw_fX3_9 rfl rfl ?_
    refine ne_iload_n X dX3_sign_20 rfl ?_
    refine ne_ialdR X dX3_sign_21 rfl (by omega) Ic (fun v21 e21 f21 u21 => ?_)
    refine ne_i2l (by omega) X dX3_sign_22 ?_
    refine ne_lconst (z := 0) (by decide) X dX3_sign_23 ?_
    refine ne_callS X nw_Tg (me_X3_side l hl _ _ _ (by omega) (by omega)) nw_yX3_side nw_mX3_48 nw_sX3_side dX3_sign_24 rfl rfl (by decide) (by decide) (by first | decide | omega) (by first | decide | omega) (Nat.le_of_ble_eq_true rfl) rfl rfl (Nat.le_of_ble_eq_true rfl) ?_ ?_
    rotate_left
    · rintro E9 w9 h9; exact h9.elim
    rintro v24 w24 ⟨rfl, z24, rfl, g24, k24, i24, j24⟩
    exact ne_iret X hr (by first | rfl | decide | rfl) dX3_sign_27 ⟨⟨_, rfl, Ic, Iq, It, Ib, Itb, Igb, Ik, ne_rg_mono Ih (by omega) (by omega), Iv⟩, _, rfl, trivial⟩
  · refine ne_iconst X dX3_sign_12 ?_
    refine ne_goto (tgt := 27) X dX3_sign_13 rfl ?_
    exact ne_iret X hr (by first | rfl | decide | rfl) dX3_sign_27 ⟨⟨_, rfl, Ic, Iq, It, Ib, Itb, Igb, Ik, ne_rg_mono Ih (by omega) (by omega), Iv⟩, _, rfl, trivial⟩
set_option maxRecDepth 100000 in
set_option maxHeartbeats 4000000 in
theorem me_X3_digits (l : Launch) (hl : l.stackTraces = false) (c q t b k h : Nat → Int) (vt T : Int) (hI : mI c q t b k h vt T) (hT : 0 ≤ T ∧ T ≤ 1000) (i : Int) (hi : -2147483648 ≤ i ∧ i < 2147483648)  : ne_M l nw_cl (.code yX3_digits cX3_digits 2 (some .int)) nw_T yX3_digits 9 330 0 0 [.ref 0, ni i] (mW c q t b k h vt) (fun v w => (∃ v1, w = mW c q t b k h v1 ∧ mI c q t b k h v1 (T + 1)) ∧ ∃ z : Int, v = some (ni z) ∧ True) (fun _ _ => False) := by
  refine ne_meet (own := RX3) hl rfl (by decide +kernel) (Nat.le_of_ble_eq_true rfl) ?_
  intro D ct A P9 V9 R9 S9 M9 as9 bl9 mt9 C9 ad0 X hr hin ht
  obtain ⟨Ic, Iq, It, Ib, Itb, Igb, Ik, Ih, Iv⟩ := hI
  refine ne_aload_n X dX3_digits_0 rfl ?_
  refine ne_iload_n X dX3_digits_1 rfl ?_
  refine ne_callS X nw_Tg (me_X3_isNoCell l hl _ _ (by omega)) nw_yX3_isNoCell nw_mX3_66 nw_sX3_isNoCell dX3_digits_2 rfl rfl (by decide) (by decide) (by first | decide | omega) (by first | decide | omega) (Nat.le_of_ble_eq_true rfl) rfl rfl (Nat.le_of_ble_eq_true rfl) ?_ ?_
  rotate_left
  · rintro E9 w9 h9; exact h9.elim
  rintro v2 w2 ⟨rfl, z2, rfl, g2⟩
  refine ne_iconst X dX3_digits_5 ?_
  refine ne_callV X nw_Tg (me_X3_refuse l hl c q t b k h vt T (by exact ⟨Ic, Iq, It, Ib, Itb, Igb, Ik, Ih, Iv⟩) (by omega) _ _ (by omega) (by omega)) nw_yX3_refuse nw_mX3_72 nw_iX3_refuse nw_eX3_refuse (ci := 5) rfl rfl rfl dX3_digits_6 rfl rfl (by decide) (by decide) (by first | decide | omega) (by first | decide | omega) (Nat.le_of_ble_eq_true rfl) rfl rfl (Nat.le_of_ble_eq_true rfl) ?_ ?_
  rotate_left
  · rintro E9 w9 h9; exact h9.elim
  rintro v6 w6 ⟨u6, rfl, Iv, z6, rfl, g6⟩
  refine ne_if_eq (tgt := 16) X dX3_digits_9 rfl (by omega) (fun b9 => ?_) (fun b9 => ?_)
  · refine ne_aload_n X dX3_digits_16 rfl ?_
    refine ne_getf X dX3_digits_17 nw_fX3_9 rfl rfl ?_
    refine ne_iload_n X dX3_digits_20 rfl ?_
    refine ne_ialdR X dX3_digits_21 rfl (by omega) Ic (fun v21 e21 f21 u21 => ?_)
    refine ne_i2l (by omega) X dX3_digits_22 ?_
    refine ne_callS X nw_Tg (me_X3_digitsOf l hl _ _ (by omega)) nw_yX3_digitsOf nw_mX3_97 nw_sX3_digitsOf dX3_digits_23 rfl rfl (by decide) (by decide) (by first | decide | omega) (by first | decide | omega) (Nat.le_of_ble_eq_true rfl) rfl rfl (Nat.le_of_ble_eq_true rfl) ?_ ?_
    rotate_left
    · rintro E9 w9 h9; exact h9.elim
    rintro v23 w23 ⟨rfl, z23, rfl, g23, k23⟩
    exact ne_iret X hr (by first | rfl | decide | rfl) dX3_digits_26 ⟨⟨_, rfl, Ic, Iq, It, Ib, Itb, Igb, Ik, ne_rg_mono Ih (by omega) (by omega), Iv⟩, _, rfl, trivial⟩
  · refine ne_iconst X dX3_digits_12 ?_
    refine ne_goto (tgt := 26) X dX3_digits_13 rfl ?_
    exact ne_iret X hr (by first | rfl | decide | rfl) dX3_digits_26 ⟨⟨_, rfl, Ic, Iq, It, Ib, Itb, Igb, Ik, ne_rg_mono Ih (by omega) (by omega), Iv⟩, _, rfl, trivial⟩
set_option maxRecDepth 100000 in
set_option maxHeartbeats 4000000 in
theorem me_X3_order (l : Launch) (hl : l.stackTraces = false) (c q t b k h : Nat → Int) (vt T : Int) (hI : mI c q t b k h vt T) (hT : 0 ≤ T ∧ T ≤ 1000) (i : Int) (j : Int) (hi : -2147483648 ≤ i ∧ i < 2147483648) (hj : -2147483648 ≤ j ∧ j < 2147483648)  : ne_M l nw_cl (.code yX3_order cX3_order 3 (some .int)) nw_T yX3_order 9 330 0 0 [.ref 0, ni i, ni j] (mW c q t b k h vt) (fun v w => (∃ v1, w = mW c q t b k h v1 ∧ mI c q t b k h v1 (T + 1)) ∧ ∃ z : Int, v = some (ni z) ∧ True) (fun _ _ => False) := by
  refine ne_meet (own := RX3) hl rfl (by decide +kernel) (Nat.le_of_ble_eq_true rfl) ?_
  intro D ct A P9 V9 R9 S9 M9 as9 bl9 mt9 C9 ad0 X hr hin ht
  obtain ⟨Ic, Iq, It, Ib, Itb, Igb, Ik, Ih, Iv⟩ := hI
  refine ne_aload_n X dX3_order_0 rfl ?_
  refine ne_iload_n X dX3_order_1 rfl ?_
  refine ne_callS X nw_Tg (me_X3_isNoCell l hl _ _ (by omega)) nw_yX3_isNoCell nw_mX3_66 nw_sX3_isNoCell dX3_order_2 rfl rfl (by decide) (by decide) (by first | decide | omega) (by first | decide | omega) (Nat.le_of_ble_eq_true rfl) rfl rfl (Nat.le_of_ble_eq_true rfl) ?_ ?_
  rotate_left
  · rintro E9 w9 h9; exact h9.elim
  rintro v2 w2 ⟨rfl, z2, rfl, g2⟩
  refine ne_if_ne (tgt := 15) X dX3_order_5 rfl (by omega) (fun b5 => ?_) (fun b5 => ?_)
  · refine ne_iconst X dX3_order_15 ?_
    refine ne_goto (tgt := 20) X dX3_order_16 rfl ?_
    refine ne_iconst X dX3_order_20 ?_
    refine ne_callV X nw_Tg (me_X3_refuse l hl c q t b k h vt T (by exact ⟨Ic, Iq, It, Ib, Itb, Igb, Ik, Ih, Iv⟩) (by omega) _ _ (by omega) (by omega)) nw_yX3_refuse nw_mX3_72 nw_iX3_refuse nw_eX3_refuse (ci := 5) rfl rfl rfl dX3_order_21 rfl rfl (by decide) (by decide) (by first | decide | omega) (by first | decide | omega) (Nat.le_of_ble_eq_true rfl) rfl rfl (Nat.le_of_ble_eq_true rfl) ?_ ?_
    rotate_left
    · rintro E9 w9 h9; exact h9.elim
    rintro v21 w21 ⟨u21, rfl, Iv, z21, rfl, g21⟩
    refine ne_if_eq (tgt := 31) X dX3_order_24 rfl (by omega) (fun b24 => ?_) (fun b24 => ?_)
    · exfalso; omega
    · refine ne_iconst X dX3_order_27 ?_
      refine ne_goto (tgt := 37) X dX3_order_28 rfl ?_
      exact ne_iret X hr (by first | rfl | decide | rfl) dX3_order_37 ⟨⟨_, rfl, Ic, Iq, It, Ib, Itb, Igb, Ik, ne_rg_mono Ih (by omega) (by omega), Iv⟩, _, rfl, trivial⟩
  · refine ne_iload_n X dX3_order_8 rfl ?_
    refine ne_callS X nw_Tg (me_X3_isNoCell l hl _ _ (by omega)) nw_yX3_isNoCell nw_mX3_66 nw_sX3_isNoCell dX3_order_9 rfl rfl (by decide) (by decide) (by first | decide | omega) (by first | decide | omega) (Nat.le_of_ble_eq_true rfl) rfl rfl (Nat.le_of_ble_eq_true rfl) ?_ ?_
    rotate_left
    · rintro E9 w9 h9; exact h9.elim
    rintro v9 w9 ⟨rfl, z9, rfl, g9⟩
    refine ne_if_eq (tgt := 19) X dX3_order_12 rfl (by omega) (fun b12 => ?_) (fun b12 => ?_)
    · refine ne_iconst X dX3_order_19 ?_
      refine ne_iconst X dX3_order_20 ?_
      refine ne_callV X nw_Tg (me_X3_refuse l hl c q t b k h vt T (by exact ⟨Ic, Iq, It, Ib, Itb, Igb, Ik, Ih, Iv⟩) (by omega) _ _ (by omega) (by omega)) nw_yX3_refuse nw_mX3_72 nw_iX3_refuse nw_eX3_refuse (ci := 5) rfl rfl rfl dX3_order_21 rfl rfl (by decide) (by decide) (by first | decide | omega) (by first | decide | omega) (Nat.le_of_ble_eq_true rfl) rfl rfl (Nat.le_of_ble_eq_true rfl) ?_ ?_
      rotate_left
      · rintro E9 w9 h9; exact h9.elim
      rintro v21 w21 ⟨u21, rfl, Iv, z21, rfl, g21⟩
      refine ne_if_eq (tgt := 31) X dX3_order_24 rfl (by omega) (fun b24 => ?_) (fun b24 => ?_)
      · refine ne_aload_n X dX3_order_31 rfl ?_
        refine ne_iload_n X dX3_order_32 rfl ?_
        refine ne_iload_n X dX3_order_33 rfl ?_
        refine ne_callV X nw_Tg (me_X3_ordered l hl c q t b k h u21 T (by exact ⟨Ic, Iq, It, Ib, Itb, Igb, Ik, Ih, Iv⟩) (by omega) _ _ (by omega) (by omega)) nw_yX3_ordered nw_mX3_101 nw_iX3_ordered nw_eX3_ordered (ci := 5) rfl rfl rfl dX3_order_34 rfl rfl (by decide) (by decide) (by first | decide | omega) (by first | decide | omega) (Nat.le_of_ble_eq_true rfl) rfl rfl (Nat.le_of_ble_eq_true rfl) ?_ ?_
        rotate_left
        · rintro E9 w9 h9; exact h9.elim
        rintro v34 w34 ⟨rfl, z34, rfl, g34, k34⟩
        exact ne_iret X hr (by first | rfl | decide | rfl) dX3_order_37 ⟨⟨_, rfl, Ic, Iq, It, Ib, Itb, Igb, Ik, ne_rg_mono Ih (by omega) (by omega), Iv⟩, _, rfl, trivial⟩
      · exfalso; omega
    · refine ne_iconst X dX3_order_15 ?_
      refine ne_goto (tgt := 20) X dX3_order_16 rfl ?_
      refine ne_iconst X dX3_order_20 ?_
      refine ne_callV X nw_Tg (me_X3_refuse l hl c q t b k h vt T (by exact ⟨Ic, Iq, It, Ib, Itb, Igb, Ik, Ih, Iv⟩) (by omega) _ _ (by omega) (by omega)) nw_yX3_refuse nw_mX3_72 nw_iX3_refuse nw_eX3_refuse (ci := 5) rfl rfl rfl dX3_order_21 rfl rfl (by decide) (by decide) (by first | decide | omega) (by first | decide | omega) (Nat.le_of_ble_eq_true rfl) rfl rfl (Nat.le_of_ble_eq_true rfl) ?_ ?_
      rotate_left
      · rintro E9 w9 h9; exact h9.elim
      rintro v21 w21 ⟨u21, rfl, Iv, z21, rfl, g21⟩
      refine ne_if_eq (tgt := 31) X dX3_order_24 rfl (by omega) (fun b24 => ?_) (fun b24 => ?_)
      · exfalso; omega
      · refine ne_iconst X dX3_order_27 ?_
        refine ne_goto (tgt := 37) X dX3_order_28 rfl ?_
        exact ne_iret X hr (by first | rfl | decide | rfl) dX3_order_37 ⟨⟨_, rfl, Ic, Iq, It, Ib, Itb, Igb, Ik, ne_rg_mono Ih (by omega) (by omega), Iv⟩, _, rfl, trivial⟩
set_option maxRecDepth 100000 in
set_option maxHeartbeats 4000000 in
theorem me_X3_same (l : Launch) (hl : l.stackTraces = false) (c q t b k h : Nat → Int) (vt T : Int) (hI : mI c q t b k h vt T) (hT : 0 ≤ T ∧ T ≤ 1000) (i : Int) (j : Int) (hi : -2147483648 ≤ i ∧ i < 2147483648) (hj : -2147483648 ≤ j ∧ j < 2147483648)  : ne_M l nw_cl (.code yX3_same cX3_same 3 (some .boolean)) nw_T yX3_same 9 330 0 0 [.ref 0, ni i, ni j] (mW c q t b k h vt) (fun v w => (∃ v1, w = mW c q t b k h v1 ∧ mI c q t b k h v1 (T + 1)) ∧ ∃ z : Int, v = some (ni z) ∧ True) (fun _ _ => False) := by
  refine ne_meet (own := RX3) hl rfl (by decide +kernel) (Nat.le_of_ble_eq_true rfl) ?_
  intro D ct A P9 V9 R9 S9 M9 as9 bl9 mt9 C9 ad0 X hr hin ht
  obtain ⟨Ic, Iq, It, Ib, Itb, Igb, Ik, Ih, Iv⟩ := hI
  refine ne_aload_n X dX3_same_0 rfl ?_
  refine ne_iload_n X dX3_same_1 rfl ?_
  refine ne_callS X nw_Tg (me_X3_isNoCell l hl _ _ (by omega)) nw_yX3_isNoCell nw_mX3_66 nw_sX3_isNoCell dX3_same_2 rfl rfl (by decide) (by decide) (by first | decide | omega) (by first | decide | omega) (Nat.le_of_ble_eq_true rfl) rfl rfl (Nat.le_of_ble_eq_true rfl) ?_ ?_
  rotate_left
  · rintro E9 w9 h9; exact h9.elim
  rintro v2 w2 ⟨rfl, z2, rfl, g2⟩
  refine ne_if_ne (tgt := 15) X dX3_same_5 rfl (by omega) (fun b5 => ?_) (fun b5 => ?_)
  · refine ne_iconst X dX3_same_15 ?_
    refine ne_goto (tgt := 20) X dX3_same_16 rfl ?_
    refine ne_iconst X dX3_same_20 ?_
    refine ne_callV X nw_Tg (me_X3_refuse l hl c q t b k h vt T (by exact ⟨Ic, Iq, It, Ib, Itb, Igb, Ik, Ih, Iv⟩) (by omega) _ _ (by omega) (by omega)) nw_yX3_refuse nw_mX3_72 nw_iX3_refuse nw_eX3_refuse (ci := 5) rfl rfl rfl dX3_same_21 rfl rfl (by decide) (by decide) (by first | decide | omega) (by first | decide | omega) (Nat.le_of_ble_eq_true rfl) rfl rfl (Nat.le_of_ble_eq_true rfl) ?_ ?_
    rotate_left
    · rintro E9 w9 h9; exact h9.elim
    rintro v21 w21 ⟨u21, rfl, Iv, z21, rfl, g21⟩
    refine ne_if_ne (tgt := 40) X dX3_same_24 rfl (by omega) (fun b24 => ?_) (fun b24 => ?_)
    · refine ne_iconst X dX3_same_40 ?_
      exact ne_iret X hr (by first | rfl | decide | rfl) dX3_same_41 ⟨⟨_, rfl, Ic, Iq, It, Ib, Itb, Igb, Ik, ne_rg_mono Ih (by omega) (by omega), Iv⟩, _, rfl, trivial⟩
    · exfalso; omega
  · refine ne_iload_n X dX3_same_8 rfl ?_
    refine ne_callS X nw_Tg (me_X3_isNoCell l hl _ _ (by omega)) nw_yX3_isNoCell nw_mX3_66 nw_sX3_isNoCell dX3_same_9 rfl rfl (by decide) (by decide) (by first | decide | omega) (by first | decide | omega) (Nat.le_of_ble_eq_true rfl) rfl rfl (Nat.le_of_ble_eq_true rfl) ?_ ?_
    rotate_left
    · rintro E9 w9 h9; exact h9.elim
    rintro v9 w9 ⟨rfl, z9, rfl, g9⟩
    refine ne_if_eq (tgt := 19) X dX3_same_12 rfl (by omega) (fun b12 => ?_) (fun b12 => ?_)
    · refine ne_iconst X dX3_same_19 ?_
      refine ne_iconst X dX3_same_20 ?_
      refine ne_callV X nw_Tg (me_X3_refuse l hl c q t b k h vt T (by exact ⟨Ic, Iq, It, Ib, Itb, Igb, Ik, Ih, Iv⟩) (by omega) _ _ (by omega) (by omega)) nw_yX3_refuse nw_mX3_72 nw_iX3_refuse nw_eX3_refuse (ci := 5) rfl rfl rfl dX3_same_21 rfl rfl (by decide) (by decide) (by first | decide | omega) (by first | decide | omega) (Nat.le_of_ble_eq_true rfl) rfl rfl (Nat.le_of_ble_eq_true rfl) ?_ ?_
      rotate_left
      · rintro E9 w9 h9; exact h9.elim
      rintro v21 w21 ⟨u21, rfl, Iv, z21, rfl, g21⟩
      refine ne_if_ne (tgt := 40) X dX3_same_24 rfl (by omega) (fun b24 => ?_) (fun b24 => ?_)
      · exfalso; omega
      · refine ne_aload_n X dX3_same_27 rfl ?_
        refine ne_iload_n X dX3_same_28 rfl ?_
        refine ne_iload_n X dX3_same_29 rfl ?_
        refine ne_callV X nw_Tg (me_X3_areSame l hl c q t b k h u21 T (by exact ⟨Ic, Iq, It, Ib, Itb, Igb, Ik, Ih, Iv⟩) (by omega) _ _ (by omega) (by omega)) nw_yX3_areSame nw_mX3_132 nw_iX3_areSame nw_eX3_areSame (ci := 5) rfl rfl rfl dX3_same_30 rfl rfl (by decide) (by decide) (by first | decide | omega) (by first | decide | omega) (Nat.le_of_ble_eq_true rfl) rfl rfl (Nat.le_of_ble_eq_true rfl) ?_ ?_
        rotate_left
        · rintro E9 w9 h9; exact h9.elim
        rintro v30 w30 ⟨rfl, z30, rfl, g30, k30⟩
        refine ne_if_eq (tgt := 40) X dX3_same_33 rfl (by omega) (fun b33 => ?_) (fun b33 => ?_)
        · refine ne_iconst X dX3_same_40 ?_
          exact ne_iret X hr (by first | rfl | decide | rfl) dX3_same_41 ⟨⟨_, rfl, Ic, Iq, It, Ib, Itb, Igb, Ik, ne_rg_mono Ih (by omega) (by omega), Iv⟩, _, rfl, trivial⟩
        · refine ne_iconst X dX3_same_36 ?_
          refine ne_goto (tgt := 41) X dX3_same_37 rfl ?_
          exact ne_iret X hr (by first | rfl | decide | rfl) dX3_same_41 ⟨⟨_, rfl, Ic, Iq, It, Ib, Itb, Igb, Ik, ne_rg_mono Ih (by omega) (by omega), Iv⟩, _, rfl, trivial⟩
    · refine ne_iconst X dX3_same_15 ?_
      refine ne_goto (tgt := 20) X dX3_same_16 rfl ?_
      refine ne_iconst X dX3_same_20 ?_
      refine ne_callV X nw_Tg (me_X3_refuse l hl c q t b k h vt T (by exact ⟨Ic, Iq, It, Ib, Itb, Igb, Ik, Ih, Iv⟩) (by omega) _ _ (by omega) (by omega)) nw_yX3_refuse nw_mX3_72 nw_iX3_refuse nw_eX3_refuse (ci := 5) rfl rfl rfl dX3_same_21 rfl rfl (by decide) (by decide) (by first | decide | omega) (by first | decide | omega) (Nat.le_of_ble_eq_true rfl) rfl rfl (Nat.le_of_ble_eq_true rfl) ?_ ?_
      rotate_left
      · rintro E9 w9 h9; exact h9.elim
      rintro v21 w21 ⟨u21, rfl, Iv, z21, rfl, g21⟩
      refine ne_if_ne (tgt := 40) X dX3_same_24 rfl (by omega) (fun b24 => ?_) (fun b24 => ?_)
      · refine ne_iconst X dX3_same_40 ?_
        exact ne_iret X hr (by first | rfl | decide | rfl) dX3_same_41 ⟨⟨_, rfl, Ic, Iq, It, Ib, Itb, Igb, Ik, ne_rg_mono Ih (by omega) (by omega), Iv⟩, _, rfl, trivial⟩
      · exfalso; omega
set_option maxRecDepth 100000 in
set_option maxHeartbeats 4000000 in
theorem me_X3_spoke (l : Launch) (hl : l.stackTraces = false) (c q t b k h : Nat → Int) (vt T : Int) (hI : mI c q t b k h vt T) (hT : 0 ≤ T ∧ T ≤ 1000) (i : Int) (a : Int) (hi : -2147483648 ≤ i ∧ i < 2147483648) (ha : -2147483648 ≤ a ∧ a < 2147483648)  : ne_M l nw_cl (.code yX3_spoke cX3_spoke 3 (some .int)) nw_T yX3_spoke 9 330 0 0 [.ref 0, ni i, ni a] (mW c q t b k h vt) (fun v w => (∃ v1, w = mW c q t b k h v1 ∧ mI c q t b k h v1 (T + 1)) ∧ ∃ z : Int, v = some (ni z) ∧ True) (fun _ _ => False) := by
  refine ne_meet (own := RX3) hl rfl (by decide +kernel) (Nat.le_of_ble_eq_true rfl) ?_
  intro D ct A P9 V9 R9 S9 M9 as9 bl9 mt9 C9 ad0 X hr hin ht
  obtain ⟨Ic, Iq, It, Ib, Itb, Igb, Ik, Ih, Iv⟩ := hI
  refine ne_aload_n X dX3_spoke_0 rfl ?_
  refine ne_iload_n X dX3_spoke_1 rfl ?_
  refine ne_callS X nw_Tg (me_X3_isNoWheel l hl _ _ (by omega)) nw_yX3_isNoWheel nw_mX3_104 nw_sX3_isNoWheel dX3_spoke_2 rfl rfl (by decide) (by decide) (by first | decide | omega) (by first | decide | omega) (Nat.le_of_ble_eq_true rfl) rfl rfl (Nat.le_of_ble_eq_true rfl) ?_ ?_
  rotate_left
  · rintro E9 w9 h9; exact h9.elim
  rintro v2 w2 ⟨rfl, z2, rfl, g2⟩
  refine ne_iload_n X dX3_spoke_5 rfl ?_
  refine ne_iconst X dX3_spoke_6 ?_
  refine ne_iconst X dX3_spoke_7 ?_
  refine ne_callS X nw_Tg (me_X3_isOut l hl _ _ _ _ (by omega) (by omega) (by omega)) nw_yX3_isOut nw_mX3_34 nw_sX3_isOut dX3_spoke_8 rfl rfl (by decide) (by decide) (by first | decide | omega) (by first | decide | omega) (Nat.le_of_ble_eq_true rfl) rfl rfl (Nat.le_of_ble_eq_true rfl) ?_ ?_
  rotate_left
  · rintro E9 w9 h9; exact h9.elim
  rintro v8 w8 ⟨rfl, z8, rfl, g8⟩
  refine ne_callV X nw_Tg (me_X3_refuse l hl c q t b k h vt T (by exact ⟨Ic, Iq, It, Ib, Itb, Igb, Ik, Ih, Iv⟩) (by omega) _ _ (by omega) (by omega)) nw_yX3_refuse nw_mX3_72 nw_iX3_refuse nw_eX3_refuse (ci := 5) rfl rfl rfl dX3_spoke_11 rfl rfl (by decide) (by decide) (by first | decide | omega) (by first | decide | omega) (Nat.le_of_ble_eq_true rfl) rfl rfl (Nat.le_of_ble_eq_true rfl) ?_ ?_
  rotate_left
  · rintro E9 w9 h9; exact h9.elim
  rintro v11 w11 ⟨u11, rfl, Iv, z11, rfl, g11⟩
  refine ne_if_eq (tgt := 21) X dX3_spoke_14 rfl (by omega) (fun b14 => ?_) (fun b14 => ?_)
  · refine ne_aload_n X dX3_spoke_21 rfl ?_
    refine ne_iload_n X dX3_spoke_22 rfl ?_
    refine ne_iload_n X dX3_spoke_23 rfl ?_
    refine ne_callV X nw_Tg (me_X3_spokeOf l hl c q t b k h u11 T (by exact ⟨Ic, Iq, It, Ib, Itb, Igb, Ik, Ih, Iv⟩) (by omega) _ _ (by omega) (by omega)) nw_yX3_spokeOf nw_mX3_153 nw_iX3_spokeOf nw_eX3_spokeOf (ci := 5) rfl rfl rfl dX3_spoke_24 rfl rfl (by decide) (by decide) (by first | decide | omega) (by first | decide | omega) (Nat.le_of_ble_eq_true rfl) rfl rfl (Nat.le_of_ble_eq_true rfl) ?_ ?_
    rotate_left
    · rintro E9 w9 h9; exact h9.elim
    rintro v24 w24 ⟨rfl, z24, rfl, g24, k24⟩
    exact ne_iret X hr (by first | rfl | decide | rfl) dX3_spoke_27 ⟨⟨_, rfl, Ic, Iq, It, Ib, Itb, Igb, Ik, ne_rg_mono Ih (by omega) (by omega), Iv⟩, _, rfl, trivial⟩
  · refine ne_iconst X dX3_spoke_17 ?_
    refine ne_goto (tgt := 27) X dX3_spoke_18 rfl ?_
    exact ne_iret X hr (by first | rfl | decide | rfl) dX3_spoke_27 ⟨⟨_, rfl, Ic, Iq, It, Ib, Itb, Igb, Ik, ne_rg_mono Ih (by omega) (by omega), Iv⟩, _, rfl, trivial⟩
set_option maxRecDepth 100000 in
set_option maxHeartbeats 4000000 in
theorem me_X3_lowest (l : Launch) (hl : l.stackTraces = false) (c q t b k h : Nat → Int) (vt T : Int) (hI : mI c q t b k h vt T) (hT : 0 ≤ T ∧ T ≤ 1000) (i : Int) (hi : -2147483648 ≤ i ∧ i < 2147483648)  : ne_M l nw_cl (.code yX3_lowest cX3_lowest 3 (some .int)) nw_T yX3_lowest 9 330 0 0 [.ref 0, ni i] (mW c q t b k h vt) (fun v w => (∃ v1, w = mW c q t b k h v1 ∧ mI c q t b k h v1 (T + 1)) ∧ ∃ z : Int, v = some (ni z) ∧ True) (fun _ _ => False) := by
  refine ne_meet (own := RX3) hl rfl (by decide +kernel) (Nat.le_of_ble_eq_true rfl) ?_
  intro D ct A P9 V9 R9 S9 M9 as9 bl9 mt9 C9 ad0 X hr hin ht
  obtain ⟨Ic, Iq, It, Ib, Itb, Igb, Ik, Ih, Iv⟩ := hI
  have lp16 : ∀ (n9 : Nat) (j : Int), (100 - j).toNat < n9 → (1 ≤ j) → (j ≤ b i.toNat) → (0 ≤ i ∧ i < 3) → ne_G nw_cl D ct A 7 ad0 P9 l V9 R9 S9 M9 as9 bl9 mt9 C9 (ne_O nw_cl D ct ad0 7 A bl9 as9 S9 0 0 (fun v w => (∃ v1, w = mW c q t b k h v1 ∧ mI c q t b k h v1 (T + 1)) ∧ ∃ z : Int, v = some (ni z) ∧ True) (fun _ _ => False)) 3 0 0 0 0 16 [some (.ref 0), some (ni i), some (ni j)] [] (mW c q t b k h 0) := by
    intro n9
    induction n9 with
    | zero => intro j hm9 q1 q2 q6; exfalso; omega
    | succ n9 ih =>
      intro j hm9 q1 q2 q6
      have Iv : (0 : Int) ≤ 0 ∧ (0 : Int) ≤ 2 := by omega
      have hb9 := Ib i.toNat
      refine ne_iload_n X dX3_lowest_16 rfl ?_
      refine ne_aload_n X dX3_lowest_17 rfl ?_
      refine ne_getf X dX3_lowest_18 nw_fX3_18 rfl rfl ?_
      refine ne_iload_n X dX3_lowest_21 rfl ?_
      refine ne_ialdR X dX3_lowest_22 rfl (by omega) It (fun v22 e22 f22 u22 => ?_)
      have m23 := ne_mul j v22 99 98 (by omega) (by omega)
      have m24 : 0 ≤ j * v22 := Int.mul_nonneg (by omega) (by omega)
      refine ne_imul X dX3_lowest_23 ?_
      refine ne_aload_n X dX3_lowest_24 rfl ?_
      refine ne_getf X dX3_lowest_25 nw_fX3_21 rfl rfl ?_
      refine ne_iload_n X dX3_lowest_28 rfl ?_
      refine ne_ialdR X dX3_lowest_29 rfl (by omega) Ib (fun v29 e29 f29 u29 => ?_)
      have t30 := (ne_tdm (j * v22) v29 (by omega)).1 m24
      refine ne_irem X dX3_lowest_30 (by omega) (by omega) (by omega) ?_
      refine ne_if_eq (tgt := 40) X dX3_lowest_31 rfl (by omega) (fun b31 => ?_) (fun b31 => ?_)
      · refine ne_iload_n X dX3_lowest_40 rfl ?_
        exact ne_iret X hr (by first | rfl | decide | rfl) dX3_lowest_41 ⟨⟨_, rfl, Ic, Iq, It, Ib, Itb, Igb, Ik, ne_rg_mono Ih (by omega) (by omega), Iv⟩, _, rfl, trivial⟩
      · refine ne_iinc X dX3_lowest_34 rfl (by decide) ?_
        refine ne_goto (tgt := 16) X dX3_lowest_37 rfl ?_
        have hj : j < b i.toNat := by
                rcases (show j < b i.toNat ∨ j = v29 by omega) with h | h
                · exact h
                · rw [h, Int.mul_tmod_right] at b31
                  omega
        exact ih _ (by omega) (by omega) (by omega) (by omega)
  refine ne_aload_n X dX3_lowest_0 rfl ?_
  refine ne_iload_n X dX3_lowest_1 rfl ?_
  refine ne_callS X nw_Tg (me_X3_isNoWheel l hl _ _ (by omega)) nw_yX3_isNoWheel nw_mX3_104 nw_sX3_isNoWheel dX3_lowest_2 rfl rfl (by decide) (by decide) (by first | decide | omega) (by first | decide | omega) (Nat.le_of_ble_eq_true rfl) rfl rfl (Nat.le_of_ble_eq_true rfl) ?_ ?_
  rotate_left
  · rintro E9 w9 h9; exact h9.elim
  rintro v2 w2 ⟨rfl, z2, rfl, g2⟩
  refine ne_iconst X dX3_lowest_5 ?_
  refine ne_callV X nw_Tg (me_X3_refuse l hl c q t b k h vt T (by exact ⟨Ic, Iq, It, Ib, Itb, Igb, Ik, Ih, Iv⟩) (by omega) _ _ (by omega) (by omega)) nw_yX3_refuse nw_mX3_72 nw_iX3_refuse nw_eX3_refuse (ci := 5) rfl rfl rfl dX3_lowest_6 rfl rfl (by decide) (by decide) (by first | decide | omega) (by first | decide | omega) (Nat.le_of_ble_eq_true rfl) rfl rfl (Nat.le_of_ble_eq_true rfl) ?_ ?_
  rotate_left
  · rintro E9 w9 h9; exact h9.elim
  rintro v6 w6 ⟨u6, rfl, Iv, z6, rfl, g6⟩
  refine ne_if_eq (tgt := 14) X dX3_lowest_9 rfl (by omega) (fun b9 => ?_) (fun b9 => ?_)
  · refine ne_iconst X dX3_lowest_14 ?_
    refine ne_istore_n X dX3_lowest_15 rfl (by decide) ?_
    obtain rfl : u6 = 0 := by omega
    have hb9 := Ib i.toNat
    exact lp16 _ 1 (Nat.lt_succ_self _) (by omega) (by omega) (by omega)
  · refine ne_iconst X dX3_lowest_12 ?_
    exact ne_iret X hr (by first | rfl | decide | rfl) dX3_lowest_13 ⟨⟨_, rfl, Ic, Iq, It, Ib, Itb, Igb, Ik, ne_rg_mono Ih (by omega) (by omega), Iv⟩, _, rfl, trivial⟩
set_option maxRecDepth 100000 in
set_option maxHeartbeats 4000000 in
theorem me_X3_tens (l : Launch) (hl : l.stackTraces = false) (c q t b k h : Nat → Int) (vt T : Int) (hI : mI c q t b k h vt T) (hT : 0 ≤ T ∧ T ≤ 1000) (a : Int) (ha : -2147483648 ≤ a ∧ a < 2147483648)  : ne_M l nw_cl (.code yX3_tens cX3_tens 2 (some .int)) nw_T yX3_tens 9 330 0 0 [.ref 0, ni a] (mW c q t b k h vt) (fun v w => (∃ v1, w = mW c q t b k h v1 ∧ mI c q t b k h v1 (T + 1) ∧ ∃ z : Int, v = some (ni z) ∧ ((v1 = 1 ∧ (a < 1 ∨ 99 < a ∨ a.tmod 2 = 0 ∨ a.tmod 5 = 0)) ∨ (v1 = 0 ∧ (1 ≤ a ∧ a ≤ 99 ∧ a.tmod 2 ≠ 0 ∧ a.tmod 5 ≠ 0) ∧ ne_per ((1 : Int).tmod a) a z)))) (fun _ _ => False) := by
  refine ne_meet (own := RX3) hl rfl (by decide +kernel) (Nat.le_of_ble_eq_true rfl) ?_
  intro D ct A P9 V9 R9 S9 M9 as9 bl9 mt9 C9 ad0 X hr hin ht
  obtain ⟨Ic, Iq, It, Ib, Itb, Igb, Ik, Ih, Iv⟩ := hI
  refine ne_aload_n X dX3_tens_0 rfl ?_
  refine ne_iload_n X dX3_tens_1 rfl ?_
  refine ne_callS X nw_Tg (me_X3_isNoBottom l hl _ _ (by omega)) nw_yX3_isNoBottom nw_mX3_139 nw_sX3_isNoBottom dX3_tens_2 rfl rfl (by decide) (by decide) (by first | decide | omega) (by first | decide | omega) (Nat.le_of_ble_eq_true rfl) rfl rfl (Nat.le_of_ble_eq_true rfl) ?_ ?_
  rotate_left
  · rintro E9 w9 h9; exact h9.elim
  rintro v2 w2 ⟨rfl, z2, rfl, g2⟩
  refine ne_iconst X dX3_tens_5 ?_
  refine ne_callV X nw_Tg (me_X3_refuse l hl c q t b k h vt T (by exact ⟨Ic, Iq, It, Ib, Itb, Igb, Ik, Ih, Iv⟩) (by omega) _ _ (by omega) (by omega)) nw_yX3_refuse nw_mX3_72 nw_iX3_refuse nw_eX3_refuse (ci := 5) rfl rfl rfl dX3_tens_6 rfl rfl (by decide) (by decide) (by first | decide | omega) (by first | decide | omega) (Nat.le_of_ble_eq_true rfl) rfl rfl (Nat.le_of_ble_eq_true rfl) ?_ ?_
  rotate_left
  · rintro E9 w9 h9; exact h9.elim
  rintro v6 w6 ⟨u6, rfl, Iv, z6, rfl, g6⟩
  refine ne_if_eq (tgt := 16) X dX3_tens_9 rfl (by omega) (fun b9 => ?_) (fun b9 => ?_)
  · refine ne_iconst X dX3_tens_16 ?_
    refine ne_iload_n X dX3_tens_17 rfl ?_
    have t18 := (ne_tdm 1 a (by omega)).1 (by omega)
    have hg1 : a.tmod 2 ≠ 0 := by omega
    have hg2 : a.tmod 5 ≠ 0 := by omega
    refine ne_irem X dX3_tens_18 (by omega) (by omega) (by omega) ?_
    refine ne_iload_n X dX3_tens_19 rfl ?_
    refine ne_callS X nw_Tg (me_X3_lengthOf l hl _ _ _ (by omega) (by omega) (by omega) (by assumption) (by assumption)) nw_yX3_lengthOf nw_mX3_136 nw_sX3_lengthOf dX3_tens_20 rfl rfl (by decide) (by decide) (by first | decide | omega) (by first | decide | omega) (Nat.le_of_ble_eq_true rfl) rfl rfl (Nat.le_of_ble_eq_true rfl) ?_ ?_
    rotate_left
    · rintro E9 w9 h9; exact h9.elim
    rintro v20 w20 ⟨rfl, z20, rfl, g20, k20, i20, j20⟩
    exact ne_iret X hr (by first | rfl | decide | rfl) dX3_tens_23 (by first | exact ⟨_, rfl, ⟨Ic, Iq, It, Ib, Itb, Igb, Ik, ne_rg_mono Ih (by omega) (by omega), Iv⟩, _, rfl, Or.inl ⟨by omega, by omega⟩⟩ | exact ⟨_, rfl, ⟨Ic, Iq, It, Ib, Itb, Igb, Ik, ne_rg_mono Ih (by omega) (by omega), Iv⟩, _, rfl, Or.inr ⟨by omega, by omega, g20, k20, i20, j20⟩⟩)
  · refine ne_iconst X dX3_tens_12 ?_
    refine ne_goto (tgt := 23) X dX3_tens_13 rfl ?_
    exact ne_iret X hr (by first | rfl | decide | rfl) dX3_tens_23 (by first | exact ⟨_, rfl, ⟨Ic, Iq, It, Ib, Itb, Igb, Ik, ne_rg_mono Ih (by omega) (by omega), Iv⟩, _, rfl, Or.inl ⟨by omega, by omega⟩⟩ | exact ⟨_, rfl, ⟨Ic, Iq, It, Ib, Itb, Igb, Ik, ne_rg_mono Ih (by omega) (by omega), Iv⟩, _, rfl, Or.inr ⟨by omega, by omega, g20, k20, i20, j20⟩⟩)
set_option maxRecDepth 100000 in
set_option maxHeartbeats 4000000 in
theorem me_X3_restAt (l : Launch) (hl : l.stackTraces = false) (c q t b k h : Nat → Int) (vt T : Int) (hI : mI c q t b k h vt T) (hT : 0 ≤ T ∧ T ≤ 1000) (i : Int) (a : Int) (hi : -2147483648 ≤ i ∧ i < 2147483648) (ha : -2147483648 ≤ a ∧ a < 2147483648)  : ne_M l nw_cl (.code yX3_restAt cX3_restAt 3 (some .int)) nw_T yX3_restAt 9 330 0 0 [.ref 0, ni i, ni a] (mW c q t b k h vt) (fun v w => (∃ v1, w = mW c q t b k h v1 ∧ mI c q t b k h v1 (T + 1)) ∧ ∃ z : Int, v = some (ni z) ∧ True) (fun _ _ => False) := by
  refine ne_meet (own := RX3) hl rfl (by decide +kernel) (Nat.le_of_ble_eq_true rfl) ?_
  intro D ct A P9 V9 R9 S9 M9 as9 bl9 mt9 C9 ad0 X hr hin ht
  obtain ⟨Ic, Iq, It, Ib, Itb, Igb, Ik, Ih, Iv⟩ := hI
  refine ne_aload_n X dX3_restAt_0 rfl ?_
  refine ne_iload_n X dX3_restAt_1 rfl ?_
  refine ne_callS X nw_Tg (me_X3_isNoWheel l hl _ _ (by omega)) nw_yX3_isNoWheel nw_mX3_104 nw_sX3_isNoWheel dX3_restAt_2 rfl rfl (by decide) (by decide) (by first | decide | omega) (by first | decide | omega) (Nat.le_of_ble_eq_true rfl) rfl rfl (Nat.le_of_ble_eq_true rfl) ?_ ?_
  rotate_left
  · rintro E9 w9 h9; exact h9.elim
  rintro v2 w2 ⟨rfl, z2, rfl, g2⟩
  refine ne_iload_n X dX3_restAt_5 rfl ?_
  refine ne_iconst X dX3_restAt_6 ?_
  refine ne_sipush (v := 200) (by decide) X dX3_restAt_7 ?_
  refine ne_callS X nw_Tg (me_X3_isOut l hl _ _ _ _ (by omega) (by omega) (by omega)) nw_yX3_isOut nw_mX3_34 nw_sX3_isOut dX3_restAt_10 rfl rfl (by decide) (by decide) (by first | decide | omega) (by first | decide | omega) (Nat.le_of_ble_eq_true rfl) rfl rfl (Nat.le_of_ble_eq_true rfl) ?_ ?_
  rotate_left
  · rintro E9 w9 h9; exact h9.elim
  rintro v10 w10 ⟨rfl, z10, rfl, g10⟩
  refine ne_callV X nw_Tg (me_X3_refuse l hl c q t b k h vt T (by exact ⟨Ic, Iq, It, Ib, Itb, Igb, Ik, Ih, Iv⟩) (by omega) _ _ (by omega) (by omega)) nw_yX3_refuse nw_mX3_72 nw_iX3_refuse nw_eX3_refuse (ci := 5) rfl rfl rfl dX3_restAt_13 rfl rfl (by decide) (by decide) (by first | decide | omega) (by first | decide | omega) (Nat.le_of_ble_eq_true rfl) rfl rfl (Nat.le_of_ble_eq_true rfl) ?_ ?_
  rotate_left
  · rintro E9 w9 h9; exact h9.elim
  rintro v13 w13 ⟨u13, rfl, Iv, z13, rfl, g13⟩
  refine ne_if_eq (tgt := 23) X dX3_restAt_16 rfl (by omega) (fun b16 => ?_) (fun b16 => ?_)
  · refine ne_aload_n X dX3_restAt_23 rfl ?_
    refine ne_getf X dX3_restAt_24 nw_fX3_18 rfl rfl ?_
    refine ne_iload_n X dX3_restAt_27 rfl ?_
    refine ne_ialdR X dX3_restAt_28 rfl (by omega) It (fun v28 e28 f28 u28 => ?_)
    refine ne_aload_n X dX3_restAt_29 rfl ?_
    refine ne_getf X dX3_restAt_30 nw_fX3_21 rfl rfl ?_
    refine ne_iload_n X dX3_restAt_33 rfl ?_
    refine ne_ialdR X dX3_restAt_34 rfl (by omega) Ib (fun v34 e34 f34 u34 => ?_)
    refine ne_iload_n X dX3_restAt_35 rfl ?_
    have htb9 := Itb i.toNat
    have hb9 := Ib i.toNat
    refine ne_callS X nw_Tg (me_X3_restOf l hl _ _ _ _ (by omega) (by omega) (by omega) (by omega)) nw_yX3_restOf nw_mX3_149 nw_sX3_restOf dX3_restAt_36 rfl rfl (by decide) (by decide) (by first | decide | omega) (by first | decide | omega) (Nat.le_of_ble_eq_true rfl) rfl rfl (Nat.le_of_ble_eq_true rfl) ?_ ?_
    rotate_left
    · rintro E9 w9 h9; exact h9.elim
    rintro v36 w36 ⟨rfl, z36, rfl, g36, k36, i36⟩
    exact ne_iret X hr (by first | rfl | decide | rfl) dX3_restAt_39 ⟨⟨_, rfl, Ic, Iq, It, Ib, Itb, Igb, Ik, ne_rg_mono Ih (by omega) (by omega), Iv⟩, _, rfl, trivial⟩
  · refine ne_iconst X dX3_restAt_19 ?_
    refine ne_goto (tgt := 39) X dX3_restAt_20 rfl ?_
    exact ne_iret X hr (by first | rfl | decide | rfl) dX3_restAt_39 ⟨⟨_, rfl, Ic, Iq, It, Ib, Itb, Igb, Ik, ne_rg_mono Ih (by omega) (by omega), Iv⟩, _, rfl, trivial⟩
set_option maxRecDepth 100000 in
set_option maxHeartbeats 4000000 in
theorem me_X3_nines (l : Launch) (hl : l.stackTraces = false) (c q t b k h : Nat → Int) (vt T : Int) (hI : mI c q t b k h vt T) (hT : 0 ≤ T ∧ T ≤ 1000) (i : Int) (p : Int) (hi : -2147483648 ≤ i ∧ i < 2147483648) (hp : -2147483648 ≤ p ∧ p < 2147483648)  : ne_M l nw_cl (.code yX3_nines cX3_nines 3 (some .int)) nw_T yX3_nines 9 330 3 292 [.ref 0, ni i, ni p] (mW c q t b k h vt) (fun v w => (∃ v1, w = mW c q t b k h v1 ∧ mI c q t b k h v1 (T + 1)) ∧ ∃ z : Int, v = some (ni z) ∧ True) (fun _ _ => False) := by
  refine ne_meet (own := RX3) hl rfl (by decide +kernel) (Nat.le_of_ble_eq_true rfl) ?_
  intro D ct A P9 V9 R9 S9 M9 as9 bl9 mt9 C9 ad0 X hr hin ht
  obtain ⟨Ic, Iq, It, Ib, Itb, Igb, Ik, Ih, Iv⟩ := hI
  refine ne_aload_n X dX3_nines_0 rfl ?_
  refine ne_iload_n X dX3_nines_1 rfl ?_
  refine ne_callS X nw_Tg (me_X3_isNoWheel l hl _ _ (by omega)) nw_yX3_isNoWheel nw_mX3_104 nw_sX3_isNoWheel dX3_nines_2 rfl rfl (by decide) (by decide) (by first | decide | omega) (by first | decide | omega) (Nat.le_of_ble_eq_true rfl) rfl rfl (Nat.le_of_ble_eq_true rfl) ?_ ?_
  rotate_left
  · rintro E9 w9 h9; exact h9.elim
  rintro v2 w2 ⟨rfl, z2, rfl, g2⟩
  refine ne_iload_n X dX3_nines_5 rfl ?_
  refine ne_iconst X dX3_nines_6 ?_
  refine ne_bipush (v := 12) (by decide) X dX3_nines_7 ?_
  refine ne_callS X nw_Tg (me_X3_isOut l hl _ _ _ _ (by omega) (by omega) (by omega)) nw_yX3_isOut nw_mX3_34 nw_sX3_isOut dX3_nines_9 rfl rfl (by decide) (by decide) (by first | decide | omega) (by first | decide | omega) (Nat.le_of_ble_eq_true rfl) rfl rfl (Nat.le_of_ble_eq_true rfl) ?_ ?_
  rotate_left
  · rintro E9 w9 h9; exact h9.elim
  rintro v9 w9 ⟨rfl, z9, rfl, g9⟩
  refine ne_callV X nw_Tg (me_X3_refuse l hl c q t b k h vt T (by exact ⟨Ic, Iq, It, Ib, Itb, Igb, Ik, Ih, Iv⟩) (by omega) _ _ (by omega) (by omega)) nw_yX3_refuse nw_mX3_72 nw_iX3_refuse nw_eX3_refuse (ci := 5) rfl rfl rfl dX3_nines_12 rfl rfl (by decide) (by decide) (by first | decide | omega) (by first | decide | omega) (Nat.le_of_ble_eq_true rfl) rfl rfl (Nat.le_of_ble_eq_true rfl) ?_ ?_
  rotate_left
  · rintro E9 w9 h9; exact h9.elim
  rintro v12 w12 ⟨u12, rfl, Iv, z12, rfl, g12⟩
  refine ne_if_eq (tgt := 22) X dX3_nines_15 rfl (by omega) (fun b15 => ?_) (fun b15 => ?_)
  · refine ne_aload_n X dX3_nines_22 rfl ?_
    refine ne_iload_n X dX3_nines_23 rfl ?_
    refine ne_iload_n X dX3_nines_24 rfl ?_
    refine ne_callV X nw_Tg (me_X3_ninesOf l hl c q t b k h u12 T (by exact ⟨Ic, Iq, It, Ib, Itb, Igb, Ik, Ih, Iv⟩) (by omega) _ _ (by omega) (by omega)) nw_yX3_ninesOf nw_mX3_182 nw_iX3_ninesOf nw_eX3_ninesOf (ci := 5) rfl rfl rfl dX3_nines_25 rfl rfl (by decide) (by decide) (by first | decide | omega) (by first | decide | omega) (Nat.le_of_ble_eq_true rfl) rfl rfl (Nat.le_of_ble_eq_true rfl) ?_ ?_
    rotate_left
    · rintro E9 w9 h9; exact h9.elim
    rintro v25 w25 ⟨rfl, z25, rfl, g25, k25⟩
    exact ne_iret X hr (by first | rfl | decide | rfl) dX3_nines_28 ⟨⟨_, rfl, Ic, Iq, It, Ib, Itb, Igb, Ik, ne_rg_mono Ih (by omega) (by omega), Iv⟩, _, rfl, trivial⟩
  · refine ne_iconst X dX3_nines_18 ?_
    refine ne_goto (tgt := 28) X dX3_nines_19 rfl ?_
    exact ne_iret X hr (by first | rfl | decide | rfl) dX3_nines_28 ⟨⟨_, rfl, Ic, Iq, It, Ib, Itb, Igb, Ik, ne_rg_mono Ih (by omega) (by omega), Iv⟩, _, rfl, trivial⟩
set_option maxRecDepth 100000 in
set_option maxHeartbeats 4000000 in
theorem me_X3_placeOf (l : Launch) (hl : l.stackTraces = false) (c q t b k h : Nat → Int) (vt T : Int) (hI : mI c q t b k h vt T) (hT : 0 ≤ T ∧ T ≤ 1000) (i : Int) (j : Int) (hi : -2147483648 ≤ i ∧ i < 2147483648) (hj : -2147483648 ≤ j ∧ j < 2147483648)  : ne_M l nw_cl (.code yX3_placeOf cX3_placeOf 5 (some .int)) nw_T yX3_placeOf 9 330 0 0 [.ref 0, ni i, ni j] (mW c q t b k h vt) (fun v w => (∃ v1, w = mW c q t b k h v1 ∧ mI c q t b k h v1 (T + 1)) ∧ ∃ z : Int, v = some (ni z) ∧ True) (fun _ _ => False) := by
  refine ne_meet (own := RX3) hl rfl (by decide +kernel) (Nat.le_of_ble_eq_true rfl) ?_
  intro D ct A P9 V9 R9 S9 M9 as9 bl9 mt9 C9 ad0 X hr hin ht
  obtain ⟨Ic, Iq, It, Ib, Itb, Igb, Ik, Ih, Iv⟩ := hI
  have lp38 : ∀ (n9 : Nat) (z31 m : Int), (97 - m).toNat < n9 → (0 ≤ m) → (m ≤ 96) → (1 ≤ z31 ∧ z31 ≤ 96) → (0 ≤ i ∧ i < 3) → (0 ≤ j ∧ j < 3) → ne_G nw_cl D ct A 7 ad0 P9 l V9 R9 S9 M9 as9 bl9 mt9 C9 (ne_O nw_cl D ct ad0 7 A bl9 as9 S9 0 0 (fun v w => (∃ v1, w = mW c q t b k h v1 ∧ mI c q t b k h v1 (T + 1)) ∧ ∃ z : Int, v = some (ni z) ∧ True) (fun _ _ => False)) 5 0 0 0 0 38 [some (.ref 0), some (ni i), some (ni j), some (ni z31), some (ni m)] [] (mW c q t b k h 0) := by
    intro n9
    induction n9 with
    | zero => intro z31 m hm9 q1 q2 q5 q6 q7; exfalso; omega
    | succ n9 ih =>
      intro z31 m hm9 q1 q2 q5 q6 q7
      have Iv : (0 : Int) ≤ 0 ∧ (0 : Int) ≤ 2 := by omega
      have htb9 := Itb i.toNat
      have hb9 := Ib i.toNat
      refine ne_iload X dX3_placeOf_38 rfl ?_
      refine ne_iload_n X dX3_placeOf_40 rfl ?_
      refine ne_icmp_ge (tgt := 93) X dX3_placeOf_41 rfl (by omega) (by omega) (fun b41 => ?_) (fun b41 => ?_)
      · refine ne_iconst X dX3_placeOf_93 ?_
        exact ne_iret X hr (by first | rfl | decide | rfl) dX3_placeOf_94 ⟨⟨_, rfl, Ic, Iq, It, Ib, Itb, Igb, Ik, ne_rg_mono Ih (by omega) (by omega), Iv⟩, _, rfl, trivial⟩
      · refine ne_aload_n X dX3_placeOf_44 rfl ?_
        refine ne_getf X dX3_placeOf_45 nw_fX3_18 rfl rfl ?_
        refine ne_iload_n X dX3_placeOf_48 rfl ?_
        refine ne_ialdR X dX3_placeOf_49 rfl (by omega) It (fun v49 e49 f49 u49 => ?_)
        refine ne_aload_n X dX3_placeOf_50 rfl ?_
        refine ne_getf X dX3_placeOf_51 nw_fX3_21 rfl rfl ?_
        refine ne_iload_n X dX3_placeOf_54 rfl ?_
        refine ne_ialdR X dX3_placeOf_55 rfl (by omega) Ib (fun v55 e55 f55 u55 => ?_)
        refine ne_iload X dX3_placeOf_56 rfl ?_
        refine ne_callS X nw_Tg (me_X3_restOf l hl _ _ _ _ (by omega) (by omega) (by omega) (by omega)) nw_yX3_restOf nw_mX3_149 nw_sX3_restOf dX3_placeOf_58 rfl rfl (by decide) (by decide) (by first | decide | omega) (by first | decide | omega) (Nat.le_of_ble_eq_true rfl) rfl rfl (Nat.le_of_ble_eq_true rfl) ?_ ?_
        rotate_left
        · rintro E9 w9 h9; exact h9.elim
        rintro v58 w58 ⟨rfl, z58, rfl, g58, k58, i58⟩
        have hz58 : z58 ≤ 98 := by omega
        refine ne_aload_n X dX3_placeOf_61 rfl ?_
        refine ne_getf X dX3_placeOf_62 nw_fX3_21 rfl rfl ?_
        refine ne_iload_n X dX3_placeOf_65 rfl ?_
        refine ne_ialdR X dX3_placeOf_66 rfl (by omega) Ib (fun v66 e66 f66 u66 => ?_)
        have m67 := ne_mul z58 v66 98 99 (by omega) (by omega)
        refine ne_imul X dX3_placeOf_67 ?_
        refine ne_aload_n X dX3_placeOf_68 rfl ?_
        refine ne_getf X dX3_placeOf_69 nw_fX3_18 rfl rfl ?_
        refine ne_iload_n X dX3_placeOf_72 rfl ?_
        refine ne_ialdR X dX3_placeOf_73 rfl (by omega) It (fun v73 e73 f73 u73 => ?_)
        refine ne_aload_n X dX3_placeOf_74 rfl ?_
        refine ne_getf X dX3_placeOf_75 nw_fX3_21 rfl rfl ?_
        refine ne_iload_n X dX3_placeOf_78 rfl ?_
        refine ne_ialdR X dX3_placeOf_79 rfl (by omega) Ib (fun v79 e79 f79 u79 => ?_)
        have m80 := ne_mul v73 v79 98 99 (by omega) (by omega)
        refine ne_imul X dX3_placeOf_80 ?_
        refine ne_icmp_ne (tgt := 87) X dX3_placeOf_81 rfl (by omega) (by omega) (fun b81 => ?_) (fun b81 => ?_)
        · refine ne_iinc X dX3_placeOf_87 rfl (by decide) ?_
          refine ne_goto (tgt := 38) X dX3_placeOf_90 rfl ?_
          exact ih _ (m + 1) (by omega) (by omega) (by omega) (by omega) (by omega) (by omega)
        · refine ne_iload X dX3_placeOf_84 rfl ?_
          exact ne_iret X hr (by first | rfl | decide | rfl) dX3_placeOf_86 ⟨⟨_, rfl, Ic, Iq, It, Ib, Itb, Igb, Ik, ne_rg_mono Ih (by omega) (by omega), Iv⟩, _, rfl, trivial⟩
  refine ne_aload_n X dX3_placeOf_0 rfl ?_
  refine ne_iload_n X dX3_placeOf_1 rfl ?_
  refine ne_callS X nw_Tg (me_X3_isNoWheel l hl _ _ (by omega)) nw_yX3_isNoWheel nw_mX3_104 nw_sX3_isNoWheel dX3_placeOf_2 rfl rfl (by decide) (by decide) (by first | decide | omega) (by first | decide | omega) (Nat.le_of_ble_eq_true rfl) rfl rfl (Nat.le_of_ble_eq_true rfl) ?_ ?_
  rotate_left
  · rintro E9 w9 h9; exact h9.elim
  rintro v2 w2 ⟨rfl, z2, rfl, g2⟩
  refine ne_if_ne (tgt := 15) X dX3_placeOf_5 rfl (by omega) (fun b5 => ?_) (fun b5 => ?_)
  · refine ne_iconst X dX3_placeOf_15 ?_
    refine ne_goto (tgt := 20) X dX3_placeOf_16 rfl ?_
    refine ne_iconst X dX3_placeOf_20 ?_
    refine ne_callV X nw_Tg (me_X3_refuse l hl c q t b k h vt T (by exact ⟨Ic, Iq, It, Ib, Itb, Igb, Ik, Ih, Iv⟩) (by omega) _ _ (by omega) (by omega)) nw_yX3_refuse nw_mX3_72 nw_iX3_refuse nw_eX3_refuse (ci := 5) rfl rfl rfl dX3_placeOf_21 rfl rfl (by decide) (by decide) (by first | decide | omega) (by first | decide | omega) (Nat.le_of_ble_eq_true rfl) rfl rfl (Nat.le_of_ble_eq_true rfl) ?_ ?_
    rotate_left
    · rintro E9 w9 h9; exact h9.elim
    rintro v21 w21 ⟨u21, rfl, Iv, z21, rfl, g21⟩
    refine ne_if_eq (tgt := 29) X dX3_placeOf_24 rfl (by omega) (fun b24 => ?_) (fun b24 => ?_)
    · exfalso; omega
    · refine ne_iconst X dX3_placeOf_27 ?_
      exact ne_iret X hr (by first | rfl | decide | rfl) dX3_placeOf_28 ⟨⟨_, rfl, Ic, Iq, It, Ib, Itb, Igb, Ik, ne_rg_mono Ih (by omega) (by omega), Iv⟩, _, rfl, trivial⟩
  · refine ne_iload_n X dX3_placeOf_8 rfl ?_
    refine ne_callS X nw_Tg (me_X3_isNoWheel l hl _ _ (by omega)) nw_yX3_isNoWheel nw_mX3_104 nw_sX3_isNoWheel dX3_placeOf_9 rfl rfl (by decide) (by decide) (by first | decide | omega) (by first | decide | omega) (Nat.le_of_ble_eq_true rfl) rfl rfl (Nat.le_of_ble_eq_true rfl) ?_ ?_
    rotate_left
    · rintro E9 w9 h9; exact h9.elim
    rintro v9 w9 ⟨rfl, z9, rfl, g9⟩
    refine ne_if_eq (tgt := 19) X dX3_placeOf_12 rfl (by omega) (fun b12 => ?_) (fun b12 => ?_)
    · refine ne_iconst X dX3_placeOf_19 ?_
      refine ne_iconst X dX3_placeOf_20 ?_
      refine ne_callV X nw_Tg (me_X3_refuse l hl c q t b k h vt T (by exact ⟨Ic, Iq, It, Ib, Itb, Igb, Ik, Ih, Iv⟩) (by omega) _ _ (by omega) (by omega)) nw_yX3_refuse nw_mX3_72 nw_iX3_refuse nw_eX3_refuse (ci := 5) rfl rfl rfl dX3_placeOf_21 rfl rfl (by decide) (by decide) (by first | decide | omega) (by first | decide | omega) (Nat.le_of_ble_eq_true rfl) rfl rfl (Nat.le_of_ble_eq_true rfl) ?_ ?_
      rotate_left
      · rintro E9 w9 h9; exact h9.elim
      rintro v21 w21 ⟨u21, rfl, Iv, z21, rfl, g21⟩
      refine ne_if_eq (tgt := 29) X dX3_placeOf_24 rfl (by omega) (fun b24 => ?_) (fun b24 => ?_)
      · refine ne_aload_n X dX3_placeOf_29 rfl ?_
        refine ne_iload_n X dX3_placeOf_30 rfl ?_
        refine ne_callV X nw_Tg (me_X3_lengthOf_ l hl c q t b k h u21 T (by exact ⟨Ic, Iq, It, Ib, Itb, Igb, Ik, Ih, Iv⟩) (by omega) _ (by omega)) nw_yX3_lengthOf_ nw_mX3_146 nw_iX3_lengthOf_ nw_eX3_lengthOf_ (ci := 5) rfl rfl rfl dX3_placeOf_31 rfl rfl (by decide) (by decide) (by first | decide | omega) (by first | decide | omega) (Nat.le_of_ble_eq_true rfl) rfl rfl (Nat.le_of_ble_eq_true rfl) ?_ ?_
        rotate_left
        · rintro E9 w9 h9; exact h9.elim
        rintro v31 w31 ⟨rfl, z31, rfl, P31, g31, k31⟩
        refine ne_istore_n X dX3_placeOf_34 rfl (by decide) ?_
        refine ne_iconst X dX3_placeOf_35 ?_
        refine ne_istore X dX3_placeOf_36 (by decide) ?_
        refine ne_ll (L' := [some (.ref 0), some (ni _), some (ni _), some (ni _), some (ni _)]) rfl ?_
        obtain rfl : u21 = 0 := by omega
        exact lp38 _ _ 0 (Nat.lt_succ_self _) (by omega) (by omega) (by omega) (by omega) (by omega)
      · exfalso; omega
    · refine ne_iconst X dX3_placeOf_15 ?_
      refine ne_goto (tgt := 20) X dX3_placeOf_16 rfl ?_
      refine ne_iconst X dX3_placeOf_20 ?_
      refine ne_callV X nw_Tg (me_X3_refuse l hl c q t b k h vt T (by exact ⟨Ic, Iq, It, Ib, Itb, Igb, Ik, Ih, Iv⟩) (by omega) _ _ (by omega) (by omega)) nw_yX3_refuse nw_mX3_72 nw_iX3_refuse nw_eX3_refuse (ci := 5) rfl rfl rfl dX3_placeOf_21 rfl rfl (by decide) (by decide) (by first | decide | omega) (by first | decide | omega) (Nat.le_of_ble_eq_true rfl) rfl rfl (Nat.le_of_ble_eq_true rfl) ?_ ?_
      rotate_left
      · rintro E9 w9 h9; exact h9.elim
      rintro v21 w21 ⟨u21, rfl, Iv, z21, rfl, g21⟩
      refine ne_if_eq (tgt := 29) X dX3_placeOf_24 rfl (by omega) (fun b24 => ?_) (fun b24 => ?_)
      · exfalso; omega
      · refine ne_iconst X dX3_placeOf_27 ?_
        exact ne_iret X hr (by first | rfl | decide | rfl) dX3_placeOf_28 ⟨⟨_, rfl, Ic, Iq, It, Ib, Itb, Igb, Ik, ne_rg_mono Ih (by omega) (by omega), Iv⟩, _, rfl, trivial⟩
set_option maxRecDepth 100000 in
set_option maxHeartbeats 4000000 in
theorem me_X3_wheelOrder (l : Launch) (hl : l.stackTraces = false) (c q t b k h : Nat → Int) (vt T : Int) (hI : mI c q t b k h vt T) (hT : 0 ≤ T ∧ T ≤ 1000) (i : Int) (j : Int) (hi : -2147483648 ≤ i ∧ i < 2147483648) (hj : -2147483648 ≤ j ∧ j < 2147483648)  : ne_M l nw_cl (.code yX3_wheelOrder cX3_wheelOrder 3 (some .int)) nw_T yX3_wheelOrder 9 330 0 0 [.ref 0, ni i, ni j] (mW c q t b k h vt) (fun v w => (∃ v1, w = mW c q t b k h v1 ∧ mI c q t b k h v1 (T + 1)) ∧ ∃ z : Int, v = some (ni z) ∧ True) (fun _ _ => False) := by
  refine ne_meet (own := RX3) hl rfl (by decide +kernel) (Nat.le_of_ble_eq_true rfl) ?_
  intro D ct A P9 V9 R9 S9 M9 as9 bl9 mt9 C9 ad0 X hr hin ht
  obtain ⟨Ic, Iq, It, Ib, Itb, Igb, Ik, Ih, Iv⟩ := hI
  refine ne_aload_n X dX3_wheelOrder_0 rfl ?_
  refine ne_iload_n X dX3_wheelOrder_1 rfl ?_
  refine ne_callS X nw_Tg (me_X3_isNoWheel l hl _ _ (by omega)) nw_yX3_isNoWheel nw_mX3_104 nw_sX3_isNoWheel dX3_wheelOrder_2 rfl rfl (by decide) (by decide) (by first | decide | omega) (by first | decide | omega) (Nat.le_of_ble_eq_true rfl) rfl rfl (Nat.le_of_ble_eq_true rfl) ?_ ?_
  rotate_left
  · rintro E9 w9 h9; exact h9.elim
  rintro v2 w2 ⟨rfl, z2, rfl, g2⟩
  refine ne_if_ne (tgt := 15) X dX3_wheelOrder_5 rfl (by omega) (fun b5 => ?_) (fun b5 => ?_)
  · refine ne_iconst X dX3_wheelOrder_15 ?_
    refine ne_goto (tgt := 20) X dX3_wheelOrder_16 rfl ?_
    refine ne_iconst X dX3_wheelOrder_20 ?_
    refine ne_callV X nw_Tg (me_X3_refuse l hl c q t b k h vt T (by exact ⟨Ic, Iq, It, Ib, Itb, Igb, Ik, Ih, Iv⟩) (by omega) _ _ (by omega) (by omega)) nw_yX3_refuse nw_mX3_72 nw_iX3_refuse nw_eX3_refuse (ci := 5) rfl rfl rfl dX3_wheelOrder_21 rfl rfl (by decide) (by decide) (by first | decide | omega) (by first | decide | omega) (Nat.le_of_ble_eq_true rfl) rfl rfl (Nat.le_of_ble_eq_true rfl) ?_ ?_
    rotate_left
    · rintro E9 w9 h9; exact h9.elim
    rintro v21 w21 ⟨u21, rfl, Iv, z21, rfl, g21⟩
    refine ne_if_eq (tgt := 31) X dX3_wheelOrder_24 rfl (by omega) (fun b24 => ?_) (fun b24 => ?_)
    · exfalso; omega
    · refine ne_iconst X dX3_wheelOrder_27 ?_
      refine ne_goto (tgt := 37) X dX3_wheelOrder_28 rfl ?_
      exact ne_iret X hr (by first | rfl | decide | rfl) dX3_wheelOrder_37 ⟨⟨_, rfl, Ic, Iq, It, Ib, Itb, Igb, Ik, ne_rg_mono Ih (by omega) (by omega), Iv⟩, _, rfl, trivial⟩
  · refine ne_iload_n X dX3_wheelOrder_8 rfl ?_
    refine ne_callS X nw_Tg (me_X3_isNoWheel l hl _ _ (by omega)) nw_yX3_isNoWheel nw_mX3_104 nw_sX3_isNoWheel dX3_wheelOrder_9 rfl rfl (by decide) (by decide) (by first | decide | omega) (by first | decide | omega) (Nat.le_of_ble_eq_true rfl) rfl rfl (Nat.le_of_ble_eq_true rfl) ?_ ?_
    rotate_left
    · rintro E9 w9 h9; exact h9.elim
    rintro v9 w9 ⟨rfl, z9, rfl, g9⟩
    refine ne_if_eq (tgt := 19) X dX3_wheelOrder_12 rfl (by omega) (fun b12 => ?_) (fun b12 => ?_)
    · refine ne_iconst X dX3_wheelOrder_19 ?_
      refine ne_iconst X dX3_wheelOrder_20 ?_
      refine ne_callV X nw_Tg (me_X3_refuse l hl c q t b k h vt T (by exact ⟨Ic, Iq, It, Ib, Itb, Igb, Ik, Ih, Iv⟩) (by omega) _ _ (by omega) (by omega)) nw_yX3_refuse nw_mX3_72 nw_iX3_refuse nw_eX3_refuse (ci := 5) rfl rfl rfl dX3_wheelOrder_21 rfl rfl (by decide) (by decide) (by first | decide | omega) (by first | decide | omega) (Nat.le_of_ble_eq_true rfl) rfl rfl (Nat.le_of_ble_eq_true rfl) ?_ ?_
      rotate_left
      · rintro E9 w9 h9; exact h9.elim
      rintro v21 w21 ⟨u21, rfl, Iv, z21, rfl, g21⟩
      refine ne_if_eq (tgt := 31) X dX3_wheelOrder_24 rfl (by omega) (fun b24 => ?_) (fun b24 => ?_)
      · refine ne_aload_n X dX3_wheelOrder_31 rfl ?_
        refine ne_iload_n X dX3_wheelOrder_32 rfl ?_
        refine ne_iload_n X dX3_wheelOrder_33 rfl ?_
        refine ne_callV X nw_Tg (me_X3_wheelsOrdered l hl c q t b k h u21 T (by exact ⟨Ic, Iq, It, Ib, Itb, Igb, Ik, Ih, Iv⟩) (by omega) _ _ (by omega) (by omega)) nw_yX3_wheelsOrdered nw_mX3_185 nw_iX3_wheelsOrdered nw_eX3_wheelsOrdered (ci := 5) rfl rfl rfl dX3_wheelOrder_34 rfl rfl (by decide) (by decide) (by first | decide | omega) (by first | decide | omega) (Nat.le_of_ble_eq_true rfl) rfl rfl (Nat.le_of_ble_eq_true rfl) ?_ ?_
        rotate_left
        · rintro E9 w9 h9; exact h9.elim
        rintro v34 w34 ⟨rfl, z34, rfl, g34, k34⟩
        exact ne_iret X hr (by first | rfl | decide | rfl) dX3_wheelOrder_37 ⟨⟨_, rfl, Ic, Iq, It, Ib, Itb, Igb, Ik, ne_rg_mono Ih (by omega) (by omega), Iv⟩, _, rfl, trivial⟩
      · exfalso; omega
    · refine ne_iconst X dX3_wheelOrder_15 ?_
      refine ne_goto (tgt := 20) X dX3_wheelOrder_16 rfl ?_
      refine ne_iconst X dX3_wheelOrder_20 ?_
      refine ne_callV X nw_Tg (me_X3_refuse l hl c q t b k h vt T (by exact ⟨Ic, Iq, It, Ib, Itb, Igb, Ik, Ih, Iv⟩) (by omega) _ _ (by omega) (by omega)) nw_yX3_refuse nw_mX3_72 nw_iX3_refuse nw_eX3_refuse (ci := 5) rfl rfl rfl dX3_wheelOrder_21 rfl rfl (by decide) (by decide) (by first | decide | omega) (by first | decide | omega) (Nat.le_of_ble_eq_true rfl) rfl rfl (Nat.le_of_ble_eq_true rfl) ?_ ?_
      rotate_left
      · rintro E9 w9 h9; exact h9.elim
      rintro v21 w21 ⟨u21, rfl, Iv, z21, rfl, g21⟩
      refine ne_if_eq (tgt := 31) X dX3_wheelOrder_24 rfl (by omega) (fun b24 => ?_) (fun b24 => ?_)
      · exfalso; omega
      · refine ne_iconst X dX3_wheelOrder_27 ?_
        refine ne_goto (tgt := 37) X dX3_wheelOrder_28 rfl ?_
        exact ne_iret X hr (by first | rfl | decide | rfl) dX3_wheelOrder_37 ⟨⟨_, rfl, Ic, Iq, It, Ib, Itb, Igb, Ik, ne_rg_mono Ih (by omega) (by omega), Iv⟩, _, rfl, trivial⟩
set_option maxRecDepth 100000 in
set_option maxHeartbeats 4000000 in
theorem me_X3_against (l : Launch) (hl : l.stackTraces = false) (c q t b k h : Nat → Int) (vt T : Int) (hI : mI c q t b k h vt T) (hT : 0 ≤ T ∧ T ≤ 1000) (i : Int) (j : Int) (hi : -2147483648 ≤ i ∧ i < 2147483648) (hj : -2147483648 ≤ j ∧ j < 2147483648)  : ne_M l nw_cl (.code yX3_against cX3_against 3 (some .int)) nw_T yX3_against 9 330 0 0 [.ref 0, ni i, ni j] (mW c q t b k h vt) (fun v w => (∃ v1, w = mW c q t b k h v1 ∧ mI c q t b k h v1 (T + 1)) ∧ ∃ z : Int, v = some (ni z) ∧ True) (fun _ _ => False) := by
  refine ne_meet (own := RX3) hl rfl (by decide +kernel) (Nat.le_of_ble_eq_true rfl) ?_
  intro D ct A P9 V9 R9 S9 M9 as9 bl9 mt9 C9 ad0 X hr hin ht
  obtain ⟨Ic, Iq, It, Ib, Itb, Igb, Ik, Ih, Iv⟩ := hI
  refine ne_aload_n X dX3_against_0 rfl ?_
  refine ne_iload_n X dX3_against_1 rfl ?_
  refine ne_callS X nw_Tg (me_X3_isNoWheel l hl _ _ (by omega)) nw_yX3_isNoWheel nw_mX3_104 nw_sX3_isNoWheel dX3_against_2 rfl rfl (by decide) (by decide) (by first | decide | omega) (by first | decide | omega) (Nat.le_of_ble_eq_true rfl) rfl rfl (Nat.le_of_ble_eq_true rfl) ?_ ?_
  rotate_left
  · rintro E9 w9 h9; exact h9.elim
  rintro v2 w2 ⟨rfl, z2, rfl, g2⟩
  refine ne_if_ne (tgt := 15) X dX3_against_5 rfl (by omega) (fun b5 => ?_) (fun b5 => ?_)
  · refine ne_iconst X dX3_against_15 ?_
    refine ne_goto (tgt := 20) X dX3_against_16 rfl ?_
    refine ne_iconst X dX3_against_20 ?_
    refine ne_callV X nw_Tg (me_X3_refuse l hl c q t b k h vt T (by exact ⟨Ic, Iq, It, Ib, Itb, Igb, Ik, Ih, Iv⟩) (by omega) _ _ (by omega) (by omega)) nw_yX3_refuse nw_mX3_72 nw_iX3_refuse nw_eX3_refuse (ci := 5) rfl rfl rfl dX3_against_21 rfl rfl (by decide) (by decide) (by first | decide | omega) (by first | decide | omega) (Nat.le_of_ble_eq_true rfl) rfl rfl (Nat.le_of_ble_eq_true rfl) ?_ ?_
    rotate_left
    · rintro E9 w9 h9; exact h9.elim
    rintro v21 w21 ⟨u21, rfl, Iv, z21, rfl, g21⟩
    refine ne_if_eq (tgt := 31) X dX3_against_24 rfl (by omega) (fun b24 => ?_) (fun b24 => ?_)
    · exfalso; omega
    · refine ne_iconst X dX3_against_27 ?_
      refine ne_goto (tgt := 37) X dX3_against_28 rfl ?_
      exact ne_iret X hr (by first | rfl | decide | rfl) dX3_against_37 ⟨⟨_, rfl, Ic, Iq, It, Ib, Itb, Igb, Ik, ne_rg_mono Ih (by omega) (by omega), Iv⟩, _, rfl, trivial⟩
  · refine ne_iload_n X dX3_against_8 rfl ?_
    refine ne_callS X nw_Tg (me_X3_isNoCell l hl _ _ (by omega)) nw_yX3_isNoCell nw_mX3_66 nw_sX3_isNoCell dX3_against_9 rfl rfl (by decide) (by decide) (by first | decide | omega) (by first | decide | omega) (Nat.le_of_ble_eq_true rfl) rfl rfl (Nat.le_of_ble_eq_true rfl) ?_ ?_
    rotate_left
    · rintro E9 w9 h9; exact h9.elim
    rintro v9 w9 ⟨rfl, z9, rfl, g9⟩
    refine ne_if_eq (tgt := 19) X dX3_against_12 rfl (by omega) (fun b12 => ?_) (fun b12 => ?_)
    · refine ne_iconst X dX3_against_19 ?_
      refine ne_iconst X dX3_against_20 ?_
      refine ne_callV X nw_Tg (me_X3_refuse l hl c q t b k h vt T (by exact ⟨Ic, Iq, It, Ib, Itb, Igb, Ik, Ih, Iv⟩) (by omega) _ _ (by omega) (by omega)) nw_yX3_refuse nw_mX3_72 nw_iX3_refuse nw_eX3_refuse (ci := 5) rfl rfl rfl dX3_against_21 rfl rfl (by decide) (by decide) (by first | decide | omega) (by first | decide | omega) (Nat.le_of_ble_eq_true rfl) rfl rfl (Nat.le_of_ble_eq_true rfl) ?_ ?_
      rotate_left
      · rintro E9 w9 h9; exact h9.elim
      rintro v21 w21 ⟨u21, rfl, Iv, z21, rfl, g21⟩
      refine ne_if_eq (tgt := 31) X dX3_against_24 rfl (by omega) (fun b24 => ?_) (fun b24 => ?_)
      · refine ne_aload_n X dX3_against_31 rfl ?_
        refine ne_iload_n X dX3_against_32 rfl ?_
        refine ne_iload_n X dX3_against_33 rfl ?_
        refine ne_callV X nw_Tg (me_X3_heldAgainst l hl c q t b k h u21 T (by exact ⟨Ic, Iq, It, Ib, Itb, Igb, Ik, Ih, Iv⟩) (by omega) _ _ (by omega) (by omega)) nw_yX3_heldAgainst nw_mX3_188 nw_iX3_heldAgainst nw_eX3_heldAgainst (ci := 5) rfl rfl rfl dX3_against_34 rfl rfl (by decide) (by decide) (by first | decide | omega) (by first | decide | omega) (Nat.le_of_ble_eq_true rfl) rfl rfl (Nat.le_of_ble_eq_true rfl) ?_ ?_
        rotate_left
        · rintro E9 w9 h9; exact h9.elim
        rintro v34 w34 ⟨rfl, z34, rfl, g34, k34⟩
        exact ne_iret X hr (by first | rfl | decide | rfl) dX3_against_37 ⟨⟨_, rfl, Ic, Iq, It, Ib, Itb, Igb, Ik, ne_rg_mono Ih (by omega) (by omega), Iv⟩, _, rfl, trivial⟩
      · exfalso; omega
    · refine ne_iconst X dX3_against_15 ?_
      refine ne_goto (tgt := 20) X dX3_against_16 rfl ?_
      refine ne_iconst X dX3_against_20 ?_
      refine ne_callV X nw_Tg (me_X3_refuse l hl c q t b k h vt T (by exact ⟨Ic, Iq, It, Ib, Itb, Igb, Ik, Ih, Iv⟩) (by omega) _ _ (by omega) (by omega)) nw_yX3_refuse nw_mX3_72 nw_iX3_refuse nw_eX3_refuse (ci := 5) rfl rfl rfl dX3_against_21 rfl rfl (by decide) (by decide) (by first | decide | omega) (by first | decide | omega) (Nat.le_of_ble_eq_true rfl) rfl rfl (Nat.le_of_ble_eq_true rfl) ?_ ?_
      rotate_left
      · rintro E9 w9 h9; exact h9.elim
      rintro v21 w21 ⟨u21, rfl, Iv, z21, rfl, g21⟩
      refine ne_if_eq (tgt := 31) X dX3_against_24 rfl (by omega) (fun b24 => ?_) (fun b24 => ?_)
      · exfalso; omega
      · refine ne_iconst X dX3_against_27 ?_
        refine ne_goto (tgt := 37) X dX3_against_28 rfl ?_
        exact ne_iret X hr (by first | rfl | decide | rfl) dX3_against_37 ⟨⟨_, rfl, Ic, Iq, It, Ib, Itb, Igb, Ik, ne_rg_mono Ih (by omega) (by omega), Iv⟩, _, rfl, trivial⟩
