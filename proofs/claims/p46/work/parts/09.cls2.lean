set_option maxRecDepth 100000 in
set_option maxHeartbeats 4000000 in
theorem me_X1_turnBy (l : Launch) (hl : l.stackTraces = false) (c q t b k n h x y : Nat → Int) (T : Int) (hI : cI c q t b k n h x y T) (hT : 0 ≤ T ∧ T ≤ 1000000) (i a : Int) (hi : 0 ≤ i ∧ i < 3) (ha : 0 ≤ a ∧ a ≤ 200) : ne_M l nw_cl (.code yX1_turnBy cX1_turnBy 3 (none)) nw_T yX1_turnBy 1 40 0 0 [.ref 0, ni i, ni a] (cW c q t b k n h x y) (fun v w => v = none ∧ ∃ k1 h1, w = cW c q t b k1 n h1 x y ∧ ne_rg k1 0 95 ∧ ne_rg h1 0 (T + 1) ∧ k1 = va_up k i.toNat ((k i.toNat + a).tmod (n i.toNat)) ∧ h1 = va_up h 1 (h 1 + 1)) (fun _ _ => False) := by
  refine ne_meet (own := RX1) hl rfl (by decide +kernel) (Nat.le_of_ble_eq_true rfl) ?_
  intro D ct A P9 V9 R9 S9 M9 as9 bl9 mt9 C9 ad0 X hr hin ht
  obtain ⟨Ic, Iq, It, Ib, Itb, Ik, In, Ih, Ix, Iy⟩ := hI
  refine ne_aload_n X dX1_turnBy_0 rfl ?_
  refine ne_getf X dX1_turnBy_1 nw_fX1_22 rfl rfl ?_
  refine ne_iload_n X dX1_turnBy_4 rfl ?_
  refine ne_aload_n X dX1_turnBy_5 rfl ?_
  refine ne_getf X dX1_turnBy_6 nw_fX1_22 rfl rfl ?_
  refine ne_iload_n X dX1_turnBy_9 rfl ?_
  refine ne_ialdR X dX1_turnBy_10 rfl (by omega) Ik (fun v10 e10 f10 u10 => ?_)
  refine ne_iload_n X dX1_turnBy_11 rfl ?_
  refine ne_iadd X dX1_turnBy_12 ?_
  refine ne_aload_n X dX1_turnBy_13 rfl ?_
  refine ne_getf X dX1_turnBy_14 nw_fX1_25 rfl rfl ?_
  refine ne_iload_n X dX1_turnBy_17 rfl ?_
  refine ne_ialdR X dX1_turnBy_18 rfl (by omega) In (fun v18 e18 f18 u18 => ?_)
  refine ne_callS X nw_Tg (me_X1_leftover l hl _ _ _ (by omega) (by omega)) nw_yX1_leftover nw_mX1_147 nw_sX1_leftover dX1_turnBy_19 rfl rfl (by decide) (by decide) (by first | decide | omega) (by first | decide | omega) (Nat.le_of_ble_eq_true rfl) rfl rfl (Nat.le_of_ble_eq_true rfl) ?_ ?_
  rotate_left
  · rintro E9 w9 h9; exact h9.elim
  rintro v19 w19 ⟨rfl, z19, rfl, g19⟩
  have t19 := (ne_tdm (v10 + a) v18 (by omega)).1 (by omega)
  refine ne_iastR X dX1_turnBy_22 rfl (by omega) (ne_rg_mono Ik (by omega) (by omega)) (a := 0) (b := 95) (by omega) (fun k22 hk22 Ik => ?_)
  refine ne_ws (ws' := cW c q t b k22 n h x y) rfl ?_
  refine ne_aload_n X dX1_turnBy_23 rfl ?_
  refine ne_getf X dX1_turnBy_24 nw_fX1_28 rfl rfl ?_
  refine ne_iconst X dX1_turnBy_27 ?_
  refine ne_dup2ai X dX1_turnBy_28 ?_
  refine ne_ialdR X dX1_turnBy_29 rfl (by omega) Ih (fun v29 e29 f29 u29 => ?_)
  refine ne_iconst X dX1_turnBy_30 ?_
  refine ne_iadd X dX1_turnBy_31 ?_
  refine ne_iastR X dX1_turnBy_32 rfl (by omega) (ne_rg_mono Ih (by omega) (by omega)) (a := 0) (b := T + 1) (by omega) (fun h32 hh32 Ih => ?_)
  refine ne_ws (ws' := cW c q t b k22 n h32 x y) rfl ?_
  exact ne_vret X hr dX1_turnBy_33 ⟨rfl, _, _, rfl, Ik, Ih, by rw [hk22, ← e10, ← e18]; congr 1; omega, by rw [hh32, e29]; rfl⟩
set_option maxRecDepth 100000 in
set_option maxHeartbeats 4000000 in
theorem me_X1_bringWheel (l : Launch) (hl : l.stackTraces = false) (c q t b k n h x y : Nat → Int) (T : Int) (hI : cI c q t b k n h x y T) (hT : 0 ≤ T ∧ T ≤ 1000000) (i a d : Int) (hi : 0 ≤ i ∧ i < 3) (ha : 0 ≤ a ∧ a < d ∧ d ≤ 99) : ne_M l nw_cl (.code yX1_bringWheel cX1_bringWheel 4 (none)) nw_T yX1_bringWheel 3 110 0 0 [.ref 0, ni i, ni a, ni d] (cW c q t b k n h x y) (fun v w => v = none ∧ ∃ t1 b1 k1 n1 h1, w = cW c q t1 b1 k1 n1 h1 x y ∧ ne_rg t1 0 98 ∧ ne_rg b1 1 99 ∧ (∀ j, t1 j < b1 j) ∧ ne_rg k1 0 95 ∧ ne_rg n1 1 96 ∧ ne_rg h1 0 (T + 1) ∧ t1 = va_up t i.toNat a ∧ b1 = va_up b i.toNat d ∧ k1 = va_up k i.toNat 0 ∧ h1 = va_up h 1 (h 1 + 1) ∧ ∃ L : Int, n1 = va_up n i.toNat L ∧ 1 ≤ L ∧ L ≤ 96 ∧ (∀ m : Nat, 0 < m → (m : Int) < L → ne_rs a d m ≠ a) ∧ (ne_rs a d L.toNat = a ∨ L = 96)) (fun _ _ => False) := by
  refine ne_meet (own := RX1) hl rfl (by decide +kernel) (Nat.le_of_ble_eq_true rfl) ?_
  intro D ct A P9 V9 R9 S9 M9 as9 bl9 mt9 C9 ad0 X hr hin ht
  obtain ⟨Ic, Iq, It, Ib, Itb, Ik, In, Ih, Ix, Iy⟩ := hI
  refine ne_aload_n X dX1_bringWheel_0 rfl ?_
  refine ne_getf X dX1_bringWheel_1 nw_fX1_16 rfl rfl ?_
  refine ne_iload_n X dX1_bringWheel_4 rfl ?_
  refine ne_iload_n X dX1_bringWheel_5 rfl ?_
  refine ne_iastR X dX1_bringWheel_6 rfl (by omega) (ne_rg_mono It (by omega) (by omega)) (a := 0) (b := 98) (by omega) (fun t6 ht6 It => ?_)
  refine ne_ws (ws' := cW c q t6 b k n h x y) rfl ?_
  refine ne_aload_n X dX1_bringWheel_7 rfl ?_
  refine ne_getf X dX1_bringWheel_8 nw_fX1_19 rfl rfl ?_
  refine ne_iload_n X dX1_bringWheel_11 rfl ?_
  refine ne_iload_n X dX1_bringWheel_12 rfl ?_
  refine ne_iastR X dX1_bringWheel_13 rfl (by omega) (ne_rg_mono Ib (by omega) (by omega)) (a := 1) (b := 99) (by omega) (fun b13 hb13 Ib => ?_)
  refine ne_ws (ws' := cW c q t6 b13 k n h x y) rfl ?_
  refine ne_aload_n X dX1_bringWheel_14 rfl ?_
  refine ne_getf X dX1_bringWheel_15 nw_fX1_22 rfl rfl ?_
  refine ne_iload_n X dX1_bringWheel_18 rfl ?_
  refine ne_iconst X dX1_bringWheel_19 ?_
  refine ne_iastR X dX1_bringWheel_20 rfl (by omega) (ne_rg_mono Ik (by omega) (by omega)) (a := 0) (b := 95) (by omega) (fun k20 hk20 Ik => ?_)
  refine ne_ws (ws' := cW c q t6 b13 k20 n h x y) rfl ?_
  refine ne_aload_n X dX1_bringWheel_21 rfl ?_
  refine ne_getf X dX1_bringWheel_22 nw_fX1_25 rfl rfl ?_
  refine ne_iload_n X dX1_bringWheel_25 rfl ?_
  refine ne_iload_n X dX1_bringWheel_26 rfl ?_
  refine ne_iload_n X dX1_bringWheel_27 rfl ?_
  refine ne_callS X nw_Tg (me_X1_lengthOf l hl _ _ _ (by omega) (by omega) (by omega)) nw_yX1_lengthOf nw_mX1_155 nw_sX1_lengthOf dX1_bringWheel_28 rfl rfl (by decide) (by decide) (by first | decide | omega) (by first | decide | omega) (Nat.le_of_ble_eq_true rfl) rfl rfl (Nat.le_of_ble_eq_true rfl) ?_ ?_
  rotate_left
  · rintro E9 w9 h9; exact h9.elim
  rintro v28 w28 ⟨rfl, z28, rfl, g28, k28, i28, j28⟩
  refine ne_iastR X dX1_bringWheel_31 rfl (by omega) (ne_rg_mono In (by omega) (by omega)) (a := 1) (b := 96) (by omega) (fun n31 hn31 In => ?_)
  refine ne_ws (ws' := cW c q t6 b13 k20 n31 h x y) rfl ?_
  refine ne_aload_n X dX1_bringWheel_32 rfl ?_
  refine ne_getf X dX1_bringWheel_33 nw_fX1_28 rfl rfl ?_
  refine ne_iconst X dX1_bringWheel_36 ?_
  refine ne_dup2ai X dX1_bringWheel_37 ?_
  refine ne_ialdR X dX1_bringWheel_38 rfl (by omega) Ih (fun v38 e38 f38 u38 => ?_)
  refine ne_iconst X dX1_bringWheel_39 ?_
  refine ne_iadd X dX1_bringWheel_40 ?_
  refine ne_iastR X dX1_bringWheel_41 rfl (by omega) (ne_rg_mono Ih (by omega) (by omega)) (a := 0) (b := T + 1) (by omega) (fun h41 hh41 Ih => ?_)
  refine ne_ws (ws' := cW c q t6 b13 k20 n31 h41 x y) rfl ?_
  exact ne_vret X hr dX1_bringWheel_42 ⟨rfl, _, _, _, _, _, rfl, It, Ib, (by intro m; rw [ht6, hb13]; unfold va_up; split; exact ha.2.1; exact Itb m), Ik, In, Ih, ht6, hb13, hk20, (by rw [hh41, e38]; rfl), z28, hn31, g28, k28, i28, j28⟩
set_option maxRecDepth 100000 in
set_option maxHeartbeats 4000000 in
theorem me_X1_spokeOf (l : Launch) (hl : l.stackTraces = false) (c q t b k n h x y : Nat → Int) (T : Int) (hI : cI c q t b k n h x y T) (hT : 0 ≤ T ∧ T ≤ 1000000) (i w0 : Int) (hi : 0 ≤ i ∧ i < 3) (hw : 0 ≤ w0 ∧ w0 ≤ 4) : ne_M l nw_cl (.code yX1_spokeOf cX1_spokeOf 3 (some .int)) nw_T yX1_spokeOf 3 110 0 0 [.ref 0, ni i, ni w0] (cW c q t b k n h x y) (fun v w => w = cW c q t b k n h x y ∧ ∃ z : Int, v = some (ni z) ∧ 0 ≤ z ∧ z ≤ 99) (fun _ _ => False) := by
  refine ne_meet (own := RX1) hl rfl (by decide +kernel) (Nat.le_of_ble_eq_true rfl) ?_
  intro D ct A P9 V9 R9 S9 M9 as9 bl9 mt9 C9 ad0 X hr hin ht
  obtain ⟨Ic, Iq, It, Ib, Itb, Ik, In, Ih, Ix, Iy⟩ := hI
  refine ne_iload_n X dX1_spokeOf_0 rfl ?_
  rcases (show w0 = 0 ∨ w0 = 1 ∨ w0 = 2 ∨ w0 = 3 ∨ (w0 < 0 ∨ 3 < w0) by omega) with rfl | rfl | rfl | rfl | h1
  · refine ne_tswIn (tgt := 32) X dX1_spokeOf_1 (by omega) (by omega) (by omega) rfl rfl ?_
    refine ne_aload_n X dX1_spokeOf_32 rfl ?_
    refine ne_getf X dX1_spokeOf_33 nw_fX1_16 rfl rfl ?_
    refine ne_iload_n X dX1_spokeOf_36 rfl ?_
    refine ne_ialdR X dX1_spokeOf_37 rfl (by omega) It (fun v37 e37 f37 u37 => ?_)
    exact ne_iret X hr (by first | rfl | decide | rfl) dX1_spokeOf_38 ⟨rfl, _, rfl, by omega⟩
  · refine ne_tswIn (tgt := 39) X dX1_spokeOf_1 (by omega) (by omega) (by omega) rfl rfl ?_
    refine ne_aload_n X dX1_spokeOf_39 rfl ?_
    refine ne_getf X dX1_spokeOf_40 nw_fX1_19 rfl rfl ?_
    refine ne_iload_n X dX1_spokeOf_43 rfl ?_
    refine ne_ialdR X dX1_spokeOf_44 rfl (by omega) Ib (fun v44 e44 f44 u44 => ?_)
    exact ne_iret X hr (by first | rfl | decide | rfl) dX1_spokeOf_45 ⟨rfl, _, rfl, by omega⟩
  · refine ne_tswIn (tgt := 46) X dX1_spokeOf_1 (by omega) (by omega) (by omega) rfl rfl ?_
    refine ne_aload_n X dX1_spokeOf_46 rfl ?_
    refine ne_getf X dX1_spokeOf_47 nw_fX1_22 rfl rfl ?_
    refine ne_iload_n X dX1_spokeOf_50 rfl ?_
    refine ne_ialdR X dX1_spokeOf_51 rfl (by omega) Ik (fun v51 e51 f51 u51 => ?_)
    exact ne_iret X hr (by first | rfl | decide | rfl) dX1_spokeOf_52 ⟨rfl, _, rfl, by omega⟩
  · refine ne_tswIn (tgt := 53) X dX1_spokeOf_1 (by omega) (by omega) (by omega) rfl rfl ?_
    refine ne_aload_n X dX1_spokeOf_53 rfl ?_
    refine ne_iload_n X dX1_spokeOf_54 rfl ?_
    refine ne_aload_n X dX1_spokeOf_55 rfl ?_
    refine ne_getf X dX1_spokeOf_56 nw_fX1_22 rfl rfl ?_
    refine ne_iload_n X dX1_spokeOf_59 rfl ?_
    refine ne_ialdR X dX1_spokeOf_60 rfl (by omega) Ik (fun v60 e60 f60 u60 => ?_)
    refine ne_callV X nw_Tg (me_X1_restOfPlace l hl c q t b k n h x y T (by exact ⟨Ic, Iq, It, Ib, Itb, Ik, In, Ih, Ix, Iy⟩) (by omega) _ _ (by omega) (by omega)) nw_yX1_restOfPlace nw_mX1_135 nw_iX1_restOfPlace nw_eX1_restOfPlace (ci := 3) rfl rfl rfl dX1_spokeOf_61 rfl rfl (by decide) (by decide) (by first | decide | omega) (by first | decide | omega) (Nat.le_of_ble_eq_true rfl) rfl rfl (Nat.le_of_ble_eq_true rfl) ?_ ?_
    rotate_left
    · rintro E9 w9 h9; exact h9.elim
    rintro v61 w61 ⟨rfl, z61, rfl, g61, k61, i61, j61⟩
    exact ne_iret X hr (by first | rfl | decide | rfl) dX1_spokeOf_64 ⟨rfl, _, rfl, by omega⟩
  · refine ne_tswOut (tgt := 65) X dX1_spokeOf_1 (by omega) h1 rfl ?_
    refine ne_aload_n X dX1_spokeOf_65 rfl ?_
    refine ne_getf X dX1_spokeOf_66 nw_fX1_25 rfl rfl ?_
    refine ne_iload_n X dX1_spokeOf_69 rfl ?_
    refine ne_ialdR X dX1_spokeOf_70 rfl (by omega) In (fun v70 e70 f70 u70 => ?_)
    exact ne_iret X hr (by first | rfl | decide | rfl) dX1_spokeOf_71 ⟨rfl, _, rfl, by omega⟩
set_option maxRecDepth 100000 in
set_option maxHeartbeats 4000000 in
theorem me_X1_hasParts (l : Launch) (hl : l.stackTraces = false) (c q t b k n h x y : Nat → Int) (T : Int) (hI : cI c q t b k n h x y T) (hT : 0 ≤ T ∧ T ≤ 1000000) (i p : Int) (hi : 0 ≤ i ∧ i < 3) (hp : 1 ≤ p ∧ p ≤ 100) : ne_M l nw_cl (.code yX1_hasParts cX1_hasParts 3 (some .boolean)) nw_T yX1_hasParts 1 40 0 0 [.ref 0, ni i, ni p] (cW c q t b k n h x y) (fun v w => w = cW c q t b k n h x y ∧ ∃ z : Int, v = some (ni z) ∧ 0 ≤ z ∧ z ≤ 1 ∧ (z = 1 ↔ (n i.toNat).tmod p = 0)) (fun _ _ => False) := by
  refine ne_meet (own := RX1) hl rfl (by decide +kernel) (Nat.le_of_ble_eq_true rfl) ?_
  intro D ct A P9 V9 R9 S9 M9 as9 bl9 mt9 C9 ad0 X hr hin ht
  obtain ⟨Ic, Iq, It, Ib, Itb, Ik, In, Ih, Ix, Iy⟩ := hI
  refine ne_aload_n X dX1_hasParts_0 rfl ?_
  refine ne_getf X dX1_hasParts_1 nw_fX1_25 rfl rfl ?_
  refine ne_iload_n X dX1_hasParts_4 rfl ?_
  refine ne_ialdR X dX1_hasParts_5 rfl (by omega) In (fun v5 e5 f5 u5 => ?_)
  refine ne_iload_n X dX1_hasParts_6 rfl ?_
  refine ne_callS X nw_Tg (me_X1_leftover l hl _ _ _ (by omega) (by omega)) nw_yX1_leftover nw_mX1_147 nw_sX1_leftover dX1_hasParts_7 rfl rfl (by decide) (by decide) (by first | decide | omega) (by first | decide | omega) (Nat.le_of_ble_eq_true rfl) rfl rfl (Nat.le_of_ble_eq_true rfl) ?_ ?_
  rotate_left
  · rintro E9 w9 h9; exact h9.elim
  rintro v7 w7 ⟨rfl, z7, rfl, g7⟩
  have t7 := (ne_tdm v5 p (by omega)).1 (by omega)
  refine ne_if_ne (tgt := 17) X dX1_hasParts_10 rfl (by omega) (fun b10 => ?_) (fun b10 => ?_)
  · refine ne_iconst X dX1_hasParts_17 ?_
    exact ne_iret X hr (by first | rfl | decide | rfl) dX1_hasParts_18 ⟨rfl, _, rfl, by omega, by omega, by rw [← e5]; omega⟩
  · refine ne_iconst X dX1_hasParts_13 ?_
    refine ne_goto (tgt := 18) X dX1_hasParts_14 rfl ?_
    exact ne_iret X hr (by first | rfl | decide | rfl) dX1_hasParts_18 ⟨rfl, _, rfl, by omega, by omega, by rw [← e5]; omega⟩
set_option maxRecDepth 100000 in
set_option maxHeartbeats 4000000 in
theorem me_X1_partLength (l : Launch) (hl : l.stackTraces = false) (c q t b k n h x y : Nat → Int) (T : Int) (hI : cI c q t b k n h x y T) (hT : 0 ≤ T ∧ T ≤ 1000000) (i p : Int) (hi : 0 ≤ i ∧ i < 3) (hp : 1 ≤ p ∧ p ≤ 100) : ne_M l nw_cl (.code yX1_partLength cX1_partLength 3 (some .int)) nw_T yX1_partLength 1 40 0 0 [.ref 0, ni i, ni p] (cW c q t b k n h x y) (fun v w => w = cW c q t b k n h x y ∧ ∃ z : Int, v = some (ni z) ∧ 0 ≤ z ∧ z ≤ 96 ∧ z = (n i.toNat).tdiv p) (fun _ _ => False) := by
  refine ne_meet (own := RX1) hl rfl (by decide +kernel) (Nat.le_of_ble_eq_true rfl) ?_
  intro D ct A P9 V9 R9 S9 M9 as9 bl9 mt9 C9 ad0 X hr hin ht
  obtain ⟨Ic, Iq, It, Ib, Itb, Ik, In, Ih, Ix, Iy⟩ := hI
  refine ne_iload_n X dX1_partLength_0 rfl ?_
  refine ne_iconst X dX1_partLength_1 ?_
  refine ne_icmp_ge (tgt := 9) X dX1_partLength_2 rfl (by omega) (by omega) (fun b2 => ?_) (fun b2 => ?_)
  · refine ne_aload_n X dX1_partLength_9 rfl ?_
    refine ne_getf X dX1_partLength_10 nw_fX1_25 rfl rfl ?_
    refine ne_iload_n X dX1_partLength_13 rfl ?_
    refine ne_ialdR X dX1_partLength_14 rfl (by omega) In (fun v14 e14 f14 u14 => ?_)
    have t15 := (ne_tdm v14 p (by omega)).1 (by omega)
    refine ne_iload_n X dX1_partLength_15 rfl ?_
    refine ne_idiv X dX1_partLength_16 (by omega) (by omega) (by omega) ?_
    exact ne_iret X hr (by first | rfl | decide | rfl) dX1_partLength_17 ⟨rfl, _, rfl, by omega, by omega, by rw [← e14]⟩
  · exfalso; omega
set_option maxRecDepth 100000 in
set_option maxHeartbeats 4000000 in
theorem me_X1_workOutProduct (l : Launch) (hl : l.stackTraces = false) (c q t b k n h x y : Nat → Int) (T : Int) (hI : cI c q t b k n h x y T) (hT : 0 ≤ T ∧ T ≤ 1000000) (i : Int) (hi : 0 ≤ i ∧ i < 3) : ne_M l nw_cl (.code yX1_workOutProduct cX1_workOutProduct 5 (none)) nw_T yX1_workOutProduct 3 110 0 0 [.ref 0, ni i] (cW c q t b k n h x y) (fun v w => v = none ∧ ∃ x1, w = cW c q t b k n h x1 y ∧ ne_rg x1 0 9) (fun _ _ => False) := by
  refine ne_meet (own := RX1) hl rfl (by decide +kernel) (Nat.le_of_ble_eq_true rfl) ?_
  intro D ct A P9 V9 R9 S9 M9 as9 bl9 mt9 C9 ad0 X hr hin ht
  obtain ⟨Ic, Iq, It, Ib, Itb, Ik, In, Ih, Ix, Iy⟩ := hI
  have htb9 := Itb i.toNat
  have lp31 : ∀ (n9 : Nat) (x1 : Nat → Int) (d r j : Int), (j + 1).toNat < n9 → (-1 ≤ j) → (j ≤ 95) → (0 ≤ r) → (r < d) → (d ≤ 99) → (ne_rg x1 0 (9 + 891 * (95 - j))) → (∀ m : Nat, 98 ≤ m → x1 m ≤ 9) → ne_G nw_cl D ct A 12 ad0 P9 l V9 R9 S9 M9 as9 bl9 mt9 C9 (ne_O nw_cl D ct ad0 12 A bl9 as9 S9 0 0 (fun v w => v = none ∧ ∃ x1, w = cW c q t b k n h x1 y ∧ ne_rg x1 0 9) (fun _ _ => False)) 5 0 0 0 0 31 [some (.ref 0), some (ni i), some (ni d), some (ni r), some (ni j)] [] (cW c q t b k n h x1 y) := by
    intro n9
    induction n9 with
    | zero => intro x1 d r j hm9 q1 q2 q3 q4 q5 Ix h9x; exfalso; omega
    | succ n9 ih =>
      intro x1 d r j hm9 q1 q2 q3 q4 q5 Ix h9x
      refine ne_iload X dX1_workOutProduct_31 rfl ?_
      refine ne_if_lt (tgt := 64) X dX1_workOutProduct_33 rfl (by omega) (fun b33 => ?_) (fun b33 => ?_)
      · refine ne_aload_n X dX1_workOutProduct_64 rfl ?_
        refine ne_getf X dX1_workOutProduct_65 nw_fX1_34 rfl rfl ?_
        refine ne_callVN (host := "Ninewheel") X nw_Tg (me_X0_carry_x l hl c q t b k n h x1 y _ Ix (by omega) h9x) nw_yX0_carry (by decide +kernel) nw_iX0_carry nw_eX0_carry (ci := 2) rfl rfl rfl dX1_workOutProduct_68 rfl rfl (by decide) (by decide) (by first | decide | omega) (by first | decide | omega) (Nat.le_of_ble_eq_true rfl) rfl rfl (Nat.le_of_ble_eq_true rfl) ?_ ?_
        rotate_left
        · rintro E9 w9 h9; exact h9.elim
        rintro v68 w68 ⟨rfl, x68, rfl, Ix⟩
        exact ne_vret X hr dX1_workOutProduct_71 ⟨rfl, _, rfl, Ix⟩
      · refine ne_aload_n X dX1_workOutProduct_36 rfl ?_
        refine ne_getf X dX1_workOutProduct_37 nw_fX1_34 rfl rfl ?_
        refine ne_iload X dX1_workOutProduct_40 rfl ?_
        refine ne_iload_n X dX1_workOutProduct_42 rfl ?_
        refine ne_iload_n X dX1_workOutProduct_43 rfl ?_
        refine ne_callS X nw_Tg (me_X1_digitAfter l hl _ _ _ (by omega) (by omega) (by omega)) nw_yX1_digitAfter nw_mX1_138 nw_sX1_digitAfter dX1_workOutProduct_44 rfl rfl (by decide) (by decide) (by first | decide | omega) (by first | decide | omega) (Nat.le_of_ble_eq_true rfl) rfl rfl (Nat.le_of_ble_eq_true rfl) ?_ ?_
        rotate_left
        · rintro E9 w9 h9; exact h9.elim
        rintro v44 w44 ⟨rfl, z44, rfl, g44, k44, i44⟩
        have m44 := ne_mul z44 d 9 99 (by omega) (by omega)
        have m45 : 0 ≤ z44 * d := Int.mul_nonneg (by omega) (by omega)
        refine ne_iload_n X dX1_workOutProduct_47 rfl ?_
        refine ne_imul X dX1_workOutProduct_48 ?_
        refine ne_callVN (host := "Ninewheel") X nw_Tg (me_X0_raise_x l hl c q t b k n h x1 y _ _ _ Ix (by omega) (by omega) (by omega)) nw_yX0_raise (by decide +kernel) nw_iX0_raise nw_eX0_raise (ci := 2) rfl rfl rfl dX1_workOutProduct_49 rfl rfl (by decide) (by decide) (by first | decide | omega) (by first | decide | omega) (Nat.le_of_ble_eq_true rfl) rfl rfl (Nat.le_of_ble_eq_true rfl) ?_ ?_
        rotate_left
        · rintro E9 w9 h9; exact h9.elim
        rintro v49 w49 ⟨rfl, x49, rfl, Ix, Hx, g49⟩
        refine ne_iload_n X dX1_workOutProduct_52 rfl ?_
        refine ne_iload_n X dX1_workOutProduct_53 rfl ?_
        refine ne_callS X nw_Tg (me_X1_restAfter l hl _ _ _ (by omega) (by omega) (by omega)) nw_yX1_restAfter nw_mX1_189 nw_sX1_restAfter dX1_workOutProduct_54 rfl rfl (by decide) (by decide) (by first | decide | omega) (by first | decide | omega) (Nat.le_of_ble_eq_true rfl) rfl rfl (Nat.le_of_ble_eq_true rfl) ?_ ?_
        rotate_left
        · rintro E9 w9 h9; exact h9.elim
        rintro v54 w54 ⟨rfl, z54, rfl, g54, k54, i54⟩
        refine ne_istore_n X dX1_workOutProduct_57 rfl (by decide) ?_
        refine ne_iinc X dX1_workOutProduct_58 rfl (by decide) ?_
        refine ne_ll (L' := [some (.ref 0), some (ni _), some (ni _), some (ni _), some (ni _)]) rfl ?_
        refine ne_goto (tgt := 31) X dX1_workOutProduct_61 rfl ?_
        exact ih _ _ _ _ (by omega) (by omega) (by omega) (by omega) (by omega) (by omega) (ne_rg_mono Ix (by omega) (by omega)) (fun m hm => by rw [Hx m hm]; exact h9x m hm)
  refine ne_aload_n X dX1_workOutProduct_0 rfl ?_
  refine ne_getf X dX1_workOutProduct_1 nw_fX1_19 rfl rfl ?_
  refine ne_iload_n X dX1_workOutProduct_4 rfl ?_
  refine ne_ialdR X dX1_workOutProduct_5 rfl (by omega) Ib (fun v5 e5 f5 u5 => ?_)
  refine ne_istore_n X dX1_workOutProduct_6 rfl (by decide) ?_
  refine ne_aload_n X dX1_workOutProduct_7 rfl ?_
  refine ne_getf X dX1_workOutProduct_8 nw_fX1_16 rfl rfl ?_
  refine ne_iload_n X dX1_workOutProduct_11 rfl ?_
  refine ne_ialdR X dX1_workOutProduct_12 rfl (by omega) It (fun v12 e12 f12 u12 => ?_)
  refine ne_istore_n X dX1_workOutProduct_13 rfl (by decide) ?_
  refine ne_ll (L' := [some (.ref 0), some (ni _), some (ni _), some (ni _), none]) rfl ?_
  refine ne_aload_n X dX1_workOutProduct_14 rfl ?_
  refine ne_getf X dX1_workOutProduct_15 nw_fX1_34 rfl rfl ?_
  refine ne_callVN (host := "Ninewheel") X nw_Tg (me_X0_clear_x l hl c q t b k n h x y Ix) nw_yX0_clear (by decide +kernel) nw_iX0_clear nw_eX0_clear (ci := 2) rfl rfl rfl dX1_workOutProduct_18 rfl rfl (by decide) (by decide) (by first | decide | omega) (by first | decide | omega) (Nat.le_of_ble_eq_true rfl) rfl rfl (Nat.le_of_ble_eq_true rfl) ?_ ?_
  rotate_left
  · rintro E9 w9 h9; exact h9.elim
  rintro v18 w18 ⟨rfl, x18, rfl, Ix⟩
  refine ne_aload_n X dX1_workOutProduct_21 rfl ?_
  refine ne_getf X dX1_workOutProduct_22 nw_fX1_25 rfl rfl ?_
  refine ne_iload_n X dX1_workOutProduct_25 rfl ?_
  refine ne_ialdR X dX1_workOutProduct_26 rfl (by omega) In (fun v26 e26 f26 u26 => ?_)
  refine ne_iconst X dX1_workOutProduct_27 ?_
  refine ne_isub X dX1_workOutProduct_28 ?_
  refine ne_istore X dX1_workOutProduct_29 (by decide) ?_
  exact lp31 _ _ _ _ _ (Nat.lt_succ_self _) (by omega) (by omega) (by omega) (by omega) (by omega) (ne_rg_mono Ix (by omega) (by omega)) (fun m hm => (Ix m).2)
set_option maxRecDepth 100000 in
set_option maxHeartbeats 4000000 in
theorem me_X1_workOutPartSum (l : Launch) (hl : l.stackTraces = false) (c q t b k n h x y : Nat → Int) (T : Int) (hI : cI c q t b k n h x y T) (hT : 0 ≤ T ∧ T ≤ 1000000) (i p : Int) (hi : 0 ≤ i ∧ i < 3) (hp : 0 ≤ p ∧ p ≤ 100) : ne_M l nw_cl (.code yX1_workOutPartSum cX1_workOutPartSum 5 (none)) nw_T yX1_workOutPartSum 3 110 0 0 [.ref 0, ni i, ni p] (cW c q t b k n h x y) (fun v w => v = none ∧ ∃ x1, w = cW c q t b k n h x1 y ∧ ne_rg x1 0 9) (fun _ _ => False) := by
  refine ne_meet (own := RX1) hl rfl (by decide +kernel) (Nat.le_of_ble_eq_true rfl) ?_
  intro D ct A P9 V9 R9 S9 M9 as9 bl9 mt9 C9 ad0 X hr hin ht
  obtain ⟨Ic, Iq, It, Ib, Itb, Ik, In, Ih, Ix, Iy⟩ := hI
  have htb9 := Itb i.toNat
  have hb9 := Ib i.toNat
  have lp24 : ∀ (n9 : Nat) (x1 : Nat → Int) (r j : Int), (j + 1).toNat < n9 → (-1 ≤ j) → (j ≤ 95) → (0 ≤ r) → (r < b i.toNat) → (ne_rg x1 0 (9 + 9 * (95 - j))) → (∀ m : Nat, 98 ≤ m → x1 m ≤ 9) → ne_G nw_cl D ct A 12 ad0 P9 l V9 R9 S9 M9 as9 bl9 mt9 C9 (ne_O nw_cl D ct ad0 12 A bl9 as9 S9 0 0 (fun v w => v = none ∧ ∃ x1, w = cW c q t b k n h x1 y ∧ ne_rg x1 0 9) (fun _ _ => False)) 5 0 0 0 0 24 [some (.ref 0), some (ni i), some (ni p), some (ni r), some (ni j)] [] (cW c q t b k n h x1 y) := by
    intro n9
    induction n9 with
    | zero => intro x1 r j hm9 q1 q2 q3 q4 Ix h9x; exfalso; omega
    | succ n9 ih =>
      intro x1 r j hm9 q1 q2 q3 q4 Ix h9x
      refine ne_iload X dX1_workOutPartSum_24 rfl ?_
      refine ne_if_lt (tgt := 69) X dX1_workOutPartSum_26 rfl (by omega) (fun b26 => ?_) (fun b26 => ?_)
      · refine ne_aload_n X dX1_workOutPartSum_69 rfl ?_
        refine ne_getf X dX1_workOutPartSum_70 nw_fX1_34 rfl rfl ?_
        refine ne_callVN (host := "Ninewheel") X nw_Tg (me_X0_carry_x l hl c q t b k n h x1 y _ Ix (by omega) h9x) nw_yX0_carry (by decide +kernel) nw_iX0_carry nw_eX0_carry (ci := 2) rfl rfl rfl dX1_workOutPartSum_73 rfl rfl (by decide) (by decide) (by first | decide | omega) (by first | decide | omega) (Nat.le_of_ble_eq_true rfl) rfl rfl (Nat.le_of_ble_eq_true rfl) ?_ ?_
        rotate_left
        · rintro E9 w9 h9; exact h9.elim
        rintro v73 w73 ⟨rfl, x73, rfl, Ix⟩
        exact ne_vret X hr dX1_workOutPartSum_76 ⟨rfl, _, rfl, Ix⟩
      · refine ne_aload_n X dX1_workOutPartSum_29 rfl ?_
        refine ne_getf X dX1_workOutPartSum_30 nw_fX1_34 rfl rfl ?_
        refine ne_iload X dX1_workOutPartSum_33 rfl ?_
        refine ne_iload_n X dX1_workOutPartSum_35 rfl ?_
        refine ne_callS X nw_Tg (me_X1_leftover l hl _ _ _ (by omega) (by omega)) nw_yX1_leftover nw_mX1_147 nw_sX1_leftover dX1_workOutPartSum_36 rfl rfl (by decide) (by decide) (by first | decide | omega) (by first | decide | omega) (Nat.le_of_ble_eq_true rfl) rfl rfl (Nat.le_of_ble_eq_true rfl) ?_ ?_
        rotate_left
        · rintro E9 w9 h9; exact h9.elim
        rintro v36 w36 ⟨rfl, z36, rfl, g36⟩
        have t36 : 0 ≤ z36 ∧ z36 ≤ 100 := by
          by_cases hz : p < 1
          · omega
          · have t9 := (ne_tdm j p (by omega)).1 (by omega)
            omega
        refine ne_iload_n X dX1_workOutPartSum_39 rfl ?_
        refine ne_aload_n X dX1_workOutPartSum_40 rfl ?_
        refine ne_getf X dX1_workOutPartSum_41 nw_fX1_19 rfl rfl ?_
        refine ne_iload_n X dX1_workOutPartSum_44 rfl ?_
        refine ne_ialdR X dX1_workOutPartSum_45 rfl (by omega) Ib (fun v45 e45 f45 u45 => ?_)
        refine ne_callS X nw_Tg (me_X1_digitAfter l hl _ _ _ (by omega) (by omega) (by omega)) nw_yX1_digitAfter nw_mX1_138 nw_sX1_digitAfter dX1_workOutPartSum_46 rfl rfl (by decide) (by decide) (by first | decide | omega) (by first | decide | omega) (Nat.le_of_ble_eq_true rfl) rfl rfl (Nat.le_of_ble_eq_true rfl) ?_ ?_
        rotate_left
        · rintro E9 w9 h9; exact h9.elim
        rintro v46 w46 ⟨rfl, z46, rfl, g46, k46, i46⟩
        refine ne_callVN (host := "Ninewheel") X nw_Tg (me_X0_raise_x l hl c q t b k n h x1 y _ _ _ Ix (by omega) (by omega) (by omega)) nw_yX0_raise (by decide +kernel) nw_iX0_raise nw_eX0_raise (ci := 2) rfl rfl rfl dX1_workOutPartSum_49 rfl rfl (by decide) (by decide) (by first | decide | omega) (by first | decide | omega) (Nat.le_of_ble_eq_true rfl) rfl rfl (Nat.le_of_ble_eq_true rfl) ?_ ?_
        rotate_left
        · rintro E9 w9 h9; exact h9.elim
        rintro v49 w49 ⟨rfl, x49, rfl, Ix, Hx, g49⟩
        refine ne_iload_n X dX1_workOutPartSum_52 rfl ?_
        refine ne_aload_n X dX1_workOutPartSum_53 rfl ?_
        refine ne_getf X dX1_workOutPartSum_54 nw_fX1_19 rfl rfl ?_
        refine ne_iload_n X dX1_workOutPartSum_57 rfl ?_
        refine ne_ialdR X dX1_workOutPartSum_58 rfl (by omega) Ib (fun v58 e58 f58 u58 => ?_)
        refine ne_callS X nw_Tg (me_X1_restAfter l hl _ _ _ (by omega) (by omega) (by omega)) nw_yX1_restAfter nw_mX1_189 nw_sX1_restAfter dX1_workOutPartSum_59 rfl rfl (by decide) (by decide) (by first | decide | omega) (by first | decide | omega) (Nat.le_of_ble_eq_true rfl) rfl rfl (Nat.le_of_ble_eq_true rfl) ?_ ?_
        rotate_left
        · rintro E9 w9 h9; exact h9.elim
        rintro v59 w59 ⟨rfl, z59, rfl, g59, k59, i59⟩
        refine ne_istore_n X dX1_workOutPartSum_62 rfl (by decide) ?_
        refine ne_iinc X dX1_workOutPartSum_63 rfl (by decide) ?_
        refine ne_ll (L' := [some (.ref 0), some (ni _), some (ni _), some (ni _), some (ni _)]) rfl ?_
        refine ne_goto (tgt := 24) X dX1_workOutPartSum_66 rfl ?_
        exact ih _ _ _ (by omega) (by omega) (by omega) (by omega) (by omega) (ne_rg_mono Ix (by omega) (by omega)) (fun m hm => by rw [Hx m hm]; exact h9x m hm)
  refine ne_aload_n X dX1_workOutPartSum_0 rfl ?_
  refine ne_getf X dX1_workOutPartSum_1 nw_fX1_16 rfl rfl ?_
  refine ne_iload_n X dX1_workOutPartSum_4 rfl ?_
  refine ne_ialdR X dX1_workOutPartSum_5 rfl (by omega) It (fun v5 e5 f5 u5 => ?_)
  refine ne_istore_n X dX1_workOutPartSum_6 rfl (by decide) ?_
  refine ne_aload_n X dX1_workOutPartSum_7 rfl ?_
  refine ne_getf X dX1_workOutPartSum_8 nw_fX1_34 rfl rfl ?_
  refine ne_callVN (host := "Ninewheel") X nw_Tg (me_X0_clear_x l hl c q t b k n h x y Ix) nw_yX0_clear (by decide +kernel) nw_iX0_clear nw_eX0_clear (ci := 2) rfl rfl rfl dX1_workOutPartSum_11 rfl rfl (by decide) (by decide) (by first | decide | omega) (by first | decide | omega) (Nat.le_of_ble_eq_true rfl) rfl rfl (Nat.le_of_ble_eq_true rfl) ?_ ?_
  rotate_left
  · rintro E9 w9 h9; exact h9.elim
  rintro v11 w11 ⟨rfl, x11, rfl, Ix⟩
  refine ne_aload_n X dX1_workOutPartSum_14 rfl ?_
  refine ne_getf X dX1_workOutPartSum_15 nw_fX1_25 rfl rfl ?_
  refine ne_iload_n X dX1_workOutPartSum_18 rfl ?_
  refine ne_ialdR X dX1_workOutPartSum_19 rfl (by omega) In (fun v19 e19 f19 u19 => ?_)
  refine ne_iconst X dX1_workOutPartSum_20 ?_
  refine ne_isub X dX1_workOutPartSum_21 ?_
  refine ne_istore X dX1_workOutPartSum_22 (by decide) ?_
  refine ne_ll (L' := [some (.ref 0), some (ni _), some (ni _), some (ni _), some (ni _)]) rfl ?_
  exact lp24 _ _ _ _ (Nat.lt_succ_self _) (by omega) (by omega) (by omega) (by omega) (ne_rg_mono Ix (by omega) (by omega)) (fun m hm => (Ix m).2)
set_option maxRecDepth 100000 in
set_option maxHeartbeats 4000000 in
theorem me_X1_ninesOf (l : Launch) (hl : l.stackTraces = false) (c q t b k n h x y : Nat → Int) (T : Int) (hI : cI c q t b k n h x y T) (hT : 0 ≤ T ∧ T ≤ 1000000) (i p : Int) (hi : 0 ≤ i ∧ i < 3) (hp : 2 ≤ p ∧ p ≤ 12) : ne_M l nw_cl (.code yX1_ninesOf cX1_ninesOf 5 (some .int)) nw_T yX1_ninesOf 4 150 0 0 [.ref 0, ni i, ni p] (cW c q t b k n h x y) (fun v w => ∃ x1 y1, w = cW c q t b k n h x1 y1 ∧ ne_rg x1 0 9 ∧ ne_rg y1 0 9 ∧ ∃ z : Int, v = some (ni z) ∧ -9 ≤ z ∧ z ≤ 12) (fun _ _ => False) := by
  refine ne_meet (own := RX1) hl rfl (by decide +kernel) (Nat.le_of_ble_eq_true rfl) ?_
  intro D ct A P9 V9 R9 S9 M9 as9 bl9 mt9 C9 ad0 X hr hin ht
  obtain ⟨Ic, Iq, It, Ib, Itb, Ik, In, Ih, Ix, Iy⟩ := hI
  have lp28 : ∀ (n9 : Nat) (x1 y1 : Nat → Int) (d j : Int), (13 - j).toNat < n9 → (0 ≤ j) → (j ≤ 13) → (0 ≤ d) → (d ≤ 96) → (ne_rg x1 0 9) → (ne_rg y1 0 9) → ne_G nw_cl D ct A 12 ad0 P9 l V9 R9 S9 M9 as9 bl9 mt9 C9 (ne_O nw_cl D ct ad0 12 A bl9 as9 S9 0 0 (fun v w => ∃ x1 y1, w = cW c q t b k n h x1 y1 ∧ ne_rg x1 0 9 ∧ ne_rg y1 0 9 ∧ ∃ z : Int, v = some (ni z) ∧ -9 ≤ z ∧ z ≤ 12) (fun _ _ => False)) 5 0 0 0 0 28 [some (.ref 0), some (ni i), some (ni p), some (ni d), some (ni j)] [] (cW c q t b k n h x1 y1) := by
    intro n9
    induction n9 with
    | zero => intro x1 y1 d j hm9 q1 q2 q3 q4 Ix Iy; exfalso; omega
    | succ n9 ih =>
      intro x1 y1 d j hm9 q1 q2 q3 q4 Ix Iy
      refine ne_iload X dX1_ninesOf_28 rfl ?_
      refine ne_iload_n X dX1_ninesOf_30 rfl ?_
      refine ne_icmp_gt (tgt := 67) X dX1_ninesOf_31 rfl (by omega) (by omega) (fun b31 => ?_) (fun b31 => ?_)
      · refine ne_iconst X dX1_ninesOf_67 ?_
        exact ne_iret X hr (by first | rfl | decide | rfl) dX1_ninesOf_68 ⟨_, _, rfl, Ix, Iy, _, rfl, by omega⟩
      · refine ne_aload_n X dX1_ninesOf_34 rfl ?_
        refine ne_getf X dX1_ninesOf_35 nw_fX1_38 rfl rfl ?_
        refine ne_iload_n X dX1_ninesOf_38 rfl ?_
        refine ne_iload X dX1_ninesOf_39 rfl ?_
        refine ne_callVN (host := "Ninewheel") X nw_Tg (me_X0_becomeNines_y l hl c q t b k n h x1 y1 _ _ Iy (by omega) (by omega)) nw_yX0_becomeNines (by decide +kernel) nw_iX0_becomeNines nw_eX0_becomeNines (ci := 2) rfl rfl rfl dX1_ninesOf_41 rfl rfl (by decide) (by decide) (by first | decide | omega) (by first | decide | omega) (Nat.le_of_ble_eq_true rfl) rfl rfl (Nat.le_of_ble_eq_true rfl) ?_ ?_
        rotate_left
        · rintro E9 w9 h9; exact h9.elim
        rintro v41 w41 ⟨rfl, y41, rfl, Iy⟩
        refine ne_aload_n X dX1_ninesOf_44 rfl ?_
        refine ne_getf X dX1_ninesOf_45 nw_fX1_34 rfl rfl ?_
        refine ne_aload_n X dX1_ninesOf_48 rfl ?_
        refine ne_getf X dX1_ninesOf_49 nw_fX1_38 rfl rfl ?_
        refine ne_callVN (host := "Ninewheel") X nw_Tg (me_X0_isLike_x l hl c q t b k n h x1 y41 Ix Iy) nw_yX0_isLike (by decide +kernel) nw_iX0_isLike nw_eX0_isLike (ci := 2) rfl rfl rfl dX1_ninesOf_52 rfl rfl (by decide) (by decide) (by first | decide | omega) (by first | decide | omega) (Nat.le_of_ble_eq_true rfl) rfl rfl (Nat.le_of_ble_eq_true rfl) ?_ ?_
        rotate_left
        · rintro E9 w9 h9; exact h9.elim
        rintro v52 w52 ⟨rfl, z52, rfl, g52, k52, i52⟩
        refine ne_if_eq (tgt := 61) X dX1_ninesOf_55 rfl (by omega) (fun b55 => ?_) (fun b55 => ?_)
        · refine ne_iinc X dX1_ninesOf_61 rfl (by decide) ?_
          refine ne_goto (tgt := 28) X dX1_ninesOf_64 rfl ?_
          exact ih _ _ _ _ (by omega) (by omega) (by omega) (by omega) (by omega) Ix Iy
        · refine ne_iload X dX1_ninesOf_58 rfl ?_
          exact ne_iret X hr (by first | rfl | decide | rfl) dX1_ninesOf_60 ⟨_, _, rfl, Ix, Iy, _, rfl, by omega⟩
  refine ne_aload_n X dX1_ninesOf_0 rfl ?_
  refine ne_iload_n X dX1_ninesOf_1 rfl ?_
  refine ne_iload_n X dX1_ninesOf_2 rfl ?_
  refine ne_callV X nw_Tg (me_X1_hasParts l hl c q t b k n h x y T (by exact ⟨Ic, Iq, It, Ib, Itb, Ik, In, Ih, Ix, Iy⟩) (by omega) _ _ (by omega) (by omega)) nw_yX1_hasParts nw_mX1_177 nw_iX1_hasParts nw_eX1_hasParts (ci := 3) rfl rfl rfl dX1_ninesOf_3 rfl rfl (by decide) (by decide) (by first | decide | omega) (by first | decide | omega) (Nat.le_of_ble_eq_true rfl) rfl rfl (Nat.le_of_ble_eq_true rfl) ?_ ?_
  rotate_left
  · rintro E9 w9 h9; exact h9.elim
  rintro v3 w3 ⟨rfl, z3, rfl, g3, k3, i3⟩
  refine ne_if_ne (tgt := 12) X dX1_ninesOf_6 rfl (by omega) (fun b6 => ?_) (fun b6 => ?_)
  · refine ne_aload_n X dX1_ninesOf_12 rfl ?_
    refine ne_iload_n X dX1_ninesOf_13 rfl ?_
    refine ne_iload_n X dX1_ninesOf_14 rfl ?_
    refine ne_callV X nw_Tg (me_X1_partLength l hl c q t b k n h x y T (by exact ⟨Ic, Iq, It, Ib, Itb, Ik, In, Ih, Ix, Iy⟩) (by omega) _ _ (by omega) (by omega)) nw_yX1_partLength nw_mX1_180 nw_iX1_partLength nw_eX1_partLength (ci := 3) rfl rfl rfl dX1_ninesOf_15 rfl rfl (by decide) (by decide) (by first | decide | omega) (by first | decide | omega) (Nat.le_of_ble_eq_true rfl) rfl rfl (Nat.le_of_ble_eq_true rfl) ?_ ?_
    rotate_left
    · rintro E9 w9 h9; exact h9.elim
    rintro v15 w15 ⟨rfl, z15, rfl, g15, k15, i15⟩
    refine ne_istore_n X dX1_ninesOf_18 rfl (by decide) ?_
    refine ne_aload_n X dX1_ninesOf_19 rfl ?_
    refine ne_iload_n X dX1_ninesOf_20 rfl ?_
    refine ne_iload_n X dX1_ninesOf_21 rfl ?_
    refine ne_callV X nw_Tg (me_X1_workOutPartSum l hl c q t b k n h x y T (by exact ⟨Ic, Iq, It, Ib, Itb, Ik, In, Ih, Ix, Iy⟩) (by omega) _ _ (by omega) (by omega)) nw_yX1_workOutPartSum nw_mX1_183 nw_iX1_workOutPartSum nw_eX1_workOutPartSum (ci := 3) rfl rfl rfl dX1_ninesOf_22 rfl rfl (by decide) (by decide) (by first | decide | omega) (by first | decide | omega) (Nat.le_of_ble_eq_true rfl) rfl rfl (Nat.le_of_ble_eq_true rfl) ?_ ?_
    rotate_left
    · rintro E9 w9 h9; exact h9.elim
    rintro v22 w22 ⟨rfl, x22, rfl, Ix⟩
    refine ne_iconst X dX1_ninesOf_25 ?_
    refine ne_istore X dX1_ninesOf_26 (by decide) ?_
    refine ne_ll (L' := [some (.ref 0), some (ni _), some (ni _), some (ni _), some (ni _)]) rfl ?_
    exact lp28 _ _ _ _ 0 (Nat.lt_succ_self _) (by omega) (by omega) (by omega) (by omega) Ix Iy
  · refine ne_bipush (v := -9) (by decide) X dX1_ninesOf_9 ?_
    exact ne_iret X hr (by first | rfl | decide | rfl) dX1_ninesOf_11 ⟨_, _, rfl, Ix, Iy, _, rfl, by omega⟩
set_option maxRecDepth 100000 in
set_option maxHeartbeats 4000000 in
theorem me_X1_isCellSoundWithAll (l : Launch) (hl : l.stackTraces = false) (c q t b k n h x y : Nat → Int) (T : Int) (hI : cI c q t b k n h x y T) (hT : 0 ≤ T ∧ T ≤ 1000000) (i : Int) (hi : 0 ≤ i ∧ i < 4) : ne_M l nw_cl (.code yX1_isCellSoundWithAll cX1_isCellSoundWithAll 7 (some .boolean)) nw_T yX1_isCellSoundWithAll 3 110 0 0 [.ref 0, ni i] (cW c q t b k n h x y) (fun v w => w = cW c q t b k n h x y ∧ ∃ z : Int, v = some (ni z) ∧ 0 ≤ z ∧ z ≤ 1) (fun _ _ => False) := by
  refine ne_meet (own := RX1) hl rfl (by decide +kernel) (Nat.le_of_ble_eq_true rfl) ?_
  intro D ct A P9 V9 R9 S9 M9 as9 bl9 mt9 C9 ad0 X hr hin ht
  obtain ⟨Ic, Iq, It, Ib, Itb, Ik, In, Ih, Ix, Iy⟩ := hI
  have lp2 : ∀ (n9 : Nat) (j : Int), (4 - j).toNat < n9 → (0 ≤ j) → (j ≤ 4) → ne_G nw_cl D ct A 12 ad0 P9 l V9 R9 S9 M9 as9 bl9 mt9 C9 (ne_O nw_cl D ct ad0 12 A bl9 as9 S9 0 0 (fun v w => w = cW c q t b k n h x y ∧ ∃ z : Int, v = some (ni z) ∧ 0 ≤ z ∧ z ≤ 1) (fun _ _ => False)) 7 0 0 0 0 2 [some (.ref 0), some (ni i), some (ni j), none, none, none, none] [] (cW c q t b k n h x y) := by
    intro n9
    induction n9 with
    | zero => intro j hm9 q1 q2; exfalso; omega
    | succ n9 ih =>
      intro j hm9 q1 q2
      refine ne_iload_n X dX1_isCellSoundWithAll_2 rfl ?_
      refine ne_iconst X dX1_isCellSoundWithAll_3 ?_
      refine ne_icmp_ge (tgt := 99) X dX1_isCellSoundWithAll_4 rfl (by omega) (by omega) (fun b4 => ?_) (fun b4 => ?_)
      · refine ne_iconst X dX1_isCellSoundWithAll_99 ?_
        exact ne_iret X hr (by first | rfl | decide | rfl) dX1_isCellSoundWithAll_100 ⟨rfl, _, rfl, by omega⟩
      · refine ne_aload_n X dX1_isCellSoundWithAll_7 rfl ?_
        refine ne_getf X dX1_isCellSoundWithAll_8 nw_fX1_13 rfl rfl ?_
        refine ne_iload_n X dX1_isCellSoundWithAll_11 rfl ?_
        refine ne_ialdR X dX1_isCellSoundWithAll_12 rfl (by omega) Iq (fun v12 e12 f12 u12 => ?_)
        refine ne_aload_n X dX1_isCellSoundWithAll_13 rfl ?_
        refine ne_getf X dX1_isCellSoundWithAll_14 nw_fX1_13 rfl rfl ?_
        refine ne_iload_n X dX1_isCellSoundWithAll_17 rfl ?_
        refine ne_ialdR X dX1_isCellSoundWithAll_18 rfl (by omega) Iq (fun v18 e18 f18 u18 => ?_)
        refine ne_mmax X dX1_isCellSoundWithAll_19 nw_mX1_69 nw_Ms_max nw_Mi nw_Mc_max (by decide) (Nat.le_of_ble_eq_true rfl) (by omega) (by omega) ?_
        refine ne_topI (fun m19 e19 => ?_)
        have p19 : 0 ≤ m19 ∧ m19 ≤ 3 := by rw [e19]; split <;> omega
        refine ne_istore_n X dX1_isCellSoundWithAll_22 rfl (by decide) ?_
        refine ne_aload_n X dX1_isCellSoundWithAll_23 rfl ?_
        refine ne_iload_n X dX1_isCellSoundWithAll_24 rfl ?_
        refine ne_iload_n X dX1_isCellSoundWithAll_25 rfl ?_
        refine ne_callV X nw_Tg (me_X1_countAt l hl c q t b k n h x y T (by exact ⟨Ic, Iq, It, Ib, Itb, Ik, In, Ih, Ix, Iy⟩) (by omega) _ _ (by omega) (by omega)) nw_yX1_countAt nw_mX1_73 nw_iX1_countAt nw_eX1_countAt (ci := 3) rfl rfl rfl dX1_isCellSoundWithAll_26 rfl rfl (by decide) (by decide) (by first | decide | omega) (by first | decide | omega) (Nat.le_of_ble_eq_true rfl) rfl rfl (Nat.le_of_ble_eq_true rfl) ?_ ?_
        rotate_left
        · rintro E9 w9 h9; exact h9.elim
        rintro v26 w26 ⟨rfl, z26, rfl, g26, k26, i26⟩
        refine ne_aload_n X dX1_isCellSoundWithAll_29 rfl ?_
        refine ne_iload_n X dX1_isCellSoundWithAll_30 rfl ?_
        refine ne_iload_n X dX1_isCellSoundWithAll_31 rfl ?_
        refine ne_callV X nw_Tg (me_X1_countAt l hl c q t b k n h x y T (by exact ⟨Ic, Iq, It, Ib, Itb, Ik, In, Ih, Ix, Iy⟩) (by omega) _ _ (by omega) (by omega)) nw_yX1_countAt nw_mX1_73 nw_iX1_countAt nw_eX1_countAt (ci := 3) rfl rfl rfl dX1_isCellSoundWithAll_32 rfl rfl (by decide) (by decide) (by first | decide | omega) (by first | decide | omega) (Nat.le_of_ble_eq_true rfl) rfl rfl (Nat.le_of_ble_eq_true rfl) ?_ ?_
        rotate_left
        · rintro E9 w9 h9; exact h9.elim
        rintro v32 w32 ⟨rfl, z32, rfl, g32, k32, i32⟩
        refine ne_ladd X dX1_isCellSoundWithAll_35 ?_
        refine ne_lstore X dX1_isCellSoundWithAll_36 (by decide) ?_
        refine ne_ll (L' := [some (.ref 0), some (ni _), some (ni _), some (ni _), some (nl _), none, none]) rfl ?_
        refine ne_aload_n X dX1_isCellSoundWithAll_38 rfl ?_
        refine ne_iload_n X dX1_isCellSoundWithAll_39 rfl ?_
        refine ne_iload_n X dX1_isCellSoundWithAll_40 rfl ?_
        refine ne_callV X nw_Tg (me_X1_orderOfCells l hl c q t b k n h x y T (by exact ⟨Ic, Iq, It, Ib, Itb, Ik, In, Ih, Ix, Iy⟩) (by omega) _ _ (by omega) (by omega)) nw_yX1_orderOfCells nw_mX1_107 nw_iX1_orderOfCells nw_eX1_orderOfCells (ci := 3) rfl rfl rfl dX1_isCellSoundWithAll_41 rfl rfl (by decide) (by decide) (by first | decide | omega) (by first | decide | omega) (Nat.le_of_ble_eq_true rfl) rfl rfl (Nat.le_of_ble_eq_true rfl) ?_ ?_
        rotate_left
        · rintro E9 w9 h9; exact h9.elim
        rintro v41 w41 ⟨rfl, z41, rfl, g41, k41, i41, j41⟩
        refine ne_istore X dX1_isCellSoundWithAll_44 (by decide) ?_
        refine ne_lload X dX1_isCellSoundWithAll_46 rfl ?_
        refine ne_aload_n X dX1_isCellSoundWithAll_48 rfl ?_
        refine ne_iload_n X dX1_isCellSoundWithAll_49 rfl ?_
        refine ne_iload_n X dX1_isCellSoundWithAll_50 rfl ?_
        refine ne_callV X nw_Tg (me_X1_countAt l hl c q t b k n h x y T (by exact ⟨Ic, Iq, It, Ib, Itb, Ik, In, Ih, Ix, Iy⟩) (by omega) _ _ (by omega) (by omega)) nw_yX1_countAt nw_mX1_73 nw_iX1_countAt nw_eX1_countAt (ci := 3) rfl rfl rfl dX1_isCellSoundWithAll_51 rfl rfl (by decide) (by decide) (by first | decide | omega) (by first | decide | omega) (Nat.le_of_ble_eq_true rfl) rfl rfl (Nat.le_of_ble_eq_true rfl) ?_ ?_
        rotate_left
        · rintro E9 w9 h9; exact h9.elim
        rintro v51 w51 ⟨rfl, z51, rfl, g51, k51, i51⟩
        refine ne_lsub X dX1_isCellSoundWithAll_54 ?_
        refine ne_aload_n X dX1_isCellSoundWithAll_55 rfl ?_
        refine ne_iload_n X dX1_isCellSoundWithAll_56 rfl ?_
        refine ne_iload_n X dX1_isCellSoundWithAll_57 rfl ?_
        refine ne_callV X nw_Tg (me_X1_countAt l hl c q t b k n h x y T (by exact ⟨Ic, Iq, It, Ib, Itb, Ik, In, Ih, Ix, Iy⟩) (by omega) _ _ (by omega) (by omega)) nw_yX1_countAt nw_mX1_73 nw_iX1_countAt nw_eX1_countAt (ci := 3) rfl rfl rfl dX1_isCellSoundWithAll_58 rfl rfl (by decide) (by decide) (by first | decide | omega) (by first | decide | omega) (Nat.le_of_ble_eq_true rfl) rfl rfl (Nat.le_of_ble_eq_true rfl) ?_ ?_
        rotate_left
        · rintro E9 w9 h9; exact h9.elim
        rintro v58 w58 ⟨rfl, z58, rfl, g58, k58, i58⟩
        refine ne_lcif_ne (tgt := 91) X dX1_isCellSoundWithAll_61 dX1_isCellSoundWithAll_62 rfl (by omega) (by omega) (fun b62 => ?_) (fun b62 => ?_)
        · refine ne_iconst X dX1_isCellSoundWithAll_91 ?_
          exact ne_iret X hr (by first | rfl | decide | rfl) dX1_isCellSoundWithAll_92 ⟨rfl, _, rfl, by omega⟩
        · refine ne_iload X dX1_isCellSoundWithAll_65 rfl ?_
          refine ne_aload_n X dX1_isCellSoundWithAll_67 rfl ?_
          refine ne_iload_n X dX1_isCellSoundWithAll_68 rfl ?_
          refine ne_iload_n X dX1_isCellSoundWithAll_69 rfl ?_
          refine ne_callV X nw_Tg (me_X1_orderOfCells l hl c q t b k n h x y T (by exact ⟨Ic, Iq, It, Ib, Itb, Ik, In, Ih, Ix, Iy⟩) (by omega) _ _ (by omega) (by omega)) nw_yX1_orderOfCells nw_mX1_107 nw_iX1_orderOfCells nw_eX1_orderOfCells (ci := 3) rfl rfl rfl dX1_isCellSoundWithAll_70 rfl rfl (by decide) (by decide) (by first | decide | omega) (by first | decide | omega) (Nat.le_of_ble_eq_true rfl) rfl rfl (Nat.le_of_ble_eq_true rfl) ?_ ?_
          rotate_left
          · rintro E9 w9 h9; exact h9.elim
          rintro v70 w70 ⟨rfl, z70, rfl, g70, k70, i70, j70⟩
          refine ne_ineg X dX1_isCellSoundWithAll_73 ?_
          refine ne_icmp_ne (tgt := 91) X dX1_isCellSoundWithAll_74 rfl (by omega) (by omega) (fun b74 => ?_) (fun b74 => ?_)
          · refine ne_iconst X dX1_isCellSoundWithAll_91 ?_
            exact ne_iret X hr (by first | rfl | decide | rfl) dX1_isCellSoundWithAll_92 ⟨rfl, _, rfl, by omega⟩
          · refine ne_aload_n X dX1_isCellSoundWithAll_77 rfl ?_
            refine ne_iload_n X dX1_isCellSoundWithAll_78 rfl ?_
            refine ne_iload_n X dX1_isCellSoundWithAll_79 rfl ?_
            refine ne_callV X nw_Tg (me_X1_areSame l hl c q t b k n h x y T (by exact ⟨Ic, Iq, It, Ib, Itb, Ik, In, Ih, Ix, Iy⟩) (by omega) _ _ (by omega) (by omega)) nw_yX1_areSame nw_mX1_124 nw_iX1_areSame nw_eX1_areSame (ci := 3) rfl rfl rfl dX1_isCellSoundWithAll_80 rfl rfl (by decide) (by decide) (by first | decide | omega) (by first | decide | omega) (Nat.le_of_ble_eq_true rfl) rfl rfl (Nat.le_of_ble_eq_true rfl) ?_ ?_
            rotate_left
            · rintro E9 w9 h9; exact h9.elim
            rintro v80 w80 ⟨rfl, z80, rfl, g80, k80, i80⟩
            refine ne_if_eq (tgt := 93) X dX1_isCellSoundWithAll_83 rfl (by omega) (fun b83 => ?_) (fun b83 => ?_)
            · refine ne_iinc X dX1_isCellSoundWithAll_93 rfl (by decide) ?_
              refine ne_ll (L' := [some (.ref 0), some (ni _), some (ni _), some (ni _), some (nl _), none, some (ni _)]) rfl ?_
              refine ne_goto (tgt := 2) X dX1_isCellSoundWithAll_96 rfl ?_
              refine ne_lnone 3 (ne_lnone 4 (ne_lnone 6 ?_))
              exact ih _ (by omega) (by omega) (by omega)
            · refine ne_iload X dX1_isCellSoundWithAll_86 rfl ?_
              refine ne_if_eq (tgt := 93) X dX1_isCellSoundWithAll_88 rfl (by omega) (fun b88 => ?_) (fun b88 => ?_)
              · refine ne_iinc X dX1_isCellSoundWithAll_93 rfl (by decide) ?_
                refine ne_ll (L' := [some (.ref 0), some (ni _), some (ni _), some (ni _), some (nl _), none, some (ni _)]) rfl ?_
                refine ne_goto (tgt := 2) X dX1_isCellSoundWithAll_96 rfl ?_
                refine ne_lnone 3 (ne_lnone 4 (ne_lnone 6 ?_))
                exact ih _ (by omega) (by omega) (by omega)
              · refine ne_iconst X dX1_isCellSoundWithAll_91 ?_
                exact ne_iret X hr (by first | rfl | decide | rfl) dX1_isCellSoundWithAll_92 ⟨rfl, _, rfl, by omega⟩
  refine ne_iconst X dX1_isCellSoundWithAll_0 ?_
  refine ne_istore_n X dX1_isCellSoundWithAll_1 rfl (by decide) ?_
  exact lp2 _ 0 (Nat.lt_succ_self _) (by omega) (by omega)
set_option maxRecDepth 100000 in
set_option maxHeartbeats 4000000 in
theorem me_X1_isLengthSound (l : Launch) (hl : l.stackTraces = false) (c q t b k n h x y : Nat → Int) (T : Int) (hI : cI c q t b k n h x y T) (hT : 0 ≤ T ∧ T ≤ 1000000) (i : Int) (hi : 0 ≤ i ∧ i < 3) : ne_M l nw_cl (.code yX1_isLengthSound cX1_isLengthSound 6 (some .boolean)) nw_T yX1_isLengthSound 2 70 0 0 [.ref 0, ni i] (cW c q t b k n h x y) (fun v w => w = cW c q t b k n h x y ∧ ∃ z : Int, v = some (ni z) ∧ 0 ≤ z ∧ z ≤ 1) (fun _ _ => False) := by
  refine ne_meet (own := RX1) hl rfl (by decide +kernel) (Nat.le_of_ble_eq_true rfl) ?_
  intro D ct A P9 V9 R9 S9 M9 as9 bl9 mt9 C9 ad0 X hr hin ht
  obtain ⟨Ic, Iq, It, Ib, Itb, Ik, In, Ih, Ix, Iy⟩ := hI
  have htb9 := Itb i.toNat
  have hb9 := Ib i.toNat
  have lp20 : ∀ (n9 : Nat) (d r f j : Int), (97 - j).toNat < n9 → (1 ≤ j) → (j ≤ 97) → (0 ≤ r) → (r < b i.toNat) → (0 ≤ f) → (f ≤ 1) → (1 ≤ d) → (d ≤ 96) → ne_G nw_cl D ct A 12 ad0 P9 l V9 R9 S9 M9 as9 bl9 mt9 C9 (ne_O nw_cl D ct ad0 12 A bl9 as9 S9 0 0 (fun v w => w = cW c q t b k n h x y ∧ ∃ z : Int, v = some (ni z) ∧ 0 ≤ z ∧ z ≤ 1) (fun _ _ => False)) 6 0 0 0 0 20 [some (.ref 0), some (ni i), some (ni d), some (ni r), some (ni f), some (ni j)] [] (cW c q t b k n h x y) := by
    intro n9
    induction n9 with
    | zero => intro d r f j hm9 q1 q2 q3 q4 q5 q6 q7 q8; exfalso; omega
    | succ n9 ih =>
      intro d r f j hm9 q1 q2 q3 q4 q5 q6 q7 q8
      refine ne_iload X dX1_isLengthSound_20 rfl ?_
      refine ne_iload_n X dX1_isLengthSound_22 rfl ?_
      refine ne_icmp_gt (tgt := 82) X dX1_isLengthSound_23 rfl (by omega) (by omega) (fun b23 => ?_) (fun b23 => ?_)
      · refine ne_iload X dX1_isLengthSound_82 rfl ?_
        exact ne_iret X hr (by first | rfl | decide | (rcases (show f = 0 ∨ f = 1 by omega) with rfl | rfl <;> rfl)) dX1_isLengthSound_84 ⟨rfl, _, rfl, by omega⟩
      · refine ne_iload_n X dX1_isLengthSound_26 rfl ?_
        refine ne_aload_n X dX1_isLengthSound_27 rfl ?_
        refine ne_getf X dX1_isLengthSound_28 nw_fX1_19 rfl rfl ?_
        refine ne_iload_n X dX1_isLengthSound_31 rfl ?_
        refine ne_ialdR X dX1_isLengthSound_32 rfl (by omega) Ib (fun v32 e32 f32 u32 => ?_)
        refine ne_callS X nw_Tg (me_X1_restAfter l hl _ _ _ (by omega) (by omega) (by omega)) nw_yX1_restAfter nw_mX1_189 nw_sX1_restAfter dX1_isLengthSound_33 rfl rfl (by decide) (by decide) (by first | decide | omega) (by first | decide | omega) (Nat.le_of_ble_eq_true rfl) rfl rfl (Nat.le_of_ble_eq_true rfl) ?_ ?_
        rotate_left
        · rintro E9 w9 h9; exact h9.elim
        rintro v33 w33 ⟨rfl, z33, rfl, g33, k33, i33⟩
        refine ne_istore_n X dX1_isLengthSound_36 rfl (by decide) ?_
        refine ne_iload_n X dX1_isLengthSound_37 rfl ?_
        refine ne_aload_n X dX1_isLengthSound_38 rfl ?_
        refine ne_getf X dX1_isLengthSound_39 nw_fX1_16 rfl rfl ?_
        refine ne_iload_n X dX1_isLengthSound_42 rfl ?_
        refine ne_ialdR X dX1_isLengthSound_43 rfl (by omega) It (fun v43 e43 f43 u43 => ?_)
        refine ne_icmp_ne (tgt := 51) X dX1_isLengthSound_44 rfl (by omega) (by omega) (fun b44 => ?_) (fun b44 => ?_)
        · refine ne_iconst X dX1_isLengthSound_51 ?_
          refine ne_istore X dX1_isLengthSound_52 (by decide) ?_
          refine ne_ll (L' := [some (.ref 0), some (ni _), some (ni _), some (ni _), some (ni _), some (ni _)]) rfl ?_
          refine ne_iload X dX1_isLengthSound_54 rfl ?_
          refine ne_if_eq (tgt := 76) X dX1_isLengthSound_56 rfl (by omega) (fun b56 => ?_) (fun b56 => ?_)
          · refine ne_iinc X dX1_isLengthSound_76 rfl (by decide) ?_
            refine ne_goto (tgt := 20) X dX1_isLengthSound_79 rfl ?_
            exact ih _ _ _ _ (by omega) (by omega) (by omega) (by omega) (by omega) (by omega) (by omega) (by omega) (by omega)
          · exfalso; omega
        · refine ne_iconst X dX1_isLengthSound_47 ?_
          refine ne_goto (tgt := 52) X dX1_isLengthSound_48 rfl ?_
          refine ne_istore X dX1_isLengthSound_52 (by decide) ?_
          refine ne_ll (L' := [some (.ref 0), some (ni _), some (ni _), some (ni _), some (ni _), some (ni _)]) rfl ?_
          refine ne_iload X dX1_isLengthSound_54 rfl ?_
          refine ne_if_eq (tgt := 76) X dX1_isLengthSound_56 rfl (by omega) (fun b56 => ?_) (fun b56 => ?_)
          · exfalso; omega
          · refine ne_iload X dX1_isLengthSound_59 rfl ?_
            refine ne_iload_n X dX1_isLengthSound_61 rfl ?_
            refine ne_icmp_ge (tgt := 76) X dX1_isLengthSound_62 rfl (by omega) (by omega) (fun b62 => ?_) (fun b62 => ?_)
            · refine ne_iinc X dX1_isLengthSound_76 rfl (by decide) ?_
              refine ne_goto (tgt := 20) X dX1_isLengthSound_79 rfl ?_
              exact ih _ _ _ _ (by omega) (by omega) (by omega) (by omega) (by omega) (by omega) (by omega) (by omega) (by omega)
            · refine ne_iload_n X dX1_isLengthSound_65 rfl ?_
              refine ne_iload X dX1_isLengthSound_66 rfl ?_
              refine ne_callS X nw_Tg (me_X1_leftover l hl _ _ _ (by omega) (by omega)) nw_yX1_leftover nw_mX1_147 nw_sX1_leftover dX1_isLengthSound_68 rfl rfl (by decide) (by decide) (by first | decide | omega) (by first | decide | omega) (Nat.le_of_ble_eq_true rfl) rfl rfl (Nat.le_of_ble_eq_true rfl) ?_ ?_
              rotate_left
              · rintro E9 w9 h9; exact h9.elim
              rintro v68 w68 ⟨rfl, z68, rfl, g68⟩
              have t68 := (ne_tdm d j (by omega)).1 (by omega)
              refine ne_if_ne (tgt := 76) X dX1_isLengthSound_71 rfl (by omega) (fun b71 => ?_) (fun b71 => ?_)
              · refine ne_iinc X dX1_isLengthSound_76 rfl (by decide) ?_
                refine ne_goto (tgt := 20) X dX1_isLengthSound_79 rfl ?_
                exact ih _ _ _ _ (by omega) (by omega) (by omega) (by omega) (by omega) (by omega) (by omega) (by omega) (by omega)
              · refine ne_iconst X dX1_isLengthSound_74 ?_
                exact ne_iret X hr (by first | rfl | decide | (rcases (show f = 0 ∨ f = 1 by omega) with rfl | rfl <;> rfl)) dX1_isLengthSound_75 ⟨rfl, _, rfl, by omega⟩
  refine ne_aload_n X dX1_isLengthSound_0 rfl ?_
  refine ne_getf X dX1_isLengthSound_1 nw_fX1_25 rfl rfl ?_
  refine ne_iload_n X dX1_isLengthSound_4 rfl ?_
  refine ne_ialdR X dX1_isLengthSound_5 rfl (by omega) In (fun v5 e5 f5 u5 => ?_)
  refine ne_istore_n X dX1_isLengthSound_6 rfl (by decide) ?_
  refine ne_aload_n X dX1_isLengthSound_7 rfl ?_
  refine ne_getf X dX1_isLengthSound_8 nw_fX1_16 rfl rfl ?_
  refine ne_iload_n X dX1_isLengthSound_11 rfl ?_
  refine ne_ialdR X dX1_isLengthSound_12 rfl (by omega) It (fun v12 e12 f12 u12 => ?_)
  refine ne_istore_n X dX1_isLengthSound_13 rfl (by decide) ?_
  refine ne_ll (L' := [some (.ref 0), some (ni _), some (ni _), some (ni _), none, none]) rfl ?_
  refine ne_iconst X dX1_isLengthSound_14 ?_
  refine ne_istore X dX1_isLengthSound_15 (by decide) ?_
  refine ne_iconst X dX1_isLengthSound_17 ?_
  refine ne_istore X dX1_isLengthSound_18 (by decide) ?_
  refine ne_ll (L' := [some (.ref 0), some (ni _), some (ni _), some (ni _), some (ni _), some (ni _)]) rfl ?_
  exact lp20 _ _ _ 0 1 (Nat.lt_succ_self _) (by omega) (by omega) (by omega) (by omega) (by omega) (by omega) (by omega) (by omega)
set_option maxRecDepth 100000 in
set_option maxHeartbeats 4000000 in
theorem me_X1_isProductSound (l : Launch) (hl : l.stackTraces = false) (c q t b k n h x y : Nat → Int) (T : Int) (hI : cI c q t b k n h x y T) (hT : 0 ≤ T ∧ T ≤ 1000000) (i : Int) (hi : 0 ≤ i ∧ i < 3) : ne_M l nw_cl (.code yX1_isProductSound cX1_isProductSound 2 (some .boolean)) nw_T yX1_isProductSound 4 150 0 0 [.ref 0, ni i] (cW c q t b k n h x y) (fun v w => ∃ x1 y1, w = cW c q t b k n h x1 y1 ∧ ne_rg x1 0 9 ∧ ne_rg y1 0 9 ∧ ∃ z : Int, v = some (ni z) ∧ 0 ≤ z ∧ z ≤ 1) (fun _ _ => False) := by
  refine ne_meet (own := RX1) hl rfl (by decide +kernel) (Nat.le_of_ble_eq_true rfl) ?_
  intro D ct A P9 V9 R9 S9 M9 as9 bl9 mt9 C9 ad0 X hr hin ht
  obtain ⟨Ic, Iq, It, Ib, Itb, Ik, In, Ih, Ix, Iy⟩ := hI
  refine ne_aload_n X dX1_isProductSound_0 rfl ?_
  refine ne_iload_n X dX1_isProductSound_1 rfl ?_
  refine ne_callV X nw_Tg (me_X1_workOutProduct l hl c q t b k n h x y T (by exact ⟨Ic, Iq, It, Ib, Itb, Ik, In, Ih, Ix, Iy⟩) (by omega) _ (by omega)) nw_yX1_workOutProduct nw_mX1_166 nw_iX1_workOutProduct nw_eX1_workOutProduct (ci := 3) rfl rfl rfl dX1_isProductSound_2 rfl rfl (by decide) (by decide) (by first | decide | omega) (by first | decide | omega) (Nat.le_of_ble_eq_true rfl) rfl rfl (Nat.le_of_ble_eq_true rfl) ?_ ?_
  rotate_left
  · rintro E9 w9 h9; exact h9.elim
  rintro v2 w2 ⟨rfl, x2, rfl, Ix⟩
  refine ne_aload_n X dX1_isProductSound_5 rfl ?_
  refine ne_getf X dX1_isProductSound_6 nw_fX1_38 rfl rfl ?_
  refine ne_aload_n X dX1_isProductSound_9 rfl ?_
  refine ne_getf X dX1_isProductSound_10 nw_fX1_25 rfl rfl ?_
  refine ne_iload_n X dX1_isProductSound_13 rfl ?_
  refine ne_ialdR X dX1_isProductSound_14 rfl (by omega) In (fun v14 e14 f14 u14 => ?_)
  refine ne_aload_n X dX1_isProductSound_15 rfl ?_
  refine ne_getf X dX1_isProductSound_16 nw_fX1_16 rfl rfl ?_
  refine ne_iload_n X dX1_isProductSound_19 rfl ?_
  refine ne_ialdR X dX1_isProductSound_20 rfl (by omega) It (fun v20 e20 f20 u20 => ?_)
  refine ne_callVN (host := "Ninewheel") X nw_Tg (me_X0_becomeNines_y l hl c q t b k n h x2 y _ _ Iy (by omega) (by omega)) nw_yX0_becomeNines (by decide +kernel) nw_iX0_becomeNines nw_eX0_becomeNines (ci := 2) rfl rfl rfl dX1_isProductSound_21 rfl rfl (by decide) (by decide) (by first | decide | omega) (by first | decide | omega) (Nat.le_of_ble_eq_true rfl) rfl rfl (Nat.le_of_ble_eq_true rfl) ?_ ?_
  rotate_left
  · rintro E9 w9 h9; exact h9.elim
  rintro v21 w21 ⟨rfl, y21, rfl, Iy⟩
  refine ne_aload_n X dX1_isProductSound_24 rfl ?_
  refine ne_getf X dX1_isProductSound_25 nw_fX1_34 rfl rfl ?_
  refine ne_aload_n X dX1_isProductSound_28 rfl ?_
  refine ne_getf X dX1_isProductSound_29 nw_fX1_38 rfl rfl ?_
  refine ne_callVN (host := "Ninewheel") X nw_Tg (me_X0_isLike_x l hl c q t b k n h x2 y21 Ix Iy) nw_yX0_isLike (by decide +kernel) nw_iX0_isLike nw_eX0_isLike (ci := 2) rfl rfl rfl dX1_isProductSound_32 rfl rfl (by decide) (by decide) (by first | decide | omega) (by first | decide | omega) (Nat.le_of_ble_eq_true rfl) rfl rfl (Nat.le_of_ble_eq_true rfl) ?_ ?_
  rotate_left
  · rintro E9 w9 h9; exact h9.elim
  rintro v32 w32 ⟨rfl, z32, rfl, g32, k32, i32⟩
  exact ne_iret X hr (by first | rfl | decide | (rcases (show z32 = 0 ∨ z32 = 1 by omega) with rfl | rfl <;> rfl)) dX1_isProductSound_35 ⟨_, _, rfl, Ix, Iy, _, rfl, by omega⟩
set_option maxRecDepth 100000 in
set_option maxHeartbeats 4000000 in
theorem me_X1_isCutSound (l : Launch) (hl : l.stackTraces = false) (c q t b k n h x y : Nat → Int) (T : Int) (hI : cI c q t b k n h x y T) (hT : 0 ≤ T ∧ T ≤ 1000000) (i : Int) (hi : 0 ≤ i ∧ i < 3) : ne_M l nw_cl (.code yX1_isCutSound cX1_isCutSound 8 (some .boolean)) nw_T yX1_isCutSound 4 150 0 0 [.ref 0, ni i] (cW c q t b k n h x y) (fun v w => w = cW c q t b k n h x y ∧ ∃ z : Int, v = some (ni z) ∧ 0 ≤ z ∧ z ≤ 1) (fun _ _ => False) := by
  refine ne_meet (own := RX1) hl rfl (by decide +kernel) (Nat.le_of_ble_eq_true rfl) ?_
  intro D ct A P9 V9 R9 S9 M9 as9 bl9 mt9 C9 ad0 X hr hin ht
  obtain ⟨Ic, Iq, It, Ib, Itb, Ik, In, Ih, Ix, Iy⟩ := hI
  refine ne_aload_n X dX1_isCutSound_0 rfl ?_
  refine ne_iload_n X dX1_isCutSound_1 rfl ?_
  refine ne_iconst X dX1_isCutSound_2 ?_
  refine ne_iconst X dX1_isCutSound_3 ?_
  refine ne_iconst X dX1_isCutSound_4 ?_
  refine ne_callV X nw_Tg (me_X1_cutCount l hl c q t b k n h x y T (by exact ⟨Ic, Iq, It, Ib, Itb, Ik, In, Ih, Ix, Iy⟩) (by omega) _ _ _ _ (by omega) (by omega) (by omega) (by omega)) nw_yX1_cutCount nw_mX1_113 nw_iX1_cutCount nw_eX1_cutCount (ci := 3) rfl rfl rfl dX1_isCutSound_5 rfl rfl (by decide) (by decide) (by first | decide | omega) (by first | decide | omega) (Nat.le_of_ble_eq_true rfl) rfl rfl (Nat.le_of_ble_eq_true rfl) ?_ ?_
  rotate_left
  · rintro E9 w9 h9; exact h9.elim
  rintro v5 w5 ⟨rfl, z5, rfl, g5⟩
  refine ne_lstore_n X dX1_isCutSound_8 rfl (by decide) ?_
  refine ne_aload_n X dX1_isCutSound_9 rfl ?_
  refine ne_iload_n X dX1_isCutSound_10 rfl ?_
  refine ne_iconst X dX1_isCutSound_11 ?_
  refine ne_iconst X dX1_isCutSound_12 ?_
  refine ne_iconst X dX1_isCutSound_13 ?_
  refine ne_callV X nw_Tg (me_X1_cutCount l hl c q t b k n h x y T (by exact ⟨Ic, Iq, It, Ib, Itb, Ik, In, Ih, Ix, Iy⟩) (by omega) _ _ _ _ (by omega) (by omega) (by omega) (by omega)) nw_yX1_cutCount nw_mX1_113 nw_iX1_cutCount nw_eX1_cutCount (ci := 3) rfl rfl rfl dX1_isCutSound_14 rfl rfl (by decide) (by decide) (by first | decide | omega) (by first | decide | omega) (Nat.le_of_ble_eq_true rfl) rfl rfl (Nat.le_of_ble_eq_true rfl) ?_ ?_
  rotate_left
  · rintro E9 w9 h9; exact h9.elim
  rintro v14 w14 ⟨rfl, z14, rfl, g14⟩
  refine ne_lstore X dX1_isCutSound_17 (by decide) ?_
  refine ne_ll (L' := [some (.ref 0), some (ni _), some (nl _), none, some (nl _), none, none, none]) rfl ?_
  refine ne_aload_n X dX1_isCutSound_19 rfl ?_
  refine ne_iload_n X dX1_isCutSound_20 rfl ?_
  refine ne_iconst X dX1_isCutSound_21 ?_
  refine ne_iconst X dX1_isCutSound_22 ?_
  refine ne_iconst X dX1_isCutSound_23 ?_
  refine ne_callV X nw_Tg (me_X1_cutCount l hl c q t b k n h x y T (by exact ⟨Ic, Iq, It, Ib, Itb, Ik, In, Ih, Ix, Iy⟩) (by omega) _ _ _ _ (by omega) (by omega) (by omega) (by omega)) nw_yX1_cutCount nw_mX1_113 nw_iX1_cutCount nw_eX1_cutCount (ci := 3) rfl rfl rfl dX1_isCutSound_24 rfl rfl (by decide) (by decide) (by first | decide | omega) (by first | decide | omega) (Nat.le_of_ble_eq_true rfl) rfl rfl (Nat.le_of_ble_eq_true rfl) ?_ ?_
  rotate_left
  · rintro E9 w9 h9; exact h9.elim
  rintro v24 w24 ⟨rfl, z24, rfl, g24⟩
  refine ne_lstore X dX1_isCutSound_27 (by decide) ?_
  refine ne_lload_n X dX1_isCutSound_29 rfl ?_
  refine ne_lload X dX1_isCutSound_30 rfl ?_
  refine ne_lsub X dX1_isCutSound_32 ?_
  refine ne_wrapL (fun z33 l33 r33 q33 => ?_)
  refine ne_aload_n X dX1_isCutSound_33 rfl ?_
  refine ne_getf X dX1_isCutSound_34 nw_fX1_16 rfl rfl ?_
  refine ne_iload_n X dX1_isCutSound_37 rfl ?_
  refine ne_ialdR X dX1_isCutSound_38 rfl (by omega) It (fun v38 e38 f38 u38 => ?_)
  refine ne_if_ne (tgt := 46) X dX1_isCutSound_39 rfl (by omega) (fun b39 => ?_) (fun b39 => ?_)
  · refine ne_iconst X dX1_isCutSound_46 ?_
    refine ne_i2l (by omega) X dX1_isCutSound_47 ?_
    refine ne_lcif_ne (tgt := 85) X dX1_isCutSound_48 dX1_isCutSound_49 rfl (by omega) (by omega) (fun b49 => ?_) (fun b49 => ?_)
    · refine ne_iconst X dX1_isCutSound_85 ?_
      exact ne_iret X hr (by first | rfl | decide | rfl) dX1_isCutSound_86 ⟨rfl, _, rfl, by omega⟩
    · refine ne_lload X dX1_isCutSound_52 rfl ?_
      refine ne_aload_n X dX1_isCutSound_54 rfl ?_
      refine ne_iload_n X dX1_isCutSound_55 rfl ?_
      refine ne_iconst X dX1_isCutSound_56 ?_
      refine ne_iconst X dX1_isCutSound_57 ?_
      refine ne_iconst X dX1_isCutSound_58 ?_
      refine ne_callV X nw_Tg (me_X1_cutCount l hl c q t b k n h x y T (by exact ⟨Ic, Iq, It, Ib, Itb, Ik, In, Ih, Ix, Iy⟩) (by omega) _ _ _ _ (by omega) (by omega) (by omega) (by omega)) nw_yX1_cutCount nw_mX1_113 nw_iX1_cutCount nw_eX1_cutCount (ci := 3) rfl rfl rfl dX1_isCutSound_59 rfl rfl (by decide) (by decide) (by first | decide | omega) (by first | decide | omega) (Nat.le_of_ble_eq_true rfl) rfl rfl (Nat.le_of_ble_eq_true rfl) ?_ ?_
      rotate_left
      · rintro E9 w9 h9; exact h9.elim
      rintro v59 w59 ⟨rfl, z59, rfl, g59⟩
      refine ne_lcif_ne (tgt := 85) X dX1_isCutSound_62 dX1_isCutSound_63 rfl (by omega) (by omega) (fun b63 => ?_) (fun b63 => ?_)
      · refine ne_iconst X dX1_isCutSound_85 ?_
        exact ne_iret X hr (by first | rfl | decide | rfl) dX1_isCutSound_86 ⟨rfl, _, rfl, by omega⟩
      · refine ne_lload X dX1_isCutSound_66 rfl ?_
        refine ne_aload_n X dX1_isCutSound_68 rfl ?_
        refine ne_iload_n X dX1_isCutSound_69 rfl ?_
        refine ne_iconst X dX1_isCutSound_70 ?_
        refine ne_iconst X dX1_isCutSound_71 ?_
        refine ne_bipush (v := 6) (by decide) X dX1_isCutSound_72 ?_
        refine ne_callV X nw_Tg (me_X1_cutCount l hl c q t b k n h x y T (by exact ⟨Ic, Iq, It, Ib, Itb, Ik, In, Ih, Ix, Iy⟩) (by omega) _ _ _ _ (by omega) (by omega) (by omega) (by omega)) nw_yX1_cutCount nw_mX1_113 nw_iX1_cutCount nw_eX1_cutCount (ci := 3) rfl rfl rfl dX1_isCutSound_74 rfl rfl (by decide) (by decide) (by first | decide | omega) (by first | decide | omega) (Nat.le_of_ble_eq_true rfl) rfl rfl (Nat.le_of_ble_eq_true rfl) ?_ ?_
        rotate_left
        · rintro E9 w9 h9; exact h9.elim
        rintro v74 w74 ⟨rfl, z74, rfl, g74⟩
        refine ne_lcif_ne (tgt := 85) X dX1_isCutSound_77 dX1_isCutSound_78 rfl (by omega) (by omega) (fun b78 => ?_) (fun b78 => ?_)
        · refine ne_iconst X dX1_isCutSound_85 ?_
          exact ne_iret X hr (by first | rfl | decide | rfl) dX1_isCutSound_86 ⟨rfl, _, rfl, by omega⟩
        · refine ne_iconst X dX1_isCutSound_81 ?_
          refine ne_goto (tgt := 86) X dX1_isCutSound_82 rfl ?_
          exact ne_iret X hr (by first | rfl | decide | rfl) dX1_isCutSound_86 ⟨rfl, _, rfl, by omega⟩
  · refine ne_iconst X dX1_isCutSound_42 ?_
    refine ne_goto (tgt := 47) X dX1_isCutSound_43 rfl ?_
    refine ne_i2l (by omega) X dX1_isCutSound_47 ?_
    refine ne_lcif_ne (tgt := 85) X dX1_isCutSound_48 dX1_isCutSound_49 rfl (by omega) (by omega) (fun b49 => ?_) (fun b49 => ?_)
    · refine ne_iconst X dX1_isCutSound_85 ?_
      exact ne_iret X hr (by first | rfl | decide | rfl) dX1_isCutSound_86 ⟨rfl, _, rfl, by omega⟩
    · refine ne_lload X dX1_isCutSound_52 rfl ?_
      refine ne_aload_n X dX1_isCutSound_54 rfl ?_
      refine ne_iload_n X dX1_isCutSound_55 rfl ?_
      refine ne_iconst X dX1_isCutSound_56 ?_
      refine ne_iconst X dX1_isCutSound_57 ?_
      refine ne_iconst X dX1_isCutSound_58 ?_
      refine ne_callV X nw_Tg (me_X1_cutCount l hl c q t b k n h x y T (by exact ⟨Ic, Iq, It, Ib, Itb, Ik, In, Ih, Ix, Iy⟩) (by omega) _ _ _ _ (by omega) (by omega) (by omega) (by omega)) nw_yX1_cutCount nw_mX1_113 nw_iX1_cutCount nw_eX1_cutCount (ci := 3) rfl rfl rfl dX1_isCutSound_59 rfl rfl (by decide) (by decide) (by first | decide | omega) (by first | decide | omega) (Nat.le_of_ble_eq_true rfl) rfl rfl (Nat.le_of_ble_eq_true rfl) ?_ ?_
      rotate_left
      · rintro E9 w9 h9; exact h9.elim
      rintro v59 w59 ⟨rfl, z59, rfl, g59⟩
      refine ne_lcif_ne (tgt := 85) X dX1_isCutSound_62 dX1_isCutSound_63 rfl (by omega) (by omega) (fun b63 => ?_) (fun b63 => ?_)
      · refine ne_iconst X dX1_isCutSound_85 ?_
        exact ne_iret X hr (by first | rfl | decide | rfl) dX1_isCutSound_86 ⟨rfl, _, rfl, by omega⟩
      · refine ne_lload X dX1_isCutSound_66 rfl ?_
        refine ne_aload_n X dX1_isCutSound_68 rfl ?_
        refine ne_iload_n X dX1_isCutSound_69 rfl ?_
        refine ne_iconst X dX1_isCutSound_70 ?_
        refine ne_iconst X dX1_isCutSound_71 ?_
        refine ne_bipush (v := 6) (by decide) X dX1_isCutSound_72 ?_
        refine ne_callV X nw_Tg (me_X1_cutCount l hl c q t b k n h x y T (by exact ⟨Ic, Iq, It, Ib, Itb, Ik, In, Ih, Ix, Iy⟩) (by omega) _ _ _ _ (by omega) (by omega) (by omega) (by omega)) nw_yX1_cutCount nw_mX1_113 nw_iX1_cutCount nw_eX1_cutCount (ci := 3) rfl rfl rfl dX1_isCutSound_74 rfl rfl (by decide) (by decide) (by first | decide | omega) (by first | decide | omega) (Nat.le_of_ble_eq_true rfl) rfl rfl (Nat.le_of_ble_eq_true rfl) ?_ ?_
        rotate_left
        · rintro E9 w9 h9; exact h9.elim
        rintro v74 w74 ⟨rfl, z74, rfl, g74⟩
        refine ne_lcif_ne (tgt := 85) X dX1_isCutSound_77 dX1_isCutSound_78 rfl (by omega) (by omega) (fun b78 => ?_) (fun b78 => ?_)
        · refine ne_iconst X dX1_isCutSound_85 ?_
          exact ne_iret X hr (by first | rfl | decide | rfl) dX1_isCutSound_86 ⟨rfl, _, rfl, by omega⟩
        · refine ne_iconst X dX1_isCutSound_81 ?_
          refine ne_goto (tgt := 86) X dX1_isCutSound_82 rfl ?_
          exact ne_iret X hr (by first | rfl | decide | rfl) dX1_isCutSound_86 ⟨rfl, _, rfl, by omega⟩
set_option maxRecDepth 100000 in
set_option maxHeartbeats 4000000 in
theorem me_X1_digestOfCells (l : Launch) (hl : l.stackTraces = false) (c q t b k n h x y : Nat → Int) (T : Int) (hI : cI c q t b k n h x y T) (hT : 0 ≤ T ∧ T ≤ 1000000) (d : Int) : ne_M l nw_cl (.code yX1_digestOfCells cX1_digestOfCells 7 (some .long)) nw_T yX1_digestOfCells 3 110 0 0 [.ref 0, nl d] (cW c q t b k n h x y) (fun v w => w = cW c q t b k n h x y ∧ ∃ z : Int, v = some (nl z) ∧ True) (fun _ _ => False) := by
  refine ne_meet (own := RX1) hl rfl (by decide +kernel) (Nat.le_of_ble_eq_true rfl) ?_
  intro D ct A P9 V9 R9 S9 M9 as9 bl9 mt9 C9 ad0 X hr hin ht
  obtain ⟨Ic, Iq, It, Ib, Itb, Ik, In, Ih, Ix, Iy⟩ := hI
  have lp80 : ∀ (n9 : Nat) (r i : Int), (4 - i).toNat < n9 → (0 ≤ i) → (i ≤ 4) → ne_G nw_cl D ct A 12 ad0 P9 l V9 R9 S9 M9 as9 bl9 mt9 C9 (ne_O nw_cl D ct ad0 12 A bl9 as9 S9 0 0 (fun v w => w = cW c q t b k n h x y ∧ ∃ z : Int, v = some (nl z) ∧ True) (fun _ _ => False)) 7 0 0 0 0 80 [some (.ref 0), some (nl d), none, some (nl r), none, some (ni i), none] [] (cW c q t b k n h x y) := by
    intro n9
    induction n9 with
    | zero => intro r i hm9 q1 q2; exfalso; omega
    | succ n9 ih =>
      intro r i hm9 q1 q2
      have ih80 := ih
      have lp92 : ∀ (n9 : Nat) (r j : Int), (4 - j).toNat < n9 → (0 ≤ j) → (j ≤ 4) → (i < 4) → ne_G nw_cl D ct A 12 ad0 P9 l V9 R9 S9 M9 as9 bl9 mt9 C9 (ne_O nw_cl D ct ad0 12 A bl9 as9 S9 0 0 (fun v w => w = cW c q t b k n h x y ∧ ∃ z : Int, v = some (nl z) ∧ True) (fun _ _ => False)) 7 0 0 0 0 92 [some (.ref 0), some (nl d), none, some (nl r), none, some (ni i), some (ni j)] [] (cW c q t b k n h x y) := by
        intro n9
        induction n9 with
        | zero => intro r j hm9 q3 q4 q5; exfalso; omega
        | succ n9 ih =>
          intro r j hm9 q3 q4 q5
          refine ne_iload X dX1_digestOfCells_92 rfl ?_
          refine ne_iconst X dX1_digestOfCells_94 ?_
          refine ne_icmp_ge (tgt := 139) X dX1_digestOfCells_95 rfl (by omega) (by omega) (fun b95 => ?_) (fun b95 => ?_)
          · refine ne_iinc X dX1_digestOfCells_139 rfl (by decide) ?_
            refine ne_goto (tgt := 80) X dX1_digestOfCells_142 rfl ?_
            refine ne_lnone 6 ?_
            exact ih80 _ _ (by omega) (by omega) (by omega)
          · refine ne_lload_n X dX1_digestOfCells_98 rfl ?_
            refine ne_aload_n X dX1_digestOfCells_99 rfl ?_
            refine ne_iload X dX1_digestOfCells_100 rfl ?_
            refine ne_iload X dX1_digestOfCells_102 rfl ?_
            refine ne_callV X nw_Tg (me_X1_orderOfCells l hl c q t b k n h x y T (by exact ⟨Ic, Iq, It, Ib, Itb, Ik, In, Ih, Ix, Iy⟩) (by omega) _ _ (by omega) (by omega)) nw_yX1_orderOfCells nw_mX1_107 nw_iX1_orderOfCells nw_eX1_orderOfCells (ci := 3) rfl rfl rfl dX1_digestOfCells_104 rfl rfl (by decide) (by decide) (by first | decide | omega) (by first | decide | omega) (Nat.le_of_ble_eq_true rfl) rfl rfl (Nat.le_of_ble_eq_true rfl) ?_ ?_
            rotate_left
            · rintro E9 w9 h9; exact h9.elim
            rintro v104 w104 ⟨rfl, z104, rfl, g104, k104, i104, j104⟩
            refine ne_i2l (by omega) X dX1_digestOfCells_107 ?_
            refine ne_callS X nw_Tg (me_X1_joined l hl _ _ _) nw_yX1_joined nw_mX1_224 nw_sX1_joined dX1_digestOfCells_108 rfl rfl (by decide) (by decide) (by first | decide | omega) (by first | decide | omega) (Nat.le_of_ble_eq_true rfl) rfl rfl (Nat.le_of_ble_eq_true rfl) ?_ ?_
            rotate_left
            · rintro E9 w9 h9; exact h9.elim
            rintro v108 w108 ⟨rfl, z108, rfl, g108⟩
            refine ne_lstore_n X dX1_digestOfCells_111 rfl (by decide) ?_
            refine ne_lload_n X dX1_digestOfCells_112 rfl ?_
            refine ne_aload_n X dX1_digestOfCells_113 rfl ?_
            refine ne_iload X dX1_digestOfCells_114 rfl ?_
            refine ne_iload X dX1_digestOfCells_116 rfl ?_
            refine ne_callV X nw_Tg (me_X1_areSame l hl c q t b k n h x y T (by exact ⟨Ic, Iq, It, Ib, Itb, Ik, In, Ih, Ix, Iy⟩) (by omega) _ _ (by omega) (by omega)) nw_yX1_areSame nw_mX1_124 nw_iX1_areSame nw_eX1_areSame (ci := 3) rfl rfl rfl dX1_digestOfCells_118 rfl rfl (by decide) (by decide) (by first | decide | omega) (by first | decide | omega) (Nat.le_of_ble_eq_true rfl) rfl rfl (Nat.le_of_ble_eq_true rfl) ?_ ?_
            rotate_left
            · rintro E9 w9 h9; exact h9.elim
            rintro v118 w118 ⟨rfl, z118, rfl, g118, k118, i118⟩
            refine ne_if_eq (tgt := 128) X dX1_digestOfCells_121 rfl (by omega) (fun b121 => ?_) (fun b121 => ?_)
            · refine ne_lconst (z := 0) (by decide) X dX1_digestOfCells_128 ?_
              refine ne_callS X nw_Tg (me_X1_joined l hl _ _ _) nw_yX1_joined nw_mX1_224 nw_sX1_joined dX1_digestOfCells_129 rfl rfl (by decide) (by decide) (by first | decide | omega) (by first | decide | omega) (Nat.le_of_ble_eq_true rfl) rfl rfl (Nat.le_of_ble_eq_true rfl) ?_ ?_
              rotate_left
              · rintro E9 w9 h9; exact h9.elim
              rintro v129 w129 ⟨rfl, z129, rfl, g129⟩
              refine ne_lstore_n X dX1_digestOfCells_132 rfl (by decide) ?_
              refine ne_ll (L' := [some (.ref 0), some (nl _), none, some (nl _), none, some (ni _), some (ni _)]) rfl ?_
              refine ne_iinc X dX1_digestOfCells_133 rfl (by decide) ?_
              refine ne_goto (tgt := 92) X dX1_digestOfCells_136 rfl ?_
              exact ih _ _ (by omega) (by omega) (by omega) (by omega)
            · refine ne_lconst (z := 1) (by decide) X dX1_digestOfCells_124 ?_
              refine ne_goto (tgt := 129) X dX1_digestOfCells_125 rfl ?_
              refine ne_callS X nw_Tg (me_X1_joined l hl _ _ _) nw_yX1_joined nw_mX1_224 nw_sX1_joined dX1_digestOfCells_129 rfl rfl (by decide) (by decide) (by first | decide | omega) (by first | decide | omega) (Nat.le_of_ble_eq_true rfl) rfl rfl (Nat.le_of_ble_eq_true rfl) ?_ ?_
              rotate_left
              · rintro E9 w9 h9; exact h9.elim
              rintro v129 w129 ⟨rfl, z129, rfl, g129⟩
              refine ne_lstore_n X dX1_digestOfCells_132 rfl (by decide) ?_
              refine ne_ll (L' := [some (.ref 0), some (nl _), none, some (nl _), none, some (ni _), some (ni _)]) rfl ?_
              refine ne_iinc X dX1_digestOfCells_133 rfl (by decide) ?_
              refine ne_goto (tgt := 92) X dX1_digestOfCells_136 rfl ?_
              exact ih _ _ (by omega) (by omega) (by omega) (by omega)
      refine ne_iload X dX1_digestOfCells_80 rfl ?_
      refine ne_iconst X dX1_digestOfCells_82 ?_
      refine ne_icmp_ge (tgt := 145) X dX1_digestOfCells_83 rfl (by omega) (by omega) (fun b83 => ?_) (fun b83 => ?_)
      · refine ne_lload_n X dX1_digestOfCells_145 rfl ?_
        exact ne_lret X hr dX1_digestOfCells_146 ⟨rfl, _, rfl, trivial⟩
      · refine ne_iload X dX1_digestOfCells_86 rfl ?_
        refine ne_iconst X dX1_digestOfCells_88 ?_
        refine ne_iadd X dX1_digestOfCells_89 ?_
        refine ne_istore X dX1_digestOfCells_90 (by decide) ?_
        exact lp92 _ _ _ (Nat.lt_succ_self _) (by omega) (by omega) (by omega)
  have lp5 : ∀ (n9 : Nat) (r i : Int), (4 - i).toNat < n9 → (0 ≤ i) → (i ≤ 4) → ne_G nw_cl D ct A 12 ad0 P9 l V9 R9 S9 M9 as9 bl9 mt9 C9 (ne_O nw_cl D ct ad0 12 A bl9 as9 S9 0 0 (fun v w => w = cW c q t b k n h x y ∧ ∃ z : Int, v = some (nl z) ∧ True) (fun _ _ => False)) 7 0 0 0 0 5 [some (.ref 0), some (nl d), none, some (nl r), none, some (ni i), none] [] (cW c q t b k n h x y) := by
    intro n9
    induction n9 with
    | zero => intro r i hm9 q1 q2; exfalso; omega
    | succ n9 ih =>
      intro r i hm9 q1 q2
      refine ne_iload X dX1_digestOfCells_5 rfl ?_
      refine ne_iconst X dX1_digestOfCells_7 ?_
      refine ne_icmp_ge (tgt := 77) X dX1_digestOfCells_8 rfl (by omega) (by omega) (fun b8 => ?_) (fun b8 => ?_)
      · refine ne_iconst X dX1_digestOfCells_77 ?_
        refine ne_istore X dX1_digestOfCells_78 (by decide) ?_
        exact lp80 _ _ 0 (Nat.lt_succ_self _) (by omega) (by omega)
      · refine ne_lload_n X dX1_digestOfCells_11 rfl ?_
        refine ne_aload_n X dX1_digestOfCells_12 rfl ?_
        refine ne_getf X dX1_digestOfCells_13 nw_fX1_9 rfl rfl ?_
        refine ne_iload X dX1_digestOfCells_16 rfl ?_
        refine ne_ialdR X dX1_digestOfCells_18 rfl (by omega) Ic (fun v18 e18 f18 u18 => ?_)
        refine ne_i2l (by omega) X dX1_digestOfCells_19 ?_
        refine ne_callS X nw_Tg (me_X1_joined l hl _ _ _) nw_yX1_joined nw_mX1_224 nw_sX1_joined dX1_digestOfCells_20 rfl rfl (by decide) (by decide) (by first | decide | omega) (by first | decide | omega) (Nat.le_of_ble_eq_true rfl) rfl rfl (Nat.le_of_ble_eq_true rfl) ?_ ?_
        rotate_left
        · rintro E9 w9 h9; exact h9.elim
        rintro v20 w20 ⟨rfl, z20, rfl, g20⟩
        refine ne_lstore_n X dX1_digestOfCells_23 rfl (by decide) ?_
        refine ne_lload_n X dX1_digestOfCells_24 rfl ?_
        refine ne_aload_n X dX1_digestOfCells_25 rfl ?_
        refine ne_getf X dX1_digestOfCells_26 nw_fX1_13 rfl rfl ?_
        refine ne_iload X dX1_digestOfCells_29 rfl ?_
        refine ne_ialdR X dX1_digestOfCells_31 rfl (by omega) Iq (fun v31 e31 f31 u31 => ?_)
        refine ne_i2l (by omega) X dX1_digestOfCells_32 ?_
        refine ne_callS X nw_Tg (me_X1_joined l hl _ _ _) nw_yX1_joined nw_mX1_224 nw_sX1_joined dX1_digestOfCells_33 rfl rfl (by decide) (by decide) (by first | decide | omega) (by first | decide | omega) (Nat.le_of_ble_eq_true rfl) rfl rfl (Nat.le_of_ble_eq_true rfl) ?_ ?_
        rotate_left
        · rintro E9 w9 h9; exact h9.elim
        rintro v33 w33 ⟨rfl, z33, rfl, g33⟩
        refine ne_lstore_n X dX1_digestOfCells_36 rfl (by decide) ?_
        refine ne_ll (L' := [some (.ref 0), some (nl _), none, some (nl _), none, some (ni _), none]) rfl ?_
        refine ne_lload_n X dX1_digestOfCells_37 rfl ?_
        refine ne_aload_n X dX1_digestOfCells_38 rfl ?_
        refine ne_getf X dX1_digestOfCells_39 nw_fX1_9 rfl rfl ?_
        refine ne_iload X dX1_digestOfCells_42 rfl ?_
        refine ne_ialdR X dX1_digestOfCells_44 rfl (by omega) Ic (fun v44 e44 f44 u44 => ?_)
        refine ne_i2l (by omega) X dX1_digestOfCells_45 ?_
        refine ne_callS X nw_Tg (me_X1_digitsIn l hl _ _ (by omega)) nw_yX1_digitsIn nw_mX1_101 nw_sX1_digitsIn dX1_digestOfCells_46 rfl rfl (by decide) (by decide) (by first | decide | omega) (by first | decide | omega) (Nat.le_of_ble_eq_true rfl) rfl rfl (Nat.le_of_ble_eq_true rfl) ?_ ?_
        rotate_left
        · rintro E9 w9 h9; exact h9.elim
        rintro v46 w46 ⟨rfl, z46, rfl, g46, k46⟩
        refine ne_i2l (by omega) X dX1_digestOfCells_49 ?_
        refine ne_callS X nw_Tg (me_X1_joined l hl _ _ _) nw_yX1_joined nw_mX1_224 nw_sX1_joined dX1_digestOfCells_50 rfl rfl (by decide) (by decide) (by first | decide | omega) (by first | decide | omega) (Nat.le_of_ble_eq_true rfl) rfl rfl (Nat.le_of_ble_eq_true rfl) ?_ ?_
        rotate_left
        · rintro E9 w9 h9; exact h9.elim
        rintro v50 w50 ⟨rfl, z50, rfl, g50⟩
        refine ne_lstore_n X dX1_digestOfCells_53 rfl (by decide) ?_
        refine ne_lload_n X dX1_digestOfCells_54 rfl ?_
        refine ne_aload_n X dX1_digestOfCells_55 rfl ?_
        refine ne_getf X dX1_digestOfCells_56 nw_fX1_9 rfl rfl ?_
        refine ne_iload X dX1_digestOfCells_59 rfl ?_
        refine ne_ialdR X dX1_digestOfCells_61 rfl (by omega) Ic (fun v61 e61 f61 u61 => ?_)
        refine ne_i2l (by omega) X dX1_digestOfCells_62 ?_
        refine ne_callS X nw_Tg (me_X1_signOf l hl _ _ (by omega)) nw_yX1_signOf nw_mX1_117 nw_sX1_signOf dX1_digestOfCells_63 rfl rfl (by decide) (by decide) (by first | decide | omega) (by first | decide | omega) (Nat.le_of_ble_eq_true rfl) rfl rfl (Nat.le_of_ble_eq_true rfl) ?_ ?_
        rotate_left
        · rintro E9 w9 h9; exact h9.elim
        rintro v63 w63 ⟨rfl, z63, rfl, g63, k63, i63, j63⟩
        refine ne_i2l (by omega) X dX1_digestOfCells_66 ?_
        refine ne_callS X nw_Tg (me_X1_joined l hl _ _ _) nw_yX1_joined nw_mX1_224 nw_sX1_joined dX1_digestOfCells_67 rfl rfl (by decide) (by decide) (by first | decide | omega) (by first | decide | omega) (Nat.le_of_ble_eq_true rfl) rfl rfl (Nat.le_of_ble_eq_true rfl) ?_ ?_
        rotate_left
        · rintro E9 w9 h9; exact h9.elim
        rintro v67 w67 ⟨rfl, z67, rfl, g67⟩
        refine ne_lstore_n X dX1_digestOfCells_70 rfl (by decide) ?_
        refine ne_ll (L' := [some (.ref 0), some (nl _), none, some (nl _), none, some (ni _), none]) rfl ?_
        refine ne_iinc X dX1_digestOfCells_71 rfl (by decide) ?_
        refine ne_goto (tgt := 5) X dX1_digestOfCells_74 rfl ?_
        exact ih _ _ (by omega) (by omega) (by omega)
  refine ne_lload_n X dX1_digestOfCells_0 rfl ?_
  refine ne_lstore_n X dX1_digestOfCells_1 rfl (by decide) ?_
  refine ne_iconst X dX1_digestOfCells_2 ?_
  refine ne_istore X dX1_digestOfCells_3 (by decide) ?_
  refine ne_ll (L' := [some (.ref 0), some (nl _), none, some (nl _), none, some (ni _), none]) rfl ?_
  exact lp5 _ _ 0 (Nat.lt_succ_self _) (by omega) (by omega)
set_option maxRecDepth 100000 in
set_option maxHeartbeats 4000000 in
theorem me_X1_digestOfWheel (l : Launch) (hl : l.stackTraces = false) (c q t b k n h x y : Nat → Int) (T : Int) (hI : cI c q t b k n h x y T) (hT : 0 ≤ T ∧ T ≤ 1000000) (i d : Int) (hi : 0 ≤ i ∧ i < 3) : ne_M l nw_cl (.code yX1_digestOfWheel cX1_digestOfWheel 7 (some .long)) nw_T yX1_digestOfWheel 5 190 0 0 [.ref 0, ni i, nl d] (cW c q t b k n h x y) (fun v w => ∃ x1 y1, w = cW c q t b k n h x1 y1 ∧ ne_rg x1 0 9 ∧ ne_rg y1 0 9 ∧ ∃ z : Int, v = some (nl z) ∧ True) (fun _ _ => False) := by
  refine ne_meet (own := RX1) hl rfl (by decide +kernel) (Nat.le_of_ble_eq_true rfl) ?_
  intro D ct A P9 V9 R9 S9 M9 as9 bl9 mt9 C9 ad0 X hr hin ht
  obtain ⟨Ic, Iq, It, Ib, Itb, Ik, In, Ih, Ix, Iy⟩ := hI
  have lp64 : ∀ (n9 : Nat) (x1 y1 : Nat → Int) (r j : Int), (4 - j).toNat < n9 → (0 ≤ j) → (j ≤ 4) → (ne_rg x1 0 9) → (ne_rg y1 0 9) → ne_G nw_cl D ct A 12 ad0 P9 l V9 R9 S9 M9 as9 bl9 mt9 C9 (ne_O nw_cl D ct ad0 12 A bl9 as9 S9 0 0 (fun v w => ∃ x1 y1, w = cW c q t b k n h x1 y1 ∧ ne_rg x1 0 9 ∧ ne_rg y1 0 9 ∧ ∃ z : Int, v = some (nl z) ∧ True) (fun _ _ => False)) 7 0 0 0 0 64 [some (.ref 0), some (ni i), some (nl d), none, some (nl r), none, some (ni j)] [] (cW c q t b k n h x1 y1) := by
    intro n9
    induction n9 with
    | zero => intro x1 y1 r j hm9 q1 q2 Ix Iy; exfalso; omega
    | succ n9 ih =>
      intro x1 y1 r j hm9 q1 q2 Ix Iy
      refine ne_iload X dX1_digestOfWheel_64 rfl ?_
      refine ne_iconst X dX1_digestOfWheel_66 ?_
      refine ne_icmp_ge (tgt := 91) X dX1_digestOfWheel_67 rfl (by omega) (by omega) (fun b67 => ?_) (fun b67 => ?_)
      · refine ne_lload X dX1_digestOfWheel_91 rfl ?_
        exact ne_lret X hr dX1_digestOfWheel_93 ⟨_, _, rfl, Ix, Iy, _, rfl, trivial⟩
      · refine ne_lload X dX1_digestOfWheel_70 rfl ?_
        refine ne_aload_n X dX1_digestOfWheel_72 rfl ?_
        refine ne_iload_n X dX1_digestOfWheel_73 rfl ?_
        refine ne_iload X dX1_digestOfWheel_74 rfl ?_
        refine ne_callV X nw_Tg (me_X1_orderAgainst l hl c q t b k n h x1 y1 T (by exact ⟨Ic, Iq, It, Ib, Itb, Ik, In, Ih, Ix, Iy⟩) (by omega) _ _ (by omega) (by omega)) nw_yX1_orderAgainst nw_mX1_195 nw_iX1_orderAgainst nw_eX1_orderAgainst (ci := 3) rfl rfl rfl dX1_digestOfWheel_76 rfl rfl (by decide) (by decide) (by first | decide | omega) (by first | decide | omega) (Nat.le_of_ble_eq_true rfl) rfl rfl (Nat.le_of_ble_eq_true rfl) ?_ ?_
        rotate_left
        · rintro E9 w9 h9; exact h9.elim
        rintro v76 w76 ⟨rfl, z76, rfl, g76, k76⟩
        refine ne_i2l (by omega) X dX1_digestOfWheel_79 ?_
        refine ne_callS X nw_Tg (me_X1_joined l hl _ _ _) nw_yX1_joined nw_mX1_224 nw_sX1_joined dX1_digestOfWheel_80 rfl rfl (by decide) (by decide) (by first | decide | omega) (by first | decide | omega) (Nat.le_of_ble_eq_true rfl) rfl rfl (Nat.le_of_ble_eq_true rfl) ?_ ?_
        rotate_left
        · rintro E9 w9 h9; exact h9.elim
        rintro v80 w80 ⟨rfl, z80, rfl, g80⟩
        refine ne_lstore X dX1_digestOfWheel_83 (by decide) ?_
        refine ne_iinc X dX1_digestOfWheel_85 rfl (by decide) ?_
        refine ne_ll (L' := [some (.ref 0), some (ni _), some (nl _), none, some (nl _), none, some (ni _)]) rfl ?_
        refine ne_goto (tgt := 64) X dX1_digestOfWheel_88 rfl ?_
        exact ih _ _ _ _ (by omega) (by omega) (by omega) Ix Iy
  have lp6 : ∀ (n9 : Nat) (r j : Int), (5 - j).toNat < n9 → (0 ≤ j) → (j ≤ 5) → ne_G nw_cl D ct A 12 ad0 P9 l V9 R9 S9 M9 as9 bl9 mt9 C9 (ne_O nw_cl D ct ad0 12 A bl9 as9 S9 0 0 (fun v w => ∃ x1 y1, w = cW c q t b k n h x1 y1 ∧ ne_rg x1 0 9 ∧ ne_rg y1 0 9 ∧ ∃ z : Int, v = some (nl z) ∧ True) (fun _ _ => False)) 7 0 0 0 0 6 [some (.ref 0), some (ni i), some (nl d), none, some (nl r), none, some (ni j)] [] (cW c q t b k n h x y) := by
    intro n9
    induction n9 with
    | zero => intro r j hm9 q1 q2; exfalso; omega
    | succ n9 ih =>
      intro r j hm9 q1 q2
      refine ne_iload X dX1_digestOfWheel_6 rfl ?_
      refine ne_iconst X dX1_digestOfWheel_8 ?_
      refine ne_icmp_gt (tgt := 33) X dX1_digestOfWheel_9 rfl (by omega) (by omega) (fun b9 => ?_) (fun b9 => ?_)
      · refine ne_lload X dX1_digestOfWheel_33 rfl ?_
        refine ne_aload_n X dX1_digestOfWheel_35 rfl ?_
        refine ne_iload_n X dX1_digestOfWheel_36 rfl ?_
        refine ne_iconst X dX1_digestOfWheel_37 ?_
        refine ne_callV X nw_Tg (me_X1_ninesOf l hl c q t b k n h x y T (by exact ⟨Ic, Iq, It, Ib, Itb, Ik, In, Ih, Ix, Iy⟩) (by omega) _ _ (by omega) (by omega)) nw_yX1_ninesOf nw_mX1_186 nw_iX1_ninesOf nw_eX1_ninesOf (ci := 3) rfl rfl rfl dX1_digestOfWheel_38 rfl rfl (by decide) (by decide) (by first | decide | omega) (by first | decide | omega) (Nat.le_of_ble_eq_true rfl) rfl rfl (Nat.le_of_ble_eq_true rfl) ?_ ?_
        rotate_left
        · rintro E9 w9 h9; exact h9.elim
        rintro v38 w38 ⟨x38, y38, rfl, Ix, Iy, z38, rfl, g38, k38⟩
        refine ne_i2l (by omega) X dX1_digestOfWheel_41 ?_
        refine ne_callS X nw_Tg (me_X1_joined l hl _ _ _) nw_yX1_joined nw_mX1_224 nw_sX1_joined dX1_digestOfWheel_42 rfl rfl (by decide) (by decide) (by first | decide | omega) (by first | decide | omega) (Nat.le_of_ble_eq_true rfl) rfl rfl (Nat.le_of_ble_eq_true rfl) ?_ ?_
        rotate_left
        · rintro E9 w9 h9; exact h9.elim
        rintro v42 w42 ⟨rfl, z42, rfl, g42⟩
        refine ne_lstore X dX1_digestOfWheel_45 (by decide) ?_
        refine ne_lload X dX1_digestOfWheel_47 rfl ?_
        refine ne_aload_n X dX1_digestOfWheel_49 rfl ?_
        refine ne_iload_n X dX1_digestOfWheel_50 rfl ?_
        refine ne_iconst X dX1_digestOfWheel_51 ?_
        refine ne_callV X nw_Tg (me_X1_ninesOf l hl c q t b k n h x38 y38 T (by exact ⟨Ic, Iq, It, Ib, Itb, Ik, In, Ih, Ix, Iy⟩) (by omega) _ _ (by omega) (by omega)) nw_yX1_ninesOf nw_mX1_186 nw_iX1_ninesOf nw_eX1_ninesOf (ci := 3) rfl rfl rfl dX1_digestOfWheel_52 rfl rfl (by decide) (by decide) (by first | decide | omega) (by first | decide | omega) (Nat.le_of_ble_eq_true rfl) rfl rfl (Nat.le_of_ble_eq_true rfl) ?_ ?_
        rotate_left
        · rintro E9 w9 h9; exact h9.elim
        rintro v52 w52 ⟨x52, y52, rfl, Ix, Iy, z52, rfl, g52, k52⟩
        refine ne_i2l (by omega) X dX1_digestOfWheel_55 ?_
        refine ne_callS X nw_Tg (me_X1_joined l hl _ _ _) nw_yX1_joined nw_mX1_224 nw_sX1_joined dX1_digestOfWheel_56 rfl rfl (by decide) (by decide) (by first | decide | omega) (by first | decide | omega) (Nat.le_of_ble_eq_true rfl) rfl rfl (Nat.le_of_ble_eq_true rfl) ?_ ?_
        rotate_left
        · rintro E9 w9 h9; exact h9.elim
        rintro v56 w56 ⟨rfl, z56, rfl, g56⟩
        refine ne_lstore X dX1_digestOfWheel_59 (by decide) ?_
        refine ne_ll (L' := [some (.ref 0), some (ni _), some (nl _), none, some (nl _), none, some (ni _)]) rfl ?_
        refine ne_iconst X dX1_digestOfWheel_61 ?_
        refine ne_istore X dX1_digestOfWheel_62 (by decide) ?_
        exact lp64 _ _ _ _ 0 (Nat.lt_succ_self _) (by omega) (by omega) Ix Iy
      · refine ne_lload X dX1_digestOfWheel_12 rfl ?_
        refine ne_aload_n X dX1_digestOfWheel_14 rfl ?_
        refine ne_iload_n X dX1_digestOfWheel_15 rfl ?_
        refine ne_iload X dX1_digestOfWheel_16 rfl ?_
        refine ne_callV X nw_Tg (me_X1_spokeOf l hl c q t b k n h x y T (by exact ⟨Ic, Iq, It, Ib, Itb, Ik, In, Ih, Ix, Iy⟩) (by omega) _ _ (by omega) (by omega)) nw_yX1_spokeOf nw_mX1_152 nw_iX1_spokeOf nw_eX1_spokeOf (ci := 3) rfl rfl rfl dX1_digestOfWheel_18 rfl rfl (by decide) (by decide) (by first | decide | omega) (by first | decide | omega) (Nat.le_of_ble_eq_true rfl) rfl rfl (Nat.le_of_ble_eq_true rfl) ?_ ?_
        rotate_left
        · rintro E9 w9 h9; exact h9.elim
        rintro v18 w18 ⟨rfl, z18, rfl, g18, k18⟩
        refine ne_i2l (by omega) X dX1_digestOfWheel_21 ?_
        refine ne_callS X nw_Tg (me_X1_joined l hl _ _ _) nw_yX1_joined nw_mX1_224 nw_sX1_joined dX1_digestOfWheel_22 rfl rfl (by decide) (by decide) (by first | decide | omega) (by first | decide | omega) (Nat.le_of_ble_eq_true rfl) rfl rfl (Nat.le_of_ble_eq_true rfl) ?_ ?_
        rotate_left
        · rintro E9 w9 h9; exact h9.elim
        rintro v22 w22 ⟨rfl, z22, rfl, g22⟩
        refine ne_lstore X dX1_digestOfWheel_25 (by decide) ?_
        refine ne_iinc X dX1_digestOfWheel_27 rfl (by decide) ?_
        refine ne_ll (L' := [some (.ref 0), some (ni _), some (nl _), none, some (nl _), none, some (ni _)]) rfl ?_
        refine ne_goto (tgt := 6) X dX1_digestOfWheel_30 rfl ?_
        exact ih _ _ (by omega) (by omega) (by omega)
  refine ne_lload_n X dX1_digestOfWheel_0 rfl ?_
  refine ne_lstore X dX1_digestOfWheel_1 (by decide) ?_
  refine ne_iconst X dX1_digestOfWheel_3 ?_
  refine ne_istore X dX1_digestOfWheel_4 (by decide) ?_
  refine ne_ll (L' := [some (.ref 0), some (ni _), some (nl _), none, some (nl _), none, some (ni _)]) rfl ?_
  exact lp6 _ _ 0 (Nat.lt_succ_self _) (by omega) (by omega)
set_option maxRecDepth 100000 in
set_option maxHeartbeats 4000000 in
theorem me_X1_digestOfWheels (l : Launch) (hl : l.stackTraces = false) (c q t b k n h x y : Nat → Int) (T : Int) (hI : cI c q t b k n h x y T) (hT : 0 ≤ T ∧ T ≤ 1000000) (d : Int) : ne_M l nw_cl (.code yX1_digestOfWheels cX1_digestOfWheels 7 (some .long)) nw_T yX1_digestOfWheels 6 230 0 0 [.ref 0, nl d] (cW c q t b k n h x y) (fun v w => ∃ x1 y1, w = cW c q t b k n h x1 y1 ∧ ne_rg x1 0 9 ∧ ne_rg y1 0 9 ∧ ∃ z : Int, v = some (nl z) ∧ True) (fun _ _ => False) := by
  refine ne_meet (own := RX1) hl rfl (by decide +kernel) (Nat.le_of_ble_eq_true rfl) ?_
  intro D ct A P9 V9 R9 S9 M9 as9 bl9 mt9 C9 ad0 X hr hin ht
  obtain ⟨Ic, Iq, It, Ib, Itb, Ik, In, Ih, Ix, Iy⟩ := hI
  have lp28 : ∀ (n9 : Nat) (x1 y1 : Nat → Int) (r i : Int), (3 - i).toNat < n9 → (0 ≤ i) → (i ≤ 3) → (ne_rg x1 0 9) → (ne_rg y1 0 9) → ne_G nw_cl D ct A 12 ad0 P9 l V9 R9 S9 M9 as9 bl9 mt9 C9 (ne_O nw_cl D ct ad0 12 A bl9 as9 S9 0 0 (fun v w => ∃ x1 y1, w = cW c q t b k n h x1 y1 ∧ ne_rg x1 0 9 ∧ ne_rg y1 0 9 ∧ ∃ z : Int, v = some (nl z) ∧ True) (fun _ _ => False)) 7 0 0 0 0 28 [some (.ref 0), some (nl d), none, some (nl r), none, some (ni i), none] [] (cW c q t b k n h x1 y1) := by
    intro n9
    induction n9 with
    | zero => intro x1 y1 r i hm9 q1 q2 Ix Iy; exfalso; omega
    | succ n9 ih =>
      intro x1 y1 r i hm9 q1 q2 Ix Iy
      have ih28 := ih
      have lp40 : ∀ (n9 : Nat) (r j : Int), (3 - j).toNat < n9 → (0 ≤ j) → (j ≤ 3) → (i < 3) → ne_G nw_cl D ct A 12 ad0 P9 l V9 R9 S9 M9 as9 bl9 mt9 C9 (ne_O nw_cl D ct ad0 12 A bl9 as9 S9 0 0 (fun v w => ∃ x1 y1, w = cW c q t b k n h x1 y1 ∧ ne_rg x1 0 9 ∧ ne_rg y1 0 9 ∧ ∃ z : Int, v = some (nl z) ∧ True) (fun _ _ => False)) 7 0 0 0 0 40 [some (.ref 0), some (nl d), none, some (nl r), none, some (ni i), some (ni j)] [] (cW c q t b k n h x1 y1) := by
        intro n9
        induction n9 with
        | zero => intro r j hm9 q3 q4 q5; exfalso; omega
        | succ n9 ih =>
          intro r j hm9 q3 q4 q5
          refine ne_iload X dX1_digestOfWheels_40 rfl ?_
          refine ne_iconst X dX1_digestOfWheels_42 ?_
          refine ne_icmp_ge (tgt := 66) X dX1_digestOfWheels_43 rfl (by omega) (by omega) (fun b43 => ?_) (fun b43 => ?_)
          · refine ne_iinc X dX1_digestOfWheels_66 rfl (by decide) ?_
            refine ne_goto (tgt := 28) X dX1_digestOfWheels_69 rfl ?_
            refine ne_lnone 6 ?_
            exact ih28 _ _ _ _ (by omega) (by omega) (by omega) Ix Iy
          · refine ne_lload_n X dX1_digestOfWheels_46 rfl ?_
            refine ne_aload_n X dX1_digestOfWheels_47 rfl ?_
            refine ne_iload X dX1_digestOfWheels_48 rfl ?_
            refine ne_iload X dX1_digestOfWheels_50 rfl ?_
            refine ne_callV X nw_Tg (me_X1_orderOfWheels l hl c q t b k n h x1 y1 T (by exact ⟨Ic, Iq, It, Ib, Itb, Ik, In, Ih, Ix, Iy⟩) (by omega) _ _ (by omega) (by omega)) nw_yX1_orderOfWheels nw_mX1_192 nw_iX1_orderOfWheels nw_eX1_orderOfWheels (ci := 3) rfl rfl rfl dX1_digestOfWheels_52 rfl rfl (by decide) (by decide) (by first | decide | omega) (by first | decide | omega) (Nat.le_of_ble_eq_true rfl) rfl rfl (Nat.le_of_ble_eq_true rfl) ?_ ?_
            rotate_left
            · rintro E9 w9 h9; exact h9.elim
            rintro v52 w52 ⟨rfl, z52, rfl, g52, k52⟩
            refine ne_i2l (by omega) X dX1_digestOfWheels_55 ?_
            refine ne_callS X nw_Tg (me_X1_joined l hl _ _ _) nw_yX1_joined nw_mX1_224 nw_sX1_joined dX1_digestOfWheels_56 rfl rfl (by decide) (by decide) (by first | decide | omega) (by first | decide | omega) (Nat.le_of_ble_eq_true rfl) rfl rfl (Nat.le_of_ble_eq_true rfl) ?_ ?_
            rotate_left
            · rintro E9 w9 h9; exact h9.elim
            rintro v56 w56 ⟨rfl, z56, rfl, g56⟩
            refine ne_lstore_n X dX1_digestOfWheels_59 rfl (by decide) ?_
            refine ne_iinc X dX1_digestOfWheels_60 rfl (by decide) ?_
            refine ne_ll (L' := [some (.ref 0), some (nl _), none, some (nl _), none, some (ni _), some (ni _)]) rfl ?_
            refine ne_goto (tgt := 40) X dX1_digestOfWheels_63 rfl ?_
            exact ih _ _ (by omega) (by omega) (by omega) (by omega)
      refine ne_iload X dX1_digestOfWheels_28 rfl ?_
      refine ne_iconst X dX1_digestOfWheels_30 ?_
      refine ne_icmp_ge (tgt := 72) X dX1_digestOfWheels_31 rfl (by omega) (by omega) (fun b31 => ?_) (fun b31 => ?_)
      · refine ne_lload_n X dX1_digestOfWheels_72 rfl ?_
        exact ne_lret X hr dX1_digestOfWheels_73 ⟨_, _, rfl, Ix, Iy, _, rfl, trivial⟩
      · refine ne_iload X dX1_digestOfWheels_34 rfl ?_
        refine ne_iconst X dX1_digestOfWheels_36 ?_
        refine ne_iadd X dX1_digestOfWheels_37 ?_
        refine ne_istore X dX1_digestOfWheels_38 (by decide) ?_
        exact lp40 _ _ _ (Nat.lt_succ_self _) (by omega) (by omega) (by omega)
  have lp5 : ∀ (n9 : Nat) (x1 y1 : Nat → Int) (r i : Int), (3 - i).toNat < n9 → (0 ≤ i) → (i ≤ 3) → (ne_rg x1 0 9) → (ne_rg y1 0 9) → ne_G nw_cl D ct A 12 ad0 P9 l V9 R9 S9 M9 as9 bl9 mt9 C9 (ne_O nw_cl D ct ad0 12 A bl9 as9 S9 0 0 (fun v w => ∃ x1 y1, w = cW c q t b k n h x1 y1 ∧ ne_rg x1 0 9 ∧ ne_rg y1 0 9 ∧ ∃ z : Int, v = some (nl z) ∧ True) (fun _ _ => False)) 7 0 0 0 0 5 [some (.ref 0), some (nl d), none, some (nl r), none, some (ni i), none] [] (cW c q t b k n h x1 y1) := by
    intro n9
    induction n9 with
    | zero => intro x1 y1 r i hm9 q1 q2 Ix Iy; exfalso; omega
    | succ n9 ih =>
      intro x1 y1 r i hm9 q1 q2 Ix Iy
      refine ne_iload X dX1_digestOfWheels_5 rfl ?_
      refine ne_iconst X dX1_digestOfWheels_7 ?_
      refine ne_icmp_ge (tgt := 25) X dX1_digestOfWheels_8 rfl (by omega) (by omega) (fun b8 => ?_) (fun b8 => ?_)
      · refine ne_iconst X dX1_digestOfWheels_25 ?_
        refine ne_istore X dX1_digestOfWheels_26 (by decide) ?_
        exact lp28 _ _ _ _ 0 (Nat.lt_succ_self _) (by omega) (by omega) Ix Iy
      · refine ne_aload_n X dX1_digestOfWheels_11 rfl ?_
        refine ne_iload X dX1_digestOfWheels_12 rfl ?_
        refine ne_lload_n X dX1_digestOfWheels_14 rfl ?_
        refine ne_callV X nw_Tg (me_X1_digestOfWheel l hl c q t b k n h x1 y1 T (by exact ⟨Ic, Iq, It, Ib, Itb, Ik, In, Ih, Ix, Iy⟩) (by omega) _ _ (by omega)) nw_yX1_digestOfWheel nw_mX1_292 nw_iX1_digestOfWheel nw_eX1_digestOfWheel (ci := 3) rfl rfl rfl dX1_digestOfWheels_15 rfl rfl (by decide) (by decide) (by first | decide | omega) (by first | decide | omega) (Nat.le_of_ble_eq_true rfl) rfl rfl (Nat.le_of_ble_eq_true rfl) ?_ ?_
        rotate_left
        · rintro E9 w9 h9; exact h9.elim
        rintro v15 w15 ⟨x15, y15, rfl, Ix, Iy, z15, rfl, g15⟩
        refine ne_lstore_n X dX1_digestOfWheels_18 rfl (by decide) ?_
        refine ne_iinc X dX1_digestOfWheels_19 rfl (by decide) ?_
        refine ne_ll (L' := [some (.ref 0), some (nl _), none, some (nl _), none, some (ni _), none]) rfl ?_
        refine ne_goto (tgt := 5) X dX1_digestOfWheels_22 rfl ?_
        exact ih _ _ _ _ (by omega) (by omega) (by omega) Ix Iy
  refine ne_lload_n X dX1_digestOfWheels_0 rfl ?_
  refine ne_lstore_n X dX1_digestOfWheels_1 rfl (by decide) ?_
  refine ne_iconst X dX1_digestOfWheels_2 ?_
  refine ne_istore X dX1_digestOfWheels_3 (by decide) ?_
  refine ne_ll (L' := [some (.ref 0), some (nl _), none, some (nl _), none, some (ni _), none]) rfl ?_
  exact lp5 _ _ _ _ 0 (Nat.lt_succ_self _) (by omega) (by omega) Ix Iy
