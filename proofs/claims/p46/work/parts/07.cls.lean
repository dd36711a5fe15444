/-- the class's cells -/
def cW (c q t b k n h x y : Nat → Int) : ne_W := [some (.inr (3, [.ref 1, .ref 2, .ref 3, .ref 4, .ref 5, .ref 6, .ref 7, .ref 8, .ref 9])), some (.inl (0, 4, c)), some (.inl (0, 4, q)), some (.inl (0, 3, t)), some (.inl (0, 3, b)), some (.inl (0, 3, k)), some (.inl (0, 3, n)), some (.inl (0, 4, h)), some (.inr (2, [.ref 10])), some (.inr (2, [.ref 11])), some (.inl (0, 98, x)), some (.inl (0, 98, y))]
/-- what holds of them, behind at most T acts -/
def cI (c q t b k n h x y : Nat → Int) (T : Int) : Prop := ne_rg c (-999999) 999999 ∧ ne_rg q 0 3 ∧ ne_rg t 0 98 ∧ ne_rg b 1 99 ∧ (∀ j, t j < b j) ∧ ne_rg k 0 95 ∧ ne_rg n 1 96 ∧ ne_rg h 0 T ∧ ne_rg x 0 9 ∧ ne_rg y 0 9
theorem cI_mono {c q t b k n h x y : Nat → Int} {T T' : Int} (hI : cI c q t b k n h x y T) (hT : T ≤ T') : cI c q t b k n h x y T' := ⟨hI.1, hI.2.1, hI.2.2.1, hI.2.2.2.1, hI.2.2.2.2.1, hI.2.2.2.2.2.1, hI.2.2.2.2.2.2.1, ne_rg_mono hI.2.2.2.2.2.2.2.1 (Int.le_refl 0) hT, hI.2.2.2.2.2.2.2.2.1, hI.2.2.2.2.2.2.2.2.2⟩
set_option maxRecDepth 100000 in
set_option maxHeartbeats 4000000 in
theorem me_X1_countAt (l : Launch) (hl : l.stackTraces = false) (c q t b k n h x y : Nat → Int) (T : Int) (hI : cI c q t b k n h x y T) (hT : 0 ≤ T ∧ T ≤ 1000000) (i p : Int) (hi : 0 ≤ i ∧ i < 4) (hp : 0 ≤ p ∧ p ≤ 3) : ne_M l nw_cl (.code yX1_countAt cX1_countAt 3 (some .long)) nw_T yX1_countAt 1 40 0 0 [.ref 0, ni i, ni p] (cW c q t b k n h x y) (fun v w => w = cW c q t b k n h x y ∧ ∃ z : Int, v = some (nl z) ∧ z = c i.toNat * 10 ^ (p - q i.toNat).toNat ∧ -1000000000 ≤ z ∧ z ≤ 1000000000) (fun _ _ => False) := by
  refine ne_meet (own := RX1) hl rfl (by decide +kernel) (Nat.le_of_ble_eq_true rfl) ?_
  intro D ct A P9 V9 R9 S9 M9 as9 bl9 mt9 C9 ad0 X hr hin ht
  obtain ⟨Ic, Iq, It, Ib, Itb, Ik, In, Ih, Ix, Iy⟩ := hI
  refine ne_aload_n X dX1_countAt_0 rfl ?_
  refine ne_getf X dX1_countAt_1 nw_fX1_9 rfl rfl ?_
  refine ne_iload_n X dX1_countAt_4 rfl ?_
  refine ne_ialdR X dX1_countAt_5 rfl (by omega) Ic (fun v5 e5 f5 u5 => ?_)
  refine ne_i2l (by omega) X dX1_countAt_6 ?_
  refine ne_iload_n X dX1_countAt_7 rfl ?_
  refine ne_aload_n X dX1_countAt_8 rfl ?_
  refine ne_getf X dX1_countAt_9 nw_fX1_13 rfl rfl ?_
  refine ne_iload_n X dX1_countAt_12 rfl ?_
  refine ne_ialdR X dX1_countAt_13 rfl (by omega) Iq (fun v13 e13 f13 u13 => ?_)
  refine ne_isub X dX1_countAt_14 ?_
  refine ne_callS X nw_Tg (me_X1_tenTo l hl _ _ (by omega)) nw_yX1_tenTo nw_mX1_59 nw_sX1_tenTo dX1_countAt_15 rfl rfl (by decide) (by decide) (by first | decide | omega) (by first | decide | omega) (Nat.le_of_ble_eq_true rfl) rfl rfl (Nat.le_of_ble_eq_true rfl) ?_ ?_
  rotate_left
  · rintro E9 w9 h9; exact h9.elim
  rintro v15 w15 ⟨rfl, z15, rfl, g15, k15, i15, j15, o15⟩
  have m15 := ne_mul v5 z15 999999 1000 (by omega) (by omega)
  refine ne_lmul X dX1_countAt_18 ?_
  exact ne_lret X hr dX1_countAt_19 ⟨rfl, _, rfl, by rw [g15, e5, e13], by omega, by omega⟩
set_option maxRecDepth 100000 in
set_option maxHeartbeats 4000000 in
theorem me_X1_orderOfCells (l : Launch) (hl : l.stackTraces = false) (c q t b k n h x y : Nat → Int) (T : Int) (hI : cI c q t b k n h x y T) (hT : 0 ≤ T ∧ T ≤ 1000000) (i j : Int) (hi : 0 ≤ i ∧ i < 4) (hj : 0 ≤ j ∧ j < 4) : ne_M l nw_cl (.code yX1_orderOfCells cX1_orderOfCells 3 (some .int)) nw_T yX1_orderOfCells 2 70 0 0 [.ref 0, ni i, ni j] (cW c q t b k n h x y) (fun v w => w = cW c q t b k n h x y ∧ ∃ z : Int, v = some (ni z) ∧ -1 ≤ z ∧ z ≤ 1 ∧ (z < 0 ↔ c i.toNat * 10 ^ (3 - q i.toNat).toNat < c j.toNat * 10 ^ (3 - q j.toNat).toNat) ∧ (0 < z ↔ c j.toNat * 10 ^ (3 - q j.toNat).toNat < c i.toNat * 10 ^ (3 - q i.toNat).toNat)) (fun _ _ => False) := by
  refine ne_meet (own := RX1) hl rfl (by decide +kernel) (Nat.le_of_ble_eq_true rfl) ?_
  intro D ct A P9 V9 R9 S9 M9 as9 bl9 mt9 C9 ad0 X hr hin ht
  obtain ⟨Ic, Iq, It, Ib, Itb, Ik, In, Ih, Ix, Iy⟩ := hI
  refine ne_aload_n X dX1_orderOfCells_0 rfl ?_
  refine ne_iload_n X dX1_orderOfCells_1 rfl ?_
  refine ne_iconst X dX1_orderOfCells_2 ?_
  refine ne_callV X nw_Tg (me_X1_countAt l hl c q t b k n h x y T (by exact ⟨Ic, Iq, It, Ib, Itb, Ik, In, Ih, Ix, Iy⟩) (by omega) _ _ (by omega) (by omega)) nw_yX1_countAt nw_mX1_73 nw_iX1_countAt nw_eX1_countAt (ci := 3) rfl rfl rfl dX1_orderOfCells_3 rfl rfl (by decide) (by decide) (by first | decide | omega) (by first | decide | omega) (Nat.le_of_ble_eq_true rfl) rfl rfl (Nat.le_of_ble_eq_true rfl) ?_ ?_
  rotate_left
  · rintro E9 w9 h9; exact h9.elim
  rintro v3 w3 ⟨rfl, z3, rfl, g3, k3, i3⟩
  refine ne_aload_n X dX1_orderOfCells_6 rfl ?_
  refine ne_iload_n X dX1_orderOfCells_7 rfl ?_
  refine ne_iconst X dX1_orderOfCells_8 ?_
  refine ne_callV X nw_Tg (me_X1_countAt l hl c q t b k n h x y T (by exact ⟨Ic, Iq, It, Ib, Itb, Ik, In, Ih, Ix, Iy⟩) (by omega) _ _ (by omega) (by omega)) nw_yX1_countAt nw_mX1_73 nw_iX1_countAt nw_eX1_countAt (ci := 3) rfl rfl rfl dX1_orderOfCells_9 rfl rfl (by decide) (by decide) (by first | decide | omega) (by first | decide | omega) (Nat.le_of_ble_eq_true rfl) rfl rfl (Nat.le_of_ble_eq_true rfl) ?_ ?_
  rotate_left
  · rintro E9 w9 h9; exact h9.elim
  rintro v9 w9 ⟨rfl, z9, rfl, g9, k9, i9⟩
  refine ne_lsub X dX1_orderOfCells_12 ?_
  refine ne_callS X nw_Tg (me_X1_signOf l hl _ _ (by omega)) nw_yX1_signOf nw_mX1_117 nw_sX1_signOf dX1_orderOfCells_13 rfl rfl (by decide) (by decide) (by first | decide | omega) (by first | decide | omega) (Nat.le_of_ble_eq_true rfl) rfl rfl (Nat.le_of_ble_eq_true rfl) ?_ ?_
  rotate_left
  · rintro E9 w9 h9; exact h9.elim
  rintro v13 w13 ⟨rfl, z13, rfl, g13, k13, i13, j13⟩
  exact ne_iret X hr (by first | rfl | decide | rfl) dX1_orderOfCells_16 ⟨rfl, _, rfl, by omega, by omega, by rw [← g3, ← g9]; omega, by rw [← g3, ← g9]; omega⟩
set_option maxRecDepth 100000 in
set_option maxHeartbeats 4000000 in
theorem me_X1_areSame (l : Launch) (hl : l.stackTraces = false) (c q t b k n h x y : Nat → Int) (T : Int) (hI : cI c q t b k n h x y T) (hT : 0 ≤ T ∧ T ≤ 1000000) (i j : Int) (hi : 0 ≤ i ∧ i < 4) (hj : 0 ≤ j ∧ j < 4) : ne_M l nw_cl (.code yX1_areSame cX1_areSame 3 (some .boolean)) nw_T yX1_areSame 0 0 0 0 [.ref 0, ni i, ni j] (cW c q t b k n h x y) (fun v w => w = cW c q t b k n h x y ∧ ∃ z : Int, v = some (ni z) ∧ 0 ≤ z ∧ z ≤ 1 ∧ (z = 1 ↔ c i.toNat = c j.toNat ∧ q i.toNat = q j.toNat)) (fun _ _ => False) := by
  refine ne_meet (own := RX1) hl rfl (by decide +kernel) (Nat.le_of_ble_eq_true rfl) ?_
  intro D ct A P9 V9 R9 S9 M9 as9 bl9 mt9 C9 ad0 X hr hin ht
  obtain ⟨Ic, Iq, It, Ib, Itb, Ik, In, Ih, Ix, Iy⟩ := hI
  refine ne_aload_n X dX1_areSame_0 rfl ?_
  refine ne_getf X dX1_areSame_1 nw_fX1_9 rfl rfl ?_
  refine ne_iload_n X dX1_areSame_4 rfl ?_
  refine ne_ialdR X dX1_areSame_5 rfl (by omega) Ic (fun v5 e5 f5 u5 => ?_)
  refine ne_aload_n X dX1_areSame_6 rfl ?_
  refine ne_getf X dX1_areSame_7 nw_fX1_9 rfl rfl ?_
  refine ne_iload_n X dX1_areSame_10 rfl ?_
  refine ne_ialdR X dX1_areSame_11 rfl (by omega) Ic (fun v11 e11 f11 u11 => ?_)
  refine ne_icmp_ne (tgt := 34) X dX1_areSame_12 rfl (by omega) (by omega) (fun b12 => ?_) (fun b12 => ?_)
  · refine ne_iconst X dX1_areSame_34 ?_
    exact ne_iret X hr (by first | rfl | decide | rfl) dX1_areSame_35 ⟨rfl, _, rfl, by omega, by omega, by rw [← e5, ← e11]; first | omega | (rw [← e20, ← e26]; omega)⟩
  · refine ne_aload_n X dX1_areSame_15 rfl ?_
    refine ne_getf X dX1_areSame_16 nw_fX1_13 rfl rfl ?_
    refine ne_iload_n X dX1_areSame_19 rfl ?_
    refine ne_ialdR X dX1_areSame_20 rfl (by omega) Iq (fun v20 e20 f20 u20 => ?_)
    refine ne_aload_n X dX1_areSame_21 rfl ?_
    refine ne_getf X dX1_areSame_22 nw_fX1_13 rfl rfl ?_
    refine ne_iload_n X dX1_areSame_25 rfl ?_
    refine ne_ialdR X dX1_areSame_26 rfl (by omega) Iq (fun v26 e26 f26 u26 => ?_)
    refine ne_icmp_ne (tgt := 34) X dX1_areSame_27 rfl (by omega) (by omega) (fun b27 => ?_) (fun b27 => ?_)
    · refine ne_iconst X dX1_areSame_34 ?_
      exact ne_iret X hr (by first | rfl | decide | rfl) dX1_areSame_35 ⟨rfl, _, rfl, by omega, by omega, by rw [← e5, ← e11]; first | omega | (rw [← e20, ← e26]; omega)⟩
    · refine ne_iconst X dX1_areSame_30 ?_
      refine ne_goto (tgt := 35) X dX1_areSame_31 rfl ?_
      exact ne_iret X hr (by first | rfl | decide | rfl) dX1_areSame_35 ⟨rfl, _, rfl, by omega, by omega, by rw [← e5, ← e11]; first | omega | (rw [← e20, ← e26]; omega)⟩
set_option maxRecDepth 100000 in
set_option maxHeartbeats 4000000 in
theorem me_X1_cutCount (l : Launch) (hl : l.stackTraces = false) (c q t b k n h x y : Nat → Int) (T : Int) (hI : cI c q t b k n h x y T) (hT : 0 ≤ T ∧ T ≤ 1000000) (i m p w0 : Int) (hi : 0 ≤ i ∧ i < 3) (hm : 0 ≤ m ∧ m ≤ 1) (hp : 0 ≤ p ∧ p ≤ 16) (hw : 0 ≤ w0 ∧ w0 ≤ 7) : ne_M l nw_cl (.code yX1_cutCount cX1_cutCount 7 (some .long)) nw_T yX1_cutCount 3 110 0 0 [.ref 0, ni i, ni m, ni p, ni w0] (cW c q t b k n h x y) (fun v w => w = cW c q t b k n h x y ∧ ∃ z : Int, v = some (nl z) ∧ (z = -9000000000000000000 ∨ (-1000000000000000001 ≤ z ∧ z ≤ 1000000000000000001))) (fun _ _ => False) := by
  refine ne_meet (own := RX1) hl rfl (by decide +kernel) (Nat.le_of_ble_eq_true rfl) ?_
  intro D ct A P9 V9 R9 S9 M9 as9 bl9 mt9 C9 ad0 X hr hin ht
  obtain ⟨Ic, Iq, It, Ib, Itb, Ik, In, Ih, Ix, Iy⟩ := hI
  refine ne_aload_n X dX1_cutCount_0 rfl ?_
  refine ne_getf X dX1_cutCount_1 nw_fX1_16 rfl rfl ?_
  refine ne_iload_n X dX1_cutCount_4 rfl ?_
  refine ne_ialdR X dX1_cutCount_5 rfl (by omega) It (fun v5 e5 f5 u5 => ?_)
  refine ne_i2l (by omega) X dX1_cutCount_6 ?_
  refine ne_iload_n X dX1_cutCount_7 rfl ?_
  refine ne_callS X nw_Tg (me_X1_tenTo l hl _ _ (by omega)) nw_yX1_tenTo nw_mX1_59 nw_sX1_tenTo dX1_cutCount_8 rfl rfl (by decide) (by decide) (by first | decide | omega) (by first | decide | omega) (Nat.le_of_ble_eq_true rfl) rfl rfl (Nat.le_of_ble_eq_true rfl) ?_ ?_
  rotate_left
  · rintro E9 w9 h9; exact h9.elim
  rintro v8 w8 ⟨rfl, z8, rfl, g8, k8, i8, j8, o8⟩
  have m8 := ne_mul v5 z8 98 10000000000000000 (by omega) (by omega)
  refine ne_lmul X dX1_cutCount_11 ?_
  refine ne_lstore X dX1_cutCount_12 (by decide) ?_
  refine ne_iload_n X dX1_cutCount_14 rfl ?_
  refine ne_if_eq (tgt := 24) X dX1_cutCount_15 rfl (by omega) (fun b15 => ?_) (fun b15 => ?_)
  · refine ne_lload X dX1_cutCount_24 rfl ?_
    refine ne_aload_n X dX1_cutCount_26 rfl ?_
    refine ne_getf X dX1_cutCount_27 nw_fX1_19 rfl rfl ?_
    refine ne_iload_n X dX1_cutCount_30 rfl ?_
    refine ne_ialdR X dX1_cutCount_31 rfl (by omega) Ib (fun v31 e31 f31 u31 => ?_)
    refine ne_i2l (by omega) X dX1_cutCount_32 ?_
    refine ne_iload X dX1_cutCount_33 rfl ?_
    refine ne_callS X nw_Tg (me_X1_rounded l hl _ _ _ _ (by omega) (by omega) (by omega)) nw_yX1_rounded nw_mX1_84 nw_sX1_rounded dX1_cutCount_35 rfl rfl (by decide) (by decide) (by first | decide | omega) (by first | decide | omega) (Nat.le_of_ble_eq_true rfl) rfl rfl (Nat.le_of_ble_eq_true rfl) ?_ ?_
    rotate_left
    · rintro E9 w9 h9; exact h9.elim
    rintro v35 w35 ⟨rfl, z35, rfl, g35⟩
    exact ne_lret X hr dX1_cutCount_38 ⟨rfl, _, rfl, by omega⟩
  · refine ne_lload X dX1_cutCount_18 rfl ?_
    refine ne_lneg X dX1_cutCount_20 ?_
    refine ne_goto (tgt := 26) X dX1_cutCount_21 rfl ?_
    refine ne_aload_n X dX1_cutCount_26 rfl ?_
    refine ne_getf X dX1_cutCount_27 nw_fX1_19 rfl rfl ?_
    refine ne_iload_n X dX1_cutCount_30 rfl ?_
    refine ne_ialdR X dX1_cutCount_31 rfl (by omega) Ib (fun v31 e31 f31 u31 => ?_)
    refine ne_i2l (by omega) X dX1_cutCount_32 ?_
    refine ne_iload X dX1_cutCount_33 rfl ?_
    refine ne_callS X nw_Tg (me_X1_rounded l hl _ _ _ _ (by omega) (by omega) (by omega)) nw_yX1_rounded nw_mX1_84 nw_sX1_rounded dX1_cutCount_35 rfl rfl (by decide) (by decide) (by first | decide | omega) (by first | decide | omega) (Nat.le_of_ble_eq_true rfl) rfl rfl (Nat.le_of_ble_eq_true rfl) ?_ ?_
    rotate_left
    · rintro E9 w9 h9; exact h9.elim
    rintro v35 w35 ⟨rfl, z35, rfl, g35⟩
    exact ne_lret X hr dX1_cutCount_38 ⟨rfl, _, rfl, by omega⟩
set_option maxRecDepth 100000 in
set_option maxHeartbeats 4000000 in
theorem me_X1_decline (l : Launch) (hl : l.stackTraces = false) (c q t b k n h x y : Nat → Int) (T : Int) (hI : cI c q t b k n h x y T) (hT : 0 ≤ T ∧ T ≤ 1000000)  : ne_M l nw_cl (.code yX1_decline cX1_decline 1 (some .int)) nw_T yX1_decline 0 0 0 0 [.ref 0] (cW c q t b k n h x y) (fun v w => ∃ h1, w = cW c q t b k n h1 x y ∧ h1 = va_up h 2 (h 2 + 1) ∧ ne_rg h1 0 (T + 1) ∧ v = some (ni (-9))) (fun _ _ => False) := by
  refine ne_meet (own := RX1) hl rfl (by decide +kernel) (Nat.le_of_ble_eq_true rfl) ?_
  intro D ct A P9 V9 R9 S9 M9 as9 bl9 mt9 C9 ad0 X hr hin ht
  obtain ⟨Ic, Iq, It, Ib, Itb, Ik, In, Ih, Ix, Iy⟩ := hI
  refine ne_aload_n X dX1_decline_0 rfl ?_
  refine ne_getf X dX1_decline_1 nw_fX1_28 rfl rfl ?_
  refine ne_iconst X dX1_decline_4 ?_
  refine ne_dup2ai X dX1_decline_5 ?_
  refine ne_ialdR X dX1_decline_6 rfl (by omega) Ih (fun v6 e6 f6 u6 => ?_)
  refine ne_iconst X dX1_decline_7 ?_
  refine ne_iadd X dX1_decline_8 ?_
  refine ne_iastR X dX1_decline_9 rfl (by omega) (ne_rg_mono Ih (by omega) (by omega)) (a := 0) (b := T + 1) (by omega) (fun h9 hh9 Ih => ?_)
  refine ne_ws (ws' := cW c q t b k n h9 x y) rfl ?_
  refine ne_bipush (v := -9) (by decide) X dX1_decline_10 ?_
  exact ne_iret X hr (by first | rfl | decide | rfl) dX1_decline_12 ⟨_, rfl, by rw [hh9, e6]; rfl, Ih, rfl⟩
set_option maxRecDepth 100000 in
set_option maxHeartbeats 4000000 in
theorem me_X1_bring (l : Launch) (hl : l.stackTraces = false) (c q t b k n h x y : Nat → Int) (T : Int) (hI : cI c q t b k n h x y T) (hT : 0 ≤ T ∧ T ≤ 1000000) (i a p : Int) (hi : 0 ≤ i ∧ i < 4) (ha : -9223372036854775808 ≤ a ∧ a < 9223372036854775808) (hp : -2147483648 ≤ p ∧ p < 2147483648) : ne_M l nw_cl (.code yX1_bring cX1_bring 5 (some .int)) nw_T yX1_bring 1 40 0 0 [.ref 0, ni i, nl a, ni p] (cW c q t b k n h x y) (fun v w => ∃ c1 q1 h1, w = cW c1 q1 t b k n h1 x y ∧ ne_rg c1 (-999999) 999999 ∧ ne_rg q1 0 3 ∧ ne_rg h1 0 (T + 1) ∧ ∃ z : Int, v = some (ni z) ∧ -9 ≤ z ∧ z ≤ 1) (fun _ _ => False) := by
  refine ne_meet (own := RX1) hl rfl (by decide +kernel) (Nat.le_of_ble_eq_true rfl) ?_
  intro D ct A P9 V9 R9 S9 M9 as9 bl9 mt9 C9 ad0 X hr hin ht
  obtain ⟨Ic, Iq, It, Ib, Itb, Ik, In, Ih, Ix, Iy⟩ := hI
  refine ne_lload_n X dX1_bring_0 rfl ?_
  refine ne_iload X dX1_bring_1 rfl ?_
  refine ne_callS X nw_Tg (me_X1_fits l hl _ _ _ (by omega) (by omega)) nw_yX1_fits nw_mX1_198 nw_sX1_fits dX1_bring_3 rfl rfl (by decide) (by decide) (by first | decide | omega) (by first | decide | omega) (Nat.le_of_ble_eq_true rfl) rfl rfl (Nat.le_of_ble_eq_true rfl) ?_ ?_
  rotate_left
  · rintro E9 w9 h9; exact h9.elim
  rintro v3 w3 ⟨rfl, z3, rfl, g3⟩
  refine ne_if_ne (tgt := 14) X dX1_bring_6 rfl (by omega) (fun b6 => ?_) (fun b6 => ?_)
  · refine ne_aload_n X dX1_bring_14 rfl ?_
    refine ne_getf X dX1_bring_15 nw_fX1_28 rfl rfl ?_
    refine ne_iconst X dX1_bring_18 ?_
    refine ne_dup2ai X dX1_bring_19 ?_
    refine ne_ialdR X dX1_bring_20 rfl (by omega) Ih (fun v20 e20 f20 u20 => ?_)
    refine ne_iconst X dX1_bring_21 ?_
    refine ne_iadd X dX1_bring_22 ?_
    refine ne_iastR X dX1_bring_23 rfl (by omega) (ne_rg_mono Ih (by omega) (by omega)) (a := 0) (b := T + 1) (by omega) (fun h23 hh23 Ih => ?_)
    refine ne_ws (ws' := cW c q t b k n h23 x y) rfl ?_
    refine ne_aload_n X dX1_bring_24 rfl ?_
    refine ne_getf X dX1_bring_25 nw_fX1_9 rfl rfl ?_
    refine ne_iload_n X dX1_bring_28 rfl ?_
    refine ne_ialdR X dX1_bring_29 rfl (by omega) Ic (fun v29 e29 f29 u29 => ?_)
    refine ne_i2l (by omega) X dX1_bring_30 ?_
    refine ne_lload_n X dX1_bring_31 rfl ?_
    refine ne_lcif_ne (tgt := 49) X dX1_bring_32 dX1_bring_33 rfl (by omega) (by omega) (fun b33 => ?_) (fun b33 => ?_)
    · refine ne_aload_n X dX1_bring_49 rfl ?_
      refine ne_getf X dX1_bring_50 nw_fX1_9 rfl rfl ?_
      refine ne_iload_n X dX1_bring_53 rfl ?_
      refine ne_lload_n X dX1_bring_54 rfl ?_
      refine ne_l2i X dX1_bring_55 ?_
      refine ne_iastR X dX1_bring_56 rfl (by omega) (ne_rg_mono Ic (by omega) (by omega)) (a := -999999) (b := 999999) (by omega) (fun c56 hc56 Ic => ?_)
      refine ne_ws (ws' := cW c56 q t b k n h23 x y) rfl ?_
      refine ne_aload_n X dX1_bring_57 rfl ?_
      refine ne_getf X dX1_bring_58 nw_fX1_13 rfl rfl ?_
      refine ne_iload_n X dX1_bring_61 rfl ?_
      refine ne_iload X dX1_bring_62 rfl ?_
      refine ne_iastR X dX1_bring_64 rfl (by omega) (ne_rg_mono Iq (by omega) (by omega)) (a := 0) (b := 3) (by omega) (fun q64 hq64 Iq => ?_)
      refine ne_ws (ws' := cW c56 q64 t b k n h23 x y) rfl ?_
      refine ne_iconst X dX1_bring_65 ?_
      exact ne_iret X hr (by first | rfl | decide | rfl) dX1_bring_66 ⟨_, _, _, rfl, Ic, Iq, Ih, _, rfl, by omega, by omega⟩
    · refine ne_aload_n X dX1_bring_36 rfl ?_
      refine ne_getf X dX1_bring_37 nw_fX1_13 rfl rfl ?_
      refine ne_iload_n X dX1_bring_40 rfl ?_
      refine ne_ialdR X dX1_bring_41 rfl (by omega) Iq (fun v41 e41 f41 u41 => ?_)
      refine ne_iload X dX1_bring_42 rfl ?_
      refine ne_icmp_ne (tgt := 49) X dX1_bring_44 rfl (by omega) (by omega) (fun b44 => ?_) (fun b44 => ?_)
      · refine ne_aload_n X dX1_bring_49 rfl ?_
        refine ne_getf X dX1_bring_50 nw_fX1_9 rfl rfl ?_
        refine ne_iload_n X dX1_bring_53 rfl ?_
        refine ne_lload_n X dX1_bring_54 rfl ?_
        refine ne_l2i X dX1_bring_55 ?_
        refine ne_iastR X dX1_bring_56 rfl (by omega) (ne_rg_mono Ic (by omega) (by omega)) (a := -999999) (b := 999999) (by omega) (fun c56 hc56 Ic => ?_)
        refine ne_ws (ws' := cW c56 q t b k n h23 x y) rfl ?_
        refine ne_aload_n X dX1_bring_57 rfl ?_
        refine ne_getf X dX1_bring_58 nw_fX1_13 rfl rfl ?_
        refine ne_iload_n X dX1_bring_61 rfl ?_
        refine ne_iload X dX1_bring_62 rfl ?_
        refine ne_iastR X dX1_bring_64 rfl (by omega) (ne_rg_mono Iq (by omega) (by omega)) (a := 0) (b := 3) (by omega) (fun q64 hq64 Iq => ?_)
        refine ne_ws (ws' := cW c56 q64 t b k n h23 x y) rfl ?_
        refine ne_iconst X dX1_bring_65 ?_
        exact ne_iret X hr (by first | rfl | decide | rfl) dX1_bring_66 ⟨_, _, _, rfl, Ic, Iq, Ih, _, rfl, by omega, by omega⟩
      · refine ne_iconst X dX1_bring_47 ?_
        exact ne_iret X hr (by first | rfl | decide | rfl) dX1_bring_48 ⟨_, _, _, rfl, Ic, Iq, Ih, _, rfl, by omega, by omega⟩
  · refine ne_aload_n X dX1_bring_9 rfl ?_
    refine ne_callV X nw_Tg (me_X1_decline l hl c q t b k n h x y T (by exact ⟨Ic, Iq, It, Ib, Itb, Ik, In, Ih, Ix, Iy⟩) (by omega) ) nw_yX1_decline nw_mX1_80 nw_iX1_decline nw_eX1_decline (ci := 3) rfl rfl rfl dX1_bring_10 rfl rfl (by decide) (by decide) (by first | decide | omega) (by first | decide | omega) (Nat.le_of_ble_eq_true rfl) rfl rfl (Nat.le_of_ble_eq_true rfl) ?_ ?_
    rotate_left
    · rintro E9 w9 h9; exact h9.elim
    rintro v10 w10 ⟨h10, rfl, p10, Ih, rfl⟩
    exact ne_iret X hr (by first | rfl | decide | rfl) dX1_bring_13 ⟨_, _, _, rfl, Ic, Iq, Ih, _, rfl, by omega, by omega⟩
set_option maxRecDepth 100000 in
set_option maxHeartbeats 4000000 in
theorem me_X1_bringAt (l : Launch) (hl : l.stackTraces = false) (c q t b k n h x y : Nat → Int) (T : Int) (hI : cI c q t b k n h x y T) (hT : 0 ≤ T ∧ T ≤ 1000000) (i a p : Int) (hi : 0 ≤ i ∧ i < 4) (ha : -10000000 ≤ a ∧ a ≤ 10000000) (hp : -9 ≤ p ∧ p ≤ 9) : ne_M l nw_cl (.code yX1_bringAt cX1_bringAt 5 (some .int)) nw_T yX1_bringAt 2 70 0 0 [.ref 0, ni i, nl a, ni p] (cW c q t b k n h x y) (fun v w => ∃ c1 q1 h1, w = cW c1 q1 t b k n h1 x y ∧ ne_rg c1 (-999999) 999999 ∧ ne_rg q1 0 3 ∧ ne_rg h1 0 (T + 1) ∧ ∃ z : Int, v = some (ni z) ∧ -9 ≤ z ∧ z ≤ 1) (fun _ _ => False) := by
  refine ne_meet (own := RX1) hl rfl (by decide +kernel) (Nat.le_of_ble_eq_true rfl) ?_
  intro D ct A P9 V9 R9 S9 M9 as9 bl9 mt9 C9 ad0 X hr hin ht
  obtain ⟨Ic, Iq, It, Ib, Itb, Ik, In, Ih, Ix, Iy⟩ := hI
  refine ne_iload X dX1_bringAt_0 rfl ?_
  refine ne_if_ge (tgt := 22) X dX1_bringAt_2 rfl (by omega) (fun b2 => ?_) (fun b2 => ?_)
  · refine ne_aload_n X dX1_bringAt_22 rfl ?_
    refine ne_iload_n X dX1_bringAt_23 rfl ?_
    refine ne_lload_n X dX1_bringAt_24 rfl ?_
    refine ne_iload X dX1_bringAt_25 rfl ?_
    refine ne_callV X nw_Tg (me_X1_bring l hl c q t b k n h x y T (by exact ⟨Ic, Iq, It, Ib, Itb, Ik, In, Ih, Ix, Iy⟩) (by omega) _ _ _ (by omega) (by omega) (by omega)) nw_yX1_bring nw_mX1_55 nw_iX1_bring nw_eX1_bring (ci := 3) rfl rfl rfl dX1_bringAt_27 rfl rfl (by decide) (by decide) (by first | decide | omega) (by first | decide | omega) (Nat.le_of_ble_eq_true rfl) rfl rfl (Nat.le_of_ble_eq_true rfl) ?_ ?_
    rotate_left
    · rintro E9 w9 h9; exact h9.elim
    rintro v27 w27 ⟨c27, q27, h27, rfl, Ic, Iq, Ih, z27, rfl, g27, k27⟩
    exact ne_iret X hr (by first | rfl | decide | rfl) dX1_bringAt_30 ⟨_, _, _, rfl, Ic, Iq, Ih, _, rfl, by omega, by omega⟩
  · refine ne_aload_n X dX1_bringAt_5 rfl ?_
    refine ne_iload_n X dX1_bringAt_6 rfl ?_
    refine ne_lload_n X dX1_bringAt_7 rfl ?_
    refine ne_iload X dX1_bringAt_8 rfl ?_
    refine ne_ineg X dX1_bringAt_10 ?_
    refine ne_callS X nw_Tg (me_X1_tenTo l hl _ _ (by omega)) nw_yX1_tenTo nw_mX1_59 nw_sX1_tenTo dX1_bringAt_11 rfl rfl (by decide) (by decide) (by first | decide | omega) (by first | decide | omega) (Nat.le_of_ble_eq_true rfl) rfl rfl (Nat.le_of_ble_eq_true rfl) ?_ ?_
    rotate_left
    · rintro E9 w9 h9; exact h9.elim
    rintro v11 w11 ⟨rfl, z11, rfl, g11, k11, i11, j11, o11⟩
    have m11 := ne_mul a z11 10000000 10000000000000000 (by omega) (by omega)
    refine ne_lmul X dX1_bringAt_14 ?_
    refine ne_wrapL (fun z14 l14 r14 q14 => ?_)
    refine ne_iconst X dX1_bringAt_15 ?_
    refine ne_callV X nw_Tg (me_X1_bring l hl c q t b k n h x y T (by exact ⟨Ic, Iq, It, Ib, Itb, Ik, In, Ih, Ix, Iy⟩) (by omega) _ _ _ (by omega) (by omega) (by omega)) nw_yX1_bring nw_mX1_55 nw_iX1_bring nw_eX1_bring (ci := 3) rfl rfl rfl dX1_bringAt_16 rfl rfl (by decide) (by decide) (by first | decide | omega) (by first | decide | omega) (Nat.le_of_ble_eq_true rfl) rfl rfl (Nat.le_of_ble_eq_true rfl) ?_ ?_
    rotate_left
    · rintro E9 w9 h9; exact h9.elim
    rintro v16 w16 ⟨c16, q16, h16, rfl, Ic, Iq, Ih, z16, rfl, g16, k16⟩
    refine ne_goto (tgt := 30) X dX1_bringAt_19 rfl ?_
    exact ne_iret X hr (by first | rfl | decide | rfl) dX1_bringAt_30 ⟨_, _, _, rfl, Ic, Iq, Ih, _, rfl, by omega, by omega⟩
set_option maxRecDepth 100000 in
set_option maxHeartbeats 4000000 in
theorem me_X1_restOfPlace (l : Launch) (hl : l.stackTraces = false) (c q t b k n h x y : Nat → Int) (T : Int) (hI : cI c q t b k n h x y T) (hT : 0 ≤ T ∧ T ≤ 1000000) (i p : Int) (hi : 0 ≤ i ∧ i < 3) (hp : -5 ≤ p ∧ p ≤ 1000) : ne_M l nw_cl (.code yX1_restOfPlace cX1_restOfPlace 5 (some .int)) nw_T yX1_restOfPlace 2 70 0 0 [.ref 0, ni i, ni p] (cW c q t b k n h x y) (fun v w => w = cW c q t b k n h x y ∧ ∃ z : Int, v = some (ni z) ∧ z = ne_rs (t i.toNat) (b i.toNat) p.toNat ∧ 0 ≤ z ∧ z < b i.toNat ∧ z ≤ 98) (fun _ _ => False) := by
  refine ne_meet (own := RX1) hl rfl (by decide +kernel) (Nat.le_of_ble_eq_true rfl) ?_
  intro D ct A P9 V9 R9 S9 M9 as9 bl9 mt9 C9 ad0 X hr hin ht
  obtain ⟨Ic, Iq, It, Ib, Itb, Ik, In, Ih, Ix, Iy⟩ := hI
  have hb9 := Ib i.toNat
  have ht9 := It i.toNat
  have htb9 := Itb i.toNat
  have lp10 : ∀ (n9 : Nat) (r j : Int), (1000 - j).toNat < n9 → (0 ≤ j) → (j ≤ p ∨ j = 0) → (r = ne_rs (t i.toNat) (b i.toNat) j.toNat) → ne_G nw_cl D ct A 12 ad0 P9 l V9 R9 S9 M9 as9 bl9 mt9 C9 (ne_O nw_cl D ct ad0 12 A bl9 as9 S9 0 0 (fun v w => w = cW c q t b k n h x y ∧ ∃ z : Int, v = some (ni z) ∧ z = ne_rs (t i.toNat) (b i.toNat) p.toNat ∧ 0 ≤ z ∧ z < b i.toNat ∧ z ≤ 98) (fun _ _ => False)) 5 0 0 0 0 10 [some (.ref 0), some (ni i), some (ni p), some (ni r), some (ni j)] [] (cW c q t b k n h x y) := by
    intro n9
    induction n9 with
    | zero => intro r j hm9 q1 q2 q3; exfalso; omega
    | succ n9 ih =>
      intro r j hm9 q1 q2 q3
      have q5 := ne_rs_in (t i.toNat) (b i.toNat) ht9.1 htb9 j.toNat
      have q6 : ne_rs (t i.toNat) (b i.toNat) (j + 1).toNat = (10 * ne_rs (t i.toNat) (b i.toNat) j.toNat).tmod (b i.toNat) := by rw [show (j + 1).toNat = j.toNat + 1 by omega]; rfl
      refine ne_iload X dX1_restOfPlace_10 rfl ?_
      refine ne_iload_n X dX1_restOfPlace_12 rfl ?_
      refine ne_icmp_ge (tgt := 33) X dX1_restOfPlace_13 rfl (by omega) (by omega) (fun b13 => ?_) (fun b13 => ?_)
      · refine ne_iload_n X dX1_restOfPlace_33 rfl ?_
        exact ne_iret X hr (by first | rfl | decide | rfl) dX1_restOfPlace_34 ⟨rfl, _, rfl, by rw [q3]; congr 1; omega, by omega, by omega, by omega⟩
      · refine ne_iload_n X dX1_restOfPlace_16 rfl ?_
        refine ne_aload_n X dX1_restOfPlace_17 rfl ?_
        refine ne_getf X dX1_restOfPlace_18 nw_fX1_19 rfl rfl ?_
        refine ne_iload_n X dX1_restOfPlace_21 rfl ?_
        refine ne_ialdR X dX1_restOfPlace_22 rfl (by omega) Ib (fun v22 e22 f22 u22 => ?_)
        refine ne_callS X nw_Tg (me_X1_restAfter l hl _ _ _ (by omega) (by omega) (by omega)) nw_yX1_restAfter nw_mX1_189 nw_sX1_restAfter dX1_restOfPlace_23 rfl rfl (by decide) (by decide) (by first | decide | omega) (by first | decide | omega) (Nat.le_of_ble_eq_true rfl) rfl rfl (Nat.le_of_ble_eq_true rfl) ?_ ?_
        rotate_left
        · rintro E9 w9 h9; exact h9.elim
        rintro v23 w23 ⟨rfl, z23, rfl, g23, k23, i23⟩
        refine ne_istore_n X dX1_restOfPlace_26 rfl (by decide) ?_
        refine ne_iinc X dX1_restOfPlace_27 rfl (by decide) ?_
        refine ne_ll (L' := [some (.ref 0), some (ni _), some (ni _), some (ni _), some (ni _)]) rfl ?_
        refine ne_goto (tgt := 10) X dX1_restOfPlace_30 rfl ?_
        exact ih _ _ (by omega) (by omega) (by omega) (by rw [q6, ← q3, g23, e22])
  refine ne_aload_n X dX1_restOfPlace_0 rfl ?_
  refine ne_getf X dX1_restOfPlace_1 nw_fX1_16 rfl rfl ?_
  refine ne_iload_n X dX1_restOfPlace_4 rfl ?_
  refine ne_ialdR X dX1_restOfPlace_5 rfl (by omega) It (fun v5 e5 f5 u5 => ?_)
  refine ne_istore_n X dX1_restOfPlace_6 rfl (by decide) ?_
  refine ne_iconst X dX1_restOfPlace_7 ?_
  refine ne_istore X dX1_restOfPlace_8 (by decide) ?_
  refine ne_ll (L' := [some (.ref 0), some (ni _), some (ni _), some (ni _), some (ni _)]) rfl ?_
  exact lp10 _ _ 0 (Nat.lt_succ_self _) (by omega) (by omega) (by rw [e5]; rfl)
set_option maxRecDepth 100000 in
set_option maxHeartbeats 4000000 in
theorem me_X1_orderOfWheels (l : Launch) (hl : l.stackTraces = false) (c q t b k n h x y : Nat → Int) (T : Int) (hI : cI c q t b k n h x y T) (hT : 0 ≤ T ∧ T ≤ 1000000) (i j : Int) (hi : 0 ≤ i ∧ i < 3) (hj : 0 ≤ j ∧ j < 3) : ne_M l nw_cl (.code yX1_orderOfWheels cX1_orderOfWheels 3 (some .int)) nw_T yX1_orderOfWheels 1 40 0 0 [.ref 0, ni i, ni j] (cW c q t b k n h x y) (fun v w => w = cW c q t b k n h x y ∧ ∃ z : Int, v = some (ni z) ∧ -1 ≤ z ∧ z ≤ 1) (fun _ _ => False) := by
  refine ne_meet (own := RX1) hl rfl (by decide +kernel) (Nat.le_of_ble_eq_true rfl) ?_
  intro D ct A P9 V9 R9 S9 M9 as9 bl9 mt9 C9 ad0 X hr hin ht
  obtain ⟨Ic, Iq, It, Ib, Itb, Ik, In, Ih, Ix, Iy⟩ := hI
  refine ne_aload_n X dX1_orderOfWheels_0 rfl ?_
  refine ne_getf X dX1_orderOfWheels_1 nw_fX1_16 rfl rfl ?_
  refine ne_iload_n X dX1_orderOfWheels_4 rfl ?_
  refine ne_ialdR X dX1_orderOfWheels_5 rfl (by omega) It (fun v5 e5 f5 u5 => ?_)
  refine ne_aload_n X dX1_orderOfWheels_6 rfl ?_
  refine ne_getf X dX1_orderOfWheels_7 nw_fX1_19 rfl rfl ?_
  refine ne_iload_n X dX1_orderOfWheels_10 rfl ?_
  refine ne_ialdR X dX1_orderOfWheels_11 rfl (by omega) Ib (fun v11 e11 f11 u11 => ?_)
  have m12 := ne_mul v5 v11 98 99 (by omega) (by omega)
  refine ne_imul X dX1_orderOfWheels_12 ?_
  refine ne_aload_n X dX1_orderOfWheels_13 rfl ?_
  refine ne_getf X dX1_orderOfWheels_14 nw_fX1_16 rfl rfl ?_
  refine ne_iload_n X dX1_orderOfWheels_17 rfl ?_
  refine ne_ialdR X dX1_orderOfWheels_18 rfl (by omega) It (fun v18 e18 f18 u18 => ?_)
  refine ne_aload_n X dX1_orderOfWheels_19 rfl ?_
  refine ne_getf X dX1_orderOfWheels_20 nw_fX1_19 rfl rfl ?_
  refine ne_iload_n X dX1_orderOfWheels_23 rfl ?_
  refine ne_ialdR X dX1_orderOfWheels_24 rfl (by omega) Ib (fun v24 e24 f24 u24 => ?_)
  have m25 := ne_mul v18 v24 98 99 (by omega) (by omega)
  refine ne_imul X dX1_orderOfWheels_25 ?_
  refine ne_isub X dX1_orderOfWheels_26 ?_
  refine ne_i2l (by omega) X dX1_orderOfWheels_27 ?_
  refine ne_callS X nw_Tg (me_X1_signOf l hl _ _ (by omega)) nw_yX1_signOf nw_mX1_117 nw_sX1_signOf dX1_orderOfWheels_28 rfl rfl (by decide) (by decide) (by first | decide | omega) (by first | decide | omega) (Nat.le_of_ble_eq_true rfl) rfl rfl (Nat.le_of_ble_eq_true rfl) ?_ ?_
  rotate_left
  · rintro E9 w9 h9; exact h9.elim
  rintro v28 w28 ⟨rfl, z28, rfl, g28, k28, i28, j28⟩
  exact ne_iret X hr (by first | rfl | decide | rfl) dX1_orderOfWheels_31 ⟨rfl, _, rfl, by omega⟩
set_option maxRecDepth 100000 in
set_option maxHeartbeats 4000000 in
theorem me_X1_orderAgainst (l : Launch) (hl : l.stackTraces = false) (c q t b k n h x y : Nat → Int) (T : Int) (hI : cI c q t b k n h x y T) (hT : 0 ≤ T ∧ T ≤ 1000000) (i j : Int) (hi : 0 ≤ i ∧ i < 3) (hj : 0 ≤ j ∧ j < 4) : ne_M l nw_cl (.code yX1_orderAgainst cX1_orderAgainst 3 (some .int)) nw_T yX1_orderAgainst 1 40 0 0 [.ref 0, ni i, ni j] (cW c q t b k n h x y) (fun v w => w = cW c q t b k n h x y ∧ ∃ z : Int, v = some (ni z) ∧ -1 ≤ z ∧ z ≤ 1) (fun _ _ => False) := by
  refine ne_meet (own := RX1) hl rfl (by decide +kernel) (Nat.le_of_ble_eq_true rfl) ?_
  intro D ct A P9 V9 R9 S9 M9 as9 bl9 mt9 C9 ad0 X hr hin ht
  obtain ⟨Ic, Iq, It, Ib, Itb, Ik, In, Ih, Ix, Iy⟩ := hI
  refine ne_aload_n X dX1_orderAgainst_0 rfl ?_
  refine ne_getf X dX1_orderAgainst_1 nw_fX1_16 rfl rfl ?_
  refine ne_iload_n X dX1_orderAgainst_4 rfl ?_
  refine ne_ialdR X dX1_orderAgainst_5 rfl (by omega) It (fun v5 e5 f5 u5 => ?_)
  refine ne_i2l (by omega) X dX1_orderAgainst_6 ?_
  refine ne_aload_n X dX1_orderAgainst_7 rfl ?_
  refine ne_getf X dX1_orderAgainst_8 nw_fX1_13 rfl rfl ?_
  refine ne_iload_n X dX1_orderAgainst_11 rfl ?_
  refine ne_ialdR X dX1_orderAgainst_12 rfl (by omega) Iq (fun v12 e12 f12 u12 => ?_)
  refine ne_callS X nw_Tg (me_X1_tenTo l hl _ _ (by omega)) nw_yX1_tenTo nw_mX1_59 nw_sX1_tenTo dX1_orderAgainst_13 rfl rfl (by decide) (by decide) (by first | decide | omega) (by first | decide | omega) (Nat.le_of_ble_eq_true rfl) rfl rfl (Nat.le_of_ble_eq_true rfl) ?_ ?_
  rotate_left
  · rintro E9 w9 h9; exact h9.elim
  rintro v13 w13 ⟨rfl, z13, rfl, g13, k13, i13, j13, o13⟩
  have m13 := ne_mul v5 z13 98 1000 (by omega) (by omega)
  refine ne_lmul X dX1_orderAgainst_16 ?_
  refine ne_aload_n X dX1_orderAgainst_17 rfl ?_
  refine ne_getf X dX1_orderAgainst_18 nw_fX1_9 rfl rfl ?_
  refine ne_iload_n X dX1_orderAgainst_21 rfl ?_
  refine ne_ialdR X dX1_orderAgainst_22 rfl (by omega) Ic (fun v22 e22 f22 u22 => ?_)
  refine ne_i2l (by omega) X dX1_orderAgainst_23 ?_
  refine ne_aload_n X dX1_orderAgainst_24 rfl ?_
  refine ne_getf X dX1_orderAgainst_25 nw_fX1_19 rfl rfl ?_
  refine ne_iload_n X dX1_orderAgainst_28 rfl ?_
  refine ne_ialdR X dX1_orderAgainst_29 rfl (by omega) Ib (fun v29 e29 f29 u29 => ?_)
  refine ne_i2l (by omega) X dX1_orderAgainst_30 ?_
  have m31 := ne_mul v22 v29 999999 99 (by omega) (by omega)
  refine ne_lmul X dX1_orderAgainst_31 ?_
  refine ne_lsub X dX1_orderAgainst_32 ?_
  refine ne_callS X nw_Tg (me_X1_signOf l hl _ _ (by omega)) nw_yX1_signOf nw_mX1_117 nw_sX1_signOf dX1_orderAgainst_33 rfl rfl (by decide) (by decide) (by first | decide | omega) (by first | decide | omega) (Nat.le_of_ble_eq_true rfl) rfl rfl (Nat.le_of_ble_eq_true rfl) ?_ ?_
  rotate_left
  · rintro E9 w9 h9; exact h9.elim
  rintro v33 w33 ⟨rfl, z33, rfl, g33, k33, i33, j33⟩
  exact ne_iret X hr (by first | rfl | decide | rfl) dX1_orderAgainst_36 ⟨rfl, _, rfl, by omega⟩
