set_option maxRecDepth 100000 in
set_option maxHeartbeats 4000000 in
theorem me_X3_setW (l : Launch) (hl : l.stackTraces = false) (c q t b k h : Nat → Int) (vt T : Int) (hI : mI c q t b k h vt T) (hT : 0 ≤ T ∧ T ≤ 1000000) (i a d : Int) (hi : 0 ≤ i ∧ i < 3) (ha : 0 ≤ a ∧ a < d ∧ d ≤ 99) (hd : d.tmod 2 ≠ 0 ∧ d.tmod 5 ≠ 0) : ne_M l nw_cl (.code yX3_set cX3_set 4 (none)) nw_T yX3_set 0 0 0 0 [.ref 0, ni i, ni a, ni d] (mW c q t b k h vt) (fun v w => v = none ∧ ∃ h1, w = mW c q (va_up t i.toNat a) (va_up b i.toNat d) (va_up k i.toNat 0) h1 vt ∧ mI c q (va_up t i.toNat a) (va_up b i.toNat d) (va_up k i.toNat 0) h1 vt (T + 1) ∧ h1 = va_up h 1 (h 1 + 1)) (fun _ _ => False) := by
  refine ne_meet (own := RX3) hl rfl (by decide +kernel) (Nat.le_of_ble_eq_true rfl) ?_
  intro D ct A P9 V9 R9 S9 M9 as9 bl9 mt9 C9 ad0 X hr hin ht
  obtain ⟨Ic, Iq, It, Ib, Itb, Igb, Ik, Ih, Iv⟩ := hI
  refine ne_aload_n X dX3_set_0 rfl ?_
  refine ne_getf X dX3_set_1 nw_fX3_18 rfl rfl ?_
  refine ne_iload_n X dX3_set_4 rfl ?_
  refine ne_iload_n X dX3_set_5 rfl ?_
  refine ne_iastR X dX3_set_6 rfl (by omega) (ne_rg_mono It (by omega) (by omega)) (a := 0) (b := 98) (by omega) (fun t6 ht6 It => ?_)
  refine ne_ws (ws' := mW c q t6 b k h vt) rfl ?_
  refine ne_aload_n X dX3_set_7 rfl ?_
  refine ne_getf X dX3_set_8 nw_fX3_21 rfl rfl ?_
  refine ne_iload_n X dX3_set_11 rfl ?_
  refine ne_iload_n X dX3_set_12 rfl ?_
  refine ne_iastR X dX3_set_13 rfl (by omega) (ne_rg_mono Ib (by omega) (by omega)) (a := 1) (b := 99) (by omega) (fun b13 hb13 Ib => ?_)
  refine ne_ws (ws' := mW c q t6 b13 k h vt) rfl ?_
  refine ne_aload_n X dX3_set_14 rfl ?_
  refine ne_getf X dX3_set_15 nw_fX3_24 rfl rfl ?_
  refine ne_iload_n X dX3_set_18 rfl ?_
  refine ne_iconst X dX3_set_19 ?_
  refine ne_iastR X dX3_set_20 rfl (by omega) (ne_rg_mono Ik (by omega) (by omega)) (a := 0) (b := 95) (by omega) (fun k20 hk20 Ik => ?_)
  refine ne_ws (ws' := mW c q t6 b13 k20 h vt) rfl ?_
  refine ne_aload_n X dX3_set_21 rfl ?_
  refine ne_getf X dX3_set_22 nw_fX3_27 rfl rfl ?_
  refine ne_iconst X dX3_set_25 ?_
  refine ne_dup2ai X dX3_set_26 ?_
  refine ne_ialdR X dX3_set_27 rfl (by omega) Ih (fun v27 e27 f27 u27 => ?_)
  refine ne_iconst X dX3_set_28 ?_
  refine ne_iadd X dX3_set_29 ?_
  refine ne_iastR X dX3_set_30 rfl (by omega) (ne_rg_mono Ih (by omega) (by omega)) (a := 0) (b := T + 1) (by omega) (fun h30 hh30 Ih => ?_)
  refine ne_ws (ws' := mW c q t6 b13 k20 h30 vt) rfl ?_
  exact ne_vret X hr dX3_set_31 ⟨rfl, _, by rw [ht6, hb13, hk20], (by rw [← ht6, ← hb13, ← hk20]; exact ⟨Ic, Iq, It, Ib, (by intro m; rw [ht6, hb13]; unfold va_up; split; exact ha.2.1; exact Itb m), (by intro m; rw [hb13]; unfold va_up; split; exact hd; exact Igb m), Ik, Ih, Iv⟩), (by rw [hh30, e27]; rfl)⟩
set_option maxRecDepth 100000 in
set_option maxHeartbeats 4000000 in
theorem me_X3_setWheelW (l : Launch) (hl : l.stackTraces = false) (c q t b k h : Nat → Int) (vt T : Int) (hI : mI c q t b k h vt T) (hT : 0 ≤ T ∧ T ≤ 1000) (i : Int) (a : Int) (d : Int) (hi : -2147483648 ≤ i ∧ i < 2147483648) (ha : -2147483648 ≤ a ∧ a < 2147483648) (hd : -2147483648 ≤ d ∧ d < 2147483648) : ne_M l nw_cl (.code yX3_setWheel cX3_setWheel 4 (some .int)) nw_T yX3_setWheel 9 330 0 0 [.ref 0, ni i, ni a, ni d] (mW c q t b k h vt) (fun v w => ∃ t1 b1 k1 h1 v1 z, w = mW c q t1 b1 k1 h1 v1 ∧ mI c q t1 b1 k1 h1 v1 (T + 1) ∧ v = some (ni z) ∧ ((v1 = 1 ∧ (i < 0 ∨ 3 ≤ i) ∧ t1 = t ∧ b1 = b ∧ k1 = k ∧ h1 = h) ∨ (v1 = 2 ∧ (0 ≤ i ∧ i < 3) ∧ (d < 1 ∨ 99 < d ∨ d.tmod 2 = 0 ∨ d.tmod 5 = 0 ∨ a < 0 ∨ d ≤ a) ∧ t1 = t ∧ b1 = b ∧ k1 = k ∧ h1 = h) ∨ (v1 = 0 ∧ ((0 ≤ i ∧ i < 3) ∧ (1 ≤ d ∧ d ≤ 99 ∧ d.tmod 2 ≠ 0 ∧ d.tmod 5 ≠ 0) ∧ (0 ≤ a ∧ a < d)) ∧ t1 = (va_up t i.toNat a) ∧ b1 = (va_up b i.toNat d) ∧ k1 = (va_up k i.toNat 0) ∧ ne_per a d z ∧ h1 = va_up h 1 (h 1 + 1)))) (fun _ _ => False) := by
  refine ne_meet (own := RX3) hl rfl (by decide +kernel) (Nat.le_of_ble_eq_true rfl) ?_
  intro D ct A P9 V9 R9 S9 M9 as9 bl9 mt9 C9 ad0 X hr hin ht
  obtain ⟨Ic, Iq, It, Ib, Itb, Igb, Ik, Ih, Iv⟩ := hI
  refine ne_aload_n X dX3_setWheel_0 rfl ?_
  refine ne_iload_n X dX3_setWheel_1 rfl ?_
  refine ne_callS X nw_Tg (me_X3_isNoWheel l hl _ _ (by omega)) nw_yX3_isNoWheel nw_mX3_104 nw_sX3_isNoWheel dX3_setWheel_2 rfl rfl (by decide) (by decide) (by first | decide | omega) (by first | decide | omega) (Nat.le_of_ble_eq_true rfl) rfl rfl (Nat.le_of_ble_eq_true rfl) ?_ ?_
  rotate_left
  · rintro E9 w9 h9; exact h9.elim
  rintro v2 w2 ⟨rfl, z2, rfl, g2⟩
  refine ne_iload_n X dX3_setWheel_5 rfl ?_
  refine ne_callS X nw_Tg (me_X3_isNoBottom l hl _ _ (by omega)) nw_yX3_isNoBottom nw_mX3_139 nw_sX3_isNoBottom dX3_setWheel_6 rfl rfl (by decide) (by decide) (by first | decide | omega) (by first | decide | omega) (Nat.le_of_ble_eq_true rfl) rfl rfl (Nat.le_of_ble_eq_true rfl) ?_ ?_
  rotate_left
  · rintro E9 w9 h9; exact h9.elim
  rintro v6 w6 ⟨rfl, z6, rfl, g6⟩
  refine ne_if_ne (tgt := 23) X dX3_setWheel_9 rfl (by omega) (fun b9 => ?_) (fun b9 => ?_)
  · refine ne_iconst X dX3_setWheel_23 ?_
    refine ne_goto (tgt := 28) X dX3_setWheel_24 rfl ?_
    refine ne_callV X nw_Tg (me_X3_refuse l hl c q t b k h vt T (by exact ⟨Ic, Iq, It, Ib, Itb, Igb, Ik, Ih, Iv⟩) (by omega) _ _ (by omega) (by omega)) nw_yX3_refuse nw_mX3_72 nw_iX3_refuse nw_eX3_refuse (ci := 5) rfl rfl rfl dX3_setWheel_28 rfl rfl (by decide) (by decide) (by first | decide | omega) (by first | decide | omega) (Nat.le_of_ble_eq_true rfl) rfl rfl (Nat.le_of_ble_eq_true rfl) ?_ ?_
    rotate_left
    · rintro E9 w9 h9; exact h9.elim
    rintro v28 w28 ⟨u28, rfl, Iv, z28, rfl, g28⟩
    refine ne_if_eq (tgt := 36) X dX3_setWheel_31 rfl (by omega) (fun b31 => ?_) (fun b31 => ?_)
    · exfalso; omega
    · refine ne_iconst X dX3_setWheel_34 ?_
      exact ne_iret X hr (by first | rfl | decide | rfl) dX3_setWheel_35 (by rcases g28 with h9 | h9 | h9 <;> first | exact ⟨_, _, _, _, _, _, rfl, ⟨Ic, Iq, It, Ib, Itb, Igb, Ik, ne_rg_mono Ih (by omega) (by omega), Iv⟩, rfl, Or.inl ⟨by omega, by omega, rfl, rfl, rfl, rfl⟩⟩ | exact ⟨_, _, _, _, _, _, rfl, ⟨Ic, Iq, It, Ib, Itb, Igb, Ik, ne_rg_mono Ih (by omega) (by omega), Iv⟩, rfl, Or.inr (Or.inl ⟨by omega, by omega, by omega, rfl, rfl, rfl, rfl⟩)⟩ | (exfalso; omega))
  · refine ne_iload_n X dX3_setWheel_12 rfl ?_
    refine ne_iconst X dX3_setWheel_13 ?_
    refine ne_iload_n X dX3_setWheel_14 rfl ?_
    refine ne_iconst X dX3_setWheel_15 ?_
    refine ne_isub X dX3_setWheel_16 ?_
    refine ne_callS X nw_Tg (me_X3_isOut l hl _ _ _ _ (by omega) (by omega) (by omega)) nw_yX3_isOut nw_mX3_34 nw_sX3_isOut dX3_setWheel_17 rfl rfl (by decide) (by decide) (by first | decide | omega) (by first | decide | omega) (Nat.le_of_ble_eq_true rfl) rfl rfl (Nat.le_of_ble_eq_true rfl) ?_ ?_
    rotate_left
    · rintro E9 w9 h9; exact h9.elim
    rintro v17 w17 ⟨rfl, z17, rfl, g17⟩
    refine ne_if_eq (tgt := 27) X dX3_setWheel_20 rfl (by omega) (fun b20 => ?_) (fun b20 => ?_)
    · refine ne_iconst X dX3_setWheel_27 ?_
      refine ne_callV X nw_Tg (me_X3_refuse l hl c q t b k h vt T (by exact ⟨Ic, Iq, It, Ib, Itb, Igb, Ik, Ih, Iv⟩) (by omega) _ _ (by omega) (by omega)) nw_yX3_refuse nw_mX3_72 nw_iX3_refuse nw_eX3_refuse (ci := 5) rfl rfl rfl dX3_setWheel_28 rfl rfl (by decide) (by decide) (by first | decide | omega) (by first | decide | omega) (Nat.le_of_ble_eq_true rfl) rfl rfl (Nat.le_of_ble_eq_true rfl) ?_ ?_
      rotate_left
      · rintro E9 w9 h9; exact h9.elim
      rintro v28 w28 ⟨u28, rfl, Iv, z28, rfl, g28⟩
      refine ne_if_eq (tgt := 36) X dX3_setWheel_31 rfl (by omega) (fun b31 => ?_) (fun b31 => ?_)
      · refine ne_aload_n X dX3_setWheel_36 rfl ?_
        refine ne_iload_n X dX3_setWheel_37 rfl ?_
        refine ne_iload_n X dX3_setWheel_38 rfl ?_
        refine ne_iload_n X dX3_setWheel_39 rfl ?_
        have hd9 : d.tmod 2 ≠ 0 ∧ d.tmod 5 ≠ 0 := ⟨by omega, by omega⟩
        refine ne_callV X nw_Tg (me_X3_setW l hl c q t b k h u28 T (by exact ⟨Ic, Iq, It, Ib, Itb, Igb, Ik, Ih, Iv⟩) (by omega) _ _ _ (by omega) (by omega) (by assumption)) nw_yX3_set nw_mX3_142 nw_iX3_set nw_eX3_set (ci := 5) rfl rfl rfl dX3_setWheel_40 rfl rfl (by decide) (by decide) (by first | decide | omega) (by first | decide | omega) (Nat.le_of_ble_eq_true rfl) rfl rfl (Nat.le_of_ble_eq_true rfl) ?_ ?_
        rotate_left
        · rintro E9 w9 h9; exact h9.elim
        rintro v40 w40 ⟨rfl, h9s, rfl, hI9, hq9⟩
        obtain ⟨Ic, Iq, It, Ib, Itb, Igb, Ik, Ih, Iv⟩ := hI9
        generalize hts : (va_up t i.toNat a) = ts9 at It Itb ⊢
        generalize hbs : (va_up b i.toNat d) = bs9 at Ib Itb Igb ⊢
        generalize hks : (va_up k i.toNat 0) = ks9 at Ik ⊢
        refine ne_aload_n X dX3_setWheel_43 rfl ?_
        refine ne_iload_n X dX3_setWheel_44 rfl ?_
        refine ne_callV X nw_Tg (me_X3_lengthOf_ l hl c q ts9 bs9 ks9 h9s u28 (T + 1) (by exact ⟨Ic, Iq, It, Ib, Itb, Igb, Ik, Ih, Iv⟩) (by omega) _ (by omega)) nw_yX3_lengthOf_ nw_mX3_146 nw_iX3_lengthOf_ nw_eX3_lengthOf_ (ci := 5) rfl rfl rfl dX3_setWheel_45 rfl rfl (by decide) (by decide) (by first | decide | omega) (by first | decide | omega) (Nat.le_of_ble_eq_true rfl) rfl rfl (Nat.le_of_ble_eq_true rfl) ?_ ?_
        rotate_left
        · rintro E9 w9 h9; exact h9.elim
        rintro v45 w45 ⟨rfl, z45, rfl, P45, g45, k45⟩
        exact ne_iret X hr (by first | rfl | decide | rfl) dX3_setWheel_48 ⟨_, _, _, _, _, _, rfl, ⟨Ic, Iq, It, Ib, Itb, Igb, Ik, ne_rg_mono Ih (by omega) (by omega), Iv⟩, rfl, Or.inr (Or.inr ⟨by omega, ⟨by omega, ⟨by omega, by omega, hd9.1, hd9.2⟩, by omega⟩, (by first | rfl | exact hts.symm), (by first | rfl | exact hbs.symm), (by first | rfl | exact hks.symm), (by rw [← hts, ← hbs, va_up_self, va_up_self] at P45; exact P45), hq9⟩)⟩
      · refine ne_iconst X dX3_setWheel_34 ?_
        exact ne_iret X hr (by first | rfl | decide | rfl) dX3_setWheel_35 (by rcases g28 with h9 | h9 | h9 <;> first | exact ⟨_, _, _, _, _, _, rfl, ⟨Ic, Iq, It, Ib, Itb, Igb, Ik, ne_rg_mono Ih (by omega) (by omega), Iv⟩, rfl, Or.inl ⟨by omega, by omega, rfl, rfl, rfl, rfl⟩⟩ | exact ⟨_, _, _, _, _, _, rfl, ⟨Ic, Iq, It, Ib, Itb, Igb, Ik, ne_rg_mono Ih (by omega) (by omega), Iv⟩, rfl, Or.inr (Or.inl ⟨by omega, by omega, by omega, rfl, rfl, rfl, rfl⟩)⟩ | (exfalso; omega))
    · refine ne_iconst X dX3_setWheel_23 ?_
      refine ne_goto (tgt := 28) X dX3_setWheel_24 rfl ?_
      refine ne_callV X nw_Tg (me_X3_refuse l hl c q t b k h vt T (by exact ⟨Ic, Iq, It, Ib, Itb, Igb, Ik, Ih, Iv⟩) (by omega) _ _ (by omega) (by omega)) nw_yX3_refuse nw_mX3_72 nw_iX3_refuse nw_eX3_refuse (ci := 5) rfl rfl rfl dX3_setWheel_28 rfl rfl (by decide) (by decide) (by first | decide | omega) (by first | decide | omega) (Nat.le_of_ble_eq_true rfl) rfl rfl (Nat.le_of_ble_eq_true rfl) ?_ ?_
      rotate_left
      · rintro E9 w9 h9; exact h9.elim
      rintro v28 w28 ⟨u28, rfl, Iv, z28, rfl, g28⟩
      refine ne_if_eq (tgt := 36) X dX3_setWheel_31 rfl (by omega) (fun b31 => ?_) (fun b31 => ?_)
      · exfalso; omega
      · refine ne_iconst X dX3_setWheel_34 ?_
        exact ne_iret X hr (by first | rfl | decide | rfl) dX3_setWheel_35 (by rcases g28 with h9 | h9 | h9 <;> first | exact ⟨_, _, _, _, _, _, rfl, ⟨Ic, Iq, It, Ib, Itb, Igb, Ik, ne_rg_mono Ih (by omega) (by omega), Iv⟩, rfl, Or.inl ⟨by omega, by omega, rfl, rfl, rfl, rfl⟩⟩ | exact ⟨_, _, _, _, _, _, rfl, ⟨Ic, Iq, It, Ib, Itb, Igb, Ik, ne_rg_mono Ih (by omega) (by omega), Iv⟩, rfl, Or.inr (Or.inl ⟨by omega, by omega, by omega, rfl, rfl, rfl, rfl⟩)⟩ | (exfalso; omega))
set_option maxRecDepth 100000 in
set_option maxHeartbeats 4000000 in
theorem me_X3_stepW (l : Launch) (hl : l.stackTraces = false) (c q t b k h : Nat → Int) (vt T : Int) (hI : mI c q t b k h vt T) (hT : 0 ≤ T ∧ T ≤ 1000) (i : Int) (hi : -2147483648 ≤ i ∧ i < 2147483648) : ne_M l nw_cl (.code yX3_step cX3_step 3 (some .int)) nw_T yX3_step 9 330 0 0 [.ref 0, ni i] (mW c q t b k h vt) (fun v w => ∃ t1 b1 k1 h1 v1 z, w = mW c q t1 b1 k1 h1 v1 ∧ mI c q t1 b1 k1 h1 v1 (T + 1) ∧ v = some (ni z) ∧ t1 = t ∧ b1 = b ∧ ((v1 = 1 ∧ (i < 0 ∨ 3 ≤ i) ∧ k1 = k ∧ h1 = h) ∨ (v1 = 0 ∧ (0 ≤ i ∧ i < 3) ∧ z = (10 * ne_rs (t i.toNat) (b i.toNat) (k i.toNat).toNat).tdiv (b i.toNat) ∧ ∃ L, ne_per (t i.toNat) (b i.toNat) L ∧ k1 = (va_up k i.toNat ((k i.toNat + 1).tmod L)) ∧ h1 = va_up h 1 (h 1 + 1)))) (fun _ _ => False) := by
  refine ne_meet (own := RX3) hl rfl (by decide +kernel) (Nat.le_of_ble_eq_true rfl) ?_
  intro D ct A P9 V9 R9 S9 M9 as9 bl9 mt9 C9 ad0 X hr hin ht
  obtain ⟨Ic, Iq, It, Ib, Itb, Igb, Ik, Ih, Iv⟩ := hI
  refine ne_aload_n X dX3_step_0 rfl ?_
  refine ne_iload_n X dX3_step_1 rfl ?_
  refine ne_callS X nw_Tg (me_X3_isNoWheel l hl _ _ (by omega)) nw_yX3_isNoWheel nw_mX3_104 nw_sX3_isNoWheel dX3_step_2 rfl rfl (by decide) (by decide) (by first | decide | omega) (by first | decide | omega) (Nat.le_of_ble_eq_true rfl) rfl rfl (Nat.le_of_ble_eq_true rfl) ?_ ?_
  rotate_left
  · rintro E9 w9 h9; exact h9.elim
  rintro v2 w2 ⟨rfl, z2, rfl, g2⟩
  refine ne_iconst X dX3_step_5 ?_
  refine ne_callV X nw_Tg (me_X3_refuse l hl c q t b k h vt T (by exact ⟨Ic, Iq, It, Ib, Itb, Igb, Ik, Ih, Iv⟩) (by omega) _ _ (by omega) (by omega)) nw_yX3_refuse nw_mX3_72 nw_iX3_refuse nw_eX3_refuse (ci := 5) rfl rfl rfl dX3_step_6 rfl rfl (by decide) (by decide) (by first | decide | omega) (by first | decide | omega) (Nat.le_of_ble_eq_true rfl) rfl rfl (Nat.le_of_ble_eq_true rfl) ?_ ?_
  rotate_left
  · rintro E9 w9 h9; exact h9.elim
  rintro v6 w6 ⟨u6, rfl, Iv, z6, rfl, g6⟩
  refine ne_if_eq (tgt := 14) X dX3_step_9 rfl (by omega) (fun b9 => ?_) (fun b9 => ?_)
  · have htb9 := Itb i.toNat
    have hb9 := Ib i.toNat
    refine ne_aload_n X dX3_step_14 rfl ?_
    refine ne_getf X dX3_step_15 nw_fX3_18 rfl rfl ?_
    refine ne_iload_n X dX3_step_18 rfl ?_
    refine ne_ialdR X dX3_step_19 rfl (by omega) It (fun v19 e19 f19 u19 => ?_)
    refine ne_aload_n X dX3_step_20 rfl ?_
    refine ne_getf X dX3_step_21 nw_fX3_21 rfl rfl ?_
    refine ne_iload_n X dX3_step_24 rfl ?_
    refine ne_ialdR X dX3_step_25 rfl (by omega) Ib (fun v25 e25 f25 u25 => ?_)
    refine ne_aload_n X dX3_step_26 rfl ?_
    refine ne_getf X dX3_step_27 nw_fX3_24 rfl rfl ?_
    refine ne_iload_n X dX3_step_30 rfl ?_
    refine ne_ialdR X dX3_step_31 rfl (by omega) Ik (fun v31 e31 f31 u31 => ?_)
    refine ne_callS X nw_Tg (me_X3_restOf l hl _ _ _ _ (by omega) (by omega) (by omega) (by omega)) nw_yX3_restOf nw_mX3_149 nw_sX3_restOf dX3_step_32 rfl rfl (by decide) (by decide) (by first | decide | omega) (by first | decide | omega) (Nat.le_of_ble_eq_true rfl) rfl rfl (Nat.le_of_ble_eq_true rfl) ?_ ?_
    rotate_left
    · rintro E9 w9 h9; exact h9.elim
    rintro v32 w32 ⟨rfl, z32, rfl, g32, k32, i32⟩
    refine ne_istore_n X dX3_step_35 rfl (by decide) ?_
    refine ne_aload_n X dX3_step_36 rfl ?_
    refine ne_getf X dX3_step_37 nw_fX3_24 rfl rfl ?_
    refine ne_iload_n X dX3_step_40 rfl ?_
    refine ne_aload_n X dX3_step_41 rfl ?_
    refine ne_getf X dX3_step_42 nw_fX3_24 rfl rfl ?_
    refine ne_iload_n X dX3_step_45 rfl ?_
    refine ne_ialdR X dX3_step_46 rfl (by omega) Ik (fun v46 e46 f46 u46 => ?_)
    refine ne_iconst X dX3_step_47 ?_
    refine ne_iadd X dX3_step_48 ?_
    refine ne_aload_n X dX3_step_49 rfl ?_
    refine ne_iload_n X dX3_step_50 rfl ?_
    refine ne_callV X nw_Tg (me_X3_lengthOf_ l hl c q t b k h u6 T (by exact ⟨Ic, Iq, It, Ib, Itb, Igb, Ik, Ih, Iv⟩) (by omega) _ (by omega)) nw_yX3_lengthOf_ nw_mX3_146 nw_iX3_lengthOf_ nw_eX3_lengthOf_ (ci := 5) rfl rfl rfl dX3_step_51 rfl rfl (by decide) (by decide) (by first | decide | omega) (by first | decide | omega) (Nat.le_of_ble_eq_true rfl) rfl rfl (Nat.le_of_ble_eq_true rfl) ?_ ?_
    rotate_left
    · rintro E9 w9 h9; exact h9.elim
    rintro v51 w51 ⟨rfl, z51, rfl, P51, g51, k51⟩
    have t51 := (ne_tdm (v46 + 1) z51 (by omega)).1 (by omega)
    refine ne_irem X dX3_step_54 (by omega) (by omega) (by omega) ?_
    refine ne_iastR X dX3_step_55 rfl (by omega) (ne_rg_mono Ik (by omega) (by omega)) (a := 0) (b := 95) (by omega) (fun k55 hk55 Ik => ?_)
    refine ne_ws (ws' := mW c q t b k55 h u6) rfl ?_
    refine ne_aload_n X dX3_step_56 rfl ?_
    refine ne_getf X dX3_step_57 nw_fX3_27 rfl rfl ?_
    refine ne_iconst X dX3_step_60 ?_
    refine ne_dup2ai X dX3_step_61 ?_
    refine ne_ialdR X dX3_step_62 rfl (by omega) Ih (fun v62 e62 f62 u62 => ?_)
    refine ne_iconst X dX3_step_63 ?_
    refine ne_iadd X dX3_step_64 ?_
    refine ne_iastR X dX3_step_65 rfl (by omega) (ne_rg_mono Ih (by omega) (by omega)) (a := 0) (b := T + 1) (by omega) (fun h65 hh65 Ih => ?_)
    refine ne_ws (ws' := mW c q t b k55 h65 u6) rfl ?_
    refine ne_bipush (v := 10) (by decide) X dX3_step_66 ?_
    refine ne_iload_n X dX3_step_68 rfl ?_
    refine ne_imul X dX3_step_69 ?_
    refine ne_aload_n X dX3_step_70 rfl ?_
    refine ne_getf X dX3_step_71 nw_fX3_21 rfl rfl ?_
    refine ne_iload_n X dX3_step_74 rfl ?_
    refine ne_ialdR X dX3_step_75 rfl (by omega) Ib (fun v75 e75 f75 u75 => ?_)
    have hb8 := Ib i.toNat
    refine ne_idiv X dX3_step_76 (by omega) (by omega) (by omega) ?_
    exact ne_iret X hr (by first | rfl | decide | rfl) dX3_step_77 ⟨_, _, _, _, _, _, rfl, ⟨Ic, Iq, It, Ib, Itb, Igb, Ik, ne_rg_mono Ih (by omega) (by omega), Iv⟩, rfl, rfl, rfl, Or.inr ⟨by omega, by omega, (by rw [g32, e75, e19, e25, e31]), z51, P51, (by rw [hk55, e46]), (by rw [hh65, e62]; rfl)⟩⟩
  · refine ne_iconst X dX3_step_12 ?_
    exact ne_iret X hr (by first | rfl | decide | rfl) dX3_step_13 ⟨_, _, _, _, _, _, rfl, ⟨Ic, Iq, It, Ib, Itb, Igb, Ik, ne_rg_mono Ih (by omega) (by omega), Iv⟩, rfl, rfl, rfl, Or.inl ⟨by omega, by omega, rfl, rfl⟩⟩
set_option maxRecDepth 100000 in
set_option maxHeartbeats 4000000 in
theorem me_X3_turnW (l : Launch) (hl : l.stackTraces = false) (c q t b k h : Nat → Int) (vt T : Int) (hI : mI c q t b k h vt T) (hT : 0 ≤ T ∧ T ≤ 1000) (i : Int) (a : Int) (hi : -2147483648 ≤ i ∧ i < 2147483648) (ha : -2147483648 ≤ a ∧ a < 2147483648) : ne_M l nw_cl (.code yX3_turn cX3_turn 3 (some .int)) nw_T yX3_turn 9 330 0 0 [.ref 0, ni i, ni a] (mW c q t b k h vt) (fun v w => ∃ t1 b1 k1 h1 v1 z, w = mW c q t1 b1 k1 h1 v1 ∧ mI c q t1 b1 k1 h1 v1 (T + 1) ∧ v = some (ni z) ∧ t1 = t ∧ b1 = b ∧ ((v1 = 1 ∧ (i < 0 ∨ 3 ≤ i) ∧ k1 = k ∧ h1 = h) ∨ (v1 = 2 ∧ (0 ≤ i ∧ i < 3) ∧ (a < 0 ∨ 200 < a) ∧ k1 = k ∧ h1 = h) ∨ (v1 = 0 ∧ (0 ≤ i ∧ i < 3) ∧ (0 ≤ a ∧ a ≤ 200) ∧ ∃ L, ne_per (t i.toNat) (b i.toNat) L ∧ k1 = (va_up k i.toNat ((k i.toNat + a).tmod L)) ∧ z = ne_rs (t i.toNat) (b i.toNat) ((k i.toNat + a).tmod L).toNat ∧ h1 = va_up h 1 (h 1 + 1)))) (fun _ _ => False) := by
  refine ne_meet (own := RX3) hl rfl (by decide +kernel) (Nat.le_of_ble_eq_true rfl) ?_
  intro D ct A P9 V9 R9 S9 M9 as9 bl9 mt9 C9 ad0 X hr hin ht
  obtain ⟨Ic, Iq, It, Ib, Itb, Igb, Ik, Ih, Iv⟩ := hI
  refine ne_aload_n X dX3_turn_0 rfl ?_
  refine ne_iload_n X dX3_turn_1 rfl ?_
  refine ne_callS X nw_Tg (me_X3_isNoWheel l hl _ _ (by omega)) nw_yX3_isNoWheel nw_mX3_104 nw_sX3_isNoWheel dX3_turn_2 rfl rfl (by decide) (by decide) (by first | decide | omega) (by first | decide | omega) (Nat.le_of_ble_eq_true rfl) rfl rfl (Nat.le_of_ble_eq_true rfl) ?_ ?_
  rotate_left
  · rintro E9 w9 h9; exact h9.elim
  rintro v2 w2 ⟨rfl, z2, rfl, g2⟩
  refine ne_iload_n X dX3_turn_5 rfl ?_
  refine ne_iconst X dX3_turn_6 ?_
  refine ne_sipush (v := 200) (by decide) X dX3_turn_7 ?_
  refine ne_callS X nw_Tg (me_X3_isOut l hl _ _ _ _ (by omega) (by omega) (by omega)) nw_yX3_isOut nw_mX3_34 nw_sX3_isOut dX3_turn_10 rfl rfl (by decide) (by decide) (by first | decide | omega) (by first | decide | omega) (Nat.le_of_ble_eq_true rfl) rfl rfl (Nat.le_of_ble_eq_true rfl) ?_ ?_
  rotate_left
  · rintro E9 w9 h9; exact h9.elim
  rintro v10 w10 ⟨rfl, z10, rfl, g10⟩
  refine ne_callV X nw_Tg (me_X3_refuse l hl c q t b k h vt T (by exact ⟨Ic, Iq, It, Ib, Itb, Igb, Ik, Ih, Iv⟩) (by omega) _ _ (by omega) (by omega)) nw_yX3_refuse nw_mX3_72 nw_iX3_refuse nw_eX3_refuse (ci := 5) rfl rfl rfl dX3_turn_13 rfl rfl (by decide) (by decide) (by first | decide | omega) (by first | decide | omega) (Nat.le_of_ble_eq_true rfl) rfl rfl (Nat.le_of_ble_eq_true rfl) ?_ ?_
  rotate_left
  · rintro E9 w9 h9; exact h9.elim
  rintro v13 w13 ⟨u13, rfl, Iv, z13, rfl, g13⟩
  refine ne_if_eq (tgt := 21) X dX3_turn_16 rfl (by omega) (fun b16 => ?_) (fun b16 => ?_)
  · have htb9 := Itb i.toNat
    have hb9 := Ib i.toNat
    refine ne_aload_n X dX3_turn_21 rfl ?_
    refine ne_getf X dX3_turn_22 nw_fX3_24 rfl rfl ?_
    refine ne_iload_n X dX3_turn_25 rfl ?_
    refine ne_aload_n X dX3_turn_26 rfl ?_
    refine ne_getf X dX3_turn_27 nw_fX3_24 rfl rfl ?_
    refine ne_iload_n X dX3_turn_30 rfl ?_
    refine ne_ialdR X dX3_turn_31 rfl (by omega) Ik (fun v31 e31 f31 u31 => ?_)
    refine ne_iload_n X dX3_turn_32 rfl ?_
    refine ne_iadd X dX3_turn_33 ?_
    refine ne_aload_n X dX3_turn_34 rfl ?_
    refine ne_iload_n X dX3_turn_35 rfl ?_
    refine ne_callV X nw_Tg (me_X3_lengthOf_ l hl c q t b k h u13 T (by exact ⟨Ic, Iq, It, Ib, Itb, Igb, Ik, Ih, Iv⟩) (by omega) _ (by omega)) nw_yX3_lengthOf_ nw_mX3_146 nw_iX3_lengthOf_ nw_eX3_lengthOf_ (ci := 5) rfl rfl rfl dX3_turn_36 rfl rfl (by decide) (by decide) (by first | decide | omega) (by first | decide | omega) (Nat.le_of_ble_eq_true rfl) rfl rfl (Nat.le_of_ble_eq_true rfl) ?_ ?_
    rotate_left
    · rintro E9 w9 h9; exact h9.elim
    rintro v36 w36 ⟨rfl, z36, rfl, P36, g36, k36⟩
    have t36 := (ne_tdm (v31 + a) z36 (by omega)).1 (by omega)
    refine ne_irem X dX3_turn_39 (by omega) (by omega) (by omega) ?_
    refine ne_iastR X dX3_turn_40 rfl (by omega) (ne_rg_mono Ik (by omega) (by omega)) (a := 0) (b := 95) (by omega) (fun k40 hk40 Ik => ?_)
    refine ne_ws (ws' := mW c q t b k40 h u13) rfl ?_
    refine ne_aload_n X dX3_turn_41 rfl ?_
    refine ne_getf X dX3_turn_42 nw_fX3_27 rfl rfl ?_
    refine ne_iconst X dX3_turn_45 ?_
    refine ne_dup2ai X dX3_turn_46 ?_
    refine ne_ialdR X dX3_turn_47 rfl (by omega) Ih (fun v47 e47 f47 u47 => ?_)
    refine ne_iconst X dX3_turn_48 ?_
    refine ne_iadd X dX3_turn_49 ?_
    refine ne_iastR X dX3_turn_50 rfl (by omega) (ne_rg_mono Ih (by omega) (by omega)) (a := 0) (b := T + 1) (by omega) (fun h50 hh50 Ih => ?_)
    refine ne_ws (ws' := mW c q t b k40 h50 u13) rfl ?_
    refine ne_aload_n X dX3_turn_51 rfl ?_
    refine ne_getf X dX3_turn_52 nw_fX3_18 rfl rfl ?_
    refine ne_iload_n X dX3_turn_55 rfl ?_
    refine ne_ialdR X dX3_turn_56 rfl (by omega) It (fun v56 e56 f56 u56 => ?_)
    refine ne_aload_n X dX3_turn_57 rfl ?_
    refine ne_getf X dX3_turn_58 nw_fX3_21 rfl rfl ?_
    refine ne_iload_n X dX3_turn_61 rfl ?_
    refine ne_ialdR X dX3_turn_62 rfl (by omega) Ib (fun v62 e62 f62 u62 => ?_)
    refine ne_aload_n X dX3_turn_63 rfl ?_
    refine ne_getf X dX3_turn_64 nw_fX3_24 rfl rfl ?_
    refine ne_iload_n X dX3_turn_67 rfl ?_
    refine ne_ialdR X dX3_turn_68 rfl (by omega) Ik (fun v68 e68 f68 u68 => ?_)
    refine ne_callS X nw_Tg (me_X3_restOf l hl _ _ _ _ (by omega) (by omega) (by omega) (by omega)) nw_yX3_restOf nw_mX3_149 nw_sX3_restOf dX3_turn_69 rfl rfl (by decide) (by decide) (by first | decide | omega) (by first | decide | omega) (Nat.le_of_ble_eq_true rfl) rfl rfl (Nat.le_of_ble_eq_true rfl) ?_ ?_
    rotate_left
    · rintro E9 w9 h9; exact h9.elim
    rintro v69 w69 ⟨rfl, z69, rfl, g69, k69, i69⟩
    exact ne_iret X hr (by first | rfl | decide | rfl) dX3_turn_72 ⟨_, _, _, _, _, _, rfl, ⟨Ic, Iq, It, Ib, Itb, Igb, Ik, ne_rg_mono Ih (by omega) (by omega), Iv⟩, rfl, rfl, rfl, Or.inr (Or.inr ⟨by omega, by omega, by omega, z36, P36, (by rw [hk40, e31]), (by rw [g69, e56, e62, e68, hk40, va_up_self, e31]), (by rw [hh50, e47]; rfl)⟩)⟩
  · refine ne_iconst X dX3_turn_19 ?_
    exact ne_iret X hr (by first | rfl | decide | rfl) dX3_turn_20 (by rcases g13 with h9 | h9 | h9 <;> first | exact ⟨_, _, _, _, _, _, rfl, ⟨Ic, Iq, It, Ib, Itb, Igb, Ik, ne_rg_mono Ih (by omega) (by omega), Iv⟩, rfl, rfl, rfl, Or.inl ⟨by omega, by omega, rfl, rfl⟩⟩ | exact ⟨_, _, _, _, _, _, rfl, ⟨Ic, Iq, It, Ib, Itb, Igb, Ik, ne_rg_mono Ih (by omega) (by omega), Iv⟩, rfl, rfl, rfl, Or.inr (Or.inl ⟨by omega, by omega, by omega, rfl, rfl⟩)⟩ | (exfalso; omega))
set_option maxRecDepth 100000 in
set_option maxHeartbeats 4000000 in
theorem me_X3_timesW (l : Launch) (hl : l.stackTraces = false) (c q t b k h : Nat → Int) (vt T : Int) (hI : mI c q t b k h vt T) (hT : 0 ≤ T ∧ T ≤ 1000) (i : Int) (a : Int) (o : Int) (hi : -2147483648 ≤ i ∧ i < 2147483648) (ha : -2147483648 ≤ a ∧ a < 2147483648) (ho : -2147483648 ≤ o ∧ o < 2147483648) : ne_M l nw_cl (.code yX3_times cX3_times 4 (some .int)) nw_T yX3_times 9 330 0 0 [.ref 0, ni i, ni a, ni o] (mW c q t b k h vt) (fun v w => ∃ t1 b1 k1 h1 v1 z, w = mW c q t1 b1 k1 h1 v1 ∧ mI c q t1 b1 k1 h1 v1 (T + 1) ∧ v = some (ni z) ∧ ((v1 = 1 ∧ (i < 0 ∨ 3 ≤ i ∨ o < 0 ∨ 3 ≤ o) ∧ t1 = t ∧ b1 = b ∧ k1 = k ∧ h1 = h) ∨ (v1 = 2 ∧ ((0 ≤ i ∧ i < 3) ∧ 0 ≤ o ∧ o < 3) ∧ (a < 0 ∨ 99 < a) ∧ t1 = t ∧ b1 = b ∧ k1 = k ∧ h1 = h) ∨ (v1 = 0 ∧ ((0 ≤ i ∧ i < 3) ∧ 0 ≤ o ∧ o < 3 ∧ 0 ≤ a ∧ a ≤ 99) ∧ t1 = (va_up t o.toNat ((a * t i.toNat).tmod (b i.toNat))) ∧ b1 = (va_up b o.toNat (b i.toNat)) ∧ k1 = (va_up k o.toNat 0) ∧ z = ((a * t i.toNat).tmod (b i.toNat)) ∧ h1 = va_up h 1 (h 1 + 1)))) (fun _ _ => False) := by
  refine ne_meet (own := RX3) hl rfl (by decide +kernel) (Nat.le_of_ble_eq_true rfl) ?_
  intro D ct A P9 V9 R9 S9 M9 as9 bl9 mt9 C9 ad0 X hr hin ht
  obtain ⟨Ic, Iq, It, Ib, Itb, Igb, Ik, Ih, Iv⟩ := hI
  refine ne_aload_n X dX3_times_0 rfl ?_
  refine ne_iload_n X dX3_times_1 rfl ?_
  refine ne_callS X nw_Tg (me_X3_isNoWheel l hl _ _ (by omega)) nw_yX3_isNoWheel nw_mX3_104 nw_sX3_isNoWheel dX3_times_2 rfl rfl (by decide) (by decide) (by first | decide | omega) (by first | decide | omega) (Nat.le_of_ble_eq_true rfl) rfl rfl (Nat.le_of_ble_eq_true rfl) ?_ ?_
  rotate_left
  · rintro E9 w9 h9; exact h9.elim
  rintro v2 w2 ⟨rfl, z2, rfl, g2⟩
  refine ne_if_ne (tgt := 15) X dX3_times_5 rfl (by omega) (fun b5 => ?_) (fun b5 => ?_)
  · refine ne_iconst X dX3_times_15 ?_
    refine ne_goto (tgt := 20) X dX3_times_16 rfl ?_
    refine ne_iload_n X dX3_times_20 rfl ?_
    refine ne_iconst X dX3_times_21 ?_
    refine ne_bipush (v := 99) (by decide) X dX3_times_22 ?_
    refine ne_callS X nw_Tg (me_X3_isOut l hl _ _ _ _ (by omega) (by omega) (by omega)) nw_yX3_isOut nw_mX3_34 nw_sX3_isOut dX3_times_24 rfl rfl (by decide) (by decide) (by first | decide | omega) (by first | decide | omega) (Nat.le_of_ble_eq_true rfl) rfl rfl (Nat.le_of_ble_eq_true rfl) ?_ ?_
    rotate_left
    · rintro E9 w9 h9; exact h9.elim
    rintro v24 w24 ⟨rfl, z24, rfl, g24⟩
    refine ne_callV X nw_Tg (me_X3_refuse l hl c q t b k h vt T (by exact ⟨Ic, Iq, It, Ib, Itb, Igb, Ik, Ih, Iv⟩) (by omega) _ _ (by omega) (by omega)) nw_yX3_refuse nw_mX3_72 nw_iX3_refuse nw_eX3_refuse (ci := 5) rfl rfl rfl dX3_times_27 rfl rfl (by decide) (by decide) (by first | decide | omega) (by first | decide | omega) (Nat.le_of_ble_eq_true rfl) rfl rfl (Nat.le_of_ble_eq_true rfl) ?_ ?_
    rotate_left
    · rintro E9 w9 h9; exact h9.elim
    rintro v27 w27 ⟨u27, rfl, Iv, z27, rfl, g27⟩
    refine ne_if_eq (tgt := 35) X dX3_times_30 rfl (by omega) (fun b30 => ?_) (fun b30 => ?_)
    · exfalso; omega
    · refine ne_iconst X dX3_times_33 ?_
      exact ne_iret X hr (by first | rfl | decide | rfl) dX3_times_34 (by rcases g27 with h9 | h9 | h9 <;> first | exact ⟨_, _, _, _, _, _, rfl, ⟨Ic, Iq, It, Ib, Itb, Igb, Ik, ne_rg_mono Ih (by omega) (by omega), Iv⟩, rfl, Or.inl ⟨by omega, by omega, rfl, rfl, rfl, rfl⟩⟩ | exact ⟨_, _, _, _, _, _, rfl, ⟨Ic, Iq, It, Ib, Itb, Igb, Ik, ne_rg_mono Ih (by omega) (by omega), Iv⟩, rfl, Or.inr (Or.inl ⟨by omega, by omega, by omega, rfl, rfl, rfl, rfl⟩)⟩ | (exfalso; omega))
  · refine ne_iload_n X dX3_times_8 rfl ?_
    refine ne_callS X nw_Tg (me_X3_isNoWheel l hl _ _ (by omega)) nw_yX3_isNoWheel nw_mX3_104 nw_sX3_isNoWheel dX3_times_9 rfl rfl (by decide) (by decide) (by first | decide | omega) (by first | decide | omega) (Nat.le_of_ble_eq_true rfl) rfl rfl (Nat.le_of_ble_eq_true rfl) ?_ ?_
    rotate_left
    · rintro E9 w9 h9; exact h9.elim
    rintro v9 w9 ⟨rfl, z9, rfl, g9⟩
    refine ne_if_eq (tgt := 19) X dX3_times_12 rfl (by omega) (fun b12 => ?_) (fun b12 => ?_)
    · refine ne_iconst X dX3_times_19 ?_
      refine ne_iload_n X dX3_times_20 rfl ?_
      refine ne_iconst X dX3_times_21 ?_
      refine ne_bipush (v := 99) (by decide) X dX3_times_22 ?_
      refine ne_callS X nw_Tg (me_X3_isOut l hl _ _ _ _ (by omega) (by omega) (by omega)) nw_yX3_isOut nw_mX3_34 nw_sX3_isOut dX3_times_24 rfl rfl (by decide) (by decide) (by first | decide | omega) (by first | decide | omega) (Nat.le_of_ble_eq_true rfl) rfl rfl (Nat.le_of_ble_eq_true rfl) ?_ ?_
      rotate_left
      · rintro E9 w9 h9; exact h9.elim
      rintro v24 w24 ⟨rfl, z24, rfl, g24⟩
      refine ne_callV X nw_Tg (me_X3_refuse l hl c q t b k h vt T (by exact ⟨Ic, Iq, It, Ib, Itb, Igb, Ik, Ih, Iv⟩) (by omega) _ _ (by omega) (by omega)) nw_yX3_refuse nw_mX3_72 nw_iX3_refuse nw_eX3_refuse (ci := 5) rfl rfl rfl dX3_times_27 rfl rfl (by decide) (by decide) (by first | decide | omega) (by first | decide | omega) (Nat.le_of_ble_eq_true rfl) rfl rfl (Nat.le_of_ble_eq_true rfl) ?_ ?_
      rotate_left
      · rintro E9 w9 h9; exact h9.elim
      rintro v27 w27 ⟨u27, rfl, Iv, z27, rfl, g27⟩
      refine ne_if_eq (tgt := 35) X dX3_times_30 rfl (by omega) (fun b30 => ?_) (fun b30 => ?_)
      · refine ne_aload_n X dX3_times_35 rfl ?_
        refine ne_iload_n X dX3_times_36 rfl ?_
        refine ne_iload_n X dX3_times_37 rfl ?_
        refine ne_aload_n X dX3_times_38 rfl ?_
        refine ne_getf X dX3_times_39 nw_fX3_18 rfl rfl ?_
        refine ne_iload_n X dX3_times_42 rfl ?_
        refine ne_ialdR X dX3_times_43 rfl (by omega) It (fun v43 e43 f43 u43 => ?_)
        have m44 := ne_mul a v43 99 98 (by omega) (by omega)
        have m45 : 0 ≤ a * v43 := Int.mul_nonneg (by omega) (by omega)
        refine ne_imul X dX3_times_44 ?_
        refine ne_aload_n X dX3_times_45 rfl ?_
        refine ne_getf X dX3_times_46 nw_fX3_21 rfl rfl ?_
        refine ne_iload_n X dX3_times_49 rfl ?_
        refine ne_ialdR X dX3_times_50 rfl (by omega) Ib (fun v50 e50 f50 u50 => ?_)
        have t51 := (ne_tdm (a * v43) v50 (by omega)).1 m45
        refine ne_irem X dX3_times_51 (by omega) (by omega) (by omega) ?_
        refine ne_aload_n X dX3_times_52 rfl ?_
        refine ne_getf X dX3_times_53 nw_fX3_21 rfl rfl ?_
        refine ne_iload_n X dX3_times_56 rfl ?_
        refine ne_ialdR X dX3_times_57 rfl (by omega) Ib (fun v57 e57 f57 u57 => ?_)
        have hgb9 := Igb i.toNat
        subst e43
        subst e50
        subst e57
        refine ne_callV X nw_Tg (me_X3_setW l hl c q t b k h u27 T (by exact ⟨Ic, Iq, It, Ib, Itb, Igb, Ik, Ih, Iv⟩) (by omega) _ _ _ (by omega) (by omega) (by assumption)) nw_yX3_set nw_mX3_142 nw_iX3_set nw_eX3_set (ci := 5) rfl rfl rfl dX3_times_58 rfl rfl (by decide) (by decide) (by first | decide | omega) (by first | decide | omega) (Nat.le_of_ble_eq_true rfl) rfl rfl (Nat.le_of_ble_eq_true rfl) ?_ ?_
        rotate_left
        · rintro E9 w9 h9; exact h9.elim
        rintro v58 w58 ⟨rfl, h9s, rfl, hI9, hq9⟩
        obtain ⟨Ic, Iq, It, Ib, Itb, Igb, Ik, Ih, Iv⟩ := hI9
        generalize hts : (va_up t o.toNat ((a * t i.toNat).tmod (b i.toNat))) = ts9 at It Itb ⊢
        generalize hbs : (va_up b o.toNat (b i.toNat)) = bs9 at Ib Itb Igb ⊢
        generalize hks : (va_up k o.toNat 0) = ks9 at Ik ⊢
        refine ne_aload_n X dX3_times_61 rfl ?_
        refine ne_getf X dX3_times_62 nw_fX3_18 rfl rfl ?_
        refine ne_iload_n X dX3_times_65 rfl ?_
        refine ne_ialdR X dX3_times_66 rfl (by omega) It (fun v66 e66 f66 u66 => ?_)
        exact ne_iret X hr (by first | rfl | decide | rfl) dX3_times_67 ⟨_, _, _, _, _, _, rfl, ⟨Ic, Iq, It, Ib, Itb, Igb, Ik, ne_rg_mono Ih (by omega) (by omega), Iv⟩, rfl, Or.inr (Or.inr ⟨by omega, by omega, (by first | rfl | exact hts.symm), (by first | rfl | exact hbs.symm), (by first | rfl | exact hks.symm), (by rw [e66, ← hts, va_up_self]), hq9⟩)⟩
      · refine ne_iconst X dX3_times_33 ?_
        exact ne_iret X hr (by first | rfl | decide | rfl) dX3_times_34 (by rcases g27 with h9 | h9 | h9 <;> first | exact ⟨_, _, _, _, _, _, rfl, ⟨Ic, Iq, It, Ib, Itb, Igb, Ik, ne_rg_mono Ih (by omega) (by omega), Iv⟩, rfl, Or.inl ⟨by omega, by omega, rfl, rfl, rfl, rfl⟩⟩ | exact ⟨_, _, _, _, _, _, rfl, ⟨Ic, Iq, It, Ib, Itb, Igb, Ik, ne_rg_mono Ih (by omega) (by omega), Iv⟩, rfl, Or.inr (Or.inl ⟨by omega, by omega, by omega, rfl, rfl, rfl, rfl⟩)⟩ | (exfalso; omega))
    · refine ne_iconst X dX3_times_15 ?_
      refine ne_goto (tgt := 20) X dX3_times_16 rfl ?_
      refine ne_iload_n X dX3_times_20 rfl ?_
      refine ne_iconst X dX3_times_21 ?_
      refine ne_bipush (v := 99) (by decide) X dX3_times_22 ?_
      refine ne_callS X nw_Tg (me_X3_isOut l hl _ _ _ _ (by omega) (by omega) (by omega)) nw_yX3_isOut nw_mX3_34 nw_sX3_isOut dX3_times_24 rfl rfl (by decide) (by decide) (by first | decide | omega) (by first | decide | omega) (Nat.le_of_ble_eq_true rfl) rfl rfl (Nat.le_of_ble_eq_true rfl) ?_ ?_
      rotate_left
      · rintro E9 w9 h9; exact h9.elim
      rintro v24 w24 ⟨rfl, z24, rfl, g24⟩
      refine ne_callV X nw_Tg (me_X3_refuse l hl c q t b k h vt T (by exact ⟨Ic, Iq, It, Ib, Itb, Igb, Ik, Ih, Iv⟩) (by omega) _ _ (by omega) (by omega)) nw_yX3_refuse nw_mX3_72 nw_iX3_refuse nw_eX3_refuse (ci := 5) rfl rfl rfl dX3_times_27 rfl rfl (by decide) (by decide) (by first | decide | omega) (by first | decide | omega) (Nat.le_of_ble_eq_true rfl) rfl rfl (Nat.le_of_ble_eq_true rfl) ?_ ?_
      rotate_left
      · rintro E9 w9 h9; exact h9.elim
      rintro v27 w27 ⟨u27, rfl, Iv, z27, rfl, g27⟩
      refine ne_if_eq (tgt := 35) X dX3_times_30 rfl (by omega) (fun b30 => ?_) (fun b30 => ?_)
      · exfalso; omega
      · refine ne_iconst X dX3_times_33 ?_
        exact ne_iret X hr (by first | rfl | decide | rfl) dX3_times_34 (by rcases g27 with h9 | h9 | h9 <;> first | exact ⟨_, _, _, _, _, _, rfl, ⟨Ic, Iq, It, Ib, Itb, Igb, Ik, ne_rg_mono Ih (by omega) (by omega), Iv⟩, rfl, Or.inl ⟨by omega, by omega, rfl, rfl, rfl, rfl⟩⟩ | exact ⟨_, _, _, _, _, _, rfl, ⟨Ic, Iq, It, Ib, Itb, Igb, Ik, ne_rg_mono Ih (by omega) (by omega), Iv⟩, rfl, Or.inr (Or.inl ⟨by omega, by omega, by omega, rfl, rfl, rfl, rfl⟩)⟩ | (exfalso; omega))
