theorem ne_tmE (x a y : Int) : x.tmod (a * y) = x - a * x.tdiv (a * y) * y := by
  rw [Int.tmod_def]
  congr 1
  ac_rfl
theorem ne_p1000 {q : Int} (h : 0 ≤ q ∧ q ≤ 3) : (10 : Int) ^ (3 - q).toNat * 10 ^ q.toNat = 1000 := by
  rw [← Int.pow_add, show (3 - q).toNat + q.toNat = 3 by omega]
  rfl
theorem ne_dvE (x y s t r : Int) (ht : 0 ≤ t ∧ t ≤ 3) (hs : 0 ≤ s ∧ s ≤ 3) : (x * 10 ^ (3 - s).toNat * r) * (y * 10 ^ s.toNat) = (x * 10 ^ t.toNat * r) * (y * 10 ^ (3 - t).toNat) := by
  have e1 := ne_p1000 hs
  have e2 := ne_p1000 ht
  have a1 : (x * 10 ^ (3 - s).toNat * r) * (y * 10 ^ s.toNat) = (x * y * r) * (10 ^ (3 - s).toNat * 10 ^ s.toNat) := by ac_rfl
  have a2 : (x * 10 ^ t.toNat * r) * (y * 10 ^ (3 - t).toNat) = (x * y * r) * (10 ^ (3 - t).toNat * 10 ^ t.toNat) := by ac_rfl
  rw [a1, a2, e1, e2]
theorem ne_strE {x s j : Int} (hj : 0 < j ∧ j ≤ s) (h : x.tmod (10 ^ (s - j).toNat) = 0) (h2 : x.tmod (10 ^ (s - (j - 1)).toNat) ≠ 0) : (x.tdiv (10 ^ (s - j).toNat)).tmod 10 ≠ 0 := by
  intro h3
  apply h2
  have e1 := Int.tdiv_mul_cancel_of_tmod_eq_zero h
  have e2 := Int.tdiv_mul_cancel_of_tmod_eq_zero h3
  rw [show (s - (j - 1)).toNat = (s - j).toNat + 1 by omega, Int.pow_succ, ← e1, ← e2, Int.mul_assoc, Int.mul_comm 10]
  exact Int.mul_tmod_left _ _
set_option maxRecDepth 100000 in
set_option maxHeartbeats 4000000 in
theorem me_X3_putW (l : Launch) (hl : l.stackTraces = false) (c q t b k h : Nat → Int) (vt T : Int) (hI : mI c q t b k h vt T) (hT : 0 ≤ T ∧ T ≤ 1000) (i : Int) (a : Int) (p : Int) (hi : -2147483648 ≤ i ∧ i < 2147483648) (ha : -2147483648 ≤ a ∧ a < 2147483648) (hp : -2147483648 ≤ p ∧ p < 2147483648) : ne_M l nw_cl (.code yX3_put cX3_put 4 (some .int)) nw_T yX3_put 9 330 0 0 [.ref 0, ni i, ni a, ni p] (mW c q t b k h vt) (fun v w => ∃ c1 q1 h1 v1 z, w = mW c1 q1 t b k h1 v1 ∧ mI c1 q1 t b k h1 v1 (T + 1) ∧ v = some (ni z) ∧ ((v1 = 1 ∧ (i < 0 ∨ 4 ≤ i) ∧ c1 = c ∧ q1 = q ∧ h1 = h) ∨ (v1 = 2 ∧ ((0 ≤ i ∧ i < 4) ∧ (a < -999999 ∨ 999999 < a ∨ p < 0 ∨ 3 < p)) ∧ c1 = c ∧ q1 = q ∧ h1 = h) ∨ (v1 = 0 ∧ ((0 ≤ i ∧ i < 4) ∧ -999999 ≤ a ∧ a ≤ 999999 ∧ 0 ≤ p ∧ p ≤ 3) ∧ ne_come c q h i a p c1 q1 h1 z))) (fun _ _ => False) := by
  refine ne_meet (own := RX3) hl rfl (by decide +kernel) (Nat.le_of_ble_eq_true rfl) ?_
  intro D ct A P9 V9 R9 S9 M9 as9 bl9 mt9 C9 ad0 X hr hin ht
  obtain ⟨Ic, Iq, It, Ib, Itb, Igb, Ik, Ih, Iv⟩ := hI
  refine ne_aload_n X dX3_put_0 rfl ?_
  refine ne_iload_n X dX3_put_1 rfl ?_
  refine ne_callS X nw_Tg (me_X3_isNoCell l hl _ _ (by omega)) nw_yX3_isNoCell nw_mX3_66 nw_sX3_isNoCell dX3_put_2 rfl rfl (by decide) (by decide) (by first | decide | omega) (by first | decide | omega) (Nat.le_of_ble_eq_true rfl) rfl rfl (Nat.le_of_ble_eq_true rfl) ?_ ?_
  rotate_left
  · rintro E9 w9 h9; exact h9.elim
  rintro v2 w2 ⟨rfl, z2, rfl, g2⟩
  refine ne_iload_n X dX3_put_5 rfl ?_
  refine ne_ldc (z := -999999) (by decide) nw_cX3_70 X dX3_put_6 ?_
  refine ne_ldc (z := 999999) (by decide) nw_cX3_71 X dX3_put_8 ?_
  refine ne_callS X nw_Tg (me_X3_isOut l hl _ _ _ _ (by omega) (by omega) (by omega)) nw_yX3_isOut nw_mX3_34 nw_sX3_isOut dX3_put_10 rfl rfl (by decide) (by decide) (by first | decide | omega) (by first | decide | omega) (Nat.le_of_ble_eq_true rfl) rfl rfl (Nat.le_of_ble_eq_true rfl) ?_ ?_
  rotate_left
  · rintro E9 w9 h9; exact h9.elim
  rintro v10 w10 ⟨rfl, z10, rfl, g10⟩
  refine ne_if_ne (tgt := 25) X dX3_put_13 rfl (by omega) (fun b13 => ?_) (fun b13 => ?_)
  · refine ne_iconst X dX3_put_25 ?_
    refine ne_goto (tgt := 30) X dX3_put_26 rfl ?_
    refine ne_callV X nw_Tg (me_X3_refuse l hl c q t b k h vt T (by exact ⟨Ic, Iq, It, Ib, Itb, Igb, Ik, Ih, Iv⟩) (by omega) _ _ (by omega) (by omega)) nw_yX3_refuse nw_mX3_72 nw_iX3_refuse nw_eX3_refuse (ci := 5) rfl rfl rfl dX3_put_30 rfl rfl (by decide) (by decide) (by first | decide | omega) (by first | decide | omega) (Nat.le_of_ble_eq_true rfl) rfl rfl (Nat.le_of_ble_eq_true rfl) ?_ ?_
    rotate_left
    · rintro E9 w9 h9; exact h9.elim
    rintro v30 w30 ⟨u30, rfl, Iv, z30, rfl, g30⟩
    refine ne_if_eq (tgt := 38) X dX3_put_33 rfl (by omega) (fun b33 => ?_) (fun b33 => ?_)
    · exfalso; omega
    · refine ne_iconst X dX3_put_36 ?_
      exact ne_iret X hr (by first | rfl | decide | rfl) dX3_put_37 (by rcases g30 with ⟨h7, h8, h9⟩ | ⟨h6, h7, h8, h9⟩ | ⟨h6, h7, h8, h9⟩; exact ⟨_, _, _, _, _, rfl, ⟨Ic, Iq, It, Ib, Itb, Igb, Ik, ne_rg_mono Ih (by omega) (by omega), Iv⟩, rfl, Or.inl ⟨h8, (by omega), rfl, rfl, rfl⟩⟩; exact ⟨_, _, _, _, _, rfl, ⟨Ic, Iq, It, Ib, Itb, Igb, Ik, ne_rg_mono Ih (by omega) (by omega), Iv⟩, rfl, Or.inr (Or.inl ⟨h8, (by omega), rfl, rfl, rfl⟩)⟩; exfalso; omega)
  · refine ne_iload_n X dX3_put_16 rfl ?_
    refine ne_iconst X dX3_put_17 ?_
    refine ne_iconst X dX3_put_18 ?_
    refine ne_callS X nw_Tg (me_X3_isOut l hl _ _ _ _ (by omega) (by omega) (by omega)) nw_yX3_isOut nw_mX3_34 nw_sX3_isOut dX3_put_19 rfl rfl (by decide) (by decide) (by first | decide | omega) (by first | decide | omega) (Nat.le_of_ble_eq_true rfl) rfl rfl (Nat.le_of_ble_eq_true rfl) ?_ ?_
    rotate_left
    · rintro E9 w9 h9; exact h9.elim
    rintro v19 w19 ⟨rfl, z19, rfl, g19⟩
    refine ne_if_eq (tgt := 29) X dX3_put_22 rfl (by omega) (fun b22 => ?_) (fun b22 => ?_)
    · refine ne_iconst X dX3_put_29 ?_
      refine ne_callV X nw_Tg (me_X3_refuse l hl c q t b k h vt T (by exact ⟨Ic, Iq, It, Ib, Itb, Igb, Ik, Ih, Iv⟩) (by omega) _ _ (by omega) (by omega)) nw_yX3_refuse nw_mX3_72 nw_iX3_refuse nw_eX3_refuse (ci := 5) rfl rfl rfl dX3_put_30 rfl rfl (by decide) (by decide) (by first | decide | omega) (by first | decide | omega) (Nat.le_of_ble_eq_true rfl) rfl rfl (Nat.le_of_ble_eq_true rfl) ?_ ?_
      rotate_left
      · rintro E9 w9 h9; exact h9.elim
      rintro v30 w30 ⟨u30, rfl, Iv, z30, rfl, g30⟩
      refine ne_if_eq (tgt := 38) X dX3_put_33 rfl (by omega) (fun b33 => ?_) (fun b33 => ?_)
      · have hk9 : (((0 ≤ i ∧ i < 4) ∧ -999999 ≤ a ∧ a ≤ 999999 ∧ 0 ≤ p ∧ p ≤ 3)) ∧ u30 = 0 := by omega
        try clear g2
        try clear g10
        try clear b13
        try clear g19
        try clear b22
        try clear g30
        try clear b33
        refine ne_aload_n X dX3_put_38 rfl ?_
        refine ne_iload_n X dX3_put_39 rfl ?_
        refine ne_iload_n X dX3_put_40 rfl ?_
        refine ne_i2l (by omega) X dX3_put_41 ?_
        refine ne_iload_n X dX3_put_42 rfl ?_
        refine ne_callV X nw_Tg (me_X3_comeX l hl c q t b k h u30 T (by exact ⟨Ic, Iq, It, Ib, Itb, Igb, Ik, Ih, Iv⟩) (by omega) _ _ _ (by omega) (by omega) (by omega)) nw_yX3_come nw_mX3_76 nw_iX3_come nw_eX3_come (ci := 5) rfl rfl rfl dX3_put_43 rfl rfl (by decide) (by decide) (by first | decide | omega) (by first | decide | omega) (Nat.le_of_ble_eq_true rfl) rfl rfl (Nat.le_of_ble_eq_true rfl) ?_ ?_
        rotate_left
        · rintro E9 w9 h9; exact h9.elim
        rintro v43 w43 ⟨c43, q43, h43, rfl, hI43, z43, rfl, z943, G43⟩
        exact ne_iret X hr (by first | rfl | decide | rfl) dX3_put_46 ⟨_, _, _, _, _, rfl, hI43, rfl, Or.inr (Or.inr ⟨by omega, by omega, G43⟩)⟩
      · refine ne_iconst X dX3_put_36 ?_
        exact ne_iret X hr (by first | rfl | decide | rfl) dX3_put_37 (by rcases g30 with ⟨h7, h8, h9⟩ | ⟨h6, h7, h8, h9⟩ | ⟨h6, h7, h8, h9⟩; exact ⟨_, _, _, _, _, rfl, ⟨Ic, Iq, It, Ib, Itb, Igb, Ik, ne_rg_mono Ih (by omega) (by omega), Iv⟩, rfl, Or.inl ⟨h8, (by omega), rfl, rfl, rfl⟩⟩; exact ⟨_, _, _, _, _, rfl, ⟨Ic, Iq, It, Ib, Itb, Igb, Ik, ne_rg_mono Ih (by omega) (by omega), Iv⟩, rfl, Or.inr (Or.inl ⟨h8, (by omega), rfl, rfl, rfl⟩)⟩; exfalso; omega)
    · refine ne_iconst X dX3_put_25 ?_
      refine ne_goto (tgt := 30) X dX3_put_26 rfl ?_
      refine ne_callV X nw_Tg (me_X3_refuse l hl c q t b k h vt T (by exact ⟨Ic, Iq, It, Ib, Itb, Igb, Ik, Ih, Iv⟩) (by omega) _ _ (by omega) (by omega)) nw_yX3_refuse nw_mX3_72 nw_iX3_refuse nw_eX3_refuse (ci := 5) rfl rfl rfl dX3_put_30 rfl rfl (by decide) (by decide) (by first | decide | omega) (by first | decide | omega) (Nat.le_of_ble_eq_true rfl) rfl rfl (Nat.le_of_ble_eq_true rfl) ?_ ?_
      rotate_left
      · rintro E9 w9 h9; exact h9.elim
      rintro v30 w30 ⟨u30, rfl, Iv, z30, rfl, g30⟩
      refine ne_if_eq (tgt := 38) X dX3_put_33 rfl (by omega) (fun b33 => ?_) (fun b33 => ?_)
      · exfalso; omega
      · refine ne_iconst X dX3_put_36 ?_
        exact ne_iret X hr (by first | rfl | decide | rfl) dX3_put_37 (by rcases g30 with ⟨h7, h8, h9⟩ | ⟨h6, h7, h8, h9⟩ | ⟨h6, h7, h8, h9⟩; exact ⟨_, _, _, _, _, rfl, ⟨Ic, Iq, It, Ib, Itb, Igb, Ik, ne_rg_mono Ih (by omega) (by omega), Iv⟩, rfl, Or.inl ⟨h8, (by omega), rfl, rfl, rfl⟩⟩; exact ⟨_, _, _, _, _, rfl, ⟨Ic, Iq, It, Ib, Itb, Igb, Ik, ne_rg_mono Ih (by omega) (by omega), Iv⟩, rfl, Or.inr (Or.inl ⟨h8, (by omega), rfl, rfl, rfl⟩)⟩; exfalso; omega)
set_option maxRecDepth 100000 in
set_option maxHeartbeats 4000000 in
theorem me_X3_writeW (l : Launch) (hl : l.stackTraces = false) (c q t b k h : Nat → Int) (vt T : Int) (hI : mI c q t b k h vt T) (hT : 0 ≤ T ∧ T ≤ 1000) (i : Int) (m : Int) (a : Int) (p : Int) (d : Int) (hi : -2147483648 ≤ i ∧ i < 2147483648) (hm : 0 ≤ m ∧ m ≤ 1) (ha : -2147483648 ≤ a ∧ a < 2147483648) (hp : -2147483648 ≤ p ∧ p < 2147483648) (hd : -2147483648 ≤ d ∧ d < 2147483648) : ne_M l nw_cl (.code yX3_write cX3_write 8 (some .int)) nw_T yX3_write 9 330 0 0 [.ref 0, ni i, ni m, ni a, ni p, ni d] (mW c q t b k h vt) (fun v w => ∃ c1 q1 h1 v1 z, w = mW c1 q1 t b k h1 v1 ∧ mI c1 q1 t b k h1 v1 (T + 1) ∧ v = some (ni z) ∧ ((v1 = 1 ∧ (i < 0 ∨ 4 ≤ i) ∧ c1 = c ∧ q1 = q ∧ h1 = h) ∨ (v1 = 2 ∧ ((0 ≤ i ∧ i < 4) ∧ (a < 0 ∨ 999999 < a ∨ p < 0 ∨ 3 < p ∨ d < 0 ∨ 10 ^ p.toNat ≤ d)) ∧ c1 = c ∧ q1 = q ∧ h1 = h) ∨ (v1 = 0 ∧ ((0 ≤ i ∧ i < 4) ∧ 0 ≤ a ∧ a ≤ 999999 ∧ 0 ≤ p ∧ p ≤ 3 ∧ 0 ≤ d ∧ d < 10 ^ p.toNat) ∧ ne_come c q h i (if m = 0 then a * 10 ^ p.toNat + d else -(a * 10 ^ p.toNat + d)) p c1 q1 h1 z))) (fun _ _ => False) := by
  refine ne_meet (own := RX3) hl rfl (by decide +kernel) (Nat.le_of_ble_eq_true rfl) ?_
  intro D ct A P9 V9 R9 S9 M9 as9 bl9 mt9 C9 ad0 X hr hin ht
  obtain ⟨Ic, Iq, It, Ib, Itb, Igb, Ik, Ih, Iv⟩ := hI
  refine ne_aload_n X dX3_write_0 rfl ?_
  refine ne_iload_n X dX3_write_1 rfl ?_
  refine ne_callS X nw_Tg (me_X3_isNoCell l hl _ _ (by omega)) nw_yX3_isNoCell nw_mX3_66 nw_sX3_isNoCell dX3_write_2 rfl rfl (by decide) (by decide) (by first | decide | omega) (by first | decide | omega) (Nat.le_of_ble_eq_true rfl) rfl rfl (Nat.le_of_ble_eq_true rfl) ?_ ?_
  rotate_left
  · rintro E9 w9 h9; exact h9.elim
  rintro v2 w2 ⟨rfl, z2, rfl, g2⟩
  refine ne_iload_n X dX3_write_5 rfl ?_
  refine ne_iconst X dX3_write_6 ?_
  refine ne_ldc (z := 999999) (by decide) nw_cX3_71 X dX3_write_7 ?_
  refine ne_callS X nw_Tg (me_X3_isOut l hl _ _ _ _ (by omega) (by omega) (by omega)) nw_yX3_isOut nw_mX3_34 nw_sX3_isOut dX3_write_9 rfl rfl (by decide) (by decide) (by first | decide | omega) (by first | decide | omega) (Nat.le_of_ble_eq_true rfl) rfl rfl (Nat.le_of_ble_eq_true rfl) ?_ ?_
  rotate_left
  · rintro E9 w9 h9; exact h9.elim
  rintro v9 w9 ⟨rfl, z9, rfl, g9⟩
  refine ne_if_ne (tgt := 42) X dX3_write_12 rfl (by omega) (fun b12 => ?_) (fun b12 => ?_)
  · refine ne_iconst X dX3_write_42 ?_
    refine ne_goto (tgt := 47) X dX3_write_43 rfl ?_
    refine ne_callV X nw_Tg (me_X3_refuse l hl c q t b k h vt T (by exact ⟨Ic, Iq, It, Ib, Itb, Igb, Ik, Ih, Iv⟩) (by omega) _ _ (by omega) (by omega)) nw_yX3_refuse nw_mX3_72 nw_iX3_refuse nw_eX3_refuse (ci := 5) rfl rfl rfl dX3_write_47 rfl rfl (by decide) (by decide) (by first | decide | omega) (by first | decide | omega) (Nat.le_of_ble_eq_true rfl) rfl rfl (Nat.le_of_ble_eq_true rfl) ?_ ?_
    rotate_left
    · rintro E9 w9 h9; exact h9.elim
    rintro v47 w47 ⟨u47, rfl, Iv, z47, rfl, g47⟩
    refine ne_if_eq (tgt := 55) X dX3_write_50 rfl (by omega) (fun b50 => ?_) (fun b50 => ?_)
    · exfalso; omega
    · refine ne_iconst X dX3_write_53 ?_
      exact ne_iret X hr (by first | rfl | decide | rfl) dX3_write_54 (by rcases g47 with ⟨h7, h8, h9⟩ | ⟨h6, h7, h8, h9⟩ | ⟨h6, h7, h8, h9⟩; exact ⟨_, _, _, _, _, rfl, ⟨Ic, Iq, It, Ib, Itb, Igb, Ik, ne_rg_mono Ih (by omega) (by omega), Iv⟩, rfl, Or.inl ⟨h8, (by omega), rfl, rfl, rfl⟩⟩; exact ⟨_, _, _, _, _, rfl, ⟨Ic, Iq, It, Ib, Itb, Igb, Ik, ne_rg_mono Ih (by omega) (by omega), Iv⟩, rfl, Or.inr (Or.inl ⟨h8, (by omega), rfl, rfl, rfl⟩)⟩; exfalso; omega)
  · refine ne_iload X dX3_write_15 rfl ?_
    refine ne_iconst X dX3_write_17 ?_
    refine ne_iconst X dX3_write_18 ?_
    refine ne_callS X nw_Tg (me_X3_isOut l hl _ _ _ _ (by omega) (by omega) (by omega)) nw_yX3_isOut nw_mX3_34 nw_sX3_isOut dX3_write_19 rfl rfl (by decide) (by decide) (by first | decide | omega) (by first | decide | omega) (Nat.le_of_ble_eq_true rfl) rfl rfl (Nat.le_of_ble_eq_true rfl) ?_ ?_
    rotate_left
    · rintro E9 w9 h9; exact h9.elim
    rintro v19 w19 ⟨rfl, z19, rfl, g19⟩
    refine ne_if_ne (tgt := 42) X dX3_write_22 rfl (by omega) (fun b22 => ?_) (fun b22 => ?_)
    · refine ne_iconst X dX3_write_42 ?_
      refine ne_goto (tgt := 47) X dX3_write_43 rfl ?_
      refine ne_callV X nw_Tg (me_X3_refuse l hl c q t b k h vt T (by exact ⟨Ic, Iq, It, Ib, Itb, Igb, Ik, Ih, Iv⟩) (by omega) _ _ (by omega) (by omega)) nw_yX3_refuse nw_mX3_72 nw_iX3_refuse nw_eX3_refuse (ci := 5) rfl rfl rfl dX3_write_47 rfl rfl (by decide) (by decide) (by first | decide | omega) (by first | decide | omega) (Nat.le_of_ble_eq_true rfl) rfl rfl (Nat.le_of_ble_eq_true rfl) ?_ ?_
      rotate_left
      · rintro E9 w9 h9; exact h9.elim
      rintro v47 w47 ⟨u47, rfl, Iv, z47, rfl, g47⟩
      refine ne_if_eq (tgt := 55) X dX3_write_50 rfl (by omega) (fun b50 => ?_) (fun b50 => ?_)
      · exfalso; omega
      · refine ne_iconst X dX3_write_53 ?_
        exact ne_iret X hr (by first | rfl | decide | rfl) dX3_write_54 (by rcases g47 with ⟨h7, h8, h9⟩ | ⟨h6, h7, h8, h9⟩ | ⟨h6, h7, h8, h9⟩; exact ⟨_, _, _, _, _, rfl, ⟨Ic, Iq, It, Ib, Itb, Igb, Ik, ne_rg_mono Ih (by omega) (by omega), Iv⟩, rfl, Or.inl ⟨h8, (by omega), rfl, rfl, rfl⟩⟩; exact ⟨_, _, _, _, _, rfl, ⟨Ic, Iq, It, Ib, Itb, Igb, Ik, ne_rg_mono Ih (by omega) (by omega), Iv⟩, rfl, Or.inr (Or.inl ⟨h8, (by omega), rfl, rfl, rfl⟩)⟩; exfalso; omega)
    · refine ne_iload X dX3_write_25 rfl ?_
      refine ne_if_lt (tgt := 42) X dX3_write_27 rfl (by omega) (fun b27 => ?_) (fun b27 => ?_)
      · refine ne_iconst X dX3_write_42 ?_
        refine ne_goto (tgt := 47) X dX3_write_43 rfl ?_
        refine ne_callV X nw_Tg (me_X3_refuse l hl c q t b k h vt T (by exact ⟨Ic, Iq, It, Ib, Itb, Igb, Ik, Ih, Iv⟩) (by omega) _ _ (by omega) (by omega)) nw_yX3_refuse nw_mX3_72 nw_iX3_refuse nw_eX3_refuse (ci := 5) rfl rfl rfl dX3_write_47 rfl rfl (by decide) (by decide) (by first | decide | omega) (by first | decide | omega) (Nat.le_of_ble_eq_true rfl) rfl rfl (Nat.le_of_ble_eq_true rfl) ?_ ?_
        rotate_left
        · rintro E9 w9 h9; exact h9.elim
        rintro v47 w47 ⟨u47, rfl, Iv, z47, rfl, g47⟩
        refine ne_if_eq (tgt := 55) X dX3_write_50 rfl (by omega) (fun b50 => ?_) (fun b50 => ?_)
        · exfalso; omega
        · refine ne_iconst X dX3_write_53 ?_
          exact ne_iret X hr (by first | rfl | decide | rfl) dX3_write_54 (by rcases g47 with ⟨h7, h8, h9⟩ | ⟨h6, h7, h8, h9⟩ | ⟨h6, h7, h8, h9⟩; exact ⟨_, _, _, _, _, rfl, ⟨Ic, Iq, It, Ib, Itb, Igb, Ik, ne_rg_mono Ih (by omega) (by omega), Iv⟩, rfl, Or.inl ⟨h8, (by omega), rfl, rfl, rfl⟩⟩; exact ⟨_, _, _, _, _, rfl, ⟨Ic, Iq, It, Ib, Itb, Igb, Ik, ne_rg_mono Ih (by omega) (by omega), Iv⟩, rfl, Or.inr (Or.inl ⟨h8, (by omega), rfl, rfl, rfl⟩)⟩; exfalso; omega)
      · refine ne_iload X dX3_write_30 rfl ?_
        refine ne_i2l (by omega) X dX3_write_32 ?_
        refine ne_iload X dX3_write_33 rfl ?_
        refine ne_callS X nw_Tg (me_X3_ten l hl _ _ (by omega)) nw_yX3_ten nw_mX3_58 nw_sX3_ten dX3_write_35 rfl rfl (by decide) (by decide) (by first | decide | omega) (by first | decide | omega) (Nat.le_of_ble_eq_true rfl) rfl rfl (Nat.le_of_ble_eq_true rfl) ?_ ?_
        rotate_left
        · rintro E9 w9 h9; exact h9.elim
        rintro v35 w35 ⟨rfl, z35, rfl, g35, k35, i35, j35, m35, o35, p35⟩
        have t359 := i35 (by omega)
        clear i35 j35 m35 o35 p35
        refine ne_lcif_lt (tgt := 46) X dX3_write_38 dX3_write_39 rfl (by omega) (by omega) (fun b39 => ?_) (fun b39 => ?_)
        · refine ne_iconst X dX3_write_46 ?_
          refine ne_callV X nw_Tg (me_X3_refuse l hl c q t b k h vt T (by exact ⟨Ic, Iq, It, Ib, Itb, Igb, Ik, Ih, Iv⟩) (by omega) _ _ (by omega) (by omega)) nw_yX3_refuse nw_mX3_72 nw_iX3_refuse nw_eX3_refuse (ci := 5) rfl rfl rfl dX3_write_47 rfl rfl (by decide) (by decide) (by first | decide | omega) (by first | decide | omega) (Nat.le_of_ble_eq_true rfl) rfl rfl (Nat.le_of_ble_eq_true rfl) ?_ ?_
          rotate_left
          · rintro E9 w9 h9; exact h9.elim
          rintro v47 w47 ⟨u47, rfl, Iv, z47, rfl, g47⟩
          refine ne_if_eq (tgt := 55) X dX3_write_50 rfl (by omega) (fun b50 => ?_) (fun b50 => ?_)
          · have hk9 : (((0 ≤ i ∧ i < 4) ∧ 0 ≤ a ∧ a ≤ 999999 ∧ 0 ≤ p ∧ p ≤ 3 ∧ 0 ≤ d ∧ d < 10 ^ p.toNat)) ∧ u47 = 0 := by omega
            try clear g2
            try clear g9
            try clear b12
            try clear g19
            try clear b22
            try clear b27
            try clear g35
            try clear b39
            try clear g47
            try clear b50
            refine ne_iload_n X dX3_write_55 rfl ?_
            refine ne_i2l (by omega) X dX3_write_56 ?_
            refine ne_iload X dX3_write_57 rfl ?_
            refine ne_callS X nw_Tg (me_X3_ten l hl _ _ (by omega)) nw_yX3_ten nw_mX3_58 nw_sX3_ten dX3_write_59 rfl rfl (by decide) (by decide) (by first | decide | omega) (by first | decide | omega) (Nat.le_of_ble_eq_true rfl) rfl rfl (Nat.le_of_ble_eq_true rfl) ?_ ?_
            rotate_left
            · rintro E9 w9 h9; exact h9.elim
            rintro v59 w59 ⟨rfl, z59, rfl, g59, k59, i59, j59, m59, o59, p59⟩
            have t599 := i59 (by omega)
            clear i59 j59 m59 o59 p59
            have m59 := ne_mul a z59 999999 1000 (by omega) (by omega)
            refine ne_lmul X dX3_write_62 ?_
            refine ne_iload X dX3_write_63 rfl ?_
            refine ne_i2l (by omega) X dX3_write_65 ?_
            refine ne_ladd X dX3_write_66 ?_
            refine ne_lstore X dX3_write_67 (by decide) ?_
            refine ne_aload_n X dX3_write_69 rfl ?_
            refine ne_iload_n X dX3_write_70 rfl ?_
            refine ne_iload_n X dX3_write_71 rfl ?_
            refine ne_if_eq (tgt := 81) X dX3_write_72 rfl (by omega) (fun b72 => ?_) (fun b72 => ?_)
            · refine ne_lload X dX3_write_81 rfl ?_
              refine ne_iload X dX3_write_83 rfl ?_
              refine ne_callV X nw_Tg (me_X3_comeX l hl c q t b k h u47 T (by exact ⟨Ic, Iq, It, Ib, Itb, Igb, Ik, Ih, Iv⟩) (by omega) _ _ _ (by omega) (by omega) (by omega)) nw_yX3_come nw_mX3_76 nw_iX3_come nw_eX3_come (ci := 5) rfl rfl rfl dX3_write_85 rfl rfl (by decide) (by decide) (by first | decide | omega) (by first | decide | omega) (Nat.le_of_ble_eq_true rfl) rfl rfl (Nat.le_of_ble_eq_true rfl) ?_ ?_
              rotate_left
              · rintro E9 w9 h9; exact h9.elim
              rintro v85 w85 ⟨c85, q85, h85, rfl, hI85, z85, rfl, z985, G85⟩
              exact ne_iret X hr (by first | rfl | decide | rfl) dX3_write_88 ⟨_, _, _, _, _, rfl, hI85, rfl, Or.inr (Or.inr ⟨by omega, by omega, (by (first | rw [if_pos b72] | rw [if_neg b72]); rw [g59] at G85; exact G85)⟩)⟩
            · refine ne_lload X dX3_write_75 rfl ?_
              refine ne_lneg X dX3_write_77 ?_
              refine ne_goto (tgt := 83) X dX3_write_78 rfl ?_
              refine ne_iload X dX3_write_83 rfl ?_
              refine ne_callV X nw_Tg (me_X3_comeX l hl c q t b k h u47 T (by exact ⟨Ic, Iq, It, Ib, Itb, Igb, Ik, Ih, Iv⟩) (by omega) _ _ _ (by omega) (by omega) (by omega)) nw_yX3_come nw_mX3_76 nw_iX3_come nw_eX3_come (ci := 5) rfl rfl rfl dX3_write_85 rfl rfl (by decide) (by decide) (by first | decide | omega) (by first | decide | omega) (Nat.le_of_ble_eq_true rfl) rfl rfl (Nat.le_of_ble_eq_true rfl) ?_ ?_
              rotate_left
              · rintro E9 w9 h9; exact h9.elim
              rintro v85 w85 ⟨c85, q85, h85, rfl, hI85, z85, rfl, z985, G85⟩
              exact ne_iret X hr (by first | rfl | decide | rfl) dX3_write_88 ⟨_, _, _, _, _, rfl, hI85, rfl, Or.inr (Or.inr ⟨by omega, by omega, (by (first | rw [if_pos b72] | rw [if_neg b72]); rw [g59] at G85; exact G85)⟩)⟩
          · refine ne_iconst X dX3_write_53 ?_
            exact ne_iret X hr (by first | rfl | decide | rfl) dX3_write_54 (by rcases g47 with ⟨h7, h8, h9⟩ | ⟨h6, h7, h8, h9⟩ | ⟨h6, h7, h8, h9⟩; exact ⟨_, _, _, _, _, rfl, ⟨Ic, Iq, It, Ib, Itb, Igb, Ik, ne_rg_mono Ih (by omega) (by omega), Iv⟩, rfl, Or.inl ⟨h8, (by omega), rfl, rfl, rfl⟩⟩; exact ⟨_, _, _, _, _, rfl, ⟨Ic, Iq, It, Ib, Itb, Igb, Ik, ne_rg_mono Ih (by omega) (by omega), Iv⟩, rfl, Or.inr (Or.inl ⟨h8, (by omega), rfl, rfl, rfl⟩)⟩; exfalso; omega)
        · refine ne_iconst X dX3_write_42 ?_
          refine ne_goto (tgt := 47) X dX3_write_43 rfl ?_
          refine ne_callV X nw_Tg (me_X3_refuse l hl c q t b k h vt T (by exact ⟨Ic, Iq, It, Ib, Itb, Igb, Ik, Ih, Iv⟩) (by omega) _ _ (by omega) (by omega)) nw_yX3_refuse nw_mX3_72 nw_iX3_refuse nw_eX3_refuse (ci := 5) rfl rfl rfl dX3_write_47 rfl rfl (by decide) (by decide) (by first | decide | omega) (by first | decide | omega) (Nat.le_of_ble_eq_true rfl) rfl rfl (Nat.le_of_ble_eq_true rfl) ?_ ?_
          rotate_left
          · rintro E9 w9 h9; exact h9.elim
          rintro v47 w47 ⟨u47, rfl, Iv, z47, rfl, g47⟩
          refine ne_if_eq (tgt := 55) X dX3_write_50 rfl (by omega) (fun b50 => ?_) (fun b50 => ?_)
          · exfalso; omega
          · refine ne_iconst X dX3_write_53 ?_
            exact ne_iret X hr (by first | rfl | decide | rfl) dX3_write_54 (by rcases g47 with ⟨h7, h8, h9⟩ | ⟨h6, h7, h8, h9⟩ | ⟨h6, h7, h8, h9⟩; exact ⟨_, _, _, _, _, rfl, ⟨Ic, Iq, It, Ib, Itb, Igb, Ik, ne_rg_mono Ih (by omega) (by omega), Iv⟩, rfl, Or.inl ⟨h8, (by omega), rfl, rfl, rfl⟩⟩; exact ⟨_, _, _, _, _, rfl, ⟨Ic, Iq, It, Ib, Itb, Igb, Ik, ne_rg_mono Ih (by omega) (by omega), Iv⟩, rfl, Or.inr (Or.inl ⟨h8, (by omega), rfl, rfl, rfl⟩)⟩; exfalso; omega)
set_option maxRecDepth 100000 in
set_option maxHeartbeats 4000000 in
theorem me_X3_copyW (l : Launch) (hl : l.stackTraces = false) (c q t b k h : Nat → Int) (vt T : Int) (hI : mI c q t b k h vt T) (hT : 0 ≤ T ∧ T ≤ 1000) (i : Int) (j : Int) (hi : -2147483648 ≤ i ∧ i < 2147483648) (hj : -2147483648 ≤ j ∧ j < 2147483648) : ne_M l nw_cl (.code yX3_copy cX3_copy 3 (some .int)) nw_T yX3_copy 9 330 0 0 [.ref 0, ni i, ni j] (mW c q t b k h vt) (fun v w => ∃ c1 q1 h1 v1 z, w = mW c1 q1 t b k h1 v1 ∧ mI c1 q1 t b k h1 v1 (T + 1) ∧ v = some (ni z) ∧ ((v1 = 1 ∧ (i < 0 ∨ 4 ≤ i ∨ j < 0 ∨ 4 ≤ j) ∧ c1 = c ∧ q1 = q ∧ h1 = h) ∨ (v1 = 2 ∧ False ∧ c1 = c ∧ q1 = q ∧ h1 = h) ∨ (v1 = 0 ∧ (0 ≤ i ∧ i < 4 ∧ 0 ≤ j ∧ j < 4) ∧ ne_come c q h j (c i.toNat) (q i.toNat) c1 q1 h1 z))) (fun _ _ => False) := by
  refine ne_meet (own := RX3) hl rfl (by decide +kernel) (Nat.le_of_ble_eq_true rfl) ?_
  intro D ct A P9 V9 R9 S9 M9 as9 bl9 mt9 C9 ad0 X hr hin ht
  obtain ⟨Ic, Iq, It, Ib, Itb, Igb, Ik, Ih, Iv⟩ := hI
  refine ne_aload_n X dX3_copy_0 rfl ?_
  refine ne_iload_n X dX3_copy_1 rfl ?_
  refine ne_callS X nw_Tg (me_X3_isNoCell l hl _ _ (by omega)) nw_yX3_isNoCell nw_mX3_66 nw_sX3_isNoCell dX3_copy_2 rfl rfl (by decide) (by decide) (by first | decide | omega) (by first | decide | omega) (Nat.le_of_ble_eq_true rfl) rfl rfl (Nat.le_of_ble_eq_true rfl) ?_ ?_
  rotate_left
  · rintro E9 w9 h9; exact h9.elim
  rintro v2 w2 ⟨rfl, z2, rfl, g2⟩
  refine ne_if_ne (tgt := 15) X dX3_copy_5 rfl (by omega) (fun b5 => ?_) (fun b5 => ?_)
  · refine ne_iconst X dX3_copy_15 ?_
    refine ne_goto (tgt := 20) X dX3_copy_16 rfl ?_
    refine ne_iconst X dX3_copy_20 ?_
    refine ne_callV X nw_Tg (me_X3_refuse l hl c q t b k h vt T (by exact ⟨Ic, Iq, It, Ib, Itb, Igb, Ik, Ih, Iv⟩) (by omega) _ _ (by omega) (by omega)) nw_yX3_refuse nw_mX3_72 nw_iX3_refuse nw_eX3_refuse (ci := 5) rfl rfl rfl dX3_copy_21 rfl rfl (by decide) (by decide) (by first | decide | omega) (by first | decide | omega) (Nat.le_of_ble_eq_true rfl) rfl rfl (Nat.le_of_ble_eq_true rfl) ?_ ?_
    rotate_left
    · rintro E9 w9 h9; exact h9.elim
    rintro v21 w21 ⟨u21, rfl, Iv, z21, rfl, g21⟩
    refine ne_if_eq (tgt := 31) X dX3_copy_24 rfl (by omega) (fun b24 => ?_) (fun b24 => ?_)
    · exfalso; omega
    · refine ne_iconst X dX3_copy_27 ?_
      refine ne_goto (tgt := 49) X dX3_copy_28 rfl ?_
      exact ne_iret X hr (by first | rfl | decide | rfl) dX3_copy_49 (by rcases g21 with ⟨h7, h8, h9⟩ | ⟨h6, h7, h8, h9⟩ | ⟨h6, h7, h8, h9⟩; exact ⟨_, _, _, _, _, rfl, ⟨Ic, Iq, It, Ib, Itb, Igb, Ik, ne_rg_mono Ih (by omega) (by omega), Iv⟩, rfl, Or.inl ⟨h8, (by omega), rfl, rfl, rfl⟩⟩; exfalso; omega; exfalso; omega)
  · refine ne_iload_n X dX3_copy_8 rfl ?_
    refine ne_callS X nw_Tg (me_X3_isNoCell l hl _ _ (by omega)) nw_yX3_isNoCell nw_mX3_66 nw_sX3_isNoCell dX3_copy_9 rfl rfl (by decide) (by decide) (by first | decide | omega) (by first | decide | omega) (Nat.le_of_ble_eq_true rfl) rfl rfl (Nat.le_of_ble_eq_true rfl) ?_ ?_
    rotate_left
    · rintro E9 w9 h9; exact h9.elim
    rintro v9 w9 ⟨rfl, z9, rfl, g9⟩
    refine ne_if_eq (tgt := 19) X dX3_copy_12 rfl (by omega) (fun b12 => ?_) (fun b12 => ?_)
    · refine ne_iconst X dX3_copy_19 ?_
      refine ne_iconst X dX3_copy_20 ?_
      refine ne_callV X nw_Tg (me_X3_refuse l hl c q t b k h vt T (by exact ⟨Ic, Iq, It, Ib, Itb, Igb, Ik, Ih, Iv⟩) (by omega) _ _ (by omega) (by omega)) nw_yX3_refuse nw_mX3_72 nw_iX3_refuse nw_eX3_refuse (ci := 5) rfl rfl rfl dX3_copy_21 rfl rfl (by decide) (by decide) (by first | decide | omega) (by first | decide | omega) (Nat.le_of_ble_eq_true rfl) rfl rfl (Nat.le_of_ble_eq_true rfl) ?_ ?_
      rotate_left
      · rintro E9 w9 h9; exact h9.elim
      rintro v21 w21 ⟨u21, rfl, Iv, z21, rfl, g21⟩
      refine ne_if_eq (tgt := 31) X dX3_copy_24 rfl (by omega) (fun b24 => ?_) (fun b24 => ?_)
      · have hk9 : ((0 ≤ i ∧ i < 4 ∧ 0 ≤ j ∧ j < 4)) ∧ u21 = 0 := by omega
        try clear g2
        try clear b5
        try clear g9
        try clear b12
        try clear g21
        try clear b24
        refine ne_aload_n X dX3_copy_31 rfl ?_
        refine ne_iload_n X dX3_copy_32 rfl ?_
        refine ne_aload_n X dX3_copy_33 rfl ?_
        refine ne_getf X dX3_copy_34 nw_fX3_9 rfl rfl ?_
        refine ne_iload_n X dX3_copy_37 rfl ?_
        refine ne_ialdR X dX3_copy_38 rfl (by omega) Ic (fun v38 e38 f38 u38 => ?_)
        refine ne_i2l (by omega) X dX3_copy_39 ?_
        refine ne_aload_n X dX3_copy_40 rfl ?_
        refine ne_getf X dX3_copy_41 nw_fX3_15 rfl rfl ?_
        refine ne_iload_n X dX3_copy_44 rfl ?_
        refine ne_ialdR X dX3_copy_45 rfl (by omega) Iq (fun v45 e45 f45 u45 => ?_)
        refine ne_callV X nw_Tg (me_X3_comeX l hl c q t b k h u21 T (by exact ⟨Ic, Iq, It, Ib, Itb, Igb, Ik, Ih, Iv⟩) (by omega) _ _ _ (by omega) (by omega) (by omega)) nw_yX3_come nw_mX3_76 nw_iX3_come nw_eX3_come (ci := 5) rfl rfl rfl dX3_copy_46 rfl rfl (by decide) (by decide) (by first | decide | omega) (by first | decide | omega) (Nat.le_of_ble_eq_true rfl) rfl rfl (Nat.le_of_ble_eq_true rfl) ?_ ?_
        rotate_left
        · rintro E9 w9 h9; exact h9.elim
        rintro v46 w46 ⟨c46, q46, h46, rfl, hI46, z46, rfl, z946, G46⟩
        exact ne_iret X hr (by first | rfl | decide | rfl) dX3_copy_49 ⟨_, _, _, _, _, rfl, hI46, rfl, Or.inr (Or.inr ⟨by omega, by omega, (by rw [e38, e45] at G46; exact G46)⟩)⟩
      · exfalso; omega
    · refine ne_iconst X dX3_copy_15 ?_
      refine ne_goto (tgt := 20) X dX3_copy_16 rfl ?_
      refine ne_iconst X dX3_copy_20 ?_
      refine ne_callV X nw_Tg (me_X3_refuse l hl c q t b k h vt T (by exact ⟨Ic, Iq, It, Ib, Itb, Igb, Ik, Ih, Iv⟩) (by omega) _ _ (by omega) (by omega)) nw_yX3_refuse nw_mX3_72 nw_iX3_refuse nw_eX3_refuse (ci := 5) rfl rfl rfl dX3_copy_21 rfl rfl (by decide) (by decide) (by first | decide | omega) (by first | decide | omega) (Nat.le_of_ble_eq_true rfl) rfl rfl (Nat.le_of_ble_eq_true rfl) ?_ ?_
      rotate_left
      · rintro E9 w9 h9; exact h9.elim
      rintro v21 w21 ⟨u21, rfl, Iv, z21, rfl, g21⟩
      refine ne_if_eq (tgt := 31) X dX3_copy_24 rfl (by omega) (fun b24 => ?_) (fun b24 => ?_)
      · exfalso; omega
      · refine ne_iconst X dX3_copy_27 ?_
        refine ne_goto (tgt := 49) X dX3_copy_28 rfl ?_
        exact ne_iret X hr (by first | rfl | decide | rfl) dX3_copy_49 (by rcases g21 with ⟨h7, h8, h9⟩ | ⟨h6, h7, h8, h9⟩ | ⟨h6, h7, h8, h9⟩; exact ⟨_, _, _, _, _, rfl, ⟨Ic, Iq, It, Ib, Itb, Igb, Ik, ne_rg_mono Ih (by omega) (by omega), Iv⟩, rfl, Or.inl ⟨h8, (by omega), rfl, rfl, rfl⟩⟩; exfalso; omega; exfalso; omega)
set_option maxRecDepth 100000 in
set_option maxHeartbeats 4000000 in
theorem me_X3_negateW (l : Launch) (hl : l.stackTraces = false) (c q t b k h : Nat → Int) (vt T : Int) (hI : mI c q t b k h vt T) (hT : 0 ≤ T ∧ T ≤ 1000) (i : Int) (hi : -2147483648 ≤ i ∧ i < 2147483648) : ne_M l nw_cl (.code yX3_negate cX3_negate 2 (some .int)) nw_T yX3_negate 9 330 0 0 [.ref 0, ni i] (mW c q t b k h vt) (fun v w => ∃ c1 q1 h1 v1 z, w = mW c1 q1 t b k h1 v1 ∧ mI c1 q1 t b k h1 v1 (T + 1) ∧ v = some (ni z) ∧ ((v1 = 1 ∧ (i < 0 ∨ 4 ≤ i) ∧ c1 = c ∧ q1 = q ∧ h1 = h) ∨ (v1 = 2 ∧ False ∧ c1 = c ∧ q1 = q ∧ h1 = h) ∨ (v1 = 0 ∧ (0 ≤ i ∧ i < 4) ∧ ne_come c q h i (-c i.toNat) (q i.toNat) c1 q1 h1 z))) (fun _ _ => False) := by
  refine ne_meet (own := RX3) hl rfl (by decide +kernel) (Nat.le_of_ble_eq_true rfl) ?_
  intro D ct A P9 V9 R9 S9 M9 as9 bl9 mt9 C9 ad0 X hr hin ht
  obtain ⟨Ic, Iq, It, Ib, Itb, Igb, Ik, Ih, Iv⟩ := hI
  refine ne_aload_n X dX3_negate_0 rfl ?_
  refine ne_iload_n X dX3_negate_1 rfl ?_
  refine ne_callS X nw_Tg (me_X3_isNoCell l hl _ _ (by omega)) nw_yX3_isNoCell nw_mX3_66 nw_sX3_isNoCell dX3_negate_2 rfl rfl (by decide) (by decide) (by first | decide | omega) (by first | decide | omega) (Nat.le_of_ble_eq_true rfl) rfl rfl (Nat.le_of_ble_eq_true rfl) ?_ ?_
  rotate_left
  · rintro E9 w9 h9; exact h9.elim
  rintro v2 w2 ⟨rfl, z2, rfl, g2⟩
  refine ne_iconst X dX3_negate_5 ?_
  refine ne_callV X nw_Tg (me_X3_refuse l hl c q t b k h vt T (by exact ⟨Ic, Iq, It, Ib, Itb, Igb, Ik, Ih, Iv⟩) (by omega) _ _ (by omega) (by omega)) nw_yX3_refuse nw_mX3_72 nw_iX3_refuse nw_eX3_refuse (ci := 5) rfl rfl rfl dX3_negate_6 rfl rfl (by decide) (by decide) (by first | decide | omega) (by first | decide | omega) (Nat.le_of_ble_eq_true rfl) rfl rfl (Nat.le_of_ble_eq_true rfl) ?_ ?_
  rotate_left
  · rintro E9 w9 h9; exact h9.elim
  rintro v6 w6 ⟨u6, rfl, Iv, z6, rfl, g6⟩
  refine ne_if_eq (tgt := 16) X dX3_negate_9 rfl (by omega) (fun b9 => ?_) (fun b9 => ?_)
  · have hk9 : ((0 ≤ i ∧ i < 4)) ∧ u6 = 0 := by omega
    try clear g2
    try clear g6
    try clear b9
    refine ne_aload_n X dX3_negate_16 rfl ?_
    refine ne_iload_n X dX3_negate_17 rfl ?_
    refine ne_aload_n X dX3_negate_18 rfl ?_
    refine ne_getf X dX3_negate_19 nw_fX3_9 rfl rfl ?_
    refine ne_iload_n X dX3_negate_22 rfl ?_
    refine ne_ialdR X dX3_negate_23 rfl (by omega) Ic (fun v23 e23 f23 u23 => ?_)
    refine ne_ineg X dX3_negate_24 ?_
    refine ne_i2l (by omega) X dX3_negate_25 ?_
    refine ne_aload_n X dX3_negate_26 rfl ?_
    refine ne_getf X dX3_negate_27 nw_fX3_15 rfl rfl ?_
    refine ne_iload_n X dX3_negate_30 rfl ?_
    refine ne_ialdR X dX3_negate_31 rfl (by omega) Iq (fun v31 e31 f31 u31 => ?_)
    refine ne_callV X nw_Tg (me_X3_comeX l hl c q t b k h u6 T (by exact ⟨Ic, Iq, It, Ib, Itb, Igb, Ik, Ih, Iv⟩) (by omega) _ _ _ (by omega) (by omega) (by omega)) nw_yX3_come nw_mX3_76 nw_iX3_come nw_eX3_come (ci := 5) rfl rfl rfl dX3_negate_32 rfl rfl (by decide) (by decide) (by first | decide | omega) (by first | decide | omega) (Nat.le_of_ble_eq_true rfl) rfl rfl (Nat.le_of_ble_eq_true rfl) ?_ ?_
    rotate_left
    · rintro E9 w9 h9; exact h9.elim
    rintro v32 w32 ⟨c32, q32, h32, rfl, hI32, z32, rfl, z932, G32⟩
    exact ne_iret X hr (by first | rfl | decide | rfl) dX3_negate_35 ⟨_, _, _, _, _, rfl, hI32, rfl, Or.inr (Or.inr ⟨by omega, by omega, (by rw [e23, e31] at G32; exact G32)⟩)⟩
  · refine ne_iconst X dX3_negate_12 ?_
    refine ne_goto (tgt := 35) X dX3_negate_13 rfl ?_
    exact ne_iret X hr (by first | rfl | decide | rfl) dX3_negate_35 (by rcases g6 with ⟨h7, h8, h9⟩ | ⟨h6, h7, h8, h9⟩ | ⟨h6, h7, h8, h9⟩; exact ⟨_, _, _, _, _, rfl, ⟨Ic, Iq, It, Ib, Itb, Igb, Ik, ne_rg_mono Ih (by omega) (by omega), Iv⟩, rfl, Or.inl ⟨h8, (by omega), rfl, rfl, rfl⟩⟩; exfalso; omega; exfalso; omega)
set_option maxRecDepth 100000 in
set_option maxHeartbeats 4000000 in
theorem me_X3_sizeW (l : Launch) (hl : l.stackTraces = false) (c q t b k h : Nat → Int) (vt T : Int) (hI : mI c q t b k h vt T) (hT : 0 ≤ T ∧ T ≤ 1000) (i : Int) (hi : -2147483648 ≤ i ∧ i < 2147483648) : ne_M l nw_cl (.code yX3_size cX3_size 2 (some .int)) nw_T yX3_size 9 330 0 0 [.ref 0, ni i] (mW c q t b k h vt) (fun v w => ∃ c1 q1 h1 v1 z, w = mW c1 q1 t b k h1 v1 ∧ mI c1 q1 t b k h1 v1 (T + 1) ∧ v = some (ni z) ∧ ((v1 = 1 ∧ (i < 0 ∨ 4 ≤ i) ∧ c1 = c ∧ q1 = q ∧ h1 = h) ∨ (v1 = 2 ∧ False ∧ c1 = c ∧ q1 = q ∧ h1 = h) ∨ (v1 = 0 ∧ (0 ≤ i ∧ i < 4) ∧ ne_come c q h i (if 0 ≤ c i.toNat then c i.toNat else -c i.toNat) (q i.toNat) c1 q1 h1 z))) (fun _ _ => False) := by
  refine ne_meet (own := RX3) hl rfl (by decide +kernel) (Nat.le_of_ble_eq_true rfl) ?_
  intro D ct A P9 V9 R9 S9 M9 as9 bl9 mt9 C9 ad0 X hr hin ht
  obtain ⟨Ic, Iq, It, Ib, Itb, Igb, Ik, Ih, Iv⟩ := hI
  refine ne_aload_n X dX3_size_0 rfl ?_
  refine ne_iload_n X dX3_size_1 rfl ?_
  refine ne_callS X nw_Tg (me_X3_isNoCell l hl _ _ (by omega)) nw_yX3_isNoCell nw_mX3_66 nw_sX3_isNoCell dX3_size_2 rfl rfl (by decide) (by decide) (by first | decide | omega) (by first | decide | omega) (Nat.le_of_ble_eq_true rfl) rfl rfl (Nat.le_of_ble_eq_true rfl) ?_ ?_
  rotate_left
  · rintro E9 w9 h9; exact h9.elim
  rintro v2 w2 ⟨rfl, z2, rfl, g2⟩
  refine ne_iconst X dX3_size_5 ?_
  refine ne_callV X nw_Tg (me_X3_refuse l hl c q t b k h vt T (by exact ⟨Ic, Iq, It, Ib, Itb, Igb, Ik, Ih, Iv⟩) (by omega) _ _ (by omega) (by omega)) nw_yX3_refuse nw_mX3_72 nw_iX3_refuse nw_eX3_refuse (ci := 5) rfl rfl rfl dX3_size_6 rfl rfl (by decide) (by decide) (by first | decide | omega) (by first | decide | omega) (Nat.le_of_ble_eq_true rfl) rfl rfl (Nat.le_of_ble_eq_true rfl) ?_ ?_
  rotate_left
  · rintro E9 w9 h9; exact h9.elim
  rintro v6 w6 ⟨u6, rfl, Iv, z6, rfl, g6⟩
  refine ne_if_eq (tgt := 16) X dX3_size_9 rfl (by omega) (fun b9 => ?_) (fun b9 => ?_)
  · have hk9 : ((0 ≤ i ∧ i < 4)) ∧ u6 = 0 := by omega
    try clear g2
    try clear g6
    try clear b9
    refine ne_aload_n X dX3_size_16 rfl ?_
    refine ne_iload_n X dX3_size_17 rfl ?_
    refine ne_aload_n X dX3_size_18 rfl ?_
    refine ne_getf X dX3_size_19 nw_fX3_9 rfl rfl ?_
    refine ne_iload_n X dX3_size_22 rfl ?_
    refine ne_ialdR X dX3_size_23 rfl (by omega) Ic (fun v23 e23 f23 u23 => ?_)
    refine ne_i2l (by omega) X dX3_size_24 ?_
    refine ne_callS X nw_Tg (me_X3_sizeOf l hl _ _ (by omega)) nw_yX3_sizeOf nw_mX3_40 nw_sX3_sizeOf dX3_size_25 rfl rfl (by decide) (by decide) (by first | decide | omega) (by first | decide | omega) (Nat.le_of_ble_eq_true rfl) rfl rfl (Nat.le_of_ble_eq_true rfl) ?_ ?_
    rotate_left
    · rintro E9 w9 h9; exact h9.elim
    rintro v25 w25 ⟨rfl, z25, rfl, g25⟩
    refine ne_aload_n X dX3_size_28 rfl ?_
    refine ne_getf X dX3_size_29 nw_fX3_15 rfl rfl ?_
    refine ne_iload_n X dX3_size_32 rfl ?_
    refine ne_ialdR X dX3_size_33 rfl (by omega) Iq (fun v33 e33 f33 u33 => ?_)
    refine ne_callV X nw_Tg (me_X3_comeX l hl c q t b k h u6 T (by exact ⟨Ic, Iq, It, Ib, Itb, Igb, Ik, Ih, Iv⟩) (by omega) _ _ _ (by omega) (by omega) (by omega)) nw_yX3_come nw_mX3_76 nw_iX3_come nw_eX3_come (ci := 5) rfl rfl rfl dX3_size_34 rfl rfl (by decide) (by decide) (by first | decide | omega) (by first | decide | omega) (Nat.le_of_ble_eq_true rfl) rfl rfl (Nat.le_of_ble_eq_true rfl) ?_ ?_
    rotate_left
    · rintro E9 w9 h9; exact h9.elim
    rintro v34 w34 ⟨c34, q34, h34, rfl, hI34, z34, rfl, z934, G34⟩
    exact ne_iret X hr (by first | rfl | decide | rfl) dX3_size_37 ⟨_, _, _, _, _, rfl, hI34, rfl, Or.inr (Or.inr ⟨by omega, by omega, (by rw [← e23, ← e33, show (if 0 ≤ v23 then v23 else -v23) = z25 by split <;> omega]; exact G34)⟩)⟩
  · refine ne_iconst X dX3_size_12 ?_
    refine ne_goto (tgt := 37) X dX3_size_13 rfl ?_
    exact ne_iret X hr (by first | rfl | decide | rfl) dX3_size_37 (by rcases g6 with ⟨h7, h8, h9⟩ | ⟨h6, h7, h8, h9⟩ | ⟨h6, h7, h8, h9⟩; exact ⟨_, _, _, _, _, rfl, ⟨Ic, Iq, It, Ib, Itb, Igb, Ik, ne_rg_mono Ih (by omega) (by omega), Iv⟩, rfl, Or.inl ⟨h8, (by omega), rfl, rfl, rfl⟩⟩; exfalso; omega; exfalso; omega)
set_option maxRecDepth 100000 in
set_option maxHeartbeats 4000000 in
theorem me_X3_addW (l : Launch) (hl : l.stackTraces = false) (c q t b k h : Nat → Int) (vt T : Int) (hI : mI c q t b k h vt T) (hT : 0 ≤ T ∧ T ≤ 1000) (i : Int) (j : Int) (o : Int) (hi : -2147483648 ≤ i ∧ i < 2147483648) (hj : -2147483648 ≤ j ∧ j < 2147483648) (ho : -2147483648 ≤ o ∧ o < 2147483648) : ne_M l nw_cl (.code yX3_add cX3_add 5 (some .int)) nw_T yX3_add 9 330 0 0 [.ref 0, ni i, ni j, ni o] (mW c q t b k h vt) (fun v w => ∃ c1 q1 h1 v1 z, w = mW c1 q1 t b k h1 v1 ∧ mI c1 q1 t b k h1 v1 (T + 1) ∧ v = some (ni z) ∧ ((v1 = 1 ∧ (i < 0 ∨ 4 ≤ i ∨ j < 0 ∨ 4 ≤ j ∨ o < 0 ∨ 4 ≤ o) ∧ c1 = c ∧ q1 = q ∧ h1 = h) ∨ (v1 = 2 ∧ False ∧ c1 = c ∧ q1 = q ∧ h1 = h) ∨ (v1 = 0 ∧ (0 ≤ i ∧ i < 4 ∧ 0 ≤ j ∧ j < 4 ∧ 0 ≤ o ∧ o < 4) ∧ ne_come c q h o (c i.toNat * 10 ^ ((if q i.toNat < q j.toNat then q j.toNat else q i.toNat) - q i.toNat).toNat + c j.toNat * 10 ^ ((if q i.toNat < q j.toNat then q j.toNat else q i.toNat) - q j.toNat).toNat) (if q i.toNat < q j.toNat then q j.toNat else q i.toNat) c1 q1 h1 z))) (fun _ _ => False) := by
  refine ne_meet (own := RX3) hl rfl (by decide +kernel) (Nat.le_of_ble_eq_true rfl) ?_
  intro D ct A P9 V9 R9 S9 M9 as9 bl9 mt9 C9 ad0 X hr hin ht
  obtain ⟨Ic, Iq, It, Ib, Itb, Igb, Ik, Ih, Iv⟩ := hI
  refine ne_aload_n X dX3_add_0 rfl ?_
  refine ne_aload_n X dX3_add_1 rfl ?_
  refine ne_iload_n X dX3_add_2 rfl ?_
  refine ne_iload_n X dX3_add_3 rfl ?_
  refine ne_iload_n X dX3_add_4 rfl ?_
  refine ne_callV X nw_Tg (me_X3_areNoCellsX l hl c q t b k h vt T (by exact ⟨Ic, Iq, It, Ib, Itb, Igb, Ik, Ih, Iv⟩) (by omega) _ _ _ (by omega) (by omega) (by omega)) nw_yX3_areNoCells nw_mX3_80 nw_iX3_areNoCells nw_eX3_areNoCells (ci := 5) rfl rfl rfl dX3_add_5 rfl rfl (by decide) (by decide) (by first | decide | omega) (by first | decide | omega) (Nat.le_of_ble_eq_true rfl) rfl rfl (Nat.le_of_ble_eq_true rfl) ?_ ?_
  rotate_left
  · rintro E9 w9 h9; exact h9.elim
  rintro v5 w5 ⟨rfl, z5, rfl, g5⟩
  refine ne_iconst X dX3_add_8 ?_
  refine ne_callV X nw_Tg (me_X3_refuse l hl c q t b k h vt T (by exact ⟨Ic, Iq, It, Ib, Itb, Igb, Ik, Ih, Iv⟩) (by omega) _ _ (by omega) (by omega)) nw_yX3_refuse nw_mX3_72 nw_iX3_refuse nw_eX3_refuse (ci := 5) rfl rfl rfl dX3_add_9 rfl rfl (by decide) (by decide) (by first | decide | omega) (by first | decide | omega) (Nat.le_of_ble_eq_true rfl) rfl rfl (Nat.le_of_ble_eq_true rfl) ?_ ?_
  rotate_left
  · rintro E9 w9 h9; exact h9.elim
  rintro v9 w9 ⟨u9, rfl, Iv, z9, rfl, g9⟩
  refine ne_if_eq (tgt := 17) X dX3_add_12 rfl (by omega) (fun b12 => ?_) (fun b12 => ?_)
  · have hk9 : ((0 ≤ i ∧ i < 4 ∧ 0 ≤ j ∧ j < 4 ∧ 0 ≤ o ∧ o < 4)) ∧ u9 = 0 := by omega
    try clear g5
    try clear g9
    try clear b12
    refine ne_aload_n X dX3_add_17 rfl ?_
    refine ne_iload_n X dX3_add_18 rfl ?_
    refine ne_iload_n X dX3_add_19 rfl ?_
    refine ne_callV X nw_Tg (me_X3_mostX l hl c q t b k h u9 T (by exact ⟨Ic, Iq, It, Ib, Itb, Igb, Ik, Ih, Iv⟩) (by omega) _ _ (by omega) (by omega)) nw_yX3_most nw_mX3_83 nw_iX3_most nw_eX3_most (ci := 5) rfl rfl rfl dX3_add_20 rfl rfl (by decide) (by decide) (by first | decide | omega) (by first | decide | omega) (Nat.le_of_ble_eq_true rfl) rfl rfl (Nat.le_of_ble_eq_true rfl) ?_ ?_
    rotate_left
    · rintro E9 w9 h9; exact h9.elim
    rintro v20 w20 ⟨rfl, z20, rfl, g20, k20, i20⟩
    refine ne_istore X dX3_add_23 (by decide) ?_
    refine ne_aload_n X dX3_add_25 rfl ?_
    refine ne_iload_n X dX3_add_26 rfl ?_
    refine ne_aload_n X dX3_add_27 rfl ?_
    refine ne_iload_n X dX3_add_28 rfl ?_
    refine ne_iload X dX3_add_29 rfl ?_
    refine ne_callV X nw_Tg (me_X3_unitsX l hl c q t b k h u9 T (by exact ⟨Ic, Iq, It, Ib, Itb, Igb, Ik, Ih, Iv⟩) (by omega) _ _ (by omega) (by omega)) nw_yX3_units nw_mX3_62 nw_iX3_units nw_eX3_units (ci := 5) rfl rfl rfl dX3_add_31 rfl rfl (by decide) (by decide) (by first | decide | omega) (by first | decide | omega) (Nat.le_of_ble_eq_true rfl) rfl rfl (Nat.le_of_ble_eq_true rfl) ?_ ?_
    rotate_left
    · rintro E9 w9 h9; exact h9.elim
    rintro v31 w31 ⟨rfl, z31, rfl, g31, k31, i31⟩
    refine ne_aload_n X dX3_add_34 rfl ?_
    refine ne_iload_n X dX3_add_35 rfl ?_
    refine ne_iload X dX3_add_36 rfl ?_
    refine ne_callV X nw_Tg (me_X3_unitsX l hl c q t b k h u9 T (by exact ⟨Ic, Iq, It, Ib, Itb, Igb, Ik, Ih, Iv⟩) (by omega) _ _ (by omega) (by omega)) nw_yX3_units nw_mX3_62 nw_iX3_units nw_eX3_units (ci := 5) rfl rfl rfl dX3_add_38 rfl rfl (by decide) (by decide) (by first | decide | omega) (by first | decide | omega) (Nat.le_of_ble_eq_true rfl) rfl rfl (Nat.le_of_ble_eq_true rfl) ?_ ?_
    rotate_left
    · rintro E9 w9 h9; exact h9.elim
    rintro v38 w38 ⟨rfl, z38, rfl, g38, k38, i38⟩
    refine ne_ladd X dX3_add_41 ?_
    refine ne_iload X dX3_add_42 rfl ?_
    refine ne_callV X nw_Tg (me_X3_comeX l hl c q t b k h u9 T (by exact ⟨Ic, Iq, It, Ib, Itb, Igb, Ik, Ih, Iv⟩) (by omega) _ _ _ (by omega) (by omega) (by omega)) nw_yX3_come nw_mX3_76 nw_iX3_come nw_eX3_come (ci := 5) rfl rfl rfl dX3_add_44 rfl rfl (by decide) (by decide) (by first | decide | omega) (by first | decide | omega) (Nat.le_of_ble_eq_true rfl) rfl rfl (Nat.le_of_ble_eq_true rfl) ?_ ?_
    rotate_left
    · rintro E9 w9 h9; exact h9.elim
    rintro v44 w44 ⟨c44, q44, h44, rfl, hI44, z44, rfl, z944, G44⟩
    exact ne_iret X hr (by first | rfl | decide | rfl) dX3_add_47 ⟨_, _, _, _, _, rfl, hI44, rfl, Or.inr (Or.inr ⟨by omega, by omega, (by rw [g31, g38, g20] at G44; exact G44)⟩)⟩
  · refine ne_iconst X dX3_add_15 ?_
    exact ne_iret X hr (by first | rfl | decide | rfl) dX3_add_16 (by rcases g9 with ⟨h7, h8, h9⟩ | ⟨h6, h7, h8, h9⟩ | ⟨h6, h7, h8, h9⟩; exact ⟨_, _, _, _, _, rfl, ⟨Ic, Iq, It, Ib, Itb, Igb, Ik, ne_rg_mono Ih (by omega) (by omega), Iv⟩, rfl, Or.inl ⟨h8, (by omega), rfl, rfl, rfl⟩⟩; exfalso; omega; exfalso; omega)
set_option maxRecDepth 100000 in
set_option maxHeartbeats 4000000 in
theorem me_X3_subtractW (l : Launch) (hl : l.stackTraces = false) (c q t b k h : Nat → Int) (vt T : Int) (hI : mI c q t b k h vt T) (hT : 0 ≤ T ∧ T ≤ 1000) (i : Int) (j : Int) (o : Int) (hi : -2147483648 ≤ i ∧ i < 2147483648) (hj : -2147483648 ≤ j ∧ j < 2147483648) (ho : -2147483648 ≤ o ∧ o < 2147483648) : ne_M l nw_cl (.code yX3_subtract cX3_subtract 5 (some .int)) nw_T yX3_subtract 9 330 0 0 [.ref 0, ni i, ni j, ni o] (mW c q t b k h vt) (fun v w => ∃ c1 q1 h1 v1 z, w = mW c1 q1 t b k h1 v1 ∧ mI c1 q1 t b k h1 v1 (T + 1) ∧ v = some (ni z) ∧ ((v1 = 1 ∧ (i < 0 ∨ 4 ≤ i ∨ j < 0 ∨ 4 ≤ j ∨ o < 0 ∨ 4 ≤ o) ∧ c1 = c ∧ q1 = q ∧ h1 = h) ∨ (v1 = 2 ∧ False ∧ c1 = c ∧ q1 = q ∧ h1 = h) ∨ (v1 = 0 ∧ (0 ≤ i ∧ i < 4 ∧ 0 ≤ j ∧ j < 4 ∧ 0 ≤ o ∧ o < 4) ∧ ne_come c q h o (c i.toNat * 10 ^ ((if q i.toNat < q j.toNat then q j.toNat else q i.toNat) - q i.toNat).toNat - c j.toNat * 10 ^ ((if q i.toNat < q j.toNat then q j.toNat else q i.toNat) - q j.toNat).toNat) (if q i.toNat < q j.toNat then q j.toNat else q i.toNat) c1 q1 h1 z))) (fun _ _ => False) := by
  refine ne_meet (own := RX3) hl rfl (by decide +kernel) (Nat.le_of_ble_eq_true rfl) ?_
  intro D ct A P9 V9 R9 S9 M9 as9 bl9 mt9 C9 ad0 X hr hin ht
  obtain ⟨Ic, Iq, It, Ib, Itb, Igb, Ik, Ih, Iv⟩ := hI
  refine ne_aload_n X dX3_subtract_0 rfl ?_
  refine ne_aload_n X dX3_subtract_1 rfl ?_
  refine ne_iload_n X dX3_subtract_2 rfl ?_
  refine ne_iload_n X dX3_subtract_3 rfl ?_
  refine ne_iload_n X dX3_subtract_4 rfl ?_
  refine ne_callV X nw_Tg (me_X3_areNoCellsX l hl c q t b k h vt T (by exact ⟨Ic, Iq, It, Ib, Itb, Igb, Ik, Ih, Iv⟩) (by omega) _ _ _ (by omega) (by omega) (by omega)) nw_yX3_areNoCells nw_mX3_80 nw_iX3_areNoCells nw_eX3_areNoCells (ci := 5) rfl rfl rfl dX3_subtract_5 rfl rfl (by decide) (by decide) (by first | decide | omega) (by first | decide | omega) (Nat.le_of_ble_eq_true rfl) rfl rfl (Nat.le_of_ble_eq_true rfl) ?_ ?_
  rotate_left
  · rintro E9 w9 h9; exact h9.elim
  rintro v5 w5 ⟨rfl, z5, rfl, g5⟩
  refine ne_iconst X dX3_subtract_8 ?_
  refine ne_callV X nw_Tg (me_X3_refuse l hl c q t b k h vt T (by exact ⟨Ic, Iq, It, Ib, Itb, Igb, Ik, Ih, Iv⟩) (by omega) _ _ (by omega) (by omega)) nw_yX3_refuse nw_mX3_72 nw_iX3_refuse nw_eX3_refuse (ci := 5) rfl rfl rfl dX3_subtract_9 rfl rfl (by decide) (by decide) (by first | decide | omega) (by first | decide | omega) (Nat.le_of_ble_eq_true rfl) rfl rfl (Nat.le_of_ble_eq_true rfl) ?_ ?_
  rotate_left
  · rintro E9 w9 h9; exact h9.elim
  rintro v9 w9 ⟨u9, rfl, Iv, z9, rfl, g9⟩
  refine ne_if_eq (tgt := 17) X dX3_subtract_12 rfl (by omega) (fun b12 => ?_) (fun b12 => ?_)
  · have hk9 : ((0 ≤ i ∧ i < 4 ∧ 0 ≤ j ∧ j < 4 ∧ 0 ≤ o ∧ o < 4)) ∧ u9 = 0 := by omega
    try clear g5
    try clear g9
    try clear b12
    refine ne_aload_n X dX3_subtract_17 rfl ?_
    refine ne_iload_n X dX3_subtract_18 rfl ?_
    refine ne_iload_n X dX3_subtract_19 rfl ?_
    refine ne_callV X nw_Tg (me_X3_mostX l hl c q t b k h u9 T (by exact ⟨Ic, Iq, It, Ib, Itb, Igb, Ik, Ih, Iv⟩) (by omega) _ _ (by omega) (by omega)) nw_yX3_most nw_mX3_83 nw_iX3_most nw_eX3_most (ci := 5) rfl rfl rfl dX3_subtract_20 rfl rfl (by decide) (by decide) (by first | decide | omega) (by first | decide | omega) (Nat.le_of_ble_eq_true rfl) rfl rfl (Nat.le_of_ble_eq_true rfl) ?_ ?_
    rotate_left
    · rintro E9 w9 h9; exact h9.elim
    rintro v20 w20 ⟨rfl, z20, rfl, g20, k20, i20⟩
    refine ne_istore X dX3_subtract_23 (by decide) ?_
    refine ne_aload_n X dX3_subtract_25 rfl ?_
    refine ne_iload_n X dX3_subtract_26 rfl ?_
    refine ne_aload_n X dX3_subtract_27 rfl ?_
    refine ne_iload_n X dX3_subtract_28 rfl ?_
    refine ne_iload X dX3_subtract_29 rfl ?_
    refine ne_callV X nw_Tg (me_X3_unitsX l hl c q t b k h u9 T (by exact ⟨Ic, Iq, It, Ib, Itb, Igb, Ik, Ih, Iv⟩) (by omega) _ _ (by omega) (by omega)) nw_yX3_units nw_mX3_62 nw_iX3_units nw_eX3_units (ci := 5) rfl rfl rfl dX3_subtract_31 rfl rfl (by decide) (by decide) (by first | decide | omega) (by first | decide | omega) (Nat.le_of_ble_eq_true rfl) rfl rfl (Nat.le_of_ble_eq_true rfl) ?_ ?_
    rotate_left
    · rintro E9 w9 h9; exact h9.elim
    rintro v31 w31 ⟨rfl, z31, rfl, g31, k31, i31⟩
    refine ne_aload_n X dX3_subtract_34 rfl ?_
    refine ne_iload_n X dX3_subtract_35 rfl ?_
    refine ne_iload X dX3_subtract_36 rfl ?_
    refine ne_callV X nw_Tg (me_X3_unitsX l hl c q t b k h u9 T (by exact ⟨Ic, Iq, It, Ib, Itb, Igb, Ik, Ih, Iv⟩) (by omega) _ _ (by omega) (by omega)) nw_yX3_units nw_mX3_62 nw_iX3_units nw_eX3_units (ci := 5) rfl rfl rfl dX3_subtract_38 rfl rfl (by decide) (by decide) (by first | decide | omega) (by first | decide | omega) (Nat.le_of_ble_eq_true rfl) rfl rfl (Nat.le_of_ble_eq_true rfl) ?_ ?_
    rotate_left
    · rintro E9 w9 h9; exact h9.elim
    rintro v38 w38 ⟨rfl, z38, rfl, g38, k38, i38⟩
    refine ne_lsub X dX3_subtract_41 ?_
    refine ne_iload X dX3_subtract_42 rfl ?_
    refine ne_callV X nw_Tg (me_X3_comeX l hl c q t b k h u9 T (by exact ⟨Ic, Iq, It, Ib, Itb, Igb, Ik, Ih, Iv⟩) (by omega) _ _ _ (by omega) (by omega) (by omega)) nw_yX3_come nw_mX3_76 nw_iX3_come nw_eX3_come (ci := 5) rfl rfl rfl dX3_subtract_44 rfl rfl (by decide) (by decide) (by first | decide | omega) (by first | decide | omega) (Nat.le_of_ble_eq_true rfl) rfl rfl (Nat.le_of_ble_eq_true rfl) ?_ ?_
    rotate_left
    · rintro E9 w9 h9; exact h9.elim
    rintro v44 w44 ⟨c44, q44, h44, rfl, hI44, z44, rfl, z944, G44⟩
    exact ne_iret X hr (by first | rfl | decide | rfl) dX3_subtract_47 ⟨_, _, _, _, _, rfl, hI44, rfl, Or.inr (Or.inr ⟨by omega, by omega, (by rw [g31, g38, g20] at G44; exact G44)⟩)⟩
  · refine ne_iconst X dX3_subtract_15 ?_
    exact ne_iret X hr (by first | rfl | decide | rfl) dX3_subtract_16 (by rcases g9 with ⟨h7, h8, h9⟩ | ⟨h6, h7, h8, h9⟩ | ⟨h6, h7, h8, h9⟩; exact ⟨_, _, _, _, _, rfl, ⟨Ic, Iq, It, Ib, Itb, Igb, Ik, ne_rg_mono Ih (by omega) (by omega), Iv⟩, rfl, Or.inl ⟨h8, (by omega), rfl, rfl, rfl⟩⟩; exfalso; omega; exfalso; omega)
set_option maxRecDepth 100000 in
set_option maxHeartbeats 4000000 in
theorem me_X3_multiplyW (l : Launch) (hl : l.stackTraces = false) (c q t b k h : Nat → Int) (vt T : Int) (hI : mI c q t b k h vt T) (hT : 0 ≤ T ∧ T ≤ 1000) (i : Int) (j : Int) (o : Int) (hi : -2147483648 ≤ i ∧ i < 2147483648) (hj : -2147483648 ≤ j ∧ j < 2147483648) (ho : -2147483648 ≤ o ∧ o < 2147483648) : ne_M l nw_cl (.code yX3_multiply cX3_multiply 4 (some .int)) nw_T yX3_multiply 9 330 0 0 [.ref 0, ni i, ni j, ni o] (mW c q t b k h vt) (fun v w => ∃ c1 q1 h1 v1 z, w = mW c1 q1 t b k h1 v1 ∧ mI c1 q1 t b k h1 v1 (T + 1) ∧ v = some (ni z) ∧ ((v1 = 1 ∧ (i < 0 ∨ 4 ≤ i ∨ j < 0 ∨ 4 ≤ j ∨ o < 0 ∨ 4 ≤ o) ∧ c1 = c ∧ q1 = q ∧ h1 = h) ∨ (v1 = 2 ∧ False ∧ c1 = c ∧ q1 = q ∧ h1 = h) ∨ (v1 = 0 ∧ (0 ≤ i ∧ i < 4 ∧ 0 ≤ j ∧ j < 4 ∧ 0 ≤ o ∧ o < 4) ∧ ne_come c q h o (c i.toNat * c j.toNat) (q i.toNat + q j.toNat) c1 q1 h1 z))) (fun _ _ => False) := by
  refine ne_meet (own := RX3) hl rfl (by decide +kernel) (Nat.le_of_ble_eq_true rfl) ?_
  intro D ct A P9 V9 R9 S9 M9 as9 bl9 mt9 C9 ad0 X hr hin ht
  obtain ⟨Ic, Iq, It, Ib, Itb, Igb, Ik, Ih, Iv⟩ := hI
  refine ne_aload_n X dX3_multiply_0 rfl ?_
  refine ne_aload_n X dX3_multiply_1 rfl ?_
  refine ne_iload_n X dX3_multiply_2 rfl ?_
  refine ne_iload_n X dX3_multiply_3 rfl ?_
  refine ne_iload_n X dX3_multiply_4 rfl ?_
  refine ne_callV X nw_Tg (me_X3_areNoCellsX l hl c q t b k h vt T (by exact ⟨Ic, Iq, It, Ib, Itb, Igb, Ik, Ih, Iv⟩) (by omega) _ _ _ (by omega) (by omega) (by omega)) nw_yX3_areNoCells nw_mX3_80 nw_iX3_areNoCells nw_eX3_areNoCells (ci := 5) rfl rfl rfl dX3_multiply_5 rfl rfl (by decide) (by decide) (by first | decide | omega) (by first | decide | omega) (Nat.le_of_ble_eq_true rfl) rfl rfl (Nat.le_of_ble_eq_true rfl) ?_ ?_
  rotate_left
  · rintro E9 w9 h9; exact h9.elim
  rintro v5 w5 ⟨rfl, z5, rfl, g5⟩
  refine ne_iconst X dX3_multiply_8 ?_
  refine ne_callV X nw_Tg (me_X3_refuse l hl c q t b k h vt T (by exact ⟨Ic, Iq, It, Ib, Itb, Igb, Ik, Ih, Iv⟩) (by omega) _ _ (by omega) (by omega)) nw_yX3_refuse nw_mX3_72 nw_iX3_refuse nw_eX3_refuse (ci := 5) rfl rfl rfl dX3_multiply_9 rfl rfl (by decide) (by decide) (by first | decide | omega) (by first | decide | omega) (Nat.le_of_ble_eq_true rfl) rfl rfl (Nat.le_of_ble_eq_true rfl) ?_ ?_
  rotate_left
  · rintro E9 w9 h9; exact h9.elim
  rintro v9 w9 ⟨u9, rfl, Iv, z9, rfl, g9⟩
  refine ne_if_eq (tgt := 17) X dX3_multiply_12 rfl (by omega) (fun b12 => ?_) (fun b12 => ?_)
  · have hk9 : ((0 ≤ i ∧ i < 4 ∧ 0 ≤ j ∧ j < 4 ∧ 0 ≤ o ∧ o < 4)) ∧ u9 = 0 := by omega
    try clear g5
    try clear g9
    try clear b12
    refine ne_aload_n X dX3_multiply_17 rfl ?_
    refine ne_iload_n X dX3_multiply_18 rfl ?_
    refine ne_aload_n X dX3_multiply_19 rfl ?_
    refine ne_getf X dX3_multiply_20 nw_fX3_9 rfl rfl ?_
    refine ne_iload_n X dX3_multiply_23 rfl ?_
    refine ne_ialdR X dX3_multiply_24 rfl (by omega) Ic (fun v24 e24 f24 u24 => ?_)
    refine ne_i2l (by omega) X dX3_multiply_25 ?_
    refine ne_aload_n X dX3_multiply_26 rfl ?_
    refine ne_getf X dX3_multiply_27 nw_fX3_9 rfl rfl ?_
    refine ne_iload_n X dX3_multiply_30 rfl ?_
    refine ne_ialdR X dX3_multiply_31 rfl (by omega) Ic (fun v31 e31 f31 u31 => ?_)
    refine ne_i2l (by omega) X dX3_multiply_32 ?_
    have m33 := ne_mulS v24 v31 999999 999999 (by omega) (by omega)
    refine ne_lmul X dX3_multiply_33 ?_
    refine ne_aload_n X dX3_multiply_34 rfl ?_
    refine ne_getf X dX3_multiply_35 nw_fX3_15 rfl rfl ?_
    refine ne_iload_n X dX3_multiply_38 rfl ?_
    refine ne_ialdR X dX3_multiply_39 rfl (by omega) Iq (fun v39 e39 f39 u39 => ?_)
    refine ne_aload_n X dX3_multiply_40 rfl ?_
    refine ne_getf X dX3_multiply_41 nw_fX3_15 rfl rfl ?_
    refine ne_iload_n X dX3_multiply_44 rfl ?_
    refine ne_ialdR X dX3_multiply_45 rfl (by omega) Iq (fun v45 e45 f45 u45 => ?_)
    refine ne_iadd X dX3_multiply_46 ?_
    refine ne_callV X nw_Tg (me_X3_comeX l hl c q t b k h u9 T (by exact ⟨Ic, Iq, It, Ib, Itb, Igb, Ik, Ih, Iv⟩) (by omega) _ _ _ (by omega) (by omega) (by omega)) nw_yX3_come nw_mX3_76 nw_iX3_come nw_eX3_come (ci := 5) rfl rfl rfl dX3_multiply_47 rfl rfl (by decide) (by decide) (by first | decide | omega) (by first | decide | omega) (Nat.le_of_ble_eq_true rfl) rfl rfl (Nat.le_of_ble_eq_true rfl) ?_ ?_
    rotate_left
    · rintro E9 w9 h9; exact h9.elim
    rintro v47 w47 ⟨c47, q47, h47, rfl, hI47, z47, rfl, z947, G47⟩
    exact ne_iret X hr (by first | rfl | decide | rfl) dX3_multiply_50 ⟨_, _, _, _, _, rfl, hI47, rfl, Or.inr (Or.inr ⟨by omega, by omega, (by rw [e24, e31, e39, e45] at G47; exact G47)⟩)⟩
  · refine ne_iconst X dX3_multiply_15 ?_
    exact ne_iret X hr (by first | rfl | decide | rfl) dX3_multiply_16 (by rcases g9 with ⟨h7, h8, h9⟩ | ⟨h6, h7, h8, h9⟩ | ⟨h6, h7, h8, h9⟩; exact ⟨_, _, _, _, _, rfl, ⟨Ic, Iq, It, Ib, Itb, Igb, Ik, ne_rg_mono Ih (by omega) (by omega), Iv⟩, rfl, Or.inl ⟨h8, (by omega), rfl, rfl, rfl⟩⟩; exfalso; omega; exfalso; omega)
set_option maxRecDepth 100000 in
set_option maxHeartbeats 4000000 in
theorem me_X3_powerW (l : Launch) (hl : l.stackTraces = false) (c q t b k h : Nat → Int) (vt T : Int) (hI : mI c q t b k h vt T) (hT : 0 ≤ T ∧ T ≤ 1000) (i : Int) (a : Int) (o : Int) (hi : -2147483648 ≤ i ∧ i < 2147483648) (ha : -2147483648 ≤ a ∧ a < 2147483648) (ho : -2147483648 ≤ o ∧ o < 2147483648) : ne_M l nw_cl (.code yX3_power cX3_power 7 (some .int)) nw_T yX3_power 9 330 0 0 [.ref 0, ni i, ni a, ni o] (mW c q t b k h vt) (fun v w => ∃ c1 q1 h1 v1 z, w = mW c1 q1 t b k h1 v1 ∧ mI c1 q1 t b k h1 v1 (T + 1) ∧ v = some (ni z) ∧ ((v1 = 1 ∧ (i < 0 ∨ 4 ≤ i ∨ o < 0 ∨ 4 ≤ o) ∧ c1 = c ∧ q1 = q ∧ h1 = h) ∨ (v1 = 2 ∧ ((0 ≤ i ∧ i < 4 ∧ 0 ≤ o ∧ o < 4) ∧ (a < 0 ∨ 3 < a)) ∧ c1 = c ∧ q1 = q ∧ h1 = h) ∨ (v1 = 0 ∧ ((0 ≤ i ∧ i < 4 ∧ 0 ≤ o ∧ o < 4) ∧ 0 ≤ a ∧ a ≤ 3) ∧ ne_come c q h o (c i.toNat ^ a.toNat) (a * q i.toNat) c1 q1 h1 z))) (fun _ _ => False) := by
  refine ne_meet (own := RX3) hl rfl (by decide +kernel) (Nat.le_of_ble_eq_true rfl) ?_
  intro D ct A P9 V9 R9 S9 M9 as9 bl9 mt9 C9 ad0 X hr hin ht
  obtain ⟨Ic, Iq, It, Ib, Itb, Igb, Ik, Ih, Iv⟩ := hI
  have lp40 : ∀ (n9 : Nat) (r j : Int), (3 - j).toNat < n9 → (0 ≤ j) → (j ≤ a) → (0 ≤ a ∧ a ≤ 3) → (0 ≤ i ∧ i < 4) → (0 ≤ o ∧ o < 4) → (r = c i.toNat ^ j.toNat) → ne_G nw_cl D ct A 7 ad0 P9 l V9 R9 S9 M9 as9 bl9 mt9 C9 (ne_O nw_cl D ct ad0 7 A bl9 as9 S9 0 0 (fun v w => ∃ c1 q1 h1 v1 z, w = mW c1 q1 t b k h1 v1 ∧ mI c1 q1 t b k h1 v1 (T + 1) ∧ v = some (ni z) ∧ ((v1 = 1 ∧ (i < 0 ∨ 4 ≤ i ∨ o < 0 ∨ 4 ≤ o) ∧ c1 = c ∧ q1 = q ∧ h1 = h) ∨ (v1 = 2 ∧ ((0 ≤ i ∧ i < 4 ∧ 0 ≤ o ∧ o < 4) ∧ (a < 0 ∨ 3 < a)) ∧ c1 = c ∧ q1 = q ∧ h1 = h) ∨ (v1 = 0 ∧ ((0 ≤ i ∧ i < 4 ∧ 0 ≤ o ∧ o < 4) ∧ 0 ≤ a ∧ a ≤ 3) ∧ ne_come c q h o (c i.toNat ^ a.toNat) (a * q i.toNat) c1 q1 h1 z))) (fun _ _ => False)) 7 0 0 0 0 40 [some (.ref 0), some (ni i), some (ni a), some (ni o), some (nl r), none, some (ni j)] [] (mW c q t b k h 0) := by
    intro n9
    induction n9 with
    | zero => intro r j hm9 q1 q2 q5 q6 q7 q9; exfalso; omega
    | succ n9 ih =>
      intro r j hm9 q1 q2 q5 q6 q7 q9
      have Iv : (0 : Int) ≤ 0 ∧ (0 : Int) ≤ 2 := by omega
      refine ne_iload X dX3_power_40 rfl ?_
      refine ne_iload_n X dX3_power_42 rfl ?_
      refine ne_icmp_ge (tgt := 64) X dX3_power_43 rfl (by omega) (by omega) (fun b43 => ?_) (fun b43 => ?_)
      · have hja : j = a := by omega
        have hc9 := Ic i.toNat
        have r46 : -999997000002999999 ≤ r ∧ r ≤ 999997000002999999 := by rw [q9]; exact ne_pw3 _ hc9 _ (by omega)
        refine ne_aload_n X dX3_power_64 rfl ?_
        refine ne_iload_n X dX3_power_65 rfl ?_
        refine ne_lload X dX3_power_66 rfl ?_
        refine ne_iload_n X dX3_power_68 rfl ?_
        refine ne_aload_n X dX3_power_69 rfl ?_
        refine ne_getf X dX3_power_70 nw_fX3_15 rfl rfl ?_
        refine ne_iload_n X dX3_power_73 rfl ?_
        refine ne_ialdR X dX3_power_74 rfl (by omega) Iq (fun v74 e74 f74 u74 => ?_)
        have m75 := ne_mul a v74 3 3 (by omega) (by omega)
        have m76 : 0 ≤ a * v74 := Int.mul_nonneg (by omega) (by omega)
        refine ne_imul X dX3_power_75 ?_
        refine ne_callV X nw_Tg (me_X3_comeX l hl c q t b k h 0 T (by exact ⟨Ic, Iq, It, Ib, Itb, Igb, Ik, Ih, Iv⟩) (by omega) _ _ _ (by omega) (by omega) (by omega)) nw_yX3_come nw_mX3_76 nw_iX3_come nw_eX3_come (ci := 5) rfl rfl rfl dX3_power_76 rfl rfl (by decide) (by decide) (by first | decide | omega) (by first | decide | omega) (Nat.le_of_ble_eq_true rfl) rfl rfl (Nat.le_of_ble_eq_true rfl) ?_ ?_
        rotate_left
        · rintro E9 w9 h9; exact h9.elim
        rintro v76 w76 ⟨c76, q76, h76, rfl, hI76, z76, rfl, z976, G76⟩
        exact ne_iret X hr (by first | rfl | decide | rfl) dX3_power_79 ⟨_, _, _, _, _, rfl, hI76, rfl, Or.inr (Or.inr ⟨by omega, by omega, (by rw [q9, e74, hja] at G76; exact G76)⟩)⟩
      · refine ne_lload X dX3_power_46 rfl ?_
        refine ne_aload_n X dX3_power_48 rfl ?_
        refine ne_getf X dX3_power_49 nw_fX3_9 rfl rfl ?_
        refine ne_iload_n X dX3_power_52 rfl ?_
        refine ne_ialdR X dX3_power_53 rfl (by omega) Ic (fun v53 e53 f53 u53 => ?_)
        refine ne_i2l (by omega) X dX3_power_54 ?_
        refine ne_lmul X dX3_power_55 ?_
        refine ne_lstore X dX3_power_56 (by decide) ?_
        refine ne_iinc X dX3_power_58 rfl (by decide) ?_
        refine ne_ll (L' := [some (.ref 0), some (ni _), some (ni _), some (ni _), some (nl _), none, some (ni _)]) rfl ?_
        refine ne_goto (tgt := 40) X dX3_power_61 rfl ?_
        exact ih _ _ (by omega) (by omega) (by omega) (by omega) (by omega) (by omega) (by rw [show (j + 1).toNat = j.toNat + 1 by omega, Int.pow_succ, q9, e53])
  refine ne_aload_n X dX3_power_0 rfl ?_
  refine ne_iload_n X dX3_power_1 rfl ?_
  refine ne_callS X nw_Tg (me_X3_isNoCell l hl _ _ (by omega)) nw_yX3_isNoCell nw_mX3_66 nw_sX3_isNoCell dX3_power_2 rfl rfl (by decide) (by decide) (by first | decide | omega) (by first | decide | omega) (Nat.le_of_ble_eq_true rfl) rfl rfl (Nat.le_of_ble_eq_true rfl) ?_ ?_
  rotate_left
  · rintro E9 w9 h9; exact h9.elim
  rintro v2 w2 ⟨rfl, z2, rfl, g2⟩
  refine ne_if_ne (tgt := 15) X dX3_power_5 rfl (by omega) (fun b5 => ?_) (fun b5 => ?_)
  · refine ne_iconst X dX3_power_15 ?_
    refine ne_goto (tgt := 20) X dX3_power_16 rfl ?_
    refine ne_iload_n X dX3_power_20 rfl ?_
    refine ne_iconst X dX3_power_21 ?_
    refine ne_iconst X dX3_power_22 ?_
    refine ne_callS X nw_Tg (me_X3_isOut l hl _ _ _ _ (by omega) (by omega) (by omega)) nw_yX3_isOut nw_mX3_34 nw_sX3_isOut dX3_power_23 rfl rfl (by decide) (by decide) (by first | decide | omega) (by first | decide | omega) (Nat.le_of_ble_eq_true rfl) rfl rfl (Nat.le_of_ble_eq_true rfl) ?_ ?_
    rotate_left
    · rintro E9 w9 h9; exact h9.elim
    rintro v23 w23 ⟨rfl, z23, rfl, g23⟩
    refine ne_callV X nw_Tg (me_X3_refuse l hl c q t b k h vt T (by exact ⟨Ic, Iq, It, Ib, Itb, Igb, Ik, Ih, Iv⟩) (by omega) _ _ (by omega) (by omega)) nw_yX3_refuse nw_mX3_72 nw_iX3_refuse nw_eX3_refuse (ci := 5) rfl rfl rfl dX3_power_26 rfl rfl (by decide) (by decide) (by first | decide | omega) (by first | decide | omega) (Nat.le_of_ble_eq_true rfl) rfl rfl (Nat.le_of_ble_eq_true rfl) ?_ ?_
    rotate_left
    · rintro E9 w9 h9; exact h9.elim
    rintro v26 w26 ⟨u26, rfl, Iv, z26, rfl, g26⟩
    refine ne_if_eq (tgt := 34) X dX3_power_29 rfl (by omega) (fun b29 => ?_) (fun b29 => ?_)
    · exfalso; omega
    · refine ne_iconst X dX3_power_32 ?_
      exact ne_iret X hr (by first | rfl | decide | rfl) dX3_power_33 (by rcases g26 with ⟨h7, h8, h9⟩ | ⟨h6, h7, h8, h9⟩ | ⟨h6, h7, h8, h9⟩; exact ⟨_, _, _, _, _, rfl, ⟨Ic, Iq, It, Ib, Itb, Igb, Ik, ne_rg_mono Ih (by omega) (by omega), Iv⟩, rfl, Or.inl ⟨h8, (by omega), rfl, rfl, rfl⟩⟩; exact ⟨_, _, _, _, _, rfl, ⟨Ic, Iq, It, Ib, Itb, Igb, Ik, ne_rg_mono Ih (by omega) (by omega), Iv⟩, rfl, Or.inr (Or.inl ⟨h8, (by omega), rfl, rfl, rfl⟩)⟩; exfalso; omega)
  · refine ne_iload_n X dX3_power_8 rfl ?_
    refine ne_callS X nw_Tg (me_X3_isNoCell l hl _ _ (by omega)) nw_yX3_isNoCell nw_mX3_66 nw_sX3_isNoCell dX3_power_9 rfl rfl (by decide) (by decide) (by first | decide | omega) (by first | decide | omega) (Nat.le_of_ble_eq_true rfl) rfl rfl (Nat.le_of_ble_eq_true rfl) ?_ ?_
    rotate_left
    · rintro E9 w9 h9; exact h9.elim
    rintro v9 w9 ⟨rfl, z9, rfl, g9⟩
    refine ne_if_eq (tgt := 19) X dX3_power_12 rfl (by omega) (fun b12 => ?_) (fun b12 => ?_)
    · refine ne_iconst X dX3_power_19 ?_
      refine ne_iload_n X dX3_power_20 rfl ?_
      refine ne_iconst X dX3_power_21 ?_
      refine ne_iconst X dX3_power_22 ?_
      refine ne_callS X nw_Tg (me_X3_isOut l hl _ _ _ _ (by omega) (by omega) (by omega)) nw_yX3_isOut nw_mX3_34 nw_sX3_isOut dX3_power_23 rfl rfl (by decide) (by decide) (by first | decide | omega) (by first | decide | omega) (Nat.le_of_ble_eq_true rfl) rfl rfl (Nat.le_of_ble_eq_true rfl) ?_ ?_
      rotate_left
      · rintro E9 w9 h9; exact h9.elim
      rintro v23 w23 ⟨rfl, z23, rfl, g23⟩
      refine ne_callV X nw_Tg (me_X3_refuse l hl c q t b k h vt T (by exact ⟨Ic, Iq, It, Ib, Itb, Igb, Ik, Ih, Iv⟩) (by omega) _ _ (by omega) (by omega)) nw_yX3_refuse nw_mX3_72 nw_iX3_refuse nw_eX3_refuse (ci := 5) rfl rfl rfl dX3_power_26 rfl rfl (by decide) (by decide) (by first | decide | omega) (by first | decide | omega) (Nat.le_of_ble_eq_true rfl) rfl rfl (Nat.le_of_ble_eq_true rfl) ?_ ?_
      rotate_left
      · rintro E9 w9 h9; exact h9.elim
      rintro v26 w26 ⟨u26, rfl, Iv, z26, rfl, g26⟩
      refine ne_if_eq (tgt := 34) X dX3_power_29 rfl (by omega) (fun b29 => ?_) (fun b29 => ?_)
      · have hk9 : (((0 ≤ i ∧ i < 4 ∧ 0 ≤ o ∧ o < 4) ∧ 0 ≤ a ∧ a ≤ 3)) ∧ u26 = 0 := by omega
        try clear g2
        try clear b5
        try clear g9
        try clear b12
        try clear g23
        try clear g26
        try clear b29
        refine ne_lconst (z := 1) (by decide) X dX3_power_34 ?_
        refine ne_lstore X dX3_power_35 (by decide) ?_
        refine ne_iconst X dX3_power_37 ?_
        refine ne_istore X dX3_power_38 (by decide) ?_
        refine ne_ll (L' := [some (.ref 0), some (ni _), some (ni _), some (ni _), some (nl _), none, some (ni _)]) rfl ?_
        obtain rfl : u26 = 0 := by omega
        exact lp40 _ 1 0 (Nat.lt_succ_self _) (by omega) (by omega) (by omega) (by omega) (by omega) (by rw [show ((0 : Int)).toNat = 0 from rfl, Int.pow_zero])
      · refine ne_iconst X dX3_power_32 ?_
        exact ne_iret X hr (by first | rfl | decide | rfl) dX3_power_33 (by rcases g26 with ⟨h7, h8, h9⟩ | ⟨h6, h7, h8, h9⟩ | ⟨h6, h7, h8, h9⟩; exact ⟨_, _, _, _, _, rfl, ⟨Ic, Iq, It, Ib, Itb, Igb, Ik, ne_rg_mono Ih (by omega) (by omega), Iv⟩, rfl, Or.inl ⟨h8, (by omega), rfl, rfl, rfl⟩⟩; exact ⟨_, _, _, _, _, rfl, ⟨Ic, Iq, It, Ib, Itb, Igb, Ik, ne_rg_mono Ih (by omega) (by omega), Iv⟩, rfl, Or.inr (Or.inl ⟨h8, (by omega), rfl, rfl, rfl⟩)⟩; exfalso; omega)
    · refine ne_iconst X dX3_power_15 ?_
      refine ne_goto (tgt := 20) X dX3_power_16 rfl ?_
      refine ne_iload_n X dX3_power_20 rfl ?_
      refine ne_iconst X dX3_power_21 ?_
      refine ne_iconst X dX3_power_22 ?_
      refine ne_callS X nw_Tg (me_X3_isOut l hl _ _ _ _ (by omega) (by omega) (by omega)) nw_yX3_isOut nw_mX3_34 nw_sX3_isOut dX3_power_23 rfl rfl (by decide) (by decide) (by first | decide | omega) (by first | decide | omega) (Nat.le_of_ble_eq_true rfl) rfl rfl (Nat.le_of_ble_eq_true rfl) ?_ ?_
      rotate_left
      · rintro E9 w9 h9; exact h9.elim
      rintro v23 w23 ⟨rfl, z23, rfl, g23⟩
      refine ne_callV X nw_Tg (me_X3_refuse l hl c q t b k h vt T (by exact ⟨Ic, Iq, It, Ib, Itb, Igb, Ik, Ih, Iv⟩) (by omega) _ _ (by omega) (by omega)) nw_yX3_refuse nw_mX3_72 nw_iX3_refuse nw_eX3_refuse (ci := 5) rfl rfl rfl dX3_power_26 rfl rfl (by decide) (by decide) (by first | decide | omega) (by first | decide | omega) (Nat.le_of_ble_eq_true rfl) rfl rfl (Nat.le_of_ble_eq_true rfl) ?_ ?_
      rotate_left
      · rintro E9 w9 h9; exact h9.elim
      rintro v26 w26 ⟨u26, rfl, Iv, z26, rfl, g26⟩
      refine ne_if_eq (tgt := 34) X dX3_power_29 rfl (by omega) (fun b29 => ?_) (fun b29 => ?_)
      · exfalso; omega
      · refine ne_iconst X dX3_power_32 ?_
        exact ne_iret X hr (by first | rfl | decide | rfl) dX3_power_33 (by rcases g26 with ⟨h7, h8, h9⟩ | ⟨h6, h7, h8, h9⟩ | ⟨h6, h7, h8, h9⟩; exact ⟨_, _, _, _, _, rfl, ⟨Ic, Iq, It, Ib, Itb, Igb, Ik, ne_rg_mono Ih (by omega) (by omega), Iv⟩, rfl, Or.inl ⟨h8, (by omega), rfl, rfl, rfl⟩⟩; exact ⟨_, _, _, _, _, rfl, ⟨Ic, Iq, It, Ib, Itb, Igb, Ik, ne_rg_mono Ih (by omega) (by omega), Iv⟩, rfl, Or.inr (Or.inl ⟨h8, (by omega), rfl, rfl, rfl⟩)⟩; exfalso; omega)
set_option maxRecDepth 100000 in
set_option maxHeartbeats 4000000 in
theorem me_X3_divideW (l : Launch) (hl : l.stackTraces = false) (c q t b k h : Nat → Int) (vt T : Int) (hI : mI c q t b k h vt T) (hT : 0 ≤ T ∧ T ≤ 1000) (i : Int) (j : Int) (p : Int) (w0 : Int) (o : Int) (hi : -2147483648 ≤ i ∧ i < 2147483648) (hj : -2147483648 ≤ j ∧ j < 2147483648) (hp : -2147483648 ≤ p ∧ p < 2147483648) (hw0 : -2147483648 ≤ w0 ∧ w0 < 2147483648) (ho : -2147483648 ≤ o ∧ o < 2147483648) : ne_M l nw_cl (.code yX3_divide cX3_divide 10 (some .int)) nw_T yX3_divide 9 330 0 0 [.ref 0, ni i, ni j, ni p, ni w0, ni o] (mW c q t b k h vt) (fun v w => ∃ c1 q1 h1 v1 z, w = mW c1 q1 t b k h1 v1 ∧ mI c1 q1 t b k h1 v1 (T + 1) ∧ v = some (ni z) ∧ ((v1 = 1 ∧ (i < 0 ∨ 4 ≤ i ∨ j < 0 ∨ 4 ≤ j ∨ o < 0 ∨ 4 ≤ o) ∧ c1 = c ∧ q1 = q ∧ h1 = h) ∨ (v1 = 2 ∧ ((0 ≤ i ∧ i < 4 ∧ 0 ≤ j ∧ j < 4 ∧ 0 ≤ o ∧ o < 4) ∧ (p < 0 ∨ 3 < p ∨ w0 < 0 ∨ 7 < w0)) ∧ c1 = c ∧ q1 = q ∧ h1 = h) ∨ (v1 = 0 ∧ ((0 ≤ i ∧ i < 4 ∧ 0 ≤ j ∧ j < 4 ∧ 0 ≤ o ∧ o < 4) ∧ 0 ≤ p ∧ p ≤ 3 ∧ 0 ≤ w0 ∧ w0 ≤ 7) ∧ ne_Adiv c q h i j p w0 o c1 q1 h1 z))) (fun _ _ => False) := by
  refine ne_meet (own := RX3) hl rfl (by decide +kernel) (Nat.le_of_ble_eq_true rfl) ?_
  intro D ct A P9 V9 R9 S9 M9 as9 bl9 mt9 C9 ad0 X hr hin ht
  obtain ⟨Ic, Iq, It, Ib, Itb, Igb, Ik, Ih, Iv⟩ := hI
  refine ne_aload_n X dX3_divide_0 rfl ?_
  refine ne_aload_n X dX3_divide_1 rfl ?_
  refine ne_iload_n X dX3_divide_2 rfl ?_
  refine ne_iload_n X dX3_divide_3 rfl ?_
  refine ne_iload X dX3_divide_4 rfl ?_
  refine ne_callV X nw_Tg (me_X3_areNoCellsX l hl c q t b k h vt T (by exact ⟨Ic, Iq, It, Ib, Itb, Igb, Ik, Ih, Iv⟩) (by omega) _ _ _ (by omega) (by omega) (by omega)) nw_yX3_areNoCells nw_mX3_80 nw_iX3_areNoCells nw_eX3_areNoCells (ci := 5) rfl rfl rfl dX3_divide_6 rfl rfl (by decide) (by decide) (by first | decide | omega) (by first | decide | omega) (Nat.le_of_ble_eq_true rfl) rfl rfl (Nat.le_of_ble_eq_true rfl) ?_ ?_
  rotate_left
  · rintro E9 w9 h9; exact h9.elim
  rintro v6 w6 ⟨rfl, z6, rfl, g6⟩
  refine ne_iload_n X dX3_divide_9 rfl ?_
  refine ne_iload X dX3_divide_10 rfl ?_
  refine ne_iconst X dX3_divide_12 ?_
  refine ne_callS X nw_Tg (me_X3_isNoCut l hl _ _ _ _ (by omega) (by omega) (by omega)) nw_yX3_isNoCut nw_mX3_87 nw_sX3_isNoCut dX3_divide_13 rfl rfl (by decide) (by decide) (by first | decide | omega) (by first | decide | omega) (Nat.le_of_ble_eq_true rfl) rfl rfl (Nat.le_of_ble_eq_true rfl) ?_ ?_
  rotate_left
  · rintro E9 w9 h9; exact h9.elim
  rintro v13 w13 ⟨rfl, z13, rfl, g13⟩
  refine ne_callV X nw_Tg (me_X3_refuse l hl c q t b k h vt T (by exact ⟨Ic, Iq, It, Ib, Itb, Igb, Ik, Ih, Iv⟩) (by omega) _ _ (by omega) (by omega)) nw_yX3_refuse nw_mX3_72 nw_iX3_refuse nw_eX3_refuse (ci := 5) rfl rfl rfl dX3_divide_16 rfl rfl (by decide) (by decide) (by first | decide | omega) (by first | decide | omega) (Nat.le_of_ble_eq_true rfl) rfl rfl (Nat.le_of_ble_eq_true rfl) ?_ ?_
  rotate_left
  · rintro E9 w9 h9; exact h9.elim
  rintro v16 w16 ⟨u16, rfl, Iv, z16, rfl, g16⟩
  refine ne_if_eq (tgt := 24) X dX3_divide_19 rfl (by omega) (fun b19 => ?_) (fun b19 => ?_)
  · have hk9 : (((0 ≤ i ∧ i < 4 ∧ 0 ≤ j ∧ j < 4 ∧ 0 ≤ o ∧ o < 4) ∧ 0 ≤ p ∧ p ≤ 3 ∧ 0 ≤ w0 ∧ w0 ≤ 7)) ∧ u16 = 0 := by omega
    try clear g6
    try clear g13
    try clear g16
    try clear b19
    refine ne_aload_n X dX3_divide_24 rfl ?_
    refine ne_iload_n X dX3_divide_25 rfl ?_
    refine ne_iconst X dX3_divide_26 ?_
    refine ne_callV X nw_Tg (me_X3_unitsX l hl c q t b k h u16 T (by exact ⟨Ic, Iq, It, Ib, Itb, Igb, Ik, Ih, Iv⟩) (by omega) _ _ (by omega) (by omega)) nw_yX3_units nw_mX3_62 nw_iX3_units nw_eX3_units (ci := 5) rfl rfl rfl dX3_divide_27 rfl rfl (by decide) (by decide) (by first | decide | omega) (by first | decide | omega) (Nat.le_of_ble_eq_true rfl) rfl rfl (Nat.le_of_ble_eq_true rfl) ?_ ?_
    rotate_left
    · rintro E9 w9 h9; exact h9.elim
    rintro v27 w27 ⟨rfl, z27, rfl, g27, k27, i27⟩
    refine ne_lstore X dX3_divide_30 (by decide) ?_
    have hq7 := Iq j.toNat
    refine ne_lload X dX3_divide_32 rfl ?_
    refine ne_lconst (z := 0) (by decide) X dX3_divide_34 ?_
    refine ne_lcif_ne (tgt := 44) X dX3_divide_35 dX3_divide_36 rfl (by omega) (by omega) (fun b36 => ?_) (fun b36 => ?_)
    · refine ne_aload_n X dX3_divide_44 rfl ?_
      refine ne_iload_n X dX3_divide_45 rfl ?_
      refine ne_iconst X dX3_divide_46 ?_
      refine ne_callV X nw_Tg (me_X3_unitsX l hl c q t b k h u16 T (by exact ⟨Ic, Iq, It, Ib, Itb, Igb, Ik, Ih, Iv⟩) (by omega) _ _ (by omega) (by omega)) nw_yX3_units nw_mX3_62 nw_iX3_units nw_eX3_units (ci := 5) rfl rfl rfl dX3_divide_47 rfl rfl (by decide) (by decide) (by first | decide | omega) (by first | decide | omega) (Nat.le_of_ble_eq_true rfl) rfl rfl (Nat.le_of_ble_eq_true rfl) ?_ ?_
      rotate_left
      · rintro E9 w9 h9; exact h9.elim
      rintro v47 w47 ⟨rfl, z47, rfl, g47, k47, i47⟩
      refine ne_iload_n X dX3_divide_50 rfl ?_
      refine ne_callS X nw_Tg (me_X3_ten l hl _ _ (by omega)) nw_yX3_ten nw_mX3_58 nw_sX3_ten dX3_divide_51 rfl rfl (by decide) (by decide) (by first | decide | omega) (by first | decide | omega) (Nat.le_of_ble_eq_true rfl) rfl rfl (Nat.le_of_ble_eq_true rfl) ?_ ?_
      rotate_left
      · rintro E9 w9 h9; exact h9.elim
      rintro v51 w51 ⟨rfl, z51, rfl, g51, k51, i51, j51, m51, o51, p51⟩
      have t519 := i51 (by omega)
      clear i51 j51 m51 o51 p51
      have m51 := ne_mul z47 z51 1000000000 1000 (by omega) (by omega)
      have hq8 := Iq j.toNat
      have hq9 := Iq i.toNat
      refine ne_lmul X dX3_divide_54 ?_
      refine ne_lstore X dX3_divide_55 (by decide) ?_
      refine ne_ll (L' := [some (.ref 0), some (ni _), some (ni _), some (ni _), some (ni _), some (ni _), some (nl _), none, some (nl _), none]) rfl ?_
      refine ne_aload_n X dX3_divide_57 rfl ?_
      refine ne_iload X dX3_divide_58 rfl ?_
      refine ne_lload X dX3_divide_60 rfl ?_
      refine ne_lconst (z := 0) (by decide) X dX3_divide_62 ?_
      refine ne_lcif_ge (tgt := 81) X dX3_divide_63 dX3_divide_64 rfl (by omega) (by omega) (fun b64 => ?_) (fun b64 => ?_)
      · refine ne_lload X dX3_divide_81 rfl ?_
        refine ne_lload X dX3_divide_83 rfl ?_
        refine ne_iload X dX3_divide_85 rfl ?_
        refine ne_callS X nw_Tg (me_X3_roundedX l hl _ 1000000000000 _ _ _ (by omega) (by omega) (by omega) (by omega)) nw_yX3_rounded nw_mX3_90 nw_sX3_rounded dX3_divide_87 rfl rfl (by decide) (by decide) (by first | decide | omega) (by first | decide | omega) (Nat.le_of_ble_eq_true rfl) rfl rfl (Nat.le_of_ble_eq_true rfl) ?_ ?_
        rotate_left
        · rintro E9 w9 h9; exact h9.elim
        rintro v87 w87 ⟨rfl, z87, rfl, g87⟩
        refine ne_iload_n X dX3_divide_90 rfl ?_
        refine ne_callV X nw_Tg (me_X3_comeX l hl c q t b k h u16 T (by exact ⟨Ic, Iq, It, Ib, Itb, Igb, Ik, Ih, Iv⟩) (by omega) _ _ _ (by omega) (by omega) (by omega)) nw_yX3_come nw_mX3_76 nw_iX3_come nw_eX3_come (ci := 5) rfl rfl rfl dX3_divide_91 rfl rfl (by decide) (by decide) (by first | decide | omega) (by first | decide | omega) (Nat.le_of_ble_eq_true rfl) rfl rfl (Nat.le_of_ble_eq_true rfl) ?_ ?_
        rotate_left
        · rintro E9 w9 h9; exact h9.elim
        rintro v91 w91 ⟨c91, q91, h91, rfl, hI91, z91, rfl, z991, G91⟩
        exact ne_iret X hr (by first | rfl | decide | rfl) dX3_divide_94 ⟨_, _, _, _, _, rfl, hI91, rfl, Or.inr (Or.inr ⟨by omega, by omega, Or.inr ⟨ne_mn (y := 10 ^ (3 - q j.toNat).toNat) (by rw [← g27]; omega), _, _, (by omega), (by rw [g27, g47, g51]; exact ne_dvE _ _ _ _ _ hq8 hq9), ne_rcC (by decide) g87 G91⟩⟩)⟩
      · refine ne_lload X dX3_divide_67 rfl ?_
        refine ne_lneg X dX3_divide_69 ?_
        refine ne_lload X dX3_divide_70 rfl ?_
        refine ne_lneg X dX3_divide_72 ?_
        refine ne_iload X dX3_divide_73 rfl ?_
        refine ne_callS X nw_Tg (me_X3_roundedX l hl _ 1000000000000 _ _ _ (by omega) (by omega) (by omega) (by omega)) nw_yX3_rounded nw_mX3_90 nw_sX3_rounded dX3_divide_75 rfl rfl (by decide) (by decide) (by first | decide | omega) (by first | decide | omega) (Nat.le_of_ble_eq_true rfl) rfl rfl (Nat.le_of_ble_eq_true rfl) ?_ ?_
        rotate_left
        · rintro E9 w9 h9; exact h9.elim
        rintro v75 w75 ⟨rfl, z75, rfl, g75⟩
        refine ne_goto (tgt := 90) X dX3_divide_78 rfl ?_
        refine ne_iload_n X dX3_divide_90 rfl ?_
        refine ne_callV X nw_Tg (me_X3_comeX l hl c q t b k h u16 T (by exact ⟨Ic, Iq, It, Ib, Itb, Igb, Ik, Ih, Iv⟩) (by omega) _ _ _ (by omega) (by omega) (by omega)) nw_yX3_come nw_mX3_76 nw_iX3_come nw_eX3_come (ci := 5) rfl rfl rfl dX3_divide_91 rfl rfl (by decide) (by decide) (by first | decide | omega) (by first | decide | omega) (Nat.le_of_ble_eq_true rfl) rfl rfl (Nat.le_of_ble_eq_true rfl) ?_ ?_
        rotate_left
        · rintro E9 w9 h9; exact h9.elim
        rintro v91 w91 ⟨c91, q91, h91, rfl, hI91, z91, rfl, z991, G91⟩
        exact ne_iret X hr (by first | rfl | decide | rfl) dX3_divide_94 ⟨_, _, _, _, _, rfl, hI91, rfl, Or.inr (Or.inr ⟨by omega, by omega, Or.inr ⟨ne_mn (y := 10 ^ (3 - q j.toNat).toNat) (by rw [← g27]; omega), _, _, (by omega), (by rw [g27, g47, g51]; rw [Int.neg_mul, Int.mul_neg, ne_dvE _ _ _ _ _ hq8 hq9]), ne_rcC (by decide) g75 G91⟩⟩)⟩
    · refine ne_aload_n X dX3_divide_39 rfl ?_
      refine ne_callV X nw_Tg (me_X3_nayX l hl c q t b k h u16 T (by exact ⟨Ic, Iq, It, Ib, Itb, Igb, Ik, Ih, Iv⟩) (by omega)) nw_yX3_nay nw_mX3_54 nw_iX3_nay nw_eX3_nay (ci := 5) rfl rfl rfl dX3_divide_40 rfl rfl (by decide) (by decide) (by first | decide | omega) (by first | decide | omega) (Nat.le_of_ble_eq_true rfl) rfl rfl (Nat.le_of_ble_eq_true rfl) ?_ ?_
      rotate_left
      · rintro E9 w9 h9; exact h9.elim
      rintro v40 w40 ⟨h40, rfl, Ih, p40, rfl⟩
      exact ne_iret X hr (by first | rfl | decide | rfl) dX3_divide_43 ⟨_, _, _, _, _, rfl, ⟨Ic, Iq, It, Ib, Itb, Igb, Ik, Ih, Iv⟩, rfl, Or.inr (Or.inr ⟨by omega, by omega, Or.inl ⟨ne_mz (y := 10 ^ (3 - q j.toNat).toNat) (by rw [← g27]; omega) (ne_p10 _ (by omega)).1, ⟨rfl, rfl, p40, rfl⟩⟩⟩)⟩
  · refine ne_iconst X dX3_divide_22 ?_
    exact ne_iret X hr (by first | rfl | decide | rfl) dX3_divide_23 (by rcases g16 with ⟨h7, h8, h9⟩ | ⟨h6, h7, h8, h9⟩ | ⟨h6, h7, h8, h9⟩; exact ⟨_, _, _, _, _, rfl, ⟨Ic, Iq, It, Ib, Itb, Igb, Ik, ne_rg_mono Ih (by omega) (by omega), Iv⟩, rfl, Or.inl ⟨h8, (by omega), rfl, rfl, rfl⟩⟩; exact ⟨_, _, _, _, _, rfl, ⟨Ic, Iq, It, Ib, Itb, Igb, Ik, ne_rg_mono Ih (by omega) (by omega), Iv⟩, rfl, Or.inr (Or.inl ⟨h8, (by omega), rfl, rfl, rfl⟩)⟩; exfalso; omega)
set_option maxRecDepth 100000 in
set_option maxHeartbeats 4000000 in
theorem me_X3_shareW (l : Launch) (hl : l.stackTraces = false) (c q t b k h : Nat → Int) (vt T : Int) (hI : mI c q t b k h vt T) (hT : 0 ≤ T ∧ T ≤ 1000) (i : Int) (a : Int) (o : Int) (hi : -2147483648 ≤ i ∧ i < 2147483648) (ha : -2147483648 ≤ a ∧ a < 2147483648) (ho : -2147483648 ≤ o ∧ o < 2147483648) : ne_M l nw_cl (.code yX3_share cX3_share 5 (some .int)) nw_T yX3_share 9 330 0 0 [.ref 0, ni i, ni a, ni o] (mW c q t b k h vt) (fun v w => ∃ c1 q1 h1 v1 z, w = mW c1 q1 t b k h1 v1 ∧ mI c1 q1 t b k h1 v1 (T + 1) ∧ v = some (ni z) ∧ ((v1 = 1 ∧ (i < 0 ∨ 4 ≤ i ∨ o < 0 ∨ 4 ≤ o) ∧ c1 = c ∧ q1 = q ∧ h1 = h) ∨ (v1 = 2 ∧ ((0 ≤ i ∧ i < 4 ∧ 0 ≤ o ∧ o < 4) ∧ (a < -99 ∨ 99 < a)) ∧ c1 = c ∧ q1 = q ∧ h1 = h) ∨ (v1 = 0 ∧ ((0 ≤ i ∧ i < 4 ∧ 0 ≤ o ∧ o < 4) ∧ -99 ≤ a ∧ a ≤ 99) ∧ ne_Ashare c q h i a o c1 q1 h1 z))) (fun _ _ => False) := by
  refine ne_meet (own := RX3) hl rfl (by decide +kernel) (Nat.le_of_ble_eq_true rfl) ?_
  intro D ct A P9 V9 R9 S9 M9 as9 bl9 mt9 C9 ad0 X hr hin ht
  obtain ⟨Ic, Iq, It, Ib, Itb, Igb, Ik, Ih, Iv⟩ := hI
  have lp53 : ∀ (n9 : Nat) (j : Int), (4 - j).toNat < n9 → (q i.toNat ≤ j) → (j ≤ 4) → (-99 ≤ a ∧ a ≤ 99 ∧ a ≠ 0) → (0 ≤ i ∧ i < 4) → (0 ≤ o ∧ o < 4) → (∀ R : Int, q i.toNat ≤ R → R < j → (c i.toNat * 10 ^ (R - q i.toNat).toNat).tmod a ≠ 0) → ne_G nw_cl D ct A 7 ad0 P9 l V9 R9 S9 M9 as9 bl9 mt9 C9 (ne_O nw_cl D ct ad0 7 A bl9 as9 S9 0 0 (fun v w => ∃ c1 q1 h1 v1 z, w = mW c1 q1 t b k h1 v1 ∧ mI c1 q1 t b k h1 v1 (T + 1) ∧ v = some (ni z) ∧ ((v1 = 1 ∧ (i < 0 ∨ 4 ≤ i ∨ o < 0 ∨ 4 ≤ o) ∧ c1 = c ∧ q1 = q ∧ h1 = h) ∨ (v1 = 2 ∧ ((0 ≤ i ∧ i < 4 ∧ 0 ≤ o ∧ o < 4) ∧ (a < -99 ∨ 99 < a)) ∧ c1 = c ∧ q1 = q ∧ h1 = h) ∨ (v1 = 0 ∧ ((0 ≤ i ∧ i < 4 ∧ 0 ≤ o ∧ o < 4) ∧ -99 ≤ a ∧ a ≤ 99) ∧ ne_Ashare c q h i a o c1 q1 h1 z))) (fun _ _ => False)) 5 0 0 0 0 53 [some (.ref 0), some (ni i), some (ni a), some (ni o), some (ni j)] [] (mW c q t b k h 0) := by
    intro n9
    induction n9 with
    | zero => intro j hm9 q1 q2 q5 q6 q7 q11; exfalso; omega
    | succ n9 ih =>
      intro j hm9 q1 q2 q5 q6 q7 q11
      have Iv : (0 : Int) ≤ 0 ∧ (0 : Int) ≤ 2 := by omega
      have hq9 := Iq i.toNat
      refine ne_iload X dX3_share_53 rfl ?_
      refine ne_iconst X dX3_share_55 ?_
      refine ne_icmp_gt (tgt := 98) X dX3_share_56 rfl (by omega) (by omega) (fun b56 => ?_) (fun b56 => ?_)
      · refine ne_aload_n X dX3_share_98 rfl ?_
        refine ne_callV X nw_Tg (me_X3_nayX l hl c q t b k h 0 T (by exact ⟨Ic, Iq, It, Ib, Itb, Igb, Ik, Ih, Iv⟩) (by omega)) nw_yX3_nay nw_mX3_54 nw_iX3_nay nw_eX3_nay (ci := 5) rfl rfl rfl dX3_share_99 rfl rfl (by decide) (by decide) (by first | decide | omega) (by first | decide | omega) (Nat.le_of_ble_eq_true rfl) rfl rfl (Nat.le_of_ble_eq_true rfl) ?_ ?_
        rotate_left
        · rintro E9 w9 h9; exact h9.elim
        rintro v99 w99 ⟨h99, rfl, Ih, p99, rfl⟩
        exact ne_iret X hr (by first | rfl | decide | rfl) dX3_share_102 ⟨_, _, _, _, _, rfl, ⟨Ic, Iq, It, Ib, Itb, Igb, Ik, Ih, Iv⟩, rfl, Or.inr (Or.inr ⟨by omega, by omega, Or.inr ⟨q5.2.2, Or.inr ⟨(fun R h1 h2 => q11 R h1 (by omega)), ⟨rfl, rfl, p99, rfl⟩⟩⟩⟩)⟩
      · refine ne_aload_n X dX3_share_59 rfl ?_
        refine ne_iload_n X dX3_share_60 rfl ?_
        refine ne_iload X dX3_share_61 rfl ?_
        refine ne_callV X nw_Tg (me_X3_unitsX l hl c q t b k h 0 T (by exact ⟨Ic, Iq, It, Ib, Itb, Igb, Ik, Ih, Iv⟩) (by omega) _ _ (by omega) (by omega)) nw_yX3_units nw_mX3_62 nw_iX3_units nw_eX3_units (ci := 5) rfl rfl rfl dX3_share_63 rfl rfl (by decide) (by decide) (by first | decide | omega) (by first | decide | omega) (Nat.le_of_ble_eq_true rfl) rfl rfl (Nat.le_of_ble_eq_true rfl) ?_ ?_
        rotate_left
        · rintro E9 w9 h9; exact h9.elim
        rintro v63 w63 ⟨rfl, z63, rfl, g63, k63, i63⟩
        have t63 := ne_tq z63 a
        refine ne_iload_n X dX3_share_66 rfl ?_
        refine ne_i2l (by omega) X dX3_share_67 ?_
        refine ne_lrem X dX3_share_68 (by omega) (by omega) (by omega) ?_
        refine ne_lconst (z := 0) (by decide) X dX3_share_69 ?_
        refine ne_lcif_ne (tgt := 92) X dX3_share_70 dX3_share_71 rfl (by omega) (by omega) (fun b71 => ?_) (fun b71 => ?_)
        · refine ne_iinc X dX3_share_92 rfl (by decide) ?_
          refine ne_goto (tgt := 53) X dX3_share_95 rfl ?_
          have q12 : ∀ R : Int, q i.toNat ≤ R → R < j + 1 → (c i.toNat * 10 ^ (R - q i.toNat).toNat).tmod a ≠ 0 := fun R h1 h2 => by
                                        rcases (show R < j ∨ R = j by omega) with h3 | h3
                                        · exact q11 R h1 h3
                                        · rw [h3, ← g63]; omega
          exact ih _ (by omega) (by omega) (by omega) (by omega) (by omega) (by omega) q12
        · refine ne_aload_n X dX3_share_74 rfl ?_
          refine ne_iload_n X dX3_share_75 rfl ?_
          refine ne_aload_n X dX3_share_76 rfl ?_
          refine ne_iload_n X dX3_share_77 rfl ?_
          refine ne_iload X dX3_share_78 rfl ?_
          refine ne_callV X nw_Tg (me_X3_unitsX l hl c q t b k h 0 T (by exact ⟨Ic, Iq, It, Ib, Itb, Igb, Ik, Ih, Iv⟩) (by omega) _ _ (by omega) (by omega)) nw_yX3_units nw_mX3_62 nw_iX3_units nw_eX3_units (ci := 5) rfl rfl rfl dX3_share_80 rfl rfl (by decide) (by decide) (by first | decide | omega) (by first | decide | omega) (Nat.le_of_ble_eq_true rfl) rfl rfl (Nat.le_of_ble_eq_true rfl) ?_ ?_
          rotate_left
          · rintro E9 w9 h9; exact h9.elim
          rintro v80 w80 ⟨rfl, z80, rfl, g80, k80, i80⟩
          have t80 := ne_tq z80 a
          refine ne_iload_n X dX3_share_83 rfl ?_
          refine ne_i2l (by omega) X dX3_share_84 ?_
          refine ne_ldiv X dX3_share_85 (by omega) (by omega) (by omega) ?_
          refine ne_iload X dX3_share_86 rfl ?_
          refine ne_callV X nw_Tg (me_X3_comeX l hl c q t b k h 0 T (by exact ⟨Ic, Iq, It, Ib, Itb, Igb, Ik, Ih, Iv⟩) (by omega) _ _ _ (by omega) (by omega) (by omega)) nw_yX3_come nw_mX3_76 nw_iX3_come nw_eX3_come (ci := 5) rfl rfl rfl dX3_share_88 rfl rfl (by decide) (by decide) (by first | decide | omega) (by first | decide | omega) (Nat.le_of_ble_eq_true rfl) rfl rfl (Nat.le_of_ble_eq_true rfl) ?_ ?_
          rotate_left
          · rintro E9 w9 h9; exact h9.elim
          rintro v88 w88 ⟨c88, q88, h88, rfl, hI88, z88, rfl, z988, G88⟩
          exact ne_iret X hr (by first | rfl | decide | rfl) dX3_share_91 ⟨_, _, _, _, _, rfl, hI88, rfl, Or.inr (Or.inr ⟨by omega, by omega, Or.inr ⟨q5.2.2, Or.inl ⟨j, by omega, by omega, (by rw [← g63]; omega), q11, (by rw [g80] at G88; exact G88)⟩⟩⟩)⟩
  refine ne_aload_n X dX3_share_0 rfl ?_
  refine ne_iload_n X dX3_share_1 rfl ?_
  refine ne_callS X nw_Tg (me_X3_isNoCell l hl _ _ (by omega)) nw_yX3_isNoCell nw_mX3_66 nw_sX3_isNoCell dX3_share_2 rfl rfl (by decide) (by decide) (by first | decide | omega) (by first | decide | omega) (Nat.le_of_ble_eq_true rfl) rfl rfl (Nat.le_of_ble_eq_true rfl) ?_ ?_
  rotate_left
  · rintro E9 w9 h9; exact h9.elim
  rintro v2 w2 ⟨rfl, z2, rfl, g2⟩
  refine ne_if_ne (tgt := 15) X dX3_share_5 rfl (by omega) (fun b5 => ?_) (fun b5 => ?_)
  · refine ne_iconst X dX3_share_15 ?_
    refine ne_goto (tgt := 20) X dX3_share_16 rfl ?_
    refine ne_iload_n X dX3_share_20 rfl ?_
    refine ne_bipush (v := -99) (by decide) X dX3_share_21 ?_
    refine ne_bipush (v := 99) (by decide) X dX3_share_23 ?_
    refine ne_callS X nw_Tg (me_X3_isOut l hl _ _ _ _ (by omega) (by omega) (by omega)) nw_yX3_isOut nw_mX3_34 nw_sX3_isOut dX3_share_25 rfl rfl (by decide) (by decide) (by first | decide | omega) (by first | decide | omega) (Nat.le_of_ble_eq_true rfl) rfl rfl (Nat.le_of_ble_eq_true rfl) ?_ ?_
    rotate_left
    · rintro E9 w9 h9; exact h9.elim
    rintro v25 w25 ⟨rfl, z25, rfl, g25⟩
    refine ne_callV X nw_Tg (me_X3_refuse l hl c q t b k h vt T (by exact ⟨Ic, Iq, It, Ib, Itb, Igb, Ik, Ih, Iv⟩) (by omega) _ _ (by omega) (by omega)) nw_yX3_refuse nw_mX3_72 nw_iX3_refuse nw_eX3_refuse (ci := 5) rfl rfl rfl dX3_share_28 rfl rfl (by decide) (by decide) (by first | decide | omega) (by first | decide | omega) (Nat.le_of_ble_eq_true rfl) rfl rfl (Nat.le_of_ble_eq_true rfl) ?_ ?_
    rotate_left
    · rintro E9 w9 h9; exact h9.elim
    rintro v28 w28 ⟨u28, rfl, Iv, z28, rfl, g28⟩
    refine ne_if_eq (tgt := 36) X dX3_share_31 rfl (by omega) (fun b31 => ?_) (fun b31 => ?_)
    · exfalso; omega
    · refine ne_iconst X dX3_share_34 ?_
      exact ne_iret X hr (by first | rfl | decide | rfl) dX3_share_35 (by rcases g28 with ⟨h7, h8, h9⟩ | ⟨h6, h7, h8, h9⟩ | ⟨h6, h7, h8, h9⟩; exact ⟨_, _, _, _, _, rfl, ⟨Ic, Iq, It, Ib, Itb, Igb, Ik, ne_rg_mono Ih (by omega) (by omega), Iv⟩, rfl, Or.inl ⟨h8, (by omega), rfl, rfl, rfl⟩⟩; exact ⟨_, _, _, _, _, rfl, ⟨Ic, Iq, It, Ib, Itb, Igb, Ik, ne_rg_mono Ih (by omega) (by omega), Iv⟩, rfl, Or.inr (Or.inl ⟨h8, (by omega), rfl, rfl, rfl⟩)⟩; exfalso; omega)
  · refine ne_iload_n X dX3_share_8 rfl ?_
    refine ne_callS X nw_Tg (me_X3_isNoCell l hl _ _ (by omega)) nw_yX3_isNoCell nw_mX3_66 nw_sX3_isNoCell dX3_share_9 rfl rfl (by decide) (by decide) (by first | decide | omega) (by first | decide | omega) (Nat.le_of_ble_eq_true rfl) rfl rfl (Nat.le_of_ble_eq_true rfl) ?_ ?_
    rotate_left
    · rintro E9 w9 h9; exact h9.elim
    rintro v9 w9 ⟨rfl, z9, rfl, g9⟩
    refine ne_if_eq (tgt := 19) X dX3_share_12 rfl (by omega) (fun b12 => ?_) (fun b12 => ?_)
    · refine ne_iconst X dX3_share_19 ?_
      refine ne_iload_n X dX3_share_20 rfl ?_
      refine ne_bipush (v := -99) (by decide) X dX3_share_21 ?_
      refine ne_bipush (v := 99) (by decide) X dX3_share_23 ?_
      refine ne_callS X nw_Tg (me_X3_isOut l hl _ _ _ _ (by omega) (by omega) (by omega)) nw_yX3_isOut nw_mX3_34 nw_sX3_isOut dX3_share_25 rfl rfl (by decide) (by decide) (by first | decide | omega) (by first | decide | omega) (Nat.le_of_ble_eq_true rfl) rfl rfl (Nat.le_of_ble_eq_true rfl) ?_ ?_
      rotate_left
      · rintro E9 w9 h9; exact h9.elim
      rintro v25 w25 ⟨rfl, z25, rfl, g25⟩
      refine ne_callV X nw_Tg (me_X3_refuse l hl c q t b k h vt T (by exact ⟨Ic, Iq, It, Ib, Itb, Igb, Ik, Ih, Iv⟩) (by omega) _ _ (by omega) (by omega)) nw_yX3_refuse nw_mX3_72 nw_iX3_refuse nw_eX3_refuse (ci := 5) rfl rfl rfl dX3_share_28 rfl rfl (by decide) (by decide) (by first | decide | omega) (by first | decide | omega) (Nat.le_of_ble_eq_true rfl) rfl rfl (Nat.le_of_ble_eq_true rfl) ?_ ?_
      rotate_left
      · rintro E9 w9 h9; exact h9.elim
      rintro v28 w28 ⟨u28, rfl, Iv, z28, rfl, g28⟩
      refine ne_if_eq (tgt := 36) X dX3_share_31 rfl (by omega) (fun b31 => ?_) (fun b31 => ?_)
      · have hk9 : (((0 ≤ i ∧ i < 4 ∧ 0 ≤ o ∧ o < 4) ∧ -99 ≤ a ∧ a ≤ 99)) ∧ u28 = 0 := by omega
        try clear g2
        try clear b5
        try clear g9
        try clear b12
        try clear g25
        try clear g28
        try clear b31
        refine ne_iload_n X dX3_share_36 rfl ?_
        refine ne_if_ne (tgt := 45) X dX3_share_37 rfl (by omega) (fun b37 => ?_) (fun b37 => ?_)
        · refine ne_aload_n X dX3_share_45 rfl ?_
          refine ne_getf X dX3_share_46 nw_fX3_15 rfl rfl ?_
          refine ne_iload_n X dX3_share_49 rfl ?_
          refine ne_ialdR X dX3_share_50 rfl (by omega) Iq (fun v50 e50 f50 u50 => ?_)
          refine ne_istore X dX3_share_51 (by decide) ?_
          obtain rfl : u28 = 0 := by omega
          exact lp53 _ _ (Nat.lt_succ_self _) (by omega) (by omega) (by omega) (by omega) (by omega) (fun R h1 h2 => by omega)
        · refine ne_aload_n X dX3_share_40 rfl ?_
          refine ne_callV X nw_Tg (me_X3_nayX l hl c q t b k h u28 T (by exact ⟨Ic, Iq, It, Ib, Itb, Igb, Ik, Ih, Iv⟩) (by omega)) nw_yX3_nay nw_mX3_54 nw_iX3_nay nw_eX3_nay (ci := 5) rfl rfl rfl dX3_share_41 rfl rfl (by decide) (by decide) (by first | decide | omega) (by first | decide | omega) (Nat.le_of_ble_eq_true rfl) rfl rfl (Nat.le_of_ble_eq_true rfl) ?_ ?_
          rotate_left
          · rintro E9 w9 h9; exact h9.elim
          rintro v41 w41 ⟨h41, rfl, Ih, p41, rfl⟩
          exact ne_iret X hr (by first | rfl | decide | rfl) dX3_share_44 ⟨_, _, _, _, _, rfl, ⟨Ic, Iq, It, Ib, Itb, Igb, Ik, Ih, Iv⟩, rfl, Or.inr (Or.inr ⟨by omega, by omega, Or.inl ⟨by omega, ⟨rfl, rfl, p41, rfl⟩⟩⟩)⟩
      · refine ne_iconst X dX3_share_34 ?_
        exact ne_iret X hr (by first | rfl | decide | rfl) dX3_share_35 (by rcases g28 with ⟨h7, h8, h9⟩ | ⟨h6, h7, h8, h9⟩ | ⟨h6, h7, h8, h9⟩; exact ⟨_, _, _, _, _, rfl, ⟨Ic, Iq, It, Ib, Itb, Igb, Ik, ne_rg_mono Ih (by omega) (by omega), Iv⟩, rfl, Or.inl ⟨h8, (by omega), rfl, rfl, rfl⟩⟩; exact ⟨_, _, _, _, _, rfl, ⟨Ic, Iq, It, Ib, Itb, Igb, Ik, ne_rg_mono Ih (by omega) (by omega), Iv⟩, rfl, Or.inr (Or.inl ⟨h8, (by omega), rfl, rfl, rfl⟩)⟩; exfalso; omega)
    · refine ne_iconst X dX3_share_15 ?_
      refine ne_goto (tgt := 20) X dX3_share_16 rfl ?_
      refine ne_iload_n X dX3_share_20 rfl ?_
      refine ne_bipush (v := -99) (by decide) X dX3_share_21 ?_
      refine ne_bipush (v := 99) (by decide) X dX3_share_23 ?_
      refine ne_callS X nw_Tg (me_X3_isOut l hl _ _ _ _ (by omega) (by omega) (by omega)) nw_yX3_isOut nw_mX3_34 nw_sX3_isOut dX3_share_25 rfl rfl (by decide) (by decide) (by first | decide | omega) (by first | decide | omega) (Nat.le_of_ble_eq_true rfl) rfl rfl (Nat.le_of_ble_eq_true rfl) ?_ ?_
      rotate_left
      · rintro E9 w9 h9; exact h9.elim
      rintro v25 w25 ⟨rfl, z25, rfl, g25⟩
      refine ne_callV X nw_Tg (me_X3_refuse l hl c q t b k h vt T (by exact ⟨Ic, Iq, It, Ib, Itb, Igb, Ik, Ih, Iv⟩) (by omega) _ _ (by omega) (by omega)) nw_yX3_refuse nw_mX3_72 nw_iX3_refuse nw_eX3_refuse (ci := 5) rfl rfl rfl dX3_share_28 rfl rfl (by decide) (by decide) (by first | decide | omega) (by first | decide | omega) (Nat.le_of_ble_eq_true rfl) rfl rfl (Nat.le_of_ble_eq_true rfl) ?_ ?_
      rotate_left
      · rintro E9 w9 h9; exact h9.elim
      rintro v28 w28 ⟨u28, rfl, Iv, z28, rfl, g28⟩
      refine ne_if_eq (tgt := 36) X dX3_share_31 rfl (by omega) (fun b31 => ?_) (fun b31 => ?_)
      · exfalso; omega
      · refine ne_iconst X dX3_share_34 ?_
        exact ne_iret X hr (by first | rfl | decide | rfl) dX3_share_35 (by rcases g28 with ⟨h7, h8, h9⟩ | ⟨h6, h7, h8, h9⟩ | ⟨h6, h7, h8, h9⟩; exact ⟨_, _, _, _, _, rfl, ⟨Ic, Iq, It, Ib, Itb, Igb, Ik, ne_rg_mono Ih (by omega) (by omega), Iv⟩, rfl, Or.inl ⟨h8, (by omega), rfl, rfl, rfl⟩⟩; exact ⟨_, _, _, _, _, rfl, ⟨Ic, Iq, It, Ib, Itb, Igb, Ik, ne_rg_mono Ih (by omega) (by omega), Iv⟩, rfl, Or.inr (Or.inl ⟨h8, (by omega), rfl, rfl, rfl⟩)⟩; exfalso; omega)
set_option maxRecDepth 100000 in
set_option maxHeartbeats 4000000 in
theorem me_X3_wholeW (l : Launch) (hl : l.stackTraces = false) (c q t b k h : Nat → Int) (vt T : Int) (hI : mI c q t b k h vt T) (hT : 0 ≤ T ∧ T ≤ 1000) (i : Int) (a : Int) (o : Int) (hi : -2147483648 ≤ i ∧ i < 2147483648) (ha : -2147483648 ≤ a ∧ a < 2147483648) (ho : -2147483648 ≤ o ∧ o < 2147483648) : ne_M l nw_cl (.code yX3_whole cX3_whole 4 (some .int)) nw_T yX3_whole 9 330 0 0 [.ref 0, ni i, ni a, ni o] (mW c q t b k h vt) (fun v w => ∃ c1 q1 h1 v1 z, w = mW c1 q1 t b k h1 v1 ∧ mI c1 q1 t b k h1 v1 (T + 1) ∧ v = some (ni z) ∧ ((v1 = 1 ∧ (i < 0 ∨ 4 ≤ i ∨ o < 0 ∨ 4 ≤ o) ∧ c1 = c ∧ q1 = q ∧ h1 = h) ∨ (v1 = 2 ∧ ((0 ≤ i ∧ i < 4 ∧ 0 ≤ o ∧ o < 4) ∧ (a < -99 ∨ 99 < a)) ∧ c1 = c ∧ q1 = q ∧ h1 = h) ∨ (v1 = 0 ∧ ((0 ≤ i ∧ i < 4 ∧ 0 ≤ o ∧ o < 4) ∧ -99 ≤ a ∧ a ≤ 99) ∧ ne_Awhole c q h i a o c1 q1 h1 z))) (fun _ _ => False) := by
  refine ne_meet (own := RX3) hl rfl (by decide +kernel) (Nat.le_of_ble_eq_true rfl) ?_
  intro D ct A P9 V9 R9 S9 M9 as9 bl9 mt9 C9 ad0 X hr hin ht
  obtain ⟨Ic, Iq, It, Ib, Itb, Igb, Ik, Ih, Iv⟩ := hI
  refine ne_aload_n X dX3_whole_0 rfl ?_
  refine ne_iload_n X dX3_whole_1 rfl ?_
  refine ne_callS X nw_Tg (me_X3_isNoCell l hl _ _ (by omega)) nw_yX3_isNoCell nw_mX3_66 nw_sX3_isNoCell dX3_whole_2 rfl rfl (by decide) (by decide) (by first | decide | omega) (by first | decide | omega) (Nat.le_of_ble_eq_true rfl) rfl rfl (Nat.le_of_ble_eq_true rfl) ?_ ?_
  rotate_left
  · rintro E9 w9 h9; exact h9.elim
  rintro v2 w2 ⟨rfl, z2, rfl, g2⟩
  refine ne_if_ne (tgt := 15) X dX3_whole_5 rfl (by omega) (fun b5 => ?_) (fun b5 => ?_)
  · refine ne_iconst X dX3_whole_15 ?_
    refine ne_goto (tgt := 20) X dX3_whole_16 rfl ?_
    refine ne_iload_n X dX3_whole_20 rfl ?_
    refine ne_bipush (v := -99) (by decide) X dX3_whole_21 ?_
    refine ne_bipush (v := 99) (by decide) X dX3_whole_23 ?_
    refine ne_callS X nw_Tg (me_X3_isOut l hl _ _ _ _ (by omega) (by omega) (by omega)) nw_yX3_isOut nw_mX3_34 nw_sX3_isOut dX3_whole_25 rfl rfl (by decide) (by decide) (by first | decide | omega) (by first | decide | omega) (Nat.le_of_ble_eq_true rfl) rfl rfl (Nat.le_of_ble_eq_true rfl) ?_ ?_
    rotate_left
    · rintro E9 w9 h9; exact h9.elim
    rintro v25 w25 ⟨rfl, z25, rfl, g25⟩
    refine ne_callV X nw_Tg (me_X3_refuse l hl c q t b k h vt T (by exact ⟨Ic, Iq, It, Ib, Itb, Igb, Ik, Ih, Iv⟩) (by omega) _ _ (by omega) (by omega)) nw_yX3_refuse nw_mX3_72 nw_iX3_refuse nw_eX3_refuse (ci := 5) rfl rfl rfl dX3_whole_28 rfl rfl (by decide) (by decide) (by first | decide | omega) (by first | decide | omega) (Nat.le_of_ble_eq_true rfl) rfl rfl (Nat.le_of_ble_eq_true rfl) ?_ ?_
    rotate_left
    · rintro E9 w9 h9; exact h9.elim
    rintro v28 w28 ⟨u28, rfl, Iv, z28, rfl, g28⟩
    refine ne_if_eq (tgt := 36) X dX3_whole_31 rfl (by omega) (fun b31 => ?_) (fun b31 => ?_)
    · exfalso; omega
    · refine ne_iconst X dX3_whole_34 ?_
      exact ne_iret X hr (by first | rfl | decide | rfl) dX3_whole_35 (by rcases g28 with ⟨h7, h8, h9⟩ | ⟨h6, h7, h8, h9⟩ | ⟨h6, h7, h8, h9⟩; exact ⟨_, _, _, _, _, rfl, ⟨Ic, Iq, It, Ib, Itb, Igb, Ik, ne_rg_mono Ih (by omega) (by omega), Iv⟩, rfl, Or.inl ⟨h8, (by omega), rfl, rfl, rfl⟩⟩; exact ⟨_, _, _, _, _, rfl, ⟨Ic, Iq, It, Ib, Itb, Igb, Ik, ne_rg_mono Ih (by omega) (by omega), Iv⟩, rfl, Or.inr (Or.inl ⟨h8, (by omega), rfl, rfl, rfl⟩)⟩; exfalso; omega)
  · refine ne_iload_n X dX3_whole_8 rfl ?_
    refine ne_callS X nw_Tg (me_X3_isNoCell l hl _ _ (by omega)) nw_yX3_isNoCell nw_mX3_66 nw_sX3_isNoCell dX3_whole_9 rfl rfl (by decide) (by decide) (by first | decide | omega) (by first | decide | omega) (Nat.le_of_ble_eq_true rfl) rfl rfl (Nat.le_of_ble_eq_true rfl) ?_ ?_
    rotate_left
    · rintro E9 w9 h9; exact h9.elim
    rintro v9 w9 ⟨rfl, z9, rfl, g9⟩
    refine ne_if_eq (tgt := 19) X dX3_whole_12 rfl (by omega) (fun b12 => ?_) (fun b12 => ?_)
    · refine ne_iconst X dX3_whole_19 ?_
      refine ne_iload_n X dX3_whole_20 rfl ?_
      refine ne_bipush (v := -99) (by decide) X dX3_whole_21 ?_
      refine ne_bipush (v := 99) (by decide) X dX3_whole_23 ?_
      refine ne_callS X nw_Tg (me_X3_isOut l hl _ _ _ _ (by omega) (by omega) (by omega)) nw_yX3_isOut nw_mX3_34 nw_sX3_isOut dX3_whole_25 rfl rfl (by decide) (by decide) (by first | decide | omega) (by first | decide | omega) (Nat.le_of_ble_eq_true rfl) rfl rfl (Nat.le_of_ble_eq_true rfl) ?_ ?_
      rotate_left
      · rintro E9 w9 h9; exact h9.elim
      rintro v25 w25 ⟨rfl, z25, rfl, g25⟩
      refine ne_callV X nw_Tg (me_X3_refuse l hl c q t b k h vt T (by exact ⟨Ic, Iq, It, Ib, Itb, Igb, Ik, Ih, Iv⟩) (by omega) _ _ (by omega) (by omega)) nw_yX3_refuse nw_mX3_72 nw_iX3_refuse nw_eX3_refuse (ci := 5) rfl rfl rfl dX3_whole_28 rfl rfl (by decide) (by decide) (by first | decide | omega) (by first | decide | omega) (Nat.le_of_ble_eq_true rfl) rfl rfl (Nat.le_of_ble_eq_true rfl) ?_ ?_
      rotate_left
      · rintro E9 w9 h9; exact h9.elim
      rintro v28 w28 ⟨u28, rfl, Iv, z28, rfl, g28⟩
      refine ne_if_eq (tgt := 36) X dX3_whole_31 rfl (by omega) (fun b31 => ?_) (fun b31 => ?_)
      · have hk9 : (((0 ≤ i ∧ i < 4 ∧ 0 ≤ o ∧ o < 4) ∧ -99 ≤ a ∧ a ≤ 99)) ∧ u28 = 0 := by omega
        try clear g2
        try clear b5
        try clear g9
        try clear b12
        try clear g25
        try clear g28
        try clear b31
        refine ne_iload_n X dX3_whole_36 rfl ?_
        refine ne_if_ne (tgt := 47) X dX3_whole_37 rfl (by omega) (fun b37 => ?_) (fun b37 => ?_)
        · refine ne_aload_n X dX3_whole_47 rfl ?_
          refine ne_iload_n X dX3_whole_48 rfl ?_
          refine ne_aload_n X dX3_whole_49 rfl ?_
          refine ne_iload_n X dX3_whole_50 rfl ?_
          refine ne_iload_n X dX3_whole_51 rfl ?_
          refine ne_callV X nw_Tg (me_X3_wholeOfX l hl c q t b k h u28 T (by exact ⟨Ic, Iq, It, Ib, Itb, Igb, Ik, Ih, Iv⟩) (by omega) _ _ (by omega) (by omega) (by omega)) nw_yX3_wholeOf nw_mX3_94 nw_iX3_wholeOf nw_eX3_wholeOf (ci := 5) rfl rfl rfl dX3_whole_52 rfl rfl (by decide) (by decide) (by first | decide | omega) (by first | decide | omega) (Nat.le_of_ble_eq_true rfl) rfl rfl (Nat.le_of_ble_eq_true rfl) ?_ ?_
          rotate_left
          · rintro E9 w9 h9; exact h9.elim
          rintro v52 w52 ⟨rfl, z52, rfl, g52, k52, i52⟩
          refine ne_iconst X dX3_whole_55 ?_
          refine ne_callV X nw_Tg (me_X3_comeX l hl c q t b k h u28 T (by exact ⟨Ic, Iq, It, Ib, Itb, Igb, Ik, Ih, Iv⟩) (by omega) _ _ _ (by omega) (by omega) (by omega)) nw_yX3_come nw_mX3_76 nw_iX3_come nw_eX3_come (ci := 5) rfl rfl rfl dX3_whole_56 rfl rfl (by decide) (by decide) (by first | decide | omega) (by first | decide | omega) (Nat.le_of_ble_eq_true rfl) rfl rfl (Nat.le_of_ble_eq_true rfl) ?_ ?_
          rotate_left
          · rintro E9 w9 h9; exact h9.elim
          rintro v56 w56 ⟨c56, q56, h56, rfl, hI56, z56, rfl, z956, G56⟩
          exact ne_iret X hr (by first | rfl | decide | rfl) dX3_whole_59 ⟨_, _, _, _, _, rfl, hI56, rfl, Or.inr (Or.inr ⟨by omega, by omega, Or.inr ⟨b37, (by rw [g52] at G56; exact G56)⟩⟩)⟩
        · refine ne_aload_n X dX3_whole_40 rfl ?_
          refine ne_callV X nw_Tg (me_X3_nayX l hl c q t b k h u28 T (by exact ⟨Ic, Iq, It, Ib, Itb, Igb, Ik, Ih, Iv⟩) (by omega)) nw_yX3_nay nw_mX3_54 nw_iX3_nay nw_eX3_nay (ci := 5) rfl rfl rfl dX3_whole_41 rfl rfl (by decide) (by decide) (by first | decide | omega) (by first | decide | omega) (Nat.le_of_ble_eq_true rfl) rfl rfl (Nat.le_of_ble_eq_true rfl) ?_ ?_
          rotate_left
          · rintro E9 w9 h9; exact h9.elim
          rintro v41 w41 ⟨h41, rfl, Ih, p41, rfl⟩
          refine ne_goto (tgt := 59) X dX3_whole_44 rfl ?_
          exact ne_iret X hr (by first | rfl | decide | rfl) dX3_whole_59 ⟨_, _, _, _, _, rfl, ⟨Ic, Iq, It, Ib, Itb, Igb, Ik, Ih, Iv⟩, rfl, Or.inr (Or.inr ⟨by omega, by omega, Or.inl ⟨by omega, ⟨rfl, rfl, p41, rfl⟩⟩⟩)⟩
      · refine ne_iconst X dX3_whole_34 ?_
        exact ne_iret X hr (by first | rfl | decide | rfl) dX3_whole_35 (by rcases g28 with ⟨h7, h8, h9⟩ | ⟨h6, h7, h8, h9⟩ | ⟨h6, h7, h8, h9⟩; exact ⟨_, _, _, _, _, rfl, ⟨Ic, Iq, It, Ib, Itb, Igb, Ik, ne_rg_mono Ih (by omega) (by omega), Iv⟩, rfl, Or.inl ⟨h8, (by omega), rfl, rfl, rfl⟩⟩; exact ⟨_, _, _, _, _, rfl, ⟨Ic, Iq, It, Ib, Itb, Igb, Ik, ne_rg_mono Ih (by omega) (by omega), Iv⟩, rfl, Or.inr (Or.inl ⟨h8, (by omega), rfl, rfl, rfl⟩)⟩; exfalso; omega)
    · refine ne_iconst X dX3_whole_15 ?_
      refine ne_goto (tgt := 20) X dX3_whole_16 rfl ?_
      refine ne_iload_n X dX3_whole_20 rfl ?_
      refine ne_bipush (v := -99) (by decide) X dX3_whole_21 ?_
      refine ne_bipush (v := 99) (by decide) X dX3_whole_23 ?_
      refine ne_callS X nw_Tg (me_X3_isOut l hl _ _ _ _ (by omega) (by omega) (by omega)) nw_yX3_isOut nw_mX3_34 nw_sX3_isOut dX3_whole_25 rfl rfl (by decide) (by decide) (by first | decide | omega) (by first | decide | omega) (Nat.le_of_ble_eq_true rfl) rfl rfl (Nat.le_of_ble_eq_true rfl) ?_ ?_
      rotate_left
      · rintro E9 w9 h9; exact h9.elim
      rintro v25 w25 ⟨rfl, z25, rfl, g25⟩
      refine ne_callV X nw_Tg (me_X3_refuse l hl c q t b k h vt T (by exact ⟨Ic, Iq, It, Ib, Itb, Igb, Ik, Ih, Iv⟩) (by omega) _ _ (by omega) (by omega)) nw_yX3_refuse nw_mX3_72 nw_iX3_refuse nw_eX3_refuse (ci := 5) rfl rfl rfl dX3_whole_28 rfl rfl (by decide) (by decide) (by first | decide | omega) (by first | decide | omega) (Nat.le_of_ble_eq_true rfl) rfl rfl (Nat.le_of_ble_eq_true rfl) ?_ ?_
      rotate_left
      · rintro E9 w9 h9; exact h9.elim
      rintro v28 w28 ⟨u28, rfl, Iv, z28, rfl, g28⟩
      refine ne_if_eq (tgt := 36) X dX3_whole_31 rfl (by omega) (fun b31 => ?_) (fun b31 => ?_)
      · exfalso; omega
      · refine ne_iconst X dX3_whole_34 ?_
        exact ne_iret X hr (by first | rfl | decide | rfl) dX3_whole_35 (by rcases g28 with ⟨h7, h8, h9⟩ | ⟨h6, h7, h8, h9⟩ | ⟨h6, h7, h8, h9⟩; exact ⟨_, _, _, _, _, rfl, ⟨Ic, Iq, It, Ib, Itb, Igb, Ik, ne_rg_mono Ih (by omega) (by omega), Iv⟩, rfl, Or.inl ⟨h8, (by omega), rfl, rfl, rfl⟩⟩; exact ⟨_, _, _, _, _, rfl, ⟨Ic, Iq, It, Ib, Itb, Igb, Ik, ne_rg_mono Ih (by omega) (by omega), Iv⟩, rfl, Or.inr (Or.inl ⟨h8, (by omega), rfl, rfl, rfl⟩)⟩; exfalso; omega)
set_option maxRecDepth 100000 in
set_option maxHeartbeats 4000000 in
theorem me_X3_restW (l : Launch) (hl : l.stackTraces = false) (c q t b k h : Nat → Int) (vt T : Int) (hI : mI c q t b k h vt T) (hT : 0 ≤ T ∧ T ≤ 1000) (i : Int) (a : Int) (o : Int) (hi : -2147483648 ≤ i ∧ i < 2147483648) (ha : -2147483648 ≤ a ∧ a < 2147483648) (ho : -2147483648 ≤ o ∧ o < 2147483648) : ne_M l nw_cl (.code yX3_rest cX3_rest 4 (some .int)) nw_T yX3_rest 9 330 0 0 [.ref 0, ni i, ni a, ni o] (mW c q t b k h vt) (fun v w => ∃ c1 q1 h1 v1 z, w = mW c1 q1 t b k h1 v1 ∧ mI c1 q1 t b k h1 v1 (T + 1) ∧ v = some (ni z) ∧ ((v1 = 1 ∧ (i < 0 ∨ 4 ≤ i ∨ o < 0 ∨ 4 ≤ o) ∧ c1 = c ∧ q1 = q ∧ h1 = h) ∨ (v1 = 2 ∧ ((0 ≤ i ∧ i < 4 ∧ 0 ≤ o ∧ o < 4) ∧ (a < -99 ∨ 99 < a)) ∧ c1 = c ∧ q1 = q ∧ h1 = h) ∨ (v1 = 0 ∧ ((0 ≤ i ∧ i < 4 ∧ 0 ≤ o ∧ o < 4) ∧ -99 ≤ a ∧ a ≤ 99) ∧ ne_Arest c q h i a o c1 q1 h1 z))) (fun _ _ => False) := by
  refine ne_meet (own := RX3) hl rfl (by decide +kernel) (Nat.le_of_ble_eq_true rfl) ?_
  intro D ct A P9 V9 R9 S9 M9 as9 bl9 mt9 C9 ad0 X hr hin ht
  obtain ⟨Ic, Iq, It, Ib, Itb, Igb, Ik, Ih, Iv⟩ := hI
  refine ne_aload_n X dX3_rest_0 rfl ?_
  refine ne_iload_n X dX3_rest_1 rfl ?_
  refine ne_callS X nw_Tg (me_X3_isNoCell l hl _ _ (by omega)) nw_yX3_isNoCell nw_mX3_66 nw_sX3_isNoCell dX3_rest_2 rfl rfl (by decide) (by decide) (by first | decide | omega) (by first | decide | omega) (Nat.le_of_ble_eq_true rfl) rfl rfl (Nat.le_of_ble_eq_true rfl) ?_ ?_
  rotate_left
  · rintro E9 w9 h9; exact h9.elim
  rintro v2 w2 ⟨rfl, z2, rfl, g2⟩
  refine ne_if_ne (tgt := 15) X dX3_rest_5 rfl (by omega) (fun b5 => ?_) (fun b5 => ?_)
  · refine ne_iconst X dX3_rest_15 ?_
    refine ne_goto (tgt := 20) X dX3_rest_16 rfl ?_
    refine ne_iload_n X dX3_rest_20 rfl ?_
    refine ne_bipush (v := -99) (by decide) X dX3_rest_21 ?_
    refine ne_bipush (v := 99) (by decide) X dX3_rest_23 ?_
    refine ne_callS X nw_Tg (me_X3_isOut l hl _ _ _ _ (by omega) (by omega) (by omega)) nw_yX3_isOut nw_mX3_34 nw_sX3_isOut dX3_rest_25 rfl rfl (by decide) (by decide) (by first | decide | omega) (by first | decide | omega) (Nat.le_of_ble_eq_true rfl) rfl rfl (Nat.le_of_ble_eq_true rfl) ?_ ?_
    rotate_left
    · rintro E9 w9 h9; exact h9.elim
    rintro v25 w25 ⟨rfl, z25, rfl, g25⟩
    refine ne_callV X nw_Tg (me_X3_refuse l hl c q t b k h vt T (by exact ⟨Ic, Iq, It, Ib, Itb, Igb, Ik, Ih, Iv⟩) (by omega) _ _ (by omega) (by omega)) nw_yX3_refuse nw_mX3_72 nw_iX3_refuse nw_eX3_refuse (ci := 5) rfl rfl rfl dX3_rest_28 rfl rfl (by decide) (by decide) (by first | decide | omega) (by first | decide | omega) (Nat.le_of_ble_eq_true rfl) rfl rfl (Nat.le_of_ble_eq_true rfl) ?_ ?_
    rotate_left
    · rintro E9 w9 h9; exact h9.elim
    rintro v28 w28 ⟨u28, rfl, Iv, z28, rfl, g28⟩
    refine ne_if_eq (tgt := 36) X dX3_rest_31 rfl (by omega) (fun b31 => ?_) (fun b31 => ?_)
    · exfalso; omega
    · refine ne_iconst X dX3_rest_34 ?_
      exact ne_iret X hr (by first | rfl | decide | rfl) dX3_rest_35 (by rcases g28 with ⟨h7, h8, h9⟩ | ⟨h6, h7, h8, h9⟩ | ⟨h6, h7, h8, h9⟩; exact ⟨_, _, _, _, _, rfl, ⟨Ic, Iq, It, Ib, Itb, Igb, Ik, ne_rg_mono Ih (by omega) (by omega), Iv⟩, rfl, Or.inl ⟨h8, (by omega), rfl, rfl, rfl⟩⟩; exact ⟨_, _, _, _, _, rfl, ⟨Ic, Iq, It, Ib, Itb, Igb, Ik, ne_rg_mono Ih (by omega) (by omega), Iv⟩, rfl, Or.inr (Or.inl ⟨h8, (by omega), rfl, rfl, rfl⟩)⟩; exfalso; omega)
  · refine ne_iload_n X dX3_rest_8 rfl ?_
    refine ne_callS X nw_Tg (me_X3_isNoCell l hl _ _ (by omega)) nw_yX3_isNoCell nw_mX3_66 nw_sX3_isNoCell dX3_rest_9 rfl rfl (by decide) (by decide) (by first | decide | omega) (by first | decide | omega) (Nat.le_of_ble_eq_true rfl) rfl rfl (Nat.le_of_ble_eq_true rfl) ?_ ?_
    rotate_left
    · rintro E9 w9 h9; exact h9.elim
    rintro v9 w9 ⟨rfl, z9, rfl, g9⟩
    refine ne_if_eq (tgt := 19) X dX3_rest_12 rfl (by omega) (fun b12 => ?_) (fun b12 => ?_)
    · refine ne_iconst X dX3_rest_19 ?_
      refine ne_iload_n X dX3_rest_20 rfl ?_
      refine ne_bipush (v := -99) (by decide) X dX3_rest_21 ?_
      refine ne_bipush (v := 99) (by decide) X dX3_rest_23 ?_
      refine ne_callS X nw_Tg (me_X3_isOut l hl _ _ _ _ (by omega) (by omega) (by omega)) nw_yX3_isOut nw_mX3_34 nw_sX3_isOut dX3_rest_25 rfl rfl (by decide) (by decide) (by first | decide | omega) (by first | decide | omega) (Nat.le_of_ble_eq_true rfl) rfl rfl (Nat.le_of_ble_eq_true rfl) ?_ ?_
      rotate_left
      · rintro E9 w9 h9; exact h9.elim
      rintro v25 w25 ⟨rfl, z25, rfl, g25⟩
      refine ne_callV X nw_Tg (me_X3_refuse l hl c q t b k h vt T (by exact ⟨Ic, Iq, It, Ib, Itb, Igb, Ik, Ih, Iv⟩) (by omega) _ _ (by omega) (by omega)) nw_yX3_refuse nw_mX3_72 nw_iX3_refuse nw_eX3_refuse (ci := 5) rfl rfl rfl dX3_rest_28 rfl rfl (by decide) (by decide) (by first | decide | omega) (by first | decide | omega) (Nat.le_of_ble_eq_true rfl) rfl rfl (Nat.le_of_ble_eq_true rfl) ?_ ?_
      rotate_left
      · rintro E9 w9 h9; exact h9.elim
      rintro v28 w28 ⟨u28, rfl, Iv, z28, rfl, g28⟩
      refine ne_if_eq (tgt := 36) X dX3_rest_31 rfl (by omega) (fun b31 => ?_) (fun b31 => ?_)
      · have hk9 : (((0 ≤ i ∧ i < 4 ∧ 0 ≤ o ∧ o < 4) ∧ -99 ≤ a ∧ a ≤ 99)) ∧ u28 = 0 := by omega
        try clear g2
        try clear b5
        try clear g9
        try clear b12
        try clear g25
        try clear g28
        try clear b31
        refine ne_iload_n X dX3_rest_36 rfl ?_
        refine ne_if_ne (tgt := 47) X dX3_rest_37 rfl (by omega) (fun b37 => ?_) (fun b37 => ?_)
        · refine ne_aload_n X dX3_rest_47 rfl ?_
          refine ne_iload_n X dX3_rest_48 rfl ?_
          refine ne_aload_n X dX3_rest_49 rfl ?_
          refine ne_getf X dX3_rest_50 nw_fX3_9 rfl rfl ?_
          refine ne_iload_n X dX3_rest_53 rfl ?_
          refine ne_ialdR X dX3_rest_54 rfl (by omega) Ic (fun v54 e54 f54 u54 => ?_)
          refine ne_i2l (by omega) X dX3_rest_55 ?_
          refine ne_iload_n X dX3_rest_56 rfl ?_
          refine ne_i2l (by omega) X dX3_rest_57 ?_
          refine ne_aload_n X dX3_rest_58 rfl ?_
          refine ne_iload_n X dX3_rest_59 rfl ?_
          refine ne_iload_n X dX3_rest_60 rfl ?_
          refine ne_callV X nw_Tg (me_X3_wholeOfX l hl c q t b k h u28 T (by exact ⟨Ic, Iq, It, Ib, Itb, Igb, Ik, Ih, Iv⟩) (by omega) _ _ (by omega) (by omega) (by omega)) nw_yX3_wholeOf nw_mX3_94 nw_iX3_wholeOf nw_eX3_wholeOf (ci := 5) rfl rfl rfl dX3_rest_61 rfl rfl (by decide) (by decide) (by first | decide | omega) (by first | decide | omega) (Nat.le_of_ble_eq_true rfl) rfl rfl (Nat.le_of_ble_eq_true rfl) ?_ ?_
          rotate_left
          · rintro E9 w9 h9; exact h9.elim
          rintro v61 w61 ⟨rfl, z61, rfl, g61, k61, i61⟩
          have m61 := ne_mulS a z61 99 999999 (by omega) (by omega)
          refine ne_lmul X dX3_rest_64 ?_
          refine ne_aload_n X dX3_rest_65 rfl ?_
          refine ne_getf X dX3_rest_66 nw_fX3_15 rfl rfl ?_
          refine ne_iload_n X dX3_rest_69 rfl ?_
          refine ne_ialdR X dX3_rest_70 rfl (by omega) Iq (fun v70 e70 f70 u70 => ?_)
          refine ne_callS X nw_Tg (me_X3_ten l hl _ _ (by omega)) nw_yX3_ten nw_mX3_58 nw_sX3_ten dX3_rest_71 rfl rfl (by decide) (by decide) (by first | decide | omega) (by first | decide | omega) (Nat.le_of_ble_eq_true rfl) rfl rfl (Nat.le_of_ble_eq_true rfl) ?_ ?_
          rotate_left
          · rintro E9 w9 h9; exact h9.elim
          rintro v71 w71 ⟨rfl, z71, rfl, g71, k71, i71, j71, m71, o71, p71⟩
          have t719 := i71 (by omega)
          clear i71 j71 m71 o71 p71
          have m71 := ne_mul (a * z61) z71 98999901 1000 (by omega) (by omega)
          refine ne_lmul X dX3_rest_74 ?_
          refine ne_lsub X dX3_rest_75 ?_
          refine ne_aload_n X dX3_rest_76 rfl ?_
          refine ne_getf X dX3_rest_77 nw_fX3_15 rfl rfl ?_
          refine ne_iload_n X dX3_rest_80 rfl ?_
          refine ne_ialdR X dX3_rest_81 rfl (by omega) Iq (fun v81 e81 f81 u81 => ?_)
          refine ne_callV X nw_Tg (me_X3_comeX l hl c q t b k h u28 T (by exact ⟨Ic, Iq, It, Ib, Itb, Igb, Ik, Ih, Iv⟩) (by omega) _ _ _ (by omega) (by omega) (by omega)) nw_yX3_come nw_mX3_76 nw_iX3_come nw_eX3_come (ci := 5) rfl rfl rfl dX3_rest_82 rfl rfl (by decide) (by decide) (by first | decide | omega) (by first | decide | omega) (Nat.le_of_ble_eq_true rfl) rfl rfl (Nat.le_of_ble_eq_true rfl) ?_ ?_
          rotate_left
          · rintro E9 w9 h9; exact h9.elim
          rintro v82 w82 ⟨c82, q82, h82, rfl, hI82, z82, rfl, z982, G82⟩
          exact ne_iret X hr (by first | rfl | decide | rfl) dX3_rest_85 ⟨_, _, _, _, _, rfl, hI82, rfl, Or.inr (Or.inr ⟨by omega, by omega, Or.inr ⟨b37, (by rw [e54, g61, g71, e70, e81, ← ne_tmE (c i.toNat) a (10 ^ (q i.toNat).toNat)] at G82; exact G82)⟩⟩)⟩
        · refine ne_aload_n X dX3_rest_40 rfl ?_
          refine ne_callV X nw_Tg (me_X3_nayX l hl c q t b k h u28 T (by exact ⟨Ic, Iq, It, Ib, Itb, Igb, Ik, Ih, Iv⟩) (by omega)) nw_yX3_nay nw_mX3_54 nw_iX3_nay nw_eX3_nay (ci := 5) rfl rfl rfl dX3_rest_41 rfl rfl (by decide) (by decide) (by first | decide | omega) (by first | decide | omega) (Nat.le_of_ble_eq_true rfl) rfl rfl (Nat.le_of_ble_eq_true rfl) ?_ ?_
          rotate_left
          · rintro E9 w9 h9; exact h9.elim
          rintro v41 w41 ⟨h41, rfl, Ih, p41, rfl⟩
          refine ne_goto (tgt := 85) X dX3_rest_44 rfl ?_
          exact ne_iret X hr (by first | rfl | decide | rfl) dX3_rest_85 ⟨_, _, _, _, _, rfl, ⟨Ic, Iq, It, Ib, Itb, Igb, Ik, Ih, Iv⟩, rfl, Or.inr (Or.inr ⟨by omega, by omega, Or.inl ⟨by omega, ⟨rfl, rfl, p41, rfl⟩⟩⟩)⟩
      · refine ne_iconst X dX3_rest_34 ?_
        exact ne_iret X hr (by first | rfl | decide | rfl) dX3_rest_35 (by rcases g28 with ⟨h7, h8, h9⟩ | ⟨h6, h7, h8, h9⟩ | ⟨h6, h7, h8, h9⟩; exact ⟨_, _, _, _, _, rfl, ⟨Ic, Iq, It, Ib, Itb, Igb, Ik, ne_rg_mono Ih (by omega) (by omega), Iv⟩, rfl, Or.inl ⟨h8, (by omega), rfl, rfl, rfl⟩⟩; exact ⟨_, _, _, _, _, rfl, ⟨Ic, Iq, It, Ib, Itb, Igb, Ik, ne_rg_mono Ih (by omega) (by omega), Iv⟩, rfl, Or.inr (Or.inl ⟨h8, (by omega), rfl, rfl, rfl⟩)⟩; exfalso; omega)
    · refine ne_iconst X dX3_rest_15 ?_
      refine ne_goto (tgt := 20) X dX3_rest_16 rfl ?_
      refine ne_iload_n X dX3_rest_20 rfl ?_
      refine ne_bipush (v := -99) (by decide) X dX3_rest_21 ?_
      refine ne_bipush (v := 99) (by decide) X dX3_rest_23 ?_
      refine ne_callS X nw_Tg (me_X3_isOut l hl _ _ _ _ (by omega) (by omega) (by omega)) nw_yX3_isOut nw_mX3_34 nw_sX3_isOut dX3_rest_25 rfl rfl (by decide) (by decide) (by first | decide | omega) (by first | decide | omega) (Nat.le_of_ble_eq_true rfl) rfl rfl (Nat.le_of_ble_eq_true rfl) ?_ ?_
      rotate_left
      · rintro E9 w9 h9; exact h9.elim
      rintro v25 w25 ⟨rfl, z25, rfl, g25⟩
      refine ne_callV X nw_Tg (me_X3_refuse l hl c q t b k h vt T (by exact ⟨Ic, Iq, It, Ib, Itb, Igb, Ik, Ih, Iv⟩) (by omega) _ _ (by omega) (by omega)) nw_yX3_refuse nw_mX3_72 nw_iX3_refuse nw_eX3_refuse (ci := 5) rfl rfl rfl dX3_rest_28 rfl rfl (by decide) (by decide) (by first | decide | omega) (by first | decide | omega) (Nat.le_of_ble_eq_true rfl) rfl rfl (Nat.le_of_ble_eq_true rfl) ?_ ?_
      rotate_left
      · rintro E9 w9 h9; exact h9.elim
      rintro v28 w28 ⟨u28, rfl, Iv, z28, rfl, g28⟩
      refine ne_if_eq (tgt := 36) X dX3_rest_31 rfl (by omega) (fun b31 => ?_) (fun b31 => ?_)
      · exfalso; omega
      · refine ne_iconst X dX3_rest_34 ?_
        exact ne_iret X hr (by first | rfl | decide | rfl) dX3_rest_35 (by rcases g28 with ⟨h7, h8, h9⟩ | ⟨h6, h7, h8, h9⟩ | ⟨h6, h7, h8, h9⟩; exact ⟨_, _, _, _, _, rfl, ⟨Ic, Iq, It, Ib, Itb, Igb, Ik, ne_rg_mono Ih (by omega) (by omega), Iv⟩, rfl, Or.inl ⟨h8, (by omega), rfl, rfl, rfl⟩⟩; exact ⟨_, _, _, _, _, rfl, ⟨Ic, Iq, It, Ib, Itb, Igb, Ik, ne_rg_mono Ih (by omega) (by omega), Iv⟩, rfl, Or.inr (Or.inl ⟨h8, (by omega), rfl, rfl, rfl⟩)⟩; exfalso; omega)
set_option maxRecDepth 100000 in
set_option maxHeartbeats 4000000 in
theorem me_X3_setPlacesW (l : Launch) (hl : l.stackTraces = false) (c q t b k h : Nat → Int) (vt T : Int) (hI : mI c q t b k h vt T) (hT : 0 ≤ T ∧ T ≤ 1000) (i : Int) (p : Int) (w0 : Int) (hi : -2147483648 ≤ i ∧ i < 2147483648) (hp : -2147483648 ≤ p ∧ p < 2147483648) (hw0 : -2147483648 ≤ w0 ∧ w0 < 2147483648) : ne_M l nw_cl (.code yX3_setPlaces cX3_setPlaces 4 (some .int)) nw_T yX3_setPlaces 9 330 0 0 [.ref 0, ni i, ni p, ni w0] (mW c q t b k h vt) (fun v w => ∃ c1 q1 h1 v1 z, w = mW c1 q1 t b k h1 v1 ∧ mI c1 q1 t b k h1 v1 (T + 1) ∧ v = some (ni z) ∧ ((v1 = 1 ∧ (i < 0 ∨ 4 ≤ i) ∧ c1 = c ∧ q1 = q ∧ h1 = h) ∨ (v1 = 2 ∧ ((0 ≤ i ∧ i < 4) ∧ (p < 0 ∨ 3 < p ∨ w0 < 0 ∨ 7 < w0)) ∧ c1 = c ∧ q1 = q ∧ h1 = h) ∨ (v1 = 0 ∧ ((0 ≤ i ∧ i < 4) ∧ 0 ≤ p ∧ p ≤ 3 ∧ 0 ≤ w0 ∧ w0 ≤ 7) ∧ ne_rcome c q h i w0 p (c i.toNat * 10 ^ p.toNat) (10 ^ (q i.toNat).toNat) c1 q1 h1 z))) (fun _ _ => False) := by
  refine ne_meet (own := RX3) hl rfl (by decide +kernel) (Nat.le_of_ble_eq_true rfl) ?_
  intro D ct A P9 V9 R9 S9 M9 as9 bl9 mt9 C9 ad0 X hr hin ht
  obtain ⟨Ic, Iq, It, Ib, Itb, Igb, Ik, Ih, Iv⟩ := hI
  refine ne_aload_n X dX3_setPlaces_0 rfl ?_
  refine ne_iload_n X dX3_setPlaces_1 rfl ?_
  refine ne_callS X nw_Tg (me_X3_isNoCell l hl _ _ (by omega)) nw_yX3_isNoCell nw_mX3_66 nw_sX3_isNoCell dX3_setPlaces_2 rfl rfl (by decide) (by decide) (by first | decide | omega) (by first | decide | omega) (Nat.le_of_ble_eq_true rfl) rfl rfl (Nat.le_of_ble_eq_true rfl) ?_ ?_
  rotate_left
  · rintro E9 w9 h9; exact h9.elim
  rintro v2 w2 ⟨rfl, z2, rfl, g2⟩
  refine ne_iload_n X dX3_setPlaces_5 rfl ?_
  refine ne_iload_n X dX3_setPlaces_6 rfl ?_
  refine ne_iconst X dX3_setPlaces_7 ?_
  refine ne_callS X nw_Tg (me_X3_isNoCut l hl _ _ _ _ (by omega) (by omega) (by omega)) nw_yX3_isNoCut nw_mX3_87 nw_sX3_isNoCut dX3_setPlaces_8 rfl rfl (by decide) (by decide) (by first | decide | omega) (by first | decide | omega) (Nat.le_of_ble_eq_true rfl) rfl rfl (Nat.le_of_ble_eq_true rfl) ?_ ?_
  rotate_left
  · rintro E9 w9 h9; exact h9.elim
  rintro v8 w8 ⟨rfl, z8, rfl, g8⟩
  refine ne_callV X nw_Tg (me_X3_refuse l hl c q t b k h vt T (by exact ⟨Ic, Iq, It, Ib, Itb, Igb, Ik, Ih, Iv⟩) (by omega) _ _ (by omega) (by omega)) nw_yX3_refuse nw_mX3_72 nw_iX3_refuse nw_eX3_refuse (ci := 5) rfl rfl rfl dX3_setPlaces_11 rfl rfl (by decide) (by decide) (by first | decide | omega) (by first | decide | omega) (Nat.le_of_ble_eq_true rfl) rfl rfl (Nat.le_of_ble_eq_true rfl) ?_ ?_
  rotate_left
  · rintro E9 w9 h9; exact h9.elim
  rintro v11 w11 ⟨u11, rfl, Iv, z11, rfl, g11⟩
  refine ne_if_eq (tgt := 19) X dX3_setPlaces_14 rfl (by omega) (fun b14 => ?_) (fun b14 => ?_)
  · have hk9 : (((0 ≤ i ∧ i < 4) ∧ 0 ≤ p ∧ p ≤ 3 ∧ 0 ≤ w0 ∧ w0 ≤ 7)) ∧ u11 = 0 := by omega
    try clear g2
    try clear g8
    try clear g11
    try clear b14
    refine ne_aload_n X dX3_setPlaces_19 rfl ?_
    refine ne_iload_n X dX3_setPlaces_20 rfl ?_
    refine ne_aload_n X dX3_setPlaces_21 rfl ?_
    refine ne_getf X dX3_setPlaces_22 nw_fX3_9 rfl rfl ?_
    refine ne_iload_n X dX3_setPlaces_25 rfl ?_
    refine ne_ialdR X dX3_setPlaces_26 rfl (by omega) Ic (fun v26 e26 f26 u26 => ?_)
    refine ne_i2l (by omega) X dX3_setPlaces_27 ?_
    refine ne_iload_n X dX3_setPlaces_28 rfl ?_
    refine ne_callS X nw_Tg (me_X3_ten l hl _ _ (by omega)) nw_yX3_ten nw_mX3_58 nw_sX3_ten dX3_setPlaces_29 rfl rfl (by decide) (by decide) (by first | decide | omega) (by first | decide | omega) (Nat.le_of_ble_eq_true rfl) rfl rfl (Nat.le_of_ble_eq_true rfl) ?_ ?_
    rotate_left
    · rintro E9 w9 h9; exact h9.elim
    rintro v29 w29 ⟨rfl, z29, rfl, g29, k29, i29, j29, m29, o29, p29⟩
    have t299 := i29 (by omega)
    clear i29 j29 m29 o29 p29
    have m29 := ne_mul v26 z29 999999 1000 (by omega) (by omega)
    refine ne_lmul X dX3_setPlaces_32 ?_
    refine ne_aload_n X dX3_setPlaces_33 rfl ?_
    refine ne_getf X dX3_setPlaces_34 nw_fX3_15 rfl rfl ?_
    refine ne_iload_n X dX3_setPlaces_37 rfl ?_
    refine ne_ialdR X dX3_setPlaces_38 rfl (by omega) Iq (fun v38 e38 f38 u38 => ?_)
    refine ne_callS X nw_Tg (me_X3_ten l hl _ _ (by omega)) nw_yX3_ten nw_mX3_58 nw_sX3_ten dX3_setPlaces_39 rfl rfl (by decide) (by decide) (by first | decide | omega) (by first | decide | omega) (Nat.le_of_ble_eq_true rfl) rfl rfl (Nat.le_of_ble_eq_true rfl) ?_ ?_
    rotate_left
    · rintro E9 w9 h9; exact h9.elim
    rintro v39 w39 ⟨rfl, z39, rfl, g39, k39, i39, j39, m39, o39, p39⟩
    have t399 := i39 (by omega)
    clear i39 j39 m39 o39 p39
    refine ne_iload_n X dX3_setPlaces_42 rfl ?_
    refine ne_callS X nw_Tg (me_X3_roundedX l hl _ 999999000 _ _ _ (by omega) (by omega) (by omega) (by omega)) nw_yX3_rounded nw_mX3_90 nw_sX3_rounded dX3_setPlaces_43 rfl rfl (by decide) (by decide) (by first | decide | omega) (by first | decide | omega) (Nat.le_of_ble_eq_true rfl) rfl rfl (Nat.le_of_ble_eq_true rfl) ?_ ?_
    rotate_left
    · rintro E9 w9 h9; exact h9.elim
    rintro v43 w43 ⟨rfl, z43, rfl, g43⟩
    refine ne_iload_n X dX3_setPlaces_46 rfl ?_
    refine ne_callV X nw_Tg (me_X3_comeX l hl c q t b k h u11 T (by exact ⟨Ic, Iq, It, Ib, Itb, Igb, Ik, Ih, Iv⟩) (by omega) _ _ _ (by omega) (by omega) (by omega)) nw_yX3_come nw_mX3_76 nw_iX3_come nw_eX3_come (ci := 5) rfl rfl rfl dX3_setPlaces_47 rfl rfl (by decide) (by decide) (by first | decide | omega) (by first | decide | omega) (Nat.le_of_ble_eq_true rfl) rfl rfl (Nat.le_of_ble_eq_true rfl) ?_ ?_
    rotate_left
    · rintro E9 w9 h9; exact h9.elim
    rintro v47 w47 ⟨c47, q47, h47, rfl, hI47, z47, rfl, z947, G47⟩
    exact ne_iret X hr (by first | rfl | decide | rfl) dX3_setPlaces_50 ⟨_, _, _, _, _, rfl, hI47, rfl, Or.inr (Or.inr ⟨by omega, by omega, (by rw [e26, g29, g39, e38] at g43; exact ne_rcC (by decide) g43 G47)⟩)⟩
  · refine ne_iconst X dX3_setPlaces_17 ?_
    exact ne_iret X hr (by first | rfl | decide | rfl) dX3_setPlaces_18 (by rcases g11 with ⟨h7, h8, h9⟩ | ⟨h6, h7, h8, h9⟩ | ⟨h6, h7, h8, h9⟩; exact ⟨_, _, _, _, _, rfl, ⟨Ic, Iq, It, Ib, Itb, Igb, Ik, ne_rg_mono Ih (by omega) (by omega), Iv⟩, rfl, Or.inl ⟨h8, (by omega), rfl, rfl, rfl⟩⟩; exact ⟨_, _, _, _, _, rfl, ⟨Ic, Iq, It, Ib, Itb, Igb, Ik, ne_rg_mono Ih (by omega) (by omega), Iv⟩, rfl, Or.inr (Or.inl ⟨h8, (by omega), rfl, rfl, rfl⟩)⟩; exfalso; omega)
set_option maxRecDepth 100000 in
set_option maxHeartbeats 4000000 in
theorem me_X3_stripW (l : Launch) (hl : l.stackTraces = false) (c q t b k h : Nat → Int) (vt T : Int) (hI : mI c q t b k h vt T) (hT : 0 ≤ T ∧ T ≤ 1000) (i : Int) (hi : -2147483648 ≤ i ∧ i < 2147483648) : ne_M l nw_cl (.code yX3_strip cX3_strip 3 (some .int)) nw_T yX3_strip 9 330 0 0 [.ref 0, ni i] (mW c q t b k h vt) (fun v w => ∃ c1 q1 h1 v1 z, w = mW c1 q1 t b k h1 v1 ∧ mI c1 q1 t b k h1 v1 (T + 1) ∧ v = some (ni z) ∧ ((v1 = 1 ∧ (i < 0 ∨ 4 ≤ i) ∧ c1 = c ∧ q1 = q ∧ h1 = h) ∨ (v1 = 2 ∧ False ∧ c1 = c ∧ q1 = q ∧ h1 = h) ∨ (v1 = 0 ∧ (0 ≤ i ∧ i < 4) ∧ ne_Astrip c q h i c1 q1 h1 z))) (fun _ _ => False) := by
  refine ne_meet (own := RX3) hl rfl (by decide +kernel) (Nat.le_of_ble_eq_true rfl) ?_
  intro D ct A P9 V9 R9 S9 M9 as9 bl9 mt9 C9 ad0 X hr hin ht
  obtain ⟨Ic, Iq, It, Ib, Itb, Igb, Ik, Ih, Iv⟩ := hI
  have lp16 : ∀ (n9 : Nat) (j : Int), (4 - j).toNat < n9 → (0 ≤ j) → (j ≤ q i.toNat) → (0 ≤ i ∧ i < 4) → (∀ R : Int, 0 ≤ R → R < j → (c i.toNat).tmod (10 ^ (q i.toNat - R).toNat) ≠ 0) → ne_G nw_cl D ct A 7 ad0 P9 l V9 R9 S9 M9 as9 bl9 mt9 C9 (ne_O nw_cl D ct ad0 7 A bl9 as9 S9 0 0 (fun v w => ∃ c1 q1 h1 v1 z, w = mW c1 q1 t b k h1 v1 ∧ mI c1 q1 t b k h1 v1 (T + 1) ∧ v = some (ni z) ∧ ((v1 = 1 ∧ (i < 0 ∨ 4 ≤ i) ∧ c1 = c ∧ q1 = q ∧ h1 = h) ∨ (v1 = 2 ∧ False ∧ c1 = c ∧ q1 = q ∧ h1 = h) ∨ (v1 = 0 ∧ (0 ≤ i ∧ i < 4) ∧ ne_Astrip c q h i c1 q1 h1 z))) (fun _ _ => False)) 3 0 0 0 0 16 [some (.ref 0), some (ni i), some (ni j)] [] (mW c q t b k h 0) := by
    intro n9
    induction n9 with
    | zero => intro j hm9 q1 q2 q6 q11; exfalso; omega
    | succ n9 ih =>
      intro j hm9 q1 q2 q6 q11
      have Iv : (0 : Int) ≤ 0 ∧ (0 : Int) ≤ 2 := by omega
      have hq9 := Iq i.toNat
      refine ne_aload_n X dX3_strip_16 rfl ?_
      refine ne_getf X dX3_strip_17 nw_fX3_9 rfl rfl ?_
      refine ne_iload_n X dX3_strip_20 rfl ?_
      refine ne_ialdR X dX3_strip_21 rfl (by omega) Ic (fun v21 e21 f21 u21 => ?_)
      refine ne_i2l (by omega) X dX3_strip_22 ?_
      refine ne_aload_n X dX3_strip_23 rfl ?_
      refine ne_getf X dX3_strip_24 nw_fX3_15 rfl rfl ?_
      refine ne_iload_n X dX3_strip_27 rfl ?_
      refine ne_ialdR X dX3_strip_28 rfl (by omega) Iq (fun v28 e28 f28 u28 => ?_)
      refine ne_iload_n X dX3_strip_29 rfl ?_
      refine ne_isub X dX3_strip_30 ?_
      refine ne_callS X nw_Tg (me_X3_ten l hl _ _ (by omega)) nw_yX3_ten nw_mX3_58 nw_sX3_ten dX3_strip_31 rfl rfl (by decide) (by decide) (by first | decide | omega) (by first | decide | omega) (Nat.le_of_ble_eq_true rfl) rfl rfl (Nat.le_of_ble_eq_true rfl) ?_ ?_
      rotate_left
      · rintro E9 w9 h9; exact h9.elim
      rintro v31 w31 ⟨rfl, z31, rfl, g31, k31, i31, j31, m31, o31, p31⟩
      have t319 := i31 (by omega)
      clear i31 j31 m31 o31 p31
      have t31 := ne_tdm v21 z31 (by omega)
      refine ne_lrem X dX3_strip_34 (by omega) (by omega) (by omega) ?_
      refine ne_lconst (z := 0) (by decide) X dX3_strip_35 ?_
      refine ne_lcif_eq (tgt := 46) X dX3_strip_36 dX3_strip_37 rfl (by omega) (by omega) (fun b37 => ?_) (fun b37 => ?_)
      · refine ne_aload_n X dX3_strip_46 rfl ?_
        refine ne_iload_n X dX3_strip_47 rfl ?_
        refine ne_aload_n X dX3_strip_48 rfl ?_
        refine ne_getf X dX3_strip_49 nw_fX3_9 rfl rfl ?_
        refine ne_iload_n X dX3_strip_52 rfl ?_
        refine ne_ialdR X dX3_strip_53 rfl (by omega) Ic (fun v53 e53 f53 u53 => ?_)
        refine ne_i2l (by omega) X dX3_strip_54 ?_
        refine ne_aload_n X dX3_strip_55 rfl ?_
        refine ne_getf X dX3_strip_56 nw_fX3_15 rfl rfl ?_
        refine ne_iload_n X dX3_strip_59 rfl ?_
        refine ne_ialdR X dX3_strip_60 rfl (by omega) Iq (fun v60 e60 f60 u60 => ?_)
        refine ne_iload_n X dX3_strip_61 rfl ?_
        refine ne_isub X dX3_strip_62 ?_
        refine ne_callS X nw_Tg (me_X3_ten l hl _ _ (by omega)) nw_yX3_ten nw_mX3_58 nw_sX3_ten dX3_strip_63 rfl rfl (by decide) (by decide) (by first | decide | omega) (by first | decide | omega) (Nat.le_of_ble_eq_true rfl) rfl rfl (Nat.le_of_ble_eq_true rfl) ?_ ?_
        rotate_left
        · rintro E9 w9 h9; exact h9.elim
        rintro v63 w63 ⟨rfl, z63, rfl, g63, k63, i63, j63, m63, o63, p63⟩
        have t639 := i63 (by omega)
        clear i63 j63 m63 o63 p63
        have hz9 : (c i.toNat).tmod (10 ^ (q i.toNat - j).toNat) = 0 := by rw [← e28, ← g31, ← e21]; omega
        have t63 := ne_tq v53 z63
        refine ne_ldiv X dX3_strip_66 (by omega) (by omega) (by omega) ?_
        refine ne_iload_n X dX3_strip_67 rfl ?_
        refine ne_callV X nw_Tg (me_X3_comeX l hl c q t b k h 0 T (by exact ⟨Ic, Iq, It, Ib, Itb, Igb, Ik, Ih, Iv⟩) (by omega) _ _ _ (by omega) (by omega) (by omega)) nw_yX3_come nw_mX3_76 nw_iX3_come nw_eX3_come (ci := 5) rfl rfl rfl dX3_strip_68 rfl rfl (by decide) (by decide) (by first | decide | omega) (by first | decide | omega) (Nat.le_of_ble_eq_true rfl) rfl rfl (Nat.le_of_ble_eq_true rfl) ?_ ?_
        rotate_left
        · rintro E9 w9 h9; exact h9.elim
        rintro v68 w68 ⟨c68, q68, h68, rfl, hI68, z68, rfl, z968, G68⟩
        exact ne_iret X hr (by first | rfl | decide | rfl) dX3_strip_71 ⟨_, _, _, _, _, rfl, hI68, rfl, Or.inr (Or.inr ⟨by omega, by omega, ⟨_, j, by omega, by omega, (Int.tdiv_mul_cancel_of_tmod_eq_zero hz9).symm, (by
                                        rcases (show j = 0 ∨ 0 < j by omega) with h3 | h3
                                        · exact Or.inl h3
                                        · exact Or.inr (ne_strE ⟨h3, q2⟩ hz9 (q11 (j - 1) (by omega) (by omega)))), (by rw [e53, g63, e60] at G68; exact G68)⟩⟩)⟩
      · refine ne_iinc X dX3_strip_40 rfl (by decide) ?_
        refine ne_goto (tgt := 16) X dX3_strip_43 rfl ?_
        have hj : j < q i.toNat := by
                                        rcases (show j < q i.toNat ∨ (v28 - j).toNat = 0 by omega) with h | h
                                        · exact h
                                        · rw [h, Int.pow_zero] at g31
                                          rw [g31, Int.tmod_one] at b37
                                          exact absurd rfl b37
        have q12 : ∀ R : Int, 0 ≤ R → R < j + 1 → (c i.toNat).tmod (10 ^ (q i.toNat - R).toNat) ≠ 0 := fun R h1 h2 => by
                                        rcases (show R < j ∨ R = j by omega) with h3 | h3
                                        · exact q11 R h1 h3
                                        · rw [h3, ← e28, ← g31, ← e21]; omega
        exact ih _ (by omega) (by omega) (by omega) (by omega) q12
  refine ne_aload_n X dX3_strip_0 rfl ?_
  refine ne_iload_n X dX3_strip_1 rfl ?_
  refine ne_callS X nw_Tg (me_X3_isNoCell l hl _ _ (by omega)) nw_yX3_isNoCell nw_mX3_66 nw_sX3_isNoCell dX3_strip_2 rfl rfl (by decide) (by decide) (by first | decide | omega) (by first | decide | omega) (Nat.le_of_ble_eq_true rfl) rfl rfl (Nat.le_of_ble_eq_true rfl) ?_ ?_
  rotate_left
  · rintro E9 w9 h9; exact h9.elim
  rintro v2 w2 ⟨rfl, z2, rfl, g2⟩
  refine ne_iconst X dX3_strip_5 ?_
  refine ne_callV X nw_Tg (me_X3_refuse l hl c q t b k h vt T (by exact ⟨Ic, Iq, It, Ib, Itb, Igb, Ik, Ih, Iv⟩) (by omega) _ _ (by omega) (by omega)) nw_yX3_refuse nw_mX3_72 nw_iX3_refuse nw_eX3_refuse (ci := 5) rfl rfl rfl dX3_strip_6 rfl rfl (by decide) (by decide) (by first | decide | omega) (by first | decide | omega) (Nat.le_of_ble_eq_true rfl) rfl rfl (Nat.le_of_ble_eq_true rfl) ?_ ?_
  rotate_left
  · rintro E9 w9 h9; exact h9.elim
  rintro v6 w6 ⟨u6, rfl, Iv, z6, rfl, g6⟩
  refine ne_if_eq (tgt := 14) X dX3_strip_9 rfl (by omega) (fun b9 => ?_) (fun b9 => ?_)
  · have hk9 : ((0 ≤ i ∧ i < 4)) ∧ u6 = 0 := by omega
    try clear g2
    try clear g6
    try clear b9
    refine ne_iconst X dX3_strip_14 ?_
    refine ne_istore_n X dX3_strip_15 rfl (by decide) ?_
    obtain rfl : u6 = 0 := by omega
    have hq9 := Iq i.toNat
    exact lp16 _ 0 (Nat.lt_succ_self _) (by omega) (by omega) (by omega) (fun R h1 h2 => by omega)
  · refine ne_iconst X dX3_strip_12 ?_
    exact ne_iret X hr (by first | rfl | decide | rfl) dX3_strip_13 (by rcases g6 with ⟨h7, h8, h9⟩ | ⟨h6, h7, h8, h9⟩ | ⟨h6, h7, h8, h9⟩; exact ⟨_, _, _, _, _, rfl, ⟨Ic, Iq, It, Ib, Itb, Igb, Ik, ne_rg_mono Ih (by omega) (by omega), Iv⟩, rfl, Or.inl ⟨h8, (by omega), rfl, rfl, rfl⟩⟩; exfalso; omega; exfalso; omega)
set_option maxRecDepth 100000 in
set_option maxHeartbeats 4000000 in
theorem me_X3_moveW (l : Launch) (hl : l.stackTraces = false) (c q t b k h : Nat → Int) (vt T : Int) (hI : mI c q t b k h vt T) (hT : 0 ≤ T ∧ T ≤ 1000) (i : Int) (a : Int) (hi : -2147483648 ≤ i ∧ i < 2147483648) (ha : -2147483648 ≤ a ∧ a < 2147483648) : ne_M l nw_cl (.code yX3_move cX3_move 4 (some .int)) nw_T yX3_move 9 330 0 0 [.ref 0, ni i, ni a] (mW c q t b k h vt) (fun v w => ∃ c1 q1 h1 v1 z, w = mW c1 q1 t b k h1 v1 ∧ mI c1 q1 t b k h1 v1 (T + 1) ∧ v = some (ni z) ∧ ((v1 = 1 ∧ (i < 0 ∨ 4 ≤ i) ∧ c1 = c ∧ q1 = q ∧ h1 = h) ∨ (v1 = 2 ∧ ((0 ≤ i ∧ i < 4) ∧ (a < -3 ∨ 3 < a)) ∧ c1 = c ∧ q1 = q ∧ h1 = h) ∨ (v1 = 0 ∧ ((0 ≤ i ∧ i < 4) ∧ -3 ≤ a ∧ a ≤ 3) ∧ ne_cat c q h i (c i.toNat) (q i.toNat + a) c1 q1 h1 z))) (fun _ _ => False) := by
  refine ne_meet (own := RX3) hl rfl (by decide +kernel) (Nat.le_of_ble_eq_true rfl) ?_
  intro D ct A P9 V9 R9 S9 M9 as9 bl9 mt9 C9 ad0 X hr hin ht
  obtain ⟨Ic, Iq, It, Ib, Itb, Igb, Ik, Ih, Iv⟩ := hI
  refine ne_aload_n X dX3_move_0 rfl ?_
  refine ne_iload_n X dX3_move_1 rfl ?_
  refine ne_callS X nw_Tg (me_X3_isNoCell l hl _ _ (by omega)) nw_yX3_isNoCell nw_mX3_66 nw_sX3_isNoCell dX3_move_2 rfl rfl (by decide) (by decide) (by first | decide | omega) (by first | decide | omega) (Nat.le_of_ble_eq_true rfl) rfl rfl (Nat.le_of_ble_eq_true rfl) ?_ ?_
  rotate_left
  · rintro E9 w9 h9; exact h9.elim
  rintro v2 w2 ⟨rfl, z2, rfl, g2⟩
  refine ne_iload_n X dX3_move_5 rfl ?_
  refine ne_bipush (v := -3) (by decide) X dX3_move_6 ?_
  refine ne_iconst X dX3_move_8 ?_
  refine ne_callS X nw_Tg (me_X3_isOut l hl _ _ _ _ (by omega) (by omega) (by omega)) nw_yX3_isOut nw_mX3_34 nw_sX3_isOut dX3_move_9 rfl rfl (by decide) (by decide) (by first | decide | omega) (by first | decide | omega) (Nat.le_of_ble_eq_true rfl) rfl rfl (Nat.le_of_ble_eq_true rfl) ?_ ?_
  rotate_left
  · rintro E9 w9 h9; exact h9.elim
  rintro v9 w9 ⟨rfl, z9, rfl, g9⟩
  refine ne_callV X nw_Tg (me_X3_refuse l hl c q t b k h vt T (by exact ⟨Ic, Iq, It, Ib, Itb, Igb, Ik, Ih, Iv⟩) (by omega) _ _ (by omega) (by omega)) nw_yX3_refuse nw_mX3_72 nw_iX3_refuse nw_eX3_refuse (ci := 5) rfl rfl rfl dX3_move_12 rfl rfl (by decide) (by decide) (by first | decide | omega) (by first | decide | omega) (Nat.le_of_ble_eq_true rfl) rfl rfl (Nat.le_of_ble_eq_true rfl) ?_ ?_
  rotate_left
  · rintro E9 w9 h9; exact h9.elim
  rintro v12 w12 ⟨u12, rfl, Iv, z12, rfl, g12⟩
  refine ne_if_eq (tgt := 20) X dX3_move_15 rfl (by omega) (fun b15 => ?_) (fun b15 => ?_)
  · have hk9 : (((0 ≤ i ∧ i < 4) ∧ -3 ≤ a ∧ a ≤ 3)) ∧ u12 = 0 := by omega
    try clear g2
    try clear g9
    try clear g12
    try clear b15
    refine ne_aload_n X dX3_move_20 rfl ?_
    refine ne_getf X dX3_move_21 nw_fX3_15 rfl rfl ?_
    refine ne_iload_n X dX3_move_24 rfl ?_
    refine ne_ialdR X dX3_move_25 rfl (by omega) Iq (fun v25 e25 f25 u25 => ?_)
    refine ne_iload_n X dX3_move_26 rfl ?_
    refine ne_iadd X dX3_move_27 ?_
    refine ne_istore_n X dX3_move_28 rfl (by decide) ?_
    refine ne_iload_n X dX3_move_29 rfl ?_
    refine ne_if_ge (tgt := 55) X dX3_move_30 rfl (by omega) (fun b30 => ?_) (fun b30 => ?_)
    · refine ne_aload_n X dX3_move_55 rfl ?_
      refine ne_iload_n X dX3_move_56 rfl ?_
      refine ne_aload_n X dX3_move_57 rfl ?_
      refine ne_getf X dX3_move_58 nw_fX3_9 rfl rfl ?_
      refine ne_iload_n X dX3_move_61 rfl ?_
      refine ne_ialdR X dX3_move_62 rfl (by omega) Ic (fun v62 e62 f62 u62 => ?_)
      refine ne_i2l (by omega) X dX3_move_63 ?_
      refine ne_iload_n X dX3_move_64 rfl ?_
      refine ne_callV X nw_Tg (me_X3_comeX l hl c q t b k h u12 T (by exact ⟨Ic, Iq, It, Ib, Itb, Igb, Ik, Ih, Iv⟩) (by omega) _ _ _ (by omega) (by omega) (by omega)) nw_yX3_come nw_mX3_76 nw_iX3_come nw_eX3_come (ci := 5) rfl rfl rfl dX3_move_65 rfl rfl (by decide) (by decide) (by first | decide | omega) (by first | decide | omega) (Nat.le_of_ble_eq_true rfl) rfl rfl (Nat.le_of_ble_eq_true rfl) ?_ ?_
      rotate_left
      · rintro E9 w9 h9; exact h9.elim
      rintro v65 w65 ⟨c65, q65, h65, rfl, hI65, z65, rfl, z965, G65⟩
      exact ne_iret X hr (by first | rfl | decide | rfl) dX3_move_68 ⟨_, _, _, _, _, rfl, hI65, rfl, Or.inr (Or.inr ⟨by omega, by omega, Or.inr ⟨by omega, (by rw [e62, e25] at G65; exact G65)⟩⟩)⟩
    · refine ne_aload_n X dX3_move_33 rfl ?_
      refine ne_iload_n X dX3_move_34 rfl ?_
      refine ne_aload_n X dX3_move_35 rfl ?_
      refine ne_getf X dX3_move_36 nw_fX3_9 rfl rfl ?_
      refine ne_iload_n X dX3_move_39 rfl ?_
      refine ne_ialdR X dX3_move_40 rfl (by omega) Ic (fun v40 e40 f40 u40 => ?_)
      refine ne_i2l (by omega) X dX3_move_41 ?_
      refine ne_iload_n X dX3_move_42 rfl ?_
      refine ne_ineg X dX3_move_43 ?_
      refine ne_callS X nw_Tg (me_X3_ten l hl _ _ (by omega)) nw_yX3_ten nw_mX3_58 nw_sX3_ten dX3_move_44 rfl rfl (by decide) (by decide) (by first | decide | omega) (by first | decide | omega) (Nat.le_of_ble_eq_true rfl) rfl rfl (Nat.le_of_ble_eq_true rfl) ?_ ?_
      rotate_left
      · rintro E9 w9 h9; exact h9.elim
      rintro v44 w44 ⟨rfl, z44, rfl, g44, k44, i44, j44, m44, o44, p44⟩
      have t449 := i44 (by omega)
      clear i44 j44 m44 o44 p44
      have m44 := ne_mul v40 z44 999999 1000 (by omega) (by omega)
      refine ne_lmul X dX3_move_47 ?_
      refine ne_iconst X dX3_move_48 ?_
      refine ne_callV X nw_Tg (me_X3_comeX l hl c q t b k h u12 T (by exact ⟨Ic, Iq, It, Ib, Itb, Igb, Ik, Ih, Iv⟩) (by omega) _ _ _ (by omega) (by omega) (by omega)) nw_yX3_come nw_mX3_76 nw_iX3_come nw_eX3_come (ci := 5) rfl rfl rfl dX3_move_49 rfl rfl (by decide) (by decide) (by first | decide | omega) (by first | decide | omega) (Nat.le_of_ble_eq_true rfl) rfl rfl (Nat.le_of_ble_eq_true rfl) ?_ ?_
      rotate_left
      · rintro E9 w9 h9; exact h9.elim
      rintro v49 w49 ⟨c49, q49, h49, rfl, hI49, z49, rfl, z949, G49⟩
      refine ne_goto (tgt := 68) X dX3_move_52 rfl ?_
      exact ne_iret X hr (by first | rfl | decide | rfl) dX3_move_68 ⟨_, _, _, _, _, rfl, hI49, rfl, Or.inr (Or.inr ⟨by omega, by omega, Or.inl ⟨by omega, (by rw [e40, g44, e25] at G49; exact G49)⟩⟩)⟩
  · refine ne_iconst X dX3_move_18 ?_
    exact ne_iret X hr (by first | rfl | decide | rfl) dX3_move_19 (by rcases g12 with ⟨h7, h8, h9⟩ | ⟨h6, h7, h8, h9⟩ | ⟨h6, h7, h8, h9⟩; exact ⟨_, _, _, _, _, rfl, ⟨Ic, Iq, It, Ib, Itb, Igb, Ik, ne_rg_mono Ih (by omega) (by omega), Iv⟩, rfl, Or.inl ⟨h8, (by omega), rfl, rfl, rfl⟩⟩; exact ⟨_, _, _, _, _, rfl, ⟨Ic, Iq, It, Ib, Itb, Igb, Ik, ne_rg_mono Ih (by omega) (by omega), Iv⟩, rfl, Or.inr (Or.inl ⟨h8, (by omega), rfl, rfl, rfl⟩)⟩; exfalso; omega)
set_option maxRecDepth 100000 in
set_option maxHeartbeats 4000000 in
theorem me_X3_roundW (l : Launch) (hl : l.stackTraces = false) (c q t b k h : Nat → Int) (vt T : Int) (hI : mI c q t b k h vt T) (hT : 0 ≤ T ∧ T ≤ 1000) (i : Int) (a : Int) (w0 : Int) (hi : -2147483648 ≤ i ∧ i < 2147483648) (ha : -2147483648 ≤ a ∧ a < 2147483648) (hw0 : -2147483648 ≤ w0 ∧ w0 < 2147483648) : ne_M l nw_cl (.code yX3_round cX3_round 8 (some .int)) nw_T yX3_round 9 330 0 0 [.ref 0, ni i, ni a, ni w0] (mW c q t b k h vt) (fun v w => ∃ c1 q1 h1 v1 z, w = mW c1 q1 t b k h1 v1 ∧ mI c1 q1 t b k h1 v1 (T + 1) ∧ v = some (ni z) ∧ ((v1 = 1 ∧ (i < 0 ∨ 4 ≤ i) ∧ c1 = c ∧ q1 = q ∧ h1 = h) ∨ (v1 = 2 ∧ ((0 ≤ i ∧ i < 4) ∧ (a < 1 ∨ 6 < a ∨ w0 < 0 ∨ 7 < w0)) ∧ c1 = c ∧ q1 = q ∧ h1 = h) ∨ (v1 = 0 ∧ ((0 ≤ i ∧ i < 4) ∧ 1 ≤ a ∧ a ≤ 6 ∧ 0 ≤ w0 ∧ w0 ≤ 7) ∧ ne_Around c q h i a w0 c1 q1 h1 z))) (fun _ _ => False) := by
  refine ne_meet (own := RX3) hl rfl (by decide +kernel) (Nat.le_of_ble_eq_true rfl) ?_
  intro D ct A P9 V9 R9 S9 M9 as9 bl9 mt9 C9 ad0 X hr hin ht
  obtain ⟨Ic, Iq, It, Ib, Itb, Igb, Ik, Ih, Iv⟩ := hI
  refine ne_aload_n X dX3_round_0 rfl ?_
  refine ne_iload_n X dX3_round_1 rfl ?_
  refine ne_callS X nw_Tg (me_X3_isNoCell l hl _ _ (by omega)) nw_yX3_isNoCell nw_mX3_66 nw_sX3_isNoCell dX3_round_2 rfl rfl (by decide) (by decide) (by first | decide | omega) (by first | decide | omega) (Nat.le_of_ble_eq_true rfl) rfl rfl (Nat.le_of_ble_eq_true rfl) ?_ ?_
  rotate_left
  · rintro E9 w9 h9; exact h9.elim
  rintro v2 w2 ⟨rfl, z2, rfl, g2⟩
  refine ne_iload_n X dX3_round_5 rfl ?_
  refine ne_iconst X dX3_round_6 ?_
  refine ne_bipush (v := 6) (by decide) X dX3_round_7 ?_
  refine ne_callS X nw_Tg (me_X3_isOut l hl _ _ _ _ (by omega) (by omega) (by omega)) nw_yX3_isOut nw_mX3_34 nw_sX3_isOut dX3_round_9 rfl rfl (by decide) (by decide) (by first | decide | omega) (by first | decide | omega) (Nat.le_of_ble_eq_true rfl) rfl rfl (Nat.le_of_ble_eq_true rfl) ?_ ?_
  rotate_left
  · rintro E9 w9 h9; exact h9.elim
  rintro v9 w9 ⟨rfl, z9, rfl, g9⟩
  refine ne_if_ne (tgt := 25) X dX3_round_12 rfl (by omega) (fun b12 => ?_) (fun b12 => ?_)
  · refine ne_iconst X dX3_round_25 ?_
    refine ne_goto (tgt := 30) X dX3_round_26 rfl ?_
    refine ne_callV X nw_Tg (me_X3_refuse l hl c q t b k h vt T (by exact ⟨Ic, Iq, It, Ib, Itb, Igb, Ik, Ih, Iv⟩) (by omega) _ _ (by omega) (by omega)) nw_yX3_refuse nw_mX3_72 nw_iX3_refuse nw_eX3_refuse (ci := 5) rfl rfl rfl dX3_round_30 rfl rfl (by decide) (by decide) (by first | decide | omega) (by first | decide | omega) (Nat.le_of_ble_eq_true rfl) rfl rfl (Nat.le_of_ble_eq_true rfl) ?_ ?_
    rotate_left
    · rintro E9 w9 h9; exact h9.elim
    rintro v30 w30 ⟨u30, rfl, Iv, z30, rfl, g30⟩
    refine ne_if_eq (tgt := 38) X dX3_round_33 rfl (by omega) (fun b33 => ?_) (fun b33 => ?_)
    · exfalso; omega
    · refine ne_iconst X dX3_round_36 ?_
      exact ne_iret X hr (by first | rfl | decide | rfl) dX3_round_37 (by rcases g30 with ⟨h7, h8, h9⟩ | ⟨h6, h7, h8, h9⟩ | ⟨h6, h7, h8, h9⟩; exact ⟨_, _, _, _, _, rfl, ⟨Ic, Iq, It, Ib, Itb, Igb, Ik, ne_rg_mono Ih (by omega) (by omega), Iv⟩, rfl, Or.inl ⟨h8, (by omega), rfl, rfl, rfl⟩⟩; exact ⟨_, _, _, _, _, rfl, ⟨Ic, Iq, It, Ib, Itb, Igb, Ik, ne_rg_mono Ih (by omega) (by omega), Iv⟩, rfl, Or.inr (Or.inl ⟨h8, (by omega), rfl, rfl, rfl⟩)⟩; exfalso; omega)
  · refine ne_iload_n X dX3_round_15 rfl ?_
    refine ne_iconst X dX3_round_16 ?_
    refine ne_bipush (v := 7) (by decide) X dX3_round_17 ?_
    refine ne_callS X nw_Tg (me_X3_isOut l hl _ _ _ _ (by omega) (by omega) (by omega)) nw_yX3_isOut nw_mX3_34 nw_sX3_isOut dX3_round_19 rfl rfl (by decide) (by decide) (by first | decide | omega) (by first | decide | omega) (Nat.le_of_ble_eq_true rfl) rfl rfl (Nat.le_of_ble_eq_true rfl) ?_ ?_
    rotate_left
    · rintro E9 w9 h9; exact h9.elim
    rintro v19 w19 ⟨rfl, z19, rfl, g19⟩
    refine ne_if_eq (tgt := 29) X dX3_round_22 rfl (by omega) (fun b22 => ?_) (fun b22 => ?_)
    · refine ne_iconst X dX3_round_29 ?_
      refine ne_callV X nw_Tg (me_X3_refuse l hl c q t b k h vt T (by exact ⟨Ic, Iq, It, Ib, Itb, Igb, Ik, Ih, Iv⟩) (by omega) _ _ (by omega) (by omega)) nw_yX3_refuse nw_mX3_72 nw_iX3_refuse nw_eX3_refuse (ci := 5) rfl rfl rfl dX3_round_30 rfl rfl (by decide) (by decide) (by first | decide | omega) (by first | decide | omega) (Nat.le_of_ble_eq_true rfl) rfl rfl (Nat.le_of_ble_eq_true rfl) ?_ ?_
      rotate_left
      · rintro E9 w9 h9; exact h9.elim
      rintro v30 w30 ⟨u30, rfl, Iv, z30, rfl, g30⟩
      refine ne_if_eq (tgt := 38) X dX3_round_33 rfl (by omega) (fun b33 => ?_) (fun b33 => ?_)
      · have hk9 : (((0 ≤ i ∧ i < 4) ∧ 1 ≤ a ∧ a ≤ 6 ∧ 0 ≤ w0 ∧ w0 ≤ 7)) ∧ u30 = 0 := by omega
        try clear g2
        try clear g9
        try clear b12
        try clear g19
        try clear b22
        try clear g30
        try clear b33
        refine ne_aload_n X dX3_round_38 rfl ?_
        refine ne_getf X dX3_round_39 nw_fX3_9 rfl rfl ?_
        refine ne_iload_n X dX3_round_42 rfl ?_
        refine ne_ialdR X dX3_round_43 rfl (by omega) Ic (fun v43 e43 f43 u43 => ?_)
        refine ne_i2l (by omega) X dX3_round_44 ?_
        refine ne_callS X nw_Tg (me_X3_digitsOfX l hl _ _ (by omega)) nw_yX3_digitsOf nw_mX3_97 nw_sX3_digitsOf dX3_round_45 rfl rfl (by decide) (by decide) (by first | decide | omega) (by first | decide | omega) (Nat.le_of_ble_eq_true rfl) rfl rfl (Nat.le_of_ble_eq_true rfl) ?_ ?_
        rotate_left
        · rintro E9 w9 h9; exact h9.elim
        rintro v45 w45 ⟨rfl, z45, rfl, D45, g45, k45⟩
        refine ne_iload_n X dX3_round_48 rfl ?_
        refine ne_isub X dX3_round_49 ?_
        refine ne_istore X dX3_round_50 (by decide) ?_
        refine ne_ll (L' := [some (.ref 0), some (ni i), some (ni a), some (ni w0), some (ni (z45 - a)), none, none, none]) rfl ?_
        obtain ⟨n45, n46⟩ := ne_dn6 D45 (by omega)
        refine ne_iload X dX3_round_52 rfl ?_
        refine ne_if_gt (tgt := 76) X dX3_round_54 rfl (by omega) (fun b54 => ?_) (fun b54 => ?_)
        · refine ne_aload_n X dX3_round_76 rfl ?_
          refine ne_getf X dX3_round_77 nw_fX3_9 rfl rfl ?_
          refine ne_iload_n X dX3_round_80 rfl ?_
          refine ne_ialdR X dX3_round_81 rfl (by omega) Ic (fun v81 e81 f81 u81 => ?_)
          refine ne_i2l (by omega) X dX3_round_82 ?_
          refine ne_iload X dX3_round_83 rfl ?_
          refine ne_callS X nw_Tg (me_X3_ten l hl _ _ (by omega)) nw_yX3_ten nw_mX3_58 nw_sX3_ten dX3_round_85 rfl rfl (by decide) (by decide) (by first | decide | omega) (by first | decide | omega) (Nat.le_of_ble_eq_true rfl) rfl rfl (Nat.le_of_ble_eq_true rfl) ?_ ?_
          rotate_left
          · rintro E9 w9 h9; exact h9.elim
          rintro v85 w85 ⟨rfl, z85, rfl, g85, k85, i85, j85, m85, o85, p85⟩
          have t859 := j85 (by omega)
          clear i85 j85 m85 o85 p85
          refine ne_iload_n X dX3_round_88 rfl ?_
          refine ne_callS X nw_Tg (me_X3_roundedX l hl _ 999999 _ _ _ (by omega) (by omega) (by omega) (by omega)) nw_yX3_rounded nw_mX3_90 nw_sX3_rounded dX3_round_89 rfl rfl (by decide) (by decide) (by first | decide | omega) (by first | decide | omega) (Nat.le_of_ble_eq_true rfl) rfl rfl (Nat.le_of_ble_eq_true rfl) ?_ ?_
          rotate_left
          · rintro E9 w9 h9; exact h9.elim
          rintro v89 w89 ⟨rfl, z89, rfl, g89⟩
          rw [e81, g85] at g89
          refine ne_lstore X dX3_round_92 (by decide) ?_
          refine ne_ll (L' := [some (.ref 0), some (ni _), some (ni _), some (ni _), some (ni _), some (nl _), none, none]) rfl ?_
          refine ne_ll (L' := [some (.ref 0), some (ni i), some (ni a), some (ni w0), some (ni (z45 - a)), some (nl z89), none, none]) rfl ?_
          refine ne_lload X dX3_round_94 rfl ?_
          refine ne_ldc2 (z := -9223372036854775808) (by decide) nw_cX3_44 X dX3_round_96 ?_
          refine ne_lcif_ne (tgt := 108) X dX3_round_99 dX3_round_100 rfl (by omega) (by omega) (fun b100 => ?_) (fun b100 => ?_)
          · obtain ⟨R89, w89, w90⟩ : ne_rd (c i.toNat) (10 ^ (z45 - a).toNat) w0 z89 ∧ -999999 - 1 ≤ z89 ∧ z89 ≤ 999999 + 1 := by
                                        rcases g89 with ⟨h1, h2, h3⟩ | h1
                                        · exfalso; omega
                                        · exact h1
            clear g89
            have t133 := ne_tq z89 10
            refine ne_aload_n X dX3_round_108 rfl ?_
            refine ne_getf X dX3_round_109 nw_fX3_15 rfl rfl ?_
            refine ne_iload_n X dX3_round_112 rfl ?_
            refine ne_ialdR X dX3_round_113 rfl (by omega) Iq (fun v113 e113 f113 u113 => ?_)
            refine ne_iload X dX3_round_114 rfl ?_
            refine ne_isub X dX3_round_116 ?_
            refine ne_istore X dX3_round_117 (by decide) ?_
            refine ne_ll (L' := [some (.ref 0), some (ni i), some (ni a), some (ni w0), some (ni (z45 - a)), some (nl z89), none, some (ni (v113 - (z45 - a)))]) rfl ?_
            refine ne_lload X dX3_round_119 rfl ?_
            refine ne_callS X nw_Tg (me_X3_digitsOfX l hl _ _ (by omega)) nw_yX3_digitsOf nw_mX3_97 nw_sX3_digitsOf dX3_round_121 rfl rfl (by decide) (by decide) (by first | decide | omega) (by first | decide | omega) (Nat.le_of_ble_eq_true rfl) rfl rfl (Nat.le_of_ble_eq_true rfl) ?_ ?_
            rotate_left
            · rintro E9 w9 h9; exact h9.elim
            rintro v121 w121 ⟨rfl, z121, rfl, D121, g121, k121⟩
            refine ne_iload_n X dX3_round_124 rfl ?_
            refine ne_icmp_le (tgt := 139) X dX3_round_125 rfl (by omega) (by omega) (fun b125 => ?_) (fun b125 => ?_)
            · refine ne_iload X dX3_round_139 rfl ?_
              refine ne_if_ge (tgt := 162) X dX3_round_141 rfl (by omega) (fun b141 => ?_) (fun b141 => ?_)
              · refine ne_aload_n X dX3_round_162 rfl ?_
                refine ne_iload_n X dX3_round_163 rfl ?_
                refine ne_lload X dX3_round_164 rfl ?_
                refine ne_iload X dX3_round_166 rfl ?_
                refine ne_callV X nw_Tg (me_X3_comeX l hl c q t b k h u30 T (by exact ⟨Ic, Iq, It, Ib, Itb, Igb, Ik, Ih, Iv⟩) (by omega) _ _ _ (by omega) (by omega) (by omega)) nw_yX3_come nw_mX3_76 nw_iX3_come nw_eX3_come (ci := 5) rfl rfl rfl dX3_round_168 rfl rfl (by decide) (by decide) (by first | decide | omega) (by first | decide | omega) (Nat.le_of_ble_eq_true rfl) rfl rfl (Nat.le_of_ble_eq_true rfl) ?_ ?_
                rotate_left
                · rintro E9 w9 h9; exact h9.elim
                rintro v168 w168 ⟨c168, q168, h168, rfl, hI168, z168, rfl, z9168, G168⟩
                exact ne_iret X hr (by first | rfl | decide | rfl) dX3_round_171 ⟨_, _, _, _, _, rfl, hI168, rfl, Or.inr (Or.inr ⟨by omega, by omega, ⟨z45, (by rw [← e43]; exact D45), Or.inr ⟨by omega, Or.inr ⟨z89, z121, R89, D121, Or.inl ⟨by omega, Or.inr ⟨by omega, (by rw [e113] at G168; exact G168)⟩⟩⟩⟩⟩⟩)⟩
              · refine ne_aload_n X dX3_round_144 rfl ?_
                refine ne_iload_n X dX3_round_145 rfl ?_
                refine ne_lload X dX3_round_146 rfl ?_
                refine ne_iload X dX3_round_148 rfl ?_
                refine ne_ineg X dX3_round_150 ?_
                refine ne_callS X nw_Tg (me_X3_ten l hl _ _ (by omega)) nw_yX3_ten nw_mX3_58 nw_sX3_ten dX3_round_151 rfl rfl (by decide) (by decide) (by first | decide | omega) (by first | decide | omega) (Nat.le_of_ble_eq_true rfl) rfl rfl (Nat.le_of_ble_eq_true rfl) ?_ ?_
                rotate_left
                · rintro E9 w9 h9; exact h9.elim
                rintro v151 w151 ⟨rfl, z151, rfl, g151, k151, i151, j151, m151, o151, p151⟩
                have t1519 := m151 (by omega)
                clear i151 j151 m151 o151 p151
                have n154 := ne_mul z89 z151 1000000 1000000 (by omega) (by omega)
                have n155 := ne_mul (z89.tdiv 10) z151 1000000 1000000 (by omega) (by omega)
                refine ne_lmul X dX3_round_154 ?_
                refine ne_iconst X dX3_round_155 ?_
                refine ne_callV X nw_Tg (me_X3_comeX l hl c q t b k h u30 T (by exact ⟨Ic, Iq, It, Ib, Itb, Igb, Ik, Ih, Iv⟩) (by omega) _ _ _ (by omega) (by omega) (by omega)) nw_yX3_come nw_mX3_76 nw_iX3_come nw_eX3_come (ci := 5) rfl rfl rfl dX3_round_156 rfl rfl (by decide) (by decide) (by first | decide | omega) (by first | decide | omega) (Nat.le_of_ble_eq_true rfl) rfl rfl (Nat.le_of_ble_eq_true rfl) ?_ ?_
                rotate_left
                · rintro E9 w9 h9; exact h9.elim
                rintro v156 w156 ⟨c156, q156, h156, rfl, hI156, z156, rfl, z9156, G156⟩
                refine ne_goto (tgt := 171) X dX3_round_159 rfl ?_
                exact ne_iret X hr (by first | rfl | decide | rfl) dX3_round_171 ⟨_, _, _, _, _, rfl, hI156, rfl, Or.inr (Or.inr ⟨by omega, by omega, ⟨z45, (by rw [← e43]; exact D45), Or.inr ⟨by omega, Or.inr ⟨z89, z121, R89, D121, Or.inl ⟨by omega, Or.inl ⟨by omega, (by rw [g151, e113] at G156; exact G156)⟩⟩⟩⟩⟩⟩)⟩
            · refine ne_lload X dX3_round_128 rfl ?_
              refine ne_ldc2 (z := 10) (by decide) nw_cX3_38 X dX3_round_130 ?_
              refine ne_ldiv X dX3_round_133 (by omega) (by omega) (by omega) ?_
              refine ne_lstore X dX3_round_134 (by decide) ?_
              refine ne_ll (L' := [some (.ref 0), some (ni _), some (ni _), some (ni _), some (ni _), some (nl _), none, some (ni _)]) rfl ?_
              refine ne_iinc X dX3_round_136 rfl (by decide) ?_
              refine ne_iload X dX3_round_139 rfl ?_
              refine ne_if_ge (tgt := 162) X dX3_round_141 rfl (by omega) (fun b141 => ?_) (fun b141 => ?_)
              · refine ne_aload_n X dX3_round_162 rfl ?_
                refine ne_iload_n X dX3_round_163 rfl ?_
                refine ne_lload X dX3_round_164 rfl ?_
                refine ne_iload X dX3_round_166 rfl ?_
                refine ne_callV X nw_Tg (me_X3_comeX l hl c q t b k h u30 T (by exact ⟨Ic, Iq, It, Ib, Itb, Igb, Ik, Ih, Iv⟩) (by omega) _ _ _ (by omega) (by omega) (by omega)) nw_yX3_come nw_mX3_76 nw_iX3_come nw_eX3_come (ci := 5) rfl rfl rfl dX3_round_168 rfl rfl (by decide) (by decide) (by first | decide | omega) (by first | decide | omega) (Nat.le_of_ble_eq_true rfl) rfl rfl (Nat.le_of_ble_eq_true rfl) ?_ ?_
                rotate_left
                · rintro E9 w9 h9; exact h9.elim
                rintro v168 w168 ⟨c168, q168, h168, rfl, hI168, z168, rfl, z9168, G168⟩
                exact ne_iret X hr (by first | rfl | decide | rfl) dX3_round_171 ⟨_, _, _, _, _, rfl, hI168, rfl, Or.inr (Or.inr ⟨by omega, by omega, ⟨z45, (by rw [← e43]; exact D45), Or.inr ⟨by omega, Or.inr ⟨z89, z121, R89, D121, Or.inr ⟨by omega, Or.inr ⟨by omega, (by rw [e113] at G168; exact G168)⟩⟩⟩⟩⟩⟩)⟩
              · refine ne_aload_n X dX3_round_144 rfl ?_
                refine ne_iload_n X dX3_round_145 rfl ?_
                refine ne_lload X dX3_round_146 rfl ?_
                refine ne_iload X dX3_round_148 rfl ?_
                refine ne_ineg X dX3_round_150 ?_
                refine ne_callS X nw_Tg (me_X3_ten l hl _ _ (by omega)) nw_yX3_ten nw_mX3_58 nw_sX3_ten dX3_round_151 rfl rfl (by decide) (by decide) (by first | decide | omega) (by first | decide | omega) (Nat.le_of_ble_eq_true rfl) rfl rfl (Nat.le_of_ble_eq_true rfl) ?_ ?_
                rotate_left
                · rintro E9 w9 h9; exact h9.elim
                rintro v151 w151 ⟨rfl, z151, rfl, g151, k151, i151, j151, m151, o151, p151⟩
                have t1519 := m151 (by omega)
                clear i151 j151 m151 o151 p151
                have n154 := ne_mul z89 z151 1000000 1000000 (by omega) (by omega)
                have n155 := ne_mul (z89.tdiv 10) z151 1000000 1000000 (by omega) (by omega)
                refine ne_lmul X dX3_round_154 ?_
                refine ne_iconst X dX3_round_155 ?_
                refine ne_callV X nw_Tg (me_X3_comeX l hl c q t b k h u30 T (by exact ⟨Ic, Iq, It, Ib, Itb, Igb, Ik, Ih, Iv⟩) (by omega) _ _ _ (by omega) (by omega) (by omega)) nw_yX3_come nw_mX3_76 nw_iX3_come nw_eX3_come (ci := 5) rfl rfl rfl dX3_round_156 rfl rfl (by decide) (by decide) (by first | decide | omega) (by first | decide | omega) (Nat.le_of_ble_eq_true rfl) rfl rfl (Nat.le_of_ble_eq_true rfl) ?_ ?_
                rotate_left
                · rintro E9 w9 h9; exact h9.elim
                rintro v156 w156 ⟨c156, q156, h156, rfl, hI156, z156, rfl, z9156, G156⟩
                refine ne_goto (tgt := 171) X dX3_round_159 rfl ?_
                exact ne_iret X hr (by first | rfl | decide | rfl) dX3_round_171 ⟨_, _, _, _, _, rfl, hI156, rfl, Or.inr (Or.inr ⟨by omega, by omega, ⟨z45, (by rw [← e43]; exact D45), Or.inr ⟨by omega, Or.inr ⟨z89, z121, R89, D121, Or.inr ⟨by omega, Or.inl ⟨by omega, (by rw [g151, e113] at G156; exact G156)⟩⟩⟩⟩⟩⟩)⟩
          · have H89 : w0 = 7 ∧ ne_rx (c i.toNat) (10 ^ (z45 - a).toNat) := by
                                        rcases g89 with ⟨h1, h2, h3⟩ | ⟨h1, h2, h3⟩
                                        · exact ⟨h2, h3⟩
                                        · exfalso; omega
            refine ne_aload_n X dX3_round_103 rfl ?_
            refine ne_callV X nw_Tg (me_X3_nayX l hl c q t b k h u30 T (by exact ⟨Ic, Iq, It, Ib, Itb, Igb, Ik, Ih, Iv⟩) (by omega)) nw_yX3_nay nw_mX3_54 nw_iX3_nay nw_eX3_nay (ci := 5) rfl rfl rfl dX3_round_104 rfl rfl (by decide) (by decide) (by first | decide | omega) (by first | decide | omega) (Nat.le_of_ble_eq_true rfl) rfl rfl (Nat.le_of_ble_eq_true rfl) ?_ ?_
            rotate_left
            · rintro E9 w9 h9; exact h9.elim
            rintro v104 w104 ⟨h104, rfl, Ih, p104, rfl⟩
            exact ne_iret X hr (by first | rfl | decide | rfl) dX3_round_107 ⟨_, _, _, _, _, rfl, ⟨Ic, Iq, It, Ib, Itb, Igb, Ik, Ih, Iv⟩, rfl, Or.inr (Or.inr ⟨by omega, by omega, ⟨z45, (by rw [← e43]; exact D45), Or.inr ⟨by omega, Or.inl ⟨H89.1, H89.2, ⟨rfl, rfl, p104, rfl⟩⟩⟩⟩⟩)⟩
        · refine ne_aload_n X dX3_round_57 rfl ?_
          refine ne_iload_n X dX3_round_58 rfl ?_
          refine ne_aload_n X dX3_round_59 rfl ?_
          refine ne_getf X dX3_round_60 nw_fX3_9 rfl rfl ?_
          refine ne_iload_n X dX3_round_63 rfl ?_
          refine ne_ialdR X dX3_round_64 rfl (by omega) Ic (fun v64 e64 f64 u64 => ?_)
          refine ne_i2l (by omega) X dX3_round_65 ?_
          refine ne_aload_n X dX3_round_66 rfl ?_
          refine ne_getf X dX3_round_67 nw_fX3_15 rfl rfl ?_
          refine ne_iload_n X dX3_round_70 rfl ?_
          refine ne_ialdR X dX3_round_71 rfl (by omega) Iq (fun v71 e71 f71 u71 => ?_)
          refine ne_callV X nw_Tg (me_X3_comeX l hl c q t b k h u30 T (by exact ⟨Ic, Iq, It, Ib, Itb, Igb, Ik, Ih, Iv⟩) (by omega) _ _ _ (by omega) (by omega) (by omega)) nw_yX3_come nw_mX3_76 nw_iX3_come nw_eX3_come (ci := 5) rfl rfl rfl dX3_round_72 rfl rfl (by decide) (by decide) (by first | decide | omega) (by first | decide | omega) (Nat.le_of_ble_eq_true rfl) rfl rfl (Nat.le_of_ble_eq_true rfl) ?_ ?_
          rotate_left
          · rintro E9 w9 h9; exact h9.elim
          rintro v72 w72 ⟨c72, q72, h72, rfl, hI72, z72, rfl, z972, G72⟩
          exact ne_iret X hr (by first | rfl | decide | rfl) dX3_round_75 ⟨_, _, _, _, _, rfl, hI72, rfl, Or.inr (Or.inr ⟨by omega, by omega, ⟨z45, (by rw [← e43]; exact D45), Or.inl ⟨by omega, (by rw [e64, e71] at G72; exact G72)⟩⟩⟩)⟩
      · refine ne_iconst X dX3_round_36 ?_
        exact ne_iret X hr (by first | rfl | decide | rfl) dX3_round_37 (by rcases g30 with ⟨h7, h8, h9⟩ | ⟨h6, h7, h8, h9⟩ | ⟨h6, h7, h8, h9⟩; exact ⟨_, _, _, _, _, rfl, ⟨Ic, Iq, It, Ib, Itb, Igb, Ik, ne_rg_mono Ih (by omega) (by omega), Iv⟩, rfl, Or.inl ⟨h8, (by omega), rfl, rfl, rfl⟩⟩; exact ⟨_, _, _, _, _, rfl, ⟨Ic, Iq, It, Ib, Itb, Igb, Ik, ne_rg_mono Ih (by omega) (by omega), Iv⟩, rfl, Or.inr (Or.inl ⟨h8, (by omega), rfl, rfl, rfl⟩)⟩; exfalso; omega)
    · refine ne_iconst X dX3_round_25 ?_
      refine ne_goto (tgt := 30) X dX3_round_26 rfl ?_
      refine ne_callV X nw_Tg (me_X3_refuse l hl c q t b k h vt T (by exact ⟨Ic, Iq, It, Ib, Itb, Igb, Ik, Ih, Iv⟩) (by omega) _ _ (by omega) (by omega)) nw_yX3_refuse nw_mX3_72 nw_iX3_refuse nw_eX3_refuse (ci := 5) rfl rfl rfl dX3_round_30 rfl rfl (by decide) (by decide) (by first | decide | omega) (by first | decide | omega) (Nat.le_of_ble_eq_true rfl) rfl rfl (Nat.le_of_ble_eq_true rfl) ?_ ?_
      rotate_left
      · rintro E9 w9 h9; exact h9.elim
      rintro v30 w30 ⟨u30, rfl, Iv, z30, rfl, g30⟩
      refine ne_if_eq (tgt := 38) X dX3_round_33 rfl (by omega) (fun b33 => ?_) (fun b33 => ?_)
      · exfalso; omega
      · refine ne_iconst X dX3_round_36 ?_
        exact ne_iret X hr (by first | rfl | decide | rfl) dX3_round_37 (by rcases g30 with ⟨h7, h8, h9⟩ | ⟨h6, h7, h8, h9⟩ | ⟨h6, h7, h8, h9⟩; exact ⟨_, _, _, _, _, rfl, ⟨Ic, Iq, It, Ib, Itb, Igb, Ik, ne_rg_mono Ih (by omega) (by omega), Iv⟩, rfl, Or.inl ⟨h8, (by omega), rfl, rfl, rfl⟩⟩; exact ⟨_, _, _, _, _, rfl, ⟨Ic, Iq, It, Ib, Itb, Igb, Ik, ne_rg_mono Ih (by omega) (by omega), Iv⟩, rfl, Or.inr (Or.inl ⟨h8, (by omega), rfl, rfl, rfl⟩)⟩; exfalso; omega)
set_option maxRecDepth 100000 in
set_option maxHeartbeats 4000000 in
theorem me_X3_greaterW (l : Launch) (hl : l.stackTraces = false) (c q t b k h : Nat → Int) (vt T : Int) (hI : mI c q t b k h vt T) (hT : 0 ≤ T ∧ T ≤ 1000) (i : Int) (j : Int) (o : Int) (hi : -2147483648 ≤ i ∧ i < 2147483648) (hj : -2147483648 ≤ j ∧ j < 2147483648) (ho : -2147483648 ≤ o ∧ o < 2147483648) : ne_M l nw_cl (.code yX3_greater cX3_greater 5 (some .int)) nw_T yX3_greater 9 330 0 0 [.ref 0, ni i, ni j, ni o] (mW c q t b k h vt) (fun v w => ∃ c1 q1 h1 v1 z, w = mW c1 q1 t b k h1 v1 ∧ mI c1 q1 t b k h1 v1 (T + 1) ∧ v = some (ni z) ∧ ((v1 = 1 ∧ (i < 0 ∨ 4 ≤ i ∨ j < 0 ∨ 4 ≤ j ∨ o < 0 ∨ 4 ≤ o) ∧ c1 = c ∧ q1 = q ∧ h1 = h) ∨ (v1 = 2 ∧ False ∧ c1 = c ∧ q1 = q ∧ h1 = h) ∨ (v1 = 0 ∧ (0 ≤ i ∧ i < 4 ∧ 0 ≤ j ∧ j < 4 ∧ 0 ≤ o ∧ o < 4) ∧ ne_Agt c q h i j o c1 q1 h1 z))) (fun _ _ => False) := by
  refine ne_meet (own := RX3) hl rfl (by decide +kernel) (Nat.le_of_ble_eq_true rfl) ?_
  intro D ct A P9 V9 R9 S9 M9 as9 bl9 mt9 C9 ad0 X hr hin ht
  obtain ⟨Ic, Iq, It, Ib, Itb, Igb, Ik, Ih, Iv⟩ := hI
  refine ne_aload_n X dX3_greater_0 rfl ?_
  refine ne_aload_n X dX3_greater_1 rfl ?_
  refine ne_iload_n X dX3_greater_2 rfl ?_
  refine ne_iload_n X dX3_greater_3 rfl ?_
  refine ne_iload_n X dX3_greater_4 rfl ?_
  refine ne_callV X nw_Tg (me_X3_areNoCellsX l hl c q t b k h vt T (by exact ⟨Ic, Iq, It, Ib, Itb, Igb, Ik, Ih, Iv⟩) (by omega) _ _ _ (by omega) (by omega) (by omega)) nw_yX3_areNoCells nw_mX3_80 nw_iX3_areNoCells nw_eX3_areNoCells (ci := 5) rfl rfl rfl dX3_greater_5 rfl rfl (by decide) (by decide) (by first | decide | omega) (by first | decide | omega) (Nat.le_of_ble_eq_true rfl) rfl rfl (Nat.le_of_ble_eq_true rfl) ?_ ?_
  rotate_left
  · rintro E9 w9 h9; exact h9.elim
  rintro v5 w5 ⟨rfl, z5, rfl, g5⟩
  refine ne_iconst X dX3_greater_8 ?_
  refine ne_callV X nw_Tg (me_X3_refuse l hl c q t b k h vt T (by exact ⟨Ic, Iq, It, Ib, Itb, Igb, Ik, Ih, Iv⟩) (by omega) _ _ (by omega) (by omega)) nw_yX3_refuse nw_mX3_72 nw_iX3_refuse nw_eX3_refuse (ci := 5) rfl rfl rfl dX3_greater_9 rfl rfl (by decide) (by decide) (by first | decide | omega) (by first | decide | omega) (Nat.le_of_ble_eq_true rfl) rfl rfl (Nat.le_of_ble_eq_true rfl) ?_ ?_
  rotate_left
  · rintro E9 w9 h9; exact h9.elim
  rintro v9 w9 ⟨u9, rfl, Iv, z9, rfl, g9⟩
  refine ne_if_eq (tgt := 17) X dX3_greater_12 rfl (by omega) (fun b12 => ?_) (fun b12 => ?_)
  · have hk9 : ((0 ≤ i ∧ i < 4 ∧ 0 ≤ j ∧ j < 4 ∧ 0 ≤ o ∧ o < 4)) ∧ u9 = 0 := by omega
    try clear g5
    try clear g9
    try clear b12
    refine ne_aload_n X dX3_greater_17 rfl ?_
    refine ne_iload_n X dX3_greater_18 rfl ?_
    refine ne_iload_n X dX3_greater_19 rfl ?_
    refine ne_callV X nw_Tg (me_X3_orderedX l hl c q t b k h u9 T (by exact ⟨Ic, Iq, It, Ib, Itb, Igb, Ik, Ih, Iv⟩) (by omega) _ _ (by omega) (by omega)) nw_yX3_ordered nw_mX3_101 nw_iX3_ordered nw_eX3_ordered (ci := 5) rfl rfl rfl dX3_greater_20 rfl rfl (by decide) (by decide) (by first | decide | omega) (by first | decide | omega) (Nat.le_of_ble_eq_true rfl) rfl rfl (Nat.le_of_ble_eq_true rfl) ?_ ?_
    rotate_left
    · rintro E9 w9 h9; exact h9.elim
    rintro v20 w20 ⟨rfl, z20, rfl, g20, k20, i20, j20⟩
    refine ne_if_ge (tgt := 30) X dX3_greater_23 rfl (by omega) (fun b23 => ?_) (fun b23 => ?_)
    · refine ne_iload_n X dX3_greater_30 rfl ?_
      refine ne_istore X dX3_greater_31 (by decide) ?_
      refine ne_aload_n X dX3_greater_33 rfl ?_
      refine ne_iload_n X dX3_greater_34 rfl ?_
      refine ne_aload_n X dX3_greater_35 rfl ?_
      refine ne_getf X dX3_greater_36 nw_fX3_9 rfl rfl ?_
      refine ne_iload X dX3_greater_39 rfl ?_
      refine ne_ialdR X dX3_greater_41 rfl (by omega) Ic (fun v41 e41 f41 u41 => ?_)
      refine ne_i2l (by omega) X dX3_greater_42 ?_
      refine ne_aload_n X dX3_greater_43 rfl ?_
      refine ne_getf X dX3_greater_44 nw_fX3_15 rfl rfl ?_
      refine ne_iload X dX3_greater_47 rfl ?_
      refine ne_ialdR X dX3_greater_49 rfl (by omega) Iq (fun v49 e49 f49 u49 => ?_)
      refine ne_callV X nw_Tg (me_X3_comeX l hl c q t b k h u9 T (by exact ⟨Ic, Iq, It, Ib, Itb, Igb, Ik, Ih, Iv⟩) (by omega) _ _ _ (by omega) (by omega) (by omega)) nw_yX3_come nw_mX3_76 nw_iX3_come nw_eX3_come (ci := 5) rfl rfl rfl dX3_greater_50 rfl rfl (by decide) (by decide) (by first | decide | omega) (by first | decide | omega) (Nat.le_of_ble_eq_true rfl) rfl rfl (Nat.le_of_ble_eq_true rfl) ?_ ?_
      rotate_left
      · rintro E9 w9 h9; exact h9.elim
      rintro v50 w50 ⟨c50, q50, h50, rfl, hI50, z50, rfl, z950, G50⟩
      exact ne_iret X hr (by first | rfl | decide | rfl) dX3_greater_53 ⟨_, _, _, _, _, rfl, hI50, rfl, Or.inr (Or.inr ⟨by omega, by omega, Or.inr ⟨(fun h9 => absurd (i20.mpr h9) (by omega)), (by rw [e41, e49] at G50; exact G50)⟩⟩)⟩
    · refine ne_iload_n X dX3_greater_26 rfl ?_
      refine ne_goto (tgt := 31) X dX3_greater_27 rfl ?_
      refine ne_istore X dX3_greater_31 (by decide) ?_
      refine ne_aload_n X dX3_greater_33 rfl ?_
      refine ne_iload_n X dX3_greater_34 rfl ?_
      refine ne_aload_n X dX3_greater_35 rfl ?_
      refine ne_getf X dX3_greater_36 nw_fX3_9 rfl rfl ?_
      refine ne_iload X dX3_greater_39 rfl ?_
      refine ne_ialdR X dX3_greater_41 rfl (by omega) Ic (fun v41 e41 f41 u41 => ?_)
      refine ne_i2l (by omega) X dX3_greater_42 ?_
      refine ne_aload_n X dX3_greater_43 rfl ?_
      refine ne_getf X dX3_greater_44 nw_fX3_15 rfl rfl ?_
      refine ne_iload X dX3_greater_47 rfl ?_
      refine ne_ialdR X dX3_greater_49 rfl (by omega) Iq (fun v49 e49 f49 u49 => ?_)
      refine ne_callV X nw_Tg (me_X3_comeX l hl c q t b k h u9 T (by exact ⟨Ic, Iq, It, Ib, Itb, Igb, Ik, Ih, Iv⟩) (by omega) _ _ _ (by omega) (by omega) (by omega)) nw_yX3_come nw_mX3_76 nw_iX3_come nw_eX3_come (ci := 5) rfl rfl rfl dX3_greater_50 rfl rfl (by decide) (by decide) (by first | decide | omega) (by first | decide | omega) (Nat.le_of_ble_eq_true rfl) rfl rfl (Nat.le_of_ble_eq_true rfl) ?_ ?_
      rotate_left
      · rintro E9 w9 h9; exact h9.elim
      rintro v50 w50 ⟨c50, q50, h50, rfl, hI50, z50, rfl, z950, G50⟩
      exact ne_iret X hr (by first | rfl | decide | rfl) dX3_greater_53 ⟨_, _, _, _, _, rfl, hI50, rfl, Or.inr (Or.inr ⟨by omega, by omega, Or.inl ⟨i20.mp (by omega), (by rw [e41, e49] at G50; exact G50)⟩⟩)⟩
  · refine ne_iconst X dX3_greater_15 ?_
    exact ne_iret X hr (by first | rfl | decide | rfl) dX3_greater_16 (by rcases g9 with ⟨h7, h8, h9⟩ | ⟨h6, h7, h8, h9⟩ | ⟨h6, h7, h8, h9⟩; exact ⟨_, _, _, _, _, rfl, ⟨Ic, Iq, It, Ib, Itb, Igb, Ik, ne_rg_mono Ih (by omega) (by omega), Iv⟩, rfl, Or.inl ⟨h8, (by omega), rfl, rfl, rfl⟩⟩; exfalso; omega; exfalso; omega)
set_option maxRecDepth 100000 in
set_option maxHeartbeats 4000000 in
theorem me_X3_lesserW (l : Launch) (hl : l.stackTraces = false) (c q t b k h : Nat → Int) (vt T : Int) (hI : mI c q t b k h vt T) (hT : 0 ≤ T ∧ T ≤ 1000) (i : Int) (j : Int) (o : Int) (hi : -2147483648 ≤ i ∧ i < 2147483648) (hj : -2147483648 ≤ j ∧ j < 2147483648) (ho : -2147483648 ≤ o ∧ o < 2147483648) : ne_M l nw_cl (.code yX3_lesser cX3_lesser 5 (some .int)) nw_T yX3_lesser 9 330 0 0 [.ref 0, ni i, ni j, ni o] (mW c q t b k h vt) (fun v w => ∃ c1 q1 h1 v1 z, w = mW c1 q1 t b k h1 v1 ∧ mI c1 q1 t b k h1 v1 (T + 1) ∧ v = some (ni z) ∧ ((v1 = 1 ∧ (i < 0 ∨ 4 ≤ i ∨ j < 0 ∨ 4 ≤ j ∨ o < 0 ∨ 4 ≤ o) ∧ c1 = c ∧ q1 = q ∧ h1 = h) ∨ (v1 = 2 ∧ False ∧ c1 = c ∧ q1 = q ∧ h1 = h) ∨ (v1 = 0 ∧ (0 ≤ i ∧ i < 4 ∧ 0 ≤ j ∧ j < 4 ∧ 0 ≤ o ∧ o < 4) ∧ ne_Als c q h i j o c1 q1 h1 z))) (fun _ _ => False) := by
  refine ne_meet (own := RX3) hl rfl (by decide +kernel) (Nat.le_of_ble_eq_true rfl) ?_
  intro D ct A P9 V9 R9 S9 M9 as9 bl9 mt9 C9 ad0 X hr hin ht
  obtain ⟨Ic, Iq, It, Ib, Itb, Igb, Ik, Ih, Iv⟩ := hI
  refine ne_aload_n X dX3_lesser_0 rfl ?_
  refine ne_aload_n X dX3_lesser_1 rfl ?_
  refine ne_iload_n X dX3_lesser_2 rfl ?_
  refine ne_iload_n X dX3_lesser_3 rfl ?_
  refine ne_iload_n X dX3_lesser_4 rfl ?_
  refine ne_callV X nw_Tg (me_X3_areNoCellsX l hl c q t b k h vt T (by exact ⟨Ic, Iq, It, Ib, Itb, Igb, Ik, Ih, Iv⟩) (by omega) _ _ _ (by omega) (by omega) (by omega)) nw_yX3_areNoCells nw_mX3_80 nw_iX3_areNoCells nw_eX3_areNoCells (ci := 5) rfl rfl rfl dX3_lesser_5 rfl rfl (by decide) (by decide) (by first | decide | omega) (by first | decide | omega) (Nat.le_of_ble_eq_true rfl) rfl rfl (Nat.le_of_ble_eq_true rfl) ?_ ?_
  rotate_left
  · rintro E9 w9 h9; exact h9.elim
  rintro v5 w5 ⟨rfl, z5, rfl, g5⟩
  refine ne_iconst X dX3_lesser_8 ?_
  refine ne_callV X nw_Tg (me_X3_refuse l hl c q t b k h vt T (by exact ⟨Ic, Iq, It, Ib, Itb, Igb, Ik, Ih, Iv⟩) (by omega) _ _ (by omega) (by omega)) nw_yX3_refuse nw_mX3_72 nw_iX3_refuse nw_eX3_refuse (ci := 5) rfl rfl rfl dX3_lesser_9 rfl rfl (by decide) (by decide) (by first | decide | omega) (by first | decide | omega) (Nat.le_of_ble_eq_true rfl) rfl rfl (Nat.le_of_ble_eq_true rfl) ?_ ?_
  rotate_left
  · rintro E9 w9 h9; exact h9.elim
  rintro v9 w9 ⟨u9, rfl, Iv, z9, rfl, g9⟩
  refine ne_if_eq (tgt := 17) X dX3_lesser_12 rfl (by omega) (fun b12 => ?_) (fun b12 => ?_)
  · have hk9 : ((0 ≤ i ∧ i < 4 ∧ 0 ≤ j ∧ j < 4 ∧ 0 ≤ o ∧ o < 4)) ∧ u9 = 0 := by omega
    try clear g5
    try clear g9
    try clear b12
    refine ne_aload_n X dX3_lesser_17 rfl ?_
    refine ne_iload_n X dX3_lesser_18 rfl ?_
    refine ne_iload_n X dX3_lesser_19 rfl ?_
    refine ne_callV X nw_Tg (me_X3_orderedX l hl c q t b k h u9 T (by exact ⟨Ic, Iq, It, Ib, Itb, Igb, Ik, Ih, Iv⟩) (by omega) _ _ (by omega) (by omega)) nw_yX3_ordered nw_mX3_101 nw_iX3_ordered nw_eX3_ordered (ci := 5) rfl rfl rfl dX3_lesser_20 rfl rfl (by decide) (by decide) (by first | decide | omega) (by first | decide | omega) (Nat.le_of_ble_eq_true rfl) rfl rfl (Nat.le_of_ble_eq_true rfl) ?_ ?_
    rotate_left
    · rintro E9 w9 h9; exact h9.elim
    rintro v20 w20 ⟨rfl, z20, rfl, g20, k20, i20, j20⟩
    refine ne_if_le (tgt := 30) X dX3_lesser_23 rfl (by omega) (fun b23 => ?_) (fun b23 => ?_)
    · refine ne_iload_n X dX3_lesser_30 rfl ?_
      refine ne_istore X dX3_lesser_31 (by decide) ?_
      refine ne_aload_n X dX3_lesser_33 rfl ?_
      refine ne_iload_n X dX3_lesser_34 rfl ?_
      refine ne_aload_n X dX3_lesser_35 rfl ?_
      refine ne_getf X dX3_lesser_36 nw_fX3_9 rfl rfl ?_
      refine ne_iload X dX3_lesser_39 rfl ?_
      refine ne_ialdR X dX3_lesser_41 rfl (by omega) Ic (fun v41 e41 f41 u41 => ?_)
      refine ne_i2l (by omega) X dX3_lesser_42 ?_
      refine ne_aload_n X dX3_lesser_43 rfl ?_
      refine ne_getf X dX3_lesser_44 nw_fX3_15 rfl rfl ?_
      refine ne_iload X dX3_lesser_47 rfl ?_
      refine ne_ialdR X dX3_lesser_49 rfl (by omega) Iq (fun v49 e49 f49 u49 => ?_)
      refine ne_callV X nw_Tg (me_X3_comeX l hl c q t b k h u9 T (by exact ⟨Ic, Iq, It, Ib, Itb, Igb, Ik, Ih, Iv⟩) (by omega) _ _ _ (by omega) (by omega) (by omega)) nw_yX3_come nw_mX3_76 nw_iX3_come nw_eX3_come (ci := 5) rfl rfl rfl dX3_lesser_50 rfl rfl (by decide) (by decide) (by first | decide | omega) (by first | decide | omega) (Nat.le_of_ble_eq_true rfl) rfl rfl (Nat.le_of_ble_eq_true rfl) ?_ ?_
      rotate_left
      · rintro E9 w9 h9; exact h9.elim
      rintro v50 w50 ⟨c50, q50, h50, rfl, hI50, z50, rfl, z950, G50⟩
      exact ne_iret X hr (by first | rfl | decide | rfl) dX3_lesser_53 ⟨_, _, _, _, _, rfl, hI50, rfl, Or.inr (Or.inr ⟨by omega, by omega, Or.inr ⟨(fun h9 => absurd (j20.mpr h9) (by omega)), (by rw [e41, e49] at G50; exact G50)⟩⟩)⟩
    · refine ne_iload_n X dX3_lesser_26 rfl ?_
      refine ne_goto (tgt := 31) X dX3_lesser_27 rfl ?_
      refine ne_istore X dX3_lesser_31 (by decide) ?_
      refine ne_aload_n X dX3_lesser_33 rfl ?_
      refine ne_iload_n X dX3_lesser_34 rfl ?_
      refine ne_aload_n X dX3_lesser_35 rfl ?_
      refine ne_getf X dX3_lesser_36 nw_fX3_9 rfl rfl ?_
      refine ne_iload X dX3_lesser_39 rfl ?_
      refine ne_ialdR X dX3_lesser_41 rfl (by omega) Ic (fun v41 e41 f41 u41 => ?_)
      refine ne_i2l (by omega) X dX3_lesser_42 ?_
      refine ne_aload_n X dX3_lesser_43 rfl ?_
      refine ne_getf X dX3_lesser_44 nw_fX3_15 rfl rfl ?_
      refine ne_iload X dX3_lesser_47 rfl ?_
      refine ne_ialdR X dX3_lesser_49 rfl (by omega) Iq (fun v49 e49 f49 u49 => ?_)
      refine ne_callV X nw_Tg (me_X3_comeX l hl c q t b k h u9 T (by exact ⟨Ic, Iq, It, Ib, Itb, Igb, Ik, Ih, Iv⟩) (by omega) _ _ _ (by omega) (by omega) (by omega)) nw_yX3_come nw_mX3_76 nw_iX3_come nw_eX3_come (ci := 5) rfl rfl rfl dX3_lesser_50 rfl rfl (by decide) (by decide) (by first | decide | omega) (by first | decide | omega) (Nat.le_of_ble_eq_true rfl) rfl rfl (Nat.le_of_ble_eq_true rfl) ?_ ?_
      rotate_left
      · rintro E9 w9 h9; exact h9.elim
      rintro v50 w50 ⟨c50, q50, h50, rfl, hI50, z50, rfl, z950, G50⟩
      exact ne_iret X hr (by first | rfl | decide | rfl) dX3_lesser_53 ⟨_, _, _, _, _, rfl, hI50, rfl, Or.inr (Or.inr ⟨by omega, by omega, Or.inl ⟨j20.mp (by omega), (by rw [e41, e49] at G50; exact G50)⟩⟩)⟩
  · refine ne_iconst X dX3_lesser_15 ?_
    exact ne_iret X hr (by first | rfl | decide | rfl) dX3_lesser_16 (by rcases g9 with ⟨h7, h8, h9⟩ | ⟨h6, h7, h8, h9⟩ | ⟨h6, h7, h8, h9⟩; exact ⟨_, _, _, _, _, rfl, ⟨Ic, Iq, It, Ib, Itb, Igb, Ik, ne_rg_mono Ih (by omega) (by omega), Iv⟩, rfl, Or.inl ⟨h8, (by omega), rfl, rfl, rfl⟩⟩; exfalso; omega; exfalso; omega)
set_option maxRecDepth 100000 in
set_option maxHeartbeats 4000000 in
theorem me_X3_cutW (l : Launch) (hl : l.stackTraces = false) (c q t b k h : Nat → Int) (vt T : Int) (hI : mI c q t b k h vt T) (hT : 0 ≤ T ∧ T ≤ 1000) (i : Int) (m : Int) (p : Int) (w0 : Int) (o : Int) (hi : -2147483648 ≤ i ∧ i < 2147483648) (hm : 0 ≤ m ∧ m ≤ 1) (hp : -2147483648 ≤ p ∧ p < 2147483648) (hw0 : -2147483648 ≤ w0 ∧ w0 < 2147483648) (ho : -2147483648 ≤ o ∧ o < 2147483648) : ne_M l nw_cl (.code yX3_cut cX3_cut 6 (some .int)) nw_T yX3_cut 9 330 0 0 [.ref 0, ni i, ni m, ni p, ni w0, ni o] (mW c q t b k h vt) (fun v w => ∃ c1 q1 h1 v1 z, w = mW c1 q1 t b k h1 v1 ∧ mI c1 q1 t b k h1 v1 (T + 1) ∧ v = some (ni z) ∧ ((v1 = 1 ∧ (i < 0 ∨ 3 ≤ i ∨ o < 0 ∨ 4 ≤ o) ∧ c1 = c ∧ q1 = q ∧ h1 = h) ∨ (v1 = 2 ∧ ((0 ≤ i ∧ i < 3 ∧ 0 ≤ o ∧ o < 4) ∧ (p < 0 ∨ 3 < p ∨ w0 < 0 ∨ 7 < w0)) ∧ c1 = c ∧ q1 = q ∧ h1 = h) ∨ (v1 = 0 ∧ ((0 ≤ i ∧ i < 3 ∧ 0 ≤ o ∧ o < 4) ∧ 0 ≤ p ∧ p ≤ 3 ∧ 0 ≤ w0 ∧ w0 ≤ 7) ∧ ne_rcome c q h o w0 p (ne_cv (t i.toNat) m p) (b i.toNat) c1 q1 h1 z))) (fun _ _ => False) := by
  refine ne_meet (own := RX3) hl rfl (by decide +kernel) (Nat.le_of_ble_eq_true rfl) ?_
  intro D ct A P9 V9 R9 S9 M9 as9 bl9 mt9 C9 ad0 X hr hin ht
  obtain ⟨Ic, Iq, It, Ib, Itb, Igb, Ik, Ih, Iv⟩ := hI
  refine ne_aload_n X dX3_cut_0 rfl ?_
  refine ne_iload_n X dX3_cut_1 rfl ?_
  refine ne_callS X nw_Tg (me_X3_isNoWheel l hl _ _ (by omega)) nw_yX3_isNoWheel nw_mX3_104 nw_sX3_isNoWheel dX3_cut_2 rfl rfl (by decide) (by decide) (by first | decide | omega) (by first | decide | omega) (Nat.le_of_ble_eq_true rfl) rfl rfl (Nat.le_of_ble_eq_true rfl) ?_ ?_
  rotate_left
  · rintro E9 w9 h9; exact h9.elim
  rintro v2 w2 ⟨rfl, z2, rfl, g2⟩
  refine ne_if_ne (tgt := 16) X dX3_cut_5 rfl (by omega) (fun b5 => ?_) (fun b5 => ?_)
  · refine ne_iconst X dX3_cut_16 ?_
    refine ne_goto (tgt := 21) X dX3_cut_17 rfl ?_
    refine ne_iload_n X dX3_cut_21 rfl ?_
    refine ne_iload X dX3_cut_22 rfl ?_
    refine ne_iconst X dX3_cut_24 ?_
    refine ne_callS X nw_Tg (me_X3_isNoCut l hl _ _ _ _ (by omega) (by omega) (by omega)) nw_yX3_isNoCut nw_mX3_87 nw_sX3_isNoCut dX3_cut_25 rfl rfl (by decide) (by decide) (by first | decide | omega) (by first | decide | omega) (Nat.le_of_ble_eq_true rfl) rfl rfl (Nat.le_of_ble_eq_true rfl) ?_ ?_
    rotate_left
    · rintro E9 w9 h9; exact h9.elim
    rintro v25 w25 ⟨rfl, z25, rfl, g25⟩
    refine ne_callV X nw_Tg (me_X3_refuse l hl c q t b k h vt T (by exact ⟨Ic, Iq, It, Ib, Itb, Igb, Ik, Ih, Iv⟩) (by omega) _ _ (by omega) (by omega)) nw_yX3_refuse nw_mX3_72 nw_iX3_refuse nw_eX3_refuse (ci := 5) rfl rfl rfl dX3_cut_28 rfl rfl (by decide) (by decide) (by first | decide | omega) (by first | decide | omega) (Nat.le_of_ble_eq_true rfl) rfl rfl (Nat.le_of_ble_eq_true rfl) ?_ ?_
    rotate_left
    · rintro E9 w9 h9; exact h9.elim
    rintro v28 w28 ⟨u28, rfl, Iv, z28, rfl, g28⟩
    refine ne_if_eq (tgt := 36) X dX3_cut_31 rfl (by omega) (fun b31 => ?_) (fun b31 => ?_)
    · exfalso; omega
    · refine ne_iconst X dX3_cut_34 ?_
      exact ne_iret X hr (by first | rfl | decide | rfl) dX3_cut_35 (by rcases g28 with ⟨h7, h8, h9⟩ | ⟨h6, h7, h8, h9⟩ | ⟨h6, h7, h8, h9⟩; exact ⟨_, _, _, _, _, rfl, ⟨Ic, Iq, It, Ib, Itb, Igb, Ik, ne_rg_mono Ih (by omega) (by omega), Iv⟩, rfl, Or.inl ⟨h8, (by omega), rfl, rfl, rfl⟩⟩; exact ⟨_, _, _, _, _, rfl, ⟨Ic, Iq, It, Ib, Itb, Igb, Ik, ne_rg_mono Ih (by omega) (by omega), Iv⟩, rfl, Or.inr (Or.inl ⟨h8, (by omega), rfl, rfl, rfl⟩)⟩; exfalso; omega)
  · refine ne_iload X dX3_cut_8 rfl ?_
    refine ne_callS X nw_Tg (me_X3_isNoCell l hl _ _ (by omega)) nw_yX3_isNoCell nw_mX3_66 nw_sX3_isNoCell dX3_cut_10 rfl rfl (by decide) (by decide) (by first | decide | omega) (by first | decide | omega) (Nat.le_of_ble_eq_true rfl) rfl rfl (Nat.le_of_ble_eq_true rfl) ?_ ?_
    rotate_left
    · rintro E9 w9 h9; exact h9.elim
    rintro v10 w10 ⟨rfl, z10, rfl, g10⟩
    refine ne_if_eq (tgt := 20) X dX3_cut_13 rfl (by omega) (fun b13 => ?_) (fun b13 => ?_)
    · refine ne_iconst X dX3_cut_20 ?_
      refine ne_iload_n X dX3_cut_21 rfl ?_
      refine ne_iload X dX3_cut_22 rfl ?_
      refine ne_iconst X dX3_cut_24 ?_
      refine ne_callS X nw_Tg (me_X3_isNoCut l hl _ _ _ _ (by omega) (by omega) (by omega)) nw_yX3_isNoCut nw_mX3_87 nw_sX3_isNoCut dX3_cut_25 rfl rfl (by decide) (by decide) (by first | decide | omega) (by first | decide | omega) (Nat.le_of_ble_eq_true rfl) rfl rfl (Nat.le_of_ble_eq_true rfl) ?_ ?_
      rotate_left
      · rintro E9 w9 h9; exact h9.elim
      rintro v25 w25 ⟨rfl, z25, rfl, g25⟩
      refine ne_callV X nw_Tg (me_X3_refuse l hl c q t b k h vt T (by exact ⟨Ic, Iq, It, Ib, Itb, Igb, Ik, Ih, Iv⟩) (by omega) _ _ (by omega) (by omega)) nw_yX3_refuse nw_mX3_72 nw_iX3_refuse nw_eX3_refuse (ci := 5) rfl rfl rfl dX3_cut_28 rfl rfl (by decide) (by decide) (by first | decide | omega) (by first | decide | omega) (Nat.le_of_ble_eq_true rfl) rfl rfl (Nat.le_of_ble_eq_true rfl) ?_ ?_
      rotate_left
      · rintro E9 w9 h9; exact h9.elim
      rintro v28 w28 ⟨u28, rfl, Iv, z28, rfl, g28⟩
      refine ne_if_eq (tgt := 36) X dX3_cut_31 rfl (by omega) (fun b31 => ?_) (fun b31 => ?_)
      · have hk9 : (((0 ≤ i ∧ i < 3 ∧ 0 ≤ o ∧ o < 4) ∧ 0 ≤ p ∧ p ≤ 3 ∧ 0 ≤ w0 ∧ w0 ≤ 7)) ∧ u28 = 0 := by omega
        try clear g2
        try clear b5
        try clear g10
        try clear b13
        try clear g25
        try clear g28
        try clear b31
        refine ne_aload_n X dX3_cut_36 rfl ?_
        refine ne_iload X dX3_cut_37 rfl ?_
        refine ne_aload_n X dX3_cut_39 rfl ?_
        refine ne_iload_n X dX3_cut_40 rfl ?_
        refine ne_iload_n X dX3_cut_41 rfl ?_
        refine ne_iload_n X dX3_cut_42 rfl ?_
        refine ne_iload X dX3_cut_43 rfl ?_
        refine ne_callV X nw_Tg (me_X3_cutOfX l hl c q t b k h u28 T (by exact ⟨Ic, Iq, It, Ib, Itb, Igb, Ik, Ih, Iv⟩) (by omega) _ _ _ _ (by omega) (by omega) (by omega) (by omega)) nw_yX3_cutOf nw_mX3_107 nw_iX3_cutOf nw_eX3_cutOf (ci := 5) rfl rfl rfl dX3_cut_45 rfl rfl (by decide) (by decide) (by first | decide | omega) (by first | decide | omega) (Nat.le_of_ble_eq_true rfl) rfl rfl (Nat.le_of_ble_eq_true rfl) ?_ ?_
        rotate_left
        · rintro E9 w9 h9; exact h9.elim
        rintro v45 w45 ⟨rfl, z45, rfl, g45⟩
        refine ne_iload_n X dX3_cut_48 rfl ?_
        refine ne_callV X nw_Tg (me_X3_comeX l hl c q t b k h u28 T (by exact ⟨Ic, Iq, It, Ib, Itb, Igb, Ik, Ih, Iv⟩) (by omega) _ _ _ (by omega) (by omega) (by omega)) nw_yX3_come nw_mX3_76 nw_iX3_come nw_eX3_come (ci := 5) rfl rfl rfl dX3_cut_49 rfl rfl (by decide) (by decide) (by first | decide | omega) (by first | decide | omega) (Nat.le_of_ble_eq_true rfl) rfl rfl (Nat.le_of_ble_eq_true rfl) ?_ ?_
        rotate_left
        · rintro E9 w9 h9; exact h9.elim
        rintro v49 w49 ⟨c49, q49, h49, rfl, hI49, z49, rfl, z949, G49⟩
        exact ne_iret X hr (by first | rfl | decide | rfl) dX3_cut_52 ⟨_, _, _, _, _, rfl, hI49, rfl, Or.inr (Or.inr ⟨by omega, by omega, ne_rcC (by decide) g45 G49⟩)⟩
      · refine ne_iconst X dX3_cut_34 ?_
        exact ne_iret X hr (by first | rfl | decide | rfl) dX3_cut_35 (by rcases g28 with ⟨h7, h8, h9⟩ | ⟨h6, h7, h8, h9⟩ | ⟨h6, h7, h8, h9⟩; exact ⟨_, _, _, _, _, rfl, ⟨Ic, Iq, It, Ib, Itb, Igb, Ik, ne_rg_mono Ih (by omega) (by omega), Iv⟩, rfl, Or.inl ⟨h8, (by omega), rfl, rfl, rfl⟩⟩; exact ⟨_, _, _, _, _, rfl, ⟨Ic, Iq, It, Ib, Itb, Igb, Ik, ne_rg_mono Ih (by omega) (by omega), Iv⟩, rfl, Or.inr (Or.inl ⟨h8, (by omega), rfl, rfl, rfl⟩)⟩; exfalso; omega)
    · refine ne_iconst X dX3_cut_16 ?_
      refine ne_goto (tgt := 21) X dX3_cut_17 rfl ?_
      refine ne_iload_n X dX3_cut_21 rfl ?_
      refine ne_iload X dX3_cut_22 rfl ?_
      refine ne_iconst X dX3_cut_24 ?_
      refine ne_callS X nw_Tg (me_X3_isNoCut l hl _ _ _ _ (by omega) (by omega) (by omega)) nw_yX3_isNoCut nw_mX3_87 nw_sX3_isNoCut dX3_cut_25 rfl rfl (by decide) (by decide) (by first | decide | omega) (by first | decide | omega) (Nat.le_of_ble_eq_true rfl) rfl rfl (Nat.le_of_ble_eq_true rfl) ?_ ?_
      rotate_left
      · rintro E9 w9 h9; exact h9.elim
      rintro v25 w25 ⟨rfl, z25, rfl, g25⟩
      refine ne_callV X nw_Tg (me_X3_refuse l hl c q t b k h vt T (by exact ⟨Ic, Iq, It, Ib, Itb, Igb, Ik, Ih, Iv⟩) (by omega) _ _ (by omega) (by omega)) nw_yX3_refuse nw_mX3_72 nw_iX3_refuse nw_eX3_refuse (ci := 5) rfl rfl rfl dX3_cut_28 rfl rfl (by decide) (by decide) (by first | decide | omega) (by first | decide | omega) (Nat.le_of_ble_eq_true rfl) rfl rfl (Nat.le_of_ble_eq_true rfl) ?_ ?_
      rotate_left
      · rintro E9 w9 h9; exact h9.elim
      rintro v28 w28 ⟨u28, rfl, Iv, z28, rfl, g28⟩
      refine ne_if_eq (tgt := 36) X dX3_cut_31 rfl (by omega) (fun b31 => ?_) (fun b31 => ?_)
      · exfalso; omega
      · refine ne_iconst X dX3_cut_34 ?_
        exact ne_iret X hr (by first | rfl | decide | rfl) dX3_cut_35 (by rcases g28 with ⟨h7, h8, h9⟩ | ⟨h6, h7, h8, h9⟩ | ⟨h6, h7, h8, h9⟩; exact ⟨_, _, _, _, _, rfl, ⟨Ic, Iq, It, Ib, Itb, Igb, Ik, ne_rg_mono Ih (by omega) (by omega), Iv⟩, rfl, Or.inl ⟨h8, (by omega), rfl, rfl, rfl⟩⟩; exact ⟨_, _, _, _, _, rfl, ⟨Ic, Iq, It, Ib, Itb, Igb, Ik, ne_rg_mono Ih (by omega) (by omega), Iv⟩, rfl, Or.inr (Or.inl ⟨h8, (by omega), rfl, rfl, rfl⟩)⟩; exfalso; omega)
set_option maxRecDepth 100000 in
set_option maxHeartbeats 4000000 in
theorem me_X3_knockW (l : Launch) (hl : l.stackTraces = false) (c q t b k h : Nat → Int) (vt T : Int) (hI : mI c q t b k h vt T) (hT : 0 ≤ T ∧ T ≤ 1000)  : ne_M l nw_cl (.code yX3_knock cX3_knock 1 (some .int)) nw_T yX3_knock 0 0 0 0 [.ref 0] (mW c q t b k h vt) (fun v w => ∃ h1, w = mW c q t b k h1 0 ∧ mI c q t b k h1 0 (T + 1) ∧ h1 = va_up h 3 (h 3 + 1) ∧ ∃ z : Int, v = some (ni z) ∧ (0 ≤ z ∧ z ≤ 2000) ∧ z = h 3 + 1) (fun _ _ => False) := by
  refine ne_meet (own := RX3) hl rfl (by decide +kernel) (Nat.le_of_ble_eq_true rfl) ?_
  intro D ct A P9 V9 R9 S9 M9 as9 bl9 mt9 C9 ad0 X hr hin ht
  obtain ⟨Ic, Iq, It, Ib, Itb, Igb, Ik, Ih, Iv⟩ := hI
  have Iv : (0 : Int) ≤ 0 ∧ (0 : Int) ≤ 2 := by omega
  refine ne_aload_n X dX3_knock_0 rfl ?_
  refine ne_iconst X dX3_knock_1 ?_
  refine ne_putf X dX3_knock_2 nw_fX3_30 nw_p5_6 rfl (fun _ => rfl) (fun _ => rfl) (by first | decide | exact Nat.le_of_ble_eq_true rfl) ?_
  refine ne_ws (ws' := mW c q t b k h 0) rfl ?_
  have Iv : (0 : Int) ≤ 0 ∧ (0 : Int) ≤ 2 := by omega
  refine ne_aload_n X dX3_knock_5 rfl ?_
  refine ne_getf X dX3_knock_6 nw_fX3_27 rfl rfl ?_
  refine ne_iconst X dX3_knock_9 ?_
  refine ne_dup2ai X dX3_knock_10 ?_
  refine ne_ialdR X dX3_knock_11 rfl (by omega) Ih (fun v11 e11 f11 u11 => ?_)
  refine ne_iconst X dX3_knock_12 ?_
  refine ne_iadd X dX3_knock_13 ?_
  refine ne_iastR X dX3_knock_14 rfl (by omega) (ne_rg_mono Ih (by omega) (by omega)) (a := 0) (b := T + 1) (by omega) (fun h14 hh14 Ih => ?_)
  refine ne_ws (ws' := mW c q t b k h14 0) rfl ?_
  refine ne_aload_n X dX3_knock_15 rfl ?_
  refine ne_getf X dX3_knock_16 nw_fX3_27 rfl rfl ?_
  refine ne_iconst X dX3_knock_19 ?_
  refine ne_ialdR X dX3_knock_20 rfl (by omega) Ih (fun v20 e20 f20 u20 => ?_)
  exact ne_iret X hr (by first | rfl | decide | rfl) dX3_knock_21 ⟨_, rfl, ⟨Ic, Iq, It, Ib, Itb, Igb, Ik, Ih, Iv⟩, (by rw [hh14, e11]; rfl), _, rfl, (by omega), (by rw [e20, hh14, ne_ups, e11]; rfl)⟩
set_option maxRecDepth 100000 in
set_option maxHeartbeats 4000000 in
theorem me_X3_houseW (l : Launch) (hl : l.stackTraces = false) (c q t b k h : Nat → Int) (vt T : Int) (hI : mI c q t b k h vt T) (hT : 0 ≤ T ∧ T ≤ 1000) (a : Int) (ha : -2147483648 ≤ a ∧ a < 2147483648) : ne_M l nw_cl (.code yX3_house cX3_house 2 (some .int)) nw_T yX3_house 9 330 0 0 [.ref 0, ni a] (mW c q t b k h vt) (fun v w => ∃ v1 z, w = mW c q t b k h v1 ∧ mI c q t b k h v1 (T + 1) ∧ v = some (ni z) ∧ ((v1 = 1 ∧ (a < 0 ∨ 3 < a)) ∨ (v1 = 2 ∧ False) ∨ (v1 = 0 ∧ (0 ≤ a ∧ a ≤ 3) ∧ (0 ≤ z ∧ z ≤ 1000) ∧ z = h a.toNat))) (fun _ _ => False) := by
  refine ne_meet (own := RX3) hl rfl (by decide +kernel) (Nat.le_of_ble_eq_true rfl) ?_
  intro D ct A P9 V9 R9 S9 M9 as9 bl9 mt9 C9 ad0 X hr hin ht
  obtain ⟨Ic, Iq, It, Ib, Itb, Igb, Ik, Ih, Iv⟩ := hI
  refine ne_aload_n X dX3_house_0 rfl ?_
  refine ne_iload_n X dX3_house_1 rfl ?_
  refine ne_iconst X dX3_house_2 ?_
  refine ne_iconst X dX3_house_3 ?_
  refine ne_callS X nw_Tg (me_X3_isOut l hl _ _ _ _ (by omega) (by omega) (by omega)) nw_yX3_isOut nw_mX3_34 nw_sX3_isOut dX3_house_4 rfl rfl (by decide) (by decide) (by first | decide | omega) (by first | decide | omega) (Nat.le_of_ble_eq_true rfl) rfl rfl (Nat.le_of_ble_eq_true rfl) ?_ ?_
  rotate_left
  · rintro E9 w9 h9; exact h9.elim
  rintro v4 w4 ⟨rfl, z4, rfl, g4⟩
  refine ne_iconst X dX3_house_7 ?_
  refine ne_callV X nw_Tg (me_X3_refuse l hl c q t b k h vt T (by exact ⟨Ic, Iq, It, Ib, Itb, Igb, Ik, Ih, Iv⟩) (by omega) _ _ (by omega) (by omega)) nw_yX3_refuse nw_mX3_72 nw_iX3_refuse nw_eX3_refuse (ci := 5) rfl rfl rfl dX3_house_8 rfl rfl (by decide) (by decide) (by first | decide | omega) (by first | decide | omega) (Nat.le_of_ble_eq_true rfl) rfl rfl (Nat.le_of_ble_eq_true rfl) ?_ ?_
  rotate_left
  · rintro E9 w9 h9; exact h9.elim
  rintro v8 w8 ⟨u8, rfl, Iv, z8, rfl, g8⟩
  refine ne_if_eq (tgt := 18) X dX3_house_11 rfl (by omega) (fun b11 => ?_) (fun b11 => ?_)
  · refine ne_aload_n X dX3_house_18 rfl ?_
    refine ne_getf X dX3_house_19 nw_fX3_27 rfl rfl ?_
    refine ne_iload_n X dX3_house_22 rfl ?_
    refine ne_ialdR X dX3_house_23 rfl (by omega) Ih (fun v23 e23 f23 u23 => ?_)
    exact ne_iret X hr (by first | rfl | decide | rfl) dX3_house_24 ⟨_, _, rfl, ⟨Ic, Iq, It, Ib, Itb, Igb, Ik, ne_rg_mono Ih (by omega) (by omega), Iv⟩, rfl, Or.inr (Or.inr ⟨by omega, by omega, (by omega), e23⟩)⟩
  · refine ne_iconst X dX3_house_14 ?_
    refine ne_goto (tgt := 24) X dX3_house_15 rfl ?_
    exact ne_iret X hr (by first | rfl | decide | rfl) dX3_house_24 (by rcases g8 with ⟨h7, h8, h9⟩ | ⟨h6, h7, h8, h9⟩ | ⟨h6, h7, h8, h9⟩; exact ⟨_, _, rfl, ⟨Ic, Iq, It, Ib, Itb, Igb, Ik, ne_rg_mono Ih (by omega) (by omega), Iv⟩, rfl, Or.inl ⟨h8, (by omega)⟩⟩; exfalso; omega; exfalso; omega)
