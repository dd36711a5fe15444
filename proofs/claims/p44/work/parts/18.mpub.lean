set_option maxRecDepth 100000 in
set_option maxHeartbeats 4000000 in
theorem me_X3_put (l : Launch) (hl : l.stackTraces = false) (c q t b k h : Nat → Int) (vt T : Int) (hI : mI c q t b k h vt T) (hT : 0 ≤ T ∧ T ≤ 1000) (i : Int) (a : Int) (p : Int) (hi : -2147483648 ≤ i ∧ i < 2147483648) (ha : -2147483648 ≤ a ∧ a < 2147483648) (hp : -2147483648 ≤ p ∧ p < 2147483648)  : ne_M l nw_cl (.code yX3_put cX3_put 4 (some .int)) nw_T yX3_put 9 330 0 0 [.ref 0, ni i, ni a, ni p] (mW c q t b k h vt) (fun v w => (∃ c1 q1 h1 v1, w = mW c1 q1 t b k h1 v1 ∧ mI c1 q1 t b k h1 v1 (T + 1)) ∧ ∃ z : Int, v = some (ni z) ∧ True) (fun _ _ => False) := by
  refine ne_meet (own := RX3) hl rfl (by decide +kernel) (Nat.le_of_ble_eq_true rfl) ?_
  intro D ct A P9 V9 R9 S9 M9 as9 bl9 mt9 C9 ad0 X hr hin ht
  obtain ⟨Ic, Iq, It, Ib, Itb, Igb, Ik, Ih, Iv⟩ := hI
  refine ne_aload_n X dX3_put_0 rfl ?_
  refine ne_iload_n X dX3_put_1 rfl ?_
  refine ne_callS X nw_Tg (me_X3_isNoCell l hl _ _ (by omega)) nw_yX3_isNoCell nw_mX3_66 nw_sX3_isNoCell dX3_put_2 rfl rfl (by decide) (by decide) (by first | decide | omega) (by first | decide | omega) (Nat.le_of_ble_eq_true rfl) rfl rfl (Nat.le_of_ble_eq_true rfl) ?_ ?_
  rotate_left
  · rintro E9 w9 h9; exact h9.elim
  rintro v2 w2 ⟨rfl, z2, rfl, g2⟩
  refine ne_iload_n X dX3_put_5 rfl ?_
  refine ne_ldc (z := -999999) (by decide) nw_cX3_70 X dX3_put_6 ?_
  refine ne_ldc (z := 999999) (by decide) nw_cX3_71 X dX3_put_8 ?_
  refine ne_callS X nw_Tg (me_X3_isOut l hl _ _ _ _ (by omega) (by omega) (by omega)) nw_yX3_isOut nw_mX3_34 nw_sX3_isOut dX3_put_10 rfl rfl (by decide) (by decide) (by first | decide | omega) (by first | decide | omega) (Nat.le_of_ble_eq_true rfl) rfl rfl (Nat.le_of_ble_eq_true rfl) ?_ ?_
  rotate_left
  · rintro E9 w9 h9; exact h9.elim
  rintro v10 w10 ⟨rfl, z10, rfl, g10⟩
  refine ne_if_ne (tgt := 25) X dX3_put_13 rfl (by omega) (fun b13 => ?_) (fun b13 => ?_)
  · refine ne_iconst X dX3_put_25 ?_
    refine ne_goto (tgt := 30) X dX3_put_26 rfl ?_
    refine ne_callV X nw_Tg (me_X3_refuse l hl c q t b k h vt T (by exact ⟨Ic, Iq, It, Ib, Itb, Igb, Ik, Ih, Iv⟩) (by omega) _ _ (by omega) (by omega)) nw_yX3_refuse nw_mX3_72 nw_iX3_refuse nw_eX3_refuse (ci := 5) rfl rfl rfl dX3_put_30 rfl rfl (by decide) (by decide) (by first | decide | omega) (by first | decide | omega) (Nat.le_of_ble_eq_true rfl) rfl rfl (Nat.le_of_ble_eq_true rfl) ?_ ?_
    rotate_left
    · rintro E9 w9 h9; exact h9.elim
    rintro v30 w30 ⟨u30, rfl, Iv, z30, rfl, g30⟩
    refine ne_if_eq (tgt := 38) X dX3_put_33 rfl (by omega) (fun b33 => ?_) (fun b33 => ?_)
    · exfalso; omega
    · refine ne_iconst X dX3_put_36 ?_
      exact ne_iret X hr (by first | rfl | decide | rfl) dX3_put_37 ⟨⟨_, _, _, _, rfl, Ic, Iq, It, Ib, Itb, Igb, Ik, ne_rg_mono Ih (by omega) (by omega), Iv⟩, _, rfl, trivial⟩
  · refine ne_iload_n X dX3_put_16 rfl ?_
    refine ne_iconst X dX3_put_17 ?_
    refine ne_iconst X dX3_put_18 ?_
    refine ne_callS X nw_Tg (me_X3_isOut l hl _ _ _ _ (by omega) (by omega) (by omega)) nw_yX3_isOut nw_mX3_34 nw_sX3_isOut dX3_put_19 rfl rfl (by decide) (by decide) (by first | decide | omega) (by first | decide | omega) (Nat.le_of_ble_eq_true rfl) rfl rfl (Nat.le_of_ble_eq_true rfl) ?_ ?_
    rotate_left
    · rintro E9 w9 h9; exact h9.elim
    rintro v19 w19 ⟨rfl, z19, rfl, g19⟩
    refine ne_if_eq (tgt := 29) X dX3_put_22 rfl (by omega) (fun b22 => ?_) (fun b22 => ?_)
    · refine ne_iconst X dX3_put_29 ?_
      refine ne_callV X nw_Tg (me_X3_refuse l hl c q t b k h vt T (by exact ⟨Ic, Iq, It, Ib, Itb, Igb, Ik, Ih, Iv⟩) (by omega) _ _ (by omega) (by omega)) nw_yX3_refuse nw_mX3_72 nw_iX3_refuse nw_eX3_refuse (ci := 5) rfl rfl rfl dX3_put_30 rfl rfl (by decide) (by decide) (by first | decide | omega) (by first | decide | omega) (Nat.le_of_ble_eq_true rfl) rfl rfl (Nat.le_of_ble_eq_true rfl) ?_ ?_
      rotate_left
      · rintro E9 w9 h9; exact h9.elim
      rintro v30 w30 ⟨u30, rfl, Iv, z30, rfl, g30⟩
      refine ne_if_eq (tgt := 38) X dX3_put_33 rfl (by omega) (fun b33 => ?_) (fun b33 => ?_)
      · have hk9 : (((0 ≤ i ∧ i < 4) ∧ -999999 ≤ a ∧ a ≤ 999999 ∧ 0 ≤ p ∧ p ≤ 3)) ∧ u30 = 0 := by omega
        try clear g2
        try clear g10
        try clear b13
        try clear g19
        try clear b22
        try clear g30
        try clear b33
        refine ne_aload_n X dX3_put_38 rfl ?_
        refine ne_iload_n X dX3_put_39 rfl ?_
        refine ne_iload_n X dX3_put_40 rfl ?_
        refine ne_i2l (by omega) X dX3_put_41 ?_
        refine ne_iload_n X dX3_put_42 rfl ?_
        refine ne_callV X nw_Tg (me_X3_come l hl c q t b k h u30 T (by exact ⟨Ic, Iq, It, Ib, Itb, Igb, Ik, Ih, Iv⟩) (by omega) _ _ _ (by omega) (by omega) (by omega)) nw_yX3_come nw_mX3_76 nw_iX3_come nw_eX3_come (ci := 5) rfl rfl rfl dX3_put_43 rfl rfl (by decide) (by decide) (by first | decide | omega) (by first | decide | omega) (Nat.le_of_ble_eq_true rfl) rfl rfl (Nat.le_of_ble_eq_true rfl) ?_ ?_
        rotate_left
        · rintro E9 w9 h9; exact h9.elim
        rintro v43 w43 ⟨c43, q43, h43, rfl, Ic, Iq, Ih, z43, rfl, g43, k43⟩
        exact ne_iret X hr (by first | rfl | decide | rfl) dX3_put_46 ⟨⟨_, _, _, _, rfl, Ic, Iq, It, Ib, Itb, Igb, Ik, ne_rg_mono Ih (by omega) (by omega), Iv⟩, _, rfl, trivial⟩
      · refine ne_iconst X dX3_put_36 ?_
        exact ne_iret X hr (by first | rfl | decide | rfl) dX3_put_37 ⟨⟨_, _, _, _, rfl, Ic, Iq, It, Ib, Itb, Igb, Ik, ne_rg_mono Ih (by omega) (by omega), Iv⟩, _, rfl, trivial⟩
    · refine ne_iconst X dX3_put_25 ?_
      refine ne_goto (tgt := 30) X dX3_put_26 rfl ?_
      refine ne_callV X nw_Tg (me_X3_refuse l hl c q t b k h vt T (by exact ⟨Ic, Iq, It, Ib, Itb, Igb, Ik, Ih, Iv⟩) (by omega) _ _ (by omega) (by omega)) nw_yX3_refuse nw_mX3_72 nw_iX3_refuse nw_eX3_refuse (ci := 5) rfl rfl rfl dX3_put_30 rfl rfl (by decide) (by decide) (by first | decide | omega) (by first | decide | omega) (Nat.le_of_ble_eq_true rfl) rfl rfl (Nat.le_of_ble_eq_true rfl) ?_ ?_
      rotate_left
      · rintro E9 w9 h9; exact h9.elim
      rintro v30 w30 ⟨u30, rfl, Iv, z30, rfl, g30⟩
      refine ne_if_eq (tgt := 38) X dX3_put_33 rfl (by omega) (fun b33 => ?_) (fun b33 => ?_)
      · exfalso; omega
      · refine ne_iconst X dX3_put_36 ?_
        exact ne_iret X hr (by first | rfl | decide | rfl) dX3_put_37 ⟨⟨_, _, _, _, rfl, Ic, Iq, It, Ib, Itb, Igb, Ik, ne_rg_mono Ih (by omega) (by omega), Iv⟩, _, rfl, trivial⟩
set_option maxRecDepth 100000 in
set_option maxHeartbeats 4000000 in
theorem me_X3_write (l : Launch) (hl : l.stackTraces = false) (c q t b k h : Nat → Int) (vt T : Int) (hI : mI c q t b k h vt T) (hT : 0 ≤ T ∧ T ≤ 1000) (i : Int) (m : Int) (a : Int) (p : Int) (d : Int) (hi : -2147483648 ≤ i ∧ i < 2147483648) (hm : 0 ≤ m ∧ m ≤ 1) (ha : -2147483648 ≤ a ∧ a < 2147483648) (hp : -2147483648 ≤ p ∧ p < 2147483648) (hd : -2147483648 ≤ d ∧ d < 2147483648)  : ne_M l nw_cl (.code yX3_write cX3_write 8 (some .int)) nw_T yX3_write 9 330 0 0 [.ref 0, ni i, ni m, ni a, ni p, ni d] (mW c q t b k h vt) (fun v w => (∃ c1 q1 h1 v1, w = mW c1 q1 t b k h1 v1 ∧ mI c1 q1 t b k h1 v1 (T + 1)) ∧ ∃ z : Int, v = some (ni z) ∧ True) (fun _ _ => False) := by
  refine ne_meet (own := RX3) hl rfl (by decide +kernel) (Nat.le_of_ble_eq_true rfl) ?_
  intro D ct A P9 V9 R9 S9 M9 as9 bl9 mt9 C9 ad0 X hr hin ht
  obtain ⟨Ic, Iq, It, Ib, Itb, Igb, Ik, Ih, Iv⟩ := hI
  refine ne_aload_n X dX3_write_0 rfl ?_
  refine ne_iload_n X dX3_write_1 rfl ?_
  refine ne_callS X nw_Tg (me_X3_isNoCell l hl _ _ (by omega)) nw_yX3_isNoCell nw_mX3_66 nw_sX3_isNoCell dX3_write_2 rfl rfl (by decide) (by decide) (by first | decide | omega) (by first | decide | omega) (Nat.le_of_ble_eq_true rfl) rfl rfl (Nat.le_of_ble_eq_true rfl) ?_ ?_
  rotate_left
  · rintro E9 w9 h9; exact h9.elim
  rintro v2 w2 ⟨rfl, z2, rfl, g2⟩
  refine ne_iload_n X dX3_write_5 rfl ?_
  refine ne_iconst X dX3_write_6 ?_
  refine ne_ldc (z := 999999) (by decide) nw_cX3_71 X dX3_write_7 ?_
  refine ne_callS X nw_Tg (me_X3_isOut l hl _ _ _ _ (by omega) (by omega) (by omega)) nw_yX3_isOut nw_mX3_34 nw_sX3_isOut dX3_write_9 rfl rfl (by decide) (by decide) (by first | decide | omega) (by first | decide | omega) (Nat.le_of_ble_eq_true rfl) rfl rfl (Nat.le_of_ble_eq_true rfl) ?_ ?_
  rotate_left
  · rintro E9 w9 h9; exact h9.elim
  rintro v9 w9 ⟨rfl, z9, rfl, g9⟩
  refine ne_if_ne (tgt := 42) X dX3_write_12 rfl (by omega) (fun b12 => ?_) (fun b12 => ?_)
  · refine ne_iconst X dX3_write_42 ?_
    refine ne_goto (tgt := 47) X dX3_write_43 rfl ?_
    refine ne_callV X nw_Tg (me_X3_refuse l hl c q t b k h vt T (by exact ⟨Ic, Iq, It, Ib, Itb, Igb, Ik, Ih, Iv⟩) (by omega) _ _ (by omega) (by omega)) nw_yX3_refuse nw_mX3_72 nw_iX3_refuse nw_eX3_refuse (ci := 5) rfl rfl rfl dX3_write_47 rfl rfl (by decide) (by decide) (by first | decide | omega) (by first | decide | omega) (Nat.le_of_ble_eq_true rfl) rfl rfl (Nat.le_of_ble_eq_true rfl) ?_ ?_
    rotate_left
    · rintro E9 w9 h9; exact h9.elim
    rintro v47 w47 ⟨u47, rfl, Iv, z47, rfl, g47⟩
    refine ne_if_eq (tgt := 55) X dX3_write_50 rfl (by omega) (fun b50 => ?_) (fun b50 => ?_)
    · exfalso; omega
    · refine ne_iconst X dX3_write_53 ?_
      exact ne_iret X hr (by first | rfl | decide | rfl) dX3_write_54 ⟨⟨_, _, _, _, rfl, Ic, Iq, It, Ib, Itb, Igb, Ik, ne_rg_mono Ih (by omega) (by omega), Iv⟩, _, rfl, trivial⟩
  · refine ne_iload X dX3_write_15 rfl ?_
    refine ne_iconst X dX3_write_17 ?_
    refine ne_iconst X dX3_write_18 ?_
    refine ne_callS X nw_Tg (me_X3_isOut l hl _ _ _ _ (by omega) (by omega) (by omega)) nw_yX3_isOut nw_mX3_34 nw_sX3_isOut dX3_write_19 rfl rfl (by decide) (by decide) (by first | decide | omega) (by first | decide | omega) (Nat.le_of_ble_eq_true rfl) rfl rfl (Nat.le_of_ble_eq_true rfl) ?_ ?_
    rotate_left
    · rintro E9 w9 h9; exact h9.elim
    rintro v19 w19 ⟨rfl, z19, rfl, g19⟩
    refine ne_if_ne (tgt := 42) X dX3_write_22 rfl (by omega) (fun b22 => ?_) (fun b22 => ?_)
    · refine ne_iconst X dX3_write_42 ?_
      refine ne_goto (tgt := 47) X dX3_write_43 rfl ?_
      refine ne_callV X nw_Tg (me_X3_refuse l hl c q t b k h vt T (by exact ⟨Ic, Iq, It, Ib, Itb, Igb, Ik, Ih, Iv⟩) (by omega) _ _ (by omega) (by omega)) nw_yX3_refuse nw_mX3_72 nw_iX3_refuse nw_eX3_refuse (ci := 5) rfl rfl rfl dX3_write_47 rfl rfl (by decide) (by decide) (by first | decide | omega) (by first | decide | omega) (Nat.le_of_ble_eq_true rfl) rfl rfl (Nat.le_of_ble_eq_true rfl) ?_ ?_
      rotate_left
      · rintro E9 w9 h9; exact h9.elim
      rintro v47 w47 ⟨u47, rfl, Iv, z47, rfl, g47⟩
      refine ne_if_eq (tgt := 55) X dX3_write_50 rfl (by omega) (fun b50 => ?_) (fun b50 => ?_)
      · exfalso; omega
      · refine ne_iconst X dX3_write_53 ?_
        exact ne_iret X hr (by first | rfl | decide | rfl) dX3_write_54 ⟨⟨_, _, _, _, rfl, Ic, Iq, It, Ib, Itb, Igb, Ik, ne_rg_mono Ih (by omega) (by omega), Iv⟩, _, rfl, trivial⟩
    · refine ne_iload X dX3_write_25 rfl ?_
      refine ne_if_lt (tgt := 42) X dX3_write_27 rfl (by omega) (fun b27 => ?_) (fun b27 => ?_)
      · refine ne_iconst X dX3_write_42 ?_
        refine ne_goto (tgt := 47) X dX3_write_43 rfl ?_
        refine ne_callV X nw_Tg (me_X3_refuse l hl c q t b k h vt T (by exact ⟨Ic, Iq, It, Ib, Itb, Igb, Ik, Ih, Iv⟩) (by omega) _ _ (by omega) (by omega)) nw_yX3_refuse nw_mX3_72 nw_iX3_refuse nw_eX3_refuse (ci := 5) rfl rfl rfl dX3_write_47 rfl rfl (by decide) (by decide) (by first | decide | omega) (by first | decide | omega) (Nat.le_of_ble_eq_true rfl) rfl rfl (Nat.le_of_ble_eq_true rfl) ?_ ?_
        rotate_left
        · rintro E9 w9 h9; exact h9.elim
        rintro v47 w47 ⟨u47, rfl, Iv, z47, rfl, g47⟩
        refine ne_if_eq (tgt := 55) X dX3_write_50 rfl (by omega) (fun b50 => ?_) (fun b50 => ?_)
        · exfalso; omega
        · refine ne_iconst X dX3_write_53 ?_
          exact ne_iret X hr (by first | rfl | decide | rfl) dX3_write_54 ⟨⟨_, _, _, _, rfl, Ic, Iq, It, Ib, Itb, Igb, Ik, ne_rg_mono Ih (by omega) (by omega), Iv⟩, _, rfl, trivial⟩
      · refine ne_iload X dX3_write_30 rfl ?_
        refine ne_i2l (by omega) X dX3_write_32 ?_
        refine ne_iload X dX3_write_33 rfl ?_
        refine ne_callS X nw_Tg (me_X3_ten l hl _ _ (by omega)) nw_yX3_ten nw_mX3_58 nw_sX3_ten dX3_write_35 rfl rfl (by decide) (by decide) (by first | decide | omega) (by first | decide | omega) (Nat.le_of_ble_eq_true rfl) rfl rfl (Nat.le_of_ble_eq_true rfl) ?_ ?_
        rotate_left
        · rintro E9 w9 h9; exact h9.elim
        rintro v35 w35 ⟨rfl, z35, rfl, g35, k35, i35, j35, m35, o35, p35⟩
        refine ne_lcif_lt (tgt := 46) X dX3_write_38 dX3_write_39 rfl (by omega) (by omega) (fun b39 => ?_) (fun b39 => ?_)
        · refine ne_iconst X dX3_write_46 ?_
          refine ne_callV X nw_Tg (me_X3_refuse l hl c q t b k h vt T (by exact ⟨Ic, Iq, It, Ib, Itb, Igb, Ik, Ih, Iv⟩) (by omega) _ _ (by omega) (by omega)) nw_yX3_refuse nw_mX3_72 nw_iX3_refuse nw_eX3_refuse (ci := 5) rfl rfl rfl dX3_write_47 rfl rfl (by decide) (by decide) (by first | decide | omega) (by first | decide | omega) (Nat.le_of_ble_eq_true rfl) rfl rfl (Nat.le_of_ble_eq_true rfl) ?_ ?_
          rotate_left
          · rintro E9 w9 h9; exact h9.elim
          rintro v47 w47 ⟨u47, rfl, Iv, z47, rfl, g47⟩
          refine ne_if_eq (tgt := 55) X dX3_write_50 rfl (by omega) (fun b50 => ?_) (fun b50 => ?_)
          · have hk9 : (((0 ≤ i ∧ i < 4) ∧ 0 ≤ a ∧ a ≤ 999999 ∧ 0 ≤ p ∧ p ≤ 3 ∧ 0 ≤ d ∧ d < 10 ^ p.toNat)) ∧ u47 = 0 := by omega
            try clear g2
            try clear g9
            try clear b12
            try clear g19
            try clear b22
            try clear b27
            try clear g35
            try clear b39
            try clear g47
            try clear b50
            refine ne_iload_n X dX3_write_55 rfl ?_
            refine ne_i2l (by omega) X dX3_write_56 ?_
            refine ne_iload X dX3_write_57 rfl ?_
            refine ne_callS X nw_Tg (me_X3_ten l hl _ _ (by omega)) nw_yX3_ten nw_mX3_58 nw_sX3_ten dX3_write_59 rfl rfl (by decide) (by decide) (by first | decide | omega) (by first | decide | omega) (Nat.le_of_ble_eq_true rfl) rfl rfl (Nat.le_of_ble_eq_true rfl) ?_ ?_
            rotate_left
            · rintro E9 w9 h9; exact h9.elim
            rintro v59 w59 ⟨rfl, z59, rfl, g59, k59, i59, j59, m59, o59, p59⟩
            have m59 := ne_mul a z59 999999 1000 (by omega) (by omega)
            refine ne_lmul X dX3_write_62 ?_
            refine ne_iload X dX3_write_63 rfl ?_
            refine ne_i2l (by omega) X dX3_write_65 ?_
            refine ne_ladd X dX3_write_66 ?_
            refine ne_lstore X dX3_write_67 (by decide) ?_
            refine ne_aload_n X dX3_write_69 rfl ?_
            refine ne_iload_n X dX3_write_70 rfl ?_
            refine ne_iload_n X dX3_write_71 rfl ?_
            refine ne_if_eq (tgt := 81) X dX3_write_72 rfl (by omega) (fun b72 => ?_) (fun b72 => ?_)
            · refine ne_lload X dX3_write_81 rfl ?_
              refine ne_iload X dX3_write_83 rfl ?_
              refine ne_callV X nw_Tg (me_X3_come l hl c q t b k h u47 T (by exact ⟨Ic, Iq, It, Ib, Itb, Igb, Ik, Ih, Iv⟩) (by omega) _ _ _ (by omega) (by omega) (by omega)) nw_yX3_come nw_mX3_76 nw_iX3_come nw_eX3_come (ci := 5) rfl rfl rfl dX3_write_85 rfl rfl (by decide) (by decide) (by first | decide | omega) (by first | decide | omega) (Nat.le_of_ble_eq_true rfl) rfl rfl (Nat.le_of_ble_eq_true rfl) ?_ ?_
              rotate_left
              · rintro E9 w9 h9; exact h9.elim
              rintro v85 w85 ⟨c85, q85, h85, rfl, Ic, Iq, Ih, z85, rfl, g85, k85⟩
              exact ne_iret X hr (by first | rfl | decide | rfl) dX3_write_88 ⟨⟨_, _, _, _, rfl, Ic, Iq, It, Ib, Itb, Igb, Ik, ne_rg_mono Ih (by omega) (by omega), Iv⟩, _, rfl, trivial⟩
            · refine ne_lload X dX3_write_75 rfl ?_
              refine ne_lneg X dX3_write_77 ?_
              refine ne_goto (tgt := 83) X dX3_write_78 rfl ?_
              refine ne_iload X dX3_write_83 rfl ?_
              refine ne_callV X nw_Tg (me_X3_come l hl c q t b k h u47 T (by exact ⟨Ic, Iq, It, Ib, Itb, Igb, Ik, Ih, Iv⟩) (by omega) _ _ _ (by omega) (by omega) (by omega)) nw_yX3_come nw_mX3_76 nw_iX3_come nw_eX3_come (ci := 5) rfl rfl rfl dX3_write_85 rfl rfl (by decide) (by decide) (by first | decide | omega) (by first | decide | omega) (Nat.le_of_ble_eq_true rfl) rfl rfl (Nat.le_of_ble_eq_true rfl) ?_ ?_
              rotate_left
              · rintro E9 w9 h9; exact h9.elim
              rintro v85 w85 ⟨c85, q85, h85, rfl, Ic, Iq, Ih, z85, rfl, g85, k85⟩
              exact ne_iret X hr (by first | rfl | decide | rfl) dX3_write_88 ⟨⟨_, _, _, _, rfl, Ic, Iq, It, Ib, Itb, Igb, Ik, ne_rg_mono Ih (by omega) (by omega), Iv⟩, _, rfl, trivial⟩
          · refine ne_iconst X dX3_write_53 ?_
            exact ne_iret X hr (by first | rfl | decide | rfl) dX3_write_54 ⟨⟨_, _, _, _, rfl, Ic, Iq, It, Ib, Itb, Igb, Ik, ne_rg_mono Ih (by omega) (by omega), Iv⟩, _, rfl, trivial⟩
        · refine ne_iconst X dX3_write_42 ?_
          refine ne_goto (tgt := 47) X dX3_write_43 rfl ?_
          refine ne_callV X nw_Tg (me_X3_refuse l hl c q t b k h vt T (by exact ⟨Ic, Iq, It, Ib, Itb, Igb, Ik, Ih, Iv⟩) (by omega) _ _ (by omega) (by omega)) nw_yX3_refuse nw_mX3_72 nw_iX3_refuse nw_eX3_refuse (ci := 5) rfl rfl rfl dX3_write_47 rfl rfl (by decide) (by decide) (by first | decide | omega) (by first | decide | omega) (Nat.le_of_ble_eq_true rfl) rfl rfl (Nat.le_of_ble_eq_true rfl) ?_ ?_
          rotate_left
          · rintro E9 w9 h9; exact h9.elim
          rintro v47 w47 ⟨u47, rfl, Iv, z47, rfl, g47⟩
          refine ne_if_eq (tgt := 55) X dX3_write_50 rfl (by omega) (fun b50 => ?_) (fun b50 => ?_)
          · exfalso; omega
          · refine ne_iconst X dX3_write_53 ?_
            exact ne_iret X hr (by first | rfl | decide | rfl) dX3_write_54 ⟨⟨_, _, _, _, rfl, Ic, Iq, It, Ib, Itb, Igb, Ik, ne_rg_mono Ih (by omega) (by omega), Iv⟩, _, rfl, trivial⟩
set_option maxRecDepth 100000 in
set_option maxHeartbeats 4000000 in
theorem me_X3_copy (l : Launch) (hl : l.stackTraces = false) (c q t b k h : Nat → Int) (vt T : Int) (hI : mI c q t b k h vt T) (hT : 0 ≤ T ∧ T ≤ 1000) (i : Int) (j : Int) (hi : -2147483648 ≤ i ∧ i < 2147483648) (hj : -2147483648 ≤ j ∧ j < 2147483648)  : ne_M l nw_cl (.code yX3_copy cX3_copy 3 (some .int)) nw_T yX3_copy 9 330 0 0 [.ref 0, ni i, ni j] (mW c q t b k h vt) (fun v w => (∃ c1 q1 h1 v1, w = mW c1 q1 t b k h1 v1 ∧ mI c1 q1 t b k h1 v1 (T + 1)) ∧ ∃ z : Int, v = some (ni z) ∧ True) (fun _ _ => False) := by
  refine ne_meet (own := RX3) hl rfl (by decide +kernel) (Nat.le_of_ble_eq_true rfl) ?_
  intro D ct A P9 V9 R9 S9 M9 as9 bl9 mt9 C9 ad0 X hr hin ht
  obtain ⟨Ic, Iq, It, Ib, Itb, Igb, Ik, Ih, Iv⟩ := hI
  refine ne_aload_n X dX3_copy_0 rfl ?_
  refine ne_iload_n X dX3_copy_1 rfl ?_
  refine ne_callS X nw_Tg (me_X3_isNoCell l hl _ _ (by omega)) nw_yX3_isNoCell nw_mX3_66 nw_sX3_isNoCell dX3_copy_2 rfl rfl (by decide) (by decide) (by first | decide | omega) (by first | decide | omega) (Nat.le_of_ble_eq_true rfl) rfl rfl (Nat.le_of_ble_eq_true rfl) ?_ ?_
  rotate_left
  · rintro E9 w9 h9; exact h9.elim
  rintro v2 w2 ⟨rfl, z2, rfl, g2⟩
  refine ne_if_ne (tgt := 15) X dX3_copy_5 rfl (by omega) (fun b5 => ?_) (fun b5 => ?_)
  · refine ne_iconst X dX3_copy_15 ?_
    refine ne_goto (tgt := 20) X dX3_copy_16 rfl ?_
    refine ne_iconst X dX3_copy_20 ?_
    refine ne_callV X nw_Tg (me_X3_refuse l hl c q t b k h vt T (by exact ⟨Ic, Iq, It, Ib, Itb, Igb, Ik, Ih, Iv⟩) (by omega) _ _ (by omega) (by omega)) nw_yX3_refuse nw_mX3_72 nw_iX3_refuse nw_eX3_refuse (ci := 5) rfl rfl rfl dX3_copy_21 rfl rfl (by decide) (by decide) (by first | decide | omega) (by first | decide | omega) (Nat.le_of_ble_eq_true rfl) rfl rfl (Nat.le_of_ble_eq_true rfl) ?_ ?_
    rotate_left
    · rintro E9 w9 h9; exact h9.elim
    rintro v21 w21 ⟨u21, rfl, Iv, z21, rfl, g21⟩
    refine ne_if_eq (tgt := 31) X dX3_copy_24 rfl (by omega) (fun b24 => ?_) (fun b24 => ?_)
    · exfalso; omega
    · refine ne_iconst X dX3_copy_27 ?_
      refine ne_goto (tgt := 49) X dX3_copy_28 rfl ?_
      exact ne_iret X hr (by first | rfl | decide | rfl) dX3_copy_49 ⟨⟨_, _, _, _, rfl, Ic, Iq, It, Ib, Itb, Igb, Ik, ne_rg_mono Ih (by omega) (by omega), Iv⟩, _, rfl, trivial⟩
  · refine ne_iload_n X dX3_copy_8 rfl ?_
    refine ne_callS X nw_Tg (me_X3_isNoCell l hl _ _ (by omega)) nw_yX3_isNoCell nw_mX3_66 nw_sX3_isNoCell dX3_copy_9 rfl rfl (by decide) (by decide) (by first | decide | omega) (by first | decide | omega) (Nat.le_of_ble_eq_true rfl) rfl rfl (Nat.le_of_ble_eq_true rfl) ?_ ?_
    rotate_left
    · rintro E9 w9 h9; exact h9.elim
    rintro v9 w9 ⟨rfl, z9, rfl, g9⟩
    refine ne_if_eq (tgt := 19) X dX3_copy_12 rfl (by omega) (fun b12 => ?_) (fun b12 => ?_)
    · refine ne_iconst X dX3_copy_19 ?_
      refine ne_iconst X dX3_copy_20 ?_
      refine ne_callV X nw_Tg (me_X3_refuse l hl c q t b k h vt T (by exact ⟨Ic, Iq, It, Ib, Itb, Igb, Ik, Ih, Iv⟩) (by omega) _ _ (by omega) (by omega)) nw_yX3_refuse nw_mX3_72 nw_iX3_refuse nw_eX3_refuse (ci := 5) rfl rfl rfl dX3_copy_21 rfl rfl (by decide) (by decide) (by first | decide | omega) (by first | decide | omega) (Nat.le_of_ble_eq_true rfl) rfl rfl (Nat.le_of_ble_eq_true rfl) ?_ ?_
      rotate_left
      · rintro E9 w9 h9; exact h9.elim
      rintro v21 w21 ⟨u21, rfl, Iv, z21, rfl, g21⟩
      refine ne_if_eq (tgt := 31) X dX3_copy_24 rfl (by omega) (fun b24 => ?_) (fun b24 => ?_)
      · have hk9 : ((0 ≤ i ∧ i < 4 ∧ 0 ≤ j ∧ j < 4)) ∧ u21 = 0 := by omega
        try clear g2
        try clear b5
        try clear g9
        try clear b12
        try clear g21
        try clear b24
        refine ne_aload_n X dX3_copy_31 rfl ?_
        refine ne_iload_n X dX3_copy_32 rfl ?_
        refine ne_aload_n X dX3_copy_33 rfl ?_
        refine ne_getf X dX3_copy_34 nw_fX3_9 rfl rfl ?_
        refine ne_iload_n X dX3_copy_37 rfl ?_
        refine ne_ialdR X dX3_copy_38 rfl (by omega) Ic (fun v38 e38 f38 u38 => ?_)
        refine ne_i2l (by omega) X dX3_copy_39 ?_
        refine ne_aload_n X dX3_copy_40 rfl ?_
        refine ne_getf X dX3_copy_41 nw_fX3_15 rfl rfl ?_
        refine ne_iload_n X dX3_copy_44 rfl ?_
        refine ne_ialdR X dX3_copy_45 rfl (by omega) Iq (fun v45 e45 f45 u45 => ?_)
        refine ne_callV X nw_Tg (me_X3_come l hl c q t b k h u21 T (by exact ⟨Ic, Iq, It, Ib, Itb, Igb, Ik, Ih, Iv⟩) (by omega) _ _ _ (by omega) (by omega) (by omega)) nw_yX3_come nw_mX3_76 nw_iX3_come nw_eX3_come (ci := 5) rfl rfl rfl dX3_copy_46 rfl rfl (by decide) (by decide) (by first | decide | omega) (by first | decide | omega) (Nat.le_of_ble_eq_true rfl) rfl rfl (Nat.le_of_ble_eq_true rfl) ?_ ?_
        rotate_left
        · rintro E9 w9 h9; exact h9.elim
        rintro v46 w46 ⟨c46, q46, h46, rfl, Ic, Iq, Ih, z46, rfl, g46, k46⟩
        exact ne_iret X hr (by first | rfl | decide | rfl) dX3_copy_49 ⟨⟨_, _, _, _, rfl, Ic, Iq, It, Ib, Itb, Igb, Ik, ne_rg_mono Ih (by omega) (by omega), Iv⟩, _, rfl, trivial⟩
      · exfalso; omega
    · refine ne_iconst X dX3_copy_15 ?_
      refine ne_goto (tgt := 20) X dX3_copy_16 rfl ?_
      refine ne_iconst X dX3_copy_20 ?_
      refine ne_callV X nw_Tg (me_X3_refuse l hl c q t b k h vt T (by exact ⟨Ic, Iq, It, Ib, Itb, Igb, Ik, Ih, Iv⟩) (by omega) _ _ (by omega) (by omega)) nw_yX3_refuse nw_mX3_72 nw_iX3_refuse nw_eX3_refuse (ci := 5) rfl rfl rfl dX3_copy_21 rfl rfl (by decide) (by decide) (by first | decide | omega) (by first | decide | omega) (Nat.le_of_ble_eq_true rfl) rfl rfl (Nat.le_of_ble_eq_true rfl) ?_ ?_
      rotate_left
      · rintro E9 w9 h9; exact h9.elim
      rintro v21 w21 ⟨u21, rfl, Iv, z21, rfl, g21⟩
      refine ne_if_eq (tgt := 31) X dX3_copy_24 rfl (by omega) (fun b24 => ?_) (fun b24 => ?_)
      · exfalso; omega
      · refine ne_iconst X dX3_copy_27 ?_
        refine ne_goto (tgt := 49) X dX3_copy_28 rfl ?_
        exact ne_iret X hr (by first | rfl | decide | rfl) dX3_copy_49 ⟨⟨_, _, _, _, rfl, Ic, Iq, It, Ib, Itb, Igb, Ik, ne_rg_mono Ih (by omega) (by omega), Iv⟩, _, rfl, trivial⟩
set_option maxRecDepth 100000 in
set_option maxHeartbeats 4000000 in
theorem me_X3_negate (l : Launch) (hl : l.stackTraces = false) (c q t b k h : Nat → Int) (vt T : Int) (hI : mI c q t b k h vt T) (hT : 0 ≤ T ∧ T ≤ 1000) (i : Int) (hi : -2147483648 ≤ i ∧ i < 2147483648)  : ne_M l nw_cl (.code yX3_negate cX3_negate 2 (some .int)) nw_T yX3_negate 9 330 0 0 [.ref 0, ni i] (mW c q t b k h vt) (fun v w => (∃ c1 q1 h1 v1, w = mW c1 q1 t b k h1 v1 ∧ mI c1 q1 t b k h1 v1 (T + 1)) ∧ ∃ z : Int, v = some (ni z) ∧ True) (fun _ _ => False) := by
  refine ne_meet (own := RX3) hl rfl (by decide +kernel) (Nat.le_of_ble_eq_true rfl) ?_
  intro D ct A P9 V9 R9 S9 M9 as9 bl9 mt9 C9 ad0 X hr hin ht
  obtain ⟨Ic, Iq, It, Ib, Itb, Igb, Ik, Ih, Iv⟩ := hI
  refine ne_aload_n X dX3_negate_0 rfl ?_
  refine ne_iload_n X dX3_negate_1 rfl ?_
  refine ne_callS X nw_Tg (me_X3_isNoCell l hl _ _ (by omega)) nw_yX3_isNoCell nw_mX3_66 nw_sX3_isNoCell dX3_negate_2 rfl rfl (by decide) (by decide) (by first | decide | omega) (by first | decide | omega) (Nat.le_of_ble_eq_true rfl) rfl rfl (Nat.le_of_ble_eq_true rfl) ?_ ?_
  rotate_left
  · rintro E9 w9 h9; exact h9.elim
  rintro v2 w2 ⟨rfl, z2, rfl, g2⟩
  refine ne_iconst X dX3_negate_5 ?_
  refine ne_callV X nw_Tg (me_X3_refuse l hl c q t b k h vt T (by exact ⟨Ic, Iq, It, Ib, Itb, Igb, Ik, Ih, Iv⟩) (by omega) _ _ (by omega) (by omega)) nw_yX3_refuse nw_mX3_72 nw_iX3_refuse nw_eX3_refuse (ci := 5) rfl rfl rfl dX3_negate_6 rfl rfl (by decide) (by decide) (by first | decide | omega) (by first | decide | omega) (Nat.le_of_ble_eq_true rfl) rfl rfl (Nat.le_of_ble_eq_true rfl) ?_ ?_
  rotate_left
  · rintro E9 w9 h9; exact h9.elim
  rintro v6 w6 ⟨u6, rfl, Iv, z6, rfl, g6⟩
  refine ne_if_eq (tgt := 16) X dX3_negate_9 rfl (by omega) (fun b9 => ?_) (fun b9 => ?_)
  · have hk9 : ((0 ≤ i ∧ i < 4)) ∧ u6 = 0 := by omega
    try clear g2
    try clear g6
    try clear b9
    refine ne_aload_n X dX3_negate_16 rfl ?_
    refine ne_iload_n X dX3_negate_17 rfl ?_
    refine ne_aload_n X dX3_negate_18 rfl ?_
    refine ne_getf X dX3_negate_19 nw_fX3_9 rfl rfl ?_
    refine ne_iload_n X dX3_negate_22 rfl ?_
    refine ne_ialdR X dX3_negate_23 rfl (by omega) Ic (fun v23 e23 f23 u23 => ?_)
    refine ne_ineg X dX3_negate_24 ?_
    refine ne_i2l (by omega) X dX3_negate_25 ?_
    refine ne_aload_n X dX3_negate_26 rfl ?_
    refine ne_getf X dX3_negate_27 nw_fX3_15 rfl rfl ?_
    refine ne_iload_n X dX3_negate_30 rfl ?_
    refine ne_ialdR X dX3_negate_31 rfl (by omega) Iq (fun v31 e31 f31 u31 => ?_)
    refine ne_callV X nw_Tg (me_X3_come l hl c q t b k h u6 T (by exact ⟨Ic, Iq, It, Ib, Itb, Igb, Ik, Ih, Iv⟩) (by omega) _ _ _ (by omega) (by omega) (by omega)) nw_yX3_come nw_mX3_76 nw_iX3_come nw_eX3_come (ci := 5) rfl rfl rfl dX3_negate_32 rfl rfl (by decide) (by decide) (by first | decide | omega) (by first | decide | omega) (Nat.le_of_ble_eq_true rfl) rfl rfl (Nat.le_of_ble_eq_true rfl) ?_ ?_
    rotate_left
    · rintro E9 w9 h9; exact h9.elim
    rintro v32 w32 ⟨c32, q32, h32, rfl, Ic, Iq, Ih, z32, rfl, g32, k32⟩
    exact ne_iret X hr (by first | rfl | decide | rfl) dX3_negate_35 ⟨⟨_, _, _, _, rfl, Ic, Iq, It, Ib, Itb, Igb, Ik, ne_rg_mono Ih (by omega) (by omega), Iv⟩, _, rfl, trivial⟩
  · refine ne_iconst X dX3_negate_12 ?_
    refine ne_goto (tgt := 35) X dX3_negate_13 rfl ?_
    exact ne_iret X hr (by first | rfl | decide | rfl) dX3_negate_35 ⟨⟨_, _, _, _, rfl, Ic, Iq, It, Ib, Itb, Igb, Ik, ne_rg_mono Ih (by omega) (by omega), Iv⟩, _, rfl, trivial⟩
set_option maxRecDepth 100000 in
set_option maxHeartbeats 4000000 in
theorem me_X3_size (l : Launch) (hl : l.stackTraces = false) (c q t b k h : Nat → Int) (vt T : Int) (hI : mI c q t b k h vt T) (hT : 0 ≤ T ∧ T ≤ 1000) (i : Int) (hi : -2147483648 ≤ i ∧ i < 2147483648)  : ne_M l nw_cl (.code yX3_size cX3_size 2 (some .int)) nw_T yX3_size 9 330 0 0 [.ref 0, ni i] (mW c q t b k h vt) (fun v w => (∃ c1 q1 h1 v1, w = mW c1 q1 t b k h1 v1 ∧ mI c1 q1 t b k h1 v1 (T + 1)) ∧ ∃ z : Int, v = some (ni z) ∧ True) (fun _ _ => False) := by
  refine ne_meet (own := RX3) hl rfl (by decide +kernel) (Nat.le_of_ble_eq_true rfl) ?_
  intro D ct A P9 V9 R9 S9 M9 as9 bl9 mt9 C9 ad0 X hr hin ht
  obtain ⟨Ic, Iq, It, Ib, Itb, Igb, Ik, Ih, Iv⟩ := hI
  refine ne_aload_n X dX3_size_0 rfl ?_
  refine ne_iload_n X dX3_size_1 rfl ?_
  refine ne_callS X nw_Tg (me_X3_isNoCell l hl _ _ (by omega)) nw_yX3_isNoCell nw_mX3_66 nw_sX3_isNoCell dX3_size_2 rfl rfl (by decide) (by decide) (by first | decide | omega) (by first | decide | omega) (Nat.le_of_ble_eq_true rfl) rfl rfl (Nat.le_of_ble_eq_true rfl) ?_ ?_
  rotate_left
  · rintro E9 w9 h9; exact h9.elim
  rintro v2 w2 ⟨rfl, z2, rfl, g2⟩
  refine ne_iconst X dX3_size_5 ?_
  refine ne_callV X nw_Tg (me_X3_refuse l hl c q t b k h vt T (by exact ⟨Ic, Iq, It, Ib, Itb, Igb, Ik, Ih, Iv⟩) (by omega) _ _ (by omega) (by omega)) nw_yX3_refuse nw_mX3_72 nw_iX3_refuse nw_eX3_refuse (ci := 5) rfl rfl rfl dX3_size_6 rfl rfl (by decide) (by decide) (by first | decide | omega) (by first | decide | omega) (Nat.le_of_ble_eq_true rfl) rfl rfl (Nat.le_of_ble_eq_true rfl) ?_ ?_
  rotate_left
  · rintro E9 w9 h9; exact h9.elim
  rintro v6 w6 ⟨u6, rfl, Iv, z6, rfl, g6⟩
  refine ne_if_eq (tgt := 16) X dX3_size_9 rfl (by omega) (fun b9 => ?_) (fun b9 => ?_)
  · have hk9 : ((0 ≤ i ∧ i < 4)) ∧ u6 = 0 := by omega
    try clear g2
    try clear g6
    try clear b9
    refine ne_aload_n X dX3_size_16 rfl ?_
    refine ne_iload_n X dX3_size_17 rfl ?_
    refine ne_aload_n X dX3_size_18 rfl ?_
    refine ne_getf X dX3_size_19 nw_fX3_9 rfl rfl ?_
    refine ne_iload_n X dX3_size_22 rfl ?_
    refine ne_ialdR X dX3_size_23 rfl (by omega) Ic (fun v23 e23 f23 u23 => ?_)
    refine ne_i2l (by omega) X dX3_size_24 ?_
    refine ne_callS X nw_Tg (me_X3_sizeOf l hl _ _ (by omega)) nw_yX3_sizeOf nw_mX3_40 nw_sX3_sizeOf dX3_size_25 rfl rfl (by decide) (by decide) (by first | decide | omega) (by first | decide | omega) (Nat.le_of_ble_eq_true rfl) rfl rfl (Nat.le_of_ble_eq_true rfl) ?_ ?_
    rotate_left
    · rintro E9 w9 h9; exact h9.elim
    rintro v25 w25 ⟨rfl, z25, rfl, g25⟩
    refine ne_aload_n X dX3_size_28 rfl ?_
    refine ne_getf X dX3_size_29 nw_fX3_15 rfl rfl ?_
    refine ne_iload_n X dX3_size_32 rfl ?_
    refine ne_ialdR X dX3_size_33 rfl (by omega) Iq (fun v33 e33 f33 u33 => ?_)
    refine ne_callV X nw_Tg (me_X3_come l hl c q t b k h u6 T (by exact ⟨Ic, Iq, It, Ib, Itb, Igb, Ik, Ih, Iv⟩) (by omega) _ _ _ (by omega) (by omega) (by omega)) nw_yX3_come nw_mX3_76 nw_iX3_come nw_eX3_come (ci := 5) rfl rfl rfl dX3_size_34 rfl rfl (by decide) (by decide) (by first | decide | omega) (by first | decide | omega) (Nat.le_of_ble_eq_true rfl) rfl rfl (Nat.le_of_ble_eq_true rfl) ?_ ?_
    rotate_left
    · rintro E9 w9 h9; exact h9.elim
    rintro v34 w34 ⟨c34, q34, h34, rfl, Ic, Iq, Ih, z34, rfl, g34, k34⟩
    exact ne_iret X hr (by first | rfl | decide | rfl) dX3_size_37 ⟨⟨_, _, _, _, rfl, Ic, Iq, It, Ib, Itb, Igb, Ik, ne_rg_mono Ih (by omega) (by omega), Iv⟩, _, rfl, trivial⟩
  · refine ne_iconst X dX3_size_12 ?_
    refine ne_goto (tgt := 37) X dX3_size_13 rfl ?_
    exact ne_iret X hr (by first | rfl | decide | rfl) dX3_size_37 ⟨⟨_, _, _, _, rfl, Ic, Iq, It, Ib, Itb, Igb, Ik, ne_rg_mono Ih (by omega) (by omega), Iv⟩, _, rfl, trivial⟩
set_option maxRecDepth 100000 in
set_option maxHeartbeats 4000000 in
theorem me_X3_add (l : Launch) (hl : l.stackTraces = false) (c q t b k h : Nat → Int) (vt T : Int) (hI : mI c q t b k h vt T) (hT : 0 ≤ T ∧ T ≤ 1000) (i : Int) (j : Int) (o : Int) (hi : -2147483648 ≤ i ∧ i < 2147483648) (hj : -2147483648 ≤ j ∧ j < 2147483648) (ho : -2147483648 ≤ o ∧ o < 2147483648)  : ne_M l nw_cl (.code yX3_add cX3_add 5 (some .int)) nw_T yX3_add 9 330 0 0 [.ref 0, ni i, ni j, ni o] (mW c q t b k h vt) (fun v w => (∃ c1 q1 h1 v1, w = mW c1 q1 t b k h1 v1 ∧ mI c1 q1 t b k h1 v1 (T + 1)) ∧ ∃ z : Int, v = some (ni z) ∧ True) (fun _ _ => False) := by
  refine ne_meet (own := RX3) hl rfl (by decide +kernel) (Nat.le_of_ble_eq_true rfl) ?_
  intro D ct A P9 V9 R9 S9 M9 as9 bl9 mt9 C9 ad0 X hr hin ht
  obtain ⟨Ic, Iq, It, Ib, Itb, Igb, Ik, Ih, Iv⟩ := hI
  refine ne_aload_n X dX3_add_0 rfl ?_
  refine ne_aload_n X dX3_add_1 rfl ?_
  refine ne_iload_n X dX3_add_2 rfl ?_
  refine ne_iload_n X dX3_add_3 rfl ?_
  refine ne_iload_n X dX3_add_4 rfl ?_
  refine ne_callV X nw_Tg (me_X3_areNoCells l hl c q t b k h vt T (by exact ⟨Ic, Iq, It, Ib, Itb, Igb, Ik, Ih, Iv⟩) (by omega) _ _ _ (by omega) (by omega) (by omega)) nw_yX3_areNoCells nw_mX3_80 nw_iX3_areNoCells nw_eX3_areNoCells (ci := 5) rfl rfl rfl dX3_add_5 rfl rfl (by decide) (by decide) (by first | decide | omega) (by first | decide | omega) (Nat.le_of_ble_eq_true rfl) rfl rfl (Nat.le_of_ble_eq_true rfl) ?_ ?_
  rotate_left
  · rintro E9 w9 h9; exact h9.elim
  rintro v5 w5 ⟨rfl, z5, rfl, g5⟩
  refine ne_iconst X dX3_add_8 ?_
  refine ne_callV X nw_Tg (me_X3_refuse l hl c q t b k h vt T (by exact ⟨Ic, Iq, It, Ib, Itb, Igb, Ik, Ih, Iv⟩) (by omega) _ _ (by omega) (by omega)) nw_yX3_refuse nw_mX3_72 nw_iX3_refuse nw_eX3_refuse (ci := 5) rfl rfl rfl dX3_add_9 rfl rfl (by decide) (by decide) (by first | decide | omega) (by first | decide | omega) (Nat.le_of_ble_eq_true rfl) rfl rfl (Nat.le_of_ble_eq_true rfl) ?_ ?_
  rotate_left
  · rintro E9 w9 h9; exact h9.elim
  rintro v9 w9 ⟨u9, rfl, Iv, z9, rfl, g9⟩
  refine ne_if_eq (tgt := 17) X dX3_add_12 rfl (by omega) (fun b12 => ?_) (fun b12 => ?_)
  · have hk9 : ((0 ≤ i ∧ i < 4 ∧ 0 ≤ j ∧ j < 4 ∧ 0 ≤ o ∧ o < 4)) ∧ u9 = 0 := by omega
    try clear g5
    try clear g9
    try clear b12
    refine ne_aload_n X dX3_add_17 rfl ?_
    refine ne_iload_n X dX3_add_18 rfl ?_
    refine ne_iload_n X dX3_add_19 rfl ?_
    refine ne_callV X nw_Tg (me_X3_most l hl c q t b k h u9 T (by exact ⟨Ic, Iq, It, Ib, Itb, Igb, Ik, Ih, Iv⟩) (by omega) _ _ (by omega) (by omega)) nw_yX3_most nw_mX3_83 nw_iX3_most nw_eX3_most (ci := 5) rfl rfl rfl dX3_add_20 rfl rfl (by decide) (by decide) (by first | decide | omega) (by first | decide | omega) (Nat.le_of_ble_eq_true rfl) rfl rfl (Nat.le_of_ble_eq_true rfl) ?_ ?_
    rotate_left
    · rintro E9 w9 h9; exact h9.elim
    rintro v20 w20 ⟨rfl, z20, rfl, g20, k20⟩
    refine ne_istore X dX3_add_23 (by decide) ?_
    refine ne_aload_n X dX3_add_25 rfl ?_
    refine ne_iload_n X dX3_add_26 rfl ?_
    refine ne_aload_n X dX3_add_27 rfl ?_
    refine ne_iload_n X dX3_add_28 rfl ?_
    refine ne_iload X dX3_add_29 rfl ?_
    refine ne_callV X nw_Tg (me_X3_units l hl c q t b k h u9 T (by exact ⟨Ic, Iq, It, Ib, Itb, Igb, Ik, Ih, Iv⟩) (by omega) _ _ (by omega) (by omega)) nw_yX3_units nw_mX3_62 nw_iX3_units nw_eX3_units (ci := 5) rfl rfl rfl dX3_add_31 rfl rfl (by decide) (by decide) (by first | decide | omega) (by first | decide | omega) (Nat.le_of_ble_eq_true rfl) rfl rfl (Nat.le_of_ble_eq_true rfl) ?_ ?_
    rotate_left
    · rintro E9 w9 h9; exact h9.elim
    rintro v31 w31 ⟨rfl, z31, rfl, g31, k31⟩
    refine ne_aload_n X dX3_add_34 rfl ?_
    refine ne_iload_n X dX3_add_35 rfl ?_
    refine ne_iload X dX3_add_36 rfl ?_
    refine ne_callV X nw_Tg (me_X3_units l hl c q t b k h u9 T (by exact ⟨Ic, Iq, It, Ib, Itb, Igb, Ik, Ih, Iv⟩) (by omega) _ _ (by omega) (by omega)) nw_yX3_units nw_mX3_62 nw_iX3_units nw_eX3_units (ci := 5) rfl rfl rfl dX3_add_38 rfl rfl (by decide) (by decide) (by first | decide | omega) (by first | decide | omega) (Nat.le_of_ble_eq_true rfl) rfl rfl (Nat.le_of_ble_eq_true rfl) ?_ ?_
    rotate_left
    · rintro E9 w9 h9; exact h9.elim
    rintro v38 w38 ⟨rfl, z38, rfl, g38, k38⟩
    refine ne_ladd X dX3_add_41 ?_
    refine ne_iload X dX3_add_42 rfl ?_
    refine ne_callV X nw_Tg (me_X3_come l hl c q t b k h u9 T (by exact ⟨Ic, Iq, It, Ib, Itb, Igb, Ik, Ih, Iv⟩) (by omega) _ _ _ (by omega) (by omega) (by omega)) nw_yX3_come nw_mX3_76 nw_iX3_come nw_eX3_come (ci := 5) rfl rfl rfl dX3_add_44 rfl rfl (by decide) (by decide) (by first | decide | omega) (by first | decide | omega) (Nat.le_of_ble_eq_true rfl) rfl rfl (Nat.le_of_ble_eq_true rfl) ?_ ?_
    rotate_left
    · rintro E9 w9 h9; exact h9.elim
    rintro v44 w44 ⟨c44, q44, h44, rfl, Ic, Iq, Ih, z44, rfl, g44, k44⟩
    exact ne_iret X hr (by first | rfl | decide | rfl) dX3_add_47 ⟨⟨_, _, _, _, rfl, Ic, Iq, It, Ib, Itb, Igb, Ik, ne_rg_mono Ih (by omega) (by omega), Iv⟩, _, rfl, trivial⟩
  · refine ne_iconst X dX3_add_15 ?_
    exact ne_iret X hr (by first | rfl | decide | rfl) dX3_add_16 ⟨⟨_, _, _, _, rfl, Ic, Iq, It, Ib, Itb, Igb, Ik, ne_rg_mono Ih (by omega) (by omega), Iv⟩, _, rfl, trivial⟩
set_option maxRecDepth 100000 in
set_option maxHeartbeats 4000000 in
theorem me_X3_subtract (l : Launch) (hl : l.stackTraces = false) (c q t b k h : Nat → Int) (vt T : Int) (hI : mI c q t b k h vt T) (hT : 0 ≤ T ∧ T ≤ 1000) (i : Int) (j : Int) (o : Int) (hi : -2147483648 ≤ i ∧ i < 2147483648) (hj : -2147483648 ≤ j ∧ j < 2147483648) (ho : -2147483648 ≤ o ∧ o < 2147483648)  : ne_M l nw_cl (.code yX3_subtract cX3_subtract 5 (some .int)) nw_T yX3_subtract 9 330 0 0 [.ref 0, ni i, ni j, ni o] (mW c q t b k h vt) (fun v w => (∃ c1 q1 h1 v1, w = mW c1 q1 t b k h1 v1 ∧ mI c1 q1 t b k h1 v1 (T + 1)) ∧ ∃ z : Int, v = some (ni z) ∧ True) (fun _ _ => False) := by
  refine ne_meet (own := RX3) hl rfl (by decide +kernel) (Nat.le_of_ble_eq_true rfl) ?_
  intro D ct A P9 V9 R9 S9 M9 as9 bl9 mt9 C9 ad0 X hr hin ht
  obtain ⟨Ic, Iq, It, Ib, Itb, Igb, Ik, Ih, Iv⟩ := hI
  refine ne_aload_n X dX3_subtract_0 rfl ?_
  refine ne_aload_n X dX3_subtract_1 rfl ?_
  refine ne_iload_n X dX3_subtract_2 rfl ?_
  refine ne_iload_n X dX3_subtract_3 rfl ?_
  refine ne_iload_n X dX3_subtract_4 rfl ?_
  refine ne_callV X nw_Tg (me_X3_areNoCells l hl c q t b k h vt T (by exact ⟨Ic, Iq, It, Ib, Itb, Igb, Ik, Ih, Iv⟩) (by omega) _ _ _ (by omega) (by omega) (by omega)) nw_yX3_areNoCells nw_mX3_80 nw_iX3_areNoCells nw_eX3_areNoCells (ci := 5) rfl rfl rfl dX3_subtract_5 rfl rfl (by decide) (by decide) (by first | decide | omega) (by first | decide | omega) (Nat.le_of_ble_eq_true rfl) rfl rfl (Nat.le_of_ble_eq_true rfl) ?_ ?_
  rotate_left
  · rintro E9 w9 h9; exact h9.elim
  rintro v5 w5 ⟨rfl, z5, rfl, g5⟩
  refine ne_iconst X dX3_subtract_8 ?_
  refine ne_callV X nw_Tg (me_X3_refuse l hl c q t b k h vt T (by exact ⟨Ic, Iq, It, Ib, Itb, Igb, Ik, Ih, Iv⟩) (by omega) _ _ (by omega) (by omega)) nw_yX3_refuse nw_mX3_72 nw_iX3_refuse nw_eX3_refuse (ci := 5) rfl rfl rfl dX3_subtract_9 rfl rfl (by decide) (by decide) (by first | decide | omega) (by first | decide | omega) (Nat.le_of_ble_eq_true rfl) rfl rfl (Nat.le_of_ble_eq_true rfl) ?_ ?_
  rotate_left
  · rintro E9 w9 h9; exact h9.elim
  rintro v9 w9 ⟨u9, rfl, Iv, z9, rfl, g9⟩
  refine ne_if_eq (tgt := 17) X dX3_subtract_12 rfl (by omega) (fun b12 => ?_) (fun b12 => ?_)
  · have hk9 : ((0 ≤ i ∧ i < 4 ∧ 0 ≤ j ∧ j < 4 ∧ 0 ≤ o ∧ o < 4)) ∧ u9 = 0 := by omega
    try clear g5
    try clear g9
    try clear b12
    refine ne_aload_n X dX3_subtract_17 rfl ?_
    refine ne_iload_n X dX3_subtract_18 rfl ?_
    refine ne_iload_n X dX3_subtract_19 rfl ?_
    refine ne_callV X nw_Tg (me_X3_most l hl c q t b k h u9 T (by exact ⟨Ic, Iq, It, Ib, Itb, Igb, Ik, Ih, Iv⟩) (by omega) _ _ (by omega) (by omega)) nw_yX3_most nw_mX3_83 nw_iX3_most nw_eX3_most (ci := 5) rfl rfl rfl dX3_subtract_20 rfl rfl (by decide) (by decide) (by first | decide | omega) (by first | decide | omega) (Nat.le_of_ble_eq_true rfl) rfl rfl (Nat.le_of_ble_eq_true rfl) ?_ ?_
    rotate_left
    · rintro E9 w9 h9; exact h9.elim
    rintro v20 w20 ⟨rfl, z20, rfl, g20, k20⟩
    refine ne_istore X dX3_subtract_23 (by decide) ?_
    refine ne_aload_n X dX3_subtract_25 rfl ?_
    refine ne_iload_n X dX3_subtract_26 rfl ?_
    refine ne_aload_n X dX3_subtract_27 rfl ?_
    refine ne_iload_n X dX3_subtract_28 rfl ?_
    refine ne_iload X dX3_subtract_29 rfl ?_
    refine ne_callV X nw_Tg (me_X3_units l hl c q t b k h u9 T (by exact ⟨Ic, Iq, It, Ib, Itb, Igb, Ik, Ih, Iv⟩) (by omega) _ _ (by omega) (by omega)) nw_yX3_units nw_mX3_62 nw_iX3_units nw_eX3_units (ci := 5) rfl rfl rfl dX3_subtract_31 rfl rfl (by decide) (by decide) (by first | decide | omega) (by first | decide | omega) (Nat.le_of_ble_eq_true rfl) rfl rfl (Nat.le_of_ble_eq_true rfl) ?_ ?_
    rotate_left
    · rintro E9 w9 h9; exact h9.elim
    rintro v31 w31 ⟨rfl, z31, rfl, g31, k31⟩
    refine ne_aload_n X dX3_subtract_34 rfl ?_
    refine ne_iload_n X dX3_subtract_35 rfl ?_
    refine ne_iload X dX3_subtract_36 rfl ?_
    refine ne_callV X nw_Tg (me_X3_units l hl c q t b k h u9 T (by exact ⟨Ic, Iq, It, Ib, Itb, Igb, Ik, Ih, Iv⟩) (by omega) _ _ (by omega) (by omega)) nw_yX3_units nw_mX3_62 nw_iX3_units nw_eX3_units (ci := 5) rfl rfl rfl dX3_subtract_38 rfl rfl (by decide) (by decide) (by first | decide | omega) (by first | decide | omega) (Nat.le_of_ble_eq_true rfl) rfl rfl (Nat.le_of_ble_eq_true rfl) ?_ ?_
    rotate_left
    · rintro E9 w9 h9; exact h9.elim
    rintro v38 w38 ⟨rfl, z38, rfl, g38, k38⟩
    refine ne_lsub X dX3_subtract_41 ?_
    refine ne_iload X dX3_subtract_42 rfl ?_
    refine ne_callV X nw_Tg (me_X3_come l hl c q t b k h u9 T (by exact ⟨Ic, Iq, It, Ib, Itb, Igb, Ik, Ih, Iv⟩) (by omega) _ _ _ (by omega) (by omega) (by omega)) nw_yX3_come nw_mX3_76 nw_iX3_come nw_eX3_come (ci := 5) rfl rfl rfl dX3_subtract_44 rfl rfl (by decide) (by decide) (by first | decide | omega) (by first | decide | omega) (Nat.le_of_ble_eq_true rfl) rfl rfl (Nat.le_of_ble_eq_true rfl) ?_ ?_
    rotate_left
    · rintro E9 w9 h9; exact h9.elim
    rintro v44 w44 ⟨c44, q44, h44, rfl, Ic, Iq, Ih, z44, rfl, g44, k44⟩
    exact ne_iret X hr (by first | rfl | decide | rfl) dX3_subtract_47 ⟨⟨_, _, _, _, rfl, Ic, Iq, It, Ib, Itb, Igb, Ik, ne_rg_mono Ih (by omega) (by omega), Iv⟩, _, rfl, trivial⟩
  · refine ne_iconst X dX3_subtract_15 ?_
    exact ne_iret X hr (by first | rfl | decide | rfl) dX3_subtract_16 ⟨⟨_, _, _, _, rfl, Ic, Iq, It, Ib, Itb, Igb, Ik, ne_rg_mono Ih (by omega) (by omega), Iv⟩, _, rfl, trivial⟩
set_option maxRecDepth 100000 in
set_option maxHeartbeats 4000000 in
theorem me_X3_multiply (l : Launch) (hl : l.stackTraces = false) (c q t b k h : Nat → Int) (vt T : Int) (hI : mI c q t b k h vt T) (hT : 0 ≤ T ∧ T ≤ 1000) (i : Int) (j : Int) (o : Int) (hi : -2147483648 ≤ i ∧ i < 2147483648) (hj : -2147483648 ≤ j ∧ j < 2147483648) (ho : -2147483648 ≤ o ∧ o < 2147483648)  : ne_M l nw_cl (.code yX3_multiply cX3_multiply 4 (some .int)) nw_T yX3_multiply 9 330 0 0 [.ref 0, ni i, ni j, ni o] (mW c q t b k h vt) (fun v w => (∃ c1 q1 h1 v1, w = mW c1 q1 t b k h1 v1 ∧ mI c1 q1 t b k h1 v1 (T + 1)) ∧ ∃ z : Int, v = some (ni z) ∧ True) (fun _ _ => False) := by
  refine ne_meet (own := RX3) hl rfl (by decide +kernel) (Nat.le_of_ble_eq_true rfl) ?_
  intro D ct A P9 V9 R9 S9 M9 as9 bl9 mt9 C9 ad0 X hr hin ht
  obtain ⟨Ic, Iq, It, Ib, Itb, Igb, Ik, Ih, Iv⟩ := hI
  refine ne_aload_n X dX3_multiply_0 rfl ?_
  refine ne_aload_n X dX3_multiply_1 rfl ?_
  refine ne_iload_n X dX3_multiply_2 rfl ?_
  refine ne_iload_n X dX3_multiply_3 rfl ?_
  refine ne_iload_n X dX3_multiply_4 rfl ?_
  refine ne_callV X nw_Tg (me_X3_areNoCells l hl c q t b k h vt T (by exact ⟨Ic, Iq, It, Ib, Itb, Igb, Ik, Ih, Iv⟩) (by omega) _ _ _ (by omega) (by omega) (by omega)) nw_yX3_areNoCells nw_mX3_80 nw_iX3_areNoCells nw_eX3_areNoCells (ci := 5) rfl rfl rfl dX3_multiply_5 rfl rfl (by decide) (by decide) (by first | decide | omega) (by first | decide | omega) (Nat.le_of_ble_eq_true rfl) rfl rfl (Nat.le_of_ble_eq_true rfl) ?_ ?_
  rotate_left
  · rintro E9 w9 h9; exact h9.elim
  rintro v5 w5 ⟨rfl, z5, rfl, g5⟩
  refine ne_iconst X dX3_multiply_8 ?_
  refine ne_callV X nw_Tg (me_X3_refuse l hl c q t b k h vt T (by exact ⟨Ic, Iq, It, Ib, Itb, Igb, Ik, Ih, Iv⟩) (by omega) _ _ (by omega) (by omega)) nw_yX3_refuse nw_mX3_72 nw_iX3_refuse nw_eX3_refuse (ci := 5) rfl rfl rfl dX3_multiply_9 rfl rfl (by decide) (by decide) (by first | decide | omega) (by first | decide | omega) (Nat.le_of_ble_eq_true rfl) rfl rfl (Nat.le_of_ble_eq_true rfl) ?_ ?_
  rotate_left
  · rintro E9 w9 h9; exact h9.elim
  rintro v9 w9 ⟨u9, rfl, Iv, z9, rfl, g9⟩
  refine ne_if_eq (tgt := 17) X dX3_multiply_12 rfl (by omega) (fun b12 => ?_) (fun b12 => ?_)
  · have hk9 : ((0 ≤ i ∧ i < 4 ∧ 0 ≤ j ∧ j < 4 ∧ 0 ≤ o ∧ o < 4)) ∧ u9 = 0 := by omega
    try clear g5
    try clear g9
    try clear b12
    refine ne_aload_n X dX3_multiply_17 rfl ?_
    refine ne_iload_n X dX3_multiply_18 rfl ?_
    refine ne_aload_n X dX3_multiply_19 rfl ?_
    refine ne_getf X dX3_multiply_20 nw_fX3_9 rfl rfl ?_
    refine ne_iload_n X dX3_multiply_23 rfl ?_
    refine ne_ialdR X dX3_multiply_24 rfl (by omega) Ic (fun v24 e24 f24 u24 => ?_)
    refine ne_i2l (by omega) X dX3_multiply_25 ?_
    refine ne_aload_n X dX3_multiply_26 rfl ?_
    refine ne_getf X dX3_multiply_27 nw_fX3_9 rfl rfl ?_
    refine ne_iload_n X dX3_multiply_30 rfl ?_
    refine ne_ialdR X dX3_multiply_31 rfl (by omega) Ic (fun v31 e31 f31 u31 => ?_)
    refine ne_i2l (by omega) X dX3_multiply_32 ?_
    have m33 : -999998000001 ≤ v24 * v31 ∧ v24 * v31 ≤ 999998000001 := (by
                rcases (show 0 ≤ v31 ∨ 0 ≤ -v31 by omega) with h | h
                · have := ne_mul v24 v31 999999 999999 (by omega) (by omega); omega
                · have h2 := ne_mul v24 (-v31) 999999 999999 (by omega) (by omega)
                  rw [Int.mul_neg] at h2; omega)
    refine ne_lmul X dX3_multiply_33 ?_
    refine ne_aload_n X dX3_multiply_34 rfl ?_
    refine ne_getf X dX3_multiply_35 nw_fX3_15 rfl rfl ?_
    refine ne_iload_n X dX3_multiply_38 rfl ?_
    refine ne_ialdR X dX3_multiply_39 rfl (by omega) Iq (fun v39 e39 f39 u39 => ?_)
    refine ne_aload_n X dX3_multiply_40 rfl ?_
    refine ne_getf X dX3_multiply_41 nw_fX3_15 rfl rfl ?_
    refine ne_iload_n X dX3_multiply_44 rfl ?_
    refine ne_ialdR X dX3_multiply_45 rfl (by omega) Iq (fun v45 e45 f45 u45 => ?_)
    refine ne_iadd X dX3_multiply_46 ?_
    refine ne_callV X nw_Tg (me_X3_come l hl c q t b k h u9 T (by exact ⟨Ic, Iq, It, Ib, Itb, Igb, Ik, Ih, Iv⟩) (by omega) _ _ _ (by omega) (by omega) (by omega)) nw_yX3_come nw_mX3_76 nw_iX3_come nw_eX3_come (ci := 5) rfl rfl rfl dX3_multiply_47 rfl rfl (by decide) (by decide) (by first | decide | omega) (by first | decide | omega) (Nat.le_of_ble_eq_true rfl) rfl rfl (Nat.le_of_ble_eq_true rfl) ?_ ?_
    rotate_left
    · rintro E9 w9 h9; exact h9.elim
    rintro v47 w47 ⟨c47, q47, h47, rfl, Ic, Iq, Ih, z47, rfl, g47, k47⟩
    exact ne_iret X hr (by first | rfl | decide | rfl) dX3_multiply_50 ⟨⟨_, _, _, _, rfl, Ic, Iq, It, Ib, Itb, Igb, Ik, ne_rg_mono Ih (by omega) (by omega), Iv⟩, _, rfl, trivial⟩
  · refine ne_iconst X dX3_multiply_15 ?_
    exact ne_iret X hr (by first | rfl | decide | rfl) dX3_multiply_16 ⟨⟨_, _, _, _, rfl, Ic, Iq, It, Ib, Itb, Igb, Ik, ne_rg_mono Ih (by omega) (by omega), Iv⟩, _, rfl, trivial⟩
set_option maxRecDepth 100000 in
set_option maxHeartbeats 4000000 in
theorem me_X3_power (l : Launch) (hl : l.stackTraces = false) (c q t b k h : Nat → Int) (vt T : Int) (hI : mI c q t b k h vt T) (hT : 0 ≤ T ∧ T ≤ 1000) (i : Int) (a : Int) (o : Int) (hi : -2147483648 ≤ i ∧ i < 2147483648) (ha : -2147483648 ≤ a ∧ a < 2147483648) (ho : -2147483648 ≤ o ∧ o < 2147483648)  : ne_M l nw_cl (.code yX3_power cX3_power 7 (some .int)) nw_T yX3_power 9 330 0 0 [.ref 0, ni i, ni a, ni o] (mW c q t b k h vt) (fun v w => (∃ c1 q1 h1 v1, w = mW c1 q1 t b k h1 v1 ∧ mI c1 q1 t b k h1 v1 (T + 1)) ∧ ∃ z : Int, v = some (ni z) ∧ True) (fun _ _ => False) := by
  refine ne_meet (own := RX3) hl rfl (by decide +kernel) (Nat.le_of_ble_eq_true rfl) ?_
  intro D ct A P9 V9 R9 S9 M9 as9 bl9 mt9 C9 ad0 X hr hin ht
  obtain ⟨Ic, Iq, It, Ib, Itb, Igb, Ik, Ih, Iv⟩ := hI
  have lp40 : ∀ (n9 : Nat) (r j : Int), (3 - j).toNat < n9 → (0 ≤ j) → (j ≤ 3) → (-9223372036854775808 ≤ r) → (r < 9223372036854775808) → (0 ≤ a ∧ a ≤ 3) → (0 ≤ i ∧ i < 4) → (0 ≤ o ∧ o < 4) → ne_G nw_cl D ct A 7 ad0 P9 l V9 R9 S9 M9 as9 bl9 mt9 C9 (ne_O nw_cl D ct ad0 7 A bl9 as9 S9 0 0 (fun v w => (∃ c1 q1 h1 v1, w = mW c1 q1 t b k h1 v1 ∧ mI c1 q1 t b k h1 v1 (T + 1)) ∧ ∃ z : Int, v = some (ni z) ∧ True) (fun _ _ => False)) 7 0 0 0 0 40 [some (.ref 0), some (ni i), some (ni a), some (ni o), some (nl r), none, some (ni j)] [] (mW c q t b k h 0) := by
    intro n9
    induction n9 with
    | zero => intro r j hm9 q1 q2 q3 q4 q5 q6 q7; exfalso; omega
    | succ n9 ih =>
      intro r j hm9 q1 q2 q3 q4 q5 q6 q7
      have Iv : (0 : Int) ≤ 0 ∧ (0 : Int) ≤ 2 := by omega
      refine ne_iload X dX3_power_40 rfl ?_
      refine ne_iload_n X dX3_power_42 rfl ?_
      refine ne_icmp_ge (tgt := 64) X dX3_power_43 rfl (by omega) (by omega) (fun b43 => ?_) (fun b43 => ?_)
      · refine ne_aload_n X dX3_power_64 rfl ?_
        refine ne_iload_n X dX3_power_65 rfl ?_
        refine ne_lload X dX3_power_66 rfl ?_
        refine ne_iload_n X dX3_power_68 rfl ?_
        refine ne_aload_n X dX3_power_69 rfl ?_
        refine ne_getf X dX3_power_70 nw_fX3_15 rfl rfl ?_
        refine ne_iload_n X dX3_power_73 rfl ?_
        refine ne_ialdR X dX3_power_74 rfl (by omega) Iq (fun v74 e74 f74 u74 => ?_)
        have m75 := ne_mul a v74 3 3 (by omega) (by omega)
        have m76 : 0 ≤ a * v74 := Int.mul_nonneg (by omega) (by omega)
        refine ne_imul X dX3_power_75 ?_
        refine ne_callV X nw_Tg (me_X3_come l hl c q t b k h 0 T (by exact ⟨Ic, Iq, It, Ib, Itb, Igb, Ik, Ih, Iv⟩) (by omega) _ _ _ (by omega) (by omega) (by omega)) nw_yX3_come nw_mX3_76 nw_iX3_come nw_eX3_come (ci := 5) rfl rfl rfl dX3_power_76 rfl rfl (by decide) (by decide) (by first | decide | omega) (by first | decide | omega) (Nat.le_of_ble_eq_true rfl) rfl rfl (Nat.le_of_ble_eq_true rfl) ?_ ?_
        rotate_left
        · rintro E9 w9 h9; exact h9.elim
        rintro v76 w76 ⟨c76, q76, h76, rfl, Ic, Iq, Ih, z76, rfl, g76, k76⟩
        exact ne_iret X hr (by first | rfl | decide | rfl) dX3_power_79 ⟨⟨_, _, _, _, rfl, Ic, Iq, It, Ib, Itb, Igb, Ik, ne_rg_mono Ih (by omega) (by omega), Iv⟩, _, rfl, trivial⟩
      · refine ne_lload X dX3_power_46 rfl ?_
        refine ne_aload_n X dX3_power_48 rfl ?_
        refine ne_getf X dX3_power_49 nw_fX3_9 rfl rfl ?_
        refine ne_iload_n X dX3_power_52 rfl ?_
        refine ne_ialdR X dX3_power_53 rfl (by omega) Ic (fun v53 e53 f53 u53 => ?_)
        refine ne_i2l (by omega) X dX3_power_54 ?_
        refine ne_lmul X dX3_power_55 ?_
        refine ne_wrapL (fun z55 l55 r55 q55 => ?_)
        refine ne_lstore X dX3_power_56 (by decide) ?_
        refine ne_iinc X dX3_power_58 rfl (by decide) ?_
        refine ne_ll (L' := [some (.ref 0), some (ni _), some (ni _), some (ni _), some (nl _), none, some (ni _)]) rfl ?_
        refine ne_goto (tgt := 40) X dX3_power_61 rfl ?_
        exact ih _ _ (by omega) (by omega) (by omega) (by omega) (by omega) (by omega) (by omega) (by omega)
  refine ne_aload_n X dX3_power_0 rfl ?_
  refine ne_iload_n X dX3_power_1 rfl ?_
  refine ne_callS X nw_Tg (me_X3_isNoCell l hl _ _ (by omega)) nw_yX3_isNoCell nw_mX3_66 nw_sX3_isNoCell dX3_power_2 rfl rfl (by decide) (by decide) (by first | decide | omega) (by first | decide | omega) (Nat.le_of_ble_eq_true rfl) rfl rfl (Nat.le_of_ble_eq_true rfl) ?_ ?_
  rotate_left
  · rintro E9 w9 h9; exact h9.elim
  rintro v2 w2 ⟨rfl, z2, rfl, g2⟩
  refine ne_if_ne (tgt := 15) X dX3_power_5 rfl (by omega) (fun b5 => ?_) (fun b5 => ?_)
  · refine ne_iconst X dX3_power_15 ?_
    refine ne_goto (tgt := 20) X dX3_power_16 rfl ?_
    refine ne_iload_n X dX3_power_20 rfl ?_
    refine ne_iconst X dX3_power_21 ?_
    refine ne_iconst X dX3_power_22 ?_
    refine ne_callS X nw_Tg (me_X3_isOut l hl _ _ _ _ (by omega) (by omega) (by omega)) nw_yX3_isOut nw_mX3_34 nw_sX3_isOut dX3_power_23 rfl rfl (by decide) (by decide) (by first | decide | omega) (by first | decide | omega) (Nat.le_of_ble_eq_true rfl) rfl rfl (Nat.le_of_ble_eq_true rfl) ?_ ?_
    rotate_left
    · rintro E9 w9 h9; exact h9.elim
    rintro v23 w23 ⟨rfl, z23, rfl, g23⟩
    refine ne_callV X nw_Tg (me_X3_refuse l hl c q t b k h vt T (by exact ⟨Ic, Iq, It, Ib, Itb, Igb, Ik, Ih, Iv⟩) (by omega) _ _ (by omega) (by omega)) nw_yX3_refuse nw_mX3_72 nw_iX3_refuse nw_eX3_refuse (ci := 5) rfl rfl rfl dX3_power_26 rfl rfl (by decide) (by decide) (by first | decide | omega) (by first | decide | omega) (Nat.le_of_ble_eq_true rfl) rfl rfl (Nat.le_of_ble_eq_true rfl) ?_ ?_
    rotate_left
    · rintro E9 w9 h9; exact h9.elim
    rintro v26 w26 ⟨u26, rfl, Iv, z26, rfl, g26⟩
    refine ne_if_eq (tgt := 34) X dX3_power_29 rfl (by omega) (fun b29 => ?_) (fun b29 => ?_)
    · exfalso; omega
    · refine ne_iconst X dX3_power_32 ?_
      exact ne_iret X hr (by first | rfl | decide | rfl) dX3_power_33 ⟨⟨_, _, _, _, rfl, Ic, Iq, It, Ib, Itb, Igb, Ik, ne_rg_mono Ih (by omega) (by omega), Iv⟩, _, rfl, trivial⟩
  · refine ne_iload_n X dX3_power_8 rfl ?_
    refine ne_callS X nw_Tg (me_X3_isNoCell l hl _ _ (by omega)) nw_yX3_isNoCell nw_mX3_66 nw_sX3_isNoCell dX3_power_9 rfl rfl (by decide) (by decide) (by first | decide | omega) (by first | decide | omega) (Nat.le_of_ble_eq_true rfl) rfl rfl (Nat.le_of_ble_eq_true rfl) ?_ ?_
    rotate_left
    · rintro E9 w9 h9; exact h9.elim
    rintro v9 w9 ⟨rfl, z9, rfl, g9⟩
    refine ne_if_eq (tgt := 19) X dX3_power_12 rfl (by omega) (fun b12 => ?_) (fun b12 => ?_)
    · refine ne_iconst X dX3_power_19 ?_
      refine ne_iload_n X dX3_power_20 rfl ?_
      refine ne_iconst X dX3_power_21 ?_
      refine ne_iconst X dX3_power_22 ?_
      refine ne_callS X nw_Tg (me_X3_isOut l hl _ _ _ _ (by omega) (by omega) (by omega)) nw_yX3_isOut nw_mX3_34 nw_sX3_isOut dX3_power_23 rfl rfl (by decide) (by decide) (by first | decide | omega) (by first | decide | omega) (Nat.le_of_ble_eq_true rfl) rfl rfl (Nat.le_of_ble_eq_true rfl) ?_ ?_
      rotate_left
      · rintro E9 w9 h9; exact h9.elim
      rintro v23 w23 ⟨rfl, z23, rfl, g23⟩
      refine ne_callV X nw_Tg (me_X3_refuse l hl c q t b k h vt T (by exact ⟨Ic, Iq, It, Ib, Itb, Igb, Ik, Ih, Iv⟩) (by omega) _ _ (by omega) (by omega)) nw_yX3_refuse nw_mX3_72 nw_iX3_refuse nw_eX3_refuse (ci := 5) rfl rfl rfl dX3_power_26 rfl rfl (by decide) (by decide) (by first | decide | omega) (by first | decide | omega) (Nat.le_of_ble_eq_true rfl) rfl rfl (Nat.le_of_ble_eq_true rfl) ?_ ?_
      rotate_left
      · rintro E9 w9 h9; exact h9.elim
      rintro v26 w26 ⟨u26, rfl, Iv, z26, rfl, g26⟩
      refine ne_if_eq (tgt := 34) X dX3_power_29 rfl (by omega) (fun b29 => ?_) (fun b29 => ?_)
      · have hk9 : (((0 ≤ i ∧ i < 4 ∧ 0 ≤ o ∧ o < 4) ∧ 0 ≤ a ∧ a ≤ 3)) ∧ u26 = 0 := by omega
        try clear g2
        try clear b5
        try clear g9
        try clear b12
        try clear g23
        try clear g26
        try clear b29
        refine ne_lconst (z := 1) (by decide) X dX3_power_34 ?_
        refine ne_lstore X dX3_power_35 (by decide) ?_
        refine ne_iconst X dX3_power_37 ?_
        refine ne_istore X dX3_power_38 (by decide) ?_
        refine ne_ll (L' := [some (.ref 0), some (ni _), some (ni _), some (ni _), some (nl _), none, some (ni _)]) rfl ?_
        obtain rfl : u26 = 0 := by omega
        exact lp40 _ 1 0 (Nat.lt_succ_self _) (by omega) (by omega) (by omega) (by omega) (by omega) (by omega) (by omega)
      · refine ne_iconst X dX3_power_32 ?_
        exact ne_iret X hr (by first | rfl | decide | rfl) dX3_power_33 ⟨⟨_, _, _, _, rfl, Ic, Iq, It, Ib, Itb, Igb, Ik, ne_rg_mono Ih (by omega) (by omega), Iv⟩, _, rfl, trivial⟩
    · refine ne_iconst X dX3_power_15 ?_
      refine ne_goto (tgt := 20) X dX3_power_16 rfl ?_
      refine ne_iload_n X dX3_power_20 rfl ?_
      refine ne_iconst X dX3_power_21 ?_
      refine ne_iconst X dX3_power_22 ?_
      refine ne_callS X nw_Tg (me_X3_isOut l hl _ _ _ _ (by omega) (by omega) (by omega)) nw_yX3_isOut nw_mX3_34 nw_sX3_isOut dX3_power_23 rfl rfl (by decide) (by decide) (by first | decide | omega) (by first | decide | omega) (Nat.le_of_ble_eq_true rfl) rfl rfl (Nat.le_of_ble_eq_true rfl) ?_ ?_
      rotate_left
      · rintro E9 w9 h9; exact h9.elim
      rintro v23 w23 ⟨rfl, z23, rfl, g23⟩
      refine ne_callV X nw_Tg (me_X3_refuse l hl c q t b k h vt T (by exact ⟨Ic, Iq, It, Ib, Itb, Igb, Ik, Ih, Iv⟩) (by omega) _ _ (by omega) (by omega)) nw_yX3_refuse nw_mX3_72 nw_iX3_refuse nw_eX3_refuse (ci := 5) rfl rfl rfl dX3_power_26 rfl rfl (by decide) (by decide) (by first | decide | omega) (by first | decide | omega) (Nat.le_of_ble_eq_true rfl) rfl rfl (Nat.le_of_ble_eq_true rfl) ?_ ?_
      rotate_left
      · rintro E9 w9 h9; exact h9.elim
      rintro v26 w26 ⟨u26, rfl, Iv, z26, rfl, g26⟩
      refine ne_if_eq (tgt := 34) X dX3_power_29 rfl (by omega) (fun b29 => ?_) (fun b29 => ?_)
      · exfalso; omega
      · refine ne_iconst X dX3_power_32 ?_
        exact ne_iret X hr (by first | rfl | decide | rfl) dX3_power_33 ⟨⟨_, _, _, _, rfl, Ic, Iq, It, Ib, Itb, Igb, Ik, ne_rg_mono Ih (by omega) (by omega), Iv⟩, _, rfl, trivial⟩
set_option maxRecDepth 100000 in
set_option maxHeartbeats 4000000 in
theorem me_X3_divide (l : Launch) (hl : l.stackTraces = false) (c q t b k h : Nat → Int) (vt T : Int) (hI : mI c q t b k h vt T) (hT : 0 ≤ T ∧ T ≤ 1000) (i : Int) (j : Int) (p : Int) (w0 : Int) (o : Int) (hi : -2147483648 ≤ i ∧ i < 2147483648) (hj : -2147483648 ≤ j ∧ j < 2147483648) (hp : -2147483648 ≤ p ∧ p < 2147483648) (hw0 : -2147483648 ≤ w0 ∧ w0 < 2147483648) (ho : -2147483648 ≤ o ∧ o < 2147483648)  : ne_M l nw_cl (.code yX3_divide cX3_divide 10 (some .int)) nw_T yX3_divide 9 330 0 0 [.ref 0, ni i, ni j, ni p, ni w0, ni o] (mW c q t b k h vt) (fun v w => (∃ c1 q1 h1 v1, w = mW c1 q1 t b k h1 v1 ∧ mI c1 q1 t b k h1 v1 (T + 1)) ∧ ∃ z : Int, v = some (ni z) ∧ True) (fun _ _ => False) := by
  refine ne_meet (own := RX3) hl rfl (by decide +kernel) (Nat.le_of_ble_eq_true rfl) ?_
  intro D ct A P9 V9 R9 S9 M9 as9 bl9 mt9 C9 ad0 X hr hin ht
  obtain ⟨Ic, Iq, It, Ib, Itb, Igb, Ik, Ih, Iv⟩ := hI
  refine ne_aload_n X dX3_divide_0 rfl ?_
  refine ne_aload_n X dX3_divide_1 rfl ?_
  refine ne_iload_n X dX3_divide_2 rfl ?_
  refine ne_iload_n X dX3_divide_3 rfl ?_
  refine ne_iload X dX3_divide_4 rfl ?_
  refine ne_callV X nw_Tg (me_X3_areNoCells l hl c q t b k h vt T (by exact ⟨Ic, Iq, It, Ib, Itb, Igb, Ik, Ih, Iv⟩) (by omega) _ _ _ (by omega) (by omega) (by omega)) nw_yX3_areNoCells nw_mX3_80 nw_iX3_areNoCells nw_eX3_areNoCells (ci := 5) rfl rfl rfl dX3_divide_6 rfl rfl (by decide) (by decide) (by first | decide | omega) (by first | decide | omega) (Nat.le_of_ble_eq_true rfl) rfl rfl (Nat.le_of_ble_eq_true rfl) ?_ ?_
  rotate_left
  · rintro E9 w9 h9; exact h9.elim
  rintro v6 w6 ⟨rfl, z6, rfl, g6⟩
  refine ne_iload_n X dX3_divide_9 rfl ?_
  refine ne_iload X dX3_divide_10 rfl ?_
  refine ne_iconst X dX3_divide_12 ?_
  refine ne_callS X nw_Tg (me_X3_isNoCut l hl _ _ _ _ (by omega) (by omega) (by omega)) nw_yX3_isNoCut nw_mX3_87 nw_sX3_isNoCut dX3_divide_13 rfl rfl (by decide) (by decide) (by first | decide | omega) (by first | decide | omega) (Nat.le_of_ble_eq_true rfl) rfl rfl (Nat.le_of_ble_eq_true rfl) ?_ ?_
  rotate_left
  · rintro E9 w9 h9; exact h9.elim
  rintro v13 w13 ⟨rfl, z13, rfl, g13⟩
  refine ne_callV X nw_Tg (me_X3_refuse l hl c q t b k h vt T (by exact ⟨Ic, Iq, It, Ib, Itb, Igb, Ik, Ih, Iv⟩) (by omega) _ _ (by omega) (by omega)) nw_yX3_refuse nw_mX3_72 nw_iX3_refuse nw_eX3_refuse (ci := 5) rfl rfl rfl dX3_divide_16 rfl rfl (by decide) (by decide) (by first | decide | omega) (by first | decide | omega) (Nat.le_of_ble_eq_true rfl) rfl rfl (Nat.le_of_ble_eq_true rfl) ?_ ?_
  rotate_left
  · rintro E9 w9 h9; exact h9.elim
  rintro v16 w16 ⟨u16, rfl, Iv, z16, rfl, g16⟩
  refine ne_if_eq (tgt := 24) X dX3_divide_19 rfl (by omega) (fun b19 => ?_) (fun b19 => ?_)
  · have hk9 : (((0 ≤ i ∧ i < 4 ∧ 0 ≤ j ∧ j < 4 ∧ 0 ≤ o ∧ o < 4) ∧ 0 ≤ p ∧ p ≤ 3 ∧ 0 ≤ w0 ∧ w0 ≤ 7)) ∧ u16 = 0 := by omega
    try clear g6
    try clear g13
    try clear g16
    try clear b19
    refine ne_aload_n X dX3_divide_24 rfl ?_
    refine ne_iload_n X dX3_divide_25 rfl ?_
    refine ne_iconst X dX3_divide_26 ?_
    refine ne_callV X nw_Tg (me_X3_units l hl c q t b k h u16 T (by exact ⟨Ic, Iq, It, Ib, Itb, Igb, Ik, Ih, Iv⟩) (by omega) _ _ (by omega) (by omega)) nw_yX3_units nw_mX3_62 nw_iX3_units nw_eX3_units (ci := 5) rfl rfl rfl dX3_divide_27 rfl rfl (by decide) (by decide) (by first | decide | omega) (by first | decide | omega) (Nat.le_of_ble_eq_true rfl) rfl rfl (Nat.le_of_ble_eq_true rfl) ?_ ?_
    rotate_left
    · rintro E9 w9 h9; exact h9.elim
    rintro v27 w27 ⟨rfl, z27, rfl, g27, k27⟩
    refine ne_lstore X dX3_divide_30 (by decide) ?_
    refine ne_lload X dX3_divide_32 rfl ?_
    refine ne_lconst (z := 0) (by decide) X dX3_divide_34 ?_
    refine ne_lcif_ne (tgt := 44) X dX3_divide_35 dX3_divide_36 rfl (by omega) (by omega) (fun b36 => ?_) (fun b36 => ?_)
    · refine ne_aload_n X dX3_divide_44 rfl ?_
      refine ne_iload_n X dX3_divide_45 rfl ?_
      refine ne_iconst X dX3_divide_46 ?_
      refine ne_callV X nw_Tg (me_X3_units l hl c q t b k h u16 T (by exact ⟨Ic, Iq, It, Ib, Itb, Igb, Ik, Ih, Iv⟩) (by omega) _ _ (by omega) (by omega)) nw_yX3_units nw_mX3_62 nw_iX3_units nw_eX3_units (ci := 5) rfl rfl rfl dX3_divide_47 rfl rfl (by decide) (by decide) (by first | decide | omega) (by first | decide | omega) (Nat.le_of_ble_eq_true rfl) rfl rfl (Nat.le_of_ble_eq_true rfl) ?_ ?_
      rotate_left
      · rintro E9 w9 h9; exact h9.elim
      rintro v47 w47 ⟨rfl, z47, rfl, g47, k47⟩
      refine ne_iload_n X dX3_divide_50 rfl ?_
      refine ne_callS X nw_Tg (me_X3_ten l hl _ _ (by omega)) nw_yX3_ten nw_mX3_58 nw_sX3_ten dX3_divide_51 rfl rfl (by decide) (by decide) (by first | decide | omega) (by first | decide | omega) (Nat.le_of_ble_eq_true rfl) rfl rfl (Nat.le_of_ble_eq_true rfl) ?_ ?_
      rotate_left
      · rintro E9 w9 h9; exact h9.elim
      rintro v51 w51 ⟨rfl, z51, rfl, g51, k51, i51, j51, m51, o51, p51⟩
      have m51 := ne_mul z47 z51 1000000000 1000 (by omega) (by omega)
      refine ne_lmul X dX3_divide_54 ?_
      refine ne_lstore X dX3_divide_55 (by decide) ?_
      refine ne_ll (L' := [some (.ref 0), some (ni _), some (ni _), some (ni _), some (ni _), some (ni _), some (nl _), none, some (nl _), none]) rfl ?_
      refine ne_aload_n X dX3_divide_57 rfl ?_
      refine ne_iload X dX3_divide_58 rfl ?_
      refine ne_lload X dX3_divide_60 rfl ?_
      refine ne_lconst (z := 0) (by decide) X dX3_divide_62 ?_
      refine ne_lcif_ge (tgt := 81) X dX3_divide_63 dX3_divide_64 rfl (by omega) (by omega) (fun b64 => ?_) (fun b64 => ?_)
      · refine ne_lload X dX3_divide_81 rfl ?_
        refine ne_lload X dX3_divide_83 rfl ?_
        refine ne_iload X dX3_divide_85 rfl ?_
        refine ne_callS X nw_Tg (me_X3_rounded l hl _ 1000000000000 _ _ _ (by omega) (by omega) (by omega) (by omega)) nw_yX3_rounded nw_mX3_90 nw_sX3_rounded dX3_divide_87 rfl rfl (by decide) (by decide) (by first | decide | omega) (by first | decide | omega) (Nat.le_of_ble_eq_true rfl) rfl rfl (Nat.le_of_ble_eq_true rfl) ?_ ?_
        rotate_left
        · rintro E9 w9 h9; exact h9.elim
        rintro v87 w87 ⟨rfl, z87, rfl, g87⟩
        refine ne_iload_n X dX3_divide_90 rfl ?_
        refine ne_callV X nw_Tg (me_X3_come l hl c q t b k h u16 T (by exact ⟨Ic, Iq, It, Ib, Itb, Igb, Ik, Ih, Iv⟩) (by omega) _ _ _ (by omega) (by omega) (by omega)) nw_yX3_come nw_mX3_76 nw_iX3_come nw_eX3_come (ci := 5) rfl rfl rfl dX3_divide_91 rfl rfl (by decide) (by decide) (by first | decide | omega) (by first | decide | omega) (Nat.le_of_ble_eq_true rfl) rfl rfl (Nat.le_of_ble_eq_true rfl) ?_ ?_
        rotate_left
        · rintro E9 w9 h9; exact h9.elim
        rintro v91 w91 ⟨c91, q91, h91, rfl, Ic, Iq, Ih, z91, rfl, g91, k91⟩
        exact ne_iret X hr (by first | rfl | decide | rfl) dX3_divide_94 ⟨⟨_, _, _, _, rfl, Ic, Iq, It, Ib, Itb, Igb, Ik, ne_rg_mono Ih (by omega) (by omega), Iv⟩, _, rfl, trivial⟩
      · refine ne_lload X dX3_divide_67 rfl ?_
        refine ne_lneg X dX3_divide_69 ?_
        refine ne_lload X dX3_divide_70 rfl ?_
        refine ne_lneg X dX3_divide_72 ?_
        refine ne_iload X dX3_divide_73 rfl ?_
        refine ne_callS X nw_Tg (me_X3_rounded l hl _ 1000000000000 _ _ _ (by omega) (by omega) (by omega) (by omega)) nw_yX3_rounded nw_mX3_90 nw_sX3_rounded dX3_divide_75 rfl rfl (by decide) (by decide) (by first | decide | omega) (by first | decide | omega) (Nat.le_of_ble_eq_true rfl) rfl rfl (Nat.le_of_ble_eq_true rfl) ?_ ?_
        rotate_left
        · rintro E9 w9 h9; exact h9.elim
        rintro v75 w75 ⟨rfl, z75, rfl, g75⟩
        refine ne_goto (tgt := 90) X dX3_divide_78 rfl ?_
        refine ne_iload_n X dX3_divide_90 rfl ?_
        refine ne_callV X nw_Tg (me_X3_come l hl c q t b k h u16 T (by exact ⟨Ic, Iq, It, Ib, Itb, Igb, Ik, Ih, Iv⟩) (by omega) _ _ _ (by omega) (by omega) (by omega)) nw_yX3_come nw_mX3_76 nw_iX3_come nw_eX3_come (ci := 5) rfl rfl rfl dX3_divide_91 rfl rfl (by decide) (by decide) (by first | decide | omega) (by first | decide | omega) (Nat.le_of_ble_eq_true rfl) rfl rfl (Nat.le_of_ble_eq_true rfl) ?_ ?_
        rotate_left
        · rintro E9 w9 h9; exact h9.elim
        rintro v91 w91 ⟨c91, q91, h91, rfl, Ic, Iq, Ih, z91, rfl, g91, k91⟩
        exact ne_iret X hr (by first | rfl | decide | rfl) dX3_divide_94 ⟨⟨_, _, _, _, rfl, Ic, Iq, It, Ib, Itb, Igb, Ik, ne_rg_mono Ih (by omega) (by omega), Iv⟩, _, rfl, trivial⟩
    · refine ne_aload_n X dX3_divide_39 rfl ?_
      refine ne_callV X nw_Tg (me_X3_nay l hl c q t b k h u16 T (by exact ⟨Ic, Iq, It, Ib, Itb, Igb, Ik, Ih, Iv⟩) (by omega) ) nw_yX3_nay nw_mX3_54 nw_iX3_nay nw_eX3_nay (ci := 5) rfl rfl rfl dX3_divide_40 rfl rfl (by decide) (by decide) (by first | decide | omega) (by first | decide | omega) (Nat.le_of_ble_eq_true rfl) rfl rfl (Nat.le_of_ble_eq_true rfl) ?_ ?_
      rotate_left
      · rintro E9 w9 h9; exact h9.elim
      rintro v40 w40 ⟨h40, rfl, Ih, rfl⟩
      exact ne_iret X hr (by first | rfl | decide | rfl) dX3_divide_43 ⟨⟨_, _, _, _, rfl, Ic, Iq, It, Ib, Itb, Igb, Ik, ne_rg_mono Ih (by omega) (by omega), Iv⟩, _, rfl, trivial⟩
  · refine ne_iconst X dX3_divide_22 ?_
    exact ne_iret X hr (by first | rfl | decide | rfl) dX3_divide_23 ⟨⟨_, _, _, _, rfl, Ic, Iq, It, Ib, Itb, Igb, Ik, ne_rg_mono Ih (by omega) (by omega), Iv⟩, _, rfl, trivial⟩
set_option maxRecDepth 100000 in
set_option maxHeartbeats 4000000 in
theorem me_X3_share (l : Launch) (hl : l.stackTraces = false) (c q t b k h : Nat → Int) (vt T : Int) (hI : mI c q t b k h vt T) (hT : 0 ≤ T ∧ T ≤ 1000) (i : Int) (a : Int) (o : Int) (hi : -2147483648 ≤ i ∧ i < 2147483648) (ha : -2147483648 ≤ a ∧ a < 2147483648) (ho : -2147483648 ≤ o ∧ o < 2147483648)  : ne_M l nw_cl (.code yX3_share cX3_share 5 (some .int)) nw_T yX3_share 9 330 0 0 [.ref 0, ni i, ni a, ni o] (mW c q t b k h vt) (fun v w => (∃ c1 q1 h1 v1, w = mW c1 q1 t b k h1 v1 ∧ mI c1 q1 t b k h1 v1 (T + 1)) ∧ ∃ z : Int, v = some (ni z) ∧ True) (fun _ _ => False) := by
  refine ne_meet (own := RX3) hl rfl (by decide +kernel) (Nat.le_of_ble_eq_true rfl) ?_
  intro D ct A P9 V9 R9 S9 M9 as9 bl9 mt9 C9 ad0 X hr hin ht
  obtain ⟨Ic, Iq, It, Ib, Itb, Igb, Ik, Ih, Iv⟩ := hI
  have lp53 : ∀ (n9 : Nat) (j : Int), (4 - j).toNat < n9 → (0 ≤ j) → (j ≤ 4) → (-99 ≤ a ∧ a ≤ 99 ∧ a ≠ 0) → (0 ≤ i ∧ i < 4) → (0 ≤ o ∧ o < 4) → ne_G nw_cl D ct A 7 ad0 P9 l V9 R9 S9 M9 as9 bl9 mt9 C9 (ne_O nw_cl D ct ad0 7 A bl9 as9 S9 0 0 (fun v w => (∃ c1 q1 h1 v1, w = mW c1 q1 t b k h1 v1 ∧ mI c1 q1 t b k h1 v1 (T + 1)) ∧ ∃ z : Int, v = some (ni z) ∧ True) (fun _ _ => False)) 5 0 0 0 0 53 [some (.ref 0), some (ni i), some (ni a), some (ni o), some (ni j)] [] (mW c q t b k h 0) := by
    intro n9
    induction n9 with
    | zero => intro j hm9 q1 q2 q5 q6 q7; exfalso; omega
    | succ n9 ih =>
      intro j hm9 q1 q2 q5 q6 q7
      have Iv : (0 : Int) ≤ 0 ∧ (0 : Int) ≤ 2 := by omega
      refine ne_iload X dX3_share_53 rfl ?_
      refine ne_iconst X dX3_share_55 ?_
      refine ne_icmp_gt (tgt := 98) X dX3_share_56 rfl (by omega) (by omega) (fun b56 => ?_) (fun b56 => ?_)
      · refine ne_aload_n X dX3_share_98 rfl ?_
        refine ne_callV X nw_Tg (me_X3_nay l hl c q t b k h 0 T (by exact ⟨Ic, Iq, It, Ib, Itb, Igb, Ik, Ih, Iv⟩) (by omega) ) nw_yX3_nay nw_mX3_54 nw_iX3_nay nw_eX3_nay (ci := 5) rfl rfl rfl dX3_share_99 rfl rfl (by decide) (by decide) (by first | decide | omega) (by first | decide | omega) (Nat.le_of_ble_eq_true rfl) rfl rfl (Nat.le_of_ble_eq_true rfl) ?_ ?_
        rotate_left
        · rintro E9 w9 h9; exact h9.elim
        rintro v99 w99 ⟨h99, rfl, Ih, rfl⟩
        exact ne_iret X hr (by first | rfl | decide | rfl) dX3_share_102 ⟨⟨_, _, _, _, rfl, Ic, Iq, It, Ib, Itb, Igb, Ik, ne_rg_mono Ih (by omega) (by omega), Iv⟩, _, rfl, trivial⟩
      · refine ne_aload_n X dX3_share_59 rfl ?_
        refine ne_iload_n X dX3_share_60 rfl ?_
        refine ne_iload X dX3_share_61 rfl ?_
        refine ne_callV X nw_Tg (me_X3_units l hl c q t b k h 0 T (by exact ⟨Ic, Iq, It, Ib, Itb, Igb, Ik, Ih, Iv⟩) (by omega) _ _ (by omega) (by omega)) nw_yX3_units nw_mX3_62 nw_iX3_units nw_eX3_units (ci := 5) rfl rfl rfl dX3_share_63 rfl rfl (by decide) (by decide) (by first | decide | omega) (by first | decide | omega) (Nat.le_of_ble_eq_true rfl) rfl rfl (Nat.le_of_ble_eq_true rfl) ?_ ?_
        rotate_left
        · rintro E9 w9 h9; exact h9.elim
        rintro v63 w63 ⟨rfl, z63, rfl, g63, k63⟩
        have t63 := ne_tq z63 a
        refine ne_iload_n X dX3_share_66 rfl ?_
        refine ne_i2l (by omega) X dX3_share_67 ?_
        refine ne_lrem X dX3_share_68 (by omega) (by omega) (by omega) ?_
        refine ne_lconst (z := 0) (by decide) X dX3_share_69 ?_
        refine ne_lcif_ne (tgt := 92) X dX3_share_70 dX3_share_71 rfl (by omega) (by omega) (fun b71 => ?_) (fun b71 => ?_)
        · refine ne_iinc X dX3_share_92 rfl (by decide) ?_
          refine ne_goto (tgt := 53) X dX3_share_95 rfl ?_
          exact ih _ (by omega) (by omega) (by omega) (by omega) (by omega) (by omega)
        · refine ne_aload_n X dX3_share_74 rfl ?_
          refine ne_iload_n X dX3_share_75 rfl ?_
          refine ne_aload_n X dX3_share_76 rfl ?_
          refine ne_iload_n X dX3_share_77 rfl ?_
          refine ne_iload X dX3_share_78 rfl ?_
          refine ne_callV X nw_Tg (me_X3_units l hl c q t b k h 0 T (by exact ⟨Ic, Iq, It, Ib, Itb, Igb, Ik, Ih, Iv⟩) (by omega) _ _ (by omega) (by omega)) nw_yX3_units nw_mX3_62 nw_iX3_units nw_eX3_units (ci := 5) rfl rfl rfl dX3_share_80 rfl rfl (by decide) (by decide) (by first | decide | omega) (by first | decide | omega) (Nat.le_of_ble_eq_true rfl) rfl rfl (Nat.le_of_ble_eq_true rfl) ?_ ?_
          rotate_left
          · rintro E9 w9 h9; exact h9.elim
          rintro v80 w80 ⟨rfl, z80, rfl, g80, k80⟩
          have t80 := ne_tq z80 a
          refine ne_iload_n X dX3_share_83 rfl ?_
          refine ne_i2l (by omega) X dX3_share_84 ?_
          refine ne_ldiv X dX3_share_85 (by omega) (by omega) (by omega) ?_
          refine ne_iload X dX3_share_86 rfl ?_
          refine ne_callV X nw_Tg (me_X3_come l hl c q t b k h 0 T (by exact ⟨Ic, Iq, It, Ib, Itb, Igb, Ik, Ih, Iv⟩) (by omega) _ _ _ (by omega) (by omega) (by omega)) nw_yX3_come nw_mX3_76 nw_iX3_come nw_eX3_come (ci := 5) rfl rfl rfl dX3_share_88 rfl rfl (by decide) (by decide) (by first | decide | omega) (by first | decide | omega) (Nat.le_of_ble_eq_true rfl) rfl rfl (Nat.le_of_ble_eq_true rfl) ?_ ?_
          rotate_left
          · rintro E9 w9 h9; exact h9.elim
          rintro v88 w88 ⟨c88, q88, h88, rfl, Ic, Iq, Ih, z88, rfl, g88, k88⟩
          exact ne_iret X hr (by first | rfl | decide | rfl) dX3_share_91 ⟨⟨_, _, _, _, rfl, Ic, Iq, It, Ib, Itb, Igb, Ik, ne_rg_mono Ih (by omega) (by omega), Iv⟩, _, rfl, trivial⟩
  refine ne_aload_n X dX3_share_0 rfl ?_
  refine ne_iload_n X dX3_share_1 rfl ?_
  refine ne_callS X nw_Tg (me_X3_isNoCell l hl _ _ (by omega)) nw_yX3_isNoCell nw_mX3_66 nw_sX3_isNoCell dX3_share_2 rfl rfl (by decide) (by decide) (by first | decide | omega) (by first | decide | omega) (Nat.le_of_ble_eq_true rfl) rfl rfl (Nat.le_of_ble_eq_true rfl) ?_ ?_
  rotate_left
  · rintro E9 w9 h9; exact h9.elim
  rintro v2 w2 ⟨rfl, z2, rfl, g2⟩
  refine ne_if_ne (tgt := 15) X dX3_share_5 rfl (by omega) (fun b5 => ?_) (fun b5 => ?_)
  · refine ne_iconst X dX3_share_15 ?_
    refine ne_goto (tgt := 20) X dX3_share_16 rfl ?_
    refine ne_iload_n X dX3_share_20 rfl ?_
    refine ne_bipush (v := -99) (by decide) X dX3_share_21 ?_
    refine ne_bipush (v := 99) (by decide) X dX3_share_23 ?_
    refine ne_callS X nw_Tg (me_X3_isOut l hl _ _ _ _ (by omega) (by omega) (by omega)) nw_yX3_isOut nw_mX3_34 nw_sX3_isOut dX3_share_25 rfl rfl (by decide) (by decide) (by first | decide | omega) (by first | decide | omega) (Nat.le_of_ble_eq_true rfl) rfl rfl (Nat.le_of_ble_eq_true rfl) ?_ ?_
    rotate_left
    · rintro E9 w9 h9; exact h9.elim
    rintro v25 w25 ⟨rfl, z25, rfl, g25⟩
    refine ne_callV X nw_Tg (me_X3_refuse l hl c q t b k h vt T (by exact ⟨Ic, Iq, It, Ib, Itb, Igb, Ik, Ih, Iv⟩) (by omega) _ _ (by omega) (by omega)) nw_yX3_refuse nw_mX3_72 nw_iX3_refuse nw_eX3_refuse (ci := 5) rfl rfl rfl dX3_share_28 rfl rfl (by decide) (by decide) (by first | decide | omega) (by first | decide | omega) (Nat.le_of_ble_eq_true rfl) rfl rfl (Nat.le_of_ble_eq_true rfl) ?_ ?_
    rotate_left
    · rintro E9 w9 h9; exact h9.elim
    rintro v28 w28 ⟨u28, rfl, Iv, z28, rfl, g28⟩
    refine ne_if_eq (tgt := 36) X dX3_share_31 rfl (by omega) (fun b31 => ?_) (fun b31 => ?_)
    · exfalso; omega
    · refine ne_iconst X dX3_share_34 ?_
      exact ne_iret X hr (by first | rfl | decide | rfl) dX3_share_35 ⟨⟨_, _, _, _, rfl, Ic, Iq, It, Ib, Itb, Igb, Ik, ne_rg_mono Ih (by omega) (by omega), Iv⟩, _, rfl, trivial⟩
  · refine ne_iload_n X dX3_share_8 rfl ?_
    refine ne_callS X nw_Tg (me_X3_isNoCell l hl _ _ (by omega)) nw_yX3_isNoCell nw_mX3_66 nw_sX3_isNoCell dX3_share_9 rfl rfl (by decide) (by decide) (by first | decide | omega) (by first | decide | omega) (Nat.le_of_ble_eq_true rfl) rfl rfl (Nat.le_of_ble_eq_true rfl) ?_ ?_
    rotate_left
    · rintro E9 w9 h9; exact h9.elim
    rintro v9 w9 ⟨rfl, z9, rfl, g9⟩
    refine ne_if_eq (tgt := 19) X dX3_share_12 rfl (by omega) (fun b12 => ?_) (fun b12 => ?_)
    · refine ne_iconst X dX3_share_19 ?_
      refine ne_iload_n X dX3_share_20 rfl ?_
      refine ne_bipush (v := -99) (by decide) X dX3_share_21 ?_
      refine ne_bipush (v := 99) (by decide) X dX3_share_23 ?_
      refine ne_callS X nw_Tg (me_X3_isOut l hl _ _ _ _ (by omega) (by omega) (by omega)) nw_yX3_isOut nw_mX3_34 nw_sX3_isOut dX3_share_25 rfl rfl (by decide) (by decide) (by first | decide | omega) (by first | decide | omega) (Nat.le_of_ble_eq_true rfl) rfl rfl (Nat.le_of_ble_eq_true rfl) ?_ ?_
      rotate_left
      · rintro E9 w9 h9; exact h9.elim
      rintro v25 w25 ⟨rfl, z25, rfl, g25⟩
      refine ne_callV X nw_Tg (me_X3_refuse l hl c q t b k h vt T (by exact ⟨Ic, Iq, It, Ib, Itb, Igb, Ik, Ih, Iv⟩) (by omega) _ _ (by omega) (by omega)) nw_yX3_refuse nw_mX3_72 nw_iX3_refuse nw_eX3_refuse (ci := 5) rfl rfl rfl dX3_share_28 rfl rfl (by decide) (by decide) (by first | decide | omega) (by first | decide | omega) (Nat.le_of_ble_eq_true rfl) rfl rfl (Nat.le_of_ble_eq_true rfl) ?_ ?_
      rotate_left
      · rintro E9 w9 h9; exact h9.elim
      rintro v28 w28 ⟨u28, rfl, Iv, z28, rfl, g28⟩
      refine ne_if_eq (tgt := 36) X dX3_share_31 rfl (by omega) (fun b31 => ?_) (fun b31 => ?_)
      · have hk9 : (((0 ≤ i ∧ i < 4 ∧ 0 ≤ o ∧ o < 4) ∧ -99 ≤ a ∧ a ≤ 99)) ∧ u28 = 0 := by omega
        try clear g2
        try clear b5
        try clear g9
        try clear b12
        try clear g25
        try clear g28
        try clear b31
        refine ne_iload_n X dX3_share_36 rfl ?_
        refine ne_if_ne (tgt := 45) X dX3_share_37 rfl (by omega) (fun b37 => ?_) (fun b37 => ?_)
        · refine ne_aload_n X dX3_share_45 rfl ?_
          refine ne_getf X dX3_share_46 nw_fX3_15 rfl rfl ?_
          refine ne_iload_n X dX3_share_49 rfl ?_
          refine ne_ialdR X dX3_share_50 rfl (by omega) Iq (fun v50 e50 f50 u50 => ?_)
          refine ne_istore X dX3_share_51 (by decide) ?_
          obtain rfl : u28 = 0 := by omega
          exact lp53 _ _ (Nat.lt_succ_self _) (by omega) (by omega) (by omega) (by omega) (by omega)
        · refine ne_aload_n X dX3_share_40 rfl ?_
          refine ne_callV X nw_Tg (me_X3_nay l hl c q t b k h u28 T (by exact ⟨Ic, Iq, It, Ib, Itb, Igb, Ik, Ih, Iv⟩) (by omega) ) nw_yX3_nay nw_mX3_54 nw_iX3_nay nw_eX3_nay (ci := 5) rfl rfl rfl dX3_share_41 rfl rfl (by decide) (by decide) (by first | decide | omega) (by first | decide | omega) (Nat.le_of_ble_eq_true rfl) rfl rfl (Nat.le_of_ble_eq_true rfl) ?_ ?_
          rotate_left
          · rintro E9 w9 h9; exact h9.elim
          rintro v41 w41 ⟨h41, rfl, Ih, rfl⟩
          exact ne_iret X hr (by first | rfl | decide | rfl) dX3_share_44 ⟨⟨_, _, _, _, rfl, Ic, Iq, It, Ib, Itb, Igb, Ik, ne_rg_mono Ih (by omega) (by omega), Iv⟩, _, rfl, trivial⟩
      · refine ne_iconst X dX3_share_34 ?_
        exact ne_iret X hr (by first | rfl | decide | rfl) dX3_share_35 ⟨⟨_, _, _, _, rfl, Ic, Iq, It, Ib, Itb, Igb, Ik, ne_rg_mono Ih (by omega) (by omega), Iv⟩, _, rfl, trivial⟩
    · refine ne_iconst X dX3_share_15 ?_
      refine ne_goto (tgt := 20) X dX3_share_16 rfl ?_
      refine ne_iload_n X dX3_share_20 rfl ?_
      refine ne_bipush (v := -99) (by decide) X dX3_share_21 ?_
      refine ne_bipush (v := 99) (by decide) X dX3_share_23 ?_
      refine ne_callS X nw_Tg (me_X3_isOut l hl _ _ _ _ (by omega) (by omega) (by omega)) nw_yX3_isOut nw_mX3_34 nw_sX3_isOut dX3_share_25 rfl rfl (by decide) (by decide) (by first | decide | omega) (by first | decide | omega) (Nat.le_of_ble_eq_true rfl) rfl rfl (Nat.le_of_ble_eq_true rfl) ?_ ?_
      rotate_left
      · rintro E9 w9 h9; exact h9.elim
      rintro v25 w25 ⟨rfl, z25, rfl, g25⟩
      refine ne_callV X nw_Tg (me_X3_refuse l hl c q t b k h vt T (by exact ⟨Ic, Iq, It, Ib, Itb, Igb, Ik, Ih, Iv⟩) (by omega) _ _ (by omega) (by omega)) nw_yX3_refuse nw_mX3_72 nw_iX3_refuse nw_eX3_refuse (ci := 5) rfl rfl rfl dX3_share_28 rfl rfl (by decide) (by decide) (by first | decide | omega) (by first | decide | omega) (Nat.le_of_ble_eq_true rfl) rfl rfl (Nat.le_of_ble_eq_true rfl) ?_ ?_
      rotate_left
      · rintro E9 w9 h9; exact h9.elim
      rintro v28 w28 ⟨u28, rfl, Iv, z28, rfl, g28⟩
      refine ne_if_eq (tgt := 36) X dX3_share_31 rfl (by omega) (fun b31 => ?_) (fun b31 => ?_)
      · exfalso; omega
      · refine ne_iconst X dX3_share_34 ?_
        exact ne_iret X hr (by first | rfl | decide | rfl) dX3_share_35 ⟨⟨_, _, _, _, rfl, Ic, Iq, It, Ib, Itb, Igb, Ik, ne_rg_mono Ih (by omega) (by omega), Iv⟩, _, rfl, trivial⟩
set_option maxRecDepth 100000 in
set_option maxHeartbeats 4000000 in
theorem me_X3_whole (l : Launch) (hl : l.stackTraces = false) (c q t b k h : Nat → Int) (vt T : Int) (hI : mI c q t b k h vt T) (hT : 0 ≤ T ∧ T ≤ 1000) (i : Int) (a : Int) (o : Int) (hi : -2147483648 ≤ i ∧ i < 2147483648) (ha : -2147483648 ≤ a ∧ a < 2147483648) (ho : -2147483648 ≤ o ∧ o < 2147483648)  : ne_M l nw_cl (.code yX3_whole cX3_whole 4 (some .int)) nw_T yX3_whole 9 330 0 0 [.ref 0, ni i, ni a, ni o] (mW c q t b k h vt) (fun v w => (∃ c1 q1 h1 v1, w = mW c1 q1 t b k h1 v1 ∧ mI c1 q1 t b k h1 v1 (T + 1)) ∧ ∃ z : Int, v = some (ni z) ∧ True) (fun _ _ => False) := by
  refine ne_meet (own := RX3) hl rfl (by decide +kernel) (Nat.le_of_ble_eq_true rfl) ?_
  intro D ct A P9 V9 R9 S9 M9 as9 bl9 mt9 C9 ad0 X hr hin ht
  obtain ⟨Ic, Iq, It, Ib, Itb, Igb, Ik, Ih, Iv⟩ := hI
  refine ne_aload_n X dX3_whole_0 rfl ?_
  refine ne_iload_n X dX3_whole_1 rfl ?_
  refine ne_callS X nw_Tg (me_X3_isNoCell l hl _ _ (by omega)) nw_yX3_isNoCell nw_mX3_66 nw_sX3_isNoCell dX3_whole_2 rfl rfl (by decide) (by decide) (by first | decide | omega) (by first | decide | omega) (Nat.le_of_ble_eq_true rfl) rfl rfl (Nat.le_of_ble_eq_true rfl) ?_ ?_
  rotate_left
  · rintro E9 w9 h9; exact h9.elim
  rintro v2 w2 ⟨rfl, z2, rfl, g2⟩
  refine ne_if_ne (tgt := 15) X dX3_whole_5 rfl (by omega) (fun b5 => ?_) (fun b5 => ?_)
  · refine ne_iconst X dX3_whole_15 ?_
    refine ne_goto (tgt := 20) X dX3_whole_16 rfl ?_
    refine ne_iload_n X dX3_whole_20 rfl ?_
    refine ne_bipush (v := -99) (by decide) X dX3_whole_21 ?_
    refine ne_bipush (v := 99) (by decide) X dX3_whole_23 ?_
    refine ne_callS X nw_Tg (me_X3_isOut l hl _ _ _ _ (by omega) (by omega) (by omega)) nw_yX3_isOut nw_mX3_34 nw_sX3_isOut dX3_whole_25 rfl rfl (by decide) (by decide) (by first | decide | omega) (by first | decide | omega) (Nat.le_of_ble_eq_true rfl) rfl rfl (Nat.le_of_ble_eq_true rfl) ?_ ?_
    rotate_left
    · rintro E9 w9 h9; exact h9.elim
    rintro v25 w25 ⟨rfl, z25, rfl, g25⟩
    refine ne_callV X nw_Tg (me_X3_refuse l hl c q t b k h vt T (by exact ⟨Ic, Iq, It, Ib, Itb, Igb, Ik, Ih, Iv⟩) (by omega) _ _ (by omega) (by omega)) nw_yX3_refuse nw_mX3_72 nw_iX3_refuse nw_eX3_refuse (ci := 5) rfl rfl rfl dX3_whole_28 rfl rfl (by decide) (by decide) (by first | decide | omega) (by first | decide | omega) (Nat.le_of_ble_eq_true rfl) rfl rfl (Nat.le_of_ble_eq_true rfl) ?_ ?_
    rotate_left
    · rintro E9 w9 h9; exact h9.elim
    rintro v28 w28 ⟨u28, rfl, Iv, z28, rfl, g28⟩
    refine ne_if_eq (tgt := 36) X dX3_whole_31 rfl (by omega) (fun b31 => ?_) (fun b31 => ?_)
    · exfalso; omega
    · refine ne_iconst X dX3_whole_34 ?_
      exact ne_iret X hr (by first | rfl | decide | rfl) dX3_whole_35 ⟨⟨_, _, _, _, rfl, Ic, Iq, It, Ib, Itb, Igb, Ik, ne_rg_mono Ih (by omega) (by omega), Iv⟩, _, rfl, trivial⟩
  · refine ne_iload_n X dX3_whole_8 rfl ?_
    refine ne_callS X nw_Tg (me_X3_isNoCell l hl _ _ (by omega)) nw_yX3_isNoCell nw_mX3_66 nw_sX3_isNoCell dX3_whole_9 rfl rfl (by decide) (by decide) (by first | decide | omega) (by first | decide | omega) (Nat.le_of_ble_eq_true rfl) rfl rfl (Nat.le_of_ble_eq_true rfl) ?_ ?_
    rotate_left
    · rintro E9 w9 h9; exact h9.elim
    rintro v9 w9 ⟨rfl, z9, rfl, g9⟩
    refine ne_if_eq (tgt := 19) X dX3_whole_12 rfl (by omega) (fun b12 => ?_) (fun b12 => ?_)
    · refine ne_iconst X dX3_whole_19 ?_
      refine ne_iload_n X dX3_whole_20 rfl ?_
      refine ne_bipush (v := -99) (by decide) X dX3_whole_21 ?_
      refine ne_bipush (v := 99) (by decide) X dX3_whole_23 ?_
      refine ne_callS X nw_Tg (me_X3_isOut l hl _ _ _ _ (by omega) (by omega) (by omega)) nw_yX3_isOut nw_mX3_34 nw_sX3_isOut dX3_whole_25 rfl rfl (by decide) (by decide) (by first | decide | omega) (by first | decide | omega) (Nat.le_of_ble_eq_true rfl) rfl rfl (Nat.le_of_ble_eq_true rfl) ?_ ?_
      rotate_left
      · rintro E9 w9 h9; exact h9.elim
      rintro v25 w25 ⟨rfl, z25, rfl, g25⟩
      refine ne_callV X nw_Tg (me_X3_refuse l hl c q t b k h vt T (by exact ⟨Ic, Iq, It, Ib, Itb, Igb, Ik, Ih, Iv⟩) (by omega) _ _ (by omega) (by omega)) nw_yX3_refuse nw_mX3_72 nw_iX3_refuse nw_eX3_refuse (ci := 5) rfl rfl rfl dX3_whole_28 rfl rfl (by decide) (by decide) (by first | decide | omega) (by first | decide | omega) (Nat.le_of_ble_eq_true rfl) rfl rfl (Nat.le_of_ble_eq_true rfl) ?_ ?_
      rotate_left
      · rintro E9 w9 h9; exact h9.elim
      rintro v28 w28 ⟨u28, rfl, Iv, z28, rfl, g28⟩
      refine ne_if_eq (tgt := 36) X dX3_whole_31 rfl (by omega) (fun b31 => ?_) (fun b31 => ?_)
      · have hk9 : (((0 ≤ i ∧ i < 4 ∧ 0 ≤ o ∧ o < 4) ∧ -99 ≤ a ∧ a ≤ 99)) ∧ u28 = 0 := by omega
        try clear g2
        try clear b5
        try clear g9
        try clear b12
        try clear g25
        try clear g28
        try clear b31
        refine ne_iload_n X dX3_whole_36 rfl ?_
        refine ne_if_ne (tgt := 47) X dX3_whole_37 rfl (by omega) (fun b37 => ?_) (fun b37 => ?_)
        · refine ne_aload_n X dX3_whole_47 rfl ?_
          refine ne_iload_n X dX3_whole_48 rfl ?_
          refine ne_aload_n X dX3_whole_49 rfl ?_
          refine ne_iload_n X dX3_whole_50 rfl ?_
          refine ne_iload_n X dX3_whole_51 rfl ?_
          refine ne_callV X nw_Tg (me_X3_wholeOf l hl c q t b k h u28 T (by exact ⟨Ic, Iq, It, Ib, Itb, Igb, Ik, Ih, Iv⟩) (by omega) _ _ (by omega) (by omega) (by omega)) nw_yX3_wholeOf nw_mX3_94 nw_iX3_wholeOf nw_eX3_wholeOf (ci := 5) rfl rfl rfl dX3_whole_52 rfl rfl (by decide) (by decide) (by first | decide | omega) (by first | decide | omega) (Nat.le_of_ble_eq_true rfl) rfl rfl (Nat.le_of_ble_eq_true rfl) ?_ ?_
          rotate_left
          · rintro E9 w9 h9; exact h9.elim
          rintro v52 w52 ⟨rfl, z52, rfl, g52, k52⟩
          refine ne_iconst X dX3_whole_55 ?_
          refine ne_callV X nw_Tg (me_X3_come l hl c q t b k h u28 T (by exact ⟨Ic, Iq, It, Ib, Itb, Igb, Ik, Ih, Iv⟩) (by omega) _ _ _ (by omega) (by omega) (by omega)) nw_yX3_come nw_mX3_76 nw_iX3_come nw_eX3_come (ci := 5) rfl rfl rfl dX3_whole_56 rfl rfl (by decide) (by decide) (by first | decide | omega) (by first | decide | omega) (Nat.le_of_ble_eq_true rfl) rfl rfl (Nat.le_of_ble_eq_true rfl) ?_ ?_
          rotate_left
          · rintro E9 w9 h9; exact h9.elim
          rintro v56 w56 ⟨c56, q56, h56, rfl, Ic, Iq, Ih, z56, rfl, g56, k56⟩
          exact ne_iret X hr (by first | rfl | decide | rfl) dX3_whole_59 ⟨⟨_, _, _, _, rfl, Ic, Iq, It, Ib, Itb, Igb, Ik, ne_rg_mono Ih (by omega) (by omega), Iv⟩, _, rfl, trivial⟩
        · refine ne_aload_n X dX3_whole_40 rfl ?_
          refine ne_callV X nw_Tg (me_X3_nay l hl c q t b k h u28 T (by exact ⟨Ic, Iq, It, Ib, Itb, Igb, Ik, Ih, Iv⟩) (by omega) ) nw_yX3_nay nw_mX3_54 nw_iX3_nay nw_eX3_nay (ci := 5) rfl rfl rfl dX3_whole_41 rfl rfl (by decide) (by decide) (by first | decide | omega) (by first | decide | omega) (Nat.le_of_ble_eq_true rfl) rfl rfl (Nat.le_of_ble_eq_true rfl) ?_ ?_
          rotate_left
          · rintro E9 w9 h9; exact h9.elim
          rintro v41 w41 ⟨h41, rfl, Ih, rfl⟩
          refine ne_goto (tgt := 59) X dX3_whole_44 rfl ?_
          exact ne_iret X hr (by first | rfl | decide | rfl) dX3_whole_59 ⟨⟨_, _, _, _, rfl, Ic, Iq, It, Ib, Itb, Igb, Ik, ne_rg_mono Ih (by omega) (by omega), Iv⟩, _, rfl, trivial⟩
      · refine ne_iconst X dX3_whole_34 ?_
        exact ne_iret X hr (by first | rfl | decide | rfl) dX3_whole_35 ⟨⟨_, _, _, _, rfl, Ic, Iq, It, Ib, Itb, Igb, Ik, ne_rg_mono Ih (by omega) (by omega), Iv⟩, _, rfl, trivial⟩
    · refine ne_iconst X dX3_whole_15 ?_
      refine ne_goto (tgt := 20) X dX3_whole_16 rfl ?_
      refine ne_iload_n X dX3_whole_20 rfl ?_
      refine ne_bipush (v := -99) (by decide) X dX3_whole_21 ?_
      refine ne_bipush (v := 99) (by decide) X dX3_whole_23 ?_
      refine ne_callS X nw_Tg (me_X3_isOut l hl _ _ _ _ (by omega) (by omega) (by omega)) nw_yX3_isOut nw_mX3_34 nw_sX3_isOut dX3_whole_25 rfl rfl (by decide) (by decide) (by first | decide | omega) (by first | decide | omega) (Nat.le_of_ble_eq_true rfl) rfl rfl (Nat.le_of_ble_eq_true rfl) ?_ ?_
      rotate_left
      · rintro E9 w9 h9; exact h9.elim
      rintro v25 w25 ⟨rfl, z25, rfl, g25⟩
      refine ne_callV X nw_Tg (me_X3_refuse l hl c q t b k h vt T (by exact ⟨Ic, Iq, It, Ib, Itb, Igb, Ik, Ih, Iv⟩) (by omega) _ _ (by omega) (by omega)) nw_yX3_refuse nw_mX3_72 nw_iX3_refuse nw_eX3_refuse (ci := 5) rfl rfl rfl dX3_whole_28 rfl rfl (by decide) (by decide) (by first | decide | omega) (by first | decide | omega) (Nat.le_of_ble_eq_true rfl) rfl rfl (Nat.le_of_ble_eq_true rfl) ?_ ?_
      rotate_left
      · rintro E9 w9 h9; exact h9.elim
      rintro v28 w28 ⟨u28, rfl, Iv, z28, rfl, g28⟩
      refine ne_if_eq (tgt := 36) X dX3_whole_31 rfl (by omega) (fun b31 => ?_) (fun b31 => ?_)
      · exfalso; omega
      · refine ne_iconst X dX3_whole_34 ?_
        exact ne_iret X hr (by first | rfl | decide | rfl) dX3_whole_35 ⟨⟨_, _, _, _, rfl, Ic, Iq, It, Ib, Itb, Igb, Ik, ne_rg_mono Ih (by omega) (by omega), Iv⟩, _, rfl, trivial⟩
set_option maxRecDepth 100000 in
set_option maxHeartbeats 4000000 in
theorem me_X3_rest (l : Launch) (hl : l.stackTraces = false) (c q t b k h : Nat → Int) (vt T : Int) (hI : mI c q t b k h vt T) (hT : 0 ≤ T ∧ T ≤ 1000) (i : Int) (a : Int) (o : Int) (hi : -2147483648 ≤ i ∧ i < 2147483648) (ha : -2147483648 ≤ a ∧ a < 2147483648) (ho : -2147483648 ≤ o ∧ o < 2147483648)  : ne_M l nw_cl (.code yX3_rest cX3_rest 4 (some .int)) nw_T yX3_rest 9 330 0 0 [.ref 0, ni i, ni a, ni o] (mW c q t b k h vt) (fun v w => (∃ c1 q1 h1 v1, w = mW c1 q1 t b k h1 v1 ∧ mI c1 q1 t b k h1 v1 (T + 1)) ∧ ∃ z : Int, v = some (ni z) ∧ True) (fun _ _ => False) := by
  refine ne_meet (own := RX3) hl rfl (by decide +kernel) (Nat.le_of_ble_eq_true rfl) ?_
  intro D ct A P9 V9 R9 S9 M9 as9 bl9 mt9 C9 ad0 X hr hin ht
  obtain ⟨Ic, Iq, It, Ib, Itb, Igb, Ik, Ih, Iv⟩ := hI
  refine ne_aload_n X dX3_rest_0 rfl ?_
  refine ne_iload_n X dX3_rest_1 rfl ?_
  refine ne_callS X nw_Tg (me_X3_isNoCell l hl _ _ (by omega)) nw_yX3_isNoCell nw_mX3_66 nw_sX3_isNoCell dX3_rest_2 rfl rfl (by decide) (by decide) (by first | decide | omega) (by first | decide | omega) (Nat.le_of_ble_eq_true rfl) rfl rfl (Nat.le_of_ble_eq_true rfl) ?_ ?_
  rotate_left
  · rintro E9 w9 h9; exact h9.elim
  rintro v2 w2 ⟨rfl, z2, rfl, g2⟩
  refine ne_if_ne (tgt := 15) X dX3_rest_5 rfl (by omega) (fun b5 => ?_) (fun b5 => ?_)
  · refine ne_iconst X dX3_rest_15 ?_
    refine ne_goto (tgt := 20) X dX3_rest_16 rfl ?_
    refine ne_iload_n X dX3_rest_20 rfl ?_
    refine ne_bipush (v := -99) (by decide) X dX3_rest_21 ?_
    refine ne_bipush (v := 99) (by decide) X dX3_rest_23 ?_
    refine ne_callS X nw_Tg (me_X3_isOut l hl _ _ _ _ (by omega) (by omega) (by omega)) nw_yX3_isOut nw_mX3_34 nw_sX3_isOut dX3_rest_25 rfl rfl (by decide) (by decide) (by first | decide | omega) (by first | decide | omega) (Nat.le_of_ble_eq_true rfl) rfl rfl (Nat.le_of_ble_eq_true rfl) ?_ ?_
    rotate_left
    · rintro E9 w9 h9; exact h9.elim
    rintro v25 w25 ⟨rfl, z25, rfl, g25⟩
    refine ne_callV X nw_Tg (me_X3_refuse l hl c q t b k h vt T (by exact ⟨Ic, Iq, It, Ib, Itb, Igb, Ik, Ih, Iv⟩) (by omega) _ _ (by omega) (by omega)) nw_yX3_refuse nw_mX3_72 nw_iX3_refuse nw_eX3_refuse (ci := 5) rfl rfl rfl dX3_rest_28 rfl rfl (by decide) (by decide) (by first | decide | omega) (by first | decide | omega) (Nat.le_of_ble_eq_true rfl) rfl rfl (Nat.le_of_ble_eq_true rfl) ?_ ?_
    rotate_left
    · rintro E9 w9 h9; exact h9.elim
    rintro v28 w28 ⟨u28, rfl, Iv, z28, rfl, g28⟩
    refine ne_if_eq (tgt := 36) X dX3_rest_31 rfl (by omega) (fun b31 => ?_) (fun b31 => ?_)
    · exfalso; omega
    · refine ne_iconst X dX3_rest_34 ?_
      exact ne_iret X hr (by first | rfl | decide | rfl) dX3_rest_35 ⟨⟨_, _, _, _, rfl, Ic, Iq, It, Ib, Itb, Igb, Ik, ne_rg_mono Ih (by omega) (by omega), Iv⟩, _, rfl, trivial⟩
  · refine ne_iload_n X dX3_rest_8 rfl ?_
    refine ne_callS X nw_Tg (me_X3_isNoCell l hl _ _ (by omega)) nw_yX3_isNoCell nw_mX3_66 nw_sX3_isNoCell dX3_rest_9 rfl rfl (by decide) (by decide) (by first | decide | omega) (by first | decide | omega) (Nat.le_of_ble_eq_true rfl) rfl rfl (Nat.le_of_ble_eq_true rfl) ?_ ?_
    rotate_left
    · rintro E9 w9 h9; exact h9.elim
    rintro v9 w9 ⟨rfl, z9, rfl, g9⟩
    refine ne_if_eq (tgt := 19) X dX3_rest_12 rfl (by omega) (fun b12 => ?_) (fun b12 => ?_)
    · refine ne_iconst X dX3_rest_19 ?_
      refine ne_iload_n X dX3_rest_20 rfl ?_
      refine ne_bipush (v := -99) (by decide) X dX3_rest_21 ?_
      refine ne_bipush (v := 99) (by decide) X dX3_rest_23 ?_
      refine ne_callS X nw_Tg (me_X3_isOut l hl _ _ _ _ (by omega) (by omega) (by omega)) nw_yX3_isOut nw_mX3_34 nw_sX3_isOut dX3_rest_25 rfl rfl (by decide) (by decide) (by first | decide | omega) (by first | decide | omega) (Nat.le_of_ble_eq_true rfl) rfl rfl (Nat.le_of_ble_eq_true rfl) ?_ ?_
      rotate_left
      · rintro E9 w9 h9; exact h9.elim
      rintro v25 w25 ⟨rfl, z25, rfl, g25⟩
      refine ne_callV X nw_Tg (me_X3_refuse l hl c q t b k h vt T (by exact ⟨Ic, Iq, It, Ib, Itb, Igb, Ik, Ih, Iv⟩) (by omega) _ _ (by omega) (by omega)) nw_yX3_refuse nw_mX3_72 nw_iX3_refuse nw_eX3_refuse (ci := 5) rfl rfl rfl dX3_rest_28 rfl rfl (by decide) (by decide) (by first | decide | omega) (by first | decide | omega) (Nat.le_of_ble_eq_true rfl) rfl rfl (Nat.le_of_ble_eq_true rfl) ?_ ?_
      rotate_left
      · rintro E9 w9 h9; exact h9.elim
      rintro v28 w28 ⟨u28, rfl, Iv, z28, rfl, g28⟩
      refine ne_if_eq (tgt := 36) X dX3_rest_31 rfl (by omega) (fun b31 => ?_) (fun b31 => ?_)
      · have hk9 : (((0 ≤ i ∧ i < 4 ∧ 0 ≤ o ∧ o < 4) ∧ -99 ≤ a ∧ a ≤ 99)) ∧ u28 = 0 := by omega
        try clear g2
        try clear b5
        try clear g9
        try clear b12
        try clear g25
        try clear g28
        try clear b31
        refine ne_iload_n X dX3_rest_36 rfl ?_
        refine ne_if_ne (tgt := 47) X dX3_rest_37 rfl (by omega) (fun b37 => ?_) (fun b37 => ?_)
        · refine ne_aload_n X dX3_rest_47 rfl ?_
          refine ne_iload_n X dX3_rest_48 rfl ?_
          refine ne_aload_n X dX3_rest_49 rfl ?_
          refine ne_getf X dX3_rest_50 nw_fX3_9 rfl rfl ?_
          refine ne_iload_n X dX3_rest_53 rfl ?_
          refine ne_ialdR X dX3_rest_54 rfl (by omega) Ic (fun v54 e54 f54 u54 => ?_)
          refine ne_i2l (by omega) X dX3_rest_55 ?_
          refine ne_iload_n X dX3_rest_56 rfl ?_
          refine ne_i2l (by omega) X dX3_rest_57 ?_
          refine ne_aload_n X dX3_rest_58 rfl ?_
          refine ne_iload_n X dX3_rest_59 rfl ?_
          refine ne_iload_n X dX3_rest_60 rfl ?_
          refine ne_callV X nw_Tg (me_X3_wholeOf l hl c q t b k h u28 T (by exact ⟨Ic, Iq, It, Ib, Itb, Igb, Ik, Ih, Iv⟩) (by omega) _ _ (by omega) (by omega) (by omega)) nw_yX3_wholeOf nw_mX3_94 nw_iX3_wholeOf nw_eX3_wholeOf (ci := 5) rfl rfl rfl dX3_rest_61 rfl rfl (by decide) (by decide) (by first | decide | omega) (by first | decide | omega) (Nat.le_of_ble_eq_true rfl) rfl rfl (Nat.le_of_ble_eq_true rfl) ?_ ?_
          rotate_left
          · rintro E9 w9 h9; exact h9.elim
          rintro v61 w61 ⟨rfl, z61, rfl, g61, k61⟩
          have m61 : -98999901 ≤ a * z61 ∧ a * z61 ≤ 98999901 := (by
                rcases (show 0 ≤ z61 ∨ 0 ≤ -z61 by omega) with h | h
                · have := ne_mul a z61 99 999999 (by omega) (by omega); omega
                · have h2 := ne_mul a (-z61) 99 999999 (by omega) (by omega)
                  rw [Int.mul_neg] at h2; omega)
          refine ne_lmul X dX3_rest_64 ?_
          refine ne_aload_n X dX3_rest_65 rfl ?_
          refine ne_getf X dX3_rest_66 nw_fX3_15 rfl rfl ?_
          refine ne_iload_n X dX3_rest_69 rfl ?_
          refine ne_ialdR X dX3_rest_70 rfl (by omega) Iq (fun v70 e70 f70 u70 => ?_)
          refine ne_callS X nw_Tg (me_X3_ten l hl _ _ (by omega)) nw_yX3_ten nw_mX3_58 nw_sX3_ten dX3_rest_71 rfl rfl (by decide) (by decide) (by first | decide | omega) (by first | decide | omega) (Nat.le_of_ble_eq_true rfl) rfl rfl (Nat.le_of_ble_eq_true rfl) ?_ ?_
          rotate_left
          · rintro E9 w9 h9; exact h9.elim
          rintro v71 w71 ⟨rfl, z71, rfl, g71, k71, i71, j71, m71, o71, p71⟩
          have m71 := ne_mul (a * z61) z71 98999901 1000 (by omega) (by omega)
          refine ne_lmul X dX3_rest_74 ?_
          refine ne_lsub X dX3_rest_75 ?_
          refine ne_aload_n X dX3_rest_76 rfl ?_
          refine ne_getf X dX3_rest_77 nw_fX3_15 rfl rfl ?_
          refine ne_iload_n X dX3_rest_80 rfl ?_
          refine ne_ialdR X dX3_rest_81 rfl (by omega) Iq (fun v81 e81 f81 u81 => ?_)
          refine ne_callV X nw_Tg (me_X3_come l hl c q t b k h u28 T (by exact ⟨Ic, Iq, It, Ib, Itb, Igb, Ik, Ih, Iv⟩) (by omega) _ _ _ (by omega) (by omega) (by omega)) nw_yX3_come nw_mX3_76 nw_iX3_come nw_eX3_come (ci := 5) rfl rfl rfl dX3_rest_82 rfl rfl (by decide) (by decide) (by first | decide | omega) (by first | decide | omega) (Nat.le_of_ble_eq_true rfl) rfl rfl (Nat.le_of_ble_eq_true rfl) ?_ ?_
          rotate_left
          · rintro E9 w9 h9; exact h9.elim
          rintro v82 w82 ⟨c82, q82, h82, rfl, Ic, Iq, Ih, z82, rfl, g82, k82⟩
          exact ne_iret X hr (by first | rfl | decide | rfl) dX3_rest_85 ⟨⟨_, _, _, _, rfl, Ic, Iq, It, Ib, Itb, Igb, Ik, ne_rg_mono Ih (by omega) (by omega), Iv⟩, _, rfl, trivial⟩
        · refine ne_aload_n X dX3_rest_40 rfl ?_
          refine ne_callV X nw_Tg (me_X3_nay l hl c q t b k h u28 T (by exact ⟨Ic, Iq, It, Ib, Itb, Igb, Ik, Ih, Iv⟩) (by omega) ) nw_yX3_nay nw_mX3_54 nw_iX3_nay nw_eX3_nay (ci := 5) rfl rfl rfl dX3_rest_41 rfl rfl (by decide) (by decide) (by first | decide | omega) (by first | decide | omega) (Nat.le_of_ble_eq_true rfl) rfl rfl (Nat.le_of_ble_eq_true rfl) ?_ ?_
          rotate_left
          · rintro E9 w9 h9; exact h9.elim
          rintro v41 w41 ⟨h41, rfl, Ih, rfl⟩
          refine ne_goto (tgt := 85) X dX3_rest_44 rfl ?_
          exact ne_iret X hr (by first | rfl | decide | rfl) dX3_rest_85 ⟨⟨_, _, _, _, rfl, Ic, Iq, It, Ib, Itb, Igb, Ik, ne_rg_mono Ih (by omega) (by omega), Iv⟩, _, rfl, trivial⟩
      · refine ne_iconst X dX3_rest_34 ?_
        exact ne_iret X hr (by first | rfl | decide | rfl) dX3_rest_35 ⟨⟨_, _, _, _, rfl, Ic, Iq, It, Ib, Itb, Igb, Ik, ne_rg_mono Ih (by omega) (by omega), Iv⟩, _, rfl, trivial⟩
    · refine ne_iconst X dX3_rest_15 ?_
      refine ne_goto (tgt := 20) X dX3_rest_16 rfl ?_
      refine ne_iload_n X dX3_rest_20 rfl ?_
      refine ne_bipush (v := -99) (by decide) X dX3_rest_21 ?_
      refine ne_bipush (v := 99) (by decide) X dX3_rest_23 ?_
      refine ne_callS X nw_Tg (me_X3_isOut l hl _ _ _ _ (by omega) (by omega) (by omega)) nw_yX3_isOut nw_mX3_34 nw_sX3_isOut dX3_rest_25 rfl rfl (by decide) (by decide) (by first | decide | omega) (by first | decide | omega) (Nat.le_of_ble_eq_true rfl) rfl rfl (Nat.le_of_ble_eq_true rfl) ?_ ?_
      rotate_left
      · rintro E9 w9 h9; exact h9.elim
      rintro v25 w25 ⟨rfl, z25, rfl, g25⟩
      refine ne_callV X nw_Tg (me_X3_refuse l hl c q t b k h vt T (by exact ⟨Ic, Iq, It, Ib, Itb, Igb, Ik, Ih, Iv⟩) (by omega) _ _ (by omega) (by omega)) nw_yX3_refuse nw_mX3_72 nw_iX3_refuse nw_eX3_refuse (ci := 5) rfl rfl rfl dX3_rest_28 rfl rfl (by decide) (by decide) (by first | decide | omega) (by first | decide | omega) (Nat.le_of_ble_eq_true rfl) rfl rfl (Nat.le_of_ble_eq_true rfl) ?_ ?_
      rotate_left
      · rintro E9 w9 h9; exact h9.elim
      rintro v28 w28 ⟨u28, rfl, Iv, z28, rfl, g28⟩
      refine ne_if_eq (tgt := 36) X dX3_rest_31 rfl (by omega) (fun b31 => ?_) (fun b31 => ?_)
      · exfalso; omega
      · refine ne_iconst X dX3_rest_34 ?_
        exact ne_iret X hr (by first | rfl | decide | rfl) dX3_rest_35 ⟨⟨_, _, _, _, rfl, Ic, Iq, It, Ib, Itb, Igb, Ik, ne_rg_mono Ih (by omega) (by omega), Iv⟩, _, rfl, trivial⟩
set_option maxRecDepth 100000 in
set_option maxHeartbeats 4000000 in
theorem me_X3_setPlaces (l : Launch) (hl : l.stackTraces = false) (c q t b k h : Nat → Int) (vt T : Int) (hI : mI c q t b k h vt T) (hT : 0 ≤ T ∧ T ≤ 1000) (i : Int) (p : Int) (w0 : Int) (hi : -2147483648 ≤ i ∧ i < 2147483648) (hp : -2147483648 ≤ p ∧ p < 2147483648) (hw0 : -2147483648 ≤ w0 ∧ w0 < 2147483648)  : ne_M l nw_cl (.code yX3_setPlaces cX3_setPlaces 4 (some .int)) nw_T yX3_setPlaces 9 330 0 0 [.ref 0, ni i, ni p, ni w0] (mW c q t b k h vt) (fun v w => (∃ c1 q1 h1 v1, w = mW c1 q1 t b k h1 v1 ∧ mI c1 q1 t b k h1 v1 (T + 1)) ∧ ∃ z : Int, v = some (ni z) ∧ True) (fun _ _ => False) := by
  refine ne_meet (own := RX3) hl rfl (by decide +kernel) (Nat.le_of_ble_eq_true rfl) ?_
  intro D ct A P9 V9 R9 S9 M9 as9 bl9 mt9 C9 ad0 X hr hin ht
  obtain ⟨Ic, Iq, It, Ib, Itb, Igb, Ik, Ih, Iv⟩ := hI
  refine ne_aload_n X dX3_setPlaces_0 rfl ?_
  refine ne_iload_n X dX3_setPlaces_1 rfl ?_
  refine ne_callS X nw_Tg (me_X3_isNoCell l hl _ _ (by omega)) nw_yX3_isNoCell nw_mX3_66 nw_sX3_isNoCell dX3_setPlaces_2 rfl rfl (by decide) (by decide) (by first | decide | omega) (by first | decide | omega) (Nat.le_of_ble_eq_true rfl) rfl rfl (Nat.le_of_ble_eq_true rfl) ?_ ?_
  rotate_left
  · rintro E9 w9 h9; exact h9.elim
  rintro v2 w2 ⟨rfl, z2, rfl, g2⟩
  refine ne_iload_n X dX3_setPlaces_5 rfl ?_
  refine ne_iload_n X dX3_setPlaces_6 rfl ?_
  refine ne_iconst X dX3_setPlaces_7 ?_
  refine ne_callS X nw_Tg (me_X3_isNoCut l hl _ _ _ _ (by omega) (by omega) (by omega)) nw_yX3_isNoCut nw_mX3_87 nw_sX3_isNoCut dX3_setPlaces_8 rfl rfl (by decide) (by decide) (by first | decide | omega) (by first | decide | omega) (Nat.le_of_ble_eq_true rfl) rfl rfl (Nat.le_of_ble_eq_true rfl) ?_ ?_
  rotate_left
  · rintro E9 w9 h9; exact h9.elim
  rintro v8 w8 ⟨rfl, z8, rfl, g8⟩
  refine ne_callV X nw_Tg (me_X3_refuse l hl c q t b k h vt T (by exact ⟨Ic, Iq, It, Ib, Itb, Igb, Ik, Ih, Iv⟩) (by omega) _ _ (by omega) (by omega)) nw_yX3_refuse nw_mX3_72 nw_iX3_refuse nw_eX3_refuse (ci := 5) rfl rfl rfl dX3_setPlaces_11 rfl rfl (by decide) (by decide) (by first | decide | omega) (by first | decide | omega) (Nat.le_of_ble_eq_true rfl) rfl rfl (Nat.le_of_ble_eq_true rfl) ?_ ?_
  rotate_left
  · rintro E9 w9 h9; exact h9.elim
  rintro v11 w11 ⟨u11, rfl, Iv, z11, rfl, g11⟩
  refine ne_if_eq (tgt := 19) X dX3_setPlaces_14 rfl (by omega) (fun b14 => ?_) (fun b14 => ?_)
  · have hk9 : (((0 ≤ i ∧ i < 4) ∧ 0 ≤ p ∧ p ≤ 3 ∧ 0 ≤ w0 ∧ w0 ≤ 7)) ∧ u11 = 0 := by omega
    try clear g2
    try clear g8
    try clear g11
    try clear b14
    refine ne_aload_n X dX3_setPlaces_19 rfl ?_
    refine ne_iload_n X dX3_setPlaces_20 rfl ?_
    refine ne_aload_n X dX3_setPlaces_21 rfl ?_
    refine ne_getf X dX3_setPlaces_22 nw_fX3_9 rfl rfl ?_
    refine ne_iload_n X dX3_setPlaces_25 rfl ?_
    refine ne_ialdR X dX3_setPlaces_26 rfl (by omega) Ic (fun v26 e26 f26 u26 => ?_)
    refine ne_i2l (by omega) X dX3_setPlaces_27 ?_
    refine ne_iload_n X dX3_setPlaces_28 rfl ?_
    refine ne_callS X nw_Tg (me_X3_ten l hl _ _ (by omega)) nw_yX3_ten nw_mX3_58 nw_sX3_ten dX3_setPlaces_29 rfl rfl (by decide) (by decide) (by first | decide | omega) (by first | decide | omega) (Nat.le_of_ble_eq_true rfl) rfl rfl (Nat.le_of_ble_eq_true rfl) ?_ ?_
    rotate_left
    · rintro E9 w9 h9; exact h9.elim
    rintro v29 w29 ⟨rfl, z29, rfl, g29, k29, i29, j29, m29, o29, p29⟩
    have m29 := ne_mul v26 z29 999999 1000 (by omega) (by omega)
    refine ne_lmul X dX3_setPlaces_32 ?_
    refine ne_aload_n X dX3_setPlaces_33 rfl ?_
    refine ne_getf X dX3_setPlaces_34 nw_fX3_15 rfl rfl ?_
    refine ne_iload_n X dX3_setPlaces_37 rfl ?_
    refine ne_ialdR X dX3_setPlaces_38 rfl (by omega) Iq (fun v38 e38 f38 u38 => ?_)
    refine ne_callS X nw_Tg (me_X3_ten l hl _ _ (by omega)) nw_yX3_ten nw_mX3_58 nw_sX3_ten dX3_setPlaces_39 rfl rfl (by decide) (by decide) (by first | decide | omega) (by first | decide | omega) (Nat.le_of_ble_eq_true rfl) rfl rfl (Nat.le_of_ble_eq_true rfl) ?_ ?_
    rotate_left
    · rintro E9 w9 h9; exact h9.elim
    rintro v39 w39 ⟨rfl, z39, rfl, g39, k39, i39, j39, m39, o39, p39⟩
    refine ne_iload_n X dX3_setPlaces_42 rfl ?_
    refine ne_callS X nw_Tg (me_X3_rounded l hl _ 999999000 _ _ _ (by omega) (by omega) (by omega) (by omega)) nw_yX3_rounded nw_mX3_90 nw_sX3_rounded dX3_setPlaces_43 rfl rfl (by decide) (by decide) (by first | decide | omega) (by first | decide | omega) (Nat.le_of_ble_eq_true rfl) rfl rfl (Nat.le_of_ble_eq_true rfl) ?_ ?_
    rotate_left
    · rintro E9 w9 h9; exact h9.elim
    rintro v43 w43 ⟨rfl, z43, rfl, g43⟩
    refine ne_iload_n X dX3_setPlaces_46 rfl ?_
    refine ne_callV X nw_Tg (me_X3_come l hl c q t b k h u11 T (by exact ⟨Ic, Iq, It, Ib, Itb, Igb, Ik, Ih, Iv⟩) (by omega) _ _ _ (by omega) (by omega) (by omega)) nw_yX3_come nw_mX3_76 nw_iX3_come nw_eX3_come (ci := 5) rfl rfl rfl dX3_setPlaces_47 rfl rfl (by decide) (by decide) (by first | decide | omega) (by first | decide | omega) (Nat.le_of_ble_eq_true rfl) rfl rfl (Nat.le_of_ble_eq_true rfl) ?_ ?_
    rotate_left
    · rintro E9 w9 h9; exact h9.elim
    rintro v47 w47 ⟨c47, q47, h47, rfl, Ic, Iq, Ih, z47, rfl, g47, k47⟩
    exact ne_iret X hr (by first | rfl | decide | rfl) dX3_setPlaces_50 ⟨⟨_, _, _, _, rfl, Ic, Iq, It, Ib, Itb, Igb, Ik, ne_rg_mono Ih (by omega) (by omega), Iv⟩, _, rfl, trivial⟩
  · refine ne_iconst X dX3_setPlaces_17 ?_
    exact ne_iret X hr (by first | rfl | decide | rfl) dX3_setPlaces_18 ⟨⟨_, _, _, _, rfl, Ic, Iq, It, Ib, Itb, Igb, Ik, ne_rg_mono Ih (by omega) (by omega), Iv⟩, _, rfl, trivial⟩
set_option maxRecDepth 100000 in
set_option maxHeartbeats 4000000 in
theorem me_X3_strip (l : Launch) (hl : l.stackTraces = false) (c q t b k h : Nat → Int) (vt T : Int) (hI : mI c q t b k h vt T) (hT : 0 ≤ T ∧ T ≤ 1000) (i : Int) (hi : -2147483648 ≤ i ∧ i < 2147483648)  : ne_M l nw_cl (.code yX3_strip cX3_strip 3 (some .int)) nw_T yX3_strip 9 330 0 0 [.ref 0, ni i] (mW c q t b k h vt) (fun v w => (∃ c1 q1 h1 v1, w = mW c1 q1 t b k h1 v1 ∧ mI c1 q1 t b k h1 v1 (T + 1)) ∧ ∃ z : Int, v = some (ni z) ∧ True) (fun _ _ => False) := by
  refine ne_meet (own := RX3) hl rfl (by decide +kernel) (Nat.le_of_ble_eq_true rfl) ?_
  intro D ct A P9 V9 R9 S9 M9 as9 bl9 mt9 C9 ad0 X hr hin ht
  obtain ⟨Ic, Iq, It, Ib, Itb, Igb, Ik, Ih, Iv⟩ := hI
  have lp16 : ∀ (n9 : Nat) (j : Int), (4 - j).toNat < n9 → (0 ≤ j) → (j ≤ q i.toNat) → (0 ≤ i ∧ i < 4) → ne_G nw_cl D ct A 7 ad0 P9 l V9 R9 S9 M9 as9 bl9 mt9 C9 (ne_O nw_cl D ct ad0 7 A bl9 as9 S9 0 0 (fun v w => (∃ c1 q1 h1 v1, w = mW c1 q1 t b k h1 v1 ∧ mI c1 q1 t b k h1 v1 (T + 1)) ∧ ∃ z : Int, v = some (ni z) ∧ True) (fun _ _ => False)) 3 0 0 0 0 16 [some (.ref 0), some (ni i), some (ni j)] [] (mW c q t b k h 0) := by
    intro n9
    induction n9 with
    | zero => intro j hm9 q1 q2 q6; exfalso; omega
    | succ n9 ih =>
      intro j hm9 q1 q2 q6
      have Iv : (0 : Int) ≤ 0 ∧ (0 : Int) ≤ 2 := by omega
      have hq9 := Iq i.toNat
      refine ne_aload_n X dX3_strip_16 rfl ?_
      refine ne_getf X dX3_strip_17 nw_fX3_9 rfl rfl ?_
      refine ne_iload_n X dX3_strip_20 rfl ?_
      refine ne_ialdR X dX3_strip_21 rfl (by omega) Ic (fun v21 e21 f21 u21 => ?_)
      refine ne_i2l (by omega) X dX3_strip_22 ?_
      refine ne_aload_n X dX3_strip_23 rfl ?_
      refine ne_getf X dX3_strip_24 nw_fX3_15 rfl rfl ?_
      refine ne_iload_n X dX3_strip_27 rfl ?_
      refine ne_ialdR X dX3_strip_28 rfl (by omega) Iq (fun v28 e28 f28 u28 => ?_)
      refine ne_iload_n X dX3_strip_29 rfl ?_
      refine ne_isub X dX3_strip_30 ?_
      refine ne_callS X nw_Tg (me_X3_ten l hl _ _ (by omega)) nw_yX3_ten nw_mX3_58 nw_sX3_ten dX3_strip_31 rfl rfl (by decide) (by decide) (by first | decide | omega) (by first | decide | omega) (Nat.le_of_ble_eq_true rfl) rfl rfl (Nat.le_of_ble_eq_true rfl) ?_ ?_
      rotate_left
      · rintro E9 w9 h9; exact h9.elim
      rintro v31 w31 ⟨rfl, z31, rfl, g31, k31, i31, j31, m31, o31, p31⟩
      have t31 := ne_tdm v21 z31 (by omega)
      refine ne_lrem X dX3_strip_34 (by omega) (by omega) (by omega) ?_
      refine ne_lconst (z := 0) (by decide) X dX3_strip_35 ?_
      refine ne_lcif_eq (tgt := 46) X dX3_strip_36 dX3_strip_37 rfl (by omega) (by omega) (fun b37 => ?_) (fun b37 => ?_)
      · refine ne_aload_n X dX3_strip_46 rfl ?_
        refine ne_iload_n X dX3_strip_47 rfl ?_
        refine ne_aload_n X dX3_strip_48 rfl ?_
        refine ne_getf X dX3_strip_49 nw_fX3_9 rfl rfl ?_
        refine ne_iload_n X dX3_strip_52 rfl ?_
        refine ne_ialdR X dX3_strip_53 rfl (by omega) Ic (fun v53 e53 f53 u53 => ?_)
        refine ne_i2l (by omega) X dX3_strip_54 ?_
        refine ne_aload_n X dX3_strip_55 rfl ?_
        refine ne_getf X dX3_strip_56 nw_fX3_15 rfl rfl ?_
        refine ne_iload_n X dX3_strip_59 rfl ?_
        refine ne_ialdR X dX3_strip_60 rfl (by omega) Iq (fun v60 e60 f60 u60 => ?_)
        refine ne_iload_n X dX3_strip_61 rfl ?_
        refine ne_isub X dX3_strip_62 ?_
        refine ne_callS X nw_Tg (me_X3_ten l hl _ _ (by omega)) nw_yX3_ten nw_mX3_58 nw_sX3_ten dX3_strip_63 rfl rfl (by decide) (by decide) (by first | decide | omega) (by first | decide | omega) (Nat.le_of_ble_eq_true rfl) rfl rfl (Nat.le_of_ble_eq_true rfl) ?_ ?_
        rotate_left
        · rintro E9 w9 h9; exact h9.elim
        rintro v63 w63 ⟨rfl, z63, rfl, g63, k63, i63, j63, m63, o63, p63⟩
        have t63 := ne_tq v53 z63
        refine ne_ldiv X dX3_strip_66 (by omega) (by omega) (by omega) ?_
        refine ne_iload_n X dX3_strip_67 rfl ?_
        refine ne_callV X nw_Tg (me_X3_come l hl c q t b k h 0 T (by exact ⟨Ic, Iq, It, Ib, Itb, Igb, Ik, Ih, Iv⟩) (by omega) _ _ _ (by omega) (by omega) (by omega)) nw_yX3_come nw_mX3_76 nw_iX3_come nw_eX3_come (ci := 5) rfl rfl rfl dX3_strip_68 rfl rfl (by decide) (by decide) (by first | decide | omega) (by first | decide | omega) (Nat.le_of_ble_eq_true rfl) rfl rfl (Nat.le_of_ble_eq_true rfl) ?_ ?_
        rotate_left
        · rintro E9 w9 h9; exact h9.elim
        rintro v68 w68 ⟨c68, q68, h68, rfl, Ic, Iq, Ih, z68, rfl, g68, k68⟩
        exact ne_iret X hr (by first | rfl | decide | rfl) dX3_strip_71 ⟨⟨_, _, _, _, rfl, Ic, Iq, It, Ib, Itb, Igb, Ik, ne_rg_mono Ih (by omega) (by omega), Iv⟩, _, rfl, trivial⟩
      · refine ne_iinc X dX3_strip_40 rfl (by decide) ?_
        refine ne_goto (tgt := 16) X dX3_strip_43 rfl ?_
        have hj : j < q i.toNat := by
                rcases (show j < q i.toNat ∨ (v28 - j).toNat = 0 by omega) with h | h
                · exact h
                · rw [h, Int.pow_zero] at g31
                  rw [g31, Int.tmod_one] at *
                  omega
        exact ih _ (by omega) (by omega) (by omega) (by omega)
  refine ne_aload_n X dX3_strip_0 rfl ?_
  refine ne_iload_n X dX3_strip_1 rfl ?_
  refine ne_callS X nw_Tg (me_X3_isNoCell l hl _ _ (by omega)) nw_yX3_isNoCell nw_mX3_66 nw_sX3_isNoCell dX3_strip_2 rfl rfl (by decide) (by decide) (by first | decide | omega) (by first | decide | omega) (Nat.le_of_ble_eq_true rfl) rfl rfl (Nat.le_of_ble_eq_true rfl) ?_ ?_
  rotate_left
  · rintro E9 w9 h9; exact h9.elim
  rintro v2 w2 ⟨rfl, z2, rfl, g2⟩
  refine ne_iconst X dX3_strip_5 ?_
  refine ne_callV X nw_Tg (me_X3_refuse l hl c q t b k h vt T (by exact ⟨Ic, Iq, It, Ib, Itb, Igb, Ik, Ih, Iv⟩) (by omega) _ _ (by omega) (by omega)) nw_yX3_refuse nw_mX3_72 nw_iX3_refuse nw_eX3_refuse (ci := 5) rfl rfl rfl dX3_strip_6 rfl rfl (by decide) (by decide) (by first | decide | omega) (by first | decide | omega) (Nat.le_of_ble_eq_true rfl) rfl rfl (Nat.le_of_ble_eq_true rfl) ?_ ?_
  rotate_left
  · rintro E9 w9 h9; exact h9.elim
  rintro v6 w6 ⟨u6, rfl, Iv, z6, rfl, g6⟩
  refine ne_if_eq (tgt := 14) X dX3_strip_9 rfl (by omega) (fun b9 => ?_) (fun b9 => ?_)
  · have hk9 : ((0 ≤ i ∧ i < 4)) ∧ u6 = 0 := by omega
    try clear g2
    try clear g6
    try clear b9
    refine ne_iconst X dX3_strip_14 ?_
    refine ne_istore_n X dX3_strip_15 rfl (by decide) ?_
    obtain rfl : u6 = 0 := by omega
    have hq9 := Iq i.toNat
    exact lp16 _ 0 (Nat.lt_succ_self _) (by omega) (by omega) (by omega)
  · refine ne_iconst X dX3_strip_12 ?_
    exact ne_iret X hr (by first | rfl | decide | rfl) dX3_strip_13 ⟨⟨_, _, _, _, rfl, Ic, Iq, It, Ib, Itb, Igb, Ik, ne_rg_mono Ih (by omega) (by omega), Iv⟩, _, rfl, trivial⟩
set_option maxRecDepth 100000 in
set_option maxHeartbeats 4000000 in
theorem me_X3_move (l : Launch) (hl : l.stackTraces = false) (c q t b k h : Nat → Int) (vt T : Int) (hI : mI c q t b k h vt T) (hT : 0 ≤ T ∧ T ≤ 1000) (i : Int) (a : Int) (hi : -2147483648 ≤ i ∧ i < 2147483648) (ha : -2147483648 ≤ a ∧ a < 2147483648)  : ne_M l nw_cl (.code yX3_move cX3_move 4 (some .int)) nw_T yX3_move 9 330 0 0 [.ref 0, ni i, ni a] (mW c q t b k h vt) (fun v w => (∃ c1 q1 h1 v1, w = mW c1 q1 t b k h1 v1 ∧ mI c1 q1 t b k h1 v1 (T + 1)) ∧ ∃ z : Int, v = some (ni z) ∧ True) (fun _ _ => False) := by
  refine ne_meet (own := RX3) hl rfl (by decide +kernel) (Nat.le_of_ble_eq_true rfl) ?_
  intro D ct A P9 V9 R9 S9 M9 as9 bl9 mt9 C9 ad0 X hr hin ht
  obtain ⟨Ic, Iq, It, Ib, Itb, Igb, Ik, Ih, Iv⟩ := hI
  refine ne_aload_n X dX3_move_0 rfl ?_
  refine ne_iload_n X dX3_move_1 rfl ?_
  refine ne_callS X nw_Tg (me_X3_isNoCell l hl _ _ (by omega)) nw_yX3_isNoCell nw_mX3_66 nw_sX3_isNoCell dX3_move_2 rfl rfl (by decide) (by decide) (by first | decide | omega) (by first | decide | omega) (Nat.le_of_ble_eq_true rfl) rfl rfl (Nat.le_of_ble_eq_true rfl) ?_ ?_
  rotate_left
  · rintro E9 w9 h9; exact h9.elim
  rintro v2 w2 ⟨rfl, z2, rfl, g2⟩
  refine ne_iload_n X dX3_move_5 rfl ?_
  refine ne_bipush (v := -3) (by decide) X dX3_move_6 ?_
  refine ne_iconst X dX3_move_8 ?_
  refine ne_callS X nw_Tg (me_X3_isOut l hl _ _ _ _ (by omega) (by omega) (by omega)) nw_yX3_isOut nw_mX3_34 nw_sX3_isOut dX3_move_9 rfl rfl (by decide) (by decide) (by first | decide | omega) (by first | decide | omega) (Nat.le_of_ble_eq_true rfl) rfl rfl (Nat.le_of_ble_eq_true rfl) ?_ ?_
  rotate_left
  · rintro E9 w9 h9; exact h9.elim
  rintro v9 w9 ⟨rfl, z9, rfl, g9⟩
  refine ne_callV X nw_Tg (me_X3_refuse l hl c q t b k h vt T (by exact ⟨Ic, Iq, It, Ib, Itb, Igb, Ik, Ih, Iv⟩) (by omega) _ _ (by omega) (by omega)) nw_yX3_refuse nw_mX3_72 nw_iX3_refuse nw_eX3_refuse (ci := 5) rfl rfl rfl dX3_move_12 rfl rfl (by decide) (by decide) (by first | decide | omega) (by first | decide | omega) (Nat.le_of_ble_eq_true rfl) rfl rfl (Nat.le_of_ble_eq_true rfl) ?_ ?_
  rotate_left
  · rintro E9 w9 h9; exact h9.elim
  rintro v12 w12 ⟨u12, rfl, Iv, z12, rfl, g12⟩
  refine ne_if_eq (tgt := 20) X dX3_move_15 rfl (by omega) (fun b15 => ?_) (fun b15 => ?_)
  · have hk9 : (((0 ≤ i ∧ i < 4) ∧ -3 ≤ a ∧ a ≤ 3)) ∧ u12 = 0 := by omega
    try clear g2
    try clear g9
    try clear g12
    try clear b15
    refine ne_aload_n X dX3_move_20 rfl ?_
    refine ne_getf X dX3_move_21 nw_fX3_15 rfl rfl ?_
    refine ne_iload_n X dX3_move_24 rfl ?_
    refine ne_ialdR X dX3_move_25 rfl (by omega) Iq (fun v25 e25 f25 u25 => ?_)
    refine ne_iload_n X dX3_move_26 rfl ?_
    refine ne_iadd X dX3_move_27 ?_
    refine ne_istore_n X dX3_move_28 rfl (by decide) ?_
    refine ne_iload_n X dX3_move_29 rfl ?_
    refine ne_if_ge (tgt := 55) X dX3_move_30 rfl (by omega) (fun b30 => ?_) (fun b30 => ?_)
    · refine ne_aload_n X dX3_move_55 rfl ?_
      refine ne_iload_n X dX3_move_56 rfl ?_
      refine ne_aload_n X dX3_move_57 rfl ?_
      refine ne_getf X dX3_move_58 nw_fX3_9 rfl rfl ?_
      refine ne_iload_n X dX3_move_61 rfl ?_
      refine ne_ialdR X dX3_move_62 rfl (by omega) Ic (fun v62 e62 f62 u62 => ?_)
      refine ne_i2l (by omega) X dX3_move_63 ?_
      refine ne_iload_n X dX3_move_64 rfl ?_
      refine ne_callV X nw_Tg (me_X3_come l hl c q t b k h u12 T (by exact ⟨Ic, Iq, It, Ib, Itb, Igb, Ik, Ih, Iv⟩) (by omega) _ _ _ (by omega) (by omega) (by omega)) nw_yX3_come nw_mX3_76 nw_iX3_come nw_eX3_come (ci := 5) rfl rfl rfl dX3_move_65 rfl rfl (by decide) (by decide) (by first | decide | omega) (by first | decide | omega) (Nat.le_of_ble_eq_true rfl) rfl rfl (Nat.le_of_ble_eq_true rfl) ?_ ?_
      rotate_left
      · rintro E9 w9 h9; exact h9.elim
      rintro v65 w65 ⟨c65, q65, h65, rfl, Ic, Iq, Ih, z65, rfl, g65, k65⟩
      exact ne_iret X hr (by first | rfl | decide | rfl) dX3_move_68 ⟨⟨_, _, _, _, rfl, Ic, Iq, It, Ib, Itb, Igb, Ik, ne_rg_mono Ih (by omega) (by omega), Iv⟩, _, rfl, trivial⟩
    · refine ne_aload_n X dX3_move_33 rfl ?_
      refine ne_iload_n X dX3_move_34 rfl ?_
      refine ne_aload_n X dX3_move_35 rfl ?_
      refine ne_getf X dX3_move_36 nw_fX3_9 rfl rfl ?_
      refine ne_iload_n X dX3_move_39 rfl ?_
      refine ne_ialdR X dX3_move_40 rfl (by omega) Ic (fun v40 e40 f40 u40 => ?_)
      refine ne_i2l (by omega) X dX3_move_41 ?_
      refine ne_iload_n X dX3_move_42 rfl ?_
      refine ne_ineg X dX3_move_43 ?_
      refine ne_callS X nw_Tg (me_X3_ten l hl _ _ (by omega)) nw_yX3_ten nw_mX3_58 nw_sX3_ten dX3_move_44 rfl rfl (by decide) (by decide) (by first | decide | omega) (by first | decide | omega) (Nat.le_of_ble_eq_true rfl) rfl rfl (Nat.le_of_ble_eq_true rfl) ?_ ?_
      rotate_left
      · rintro E9 w9 h9; exact h9.elim
      rintro v44 w44 ⟨rfl, z44, rfl, g44, k44, i44, j44, m44, o44, p44⟩
      have m44 := ne_mul v40 z44 999999 1000 (by omega) (by omega)
      refine ne_lmul X dX3_move_47 ?_
      refine ne_iconst X dX3_move_48 ?_
      refine ne_callV X nw_Tg (me_X3_come l hl c q t b k h u12 T (by exact ⟨Ic, Iq, It, Ib, Itb, Igb, Ik, Ih, Iv⟩) (by omega) _ _ _ (by omega) (by omega) (by omega)) nw_yX3_come nw_mX3_76 nw_iX3_come nw_eX3_come (ci := 5) rfl rfl rfl dX3_move_49 rfl rfl (by decide) (by decide) (by first | decide | omega) (by first | decide | omega) (Nat.le_of_ble_eq_true rfl) rfl rfl (Nat.le_of_ble_eq_true rfl) ?_ ?_
      rotate_left
      · rintro E9 w9 h9; exact h9.elim
      rintro v49 w49 ⟨c49, q49, h49, rfl, Ic, Iq, Ih, z49, rfl, g49, k49⟩
      refine ne_goto (tgt := 68) X dX3_move_52 rfl ?_
      exact ne_iret X hr (by first | rfl | decide | rfl) dX3_move_68 ⟨⟨_, _, _, _, rfl, Ic, Iq, It, Ib, Itb, Igb, Ik, ne_rg_mono Ih (by omega) (by omega), Iv⟩, _, rfl, trivial⟩
  · refine ne_iconst X dX3_move_18 ?_
    exact ne_iret X hr (by first | rfl | decide | rfl) dX3_move_19 ⟨⟨_, _, _, _, rfl, Ic, Iq, It, Ib, Itb, Igb, Ik, ne_rg_mono Ih (by omega) (by omega), Iv⟩, _, rfl, trivial⟩
set_option maxRecDepth 100000 in
set_option maxHeartbeats 4000000 in
theorem me_X3_round (l : Launch) (hl : l.stackTraces = false) (c q t b k h : Nat → Int) (vt T : Int) (hI : mI c q t b k h vt T) (hT : 0 ≤ T ∧ T ≤ 1000) (i : Int) (a : Int) (w0 : Int) (hi : -2147483648 ≤ i ∧ i < 2147483648) (ha : -2147483648 ≤ a ∧ a < 2147483648) (hw0 : -2147483648 ≤ w0 ∧ w0 < 2147483648)  : ne_M l nw_cl (.code yX3_round cX3_round 8 (some .int)) nw_T yX3_round 9 330 0 0 [.ref 0, ni i, ni a, ni w0] (mW c q t b k h vt) (fun v w => (∃ c1 q1 h1 v1, w = mW c1 q1 t b k h1 v1 ∧ mI c1 q1 t b k h1 v1 (T + 1)) ∧ ∃ z : Int, v = some (ni z) ∧ True) (fun _ _ => False) := by
  refine ne_meet (own := RX3) hl rfl (by decide +kernel) (Nat.le_of_ble_eq_true rfl) ?_
  intro D ct A P9 V9 R9 S9 M9 as9 bl9 mt9 C9 ad0 X hr hin ht
  obtain ⟨Ic, Iq, It, Ib, Itb, Igb, Ik, Ih, Iv⟩ := hI
  refine ne_aload_n X dX3_round_0 rfl ?_
  refine ne_iload_n X dX3_round_1 rfl ?_
  refine ne_callS X nw_Tg (me_X3_isNoCell l hl _ _ (by omega)) nw_yX3_isNoCell nw_mX3_66 nw_sX3_isNoCell dX3_round_2 rfl rfl (by decide) (by decide) (by first | decide | omega) (by first | decide | omega) (Nat.le_of_ble_eq_true rfl) rfl rfl (Nat.le_of_ble_eq_true rfl) ?_ ?_
  rotate_left
  · rintro E9 w9 h9; exact h9.elim
  rintro v2 w2 ⟨rfl, z2, rfl, g2⟩
  refine ne_iload_n X dX3_round_5 rfl ?_
  refine ne_iconst X dX3_round_6 ?_
  refine ne_bipush (v := 6) (by decide) X dX3_round_7 ?_
  refine ne_callS X nw_Tg (me_X3_isOut l hl _ _ _ _ (by omega) (by omega) (by omega)) nw_yX3_isOut nw_mX3_34 nw_sX3_isOut dX3_round_9 rfl rfl (by decide) (by decide) (by first | decide | omega) (by first | decide | omega) (Nat.le_of_ble_eq_true rfl) rfl rfl (Nat.le_of_ble_eq_true rfl) ?_ ?_
  rotate_left
  · rintro E9 w9 h9; exact h9.elim
  rintro v9 w9 ⟨rfl, z9, rfl, g9⟩
  refine ne_if_ne (tgt := 25) X dX3_round_12 rfl (by omega) (fun b12 => ?_) (fun b12 => ?_)
  · refine ne_iconst X dX3_round_25 ?_
    refine ne_goto (tgt := 30) X dX3_round_26 rfl ?_
    refine ne_callV X nw_Tg (me_X3_refuse l hl c q t b k h vt T (by exact ⟨Ic, Iq, It, Ib, Itb, Igb, Ik, Ih, Iv⟩) (by omega) _ _ (by omega) (by omega)) nw_yX3_refuse nw_mX3_72 nw_iX3_refuse nw_eX3_refuse (ci := 5) rfl rfl rfl dX3_round_30 rfl rfl (by decide) (by decide) (by first | decide | omega) (by first | decide | omega) (Nat.le_of_ble_eq_true rfl) rfl rfl (Nat.le_of_ble_eq_true rfl) ?_ ?_
    rotate_left
    · rintro E9 w9 h9; exact h9.elim
    rintro v30 w30 ⟨u30, rfl, Iv, z30, rfl, g30⟩
    refine ne_if_eq (tgt := 38) X dX3_round_33 rfl (by omega) (fun b33 => ?_) (fun b33 => ?_)
    · exfalso; omega
    · refine ne_iconst X dX3_round_36 ?_
      exact ne_iret X hr (by first | rfl | decide | rfl) dX3_round_37 ⟨⟨_, _, _, _, rfl, Ic, Iq, It, Ib, Itb, Igb, Ik, ne_rg_mono Ih (by omega) (by omega), Iv⟩, _, rfl, trivial⟩
  · refine ne_iload_n X dX3_round_15 rfl ?_
    refine ne_iconst X dX3_round_16 ?_
    refine ne_bipush (v := 7) (by decide) X dX3_round_17 ?_
    refine ne_callS X nw_Tg (me_X3_isOut l hl _ _ _ _ (by omega) (by omega) (by omega)) nw_yX3_isOut nw_mX3_34 nw_sX3_isOut dX3_round_19 rfl rfl (by decide) (by decide) (by first | decide | omega) (by first | decide | omega) (Nat.le_of_ble_eq_true rfl) rfl rfl (Nat.le_of_ble_eq_true rfl) ?_ ?_
    rotate_left
    · rintro E9 w9 h9; exact h9.elim
    rintro v19 w19 ⟨rfl, z19, rfl, g19⟩
    refine ne_if_eq (tgt := 29) X dX3_round_22 rfl (by omega) (fun b22 => ?_) (fun b22 => ?_)
    · refine ne_iconst X dX3_round_29 ?_
      refine ne_callV X nw_Tg (me_X3_refuse l hl c q t b k h vt T (by exact ⟨Ic, Iq, It, Ib, Itb, Igb, Ik, Ih, Iv⟩) (by omega) _ _ (by omega) (by omega)) nw_yX3_refuse nw_mX3_72 nw_iX3_refuse nw_eX3_refuse (ci := 5) rfl rfl rfl dX3_round_30 rfl rfl (by decide) (by decide) (by first | decide | omega) (by first | decide | omega) (Nat.le_of_ble_eq_true rfl) rfl rfl (Nat.le_of_ble_eq_true rfl) ?_ ?_
      rotate_left
      · rintro E9 w9 h9; exact h9.elim
      rintro v30 w30 ⟨u30, rfl, Iv, z30, rfl, g30⟩
      refine ne_if_eq (tgt := 38) X dX3_round_33 rfl (by omega) (fun b33 => ?_) (fun b33 => ?_)
      · have hk9 : (((0 ≤ i ∧ i < 4) ∧ 1 ≤ a ∧ a ≤ 6 ∧ 0 ≤ w0 ∧ w0 ≤ 7)) ∧ u30 = 0 := by omega
        try clear g2
        try clear g9
        try clear b12
        try clear g19
        try clear b22
        try clear g30
        try clear b33
        refine ne_aload_n X dX3_round_38 rfl ?_
        refine ne_getf X dX3_round_39 nw_fX3_9 rfl rfl ?_
        refine ne_iload_n X dX3_round_42 rfl ?_
        refine ne_ialdR X dX3_round_43 rfl (by omega) Ic (fun v43 e43 f43 u43 => ?_)
        refine ne_i2l (by omega) X dX3_round_44 ?_
        refine ne_callS X nw_Tg (me_X3_digitsOf6 l hl _ _ (by omega)) nw_yX3_digitsOf nw_mX3_97 nw_sX3_digitsOf dX3_round_45 rfl rfl (by decide) (by decide) (by first | decide | omega) (by first | decide | omega) (Nat.le_of_ble_eq_true rfl) rfl rfl (Nat.le_of_ble_eq_true rfl) ?_ ?_
        rotate_left
        · rintro E9 w9 h9; exact h9.elim
        rintro v45 w45 ⟨rfl, z45, rfl, g45, k45⟩
        refine ne_iload_n X dX3_round_48 rfl ?_
        refine ne_isub X dX3_round_49 ?_
        refine ne_istore X dX3_round_50 (by decide) ?_
        refine ne_ll (L' := [some (.ref 0), some (ni i), some (ni a), some (ni w0), some (ni (z45 - a)), none, none, none]) rfl ?_
        refine ne_iload X dX3_round_52 rfl ?_
        refine ne_if_gt (tgt := 76) X dX3_round_54 rfl (by omega) (fun b54 => ?_) (fun b54 => ?_)
        · refine ne_aload_n X dX3_round_76 rfl ?_
          refine ne_getf X dX3_round_77 nw_fX3_9 rfl rfl ?_
          refine ne_iload_n X dX3_round_80 rfl ?_
          refine ne_ialdR X dX3_round_81 rfl (by omega) Ic (fun v81 e81 f81 u81 => ?_)
          refine ne_i2l (by omega) X dX3_round_82 ?_
          refine ne_iload X dX3_round_83 rfl ?_
          refine ne_callS X nw_Tg (me_X3_ten l hl _ _ (by omega)) nw_yX3_ten nw_mX3_58 nw_sX3_ten dX3_round_85 rfl rfl (by decide) (by decide) (by first | decide | omega) (by first | decide | omega) (Nat.le_of_ble_eq_true rfl) rfl rfl (Nat.le_of_ble_eq_true rfl) ?_ ?_
          rotate_left
          · rintro E9 w9 h9; exact h9.elim
          rintro v85 w85 ⟨rfl, z85, rfl, g85, k85, i85, j85, m85, o85, p85⟩
          refine ne_iload_n X dX3_round_88 rfl ?_
          refine ne_callS X nw_Tg (me_X3_rounded l hl _ 999999 _ _ _ (by omega) (by omega) (by omega) (by omega)) nw_yX3_rounded nw_mX3_90 nw_sX3_rounded dX3_round_89 rfl rfl (by decide) (by decide) (by first | decide | omega) (by first | decide | omega) (Nat.le_of_ble_eq_true rfl) rfl rfl (Nat.le_of_ble_eq_true rfl) ?_ ?_
          rotate_left
          · rintro E9 w9 h9; exact h9.elim
          rintro v89 w89 ⟨rfl, z89, rfl, g89⟩
          refine ne_lstore X dX3_round_92 (by decide) ?_
          refine ne_ll (L' := [some (.ref 0), some (ni _), some (ni _), some (ni _), some (ni _), some (nl _), none, none]) rfl ?_
          refine ne_ll (L' := [some (.ref 0), some (ni i), some (ni a), some (ni w0), some (ni (z45 - a)), some (nl z89), none, none]) rfl ?_
          refine ne_lload X dX3_round_94 rfl ?_
          refine ne_ldc2 (z := -9223372036854775808) (by decide) nw_cX3_44 X dX3_round_96 ?_
          refine ne_lcif_ne (tgt := 108) X dX3_round_99 dX3_round_100 rfl (by omega) (by omega) (fun b100 => ?_) (fun b100 => ?_)
          · have t133 := ne_tq z89 10
            refine ne_aload_n X dX3_round_108 rfl ?_
            refine ne_getf X dX3_round_109 nw_fX3_15 rfl rfl ?_
            refine ne_iload_n X dX3_round_112 rfl ?_
            refine ne_ialdR X dX3_round_113 rfl (by omega) Iq (fun v113 e113 f113 u113 => ?_)
            refine ne_iload X dX3_round_114 rfl ?_
            refine ne_isub X dX3_round_116 ?_
            refine ne_istore X dX3_round_117 (by decide) ?_
            refine ne_ll (L' := [some (.ref 0), some (ni i), some (ni a), some (ni w0), some (ni (z45 - a)), some (nl z89), none, some (ni (v113 - (z45 - a)))]) rfl ?_
            refine ne_lload X dX3_round_119 rfl ?_
            refine ne_callS X nw_Tg (me_X3_digitsOf l hl _ _ (by omega)) nw_yX3_digitsOf nw_mX3_97 nw_sX3_digitsOf dX3_round_121 rfl rfl (by decide) (by decide) (by first | decide | omega) (by first | decide | omega) (Nat.le_of_ble_eq_true rfl) rfl rfl (Nat.le_of_ble_eq_true rfl) ?_ ?_
            rotate_left
            · rintro E9 w9 h9; exact h9.elim
            rintro v121 w121 ⟨rfl, z121, rfl, g121, k121⟩
            refine ne_iload_n X dX3_round_124 rfl ?_
            refine ne_icmp_le (tgt := 139) X dX3_round_125 rfl (by omega) (by omega) (fun b125 => ?_) (fun b125 => ?_)
            · first | (refine ne_ll (L' := [some (.ref 0), some (ni i), some (ni a), some (ni w0), some (ni (z45 - a)), some (nl z89), none, some (ni (v113 - (z45 - a)))]) rfl ?_) | (refine ne_ll (L' := [some (.ref 0), some (ni i), some (ni a), some (ni w0), some (ni (z45 - a)), some (nl (z89.tdiv 10)), none, some (ni (v113 - (z45 - a) + -1))]) rfl ?_)
              refine ne_iload X dX3_round_139 rfl ?_
              refine ne_if_ge (tgt := 162) X dX3_round_141 rfl (by omega) (fun b141 => ?_) (fun b141 => ?_)
              · refine ne_aload_n X dX3_round_162 rfl ?_
                refine ne_iload_n X dX3_round_163 rfl ?_
                refine ne_lload X dX3_round_164 rfl ?_
                refine ne_iload X dX3_round_166 rfl ?_
                refine ne_callV X nw_Tg (me_X3_come l hl c q t b k h u30 T (by exact ⟨Ic, Iq, It, Ib, Itb, Igb, Ik, Ih, Iv⟩) (by omega) _ _ _ (by omega) (by omega) (by omega)) nw_yX3_come nw_mX3_76 nw_iX3_come nw_eX3_come (ci := 5) rfl rfl rfl dX3_round_168 rfl rfl (by decide) (by decide) (by first | decide | omega) (by first | decide | omega) (Nat.le_of_ble_eq_true rfl) rfl rfl (Nat.le_of_ble_eq_true rfl) ?_ ?_
                rotate_left
                · rintro E9 w9 h9; exact h9.elim
                rintro v168 w168 ⟨c168, q168, h168, rfl, Ic, Iq, Ih, z168, rfl, g168, k168⟩
                exact ne_iret X hr (by first | rfl | decide | rfl) dX3_round_171 ⟨⟨_, _, _, _, rfl, Ic, Iq, It, Ib, Itb, Igb, Ik, ne_rg_mono Ih (by omega) (by omega), Iv⟩, _, rfl, trivial⟩
              · refine ne_aload_n X dX3_round_144 rfl ?_
                refine ne_iload_n X dX3_round_145 rfl ?_
                refine ne_lload X dX3_round_146 rfl ?_
                refine ne_iload X dX3_round_148 rfl ?_
                refine ne_ineg X dX3_round_150 ?_
                refine ne_callS X nw_Tg (me_X3_ten l hl _ _ (by omega)) nw_yX3_ten nw_mX3_58 nw_sX3_ten dX3_round_151 rfl rfl (by decide) (by decide) (by first | decide | omega) (by first | decide | omega) (Nat.le_of_ble_eq_true rfl) rfl rfl (Nat.le_of_ble_eq_true rfl) ?_ ?_
                rotate_left
                · rintro E9 w9 h9; exact h9.elim
                rintro v151 w151 ⟨rfl, z151, rfl, g151, k151, i151, j151, m151, o151, p151⟩
                have n154 := ne_mul z89 z151 1000000 1000000 (by omega) (by omega)
                have n155 := ne_mul (z89.tdiv 10) z151 1000000 1000000 (by omega) (by omega)
                refine ne_lmul X dX3_round_154 ?_
                refine ne_iconst X dX3_round_155 ?_
                refine ne_callV X nw_Tg (me_X3_come l hl c q t b k h u30 T (by exact ⟨Ic, Iq, It, Ib, Itb, Igb, Ik, Ih, Iv⟩) (by omega) _ _ _ (by omega) (by omega) (by omega)) nw_yX3_come nw_mX3_76 nw_iX3_come nw_eX3_come (ci := 5) rfl rfl rfl dX3_round_156 rfl rfl (by decide) (by decide) (by first | decide | omega) (by first | decide | omega) (Nat.le_of_ble_eq_true rfl) rfl rfl (Nat.le_of_ble_eq_true rfl) ?_ ?_
                rotate_left
                · rintro E9 w9 h9; exact h9.elim
                rintro v156 w156 ⟨c156, q156, h156, rfl, Ic, Iq, Ih, z156, rfl, g156, k156⟩
                refine ne_goto (tgt := 171) X dX3_round_159 rfl ?_
                exact ne_iret X hr (by first | rfl | decide | rfl) dX3_round_171 ⟨⟨_, _, _, _, rfl, Ic, Iq, It, Ib, Itb, Igb, Ik, ne_rg_mono Ih (by omega) (by omega), Iv⟩, _, rfl, trivial⟩
            · refine ne_lload X dX3_round_128 rfl ?_
              refine ne_ldc2 (z := 10) (by decide) nw_cX3_38 X dX3_round_130 ?_
              refine ne_ldiv X dX3_round_133 (by omega) (by omega) (by omega) ?_
              refine ne_lstore X dX3_round_134 (by decide) ?_
              refine ne_ll (L' := [some (.ref 0), some (ni _), some (ni _), some (ni _), some (ni _), some (nl _), none, some (ni _)]) rfl ?_
              refine ne_iinc X dX3_round_136 rfl (by decide) ?_
              first | (refine ne_ll (L' := [some (.ref 0), some (ni i), some (ni a), some (ni w0), some (ni (z45 - a)), some (nl z89), none, some (ni (v113 - (z45 - a)))]) rfl ?_) | (refine ne_ll (L' := [some (.ref 0), some (ni i), some (ni a), some (ni w0), some (ni (z45 - a)), some (nl (z89.tdiv 10)), none, some (ni (v113 - (z45 - a) + -1))]) rfl ?_)
              refine ne_iload X dX3_round_139 rfl ?_
              refine ne_if_ge (tgt := 162) X dX3_round_141 rfl (by omega) (fun b141 => ?_) (fun b141 => ?_)
              · refine ne_aload_n X dX3_round_162 rfl ?_
                refine ne_iload_n X dX3_round_163 rfl ?_
                refine ne_lload X dX3_round_164 rfl ?_
                refine ne_iload X dX3_round_166 rfl ?_
                refine ne_callV X nw_Tg (me_X3_come l hl c q t b k h u30 T (by exact ⟨Ic, Iq, It, Ib, Itb, Igb, Ik, Ih, Iv⟩) (by omega) _ _ _ (by omega) (by omega) (by omega)) nw_yX3_come nw_mX3_76 nw_iX3_come nw_eX3_come (ci := 5) rfl rfl rfl dX3_round_168 rfl rfl (by decide) (by decide) (by first | decide | omega) (by first | decide | omega) (Nat.le_of_ble_eq_true rfl) rfl rfl (Nat.le_of_ble_eq_true rfl) ?_ ?_
                rotate_left
                · rintro E9 w9 h9; exact h9.elim
                rintro v168 w168 ⟨c168, q168, h168, rfl, Ic, Iq, Ih, z168, rfl, g168, k168⟩
                exact ne_iret X hr (by first | rfl | decide | rfl) dX3_round_171 ⟨⟨_, _, _, _, rfl, Ic, Iq, It, Ib, Itb, Igb, Ik, ne_rg_mono Ih (by omega) (by omega), Iv⟩, _, rfl, trivial⟩
              · refine ne_aload_n X dX3_round_144 rfl ?_
                refine ne_iload_n X dX3_round_145 rfl ?_
                refine ne_lload X dX3_round_146 rfl ?_
                refine ne_iload X dX3_round_148 rfl ?_
                refine ne_ineg X dX3_round_150 ?_
                refine ne_callS X nw_Tg (me_X3_ten l hl _ _ (by omega)) nw_yX3_ten nw_mX3_58 nw_sX3_ten dX3_round_151 rfl rfl (by decide) (by decide) (by first | decide | omega) (by first | decide | omega) (Nat.le_of_ble_eq_true rfl) rfl rfl (Nat.le_of_ble_eq_true rfl) ?_ ?_
                rotate_left
                · rintro E9 w9 h9; exact h9.elim
                rintro v151 w151 ⟨rfl, z151, rfl, g151, k151, i151, j151, m151, o151, p151⟩
                have n154 := ne_mul z89 z151 1000000 1000000 (by omega) (by omega)
                have n155 := ne_mul (z89.tdiv 10) z151 1000000 1000000 (by omega) (by omega)
                refine ne_lmul X dX3_round_154 ?_
                refine ne_iconst X dX3_round_155 ?_
                refine ne_callV X nw_Tg (me_X3_come l hl c q t b k h u30 T (by exact ⟨Ic, Iq, It, Ib, Itb, Igb, Ik, Ih, Iv⟩) (by omega) _ _ _ (by omega) (by omega) (by omega)) nw_yX3_come nw_mX3_76 nw_iX3_come nw_eX3_come (ci := 5) rfl rfl rfl dX3_round_156 rfl rfl (by decide) (by decide) (by first | decide | omega) (by first | decide | omega) (Nat.le_of_ble_eq_true rfl) rfl rfl (Nat.le_of_ble_eq_true rfl) ?_ ?_
                rotate_left
                · rintro E9 w9 h9; exact h9.elim
                rintro v156 w156 ⟨c156, q156, h156, rfl, Ic, Iq, Ih, z156, rfl, g156, k156⟩
                refine ne_goto (tgt := 171) X dX3_round_159 rfl ?_
                exact ne_iret X hr (by first | rfl | decide | rfl) dX3_round_171 ⟨⟨_, _, _, _, rfl, Ic, Iq, It, Ib, Itb, Igb, Ik, ne_rg_mono Ih (by omega) (by omega), Iv⟩, _, rfl, trivial⟩
          · refine ne_aload_n X dX3_round_103 rfl ?_
            refine ne_callV X nw_Tg (me_X3_nay l hl c q t b k h u30 T (by exact ⟨Ic, Iq, It, Ib, Itb, Igb, Ik, Ih, Iv⟩) (by omega) ) nw_yX3_nay nw_mX3_54 nw_iX3_nay nw_eX3_nay (ci := 5) rfl rfl rfl dX3_round_104 rfl rfl (by decide) (by decide) (by first | decide | omega) (by first | decide | omega) (Nat.le_of_ble_eq_true rfl) rfl rfl (Nat.le_of_ble_eq_true rfl) ?_ ?_
            rotate_left
            · rintro E9 w9 h9; exact h9.elim
            rintro v104 w104 ⟨h104, rfl, Ih, rfl⟩
            exact ne_iret X hr (by first | rfl | decide | rfl) dX3_round_107 ⟨⟨_, _, _, _, rfl, Ic, Iq, It, Ib, Itb, Igb, Ik, ne_rg_mono Ih (by omega) (by omega), Iv⟩, _, rfl, trivial⟩
        · refine ne_aload_n X dX3_round_57 rfl ?_
          refine ne_iload_n X dX3_round_58 rfl ?_
          refine ne_aload_n X dX3_round_59 rfl ?_
          refine ne_getf X dX3_round_60 nw_fX3_9 rfl rfl ?_
          refine ne_iload_n X dX3_round_63 rfl ?_
          refine ne_ialdR X dX3_round_64 rfl (by omega) Ic (fun v64 e64 f64 u64 => ?_)
          refine ne_i2l (by omega) X dX3_round_65 ?_
          refine ne_aload_n X dX3_round_66 rfl ?_
          refine ne_getf X dX3_round_67 nw_fX3_15 rfl rfl ?_
          refine ne_iload_n X dX3_round_70 rfl ?_
          refine ne_ialdR X dX3_round_71 rfl (by omega) Iq (fun v71 e71 f71 u71 => ?_)
          refine ne_callV X nw_Tg (me_X3_come l hl c q t b k h u30 T (by exact ⟨Ic, Iq, It, Ib, Itb, Igb, Ik, Ih, Iv⟩) (by omega) _ _ _ (by omega) (by omega) (by omega)) nw_yX3_come nw_mX3_76 nw_iX3_come nw_eX3_come (ci := 5) rfl rfl rfl dX3_round_72 rfl rfl (by decide) (by decide) (by first | decide | omega) (by first | decide | omega) (Nat.le_of_ble_eq_true rfl) rfl rfl (Nat.le_of_ble_eq_true rfl) ?_ ?_
          rotate_left
          · rintro E9 w9 h9; exact h9.elim
          rintro v72 w72 ⟨c72, q72, h72, rfl, Ic, Iq, Ih, z72, rfl, g72, k72⟩
          exact ne_iret X hr (by first | rfl | decide | rfl) dX3_round_75 ⟨⟨_, _, _, _, rfl, Ic, Iq, It, Ib, Itb, Igb, Ik, ne_rg_mono Ih (by omega) (by omega), Iv⟩, _, rfl, trivial⟩
      · refine ne_iconst X dX3_round_36 ?_
        exact ne_iret X hr (by first | rfl | decide | rfl) dX3_round_37 ⟨⟨_, _, _, _, rfl, Ic, Iq, It, Ib, Itb, Igb, Ik, ne_rg_mono Ih (by omega) (by omega), Iv⟩, _, rfl, trivial⟩
    · refine ne_iconst X dX3_round_25 ?_
      refine ne_goto (tgt := 30) X dX3_round_26 rfl ?_
      refine ne_callV X nw_Tg (me_X3_refuse l hl c q t b k h vt T (by exact ⟨Ic, Iq, It, Ib, Itb, Igb, Ik, Ih, Iv⟩) (by omega) _ _ (by omega) (by omega)) nw_yX3_refuse nw_mX3_72 nw_iX3_refuse nw_eX3_refuse (ci := 5) rfl rfl rfl dX3_round_30 rfl rfl (by decide) (by decide) (by first | decide | omega) (by first | decide | omega) (Nat.le_of_ble_eq_true rfl) rfl rfl (Nat.le_of_ble_eq_true rfl) ?_ ?_
      rotate_left
      · rintro E9 w9 h9; exact h9.elim
      rintro v30 w30 ⟨u30, rfl, Iv, z30, rfl, g30⟩
      refine ne_if_eq (tgt := 38) X dX3_round_33 rfl (by omega) (fun b33 => ?_) (fun b33 => ?_)
      · exfalso; omega
      · refine ne_iconst X dX3_round_36 ?_
        exact ne_iret X hr (by first | rfl | decide | rfl) dX3_round_37 ⟨⟨_, _, _, _, rfl, Ic, Iq, It, Ib, Itb, Igb, Ik, ne_rg_mono Ih (by omega) (by omega), Iv⟩, _, rfl, trivial⟩
set_option maxRecDepth 100000 in
set_option maxHeartbeats 4000000 in
theorem me_X3_greater (l : Launch) (hl : l.stackTraces = false) (c q t b k h : Nat → Int) (vt T : Int) (hI : mI c q t b k h vt T) (hT : 0 ≤ T ∧ T ≤ 1000) (i : Int) (j : Int) (o : Int) (hi : -2147483648 ≤ i ∧ i < 2147483648) (hj : -2147483648 ≤ j ∧ j < 2147483648) (ho : -2147483648 ≤ o ∧ o < 2147483648)  : ne_M l nw_cl (.code yX3_greater cX3_greater 5 (some .int)) nw_T yX3_greater 9 330 0 0 [.ref 0, ni i, ni j, ni o] (mW c q t b k h vt) (fun v w => (∃ c1 q1 h1 v1, w = mW c1 q1 t b k h1 v1 ∧ mI c1 q1 t b k h1 v1 (T + 1)) ∧ ∃ z : Int, v = some (ni z) ∧ True) (fun _ _ => False) := by
  refine ne_meet (own := RX3) hl rfl (by decide +kernel) (Nat.le_of_ble_eq_true rfl) ?_
  intro D ct A P9 V9 R9 S9 M9 as9 bl9 mt9 C9 ad0 X hr hin ht
  obtain ⟨Ic, Iq, It, Ib, Itb, Igb, Ik, Ih, Iv⟩ := hI
  refine ne_aload_n X dX3_greater_0 rfl ?_
  refine ne_aload_n X dX3_greater_1 rfl ?_
  refine ne_iload_n X dX3_greater_2 rfl ?_
  refine ne_iload_n X dX3_greater_3 rfl ?_
  refine ne_iload_n X dX3_greater_4 rfl ?_
  refine ne_callV X nw_Tg (me_X3_areNoCells l hl c q t b k h vt T (by exact ⟨Ic, Iq, It, Ib, Itb, Igb, Ik, Ih, Iv⟩) (by omega) _ _ _ (by omega) (by omega) (by omega)) nw_yX3_areNoCells nw_mX3_80 nw_iX3_areNoCells nw_eX3_areNoCells (ci := 5) rfl rfl rfl dX3_greater_5 rfl rfl (by decide) (by decide) (by first | decide | omega) (by first | decide | omega) (Nat.le_of_ble_eq_true rfl) rfl rfl (Nat.le_of_ble_eq_true rfl) ?_ ?_
  rotate_left
  · rintro E9 w9 h9; exact h9.elim
  rintro v5 w5 ⟨rfl, z5, rfl, g5⟩
  refine ne_iconst X dX3_greater_8 ?_
  refine ne_callV X nw_Tg (me_X3_refuse l hl c q t b k h vt T (by exact ⟨Ic, Iq, It, Ib, Itb, Igb, Ik, Ih, Iv⟩) (by omega) _ _ (by omega) (by omega)) nw_yX3_refuse nw_mX3_72 nw_iX3_refuse nw_eX3_refuse (ci := 5) rfl rfl rfl dX3_greater_9 rfl rfl (by decide) (by decide) (by first | decide | omega) (by first | decide | omega) (Nat.le_of_ble_eq_true rfl) rfl rfl (Nat.le_of_ble_eq_true rfl) ?_ ?_
  rotate_left
  · rintro E9 w9 h9; exact h9.elim
  rintro v9 w9 ⟨u9, rfl, Iv, z9, rfl, g9⟩
  refine ne_if_eq (tgt := 17) X dX3_greater_12 rfl (by omega) (fun b12 => ?_) (fun b12 => ?_)
  · have hk9 : ((0 ≤ i ∧ i < 4 ∧ 0 ≤ j ∧ j < 4 ∧ 0 ≤ o ∧ o < 4)) ∧ u9 = 0 := by omega
    try clear g5
    try clear g9
    try clear b12
    refine ne_aload_n X dX3_greater_17 rfl ?_
    refine ne_iload_n X dX3_greater_18 rfl ?_
    refine ne_iload_n X dX3_greater_19 rfl ?_
    refine ne_callV X nw_Tg (me_X3_ordered l hl c q t b k h u9 T (by exact ⟨Ic, Iq, It, Ib, Itb, Igb, Ik, Ih, Iv⟩) (by omega) _ _ (by omega) (by omega)) nw_yX3_ordered nw_mX3_101 nw_iX3_ordered nw_eX3_ordered (ci := 5) rfl rfl rfl dX3_greater_20 rfl rfl (by decide) (by decide) (by first | decide | omega) (by first | decide | omega) (Nat.le_of_ble_eq_true rfl) rfl rfl (Nat.le_of_ble_eq_true rfl) ?_ ?_
    rotate_left
    · rintro E9 w9 h9; exact h9.elim
    rintro v20 w20 ⟨rfl, z20, rfl, g20, k20⟩
    refine ne_if_ge (tgt := 30) X dX3_greater_23 rfl (by omega) (fun b23 => ?_) (fun b23 => ?_)
    · refine ne_iload_n X dX3_greater_30 rfl ?_
      refine ne_istore X dX3_greater_31 (by decide) ?_
      refine ne_aload_n X dX3_greater_33 rfl ?_
      refine ne_iload_n X dX3_greater_34 rfl ?_
      refine ne_aload_n X dX3_greater_35 rfl ?_
      refine ne_getf X dX3_greater_36 nw_fX3_9 rfl rfl ?_
      refine ne_iload X dX3_greater_39 rfl ?_
      refine ne_ialdR X dX3_greater_41 rfl (by omega) Ic (fun v41 e41 f41 u41 => ?_)
      refine ne_i2l (by omega) X dX3_greater_42 ?_
      refine ne_aload_n X dX3_greater_43 rfl ?_
      refine ne_getf X dX3_greater_44 nw_fX3_15 rfl rfl ?_
      refine ne_iload X dX3_greater_47 rfl ?_
      refine ne_ialdR X dX3_greater_49 rfl (by omega) Iq (fun v49 e49 f49 u49 => ?_)
      refine ne_callV X nw_Tg (me_X3_come l hl c q t b k h u9 T (by exact ⟨Ic, Iq, It, Ib, Itb, Igb, Ik, Ih, Iv⟩) (by omega) _ _ _ (by omega) (by omega) (by omega)) nw_yX3_come nw_mX3_76 nw_iX3_come nw_eX3_come (ci := 5) rfl rfl rfl dX3_greater_50 rfl rfl (by decide) (by decide) (by first | decide | omega) (by first | decide | omega) (Nat.le_of_ble_eq_true rfl) rfl rfl (Nat.le_of_ble_eq_true rfl) ?_ ?_
      rotate_left
      · rintro E9 w9 h9; exact h9.elim
      rintro v50 w50 ⟨c50, q50, h50, rfl, Ic, Iq, Ih, z50, rfl, g50, k50⟩
      exact ne_iret X hr (by first | rfl | decide | rfl) dX3_greater_53 ⟨⟨_, _, _, _, rfl, Ic, Iq, It, Ib, Itb, Igb, Ik, ne_rg_mono Ih (by omega) (by omega), Iv⟩, _, rfl, trivial⟩
    · refine ne_iload_n X dX3_greater_26 rfl ?_
      refine ne_goto (tgt := 31) X dX3_greater_27 rfl ?_
      refine ne_istore X dX3_greater_31 (by decide) ?_
      refine ne_aload_n X dX3_greater_33 rfl ?_
      refine ne_iload_n X dX3_greater_34 rfl ?_
      refine ne_aload_n X dX3_greater_35 rfl ?_
      refine ne_getf X dX3_greater_36 nw_fX3_9 rfl rfl ?_
      refine ne_iload X dX3_greater_39 rfl ?_
      refine ne_ialdR X dX3_greater_41 rfl (by omega) Ic (fun v41 e41 f41 u41 => ?_)
      refine ne_i2l (by omega) X dX3_greater_42 ?_
      refine ne_aload_n X dX3_greater_43 rfl ?_
      refine ne_getf X dX3_greater_44 nw_fX3_15 rfl rfl ?_
      refine ne_iload X dX3_greater_47 rfl ?_
      refine ne_ialdR X dX3_greater_49 rfl (by omega) Iq (fun v49 e49 f49 u49 => ?_)
      refine ne_callV X nw_Tg (me_X3_come l hl c q t b k h u9 T (by exact ⟨Ic, Iq, It, Ib, Itb, Igb, Ik, Ih, Iv⟩) (by omega) _ _ _ (by omega) (by omega) (by omega)) nw_yX3_come nw_mX3_76 nw_iX3_come nw_eX3_come (ci := 5) rfl rfl rfl dX3_greater_50 rfl rfl (by decide) (by decide) (by first | decide | omega) (by first | decide | omega) (Nat.le_of_ble_eq_true rfl) rfl rfl (Nat.le_of_ble_eq_true rfl) ?_ ?_
      rotate_left
      · rintro E9 w9 h9; exact h9.elim
      rintro v50 w50 ⟨c50, q50, h50, rfl, Ic, Iq, Ih, z50, rfl, g50, k50⟩
      exact ne_iret X hr (by first | rfl | decide | rfl) dX3_greater_53 ⟨⟨_, _, _, _, rfl, Ic, Iq, It, Ib, Itb, Igb, Ik, ne_rg_mono Ih (by omega) (by omega), Iv⟩, _, rfl, trivial⟩
  · refine ne_iconst X dX3_greater_15 ?_
    exact ne_iret X hr (by first | rfl | decide | rfl) dX3_greater_16 ⟨⟨_, _, _, _, rfl, Ic, Iq, It, Ib, Itb, Igb, Ik, ne_rg_mono Ih (by omega) (by omega), Iv⟩, _, rfl, trivial⟩
set_option maxRecDepth 100000 in
set_option maxHeartbeats 4000000 in
theorem me_X3_lesser (l : Launch) (hl : l.stackTraces = false) (c q t b k h : Nat → Int) (vt T : Int) (hI : mI c q t b k h vt T) (hT : 0 ≤ T ∧ T ≤ 1000) (i : Int) (j : Int) (o : Int) (hi : -2147483648 ≤ i ∧ i < 2147483648) (hj : -2147483648 ≤ j ∧ j < 2147483648) (ho : -2147483648 ≤ o ∧ o < 2147483648)  : ne_M l nw_cl (.code yX3_lesser cX3_lesser 5 (some .int)) nw_T yX3_lesser 9 330 0 0 [.ref 0, ni i, ni j, ni o] (mW c q t b k h vt) (fun v w => (∃ c1 q1 h1 v1, w = mW c1 q1 t b k h1 v1 ∧ mI c1 q1 t b k h1 v1 (T + 1)) ∧ ∃ z : Int, v = some (ni z) ∧ True) (fun _ _ => False) := by
  refine ne_meet (own := RX3) hl rfl (by decide +kernel) (Nat.le_of_ble_eq_true rfl) ?_
  intro D ct A P9 V9 R9 S9 M9 as9 bl9 mt9 C9 ad0 X hr hin ht
  obtain ⟨Ic, Iq, It, Ib, Itb, Igb, Ik, Ih, Iv⟩ := hI
  refine ne_aload_n X dX3_lesser_0 rfl ?_
  refine ne_aload_n X dX3_lesser_1 rfl ?_
  refine ne_iload_n X dX3_lesser_2 rfl ?_
  refine ne_iload_n X dX3_lesser_3 rfl ?_
  refine ne_iload_n X dX3_lesser_4 rfl ?_
  refine ne_callV X nw_Tg (me_X3_areNoCells l hl c q t b k h vt T (by exact ⟨Ic, Iq, It, Ib, Itb, Igb, Ik, Ih, Iv⟩) (by omega) _ _ _ (by omega) (by omega) (by omega)) nw_yX3_areNoCells nw_mX3_80 nw_iX3_areNoCells nw_eX3_areNoCells (ci := 5) rfl rfl rfl dX3_lesser_5 rfl rfl (by decide) (by decide) (by first | decide | omega) (by first | decide | omega) (Nat.le_of_ble_eq_true rfl) rfl rfl (Nat.le_of_ble_eq_true rfl) ?_ ?_
  rotate_left
  · rintro E9 w9 h9; exact h9.elim
  rintro v5 w5 ⟨rfl, z5, rfl, g5⟩
  refine ne_iconst X dX3_lesser_8 ?_
  refine ne_callV X nw_Tg (me_X3_refuse l hl c q t b k h vt T (by exact ⟨Ic, Iq, It, Ib, Itb, Igb, Ik, Ih, Iv⟩) (by omega) _ _ (by omega) (by omega)) nw_yX3_refuse nw_mX3_72 nw_iX3_refuse nw_eX3_refuse (ci := 5) rfl rfl rfl dX3_lesser_9 rfl rfl (by decide) (by decide) (by first | decide | omega) (by first | decide | omega) (Nat.le_of_ble_eq_true rfl) rfl rfl (Nat.le_of_ble_eq_true rfl) ?_ ?_
  rotate_left
  · rintro E9 w9 h9; exact h9.elim
  rintro v9 w9 ⟨u9, rfl, Iv, z9, rfl, g9⟩
  refine ne_if_eq (tgt := 17) X dX3_lesser_12 rfl (by omega) (fun b12 => ?_) (fun b12 => ?_)
  · have hk9 : ((0 ≤ i ∧ i < 4 ∧ 0 ≤ j ∧ j < 4 ∧ 0 ≤ o ∧ o < 4)) ∧ u9 = 0 := by omega
    try clear g5
    try clear g9
    try clear b12
    refine ne_aload_n X dX3_lesser_17 rfl ?_
    refine ne_iload_n X dX3_lesser_18 rfl ?_
    refine ne_iload_n X dX3_lesser_19 rfl ?_
    refine ne_callV X nw_Tg (me_X3_ordered l hl c q t b k h u9 T (by exact ⟨Ic, Iq, It, Ib, Itb, Igb, Ik, Ih, Iv⟩) (by omega) _ _ (by omega) (by omega)) nw_yX3_ordered nw_mX3_101 nw_iX3_ordered nw_eX3_ordered (ci := 5) rfl rfl rfl dX3_lesser_20 rfl rfl (by decide) (by decide) (by first | decide | omega) (by first | decide | omega) (Nat.le_of_ble_eq_true rfl) rfl rfl (Nat.le_of_ble_eq_true rfl) ?_ ?_
    rotate_left
    · rintro E9 w9 h9; exact h9.elim
    rintro v20 w20 ⟨rfl, z20, rfl, g20, k20⟩
    refine ne_if_le (tgt := 30) X dX3_lesser_23 rfl (by omega) (fun b23 => ?_) (fun b23 => ?_)
    · refine ne_iload_n X dX3_lesser_30 rfl ?_
      refine ne_istore X dX3_lesser_31 (by decide) ?_
      refine ne_aload_n X dX3_lesser_33 rfl ?_
      refine ne_iload_n X dX3_lesser_34 rfl ?_
      refine ne_aload_n X dX3_lesser_35 rfl ?_
      refine ne_getf X dX3_lesser_36 nw_fX3_9 rfl rfl ?_
      refine ne_iload X dX3_lesser_39 rfl ?_
      refine ne_ialdR X dX3_lesser_41 rfl (by omega) Ic (fun v41 e41 f41 u41 => ?_)
      refine ne_i2l (by omega) X dX3_lesser_42 ?_
      refine ne_aload_n X dX3_lesser_43 rfl ?_
      refine ne_getf X dX3_lesser_44 nw_fX3_15 rfl rfl ?_
      refine ne_iload X dX3_lesser_47 rfl ?_
      refine ne_ialdR X dX3_lesser_49 rfl (by omega) Iq (fun v49 e49 f49 u49 => ?_)
      refine ne_callV X nw_Tg (me_X3_come l hl c q t b k h u9 T (by exact ⟨Ic, Iq, It, Ib, Itb, Igb, Ik, Ih, Iv⟩) (by omega) _ _ _ (by omega) (by omega) (by omega)) nw_yX3_come nw_mX3_76 nw_iX3_come nw_eX3_come (ci := 5) rfl rfl rfl dX3_lesser_50 rfl rfl (by decide) (by decide) (by first | decide | omega) (by first | decide | omega) (Nat.le_of_ble_eq_true rfl) rfl rfl (Nat.le_of_ble_eq_true rfl) ?_ ?_
      rotate_left
      · rintro E9 w9 h9; exact h9.elim
      rintro v50 w50 ⟨c50, q50, h50, rfl, Ic, Iq, Ih, z50, rfl, g50, k50⟩
      exact ne_iret X hr (by first | rfl | decide | rfl) dX3_lesser_53 ⟨⟨_, _, _, _, rfl, Ic, Iq, It, Ib, Itb, Igb, Ik, ne_rg_mono Ih (by omega) (by omega), Iv⟩, _, rfl, trivial⟩
    · refine ne_iload_n X dX3_lesser_26 rfl ?_
      refine ne_goto (tgt := 31) X dX3_lesser_27 rfl ?_
      refine ne_istore X dX3_lesser_31 (by decide) ?_
      refine ne_aload_n X dX3_lesser_33 rfl ?_
      refine ne_iload_n X dX3_lesser_34 rfl ?_
      refine ne_aload_n X dX3_lesser_35 rfl ?_
      refine ne_getf X dX3_lesser_36 nw_fX3_9 rfl rfl ?_
      refine ne_iload X dX3_lesser_39 rfl ?_
      refine ne_ialdR X dX3_lesser_41 rfl (by omega) Ic (fun v41 e41 f41 u41 => ?_)
      refine ne_i2l (by omega) X dX3_lesser_42 ?_
      refine ne_aload_n X dX3_lesser_43 rfl ?_
      refine ne_getf X dX3_lesser_44 nw_fX3_15 rfl rfl ?_
      refine ne_iload X dX3_lesser_47 rfl ?_
      refine ne_ialdR X dX3_lesser_49 rfl (by omega) Iq (fun v49 e49 f49 u49 => ?_)
      refine ne_callV X nw_Tg (me_X3_come l hl c q t b k h u9 T (by exact ⟨Ic, Iq, It, Ib, Itb, Igb, Ik, Ih, Iv⟩) (by omega) _ _ _ (by omega) (by omega) (by omega)) nw_yX3_come nw_mX3_76 nw_iX3_come nw_eX3_come (ci := 5) rfl rfl rfl dX3_lesser_50 rfl rfl (by decide) (by decide) (by first | decide | omega) (by first | decide | omega) (Nat.le_of_ble_eq_true rfl) rfl rfl (Nat.le_of_ble_eq_true rfl) ?_ ?_
      rotate_left
      · rintro E9 w9 h9; exact h9.elim
      rintro v50 w50 ⟨c50, q50, h50, rfl, Ic, Iq, Ih, z50, rfl, g50, k50⟩
      exact ne_iret X hr (by first | rfl | decide | rfl) dX3_lesser_53 ⟨⟨_, _, _, _, rfl, Ic, Iq, It, Ib, Itb, Igb, Ik, ne_rg_mono Ih (by omega) (by omega), Iv⟩, _, rfl, trivial⟩
  · refine ne_iconst X dX3_lesser_15 ?_
    exact ne_iret X hr (by first | rfl | decide | rfl) dX3_lesser_16 ⟨⟨_, _, _, _, rfl, Ic, Iq, It, Ib, Itb, Igb, Ik, ne_rg_mono Ih (by omega) (by omega), Iv⟩, _, rfl, trivial⟩
set_option maxRecDepth 100000 in
set_option maxHeartbeats 4000000 in
theorem me_X3_cut (l : Launch) (hl : l.stackTraces = false) (c q t b k h : Nat → Int) (vt T : Int) (hI : mI c q t b k h vt T) (hT : 0 ≤ T ∧ T ≤ 1000) (i : Int) (m : Int) (p : Int) (w0 : Int) (o : Int) (hi : -2147483648 ≤ i ∧ i < 2147483648) (hm : 0 ≤ m ∧ m ≤ 1) (hp : -2147483648 ≤ p ∧ p < 2147483648) (hw0 : -2147483648 ≤ w0 ∧ w0 < 2147483648) (ho : -2147483648 ≤ o ∧ o < 2147483648)  : ne_M l nw_cl (.code yX3_cut cX3_cut 6 (some .int)) nw_T yX3_cut 9 330 0 0 [.ref 0, ni i, ni m, ni p, ni w0, ni o] (mW c q t b k h vt) (fun v w => (∃ c1 q1 h1 v1, w = mW c1 q1 t b k h1 v1 ∧ mI c1 q1 t b k h1 v1 (T + 1)) ∧ ∃ z : Int, v = some (ni z) ∧ True) (fun _ _ => False) := by
  refine ne_meet (own := RX3) hl rfl (by decide +kernel) (Nat.le_of_ble_eq_true rfl) ?_
  intro D ct A P9 V9 R9 S9 M9 as9 bl9 mt9 C9 ad0 X hr hin ht
  obtain ⟨Ic, Iq, It, Ib, Itb, Igb, Ik, Ih, Iv⟩ := hI
  refine ne_aload_n X dX3_cut_0 rfl ?_
  refine ne_iload_n X dX3_cut_1 rfl ?_
  refine ne_callS X nw_Tg (me_X3_isNoWheel l hl _ _ (by omega)) nw_yX3_isNoWheel nw_mX3_104 nw_sX3_isNoWheel dX3_cut_2 rfl rfl (by decide) (by decide) (by first | decide | omega) (by first | decide | omega) (Nat.le_of_ble_eq_true rfl) rfl rfl (Nat.le_of_ble_eq_true rfl) ?_ ?_
  rotate_left
  · rintro E9 w9 h9; exact h9.elim
  rintro v2 w2 ⟨rfl, z2, rfl, g2⟩
  refine ne_if_ne (tgt := 16) X dX3_cut_5 rfl (by omega) (fun b5 => ?_) (fun b5 => ?_)
  · refine ne_iconst X dX3_cut_16 ?_
    refine ne_goto (tgt := 21) X dX3_cut_17 rfl ?_
    refine ne_iload_n X dX3_cut_21 rfl ?_
    refine ne_iload X dX3_cut_22 rfl ?_
    refine ne_iconst X dX3_cut_24 ?_
    refine ne_callS X nw_Tg (me_X3_isNoCut l hl _ _ _ _ (by omega) (by omega) (by omega)) nw_yX3_isNoCut nw_mX3_87 nw_sX3_isNoCut dX3_cut_25 rfl rfl (by decide) (by decide) (by first | decide | omega) (by first | decide | omega) (Nat.le_of_ble_eq_true rfl) rfl rfl (Nat.le_of_ble_eq_true rfl) ?_ ?_
    rotate_left
    · rintro E9 w9 h9; exact h9.elim
    rintro v25 w25 ⟨rfl, z25, rfl, g25⟩
    refine ne_callV X nw_Tg (me_X3_refuse l hl c q t b k h vt T (by exact ⟨Ic, Iq, It, Ib, Itb, Igb, Ik, Ih, Iv⟩) (by omega) _ _ (by omega) (by omega)) nw_yX3_refuse nw_mX3_72 nw_iX3_refuse nw_eX3_refuse (ci := 5) rfl rfl rfl dX3_cut_28 rfl rfl (by decide) (by decide) (by first | decide | omega) (by first | decide | omega) (Nat.le_of_ble_eq_true rfl) rfl rfl (Nat.le_of_ble_eq_true rfl) ?_ ?_
    rotate_left
    · rintro E9 w9 h9; exact h9.elim
    rintro v28 w28 ⟨u28, rfl, Iv, z28, rfl, g28⟩
    refine ne_if_eq (tgt := 36) X dX3_cut_31 rfl (by omega) (fun b31 => ?_) (fun b31 => ?_)
    · exfalso; omega
    · refine ne_iconst X dX3_cut_34 ?_
      exact ne_iret X hr (by first | rfl | decide | rfl) dX3_cut_35 ⟨⟨_, _, _, _, rfl, Ic, Iq, It, Ib, Itb, Igb, Ik, ne_rg_mono Ih (by omega) (by omega), Iv⟩, _, rfl, trivial⟩
  · refine ne_iload X dX3_cut_8 rfl ?_
    refine ne_callS X nw_Tg (me_X3_isNoCell l hl _ _ (by omega)) nw_yX3_isNoCell nw_mX3_66 nw_sX3_isNoCell dX3_cut_10 rfl rfl (by decide) (by decide) (by first | decide | omega) (by first | decide | omega) (Nat.le_of_ble_eq_true rfl) rfl rfl (Nat.le_of_ble_eq_true rfl) ?_ ?_
    rotate_left
    · rintro E9 w9 h9; exact h9.elim
    rintro v10 w10 ⟨rfl, z10, rfl, g10⟩
    refine ne_if_eq (tgt := 20) X dX3_cut_13 rfl (by omega) (fun b13 => ?_) (fun b13 => ?_)
    · refine ne_iconst X dX3_cut_20 ?_
      refine ne_iload_n X dX3_cut_21 rfl ?_
      refine ne_iload X dX3_cut_22 rfl ?_
      refine ne_iconst X dX3_cut_24 ?_
      refine ne_callS X nw_Tg (me_X3_isNoCut l hl _ _ _ _ (by omega) (by omega) (by omega)) nw_yX3_isNoCut nw_mX3_87 nw_sX3_isNoCut dX3_cut_25 rfl rfl (by decide) (by decide) (by first | decide | omega) (by first | decide | omega) (Nat.le_of_ble_eq_true rfl) rfl rfl (Nat.le_of_ble_eq_true rfl) ?_ ?_
      rotate_left
      · rintro E9 w9 h9; exact h9.elim
      rintro v25 w25 ⟨rfl, z25, rfl, g25⟩
      refine ne_callV X nw_Tg (me_X3_refuse l hl c q t b k h vt T (by exact ⟨Ic, Iq, It, Ib, Itb, Igb, Ik, Ih, Iv⟩) (by omega) _ _ (by omega) (by omega)) nw_yX3_refuse nw_mX3_72 nw_iX3_refuse nw_eX3_refuse (ci := 5) rfl rfl rfl dX3_cut_28 rfl rfl (by decide) (by decide) (by first | decide | omega) (by first | decide | omega) (Nat.le_of_ble_eq_true rfl) rfl rfl (Nat.le_of_ble_eq_true rfl) ?_ ?_
      rotate_left
      · rintro E9 w9 h9; exact h9.elim
      rintro v28 w28 ⟨u28, rfl, Iv, z28, rfl, g28⟩
      refine ne_if_eq (tgt := 36) X dX3_cut_31 rfl (by omega) (fun b31 => ?_) (fun b31 => ?_)
      · have hk9 : (((0 ≤ i ∧ i < 3 ∧ 0 ≤ o ∧ o < 4) ∧ 0 ≤ p ∧ p ≤ 3 ∧ 0 ≤ w0 ∧ w0 ≤ 7)) ∧ u28 = 0 := by omega
        try clear g2
        try clear b5
        try clear g10
        try clear b13
        try clear g25
        try clear g28
        try clear b31
        refine ne_aload_n X dX3_cut_36 rfl ?_
        refine ne_iload X dX3_cut_37 rfl ?_
        refine ne_aload_n X dX3_cut_39 rfl ?_
        refine ne_iload_n X dX3_cut_40 rfl ?_
        refine ne_iload_n X dX3_cut_41 rfl ?_
        refine ne_iload_n X dX3_cut_42 rfl ?_
        refine ne_iload X dX3_cut_43 rfl ?_
        refine ne_callV X nw_Tg (me_X3_cutOf l hl c q t b k h u28 T (by exact ⟨Ic, Iq, It, Ib, Itb, Igb, Ik, Ih, Iv⟩) (by omega) _ _ _ _ (by omega) (by omega) (by omega) (by omega)) nw_yX3_cutOf nw_mX3_107 nw_iX3_cutOf nw_eX3_cutOf (ci := 5) rfl rfl rfl dX3_cut_45 rfl rfl (by decide) (by decide) (by first | decide | omega) (by first | decide | omega) (Nat.le_of_ble_eq_true rfl) rfl rfl (Nat.le_of_ble_eq_true rfl) ?_ ?_
        rotate_left
        · rintro E9 w9 h9; exact h9.elim
        rintro v45 w45 ⟨rfl, z45, rfl, g45⟩
        refine ne_iload_n X dX3_cut_48 rfl ?_
        refine ne_callV X nw_Tg (me_X3_come l hl c q t b k h u28 T (by exact ⟨Ic, Iq, It, Ib, Itb, Igb, Ik, Ih, Iv⟩) (by omega) _ _ _ (by omega) (by omega) (by omega)) nw_yX3_come nw_mX3_76 nw_iX3_come nw_eX3_come (ci := 5) rfl rfl rfl dX3_cut_49 rfl rfl (by decide) (by decide) (by first | decide | omega) (by first | decide | omega) (Nat.le_of_ble_eq_true rfl) rfl rfl (Nat.le_of_ble_eq_true rfl) ?_ ?_
        rotate_left
        · rintro E9 w9 h9; exact h9.elim
        rintro v49 w49 ⟨c49, q49, h49, rfl, Ic, Iq, Ih, z49, rfl, g49, k49⟩
        exact ne_iret X hr (by first | rfl | decide | rfl) dX3_cut_52 ⟨⟨_, _, _, _, rfl, Ic, Iq, It, Ib, Itb, Igb, Ik, ne_rg_mono Ih (by omega) (by omega), Iv⟩, _, rfl, trivial⟩
      · refine ne_iconst X dX3_cut_34 ?_
        exact ne_iret X hr (by first | rfl | decide | rfl) dX3_cut_35 ⟨⟨_, _, _, _, rfl, Ic, Iq, It, Ib, Itb, Igb, Ik, ne_rg_mono Ih (by omega) (by omega), Iv⟩, _, rfl, trivial⟩
    · refine ne_iconst X dX3_cut_16 ?_
      refine ne_goto (tgt := 21) X dX3_cut_17 rfl ?_
      refine ne_iload_n X dX3_cut_21 rfl ?_
      refine ne_iload X dX3_cut_22 rfl ?_
      refine ne_iconst X dX3_cut_24 ?_
      refine ne_callS X nw_Tg (me_X3_isNoCut l hl _ _ _ _ (by omega) (by omega) (by omega)) nw_yX3_isNoCut nw_mX3_87 nw_sX3_isNoCut dX3_cut_25 rfl rfl (by decide) (by decide) (by first | decide | omega) (by first | decide | omega) (Nat.le_of_ble_eq_true rfl) rfl rfl (Nat.le_of_ble_eq_true rfl) ?_ ?_
      rotate_left
      · rintro E9 w9 h9; exact h9.elim
      rintro v25 w25 ⟨rfl, z25, rfl, g25⟩
      refine ne_callV X nw_Tg (me_X3_refuse l hl c q t b k h vt T (by exact ⟨Ic, Iq, It, Ib, Itb, Igb, Ik, Ih, Iv⟩) (by omega) _ _ (by omega) (by omega)) nw_yX3_refuse nw_mX3_72 nw_iX3_refuse nw_eX3_refuse (ci := 5) rfl rfl rfl dX3_cut_28 rfl rfl (by decide) (by decide) (by first | decide | omega) (by first | decide | omega) (Nat.le_of_ble_eq_true rfl) rfl rfl (Nat.le_of_ble_eq_true rfl) ?_ ?_
      rotate_left
      · rintro E9 w9 h9; exact h9.elim
      rintro v28 w28 ⟨u28, rfl, Iv, z28, rfl, g28⟩
      refine ne_if_eq (tgt := 36) X dX3_cut_31 rfl (by omega) (fun b31 => ?_) (fun b31 => ?_)
      · exfalso; omega
      · refine ne_iconst X dX3_cut_34 ?_
        exact ne_iret X hr (by first | rfl | decide | rfl) dX3_cut_35 ⟨⟨_, _, _, _, rfl, Ic, Iq, It, Ib, Itb, Igb, Ik, ne_rg_mono Ih (by omega) (by omega), Iv⟩, _, rfl, trivial⟩
set_option maxRecDepth 100000 in
set_option maxHeartbeats 4000000 in
theorem me_X3_count (l : Launch) (hl : l.stackTraces = false) (c q t b k h : Nat → Int) (vt T : Int) (hI : mI c q t b k h vt T) (hT : 0 ≤ T ∧ T ≤ 1000) (i : Int) (hi : -2147483648 ≤ i ∧ i < 2147483648)  : ne_M l nw_cl (.code yX3_count cX3_count 2 (some .int)) nw_T yX3_count 9 330 0 0 [.ref 0, ni i] (mW c q t b k h vt) (fun v w => (∃ c1 q1 h1 v1, w = mW c1 q1 t b k h1 v1 ∧ mI c1 q1 t b k h1 v1 (T + 1)) ∧ ∃ z : Int, v = some (ni z) ∧ True) (fun _ _ => False) := by
  refine ne_meet (own := RX3) hl rfl (by decide +kernel) (Nat.le_of_ble_eq_true rfl) ?_
  intro D ct A P9 V9 R9 S9 M9 as9 bl9 mt9 C9 ad0 X hr hin ht
  obtain ⟨Ic, Iq, It, Ib, Itb, Igb, Ik, Ih, Iv⟩ := hI
  refine ne_aload_n X dX3_count_0 rfl ?_
  refine ne_iload_n X dX3_count_1 rfl ?_
  refine ne_callS X nw_Tg (me_X3_isNoCell l hl _ _ (by omega)) nw_yX3_isNoCell nw_mX3_66 nw_sX3_isNoCell dX3_count_2 rfl rfl (by decide) (by decide) (by first | decide | omega) (by first | decide | omega) (Nat.le_of_ble_eq_true rfl) rfl rfl (Nat.le_of_ble_eq_true rfl) ?_ ?_
  rotate_left
  · rintro E9 w9 h9; exact h9.elim
  rintro v2 w2 ⟨rfl, z2, rfl, g2⟩
  refine ne_iconst X dX3_count_5 ?_
  refine ne_callV X nw_Tg (me_X3_refuse l hl c q t b k h vt T (by exact ⟨Ic, Iq, It, Ib, Itb, Igb, Ik, Ih, Iv⟩) (by omega) _ _ (by omega) (by omega)) nw_yX3_refuse nw_mX3_72 nw_iX3_refuse nw_eX3_refuse (ci := 5) rfl rfl rfl dX3_count_6 rfl rfl (by decide) (by decide) (by first | decide | omega) (by first | decide | omega) (Nat.le_of_ble_eq_true rfl) rfl rfl (Nat.le_of_ble_eq_true rfl) ?_ ?_
  rotate_left
  · rintro E9 w9 h9; exact h9.elim
  rintro v6 w6 ⟨u6, rfl, Iv, z6, rfl, g6⟩
  refine ne_if_eq (tgt := 16) X dX3_count_9 rfl (by omega) (fun b9 => ?_) (fun b9 => ?_)
  · refine ne_aload_n X dX3_count_16 rfl ?_
    refine ne_getf X dX3_count_17 nw_fX3_9 rfl rfl ?_
    refine ne_iload_n X dX3_count_20 rfl ?_
    refine ne_ialdR X dX3_count_21 rfl (by omega) Ic (fun v21 e21 f21 u21 => ?_)
    exact ne_iret X hr (by first | rfl | decide | rfl) dX3_count_22 ⟨⟨_, _, _, _, rfl, Ic, Iq, It, Ib, Itb, Igb, Ik, ne_rg_mono Ih (by omega) (by omega), Iv⟩, _, rfl, trivial⟩
  · refine ne_iconst X dX3_count_12 ?_
    refine ne_goto (tgt := 22) X dX3_count_13 rfl ?_
    exact ne_iret X hr (by first | rfl | decide | rfl) dX3_count_22 ⟨⟨_, _, _, _, rfl, Ic, Iq, It, Ib, Itb, Igb, Ik, ne_rg_mono Ih (by omega) (by omega), Iv⟩, _, rfl, trivial⟩
set_option maxRecDepth 100000 in
set_option maxHeartbeats 4000000 in
theorem me_X3_places (l : Launch) (hl : l.stackTraces = false) (c q t b k h : Nat → Int) (vt T : Int) (hI : mI c q t b k h vt T) (hT : 0 ≤ T ∧ T ≤ 1000) (i : Int) (hi : -2147483648 ≤ i ∧ i < 2147483648)  : ne_M l nw_cl (.code yX3_places cX3_places 2 (some .int)) nw_T yX3_places 9 330 0 0 [.ref 0, ni i] (mW c q t b k h vt) (fun v w => (∃ c1 q1 h1 v1, w = mW c1 q1 t b k h1 v1 ∧ mI c1 q1 t b k h1 v1 (T + 1)) ∧ ∃ z : Int, v = some (ni z) ∧ True) (fun _ _ => False) := by
  refine ne_meet (own := RX3) hl rfl (by decide +kernel) (Nat.le_of_ble_eq_true rfl) ?_
  intro D ct A P9 V9 R9 S9 M9 as9 bl9 mt9 C9 ad0 X hr hin ht
  obtain ⟨Ic, Iq, It, Ib, Itb, Igb, Ik, Ih, Iv⟩ := hI
  refine ne_aload_n X dX3_places_0 rfl ?_
  refine ne_iload_n X dX3_places_1 rfl ?_
  refine ne_callS X nw_Tg (me_X3_isNoCell l hl _ _ (by omega)) nw_yX3_isNoCell nw_mX3_66 nw_sX3_isNoCell dX3_places_2 rfl rfl (by decide) (by decide) (by first | decide | omega) (by first | decide | omega) (Nat.le_of_ble_eq_true rfl) rfl rfl (Nat.le_of_ble_eq_true rfl) ?_ ?_
  rotate_left
  · rintro E9 w9 h9; exact h9.elim
  rintro v2 w2 ⟨rfl, z2, rfl, g2⟩
  refine ne_iconst X dX3_places_5 ?_
  refine ne_callV X nw_Tg (me_X3_refuse l hl c q t b k h vt T (by exact ⟨Ic, Iq, It, Ib, Itb, Igb, Ik, Ih, Iv⟩) (by omega) _ _ (by omega) (by omega)) nw_yX3_refuse nw_mX3_72 nw_iX3_refuse nw_eX3_refuse (ci := 5) rfl rfl rfl dX3_places_6 rfl rfl (by decide) (by decide) (by first | decide | omega) (by first | decide | omega) (Nat.le_of_ble_eq_true rfl) rfl rfl (Nat.le_of_ble_eq_true rfl) ?_ ?_
  rotate_left
  · rintro E9 w9 h9; exact h9.elim
  rintro v6 w6 ⟨u6, rfl, Iv, z6, rfl, g6⟩
  refine ne_if_eq (tgt := 16) X dX3_places_9 rfl (by omega) (fun b9 => ?_) (fun b9 => ?_)
  · refine ne_aload_n X dX3_places_16 rfl ?_
    refine ne_getf X dX3_places_17 nw_fX3_15 rfl rfl ?_
    refine ne_iload_n X dX3_places_20 rfl ?_
    refine ne_ialdR X dX3_places_21 rfl (by omega) Iq (fun v21 e21 f21 u21 => ?_)
    exact ne_iret X hr (by first | rfl | decide | rfl) dX3_places_22 ⟨⟨_, _, _, _, rfl, Ic, Iq, It, Ib, Itb, Igb, Ik, ne_rg_mono Ih (by omega) (by omega), Iv⟩, _, rfl, trivial⟩
  · refine ne_iconst X dX3_places_12 ?_
    refine ne_goto (tgt := 22) X dX3_places_13 rfl ?_
    exact ne_iret X hr (by first | rfl | decide | rfl) dX3_places_22 ⟨⟨_, _, _, _, rfl, Ic, Iq, It, Ib, Itb, Igb, Ik, ne_rg_mono Ih (by omega) (by omega), Iv⟩, _, rfl, trivial⟩
set_option maxRecDepth 100000 in
set_option maxHeartbeats 4000000 in
theorem me_X3_sign (l : Launch) (hl : l.stackTraces = false) (c q t b k h : Nat → Int) (vt T : Int) (hI : mI c q t b k h vt T) (hT : 0 ≤ T ∧ T ≤ 1000) (i : Int) (hi : -2147483648 ≤ i ∧ i < 2147483648)  : ne_M l nw_cl (.code yX3_sign cX3_sign 2 (some .int)) nw_T yX3_sign 9 330 0 0 [.ref 0, ni i] (mW c q t b k h vt) (fun v w => (∃ c1 q1 h1 v1, w = mW c1 q1 t b k h1 v1 ∧ mI c1 q1 t b k h1 v1 (T + 1)) ∧ ∃ z : Int, v = some (ni z) ∧ True) (fun _ _ => False) := by
  refine ne_meet (own := RX3) hl rfl (by decide +kernel) (Nat.le_of_ble_eq_true rfl) ?_
  intro D ct A P9 V9 R9 S9 M9 as9 bl9 mt9 C9 ad0 X hr hin ht
  obtain ⟨Ic, Iq, It, Ib, Itb, Igb, Ik, Ih, Iv⟩ := hI
  refine ne_aload_n X dX3_sign_0 rfl ?_
  refine ne_iload_n X dX3_sign_1 rfl ?_
  refine ne_callS X nw_Tg (me_X3_isNoCell l hl _ _ (by omega)) nw_yX3_isNoCell nw_mX3_66 nw_sX3_isNoCell dX3_sign_2 rfl rfl (by decide) (by decide) (by first | decide | omega) (by first | decide | omega) (Nat.le_of_ble_eq_true rfl) rfl rfl (Nat.le_of_ble_eq_true rfl) ?_ ?_
  rotate_left
  · rintro E9 w9 h9; exact h9.elim
  rintro v2 w2 ⟨rfl, z2, rfl, g2⟩
  refine ne_iconst X dX3_sign_5 ?_
  refine ne_callV X nw_Tg (me_X3_refuse l hl c q t b k h vt T (by exact ⟨Ic, Iq, It, Ib, Itb, Igb, Ik, Ih, Iv⟩) (by omega) _ _ (by omega) (by omega)) nw_yX3_refuse nw_mX3_72 nw_iX3_refuse nw_eX3_refuse (ci := 5) rfl rfl rfl dX3_sign_6 rfl rfl (by decide) (by decide) (by first | decide | omega) (by first | decide | omega) (Nat.le_of_ble_eq_true rfl) rfl rfl (Nat.le_of_ble_eq_true rfl) ?_ ?_
  rotate_left
  · rintro E9 w9 h9; exact h9.elim
  rintro v6 w6 ⟨u6, rfl, Iv, z6, rfl, g6⟩
  refine ne_if_eq (tgt := 16) X dX3_sign_9 rfl (by omega) (fun b9 => ?_) (fun b9 => ?_)
  · refine ne_aload_n X dX3_sign_16 rfl ?_
    refine ne_getf X dX3_sign_17 nw_fX3_9 rfl rfl ?_
    refine ne_iload_n X dX3_sign_20 rfl ?_
    refine ne_ialdR X dX3_sign_21 rfl (by omega) Ic (fun v21 e21 f21 u21 => ?_)
    refine ne_i2l (by omega) X dX3_sign_22 ?_
    refine ne_lconst (z := 0) (by decide) X dX3_sign_23 ?_
    refine ne_callS X nw_Tg (me_X3_side l hl _ _ _ (by omega) (by omega)) nw_yX3_side nw_mX3_48 nw_sX3_side dX3_sign_24 rfl rfl (by decide) (by decide) (by first | decide | omega) (by first | decide | omega) (Nat.le_of_ble_eq_true rfl) rfl rfl (Nat.le_of_ble_eq_true rfl) ?_ ?_
    rotate_left
    · rintro E9 w9 h9; exact h9.elim
    rintro v24 w24 ⟨rfl, z24, rfl, g24, k24, i24, j24⟩
    exact ne_iret X hr (by first | rfl | decide | rfl) dX3_sign_27 ⟨⟨_, _, _, _, rfl, Ic, Iq, It, Ib, Itb, Igb, Ik, ne_rg_mono Ih (by omega) (by omega), Iv⟩, _, rfl, trivial⟩
  · refine ne_iconst X dX3_sign_12 ?_
    refine ne_goto (tgt := 27) X dX3_sign_13 rfl ?_
    exact ne_iret X hr (by first | rfl | decide | rfl) dX3_sign_27 ⟨⟨_, _, _, _, rfl, Ic, Iq, It, Ib, Itb, Igb, Ik, ne_rg_mono Ih (by omega) (by omega), Iv⟩, _, rfl, trivial⟩
set_option maxRecDepth 100000 in
set_option maxHeartbeats 4000000 in
theorem me_X3_digits (l : Launch) (hl : l.stackTraces = false) (c q t b k h : Nat → Int) (vt T : Int) (hI : mI c q t b k h vt T) (hT : 0 ≤ T ∧ T ≤ 1000) (i : Int) (hi : -2147483648 ≤ i ∧ i < 2147483648)  : ne_M l nw_cl (.code yX3_digits cX3_digits 2 (some .int)) nw_T yX3_digits 9 330 0 0 [.ref 0, ni i] (mW c q t b k h vt) (fun v w => (∃ c1 q1 h1 v1, w = mW c1 q1 t b k h1 v1 ∧ mI c1 q1 t b k h1 v1 (T + 1)) ∧ ∃ z : Int, v = some (ni z) ∧ True) (fun _ _ => False) := by
  refine ne_meet (own := RX3) hl rfl (by decide +kernel) (Nat.le_of_ble_eq_true rfl) ?_
  intro D ct A P9 V9 R9 S9 M9 as9 bl9 mt9 C9 ad0 X hr hin ht
  obtain ⟨Ic, Iq, It, Ib, Itb, Igb, Ik, Ih, Iv⟩ := hI
  refine ne_aload_n X dX3_digits_0 rfl ?_
  refine ne_iload_n X dX3_digits_1 rfl ?_
  refine ne_callS X nw_Tg (me_X3_isNoCell l hl _ _ (by omega)) nw_yX3_isNoCell nw_mX3_66 nw_sX3_isNoCell dX3_digits_2 rfl rfl (by decide) (by decide) (by first | decide | omega) (by first | decide | omega) (Nat.le_of_ble_eq_true rfl) rfl rfl (Nat.le_of_ble_eq_true rfl) ?_ ?_
  rotate_left
  · rintro E9 w9 h9; exact h9.elim
  rintro v2 w2 ⟨rfl, z2, rfl, g2⟩
  refine ne_iconst X dX3_digits_5 ?_
  refine ne_callV X nw_Tg (me_X3_refuse l hl c q t b k h vt T (by exact ⟨Ic, Iq, It, Ib, Itb, Igb, Ik, Ih, Iv⟩) (by omega) _ _ (by omega) (by omega)) nw_yX3_refuse nw_mX3_72 nw_iX3_refuse nw_eX3_refuse (ci := 5) rfl rfl rfl dX3_digits_6 rfl rfl (by decide) (by decide) (by first | decide | omega) (by first | decide | omega) (Nat.le_of_ble_eq_true rfl) rfl rfl (Nat.le_of_ble_eq_true rfl) ?_ ?_
  rotate_left
  · rintro E9 w9 h9; exact h9.elim
  rintro v6 w6 ⟨u6, rfl, Iv, z6, rfl, g6⟩
  refine ne_if_eq (tgt := 16) X dX3_digits_9 rfl (by omega) (fun b9 => ?_) (fun b9 => ?_)
  · refine ne_aload_n X dX3_digits_16 rfl ?_
    refine ne_getf X dX3_digits_17 nw_fX3_9 rfl rfl ?_
    refine ne_iload_n X dX3_digits_20 rfl ?_
    refine ne_ialdR X dX3_digits_21 rfl (by omega) Ic (fun v21 e21 f21 u21 => ?_)
    refine ne_i2l (by omega) X dX3_digits_22 ?_
    refine ne_callS X nw_Tg (me_X3_digitsOf l hl _ _ (by omega)) nw_yX3_digitsOf nw_mX3_97 nw_sX3_digitsOf dX3_digits_23 rfl rfl (by decide) (by decide) (by first | decide | omega) (by first | decide | omega) (Nat.le_of_ble_eq_true rfl) rfl rfl (Nat.le_of_ble_eq_true rfl) ?_ ?_
    rotate_left
    · rintro E9 w9 h9; exact h9.elim
    rintro v23 w23 ⟨rfl, z23, rfl, g23, k23⟩
    exact ne_iret X hr (by first | rfl | decide | rfl) dX3_digits_26 ⟨⟨_, _, _, _, rfl, Ic, Iq, It, Ib, Itb, Igb, Ik, ne_rg_mono Ih (by omega) (by omega), Iv⟩, _, rfl, trivial⟩
  · refine ne_iconst X dX3_digits_12 ?_
    refine ne_goto (tgt := 26) X dX3_digits_13 rfl ?_
    exact ne_iret X hr (by first | rfl | decide | rfl) dX3_digits_26 ⟨⟨_, _, _, _, rfl, Ic, Iq, It, Ib, Itb, Igb, Ik, ne_rg_mono Ih (by omega) (by omega), Iv⟩, _, rfl, trivial⟩
set_option maxRecDepth 100000 in
set_option maxHeartbeats 4000000 in
theorem me_X3_order (l : Launch) (hl : l.stackTraces = false) (c q t b k h : Nat → Int) (vt T : Int) (hI : mI c q t b k h vt T) (hT : 0 ≤ T ∧ T ≤ 1000) (i : Int) (j : Int) (hi : -2147483648 ≤ i ∧ i < 2147483648) (hj : -2147483648 ≤ j ∧ j < 2147483648)  : ne_M l nw_cl (.code yX3_order cX3_order 3 (some .int)) nw_T yX3_order 9 330 0 0 [.ref 0, ni i, ni j] (mW c q t b k h vt) (fun v w => (∃ c1 q1 h1 v1, w = mW c1 q1 t b k h1 v1 ∧ mI c1 q1 t b k h1 v1 (T + 1)) ∧ ∃ z : Int, v = some (ni z) ∧ True) (fun _ _ => False) := by
  refine ne_meet (own := RX3) hl rfl (by decide +kernel) (Nat.le_of_ble_eq_true rfl) ?_
  intro D ct A P9 V9 R9 S9 M9 as9 bl9 mt9 C9 ad0 X hr hin ht
  obtain ⟨Ic, Iq, It, Ib, Itb, Igb, Ik, Ih, Iv⟩ := hI
  refine ne_aload_n X dX3_order_0 rfl ?_
  refine ne_iload_n X dX3_order_1 rfl ?_
  refine ne_callS X nw_Tg (me_X3_isNoCell l hl _ _ (by omega)) nw_yX3_isNoCell nw_mX3_66 nw_sX3_isNoCell dX3_order_2 rfl rfl (by decide) (by decide) (by first | decide | omega) (by first | decide | omega) (Nat.le_of_ble_eq_true rfl) rfl rfl (Nat.le_of_ble_eq_true rfl) ?_ ?_
  rotate_left
  · rintro E9 w9 h9; exact h9.elim
  rintro v2 w2 ⟨rfl, z2, rfl, g2⟩
  refine ne_if_ne (tgt := 15) X dX3_order_5 rfl (by omega) (fun b5 => ?_) (fun b5 => ?_)
  · refine ne_iconst X dX3_order_15 ?_
    refine ne_goto (tgt := 20) X dX3_order_16 rfl ?_
    refine ne_iconst X dX3_order_20 ?_
    refine ne_callV X nw_Tg (me_X3_refuse l hl c q t b k h vt T (by exact ⟨Ic, Iq, It, Ib, Itb, Igb, Ik, Ih, Iv⟩) (by omega) _ _ (by omega) (by omega)) nw_yX3_refuse nw_mX3_72 nw_iX3_refuse nw_eX3_refuse (ci := 5) rfl rfl rfl dX3_order_21 rfl rfl (by decide) (by decide) (by first | decide | omega) (by first | decide | omega) (Nat.le_of_ble_eq_true rfl) rfl rfl (Nat.le_of_ble_eq_true rfl) ?_ ?_
    rotate_left
    · rintro E9 w9 h9; exact h9.elim
    rintro v21 w21 ⟨u21, rfl, Iv, z21, rfl, g21⟩
    refine ne_if_eq (tgt := 31) X dX3_order_24 rfl (by omega) (fun b24 => ?_) (fun b24 => ?_)
    · exfalso; omega
    · refine ne_iconst X dX3_order_27 ?_
      refine ne_goto (tgt := 37) X dX3_order_28 rfl ?_
      exact ne_iret X hr (by first | rfl | decide | rfl) dX3_order_37 ⟨⟨_, _, _, _, rfl, Ic, Iq, It, Ib, Itb, Igb, Ik, ne_rg_mono Ih (by omega) (by omega), Iv⟩, _, rfl, trivial⟩
  · refine ne_iload_n X dX3_order_8 rfl ?_
    refine ne_callS X nw_Tg (me_X3_isNoCell l hl _ _ (by omega)) nw_yX3_isNoCell nw_mX3_66 nw_sX3_isNoCell dX3_order_9 rfl rfl (by decide) (by decide) (by first | decide | omega) (by first | decide | omega) (Nat.le_of_ble_eq_true rfl) rfl rfl (Nat.le_of_ble_eq_true rfl) ?_ ?_
    rotate_left
    · rintro E9 w9 h9; exact h9.elim
    rintro v9 w9 ⟨rfl, z9, rfl, g9⟩
    refine ne_if_eq (tgt := 19) X dX3_order_12 rfl (by omega) (fun b12 => ?_) (fun b12 => ?_)
    · refine ne_iconst X dX3_order_19 ?_
      refine ne_iconst X dX3_order_20 ?_
      refine ne_callV X nw_Tg (me_X3_refuse l hl c q t b k h vt T (by exact ⟨Ic, Iq, It, Ib, Itb, Igb, Ik, Ih, Iv⟩) (by omega) _ _ (by omega) (by omega)) nw_yX3_refuse nw_mX3_72 nw_iX3_refuse nw_eX3_refuse (ci := 5) rfl rfl rfl dX3_order_21 rfl rfl (by decide) (by decide) (by first | decide | omega) (by first | decide | omega) (Nat.le_of_ble_eq_true rfl) rfl rfl (Nat.le_of_ble_eq_true rfl) ?_ ?_
      rotate_left
      · rintro E9 w9 h9; exact h9.elim
      rintro v21 w21 ⟨u21, rfl, Iv, z21, rfl, g21⟩
      refine ne_if_eq (tgt := 31) X dX3_order_24 rfl (by omega) (fun b24 => ?_) (fun b24 => ?_)
      · refine ne_aload_n X dX3_order_31 rfl ?_
        refine ne_iload_n X dX3_order_32 rfl ?_
        refine ne_iload_n X dX3_order_33 rfl ?_
        refine ne_callV X nw_Tg (me_X3_ordered l hl c q t b k h u21 T (by exact ⟨Ic, Iq, It, Ib, Itb, Igb, Ik, Ih, Iv⟩) (by omega) _ _ (by omega) (by omega)) nw_yX3_ordered nw_mX3_101 nw_iX3_ordered nw_eX3_ordered (ci := 5) rfl rfl rfl dX3_order_34 rfl rfl (by decide) (by decide) (by first | decide | omega) (by first | decide | omega) (Nat.le_of_ble_eq_true rfl) rfl rfl (Nat.le_of_ble_eq_true rfl) ?_ ?_
        rotate_left
        · rintro E9 w9 h9; exact h9.elim
        rintro v34 w34 ⟨rfl, z34, rfl, g34, k34⟩
        exact ne_iret X hr (by first | rfl | decide | rfl) dX3_order_37 ⟨⟨_, _, _, _, rfl, Ic, Iq, It, Ib, Itb, Igb, Ik, ne_rg_mono Ih (by omega) (by omega), Iv⟩, _, rfl, trivial⟩
      · exfalso; omega
    · refine ne_iconst X dX3_order_15 ?_
      refine ne_goto (tgt := 20) X dX3_order_16 rfl ?_
      refine ne_iconst X dX3_order_20 ?_
      refine ne_callV X nw_Tg (me_X3_refuse l hl c q t b k h vt T (by exact ⟨Ic, Iq, It, Ib, Itb, Igb, Ik, Ih, Iv⟩) (by omega) _ _ (by omega) (by omega)) nw_yX3_refuse nw_mX3_72 nw_iX3_refuse nw_eX3_refuse (ci := 5) rfl rfl rfl dX3_order_21 rfl rfl (by decide) (by decide) (by first | decide | omega) (by first | decide | omega) (Nat.le_of_ble_eq_true rfl) rfl rfl (Nat.le_of_ble_eq_true rfl) ?_ ?_
      rotate_left
      · rintro E9 w9 h9; exact h9.elim
      rintro v21 w21 ⟨u21, rfl, Iv, z21, rfl, g21⟩
      refine ne_if_eq (tgt := 31) X dX3_order_24 rfl (by omega) (fun b24 => ?_) (fun b24 => ?_)
      · exfalso; omega
      · refine ne_iconst X dX3_order_27 ?_
        refine ne_goto (tgt := 37) X dX3_order_28 rfl ?_
        exact ne_iret X hr (by first | rfl | decide | rfl) dX3_order_37 ⟨⟨_, _, _, _, rfl, Ic, Iq, It, Ib, Itb, Igb, Ik, ne_rg_mono Ih (by omega) (by omega), Iv⟩, _, rfl, trivial⟩
set_option maxRecDepth 100000 in
set_option maxHeartbeats 4000000 in
theorem me_X3_same (l : Launch) (hl : l.stackTraces = false) (c q t b k h : Nat → Int) (vt T : Int) (hI : mI c q t b k h vt T) (hT : 0 ≤ T ∧ T ≤ 1000) (i : Int) (j : Int) (hi : -2147483648 ≤ i ∧ i < 2147483648) (hj : -2147483648 ≤ j ∧ j < 2147483648)  : ne_M l nw_cl (.code yX3_same cX3_same 3 (some .boolean)) nw_T yX3_same 9 330 0 0 [.ref 0, ni i, ni j] (mW c q t b k h vt) (fun v w => (∃ c1 q1 h1 v1, w = mW c1 q1 t b k h1 v1 ∧ mI c1 q1 t b k h1 v1 (T + 1)) ∧ ∃ z : Int, v = some (ni z) ∧ True) (fun _ _ => False) := by
  refine ne_meet (own := RX3) hl rfl (by decide +kernel) (Nat.le_of_ble_eq_true rfl) ?_
  intro D ct A P9 V9 R9 S9 M9 as9 bl9 mt9 C9 ad0 X hr hin ht
  obtain ⟨Ic, Iq, It, Ib, Itb, Igb, Ik, Ih, Iv⟩ := hI
  refine ne_aload_n X dX3_same_0 rfl ?_
  refine ne_iload_n X dX3_same_1 rfl ?_
  refine ne_callS X nw_Tg (me_X3_isNoCell l hl _ _ (by omega)) nw_yX3_isNoCell nw_mX3_66 nw_sX3_isNoCell dX3_same_2 rfl rfl (by decide) (by decide) (by first | decide | omega) (by first | decide | omega) (Nat.le_of_ble_eq_true rfl) rfl rfl (Nat.le_of_ble_eq_true rfl) ?_ ?_
  rotate_left
  · rintro E9 w9 h9; exact h9.elim
  rintro v2 w2 ⟨rfl, z2, rfl, g2⟩
  refine ne_if_ne (tgt := 15) X dX3_same_5 rfl (by omega) (fun b5 => ?_) (fun b5 => ?_)
  · refine ne_iconst X dX3_same_15 ?_
    refine ne_goto (tgt := 20) X dX3_same_16 rfl ?_
    refine ne_iconst X dX3_same_20 ?_
    refine ne_callV X nw_Tg (me_X3_refuse l hl c q t b k h vt T (by exact ⟨Ic, Iq, It, Ib, Itb, Igb, Ik, Ih, Iv⟩) (by omega) _ _ (by omega) (by omega)) nw_yX3_refuse nw_mX3_72 nw_iX3_refuse nw_eX3_refuse (ci := 5) rfl rfl rfl dX3_same_21 rfl rfl (by decide) (by decide) (by first | decide | omega) (by first | decide | omega) (Nat.le_of_ble_eq_true rfl) rfl rfl (Nat.le_of_ble_eq_true rfl) ?_ ?_
    rotate_left
    · rintro E9 w9 h9; exact h9.elim
    rintro v21 w21 ⟨u21, rfl, Iv, z21, rfl, g21⟩
    refine ne_if_ne (tgt := 40) X dX3_same_24 rfl (by omega) (fun b24 => ?_) (fun b24 => ?_)
    · refine ne_iconst X dX3_same_40 ?_
      exact ne_iret X hr (by first | rfl | decide | rfl) dX3_same_41 ⟨⟨_, _, _, _, rfl, Ic, Iq, It, Ib, Itb, Igb, Ik, ne_rg_mono Ih (by omega) (by omega), Iv⟩, _, rfl, trivial⟩
    · exfalso; omega
  · refine ne_iload_n X dX3_same_8 rfl ?_
    refine ne_callS X nw_Tg (me_X3_isNoCell l hl _ _ (by omega)) nw_yX3_isNoCell nw_mX3_66 nw_sX3_isNoCell dX3_same_9 rfl rfl (by decide) (by decide) (by first | decide | omega) (by first | decide | omega) (Nat.le_of_ble_eq_true rfl) rfl rfl (Nat.le_of_ble_eq_true rfl) ?_ ?_
    rotate_left
    · rintro E9 w9 h9; exact h9.elim
    rintro v9 w9 ⟨rfl, z9, rfl, g9⟩
    refine ne_if_eq (tgt := 19) X dX3_same_12 rfl (by omega) (fun b12 => ?_) (fun b12 => ?_)
    · refine ne_iconst X dX3_same_19 ?_
      refine ne_iconst X dX3_same_20 ?_
      refine ne_callV X nw_Tg (me_X3_refuse l hl c q t b k h vt T (by exact ⟨Ic, Iq, It, Ib, Itb, Igb, Ik, Ih, Iv⟩) (by omega) _ _ (by omega) (by omega)) nw_yX3_refuse nw_mX3_72 nw_iX3_refuse nw_eX3_refuse (ci := 5) rfl rfl rfl dX3_same_21 rfl rfl (by decide) (by decide) (by first | decide | omega) (by first | decide | omega) (Nat.le_of_ble_eq_true rfl) rfl rfl (Nat.le_of_ble_eq_true rfl) ?_ ?_
      rotate_left
      · rintro E9 w9 h9; exact h9.elim
      rintro v21 w21 ⟨u21, rfl, Iv, z21, rfl, g21⟩
      refine ne_if_ne (tgt := 40) X dX3_same_24 rfl (by omega) (fun b24 => ?_) (fun b24 => ?_)
      · exfalso; omega
      · refine ne_aload_n X dX3_same_27 rfl ?_
        refine ne_iload_n X dX3_same_28 rfl ?_
        refine ne_iload_n X dX3_same_29 rfl ?_
        refine ne_callV X nw_Tg (me_X3_areSame l hl c q t b k h u21 T (by exact ⟨Ic, Iq, It, Ib, Itb, Igb, Ik, Ih, Iv⟩) (by omega) _ _ (by omega) (by omega)) nw_yX3_areSame nw_mX3_132 nw_iX3_areSame nw_eX3_areSame (ci := 5) rfl rfl rfl dX3_same_30 rfl rfl (by decide) (by decide) (by first | decide | omega) (by first | decide | omega) (Nat.le_of_ble_eq_true rfl) rfl rfl (Nat.le_of_ble_eq_true rfl) ?_ ?_
        rotate_left
        · rintro E9 w9 h9; exact h9.elim
        rintro v30 w30 ⟨rfl, z30, rfl, g30, k30⟩
        refine ne_if_eq (tgt := 40) X dX3_same_33 rfl (by omega) (fun b33 => ?_) (fun b33 => ?_)
        · refine ne_iconst X dX3_same_40 ?_
          exact ne_iret X hr (by first | rfl | decide | rfl) dX3_same_41 ⟨⟨_, _, _, _, rfl, Ic, Iq, It, Ib, Itb, Igb, Ik, ne_rg_mono Ih (by omega) (by omega), Iv⟩, _, rfl, trivial⟩
        · refine ne_iconst X dX3_same_36 ?_
          refine ne_goto (tgt := 41) X dX3_same_37 rfl ?_
          exact ne_iret X hr (by first | rfl | decide | rfl) dX3_same_41 ⟨⟨_, _, _, _, rfl, Ic, Iq, It, Ib, Itb, Igb, Ik, ne_rg_mono Ih (by omega) (by omega), Iv⟩, _, rfl, trivial⟩
    · refine ne_iconst X dX3_same_15 ?_
      refine ne_goto (tgt := 20) X dX3_same_16 rfl ?_
      refine ne_iconst X dX3_same_20 ?_
      refine ne_callV X nw_Tg (me_X3_refuse l hl c q t b k h vt T (by exact ⟨Ic, Iq, It, Ib, Itb, Igb, Ik, Ih, Iv⟩) (by omega) _ _ (by omega) (by omega)) nw_yX3_refuse nw_mX3_72 nw_iX3_refuse nw_eX3_refuse (ci := 5) rfl rfl rfl dX3_same_21 rfl rfl (by decide) (by decide) (by first | decide | omega) (by first | decide | omega) (Nat.le_of_ble_eq_true rfl) rfl rfl (Nat.le_of_ble_eq_true rfl) ?_ ?_
      rotate_left
      · rintro E9 w9 h9; exact h9.elim
      rintro v21 w21 ⟨u21, rfl, Iv, z21, rfl, g21⟩
      refine ne_if_ne (tgt := 40) X dX3_same_24 rfl (by omega) (fun b24 => ?_) (fun b24 => ?_)
      · refine ne_iconst X dX3_same_40 ?_
        exact ne_iret X hr (by first | rfl | decide | rfl) dX3_same_41 ⟨⟨_, _, _, _, rfl, Ic, Iq, It, Ib, Itb, Igb, Ik, ne_rg_mono Ih (by omega) (by omega), Iv⟩, _, rfl, trivial⟩
      · exfalso; omega
set_option maxRecDepth 100000 in
set_option maxHeartbeats 4000000 in
theorem me_X3_spoke (l : Launch) (hl : l.stackTraces = false) (c q t b k h : Nat → Int) (vt T : Int) (hI : mI c q t b k h vt T) (hT : 0 ≤ T ∧ T ≤ 1000) (i : Int) (a : Int) (hi : -2147483648 ≤ i ∧ i < 2147483648) (ha : -2147483648 ≤ a ∧ a < 2147483648)  : ne_M l nw_cl (.code yX3_spoke cX3_spoke 3 (some .int)) nw_T yX3_spoke 9 330 0 0 [.ref 0, ni i, ni a] (mW c q t b k h vt) (fun v w => (∃ c1 q1 h1 v1, w = mW c1 q1 t b k h1 v1 ∧ mI c1 q1 t b k h1 v1 (T + 1)) ∧ ∃ z : Int, v = some (ni z) ∧ True) (fun _ _ => False) := by
  refine ne_meet (own := RX3) hl rfl (by decide +kernel) (Nat.le_of_ble_eq_true rfl) ?_
  intro D ct A P9 V9 R9 S9 M9 as9 bl9 mt9 C9 ad0 X hr hin ht
  obtain ⟨Ic, Iq, It, Ib, Itb, Igb, Ik, Ih, Iv⟩ := hI
  refine ne_aload_n X dX3_spoke_0 rfl ?_
  refine ne_iload_n X dX3_spoke_1 rfl ?_
  refine ne_callS X nw_Tg (me_X3_isNoWheel l hl _ _ (by omega)) nw_yX3_isNoWheel nw_mX3_104 nw_sX3_isNoWheel dX3_spoke_2 rfl rfl (by decide) (by decide) (by first | decide | omega) (by first | decide | omega) (Nat.le_of_ble_eq_true rfl) rfl rfl (Nat.le_of_ble_eq_true rfl) ?_ ?_
  rotate_left
  · rintro E9 w9 h9; exact h9.elim
  rintro v2 w2 ⟨rfl, z2, rfl, g2⟩
  refine ne_iload_n X dX3_spoke_5 rfl ?_
  refine ne_iconst X dX3_spoke_6 ?_
  refine ne_iconst X dX3_spoke_7 ?_
  refine ne_callS X nw_Tg (me_X3_isOut l hl _ _ _ _ (by omega) (by omega) (by omega)) nw_yX3_isOut nw_mX3_34 nw_sX3_isOut dX3_spoke_8 rfl rfl (by decide) (by decide) (by first | decide | omega) (by first | decide | omega) (Nat.le_of_ble_eq_true rfl) rfl rfl (Nat.le_of_ble_eq_true rfl) ?_ ?_
  rotate_left
  · rintro E9 w9 h9; exact h9.elim
  rintro v8 w8 ⟨rfl, z8, rfl, g8⟩
  refine ne_callV X nw_Tg (me_X3_refuse l hl c q t b k h vt T (by exact ⟨Ic, Iq, It, Ib, Itb, Igb, Ik, Ih, Iv⟩) (by omega) _ _ (by omega) (by omega)) nw_yX3_refuse nw_mX3_72 nw_iX3_refuse nw_eX3_refuse (ci := 5) rfl rfl rfl dX3_spoke_11 rfl rfl (by decide) (by decide) (by first | decide | omega) (by first | decide | omega) (Nat.le_of_ble_eq_true rfl) rfl rfl (Nat.le_of_ble_eq_true rfl) ?_ ?_
  rotate_left
  · rintro E9 w9 h9; exact h9.elim
  rintro v11 w11 ⟨u11, rfl, Iv, z11, rfl, g11⟩
  refine ne_if_eq (tgt := 21) X dX3_spoke_14 rfl (by omega) (fun b14 => ?_) (fun b14 => ?_)
  · refine ne_aload_n X dX3_spoke_21 rfl ?_
    refine ne_iload_n X dX3_spoke_22 rfl ?_
    refine ne_iload_n X dX3_spoke_23 rfl ?_
    refine ne_callV X nw_Tg (me_X3_spokeOf l hl c q t b k h u11 T (by exact ⟨Ic, Iq, It, Ib, Itb, Igb, Ik, Ih, Iv⟩) (by omega) _ _ (by omega) (by omega)) nw_yX3_spokeOf nw_mX3_153 nw_iX3_spokeOf nw_eX3_spokeOf (ci := 5) rfl rfl rfl dX3_spoke_24 rfl rfl (by decide) (by decide) (by first | decide | omega) (by first | decide | omega) (Nat.le_of_ble_eq_true rfl) rfl rfl (Nat.le_of_ble_eq_true rfl) ?_ ?_
    rotate_left
    · rintro E9 w9 h9; exact h9.elim
    rintro v24 w24 ⟨rfl, z24, rfl, g24, k24⟩
    exact ne_iret X hr (by first | rfl | decide | rfl) dX3_spoke_27 ⟨⟨_, _, _, _, rfl, Ic, Iq, It, Ib, Itb, Igb, Ik, ne_rg_mono Ih (by omega) (by omega), Iv⟩, _, rfl, trivial⟩
  · refine ne_iconst X dX3_spoke_17 ?_
    refine ne_goto (tgt := 27) X dX3_spoke_18 rfl ?_
    exact ne_iret X hr (by first | rfl | decide | rfl) dX3_spoke_27 ⟨⟨_, _, _, _, rfl, Ic, Iq, It, Ib, Itb, Igb, Ik, ne_rg_mono Ih (by omega) (by omega), Iv⟩, _, rfl, trivial⟩
set_option maxRecDepth 100000 in
set_option maxHeartbeats 4000000 in
theorem me_X3_lowest (l : Launch) (hl : l.stackTraces = false) (c q t b k h : Nat → Int) (vt T : Int) (hI : mI c q t b k h vt T) (hT : 0 ≤ T ∧ T ≤ 1000) (i : Int) (hi : -2147483648 ≤ i ∧ i < 2147483648)  : ne_M l nw_cl (.code yX3_lowest cX3_lowest 3 (some .int)) nw_T yX3_lowest 9 330 0 0 [.ref 0, ni i] (mW c q t b k h vt) (fun v w => (∃ c1 q1 h1 v1, w = mW c1 q1 t b k h1 v1 ∧ mI c1 q1 t b k h1 v1 (T + 1)) ∧ ∃ z : Int, v = some (ni z) ∧ True) (fun _ _ => False) := by
  refine ne_meet (own := RX3) hl rfl (by decide +kernel) (Nat.le_of_ble_eq_true rfl) ?_
  intro D ct A P9 V9 R9 S9 M9 as9 bl9 mt9 C9 ad0 X hr hin ht
  obtain ⟨Ic, Iq, It, Ib, Itb, Igb, Ik, Ih, Iv⟩ := hI
  have lp16 : ∀ (n9 : Nat) (j : Int), (100 - j).toNat < n9 → (1 ≤ j) → (j ≤ b i.toNat) → (0 ≤ i ∧ i < 3) → ne_G nw_cl D ct A 7 ad0 P9 l V9 R9 S9 M9 as9 bl9 mt9 C9 (ne_O nw_cl D ct ad0 7 A bl9 as9 S9 0 0 (fun v w => (∃ c1 q1 h1 v1, w = mW c1 q1 t b k h1 v1 ∧ mI c1 q1 t b k h1 v1 (T + 1)) ∧ ∃ z : Int, v = some (ni z) ∧ True) (fun _ _ => False)) 3 0 0 0 0 16 [some (.ref 0), some (ni i), some (ni j)] [] (mW c q t b k h 0) := by
    intro n9
    induction n9 with
    | zero => intro j hm9 q1 q2 q6; exfalso; omega
    | succ n9 ih =>
      intro j hm9 q1 q2 q6
      have Iv : (0 : Int) ≤ 0 ∧ (0 : Int) ≤ 2 := by omega
      have hb9 := Ib i.toNat
      refine ne_iload_n X dX3_lowest_16 rfl ?_
      refine ne_aload_n X dX3_lowest_17 rfl ?_
      refine ne_getf X dX3_lowest_18 nw_fX3_18 rfl rfl ?_
      refine ne_iload_n X dX3_lowest_21 rfl ?_
      refine ne_ialdR X dX3_lowest_22 rfl (by omega) It (fun v22 e22 f22 u22 => ?_)
      have m23 := ne_mul j v22 99 98 (by omega) (by omega)
      have m24 : 0 ≤ j * v22 := Int.mul_nonneg (by omega) (by omega)
      refine ne_imul X dX3_lowest_23 ?_
      refine ne_aload_n X dX3_lowest_24 rfl ?_
      refine ne_getf X dX3_lowest_25 nw_fX3_21 rfl rfl ?_
      refine ne_iload_n X dX3_lowest_28 rfl ?_
      refine ne_ialdR X dX3_lowest_29 rfl (by omega) Ib (fun v29 e29 f29 u29 => ?_)
      have t30 := (ne_tdm (j * v22) v29 (by omega)).1 m24
      refine ne_irem X dX3_lowest_30 (by omega) (by omega) (by omega) ?_
      refine ne_if_eq (tgt := 40) X dX3_lowest_31 rfl (by omega) (fun b31 => ?_) (fun b31 => ?_)
      · refine ne_iload_n X dX3_lowest_40 rfl ?_
        exact ne_iret X hr (by first | rfl | decide | rfl) dX3_lowest_41 ⟨⟨_, _, _, _, rfl, Ic, Iq, It, Ib, Itb, Igb, Ik, ne_rg_mono Ih (by omega) (by omega), Iv⟩, _, rfl, trivial⟩
      · refine ne_iinc X dX3_lowest_34 rfl (by decide) ?_
        refine ne_goto (tgt := 16) X dX3_lowest_37 rfl ?_
        have hj : j < b i.toNat := by
                rcases (show j < b i.toNat ∨ j = v29 by omega) with h | h
                · exact h
                · rw [h, Int.mul_tmod_right] at b31
                  omega
        exact ih _ (by omega) (by omega) (by omega) (by omega)
  refine ne_aload_n X dX3_lowest_0 rfl ?_
  refine ne_iload_n X dX3_lowest_1 rfl ?_
  refine ne_callS X nw_Tg (me_X3_isNoWheel l hl _ _ (by omega)) nw_yX3_isNoWheel nw_mX3_104 nw_sX3_isNoWheel dX3_lowest_2 rfl rfl (by decide) (by decide) (by first | decide | omega) (by first | decide | omega) (Nat.le_of_ble_eq_true rfl) rfl rfl (Nat.le_of_ble_eq_true rfl) ?_ ?_
  rotate_left
  · rintro E9 w9 h9; exact h9.elim
  rintro v2 w2 ⟨rfl, z2, rfl, g2⟩
  refine ne_iconst X dX3_lowest_5 ?_
  refine ne_callV X nw_Tg (me_X3_refuse l hl c q t b k h vt T (by exact ⟨Ic, Iq, It, Ib, Itb, Igb, Ik, Ih, Iv⟩) (by omega) _ _ (by omega) (by omega)) nw_yX3_refuse nw_mX3_72 nw_iX3_refuse nw_eX3_refuse (ci := 5) rfl rfl rfl dX3_lowest_6 rfl rfl (by decide) (by decide) (by first | decide | omega) (by first | decide | omega) (Nat.le_of_ble_eq_true rfl) rfl rfl (Nat.le_of_ble_eq_true rfl) ?_ ?_
  rotate_left
  · rintro E9 w9 h9; exact h9.elim
  rintro v6 w6 ⟨u6, rfl, Iv, z6, rfl, g6⟩
  refine ne_if_eq (tgt := 14) X dX3_lowest_9 rfl (by omega) (fun b9 => ?_) (fun b9 => ?_)
  · refine ne_iconst X dX3_lowest_14 ?_
    refine ne_istore_n X dX3_lowest_15 rfl (by decide) ?_
    obtain rfl : u6 = 0 := by omega
    have hb9 := Ib i.toNat
    exact lp16 _ 1 (Nat.lt_succ_self _) (by omega) (by omega) (by omega)
  · refine ne_iconst X dX3_lowest_12 ?_
    exact ne_iret X hr (by first | rfl | decide | rfl) dX3_lowest_13 ⟨⟨_, _, _, _, rfl, Ic, Iq, It, Ib, Itb, Igb, Ik, ne_rg_mono Ih (by omega) (by omega), Iv⟩, _, rfl, trivial⟩
set_option maxRecDepth 100000 in
set_option maxHeartbeats 4000000 in
theorem me_X3_tens (l : Launch) (hl : l.stackTraces = false) (c q t b k h : Nat → Int) (vt T : Int) (hI : mI c q t b k h vt T) (hT : 0 ≤ T ∧ T ≤ 1000) (a : Int) (ha : -2147483648 ≤ a ∧ a < 2147483648)  : ne_M l nw_cl (.code yX3_tens cX3_tens 2 (some .int)) nw_T yX3_tens 9 330 0 0 [.ref 0, ni a] (mW c q t b k h vt) (fun v w => (∃ v1, w = mW c q t b k h v1 ∧ mI c q t b k h v1 (T + 1) ∧ ∃ z : Int, v = some (ni z) ∧ ((v1 = 1 ∧ (a < 1 ∨ 99 < a ∨ a.tmod 2 = 0 ∨ a.tmod 5 = 0)) ∨ (v1 = 0 ∧ (1 ≤ a ∧ a ≤ 99 ∧ a.tmod 2 ≠ 0 ∧ a.tmod 5 ≠ 0) ∧ ne_per ((1 : Int).tmod a) a z)))) (fun _ _ => False) := by
  refine ne_meet (own := RX3) hl rfl (by decide +kernel) (Nat.le_of_ble_eq_true rfl) ?_
  intro D ct A P9 V9 R9 S9 M9 as9 bl9 mt9 C9 ad0 X hr hin ht
  obtain ⟨Ic, Iq, It, Ib, Itb, Igb, Ik, Ih, Iv⟩ := hI
  refine ne_aload_n X dX3_tens_0 rfl ?_
  refine ne_iload_n X dX3_tens_1 rfl ?_
  refine ne_callS X nw_Tg (me_X3_isNoBottom l hl _ _ (by omega)) nw_yX3_isNoBottom nw_mX3_139 nw_sX3_isNoBottom dX3_tens_2 rfl rfl (by decide) (by decide) (by first | decide | omega) (by first | decide | omega) (Nat.le_of_ble_eq_true rfl) rfl rfl (Nat.le_of_ble_eq_true rfl) ?_ ?_
  rotate_left
  · rintro E9 w9 h9; exact h9.elim
  rintro v2 w2 ⟨rfl, z2, rfl, g2⟩
  refine ne_iconst X dX3_tens_5 ?_
  refine ne_callV X nw_Tg (me_X3_refuse l hl c q t b k h vt T (by exact ⟨Ic, Iq, It, Ib, Itb, Igb, Ik, Ih, Iv⟩) (by omega) _ _ (by omega) (by omega)) nw_yX3_refuse nw_mX3_72 nw_iX3_refuse nw_eX3_refuse (ci := 5) rfl rfl rfl dX3_tens_6 rfl rfl (by decide) (by decide) (by first | decide | omega) (by first | decide | omega) (Nat.le_of_ble_eq_true rfl) rfl rfl (Nat.le_of_ble_eq_true rfl) ?_ ?_
  rotate_left
  · rintro E9 w9 h9; exact h9.elim
  rintro v6 w6 ⟨u6, rfl, Iv, z6, rfl, g6⟩
  refine ne_if_eq (tgt := 16) X dX3_tens_9 rfl (by omega) (fun b9 => ?_) (fun b9 => ?_)
  · refine ne_iconst X dX3_tens_16 ?_
    refine ne_iload_n X dX3_tens_17 rfl ?_
    have t18 := (ne_tdm 1 a (by omega)).1 (by omega)
    have hg1 : a.tmod 2 ≠ 0 := by omega
    have hg2 : a.tmod 5 ≠ 0 := by omega
    refine ne_irem X dX3_tens_18 (by omega) (by omega) (by omega) ?_
    refine ne_iload_n X dX3_tens_19 rfl ?_
    refine ne_callS X nw_Tg (me_X3_lengthOf l hl _ _ _ (by omega) (by omega) (by omega) (by assumption) (by assumption)) nw_yX3_lengthOf nw_mX3_136 nw_sX3_lengthOf dX3_tens_20 rfl rfl (by decide) (by decide) (by first | decide | omega) (by first | decide | omega) (Nat.le_of_ble_eq_true rfl) rfl rfl (Nat.le_of_ble_eq_true rfl) ?_ ?_
    rotate_left
    · rintro E9 w9 h9; exact h9.elim
    rintro v20 w20 ⟨rfl, z20, rfl, g20, k20, i20, j20⟩
    exact ne_iret X hr (by first | rfl | decide | rfl) dX3_tens_23 (by first | exact ⟨_, rfl, ⟨Ic, Iq, It, Ib, Itb, Igb, Ik, ne_rg_mono Ih (by omega) (by omega), Iv⟩, _, rfl, Or.inl ⟨by omega, by omega⟩⟩ | exact ⟨_, rfl, ⟨Ic, Iq, It, Ib, Itb, Igb, Ik, ne_rg_mono Ih (by omega) (by omega), Iv⟩, _, rfl, Or.inr ⟨by omega, by omega, g20, k20, i20, j20⟩⟩)
  · refine ne_iconst X dX3_tens_12 ?_
    refine ne_goto (tgt := 23) X dX3_tens_13 rfl ?_
    exact ne_iret X hr (by first | rfl | decide | rfl) dX3_tens_23 (by first | exact ⟨_, rfl, ⟨Ic, Iq, It, Ib, Itb, Igb, Ik, ne_rg_mono Ih (by omega) (by omega), Iv⟩, _, rfl, Or.inl ⟨by omega, by omega⟩⟩ | exact ⟨_, rfl, ⟨Ic, Iq, It, Ib, Itb, Igb, Ik, ne_rg_mono Ih (by omega) (by omega), Iv⟩, _, rfl, Or.inr ⟨by omega, by omega, g20, k20, i20, j20⟩⟩)
set_option maxRecDepth 100000 in
set_option maxHeartbeats 4000000 in
theorem me_X3_restAt (l : Launch) (hl : l.stackTraces = false) (c q t b k h : Nat → Int) (vt T : Int) (hI : mI c q t b k h vt T) (hT : 0 ≤ T ∧ T ≤ 1000) (i : Int) (a : Int) (hi : -2147483648 ≤ i ∧ i < 2147483648) (ha : -2147483648 ≤ a ∧ a < 2147483648)  : ne_M l nw_cl (.code yX3_restAt cX3_restAt 3 (some .int)) nw_T yX3_restAt 9 330 0 0 [.ref 0, ni i, ni a] (mW c q t b k h vt) (fun v w => (∃ c1 q1 h1 v1, w = mW c1 q1 t b k h1 v1 ∧ mI c1 q1 t b k h1 v1 (T + 1)) ∧ ∃ z : Int, v = some (ni z) ∧ True) (fun _ _ => False) := by
  refine ne_meet (own := RX3) hl rfl (by decide +kernel) (Nat.le_of_ble_eq_true rfl) ?_
  intro D ct A P9 V9 R9 S9 M9 as9 bl9 mt9 C9 ad0 X hr hin ht
  obtain ⟨Ic, Iq, It, Ib, Itb, Igb, Ik, Ih, Iv⟩ := hI
  refine ne_aload_n X dX3_restAt_0 rfl ?_
  refine ne_iload_n X dX3_restAt_1 rfl ?_
  refine ne_callS X nw_Tg (me_X3_isNoWheel l hl _ _ (by omega)) nw_yX3_isNoWheel nw_mX3_104 nw_sX3_isNoWheel dX3_restAt_2 rfl rfl (by decide) (by decide) (by first | decide | omega) (by first | decide | omega) (Nat.le_of_ble_eq_true rfl) rfl rfl (Nat.le_of_ble_eq_true rfl) ?_ ?_
  rotate_left
  · rintro E9 w9 h9; exact h9.elim
  rintro v2 w2 ⟨rfl, z2, rfl, g2⟩
  refine ne_iload_n X dX3_restAt_5 rfl ?_
  refine ne_iconst X dX3_restAt_6 ?_
  refine ne_sipush (v := 200) (by decide) X dX3_restAt_7 ?_
  refine ne_callS X nw_Tg (me_X3_isOut l hl _ _ _ _ (by omega) (by omega) (by omega)) nw_yX3_isOut nw_mX3_34 nw_sX3_isOut dX3_restAt_10 rfl rfl (by decide) (by decide) (by first | decide | omega) (by first | decide | omega) (Nat.le_of_ble_eq_true rfl) rfl rfl (Nat.le_of_ble_eq_true rfl) ?_ ?_
  rotate_left
  · rintro E9 w9 h9; exact h9.elim
  rintro v10 w10 ⟨rfl, z10, rfl, g10⟩
  refine ne_callV X nw_Tg (me_X3_refuse l hl c q t b k h vt T (by exact ⟨Ic, Iq, It, Ib, Itb, Igb, Ik, Ih, Iv⟩) (by omega) _ _ (by omega) (by omega)) nw_yX3_refuse nw_mX3_72 nw_iX3_refuse nw_eX3_refuse (ci := 5) rfl rfl rfl dX3_restAt_13 rfl rfl (by decide) (by decide) (by first | decide | omega) (by first | decide | omega) (Nat.le_of_ble_eq_true rfl) rfl rfl (Nat.le_of_ble_eq_true rfl) ?_ ?_
  rotate_left
  · rintro E9 w9 h9; exact h9.elim
  rintro v13 w13 ⟨u13, rfl, Iv, z13, rfl, g13⟩
  refine ne_if_eq (tgt := 23) X dX3_restAt_16 rfl (by omega) (fun b16 => ?_) (fun b16 => ?_)
  · refine ne_aload_n X dX3_restAt_23 rfl ?_
    refine ne_getf X dX3_restAt_24 nw_fX3_18 rfl rfl ?_
    refine ne_iload_n X dX3_restAt_27 rfl ?_
    refine ne_ialdR X dX3_restAt_28 rfl (by omega) It (fun v28 e28 f28 u28 => ?_)
    refine ne_aload_n X dX3_restAt_29 rfl ?_
    refine ne_getf X dX3_restAt_30 nw_fX3_21 rfl rfl ?_
    refine ne_iload_n X dX3_restAt_33 rfl ?_
    refine ne_ialdR X dX3_restAt_34 rfl (by omega) Ib (fun v34 e34 f34 u34 => ?_)
    refine ne_iload_n X dX3_restAt_35 rfl ?_
    have htb9 := Itb i.toNat
    have hb9 := Ib i.toNat
    refine ne_callS X nw_Tg (me_X3_restOf l hl _ _ _ _ (by omega) (by omega) (by omega) (by omega)) nw_yX3_restOf nw_mX3_149 nw_sX3_restOf dX3_restAt_36 rfl rfl (by decide) (by decide) (by first | decide | omega) (by first | decide | omega) (Nat.le_of_ble_eq_true rfl) rfl rfl (Nat.le_of_ble_eq_true rfl) ?_ ?_
    rotate_left
    · rintro E9 w9 h9; exact h9.elim
    rintro v36 w36 ⟨rfl, z36, rfl, g36, k36, i36⟩
    exact ne_iret X hr (by first | rfl | decide | rfl) dX3_restAt_39 ⟨⟨_, _, _, _, rfl, Ic, Iq, It, Ib, Itb, Igb, Ik, ne_rg_mono Ih (by omega) (by omega), Iv⟩, _, rfl, trivial⟩
  · refine ne_iconst X dX3_restAt_19 ?_
    refine ne_goto (tgt := 39) X dX3_restAt_20 rfl ?_
    exact ne_iret X hr (by first | rfl | decide | rfl) dX3_restAt_39 ⟨⟨_, _, _, _, rfl, Ic, Iq, It, Ib, Itb, Igb, Ik, ne_rg_mono Ih (by omega) (by omega), Iv⟩, _, rfl, trivial⟩
set_option maxRecDepth 100000 in
set_option maxHeartbeats 4000000 in
theorem me_X3_nines (l : Launch) (hl : l.stackTraces = false) (c q t b k h : Nat → Int) (vt T : Int) (hI : mI c q t b k h vt T) (hT : 0 ≤ T ∧ T ≤ 1000) (i : Int) (p : Int) (hi : -2147483648 ≤ i ∧ i < 2147483648) (hp : -2147483648 ≤ p ∧ p < 2147483648)  : ne_M l nw_cl (.code yX3_nines cX3_nines 3 (some .int)) nw_T yX3_nines 9 330 3 292 [.ref 0, ni i, ni p] (mW c q t b k h vt) (fun v w => (∃ c1 q1 h1 v1, w = mW c1 q1 t b k h1 v1 ∧ mI c1 q1 t b k h1 v1 (T + 1)) ∧ ∃ z : Int, v = some (ni z) ∧ True) (fun _ _ => False) := by
  refine ne_meet (own := RX3) hl rfl (by decide +kernel) (Nat.le_of_ble_eq_true rfl) ?_
  intro D ct A P9 V9 R9 S9 M9 as9 bl9 mt9 C9 ad0 X hr hin ht
  obtain ⟨Ic, Iq, It, Ib, Itb, Igb, Ik, Ih, Iv⟩ := hI
  refine ne_aload_n X dX3_nines_0 rfl ?_
  refine ne_iload_n X dX3_nines_1 rfl ?_
  refine ne_callS X nw_Tg (me_X3_isNoWheel l hl _ _ (by omega)) nw_yX3_isNoWheel nw_mX3_104 nw_sX3_isNoWheel dX3_nines_2 rfl rfl (by decide) (by decide) (by first | decide | omega) (by first | decide | omega) (Nat.le_of_ble_eq_true rfl) rfl rfl (Nat.le_of_ble_eq_true rfl) ?_ ?_
  rotate_left
  · rintro E9 w9 h9; exact h9.elim
  rintro v2 w2 ⟨rfl, z2, rfl, g2⟩
  refine ne_iload_n X dX3_nines_5 rfl ?_
  refine ne_iconst X dX3_nines_6 ?_
  refine ne_bipush (v := 12) (by decide) X dX3_nines_7 ?_
  refine ne_callS X nw_Tg (me_X3_isOut l hl _ _ _ _ (by omega) (by omega) (by omega)) nw_yX3_isOut nw_mX3_34 nw_sX3_isOut dX3_nines_9 rfl rfl (by decide) (by decide) (by first | decide | omega) (by first | decide | omega) (Nat.le_of_ble_eq_true rfl) rfl rfl (Nat.le_of_ble_eq_true rfl) ?_ ?_
  rotate_left
  · rintro E9 w9 h9; exact h9.elim
  rintro v9 w9 ⟨rfl, z9, rfl, g9⟩
  refine ne_callV X nw_Tg (me_X3_refuse l hl c q t b k h vt T (by exact ⟨Ic, Iq, It, Ib, Itb, Igb, Ik, Ih, Iv⟩) (by omega) _ _ (by omega) (by omega)) nw_yX3_refuse nw_mX3_72 nw_iX3_refuse nw_eX3_refuse (ci := 5) rfl rfl rfl dX3_nines_12 rfl rfl (by decide) (by decide) (by first | decide | omega) (by first | decide | omega) (Nat.le_of_ble_eq_true rfl) rfl rfl (Nat.le_of_ble_eq_true rfl) ?_ ?_
  rotate_left
  · rintro E9 w9 h9; exact h9.elim
  rintro v12 w12 ⟨u12, rfl, Iv, z12, rfl, g12⟩
  refine ne_if_eq (tgt := 22) X dX3_nines_15 rfl (by omega) (fun b15 => ?_) (fun b15 => ?_)
  · refine ne_aload_n X dX3_nines_22 rfl ?_
    refine ne_iload_n X dX3_nines_23 rfl ?_
    refine ne_iload_n X dX3_nines_24 rfl ?_
    refine ne_callV X nw_Tg (me_X3_ninesOf l hl c q t b k h u12 T (by exact ⟨Ic, Iq, It, Ib, Itb, Igb, Ik, Ih, Iv⟩) (by omega) _ _ (by omega) (by omega)) nw_yX3_ninesOf nw_mX3_182 nw_iX3_ninesOf nw_eX3_ninesOf (ci := 5) rfl rfl rfl dX3_nines_25 rfl rfl (by decide) (by decide) (by first | decide | omega) (by first | decide | omega) (Nat.le_of_ble_eq_true rfl) rfl rfl (Nat.le_of_ble_eq_true rfl) ?_ ?_
    rotate_left
    · rintro E9 w9 h9; exact h9.elim
    rintro v25 w25 ⟨rfl, z25, rfl, g25, k25⟩
    exact ne_iret X hr (by first | rfl | decide | rfl) dX3_nines_28 ⟨⟨_, _, _, _, rfl, Ic, Iq, It, Ib, Itb, Igb, Ik, ne_rg_mono Ih (by omega) (by omega), Iv⟩, _, rfl, trivial⟩
  · refine ne_iconst X dX3_nines_18 ?_
    refine ne_goto (tgt := 28) X dX3_nines_19 rfl ?_
    exact ne_iret X hr (by first | rfl | decide | rfl) dX3_nines_28 ⟨⟨_, _, _, _, rfl, Ic, Iq, It, Ib, Itb, Igb, Ik, ne_rg_mono Ih (by omega) (by omega), Iv⟩, _, rfl, trivial⟩
set_option maxRecDepth 100000 in
set_option maxHeartbeats 4000000 in
theorem me_X3_placeOf (l : Launch) (hl : l.stackTraces = false) (c q t b k h : Nat → Int) (vt T : Int) (hI : mI c q t b k h vt T) (hT : 0 ≤ T ∧ T ≤ 1000) (i : Int) (j : Int) (hi : -2147483648 ≤ i ∧ i < 2147483648) (hj : -2147483648 ≤ j ∧ j < 2147483648)  : ne_M l nw_cl (.code yX3_placeOf cX3_placeOf 5 (some .int)) nw_T yX3_placeOf 9 330 0 0 [.ref 0, ni i, ni j] (mW c q t b k h vt) (fun v w => (∃ c1 q1 h1 v1, w = mW c1 q1 t b k h1 v1 ∧ mI c1 q1 t b k h1 v1 (T + 1)) ∧ ∃ z : Int, v = some (ni z) ∧ True) (fun _ _ => False) := by
  refine ne_meet (own := RX3) hl rfl (by decide +kernel) (Nat.le_of_ble_eq_true rfl) ?_
  intro D ct A P9 V9 R9 S9 M9 as9 bl9 mt9 C9 ad0 X hr hin ht
  obtain ⟨Ic, Iq, It, Ib, Itb, Igb, Ik, Ih, Iv⟩ := hI
  have lp38 : ∀ (n9 : Nat) (z31 m : Int), (97 - m).toNat < n9 → (0 ≤ m) → (m ≤ 96) → (1 ≤ z31 ∧ z31 ≤ 96) → (0 ≤ i ∧ i < 3) → (0 ≤ j ∧ j < 3) → ne_G nw_cl D ct A 7 ad0 P9 l V9 R9 S9 M9 as9 bl9 mt9 C9 (ne_O nw_cl D ct ad0 7 A bl9 as9 S9 0 0 (fun v w => (∃ c1 q1 h1 v1, w = mW c1 q1 t b k h1 v1 ∧ mI c1 q1 t b k h1 v1 (T + 1)) ∧ ∃ z : Int, v = some (ni z) ∧ True) (fun _ _ => False)) 5 0 0 0 0 38 [some (.ref 0), some (ni i), some (ni j), some (ni z31), some (ni m)] [] (mW c q t b k h 0) := by
    intro n9
    induction n9 with
    | zero => intro z31 m hm9 q1 q2 q5 q6 q7; exfalso; omega
    | succ n9 ih =>
      intro z31 m hm9 q1 q2 q5 q6 q7
      have Iv : (0 : Int) ≤ 0 ∧ (0 : Int) ≤ 2 := by omega
      have htb9 := Itb i.toNat
      have hb9 := Ib i.toNat
      refine ne_iload X dX3_placeOf_38 rfl ?_
      refine ne_iload_n X dX3_placeOf_40 rfl ?_
      refine ne_icmp_ge (tgt := 93) X dX3_placeOf_41 rfl (by omega) (by omega) (fun b41 => ?_) (fun b41 => ?_)
      · refine ne_iconst X dX3_placeOf_93 ?_
        exact ne_iret X hr (by first | rfl | decide | rfl) dX3_placeOf_94 ⟨⟨_, _, _, _, rfl, Ic, Iq, It, Ib, Itb, Igb, Ik, ne_rg_mono Ih (by omega) (by omega), Iv⟩, _, rfl, trivial⟩
      · refine ne_aload_n X dX3_placeOf_44 rfl ?_
        refine ne_getf X dX3_placeOf_45 nw_fX3_18 rfl rfl ?_
        refine ne_iload_n X dX3_placeOf_48 rfl ?_
        refine ne_ialdR X dX3_placeOf_49 rfl (by omega) It (fun v49 e49 f49 u49 => ?_)
        refine ne_aload_n X dX3_placeOf_50 rfl ?_
        refine ne_getf X dX3_placeOf_51 nw_fX3_21 rfl rfl ?_
        refine ne_iload_n X dX3_placeOf_54 rfl ?_
        refine ne_ialdR X dX3_placeOf_55 rfl (by omega) Ib (fun v55 e55 f55 u55 => ?_)
        refine ne_iload X dX3_placeOf_56 rfl ?_
        refine ne_callS X nw_Tg (me_X3_restOf l hl _ _ _ _ (by omega) (by omega) (by omega) (by omega)) nw_yX3_restOf nw_mX3_149 nw_sX3_restOf dX3_placeOf_58 rfl rfl (by decide) (by decide) (by first | decide | omega) (by first | decide | omega) (Nat.le_of_ble_eq_true rfl) rfl rfl (Nat.le_of_ble_eq_true rfl) ?_ ?_
        rotate_left
        · rintro E9 w9 h9; exact h9.elim
        rintro v58 w58 ⟨rfl, z58, rfl, g58, k58, i58⟩
        have hz58 : z58 ≤ 98 := by omega
        refine ne_aload_n X dX3_placeOf_61 rfl ?_
        refine ne_getf X dX3_placeOf_62 nw_fX3_21 rfl rfl ?_
        refine ne_iload_n X dX3_placeOf_65 rfl ?_
        refine ne_ialdR X dX3_placeOf_66 rfl (by omega) Ib (fun v66 e66 f66 u66 => ?_)
        have m67 := ne_mul z58 v66 98 99 (by omega) (by omega)
        refine ne_imul X dX3_placeOf_67 ?_
        refine ne_aload_n X dX3_placeOf_68 rfl ?_
        refine ne_getf X dX3_placeOf_69 nw_fX3_18 rfl rfl ?_
        refine ne_iload_n X dX3_placeOf_72 rfl ?_
        refine ne_ialdR X dX3_placeOf_73 rfl (by omega) It (fun v73 e73 f73 u73 => ?_)
        refine ne_aload_n X dX3_placeOf_74 rfl ?_
        refine ne_getf X dX3_placeOf_75 nw_fX3_21 rfl rfl ?_
        refine ne_iload_n X dX3_placeOf_78 rfl ?_
        refine ne_ialdR X dX3_placeOf_79 rfl (by omega) Ib (fun v79 e79 f79 u79 => ?_)
        have m80 := ne_mul v73 v79 98 99 (by omega) (by omega)
        refine ne_imul X dX3_placeOf_80 ?_
        refine ne_icmp_ne (tgt := 87) X dX3_placeOf_81 rfl (by omega) (by omega) (fun b81 => ?_) (fun b81 => ?_)
        · refine ne_iinc X dX3_placeOf_87 rfl (by decide) ?_
          refine ne_goto (tgt := 38) X dX3_placeOf_90 rfl ?_
          exact ih _ (m + 1) (by omega) (by omega) (by omega) (by omega) (by omega) (by omega)
        · refine ne_iload X dX3_placeOf_84 rfl ?_
          exact ne_iret X hr (by first | rfl | decide | rfl) dX3_placeOf_86 ⟨⟨_, _, _, _, rfl, Ic, Iq, It, Ib, Itb, Igb, Ik, ne_rg_mono Ih (by omega) (by omega), Iv⟩, _, rfl, trivial⟩
  refine ne_aload_n X dX3_placeOf_0 rfl ?_
  refine ne_iload_n X dX3_placeOf_1 rfl ?_
  refine ne_callS X nw_Tg (me_X3_isNoWheel l hl _ _ (by omega)) nw_yX3_isNoWheel nw_mX3_104 nw_sX3_isNoWheel dX3_placeOf_2 rfl rfl (by decide) (by decide) (by first | decide | omega) (by first | decide | omega) (Nat.le_of_ble_eq_true rfl) rfl rfl (Nat.le_of_ble_eq_true rfl) ?_ ?_
  rotate_left
  · rintro E9 w9 h9; exact h9.elim
  rintro v2 w2 ⟨rfl, z2, rfl, g2⟩
  refine ne_if_ne (tgt := 15) X dX3_placeOf_5 rfl (by omega) (fun b5 => ?_) (fun b5 => ?_)
  · refine ne_iconst X dX3_placeOf_15 ?_
    refine ne_goto (tgt := 20) X dX3_placeOf_16 rfl ?_
    refine ne_iconst X dX3_placeOf_20 ?_
    refine ne_callV X nw_Tg (me_X3_refuse l hl c q t b k h vt T (by exact ⟨Ic, Iq, It, Ib, Itb, Igb, Ik, Ih, Iv⟩) (by omega) _ _ (by omega) (by omega)) nw_yX3_refuse nw_mX3_72 nw_iX3_refuse nw_eX3_refuse (ci := 5) rfl rfl rfl dX3_placeOf_21 rfl rfl (by decide) (by decide) (by first | decide | omega) (by first | decide | omega) (Nat.le_of_ble_eq_true rfl) rfl rfl (Nat.le_of_ble_eq_true rfl) ?_ ?_
    rotate_left
    · rintro E9 w9 h9; exact h9.elim
    rintro v21 w21 ⟨u21, rfl, Iv, z21, rfl, g21⟩
    refine ne_if_eq (tgt := 29) X dX3_placeOf_24 rfl (by omega) (fun b24 => ?_) (fun b24 => ?_)
    · exfalso; omega
    · refine ne_iconst X dX3_placeOf_27 ?_
      exact ne_iret X hr (by first | rfl | decide | rfl) dX3_placeOf_28 ⟨⟨_, _, _, _, rfl, Ic, Iq, It, Ib, Itb, Igb, Ik, ne_rg_mono Ih (by omega) (by omega), Iv⟩, _, rfl, trivial⟩
  · refine ne_iload_n X dX3_placeOf_8 rfl ?_
    refine ne_callS X nw_Tg (me_X3_isNoWheel l hl _ _ (by omega)) nw_yX3_isNoWheel nw_mX3_104 nw_sX3_isNoWheel dX3_placeOf_9 rfl rfl (by decide) (by decide) (by first | decide | omega) (by first | decide | omega) (Nat.le_of_ble_eq_true rfl) rfl rfl (Nat.le_of_ble_eq_true rfl) ?_ ?_
    rotate_left
    · rintro E9 w9 h9; exact h9.elim
    rintro v9 w9 ⟨rfl, z9, rfl, g9⟩
    refine ne_if_eq (tgt := 19) X dX3_placeOf_12 rfl (by omega) (fun b12 => ?_) (fun b12 => ?_)
    · refine ne_iconst X dX3_placeOf_19 ?_
      refine ne_iconst X dX3_placeOf_20 ?_
      refine ne_callV X nw_Tg (me_X3_refuse l hl c q t b k h vt T (by exact ⟨Ic, Iq, It, Ib, Itb, Igb, Ik, Ih, Iv⟩) (by omega) _ _ (by omega) (by omega)) nw_yX3_refuse nw_mX3_72 nw_iX3_refuse nw_eX3_refuse (ci := 5) rfl rfl rfl dX3_placeOf_21 rfl rfl (by decide) (by decide) (by first | decide | omega) (by first | decide | omega) (Nat.le_of_ble_eq_true rfl) rfl rfl (Nat.le_of_ble_eq_true rfl) ?_ ?_
      rotate_left
      · rintro E9 w9 h9; exact h9.elim
      rintro v21 w21 ⟨u21, rfl, Iv, z21, rfl, g21⟩
      refine ne_if_eq (tgt := 29) X dX3_placeOf_24 rfl (by omega) (fun b24 => ?_) (fun b24 => ?_)
      · refine ne_aload_n X dX3_placeOf_29 rfl ?_
        refine ne_iload_n X dX3_placeOf_30 rfl ?_
        refine ne_callV X nw_Tg (me_X3_lengthOf_ l hl c q t b k h u21 T (by exact ⟨Ic, Iq, It, Ib, Itb, Igb, Ik, Ih, Iv⟩) (by omega) _ (by omega)) nw_yX3_lengthOf_ nw_mX3_146 nw_iX3_lengthOf_ nw_eX3_lengthOf_ (ci := 5) rfl rfl rfl dX3_placeOf_31 rfl rfl (by decide) (by decide) (by first | decide | omega) (by first | decide | omega) (Nat.le_of_ble_eq_true rfl) rfl rfl (Nat.le_of_ble_eq_true rfl) ?_ ?_
        rotate_left
        · rintro E9 w9 h9; exact h9.elim
        rintro v31 w31 ⟨rfl, z31, rfl, P31, g31, k31⟩
        refine ne_istore_n X dX3_placeOf_34 rfl (by decide) ?_
        refine ne_iconst X dX3_placeOf_35 ?_
        refine ne_istore X dX3_placeOf_36 (by decide) ?_
        refine ne_ll (L' := [some (.ref 0), some (ni _), some (ni _), some (ni _), some (ni _)]) rfl ?_
        obtain rfl : u21 = 0 := by omega
        exact lp38 _ _ 0 (Nat.lt_succ_self _) (by omega) (by omega) (by omega) (by omega) (by omega)
      · exfalso; omega
    · refine ne_iconst X dX3_placeOf_15 ?_
      refine ne_goto (tgt := 20) X dX3_placeOf_16 rfl ?_
      refine ne_iconst X dX3_placeOf_20 ?_
      refine ne_callV X nw_Tg (me_X3_refuse l hl c q t b k h vt T (by exact ⟨Ic, Iq, It, Ib, Itb, Igb, Ik, Ih, Iv⟩) (by omega) _ _ (by omega) (by omega)) nw_yX3_refuse nw_mX3_72 nw_iX3_refuse nw_eX3_refuse (ci := 5) rfl rfl rfl dX3_placeOf_21 rfl rfl (by decide) (by decide) (by first | decide | omega) (by first | decide | omega) (Nat.le_of_ble_eq_true rfl) rfl rfl (Nat.le_of_ble_eq_true rfl) ?_ ?_
      rotate_left
      · rintro E9 w9 h9; exact h9.elim
      rintro v21 w21 ⟨u21, rfl, Iv, z21, rfl, g21⟩
      refine ne_if_eq (tgt := 29) X dX3_placeOf_24 rfl (by omega) (fun b24 => ?_) (fun b24 => ?_)
      · exfalso; omega
      · refine ne_iconst X dX3_placeOf_27 ?_
        exact ne_iret X hr (by first | rfl | decide | rfl) dX3_placeOf_28 ⟨⟨_, _, _, _, rfl, Ic, Iq, It, Ib, Itb, Igb, Ik, ne_rg_mono Ih (by omega) (by omega), Iv⟩, _, rfl, trivial⟩
set_option maxRecDepth 100000 in
set_option maxHeartbeats 4000000 in
theorem me_X3_against (l : Launch) (hl : l.stackTraces = false) (c q t b k h : Nat → Int) (vt T : Int) (hI : mI c q t b k h vt T) (hT : 0 ≤ T ∧ T ≤ 1000) (i : Int) (j : Int) (hi : -2147483648 ≤ i ∧ i < 2147483648) (hj : -2147483648 ≤ j ∧ j < 2147483648)  : ne_M l nw_cl (.code yX3_against cX3_against 3 (some .int)) nw_T yX3_against 9 330 0 0 [.ref 0, ni i, ni j] (mW c q t b k h vt) (fun v w => (∃ c1 q1 h1 v1, w = mW c1 q1 t b k h1 v1 ∧ mI c1 q1 t b k h1 v1 (T + 1)) ∧ ∃ z : Int, v = some (ni z) ∧ True) (fun _ _ => False) := by
  refine ne_meet (own := RX3) hl rfl (by decide +kernel) (Nat.le_of_ble_eq_true rfl) ?_
  intro D ct A P9 V9 R9 S9 M9 as9 bl9 mt9 C9 ad0 X hr hin ht
  obtain ⟨Ic, Iq, It, Ib, Itb, Igb, Ik, Ih, Iv⟩ := hI
  refine ne_aload_n X dX3_against_0 rfl ?_
  refine ne_iload_n X dX3_against_1 rfl ?_
  refine ne_callS X nw_Tg (me_X3_isNoWheel l hl _ _ (by omega)) nw_yX3_isNoWheel nw_mX3_104 nw_sX3_isNoWheel dX3_against_2 rfl rfl (by decide) (by decide) (by first | decide | omega) (by first | decide | omega) (Nat.le_of_ble_eq_true rfl) rfl rfl (Nat.le_of_ble_eq_true rfl) ?_ ?_
  rotate_left
  · rintro E9 w9 h9; exact h9.elim
  rintro v2 w2 ⟨rfl, z2, rfl, g2⟩
  refine ne_if_ne (tgt := 15) X dX3_against_5 rfl (by omega) (fun b5 => ?_) (fun b5 => ?_)
  · refine ne_iconst X dX3_against_15 ?_
    refine ne_goto (tgt := 20) X dX3_against_16 rfl ?_
    refine ne_iconst X dX3_against_20 ?_
    refine ne_callV X nw_Tg (me_X3_refuse l hl c q t b k h vt T (by exact ⟨Ic, Iq, It, Ib, Itb, Igb, Ik, Ih, Iv⟩) (by omega) _ _ (by omega) (by omega)) nw_yX3_refuse nw_mX3_72 nw_iX3_refuse nw_eX3_refuse (ci := 5) rfl rfl rfl dX3_against_21 rfl rfl (by decide) (by decide) (by first | decide | omega) (by first | decide | omega) (Nat.le_of_ble_eq_true rfl) rfl rfl (Nat.le_of_ble_eq_true rfl) ?_ ?_
    rotate_left
    · rintro E9 w9 h9; exact h9.elim
    rintro v21 w21 ⟨u21, rfl, Iv, z21, rfl, g21⟩
    refine ne_if_eq (tgt := 31) X dX3_against_24 rfl (by omega) (fun b24 => ?_) (fun b24 => ?_)
    · exfalso; omega
    · refine ne_iconst X dX3_against_27 ?_
      refine ne_goto (tgt := 37) X dX3_against_28 rfl ?_
      exact ne_iret X hr (by first | rfl | decide | rfl) dX3_against_37 ⟨⟨_, _, _, _, rfl, Ic, Iq, It, Ib, Itb, Igb, Ik, ne_rg_mono Ih (by omega) (by omega), Iv⟩, _, rfl, trivial⟩
  · refine ne_iload_n X dX3_against_8 rfl ?_
    refine ne_callS X nw_Tg (me_X3_isNoCell l hl _ _ (by omega)) nw_yX3_isNoCell nw_mX3_66 nw_sX3_isNoCell dX3_against_9 rfl rfl (by decide) (by decide) (by first | decide | omega) (by first | decide | omega) (Nat.le_of_ble_eq_true rfl) rfl rfl (Nat.le_of_ble_eq_true rfl) ?_ ?_
    rotate_left
    · rintro E9 w9 h9; exact h9.elim
    rintro v9 w9 ⟨rfl, z9, rfl, g9⟩
    refine ne_if_eq (tgt := 19) X dX3_against_12 rfl (by omega) (fun b12 => ?_) (fun b12 => ?_)
    · refine ne_iconst X dX3_against_19 ?_
      refine ne_iconst X dX3_against_20 ?_
      refine ne_callV X nw_Tg (me_X3_refuse l hl c q t b k h vt T (by exact ⟨Ic, Iq, It, Ib, Itb, Igb, Ik, Ih, Iv⟩) (by omega) _ _ (by omega) (by omega)) nw_yX3_refuse nw_mX3_72 nw_iX3_refuse nw_eX3_refuse (ci := 5) rfl rfl rfl dX3_against_21 rfl rfl (by decide) (by decide) (by first | decide | omega) (by first | decide | omega) (Nat.le_of_ble_eq_true rfl) rfl rfl (Nat.le_of_ble_eq_true rfl) ?_ ?_
      rotate_left
      · rintro E9 w9 h9; exact h9.elim
      rintro v21 w21 ⟨u21, rfl, Iv, z21, rfl, g21⟩
      refine ne_if_eq (tgt := 31) X dX3_against_24 rfl (by omega) (fun b24 => ?_) (fun b24 => ?_)
      · refine ne_aload_n X dX3_against_31 rfl ?_
        refine ne_iload_n X dX3_against_32 rfl ?_
        refine ne_iload_n X dX3_against_33 rfl ?_
        refine ne_callV X nw_Tg (me_X3_heldAgainst l hl c q t b k h u21 T (by exact ⟨Ic, Iq, It, Ib, Itb, Igb, Ik, Ih, Iv⟩) (by omega) _ _ (by omega) (by omega)) nw_yX3_heldAgainst nw_mX3_188 nw_iX3_heldAgainst nw_eX3_heldAgainst (ci := 5) rfl rfl rfl dX3_against_34 rfl rfl (by decide) (by decide) (by first | decide | omega) (by first | decide | omega) (Nat.le_of_ble_eq_true rfl) rfl rfl (Nat.le_of_ble_eq_true rfl) ?_ ?_
        rotate_left
        · rintro E9 w9 h9; exact h9.elim
        rintro v34 w34 ⟨rfl, z34, rfl, g34, k34⟩
        exact ne_iret X hr (by first | rfl | decide | rfl) dX3_against_37 ⟨⟨_, _, _, _, rfl, Ic, Iq, It, Ib, Itb, Igb, Ik, ne_rg_mono Ih (by omega) (by omega), Iv⟩, _, rfl, trivial⟩
      · exfalso; omega
    · refine ne_iconst X dX3_against_15 ?_
      refine ne_goto (tgt := 20) X dX3_against_16 rfl ?_
      refine ne_iconst X dX3_against_20 ?_
      refine ne_callV X nw_Tg (me_X3_refuse l hl c q t b k h vt T (by exact ⟨Ic, Iq, It, Ib, Itb, Igb, Ik, Ih, Iv⟩) (by omega) _ _ (by omega) (by omega)) nw_yX3_refuse nw_mX3_72 nw_iX3_refuse nw_eX3_refuse (ci := 5) rfl rfl rfl dX3_against_21 rfl rfl (by decide) (by decide) (by first | decide | omega) (by first | decide | omega) (Nat.le_of_ble_eq_true rfl) rfl rfl (Nat.le_of_ble_eq_true rfl) ?_ ?_
      rotate_left
      · rintro E9 w9 h9; exact h9.elim
      rintro v21 w21 ⟨u21, rfl, Iv, z21, rfl, g21⟩
      refine ne_if_eq (tgt := 31) X dX3_against_24 rfl (by omega) (fun b24 => ?_) (fun b24 => ?_)
      · exfalso; omega
      · refine ne_iconst X dX3_against_27 ?_
        refine ne_goto (tgt := 37) X dX3_against_28 rfl ?_
        exact ne_iret X hr (by first | rfl | decide | rfl) dX3_against_37 ⟨⟨_, _, _, _, rfl, Ic, Iq, It, Ib, Itb, Igb, Ik, ne_rg_mono Ih (by omega) (by omega), Iv⟩, _, rfl, trivial⟩
set_option maxRecDepth 100000 in
set_option maxHeartbeats 4000000 in
theorem me_X3_house (l : Launch) (hl : l.stackTraces = false) (c q t b k h : Nat → Int) (vt T : Int) (hI : mI c q t b k h vt T) (hT : 0 ≤ T ∧ T ≤ 1000) (a : Int) (ha : -2147483648 ≤ a ∧ a < 2147483648)  : ne_M l nw_cl (.code yX3_house cX3_house 2 (some .int)) nw_T yX3_house 9 330 0 0 [.ref 0, ni a] (mW c q t b k h vt) (fun v w => (∃ c1 q1 h1 v1, w = mW c1 q1 t b k h1 v1 ∧ mI c1 q1 t b k h1 v1 (T + 1)) ∧ ∃ z : Int, v = some (ni z) ∧ True) (fun _ _ => False) := by
  refine ne_meet (own := RX3) hl rfl (by decide +kernel) (Nat.le_of_ble_eq_true rfl) ?_
  intro D ct A P9 V9 R9 S9 M9 as9 bl9 mt9 C9 ad0 X hr hin ht
  obtain ⟨Ic, Iq, It, Ib, Itb, Igb, Ik, Ih, Iv⟩ := hI
  refine ne_aload_n X dX3_house_0 rfl ?_
  refine ne_iload_n X dX3_house_1 rfl ?_
  refine ne_iconst X dX3_house_2 ?_
  refine ne_iconst X dX3_house_3 ?_
  refine ne_callS X nw_Tg (me_X3_isOut l hl _ _ _ _ (by omega) (by omega) (by omega)) nw_yX3_isOut nw_mX3_34 nw_sX3_isOut dX3_house_4 rfl rfl (by decide) (by decide) (by first | decide | omega) (by first | decide | omega) (Nat.le_of_ble_eq_true rfl) rfl rfl (Nat.le_of_ble_eq_true rfl) ?_ ?_
  rotate_left
  · rintro E9 w9 h9; exact h9.elim
  rintro v4 w4 ⟨rfl, z4, rfl, g4⟩
  refine ne_iconst X dX3_house_7 ?_
  refine ne_callV X nw_Tg (me_X3_refuse l hl c q t b k h vt T (by exact ⟨Ic, Iq, It, Ib, Itb, Igb, Ik, Ih, Iv⟩) (by omega) _ _ (by omega) (by omega)) nw_yX3_refuse nw_mX3_72 nw_iX3_refuse nw_eX3_refuse (ci := 5) rfl rfl rfl dX3_house_8 rfl rfl (by decide) (by decide) (by first | decide | omega) (by first | decide | omega) (Nat.le_of_ble_eq_true rfl) rfl rfl (Nat.le_of_ble_eq_true rfl) ?_ ?_
  rotate_left
  · rintro E9 w9 h9; exact h9.elim
  rintro v8 w8 ⟨u8, rfl, Iv, z8, rfl, g8⟩
  refine ne_if_eq (tgt := 18) X dX3_house_11 rfl (by omega) (fun b11 => ?_) (fun b11 => ?_)
  · refine ne_aload_n X dX3_house_18 rfl ?_
    refine ne_getf X dX3_house_19 nw_fX3_27 rfl rfl ?_
    refine ne_iload_n X dX3_house_22 rfl ?_
    refine ne_ialdR X dX3_house_23 rfl (by omega) Ih (fun v23 e23 f23 u23 => ?_)
    exact ne_iret X hr (by first | rfl | decide | rfl) dX3_house_24 ⟨⟨_, _, _, _, rfl, Ic, Iq, It, Ib, Itb, Igb, Ik, ne_rg_mono Ih (by omega) (by omega), Iv⟩, _, rfl, trivial⟩
  · refine ne_iconst X dX3_house_14 ?_
    refine ne_goto (tgt := 24) X dX3_house_15 rfl ?_
    exact ne_iret X hr (by first | rfl | decide | rfl) dX3_house_24 ⟨⟨_, _, _, _, rfl, Ic, Iq, It, Ib, Itb, Igb, Ik, ne_rg_mono Ih (by omega) (by omega), Iv⟩, _, rfl, trivial⟩
