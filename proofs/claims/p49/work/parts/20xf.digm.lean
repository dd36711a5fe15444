set_option maxRecDepth 100000 in
set_option maxHeartbeats 4000000 in
theorem me_X3_addZ (l : Launch) (hl : l.stackTraces = false) (ws : ne_W) (a b : Int) : ne_M l nw_cl (.code yX3_add_ cX3_add_ 4 (some .long)) nw_T yX3_add_ 0 0 0 0 [nl a, nl b] ws (fun v w => w = ws ∧ ∃ z : Int, v = some (nl z) ∧ z = n7_j a b) (fun _ _ => False) := by
  refine ne_meet (own := RX3) hl rfl (by decide +kernel) (Nat.le_of_ble_eq_true rfl) ?_
  intro D ct A P9 V9 R9 S9 M9 as9 bl9 mt9 C9 ad0 X hr hin ht
  refine ne_lload_n X dX3_add__0 rfl ?_
  refine ne_ldc2 (z := 31) (by decide) nw_cX3_204 X dX3_add__1 ?_
  refine ne_lmul X dX3_add__4 ?_
  refine ne_lload_n X dX3_add__5 rfl ?_
  refine ne_ladd X dX3_add__6 ?_
  exact ne_lret X hr dX3_add__7 ⟨rfl, _, rfl, rfl⟩
set_option maxRecDepth 100000 in
set_option maxHeartbeats 4000000 in
theorem me_X3_spokeOfY (l : Launch) (hl : l.stackTraces = false) (c q t b k h : Nat → Int) (vt T : Int) (hI : mI c q t b k h vt T) (hT : 0 ≤ T ∧ T ≤ 1000000) (n : Nat → Int) (i w0 : Int) (hi : 0 ≤ i ∧ i < 3) (hw : 0 ≤ w0 ∧ w0 ≤ 4) (hper : ne_per (t i.toNat) (b i.toNat) (n i.toNat)) : ne_M l nw_cl (.code yX3_spokeOf cX3_spokeOf 3 (some .int)) nw_T yX3_spokeOf 2 80 0 0 [.ref 0, ni i, ni w0] (mW c q t b k h vt) (fun v w => w = mW c q t b k h vt ∧ ∃ z : Int, v = some (ni z) ∧ (0 ≤ z ∧ z ≤ 99) ∧ z = n7_sp t b k n i.toNat w0.toNat) (fun _ _ => False) := by
  refine ne_meet (own := RX3) hl rfl (by decide +kernel) (Nat.le_of_ble_eq_true rfl) ?_
  intro D ct A P9 V9 R9 S9 M9 as9 bl9 mt9 C9 ad0 X hr hin ht
  obtain ⟨Ic, Iq, It, Ib, Itb, Igb, Ik, Ih, Iv⟩ := hI
  have htb9 := Itb i.toNat
  have hb9 := Ib i.toNat
  have ht9 := It i.toNat
  have hgb9 := Igb i.toNat
  refine ne_iload_n X dX3_spokeOf_0 rfl ?_
  refine ne_if_ne (tgt := 11) X dX3_spokeOf_1 rfl (by omega) (fun b1 => ?_) (fun b1 => ?_)
  · refine ne_iload_n X dX3_spokeOf_11 rfl ?_
    refine ne_iconst X dX3_spokeOf_12 ?_
    refine ne_icmp_ne (tgt := 23) X dX3_spokeOf_13 rfl (by omega) (by omega) (fun b13 => ?_) (fun b13 => ?_)
    · refine ne_iload_n X dX3_spokeOf_23 rfl ?_
      refine ne_iconst X dX3_spokeOf_24 ?_
      refine ne_icmp_ne (tgt := 35) X dX3_spokeOf_25 rfl (by omega) (by omega) (fun b25 => ?_) (fun b25 => ?_)
      · refine ne_iload_n X dX3_spokeOf_35 rfl ?_
        refine ne_iconst X dX3_spokeOf_36 ?_
        refine ne_icmp_ne (tgt := 64) X dX3_spokeOf_37 rfl (by omega) (by omega) (fun b37 => ?_) (fun b37 => ?_)
        · refine ne_aload_n X dX3_spokeOf_64 rfl ?_
          refine ne_iload_n X dX3_spokeOf_65 rfl ?_
          refine ne_callV X nw_Tg (me_X3_lengthOf_ l hl c q t b k h vt T (by exact ⟨Ic, Iq, It, Ib, Itb, Igb, Ik, Ih, Iv⟩) (by omega) _ (by omega)) nw_yX3_lengthOf_ nw_mX3_146 nw_iX3_lengthOf_ nw_eX3_lengthOf_ (ci := 5) rfl rfl rfl dX3_spokeOf_66 rfl rfl (by decide) (by decide) (by first | decide | omega) (by first | decide | omega) (Nat.le_of_ble_eq_true rfl) rfl rfl (Nat.le_of_ble_eq_true rfl) ?_ ?_
          rotate_left
          · rintro E9 w9 h9; exact h9.elim
          rintro v66 w66 ⟨rfl, z66, rfl, P66, g66, k66⟩
          exact ne_iret X hr (by first | rfl | decide | rfl) dX3_spokeOf_69 (by first | exact ⟨rfl, _, rfl, by omega, (by rw [show w0.toNat = 3 by omega]; have h9 := g58; rw [e45, e51, e57] at h9; exact h9)⟩ | exact ⟨rfl, _, rfl, by omega, (by rw [show w0.toNat = 4 by omega]; exact ne_perU P66 hper)⟩)
        · refine ne_aload_n X dX3_spokeOf_40 rfl ?_
          refine ne_getf X dX3_spokeOf_41 nw_fX3_18 rfl rfl ?_
          refine ne_iload_n X dX3_spokeOf_44 rfl ?_
          refine ne_ialdR X dX3_spokeOf_45 rfl (by omega) It (fun v45 e45 f45 u45 => ?_)
          refine ne_aload_n X dX3_spokeOf_46 rfl ?_
          refine ne_getf X dX3_spokeOf_47 nw_fX3_21 rfl rfl ?_
          refine ne_iload_n X dX3_spokeOf_50 rfl ?_
          refine ne_ialdR X dX3_spokeOf_51 rfl (by omega) Ib (fun v51 e51 f51 u51 => ?_)
          refine ne_aload_n X dX3_spokeOf_52 rfl ?_
          refine ne_getf X dX3_spokeOf_53 nw_fX3_24 rfl rfl ?_
          refine ne_iload_n X dX3_spokeOf_56 rfl ?_
          refine ne_ialdR X dX3_spokeOf_57 rfl (by omega) Ik (fun v57 e57 f57 u57 => ?_)
          refine ne_callS X nw_Tg (me_X3_restOf l hl _ _ _ _ (by omega) (by omega) (by omega) (by omega)) nw_yX3_restOf nw_mX3_149 nw_sX3_restOf dX3_spokeOf_58 rfl rfl (by decide) (by decide) (by first | decide | omega) (by first | decide | omega) (Nat.le_of_ble_eq_true rfl) rfl rfl (Nat.le_of_ble_eq_true rfl) ?_ ?_
          rotate_left
          · rintro E9 w9 h9; exact h9.elim
          rintro v58 w58 ⟨rfl, z58, rfl, g58, k58, i58⟩
          refine ne_goto (tgt := 69) X dX3_spokeOf_61 rfl ?_
          exact ne_iret X hr (by first | rfl | decide | rfl) dX3_spokeOf_69 (by first | exact ⟨rfl, _, rfl, by omega, (by rw [show w0.toNat = 3 by omega]; have h9 := g58; rw [e45, e51, e57] at h9; exact h9)⟩ | exact ⟨rfl, _, rfl, by omega, (by rw [show w0.toNat = 4 by omega]; exact ne_perU P66 hper)⟩)
      · refine ne_aload_n X dX3_spokeOf_28 rfl ?_
        refine ne_getf X dX3_spokeOf_29 nw_fX3_24 rfl rfl ?_
        refine ne_iload_n X dX3_spokeOf_32 rfl ?_
        refine ne_ialdR X dX3_spokeOf_33 rfl (by omega) Ik (fun v33 e33 f33 u33 => ?_)
        exact ne_iret X hr (by first | rfl | decide | rfl) dX3_spokeOf_34 ⟨rfl, _, rfl, by omega, (by rw [show w0.toNat = 2 by omega]; exact e33)⟩
    · refine ne_aload_n X dX3_spokeOf_16 rfl ?_
      refine ne_getf X dX3_spokeOf_17 nw_fX3_21 rfl rfl ?_
      refine ne_iload_n X dX3_spokeOf_20 rfl ?_
      refine ne_ialdR X dX3_spokeOf_21 rfl (by omega) Ib (fun v21 e21 f21 u21 => ?_)
      exact ne_iret X hr (by first | rfl | decide | rfl) dX3_spokeOf_22 ⟨rfl, _, rfl, by omega, (by rw [show w0.toNat = 1 by omega]; exact e21)⟩
  · refine ne_aload_n X dX3_spokeOf_4 rfl ?_
    refine ne_getf X dX3_spokeOf_5 nw_fX3_18 rfl rfl ?_
    refine ne_iload_n X dX3_spokeOf_8 rfl ?_
    refine ne_ialdR X dX3_spokeOf_9 rfl (by omega) It (fun v9 e9 f9 u9 => ?_)
    exact ne_iret X hr (by first | rfl | decide | rfl) dX3_spokeOf_10 ⟨rfl, _, rfl, by omega, (by rw [show w0.toNat = 0 by omega]; exact e9)⟩
set_option maxRecDepth 100000 in
set_option maxHeartbeats 4000000 in
theorem me_X3_wheelsOrderedY (l : Launch) (hl : l.stackTraces = false) (c q t b k h : Nat → Int) (vt T : Int) (hI : mI c q t b k h vt T) (hT : 0 ≤ T ∧ T ≤ 1000000) (i j : Int) (hi : 0 ≤ i ∧ i < 3) (hj : 0 ≤ j ∧ j < 3) : ne_M l nw_cl (.code yX3_wheelsOrdered cX3_wheelsOrdered 3 (some .int)) nw_T yX3_wheelsOrdered 1 40 0 0 [.ref 0, ni i, ni j] (mW c q t b k h vt) (fun v w => w = mW c q t b k h vt ∧ ∃ z : Int, v = some (ni z) ∧ (-1 ≤ z ∧ z ≤ 1) ∧ z = n7_od (t i.toNat * b j.toNat) (t j.toNat * b i.toNat)) (fun _ _ => False) := by
  refine ne_meet (own := RX3) hl rfl (by decide +kernel) (Nat.le_of_ble_eq_true rfl) ?_
  intro D ct A P9 V9 R9 S9 M9 as9 bl9 mt9 C9 ad0 X hr hin ht
  obtain ⟨Ic, Iq, It, Ib, Itb, Igb, Ik, Ih, Iv⟩ := hI
  refine ne_aload_n X dX3_wheelsOrdered_0 rfl ?_
  refine ne_getf X dX3_wheelsOrdered_1 nw_fX3_18 rfl rfl ?_
  refine ne_iload_n X dX3_wheelsOrdered_4 rfl ?_
  refine ne_ialdR X dX3_wheelsOrdered_5 rfl (by omega) It (fun v5 e5 f5 u5 => ?_)
  refine ne_aload_n X dX3_wheelsOrdered_6 rfl ?_
  refine ne_getf X dX3_wheelsOrdered_7 nw_fX3_21 rfl rfl ?_
  refine ne_iload_n X dX3_wheelsOrdered_10 rfl ?_
  refine ne_ialdR X dX3_wheelsOrdered_11 rfl (by omega) Ib (fun v11 e11 f11 u11 => ?_)
  have m12 := ne_mul v5 v11 98 99 (by omega) (by omega)
  refine ne_imul X dX3_wheelsOrdered_12 ?_
  refine ne_i2l (by omega) X dX3_wheelsOrdered_13 ?_
  refine ne_aload_n X dX3_wheelsOrdered_14 rfl ?_
  refine ne_getf X dX3_wheelsOrdered_15 nw_fX3_18 rfl rfl ?_
  refine ne_iload_n X dX3_wheelsOrdered_18 rfl ?_
  refine ne_ialdR X dX3_wheelsOrdered_19 rfl (by omega) It (fun v19 e19 f19 u19 => ?_)
  refine ne_aload_n X dX3_wheelsOrdered_20 rfl ?_
  refine ne_getf X dX3_wheelsOrdered_21 nw_fX3_21 rfl rfl ?_
  refine ne_iload_n X dX3_wheelsOrdered_24 rfl ?_
  refine ne_ialdR X dX3_wheelsOrdered_25 rfl (by omega) Ib (fun v25 e25 f25 u25 => ?_)
  have m26 := ne_mul v19 v25 98 99 (by omega) (by omega)
  refine ne_imul X dX3_wheelsOrdered_26 ?_
  refine ne_i2l (by omega) X dX3_wheelsOrdered_27 ?_
  refine ne_callS X nw_Tg (me_X3_side l hl _ _ _ (by omega) (by omega)) nw_yX3_side nw_mX3_48 nw_sX3_side dX3_wheelsOrdered_28 rfl rfl (by decide) (by decide) (by first | decide | omega) (by first | decide | omega) (Nat.le_of_ble_eq_true rfl) rfl rfl (Nat.le_of_ble_eq_true rfl) ?_ ?_
  rotate_left
  · rintro E9 w9 h9; exact h9.elim
  rintro v28 w28 ⟨rfl, z28, rfl, g28, k28, i28, j28⟩
  exact ne_iret X hr (by first | rfl | decide | rfl) dX3_wheelsOrdered_31 ⟨rfl, _, rfl, by omega, (by rw [← e5, ← e11, ← e19, ← e25]; exact n7_odE (by omega) (by omega) (by omega) (by omega))⟩
set_option maxRecDepth 100000 in
set_option maxHeartbeats 4000000 in
theorem me_X3_heldAgainstY (l : Launch) (hl : l.stackTraces = false) (c q t b k h : Nat → Int) (vt T : Int) (hI : mI c q t b k h vt T) (hT : 0 ≤ T ∧ T ≤ 1000000) (i j : Int) (hi : 0 ≤ i ∧ i < 3) (hj : 0 ≤ j ∧ j < 4) : ne_M l nw_cl (.code yX3_heldAgainst cX3_heldAgainst 3 (some .int)) nw_T yX3_heldAgainst 1 40 0 0 [.ref 0, ni i, ni j] (mW c q t b k h vt) (fun v w => w = mW c q t b k h vt ∧ ∃ z : Int, v = some (ni z) ∧ (-1 ≤ z ∧ z ≤ 1) ∧ z = n7_od (t i.toNat * 10 ^ (q j.toNat).toNat) (c j.toNat * b i.toNat)) (fun _ _ => False) := by
  refine ne_meet (own := RX3) hl rfl (by decide +kernel) (Nat.le_of_ble_eq_true rfl) ?_
  intro D ct A P9 V9 R9 S9 M9 as9 bl9 mt9 C9 ad0 X hr hin ht
  obtain ⟨Ic, Iq, It, Ib, Itb, Igb, Ik, Ih, Iv⟩ := hI
  refine ne_aload_n X dX3_heldAgainst_0 rfl ?_
  refine ne_getf X dX3_heldAgainst_1 nw_fX3_18 rfl rfl ?_
  refine ne_iload_n X dX3_heldAgainst_4 rfl ?_
  refine ne_ialdR X dX3_heldAgainst_5 rfl (by omega) It (fun v5 e5 f5 u5 => ?_)
  refine ne_i2l (by omega) X dX3_heldAgainst_6 ?_
  refine ne_aload_n X dX3_heldAgainst_7 rfl ?_
  refine ne_getf X dX3_heldAgainst_8 nw_fX3_15 rfl rfl ?_
  refine ne_iload_n X dX3_heldAgainst_11 rfl ?_
  refine ne_ialdR X dX3_heldAgainst_12 rfl (by omega) Iq (fun v12 e12 f12 u12 => ?_)
  refine ne_callS X nw_Tg (me_X3_ten l hl _ _ (by omega)) nw_yX3_ten nw_mX3_58 nw_sX3_ten dX3_heldAgainst_13 rfl rfl (by decide) (by decide) (by first | decide | omega) (by first | decide | omega) (Nat.le_of_ble_eq_true rfl) rfl rfl (Nat.le_of_ble_eq_true rfl) ?_ ?_
  rotate_left
  · rintro E9 w9 h9; exact h9.elim
  rintro v13 w13 ⟨rfl, z13, rfl, g13, k13, i13, j13, m13, o13, p13⟩
  have m13 := ne_mul v5 z13 98 1000 (by omega) (by omega)
  refine ne_lmul X dX3_heldAgainst_16 ?_
  refine ne_aload_n X dX3_heldAgainst_17 rfl ?_
  refine ne_getf X dX3_heldAgainst_18 nw_fX3_9 rfl rfl ?_
  refine ne_iload_n X dX3_heldAgainst_21 rfl ?_
  refine ne_ialdR X dX3_heldAgainst_22 rfl (by omega) Ic (fun v22 e22 f22 u22 => ?_)
  refine ne_i2l (by omega) X dX3_heldAgainst_23 ?_
  refine ne_aload_n X dX3_heldAgainst_24 rfl ?_
  refine ne_getf X dX3_heldAgainst_25 nw_fX3_21 rfl rfl ?_
  refine ne_iload_n X dX3_heldAgainst_28 rfl ?_
  refine ne_ialdR X dX3_heldAgainst_29 rfl (by omega) Ib (fun v29 e29 f29 u29 => ?_)
  refine ne_i2l (by omega) X dX3_heldAgainst_30 ?_
  have m31 := ne_mul v22 v29 999999 99 (by omega) (by omega)
  refine ne_lmul X dX3_heldAgainst_31 ?_
  refine ne_callS X nw_Tg (me_X3_side l hl _ _ _ (by omega) (by omega)) nw_yX3_side nw_mX3_48 nw_sX3_side dX3_heldAgainst_32 rfl rfl (by decide) (by decide) (by first | decide | omega) (by first | decide | omega) (Nat.le_of_ble_eq_true rfl) rfl rfl (Nat.le_of_ble_eq_true rfl) ?_ ?_
  rotate_left
  · rintro E9 w9 h9; exact h9.elim
  rintro v32 w32 ⟨rfl, z32, rfl, g32, k32, i32, j32⟩
  exact ne_iret X hr (by first | rfl | decide | rfl) dX3_heldAgainst_35 ⟨rfl, _, rfl, by omega, (by rw [← e5, ← e12, ← g13, ← e22, ← e29]; exact n7_odE (by omega) (by omega) (by omega) (by omega))⟩
set_option maxRecDepth 100000 in
set_option maxHeartbeats 4000000 in
theorem me_X3_digestZ (l : Launch) (hl : l.stackTraces = false) (c q t b k h : Nat → Int) (vt T : Int) (hI : mI c q t b k h vt T) (hT : 0 ≤ T ∧ T ≤ 1000000) (n : Nat → Int) (hP : ∀ j : Nat, ne_per (t j) (b j) (n j)) : ne_M l nw_cl (.code yX3_digest cX3_digest 5 (some .long)) nw_T yX3_digest 5 240 27 2628 [.ref 0] (mW c q t b k h vt) (fun v w => w = mW c q t b k h 0 ∧ ∃ z : Int, v = some (nl z) ∧ (-9223372036854775808 ≤ z ∧ z < 9223372036854775808) ∧ z = n7_w (n7_dig c q t b k n h)) (fun _ _ => False) := by
  refine ne_meet (own := RX3) hl rfl (by decide +kernel) (Nat.le_of_ble_eq_true rfl) ?_
  intro D ct A P9 V9 R9 S9 M9 as9 bl9 mt9 C9 ad0 X hr hin ht
  obtain ⟨Ic, Iq, It, Ib, Itb, Igb, Ik, Ih, Iv⟩ := hI
  have Iv : (0 : Int) ≤ 0 ∧ (0 : Int) ≤ 2 := by omega
  have lp270 : ∀ (n9 : Nat) (d j : Int), (4 - j).toNat < n9 → (0 ≤ j) → (j ≤ 4) → (d = n7_h1 h (n7_dw c q t b k n (n7_dc c q 7944)) j.toNat) → ne_G nw_cl D ct A 7 ad0 P9 l V9 R9 S9 M9 as9 bl9 mt9 C9 (ne_O nw_cl D ct ad0 7 A bl9 as9 S9 27 2628 (fun v w => w = mW c q t b k h 0 ∧ ∃ z : Int, v = some (nl z) ∧ (-9223372036854775808 ≤ z ∧ z < 9223372036854775808) ∧ z = n7_w (n7_dig c q t b k n h)) (fun _ _ => False)) 5 27 2628 9 876 270 [some (.ref 0), some (nl d), none, some (ni j), none] [] (mW c q t b k h 0) := by
    intro n9
    induction n9 with
    | zero => intro d j hm9 q1 q2 q3; exfalso; omega
    | succ n9 ih =>
      intro d j hm9 q1 q2 q3
      refine ne_iload_n X dX3_digest_270 rfl ?_
      refine ne_iconst X dX3_digest_271 ?_
      refine ne_icmp_ge (tgt := 293) X dX3_digest_272 rfl (by omega) (by omega) (fun b272 => ?_) (fun b272 => ?_)
      · refine ne_lload_n X dX3_digest_293 rfl ?_
        refine ne_aload_n X dX3_digest_294 rfl ?_
        refine ne_callV X nw_Tg (me_X3_isWholeZ l hl c q t b k h 0 T (by exact ⟨Ic, Iq, It, Ib, Itb, Igb, Ik, Ih, Iv⟩) (by omega) ) nw_yX3_isWhole nw_mX3_200 nw_iX3_isWhole nw_eX3_isWhole (ci := 5) rfl rfl rfl dX3_digest_295 rfl rfl (by decide) (by decide) (by first | decide | omega) (by first | decide | omega) (Nat.le_of_ble_eq_true rfl) rfl rfl (Nat.le_of_ble_eq_true rfl) ?_ ?_
        rotate_left
        · rintro E9 w9 h9; exact h9.elim
        rintro v295 w295 ⟨rfl, z295, rfl, g295⟩
        refine ne_if_eq (tgt := 305) X dX3_digest_298 rfl (by omega) (fun b298 => ?_) (fun b298 => ?_)
        · exfalso; omega
        · refine ne_lconst (z := 1) (by decide) X dX3_digest_301 ?_
          refine ne_goto (tgt := 306) X dX3_digest_302 rfl ?_
          refine ne_callS X nw_Tg (me_X3_addZ l hl _ _ _) nw_yX3_add_ nw_mX3_208 nw_sX3_add_ dX3_digest_306 rfl rfl (by decide) (by decide) (by first | decide | omega) (by first | decide | omega) (Nat.le_of_ble_eq_true rfl) rfl rfl (Nat.le_of_ble_eq_true rfl) ?_ ?_
          rotate_left
          · rintro E9 w9 h9; exact h9.elim
          rintro v306 w306 ⟨rfl, z306, rfl, g306⟩
          exact ne_lret X hr dX3_digest_309 ⟨rfl, _, n7_wE _, n7_wB _, (by rw [g306, q3, show j.toNat = 4 by omega]; rfl)⟩
      · refine ne_lload_n X dX3_digest_275 rfl ?_
        refine ne_aload_n X dX3_digest_276 rfl ?_
        refine ne_getf X dX3_digest_277 nw_fX3_27 rfl rfl ?_
        refine ne_iload_n X dX3_digest_280 rfl ?_
        refine ne_ialdR X dX3_digest_281 rfl (by omega) Ih (fun v281 e281 f281 u281 => ?_)
        refine ne_i2l (by omega) X dX3_digest_282 ?_
        refine ne_callS X nw_Tg (me_X3_addZ l hl _ _ _) nw_yX3_add_ nw_mX3_208 nw_sX3_add_ dX3_digest_283 rfl rfl (by decide) (by decide) (by first | decide | omega) (by first | decide | omega) (Nat.le_of_ble_eq_true rfl) rfl rfl (Nat.le_of_ble_eq_true rfl) ?_ ?_
        rotate_left
        · rintro E9 w9 h9; exact h9.elim
        rintro v283 w283 ⟨rfl, z283, rfl, g283⟩
        refine ne_lstore_n X dX3_digest_286 rfl (by decide) ?_
        refine ne_iinc X dX3_digest_287 rfl (by decide) ?_
        refine ne_ll (L' := [some (.ref 0), some (nl _), none, some (ni _), none]) rfl ?_
        refine ne_goto (tgt := 270) X dX3_digest_290 rfl ?_
        refine ne_lnone 4 ?_
        have k3 : z283 = n7_h1 h (n7_dw c q t b k n (n7_dc c q 7944)) (j + 1).toNat := by
                                            rw [(show (j + 1).toNat = j.toNat + 1 by omega)]
                                            show z283 = n7_j (n7_h1 h (n7_dw c q t b k n (n7_dc c q 7944)) j.toNat) (h j.toNat)
                                            rw [g283, e281, q3]
        exact ih _ (j + 1) (by omega) (by omega) (by omega) k3
  have lp227 : ∀ (n9 : Nat) (d j : Int), (3 - j).toNat < n9 → (0 ≤ j) → (j ≤ 3) → (d = n7_q2 t b (n7_w3 c q t b k n (n7_dc c q 7944) 3) j.toNat) → ne_G nw_cl D ct A 7 ad0 P9 l V9 R9 S9 M9 as9 bl9 mt9 C9 (ne_O nw_cl D ct ad0 7 A bl9 as9 S9 27 2628 (fun v w => w = mW c q t b k h 0 ∧ ∃ z : Int, v = some (nl z) ∧ (-9223372036854775808 ≤ z ∧ z < 9223372036854775808) ∧ z = n7_w (n7_dig c q t b k n h)) (fun _ _ => False)) 5 27 2628 9 876 227 [some (.ref 0), some (nl d), none, some (ni j), none] [] (mW c q t b k h 0) := by
    intro n9
    induction n9 with
    | zero => intro d j hm9 q1 q2 q3; exfalso; omega
    | succ n9 ih =>
      intro d j hm9 q1 q2 q3
      have ih227 := ih
      have lp237 : ∀ (n9 : Nat) (d a : Int), (5 - a).toNat < n9 → (j + 1 ≤ a ∧ a ≤ 3) → (0 ≤ j ∧ j < 3) → (d = n7_q1 t b j.toNat (n7_q2 t b (n7_w3 c q t b k n (n7_dc c q 7944) 3) j.toNat) (a - (j + 1)).toNat) → ne_G nw_cl D ct A 7 ad0 P9 l V9 R9 S9 M9 as9 bl9 mt9 C9 (ne_O nw_cl D ct ad0 7 A bl9 as9 S9 27 2628 (fun v w => w = mW c q t b k h 0 ∧ ∃ z : Int, v = some (nl z) ∧ (-9223372036854775808 ≤ z ∧ z < 9223372036854775808) ∧ z = n7_w (n7_dig c q t b k n h)) (fun _ _ => False)) 5 27 2628 9 876 237 [some (.ref 0), some (nl d), none, some (ni j), some (ni a)] [] (mW c q t b k h 0) := by
        intro n9
        induction n9 with
        | zero => intro d a hm9 u1 u3 u6; exfalso; omega
        | succ n9 ih =>
          intro d a hm9 u1 u3 u6
          refine ne_iload X dX3_digest_237 rfl ?_
          refine ne_iconst X dX3_digest_239 ?_
          refine ne_icmp_ge (tgt := 262) X dX3_digest_240 rfl (by omega) (by omega) (fun b240 => ?_) (fun b240 => ?_)
          · refine ne_iinc X dX3_digest_262 rfl (by decide) ?_
            refine ne_goto (tgt := 227) X dX3_digest_265 rfl ?_
            refine ne_lnone 4 ?_
            have k3 : d = n7_q2 t b (n7_w3 c q t b k n (n7_dc c q 7944) 3) (j + 1).toNat := by
                                            rw [(show (j + 1).toNat = j.toNat + 1 by omega)]
                                            show d = n7_q1 t b j.toNat (n7_q2 t b (n7_w3 c q t b k n (n7_dc c q 7944) 3) j.toNat) (2 - j.toNat)
                                            rw [u6]
                                            congr 1
                                            omega
            exact ih227 _ (j + 1) (by omega) (by omega) (by omega) k3
          · refine ne_lload_n X dX3_digest_243 rfl ?_
            refine ne_aload_n X dX3_digest_244 rfl ?_
            refine ne_iload_n X dX3_digest_245 rfl ?_
            refine ne_iload X dX3_digest_246 rfl ?_
            refine ne_callV X nw_Tg (me_X3_wheelsOrderedY l hl c q t b k h 0 T (by exact ⟨Ic, Iq, It, Ib, Itb, Igb, Ik, Ih, Iv⟩) (by omega) _ _ (by omega) (by omega)) nw_yX3_wheelsOrdered nw_mX3_185 nw_iX3_wheelsOrdered nw_eX3_wheelsOrdered (ci := 5) rfl rfl rfl dX3_digest_248 rfl rfl (by decide) (by decide) (by first | decide | omega) (by first | decide | omega) (Nat.le_of_ble_eq_true rfl) rfl rfl (Nat.le_of_ble_eq_true rfl) ?_ ?_
            rotate_left
            · rintro E9 w9 h9; exact h9.elim
            rintro v248 w248 ⟨rfl, z248, rfl, g248, s248⟩
            refine ne_i2l (by omega) X dX3_digest_251 ?_
            refine ne_callS X nw_Tg (me_X3_addZ l hl _ _ _) nw_yX3_add_ nw_mX3_208 nw_sX3_add_ dX3_digest_252 rfl rfl (by decide) (by decide) (by first | decide | omega) (by first | decide | omega) (Nat.le_of_ble_eq_true rfl) rfl rfl (Nat.le_of_ble_eq_true rfl) ?_ ?_
            rotate_left
            · rintro E9 w9 h9; exact h9.elim
            rintro v252 w252 ⟨rfl, z252, rfl, g252⟩
            refine ne_lstore_n X dX3_digest_255 rfl (by decide) ?_
            refine ne_iinc X dX3_digest_256 rfl (by decide) ?_
            refine ne_ll (L' := [some (.ref 0), some (nl _), none, some (ni _), some (ni _)]) rfl ?_
            refine ne_goto (tgt := 237) X dX3_digest_259 rfl ?_
            have k6 : z252 = n7_q1 t b j.toNat (n7_q2 t b (n7_w3 c q t b k n (n7_dc c q 7944) 3) j.toNat) (a + 1 - (j + 1)).toNat := by
                                            rw [show (a + 1 - (j + 1)).toNat = (a - (j + 1)).toNat + 1 by omega]
                                            show z252 = n7_j (n7_q1 t b j.toNat (n7_q2 t b (n7_w3 c q t b k n (n7_dc c q 7944) 3) j.toNat) (a - (j + 1)).toNat) (n7_od (t j.toNat * b (j.toNat + 1 + (a - (j + 1)).toNat)) (t (j.toNat + 1 + (a - (j + 1)).toNat) * b j.toNat))
                                            rw [show j.toNat + 1 + (a - (j + 1)).toNat = a.toNat by omega, ← u6, ← s248]
                                            exact g252
            exact ih _ (a + 1) (by omega) (by omega) (by omega) k6
      refine ne_iload_n X dX3_digest_227 rfl ?_
      refine ne_iconst X dX3_digest_228 ?_
      refine ne_icmp_ge (tgt := 268) X dX3_digest_229 rfl (by omega) (by omega) (fun b229 => ?_) (fun b229 => ?_)
      · refine ne_iconst X dX3_digest_268 ?_
        refine ne_istore_n X dX3_digest_269 rfl (by decide) ?_
        refine ne_lnone 4 ?_
        exact lp270 _ _ 0 (Nat.lt_succ_self _) (by omega) (by omega) (by rw [q3, show j.toNat = 3 by omega]; rfl)
      · refine ne_iload_n X dX3_digest_232 rfl ?_
        refine ne_iconst X dX3_digest_233 ?_
        refine ne_iadd X dX3_digest_234 ?_
        refine ne_istore X dX3_digest_235 (by decide) ?_
        have k6 : d = n7_q1 t b j.toNat (n7_q2 t b (n7_w3 c q t b k n (n7_dc c q 7944) 3) j.toNat) (j + 1 - (j + 1)).toNat := by
                                            rw [show (j + 1 - (j + 1)).toNat = 0 by omega]
                                            exact q3
        exact lp237 _ _ _ (Nat.lt_succ_self _) (by omega) (by omega) k6
  have lp136 : ∀ (n9 : Nat) (d j : Int), (3 - j).toNat < n9 → (0 ≤ j) → (j ≤ 3) → (d = n7_w3 c q t b k n (n7_dc c q 7944) j.toNat) → ne_G nw_cl D ct A 7 ad0 P9 l V9 R9 S9 M9 as9 bl9 mt9 C9 (ne_O nw_cl D ct ad0 7 A bl9 as9 S9 27 2628 (fun v w => w = mW c q t b k h 0 ∧ ∃ z : Int, v = some (nl z) ∧ (-9223372036854775808 ≤ z ∧ z < 9223372036854775808) ∧ z = n7_w (n7_dig c q t b k n h)) (fun _ _ => False)) 5 27 2628 (9 + 6 * (3 - j)).toNat (876 + 584 * (3 - j)).toNat 136 [some (.ref 0), some (nl d), none, some (ni j), none] [] (mW c q t b k h 0) := by
    intro n9
    induction n9 with
    | zero => intro d j hm9 q1 q2 q3; exfalso; omega
    | succ n9 ih =>
      intro d j hm9 q1 q2 q3
      have ih136 := ih
      have lp194 : ∀ (n9 : Nat) (d a : Int), (5 - a).toNat < n9 → (0 ≤ a ∧ a ≤ 4) → (0 ≤ j ∧ j < 3) → (d = n7_a1 c q t b j.toNat (n7_d3 t b k n j.toNat (n7_w3 c q t b k n (n7_dc c q 7944) j.toNat)) a.toNat) → ne_G nw_cl D ct A 7 ad0 P9 l V9 R9 S9 M9 as9 bl9 mt9 C9 (ne_O nw_cl D ct ad0 7 A bl9 as9 S9 27 2628 (fun v w => w = mW c q t b k h 0 ∧ ∃ z : Int, v = some (nl z) ∧ (-9223372036854775808 ≤ z ∧ z < 9223372036854775808) ∧ z = n7_w (n7_dig c q t b k n h)) (fun _ _ => False)) 5 27 2628 (3 + 6 * (3 - j)).toNat (292 + 584 * (3 - j)).toNat 194 [some (.ref 0), some (nl d), none, some (ni j), some (ni a)] [] (mW c q t b k h 0) := by
        intro n9
        induction n9 with
        | zero => intro d a hm9 u1 u3 u6; exfalso; omega
        | succ n9 ih =>
          intro d a hm9 u1 u3 u6
          refine ne_iload X dX3_digest_194 rfl ?_
          refine ne_iconst X dX3_digest_196 ?_
          refine ne_icmp_ge (tgt := 219) X dX3_digest_197 rfl (by omega) (by omega) (fun b197 => ?_) (fun b197 => ?_)
          · refine ne_iinc X dX3_digest_219 rfl (by decide) ?_
            refine ne_goto (tgt := 136) X dX3_digest_222 rfl ?_
            refine ne_lnone 4 ?_
            refine ne_less (C' := (9 + 6 * (3 - (j + 1))).toNat) (S' := (876 + 584 * (3 - (j + 1))).toNat) (by omega) (by omega) ?_
            have k3 : d = n7_w3 c q t b k n (n7_dc c q 7944) (j + 1).toNat := by
                                            rw [(show (j + 1).toNat = j.toNat + 1 by omega)]
                                            show d = n7_wl c q t b k n j.toNat (n7_w3 c q t b k n (n7_dc c q 7944) j.toNat)
                                            rw [u6, show a.toNat = 4 by omega]
                                            rfl
            exact ih136 _ (j + 1) (by omega) (by omega) (by omega) k3
          · refine ne_lload_n X dX3_digest_200 rfl ?_
            refine ne_aload_n X dX3_digest_201 rfl ?_
            refine ne_iload_n X dX3_digest_202 rfl ?_
            refine ne_iload X dX3_digest_203 rfl ?_
            refine ne_callV X nw_Tg (me_X3_heldAgainstY l hl c q t b k h 0 T (by exact ⟨Ic, Iq, It, Ib, Itb, Igb, Ik, Ih, Iv⟩) (by omega) _ _ (by omega) (by omega)) nw_yX3_heldAgainst nw_mX3_188 nw_iX3_heldAgainst nw_eX3_heldAgainst (ci := 5) rfl rfl rfl dX3_digest_205 rfl rfl (by decide) (by decide) (by first | decide | omega) (by first | decide | omega) (Nat.le_of_ble_eq_true rfl) rfl rfl (Nat.le_of_ble_eq_true rfl) ?_ ?_
            rotate_left
            · rintro E9 w9 h9; exact h9.elim
            rintro v205 w205 ⟨rfl, z205, rfl, g205, s205⟩
            refine ne_i2l (by omega) X dX3_digest_208 ?_
            refine ne_callS X nw_Tg (me_X3_addZ l hl _ _ _) nw_yX3_add_ nw_mX3_208 nw_sX3_add_ dX3_digest_209 rfl rfl (by decide) (by decide) (by first | decide | omega) (by first | decide | omega) (Nat.le_of_ble_eq_true rfl) rfl rfl (Nat.le_of_ble_eq_true rfl) ?_ ?_
            rotate_left
            · rintro E9 w9 h9; exact h9.elim
            rintro v209 w209 ⟨rfl, z209, rfl, g209⟩
            refine ne_lstore_n X dX3_digest_212 rfl (by decide) ?_
            refine ne_iinc X dX3_digest_213 rfl (by decide) ?_
            refine ne_ll (L' := [some (.ref 0), some (nl _), none, some (ni _), some (ni _)]) rfl ?_
            refine ne_goto (tgt := 194) X dX3_digest_216 rfl ?_
            have k6 : z209 = n7_a1 c q t b j.toNat (n7_d3 t b k n j.toNat (n7_w3 c q t b k n (n7_dc c q 7944) j.toNat)) (a + 1).toNat := by
                                            rw [(show (a + 1).toNat = a.toNat + 1 by omega)]
                                            show z209 = n7_j (n7_a1 c q t b j.toNat (n7_d3 t b k n j.toNat (n7_w3 c q t b k n (n7_dc c q 7944) j.toNat)) a.toNat) (n7_od (t j.toNat * 10 ^ (q a.toNat).toNat) (c a.toNat * b j.toNat))
                                            rw [g209, s205, u6]
            exact ih _ (a + 1) (by omega) (by omega) (by omega) k6
      have lp144 : ∀ (n9 : Nat) (d a : Int), (5 - a).toNat < n9 → (0 ≤ a ∧ a ≤ 5) → (0 ≤ j ∧ j < 3) → (d = n7_w1 t b k n j.toNat (n7_w3 c q t b k n (n7_dc c q 7944) j.toNat) a.toNat) → ne_G nw_cl D ct A 7 ad0 P9 l V9 R9 S9 M9 as9 bl9 mt9 C9 (ne_O nw_cl D ct ad0 7 A bl9 as9 S9 27 2628 (fun v w => w = mW c q t b k h 0 ∧ ∃ z : Int, v = some (nl z) ∧ (-9223372036854775808 ≤ z ∧ z < 9223372036854775808) ∧ z = n7_w (n7_dig c q t b k n h)) (fun _ _ => False)) 5 27 2628 (9 + 6 * (3 - j)).toNat (876 + 584 * (3 - j)).toNat 144 [some (.ref 0), some (nl d), none, some (ni j), some (ni a)] [] (mW c q t b k h 0) := by
        intro n9
        induction n9 with
        | zero => intro d a hm9 u1 u3 u6; exfalso; omega
        | succ n9 ih =>
          intro d a hm9 u1 u3 u6
          refine ne_iload X dX3_digest_144 rfl ?_
          refine ne_iconst X dX3_digest_146 ?_
          refine ne_icmp_ge (tgt := 169) X dX3_digest_147 rfl (by omega) (by omega) (fun b147 => ?_) (fun b147 => ?_)
          · refine ne_lload_n X dX3_digest_169 rfl ?_
            refine ne_aload_n X dX3_digest_170 rfl ?_
            refine ne_iload_n X dX3_digest_171 rfl ?_
            refine ne_iconst X dX3_digest_172 ?_
            refine ne_callV X nw_Tg (me_X3_ninesOfZ l hl c q t b k h 0 T (by exact ⟨Ic, Iq, It, Ib, Itb, Igb, Ik, Ih, Iv⟩) (by omega) _ _ (by omega) (by omega)) nw_yX3_ninesOf nw_mX3_182 nw_iX3_ninesOf nw_eX3_ninesOf (ci := 5) rfl rfl rfl dX3_digest_173 rfl rfl (by decide) (by decide) (by first | decide | omega) (by first | decide | omega) (Nat.le_of_ble_eq_true rfl) rfl rfl (Nat.le_of_ble_eq_true rfl) ?_ ?_
            rotate_left
            · rintro E9 w9 h9; exact h9.elim
            rintro v173 w173 ⟨rfl, z173, rfl, g173, L173, P173, N173⟩
            obtain rfl : L173 = n j.toNat := ne_perU P173 (hP _)
            have s173 := n7_nvE N173
            refine ne_i2l (by omega) X dX3_digest_176 ?_
            refine ne_callS X nw_Tg (me_X3_addZ l hl _ _ _) nw_yX3_add_ nw_mX3_208 nw_sX3_add_ dX3_digest_177 rfl rfl (by decide) (by decide) (by first | decide | omega) (by first | decide | omega) (Nat.le_of_ble_eq_true rfl) rfl rfl (Nat.le_of_ble_eq_true rfl) ?_ ?_
            rotate_left
            · rintro E9 w9 h9; exact h9.elim
            rintro v177 w177 ⟨rfl, z177, rfl, g177⟩
            refine ne_aload_n X dX3_digest_180 rfl ?_
            refine ne_iload_n X dX3_digest_181 rfl ?_
            refine ne_iconst X dX3_digest_182 ?_
            refine ne_callV X nw_Tg (me_X3_ninesOfZ l hl c q t b k h 0 T (by exact ⟨Ic, Iq, It, Ib, Itb, Igb, Ik, Ih, Iv⟩) (by omega) _ _ (by omega) (by omega)) nw_yX3_ninesOf nw_mX3_182 nw_iX3_ninesOf nw_eX3_ninesOf (ci := 5) rfl rfl rfl dX3_digest_183 rfl rfl (by decide) (by decide) (by first | decide | omega) (by first | decide | omega) (Nat.le_of_ble_eq_true rfl) rfl rfl (Nat.le_of_ble_eq_true rfl) ?_ ?_
            rotate_left
            · rintro E9 w9 h9; exact h9.elim
            rintro v183 w183 ⟨rfl, z183, rfl, g183, L183, P183, N183⟩
            obtain rfl : L183 = n j.toNat := ne_perU P183 (hP _)
            have s183 := n7_nvE N183
            refine ne_i2l (by omega) X dX3_digest_186 ?_
            refine ne_callS X nw_Tg (me_X3_addZ l hl _ _ _) nw_yX3_add_ nw_mX3_208 nw_sX3_add_ dX3_digest_187 rfl rfl (by decide) (by decide) (by first | decide | omega) (by first | decide | omega) (Nat.le_of_ble_eq_true rfl) rfl rfl (Nat.le_of_ble_eq_true rfl) ?_ ?_
            rotate_left
            · rintro E9 w9 h9; exact h9.elim
            rintro v187 w187 ⟨rfl, z187, rfl, g187⟩
            refine ne_lstore_n X dX3_digest_190 rfl (by decide) ?_
            refine ne_iconst X dX3_digest_191 ?_
            refine ne_istore X dX3_digest_192 (by decide) ?_
            refine ne_ll (L' := [some (.ref 0), some (nl _), none, some (ni _), some (ni _)]) rfl ?_
            refine ne_less (C' := (3 + 6 * (3 - j)).toNat) (S' := (292 + 584 * (3 - j)).toNat) (by omega) (by omega) ?_
            have k6 : z187 = n7_a1 c q t b j.toNat (n7_d3 t b k n j.toNat (n7_w3 c q t b k n (n7_dc c q 7944) j.toNat)) (0 : Int).toNat := by
                                            show z187 = n7_j (n7_j (n7_w1 t b k n j.toNat (n7_w3 c q t b k n (n7_dc c q 7944) j.toNat) 5) (n7_nv (t j.toNat) (b j.toNat) (n j.toNat) 2)) (n7_nv (t j.toNat) (b j.toNat) (n j.toNat) 3)
                                            rw [g187, g177, s183, s173, u6, show a.toNat = 5 by omega]
            exact lp194 _ _ _ (Nat.lt_succ_self _) (by omega) (by omega) k6
          · refine ne_lload_n X dX3_digest_150 rfl ?_
            refine ne_aload_n X dX3_digest_151 rfl ?_
            refine ne_iload_n X dX3_digest_152 rfl ?_
            refine ne_iload X dX3_digest_153 rfl ?_
            refine ne_callV X nw_Tg (me_X3_spokeOfY l hl c q t b k h 0 T (by exact ⟨Ic, Iq, It, Ib, Itb, Igb, Ik, Ih, Iv⟩) (by omega) n _ _ (by omega) (by omega) (hP _)) nw_yX3_spokeOf nw_mX3_153 nw_iX3_spokeOf nw_eX3_spokeOf (ci := 5) rfl rfl rfl dX3_digest_155 rfl rfl (by decide) (by decide) (by first | decide | omega) (by first | decide | omega) (Nat.le_of_ble_eq_true rfl) rfl rfl (Nat.le_of_ble_eq_true rfl) ?_ ?_
            rotate_left
            · rintro E9 w9 h9; exact h9.elim
            rintro v155 w155 ⟨rfl, z155, rfl, g155, s155⟩
            refine ne_i2l (by omega) X dX3_digest_158 ?_
            refine ne_callS X nw_Tg (me_X3_addZ l hl _ _ _) nw_yX3_add_ nw_mX3_208 nw_sX3_add_ dX3_digest_159 rfl rfl (by decide) (by decide) (by first | decide | omega) (by first | decide | omega) (Nat.le_of_ble_eq_true rfl) rfl rfl (Nat.le_of_ble_eq_true rfl) ?_ ?_
            rotate_left
            · rintro E9 w9 h9; exact h9.elim
            rintro v159 w159 ⟨rfl, z159, rfl, g159⟩
            refine ne_lstore_n X dX3_digest_162 rfl (by decide) ?_
            refine ne_iinc X dX3_digest_163 rfl (by decide) ?_
            refine ne_ll (L' := [some (.ref 0), some (nl _), none, some (ni _), some (ni _)]) rfl ?_
            refine ne_goto (tgt := 144) X dX3_digest_166 rfl ?_
            have k6 : z159 = n7_w1 t b k n j.toNat (n7_w3 c q t b k n (n7_dc c q 7944) j.toNat) (a + 1).toNat := by
                                            rw [(show (a + 1).toNat = a.toNat + 1 by omega)]
                                            show z159 = n7_j (n7_w1 t b k n j.toNat (n7_w3 c q t b k n (n7_dc c q 7944) j.toNat) a.toNat) (n7_sp t b k n j.toNat a.toNat)
                                            rw [g159, s155, u6]
            exact ih _ (a + 1) (by omega) (by omega) (by omega) k6
      refine ne_iload_n X dX3_digest_136 rfl ?_
      refine ne_iconst X dX3_digest_137 ?_
      refine ne_icmp_ge (tgt := 225) X dX3_digest_138 rfl (by omega) (by omega) (fun b138 => ?_) (fun b138 => ?_)
      · refine ne_iconst X dX3_digest_225 ?_
        refine ne_istore_n X dX3_digest_226 rfl (by decide) ?_
        refine ne_lnone 4 ?_
        refine ne_less (C' := 9) (S' := 876) (by omega) (by omega) ?_
        exact lp227 _ _ 0 (Nat.lt_succ_self _) (by omega) (by omega) (by rw [q3, show j.toNat = 3 by omega]; rfl)
      · refine ne_iconst X dX3_digest_141 ?_
        refine ne_istore X dX3_digest_142 (by decide) ?_
        exact lp144 _ _ _ (Nat.lt_succ_self _) (by omega) (by omega) q3
  have lp75 : ∀ (n9 : Nat) (d j : Int), (4 - j).toNat < n9 → (0 ≤ j) → (j ≤ 4) → (d = n7_p2 c q (n7_c1 c q 7944 4) j.toNat) → ne_G nw_cl D ct A 7 ad0 P9 l V9 R9 S9 M9 as9 bl9 mt9 C9 (ne_O nw_cl D ct ad0 7 A bl9 as9 S9 27 2628 (fun v w => w = mW c q t b k h 0 ∧ ∃ z : Int, v = some (nl z) ∧ (-9223372036854775808 ≤ z ∧ z < 9223372036854775808) ∧ z = n7_w (n7_dig c q t b k n h)) (fun _ _ => False)) 5 27 2628 27 2628 75 [some (.ref 0), some (nl d), none, some (ni j), none] [] (mW c q t b k h 0) := by
    intro n9
    induction n9 with
    | zero => intro d j hm9 q1 q2 q3; exfalso; omega
    | succ n9 ih =>
      intro d j hm9 q1 q2 q3
      have ih75 := ih
      have lp85 : ∀ (n9 : Nat) (d a : Int), (5 - a).toNat < n9 → (j + 1 ≤ a ∧ a ≤ 4) → (0 ≤ j ∧ j < 4) → (d = n7_p1 c q j.toNat (n7_p2 c q (n7_c1 c q 7944 4) j.toNat) (a - (j + 1)).toNat) → ne_G nw_cl D ct A 7 ad0 P9 l V9 R9 S9 M9 as9 bl9 mt9 C9 (ne_O nw_cl D ct ad0 7 A bl9 as9 S9 27 2628 (fun v w => w = mW c q t b k h 0 ∧ ∃ z : Int, v = some (nl z) ∧ (-9223372036854775808 ≤ z ∧ z < 9223372036854775808) ∧ z = n7_w (n7_dig c q t b k n h)) (fun _ _ => False)) 5 27 2628 27 2628 85 [some (.ref 0), some (nl d), none, some (ni j), some (ni a)] [] (mW c q t b k h 0) := by
        intro n9
        induction n9 with
        | zero => intro d a hm9 u1 u3 u6; exfalso; omega
        | succ n9 ih =>
          intro d a hm9 u1 u3 u6
          refine ne_iload X dX3_digest_85 rfl ?_
          refine ne_iconst X dX3_digest_87 ?_
          refine ne_icmp_ge (tgt := 128) X dX3_digest_88 rfl (by omega) (by omega) (fun b88 => ?_) (fun b88 => ?_)
          · refine ne_iinc X dX3_digest_128 rfl (by decide) ?_
            refine ne_goto (tgt := 75) X dX3_digest_131 rfl ?_
            refine ne_lnone 4 ?_
            have k3 : d = n7_p2 c q (n7_c1 c q 7944 4) (j + 1).toNat := by
                                            rw [(show (j + 1).toNat = j.toNat + 1 by omega)]
                                            show d = n7_p1 c q j.toNat (n7_p2 c q (n7_c1 c q 7944 4) j.toNat) (3 - j.toNat)
                                            rw [u6]
                                            congr 1
                                            omega
            exact ih75 _ (j + 1) (by omega) (by omega) (by omega) k3
          · refine ne_lload_n X dX3_digest_91 rfl ?_
            refine ne_aload_n X dX3_digest_92 rfl ?_
            refine ne_iload_n X dX3_digest_93 rfl ?_
            refine ne_iload X dX3_digest_94 rfl ?_
            refine ne_callV X nw_Tg (me_X3_orderedX l hl c q t b k h 0 T (by exact ⟨Ic, Iq, It, Ib, Itb, Igb, Ik, Ih, Iv⟩) (by omega) _ _ (by omega) (by omega)) nw_yX3_ordered nw_mX3_101 nw_iX3_ordered nw_eX3_ordered (ci := 5) rfl rfl rfl dX3_digest_96 rfl rfl (by decide) (by decide) (by first | decide | omega) (by first | decide | omega) (Nat.le_of_ble_eq_true rfl) rfl rfl (Nat.le_of_ble_eq_true rfl) ?_ ?_
            rotate_left
            · rintro E9 w9 h9; exact h9.elim
            rintro v96 w96 ⟨rfl, z96, rfl, g96, k96, i96, j96⟩
            refine ne_i2l (by omega) X dX3_digest_99 ?_
            refine ne_callS X nw_Tg (me_X3_addZ l hl _ _ _) nw_yX3_add_ nw_mX3_208 nw_sX3_add_ dX3_digest_100 rfl rfl (by decide) (by decide) (by first | decide | omega) (by first | decide | omega) (Nat.le_of_ble_eq_true rfl) rfl rfl (Nat.le_of_ble_eq_true rfl) ?_ ?_
            rotate_left
            · rintro E9 w9 h9; exact h9.elim
            rintro v100 w100 ⟨rfl, z100, rfl, g100⟩
            refine ne_aload_n X dX3_digest_103 rfl ?_
            refine ne_iload_n X dX3_digest_104 rfl ?_
            refine ne_iload X dX3_digest_105 rfl ?_
            refine ne_callV X nw_Tg (me_X3_areSameY l hl c q t b k h 0 T (by exact ⟨Ic, Iq, It, Ib, Itb, Igb, Ik, Ih, Iv⟩) (by omega) _ _ (by omega) (by omega)) nw_yX3_areSame nw_mX3_132 nw_iX3_areSame nw_eX3_areSame (ci := 5) rfl rfl rfl dX3_digest_107 rfl rfl (by decide) (by decide) (by first | decide | omega) (by first | decide | omega) (Nat.le_of_ble_eq_true rfl) rfl rfl (Nat.le_of_ble_eq_true rfl) ?_ ?_
            rotate_left
            · rintro E9 w9 h9; exact h9.elim
            rintro v107 w107 ⟨rfl, z107, rfl, g107, k107, i107⟩
            refine ne_if_eq (tgt := 117) X dX3_digest_110 rfl (by omega) (fun b110 => ?_) (fun b110 => ?_)
            · refine ne_lconst (z := 0) (by decide) X dX3_digest_117 ?_
              refine ne_callS X nw_Tg (me_X3_addZ l hl _ _ _) nw_yX3_add_ nw_mX3_208 nw_sX3_add_ dX3_digest_118 rfl rfl (by decide) (by decide) (by first | decide | omega) (by first | decide | omega) (Nat.le_of_ble_eq_true rfl) rfl rfl (Nat.le_of_ble_eq_true rfl) ?_ ?_
              rotate_left
              · rintro E9 w9 h9; exact h9.elim
              rintro v118 w118 ⟨rfl, z118, rfl, g118⟩
              refine ne_lstore_n X dX3_digest_121 rfl (by decide) ?_
              refine ne_iinc X dX3_digest_122 rfl (by decide) ?_
              refine ne_ll (L' := [some (.ref 0), some (nl _), none, some (ni _), some (ni _)]) rfl ?_
              refine ne_goto (tgt := 85) X dX3_digest_125 rfl ?_
              have s96 : z96 = n7_od (n7_cv c q j.toNat) (n7_cv c q a.toNat) := n7_odE (by omega) (by omega) i96 j96
              have s107 : (if c j.toNat = c a.toNat ∧ q j.toNat = q a.toNat then (1 : Int) else 0) = n7_sm c q j.toNat a.toNat := rfl
              have k6 : z118 = n7_p1 c q j.toNat (n7_p2 c q (n7_c1 c q 7944 4) j.toNat) (a + 1 - (j + 1)).toNat := by
                                            rw [show (a + 1 - (j + 1)).toNat = (a - (j + 1)).toNat + 1 by omega]
                                            show z118 = n7_j (n7_j (n7_p1 c q j.toNat (n7_p2 c q (n7_c1 c q 7944 4) j.toNat) (a - (j + 1)).toNat) (n7_od (n7_cv c q j.toNat) (n7_cv c q (j.toNat + 1 + (a - (j + 1)).toNat)))) (n7_sm c q j.toNat (j.toNat + 1 + (a - (j + 1)).toNat))
                                            rw [show j.toNat + 1 + (a - (j + 1)).toNat = a.toNat by omega, ← u6, ← s96, ← s107, ← g100]
                                            first | (rw [if_pos (i107.mp (by omega))]; exact g118) | (rw [if_neg (fun h9 => absurd (i107.mpr h9) (by omega))]; exact g118)
              exact ih _ (a + 1) (by omega) (by omega) (by omega) k6
            · refine ne_lconst (z := 1) (by decide) X dX3_digest_113 ?_
              refine ne_goto (tgt := 118) X dX3_digest_114 rfl ?_
              refine ne_callS X nw_Tg (me_X3_addZ l hl _ _ _) nw_yX3_add_ nw_mX3_208 nw_sX3_add_ dX3_digest_118 rfl rfl (by decide) (by decide) (by first | decide | omega) (by first | decide | omega) (Nat.le_of_ble_eq_true rfl) rfl rfl (Nat.le_of_ble_eq_true rfl) ?_ ?_
              rotate_left
              · rintro E9 w9 h9; exact h9.elim
              rintro v118 w118 ⟨rfl, z118, rfl, g118⟩
              refine ne_lstore_n X dX3_digest_121 rfl (by decide) ?_
              refine ne_iinc X dX3_digest_122 rfl (by decide) ?_
              refine ne_ll (L' := [some (.ref 0), some (nl _), none, some (ni _), some (ni _)]) rfl ?_
              refine ne_goto (tgt := 85) X dX3_digest_125 rfl ?_
              have s96 : z96 = n7_od (n7_cv c q j.toNat) (n7_cv c q a.toNat) := n7_odE (by omega) (by omega) i96 j96
              have s107 : (if c j.toNat = c a.toNat ∧ q j.toNat = q a.toNat then (1 : Int) else 0) = n7_sm c q j.toNat a.toNat := rfl
              have k6 : z118 = n7_p1 c q j.toNat (n7_p2 c q (n7_c1 c q 7944 4) j.toNat) (a + 1 - (j + 1)).toNat := by
                                            rw [show (a + 1 - (j + 1)).toNat = (a - (j + 1)).toNat + 1 by omega]
                                            show z118 = n7_j (n7_j (n7_p1 c q j.toNat (n7_p2 c q (n7_c1 c q 7944 4) j.toNat) (a - (j + 1)).toNat) (n7_od (n7_cv c q j.toNat) (n7_cv c q (j.toNat + 1 + (a - (j + 1)).toNat)))) (n7_sm c q j.toNat (j.toNat + 1 + (a - (j + 1)).toNat))
                                            rw [show j.toNat + 1 + (a - (j + 1)).toNat = a.toNat by omega, ← u6, ← s96, ← s107, ← g100]
                                            first | (rw [if_pos (i107.mp (by omega))]; exact g118) | (rw [if_neg (fun h9 => absurd (i107.mpr h9) (by omega))]; exact g118)
              exact ih _ (a + 1) (by omega) (by omega) (by omega) k6
      refine ne_iload_n X dX3_digest_75 rfl ?_
      refine ne_iconst X dX3_digest_76 ?_
      refine ne_icmp_ge (tgt := 134) X dX3_digest_77 rfl (by omega) (by omega) (fun b77 => ?_) (fun b77 => ?_)
      · refine ne_iconst X dX3_digest_134 ?_
        refine ne_istore_n X dX3_digest_135 rfl (by decide) ?_
        refine ne_lnone 4 ?_
        refine ne_less (C' := (9 + 6 * (3 - (0 : Int))).toNat) (S' := (876 + 584 * (3 - (0 : Int))).toNat) (by omega) (by omega) ?_
        exact lp136 _ _ 0 (Nat.lt_succ_self _) (by omega) (by omega) (by rw [q3, show j.toNat = 4 by omega]; rfl)
      · refine ne_iload_n X dX3_digest_80 rfl ?_
        refine ne_iconst X dX3_digest_81 ?_
        refine ne_iadd X dX3_digest_82 ?_
        refine ne_istore X dX3_digest_83 (by decide) ?_
        have k6 : d = n7_p1 c q j.toNat (n7_p2 c q (n7_c1 c q 7944 4) j.toNat) (j + 1 - (j + 1)).toNat := by
                                            rw [show (j + 1 - (j + 1)).toNat = 0 by omega]
                                            exact q3
        exact lp85 _ _ _ (Nat.lt_succ_self _) (by omega) (by omega) k6
  have lp11 : ∀ (n9 : Nat) (d j : Int), (4 - j).toNat < n9 → (0 ≤ j) → (j ≤ 4) → (d = n7_c1 c q 7944 j.toNat) → ne_G nw_cl D ct A 7 ad0 P9 l V9 R9 S9 M9 as9 bl9 mt9 C9 (ne_O nw_cl D ct ad0 7 A bl9 as9 S9 27 2628 (fun v w => w = mW c q t b k h 0 ∧ ∃ z : Int, v = some (nl z) ∧ (-9223372036854775808 ≤ z ∧ z < 9223372036854775808) ∧ z = n7_w (n7_dig c q t b k n h)) (fun _ _ => False)) 5 27 2628 27 2628 11 [some (.ref 0), some (nl d), none, some (ni j), none] [] (mW c q t b k h 0) := by
    intro n9
    induction n9 with
    | zero => intro d j hm9 q1 q2 q3; exfalso; omega
    | succ n9 ih =>
      intro d j hm9 q1 q2 q3
      refine ne_iload_n X dX3_digest_11 rfl ?_
      refine ne_iconst X dX3_digest_12 ?_
      refine ne_icmp_ge (tgt := 73) X dX3_digest_13 rfl (by omega) (by omega) (fun b13 => ?_) (fun b13 => ?_)
      · refine ne_iconst X dX3_digest_73 ?_
        refine ne_istore_n X dX3_digest_74 rfl (by decide) ?_
        refine ne_lnone 4 ?_
        exact lp75 _ _ 0 (Nat.lt_succ_self _) (by omega) (by omega) (by rw [q3, show j.toNat = 4 by omega]; rfl)
      · refine ne_lload_n X dX3_digest_16 rfl ?_
        refine ne_aload_n X dX3_digest_17 rfl ?_
        refine ne_getf X dX3_digest_18 nw_fX3_9 rfl rfl ?_
        refine ne_iload_n X dX3_digest_21 rfl ?_
        refine ne_ialdR X dX3_digest_22 rfl (by omega) Ic (fun v22 e22 f22 u22 => ?_)
        refine ne_i2l (by omega) X dX3_digest_23 ?_
        refine ne_callS X nw_Tg (me_X3_addZ l hl _ _ _) nw_yX3_add_ nw_mX3_208 nw_sX3_add_ dX3_digest_24 rfl rfl (by decide) (by decide) (by first | decide | omega) (by first | decide | omega) (Nat.le_of_ble_eq_true rfl) rfl rfl (Nat.le_of_ble_eq_true rfl) ?_ ?_
        rotate_left
        · rintro E9 w9 h9; exact h9.elim
        rintro v24 w24 ⟨rfl, z24, rfl, g24⟩
        refine ne_aload_n X dX3_digest_27 rfl ?_
        refine ne_getf X dX3_digest_28 nw_fX3_15 rfl rfl ?_
        refine ne_iload_n X dX3_digest_31 rfl ?_
        refine ne_ialdR X dX3_digest_32 rfl (by omega) Iq (fun v32 e32 f32 u32 => ?_)
        refine ne_i2l (by omega) X dX3_digest_33 ?_
        refine ne_callS X nw_Tg (me_X3_addZ l hl _ _ _) nw_yX3_add_ nw_mX3_208 nw_sX3_add_ dX3_digest_34 rfl rfl (by decide) (by decide) (by first | decide | omega) (by first | decide | omega) (Nat.le_of_ble_eq_true rfl) rfl rfl (Nat.le_of_ble_eq_true rfl) ?_ ?_
        rotate_left
        · rintro E9 w9 h9; exact h9.elim
        rintro v34 w34 ⟨rfl, z34, rfl, g34⟩
        refine ne_aload_n X dX3_digest_37 rfl ?_
        refine ne_getf X dX3_digest_38 nw_fX3_9 rfl rfl ?_
        refine ne_iload_n X dX3_digest_41 rfl ?_
        refine ne_ialdR X dX3_digest_42 rfl (by omega) Ic (fun v42 e42 f42 u42 => ?_)
        refine ne_i2l (by omega) X dX3_digest_43 ?_
        refine ne_callS X nw_Tg (me_X3_digitsOfX l hl _ _ (by omega)) nw_yX3_digitsOf nw_mX3_97 nw_sX3_digitsOf dX3_digest_44 rfl rfl (by decide) (by decide) (by first | decide | omega) (by first | decide | omega) (Nat.le_of_ble_eq_true rfl) rfl rfl (Nat.le_of_ble_eq_true rfl) ?_ ?_
        rotate_left
        · rintro E9 w9 h9; exact h9.elim
        rintro v44 w44 ⟨rfl, z44, rfl, D44, g44, k44⟩
        refine ne_i2l (by omega) X dX3_digest_47 ?_
        refine ne_callS X nw_Tg (me_X3_addZ l hl _ _ _) nw_yX3_add_ nw_mX3_208 nw_sX3_add_ dX3_digest_48 rfl rfl (by decide) (by decide) (by first | decide | omega) (by first | decide | omega) (Nat.le_of_ble_eq_true rfl) rfl rfl (Nat.le_of_ble_eq_true rfl) ?_ ?_
        rotate_left
        · rintro E9 w9 h9; exact h9.elim
        rintro v48 w48 ⟨rfl, z48, rfl, g48⟩
        refine ne_aload_n X dX3_digest_51 rfl ?_
        refine ne_getf X dX3_digest_52 nw_fX3_9 rfl rfl ?_
        refine ne_iload_n X dX3_digest_55 rfl ?_
        refine ne_ialdR X dX3_digest_56 rfl (by omega) Ic (fun v56 e56 f56 u56 => ?_)
        refine ne_i2l (by omega) X dX3_digest_57 ?_
        refine ne_lconst (z := 0) (by decide) X dX3_digest_58 ?_
        refine ne_callS X nw_Tg (me_X3_side l hl _ _ _ (by omega) (by omega)) nw_yX3_side nw_mX3_48 nw_sX3_side dX3_digest_59 rfl rfl (by decide) (by decide) (by first | decide | omega) (by first | decide | omega) (Nat.le_of_ble_eq_true rfl) rfl rfl (Nat.le_of_ble_eq_true rfl) ?_ ?_
        rotate_left
        · rintro E9 w9 h9; exact h9.elim
        rintro v59 w59 ⟨rfl, z59, rfl, g59, k59, i59, j59⟩
        refine ne_i2l (by omega) X dX3_digest_62 ?_
        refine ne_callS X nw_Tg (me_X3_addZ l hl _ _ _) nw_yX3_add_ nw_mX3_208 nw_sX3_add_ dX3_digest_63 rfl rfl (by decide) (by decide) (by first | decide | omega) (by first | decide | omega) (Nat.le_of_ble_eq_true rfl) rfl rfl (Nat.le_of_ble_eq_true rfl) ?_ ?_
        rotate_left
        · rintro E9 w9 h9; exact h9.elim
        rintro v63 w63 ⟨rfl, z63, rfl, g63⟩
        refine ne_lstore_n X dX3_digest_66 rfl (by decide) ?_
        refine ne_iinc X dX3_digest_67 rfl (by decide) ?_
        refine ne_ll (L' := [some (.ref 0), some (nl _), none, some (ni _), none]) rfl ?_
        refine ne_goto (tgt := 11) X dX3_digest_70 rfl ?_
        refine ne_lnone 4 ?_
        have D45 := n7_dnE D44
        have s59 := n7_odE g59 k59 i59 j59
        have k3 : z63 = n7_c1 c q 7944 (j + 1).toNat := by
                                            rw [(show (j + 1).toNat = j.toNat + 1 by omega)]
                                            show z63 = n7_j (n7_j (n7_j (n7_j (n7_c1 c q 7944 j.toNat) (c j.toNat)) (q j.toNat)) (n7_dn (c j.toNat))) (n7_od (c j.toNat) 0)
                                            rw [g63, g48, g34, g24, s59, D45, e56, e42, e32, e22, q3]
        exact ih _ (j + 1) (by omega) (by omega) (by omega) k3
  refine ne_aload_n X dX3_digest_0 rfl ?_
  refine ne_iconst X dX3_digest_1 ?_
  refine ne_putf X dX3_digest_2 nw_fX3_30 nw_p5_6 rfl (fun _ => rfl) (fun _ => rfl) (by first | decide | exact Nat.le_of_ble_eq_true rfl) ?_
  refine ne_ws (ws' := mW c q t b k h 0) rfl ?_
  have Iv : (0 : Int) ≤ 0 ∧ (0 : Int) ≤ 2 := by omega
  refine ne_ldc2 (z := 7944) (by decide) nw_cX3_206 X dX3_digest_5 ?_
  refine ne_lstore_n X dX3_digest_8 rfl (by decide) ?_
  refine ne_iconst X dX3_digest_9 ?_
  refine ne_istore_n X dX3_digest_10 rfl (by decide) ?_
  refine ne_ll (L' := [some (.ref 0), some (nl _), none, some (ni _), none]) rfl ?_
  refine ne_lnone 4 ?_
  exact lp11 _ _ 0 (Nat.lt_succ_self _) (by omega) (by omega) rfl
