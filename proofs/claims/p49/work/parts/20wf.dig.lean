set_option maxRecDepth 100000 in
set_option maxHeartbeats 4000000 in
theorem me_X1_joinedZ (l : Launch) (hl : l.stackTraces = false) (ws : ne_W) (a b : Int) : ne_M l nw_cl (.code yX1_joined cX1_joined 4 (some .long)) nw_T yX1_joined 0 0 0 0 [nl a, nl b] ws (fun v w => w = ws ∧ ∃ z : Int, v = some (nl z) ∧ z = n7_j a b) (fun _ _ => False) := by
  refine ne_meet (own := RX1) hl rfl (by decide +kernel) (Nat.le_of_ble_eq_true rfl) ?_
  intro D ct A P9 V9 R9 S9 M9 as9 bl9 mt9 C9 ad0 X hr hin ht
  refine ne_lload_n X dX1_joined_0 rfl ?_
  refine ne_ldc2 (z := 31) (by decide) nw_cX1_290 X dX1_joined_1 ?_
  refine ne_lmul X dX1_joined_4 ?_
  refine ne_lload_n X dX1_joined_5 rfl ?_
  refine ne_ladd X dX1_joined_6 ?_
  exact ne_lret X hr dX1_joined_7 ⟨rfl, _, rfl, rfl⟩
set_option maxRecDepth 100000 in
set_option maxHeartbeats 4000000 in
theorem me_X1_spokeOfY (l : Launch) (hl : l.stackTraces = false) (c q t b k n h x y : Nat → Int) (T : Int) (hI : cI c q t b k n h x y T) (hT : 0 ≤ T ∧ T ≤ 1000000) (i w0 : Int) (hi : 0 ≤ i ∧ i < 3) (hw : 0 ≤ w0 ∧ w0 ≤ 4) : ne_M l nw_cl (.code yX1_spokeOf cX1_spokeOf 3 (some .int)) nw_T yX1_spokeOf 3 110 0 0 [.ref 0, ni i, ni w0] (cW c q t b k n h x y) (fun v w => w = cW c q t b k n h x y ∧ ∃ z : Int, v = some (ni z) ∧ (0 ≤ z ∧ z ≤ 99) ∧ z = n7_sp t b k n i.toNat w0.toNat) (fun _ _ => False) := by
  refine ne_meet (own := RX1) hl rfl (by decide +kernel) (Nat.le_of_ble_eq_true rfl) ?_
  intro D ct A P9 V9 R9 S9 M9 as9 bl9 mt9 C9 ad0 X hr hin ht
  obtain ⟨Ic, Iq, It, Ib, Itb, Ik, In, Ih, Ix, Iy⟩ := hI
  refine ne_iload_n X dX1_spokeOf_0 rfl ?_
  rcases (show w0 = 0 ∨ w0 = 1 ∨ w0 = 2 ∨ w0 = 3 ∨ (w0 < 0 ∨ 3 < w0) by omega) with rfl | rfl | rfl | rfl | h1
  · refine ne_tswIn (tgt := 32) X dX1_spokeOf_1 (by omega) (by omega) (by omega) rfl rfl ?_
    refine ne_aload_n X dX1_spokeOf_32 rfl ?_
    refine ne_getf X dX1_spokeOf_33 nw_fX1_16 rfl rfl ?_
    refine ne_iload_n X dX1_spokeOf_36 rfl ?_
    refine ne_ialdR X dX1_spokeOf_37 rfl (by omega) It (fun v37 e37 f37 u37 => ?_)
    exact ne_iret X hr (by first | rfl | decide | rfl) dX1_spokeOf_38 ⟨rfl, _, rfl, by omega, e37⟩
  · refine ne_tswIn (tgt := 39) X dX1_spokeOf_1 (by omega) (by omega) (by omega) rfl rfl ?_
    refine ne_aload_n X dX1_spokeOf_39 rfl ?_
    refine ne_getf X dX1_spokeOf_40 nw_fX1_19 rfl rfl ?_
    refine ne_iload_n X dX1_spokeOf_43 rfl ?_
    refine ne_ialdR X dX1_spokeOf_44 rfl (by omega) Ib (fun v44 e44 f44 u44 => ?_)
    exact ne_iret X hr (by first | rfl | decide | rfl) dX1_spokeOf_45 ⟨rfl, _, rfl, by omega, e44⟩
  · refine ne_tswIn (tgt := 46) X dX1_spokeOf_1 (by omega) (by omega) (by omega) rfl rfl ?_
    refine ne_aload_n X dX1_spokeOf_46 rfl ?_
    refine ne_getf X dX1_spokeOf_47 nw_fX1_22 rfl rfl ?_
    refine ne_iload_n X dX1_spokeOf_50 rfl ?_
    refine ne_ialdR X dX1_spokeOf_51 rfl (by omega) Ik (fun v51 e51 f51 u51 => ?_)
    exact ne_iret X hr (by first | rfl | decide | rfl) dX1_spokeOf_52 ⟨rfl, _, rfl, by omega, e51⟩
  · refine ne_tswIn (tgt := 53) X dX1_spokeOf_1 (by omega) (by omega) (by omega) rfl rfl ?_
    refine ne_aload_n X dX1_spokeOf_53 rfl ?_
    refine ne_iload_n X dX1_spokeOf_54 rfl ?_
    refine ne_aload_n X dX1_spokeOf_55 rfl ?_
    refine ne_getf X dX1_spokeOf_56 nw_fX1_22 rfl rfl ?_
    refine ne_iload_n X dX1_spokeOf_59 rfl ?_
    refine ne_ialdR X dX1_spokeOf_60 rfl (by omega) Ik (fun v60 e60 f60 u60 => ?_)
    refine ne_callV X nw_Tg (me_X1_restOfPlace l hl c q t b k n h x y T (by exact ⟨Ic, Iq, It, Ib, Itb, Ik, In, Ih, Ix, Iy⟩) (by omega) _ _ (by omega) (by omega)) nw_yX1_restOfPlace nw_mX1_135 nw_iX1_restOfPlace nw_eX1_restOfPlace (ci := 3) rfl rfl rfl dX1_spokeOf_61 rfl rfl (by decide) (by decide) (by first | decide | omega) (by first | decide | omega) (Nat.le_of_ble_eq_true rfl) rfl rfl (Nat.le_of_ble_eq_true rfl) ?_ ?_
    rotate_left
    · rintro E9 w9 h9; exact h9.elim
    rintro v61 w61 ⟨rfl, z61, rfl, g61, k61, i61, j61⟩
    exact ne_iret X hr (by first | rfl | decide | rfl) dX1_spokeOf_64 ⟨rfl, _, rfl, by omega, (by have h9 := g61; rw [e60] at h9; exact h9)⟩
  · refine ne_tswOut (tgt := 65) X dX1_spokeOf_1 (by omega) h1 rfl ?_
    refine ne_aload_n X dX1_spokeOf_65 rfl ?_
    refine ne_getf X dX1_spokeOf_66 nw_fX1_25 rfl rfl ?_
    refine ne_iload_n X dX1_spokeOf_69 rfl ?_
    refine ne_ialdR X dX1_spokeOf_70 rfl (by omega) In (fun v70 e70 f70 u70 => ?_)
    exact ne_iret X hr (by first | rfl | decide | rfl) dX1_spokeOf_71 ⟨rfl, _, rfl, by omega, (by obtain rfl : w0 = 4 := (by omega); exact e70)⟩
set_option maxRecDepth 100000 in
set_option maxHeartbeats 4000000 in
theorem me_X1_orderOfWheelsY (l : Launch) (hl : l.stackTraces = false) (c q t b k n h x y : Nat → Int) (T : Int) (hI : cI c q t b k n h x y T) (hT : 0 ≤ T ∧ T ≤ 1000000) (i j : Int) (hi : 0 ≤ i ∧ i < 3) (hj : 0 ≤ j ∧ j < 3) : ne_M l nw_cl (.code yX1_orderOfWheels cX1_orderOfWheels 3 (some .int)) nw_T yX1_orderOfWheels 1 40 0 0 [.ref 0, ni i, ni j] (cW c q t b k n h x y) (fun v w => w = cW c q t b k n h x y ∧ ∃ z : Int, v = some (ni z) ∧ (-1 ≤ z ∧ z ≤ 1) ∧ z = n7_od (t i.toNat * b j.toNat) (t j.toNat * b i.toNat)) (fun _ _ => False) := by
  refine ne_meet (own := RX1) hl rfl (by decide +kernel) (Nat.le_of_ble_eq_true rfl) ?_
  intro D ct A P9 V9 R9 S9 M9 as9 bl9 mt9 C9 ad0 X hr hin ht
  obtain ⟨Ic, Iq, It, Ib, Itb, Ik, In, Ih, Ix, Iy⟩ := hI
  refine ne_aload_n X dX1_orderOfWheels_0 rfl ?_
  refine ne_getf X dX1_orderOfWheels_1 nw_fX1_16 rfl rfl ?_
  refine ne_iload_n X dX1_orderOfWheels_4 rfl ?_
  refine ne_ialdR X dX1_orderOfWheels_5 rfl (by omega) It (fun v5 e5 f5 u5 => ?_)
  refine ne_aload_n X dX1_orderOfWheels_6 rfl ?_
  refine ne_getf X dX1_orderOfWheels_7 nw_fX1_19 rfl rfl ?_
  refine ne_iload_n X dX1_orderOfWheels_10 rfl ?_
  refine ne_ialdR X dX1_orderOfWheels_11 rfl (by omega) Ib (fun v11 e11 f11 u11 => ?_)
  have m12 := ne_mul v5 v11 98 99 (by omega) (by omega)
  refine ne_imul X dX1_orderOfWheels_12 ?_
  refine ne_aload_n X dX1_orderOfWheels_13 rfl ?_
  refine ne_getf X dX1_orderOfWheels_14 nw_fX1_16 rfl rfl ?_
  refine ne_iload_n X dX1_orderOfWheels_17 rfl ?_
  refine ne_ialdR X dX1_orderOfWheels_18 rfl (by omega) It (fun v18 e18 f18 u18 => ?_)
  refine ne_aload_n X dX1_orderOfWheels_19 rfl ?_
  refine ne_getf X dX1_orderOfWheels_20 nw_fX1_19 rfl rfl ?_
  refine ne_iload_n X dX1_orderOfWheels_23 rfl ?_
  refine ne_ialdR X dX1_orderOfWheels_24 rfl (by omega) Ib (fun v24 e24 f24 u24 => ?_)
  have m25 := ne_mul v18 v24 98 99 (by omega) (by omega)
  refine ne_imul X dX1_orderOfWheels_25 ?_
  refine ne_isub X dX1_orderOfWheels_26 ?_
  refine ne_i2l (by omega) X dX1_orderOfWheels_27 ?_
  refine ne_callS X nw_Tg (me_X1_signOf l hl _ _ (by omega)) nw_yX1_signOf nw_mX1_117 nw_sX1_signOf dX1_orderOfWheels_28 rfl rfl (by decide) (by decide) (by first | decide | omega) (by first | decide | omega) (Nat.le_of_ble_eq_true rfl) rfl rfl (Nat.le_of_ble_eq_true rfl) ?_ ?_
  rotate_left
  · rintro E9 w9 h9; exact h9.elim
  rintro v28 w28 ⟨rfl, z28, rfl, g28, k28, i28, j28⟩
  exact ne_iret X hr (by first | rfl | decide | rfl) dX1_orderOfWheels_31 ⟨rfl, _, rfl, by omega, (by rw [← e5, ← e11, ← e18, ← e24]; exact n7_odE (by omega) (by omega) (by omega) (by omega))⟩
set_option maxRecDepth 100000 in
set_option maxHeartbeats 4000000 in
theorem me_X1_orderAgainstY (l : Launch) (hl : l.stackTraces = false) (c q t b k n h x y : Nat → Int) (T : Int) (hI : cI c q t b k n h x y T) (hT : 0 ≤ T ∧ T ≤ 1000000) (i j : Int) (hi : 0 ≤ i ∧ i < 3) (hj : 0 ≤ j ∧ j < 4) : ne_M l nw_cl (.code yX1_orderAgainst cX1_orderAgainst 3 (some .int)) nw_T yX1_orderAgainst 1 40 0 0 [.ref 0, ni i, ni j] (cW c q t b k n h x y) (fun v w => w = cW c q t b k n h x y ∧ ∃ z : Int, v = some (ni z) ∧ (-1 ≤ z ∧ z ≤ 1) ∧ z = n7_od (t i.toNat * 10 ^ (q j.toNat).toNat) (c j.toNat * b i.toNat)) (fun _ _ => False) := by
  refine ne_meet (own := RX1) hl rfl (by decide +kernel) (Nat.le_of_ble_eq_true rfl) ?_
  intro D ct A P9 V9 R9 S9 M9 as9 bl9 mt9 C9 ad0 X hr hin ht
  obtain ⟨Ic, Iq, It, Ib, Itb, Ik, In, Ih, Ix, Iy⟩ := hI
  refine ne_aload_n X dX1_orderAgainst_0 rfl ?_
  refine ne_getf X dX1_orderAgainst_1 nw_fX1_16 rfl rfl ?_
  refine ne_iload_n X dX1_orderAgainst_4 rfl ?_
  refine ne_ialdR X dX1_orderAgainst_5 rfl (by omega) It (fun v5 e5 f5 u5 => ?_)
  refine ne_i2l (by omega) X dX1_orderAgainst_6 ?_
  refine ne_aload_n X dX1_orderAgainst_7 rfl ?_
  refine ne_getf X dX1_orderAgainst_8 nw_fX1_13 rfl rfl ?_
  refine ne_iload_n X dX1_orderAgainst_11 rfl ?_
  refine ne_ialdR X dX1_orderAgainst_12 rfl (by omega) Iq (fun v12 e12 f12 u12 => ?_)
  refine ne_callS X nw_Tg (me_X1_tenTo l hl _ _ (by omega)) nw_yX1_tenTo nw_mX1_59 nw_sX1_tenTo dX1_orderAgainst_13 rfl rfl (by decide) (by decide) (by first | decide | omega) (by first | decide | omega) (Nat.le_of_ble_eq_true rfl) rfl rfl (Nat.le_of_ble_eq_true rfl) ?_ ?_
  rotate_left
  · rintro E9 w9 h9; exact h9.elim
  rintro v13 w13 ⟨rfl, z13, rfl, g13, k13, i13, j13, o13⟩
  have m13 := ne_mul v5 z13 98 1000 (by omega) (by omega)
  refine ne_lmul X dX1_orderAgainst_16 ?_
  refine ne_aload_n X dX1_orderAgainst_17 rfl ?_
  refine ne_getf X dX1_orderAgainst_18 nw_fX1_9 rfl rfl ?_
  refine ne_iload_n X dX1_orderAgainst_21 rfl ?_
  refine ne_ialdR X dX1_orderAgainst_22 rfl (by omega) Ic (fun v22 e22 f22 u22 => ?_)
  refine ne_i2l (by omega) X dX1_orderAgainst_23 ?_
  refine ne_aload_n X dX1_orderAgainst_24 rfl ?_
  refine ne_getf X dX1_orderAgainst_25 nw_fX1_19 rfl rfl ?_
  refine ne_iload_n X dX1_orderAgainst_28 rfl ?_
  refine ne_ialdR X dX1_orderAgainst_29 rfl (by omega) Ib (fun v29 e29 f29 u29 => ?_)
  refine ne_i2l (by omega) X dX1_orderAgainst_30 ?_
  have m31 := ne_mul v22 v29 999999 99 (by omega) (by omega)
  refine ne_lmul X dX1_orderAgainst_31 ?_
  refine ne_lsub X dX1_orderAgainst_32 ?_
  refine ne_callS X nw_Tg (me_X1_signOf l hl _ _ (by omega)) nw_yX1_signOf nw_mX1_117 nw_sX1_signOf dX1_orderAgainst_33 rfl rfl (by decide) (by decide) (by first | decide | omega) (by first | decide | omega) (Nat.le_of_ble_eq_true rfl) rfl rfl (Nat.le_of_ble_eq_true rfl) ?_ ?_
  rotate_left
  · rintro E9 w9 h9; exact h9.elim
  rintro v33 w33 ⟨rfl, z33, rfl, g33, k33, i33, j33⟩
  exact ne_iret X hr (by first | rfl | decide | rfl) dX1_orderAgainst_36 ⟨rfl, _, rfl, by omega, (by rw [← e5, ← e12, ← g13, ← e22, ← e29]; exact n7_odE (by omega) (by omega) (by omega) (by omega))⟩
set_option maxRecDepth 100000 in
set_option maxHeartbeats 4000000 in
theorem me_X1_digestOfCellsZ (l : Launch) (hl : l.stackTraces = false) (c q t b k n h x y : Nat → Int) (T : Int) (hI : cI c q t b k n h x y T) (hT : 0 ≤ T ∧ T ≤ 1000000) (d : Int) : ne_M l nw_cl (.code yX1_digestOfCells cX1_digestOfCells 7 (some .long)) nw_T yX1_digestOfCells 3 110 0 0 [.ref 0, nl d] (cW c q t b k n h x y) (fun v w => w = cW c q t b k n h x y ∧ ∃ z : Int, v = some (nl z) ∧ z = n7_dc c q d) (fun _ _ => False) := by
  refine ne_meet (own := RX1) hl rfl (by decide +kernel) (Nat.le_of_ble_eq_true rfl) ?_
  intro D ct A P9 V9 R9 S9 M9 as9 bl9 mt9 C9 ad0 X hr hin ht
  obtain ⟨Ic, Iq, It, Ib, Itb, Ik, In, Ih, Ix, Iy⟩ := hI
  have lp80 : ∀ (n9 : Nat) (r i : Int), (4 - i).toNat < n9 → (0 ≤ i) → (i ≤ 4) → (r = n7_p2 c q (n7_c1 c q d 4) i.toNat) → ne_G nw_cl D ct A 12 ad0 P9 l V9 R9 S9 M9 as9 bl9 mt9 C9 (ne_O nw_cl D ct ad0 12 A bl9 as9 S9 0 0 (fun v w => w = cW c q t b k n h x y ∧ ∃ z : Int, v = some (nl z) ∧ z = n7_dc c q d) (fun _ _ => False)) 7 0 0 0 0 80 [some (.ref 0), some (nl d), none, some (nl r), none, some (ni i), none] [] (cW c q t b k n h x y) := by
    intro n9
    induction n9 with
    | zero => intro r i hm9 q1 q2 q3; exfalso; omega
    | succ n9 ih =>
      intro r i hm9 q1 q2 q3
      have ih80 := ih
      have lp92 : ∀ (n9 : Nat) (r j : Int), (4 - j).toNat < n9 → (i + 1 ≤ j ∧ j ≤ 4) → (i < 4) → (r = n7_p1 c q i.toNat (n7_p2 c q (n7_c1 c q d 4) i.toNat) (j - (i + 1)).toNat) → ne_G nw_cl D ct A 12 ad0 P9 l V9 R9 S9 M9 as9 bl9 mt9 C9 (ne_O nw_cl D ct ad0 12 A bl9 as9 S9 0 0 (fun v w => w = cW c q t b k n h x y ∧ ∃ z : Int, v = some (nl z) ∧ z = n7_dc c q d) (fun _ _ => False)) 7 0 0 0 0 92 [some (.ref 0), some (nl d), none, some (nl r), none, some (ni i), some (ni j)] [] (cW c q t b k n h x y) := by
        intro n9
        induction n9 with
        | zero => intro r j hm9 q4 q5 q6; exfalso; omega
        | succ n9 ih =>
          intro r j hm9 q4 q5 q6
          refine ne_iload X dX1_digestOfCells_92 rfl ?_
          refine ne_iconst X dX1_digestOfCells_94 ?_
          refine ne_icmp_ge (tgt := 139) X dX1_digestOfCells_95 rfl (by omega) (by omega) (fun b95 => ?_) (fun b95 => ?_)
          · refine ne_iinc X dX1_digestOfCells_139 rfl (by decide) ?_
            refine ne_goto (tgt := 80) X dX1_digestOfCells_142 rfl ?_
            refine ne_lnone 6 ?_
            have k3 : r = n7_p2 c q (n7_c1 c q d 4) (i + 1).toNat := by
                                            rw [(show (i + 1).toNat = i.toNat + 1 by omega)]
                                            show r = n7_p1 c q i.toNat (n7_p2 c q (n7_c1 c q d 4) i.toNat) (3 - i.toNat)
                                            rw [q6]
                                            congr 1
                                            omega
            exact ih80 _ _ (by omega) (by omega) (by omega) k3
          · refine ne_lload_n X dX1_digestOfCells_98 rfl ?_
            refine ne_aload_n X dX1_digestOfCells_99 rfl ?_
            refine ne_iload X dX1_digestOfCells_100 rfl ?_
            refine ne_iload X dX1_digestOfCells_102 rfl ?_
            refine ne_callV X nw_Tg (me_X1_orderOfCells l hl c q t b k n h x y T (by exact ⟨Ic, Iq, It, Ib, Itb, Ik, In, Ih, Ix, Iy⟩) (by omega) _ _ (by omega) (by omega)) nw_yX1_orderOfCells nw_mX1_107 nw_iX1_orderOfCells nw_eX1_orderOfCells (ci := 3) rfl rfl rfl dX1_digestOfCells_104 rfl rfl (by decide) (by decide) (by first | decide | omega) (by first | decide | omega) (Nat.le_of_ble_eq_true rfl) rfl rfl (Nat.le_of_ble_eq_true rfl) ?_ ?_
            rotate_left
            · rintro E9 w9 h9; exact h9.elim
            rintro v104 w104 ⟨rfl, z104, rfl, g104, k104, i104, j104⟩
            refine ne_i2l (by omega) X dX1_digestOfCells_107 ?_
            refine ne_callS X nw_Tg (me_X1_joinedZ l hl _ _ _) nw_yX1_joined nw_mX1_224 nw_sX1_joined dX1_digestOfCells_108 rfl rfl (by decide) (by decide) (by first | decide | omega) (by first | decide | omega) (Nat.le_of_ble_eq_true rfl) rfl rfl (Nat.le_of_ble_eq_true rfl) ?_ ?_
            rotate_left
            · rintro E9 w9 h9; exact h9.elim
            rintro v108 w108 ⟨rfl, z108, rfl, g108⟩
            refine ne_lstore_n X dX1_digestOfCells_111 rfl (by decide) ?_
            refine ne_lload_n X dX1_digestOfCells_112 rfl ?_
            refine ne_aload_n X dX1_digestOfCells_113 rfl ?_
            refine ne_iload X dX1_digestOfCells_114 rfl ?_
            refine ne_iload X dX1_digestOfCells_116 rfl ?_
            refine ne_callV X nw_Tg (me_X1_areSame l hl c q t b k n h x y T (by exact ⟨Ic, Iq, It, Ib, Itb, Ik, In, Ih, Ix, Iy⟩) (by omega) _ _ (by omega) (by omega)) nw_yX1_areSame nw_mX1_124 nw_iX1_areSame nw_eX1_areSame (ci := 3) rfl rfl rfl dX1_digestOfCells_118 rfl rfl (by decide) (by decide) (by first | decide | omega) (by first | decide | omega) (Nat.le_of_ble_eq_true rfl) rfl rfl (Nat.le_of_ble_eq_true rfl) ?_ ?_
            rotate_left
            · rintro E9 w9 h9; exact h9.elim
            rintro v118 w118 ⟨rfl, z118, rfl, g118, k118, i118⟩
            refine ne_if_eq (tgt := 128) X dX1_digestOfCells_121 rfl (by omega) (fun b121 => ?_) (fun b121 => ?_)
            · refine ne_lconst (z := 0) (by decide) X dX1_digestOfCells_128 ?_
              refine ne_callS X nw_Tg (me_X1_joinedZ l hl _ _ _) nw_yX1_joined nw_mX1_224 nw_sX1_joined dX1_digestOfCells_129 rfl rfl (by decide) (by decide) (by first | decide | omega) (by first | decide | omega) (Nat.le_of_ble_eq_true rfl) rfl rfl (Nat.le_of_ble_eq_true rfl) ?_ ?_
              rotate_left
              · rintro E9 w9 h9; exact h9.elim
              rintro v129 w129 ⟨rfl, z129, rfl, g129⟩
              refine ne_lstore_n X dX1_digestOfCells_132 rfl (by decide) ?_
              refine ne_ll (L' := [some (.ref 0), some (nl _), none, some (nl _), none, some (ni _), some (ni _)]) rfl ?_
              refine ne_iinc X dX1_digestOfCells_133 rfl (by decide) ?_
              refine ne_goto (tgt := 92) X dX1_digestOfCells_136 rfl ?_
              have s104 : z104 = n7_od (n7_cv c q i.toNat) (n7_cv c q j.toNat) := n7_odE (by omega) (by omega) i104 j104
              have s118 : (if c i.toNat = c j.toNat ∧ q i.toNat = q j.toNat then (1 : Int) else 0) = n7_sm c q i.toNat j.toNat := rfl
              have k6 : z129 = n7_p1 c q i.toNat (n7_p2 c q (n7_c1 c q d 4) i.toNat) (j + 1 - (i + 1)).toNat := by
                                            rw [show (j + 1 - (i + 1)).toNat = (j - (i + 1)).toNat + 1 by omega]
                                            show z129 = n7_j (n7_j (n7_p1 c q i.toNat (n7_p2 c q (n7_c1 c q d 4) i.toNat) (j - (i + 1)).toNat) (n7_od (n7_cv c q i.toNat) (n7_cv c q (i.toNat + 1 + (j - (i + 1)).toNat)))) (n7_sm c q i.toNat (i.toNat + 1 + (j - (i + 1)).toNat))
                                            rw [show i.toNat + 1 + (j - (i + 1)).toNat = j.toNat by omega, ← q6, ← s104, ← s118, ← g108]
                                            first | (rw [if_pos (i118.mp (by omega))]; exact g129) | (rw [if_neg (fun h9 => absurd (i118.mpr h9) (by omega))]; exact g129)
              exact ih _ _ (by omega) (by omega) (by omega) k6
            · refine ne_lconst (z := 1) (by decide) X dX1_digestOfCells_124 ?_
              refine ne_goto (tgt := 129) X dX1_digestOfCells_125 rfl ?_
              refine ne_callS X nw_Tg (me_X1_joinedZ l hl _ _ _) nw_yX1_joined nw_mX1_224 nw_sX1_joined dX1_digestOfCells_129 rfl rfl (by decide) (by decide) (by first | decide | omega) (by first | decide | omega) (Nat.le_of_ble_eq_true rfl) rfl rfl (Nat.le_of_ble_eq_true rfl) ?_ ?_
              rotate_left
              · rintro E9 w9 h9; exact h9.elim
              rintro v129 w129 ⟨rfl, z129, rfl, g129⟩
              refine ne_lstore_n X dX1_digestOfCells_132 rfl (by decide) ?_
              refine ne_ll (L' := [some (.ref 0), some (nl _), none, some (nl _), none, some (ni _), some (ni _)]) rfl ?_
              refine ne_iinc X dX1_digestOfCells_133 rfl (by decide) ?_
              refine ne_goto (tgt := 92) X dX1_digestOfCells_136 rfl ?_
              have s104 : z104 = n7_od (n7_cv c q i.toNat) (n7_cv c q j.toNat) := n7_odE (by omega) (by omega) i104 j104
              have s118 : (if c i.toNat = c j.toNat ∧ q i.toNat = q j.toNat then (1 : Int) else 0) = n7_sm c q i.toNat j.toNat := rfl
              have k6 : z129 = n7_p1 c q i.toNat (n7_p2 c q (n7_c1 c q d 4) i.toNat) (j + 1 - (i + 1)).toNat := by
                                            rw [show (j + 1 - (i + 1)).toNat = (j - (i + 1)).toNat + 1 by omega]
                                            show z129 = n7_j (n7_j (n7_p1 c q i.toNat (n7_p2 c q (n7_c1 c q d 4) i.toNat) (j - (i + 1)).toNat) (n7_od (n7_cv c q i.toNat) (n7_cv c q (i.toNat + 1 + (j - (i + 1)).toNat)))) (n7_sm c q i.toNat (i.toNat + 1 + (j - (i + 1)).toNat))
                                            rw [show i.toNat + 1 + (j - (i + 1)).toNat = j.toNat by omega, ← q6, ← s104, ← s118, ← g108]
                                            first | (rw [if_pos (i118.mp (by omega))]; exact g129) | (rw [if_neg (fun h9 => absurd (i118.mpr h9) (by omega))]; exact g129)
              exact ih _ _ (by omega) (by omega) (by omega) k6
      refine ne_iload X dX1_digestOfCells_80 rfl ?_
      refine ne_iconst X dX1_digestOfCells_82 ?_
      refine ne_icmp_ge (tgt := 145) X dX1_digestOfCells_83 rfl (by omega) (by omega) (fun b83 => ?_) (fun b83 => ?_)
      · refine ne_lload_n X dX1_digestOfCells_145 rfl ?_
        exact ne_lret X hr dX1_digestOfCells_146 ⟨rfl, _, rfl, (by rw [q3, show i.toNat = 4 by omega]; rfl)⟩
      · refine ne_iload X dX1_digestOfCells_86 rfl ?_
        refine ne_iconst X dX1_digestOfCells_88 ?_
        refine ne_iadd X dX1_digestOfCells_89 ?_
        refine ne_istore X dX1_digestOfCells_90 (by decide) ?_
        have k6 : r = n7_p1 c q i.toNat (n7_p2 c q (n7_c1 c q d 4) i.toNat) (i + 1 - (i + 1)).toNat := by
                                            rw [show (i + 1 - (i + 1)).toNat = 0 by omega]
                                            exact q3
        exact lp92 _ _ _ (Nat.lt_succ_self _) (by omega) (by omega) k6
  have lp5 : ∀ (n9 : Nat) (r i : Int), (4 - i).toNat < n9 → (0 ≤ i) → (i ≤ 4) → (r = n7_c1 c q d i.toNat) → ne_G nw_cl D ct A 12 ad0 P9 l V9 R9 S9 M9 as9 bl9 mt9 C9 (ne_O nw_cl D ct ad0 12 A bl9 as9 S9 0 0 (fun v w => w = cW c q t b k n h x y ∧ ∃ z : Int, v = some (nl z) ∧ z = n7_dc c q d) (fun _ _ => False)) 7 0 0 0 0 5 [some (.ref 0), some (nl d), none, some (nl r), none, some (ni i), none] [] (cW c q t b k n h x y) := by
    intro n9
    induction n9 with
    | zero => intro r i hm9 q1 q2 q3; exfalso; omega
    | succ n9 ih =>
      intro r i hm9 q1 q2 q3
      refine ne_iload X dX1_digestOfCells_5 rfl ?_
      refine ne_iconst X dX1_digestOfCells_7 ?_
      refine ne_icmp_ge (tgt := 77) X dX1_digestOfCells_8 rfl (by omega) (by omega) (fun b8 => ?_) (fun b8 => ?_)
      · refine ne_iconst X dX1_digestOfCells_77 ?_
        refine ne_istore X dX1_digestOfCells_78 (by decide) ?_
        exact lp80 _ _ 0 (Nat.lt_succ_self _) (by omega) (by omega) (by rw [q3, show i.toNat = 4 by omega]; rfl)
      · refine ne_lload_n X dX1_digestOfCells_11 rfl ?_
        refine ne_aload_n X dX1_digestOfCells_12 rfl ?_
        refine ne_getf X dX1_digestOfCells_13 nw_fX1_9 rfl rfl ?_
        refine ne_iload X dX1_digestOfCells_16 rfl ?_
        refine ne_ialdR X dX1_digestOfCells_18 rfl (by omega) Ic (fun v18 e18 f18 u18 => ?_)
        refine ne_i2l (by omega) X dX1_digestOfCells_19 ?_
        refine ne_callS X nw_Tg (me_X1_joinedZ l hl _ _ _) nw_yX1_joined nw_mX1_224 nw_sX1_joined dX1_digestOfCells_20 rfl rfl (by decide) (by decide) (by first | decide | omega) (by first | decide | omega) (Nat.le_of_ble_eq_true rfl) rfl rfl (Nat.le_of_ble_eq_true rfl) ?_ ?_
        rotate_left
        · rintro E9 w9 h9; exact h9.elim
        rintro v20 w20 ⟨rfl, z20, rfl, g20⟩
        refine ne_lstore_n X dX1_digestOfCells_23 rfl (by decide) ?_
        refine ne_lload_n X dX1_digestOfCells_24 rfl ?_
        refine ne_aload_n X dX1_digestOfCells_25 rfl ?_
        refine ne_getf X dX1_digestOfCells_26 nw_fX1_13 rfl rfl ?_
        refine ne_iload X dX1_digestOfCells_29 rfl ?_
        refine ne_ialdR X dX1_digestOfCells_31 rfl (by omega) Iq (fun v31 e31 f31 u31 => ?_)
        refine ne_i2l (by omega) X dX1_digestOfCells_32 ?_
        refine ne_callS X nw_Tg (me_X1_joinedZ l hl _ _ _) nw_yX1_joined nw_mX1_224 nw_sX1_joined dX1_digestOfCells_33 rfl rfl (by decide) (by decide) (by first | decide | omega) (by first | decide | omega) (Nat.le_of_ble_eq_true rfl) rfl rfl (Nat.le_of_ble_eq_true rfl) ?_ ?_
        rotate_left
        · rintro E9 w9 h9; exact h9.elim
        rintro v33 w33 ⟨rfl, z33, rfl, g33⟩
        refine ne_lstore_n X dX1_digestOfCells_36 rfl (by decide) ?_
        refine ne_ll (L' := [some (.ref 0), some (nl _), none, some (nl _), none, some (ni _), none]) rfl ?_
        refine ne_lload_n X dX1_digestOfCells_37 rfl ?_
        refine ne_aload_n X dX1_digestOfCells_38 rfl ?_
        refine ne_getf X dX1_digestOfCells_39 nw_fX1_9 rfl rfl ?_
        refine ne_iload X dX1_digestOfCells_42 rfl ?_
        refine ne_ialdR X dX1_digestOfCells_44 rfl (by omega) Ic (fun v44 e44 f44 u44 => ?_)
        refine ne_i2l (by omega) X dX1_digestOfCells_45 ?_
        refine ne_callS X nw_Tg (me_X1_digitsInX l hl _ _ (by omega)) nw_yX1_digitsIn nw_mX1_101 nw_sX1_digitsIn dX1_digestOfCells_46 rfl rfl (by decide) (by decide) (by first | decide | omega) (by first | decide | omega) (Nat.le_of_ble_eq_true rfl) rfl rfl (Nat.le_of_ble_eq_true rfl) ?_ ?_
        rotate_left
        · rintro E9 w9 h9; exact h9.elim
        rintro v46 w46 ⟨rfl, z46, rfl, D46, g46, k46⟩
        refine ne_i2l (by omega) X dX1_digestOfCells_49 ?_
        refine ne_callS X nw_Tg (me_X1_joinedZ l hl _ _ _) nw_yX1_joined nw_mX1_224 nw_sX1_joined dX1_digestOfCells_50 rfl rfl (by decide) (by decide) (by first | decide | omega) (by first | decide | omega) (Nat.le_of_ble_eq_true rfl) rfl rfl (Nat.le_of_ble_eq_true rfl) ?_ ?_
        rotate_left
        · rintro E9 w9 h9; exact h9.elim
        rintro v50 w50 ⟨rfl, z50, rfl, g50⟩
        refine ne_lstore_n X dX1_digestOfCells_53 rfl (by decide) ?_
        refine ne_lload_n X dX1_digestOfCells_54 rfl ?_
        refine ne_aload_n X dX1_digestOfCells_55 rfl ?_
        refine ne_getf X dX1_digestOfCells_56 nw_fX1_9 rfl rfl ?_
        refine ne_iload X dX1_digestOfCells_59 rfl ?_
        refine ne_ialdR X dX1_digestOfCells_61 rfl (by omega) Ic (fun v61 e61 f61 u61 => ?_)
        refine ne_i2l (by omega) X dX1_digestOfCells_62 ?_
        refine ne_callS X nw_Tg (me_X1_signOf l hl _ _ (by omega)) nw_yX1_signOf nw_mX1_117 nw_sX1_signOf dX1_digestOfCells_63 rfl rfl (by decide) (by decide) (by first | decide | omega) (by first | decide | omega) (Nat.le_of_ble_eq_true rfl) rfl rfl (Nat.le_of_ble_eq_true rfl) ?_ ?_
        rotate_left
        · rintro E9 w9 h9; exact h9.elim
        rintro v63 w63 ⟨rfl, z63, rfl, g63, k63, i63, j63⟩
        refine ne_i2l (by omega) X dX1_digestOfCells_66 ?_
        refine ne_callS X nw_Tg (me_X1_joinedZ l hl _ _ _) nw_yX1_joined nw_mX1_224 nw_sX1_joined dX1_digestOfCells_67 rfl rfl (by decide) (by decide) (by first | decide | omega) (by first | decide | omega) (Nat.le_of_ble_eq_true rfl) rfl rfl (Nat.le_of_ble_eq_true rfl) ?_ ?_
        rotate_left
        · rintro E9 w9 h9; exact h9.elim
        rintro v67 w67 ⟨rfl, z67, rfl, g67⟩
        refine ne_lstore_n X dX1_digestOfCells_70 rfl (by decide) ?_
        refine ne_ll (L' := [some (.ref 0), some (nl _), none, some (nl _), none, some (ni _), none]) rfl ?_
        refine ne_iinc X dX1_digestOfCells_71 rfl (by decide) ?_
        refine ne_goto (tgt := 5) X dX1_digestOfCells_74 rfl ?_
        have D47 := n7_dnE D46
        have s63 := n7_odE g63 k63 i63 j63
        have k3 : z67 = n7_c1 c q d (i + 1).toNat := by
                                            rw [(show (i + 1).toNat = i.toNat + 1 by omega)]
                                            show z67 = n7_j (n7_j (n7_j (n7_j (n7_c1 c q d i.toNat) (c i.toNat)) (q i.toNat)) (n7_dn (c i.toNat))) (n7_od (c i.toNat) 0)
                                            rw [g67, g50, g33, g20, s63, D47, e61, e44, e31, e18, q3]
        exact ih _ _ (by omega) (by omega) (by omega) k3
  refine ne_lload_n X dX1_digestOfCells_0 rfl ?_
  refine ne_lstore_n X dX1_digestOfCells_1 rfl (by decide) ?_
  refine ne_iconst X dX1_digestOfCells_2 ?_
  refine ne_istore X dX1_digestOfCells_3 (by decide) ?_
  refine ne_ll (L' := [some (.ref 0), some (nl _), none, some (nl _), none, some (ni _), none]) rfl ?_
  exact lp5 _ _ 0 (Nat.lt_succ_self _) (by omega) (by omega) rfl
set_option maxRecDepth 100000 in
set_option maxHeartbeats 4000000 in
theorem me_X1_digestOfWheelZ (l : Launch) (hl : l.stackTraces = false) (c q t b k n h x y : Nat → Int) (T : Int) (hI : cI c q t b k n h x y T) (hT : 0 ≤ T ∧ T ≤ 1000000) (i d : Int) (hi : 0 ≤ i ∧ i < 3) : ne_M l nw_cl (.code yX1_digestOfWheel cX1_digestOfWheel 7 (some .long)) nw_T yX1_digestOfWheel 5 190 0 0 [.ref 0, ni i, nl d] (cW c q t b k n h x y) (fun v w => ∃ x1 y1, w = cW c q t b k n h x1 y1 ∧ ne_rg x1 0 9 ∧ ne_rg y1 0 9 ∧ ∃ z : Int, v = some (nl z) ∧ z = n7_wl c q t b k n i.toNat d) (fun _ _ => False) := by
  refine ne_meet (own := RX1) hl rfl (by decide +kernel) (Nat.le_of_ble_eq_true rfl) ?_
  intro D ct A P9 V9 R9 S9 M9 as9 bl9 mt9 C9 ad0 X hr hin ht
  obtain ⟨Ic, Iq, It, Ib, Itb, Ik, In, Ih, Ix, Iy⟩ := hI
  have lp64 : ∀ (n9 : Nat) (x1 y1 : Nat → Int) (r j : Int), (4 - j).toNat < n9 → (0 ≤ j) → (j ≤ 4) → (ne_rg x1 0 9) → (ne_rg y1 0 9) → (r = n7_a1 c q t b i.toNat (n7_d3 t b k n i.toNat d) j.toNat) → ne_G nw_cl D ct A 12 ad0 P9 l V9 R9 S9 M9 as9 bl9 mt9 C9 (ne_O nw_cl D ct ad0 12 A bl9 as9 S9 0 0 (fun v w => ∃ x1 y1, w = cW c q t b k n h x1 y1 ∧ ne_rg x1 0 9 ∧ ne_rg y1 0 9 ∧ ∃ z : Int, v = some (nl z) ∧ z = n7_wl c q t b k n i.toNat d) (fun _ _ => False)) 7 0 0 0 0 64 [some (.ref 0), some (ni i), some (nl d), none, some (nl r), none, some (ni j)] [] (cW c q t b k n h x1 y1) := by
    intro n9
    induction n9 with
    | zero => intro x1 y1 r j hm9 q1 q2 Ix Iy q3; exfalso; omega
    | succ n9 ih =>
      intro x1 y1 r j hm9 q1 q2 Ix Iy q3
      refine ne_iload X dX1_digestOfWheel_64 rfl ?_
      refine ne_iconst X dX1_digestOfWheel_66 ?_
      refine ne_icmp_ge (tgt := 91) X dX1_digestOfWheel_67 rfl (by omega) (by omega) (fun b67 => ?_) (fun b67 => ?_)
      · refine ne_lload X dX1_digestOfWheel_91 rfl ?_
        exact ne_lret X hr dX1_digestOfWheel_93 ⟨_, _, rfl, Ix, Iy, _, rfl, (by rw [q3, show j.toNat = 4 by omega]; rfl)⟩
      · refine ne_lload X dX1_digestOfWheel_70 rfl ?_
        refine ne_aload_n X dX1_digestOfWheel_72 rfl ?_
        refine ne_iload_n X dX1_digestOfWheel_73 rfl ?_
        refine ne_iload X dX1_digestOfWheel_74 rfl ?_
        refine ne_callV X nw_Tg (me_X1_orderAgainstY l hl c q t b k n h x1 y1 T (by exact ⟨Ic, Iq, It, Ib, Itb, Ik, In, Ih, Ix, Iy⟩) (by omega) _ _ (by omega) (by omega)) nw_yX1_orderAgainst nw_mX1_195 nw_iX1_orderAgainst nw_eX1_orderAgainst (ci := 3) rfl rfl rfl dX1_digestOfWheel_76 rfl rfl (by decide) (by decide) (by first | decide | omega) (by first | decide | omega) (Nat.le_of_ble_eq_true rfl) rfl rfl (Nat.le_of_ble_eq_true rfl) ?_ ?_
        rotate_left
        · rintro E9 w9 h9; exact h9.elim
        rintro v76 w76 ⟨rfl, z76, rfl, g76, s76⟩
        refine ne_i2l (by omega) X dX1_digestOfWheel_79 ?_
        refine ne_callS X nw_Tg (me_X1_joinedZ l hl _ _ _) nw_yX1_joined nw_mX1_224 nw_sX1_joined dX1_digestOfWheel_80 rfl rfl (by decide) (by decide) (by first | decide | omega) (by first | decide | omega) (Nat.le_of_ble_eq_true rfl) rfl rfl (Nat.le_of_ble_eq_true rfl) ?_ ?_
        rotate_left
        · rintro E9 w9 h9; exact h9.elim
        rintro v80 w80 ⟨rfl, z80, rfl, g80⟩
        refine ne_lstore X dX1_digestOfWheel_83 (by decide) ?_
        refine ne_iinc X dX1_digestOfWheel_85 rfl (by decide) ?_
        refine ne_ll (L' := [some (.ref 0), some (ni _), some (nl _), none, some (nl _), none, some (ni _)]) rfl ?_
        refine ne_goto (tgt := 64) X dX1_digestOfWheel_88 rfl ?_
        have k3 : z80 = n7_a1 c q t b i.toNat (n7_d3 t b k n i.toNat d) (j + 1).toNat := by
                                            rw [(show (j + 1).toNat = j.toNat + 1 by omega)]
                                            show z80 = n7_j (n7_a1 c q t b i.toNat (n7_d3 t b k n i.toNat d) j.toNat) (n7_od (t i.toNat * 10 ^ (q j.toNat).toNat) (c j.toNat * b i.toNat))
                                            rw [g80, s76, q3]
        exact ih _ _ _ _ (by omega) (by omega) (by omega) Ix Iy k3
  have lp6 : ∀ (n9 : Nat) (r j : Int), (5 - j).toNat < n9 → (0 ≤ j) → (j ≤ 5) → (r = n7_w1 t b k n i.toNat d j.toNat) → ne_G nw_cl D ct A 12 ad0 P9 l V9 R9 S9 M9 as9 bl9 mt9 C9 (ne_O nw_cl D ct ad0 12 A bl9 as9 S9 0 0 (fun v w => ∃ x1 y1, w = cW c q t b k n h x1 y1 ∧ ne_rg x1 0 9 ∧ ne_rg y1 0 9 ∧ ∃ z : Int, v = some (nl z) ∧ z = n7_wl c q t b k n i.toNat d) (fun _ _ => False)) 7 0 0 0 0 6 [some (.ref 0), some (ni i), some (nl d), none, some (nl r), none, some (ni j)] [] (cW c q t b k n h x y) := by
    intro n9
    induction n9 with
    | zero => intro r j hm9 q1 q2 q3; exfalso; omega
    | succ n9 ih =>
      intro r j hm9 q1 q2 q3
      refine ne_iload X dX1_digestOfWheel_6 rfl ?_
      refine ne_iconst X dX1_digestOfWheel_8 ?_
      refine ne_icmp_gt (tgt := 33) X dX1_digestOfWheel_9 rfl (by omega) (by omega) (fun b9 => ?_) (fun b9 => ?_)
      · refine ne_lload X dX1_digestOfWheel_33 rfl ?_
        refine ne_aload_n X dX1_digestOfWheel_35 rfl ?_
        refine ne_iload_n X dX1_digestOfWheel_36 rfl ?_
        refine ne_iconst X dX1_digestOfWheel_37 ?_
        refine ne_callV X nw_Tg (me_X1_ninesOfZ l hl c q t b k n h x y T (by exact ⟨Ic, Iq, It, Ib, Itb, Ik, In, Ih, Ix, Iy⟩) (by omega) _ _ (by omega) (by omega)) nw_yX1_ninesOf nw_mX1_186 nw_iX1_ninesOf nw_eX1_ninesOf (ci := 3) rfl rfl rfl dX1_digestOfWheel_38 rfl rfl (by decide) (by decide) (by first | decide | omega) (by first | decide | omega) (Nat.le_of_ble_eq_true rfl) rfl rfl (Nat.le_of_ble_eq_true rfl) ?_ ?_
        rotate_left
        · rintro E9 w9 h9; exact h9.elim
        rintro v38 w38 ⟨x38, y38, rfl, Ix, Iy, z38, rfl, g38, k38⟩
        refine ne_i2l (by omega) X dX1_digestOfWheel_41 ?_
        refine ne_callS X nw_Tg (me_X1_joinedZ l hl _ _ _) nw_yX1_joined nw_mX1_224 nw_sX1_joined dX1_digestOfWheel_42 rfl rfl (by decide) (by decide) (by first | decide | omega) (by first | decide | omega) (Nat.le_of_ble_eq_true rfl) rfl rfl (Nat.le_of_ble_eq_true rfl) ?_ ?_
        rotate_left
        · rintro E9 w9 h9; exact h9.elim
        rintro v42 w42 ⟨rfl, z42, rfl, g42⟩
        refine ne_lstore X dX1_digestOfWheel_45 (by decide) ?_
        refine ne_lload X dX1_digestOfWheel_47 rfl ?_
        refine ne_aload_n X dX1_digestOfWheel_49 rfl ?_
        refine ne_iload_n X dX1_digestOfWheel_50 rfl ?_
        refine ne_iconst X dX1_digestOfWheel_51 ?_
        refine ne_callV X nw_Tg (me_X1_ninesOfZ l hl c q t b k n h x38 y38 T (by exact ⟨Ic, Iq, It, Ib, Itb, Ik, In, Ih, Ix, Iy⟩) (by omega) _ _ (by omega) (by omega)) nw_yX1_ninesOf nw_mX1_186 nw_iX1_ninesOf nw_eX1_ninesOf (ci := 3) rfl rfl rfl dX1_digestOfWheel_52 rfl rfl (by decide) (by decide) (by first | decide | omega) (by first | decide | omega) (Nat.le_of_ble_eq_true rfl) rfl rfl (Nat.le_of_ble_eq_true rfl) ?_ ?_
        rotate_left
        · rintro E9 w9 h9; exact h9.elim
        rintro v52 w52 ⟨x52, y52, rfl, Ix, Iy, z52, rfl, g52, k52⟩
        refine ne_i2l (by omega) X dX1_digestOfWheel_55 ?_
        refine ne_callS X nw_Tg (me_X1_joinedZ l hl _ _ _) nw_yX1_joined nw_mX1_224 nw_sX1_joined dX1_digestOfWheel_56 rfl rfl (by decide) (by decide) (by first | decide | omega) (by first | decide | omega) (Nat.le_of_ble_eq_true rfl) rfl rfl (Nat.le_of_ble_eq_true rfl) ?_ ?_
        rotate_left
        · rintro E9 w9 h9; exact h9.elim
        rintro v56 w56 ⟨rfl, z56, rfl, g56⟩
        refine ne_lstore X dX1_digestOfWheel_59 (by decide) ?_
        refine ne_ll (L' := [some (.ref 0), some (ni _), some (nl _), none, some (nl _), none, some (ni _)]) rfl ?_
        refine ne_iconst X dX1_digestOfWheel_61 ?_
        refine ne_istore X dX1_digestOfWheel_62 (by decide) ?_
        have k3 : z56 = n7_a1 c q t b i.toNat (n7_d3 t b k n i.toNat d) (0 : Int).toNat := by
                                            show z56 = n7_j (n7_j (n7_w1 t b k n i.toNat d 5) (n7_nv (t i.toNat) (b i.toNat) (n i.toNat) 2)) (n7_nv (t i.toNat) (b i.toNat) (n i.toNat) 3)
                                            rw [g56, g42, n7_nvE k38, n7_nvE k52, q3, show j.toNat = 5 by omega]
        exact lp64 _ _ _ _ 0 (Nat.lt_succ_self _) (by omega) (by omega) Ix Iy k3
      · refine ne_lload X dX1_digestOfWheel_12 rfl ?_
        refine ne_aload_n X dX1_digestOfWheel_14 rfl ?_
        refine ne_iload_n X dX1_digestOfWheel_15 rfl ?_
        refine ne_iload X dX1_digestOfWheel_16 rfl ?_
        refine ne_callV X nw_Tg (me_X1_spokeOfY l hl c q t b k n h x y T (by exact ⟨Ic, Iq, It, Ib, Itb, Ik, In, Ih, Ix, Iy⟩) (by omega) _ _ (by omega) (by omega)) nw_yX1_spokeOf nw_mX1_152 nw_iX1_spokeOf nw_eX1_spokeOf (ci := 3) rfl rfl rfl dX1_digestOfWheel_18 rfl rfl (by decide) (by decide) (by first | decide | omega) (by first | decide | omega) (Nat.le_of_ble_eq_true rfl) rfl rfl (Nat.le_of_ble_eq_true rfl) ?_ ?_
        rotate_left
        · rintro E9 w9 h9; exact h9.elim
        rintro v18 w18 ⟨rfl, z18, rfl, g18, s18⟩
        refine ne_i2l (by omega) X dX1_digestOfWheel_21 ?_
        refine ne_callS X nw_Tg (me_X1_joinedZ l hl _ _ _) nw_yX1_joined nw_mX1_224 nw_sX1_joined dX1_digestOfWheel_22 rfl rfl (by decide) (by decide) (by first | decide | omega) (by first | decide | omega) (Nat.le_of_ble_eq_true rfl) rfl rfl (Nat.le_of_ble_eq_true rfl) ?_ ?_
        rotate_left
        · rintro E9 w9 h9; exact h9.elim
        rintro v22 w22 ⟨rfl, z22, rfl, g22⟩
        refine ne_lstore X dX1_digestOfWheel_25 (by decide) ?_
        refine ne_iinc X dX1_digestOfWheel_27 rfl (by decide) ?_
        refine ne_ll (L' := [some (.ref 0), some (ni _), some (nl _), none, some (nl _), none, some (ni _)]) rfl ?_
        refine ne_goto (tgt := 6) X dX1_digestOfWheel_30 rfl ?_
        have k3 : z22 = n7_w1 t b k n i.toNat d (j + 1).toNat := by
                                            rw [(show (j + 1).toNat = j.toNat + 1 by omega)]
                                            show z22 = n7_j (n7_w1 t b k n i.toNat d j.toNat) (n7_sp t b k n i.toNat j.toNat)
                                            rw [g22, s18, q3]
        exact ih _ _ (by omega) (by omega) (by omega) k3
  refine ne_lload_n X dX1_digestOfWheel_0 rfl ?_
  refine ne_lstore X dX1_digestOfWheel_1 (by decide) ?_
  refine ne_iconst X dX1_digestOfWheel_3 ?_
  refine ne_istore X dX1_digestOfWheel_4 (by decide) ?_
  refine ne_ll (L' := [some (.ref 0), some (ni _), some (nl _), none, some (nl _), none, some (ni _)]) rfl ?_
  exact lp6 _ _ 0 (Nat.lt_succ_self _) (by omega) (by omega) rfl
set_option maxRecDepth 100000 in
set_option maxHeartbeats 4000000 in
theorem me_X1_digestOfWheelsZ (l : Launch) (hl : l.stackTraces = false) (c q t b k n h x y : Nat → Int) (T : Int) (hI : cI c q t b k n h x y T) (hT : 0 ≤ T ∧ T ≤ 1000000) (d : Int) : ne_M l nw_cl (.code yX1_digestOfWheels cX1_digestOfWheels 7 (some .long)) nw_T yX1_digestOfWheels 6 230 0 0 [.ref 0, nl d] (cW c q t b k n h x y) (fun v w => ∃ x1 y1, w = cW c q t b k n h x1 y1 ∧ ne_rg x1 0 9 ∧ ne_rg y1 0 9 ∧ ∃ z : Int, v = some (nl z) ∧ z = n7_dw c q t b k n d) (fun _ _ => False) := by
  refine ne_meet (own := RX1) hl rfl (by decide +kernel) (Nat.le_of_ble_eq_true rfl) ?_
  intro D ct A P9 V9 R9 S9 M9 as9 bl9 mt9 C9 ad0 X hr hin ht
  obtain ⟨Ic, Iq, It, Ib, Itb, Ik, In, Ih, Ix, Iy⟩ := hI
  have lp28 : ∀ (n9 : Nat) (x1 y1 : Nat → Int) (r i : Int), (3 - i).toNat < n9 → (0 ≤ i) → (i ≤ 3) → (ne_rg x1 0 9) → (ne_rg y1 0 9) → (r = n7_q2 t b (n7_w3 c q t b k n d 3) i.toNat) → ne_G nw_cl D ct A 12 ad0 P9 l V9 R9 S9 M9 as9 bl9 mt9 C9 (ne_O nw_cl D ct ad0 12 A bl9 as9 S9 0 0 (fun v w => ∃ x1 y1, w = cW c q t b k n h x1 y1 ∧ ne_rg x1 0 9 ∧ ne_rg y1 0 9 ∧ ∃ z : Int, v = some (nl z) ∧ z = n7_dw c q t b k n d) (fun _ _ => False)) 7 0 0 0 0 28 [some (.ref 0), some (nl d), none, some (nl r), none, some (ni i), none] [] (cW c q t b k n h x1 y1) := by
    intro n9
    induction n9 with
    | zero => intro x1 y1 r i hm9 q1 q2 Ix Iy q3; exfalso; omega
    | succ n9 ih =>
      intro x1 y1 r i hm9 q1 q2 Ix Iy q3
      have ih28 := ih
      have lp40 : ∀ (n9 : Nat) (r j : Int), (3 - j).toNat < n9 → (i + 1 ≤ j ∧ j ≤ 3) → (i < 3) → (r = n7_q1 t b i.toNat (n7_q2 t b (n7_w3 c q t b k n d 3) i.toNat) (j - (i + 1)).toNat) → ne_G nw_cl D ct A 12 ad0 P9 l V9 R9 S9 M9 as9 bl9 mt9 C9 (ne_O nw_cl D ct ad0 12 A bl9 as9 S9 0 0 (fun v w => ∃ x1 y1, w = cW c q t b k n h x1 y1 ∧ ne_rg x1 0 9 ∧ ne_rg y1 0 9 ∧ ∃ z : Int, v = some (nl z) ∧ z = n7_dw c q t b k n d) (fun _ _ => False)) 7 0 0 0 0 40 [some (.ref 0), some (nl d), none, some (nl r), none, some (ni i), some (ni j)] [] (cW c q t b k n h x1 y1) := by
        intro n9
        induction n9 with
        | zero => intro r j hm9 q4 q5 q6; exfalso; omega
        | succ n9 ih =>
          intro r j hm9 q4 q5 q6
          refine ne_iload X dX1_digestOfWheels_40 rfl ?_
          refine ne_iconst X dX1_digestOfWheels_42 ?_
          refine ne_icmp_ge (tgt := 66) X dX1_digestOfWheels_43 rfl (by omega) (by omega) (fun b43 => ?_) (fun b43 => ?_)
          · refine ne_iinc X dX1_digestOfWheels_66 rfl (by decide) ?_
            refine ne_goto (tgt := 28) X dX1_digestOfWheels_69 rfl ?_
            refine ne_lnone 6 ?_
            have k3 : r = n7_q2 t b (n7_w3 c q t b k n d 3) (i + 1).toNat := by
                                            rw [(show (i + 1).toNat = i.toNat + 1 by omega)]
                                            show r = n7_q1 t b i.toNat (n7_q2 t b (n7_w3 c q t b k n d 3) i.toNat) (2 - i.toNat)
                                            rw [q6]
                                            congr 1
                                            omega
            exact ih28 _ _ _ _ (by omega) (by omega) (by omega) Ix Iy k3
          · refine ne_lload_n X dX1_digestOfWheels_46 rfl ?_
            refine ne_aload_n X dX1_digestOfWheels_47 rfl ?_
            refine ne_iload X dX1_digestOfWheels_48 rfl ?_
            refine ne_iload X dX1_digestOfWheels_50 rfl ?_
            refine ne_callV X nw_Tg (me_X1_orderOfWheelsY l hl c q t b k n h x1 y1 T (by exact ⟨Ic, Iq, It, Ib, Itb, Ik, In, Ih, Ix, Iy⟩) (by omega) _ _ (by omega) (by omega)) nw_yX1_orderOfWheels nw_mX1_192 nw_iX1_orderOfWheels nw_eX1_orderOfWheels (ci := 3) rfl rfl rfl dX1_digestOfWheels_52 rfl rfl (by decide) (by decide) (by first | decide | omega) (by first | decide | omega) (Nat.le_of_ble_eq_true rfl) rfl rfl (Nat.le_of_ble_eq_true rfl) ?_ ?_
            rotate_left
            · rintro E9 w9 h9; exact h9.elim
            rintro v52 w52 ⟨rfl, z52, rfl, g52, s52⟩
            refine ne_i2l (by omega) X dX1_digestOfWheels_55 ?_
            refine ne_callS X nw_Tg (me_X1_joinedZ l hl _ _ _) nw_yX1_joined nw_mX1_224 nw_sX1_joined dX1_digestOfWheels_56 rfl rfl (by decide) (by decide) (by first | decide | omega) (by first | decide | omega) (Nat.le_of_ble_eq_true rfl) rfl rfl (Nat.le_of_ble_eq_true rfl) ?_ ?_
            rotate_left
            · rintro E9 w9 h9; exact h9.elim
            rintro v56 w56 ⟨rfl, z56, rfl, g56⟩
            refine ne_lstore_n X dX1_digestOfWheels_59 rfl (by decide) ?_
            refine ne_iinc X dX1_digestOfWheels_60 rfl (by decide) ?_
            refine ne_ll (L' := [some (.ref 0), some (nl _), none, some (nl _), none, some (ni _), some (ni _)]) rfl ?_
            refine ne_goto (tgt := 40) X dX1_digestOfWheels_63 rfl ?_
            have k6 : z56 = n7_q1 t b i.toNat (n7_q2 t b (n7_w3 c q t b k n d 3) i.toNat) (j + 1 - (i + 1)).toNat := by
                                            rw [show (j + 1 - (i + 1)).toNat = (j - (i + 1)).toNat + 1 by omega]
                                            show z56 = n7_j (n7_q1 t b i.toNat (n7_q2 t b (n7_w3 c q t b k n d 3) i.toNat) (j - (i + 1)).toNat) (n7_od (t i.toNat * b (i.toNat + 1 + (j - (i + 1)).toNat)) (t (i.toNat + 1 + (j - (i + 1)).toNat) * b i.toNat))
                                            rw [show i.toNat + 1 + (j - (i + 1)).toNat = j.toNat by omega, ← q6, ← s52]
                                            exact g56
            exact ih _ _ (by omega) (by omega) (by omega) k6
      refine ne_iload X dX1_digestOfWheels_28 rfl ?_
      refine ne_iconst X dX1_digestOfWheels_30 ?_
      refine ne_icmp_ge (tgt := 72) X dX1_digestOfWheels_31 rfl (by omega) (by omega) (fun b31 => ?_) (fun b31 => ?_)
      · refine ne_lload_n X dX1_digestOfWheels_72 rfl ?_
        exact ne_lret X hr dX1_digestOfWheels_73 ⟨_, _, rfl, Ix, Iy, _, rfl, (by rw [q3, show i.toNat = 3 by omega]; rfl)⟩
      · refine ne_iload X dX1_digestOfWheels_34 rfl ?_
        refine ne_iconst X dX1_digestOfWheels_36 ?_
        refine ne_iadd X dX1_digestOfWheels_37 ?_
        refine ne_istore X dX1_digestOfWheels_38 (by decide) ?_
        have k6 : r = n7_q1 t b i.toNat (n7_q2 t b (n7_w3 c q t b k n d 3) i.toNat) (i + 1 - (i + 1)).toNat := by
                                            rw [show (i + 1 - (i + 1)).toNat = 0 by omega]
                                            exact q3
        exact lp40 _ _ _ (Nat.lt_succ_self _) (by omega) (by omega) k6
  have lp5 : ∀ (n9 : Nat) (x1 y1 : Nat → Int) (r i : Int), (3 - i).toNat < n9 → (0 ≤ i) → (i ≤ 3) → (ne_rg x1 0 9) → (ne_rg y1 0 9) → (r = n7_w3 c q t b k n d i.toNat) → ne_G nw_cl D ct A 12 ad0 P9 l V9 R9 S9 M9 as9 bl9 mt9 C9 (ne_O nw_cl D ct ad0 12 A bl9 as9 S9 0 0 (fun v w => ∃ x1 y1, w = cW c q t b k n h x1 y1 ∧ ne_rg x1 0 9 ∧ ne_rg y1 0 9 ∧ ∃ z : Int, v = some (nl z) ∧ z = n7_dw c q t b k n d) (fun _ _ => False)) 7 0 0 0 0 5 [some (.ref 0), some (nl d), none, some (nl r), none, some (ni i), none] [] (cW c q t b k n h x1 y1) := by
    intro n9
    induction n9 with
    | zero => intro x1 y1 r i hm9 q1 q2 Ix Iy q3; exfalso; omega
    | succ n9 ih =>
      intro x1 y1 r i hm9 q1 q2 Ix Iy q3
      refine ne_iload X dX1_digestOfWheels_5 rfl ?_
      refine ne_iconst X dX1_digestOfWheels_7 ?_
      refine ne_icmp_ge (tgt := 25) X dX1_digestOfWheels_8 rfl (by omega) (by omega) (fun b8 => ?_) (fun b8 => ?_)
      · refine ne_iconst X dX1_digestOfWheels_25 ?_
        refine ne_istore X dX1_digestOfWheels_26 (by decide) ?_
        exact lp28 _ _ _ _ 0 (Nat.lt_succ_self _) (by omega) (by omega) Ix Iy (by rw [q3, show i.toNat = 3 by omega]; rfl)
      · refine ne_aload_n X dX1_digestOfWheels_11 rfl ?_
        refine ne_iload X dX1_digestOfWheels_12 rfl ?_
        refine ne_lload_n X dX1_digestOfWheels_14 rfl ?_
        refine ne_callV X nw_Tg (me_X1_digestOfWheelZ l hl c q t b k n h x1 y1 T (by exact ⟨Ic, Iq, It, Ib, Itb, Ik, In, Ih, Ix, Iy⟩) (by omega) _ _ (by omega)) nw_yX1_digestOfWheel nw_mX1_292 nw_iX1_digestOfWheel nw_eX1_digestOfWheel (ci := 3) rfl rfl rfl dX1_digestOfWheels_15 rfl rfl (by decide) (by decide) (by first | decide | omega) (by first | decide | omega) (Nat.le_of_ble_eq_true rfl) rfl rfl (Nat.le_of_ble_eq_true rfl) ?_ ?_
        rotate_left
        · rintro E9 w9 h9; exact h9.elim
        rintro v15 w15 ⟨x15, y15, rfl, Ix, Iy, z15, rfl, g15⟩
        refine ne_lstore_n X dX1_digestOfWheels_18 rfl (by decide) ?_
        refine ne_iinc X dX1_digestOfWheels_19 rfl (by decide) ?_
        refine ne_ll (L' := [some (.ref 0), some (nl _), none, some (nl _), none, some (ni _), none]) rfl ?_
        refine ne_goto (tgt := 5) X dX1_digestOfWheels_22 rfl ?_
        have k3 : z15 = n7_w3 c q t b k n d (i + 1).toNat := by
                                            rw [(show (i + 1).toNat = i.toNat + 1 by omega)]
                                            show z15 = n7_wl c q t b k n i.toNat (n7_w3 c q t b k n d i.toNat)
                                            rw [g15, q3]
        exact ih _ _ _ _ (by omega) (by omega) (by omega) Ix Iy k3
  refine ne_lload_n X dX1_digestOfWheels_0 rfl ?_
  refine ne_lstore_n X dX1_digestOfWheels_1 rfl (by decide) ?_
  refine ne_iconst X dX1_digestOfWheels_2 ?_
  refine ne_istore X dX1_digestOfWheels_3 (by decide) ?_
  refine ne_ll (L' := [some (.ref 0), some (nl _), none, some (nl _), none, some (ni _), none]) rfl ?_
  exact lp5 _ _ _ _ 0 (Nat.lt_succ_self _) (by omega) (by omega) Ix Iy rfl
set_option maxRecDepth 100000 in
set_option maxHeartbeats 4000000 in
theorem me_X1_digestZ (l : Launch) (hl : l.stackTraces = false) (c q t b k n h x y : Nat → Int) (T : Int) (hI : cI c q t b k n h x y T) (hT : 0 ≤ T ∧ T ≤ 1000000) (hP : ∀ j : Nat, ne_per (t j) (b j) (n j)) (hG : ∀ j : Nat, (b j).tmod 2 ≠ 0 ∧ (b j).tmod 5 ≠ 0) : ne_M l nw_cl (.code yX1_digest cX1_digest 4 (some .long)) nw_T yX1_digest 8 300 0 0 [.ref 0] (cW c q t b k n h x y) (fun v w => ∃ x1 y1, w = cW c q t b k n h x1 y1 ∧ ne_rg x1 0 9 ∧ ne_rg y1 0 9 ∧ ∃ z : Int, v = some (nl z) ∧ (-9223372036854775808 ≤ z ∧ z < 9223372036854775808) ∧ z = n7_w (n7_dig c q t b k n h)) (fun _ _ => False) := by
  refine ne_meet (own := RX1) hl rfl (by decide +kernel) (Nat.le_of_ble_eq_true rfl) ?_
  intro D ct A P9 V9 R9 S9 M9 as9 bl9 mt9 C9 ad0 X hr hin ht
  obtain ⟨Ic, Iq, It, Ib, Itb, Ik, In, Ih, Ix, Iy⟩ := hI
  have lp16 : ∀ (n9 : Nat) (x1 y1 : Nat → Int) (r j : Int), (4 - j).toNat < n9 → (0 ≤ j) → (j ≤ 4) → (ne_rg x1 0 9) → (ne_rg y1 0 9) → (r = n7_h1 h (n7_dw c q t b k n (n7_dc c q 7944)) j.toNat) → ne_G nw_cl D ct A 12 ad0 P9 l V9 R9 S9 M9 as9 bl9 mt9 C9 (ne_O nw_cl D ct ad0 12 A bl9 as9 S9 0 0 (fun v w => ∃ x1 y1, w = cW c q t b k n h x1 y1 ∧ ne_rg x1 0 9 ∧ ne_rg y1 0 9 ∧ ∃ z : Int, v = some (nl z) ∧ (-9223372036854775808 ≤ z ∧ z < 9223372036854775808) ∧ z = n7_w (n7_dig c q t b k n h)) (fun _ _ => False)) 4 0 0 0 0 16 [some (.ref 0), some (nl r), none, some (ni j)] [] (cW c q t b k n h x1 y1) := by
    intro n9
    induction n9 with
    | zero => intro x1 y1 r j hm9 q1 q2 Ix Iy q3; exfalso; omega
    | succ n9 ih =>
      intro x1 y1 r j hm9 q1 q2 Ix Iy q3
      refine ne_iload_n X dX1_digest_16 rfl ?_
      refine ne_iconst X dX1_digest_17 ?_
      refine ne_icmp_ge (tgt := 39) X dX1_digest_18 rfl (by omega) (by omega) (fun b18 => ?_) (fun b18 => ?_)
      · refine ne_lload_n X dX1_digest_39 rfl ?_
        refine ne_aload_n X dX1_digest_40 rfl ?_
        refine ne_callV X nw_Tg (me_X1_isSoundZ l hl c q t b k n h x1 y1 T (by exact ⟨Ic, Iq, It, Ib, Itb, Ik, In, Ih, Ix, Iy⟩) (by omega) hP hG) nw_yX1_isSound nw_mX1_228 nw_iX1_isSound nw_eX1_isSound (ci := 3) rfl rfl rfl dX1_digest_41 rfl rfl (by decide) (by decide) (by first | decide | omega) (by first | decide | omega) (Nat.le_of_ble_eq_true rfl) rfl rfl (Nat.le_of_ble_eq_true rfl) ?_ ?_
        rotate_left
        · rintro E9 w9 h9; exact h9.elim
        rintro v41 w41 ⟨x41, y41, rfl, Ix, Iy, z41, rfl, g41⟩
        refine ne_if_eq (tgt := 51) X dX1_digest_44 rfl (by omega) (fun b44 => ?_) (fun b44 => ?_)
        · exfalso; omega
        · refine ne_lconst (z := 1) (by decide) X dX1_digest_47 ?_
          refine ne_goto (tgt := 52) X dX1_digest_48 rfl ?_
          refine ne_callS X nw_Tg (me_X1_joinedZ l hl _ _ _) nw_yX1_joined nw_mX1_224 nw_sX1_joined dX1_digest_52 rfl rfl (by decide) (by decide) (by first | decide | omega) (by first | decide | omega) (Nat.le_of_ble_eq_true rfl) rfl rfl (Nat.le_of_ble_eq_true rfl) ?_ ?_
          rotate_left
          · rintro E9 w9 h9; exact h9.elim
          rintro v52 w52 ⟨rfl, z52, rfl, g52⟩
          exact ne_lret X hr dX1_digest_55 ⟨_, _, rfl, Ix, Iy, _, n7_wE _, n7_wB _, (by rw [g52, q3, show j.toNat = 4 by omega]; rfl)⟩
      · refine ne_lload_n X dX1_digest_21 rfl ?_
        refine ne_aload_n X dX1_digest_22 rfl ?_
        refine ne_getf X dX1_digest_23 nw_fX1_28 rfl rfl ?_
        refine ne_iload_n X dX1_digest_26 rfl ?_
        refine ne_ialdR X dX1_digest_27 rfl (by omega) Ih (fun v27 e27 f27 u27 => ?_)
        refine ne_i2l (by omega) X dX1_digest_28 ?_
        refine ne_callS X nw_Tg (me_X1_joinedZ l hl _ _ _) nw_yX1_joined nw_mX1_224 nw_sX1_joined dX1_digest_29 rfl rfl (by decide) (by decide) (by first | decide | omega) (by first | decide | omega) (Nat.le_of_ble_eq_true rfl) rfl rfl (Nat.le_of_ble_eq_true rfl) ?_ ?_
        rotate_left
        · rintro E9 w9 h9; exact h9.elim
        rintro v29 w29 ⟨rfl, z29, rfl, g29⟩
        refine ne_lstore_n X dX1_digest_32 rfl (by decide) ?_
        refine ne_iinc X dX1_digest_33 rfl (by decide) ?_
        refine ne_ll (L' := [some (.ref 0), some (nl _), none, some (ni _)]) rfl ?_
        refine ne_goto (tgt := 16) X dX1_digest_36 rfl ?_
        have k3 : z29 = n7_h1 h (n7_dw c q t b k n (n7_dc c q 7944)) (j + 1).toNat := by
                                            rw [(show (j + 1).toNat = j.toNat + 1 by omega)]
                                            show z29 = n7_j (n7_h1 h (n7_dw c q t b k n (n7_dc c q 7944)) j.toNat) (h j.toNat)
                                            rw [g29, q3, e27]
        exact ih _ _ _ _ (by omega) (by omega) (by omega) Ix Iy k3
  refine ne_aload_n X dX1_digest_0 rfl ?_
  refine ne_ldc2 (z := 7944) (by decide) nw_cX1_215 X dX1_digest_1 ?_
  refine ne_callV X nw_Tg (me_X1_digestOfCellsZ l hl c q t b k n h x y T (by exact ⟨Ic, Iq, It, Ib, Itb, Ik, In, Ih, Ix, Iy⟩) (by omega) _) nw_yX1_digestOfCells nw_mX1_217 nw_iX1_digestOfCells nw_eX1_digestOfCells (ci := 3) rfl rfl rfl dX1_digest_4 rfl rfl (by decide) (by decide) (by first | decide | omega) (by first | decide | omega) (Nat.le_of_ble_eq_true rfl) rfl rfl (Nat.le_of_ble_eq_true rfl) ?_ ?_
  rotate_left
  · rintro E9 w9 h9; exact h9.elim
  rintro v4 w4 ⟨rfl, z4, rfl, g4⟩
  refine ne_lstore_n X dX1_digest_7 rfl (by decide) ?_
  refine ne_aload_n X dX1_digest_8 rfl ?_
  refine ne_lload_n X dX1_digest_9 rfl ?_
  refine ne_callV X nw_Tg (me_X1_digestOfWheelsZ l hl c q t b k n h x y T (by exact ⟨Ic, Iq, It, Ib, Itb, Ik, In, Ih, Ix, Iy⟩) (by omega) _) nw_yX1_digestOfWheels nw_mX1_221 nw_iX1_digestOfWheels nw_eX1_digestOfWheels (ci := 3) rfl rfl rfl dX1_digest_10 rfl rfl (by decide) (by decide) (by first | decide | omega) (by first | decide | omega) (Nat.le_of_ble_eq_true rfl) rfl rfl (Nat.le_of_ble_eq_true rfl) ?_ ?_
  rotate_left
  · rintro E9 w9 h9; exact h9.elim
  rintro v10 w10 ⟨x10, y10, rfl, Ix, Iy, z10, rfl, g10⟩
  refine ne_lstore_n X dX1_digest_13 rfl (by decide) ?_
  refine ne_ll (L' := [some (.ref 0), some (nl _), none, none]) rfl ?_
  refine ne_iconst X dX1_digest_14 ?_
  refine ne_istore_n X dX1_digest_15 rfl (by decide) ?_
  exact lp16 _ _ _ _ 0 (Nat.lt_succ_self _) (by omega) (by omega) Ix Iy (by rw [g10, g4]; rfl)
