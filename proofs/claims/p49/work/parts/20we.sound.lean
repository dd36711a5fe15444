set_option maxRecDepth 100000 in
set_option maxHeartbeats 4000000 in
theorem me_X1_workOutProductZ (l : Launch) (hl : l.stackTraces = false) (c q t b k n h x y : Nat → Int) (T : Int) (hI : cI c q t b k n h x y T) (hT : 0 ≤ T ∧ T ≤ 1000000) (i : Int) (hi : 0 ≤ i ∧ i < 3) : ne_M l nw_cl (.code yX1_workOutProduct cX1_workOutProduct 5 (none)) nw_T yX1_workOutProduct 3 110 0 0 [.ref 0, ni i] (cW c q t b k n h x y) (fun v w => v = none ∧ ∃ x1, w = cW c q t b k n h x1 y ∧ ne_rg x1 0 9 ∧ (∀ m : Nat, m < 98 → x1 m = n9_cd (n9_pd (t i.toNat) (b i.toNat) (n i.toNat)) m)) (fun _ _ => False) := by
  refine ne_meet (own := RX1) hl rfl (by decide +kernel) (Nat.le_of_ble_eq_true rfl) ?_
  intro D ct A P9 V9 R9 S9 M9 as9 bl9 mt9 C9 ad0 X hr hin ht
  obtain ⟨Ic, Iq, It, Ib, Itb, Ik, In, Ih, Ix, Iy⟩ := hI
  have htb9 := Itb i.toNat
  have hb9 := Ib i.toNat
  have ht9 := It i.toNat
  have hn9 := In i.toNat
  have lp31 : ∀ (n9 : Nat) (x1 : Nat → Int) (d r j : Int), (j + 1).toNat < n9 → (-1 ≤ j) → (j ≤ n i.toNat - 1) → (r = ne_rs (t i.toNat) (b i.toNat) (n i.toNat - 1 - j).toNat) → (d = b i.toNat) → (ne_rg x1 0 (9 + 891 * (95 - j))) → (∀ m : Nat, 98 ≤ m → x1 m ≤ 9) → (n9_pi (t i.toNat) (b i.toNat) (n i.toNat) j x1) → ne_G nw_cl D ct A 12 ad0 P9 l V9 R9 S9 M9 as9 bl9 mt9 C9 (ne_O nw_cl D ct ad0 12 A bl9 as9 S9 0 0 (fun v w => v = none ∧ ∃ x1, w = cW c q t b k n h x1 y ∧ ne_rg x1 0 9 ∧ (∀ m : Nat, m < 98 → x1 m = n9_cd (n9_pd (t i.toNat) (b i.toNat) (n i.toNat)) m)) (fun _ _ => False)) 5 0 0 0 0 31 [some (.ref 0), some (ni i), some (ni d), some (ni r), some (ni j)] [] (cW c q t b k n h x1 y) := by
    intro n9
    induction n9 with
    | zero => intro x1 d r j hm9 q1 q2 q3 q4 Ix h9x q7; exfalso; omega
    | succ n9 ih =>
      intro x1 d r j hm9 q1 q2 q3 q4 Ix h9x q7
      have q5 := ne_rs_in (t i.toNat) (b i.toNat) ht9.1 htb9 (n i.toNat - 1 - j).toNat
      rw [← q3] at q5
      refine ne_iload X dX1_workOutProduct_31 rfl ?_
      refine ne_if_lt (tgt := 64) X dX1_workOutProduct_33 rfl (by omega) (fun b33 => ?_) (fun b33 => ?_)
      · refine ne_aload_n X dX1_workOutProduct_64 rfl ?_
        refine ne_getf X dX1_workOutProduct_65 nw_fX1_34 rfl rfl ?_
        refine ne_callVN (host := "Ninewheel") X nw_Tg (me_X0_carry_xZ l hl c q t b k n h x1 y _ Ix (by omega) h9x) nw_yX0_carry (by decide +kernel) nw_iX0_carry nw_eX0_carry (ci := 2) rfl rfl rfl dX1_workOutProduct_68 rfl rfl (by decide) (by decide) (by first | decide | omega) (by first | decide | omega) (Nat.le_of_ble_eq_true rfl) rfl rfl (Nat.le_of_ble_eq_true rfl) ?_ ?_
        rotate_left
        · rintro E9 w9 h9; exact h9.elim
        rintro v68 w68 ⟨rfl, x68, rfl, Ix, Z68⟩
        exact ne_vret X hr dX1_workOutProduct_71 ⟨rfl, _, rfl, Ix, fun m hm => (Z68 m hm).trans (n9_cdC (n := 98) (fun m h9 => (q7 m h9).1 (by omega)) m hm)⟩
      · refine ne_aload_n X dX1_workOutProduct_36 rfl ?_
        refine ne_getf X dX1_workOutProduct_37 nw_fX1_34 rfl rfl ?_
        refine ne_iload X dX1_workOutProduct_40 rfl ?_
        refine ne_iload_n X dX1_workOutProduct_42 rfl ?_
        refine ne_iload_n X dX1_workOutProduct_43 rfl ?_
        refine ne_callS X nw_Tg (me_X1_digitAfter l hl _ _ _ (by omega) (by omega) (by omega)) nw_yX1_digitAfter nw_mX1_138 nw_sX1_digitAfter dX1_workOutProduct_44 rfl rfl (by decide) (by decide) (by first | decide | omega) (by first | decide | omega) (Nat.le_of_ble_eq_true rfl) rfl rfl (Nat.le_of_ble_eq_true rfl) ?_ ?_
        rotate_left
        · rintro E9 w9 h9; exact h9.elim
        rintro v44 w44 ⟨rfl, z44, rfl, g44, k44, i44⟩
        have m44 := ne_mul z44 d 9 99 (by omega) (by omega)
        have m45 : 0 ≤ z44 * d := Int.mul_nonneg (by omega) (by omega)
        refine ne_iload_n X dX1_workOutProduct_47 rfl ?_
        refine ne_imul X dX1_workOutProduct_48 ?_
        refine ne_callVN (host := "Ninewheel") X nw_Tg (me_X0_raise_x l hl c q t b k n h x1 y _ _ _ Ix (by omega) (by omega) (by omega)) nw_yX0_raise (by decide +kernel) nw_iX0_raise nw_eX0_raise (ci := 2) rfl rfl rfl dX1_workOutProduct_49 rfl rfl (by decide) (by decide) (by first | decide | omega) (by first | decide | omega) (Nat.le_of_ble_eq_true rfl) rfl rfl (Nat.le_of_ble_eq_true rfl) ?_ ?_
        rotate_left
        · rintro E9 w9 h9; exact h9.elim
        rintro v49 w49 ⟨rfl, x49, rfl, Ix, Hx, g49⟩
        refine ne_iload_n X dX1_workOutProduct_52 rfl ?_
        refine ne_iload_n X dX1_workOutProduct_53 rfl ?_
        refine ne_callS X nw_Tg (me_X1_restAfter l hl _ _ _ (by omega) (by omega) (by omega)) nw_yX1_restAfter nw_mX1_189 nw_sX1_restAfter dX1_workOutProduct_54 rfl rfl (by decide) (by decide) (by first | decide | omega) (by first | decide | omega) (Nat.le_of_ble_eq_true rfl) rfl rfl (Nat.le_of_ble_eq_true rfl) ?_ ?_
        rotate_left
        · rintro E9 w9 h9; exact h9.elim
        rintro v54 w54 ⟨rfl, z54, rfl, g54, k54, i54⟩
        refine ne_istore_n X dX1_workOutProduct_57 rfl (by decide) ?_
        refine ne_iinc X dX1_workOutProduct_58 rfl (by decide) ?_
        refine ne_ll (L' := [some (.ref 0), some (ni _), some (ni _), some (ni _), some (ni _)]) rfl ?_
        refine ne_goto (tgt := 31) X dX1_workOutProduct_61 rfl ?_
        have k3 : z54 = ne_rs (t i.toNat) (b i.toNat) (n i.toNat - 1 - (j + -1)).toNat := by
                                            rw [show (n i.toNat - 1 - (j + -1)).toNat = (n i.toNat - 1 - j).toNat + 1 by omega]
                                            show z54 = (10 * ne_rs (t i.toNat) (b i.toNat) (n i.toNat - 1 - j).toNat).tmod (b i.toNat)
                                            rw [← q3, g54, q4]
        have k4 : z44 * d = n9_dg (t i.toNat) (b i.toNat) (n i.toNat - 1 - j).toNat * b i.toNat := by
                                            unfold n9_dg
                                            rw [← q3, g44, q4]
        exact ih _ _ _ _ (by omega) (by omega) (by omega) k3 q4 (ne_rg_mono Ix (by omega) (by omega)) (fun m hm => by rw [Hx m hm]; exact h9x m hm) (n9_piS (by omega) (by omega) q7 k4 g49)
  refine ne_aload_n X dX1_workOutProduct_0 rfl ?_
  refine ne_getf X dX1_workOutProduct_1 nw_fX1_19 rfl rfl ?_
  refine ne_iload_n X dX1_workOutProduct_4 rfl ?_
  refine ne_ialdR X dX1_workOutProduct_5 rfl (by omega) Ib (fun v5 e5 f5 u5 => ?_)
  refine ne_istore_n X dX1_workOutProduct_6 rfl (by decide) ?_
  refine ne_aload_n X dX1_workOutProduct_7 rfl ?_
  refine ne_getf X dX1_workOutProduct_8 nw_fX1_16 rfl rfl ?_
  refine ne_iload_n X dX1_workOutProduct_11 rfl ?_
  refine ne_ialdR X dX1_workOutProduct_12 rfl (by omega) It (fun v12 e12 f12 u12 => ?_)
  refine ne_istore_n X dX1_workOutProduct_13 rfl (by decide) ?_
  refine ne_ll (L' := [some (.ref 0), some (ni _), some (ni _), some (ni _), none]) rfl ?_
  refine ne_aload_n X dX1_workOutProduct_14 rfl ?_
  refine ne_getf X dX1_workOutProduct_15 nw_fX1_34 rfl rfl ?_
  refine ne_callVN (host := "Ninewheel") X nw_Tg (me_X0_clear_xZ l hl c q t b k n h x y Ix) nw_yX0_clear (by decide +kernel) nw_iX0_clear nw_eX0_clear (ci := 2) rfl rfl rfl dX1_workOutProduct_18 rfl rfl (by decide) (by decide) (by first | decide | omega) (by first | decide | omega) (Nat.le_of_ble_eq_true rfl) rfl rfl (Nat.le_of_ble_eq_true rfl) ?_ ?_
  rotate_left
  · rintro E9 w9 h9; exact h9.elim
  rintro v18 w18 ⟨rfl, x18, rfl, Ix, Z18⟩
  refine ne_aload_n X dX1_workOutProduct_21 rfl ?_
  refine ne_getf X dX1_workOutProduct_22 nw_fX1_25 rfl rfl ?_
  refine ne_iload_n X dX1_workOutProduct_25 rfl ?_
  refine ne_ialdR X dX1_workOutProduct_26 rfl (by omega) In (fun v26 e26 f26 u26 => ?_)
  refine ne_iconst X dX1_workOutProduct_27 ?_
  refine ne_isub X dX1_workOutProduct_28 ?_
  refine ne_istore X dX1_workOutProduct_29 (by decide) ?_
  have k3 : v12 = ne_rs (t i.toNat) (b i.toNat) (n i.toNat - 1 - (v26 - 1)).toNat := by
                                            rw [show (n i.toNat - 1 - (v26 - 1)).toNat = 0 by omega]; exact e12
  exact lp31 _ _ _ _ _ (Nat.lt_succ_self _) (by omega) (by omega) k3 e5 (ne_rg_mono Ix (by omega) (by omega)) (fun m hm => (Ix m).2) (fun m hm => ⟨fun h9 => by rw [Z18 m hm]; unfold n9_pd; rw [if_neg (by omega)], fun _ => Z18 m hm⟩)
set_option maxRecDepth 100000 in
set_option maxHeartbeats 4000000 in
theorem me_X1_isProductSoundZ (l : Launch) (hl : l.stackTraces = false) (c q t b k n h x y : Nat → Int) (T : Int) (hI : cI c q t b k n h x y T) (hT : 0 ≤ T ∧ T ≤ 1000000) (i : Int) (hi : 0 ≤ i ∧ i < 3) (hper : ne_per (t i.toNat) (b i.toNat) (n i.toNat)) : ne_M l nw_cl (.code yX1_isProductSound cX1_isProductSound 2 (some .boolean)) nw_T yX1_isProductSound 4 150 0 0 [.ref 0, ni i] (cW c q t b k n h x y) (fun v w => ∃ x1 y1, w = cW c q t b k n h x1 y1 ∧ ne_rg x1 0 9 ∧ ne_rg y1 0 9 ∧ ∃ z : Int, v = some (ni z) ∧ z = 1) (fun _ _ => False) := by
  refine ne_meet (own := RX1) hl rfl (by decide +kernel) (Nat.le_of_ble_eq_true rfl) ?_
  intro D ct A P9 V9 R9 S9 M9 as9 bl9 mt9 C9 ad0 X hr hin ht
  obtain ⟨Ic, Iq, It, Ib, Itb, Ik, In, Ih, Ix, Iy⟩ := hI
  have htb9 := Itb i.toNat
  have hb9 := Ib i.toNat
  have ht9 := It i.toNat
  have hn9 := In i.toNat
  refine ne_aload_n X dX1_isProductSound_0 rfl ?_
  refine ne_iload_n X dX1_isProductSound_1 rfl ?_
  refine ne_callV X nw_Tg (me_X1_workOutProductZ l hl c q t b k n h x y T (by exact ⟨Ic, Iq, It, Ib, Itb, Ik, In, Ih, Ix, Iy⟩) (by omega) _ (by omega)) nw_yX1_workOutProduct nw_mX1_166 nw_iX1_workOutProduct nw_eX1_workOutProduct (ci := 3) rfl rfl rfl dX1_isProductSound_2 rfl rfl (by decide) (by decide) (by first | decide | omega) (by first | decide | omega) (Nat.le_of_ble_eq_true rfl) rfl rfl (Nat.le_of_ble_eq_true rfl) ?_ ?_
  rotate_left
  · rintro E9 w9 h9; exact h9.elim
  rintro v2 w2 ⟨rfl, x2, rfl, Ix, Z2⟩
  refine ne_aload_n X dX1_isProductSound_5 rfl ?_
  refine ne_getf X dX1_isProductSound_6 nw_fX1_38 rfl rfl ?_
  refine ne_aload_n X dX1_isProductSound_9 rfl ?_
  refine ne_getf X dX1_isProductSound_10 nw_fX1_25 rfl rfl ?_
  refine ne_iload_n X dX1_isProductSound_13 rfl ?_
  refine ne_ialdR X dX1_isProductSound_14 rfl (by omega) In (fun v14 e14 f14 u14 => ?_)
  refine ne_aload_n X dX1_isProductSound_15 rfl ?_
  refine ne_getf X dX1_isProductSound_16 nw_fX1_16 rfl rfl ?_
  refine ne_iload_n X dX1_isProductSound_19 rfl ?_
  refine ne_ialdR X dX1_isProductSound_20 rfl (by omega) It (fun v20 e20 f20 u20 => ?_)
  refine ne_callVN (host := "Ninewheel") X nw_Tg (me_X0_becomeNines_yZ l hl c q t b k n h x2 y _ _ Iy (by omega) (by omega)) nw_yX0_becomeNines (by decide +kernel) nw_iX0_becomeNines nw_eX0_becomeNines (ci := 2) rfl rfl rfl dX1_isProductSound_21 rfl rfl (by decide) (by decide) (by first | decide | omega) (by first | decide | omega) (Nat.le_of_ble_eq_true rfl) rfl rfl (Nat.le_of_ble_eq_true rfl) ?_ ?_
  rotate_left
  · rintro E9 w9 h9; exact h9.elim
  rintro v21 w21 ⟨rfl, y21, rfl, Iy, Z21⟩
  refine ne_aload_n X dX1_isProductSound_24 rfl ?_
  refine ne_getf X dX1_isProductSound_25 nw_fX1_34 rfl rfl ?_
  refine ne_aload_n X dX1_isProductSound_28 rfl ?_
  refine ne_getf X dX1_isProductSound_29 nw_fX1_38 rfl rfl ?_
  refine ne_callVN (host := "Ninewheel") X nw_Tg (me_X0_isLike_x l hl c q t b k n h x2 y21 Ix Iy) nw_yX0_isLike (by decide +kernel) nw_iX0_isLike nw_eX0_isLike (ci := 2) rfl rfl rfl dX1_isProductSound_32 rfl rfl (by decide) (by decide) (by first | decide | omega) (by first | decide | omega) (Nat.le_of_ble_eq_true rfl) rfl rfl (Nat.le_of_ble_eq_true rfl) ?_ ?_
  rotate_left
  · rintro E9 w9 h9; exact h9.elim
  rintro v32 w32 ⟨rfl, z32, rfl, g32, k32, i32⟩
  exact ne_iret X hr (by first | rfl | decide | (rcases (show z32 = 0 ∨ z32 = 1 by omega) with rfl | rfl <;> rfl)) dX1_isProductSound_35 ⟨_, _, rfl, Ix, Iy, _, rfl, i32.mpr (fun m hm => by rw [Z2 m hm, Z21 m hm, e14, e20]; exact n9_prod hper m)⟩
set_option maxRecDepth 100000 in
set_option maxHeartbeats 4000000 in
theorem me_X1_isLengthSoundZ (l : Launch) (hl : l.stackTraces = false) (c q t b k n h x y : Nat → Int) (T : Int) (hI : cI c q t b k n h x y T) (hT : 0 ≤ T ∧ T ≤ 1000000) (i : Int) (hi : 0 ≤ i ∧ i < 3) (hper : ne_per (t i.toNat) (b i.toNat) (n i.toNat)) : ne_M l nw_cl (.code yX1_isLengthSound cX1_isLengthSound 6 (some .boolean)) nw_T yX1_isLengthSound 2 70 0 0 [.ref 0, ni i] (cW c q t b k n h x y) (fun v w => w = cW c q t b k n h x y ∧ ∃ z : Int, v = some (ni z) ∧ z = 1) (fun _ _ => False) := by
  refine ne_meet (own := RX1) hl rfl (by decide +kernel) (Nat.le_of_ble_eq_true rfl) ?_
  intro D ct A P9 V9 R9 S9 M9 as9 bl9 mt9 C9 ad0 X hr hin ht
  obtain ⟨Ic, Iq, It, Ib, Itb, Ik, In, Ih, Ix, Iy⟩ := hI
  have htb9 := Itb i.toNat
  have hb9 := Ib i.toNat
  have ht9 := It i.toNat
  have hn9 := In i.toNat
  have lp20 : ∀ (n9 : Nat) (d r f j : Int), (97 - j).toNat < n9 → (1 ≤ j) → (j ≤ d + 1) → (d = n i.toNat) → (r = ne_rs (t i.toNat) (b i.toNat) (j - 1).toNat) → (0 ≤ f ∧ f ≤ 1 ∧ (j = 1 → f = 0) ∧ (1 < j → (f = 1 ↔ r = t i.toNat))) → ne_G nw_cl D ct A 12 ad0 P9 l V9 R9 S9 M9 as9 bl9 mt9 C9 (ne_O nw_cl D ct ad0 12 A bl9 as9 S9 0 0 (fun v w => w = cW c q t b k n h x y ∧ ∃ z : Int, v = some (ni z) ∧ z = 1) (fun _ _ => False)) 6 0 0 0 0 20 [some (.ref 0), some (ni i), some (ni d), some (ni r), some (ni f), some (ni j)] [] (cW c q t b k n h x y) := by
    intro n9
    induction n9 with
    | zero => intro d r f j hm9 q1 q2 q8 q3 q9; exfalso; omega
    | succ n9 ih =>
      intro d r f j hm9 q1 q2 q8 q3 q9
      have q5 := ne_rs_in (t i.toNat) (b i.toNat) ht9.1 htb9 (j - 1).toNat
      rw [← q3] at q5
      refine ne_iload X dX1_isLengthSound_20 rfl ?_
      refine ne_iload_n X dX1_isLengthSound_22 rfl ?_
      refine ne_icmp_gt (tgt := 82) X dX1_isLengthSound_23 rfl (by omega) (by omega) (fun b23 => ?_) (fun b23 => ?_)
      · refine ne_iload X dX1_isLengthSound_82 rfl ?_
        exact ne_iret X hr (by first | rfl | decide | (rcases (show f = 0 ∨ f = 1 by omega) with rfl | rfl <;> rfl)) dX1_isLengthSound_84 ⟨rfl, _, rfl, (by have k9 := hper.2.2.2; rw [show (n i.toNat).toNat = (j - 1).toNat by omega, ← q3] at k9; omega)⟩
      · refine ne_iload_n X dX1_isLengthSound_26 rfl ?_
        refine ne_aload_n X dX1_isLengthSound_27 rfl ?_
        refine ne_getf X dX1_isLengthSound_28 nw_fX1_19 rfl rfl ?_
        refine ne_iload_n X dX1_isLengthSound_31 rfl ?_
        refine ne_ialdR X dX1_isLengthSound_32 rfl (by omega) Ib (fun v32 e32 f32 u32 => ?_)
        refine ne_callS X nw_Tg (me_X1_restAfter l hl _ _ _ (by omega) (by omega) (by omega)) nw_yX1_restAfter nw_mX1_189 nw_sX1_restAfter dX1_isLengthSound_33 rfl rfl (by decide) (by decide) (by first | decide | omega) (by first | decide | omega) (Nat.le_of_ble_eq_true rfl) rfl rfl (Nat.le_of_ble_eq_true rfl) ?_ ?_
        rotate_left
        · rintro E9 w9 h9; exact h9.elim
        rintro v33 w33 ⟨rfl, z33, rfl, g33, k33, i33⟩
        refine ne_istore_n X dX1_isLengthSound_36 rfl (by decide) ?_
        have k33 : z33 = ne_rs (t i.toNat) (b i.toNat) j.toNat := by
                                            rw [show j.toNat = (j - 1).toNat + 1 by omega]
                                            show z33 = (10 * ne_rs (t i.toNat) (b i.toNat) (j - 1).toNat).tmod (b i.toNat)
                                            rw [← q3, g33, e32]
        refine ne_iload_n X dX1_isLengthSound_37 rfl ?_
        refine ne_aload_n X dX1_isLengthSound_38 rfl ?_
        refine ne_getf X dX1_isLengthSound_39 nw_fX1_16 rfl rfl ?_
        refine ne_iload_n X dX1_isLengthSound_42 rfl ?_
        refine ne_ialdR X dX1_isLengthSound_43 rfl (by omega) It (fun v43 e43 f43 u43 => ?_)
        refine ne_icmp_ne (tgt := 51) X dX1_isLengthSound_44 rfl (by omega) (by omega) (fun b44 => ?_) (fun b44 => ?_)
        · refine ne_iconst X dX1_isLengthSound_51 ?_
          refine ne_istore X dX1_isLengthSound_52 (by decide) ?_
          refine ne_ll (L' := [some (.ref 0), some (ni _), some (ni _), some (ni _), some (ni _), some (ni _)]) rfl ?_
          refine ne_iload X dX1_isLengthSound_54 rfl ?_
          refine ne_if_eq (tgt := 76) X dX1_isLengthSound_56 rfl (by omega) (fun b56 => ?_) (fun b56 => ?_)
          · refine ne_iinc X dX1_isLengthSound_76 rfl (by decide) ?_
            refine ne_goto (tgt := 20) X dX1_isLengthSound_79 rfl ?_
            exact ih _ _ _ _ (by omega) (by omega) (by omega) q8 (by rw [show (j + 1 - 1).toNat = j.toNat by omega]; exact k33) (by omega)
          · exfalso; omega
        · refine ne_iconst X dX1_isLengthSound_47 ?_
          refine ne_goto (tgt := 52) X dX1_isLengthSound_48 rfl ?_
          refine ne_istore X dX1_isLengthSound_52 (by decide) ?_
          refine ne_ll (L' := [some (.ref 0), some (ni _), some (ni _), some (ni _), some (ni _), some (ni _)]) rfl ?_
          refine ne_iload X dX1_isLengthSound_54 rfl ?_
          refine ne_if_eq (tgt := 76) X dX1_isLengthSound_56 rfl (by omega) (fun b56 => ?_) (fun b56 => ?_)
          · exfalso; omega
          · refine ne_iload X dX1_isLengthSound_59 rfl ?_
            refine ne_iload_n X dX1_isLengthSound_61 rfl ?_
            refine ne_icmp_ge (tgt := 76) X dX1_isLengthSound_62 rfl (by omega) (by omega) (fun b62 => ?_) (fun b62 => ?_)
            · refine ne_iinc X dX1_isLengthSound_76 rfl (by decide) ?_
              refine ne_goto (tgt := 20) X dX1_isLengthSound_79 rfl ?_
              exact ih _ _ _ _ (by omega) (by omega) (by omega) q8 (by rw [show (j + 1 - 1).toNat = j.toNat by omega]; exact k33) (by omega)
            · refine ne_iload_n X dX1_isLengthSound_65 rfl ?_
              refine ne_iload X dX1_isLengthSound_66 rfl ?_
              refine ne_callS X nw_Tg (me_X1_leftover l hl _ _ _ (by omega) (by omega)) nw_yX1_leftover nw_mX1_147 nw_sX1_leftover dX1_isLengthSound_68 rfl rfl (by decide) (by decide) (by first | decide | omega) (by first | decide | omega) (Nat.le_of_ble_eq_true rfl) rfl rfl (Nat.le_of_ble_eq_true rfl) ?_ ?_
              rotate_left
              · rintro E9 w9 h9; exact h9.elim
              rintro v68 w68 ⟨rfl, z68, rfl, g68⟩
              have t68 := (ne_tdm d j (by omega)).1 (by omega)
              refine ne_if_ne (tgt := 76) X dX1_isLengthSound_71 rfl (by omega) (fun b71 => ?_) (fun b71 => ?_)
              · refine ne_iinc X dX1_isLengthSound_76 rfl (by decide) ?_
                refine ne_goto (tgt := 20) X dX1_isLengthSound_79 rfl ?_
                exact ih _ _ _ _ (by omega) (by omega) (by omega) q8 (by rw [show (j + 1 - 1).toNat = j.toNat by omega]; exact k33) (by omega)
              · exfalso; first | omega | exact hper.2.2.1 j.toNat (by omega) (by omega) (by rw [← k33, ← e43]; exact b44)
  refine ne_aload_n X dX1_isLengthSound_0 rfl ?_
  refine ne_getf X dX1_isLengthSound_1 nw_fX1_25 rfl rfl ?_
  refine ne_iload_n X dX1_isLengthSound_4 rfl ?_
  refine ne_ialdR X dX1_isLengthSound_5 rfl (by omega) In (fun v5 e5 f5 u5 => ?_)
  refine ne_istore_n X dX1_isLengthSound_6 rfl (by decide) ?_
  refine ne_aload_n X dX1_isLengthSound_7 rfl ?_
  refine ne_getf X dX1_isLengthSound_8 nw_fX1_16 rfl rfl ?_
  refine ne_iload_n X dX1_isLengthSound_11 rfl ?_
  refine ne_ialdR X dX1_isLengthSound_12 rfl (by omega) It (fun v12 e12 f12 u12 => ?_)
  refine ne_istore_n X dX1_isLengthSound_13 rfl (by decide) ?_
  refine ne_ll (L' := [some (.ref 0), some (ni _), some (ni _), some (ni _), none, none]) rfl ?_
  refine ne_iconst X dX1_isLengthSound_14 ?_
  refine ne_istore X dX1_isLengthSound_15 (by decide) ?_
  refine ne_iconst X dX1_isLengthSound_17 ?_
  refine ne_istore X dX1_isLengthSound_18 (by decide) ?_
  refine ne_ll (L' := [some (.ref 0), some (ni _), some (ni _), some (ni _), some (ni _), some (ni _)]) rfl ?_
  exact lp20 _ _ _ 0 1 (Nat.lt_succ_self _) (by omega) (by omega) e5 e12 (by omega)
set_option maxRecDepth 100000 in
set_option maxHeartbeats 4000000 in
theorem me_X1_isCellSoundWithAllZ (l : Launch) (hl : l.stackTraces = false) (c q t b k n h x y : Nat → Int) (T : Int) (hI : cI c q t b k n h x y T) (hT : 0 ≤ T ∧ T ≤ 1000000) (i : Int) (hi : 0 ≤ i ∧ i < 4) : ne_M l nw_cl (.code yX1_isCellSoundWithAll cX1_isCellSoundWithAll 7 (some .boolean)) nw_T yX1_isCellSoundWithAll 3 110 0 0 [.ref 0, ni i] (cW c q t b k n h x y) (fun v w => w = cW c q t b k n h x y ∧ ∃ z : Int, v = some (ni z) ∧ z = 1) (fun _ _ => False) := by
  refine ne_meet (own := RX1) hl rfl (by decide +kernel) (Nat.le_of_ble_eq_true rfl) ?_
  intro D ct A P9 V9 R9 S9 M9 as9 bl9 mt9 C9 ad0 X hr hin ht
  obtain ⟨Ic, Iq, It, Ib, Itb, Ik, In, Ih, Ix, Iy⟩ := hI
  have lp2 : ∀ (n9 : Nat) (j : Int), (4 - j).toNat < n9 → (0 ≤ j) → (j ≤ 4) → ne_G nw_cl D ct A 12 ad0 P9 l V9 R9 S9 M9 as9 bl9 mt9 C9 (ne_O nw_cl D ct ad0 12 A bl9 as9 S9 0 0 (fun v w => w = cW c q t b k n h x y ∧ ∃ z : Int, v = some (ni z) ∧ z = 1) (fun _ _ => False)) 7 0 0 0 0 2 [some (.ref 0), some (ni i), some (ni j), none, none, none, none] [] (cW c q t b k n h x y) := by
    intro n9
    induction n9 with
    | zero => intro j hm9 q1 q2; exfalso; omega
    | succ n9 ih =>
      intro j hm9 q1 q2
      refine ne_iload_n X dX1_isCellSoundWithAll_2 rfl ?_
      refine ne_iconst X dX1_isCellSoundWithAll_3 ?_
      refine ne_icmp_ge (tgt := 99) X dX1_isCellSoundWithAll_4 rfl (by omega) (by omega) (fun b4 => ?_) (fun b4 => ?_)
      · refine ne_iconst X dX1_isCellSoundWithAll_99 ?_
        exact ne_iret X hr (by first | rfl | decide | rfl) dX1_isCellSoundWithAll_100 ⟨rfl, _, rfl, rfl⟩
      · refine ne_aload_n X dX1_isCellSoundWithAll_7 rfl ?_
        refine ne_getf X dX1_isCellSoundWithAll_8 nw_fX1_13 rfl rfl ?_
        refine ne_iload_n X dX1_isCellSoundWithAll_11 rfl ?_
        refine ne_ialdR X dX1_isCellSoundWithAll_12 rfl (by omega) Iq (fun v12 e12 f12 u12 => ?_)
        refine ne_aload_n X dX1_isCellSoundWithAll_13 rfl ?_
        refine ne_getf X dX1_isCellSoundWithAll_14 nw_fX1_13 rfl rfl ?_
        refine ne_iload_n X dX1_isCellSoundWithAll_17 rfl ?_
        refine ne_ialdR X dX1_isCellSoundWithAll_18 rfl (by omega) Iq (fun v18 e18 f18 u18 => ?_)
        refine ne_mmax X dX1_isCellSoundWithAll_19 nw_mX1_69 nw_Ms_max nw_Mi nw_Mc_max (by decide) (Nat.le_of_ble_eq_true rfl) (by omega) (by omega) ?_
        refine ne_topI (fun m19 e19 => ?_)
        have p19 : 0 ≤ m19 ∧ m19 ≤ 3 := by rw [e19]; split <;> omega
        refine ne_istore_n X dX1_isCellSoundWithAll_22 rfl (by decide) ?_
        refine ne_aload_n X dX1_isCellSoundWithAll_23 rfl ?_
        refine ne_iload_n X dX1_isCellSoundWithAll_24 rfl ?_
        refine ne_iload_n X dX1_isCellSoundWithAll_25 rfl ?_
        refine ne_callV X nw_Tg (me_X1_countAt l hl c q t b k n h x y T (by exact ⟨Ic, Iq, It, Ib, Itb, Ik, In, Ih, Ix, Iy⟩) (by omega) _ _ (by omega) (by omega)) nw_yX1_countAt nw_mX1_73 nw_iX1_countAt nw_eX1_countAt (ci := 3) rfl rfl rfl dX1_isCellSoundWithAll_26 rfl rfl (by decide) (by decide) (by first | decide | omega) (by first | decide | omega) (Nat.le_of_ble_eq_true rfl) rfl rfl (Nat.le_of_ble_eq_true rfl) ?_ ?_
        rotate_left
        · rintro E9 w9 h9; exact h9.elim
        rintro v26 w26 ⟨rfl, z26, rfl, g26, k26, i26⟩
        refine ne_aload_n X dX1_isCellSoundWithAll_29 rfl ?_
        refine ne_iload_n X dX1_isCellSoundWithAll_30 rfl ?_
        refine ne_iload_n X dX1_isCellSoundWithAll_31 rfl ?_
        refine ne_callV X nw_Tg (me_X1_countAt l hl c q t b k n h x y T (by exact ⟨Ic, Iq, It, Ib, Itb, Ik, In, Ih, Ix, Iy⟩) (by omega) _ _ (by omega) (by omega)) nw_yX1_countAt nw_mX1_73 nw_iX1_countAt nw_eX1_countAt (ci := 3) rfl rfl rfl dX1_isCellSoundWithAll_32 rfl rfl (by decide) (by decide) (by first | decide | omega) (by first | decide | omega) (Nat.le_of_ble_eq_true rfl) rfl rfl (Nat.le_of_ble_eq_true rfl) ?_ ?_
        rotate_left
        · rintro E9 w9 h9; exact h9.elim
        rintro v32 w32 ⟨rfl, z32, rfl, g32, k32, i32⟩
        refine ne_ladd X dX1_isCellSoundWithAll_35 ?_
        refine ne_lstore X dX1_isCellSoundWithAll_36 (by decide) ?_
        refine ne_ll (L' := [some (.ref 0), some (ni _), some (ni _), some (ni _), some (nl _), none, none]) rfl ?_
        refine ne_aload_n X dX1_isCellSoundWithAll_38 rfl ?_
        refine ne_iload_n X dX1_isCellSoundWithAll_39 rfl ?_
        refine ne_iload_n X dX1_isCellSoundWithAll_40 rfl ?_
        refine ne_callV X nw_Tg (me_X1_orderOfCells l hl c q t b k n h x y T (by exact ⟨Ic, Iq, It, Ib, Itb, Ik, In, Ih, Ix, Iy⟩) (by omega) _ _ (by omega) (by omega)) nw_yX1_orderOfCells nw_mX1_107 nw_iX1_orderOfCells nw_eX1_orderOfCells (ci := 3) rfl rfl rfl dX1_isCellSoundWithAll_41 rfl rfl (by decide) (by decide) (by first | decide | omega) (by first | decide | omega) (Nat.le_of_ble_eq_true rfl) rfl rfl (Nat.le_of_ble_eq_true rfl) ?_ ?_
        rotate_left
        · rintro E9 w9 h9; exact h9.elim
        rintro v41 w41 ⟨rfl, z41, rfl, g41, k41, i41, j41⟩
        refine ne_istore X dX1_isCellSoundWithAll_44 (by decide) ?_
        refine ne_lload X dX1_isCellSoundWithAll_46 rfl ?_
        refine ne_aload_n X dX1_isCellSoundWithAll_48 rfl ?_
        refine ne_iload_n X dX1_isCellSoundWithAll_49 rfl ?_
        refine ne_iload_n X dX1_isCellSoundWithAll_50 rfl ?_
        refine ne_callV X nw_Tg (me_X1_countAt l hl c q t b k n h x y T (by exact ⟨Ic, Iq, It, Ib, Itb, Ik, In, Ih, Ix, Iy⟩) (by omega) _ _ (by omega) (by omega)) nw_yX1_countAt nw_mX1_73 nw_iX1_countAt nw_eX1_countAt (ci := 3) rfl rfl rfl dX1_isCellSoundWithAll_51 rfl rfl (by decide) (by decide) (by first | decide | omega) (by first | decide | omega) (Nat.le_of_ble_eq_true rfl) rfl rfl (Nat.le_of_ble_eq_true rfl) ?_ ?_
        rotate_left
        · rintro E9 w9 h9; exact h9.elim
        rintro v51 w51 ⟨rfl, z51, rfl, g51, k51, i51⟩
        have h51 : z51 = z32 := g51.trans g32.symm
        refine ne_lsub X dX1_isCellSoundWithAll_54 ?_
        refine ne_aload_n X dX1_isCellSoundWithAll_55 rfl ?_
        refine ne_iload_n X dX1_isCellSoundWithAll_56 rfl ?_
        refine ne_iload_n X dX1_isCellSoundWithAll_57 rfl ?_
        refine ne_callV X nw_Tg (me_X1_countAt l hl c q t b k n h x y T (by exact ⟨Ic, Iq, It, Ib, Itb, Ik, In, Ih, Ix, Iy⟩) (by omega) _ _ (by omega) (by omega)) nw_yX1_countAt nw_mX1_73 nw_iX1_countAt nw_eX1_countAt (ci := 3) rfl rfl rfl dX1_isCellSoundWithAll_58 rfl rfl (by decide) (by decide) (by first | decide | omega) (by first | decide | omega) (Nat.le_of_ble_eq_true rfl) rfl rfl (Nat.le_of_ble_eq_true rfl) ?_ ?_
        rotate_left
        · rintro E9 w9 h9; exact h9.elim
        rintro v58 w58 ⟨rfl, z58, rfl, g58, k58, i58⟩
        have h58 : z58 = z26 := g58.trans g26.symm
        refine ne_lcif_ne (tgt := 91) X dX1_isCellSoundWithAll_61 dX1_isCellSoundWithAll_62 rfl (by omega) (by omega) (fun b62 => ?_) (fun b62 => ?_)
        · exfalso; omega
        · refine ne_iload X dX1_isCellSoundWithAll_65 rfl ?_
          refine ne_aload_n X dX1_isCellSoundWithAll_67 rfl ?_
          refine ne_iload_n X dX1_isCellSoundWithAll_68 rfl ?_
          refine ne_iload_n X dX1_isCellSoundWithAll_69 rfl ?_
          refine ne_callV X nw_Tg (me_X1_orderOfCells l hl c q t b k n h x y T (by exact ⟨Ic, Iq, It, Ib, Itb, Ik, In, Ih, Ix, Iy⟩) (by omega) _ _ (by omega) (by omega)) nw_yX1_orderOfCells nw_mX1_107 nw_iX1_orderOfCells nw_eX1_orderOfCells (ci := 3) rfl rfl rfl dX1_isCellSoundWithAll_70 rfl rfl (by decide) (by decide) (by first | decide | omega) (by first | decide | omega) (Nat.le_of_ble_eq_true rfl) rfl rfl (Nat.le_of_ble_eq_true rfl) ?_ ?_
          rotate_left
          · rintro E9 w9 h9; exact h9.elim
          rintro v70 w70 ⟨rfl, z70, rfl, g70, k70, i70, j70⟩
          refine ne_ineg X dX1_isCellSoundWithAll_73 ?_
          refine ne_icmp_ne (tgt := 91) X dX1_isCellSoundWithAll_74 rfl (by omega) (by omega) (fun b74 => ?_) (fun b74 => ?_)
          · exfalso; omega
          · refine ne_aload_n X dX1_isCellSoundWithAll_77 rfl ?_
            refine ne_iload_n X dX1_isCellSoundWithAll_78 rfl ?_
            refine ne_iload_n X dX1_isCellSoundWithAll_79 rfl ?_
            refine ne_callV X nw_Tg (me_X1_areSame l hl c q t b k n h x y T (by exact ⟨Ic, Iq, It, Ib, Itb, Ik, In, Ih, Ix, Iy⟩) (by omega) _ _ (by omega) (by omega)) nw_yX1_areSame nw_mX1_124 nw_iX1_areSame nw_eX1_areSame (ci := 3) rfl rfl rfl dX1_isCellSoundWithAll_80 rfl rfl (by decide) (by decide) (by first | decide | omega) (by first | decide | omega) (Nat.le_of_ble_eq_true rfl) rfl rfl (Nat.le_of_ble_eq_true rfl) ?_ ?_
            rotate_left
            · rintro E9 w9 h9; exact h9.elim
            rintro v80 w80 ⟨rfl, z80, rfl, g80, k80, i80⟩
            refine ne_if_eq (tgt := 93) X dX1_isCellSoundWithAll_83 rfl (by omega) (fun b83 => ?_) (fun b83 => ?_)
            · refine ne_iinc X dX1_isCellSoundWithAll_93 rfl (by decide) ?_
              refine ne_ll (L' := [some (.ref 0), some (ni _), some (ni _), some (ni _), some (nl _), none, some (ni _)]) rfl ?_
              refine ne_goto (tgt := 2) X dX1_isCellSoundWithAll_96 rfl ?_
              refine ne_lnone 3 (ne_lnone 4 (ne_lnone 6 ?_))
              exact ih _ (by omega) (by omega) (by omega)
            · refine ne_iload X dX1_isCellSoundWithAll_86 rfl ?_
              refine ne_if_eq (tgt := 93) X dX1_isCellSoundWithAll_88 rfl (by omega) (fun b88 => ?_) (fun b88 => ?_)
              · refine ne_iinc X dX1_isCellSoundWithAll_93 rfl (by decide) ?_
                refine ne_ll (L' := [some (.ref 0), some (ni _), some (ni _), some (ni _), some (nl _), none, some (ni _)]) rfl ?_
                refine ne_goto (tgt := 2) X dX1_isCellSoundWithAll_96 rfl ?_
                refine ne_lnone 3 (ne_lnone 4 (ne_lnone 6 ?_))
                exact ih _ (by omega) (by omega) (by omega)
              · exfalso; have h9 := i80.mp (by omega); rw [h9.1, h9.2] at i41 j41; omega
  refine ne_iconst X dX1_isCellSoundWithAll_0 ?_
  refine ne_istore_n X dX1_isCellSoundWithAll_1 rfl (by decide) ?_
  exact lp2 _ 0 (Nat.lt_succ_self _) (by omega) (by omega)
set_option maxRecDepth 100000 in
set_option maxHeartbeats 4000000 in
theorem me_X1_cutCountY (l : Launch) (hl : l.stackTraces = false) (c q t b k n h x y : Nat → Int) (T : Int) (hI : cI c q t b k n h x y T) (hT : 0 ≤ T ∧ T ≤ 1000000) (i m p w0 : Int) (hi : 0 ≤ i ∧ i < 3) (hm : 0 ≤ m ∧ m ≤ 1) (hp : 0 ≤ p ∧ p ≤ 5) (hw : 0 ≤ w0 ∧ w0 ≤ 7) : ne_M l nw_cl (.code yX1_cutCount cX1_cutCount 7 (some .long)) nw_T yX1_cutCount 3 110 0 0 [.ref 0, ni i, ni m, ni p, ni w0] (cW c q t b k n h x y) (fun v w => w = cW c q t b k n h x y ∧ ∃ z : Int, v = some (nl z) ∧ ((z = -9000000000000000000 ∧ w0 = 7 ∧ ne_rx (ne_cv (t i.toNat) m p) (b i.toNat)) ∨ (ne_rd (ne_cv (t i.toNat) m p) (b i.toNat) w0 z ∧ -9800000 - 1 ≤ z ∧ z ≤ 9800000 + 1))) (fun _ _ => False) := by
  refine ne_meet (own := RX1) hl rfl (by decide +kernel) (Nat.le_of_ble_eq_true rfl) ?_
  intro D ct A P9 V9 R9 S9 M9 as9 bl9 mt9 C9 ad0 X hr hin ht
  obtain ⟨Ic, Iq, It, Ib, Itb, Ik, In, Ih, Ix, Iy⟩ := hI
  refine ne_aload_n X dX1_cutCount_0 rfl ?_
  refine ne_getf X dX1_cutCount_1 nw_fX1_16 rfl rfl ?_
  refine ne_iload_n X dX1_cutCount_4 rfl ?_
  refine ne_ialdR X dX1_cutCount_5 rfl (by omega) It (fun v5 e5 f5 u5 => ?_)
  refine ne_i2l (by omega) X dX1_cutCount_6 ?_
  refine ne_iload_n X dX1_cutCount_7 rfl ?_
  refine ne_callS X nw_Tg (me_X1_tenTo l hl _ _ (by omega)) nw_yX1_tenTo nw_mX1_59 nw_sX1_tenTo dX1_cutCount_8 rfl rfl (by decide) (by decide) (by first | decide | omega) (by first | decide | omega) (Nat.le_of_ble_eq_true rfl) rfl rfl (Nat.le_of_ble_eq_true rfl) ?_ ?_
  rotate_left
  · rintro E9 w9 h9; exact h9.elim
  rintro v8 w8 ⟨rfl, z8, rfl, g8, k8, i8, j8, o8⟩
  have m8 := ne_mul v5 z8 98 100000 (by omega) (by omega)
  refine ne_lmul X dX1_cutCount_11 ?_
  refine ne_lstore X dX1_cutCount_12 (by decide) ?_
  refine ne_iload_n X dX1_cutCount_14 rfl ?_
  refine ne_if_eq (tgt := 24) X dX1_cutCount_15 rfl (by omega) (fun b15 => ?_) (fun b15 => ?_)
  · refine ne_lload X dX1_cutCount_24 rfl ?_
    refine ne_aload_n X dX1_cutCount_26 rfl ?_
    refine ne_getf X dX1_cutCount_27 nw_fX1_19 rfl rfl ?_
    refine ne_iload_n X dX1_cutCount_30 rfl ?_
    refine ne_ialdR X dX1_cutCount_31 rfl (by omega) Ib (fun v31 e31 f31 u31 => ?_)
    refine ne_i2l (by omega) X dX1_cutCount_32 ?_
    refine ne_iload X dX1_cutCount_33 rfl ?_
    refine ne_callS X nw_Tg (me_X1_roundedX l hl _ 9800000 _ _ _ (by omega) (by omega) (by omega) (by omega)) nw_yX1_rounded nw_mX1_84 nw_sX1_rounded dX1_cutCount_35 rfl rfl (by decide) (by decide) (by first | decide | omega) (by first | decide | omega) (Nat.le_of_ble_eq_true rfl) rfl rfl (Nat.le_of_ble_eq_true rfl) ?_ ?_
    rotate_left
    · rintro E9 w9 h9; exact h9.elim
    rintro v35 w35 ⟨rfl, z35, rfl, g35⟩
    exact ne_lret X hr dX1_cutCount_38 ⟨rfl, _, rfl, (by unfold ne_cv; (first | rw [if_pos b15] | rw [if_neg b15]); rw [← e5, ← g8, ← e31]; exact g35)⟩
  · refine ne_lload X dX1_cutCount_18 rfl ?_
    refine ne_lneg X dX1_cutCount_20 ?_
    refine ne_goto (tgt := 26) X dX1_cutCount_21 rfl ?_
    refine ne_aload_n X dX1_cutCount_26 rfl ?_
    refine ne_getf X dX1_cutCount_27 nw_fX1_19 rfl rfl ?_
    refine ne_iload_n X dX1_cutCount_30 rfl ?_
    refine ne_ialdR X dX1_cutCount_31 rfl (by omega) Ib (fun v31 e31 f31 u31 => ?_)
    refine ne_i2l (by omega) X dX1_cutCount_32 ?_
    refine ne_iload X dX1_cutCount_33 rfl ?_
    refine ne_callS X nw_Tg (me_X1_roundedX l hl _ 9800000 _ _ _ (by omega) (by omega) (by omega) (by omega)) nw_yX1_rounded nw_mX1_84 nw_sX1_rounded dX1_cutCount_35 rfl rfl (by decide) (by decide) (by first | decide | omega) (by first | decide | omega) (Nat.le_of_ble_eq_true rfl) rfl rfl (Nat.le_of_ble_eq_true rfl) ?_ ?_
    rotate_left
    · rintro E9 w9 h9; exact h9.elim
    rintro v35 w35 ⟨rfl, z35, rfl, g35⟩
    exact ne_lret X hr dX1_cutCount_38 ⟨rfl, _, rfl, (by unfold ne_cv; (first | rw [if_pos b15] | rw [if_neg b15]); rw [← e5, ← g8, ← e31]; exact g35)⟩
set_option maxRecDepth 100000 in
set_option maxHeartbeats 4000000 in
theorem me_X1_isCutSoundZ (l : Launch) (hl : l.stackTraces = false) (c q t b k n h x y : Nat → Int) (T : Int) (hI : cI c q t b k n h x y T) (hT : 0 ≤ T ∧ T ≤ 1000000) (i : Int) (hi : 0 ≤ i ∧ i < 3) (hgb : (b i.toNat).tmod 2 ≠ 0 ∧ (b i.toNat).tmod 5 ≠ 0) : ne_M l nw_cl (.code yX1_isCutSound cX1_isCutSound 8 (some .boolean)) nw_T yX1_isCutSound 4 150 0 0 [.ref 0, ni i] (cW c q t b k n h x y) (fun v w => w = cW c q t b k n h x y ∧ ∃ z : Int, v = some (ni z) ∧ z = 1) (fun _ _ => False) := by
  refine ne_meet (own := RX1) hl rfl (by decide +kernel) (Nat.le_of_ble_eq_true rfl) ?_
  intro D ct A P9 V9 R9 S9 M9 as9 bl9 mt9 C9 ad0 X hr hin ht
  obtain ⟨Ic, Iq, It, Ib, Itb, Ik, In, Ih, Ix, Iy⟩ := hI
  have htb9 := Itb i.toNat
  have hb9 := Ib i.toNat
  have ht9 := It i.toNat
  have hn9 := In i.toNat
  refine ne_aload_n X dX1_isCutSound_0 rfl ?_
  refine ne_iload_n X dX1_isCutSound_1 rfl ?_
  refine ne_iconst X dX1_isCutSound_2 ?_
  refine ne_iconst X dX1_isCutSound_3 ?_
  refine ne_iconst X dX1_isCutSound_4 ?_
  refine ne_callV X nw_Tg (me_X1_cutCountY l hl c q t b k n h x y T (by exact ⟨Ic, Iq, It, Ib, Itb, Ik, In, Ih, Ix, Iy⟩) (by omega) _ _ _ _ (by omega) (by omega) (by omega) (by omega)) nw_yX1_cutCount nw_mX1_113 nw_iX1_cutCount nw_eX1_cutCount (ci := 3) rfl rfl rfl dX1_isCutSound_5 rfl rfl (by decide) (by decide) (by first | decide | omega) (by first | decide | omega) (Nat.le_of_ble_eq_true rfl) rfl rfl (Nat.le_of_ble_eq_true rfl) ?_ ?_
  rotate_left
  · rintro E9 w9 h9; exact h9.elim
  rintro v5 w5 ⟨rfl, z5, rfl, g5⟩
  obtain ⟨R5, b5, c5⟩ := n9_or7 (by decide) g5
  refine ne_lstore_n X dX1_isCutSound_8 rfl (by decide) ?_
  refine ne_aload_n X dX1_isCutSound_9 rfl ?_
  refine ne_iload_n X dX1_isCutSound_10 rfl ?_
  refine ne_iconst X dX1_isCutSound_11 ?_
  refine ne_iconst X dX1_isCutSound_12 ?_
  refine ne_iconst X dX1_isCutSound_13 ?_
  refine ne_callV X nw_Tg (me_X1_cutCountY l hl c q t b k n h x y T (by exact ⟨Ic, Iq, It, Ib, Itb, Ik, In, Ih, Ix, Iy⟩) (by omega) _ _ _ _ (by omega) (by omega) (by omega) (by omega)) nw_yX1_cutCount nw_mX1_113 nw_iX1_cutCount nw_eX1_cutCount (ci := 3) rfl rfl rfl dX1_isCutSound_14 rfl rfl (by decide) (by decide) (by first | decide | omega) (by first | decide | omega) (Nat.le_of_ble_eq_true rfl) rfl rfl (Nat.le_of_ble_eq_true rfl) ?_ ?_
  rotate_left
  · rintro E9 w9 h9; exact h9.elim
  rintro v14 w14 ⟨rfl, z14, rfl, g14⟩
  obtain ⟨R14, b14, c14⟩ := n9_or7 (by decide) g14
  have hC := n9_cut ht9.1 htb9 hb9.2 hgb.1 hgb.2 R5 R14
  refine ne_lstore X dX1_isCutSound_17 (by decide) ?_
  refine ne_ll (L' := [some (.ref 0), some (ni _), some (nl _), none, some (nl _), none, none, none]) rfl ?_
  refine ne_aload_n X dX1_isCutSound_19 rfl ?_
  refine ne_iload_n X dX1_isCutSound_20 rfl ?_
  refine ne_iconst X dX1_isCutSound_21 ?_
  refine ne_iconst X dX1_isCutSound_22 ?_
  refine ne_iconst X dX1_isCutSound_23 ?_
  refine ne_callV X nw_Tg (me_X1_cutCountY l hl c q t b k n h x y T (by exact ⟨Ic, Iq, It, Ib, Itb, Ik, In, Ih, Ix, Iy⟩) (by omega) _ _ _ _ (by omega) (by omega) (by omega) (by omega)) nw_yX1_cutCount nw_mX1_113 nw_iX1_cutCount nw_eX1_cutCount (ci := 3) rfl rfl rfl dX1_isCutSound_24 rfl rfl (by decide) (by decide) (by first | decide | omega) (by first | decide | omega) (Nat.le_of_ble_eq_true rfl) rfl rfl (Nat.le_of_ble_eq_true rfl) ?_ ?_
  rotate_left
  · rintro E9 w9 h9; exact h9.elim
  rintro v24 w24 ⟨rfl, z24, rfl, g24⟩
  obtain ⟨R24, b24, c24⟩ := n9_or7 (by decide) g24
  refine ne_lstore X dX1_isCutSound_27 (by decide) ?_
  refine ne_lload_n X dX1_isCutSound_29 rfl ?_
  refine ne_lload X dX1_isCutSound_30 rfl ?_
  refine ne_lsub X dX1_isCutSound_32 ?_
  refine ne_aload_n X dX1_isCutSound_33 rfl ?_
  refine ne_getf X dX1_isCutSound_34 nw_fX1_16 rfl rfl ?_
  refine ne_iload_n X dX1_isCutSound_37 rfl ?_
  refine ne_ialdR X dX1_isCutSound_38 rfl (by omega) It (fun v38 e38 f38 u38 => ?_)
  refine ne_if_ne (tgt := 46) X dX1_isCutSound_39 rfl (by omega) (fun b39 => ?_) (fun b39 => ?_)
  · refine ne_iconst X dX1_isCutSound_46 ?_
    refine ne_i2l (by omega) X dX1_isCutSound_47 ?_
    refine ne_lcif_ne (tgt := 85) X dX1_isCutSound_48 dX1_isCutSound_49 rfl (by omega) (by omega) (fun b49 => ?_) (fun b49 => ?_)
    · exfalso; omega
    · refine ne_lload X dX1_isCutSound_52 rfl ?_
      refine ne_aload_n X dX1_isCutSound_54 rfl ?_
      refine ne_iload_n X dX1_isCutSound_55 rfl ?_
      refine ne_iconst X dX1_isCutSound_56 ?_
      refine ne_iconst X dX1_isCutSound_57 ?_
      refine ne_iconst X dX1_isCutSound_58 ?_
      refine ne_callV X nw_Tg (me_X1_cutCountY l hl c q t b k n h x y T (by exact ⟨Ic, Iq, It, Ib, Itb, Ik, In, Ih, Ix, Iy⟩) (by omega) _ _ _ _ (by omega) (by omega) (by omega) (by omega)) nw_yX1_cutCount nw_mX1_113 nw_iX1_cutCount nw_eX1_cutCount (ci := 3) rfl rfl rfl dX1_isCutSound_59 rfl rfl (by decide) (by decide) (by first | decide | omega) (by first | decide | omega) (Nat.le_of_ble_eq_true rfl) rfl rfl (Nat.le_of_ble_eq_true rfl) ?_ ?_
      rotate_left
      · rintro E9 w9 h9; exact h9.elim
      rintro v59 w59 ⟨rfl, z59, rfl, g59⟩
      obtain ⟨R59, b59, c59⟩ := n9_or7 (by decide) g59
      have h59 := n9_cutE hb9.1 hgb.1 (by omega) (by omega) R24 R59
      refine ne_lcif_ne (tgt := 85) X dX1_isCutSound_62 dX1_isCutSound_63 rfl (by omega) (by omega) (fun b63 => ?_) (fun b63 => ?_)
      · exfalso; omega
      · refine ne_lload X dX1_isCutSound_66 rfl ?_
        refine ne_aload_n X dX1_isCutSound_68 rfl ?_
        refine ne_iload_n X dX1_isCutSound_69 rfl ?_
        refine ne_iconst X dX1_isCutSound_70 ?_
        refine ne_iconst X dX1_isCutSound_71 ?_
        refine ne_bipush (v := 6) (by decide) X dX1_isCutSound_72 ?_
        refine ne_callV X nw_Tg (me_X1_cutCountY l hl c q t b k n h x y T (by exact ⟨Ic, Iq, It, Ib, Itb, Ik, In, Ih, Ix, Iy⟩) (by omega) _ _ _ _ (by omega) (by omega) (by omega) (by omega)) nw_yX1_cutCount nw_mX1_113 nw_iX1_cutCount nw_eX1_cutCount (ci := 3) rfl rfl rfl dX1_isCutSound_74 rfl rfl (by decide) (by decide) (by first | decide | omega) (by first | decide | omega) (Nat.le_of_ble_eq_true rfl) rfl rfl (Nat.le_of_ble_eq_true rfl) ?_ ?_
        rotate_left
        · rintro E9 w9 h9; exact h9.elim
        rintro v74 w74 ⟨rfl, z74, rfl, g74⟩
        obtain ⟨R74, b74, c74⟩ := n9_or7 (by decide) g74
        have h74 := n9_cutE hb9.1 hgb.1 (by omega) (by omega) R24 R74
        refine ne_lcif_ne (tgt := 85) X dX1_isCutSound_77 dX1_isCutSound_78 rfl (by omega) (by omega) (fun b78 => ?_) (fun b78 => ?_)
        · exfalso; omega
        · refine ne_iconst X dX1_isCutSound_81 ?_
          refine ne_goto (tgt := 86) X dX1_isCutSound_82 rfl ?_
          exact ne_iret X hr (by first | rfl | decide | rfl) dX1_isCutSound_86 ⟨rfl, _, rfl, rfl⟩
  · refine ne_iconst X dX1_isCutSound_42 ?_
    refine ne_goto (tgt := 47) X dX1_isCutSound_43 rfl ?_
    refine ne_i2l (by omega) X dX1_isCutSound_47 ?_
    refine ne_lcif_ne (tgt := 85) X dX1_isCutSound_48 dX1_isCutSound_49 rfl (by omega) (by omega) (fun b49 => ?_) (fun b49 => ?_)
    · exfalso; omega
    · refine ne_lload X dX1_isCutSound_52 rfl ?_
      refine ne_aload_n X dX1_isCutSound_54 rfl ?_
      refine ne_iload_n X dX1_isCutSound_55 rfl ?_
      refine ne_iconst X dX1_isCutSound_56 ?_
      refine ne_iconst X dX1_isCutSound_57 ?_
      refine ne_iconst X dX1_isCutSound_58 ?_
      refine ne_callV X nw_Tg (me_X1_cutCountY l hl c q t b k n h x y T (by exact ⟨Ic, Iq, It, Ib, Itb, Ik, In, Ih, Ix, Iy⟩) (by omega) _ _ _ _ (by omega) (by omega) (by omega) (by omega)) nw_yX1_cutCount nw_mX1_113 nw_iX1_cutCount nw_eX1_cutCount (ci := 3) rfl rfl rfl dX1_isCutSound_59 rfl rfl (by decide) (by decide) (by first | decide | omega) (by first | decide | omega) (Nat.le_of_ble_eq_true rfl) rfl rfl (Nat.le_of_ble_eq_true rfl) ?_ ?_
      rotate_left
      · rintro E9 w9 h9; exact h9.elim
      rintro v59 w59 ⟨rfl, z59, rfl, g59⟩
      obtain ⟨R59, b59, c59⟩ := n9_or7 (by decide) g59
      have h59 := n9_cutE hb9.1 hgb.1 (by omega) (by omega) R24 R59
      refine ne_lcif_ne (tgt := 85) X dX1_isCutSound_62 dX1_isCutSound_63 rfl (by omega) (by omega) (fun b63 => ?_) (fun b63 => ?_)
      · exfalso; omega
      · refine ne_lload X dX1_isCutSound_66 rfl ?_
        refine ne_aload_n X dX1_isCutSound_68 rfl ?_
        refine ne_iload_n X dX1_isCutSound_69 rfl ?_
        refine ne_iconst X dX1_isCutSound_70 ?_
        refine ne_iconst X dX1_isCutSound_71 ?_
        refine ne_bipush (v := 6) (by decide) X dX1_isCutSound_72 ?_
        refine ne_callV X nw_Tg (me_X1_cutCountY l hl c q t b k n h x y T (by exact ⟨Ic, Iq, It, Ib, Itb, Ik, In, Ih, Ix, Iy⟩) (by omega) _ _ _ _ (by omega) (by omega) (by omega) (by omega)) nw_yX1_cutCount nw_mX1_113 nw_iX1_cutCount nw_eX1_cutCount (ci := 3) rfl rfl rfl dX1_isCutSound_74 rfl rfl (by decide) (by decide) (by first | decide | omega) (by first | decide | omega) (Nat.le_of_ble_eq_true rfl) rfl rfl (Nat.le_of_ble_eq_true rfl) ?_ ?_
        rotate_left
        · rintro E9 w9 h9; exact h9.elim
        rintro v74 w74 ⟨rfl, z74, rfl, g74⟩
        obtain ⟨R74, b74, c74⟩ := n9_or7 (by decide) g74
        have h74 := n9_cutE hb9.1 hgb.1 (by omega) (by omega) R24 R74
        refine ne_lcif_ne (tgt := 85) X dX1_isCutSound_77 dX1_isCutSound_78 rfl (by omega) (by omega) (fun b78 => ?_) (fun b78 => ?_)
        · exfalso; omega
        · refine ne_iconst X dX1_isCutSound_81 ?_
          refine ne_goto (tgt := 86) X dX1_isCutSound_82 rfl ?_
          exact ne_iret X hr (by first | rfl | decide | rfl) dX1_isCutSound_86 ⟨rfl, _, rfl, rfl⟩
set_option maxRecDepth 100000 in
set_option maxHeartbeats 4000000 in
theorem me_X1_isSoundZ (l : Launch) (hl : l.stackTraces = false) (c q t b k n h x y : Nat → Int) (T : Int) (hI : cI c q t b k n h x y T) (hT : 0 ≤ T ∧ T ≤ 1000000) (hP : ∀ j : Nat, ne_per (t j) (b j) (n j)) (hG : ∀ j : Nat, (b j).tmod 2 ≠ 0 ∧ (b j).tmod 5 ≠ 0) : ne_M l nw_cl (.code yX1_isSound cX1_isSound 2 (some .boolean)) nw_T yX1_isSound 6 260 0 0 [.ref 0] (cW c q t b k n h x y) (fun v w => ∃ x1 y1, w = cW c q t b k n h x1 y1 ∧ ne_rg x1 0 9 ∧ ne_rg y1 0 9 ∧ ∃ z : Int, v = some (ni z) ∧ z = 1) (fun _ _ => False) := by
  refine ne_meet (own := RX1) hl rfl (by decide +kernel) (Nat.le_of_ble_eq_true rfl) ?_
  intro D ct A P9 V9 R9 S9 M9 as9 bl9 mt9 C9 ad0 X hr hin ht
  obtain ⟨Ic, Iq, It, Ib, Itb, Ik, In, Ih, Ix, Iy⟩ := hI
  have lp44 : ∀ (n9 : Nat) (x1 y1 : Nat → Int) (j : Int), (3 - j).toNat < n9 → (0 ≤ j) → (j ≤ 3) → (ne_rg x1 0 9) → (ne_rg y1 0 9) → ne_G nw_cl D ct A 12 ad0 P9 l V9 R9 S9 M9 as9 bl9 mt9 C9 (ne_O nw_cl D ct ad0 12 A bl9 as9 S9 0 0 (fun v w => ∃ x1 y1, w = cW c q t b k n h x1 y1 ∧ ne_rg x1 0 9 ∧ ne_rg y1 0 9 ∧ ∃ z : Int, v = some (ni z) ∧ z = 1) (fun _ _ => False)) 2 0 0 0 0 44 [some (.ref 0), some (ni j)] [] (cW c q t b k n h x1 y1) := by
    intro n9
    induction n9 with
    | zero => intro x1 y1 j hm9 q1 q2 Ix Iy; exfalso; omega
    | succ n9 ih =>
      intro x1 y1 j hm9 q1 q2 Ix Iy
      refine ne_iload_n X dX1_isSound_44 rfl ?_
      refine ne_iconst X dX1_isSound_45 ?_
      refine ne_icmp_ge (tgt := 81) X dX1_isSound_46 rfl (by omega) (by omega) (fun b46 => ?_) (fun b46 => ?_)
      · refine ne_iconst X dX1_isSound_81 ?_
        exact ne_iret X hr (by first | rfl | decide | rfl) dX1_isSound_82 ⟨_, _, rfl, Ix, Iy, _, rfl, rfl⟩
      · refine ne_aload_n X dX1_isSound_49 rfl ?_
        refine ne_iload_n X dX1_isSound_50 rfl ?_
        refine ne_callV X nw_Tg (me_X1_isLengthSoundZ l hl c q t b k n h x1 y1 T (by exact ⟨Ic, Iq, It, Ib, Itb, Ik, In, Ih, Ix, Iy⟩) (by omega) _ (by omega) (hP _)) nw_yX1_isLengthSound nw_mX1_206 nw_iX1_isLengthSound nw_eX1_isLengthSound (ci := 3) rfl rfl rfl dX1_isSound_51 rfl rfl (by decide) (by decide) (by first | decide | omega) (by first | decide | omega) (Nat.le_of_ble_eq_true rfl) rfl rfl (Nat.le_of_ble_eq_true rfl) ?_ ?_
        rotate_left
        · rintro E9 w9 h9; exact h9.elim
        rintro v51 w51 ⟨rfl, z51, rfl, g51⟩
        refine ne_if_eq (tgt := 73) X dX1_isSound_54 rfl (by omega) (fun b54 => ?_) (fun b54 => ?_)
        · exfalso; omega
        · refine ne_aload_n X dX1_isSound_57 rfl ?_
          refine ne_iload_n X dX1_isSound_58 rfl ?_
          refine ne_callV X nw_Tg (me_X1_isProductSoundZ l hl c q t b k n h x1 y1 T (by exact ⟨Ic, Iq, It, Ib, Itb, Ik, In, Ih, Ix, Iy⟩) (by omega) _ (by omega) (hP _)) nw_yX1_isProductSound nw_mX1_209 nw_iX1_isProductSound nw_eX1_isProductSound (ci := 3) rfl rfl rfl dX1_isSound_59 rfl rfl (by decide) (by decide) (by first | decide | omega) (by first | decide | omega) (Nat.le_of_ble_eq_true rfl) rfl rfl (Nat.le_of_ble_eq_true rfl) ?_ ?_
          rotate_left
          · rintro E9 w9 h9; exact h9.elim
          rintro v59 w59 ⟨x59, y59, rfl, Ix, Iy, z59, rfl, g59⟩
          refine ne_if_eq (tgt := 73) X dX1_isSound_62 rfl (by omega) (fun b62 => ?_) (fun b62 => ?_)
          · exfalso; omega
          · refine ne_aload_n X dX1_isSound_65 rfl ?_
            refine ne_iload_n X dX1_isSound_66 rfl ?_
            refine ne_callV X nw_Tg (me_X1_isCutSoundZ l hl c q t b k n h x59 y59 T (by exact ⟨Ic, Iq, It, Ib, Itb, Ik, In, Ih, Ix, Iy⟩) (by omega) _ (by omega) (hG _)) nw_yX1_isCutSound nw_mX1_212 nw_iX1_isCutSound nw_eX1_isCutSound (ci := 3) rfl rfl rfl dX1_isSound_67 rfl rfl (by decide) (by decide) (by first | decide | omega) (by first | decide | omega) (Nat.le_of_ble_eq_true rfl) rfl rfl (Nat.le_of_ble_eq_true rfl) ?_ ?_
            rotate_left
            · rintro E9 w9 h9; exact h9.elim
            rintro v67 w67 ⟨rfl, z67, rfl, g67⟩
            refine ne_if_ne (tgt := 75) X dX1_isSound_70 rfl (by omega) (fun b70 => ?_) (fun b70 => ?_)
            · refine ne_iinc X dX1_isSound_75 rfl (by decide) ?_
              refine ne_goto (tgt := 44) X dX1_isSound_78 rfl ?_
              exact ih _ _ _ (by omega) (by omega) (by omega) Ix Iy
            · exfalso; omega
  have lp2 : ∀ (n9 : Nat) (j : Int), (4 - j).toNat < n9 → (0 ≤ j) → (j ≤ 4) → ne_G nw_cl D ct A 12 ad0 P9 l V9 R9 S9 M9 as9 bl9 mt9 C9 (ne_O nw_cl D ct ad0 12 A bl9 as9 S9 0 0 (fun v w => ∃ x1 y1, w = cW c q t b k n h x1 y1 ∧ ne_rg x1 0 9 ∧ ne_rg y1 0 9 ∧ ∃ z : Int, v = some (ni z) ∧ z = 1) (fun _ _ => False)) 2 0 0 0 0 2 [some (.ref 0), some (ni j)] [] (cW c q t b k n h x y) := by
    intro n9
    induction n9 with
    | zero => intro j hm9 q1 q2; exfalso; omega
    | succ n9 ih =>
      intro j hm9 q1 q2
      refine ne_iload_n X dX1_isSound_2 rfl ?_
      refine ne_iconst X dX1_isSound_3 ?_
      refine ne_icmp_ge (tgt := 42) X dX1_isSound_4 rfl (by omega) (by omega) (fun b4 => ?_) (fun b4 => ?_)
      · refine ne_iconst X dX1_isSound_42 ?_
        refine ne_istore_n X dX1_isSound_43 rfl (by decide) ?_
        exact lp44 _ _ _ 0 (Nat.lt_succ_self _) (by omega) (by omega) Ix Iy
      · refine ne_aload_n X dX1_isSound_7 rfl ?_
        refine ne_getf X dX1_isSound_8 nw_fX1_9 rfl rfl ?_
        refine ne_iload_n X dX1_isSound_11 rfl ?_
        refine ne_ialdR X dX1_isSound_12 rfl (by omega) Ic (fun v12 e12 f12 u12 => ?_)
        refine ne_i2l (by omega) X dX1_isSound_13 ?_
        refine ne_aload_n X dX1_isSound_14 rfl ?_
        refine ne_getf X dX1_isSound_15 nw_fX1_13 rfl rfl ?_
        refine ne_iload_n X dX1_isSound_18 rfl ?_
        refine ne_ialdR X dX1_isSound_19 rfl (by omega) Iq (fun v19 e19 f19 u19 => ?_)
        refine ne_callS X nw_Tg (me_X1_fits l hl _ _ _ (by omega) (by omega)) nw_yX1_fits nw_mX1_198 nw_sX1_fits dX1_isSound_20 rfl rfl (by decide) (by decide) (by first | decide | omega) (by first | decide | omega) (Nat.le_of_ble_eq_true rfl) rfl rfl (Nat.le_of_ble_eq_true rfl) ?_ ?_
        rotate_left
        · rintro E9 w9 h9; exact h9.elim
        rintro v20 w20 ⟨rfl, z20, rfl, g20⟩
        refine ne_if_eq (tgt := 34) X dX1_isSound_23 rfl (by omega) (fun b23 => ?_) (fun b23 => ?_)
        · exfalso; omega
        · refine ne_aload_n X dX1_isSound_26 rfl ?_
          refine ne_iload_n X dX1_isSound_27 rfl ?_
          refine ne_callV X nw_Tg (me_X1_isCellSoundWithAllZ l hl c q t b k n h x y T (by exact ⟨Ic, Iq, It, Ib, Itb, Ik, In, Ih, Ix, Iy⟩) (by omega) _ (by omega)) nw_yX1_isCellSoundWithAll nw_mX1_202 nw_iX1_isCellSoundWithAll nw_eX1_isCellSoundWithAll (ci := 3) rfl rfl rfl dX1_isSound_28 rfl rfl (by decide) (by decide) (by first | decide | omega) (by first | decide | omega) (Nat.le_of_ble_eq_true rfl) rfl rfl (Nat.le_of_ble_eq_true rfl) ?_ ?_
          rotate_left
          · rintro E9 w9 h9; exact h9.elim
          rintro v28 w28 ⟨rfl, z28, rfl, g28⟩
          refine ne_if_ne (tgt := 36) X dX1_isSound_31 rfl (by omega) (fun b31 => ?_) (fun b31 => ?_)
          · refine ne_iinc X dX1_isSound_36 rfl (by decide) ?_
            refine ne_goto (tgt := 2) X dX1_isSound_39 rfl ?_
            exact ih _ (by omega) (by omega) (by omega)
          · exfalso; omega
  refine ne_iconst X dX1_isSound_0 ?_
  refine ne_istore_n X dX1_isSound_1 rfl (by decide) ?_
  exact lp2 _ 0 (Nat.lt_succ_self _) (by omega) (by omega)
