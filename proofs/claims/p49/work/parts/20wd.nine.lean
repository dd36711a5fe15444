set_option maxRecDepth 100000 in
set_option maxHeartbeats 4000000 in
theorem me_X0_clear_xZ (l : Launch) (hl : l.stackTraces = false) (c q t b k n h x y : Nat → Int) (hx : ne_rg x 0 9) : ne_M l nw_cl (.code yX0_clear cX0_clear 2 (none)) nw_T yX0_clear 0 0 0 0 [.ref 8] (cW c q t b k n h x y) (fun v w => v = none ∧ ∃ x1, w = cW c q t b k n h x1 y ∧ ne_rg x1 0 9 ∧ (∀ m : Nat, m < 98 → x1 m = 0)) (fun _ _ => False) := by
  refine ne_meet (own := RX0) hl rfl (by decide +kernel) (Nat.le_of_ble_eq_true rfl) ?_
  intro D ct A P9 V9 R9 S9 M9 as9 bl9 mt9 C9 ad0 X hr hin ht
  have Ix := hx
  have lp2 : ∀ (n9 : Nat) (x1 : Nat → Int) (j : Int), (98 - j).toNat < n9 → (0 ≤ j) → (j ≤ 98) → (ne_rg x1 0 9) → (∀ m : Nat, (m : Int) < j → x1 m = 0) → ne_G nw_cl D ct A 12 ad0 P9 l V9 R9 S9 M9 as9 bl9 mt9 C9 (ne_O nw_cl D ct ad0 12 A bl9 as9 S9 0 0 (fun v w => v = none ∧ ∃ x1, w = cW c q t b k n h x1 y ∧ ne_rg x1 0 9 ∧ (∀ m : Nat, m < 98 → x1 m = 0)) (fun _ _ => False)) 2 0 0 0 0 2 [some (.ref 8), some (ni j)] [] (cW c q t b k n h x1 y) := by
    intro n9
    induction n9 with
    | zero => intro x1 j hm9 q1 q2 Ix q7; exfalso; omega
    | succ n9 ih =>
      intro x1 j hm9 q1 q2 Ix q7
      refine ne_iload_n X dX0_clear_2 rfl ?_
      refine ne_bipush (v := 98) (by decide) X dX0_clear_3 ?_
      refine ne_icmp_ge (tgt := 21) X dX0_clear_5 rfl (by omega) (by omega) (fun b5 => ?_) (fun b5 => ?_)
      · exact ne_vret X hr dX0_clear_21 ⟨rfl, _, rfl, Ix, fun m hm => q7 m (by omega)⟩
      · refine ne_aload_n X dX0_clear_8 rfl ?_
        refine ne_getf X dX0_clear_9 nw_fX0_9 rfl rfl ?_
        refine ne_iload_n X dX0_clear_12 rfl ?_
        refine ne_iconst X dX0_clear_13 ?_
        refine ne_iastR X dX0_clear_14 rfl (by omega) (ne_rg_mono Ix (by omega) (by omega)) (a := 0) (b := 9) (by omega) (fun x14 hx14 Ix => ?_)
        refine ne_ws (ws' := cW c q t b k n h x14 y) rfl ?_
        refine ne_iinc X dX0_clear_15 rfl (by decide) ?_
        refine ne_goto (tgt := 2) X dX0_clear_18 rfl ?_
        have q8 : ∀ m : Nat, (m : Int) < j + 1 → x14 m = 0 := fun m hm => by
                                            rcases n9_upI (m := m) hx14 with ⟨e1, e2⟩ | ⟨e1, e2⟩
                                            · exact e2
                                            · rw [e2]; exact q7 m (by omega)
        exact ih _ _ (by omega) (by omega) (by omega) Ix q8
  refine ne_iconst X dX0_clear_0 ?_
  refine ne_istore_n X dX0_clear_1 rfl (by decide) ?_
  exact lp2 _ x 0 (Nat.lt_succ_self _) (by omega) (by omega) Ix (fun m hm => by omega)
set_option maxRecDepth 100000 in
set_option maxHeartbeats 4000000 in
theorem me_X0_carry_xZ (l : Launch) (hl : l.stackTraces = false) (c q t b k n h x y : Nat → Int) (B : Int) (hx : ne_rg x 0 B) (hB : 9 ≤ B ∧ B ≤ 100000) (h9 : ∀ m : Nat, 98 ≤ m → x m ≤ 9) : ne_M l nw_cl (.code yX0_carry cX0_carry 4 (none)) nw_T yX0_carry 0 0 0 0 [.ref 8] (cW c q t b k n h x y) (fun v w => v = none ∧ ∃ x1, w = cW c q t b k n h x1 y ∧ ne_rg x1 0 9 ∧ (∀ m : Nat, m < 98 → x1 m = n9_cd x m)) (fun _ _ => False) := by
  refine ne_meet (own := RX0) hl rfl (by decide +kernel) (Nat.le_of_ble_eq_true rfl) ?_
  intro D ct A P9 V9 R9 S9 M9 as9 bl9 mt9 C9 ad0 X hr hin ht
  have Ix := hx
  have hN : ∀ e9 : Nat, 0 ≤ x e9 := fun e9 => (hx e9).1
  have lp4 : ∀ (n9 : Nat) (x1 : Nat → Int) (ov j : Int), (98 - j).toNat < n9 → (0 ≤ j) → (j ≤ 98) → (ov = n9_cy x j.toNat) → (0 ≤ ov ∧ ov ≤ 20000) → (ne_rg x1 0 B) → (∀ m : Nat, (m : Int) < j → x1 m ≤ 9) → (∀ m : Nat, 98 ≤ m → x1 m ≤ 9) → (∀ m : Nat, (m : Int) < j → x1 m = n9_cd x m) → (∀ m : Nat, j ≤ (m : Int) → x1 m = x m) → ne_G nw_cl D ct A 12 ad0 P9 l V9 R9 S9 M9 as9 bl9 mt9 C9 (ne_O nw_cl D ct ad0 12 A bl9 as9 S9 0 0 (fun v w => v = none ∧ ∃ x1, w = cW c q t b k n h x1 y ∧ ne_rg x1 0 9 ∧ (∀ m : Nat, m < 98 → x1 m = n9_cd x m)) (fun _ _ => False)) 4 0 0 0 0 4 [some (.ref 8), some (ni ov), some (ni j), none] [] (cW c q t b k n h x1 y) := by
    intro n9
    induction n9 with
    | zero => intro x1 ov j hm9 q1 q2 q3 q4 Ix q5 q6 q7 q8; exfalso; omega
    | succ n9 ih =>
      intro x1 ov j hm9 q1 q2 q3 q4 Ix q5 q6 q7 q8
      refine ne_iload_n X dX0_carry_4 rfl ?_
      refine ne_bipush (v := 98) (by decide) X dX0_carry_5 ?_
      refine ne_icmp_ge (tgt := 40) X dX0_carry_7 rfl (by omega) (by omega) (fun b7 => ?_) (fun b7 => ?_)
      · exact ne_vret X hr dX0_carry_40 ⟨rfl, _, rfl, (fun m => ⟨(Ix m).1, if hm : m < 98 then q5 m (by omega) else q6 m (by omega)⟩), fun m hm => q7 m (by omega)⟩
      · refine ne_aload_n X dX0_carry_10 rfl ?_
        refine ne_getf X dX0_carry_11 nw_fX0_9 rfl rfl ?_
        refine ne_iload_n X dX0_carry_14 rfl ?_
        refine ne_ialdR X dX0_carry_15 rfl (by omega) Ix (fun v15 e15 f15 u15 => ?_)
        have t16 := f15
        refine ne_iload_n X dX0_carry_16 rfl ?_
        refine ne_iadd X dX0_carry_17 ?_
        refine ne_istore_n X dX0_carry_18 rfl (by decide) ?_
        refine ne_aload_n X dX0_carry_19 rfl ?_
        refine ne_getf X dX0_carry_20 nw_fX0_9 rfl rfl ?_
        refine ne_iload_n X dX0_carry_23 rfl ?_
        refine ne_iload_n X dX0_carry_24 rfl ?_
        have t25 := ne_t10 (v15 + ov) (by omega)
        have k0 : v15 = x j.toNat := e15.trans (q8 j.toNat (by omega))
        have k1 := n9_cyT hN j.toNat
        rw [← k0, ← q3] at k1
        refine ne_bipush (v := 10) (by decide) X dX0_carry_25 ?_
        refine ne_irem X dX0_carry_27 (by omega) (by omega) (by omega) ?_
        refine ne_iastR X dX0_carry_28 rfl (by omega) (ne_rg_mono Ix (by omega) (by omega)) (a := 0) (b := B) (by omega) (fun x28 hx28 Ix => ?_)
        refine ne_ws (ws' := cW c q t b k n h x28 y) rfl ?_
        refine ne_iload_n X dX0_carry_29 rfl ?_
        refine ne_bipush (v := 10) (by decide) X dX0_carry_30 ?_
        refine ne_idiv X dX0_carry_32 (by omega) (by omega) (by omega) ?_
        refine ne_istore_n X dX0_carry_33 rfl (by decide) ?_
        refine ne_ll (L' := [some (.ref 8), some (ni _), some (ni _), some (ni _)]) rfl ?_
        refine ne_iinc X dX0_carry_34 rfl (by decide) ?_
        refine ne_goto (tgt := 4) X dX0_carry_37 rfl ?_
        refine ne_lnone 3 ?_
        have k7 : ∀ m : Nat, (m : Int) < j + 1 → x28 m = n9_cd x m := fun m hm => by
                                            rcases n9_upI (m := m) hx28 with ⟨rfl, e2⟩ | ⟨e1, e2⟩
                                            · exact e2.trans k1.2
                                            · rw [e2]; exact q7 m (by omega)
        exact ih _ _ _ (by omega) (by omega) (by omega) (by rw [show (j + 1).toNat = j.toNat + 1 by omega]; exact k1.1) (by omega) Ix (fun m hm => by rw [hx28]; unfold va_up; split <;> first | omega | exact q5 m (by omega)) (fun m hm => by rw [hx28, va_up_ne _ _ (by omega)]; exact q6 m hm) k7 (fun m hm => by rw [hx28, va_up_ne _ _ (by omega)]; exact q8 m (by omega))
  refine ne_iconst X dX0_carry_0 ?_
  refine ne_istore_n X dX0_carry_1 rfl (by decide) ?_
  refine ne_iconst X dX0_carry_2 ?_
  refine ne_istore_n X dX0_carry_3 rfl (by decide) ?_
  refine ne_ll (L' := [some (.ref 8), some (ni _), some (ni _), none]) rfl ?_
  exact lp4 _ x 0 0 (Nat.lt_succ_self _) (by omega) (by omega) rfl (by omega) Ix (fun m hm => by omega) h9 (fun m hm => by omega) (fun m hm => rfl)
set_option maxRecDepth 100000 in
set_option maxHeartbeats 4000000 in
theorem me_X0_clear_yZ (l : Launch) (hl : l.stackTraces = false) (c q t b k n h x y : Nat → Int) (hy : ne_rg y 0 9) : ne_M l nw_cl (.code yX0_clear cX0_clear 2 (none)) nw_T yX0_clear 0 0 0 0 [.ref 9] (cW c q t b k n h x y) (fun v w => v = none ∧ ∃ y1, w = cW c q t b k n h x y1 ∧ ne_rg y1 0 9 ∧ (∀ m : Nat, m < 98 → y1 m = 0)) (fun _ _ => False) := by
  refine ne_meet (own := RX0) hl rfl (by decide +kernel) (Nat.le_of_ble_eq_true rfl) ?_
  intro D ct A P9 V9 R9 S9 M9 as9 bl9 mt9 C9 ad0 X hr hin ht
  have Iy := hy
  have lp2 : ∀ (n9 : Nat) (y1 : Nat → Int) (j : Int), (98 - j).toNat < n9 → (0 ≤ j) → (j ≤ 98) → (ne_rg y1 0 9) → (∀ m : Nat, (m : Int) < j → y1 m = 0) → ne_G nw_cl D ct A 12 ad0 P9 l V9 R9 S9 M9 as9 bl9 mt9 C9 (ne_O nw_cl D ct ad0 12 A bl9 as9 S9 0 0 (fun v w => v = none ∧ ∃ y1, w = cW c q t b k n h x y1 ∧ ne_rg y1 0 9 ∧ (∀ m : Nat, m < 98 → y1 m = 0)) (fun _ _ => False)) 2 0 0 0 0 2 [some (.ref 9), some (ni j)] [] (cW c q t b k n h x y1) := by
    intro n9
    induction n9 with
    | zero => intro y1 j hm9 q1 q2 Iy q7; exfalso; omega
    | succ n9 ih =>
      intro y1 j hm9 q1 q2 Iy q7
      refine ne_iload_n X dX0_clear_2 rfl ?_
      refine ne_bipush (v := 98) (by decide) X dX0_clear_3 ?_
      refine ne_icmp_ge (tgt := 21) X dX0_clear_5 rfl (by omega) (by omega) (fun b5 => ?_) (fun b5 => ?_)
      · exact ne_vret X hr dX0_clear_21 ⟨rfl, _, rfl, Iy, fun m hm => q7 m (by omega)⟩
      · refine ne_aload_n X dX0_clear_8 rfl ?_
        refine ne_getf X dX0_clear_9 nw_fX0_9 rfl rfl ?_
        refine ne_iload_n X dX0_clear_12 rfl ?_
        refine ne_iconst X dX0_clear_13 ?_
        refine ne_iastR X dX0_clear_14 rfl (by omega) (ne_rg_mono Iy (by omega) (by omega)) (a := 0) (b := 9) (by omega) (fun y14 hy14 Iy => ?_)
        refine ne_ws (ws' := cW c q t b k n h x y14) rfl ?_
        refine ne_iinc X dX0_clear_15 rfl (by decide) ?_
        refine ne_goto (tgt := 2) X dX0_clear_18 rfl ?_
        have q8 : ∀ m : Nat, (m : Int) < j + 1 → y14 m = 0 := fun m hm => by
                                            rcases n9_upI (m := m) hy14 with ⟨e1, e2⟩ | ⟨e1, e2⟩
                                            · exact e2
                                            · rw [e2]; exact q7 m (by omega)
        exact ih _ _ (by omega) (by omega) (by omega) Iy q8
  refine ne_iconst X dX0_clear_0 ?_
  refine ne_istore_n X dX0_clear_1 rfl (by decide) ?_
  exact lp2 _ y 0 (Nat.lt_succ_self _) (by omega) (by omega) Iy (fun m hm => by omega)
set_option maxRecDepth 100000 in
set_option maxHeartbeats 4000000 in
theorem me_X0_carry_yZ (l : Launch) (hl : l.stackTraces = false) (c q t b k n h x y : Nat → Int) (B : Int) (hy : ne_rg y 0 B) (hB : 9 ≤ B ∧ B ≤ 100000) (h9 : ∀ m : Nat, 98 ≤ m → y m ≤ 9) : ne_M l nw_cl (.code yX0_carry cX0_carry 4 (none)) nw_T yX0_carry 0 0 0 0 [.ref 9] (cW c q t b k n h x y) (fun v w => v = none ∧ ∃ y1, w = cW c q t b k n h x y1 ∧ ne_rg y1 0 9 ∧ (∀ m : Nat, m < 98 → y1 m = n9_cd y m)) (fun _ _ => False) := by
  refine ne_meet (own := RX0) hl rfl (by decide +kernel) (Nat.le_of_ble_eq_true rfl) ?_
  intro D ct A P9 V9 R9 S9 M9 as9 bl9 mt9 C9 ad0 X hr hin ht
  have Iy := hy
  have hN : ∀ e9 : Nat, 0 ≤ y e9 := fun e9 => (hy e9).1
  have lp4 : ∀ (n9 : Nat) (y1 : Nat → Int) (ov j : Int), (98 - j).toNat < n9 → (0 ≤ j) → (j ≤ 98) → (ov = n9_cy y j.toNat) → (0 ≤ ov ∧ ov ≤ 20000) → (ne_rg y1 0 B) → (∀ m : Nat, (m : Int) < j → y1 m ≤ 9) → (∀ m : Nat, 98 ≤ m → y1 m ≤ 9) → (∀ m : Nat, (m : Int) < j → y1 m = n9_cd y m) → (∀ m : Nat, j ≤ (m : Int) → y1 m = y m) → ne_G nw_cl D ct A 12 ad0 P9 l V9 R9 S9 M9 as9 bl9 mt9 C9 (ne_O nw_cl D ct ad0 12 A bl9 as9 S9 0 0 (fun v w => v = none ∧ ∃ y1, w = cW c q t b k n h x y1 ∧ ne_rg y1 0 9 ∧ (∀ m : Nat, m < 98 → y1 m = n9_cd y m)) (fun _ _ => False)) 4 0 0 0 0 4 [some (.ref 9), some (ni ov), some (ni j), none] [] (cW c q t b k n h x y1) := by
    intro n9
    induction n9 with
    | zero => intro y1 ov j hm9 q1 q2 q3 q4 Iy q5 q6 q7 q8; exfalso; omega
    | succ n9 ih =>
      intro y1 ov j hm9 q1 q2 q3 q4 Iy q5 q6 q7 q8
      refine ne_iload_n X dX0_carry_4 rfl ?_
      refine ne_bipush (v := 98) (by decide) X dX0_carry_5 ?_
      refine ne_icmp_ge (tgt := 40) X dX0_carry_7 rfl (by omega) (by omega) (fun b7 => ?_) (fun b7 => ?_)
      · exact ne_vret X hr dX0_carry_40 ⟨rfl, _, rfl, (fun m => ⟨(Iy m).1, if hm : m < 98 then q5 m (by omega) else q6 m (by omega)⟩), fun m hm => q7 m (by omega)⟩
      · refine ne_aload_n X dX0_carry_10 rfl ?_
        refine ne_getf X dX0_carry_11 nw_fX0_9 rfl rfl ?_
        refine ne_iload_n X dX0_carry_14 rfl ?_
        refine ne_ialdR X dX0_carry_15 rfl (by omega) Iy (fun v15 e15 f15 u15 => ?_)
        have t16 := f15
        refine ne_iload_n X dX0_carry_16 rfl ?_
        refine ne_iadd X dX0_carry_17 ?_
        refine ne_istore_n X dX0_carry_18 rfl (by decide) ?_
        refine ne_aload_n X dX0_carry_19 rfl ?_
        refine ne_getf X dX0_carry_20 nw_fX0_9 rfl rfl ?_
        refine ne_iload_n X dX0_carry_23 rfl ?_
        refine ne_iload_n X dX0_carry_24 rfl ?_
        have t25 := ne_t10 (v15 + ov) (by omega)
        have k0 : v15 = y j.toNat := e15.trans (q8 j.toNat (by omega))
        have k1 := n9_cyT hN j.toNat
        rw [← k0, ← q3] at k1
        refine ne_bipush (v := 10) (by decide) X dX0_carry_25 ?_
        refine ne_irem X dX0_carry_27 (by omega) (by omega) (by omega) ?_
        refine ne_iastR X dX0_carry_28 rfl (by omega) (ne_rg_mono Iy (by omega) (by omega)) (a := 0) (b := B) (by omega) (fun y28 hy28 Iy => ?_)
        refine ne_ws (ws' := cW c q t b k n h x y28) rfl ?_
        refine ne_iload_n X dX0_carry_29 rfl ?_
        refine ne_bipush (v := 10) (by decide) X dX0_carry_30 ?_
        refine ne_idiv X dX0_carry_32 (by omega) (by omega) (by omega) ?_
        refine ne_istore_n X dX0_carry_33 rfl (by decide) ?_
        refine ne_ll (L' := [some (.ref 9), some (ni _), some (ni _), some (ni _)]) rfl ?_
        refine ne_iinc X dX0_carry_34 rfl (by decide) ?_
        refine ne_goto (tgt := 4) X dX0_carry_37 rfl ?_
        refine ne_lnone 3 ?_
        have k7 : ∀ m : Nat, (m : Int) < j + 1 → y28 m = n9_cd y m := fun m hm => by
                                            rcases n9_upI (m := m) hy28 with ⟨rfl, e2⟩ | ⟨e1, e2⟩
                                            · exact e2.trans k1.2
                                            · rw [e2]; exact q7 m (by omega)
        exact ih _ _ _ (by omega) (by omega) (by omega) (by rw [show (j + 1).toNat = j.toNat + 1 by omega]; exact k1.1) (by omega) Iy (fun m hm => by rw [hy28]; unfold va_up; split <;> first | omega | exact q5 m (by omega)) (fun m hm => by rw [hy28, va_up_ne _ _ (by omega)]; exact q6 m hm) k7 (fun m hm => by rw [hy28, va_up_ne _ _ (by omega)]; exact q8 m (by omega))
  refine ne_iconst X dX0_carry_0 ?_
  refine ne_istore_n X dX0_carry_1 rfl (by decide) ?_
  refine ne_iconst X dX0_carry_2 ?_
  refine ne_istore_n X dX0_carry_3 rfl (by decide) ?_
  refine ne_ll (L' := [some (.ref 9), some (ni _), some (ni _), none]) rfl ?_
  exact lp4 _ y 0 0 (Nat.lt_succ_self _) (by omega) (by omega) rfl (by omega) Iy (fun m hm => by omega) h9 (fun m hm => by omega) (fun m hm => rfl)
set_option maxRecDepth 100000 in
set_option maxHeartbeats 4000000 in
theorem me_X0_becomeNines_yZ (l : Launch) (hl : l.stackTraces = false) (c q t b k n h x y : Nat → Int) (i a : Int) (hy : ne_rg y 0 9) (hi : -1000 ≤ i ∧ i ≤ 97) (ha : 0 ≤ a ∧ a ≤ 99) : ne_M l nw_cl (.code yX0_becomeNines cX0_becomeNines 4 (none)) nw_T yX0_becomeNines 1 40 0 0 [.ref 9, ni i, ni a] (cW c q t b k n h x y) (fun v w => v = none ∧ ∃ y1, w = cW c q t b k n h x y1 ∧ ne_rg y1 0 9 ∧ (∀ m : Nat, m < 98 → y1 m = n9_cd (n9_nn i a) m)) (fun _ _ => False) := by
  refine ne_meet (own := RX0) hl rfl (by decide +kernel) (Nat.le_of_ble_eq_true rfl) ?_
  intro D ct A P9 V9 R9 S9 M9 as9 bl9 mt9 C9 ad0 X hr hin ht
  have Iy := hy
  have lp6 : ∀ (n9 : Nat) (y1 : Nat → Int) (j : Int), (98 - j).toNat < n9 → (0 ≤ j) → (j ≤ i ∨ j = 0) → (ne_rg y1 0 (9 + 891 * j)) → (∀ m : Nat, 98 ≤ m → y1 m ≤ 9) → (∀ m : Nat, m < 98 → ((m : Int) < j → y1 m = 9 * a) ∧ (j ≤ (m : Int) → y1 m = 0)) → ne_G nw_cl D ct A 12 ad0 P9 l V9 R9 S9 M9 as9 bl9 mt9 C9 (ne_O nw_cl D ct ad0 12 A bl9 as9 S9 0 0 (fun v w => v = none ∧ ∃ y1, w = cW c q t b k n h x y1 ∧ ne_rg y1 0 9 ∧ (∀ m : Nat, m < 98 → y1 m = n9_cd (n9_nn i a) m)) (fun _ _ => False)) 4 0 0 0 0 6 [some (.ref 9), some (ni i), some (ni a), some (ni j)] [] (cW c q t b k n h x y1) := by
    intro n9
    induction n9 with
    | zero => intro y1 j hm9 q1 q2 Iy h9y q7; exfalso; omega
    | succ n9 ih =>
      intro y1 j hm9 q1 q2 Iy h9y q7
      refine ne_iload_n X dX0_becomeNines_6 rfl ?_
      refine ne_iload_n X dX0_becomeNines_7 rfl ?_
      refine ne_icmp_ge (tgt := 26) X dX0_becomeNines_8 rfl (by omega) (by omega) (fun b8 => ?_) (fun b8 => ?_)
      · refine ne_aload_n X dX0_becomeNines_26 rfl ?_
        refine ne_callV X nw_Tg (me_X0_carry_yZ l hl c q t b k n h x y1 _ Iy (by omega) h9y) nw_yX0_carry nw_mX0_20 nw_iX0_carry nw_eX0_carry (ci := 2) rfl rfl rfl dX0_becomeNines_27 rfl rfl (by decide) (by decide) (by first | decide | omega) (by first | decide | omega) (Nat.le_of_ble_eq_true rfl) rfl rfl (Nat.le_of_ble_eq_true rfl) ?_ ?_
        rotate_left
        · rintro E9 w9 h9; exact h9.elim
        rintro v27 w27 ⟨rfl, y27, rfl, Iy, Z27⟩
        exact ne_vret X hr dX0_becomeNines_30 ⟨rfl, _, rfl, Iy, fun m hm => (Z27 m hm).trans (n9_cdC (n := 98) (fun m h9 => by have q9 := q7 m h9; unfold n9_nn; split <;> omega) m hm)⟩
      · refine ne_aload_n X dX0_becomeNines_11 rfl ?_
        refine ne_iload_n X dX0_becomeNines_12 rfl ?_
        refine ne_bipush (v := 9) (by decide) X dX0_becomeNines_13 ?_
        refine ne_iload_n X dX0_becomeNines_15 rfl ?_
        refine ne_imul X dX0_becomeNines_16 ?_
        refine ne_callV X nw_Tg (me_X0_raise_y l hl c q t b k n h x y1 _ _ _ Iy (by omega) (by omega) (by omega)) nw_yX0_raise nw_mX0_16 nw_iX0_raise nw_eX0_raise (ci := 2) rfl rfl rfl dX0_becomeNines_17 rfl rfl (by decide) (by decide) (by first | decide | omega) (by first | decide | omega) (Nat.le_of_ble_eq_true rfl) rfl rfl (Nat.le_of_ble_eq_true rfl) ?_ ?_
        rotate_left
        · rintro E9 w9 h9; exact h9.elim
        rintro v17 w17 ⟨rfl, y17, rfl, Iy, Hy, g17⟩
        refine ne_iinc X dX0_becomeNines_20 rfl (by decide) ?_
        refine ne_goto (tgt := 6) X dX0_becomeNines_23 rfl ?_
        have k7 : ∀ m : Nat, m < 98 → ((m : Int) < j + 1 → y17 m = 9 * a) ∧ (j + 1 ≤ (m : Int) → y17 m = 0) := fun m hm => by
                                            have q9 := q7 m hm
                                            rcases g17 with ⟨g1, g2, g3⟩ | ⟨g1, g3⟩
                                            · rcases n9_upI (m := m) g3 with ⟨rfl, e2⟩ | ⟨e1, e2⟩ <;> omega
                                            · exfalso; omega
        exact ih _ _ (by omega) (by omega) (by omega) (ne_rg_mono Iy (by omega) (by omega)) (fun m hm => by rw [Hy m hm]; exact h9y m hm) k7
  refine ne_aload_n X dX0_becomeNines_0 rfl ?_
  refine ne_callV X nw_Tg (me_X0_clear_yZ l hl c q t b k n h x y Iy) nw_yX0_clear nw_mX0_13 nw_iX0_clear nw_eX0_clear (ci := 2) rfl rfl rfl dX0_becomeNines_1 rfl rfl (by decide) (by decide) (by first | decide | omega) (by first | decide | omega) (Nat.le_of_ble_eq_true rfl) rfl rfl (Nat.le_of_ble_eq_true rfl) ?_ ?_
  rotate_left
  · rintro E9 w9 h9; exact h9.elim
  rintro v1 w1 ⟨rfl, y1, rfl, Iy, Z1⟩
  refine ne_iconst X dX0_becomeNines_4 ?_
  refine ne_istore_n X dX0_becomeNines_5 rfl (by decide) ?_
  exact lp6 _ _ 0 (Nat.lt_succ_self _) (by omega) (by omega) (ne_rg_mono Iy (by omega) (by omega)) (fun m hm => (Iy m).2) (fun m hm => ⟨fun h9 => by omega, fun _ => Z1 m hm⟩)
set_option maxRecDepth 100000 in
set_option maxHeartbeats 4000000 in
theorem me_X1_workOutPartSumZ (l : Launch) (hl : l.stackTraces = false) (c q t b k n h x y : Nat → Int) (T : Int) (hI : cI c q t b k n h x y T) (hT : 0 ≤ T ∧ T ≤ 1000000) (i p : Int) (hi : 0 ≤ i ∧ i < 3) (hp : 1 ≤ p ∧ p ≤ 97) : ne_M l nw_cl (.code yX1_workOutPartSum cX1_workOutPartSum 5 (none)) nw_T yX1_workOutPartSum 3 110 0 0 [.ref 0, ni i, ni p] (cW c q t b k n h x y) (fun v w => v = none ∧ ∃ x1, w = cW c q t b k n h x1 y ∧ ne_rg x1 0 9 ∧ (∀ m : Nat, m < 98 → x1 m = n9_cd (n9_col (t i.toNat) (b i.toNat) (n i.toNat) p (n i.toNat).toNat) m)) (fun _ _ => False) := by
  refine ne_meet (own := RX1) hl rfl (by decide +kernel) (Nat.le_of_ble_eq_true rfl) ?_
  intro D ct A P9 V9 R9 S9 M9 as9 bl9 mt9 C9 ad0 X hr hin ht
  obtain ⟨Ic, Iq, It, Ib, Itb, Ik, In, Ih, Ix, Iy⟩ := hI
  have htb9 := Itb i.toNat
  have hb9 := Ib i.toNat
  have ht9 := It i.toNat
  have hn9 := In i.toNat
  have lp24 : ∀ (n9 : Nat) (x1 : Nat → Int) (r j : Int), (j + 1).toNat < n9 → (-1 ≤ j) → (j ≤ n i.toNat - 1) → (r = ne_rs (t i.toNat) (b i.toNat) (n i.toNat - 1 - j).toNat) → (ne_rg x1 0 (9 + 9 * (95 - j))) → (∀ m : Nat, 98 ≤ m → x1 m ≤ 9) → (n9_ci (t i.toNat) (b i.toNat) (n i.toNat) p (n i.toNat - 1 - j).toNat x1) → ne_G nw_cl D ct A 12 ad0 P9 l V9 R9 S9 M9 as9 bl9 mt9 C9 (ne_O nw_cl D ct ad0 12 A bl9 as9 S9 0 0 (fun v w => v = none ∧ ∃ x1, w = cW c q t b k n h x1 y ∧ ne_rg x1 0 9 ∧ (∀ m : Nat, m < 98 → x1 m = n9_cd (n9_col (t i.toNat) (b i.toNat) (n i.toNat) p (n i.toNat).toNat) m)) (fun _ _ => False)) 5 0 0 0 0 24 [some (.ref 0), some (ni i), some (ni p), some (ni r), some (ni j)] [] (cW c q t b k n h x1 y) := by
    intro n9
    induction n9 with
    | zero => intro x1 r j hm9 q1 q2 q3 Ix h9x q7; exfalso; omega
    | succ n9 ih =>
      intro x1 r j hm9 q1 q2 q3 Ix h9x q7
      have q5 := ne_rs_in (t i.toNat) (b i.toNat) ht9.1 htb9 (n i.toNat - 1 - j).toNat
      rw [← q3] at q5
      refine ne_iload X dX1_workOutPartSum_24 rfl ?_
      refine ne_if_lt (tgt := 69) X dX1_workOutPartSum_26 rfl (by omega) (fun b26 => ?_) (fun b26 => ?_)
      · refine ne_aload_n X dX1_workOutPartSum_69 rfl ?_
        refine ne_getf X dX1_workOutPartSum_70 nw_fX1_34 rfl rfl ?_
        refine ne_callVN (host := "Ninewheel") X nw_Tg (me_X0_carry_xZ l hl c q t b k n h x1 y _ Ix (by omega) h9x) nw_yX0_carry (by decide +kernel) nw_iX0_carry nw_eX0_carry (ci := 2) rfl rfl rfl dX1_workOutPartSum_73 rfl rfl (by decide) (by decide) (by first | decide | omega) (by first | decide | omega) (Nat.le_of_ble_eq_true rfl) rfl rfl (Nat.le_of_ble_eq_true rfl) ?_ ?_
        rotate_left
        · rintro E9 w9 h9; exact h9.elim
        rintro v73 w73 ⟨rfl, x73, rfl, Ix, Z73⟩
        exact ne_vret X hr dX1_workOutPartSum_76 ⟨rfl, _, rfl, Ix, fun m hm => (Z73 m hm).trans (n9_cdC (n := 98) (fun m h9 => (q7 m h9).trans (by rw [show (n i.toNat - 1 - j).toNat = (n i.toNat).toNat by omega])) m hm)⟩
      · refine ne_aload_n X dX1_workOutPartSum_29 rfl ?_
        refine ne_getf X dX1_workOutPartSum_30 nw_fX1_34 rfl rfl ?_
        refine ne_iload X dX1_workOutPartSum_33 rfl ?_
        refine ne_iload_n X dX1_workOutPartSum_35 rfl ?_
        refine ne_callS X nw_Tg (me_X1_leftover l hl _ _ _ (by omega) (by omega)) nw_yX1_leftover nw_mX1_147 nw_sX1_leftover dX1_workOutPartSum_36 rfl rfl (by decide) (by decide) (by first | decide | omega) (by first | decide | omega) (Nat.le_of_ble_eq_true rfl) rfl rfl (Nat.le_of_ble_eq_true rfl) ?_ ?_
        rotate_left
        · rintro E9 w9 h9; exact h9.elim
        rintro v36 w36 ⟨rfl, z36, rfl, g36⟩
        obtain ⟨w38, w37⟩ : z36 = j.tmod p ∧ (0 ≤ z36 ∧ z36 < 98) := by
                                            have t9 := (ne_tdm j p (by omega)).1 (by omega)
                                            omega
        refine ne_iload_n X dX1_workOutPartSum_39 rfl ?_
        refine ne_aload_n X dX1_workOutPartSum_40 rfl ?_
        refine ne_getf X dX1_workOutPartSum_41 nw_fX1_19 rfl rfl ?_
        refine ne_iload_n X dX1_workOutPartSum_44 rfl ?_
        refine ne_ialdR X dX1_workOutPartSum_45 rfl (by omega) Ib (fun v45 e45 f45 u45 => ?_)
        refine ne_callS X nw_Tg (me_X1_digitAfter l hl _ _ _ (by omega) (by omega) (by omega)) nw_yX1_digitAfter nw_mX1_138 nw_sX1_digitAfter dX1_workOutPartSum_46 rfl rfl (by decide) (by decide) (by first | decide | omega) (by first | decide | omega) (Nat.le_of_ble_eq_true rfl) rfl rfl (Nat.le_of_ble_eq_true rfl) ?_ ?_
        rotate_left
        · rintro E9 w9 h9; exact h9.elim
        rintro v46 w46 ⟨rfl, z46, rfl, g46, k46, i46⟩
        refine ne_callVN (host := "Ninewheel") X nw_Tg (me_X0_raise_x l hl c q t b k n h x1 y _ _ _ Ix (by omega) (by omega) (by omega)) nw_yX0_raise (by decide +kernel) nw_iX0_raise nw_eX0_raise (ci := 2) rfl rfl rfl dX1_workOutPartSum_49 rfl rfl (by decide) (by decide) (by first | decide | omega) (by first | decide | omega) (Nat.le_of_ble_eq_true rfl) rfl rfl (Nat.le_of_ble_eq_true rfl) ?_ ?_
        rotate_left
        · rintro E9 w9 h9; exact h9.elim
        rintro v49 w49 ⟨rfl, x49, rfl, Ix, Hx, g49⟩
        refine ne_iload_n X dX1_workOutPartSum_52 rfl ?_
        refine ne_aload_n X dX1_workOutPartSum_53 rfl ?_
        refine ne_getf X dX1_workOutPartSum_54 nw_fX1_19 rfl rfl ?_
        refine ne_iload_n X dX1_workOutPartSum_57 rfl ?_
        refine ne_ialdR X dX1_workOutPartSum_58 rfl (by omega) Ib (fun v58 e58 f58 u58 => ?_)
        refine ne_callS X nw_Tg (me_X1_restAfter l hl _ _ _ (by omega) (by omega) (by omega)) nw_yX1_restAfter nw_mX1_189 nw_sX1_restAfter dX1_workOutPartSum_59 rfl rfl (by decide) (by decide) (by first | decide | omega) (by first | decide | omega) (Nat.le_of_ble_eq_true rfl) rfl rfl (Nat.le_of_ble_eq_true rfl) ?_ ?_
        rotate_left
        · rintro E9 w9 h9; exact h9.elim
        rintro v59 w59 ⟨rfl, z59, rfl, g59, k59, i59⟩
        refine ne_istore_n X dX1_workOutPartSum_62 rfl (by decide) ?_
        refine ne_iinc X dX1_workOutPartSum_63 rfl (by decide) ?_
        refine ne_ll (L' := [some (.ref 0), some (ni _), some (ni _), some (ni _), some (ni _)]) rfl ?_
        refine ne_goto (tgt := 24) X dX1_workOutPartSum_66 rfl ?_
        have k3 : z59 = ne_rs (t i.toNat) (b i.toNat) (n i.toNat - 1 - (j + -1)).toNat := by
                                            rw [show (n i.toNat - 1 - (j + -1)).toNat = (n i.toNat - 1 - j).toNat + 1 by omega]
                                            show z59 = (10 * ne_rs (t i.toNat) (b i.toNat) (n i.toNat - 1 - j).toNat).tmod (b i.toNat)
                                            rw [← q3, g59, e58]
        have k4 : z46 = n9_dg (t i.toNat) (b i.toNat) (n i.toNat - 1 - j).toNat := by
                                            unfold n9_dg
                                            rw [← q3, g46, e45]
        exact ih _ _ _ (by omega) (by omega) (by omega) k3 (ne_rg_mono Ix (by omega) (by omega)) (fun m hm => by rw [Hx m hm]; exact h9x m hm) (n9_ciS (by omega) q7 k4 w38 w37 g49)
  refine ne_aload_n X dX1_workOutPartSum_0 rfl ?_
  refine ne_getf X dX1_workOutPartSum_1 nw_fX1_16 rfl rfl ?_
  refine ne_iload_n X dX1_workOutPartSum_4 rfl ?_
  refine ne_ialdR X dX1_workOutPartSum_5 rfl (by omega) It (fun v5 e5 f5 u5 => ?_)
  refine ne_istore_n X dX1_workOutPartSum_6 rfl (by decide) ?_
  refine ne_aload_n X dX1_workOutPartSum_7 rfl ?_
  refine ne_getf X dX1_workOutPartSum_8 nw_fX1_34 rfl rfl ?_
  refine ne_callVN (host := "Ninewheel") X nw_Tg (me_X0_clear_xZ l hl c q t b k n h x y Ix) nw_yX0_clear (by decide +kernel) nw_iX0_clear nw_eX0_clear (ci := 2) rfl rfl rfl dX1_workOutPartSum_11 rfl rfl (by decide) (by decide) (by first | decide | omega) (by first | decide | omega) (Nat.le_of_ble_eq_true rfl) rfl rfl (Nat.le_of_ble_eq_true rfl) ?_ ?_
  rotate_left
  · rintro E9 w9 h9; exact h9.elim
  rintro v11 w11 ⟨rfl, x11, rfl, Ix, Z11⟩
  refine ne_aload_n X dX1_workOutPartSum_14 rfl ?_
  refine ne_getf X dX1_workOutPartSum_15 nw_fX1_25 rfl rfl ?_
  refine ne_iload_n X dX1_workOutPartSum_18 rfl ?_
  refine ne_ialdR X dX1_workOutPartSum_19 rfl (by omega) In (fun v19 e19 f19 u19 => ?_)
  refine ne_iconst X dX1_workOutPartSum_20 ?_
  refine ne_isub X dX1_workOutPartSum_21 ?_
  refine ne_istore X dX1_workOutPartSum_22 (by decide) ?_
  refine ne_ll (L' := [some (.ref 0), some (ni _), some (ni _), some (ni _), some (ni _)]) rfl ?_
  exact lp24 _ _ _ _ (Nat.lt_succ_self _) (by omega) (by omega) (by rw [show (n i.toNat - 1 - (v19 - 1)).toNat = 0 by omega]; exact e5) (ne_rg_mono Ix (by omega) (by omega)) (fun m hm => (Ix m).2) (by rw [show (n i.toNat - 1 - (v19 - 1)).toNat = 0 by omega]; exact fun m hm => Z11 m hm)
set_option maxRecDepth 100000 in
set_option maxHeartbeats 4000000 in
theorem me_X1_ninesOfZ (l : Launch) (hl : l.stackTraces = false) (c q t b k n h x y : Nat → Int) (T : Int) (hI : cI c q t b k n h x y T) (hT : 0 ≤ T ∧ T ≤ 1000000) (i p : Int) (hi : 0 ≤ i ∧ i < 3) (hp : 2 ≤ p ∧ p ≤ 12) : ne_M l nw_cl (.code yX1_ninesOf cX1_ninesOf 5 (some .int)) nw_T yX1_ninesOf 4 150 0 0 [.ref 0, ni i, ni p] (cW c q t b k n h x y) (fun v w => ∃ x1 y1, w = cW c q t b k n h x1 y1 ∧ ne_rg x1 0 9 ∧ ne_rg y1 0 9 ∧ ∃ z : Int, v = some (ni z) ∧ (-9 ≤ z ∧ z ≤ 12) ∧ n9_nin (t i.toNat) (b i.toNat) (n i.toNat) p z) (fun _ _ => False) := by
  refine ne_meet (own := RX1) hl rfl (by decide +kernel) (Nat.le_of_ble_eq_true rfl) ?_
  intro D ct A P9 V9 R9 S9 M9 as9 bl9 mt9 C9 ad0 X hr hin ht
  obtain ⟨Ic, Iq, It, Ib, Itb, Ik, In, Ih, Ix, Iy⟩ := hI
  have hn9 := In i.toNat
  have lp28 : ∀ (n9 : Nat) (x1 y1 : Nat → Int) (d j : Int), (13 - j).toNat < n9 → (0 ≤ j) → (j ≤ p + 1) → (1 ≤ d ∧ d ≤ 48) → (d = (n i.toNat).tdiv p) → (ne_rg x1 0 9) → (ne_rg y1 0 9) → ((n i.toNat).tmod p = 0) → (∀ m : Nat, m < 98 → x1 m = n9_cd (n9_cl (t i.toNat) (b i.toNat) d p) m) → (∀ f : Int, 0 ≤ f → f < j → ¬ n9_eq (t i.toNat) (b i.toNat) (n i.toNat) p f) → ne_G nw_cl D ct A 12 ad0 P9 l V9 R9 S9 M9 as9 bl9 mt9 C9 (ne_O nw_cl D ct ad0 12 A bl9 as9 S9 0 0 (fun v w => ∃ x1 y1, w = cW c q t b k n h x1 y1 ∧ ne_rg x1 0 9 ∧ ne_rg y1 0 9 ∧ ∃ z : Int, v = some (ni z) ∧ (-9 ≤ z ∧ z ≤ 12) ∧ n9_nin (t i.toNat) (b i.toNat) (n i.toNat) p z) (fun _ _ => False)) 5 0 0 0 0 28 [some (.ref 0), some (ni i), some (ni p), some (ni d), some (ni j)] [] (cW c q t b k n h x1 y1) := by
    intro n9
    induction n9 with
    | zero => intro x1 y1 d j hm9 q1 q2 q3 q4 Ix Iy q6 q7 q8; exfalso; omega
    | succ n9 ih =>
      intro x1 y1 d j hm9 q1 q2 q3 q4 Ix Iy q6 q7 q8
      refine ne_iload X dX1_ninesOf_28 rfl ?_
      refine ne_iload_n X dX1_ninesOf_30 rfl ?_
      refine ne_icmp_gt (tgt := 67) X dX1_ninesOf_31 rfl (by omega) (by omega) (fun b31 => ?_) (fun b31 => ?_)
      · refine ne_iconst X dX1_ninesOf_67 ?_
        exact ne_iret X hr (by first | rfl | decide | rfl) dX1_ninesOf_68 ⟨_, _, rfl, Ix, Iy, _, rfl, by omega, Or.inr ⟨q6, Or.inr ⟨rfl, fun f h1 h2 => q8 f h1 (by omega)⟩⟩⟩
      · refine ne_aload_n X dX1_ninesOf_34 rfl ?_
        refine ne_getf X dX1_ninesOf_35 nw_fX1_38 rfl rfl ?_
        refine ne_iload_n X dX1_ninesOf_38 rfl ?_
        refine ne_iload X dX1_ninesOf_39 rfl ?_
        refine ne_callVN (host := "Ninewheel") X nw_Tg (me_X0_becomeNines_yZ l hl c q t b k n h x1 y1 _ _ Iy (by omega) (by omega)) nw_yX0_becomeNines (by decide +kernel) nw_iX0_becomeNines nw_eX0_becomeNines (ci := 2) rfl rfl rfl dX1_ninesOf_41 rfl rfl (by decide) (by decide) (by first | decide | omega) (by first | decide | omega) (Nat.le_of_ble_eq_true rfl) rfl rfl (Nat.le_of_ble_eq_true rfl) ?_ ?_
        rotate_left
        · rintro E9 w9 h9; exact h9.elim
        rintro v41 w41 ⟨rfl, y41, rfl, Iy, Z41⟩
        refine ne_aload_n X dX1_ninesOf_44 rfl ?_
        refine ne_getf X dX1_ninesOf_45 nw_fX1_34 rfl rfl ?_
        refine ne_aload_n X dX1_ninesOf_48 rfl ?_
        refine ne_getf X dX1_ninesOf_49 nw_fX1_38 rfl rfl ?_
        refine ne_callVN (host := "Ninewheel") X nw_Tg (me_X0_isLike_x l hl c q t b k n h x1 y41 Ix Iy) nw_yX0_isLike (by decide +kernel) nw_iX0_isLike nw_eX0_isLike (ci := 2) rfl rfl rfl dX1_ninesOf_52 rfl rfl (by decide) (by decide) (by first | decide | omega) (by first | decide | omega) (Nat.le_of_ble_eq_true rfl) rfl rfl (Nat.le_of_ble_eq_true rfl) ?_ ?_
        rotate_left
        · rintro E9 w9 h9; exact h9.elim
        rintro v52 w52 ⟨rfl, z52, rfl, g52, k52, i52⟩
        have E52 : z52 = 1 ↔ n9_eq (t i.toNat) (b i.toNat) (n i.toNat) p j := i52.trans ⟨fun h m hm => by rw [← q4, ← q7 m hm, ← Z41 m hm]; exact h m hm, fun h m hm => by rw [q7 m hm, Z41 m hm, q4]; exact h m hm⟩
        refine ne_if_eq (tgt := 61) X dX1_ninesOf_55 rfl (by omega) (fun b55 => ?_) (fun b55 => ?_)
        · refine ne_iinc X dX1_ninesOf_61 rfl (by decide) ?_
          refine ne_goto (tgt := 28) X dX1_ninesOf_64 rfl ?_
          have k8 : ∀ f : Int, 0 ≤ f → f < j + 1 → ¬ n9_eq (t i.toNat) (b i.toNat) (n i.toNat) p f := fun f h1 h2 => by
                                            rcases (show f < j ∨ f = j by omega) with h3 | h3
                                            · exact q8 f h1 h3
                                            · rw [h3]; exact fun h9 => absurd (E52.mpr h9) (by omega)
          exact ih _ _ _ _ (by omega) (by omega) (by omega) q3 q4 Ix Iy q6 q7 k8
        · refine ne_iload X dX1_ninesOf_58 rfl ?_
          exact ne_iret X hr (by first | rfl | decide | rfl) dX1_ninesOf_60 ⟨_, _, rfl, Ix, Iy, _, rfl, by omega, Or.inr ⟨q6, Or.inl ⟨q1, by omega, E52.mp (by omega), q8⟩⟩⟩
  refine ne_aload_n X dX1_ninesOf_0 rfl ?_
  refine ne_iload_n X dX1_ninesOf_1 rfl ?_
  refine ne_iload_n X dX1_ninesOf_2 rfl ?_
  refine ne_callV X nw_Tg (me_X1_hasParts l hl c q t b k n h x y T (by exact ⟨Ic, Iq, It, Ib, Itb, Ik, In, Ih, Ix, Iy⟩) (by omega) _ _ (by omega) (by omega)) nw_yX1_hasParts nw_mX1_177 nw_iX1_hasParts nw_eX1_hasParts (ci := 3) rfl rfl rfl dX1_ninesOf_3 rfl rfl (by decide) (by decide) (by first | decide | omega) (by first | decide | omega) (Nat.le_of_ble_eq_true rfl) rfl rfl (Nat.le_of_ble_eq_true rfl) ?_ ?_
  rotate_left
  · rintro E9 w9 h9; exact h9.elim
  rintro v3 w3 ⟨rfl, z3, rfl, g3, k3, i3⟩
  refine ne_if_ne (tgt := 12) X dX1_ninesOf_6 rfl (by omega) (fun b6 => ?_) (fun b6 => ?_)
  · refine ne_aload_n X dX1_ninesOf_12 rfl ?_
    refine ne_iload_n X dX1_ninesOf_13 rfl ?_
    refine ne_iload_n X dX1_ninesOf_14 rfl ?_
    refine ne_callV X nw_Tg (me_X1_partLength l hl c q t b k n h x y T (by exact ⟨Ic, Iq, It, Ib, Itb, Ik, In, Ih, Ix, Iy⟩) (by omega) _ _ (by omega) (by omega)) nw_yX1_partLength nw_mX1_180 nw_iX1_partLength nw_eX1_partLength (ci := 3) rfl rfl rfl dX1_ninesOf_15 rfl rfl (by decide) (by decide) (by first | decide | omega) (by first | decide | omega) (Nat.le_of_ble_eq_true rfl) rfl rfl (Nat.le_of_ble_eq_true rfl) ?_ ?_
    rotate_left
    · rintro E9 w9 h9; exact h9.elim
    rintro v15 w15 ⟨rfl, z15, rfl, g15, k15, i15⟩
    have hz : (n i.toNat).tmod p = 0 := by omega
    have hL : p * z15 = n i.toNat := by rw [i15]; exact Int.mul_tdiv_cancel_of_tmod_eq_zero hz
    have h15 : 1 ≤ z15 ∧ z15 ≤ 48 := by
                                            have h2 : 2 * z15 ≤ p * z15 := Int.mul_le_mul_of_nonneg_right (by omega) (by omega)
                                            rcases (show z15 = 0 ∨ 1 ≤ z15 by omega) with h | h
                                            · rw [h, Int.mul_zero] at hL; omega
                                            · omega
    refine ne_istore_n X dX1_ninesOf_18 rfl (by decide) ?_
    refine ne_aload_n X dX1_ninesOf_19 rfl ?_
    refine ne_iload_n X dX1_ninesOf_20 rfl ?_
    refine ne_iload_n X dX1_ninesOf_21 rfl ?_
    refine ne_callV X nw_Tg (me_X1_workOutPartSumZ l hl c q t b k n h x y T (by exact ⟨Ic, Iq, It, Ib, Itb, Ik, In, Ih, Ix, Iy⟩) (by omega) _ _ (by omega) (by omega)) nw_yX1_workOutPartSum nw_mX1_183 nw_iX1_workOutPartSum nw_eX1_workOutPartSum (ci := 3) rfl rfl rfl dX1_ninesOf_22 rfl rfl (by decide) (by decide) (by first | decide | omega) (by first | decide | omega) (Nat.le_of_ble_eq_true rfl) rfl rfl (Nat.le_of_ble_eq_true rfl) ?_ ?_
    rotate_left
    · rintro E9 w9 h9; exact h9.elim
    rintro v22 w22 ⟨rfl, x22, rfl, Ix, Z22⟩
    have C22 : ∀ m : Nat, m < 98 → x22 m = n9_cd (n9_cl (t i.toNat) (b i.toNat) z15 p) m := fun m hm => (Z22 m hm).trans (n9_cdC (n := 98) (fun m _ => n9_colE (by omega) (by omega) hL m) m hm)
    refine ne_iconst X dX1_ninesOf_25 ?_
    refine ne_istore X dX1_ninesOf_26 (by decide) ?_
    refine ne_ll (L' := [some (.ref 0), some (ni _), some (ni _), some (ni _), some (ni _)]) rfl ?_
    exact lp28 _ _ _ _ 0 (Nat.lt_succ_self _) (by omega) (by omega) (by omega) i15 Ix Iy hz C22 (fun f h1 h2 => by omega)
  · refine ne_bipush (v := -9) (by decide) X dX1_ninesOf_9 ?_
    exact ne_iret X hr (by first | rfl | decide | rfl) dX1_ninesOf_11 ⟨_, _, rfl, Ix, Iy, _, rfl, by omega, Or.inl ⟨by omega, rfl⟩⟩
