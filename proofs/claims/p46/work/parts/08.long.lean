set_option maxRecDepth 100000 in
set_option maxHeartbeats 4000000 in
theorem me_X0_clear_x (l : Launch) (hl : l.stackTraces = false) (c q t b k n h x y : Nat → Int) (hx : ne_rg x 0 9) : ne_M l nw_cl (.code yX0_clear cX0_clear 2 (none)) nw_T yX0_clear 0 0 0 0 [.ref 8] (cW c q t b k n h x y) (fun v w => v = none ∧ ∃ x1, w = cW c q t b k n h x1 y ∧ ne_rg x1 0 9) (fun _ _ => False) := by
  refine ne_meet (own := RX0) hl rfl (by decide +kernel) (Nat.le_of_ble_eq_true rfl) ?_
  intro D ct A P9 V9 R9 S9 M9 as9 bl9 mt9 C9 ad0 X hr hin ht
  have Ix := hx
  have lp2 : ∀ (n9 : Nat) (x1 : Nat → Int) (j : Int), (98 - j).toNat < n9 → (0 ≤ j) → (j ≤ 98) → (ne_rg x1 0 9) → ne_G nw_cl D ct A 12 ad0 P9 l V9 R9 S9 M9 as9 bl9 mt9 C9 (ne_O nw_cl D ct ad0 12 A bl9 as9 S9 0 0 (fun v w => v = none ∧ ∃ x1, w = cW c q t b k n h x1 y ∧ ne_rg x1 0 9) (fun _ _ => False)) 2 0 0 0 0 2 [some (.ref 8), some (ni j)] [] (cW c q t b k n h x1 y) := by
    intro n9
    induction n9 with
    | zero => intro x1 j hm9 q1 q2 Ix; exfalso; omega
    | succ n9 ih =>
      intro x1 j hm9 q1 q2 Ix
      refine ne_iload_n X dX0_clear_2 rfl ?_
      refine ne_bipush (v := 98) (by decide) X dX0_clear_3 ?_
      refine ne_icmp_ge (tgt := 21) X dX0_clear_5 rfl (by omega) (by omega) (fun b5 => ?_) (fun b5 => ?_)
      · exact ne_vret X hr dX0_clear_21 ⟨rfl, _, rfl, Ix⟩
      · refine ne_aload_n X dX0_clear_8 rfl ?_
        refine ne_getf X dX0_clear_9 nw_fX0_9 rfl rfl ?_
        refine ne_iload_n X dX0_clear_12 rfl ?_
        refine ne_iconst X dX0_clear_13 ?_
        refine ne_iastR X dX0_clear_14 rfl (by omega) (ne_rg_mono Ix (by omega) (by omega)) (a := 0) (b := 9) (by omega) (fun x14 hx14 Ix => ?_)
        refine ne_ws (ws' := cW c q t b k n h x14 y) rfl ?_
        refine ne_iinc X dX0_clear_15 rfl (by decide) ?_
        refine ne_goto (tgt := 2) X dX0_clear_18 rfl ?_
        exact ih _ _ (by omega) (by omega) (by omega) Ix
  refine ne_iconst X dX0_clear_0 ?_
  refine ne_istore_n X dX0_clear_1 rfl (by decide) ?_
  exact lp2 _ x 0 (Nat.lt_succ_self _) (by omega) (by omega) Ix
set_option maxRecDepth 100000 in
set_option maxHeartbeats 4000000 in
theorem me_X0_raise_x (l : Launch) (hl : l.stackTraces = false) (c q t b k n h x y : Nat → Int) (B i a : Int) (hx : ne_rg x 0 B) (hB : 0 ≤ B ∧ B ≤ 1000000) (hi : -2147483648 ≤ i ∧ i < 2147483648) (ha : 0 ≤ a ∧ a ≤ 1000000) : ne_M l nw_cl (.code yX0_raise cX0_raise 3 (none)) nw_T yX0_raise 0 0 0 0 [.ref 8, ni i, ni a] (cW c q t b k n h x y) (fun v w => v = none ∧ ∃ x1, w = cW c q t b k n h x1 y ∧ ne_rg x1 0 (B + a) ∧ (∀ m : Nat, 98 ≤ m → x1 m = x m) ∧ ((0 ≤ i ∧ i < 98 ∧ x1 = va_up x i.toNat (x i.toNat + a)) ∨ ((i < 0 ∨ 98 ≤ i) ∧ x1 = x))) (fun _ _ => False) := by
  refine ne_meet (own := RX0) hl rfl (by decide +kernel) (Nat.le_of_ble_eq_true rfl) ?_
  intro D ct A P9 V9 R9 S9 M9 as9 bl9 mt9 C9 ad0 X hr hin ht
  have Ix := hx
  refine ne_iload_n X dX0_raise_0 rfl ?_
  refine ne_if_lt (tgt := 20) X dX0_raise_1 rfl (by omega) (fun b1 => ?_) (fun b1 => ?_)
  · exact ne_vret X hr dX0_raise_20 (by first | exact ⟨rfl, _, rfl, Ix, fun m hm => by rw [hx19]; exact va_up_ne _ _ (by omega), Or.inl ⟨by omega, by omega, by rw [hx19, e16]⟩⟩ | exact ⟨rfl, _, rfl, ne_rg_mono Ix (by omega) (by omega), fun m hm => rfl, Or.inr ⟨by omega, rfl⟩⟩)
  · refine ne_iload_n X dX0_raise_4 rfl ?_
    refine ne_bipush (v := 98) (by decide) X dX0_raise_5 ?_
    refine ne_icmp_ge (tgt := 20) X dX0_raise_7 rfl (by omega) (by omega) (fun b7 => ?_) (fun b7 => ?_)
    · exact ne_vret X hr dX0_raise_20 (by first | exact ⟨rfl, _, rfl, Ix, fun m hm => by rw [hx19]; exact va_up_ne _ _ (by omega), Or.inl ⟨by omega, by omega, by rw [hx19, e16]⟩⟩ | exact ⟨rfl, _, rfl, ne_rg_mono Ix (by omega) (by omega), fun m hm => rfl, Or.inr ⟨by omega, rfl⟩⟩)
    · refine ne_aload_n X dX0_raise_10 rfl ?_
      refine ne_getf X dX0_raise_11 nw_fX0_9 rfl rfl ?_
      refine ne_iload_n X dX0_raise_14 rfl ?_
      refine ne_dup2ai X dX0_raise_15 ?_
      refine ne_ialdR X dX0_raise_16 rfl (by omega) Ix (fun v16 e16 f16 u16 => ?_)
      refine ne_iload_n X dX0_raise_17 rfl ?_
      refine ne_iadd X dX0_raise_18 ?_
      refine ne_iastR X dX0_raise_19 rfl (by omega) (ne_rg_mono Ix (by omega) (by omega)) (a := 0) (b := B + a) (by omega) (fun x19 hx19 Ix => ?_)
      refine ne_ws (ws' := cW c q t b k n h x19 y) rfl ?_
      exact ne_vret X hr dX0_raise_20 (by first | exact ⟨rfl, _, rfl, Ix, fun m hm => by rw [hx19]; exact va_up_ne _ _ (by omega), Or.inl ⟨by omega, by omega, by rw [hx19, e16]⟩⟩ | exact ⟨rfl, _, rfl, ne_rg_mono Ix (by omega) (by omega), fun m hm => rfl, Or.inr ⟨by omega, rfl⟩⟩)
set_option maxRecDepth 100000 in
set_option maxHeartbeats 4000000 in
theorem me_X0_carry_x (l : Launch) (hl : l.stackTraces = false) (c q t b k n h x y : Nat → Int) (B : Int) (hx : ne_rg x 0 B) (hB : 9 ≤ B ∧ B ≤ 100000) (h9 : ∀ m : Nat, 98 ≤ m → x m ≤ 9) : ne_M l nw_cl (.code yX0_carry cX0_carry 4 (none)) nw_T yX0_carry 0 0 0 0 [.ref 8] (cW c q t b k n h x y) (fun v w => v = none ∧ ∃ x1, w = cW c q t b k n h x1 y ∧ ne_rg x1 0 9) (fun _ _ => False) := by
  refine ne_meet (own := RX0) hl rfl (by decide +kernel) (Nat.le_of_ble_eq_true rfl) ?_
  intro D ct A P9 V9 R9 S9 M9 as9 bl9 mt9 C9 ad0 X hr hin ht
  have Ix := hx
  have lp4 : ∀ (n9 : Nat) (x1 : Nat → Int) (ov j : Int), (98 - j).toNat < n9 → (0 ≤ j) → (j ≤ 98) → (0 ≤ ov) → (ov ≤ 20000) → (ne_rg x1 0 B) → (∀ m : Nat, (m : Int) < j → x1 m ≤ 9) → (∀ m : Nat, 98 ≤ m → x1 m ≤ 9) → ne_G nw_cl D ct A 12 ad0 P9 l V9 R9 S9 M9 as9 bl9 mt9 C9 (ne_O nw_cl D ct ad0 12 A bl9 as9 S9 0 0 (fun v w => v = none ∧ ∃ x1, w = cW c q t b k n h x1 y ∧ ne_rg x1 0 9) (fun _ _ => False)) 4 0 0 0 0 4 [some (.ref 8), some (ni ov), some (ni j), none] [] (cW c q t b k n h x1 y) := by
    intro n9
    induction n9 with
    | zero => intro x1 ov j hm9 q1 q2 q3 q4 Ix q5 q6; exfalso; omega
    | succ n9 ih =>
      intro x1 ov j hm9 q1 q2 q3 q4 Ix q5 q6
      refine ne_iload_n X dX0_carry_4 rfl ?_
      refine ne_bipush (v := 98) (by decide) X dX0_carry_5 ?_
      refine ne_icmp_ge (tgt := 40) X dX0_carry_7 rfl (by omega) (by omega) (fun b7 => ?_) (fun b7 => ?_)
      · exact ne_vret X hr dX0_carry_40 ⟨rfl, _, rfl, fun m => ⟨(Ix m).1, if hm : m < 98 then q5 m (by omega) else q6 m (by omega)⟩⟩
      · refine ne_aload_n X dX0_carry_10 rfl ?_
        refine ne_getf X dX0_carry_11 nw_fX0_9 rfl rfl ?_
        refine ne_iload_n X dX0_carry_14 rfl ?_
        refine ne_ialdR X dX0_carry_15 rfl (by omega) Ix (fun v15 e15 f15 u15 => ?_)
        have t16 := f15
        refine ne_iload_n X dX0_carry_16 rfl ?_
        refine ne_iadd X dX0_carry_17 ?_
        refine ne_istore_n X dX0_carry_18 rfl (by decide) ?_
        refine ne_aload_n X dX0_carry_19 rfl ?_
        refine ne_getf X dX0_carry_20 nw_fX0_9 rfl rfl ?_
        refine ne_iload_n X dX0_carry_23 rfl ?_
        refine ne_iload_n X dX0_carry_24 rfl ?_
        have t25 := ne_t10 (v15 + ov) (by omega)
        refine ne_bipush (v := 10) (by decide) X dX0_carry_25 ?_
        refine ne_irem X dX0_carry_27 (by omega) (by omega) (by omega) ?_
        refine ne_iastR X dX0_carry_28 rfl (by omega) (ne_rg_mono Ix (by omega) (by omega)) (a := 0) (b := B) (by omega) (fun x28 hx28 Ix => ?_)
        refine ne_ws (ws' := cW c q t b k n h x28 y) rfl ?_
        refine ne_iload_n X dX0_carry_29 rfl ?_
        refine ne_bipush (v := 10) (by decide) X dX0_carry_30 ?_
        refine ne_idiv X dX0_carry_32 (by omega) (by omega) (by omega) ?_
        refine ne_istore_n X dX0_carry_33 rfl (by decide) ?_
        refine ne_ll (L' := [some (.ref 8), some (ni _), some (ni _), some (ni _)]) rfl ?_
        refine ne_iinc X dX0_carry_34 rfl (by decide) ?_
        refine ne_goto (tgt := 4) X dX0_carry_37 rfl ?_
        refine ne_lnone 3 ?_
        exact ih _ _ _ (by omega) (by omega) (by omega) (by omega) (by omega) Ix (fun m hm => by rw [hx28]; unfold va_up; split <;> first | omega | exact q5 m (by omega)) (fun m hm => by rw [hx28, va_up_ne _ _ (by omega)]; exact q6 m hm)
  refine ne_iconst X dX0_carry_0 ?_
  refine ne_istore_n X dX0_carry_1 rfl (by decide) ?_
  refine ne_iconst X dX0_carry_2 ?_
  refine ne_istore_n X dX0_carry_3 rfl (by decide) ?_
  refine ne_ll (L' := [some (.ref 8), some (ni _), some (ni _), none]) rfl ?_
  exact lp4 _ x 0 0 (Nat.lt_succ_self _) (by omega) (by omega) (by omega) (by omega) Ix (fun m hm => by omega) h9
set_option maxRecDepth 100000 in
set_option maxHeartbeats 4000000 in
theorem me_X0_clear_y (l : Launch) (hl : l.stackTraces = false) (c q t b k n h x y : Nat → Int) (hy : ne_rg y 0 9) : ne_M l nw_cl (.code yX0_clear cX0_clear 2 (none)) nw_T yX0_clear 0 0 0 0 [.ref 9] (cW c q t b k n h x y) (fun v w => v = none ∧ ∃ y1, w = cW c q t b k n h x y1 ∧ ne_rg y1 0 9) (fun _ _ => False) := by
  refine ne_meet (own := RX0) hl rfl (by decide +kernel) (Nat.le_of_ble_eq_true rfl) ?_
  intro D ct A P9 V9 R9 S9 M9 as9 bl9 mt9 C9 ad0 X hr hin ht
  have Iy := hy
  have lp2 : ∀ (n9 : Nat) (y1 : Nat → Int) (j : Int), (98 - j).toNat < n9 → (0 ≤ j) → (j ≤ 98) → (ne_rg y1 0 9) → ne_G nw_cl D ct A 12 ad0 P9 l V9 R9 S9 M9 as9 bl9 mt9 C9 (ne_O nw_cl D ct ad0 12 A bl9 as9 S9 0 0 (fun v w => v = none ∧ ∃ y1, w = cW c q t b k n h x y1 ∧ ne_rg y1 0 9) (fun _ _ => False)) 2 0 0 0 0 2 [some (.ref 9), some (ni j)] [] (cW c q t b k n h x y1) := by
    intro n9
    induction n9 with
    | zero => intro y1 j hm9 q1 q2 Iy; exfalso; omega
    | succ n9 ih =>
      intro y1 j hm9 q1 q2 Iy
      refine ne_iload_n X dX0_clear_2 rfl ?_
      refine ne_bipush (v := 98) (by decide) X dX0_clear_3 ?_
      refine ne_icmp_ge (tgt := 21) X dX0_clear_5 rfl (by omega) (by omega) (fun b5 => ?_) (fun b5 => ?_)
      · exact ne_vret X hr dX0_clear_21 ⟨rfl, _, rfl, Iy⟩
      · refine ne_aload_n X dX0_clear_8 rfl ?_
        refine ne_getf X dX0_clear_9 nw_fX0_9 rfl rfl ?_
        refine ne_iload_n X dX0_clear_12 rfl ?_
        refine ne_iconst X dX0_clear_13 ?_
        refine ne_iastR X dX0_clear_14 rfl (by omega) (ne_rg_mono Iy (by omega) (by omega)) (a := 0) (b := 9) (by omega) (fun y14 hy14 Iy => ?_)
        refine ne_ws (ws' := cW c q t b k n h x y14) rfl ?_
        refine ne_iinc X dX0_clear_15 rfl (by decide) ?_
        refine ne_goto (tgt := 2) X dX0_clear_18 rfl ?_
        exact ih _ _ (by omega) (by omega) (by omega) Iy
  refine ne_iconst X dX0_clear_0 ?_
  refine ne_istore_n X dX0_clear_1 rfl (by decide) ?_
  exact lp2 _ y 0 (Nat.lt_succ_self _) (by omega) (by omega) Iy
set_option maxRecDepth 100000 in
set_option maxHeartbeats 4000000 in
theorem me_X0_raise_y (l : Launch) (hl : l.stackTraces = false) (c q t b k n h x y : Nat → Int) (B i a : Int) (hy : ne_rg y 0 B) (hB : 0 ≤ B ∧ B ≤ 1000000) (hi : -2147483648 ≤ i ∧ i < 2147483648) (ha : 0 ≤ a ∧ a ≤ 1000000) : ne_M l nw_cl (.code yX0_raise cX0_raise 3 (none)) nw_T yX0_raise 0 0 0 0 [.ref 9, ni i, ni a] (cW c q t b k n h x y) (fun v w => v = none ∧ ∃ y1, w = cW c q t b k n h x y1 ∧ ne_rg y1 0 (B + a) ∧ (∀ m : Nat, 98 ≤ m → y1 m = y m) ∧ ((0 ≤ i ∧ i < 98 ∧ y1 = va_up y i.toNat (y i.toNat + a)) ∨ ((i < 0 ∨ 98 ≤ i) ∧ y1 = y))) (fun _ _ => False) := by
  refine ne_meet (own := RX0) hl rfl (by decide +kernel) (Nat.le_of_ble_eq_true rfl) ?_
  intro D ct A P9 V9 R9 S9 M9 as9 bl9 mt9 C9 ad0 X hr hin ht
  have Iy := hy
  refine ne_iload_n X dX0_raise_0 rfl ?_
  refine ne_if_lt (tgt := 20) X dX0_raise_1 rfl (by omega) (fun b1 => ?_) (fun b1 => ?_)
  · exact ne_vret X hr dX0_raise_20 (by first | exact ⟨rfl, _, rfl, Iy, fun m hm => by rw [hy19]; exact va_up_ne _ _ (by omega), Or.inl ⟨by omega, by omega, by rw [hy19, e16]⟩⟩ | exact ⟨rfl, _, rfl, ne_rg_mono Iy (by omega) (by omega), fun m hm => rfl, Or.inr ⟨by omega, rfl⟩⟩)
  · refine ne_iload_n X dX0_raise_4 rfl ?_
    refine ne_bipush (v := 98) (by decide) X dX0_raise_5 ?_
    refine ne_icmp_ge (tgt := 20) X dX0_raise_7 rfl (by omega) (by omega) (fun b7 => ?_) (fun b7 => ?_)
    · exact ne_vret X hr dX0_raise_20 (by first | exact ⟨rfl, _, rfl, Iy, fun m hm => by rw [hy19]; exact va_up_ne _ _ (by omega), Or.inl ⟨by omega, by omega, by rw [hy19, e16]⟩⟩ | exact ⟨rfl, _, rfl, ne_rg_mono Iy (by omega) (by omega), fun m hm => rfl, Or.inr ⟨by omega, rfl⟩⟩)
    · refine ne_aload_n X dX0_raise_10 rfl ?_
      refine ne_getf X dX0_raise_11 nw_fX0_9 rfl rfl ?_
      refine ne_iload_n X dX0_raise_14 rfl ?_
      refine ne_dup2ai X dX0_raise_15 ?_
      refine ne_ialdR X dX0_raise_16 rfl (by omega) Iy (fun v16 e16 f16 u16 => ?_)
      refine ne_iload_n X dX0_raise_17 rfl ?_
      refine ne_iadd X dX0_raise_18 ?_
      refine ne_iastR X dX0_raise_19 rfl (by omega) (ne_rg_mono Iy (by omega) (by omega)) (a := 0) (b := B + a) (by omega) (fun y19 hy19 Iy => ?_)
      refine ne_ws (ws' := cW c q t b k n h x y19) rfl ?_
      exact ne_vret X hr dX0_raise_20 (by first | exact ⟨rfl, _, rfl, Iy, fun m hm => by rw [hy19]; exact va_up_ne _ _ (by omega), Or.inl ⟨by omega, by omega, by rw [hy19, e16]⟩⟩ | exact ⟨rfl, _, rfl, ne_rg_mono Iy (by omega) (by omega), fun m hm => rfl, Or.inr ⟨by omega, rfl⟩⟩)
set_option maxRecDepth 100000 in
set_option maxHeartbeats 4000000 in
theorem me_X0_carry_y (l : Launch) (hl : l.stackTraces = false) (c q t b k n h x y : Nat → Int) (B : Int) (hy : ne_rg y 0 B) (hB : 9 ≤ B ∧ B ≤ 100000) (h9 : ∀ m : Nat, 98 ≤ m → y m ≤ 9) : ne_M l nw_cl (.code yX0_carry cX0_carry 4 (none)) nw_T yX0_carry 0 0 0 0 [.ref 9] (cW c q t b k n h x y) (fun v w => v = none ∧ ∃ y1, w = cW c q t b k n h x y1 ∧ ne_rg y1 0 9) (fun _ _ => False) := by
  refine ne_meet (own := RX0) hl rfl (by decide +kernel) (Nat.le_of_ble_eq_true rfl) ?_
  intro D ct A P9 V9 R9 S9 M9 as9 bl9 mt9 C9 ad0 X hr hin ht
  have Iy := hy
  have lp4 : ∀ (n9 : Nat) (y1 : Nat → Int) (ov j : Int), (98 - j).toNat < n9 → (0 ≤ j) → (j ≤ 98) → (0 ≤ ov) → (ov ≤ 20000) → (ne_rg y1 0 B) → (∀ m : Nat, (m : Int) < j → y1 m ≤ 9) → (∀ m : Nat, 98 ≤ m → y1 m ≤ 9) → ne_G nw_cl D ct A 12 ad0 P9 l V9 R9 S9 M9 as9 bl9 mt9 C9 (ne_O nw_cl D ct ad0 12 A bl9 as9 S9 0 0 (fun v w => v = none ∧ ∃ y1, w = cW c q t b k n h x y1 ∧ ne_rg y1 0 9) (fun _ _ => False)) 4 0 0 0 0 4 [some (.ref 9), some (ni ov), some (ni j), none] [] (cW c q t b k n h x y1) := by
    intro n9
    induction n9 with
    | zero => intro y1 ov j hm9 q1 q2 q3 q4 Iy q5 q6; exfalso; omega
    | succ n9 ih =>
      intro y1 ov j hm9 q1 q2 q3 q4 Iy q5 q6
      refine ne_iload_n X dX0_carry_4 rfl ?_
      refine ne_bipush (v := 98) (by decide) X dX0_carry_5 ?_
      refine ne_icmp_ge (tgt := 40) X dX0_carry_7 rfl (by omega) (by omega) (fun b7 => ?_) (fun b7 => ?_)
      · exact ne_vret X hr dX0_carry_40 ⟨rfl, _, rfl, fun m => ⟨(Iy m).1, if hm : m < 98 then q5 m (by omega) else q6 m (by omega)⟩⟩
      · refine ne_aload_n X dX0_carry_10 rfl ?_
        refine ne_getf X dX0_carry_11 nw_fX0_9 rfl rfl ?_
        refine ne_iload_n X dX0_carry_14 rfl ?_
        refine ne_ialdR X dX0_carry_15 rfl (by omega) Iy (fun v15 e15 f15 u15 => ?_)
        have t16 := f15
        refine ne_iload_n X dX0_carry_16 rfl ?_
        refine ne_iadd X dX0_carry_17 ?_
        refine ne_istore_n X dX0_carry_18 rfl (by decide) ?_
        refine ne_aload_n X dX0_carry_19 rfl ?_
        refine ne_getf X dX0_carry_20 nw_fX0_9 rfl rfl ?_
        refine ne_iload_n X dX0_carry_23 rfl ?_
        refine ne_iload_n X dX0_carry_24 rfl ?_
        have t25 := ne_t10 (v15 + ov) (by omega)
        refine ne_bipush (v := 10) (by decide) X dX0_carry_25 ?_
        refine ne_irem X dX0_carry_27 (by omega) (by omega) (by omega) ?_
        refine ne_iastR X dX0_carry_28 rfl (by omega) (ne_rg_mono Iy (by omega) (by omega)) (a := 0) (b := B) (by omega) (fun y28 hy28 Iy => ?_)
        refine ne_ws (ws' := cW c q t b k n h x y28) rfl ?_
        refine ne_iload_n X dX0_carry_29 rfl ?_
        refine ne_bipush (v := 10) (by decide) X dX0_carry_30 ?_
        refine ne_idiv X dX0_carry_32 (by omega) (by omega) (by omega) ?_
        refine ne_istore_n X dX0_carry_33 rfl (by decide) ?_
        refine ne_ll (L' := [some (.ref 9), some (ni _), some (ni _), some (ni _)]) rfl ?_
        refine ne_iinc X dX0_carry_34 rfl (by decide) ?_
        refine ne_goto (tgt := 4) X dX0_carry_37 rfl ?_
        refine ne_lnone 3 ?_
        exact ih _ _ _ (by omega) (by omega) (by omega) (by omega) (by omega) Iy (fun m hm => by rw [hy28]; unfold va_up; split <;> first | omega | exact q5 m (by omega)) (fun m hm => by rw [hy28, va_up_ne _ _ (by omega)]; exact q6 m hm)
  refine ne_iconst X dX0_carry_0 ?_
  refine ne_istore_n X dX0_carry_1 rfl (by decide) ?_
  refine ne_iconst X dX0_carry_2 ?_
  refine ne_istore_n X dX0_carry_3 rfl (by decide) ?_
  refine ne_ll (L' := [some (.ref 9), some (ni _), some (ni _), none]) rfl ?_
  exact lp4 _ y 0 0 (Nat.lt_succ_self _) (by omega) (by omega) (by omega) (by omega) Iy (fun m hm => by omega) h9
set_option maxRecDepth 100000 in
set_option maxHeartbeats 4000000 in
theorem me_X0_becomeNines_y (l : Launch) (hl : l.stackTraces = false) (c q t b k n h x y : Nat → Int) (i a : Int) (hy : ne_rg y 0 9) (hi : -1000 ≤ i ∧ i ≤ 97) (ha : 0 ≤ a ∧ a ≤ 99) : ne_M l nw_cl (.code yX0_becomeNines cX0_becomeNines 4 (none)) nw_T yX0_becomeNines 1 40 0 0 [.ref 9, ni i, ni a] (cW c q t b k n h x y) (fun v w => v = none ∧ ∃ y1, w = cW c q t b k n h x y1 ∧ ne_rg y1 0 9) (fun _ _ => False) := by
  refine ne_meet (own := RX0) hl rfl (by decide +kernel) (Nat.le_of_ble_eq_true rfl) ?_
  intro D ct A P9 V9 R9 S9 M9 as9 bl9 mt9 C9 ad0 X hr hin ht
  have Iy := hy
  have lp6 : ∀ (n9 : Nat) (y1 : Nat → Int) (j : Int), (98 - j).toNat < n9 → (0 ≤ j) → (j ≤ i ∨ j = 0) → (ne_rg y1 0 (9 + 891 * j)) → (∀ m : Nat, 98 ≤ m → y1 m ≤ 9) → ne_G nw_cl D ct A 12 ad0 P9 l V9 R9 S9 M9 as9 bl9 mt9 C9 (ne_O nw_cl D ct ad0 12 A bl9 as9 S9 0 0 (fun v w => v = none ∧ ∃ y1, w = cW c q t b k n h x y1 ∧ ne_rg y1 0 9) (fun _ _ => False)) 4 0 0 0 0 6 [some (.ref 9), some (ni i), some (ni a), some (ni j)] [] (cW c q t b k n h x y1) := by
    intro n9
    induction n9 with
    | zero => intro y1 j hm9 q1 q2 Iy h9y; exfalso; omega
    | succ n9 ih =>
      intro y1 j hm9 q1 q2 Iy h9y
      refine ne_iload_n X dX0_becomeNines_6 rfl ?_
      refine ne_iload_n X dX0_becomeNines_7 rfl ?_
      refine ne_icmp_ge (tgt := 26) X dX0_becomeNines_8 rfl (by omega) (by omega) (fun b8 => ?_) (fun b8 => ?_)
      · refine ne_aload_n X dX0_becomeNines_26 rfl ?_
        refine ne_callV X nw_Tg (me_X0_carry_y l hl c q t b k n h x y1 _ Iy (by omega) h9y) nw_yX0_carry nw_mX0_20 nw_iX0_carry nw_eX0_carry (ci := 2) rfl rfl rfl dX0_becomeNines_27 rfl rfl (by decide) (by decide) (by first | decide | omega) (by first | decide | omega) (Nat.le_of_ble_eq_true rfl) rfl rfl (Nat.le_of_ble_eq_true rfl) ?_ ?_
        rotate_left
        · rintro E9 w9 h9; exact h9.elim
        rintro v27 w27 ⟨rfl, y27, rfl, Iy⟩
        exact ne_vret X hr dX0_becomeNines_30 ⟨rfl, _, rfl, Iy⟩
      · refine ne_aload_n X dX0_becomeNines_11 rfl ?_
        refine ne_iload_n X dX0_becomeNines_12 rfl ?_
        refine ne_bipush (v := 9) (by decide) X dX0_becomeNines_13 ?_
        refine ne_iload_n X dX0_becomeNines_15 rfl ?_
        refine ne_imul X dX0_becomeNines_16 ?_
        refine ne_callV X nw_Tg (me_X0_raise_y l hl c q t b k n h x y1 _ _ _ Iy (by omega) (by omega) (by omega)) nw_yX0_raise nw_mX0_16 nw_iX0_raise nw_eX0_raise (ci := 2) rfl rfl rfl dX0_becomeNines_17 rfl rfl (by decide) (by decide) (by first | decide | omega) (by first | decide | omega) (Nat.le_of_ble_eq_true rfl) rfl rfl (Nat.le_of_ble_eq_true rfl) ?_ ?_
        rotate_left
        · rintro E9 w9 h9; exact h9.elim
        rintro v17 w17 ⟨rfl, y17, rfl, Iy, Hy, g17⟩
        refine ne_iinc X dX0_becomeNines_20 rfl (by decide) ?_
        refine ne_goto (tgt := 6) X dX0_becomeNines_23 rfl ?_
        exact ih _ _ (by omega) (by omega) (by omega) (ne_rg_mono Iy (by omega) (by omega)) (fun m hm => by rw [Hy m hm]; exact h9y m hm)
  refine ne_aload_n X dX0_becomeNines_0 rfl ?_
  refine ne_callV X nw_Tg (me_X0_clear_y l hl c q t b k n h x y Iy) nw_yX0_clear nw_mX0_13 nw_iX0_clear nw_eX0_clear (ci := 2) rfl rfl rfl dX0_becomeNines_1 rfl rfl (by decide) (by decide) (by first | decide | omega) (by first | decide | omega) (Nat.le_of_ble_eq_true rfl) rfl rfl (Nat.le_of_ble_eq_true rfl) ?_ ?_
  rotate_left
  · rintro E9 w9 h9; exact h9.elim
  rintro v1 w1 ⟨rfl, y1, rfl, Iy⟩
  refine ne_iconst X dX0_becomeNines_4 ?_
  refine ne_istore_n X dX0_becomeNines_5 rfl (by decide) ?_
  exact lp6 _ _ 0 (Nat.lt_succ_self _) (by omega) (by omega) (ne_rg_mono Iy (by omega) (by omega)) (fun m hm => (Iy m).2)
set_option maxRecDepth 100000 in
set_option maxHeartbeats 4000000 in
theorem me_X0_isLike_x (l : Launch) (hl : l.stackTraces = false) (c q t b k n h x y : Nat → Int) (hx : ne_rg x 0 9) (hy : ne_rg y 0 9) : ne_M l nw_cl (.code yX0_isLike cX0_isLike 3 (some .boolean)) nw_T yX0_isLike 0 0 0 0 [.ref 8, .ref 9] (cW c q t b k n h x y) (fun v w => w = cW c q t b k n h x y ∧ ∃ z : Int, v = some (ni z) ∧ 0 ≤ z ∧ z ≤ 1 ∧ (z = 1 ↔ ∀ m : Nat, m < 98 → x m = y m)) (fun _ _ => False) := by
  refine ne_meet (own := RX0) hl rfl (by decide +kernel) (Nat.le_of_ble_eq_true rfl) ?_
  intro D ct A P9 V9 R9 S9 M9 as9 bl9 mt9 C9 ad0 X hr hin ht
  have Ix := hx
  have Iy := hy
  have lp2 : ∀ (n9 : Nat) (j : Int), (98 - j).toNat < n9 → (0 ≤ j) → (j ≤ 98) → (∀ m : Nat, (m : Int) < j → x m = y m) → ne_G nw_cl D ct A 12 ad0 P9 l V9 R9 S9 M9 as9 bl9 mt9 C9 (ne_O nw_cl D ct ad0 12 A bl9 as9 S9 0 0 (fun v w => w = cW c q t b k n h x y ∧ ∃ z : Int, v = some (ni z) ∧ 0 ≤ z ∧ z ≤ 1 ∧ (z = 1 ↔ ∀ m : Nat, m < 98 → x m = y m)) (fun _ _ => False)) 3 0 0 0 0 2 [some (.ref 8), some (.ref 9), some (ni j)] [] (cW c q t b k n h x y) := by
    intro n9
    induction n9 with
    | zero => intro j hm9 q1 q2 q3; exfalso; omega
    | succ n9 ih =>
      intro j hm9 q1 q2 q3
      refine ne_iload_n X dX0_isLike_2 rfl ?_
      refine ne_bipush (v := 98) (by decide) X dX0_isLike_3 ?_
      refine ne_icmp_ge (tgt := 31) X dX0_isLike_5 rfl (by omega) (by omega) (fun b5 => ?_) (fun b5 => ?_)
      · refine ne_iconst X dX0_isLike_31 ?_
        exact ne_iret X hr (by first | rfl | decide | rfl) dX0_isLike_32 ⟨rfl, _, rfl, by omega, by omega, fun _ m hm => q3 m (by omega), fun _ => rfl⟩
      · refine ne_aload_n X dX0_isLike_8 rfl ?_
        refine ne_getf X dX0_isLike_9 nw_fX0_9 rfl rfl ?_
        refine ne_iload_n X dX0_isLike_12 rfl ?_
        refine ne_ialdR X dX0_isLike_13 rfl (by omega) Ix (fun v13 e13 f13 u13 => ?_)
        refine ne_aload_n X dX0_isLike_14 rfl ?_
        refine ne_getf X dX0_isLike_15 nw_fX0_9 rfl rfl ?_
        refine ne_iload_n X dX0_isLike_18 rfl ?_
        refine ne_ialdR X dX0_isLike_19 rfl (by omega) Iy (fun v19 e19 f19 u19 => ?_)
        refine ne_icmp_eq (tgt := 25) X dX0_isLike_20 rfl (by omega) (by omega) (fun b20 => ?_) (fun b20 => ?_)
        · refine ne_iinc X dX0_isLike_25 rfl (by decide) ?_
          refine ne_goto (tgt := 2) X dX0_isLike_28 rfl ?_
          refine ih _ (by omega) (by omega) (by omega) (fun m hm => ?_)
          rcases (show (m : Int) < j ∨ m = j.toNat by omega) with h3 | h3
          · exact q3 m h3
          · rw [h3, ← e13, ← e19]; exact b20
        · refine ne_iconst X dX0_isLike_23 ?_
          exact ne_iret X hr (by first | rfl | decide | rfl) dX0_isLike_24 ⟨rfl, _, rfl, by omega, by omega, by omega, fun h => absurd (h j.toNat (by omega)) (by rw [← e13, ← e19]; exact b20)⟩
  refine ne_iconst X dX0_isLike_0 ?_
  refine ne_istore_n X dX0_isLike_1 rfl (by decide) ?_
  exact lp2 _ 0 (Nat.lt_succ_self _) (by omega) (by omega) (fun m hm => by omega)
