/-- what comes to a cell: a units of p places -/
def ne_come (c q h : Nat → Int) (i a p : Int) (c1 q1 h1 : Nat → Int) (z : Int) : Prop := ((-999999 ≤ a ∧ a ≤ 999999 ∧ p ≤ 3) ∧ c1 = va_up c i.toNat a ∧ q1 = va_up q i.toNat p ∧ h1 = va_up h 0 (h 0 + 1) ∧ ((z = 0 ∧ c i.toNat = a ∧ q i.toNat = p) ∨ (z = 1 ∧ ¬ (c i.toNat = a ∧ q i.toNat = p)))) ∨ (¬ (-999999 ≤ a ∧ a ≤ 999999 ∧ p ≤ 3) ∧ c1 = c ∧ q1 = q ∧ h1 = va_up h 2 (h 2 + 1) ∧ z = -9)
theorem ne_comeU {c q h c1 q1 h1 c2 q2 h2 : Nat → Int} {i a p z z2 : Int} (g : ne_come c q h i a p c1 q1 h1 z) (g2 : ne_come c q h i a p c2 q2 h2 z2) : c2 = c1 ∧ q2 = q1 ∧ h2 = h1 ∧ z = z2 := by
  rcases g with ⟨k, rfl, rfl, rfl, e⟩ | ⟨k, rfl, rfl, rfl, e⟩
  · rcases g2 with ⟨k2, rfl, rfl, rfl, e2⟩ | ⟨k2, rfl, rfl, rfl, e2⟩
    · exact ⟨rfl, rfl, rfl, by omega⟩
    · exact absurd k k2
  · rcases g2 with ⟨k2, rfl, rfl, rfl, e2⟩ | ⟨k2, rfl, rfl, rfl, e2⟩
    · exact absurd k2 k
    · exact ⟨rfl, rfl, rfl, by omega⟩
theorem ne_upSame {f : Nat → Int} {k : Nat} {v : Int} (h : f k = v) : va_up f k v = f := by
  funext j
  unfold va_up
  split
  · rename_i e; rw [e, h]
  · rfl
/-- an act that tells -9 -/
def ne_decl (c q h c1 q1 h1 : Nat → Int) (z : Int) : Prop := c1 = c ∧ q1 = q ∧ h1 = va_up h 2 (h 2 + 1) ∧ z = -9
theorem ne_declU {c q h c1 q1 h1 c2 q2 h2 : Nat → Int} {z z2 : Int} (g : ne_decl c q h c1 q1 h1 z) (g2 : ne_decl c q h c2 q2 h2 z2) : c2 = c1 ∧ q2 = q1 ∧ h2 = h1 ∧ z = z2 := by
  obtain ⟨rfl, rfl, rfl, rfl⟩ := g
  obtain ⟨rfl, rfl, rfl, rfl⟩ := g2
  exact ⟨rfl, rfl, rfl, rfl⟩
/-- what comes to a cell of a / b, rounded -/
def ne_rcome (c q h : Nat → Int) (o w p a b : Int) (c1 q1 h1 : Nat → Int) (z : Int) : Prop := (∃ u : Int, ne_rd a b w u ∧ ne_come c q h o u p c1 q1 h1 z) ∨ (w = 7 ∧ ne_rx a b ∧ ne_decl c q h c1 q1 h1 z)
theorem ne_rcC {c q h c1 q1 h1 : Nat → Int} {o w p a b u z K : Int} {Z : Prop} (hK : K < -999999) (g : (u = K ∧ w = 7 ∧ ne_rx a b) ∨ (ne_rd a b w u ∧ Z)) (G : ne_come c q h o u p c1 q1 h1 z) : ne_rcome c q h o w p a b c1 q1 h1 z := by
  rcases g with ⟨rfl, hw, hx⟩ | ⟨hd, -⟩
  · rcases G with ⟨k, -⟩ | ⟨-, k⟩
    · exfalso; omega
    · exact Or.inr ⟨hw, hx, k⟩
  · exact Or.inl ⟨u, hd, G⟩
theorem ne_rcomeU {c q h c1 q1 h1 c2 q2 h2 : Nat → Int} {o w p a b a' b' z z2 : Int} (hb : 0 < b) (hb' : 0 < b') (hw : 0 ≤ w ∧ w ≤ 7) (he : a * b' = a' * b) (g : ne_rcome c q h o w p a b c1 q1 h1 z) (g2 : ne_rcome c q h o w p a' b' c2 q2 h2 z2) : c2 = c1 ∧ q2 = q1 ∧ h2 = h1 ∧ z = z2 := by
  rcases g with ⟨u, hd, hc⟩ | ⟨h7, hx, hc⟩
  · rcases g2 with ⟨u', hd', hc'⟩ | ⟨h7', hx', hc'⟩
    · obtain rfl := ne_rdU hb hb' hw he hd hd'
      exact ne_comeU hc hc'
    · exact (ne_rxU hb' hb he.symm h7' hx' hd).elim
  · rcases g2 with ⟨u', hd', hc'⟩ | ⟨h7', hx', hc'⟩
    · exact (ne_rxU hb hb' he h7 hx hd').elim
    · exact ne_declU hc hc'
/-- places below 0 are said with 0 -/
def ne_cat (c q h : Nat → Int) (i a p : Int) (c1 q1 h1 : Nat → Int) (z : Int) : Prop := (p < 0 ∧ ne_come c q h i (a * 10 ^ (-p).toNat) 0 c1 q1 h1 z) ∨ (0 ≤ p ∧ ne_come c q h i a p c1 q1 h1 z)
theorem ne_catU {c q h c1 q1 h1 c2 q2 h2 : Nat → Int} {i a p z z2 : Int} (g : ne_cat c q h i a p c1 q1 h1 z) (g2 : ne_cat c q h i a p c2 q2 h2 z2) : c2 = c1 ∧ q2 = q1 ∧ h2 = h1 ∧ z = z2 := by
  rcases g with ⟨k, g⟩ | ⟨k, g⟩
  · rcases g2 with ⟨k2, g2⟩ | ⟨k2, g2⟩
    · exact ne_comeU g g2
    · exfalso; omega
  · rcases g2 with ⟨k2, g2⟩ | ⟨k2, g2⟩
    · exfalso; omega
    · exact ne_comeU g g2
/-- a fraction with its sign, in units -/
def ne_cv (t m p : Int) : Int := if m = 0 then t * 10 ^ p.toNat else -(t * 10 ^ p.toNat)
theorem ne_mulS (x y A B : Int) (hx : -A ≤ x ∧ x ≤ A) (hy : -B ≤ y ∧ y ≤ B) : -(A * B) ≤ x * y ∧ x * y ≤ A * B := by
  rcases (show 0 ≤ y ∨ 0 ≤ -y by omega) with h | h
  · exact ne_mul x y A B hx ⟨h, hy.2⟩
  · have h2 := ne_mul x (-y) A B hx ⟨h, by omega⟩
    rw [Int.mul_neg] at h2
    omega
theorem ne_mz {x y : Int} (h : x * y = 0) (hy : 1 ≤ y) : x = 0 := by
  rcases Int.mul_eq_zero.mp h with h | h
  · exact h
  · exfalso; omega
theorem ne_mn {x y : Int} (h : x * y ≠ 0) : x ≠ 0 := fun h1 => h (by rw [h1, Int.zero_mul])
theorem ne_pw3 (x : Int) (hx : -999999 ≤ x ∧ x ≤ 999999) (n : Nat) (hn : n ≤ 3) : -999997000002999999 ≤ x ^ n ∧ x ^ n ≤ 999997000002999999 := by
  have h2 := ne_mulS x x 999999 999999 hx hx
  have h3 := ne_mulS (x * x) x 999998000001 999999 (by omega) hx
  rcases (show n = 0 ∨ n = 1 ∨ n = 2 ∨ n = 3 by omega) with rfl | rfl | rfl | rfl
  · rw [Int.pow_zero]; omega
  · rw [Int.pow_succ, Int.pow_zero, Int.one_mul]; omega
  · rw [Int.pow_succ, Int.pow_succ, Int.pow_zero, Int.one_mul]; omega
  · rw [Int.pow_succ, Int.pow_succ, Int.pow_succ, Int.pow_zero, Int.one_mul]; omega
set_option maxRecDepth 100000 in
set_option maxHeartbeats 4000000 in
theorem me_X1_bringX (l : Launch) (hl : l.stackTraces = false) (c q t b k n h x y : Nat → Int) (T : Int) (hI : cI c q t b k n h x y T) (hT : 0 ≤ T ∧ T ≤ 1000000) (i a p : Int) (hi : 0 ≤ i ∧ i < 4) (ha : -9223372036854775808 ≤ a ∧ a < 9223372036854775808) (hp : 0 ≤ p ∧ p < 2147483648) : ne_M l nw_cl (.code yX1_bring cX1_bring 5 (some .int)) nw_T yX1_bring 1 40 0 0 [.ref 0, ni i, nl a, ni p] (cW c q t b k n h x y) (fun v w => ∃ c1 q1 h1, w = cW c1 q1 t b k n h1 x y ∧ cI c1 q1 t b k n h1 x y (T + 1) ∧ ∃ z : Int, v = some (ni z) ∧ (-9 ≤ z ∧ z ≤ 1) ∧ ne_come c q h i a p c1 q1 h1 z) (fun _ _ => False) := by
  refine ne_meet (own := RX1) hl rfl (by decide +kernel) (Nat.le_of_ble_eq_true rfl) ?_
  intro D ct A P9 V9 R9 S9 M9 as9 bl9 mt9 C9 ad0 X hr hin ht
  obtain ⟨Ic, Iq, It, Ib, Itb, Ik, In, Ih, Ix, Iy⟩ := hI
  refine ne_lload_n X dX1_bring_0 rfl ?_
  refine ne_iload X dX1_bring_1 rfl ?_
  refine ne_callS X nw_Tg (me_X1_fits l hl _ _ _ (by omega) (by omega)) nw_yX1_fits nw_mX1_198 nw_sX1_fits dX1_bring_3 rfl rfl (by decide) (by decide) (by first | decide | omega) (by first | decide | omega) (Nat.le_of_ble_eq_true rfl) rfl rfl (Nat.le_of_ble_eq_true rfl) ?_ ?_
  rotate_left
  · rintro E9 w9 h9; exact h9.elim
  rintro v3 w3 ⟨rfl, z3, rfl, g3⟩
  refine ne_if_ne (tgt := 14) X dX1_bring_6 rfl (by omega) (fun b6 => ?_) (fun b6 => ?_)
  · refine ne_aload_n X dX1_bring_14 rfl ?_
    refine ne_getf X dX1_bring_15 nw_fX1_28 rfl rfl ?_
    refine ne_iconst X dX1_bring_18 ?_
    refine ne_dup2ai X dX1_bring_19 ?_
    refine ne_ialdR X dX1_bring_20 rfl (by omega) Ih (fun v20 e20 f20 u20 => ?_)
    refine ne_iconst X dX1_bring_21 ?_
    refine ne_iadd X dX1_bring_22 ?_
    refine ne_iastR X dX1_bring_23 rfl (by omega) (ne_rg_mono Ih (by omega) (by omega)) (a := 0) (b := T + 1) (by omega) (fun h23 hh23 Ih => ?_)
    refine ne_ws (ws' := cW c q t b k n h23 x y) rfl ?_
    refine ne_aload_n X dX1_bring_24 rfl ?_
    refine ne_getf X dX1_bring_25 nw_fX1_9 rfl rfl ?_
    refine ne_iload_n X dX1_bring_28 rfl ?_
    refine ne_ialdR X dX1_bring_29 rfl (by omega) Ic (fun v29 e29 f29 u29 => ?_)
    refine ne_i2l (by omega) X dX1_bring_30 ?_
    refine ne_lload_n X dX1_bring_31 rfl ?_
    refine ne_lcif_ne (tgt := 49) X dX1_bring_32 dX1_bring_33 rfl (by omega) (by omega) (fun b33 => ?_) (fun b33 => ?_)
    · refine ne_aload_n X dX1_bring_49 rfl ?_
      refine ne_getf X dX1_bring_50 nw_fX1_9 rfl rfl ?_
      refine ne_iload_n X dX1_bring_53 rfl ?_
      refine ne_lload_n X dX1_bring_54 rfl ?_
      refine ne_l2i X dX1_bring_55 ?_
      refine ne_iastR X dX1_bring_56 rfl (by omega) (ne_rg_mono Ic (by omega) (by omega)) (a := -999999) (b := 999999) (by omega) (fun c56 hc56 Ic => ?_)
      refine ne_ws (ws' := cW c56 q t b k n h23 x y) rfl ?_
      refine ne_aload_n X dX1_bring_57 rfl ?_
      refine ne_getf X dX1_bring_58 nw_fX1_13 rfl rfl ?_
      refine ne_iload_n X dX1_bring_61 rfl ?_
      refine ne_iload X dX1_bring_62 rfl ?_
      refine ne_iastR X dX1_bring_64 rfl (by omega) (ne_rg_mono Iq (by omega) (by omega)) (a := 0) (b := 3) (by omega) (fun q64 hq64 Iq => ?_)
      refine ne_ws (ws' := cW c56 q64 t b k n h23 x y) rfl ?_
      refine ne_iconst X dX1_bring_65 ?_
      exact ne_iret X hr (by first | rfl | decide | rfl) dX1_bring_66 ⟨_, _, _, rfl, ⟨Ic, Iq, It, Ib, Itb, Ik, In, Ih, Ix, Iy⟩, _, rfl, by omega, Or.inl ⟨by omega, hc56, hq64, (by rw [hh23, e20]; rfl), Or.inr ⟨rfl, by omega⟩⟩⟩
    · refine ne_aload_n X dX1_bring_36 rfl ?_
      refine ne_getf X dX1_bring_37 nw_fX1_13 rfl rfl ?_
      refine ne_iload_n X dX1_bring_40 rfl ?_
      refine ne_ialdR X dX1_bring_41 rfl (by omega) Iq (fun v41 e41 f41 u41 => ?_)
      refine ne_iload X dX1_bring_42 rfl ?_
      refine ne_icmp_ne (tgt := 49) X dX1_bring_44 rfl (by omega) (by omega) (fun b44 => ?_) (fun b44 => ?_)
      · refine ne_aload_n X dX1_bring_49 rfl ?_
        refine ne_getf X dX1_bring_50 nw_fX1_9 rfl rfl ?_
        refine ne_iload_n X dX1_bring_53 rfl ?_
        refine ne_lload_n X dX1_bring_54 rfl ?_
        refine ne_l2i X dX1_bring_55 ?_
        refine ne_iastR X dX1_bring_56 rfl (by omega) (ne_rg_mono Ic (by omega) (by omega)) (a := -999999) (b := 999999) (by omega) (fun c56 hc56 Ic => ?_)
        refine ne_ws (ws' := cW c56 q t b k n h23 x y) rfl ?_
        refine ne_aload_n X dX1_bring_57 rfl ?_
        refine ne_getf X dX1_bring_58 nw_fX1_13 rfl rfl ?_
        refine ne_iload_n X dX1_bring_61 rfl ?_
        refine ne_iload X dX1_bring_62 rfl ?_
        refine ne_iastR X dX1_bring_64 rfl (by omega) (ne_rg_mono Iq (by omega) (by omega)) (a := 0) (b := 3) (by omega) (fun q64 hq64 Iq => ?_)
        refine ne_ws (ws' := cW c56 q64 t b k n h23 x y) rfl ?_
        refine ne_iconst X dX1_bring_65 ?_
        exact ne_iret X hr (by first | rfl | decide | rfl) dX1_bring_66 ⟨_, _, _, rfl, ⟨Ic, Iq, It, Ib, Itb, Ik, In, Ih, Ix, Iy⟩, _, rfl, by omega, Or.inl ⟨by omega, hc56, hq64, (by rw [hh23, e20]; rfl), Or.inr ⟨rfl, by omega⟩⟩⟩
      · refine ne_iconst X dX1_bring_47 ?_
        exact ne_iret X hr (by first | rfl | decide | rfl) dX1_bring_48 ⟨_, _, _, rfl, ⟨Ic, Iq, It, Ib, Itb, Ik, In, Ih, Ix, Iy⟩, _, rfl, by omega, Or.inl ⟨by omega, (ne_upSame (by omega)).symm, (ne_upSame (by omega)).symm, (by rw [hh23, e20]; rfl), Or.inl ⟨rfl, by omega, by omega⟩⟩⟩
  · refine ne_aload_n X dX1_bring_9 rfl ?_
    refine ne_callV X nw_Tg (me_X1_decline l hl c q t b k n h x y T (by exact ⟨Ic, Iq, It, Ib, Itb, Ik, In, Ih, Ix, Iy⟩) (by omega) ) nw_yX1_decline nw_mX1_80 nw_iX1_decline nw_eX1_decline (ci := 3) rfl rfl rfl dX1_bring_10 rfl rfl (by decide) (by decide) (by first | decide | omega) (by first | decide | omega) (Nat.le_of_ble_eq_true rfl) rfl rfl (Nat.le_of_ble_eq_true rfl) ?_ ?_
    rotate_left
    · rintro E9 w9 h9; exact h9.elim
    rintro v10 w10 ⟨h10, rfl, p10, Ih, rfl⟩
    exact ne_iret X hr (by first | rfl | decide | rfl) dX1_bring_13 ⟨_, _, _, rfl, ⟨Ic, Iq, It, Ib, Itb, Ik, In, Ih, Ix, Iy⟩, _, rfl, by omega, Or.inr ⟨by omega, rfl, rfl, p10, rfl⟩⟩
set_option maxRecDepth 100000 in
set_option maxHeartbeats 4000000 in
theorem me_X1_bringAtX (l : Launch) (hl : l.stackTraces = false) (c q t b k n h x y : Nat → Int) (T : Int) (hI : cI c q t b k n h x y T) (hT : 0 ≤ T ∧ T ≤ 1000000) (i a p : Int) (hi : 0 ≤ i ∧ i < 4) (ha : -10000000 ≤ a ∧ a ≤ 10000000) (hp : -6 ≤ p ∧ p ≤ 9) : ne_M l nw_cl (.code yX1_bringAt cX1_bringAt 5 (some .int)) nw_T yX1_bringAt 2 70 0 0 [.ref 0, ni i, nl a, ni p] (cW c q t b k n h x y) (fun v w => ∃ c1 q1 h1, w = cW c1 q1 t b k n h1 x y ∧ cI c1 q1 t b k n h1 x y (T + 1) ∧ ∃ z : Int, v = some (ni z) ∧ (-9 ≤ z ∧ z ≤ 1) ∧ ne_cat c q h i a p c1 q1 h1 z) (fun _ _ => False) := by
  refine ne_meet (own := RX1) hl rfl (by decide +kernel) (Nat.le_of_ble_eq_true rfl) ?_
  intro D ct A P9 V9 R9 S9 M9 as9 bl9 mt9 C9 ad0 X hr hin ht
  obtain ⟨Ic, Iq, It, Ib, Itb, Ik, In, Ih, Ix, Iy⟩ := hI
  refine ne_iload X dX1_bringAt_0 rfl ?_
  refine ne_if_ge (tgt := 22) X dX1_bringAt_2 rfl (by omega) (fun b2 => ?_) (fun b2 => ?_)
  · refine ne_aload_n X dX1_bringAt_22 rfl ?_
    refine ne_iload_n X dX1_bringAt_23 rfl ?_
    refine ne_lload_n X dX1_bringAt_24 rfl ?_
    refine ne_iload X dX1_bringAt_25 rfl ?_
    refine ne_callV X nw_Tg (me_X1_bringX l hl c q t b k n h x y T (by exact ⟨Ic, Iq, It, Ib, Itb, Ik, In, Ih, Ix, Iy⟩) (by omega) _ _ _ (by omega) (by omega) (by omega)) nw_yX1_bring nw_mX1_55 nw_iX1_bring nw_eX1_bring (ci := 3) rfl rfl rfl dX1_bringAt_27 rfl rfl (by decide) (by decide) (by first | decide | omega) (by first | decide | omega) (Nat.le_of_ble_eq_true rfl) rfl rfl (Nat.le_of_ble_eq_true rfl) ?_ ?_
    rotate_left
    · rintro E9 w9 h9; exact h9.elim
    rintro v27 w27 ⟨c27, q27, h27, rfl, hI27, z27, rfl, z927, G27⟩
    exact ne_iret X hr (by first | rfl | decide | rfl) dX1_bringAt_30 (by first | exact ⟨_, _, _, rfl, hI16, _, rfl, z916, Or.inl ⟨by omega, by rw [g11] at G16; exact G16⟩⟩ | exact ⟨_, _, _, rfl, hI27, _, rfl, z927, Or.inr ⟨by omega, G27⟩⟩)
  · refine ne_aload_n X dX1_bringAt_5 rfl ?_
    refine ne_iload_n X dX1_bringAt_6 rfl ?_
    refine ne_lload_n X dX1_bringAt_7 rfl ?_
    refine ne_iload X dX1_bringAt_8 rfl ?_
    refine ne_ineg X dX1_bringAt_10 ?_
    refine ne_callS X nw_Tg (me_X1_tenTo l hl _ _ (by omega)) nw_yX1_tenTo nw_mX1_59 nw_sX1_tenTo dX1_bringAt_11 rfl rfl (by decide) (by decide) (by first | decide | omega) (by first | decide | omega) (Nat.le_of_ble_eq_true rfl) rfl rfl (Nat.le_of_ble_eq_true rfl) ?_ ?_
    rotate_left
    · rintro E9 w9 h9; exact h9.elim
    rintro v11 w11 ⟨rfl, z11, rfl, g11, k11, i11, j11, o11⟩
    clear i11 j11 o11
    have q11 : z11 ≤ 1000000 := by rw [g11]; exact ne_p10r 6 _ (by omega)
    have m11 := ne_mul a z11 10000000 1000000 (by omega) (by omega)
    refine ne_lmul X dX1_bringAt_14 ?_
    refine ne_iconst X dX1_bringAt_15 ?_
    refine ne_callV X nw_Tg (me_X1_bringX l hl c q t b k n h x y T (by exact ⟨Ic, Iq, It, Ib, Itb, Ik, In, Ih, Ix, Iy⟩) (by omega) _ _ _ (by omega) (by omega) (by omega)) nw_yX1_bring nw_mX1_55 nw_iX1_bring nw_eX1_bring (ci := 3) rfl rfl rfl dX1_bringAt_16 rfl rfl (by decide) (by decide) (by first | decide | omega) (by first | decide | omega) (Nat.le_of_ble_eq_true rfl) rfl rfl (Nat.le_of_ble_eq_true rfl) ?_ ?_
    rotate_left
    · rintro E9 w9 h9; exact h9.elim
    rintro v16 w16 ⟨c16, q16, h16, rfl, hI16, z16, rfl, z916, G16⟩
    refine ne_goto (tgt := 30) X dX1_bringAt_19 rfl ?_
    exact ne_iret X hr (by first | rfl | decide | rfl) dX1_bringAt_30 (by first | exact ⟨_, _, _, rfl, hI16, _, rfl, z916, Or.inl ⟨by omega, by rw [g11] at G16; exact G16⟩⟩ | exact ⟨_, _, _, rfl, hI27, _, rfl, z927, Or.inr ⟨by omega, G27⟩⟩)
set_option maxRecDepth 100000 in
set_option maxHeartbeats 4000000 in
theorem me_X1_cutCountX (l : Launch) (hl : l.stackTraces = false) (c q t b k n h x y : Nat → Int) (T : Int) (hI : cI c q t b k n h x y T) (hT : 0 ≤ T ∧ T ≤ 1000000) (i m p w0 : Int) (hi : 0 ≤ i ∧ i < 3) (hm : 0 ≤ m ∧ m ≤ 1) (hp : 0 ≤ p ∧ p ≤ 3) (hw : 0 ≤ w0 ∧ w0 ≤ 7) : ne_M l nw_cl (.code yX1_cutCount cX1_cutCount 7 (some .long)) nw_T yX1_cutCount 3 110 0 0 [.ref 0, ni i, ni m, ni p, ni w0] (cW c q t b k n h x y) (fun v w => w = cW c q t b k n h x y ∧ ∃ z : Int, v = some (nl z) ∧ ((z = -9000000000000000000 ∧ w0 = 7 ∧ ne_rx (ne_cv (t i.toNat) m p) (b i.toNat)) ∨ (ne_rd (ne_cv (t i.toNat) m p) (b i.toNat) w0 z ∧ -98000 - 1 ≤ z ∧ z ≤ 98000 + 1))) (fun _ _ => False) := by
  refine ne_meet (own := RX1) hl rfl (by decide +kernel) (Nat.le_of_ble_eq_true rfl) ?_
  intro D ct A P9 V9 R9 S9 M9 as9 bl9 mt9 C9 ad0 X hr hin ht
  obtain ⟨Ic, Iq, It, Ib, Itb, Ik, In, Ih, Ix, Iy⟩ := hI
  refine ne_aload_n X dX1_cutCount_0 rfl ?_
  refine ne_getf X dX1_cutCount_1 nw_fX1_16 rfl rfl ?_
  refine ne_iload_n X dX1_cutCount_4 rfl ?_
  refine ne_ialdR X dX1_cutCount_5 rfl (by omega) It (fun v5 e5 f5 u5 => ?_)
  refine ne_i2l (by omega) X dX1_cutCount_6 ?_
  refine ne_iload_n X dX1_cutCount_7 rfl ?_
  refine ne_callS X nw_Tg (me_X1_tenTo l hl _ _ (by omega)) nw_yX1_tenTo nw_mX1_59 nw_sX1_tenTo dX1_cutCount_8 rfl rfl (by decide) (by decide) (by first | decide | omega) (by first | decide | omega) (Nat.le_of_ble_eq_true rfl) rfl rfl (Nat.le_of_ble_eq_true rfl) ?_ ?_
  rotate_left
  · rintro E9 w9 h9; exact h9.elim
  rintro v8 w8 ⟨rfl, z8, rfl, g8, k8, i8, j8, o8⟩
  have t89 := i8 (by omega)
  clear i8 j8 o8
  have m8 := ne_mul v5 z8 98 1000 (by omega) (by omega)
  refine ne_lmul X dX1_cutCount_11 ?_
  refine ne_lstore X dX1_cutCount_12 (by decide) ?_
  refine ne_iload_n X dX1_cutCount_14 rfl ?_
  refine ne_if_eq (tgt := 24) X dX1_cutCount_15 rfl (by omega) (fun b15 => ?_) (fun b15 => ?_)
  · refine ne_lload X dX1_cutCount_24 rfl ?_
    refine ne_aload_n X dX1_cutCount_26 rfl ?_
    refine ne_getf X dX1_cutCount_27 nw_fX1_19 rfl rfl ?_
    refine ne_iload_n X dX1_cutCount_30 rfl ?_
    refine ne_ialdR X dX1_cutCount_31 rfl (by omega) Ib (fun v31 e31 f31 u31 => ?_)
    refine ne_i2l (by omega) X dX1_cutCount_32 ?_
    refine ne_iload X dX1_cutCount_33 rfl ?_
    refine ne_callS X nw_Tg (me_X1_roundedX l hl _ 98000 _ _ _ (by omega) (by omega) (by omega) (by omega)) nw_yX1_rounded nw_mX1_84 nw_sX1_rounded dX1_cutCount_35 rfl rfl (by decide) (by decide) (by first | decide | omega) (by first | decide | omega) (Nat.le_of_ble_eq_true rfl) rfl rfl (Nat.le_of_ble_eq_true rfl) ?_ ?_
    rotate_left
    · rintro E9 w9 h9; exact h9.elim
    rintro v35 w35 ⟨rfl, z35, rfl, g35⟩
    exact ne_lret X hr dX1_cutCount_38 ⟨rfl, _, rfl, (by unfold ne_cv; (first | rw [if_pos b15] | rw [if_neg b15]); rw [← e5, ← g8, ← e31]; exact g35)⟩
  · refine ne_lload X dX1_cutCount_18 rfl ?_
    refine ne_lneg X dX1_cutCount_20 ?_
    refine ne_goto (tgt := 26) X dX1_cutCount_21 rfl ?_
    refine ne_aload_n X dX1_cutCount_26 rfl ?_
    refine ne_getf X dX1_cutCount_27 nw_fX1_19 rfl rfl ?_
    refine ne_iload_n X dX1_cutCount_30 rfl ?_
    refine ne_ialdR X dX1_cutCount_31 rfl (by omega) Ib (fun v31 e31 f31 u31 => ?_)
    refine ne_i2l (by omega) X dX1_cutCount_32 ?_
    refine ne_iload X dX1_cutCount_33 rfl ?_
    refine ne_callS X nw_Tg (me_X1_roundedX l hl _ 98000 _ _ _ (by omega) (by omega) (by omega) (by omega)) nw_yX1_rounded nw_mX1_84 nw_sX1_rounded dX1_cutCount_35 rfl rfl (by decide) (by decide) (by first | decide | omega) (by first | decide | omega) (Nat.le_of_ble_eq_true rfl) rfl rfl (Nat.le_of_ble_eq_true rfl) ?_ ?_
    rotate_left
    · rintro E9 w9 h9; exact h9.elim
    rintro v35 w35 ⟨rfl, z35, rfl, g35⟩
    exact ne_lret X hr dX1_cutCount_38 ⟨rfl, _, rfl, (by unfold ne_cv; (first | rw [if_pos b15] | rw [if_neg b15]); rw [← e5, ← g8, ← e31]; exact g35)⟩
set_option maxRecDepth 100000 in
set_option maxHeartbeats 4000000 in
theorem me_X3_nayX (l : Launch) (hl : l.stackTraces = false) (c q t b k h : Nat → Int) (vt T : Int) (hI : mI c q t b k h vt T) (hT : 0 ≤ T ∧ T ≤ 1000000)  : ne_M l nw_cl (.code yX3_nay cX3_nay 1 (some .int)) nw_T yX3_nay 0 0 0 0 [.ref 0] (mW c q t b k h vt) (fun v w => ∃ h1, w = mW c q t b k h1 vt ∧ ne_rg h1 0 (T + 1) ∧ h1 = va_up h 2 (h 2 + 1) ∧ v = some (ni (-9))) (fun _ _ => False) := by
  refine ne_meet (own := RX3) hl rfl (by decide +kernel) (Nat.le_of_ble_eq_true rfl) ?_
  intro D ct A P9 V9 R9 S9 M9 as9 bl9 mt9 C9 ad0 X hr hin ht
  obtain ⟨Ic, Iq, It, Ib, Itb, Igb, Ik, Ih, Iv⟩ := hI
  refine ne_aload_n X dX3_nay_0 rfl ?_
  refine ne_getf X dX3_nay_1 nw_fX3_27 rfl rfl ?_
  refine ne_iconst X dX3_nay_4 ?_
  refine ne_dup2ai X dX3_nay_5 ?_
  refine ne_ialdR X dX3_nay_6 rfl (by omega) Ih (fun v6 e6 f6 u6 => ?_)
  refine ne_iconst X dX3_nay_7 ?_
  refine ne_iadd X dX3_nay_8 ?_
  refine ne_iastR X dX3_nay_9 rfl (by omega) (ne_rg_mono Ih (by omega) (by omega)) (a := 0) (b := T + 1) (by omega) (fun h9 hh9 Ih => ?_)
  refine ne_ws (ws' := mW c q t b k h9 vt) rfl ?_
  refine ne_bipush (v := -9) (by decide) X dX3_nay_10 ?_
  exact ne_iret X hr (by first | rfl | decide | rfl) dX3_nay_12 ⟨_, rfl, Ih, (by rw [hh9, e6]; rfl), rfl⟩
set_option maxRecDepth 100000 in
set_option maxHeartbeats 4000000 in
theorem me_X3_comeX (l : Launch) (hl : l.stackTraces = false) (c q t b k h : Nat → Int) (vt T : Int) (hI : mI c q t b k h vt T) (hT : 0 ≤ T ∧ T ≤ 1000000) (i a p : Int) (hi : 0 ≤ i ∧ i < 4) (ha : -9223372036854775808 ≤ a ∧ a < 9223372036854775808) (hp : 0 ≤ p ∧ p < 2147483648) : ne_M l nw_cl (.code yX3_come cX3_come 6 (some .int)) nw_T yX3_come 2 80 0 0 [.ref 0, ni i, nl a, ni p] (mW c q t b k h vt) (fun v w => ∃ c1 q1 h1, w = mW c1 q1 t b k h1 vt ∧ mI c1 q1 t b k h1 vt (T + 1) ∧ ∃ z : Int, v = some (ni z) ∧ (-9 ≤ z ∧ z ≤ 1) ∧ ne_come c q h i a p c1 q1 h1 z) (fun _ _ => False) := by
  refine ne_meet (own := RX3) hl rfl (by decide +kernel) (Nat.le_of_ble_eq_true rfl) ?_
  intro D ct A P9 V9 R9 S9 M9 as9 bl9 mt9 C9 ad0 X hr hin ht
  obtain ⟨Ic, Iq, It, Ib, Itb, Igb, Ik, Ih, Iv⟩ := hI
  refine ne_lload_n X dX3_come_0 rfl ?_
  refine ne_ldc2 (z := -9223372036854775808) (by decide) nw_cX3_44 X dX3_come_1 ?_
  refine ne_lcif_eq (tgt := 25) X dX3_come_4 dX3_come_5 rfl (by omega) (by omega) (fun b5 => ?_) (fun b5 => ?_)
  · refine ne_aload_n X dX3_come_25 rfl ?_
    refine ne_callV X nw_Tg (me_X3_nayX l hl c q t b k h vt T (by exact ⟨Ic, Iq, It, Ib, Itb, Igb, Ik, Ih, Iv⟩) (by omega)) nw_yX3_nay nw_mX3_54 nw_iX3_nay nw_eX3_nay (ci := 5) rfl rfl rfl dX3_come_26 rfl rfl (by decide) (by decide) (by first | decide | omega) (by first | decide | omega) (Nat.le_of_ble_eq_true rfl) rfl rfl (Nat.le_of_ble_eq_true rfl) ?_ ?_
    rotate_left
    · rintro E9 w9 h9; exact h9.elim
    rintro v26 w26 ⟨h26, rfl, Ih, p26, rfl⟩
    exact ne_iret X hr (by first | rfl | decide | rfl) dX3_come_29 ⟨_, _, _, rfl, ⟨Ic, Iq, It, Ib, Itb, Igb, Ik, Ih, Iv⟩, _, rfl, by omega, Or.inr ⟨by omega, rfl, rfl, p26, rfl⟩⟩
  · refine ne_lload_n X dX3_come_8 rfl ?_
    refine ne_callS X nw_Tg (me_X3_sizeOf l hl _ _ (by omega)) nw_yX3_sizeOf nw_mX3_40 nw_sX3_sizeOf dX3_come_9 rfl rfl (by decide) (by decide) (by first | decide | omega) (by first | decide | omega) (Nat.le_of_ble_eq_true rfl) rfl rfl (Nat.le_of_ble_eq_true rfl) ?_ ?_
    rotate_left
    · rintro E9 w9 h9; exact h9.elim
    rintro v9 w9 ⟨rfl, z9, rfl, g9⟩
    refine ne_ldc2 (z := 999999) (by decide) nw_cX3_52 X dX3_come_12 ?_
    refine ne_lcif_gt (tgt := 25) X dX3_come_15 dX3_come_16 rfl (by omega) (by omega) (fun b16 => ?_) (fun b16 => ?_)
    · refine ne_aload_n X dX3_come_25 rfl ?_
      refine ne_callV X nw_Tg (me_X3_nayX l hl c q t b k h vt T (by exact ⟨Ic, Iq, It, Ib, Itb, Igb, Ik, Ih, Iv⟩) (by omega)) nw_yX3_nay nw_mX3_54 nw_iX3_nay nw_eX3_nay (ci := 5) rfl rfl rfl dX3_come_26 rfl rfl (by decide) (by decide) (by first | decide | omega) (by first | decide | omega) (Nat.le_of_ble_eq_true rfl) rfl rfl (Nat.le_of_ble_eq_true rfl) ?_ ?_
      rotate_left
      · rintro E9 w9 h9; exact h9.elim
      rintro v26 w26 ⟨h26, rfl, Ih, p26, rfl⟩
      exact ne_iret X hr (by first | rfl | decide | rfl) dX3_come_29 ⟨_, _, _, rfl, ⟨Ic, Iq, It, Ib, Itb, Igb, Ik, Ih, Iv⟩, _, rfl, by omega, Or.inr ⟨by omega, rfl, rfl, p26, rfl⟩⟩
    · refine ne_iload X dX3_come_19 rfl ?_
      refine ne_iconst X dX3_come_21 ?_
      refine ne_icmp_le (tgt := 30) X dX3_come_22 rfl (by omega) (by omega) (fun b22 => ?_) (fun b22 => ?_)
      · refine ne_aload_n X dX3_come_30 rfl ?_
        refine ne_getf X dX3_come_31 nw_fX3_9 rfl rfl ?_
        refine ne_iload_n X dX3_come_34 rfl ?_
        refine ne_ialdR X dX3_come_35 rfl (by omega) Ic (fun v35 e35 f35 u35 => ?_)
        refine ne_i2l (by omega) X dX3_come_36 ?_
        refine ne_lload_n X dX3_come_37 rfl ?_
        refine ne_lcif_ne (tgt := 57) X dX3_come_38 dX3_come_39 rfl (by omega) (by omega) (fun b39 => ?_) (fun b39 => ?_)
        · refine ne_iconst X dX3_come_57 ?_
          refine ne_istore X dX3_come_58 (by decide) ?_
          refine ne_aload_n X dX3_come_60 rfl ?_
          refine ne_getf X dX3_come_61 nw_fX3_9 rfl rfl ?_
          refine ne_iload_n X dX3_come_64 rfl ?_
          refine ne_lload_n X dX3_come_65 rfl ?_
          refine ne_l2i X dX3_come_66 ?_
          refine ne_iastR X dX3_come_67 rfl (by omega) (ne_rg_mono Ic (by omega) (by omega)) (a := -999999) (b := 999999) (by omega) (fun c67 hc67 Ic => ?_)
          refine ne_ws (ws' := mW c67 q t b k h vt) rfl ?_
          refine ne_aload_n X dX3_come_68 rfl ?_
          refine ne_getf X dX3_come_69 nw_fX3_15 rfl rfl ?_
          refine ne_iload_n X dX3_come_72 rfl ?_
          refine ne_iload X dX3_come_73 rfl ?_
          refine ne_iastR X dX3_come_75 rfl (by omega) (ne_rg_mono Iq (by omega) (by omega)) (a := 0) (b := 3) (by omega) (fun q75 hq75 Iq => ?_)
          refine ne_ws (ws' := mW c67 q75 t b k h vt) rfl ?_
          refine ne_aload_n X dX3_come_76 rfl ?_
          refine ne_getf X dX3_come_77 nw_fX3_27 rfl rfl ?_
          refine ne_iconst X dX3_come_80 ?_
          refine ne_dup2ai X dX3_come_81 ?_
          refine ne_ialdR X dX3_come_82 rfl (by omega) Ih (fun v82 e82 f82 u82 => ?_)
          refine ne_iconst X dX3_come_83 ?_
          refine ne_iadd X dX3_come_84 ?_
          refine ne_iastR X dX3_come_85 rfl (by omega) (ne_rg_mono Ih (by omega) (by omega)) (a := 0) (b := T + 1) (by omega) (fun h85 hh85 Ih => ?_)
          refine ne_ws (ws' := mW c67 q75 t b k h85 vt) rfl ?_
          refine ne_iload X dX3_come_86 rfl ?_
          refine ne_if_eq (tgt := 95) X dX3_come_88 rfl (by omega) (fun b88 => ?_) (fun b88 => ?_)
          · refine ne_iconst X dX3_come_95 ?_
            exact ne_iret X hr (by first | rfl | decide | rfl) dX3_come_96 (by first | exact ⟨_, _, _, rfl, ⟨Ic, Iq, It, Ib, Itb, Igb, Ik, Ih, Iv⟩, _, rfl, by omega, Or.inl ⟨by omega, hc67, hq75, (by rw [hh85, e82]; rfl), Or.inl ⟨rfl, by omega, by omega⟩⟩⟩ | exact ⟨_, _, _, rfl, ⟨Ic, Iq, It, Ib, Itb, Igb, Ik, Ih, Iv⟩, _, rfl, by omega, Or.inl ⟨by omega, hc67, hq75, (by rw [hh85, e82]; rfl), Or.inr ⟨rfl, by omega⟩⟩⟩)
          · exfalso; omega
        · refine ne_aload_n X dX3_come_42 rfl ?_
          refine ne_getf X dX3_come_43 nw_fX3_15 rfl rfl ?_
          refine ne_iload_n X dX3_come_46 rfl ?_
          refine ne_ialdR X dX3_come_47 rfl (by omega) Iq (fun v47 e47 f47 u47 => ?_)
          refine ne_iload X dX3_come_48 rfl ?_
          refine ne_icmp_ne (tgt := 57) X dX3_come_50 rfl (by omega) (by omega) (fun b50 => ?_) (fun b50 => ?_)
          · refine ne_iconst X dX3_come_57 ?_
            refine ne_istore X dX3_come_58 (by decide) ?_
            refine ne_aload_n X dX3_come_60 rfl ?_
            refine ne_getf X dX3_come_61 nw_fX3_9 rfl rfl ?_
            refine ne_iload_n X dX3_come_64 rfl ?_
            refine ne_lload_n X dX3_come_65 rfl ?_
            refine ne_l2i X dX3_come_66 ?_
            refine ne_iastR X dX3_come_67 rfl (by omega) (ne_rg_mono Ic (by omega) (by omega)) (a := -999999) (b := 999999) (by omega) (fun c67 hc67 Ic => ?_)
            refine ne_ws (ws' := mW c67 q t b k h vt) rfl ?_
            refine ne_aload_n X dX3_come_68 rfl ?_
            refine ne_getf X dX3_come_69 nw_fX3_15 rfl rfl ?_
            refine ne_iload_n X dX3_come_72 rfl ?_
            refine ne_iload X dX3_come_73 rfl ?_
            refine ne_iastR X dX3_come_75 rfl (by omega) (ne_rg_mono Iq (by omega) (by omega)) (a := 0) (b := 3) (by omega) (fun q75 hq75 Iq => ?_)
            refine ne_ws (ws' := mW c67 q75 t b k h vt) rfl ?_
            refine ne_aload_n X dX3_come_76 rfl ?_
            refine ne_getf X dX3_come_77 nw_fX3_27 rfl rfl ?_
            refine ne_iconst X dX3_come_80 ?_
            refine ne_dup2ai X dX3_come_81 ?_
            refine ne_ialdR X dX3_come_82 rfl (by omega) Ih (fun v82 e82 f82 u82 => ?_)
            refine ne_iconst X dX3_come_83 ?_
            refine ne_iadd X dX3_come_84 ?_
            refine ne_iastR X dX3_come_85 rfl (by omega) (ne_rg_mono Ih (by omega) (by omega)) (a := 0) (b := T + 1) (by omega) (fun h85 hh85 Ih => ?_)
            refine ne_ws (ws' := mW c67 q75 t b k h85 vt) rfl ?_
            refine ne_iload X dX3_come_86 rfl ?_
            refine ne_if_eq (tgt := 95) X dX3_come_88 rfl (by omega) (fun b88 => ?_) (fun b88 => ?_)
            · refine ne_iconst X dX3_come_95 ?_
              exact ne_iret X hr (by first | rfl | decide | rfl) dX3_come_96 (by first | exact ⟨_, _, _, rfl, ⟨Ic, Iq, It, Ib, Itb, Igb, Ik, Ih, Iv⟩, _, rfl, by omega, Or.inl ⟨by omega, hc67, hq75, (by rw [hh85, e82]; rfl), Or.inl ⟨rfl, by omega, by omega⟩⟩⟩ | exact ⟨_, _, _, rfl, ⟨Ic, Iq, It, Ib, Itb, Igb, Ik, Ih, Iv⟩, _, rfl, by omega, Or.inl ⟨by omega, hc67, hq75, (by rw [hh85, e82]; rfl), Or.inr ⟨rfl, by omega⟩⟩⟩)
            · exfalso; omega
          · refine ne_iconst X dX3_come_53 ?_
            refine ne_goto (tgt := 58) X dX3_come_54 rfl ?_
            refine ne_istore X dX3_come_58 (by decide) ?_
            refine ne_aload_n X dX3_come_60 rfl ?_
            refine ne_getf X dX3_come_61 nw_fX3_9 rfl rfl ?_
            refine ne_iload_n X dX3_come_64 rfl ?_
            refine ne_lload_n X dX3_come_65 rfl ?_
            refine ne_l2i X dX3_come_66 ?_
            refine ne_iastR X dX3_come_67 rfl (by omega) (ne_rg_mono Ic (by omega) (by omega)) (a := -999999) (b := 999999) (by omega) (fun c67 hc67 Ic => ?_)
            refine ne_ws (ws' := mW c67 q t b k h vt) rfl ?_
            refine ne_aload_n X dX3_come_68 rfl ?_
            refine ne_getf X dX3_come_69 nw_fX3_15 rfl rfl ?_
            refine ne_iload_n X dX3_come_72 rfl ?_
            refine ne_iload X dX3_come_73 rfl ?_
            refine ne_iastR X dX3_come_75 rfl (by omega) (ne_rg_mono Iq (by omega) (by omega)) (a := 0) (b := 3) (by omega) (fun q75 hq75 Iq => ?_)
            refine ne_ws (ws' := mW c67 q75 t b k h vt) rfl ?_
            refine ne_aload_n X dX3_come_76 rfl ?_
            refine ne_getf X dX3_come_77 nw_fX3_27 rfl rfl ?_
            refine ne_iconst X dX3_come_80 ?_
            refine ne_dup2ai X dX3_come_81 ?_
            refine ne_ialdR X dX3_come_82 rfl (by omega) Ih (fun v82 e82 f82 u82 => ?_)
            refine ne_iconst X dX3_come_83 ?_
            refine ne_iadd X dX3_come_84 ?_
            refine ne_iastR X dX3_come_85 rfl (by omega) (ne_rg_mono Ih (by omega) (by omega)) (a := 0) (b := T + 1) (by omega) (fun h85 hh85 Ih => ?_)
            refine ne_ws (ws' := mW c67 q75 t b k h85 vt) rfl ?_
            refine ne_iload X dX3_come_86 rfl ?_
            refine ne_if_eq (tgt := 95) X dX3_come_88 rfl (by omega) (fun b88 => ?_) (fun b88 => ?_)
            · exfalso; omega
            · refine ne_iconst X dX3_come_91 ?_
              refine ne_goto (tgt := 96) X dX3_come_92 rfl ?_
              exact ne_iret X hr (by first | rfl | decide | rfl) dX3_come_96 (by first | exact ⟨_, _, _, rfl, ⟨Ic, Iq, It, Ib, Itb, Igb, Ik, Ih, Iv⟩, _, rfl, by omega, Or.inl ⟨by omega, hc67, hq75, (by rw [hh85, e82]; rfl), Or.inl ⟨rfl, by omega, by omega⟩⟩⟩ | exact ⟨_, _, _, rfl, ⟨Ic, Iq, It, Ib, Itb, Igb, Ik, Ih, Iv⟩, _, rfl, by omega, Or.inl ⟨by omega, hc67, hq75, (by rw [hh85, e82]; rfl), Or.inr ⟨rfl, by omega⟩⟩⟩)
      · refine ne_aload_n X dX3_come_25 rfl ?_
        refine ne_callV X nw_Tg (me_X3_nayX l hl c q t b k h vt T (by exact ⟨Ic, Iq, It, Ib, Itb, Igb, Ik, Ih, Iv⟩) (by omega)) nw_yX3_nay nw_mX3_54 nw_iX3_nay nw_eX3_nay (ci := 5) rfl rfl rfl dX3_come_26 rfl rfl (by decide) (by decide) (by first | decide | omega) (by first | decide | omega) (Nat.le_of_ble_eq_true rfl) rfl rfl (Nat.le_of_ble_eq_true rfl) ?_ ?_
        rotate_left
        · rintro E9 w9 h9; exact h9.elim
        rintro v26 w26 ⟨h26, rfl, Ih, p26, rfl⟩
        exact ne_iret X hr (by first | rfl | decide | rfl) dX3_come_29 ⟨_, _, _, rfl, ⟨Ic, Iq, It, Ib, Itb, Igb, Ik, Ih, Iv⟩, _, rfl, by omega, Or.inr ⟨by omega, rfl, rfl, p26, rfl⟩⟩
set_option maxRecDepth 100000 in
set_option maxHeartbeats 4000000 in
theorem me_X3_unitsX (l : Launch) (hl : l.stackTraces = false) (c q t b k h : Nat → Int) (vt T : Int) (hI : mI c q t b k h vt T) (hT : 0 ≤ T ∧ T ≤ 1000000) (i p : Int) (hi : 0 ≤ i ∧ i < 4) (hp : 0 ≤ p ∧ p ≤ 3) : ne_M l nw_cl (.code yX3_units cX3_units 3 (some .long)) nw_T yX3_units 1 40 0 0 [.ref 0, ni i, ni p] (mW c q t b k h vt) (fun v w => w = mW c q t b k h vt ∧ ∃ z : Int, v = some (nl z) ∧ z = c i.toNat * 10 ^ (p - q i.toNat).toNat ∧ -1000000000 ≤ z ∧ z ≤ 1000000000) (fun _ _ => False) := by
  refine ne_meet (own := RX3) hl rfl (by decide +kernel) (Nat.le_of_ble_eq_true rfl) ?_
  intro D ct A P9 V9 R9 S9 M9 as9 bl9 mt9 C9 ad0 X hr hin ht
  obtain ⟨Ic, Iq, It, Ib, Itb, Igb, Ik, Ih, Iv⟩ := hI
  refine ne_aload_n X dX3_units_0 rfl ?_
  refine ne_getf X dX3_units_1 nw_fX3_9 rfl rfl ?_
  refine ne_iload_n X dX3_units_4 rfl ?_
  refine ne_ialdR X dX3_units_5 rfl (by omega) Ic (fun v5 e5 f5 u5 => ?_)
  refine ne_i2l (by omega) X dX3_units_6 ?_
  refine ne_iload_n X dX3_units_7 rfl ?_
  refine ne_aload_n X dX3_units_8 rfl ?_
  refine ne_getf X dX3_units_9 nw_fX3_15 rfl rfl ?_
  refine ne_iload_n X dX3_units_12 rfl ?_
  refine ne_ialdR X dX3_units_13 rfl (by omega) Iq (fun v13 e13 f13 u13 => ?_)
  refine ne_isub X dX3_units_14 ?_
  refine ne_callS X nw_Tg (me_X3_ten l hl _ _ (by omega)) nw_yX3_ten nw_mX3_58 nw_sX3_ten dX3_units_15 rfl rfl (by decide) (by decide) (by first | decide | omega) (by first | decide | omega) (Nat.le_of_ble_eq_true rfl) rfl rfl (Nat.le_of_ble_eq_true rfl) ?_ ?_
  rotate_left
  · rintro E9 w9 h9; exact h9.elim
  rintro v15 w15 ⟨rfl, z15, rfl, g15, k15, i15, j15, m15, o15, p15⟩
  have t159 := i15 (by omega)
  clear i15 j15 m15 o15 p15
  have m15 := ne_mul v5 z15 999999 1000 (by omega) (by omega)
  refine ne_lmul X dX3_units_18 ?_
  exact ne_lret X hr dX3_units_19 ⟨rfl, _, rfl, by rw [g15, e5, e13], by omega, by omega⟩
set_option maxRecDepth 100000 in
set_option maxHeartbeats 4000000 in
theorem me_X3_mostX (l : Launch) (hl : l.stackTraces = false) (c q t b k h : Nat → Int) (vt T : Int) (hI : mI c q t b k h vt T) (hT : 0 ≤ T ∧ T ≤ 1000000) (i j : Int) (hi : 0 ≤ i ∧ i < 4) (hj : 0 ≤ j ∧ j < 4) : ne_M l nw_cl (.code yX3_most cX3_most 3 (some .int)) nw_T yX3_most 0 0 0 0 [.ref 0, ni i, ni j] (mW c q t b k h vt) (fun v w => w = mW c q t b k h vt ∧ ∃ z : Int, v = some (ni z) ∧ z = (if q i.toNat < q j.toNat then q j.toNat else q i.toNat) ∧ 0 ≤ z ∧ z ≤ 3) (fun _ _ => False) := by
  refine ne_meet (own := RX3) hl rfl (by decide +kernel) (Nat.le_of_ble_eq_true rfl) ?_
  intro D ct A P9 V9 R9 S9 M9 as9 bl9 mt9 C9 ad0 X hr hin ht
  obtain ⟨Ic, Iq, It, Ib, Itb, Igb, Ik, Ih, Iv⟩ := hI
  refine ne_aload_n X dX3_most_0 rfl ?_
  refine ne_getf X dX3_most_1 nw_fX3_15 rfl rfl ?_
  refine ne_iload_n X dX3_most_4 rfl ?_
  refine ne_ialdR X dX3_most_5 rfl (by omega) Iq (fun v5 e5 f5 u5 => ?_)
  refine ne_aload_n X dX3_most_6 rfl ?_
  refine ne_getf X dX3_most_7 nw_fX3_15 rfl rfl ?_
  refine ne_iload_n X dX3_most_10 rfl ?_
  refine ne_ialdR X dX3_most_11 rfl (by omega) Iq (fun v11 e11 f11 u11 => ?_)
  refine ne_icmp_le (tgt := 24) X dX3_most_12 rfl (by omega) (by omega) (fun b12 => ?_) (fun b12 => ?_)
  · refine ne_aload_n X dX3_most_24 rfl ?_
    refine ne_getf X dX3_most_25 nw_fX3_15 rfl rfl ?_
    refine ne_iload_n X dX3_most_28 rfl ?_
    refine ne_ialdR X dX3_most_29 rfl (by omega) Iq (fun v29 e29 f29 u29 => ?_)
    exact ne_iret X hr (by first | rfl | decide | rfl) dX3_most_30 ⟨rfl, _, rfl, (by split <;> omega), by omega, by omega⟩
  · refine ne_aload_n X dX3_most_15 rfl ?_
    refine ne_getf X dX3_most_16 nw_fX3_15 rfl rfl ?_
    refine ne_iload_n X dX3_most_19 rfl ?_
    refine ne_ialdR X dX3_most_20 rfl (by omega) Iq (fun v20 e20 f20 u20 => ?_)
    refine ne_goto (tgt := 30) X dX3_most_21 rfl ?_
    exact ne_iret X hr (by first | rfl | decide | rfl) dX3_most_30 ⟨rfl, _, rfl, (by split <;> omega), by omega, by omega⟩
set_option maxRecDepth 100000 in
set_option maxHeartbeats 4000000 in
theorem me_X3_orderedX (l : Launch) (hl : l.stackTraces = false) (c q t b k h : Nat → Int) (vt T : Int) (hI : mI c q t b k h vt T) (hT : 0 ≤ T ∧ T ≤ 1000000) (i j : Int) (hi : 0 ≤ i ∧ i < 4) (hj : 0 ≤ j ∧ j < 4) : ne_M l nw_cl (.code yX3_ordered cX3_ordered 3 (some .int)) nw_T yX3_ordered 2 80 0 0 [.ref 0, ni i, ni j] (mW c q t b k h vt) (fun v w => w = mW c q t b k h vt ∧ ∃ z : Int, v = some (ni z) ∧ -1 ≤ z ∧ z ≤ 1 ∧ (z < 0 ↔ c i.toNat * 10 ^ (3 - q i.toNat).toNat < c j.toNat * 10 ^ (3 - q j.toNat).toNat) ∧ (0 < z ↔ c j.toNat * 10 ^ (3 - q j.toNat).toNat < c i.toNat * 10 ^ (3 - q i.toNat).toNat)) (fun _ _ => False) := by
  refine ne_meet (own := RX3) hl rfl (by decide +kernel) (Nat.le_of_ble_eq_true rfl) ?_
  intro D ct A P9 V9 R9 S9 M9 as9 bl9 mt9 C9 ad0 X hr hin ht
  obtain ⟨Ic, Iq, It, Ib, Itb, Igb, Ik, Ih, Iv⟩ := hI
  refine ne_aload_n X dX3_ordered_0 rfl ?_
  refine ne_iload_n X dX3_ordered_1 rfl ?_
  refine ne_iconst X dX3_ordered_2 ?_
  refine ne_callV X nw_Tg (me_X3_unitsX l hl c q t b k h vt T (by exact ⟨Ic, Iq, It, Ib, Itb, Igb, Ik, Ih, Iv⟩) (by omega) _ _ (by omega) (by omega)) nw_yX3_units nw_mX3_62 nw_iX3_units nw_eX3_units (ci := 5) rfl rfl rfl dX3_ordered_3 rfl rfl (by decide) (by decide) (by first | decide | omega) (by first | decide | omega) (Nat.le_of_ble_eq_true rfl) rfl rfl (Nat.le_of_ble_eq_true rfl) ?_ ?_
  rotate_left
  · rintro E9 w9 h9; exact h9.elim
  rintro v3 w3 ⟨rfl, z3, rfl, g3, k3, i3⟩
  refine ne_aload_n X dX3_ordered_6 rfl ?_
  refine ne_iload_n X dX3_ordered_7 rfl ?_
  refine ne_iconst X dX3_ordered_8 ?_
  refine ne_callV X nw_Tg (me_X3_unitsX l hl c q t b k h vt T (by exact ⟨Ic, Iq, It, Ib, Itb, Igb, Ik, Ih, Iv⟩) (by omega) _ _ (by omega) (by omega)) nw_yX3_units nw_mX3_62 nw_iX3_units nw_eX3_units (ci := 5) rfl rfl rfl dX3_ordered_9 rfl rfl (by decide) (by decide) (by first | decide | omega) (by first | decide | omega) (Nat.le_of_ble_eq_true rfl) rfl rfl (Nat.le_of_ble_eq_true rfl) ?_ ?_
  rotate_left
  · rintro E9 w9 h9; exact h9.elim
  rintro v9 w9 ⟨rfl, z9, rfl, g9, k9, i9⟩
  refine ne_callS X nw_Tg (me_X3_side l hl _ _ _ (by omega) (by omega)) nw_yX3_side nw_mX3_48 nw_sX3_side dX3_ordered_12 rfl rfl (by decide) (by decide) (by first | decide | omega) (by first | decide | omega) (Nat.le_of_ble_eq_true rfl) rfl rfl (Nat.le_of_ble_eq_true rfl) ?_ ?_
  rotate_left
  · rintro E9 w9 h9; exact h9.elim
  rintro v12 w12 ⟨rfl, z12, rfl, g12, k12, i12, j12⟩
  exact ne_iret X hr (by first | rfl | decide | rfl) dX3_ordered_15 ⟨rfl, _, rfl, by omega, by omega, by rw [← g3, ← g9]; exact i12, by rw [← g3, ← g9]; exact j12⟩
set_option maxRecDepth 100000 in
set_option maxHeartbeats 4000000 in
theorem me_X3_areNoCellsX (l : Launch) (hl : l.stackTraces = false) (c q t b k h : Nat → Int) (vt T : Int) (hI : mI c q t b k h vt T) (hT : 0 ≤ T ∧ T ≤ 1000000) (i j o : Int) (hi : -2147483648 ≤ i ∧ i < 2147483648) (hj : -2147483648 ≤ j ∧ j < 2147483648) (ho : -2147483648 ≤ o ∧ o < 2147483648) : ne_M l nw_cl (.code yX3_areNoCells cX3_areNoCells 4 (some .boolean)) nw_T yX3_areNoCells 2 80 0 0 [.ref 0, ni i, ni j, ni o] (mW c q t b k h vt) (fun v w => w = mW c q t b k h vt ∧ ∃ z : Int, v = some (ni z) ∧ ((z = 1 ∧ (i < 0 ∨ 4 ≤ i ∨ j < 0 ∨ 4 ≤ j ∨ o < 0 ∨ 4 ≤ o)) ∨ (z = 0 ∧ 0 ≤ i ∧ i < 4 ∧ 0 ≤ j ∧ j < 4 ∧ 0 ≤ o ∧ o < 4))) (fun _ _ => False) := by
  refine ne_meet (own := RX3) hl rfl (by decide +kernel) (Nat.le_of_ble_eq_true rfl) ?_
  intro D ct A P9 V9 R9 S9 M9 as9 bl9 mt9 C9 ad0 X hr hin ht
  obtain ⟨Ic, Iq, It, Ib, Itb, Igb, Ik, Ih, Iv⟩ := hI
  refine ne_iload_n X dX3_areNoCells_0 rfl ?_
  refine ne_callS X nw_Tg (me_X3_isNoCell l hl _ _ (by omega)) nw_yX3_isNoCell nw_mX3_66 nw_sX3_isNoCell dX3_areNoCells_1 rfl rfl (by decide) (by decide) (by first | decide | omega) (by first | decide | omega) (Nat.le_of_ble_eq_true rfl) rfl rfl (Nat.le_of_ble_eq_true rfl) ?_ ?_
  rotate_left
  · rintro E9 w9 h9; exact h9.elim
  rintro v1 w1 ⟨rfl, z1, rfl, g1⟩
  refine ne_if_ne (tgt := 21) X dX3_areNoCells_4 rfl (by omega) (fun b4 => ?_) (fun b4 => ?_)
  · refine ne_iconst X dX3_areNoCells_21 ?_
    refine ne_goto (tgt := 26) X dX3_areNoCells_22 rfl ?_
    exact ne_iret X hr (by first | rfl | decide | rfl) dX3_areNoCells_26 ⟨rfl, _, rfl, by omega⟩
  · refine ne_iload_n X dX3_areNoCells_7 rfl ?_
    refine ne_callS X nw_Tg (me_X3_isNoCell l hl _ _ (by omega)) nw_yX3_isNoCell nw_mX3_66 nw_sX3_isNoCell dX3_areNoCells_8 rfl rfl (by decide) (by decide) (by first | decide | omega) (by first | decide | omega) (Nat.le_of_ble_eq_true rfl) rfl rfl (Nat.le_of_ble_eq_true rfl) ?_ ?_
    rotate_left
    · rintro E9 w9 h9; exact h9.elim
    rintro v8 w8 ⟨rfl, z8, rfl, g8⟩
    refine ne_if_ne (tgt := 21) X dX3_areNoCells_11 rfl (by omega) (fun b11 => ?_) (fun b11 => ?_)
    · refine ne_iconst X dX3_areNoCells_21 ?_
      refine ne_goto (tgt := 26) X dX3_areNoCells_22 rfl ?_
      exact ne_iret X hr (by first | rfl | decide | rfl) dX3_areNoCells_26 ⟨rfl, _, rfl, by omega⟩
    · refine ne_iload_n X dX3_areNoCells_14 rfl ?_
      refine ne_callS X nw_Tg (me_X3_isNoCell l hl _ _ (by omega)) nw_yX3_isNoCell nw_mX3_66 nw_sX3_isNoCell dX3_areNoCells_15 rfl rfl (by decide) (by decide) (by first | decide | omega) (by first | decide | omega) (Nat.le_of_ble_eq_true rfl) rfl rfl (Nat.le_of_ble_eq_true rfl) ?_ ?_
      rotate_left
      · rintro E9 w9 h9; exact h9.elim
      rintro v15 w15 ⟨rfl, z15, rfl, g15⟩
      refine ne_if_eq (tgt := 25) X dX3_areNoCells_18 rfl (by omega) (fun b18 => ?_) (fun b18 => ?_)
      · refine ne_iconst X dX3_areNoCells_25 ?_
        exact ne_iret X hr (by first | rfl | decide | rfl) dX3_areNoCells_26 ⟨rfl, _, rfl, by omega⟩
      · refine ne_iconst X dX3_areNoCells_21 ?_
        refine ne_goto (tgt := 26) X dX3_areNoCells_22 rfl ?_
        exact ne_iret X hr (by first | rfl | decide | rfl) dX3_areNoCells_26 ⟨rfl, _, rfl, by omega⟩
set_option maxRecDepth 100000 in
set_option maxHeartbeats 4000000 in
theorem me_X3_wholeOfX (l : Launch) (hl : l.stackTraces = false) (c q t b k h : Nat → Int) (vt T : Int) (hI : mI c q t b k h vt T) (hT : 0 ≤ T ∧ T ≤ 1000000) (i a : Int) (hi : 0 ≤ i ∧ i < 4) (ha : -99 ≤ a ∧ a ≤ 99) (h0 : a ≠ 0) : ne_M l nw_cl (.code yX3_wholeOf cX3_wholeOf 3 (some .long)) nw_T yX3_wholeOf 1 40 0 0 [.ref 0, ni i, ni a] (mW c q t b k h vt) (fun v w => w = mW c q t b k h vt ∧ ∃ z : Int, v = some (nl z) ∧ z = (c i.toNat).tdiv (a * 10 ^ (q i.toNat).toNat) ∧ -999999 ≤ z ∧ z ≤ 999999) (fun _ _ => False) := by
  refine ne_meet (own := RX3) hl rfl (by decide +kernel) (Nat.le_of_ble_eq_true rfl) ?_
  intro D ct A P9 V9 R9 S9 M9 as9 bl9 mt9 C9 ad0 X hr hin ht
  obtain ⟨Ic, Iq, It, Ib, Itb, Igb, Ik, Ih, Iv⟩ := hI
  refine ne_aload_n X dX3_wholeOf_0 rfl ?_
  refine ne_getf X dX3_wholeOf_1 nw_fX3_9 rfl rfl ?_
  refine ne_iload_n X dX3_wholeOf_4 rfl ?_
  refine ne_ialdR X dX3_wholeOf_5 rfl (by omega) Ic (fun v5 e5 f5 u5 => ?_)
  refine ne_i2l (by omega) X dX3_wholeOf_6 ?_
  refine ne_iload_n X dX3_wholeOf_7 rfl ?_
  refine ne_i2l (by omega) X dX3_wholeOf_8 ?_
  refine ne_aload_n X dX3_wholeOf_9 rfl ?_
  refine ne_getf X dX3_wholeOf_10 nw_fX3_15 rfl rfl ?_
  refine ne_iload_n X dX3_wholeOf_13 rfl ?_
  refine ne_ialdR X dX3_wholeOf_14 rfl (by omega) Iq (fun v14 e14 f14 u14 => ?_)
  refine ne_callS X nw_Tg (me_X3_ten l hl _ _ (by omega)) nw_yX3_ten nw_mX3_58 nw_sX3_ten dX3_wholeOf_15 rfl rfl (by decide) (by decide) (by first | decide | omega) (by first | decide | omega) (Nat.le_of_ble_eq_true rfl) rfl rfl (Nat.le_of_ble_eq_true rfl) ?_ ?_
  rotate_left
  · rintro E9 w9 h9; exact h9.elim
  rintro v15 w15 ⟨rfl, z15, rfl, g15, k15, i15, j15, m15, o15, p15⟩
  have t159 := i15 (by omega)
  clear i15 j15 m15 o15 p15
  have m15 := ne_mul a z15 99 1000 (by omega) (by omega)
  have m16 : a * z15 ≠ 0 := Int.mul_ne_zero h0 (by omega)
  have t15 := ne_tq v5 (a * z15)
  refine ne_lmul X dX3_wholeOf_18 ?_
  refine ne_ldiv X dX3_wholeOf_19 (by omega) (by omega) (by omega) ?_
  exact ne_lret X hr dX3_wholeOf_20 ⟨rfl, _, rfl, by rw [e5, g15, e14], by omega, by omega⟩
set_option maxRecDepth 100000 in
set_option maxHeartbeats 4000000 in
theorem me_X3_cutOfX (l : Launch) (hl : l.stackTraces = false) (c q t b k h : Nat → Int) (vt T : Int) (hI : mI c q t b k h vt T) (hT : 0 ≤ T ∧ T ≤ 1000000) (i m p w0 : Int) (hi : 0 ≤ i ∧ i < 3) (hm : 0 ≤ m ∧ m ≤ 1) (hp : 0 ≤ p ∧ p ≤ 3) (hw : 0 ≤ w0 ∧ w0 ≤ 7) : ne_M l nw_cl (.code yX3_cutOf cX3_cutOf 7 (some .long)) nw_T yX3_cutOf 2 80 0 0 [.ref 0, ni i, ni m, ni p, ni w0] (mW c q t b k h vt) (fun v w => w = mW c q t b k h vt ∧ ∃ z : Int, v = some (nl z) ∧ ((z = -9223372036854775808 ∧ w0 = 7 ∧ ne_rx (ne_cv (t i.toNat) m p) (b i.toNat)) ∨ (ne_rd (ne_cv (t i.toNat) m p) (b i.toNat) w0 z ∧ -98000 - 1 ≤ z ∧ z ≤ 98000 + 1))) (fun _ _ => False) := by
  refine ne_meet (own := RX3) hl rfl (by decide +kernel) (Nat.le_of_ble_eq_true rfl) ?_
  intro D ct A P9 V9 R9 S9 M9 as9 bl9 mt9 C9 ad0 X hr hin ht
  obtain ⟨Ic, Iq, It, Ib, Itb, Igb, Ik, Ih, Iv⟩ := hI
  refine ne_aload_n X dX3_cutOf_0 rfl ?_
  refine ne_getf X dX3_cutOf_1 nw_fX3_18 rfl rfl ?_
  refine ne_iload_n X dX3_cutOf_4 rfl ?_
  refine ne_ialdR X dX3_cutOf_5 rfl (by omega) It (fun v5 e5 f5 u5 => ?_)
  refine ne_i2l (by omega) X dX3_cutOf_6 ?_
  refine ne_iload_n X dX3_cutOf_7 rfl ?_
  refine ne_callS X nw_Tg (me_X3_ten l hl _ _ (by omega)) nw_yX3_ten nw_mX3_58 nw_sX3_ten dX3_cutOf_8 rfl rfl (by decide) (by decide) (by first | decide | omega) (by first | decide | omega) (Nat.le_of_ble_eq_true rfl) rfl rfl (Nat.le_of_ble_eq_true rfl) ?_ ?_
  rotate_left
  · rintro E9 w9 h9; exact h9.elim
  rintro v8 w8 ⟨rfl, z8, rfl, g8, k8, i8, j8, m8, o8, p8⟩
  have t89 := i8 (by omega)
  clear i8 j8 m8 o8 p8
  have m8 := ne_mul v5 z8 98 1000 (by omega) (by omega)
  refine ne_lmul X dX3_cutOf_11 ?_
  refine ne_lstore X dX3_cutOf_12 (by decide) ?_
  refine ne_iload_n X dX3_cutOf_14 rfl ?_
  refine ne_if_eq (tgt := 24) X dX3_cutOf_15 rfl (by omega) (fun b15 => ?_) (fun b15 => ?_)
  · refine ne_lload X dX3_cutOf_24 rfl ?_
    refine ne_aload_n X dX3_cutOf_26 rfl ?_
    refine ne_getf X dX3_cutOf_27 nw_fX3_21 rfl rfl ?_
    refine ne_iload_n X dX3_cutOf_30 rfl ?_
    refine ne_ialdR X dX3_cutOf_31 rfl (by omega) Ib (fun v31 e31 f31 u31 => ?_)
    refine ne_i2l (by omega) X dX3_cutOf_32 ?_
    refine ne_iload X dX3_cutOf_33 rfl ?_
    refine ne_callS X nw_Tg (me_X3_roundedX l hl _ 98000 _ _ _ (by omega) (by omega) (by omega) (by omega)) nw_yX3_rounded nw_mX3_90 nw_sX3_rounded dX3_cutOf_35 rfl rfl (by decide) (by decide) (by first | decide | omega) (by first | decide | omega) (Nat.le_of_ble_eq_true rfl) rfl rfl (Nat.le_of_ble_eq_true rfl) ?_ ?_
    rotate_left
    · rintro E9 w9 h9; exact h9.elim
    rintro v35 w35 ⟨rfl, z35, rfl, g35⟩
    exact ne_lret X hr dX3_cutOf_38 ⟨rfl, _, rfl, (by unfold ne_cv; (first | rw [if_pos b15] | rw [if_neg b15]); rw [← e5, ← g8, ← e31]; exact g35)⟩
  · refine ne_lload X dX3_cutOf_18 rfl ?_
    refine ne_lneg X dX3_cutOf_20 ?_
    refine ne_goto (tgt := 26) X dX3_cutOf_21 rfl ?_
    refine ne_aload_n X dX3_cutOf_26 rfl ?_
    refine ne_getf X dX3_cutOf_27 nw_fX3_21 rfl rfl ?_
    refine ne_iload_n X dX3_cutOf_30 rfl ?_
    refine ne_ialdR X dX3_cutOf_31 rfl (by omega) Ib (fun v31 e31 f31 u31 => ?_)
    refine ne_i2l (by omega) X dX3_cutOf_32 ?_
    refine ne_iload X dX3_cutOf_33 rfl ?_
    refine ne_callS X nw_Tg (me_X3_roundedX l hl _ 98000 _ _ _ (by omega) (by omega) (by omega) (by omega)) nw_yX3_rounded nw_mX3_90 nw_sX3_rounded dX3_cutOf_35 rfl rfl (by decide) (by decide) (by first | decide | omega) (by first | decide | omega) (Nat.le_of_ble_eq_true rfl) rfl rfl (Nat.le_of_ble_eq_true rfl) ?_ ?_
    rotate_left
    · rintro E9 w9 h9; exact h9.elim
    rintro v35 w35 ⟨rfl, z35, rfl, g35⟩
    exact ne_lret X hr dX3_cutOf_38 ⟨rfl, _, rfl, (by unfold ne_cv; (first | rw [if_pos b15] | rw [if_neg b15]); rw [← e5, ← g8, ← e31]; exact g35)⟩
