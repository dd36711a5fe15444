def ne_Adiv (c q h : Nat → Int) (i j p w o : Int) (c1 q1 h1 : Nat → Int) (z : Int) : Prop := (c j.toNat = 0 ∧ ne_decl c q h c1 q1 h1 z) ∨ (c j.toNat ≠ 0 ∧ ∃ a b : Int, 0 < b ∧ a * (c j.toNat * 10 ^ (q i.toNat).toNat) = (c i.toNat * 10 ^ (q j.toNat).toNat * 10 ^ p.toNat) * b ∧ ne_rcome c q h o w p a b c1 q1 h1 z)
def ne_Ashare (c q h : Nat → Int) (i a o : Int) (c1 q1 h1 : Nat → Int) (z : Int) : Prop := (a = 0 ∧ ne_decl c q h c1 q1 h1 z) ∨ (a ≠ 0 ∧ ((∃ P : Int, q i.toNat ≤ P ∧ P ≤ 3 ∧ (c i.toNat * 10 ^ (P - q i.toNat).toNat).tmod a = 0 ∧ (∀ R : Int, q i.toNat ≤ R → R < P → (c i.toNat * 10 ^ (R - q i.toNat).toNat).tmod a ≠ 0) ∧ ne_come c q h o ((c i.toNat * 10 ^ (P - q i.toNat).toNat).tdiv a) P c1 q1 h1 z) ∨ ((∀ R : Int, q i.toNat ≤ R → R ≤ 3 → (c i.toNat * 10 ^ (R - q i.toNat).toNat).tmod a ≠ 0) ∧ ne_decl c q h c1 q1 h1 z)))
def ne_Awhole (c q h : Nat → Int) (i a o : Int) (c1 q1 h1 : Nat → Int) (z : Int) : Prop := (a = 0 ∧ ne_decl c q h c1 q1 h1 z) ∨ (a ≠ 0 ∧ ne_come c q h o ((c i.toNat).tdiv (a * 10 ^ (q i.toNat).toNat)) 0 c1 q1 h1 z)
def ne_Arest (c q h : Nat → Int) (i a o : Int) (c1 q1 h1 : Nat → Int) (z : Int) : Prop := (a = 0 ∧ ne_decl c q h c1 q1 h1 z) ∨ (a ≠ 0 ∧ ne_come c q h o ((c i.toNat).tmod (a * 10 ^ (q i.toNat).toNat)) (q i.toNat) c1 q1 h1 z)
def ne_Astrip (c q h : Nat → Int) (i : Int) (c1 q1 h1 : Nat → Int) (z : Int) : Prop := ∃ a P : Int, 0 ≤ P ∧ P ≤ q i.toNat ∧ c i.toNat = a * 10 ^ (q i.toNat - P).toNat ∧ (P = 0 ∨ a.tmod 10 ≠ 0) ∧ ne_come c q h i a P c1 q1 h1 z
def ne_Around (c q h : Nat → Int) (i g w : Int) (c1 q1 h1 : Nat → Int) (z : Int) : Prop := ∃ d : Int, ne_dn (c i.toNat) d ∧ ((d ≤ g ∧ ne_come c q h i (c i.toNat) (q i.toNat) c1 q1 h1 z) ∨ (g < d ∧ ((w = 7 ∧ ne_rx (c i.toNat) (10 ^ (d - g).toNat) ∧ ne_decl c q h c1 q1 h1 z) ∨ (∃ u e : Int, ne_rd (c i.toNat) (10 ^ (d - g).toNat) w u ∧ ne_dn u e ∧ ((e ≤ g ∧ ne_cat c q h i u (q i.toNat - (d - g)) c1 q1 h1 z) ∨ (g < e ∧ ne_cat c q h i (u.tdiv 10) (q i.toNat - (d - g) + -1) c1 q1 h1 z))))))
def ne_Agt (c q h : Nat → Int) (i j o : Int) (c1 q1 h1 : Nat → Int) (z : Int) : Prop := (c i.toNat * 10 ^ (3 - q i.toNat).toNat < c j.toNat * 10 ^ (3 - q j.toNat).toNat ∧ ne_come c q h o (c j.toNat) (q j.toNat) c1 q1 h1 z) ∨ (¬ (c i.toNat * 10 ^ (3 - q i.toNat).toNat < c j.toNat * 10 ^ (3 - q j.toNat).toNat) ∧ ne_come c q h o (c i.toNat) (q i.toNat) c1 q1 h1 z)
def ne_Als (c q h : Nat → Int) (i j o : Int) (c1 q1 h1 : Nat → Int) (z : Int) : Prop := (c j.toNat * 10 ^ (3 - q j.toNat).toNat < c i.toNat * 10 ^ (3 - q i.toNat).toNat ∧ ne_come c q h o (c j.toNat) (q j.toNat) c1 q1 h1 z) ∨ (¬ (c j.toNat * 10 ^ (3 - q j.toNat).toNat < c i.toNat * 10 ^ (3 - q i.toNat).toNat) ∧ ne_come c q h o (c i.toNat) (q i.toNat) c1 q1 h1 z)
set_option maxRecDepth 100000 in
set_option maxHeartbeats 4000000 in
theorem me_X1_requireWayS (l : Launch) (hl : l.stackTraces = false) (ws : ne_W) (a : Int) (ha : -2147483648 ≤ a ∧ a < 2147483648) : ne_M l nw_cl (.code yX1_requireWay cX1_requireWay 1 (none)) nw_T yX1_requireWay 7 130 1 6 [ni a] ws (fun v w => w = ws ∧ v = none ∧ 0 ≤ a ∧ a ≤ 7) (fun E w => w = ws ∧ E = "java/lang/IllegalArgumentException" ∧ (a < 0 ∨ 7 < a)) := by
  refine ne_meet (own := RX1) hl rfl (by decide +kernel) (Nat.le_of_ble_eq_true rfl) ?_
  intro D ct A P9 V9 R9 S9 M9 as9 bl9 mt9 C9 ad0 X hr hin ht
  refine ne_iload_n X dX1_requireWay_0 rfl ?_
  refine ne_lconst (z := 0) (by decide) X dX1_requireWay_1 ?_
  refine ne_ldc2 (z := 7) (by decide) nw_cX1_246 X dX1_requireWay_2 ?_
  refine ne_callS X nw_Tg (me_X1_requireBetweenS l hl _ _ _ _ (by omega) (by omega) (by omega)) nw_yX1_requireBetween nw_mX1_49 nw_sX1_requireBetween dX1_requireWay_5 rfl rfl (by decide) (by decide) (by first | decide | omega) (by first | decide | omega) (Nat.le_refl _) rfl rfl (Nat.le_of_ble_eq_true rfl) ?_ ?_
  rotate_left
  · rintro E9 w9 h9; exact ne_out X ht (by obtain ⟨rfl, rfl, h9⟩ := h9; exact ⟨rfl, rfl, by omega⟩)
  rintro v5 w5 ⟨rfl, rfl, g5, k5⟩
  exact ne_vret X hr dX1_requireWay_8 ⟨rfl, rfl, by omega⟩
set_option maxRecDepth 100000 in
set_option maxHeartbeats 4000000 in
theorem me_X1_putW (l : Launch) (hl : l.stackTraces = false) (c q t b k n h x y : Nat → Int) (T : Int) (hI : cI c q t b k n h x y T) (hT : 0 ≤ T ∧ T ≤ 1000) (i : Int) (a : Int) (p : Int) (hi : -2147483648 ≤ i ∧ i < 2147483648) (ha : -2147483648 ≤ a ∧ a < 2147483648) (hp : -2147483648 ≤ p ∧ p < 2147483648) : ne_M l nw_cl (.code yX1_put cX1_put 4 (some .int)) nw_T yX1_put 9 330 8 48 [.ref 0, ni i, ni a, ni p] (cW c q t b k n h x y) (fun v w => ∃ c1 q1 h1, w = cW c1 q1 t b k n h1 x y ∧ cI c1 q1 t b k n h1 x y (T + 1) ∧ ∃ z : Int, v = some (ni z) ∧ (-9 ≤ z ∧ z ≤ 1) ∧ ((0 ≤ i ∧ i < 4) ∧ -999999 ≤ a ∧ a ≤ 999999 ∧ 0 ≤ p ∧ p ≤ 3) ∧ ne_come c q h i a p c1 q1 h1 z) (fun E w => w = cW c q t b k n h x y ∧ ((E = "java/lang/IndexOutOfBoundsException" ∧ (i < 0 ∨ 4 ≤ i)) ∨ (E = "java/lang/IllegalArgumentException" ∧ ((0 ≤ i ∧ i < 4) ∧ (a < -999999 ∨ 999999 < a ∨ p < 0 ∨ 3 < p))))) := by
  refine ne_meet (own := RX1) hl rfl (by decide +kernel) (Nat.le_of_ble_eq_true rfl) ?_
  intro D ct A P9 V9 R9 S9 M9 as9 bl9 mt9 C9 ad0 X hr hin ht
  obtain ⟨Ic, Iq, It, Ib, Itb, Ik, In, Ih, Ix, Iy⟩ := hI
  refine ne_iload_n X dX1_put_0 rfl ?_
  refine ne_callS X nw_Tg (me_X1_requireCellS l hl _ _ (by omega)) nw_yX1_requireCell nw_mX1_41 nw_sX1_requireCell dX1_put_1 rfl rfl (by decide) (by decide) (by first | decide | omega) (by first | decide | omega) (Nat.le_of_ble_eq_true rfl) rfl rfl (Nat.le_of_ble_eq_true rfl) ?_ ?_
  rotate_left
  · rintro E9 w9 h9; exact ne_out X ht (by obtain ⟨rfl, rfl, h9⟩ := h9; exact ⟨rfl, by first | exact Or.inl ⟨rfl, by omega⟩ | exact Or.inr ⟨rfl, by omega⟩⟩)
  rintro v1 w1 ⟨rfl, rfl, g1, k1⟩
  refine ne_iload_n X dX1_put_4 rfl ?_
  refine ne_ldc2 (z := -999999) (by decide) nw_cX1_45 X dX1_put_5 ?_
  refine ne_ldc2 (z := 999999) (by decide) nw_cX1_47 X dX1_put_8 ?_
  refine ne_callS X nw_Tg (me_X1_requireBetweenS l hl _ _ _ _ (by omega) (by omega) (by omega)) nw_yX1_requireBetween nw_mX1_49 nw_sX1_requireBetween dX1_put_11 rfl rfl (by decide) (by decide) (by first | decide | omega) (by first | decide | omega) (Nat.le_of_ble_eq_true rfl) rfl rfl (Nat.le_of_ble_eq_true rfl) ?_ ?_
  rotate_left
  · rintro E9 w9 h9; exact ne_out X ht (by obtain ⟨rfl, rfl, h9⟩ := h9; exact ⟨rfl, by first | exact Or.inl ⟨rfl, by omega⟩ | exact Or.inr ⟨rfl, by omega⟩⟩)
  rintro v11 w11 ⟨rfl, rfl, g11, k11⟩
  refine ne_iload_n X dX1_put_14 rfl ?_
  refine ne_lconst (z := 0) (by decide) X dX1_put_15 ?_
  refine ne_ldc2 (z := 3) (by decide) nw_cX1_53 X dX1_put_16 ?_
  refine ne_callS X nw_Tg (me_X1_requireBetweenS l hl _ _ _ _ (by omega) (by omega) (by omega)) nw_yX1_requireBetween nw_mX1_49 nw_sX1_requireBetween dX1_put_19 rfl rfl (by decide) (by decide) (by first | decide | omega) (by first | decide | omega) (Nat.le_of_ble_eq_true rfl) rfl rfl (Nat.le_of_ble_eq_true rfl) ?_ ?_
  rotate_left
  · rintro E9 w9 h9; exact ne_out X ht (by obtain ⟨rfl, rfl, h9⟩ := h9; exact ⟨rfl, by first | exact Or.inl ⟨rfl, by omega⟩ | exact Or.inr ⟨rfl, by omega⟩⟩)
  rintro v19 w19 ⟨rfl, rfl, g19, k19⟩
  refine ne_aload_n X dX1_put_22 rfl ?_
  refine ne_iload_n X dX1_put_23 rfl ?_
  refine ne_iload_n X dX1_put_24 rfl ?_
  refine ne_i2l (by omega) X dX1_put_25 ?_
  refine ne_iload_n X dX1_put_26 rfl ?_
  refine ne_callV X nw_Tg (me_X1_bringX l hl c q t b k n h x y T (by exact ⟨Ic, Iq, It, Ib, Itb, Ik, In, Ih, Ix, Iy⟩) (by omega) _ _ _ (by omega) (by omega) (by omega)) nw_yX1_bring nw_mX1_55 nw_iX1_bring nw_eX1_bring (ci := 3) rfl rfl rfl dX1_put_27 rfl rfl (by decide) (by decide) (by first | decide | omega) (by first | decide | omega) (Nat.le_of_ble_eq_true rfl) rfl rfl (Nat.le_of_ble_eq_true rfl) ?_ ?_
  rotate_left
  · rintro E9 w9 h9; exact h9.elim
  rintro v27 w27 ⟨c27, q27, h27, rfl, hI27, z27, rfl, z927, G27⟩
  exact ne_iret X hr (by first | rfl | decide | rfl) dX1_put_30 ⟨_, _, _, rfl, hI27, _, rfl, z927, by omega, G27⟩
set_option maxRecDepth 100000 in
set_option maxHeartbeats 4000000 in
theorem me_X1_writeW (l : Launch) (hl : l.stackTraces = false) (c q t b k n h x y : Nat → Int) (T : Int) (hI : cI c q t b k n h x y T) (hT : 0 ≤ T ∧ T ≤ 1000) (i : Int) (m : Int) (a : Int) (p : Int) (d : Int) (hi : -2147483648 ≤ i ∧ i < 2147483648) (hm : 0 ≤ m ∧ m ≤ 1) (ha : -2147483648 ≤ a ∧ a < 2147483648) (hp : -2147483648 ≤ p ∧ p < 2147483648) (hd : -2147483648 ≤ d ∧ d < 2147483648) : ne_M l nw_cl (.code yX1_write cX1_write 8 (some .int)) nw_T yX1_write 9 330 8 48 [.ref 0, ni i, ni m, ni a, ni p, ni d] (cW c q t b k n h x y) (fun v w => ∃ c1 q1 h1, w = cW c1 q1 t b k n h1 x y ∧ cI c1 q1 t b k n h1 x y (T + 1) ∧ ∃ z : Int, v = some (ni z) ∧ (-9 ≤ z ∧ z ≤ 1) ∧ ((0 ≤ i ∧ i < 4) ∧ 0 ≤ a ∧ a ≤ 999999 ∧ 0 ≤ p ∧ p ≤ 3 ∧ 0 ≤ d ∧ d < 10 ^ p.toNat) ∧ ne_come c q h i (if m = 0 then a * 10 ^ p.toNat + d else -(a * 10 ^ p.toNat + d)) p c1 q1 h1 z) (fun E w => w = cW c q t b k n h x y ∧ ((E = "java/lang/IndexOutOfBoundsException" ∧ (i < 0 ∨ 4 ≤ i)) ∨ (E = "java/lang/IllegalArgumentException" ∧ ((0 ≤ i ∧ i < 4) ∧ (a < 0 ∨ 999999 < a ∨ p < 0 ∨ 3 < p ∨ d < 0 ∨ 10 ^ p.toNat ≤ d))))) := by
  refine ne_meet (own := RX1) hl rfl (by decide +kernel) (Nat.le_of_ble_eq_true rfl) ?_
  intro D ct A P9 V9 R9 S9 M9 as9 bl9 mt9 C9 ad0 X hr hin ht
  obtain ⟨Ic, Iq, It, Ib, Itb, Ik, In, Ih, Ix, Iy⟩ := hI
  refine ne_iload_n X dX1_write_0 rfl ?_
  refine ne_callS X nw_Tg (me_X1_requireCellS l hl _ _ (by omega)) nw_yX1_requireCell nw_mX1_41 nw_sX1_requireCell dX1_write_1 rfl rfl (by decide) (by decide) (by first | decide | omega) (by first | decide | omega) (Nat.le_of_ble_eq_true rfl) rfl rfl (Nat.le_of_ble_eq_true rfl) ?_ ?_
  rotate_left
  · rintro E9 w9 h9; exact ne_out X ht (by obtain ⟨rfl, rfl, h9⟩ := h9; exact ⟨rfl, by first | exact Or.inl ⟨rfl, by omega⟩ | exact Or.inr ⟨rfl, by omega⟩⟩)
  rintro v1 w1 ⟨rfl, rfl, g1, k1⟩
  refine ne_iload_n X dX1_write_4 rfl ?_
  refine ne_lconst (z := 0) (by decide) X dX1_write_5 ?_
  refine ne_ldc2 (z := 999999) (by decide) nw_cX1_47 X dX1_write_6 ?_
  refine ne_callS X nw_Tg (me_X1_requireBetweenS l hl _ _ _ _ (by omega) (by omega) (by omega)) nw_yX1_requireBetween nw_mX1_49 nw_sX1_requireBetween dX1_write_9 rfl rfl (by decide) (by decide) (by first | decide | omega) (by first | decide | omega) (Nat.le_of_ble_eq_true rfl) rfl rfl (Nat.le_of_ble_eq_true rfl) ?_ ?_
  rotate_left
  · rintro E9 w9 h9; exact ne_out X ht (by obtain ⟨rfl, rfl, h9⟩ := h9; exact ⟨rfl, by first | exact Or.inl ⟨rfl, by omega⟩ | exact Or.inr ⟨rfl, by omega⟩⟩)
  rintro v9 w9 ⟨rfl, rfl, g9, k9⟩
  refine ne_iload X dX1_write_12 rfl ?_
  refine ne_lconst (z := 0) (by decide) X dX1_write_14 ?_
  refine ne_ldc2 (z := 3) (by decide) nw_cX1_53 X dX1_write_15 ?_
  refine ne_callS X nw_Tg (me_X1_requireBetweenS l hl _ _ _ _ (by omega) (by omega) (by omega)) nw_yX1_requireBetween nw_mX1_49 nw_sX1_requireBetween dX1_write_18 rfl rfl (by decide) (by decide) (by first | decide | omega) (by first | decide | omega) (Nat.le_of_ble_eq_true rfl) rfl rfl (Nat.le_of_ble_eq_true rfl) ?_ ?_
  rotate_left
  · rintro E9 w9 h9; exact ne_out X ht (by obtain ⟨rfl, rfl, h9⟩ := h9; exact ⟨rfl, by first | exact Or.inl ⟨rfl, by omega⟩ | exact Or.inr ⟨rfl, by omega⟩⟩)
  rintro v18 w18 ⟨rfl, rfl, g18, k18⟩
  refine ne_iload X dX1_write_21 rfl ?_
  refine ne_lconst (z := 0) (by decide) X dX1_write_23 ?_
  refine ne_iload X dX1_write_24 rfl ?_
  refine ne_callS X nw_Tg (me_X1_tenTo l hl _ _ (by omega)) nw_yX1_tenTo nw_mX1_59 nw_sX1_tenTo dX1_write_26 rfl rfl (by decide) (by decide) (by first | decide | omega) (by first | decide | omega) (Nat.le_of_ble_eq_true rfl) rfl rfl (Nat.le_of_ble_eq_true rfl) ?_ ?_
  rotate_left
  · rintro E9 w9 h9; exact h9.elim
  rintro v26 w26 ⟨rfl, z26, rfl, g26, k26, i26, j26, o26⟩
  have t269 := i26 (by omega)
  clear i26 j26 o26
  refine ne_lconst (z := 1) (by decide) X dX1_write_29 ?_
  refine ne_lsub X dX1_write_30 ?_
  refine ne_callS X nw_Tg (me_X1_requireBetweenS l hl _ _ _ _ (by omega) (by omega) (by omega)) nw_yX1_requireBetween nw_mX1_49 nw_sX1_requireBetween dX1_write_31 rfl rfl (by decide) (by decide) (by first | decide | omega) (by first | decide | omega) (Nat.le_of_ble_eq_true rfl) rfl rfl (Nat.le_of_ble_eq_true rfl) ?_ ?_
  rotate_left
  · rintro E9 w9 h9; exact ne_out X ht (by obtain ⟨rfl, rfl, h9⟩ := h9; exact ⟨rfl, by first | exact Or.inl ⟨rfl, by omega⟩ | exact Or.inr ⟨rfl, by omega⟩⟩)
  rintro v31 w31 ⟨rfl, rfl, g31, k31⟩
  refine ne_iload_n X dX1_write_34 rfl ?_
  refine ne_i2l (by omega) X dX1_write_35 ?_
  refine ne_iload X dX1_write_36 rfl ?_
  refine ne_callS X nw_Tg (me_X1_tenTo l hl _ _ (by omega)) nw_yX1_tenTo nw_mX1_59 nw_sX1_tenTo dX1_write_38 rfl rfl (by decide) (by decide) (by first | decide | omega) (by first | decide | omega) (Nat.le_of_ble_eq_true rfl) rfl rfl (Nat.le_of_ble_eq_true rfl) ?_ ?_
  rotate_left
  · rintro E9 w9 h9; exact h9.elim
  rintro v38 w38 ⟨rfl, z38, rfl, g38, k38, i38, j38, o38⟩
  have t389 := i38 (by omega)
  clear i38 j38 o38
  have m38 := ne_mul a z38 999999 1000 (by omega) (by omega)
  refine ne_lmul X dX1_write_41 ?_
  refine ne_iload X dX1_write_42 rfl ?_
  refine ne_i2l (by omega) X dX1_write_44 ?_
  refine ne_ladd X dX1_write_45 ?_
  refine ne_lstore X dX1_write_46 (by decide) ?_
  refine ne_aload_n X dX1_write_48 rfl ?_
  refine ne_iload_n X dX1_write_49 rfl ?_
  refine ne_iload_n X dX1_write_50 rfl ?_
  refine ne_if_eq (tgt := 60) X dX1_write_51 rfl (by omega) (fun b51 => ?_) (fun b51 => ?_)
  · refine ne_lload X dX1_write_60 rfl ?_
    refine ne_iload X dX1_write_62 rfl ?_
    refine ne_callV X nw_Tg (me_X1_bringX l hl c q t b k n h x y T (by exact ⟨Ic, Iq, It, Ib, Itb, Ik, In, Ih, Ix, Iy⟩) (by omega) _ _ _ (by omega) (by omega) (by omega)) nw_yX1_bring nw_mX1_55 nw_iX1_bring nw_eX1_bring (ci := 3) rfl rfl rfl dX1_write_64 rfl rfl (by decide) (by decide) (by first | decide | omega) (by first | decide | omega) (Nat.le_of_ble_eq_true rfl) rfl rfl (Nat.le_of_ble_eq_true rfl) ?_ ?_
    rotate_left
    · rintro E9 w9 h9; exact h9.elim
    rintro v64 w64 ⟨c64, q64, h64, rfl, hI64, z64, rfl, z964, G64⟩
    exact ne_iret X hr (by first | rfl | decide | rfl) dX1_write_67 ⟨_, _, _, rfl, hI64, _, rfl, z964, by omega, (by (first | rw [if_pos b51] | rw [if_neg b51]); rw [g38] at G64; exact G64)⟩
  · refine ne_lload X dX1_write_54 rfl ?_
    refine ne_lneg X dX1_write_56 ?_
    refine ne_goto (tgt := 62) X dX1_write_57 rfl ?_
    refine ne_iload X dX1_write_62 rfl ?_
    refine ne_callV X nw_Tg (me_X1_bringX l hl c q t b k n h x y T (by exact ⟨Ic, Iq, It, Ib, Itb, Ik, In, Ih, Ix, Iy⟩) (by omega) _ _ _ (by omega) (by omega) (by omega)) nw_yX1_bring nw_mX1_55 nw_iX1_bring nw_eX1_bring (ci := 3) rfl rfl rfl dX1_write_64 rfl rfl (by decide) (by decide) (by first | decide | omega) (by first | decide | omega) (Nat.le_of_ble_eq_true rfl) rfl rfl (Nat.le_of_ble_eq_true rfl) ?_ ?_
    rotate_left
    · rintro E9 w9 h9; exact h9.elim
    rintro v64 w64 ⟨c64, q64, h64, rfl, hI64, z64, rfl, z964, G64⟩
    exact ne_iret X hr (by first | rfl | decide | rfl) dX1_write_67 ⟨_, _, _, rfl, hI64, _, rfl, z964, by omega, (by (first | rw [if_pos b51] | rw [if_neg b51]); rw [g38] at G64; exact G64)⟩
set_option maxRecDepth 100000 in
set_option maxHeartbeats 4000000 in
theorem me_X1_copyW (l : Launch) (hl : l.stackTraces = false) (c q t b k n h x y : Nat → Int) (T : Int) (hI : cI c q t b k n h x y T) (hT : 0 ≤ T ∧ T ≤ 1000) (i : Int) (j : Int) (hi : -2147483648 ≤ i ∧ i < 2147483648) (hj : -2147483648 ≤ j ∧ j < 2147483648) : ne_M l nw_cl (.code yX1_copy cX1_copy 3 (some .int)) nw_T yX1_copy 9 330 8 48 [.ref 0, ni i, ni j] (cW c q t b k n h x y) (fun v w => ∃ c1 q1 h1, w = cW c1 q1 t b k n h1 x y ∧ cI c1 q1 t b k n h1 x y (T + 1) ∧ ∃ z : Int, v = some (ni z) ∧ (-9 ≤ z ∧ z ≤ 1) ∧ (0 ≤ i ∧ i < 4 ∧ 0 ≤ j ∧ j < 4) ∧ ne_come c q h j (c i.toNat) (q i.toNat) c1 q1 h1 z) (fun E w => w = cW c q t b k n h x y ∧ ((E = "java/lang/IndexOutOfBoundsException" ∧ (i < 0 ∨ 4 ≤ i ∨ j < 0 ∨ 4 ≤ j)) ∨ (E = "java/lang/IllegalArgumentException" ∧ False))) := by
  refine ne_meet (own := RX1) hl rfl (by decide +kernel) (Nat.le_of_ble_eq_true rfl) ?_
  intro D ct A P9 V9 R9 S9 M9 as9 bl9 mt9 C9 ad0 X hr hin ht
  obtain ⟨Ic, Iq, It, Ib, Itb, Ik, In, Ih, Ix, Iy⟩ := hI
  refine ne_iload_n X dX1_copy_0 rfl ?_
  refine ne_callS X nw_Tg (me_X1_requireCellS l hl _ _ (by omega)) nw_yX1_requireCell nw_mX1_41 nw_sX1_requireCell dX1_copy_1 rfl rfl (by decide) (by decide) (by first | decide | omega) (by first | decide | omega) (Nat.le_of_ble_eq_true rfl) rfl rfl (Nat.le_of_ble_eq_true rfl) ?_ ?_
  rotate_left
  · rintro E9 w9 h9; exact ne_out X ht (by obtain ⟨rfl, rfl, h9⟩ := h9; exact ⟨rfl, by first | exact Or.inl ⟨rfl, by omega⟩ | exact Or.inr ⟨rfl, by omega⟩⟩)
  rintro v1 w1 ⟨rfl, rfl, g1, k1⟩
  refine ne_iload_n X dX1_copy_4 rfl ?_
  refine ne_callS X nw_Tg (me_X1_requireCellS l hl _ _ (by omega)) nw_yX1_requireCell nw_mX1_41 nw_sX1_requireCell dX1_copy_5 rfl rfl (by decide) (by decide) (by first | decide | omega) (by first | decide | omega) (Nat.le_of_ble_eq_true rfl) rfl rfl (Nat.le_of_ble_eq_true rfl) ?_ ?_
  rotate_left
  · rintro E9 w9 h9; exact ne_out X ht (by obtain ⟨rfl, rfl, h9⟩ := h9; exact ⟨rfl, by first | exact Or.inl ⟨rfl, by omega⟩ | exact Or.inr ⟨rfl, by omega⟩⟩)
  rintro v5 w5 ⟨rfl, rfl, g5, k5⟩
  refine ne_aload_n X dX1_copy_8 rfl ?_
  refine ne_iload_n X dX1_copy_9 rfl ?_
  refine ne_aload_n X dX1_copy_10 rfl ?_
  refine ne_getf X dX1_copy_11 nw_fX1_9 rfl rfl ?_
  refine ne_iload_n X dX1_copy_14 rfl ?_
  refine ne_ialdR X dX1_copy_15 rfl (by omega) Ic (fun v15 e15 f15 u15 => ?_)
  refine ne_i2l (by omega) X dX1_copy_16 ?_
  refine ne_aload_n X dX1_copy_17 rfl ?_
  refine ne_getf X dX1_copy_18 nw_fX1_13 rfl rfl ?_
  refine ne_iload_n X dX1_copy_21 rfl ?_
  refine ne_ialdR X dX1_copy_22 rfl (by omega) Iq (fun v22 e22 f22 u22 => ?_)
  refine ne_callV X nw_Tg (me_X1_bringX l hl c q t b k n h x y T (by exact ⟨Ic, Iq, It, Ib, Itb, Ik, In, Ih, Ix, Iy⟩) (by omega) _ _ _ (by omega) (by omega) (by omega)) nw_yX1_bring nw_mX1_55 nw_iX1_bring nw_eX1_bring (ci := 3) rfl rfl rfl dX1_copy_23 rfl rfl (by decide) (by decide) (by first | decide | omega) (by first | decide | omega) (Nat.le_of_ble_eq_true rfl) rfl rfl (Nat.le_of_ble_eq_true rfl) ?_ ?_
  rotate_left
  · rintro E9 w9 h9; exact h9.elim
  rintro v23 w23 ⟨c23, q23, h23, rfl, hI23, z23, rfl, z923, G23⟩
  exact ne_iret X hr (by first | rfl | decide | rfl) dX1_copy_26 ⟨_, _, _, rfl, hI23, _, rfl, z923, by omega, (by rw [e15, e22] at G23; exact G23)⟩
set_option maxRecDepth 100000 in
set_option maxHeartbeats 4000000 in
theorem me_X1_negateW (l : Launch) (hl : l.stackTraces = false) (c q t b k n h x y : Nat → Int) (T : Int) (hI : cI c q t b k n h x y T) (hT : 0 ≤ T ∧ T ≤ 1000) (i : Int) (hi : -2147483648 ≤ i ∧ i < 2147483648) : ne_M l nw_cl (.code yX1_negate cX1_negate 2 (some .int)) nw_T yX1_negate 9 330 8 48 [.ref 0, ni i] (cW c q t b k n h x y) (fun v w => ∃ c1 q1 h1, w = cW c1 q1 t b k n h1 x y ∧ cI c1 q1 t b k n h1 x y (T + 1) ∧ ∃ z : Int, v = some (ni z) ∧ (-9 ≤ z ∧ z ≤ 1) ∧ (0 ≤ i ∧ i < 4) ∧ ne_come c q h i (-c i.toNat) (q i.toNat) c1 q1 h1 z) (fun E w => w = cW c q t b k n h x y ∧ ((E = "java/lang/IndexOutOfBoundsException" ∧ (i < 0 ∨ 4 ≤ i)) ∨ (E = "java/lang/IllegalArgumentException" ∧ False))) := by
  refine ne_meet (own := RX1) hl rfl (by decide +kernel) (Nat.le_of_ble_eq_true rfl) ?_
  intro D ct A P9 V9 R9 S9 M9 as9 bl9 mt9 C9 ad0 X hr hin ht
  obtain ⟨Ic, Iq, It, Ib, Itb, Ik, In, Ih, Ix, Iy⟩ := hI
  refine ne_iload_n X dX1_negate_0 rfl ?_
  refine ne_callS X nw_Tg (me_X1_requireCellS l hl _ _ (by omega)) nw_yX1_requireCell nw_mX1_41 nw_sX1_requireCell dX1_negate_1 rfl rfl (by decide) (by decide) (by first | decide | omega) (by first | decide | omega) (Nat.le_of_ble_eq_true rfl) rfl rfl (Nat.le_of_ble_eq_true rfl) ?_ ?_
  rotate_left
  · rintro E9 w9 h9; exact ne_out X ht (by obtain ⟨rfl, rfl, h9⟩ := h9; exact ⟨rfl, by first | exact Or.inl ⟨rfl, by omega⟩ | exact Or.inr ⟨rfl, by omega⟩⟩)
  rintro v1 w1 ⟨rfl, rfl, g1, k1⟩
  refine ne_aload_n X dX1_negate_4 rfl ?_
  refine ne_iload_n X dX1_negate_5 rfl ?_
  refine ne_aload_n X dX1_negate_6 rfl ?_
  refine ne_getf X dX1_negate_7 nw_fX1_9 rfl rfl ?_
  refine ne_iload_n X dX1_negate_10 rfl ?_
  refine ne_ialdR X dX1_negate_11 rfl (by omega) Ic (fun v11 e11 f11 u11 => ?_)
  refine ne_ineg X dX1_negate_12 ?_
  refine ne_i2l (by omega) X dX1_negate_13 ?_
  refine ne_aload_n X dX1_negate_14 rfl ?_
  refine ne_getf X dX1_negate_15 nw_fX1_13 rfl rfl ?_
  refine ne_iload_n X dX1_negate_18 rfl ?_
  refine ne_ialdR X dX1_negate_19 rfl (by omega) Iq (fun v19 e19 f19 u19 => ?_)
  refine ne_callV X nw_Tg (me_X1_bringX l hl c q t b k n h x y T (by exact ⟨Ic, Iq, It, Ib, Itb, Ik, In, Ih, Ix, Iy⟩) (by omega) _ _ _ (by omega) (by omega) (by omega)) nw_yX1_bring nw_mX1_55 nw_iX1_bring nw_eX1_bring (ci := 3) rfl rfl rfl dX1_negate_20 rfl rfl (by decide) (by decide) (by first | decide | omega) (by first | decide | omega) (Nat.le_of_ble_eq_true rfl) rfl rfl (Nat.le_of_ble_eq_true rfl) ?_ ?_
  rotate_left
  · rintro E9 w9 h9; exact h9.elim
  rintro v20 w20 ⟨c20, q20, h20, rfl, hI20, z20, rfl, z920, G20⟩
  exact ne_iret X hr (by first | rfl | decide | rfl) dX1_negate_23 ⟨_, _, _, rfl, hI20, _, rfl, z920, by omega, (by rw [e11, e19] at G20; exact G20)⟩
set_option maxRecDepth 100000 in
set_option maxHeartbeats 4000000 in
theorem me_X1_sizeW (l : Launch) (hl : l.stackTraces = false) (c q t b k n h x y : Nat → Int) (T : Int) (hI : cI c q t b k n h x y T) (hT : 0 ≤ T ∧ T ≤ 1000) (i : Int) (hi : -2147483648 ≤ i ∧ i < 2147483648) : ne_M l nw_cl (.code yX1_size cX1_size 2 (some .int)) nw_T yX1_size 9 330 8 48 [.ref 0, ni i] (cW c q t b k n h x y) (fun v w => ∃ c1 q1 h1, w = cW c1 q1 t b k n h1 x y ∧ cI c1 q1 t b k n h1 x y (T + 1) ∧ ∃ z : Int, v = some (ni z) ∧ (-9 ≤ z ∧ z ≤ 1) ∧ (0 ≤ i ∧ i < 4) ∧ ne_come c q h i (if 0 ≤ c i.toNat then c i.toNat else -c i.toNat) (q i.toNat) c1 q1 h1 z) (fun E w => w = cW c q t b k n h x y ∧ ((E = "java/lang/IndexOutOfBoundsException" ∧ (i < 0 ∨ 4 ≤ i)) ∨ (E = "java/lang/IllegalArgumentException" ∧ False))) := by
  refine ne_meet (own := RX1) hl rfl (by decide +kernel) (Nat.le_of_ble_eq_true rfl) ?_
  intro D ct A P9 V9 R9 S9 M9 as9 bl9 mt9 C9 ad0 X hr hin ht
  obtain ⟨Ic, Iq, It, Ib, Itb, Ik, In, Ih, Ix, Iy⟩ := hI
  refine ne_iload_n X dX1_size_0 rfl ?_
  refine ne_callS X nw_Tg (me_X1_requireCellS l hl _ _ (by omega)) nw_yX1_requireCell nw_mX1_41 nw_sX1_requireCell dX1_size_1 rfl rfl (by decide) (by decide) (by first | decide | omega) (by first | decide | omega) (Nat.le_of_ble_eq_true rfl) rfl rfl (Nat.le_of_ble_eq_true rfl) ?_ ?_
  rotate_left
  · rintro E9 w9 h9; exact ne_out X ht (by obtain ⟨rfl, rfl, h9⟩ := h9; exact ⟨rfl, by first | exact Or.inl ⟨rfl, by omega⟩ | exact Or.inr ⟨rfl, by omega⟩⟩)
  rintro v1 w1 ⟨rfl, rfl, g1, k1⟩
  refine ne_aload_n X dX1_size_4 rfl ?_
  refine ne_iload_n X dX1_size_5 rfl ?_
  refine ne_aload_n X dX1_size_6 rfl ?_
  refine ne_getf X dX1_size_7 nw_fX1_9 rfl rfl ?_
  refine ne_iload_n X dX1_size_10 rfl ?_
  refine ne_ialdR X dX1_size_11 rfl (by omega) Ic (fun v11 e11 f11 u11 => ?_)
  refine ne_mabs X dX1_size_12 nw_mX1_63 nw_Ms_abs nw_Mi nw_Mc_abs (by decide) (Nat.le_of_ble_eq_true rfl) (by omega) ?_
  refine ne_topI (fun a12 e12 => ?_)
  have p12 : 0 ≤ a12 ∧ a12 ≤ 999999 := by rw [e12]; split <;> omega
  refine ne_i2l (by omega) X dX1_size_15 ?_
  refine ne_aload_n X dX1_size_16 rfl ?_
  refine ne_getf X dX1_size_17 nw_fX1_13 rfl rfl ?_
  refine ne_iload_n X dX1_size_20 rfl ?_
  refine ne_ialdR X dX1_size_21 rfl (by omega) Iq (fun v21 e21 f21 u21 => ?_)
  refine ne_callV X nw_Tg (me_X1_bringX l hl c q t b k n h x y T (by exact ⟨Ic, Iq, It, Ib, Itb, Ik, In, Ih, Ix, Iy⟩) (by omega) _ _ _ (by omega) (by omega) (by omega)) nw_yX1_bring nw_mX1_55 nw_iX1_bring nw_eX1_bring (ci := 3) rfl rfl rfl dX1_size_22 rfl rfl (by decide) (by decide) (by first | decide | omega) (by first | decide | omega) (Nat.le_of_ble_eq_true rfl) rfl rfl (Nat.le_of_ble_eq_true rfl) ?_ ?_
  rotate_left
  · rintro E9 w9 h9; exact h9.elim
  rintro v22 w22 ⟨c22, q22, h22, rfl, hI22, z22, rfl, z922, G22⟩
  exact ne_iret X hr (by first | rfl | decide | rfl) dX1_size_25 ⟨_, _, _, rfl, hI22, _, rfl, z922, by omega, (by rw [e12, e11, e21] at G22; exact G22)⟩
set_option maxRecDepth 100000 in
set_option maxHeartbeats 4000000 in
theorem me_X1_addW (l : Launch) (hl : l.stackTraces = false) (c q t b k n h x y : Nat → Int) (T : Int) (hI : cI c q t b k n h x y T) (hT : 0 ≤ T ∧ T ≤ 1000) (i : Int) (j : Int) (o : Int) (hi : -2147483648 ≤ i ∧ i < 2147483648) (hj : -2147483648 ≤ j ∧ j < 2147483648) (ho : -2147483648 ≤ o ∧ o < 2147483648) : ne_M l nw_cl (.code yX1_add cX1_add 5 (some .int)) nw_T yX1_add 9 330 8 48 [.ref 0, ni i, ni j, ni o] (cW c q t b k n h x y) (fun v w => ∃ c1 q1 h1, w = cW c1 q1 t b k n h1 x y ∧ cI c1 q1 t b k n h1 x y (T + 1) ∧ ∃ z : Int, v = some (ni z) ∧ (-9 ≤ z ∧ z ≤ 1) ∧ (0 ≤ i ∧ i < 4 ∧ 0 ≤ j ∧ j < 4 ∧ 0 ≤ o ∧ o < 4) ∧ ne_come c q h o (c i.toNat * 10 ^ ((if q i.toNat < q j.toNat then q j.toNat else q i.toNat) - q i.toNat).toNat + c j.toNat * 10 ^ ((if q i.toNat < q j.toNat then q j.toNat else q i.toNat) - q j.toNat).toNat) (if q i.toNat < q j.toNat then q j.toNat else q i.toNat) c1 q1 h1 z) (fun E w => w = cW c q t b k n h x y ∧ ((E = "java/lang/IndexOutOfBoundsException" ∧ (i < 0 ∨ 4 ≤ i ∨ j < 0 ∨ 4 ≤ j ∨ o < 0 ∨ 4 ≤ o)) ∨ (E = "java/lang/IllegalArgumentException" ∧ False))) := by
  refine ne_meet (own := RX1) hl rfl (by decide +kernel) (Nat.le_of_ble_eq_true rfl) ?_
  intro D ct A P9 V9 R9 S9 M9 as9 bl9 mt9 C9 ad0 X hr hin ht
  obtain ⟨Ic, Iq, It, Ib, Itb, Ik, In, Ih, Ix, Iy⟩ := hI
  refine ne_iload_n X dX1_add_0 rfl ?_
  refine ne_callS X nw_Tg (me_X1_requireCellS l hl _ _ (by omega)) nw_yX1_requireCell nw_mX1_41 nw_sX1_requireCell dX1_add_1 rfl rfl (by decide) (by decide) (by first | decide | omega) (by first | decide | omega) (Nat.le_of_ble_eq_true rfl) rfl rfl (Nat.le_of_ble_eq_true rfl) ?_ ?_
  rotate_left
  · rintro E9 w9 h9; exact ne_out X ht (by obtain ⟨rfl, rfl, h9⟩ := h9; exact ⟨rfl, by first | exact Or.inl ⟨rfl, by omega⟩ | exact Or.inr ⟨rfl, by omega⟩⟩)
  rintro v1 w1 ⟨rfl, rfl, g1, k1⟩
  refine ne_iload_n X dX1_add_4 rfl ?_
  refine ne_callS X nw_Tg (me_X1_requireCellS l hl _ _ (by omega)) nw_yX1_requireCell nw_mX1_41 nw_sX1_requireCell dX1_add_5 rfl rfl (by decide) (by decide) (by first | decide | omega) (by first | decide | omega) (Nat.le_of_ble_eq_true rfl) rfl rfl (Nat.le_of_ble_eq_true rfl) ?_ ?_
  rotate_left
  · rintro E9 w9 h9; exact ne_out X ht (by obtain ⟨rfl, rfl, h9⟩ := h9; exact ⟨rfl, by first | exact Or.inl ⟨rfl, by omega⟩ | exact Or.inr ⟨rfl, by omega⟩⟩)
  rintro v5 w5 ⟨rfl, rfl, g5, k5⟩
  refine ne_iload_n X dX1_add_8 rfl ?_
  refine ne_callS X nw_Tg (me_X1_requireCellS l hl _ _ (by omega)) nw_yX1_requireCell nw_mX1_41 nw_sX1_requireCell dX1_add_9 rfl rfl (by decide) (by decide) (by first | decide | omega) (by first | decide | omega) (Nat.le_of_ble_eq_true rfl) rfl rfl (Nat.le_of_ble_eq_true rfl) ?_ ?_
  rotate_left
  · rintro E9 w9 h9; exact ne_out X ht (by obtain ⟨rfl, rfl, h9⟩ := h9; exact ⟨rfl, by first | exact Or.inl ⟨rfl, by omega⟩ | exact Or.inr ⟨rfl, by omega⟩⟩)
  rintro v9 w9 ⟨rfl, rfl, g9, k9⟩
  refine ne_aload_n X dX1_add_12 rfl ?_
  refine ne_getf X dX1_add_13 nw_fX1_13 rfl rfl ?_
  refine ne_iload_n X dX1_add_16 rfl ?_
  refine ne_ialdR X dX1_add_17 rfl (by omega) Iq (fun v17 e17 f17 u17 => ?_)
  refine ne_aload_n X dX1_add_18 rfl ?_
  refine ne_getf X dX1_add_19 nw_fX1_13 rfl rfl ?_
  refine ne_iload_n X dX1_add_22 rfl ?_
  refine ne_ialdR X dX1_add_23 rfl (by omega) Iq (fun v23 e23 f23 u23 => ?_)
  refine ne_mmax X dX1_add_24 nw_mX1_69 nw_Ms_max nw_Mi nw_Mc_max (by decide) (Nat.le_of_ble_eq_true rfl) (by omega) (by omega) ?_
  refine ne_topI (fun m24 e24 => ?_)
  have p24 : 0 ≤ m24 ∧ m24 ≤ 3 := by rw [e24]; split <;> omega
  refine ne_istore X dX1_add_27 (by decide) ?_
  refine ne_aload_n X dX1_add_29 rfl ?_
  refine ne_iload_n X dX1_add_30 rfl ?_
  refine ne_aload_n X dX1_add_31 rfl ?_
  refine ne_iload_n X dX1_add_32 rfl ?_
  refine ne_iload X dX1_add_33 rfl ?_
  refine ne_callV X nw_Tg (me_X1_countAt l hl c q t b k n h x y T (by exact ⟨Ic, Iq, It, Ib, Itb, Ik, In, Ih, Ix, Iy⟩) (by omega) _ _ (by omega) (by omega)) nw_yX1_countAt nw_mX1_73 nw_iX1_countAt nw_eX1_countAt (ci := 3) rfl rfl rfl dX1_add_35 rfl rfl (by decide) (by decide) (by first | decide | omega) (by first | decide | omega) (Nat.le_of_ble_eq_true rfl) rfl rfl (Nat.le_of_ble_eq_true rfl) ?_ ?_
  rotate_left
  · rintro E9 w9 h9; exact h9.elim
  rintro v35 w35 ⟨rfl, z35, rfl, g35, k35, i35⟩
  refine ne_aload_n X dX1_add_38 rfl ?_
  refine ne_iload_n X dX1_add_39 rfl ?_
  refine ne_iload X dX1_add_40 rfl ?_
  refine ne_callV X nw_Tg (me_X1_countAt l hl c q t b k n h x y T (by exact ⟨Ic, Iq, It, Ib, Itb, Ik, In, Ih, Ix, Iy⟩) (by omega) _ _ (by omega) (by omega)) nw_yX1_countAt nw_mX1_73 nw_iX1_countAt nw_eX1_countAt (ci := 3) rfl rfl rfl dX1_add_42 rfl rfl (by decide) (by decide) (by first | decide | omega) (by first | decide | omega) (Nat.le_of_ble_eq_true rfl) rfl rfl (Nat.le_of_ble_eq_true rfl) ?_ ?_
  rotate_left
  · rintro E9 w9 h9; exact h9.elim
  rintro v42 w42 ⟨rfl, z42, rfl, g42, k42, i42⟩
  refine ne_ladd X dX1_add_45 ?_
  refine ne_iload X dX1_add_46 rfl ?_
  refine ne_callV X nw_Tg (me_X1_bringX l hl c q t b k n h x y T (by exact ⟨Ic, Iq, It, Ib, Itb, Ik, In, Ih, Ix, Iy⟩) (by omega) _ _ _ (by omega) (by omega) (by omega)) nw_yX1_bring nw_mX1_55 nw_iX1_bring nw_eX1_bring (ci := 3) rfl rfl rfl dX1_add_48 rfl rfl (by decide) (by decide) (by first | decide | omega) (by first | decide | omega) (Nat.le_of_ble_eq_true rfl) rfl rfl (Nat.le_of_ble_eq_true rfl) ?_ ?_
  rotate_left
  · rintro E9 w9 h9; exact h9.elim
  rintro v48 w48 ⟨c48, q48, h48, rfl, hI48, z48, rfl, z948, G48⟩
  exact ne_iret X hr (by first | rfl | decide | rfl) dX1_add_51 ⟨_, _, _, rfl, hI48, _, rfl, z948, by omega, (by rw [g35, g42, e24, e17, e23] at G48; exact G48)⟩
set_option maxRecDepth 100000 in
set_option maxHeartbeats 4000000 in
theorem me_X1_subtractW (l : Launch) (hl : l.stackTraces = false) (c q t b k n h x y : Nat → Int) (T : Int) (hI : cI c q t b k n h x y T) (hT : 0 ≤ T ∧ T ≤ 1000) (i : Int) (j : Int) (o : Int) (hi : -2147483648 ≤ i ∧ i < 2147483648) (hj : -2147483648 ≤ j ∧ j < 2147483648) (ho : -2147483648 ≤ o ∧ o < 2147483648) : ne_M l nw_cl (.code yX1_subtract cX1_subtract 5 (some .int)) nw_T yX1_subtract 9 330 8 48 [.ref 0, ni i, ni j, ni o] (cW c q t b k n h x y) (fun v w => ∃ c1 q1 h1, w = cW c1 q1 t b k n h1 x y ∧ cI c1 q1 t b k n h1 x y (T + 1) ∧ ∃ z : Int, v = some (ni z) ∧ (-9 ≤ z ∧ z ≤ 1) ∧ (0 ≤ i ∧ i < 4 ∧ 0 ≤ j ∧ j < 4 ∧ 0 ≤ o ∧ o < 4) ∧ ne_come c q h o (c i.toNat * 10 ^ ((if q i.toNat < q j.toNat then q j.toNat else q i.toNat) - q i.toNat).toNat - c j.toNat * 10 ^ ((if q i.toNat < q j.toNat then q j.toNat else q i.toNat) - q j.toNat).toNat) (if q i.toNat < q j.toNat then q j.toNat else q i.toNat) c1 q1 h1 z) (fun E w => w = cW c q t b k n h x y ∧ ((E = "java/lang/IndexOutOfBoundsException" ∧ (i < 0 ∨ 4 ≤ i ∨ j < 0 ∨ 4 ≤ j ∨ o < 0 ∨ 4 ≤ o)) ∨ (E = "java/lang/IllegalArgumentException" ∧ False))) := by
  refine ne_meet (own := RX1) hl rfl (by decide +kernel) (Nat.le_of_ble_eq_true rfl) ?_
  intro D ct A P9 V9 R9 S9 M9 as9 bl9 mt9 C9 ad0 X hr hin ht
  obtain ⟨Ic, Iq, It, Ib, Itb, Ik, In, Ih, Ix, Iy⟩ := hI
  refine ne_iload_n X dX1_subtract_0 rfl ?_
  refine ne_callS X nw_Tg (me_X1_requireCellS l hl _ _ (by omega)) nw_yX1_requireCell nw_mX1_41 nw_sX1_requireCell dX1_subtract_1 rfl rfl (by decide) (by decide) (by first | decide | omega) (by first | decide | omega) (Nat.le_of_ble_eq_true rfl) rfl rfl (Nat.le_of_ble_eq_true rfl) ?_ ?_
  rotate_left
  · rintro E9 w9 h9; exact ne_out X ht (by obtain ⟨rfl, rfl, h9⟩ := h9; exact ⟨rfl, by first | exact Or.inl ⟨rfl, by omega⟩ | exact Or.inr ⟨rfl, by omega⟩⟩)
  rintro v1 w1 ⟨rfl, rfl, g1, k1⟩
  refine ne_iload_n X dX1_subtract_4 rfl ?_
  refine ne_callS X nw_Tg (me_X1_requireCellS l hl _ _ (by omega)) nw_yX1_requireCell nw_mX1_41 nw_sX1_requireCell dX1_subtract_5 rfl rfl (by decide) (by decide) (by first | decide | omega) (by first | decide | omega) (Nat.le_of_ble_eq_true rfl) rfl rfl (Nat.le_of_ble_eq_true rfl) ?_ ?_
  rotate_left
  · rintro E9 w9 h9; exact ne_out X ht (by obtain ⟨rfl, rfl, h9⟩ := h9; exact ⟨rfl, by first | exact Or.inl ⟨rfl, by omega⟩ | exact Or.inr ⟨rfl, by omega⟩⟩)
  rintro v5 w5 ⟨rfl, rfl, g5, k5⟩
  refine ne_iload_n X dX1_subtract_8 rfl ?_
  refine ne_callS X nw_Tg (me_X1_requireCellS l hl _ _ (by omega)) nw_yX1_requireCell nw_mX1_41 nw_sX1_requireCell dX1_subtract_9 rfl rfl (by decide) (by decide) (by first | decide | omega) (by first | decide | omega) (Nat.le_of_ble_eq_true rfl) rfl rfl (Nat.le_of_ble_eq_true rfl) ?_ ?_
  rotate_left
  · rintro E9 w9 h9; exact ne_out X ht (by obtain ⟨rfl, rfl, h9⟩ := h9; exact ⟨rfl, by first | exact Or.inl ⟨rfl, by omega⟩ | exact Or.inr ⟨rfl, by omega⟩⟩)
  rintro v9 w9 ⟨rfl, rfl, g9, k9⟩
  refine ne_aload_n X dX1_subtract_12 rfl ?_
  refine ne_getf X dX1_subtract_13 nw_fX1_13 rfl rfl ?_
  refine ne_iload_n X dX1_subtract_16 rfl ?_
  refine ne_ialdR X dX1_subtract_17 rfl (by omega) Iq (fun v17 e17 f17 u17 => ?_)
  refine ne_aload_n X dX1_subtract_18 rfl ?_
  refine ne_getf X dX1_subtract_19 nw_fX1_13 rfl rfl ?_
  refine ne_iload_n X dX1_subtract_22 rfl ?_
  refine ne_ialdR X dX1_subtract_23 rfl (by omega) Iq (fun v23 e23 f23 u23 => ?_)
  refine ne_mmax X dX1_subtract_24 nw_mX1_69 nw_Ms_max nw_Mi nw_Mc_max (by decide) (Nat.le_of_ble_eq_true rfl) (by omega) (by omega) ?_
  refine ne_topI (fun m24 e24 => ?_)
  have p24 : 0 ≤ m24 ∧ m24 ≤ 3 := by rw [e24]; split <;> omega
  refine ne_istore X dX1_subtract_27 (by decide) ?_
  refine ne_aload_n X dX1_subtract_29 rfl ?_
  refine ne_iload_n X dX1_subtract_30 rfl ?_
  refine ne_aload_n X dX1_subtract_31 rfl ?_
  refine ne_iload_n X dX1_subtract_32 rfl ?_
  refine ne_iload X dX1_subtract_33 rfl ?_
  refine ne_callV X nw_Tg (me_X1_countAt l hl c q t b k n h x y T (by exact ⟨Ic, Iq, It, Ib, Itb, Ik, In, Ih, Ix, Iy⟩) (by omega) _ _ (by omega) (by omega)) nw_yX1_countAt nw_mX1_73 nw_iX1_countAt nw_eX1_countAt (ci := 3) rfl rfl rfl dX1_subtract_35 rfl rfl (by decide) (by decide) (by first | decide | omega) (by first | decide | omega) (Nat.le_of_ble_eq_true rfl) rfl rfl (Nat.le_of_ble_eq_true rfl) ?_ ?_
  rotate_left
  · rintro E9 w9 h9; exact h9.elim
  rintro v35 w35 ⟨rfl, z35, rfl, g35, k35, i35⟩
  refine ne_aload_n X dX1_subtract_38 rfl ?_
  refine ne_iload_n X dX1_subtract_39 rfl ?_
  refine ne_iload X dX1_subtract_40 rfl ?_
  refine ne_callV X nw_Tg (me_X1_countAt l hl c q t b k n h x y T (by exact ⟨Ic, Iq, It, Ib, Itb, Ik, In, Ih, Ix, Iy⟩) (by omega) _ _ (by omega) (by omega)) nw_yX1_countAt nw_mX1_73 nw_iX1_countAt nw_eX1_countAt (ci := 3) rfl rfl rfl dX1_subtract_42 rfl rfl (by decide) (by decide) (by first | decide | omega) (by first | decide | omega) (Nat.le_of_ble_eq_true rfl) rfl rfl (Nat.le_of_ble_eq_true rfl) ?_ ?_
  rotate_left
  · rintro E9 w9 h9; exact h9.elim
  rintro v42 w42 ⟨rfl, z42, rfl, g42, k42, i42⟩
  refine ne_lsub X dX1_subtract_45 ?_
  refine ne_iload X dX1_subtract_46 rfl ?_
  refine ne_callV X nw_Tg (me_X1_bringX l hl c q t b k n h x y T (by exact ⟨Ic, Iq, It, Ib, Itb, Ik, In, Ih, Ix, Iy⟩) (by omega) _ _ _ (by omega) (by omega) (by omega)) nw_yX1_bring nw_mX1_55 nw_iX1_bring nw_eX1_bring (ci := 3) rfl rfl rfl dX1_subtract_48 rfl rfl (by decide) (by decide) (by first | decide | omega) (by first | decide | omega) (Nat.le_of_ble_eq_true rfl) rfl rfl (Nat.le_of_ble_eq_true rfl) ?_ ?_
  rotate_left
  · rintro E9 w9 h9; exact h9.elim
  rintro v48 w48 ⟨c48, q48, h48, rfl, hI48, z48, rfl, z948, G48⟩
  exact ne_iret X hr (by first | rfl | decide | rfl) dX1_subtract_51 ⟨_, _, _, rfl, hI48, _, rfl, z948, by omega, (by rw [g35, g42, e24, e17, e23] at G48; exact G48)⟩
set_option maxRecDepth 100000 in
set_option maxHeartbeats 4000000 in
theorem me_X1_multiplyW (l : Launch) (hl : l.stackTraces = false) (c q t b k n h x y : Nat → Int) (T : Int) (hI : cI c q t b k n h x y T) (hT : 0 ≤ T ∧ T ≤ 1000) (i : Int) (j : Int) (o : Int) (hi : -2147483648 ≤ i ∧ i < 2147483648) (hj : -2147483648 ≤ j ∧ j < 2147483648) (ho : -2147483648 ≤ o ∧ o < 2147483648) : ne_M l nw_cl (.code yX1_multiply cX1_multiply 4 (some .int)) nw_T yX1_multiply 9 330 8 48 [.ref 0, ni i, ni j, ni o] (cW c q t b k n h x y) (fun v w => ∃ c1 q1 h1, w = cW c1 q1 t b k n h1 x y ∧ cI c1 q1 t b k n h1 x y (T + 1) ∧ ∃ z : Int, v = some (ni z) ∧ (-9 ≤ z ∧ z ≤ 1) ∧ (0 ≤ i ∧ i < 4 ∧ 0 ≤ j ∧ j < 4 ∧ 0 ≤ o ∧ o < 4) ∧ ne_come c q h o (c i.toNat * c j.toNat) (q i.toNat + q j.toNat) c1 q1 h1 z) (fun E w => w = cW c q t b k n h x y ∧ ((E = "java/lang/IndexOutOfBoundsException" ∧ (i < 0 ∨ 4 ≤ i ∨ j < 0 ∨ 4 ≤ j ∨ o < 0 ∨ 4 ≤ o)) ∨ (E = "java/lang/IllegalArgumentException" ∧ False))) := by
  refine ne_meet (own := RX1) hl rfl (by decide +kernel) (Nat.le_of_ble_eq_true rfl) ?_
  intro D ct A P9 V9 R9 S9 M9 as9 bl9 mt9 C9 ad0 X hr hin ht
  obtain ⟨Ic, Iq, It, Ib, Itb, Ik, In, Ih, Ix, Iy⟩ := hI
  refine ne_iload_n X dX1_multiply_0 rfl ?_
  refine ne_callS X nw_Tg (me_X1_requireCellS l hl _ _ (by omega)) nw_yX1_requireCell nw_mX1_41 nw_sX1_requireCell dX1_multiply_1 rfl rfl (by decide) (by decide) (by first | decide | omega) (by first | decide | omega) (Nat.le_of_ble_eq_true rfl) rfl rfl (Nat.le_of_ble_eq_true rfl) ?_ ?_
  rotate_left
  · rintro E9 w9 h9; exact ne_out X ht (by obtain ⟨rfl, rfl, h9⟩ := h9; exact ⟨rfl, by first | exact Or.inl ⟨rfl, by omega⟩ | exact Or.inr ⟨rfl, by omega⟩⟩)
  rintro v1 w1 ⟨rfl, rfl, g1, k1⟩
  refine ne_iload_n X dX1_multiply_4 rfl ?_
  refine ne_callS X nw_Tg (me_X1_requireCellS l hl _ _ (by omega)) nw_yX1_requireCell nw_mX1_41 nw_sX1_requireCell dX1_multiply_5 rfl rfl (by decide) (by decide) (by first | decide | omega) (by first | decide | omega) (Nat.le_of_ble_eq_true rfl) rfl rfl (Nat.le_of_ble_eq_true rfl) ?_ ?_
  rotate_left
  · rintro E9 w9 h9; exact ne_out X ht (by obtain ⟨rfl, rfl, h9⟩ := h9; exact ⟨rfl, by first | exact Or.inl ⟨rfl, by omega⟩ | exact Or.inr ⟨rfl, by omega⟩⟩)
  rintro v5 w5 ⟨rfl, rfl, g5, k5⟩
  refine ne_iload_n X dX1_multiply_8 rfl ?_
  refine ne_callS X nw_Tg (me_X1_requireCellS l hl _ _ (by omega)) nw_yX1_requireCell nw_mX1_41 nw_sX1_requireCell dX1_multiply_9 rfl rfl (by decide) (by decide) (by first | decide | omega) (by first | decide | omega) (Nat.le_of_ble_eq_true rfl) rfl rfl (Nat.le_of_ble_eq_true rfl) ?_ ?_
  rotate_left
  · rintro E9 w9 h9; exact ne_out X ht (by obtain ⟨rfl, rfl, h9⟩ := h9; exact ⟨rfl, by first | exact Or.inl ⟨rfl, by omega⟩ | exact Or.inr ⟨rfl, by omega⟩⟩)
  rintro v9 w9 ⟨rfl, rfl, g9, k9⟩
  refine ne_aload_n X dX1_multiply_12 rfl ?_
  refine ne_iload_n X dX1_multiply_13 rfl ?_
  refine ne_aload_n X dX1_multiply_14 rfl ?_
  refine ne_getf X dX1_multiply_15 nw_fX1_9 rfl rfl ?_
  refine ne_iload_n X dX1_multiply_18 rfl ?_
  refine ne_ialdR X dX1_multiply_19 rfl (by omega) Ic (fun v19 e19 f19 u19 => ?_)
  refine ne_i2l (by omega) X dX1_multiply_20 ?_
  refine ne_aload_n X dX1_multiply_21 rfl ?_
  refine ne_getf X dX1_multiply_22 nw_fX1_9 rfl rfl ?_
  refine ne_iload_n X dX1_multiply_25 rfl ?_
  refine ne_ialdR X dX1_multiply_26 rfl (by omega) Ic (fun v26 e26 f26 u26 => ?_)
  refine ne_i2l (by omega) X dX1_multiply_27 ?_
  have m28 := ne_mulS v19 v26 999999 999999 (by omega) (by omega)
  refine ne_lmul X dX1_multiply_28 ?_
  refine ne_aload_n X dX1_multiply_29 rfl ?_
  refine ne_getf X dX1_multiply_30 nw_fX1_13 rfl rfl ?_
  refine ne_iload_n X dX1_multiply_33 rfl ?_
  refine ne_ialdR X dX1_multiply_34 rfl (by omega) Iq (fun v34 e34 f34 u34 => ?_)
  refine ne_aload_n X dX1_multiply_35 rfl ?_
  refine ne_getf X dX1_multiply_36 nw_fX1_13 rfl rfl ?_
  refine ne_iload_n X dX1_multiply_39 rfl ?_
  refine ne_ialdR X dX1_multiply_40 rfl (by omega) Iq (fun v40 e40 f40 u40 => ?_)
  refine ne_iadd X dX1_multiply_41 ?_
  refine ne_callV X nw_Tg (me_X1_bringX l hl c q t b k n h x y T (by exact ⟨Ic, Iq, It, Ib, Itb, Ik, In, Ih, Ix, Iy⟩) (by omega) _ _ _ (by omega) (by omega) (by omega)) nw_yX1_bring nw_mX1_55 nw_iX1_bring nw_eX1_bring (ci := 3) rfl rfl rfl dX1_multiply_42 rfl rfl (by decide) (by decide) (by first | decide | omega) (by first | decide | omega) (Nat.le_of_ble_eq_true rfl) rfl rfl (Nat.le_of_ble_eq_true rfl) ?_ ?_
  rotate_left
  · rintro E9 w9 h9; exact h9.elim
  rintro v42 w42 ⟨c42, q42, h42, rfl, hI42, z42, rfl, z942, G42⟩
  exact ne_iret X hr (by first | rfl | decide | rfl) dX1_multiply_45 ⟨_, _, _, rfl, hI42, _, rfl, z942, by omega, (by rw [e19, e26, e34, e40] at G42; exact G42)⟩
set_option maxRecDepth 100000 in
set_option maxHeartbeats 4000000 in
theorem me_X1_powerW (l : Launch) (hl : l.stackTraces = false) (c q t b k n h x y : Nat → Int) (T : Int) (hI : cI c q t b k n h x y T) (hT : 0 ≤ T ∧ T ≤ 1000) (i : Int) (a : Int) (o : Int) (hi : -2147483648 ≤ i ∧ i < 2147483648) (ha : -2147483648 ≤ a ∧ a < 2147483648) (ho : -2147483648 ≤ o ∧ o < 2147483648) : ne_M l nw_cl (.code yX1_power cX1_power 7 (some .int)) nw_T yX1_power 9 330 8 48 [.ref 0, ni i, ni a, ni o] (cW c q t b k n h x y) (fun v w => ∃ c1 q1 h1, w = cW c1 q1 t b k n h1 x y ∧ cI c1 q1 t b k n h1 x y (T + 1) ∧ ∃ z : Int, v = some (ni z) ∧ (-9 ≤ z ∧ z ≤ 1) ∧ ((0 ≤ i ∧ i < 4 ∧ 0 ≤ o ∧ o < 4) ∧ 0 ≤ a ∧ a ≤ 3) ∧ ne_come c q h o (c i.toNat ^ a.toNat) (a * q i.toNat) c1 q1 h1 z) (fun E w => w = cW c q t b k n h x y ∧ ((E = "java/lang/IndexOutOfBoundsException" ∧ (i < 0 ∨ 4 ≤ i ∨ o < 0 ∨ 4 ≤ o)) ∨ (E = "java/lang/IllegalArgumentException" ∧ ((0 ≤ i ∧ i < 4 ∧ 0 ≤ o ∧ o < 4) ∧ (a < 0 ∨ 3 < a))))) := by
  refine ne_meet (own := RX1) hl rfl (by decide +kernel) (Nat.le_of_ble_eq_true rfl) ?_
  intro D ct A P9 V9 R9 S9 M9 as9 bl9 mt9 C9 ad0 X hr hin ht
  obtain ⟨Ic, Iq, It, Ib, Itb, Ik, In, Ih, Ix, Iy⟩ := hI
  have lp22 : ∀ (n9 : Nat) (r j : Int), (3 - j).toNat < n9 → (0 ≤ j) → (j ≤ a) → (0 ≤ a ∧ a ≤ 3) → (0 ≤ i ∧ i < 4) → (0 ≤ o ∧ o < 4) → (r = c i.toNat ^ j.toNat) → ne_G nw_cl D ct A 12 ad0 P9 l V9 R9 S9 M9 as9 bl9 mt9 C9 (ne_O nw_cl D ct ad0 12 A bl9 as9 S9 8 48 (fun v w => ∃ c1 q1 h1, w = cW c1 q1 t b k n h1 x y ∧ cI c1 q1 t b k n h1 x y (T + 1) ∧ ∃ z : Int, v = some (ni z) ∧ (-9 ≤ z ∧ z ≤ 1) ∧ ((0 ≤ i ∧ i < 4 ∧ 0 ≤ o ∧ o < 4) ∧ 0 ≤ a ∧ a ≤ 3) ∧ ne_come c q h o (c i.toNat ^ a.toNat) (a * q i.toNat) c1 q1 h1 z) (fun E w => w = cW c q t b k n h x y ∧ ((E = "java/lang/IndexOutOfBoundsException" ∧ (i < 0 ∨ 4 ≤ i ∨ o < 0 ∨ 4 ≤ o)) ∨ (E = "java/lang/IllegalArgumentException" ∧ ((0 ≤ i ∧ i < 4 ∧ 0 ≤ o ∧ o < 4) ∧ (a < 0 ∨ 3 < a)))))) 7 8 48 5 30 22 [some (.ref 0), some (ni i), some (ni a), some (ni o), some (nl r), none, some (ni j)] [] (cW c q t b k n h x y) := by
    intro n9
    induction n9 with
    | zero => intro r j hm9 q1 q2 q3 q5 q7 q9; exfalso; omega
    | succ n9 ih =>
      intro r j hm9 q1 q2 q3 q5 q7 q9
      refine ne_iload X dX1_power_22 rfl ?_
      refine ne_iload_n X dX1_power_24 rfl ?_
      refine ne_icmp_ge (tgt := 46) X dX1_power_25 rfl (by omega) (by omega) (fun b25 => ?_) (fun b25 => ?_)
      · have hja : j = a := by omega
        have hc9 := Ic i.toNat
        have r46 : -999997000002999999 ≤ r ∧ r ≤ 999997000002999999 := by rw [q9]; exact ne_pw3 _ hc9 _ (by omega)
        refine ne_aload_n X dX1_power_46 rfl ?_
        refine ne_iload_n X dX1_power_47 rfl ?_
        refine ne_lload X dX1_power_48 rfl ?_
        refine ne_iload_n X dX1_power_50 rfl ?_
        refine ne_aload_n X dX1_power_51 rfl ?_
        refine ne_getf X dX1_power_52 nw_fX1_13 rfl rfl ?_
        refine ne_iload_n X dX1_power_55 rfl ?_
        refine ne_ialdR X dX1_power_56 rfl (by omega) Iq (fun v56 e56 f56 u56 => ?_)
        have m57 := ne_mul a v56 3 3 (by omega) (by omega)
        have m58 : 0 ≤ a * v56 := Int.mul_nonneg (by omega) (by omega)
        refine ne_imul X dX1_power_57 ?_
        refine ne_callV X nw_Tg (me_X1_bringX l hl c q t b k n h x y T (by exact ⟨Ic, Iq, It, Ib, Itb, Ik, In, Ih, Ix, Iy⟩) (by omega) _ _ _ (by omega) (by omega) (by omega)) nw_yX1_bring nw_mX1_55 nw_iX1_bring nw_eX1_bring (ci := 3) rfl rfl rfl dX1_power_58 rfl rfl (by decide) (by decide) (by first | decide | omega) (by first | decide | omega) (Nat.le_of_ble_eq_true rfl) rfl rfl (Nat.le_of_ble_eq_true rfl) ?_ ?_
        rotate_left
        · rintro E9 w9 h9; exact h9.elim
        rintro v58 w58 ⟨c58, q58, h58, rfl, hI58, z58, rfl, z958, G58⟩
        exact ne_iret X hr (by first | rfl | decide | rfl) dX1_power_61 ⟨_, _, _, rfl, hI58, _, rfl, z958, by omega, (by rw [q9, e56, hja] at G58; exact G58)⟩
      · refine ne_lload X dX1_power_28 rfl ?_
        refine ne_aload_n X dX1_power_30 rfl ?_
        refine ne_getf X dX1_power_31 nw_fX1_9 rfl rfl ?_
        refine ne_iload_n X dX1_power_34 rfl ?_
        refine ne_ialdR X dX1_power_35 rfl (by omega) Ic (fun v35 e35 f35 u35 => ?_)
        refine ne_i2l (by omega) X dX1_power_36 ?_
        refine ne_lmul X dX1_power_37 ?_
        refine ne_lstore X dX1_power_38 (by decide) ?_
        refine ne_iinc X dX1_power_40 rfl (by decide) ?_
        refine ne_ll (L' := [some (.ref 0), some (ni _), some (ni _), some (ni _), some (nl _), none, some (ni _)]) rfl ?_
        refine ne_goto (tgt := 22) X dX1_power_43 rfl ?_
        exact ih _ _ (by omega) (by omega) (by omega) (by omega) (by omega) (by omega) (by rw [show (j + 1).toNat = j.toNat + 1 by omega, Int.pow_succ, q9, e35])
  refine ne_iload_n X dX1_power_0 rfl ?_
  refine ne_callS X nw_Tg (me_X1_requireCellS l hl _ _ (by omega)) nw_yX1_requireCell nw_mX1_41 nw_sX1_requireCell dX1_power_1 rfl rfl (by decide) (by decide) (by first | decide | omega) (by first | decide | omega) (Nat.le_of_ble_eq_true rfl) rfl rfl (Nat.le_of_ble_eq_true rfl) ?_ ?_
  rotate_left
  · rintro E9 w9 h9; exact ne_out X ht (by obtain ⟨rfl, rfl, h9⟩ := h9; exact ⟨rfl, by first | exact Or.inl ⟨rfl, by omega⟩ | exact Or.inr ⟨rfl, by omega⟩⟩)
  rintro v1 w1 ⟨rfl, rfl, g1, k1⟩
  refine ne_iload_n X dX1_power_4 rfl ?_
  refine ne_callS X nw_Tg (me_X1_requireCellS l hl _ _ (by omega)) nw_yX1_requireCell nw_mX1_41 nw_sX1_requireCell dX1_power_5 rfl rfl (by decide) (by decide) (by first | decide | omega) (by first | decide | omega) (Nat.le_of_ble_eq_true rfl) rfl rfl (Nat.le_of_ble_eq_true rfl) ?_ ?_
  rotate_left
  · rintro E9 w9 h9; exact ne_out X ht (by obtain ⟨rfl, rfl, h9⟩ := h9; exact ⟨rfl, by first | exact Or.inl ⟨rfl, by omega⟩ | exact Or.inr ⟨rfl, by omega⟩⟩)
  rintro v5 w5 ⟨rfl, rfl, g5, k5⟩
  refine ne_iload_n X dX1_power_8 rfl ?_
  refine ne_lconst (z := 0) (by decide) X dX1_power_9 ?_
  refine ne_ldc2 (z := 3) (by decide) nw_cX1_53 X dX1_power_10 ?_
  refine ne_callS X nw_Tg (me_X1_requireBetweenS l hl _ _ _ _ (by omega) (by omega) (by omega)) nw_yX1_requireBetween nw_mX1_49 nw_sX1_requireBetween dX1_power_13 rfl rfl (by decide) (by decide) (by first | decide | omega) (by first | decide | omega) (Nat.le_of_ble_eq_true rfl) rfl rfl (Nat.le_of_ble_eq_true rfl) ?_ ?_
  rotate_left
  · rintro E9 w9 h9; exact ne_out X ht (by obtain ⟨rfl, rfl, h9⟩ := h9; exact ⟨rfl, by first | exact Or.inl ⟨rfl, by omega⟩ | exact Or.inr ⟨rfl, by omega⟩⟩)
  rintro v13 w13 ⟨rfl, rfl, g13, k13⟩
  refine ne_lconst (z := 1) (by decide) X dX1_power_16 ?_
  refine ne_lstore X dX1_power_17 (by decide) ?_
  refine ne_iconst X dX1_power_19 ?_
  refine ne_istore X dX1_power_20 (by decide) ?_
  refine ne_ll (L' := [some (.ref 0), some (ni _), some (ni _), some (ni _), some (nl _), none, some (ni _)]) rfl ?_
  exact lp22 _ 1 0 (Nat.lt_succ_self _) (by omega) (by omega) (by omega) (by omega) (by omega) (by rw [show ((0 : Int)).toNat = 0 from rfl, Int.pow_zero])
set_option maxRecDepth 100000 in
set_option maxHeartbeats 4000000 in
theorem me_X1_divideW (l : Launch) (hl : l.stackTraces = false) (c q t b k n h x y : Nat → Int) (T : Int) (hI : cI c q t b k n h x y T) (hT : 0 ≤ T ∧ T ≤ 1000) (i : Int) (j : Int) (p : Int) (w0 : Int) (o : Int) (hi : -2147483648 ≤ i ∧ i < 2147483648) (hj : -2147483648 ≤ j ∧ j < 2147483648) (hp : -2147483648 ≤ p ∧ p < 2147483648) (hw0 : -2147483648 ≤ w0 ∧ w0 < 2147483648) (ho : -2147483648 ≤ o ∧ o < 2147483648) : ne_M l nw_cl (.code yX1_divide cX1_divide 10 (some .int)) nw_T yX1_divide 9 330 8 48 [.ref 0, ni i, ni j, ni p, ni w0, ni o] (cW c q t b k n h x y) (fun v w => ∃ c1 q1 h1, w = cW c1 q1 t b k n h1 x y ∧ cI c1 q1 t b k n h1 x y (T + 1) ∧ ∃ z : Int, v = some (ni z) ∧ (-9 ≤ z ∧ z ≤ 1) ∧ ((0 ≤ i ∧ i < 4 ∧ 0 ≤ j ∧ j < 4 ∧ 0 ≤ o ∧ o < 4) ∧ 0 ≤ p ∧ p ≤ 3 ∧ 0 ≤ w0 ∧ w0 ≤ 7) ∧ ne_Adiv c q h i j p w0 o c1 q1 h1 z) (fun E w => w = cW c q t b k n h x y ∧ ((E = "java/lang/IndexOutOfBoundsException" ∧ (i < 0 ∨ 4 ≤ i ∨ j < 0 ∨ 4 ≤ j ∨ o < 0 ∨ 4 ≤ o)) ∨ (E = "java/lang/IllegalArgumentException" ∧ ((0 ≤ i ∧ i < 4 ∧ 0 ≤ j ∧ j < 4 ∧ 0 ≤ o ∧ o < 4) ∧ (p < 0 ∨ 3 < p ∨ w0 < 0 ∨ 7 < w0))))) := by
  refine ne_meet (own := RX1) hl rfl (by decide +kernel) (Nat.le_of_ble_eq_true rfl) ?_
  intro D ct A P9 V9 R9 S9 M9 as9 bl9 mt9 C9 ad0 X hr hin ht
  obtain ⟨Ic, Iq, It, Ib, Itb, Ik, In, Ih, Ix, Iy⟩ := hI
  refine ne_iload_n X dX1_divide_0 rfl ?_
  refine ne_callS X nw_Tg (me_X1_requireCellS l hl _ _ (by omega)) nw_yX1_requireCell nw_mX1_41 nw_sX1_requireCell dX1_divide_1 rfl rfl (by decide) (by decide) (by first | decide | omega) (by first | decide | omega) (Nat.le_of_ble_eq_true rfl) rfl rfl (Nat.le_of_ble_eq_true rfl) ?_ ?_
  rotate_left
  · rintro E9 w9 h9; exact ne_out X ht (by obtain ⟨rfl, rfl, h9⟩ := h9; exact ⟨rfl, by first | exact Or.inl ⟨rfl, by omega⟩ | exact Or.inr ⟨rfl, by omega⟩⟩)
  rintro v1 w1 ⟨rfl, rfl, g1, k1⟩
  refine ne_iload_n X dX1_divide_4 rfl ?_
  refine ne_callS X nw_Tg (me_X1_requireCellS l hl _ _ (by omega)) nw_yX1_requireCell nw_mX1_41 nw_sX1_requireCell dX1_divide_5 rfl rfl (by decide) (by decide) (by first | decide | omega) (by first | decide | omega) (Nat.le_of_ble_eq_true rfl) rfl rfl (Nat.le_of_ble_eq_true rfl) ?_ ?_
  rotate_left
  · rintro E9 w9 h9; exact ne_out X ht (by obtain ⟨rfl, rfl, h9⟩ := h9; exact ⟨rfl, by first | exact Or.inl ⟨rfl, by omega⟩ | exact Or.inr ⟨rfl, by omega⟩⟩)
  rintro v5 w5 ⟨rfl, rfl, g5, k5⟩
  refine ne_iload X dX1_divide_8 rfl ?_
  refine ne_callS X nw_Tg (me_X1_requireCellS l hl _ _ (by omega)) nw_yX1_requireCell nw_mX1_41 nw_sX1_requireCell dX1_divide_10 rfl rfl (by decide) (by decide) (by first | decide | omega) (by first | decide | omega) (Nat.le_of_ble_eq_true rfl) rfl rfl (Nat.le_of_ble_eq_true rfl) ?_ ?_
  rotate_left
  · rintro E9 w9 h9; exact ne_out X ht (by obtain ⟨rfl, rfl, h9⟩ := h9; exact ⟨rfl, by first | exact Or.inl ⟨rfl, by omega⟩ | exact Or.inr ⟨rfl, by omega⟩⟩)
  rintro v10 w10 ⟨rfl, rfl, g10, k10⟩
  refine ne_iload_n X dX1_divide_13 rfl ?_
  refine ne_lconst (z := 0) (by decide) X dX1_divide_14 ?_
  refine ne_ldc2 (z := 3) (by decide) nw_cX1_53 X dX1_divide_15 ?_
  refine ne_callS X nw_Tg (me_X1_requireBetweenS l hl _ _ _ _ (by omega) (by omega) (by omega)) nw_yX1_requireBetween nw_mX1_49 nw_sX1_requireBetween dX1_divide_18 rfl rfl (by decide) (by decide) (by first | decide | omega) (by first | decide | omega) (Nat.le_of_ble_eq_true rfl) rfl rfl (Nat.le_of_ble_eq_true rfl) ?_ ?_
  rotate_left
  · rintro E9 w9 h9; exact ne_out X ht (by obtain ⟨rfl, rfl, h9⟩ := h9; exact ⟨rfl, by first | exact Or.inl ⟨rfl, by omega⟩ | exact Or.inr ⟨rfl, by omega⟩⟩)
  rintro v18 w18 ⟨rfl, rfl, g18, k18⟩
  refine ne_iload X dX1_divide_21 rfl ?_
  refine ne_callS X nw_Tg (me_X1_requireWayS l hl _ _ (by omega)) nw_yX1_requireWay nw_mX1_77 nw_sX1_requireWay dX1_divide_23 rfl rfl (by decide) (by decide) (by first | decide | omega) (by first | decide | omega) (Nat.le_of_ble_eq_true rfl) rfl rfl (Nat.le_of_ble_eq_true rfl) ?_ ?_
  rotate_left
  · rintro E9 w9 h9; exact ne_out X ht (by obtain ⟨rfl, rfl, h9⟩ := h9; exact ⟨rfl, by first | exact Or.inl ⟨rfl, by omega⟩ | exact Or.inr ⟨rfl, by omega⟩⟩)
  rintro v23 w23 ⟨rfl, rfl, g23, k23⟩
  refine ne_aload_n X dX1_divide_26 rfl ?_
  refine ne_getf X dX1_divide_27 nw_fX1_9 rfl rfl ?_
  refine ne_iload_n X dX1_divide_30 rfl ?_
  refine ne_ialdR X dX1_divide_31 rfl (by omega) Ic (fun v31 e31 f31 u31 => ?_)
  refine ne_i2l (by omega) X dX1_divide_32 ?_
  refine ne_aload_n X dX1_divide_33 rfl ?_
  refine ne_getf X dX1_divide_34 nw_fX1_13 rfl rfl ?_
  refine ne_iload_n X dX1_divide_37 rfl ?_
  refine ne_ialdR X dX1_divide_38 rfl (by omega) Iq (fun v38 e38 f38 u38 => ?_)
  refine ne_callS X nw_Tg (me_X1_tenTo l hl _ _ (by omega)) nw_yX1_tenTo nw_mX1_59 nw_sX1_tenTo dX1_divide_39 rfl rfl (by decide) (by decide) (by first | decide | omega) (by first | decide | omega) (Nat.le_of_ble_eq_true rfl) rfl rfl (Nat.le_of_ble_eq_true rfl) ?_ ?_
  rotate_left
  · rintro E9 w9 h9; exact h9.elim
  rintro v39 w39 ⟨rfl, z39, rfl, g39, k39, i39, j39, o39⟩
  have t399 := i39 (by omega)
  clear i39 j39 o39
  have m39 := ne_mul v31 z39 999999 1000 (by omega) (by omega)
  refine ne_lmul X dX1_divide_42 ?_
  refine ne_iload_n X dX1_divide_43 rfl ?_
  refine ne_callS X nw_Tg (me_X1_tenTo l hl _ _ (by omega)) nw_yX1_tenTo nw_mX1_59 nw_sX1_tenTo dX1_divide_44 rfl rfl (by decide) (by decide) (by first | decide | omega) (by first | decide | omega) (Nat.le_of_ble_eq_true rfl) rfl rfl (Nat.le_of_ble_eq_true rfl) ?_ ?_
  rotate_left
  · rintro E9 w9 h9; exact h9.elim
  rintro v44 w44 ⟨rfl, z44, rfl, g44, k44, i44, j44, o44⟩
  have t449 := i44 (by omega)
  clear i44 j44 o44
  have m44 := ne_mul (v31 * z39) z44 999999000 1000 (by omega) (by omega)
  refine ne_lmul X dX1_divide_47 ?_
  refine ne_lstore X dX1_divide_48 (by decide) ?_
  refine ne_aload_n X dX1_divide_50 rfl ?_
  refine ne_getf X dX1_divide_51 nw_fX1_9 rfl rfl ?_
  refine ne_iload_n X dX1_divide_54 rfl ?_
  refine ne_ialdR X dX1_divide_55 rfl (by omega) Ic (fun v55 e55 f55 u55 => ?_)
  refine ne_i2l (by omega) X dX1_divide_56 ?_
  refine ne_aload_n X dX1_divide_57 rfl ?_
  refine ne_getf X dX1_divide_58 nw_fX1_13 rfl rfl ?_
  refine ne_iload_n X dX1_divide_61 rfl ?_
  refine ne_ialdR X dX1_divide_62 rfl (by omega) Iq (fun v62 e62 f62 u62 => ?_)
  refine ne_callS X nw_Tg (me_X1_tenTo l hl _ _ (by omega)) nw_yX1_tenTo nw_mX1_59 nw_sX1_tenTo dX1_divide_63 rfl rfl (by decide) (by decide) (by first | decide | omega) (by first | decide | omega) (Nat.le_of_ble_eq_true rfl) rfl rfl (Nat.le_of_ble_eq_true rfl) ?_ ?_
  rotate_left
  · rintro E9 w9 h9; exact h9.elim
  rintro v63 w63 ⟨rfl, z63, rfl, g63, k63, i63, j63, o63⟩
  have t639 := i63 (by omega)
  clear i63 j63 o63
  have m63 := ne_mul v55 z63 999999 1000 (by omega) (by omega)
  refine ne_lmul X dX1_divide_66 ?_
  refine ne_lstore X dX1_divide_67 (by decide) ?_
  refine ne_ll (L' := [some (.ref 0), some (ni _), some (ni _), some (ni _), some (ni _), some (ni _), some (nl _), none, some (nl _), none]) rfl ?_
  refine ne_lload X dX1_divide_69 rfl ?_
  refine ne_lconst (z := 0) (by decide) X dX1_divide_71 ?_
  refine ne_lcif_ne (tgt := 81) X dX1_divide_72 dX1_divide_73 rfl (by omega) (by omega) (fun b73 => ?_) (fun b73 => ?_)
  · refine ne_aload_n X dX1_divide_81 rfl ?_
    refine ne_iload X dX1_divide_82 rfl ?_
    refine ne_lload X dX1_divide_84 rfl ?_
    refine ne_lconst (z := 0) (by decide) X dX1_divide_86 ?_
    refine ne_lcif_ge (tgt := 105) X dX1_divide_87 dX1_divide_88 rfl (by omega) (by omega) (fun b88 => ?_) (fun b88 => ?_)
    · refine ne_lload X dX1_divide_105 rfl ?_
      refine ne_lload X dX1_divide_107 rfl ?_
      refine ne_iload X dX1_divide_109 rfl ?_
      refine ne_callS X nw_Tg (me_X1_roundedX l hl _ 1000000000000 _ _ _ (by omega) (by omega) (by omega) (by omega)) nw_yX1_rounded nw_mX1_84 nw_sX1_rounded dX1_divide_111 rfl rfl (by decide) (by decide) (by first | decide | omega) (by first | decide | omega) (Nat.le_of_ble_eq_true rfl) rfl rfl (Nat.le_of_ble_eq_true rfl) ?_ ?_
      rotate_left
      · rintro E9 w9 h9; exact h9.elim
      rintro v111 w111 ⟨rfl, z111, rfl, g111⟩
      refine ne_iload_n X dX1_divide_114 rfl ?_
      refine ne_callV X nw_Tg (me_X1_bringX l hl c q t b k n h x y T (by exact ⟨Ic, Iq, It, Ib, Itb, Ik, In, Ih, Ix, Iy⟩) (by omega) _ _ _ (by omega) (by omega) (by omega)) nw_yX1_bring nw_mX1_55 nw_iX1_bring nw_eX1_bring (ci := 3) rfl rfl rfl dX1_divide_115 rfl rfl (by decide) (by decide) (by first | decide | omega) (by first | decide | omega) (Nat.le_of_ble_eq_true rfl) rfl rfl (Nat.le_of_ble_eq_true rfl) ?_ ?_
      rotate_left
      · rintro E9 w9 h9; exact h9.elim
      rintro v115 w115 ⟨c115, q115, h115, rfl, hI115, z115, rfl, z9115, G115⟩
      exact ne_iret X hr (by first | rfl | decide | rfl) dX1_divide_118 ⟨_, _, _, rfl, hI115, _, rfl, z9115, by omega, Or.inr ⟨(by rw [← e55]; exact ne_mn (show v55 * z63 ≠ 0 by omega)), _, _, (by omega), (by rw [e31, g39, e38, g44, e55, g63, e62]), ne_rcC (by decide) g111 G115⟩⟩
    · refine ne_lload X dX1_divide_91 rfl ?_
      refine ne_lneg X dX1_divide_93 ?_
      refine ne_lload X dX1_divide_94 rfl ?_
      refine ne_lneg X dX1_divide_96 ?_
      refine ne_iload X dX1_divide_97 rfl ?_
      refine ne_callS X nw_Tg (me_X1_roundedX l hl _ 1000000000000 _ _ _ (by omega) (by omega) (by omega) (by omega)) nw_yX1_rounded nw_mX1_84 nw_sX1_rounded dX1_divide_99 rfl rfl (by decide) (by decide) (by first | decide | omega) (by first | decide | omega) (Nat.le_of_ble_eq_true rfl) rfl rfl (Nat.le_of_ble_eq_true rfl) ?_ ?_
      rotate_left
      · rintro E9 w9 h9; exact h9.elim
      rintro v99 w99 ⟨rfl, z99, rfl, g99⟩
      refine ne_goto (tgt := 114) X dX1_divide_102 rfl ?_
      refine ne_iload_n X dX1_divide_114 rfl ?_
      refine ne_callV X nw_Tg (me_X1_bringX l hl c q t b k n h x y T (by exact ⟨Ic, Iq, It, Ib, Itb, Ik, In, Ih, Ix, Iy⟩) (by omega) _ _ _ (by omega) (by omega) (by omega)) nw_yX1_bring nw_mX1_55 nw_iX1_bring nw_eX1_bring (ci := 3) rfl rfl rfl dX1_divide_115 rfl rfl (by decide) (by decide) (by first | decide | omega) (by first | decide | omega) (Nat.le_of_ble_eq_true rfl) rfl rfl (Nat.le_of_ble_eq_true rfl) ?_ ?_
      rotate_left
      · rintro E9 w9 h9; exact h9.elim
      rintro v115 w115 ⟨c115, q115, h115, rfl, hI115, z115, rfl, z9115, G115⟩
      exact ne_iret X hr (by first | rfl | decide | rfl) dX1_divide_118 ⟨_, _, _, rfl, hI115, _, rfl, z9115, by omega, Or.inr ⟨(by rw [← e55]; exact ne_mn (show v55 * z63 ≠ 0 by omega)), _, _, (by omega), (by rw [e31, g39, e38, g44, e55, g63, e62]; rw [Int.neg_mul, Int.mul_neg]), ne_rcC (by decide) g99 G115⟩⟩
  · refine ne_aload_n X dX1_divide_76 rfl ?_
    refine ne_callV X nw_Tg (me_X1_decline l hl c q t b k n h x y T (by exact ⟨Ic, Iq, It, Ib, Itb, Ik, In, Ih, Ix, Iy⟩) (by omega) ) nw_yX1_decline nw_mX1_80 nw_iX1_decline nw_eX1_decline (ci := 3) rfl rfl rfl dX1_divide_77 rfl rfl (by decide) (by decide) (by first | decide | omega) (by first | decide | omega) (Nat.le_of_ble_eq_true rfl) rfl rfl (Nat.le_of_ble_eq_true rfl) ?_ ?_
    rotate_left
    · rintro E9 w9 h9; exact h9.elim
    rintro v77 w77 ⟨h77, rfl, p77, Ih, rfl⟩
    exact ne_iret X hr (by first | rfl | decide | rfl) dX1_divide_80 ⟨_, _, _, rfl, ⟨Ic, Iq, It, Ib, Itb, Ik, In, Ih, Ix, Iy⟩, _, rfl, by omega, by omega, Or.inl ⟨(by rw [← e55]; exact ne_mz (show v55 * z63 = 0 by omega) k63), ⟨rfl, rfl, p77, rfl⟩⟩⟩
set_option maxRecDepth 100000 in
set_option maxHeartbeats 4000000 in
theorem me_X1_shareW (l : Launch) (hl : l.stackTraces = false) (c q t b k n h x y : Nat → Int) (T : Int) (hI : cI c q t b k n h x y T) (hT : 0 ≤ T ∧ T ≤ 1000) (i : Int) (a : Int) (o : Int) (hi : -2147483648 ≤ i ∧ i < 2147483648) (ha : -2147483648 ≤ a ∧ a < 2147483648) (ho : -2147483648 ≤ o ∧ o < 2147483648) : ne_M l nw_cl (.code yX1_share cX1_share 7 (some .int)) nw_T yX1_share 9 330 8 48 [.ref 0, ni i, ni a, ni o] (cW c q t b k n h x y) (fun v w => ∃ c1 q1 h1, w = cW c1 q1 t b k n h1 x y ∧ cI c1 q1 t b k n h1 x y (T + 1) ∧ ∃ z : Int, v = some (ni z) ∧ (-9 ≤ z ∧ z ≤ 1) ∧ ((0 ≤ i ∧ i < 4 ∧ 0 ≤ o ∧ o < 4) ∧ -99 ≤ a ∧ a ≤ 99) ∧ ne_Ashare c q h i a o c1 q1 h1 z) (fun E w => w = cW c q t b k n h x y ∧ ((E = "java/lang/IndexOutOfBoundsException" ∧ (i < 0 ∨ 4 ≤ i ∨ o < 0 ∨ 4 ≤ o)) ∨ (E = "java/lang/IllegalArgumentException" ∧ ((0 ≤ i ∧ i < 4 ∧ 0 ≤ o ∧ o < 4) ∧ (a < -99 ∨ 99 < a))))) := by
  refine ne_meet (own := RX1) hl rfl (by decide +kernel) (Nat.le_of_ble_eq_true rfl) ?_
  intro D ct A P9 V9 R9 S9 M9 as9 bl9 mt9 C9 ad0 X hr hin ht
  obtain ⟨Ic, Iq, It, Ib, Itb, Ik, In, Ih, Ix, Iy⟩ := hI
  have lp44 : ∀ (n9 : Nat) (r j : Int), (4 - j).toNat < n9 → (q i.toNat ≤ j) → (j ≤ 3) → (-99 ≤ a ∧ a ≤ 99) → (a ≠ 0) → (0 ≤ i ∧ i < 4) → (0 ≤ o ∧ o < 4) → (r = c i.toNat * 10 ^ (j - q i.toNat).toNat) → (∀ R : Int, q i.toNat ≤ R → R < j → (c i.toNat * 10 ^ (R - q i.toNat).toNat).tmod a ≠ 0) → ne_G nw_cl D ct A 12 ad0 P9 l V9 R9 S9 M9 as9 bl9 mt9 C9 (ne_O nw_cl D ct ad0 12 A bl9 as9 S9 8 48 (fun v w => ∃ c1 q1 h1, w = cW c1 q1 t b k n h1 x y ∧ cI c1 q1 t b k n h1 x y (T + 1) ∧ ∃ z : Int, v = some (ni z) ∧ (-9 ≤ z ∧ z ≤ 1) ∧ ((0 ≤ i ∧ i < 4 ∧ 0 ≤ o ∧ o < 4) ∧ -99 ≤ a ∧ a ≤ 99) ∧ ne_Ashare c q h i a o c1 q1 h1 z) (fun E w => w = cW c q t b k n h x y ∧ ((E = "java/lang/IndexOutOfBoundsException" ∧ (i < 0 ∨ 4 ≤ i ∨ o < 0 ∨ 4 ≤ o)) ∨ (E = "java/lang/IllegalArgumentException" ∧ ((0 ≤ i ∧ i < 4 ∧ 0 ≤ o ∧ o < 4) ∧ (a < -99 ∨ 99 < a)))))) 7 8 48 5 30 44 [some (.ref 0), some (ni i), some (ni a), some (ni o), some (nl r), none, some (ni j)] [] (cW c q t b k n h x y) := by
    intro n9
    induction n9 with
    | zero => intro r j hm9 q1 q2 q3 q5 q6 q8 q10 q11; exfalso; omega
    | succ n9 ih =>
      intro r j hm9 q1 q2 q3 q5 q6 q8 q10 q11
      have hq9 := Iq i.toNat
      have hc9 := Ic i.toNat
      have r44 : -999999000 ≤ r ∧ r ≤ 999999000 := by
                                        have k9 := ne_p10r 3 (j - q i.toNat).toNat (by omega)
                                        have k8 := (ne_p10 (j - q i.toNat).toNat (by omega)).1
                                        have k7 := ne_mul (c i.toNat) (10 ^ (j - q i.toNat).toNat) 999999 1000 hc9 ⟨by omega, by omega⟩
                                        rw [q10]; omega
      have t44 := ne_tq r a
      refine ne_lload X dX1_share_44 rfl ?_
      refine ne_iload_n X dX1_share_46 rfl ?_
      refine ne_i2l (by omega) X dX1_share_47 ?_
      refine ne_lrem X dX1_share_48 (by omega) (by omega) (by omega) ?_
      refine ne_lconst (z := 0) (by decide) X dX1_share_49 ?_
      refine ne_lcif_eq (tgt := 74) X dX1_share_50 dX1_share_51 rfl (by omega) (by omega) (fun b51 => ?_) (fun b51 => ?_)
      · refine ne_lload X dX1_share_74 rfl ?_
        refine ne_iload_n X dX1_share_76 rfl ?_
        refine ne_i2l (by omega) X dX1_share_77 ?_
        refine ne_lrem X dX1_share_78 (by omega) (by omega) (by omega) ?_
        refine ne_lconst (z := 0) (by decide) X dX1_share_79 ?_
        refine ne_lcif_ne (tgt := 99) X dX1_share_80 dX1_share_81 rfl (by omega) (by omega) (fun b81 => ?_) (fun b81 => ?_)
        · refine ne_aload_n X dX1_share_99 rfl ?_
          refine ne_callV X nw_Tg (me_X1_decline l hl c q t b k n h x y T (by exact ⟨Ic, Iq, It, Ib, Itb, Ik, In, Ih, Ix, Iy⟩) (by omega) ) nw_yX1_decline nw_mX1_80 nw_iX1_decline nw_eX1_decline (ci := 3) rfl rfl rfl dX1_share_100 rfl rfl (by decide) (by decide) (by first | decide | omega) (by first | decide | omega) (Nat.le_of_ble_eq_true rfl) rfl rfl (Nat.le_of_ble_eq_true rfl) ?_ ?_
          rotate_left
          · rintro E9 w9 h9; exact h9.elim
          rintro v100 w100 ⟨h100, rfl, p100, Ih, rfl⟩
          exact ne_iret X hr (by first | rfl | decide | rfl) dX1_share_103 ⟨_, _, _, rfl, ⟨Ic, Iq, It, Ib, Itb, Ik, In, Ih, Ix, Iy⟩, _, rfl, by omega, by omega, Or.inr ⟨q5, Or.inr ⟨(fun R h1 h2 => by
                                        rcases (show R < j ∨ R = j by omega) with h3 | h3
                                        · exact q11 R h1 h3
                                        · rw [h3, ← q10]; omega), ⟨rfl, rfl, p100, rfl⟩⟩⟩⟩
        · refine ne_aload_n X dX1_share_84 rfl ?_
          refine ne_iload_n X dX1_share_85 rfl ?_
          refine ne_lload X dX1_share_86 rfl ?_
          refine ne_iload_n X dX1_share_88 rfl ?_
          refine ne_i2l (by omega) X dX1_share_89 ?_
          refine ne_ldiv X dX1_share_90 (by omega) (by omega) (by omega) ?_
          refine ne_iload X dX1_share_91 rfl ?_
          refine ne_callV X nw_Tg (me_X1_bringX l hl c q t b k n h x y T (by exact ⟨Ic, Iq, It, Ib, Itb, Ik, In, Ih, Ix, Iy⟩) (by omega) _ _ _ (by omega) (by omega) (by omega)) nw_yX1_bring nw_mX1_55 nw_iX1_bring nw_eX1_bring (ci := 3) rfl rfl rfl dX1_share_93 rfl rfl (by decide) (by decide) (by first | decide | omega) (by first | decide | omega) (Nat.le_of_ble_eq_true rfl) rfl rfl (Nat.le_of_ble_eq_true rfl) ?_ ?_
          rotate_left
          · rintro E9 w9 h9; exact h9.elim
          rintro v93 w93 ⟨c93, q93, h93, rfl, hI93, z93, rfl, z993, G93⟩
          refine ne_goto (tgt := 103) X dX1_share_96 rfl ?_
          exact ne_iret X hr (by first | rfl | decide | rfl) dX1_share_103 ⟨_, _, _, rfl, hI93, _, rfl, z993, by omega, Or.inr ⟨q5, Or.inl ⟨j, by omega, by omega, (by rw [← q10]; omega), q11, (by rw [q10] at G93; exact G93)⟩⟩⟩
      · refine ne_iload X dX1_share_54 rfl ?_
        refine ne_iconst X dX1_share_56 ?_
        refine ne_icmp_ge (tgt := 74) X dX1_share_57 rfl (by omega) (by omega) (fun b57 => ?_) (fun b57 => ?_)
        · refine ne_lload X dX1_share_74 rfl ?_
          refine ne_iload_n X dX1_share_76 rfl ?_
          refine ne_i2l (by omega) X dX1_share_77 ?_
          refine ne_lrem X dX1_share_78 (by omega) (by omega) (by omega) ?_
          refine ne_lconst (z := 0) (by decide) X dX1_share_79 ?_
          refine ne_lcif_ne (tgt := 99) X dX1_share_80 dX1_share_81 rfl (by omega) (by omega) (fun b81 => ?_) (fun b81 => ?_)
          · refine ne_aload_n X dX1_share_99 rfl ?_
            refine ne_callV X nw_Tg (me_X1_decline l hl c q t b k n h x y T (by exact ⟨Ic, Iq, It, Ib, Itb, Ik, In, Ih, Ix, Iy⟩) (by omega) ) nw_yX1_decline nw_mX1_80 nw_iX1_decline nw_eX1_decline (ci := 3) rfl rfl rfl dX1_share_100 rfl rfl (by decide) (by decide) (by first | decide | omega) (by first | decide | omega) (Nat.le_of_ble_eq_true rfl) rfl rfl (Nat.le_of_ble_eq_true rfl) ?_ ?_
            rotate_left
            · rintro E9 w9 h9; exact h9.elim
            rintro v100 w100 ⟨h100, rfl, p100, Ih, rfl⟩
            exact ne_iret X hr (by first | rfl | decide | rfl) dX1_share_103 ⟨_, _, _, rfl, ⟨Ic, Iq, It, Ib, Itb, Ik, In, Ih, Ix, Iy⟩, _, rfl, by omega, by omega, Or.inr ⟨q5, Or.inr ⟨(fun R h1 h2 => by
                                        rcases (show R < j ∨ R = j by omega) with h3 | h3
                                        · exact q11 R h1 h3
                                        · rw [h3, ← q10]; omega), ⟨rfl, rfl, p100, rfl⟩⟩⟩⟩
          · refine ne_aload_n X dX1_share_84 rfl ?_
            refine ne_iload_n X dX1_share_85 rfl ?_
            refine ne_lload X dX1_share_86 rfl ?_
            refine ne_iload_n X dX1_share_88 rfl ?_
            refine ne_i2l (by omega) X dX1_share_89 ?_
            refine ne_ldiv X dX1_share_90 (by omega) (by omega) (by omega) ?_
            refine ne_iload X dX1_share_91 rfl ?_
            refine ne_callV X nw_Tg (me_X1_bringX l hl c q t b k n h x y T (by exact ⟨Ic, Iq, It, Ib, Itb, Ik, In, Ih, Ix, Iy⟩) (by omega) _ _ _ (by omega) (by omega) (by omega)) nw_yX1_bring nw_mX1_55 nw_iX1_bring nw_eX1_bring (ci := 3) rfl rfl rfl dX1_share_93 rfl rfl (by decide) (by decide) (by first | decide | omega) (by first | decide | omega) (Nat.le_of_ble_eq_true rfl) rfl rfl (Nat.le_of_ble_eq_true rfl) ?_ ?_
            rotate_left
            · rintro E9 w9 h9; exact h9.elim
            rintro v93 w93 ⟨c93, q93, h93, rfl, hI93, z93, rfl, z993, G93⟩
            refine ne_goto (tgt := 103) X dX1_share_96 rfl ?_
            exact ne_iret X hr (by first | rfl | decide | rfl) dX1_share_103 ⟨_, _, _, rfl, hI93, _, rfl, z993, by omega, Or.inr ⟨q5, Or.inl ⟨j, by omega, by omega, (by rw [← q10]; omega), q11, (by rw [q10] at G93; exact G93)⟩⟩⟩
        · refine ne_lload X dX1_share_60 rfl ?_
          refine ne_ldc2 (z := 10) (by decide) nw_cX1_92 X dX1_share_62 ?_
          refine ne_lmul X dX1_share_65 ?_
          refine ne_lstore X dX1_share_66 (by decide) ?_
          refine ne_iinc X dX1_share_68 rfl (by decide) ?_
          refine ne_ll (L' := [some (.ref 0), some (ni _), some (ni _), some (ni _), some (nl _), none, some (ni _)]) rfl ?_
          refine ne_goto (tgt := 44) X dX1_share_71 rfl ?_
          have q12 : ∀ R : Int, q i.toNat ≤ R → R < j + 1 → (c i.toNat * 10 ^ (R - q i.toNat).toNat).tmod a ≠ 0 := fun R h1 h2 => by
                                        rcases (show R < j ∨ R = j by omega) with h3 | h3
                                        · exact q11 R h1 h3
                                        · rw [h3, ← q10]; omega
          exact ih _ _ (by omega) (by omega) (by omega) (by omega) (by omega) (by omega) (by omega) (by rw [show (j + 1 - q i.toNat).toNat = (j - q i.toNat).toNat + 1 by omega, Int.pow_succ, ← Int.mul_assoc, ← q10]) q12
  refine ne_iload_n X dX1_share_0 rfl ?_
  refine ne_callS X nw_Tg (me_X1_requireCellS l hl _ _ (by omega)) nw_yX1_requireCell nw_mX1_41 nw_sX1_requireCell dX1_share_1 rfl rfl (by decide) (by decide) (by first | decide | omega) (by first | decide | omega) (Nat.le_of_ble_eq_true rfl) rfl rfl (Nat.le_of_ble_eq_true rfl) ?_ ?_
  rotate_left
  · rintro E9 w9 h9; exact ne_out X ht (by obtain ⟨rfl, rfl, h9⟩ := h9; exact ⟨rfl, by first | exact Or.inl ⟨rfl, by omega⟩ | exact Or.inr ⟨rfl, by omega⟩⟩)
  rintro v1 w1 ⟨rfl, rfl, g1, k1⟩
  refine ne_iload_n X dX1_share_4 rfl ?_
  refine ne_callS X nw_Tg (me_X1_requireCellS l hl _ _ (by omega)) nw_yX1_requireCell nw_mX1_41 nw_sX1_requireCell dX1_share_5 rfl rfl (by decide) (by decide) (by first | decide | omega) (by first | decide | omega) (Nat.le_of_ble_eq_true rfl) rfl rfl (Nat.le_of_ble_eq_true rfl) ?_ ?_
  rotate_left
  · rintro E9 w9 h9; exact ne_out X ht (by obtain ⟨rfl, rfl, h9⟩ := h9; exact ⟨rfl, by first | exact Or.inl ⟨rfl, by omega⟩ | exact Or.inr ⟨rfl, by omega⟩⟩)
  rintro v5 w5 ⟨rfl, rfl, g5, k5⟩
  refine ne_iload_n X dX1_share_8 rfl ?_
  refine ne_ldc2 (z := -99) (by decide) nw_cX1_88 X dX1_share_9 ?_
  refine ne_ldc2 (z := 99) (by decide) nw_cX1_90 X dX1_share_12 ?_
  refine ne_callS X nw_Tg (me_X1_requireBetweenS l hl _ _ _ _ (by omega) (by omega) (by omega)) nw_yX1_requireBetween nw_mX1_49 nw_sX1_requireBetween dX1_share_15 rfl rfl (by decide) (by decide) (by first | decide | omega) (by first | decide | omega) (Nat.le_of_ble_eq_true rfl) rfl rfl (Nat.le_of_ble_eq_true rfl) ?_ ?_
  rotate_left
  · rintro E9 w9 h9; exact ne_out X ht (by obtain ⟨rfl, rfl, h9⟩ := h9; exact ⟨rfl, by first | exact Or.inl ⟨rfl, by omega⟩ | exact Or.inr ⟨rfl, by omega⟩⟩)
  rintro v15 w15 ⟨rfl, rfl, g15, k15⟩
  refine ne_iload_n X dX1_share_18 rfl ?_
  refine ne_if_ne (tgt := 27) X dX1_share_19 rfl (by omega) (fun b19 => ?_) (fun b19 => ?_)
  · refine ne_aload_n X dX1_share_27 rfl ?_
    refine ne_getf X dX1_share_28 nw_fX1_9 rfl rfl ?_
    refine ne_iload_n X dX1_share_31 rfl ?_
    refine ne_ialdR X dX1_share_32 rfl (by omega) Ic (fun v32 e32 f32 u32 => ?_)
    refine ne_i2l (by omega) X dX1_share_33 ?_
    refine ne_lstore X dX1_share_34 (by decide) ?_
    refine ne_aload_n X dX1_share_36 rfl ?_
    refine ne_getf X dX1_share_37 nw_fX1_13 rfl rfl ?_
    refine ne_iload_n X dX1_share_40 rfl ?_
    refine ne_ialdR X dX1_share_41 rfl (by omega) Iq (fun v41 e41 f41 u41 => ?_)
    refine ne_istore X dX1_share_42 (by decide) ?_
    refine ne_ll (L' := [some (.ref 0), some (ni _), some (ni _), some (ni _), some (nl _), none, some (ni _)]) rfl ?_
    have hq9 := Iq i.toNat
    exact lp44 _ _ _ (Nat.lt_succ_self _) (by omega) (by omega) (by omega) (by omega) (by omega) (by omega) (by rw [show (v41 - q i.toNat).toNat = 0 by omega, Int.pow_zero, Int.mul_one]; omega) (fun R h1 h2 => by omega)
  · refine ne_aload_n X dX1_share_22 rfl ?_
    refine ne_callV X nw_Tg (me_X1_decline l hl c q t b k n h x y T (by exact ⟨Ic, Iq, It, Ib, Itb, Ik, In, Ih, Ix, Iy⟩) (by omega) ) nw_yX1_decline nw_mX1_80 nw_iX1_decline nw_eX1_decline (ci := 3) rfl rfl rfl dX1_share_23 rfl rfl (by decide) (by decide) (by first | decide | omega) (by first | decide | omega) (Nat.le_of_ble_eq_true rfl) rfl rfl (Nat.le_of_ble_eq_true rfl) ?_ ?_
    rotate_left
    · rintro E9 w9 h9; exact h9.elim
    rintro v23 w23 ⟨h23, rfl, p23, Ih, rfl⟩
    exact ne_iret X hr (by first | rfl | decide | rfl) dX1_share_26 ⟨_, _, _, rfl, ⟨Ic, Iq, It, Ib, Itb, Ik, In, Ih, Ix, Iy⟩, _, rfl, by omega, by omega, Or.inl ⟨by omega, ⟨rfl, rfl, p23, rfl⟩⟩⟩
set_option maxRecDepth 100000 in
set_option maxHeartbeats 4000000 in
theorem me_X1_wholeW (l : Launch) (hl : l.stackTraces = false) (c q t b k n h x y : Nat → Int) (T : Int) (hI : cI c q t b k n h x y T) (hT : 0 ≤ T ∧ T ≤ 1000) (i : Int) (a : Int) (o : Int) (hi : -2147483648 ≤ i ∧ i < 2147483648) (ha : -2147483648 ≤ a ∧ a < 2147483648) (ho : -2147483648 ≤ o ∧ o < 2147483648) : ne_M l nw_cl (.code yX1_whole cX1_whole 6 (some .int)) nw_T yX1_whole 9 330 8 48 [.ref 0, ni i, ni a, ni o] (cW c q t b k n h x y) (fun v w => ∃ c1 q1 h1, w = cW c1 q1 t b k n h1 x y ∧ cI c1 q1 t b k n h1 x y (T + 1) ∧ ∃ z : Int, v = some (ni z) ∧ (-9 ≤ z ∧ z ≤ 1) ∧ ((0 ≤ i ∧ i < 4 ∧ 0 ≤ o ∧ o < 4) ∧ -99 ≤ a ∧ a ≤ 99) ∧ ne_Awhole c q h i a o c1 q1 h1 z) (fun E w => w = cW c q t b k n h x y ∧ ((E = "java/lang/IndexOutOfBoundsException" ∧ (i < 0 ∨ 4 ≤ i ∨ o < 0 ∨ 4 ≤ o)) ∨ (E = "java/lang/IllegalArgumentException" ∧ ((0 ≤ i ∧ i < 4 ∧ 0 ≤ o ∧ o < 4) ∧ (a < -99 ∨ 99 < a))))) := by
  refine ne_meet (own := RX1) hl rfl (by decide +kernel) (Nat.le_of_ble_eq_true rfl) ?_
  intro D ct A P9 V9 R9 S9 M9 as9 bl9 mt9 C9 ad0 X hr hin ht
  obtain ⟨Ic, Iq, It, Ib, Itb, Ik, In, Ih, Ix, Iy⟩ := hI
  refine ne_iload_n X dX1_whole_0 rfl ?_
  refine ne_callS X nw_Tg (me_X1_requireCellS l hl _ _ (by omega)) nw_yX1_requireCell nw_mX1_41 nw_sX1_requireCell dX1_whole_1 rfl rfl (by decide) (by decide) (by first | decide | omega) (by first | decide | omega) (Nat.le_of_ble_eq_true rfl) rfl rfl (Nat.le_of_ble_eq_true rfl) ?_ ?_
  rotate_left
  · rintro E9 w9 h9; exact ne_out X ht (by obtain ⟨rfl, rfl, h9⟩ := h9; exact ⟨rfl, by first | exact Or.inl ⟨rfl, by omega⟩ | exact Or.inr ⟨rfl, by omega⟩⟩)
  rintro v1 w1 ⟨rfl, rfl, g1, k1⟩
  refine ne_iload_n X dX1_whole_4 rfl ?_
  refine ne_callS X nw_Tg (me_X1_requireCellS l hl _ _ (by omega)) nw_yX1_requireCell nw_mX1_41 nw_sX1_requireCell dX1_whole_5 rfl rfl (by decide) (by decide) (by first | decide | omega) (by first | decide | omega) (Nat.le_of_ble_eq_true rfl) rfl rfl (Nat.le_of_ble_eq_true rfl) ?_ ?_
  rotate_left
  · rintro E9 w9 h9; exact ne_out X ht (by obtain ⟨rfl, rfl, h9⟩ := h9; exact ⟨rfl, by first | exact Or.inl ⟨rfl, by omega⟩ | exact Or.inr ⟨rfl, by omega⟩⟩)
  rintro v5 w5 ⟨rfl, rfl, g5, k5⟩
  refine ne_iload_n X dX1_whole_8 rfl ?_
  refine ne_ldc2 (z := -99) (by decide) nw_cX1_88 X dX1_whole_9 ?_
  refine ne_ldc2 (z := 99) (by decide) nw_cX1_90 X dX1_whole_12 ?_
  refine ne_callS X nw_Tg (me_X1_requireBetweenS l hl _ _ _ _ (by omega) (by omega) (by omega)) nw_yX1_requireBetween nw_mX1_49 nw_sX1_requireBetween dX1_whole_15 rfl rfl (by decide) (by decide) (by first | decide | omega) (by first | decide | omega) (Nat.le_of_ble_eq_true rfl) rfl rfl (Nat.le_of_ble_eq_true rfl) ?_ ?_
  rotate_left
  · rintro E9 w9 h9; exact ne_out X ht (by obtain ⟨rfl, rfl, h9⟩ := h9; exact ⟨rfl, by first | exact Or.inl ⟨rfl, by omega⟩ | exact Or.inr ⟨rfl, by omega⟩⟩)
  rintro v15 w15 ⟨rfl, rfl, g15, k15⟩
  refine ne_iload_n X dX1_whole_18 rfl ?_
  refine ne_i2l (by omega) X dX1_whole_19 ?_
  refine ne_aload_n X dX1_whole_20 rfl ?_
  refine ne_getf X dX1_whole_21 nw_fX1_13 rfl rfl ?_
  refine ne_iload_n X dX1_whole_24 rfl ?_
  refine ne_ialdR X dX1_whole_25 rfl (by omega) Iq (fun v25 e25 f25 u25 => ?_)
  refine ne_callS X nw_Tg (me_X1_tenTo l hl _ _ (by omega)) nw_yX1_tenTo nw_mX1_59 nw_sX1_tenTo dX1_whole_26 rfl rfl (by decide) (by decide) (by first | decide | omega) (by first | decide | omega) (Nat.le_of_ble_eq_true rfl) rfl rfl (Nat.le_of_ble_eq_true rfl) ?_ ?_
  rotate_left
  · rintro E9 w9 h9; exact h9.elim
  rintro v26 w26 ⟨rfl, z26, rfl, g26, k26, i26, j26, o26⟩
  have t269 := i26 (by omega)
  clear i26 j26 o26
  have m26 := ne_mul a z26 99 1000 (by omega) (by omega)
  refine ne_lmul X dX1_whole_29 ?_
  refine ne_lstore X dX1_whole_30 (by decide) ?_
  refine ne_lload X dX1_whole_32 rfl ?_
  refine ne_lconst (z := 0) (by decide) X dX1_whole_34 ?_
  refine ne_lcif_ne (tgt := 46) X dX1_whole_35 dX1_whole_36 rfl (by omega) (by omega) (fun b36 => ?_) (fun b36 => ?_)
  · refine ne_aload_n X dX1_whole_46 rfl ?_
    refine ne_iload_n X dX1_whole_47 rfl ?_
    refine ne_aload_n X dX1_whole_48 rfl ?_
    refine ne_getf X dX1_whole_49 nw_fX1_9 rfl rfl ?_
    refine ne_iload_n X dX1_whole_52 rfl ?_
    refine ne_ialdR X dX1_whole_53 rfl (by omega) Ic (fun v53 e53 f53 u53 => ?_)
    refine ne_i2l (by omega) X dX1_whole_54 ?_
    refine ne_lload X dX1_whole_55 rfl ?_
    have t57 := ne_tq v53 (a * z26)
    refine ne_ldiv X dX1_whole_57 (by omega) (by omega) (by omega) ?_
    refine ne_iconst X dX1_whole_58 ?_
    refine ne_callV X nw_Tg (me_X1_bringX l hl c q t b k n h x y T (by exact ⟨Ic, Iq, It, Ib, Itb, Ik, In, Ih, Ix, Iy⟩) (by omega) _ _ _ (by omega) (by omega) (by omega)) nw_yX1_bring nw_mX1_55 nw_iX1_bring nw_eX1_bring (ci := 3) rfl rfl rfl dX1_whole_59 rfl rfl (by decide) (by decide) (by first | decide | omega) (by first | decide | omega) (Nat.le_of_ble_eq_true rfl) rfl rfl (Nat.le_of_ble_eq_true rfl) ?_ ?_
    rotate_left
    · rintro E9 w9 h9; exact h9.elim
    rintro v59 w59 ⟨c59, q59, h59, rfl, hI59, z59, rfl, z959, G59⟩
    exact ne_iret X hr (by first | rfl | decide | rfl) dX1_whole_62 ⟨_, _, _, rfl, hI59, _, rfl, z959, by omega, Or.inr ⟨ne_mn (show a * z26 ≠ 0 by omega), (by rw [e53, g26, e25] at G59; exact G59)⟩⟩
  · refine ne_aload_n X dX1_whole_39 rfl ?_
    refine ne_callV X nw_Tg (me_X1_decline l hl c q t b k n h x y T (by exact ⟨Ic, Iq, It, Ib, Itb, Ik, In, Ih, Ix, Iy⟩) (by omega) ) nw_yX1_decline nw_mX1_80 nw_iX1_decline nw_eX1_decline (ci := 3) rfl rfl rfl dX1_whole_40 rfl rfl (by decide) (by decide) (by first | decide | omega) (by first | decide | omega) (Nat.le_of_ble_eq_true rfl) rfl rfl (Nat.le_of_ble_eq_true rfl) ?_ ?_
    rotate_left
    · rintro E9 w9 h9; exact h9.elim
    rintro v40 w40 ⟨h40, rfl, p40, Ih, rfl⟩
    refine ne_goto (tgt := 62) X dX1_whole_43 rfl ?_
    exact ne_iret X hr (by first | rfl | decide | rfl) dX1_whole_62 ⟨_, _, _, rfl, ⟨Ic, Iq, It, Ib, Itb, Ik, In, Ih, Ix, Iy⟩, _, rfl, by omega, by omega, Or.inl ⟨ne_mz (show a * z26 = 0 by omega) k26, ⟨rfl, rfl, p40, rfl⟩⟩⟩
set_option maxRecDepth 100000 in
set_option maxHeartbeats 4000000 in
theorem me_X1_restW (l : Launch) (hl : l.stackTraces = false) (c q t b k n h x y : Nat → Int) (T : Int) (hI : cI c q t b k n h x y T) (hT : 0 ≤ T ∧ T ≤ 1000) (i : Int) (a : Int) (o : Int) (hi : -2147483648 ≤ i ∧ i < 2147483648) (ha : -2147483648 ≤ a ∧ a < 2147483648) (ho : -2147483648 ≤ o ∧ o < 2147483648) : ne_M l nw_cl (.code yX1_rest cX1_rest 6 (some .int)) nw_T yX1_rest 9 330 8 48 [.ref 0, ni i, ni a, ni o] (cW c q t b k n h x y) (fun v w => ∃ c1 q1 h1, w = cW c1 q1 t b k n h1 x y ∧ cI c1 q1 t b k n h1 x y (T + 1) ∧ ∃ z : Int, v = some (ni z) ∧ (-9 ≤ z ∧ z ≤ 1) ∧ ((0 ≤ i ∧ i < 4 ∧ 0 ≤ o ∧ o < 4) ∧ -99 ≤ a ∧ a ≤ 99) ∧ ne_Arest c q h i a o c1 q1 h1 z) (fun E w => w = cW c q t b k n h x y ∧ ((E = "java/lang/IndexOutOfBoundsException" ∧ (i < 0 ∨ 4 ≤ i ∨ o < 0 ∨ 4 ≤ o)) ∨ (E = "java/lang/IllegalArgumentException" ∧ ((0 ≤ i ∧ i < 4 ∧ 0 ≤ o ∧ o < 4) ∧ (a < -99 ∨ 99 < a))))) := by
  refine ne_meet (own := RX1) hl rfl (by decide +kernel) (Nat.le_of_ble_eq_true rfl) ?_
  intro D ct A P9 V9 R9 S9 M9 as9 bl9 mt9 C9 ad0 X hr hin ht
  obtain ⟨Ic, Iq, It, Ib, Itb, Ik, In, Ih, Ix, Iy⟩ := hI
  refine ne_iload_n X dX1_rest_0 rfl ?_
  refine ne_callS X nw_Tg (me_X1_requireCellS l hl _ _ (by omega)) nw_yX1_requireCell nw_mX1_41 nw_sX1_requireCell dX1_rest_1 rfl rfl (by decide) (by decide) (by first | decide | omega) (by first | decide | omega) (Nat.le_of_ble_eq_true rfl) rfl rfl (Nat.le_of_ble_eq_true rfl) ?_ ?_
  rotate_left
  · rintro E9 w9 h9; exact ne_out X ht (by obtain ⟨rfl, rfl, h9⟩ := h9; exact ⟨rfl, by first | exact Or.inl ⟨rfl, by omega⟩ | exact Or.inr ⟨rfl, by omega⟩⟩)
  rintro v1 w1 ⟨rfl, rfl, g1, k1⟩
  refine ne_iload_n X dX1_rest_4 rfl ?_
  refine ne_callS X nw_Tg (me_X1_requireCellS l hl _ _ (by omega)) nw_yX1_requireCell nw_mX1_41 nw_sX1_requireCell dX1_rest_5 rfl rfl (by decide) (by decide) (by first | decide | omega) (by first | decide | omega) (Nat.le_of_ble_eq_true rfl) rfl rfl (Nat.le_of_ble_eq_true rfl) ?_ ?_
  rotate_left
  · rintro E9 w9 h9; exact ne_out X ht (by obtain ⟨rfl, rfl, h9⟩ := h9; exact ⟨rfl, by first | exact Or.inl ⟨rfl, by omega⟩ | exact Or.inr ⟨rfl, by omega⟩⟩)
  rintro v5 w5 ⟨rfl, rfl, g5, k5⟩
  refine ne_iload_n X dX1_rest_8 rfl ?_
  refine ne_ldc2 (z := -99) (by decide) nw_cX1_88 X dX1_rest_9 ?_
  refine ne_ldc2 (z := 99) (by decide) nw_cX1_90 X dX1_rest_12 ?_
  refine ne_callS X nw_Tg (me_X1_requireBetweenS l hl _ _ _ _ (by omega) (by omega) (by omega)) nw_yX1_requireBetween nw_mX1_49 nw_sX1_requireBetween dX1_rest_15 rfl rfl (by decide) (by decide) (by first | decide | omega) (by first | decide | omega) (Nat.le_of_ble_eq_true rfl) rfl rfl (Nat.le_of_ble_eq_true rfl) ?_ ?_
  rotate_left
  · rintro E9 w9 h9; exact ne_out X ht (by obtain ⟨rfl, rfl, h9⟩ := h9; exact ⟨rfl, by first | exact Or.inl ⟨rfl, by omega⟩ | exact Or.inr ⟨rfl, by omega⟩⟩)
  rintro v15 w15 ⟨rfl, rfl, g15, k15⟩
  refine ne_iload_n X dX1_rest_18 rfl ?_
  refine ne_i2l (by omega) X dX1_rest_19 ?_
  refine ne_aload_n X dX1_rest_20 rfl ?_
  refine ne_getf X dX1_rest_21 nw_fX1_13 rfl rfl ?_
  refine ne_iload_n X dX1_rest_24 rfl ?_
  refine ne_ialdR X dX1_rest_25 rfl (by omega) Iq (fun v25 e25 f25 u25 => ?_)
  refine ne_callS X nw_Tg (me_X1_tenTo l hl _ _ (by omega)) nw_yX1_tenTo nw_mX1_59 nw_sX1_tenTo dX1_rest_26 rfl rfl (by decide) (by decide) (by first | decide | omega) (by first | decide | omega) (Nat.le_of_ble_eq_true rfl) rfl rfl (Nat.le_of_ble_eq_true rfl) ?_ ?_
  rotate_left
  · rintro E9 w9 h9; exact h9.elim
  rintro v26 w26 ⟨rfl, z26, rfl, g26, k26, i26, j26, o26⟩
  have t269 := i26 (by omega)
  clear i26 j26 o26
  have m26 := ne_mul a z26 99 1000 (by omega) (by omega)
  refine ne_lmul X dX1_rest_29 ?_
  refine ne_lstore X dX1_rest_30 (by decide) ?_
  refine ne_lload X dX1_rest_32 rfl ?_
  refine ne_lconst (z := 0) (by decide) X dX1_rest_34 ?_
  refine ne_lcif_ne (tgt := 46) X dX1_rest_35 dX1_rest_36 rfl (by omega) (by omega) (fun b36 => ?_) (fun b36 => ?_)
  · refine ne_aload_n X dX1_rest_46 rfl ?_
    refine ne_iload_n X dX1_rest_47 rfl ?_
    refine ne_aload_n X dX1_rest_48 rfl ?_
    refine ne_getf X dX1_rest_49 nw_fX1_9 rfl rfl ?_
    refine ne_iload_n X dX1_rest_52 rfl ?_
    refine ne_ialdR X dX1_rest_53 rfl (by omega) Ic (fun v53 e53 f53 u53 => ?_)
    refine ne_i2l (by omega) X dX1_rest_54 ?_
    refine ne_lload X dX1_rest_55 rfl ?_
    have t57 := ne_tq v53 (a * z26)
    refine ne_lrem X dX1_rest_57 (by omega) (by omega) (by omega) ?_
    refine ne_aload_n X dX1_rest_58 rfl ?_
    refine ne_getf X dX1_rest_59 nw_fX1_13 rfl rfl ?_
    refine ne_iload_n X dX1_rest_62 rfl ?_
    refine ne_ialdR X dX1_rest_63 rfl (by omega) Iq (fun v63 e63 f63 u63 => ?_)
    refine ne_callV X nw_Tg (me_X1_bringX l hl c q t b k n h x y T (by exact ⟨Ic, Iq, It, Ib, Itb, Ik, In, Ih, Ix, Iy⟩) (by omega) _ _ _ (by omega) (by omega) (by omega)) nw_yX1_bring nw_mX1_55 nw_iX1_bring nw_eX1_bring (ci := 3) rfl rfl rfl dX1_rest_64 rfl rfl (by decide) (by decide) (by first | decide | omega) (by first | decide | omega) (Nat.le_of_ble_eq_true rfl) rfl rfl (Nat.le_of_ble_eq_true rfl) ?_ ?_
    rotate_left
    · rintro E9 w9 h9; exact h9.elim
    rintro v64 w64 ⟨c64, q64, h64, rfl, hI64, z64, rfl, z964, G64⟩
    exact ne_iret X hr (by first | rfl | decide | rfl) dX1_rest_67 ⟨_, _, _, rfl, hI64, _, rfl, z964, by omega, Or.inr ⟨ne_mn (show a * z26 ≠ 0 by omega), (by rw [e53, g26, e25, e63] at G64; exact G64)⟩⟩
  · refine ne_aload_n X dX1_rest_39 rfl ?_
    refine ne_callV X nw_Tg (me_X1_decline l hl c q t b k n h x y T (by exact ⟨Ic, Iq, It, Ib, Itb, Ik, In, Ih, Ix, Iy⟩) (by omega) ) nw_yX1_decline nw_mX1_80 nw_iX1_decline nw_eX1_decline (ci := 3) rfl rfl rfl dX1_rest_40 rfl rfl (by decide) (by decide) (by first | decide | omega) (by first | decide | omega) (Nat.le_of_ble_eq_true rfl) rfl rfl (Nat.le_of_ble_eq_true rfl) ?_ ?_
    rotate_left
    · rintro E9 w9 h9; exact h9.elim
    rintro v40 w40 ⟨h40, rfl, p40, Ih, rfl⟩
    refine ne_goto (tgt := 67) X dX1_rest_43 rfl ?_
    exact ne_iret X hr (by first | rfl | decide | rfl) dX1_rest_67 ⟨_, _, _, rfl, ⟨Ic, Iq, It, Ib, Itb, Ik, In, Ih, Ix, Iy⟩, _, rfl, by omega, by omega, Or.inl ⟨ne_mz (show a * z26 = 0 by omega) k26, ⟨rfl, rfl, p40, rfl⟩⟩⟩
set_option maxRecDepth 100000 in
set_option maxHeartbeats 4000000 in
theorem me_X1_setPlacesW (l : Launch) (hl : l.stackTraces = false) (c q t b k n h x y : Nat → Int) (T : Int) (hI : cI c q t b k n h x y T) (hT : 0 ≤ T ∧ T ≤ 1000) (i : Int) (p : Int) (w0 : Int) (hi : -2147483648 ≤ i ∧ i < 2147483648) (hp : -2147483648 ≤ p ∧ p < 2147483648) (hw0 : -2147483648 ≤ w0 ∧ w0 < 2147483648) : ne_M l nw_cl (.code yX1_setPlaces cX1_setPlaces 4 (some .int)) nw_T yX1_setPlaces 9 330 8 48 [.ref 0, ni i, ni p, ni w0] (cW c q t b k n h x y) (fun v w => ∃ c1 q1 h1, w = cW c1 q1 t b k n h1 x y ∧ cI c1 q1 t b k n h1 x y (T + 1) ∧ ∃ z : Int, v = some (ni z) ∧ (-9 ≤ z ∧ z ≤ 1) ∧ ((0 ≤ i ∧ i < 4) ∧ 0 ≤ p ∧ p ≤ 3 ∧ 0 ≤ w0 ∧ w0 ≤ 7) ∧ ne_rcome c q h i w0 p (c i.toNat * 10 ^ p.toNat) (10 ^ (q i.toNat).toNat) c1 q1 h1 z) (fun E w => w = cW c q t b k n h x y ∧ ((E = "java/lang/IndexOutOfBoundsException" ∧ (i < 0 ∨ 4 ≤ i)) ∨ (E = "java/lang/IllegalArgumentException" ∧ ((0 ≤ i ∧ i < 4) ∧ (p < 0 ∨ 3 < p ∨ w0 < 0 ∨ 7 < w0))))) := by
  refine ne_meet (own := RX1) hl rfl (by decide +kernel) (Nat.le_of_ble_eq_true rfl) ?_
  intro D ct A P9 V9 R9 S9 M9 as9 bl9 mt9 C9 ad0 X hr hin ht
  obtain ⟨Ic, Iq, It, Ib, Itb, Ik, In, Ih, Ix, Iy⟩ := hI
  refine ne_iload_n X dX1_setPlaces_0 rfl ?_
  refine ne_callS X nw_Tg (me_X1_requireCellS l hl _ _ (by omega)) nw_yX1_requireCell nw_mX1_41 nw_sX1_requireCell dX1_setPlaces_1 rfl rfl (by decide) (by decide) (by first | decide | omega) (by first | decide | omega) (Nat.le_of_ble_eq_true rfl) rfl rfl (Nat.le_of_ble_eq_true rfl) ?_ ?_
  rotate_left
  · rintro E9 w9 h9; exact ne_out X ht (by obtain ⟨rfl, rfl, h9⟩ := h9; exact ⟨rfl, by first | exact Or.inl ⟨rfl, by omega⟩ | exact Or.inr ⟨rfl, by omega⟩⟩)
  rintro v1 w1 ⟨rfl, rfl, g1, k1⟩
  refine ne_iload_n X dX1_setPlaces_4 rfl ?_
  refine ne_lconst (z := 0) (by decide) X dX1_setPlaces_5 ?_
  refine ne_ldc2 (z := 3) (by decide) nw_cX1_53 X dX1_setPlaces_6 ?_
  refine ne_callS X nw_Tg (me_X1_requireBetweenS l hl _ _ _ _ (by omega) (by omega) (by omega)) nw_yX1_requireBetween nw_mX1_49 nw_sX1_requireBetween dX1_setPlaces_9 rfl rfl (by decide) (by decide) (by first | decide | omega) (by first | decide | omega) (Nat.le_of_ble_eq_true rfl) rfl rfl (Nat.le_of_ble_eq_true rfl) ?_ ?_
  rotate_left
  · rintro E9 w9 h9; exact ne_out X ht (by obtain ⟨rfl, rfl, h9⟩ := h9; exact ⟨rfl, by first | exact Or.inl ⟨rfl, by omega⟩ | exact Or.inr ⟨rfl, by omega⟩⟩)
  rintro v9 w9 ⟨rfl, rfl, g9, k9⟩
  refine ne_iload_n X dX1_setPlaces_12 rfl ?_
  refine ne_callS X nw_Tg (me_X1_requireWayS l hl _ _ (by omega)) nw_yX1_requireWay nw_mX1_77 nw_sX1_requireWay dX1_setPlaces_13 rfl rfl (by decide) (by decide) (by first | decide | omega) (by first | decide | omega) (Nat.le_of_ble_eq_true rfl) rfl rfl (Nat.le_of_ble_eq_true rfl) ?_ ?_
  rotate_left
  · rintro E9 w9 h9; exact ne_out X ht (by obtain ⟨rfl, rfl, h9⟩ := h9; exact ⟨rfl, by first | exact Or.inl ⟨rfl, by omega⟩ | exact Or.inr ⟨rfl, by omega⟩⟩)
  rintro v13 w13 ⟨rfl, rfl, g13, k13⟩
  refine ne_aload_n X dX1_setPlaces_16 rfl ?_
  refine ne_iload_n X dX1_setPlaces_17 rfl ?_
  refine ne_aload_n X dX1_setPlaces_18 rfl ?_
  refine ne_getf X dX1_setPlaces_19 nw_fX1_9 rfl rfl ?_
  refine ne_iload_n X dX1_setPlaces_22 rfl ?_
  refine ne_ialdR X dX1_setPlaces_23 rfl (by omega) Ic (fun v23 e23 f23 u23 => ?_)
  refine ne_i2l (by omega) X dX1_setPlaces_24 ?_
  refine ne_iload_n X dX1_setPlaces_25 rfl ?_
  refine ne_callS X nw_Tg (me_X1_tenTo l hl _ _ (by omega)) nw_yX1_tenTo nw_mX1_59 nw_sX1_tenTo dX1_setPlaces_26 rfl rfl (by decide) (by decide) (by first | decide | omega) (by first | decide | omega) (Nat.le_of_ble_eq_true rfl) rfl rfl (Nat.le_of_ble_eq_true rfl) ?_ ?_
  rotate_left
  · rintro E9 w9 h9; exact h9.elim
  rintro v26 w26 ⟨rfl, z26, rfl, g26, k26, i26, j26, o26⟩
  have t269 := i26 (by omega)
  clear i26 j26 o26
  have m26 := ne_mul v23 z26 999999 1000 (by omega) (by omega)
  refine ne_lmul X dX1_setPlaces_29 ?_
  refine ne_aload_n X dX1_setPlaces_30 rfl ?_
  refine ne_getf X dX1_setPlaces_31 nw_fX1_13 rfl rfl ?_
  refine ne_iload_n X dX1_setPlaces_34 rfl ?_
  refine ne_ialdR X dX1_setPlaces_35 rfl (by omega) Iq (fun v35 e35 f35 u35 => ?_)
  refine ne_callS X nw_Tg (me_X1_tenTo l hl _ _ (by omega)) nw_yX1_tenTo nw_mX1_59 nw_sX1_tenTo dX1_setPlaces_36 rfl rfl (by decide) (by decide) (by first | decide | omega) (by first | decide | omega) (Nat.le_of_ble_eq_true rfl) rfl rfl (Nat.le_of_ble_eq_true rfl) ?_ ?_
  rotate_left
  · rintro E9 w9 h9; exact h9.elim
  rintro v36 w36 ⟨rfl, z36, rfl, g36, k36, i36, j36, o36⟩
  have t369 := i36 (by omega)
  clear i36 j36 o36
  refine ne_iload_n X dX1_setPlaces_39 rfl ?_
  refine ne_callS X nw_Tg (me_X1_roundedX l hl _ 999999000 _ _ _ (by omega) (by omega) (by omega) (by omega)) nw_yX1_rounded nw_mX1_84 nw_sX1_rounded dX1_setPlaces_40 rfl rfl (by decide) (by decide) (by first | decide | omega) (by first | decide | omega) (Nat.le_of_ble_eq_true rfl) rfl rfl (Nat.le_of_ble_eq_true rfl) ?_ ?_
  rotate_left
  · rintro E9 w9 h9; exact h9.elim
  rintro v40 w40 ⟨rfl, z40, rfl, g40⟩
  refine ne_iload_n X dX1_setPlaces_43 rfl ?_
  refine ne_callV X nw_Tg (me_X1_bringX l hl c q t b k n h x y T (by exact ⟨Ic, Iq, It, Ib, Itb, Ik, In, Ih, Ix, Iy⟩) (by omega) _ _ _ (by omega) (by omega) (by omega)) nw_yX1_bring nw_mX1_55 nw_iX1_bring nw_eX1_bring (ci := 3) rfl rfl rfl dX1_setPlaces_44 rfl rfl (by decide) (by decide) (by first | decide | omega) (by first | decide | omega) (Nat.le_of_ble_eq_true rfl) rfl rfl (Nat.le_of_ble_eq_true rfl) ?_ ?_
  rotate_left
  · rintro E9 w9 h9; exact h9.elim
  rintro v44 w44 ⟨c44, q44, h44, rfl, hI44, z44, rfl, z944, G44⟩
  exact ne_iret X hr (by first | rfl | decide | rfl) dX1_setPlaces_47 ⟨_, _, _, rfl, hI44, _, rfl, z944, by omega, (by rw [e23, g26, g36, e35] at g40; exact ne_rcC (by decide) g40 G44)⟩
set_option maxRecDepth 100000 in
set_option maxHeartbeats 4000000 in
theorem me_X1_stripW (l : Launch) (hl : l.stackTraces = false) (c q t b k n h x y : Nat → Int) (T : Int) (hI : cI c q t b k n h x y T) (hT : 0 ≤ T ∧ T ≤ 1000) (i : Int) (hi : -2147483648 ≤ i ∧ i < 2147483648) : ne_M l nw_cl (.code yX1_strip cX1_strip 4 (some .int)) nw_T yX1_strip 9 330 8 48 [.ref 0, ni i] (cW c q t b k n h x y) (fun v w => ∃ c1 q1 h1, w = cW c1 q1 t b k n h1 x y ∧ cI c1 q1 t b k n h1 x y (T + 1) ∧ ∃ z : Int, v = some (ni z) ∧ (-9 ≤ z ∧ z ≤ 1) ∧ (0 ≤ i ∧ i < 4) ∧ ne_Astrip c q h i c1 q1 h1 z) (fun E w => w = cW c q t b k n h x y ∧ ((E = "java/lang/IndexOutOfBoundsException" ∧ (i < 0 ∨ 4 ≤ i)) ∨ (E = "java/lang/IllegalArgumentException" ∧ False))) := by
  refine ne_meet (own := RX1) hl rfl (by decide +kernel) (Nat.le_of_ble_eq_true rfl) ?_
  intro D ct A P9 V9 R9 S9 M9 as9 bl9 mt9 C9 ad0 X hr hin ht
  obtain ⟨Ic, Iq, It, Ib, Itb, Ik, In, Ih, Ix, Iy⟩ := hI
  have lp18 : ∀ (n9 : Nat) (r j : Int), j.toNat < n9 → (0 ≤ j) → (j ≤ q i.toNat) → (-999999 ≤ r ∧ r ≤ 999999) → (0 ≤ i ∧ i < 4) → (c i.toNat = r * 10 ^ (q i.toNat - j).toNat) → ne_G nw_cl D ct A 12 ad0 P9 l V9 R9 S9 M9 as9 bl9 mt9 C9 (ne_O nw_cl D ct ad0 12 A bl9 as9 S9 8 48 (fun v w => ∃ c1 q1 h1, w = cW c1 q1 t b k n h1 x y ∧ cI c1 q1 t b k n h1 x y (T + 1) ∧ ∃ z : Int, v = some (ni z) ∧ (-9 ≤ z ∧ z ≤ 1) ∧ (0 ≤ i ∧ i < 4) ∧ ne_Astrip c q h i c1 q1 h1 z) (fun E w => w = cW c q t b k n h x y ∧ ((E = "java/lang/IndexOutOfBoundsException" ∧ (i < 0 ∨ 4 ≤ i)) ∨ (E = "java/lang/IllegalArgumentException" ∧ False)))) 4 8 48 7 42 18 [some (.ref 0), some (ni i), some (ni r), some (ni j)] [] (cW c q t b k n h x y) := by
    intro n9
    induction n9 with
    | zero => intro r j hm9 q1 q2 q3 q6 q5; exfalso; omega
    | succ n9 ih =>
      intro r j hm9 q1 q2 q3 q6 q5
      have hq9 := Iq i.toNat
      have t18 := ne_tq r 10
      refine ne_iload_n X dX1_strip_18 rfl ?_
      refine ne_if_le (tgt := 40) X dX1_strip_19 rfl (by omega) (fun b19 => ?_) (fun b19 => ?_)
      · refine ne_aload_n X dX1_strip_40 rfl ?_
        refine ne_iload_n X dX1_strip_41 rfl ?_
        refine ne_iload_n X dX1_strip_42 rfl ?_
        refine ne_i2l (by omega) X dX1_strip_43 ?_
        refine ne_iload_n X dX1_strip_44 rfl ?_
        refine ne_callV X nw_Tg (me_X1_bringX l hl c q t b k n h x y T (by exact ⟨Ic, Iq, It, Ib, Itb, Ik, In, Ih, Ix, Iy⟩) (by omega) _ _ _ (by omega) (by omega) (by omega)) nw_yX1_bring nw_mX1_55 nw_iX1_bring nw_eX1_bring (ci := 3) rfl rfl rfl dX1_strip_45 rfl rfl (by decide) (by decide) (by first | decide | omega) (by first | decide | omega) (Nat.le_of_ble_eq_true rfl) rfl rfl (Nat.le_of_ble_eq_true rfl) ?_ ?_
        rotate_left
        · rintro E9 w9 h9; exact h9.elim
        rintro v45 w45 ⟨c45, q45, h45, rfl, hI45, z45, rfl, z945, G45⟩
        exact ne_iret X hr (by first | rfl | decide | rfl) dX1_strip_48 ⟨_, _, _, rfl, hI45, _, rfl, z945, by omega, ⟨r, j, by omega, by omega, q5, (by omega), G45⟩⟩
      · refine ne_iload_n X dX1_strip_22 rfl ?_
        refine ne_bipush (v := 10) (by decide) X dX1_strip_23 ?_
        refine ne_irem X dX1_strip_25 (by omega) (by omega) (by omega) ?_
        refine ne_if_ne (tgt := 40) X dX1_strip_26 rfl (by omega) (fun b26 => ?_) (fun b26 => ?_)
        · refine ne_aload_n X dX1_strip_40 rfl ?_
          refine ne_iload_n X dX1_strip_41 rfl ?_
          refine ne_iload_n X dX1_strip_42 rfl ?_
          refine ne_i2l (by omega) X dX1_strip_43 ?_
          refine ne_iload_n X dX1_strip_44 rfl ?_
          refine ne_callV X nw_Tg (me_X1_bringX l hl c q t b k n h x y T (by exact ⟨Ic, Iq, It, Ib, Itb, Ik, In, Ih, Ix, Iy⟩) (by omega) _ _ _ (by omega) (by omega) (by omega)) nw_yX1_bring nw_mX1_55 nw_iX1_bring nw_eX1_bring (ci := 3) rfl rfl rfl dX1_strip_45 rfl rfl (by decide) (by decide) (by first | decide | omega) (by first | decide | omega) (Nat.le_of_ble_eq_true rfl) rfl rfl (Nat.le_of_ble_eq_true rfl) ?_ ?_
          rotate_left
          · rintro E9 w9 h9; exact h9.elim
          rintro v45 w45 ⟨c45, q45, h45, rfl, hI45, z45, rfl, z945, G45⟩
          exact ne_iret X hr (by first | rfl | decide | rfl) dX1_strip_48 ⟨_, _, _, rfl, hI45, _, rfl, z945, by omega, ⟨r, j, by omega, by omega, q5, (by omega), G45⟩⟩
        · refine ne_iload_n X dX1_strip_29 rfl ?_
          refine ne_bipush (v := 10) (by decide) X dX1_strip_30 ?_
          refine ne_idiv X dX1_strip_32 (by omega) (by omega) (by omega) ?_
          refine ne_istore_n X dX1_strip_33 rfl (by decide) ?_
          refine ne_iinc X dX1_strip_34 rfl (by decide) ?_
          refine ne_ll (L' := [some (.ref 0), some (ni _), some (ni _), some (ni _)]) rfl ?_
          refine ne_goto (tgt := 18) X dX1_strip_37 rfl ?_
          have m30 : r.tdiv 10 * 10 = r := Int.tdiv_mul_cancel_of_tmod_eq_zero (by omega)
          exact ih _ _ (by omega) (by omega) (by omega) (by omega) (by omega) (by rw [show (q i.toNat - (j + -1)).toNat = (q i.toNat - j).toNat + 1 by omega, Int.pow_succ, Int.mul_comm _ 10, ← Int.mul_assoc, m30]; exact q5)
  refine ne_iload_n X dX1_strip_0 rfl ?_
  refine ne_callS X nw_Tg (me_X1_requireCellS l hl _ _ (by omega)) nw_yX1_requireCell nw_mX1_41 nw_sX1_requireCell dX1_strip_1 rfl rfl (by decide) (by decide) (by first | decide | omega) (by first | decide | omega) (Nat.le_of_ble_eq_true rfl) rfl rfl (Nat.le_of_ble_eq_true rfl) ?_ ?_
  rotate_left
  · rintro E9 w9 h9; exact ne_out X ht (by obtain ⟨rfl, rfl, h9⟩ := h9; exact ⟨rfl, by first | exact Or.inl ⟨rfl, by omega⟩ | exact Or.inr ⟨rfl, by omega⟩⟩)
  rintro v1 w1 ⟨rfl, rfl, g1, k1⟩
  refine ne_aload_n X dX1_strip_4 rfl ?_
  refine ne_getf X dX1_strip_5 nw_fX1_9 rfl rfl ?_
  refine ne_iload_n X dX1_strip_8 rfl ?_
  refine ne_ialdR X dX1_strip_9 rfl (by omega) Ic (fun v9 e9 f9 u9 => ?_)
  refine ne_istore_n X dX1_strip_10 rfl (by decide) ?_
  refine ne_aload_n X dX1_strip_11 rfl ?_
  refine ne_getf X dX1_strip_12 nw_fX1_13 rfl rfl ?_
  refine ne_iload_n X dX1_strip_15 rfl ?_
  refine ne_ialdR X dX1_strip_16 rfl (by omega) Iq (fun v16 e16 f16 u16 => ?_)
  refine ne_istore_n X dX1_strip_17 rfl (by decide) ?_
  refine ne_ll (L' := [some (.ref 0), some (ni _), some (ni _), some (ni _)]) rfl ?_
  exact lp18 _ _ _ (Nat.lt_succ_self _) (by omega) (by omega) (by omega) (by omega) (by rw [show (q i.toNat - v16).toNat = 0 by omega, Int.pow_zero, Int.mul_one]; omega)
set_option maxRecDepth 100000 in
set_option maxHeartbeats 4000000 in
theorem me_X1_moveW (l : Launch) (hl : l.stackTraces = false) (c q t b k n h x y : Nat → Int) (T : Int) (hI : cI c q t b k n h x y T) (hT : 0 ≤ T ∧ T ≤ 1000) (i : Int) (a : Int) (hi : -2147483648 ≤ i ∧ i < 2147483648) (ha : -2147483648 ≤ a ∧ a < 2147483648) : ne_M l nw_cl (.code yX1_move cX1_move 3 (some .int)) nw_T yX1_move 9 330 8 48 [.ref 0, ni i, ni a] (cW c q t b k n h x y) (fun v w => ∃ c1 q1 h1, w = cW c1 q1 t b k n h1 x y ∧ cI c1 q1 t b k n h1 x y (T + 1) ∧ ∃ z : Int, v = some (ni z) ∧ (-9 ≤ z ∧ z ≤ 1) ∧ ((0 ≤ i ∧ i < 4) ∧ -3 ≤ a ∧ a ≤ 3) ∧ ne_cat c q h i (c i.toNat) (q i.toNat + a) c1 q1 h1 z) (fun E w => w = cW c q t b k n h x y ∧ ((E = "java/lang/IndexOutOfBoundsException" ∧ (i < 0 ∨ 4 ≤ i)) ∨ (E = "java/lang/IllegalArgumentException" ∧ ((0 ≤ i ∧ i < 4) ∧ (a < -3 ∨ 3 < a))))) := by
  refine ne_meet (own := RX1) hl rfl (by decide +kernel) (Nat.le_of_ble_eq_true rfl) ?_
  intro D ct A P9 V9 R9 S9 M9 as9 bl9 mt9 C9 ad0 X hr hin ht
  obtain ⟨Ic, Iq, It, Ib, Itb, Ik, In, Ih, Ix, Iy⟩ := hI
  refine ne_iload_n X dX1_move_0 rfl ?_
  refine ne_callS X nw_Tg (me_X1_requireCellS l hl _ _ (by omega)) nw_yX1_requireCell nw_mX1_41 nw_sX1_requireCell dX1_move_1 rfl rfl (by decide) (by decide) (by first | decide | omega) (by first | decide | omega) (Nat.le_of_ble_eq_true rfl) rfl rfl (Nat.le_of_ble_eq_true rfl) ?_ ?_
  rotate_left
  · rintro E9 w9 h9; exact ne_out X ht (by obtain ⟨rfl, rfl, h9⟩ := h9; exact ⟨rfl, by first | exact Or.inl ⟨rfl, by omega⟩ | exact Or.inr ⟨rfl, by omega⟩⟩)
  rintro v1 w1 ⟨rfl, rfl, g1, k1⟩
  refine ne_iload_n X dX1_move_4 rfl ?_
  refine ne_ldc2 (z := -3) (by decide) nw_cX1_94 X dX1_move_5 ?_
  refine ne_ldc2 (z := 3) (by decide) nw_cX1_53 X dX1_move_8 ?_
  refine ne_callS X nw_Tg (me_X1_requireBetweenS l hl _ _ _ _ (by omega) (by omega) (by omega)) nw_yX1_requireBetween nw_mX1_49 nw_sX1_requireBetween dX1_move_11 rfl rfl (by decide) (by decide) (by first | decide | omega) (by first | decide | omega) (Nat.le_of_ble_eq_true rfl) rfl rfl (Nat.le_of_ble_eq_true rfl) ?_ ?_
  rotate_left
  · rintro E9 w9 h9; exact ne_out X ht (by obtain ⟨rfl, rfl, h9⟩ := h9; exact ⟨rfl, by first | exact Or.inl ⟨rfl, by omega⟩ | exact Or.inr ⟨rfl, by omega⟩⟩)
  rintro v11 w11 ⟨rfl, rfl, g11, k11⟩
  refine ne_aload_n X dX1_move_14 rfl ?_
  refine ne_iload_n X dX1_move_15 rfl ?_
  refine ne_aload_n X dX1_move_16 rfl ?_
  refine ne_getf X dX1_move_17 nw_fX1_9 rfl rfl ?_
  refine ne_iload_n X dX1_move_20 rfl ?_
  refine ne_ialdR X dX1_move_21 rfl (by omega) Ic (fun v21 e21 f21 u21 => ?_)
  refine ne_i2l (by omega) X dX1_move_22 ?_
  refine ne_aload_n X dX1_move_23 rfl ?_
  refine ne_getf X dX1_move_24 nw_fX1_13 rfl rfl ?_
  refine ne_iload_n X dX1_move_27 rfl ?_
  refine ne_ialdR X dX1_move_28 rfl (by omega) Iq (fun v28 e28 f28 u28 => ?_)
  refine ne_iload_n X dX1_move_29 rfl ?_
  refine ne_iadd X dX1_move_30 ?_
  refine ne_callV X nw_Tg (me_X1_bringAtX l hl c q t b k n h x y T (by exact ⟨Ic, Iq, It, Ib, Itb, Ik, In, Ih, Ix, Iy⟩) (by omega) _ _ _ (by omega) (by omega) (by omega)) nw_yX1_bringAt nw_mX1_96 nw_iX1_bringAt nw_eX1_bringAt (ci := 3) rfl rfl rfl dX1_move_31 rfl rfl (by decide) (by decide) (by first | decide | omega) (by first | decide | omega) (Nat.le_of_ble_eq_true rfl) rfl rfl (Nat.le_of_ble_eq_true rfl) ?_ ?_
  rotate_left
  · rintro E9 w9 h9; exact h9.elim
  rintro v31 w31 ⟨c31, q31, h31, rfl, hI31, z31, rfl, z931, G31⟩
  exact ne_iret X hr (by first | rfl | decide | rfl) dX1_move_34 ⟨_, _, _, rfl, hI31, _, rfl, z931, by omega, (by rw [e21, e28] at G31; exact G31)⟩
set_option maxRecDepth 100000 in
set_option maxHeartbeats 4000000 in
theorem me_X1_roundW (l : Launch) (hl : l.stackTraces = false) (c q t b k n h x y : Nat → Int) (T : Int) (hI : cI c q t b k n h x y T) (hT : 0 ≤ T ∧ T ≤ 1000) (i : Int) (a : Int) (w0 : Int) (hi : -2147483648 ≤ i ∧ i < 2147483648) (ha : -2147483648 ≤ a ∧ a < 2147483648) (hw0 : -2147483648 ≤ w0 ∧ w0 < 2147483648) : ne_M l nw_cl (.code yX1_round cX1_round 8 (some .int)) nw_T yX1_round 9 330 8 48 [.ref 0, ni i, ni a, ni w0] (cW c q t b k n h x y) (fun v w => ∃ c1 q1 h1, w = cW c1 q1 t b k n h1 x y ∧ cI c1 q1 t b k n h1 x y (T + 1) ∧ ∃ z : Int, v = some (ni z) ∧ (-9 ≤ z ∧ z ≤ 1) ∧ ((0 ≤ i ∧ i < 4) ∧ 1 ≤ a ∧ a ≤ 6 ∧ 0 ≤ w0 ∧ w0 ≤ 7) ∧ ne_Around c q h i a w0 c1 q1 h1 z) (fun E w => w = cW c q t b k n h x y ∧ ((E = "java/lang/IndexOutOfBoundsException" ∧ (i < 0 ∨ 4 ≤ i)) ∨ (E = "java/lang/IllegalArgumentException" ∧ ((0 ≤ i ∧ i < 4) ∧ (a < 1 ∨ 6 < a ∨ w0 < 0 ∨ 7 < w0))))) := by
  refine ne_meet (own := RX1) hl rfl (by decide +kernel) (Nat.le_of_ble_eq_true rfl) ?_
  intro D ct A P9 V9 R9 S9 M9 as9 bl9 mt9 C9 ad0 X hr hin ht
  obtain ⟨Ic, Iq, It, Ib, Itb, Ik, In, Ih, Ix, Iy⟩ := hI
  refine ne_iload_n X dX1_round_0 rfl ?_
  refine ne_callS X nw_Tg (me_X1_requireCellS l hl _ _ (by omega)) nw_yX1_requireCell nw_mX1_41 nw_sX1_requireCell dX1_round_1 rfl rfl (by decide) (by decide) (by first | decide | omega) (by first | decide | omega) (Nat.le_of_ble_eq_true rfl) rfl rfl (Nat.le_of_ble_eq_true rfl) ?_ ?_
  rotate_left
  · rintro E9 w9 h9; exact ne_out X ht (by obtain ⟨rfl, rfl, h9⟩ := h9; exact ⟨rfl, by first | exact Or.inl ⟨rfl, by omega⟩ | exact Or.inr ⟨rfl, by omega⟩⟩)
  rintro v1 w1 ⟨rfl, rfl, g1, k1⟩
  refine ne_iload_n X dX1_round_4 rfl ?_
  refine ne_lconst (z := 1) (by decide) X dX1_round_5 ?_
  refine ne_ldc2 (z := 6) (by decide) nw_cX1_99 X dX1_round_6 ?_
  refine ne_callS X nw_Tg (me_X1_requireBetweenS l hl _ _ _ _ (by omega) (by omega) (by omega)) nw_yX1_requireBetween nw_mX1_49 nw_sX1_requireBetween dX1_round_9 rfl rfl (by decide) (by decide) (by first | decide | omega) (by first | decide | omega) (Nat.le_of_ble_eq_true rfl) rfl rfl (Nat.le_of_ble_eq_true rfl) ?_ ?_
  rotate_left
  · rintro E9 w9 h9; exact ne_out X ht (by obtain ⟨rfl, rfl, h9⟩ := h9; exact ⟨rfl, by first | exact Or.inl ⟨rfl, by omega⟩ | exact Or.inr ⟨rfl, by omega⟩⟩)
  rintro v9 w9 ⟨rfl, rfl, g9, k9⟩
  refine ne_iload_n X dX1_round_12 rfl ?_
  refine ne_callS X nw_Tg (me_X1_requireWayS l hl _ _ (by omega)) nw_yX1_requireWay nw_mX1_77 nw_sX1_requireWay dX1_round_13 rfl rfl (by decide) (by decide) (by first | decide | omega) (by first | decide | omega) (Nat.le_of_ble_eq_true rfl) rfl rfl (Nat.le_of_ble_eq_true rfl) ?_ ?_
  rotate_left
  · rintro E9 w9 h9; exact ne_out X ht (by obtain ⟨rfl, rfl, h9⟩ := h9; exact ⟨rfl, by first | exact Or.inl ⟨rfl, by omega⟩ | exact Or.inr ⟨rfl, by omega⟩⟩)
  rintro v13 w13 ⟨rfl, rfl, g13, k13⟩
  refine ne_aload_n X dX1_round_16 rfl ?_
  refine ne_getf X dX1_round_17 nw_fX1_9 rfl rfl ?_
  refine ne_iload_n X dX1_round_20 rfl ?_
  refine ne_ialdR X dX1_round_21 rfl (by omega) Ic (fun v21 e21 f21 u21 => ?_)
  refine ne_i2l (by omega) X dX1_round_22 ?_
  refine ne_callS X nw_Tg (me_X1_digitsInX l hl _ _ (by omega)) nw_yX1_digitsIn nw_mX1_101 nw_sX1_digitsIn dX1_round_23 rfl rfl (by decide) (by decide) (by first | decide | omega) (by first | decide | omega) (Nat.le_of_ble_eq_true rfl) rfl rfl (Nat.le_of_ble_eq_true rfl) ?_ ?_
  rotate_left
  · rintro E9 w9 h9; exact h9.elim
  rintro v23 w23 ⟨rfl, z23, rfl, D23, g23, k23⟩
  obtain ⟨n23, n24⟩ := ne_dn6 D23 (by omega)
  refine ne_iload_n X dX1_round_26 rfl ?_
  refine ne_isub X dX1_round_27 ?_
  refine ne_istore X dX1_round_28 (by decide) ?_
  refine ne_iload X dX1_round_30 rfl ?_
  refine ne_if_gt (tgt := 54) X dX1_round_32 rfl (by omega) (fun b32 => ?_) (fun b32 => ?_)
  · refine ne_aload_n X dX1_round_54 rfl ?_
    refine ne_getf X dX1_round_55 nw_fX1_9 rfl rfl ?_
    refine ne_iload_n X dX1_round_58 rfl ?_
    refine ne_ialdR X dX1_round_59 rfl (by omega) Ic (fun v59 e59 f59 u59 => ?_)
    refine ne_i2l (by omega) X dX1_round_60 ?_
    refine ne_iload X dX1_round_61 rfl ?_
    refine ne_callS X nw_Tg (me_X1_tenTo l hl _ _ (by omega)) nw_yX1_tenTo nw_mX1_59 nw_sX1_tenTo dX1_round_63 rfl rfl (by decide) (by decide) (by first | decide | omega) (by first | decide | omega) (Nat.le_of_ble_eq_true rfl) rfl rfl (Nat.le_of_ble_eq_true rfl) ?_ ?_
    rotate_left
    · rintro E9 w9 h9; exact h9.elim
    rintro v63 w63 ⟨rfl, z63, rfl, g63, k63, i63, j63, o63⟩
    have t639 := j63 (by omega)
    clear i63 j63 o63
    refine ne_iload_n X dX1_round_66 rfl ?_
    refine ne_callS X nw_Tg (me_X1_roundedX l hl _ 999999 _ _ _ (by omega) (by omega) (by omega) (by omega)) nw_yX1_rounded nw_mX1_84 nw_sX1_rounded dX1_round_67 rfl rfl (by decide) (by decide) (by first | decide | omega) (by first | decide | omega) (Nat.le_of_ble_eq_true rfl) rfl rfl (Nat.le_of_ble_eq_true rfl) ?_ ?_
    rotate_left
    · rintro E9 w9 h9; exact h9.elim
    rintro v67 w67 ⟨rfl, z67, rfl, g67⟩
    rw [e59, g63] at g67
    refine ne_lstore X dX1_round_70 (by decide) ?_
    refine ne_ll (L' := [some (.ref 0), some (ni _), some (ni _), some (ni _), some (ni _), some (nl _), none, none]) rfl ?_
    refine ne_ll (L' := [some (.ref 0), some (ni i), some (ni a), some (ni w0), some (ni (z23 - a)), some (nl z67), none, none]) rfl ?_
    refine ne_lload X dX1_round_72 rfl ?_
    refine ne_ldc2 (z := -9000000000000000000) (by decide) nw_cX1_105 X dX1_round_74 ?_
    refine ne_lcif_ne (tgt := 86) X dX1_round_77 dX1_round_78 rfl (by omega) (by omega) (fun b78 => ?_) (fun b78 => ?_)
    · obtain ⟨R67, w67, w68⟩ : ne_rd (c i.toNat) (10 ^ (z23 - a).toNat) w0 z67 ∧ -999999 - 1 ≤ z67 ∧ z67 ≤ 999999 + 1 := by
                                        rcases g67 with ⟨h1, h2, h3⟩ | h1
                                        · exfalso; omega
                                        · exact h1
      clear g67 b78
      refine ne_aload_n X dX1_round_86 rfl ?_
      refine ne_getf X dX1_round_87 nw_fX1_13 rfl rfl ?_
      refine ne_iload_n X dX1_round_90 rfl ?_
      refine ne_ialdR X dX1_round_91 rfl (by omega) Iq (fun v91 e91 f91 u91 => ?_)
      refine ne_iload X dX1_round_92 rfl ?_
      refine ne_isub X dX1_round_94 ?_
      refine ne_istore X dX1_round_95 (by decide) ?_
      refine ne_ll (L' := [some (.ref 0), some (ni i), some (ni a), some (ni w0), some (ni (z23 - a)), some (nl z67), none, some (ni (v91 - (z23 - a)))]) rfl ?_
      refine ne_lload X dX1_round_97 rfl ?_
      refine ne_callS X nw_Tg (me_X1_digitsInX l hl _ _ (by omega)) nw_yX1_digitsIn nw_mX1_101 nw_sX1_digitsIn dX1_round_99 rfl rfl (by decide) (by decide) (by first | decide | omega) (by first | decide | omega) (Nat.le_of_ble_eq_true rfl) rfl rfl (Nat.le_of_ble_eq_true rfl) ?_ ?_
      rotate_left
      · rintro E9 w9 h9; exact h9.elim
      rintro v99 w99 ⟨rfl, z99, rfl, D99, g99, k99⟩
      refine ne_iload_n X dX1_round_102 rfl ?_
      refine ne_icmp_le (tgt := 117) X dX1_round_103 rfl (by omega) (by omega) (fun b103 => ?_) (fun b103 => ?_)
      · refine ne_aload_n X dX1_round_117 rfl ?_
        refine ne_iload_n X dX1_round_118 rfl ?_
        refine ne_lload X dX1_round_119 rfl ?_
        refine ne_iload X dX1_round_121 rfl ?_
        refine ne_callV X nw_Tg (me_X1_bringAtX l hl c q t b k n h x y T (by exact ⟨Ic, Iq, It, Ib, Itb, Ik, In, Ih, Ix, Iy⟩) (by omega) _ _ _ (by omega) (by omega) (by omega)) nw_yX1_bringAt nw_mX1_96 nw_iX1_bringAt nw_eX1_bringAt (ci := 3) rfl rfl rfl dX1_round_123 rfl rfl (by decide) (by decide) (by first | decide | omega) (by first | decide | omega) (Nat.le_of_ble_eq_true rfl) rfl rfl (Nat.le_of_ble_eq_true rfl) ?_ ?_
        rotate_left
        · rintro E9 w9 h9; exact h9.elim
        rintro v123 w123 ⟨c123, q123, h123, rfl, hI123, z123, rfl, z9123, G123⟩
        exact ne_iret X hr (by first | rfl | decide | rfl) dX1_round_126 ⟨_, _, _, rfl, hI123, _, rfl, z9123, by omega, ⟨z23, (by rw [← e21]; exact D23), Or.inr ⟨by omega, Or.inr ⟨z67, z99, R67, D99, Or.inl ⟨by omega, (by rw [e91] at G123; exact G123)⟩⟩⟩⟩⟩
      · refine ne_lload X dX1_round_106 rfl ?_
        refine ne_ldc2 (z := 10) (by decide) nw_cX1_92 X dX1_round_108 ?_
        have t111 := ne_tq z67 10
        refine ne_ldiv X dX1_round_111 (by omega) (by omega) (by omega) ?_
        refine ne_lstore X dX1_round_112 (by decide) ?_
        refine ne_ll (L' := [some (.ref 0), some (ni _), some (ni _), some (ni _), some (ni _), some (nl _), none, some (ni _)]) rfl ?_
        refine ne_iinc X dX1_round_114 rfl (by decide) ?_
        refine ne_aload_n X dX1_round_117 rfl ?_
        refine ne_iload_n X dX1_round_118 rfl ?_
        refine ne_lload X dX1_round_119 rfl ?_
        refine ne_iload X dX1_round_121 rfl ?_
        refine ne_callV X nw_Tg (me_X1_bringAtX l hl c q t b k n h x y T (by exact ⟨Ic, Iq, It, Ib, Itb, Ik, In, Ih, Ix, Iy⟩) (by omega) _ _ _ (by omega) (by omega) (by omega)) nw_yX1_bringAt nw_mX1_96 nw_iX1_bringAt nw_eX1_bringAt (ci := 3) rfl rfl rfl dX1_round_123 rfl rfl (by decide) (by decide) (by first | decide | omega) (by first | decide | omega) (Nat.le_of_ble_eq_true rfl) rfl rfl (Nat.le_of_ble_eq_true rfl) ?_ ?_
        rotate_left
        · rintro E9 w9 h9; exact h9.elim
        rintro v123 w123 ⟨c123, q123, h123, rfl, hI123, z123, rfl, z9123, G123⟩
        exact ne_iret X hr (by first | rfl | decide | rfl) dX1_round_126 ⟨_, _, _, rfl, hI123, _, rfl, z9123, by omega, ⟨z23, (by rw [← e21]; exact D23), Or.inr ⟨by omega, Or.inr ⟨z67, z99, R67, D99, Or.inr ⟨by omega, (by rw [e91] at G123; exact G123)⟩⟩⟩⟩⟩
    · have H67 : w0 = 7 ∧ ne_rx (c i.toNat) (10 ^ (z23 - a).toNat) := by
                                        rcases g67 with ⟨h1, h2, h3⟩ | ⟨h1, h2, h3⟩
                                        · exact ⟨h2, h3⟩
                                        · exfalso; omega
      refine ne_aload_n X dX1_round_81 rfl ?_
      refine ne_callV X nw_Tg (me_X1_decline l hl c q t b k n h x y T (by exact ⟨Ic, Iq, It, Ib, Itb, Ik, In, Ih, Ix, Iy⟩) (by omega) ) nw_yX1_decline nw_mX1_80 nw_iX1_decline nw_eX1_decline (ci := 3) rfl rfl rfl dX1_round_82 rfl rfl (by decide) (by decide) (by first | decide | omega) (by first | decide | omega) (Nat.le_of_ble_eq_true rfl) rfl rfl (Nat.le_of_ble_eq_true rfl) ?_ ?_
      rotate_left
      · rintro E9 w9 h9; exact h9.elim
      rintro v82 w82 ⟨h82, rfl, p82, Ih, rfl⟩
      exact ne_iret X hr (by first | rfl | decide | rfl) dX1_round_85 ⟨_, _, _, rfl, ⟨Ic, Iq, It, Ib, Itb, Ik, In, Ih, Ix, Iy⟩, _, rfl, by omega, by omega, ⟨z23, (by rw [← e21]; exact D23), Or.inr ⟨by omega, Or.inl ⟨H67.1, H67.2, ⟨rfl, rfl, p82, rfl⟩⟩⟩⟩⟩
  · refine ne_aload_n X dX1_round_35 rfl ?_
    refine ne_iload_n X dX1_round_36 rfl ?_
    refine ne_aload_n X dX1_round_37 rfl ?_
    refine ne_getf X dX1_round_38 nw_fX1_9 rfl rfl ?_
    refine ne_iload_n X dX1_round_41 rfl ?_
    refine ne_ialdR X dX1_round_42 rfl (by omega) Ic (fun v42 e42 f42 u42 => ?_)
    refine ne_i2l (by omega) X dX1_round_43 ?_
    refine ne_aload_n X dX1_round_44 rfl ?_
    refine ne_getf X dX1_round_45 nw_fX1_13 rfl rfl ?_
    refine ne_iload_n X dX1_round_48 rfl ?_
    refine ne_ialdR X dX1_round_49 rfl (by omega) Iq (fun v49 e49 f49 u49 => ?_)
    refine ne_callV X nw_Tg (me_X1_bringX l hl c q t b k n h x y T (by exact ⟨Ic, Iq, It, Ib, Itb, Ik, In, Ih, Ix, Iy⟩) (by omega) _ _ _ (by omega) (by omega) (by omega)) nw_yX1_bring nw_mX1_55 nw_iX1_bring nw_eX1_bring (ci := 3) rfl rfl rfl dX1_round_50 rfl rfl (by decide) (by decide) (by first | decide | omega) (by first | decide | omega) (Nat.le_of_ble_eq_true rfl) rfl rfl (Nat.le_of_ble_eq_true rfl) ?_ ?_
    rotate_left
    · rintro E9 w9 h9; exact h9.elim
    rintro v50 w50 ⟨c50, q50, h50, rfl, hI50, z50, rfl, z950, G50⟩
    exact ne_iret X hr (by first | rfl | decide | rfl) dX1_round_53 ⟨_, _, _, rfl, hI50, _, rfl, z950, by omega, ⟨z23, (by rw [← e21]; exact D23), Or.inl ⟨by omega, (by rw [e42, e49] at G50; exact G50)⟩⟩⟩
set_option maxRecDepth 100000 in
set_option maxHeartbeats 4000000 in
theorem me_X1_greaterW (l : Launch) (hl : l.stackTraces = false) (c q t b k n h x y : Nat → Int) (T : Int) (hI : cI c q t b k n h x y T) (hT : 0 ≤ T ∧ T ≤ 1000) (i : Int) (j : Int) (o : Int) (hi : -2147483648 ≤ i ∧ i < 2147483648) (hj : -2147483648 ≤ j ∧ j < 2147483648) (ho : -2147483648 ≤ o ∧ o < 2147483648) : ne_M l nw_cl (.code yX1_greater cX1_greater 5 (some .int)) nw_T yX1_greater 9 330 8 48 [.ref 0, ni i, ni j, ni o] (cW c q t b k n h x y) (fun v w => ∃ c1 q1 h1, w = cW c1 q1 t b k n h1 x y ∧ cI c1 q1 t b k n h1 x y (T + 1) ∧ ∃ z : Int, v = some (ni z) ∧ (-9 ≤ z ∧ z ≤ 1) ∧ (0 ≤ i ∧ i < 4 ∧ 0 ≤ j ∧ j < 4 ∧ 0 ≤ o ∧ o < 4) ∧ ne_Agt c q h i j o c1 q1 h1 z) (fun E w => w = cW c q t b k n h x y ∧ ((E = "java/lang/IndexOutOfBoundsException" ∧ (i < 0 ∨ 4 ≤ i ∨ j < 0 ∨ 4 ≤ j ∨ o < 0 ∨ 4 ≤ o)) ∨ (E = "java/lang/IllegalArgumentException" ∧ False))) := by
  refine ne_meet (own := RX1) hl rfl (by decide +kernel) (Nat.le_of_ble_eq_true rfl) ?_
  intro D ct A P9 V9 R9 S9 M9 as9 bl9 mt9 C9 ad0 X hr hin ht
  obtain ⟨Ic, Iq, It, Ib, Itb, Ik, In, Ih, Ix, Iy⟩ := hI
  refine ne_iload_n X dX1_greater_0 rfl ?_
  refine ne_callS X nw_Tg (me_X1_requireCellS l hl _ _ (by omega)) nw_yX1_requireCell nw_mX1_41 nw_sX1_requireCell dX1_greater_1 rfl rfl (by decide) (by decide) (by first | decide | omega) (by first | decide | omega) (Nat.le_of_ble_eq_true rfl) rfl rfl (Nat.le_of_ble_eq_true rfl) ?_ ?_
  rotate_left
  · rintro E9 w9 h9; exact ne_out X ht (by obtain ⟨rfl, rfl, h9⟩ := h9; exact ⟨rfl, by first | exact Or.inl ⟨rfl, by omega⟩ | exact Or.inr ⟨rfl, by omega⟩⟩)
  rintro v1 w1 ⟨rfl, rfl, g1, k1⟩
  refine ne_iload_n X dX1_greater_4 rfl ?_
  refine ne_callS X nw_Tg (me_X1_requireCellS l hl _ _ (by omega)) nw_yX1_requireCell nw_mX1_41 nw_sX1_requireCell dX1_greater_5 rfl rfl (by decide) (by decide) (by first | decide | omega) (by first | decide | omega) (Nat.le_of_ble_eq_true rfl) rfl rfl (Nat.le_of_ble_eq_true rfl) ?_ ?_
  rotate_left
  · rintro E9 w9 h9; exact ne_out X ht (by obtain ⟨rfl, rfl, h9⟩ := h9; exact ⟨rfl, by first | exact Or.inl ⟨rfl, by omega⟩ | exact Or.inr ⟨rfl, by omega⟩⟩)
  rintro v5 w5 ⟨rfl, rfl, g5, k5⟩
  refine ne_iload_n X dX1_greater_8 rfl ?_
  refine ne_callS X nw_Tg (me_X1_requireCellS l hl _ _ (by omega)) nw_yX1_requireCell nw_mX1_41 nw_sX1_requireCell dX1_greater_9 rfl rfl (by decide) (by decide) (by first | decide | omega) (by first | decide | omega) (Nat.le_of_ble_eq_true rfl) rfl rfl (Nat.le_of_ble_eq_true rfl) ?_ ?_
  rotate_left
  · rintro E9 w9 h9; exact ne_out X ht (by obtain ⟨rfl, rfl, h9⟩ := h9; exact ⟨rfl, by first | exact Or.inl ⟨rfl, by omega⟩ | exact Or.inr ⟨rfl, by omega⟩⟩)
  rintro v9 w9 ⟨rfl, rfl, g9, k9⟩
  refine ne_aload_n X dX1_greater_12 rfl ?_
  refine ne_iload_n X dX1_greater_13 rfl ?_
  refine ne_iload_n X dX1_greater_14 rfl ?_
  refine ne_callV X nw_Tg (me_X1_orderOfCells l hl c q t b k n h x y T (by exact ⟨Ic, Iq, It, Ib, Itb, Ik, In, Ih, Ix, Iy⟩) (by omega) _ _ (by omega) (by omega)) nw_yX1_orderOfCells nw_mX1_107 nw_iX1_orderOfCells nw_eX1_orderOfCells (ci := 3) rfl rfl rfl dX1_greater_15 rfl rfl (by decide) (by decide) (by first | decide | omega) (by first | decide | omega) (Nat.le_of_ble_eq_true rfl) rfl rfl (Nat.le_of_ble_eq_true rfl) ?_ ?_
  rotate_left
  · rintro E9 w9 h9; exact h9.elim
  rintro v15 w15 ⟨rfl, z15, rfl, g15, k15, i15, j15⟩
  refine ne_if_ge (tgt := 25) X dX1_greater_18 rfl (by omega) (fun b18 => ?_) (fun b18 => ?_)
  · refine ne_iload_n X dX1_greater_25 rfl ?_
    refine ne_istore X dX1_greater_26 (by decide) ?_
    refine ne_aload_n X dX1_greater_28 rfl ?_
    refine ne_iload_n X dX1_greater_29 rfl ?_
    refine ne_aload_n X dX1_greater_30 rfl ?_
    refine ne_getf X dX1_greater_31 nw_fX1_9 rfl rfl ?_
    refine ne_iload X dX1_greater_34 rfl ?_
    refine ne_ialdR X dX1_greater_36 rfl (by omega) Ic (fun v36 e36 f36 u36 => ?_)
    refine ne_i2l (by omega) X dX1_greater_37 ?_
    refine ne_aload_n X dX1_greater_38 rfl ?_
    refine ne_getf X dX1_greater_39 nw_fX1_13 rfl rfl ?_
    refine ne_iload X dX1_greater_42 rfl ?_
    refine ne_ialdR X dX1_greater_44 rfl (by omega) Iq (fun v44 e44 f44 u44 => ?_)
    refine ne_callV X nw_Tg (me_X1_bringX l hl c q t b k n h x y T (by exact ⟨Ic, Iq, It, Ib, Itb, Ik, In, Ih, Ix, Iy⟩) (by omega) _ _ _ (by omega) (by omega) (by omega)) nw_yX1_bring nw_mX1_55 nw_iX1_bring nw_eX1_bring (ci := 3) rfl rfl rfl dX1_greater_45 rfl rfl (by decide) (by decide) (by first | decide | omega) (by first | decide | omega) (Nat.le_of_ble_eq_true rfl) rfl rfl (Nat.le_of_ble_eq_true rfl) ?_ ?_
    rotate_left
    · rintro E9 w9 h9; exact h9.elim
    rintro v45 w45 ⟨c45, q45, h45, rfl, hI45, z45, rfl, z945, G45⟩
    exact ne_iret X hr (by first | rfl | decide | rfl) dX1_greater_48 ⟨_, _, _, rfl, hI45, _, rfl, z945, by omega, Or.inr ⟨(fun h9 => absurd (i15.mpr h9) (by omega)), (by rw [e36, e44] at G45; exact G45)⟩⟩
  · refine ne_iload_n X dX1_greater_21 rfl ?_
    refine ne_goto (tgt := 26) X dX1_greater_22 rfl ?_
    refine ne_istore X dX1_greater_26 (by decide) ?_
    refine ne_aload_n X dX1_greater_28 rfl ?_
    refine ne_iload_n X dX1_greater_29 rfl ?_
    refine ne_aload_n X dX1_greater_30 rfl ?_
    refine ne_getf X dX1_greater_31 nw_fX1_9 rfl rfl ?_
    refine ne_iload X dX1_greater_34 rfl ?_
    refine ne_ialdR X dX1_greater_36 rfl (by omega) Ic (fun v36 e36 f36 u36 => ?_)
    refine ne_i2l (by omega) X dX1_greater_37 ?_
    refine ne_aload_n X dX1_greater_38 rfl ?_
    refine ne_getf X dX1_greater_39 nw_fX1_13 rfl rfl ?_
    refine ne_iload X dX1_greater_42 rfl ?_
    refine ne_ialdR X dX1_greater_44 rfl (by omega) Iq (fun v44 e44 f44 u44 => ?_)
    refine ne_callV X nw_Tg (me_X1_bringX l hl c q t b k n h x y T (by exact ⟨Ic, Iq, It, Ib, Itb, Ik, In, Ih, Ix, Iy⟩) (by omega) _ _ _ (by omega) (by omega) (by omega)) nw_yX1_bring nw_mX1_55 nw_iX1_bring nw_eX1_bring (ci := 3) rfl rfl rfl dX1_greater_45 rfl rfl (by decide) (by decide) (by first | decide | omega) (by first | decide | omega) (Nat.le_of_ble_eq_true rfl) rfl rfl (Nat.le_of_ble_eq_true rfl) ?_ ?_
    rotate_left
    · rintro E9 w9 h9; exact h9.elim
    rintro v45 w45 ⟨c45, q45, h45, rfl, hI45, z45, rfl, z945, G45⟩
    exact ne_iret X hr (by first | rfl | decide | rfl) dX1_greater_48 ⟨_, _, _, rfl, hI45, _, rfl, z945, by omega, Or.inl ⟨i15.mp (by omega), (by rw [e36, e44] at G45; exact G45)⟩⟩
set_option maxRecDepth 100000 in
set_option maxHeartbeats 4000000 in
theorem me_X1_lesserW (l : Launch) (hl : l.stackTraces = false) (c q t b k n h x y : Nat → Int) (T : Int) (hI : cI c q t b k n h x y T) (hT : 0 ≤ T ∧ T ≤ 1000) (i : Int) (j : Int) (o : Int) (hi : -2147483648 ≤ i ∧ i < 2147483648) (hj : -2147483648 ≤ j ∧ j < 2147483648) (ho : -2147483648 ≤ o ∧ o < 2147483648) : ne_M l nw_cl (.code yX1_lesser cX1_lesser 5 (some .int)) nw_T yX1_lesser 9 330 8 48 [.ref 0, ni i, ni j, ni o] (cW c q t b k n h x y) (fun v w => ∃ c1 q1 h1, w = cW c1 q1 t b k n h1 x y ∧ cI c1 q1 t b k n h1 x y (T + 1) ∧ ∃ z : Int, v = some (ni z) ∧ (-9 ≤ z ∧ z ≤ 1) ∧ (0 ≤ i ∧ i < 4 ∧ 0 ≤ j ∧ j < 4 ∧ 0 ≤ o ∧ o < 4) ∧ ne_Als c q h i j o c1 q1 h1 z) (fun E w => w = cW c q t b k n h x y ∧ ((E = "java/lang/IndexOutOfBoundsException" ∧ (i < 0 ∨ 4 ≤ i ∨ j < 0 ∨ 4 ≤ j ∨ o < 0 ∨ 4 ≤ o)) ∨ (E = "java/lang/IllegalArgumentException" ∧ False))) := by
  refine ne_meet (own := RX1) hl rfl (by decide +kernel) (Nat.le_of_ble_eq_true rfl) ?_
  intro D ct A P9 V9 R9 S9 M9 as9 bl9 mt9 C9 ad0 X hr hin ht
  obtain ⟨Ic, Iq, It, Ib, Itb, Ik, In, Ih, Ix, Iy⟩ := hI
  refine ne_iload_n X dX1_lesser_0 rfl ?_
  refine ne_callS X nw_Tg (me_X1_requireCellS l hl _ _ (by omega)) nw_yX1_requireCell nw_mX1_41 nw_sX1_requireCell dX1_lesser_1 rfl rfl (by decide) (by decide) (by first | decide | omega) (by first | decide | omega) (Nat.le_of_ble_eq_true rfl) rfl rfl (Nat.le_of_ble_eq_true rfl) ?_ ?_
  rotate_left
  · rintro E9 w9 h9; exact ne_out X ht (by obtain ⟨rfl, rfl, h9⟩ := h9; exact ⟨rfl, by first | exact Or.inl ⟨rfl, by omega⟩ | exact Or.inr ⟨rfl, by omega⟩⟩)
  rintro v1 w1 ⟨rfl, rfl, g1, k1⟩
  refine ne_iload_n X dX1_lesser_4 rfl ?_
  refine ne_callS X nw_Tg (me_X1_requireCellS l hl _ _ (by omega)) nw_yX1_requireCell nw_mX1_41 nw_sX1_requireCell dX1_lesser_5 rfl rfl (by decide) (by decide) (by first | decide | omega) (by first | decide | omega) (Nat.le_of_ble_eq_true rfl) rfl rfl (Nat.le_of_ble_eq_true rfl) ?_ ?_
  rotate_left
  · rintro E9 w9 h9; exact ne_out X ht (by obtain ⟨rfl, rfl, h9⟩ := h9; exact ⟨rfl, by first | exact Or.inl ⟨rfl, by omega⟩ | exact Or.inr ⟨rfl, by omega⟩⟩)
  rintro v5 w5 ⟨rfl, rfl, g5, k5⟩
  refine ne_iload_n X dX1_lesser_8 rfl ?_
  refine ne_callS X nw_Tg (me_X1_requireCellS l hl _ _ (by omega)) nw_yX1_requireCell nw_mX1_41 nw_sX1_requireCell dX1_lesser_9 rfl rfl (by decide) (by decide) (by first | decide | omega) (by first | decide | omega) (Nat.le_of_ble_eq_true rfl) rfl rfl (Nat.le_of_ble_eq_true rfl) ?_ ?_
  rotate_left
  · rintro E9 w9 h9; exact ne_out X ht (by obtain ⟨rfl, rfl, h9⟩ := h9; exact ⟨rfl, by first | exact Or.inl ⟨rfl, by omega⟩ | exact Or.inr ⟨rfl, by omega⟩⟩)
  rintro v9 w9 ⟨rfl, rfl, g9, k9⟩
  refine ne_aload_n X dX1_lesser_12 rfl ?_
  refine ne_iload_n X dX1_lesser_13 rfl ?_
  refine ne_iload_n X dX1_lesser_14 rfl ?_
  refine ne_callV X nw_Tg (me_X1_orderOfCells l hl c q t b k n h x y T (by exact ⟨Ic, Iq, It, Ib, Itb, Ik, In, Ih, Ix, Iy⟩) (by omega) _ _ (by omega) (by omega)) nw_yX1_orderOfCells nw_mX1_107 nw_iX1_orderOfCells nw_eX1_orderOfCells (ci := 3) rfl rfl rfl dX1_lesser_15 rfl rfl (by decide) (by decide) (by first | decide | omega) (by first | decide | omega) (Nat.le_of_ble_eq_true rfl) rfl rfl (Nat.le_of_ble_eq_true rfl) ?_ ?_
  rotate_left
  · rintro E9 w9 h9; exact h9.elim
  rintro v15 w15 ⟨rfl, z15, rfl, g15, k15, i15, j15⟩
  refine ne_if_le (tgt := 25) X dX1_lesser_18 rfl (by omega) (fun b18 => ?_) (fun b18 => ?_)
  · refine ne_iload_n X dX1_lesser_25 rfl ?_
    refine ne_istore X dX1_lesser_26 (by decide) ?_
    refine ne_aload_n X dX1_lesser_28 rfl ?_
    refine ne_iload_n X dX1_lesser_29 rfl ?_
    refine ne_aload_n X dX1_lesser_30 rfl ?_
    refine ne_getf X dX1_lesser_31 nw_fX1_9 rfl rfl ?_
    refine ne_iload X dX1_lesser_34 rfl ?_
    refine ne_ialdR X dX1_lesser_36 rfl (by omega) Ic (fun v36 e36 f36 u36 => ?_)
    refine ne_i2l (by omega) X dX1_lesser_37 ?_
    refine ne_aload_n X dX1_lesser_38 rfl ?_
    refine ne_getf X dX1_lesser_39 nw_fX1_13 rfl rfl ?_
    refine ne_iload X dX1_lesser_42 rfl ?_
    refine ne_ialdR X dX1_lesser_44 rfl (by omega) Iq (fun v44 e44 f44 u44 => ?_)
    refine ne_callV X nw_Tg (me_X1_bringX l hl c q t b k n h x y T (by exact ⟨Ic, Iq, It, Ib, Itb, Ik, In, Ih, Ix, Iy⟩) (by omega) _ _ _ (by omega) (by omega) (by omega)) nw_yX1_bring nw_mX1_55 nw_iX1_bring nw_eX1_bring (ci := 3) rfl rfl rfl dX1_lesser_45 rfl rfl (by decide) (by decide) (by first | decide | omega) (by first | decide | omega) (Nat.le_of_ble_eq_true rfl) rfl rfl (Nat.le_of_ble_eq_true rfl) ?_ ?_
    rotate_left
    · rintro E9 w9 h9; exact h9.elim
    rintro v45 w45 ⟨c45, q45, h45, rfl, hI45, z45, rfl, z945, G45⟩
    exact ne_iret X hr (by first | rfl | decide | rfl) dX1_lesser_48 ⟨_, _, _, rfl, hI45, _, rfl, z945, by omega, Or.inr ⟨(fun h9 => absurd (j15.mpr h9) (by omega)), (by rw [e36, e44] at G45; exact G45)⟩⟩
  · refine ne_iload_n X dX1_lesser_21 rfl ?_
    refine ne_goto (tgt := 26) X dX1_lesser_22 rfl ?_
    refine ne_istore X dX1_lesser_26 (by decide) ?_
    refine ne_aload_n X dX1_lesser_28 rfl ?_
    refine ne_iload_n X dX1_lesser_29 rfl ?_
    refine ne_aload_n X dX1_lesser_30 rfl ?_
    refine ne_getf X dX1_lesser_31 nw_fX1_9 rfl rfl ?_
    refine ne_iload X dX1_lesser_34 rfl ?_
    refine ne_ialdR X dX1_lesser_36 rfl (by omega) Ic (fun v36 e36 f36 u36 => ?_)
    refine ne_i2l (by omega) X dX1_lesser_37 ?_
    refine ne_aload_n X dX1_lesser_38 rfl ?_
    refine ne_getf X dX1_lesser_39 nw_fX1_13 rfl rfl ?_
    refine ne_iload X dX1_lesser_42 rfl ?_
    refine ne_ialdR X dX1_lesser_44 rfl (by omega) Iq (fun v44 e44 f44 u44 => ?_)
    refine ne_callV X nw_Tg (me_X1_bringX l hl c q t b k n h x y T (by exact ⟨Ic, Iq, It, Ib, Itb, Ik, In, Ih, Ix, Iy⟩) (by omega) _ _ _ (by omega) (by omega) (by omega)) nw_yX1_bring nw_mX1_55 nw_iX1_bring nw_eX1_bring (ci := 3) rfl rfl rfl dX1_lesser_45 rfl rfl (by decide) (by decide) (by first | decide | omega) (by first | decide | omega) (Nat.le_of_ble_eq_true rfl) rfl rfl (Nat.le_of_ble_eq_true rfl) ?_ ?_
    rotate_left
    · rintro E9 w9 h9; exact h9.elim
    rintro v45 w45 ⟨c45, q45, h45, rfl, hI45, z45, rfl, z945, G45⟩
    exact ne_iret X hr (by first | rfl | decide | rfl) dX1_lesser_48 ⟨_, _, _, rfl, hI45, _, rfl, z945, by omega, Or.inl ⟨j15.mp (by omega), (by rw [e36, e44] at G45; exact G45)⟩⟩
set_option maxRecDepth 100000 in
set_option maxHeartbeats 4000000 in
theorem me_X1_cutW (l : Launch) (hl : l.stackTraces = false) (c q t b k n h x y : Nat → Int) (T : Int) (hI : cI c q t b k n h x y T) (hT : 0 ≤ T ∧ T ≤ 1000) (i : Int) (m : Int) (p : Int) (w0 : Int) (o : Int) (hi : -2147483648 ≤ i ∧ i < 2147483648) (hm : 0 ≤ m ∧ m ≤ 1) (hp : -2147483648 ≤ p ∧ p < 2147483648) (hw0 : -2147483648 ≤ w0 ∧ w0 < 2147483648) (ho : -2147483648 ≤ o ∧ o < 2147483648) : ne_M l nw_cl (.code yX1_cut cX1_cut 6 (some .int)) nw_T yX1_cut 9 330 8 48 [.ref 0, ni i, ni m, ni p, ni w0, ni o] (cW c q t b k n h x y) (fun v w => ∃ c1 q1 h1, w = cW c1 q1 t b k n h1 x y ∧ cI c1 q1 t b k n h1 x y (T + 1) ∧ ∃ z : Int, v = some (ni z) ∧ (-9 ≤ z ∧ z ≤ 1) ∧ ((0 ≤ i ∧ i < 3 ∧ 0 ≤ o ∧ o < 4) ∧ 0 ≤ p ∧ p ≤ 3 ∧ 0 ≤ w0 ∧ w0 ≤ 7) ∧ ne_rcome c q h o w0 p (ne_cv (t i.toNat) m p) (b i.toNat) c1 q1 h1 z) (fun E w => w = cW c q t b k n h x y ∧ ((E = "java/lang/IndexOutOfBoundsException" ∧ (i < 0 ∨ 3 ≤ i ∨ o < 0 ∨ 4 ≤ o)) ∨ (E = "java/lang/IllegalArgumentException" ∧ ((0 ≤ i ∧ i < 3 ∧ 0 ≤ o ∧ o < 4) ∧ (p < 0 ∨ 3 < p ∨ w0 < 0 ∨ 7 < w0))))) := by
  refine ne_meet (own := RX1) hl rfl (by decide +kernel) (Nat.le_of_ble_eq_true rfl) ?_
  intro D ct A P9 V9 R9 S9 M9 as9 bl9 mt9 C9 ad0 X hr hin ht
  obtain ⟨Ic, Iq, It, Ib, Itb, Ik, In, Ih, Ix, Iy⟩ := hI
  refine ne_iload_n X dX1_cut_0 rfl ?_
  refine ne_callS X nw_Tg (me_X1_requireWheelS l hl _ _ (by omega)) nw_yX1_requireWheel nw_mX1_110 nw_sX1_requireWheel dX1_cut_1 rfl rfl (by decide) (by decide) (by first | decide | omega) (by first | decide | omega) (Nat.le_of_ble_eq_true rfl) rfl rfl (Nat.le_of_ble_eq_true rfl) ?_ ?_
  rotate_left
  · rintro E9 w9 h9; exact ne_out X ht (by obtain ⟨rfl, rfl, h9⟩ := h9; exact ⟨rfl, by first | exact Or.inl ⟨rfl, by omega⟩ | exact Or.inr ⟨rfl, by omega⟩⟩)
  rintro v1 w1 ⟨rfl, rfl, g1, k1⟩
  refine ne_iload X dX1_cut_4 rfl ?_
  refine ne_callS X nw_Tg (me_X1_requireCellS l hl _ _ (by omega)) nw_yX1_requireCell nw_mX1_41 nw_sX1_requireCell dX1_cut_6 rfl rfl (by decide) (by decide) (by first | decide | omega) (by first | decide | omega) (Nat.le_of_ble_eq_true rfl) rfl rfl (Nat.le_of_ble_eq_true rfl) ?_ ?_
  rotate_left
  · rintro E9 w9 h9; exact ne_out X ht (by obtain ⟨rfl, rfl, h9⟩ := h9; exact ⟨rfl, by first | exact Or.inl ⟨rfl, by omega⟩ | exact Or.inr ⟨rfl, by omega⟩⟩)
  rintro v6 w6 ⟨rfl, rfl, g6, k6⟩
  refine ne_iload_n X dX1_cut_9 rfl ?_
  refine ne_lconst (z := 0) (by decide) X dX1_cut_10 ?_
  refine ne_ldc2 (z := 3) (by decide) nw_cX1_53 X dX1_cut_11 ?_
  refine ne_callS X nw_Tg (me_X1_requireBetweenS l hl _ _ _ _ (by omega) (by omega) (by omega)) nw_yX1_requireBetween nw_mX1_49 nw_sX1_requireBetween dX1_cut_14 rfl rfl (by decide) (by decide) (by first | decide | omega) (by first | decide | omega) (Nat.le_of_ble_eq_true rfl) rfl rfl (Nat.le_of_ble_eq_true rfl) ?_ ?_
  rotate_left
  · rintro E9 w9 h9; exact ne_out X ht (by obtain ⟨rfl, rfl, h9⟩ := h9; exact ⟨rfl, by first | exact Or.inl ⟨rfl, by omega⟩ | exact Or.inr ⟨rfl, by omega⟩⟩)
  rintro v14 w14 ⟨rfl, rfl, g14, k14⟩
  refine ne_iload X dX1_cut_17 rfl ?_
  refine ne_callS X nw_Tg (me_X1_requireWayS l hl _ _ (by omega)) nw_yX1_requireWay nw_mX1_77 nw_sX1_requireWay dX1_cut_19 rfl rfl (by decide) (by decide) (by first | decide | omega) (by first | decide | omega) (Nat.le_of_ble_eq_true rfl) rfl rfl (Nat.le_of_ble_eq_true rfl) ?_ ?_
  rotate_left
  · rintro E9 w9 h9; exact ne_out X ht (by obtain ⟨rfl, rfl, h9⟩ := h9; exact ⟨rfl, by first | exact Or.inl ⟨rfl, by omega⟩ | exact Or.inr ⟨rfl, by omega⟩⟩)
  rintro v19 w19 ⟨rfl, rfl, g19, k19⟩
  refine ne_aload_n X dX1_cut_22 rfl ?_
  refine ne_iload X dX1_cut_23 rfl ?_
  refine ne_aload_n X dX1_cut_25 rfl ?_
  refine ne_iload_n X dX1_cut_26 rfl ?_
  refine ne_iload_n X dX1_cut_27 rfl ?_
  refine ne_iload_n X dX1_cut_28 rfl ?_
  refine ne_iload X dX1_cut_29 rfl ?_
  refine ne_callV X nw_Tg (me_X1_cutCountX l hl c q t b k n h x y T (by exact ⟨Ic, Iq, It, Ib, Itb, Ik, In, Ih, Ix, Iy⟩) (by omega) _ _ _ _ (by omega) (by omega) (by omega) (by omega)) nw_yX1_cutCount nw_mX1_113 nw_iX1_cutCount nw_eX1_cutCount (ci := 3) rfl rfl rfl dX1_cut_31 rfl rfl (by decide) (by decide) (by first | decide | omega) (by first | decide | omega) (Nat.le_of_ble_eq_true rfl) rfl rfl (Nat.le_of_ble_eq_true rfl) ?_ ?_
  rotate_left
  · rintro E9 w9 h9; exact h9.elim
  rintro v31 w31 ⟨rfl, z31, rfl, g31⟩
  refine ne_iload_n X dX1_cut_34 rfl ?_
  refine ne_callV X nw_Tg (me_X1_bringX l hl c q t b k n h x y T (by exact ⟨Ic, Iq, It, Ib, Itb, Ik, In, Ih, Ix, Iy⟩) (by omega) _ _ _ (by omega) (by omega) (by omega)) nw_yX1_bring nw_mX1_55 nw_iX1_bring nw_eX1_bring (ci := 3) rfl rfl rfl dX1_cut_35 rfl rfl (by decide) (by decide) (by first | decide | omega) (by first | decide | omega) (Nat.le_of_ble_eq_true rfl) rfl rfl (Nat.le_of_ble_eq_true rfl) ?_ ?_
  rotate_left
  · rintro E9 w9 h9; exact h9.elim
  rintro v35 w35 ⟨c35, q35, h35, rfl, hI35, z35, rfl, z935, G35⟩
  exact ne_iret X hr (by first | rfl | decide | rfl) dX1_cut_38 ⟨_, _, _, rfl, hI35, _, rfl, z935, by omega, ne_rcC (by decide) g31 G35⟩
set_option maxRecDepth 100000 in
set_option maxHeartbeats 4000000 in
theorem me_X1_knockW (l : Launch) (hl : l.stackTraces = false) (c q t b k n h x y : Nat → Int) (T : Int) (hI : cI c q t b k n h x y T) (hT : 0 ≤ T ∧ T ≤ 1000) : ne_M l nw_cl (.code yX1_knock cX1_knock 1 (some .int)) nw_T yX1_knock 9 330 8 48 [.ref 0] (cW c q t b k n h x y) (fun v w => ∃ h1, w = cW c q t b k n h1 x y ∧ cI c q t b k n h1 x y (T + 1) ∧ h1 = va_up h 3 (h 3 + 1) ∧ ∃ z : Int, v = some (ni z) ∧ (0 ≤ z ∧ z ≤ 2000) ∧ z = h 3 + 1) (fun _ _ => False) := by
  refine ne_meet (own := RX1) hl rfl (by decide +kernel) (Nat.le_of_ble_eq_true rfl) ?_
  intro D ct A P9 V9 R9 S9 M9 as9 bl9 mt9 C9 ad0 X hr hin ht
  obtain ⟨Ic, Iq, It, Ib, Itb, Ik, In, Ih, Ix, Iy⟩ := hI
  refine ne_aload_n X dX1_knock_0 rfl ?_
  refine ne_getf X dX1_knock_1 nw_fX1_28 rfl rfl ?_
  refine ne_iconst X dX1_knock_4 ?_
  refine ne_dup2ai X dX1_knock_5 ?_
  refine ne_ialdR X dX1_knock_6 rfl (by omega) Ih (fun v6 e6 f6 u6 => ?_)
  refine ne_iconst X dX1_knock_7 ?_
  refine ne_iadd X dX1_knock_8 ?_
  refine ne_iastR X dX1_knock_9 rfl (by omega) (ne_rg_mono Ih (by omega) (by omega)) (a := 0) (b := T + 1) (by omega) (fun h9 hh9 Ih => ?_)
  refine ne_ws (ws' := cW c q t b k n h9 x y) rfl ?_
  refine ne_aload_n X dX1_knock_10 rfl ?_
  refine ne_getf X dX1_knock_11 nw_fX1_28 rfl rfl ?_
  refine ne_iconst X dX1_knock_14 ?_
  refine ne_ialdR X dX1_knock_15 rfl (by omega) Ih (fun v15 e15 f15 u15 => ?_)
  exact ne_iret X hr (by first | rfl | decide | rfl) dX1_knock_16 ⟨_, rfl, ⟨Ic, Iq, It, Ib, Itb, Ik, In, Ih, Ix, Iy⟩, (by rw [hh9, e6]; rfl), _, rfl, (by omega), (by rw [e15, hh9, ne_ups, e6]; rfl)⟩
set_option maxRecDepth 100000 in
set_option maxHeartbeats 4000000 in
theorem me_X1_houseW (l : Launch) (hl : l.stackTraces = false) (c q t b k n h x y : Nat → Int) (T : Int) (hI : cI c q t b k n h x y T) (hT : 0 ≤ T ∧ T ≤ 1000) (a : Int) (ha : -2147483648 ≤ a ∧ a < 2147483648) : ne_M l nw_cl (.code yX1_house cX1_house 2 (some .int)) nw_T yX1_house 9 330 8 48 [.ref 0, ni a] (cW c q t b k n h x y) (fun v w => w = cW c q t b k n h x y ∧ ∃ z : Int, v = some (ni z) ∧ (0 ≤ a ∧ a ≤ 3) ∧ (0 ≤ z ∧ z ≤ 1000) ∧ z = h a.toNat) (fun E w => w = cW c q t b k n h x y ∧ ((E = "java/lang/IndexOutOfBoundsException" ∧ False) ∨ (E = "java/lang/IllegalArgumentException" ∧ (a < 0 ∨ 3 < a)))) := by
  refine ne_meet (own := RX1) hl rfl (by decide +kernel) (Nat.le_of_ble_eq_true rfl) ?_
  intro D ct A P9 V9 R9 S9 M9 as9 bl9 mt9 C9 ad0 X hr hin ht
  obtain ⟨Ic, Iq, It, Ib, Itb, Ik, In, Ih, Ix, Iy⟩ := hI
  refine ne_iload_n X dX1_house_0 rfl ?_
  refine ne_lconst (z := 0) (by decide) X dX1_house_1 ?_
  refine ne_ldc2 (z := 3) (by decide) nw_cX1_53 X dX1_house_2 ?_
  refine ne_callS X nw_Tg (me_X1_requireBetweenS l hl _ _ _ _ (by omega) (by omega) (by omega)) nw_yX1_requireBetween nw_mX1_49 nw_sX1_requireBetween dX1_house_5 rfl rfl (by decide) (by decide) (by first | decide | omega) (by first | decide | omega) (Nat.le_of_ble_eq_true rfl) rfl rfl (Nat.le_of_ble_eq_true rfl) ?_ ?_
  rotate_left
  · rintro E9 w9 h9; exact ne_out X ht (by obtain ⟨rfl, rfl, h9⟩ := h9; exact ⟨rfl, by first | exact Or.inl ⟨rfl, by omega⟩ | exact Or.inr ⟨rfl, by omega⟩⟩)
  rintro v5 w5 ⟨rfl, rfl, g5, k5⟩
  refine ne_aload_n X dX1_house_8 rfl ?_
  refine ne_getf X dX1_house_9 nw_fX1_28 rfl rfl ?_
  refine ne_iload_n X dX1_house_12 rfl ?_
  refine ne_ialdR X dX1_house_13 rfl (by omega) Ih (fun v13 e13 f13 u13 => ?_)
  exact ne_iret X hr (by first | rfl | decide | rfl) dX1_house_14 ⟨rfl, _, rfl, by omega, (by omega), e13⟩
