section NEWT
variable {cl : List vw_C} {D : va_G} {ct : Nat → ClassId} {A : Nat → Prop} {n0 : Nat} {ad0 : Nat → Nat} {p : Program} {l : Launch} {e : Env} {R : Room} {s : State} {m : MethodId} {args : Array Value} {below : List Frame} {meth : Method} {c : Code} {Q : State → Prop} {own : String} {cc : ByteArray} {nL : Nat} {Ts : List Cond} {fr lo mc ms C S pc : Nat} {L : List (Option Value)} {st : List Value} {ws : ne_W}
theorem ne_wsT {E : String} {ws' : ne_W} (h : ws = ws') (kk : ne_T cl D ct A n0 ad0 p l e R s m args below meth c Q nL mc ms C S pc L E ws') : ne_T cl D ct A n0 ad0 p l e R s m args below meth c Q nL mc ms C S pc L E ws := by rw [h]; exact kk
end NEWT
theorem wr_mg {c q t b k n h x y c8 q8 t8 b8 k8 n8 h8 x8 y8 : Nat → Int} {e : Option ne_E} : ne_mg (cW c q t b k n h x y ++ [e, none]) [0, 1, 2, 3, 4, 5, 6, 7, 8, 9, 10, 11] (cW c8 q8 t8 b8 k8 n8 h8 x8 y8) = cW c8 q8 t8 b8 k8 n8 h8 x8 y8 ++ [e, none] := rfl
theorem wr_pt {c q t b k n h x y : Nat → Int} {e : Option ne_E} : ne_pt (cW c q t b k n h x y ++ [e, none]) [0, 1, 2, 3, 4, 5, 6, 7, 8, 9, 10, 11] (cW c q t b k n h x y) := ne_ptb rfl (by decide +kernel) rfl
theorem wr_pl : plainName RL = true := by decide +kernel
theorem wr_cI : ("java/lang/IndexOutOfBoundsException", "java/lang/IndexOutOfBoundsException") ∈ ne_ca := by decide +kernel
theorem wr_cA : ("java/lang/IllegalArgumentException", "java/lang/IllegalArgumentException") ∈ ne_ca := by decide +kernel
theorem wr_cb : ("java/lang/IllegalArgumentException", "java/lang/IndexOutOfBoundsException") ∈ ne_cb := by decide +kernel
theorem wr_st {c q t b k n h x y : Nat → Int} {u v s : Value} : List.set ((cW c q t b k n h x y ++ [some (.inr (4, [u, s])), none] : ne_W)) 12 (some (Sum.inr (4, List.set [u, s] 0 v)) : Option ne_E) = cW c q t b k n h x y ++ [some (.inr (4, [v, s])), none] := rfl
set_option maxRecDepth 100000 in
set_option maxHeartbeats 4000000 in
theorem me_L_put (l : Launch) (hl : l.stackTraces = false) (c q t b k n h x y : Nat → Int) (T : Int) (hI : cI c q t b k n h x y T) (hT : 0 ≤ T ∧ T ≤ 1000) (u : Int) (s : Value) (hs : s = .null ∨ s = .ref 13) (i a p : Int) (hi : -2147483648 ≤ i ∧ i < 2147483648) (ha : -2147483648 ≤ a ∧ a < 2147483648) (hp : -2147483648 ≤ p ∧ p < 2147483648) : ne_M l nw_cl (.codeWith yL_put cL_put 6 (some .int) [(0, 13, 16, 19), (0, 13, 20, 21)]) nw_T yL_put 13 560 230 600 [.ref 0, ni i, ni a, ni p, .ref 12] (cW c q t b k n h x y ++ [some (.inr (4, [nl u, s])), none]) (fun v w => ∃ c1 q1 h1 u1, w = cW c1 q1 t b k n h1 x y ++ [some (.inr (4, [nl u1, s])), none] ∧ cI c1 q1 t b k n h1 x y (T + 1) ∧ ∃ z : Int, v = some (ni z) ∧ ((z = 1 ∧ (i < 0 ∨ 4 ≤ i) ∧ c1 = c ∧ q1 = q ∧ h1 = h) ∨ (z = 2 ∧ ((0 ≤ i ∧ i < 4) ∧ (a < -999999 ∨ 999999 < a ∨ p < 0 ∨ 3 < p)) ∧ c1 = c ∧ q1 = q ∧ h1 = h) ∨ (z = 0 ∧ (-9 ≤ u1 ∧ u1 ≤ 1) ∧ ((0 ≤ i ∧ i < 4) ∧ -999999 ≤ a ∧ a ≤ 999999 ∧ 0 ≤ p ∧ p ≤ 3) ∧ ne_come c q h i a p c1 q1 h1 u1))) (fun _ _ => False) := by
  refine ne_meetW (own := RL) hl rfl wr_pl (Nat.le_of_ble_eq_true rfl) ?_
  intro D ct A P9 V9 R9 S9 M9 as9 bl9 mt9 C9 ad0 X hr hin ht
  have hcw : ne_cw 14 (cW c q t b k n h x y ++ [some (.inr (4, [nl u, s])), none]) = true := by rcases hs with rfl | rfl <;> rfl
  refine ne_aload X dL_put_0 rfl ?_
  refine ne_aload_n X dL_put_2 rfl ?_
  refine ne_iload_n X dL_put_3 rfl ?_
  refine ne_iload_n X dL_put_4 rfl ?_
  refine ne_iload_n X dL_put_5 rfl ?_
  refine ne_callVF (is := [0, 1, 2, 3, 4, 5, 6, 7, 8, 9, 10, 11]) X nw_Tg (me_X1_putW l hl c q t b k n h x y T hI hT i a p hi ha hp) nw_yX1_put nw_mL_7 nw_iX1_put nw_eX1_put (ci := 3) rfl rfl rfl dL_put_6 rfl rfl (by decide) (by decide) (by first | decide | omega) (by first | decide | omega) (Nat.le_of_ble_eq_true rfl) hcw rfl rfl (Nat.le_of_ble_eq_true rfl) wr_pt ?_ ?_
  rotate_left
  · rintro E9 w9 ⟨rfl, ⟨rfl, g99⟩ | ⟨rfl, g99⟩⟩
    · refine ne_wsT wr_mg ?_
      refine ne_catch (name := "java/lang/IndexOutOfBoundsException") (pre := []) (x := ⟨0, 13, 16, 19⟩) (suf := [⟨0, 13, 20, 21⟩]) X ht (fun z hz => by cases hz) rfl (by decide) nw_qL_19 wr_cI (Nat.le_of_ble_eq_true rfl) hcw rfl ?_
      refine ne_astore X dL_put_16 (by decide) ?_
      refine ne_iconst X dL_put_18 ?_
      refine ne_take 14 ?_
      refine ne_ws (ws' := cW c q t b k n h x y ++ [some (.inr (4, [_, _])), none]) rfl ?_
      exact ne_iret X hr (by first | rfl | decide | rfl) dL_put_19 ⟨_, _, _, _, rfl, cI_mono hI (by omega), _, rfl, Or.inl ⟨rfl, (by omega), rfl, rfl, rfl⟩⟩
    · refine ne_wsT wr_mg ?_
      refine ne_catch (name := "java/lang/IllegalArgumentException") (pre := [⟨0, 13, 16, 19⟩]) (x := ⟨0, 13, 20, 21⟩) (suf := []) X ht (fun z hz => by
        rw [List.mem_singleton] at hz; subst hz
        exact Or.inr ⟨by decide, "java/lang/IndexOutOfBoundsException", nw_qL_19, wr_cb⟩) rfl (by decide) nw_qL_21 wr_cA (Nat.le_of_ble_eq_true rfl) hcw rfl ?_
      refine ne_astore X dL_put_20 (by decide) ?_
      refine ne_iconst X dL_put_22 ?_
      refine ne_take 14 ?_
      refine ne_ws (ws' := cW c q t b k n h x y ++ [some (.inr (4, [_, _])), none]) rfl ?_
      exact ne_iret X hr (by first | rfl | decide | rfl) dL_put_23 ⟨_, _, _, _, rfl, cI_mono hI (by omega), _, rfl, Or.inr (Or.inl ⟨rfl, (by omega), rfl, rfl, rfl⟩)⟩
  rintro v6 w6 ⟨c1, q1, h1, rfl, hI1, L1, rfl, lb, g1, g2⟩
  refine ne_ws wr_mg ?_
  refine ne_i2l (by omega) X dL_put_9 ?_
  refine ne_putfn X dL_put_10 nw_fL_13 nw_p4_0 rfl (fun _ => rfl) (fun _ => rfl) (by first | decide | exact Nat.le_of_ble_eq_true rfl) ?_
  refine ne_ws wr_st ?_
  refine ne_goto (tgt := 24) X dL_put_13 rfl ?_
  refine ne_iconst X dL_put_24 ?_
  exact ne_iret X hr (by first | rfl | decide | rfl) dL_put_25 ⟨_, _, _, _, rfl, hI1, _, rfl, Or.inr (Or.inr ⟨rfl, lb, g1, g2⟩)⟩
set_option maxRecDepth 100000 in
set_option maxHeartbeats 4000000 in
theorem me_L_write (l : Launch) (hl : l.stackTraces = false) (c q t b k n h x y : Nat → Int) (T : Int) (hI : cI c q t b k n h x y T) (hT : 0 ≤ T ∧ T ≤ 1000) (u : Int) (s : Value) (hs : s = .null ∨ s = .ref 13) (i m a p d : Int) (hi : -2147483648 ≤ i ∧ i < 2147483648) (hm : 0 ≤ m ∧ m ≤ 1) (ha : -2147483648 ≤ a ∧ a < 2147483648) (hp : -2147483648 ≤ p ∧ p < 2147483648) (hd : -2147483648 ≤ d ∧ d < 2147483648) : ne_M l nw_cl (.codeWith yL_write cL_write 8 (some .int) [(0, 17, 20, 19), (0, 17, 24, 21)]) nw_T yL_write 13 560 230 600 [.ref 0, ni i, ni m, ni a, ni p, ni d, .ref 12] (cW c q t b k n h x y ++ [some (.inr (4, [nl u, s])), none]) (fun v w => ∃ c1 q1 h1 u1, w = cW c1 q1 t b k n h1 x y ++ [some (.inr (4, [nl u1, s])), none] ∧ cI c1 q1 t b k n h1 x y (T + 1) ∧ ∃ z : Int, v = some (ni z) ∧ ((z = 1 ∧ (i < 0 ∨ 4 ≤ i) ∧ c1 = c ∧ q1 = q ∧ h1 = h) ∨ (z = 2 ∧ ((0 ≤ i ∧ i < 4) ∧ (a < 0 ∨ 999999 < a ∨ p < 0 ∨ 3 < p ∨ d < 0 ∨ 10 ^ p.toNat ≤ d)) ∧ c1 = c ∧ q1 = q ∧ h1 = h) ∨ (z = 0 ∧ (-9 ≤ u1 ∧ u1 ≤ 1) ∧ ((0 ≤ i ∧ i < 4) ∧ 0 ≤ a ∧ a ≤ 999999 ∧ 0 ≤ p ∧ p ≤ 3 ∧ 0 ≤ d ∧ d < 10 ^ p.toNat) ∧ ne_come c q h i (if m = 0 then a * 10 ^ p.toNat + d else -(a * 10 ^ p.toNat + d)) p c1 q1 h1 u1))) (fun _ _ => False) := by
  refine ne_meetW (own := RL) hl rfl wr_pl (Nat.le_of_ble_eq_true rfl) ?_
  intro D ct A P9 V9 R9 S9 M9 as9 bl9 mt9 C9 ad0 X hr hin ht
  have hcw : ne_cw 14 (cW c q t b k n h x y ++ [some (.inr (4, [nl u, s])), none]) = true := by rcases hs with rfl | rfl <;> rfl
  refine ne_aload X dL_write_0 rfl ?_
  refine ne_aload_n X dL_write_2 rfl ?_
  refine ne_iload_n X dL_write_3 rfl ?_
  refine ne_iload_n X dL_write_4 rfl ?_
  refine ne_iload_n X dL_write_5 rfl ?_
  refine ne_iload X dL_write_6 rfl ?_
  refine ne_iload X dL_write_8 rfl ?_
  refine ne_callVF (is := [0, 1, 2, 3, 4, 5, 6, 7, 8, 9, 10, 11]) X nw_Tg (me_X1_writeW l hl c q t b k n h x y T hI hT i m a p d hi hm ha hp hd) nw_yX1_write nw_mL_23 nw_iX1_write nw_eX1_write (ci := 3) rfl rfl rfl dL_write_10 rfl rfl (by decide) (by decide) (by first | decide | omega) (by first | decide | omega) (Nat.le_of_ble_eq_true rfl) hcw rfl rfl (Nat.le_of_ble_eq_true rfl) wr_pt ?_ ?_
  rotate_left
  · rintro E9 w9 ⟨rfl, ⟨rfl, g99⟩ | ⟨rfl, g99⟩⟩
    · refine ne_wsT wr_mg ?_
      refine ne_catch (name := "java/lang/IndexOutOfBoundsException") (pre := []) (x := ⟨0, 17, 20, 19⟩) (suf := [⟨0, 17, 24, 21⟩]) X ht (fun z hz => by cases hz) rfl (by decide) nw_qL_19 wr_cI (Nat.le_of_ble_eq_true rfl) hcw rfl ?_
      refine ne_astore X dL_write_20 (by decide) ?_
      refine ne_iconst X dL_write_22 ?_
      refine ne_take 14 ?_
      refine ne_ws (ws' := cW c q t b k n h x y ++ [some (.inr (4, [_, _])), none]) rfl ?_
      exact ne_iret X hr (by first | rfl | decide | rfl) dL_write_23 ⟨_, _, _, _, rfl, cI_mono hI (by omega), _, rfl, Or.inl ⟨rfl, (by omega), rfl, rfl, rfl⟩⟩
    · refine ne_wsT wr_mg ?_
      refine ne_catch (name := "java/lang/IllegalArgumentException") (pre := [⟨0, 17, 20, 19⟩]) (x := ⟨0, 17, 24, 21⟩) (suf := []) X ht (fun z hz => by
        rw [List.mem_singleton] at hz; subst hz
        exact Or.inr ⟨by decide, "java/lang/IndexOutOfBoundsException", nw_qL_19, wr_cb⟩) rfl (by decide) nw_qL_21 wr_cA (Nat.le_of_ble_eq_true rfl) hcw rfl ?_
      refine ne_astore X dL_write_24 (by decide) ?_
      refine ne_iconst X dL_write_26 ?_
      refine ne_take 14 ?_
      refine ne_ws (ws' := cW c q t b k n h x y ++ [some (.inr (4, [_, _])), none]) rfl ?_
      exact ne_iret X hr (by first | rfl | decide | rfl) dL_write_27 ⟨_, _, _, _, rfl, cI_mono hI (by omega), _, rfl, Or.inr (Or.inl ⟨rfl, (by omega), rfl, rfl, rfl⟩)⟩
  rintro v10 w10 ⟨c1, q1, h1, rfl, hI1, L1, rfl, lb, g1, g2⟩
  refine ne_ws wr_mg ?_
  refine ne_i2l (by omega) X dL_write_13 ?_
  refine ne_putfn X dL_write_14 nw_fL_13 nw_p4_0 rfl (fun _ => rfl) (fun _ => rfl) (by first | decide | exact Nat.le_of_ble_eq_true rfl) ?_
  refine ne_ws wr_st ?_
  refine ne_goto (tgt := 28) X dL_write_17 rfl ?_
  refine ne_iconst X dL_write_28 ?_
  exact ne_iret X hr (by first | rfl | decide | rfl) dL_write_29 ⟨_, _, _, _, rfl, hI1, _, rfl, Or.inr (Or.inr ⟨rfl, lb, g1, g2⟩)⟩
set_option maxRecDepth 100000 in
set_option maxHeartbeats 4000000 in
theorem me_L_copy (l : Launch) (hl : l.stackTraces = false) (c q t b k n h x y : Nat → Int) (T : Int) (hI : cI c q t b k n h x y T) (hT : 0 ≤ T ∧ T ≤ 1000) (u : Int) (s : Value) (hs : s = .null ∨ s = .ref 13) (i j : Int) (hi : -2147483648 ≤ i ∧ i < 2147483648) (hj : -2147483648 ≤ j ∧ j < 2147483648) : ne_M l nw_cl (.codeWith yL_copy cL_copy 5 (some .int) [(0, 11, 14, 19)]) nw_T yL_copy 13 560 230 600 [.ref 0, ni i, ni j, .ref 12] (cW c q t b k n h x y ++ [some (.inr (4, [nl u, s])), none]) (fun v w => ∃ c1 q1 h1 u1, w = cW c1 q1 t b k n h1 x y ++ [some (.inr (4, [nl u1, s])), none] ∧ cI c1 q1 t b k n h1 x y (T + 1) ∧ ∃ z : Int, v = some (ni z) ∧ ((z = 1 ∧ (i < 0 ∨ 4 ≤ i ∨ j < 0 ∨ 4 ≤ j) ∧ c1 = c ∧ q1 = q ∧ h1 = h) ∨ (z = 2 ∧ False ∧ c1 = c ∧ q1 = q ∧ h1 = h) ∨ (z = 0 ∧ (-9 ≤ u1 ∧ u1 ≤ 1) ∧ (0 ≤ i ∧ i < 4 ∧ 0 ≤ j ∧ j < 4) ∧ ne_come c q h j (c i.toNat) (q i.toNat) c1 q1 h1 u1))) (fun _ _ => False) := by
  refine ne_meetW (own := RL) hl rfl wr_pl (Nat.le_of_ble_eq_true rfl) ?_
  intro D ct A P9 V9 R9 S9 M9 as9 bl9 mt9 C9 ad0 X hr hin ht
  have hcw : ne_cw 14 (cW c q t b k n h x y ++ [some (.inr (4, [nl u, s])), none]) = true := by rcases hs with rfl | rfl <;> rfl
  refine ne_aload_n X dL_copy_0 rfl ?_
  refine ne_aload_n X dL_copy_1 rfl ?_
  refine ne_iload_n X dL_copy_2 rfl ?_
  refine ne_iload_n X dL_copy_3 rfl ?_
  refine ne_callVF (is := [0, 1, 2, 3, 4, 5, 6, 7, 8, 9, 10, 11]) X nw_Tg (me_X1_copyW l hl c q t b k n h x y T hI hT i j hi hj) nw_yX1_copy nw_mL_27 nw_iX1_copy nw_eX1_copy (ci := 3) rfl rfl rfl dL_copy_4 rfl rfl (by decide) (by decide) (by first | decide | omega) (by first | decide | omega) (Nat.le_of_ble_eq_true rfl) hcw rfl rfl (Nat.le_of_ble_eq_true rfl) wr_pt ?_ ?_
  rotate_left
  · rintro E9 w9 ⟨rfl, ⟨rfl, g99⟩ | ⟨rfl, g99⟩⟩
    rotate_left
    · exact g99.elim
    refine ne_wsT wr_mg ?_
    refine ne_catch (name := "java/lang/IndexOutOfBoundsException") (pre := []) (x := ⟨0, 11, 14, 19⟩) (suf := []) X ht (fun z hz => by cases hz) rfl (by decide) nw_qL_19 wr_cI (Nat.le_of_ble_eq_true rfl) hcw rfl ?_
    refine ne_astore X dL_copy_14 (by decide) ?_
    refine ne_iconst X dL_copy_16 ?_
    refine ne_take 14 ?_
    refine ne_ws (ws' := cW c q t b k n h x y ++ [some (.inr (4, [_, _])), none]) rfl ?_
    exact ne_iret X hr (by first | rfl | decide | rfl) dL_copy_17 ⟨_, _, _, _, rfl, cI_mono hI (by omega), _, rfl, Or.inl ⟨rfl, (by omega), rfl, rfl, rfl⟩⟩
  rintro v4 w4 ⟨c1, q1, h1, rfl, hI1, L1, rfl, lb, g1, g2⟩
  refine ne_ws wr_mg ?_
  refine ne_i2l (by omega) X dL_copy_7 ?_
  refine ne_putfn X dL_copy_8 nw_fL_13 nw_p4_0 rfl (fun _ => rfl) (fun _ => rfl) (by first | decide | exact Nat.le_of_ble_eq_true rfl) ?_
  refine ne_ws wr_st ?_
  refine ne_goto (tgt := 18) X dL_copy_11 rfl ?_
  refine ne_iconst X dL_copy_18 ?_
  exact ne_iret X hr (by first | rfl | decide | rfl) dL_copy_19 ⟨_, _, _, _, rfl, hI1, _, rfl, Or.inr (Or.inr ⟨rfl, lb, g1, g2⟩)⟩
set_option maxRecDepth 100000 in
set_option maxHeartbeats 4000000 in
theorem me_L_negate (l : Launch) (hl : l.stackTraces = false) (c q t b k n h x y : Nat → Int) (T : Int) (hI : cI c q t b k n h x y T) (hT : 0 ≤ T ∧ T ≤ 1000) (u : Int) (s : Value) (hs : s = .null ∨ s = .ref 13) (i : Int) (hi : -2147483648 ≤ i ∧ i < 2147483648) : ne_M l nw_cl (.codeWith yL_negate cL_negate 4 (some .int) [(0, 10, 13, 19)]) nw_T yL_negate 13 560 230 600 [.ref 0, ni i, .ref 12] (cW c q t b k n h x y ++ [some (.inr (4, [nl u, s])), none]) (fun v w => ∃ c1 q1 h1 u1, w = cW c1 q1 t b k n h1 x y ++ [some (.inr (4, [nl u1, s])), none] ∧ cI c1 q1 t b k n h1 x y (T + 1) ∧ ∃ z : Int, v = some (ni z) ∧ ((z = 1 ∧ (i < 0 ∨ 4 ≤ i) ∧ c1 = c ∧ q1 = q ∧ h1 = h) ∨ (z = 2 ∧ False ∧ c1 = c ∧ q1 = q ∧ h1 = h) ∨ (z = 0 ∧ (-9 ≤ u1 ∧ u1 ≤ 1) ∧ (0 ≤ i ∧ i < 4) ∧ ne_come c q h i (-c i.toNat) (q i.toNat) c1 q1 h1 u1))) (fun _ _ => False) := by
  refine ne_meetW (own := RL) hl rfl wr_pl (Nat.le_of_ble_eq_true rfl) ?_
  intro D ct A P9 V9 R9 S9 M9 as9 bl9 mt9 C9 ad0 X hr hin ht
  have hcw : ne_cw 14 (cW c q t b k n h x y ++ [some (.inr (4, [nl u, s])), none]) = true := by rcases hs with rfl | rfl <;> rfl
  refine ne_aload_n X dL_negate_0 rfl ?_
  refine ne_aload_n X dL_negate_1 rfl ?_
  refine ne_iload_n X dL_negate_2 rfl ?_
  refine ne_callVF (is := [0, 1, 2, 3, 4, 5, 6, 7, 8, 9, 10, 11]) X nw_Tg (me_X1_negateW l hl c q t b k n h x y T hI hT i hi) nw_yX1_negate nw_mL_31 nw_iX1_negate nw_eX1_negate (ci := 3) rfl rfl rfl dL_negate_3 rfl rfl (by decide) (by decide) (by first | decide | omega) (by first | decide | omega) (Nat.le_of_ble_eq_true rfl) hcw rfl rfl (Nat.le_of_ble_eq_true rfl) wr_pt ?_ ?_
  rotate_left
  · rintro E9 w9 ⟨rfl, ⟨rfl, g99⟩ | ⟨rfl, g99⟩⟩
    rotate_left
    · exact g99.elim
    refine ne_wsT wr_mg ?_
    refine ne_catch (name := "java/lang/IndexOutOfBoundsException") (pre := []) (x := ⟨0, 10, 13, 19⟩) (suf := []) X ht (fun z hz => by cases hz) rfl (by decide) nw_qL_19 wr_cI (Nat.le_of_ble_eq_true rfl) hcw rfl ?_
    refine ne_astore_n X dL_negate_13 rfl (by decide) ?_
    refine ne_iconst X dL_negate_14 ?_
    refine ne_take 14 ?_
    refine ne_ws (ws' := cW c q t b k n h x y ++ [some (.inr (4, [_, _])), none]) rfl ?_
    exact ne_iret X hr (by first | rfl | decide | rfl) dL_negate_15 ⟨_, _, _, _, rfl, cI_mono hI (by omega), _, rfl, Or.inl ⟨rfl, (by omega), rfl, rfl, rfl⟩⟩
  rintro v3 w3 ⟨c1, q1, h1, rfl, hI1, L1, rfl, lb, g1, g2⟩
  refine ne_ws wr_mg ?_
  refine ne_i2l (by omega) X dL_negate_6 ?_
  refine ne_putfn X dL_negate_7 nw_fL_13 nw_p4_0 rfl (fun _ => rfl) (fun _ => rfl) (by first | decide | exact Nat.le_of_ble_eq_true rfl) ?_
  refine ne_ws wr_st ?_
  refine ne_goto (tgt := 16) X dL_negate_10 rfl ?_
  refine ne_iconst X dL_negate_16 ?_
  exact ne_iret X hr (by first | rfl | decide | rfl) dL_negate_17 ⟨_, _, _, _, rfl, hI1, _, rfl, Or.inr (Or.inr ⟨rfl, lb, g1, g2⟩)⟩
set_option maxRecDepth 100000 in
set_option maxHeartbeats 4000000 in
theorem me_L_size (l : Launch) (hl : l.stackTraces = false) (c q t b k n h x y : Nat → Int) (T : Int) (hI : cI c q t b k n h x y T) (hT : 0 ≤ T ∧ T ≤ 1000) (u : Int) (s : Value) (hs : s = .null ∨ s = .ref 13) (i : Int) (hi : -2147483648 ≤ i ∧ i < 2147483648) : ne_M l nw_cl (.codeWith yL_size cL_size 4 (some .int) [(0, 10, 13, 19)]) nw_T yL_size 13 560 230 600 [.ref 0, ni i, .ref 12] (cW c q t b k n h x y ++ [some (.inr (4, [nl u, s])), none]) (fun v w => ∃ c1 q1 h1 u1, w = cW c1 q1 t b k n h1 x y ++ [some (.inr (4, [nl u1, s])), none] ∧ cI c1 q1 t b k n h1 x y (T + 1) ∧ ∃ z : Int, v = some (ni z) ∧ ((z = 1 ∧ (i < 0 ∨ 4 ≤ i) ∧ c1 = c ∧ q1 = q ∧ h1 = h) ∨ (z = 2 ∧ False ∧ c1 = c ∧ q1 = q ∧ h1 = h) ∨ (z = 0 ∧ (-9 ≤ u1 ∧ u1 ≤ 1) ∧ (0 ≤ i ∧ i < 4) ∧ ne_come c q h i (if 0 ≤ c i.toNat then c i.toNat else -c i.toNat) (q i.toNat) c1 q1 h1 u1))) (fun _ _ => False) := by
  refine ne_meetW (own := RL) hl rfl wr_pl (Nat.le_of_ble_eq_true rfl) ?_
  intro D ct A P9 V9 R9 S9 M9 as9 bl9 mt9 C9 ad0 X hr hin ht
  have hcw : ne_cw 14 (cW c q t b k n h x y ++ [some (.inr (4, [nl u, s])), none]) = true := by rcases hs with rfl | rfl <;> rfl
  refine ne_aload_n X dL_size_0 rfl ?_
  refine ne_aload_n X dL_size_1 rfl ?_
  refine ne_iload_n X dL_size_2 rfl ?_
  refine ne_callVF (is := [0, 1, 2, 3, 4, 5, 6, 7, 8, 9, 10, 11]) X nw_Tg (me_X1_sizeW l hl c q t b k n h x y T hI hT i hi) nw_yX1_size nw_mL_35 nw_iX1_size nw_eX1_size (ci := 3) rfl rfl rfl dL_size_3 rfl rfl (by decide) (by decide) (by first | decide | omega) (by first | decide | omega) (Nat.le_of_ble_eq_true rfl) hcw rfl rfl (Nat.le_of_ble_eq_true rfl) wr_pt ?_ ?_
  rotate_left
  · rintro E9 w9 ⟨rfl, ⟨rfl, g99⟩ | ⟨rfl, g99⟩⟩
    rotate_left
    · exact g99.elim
    refine ne_wsT wr_mg ?_
    refine ne_catch (name := "java/lang/IndexOutOfBoundsException") (pre := []) (x := ⟨0, 10, 13, 19⟩) (suf := []) X ht (fun z hz => by cases hz) rfl (by decide) nw_qL_19 wr_cI (Nat.le_of_ble_eq_true rfl) hcw rfl ?_
    refine ne_astore_n X dL_size_13 rfl (by decide) ?_
    refine ne_iconst X dL_size_14 ?_
    refine ne_take 14 ?_
    refine ne_ws (ws' := cW c q t b k n h x y ++ [some (.inr (4, [_, _])), none]) rfl ?_
    exact ne_iret X hr (by first | rfl | decide | rfl) dL_size_15 ⟨_, _, _, _, rfl, cI_mono hI (by omega), _, rfl, Or.inl ⟨rfl, (by omega), rfl, rfl, rfl⟩⟩
  rintro v3 w3 ⟨c1, q1, h1, rfl, hI1, L1, rfl, lb, g1, g2⟩
  refine ne_ws wr_mg ?_
  refine ne_i2l (by omega) X dL_size_6 ?_
  refine ne_putfn X dL_size_7 nw_fL_13 nw_p4_0 rfl (fun _ => rfl) (fun _ => rfl) (by first | decide | exact Nat.le_of_ble_eq_true rfl) ?_
  refine ne_ws wr_st ?_
  refine ne_goto (tgt := 16) X dL_size_10 rfl ?_
  refine ne_iconst X dL_size_16 ?_
  exact ne_iret X hr (by first | rfl | decide | rfl) dL_size_17 ⟨_, _, _, _, rfl, hI1, _, rfl, Or.inr (Or.inr ⟨rfl, lb, g1, g2⟩)⟩
set_option maxRecDepth 100000 in
set_option maxHeartbeats 4000000 in
theorem me_L_add (l : Launch) (hl : l.stackTraces = false) (c q t b k n h x y : Nat → Int) (T : Int) (hI : cI c q t b k n h x y T) (hT : 0 ≤ T ∧ T ≤ 1000) (u : Int) (s : Value) (hs : s = .null ∨ s = .ref 13) (i j o : Int) (hi : -2147483648 ≤ i ∧ i < 2147483648) (hj : -2147483648 ≤ j ∧ j < 2147483648) (ho : -2147483648 ≤ o ∧ o < 2147483648) : ne_M l nw_cl (.codeWith yL_add cL_add 6 (some .int) [(0, 13, 16, 19)]) nw_T yL_add 13 560 230 600 [.ref 0, ni i, ni j, ni o, .ref 12] (cW c q t b k n h x y ++ [some (.inr (4, [nl u, s])), none]) (fun v w => ∃ c1 q1 h1 u1, w = cW c1 q1 t b k n h1 x y ++ [some (.inr (4, [nl u1, s])), none] ∧ cI c1 q1 t b k n h1 x y (T + 1) ∧ ∃ z : Int, v = some (ni z) ∧ ((z = 1 ∧ (i < 0 ∨ 4 ≤ i ∨ j < 0 ∨ 4 ≤ j ∨ o < 0 ∨ 4 ≤ o) ∧ c1 = c ∧ q1 = q ∧ h1 = h) ∨ (z = 2 ∧ False ∧ c1 = c ∧ q1 = q ∧ h1 = h) ∨ (z = 0 ∧ (-9 ≤ u1 ∧ u1 ≤ 1) ∧ (0 ≤ i ∧ i < 4 ∧ 0 ≤ j ∧ j < 4 ∧ 0 ≤ o ∧ o < 4) ∧ ne_come c q h o (c i.toNat * 10 ^ ((if q i.toNat < q j.toNat then q j.toNat else q i.toNat) - q i.toNat).toNat + c j.toNat * 10 ^ ((if q i.toNat < q j.toNat then q j.toNat else q i.toNat) - q j.toNat).toNat) (if q i.toNat < q j.toNat then q j.toNat else q i.toNat) c1 q1 h1 u1))) (fun _ _ => False) := by
  refine ne_meetW (own := RL) hl rfl wr_pl (Nat.le_of_ble_eq_true rfl) ?_
  intro D ct A P9 V9 R9 S9 M9 as9 bl9 mt9 C9 ad0 X hr hin ht
  have hcw : ne_cw 14 (cW c q t b k n h x y ++ [some (.inr (4, [nl u, s])), none]) = true := by rcases hs with rfl | rfl <;> rfl
  refine ne_aload X dL_add_0 rfl ?_
  refine ne_aload_n X dL_add_2 rfl ?_
  refine ne_iload_n X dL_add_3 rfl ?_
  refine ne_iload_n X dL_add_4 rfl ?_
  refine ne_iload_n X dL_add_5 rfl ?_
  refine ne_callVF (is := [0, 1, 2, 3, 4, 5, 6, 7, 8, 9, 10, 11]) X nw_Tg (me_X1_addW l hl c q t b k n h x y T hI hT i j o hi hj ho) nw_yX1_add nw_mL_38 nw_iX1_add nw_eX1_add (ci := 3) rfl rfl rfl dL_add_6 rfl rfl (by decide) (by decide) (by first | decide | omega) (by first | decide | omega) (Nat.le_of_ble_eq_true rfl) hcw rfl rfl (Nat.le_of_ble_eq_true rfl) wr_pt ?_ ?_
  rotate_left
  · rintro E9 w9 ⟨rfl, ⟨rfl, g99⟩ | ⟨rfl, g99⟩⟩
    rotate_left
    · exact g99.elim
    refine ne_wsT wr_mg ?_
    refine ne_catch (name := "java/lang/IndexOutOfBoundsException") (pre := []) (x := ⟨0, 13, 16, 19⟩) (suf := []) X ht (fun z hz => by cases hz) rfl (by decide) nw_qL_19 wr_cI (Nat.le_of_ble_eq_true rfl) hcw rfl ?_
    refine ne_astore X dL_add_16 (by decide) ?_
    refine ne_iconst X dL_add_18 ?_
    refine ne_take 14 ?_
    refine ne_ws (ws' := cW c q t b k n h x y ++ [some (.inr (4, [_, _])), none]) rfl ?_
    exact ne_iret X hr (by first | rfl | decide | rfl) dL_add_19 ⟨_, _, _, _, rfl, cI_mono hI (by omega), _, rfl, Or.inl ⟨rfl, (by omega), rfl, rfl, rfl⟩⟩
  rintro v6 w6 ⟨c1, q1, h1, rfl, hI1, L1, rfl, lb, g1, g2⟩
  refine ne_ws wr_mg ?_
  refine ne_i2l (by omega) X dL_add_9 ?_
  refine ne_putfn X dL_add_10 nw_fL_13 nw_p4_0 rfl (fun _ => rfl) (fun _ => rfl) (by first | decide | exact Nat.le_of_ble_eq_true rfl) ?_
  refine ne_ws wr_st ?_
  refine ne_goto (tgt := 20) X dL_add_13 rfl ?_
  refine ne_iconst X dL_add_20 ?_
  exact ne_iret X hr (by first | rfl | decide | rfl) dL_add_21 ⟨_, _, _, _, rfl, hI1, _, rfl, Or.inr (Or.inr ⟨rfl, lb, g1, g2⟩)⟩
set_option maxRecDepth 100000 in
set_option maxHeartbeats 4000000 in
theorem me_L_subtract (l : Launch) (hl : l.stackTraces = false) (c q t b k n h x y : Nat → Int) (T : Int) (hI : cI c q t b k n h x y T) (hT : 0 ≤ T ∧ T ≤ 1000) (u : Int) (s : Value) (hs : s = .null ∨ s = .ref 13) (i j o : Int) (hi : -2147483648 ≤ i ∧ i < 2147483648) (hj : -2147483648 ≤ j ∧ j < 2147483648) (ho : -2147483648 ≤ o ∧ o < 2147483648) : ne_M l nw_cl (.codeWith yL_subtract cL_subtract 6 (some .int) [(0, 13, 16, 19)]) nw_T yL_subtract 13 560 230 600 [.ref 0, ni i, ni j, ni o, .ref 12] (cW c q t b k n h x y ++ [some (.inr (4, [nl u, s])), none]) (fun v w => ∃ c1 q1 h1 u1, w = cW c1 q1 t b k n h1 x y ++ [some (.inr (4, [nl u1, s])), none] ∧ cI c1 q1 t b k n h1 x y (T + 1) ∧ ∃ z : Int, v = some (ni z) ∧ ((z = 1 ∧ (i < 0 ∨ 4 ≤ i ∨ j < 0 ∨ 4 ≤ j ∨ o < 0 ∨ 4 ≤ o) ∧ c1 = c ∧ q1 = q ∧ h1 = h) ∨ (z = 2 ∧ False ∧ c1 = c ∧ q1 = q ∧ h1 = h) ∨ (z = 0 ∧ (-9 ≤ u1 ∧ u1 ≤ 1) ∧ (0 ≤ i ∧ i < 4 ∧ 0 ≤ j ∧ j < 4 ∧ 0 ≤ o ∧ o < 4) ∧ ne_come c q h o (c i.toNat * 10 ^ ((if q i.toNat < q j.toNat then q j.toNat else q i.toNat) - q i.toNat).toNat - c j.toNat * 10 ^ ((if q i.toNat < q j.toNat then q j.toNat else q i.toNat) - q j.toNat).toNat) (if q i.toNat < q j.toNat then q j.toNat else q i.toNat) c1 q1 h1 u1))) (fun _ _ => False) := by
  refine ne_meetW (own := RL) hl rfl wr_pl (Nat.le_of_ble_eq_true rfl) ?_
  intro D ct A P9 V9 R9 S9 M9 as9 bl9 mt9 C9 ad0 X hr hin ht
  have hcw : ne_cw 14 (cW c q t b k n h x y ++ [some (.inr (4, [nl u, s])), none]) = true := by rcases hs with rfl | rfl <;> rfl
  refine ne_aload X dL_subtract_0 rfl ?_
  refine ne_aload_n X dL_subtract_2 rfl ?_
  refine ne_iload_n X dL_subtract_3 rfl ?_
  refine ne_iload_n X dL_subtract_4 rfl ?_
  refine ne_iload_n X dL_subtract_5 rfl ?_
  refine ne_callVF (is := [0, 1, 2, 3, 4, 5, 6, 7, 8, 9, 10, 11]) X nw_Tg (me_X1_subtractW l hl c q t b k n h x y T hI hT i j o hi hj ho) nw_yX1_subtract nw_mL_41 nw_iX1_subtract nw_eX1_subtract (ci := 3) rfl rfl rfl dL_subtract_6 rfl rfl (by decide) (by decide) (by first | decide | omega) (by first | decide | omega) (Nat.le_of_ble_eq_true rfl) hcw rfl rfl (Nat.le_of_ble_eq_true rfl) wr_pt ?_ ?_
  rotate_left
  · rintro E9 w9 ⟨rfl, ⟨rfl, g99⟩ | ⟨rfl, g99⟩⟩
    rotate_left
    · exact g99.elim
    refine ne_wsT wr_mg ?_
    refine ne_catch (name := "java/lang/IndexOutOfBoundsException") (pre := []) (x := ⟨0, 13, 16, 19⟩) (suf := []) X ht (fun z hz => by cases hz) rfl (by decide) nw_qL_19 wr_cI (Nat.le_of_ble_eq_true rfl) hcw rfl ?_
    refine ne_astore X dL_subtract_16 (by decide) ?_
    refine ne_iconst X dL_subtract_18 ?_
    refine ne_take 14 ?_
    refine ne_ws (ws' := cW c q t b k n h x y ++ [some (.inr (4, [_, _])), none]) rfl ?_
    exact ne_iret X hr (by first | rfl | decide | rfl) dL_subtract_19 ⟨_, _, _, _, rfl, cI_mono hI (by omega), _, rfl, Or.inl ⟨rfl, (by omega), rfl, rfl, rfl⟩⟩
  rintro v6 w6 ⟨c1, q1, h1, rfl, hI1, L1, rfl, lb, g1, g2⟩
  refine ne_ws wr_mg ?_
  refine ne_i2l (by omega) X dL_subtract_9 ?_
  refine ne_putfn X dL_subtract_10 nw_fL_13 nw_p4_0 rfl (fun _ => rfl) (fun _ => rfl) (by first | decide | exact Nat.le_of_ble_eq_true rfl) ?_
  refine ne_ws wr_st ?_
  refine ne_goto (tgt := 20) X dL_subtract_13 rfl ?_
  refine ne_iconst X dL_subtract_20 ?_
  exact ne_iret X hr (by first | rfl | decide | rfl) dL_subtract_21 ⟨_, _, _, _, rfl, hI1, _, rfl, Or.inr (Or.inr ⟨rfl, lb, g1, g2⟩)⟩
set_option maxRecDepth 100000 in
set_option maxHeartbeats 4000000 in
theorem me_L_multiply (l : Launch) (hl : l.stackTraces = false) (c q t b k n h x y : Nat → Int) (T : Int) (hI : cI c q t b k n h x y T) (hT : 0 ≤ T ∧ T ≤ 1000) (u : Int) (s : Value) (hs : s = .null ∨ s = .ref 13) (i j o : Int) (hi : -2147483648 ≤ i ∧ i < 2147483648) (hj : -2147483648 ≤ j ∧ j < 2147483648) (ho : -2147483648 ≤ o ∧ o < 2147483648) : ne_M l nw_cl (.codeWith yL_multiply cL_multiply 6 (some .int) [(0, 13, 16, 19)]) nw_T yL_multiply 13 560 230 600 [.ref 0, ni i, ni j, ni o, .ref 12] (cW c q t b k n h x y ++ [some (.inr (4, [nl u, s])), none]) (fun v w => ∃ c1 q1 h1 u1, w = cW c1 q1 t b k n h1 x y ++ [some (.inr (4, [nl u1, s])), none] ∧ cI c1 q1 t b k n h1 x y (T + 1) ∧ ∃ z : Int, v = some (ni z) ∧ ((z = 1 ∧ (i < 0 ∨ 4 ≤ i ∨ j < 0 ∨ 4 ≤ j ∨ o < 0 ∨ 4 ≤ o) ∧ c1 = c ∧ q1 = q ∧ h1 = h) ∨ (z = 2 ∧ False ∧ c1 = c ∧ q1 = q ∧ h1 = h) ∨ (z = 0 ∧ (-9 ≤ u1 ∧ u1 ≤ 1) ∧ (0 ≤ i ∧ i < 4 ∧ 0 ≤ j ∧ j < 4 ∧ 0 ≤ o ∧ o < 4) ∧ ne_come c q h o (c i.toNat * c j.toNat) (q i.toNat + q j.toNat) c1 q1 h1 u1))) (fun _ _ => False) := by
  refine ne_meetW (own := RL) hl rfl wr_pl (Nat.le_of_ble_eq_true rfl) ?_
  intro D ct A P9 V9 R9 S9 M9 as9 bl9 mt9 C9 ad0 X hr hin ht
  have hcw : ne_cw 14 (cW c q t b k n h x y ++ [some (.inr (4, [nl u, s])), none]) = true := by rcases hs with rfl | rfl <;> rfl
  refine ne_aload X dL_multiply_0 rfl ?_
  refine ne_aload_n X dL_multiply_2 rfl ?_
  refine ne_iload_n X dL_multiply_3 rfl ?_
  refine ne_iload_n X dL_multiply_4 rfl ?_
  refine ne_iload_n X dL_multiply_5 rfl ?_
  refine ne_callVF (is := [0, 1, 2, 3, 4, 5, 6, 7, 8, 9, 10, 11]) X nw_Tg (me_X1_multiplyW l hl c q t b k n h x y T hI hT i j o hi hj ho) nw_yX1_multiply nw_mL_44 nw_iX1_multiply nw_eX1_multiply (ci := 3) rfl rfl rfl dL_multiply_6 rfl rfl (by decide) (by decide) (by first | decide | omega) (by first | decide | omega) (Nat.le_of_ble_eq_true rfl) hcw rfl rfl (Nat.le_of_ble_eq_true rfl) wr_pt ?_ ?_
  rotate_left
  · rintro E9 w9 ⟨rfl, ⟨rfl, g99⟩ | ⟨rfl, g99⟩⟩
    rotate_left
    · exact g99.elim
    refine ne_wsT wr_mg ?_
    refine ne_catch (name := "java/lang/IndexOutOfBoundsException") (pre := []) (x := ⟨0, 13, 16, 19⟩) (suf := []) X ht (fun z hz => by cases hz) rfl (by decide) nw_qL_19 wr_cI (Nat.le_of_ble_eq_true rfl) hcw rfl ?_
    refine ne_astore X dL_multiply_16 (by decide) ?_
    refine ne_iconst X dL_multiply_18 ?_
    refine ne_take 14 ?_
    refine ne_ws (ws' := cW c q t b k n h x y ++ [some (.inr (4, [_, _])), none]) rfl ?_
    exact ne_iret X hr (by first | rfl | decide | rfl) dL_multiply_19 ⟨_, _, _, _, rfl, cI_mono hI (by omega), _, rfl, Or.inl ⟨rfl, (by omega), rfl, rfl, rfl⟩⟩
  rintro v6 w6 ⟨c1, q1, h1, rfl, hI1, L1, rfl, lb, g1, g2⟩
  refine ne_ws wr_mg ?_
  refine ne_i2l (by omega) X dL_multiply_9 ?_
  refine ne_putfn X dL_multiply_10 nw_fL_13 nw_p4_0 rfl (fun _ => rfl) (fun _ => rfl) (by first | decide | exact Nat.le_of_ble_eq_true rfl) ?_
  refine ne_ws wr_st ?_
  refine ne_goto (tgt := 20) X dL_multiply_13 rfl ?_
  refine ne_iconst X dL_multiply_20 ?_
  exact ne_iret X hr (by first | rfl | decide | rfl) dL_multiply_21 ⟨_, _, _, _, rfl, hI1, _, rfl, Or.inr (Or.inr ⟨rfl, lb, g1, g2⟩)⟩
set_option maxRecDepth 100000 in
set_option maxHeartbeats 4000000 in
theorem me_L_power (l : Launch) (hl : l.stackTraces = false) (c q t b k n h x y : Nat → Int) (T : Int) (hI : cI c q t b k n h x y T) (hT : 0 ≤ T ∧ T ≤ 1000) (u : Int) (s : Value) (hs : s = .null ∨ s = .ref 13) (i a o : Int) (hi : -2147483648 ≤ i ∧ i < 2147483648) (ha : -2147483648 ≤ a ∧ a < 2147483648) (ho : -2147483648 ≤ o ∧ o < 2147483648) : ne_M l nw_cl (.codeWith yL_power cL_power 6 (some .int) [(0, 13, 16, 19), (0, 13, 20, 21)]) nw_T yL_power 13 560 230 600 [.ref 0, ni i, ni a, ni o, .ref 12] (cW c q t b k n h x y ++ [some (.inr (4, [nl u, s])), none]) (fun v w => ∃ c1 q1 h1 u1, w = cW c1 q1 t b k n h1 x y ++ [some (.inr (4, [nl u1, s])), none] ∧ cI c1 q1 t b k n h1 x y (T + 1) ∧ ∃ z : Int, v = some (ni z) ∧ ((z = 1 ∧ (i < 0 ∨ 4 ≤ i ∨ o < 0 ∨ 4 ≤ o) ∧ c1 = c ∧ q1 = q ∧ h1 = h) ∨ (z = 2 ∧ ((0 ≤ i ∧ i < 4 ∧ 0 ≤ o ∧ o < 4) ∧ (a < 0 ∨ 3 < a)) ∧ c1 = c ∧ q1 = q ∧ h1 = h) ∨ (z = 0 ∧ (-9 ≤ u1 ∧ u1 ≤ 1) ∧ ((0 ≤ i ∧ i < 4 ∧ 0 ≤ o ∧ o < 4) ∧ 0 ≤ a ∧ a ≤ 3) ∧ ne_come c q h o (c i.toNat ^ a.toNat) (a * q i.toNat) c1 q1 h1 u1))) (fun _ _ => False) := by
  refine ne_meetW (own := RL) hl rfl wr_pl (Nat.le_of_ble_eq_true rfl) ?_
  intro D ct A P9 V9 R9 S9 M9 as9 bl9 mt9 C9 ad0 X hr hin ht
  have hcw : ne_cw 14 (cW c q t b k n h x y ++ [some (.inr (4, [nl u, s])), none]) = true := by rcases hs with rfl | rfl <;> rfl
  refine ne_aload X dL_power_0 rfl ?_
  refine ne_aload_n X dL_power_2 rfl ?_
  refine ne_iload_n X dL_power_3 rfl ?_
  refine ne_iload_n X dL_power_4 rfl ?_
  refine ne_iload_n X dL_power_5 rfl ?_
  refine ne_callVF (is := [0, 1, 2, 3, 4, 5, 6, 7, 8, 9, 10, 11]) X nw_Tg (me_X1_powerW l hl c q t b k n h x y T hI hT i a o hi ha ho) nw_yX1_power nw_mL_47 nw_iX1_power nw_eX1_power (ci := 3) rfl rfl rfl dL_power_6 rfl rfl (by decide) (by decide) (by first | decide | omega) (by first | decide | omega) (Nat.le_of_ble_eq_true rfl) hcw rfl rfl (Nat.le_of_ble_eq_true rfl) wr_pt ?_ ?_
  rotate_left
  · rintro E9 w9 ⟨rfl, ⟨rfl, g99⟩ | ⟨rfl, g99⟩⟩
    · refine ne_wsT wr_mg ?_
      refine ne_catch (name := "java/lang/IndexOutOfBoundsException") (pre := []) (x := ⟨0, 13, 16, 19⟩) (suf := [⟨0, 13, 20, 21⟩]) X ht (fun z hz => by cases hz) rfl (by decide) nw_qL_19 wr_cI (Nat.le_of_ble_eq_true rfl) hcw rfl ?_
      refine ne_astore X dL_power_16 (by decide) ?_
      refine ne_iconst X dL_power_18 ?_
      refine ne_take 14 ?_
      refine ne_ws (ws' := cW c q t b k n h x y ++ [some (.inr (4, [_, _])), none]) rfl ?_
      exact ne_iret X hr (by first | rfl | decide | rfl) dL_power_19 ⟨_, _, _, _, rfl, cI_mono hI (by omega), _, rfl, Or.inl ⟨rfl, (by omega), rfl, rfl, rfl⟩⟩
    · refine ne_wsT wr_mg ?_
      refine ne_catch (name := "java/lang/IllegalArgumentException") (pre := [⟨0, 13, 16, 19⟩]) (x := ⟨0, 13, 20, 21⟩) (suf := []) X ht (fun z hz => by
        rw [List.mem_singleton] at hz; subst hz
        exact Or.inr ⟨by decide, "java/lang/IndexOutOfBoundsException", nw_qL_19, wr_cb⟩) rfl (by decide) nw_qL_21 wr_cA (Nat.le_of_ble_eq_true rfl) hcw rfl ?_
      refine ne_astore X dL_power_20 (by decide) ?_
      refine ne_iconst X dL_power_22 ?_
      refine ne_take 14 ?_
      refine ne_ws (ws' := cW c q t b k n h x y ++ [some (.inr (4, [_, _])), none]) rfl ?_
      exact ne_iret X hr (by first | rfl | decide | rfl) dL_power_23 ⟨_, _, _, _, rfl, cI_mono hI (by omega), _, rfl, Or.inr (Or.inl ⟨rfl, (by omega), rfl, rfl, rfl⟩)⟩
  rintro v6 w6 ⟨c1, q1, h1, rfl, hI1, L1, rfl, lb, g1, g2⟩
  refine ne_ws wr_mg ?_
  refine ne_i2l (by omega) X dL_power_9 ?_
  refine ne_putfn X dL_power_10 nw_fL_13 nw_p4_0 rfl (fun _ => rfl) (fun _ => rfl) (by first | decide | exact Nat.le_of_ble_eq_true rfl) ?_
  refine ne_ws wr_st ?_
  refine ne_goto (tgt := 24) X dL_power_13 rfl ?_
  refine ne_iconst X dL_power_24 ?_
  exact ne_iret X hr (by first | rfl | decide | rfl) dL_power_25 ⟨_, _, _, _, rfl, hI1, _, rfl, Or.inr (Or.inr ⟨rfl, lb, g1, g2⟩)⟩
set_option maxRecDepth 100000 in
set_option maxHeartbeats 4000000 in
theorem me_L_divide (l : Launch) (hl : l.stackTraces = false) (c q t b k n h x y : Nat → Int) (T : Int) (hI : cI c q t b k n h x y T) (hT : 0 ≤ T ∧ T ≤ 1000) (u : Int) (s : Value) (hs : s = .null ∨ s = .ref 13) (i j p w0 o : Int) (hi : -2147483648 ≤ i ∧ i < 2147483648) (hj : -2147483648 ≤ j ∧ j < 2147483648) (hp : -2147483648 ≤ p ∧ p < 2147483648) (hw0 : -2147483648 ≤ w0 ∧ w0 < 2147483648) (ho : -2147483648 ≤ o ∧ o < 2147483648) : ne_M l nw_cl (.codeWith yL_divide cL_divide 8 (some .int) [(0, 17, 20, 19), (0, 17, 24, 21)]) nw_T yL_divide 13 560 230 600 [.ref 0, ni i, ni j, ni p, ni w0, ni o, .ref 12] (cW c q t b k n h x y ++ [some (.inr (4, [nl u, s])), none]) (fun v w => ∃ c1 q1 h1 u1, w = cW c1 q1 t b k n h1 x y ++ [some (.inr (4, [nl u1, s])), none] ∧ cI c1 q1 t b k n h1 x y (T + 1) ∧ ∃ z : Int, v = some (ni z) ∧ ((z = 1 ∧ (i < 0 ∨ 4 ≤ i ∨ j < 0 ∨ 4 ≤ j ∨ o < 0 ∨ 4 ≤ o) ∧ c1 = c ∧ q1 = q ∧ h1 = h) ∨ (z = 2 ∧ ((0 ≤ i ∧ i < 4 ∧ 0 ≤ j ∧ j < 4 ∧ 0 ≤ o ∧ o < 4) ∧ (p < 0 ∨ 3 < p ∨ w0 < 0 ∨ 7 < w0)) ∧ c1 = c ∧ q1 = q ∧ h1 = h) ∨ (z = 0 ∧ (-9 ≤ u1 ∧ u1 ≤ 1) ∧ ((0 ≤ i ∧ i < 4 ∧ 0 ≤ j ∧ j < 4 ∧ 0 ≤ o ∧ o < 4) ∧ 0 ≤ p ∧ p ≤ 3 ∧ 0 ≤ w0 ∧ w0 ≤ 7) ∧ ne_Adiv c q h i j p w0 o c1 q1 h1 u1))) (fun _ _ => False) := by
  refine ne_meetW (own := RL) hl rfl wr_pl (Nat.le_of_ble_eq_true rfl) ?_
  intro D ct A P9 V9 R9 S9 M9 as9 bl9 mt9 C9 ad0 X hr hin ht
  have hcw : ne_cw 14 (cW c q t b k n h x y ++ [some (.inr (4, [nl u, s])), none]) = true := by rcases hs with rfl | rfl <;> rfl
  refine ne_aload X dL_divide_0 rfl ?_
  refine ne_aload_n X dL_divide_2 rfl ?_
  refine ne_iload_n X dL_divide_3 rfl ?_
  refine ne_iload_n X dL_divide_4 rfl ?_
  refine ne_iload_n X dL_divide_5 rfl ?_
  refine ne_iload X dL_divide_6 rfl ?_
  refine ne_iload X dL_divide_8 rfl ?_
  refine ne_callVF (is := [0, 1, 2, 3, 4, 5, 6, 7, 8, 9, 10, 11]) X nw_Tg (me_X1_divideW l hl c q t b k n h x y T hI hT i j p w0 o hi hj hp hw0 ho) nw_yX1_divide nw_mL_50 nw_iX1_divide nw_eX1_divide (ci := 3) rfl rfl rfl dL_divide_10 rfl rfl (by decide) (by decide) (by first | decide | omega) (by first | decide | omega) (Nat.le_of_ble_eq_true rfl) hcw rfl rfl (Nat.le_of_ble_eq_true rfl) wr_pt ?_ ?_
  rotate_left
  · rintro E9 w9 ⟨rfl, ⟨rfl, g99⟩ | ⟨rfl, g99⟩⟩
    · refine ne_wsT wr_mg ?_
      refine ne_catch (name := "java/lang/IndexOutOfBoundsException") (pre := []) (x := ⟨0, 17, 20, 19⟩) (suf := [⟨0, 17, 24, 21⟩]) X ht (fun z hz => by cases hz) rfl (by decide) nw_qL_19 wr_cI (Nat.le_of_ble_eq_true rfl) hcw rfl ?_
      refine ne_astore X dL_divide_20 (by decide) ?_
      refine ne_iconst X dL_divide_22 ?_
      refine ne_take 14 ?_
      refine ne_ws (ws' := cW c q t b k n h x y ++ [some (.inr (4, [_, _])), none]) rfl ?_
      exact ne_iret X hr (by first | rfl | decide | rfl) dL_divide_23 ⟨_, _, _, _, rfl, cI_mono hI (by omega), _, rfl, Or.inl ⟨rfl, (by omega), rfl, rfl, rfl⟩⟩
    · refine ne_wsT wr_mg ?_
      refine ne_catch (name := "java/lang/IllegalArgumentException") (pre := [⟨0, 17, 20, 19⟩]) (x := ⟨0, 17, 24, 21⟩) (suf := []) X ht (fun z hz => by
        rw [List.mem_singleton] at hz; subst hz
        exact Or.inr ⟨by decide, "java/lang/IndexOutOfBoundsException", nw_qL_19, wr_cb⟩) rfl (by decide) nw_qL_21 wr_cA (Nat.le_of_ble_eq_true rfl) hcw rfl ?_
      refine ne_astore X dL_divide_24 (by decide) ?_
      refine ne_iconst X dL_divide_26 ?_
      refine ne_take 14 ?_
      refine ne_ws (ws' := cW c q t b k n h x y ++ [some (.inr (4, [_, _])), none]) rfl ?_
      exact ne_iret X hr (by first | rfl | decide | rfl) dL_divide_27 ⟨_, _, _, _, rfl, cI_mono hI (by omega), _, rfl, Or.inr (Or.inl ⟨rfl, (by omega), rfl, rfl, rfl⟩)⟩
  rintro v10 w10 ⟨c1, q1, h1, rfl, hI1, L1, rfl, lb, g1, g2⟩
  refine ne_ws wr_mg ?_
  refine ne_i2l (by omega) X dL_divide_13 ?_
  refine ne_putfn X dL_divide_14 nw_fL_13 nw_p4_0 rfl (fun _ => rfl) (fun _ => rfl) (by first | decide | exact Nat.le_of_ble_eq_true rfl) ?_
  refine ne_ws wr_st ?_
  refine ne_goto (tgt := 28) X dL_divide_17 rfl ?_
  refine ne_iconst X dL_divide_28 ?_
  exact ne_iret X hr (by first | rfl | decide | rfl) dL_divide_29 ⟨_, _, _, _, rfl, hI1, _, rfl, Or.inr (Or.inr ⟨rfl, lb, g1, g2⟩)⟩
set_option maxRecDepth 100000 in
set_option maxHeartbeats 4000000 in
theorem me_L_share (l : Launch) (hl : l.stackTraces = false) (c q t b k n h x y : Nat → Int) (T : Int) (hI : cI c q t b k n h x y T) (hT : 0 ≤ T ∧ T ≤ 1000) (u : Int) (s : Value) (hs : s = .null ∨ s = .ref 13) (i a o : Int) (hi : -2147483648 ≤ i ∧ i < 2147483648) (ha : -2147483648 ≤ a ∧ a < 2147483648) (ho : -2147483648 ≤ o ∧ o < 2147483648) : ne_M l nw_cl (.codeWith yL_share cL_share 6 (some .int) [(0, 13, 16, 19), (0, 13, 20, 21)]) nw_T yL_share 13 560 230 600 [.ref 0, ni i, ni a, ni o, .ref 12] (cW c q t b k n h x y ++ [some (.inr (4, [nl u, s])), none]) (fun v w => ∃ c1 q1 h1 u1, w = cW c1 q1 t b k n h1 x y ++ [some (.inr (4, [nl u1, s])), none] ∧ cI c1 q1 t b k n h1 x y (T + 1) ∧ ∃ z : Int, v = some (ni z) ∧ ((z = 1 ∧ (i < 0 ∨ 4 ≤ i ∨ o < 0 ∨ 4 ≤ o) ∧ c1 = c ∧ q1 = q ∧ h1 = h) ∨ (z = 2 ∧ ((0 ≤ i ∧ i < 4 ∧ 0 ≤ o ∧ o < 4) ∧ (a < -99 ∨ 99 < a)) ∧ c1 = c ∧ q1 = q ∧ h1 = h) ∨ (z = 0 ∧ (-9 ≤ u1 ∧ u1 ≤ 1) ∧ ((0 ≤ i ∧ i < 4 ∧ 0 ≤ o ∧ o < 4) ∧ -99 ≤ a ∧ a ≤ 99) ∧ ne_Ashare c q h i a o c1 q1 h1 u1))) (fun _ _ => False) := by
  refine ne_meetW (own := RL) hl rfl wr_pl (Nat.le_of_ble_eq_true rfl) ?_
  intro D ct A P9 V9 R9 S9 M9 as9 bl9 mt9 C9 ad0 X hr hin ht
  have hcw : ne_cw 14 (cW c q t b k n h x y ++ [some (.inr (4, [nl u, s])), none]) = true := by rcases hs with rfl | rfl <;> rfl
  refine ne_aload X dL_share_0 rfl ?_
  refine ne_aload_n X dL_share_2 rfl ?_
  refine ne_iload_n X dL_share_3 rfl ?_
  refine ne_iload_n X dL_share_4 rfl ?_
  refine ne_iload_n X dL_share_5 rfl ?_
  refine ne_callVF (is := [0, 1, 2, 3, 4, 5, 6, 7, 8, 9, 10, 11]) X nw_Tg (me_X1_shareW l hl c q t b k n h x y T hI hT i a o hi ha ho) nw_yX1_share nw_mL_54 nw_iX1_share nw_eX1_share (ci := 3) rfl rfl rfl dL_share_6 rfl rfl (by decide) (by decide) (by first | decide | omega) (by first | decide | omega) (Nat.le_of_ble_eq_true rfl) hcw rfl rfl (Nat.le_of_ble_eq_true rfl) wr_pt ?_ ?_
  rotate_left
  · rintro E9 w9 ⟨rfl, ⟨rfl, g99⟩ | ⟨rfl, g99⟩⟩
    · refine ne_wsT wr_mg ?_
      refine ne_catch (name := "java/lang/IndexOutOfBoundsException") (pre := []) (x := ⟨0, 13, 16, 19⟩) (suf := [⟨0, 13, 20, 21⟩]) X ht (fun z hz => by cases hz) rfl (by decide) nw_qL_19 wr_cI (Nat.le_of_ble_eq_true rfl) hcw rfl ?_
      refine ne_astore X dL_share_16 (by decide) ?_
      refine ne_iconst X dL_share_18 ?_
      refine ne_take 14 ?_
      refine ne_ws (ws' := cW c q t b k n h x y ++ [some (.inr (4, [_, _])), none]) rfl ?_
      exact ne_iret X hr (by first | rfl | decide | rfl) dL_share_19 ⟨_, _, _, _, rfl, cI_mono hI (by omega), _, rfl, Or.inl ⟨rfl, (by omega), rfl, rfl, rfl⟩⟩
    · refine ne_wsT wr_mg ?_
      refine ne_catch (name := "java/lang/IllegalArgumentException") (pre := [⟨0, 13, 16, 19⟩]) (x := ⟨0, 13, 20, 21⟩) (suf := []) X ht (fun z hz => by
        rw [List.mem_singleton] at hz; subst hz
        exact Or.inr ⟨by decide, "java/lang/IndexOutOfBoundsException", nw_qL_19, wr_cb⟩) rfl (by decide) nw_qL_21 wr_cA (Nat.le_of_ble_eq_true rfl) hcw rfl ?_
      refine ne_astore X dL_share_20 (by decide) ?_
      refine ne_iconst X dL_share_22 ?_
      refine ne_take 14 ?_
      refine ne_ws (ws' := cW c q t b k n h x y ++ [some (.inr (4, [_, _])), none]) rfl ?_
      exact ne_iret X hr (by first | rfl | decide | rfl) dL_share_23 ⟨_, _, _, _, rfl, cI_mono hI (by omega), _, rfl, Or.inr (Or.inl ⟨rfl, (by omega), rfl, rfl, rfl⟩)⟩
  rintro v6 w6 ⟨c1, q1, h1, rfl, hI1, L1, rfl, lb, g1, g2⟩
  refine ne_ws wr_mg ?_
  refine ne_i2l (by omega) X dL_share_9 ?_
  refine ne_putfn X dL_share_10 nw_fL_13 nw_p4_0 rfl (fun _ => rfl) (fun _ => rfl) (by first | decide | exact Nat.le_of_ble_eq_true rfl) ?_
  refine ne_ws wr_st ?_
  refine ne_goto (tgt := 24) X dL_share_13 rfl ?_
  refine ne_iconst X dL_share_24 ?_
  exact ne_iret X hr (by first | rfl | decide | rfl) dL_share_25 ⟨_, _, _, _, rfl, hI1, _, rfl, Or.inr (Or.inr ⟨rfl, lb, g1, g2⟩)⟩
set_option maxRecDepth 100000 in
set_option maxHeartbeats 4000000 in
theorem me_L_whole (l : Launch) (hl : l.stackTraces = false) (c q t b k n h x y : Nat → Int) (T : Int) (hI : cI c q t b k n h x y T) (hT : 0 ≤ T ∧ T ≤ 1000) (u : Int) (s : Value) (hs : s = .null ∨ s = .ref 13) (i a o : Int) (hi : -2147483648 ≤ i ∧ i < 2147483648) (ha : -2147483648 ≤ a ∧ a < 2147483648) (ho : -2147483648 ≤ o ∧ o < 2147483648) : ne_M l nw_cl (.codeWith yL_whole cL_whole 6 (some .int) [(0, 13, 16, 19), (0, 13, 20, 21)]) nw_T yL_whole 13 560 230 600 [.ref 0, ni i, ni a, ni o, .ref 12] (cW c q t b k n h x y ++ [some (.inr (4, [nl u, s])), none]) (fun v w => ∃ c1 q1 h1 u1, w = cW c1 q1 t b k n h1 x y ++ [some (.inr (4, [nl u1, s])), none] ∧ cI c1 q1 t b k n h1 x y (T + 1) ∧ ∃ z : Int, v = some (ni z) ∧ ((z = 1 ∧ (i < 0 ∨ 4 ≤ i ∨ o < 0 ∨ 4 ≤ o) ∧ c1 = c ∧ q1 = q ∧ h1 = h) ∨ (z = 2 ∧ ((0 ≤ i ∧ i < 4 ∧ 0 ≤ o ∧ o < 4) ∧ (a < -99 ∨ 99 < a)) ∧ c1 = c ∧ q1 = q ∧ h1 = h) ∨ (z = 0 ∧ (-9 ≤ u1 ∧ u1 ≤ 1) ∧ ((0 ≤ i ∧ i < 4 ∧ 0 ≤ o ∧ o < 4) ∧ -99 ≤ a ∧ a ≤ 99) ∧ ne_Awhole c q h i a o c1 q1 h1 u1))) (fun _ _ => False) := by
  refine ne_meetW (own := RL) hl rfl wr_pl (Nat.le_of_ble_eq_true rfl) ?_
  intro D ct A P9 V9 R9 S9 M9 as9 bl9 mt9 C9 ad0 X hr hin ht
  have hcw : ne_cw 14 (cW c q t b k n h x y ++ [some (.inr (4, [nl u, s])), none]) = true := by rcases hs with rfl | rfl <;> rfl
  refine ne_aload X dL_whole_0 rfl ?_
  refine ne_aload_n X dL_whole_2 rfl ?_
  refine ne_iload_n X dL_whole_3 rfl ?_
  refine ne_iload_n X dL_whole_4 rfl ?_
  refine ne_iload_n X dL_whole_5 rfl ?_
  refine ne_callVF (is := [0, 1, 2, 3, 4, 5, 6, 7, 8, 9, 10, 11]) X nw_Tg (me_X1_wholeW l hl c q t b k n h x y T hI hT i a o hi ha ho) nw_yX1_whole nw_mL_57 nw_iX1_whole nw_eX1_whole (ci := 3) rfl rfl rfl dL_whole_6 rfl rfl (by decide) (by decide) (by first | decide | omega) (by first | decide | omega) (Nat.le_of_ble_eq_true rfl) hcw rfl rfl (Nat.le_of_ble_eq_true rfl) wr_pt ?_ ?_
  rotate_left
  · rintro E9 w9 ⟨rfl, ⟨rfl, g99⟩ | ⟨rfl, g99⟩⟩
    · refine ne_wsT wr_mg ?_
      refine ne_catch (name := "java/lang/IndexOutOfBoundsException") (pre := []) (x := ⟨0, 13, 16, 19⟩) (suf := [⟨0, 13, 20, 21⟩]) X ht (fun z hz => by cases hz) rfl (by decide) nw_qL_19 wr_cI (Nat.le_of_ble_eq_true rfl) hcw rfl ?_
      refine ne_astore X dL_whole_16 (by decide) ?_
      refine ne_iconst X dL_whole_18 ?_
      refine ne_take 14 ?_
      refine ne_ws (ws' := cW c q t b k n h x y ++ [some (.inr (4, [_, _])), none]) rfl ?_
      exact ne_iret X hr (by first | rfl | decide | rfl) dL_whole_19 ⟨_, _, _, _, rfl, cI_mono hI (by omega), _, rfl, Or.inl ⟨rfl, (by omega), rfl, rfl, rfl⟩⟩
    · refine ne_wsT wr_mg ?_
      refine ne_catch (name := "java/lang/IllegalArgumentException") (pre := [⟨0, 13, 16, 19⟩]) (x := ⟨0, 13, 20, 21⟩) (suf := []) X ht (fun z hz => by
        rw [List.mem_singleton] at hz; subst hz
        exact Or.inr ⟨by decide, "java/lang/IndexOutOfBoundsException", nw_qL_19, wr_cb⟩) rfl (by decide) nw_qL_21 wr_cA (Nat.le_of_ble_eq_true rfl) hcw rfl ?_
      refine ne_astore X dL_whole_20 (by decide) ?_
      refine ne_iconst X dL_whole_22 ?_
      refine ne_take 14 ?_
      refine ne_ws (ws' := cW c q t b k n h x y ++ [some (.inr (4, [_, _])), none]) rfl ?_
      exact ne_iret X hr (by first | rfl | decide | rfl) dL_whole_23 ⟨_, _, _, _, rfl, cI_mono hI (by omega), _, rfl, Or.inr (Or.inl ⟨rfl, (by omega), rfl, rfl, rfl⟩)⟩
  rintro v6 w6 ⟨c1, q1, h1, rfl, hI1, L1, rfl, lb, g1, g2⟩
  refine ne_ws wr_mg ?_
  refine ne_i2l (by omega) X dL_whole_9 ?_
  refine ne_putfn X dL_whole_10 nw_fL_13 nw_p4_0 rfl (fun _ => rfl) (fun _ => rfl) (by first | decide | exact Nat.le_of_ble_eq_true rfl) ?_
  refine ne_ws wr_st ?_
  refine ne_goto (tgt := 24) X dL_whole_13 rfl ?_
  refine ne_iconst X dL_whole_24 ?_
  exact ne_iret X hr (by first | rfl | decide | rfl) dL_whole_25 ⟨_, _, _, _, rfl, hI1, _, rfl, Or.inr (Or.inr ⟨rfl, lb, g1, g2⟩)⟩
set_option maxRecDepth 100000 in
set_option maxHeartbeats 4000000 in
theorem me_L_rest (l : Launch) (hl : l.stackTraces = false) (c q t b k n h x y : Nat → Int) (T : Int) (hI : cI c q t b k n h x y T) (hT : 0 ≤ T ∧ T ≤ 1000) (u : Int) (s : Value) (hs : s = .null ∨ s = .ref 13) (i a o : Int) (hi : -2147483648 ≤ i ∧ i < 2147483648) (ha : -2147483648 ≤ a ∧ a < 2147483648) (ho : -2147483648 ≤ o ∧ o < 2147483648) : ne_M l nw_cl (.codeWith yL_rest cL_rest 6 (some .int) [(0, 13, 16, 19), (0, 13, 20, 21)]) nw_T yL_rest 13 560 230 600 [.ref 0, ni i, ni a, ni o, .ref 12] (cW c q t b k n h x y ++ [some (.inr (4, [nl u, s])), none]) (fun v w => ∃ c1 q1 h1 u1, w = cW c1 q1 t b k n h1 x y ++ [some (.inr (4, [nl u1, s])), none] ∧ cI c1 q1 t b k n h1 x y (T + 1) ∧ ∃ z : Int, v = some (ni z) ∧ ((z = 1 ∧ (i < 0 ∨ 4 ≤ i ∨ o < 0 ∨ 4 ≤ o) ∧ c1 = c ∧ q1 = q ∧ h1 = h) ∨ (z = 2 ∧ ((0 ≤ i ∧ i < 4 ∧ 0 ≤ o ∧ o < 4) ∧ (a < -99 ∨ 99 < a)) ∧ c1 = c ∧ q1 = q ∧ h1 = h) ∨ (z = 0 ∧ (-9 ≤ u1 ∧ u1 ≤ 1) ∧ ((0 ≤ i ∧ i < 4 ∧ 0 ≤ o ∧ o < 4) ∧ -99 ≤ a ∧ a ≤ 99) ∧ ne_Arest c q h i a o c1 q1 h1 u1))) (fun _ _ => False) := by
  refine ne_meetW (own := RL) hl rfl wr_pl (Nat.le_of_ble_eq_true rfl) ?_
  intro D ct A P9 V9 R9 S9 M9 as9 bl9 mt9 C9 ad0 X hr hin ht
  have hcw : ne_cw 14 (cW c q t b k n h x y ++ [some (.inr (4, [nl u, s])), none]) = true := by rcases hs with rfl | rfl <;> rfl
  refine ne_aload X dL_rest_0 rfl ?_
  refine ne_aload_n X dL_rest_2 rfl ?_
  refine ne_iload_n X dL_rest_3 rfl ?_
  refine ne_iload_n X dL_rest_4 rfl ?_
  refine ne_iload_n X dL_rest_5 rfl ?_
  refine ne_callVF (is := [0, 1, 2, 3, 4, 5, 6, 7, 8, 9, 10, 11]) X nw_Tg (me_X1_restW l hl c q t b k n h x y T hI hT i a o hi ha ho) nw_yX1_rest nw_mL_60 nw_iX1_rest nw_eX1_rest (ci := 3) rfl rfl rfl dL_rest_6 rfl rfl (by decide) (by decide) (by first | decide | omega) (by first | decide | omega) (Nat.le_of_ble_eq_true rfl) hcw rfl rfl (Nat.le_of_ble_eq_true rfl) wr_pt ?_ ?_
  rotate_left
  · rintro E9 w9 ⟨rfl, ⟨rfl, g99⟩ | ⟨rfl, g99⟩⟩
    · refine ne_wsT wr_mg ?_
      refine ne_catch (name := "java/lang/IndexOutOfBoundsException") (pre := []) (x := ⟨0, 13, 16, 19⟩) (suf := [⟨0, 13, 20, 21⟩]) X ht (fun z hz => by cases hz) rfl (by decide) nw_qL_19 wr_cI (Nat.le_of_ble_eq_true rfl) hcw rfl ?_
      refine ne_astore X dL_rest_16 (by decide) ?_
      refine ne_iconst X dL_rest_18 ?_
      refine ne_take 14 ?_
      refine ne_ws (ws' := cW c q t b k n h x y ++ [some (.inr (4, [_, _])), none]) rfl ?_
      exact ne_iret X hr (by first | rfl | decide | rfl) dL_rest_19 ⟨_, _, _, _, rfl, cI_mono hI (by omega), _, rfl, Or.inl ⟨rfl, (by omega), rfl, rfl, rfl⟩⟩
    · refine ne_wsT wr_mg ?_
      refine ne_catch (name := "java/lang/IllegalArgumentException") (pre := [⟨0, 13, 16, 19⟩]) (x := ⟨0, 13, 20, 21⟩) (suf := []) X ht (fun z hz => by
        rw [List.mem_singleton] at hz; subst hz
        exact Or.inr ⟨by decide, "java/lang/IndexOutOfBoundsException", nw_qL_19, wr_cb⟩) rfl (by decide) nw_qL_21 wr_cA (Nat.le_of_ble_eq_true rfl) hcw rfl ?_
      refine ne_astore X dL_rest_20 (by decide) ?_
      refine ne_iconst X dL_rest_22 ?_
      refine ne_take 14 ?_
      refine ne_ws (ws' := cW c q t b k n h x y ++ [some (.inr (4, [_, _])), none]) rfl ?_
      exact ne_iret X hr (by first | rfl | decide | rfl) dL_rest_23 ⟨_, _, _, _, rfl, cI_mono hI (by omega), _, rfl, Or.inr (Or.inl ⟨rfl, (by omega), rfl, rfl, rfl⟩)⟩
  rintro v6 w6 ⟨c1, q1, h1, rfl, hI1, L1, rfl, lb, g1, g2⟩
  refine ne_ws wr_mg ?_
  refine ne_i2l (by omega) X dL_rest_9 ?_
  refine ne_putfn X dL_rest_10 nw_fL_13 nw_p4_0 rfl (fun _ => rfl) (fun _ => rfl) (by first | decide | exact Nat.le_of_ble_eq_true rfl) ?_
  refine ne_ws wr_st ?_
  refine ne_goto (tgt := 24) X dL_rest_13 rfl ?_
  refine ne_iconst X dL_rest_24 ?_
  exact ne_iret X hr (by first | rfl | decide | rfl) dL_rest_25 ⟨_, _, _, _, rfl, hI1, _, rfl, Or.inr (Or.inr ⟨rfl, lb, g1, g2⟩)⟩
set_option maxRecDepth 100000 in
set_option maxHeartbeats 4000000 in
theorem me_L_setPlaces (l : Launch) (hl : l.stackTraces = false) (c q t b k n h x y : Nat → Int) (T : Int) (hI : cI c q t b k n h x y T) (hT : 0 ≤ T ∧ T ≤ 1000) (u : Int) (s : Value) (hs : s = .null ∨ s = .ref 13) (i p w0 : Int) (hi : -2147483648 ≤ i ∧ i < 2147483648) (hp : -2147483648 ≤ p ∧ p < 2147483648) (hw0 : -2147483648 ≤ w0 ∧ w0 < 2147483648) : ne_M l nw_cl (.codeWith yL_setPlaces cL_setPlaces 6 (some .int) [(0, 13, 16, 19), (0, 13, 20, 21)]) nw_T yL_setPlaces 13 560 230 600 [.ref 0, ni i, ni p, ni w0, .ref 12] (cW c q t b k n h x y ++ [some (.inr (4, [nl u, s])), none]) (fun v w => ∃ c1 q1 h1 u1, w = cW c1 q1 t b k n h1 x y ++ [some (.inr (4, [nl u1, s])), none] ∧ cI c1 q1 t b k n h1 x y (T + 1) ∧ ∃ z : Int, v = some (ni z) ∧ ((z = 1 ∧ (i < 0 ∨ 4 ≤ i) ∧ c1 = c ∧ q1 = q ∧ h1 = h) ∨ (z = 2 ∧ ((0 ≤ i ∧ i < 4) ∧ (p < 0 ∨ 3 < p ∨ w0 < 0 ∨ 7 < w0)) ∧ c1 = c ∧ q1 = q ∧ h1 = h) ∨ (z = 0 ∧ (-9 ≤ u1 ∧ u1 ≤ 1) ∧ ((0 ≤ i ∧ i < 4) ∧ 0 ≤ p ∧ p ≤ 3 ∧ 0 ≤ w0 ∧ w0 ≤ 7) ∧ ne_rcome c q h i w0 p (c i.toNat * 10 ^ p.toNat) (10 ^ (q i.toNat).toNat) c1 q1 h1 u1))) (fun _ _ => False) := by
  refine ne_meetW (own := RL) hl rfl wr_pl (Nat.le_of_ble_eq_true rfl) ?_
  intro D ct A P9 V9 R9 S9 M9 as9 bl9 mt9 C9 ad0 X hr hin ht
  have hcw : ne_cw 14 (cW c q t b k n h x y ++ [some (.inr (4, [nl u, s])), none]) = true := by rcases hs with rfl | rfl <;> rfl
  refine ne_aload X dL_setPlaces_0 rfl ?_
  refine ne_aload_n X dL_setPlaces_2 rfl ?_
  refine ne_iload_n X dL_setPlaces_3 rfl ?_
  refine ne_iload_n X dL_setPlaces_4 rfl ?_
  refine ne_iload_n X dL_setPlaces_5 rfl ?_
  refine ne_callVF (is := [0, 1, 2, 3, 4, 5, 6, 7, 8, 9, 10, 11]) X nw_Tg (me_X1_setPlacesW l hl c q t b k n h x y T hI hT i p w0 hi hp hw0) nw_yX1_setPlaces nw_mL_63 nw_iX1_setPlaces nw_eX1_setPlaces (ci := 3) rfl rfl rfl dL_setPlaces_6 rfl rfl (by decide) (by decide) (by first | decide | omega) (by first | decide | omega) (Nat.le_of_ble_eq_true rfl) hcw rfl rfl (Nat.le_of_ble_eq_true rfl) wr_pt ?_ ?_
  rotate_left
  · rintro E9 w9 ⟨rfl, ⟨rfl, g99⟩ | ⟨rfl, g99⟩⟩
    · refine ne_wsT wr_mg ?_
      refine ne_catch (name := "java/lang/IndexOutOfBoundsException") (pre := []) (x := ⟨0, 13, 16, 19⟩) (suf := [⟨0, 13, 20, 21⟩]) X ht (fun z hz => by cases hz) rfl (by decide) nw_qL_19 wr_cI (Nat.le_of_ble_eq_true rfl) hcw rfl ?_
      refine ne_astore X dL_setPlaces_16 (by decide) ?_
      refine ne_iconst X dL_setPlaces_18 ?_
      refine ne_take 14 ?_
      refine ne_ws (ws' := cW c q t b k n h x y ++ [some (.inr (4, [_, _])), none]) rfl ?_
      exact ne_iret X hr (by first | rfl | decide | rfl) dL_setPlaces_19 ⟨_, _, _, _, rfl, cI_mono hI (by omega), _, rfl, Or.inl ⟨rfl, (by omega), rfl, rfl, rfl⟩⟩
    · refine ne_wsT wr_mg ?_
      refine ne_catch (name := "java/lang/IllegalArgumentException") (pre := [⟨0, 13, 16, 19⟩]) (x := ⟨0, 13, 20, 21⟩) (suf := []) X ht (fun z hz => by
        rw [List.mem_singleton] at hz; subst hz
        exact Or.inr ⟨by decide, "java/lang/IndexOutOfBoundsException", nw_qL_19, wr_cb⟩) rfl (by decide) nw_qL_21 wr_cA (Nat.le_of_ble_eq_true rfl) hcw rfl ?_
      refine ne_astore X dL_setPlaces_20 (by decide) ?_
      refine ne_iconst X dL_setPlaces_22 ?_
      refine ne_take 14 ?_
      refine ne_ws (ws' := cW c q t b k n h x y ++ [some (.inr (4, [_, _])), none]) rfl ?_
      exact ne_iret X hr (by first | rfl | decide | rfl) dL_setPlaces_23 ⟨_, _, _, _, rfl, cI_mono hI (by omega), _, rfl, Or.inr (Or.inl ⟨rfl, (by omega), rfl, rfl, rfl⟩)⟩
  rintro v6 w6 ⟨c1, q1, h1, rfl, hI1, L1, rfl, lb, g1, g2⟩
  refine ne_ws wr_mg ?_
  refine ne_i2l (by omega) X dL_setPlaces_9 ?_
  refine ne_putfn X dL_setPlaces_10 nw_fL_13 nw_p4_0 rfl (fun _ => rfl) (fun _ => rfl) (by first | decide | exact Nat.le_of_ble_eq_true rfl) ?_
  refine ne_ws wr_st ?_
  refine ne_goto (tgt := 24) X dL_setPlaces_13 rfl ?_
  refine ne_iconst X dL_setPlaces_24 ?_
  exact ne_iret X hr (by first | rfl | decide | rfl) dL_setPlaces_25 ⟨_, _, _, _, rfl, hI1, _, rfl, Or.inr (Or.inr ⟨rfl, lb, g1, g2⟩)⟩
set_option maxRecDepth 100000 in
set_option maxHeartbeats 4000000 in
theorem me_L_strip (l : Launch) (hl : l.stackTraces = false) (c q t b k n h x y : Nat → Int) (T : Int) (hI : cI c q t b k n h x y T) (hT : 0 ≤ T ∧ T ≤ 1000) (u : Int) (s : Value) (hs : s = .null ∨ s = .ref 13) (i : Int) (hi : -2147483648 ≤ i ∧ i < 2147483648) : ne_M l nw_cl (.codeWith yL_strip cL_strip 4 (some .int) [(0, 10, 13, 19)]) nw_T yL_strip 13 560 230 600 [.ref 0, ni i, .ref 12] (cW c q t b k n h x y ++ [some (.inr (4, [nl u, s])), none]) (fun v w => ∃ c1 q1 h1 u1, w = cW c1 q1 t b k n h1 x y ++ [some (.inr (4, [nl u1, s])), none] ∧ cI c1 q1 t b k n h1 x y (T + 1) ∧ ∃ z : Int, v = some (ni z) ∧ ((z = 1 ∧ (i < 0 ∨ 4 ≤ i) ∧ c1 = c ∧ q1 = q ∧ h1 = h) ∨ (z = 2 ∧ False ∧ c1 = c ∧ q1 = q ∧ h1 = h) ∨ (z = 0 ∧ (-9 ≤ u1 ∧ u1 ≤ 1) ∧ (0 ≤ i ∧ i < 4) ∧ ne_Astrip c q h i c1 q1 h1 u1))) (fun _ _ => False) := by
  refine ne_meetW (own := RL) hl rfl wr_pl (Nat.le_of_ble_eq_true rfl) ?_
  intro D ct A P9 V9 R9 S9 M9 as9 bl9 mt9 C9 ad0 X hr hin ht
  have hcw : ne_cw 14 (cW c q t b k n h x y ++ [some (.inr (4, [nl u, s])), none]) = true := by rcases hs with rfl | rfl <;> rfl
  refine ne_aload_n X dL_strip_0 rfl ?_
  refine ne_aload_n X dL_strip_1 rfl ?_
  refine ne_iload_n X dL_strip_2 rfl ?_
  refine ne_callVF (is := [0, 1, 2, 3, 4, 5, 6, 7, 8, 9, 10, 11]) X nw_Tg (me_X1_stripW l hl c q t b k n h x y T hI hT i hi) nw_yX1_strip nw_mL_66 nw_iX1_strip nw_eX1_strip (ci := 3) rfl rfl rfl dL_strip_3 rfl rfl (by decide) (by decide) (by first | decide | omega) (by first | decide | omega) (Nat.le_of_ble_eq_true rfl) hcw rfl rfl (Nat.le_of_ble_eq_true rfl) wr_pt ?_ ?_
  rotate_left
  · rintro E9 w9 ⟨rfl, ⟨rfl, g99⟩ | ⟨rfl, g99⟩⟩
    rotate_left
    · exact g99.elim
    refine ne_wsT wr_mg ?_
    refine ne_catch (name := "java/lang/IndexOutOfBoundsException") (pre := []) (x := ⟨0, 10, 13, 19⟩) (suf := []) X ht (fun z hz => by cases hz) rfl (by decide) nw_qL_19 wr_cI (Nat.le_of_ble_eq_true rfl) hcw rfl ?_
    refine ne_astore_n X dL_strip_13 rfl (by decide) ?_
    refine ne_iconst X dL_strip_14 ?_
    refine ne_take 14 ?_
    refine ne_ws (ws' := cW c q t b k n h x y ++ [some (.inr (4, [_, _])), none]) rfl ?_
    exact ne_iret X hr (by first | rfl | decide | rfl) dL_strip_15 ⟨_, _, _, _, rfl, cI_mono hI (by omega), _, rfl, Or.inl ⟨rfl, (by omega), rfl, rfl, rfl⟩⟩
  rintro v3 w3 ⟨c1, q1, h1, rfl, hI1, L1, rfl, lb, g1, g2⟩
  refine ne_ws wr_mg ?_
  refine ne_i2l (by omega) X dL_strip_6 ?_
  refine ne_putfn X dL_strip_7 nw_fL_13 nw_p4_0 rfl (fun _ => rfl) (fun _ => rfl) (by first | decide | exact Nat.le_of_ble_eq_true rfl) ?_
  refine ne_ws wr_st ?_
  refine ne_goto (tgt := 16) X dL_strip_10 rfl ?_
  refine ne_iconst X dL_strip_16 ?_
  exact ne_iret X hr (by first | rfl | decide | rfl) dL_strip_17 ⟨_, _, _, _, rfl, hI1, _, rfl, Or.inr (Or.inr ⟨rfl, lb, g1, g2⟩)⟩
set_option maxRecDepth 100000 in
set_option maxHeartbeats 4000000 in
theorem me_L_move (l : Launch) (hl : l.stackTraces = false) (c q t b k n h x y : Nat → Int) (T : Int) (hI : cI c q t b k n h x y T) (hT : 0 ≤ T ∧ T ≤ 1000) (u : Int) (s : Value) (hs : s = .null ∨ s = .ref 13) (i a : Int) (hi : -2147483648 ≤ i ∧ i < 2147483648) (ha : -2147483648 ≤ a ∧ a < 2147483648) : ne_M l nw_cl (.codeWith yL_move cL_move 5 (some .int) [(0, 11, 14, 19), (0, 11, 18, 21)]) nw_T yL_move 13 560 230 600 [.ref 0, ni i, ni a, .ref 12] (cW c q t b k n h x y ++ [some (.inr (4, [nl u, s])), none]) (fun v w => ∃ c1 q1 h1 u1, w = cW c1 q1 t b k n h1 x y ++ [some (.inr (4, [nl u1, s])), none] ∧ cI c1 q1 t b k n h1 x y (T + 1) ∧ ∃ z : Int, v = some (ni z) ∧ ((z = 1 ∧ (i < 0 ∨ 4 ≤ i) ∧ c1 = c ∧ q1 = q ∧ h1 = h) ∨ (z = 2 ∧ ((0 ≤ i ∧ i < 4) ∧ (a < -3 ∨ 3 < a)) ∧ c1 = c ∧ q1 = q ∧ h1 = h) ∨ (z = 0 ∧ (-9 ≤ u1 ∧ u1 ≤ 1) ∧ ((0 ≤ i ∧ i < 4) ∧ -3 ≤ a ∧ a ≤ 3) ∧ ne_cat c q h i (c i.toNat) (q i.toNat + a) c1 q1 h1 u1))) (fun _ _ => False) := by
  refine ne_meetW (own := RL) hl rfl wr_pl (Nat.le_of_ble_eq_true rfl) ?_
  intro D ct A P9 V9 R9 S9 M9 as9 bl9 mt9 C9 ad0 X hr hin ht
  have hcw : ne_cw 14 (cW c q t b k n h x y ++ [some (.inr (4, [nl u, s])), none]) = true := by rcases hs with rfl | rfl <;> rfl
  refine ne_aload_n X dL_move_0 rfl ?_
  refine ne_aload_n X dL_move_1 rfl ?_
  refine ne_iload_n X dL_move_2 rfl ?_
  refine ne_iload_n X dL_move_3 rfl ?_
  refine ne_callVF (is := [0, 1, 2, 3, 4, 5, 6, 7, 8, 9, 10, 11]) X nw_Tg (me_X1_moveW l hl c q t b k n h x y T hI hT i a hi ha) nw_yX1_move nw_mL_69 nw_iX1_move nw_eX1_move (ci := 3) rfl rfl rfl dL_move_4 rfl rfl (by decide) (by decide) (by first | decide | omega) (by first | decide | omega) (Nat.le_of_ble_eq_true rfl) hcw rfl rfl (Nat.le_of_ble_eq_true rfl) wr_pt ?_ ?_
  rotate_left
  · rintro E9 w9 ⟨rfl, ⟨rfl, g99⟩ | ⟨rfl, g99⟩⟩
    · refine ne_wsT wr_mg ?_
      refine ne_catch (name := "java/lang/IndexOutOfBoundsException") (pre := []) (x := ⟨0, 11, 14, 19⟩) (suf := [⟨0, 11, 18, 21⟩]) X ht (fun z hz => by cases hz) rfl (by decide) nw_qL_19 wr_cI (Nat.le_of_ble_eq_true rfl) hcw rfl ?_
      refine ne_astore X dL_move_14 (by decide) ?_
      refine ne_iconst X dL_move_16 ?_
      refine ne_take 14 ?_
      refine ne_ws (ws' := cW c q t b k n h x y ++ [some (.inr (4, [_, _])), none]) rfl ?_
      exact ne_iret X hr (by first | rfl | decide | rfl) dL_move_17 ⟨_, _, _, _, rfl, cI_mono hI (by omega), _, rfl, Or.inl ⟨rfl, (by omega), rfl, rfl, rfl⟩⟩
    · refine ne_wsT wr_mg ?_
      refine ne_catch (name := "java/lang/IllegalArgumentException") (pre := [⟨0, 11, 14, 19⟩]) (x := ⟨0, 11, 18, 21⟩) (suf := []) X ht (fun z hz => by
        rw [List.mem_singleton] at hz; subst hz
        exact Or.inr ⟨by decide, "java/lang/IndexOutOfBoundsException", nw_qL_19, wr_cb⟩) rfl (by decide) nw_qL_21 wr_cA (Nat.le_of_ble_eq_true rfl) hcw rfl ?_
      refine ne_astore X dL_move_18 (by decide) ?_
      refine ne_iconst X dL_move_20 ?_
      refine ne_take 14 ?_
      refine ne_ws (ws' := cW c q t b k n h x y ++ [some (.inr (4, [_, _])), none]) rfl ?_
      exact ne_iret X hr (by first | rfl | decide | rfl) dL_move_21 ⟨_, _, _, _, rfl, cI_mono hI (by omega), _, rfl, Or.inr (Or.inl ⟨rfl, (by omega), rfl, rfl, rfl⟩)⟩
  rintro v4 w4 ⟨c1, q1, h1, rfl, hI1, L1, rfl, lb, g1, g2⟩
  refine ne_ws wr_mg ?_
  refine ne_i2l (by omega) X dL_move_7 ?_
  refine ne_putfn X dL_move_8 nw_fL_13 nw_p4_0 rfl (fun _ => rfl) (fun _ => rfl) (by first | decide | exact Nat.le_of_ble_eq_true rfl) ?_
  refine ne_ws wr_st ?_
  refine ne_goto (tgt := 22) X dL_move_11 rfl ?_
  refine ne_iconst X dL_move_22 ?_
  exact ne_iret X hr (by first | rfl | decide | rfl) dL_move_23 ⟨_, _, _, _, rfl, hI1, _, rfl, Or.inr (Or.inr ⟨rfl, lb, g1, g2⟩)⟩
set_option maxRecDepth 100000 in
set_option maxHeartbeats 4000000 in
theorem me_L_round (l : Launch) (hl : l.stackTraces = false) (c q t b k n h x y : Nat → Int) (T : Int) (hI : cI c q t b k n h x y T) (hT : 0 ≤ T ∧ T ≤ 1000) (u : Int) (s : Value) (hs : s = .null ∨ s = .ref 13) (i a w0 : Int) (hi : -2147483648 ≤ i ∧ i < 2147483648) (ha : -2147483648 ≤ a ∧ a < 2147483648) (hw0 : -2147483648 ≤ w0 ∧ w0 < 2147483648) : ne_M l nw_cl (.codeWith yL_round cL_round 6 (some .int) [(0, 13, 16, 19), (0, 13, 20, 21)]) nw_T yL_round 13 560 230 600 [.ref 0, ni i, ni a, ni w0, .ref 12] (cW c q t b k n h x y ++ [some (.inr (4, [nl u, s])), none]) (fun v w => ∃ c1 q1 h1 u1, w = cW c1 q1 t b k n h1 x y ++ [some (.inr (4, [nl u1, s])), none] ∧ cI c1 q1 t b k n h1 x y (T + 1) ∧ ∃ z : Int, v = some (ni z) ∧ ((z = 1 ∧ (i < 0 ∨ 4 ≤ i) ∧ c1 = c ∧ q1 = q ∧ h1 = h) ∨ (z = 2 ∧ ((0 ≤ i ∧ i < 4) ∧ (a < 1 ∨ 6 < a ∨ w0 < 0 ∨ 7 < w0)) ∧ c1 = c ∧ q1 = q ∧ h1 = h) ∨ (z = 0 ∧ (-9 ≤ u1 ∧ u1 ≤ 1) ∧ ((0 ≤ i ∧ i < 4) ∧ 1 ≤ a ∧ a ≤ 6 ∧ 0 ≤ w0 ∧ w0 ≤ 7) ∧ ne_Around c q h i a w0 c1 q1 h1 u1))) (fun _ _ => False) := by
  refine ne_meetW (own := RL) hl rfl wr_pl (Nat.le_of_ble_eq_true rfl) ?_
  intro D ct A P9 V9 R9 S9 M9 as9 bl9 mt9 C9 ad0 X hr hin ht
  have hcw : ne_cw 14 (cW c q t b k n h x y ++ [some (.inr (4, [nl u, s])), none]) = true := by rcases hs with rfl | rfl <;> rfl
  refine ne_aload X dL_round_0 rfl ?_
  refine ne_aload_n X dL_round_2 rfl ?_
  refine ne_iload_n X dL_round_3 rfl ?_
  refine ne_iload_n X dL_round_4 rfl ?_
  refine ne_iload_n X dL_round_5 rfl ?_
  refine ne_callVF (is := [0, 1, 2, 3, 4, 5, 6, 7, 8, 9, 10, 11]) X nw_Tg (me_X1_roundW l hl c q t b k n h x y T hI hT i a w0 hi ha hw0) nw_yX1_round nw_mL_72 nw_iX1_round nw_eX1_round (ci := 3) rfl rfl rfl dL_round_6 rfl rfl (by decide) (by decide) (by first | decide | omega) (by first | decide | omega) (Nat.le_of_ble_eq_true rfl) hcw rfl rfl (Nat.le_of_ble_eq_true rfl) wr_pt ?_ ?_
  rotate_left
  · rintro E9 w9 ⟨rfl, ⟨rfl, g99⟩ | ⟨rfl, g99⟩⟩
    · refine ne_wsT wr_mg ?_
      refine ne_catch (name := "java/lang/IndexOutOfBoundsException") (pre := []) (x := ⟨0, 13, 16, 19⟩) (suf := [⟨0, 13, 20, 21⟩]) X ht (fun z hz => by cases hz) rfl (by decide) nw_qL_19 wr_cI (Nat.le_of_ble_eq_true rfl) hcw rfl ?_
      refine ne_astore X dL_round_16 (by decide) ?_
      refine ne_iconst X dL_round_18 ?_
      refine ne_take 14 ?_
      refine ne_ws (ws' := cW c q t b k n h x y ++ [some (.inr (4, [_, _])), none]) rfl ?_
      exact ne_iret X hr (by first | rfl | decide | rfl) dL_round_19 ⟨_, _, _, _, rfl, cI_mono hI (by omega), _, rfl, Or.inl ⟨rfl, (by omega), rfl, rfl, rfl⟩⟩
    · refine ne_wsT wr_mg ?_
      refine ne_catch (name := "java/lang/IllegalArgumentException") (pre := [⟨0, 13, 16, 19⟩]) (x := ⟨0, 13, 20, 21⟩) (suf := []) X ht (fun z hz => by
        rw [List.mem_singleton] at hz; subst hz
        exact Or.inr ⟨by decide, "java/lang/IndexOutOfBoundsException", nw_qL_19, wr_cb⟩) rfl (by decide) nw_qL_21 wr_cA (Nat.le_of_ble_eq_true rfl) hcw rfl ?_
      refine ne_astore X dL_round_20 (by decide) ?_
      refine ne_iconst X dL_round_22 ?_
      refine ne_take 14 ?_
      refine ne_ws (ws' := cW c q t b k n h x y ++ [some (.inr (4, [_, _])), none]) rfl ?_
      exact ne_iret X hr (by first | rfl | decide | rfl) dL_round_23 ⟨_, _, _, _, rfl, cI_mono hI (by omega), _, rfl, Or.inr (Or.inl ⟨rfl, (by omega), rfl, rfl, rfl⟩)⟩
  rintro v6 w6 ⟨c1, q1, h1, rfl, hI1, L1, rfl, lb, g1, g2⟩
  refine ne_ws wr_mg ?_
  refine ne_i2l (by omega) X dL_round_9 ?_
  refine ne_putfn X dL_round_10 nw_fL_13 nw_p4_0 rfl (fun _ => rfl) (fun _ => rfl) (by first | decide | exact Nat.le_of_ble_eq_true rfl) ?_
  refine ne_ws wr_st ?_
  refine ne_goto (tgt := 24) X dL_round_13 rfl ?_
  refine ne_iconst X dL_round_24 ?_
  exact ne_iret X hr (by first | rfl | decide | rfl) dL_round_25 ⟨_, _, _, _, rfl, hI1, _, rfl, Or.inr (Or.inr ⟨rfl, lb, g1, g2⟩)⟩
set_option maxRecDepth 100000 in
set_option maxHeartbeats 4000000 in
theorem me_L_greater (l : Launch) (hl : l.stackTraces = false) (c q t b k n h x y : Nat → Int) (T : Int) (hI : cI c q t b k n h x y T) (hT : 0 ≤ T ∧ T ≤ 1000) (u : Int) (s : Value) (hs : s = .null ∨ s = .ref 13) (i j o : Int) (hi : -2147483648 ≤ i ∧ i < 2147483648) (hj : -2147483648 ≤ j ∧ j < 2147483648) (ho : -2147483648 ≤ o ∧ o < 2147483648) : ne_M l nw_cl (.codeWith yL_greater cL_greater 6 (some .int) [(0, 13, 16, 19)]) nw_T yL_greater 13 560 230 600 [.ref 0, ni i, ni j, ni o, .ref 12] (cW c q t b k n h x y ++ [some (.inr (4, [nl u, s])), none]) (fun v w => ∃ c1 q1 h1 u1, w = cW c1 q1 t b k n h1 x y ++ [some (.inr (4, [nl u1, s])), none] ∧ cI c1 q1 t b k n h1 x y (T + 1) ∧ ∃ z : Int, v = some (ni z) ∧ ((z = 1 ∧ (i < 0 ∨ 4 ≤ i ∨ j < 0 ∨ 4 ≤ j ∨ o < 0 ∨ 4 ≤ o) ∧ c1 = c ∧ q1 = q ∧ h1 = h) ∨ (z = 2 ∧ False ∧ c1 = c ∧ q1 = q ∧ h1 = h) ∨ (z = 0 ∧ (-9 ≤ u1 ∧ u1 ≤ 1) ∧ (0 ≤ i ∧ i < 4 ∧ 0 ≤ j ∧ j < 4 ∧ 0 ≤ o ∧ o < 4) ∧ ne_Agt c q h i j o c1 q1 h1 u1))) (fun _ _ => False) := by
  refine ne_meetW (own := RL) hl rfl wr_pl (Nat.le_of_ble_eq_true rfl) ?_
  intro D ct A P9 V9 R9 S9 M9 as9 bl9 mt9 C9 ad0 X hr hin ht
  have hcw : ne_cw 14 (cW c q t b k n h x y ++ [some (.inr (4, [nl u, s])), none]) = true := by rcases hs with rfl | rfl <;> rfl
  refine ne_aload X dL_greater_0 rfl ?_
  refine ne_aload_n X dL_greater_2 rfl ?_
  refine ne_iload_n X dL_greater_3 rfl ?_
  refine ne_iload_n X dL_greater_4 rfl ?_
  refine ne_iload_n X dL_greater_5 rfl ?_
  refine ne_callVF (is := [0, 1, 2, 3, 4, 5, 6, 7, 8, 9, 10, 11]) X nw_Tg (me_X1_greaterW l hl c q t b k n h x y T hI hT i j o hi hj ho) nw_yX1_greater nw_mL_75 nw_iX1_greater nw_eX1_greater (ci := 3) rfl rfl rfl dL_greater_6 rfl rfl (by decide) (by decide) (by first | decide | omega) (by first | decide | omega) (Nat.le_of_ble_eq_true rfl) hcw rfl rfl (Nat.le_of_ble_eq_true rfl) wr_pt ?_ ?_
  rotate_left
  · rintro E9 w9 ⟨rfl, ⟨rfl, g99⟩ | ⟨rfl, g99⟩⟩
    rotate_left
    · exact g99.elim
    refine ne_wsT wr_mg ?_
    refine ne_catch (name := "java/lang/IndexOutOfBoundsException") (pre := []) (x := ⟨0, 13, 16, 19⟩) (suf := []) X ht (fun z hz => by cases hz) rfl (by decide) nw_qL_19 wr_cI (Nat.le_of_ble_eq_true rfl) hcw rfl ?_
    refine ne_astore X dL_greater_16 (by decide) ?_
    refine ne_iconst X dL_greater_18 ?_
    refine ne_take 14 ?_
    refine ne_ws (ws' := cW c q t b k n h x y ++ [some (.inr (4, [_, _])), none]) rfl ?_
    exact ne_iret X hr (by first | rfl | decide | rfl) dL_greater_19 ⟨_, _, _, _, rfl, cI_mono hI (by omega), _, rfl, Or.inl ⟨rfl, (by omega), rfl, rfl, rfl⟩⟩
  rintro v6 w6 ⟨c1, q1, h1, rfl, hI1, L1, rfl, lb, g1, g2⟩
  refine ne_ws wr_mg ?_
  refine ne_i2l (by omega) X dL_greater_9 ?_
  refine ne_putfn X dL_greater_10 nw_fL_13 nw_p4_0 rfl (fun _ => rfl) (fun _ => rfl) (by first | decide | exact Nat.le_of_ble_eq_true rfl) ?_
  refine ne_ws wr_st ?_
  refine ne_goto (tgt := 20) X dL_greater_13 rfl ?_
  refine ne_iconst X dL_greater_20 ?_
  exact ne_iret X hr (by first | rfl | decide | rfl) dL_greater_21 ⟨_, _, _, _, rfl, hI1, _, rfl, Or.inr (Or.inr ⟨rfl, lb, g1, g2⟩)⟩
set_option maxRecDepth 100000 in
set_option maxHeartbeats 4000000 in
theorem me_L_lesser (l : Launch) (hl : l.stackTraces = false) (c q t b k n h x y : Nat → Int) (T : Int) (hI : cI c q t b k n h x y T) (hT : 0 ≤ T ∧ T ≤ 1000) (u : Int) (s : Value) (hs : s = .null ∨ s = .ref 13) (i j o : Int) (hi : -2147483648 ≤ i ∧ i < 2147483648) (hj : -2147483648 ≤ j ∧ j < 2147483648) (ho : -2147483648 ≤ o ∧ o < 2147483648) : ne_M l nw_cl (.codeWith yL_lesser cL_lesser 6 (some .int) [(0, 13, 16, 19)]) nw_T yL_lesser 13 560 230 600 [.ref 0, ni i, ni j, ni o, .ref 12] (cW c q t b k n h x y ++ [some (.inr (4, [nl u, s])), none]) (fun v w => ∃ c1 q1 h1 u1, w = cW c1 q1 t b k n h1 x y ++ [some (.inr (4, [nl u1, s])), none] ∧ cI c1 q1 t b k n h1 x y (T + 1) ∧ ∃ z : Int, v = some (ni z) ∧ ((z = 1 ∧ (i < 0 ∨ 4 ≤ i ∨ j < 0 ∨ 4 ≤ j ∨ o < 0 ∨ 4 ≤ o) ∧ c1 = c ∧ q1 = q ∧ h1 = h) ∨ (z = 2 ∧ False ∧ c1 = c ∧ q1 = q ∧ h1 = h) ∨ (z = 0 ∧ (-9 ≤ u1 ∧ u1 ≤ 1) ∧ (0 ≤ i ∧ i < 4 ∧ 0 ≤ j ∧ j < 4 ∧ 0 ≤ o ∧ o < 4) ∧ ne_Als c q h i j o c1 q1 h1 u1))) (fun _ _ => False) := by
  refine ne_meetW (own := RL) hl rfl wr_pl (Nat.le_of_ble_eq_true rfl) ?_
  intro D ct A P9 V9 R9 S9 M9 as9 bl9 mt9 C9 ad0 X hr hin ht
  have hcw : ne_cw 14 (cW c q t b k n h x y ++ [some (.inr (4, [nl u, s])), none]) = true := by rcases hs with rfl | rfl <;> rfl
  refine ne_aload X dL_lesser_0 rfl ?_
  refine ne_aload_n X dL_lesser_2 rfl ?_
  refine ne_iload_n X dL_lesser_3 rfl ?_
  refine ne_iload_n X dL_lesser_4 rfl ?_
  refine ne_iload_n X dL_lesser_5 rfl ?_
  refine ne_callVF (is := [0, 1, 2, 3, 4, 5, 6, 7, 8, 9, 10, 11]) X nw_Tg (me_X1_lesserW l hl c q t b k n h x y T hI hT i j o hi hj ho) nw_yX1_lesser nw_mL_78 nw_iX1_lesser nw_eX1_lesser (ci := 3) rfl rfl rfl dL_lesser_6 rfl rfl (by decide) (by decide) (by first | decide | omega) (by first | decide | omega) (Nat.le_of_ble_eq_true rfl) hcw rfl rfl (Nat.le_of_ble_eq_true rfl) wr_pt ?_ ?_
  rotate_left
  · rintro E9 w9 ⟨rfl, ⟨rfl, g99⟩ | ⟨rfl, g99⟩⟩
    rotate_left
    · exact g99.elim
    refine ne_wsT wr_mg ?_
    refine ne_catch (name := "java/lang/IndexOutOfBoundsException") (pre := []) (x := ⟨0, 13, 16, 19⟩) (suf := []) X ht (fun z hz => by cases hz) rfl (by decide) nw_qL_19 wr_cI (Nat.le_of_ble_eq_true rfl) hcw rfl ?_
    refine ne_astore X dL_lesser_16 (by decide) ?_
    refine ne_iconst X dL_lesser_18 ?_
    refine ne_take 14 ?_
    refine ne_ws (ws' := cW c q t b k n h x y ++ [some (.inr (4, [_, _])), none]) rfl ?_
    exact ne_iret X hr (by first | rfl | decide | rfl) dL_lesser_19 ⟨_, _, _, _, rfl, cI_mono hI (by omega), _, rfl, Or.inl ⟨rfl, (by omega), rfl, rfl, rfl⟩⟩
  rintro v6 w6 ⟨c1, q1, h1, rfl, hI1, L1, rfl, lb, g1, g2⟩
  refine ne_ws wr_mg ?_
  refine ne_i2l (by omega) X dL_lesser_9 ?_
  refine ne_putfn X dL_lesser_10 nw_fL_13 nw_p4_0 rfl (fun _ => rfl) (fun _ => rfl) (by first | decide | exact Nat.le_of_ble_eq_true rfl) ?_
  refine ne_ws wr_st ?_
  refine ne_goto (tgt := 20) X dL_lesser_13 rfl ?_
  refine ne_iconst X dL_lesser_20 ?_
  exact ne_iret X hr (by first | rfl | decide | rfl) dL_lesser_21 ⟨_, _, _, _, rfl, hI1, _, rfl, Or.inr (Or.inr ⟨rfl, lb, g1, g2⟩)⟩
set_option maxRecDepth 100000 in
set_option maxHeartbeats 4000000 in
theorem me_L_cut (l : Launch) (hl : l.stackTraces = false) (c q t b k n h x y : Nat → Int) (T : Int) (hI : cI c q t b k n h x y T) (hT : 0 ≤ T ∧ T ≤ 1000) (u : Int) (s : Value) (hs : s = .null ∨ s = .ref 13) (i m p w0 o : Int) (hi : -2147483648 ≤ i ∧ i < 2147483648) (hm : 0 ≤ m ∧ m ≤ 1) (hp : -2147483648 ≤ p ∧ p < 2147483648) (hw0 : -2147483648 ≤ w0 ∧ w0 < 2147483648) (ho : -2147483648 ≤ o ∧ o < 2147483648) : ne_M l nw_cl (.codeWith yL_cut cL_cut 8 (some .int) [(0, 17, 20, 19), (0, 17, 24, 21)]) nw_T yL_cut 13 560 230 600 [.ref 0, ni i, ni m, ni p, ni w0, ni o, .ref 12] (cW c q t b k n h x y ++ [some (.inr (4, [nl u, s])), none]) (fun v w => ∃ c1 q1 h1 u1, w = cW c1 q1 t b k n h1 x y ++ [some (.inr (4, [nl u1, s])), none] ∧ cI c1 q1 t b k n h1 x y (T + 1) ∧ ∃ z : Int, v = some (ni z) ∧ ((z = 1 ∧ (i < 0 ∨ 3 ≤ i ∨ o < 0 ∨ 4 ≤ o) ∧ c1 = c ∧ q1 = q ∧ h1 = h) ∨ (z = 2 ∧ ((0 ≤ i ∧ i < 3 ∧ 0 ≤ o ∧ o < 4) ∧ (p < 0 ∨ 3 < p ∨ w0 < 0 ∨ 7 < w0)) ∧ c1 = c ∧ q1 = q ∧ h1 = h) ∨ (z = 0 ∧ (-9 ≤ u1 ∧ u1 ≤ 1) ∧ ((0 ≤ i ∧ i < 3 ∧ 0 ≤ o ∧ o < 4) ∧ 0 ≤ p ∧ p ≤ 3 ∧ 0 ≤ w0 ∧ w0 ≤ 7) ∧ ne_rcome c q h o w0 p (ne_cv (t i.toNat) m p) (b i.toNat) c1 q1 h1 u1))) (fun _ _ => False) := by
  refine ne_meetW (own := RL) hl rfl wr_pl (Nat.le_of_ble_eq_true rfl) ?_
  intro D ct A P9 V9 R9 S9 M9 as9 bl9 mt9 C9 ad0 X hr hin ht
  have hcw : ne_cw 14 (cW c q t b k n h x y ++ [some (.inr (4, [nl u, s])), none]) = true := by rcases hs with rfl | rfl <;> rfl
  refine ne_aload X dL_cut_0 rfl ?_
  refine ne_aload_n X dL_cut_2 rfl ?_
  refine ne_iload_n X dL_cut_3 rfl ?_
  refine ne_iload_n X dL_cut_4 rfl ?_
  refine ne_iload_n X dL_cut_5 rfl ?_
  refine ne_iload X dL_cut_6 rfl ?_
  refine ne_iload X dL_cut_8 rfl ?_
  refine ne_callVF (is := [0, 1, 2, 3, 4, 5, 6, 7, 8, 9, 10, 11]) X nw_Tg (me_X1_cutW l hl c q t b k n h x y T hI hT i m p w0 o hi hm hp hw0 ho) nw_yX1_cut nw_mL_81 nw_iX1_cut nw_eX1_cut (ci := 3) rfl rfl rfl dL_cut_10 rfl rfl (by decide) (by decide) (by first | decide | omega) (by first | decide | omega) (Nat.le_of_ble_eq_true rfl) hcw rfl rfl (Nat.le_of_ble_eq_true rfl) wr_pt ?_ ?_
  rotate_left
  · rintro E9 w9 ⟨rfl, ⟨rfl, g99⟩ | ⟨rfl, g99⟩⟩
    · refine ne_wsT wr_mg ?_
      refine ne_catch (name := "java/lang/IndexOutOfBoundsException") (pre := []) (x := ⟨0, 17, 20, 19⟩) (suf := [⟨0, 17, 24, 21⟩]) X ht (fun z hz => by cases hz) rfl (by decide) nw_qL_19 wr_cI (Nat.le_of_ble_eq_true rfl) hcw rfl ?_
      refine ne_astore X dL_cut_20 (by decide) ?_
      refine ne_iconst X dL_cut_22 ?_
      refine ne_take 14 ?_
      refine ne_ws (ws' := cW c q t b k n h x y ++ [some (.inr (4, [_, _])), none]) rfl ?_
      exact ne_iret X hr (by first | rfl | decide | rfl) dL_cut_23 ⟨_, _, _, _, rfl, cI_mono hI (by omega), _, rfl, Or.inl ⟨rfl, (by omega), rfl, rfl, rfl⟩⟩
    · refine ne_wsT wr_mg ?_
      refine ne_catch (name := "java/lang/IllegalArgumentException") (pre := [⟨0, 17, 20, 19⟩]) (x := ⟨0, 17, 24, 21⟩) (suf := []) X ht (fun z hz => by
        rw [List.mem_singleton] at hz; subst hz
        exact Or.inr ⟨by decide, "java/lang/IndexOutOfBoundsException", nw_qL_19, wr_cb⟩) rfl (by decide) nw_qL_21 wr_cA (Nat.le_of_ble_eq_true rfl) hcw rfl ?_
      refine ne_astore X dL_cut_24 (by decide) ?_
      refine ne_iconst X dL_cut_26 ?_
      refine ne_take 14 ?_
      refine ne_ws (ws' := cW c q t b k n h x y ++ [some (.inr (4, [_, _])), none]) rfl ?_
      exact ne_iret X hr (by first | rfl | decide | rfl) dL_cut_27 ⟨_, _, _, _, rfl, cI_mono hI (by omega), _, rfl, Or.inr (Or.inl ⟨rfl, (by omega), rfl, rfl, rfl⟩)⟩
  rintro v10 w10 ⟨c1, q1, h1, rfl, hI1, L1, rfl, lb, g1, g2⟩
  refine ne_ws wr_mg ?_
  refine ne_i2l (by omega) X dL_cut_13 ?_
  refine ne_putfn X dL_cut_14 nw_fL_13 nw_p4_0 rfl (fun _ => rfl) (fun _ => rfl) (by first | decide | exact Nat.le_of_ble_eq_true rfl) ?_
  refine ne_ws wr_st ?_
  refine ne_goto (tgt := 28) X dL_cut_17 rfl ?_
  refine ne_iconst X dL_cut_28 ?_
  exact ne_iret X hr (by first | rfl | decide | rfl) dL_cut_29 ⟨_, _, _, _, rfl, hI1, _, rfl, Or.inr (Or.inr ⟨rfl, lb, g1, g2⟩)⟩
set_option maxRecDepth 100000 in
set_option maxHeartbeats 4000000 in
theorem me_L_count (l : Launch) (hl : l.stackTraces = false) (c q t b k n h x y : Nat → Int) (T : Int) (hI : cI c q t b k n h x y T) (hT : 0 ≤ T ∧ T ≤ 1000) (u : Int) (s : Value) (hs : s = .null ∨ s = .ref 13) (i1 : Int) (hi1 : -2147483648 ≤ i1 ∧ i1 < 2147483648) : ne_M l nw_cl (.codeWith yL_count cL_count 4 (some .int) [(0, 10, 13, 19)]) nw_T yL_count 13 560 230 600 [.ref 0, ni i1, .ref 12] (cW c q t b k n h x y ++ [some (.inr (4, [nl u, s])), none]) (fun v w => ∃ x1 y1 u1, w = cW c q t b k n h x1 y1 ++ [some (.inr (4, [nl u1, s])), none] ∧ cI c q t b k n h x1 y1 (T + 1) ∧ ∃ z : Int, v = some (ni z)) (fun _ _ => False) := by
  refine ne_meetW (own := RL) hl rfl wr_pl (Nat.le_of_ble_eq_true rfl) ?_
  intro D ct A P9 V9 R9 S9 M9 as9 bl9 mt9 C9 ad0 X hr hin ht
  have hcw : ne_cw 14 (cW c q t b k n h x y ++ [some (.inr (4, [nl u, s])), none]) = true := by rcases hs with rfl | rfl <;> rfl
  refine ne_aload_n X dL_count_0 rfl ?_
  refine ne_aload_n X dL_count_1 rfl ?_
  refine ne_iload_n X dL_count_2 rfl ?_
  refine ne_callVF (is := [0, 1, 2, 3, 4, 5, 6, 7, 8, 9, 10, 11]) X nw_Tg (me_X1_countS l hl c q t b k n h x y T hI hT i1 hi1) nw_yX1_count nw_mL_84 nw_iX1_count nw_eX1_count (ci := 3) rfl rfl rfl dL_count_3 rfl rfl (by decide) (by decide) (by first | decide | omega) (by first | decide | omega) (Nat.le_of_ble_eq_true rfl) hcw rfl rfl (Nat.le_of_ble_eq_true rfl) wr_pt ?_ ?_
  rotate_left
  · rintro E9 w9 ⟨rfl, rfl⟩
    refine ne_wsT wr_mg ?_
    refine ne_catch (name := "java/lang/IndexOutOfBoundsException") (pre := []) (x := ⟨0, 10, 13, 19⟩) (suf := []) X ht (fun z hz => by cases hz) rfl (by decide) nw_qL_19 wr_cI (Nat.le_of_ble_eq_true rfl) hcw rfl ?_
    refine ne_astore_n X dL_count_13 rfl (by decide) ?_
    refine ne_iconst X dL_count_14 ?_
    refine ne_take 14 ?_
    refine ne_ws (ws' := cW c q t b k n h x y ++ [some (.inr (4, [_, _])), none]) rfl ?_
    exact ne_iret X hr (by first | rfl | decide | rfl) dL_count_15 ⟨_, _, _, rfl, cI_mono hI (by omega), _, rfl⟩
  rintro v3 w3 ⟨⟨x1, y1, rfl, hI1⟩, z3, rfl, g3⟩
  refine ne_ws wr_mg ?_
  refine ne_wrapI (fun y3 l3 r3 q3 => ?_)
  refine ne_i2l (by omega) X dL_count_6 ?_
  refine ne_putfn X dL_count_7 nw_fL_13 nw_p4_0 rfl (fun _ => rfl) (fun _ => rfl) (by first | decide | exact Nat.le_of_ble_eq_true rfl) ?_
  refine ne_ws wr_st ?_
  refine ne_goto (tgt := 16) X dL_count_10 rfl ?_
  refine ne_iconst X dL_count_16 ?_
  exact ne_iret X hr (by first | rfl | decide | rfl) dL_count_17 ⟨_, _, _, rfl, hI1, _, rfl⟩
set_option maxRecDepth 100000 in
set_option maxHeartbeats 4000000 in
theorem me_L_places (l : Launch) (hl : l.stackTraces = false) (c q t b k n h x y : Nat → Int) (T : Int) (hI : cI c q t b k n h x y T) (hT : 0 ≤ T ∧ T ≤ 1000) (u : Int) (s : Value) (hs : s = .null ∨ s = .ref 13) (i1 : Int) (hi1 : -2147483648 ≤ i1 ∧ i1 < 2147483648) : ne_M l nw_cl (.codeWith yL_places cL_places 4 (some .int) [(0, 10, 13, 19)]) nw_T yL_places 13 560 230 600 [.ref 0, ni i1, .ref 12] (cW c q t b k n h x y ++ [some (.inr (4, [nl u, s])), none]) (fun v w => ∃ x1 y1 u1, w = cW c q t b k n h x1 y1 ++ [some (.inr (4, [nl u1, s])), none] ∧ cI c q t b k n h x1 y1 (T + 1) ∧ ∃ z : Int, v = some (ni z)) (fun _ _ => False) := by
  refine ne_meetW (own := RL) hl rfl wr_pl (Nat.le_of_ble_eq_true rfl) ?_
  intro D ct A P9 V9 R9 S9 M9 as9 bl9 mt9 C9 ad0 X hr hin ht
  have hcw : ne_cw 14 (cW c q t b k n h x y ++ [some (.inr (4, [nl u, s])), none]) = true := by rcases hs with rfl | rfl <;> rfl
  refine ne_aload_n X dL_places_0 rfl ?_
  refine ne_aload_n X dL_places_1 rfl ?_
  refine ne_iload_n X dL_places_2 rfl ?_
  refine ne_callVF (is := [0, 1, 2, 3, 4, 5, 6, 7, 8, 9, 10, 11]) X nw_Tg (me_X1_placesS l hl c q t b k n h x y T hI hT i1 hi1) nw_yX1_places nw_mL_87 nw_iX1_places nw_eX1_places (ci := 3) rfl rfl rfl dL_places_3 rfl rfl (by decide) (by decide) (by first | decide | omega) (by first | decide | omega) (Nat.le_of_ble_eq_true rfl) hcw rfl rfl (Nat.le_of_ble_eq_true rfl) wr_pt ?_ ?_
  rotate_left
  · rintro E9 w9 ⟨rfl, rfl⟩
    refine ne_wsT wr_mg ?_
    refine ne_catch (name := "java/lang/IndexOutOfBoundsException") (pre := []) (x := ⟨0, 10, 13, 19⟩) (suf := []) X ht (fun z hz => by cases hz) rfl (by decide) nw_qL_19 wr_cI (Nat.le_of_ble_eq_true rfl) hcw rfl ?_
    refine ne_astore_n X dL_places_13 rfl (by decide) ?_
    refine ne_iconst X dL_places_14 ?_
    refine ne_take 14 ?_
    refine ne_ws (ws' := cW c q t b k n h x y ++ [some (.inr (4, [_, _])), none]) rfl ?_
    exact ne_iret X hr (by first | rfl | decide | rfl) dL_places_15 ⟨_, _, _, rfl, cI_mono hI (by omega), _, rfl⟩
  rintro v3 w3 ⟨⟨x1, y1, rfl, hI1⟩, z3, rfl, g3⟩
  refine ne_ws wr_mg ?_
  refine ne_wrapI (fun y3 l3 r3 q3 => ?_)
  refine ne_i2l (by omega) X dL_places_6 ?_
  refine ne_putfn X dL_places_7 nw_fL_13 nw_p4_0 rfl (fun _ => rfl) (fun _ => rfl) (by first | decide | exact Nat.le_of_ble_eq_true rfl) ?_
  refine ne_ws wr_st ?_
  refine ne_goto (tgt := 16) X dL_places_10 rfl ?_
  refine ne_iconst X dL_places_16 ?_
  exact ne_iret X hr (by first | rfl | decide | rfl) dL_places_17 ⟨_, _, _, rfl, hI1, _, rfl⟩
set_option maxRecDepth 100000 in
set_option maxHeartbeats 4000000 in
theorem me_L_digits (l : Launch) (hl : l.stackTraces = false) (c q t b k n h x y : Nat → Int) (T : Int) (hI : cI c q t b k n h x y T) (hT : 0 ≤ T ∧ T ≤ 1000) (u : Int) (s : Value) (hs : s = .null ∨ s = .ref 13) (i1 : Int) (hi1 : -2147483648 ≤ i1 ∧ i1 < 2147483648) : ne_M l nw_cl (.codeWith yL_digits cL_digits 4 (some .int) [(0, 10, 13, 19)]) nw_T yL_digits 13 560 230 600 [.ref 0, ni i1, .ref 12] (cW c q t b k n h x y ++ [some (.inr (4, [nl u, s])), none]) (fun v w => ∃ x1 y1 u1, w = cW c q t b k n h x1 y1 ++ [some (.inr (4, [nl u1, s])), none] ∧ cI c q t b k n h x1 y1 (T + 1) ∧ ∃ z : Int, v = some (ni z)) (fun _ _ => False) := by
  refine ne_meetW (own := RL) hl rfl wr_pl (Nat.le_of_ble_eq_true rfl) ?_
  intro D ct A P9 V9 R9 S9 M9 as9 bl9 mt9 C9 ad0 X hr hin ht
  have hcw : ne_cw 14 (cW c q t b k n h x y ++ [some (.inr (4, [nl u, s])), none]) = true := by rcases hs with rfl | rfl <;> rfl
  refine ne_aload_n X dL_digits_0 rfl ?_
  refine ne_aload_n X dL_digits_1 rfl ?_
  refine ne_iload_n X dL_digits_2 rfl ?_
  refine ne_callVF (is := [0, 1, 2, 3, 4, 5, 6, 7, 8, 9, 10, 11]) X nw_Tg (me_X1_digitsS l hl c q t b k n h x y T hI hT i1 hi1) nw_yX1_digits nw_mL_90 nw_iX1_digits nw_eX1_digits (ci := 3) rfl rfl rfl dL_digits_3 rfl rfl (by decide) (by decide) (by first | decide | omega) (by first | decide | omega) (Nat.le_of_ble_eq_true rfl) hcw rfl rfl (Nat.le_of_ble_eq_true rfl) wr_pt ?_ ?_
  rotate_left
  · rintro E9 w9 ⟨rfl, rfl⟩
    refine ne_wsT wr_mg ?_
    refine ne_catch (name := "java/lang/IndexOutOfBoundsException") (pre := []) (x := ⟨0, 10, 13, 19⟩) (suf := []) X ht (fun z hz => by cases hz) rfl (by decide) nw_qL_19 wr_cI (Nat.le_of_ble_eq_true rfl) hcw rfl ?_
    refine ne_astore_n X dL_digits_13 rfl (by decide) ?_
    refine ne_iconst X dL_digits_14 ?_
    refine ne_take 14 ?_
    refine ne_ws (ws' := cW c q t b k n h x y ++ [some (.inr (4, [_, _])), none]) rfl ?_
    exact ne_iret X hr (by first | rfl | decide | rfl) dL_digits_15 ⟨_, _, _, rfl, cI_mono hI (by omega), _, rfl⟩
  rintro v3 w3 ⟨⟨x1, y1, rfl, hI1⟩, z3, rfl, g3⟩
  refine ne_ws wr_mg ?_
  refine ne_wrapI (fun y3 l3 r3 q3 => ?_)
  refine ne_i2l (by omega) X dL_digits_6 ?_
  refine ne_putfn X dL_digits_7 nw_fL_13 nw_p4_0 rfl (fun _ => rfl) (fun _ => rfl) (by first | decide | exact Nat.le_of_ble_eq_true rfl) ?_
  refine ne_ws wr_st ?_
  refine ne_goto (tgt := 16) X dL_digits_10 rfl ?_
  refine ne_iconst X dL_digits_16 ?_
  exact ne_iret X hr (by first | rfl | decide | rfl) dL_digits_17 ⟨_, _, _, rfl, hI1, _, rfl⟩
set_option maxRecDepth 100000 in
set_option maxHeartbeats 4000000 in
theorem me_L_sign (l : Launch) (hl : l.stackTraces = false) (c q t b k n h x y : Nat → Int) (T : Int) (hI : cI c q t b k n h x y T) (hT : 0 ≤ T ∧ T ≤ 1000) (u : Int) (s : Value) (hs : s = .null ∨ s = .ref 13) (i1 : Int) (hi1 : -2147483648 ≤ i1 ∧ i1 < 2147483648) : ne_M l nw_cl (.codeWith yL_sign cL_sign 4 (some .int) [(0, 10, 13, 19)]) nw_T yL_sign 13 560 230 600 [.ref 0, ni i1, .ref 12] (cW c q t b k n h x y ++ [some (.inr (4, [nl u, s])), none]) (fun v w => ∃ x1 y1 u1, w = cW c q t b k n h x1 y1 ++ [some (.inr (4, [nl u1, s])), none] ∧ cI c q t b k n h x1 y1 (T + 1) ∧ ∃ z : Int, v = some (ni z)) (fun _ _ => False) := by
  refine ne_meetW (own := RL) hl rfl wr_pl (Nat.le_of_ble_eq_true rfl) ?_
  intro D ct A P9 V9 R9 S9 M9 as9 bl9 mt9 C9 ad0 X hr hin ht
  have hcw : ne_cw 14 (cW c q t b k n h x y ++ [some (.inr (4, [nl u, s])), none]) = true := by rcases hs with rfl | rfl <;> rfl
  refine ne_aload_n X dL_sign_0 rfl ?_
  refine ne_aload_n X dL_sign_1 rfl ?_
  refine ne_iload_n X dL_sign_2 rfl ?_
  refine ne_callVF (is := [0, 1, 2, 3, 4, 5, 6, 7, 8, 9, 10, 11]) X nw_Tg (me_X1_signS l hl c q t b k n h x y T hI hT i1 hi1) nw_yX1_sign nw_mL_93 nw_iX1_sign nw_eX1_sign (ci := 3) rfl rfl rfl dL_sign_3 rfl rfl (by decide) (by decide) (by first | decide | omega) (by first | decide | omega) (Nat.le_of_ble_eq_true rfl) hcw rfl rfl (Nat.le_of_ble_eq_true rfl) wr_pt ?_ ?_
  rotate_left
  · rintro E9 w9 ⟨rfl, rfl⟩
    refine ne_wsT wr_mg ?_
    refine ne_catch (name := "java/lang/IndexOutOfBoundsException") (pre := []) (x := ⟨0, 10, 13, 19⟩) (suf := []) X ht (fun z hz => by cases hz) rfl (by decide) nw_qL_19 wr_cI (Nat.le_of_ble_eq_true rfl) hcw rfl ?_
    refine ne_astore_n X dL_sign_13 rfl (by decide) ?_
    refine ne_iconst X dL_sign_14 ?_
    refine ne_take 14 ?_
    refine ne_ws (ws' := cW c q t b k n h x y ++ [some (.inr (4, [_, _])), none]) rfl ?_
    exact ne_iret X hr (by first | rfl | decide | rfl) dL_sign_15 ⟨_, _, _, rfl, cI_mono hI (by omega), _, rfl⟩
  rintro v3 w3 ⟨⟨x1, y1, rfl, hI1⟩, z3, rfl, g3⟩
  refine ne_ws wr_mg ?_
  refine ne_wrapI (fun y3 l3 r3 q3 => ?_)
  refine ne_i2l (by omega) X dL_sign_6 ?_
  refine ne_putfn X dL_sign_7 nw_fL_13 nw_p4_0 rfl (fun _ => rfl) (fun _ => rfl) (by first | decide | exact Nat.le_of_ble_eq_true rfl) ?_
  refine ne_ws wr_st ?_
  refine ne_goto (tgt := 16) X dL_sign_10 rfl ?_
  refine ne_iconst X dL_sign_16 ?_
  exact ne_iret X hr (by first | rfl | decide | rfl) dL_sign_17 ⟨_, _, _, rfl, hI1, _, rfl⟩
set_option maxRecDepth 100000 in
set_option maxHeartbeats 4000000 in
theorem me_L_text (l : Launch) (hl : l.stackTraces = false) (c q t b k n h x y : Nat → Int) (T : Int) (hI : cI c q t b k n h x y T) (hT : 0 ≤ T ∧ T ≤ 1000) (u : Int) (s : Value) (hs : s = .null ∨ s = .ref 13) (i1 i2 : Int) (hi1 : -2147483648 ≤ i1 ∧ i1 < 2147483648) (hi2 : -2147483648 ≤ i2 ∧ i2 < 2147483648) : ne_M l nw_cl (.codeWith yL_text cL_text 5 (some .int) [(0, 10, 13, 19), (0, 10, 17, 21)]) nw_T yL_text 13 560 230 600 [.ref 0, ni i1, ni i2, .ref 12] (cW c q t b k n h x y ++ [some (.inr (4, [nl u, s])), none]) (fun v w => ∃ x1 y1 u1 s1, w = cW c q t b k n h x1 y1 ++ [some (.inr (4, [nl u1, s1])), none, none] ∧ cI c q t b k n h x1 y1 (T + 1) ∧ (s1 = s ∨ s1 = .ref 14) ∧ ∃ z : Int, v = some (ni z)) (fun _ _ => False) := by
  refine ne_meetW (own := RL) hl rfl wr_pl (Nat.le_of_ble_eq_true rfl) ?_
  intro D ct A P9 V9 R9 S9 M9 as9 bl9 mt9 C9 ad0 X hr hin ht
  have hcw : ne_cw 14 (cW c q t b k n h x y ++ [some (.inr (4, [nl u, s])), none]) = true := by rcases hs with rfl | rfl <;> rfl
  refine ne_aload_n X dL_text_0 rfl ?_
  refine ne_aload_n X dL_text_1 rfl ?_
  refine ne_iload_n X dL_text_2 rfl ?_
  refine ne_iload_n X dL_text_3 rfl ?_
  refine ne_callVF (is := [0, 1, 2, 3, 4, 5, 6, 7, 8, 9, 10, 11]) X nw_Tg (me_X1_text l hl c q t b k n h x y T hI hT i1 i2 hi1 hi2) nw_yX1_text nw_mL_96 nw_iX1_text nw_eX1_text (ci := 3) rfl rfl rfl dL_text_4 rfl rfl (by decide) (by decide) (by first | decide | omega) (by first | decide | omega) (Nat.le_of_ble_eq_true rfl) hcw rfl rfl (Nat.le_of_ble_eq_true rfl) (ne_ptb rfl (by decide +kernel) rfl) ?_ ?_
  rotate_left
  · rintro E9 w9 ⟨rfl, rfl | rfl⟩
    · refine ne_wsT (ws' := cW c q t b k n h x y ++ [some (.inr (4, [_, _])), none]) rfl ?_
      refine ne_catch (name := "java/lang/IndexOutOfBoundsException") (pre := []) (x := ⟨0, 10, 13, 19⟩) (suf := [⟨0, 10, 17, 21⟩]) X ht (fun z hz => by cases hz) rfl (by decide) nw_qL_19 wr_cI (Nat.le_of_ble_eq_true rfl) hcw rfl ?_
      refine ne_astore X dL_text_13 (by decide) ?_
      refine ne_iconst X dL_text_15 ?_
      refine ne_ws (ws' := cW c q t b k n h x y ++ [some (.inr (4, [_, _])), none, none]) rfl ?_
      exact ne_iret X hr (by first | rfl | decide | rfl) dL_text_16 ⟨_, _, _, _, rfl, cI_mono hI (by omega), Or.inl rfl, _, rfl⟩
    · refine ne_wsT (ws' := cW c q t b k n h x y ++ [some (.inr (4, [_, _])), none]) rfl ?_
      refine ne_catch (name := "java/lang/IllegalArgumentException") (pre := [⟨0, 10, 13, 19⟩]) (x := ⟨0, 10, 17, 21⟩) (suf := []) X ht (fun z hz => by
        rw [List.mem_singleton] at hz; subst hz
        exact Or.inr ⟨by decide, "java/lang/IndexOutOfBoundsException", nw_qL_19, wr_cb⟩) rfl (by decide) nw_qL_21 wr_cA (Nat.le_of_ble_eq_true rfl) hcw rfl ?_
      refine ne_astore X dL_text_17 (by decide) ?_
      refine ne_iconst X dL_text_19 ?_
      refine ne_ws (ws' := cW c q t b k n h x y ++ [some (.inr (4, [_, _])), none, none]) rfl ?_
      exact ne_iret X hr (by first | rfl | decide | rfl) dL_text_20 ⟨_, _, _, _, rfl, cI_mono hI (by omega), Or.inl rfl, _, rfl⟩
  rintro v4 w4 ⟨⟨x1, y1, rfl, hI1⟩, rfl⟩
  refine ne_ws (ws' := cW c q t b k n h x1 y1 ++ [some (.inr (4, [_, _])), none] ++ [none]) rfl ?_
  refine ne_putfn X dL_text_7 nw_fL_100 nw_p4_1 rfl (fun _ => rfl) (fun _ => rfl) (by first | decide | exact Nat.le_of_ble_eq_true rfl) ?_
  refine ne_ws (ws' := cW c q t b k n h x1 y1 ++ [some (.inr (4, [_, _])), none, none]) rfl ?_
  refine ne_goto (tgt := 21) X dL_text_10 rfl ?_
  refine ne_iconst X dL_text_21 ?_
  exact ne_iret X hr (by first | rfl | decide | rfl) dL_text_22 ⟨_, _, _, _, rfl, hI1, Or.inr rfl, _, rfl⟩
set_option maxRecDepth 100000 in
set_option maxHeartbeats 4000000 in
theorem me_L_order (l : Launch) (hl : l.stackTraces = false) (c q t b k n h x y : Nat → Int) (T : Int) (hI : cI c q t b k n h x y T) (hT : 0 ≤ T ∧ T ≤ 1000) (u : Int) (s : Value) (hs : s = .null ∨ s = .ref 13) (i1 i2 : Int) (hi1 : -2147483648 ≤ i1 ∧ i1 < 2147483648) (hi2 : -2147483648 ≤ i2 ∧ i2 < 2147483648) : ne_M l nw_cl (.codeWith yL_order cL_order 5 (some .int) [(0, 11, 14, 19)]) nw_T yL_order 13 560 230 600 [.ref 0, ni i1, ni i2, .ref 12] (cW c q t b k n h x y ++ [some (.inr (4, [nl u, s])), none]) (fun v w => ∃ x1 y1 u1, w = cW c q t b k n h x1 y1 ++ [some (.inr (4, [nl u1, s])), none] ∧ cI c q t b k n h x1 y1 (T + 1) ∧ ∃ z : Int, v = some (ni z)) (fun _ _ => False) := by
  refine ne_meetW (own := RL) hl rfl wr_pl (Nat.le_of_ble_eq_true rfl) ?_
  intro D ct A P9 V9 R9 S9 M9 as9 bl9 mt9 C9 ad0 X hr hin ht
  have hcw : ne_cw 14 (cW c q t b k n h x y ++ [some (.inr (4, [nl u, s])), none]) = true := by rcases hs with rfl | rfl <;> rfl
  refine ne_aload_n X dL_order_0 rfl ?_
  refine ne_aload_n X dL_order_1 rfl ?_
  refine ne_iload_n X dL_order_2 rfl ?_
  refine ne_iload_n X dL_order_3 rfl ?_
  refine ne_callVF (is := [0, 1, 2, 3, 4, 5, 6, 7, 8, 9, 10, 11]) X nw_Tg (me_X1_orderS l hl c q t b k n h x y T hI hT i1 i2 hi1 hi2) nw_yX1_order nw_mL_104 nw_iX1_order nw_eX1_order (ci := 3) rfl rfl rfl dL_order_4 rfl rfl (by decide) (by decide) (by first | decide | omega) (by first | decide | omega) (Nat.le_of_ble_eq_true rfl) hcw rfl rfl (Nat.le_of_ble_eq_true rfl) wr_pt ?_ ?_
  rotate_left
  · rintro E9 w9 ⟨rfl, rfl⟩
    refine ne_wsT wr_mg ?_
    refine ne_catch (name := "java/lang/IndexOutOfBoundsException") (pre := []) (x := ⟨0, 11, 14, 19⟩) (suf := []) X ht (fun z hz => by cases hz) rfl (by decide) nw_qL_19 wr_cI (Nat.le_of_ble_eq_true rfl) hcw rfl ?_
    refine ne_astore X dL_order_14 (by decide) ?_
    refine ne_iconst X dL_order_16 ?_
    refine ne_take 14 ?_
    refine ne_ws (ws' := cW c q t b k n h x y ++ [some (.inr (4, [_, _])), none]) rfl ?_
    exact ne_iret X hr (by first | rfl | decide | rfl) dL_order_17 ⟨_, _, _, rfl, cI_mono hI (by omega), _, rfl⟩
  rintro v4 w4 ⟨⟨x1, y1, rfl, hI1⟩, z4, rfl, g4⟩
  refine ne_ws wr_mg ?_
  refine ne_wrapI (fun y4 l4 r4 q4 => ?_)
  refine ne_i2l (by omega) X dL_order_7 ?_
  refine ne_putfn X dL_order_8 nw_fL_13 nw_p4_0 rfl (fun _ => rfl) (fun _ => rfl) (by first | decide | exact Nat.le_of_ble_eq_true rfl) ?_
  refine ne_ws wr_st ?_
  refine ne_goto (tgt := 18) X dL_order_11 rfl ?_
  refine ne_iconst X dL_order_18 ?_
  exact ne_iret X hr (by first | rfl | decide | rfl) dL_order_19 ⟨_, _, _, rfl, hI1, _, rfl⟩
set_option maxRecDepth 100000 in
set_option maxHeartbeats 4000000 in
theorem me_L_same (l : Launch) (hl : l.stackTraces = false) (c q t b k n h x y : Nat → Int) (T : Int) (hI : cI c q t b k n h x y T) (hT : 0 ≤ T ∧ T ≤ 1000) (u : Int) (s : Value) (hs : s = .null ∨ s = .ref 13) (i1 i2 : Int) (hi1 : -2147483648 ≤ i1 ∧ i1 < 2147483648) (hi2 : -2147483648 ≤ i2 ∧ i2 < 2147483648) : ne_M l nw_cl (.codeWith yL_same cL_same 5 (some .int) [(0, 18, 21, 19)]) nw_T yL_same 13 560 230 600 [.ref 0, ni i1, ni i2, .ref 12] (cW c q t b k n h x y ++ [some (.inr (4, [nl u, s])), none]) (fun v w => ∃ x1 y1 u1, w = cW c q t b k n h x1 y1 ++ [some (.inr (4, [nl u1, s])), none] ∧ cI c q t b k n h x1 y1 (T + 1) ∧ ∃ z : Int, v = some (ni z)) (fun _ _ => False) := by
  refine ne_meetW (own := RL) hl rfl wr_pl (Nat.le_of_ble_eq_true rfl) ?_
  intro D ct A P9 V9 R9 S9 M9 as9 bl9 mt9 C9 ad0 X hr hin ht
  have hcw : ne_cw 14 (cW c q t b k n h x y ++ [some (.inr (4, [nl u, s])), none]) = true := by rcases hs with rfl | rfl <;> rfl
  refine ne_aload_n X dL_same_0 rfl ?_
  refine ne_aload_n X dL_same_1 rfl ?_
  refine ne_iload_n X dL_same_2 rfl ?_
  refine ne_iload_n X dL_same_3 rfl ?_
  refine ne_callVF (is := [0, 1, 2, 3, 4, 5, 6, 7, 8, 9, 10, 11]) X nw_Tg (me_X1_sameS l hl c q t b k n h x y T hI hT i1 i2 hi1 hi2) nw_yX1_same nw_mL_107 nw_iX1_same nw_eX1_same (ci := 3) rfl rfl rfl dL_same_4 rfl rfl (by decide) (by decide) (by first | decide | omega) (by first | decide | omega) (Nat.le_of_ble_eq_true rfl) hcw rfl rfl (Nat.le_of_ble_eq_true rfl) wr_pt ?_ ?_
  rotate_left
  · rintro E9 w9 ⟨rfl, rfl⟩
    refine ne_wsT wr_mg ?_
    refine ne_catch (name := "java/lang/IndexOutOfBoundsException") (pre := []) (x := ⟨0, 18, 21, 19⟩) (suf := []) X ht (fun z hz => by cases hz) rfl (by decide) nw_qL_19 wr_cI (Nat.le_of_ble_eq_true rfl) hcw rfl ?_
    refine ne_astore X dL_same_21 (by decide) ?_
    refine ne_iconst X dL_same_23 ?_
    refine ne_take 14 ?_
    refine ne_ws (ws' := cW c q t b k n h x y ++ [some (.inr (4, [_, _])), none]) rfl ?_
    exact ne_iret X hr (by first | rfl | decide | rfl) dL_same_24 ⟨_, _, _, rfl, cI_mono hI (by omega), _, rfl⟩
  rintro v4 w4 ⟨⟨x1, y1, rfl, hI1⟩, z4, rfl, g4⟩
  refine ne_ws wr_mg ?_
  refine ne_wrapI (fun y4 l4 r4 q4 => ?_)
  refine ne_if_eq (tgt := 14) X dL_same_7 rfl (by omega) (fun b7 => ?_) (fun b7 => ?_)
  · refine ne_lconst (z := 0) (by decide) X dL_same_14 ?_
    refine ne_putfn X dL_same_15 nw_fL_13 nw_p4_0 rfl (fun _ => rfl) (fun _ => rfl) (by first | decide | exact Nat.le_of_ble_eq_true rfl) ?_
    refine ne_ws (ws' := cW c q t b k n h x1 y1 ++ [some (.inr (4, [_, _])), none]) rfl ?_
    refine ne_goto (tgt := 25) X dL_same_18 rfl ?_
    refine ne_iconst X dL_same_25 ?_
    exact ne_iret X hr (by first | rfl | decide | rfl) dL_same_26 ⟨_, _, _, rfl, hI1, _, rfl⟩
  · refine ne_lconst (z := 1) (by decide) X dL_same_10 ?_
    refine ne_goto (tgt := 15) X dL_same_11 rfl ?_
    refine ne_putfn X dL_same_15 nw_fL_13 nw_p4_0 rfl (fun _ => rfl) (fun _ => rfl) (by first | decide | exact Nat.le_of_ble_eq_true rfl) ?_
    refine ne_ws (ws' := cW c q t b k n h x1 y1 ++ [some (.inr (4, [_, _])), none]) rfl ?_
    refine ne_goto (tgt := 25) X dL_same_18 rfl ?_
    refine ne_iconst X dL_same_25 ?_
    exact ne_iret X hr (by first | rfl | decide | rfl) dL_same_26 ⟨_, _, _, rfl, hI1, _, rfl⟩
set_option maxRecDepth 100000 in
set_option maxHeartbeats 4000000 in
theorem me_L_setWheel (l : Launch) (hl : l.stackTraces = false) (c q t b k n h x y : Nat → Int) (T : Int) (hI : cI c q t b k n h x y T) (hT : 0 ≤ T ∧ T ≤ 1000) (u : Int) (s : Value) (hs : s = .null ∨ s = .ref 13) (i a d : Int) (hi : -2147483648 ≤ i ∧ i < 2147483648) (ha : -2147483648 ≤ a ∧ a < 2147483648) (hd : -2147483648 ≤ d ∧ d < 2147483648) : ne_M l nw_cl (.codeWith yL_setWheel cL_setWheel 6 (some .int) [(0, 13, 16, 19), (0, 13, 20, 21)]) nw_T yL_setWheel 13 560 230 600 [.ref 0, ni i, ni a, ni d, .ref 12] (cW c q t b k n h x y ++ [some (.inr (4, [nl u, s])), none]) (fun v w => ∃ t1 b1 k1 n1 h1 u1, w = cW c q t1 b1 k1 n1 h1 x y ++ [some (.inr (4, [nl u1, s])), none] ∧ cI c q t1 b1 k1 n1 h1 x y (T + 1) ∧ ∃ z : Int, v = some (ni z) ∧ ((z = 1 ∧ (i < 0 ∨ 3 ≤ i) ∧ t1 = t ∧ b1 = b ∧ k1 = k ∧ n1 = n ∧ h1 = h) ∨ (z = 2 ∧ ((0 ≤ i ∧ i < 3) ∧ (d < 1 ∨ 99 < d ∨ d.tmod 2 = 0 ∨ d.tmod 5 = 0 ∨ a < 0 ∨ d ≤ a)) ∧ t1 = t ∧ b1 = b ∧ k1 = k ∧ n1 = n ∧ h1 = h) ∨ (z = 0 ∧ (1 ≤ u1 ∧ u1 ≤ 96) ∧ ((0 ≤ i ∧ i < 3) ∧ (1 ≤ d ∧ d ≤ 99 ∧ d.tmod 2 ≠ 0 ∧ d.tmod 5 ≠ 0) ∧ (0 ≤ a ∧ a < d)) ∧ t1 = va_up t i.toNat a ∧ b1 = va_up b i.toNat d ∧ k1 = va_up k i.toNat 0 ∧ n1 = va_up n i.toNat u1 ∧ h1 = va_up h 1 (h 1 + 1) ∧ ne_per a d u1))) (fun _ _ => False) := by
  refine ne_meetW (own := RL) hl rfl wr_pl (Nat.le_of_ble_eq_true rfl) ?_
  intro D ct A P9 V9 R9 S9 M9 as9 bl9 mt9 C9 ad0 X hr hin ht
  have hcw : ne_cw 14 (cW c q t b k n h x y ++ [some (.inr (4, [nl u, s])), none]) = true := by rcases hs with rfl | rfl <;> rfl
  refine ne_aload X dL_setWheel_0 rfl ?_
  refine ne_aload_n X dL_setWheel_2 rfl ?_
  refine ne_iload_n X dL_setWheel_3 rfl ?_
  refine ne_iload_n X dL_setWheel_4 rfl ?_
  refine ne_iload_n X dL_setWheel_5 rfl ?_
  refine ne_callVF (is := [0, 1, 2, 3, 4, 5, 6, 7, 8, 9, 10, 11]) X nw_Tg (me_X1_setWheelW l hl c q t b k n h x y T hI hT i a d hi ha hd) nw_yX1_setWheel nw_mL_111 nw_iX1_setWheel nw_eX1_setWheel (ci := 3) rfl rfl rfl dL_setWheel_6 rfl rfl (by decide) (by decide) (by first | decide | omega) (by first | decide | omega) (Nat.le_of_ble_eq_true rfl) hcw rfl rfl (Nat.le_of_ble_eq_true rfl) wr_pt ?_ ?_
  rotate_left
  · rintro E9 w9 ⟨rfl, ⟨rfl, g99⟩ | ⟨rfl, g99⟩⟩
    · refine ne_wsT wr_mg ?_
      refine ne_catch (name := "java/lang/IndexOutOfBoundsException") (pre := []) (x := ⟨0, 13, 16, 19⟩) (suf := [⟨0, 13, 20, 21⟩]) X ht (fun z hz => by cases hz) rfl (by decide) nw_qL_19 wr_cI (Nat.le_of_ble_eq_true rfl) hcw rfl ?_
      refine ne_astore X dL_setWheel_16 (by decide) ?_
      refine ne_iconst X dL_setWheel_18 ?_
      refine ne_take 14 ?_
      refine ne_ws (ws' := cW c q t b k n h x y ++ [some (.inr (4, [_, _])), none]) rfl ?_
      exact ne_iret X hr (by first | rfl | decide | rfl) dL_setWheel_19 ⟨_, _, _, _, _, _, rfl, cI_mono hI (by omega), _, rfl, Or.inl ⟨rfl, (by omega), rfl, rfl, rfl, rfl, rfl⟩⟩
    · refine ne_wsT wr_mg ?_
      refine ne_catch (name := "java/lang/IllegalArgumentException") (pre := [⟨0, 13, 16, 19⟩]) (x := ⟨0, 13, 20, 21⟩) (suf := []) X ht (fun z hz => by
        rw [List.mem_singleton] at hz; subst hz
        exact Or.inr ⟨by decide, "java/lang/IndexOutOfBoundsException", nw_qL_19, wr_cb⟩) rfl (by decide) nw_qL_21 wr_cA (Nat.le_of_ble_eq_true rfl) hcw rfl ?_
      refine ne_astore X dL_setWheel_20 (by decide) ?_
      refine ne_iconst X dL_setWheel_22 ?_
      refine ne_take 14 ?_
      refine ne_ws (ws' := cW c q t b k n h x y ++ [some (.inr (4, [_, _])), none]) rfl ?_
      exact ne_iret X hr (by first | rfl | decide | rfl) dL_setWheel_23 ⟨_, _, _, _, _, _, rfl, cI_mono hI (by omega), _, rfl, Or.inr (Or.inl ⟨rfl, (by omega), rfl, rfl, rfl, rfl, rfl⟩)⟩
  rintro v6 w6 ⟨h1, L1, rfl, hI1, rfl, lb, g1, g2, g3, g4, hq⟩
  refine ne_ws wr_mg ?_
  refine ne_i2l (by omega) X dL_setWheel_9 ?_
  refine ne_putfn X dL_setWheel_10 nw_fL_13 nw_p4_0 rfl (fun _ => rfl) (fun _ => rfl) (by first | decide | exact Nat.le_of_ble_eq_true rfl) ?_
  refine ne_ws wr_st ?_
  refine ne_goto (tgt := 24) X dL_setWheel_13 rfl ?_
  refine ne_iconst X dL_setWheel_24 ?_
  exact ne_iret X hr (by first | rfl | decide | rfl) dL_setWheel_25 ⟨_, _, _, _, _, _, rfl, hI1, _, rfl, Or.inr (Or.inr ⟨rfl, lb, ⟨g1, g2, g3⟩, rfl, rfl, rfl, rfl, hq, g4⟩)⟩
set_option maxRecDepth 100000 in
set_option maxHeartbeats 4000000 in
theorem me_L_step (l : Launch) (hl : l.stackTraces = false) (c q t b k n h x y : Nat → Int) (T : Int) (hI : cI c q t b k n h x y T) (hT : 0 ≤ T ∧ T ≤ 1000) (u : Int) (s : Value) (hs : s = .null ∨ s = .ref 13) (i : Int) (hi : -2147483648 ≤ i ∧ i < 2147483648) : ne_M l nw_cl (.codeWith yL_step cL_step 4 (some .int) [(0, 10, 13, 19)]) nw_T yL_step 13 560 230 600 [.ref 0, ni i, .ref 12] (cW c q t b k n h x y ++ [some (.inr (4, [nl u, s])), none]) (fun v w => ∃ t1 b1 k1 n1 h1 u1, w = cW c q t1 b1 k1 n1 h1 x y ++ [some (.inr (4, [nl u1, s])), none] ∧ cI c q t1 b1 k1 n1 h1 x y (T + 1) ∧ ∃ z : Int, v = some (ni z) ∧ ((z = 1 ∧ (i < 0 ∨ 3 ≤ i) ∧ t1 = t ∧ b1 = b ∧ k1 = k ∧ n1 = n ∧ h1 = h) ∨ (z = 0 ∧ (0 ≤ u1 ∧ u1 ≤ 9) ∧ (0 ≤ i ∧ i < 3) ∧ t1 = t ∧ b1 = b ∧ k1 = va_up k i.toNat ((k i.toNat + 1).tmod (n i.toNat)) ∧ n1 = n ∧ h1 = va_up h 1 (h 1 + 1) ∧ u1 = (10 * ne_rs (t i.toNat) (b i.toNat) (k i.toNat).toNat).tdiv (b i.toNat)))) (fun _ _ => False) := by
  refine ne_meetW (own := RL) hl rfl wr_pl (Nat.le_of_ble_eq_true rfl) ?_
  intro D ct A P9 V9 R9 S9 M9 as9 bl9 mt9 C9 ad0 X hr hin ht
  have hcw : ne_cw 14 (cW c q t b k n h x y ++ [some (.inr (4, [nl u, s])), none]) = true := by rcases hs with rfl | rfl <;> rfl
  refine ne_aload_n X dL_step_0 rfl ?_
  refine ne_aload_n X dL_step_1 rfl ?_
  refine ne_iload_n X dL_step_2 rfl ?_
  refine ne_callVF (is := [0, 1, 2, 3, 4, 5, 6, 7, 8, 9, 10, 11]) X nw_Tg (me_X1_stepW l hl c q t b k n h x y T hI hT i hi) nw_yX1_step nw_mL_114 nw_iX1_step nw_eX1_step (ci := 3) rfl rfl rfl dL_step_3 rfl rfl (by decide) (by decide) (by first | decide | omega) (by first | decide | omega) (Nat.le_of_ble_eq_true rfl) hcw rfl rfl (Nat.le_of_ble_eq_true rfl) wr_pt ?_ ?_
  rotate_left
  · rintro E9 w9 ⟨rfl, ⟨rfl, g99⟩ | ⟨rfl, g99⟩⟩
    rotate_left
    · exact g99.elim
    refine ne_wsT wr_mg ?_
    refine ne_catch (name := "java/lang/IndexOutOfBoundsException") (pre := []) (x := ⟨0, 10, 13, 19⟩) (suf := []) X ht (fun z hz => by cases hz) rfl (by decide) nw_qL_19 wr_cI (Nat.le_of_ble_eq_true rfl) hcw rfl ?_
    refine ne_astore_n X dL_step_13 rfl (by decide) ?_
    refine ne_iconst X dL_step_14 ?_
    refine ne_take 14 ?_
    refine ne_ws (ws' := cW c q t b k n h x y ++ [some (.inr (4, [_, _])), none]) rfl ?_
    exact ne_iret X hr (by first | rfl | decide | rfl) dL_step_15 ⟨_, _, _, _, _, _, rfl, cI_mono hI (by omega), _, rfl, Or.inl ⟨rfl, (by omega), rfl, rfl, rfl, rfl, rfl⟩⟩
  rintro v3 w3 ⟨h1, rfl, hI1, L1, rfl, lb, zv, g1, hq⟩
  refine ne_ws wr_mg ?_
  refine ne_i2l (by omega) X dL_step_6 ?_
  refine ne_putfn X dL_step_7 nw_fL_13 nw_p4_0 rfl (fun _ => rfl) (fun _ => rfl) (by first | decide | exact Nat.le_of_ble_eq_true rfl) ?_
  refine ne_ws wr_st ?_
  refine ne_goto (tgt := 16) X dL_step_10 rfl ?_
  refine ne_iconst X dL_step_16 ?_
  exact ne_iret X hr (by first | rfl | decide | rfl) dL_step_17 ⟨_, _, _, _, _, _, rfl, hI1, _, rfl, Or.inr ⟨rfl, lb, g1, rfl, rfl, rfl, rfl, hq, zv⟩⟩
set_option maxRecDepth 100000 in
set_option maxHeartbeats 4000000 in
theorem me_L_turn (l : Launch) (hl : l.stackTraces = false) (c q t b k n h x y : Nat → Int) (T : Int) (hI : cI c q t b k n h x y T) (hT : 0 ≤ T ∧ T ≤ 1000) (u : Int) (s : Value) (hs : s = .null ∨ s = .ref 13) (i a : Int) (hi : -2147483648 ≤ i ∧ i < 2147483648) (ha : -2147483648 ≤ a ∧ a < 2147483648) : ne_M l nw_cl (.codeWith yL_turn cL_turn 5 (some .int) [(0, 11, 14, 19), (0, 11, 18, 21)]) nw_T yL_turn 13 560 230 600 [.ref 0, ni i, ni a, .ref 12] (cW c q t b k n h x y ++ [some (.inr (4, [nl u, s])), none]) (fun v w => ∃ t1 b1 k1 n1 h1 u1, w = cW c q t1 b1 k1 n1 h1 x y ++ [some (.inr (4, [nl u1, s])), none] ∧ cI c q t1 b1 k1 n1 h1 x y (T + 1) ∧ ∃ z : Int, v = some (ni z) ∧ ((z = 1 ∧ (i < 0 ∨ 3 ≤ i) ∧ t1 = t ∧ b1 = b ∧ k1 = k ∧ n1 = n ∧ h1 = h) ∨ (z = 2 ∧ ((0 ≤ i ∧ i < 3) ∧ (a < 0 ∨ 200 < a)) ∧ t1 = t ∧ b1 = b ∧ k1 = k ∧ n1 = n ∧ h1 = h) ∨ (z = 0 ∧ (0 ≤ u1 ∧ u1 ≤ 98) ∧ (0 ≤ i ∧ i < 3 ∧ 0 ≤ a ∧ a ≤ 200) ∧ t1 = t ∧ b1 = b ∧ k1 = va_up k i.toNat ((k i.toNat + a).tmod (n i.toNat)) ∧ n1 = n ∧ h1 = va_up h 1 (h 1 + 1) ∧ u1 = ne_rs (t i.toNat) (b i.toNat) ((k i.toNat + a).tmod (n i.toNat)).toNat))) (fun _ _ => False) := by
  refine ne_meetW (own := RL) hl rfl wr_pl (Nat.le_of_ble_eq_true rfl) ?_
  intro D ct A P9 V9 R9 S9 M9 as9 bl9 mt9 C9 ad0 X hr hin ht
  have hcw : ne_cw 14 (cW c q t b k n h x y ++ [some (.inr (4, [nl u, s])), none]) = true := by rcases hs with rfl | rfl <;> rfl
  refine ne_aload_n X dL_turn_0 rfl ?_
  refine ne_aload_n X dL_turn_1 rfl ?_
  refine ne_iload_n X dL_turn_2 rfl ?_
  refine ne_iload_n X dL_turn_3 rfl ?_
  refine ne_callVF (is := [0, 1, 2, 3, 4, 5, 6, 7, 8, 9, 10, 11]) X nw_Tg (me_X1_turnW l hl c q t b k n h x y T hI hT i a hi ha) nw_yX1_turn nw_mL_117 nw_iX1_turn nw_eX1_turn (ci := 3) rfl rfl rfl dL_turn_4 rfl rfl (by decide) (by decide) (by first | decide | omega) (by first | decide | omega) (Nat.le_of_ble_eq_true rfl) hcw rfl rfl (Nat.le_of_ble_eq_true rfl) wr_pt ?_ ?_
  rotate_left
  · rintro E9 w9 ⟨rfl, ⟨rfl, g99⟩ | ⟨rfl, g99⟩⟩
    · refine ne_wsT wr_mg ?_
      refine ne_catch (name := "java/lang/IndexOutOfBoundsException") (pre := []) (x := ⟨0, 11, 14, 19⟩) (suf := [⟨0, 11, 18, 21⟩]) X ht (fun z hz => by cases hz) rfl (by decide) nw_qL_19 wr_cI (Nat.le_of_ble_eq_true rfl) hcw rfl ?_
      refine ne_astore X dL_turn_14 (by decide) ?_
      refine ne_iconst X dL_turn_16 ?_
      refine ne_take 14 ?_
      refine ne_ws (ws' := cW c q t b k n h x y ++ [some (.inr (4, [_, _])), none]) rfl ?_
      exact ne_iret X hr (by first | rfl | decide | rfl) dL_turn_17 ⟨_, _, _, _, _, _, rfl, cI_mono hI (by omega), _, rfl, Or.inl ⟨rfl, (by omega), rfl, rfl, rfl, rfl, rfl⟩⟩
    · refine ne_wsT wr_mg ?_
      refine ne_catch (name := "java/lang/IllegalArgumentException") (pre := [⟨0, 11, 14, 19⟩]) (x := ⟨0, 11, 18, 21⟩) (suf := []) X ht (fun z hz => by
        rw [List.mem_singleton] at hz; subst hz
        exact Or.inr ⟨by decide, "java/lang/IndexOutOfBoundsException", nw_qL_19, wr_cb⟩) rfl (by decide) nw_qL_21 wr_cA (Nat.le_of_ble_eq_true rfl) hcw rfl ?_
      refine ne_astore X dL_turn_18 (by decide) ?_
      refine ne_iconst X dL_turn_20 ?_
      refine ne_take 14 ?_
      refine ne_ws (ws' := cW c q t b k n h x y ++ [some (.inr (4, [_, _])), none]) rfl ?_
      exact ne_iret X hr (by first | rfl | decide | rfl) dL_turn_21 ⟨_, _, _, _, _, _, rfl, cI_mono hI (by omega), _, rfl, Or.inr (Or.inl ⟨rfl, (by omega), rfl, rfl, rfl, rfl, rfl⟩)⟩
  rintro v4 w4 ⟨h1, rfl, hI1, L1, rfl, lb, zv, g1, hq⟩
  refine ne_ws wr_mg ?_
  refine ne_i2l (by omega) X dL_turn_7 ?_
  refine ne_putfn X dL_turn_8 nw_fL_13 nw_p4_0 rfl (fun _ => rfl) (fun _ => rfl) (by first | decide | exact Nat.le_of_ble_eq_true rfl) ?_
  refine ne_ws wr_st ?_
  refine ne_goto (tgt := 22) X dL_turn_11 rfl ?_
  refine ne_iconst X dL_turn_22 ?_
  exact ne_iret X hr (by first | rfl | decide | rfl) dL_turn_23 ⟨_, _, _, _, _, _, rfl, hI1, _, rfl, Or.inr (Or.inr ⟨rfl, lb, g1, rfl, rfl, rfl, rfl, hq, zv⟩)⟩
set_option maxRecDepth 100000 in
set_option maxHeartbeats 4000000 in
theorem me_L_times (l : Launch) (hl : l.stackTraces = false) (c q t b k n h x y : Nat → Int) (T : Int) (hI : cI c q t b k n h x y T) (hT : 0 ≤ T ∧ T ≤ 1000) (u : Int) (s : Value) (hs : s = .null ∨ s = .ref 13) (i a o : Int) (hi : -2147483648 ≤ i ∧ i < 2147483648) (ha : -2147483648 ≤ a ∧ a < 2147483648) (ho : -2147483648 ≤ o ∧ o < 2147483648) : ne_M l nw_cl (.codeWith yL_times cL_times 6 (some .int) [(0, 13, 16, 19), (0, 13, 20, 21)]) nw_T yL_times 13 560 230 600 [.ref 0, ni i, ni a, ni o, .ref 12] (cW c q t b k n h x y ++ [some (.inr (4, [nl u, s])), none]) (fun v w => ∃ t1 b1 k1 n1 h1 u1, w = cW c q t1 b1 k1 n1 h1 x y ++ [some (.inr (4, [nl u1, s])), none] ∧ cI c q t1 b1 k1 n1 h1 x y (T + 1) ∧ ∃ z : Int, v = some (ni z) ∧ ((z = 1 ∧ (i < 0 ∨ 3 ≤ i ∨ o < 0 ∨ 3 ≤ o) ∧ t1 = t ∧ b1 = b ∧ k1 = k ∧ n1 = n ∧ h1 = h) ∨ (z = 2 ∧ (((0 ≤ i ∧ i < 3) ∧ 0 ≤ o ∧ o < 3) ∧ (a < 0 ∨ 99 < a)) ∧ t1 = t ∧ b1 = b ∧ k1 = k ∧ n1 = n ∧ h1 = h) ∨ (z = 0 ∧ (0 ≤ u1 ∧ u1 ≤ 98) ∧ ((0 ≤ i ∧ i < 3) ∧ 0 ≤ o ∧ o < 3 ∧ 0 ≤ a ∧ a ≤ 99) ∧ t1 = va_up t o.toNat ((a * t i.toNat).tmod (b i.toNat)) ∧ b1 = va_up b o.toNat (b i.toNat) ∧ k1 = va_up k o.toNat 0 ∧ (∃ M : Int, n1 = va_up n o.toNat M ∧ ne_pc ((a * t i.toNat).tmod (b i.toNat)) (b i.toNat) M) ∧ h1 = va_up h 1 (h 1 + 1) ∧ u1 = ((a * t i.toNat).tmod (b i.toNat)) ∧ 0 ≤ ((a * t i.toNat).tmod (b i.toNat)) ∧ ((a * t i.toNat).tmod (b i.toNat)) < b i.toNat))) (fun _ _ => False) := by
  refine ne_meetW (own := RL) hl rfl wr_pl (Nat.le_of_ble_eq_true rfl) ?_
  intro D ct A P9 V9 R9 S9 M9 as9 bl9 mt9 C9 ad0 X hr hin ht
  have hcw : ne_cw 14 (cW c q t b k n h x y ++ [some (.inr (4, [nl u, s])), none]) = true := by rcases hs with rfl | rfl <;> rfl
  refine ne_aload X dL_times_0 rfl ?_
  refine ne_aload_n X dL_times_2 rfl ?_
  refine ne_iload_n X dL_times_3 rfl ?_
  refine ne_iload_n X dL_times_4 rfl ?_
  refine ne_iload_n X dL_times_5 rfl ?_
  refine ne_callVF (is := [0, 1, 2, 3, 4, 5, 6, 7, 8, 9, 10, 11]) X nw_Tg (me_X1_timesW l hl c q t b k n h x y T hI hT i a o hi ha ho) nw_yX1_times nw_mL_120 nw_iX1_times nw_eX1_times (ci := 3) rfl rfl rfl dL_times_6 rfl rfl (by decide) (by decide) (by first | decide | omega) (by first | decide | omega) (Nat.le_of_ble_eq_true rfl) hcw rfl rfl (Nat.le_of_ble_eq_true rfl) wr_pt ?_ ?_
  rotate_left
  · rintro E9 w9 ⟨rfl, ⟨rfl, g99⟩ | ⟨rfl, g99⟩⟩
    · refine ne_wsT wr_mg ?_
      refine ne_catch (name := "java/lang/IndexOutOfBoundsException") (pre := []) (x := ⟨0, 13, 16, 19⟩) (suf := [⟨0, 13, 20, 21⟩]) X ht (fun z hz => by cases hz) rfl (by decide) nw_qL_19 wr_cI (Nat.le_of_ble_eq_true rfl) hcw rfl ?_
      refine ne_astore X dL_times_16 (by decide) ?_
      refine ne_iconst X dL_times_18 ?_
      refine ne_take 14 ?_
      refine ne_ws (ws' := cW c q t b k n h x y ++ [some (.inr (4, [_, _])), none]) rfl ?_
      exact ne_iret X hr (by first | rfl | decide | rfl) dL_times_19 ⟨_, _, _, _, _, _, rfl, cI_mono hI (by omega), _, rfl, Or.inl ⟨rfl, (by omega), rfl, rfl, rfl, rfl, rfl⟩⟩
    · refine ne_wsT wr_mg ?_
      refine ne_catch (name := "java/lang/IllegalArgumentException") (pre := [⟨0, 13, 16, 19⟩]) (x := ⟨0, 13, 20, 21⟩) (suf := []) X ht (fun z hz => by
        rw [List.mem_singleton] at hz; subst hz
        exact Or.inr ⟨by decide, "java/lang/IndexOutOfBoundsException", nw_qL_19, wr_cb⟩) rfl (by decide) nw_qL_21 wr_cA (Nat.le_of_ble_eq_true rfl) hcw rfl ?_
      refine ne_astore X dL_times_20 (by decide) ?_
      refine ne_iconst X dL_times_22 ?_
      refine ne_take 14 ?_
      refine ne_ws (ws' := cW c q t b k n h x y ++ [some (.inr (4, [_, _])), none]) rfl ?_
      exact ne_iret X hr (by first | rfl | decide | rfl) dL_times_23 ⟨_, _, _, _, _, _, rfl, cI_mono hI (by omega), _, rfl, Or.inr (Or.inl ⟨rfl, (by omega), rfl, rfl, rfl, rfl, rfl⟩)⟩
  rintro v6 w6 ⟨h1, M1, rfl, hI1, L1, rfl, lb, zv, g1, g2, g3, hq⟩
  refine ne_ws wr_mg ?_
  refine ne_i2l (by omega) X dL_times_9 ?_
  refine ne_putfn X dL_times_10 nw_fL_13 nw_p4_0 rfl (fun _ => rfl) (fun _ => rfl) (by first | decide | exact Nat.le_of_ble_eq_true rfl) ?_
  refine ne_ws wr_st ?_
  refine ne_goto (tgt := 24) X dL_times_13 rfl ?_
  refine ne_iconst X dL_times_24 ?_
  exact ne_iret X hr (by first | rfl | decide | rfl) dL_times_25 ⟨_, _, _, _, _, _, rfl, hI1, _, rfl, Or.inr (Or.inr ⟨rfl, lb, ⟨⟨g1.1, g1.2.1⟩, g1.2.2⟩, rfl, rfl, rfl, ⟨_, rfl, g3⟩, hq, zv, g2⟩)⟩
set_option maxRecDepth 100000 in
set_option maxHeartbeats 4000000 in
theorem me_L_spoke (l : Launch) (hl : l.stackTraces = false) (c q t b k n h x y : Nat → Int) (T : Int) (hI : cI c q t b k n h x y T) (hT : 0 ≤ T ∧ T ≤ 1000) (u : Int) (s : Value) (hs : s = .null ∨ s = .ref 13) (i1 i2 : Int) (hi1 : -2147483648 ≤ i1 ∧ i1 < 2147483648) (hi2 : -2147483648 ≤ i2 ∧ i2 < 2147483648) : ne_M l nw_cl (.codeWith yL_spoke cL_spoke 5 (some .int) [(0, 11, 14, 19), (0, 11, 18, 21)]) nw_T yL_spoke 13 560 230 600 [.ref 0, ni i1, ni i2, .ref 12] (cW c q t b k n h x y ++ [some (.inr (4, [nl u, s])), none]) (fun v w => ∃ x1 y1 u1, w = cW c q t b k n h x1 y1 ++ [some (.inr (4, [nl u1, s])), none] ∧ cI c q t b k n h x1 y1 (T + 1) ∧ ∃ z : Int, v = some (ni z)) (fun _ _ => False) := by
  refine ne_meetW (own := RL) hl rfl wr_pl (Nat.le_of_ble_eq_true rfl) ?_
  intro D ct A P9 V9 R9 S9 M9 as9 bl9 mt9 C9 ad0 X hr hin ht
  have hcw : ne_cw 14 (cW c q t b k n h x y ++ [some (.inr (4, [nl u, s])), none]) = true := by rcases hs with rfl | rfl <;> rfl
  refine ne_aload_n X dL_spoke_0 rfl ?_
  refine ne_aload_n X dL_spoke_1 rfl ?_
  refine ne_iload_n X dL_spoke_2 rfl ?_
  refine ne_iload_n X dL_spoke_3 rfl ?_
  refine ne_callVF (is := [0, 1, 2, 3, 4, 5, 6, 7, 8, 9, 10, 11]) X nw_Tg (me_X1_spoke l hl c q t b k n h x y T hI hT i1 i2 hi1 hi2) nw_yX1_spoke nw_mL_123 nw_iX1_spoke nw_eX1_spoke (ci := 3) rfl rfl rfl dL_spoke_4 rfl rfl (by decide) (by decide) (by first | decide | omega) (by first | decide | omega) (Nat.le_of_ble_eq_true rfl) hcw rfl rfl (Nat.le_of_ble_eq_true rfl) wr_pt ?_ ?_
  rotate_left
  · rintro E9 w9 ⟨rfl, rfl | rfl⟩
    · refine ne_wsT wr_mg ?_
      refine ne_catch (name := "java/lang/IndexOutOfBoundsException") (pre := []) (x := ⟨0, 11, 14, 19⟩) (suf := [⟨0, 11, 18, 21⟩]) X ht (fun z hz => by cases hz) rfl (by decide) nw_qL_19 wr_cI (Nat.le_of_ble_eq_true rfl) hcw rfl ?_
      refine ne_astore X dL_spoke_14 (by decide) ?_
      refine ne_iconst X dL_spoke_16 ?_
      refine ne_take 14 ?_
      refine ne_ws (ws' := cW c q t b k n h x y ++ [some (.inr (4, [_, _])), none]) rfl ?_
      exact ne_iret X hr (by first | rfl | decide | rfl) dL_spoke_17 ⟨_, _, _, rfl, cI_mono hI (by omega), _, rfl⟩
    · refine ne_wsT wr_mg ?_
      refine ne_catch (name := "java/lang/IllegalArgumentException") (pre := [⟨0, 11, 14, 19⟩]) (x := ⟨0, 11, 18, 21⟩) (suf := []) X ht (fun z hz => by
        rw [List.mem_singleton] at hz; subst hz
        exact Or.inr ⟨by decide, "java/lang/IndexOutOfBoundsException", nw_qL_19, wr_cb⟩) rfl (by decide) nw_qL_21 wr_cA (Nat.le_of_ble_eq_true rfl) hcw rfl ?_
      refine ne_astore X dL_spoke_18 (by decide) ?_
      refine ne_iconst X dL_spoke_20 ?_
      refine ne_take 14 ?_
      refine ne_ws (ws' := cW c q t b k n h x y ++ [some (.inr (4, [_, _])), none]) rfl ?_
      exact ne_iret X hr (by first | rfl | decide | rfl) dL_spoke_21 ⟨_, _, _, rfl, cI_mono hI (by omega), _, rfl⟩
  rintro v4 w4 ⟨⟨x1, y1, rfl, hI1⟩, z4, rfl, g4⟩
  refine ne_ws wr_mg ?_
  refine ne_wrapI (fun y4 l4 r4 q4 => ?_)
  refine ne_i2l (by omega) X dL_spoke_7 ?_
  refine ne_putfn X dL_spoke_8 nw_fL_13 nw_p4_0 rfl (fun _ => rfl) (fun _ => rfl) (by first | decide | exact Nat.le_of_ble_eq_true rfl) ?_
  refine ne_ws wr_st ?_
  refine ne_goto (tgt := 22) X dL_spoke_11 rfl ?_
  refine ne_iconst X dL_spoke_22 ?_
  exact ne_iret X hr (by first | rfl | decide | rfl) dL_spoke_23 ⟨_, _, _, rfl, hI1, _, rfl⟩
set_option maxRecDepth 100000 in
set_option maxHeartbeats 4000000 in
theorem me_L_lowest (l : Launch) (hl : l.stackTraces = false) (c q t b k n h x y : Nat → Int) (T : Int) (hI : cI c q t b k n h x y T) (hT : 0 ≤ T ∧ T ≤ 1000) (u : Int) (s : Value) (hs : s = .null ∨ s = .ref 13) (i1 : Int) (hi1 : -2147483648 ≤ i1 ∧ i1 < 2147483648) : ne_M l nw_cl (.codeWith yL_lowest cL_lowest 4 (some .int) [(0, 10, 13, 19)]) nw_T yL_lowest 13 560 230 600 [.ref 0, ni i1, .ref 12] (cW c q t b k n h x y ++ [some (.inr (4, [nl u, s])), none]) (fun v w => ∃ x1 y1 u1, w = cW c q t b k n h x1 y1 ++ [some (.inr (4, [nl u1, s])), none] ∧ cI c q t b k n h x1 y1 (T + 1) ∧ ∃ z : Int, v = some (ni z)) (fun _ _ => False) := by
  refine ne_meetW (own := RL) hl rfl wr_pl (Nat.le_of_ble_eq_true rfl) ?_
  intro D ct A P9 V9 R9 S9 M9 as9 bl9 mt9 C9 ad0 X hr hin ht
  have hcw : ne_cw 14 (cW c q t b k n h x y ++ [some (.inr (4, [nl u, s])), none]) = true := by rcases hs with rfl | rfl <;> rfl
  refine ne_aload_n X dL_lowest_0 rfl ?_
  refine ne_aload_n X dL_lowest_1 rfl ?_
  refine ne_iload_n X dL_lowest_2 rfl ?_
  refine ne_callVF (is := [0, 1, 2, 3, 4, 5, 6, 7, 8, 9, 10, 11]) X nw_Tg (me_X1_lowestS l hl c q t b k n h x y T hI hT i1 hi1) nw_yX1_lowest nw_mL_126 nw_iX1_lowest nw_eX1_lowest (ci := 3) rfl rfl rfl dL_lowest_3 rfl rfl (by decide) (by decide) (by first | decide | omega) (by first | decide | omega) (Nat.le_of_ble_eq_true rfl) hcw rfl rfl (Nat.le_of_ble_eq_true rfl) wr_pt ?_ ?_
  rotate_left
  · rintro E9 w9 ⟨rfl, rfl⟩
    refine ne_wsT wr_mg ?_
    refine ne_catch (name := "java/lang/IndexOutOfBoundsException") (pre := []) (x := ⟨0, 10, 13, 19⟩) (suf := []) X ht (fun z hz => by cases hz) rfl (by decide) nw_qL_19 wr_cI (Nat.le_of_ble_eq_true rfl) hcw rfl ?_
    refine ne_astore_n X dL_lowest_13 rfl (by decide) ?_
    refine ne_iconst X dL_lowest_14 ?_
    refine ne_take 14 ?_
    refine ne_ws (ws' := cW c q t b k n h x y ++ [some (.inr (4, [_, _])), none]) rfl ?_
    exact ne_iret X hr (by first | rfl | decide | rfl) dL_lowest_15 ⟨_, _, _, rfl, cI_mono hI (by omega), _, rfl⟩
  rintro v3 w3 ⟨⟨x1, y1, rfl, hI1⟩, z3, rfl, g3⟩
  refine ne_ws wr_mg ?_
  refine ne_wrapI (fun y3 l3 r3 q3 => ?_)
  refine ne_i2l (by omega) X dL_lowest_6 ?_
  refine ne_putfn X dL_lowest_7 nw_fL_13 nw_p4_0 rfl (fun _ => rfl) (fun _ => rfl) (by first | decide | exact Nat.le_of_ble_eq_true rfl) ?_
  refine ne_ws wr_st ?_
  refine ne_goto (tgt := 16) X dL_lowest_10 rfl ?_
  refine ne_iconst X dL_lowest_16 ?_
  exact ne_iret X hr (by first | rfl | decide | rfl) dL_lowest_17 ⟨_, _, _, rfl, hI1, _, rfl⟩
set_option maxRecDepth 100000 in
set_option maxHeartbeats 4000000 in
theorem me_L_tens (l : Launch) (hl : l.stackTraces = false) (c q t b k n h x y : Nat → Int) (T : Int) (hI : cI c q t b k n h x y T) (hT : 0 ≤ T ∧ T ≤ 1000) (u : Int) (s : Value) (hs : s = .null ∨ s = .ref 13) (a : Int) (ha : -2147483648 ≤ a ∧ a < 2147483648) : ne_M l nw_cl (.codeWith yL_tens cL_tens 4 (some .int) [(0, 10, 13, 21)]) nw_T yL_tens 13 560 230 600 [.ref 0, ni a, .ref 12] (cW c q t b k n h x y ++ [some (.inr (4, [nl u, s])), none]) (fun v w => ∃ u1, w = cW c q t b k n h x y ++ [some (.inr (4, [nl u1, s])), none] ∧ ∃ z : Int, v = some (ni z) ∧ ((z = 1 ∧ (a < 1 ∨ 99 < a ∨ a.tmod 2 = 0 ∨ a.tmod 5 = 0)) ∨ (z = 0 ∧ (1 ≤ a ∧ a ≤ 99 ∧ a.tmod 2 ≠ 0 ∧ a.tmod 5 ≠ 0) ∧ 1 ≤ u1 ∧ u1 ≤ 96 ∧ (∀ m : Nat, 0 < m → (m : Int) < u1 → ne_rs ((1 : Int).tmod a) a m ≠ (1 : Int).tmod a) ∧ (ne_rs ((1 : Int).tmod a) a u1.toNat = (1 : Int).tmod a ∨ u1 = 96)))) (fun _ _ => False) := by
  refine ne_meetW (own := RL) hl rfl wr_pl (Nat.le_of_ble_eq_true rfl) ?_
  intro D ct A P9 V9 R9 S9 M9 as9 bl9 mt9 C9 ad0 X hr hin ht
  have hcw : ne_cw 14 (cW c q t b k n h x y ++ [some (.inr (4, [nl u, s])), none]) = true := by rcases hs with rfl | rfl <;> rfl
  refine ne_aload_n X dL_tens_0 rfl ?_
  refine ne_aload_n X dL_tens_1 rfl ?_
  refine ne_iload_n X dL_tens_2 rfl ?_
  refine ne_callVF (is := [0, 1, 2, 3, 4, 5, 6, 7, 8, 9, 10, 11]) X nw_Tg (me_X1_tensS l hl c q t b k n h x y T hI hT a ha) nw_yX1_tens nw_mL_129 nw_iX1_tens nw_eX1_tens (ci := 3) rfl rfl rfl dL_tens_3 rfl rfl (by decide) (by decide) (by first | decide | omega) (by first | decide | omega) (Nat.le_of_ble_eq_true rfl) hcw rfl rfl (Nat.le_of_ble_eq_true rfl) wr_pt ?_ ?_
  rotate_left
  · rintro E9 w9 ⟨rfl, rfl, g99⟩
    refine ne_wsT wr_mg ?_
    refine ne_catch (name := "java/lang/IllegalArgumentException") (pre := []) (x := ⟨0, 10, 13, 21⟩) (suf := []) X ht (fun z hz => by cases hz) rfl (by decide) nw_qL_21 wr_cA (Nat.le_of_ble_eq_true rfl) hcw rfl ?_
    refine ne_astore_n X dL_tens_13 rfl (by decide) ?_
    refine ne_iconst X dL_tens_14 ?_
    refine ne_take 14 ?_
    refine ne_ws (ws' := cW c q t b k n h x y ++ [some (.inr (4, [_, _])), none]) rfl ?_
    exact ne_iret X hr (by first | rfl | decide | rfl) dL_tens_15 ⟨_, rfl, _, rfl, Or.inl ⟨rfl, g99⟩⟩
  rintro v3 w3 ⟨rfl, z3, rfl, g3⟩
  refine ne_ws wr_mg ?_
  refine ne_i2l (by omega) X dL_tens_6 ?_
  refine ne_putfn X dL_tens_7 nw_fL_13 nw_p4_0 rfl (fun _ => rfl) (fun _ => rfl) (by first | decide | exact Nat.le_of_ble_eq_true rfl) ?_
  refine ne_ws wr_st ?_
  refine ne_goto (tgt := 16) X dL_tens_10 rfl ?_
  refine ne_iconst X dL_tens_16 ?_
  exact ne_iret X hr (by first | rfl | decide | rfl) dL_tens_17 ⟨_, rfl, _, rfl, Or.inr ⟨rfl, g3⟩⟩
set_option maxRecDepth 100000 in
set_option maxHeartbeats 4000000 in
theorem me_L_restAt (l : Launch) (hl : l.stackTraces = false) (c q t b k n h x y : Nat → Int) (T : Int) (hI : cI c q t b k n h x y T) (hT : 0 ≤ T ∧ T ≤ 1000) (u : Int) (s : Value) (hs : s = .null ∨ s = .ref 13) (i1 i2 : Int) (hi1 : -2147483648 ≤ i1 ∧ i1 < 2147483648) (hi2 : -2147483648 ≤ i2 ∧ i2 < 2147483648) : ne_M l nw_cl (.codeWith yL_restAt cL_restAt 5 (some .int) [(0, 11, 14, 19), (0, 11, 18, 21)]) nw_T yL_restAt 13 560 230 600 [.ref 0, ni i1, ni i2, .ref 12] (cW c q t b k n h x y ++ [some (.inr (4, [nl u, s])), none]) (fun v w => ∃ x1 y1 u1, w = cW c q t b k n h x1 y1 ++ [some (.inr (4, [nl u1, s])), none] ∧ cI c q t b k n h x1 y1 (T + 1) ∧ ∃ z : Int, v = some (ni z)) (fun _ _ => False) := by
  refine ne_meetW (own := RL) hl rfl wr_pl (Nat.le_of_ble_eq_true rfl) ?_
  intro D ct A P9 V9 R9 S9 M9 as9 bl9 mt9 C9 ad0 X hr hin ht
  have hcw : ne_cw 14 (cW c q t b k n h x y ++ [some (.inr (4, [nl u, s])), none]) = true := by rcases hs with rfl | rfl <;> rfl
  refine ne_aload_n X dL_restAt_0 rfl ?_
  refine ne_aload_n X dL_restAt_1 rfl ?_
  refine ne_iload_n X dL_restAt_2 rfl ?_
  refine ne_iload_n X dL_restAt_3 rfl ?_
  refine ne_callVF (is := [0, 1, 2, 3, 4, 5, 6, 7, 8, 9, 10, 11]) X nw_Tg (me_X1_restAt l hl c q t b k n h x y T hI hT i1 i2 hi1 hi2) nw_yX1_restAt nw_mL_132 nw_iX1_restAt nw_eX1_restAt (ci := 3) rfl rfl rfl dL_restAt_4 rfl rfl (by decide) (by decide) (by first | decide | omega) (by first | decide | omega) (Nat.le_of_ble_eq_true rfl) hcw rfl rfl (Nat.le_of_ble_eq_true rfl) wr_pt ?_ ?_
  rotate_left
  · rintro E9 w9 ⟨rfl, rfl | rfl⟩
    · refine ne_wsT wr_mg ?_
      refine ne_catch (name := "java/lang/IndexOutOfBoundsException") (pre := []) (x := ⟨0, 11, 14, 19⟩) (suf := [⟨0, 11, 18, 21⟩]) X ht (fun z hz => by cases hz) rfl (by decide) nw_qL_19 wr_cI (Nat.le_of_ble_eq_true rfl) hcw rfl ?_
      refine ne_astore X dL_restAt_14 (by decide) ?_
      refine ne_iconst X dL_restAt_16 ?_
      refine ne_take 14 ?_
      refine ne_ws (ws' := cW c q t b k n h x y ++ [some (.inr (4, [_, _])), none]) rfl ?_
      exact ne_iret X hr (by first | rfl | decide | rfl) dL_restAt_17 ⟨_, _, _, rfl, cI_mono hI (by omega), _, rfl⟩
    · refine ne_wsT wr_mg ?_
      refine ne_catch (name := "java/lang/IllegalArgumentException") (pre := [⟨0, 11, 14, 19⟩]) (x := ⟨0, 11, 18, 21⟩) (suf := []) X ht (fun z hz => by
        rw [List.mem_singleton] at hz; subst hz
        exact Or.inr ⟨by decide, "java/lang/IndexOutOfBoundsException", nw_qL_19, wr_cb⟩) rfl (by decide) nw_qL_21 wr_cA (Nat.le_of_ble_eq_true rfl) hcw rfl ?_
      refine ne_astore X dL_restAt_18 (by decide) ?_
      refine ne_iconst X dL_restAt_20 ?_
      refine ne_take 14 ?_
      refine ne_ws (ws' := cW c q t b k n h x y ++ [some (.inr (4, [_, _])), none]) rfl ?_
      exact ne_iret X hr (by first | rfl | decide | rfl) dL_restAt_21 ⟨_, _, _, rfl, cI_mono hI (by omega), _, rfl⟩
  rintro v4 w4 ⟨⟨x1, y1, rfl, hI1⟩, z4, rfl, g4⟩
  refine ne_ws wr_mg ?_
  refine ne_wrapI (fun y4 l4 r4 q4 => ?_)
  refine ne_i2l (by omega) X dL_restAt_7 ?_
  refine ne_putfn X dL_restAt_8 nw_fL_13 nw_p4_0 rfl (fun _ => rfl) (fun _ => rfl) (by first | decide | exact Nat.le_of_ble_eq_true rfl) ?_
  refine ne_ws wr_st ?_
  refine ne_goto (tgt := 22) X dL_restAt_11 rfl ?_
  refine ne_iconst X dL_restAt_22 ?_
  exact ne_iret X hr (by first | rfl | decide | rfl) dL_restAt_23 ⟨_, _, _, rfl, hI1, _, rfl⟩
set_option maxRecDepth 100000 in
set_option maxHeartbeats 4000000 in
theorem me_L_digitsFrom (l : Launch) (hl : l.stackTraces = false) (c q t b k n h x y : Nat → Int) (T : Int) (hI : cI c q t b k n h x y T) (hT : 0 ≤ T ∧ T ≤ 1000) (u : Int) (s : Value) (hs : s = .null ∨ s = .ref 13) (i1 i2 i3 : Int) (hi1 : -2147483648 ≤ i1 ∧ i1 < 2147483648) (hi2 : -2147483648 ≤ i2 ∧ i2 < 2147483648) (hi3 : -2147483648 ≤ i3 ∧ i3 < 2147483648) : ne_M l nw_cl (.codeWith yL_digitsFrom cL_digitsFrom 6 (some .int) [(0, 12, 15, 19), (0, 12, 19, 21)]) nw_T yL_digitsFrom 13 560 230 600 [.ref 0, ni i1, ni i2, ni i3, .ref 12] (cW c q t b k n h x y ++ [some (.inr (4, [nl u, s])), none]) (fun v w => ∃ x1 y1 u1 s1, w = cW c q t b k n h x1 y1 ++ [some (.inr (4, [nl u1, s1])), none, none] ∧ cI c q t b k n h x1 y1 (T + 1) ∧ (s1 = s ∨ s1 = .ref 14) ∧ ∃ z : Int, v = some (ni z)) (fun _ _ => False) := by
  refine ne_meetW (own := RL) hl rfl wr_pl (Nat.le_of_ble_eq_true rfl) ?_
  intro D ct A P9 V9 R9 S9 M9 as9 bl9 mt9 C9 ad0 X hr hin ht
  have hcw : ne_cw 14 (cW c q t b k n h x y ++ [some (.inr (4, [nl u, s])), none]) = true := by rcases hs with rfl | rfl <;> rfl
  refine ne_aload X dL_digitsFrom_0 rfl ?_
  refine ne_aload_n X dL_digitsFrom_2 rfl ?_
  refine ne_iload_n X dL_digitsFrom_3 rfl ?_
  refine ne_iload_n X dL_digitsFrom_4 rfl ?_
  refine ne_iload_n X dL_digitsFrom_5 rfl ?_
  refine ne_callVF (is := [0, 1, 2, 3, 4, 5, 6, 7, 8, 9, 10, 11]) X nw_Tg (me_X1_digitsFrom l hl c q t b k n h x y T hI hT i1 i2 i3 hi1 hi2 hi3) nw_yX1_digitsFrom nw_mL_135 nw_iX1_digitsFrom nw_eX1_digitsFrom (ci := 3) rfl rfl rfl dL_digitsFrom_6 rfl rfl (by decide) (by decide) (by first | decide | omega) (by first | decide | omega) (Nat.le_of_ble_eq_true rfl) hcw rfl rfl (Nat.le_of_ble_eq_true rfl) (ne_ptb rfl (by decide +kernel) rfl) ?_ ?_
  rotate_left
  · rintro E9 w9 ⟨rfl, rfl | rfl⟩
    · refine ne_wsT (ws' := cW c q t b k n h x y ++ [some (.inr (4, [_, _])), none]) rfl ?_
      refine ne_catch (name := "java/lang/IndexOutOfBoundsException") (pre := []) (x := ⟨0, 12, 15, 19⟩) (suf := [⟨0, 12, 19, 21⟩]) X ht (fun z hz => by cases hz) rfl (by decide) nw_qL_19 wr_cI (Nat.le_of_ble_eq_true rfl) hcw rfl ?_
      refine ne_astore X dL_digitsFrom_15 (by decide) ?_
      refine ne_iconst X dL_digitsFrom_17 ?_
      refine ne_ws (ws' := cW c q t b k n h x y ++ [some (.inr (4, [_, _])), none, none]) rfl ?_
      exact ne_iret X hr (by first | rfl | decide | rfl) dL_digitsFrom_18 ⟨_, _, _, _, rfl, cI_mono hI (by omega), Or.inl rfl, _, rfl⟩
    · refine ne_wsT (ws' := cW c q t b k n h x y ++ [some (.inr (4, [_, _])), none]) rfl ?_
      refine ne_catch (name := "java/lang/IllegalArgumentException") (pre := [⟨0, 12, 15, 19⟩]) (x := ⟨0, 12, 19, 21⟩) (suf := []) X ht (fun z hz => by
        rw [List.mem_singleton] at hz; subst hz
        exact Or.inr ⟨by decide, "java/lang/IndexOutOfBoundsException", nw_qL_19, wr_cb⟩) rfl (by decide) nw_qL_21 wr_cA (Nat.le_of_ble_eq_true rfl) hcw rfl ?_
      refine ne_astore X dL_digitsFrom_19 (by decide) ?_
      refine ne_iconst X dL_digitsFrom_21 ?_
      refine ne_ws (ws' := cW c q t b k n h x y ++ [some (.inr (4, [_, _])), none, none]) rfl ?_
      exact ne_iret X hr (by first | rfl | decide | rfl) dL_digitsFrom_22 ⟨_, _, _, _, rfl, cI_mono hI (by omega), Or.inl rfl, _, rfl⟩
  rintro v6 w6 ⟨⟨x1, y1, rfl, hI1⟩, rfl⟩
  refine ne_ws (ws' := cW c q t b k n h x1 y1 ++ [some (.inr (4, [_, _])), none] ++ [none]) rfl ?_
  refine ne_putfn X dL_digitsFrom_9 nw_fL_100 nw_p4_1 rfl (fun _ => rfl) (fun _ => rfl) (by first | decide | exact Nat.le_of_ble_eq_true rfl) ?_
  refine ne_ws (ws' := cW c q t b k n h x1 y1 ++ [some (.inr (4, [_, _])), none, none]) rfl ?_
  refine ne_goto (tgt := 23) X dL_digitsFrom_12 rfl ?_
  refine ne_iconst X dL_digitsFrom_23 ?_
  exact ne_iret X hr (by first | rfl | decide | rfl) dL_digitsFrom_24 ⟨_, _, _, _, rfl, hI1, Or.inr rfl, _, rfl⟩
set_option maxRecDepth 100000 in
set_option maxHeartbeats 4000000 in
theorem me_L_cutText (l : Launch) (hl : l.stackTraces = false) (c q t b k n h x y : Nat → Int) (T : Int) (hI : cI c q t b k n h x y T) (hT : 0 ≤ T ∧ T ≤ 1000) (u : Int) (s : Value) (hs : s = .null ∨ s = .ref 13) (i1 i2 i3 i4 : Int) (hi1 : -2147483648 ≤ i1 ∧ i1 < 2147483648) (hi2 : 0 ≤ i2 ∧ i2 ≤ 1) (hi3 : -2147483648 ≤ i3 ∧ i3 < 2147483648) (hi4 : -2147483648 ≤ i4 ∧ i4 < 2147483648) : ne_M l nw_cl (.codeWith yL_cutText cL_cutText 7 (some .int) [(0, 14, 17, 19), (0, 14, 21, 21)]) nw_T yL_cutText 13 560 230 600 [.ref 0, ni i1, ni i2, ni i3, ni i4, .ref 12] (cW c q t b k n h x y ++ [some (.inr (4, [nl u, s])), none]) (fun v w => ∃ x1 y1 u1 s1, w = cW c q t b k n h x1 y1 ++ [some (.inr (4, [nl u1, s1])), none, none] ∧ cI c q t b k n h x1 y1 (T + 1) ∧ (s1 = s ∨ s1 = .ref 14) ∧ ∃ z : Int, v = some (ni z)) (fun _ _ => False) := by
  refine ne_meetW (own := RL) hl rfl wr_pl (Nat.le_of_ble_eq_true rfl) ?_
  intro D ct A P9 V9 R9 S9 M9 as9 bl9 mt9 C9 ad0 X hr hin ht
  have hcw : ne_cw 14 (cW c q t b k n h x y ++ [some (.inr (4, [nl u, s])), none]) = true := by rcases hs with rfl | rfl <;> rfl
  refine ne_aload X dL_cutText_0 rfl ?_
  refine ne_aload_n X dL_cutText_2 rfl ?_
  refine ne_iload_n X dL_cutText_3 rfl ?_
  refine ne_iload_n X dL_cutText_4 rfl ?_
  refine ne_iload_n X dL_cutText_5 rfl ?_
  refine ne_iload X dL_cutText_6 rfl ?_
  refine ne_callVF (is := [0, 1, 2, 3, 4, 5, 6, 7, 8, 9, 10, 11]) X nw_Tg (me_X1_cutText l hl c q t b k n h x y T hI hT i1 i2 i3 i4 hi1 hi2 hi3 hi4) nw_yX1_cutText nw_mL_139 nw_iX1_cutText nw_eX1_cutText (ci := 3) rfl rfl rfl dL_cutText_8 rfl rfl (by decide) (by decide) (by first | decide | omega) (by first | decide | omega) (Nat.le_of_ble_eq_true rfl) hcw rfl rfl (Nat.le_of_ble_eq_true rfl) (ne_ptb rfl (by decide +kernel) rfl) ?_ ?_
  rotate_left
  · rintro E9 w9 ⟨rfl, rfl | rfl⟩
    · refine ne_wsT (ws' := cW c q t b k n h x y ++ [some (.inr (4, [_, _])), none]) rfl ?_
      refine ne_catch (name := "java/lang/IndexOutOfBoundsException") (pre := []) (x := ⟨0, 14, 17, 19⟩) (suf := [⟨0, 14, 21, 21⟩]) X ht (fun z hz => by cases hz) rfl (by decide) nw_qL_19 wr_cI (Nat.le_of_ble_eq_true rfl) hcw rfl ?_
      refine ne_astore X dL_cutText_17 (by decide) ?_
      refine ne_iconst X dL_cutText_19 ?_
      refine ne_ws (ws' := cW c q t b k n h x y ++ [some (.inr (4, [_, _])), none, none]) rfl ?_
      exact ne_iret X hr (by first | rfl | decide | rfl) dL_cutText_20 ⟨_, _, _, _, rfl, cI_mono hI (by omega), Or.inl rfl, _, rfl⟩
    · refine ne_wsT (ws' := cW c q t b k n h x y ++ [some (.inr (4, [_, _])), none]) rfl ?_
      refine ne_catch (name := "java/lang/IllegalArgumentException") (pre := [⟨0, 14, 17, 19⟩]) (x := ⟨0, 14, 21, 21⟩) (suf := []) X ht (fun z hz => by
        rw [List.mem_singleton] at hz; subst hz
        exact Or.inr ⟨by decide, "java/lang/IndexOutOfBoundsException", nw_qL_19, wr_cb⟩) rfl (by decide) nw_qL_21 wr_cA (Nat.le_of_ble_eq_true rfl) hcw rfl ?_
      refine ne_astore X dL_cutText_21 (by decide) ?_
      refine ne_iconst X dL_cutText_23 ?_
      refine ne_ws (ws' := cW c q t b k n h x y ++ [some (.inr (4, [_, _])), none, none]) rfl ?_
      exact ne_iret X hr (by first | rfl | decide | rfl) dL_cutText_24 ⟨_, _, _, _, rfl, cI_mono hI (by omega), Or.inl rfl, _, rfl⟩
  rintro v8 w8 ⟨⟨x1, y1, rfl, hI1⟩, rfl⟩
  refine ne_ws (ws' := cW c q t b k n h x1 y1 ++ [some (.inr (4, [_, _])), none] ++ [none]) rfl ?_
  refine ne_putfn X dL_cutText_11 nw_fL_100 nw_p4_1 rfl (fun _ => rfl) (fun _ => rfl) (by first | decide | exact Nat.le_of_ble_eq_true rfl) ?_
  refine ne_ws (ws' := cW c q t b k n h x1 y1 ++ [some (.inr (4, [_, _])), none, none]) rfl ?_
  refine ne_goto (tgt := 25) X dL_cutText_14 rfl ?_
  refine ne_iconst X dL_cutText_25 ?_
  exact ne_iret X hr (by first | rfl | decide | rfl) dL_cutText_26 ⟨_, _, _, _, rfl, hI1, Or.inr rfl, _, rfl⟩
set_option maxRecDepth 100000 in
set_option maxHeartbeats 4000000 in
theorem me_L_number (l : Launch) (hl : l.stackTraces = false) (c q t b k n h x y : Nat → Int) (T : Int) (hI : cI c q t b k n h x y T) (hT : 0 ≤ T ∧ T ≤ 1000) (u : Int) (s : Value) (hs : s = .null ∨ s = .ref 13) (i1 : Int) (hi1 : -2147483648 ≤ i1 ∧ i1 < 2147483648) : ne_M l nw_cl (.codeWith yL_number cL_number 4 (some .int) [(0, 9, 12, 19)]) nw_T yL_number 13 560 230 600 [.ref 0, ni i1, .ref 12] (cW c q t b k n h x y ++ [some (.inr (4, [nl u, s])), none]) (fun v w => ∃ x1 y1 u1 s1, w = cW c q t b k n h x1 y1 ++ [some (.inr (4, [nl u1, s1])), none, none] ∧ cI c q t b k n h x1 y1 (T + 1) ∧ (s1 = s ∨ s1 = .ref 14) ∧ ∃ z : Int, v = some (ni z)) (fun _ _ => False) := by
  refine ne_meetW (own := RL) hl rfl wr_pl (Nat.le_of_ble_eq_true rfl) ?_
  intro D ct A P9 V9 R9 S9 M9 as9 bl9 mt9 C9 ad0 X hr hin ht
  have hcw : ne_cw 14 (cW c q t b k n h x y ++ [some (.inr (4, [nl u, s])), none]) = true := by rcases hs with rfl | rfl <;> rfl
  refine ne_aload_n X dL_number_0 rfl ?_
  refine ne_aload_n X dL_number_1 rfl ?_
  refine ne_iload_n X dL_number_2 rfl ?_
  refine ne_callVF (is := [0, 1, 2, 3, 4, 5, 6, 7, 8, 9, 10, 11]) X nw_Tg (me_X1_numberS l hl c q t b k n h x y T hI hT i1 hi1) nw_yX1_number nw_mL_143 nw_iX1_number nw_eX1_number (ci := 3) rfl rfl rfl dL_number_3 rfl rfl (by decide) (by decide) (by first | decide | omega) (by first | decide | omega) (Nat.le_of_ble_eq_true rfl) hcw rfl rfl (Nat.le_of_ble_eq_true rfl) (ne_ptb rfl (by decide +kernel) rfl) ?_ ?_
  rotate_left
  · rintro E9 w9 ⟨rfl, rfl⟩
    refine ne_wsT (ws' := cW c q t b k n h x y ++ [some (.inr (4, [_, _])), none]) rfl ?_
    refine ne_catch (name := "java/lang/IndexOutOfBoundsException") (pre := []) (x := ⟨0, 9, 12, 19⟩) (suf := []) X ht (fun z hz => by cases hz) rfl (by decide) nw_qL_19 wr_cI (Nat.le_of_ble_eq_true rfl) hcw rfl ?_
    refine ne_astore_n X dL_number_12 rfl (by decide) ?_
    refine ne_iconst X dL_number_13 ?_
    refine ne_ws (ws' := cW c q t b k n h x y ++ [some (.inr (4, [_, _])), none, none]) rfl ?_
    exact ne_iret X hr (by first | rfl | decide | rfl) dL_number_14 ⟨_, _, _, _, rfl, cI_mono hI (by omega), Or.inl rfl, _, rfl⟩
  rintro v3 w3 ⟨⟨x1, y1, rfl, hI1⟩, rfl⟩
  refine ne_ws (ws' := cW c q t b k n h x1 y1 ++ [some (.inr (4, [_, _])), none] ++ [none]) rfl ?_
  refine ne_putfn X dL_number_6 nw_fL_100 nw_p4_1 rfl (fun _ => rfl) (fun _ => rfl) (by first | decide | exact Nat.le_of_ble_eq_true rfl) ?_
  refine ne_ws (ws' := cW c q t b k n h x1 y1 ++ [some (.inr (4, [_, _])), none, none]) rfl ?_
  refine ne_goto (tgt := 15) X dL_number_9 rfl ?_
  refine ne_iconst X dL_number_15 ?_
  exact ne_iret X hr (by first | rfl | decide | rfl) dL_number_16 ⟨_, _, _, _, rfl, hI1, Or.inr rfl, _, rfl⟩
set_option maxRecDepth 100000 in
set_option maxHeartbeats 4000000 in
theorem me_L_product (l : Launch) (hl : l.stackTraces = false) (c q t b k n h x y : Nat → Int) (T : Int) (hI : cI c q t b k n h x y T) (hT : 0 ≤ T ∧ T ≤ 1000) (u : Int) (s : Value) (hs : s = .null ∨ s = .ref 13) (i1 : Int) (hi1 : -2147483648 ≤ i1 ∧ i1 < 2147483648) : ne_M l nw_cl (.codeWith yL_product cL_product 4 (some .int) [(0, 9, 12, 19)]) nw_T yL_product 13 560 230 600 [.ref 0, ni i1, .ref 12] (cW c q t b k n h x y ++ [some (.inr (4, [nl u, s])), none]) (fun v w => ∃ x1 y1 u1 s1, w = cW c q t b k n h x1 y1 ++ [some (.inr (4, [nl u1, s1])), none, none] ∧ cI c q t b k n h x1 y1 (T + 1) ∧ (s1 = s ∨ s1 = .ref 14) ∧ ∃ z : Int, v = some (ni z)) (fun _ _ => False) := by
  refine ne_meetW (own := RL) hl rfl wr_pl (Nat.le_of_ble_eq_true rfl) ?_
  intro D ct A P9 V9 R9 S9 M9 as9 bl9 mt9 C9 ad0 X hr hin ht
  have hcw : ne_cw 14 (cW c q t b k n h x y ++ [some (.inr (4, [nl u, s])), none]) = true := by rcases hs with rfl | rfl <;> rfl
  refine ne_aload_n X dL_product_0 rfl ?_
  refine ne_aload_n X dL_product_1 rfl ?_
  refine ne_iload_n X dL_product_2 rfl ?_
  refine ne_callVF (is := [0, 1, 2, 3, 4, 5, 6, 7, 8, 9, 10, 11]) X nw_Tg (me_X1_productS l hl c q t b k n h x y T hI hT i1 hi1) nw_yX1_product nw_mL_147 nw_iX1_product nw_eX1_product (ci := 3) rfl rfl rfl dL_product_3 rfl rfl (by decide) (by decide) (by first | decide | omega) (by first | decide | omega) (Nat.le_of_ble_eq_true rfl) hcw rfl rfl (Nat.le_of_ble_eq_true rfl) (ne_ptb rfl (by decide +kernel) rfl) ?_ ?_
  rotate_left
  · rintro E9 w9 ⟨rfl, rfl⟩
    refine ne_wsT (ws' := cW c q t b k n h x y ++ [some (.inr (4, [_, _])), none]) rfl ?_
    refine ne_catch (name := "java/lang/IndexOutOfBoundsException") (pre := []) (x := ⟨0, 9, 12, 19⟩) (suf := []) X ht (fun z hz => by cases hz) rfl (by decide) nw_qL_19 wr_cI (Nat.le_of_ble_eq_true rfl) hcw rfl ?_
    refine ne_astore_n X dL_product_12 rfl (by decide) ?_
    refine ne_iconst X dL_product_13 ?_
    refine ne_ws (ws' := cW c q t b k n h x y ++ [some (.inr (4, [_, _])), none, none]) rfl ?_
    exact ne_iret X hr (by first | rfl | decide | rfl) dL_product_14 ⟨_, _, _, _, rfl, cI_mono hI (by omega), Or.inl rfl, _, rfl⟩
  rintro v3 w3 ⟨⟨x1, y1, rfl, hI1⟩, rfl⟩
  refine ne_ws (ws' := cW c q t b k n h x1 y1 ++ [some (.inr (4, [_, _])), none] ++ [none]) rfl ?_
  refine ne_putfn X dL_product_6 nw_fL_100 nw_p4_1 rfl (fun _ => rfl) (fun _ => rfl) (by first | decide | exact Nat.le_of_ble_eq_true rfl) ?_
  refine ne_ws (ws' := cW c q t b k n h x1 y1 ++ [some (.inr (4, [_, _])), none, none]) rfl ?_
  refine ne_goto (tgt := 15) X dL_product_9 rfl ?_
  refine ne_iconst X dL_product_15 ?_
  exact ne_iret X hr (by first | rfl | decide | rfl) dL_product_16 ⟨_, _, _, _, rfl, hI1, Or.inr rfl, _, rfl⟩
set_option maxRecDepth 100000 in
set_option maxHeartbeats 4000000 in
theorem me_L_partSum (l : Launch) (hl : l.stackTraces = false) (c q t b k n h x y : Nat → Int) (T : Int) (hI : cI c q t b k n h x y T) (hT : 0 ≤ T ∧ T ≤ 1000) (u : Int) (s : Value) (hs : s = .null ∨ s = .ref 13) (i1 i2 : Int) (hi1 : -2147483648 ≤ i1 ∧ i1 < 2147483648) (hi2 : -2147483648 ≤ i2 ∧ i2 < 2147483648) : ne_M l nw_cl (.codeWith yL_partSum cL_partSum 5 (some .int) [(0, 10, 13, 19), (0, 10, 17, 21)]) nw_T yL_partSum 13 560 230 600 [.ref 0, ni i1, ni i2, .ref 12] (cW c q t b k n h x y ++ [some (.inr (4, [nl u, s])), none]) (fun v w => ∃ x1 y1 u1 s1, w = cW c q t b k n h x1 y1 ++ [some (.inr (4, [nl u1, s1])), none, none] ∧ cI c q t b k n h x1 y1 (T + 1) ∧ (s1 = s ∨ s1 = .ref 14) ∧ ∃ z : Int, v = some (ni z)) (fun _ _ => False) := by
  refine ne_meetW (own := RL) hl rfl wr_pl (Nat.le_of_ble_eq_true rfl) ?_
  intro D ct A P9 V9 R9 S9 M9 as9 bl9 mt9 C9 ad0 X hr hin ht
  have hcw : ne_cw 14 (cW c q t b k n h x y ++ [some (.inr (4, [nl u, s])), none]) = true := by rcases hs with rfl | rfl <;> rfl
  refine ne_aload_n X dL_partSum_0 rfl ?_
  refine ne_aload_n X dL_partSum_1 rfl ?_
  refine ne_iload_n X dL_partSum_2 rfl ?_
  refine ne_iload_n X dL_partSum_3 rfl ?_
  refine ne_callVF (is := [0, 1, 2, 3, 4, 5, 6, 7, 8, 9, 10, 11]) X nw_Tg (me_X1_partSum l hl c q t b k n h x y T hI hT i1 i2 hi1 hi2) nw_yX1_partSum nw_mL_150 nw_iX1_partSum nw_eX1_partSum (ci := 3) rfl rfl rfl dL_partSum_4 rfl rfl (by decide) (by decide) (by first | decide | omega) (by first | decide | omega) (Nat.le_of_ble_eq_true rfl) hcw rfl rfl (Nat.le_of_ble_eq_true rfl) (ne_ptb rfl (by decide +kernel) rfl) ?_ ?_
  rotate_left
  · rintro E9 w9 ⟨rfl, rfl | rfl⟩
    · refine ne_wsT (ws' := cW c q t b k n h x y ++ [some (.inr (4, [_, _])), none]) rfl ?_
      refine ne_catch (name := "java/lang/IndexOutOfBoundsException") (pre := []) (x := ⟨0, 10, 13, 19⟩) (suf := [⟨0, 10, 17, 21⟩]) X ht (fun z hz => by cases hz) rfl (by decide) nw_qL_19 wr_cI (Nat.le_of_ble_eq_true rfl) hcw rfl ?_
      refine ne_astore X dL_partSum_13 (by decide) ?_
      refine ne_iconst X dL_partSum_15 ?_
      refine ne_ws (ws' := cW c q t b k n h x y ++ [some (.inr (4, [_, _])), none, none]) rfl ?_
      exact ne_iret X hr (by first | rfl | decide | rfl) dL_partSum_16 ⟨_, _, _, _, rfl, cI_mono hI (by omega), Or.inl rfl, _, rfl⟩
    · refine ne_wsT (ws' := cW c q t b k n h x y ++ [some (.inr (4, [_, _])), none]) rfl ?_
      refine ne_catch (name := "java/lang/IllegalArgumentException") (pre := [⟨0, 10, 13, 19⟩]) (x := ⟨0, 10, 17, 21⟩) (suf := []) X ht (fun z hz => by
        rw [List.mem_singleton] at hz; subst hz
        exact Or.inr ⟨by decide, "java/lang/IndexOutOfBoundsException", nw_qL_19, wr_cb⟩) rfl (by decide) nw_qL_21 wr_cA (Nat.le_of_ble_eq_true rfl) hcw rfl ?_
      refine ne_astore X dL_partSum_17 (by decide) ?_
      refine ne_iconst X dL_partSum_19 ?_
      refine ne_ws (ws' := cW c q t b k n h x y ++ [some (.inr (4, [_, _])), none, none]) rfl ?_
      exact ne_iret X hr (by first | rfl | decide | rfl) dL_partSum_20 ⟨_, _, _, _, rfl, cI_mono hI (by omega), Or.inl rfl, _, rfl⟩
  rintro v4 w4 ⟨⟨x1, y1, rfl, hI1⟩, rfl⟩
  refine ne_ws (ws' := cW c q t b k n h x1 y1 ++ [some (.inr (4, [_, _])), none] ++ [none]) rfl ?_
  refine ne_putfn X dL_partSum_7 nw_fL_100 nw_p4_1 rfl (fun _ => rfl) (fun _ => rfl) (by first | decide | exact Nat.le_of_ble_eq_true rfl) ?_
  refine ne_ws (ws' := cW c q t b k n h x1 y1 ++ [some (.inr (4, [_, _])), none, none]) rfl ?_
  refine ne_goto (tgt := 21) X dL_partSum_10 rfl ?_
  refine ne_iconst X dL_partSum_21 ?_
  exact ne_iret X hr (by first | rfl | decide | rfl) dL_partSum_22 ⟨_, _, _, _, rfl, hI1, Or.inr rfl, _, rfl⟩
set_option maxRecDepth 100000 in
set_option maxHeartbeats 4000000 in
theorem me_L_nines (l : Launch) (hl : l.stackTraces = false) (c q t b k n h x y : Nat → Int) (T : Int) (hI : cI c q t b k n h x y T) (hT : 0 ≤ T ∧ T ≤ 1000) (u : Int) (s : Value) (hs : s = .null ∨ s = .ref 13) (i1 i2 : Int) (hi1 : -2147483648 ≤ i1 ∧ i1 < 2147483648) (hi2 : -2147483648 ≤ i2 ∧ i2 < 2147483648) : ne_M l nw_cl (.codeWith yL_nines cL_nines 5 (some .int) [(0, 11, 14, 19), (0, 11, 18, 21)]) nw_T yL_nines 13 560 230 600 [.ref 0, ni i1, ni i2, .ref 12] (cW c q t b k n h x y ++ [some (.inr (4, [nl u, s])), none]) (fun v w => ∃ x1 y1 u1, w = cW c q t b k n h x1 y1 ++ [some (.inr (4, [nl u1, s])), none] ∧ cI c q t b k n h x1 y1 (T + 1) ∧ ∃ z : Int, v = some (ni z)) (fun _ _ => False) := by
  refine ne_meetW (own := RL) hl rfl wr_pl (Nat.le_of_ble_eq_true rfl) ?_
  intro D ct A P9 V9 R9 S9 M9 as9 bl9 mt9 C9 ad0 X hr hin ht
  have hcw : ne_cw 14 (cW c q t b k n h x y ++ [some (.inr (4, [nl u, s])), none]) = true := by rcases hs with rfl | rfl <;> rfl
  refine ne_aload_n X dL_nines_0 rfl ?_
  refine ne_aload_n X dL_nines_1 rfl ?_
  refine ne_iload_n X dL_nines_2 rfl ?_
  refine ne_iload_n X dL_nines_3 rfl ?_
  refine ne_callVF (is := [0, 1, 2, 3, 4, 5, 6, 7, 8, 9, 10, 11]) X nw_Tg (me_X1_nines l hl c q t b k n h x y T hI hT i1 i2 hi1 hi2) nw_yX1_nines nw_mL_153 nw_iX1_nines nw_eX1_nines (ci := 3) rfl rfl rfl dL_nines_4 rfl rfl (by decide) (by decide) (by first | decide | omega) (by first | decide | omega) (Nat.le_of_ble_eq_true rfl) hcw rfl rfl (Nat.le_of_ble_eq_true rfl) wr_pt ?_ ?_
  rotate_left
  · rintro E9 w9 ⟨rfl, rfl | rfl⟩
    · refine ne_wsT wr_mg ?_
      refine ne_catch (name := "java/lang/IndexOutOfBoundsException") (pre := []) (x := ⟨0, 11, 14, 19⟩) (suf := [⟨0, 11, 18, 21⟩]) X ht (fun z hz => by cases hz) rfl (by decide) nw_qL_19 wr_cI (Nat.le_of_ble_eq_true rfl) hcw rfl ?_
      refine ne_astore X dL_nines_14 (by decide) ?_
      refine ne_iconst X dL_nines_16 ?_
      refine ne_take 14 ?_
      refine ne_ws (ws' := cW c q t b k n h x y ++ [some (.inr (4, [_, _])), none]) rfl ?_
      exact ne_iret X hr (by first | rfl | decide | rfl) dL_nines_17 ⟨_, _, _, rfl, cI_mono hI (by omega), _, rfl⟩
    · refine ne_wsT wr_mg ?_
      refine ne_catch (name := "java/lang/IllegalArgumentException") (pre := [⟨0, 11, 14, 19⟩]) (x := ⟨0, 11, 18, 21⟩) (suf := []) X ht (fun z hz => by
        rw [List.mem_singleton] at hz; subst hz
        exact Or.inr ⟨by decide, "java/lang/IndexOutOfBoundsException", nw_qL_19, wr_cb⟩) rfl (by decide) nw_qL_21 wr_cA (Nat.le_of_ble_eq_true rfl) hcw rfl ?_
      refine ne_astore X dL_nines_18 (by decide) ?_
      refine ne_iconst X dL_nines_20 ?_
      refine ne_take 14 ?_
      refine ne_ws (ws' := cW c q t b k n h x y ++ [some (.inr (4, [_, _])), none]) rfl ?_
      exact ne_iret X hr (by first | rfl | decide | rfl) dL_nines_21 ⟨_, _, _, rfl, cI_mono hI (by omega), _, rfl⟩
  rintro v4 w4 ⟨⟨x1, y1, rfl, hI1⟩, z4, rfl, g4⟩
  refine ne_ws wr_mg ?_
  refine ne_wrapI (fun y4 l4 r4 q4 => ?_)
  refine ne_i2l (by omega) X dL_nines_7 ?_
  refine ne_putfn X dL_nines_8 nw_fL_13 nw_p4_0 rfl (fun _ => rfl) (fun _ => rfl) (by first | decide | exact Nat.le_of_ble_eq_true rfl) ?_
  refine ne_ws wr_st ?_
  refine ne_goto (tgt := 22) X dL_nines_11 rfl ?_
  refine ne_iconst X dL_nines_22 ?_
  exact ne_iret X hr (by first | rfl | decide | rfl) dL_nines_23 ⟨_, _, _, rfl, hI1, _, rfl⟩
set_option maxRecDepth 100000 in
set_option maxHeartbeats 4000000 in
theorem me_L_placeOf (l : Launch) (hl : l.stackTraces = false) (c q t b k n h x y : Nat → Int) (T : Int) (hI : cI c q t b k n h x y T) (hT : 0 ≤ T ∧ T ≤ 1000) (u : Int) (s : Value) (hs : s = .null ∨ s = .ref 13) (i1 i2 : Int) (hi1 : -2147483648 ≤ i1 ∧ i1 < 2147483648) (hi2 : -2147483648 ≤ i2 ∧ i2 < 2147483648) : ne_M l nw_cl (.codeWith yL_placeOf cL_placeOf 5 (some .int) [(0, 11, 14, 19)]) nw_T yL_placeOf 13 560 230 600 [.ref 0, ni i1, ni i2, .ref 12] (cW c q t b k n h x y ++ [some (.inr (4, [nl u, s])), none]) (fun v w => ∃ x1 y1 u1, w = cW c q t b k n h x1 y1 ++ [some (.inr (4, [nl u1, s])), none] ∧ cI c q t b k n h x1 y1 (T + 1) ∧ ∃ z : Int, v = some (ni z)) (fun _ _ => False) := by
  refine ne_meetW (own := RL) hl rfl wr_pl (Nat.le_of_ble_eq_true rfl) ?_
  intro D ct A P9 V9 R9 S9 M9 as9 bl9 mt9 C9 ad0 X hr hin ht
  have hcw : ne_cw 14 (cW c q t b k n h x y ++ [some (.inr (4, [nl u, s])), none]) = true := by rcases hs with rfl | rfl <;> rfl
  refine ne_aload_n X dL_placeOf_0 rfl ?_
  refine ne_aload_n X dL_placeOf_1 rfl ?_
  refine ne_iload_n X dL_placeOf_2 rfl ?_
  refine ne_iload_n X dL_placeOf_3 rfl ?_
  refine ne_callVF (is := [0, 1, 2, 3, 4, 5, 6, 7, 8, 9, 10, 11]) X nw_Tg (me_X1_placeOfS l hl c q t b k n h x y T hI hT i1 i2 hi1 hi2) nw_yX1_placeOf nw_mL_156 nw_iX1_placeOf nw_eX1_placeOf (ci := 3) rfl rfl rfl dL_placeOf_4 rfl rfl (by decide) (by decide) (by first | decide | omega) (by first | decide | omega) (Nat.le_of_ble_eq_true rfl) hcw rfl rfl (Nat.le_of_ble_eq_true rfl) wr_pt ?_ ?_
  rotate_left
  · rintro E9 w9 ⟨rfl, rfl⟩
    refine ne_wsT wr_mg ?_
    refine ne_catch (name := "java/lang/IndexOutOfBoundsException") (pre := []) (x := ⟨0, 11, 14, 19⟩) (suf := []) X ht (fun z hz => by cases hz) rfl (by decide) nw_qL_19 wr_cI (Nat.le_of_ble_eq_true rfl) hcw rfl ?_
    refine ne_astore X dL_placeOf_14 (by decide) ?_
    refine ne_iconst X dL_placeOf_16 ?_
    refine ne_take 14 ?_
    refine ne_ws (ws' := cW c q t b k n h x y ++ [some (.inr (4, [_, _])), none]) rfl ?_
    exact ne_iret X hr (by first | rfl | decide | rfl) dL_placeOf_17 ⟨_, _, _, rfl, cI_mono hI (by omega), _, rfl⟩
  rintro v4 w4 ⟨⟨x1, y1, rfl, hI1⟩, z4, rfl, g4⟩
  refine ne_ws wr_mg ?_
  refine ne_wrapI (fun y4 l4 r4 q4 => ?_)
  refine ne_i2l (by omega) X dL_placeOf_7 ?_
  refine ne_putfn X dL_placeOf_8 nw_fL_13 nw_p4_0 rfl (fun _ => rfl) (fun _ => rfl) (by first | decide | exact Nat.le_of_ble_eq_true rfl) ?_
  refine ne_ws wr_st ?_
  refine ne_goto (tgt := 18) X dL_placeOf_11 rfl ?_
  refine ne_iconst X dL_placeOf_18 ?_
  exact ne_iret X hr (by first | rfl | decide | rfl) dL_placeOf_19 ⟨_, _, _, rfl, hI1, _, rfl⟩
set_option maxRecDepth 100000 in
set_option maxHeartbeats 4000000 in
theorem me_L_wheelOrder (l : Launch) (hl : l.stackTraces = false) (c q t b k n h x y : Nat → Int) (T : Int) (hI : cI c q t b k n h x y T) (hT : 0 ≤ T ∧ T ≤ 1000) (u : Int) (s : Value) (hs : s = .null ∨ s = .ref 13) (i1 i2 : Int) (hi1 : -2147483648 ≤ i1 ∧ i1 < 2147483648) (hi2 : -2147483648 ≤ i2 ∧ i2 < 2147483648) : ne_M l nw_cl (.codeWith yL_wheelOrder cL_wheelOrder 5 (some .int) [(0, 11, 14, 19)]) nw_T yL_wheelOrder 13 560 230 600 [.ref 0, ni i1, ni i2, .ref 12] (cW c q t b k n h x y ++ [some (.inr (4, [nl u, s])), none]) (fun v w => ∃ x1 y1 u1, w = cW c q t b k n h x1 y1 ++ [some (.inr (4, [nl u1, s])), none] ∧ cI c q t b k n h x1 y1 (T + 1) ∧ ∃ z : Int, v = some (ni z)) (fun _ _ => False) := by
  refine ne_meetW (own := RL) hl rfl wr_pl (Nat.le_of_ble_eq_true rfl) ?_
  intro D ct A P9 V9 R9 S9 M9 as9 bl9 mt9 C9 ad0 X hr hin ht
  have hcw : ne_cw 14 (cW c q t b k n h x y ++ [some (.inr (4, [nl u, s])), none]) = true := by rcases hs with rfl | rfl <;> rfl
  refine ne_aload_n X dL_wheelOrder_0 rfl ?_
  refine ne_aload_n X dL_wheelOrder_1 rfl ?_
  refine ne_iload_n X dL_wheelOrder_2 rfl ?_
  refine ne_iload_n X dL_wheelOrder_3 rfl ?_
  refine ne_callVF (is := [0, 1, 2, 3, 4, 5, 6, 7, 8, 9, 10, 11]) X nw_Tg (me_X1_wheelOrderS l hl c q t b k n h x y T hI hT i1 i2 hi1 hi2) nw_yX1_wheelOrder nw_mL_159 nw_iX1_wheelOrder nw_eX1_wheelOrder (ci := 3) rfl rfl rfl dL_wheelOrder_4 rfl rfl (by decide) (by decide) (by first | decide | omega) (by first | decide | omega) (Nat.le_of_ble_eq_true rfl) hcw rfl rfl (Nat.le_of_ble_eq_true rfl) wr_pt ?_ ?_
  rotate_left
  · rintro E9 w9 ⟨rfl, rfl⟩
    refine ne_wsT wr_mg ?_
    refine ne_catch (name := "java/lang/IndexOutOfBoundsException") (pre := []) (x := ⟨0, 11, 14, 19⟩) (suf := []) X ht (fun z hz => by cases hz) rfl (by decide) nw_qL_19 wr_cI (Nat.le_of_ble_eq_true rfl) hcw rfl ?_
    refine ne_astore X dL_wheelOrder_14 (by decide) ?_
    refine ne_iconst X dL_wheelOrder_16 ?_
    refine ne_take 14 ?_
    refine ne_ws (ws' := cW c q t b k n h x y ++ [some (.inr (4, [_, _])), none]) rfl ?_
    exact ne_iret X hr (by first | rfl | decide | rfl) dL_wheelOrder_17 ⟨_, _, _, rfl, cI_mono hI (by omega), _, rfl⟩
  rintro v4 w4 ⟨⟨x1, y1, rfl, hI1⟩, z4, rfl, g4⟩
  refine ne_ws wr_mg ?_
  refine ne_wrapI (fun y4 l4 r4 q4 => ?_)
  refine ne_i2l (by omega) X dL_wheelOrder_7 ?_
  refine ne_putfn X dL_wheelOrder_8 nw_fL_13 nw_p4_0 rfl (fun _ => rfl) (fun _ => rfl) (by first | decide | exact Nat.le_of_ble_eq_true rfl) ?_
  refine ne_ws wr_st ?_
  refine ne_goto (tgt := 18) X dL_wheelOrder_11 rfl ?_
  refine ne_iconst X dL_wheelOrder_18 ?_
  exact ne_iret X hr (by first | rfl | decide | rfl) dL_wheelOrder_19 ⟨_, _, _, rfl, hI1, _, rfl⟩
set_option maxRecDepth 100000 in
set_option maxHeartbeats 4000000 in
theorem me_L_against (l : Launch) (hl : l.stackTraces = false) (c q t b k n h x y : Nat → Int) (T : Int) (hI : cI c q t b k n h x y T) (hT : 0 ≤ T ∧ T ≤ 1000) (u : Int) (s : Value) (hs : s = .null ∨ s = .ref 13) (i1 i2 : Int) (hi1 : -2147483648 ≤ i1 ∧ i1 < 2147483648) (hi2 : -2147483648 ≤ i2 ∧ i2 < 2147483648) : ne_M l nw_cl (.codeWith yL_against cL_against 5 (some .int) [(0, 11, 14, 19)]) nw_T yL_against 13 560 230 600 [.ref 0, ni i1, ni i2, .ref 12] (cW c q t b k n h x y ++ [some (.inr (4, [nl u, s])), none]) (fun v w => ∃ x1 y1 u1, w = cW c q t b k n h x1 y1 ++ [some (.inr (4, [nl u1, s])), none] ∧ cI c q t b k n h x1 y1 (T + 1) ∧ ∃ z : Int, v = some (ni z)) (fun _ _ => False) := by
  refine ne_meetW (own := RL) hl rfl wr_pl (Nat.le_of_ble_eq_true rfl) ?_
  intro D ct A P9 V9 R9 S9 M9 as9 bl9 mt9 C9 ad0 X hr hin ht
  have hcw : ne_cw 14 (cW c q t b k n h x y ++ [some (.inr (4, [nl u, s])), none]) = true := by rcases hs with rfl | rfl <;> rfl
  refine ne_aload_n X dL_against_0 rfl ?_
  refine ne_aload_n X dL_against_1 rfl ?_
  refine ne_iload_n X dL_against_2 rfl ?_
  refine ne_iload_n X dL_against_3 rfl ?_
  refine ne_callVF (is := [0, 1, 2, 3, 4, 5, 6, 7, 8, 9, 10, 11]) X nw_Tg (me_X1_againstS l hl c q t b k n h x y T hI hT i1 i2 hi1 hi2) nw_yX1_against nw_mL_162 nw_iX1_against nw_eX1_against (ci := 3) rfl rfl rfl dL_against_4 rfl rfl (by decide) (by decide) (by first | decide | omega) (by first | decide | omega) (Nat.le_of_ble_eq_true rfl) hcw rfl rfl (Nat.le_of_ble_eq_true rfl) wr_pt ?_ ?_
  rotate_left
  · rintro E9 w9 ⟨rfl, rfl⟩
    refine ne_wsT wr_mg ?_
    refine ne_catch (name := "java/lang/IndexOutOfBoundsException") (pre := []) (x := ⟨0, 11, 14, 19⟩) (suf := []) X ht (fun z hz => by cases hz) rfl (by decide) nw_qL_19 wr_cI (Nat.le_of_ble_eq_true rfl) hcw rfl ?_
    refine ne_astore X dL_against_14 (by decide) ?_
    refine ne_iconst X dL_against_16 ?_
    refine ne_take 14 ?_
    refine ne_ws (ws' := cW c q t b k n h x y ++ [some (.inr (4, [_, _])), none]) rfl ?_
    exact ne_iret X hr (by first | rfl | decide | rfl) dL_against_17 ⟨_, _, _, rfl, cI_mono hI (by omega), _, rfl⟩
  rintro v4 w4 ⟨⟨x1, y1, rfl, hI1⟩, z4, rfl, g4⟩
  refine ne_ws wr_mg ?_
  refine ne_wrapI (fun y4 l4 r4 q4 => ?_)
  refine ne_i2l (by omega) X dL_against_7 ?_
  refine ne_putfn X dL_against_8 nw_fL_13 nw_p4_0 rfl (fun _ => rfl) (fun _ => rfl) (by first | decide | exact Nat.le_of_ble_eq_true rfl) ?_
  refine ne_ws wr_st ?_
  refine ne_goto (tgt := 18) X dL_against_11 rfl ?_
  refine ne_iconst X dL_against_18 ?_
  exact ne_iret X hr (by first | rfl | decide | rfl) dL_against_19 ⟨_, _, _, rfl, hI1, _, rfl⟩
set_option maxRecDepth 100000 in
set_option maxHeartbeats 4000000 in
theorem me_L_house (l : Launch) (hl : l.stackTraces = false) (c q t b k n h x y : Nat → Int) (T : Int) (hI : cI c q t b k n h x y T) (hT : 0 ≤ T ∧ T ≤ 1000) (u : Int) (s : Value) (hs : s = .null ∨ s = .ref 13) (a : Int) (ha : -2147483648 ≤ a ∧ a < 2147483648) : ne_M l nw_cl (.codeWith yL_house cL_house 4 (some .int) [(0, 10, 13, 21)]) nw_T yL_house 13 560 230 600 [.ref 0, ni a, .ref 12] (cW c q t b k n h x y ++ [some (.inr (4, [nl u, s])), none]) (fun v w => ∃ u1, w = cW c q t b k n h x y ++ [some (.inr (4, [nl u1, s])), none] ∧ ∃ z : Int, v = some (ni z) ∧ ((z = 1 ∧ (a < 0 ∨ 3 < a)) ∨ (z = 0 ∧ (0 ≤ u1 ∧ u1 ≤ 1000) ∧ (0 ≤ a ∧ a ≤ 3) ∧ u1 = h a.toNat))) (fun _ _ => False) := by
  refine ne_meetW (own := RL) hl rfl wr_pl (Nat.le_of_ble_eq_true rfl) ?_
  intro D ct A P9 V9 R9 S9 M9 as9 bl9 mt9 C9 ad0 X hr hin ht
  have hcw : ne_cw 14 (cW c q t b k n h x y ++ [some (.inr (4, [nl u, s])), none]) = true := by rcases hs with rfl | rfl <;> rfl
  refine ne_aload_n X dL_house_0 rfl ?_
  refine ne_aload_n X dL_house_1 rfl ?_
  refine ne_iload_n X dL_house_2 rfl ?_
  refine ne_callVF (is := [0, 1, 2, 3, 4, 5, 6, 7, 8, 9, 10, 11]) X nw_Tg (me_X1_houseW l hl c q t b k n h x y T hI hT a ha) nw_yX1_house nw_mL_165 nw_iX1_house nw_eX1_house (ci := 3) rfl rfl rfl dL_house_3 rfl rfl (by decide) (by decide) (by first | decide | omega) (by first | decide | omega) (Nat.le_of_ble_eq_true rfl) hcw rfl rfl (Nat.le_of_ble_eq_true rfl) wr_pt ?_ ?_
  rotate_left
  · rintro E9 w9 ⟨rfl, ⟨rfl, g99⟩ | ⟨rfl, g99⟩⟩
    · exact g99.elim
    refine ne_wsT wr_mg ?_
    refine ne_catch (name := "java/lang/IllegalArgumentException") (pre := []) (x := ⟨0, 10, 13, 21⟩) (suf := []) X ht (fun z hz => by cases hz) rfl (by decide) nw_qL_21 wr_cA (Nat.le_of_ble_eq_true rfl) hcw rfl ?_
    refine ne_astore_n X dL_house_13 rfl (by decide) ?_
    refine ne_iconst X dL_house_14 ?_
    refine ne_take 14 ?_
    refine ne_ws (ws' := cW c q t b k n h x y ++ [some (.inr (4, [_, _])), none]) rfl ?_
    exact ne_iret X hr (by first | rfl | decide | rfl) dL_house_15 ⟨_, rfl, _, rfl, Or.inl ⟨rfl, (by omega)⟩⟩
  rintro v3 w3 ⟨rfl, L1, rfl, g1, lb, g2⟩
  refine ne_ws wr_mg ?_
  refine ne_i2l (by omega) X dL_house_6 ?_
  refine ne_putfn X dL_house_7 nw_fL_13 nw_p4_0 rfl (fun _ => rfl) (fun _ => rfl) (by first | decide | exact Nat.le_of_ble_eq_true rfl) ?_
  refine ne_ws wr_st ?_
  refine ne_goto (tgt := 16) X dL_house_10 rfl ?_
  refine ne_iconst X dL_house_16 ?_
  exact ne_iret X hr (by first | rfl | decide | rfl) dL_house_17 ⟨_, rfl, _, rfl, Or.inr ⟨rfl, lb, g1, g2⟩⟩
