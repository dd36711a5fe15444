theorem ne_dv {r d : Int} (h0 : 0 < r) (h1 : 1 ≤ d) (hd : d ≤ 19) (h : r < 10 ^ (19 - d).toNat) : d ≤ 18 ∧ r.tdiv 10 < 10 ^ (19 - (d + 1)).toNat := by
  rcases (show d = 19 ∨ d ≤ 18 by omega) with e | e
  · subst e
    rw [show ((19 : Int) - 19).toNat = 0 from rfl, Int.pow_zero] at h
    omega
  · refine ⟨e, ?_⟩
    rw [show (19 - d).toNat = (19 - (d + 1)).toNat + 1 by omega, Int.pow_succ] at h
    have := ne_t10 r (by omega)
    omega
/-- what holds of the model's cells, behind at most T acts -/
def mI (c q t b k h : Nat → Int) (v T : Int) : Prop := ne_rg c (-999999) 999999 ∧ ne_rg q 0 3 ∧ ne_rg t 0 98 ∧ ne_rg b 1 99 ∧ (∀ j, t j < b j) ∧ (∀ j, (b j).tmod 2 ≠ 0 ∧ (b j).tmod 5 ≠ 0) ∧ ne_rg k 0 95 ∧ ne_rg h 0 T ∧ (0 ≤ v ∧ v ≤ 2)
theorem ne_rsE (a b : Int) (ha : 0 ≤ a) (hb : a < b) : ∀ n : Nat, ne_rs a b n = (a * 10 ^ n) % b
  | 0 => by rw [Int.pow_zero, Int.mul_one, Int.emod_eq_of_lt ha hb]; rfl
  | n + 1 => by
    have h := ne_rs_in a b ha hb n
    have e : ne_rs a b (n + 1) = (10 * ne_rs a b n).tmod b := rfl
    rw [e, Int.tmod_eq_emod_of_nonneg (by omega), ne_rsE a b ha hb n, Int.pow_succ, Int.mul_emod, Int.emod_emod_of_dvd _ (Int.dvd_refl b), ← Int.mul_emod]
    congr 1
    rw [Int.mul_comm 10, Int.mul_assoc]
theorem ne_turns (a b : Int) (ha : 0 ≤ a) (hab : a < b) (hb : b ≤ 99) (h2 : b.tmod 2 ≠ 0) (h5 : b.tmod 5 ≠ 0) : ∃ m : Nat, 1 ≤ m ∧ m ≤ 96 ∧ ne_rs a b m = a := by
  have key : ∀ d : Fin 100, (d.val : Int).tmod 2 ≠ 0 → (d.val : Int).tmod 5 ≠ 0 → ∃ m : Fin 97, 1 ≤ m.val ∧ (10 : Int) ^ m.val % (d.val : Int) = 1 % (d.val : Int) := by decide +kernel
  have e : ((b.toNat : Nat) : Int) = b := by omega
  obtain ⟨m, h1, h3⟩ := key ⟨b.toNat, by omega⟩ (by show ((b.toNat : Nat) : Int).tmod 2 ≠ 0; rw [e]; exact h2) (by show ((b.toNat : Nat) : Int).tmod 5 ≠ 0; rw [e]; exact h5)
  refine ⟨m.val, h1, by omega, ?_⟩
  have h4 : (10 : Int) ^ m.val % b = 1 % b := by
    have := h3
    show (10 : Int) ^ m.val % b = 1 % b
    rw [← e]; exact h3
  rw [ne_rsE a b ha hab, Int.mul_emod, h4, ← Int.mul_emod, Int.mul_one, Int.emod_eq_of_lt ha hab]
set_option maxRecDepth 100000 in
set_option maxHeartbeats 4000000 in
theorem me_X3_isOut (l : Launch) (hl : l.stackTraces = false) (ws : ne_W) (a lo hi : Int) (ha : -2147483648 ≤ a ∧ a < 2147483648) (h1 : -2147483648 ≤ lo ∧ lo < 2147483648) (h2 : -2147483648 ≤ hi ∧ hi < 2147483648) : ne_M l nw_cl (.code yX3_isOut cX3_isOut 3 (some .boolean)) nw_T yX3_isOut 0 0 0 0 [ni a, ni lo, ni hi] ws (fun v w => w = ws ∧ ∃ z : Int, v = some (ni z) ∧ ((z = 1 ∧ (a < lo ∨ hi < a)) ∨ (z = 0 ∧ lo ≤ a ∧ a ≤ hi))) (fun _ _ => False) := by
  refine ne_meet (own := RX3) hl rfl (by decide +kernel) (Nat.le_of_ble_eq_true rfl) ?_
  intro D ct A P9 V9 R9 S9 M9 as9 bl9 mt9 C9 ad0 X hr hin ht
  refine ne_iload_n X dX3_isOut_0 rfl ?_
  refine ne_iload_n X dX3_isOut_1 rfl ?_
  refine ne_icmp_lt (tgt := 10) X dX3_isOut_2 rfl (by omega) (by omega) (fun b2 => ?_) (fun b2 => ?_)
  · refine ne_iconst X dX3_isOut_10 ?_
    refine ne_goto (tgt := 15) X dX3_isOut_11 rfl ?_
    exact ne_iret X hr (by first | rfl | decide | rfl) dX3_isOut_15 ⟨rfl, _, rfl, by omega⟩
  · refine ne_iload_n X dX3_isOut_5 rfl ?_
    refine ne_iload_n X dX3_isOut_6 rfl ?_
    refine ne_icmp_le (tgt := 14) X dX3_isOut_7 rfl (by omega) (by omega) (fun b7 => ?_) (fun b7 => ?_)
    · refine ne_iconst X dX3_isOut_14 ?_
      exact ne_iret X hr (by first | rfl | decide | rfl) dX3_isOut_15 ⟨rfl, _, rfl, by omega⟩
    · refine ne_iconst X dX3_isOut_10 ?_
      refine ne_goto (tgt := 15) X dX3_isOut_11 rfl ?_
      exact ne_iret X hr (by first | rfl | decide | rfl) dX3_isOut_15 ⟨rfl, _, rfl, by omega⟩
set_option maxRecDepth 100000 in
set_option maxHeartbeats 4000000 in
theorem me_X3_isNoCell (l : Launch) (hl : l.stackTraces = false) (ws : ne_W) (a : Int) (ha : -2147483648 ≤ a ∧ a < 2147483648) : ne_M l nw_cl (.code yX3_isNoCell cX3_isNoCell 1 (some .boolean)) nw_T yX3_isNoCell 1 40 0 0 [ni a] ws (fun v w => w = ws ∧ ∃ z : Int, v = some (ni z) ∧ ((z = 1 ∧ (a < 0 ∨ 3 < a)) ∨ (z = 0 ∧ 0 ≤ a ∧ a ≤ 3))) (fun _ _ => False) := by
  refine ne_meet (own := RX3) hl rfl (by decide +kernel) (Nat.le_of_ble_eq_true rfl) ?_
  intro D ct A P9 V9 R9 S9 M9 as9 bl9 mt9 C9 ad0 X hr hin ht
  refine ne_iload_n X dX3_isNoCell_0 rfl ?_
  refine ne_iconst X dX3_isNoCell_1 ?_
  refine ne_iconst X dX3_isNoCell_2 ?_
  refine ne_callS X nw_Tg (me_X3_isOut l hl _ _ _ _ (by omega) (by omega) (by omega)) nw_yX3_isOut nw_mX3_34 nw_sX3_isOut dX3_isNoCell_3 rfl rfl (by decide) (by decide) (by first | decide | omega) (by first | decide | omega) (Nat.le_refl _) rfl rfl (Nat.le_of_ble_eq_true rfl) ?_ ?_
  rotate_left
  · rintro E9 w9 h9; exact h9.elim
  rintro v3 w3 ⟨rfl, z3, rfl, g3⟩
  exact ne_iret X hr (by first | rfl | decide | (rcases (show z3 = 0 ∨ z3 = 1 by omega) with rfl | rfl <;> rfl)) dX3_isNoCell_6 ⟨rfl, _, rfl, by omega⟩
set_option maxRecDepth 100000 in
set_option maxHeartbeats 4000000 in
theorem me_X3_isNoWheel (l : Launch) (hl : l.stackTraces = false) (ws : ne_W) (a : Int) (ha : -2147483648 ≤ a ∧ a < 2147483648) : ne_M l nw_cl (.code yX3_isNoWheel cX3_isNoWheel 1 (some .boolean)) nw_T yX3_isNoWheel 1 40 0 0 [ni a] ws (fun v w => w = ws ∧ ∃ z : Int, v = some (ni z) ∧ ((z = 1 ∧ (a < 0 ∨ 2 < a)) ∨ (z = 0 ∧ 0 ≤ a ∧ a ≤ 2))) (fun _ _ => False) := by
  refine ne_meet (own := RX3) hl rfl (by decide +kernel) (Nat.le_of_ble_eq_true rfl) ?_
  intro D ct A P9 V9 R9 S9 M9 as9 bl9 mt9 C9 ad0 X hr hin ht
  refine ne_iload_n X dX3_isNoWheel_0 rfl ?_
  refine ne_iconst X dX3_isNoWheel_1 ?_
  refine ne_iconst X dX3_isNoWheel_2 ?_
  refine ne_callS X nw_Tg (me_X3_isOut l hl _ _ _ _ (by omega) (by omega) (by omega)) nw_yX3_isOut nw_mX3_34 nw_sX3_isOut dX3_isNoWheel_3 rfl rfl (by decide) (by decide) (by first | decide | omega) (by first | decide | omega) (Nat.le_refl _) rfl rfl (Nat.le_of_ble_eq_true rfl) ?_ ?_
  rotate_left
  · rintro E9 w9 h9; exact h9.elim
  rintro v3 w3 ⟨rfl, z3, rfl, g3⟩
  exact ne_iret X hr (by first | rfl | decide | (rcases (show z3 = 0 ∨ z3 = 1 by omega) with rfl | rfl <;> rfl)) dX3_isNoWheel_6 ⟨rfl, _, rfl, by omega⟩
set_option maxRecDepth 100000 in
set_option maxHeartbeats 4000000 in
theorem me_X3_isNoCut (l : Launch) (hl : l.stackTraces = false) (ws : ne_W) (p w0 m : Int) (hp : -2147483648 ≤ p ∧ p < 2147483648) (hw : -2147483648 ≤ w0 ∧ w0 < 2147483648) (hm : -2147483648 ≤ m ∧ m < 2147483648) : ne_M l nw_cl (.code yX3_isNoCut cX3_isNoCut 3 (some .boolean)) nw_T yX3_isNoCut 1 40 0 0 [ni p, ni w0, ni m] ws (fun v w => w = ws ∧ ∃ z : Int, v = some (ni z) ∧ ((z = 1 ∧ (p < 0 ∨ m < p ∨ w0 < 0 ∨ 7 < w0)) ∨ (z = 0 ∧ 0 ≤ p ∧ p ≤ m ∧ 0 ≤ w0 ∧ w0 ≤ 7))) (fun _ _ => False) := by
  refine ne_meet (own := RX3) hl rfl (by decide +kernel) (Nat.le_of_ble_eq_true rfl) ?_
  intro D ct A P9 V9 R9 S9 M9 as9 bl9 mt9 C9 ad0 X hr hin ht
  refine ne_iload_n X dX3_isNoCut_0 rfl ?_
  refine ne_iconst X dX3_isNoCut_1 ?_
  refine ne_iload_n X dX3_isNoCut_2 rfl ?_
  refine ne_callS X nw_Tg (me_X3_isOut l hl _ _ _ _ (by omega) (by omega) (by omega)) nw_yX3_isOut nw_mX3_34 nw_sX3_isOut dX3_isNoCut_3 rfl rfl (by decide) (by decide) (by first | decide | omega) (by first | decide | omega) (Nat.le_refl _) rfl rfl (Nat.le_of_ble_eq_true rfl) ?_ ?_
  rotate_left
  · rintro E9 w9 h9; exact h9.elim
  rintro v3 w3 ⟨rfl, z3, rfl, g3⟩
  refine ne_if_ne (tgt := 19) X dX3_isNoCut_6 rfl (by omega) (fun b6 => ?_) (fun b6 => ?_)
  · refine ne_iconst X dX3_isNoCut_19 ?_
    refine ne_goto (tgt := 24) X dX3_isNoCut_20 rfl ?_
    exact ne_iret X hr (by first | rfl | decide | rfl) dX3_isNoCut_24 ⟨rfl, _, rfl, by omega⟩
  · refine ne_iload_n X dX3_isNoCut_9 rfl ?_
    refine ne_iconst X dX3_isNoCut_10 ?_
    refine ne_bipush (v := 7) (by decide) X dX3_isNoCut_11 ?_
    refine ne_callS X nw_Tg (me_X3_isOut l hl _ _ _ _ (by omega) (by omega) (by omega)) nw_yX3_isOut nw_mX3_34 nw_sX3_isOut dX3_isNoCut_13 rfl rfl (by decide) (by decide) (by first | decide | omega) (by first | decide | omega) (Nat.le_refl _) rfl rfl (Nat.le_of_ble_eq_true rfl) ?_ ?_
    rotate_left
    · rintro E9 w9 h9; exact h9.elim
    rintro v13 w13 ⟨rfl, z13, rfl, g13⟩
    refine ne_if_eq (tgt := 23) X dX3_isNoCut_16 rfl (by omega) (fun b16 => ?_) (fun b16 => ?_)
    · refine ne_iconst X dX3_isNoCut_23 ?_
      exact ne_iret X hr (by first | rfl | decide | rfl) dX3_isNoCut_24 ⟨rfl, _, rfl, by omega⟩
    · refine ne_iconst X dX3_isNoCut_19 ?_
      refine ne_goto (tgt := 24) X dX3_isNoCut_20 rfl ?_
      exact ne_iret X hr (by first | rfl | decide | rfl) dX3_isNoCut_24 ⟨rfl, _, rfl, by omega⟩
set_option maxRecDepth 100000 in
set_option maxHeartbeats 4000000 in
theorem me_X3_isNoBottom (l : Launch) (hl : l.stackTraces = false) (ws : ne_W) (a : Int) (ha : -2147483648 ≤ a ∧ a < 2147483648) : ne_M l nw_cl (.code yX3_isNoBottom cX3_isNoBottom 1 (some .boolean)) nw_T yX3_isNoBottom 1 40 0 0 [ni a] ws (fun v w => w = ws ∧ ∃ z : Int, v = some (ni z) ∧ ((z = 1 ∧ (a < 1 ∨ 99 < a ∨ a.tmod 2 = 0 ∨ a.tmod 5 = 0)) ∨ (z = 0 ∧ (1 ≤ a ∧ a ≤ 99 ∧ a.tmod 2 ≠ 0 ∧ a.tmod 5 ≠ 0)))) (fun _ _ => False) := by
  refine ne_meet (own := RX3) hl rfl (by decide +kernel) (Nat.le_of_ble_eq_true rfl) ?_
  intro D ct A P9 V9 R9 S9 M9 as9 bl9 mt9 C9 ad0 X hr hin ht
  have t2 := tmod_bounds (a := a) (M := 2) (by decide)
  have t5 := tmod_bounds (a := a) (M := 5) (by decide)
  refine ne_iload_n X dX3_isNoBottom_0 rfl ?_
  refine ne_iconst X dX3_isNoBottom_1 ?_
  refine ne_bipush (v := 99) (by decide) X dX3_isNoBottom_2 ?_
  refine ne_callS X nw_Tg (me_X3_isOut l hl _ _ _ _ (by omega) (by omega) (by omega)) nw_yX3_isOut nw_mX3_34 nw_sX3_isOut dX3_isNoBottom_4 rfl rfl (by decide) (by decide) (by first | decide | omega) (by first | decide | omega) (Nat.le_refl _) rfl rfl (Nat.le_of_ble_eq_true rfl) ?_ ?_
  rotate_left
  · rintro E9 w9 h9; exact h9.elim
  rintro v4 w4 ⟨rfl, z4, rfl, g4⟩
  refine ne_if_ne (tgt := 22) X dX3_isNoBottom_7 rfl (by omega) (fun b7 => ?_) (fun b7 => ?_)
  · refine ne_iconst X dX3_isNoBottom_22 ?_
    refine ne_goto (tgt := 27) X dX3_isNoBottom_23 rfl ?_
    exact ne_iret X hr (by first | rfl | decide | rfl) dX3_isNoBottom_27 ⟨rfl, _, rfl, by omega⟩
  · refine ne_iload_n X dX3_isNoBottom_10 rfl ?_
    refine ne_iconst X dX3_isNoBottom_11 ?_
    refine ne_irem X dX3_isNoBottom_12 (by omega) (by omega) (by omega) ?_
    refine ne_if_eq (tgt := 22) X dX3_isNoBottom_13 rfl (by omega) (fun b13 => ?_) (fun b13 => ?_)
    · refine ne_iconst X dX3_isNoBottom_22 ?_
      refine ne_goto (tgt := 27) X dX3_isNoBottom_23 rfl ?_
      exact ne_iret X hr (by first | rfl | decide | rfl) dX3_isNoBottom_27 ⟨rfl, _, rfl, by omega⟩
    · refine ne_iload_n X dX3_isNoBottom_16 rfl ?_
      refine ne_iconst X dX3_isNoBottom_17 ?_
      refine ne_irem X dX3_isNoBottom_18 (by omega) (by omega) (by omega) ?_
      refine ne_if_ne (tgt := 26) X dX3_isNoBottom_19 rfl (by omega) (fun b19 => ?_) (fun b19 => ?_)
      · refine ne_iconst X dX3_isNoBottom_26 ?_
        exact ne_iret X hr (by first | rfl | decide | rfl) dX3_isNoBottom_27 ⟨rfl, _, rfl, by omega⟩
      · refine ne_iconst X dX3_isNoBottom_22 ?_
        refine ne_goto (tgt := 27) X dX3_isNoBottom_23 rfl ?_
        exact ne_iret X hr (by first | rfl | decide | rfl) dX3_isNoBottom_27 ⟨rfl, _, rfl, by omega⟩
set_option maxRecDepth 100000 in
set_option maxHeartbeats 4000000 in
theorem me_X3_ten (l : Launch) (hl : l.stackTraces = false) (ws : ne_W) (a : Int) (ha : -20 ≤ a ∧ a ≤ 18) : ne_M l nw_cl (.code yX3_ten cX3_ten 4 (some .long)) nw_T yX3_ten 0 0 0 0 [ni a] ws (fun v w => w = ws ∧ ∃ z : Int, v = some (nl z) ∧ z = 10 ^ a.toNat ∧ 1 ≤ z ∧ (a ≤ 3 → z ≤ 1000) ∧ (a ≤ 5 → z ≤ 100000) ∧ (a ≤ 6 → z ≤ 1000000) ∧ (a ≤ 16 → z ≤ 10000000000000000) ∧ z ≤ 1000000000000000000) (fun _ _ => False) := by
  refine ne_meet (own := RX3) hl rfl (by decide +kernel) (Nat.le_of_ble_eq_true rfl) ?_
  intro D ct A P9 V9 R9 S9 M9 as9 bl9 mt9 C9 ad0 X hr hin ht
  have lp4 : ∀ (n9 : Nat) (r j : Int), (18 - j).toNat < n9 → (0 ≤ j) → (j ≤ 18) → (j ≤ a ∨ j = 0) → (r = 10 ^ j.toNat) → ne_G nw_cl D ct A ws.length ad0 P9 l V9 R9 S9 M9 as9 bl9 mt9 C9 (ne_O nw_cl D ct ad0 ws.length A bl9 as9 S9 0 0 (fun v w => w = ws ∧ ∃ z : Int, v = some (nl z) ∧ z = 10 ^ a.toNat ∧ 1 ≤ z ∧ (a ≤ 3 → z ≤ 1000) ∧ (a ≤ 5 → z ≤ 100000) ∧ (a ≤ 6 → z ≤ 1000000) ∧ (a ≤ 16 → z ≤ 10000000000000000) ∧ z ≤ 1000000000000000000) (fun _ _ => False)) 4 0 0 0 0 4 [some (ni a), some (nl r), none, some (ni j)] [] ws := by
    intro n9
    induction n9 with
    | zero => intro r j hm9 q1 q2 q3 q4; exfalso; omega
    | succ n9 ih =>
      intro r j hm9 q1 q2 q3 q4
      have q5 : (1 : Int) ≤ 10 ^ j.toNat ∧ (10 : Int) ^ j.toNat ≤ 1000000000000000000 := ne_p10 j.toNat (by omega)
      have q6 : (10 : Int) ^ (j + 1).toNat = 10 ^ j.toNat * 10 := by rw [show (j + 1).toNat = j.toNat + 1 by omega, Int.pow_succ]
      refine ne_iload_n X dX3_ten_4 rfl ?_
      refine ne_iload_n X dX3_ten_5 rfl ?_
      refine ne_icmp_ge (tgt := 21) X dX3_ten_6 rfl (by omega) (by omega) (fun b6 => ?_) (fun b6 => ?_)
      · refine ne_lload_n X dX3_ten_21 rfl ?_
        exact ne_lret X hr dX3_ten_22 ⟨rfl, _, rfl, by rw [q4]; congr 1; omega, by rw [q4]; exact (ne_p10 _ (by omega)).1, fun h => by rw [q4]; exact ne_p10r 3 _ (by omega), fun h => by rw [q4]; exact ne_p10r 5 _ (by omega), fun h => by rw [q4]; exact ne_p10r 6 _ (by omega), fun h => by rw [q4]; exact ne_p10r 16 _ (by omega), by rw [q4]; exact (ne_p10 _ (by omega)).2⟩
      · refine ne_lload_n X dX3_ten_9 rfl ?_
        refine ne_ldc2 (z := 10) (by decide) nw_cX3_38 X dX3_ten_10 ?_
        refine ne_lmul X dX3_ten_13 ?_
        refine ne_lstore_n X dX3_ten_14 rfl (by decide) ?_
        refine ne_iinc X dX3_ten_15 rfl (by decide) ?_
        refine ne_ll (L' := [some (ni _), some (nl _), none, some (ni _)]) rfl ?_
        refine ne_goto (tgt := 4) X dX3_ten_18 rfl ?_
        exact ih _ _ (by omega) (by omega) (by omega) (by omega) (by rw [q6, q4])
  refine ne_lconst (z := 1) (by decide) X dX3_ten_0 ?_
  refine ne_lstore_n X dX3_ten_1 rfl (by decide) ?_
  refine ne_iconst X dX3_ten_2 ?_
  refine ne_istore_n X dX3_ten_3 rfl (by decide) ?_
  refine ne_ll (L' := [some (ni _), some (nl _), none, some (ni _)]) rfl ?_
  exact lp4 _ 1 0 (Nat.lt_succ_self _) (by omega) (by omega) (by omega) rfl
set_option maxRecDepth 100000 in
set_option maxHeartbeats 4000000 in
theorem me_X3_side (l : Launch) (hl : l.stackTraces = false) (ws : ne_W) (a b : Int) (ha : -9223372036854775808 ≤ a ∧ a < 9223372036854775808) (hb : -9223372036854775808 ≤ b ∧ b < 9223372036854775808) : ne_M l nw_cl (.code yX3_side cX3_side 4 (some .int)) nw_T yX3_side 0 0 0 0 [nl a, nl b] ws (fun v w => w = ws ∧ ∃ z : Int, v = some (ni z) ∧ -1 ≤ z ∧ z ≤ 1 ∧ (z < 0 ↔ a < b) ∧ (0 < z ↔ b < a)) (fun _ _ => False) := by
  refine ne_meet (own := RX3) hl rfl (by decide +kernel) (Nat.le_of_ble_eq_true rfl) ?_
  intro D ct A P9 V9 R9 S9 M9 as9 bl9 mt9 C9 ad0 X hr hin ht
  refine ne_lload_n X dX3_side_0 rfl ?_
  refine ne_lload_n X dX3_side_1 rfl ?_
  refine ne_lcif_ge (tgt := 10) X dX3_side_2 dX3_side_3 rfl (by omega) (by omega) (fun b3 => ?_) (fun b3 => ?_)
  · refine ne_lload_n X dX3_side_10 rfl ?_
    refine ne_lload_n X dX3_side_11 rfl ?_
    refine ne_lcif_le (tgt := 20) X dX3_side_12 dX3_side_13 rfl (by omega) (by omega) (fun b13 => ?_) (fun b13 => ?_)
    · refine ne_iconst X dX3_side_20 ?_
      exact ne_iret X hr (by first | rfl | decide | rfl) dX3_side_21 ⟨rfl, _, rfl, by omega⟩
    · refine ne_iconst X dX3_side_16 ?_
      refine ne_goto (tgt := 21) X dX3_side_17 rfl ?_
      exact ne_iret X hr (by first | rfl | decide | rfl) dX3_side_21 ⟨rfl, _, rfl, by omega⟩
  · refine ne_iconst X dX3_side_6 ?_
    refine ne_goto (tgt := 21) X dX3_side_7 rfl ?_
    exact ne_iret X hr (by first | rfl | decide | rfl) dX3_side_21 ⟨rfl, _, rfl, by omega⟩
set_option maxRecDepth 100000 in
set_option maxHeartbeats 4000000 in
theorem me_X3_sizeOf (l : Launch) (hl : l.stackTraces = false) (ws : ne_W) (a : Int) (ha : -9223372036854775807 ≤ a ∧ a < 9223372036854775808) : ne_M l nw_cl (.code yX3_sizeOf cX3_sizeOf 2 (some .long)) nw_T yX3_sizeOf 0 0 0 0 [nl a] ws (fun v w => w = ws ∧ ∃ z : Int, v = some (nl z) ∧ ((a < 0 ∧ z = -a) ∨ (0 ≤ a ∧ z = a))) (fun _ _ => False) := by
  refine ne_meet (own := RX3) hl rfl (by decide +kernel) (Nat.le_of_ble_eq_true rfl) ?_
  intro D ct A P9 V9 R9 S9 M9 as9 bl9 mt9 C9 ad0 X hr hin ht
  refine ne_lload_n X dX3_sizeOf_0 rfl ?_
  refine ne_lconst (z := 0) (by decide) X dX3_sizeOf_1 ?_
  refine ne_lcif_ge (tgt := 11) X dX3_sizeOf_2 dX3_sizeOf_3 rfl (by omega) (by omega) (fun b3 => ?_) (fun b3 => ?_)
  · refine ne_lload_n X dX3_sizeOf_11 rfl ?_
    exact ne_lret X hr dX3_sizeOf_12 ⟨rfl, _, rfl, by omega⟩
  · refine ne_lload_n X dX3_sizeOf_6 rfl ?_
    refine ne_lneg X dX3_sizeOf_7 ?_
    refine ne_goto (tgt := 12) X dX3_sizeOf_8 rfl ?_
    exact ne_lret X hr dX3_sizeOf_12 ⟨rfl, _, rfl, by omega⟩
set_option maxRecDepth 100000 in
set_option maxHeartbeats 4000000 in
theorem me_X3_digitsOf (l : Launch) (hl : l.stackTraces = false) (ws : ne_W) (a : Int) (ha : -1000000000000000000 ≤ a ∧ a ≤ 1000000000000000000) : ne_M l nw_cl (.code yX3_digitsOf cX3_digitsOf 5 (some .int)) nw_T yX3_digitsOf 1 40 0 0 [nl a] ws (fun v w => w = ws ∧ ∃ z : Int, v = some (ni z) ∧ 1 ≤ z ∧ z ≤ 19) (fun _ _ => False) := by
  refine ne_meet (own := RX3) hl rfl (by decide +kernel) (Nat.le_of_ble_eq_true rfl) ?_
  intro D ct A P9 V9 R9 S9 M9 as9 bl9 mt9 C9 ad0 X hr hin ht
  have lp11 : ∀ (n9 : Nat) (d r : Int), (19 - d).toNat < n9 → (1 ≤ d) → (d ≤ 19) → (0 ≤ r ∧ r ≤ 1000000000000000000) → (r < 10 ^ (19 - d).toNat) → ne_G nw_cl D ct A ws.length ad0 P9 l V9 R9 S9 M9 as9 bl9 mt9 C9 (ne_O nw_cl D ct ad0 ws.length A bl9 as9 S9 0 0 (fun v w => w = ws ∧ ∃ z : Int, v = some (ni z) ∧ 1 ≤ z ∧ z ≤ 19) (fun _ _ => False)) 5 0 0 0 0 11 [some (nl a), none, some (ni d), some (nl r), none] [] ws := by
    intro n9
    induction n9 with
    | zero => intro d r hm9 q1 q2 q3 q4; exfalso; omega
    | succ n9 ih =>
      intro d r hm9 q1 q2 q3 q4
      have q5 := ne_t10 r q3.1
      refine ne_lload_n X dX3_digitsOf_11 rfl ?_
      refine ne_lconst (z := 0) (by decide) X dX3_digitsOf_12 ?_
      refine ne_lcif_le (tgt := 29) X dX3_digitsOf_13 dX3_digitsOf_14 rfl (by omega) (by omega) (fun b14 => ?_) (fun b14 => ?_)
      · refine ne_iload_n X dX3_digitsOf_29 rfl ?_
        exact ne_iret X hr (by first | rfl | decide | rfl) dX3_digitsOf_30 ⟨rfl, _, rfl, by omega⟩
      · refine ne_iinc X dX3_digitsOf_17 rfl (by decide) ?_
        refine ne_lload_n X dX3_digitsOf_20 rfl ?_
        refine ne_ldc2 (z := 10) (by decide) nw_cX3_38 X dX3_digitsOf_21 ?_
        refine ne_ldiv X dX3_digitsOf_24 (by omega) (by omega) (by omega) ?_
        refine ne_lstore_n X dX3_digitsOf_25 rfl (by decide) ?_
        refine ne_ll (L' := [some (nl _), none, some (ni _), some (nl _), none]) rfl ?_
        refine ne_goto (tgt := 11) X dX3_digitsOf_26 rfl ?_
        obtain ⟨q6, q7⟩ := ne_dv (r := r) (d := d) (by omega) (by omega) (by omega) q4
        exact ih _ _ (by omega) (by omega) (by omega) (by omega) q7
  refine ne_iconst X dX3_digitsOf_0 ?_
  refine ne_istore_n X dX3_digitsOf_1 rfl (by decide) ?_
  refine ne_lload_n X dX3_digitsOf_2 rfl ?_
  refine ne_callS X nw_Tg (me_X3_sizeOf l hl _ _ (by omega)) nw_yX3_sizeOf nw_mX3_40 nw_sX3_sizeOf dX3_digitsOf_3 rfl rfl (by decide) (by decide) (by first | decide | omega) (by first | decide | omega) (Nat.le_refl _) rfl rfl (Nat.le_of_ble_eq_true rfl) ?_ ?_
  rotate_left
  · rintro E9 w9 h9; exact h9.elim
  rintro v3 w3 ⟨rfl, z3, rfl, g3⟩
  have t3 := ne_t10 z3 (by omega)
  refine ne_ldc2 (z := 10) (by decide) nw_cX3_38 X dX3_digitsOf_6 ?_
  refine ne_ldiv X dX3_digitsOf_9 (by omega) (by omega) (by omega) ?_
  refine ne_lstore_n X dX3_digitsOf_10 rfl (by decide) ?_
  refine ne_ll (L' := [some (nl _), none, some (ni _), some (nl _), none]) rfl ?_
  exact lp11 _ 1 _ (Nat.lt_succ_self _) (by omega) (by omega) (by omega) (by rw [show ((19 : Int) - 1).toNat = 18 from rfl, show (10 : Int) ^ 18 = 1000000000000000000 from rfl]; omega)
set_option maxRecDepth 100000 in
set_option maxHeartbeats 4000000 in
theorem me_X3_digitsOf6 (l : Launch) (hl : l.stackTraces = false) (ws : ne_W) (a : Int) (ha : -999999 ≤ a ∧ a ≤ 999999) : ne_M l nw_cl (.code yX3_digitsOf cX3_digitsOf 5 (some .int)) nw_T yX3_digitsOf 1 40 0 0 [nl a] ws (fun v w => w = ws ∧ ∃ z : Int, v = some (ni z) ∧ 1 ≤ z ∧ z ≤ 6) (fun _ _ => False) := by
  refine ne_meet (own := RX3) hl rfl (by decide +kernel) (Nat.le_of_ble_eq_true rfl) ?_
  intro D ct A P9 V9 R9 S9 M9 as9 bl9 mt9 C9 ad0 X hr hin ht
  have lp11 : ∀ (n9 : Nat) (d r : Int), (6 - d).toNat < n9 → (1 ≤ d) → (d ≤ 6) → (0 ≤ r) → ((d = 1 → r ≤ 99999) ∧ (d = 2 → r ≤ 9999) ∧ (d = 3 → r ≤ 999) ∧ (d = 4 → r ≤ 99) ∧ (d = 5 → r ≤ 9) ∧ (d = 6 → r ≤ 0)) → ne_G nw_cl D ct A ws.length ad0 P9 l V9 R9 S9 M9 as9 bl9 mt9 C9 (ne_O nw_cl D ct ad0 ws.length A bl9 as9 S9 0 0 (fun v w => w = ws ∧ ∃ z : Int, v = some (ni z) ∧ 1 ≤ z ∧ z ≤ 6) (fun _ _ => False)) 5 0 0 0 0 11 [some (nl a), none, some (ni d), some (nl r), none] [] ws := by
    intro n9
    induction n9 with
    | zero => intro d r hm9 q1 q2 q3 q4; exfalso; omega
    | succ n9 ih =>
      intro d r hm9 q1 q2 q3 q4
      have q5 := ne_t10 r q3
      refine ne_lload_n X dX3_digitsOf_11 rfl ?_
      refine ne_lconst (z := 0) (by decide) X dX3_digitsOf_12 ?_
      refine ne_lcif_le (tgt := 29) X dX3_digitsOf_13 dX3_digitsOf_14 rfl (by omega) (by omega) (fun b14 => ?_) (fun b14 => ?_)
      · refine ne_iload_n X dX3_digitsOf_29 rfl ?_
        exact ne_iret X hr (by first | rfl | decide | rfl) dX3_digitsOf_30 ⟨rfl, _, rfl, by omega⟩
      · refine ne_iinc X dX3_digitsOf_17 rfl (by decide) ?_
        refine ne_lload_n X dX3_digitsOf_20 rfl ?_
        refine ne_ldc2 (z := 10) (by decide) nw_cX3_38 X dX3_digitsOf_21 ?_
        refine ne_ldiv X dX3_digitsOf_24 (by omega) (by omega) (by omega) ?_
        refine ne_lstore_n X dX3_digitsOf_25 rfl (by decide) ?_
        refine ne_ll (L' := [some (nl _), none, some (ni _), some (nl _), none]) rfl ?_
        refine ne_goto (tgt := 11) X dX3_digitsOf_26 rfl ?_
        exact ih _ _ (by omega) (by omega) (by omega) (by omega) (by omega)
  refine ne_iconst X dX3_digitsOf_0 ?_
  refine ne_istore_n X dX3_digitsOf_1 rfl (by decide) ?_
  refine ne_lload_n X dX3_digitsOf_2 rfl ?_
  refine ne_callS X nw_Tg (me_X3_sizeOf l hl _ _ (by omega)) nw_yX3_sizeOf nw_mX3_40 nw_sX3_sizeOf dX3_digitsOf_3 rfl rfl (by decide) (by decide) (by first | decide | omega) (by first | decide | omega) (Nat.le_refl _) rfl rfl (Nat.le_of_ble_eq_true rfl) ?_ ?_
  rotate_left
  · rintro E9 w9 h9; exact h9.elim
  rintro v3 w3 ⟨rfl, z3, rfl, g3⟩
  have t3 := ne_t10 z3 (by omega)
  refine ne_ldc2 (z := 10) (by decide) nw_cX3_38 X dX3_digitsOf_6 ?_
  refine ne_ldiv X dX3_digitsOf_9 (by omega) (by omega) (by omega) ?_
  refine ne_lstore_n X dX3_digitsOf_10 rfl (by decide) ?_
  refine ne_ll (L' := [some (nl _), none, some (ni _), some (nl _), none]) rfl ?_
  exact lp11 _ 1 _ (Nat.lt_succ_self _) (by omega) (by omega) (by omega) (by omega)
set_option maxRecDepth 100000 in
set_option maxHeartbeats 4000000 in
theorem me_X3_add_ (l : Launch) (hl : l.stackTraces = false) (ws : ne_W) (a b : Int) : ne_M l nw_cl (.code yX3_add_ cX3_add_ 4 (some .long)) nw_T yX3_add_ 0 0 0 0 [nl a, nl b] ws (fun v w => w = ws ∧ ∃ z : Int, v = some (nl z) ∧ True) (fun _ _ => False) := by
  refine ne_meet (own := RX3) hl rfl (by decide +kernel) (Nat.le_of_ble_eq_true rfl) ?_
  intro D ct A P9 V9 R9 S9 M9 as9 bl9 mt9 C9 ad0 X hr hin ht
  refine ne_lload_n X dX3_add__0 rfl ?_
  refine ne_ldc2 (z := 31) (by decide) nw_cX3_204 X dX3_add__1 ?_
  refine ne_lmul X dX3_add__4 ?_
  refine ne_lload_n X dX3_add__5 rfl ?_
  refine ne_ladd X dX3_add__6 ?_
  exact ne_lret X hr dX3_add__7 ⟨rfl, _, rfl, trivial⟩
set_option maxRecDepth 100000 in
set_option maxHeartbeats 4000000 in
theorem me_X3_rounded (l : Launch) (hl : l.stackTraces = false) (ws : ne_W) (B a b w0 : Int) (hB : 0 ≤ B ∧ B ≤ 1000000000000000000) (ha : -B ≤ a ∧ a ≤ B) (hb : 1 ≤ b ∧ b ≤ 1000000000000000) (hw : -2147483648 ≤ w0 ∧ w0 < 2147483648) : ne_M l nw_cl (.code yX3_rounded cX3_rounded 12 (some .long)) nw_T yX3_rounded 1 40 0 0 [nl a, nl b, ni w0] ws (fun v w => w = ws ∧ ∃ z : Int, v = some (nl z) ∧ (z = -9223372036854775808 ∨ (-B - 1 ≤ z ∧ z ≤ B + 1))) (fun _ _ => False) := by
  refine ne_meet (own := RX3) hl rfl (by decide +kernel) (Nat.le_of_ble_eq_true rfl) ?_
  intro D ct A P9 V9 R9 S9 M9 as9 bl9 mt9 C9 ad0 X hr hin ht
  have lp66 : ∀ (n9 : Nat) (u far near : Int), 0 < n9 → (-B - 1 ≤ u) → (u ≤ B) → (u ≤ far) → (far ≤ u + 1) → (u ≤ near) → (near ≤ u + 1) → (0 ≤ a - u * b) → (a - u * b < b) → ne_G nw_cl D ct A ws.length ad0 P9 l V9 R9 S9 M9 as9 bl9 mt9 C9 (ne_O nw_cl D ct ad0 ws.length A bl9 as9 S9 0 0 (fun v w => w = ws ∧ ∃ z : Int, v = some (nl z) ∧ (z = -9223372036854775808 ∨ (-B - 1 ≤ z ∧ z ≤ B + 1))) (fun _ _ => False)) 12 0 0 0 0 66 [some (nl a), none, some (nl b), none, some (ni w0), some (nl u), none, some (nl far), none, some (nl near), none, none] [] ws := by
    intro n9
    induction n9 with
    | zero => intro u far near hm9 q1 q2 q3 q4 q5 q6 q7 q8; exfalso; omega
    | succ n9 ih =>
      intro u far near hm9 q1 q2 q3 q4 q5 q6 q7 q8
      refine ne_iload X dX3_rounded_66 rfl ?_
      refine ne_bipush (v := 7) (by decide) X dX3_rounded_68 ?_
      refine ne_icmp_ne (tgt := 77) X dX3_rounded_70 rfl (by omega) (by omega) (fun b70 => ?_) (fun b70 => ?_)
      · refine ne_iload X dX3_rounded_77 rfl ?_
        refine ne_if_ne (tgt := 85) X dX3_rounded_79 rfl (by omega) (fun b79 => ?_) (fun b79 => ?_)
        · refine ne_iload X dX3_rounded_85 rfl ?_
          refine ne_iconst X dX3_rounded_87 ?_
          refine ne_icmp_ne (tgt := 94) X dX3_rounded_88 rfl (by omega) (by omega) (fun b88 => ?_) (fun b88 => ?_)
          · refine ne_iload X dX3_rounded_94 rfl ?_
            refine ne_iconst X dX3_rounded_96 ?_
            refine ne_icmp_ne (tgt := 105) X dX3_rounded_97 rfl (by omega) (by omega) (fun b97 => ?_) (fun b97 => ?_)
            · refine ne_iload X dX3_rounded_105 rfl ?_
              refine ne_iconst X dX3_rounded_107 ?_
              refine ne_icmp_ne (tgt := 114) X dX3_rounded_108 rfl (by omega) (by omega) (fun b108 => ?_) (fun b108 => ?_)
              · refine ne_ldc2 (z := 2) (by decide) nw_cX3_46 X dX3_rounded_114 ?_
                refine ne_lload_n X dX3_rounded_117 rfl ?_
                refine ne_lload X dX3_rounded_118 rfl ?_
                refine ne_lload_n X dX3_rounded_120 rfl ?_
                refine ne_lmul X dX3_rounded_121 ?_
                refine ne_lsub X dX3_rounded_122 ?_
                refine ne_lmul X dX3_rounded_123 ?_
                refine ne_lload_n X dX3_rounded_124 rfl ?_
                refine ne_callS X nw_Tg (me_X3_side l hl _ _ _ (by omega) (by omega)) nw_yX3_side nw_mX3_48 nw_sX3_side dX3_rounded_125 rfl rfl (by decide) (by decide) (by first | decide | omega) (by first | decide | omega) (Nat.le_refl _) rfl rfl (Nat.le_of_ble_eq_true rfl) ?_ ?_
                rotate_left
                · rintro E9 w9 h9; exact h9.elim
                rintro v125 w125 ⟨rfl, z125, rfl, g125, k125, i125, j125⟩
                refine ne_istore X dX3_rounded_128 (by decide) ?_
                refine ne_iload X dX3_rounded_130 rfl ?_
                refine ne_if_ge (tgt := 138) X dX3_rounded_132 rfl (by omega) (fun b132 => ?_) (fun b132 => ?_)
                · refine ne_iload X dX3_rounded_138 rfl ?_
                  refine ne_if_le (tgt := 148) X dX3_rounded_140 rfl (by omega) (fun b140 => ?_) (fun b140 => ?_)
                  · refine ne_iload X dX3_rounded_148 rfl ?_
                    refine ne_iconst X dX3_rounded_150 ?_
                    refine ne_icmp_ne (tgt := 159) X dX3_rounded_151 rfl (by omega) (by omega) (fun b151 => ?_) (fun b151 => ?_)
                    · refine ne_iload X dX3_rounded_159 rfl ?_
                      refine ne_iconst X dX3_rounded_161 ?_
                      refine ne_icmp_ne (tgt := 170) X dX3_rounded_162 rfl (by omega) (by omega) (fun b162 => ?_) (fun b162 => ?_)
                      · refine ne_lload X dX3_rounded_170 rfl ?_
                        refine ne_ldc2 (z := 2) (by decide) nw_cX3_46 X dX3_rounded_172 ?_
                        refine ne_lrem X dX3_rounded_175 (by omega) (by omega) (by omega) ?_
                        refine ne_lconst (z := 0) (by decide) X dX3_rounded_176 ?_
                        have t9 := tmod_bounds (a := u) (M := 2) (by decide)
                        refine ne_lcif_ne (tgt := 186) X dX3_rounded_177 dX3_rounded_178 rfl (by omega) (by omega) (fun b178 => ?_) (fun b178 => ?_)
                        · refine ne_lload X dX3_rounded_186 rfl ?_
                          refine ne_lconst (z := 1) (by decide) X dX3_rounded_188 ?_
                          refine ne_ladd X dX3_rounded_189 ?_
                          exact ne_lret X hr dX3_rounded_190 ⟨rfl, _, rfl, by omega⟩
                        · refine ne_lload X dX3_rounded_181 rfl ?_
                          refine ne_goto (tgt := 190) X dX3_rounded_183 rfl ?_
                          exact ne_lret X hr dX3_rounded_190 ⟨rfl, _, rfl, by omega⟩
                      · refine ne_lload X dX3_rounded_165 rfl ?_
                        refine ne_goto (tgt := 190) X dX3_rounded_167 rfl ?_
                        exact ne_lret X hr dX3_rounded_190 ⟨rfl, _, rfl, by omega⟩
                    · refine ne_lload X dX3_rounded_154 rfl ?_
                      refine ne_goto (tgt := 190) X dX3_rounded_156 rfl ?_
                      exact ne_lret X hr dX3_rounded_190 ⟨rfl, _, rfl, by omega⟩
                  · refine ne_lload X dX3_rounded_143 rfl ?_
                    refine ne_lconst (z := 1) (by decide) X dX3_rounded_145 ?_
                    refine ne_ladd X dX3_rounded_146 ?_
                    exact ne_lret X hr dX3_rounded_147 ⟨rfl, _, rfl, by omega⟩
                · refine ne_lload X dX3_rounded_135 rfl ?_
                  exact ne_lret X hr dX3_rounded_137 ⟨rfl, _, rfl, by omega⟩
              · refine ne_lload X dX3_rounded_111 rfl ?_
                exact ne_lret X hr dX3_rounded_113 ⟨rfl, _, rfl, by omega⟩
            · refine ne_lload X dX3_rounded_100 rfl ?_
              refine ne_lconst (z := 1) (by decide) X dX3_rounded_102 ?_
              refine ne_ladd X dX3_rounded_103 ?_
              exact ne_lret X hr dX3_rounded_104 ⟨rfl, _, rfl, by omega⟩
          · refine ne_lload X dX3_rounded_91 rfl ?_
            exact ne_lret X hr dX3_rounded_93 ⟨rfl, _, rfl, by omega⟩
        · refine ne_lload X dX3_rounded_82 rfl ?_
          exact ne_lret X hr dX3_rounded_84 ⟨rfl, _, rfl, by omega⟩
      · refine ne_ldc2 (z := -9223372036854775808) (by decide) nw_cX3_44 X dX3_rounded_73 ?_
        exact ne_lret X hr dX3_rounded_76 ⟨rfl, _, rfl, by omega⟩
  have lp49 : ∀ (n9 : Nat) (u far : Int), 0 < n9 → (-B - 1 ≤ u) → (u ≤ B) → (u ≤ far) → (far ≤ u + 1) → (0 ≤ a - u * b) → (a - u * b < b) → ne_G nw_cl D ct A ws.length ad0 P9 l V9 R9 S9 M9 as9 bl9 mt9 C9 (ne_O nw_cl D ct ad0 ws.length A bl9 as9 S9 0 0 (fun v w => w = ws ∧ ∃ z : Int, v = some (nl z) ∧ (z = -9223372036854775808 ∨ (-B - 1 ≤ z ∧ z ≤ B + 1))) (fun _ _ => False)) 12 0 0 0 0 49 [some (nl a), none, some (nl b), none, some (ni w0), some (nl u), none, some (nl far), none, none, none, none] [] ws := by
    intro n9
    induction n9 with
    | zero => intro u far hm9 q1 q2 q3 q4 q7 q8; exfalso; omega
    | succ n9 ih =>
      intro u far hm9 q1 q2 q3 q4 q7 q8
      refine ne_lload_n X dX3_rounded_49 rfl ?_
      refine ne_lconst (z := 0) (by decide) X dX3_rounded_50 ?_
      refine ne_lcif_le (tgt := 60) X dX3_rounded_51 dX3_rounded_52 rfl (by omega) (by omega) (fun b52 => ?_) (fun b52 => ?_)
      · refine ne_lload X dX3_rounded_60 rfl ?_
        refine ne_lconst (z := 1) (by decide) X dX3_rounded_62 ?_
        refine ne_ladd X dX3_rounded_63 ?_
        refine ne_lstore X dX3_rounded_64 (by decide) ?_
        exact lp66 1 _ _ _ (by omega) (by omega) (by omega) (by omega) (by omega) (by omega) (by omega) (by omega) (by omega)
      · refine ne_lload X dX3_rounded_55 rfl ?_
        refine ne_goto (tgt := 64) X dX3_rounded_57 rfl ?_
        refine ne_lstore X dX3_rounded_64 (by decide) ?_
        exact lp66 1 _ _ _ (by omega) (by omega) (by omega) (by omega) (by omega) (by omega) (by omega) (by omega) (by omega)
  have lp20 : ∀ (n9 : Nat) (u : Int), 0 < n9 → (-B - 1 ≤ u) → (u ≤ B) → (0 ≤ a - u * b) → (a - u * b < b) → ne_G nw_cl D ct A ws.length ad0 P9 l V9 R9 S9 M9 as9 bl9 mt9 C9 (ne_O nw_cl D ct ad0 ws.length A bl9 as9 S9 0 0 (fun v w => w = ws ∧ ∃ z : Int, v = some (nl z) ∧ (z = -9223372036854775808 ∨ (-B - 1 ≤ z ∧ z ≤ B + 1))) (fun _ _ => False)) 12 0 0 0 0 20 [some (nl a), none, some (nl b), none, some (ni w0), some (nl u), none, none, none, none, none, none] [] ws := by
    intro n9
    induction n9 with
    | zero => intro u hm9 q1 q2 q7 q8; exfalso; omega
    | succ n9 ih =>
      intro u hm9 q1 q2 q7 q8
      refine ne_lload X dX3_rounded_20 rfl ?_
      refine ne_lload_n X dX3_rounded_22 rfl ?_
      refine ne_lmul X dX3_rounded_23 ?_
      refine ne_lload_n X dX3_rounded_24 rfl ?_
      refine ne_lcif_ne (tgt := 32) X dX3_rounded_25 dX3_rounded_26 rfl (by omega) (by omega) (fun b26 => ?_) (fun b26 => ?_)
      · refine ne_lload_n X dX3_rounded_32 rfl ?_
        refine ne_lconst (z := 0) (by decide) X dX3_rounded_33 ?_
        refine ne_lcif_le (tgt := 45) X dX3_rounded_34 dX3_rounded_35 rfl (by omega) (by omega) (fun b35 => ?_) (fun b35 => ?_)
        · refine ne_lload X dX3_rounded_45 rfl ?_
          refine ne_lstore X dX3_rounded_47 (by decide) ?_
          exact lp49 1 _ _ (by omega) (by omega) (by omega) (by omega) (by omega) (by omega) (by omega)
        · refine ne_lload X dX3_rounded_38 rfl ?_
          refine ne_lconst (z := 1) (by decide) X dX3_rounded_40 ?_
          refine ne_ladd X dX3_rounded_41 ?_
          refine ne_goto (tgt := 47) X dX3_rounded_42 rfl ?_
          refine ne_lstore X dX3_rounded_47 (by decide) ?_
          exact lp49 1 _ _ (by omega) (by omega) (by omega) (by omega) (by omega) (by omega) (by omega)
      · refine ne_lload X dX3_rounded_29 rfl ?_
        exact ne_lret X hr dX3_rounded_31 ⟨rfl, _, rfl, by omega⟩
  refine ne_lload_n X dX3_rounded_0 rfl ?_
  refine ne_lload_n X dX3_rounded_1 rfl ?_
  have t2 : -b < a.tmod b ∧ a.tmod b < b ∧ -B ≤ a.tdiv b ∧ a.tdiv b ≤ B := by have := ne_tdm a b (by omega); omega
  have m2 : a.tdiv b * b = a - a.tmod b := by rw [Int.tmod_def, Int.mul_comm]; omega
  have m3 : (a.tdiv b - 1) * b = a.tdiv b * b - b := by rw [Int.sub_mul, Int.one_mul]
  refine ne_ldiv X dX3_rounded_2 (by omega) (by omega) (by omega) ?_
  refine ne_lstore X dX3_rounded_3 (by decide) ?_
  refine ne_lload X dX3_rounded_5 rfl ?_
  refine ne_lload_n X dX3_rounded_7 rfl ?_
  refine ne_lmul X dX3_rounded_8 ?_
  refine ne_lload_n X dX3_rounded_9 rfl ?_
  refine ne_lcif_le (tgt := 20) X dX3_rounded_10 dX3_rounded_11 rfl (by omega) (by omega) (fun b11 => ?_) (fun b11 => ?_)
  · exact lp20 1 _ (by omega) (by omega) (by omega) (by omega) (by omega)
  · refine ne_lload X dX3_rounded_14 rfl ?_
    refine ne_lconst (z := 1) (by decide) X dX3_rounded_16 ?_
    refine ne_lsub X dX3_rounded_17 ?_
    refine ne_lstore X dX3_rounded_18 (by decide) ?_
    refine ne_ll (L' := [some (nl _), none, some (nl _), none, some (ni _), some (nl _), none, none, none, none, none, none]) rfl ?_
    exact lp20 1 _ (by omega) (by omega) (by omega) (by omega) (by omega)
set_option maxRecDepth 100000 in
set_option maxHeartbeats 4000000 in
theorem me_X3_restOf (l : Launch) (hl : l.stackTraces = false) (ws : ne_W) (a b p : Int) (ha : 0 ≤ a) (hab : a < b) (hb : b ≤ 99) (hp : 0 ≤ p ∧ p ≤ 1000) : ne_M l nw_cl (.code yX3_restOf cX3_restOf 5 (some .int)) nw_T yX3_restOf 0 0 0 0 [ni a, ni b, ni p] ws (fun v w => w = ws ∧ ∃ z : Int, v = some (ni z) ∧ z = ne_rs a b p.toNat ∧ 0 ≤ z ∧ z < b) (fun _ _ => False) := by
  refine ne_meet (own := RX3) hl rfl (by decide +kernel) (Nat.le_of_ble_eq_true rfl) ?_
  intro D ct A P9 V9 R9 S9 M9 as9 bl9 mt9 C9 ad0 X hr hin ht
  have lp5 : ∀ (n9 : Nat) (r j : Int), (p - j).toNat < n9 → (0 ≤ j) → (j ≤ p) → (r = ne_rs a b j.toNat) → ne_G nw_cl D ct A ws.length ad0 P9 l V9 R9 S9 M9 as9 bl9 mt9 C9 (ne_O nw_cl D ct ad0 ws.length A bl9 as9 S9 0 0 (fun v w => w = ws ∧ ∃ z : Int, v = some (ni z) ∧ z = ne_rs a b p.toNat ∧ 0 ≤ z ∧ z < b) (fun _ _ => False)) 5 0 0 0 0 5 [some (ni a), some (ni b), some (ni p), some (ni r), some (ni j)] [] ws := by
    intro n9
    induction n9 with
    | zero => intro r j hm9 q1 q2 q3; exfalso; omega
    | succ n9 ih =>
      intro r j hm9 q1 q2 q3
      have q5 := ne_rs_in a b ha hab j.toNat
      have q6 : ne_rs a b (j + 1).toNat = (10 * ne_rs a b j.toNat).tmod b := by rw [show (j + 1).toNat = j.toNat + 1 by omega]; rfl
      refine ne_iload X dX3_restOf_5 rfl ?_
      refine ne_iload_n X dX3_restOf_7 rfl ?_
      refine ne_icmp_ge (tgt := 24) X dX3_restOf_8 rfl (by omega) (by omega) (fun b8 => ?_) (fun b8 => ?_)
      · refine ne_iload_n X dX3_restOf_24 rfl ?_
        exact ne_iret X hr (by first | rfl | decide | rfl) dX3_restOf_25 ⟨rfl, _, rfl, by rw [q3, show j = p by omega], by omega, by omega⟩
      · refine ne_bipush (v := 10) (by decide) X dX3_restOf_11 ?_
        refine ne_iload_n X dX3_restOf_13 rfl ?_
        refine ne_imul X dX3_restOf_14 ?_
        refine ne_iload_n X dX3_restOf_15 rfl ?_
        refine ne_irem X dX3_restOf_16 (by omega) (by omega) (by omega) ?_
        refine ne_istore_n X dX3_restOf_17 rfl (by decide) ?_
        refine ne_iinc X dX3_restOf_18 rfl (by decide) ?_
        refine ne_ll (L' := [some (ni _), some (ni _), some (ni _), some (ni _), some (ni _)]) rfl ?_
        refine ne_goto (tgt := 5) X dX3_restOf_21 rfl ?_
        exact ih _ _ (by omega) (by omega) (by omega) (by rw [q6, ← q3])
  refine ne_iload_n X dX3_restOf_0 rfl ?_
  refine ne_istore_n X dX3_restOf_1 rfl (by decide) ?_
  refine ne_iconst X dX3_restOf_2 ?_
  refine ne_istore X dX3_restOf_3 (by decide) ?_
  refine ne_ll (L' := [some (ni _), some (ni _), some (ni _), some (ni _), some (ni _)]) rfl ?_
  exact lp5 _ _ 0 (Nat.lt_succ_self _) (by omega) (by omega) rfl
set_option maxRecDepth 100000 in
set_option maxHeartbeats 4000000 in
theorem me_X3_lengthOf (l : Launch) (hl : l.stackTraces = false) (ws : ne_W) (a b : Int) (ha : 0 ≤ a) (hab : a < b) (hb : b ≤ 99) (h2 : b.tmod 2 ≠ 0) (h5 : b.tmod 5 ≠ 0) : ne_M l nw_cl (.code yX3_lengthOf cX3_lengthOf 4 (some .int)) nw_T yX3_lengthOf 0 0 0 0 [ni a, ni b] ws (fun v w => w = ws ∧ ∃ z : Int, v = some (ni z) ∧ 1 ≤ z ∧ z ≤ 96 ∧ (∀ m : Nat, 0 < m → (m : Int) < z → ne_rs a b m ≠ a) ∧ ne_rs a b z.toNat = a) (fun _ _ => False) := by
  refine ne_meet (own := RX3) hl rfl (by decide +kernel) (Nat.le_of_ble_eq_true rfl) ?_
  intro D ct A P9 V9 R9 S9 M9 as9 bl9 mt9 C9 ad0 X hr hin ht
  obtain ⟨m9, hm1, hm2, hm3⟩ := ne_turns a b ha hab hb h2 h5
  have d9 := ne_dg a b ha hab
  have lp9 : ∀ (n9 : Nat) (r j : Int), (97 - j).toNat < n9 → (1 ≤ j) → (j ≤ 96) → (r = ne_rs a b j.toNat) → (∀ m : Nat, 0 < m → (m : Int) < j → ne_rs a b m ≠ a) → ne_G nw_cl D ct A ws.length ad0 P9 l V9 R9 S9 M9 as9 bl9 mt9 C9 (ne_O nw_cl D ct ad0 ws.length A bl9 as9 S9 0 0 (fun v w => w = ws ∧ ∃ z : Int, v = some (ni z) ∧ 1 ≤ z ∧ z ≤ 96 ∧ (∀ m : Nat, 0 < m → (m : Int) < z → ne_rs a b m ≠ a) ∧ ne_rs a b z.toNat = a) (fun _ _ => False)) 4 0 0 0 0 9 [some (ni a), some (ni b), some (ni j), some (ni r)] [] ws := by
    intro n9
    induction n9 with
    | zero => intro r j hm9 q1 q2 q3 q4; exfalso; omega
    | succ n9 ih =>
      intro r j hm9 q1 q2 q3 q4
      have q5 := ne_rs_in a b ha hab j.toNat
      have q6 : ne_rs a b (j + 1).toNat = (10 * ne_rs a b j.toNat).tmod b := by rw [show (j + 1).toNat = j.toNat + 1 by omega]; rfl
      refine ne_iload_n X dX3_lengthOf_9 rfl ?_
      refine ne_iload_n X dX3_lengthOf_10 rfl ?_
      refine ne_icmp_eq (tgt := 27) X dX3_lengthOf_11 rfl (by omega) (by omega) (fun b11 => ?_) (fun b11 => ?_)
      · refine ne_iload_n X dX3_lengthOf_27 rfl ?_
        exact ne_iret X hr (by first | rfl | decide | rfl) dX3_lengthOf_28 ⟨rfl, _, rfl, q1, q2, q4, by rw [← q3]; assumption⟩
      · refine ne_iinc X dX3_lengthOf_14 rfl (by decide) ?_
        refine ne_bipush (v := 10) (by decide) X dX3_lengthOf_17 ?_
        refine ne_iload_n X dX3_lengthOf_19 rfl ?_
        refine ne_imul X dX3_lengthOf_20 ?_
        refine ne_iload_n X dX3_lengthOf_21 rfl ?_
        refine ne_irem X dX3_lengthOf_22 (by omega) (by omega) (by omega) ?_
        refine ne_istore_n X dX3_lengthOf_23 rfl (by decide) ?_
        refine ne_ll (L' := [some (ni _), some (ni _), some (ni _), some (ni _)]) rfl ?_
        refine ne_goto (tgt := 9) X dX3_lengthOf_24 rfl ?_
        have q7 : ∀ m : Nat, 0 < m → (m : Int) < j + 1 → ne_rs a b m ≠ a := fun m h1 h2 => by
              rcases (show (m : Int) < j ∨ m = j.toNat by omega) with h3 | h3
              · exact q4 m h1 h3
              · rw [h3, ← q3]; assumption
        have q8 : j + 1 ≤ 96 := by
              rcases (show j + 1 ≤ 96 ∨ (m9 : Int) < j + 1 by omega) with h | h
              · exact h
              · exact absurd hm3 (q7 m9 (by omega) h)
        exact ih _ _ (by omega) (by omega) (by omega) (by rw [q6, ← q3]) q7
  refine ne_iconst X dX3_lengthOf_0 ?_
  refine ne_istore_n X dX3_lengthOf_1 rfl (by decide) ?_
  refine ne_bipush (v := 10) (by decide) X dX3_lengthOf_2 ?_
  refine ne_iload_n X dX3_lengthOf_4 rfl ?_
  refine ne_imul X dX3_lengthOf_5 ?_
  refine ne_iload_n X dX3_lengthOf_6 rfl ?_
  refine ne_irem X dX3_lengthOf_7 (by omega) (by omega) (by omega) ?_
  refine ne_istore_n X dX3_lengthOf_8 rfl (by decide) ?_
  refine ne_ll (L' := [some (ni _), some (ni _), some (ni _), some (ni _)]) rfl ?_
  exact lp9 _ _ 1 (Nat.lt_succ_self _) (by omega) (by omega) rfl (fun m h1 h2 => by omega)
set_option maxRecDepth 100000 in
set_option maxHeartbeats 4000000 in
theorem me_X3_areLike (l : Launch) (hl : l.stackTraces = false) (n n2 : Nat) (f f2 : Nat → Int) (hn : n ≤ n2 ∧ n2 ≤ 1000) (If : ne_rg f (-1000) 1000) (Ig : ne_rg f2 (-1000) 1000) : ne_M l nw_cl (.code yX3_areLike cX3_areLike 3 (some .boolean)) nw_T yX3_areLike 0 0 0 0 [.ref 0, .ref 1] ([some (.inl (0, n, f)), some (.inl (0, n2, f2))]) (fun v w => w = [some (.inl (0, n, f)), some (.inl (0, n2, f2))] ∧ ∃ z : Int, v = some (ni z) ∧ 0 ≤ z ∧ z ≤ 1) (fun _ _ => False) := by
  refine ne_meet (own := RX3) hl rfl (by decide +kernel) (Nat.le_of_ble_eq_true rfl) ?_
  intro D ct A P9 V9 R9 S9 M9 as9 bl9 mt9 C9 ad0 X hr hin ht
  have lp2 : ∀ (n9 : Nat) (j : Int), (n - j).toNat < n9 → (0 ≤ j) → (j ≤ n) → ne_G nw_cl D ct A 2 ad0 P9 l V9 R9 S9 M9 as9 bl9 mt9 C9 (ne_O nw_cl D ct ad0 2 A bl9 as9 S9 0 0 (fun v w => w = [some (.inl (0, n, f)), some (.inl (0, n2, f2))] ∧ ∃ z : Int, v = some (ni z) ∧ 0 ≤ z ∧ z ≤ 1) (fun _ _ => False)) 3 0 0 0 0 2 [some (.ref 0), some (.ref 1), some (ni j)] [] ([some (.inl (0, n, f)), some (.inl (0, n2, f2))]) := by
    intro n9
    induction n9 with
    | zero => intro j hm9 q1 q2; exfalso; omega
    | succ n9 ih =>
      intro j hm9 q1 q2
      refine ne_iload_n X dX3_areLike_2 rfl ?_
      refine ne_aload_n X dX3_areLike_3 rfl ?_
      refine ne_alen X dX3_areLike_4 rfl (by decide) ?_
      refine ne_icmp_ge (tgt := 25) X dX3_areLike_5 rfl (by omega) (by omega) (fun b5 => ?_) (fun b5 => ?_)
      · refine ne_iconst X dX3_areLike_25 ?_
        exact ne_iret X hr (by first | rfl | decide | rfl) dX3_areLike_26 ⟨rfl, _, rfl, by omega, by omega⟩
      · refine ne_aload_n X dX3_areLike_8 rfl ?_
        refine ne_iload_n X dX3_areLike_9 rfl ?_
        refine ne_ialdR X dX3_areLike_10 rfl (by omega) If (fun v10 e10 f10 u10 => ?_)
        refine ne_aload_n X dX3_areLike_11 rfl ?_
        refine ne_iload_n X dX3_areLike_12 rfl ?_
        refine ne_ialdR X dX3_areLike_13 rfl (by omega) Ig (fun v13 e13 f13 u13 => ?_)
        refine ne_icmp_eq (tgt := 19) X dX3_areLike_14 rfl (by omega) (by omega) (fun b14 => ?_) (fun b14 => ?_)
        · refine ne_iinc X dX3_areLike_19 rfl (by decide) ?_
          refine ne_goto (tgt := 2) X dX3_areLike_22 rfl ?_
          exact ih (j + 1) (by omega) (by omega) (by omega)
        · refine ne_iconst X dX3_areLike_17 ?_
          exact ne_iret X hr (by first | rfl | decide | rfl) dX3_areLike_18 ⟨rfl, _, rfl, by omega, by omega⟩
  refine ne_iconst X dX3_areLike_0 ?_
  refine ne_istore_n X dX3_areLike_1 rfl (by decide) ?_
  exact lp2 _ 0 (Nat.lt_succ_self _) (by omega) (by omega)
