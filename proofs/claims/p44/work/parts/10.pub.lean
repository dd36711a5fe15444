theorem ne_tq (v b : Int) : (0 ≤ v → 0 ≤ v.tmod b ∧ v.tmod b ≤ v ∧ -v ≤ v.tdiv b ∧ v.tdiv b ≤ v) ∧ (v ≤ 0 → v ≤ v.tmod b ∧ v.tmod b ≤ 0 ∧ v ≤ v.tdiv b ∧ v.tdiv b ≤ -v) := by
  have pos : ∀ c : Int, 1 ≤ c → (0 ≤ v → 0 ≤ v.tmod c ∧ v.tmod c ≤ v ∧ 0 ≤ v.tdiv c ∧ v.tdiv c ≤ v) ∧ (v ≤ 0 → v ≤ v.tmod c ∧ v.tmod c ≤ 0 ∧ v ≤ v.tdiv c ∧ v.tdiv c ≤ 0) := by
    intro c hc
    have h := ne_tdm v c hc
    have h9 := ne_tdm (-v) c hc
    rw [Int.neg_tdiv, Int.neg_tmod] at h9
    refine ⟨fun hv => ?_, fun hv => ?_⟩
    · have := h.1 hv; omega
    · have := h.2 hv; have := h9.1 (by omega); omega
  rcases (show b = 0 ∨ 1 ≤ b ∨ 1 ≤ -b by omega) with h | h | h
  · subst h
    rw [Int.tmod_zero, Int.tdiv_zero]
    omega
  · have := pos b h; omega
  · have h2 := pos (-b) h
    rw [Int.tmod_neg, Int.tdiv_neg] at h2
    omega
set_option maxRecDepth 100000 in
set_option maxHeartbeats 4000000 in
theorem me_X1_digitsIn6 (l : Launch) (hl : l.stackTraces = false) (ws : ne_W) (a : Int) (ha : -999999 ≤ a ∧ a ≤ 999999) : ne_M l nw_cl (.code yX1_digitsIn cX1_digitsIn 5 (some .int)) nw_T yX1_digitsIn 1 40 0 0 [nl a] ws (fun v w => w = ws ∧ ∃ z : Int, v = some (ni z) ∧ 1 ≤ z ∧ z ≤ 6) (fun _ _ => False) := by
  refine ne_meet (own := RX1) hl rfl (by decide +kernel) (Nat.le_of_ble_eq_true rfl) ?_
  intro D ct A P9 V9 R9 S9 M9 as9 bl9 mt9 C9 ad0 X hr hin ht
  have lp11 : ∀ (n9 : Nat) (d r : Int), (19 - d).toNat < n9 → (1 ≤ d) → (d ≤ 6) → (0 ≤ r) → ((d = 1 → r ≤ 99999) ∧ (d = 2 → r ≤ 9999) ∧ (d = 3 → r ≤ 999) ∧ (d = 4 → r ≤ 99) ∧ (d = 5 → r ≤ 9) ∧ (d = 6 → r ≤ 0)) → ne_G nw_cl D ct A ws.length ad0 P9 l V9 R9 S9 M9 as9 bl9 mt9 C9 (ne_O nw_cl D ct ad0 ws.length A bl9 as9 S9 0 0 (fun v w => w = ws ∧ ∃ z : Int, v = some (ni z) ∧ 1 ≤ z ∧ z ≤ 6) (fun _ _ => False)) 5 0 0 0 0 11 [some (nl a), none, some (ni d), some (nl r), none] [] ws := by
    intro n9
    induction n9 with
    | zero => intro d r hm9 q1 q2 q3 q4; exfalso; omega
    | succ n9 ih =>
      intro d r hm9 q1 q2 q3 q4
      have q5 := ne_t10 r q3
      refine ne_lload_n X dX1_digitsIn_11 rfl ?_
      refine ne_lconst (z := 0) (by decide) X dX1_digitsIn_12 ?_
      refine ne_lcif_le (tgt := 35) X dX1_digitsIn_13 dX1_digitsIn_14 rfl (by omega) (by omega) (fun b14 => ?_) (fun b14 => ?_)
      · refine ne_iload_n X dX1_digitsIn_35 rfl ?_
        exact ne_iret X hr (by first | rfl | decide | rfl) dX1_digitsIn_36 ⟨rfl, _, rfl, by omega⟩
      · refine ne_iload_n X dX1_digitsIn_17 rfl ?_
        refine ne_bipush (v := 19) (by decide) X dX1_digitsIn_18 ?_
        refine ne_icmp_ge (tgt := 35) X dX1_digitsIn_20 rfl (by omega) (by omega) (fun b20 => ?_) (fun b20 => ?_)
        · refine ne_iload_n X dX1_digitsIn_35 rfl ?_
          exact ne_iret X hr (by first | rfl | decide | rfl) dX1_digitsIn_36 ⟨rfl, _, rfl, by omega⟩
        · refine ne_iinc X dX1_digitsIn_23 rfl (by decide) ?_
          refine ne_lload_n X dX1_digitsIn_26 rfl ?_
          refine ne_ldc2 (z := 10) (by decide) nw_cX1_92 X dX1_digitsIn_27 ?_
          refine ne_ldiv X dX1_digitsIn_30 (by omega) (by omega) (by omega) ?_
          refine ne_lstore_n X dX1_digitsIn_31 rfl (by decide) ?_
          refine ne_ll (L' := [some (nl _), none, some (ni _), some (nl _), none]) rfl ?_
          refine ne_goto (tgt := 11) X dX1_digitsIn_32 rfl ?_
          exact ih _ _ (by omega) (by omega) (by omega) (by omega) (by omega)
  refine ne_iconst X dX1_digitsIn_0 ?_
  refine ne_istore_n X dX1_digitsIn_1 rfl (by decide) ?_
  refine ne_lload_n X dX1_digitsIn_2 rfl ?_
  refine ne_mabsl X dX1_digitsIn_3 nw_mX1_250 nw_Ms_absl nw_Mi nw_Mc_absl (by decide) (Nat.le_of_ble_eq_true rfl) (by omega) ?_
  refine ne_topL (fun a3 e3 => ?_)
  have p3 : 0 ≤ a3 ∧ a3 ≤ 999999 := by rw [e3]; split <;> omega
  have t3 := ne_t10 a3 p3.1
  refine ne_ldc2 (z := 10) (by decide) nw_cX1_92 X dX1_digitsIn_6 ?_
  refine ne_ldiv X dX1_digitsIn_9 (by omega) (by omega) (by omega) ?_
  refine ne_lstore_n X dX1_digitsIn_10 rfl (by decide) ?_
  refine ne_ll (L' := [some (nl _), none, some (ni _), some (nl _), none]) rfl ?_
  exact lp11 _ 1 _ (Nat.lt_succ_self _) (by omega) (by omega) (by omega) (by omega)
set_option maxRecDepth 100000 in
set_option maxHeartbeats 4000000 in
theorem me_X1_rounded6 (l : Launch) (hl : l.stackTraces = false) (ws : ne_W) (a b w0 : Int) (ha : -1000000 ≤ a ∧ a ≤ 1000000) (hb : -1000000000000000 ≤ b ∧ b ≤ 1000000000000000) (hw : -2147483648 ≤ w0 ∧ w0 < 2147483648) : ne_M l nw_cl (.code yX1_rounded cX1_rounded 9 (some .long)) nw_T yX1_rounded 2 80 0 0 [nl a, nl b, ni w0] ws (fun v w => w = ws ∧ ∃ z : Int, v = some (nl z) ∧ (z = -9000000000000000000 ∨ (-1000001 ≤ z ∧ z ≤ 1000001))) (fun _ _ => False) := by
  refine ne_meet (own := RX1) hl rfl (by decide +kernel) (Nat.le_of_ble_eq_true rfl) ?_
  intro D ct A P9 V9 R9 S9 M9 as9 bl9 mt9 C9 ad0 X hr hin ht
  refine ne_lload_n X dX1_rounded_0 rfl ?_
  refine ne_lconst (z := 1) (by decide) X dX1_rounded_1 ?_
  refine ne_lcif_ge (tgt := 10) X dX1_rounded_2 dX1_rounded_3 rfl (by omega) (by omega) (fun b3 => ?_) (fun b3 => ?_)
  · have t9 := ne_tdm a b (by omega)
    refine ne_lload_n X dX1_rounded_10 rfl ?_
    refine ne_lload_n X dX1_rounded_11 rfl ?_
    refine ne_ldiv X dX1_rounded_12 (by omega) (by omega) (by omega) ?_
    refine ne_lstore X dX1_rounded_13 (by decide) ?_
    refine ne_lload_n X dX1_rounded_15 rfl ?_
    refine ne_lload_n X dX1_rounded_16 rfl ?_
    refine ne_lrem X dX1_rounded_17 (by omega) (by omega) (by omega) ?_
    refine ne_mabsl X dX1_rounded_18 nw_mX1_250 nw_Ms_absl nw_Mi nw_Mc_absl (by decide) (Nat.le_of_ble_eq_true rfl) (by omega) ?_
    refine ne_topL (fun a18 e18 => ?_)
    have p18 : 0 ≤ a18 ∧ a18 < b := by rw [e18]; split <;> omega
    refine ne_lstore X dX1_rounded_21 (by decide) ?_
    refine ne_ll (L' := [some (nl _), none, some (nl _), none, some (ni _), some (nl _), none, some (nl _), none]) rfl ?_
    refine ne_lload X dX1_rounded_23 rfl ?_
    refine ne_lconst (z := 0) (by decide) X dX1_rounded_25 ?_
    refine ne_lcif_ne (tgt := 33) X dX1_rounded_26 dX1_rounded_27 rfl (by omega) (by omega) (fun b27 => ?_) (fun b27 => ?_)
    · refine ne_iload X dX1_rounded_33 rfl ?_
      refine ne_bipush (v := 7) (by decide) X dX1_rounded_35 ?_
      refine ne_icmp_ne (tgt := 44) X dX1_rounded_37 rfl (by omega) (by omega) (fun b37 => ?_) (fun b37 => ?_)
      · refine ne_lload_n X dX1_rounded_44 rfl ?_
        refine ne_lload X dX1_rounded_45 rfl ?_
        refine ne_ldc2 (z := 2) (by decide) nw_cX1_173 X dX1_rounded_47 ?_
        refine ne_lload X dX1_rounded_50 rfl ?_
        refine ne_lmul X dX1_rounded_52 ?_
        refine ne_lload_n X dX1_rounded_53 rfl ?_
        refine ne_lsub X dX1_rounded_54 ?_
        refine ne_callS X nw_Tg (me_X1_signOf l hl _ _ (by omega)) nw_yX1_signOf nw_mX1_117 nw_sX1_signOf dX1_rounded_55 rfl rfl (by decide) (by decide) (by first | decide | omega) (by first | decide | omega) (Nat.le_refl _) rfl rfl (Nat.le_of_ble_eq_true rfl) ?_ ?_
        rotate_left
        · rintro E9 w9 h9; exact h9.elim
        rintro v55 w55 ⟨rfl, z55, rfl, g55, k55, i55, j55⟩
        refine ne_iload X dX1_rounded_58 rfl ?_
        refine ne_callS X nw_Tg (me_X1_isFartherTaken l hl _ _ _ _ _ (by omega) (by omega) (by omega) (by omega)) nw_yX1_isFartherTaken nw_mX1_270 nw_sX1_isFartherTaken dX1_rounded_60 rfl rfl (by decide) (by decide) (by first | decide | omega) (by first | decide | omega) (Nat.le_refl _) rfl rfl (Nat.le_of_ble_eq_true rfl) ?_ ?_
        rotate_left
        · rintro E9 w9 h9; exact h9.elim
        rintro v60 w60 ⟨rfl, z60, rfl, g60, k60⟩
        refine ne_if_eq (tgt := 77) X dX1_rounded_63 rfl (by omega) (fun b63 => ?_) (fun b63 => ?_)
        · refine ne_lload X dX1_rounded_77 rfl ?_
          exact ne_lret X hr dX1_rounded_79 ⟨rfl, _, rfl, by omega⟩
        · refine ne_lload X dX1_rounded_66 rfl ?_
          refine ne_lload_n X dX1_rounded_68 rfl ?_
          refine ne_callS X nw_Tg (me_X1_signOf l hl _ _ (by omega)) nw_yX1_signOf nw_mX1_117 nw_sX1_signOf dX1_rounded_69 rfl rfl (by decide) (by decide) (by first | decide | omega) (by first | decide | omega) (Nat.le_refl _) rfl rfl (Nat.le_of_ble_eq_true rfl) ?_ ?_
          rotate_left
          · rintro E9 w9 h9; exact h9.elim
          rintro v69 w69 ⟨rfl, z69, rfl, g69, k69, i69, j69⟩
          refine ne_i2l (by omega) X dX1_rounded_72 ?_
          refine ne_ladd X dX1_rounded_73 ?_
          refine ne_goto (tgt := 79) X dX1_rounded_74 rfl ?_
          exact ne_lret X hr dX1_rounded_79 ⟨rfl, _, rfl, by omega⟩
      · refine ne_ldc2 (z := -9000000000000000000) (by decide) nw_cX1_105 X dX1_rounded_40 ?_
        exact ne_lret X hr dX1_rounded_43 ⟨rfl, _, rfl, by omega⟩
    · refine ne_lload X dX1_rounded_30 rfl ?_
      exact ne_lret X hr dX1_rounded_32 ⟨rfl, _, rfl, by omega⟩
  · refine ne_ldc2 (z := -9000000000000000000) (by decide) nw_cX1_105 X dX1_rounded_6 ?_
    exact ne_lret X hr dX1_rounded_9 ⟨rfl, _, rfl, by omega⟩
set_option maxRecDepth 100000 in
set_option maxHeartbeats 4000000 in
theorem me_X1_put (l : Launch) (hl : l.stackTraces = false) (c q t b k n h x y : Nat → Int) (T : Int) (hI : cI c q t b k n h x y T) (hT : 0 ≤ T ∧ T ≤ 1000) (i : Int) (a : Int) (p : Int) (hi : -2147483648 ≤ i ∧ i < 2147483648) (ha : -2147483648 ≤ a ∧ a < 2147483648) (hp : -2147483648 ≤ p ∧ p < 2147483648)  : ne_M l nw_cl (.code yX1_put cX1_put 4 (some .int)) nw_T yX1_put 9 330 8 48 [.ref 0, ni i, ni a, ni p] (cW c q t b k n h x y) (fun v w => (∃ c1 q1 h1 x1 y1, w = cW c1 q1 t b k n h1 x1 y1 ∧ cI c1 q1 t b k n h1 x1 y1 (T + 1)) ∧ ∃ z : Int, v = some (ni z) ∧ True) (fun E w => w = cW c q t b k n h x y ∧ (E = "java/lang/IndexOutOfBoundsException" ∨ E = "java/lang/IllegalArgumentException")) := by
  refine ne_meet (own := RX1) hl rfl (by decide +kernel) (Nat.le_of_ble_eq_true rfl) ?_
  intro D ct A P9 V9 R9 S9 M9 as9 bl9 mt9 C9 ad0 X hr hin ht
  obtain ⟨Ic, Iq, It, Ib, Itb, Ik, In, Ih, Ix, Iy⟩ := hI
  refine ne_iload_n X dX1_put_0 rfl ?_
  refine ne_callS X nw_Tg (me_X1_requireCell l hl _ _ (by omega)) nw_yX1_requireCell nw_mX1_41 nw_sX1_requireCell dX1_put_1 rfl rfl (by decide) (by decide) (by first | decide | omega) (by first | decide | omega) (Nat.le_of_ble_eq_true rfl) rfl rfl (Nat.le_of_ble_eq_true rfl) ?_ ?_
  rotate_left
  · rintro E9 w9 h9; exact ne_out X ht (by obtain ⟨rfl, rfl⟩ := h9; exact ⟨rfl, by first | exact Or.inl rfl | exact Or.inr rfl⟩)
  rintro v1 w1 ⟨rfl, rfl, g1, k1⟩
  refine ne_iload_n X dX1_put_4 rfl ?_
  refine ne_ldc2 (z := -999999) (by decide) nw_cX1_45 X dX1_put_5 ?_
  refine ne_ldc2 (z := 999999) (by decide) nw_cX1_47 X dX1_put_8 ?_
  refine ne_callS X nw_Tg (me_X1_requireBetween l hl _ _ _ _ (by omega) (by omega) (by omega)) nw_yX1_requireBetween nw_mX1_49 nw_sX1_requireBetween dX1_put_11 rfl rfl (by decide) (by decide) (by first | decide | omega) (by first | decide | omega) (Nat.le_of_ble_eq_true rfl) rfl rfl (Nat.le_of_ble_eq_true rfl) ?_ ?_
  rotate_left
  · rintro E9 w9 h9; exact ne_out X ht (by obtain ⟨rfl, rfl⟩ := h9; exact ⟨rfl, by first | exact Or.inl rfl | exact Or.inr rfl⟩)
  rintro v11 w11 ⟨rfl, rfl, g11, k11⟩
  refine ne_iload_n X dX1_put_14 rfl ?_
  refine ne_lconst (z := 0) (by decide) X dX1_put_15 ?_
  refine ne_ldc2 (z := 3) (by decide) nw_cX1_53 X dX1_put_16 ?_
  refine ne_callS X nw_Tg (me_X1_requireBetween l hl _ _ _ _ (by omega) (by omega) (by omega)) nw_yX1_requireBetween nw_mX1_49 nw_sX1_requireBetween dX1_put_19 rfl rfl (by decide) (by decide) (by first | decide | omega) (by first | decide | omega) (Nat.le_of_ble_eq_true rfl) rfl rfl (Nat.le_of_ble_eq_true rfl) ?_ ?_
  rotate_left
  · rintro E9 w9 h9; exact ne_out X ht (by obtain ⟨rfl, rfl⟩ := h9; exact ⟨rfl, by first | exact Or.inl rfl | exact Or.inr rfl⟩)
  rintro v19 w19 ⟨rfl, rfl, g19, k19⟩
  refine ne_aload_n X dX1_put_22 rfl ?_
  refine ne_iload_n X dX1_put_23 rfl ?_
  refine ne_iload_n X dX1_put_24 rfl ?_
  refine ne_i2l (by omega) X dX1_put_25 ?_
  refine ne_iload_n X dX1_put_26 rfl ?_
  refine ne_callV X nw_Tg (me_X1_bring l hl c q t b k n h x y T (by exact ⟨Ic, Iq, It, Ib, Itb, Ik, In, Ih, Ix, Iy⟩) (by omega) _ _ _ (by omega) (by omega) (by omega)) nw_yX1_bring nw_mX1_55 nw_iX1_bring nw_eX1_bring (ci := 3) rfl rfl rfl dX1_put_27 rfl rfl (by decide) (by decide) (by first | decide | omega) (by first | decide | omega) (Nat.le_of_ble_eq_true rfl) rfl rfl (Nat.le_of_ble_eq_true rfl) ?_ ?_
  rotate_left
  · rintro E9 w9 h9; exact h9.elim
  rintro v27 w27 ⟨c27, q27, h27, rfl, Ic, Iq, Ih, z27, rfl, g27, k27⟩
  exact ne_iret X hr (by first | rfl | decide | rfl) dX1_put_30 ⟨⟨_, _, _, _, _, rfl, Ic, Iq, It, Ib, Itb, Ik, In, ne_rg_mono Ih (by omega) (by omega), Ix, Iy⟩, _, rfl, trivial⟩
set_option maxRecDepth 100000 in
set_option maxHeartbeats 4000000 in
theorem me_X1_write (l : Launch) (hl : l.stackTraces = false) (c q t b k n h x y : Nat → Int) (T : Int) (hI : cI c q t b k n h x y T) (hT : 0 ≤ T ∧ T ≤ 1000) (i : Int) (m : Int) (a : Int) (p : Int) (d : Int) (hi : -2147483648 ≤ i ∧ i < 2147483648) (hm : 0 ≤ m ∧ m ≤ 1) (ha : -2147483648 ≤ a ∧ a < 2147483648) (hp : -2147483648 ≤ p ∧ p < 2147483648) (hd : -2147483648 ≤ d ∧ d < 2147483648)  : ne_M l nw_cl (.code yX1_write cX1_write 8 (some .int)) nw_T yX1_write 9 330 8 48 [.ref 0, ni i, ni m, ni a, ni p, ni d] (cW c q t b k n h x y) (fun v w => (∃ c1 q1 h1 x1 y1, w = cW c1 q1 t b k n h1 x1 y1 ∧ cI c1 q1 t b k n h1 x1 y1 (T + 1)) ∧ ∃ z : Int, v = some (ni z) ∧ True) (fun E w => w = cW c q t b k n h x y ∧ (E = "java/lang/IndexOutOfBoundsException" ∨ E = "java/lang/IllegalArgumentException")) := by
  refine ne_meet (own := RX1) hl rfl (by decide +kernel) (Nat.le_of_ble_eq_true rfl) ?_
  intro D ct A P9 V9 R9 S9 M9 as9 bl9 mt9 C9 ad0 X hr hin ht
  obtain ⟨Ic, Iq, It, Ib, Itb, Ik, In, Ih, Ix, Iy⟩ := hI
  refine ne_iload_n X dX1_write_0 rfl ?_
  refine ne_callS X nw_Tg (me_X1_requireCell l hl _ _ (by omega)) nw_yX1_requireCell nw_mX1_41 nw_sX1_requireCell dX1_write_1 rfl rfl (by decide) (by decide) (by first | decide | omega) (by first | decide | omega) (Nat.le_of_ble_eq_true rfl) rfl rfl (Nat.le_of_ble_eq_true rfl) ?_ ?_
  rotate_left
  · rintro E9 w9 h9; exact ne_out X ht (by obtain ⟨rfl, rfl⟩ := h9; exact ⟨rfl, by first | exact Or.inl rfl | exact Or.inr rfl⟩)
  rintro v1 w1 ⟨rfl, rfl, g1, k1⟩
  refine ne_iload_n X dX1_write_4 rfl ?_
  refine ne_lconst (z := 0) (by decide) X dX1_write_5 ?_
  refine ne_ldc2 (z := 999999) (by decide) nw_cX1_47 X dX1_write_6 ?_
  refine ne_callS X nw_Tg (me_X1_requireBetween l hl _ _ _ _ (by omega) (by omega) (by omega)) nw_yX1_requireBetween nw_mX1_49 nw_sX1_requireBetween dX1_write_9 rfl rfl (by decide) (by decide) (by first | decide | omega) (by first | decide | omega) (Nat.le_of_ble_eq_true rfl) rfl rfl (Nat.le_of_ble_eq_true rfl) ?_ ?_
  rotate_left
  · rintro E9 w9 h9; exact ne_out X ht (by obtain ⟨rfl, rfl⟩ := h9; exact ⟨rfl, by first | exact Or.inl rfl | exact Or.inr rfl⟩)
  rintro v9 w9 ⟨rfl, rfl, g9, k9⟩
  refine ne_iload X dX1_write_12 rfl ?_
  refine ne_lconst (z := 0) (by decide) X dX1_write_14 ?_
  refine ne_ldc2 (z := 3) (by decide) nw_cX1_53 X dX1_write_15 ?_
  refine ne_callS X nw_Tg (me_X1_requireBetween l hl _ _ _ _ (by omega) (by omega) (by omega)) nw_yX1_requireBetween nw_mX1_49 nw_sX1_requireBetween dX1_write_18 rfl rfl (by decide) (by decide) (by first | decide | omega) (by first | decide | omega) (Nat.le_of_ble_eq_true rfl) rfl rfl (Nat.le_of_ble_eq_true rfl) ?_ ?_
  rotate_left
  · rintro E9 w9 h9; exact ne_out X ht (by obtain ⟨rfl, rfl⟩ := h9; exact ⟨rfl, by first | exact Or.inl rfl | exact Or.inr rfl⟩)
  rintro v18 w18 ⟨rfl, rfl, g18, k18⟩
  refine ne_iload X dX1_write_21 rfl ?_
  refine ne_lconst (z := 0) (by decide) X dX1_write_23 ?_
  refine ne_iload X dX1_write_24 rfl ?_
  refine ne_callS X nw_Tg (me_X1_tenTo l hl _ _ (by omega)) nw_yX1_tenTo nw_mX1_59 nw_sX1_tenTo dX1_write_26 rfl rfl (by decide) (by decide) (by first | decide | omega) (by first | decide | omega) (Nat.le_of_ble_eq_true rfl) rfl rfl (Nat.le_of_ble_eq_true rfl) ?_ ?_
  rotate_left
  · rintro E9 w9 h9; exact h9.elim
  rintro v26 w26 ⟨rfl, z26, rfl, g26, k26, i26, j26, o26⟩
  refine ne_lconst (z := 1) (by decide) X dX1_write_29 ?_
  refine ne_lsub X dX1_write_30 ?_
  refine ne_callS X nw_Tg (me_X1_requireBetween l hl _ _ _ _ (by omega) (by omega) (by omega)) nw_yX1_requireBetween nw_mX1_49 nw_sX1_requireBetween dX1_write_31 rfl rfl (by decide) (by decide) (by first | decide | omega) (by first | decide | omega) (Nat.le_of_ble_eq_true rfl) rfl rfl (Nat.le_of_ble_eq_true rfl) ?_ ?_
  rotate_left
  · rintro E9 w9 h9; exact ne_out X ht (by obtain ⟨rfl, rfl⟩ := h9; exact ⟨rfl, by first | exact Or.inl rfl | exact Or.inr rfl⟩)
  rintro v31 w31 ⟨rfl, rfl, g31, k31⟩
  refine ne_iload_n X dX1_write_34 rfl ?_
  refine ne_i2l (by omega) X dX1_write_35 ?_
  refine ne_iload X dX1_write_36 rfl ?_
  refine ne_callS X nw_Tg (me_X1_tenTo l hl _ _ (by omega)) nw_yX1_tenTo nw_mX1_59 nw_sX1_tenTo dX1_write_38 rfl rfl (by decide) (by decide) (by first | decide | omega) (by first | decide | omega) (Nat.le_of_ble_eq_true rfl) rfl rfl (Nat.le_of_ble_eq_true rfl) ?_ ?_
  rotate_left
  · rintro E9 w9 h9; exact h9.elim
  rintro v38 w38 ⟨rfl, z38, rfl, g38, k38, i38, j38, o38⟩
  have m38 := ne_mul a z38 999999 1000 (by omega) (by omega)
  refine ne_lmul X dX1_write_41 ?_
  refine ne_iload X dX1_write_42 rfl ?_
  refine ne_i2l (by omega) X dX1_write_44 ?_
  refine ne_ladd X dX1_write_45 ?_
  refine ne_lstore X dX1_write_46 (by decide) ?_
  refine ne_aload_n X dX1_write_48 rfl ?_
  refine ne_iload_n X dX1_write_49 rfl ?_
  refine ne_iload_n X dX1_write_50 rfl ?_
  refine ne_if_eq (tgt := 60) X dX1_write_51 rfl (by omega) (fun b51 => ?_) (fun b51 => ?_)
  · refine ne_lload X dX1_write_60 rfl ?_
    refine ne_iload X dX1_write_62 rfl ?_
    refine ne_callV X nw_Tg (me_X1_bring l hl c q t b k n h x y T (by exact ⟨Ic, Iq, It, Ib, Itb, Ik, In, Ih, Ix, Iy⟩) (by omega) _ _ _ (by omega) (by omega) (by omega)) nw_yX1_bring nw_mX1_55 nw_iX1_bring nw_eX1_bring (ci := 3) rfl rfl rfl dX1_write_64 rfl rfl (by decide) (by decide) (by first | decide | omega) (by first | decide | omega) (Nat.le_of_ble_eq_true rfl) rfl rfl (Nat.le_of_ble_eq_true rfl) ?_ ?_
    rotate_left
    · rintro E9 w9 h9; exact h9.elim
    rintro v64 w64 ⟨c64, q64, h64, rfl, Ic, Iq, Ih, z64, rfl, g64, k64⟩
    exact ne_iret X hr (by first | rfl | decide | rfl) dX1_write_67 ⟨⟨_, _, _, _, _, rfl, Ic, Iq, It, Ib, Itb, Ik, In, ne_rg_mono Ih (by omega) (by omega), Ix, Iy⟩, _, rfl, trivial⟩
  · refine ne_lload X dX1_write_54 rfl ?_
    refine ne_lneg X dX1_write_56 ?_
    refine ne_goto (tgt := 62) X dX1_write_57 rfl ?_
    refine ne_iload X dX1_write_62 rfl ?_
    refine ne_callV X nw_Tg (me_X1_bring l hl c q t b k n h x y T (by exact ⟨Ic, Iq, It, Ib, Itb, Ik, In, Ih, Ix, Iy⟩) (by omega) _ _ _ (by omega) (by omega) (by omega)) nw_yX1_bring nw_mX1_55 nw_iX1_bring nw_eX1_bring (ci := 3) rfl rfl rfl dX1_write_64 rfl rfl (by decide) (by decide) (by first | decide | omega) (by first | decide | omega) (Nat.le_of_ble_eq_true rfl) rfl rfl (Nat.le_of_ble_eq_true rfl) ?_ ?_
    rotate_left
    · rintro E9 w9 h9; exact h9.elim
    rintro v64 w64 ⟨c64, q64, h64, rfl, Ic, Iq, Ih, z64, rfl, g64, k64⟩
    exact ne_iret X hr (by first | rfl | decide | rfl) dX1_write_67 ⟨⟨_, _, _, _, _, rfl, Ic, Iq, It, Ib, Itb, Ik, In, ne_rg_mono Ih (by omega) (by omega), Ix, Iy⟩, _, rfl, trivial⟩
set_option maxRecDepth 100000 in
set_option maxHeartbeats 4000000 in
theorem me_X1_power (l : Launch) (hl : l.stackTraces = false) (c q t b k n h x y : Nat → Int) (T : Int) (hI : cI c q t b k n h x y T) (hT : 0 ≤ T ∧ T ≤ 1000) (i : Int) (a : Int) (o : Int) (hi : -2147483648 ≤ i ∧ i < 2147483648) (ha : -2147483648 ≤ a ∧ a < 2147483648) (ho : -2147483648 ≤ o ∧ o < 2147483648)  : ne_M l nw_cl (.code yX1_power cX1_power 7 (some .int)) nw_T yX1_power 9 330 8 48 [.ref 0, ni i, ni a, ni o] (cW c q t b k n h x y) (fun v w => (∃ c1 q1 h1 x1 y1, w = cW c1 q1 t b k n h1 x1 y1 ∧ cI c1 q1 t b k n h1 x1 y1 (T + 1)) ∧ ∃ z : Int, v = some (ni z) ∧ True) (fun E w => w = cW c q t b k n h x y ∧ (E = "java/lang/IndexOutOfBoundsException" ∨ E = "java/lang/IllegalArgumentException")) := by
  refine ne_meet (own := RX1) hl rfl (by decide +kernel) (Nat.le_of_ble_eq_true rfl) ?_
  intro D ct A P9 V9 R9 S9 M9 as9 bl9 mt9 C9 ad0 X hr hin ht
  obtain ⟨Ic, Iq, It, Ib, Itb, Ik, In, Ih, Ix, Iy⟩ := hI
  have lp22 : ∀ (n9 : Nat) (r j : Int), (3 - j).toNat < n9 → (0 ≤ j) → (j ≤ 3) → (0 ≤ a) → (a ≤ 3) → (0 ≤ i) → (i < 4) → (0 ≤ o) → (o < 4) → (-9223372036854775808 ≤ r) → (r < 9223372036854775808) → ne_G nw_cl D ct A 12 ad0 P9 l V9 R9 S9 M9 as9 bl9 mt9 C9 (ne_O nw_cl D ct ad0 12 A bl9 as9 S9 8 48 (fun v w => (∃ c1 q1 h1 x1 y1, w = cW c1 q1 t b k n h1 x1 y1 ∧ cI c1 q1 t b k n h1 x1 y1 (T + 1)) ∧ ∃ z : Int, v = some (ni z) ∧ True) (fun E w => w = cW c q t b k n h x y ∧ (E = "java/lang/IndexOutOfBoundsException" ∨ E = "java/lang/IllegalArgumentException"))) 7 8 48 5 30 22 [some (.ref 0), some (ni i), some (ni a), some (ni o), some (nl r), none, some (ni j)] [] (cW c q t b k n h x y) := by
    intro n9
    induction n9 with
    | zero => intro r j hm9 q1 q2 q3 q4 q5 q6 q7 q8 q9 q10; exfalso; omega
    | succ n9 ih =>
      intro r j hm9 q1 q2 q3 q4 q5 q6 q7 q8 q9 q10
      refine ne_iload X dX1_power_22 rfl ?_
      refine ne_iload_n X dX1_power_24 rfl ?_
      refine ne_icmp_ge (tgt := 46) X dX1_power_25 rfl (by omega) (by omega) (fun b25 => ?_) (fun b25 => ?_)
      · refine ne_aload_n X dX1_power_46 rfl ?_
        refine ne_iload_n X dX1_power_47 rfl ?_
        refine ne_lload X dX1_power_48 rfl ?_
        refine ne_iload_n X dX1_power_50 rfl ?_
        refine ne_aload_n X dX1_power_51 rfl ?_
        refine ne_getf X dX1_power_52 nw_fX1_13 rfl rfl ?_
        refine ne_iload_n X dX1_power_55 rfl ?_
        refine ne_ialdR X dX1_power_56 rfl (by omega) Iq (fun v56 e56 f56 u56 => ?_)
        have m57 := ne_mul a v56 3 3 (by omega) (by omega)
        refine ne_imul X dX1_power_57 ?_
        refine ne_callV X nw_Tg (me_X1_bring l hl c q t b k n h x y T (by exact ⟨Ic, Iq, It, Ib, Itb, Ik, In, Ih, Ix, Iy⟩) (by omega) _ _ _ (by omega) (by omega) (by omega)) nw_yX1_bring nw_mX1_55 nw_iX1_bring nw_eX1_bring (ci := 3) rfl rfl rfl dX1_power_58 rfl rfl (by decide) (by decide) (by first | decide | omega) (by first | decide | omega) (Nat.le_of_ble_eq_true rfl) rfl rfl (Nat.le_of_ble_eq_true rfl) ?_ ?_
        rotate_left
        · rintro E9 w9 h9; exact h9.elim
        rintro v58 w58 ⟨c58, q58, h58, rfl, Ic, Iq, Ih, z58, rfl, g58, k58⟩
        exact ne_iret X hr (by first | rfl | decide | rfl) dX1_power_61 ⟨⟨_, _, _, _, _, rfl, Ic, Iq, It, Ib, Itb, Ik, In, ne_rg_mono Ih (by omega) (by omega), Ix, Iy⟩, _, rfl, trivial⟩
      · refine ne_lload X dX1_power_28 rfl ?_
        refine ne_aload_n X dX1_power_30 rfl ?_
        refine ne_getf X dX1_power_31 nw_fX1_9 rfl rfl ?_
        refine ne_iload_n X dX1_power_34 rfl ?_
        refine ne_ialdR X dX1_power_35 rfl (by omega) Ic (fun v35 e35 f35 u35 => ?_)
        refine ne_i2l (by omega) X dX1_power_36 ?_
        refine ne_lmul X dX1_power_37 ?_
        refine ne_wrapL (fun z37 l37 r37 q37 => ?_)
        refine ne_lstore X dX1_power_38 (by decide) ?_
        refine ne_iinc X dX1_power_40 rfl (by decide) ?_
        refine ne_ll (L' := [some (.ref 0), some (ni _), some (ni _), some (ni _), some (nl _), none, some (ni _)]) rfl ?_
        refine ne_goto (tgt := 22) X dX1_power_43 rfl ?_
        exact ih _ _ (by omega) (by omega) (by omega) (by omega) (by omega) (by omega) (by omega) (by omega) (by omega) (by omega) (by omega)
  refine ne_iload_n X dX1_power_0 rfl ?_
  refine ne_callS X nw_Tg (me_X1_requireCell l hl _ _ (by omega)) nw_yX1_requireCell nw_mX1_41 nw_sX1_requireCell dX1_power_1 rfl rfl (by decide) (by decide) (by first | decide | omega) (by first | decide | omega) (Nat.le_of_ble_eq_true rfl) rfl rfl (Nat.le_of_ble_eq_true rfl) ?_ ?_
  rotate_left
  · rintro E9 w9 h9; exact ne_out X ht (by obtain ⟨rfl, rfl⟩ := h9; exact ⟨rfl, by first | exact Or.inl rfl | exact Or.inr rfl⟩)
  rintro v1 w1 ⟨rfl, rfl, g1, k1⟩
  refine ne_iload_n X dX1_power_4 rfl ?_
  refine ne_callS X nw_Tg (me_X1_requireCell l hl _ _ (by omega)) nw_yX1_requireCell nw_mX1_41 nw_sX1_requireCell dX1_power_5 rfl rfl (by decide) (by decide) (by first | decide | omega) (by first | decide | omega) (Nat.le_of_ble_eq_true rfl) rfl rfl (Nat.le_of_ble_eq_true rfl) ?_ ?_
  rotate_left
  · rintro E9 w9 h9; exact ne_out X ht (by obtain ⟨rfl, rfl⟩ := h9; exact ⟨rfl, by first | exact Or.inl rfl | exact Or.inr rfl⟩)
  rintro v5 w5 ⟨rfl, rfl, g5, k5⟩
  refine ne_iload_n X dX1_power_8 rfl ?_
  refine ne_lconst (z := 0) (by decide) X dX1_power_9 ?_
  refine ne_ldc2 (z := 3) (by decide) nw_cX1_53 X dX1_power_10 ?_
  refine ne_callS X nw_Tg (me_X1_requireBetween l hl _ _ _ _ (by omega) (by omega) (by omega)) nw_yX1_requireBetween nw_mX1_49 nw_sX1_requireBetween dX1_power_13 rfl rfl (by decide) (by decide) (by first | decide | omega) (by first | decide | omega) (Nat.le_of_ble_eq_true rfl) rfl rfl (Nat.le_of_ble_eq_true rfl) ?_ ?_
  rotate_left
  · rintro E9 w9 h9; exact ne_out X ht (by obtain ⟨rfl, rfl⟩ := h9; exact ⟨rfl, by first | exact Or.inl rfl | exact Or.inr rfl⟩)
  rintro v13 w13 ⟨rfl, rfl, g13, k13⟩
  refine ne_lconst (z := 1) (by decide) X dX1_power_16 ?_
  refine ne_lstore X dX1_power_17 (by decide) ?_
  refine ne_iconst X dX1_power_19 ?_
  refine ne_istore X dX1_power_20 (by decide) ?_
  refine ne_ll (L' := [some (.ref 0), some (ni _), some (ni _), some (ni _), some (nl _), none, some (ni _)]) rfl ?_
  exact lp22 _ 1 0 (Nat.lt_succ_self _) (by omega) (by omega) (by omega) (by omega) (by omega) (by omega) (by omega) (by omega) (by omega) (by omega)
set_option maxRecDepth 100000 in
set_option maxHeartbeats 4000000 in
theorem me_X1_divide (l : Launch) (hl : l.stackTraces = false) (c q t b k n h x y : Nat → Int) (T : Int) (hI : cI c q t b k n h x y T) (hT : 0 ≤ T ∧ T ≤ 1000) (i : Int) (j : Int) (p : Int) (w0 : Int) (o : Int) (hi : -2147483648 ≤ i ∧ i < 2147483648) (hj : -2147483648 ≤ j ∧ j < 2147483648) (hp : -2147483648 ≤ p ∧ p < 2147483648) (hw0 : -2147483648 ≤ w0 ∧ w0 < 2147483648) (ho : -2147483648 ≤ o ∧ o < 2147483648)  : ne_M l nw_cl (.code yX1_divide cX1_divide 10 (some .int)) nw_T yX1_divide 9 330 8 48 [.ref 0, ni i, ni j, ni p, ni w0, ni o] (cW c q t b k n h x y) (fun v w => (∃ c1 q1 h1 x1 y1, w = cW c1 q1 t b k n h1 x1 y1 ∧ cI c1 q1 t b k n h1 x1 y1 (T + 1)) ∧ ∃ z : Int, v = some (ni z) ∧ True) (fun E w => w = cW c q t b k n h x y ∧ (E = "java/lang/IndexOutOfBoundsException" ∨ E = "java/lang/IllegalArgumentException")) := by
  refine ne_meet (own := RX1) hl rfl (by decide +kernel) (Nat.le_of_ble_eq_true rfl) ?_
  intro D ct A P9 V9 R9 S9 M9 as9 bl9 mt9 C9 ad0 X hr hin ht
  obtain ⟨Ic, Iq, It, Ib, Itb, Ik, In, Ih, Ix, Iy⟩ := hI
  refine ne_iload_n X dX1_divide_0 rfl ?_
  refine ne_callS X nw_Tg (me_X1_requireCell l hl _ _ (by omega)) nw_yX1_requireCell nw_mX1_41 nw_sX1_requireCell dX1_divide_1 rfl rfl (by decide) (by decide) (by first | decide | omega) (by first | decide | omega) (Nat.le_of_ble_eq_true rfl) rfl rfl (Nat.le_of_ble_eq_true rfl) ?_ ?_
  rotate_left
  · rintro E9 w9 h9; exact ne_out X ht (by obtain ⟨rfl, rfl⟩ := h9; exact ⟨rfl, by first | exact Or.inl rfl | exact Or.inr rfl⟩)
  rintro v1 w1 ⟨rfl, rfl, g1, k1⟩
  refine ne_iload_n X dX1_divide_4 rfl ?_
  refine ne_callS X nw_Tg (me_X1_requireCell l hl _ _ (by omega)) nw_yX1_requireCell nw_mX1_41 nw_sX1_requireCell dX1_divide_5 rfl rfl (by decide) (by decide) (by first | decide | omega) (by first | decide | omega) (Nat.le_of_ble_eq_true rfl) rfl rfl (Nat.le_of_ble_eq_true rfl) ?_ ?_
  rotate_left
  · rintro E9 w9 h9; exact ne_out X ht (by obtain ⟨rfl, rfl⟩ := h9; exact ⟨rfl, by first | exact Or.inl rfl | exact Or.inr rfl⟩)
  rintro v5 w5 ⟨rfl, rfl, g5, k5⟩
  refine ne_iload X dX1_divide_8 rfl ?_
  refine ne_callS X nw_Tg (me_X1_requireCell l hl _ _ (by omega)) nw_yX1_requireCell nw_mX1_41 nw_sX1_requireCell dX1_divide_10 rfl rfl (by decide) (by decide) (by first | decide | omega) (by first | decide | omega) (Nat.le_of_ble_eq_true rfl) rfl rfl (Nat.le_of_ble_eq_true rfl) ?_ ?_
  rotate_left
  · rintro E9 w9 h9; exact ne_out X ht (by obtain ⟨rfl, rfl⟩ := h9; exact ⟨rfl, by first | exact Or.inl rfl | exact Or.inr rfl⟩)
  rintro v10 w10 ⟨rfl, rfl, g10, k10⟩
  refine ne_iload_n X dX1_divide_13 rfl ?_
  refine ne_lconst (z := 0) (by decide) X dX1_divide_14 ?_
  refine ne_ldc2 (z := 3) (by decide) nw_cX1_53 X dX1_divide_15 ?_
  refine ne_callS X nw_Tg (me_X1_requireBetween l hl _ _ _ _ (by omega) (by omega) (by omega)) nw_yX1_requireBetween nw_mX1_49 nw_sX1_requireBetween dX1_divide_18 rfl rfl (by decide) (by decide) (by first | decide | omega) (by first | decide | omega) (Nat.le_of_ble_eq_true rfl) rfl rfl (Nat.le_of_ble_eq_true rfl) ?_ ?_
  rotate_left
  · rintro E9 w9 h9; exact ne_out X ht (by obtain ⟨rfl, rfl⟩ := h9; exact ⟨rfl, by first | exact Or.inl rfl | exact Or.inr rfl⟩)
  rintro v18 w18 ⟨rfl, rfl, g18, k18⟩
  refine ne_iload X dX1_divide_21 rfl ?_
  refine ne_callS X nw_Tg (me_X1_requireWay l hl _ _ (by omega)) nw_yX1_requireWay nw_mX1_77 nw_sX1_requireWay dX1_divide_23 rfl rfl (by decide) (by decide) (by first | decide | omega) (by first | decide | omega) (Nat.le_of_ble_eq_true rfl) rfl rfl (Nat.le_of_ble_eq_true rfl) ?_ ?_
  rotate_left
  · rintro E9 w9 h9; exact ne_out X ht (by obtain ⟨rfl, rfl⟩ := h9; exact ⟨rfl, by first | exact Or.inl rfl | exact Or.inr rfl⟩)
  rintro v23 w23 ⟨rfl, rfl, g23, k23⟩
  refine ne_aload_n X dX1_divide_26 rfl ?_
  refine ne_getf X dX1_divide_27 nw_fX1_9 rfl rfl ?_
  refine ne_iload_n X dX1_divide_30 rfl ?_
  refine ne_ialdR X dX1_divide_31 rfl (by omega) Ic (fun v31 e31 f31 u31 => ?_)
  refine ne_i2l (by omega) X dX1_divide_32 ?_
  refine ne_aload_n X dX1_divide_33 rfl ?_
  refine ne_getf X dX1_divide_34 nw_fX1_13 rfl rfl ?_
  refine ne_iload_n X dX1_divide_37 rfl ?_
  refine ne_ialdR X dX1_divide_38 rfl (by omega) Iq (fun v38 e38 f38 u38 => ?_)
  refine ne_callS X nw_Tg (me_X1_tenTo l hl _ _ (by omega)) nw_yX1_tenTo nw_mX1_59 nw_sX1_tenTo dX1_divide_39 rfl rfl (by decide) (by decide) (by first | decide | omega) (by first | decide | omega) (Nat.le_of_ble_eq_true rfl) rfl rfl (Nat.le_of_ble_eq_true rfl) ?_ ?_
  rotate_left
  · rintro E9 w9 h9; exact h9.elim
  rintro v39 w39 ⟨rfl, z39, rfl, g39, k39, i39, j39, o39⟩
  have m39 := ne_mul v31 z39 999999 1000 (by omega) (by omega)
  refine ne_lmul X dX1_divide_42 ?_
  refine ne_iload_n X dX1_divide_43 rfl ?_
  refine ne_callS X nw_Tg (me_X1_tenTo l hl _ _ (by omega)) nw_yX1_tenTo nw_mX1_59 nw_sX1_tenTo dX1_divide_44 rfl rfl (by decide) (by decide) (by first | decide | omega) (by first | decide | omega) (Nat.le_of_ble_eq_true rfl) rfl rfl (Nat.le_of_ble_eq_true rfl) ?_ ?_
  rotate_left
  · rintro E9 w9 h9; exact h9.elim
  rintro v44 w44 ⟨rfl, z44, rfl, g44, k44, i44, j44, o44⟩
  have m44 := ne_mul (v31 * z39) z44 999999000 1000 (by omega) (by omega)
  refine ne_lmul X dX1_divide_47 ?_
  refine ne_lstore X dX1_divide_48 (by decide) ?_
  refine ne_aload_n X dX1_divide_50 rfl ?_
  refine ne_getf X dX1_divide_51 nw_fX1_9 rfl rfl ?_
  refine ne_iload_n X dX1_divide_54 rfl ?_
  refine ne_ialdR X dX1_divide_55 rfl (by omega) Ic (fun v55 e55 f55 u55 => ?_)
  refine ne_i2l (by omega) X dX1_divide_56 ?_
  refine ne_aload_n X dX1_divide_57 rfl ?_
  refine ne_getf X dX1_divide_58 nw_fX1_13 rfl rfl ?_
  refine ne_iload_n X dX1_divide_61 rfl ?_
  refine ne_ialdR X dX1_divide_62 rfl (by omega) Iq (fun v62 e62 f62 u62 => ?_)
  refine ne_callS X nw_Tg (me_X1_tenTo l hl _ _ (by omega)) nw_yX1_tenTo nw_mX1_59 nw_sX1_tenTo dX1_divide_63 rfl rfl (by decide) (by decide) (by first | decide | omega) (by first | decide | omega) (Nat.le_of_ble_eq_true rfl) rfl rfl (Nat.le_of_ble_eq_true rfl) ?_ ?_
  rotate_left
  · rintro E9 w9 h9; exact h9.elim
  rintro v63 w63 ⟨rfl, z63, rfl, g63, k63, i63, j63, o63⟩
  have m63 := ne_mul v55 z63 999999 1000 (by omega) (by omega)
  refine ne_lmul X dX1_divide_66 ?_
  refine ne_lstore X dX1_divide_67 (by decide) ?_
  refine ne_ll (L' := [some (.ref 0), some (ni _), some (ni _), some (ni _), some (ni _), some (ni _), some (nl _), none, some (nl _), none]) rfl ?_
  refine ne_lload X dX1_divide_69 rfl ?_
  refine ne_lconst (z := 0) (by decide) X dX1_divide_71 ?_
  refine ne_lcif_ne (tgt := 81) X dX1_divide_72 dX1_divide_73 rfl (by omega) (by omega) (fun b73 => ?_) (fun b73 => ?_)
  · refine ne_aload_n X dX1_divide_81 rfl ?_
    refine ne_iload X dX1_divide_82 rfl ?_
    refine ne_lload X dX1_divide_84 rfl ?_
    refine ne_lconst (z := 0) (by decide) X dX1_divide_86 ?_
    refine ne_lcif_ge (tgt := 105) X dX1_divide_87 dX1_divide_88 rfl (by omega) (by omega) (fun b88 => ?_) (fun b88 => ?_)
    · refine ne_lload X dX1_divide_105 rfl ?_
      refine ne_lload X dX1_divide_107 rfl ?_
      refine ne_iload X dX1_divide_109 rfl ?_
      refine ne_callS X nw_Tg (me_X1_rounded l hl _ _ _ _ (by omega) (by omega) (by omega)) nw_yX1_rounded nw_mX1_84 nw_sX1_rounded dX1_divide_111 rfl rfl (by decide) (by decide) (by first | decide | omega) (by first | decide | omega) (Nat.le_of_ble_eq_true rfl) rfl rfl (Nat.le_of_ble_eq_true rfl) ?_ ?_
      rotate_left
      · rintro E9 w9 h9; exact h9.elim
      rintro v111 w111 ⟨rfl, z111, rfl, g111⟩
      refine ne_iload_n X dX1_divide_114 rfl ?_
      refine ne_callV X nw_Tg (me_X1_bring l hl c q t b k n h x y T (by exact ⟨Ic, Iq, It, Ib, Itb, Ik, In, Ih, Ix, Iy⟩) (by omega) _ _ _ (by omega) (by omega) (by omega)) nw_yX1_bring nw_mX1_55 nw_iX1_bring nw_eX1_bring (ci := 3) rfl rfl rfl dX1_divide_115 rfl rfl (by decide) (by decide) (by first | decide | omega) (by first | decide | omega) (Nat.le_of_ble_eq_true rfl) rfl rfl (Nat.le_of_ble_eq_true rfl) ?_ ?_
      rotate_left
      · rintro E9 w9 h9; exact h9.elim
      rintro v115 w115 ⟨c115, q115, h115, rfl, Ic, Iq, Ih, z115, rfl, g115, k115⟩
      exact ne_iret X hr (by first | rfl | decide | rfl) dX1_divide_118 ⟨⟨_, _, _, _, _, rfl, Ic, Iq, It, Ib, Itb, Ik, In, ne_rg_mono Ih (by omega) (by omega), Ix, Iy⟩, _, rfl, trivial⟩
    · refine ne_lload X dX1_divide_91 rfl ?_
      refine ne_lneg X dX1_divide_93 ?_
      refine ne_lload X dX1_divide_94 rfl ?_
      refine ne_lneg X dX1_divide_96 ?_
      refine ne_iload X dX1_divide_97 rfl ?_
      refine ne_callS X nw_Tg (me_X1_rounded l hl _ _ _ _ (by omega) (by omega) (by omega)) nw_yX1_rounded nw_mX1_84 nw_sX1_rounded dX1_divide_99 rfl rfl (by decide) (by decide) (by first | decide | omega) (by first | decide | omega) (Nat.le_of_ble_eq_true rfl) rfl rfl (Nat.le_of_ble_eq_true rfl) ?_ ?_
      rotate_left
      · rintro E9 w9 h9; exact h9.elim
      rintro v99 w99 ⟨rfl, z99, rfl, g99⟩
      refine ne_goto (tgt := 114) X dX1_divide_102 rfl ?_
      refine ne_iload_n X dX1_divide_114 rfl ?_
      refine ne_callV X nw_Tg (me_X1_bring l hl c q t b k n h x y T (by exact ⟨Ic, Iq, It, Ib, Itb, Ik, In, Ih, Ix, Iy⟩) (by omega) _ _ _ (by omega) (by omega) (by omega)) nw_yX1_bring nw_mX1_55 nw_iX1_bring nw_eX1_bring (ci := 3) rfl rfl rfl dX1_divide_115 rfl rfl (by decide) (by decide) (by first | decide | omega) (by first | decide | omega) (Nat.le_of_ble_eq_true rfl) rfl rfl (Nat.le_of_ble_eq_true rfl) ?_ ?_
      rotate_left
      · rintro E9 w9 h9; exact h9.elim
      rintro v115 w115 ⟨c115, q115, h115, rfl, Ic, Iq, Ih, z115, rfl, g115, k115⟩
      exact ne_iret X hr (by first | rfl | decide | rfl) dX1_divide_118 ⟨⟨_, _, _, _, _, rfl, Ic, Iq, It, Ib, Itb, Ik, In, ne_rg_mono Ih (by omega) (by omega), Ix, Iy⟩, _, rfl, trivial⟩
  · refine ne_aload_n X dX1_divide_76 rfl ?_
    refine ne_callV X nw_Tg (me_X1_decline l hl c q t b k n h x y T (by exact ⟨Ic, Iq, It, Ib, Itb, Ik, In, Ih, Ix, Iy⟩) (by omega) ) nw_yX1_decline nw_mX1_80 nw_iX1_decline nw_eX1_decline (ci := 3) rfl rfl rfl dX1_divide_77 rfl rfl (by decide) (by decide) (by first | decide | omega) (by first | decide | omega) (Nat.le_of_ble_eq_true rfl) rfl rfl (Nat.le_of_ble_eq_true rfl) ?_ ?_
    rotate_left
    · rintro E9 w9 h9; exact h9.elim
    rintro v77 w77 ⟨h77, rfl, p77, Ih, rfl⟩
    exact ne_iret X hr (by first | rfl | decide | rfl) dX1_divide_80 ⟨⟨_, _, _, _, _, rfl, Ic, Iq, It, Ib, Itb, Ik, In, ne_rg_mono Ih (by omega) (by omega), Ix, Iy⟩, _, rfl, trivial⟩
set_option maxRecDepth 100000 in
set_option maxHeartbeats 4000000 in
theorem me_X1_share (l : Launch) (hl : l.stackTraces = false) (c q t b k n h x y : Nat → Int) (T : Int) (hI : cI c q t b k n h x y T) (hT : 0 ≤ T ∧ T ≤ 1000) (i : Int) (a : Int) (o : Int) (hi : -2147483648 ≤ i ∧ i < 2147483648) (ha : -2147483648 ≤ a ∧ a < 2147483648) (ho : -2147483648 ≤ o ∧ o < 2147483648)  : ne_M l nw_cl (.code yX1_share cX1_share 7 (some .int)) nw_T yX1_share 9 330 8 48 [.ref 0, ni i, ni a, ni o] (cW c q t b k n h x y) (fun v w => (∃ c1 q1 h1 x1 y1, w = cW c1 q1 t b k n h1 x1 y1 ∧ cI c1 q1 t b k n h1 x1 y1 (T + 1)) ∧ ∃ z : Int, v = some (ni z) ∧ True) (fun E w => w = cW c q t b k n h x y ∧ (E = "java/lang/IndexOutOfBoundsException" ∨ E = "java/lang/IllegalArgumentException")) := by
  refine ne_meet (own := RX1) hl rfl (by decide +kernel) (Nat.le_of_ble_eq_true rfl) ?_
  intro D ct A P9 V9 R9 S9 M9 as9 bl9 mt9 C9 ad0 X hr hin ht
  obtain ⟨Ic, Iq, It, Ib, Itb, Ik, In, Ih, Ix, Iy⟩ := hI
  have lp44 : ∀ (n9 : Nat) (r j : Int), (4 - j).toNat < n9 → (0 ≤ j) → (j ≤ 3) → (-99 ≤ a) → (a ≤ 99) → (a ≠ 0) → (0 ≤ i) → (i < 4) → (0 ≤ o) → (o < 4) → ((j = 0 → -999999 ≤ r ∧ r ≤ 999999) ∧ (j = 1 → -9999990 ≤ r ∧ r ≤ 9999990) ∧ (j = 2 → -99999900 ≤ r ∧ r ≤ 99999900) ∧ (j = 3 → -999999000 ≤ r ∧ r ≤ 999999000)) → ne_G nw_cl D ct A 12 ad0 P9 l V9 R9 S9 M9 as9 bl9 mt9 C9 (ne_O nw_cl D ct ad0 12 A bl9 as9 S9 8 48 (fun v w => (∃ c1 q1 h1 x1 y1, w = cW c1 q1 t b k n h1 x1 y1 ∧ cI c1 q1 t b k n h1 x1 y1 (T + 1)) ∧ ∃ z : Int, v = some (ni z) ∧ True) (fun E w => w = cW c q t b k n h x y ∧ (E = "java/lang/IndexOutOfBoundsException" ∨ E = "java/lang/IllegalArgumentException"))) 7 8 48 5 30 44 [some (.ref 0), some (ni i), some (ni a), some (ni o), some (nl r), none, some (ni j)] [] (cW c q t b k n h x y) := by
    intro n9
    induction n9 with
    | zero => intro r j hm9 q1 q2 q3 q4 q5 q6 q7 q8 q9 q10; exfalso; omega
    | succ n9 ih =>
      intro r j hm9 q1 q2 q3 q4 q5 q6 q7 q8 q9 q10
      have t44 := ne_tq r a
      refine ne_lload X dX1_share_44 rfl ?_
      refine ne_iload_n X dX1_share_46 rfl ?_
      refine ne_i2l (by omega) X dX1_share_47 ?_
      refine ne_lrem X dX1_share_48 (by omega) (by omega) (by omega) ?_
      refine ne_lconst (z := 0) (by decide) X dX1_share_49 ?_
      refine ne_lcif_eq (tgt := 74) X dX1_share_50 dX1_share_51 rfl (by omega) (by omega) (fun b51 => ?_) (fun b51 => ?_)
      · refine ne_lload X dX1_share_74 rfl ?_
        refine ne_iload_n X dX1_share_76 rfl ?_
        refine ne_i2l (by omega) X dX1_share_77 ?_
        refine ne_lrem X dX1_share_78 (by omega) (by omega) (by omega) ?_
        refine ne_lconst (z := 0) (by decide) X dX1_share_79 ?_
        refine ne_lcif_ne (tgt := 99) X dX1_share_80 dX1_share_81 rfl (by omega) (by omega) (fun b81 => ?_) (fun b81 => ?_)
        · refine ne_aload_n X dX1_share_99 rfl ?_
          refine ne_callV X nw_Tg (me_X1_decline l hl c q t b k n h x y T (by exact ⟨Ic, Iq, It, Ib, Itb, Ik, In, Ih, Ix, Iy⟩) (by omega) ) nw_yX1_decline nw_mX1_80 nw_iX1_decline nw_eX1_decline (ci := 3) rfl rfl rfl dX1_share_100 rfl rfl (by decide) (by decide) (by first | decide | omega) (by first | decide | omega) (Nat.le_of_ble_eq_true rfl) rfl rfl (Nat.le_of_ble_eq_true rfl) ?_ ?_
          rotate_left
          · rintro E9 w9 h9; exact h9.elim
          rintro v100 w100 ⟨h100, rfl, p100, Ih, rfl⟩
          exact ne_iret X hr (by first | rfl | decide | rfl) dX1_share_103 ⟨⟨_, _, _, _, _, rfl, Ic, Iq, It, Ib, Itb, Ik, In, ne_rg_mono Ih (by omega) (by omega), Ix, Iy⟩, _, rfl, trivial⟩
        · refine ne_aload_n X dX1_share_84 rfl ?_
          refine ne_iload_n X dX1_share_85 rfl ?_
          refine ne_lload X dX1_share_86 rfl ?_
          refine ne_iload_n X dX1_share_88 rfl ?_
          refine ne_i2l (by omega) X dX1_share_89 ?_
          refine ne_ldiv X dX1_share_90 (by omega) (by omega) (by omega) ?_
          refine ne_iload X dX1_share_91 rfl ?_
          refine ne_callV X nw_Tg (me_X1_bring l hl c q t b k n h x y T (by exact ⟨Ic, Iq, It, Ib, Itb, Ik, In, Ih, Ix, Iy⟩) (by omega) _ _ _ (by omega) (by omega) (by omega)) nw_yX1_bring nw_mX1_55 nw_iX1_bring nw_eX1_bring (ci := 3) rfl rfl rfl dX1_share_93 rfl rfl (by decide) (by decide) (by first | decide | omega) (by first | decide | omega) (Nat.le_of_ble_eq_true rfl) rfl rfl (Nat.le_of_ble_eq_true rfl) ?_ ?_
          rotate_left
          · rintro E9 w9 h9; exact h9.elim
          rintro v93 w93 ⟨c93, q93, h93, rfl, Ic, Iq, Ih, z93, rfl, g93, k93⟩
          refine ne_goto (tgt := 103) X dX1_share_96 rfl ?_
          exact ne_iret X hr (by first | rfl | decide | rfl) dX1_share_103 ⟨⟨_, _, _, _, _, rfl, Ic, Iq, It, Ib, Itb, Ik, In, ne_rg_mono Ih (by omega) (by omega), Ix, Iy⟩, _, rfl, trivial⟩
      · refine ne_iload X dX1_share_54 rfl ?_
        refine ne_iconst X dX1_share_56 ?_
        refine ne_icmp_ge (tgt := 74) X dX1_share_57 rfl (by omega) (by omega) (fun b57 => ?_) (fun b57 => ?_)
        · refine ne_lload X dX1_share_74 rfl ?_
          refine ne_iload_n X dX1_share_76 rfl ?_
          refine ne_i2l (by omega) X dX1_share_77 ?_
          refine ne_lrem X dX1_share_78 (by omega) (by omega) (by omega) ?_
          refine ne_lconst (z := 0) (by decide) X dX1_share_79 ?_
          refine ne_lcif_ne (tgt := 99) X dX1_share_80 dX1_share_81 rfl (by omega) (by omega) (fun b81 => ?_) (fun b81 => ?_)
          · refine ne_aload_n X dX1_share_99 rfl ?_
            refine ne_callV X nw_Tg (me_X1_decline l hl c q t b k n h x y T (by exact ⟨Ic, Iq, It, Ib, Itb, Ik, In, Ih, Ix, Iy⟩) (by omega) ) nw_yX1_decline nw_mX1_80 nw_iX1_decline nw_eX1_decline (ci := 3) rfl rfl rfl dX1_share_100 rfl rfl (by decide) (by decide) (by first | decide | omega) (by first | decide | omega) (Nat.le_of_ble_eq_true rfl) rfl rfl (Nat.le_of_ble_eq_true rfl) ?_ ?_
            rotate_left
            · rintro E9 w9 h9; exact h9.elim
            rintro v100 w100 ⟨h100, rfl, p100, Ih, rfl⟩
            exact ne_iret X hr (by first | rfl | decide | rfl) dX1_share_103 ⟨⟨_, _, _, _, _, rfl, Ic, Iq, It, Ib, Itb, Ik, In, ne_rg_mono Ih (by omega) (by omega), Ix, Iy⟩, _, rfl, trivial⟩
          · refine ne_aload_n X dX1_share_84 rfl ?_
            refine ne_iload_n X dX1_share_85 rfl ?_
            refine ne_lload X dX1_share_86 rfl ?_
            refine ne_iload_n X dX1_share_88 rfl ?_
            refine ne_i2l (by omega) X dX1_share_89 ?_
            refine ne_ldiv X dX1_share_90 (by omega) (by omega) (by omega) ?_
            refine ne_iload X dX1_share_91 rfl ?_
            refine ne_callV X nw_Tg (me_X1_bring l hl c q t b k n h x y T (by exact ⟨Ic, Iq, It, Ib, Itb, Ik, In, Ih, Ix, Iy⟩) (by omega) _ _ _ (by omega) (by omega) (by omega)) nw_yX1_bring nw_mX1_55 nw_iX1_bring nw_eX1_bring (ci := 3) rfl rfl rfl dX1_share_93 rfl rfl (by decide) (by decide) (by first | decide | omega) (by first | decide | omega) (Nat.le_of_ble_eq_true rfl) rfl rfl (Nat.le_of_ble_eq_true rfl) ?_ ?_
            rotate_left
            · rintro E9 w9 h9; exact h9.elim
            rintro v93 w93 ⟨c93, q93, h93, rfl, Ic, Iq, Ih, z93, rfl, g93, k93⟩
            refine ne_goto (tgt := 103) X dX1_share_96 rfl ?_
            exact ne_iret X hr (by first | rfl | decide | rfl) dX1_share_103 ⟨⟨_, _, _, _, _, rfl, Ic, Iq, It, Ib, Itb, Ik, In, ne_rg_mono Ih (by omega) (by omega), Ix, Iy⟩, _, rfl, trivial⟩
        · refine ne_lload X dX1_share_60 rfl ?_
          refine ne_ldc2 (z := 10) (by decide) nw_cX1_92 X dX1_share_62 ?_
          refine ne_lmul X dX1_share_65 ?_
          refine ne_lstore X dX1_share_66 (by decide) ?_
          refine ne_iinc X dX1_share_68 rfl (by decide) ?_
          refine ne_ll (L' := [some (.ref 0), some (ni _), some (ni _), some (ni _), some (nl _), none, some (ni _)]) rfl ?_
          refine ne_goto (tgt := 44) X dX1_share_71 rfl ?_
          exact ih _ _ (by omega) (by omega) (by omega) (by omega) (by omega) (by omega) (by omega) (by omega) (by omega) (by omega) (by omega)
  refine ne_iload_n X dX1_share_0 rfl ?_
  refine ne_callS X nw_Tg (me_X1_requireCell l hl _ _ (by omega)) nw_yX1_requireCell nw_mX1_41 nw_sX1_requireCell dX1_share_1 rfl rfl (by decide) (by decide) (by first | decide | omega) (by first | decide | omega) (Nat.le_of_ble_eq_true rfl) rfl rfl (Nat.le_of_ble_eq_true rfl) ?_ ?_
  rotate_left
  · rintro E9 w9 h9; exact ne_out X ht (by obtain ⟨rfl, rfl⟩ := h9; exact ⟨rfl, by first | exact Or.inl rfl | exact Or.inr rfl⟩)
  rintro v1 w1 ⟨rfl, rfl, g1, k1⟩
  refine ne_iload_n X dX1_share_4 rfl ?_
  refine ne_callS X nw_Tg (me_X1_requireCell l hl _ _ (by omega)) nw_yX1_requireCell nw_mX1_41 nw_sX1_requireCell dX1_share_5 rfl rfl (by decide) (by decide) (by first | decide | omega) (by first | decide | omega) (Nat.le_of_ble_eq_true rfl) rfl rfl (Nat.le_of_ble_eq_true rfl) ?_ ?_
  rotate_left
  · rintro E9 w9 h9; exact ne_out X ht (by obtain ⟨rfl, rfl⟩ := h9; exact ⟨rfl, by first | exact Or.inl rfl | exact Or.inr rfl⟩)
  rintro v5 w5 ⟨rfl, rfl, g5, k5⟩
  refine ne_iload_n X dX1_share_8 rfl ?_
  refine ne_ldc2 (z := -99) (by decide) nw_cX1_88 X dX1_share_9 ?_
  refine ne_ldc2 (z := 99) (by decide) nw_cX1_90 X dX1_share_12 ?_
  refine ne_callS X nw_Tg (me_X1_requireBetween l hl _ _ _ _ (by omega) (by omega) (by omega)) nw_yX1_requireBetween nw_mX1_49 nw_sX1_requireBetween dX1_share_15 rfl rfl (by decide) (by decide) (by first | decide | omega) (by first | decide | omega) (Nat.le_of_ble_eq_true rfl) rfl rfl (Nat.le_of_ble_eq_true rfl) ?_ ?_
  rotate_left
  · rintro E9 w9 h9; exact ne_out X ht (by obtain ⟨rfl, rfl⟩ := h9; exact ⟨rfl, by first | exact Or.inl rfl | exact Or.inr rfl⟩)
  rintro v15 w15 ⟨rfl, rfl, g15, k15⟩
  refine ne_iload_n X dX1_share_18 rfl ?_
  refine ne_if_ne (tgt := 27) X dX1_share_19 rfl (by omega) (fun b19 => ?_) (fun b19 => ?_)
  · refine ne_aload_n X dX1_share_27 rfl ?_
    refine ne_getf X dX1_share_28 nw_fX1_9 rfl rfl ?_
    refine ne_iload_n X dX1_share_31 rfl ?_
    refine ne_ialdR X dX1_share_32 rfl (by omega) Ic (fun v32 e32 f32 u32 => ?_)
    refine ne_i2l (by omega) X dX1_share_33 ?_
    refine ne_lstore X dX1_share_34 (by decide) ?_
    refine ne_aload_n X dX1_share_36 rfl ?_
    refine ne_getf X dX1_share_37 nw_fX1_13 rfl rfl ?_
    refine ne_iload_n X dX1_share_40 rfl ?_
    refine ne_ialdR X dX1_share_41 rfl (by omega) Iq (fun v41 e41 f41 u41 => ?_)
    refine ne_istore X dX1_share_42 (by decide) ?_
    refine ne_ll (L' := [some (.ref 0), some (ni _), some (ni _), some (ni _), some (nl _), none, some (ni _)]) rfl ?_
    exact lp44 _ _ _ (Nat.lt_succ_self _) (by omega) (by omega) (by omega) (by omega) (by omega) (by omega) (by omega) (by omega) (by omega) (by omega)
  · refine ne_aload_n X dX1_share_22 rfl ?_
    refine ne_callV X nw_Tg (me_X1_decline l hl c q t b k n h x y T (by exact ⟨Ic, Iq, It, Ib, Itb, Ik, In, Ih, Ix, Iy⟩) (by omega) ) nw_yX1_decline nw_mX1_80 nw_iX1_decline nw_eX1_decline (ci := 3) rfl rfl rfl dX1_share_23 rfl rfl (by decide) (by decide) (by first | decide | omega) (by first | decide | omega) (Nat.le_of_ble_eq_true rfl) rfl rfl (Nat.le_of_ble_eq_true rfl) ?_ ?_
    rotate_left
    · rintro E9 w9 h9; exact h9.elim
    rintro v23 w23 ⟨h23, rfl, p23, Ih, rfl⟩
    exact ne_iret X hr (by first | rfl | decide | rfl) dX1_share_26 ⟨⟨_, _, _, _, _, rfl, Ic, Iq, It, Ib, Itb, Ik, In, ne_rg_mono Ih (by omega) (by omega), Ix, Iy⟩, _, rfl, trivial⟩
set_option maxRecDepth 100000 in
set_option maxHeartbeats 4000000 in
theorem me_X1_whole (l : Launch) (hl : l.stackTraces = false) (c q t b k n h x y : Nat → Int) (T : Int) (hI : cI c q t b k n h x y T) (hT : 0 ≤ T ∧ T ≤ 1000) (i : Int) (a : Int) (o : Int) (hi : -2147483648 ≤ i ∧ i < 2147483648) (ha : -2147483648 ≤ a ∧ a < 2147483648) (ho : -2147483648 ≤ o ∧ o < 2147483648)  : ne_M l nw_cl (.code yX1_whole cX1_whole 6 (some .int)) nw_T yX1_whole 9 330 8 48 [.ref 0, ni i, ni a, ni o] (cW c q t b k n h x y) (fun v w => (∃ c1 q1 h1 x1 y1, w = cW c1 q1 t b k n h1 x1 y1 ∧ cI c1 q1 t b k n h1 x1 y1 (T + 1)) ∧ ∃ z : Int, v = some (ni z) ∧ True) (fun E w => w = cW c q t b k n h x y ∧ (E = "java/lang/IndexOutOfBoundsException" ∨ E = "java/lang/IllegalArgumentException")) := by
  refine ne_meet (own := RX1) hl rfl (by decide +kernel) (Nat.le_of_ble_eq_true rfl) ?_
  intro D ct A P9 V9 R9 S9 M9 as9 bl9 mt9 C9 ad0 X hr hin ht
  obtain ⟨Ic, Iq, It, Ib, Itb, Ik, In, Ih, Ix, Iy⟩ := hI
  refine ne_iload_n X dX1_whole_0 rfl ?_
  refine ne_callS X nw_Tg (me_X1_requireCell l hl _ _ (by omega)) nw_yX1_requireCell nw_mX1_41 nw_sX1_requireCell dX1_whole_1 rfl rfl (by decide) (by decide) (by first | decide | omega) (by first | decide | omega) (Nat.le_of_ble_eq_true rfl) rfl rfl (Nat.le_of_ble_eq_true rfl) ?_ ?_
  rotate_left
  · rintro E9 w9 h9; exact ne_out X ht (by obtain ⟨rfl, rfl⟩ := h9; exact ⟨rfl, by first | exact Or.inl rfl | exact Or.inr rfl⟩)
  rintro v1 w1 ⟨rfl, rfl, g1, k1⟩
  refine ne_iload_n X dX1_whole_4 rfl ?_
  refine ne_callS X nw_Tg (me_X1_requireCell l hl _ _ (by omega)) nw_yX1_requireCell nw_mX1_41 nw_sX1_requireCell dX1_whole_5 rfl rfl (by decide) (by decide) (by first | decide | omega) (by first | decide | omega) (Nat.le_of_ble_eq_true rfl) rfl rfl (Nat.le_of_ble_eq_true rfl) ?_ ?_
  rotate_left
  · rintro E9 w9 h9; exact ne_out X ht (by obtain ⟨rfl, rfl⟩ := h9; exact ⟨rfl, by first | exact Or.inl rfl | exact Or.inr rfl⟩)
  rintro v5 w5 ⟨rfl, rfl, g5, k5⟩
  refine ne_iload_n X dX1_whole_8 rfl ?_
  refine ne_ldc2 (z := -99) (by decide) nw_cX1_88 X dX1_whole_9 ?_
  refine ne_ldc2 (z := 99) (by decide) nw_cX1_90 X dX1_whole_12 ?_
  refine ne_callS X nw_Tg (me_X1_requireBetween l hl _ _ _ _ (by omega) (by omega) (by omega)) nw_yX1_requireBetween nw_mX1_49 nw_sX1_requireBetween dX1_whole_15 rfl rfl (by decide) (by decide) (by first | decide | omega) (by first | decide | omega) (Nat.le_of_ble_eq_true rfl) rfl rfl (Nat.le_of_ble_eq_true rfl) ?_ ?_
  rotate_left
  · rintro E9 w9 h9; exact ne_out X ht (by obtain ⟨rfl, rfl⟩ := h9; exact ⟨rfl, by first | exact Or.inl rfl | exact Or.inr rfl⟩)
  rintro v15 w15 ⟨rfl, rfl, g15, k15⟩
  refine ne_iload_n X dX1_whole_18 rfl ?_
  refine ne_i2l (by omega) X dX1_whole_19 ?_
  refine ne_aload_n X dX1_whole_20 rfl ?_
  refine ne_getf X dX1_whole_21 nw_fX1_13 rfl rfl ?_
  refine ne_iload_n X dX1_whole_24 rfl ?_
  refine ne_ialdR X dX1_whole_25 rfl (by omega) Iq (fun v25 e25 f25 u25 => ?_)
  refine ne_callS X nw_Tg (me_X1_tenTo l hl _ _ (by omega)) nw_yX1_tenTo nw_mX1_59 nw_sX1_tenTo dX1_whole_26 rfl rfl (by decide) (by decide) (by first | decide | omega) (by first | decide | omega) (Nat.le_of_ble_eq_true rfl) rfl rfl (Nat.le_of_ble_eq_true rfl) ?_ ?_
  rotate_left
  · rintro E9 w9 h9; exact h9.elim
  rintro v26 w26 ⟨rfl, z26, rfl, g26, k26, i26, j26, o26⟩
  have m26 := ne_mul a z26 99 1000 (by omega) (by omega)
  refine ne_lmul X dX1_whole_29 ?_
  refine ne_lstore X dX1_whole_30 (by decide) ?_
  refine ne_lload X dX1_whole_32 rfl ?_
  refine ne_lconst (z := 0) (by decide) X dX1_whole_34 ?_
  refine ne_lcif_ne (tgt := 46) X dX1_whole_35 dX1_whole_36 rfl (by omega) (by omega) (fun b36 => ?_) (fun b36 => ?_)
  · refine ne_aload_n X dX1_whole_46 rfl ?_
    refine ne_iload_n X dX1_whole_47 rfl ?_
    refine ne_aload_n X dX1_whole_48 rfl ?_
    refine ne_getf X dX1_whole_49 nw_fX1_9 rfl rfl ?_
    refine ne_iload_n X dX1_whole_52 rfl ?_
    refine ne_ialdR X dX1_whole_53 rfl (by omega) Ic (fun v53 e53 f53 u53 => ?_)
    refine ne_i2l (by omega) X dX1_whole_54 ?_
    refine ne_lload X dX1_whole_55 rfl ?_
    have t57 := ne_tq v53 (a * z26)
    refine ne_ldiv X dX1_whole_57 (by omega) (by omega) (by omega) ?_
    refine ne_iconst X dX1_whole_58 ?_
    refine ne_callV X nw_Tg (me_X1_bring l hl c q t b k n h x y T (by exact ⟨Ic, Iq, It, Ib, Itb, Ik, In, Ih, Ix, Iy⟩) (by omega) _ _ _ (by omega) (by omega) (by omega)) nw_yX1_bring nw_mX1_55 nw_iX1_bring nw_eX1_bring (ci := 3) rfl rfl rfl dX1_whole_59 rfl rfl (by decide) (by decide) (by first | decide | omega) (by first | decide | omega) (Nat.le_of_ble_eq_true rfl) rfl rfl (Nat.le_of_ble_eq_true rfl) ?_ ?_
    rotate_left
    · rintro E9 w9 h9; exact h9.elim
    rintro v59 w59 ⟨c59, q59, h59, rfl, Ic, Iq, Ih, z59, rfl, g59, k59⟩
    exact ne_iret X hr (by first | rfl | decide | rfl) dX1_whole_62 ⟨⟨_, _, _, _, _, rfl, Ic, Iq, It, Ib, Itb, Ik, In, ne_rg_mono Ih (by omega) (by omega), Ix, Iy⟩, _, rfl, trivial⟩
  · refine ne_aload_n X dX1_whole_39 rfl ?_
    refine ne_callV X nw_Tg (me_X1_decline l hl c q t b k n h x y T (by exact ⟨Ic, Iq, It, Ib, Itb, Ik, In, Ih, Ix, Iy⟩) (by omega) ) nw_yX1_decline nw_mX1_80 nw_iX1_decline nw_eX1_decline (ci := 3) rfl rfl rfl dX1_whole_40 rfl rfl (by decide) (by decide) (by first | decide | omega) (by first | decide | omega) (Nat.le_of_ble_eq_true rfl) rfl rfl (Nat.le_of_ble_eq_true rfl) ?_ ?_
    rotate_left
    · rintro E9 w9 h9; exact h9.elim
    rintro v40 w40 ⟨h40, rfl, p40, Ih, rfl⟩
    refine ne_goto (tgt := 62) X dX1_whole_43 rfl ?_
    exact ne_iret X hr (by first | rfl | decide | rfl) dX1_whole_62 ⟨⟨_, _, _, _, _, rfl, Ic, Iq, It, Ib, Itb, Ik, In, ne_rg_mono Ih (by omega) (by omega), Ix, Iy⟩, _, rfl, trivial⟩
set_option maxRecDepth 100000 in
set_option maxHeartbeats 4000000 in
theorem me_X1_rest (l : Launch) (hl : l.stackTraces = false) (c q t b k n h x y : Nat → Int) (T : Int) (hI : cI c q t b k n h x y T) (hT : 0 ≤ T ∧ T ≤ 1000) (i : Int) (a : Int) (o : Int) (hi : -2147483648 ≤ i ∧ i < 2147483648) (ha : -2147483648 ≤ a ∧ a < 2147483648) (ho : -2147483648 ≤ o ∧ o < 2147483648)  : ne_M l nw_cl (.code yX1_rest cX1_rest 6 (some .int)) nw_T yX1_rest 9 330 8 48 [.ref 0, ni i, ni a, ni o] (cW c q t b k n h x y) (fun v w => (∃ c1 q1 h1 x1 y1, w = cW c1 q1 t b k n h1 x1 y1 ∧ cI c1 q1 t b k n h1 x1 y1 (T + 1)) ∧ ∃ z : Int, v = some (ni z) ∧ True) (fun E w => w = cW c q t b k n h x y ∧ (E = "java/lang/IndexOutOfBoundsException" ∨ E = "java/lang/IllegalArgumentException")) := by
  refine ne_meet (own := RX1) hl rfl (by decide +kernel) (Nat.le_of_ble_eq_true rfl) ?_
  intro D ct A P9 V9 R9 S9 M9 as9 bl9 mt9 C9 ad0 X hr hin ht
  obtain ⟨Ic, Iq, It, Ib, Itb, Ik, In, Ih, Ix, Iy⟩ := hI
  refine ne_iload_n X dX1_rest_0 rfl ?_
  refine ne_callS X nw_Tg (me_X1_requireCell l hl _ _ (by omega)) nw_yX1_requireCell nw_mX1_41 nw_sX1_requireCell dX1_rest_1 rfl rfl (by decide) (by decide) (by first | decide | omega) (by first | decide | omega) (Nat.le_of_ble_eq_true rfl) rfl rfl (Nat.le_of_ble_eq_true rfl) ?_ ?_
  rotate_left
  · rintro E9 w9 h9; exact ne_out X ht (by obtain ⟨rfl, rfl⟩ := h9; exact ⟨rfl, by first | exact Or.inl rfl | exact Or.inr rfl⟩)
  rintro v1 w1 ⟨rfl, rfl, g1, k1⟩
  refine ne_iload_n X dX1_rest_4 rfl ?_
  refine ne_callS X nw_Tg (me_X1_requireCell l hl _ _ (by omega)) nw_yX1_requireCell nw_mX1_41 nw_sX1_requireCell dX1_rest_5 rfl rfl (by decide) (by decide) (by first | decide | omega) (by first | decide | omega) (Nat.le_of_ble_eq_true rfl) rfl rfl (Nat.le_of_ble_eq_true rfl) ?_ ?_
  rotate_left
  · rintro E9 w9 h9; exact ne_out X ht (by obtain ⟨rfl, rfl⟩ := h9; exact ⟨rfl, by first | exact Or.inl rfl | exact Or.inr rfl⟩)
  rintro v5 w5 ⟨rfl, rfl, g5, k5⟩
  refine ne_iload_n X dX1_rest_8 rfl ?_
  refine ne_ldc2 (z := -99) (by decide) nw_cX1_88 X dX1_rest_9 ?_
  refine ne_ldc2 (z := 99) (by decide) nw_cX1_90 X dX1_rest_12 ?_
  refine ne_callS X nw_Tg (me_X1_requireBetween l hl _ _ _ _ (by omega) (by omega) (by omega)) nw_yX1_requireBetween nw_mX1_49 nw_sX1_requireBetween dX1_rest_15 rfl rfl (by decide) (by decide) (by first | decide | omega) (by first | decide | omega) (Nat.le_of_ble_eq_true rfl) rfl rfl (Nat.le_of_ble_eq_true rfl) ?_ ?_
  rotate_left
  · rintro E9 w9 h9; exact ne_out X ht (by obtain ⟨rfl, rfl⟩ := h9; exact ⟨rfl, by first | exact Or.inl rfl | exact Or.inr rfl⟩)
  rintro v15 w15 ⟨rfl, rfl, g15, k15⟩
  refine ne_iload_n X dX1_rest_18 rfl ?_
  refine ne_i2l (by omega) X dX1_rest_19 ?_
  refine ne_aload_n X dX1_rest_20 rfl ?_
  refine ne_getf X dX1_rest_21 nw_fX1_13 rfl rfl ?_
  refine ne_iload_n X dX1_rest_24 rfl ?_
  refine ne_ialdR X dX1_rest_25 rfl (by omega) Iq (fun v25 e25 f25 u25 => ?_)
  refine ne_callS X nw_Tg (me_X1_tenTo l hl _ _ (by omega)) nw_yX1_tenTo nw_mX1_59 nw_sX1_tenTo dX1_rest_26 rfl rfl (by decide) (by decide) (by first | decide | omega) (by first | decide | omega) (Nat.le_of_ble_eq_true rfl) rfl rfl (Nat.le_of_ble_eq_true rfl) ?_ ?_
  rotate_left
  · rintro E9 w9 h9; exact h9.elim
  rintro v26 w26 ⟨rfl, z26, rfl, g26, k26, i26, j26, o26⟩
  have m26 := ne_mul a z26 99 1000 (by omega) (by omega)
  refine ne_lmul X dX1_rest_29 ?_
  refine ne_lstore X dX1_rest_30 (by decide) ?_
  refine ne_lload X dX1_rest_32 rfl ?_
  refine ne_lconst (z := 0) (by decide) X dX1_rest_34 ?_
  refine ne_lcif_ne (tgt := 46) X dX1_rest_35 dX1_rest_36 rfl (by omega) (by omega) (fun b36 => ?_) (fun b36 => ?_)
  · refine ne_aload_n X dX1_rest_46 rfl ?_
    refine ne_iload_n X dX1_rest_47 rfl ?_
    refine ne_aload_n X dX1_rest_48 rfl ?_
    refine ne_getf X dX1_rest_49 nw_fX1_9 rfl rfl ?_
    refine ne_iload_n X dX1_rest_52 rfl ?_
    refine ne_ialdR X dX1_rest_53 rfl (by omega) Ic (fun v53 e53 f53 u53 => ?_)
    refine ne_i2l (by omega) X dX1_rest_54 ?_
    refine ne_lload X dX1_rest_55 rfl ?_
    have t57 := ne_tq v53 (a * z26)
    refine ne_lrem X dX1_rest_57 (by omega) (by omega) (by omega) ?_
    refine ne_aload_n X dX1_rest_58 rfl ?_
    refine ne_getf X dX1_rest_59 nw_fX1_13 rfl rfl ?_
    refine ne_iload_n X dX1_rest_62 rfl ?_
    refine ne_ialdR X dX1_rest_63 rfl (by omega) Iq (fun v63 e63 f63 u63 => ?_)
    refine ne_callV X nw_Tg (me_X1_bring l hl c q t b k n h x y T (by exact ⟨Ic, Iq, It, Ib, Itb, Ik, In, Ih, Ix, Iy⟩) (by omega) _ _ _ (by omega) (by omega) (by omega)) nw_yX1_bring nw_mX1_55 nw_iX1_bring nw_eX1_bring (ci := 3) rfl rfl rfl dX1_rest_64 rfl rfl (by decide) (by decide) (by first | decide | omega) (by first | decide | omega) (Nat.le_of_ble_eq_true rfl) rfl rfl (Nat.le_of_ble_eq_true rfl) ?_ ?_
    rotate_left
    · rintro E9 w9 h9; exact h9.elim
    rintro v64 w64 ⟨c64, q64, h64, rfl, Ic, Iq, Ih, z64, rfl, g64, k64⟩
    exact ne_iret X hr (by first | rfl | decide | rfl) dX1_rest_67 ⟨⟨_, _, _, _, _, rfl, Ic, Iq, It, Ib, Itb, Ik, In, ne_rg_mono Ih (by omega) (by omega), Ix, Iy⟩, _, rfl, trivial⟩
  · refine ne_aload_n X dX1_rest_39 rfl ?_
    refine ne_callV X nw_Tg (me_X1_decline l hl c q t b k n h x y T (by exact ⟨Ic, Iq, It, Ib, Itb, Ik, In, Ih, Ix, Iy⟩) (by omega) ) nw_yX1_decline nw_mX1_80 nw_iX1_decline nw_eX1_decline (ci := 3) rfl rfl rfl dX1_rest_40 rfl rfl (by decide) (by decide) (by first | decide | omega) (by first | decide | omega) (Nat.le_of_ble_eq_true rfl) rfl rfl (Nat.le_of_ble_eq_true rfl) ?_ ?_
    rotate_left
    · rintro E9 w9 h9; exact h9.elim
    rintro v40 w40 ⟨h40, rfl, p40, Ih, rfl⟩
    refine ne_goto (tgt := 67) X dX1_rest_43 rfl ?_
    exact ne_iret X hr (by first | rfl | decide | rfl) dX1_rest_67 ⟨⟨_, _, _, _, _, rfl, Ic, Iq, It, Ib, Itb, Ik, In, ne_rg_mono Ih (by omega) (by omega), Ix, Iy⟩, _, rfl, trivial⟩
set_option maxRecDepth 100000 in
set_option maxHeartbeats 4000000 in
theorem me_X1_setPlaces (l : Launch) (hl : l.stackTraces = false) (c q t b k n h x y : Nat → Int) (T : Int) (hI : cI c q t b k n h x y T) (hT : 0 ≤ T ∧ T ≤ 1000) (i : Int) (p : Int) (w0 : Int) (hi : -2147483648 ≤ i ∧ i < 2147483648) (hp : -2147483648 ≤ p ∧ p < 2147483648) (hw0 : -2147483648 ≤ w0 ∧ w0 < 2147483648)  : ne_M l nw_cl (.code yX1_setPlaces cX1_setPlaces 4 (some .int)) nw_T yX1_setPlaces 9 330 8 48 [.ref 0, ni i, ni p, ni w0] (cW c q t b k n h x y) (fun v w => (∃ c1 q1 h1 x1 y1, w = cW c1 q1 t b k n h1 x1 y1 ∧ cI c1 q1 t b k n h1 x1 y1 (T + 1)) ∧ ∃ z : Int, v = some (ni z) ∧ True) (fun E w => w = cW c q t b k n h x y ∧ (E = "java/lang/IndexOutOfBoundsException" ∨ E = "java/lang/IllegalArgumentException")) := by
  refine ne_meet (own := RX1) hl rfl (by decide +kernel) (Nat.le_of_ble_eq_true rfl) ?_
  intro D ct A P9 V9 R9 S9 M9 as9 bl9 mt9 C9 ad0 X hr hin ht
  obtain ⟨Ic, Iq, It, Ib, Itb, Ik, In, Ih, Ix, Iy⟩ := hI
  refine ne_iload_n X dX1_setPlaces_0 rfl ?_
  refine ne_callS X nw_Tg (me_X1_requireCell l hl _ _ (by omega)) nw_yX1_requireCell nw_mX1_41 nw_sX1_requireCell dX1_setPlaces_1 rfl rfl (by decide) (by decide) (by first | decide | omega) (by first | decide | omega) (Nat.le_of_ble_eq_true rfl) rfl rfl (Nat.le_of_ble_eq_true rfl) ?_ ?_
  rotate_left
  · rintro E9 w9 h9; exact ne_out X ht (by obtain ⟨rfl, rfl⟩ := h9; exact ⟨rfl, by first | exact Or.inl rfl | exact Or.inr rfl⟩)
  rintro v1 w1 ⟨rfl, rfl, g1, k1⟩
  refine ne_iload_n X dX1_setPlaces_4 rfl ?_
  refine ne_lconst (z := 0) (by decide) X dX1_setPlaces_5 ?_
  refine ne_ldc2 (z := 3) (by decide) nw_cX1_53 X dX1_setPlaces_6 ?_
  refine ne_callS X nw_Tg (me_X1_requireBetween l hl _ _ _ _ (by omega) (by omega) (by omega)) nw_yX1_requireBetween nw_mX1_49 nw_sX1_requireBetween dX1_setPlaces_9 rfl rfl (by decide) (by decide) (by first | decide | omega) (by first | decide | omega) (Nat.le_of_ble_eq_true rfl) rfl rfl (Nat.le_of_ble_eq_true rfl) ?_ ?_
  rotate_left
  · rintro E9 w9 h9; exact ne_out X ht (by obtain ⟨rfl, rfl⟩ := h9; exact ⟨rfl, by first | exact Or.inl rfl | exact Or.inr rfl⟩)
  rintro v9 w9 ⟨rfl, rfl, g9, k9⟩
  refine ne_iload_n X dX1_setPlaces_12 rfl ?_
  refine ne_callS X nw_Tg (me_X1_requireWay l hl _ _ (by omega)) nw_yX1_requireWay nw_mX1_77 nw_sX1_requireWay dX1_setPlaces_13 rfl rfl (by decide) (by decide) (by first | decide | omega) (by first | decide | omega) (Nat.le_of_ble_eq_true rfl) rfl rfl (Nat.le_of_ble_eq_true rfl) ?_ ?_
  rotate_left
  · rintro E9 w9 h9; exact ne_out X ht (by obtain ⟨rfl, rfl⟩ := h9; exact ⟨rfl, by first | exact Or.inl rfl | exact Or.inr rfl⟩)
  rintro v13 w13 ⟨rfl, rfl, g13, k13⟩
  refine ne_aload_n X dX1_setPlaces_16 rfl ?_
  refine ne_iload_n X dX1_setPlaces_17 rfl ?_
  refine ne_aload_n X dX1_setPlaces_18 rfl ?_
  refine ne_getf X dX1_setPlaces_19 nw_fX1_9 rfl rfl ?_
  refine ne_iload_n X dX1_setPlaces_22 rfl ?_
  refine ne_ialdR X dX1_setPlaces_23 rfl (by omega) Ic (fun v23 e23 f23 u23 => ?_)
  refine ne_i2l (by omega) X dX1_setPlaces_24 ?_
  refine ne_iload_n X dX1_setPlaces_25 rfl ?_
  refine ne_callS X nw_Tg (me_X1_tenTo l hl _ _ (by omega)) nw_yX1_tenTo nw_mX1_59 nw_sX1_tenTo dX1_setPlaces_26 rfl rfl (by decide) (by decide) (by first | decide | omega) (by first | decide | omega) (Nat.le_of_ble_eq_true rfl) rfl rfl (Nat.le_of_ble_eq_true rfl) ?_ ?_
  rotate_left
  · rintro E9 w9 h9; exact h9.elim
  rintro v26 w26 ⟨rfl, z26, rfl, g26, k26, i26, j26, o26⟩
  have m26 := ne_mul v23 z26 999999 1000 (by omega) (by omega)
  refine ne_lmul X dX1_setPlaces_29 ?_
  refine ne_aload_n X dX1_setPlaces_30 rfl ?_
  refine ne_getf X dX1_setPlaces_31 nw_fX1_13 rfl rfl ?_
  refine ne_iload_n X dX1_setPlaces_34 rfl ?_
  refine ne_ialdR X dX1_setPlaces_35 rfl (by omega) Iq (fun v35 e35 f35 u35 => ?_)
  refine ne_callS X nw_Tg (me_X1_tenTo l hl _ _ (by omega)) nw_yX1_tenTo nw_mX1_59 nw_sX1_tenTo dX1_setPlaces_36 rfl rfl (by decide) (by decide) (by first | decide | omega) (by first | decide | omega) (Nat.le_of_ble_eq_true rfl) rfl rfl (Nat.le_of_ble_eq_true rfl) ?_ ?_
  rotate_left
  · rintro E9 w9 h9; exact h9.elim
  rintro v36 w36 ⟨rfl, z36, rfl, g36, k36, i36, j36, o36⟩
  refine ne_iload_n X dX1_setPlaces_39 rfl ?_
  refine ne_callS X nw_Tg (me_X1_rounded l hl _ _ _ _ (by omega) (by omega) (by omega)) nw_yX1_rounded nw_mX1_84 nw_sX1_rounded dX1_setPlaces_40 rfl rfl (by decide) (by decide) (by first | decide | omega) (by first | decide | omega) (Nat.le_of_ble_eq_true rfl) rfl rfl (Nat.le_of_ble_eq_true rfl) ?_ ?_
  rotate_left
  · rintro E9 w9 h9; exact h9.elim
  rintro v40 w40 ⟨rfl, z40, rfl, g40⟩
  refine ne_iload_n X dX1_setPlaces_43 rfl ?_
  refine ne_callV X nw_Tg (me_X1_bring l hl c q t b k n h x y T (by exact ⟨Ic, Iq, It, Ib, Itb, Ik, In, Ih, Ix, Iy⟩) (by omega) _ _ _ (by omega) (by omega) (by omega)) nw_yX1_bring nw_mX1_55 nw_iX1_bring nw_eX1_bring (ci := 3) rfl rfl rfl dX1_setPlaces_44 rfl rfl (by decide) (by decide) (by first | decide | omega) (by first | decide | omega) (Nat.le_of_ble_eq_true rfl) rfl rfl (Nat.le_of_ble_eq_true rfl) ?_ ?_
  rotate_left
  · rintro E9 w9 h9; exact h9.elim
  rintro v44 w44 ⟨c44, q44, h44, rfl, Ic, Iq, Ih, z44, rfl, g44, k44⟩
  exact ne_iret X hr (by first | rfl | decide | rfl) dX1_setPlaces_47 ⟨⟨_, _, _, _, _, rfl, Ic, Iq, It, Ib, Itb, Ik, In, ne_rg_mono Ih (by omega) (by omega), Ix, Iy⟩, _, rfl, trivial⟩
set_option maxRecDepth 100000 in
set_option maxHeartbeats 4000000 in
theorem me_X1_move (l : Launch) (hl : l.stackTraces = false) (c q t b k n h x y : Nat → Int) (T : Int) (hI : cI c q t b k n h x y T) (hT : 0 ≤ T ∧ T ≤ 1000) (i : Int) (a : Int) (hi : -2147483648 ≤ i ∧ i < 2147483648) (ha : -2147483648 ≤ a ∧ a < 2147483648)  : ne_M l nw_cl (.code yX1_move cX1_move 3 (some .int)) nw_T yX1_move 9 330 8 48 [.ref 0, ni i, ni a] (cW c q t b k n h x y) (fun v w => (∃ c1 q1 h1 x1 y1, w = cW c1 q1 t b k n h1 x1 y1 ∧ cI c1 q1 t b k n h1 x1 y1 (T + 1)) ∧ ∃ z : Int, v = some (ni z) ∧ True) (fun E w => w = cW c q t b k n h x y ∧ (E = "java/lang/IndexOutOfBoundsException" ∨ E = "java/lang/IllegalArgumentException")) := by
  refine ne_meet (own := RX1) hl rfl (by decide +kernel) (Nat.le_of_ble_eq_true rfl) ?_
  intro D ct A P9 V9 R9 S9 M9 as9 bl9 mt9 C9 ad0 X hr hin ht
  obtain ⟨Ic, Iq, It, Ib, Itb, Ik, In, Ih, Ix, Iy⟩ := hI
  refine ne_iload_n X dX1_move_0 rfl ?_
  refine ne_callS X nw_Tg (me_X1_requireCell l hl _ _ (by omega)) nw_yX1_requireCell nw_mX1_41 nw_sX1_requireCell dX1_move_1 rfl rfl (by decide) (by decide) (by first | decide | omega) (by first | decide | omega) (Nat.le_of_ble_eq_true rfl) rfl rfl (Nat.le_of_ble_eq_true rfl) ?_ ?_
  rotate_left
  · rintro E9 w9 h9; exact ne_out X ht (by obtain ⟨rfl, rfl⟩ := h9; exact ⟨rfl, by first | exact Or.inl rfl | exact Or.inr rfl⟩)
  rintro v1 w1 ⟨rfl, rfl, g1, k1⟩
  refine ne_iload_n X dX1_move_4 rfl ?_
  refine ne_ldc2 (z := -3) (by decide) nw_cX1_94 X dX1_move_5 ?_
  refine ne_ldc2 (z := 3) (by decide) nw_cX1_53 X dX1_move_8 ?_
  refine ne_callS X nw_Tg (me_X1_requireBetween l hl _ _ _ _ (by omega) (by omega) (by omega)) nw_yX1_requireBetween nw_mX1_49 nw_sX1_requireBetween dX1_move_11 rfl rfl (by decide) (by decide) (by first | decide | omega) (by first | decide | omega) (Nat.le_of_ble_eq_true rfl) rfl rfl (Nat.le_of_ble_eq_true rfl) ?_ ?_
  rotate_left
  · rintro E9 w9 h9; exact ne_out X ht (by obtain ⟨rfl, rfl⟩ := h9; exact ⟨rfl, by first | exact Or.inl rfl | exact Or.inr rfl⟩)
  rintro v11 w11 ⟨rfl, rfl, g11, k11⟩
  refine ne_aload_n X dX1_move_14 rfl ?_
  refine ne_iload_n X dX1_move_15 rfl ?_
  refine ne_aload_n X dX1_move_16 rfl ?_
  refine ne_getf X dX1_move_17 nw_fX1_9 rfl rfl ?_
  refine ne_iload_n X dX1_move_20 rfl ?_
  refine ne_ialdR X dX1_move_21 rfl (by omega) Ic (fun v21 e21 f21 u21 => ?_)
  refine ne_i2l (by omega) X dX1_move_22 ?_
  refine ne_aload_n X dX1_move_23 rfl ?_
  refine ne_getf X dX1_move_24 nw_fX1_13 rfl rfl ?_
  refine ne_iload_n X dX1_move_27 rfl ?_
  refine ne_ialdR X dX1_move_28 rfl (by omega) Iq (fun v28 e28 f28 u28 => ?_)
  refine ne_iload_n X dX1_move_29 rfl ?_
  refine ne_iadd X dX1_move_30 ?_
  refine ne_callV X nw_Tg (me_X1_bringAt l hl c q t b k n h x y T (by exact ⟨Ic, Iq, It, Ib, Itb, Ik, In, Ih, Ix, Iy⟩) (by omega) _ _ _ (by omega) (by omega) (by omega)) nw_yX1_bringAt nw_mX1_96 nw_iX1_bringAt nw_eX1_bringAt (ci := 3) rfl rfl rfl dX1_move_31 rfl rfl (by decide) (by decide) (by first | decide | omega) (by first | decide | omega) (Nat.le_of_ble_eq_true rfl) rfl rfl (Nat.le_of_ble_eq_true rfl) ?_ ?_
  rotate_left
  · rintro E9 w9 h9; exact h9.elim
  rintro v31 w31 ⟨c31, q31, h31, rfl, Ic, Iq, Ih, z31, rfl, g31, k31⟩
  exact ne_iret X hr (by first | rfl | decide | rfl) dX1_move_34 ⟨⟨_, _, _, _, _, rfl, Ic, Iq, It, Ib, Itb, Ik, In, ne_rg_mono Ih (by omega) (by omega), Ix, Iy⟩, _, rfl, trivial⟩
set_option maxRecDepth 100000 in
set_option maxHeartbeats 4000000 in
theorem me_X1_round (l : Launch) (hl : l.stackTraces = false) (c q t b k n h x y : Nat → Int) (T : Int) (hI : cI c q t b k n h x y T) (hT : 0 ≤ T ∧ T ≤ 1000) (i : Int) (a : Int) (w0 : Int) (hi : -2147483648 ≤ i ∧ i < 2147483648) (ha : -2147483648 ≤ a ∧ a < 2147483648) (hw0 : -2147483648 ≤ w0 ∧ w0 < 2147483648)  : ne_M l nw_cl (.code yX1_round cX1_round 8 (some .int)) nw_T yX1_round 9 330 8 48 [.ref 0, ni i, ni a, ni w0] (cW c q t b k n h x y) (fun v w => (∃ c1 q1 h1 x1 y1, w = cW c1 q1 t b k n h1 x1 y1 ∧ cI c1 q1 t b k n h1 x1 y1 (T + 1)) ∧ ∃ z : Int, v = some (ni z) ∧ True) (fun E w => w = cW c q t b k n h x y ∧ (E = "java/lang/IndexOutOfBoundsException" ∨ E = "java/lang/IllegalArgumentException")) := by
  refine ne_meet (own := RX1) hl rfl (by decide +kernel) (Nat.le_of_ble_eq_true rfl) ?_
  intro D ct A P9 V9 R9 S9 M9 as9 bl9 mt9 C9 ad0 X hr hin ht
  obtain ⟨Ic, Iq, It, Ib, Itb, Ik, In, Ih, Ix, Iy⟩ := hI
  refine ne_iload_n X dX1_round_0 rfl ?_
  refine ne_callS X nw_Tg (me_X1_requireCell l hl _ _ (by omega)) nw_yX1_requireCell nw_mX1_41 nw_sX1_requireCell dX1_round_1 rfl rfl (by decide) (by decide) (by first | decide | omega) (by first | decide | omega) (Nat.le_of_ble_eq_true rfl) rfl rfl (Nat.le_of_ble_eq_true rfl) ?_ ?_
  rotate_left
  · rintro E9 w9 h9; exact ne_out X ht (by obtain ⟨rfl, rfl⟩ := h9; exact ⟨rfl, by first | exact Or.inl rfl | exact Or.inr rfl⟩)
  rintro v1 w1 ⟨rfl, rfl, g1, k1⟩
  refine ne_iload_n X dX1_round_4 rfl ?_
  refine ne_lconst (z := 1) (by decide) X dX1_round_5 ?_
  refine ne_ldc2 (z := 6) (by decide) nw_cX1_99 X dX1_round_6 ?_
  refine ne_callS X nw_Tg (me_X1_requireBetween l hl _ _ _ _ (by omega) (by omega) (by omega)) nw_yX1_requireBetween nw_mX1_49 nw_sX1_requireBetween dX1_round_9 rfl rfl (by decide) (by decide) (by first | decide | omega) (by first | decide | omega) (Nat.le_of_ble_eq_true rfl) rfl rfl (Nat.le_of_ble_eq_true rfl) ?_ ?_
  rotate_left
  · rintro E9 w9 h9; exact ne_out X ht (by obtain ⟨rfl, rfl⟩ := h9; exact ⟨rfl, by first | exact Or.inl rfl | exact Or.inr rfl⟩)
  rintro v9 w9 ⟨rfl, rfl, g9, k9⟩
  refine ne_iload_n X dX1_round_12 rfl ?_
  refine ne_callS X nw_Tg (me_X1_requireWay l hl _ _ (by omega)) nw_yX1_requireWay nw_mX1_77 nw_sX1_requireWay dX1_round_13 rfl rfl (by decide) (by decide) (by first | decide | omega) (by first | decide | omega) (Nat.le_of_ble_eq_true rfl) rfl rfl (Nat.le_of_ble_eq_true rfl) ?_ ?_
  rotate_left
  · rintro E9 w9 h9; exact ne_out X ht (by obtain ⟨rfl, rfl⟩ := h9; exact ⟨rfl, by first | exact Or.inl rfl | exact Or.inr rfl⟩)
  rintro v13 w13 ⟨rfl, rfl, g13, k13⟩
  refine ne_aload_n X dX1_round_16 rfl ?_
  refine ne_getf X dX1_round_17 nw_fX1_9 rfl rfl ?_
  refine ne_iload_n X dX1_round_20 rfl ?_
  refine ne_ialdR X dX1_round_21 rfl (by omega) Ic (fun v21 e21 f21 u21 => ?_)
  refine ne_i2l (by omega) X dX1_round_22 ?_
  refine ne_callS X nw_Tg (me_X1_digitsIn6 l hl _ _ (by omega)) nw_yX1_digitsIn nw_mX1_101 nw_sX1_digitsIn dX1_round_23 rfl rfl (by decide) (by decide) (by first | decide | omega) (by first | decide | omega) (Nat.le_of_ble_eq_true rfl) rfl rfl (Nat.le_of_ble_eq_true rfl) ?_ ?_
  rotate_left
  · rintro E9 w9 h9; exact h9.elim
  rintro v23 w23 ⟨rfl, z23, rfl, g23, k23⟩
  refine ne_iload_n X dX1_round_26 rfl ?_
  refine ne_isub X dX1_round_27 ?_
  refine ne_istore X dX1_round_28 (by decide) ?_
  refine ne_iload X dX1_round_30 rfl ?_
  refine ne_if_gt (tgt := 54) X dX1_round_32 rfl (by omega) (fun b32 => ?_) (fun b32 => ?_)
  · refine ne_aload_n X dX1_round_54 rfl ?_
    refine ne_getf X dX1_round_55 nw_fX1_9 rfl rfl ?_
    refine ne_iload_n X dX1_round_58 rfl ?_
    refine ne_ialdR X dX1_round_59 rfl (by omega) Ic (fun v59 e59 f59 u59 => ?_)
    refine ne_i2l (by omega) X dX1_round_60 ?_
    refine ne_iload X dX1_round_61 rfl ?_
    refine ne_callS X nw_Tg (me_X1_tenTo l hl _ _ (by omega)) nw_yX1_tenTo nw_mX1_59 nw_sX1_tenTo dX1_round_63 rfl rfl (by decide) (by decide) (by first | decide | omega) (by first | decide | omega) (Nat.le_of_ble_eq_true rfl) rfl rfl (Nat.le_of_ble_eq_true rfl) ?_ ?_
    rotate_left
    · rintro E9 w9 h9; exact h9.elim
    rintro v63 w63 ⟨rfl, z63, rfl, g63, k63, i63, j63, o63⟩
    refine ne_iload_n X dX1_round_66 rfl ?_
    refine ne_callS X nw_Tg (me_X1_rounded6 l hl _ _ _ _ (by omega) (by omega) (by omega)) nw_yX1_rounded nw_mX1_84 nw_sX1_rounded dX1_round_67 rfl rfl (by decide) (by decide) (by first | decide | omega) (by first | decide | omega) (Nat.le_of_ble_eq_true rfl) rfl rfl (Nat.le_of_ble_eq_true rfl) ?_ ?_
    rotate_left
    · rintro E9 w9 h9; exact h9.elim
    rintro v67 w67 ⟨rfl, z67, rfl, g67⟩
    clear g63 k63 i63 j63 o63
    refine ne_lstore X dX1_round_70 (by decide) ?_
    refine ne_ll (L' := [some (.ref 0), some (ni _), some (ni _), some (ni _), some (ni _), some (nl _), none, none]) rfl ?_
    refine ne_ll (L' := [some (.ref 0), some (ni i), some (ni a), some (ni w0), some (ni (z23 - a)), some (nl z67), none, none]) rfl ?_
    refine ne_lload X dX1_round_72 rfl ?_
    refine ne_ldc2 (z := -9000000000000000000) (by decide) nw_cX1_105 X dX1_round_74 ?_
    refine ne_lcif_ne (tgt := 86) X dX1_round_77 dX1_round_78 rfl (by omega) (by omega) (fun b78 => ?_) (fun b78 => ?_)
    · have w67 : -1000001 ≤ z67 ∧ z67 ≤ 1000001 := by omega
      clear g67 b78
      refine ne_aload_n X dX1_round_86 rfl ?_
      refine ne_getf X dX1_round_87 nw_fX1_13 rfl rfl ?_
      refine ne_iload_n X dX1_round_90 rfl ?_
      refine ne_ialdR X dX1_round_91 rfl (by omega) Iq (fun v91 e91 f91 u91 => ?_)
      refine ne_iload X dX1_round_92 rfl ?_
      refine ne_isub X dX1_round_94 ?_
      refine ne_istore X dX1_round_95 (by decide) ?_
      refine ne_ll (L' := [some (.ref 0), some (ni i), some (ni a), some (ni w0), some (ni (z23 - a)), some (nl z67), none, some (ni (v91 - (z23 - a)))]) rfl ?_
      refine ne_lload X dX1_round_97 rfl ?_
      refine ne_callS X nw_Tg (me_X1_digitsIn l hl _ _ (by omega)) nw_yX1_digitsIn nw_mX1_101 nw_sX1_digitsIn dX1_round_99 rfl rfl (by decide) (by decide) (by first | decide | omega) (by first | decide | omega) (Nat.le_of_ble_eq_true rfl) rfl rfl (Nat.le_of_ble_eq_true rfl) ?_ ?_
      rotate_left
      · rintro E9 w9 h9; exact h9.elim
      rintro v99 w99 ⟨rfl, z99, rfl, g99, k99⟩
      refine ne_iload_n X dX1_round_102 rfl ?_
      refine ne_icmp_le (tgt := 117) X dX1_round_103 rfl (by omega) (by omega) (fun b103 => ?_) (fun b103 => ?_)
      · refine ne_aload_n X dX1_round_117 rfl ?_
        refine ne_iload_n X dX1_round_118 rfl ?_
        refine ne_lload X dX1_round_119 rfl ?_
        refine ne_iload X dX1_round_121 rfl ?_
        refine ne_callV X nw_Tg (me_X1_bringAt l hl c q t b k n h x y T (by exact ⟨Ic, Iq, It, Ib, Itb, Ik, In, Ih, Ix, Iy⟩) (by omega) _ _ _ (by omega) (by omega) (by omega)) nw_yX1_bringAt nw_mX1_96 nw_iX1_bringAt nw_eX1_bringAt (ci := 3) rfl rfl rfl dX1_round_123 rfl rfl (by decide) (by decide) (by first | decide | omega) (by first | decide | omega) (Nat.le_of_ble_eq_true rfl) rfl rfl (Nat.le_of_ble_eq_true rfl) ?_ ?_
        rotate_left
        · rintro E9 w9 h9; exact h9.elim
        rintro v123 w123 ⟨c123, q123, h123, rfl, Ic, Iq, Ih, z123, rfl, g123, k123⟩
        exact ne_iret X hr (by first | rfl | decide | rfl) dX1_round_126 ⟨⟨_, _, _, _, _, rfl, Ic, Iq, It, Ib, Itb, Ik, In, ne_rg_mono Ih (by omega) (by omega), Ix, Iy⟩, _, rfl, trivial⟩
      · refine ne_lload X dX1_round_106 rfl ?_
        refine ne_ldc2 (z := 10) (by decide) nw_cX1_92 X dX1_round_108 ?_
        have t111 := ne_tq z67 10
        refine ne_ldiv X dX1_round_111 (by omega) (by omega) (by omega) ?_
        refine ne_lstore X dX1_round_112 (by decide) ?_
        refine ne_ll (L' := [some (.ref 0), some (ni _), some (ni _), some (ni _), some (ni _), some (nl _), none, some (ni _)]) rfl ?_
        refine ne_iinc X dX1_round_114 rfl (by decide) ?_
        refine ne_aload_n X dX1_round_117 rfl ?_
        refine ne_iload_n X dX1_round_118 rfl ?_
        refine ne_lload X dX1_round_119 rfl ?_
        refine ne_iload X dX1_round_121 rfl ?_
        refine ne_callV X nw_Tg (me_X1_bringAt l hl c q t b k n h x y T (by exact ⟨Ic, Iq, It, Ib, Itb, Ik, In, Ih, Ix, Iy⟩) (by omega) _ _ _ (by omega) (by omega) (by omega)) nw_yX1_bringAt nw_mX1_96 nw_iX1_bringAt nw_eX1_bringAt (ci := 3) rfl rfl rfl dX1_round_123 rfl rfl (by decide) (by decide) (by first | decide | omega) (by first | decide | omega) (Nat.le_of_ble_eq_true rfl) rfl rfl (Nat.le_of_ble_eq_true rfl) ?_ ?_
        rotate_left
        · rintro E9 w9 h9; exact h9.elim
        rintro v123 w123 ⟨c123, q123, h123, rfl, Ic, Iq, Ih, z123, rfl, g123, k123⟩
        exact ne_iret X hr (by first | rfl | decide | rfl) dX1_round_126 ⟨⟨_, _, _, _, _, rfl, Ic, Iq, It, Ib, Itb, Ik, In, ne_rg_mono Ih (by omega) (by omega), Ix, Iy⟩, _, rfl, trivial⟩
    · clear g67 b78
      refine ne_aload_n X dX1_round_81 rfl ?_
      refine ne_callV X nw_Tg (me_X1_decline l hl c q t b k n h x y T (by exact ⟨Ic, Iq, It, Ib, Itb, Ik, In, Ih, Ix, Iy⟩) (by omega) ) nw_yX1_decline nw_mX1_80 nw_iX1_decline nw_eX1_decline (ci := 3) rfl rfl rfl dX1_round_82 rfl rfl (by decide) (by decide) (by first | decide | omega) (by first | decide | omega) (Nat.le_of_ble_eq_true rfl) rfl rfl (Nat.le_of_ble_eq_true rfl) ?_ ?_
      rotate_left
      · rintro E9 w9 h9; exact h9.elim
      rintro v82 w82 ⟨h82, rfl, p82, Ih, rfl⟩
      exact ne_iret X hr (by first | rfl | decide | rfl) dX1_round_85 ⟨⟨_, _, _, _, _, rfl, Ic, Iq, It, Ib, Itb, Ik, In, ne_rg_mono Ih (by omega) (by omega), Ix, Iy⟩, _, rfl, trivial⟩
  · refine ne_aload_n X dX1_round_35 rfl ?_
    refine ne_iload_n X dX1_round_36 rfl ?_
    refine ne_aload_n X dX1_round_37 rfl ?_
    refine ne_getf X dX1_round_38 nw_fX1_9 rfl rfl ?_
    refine ne_iload_n X dX1_round_41 rfl ?_
    refine ne_ialdR X dX1_round_42 rfl (by omega) Ic (fun v42 e42 f42 u42 => ?_)
    refine ne_i2l (by omega) X dX1_round_43 ?_
    refine ne_aload_n X dX1_round_44 rfl ?_
    refine ne_getf X dX1_round_45 nw_fX1_13 rfl rfl ?_
    refine ne_iload_n X dX1_round_48 rfl ?_
    refine ne_ialdR X dX1_round_49 rfl (by omega) Iq (fun v49 e49 f49 u49 => ?_)
    refine ne_callV X nw_Tg (me_X1_bring l hl c q t b k n h x y T (by exact ⟨Ic, Iq, It, Ib, Itb, Ik, In, Ih, Ix, Iy⟩) (by omega) _ _ _ (by omega) (by omega) (by omega)) nw_yX1_bring nw_mX1_55 nw_iX1_bring nw_eX1_bring (ci := 3) rfl rfl rfl dX1_round_50 rfl rfl (by decide) (by decide) (by first | decide | omega) (by first | decide | omega) (Nat.le_of_ble_eq_true rfl) rfl rfl (Nat.le_of_ble_eq_true rfl) ?_ ?_
    rotate_left
    · rintro E9 w9 h9; exact h9.elim
    rintro v50 w50 ⟨c50, q50, h50, rfl, Ic, Iq, Ih, z50, rfl, g50, k50⟩
    exact ne_iret X hr (by first | rfl | decide | rfl) dX1_round_53 ⟨⟨_, _, _, _, _, rfl, Ic, Iq, It, Ib, Itb, Ik, In, ne_rg_mono Ih (by omega) (by omega), Ix, Iy⟩, _, rfl, trivial⟩
set_option maxRecDepth 100000 in
set_option maxHeartbeats 4000000 in
theorem me_X1_cut (l : Launch) (hl : l.stackTraces = false) (c q t b k n h x y : Nat → Int) (T : Int) (hI : cI c q t b k n h x y T) (hT : 0 ≤ T ∧ T ≤ 1000) (i : Int) (m : Int) (p : Int) (w0 : Int) (o : Int) (hi : -2147483648 ≤ i ∧ i < 2147483648) (hm : 0 ≤ m ∧ m ≤ 1) (hp : -2147483648 ≤ p ∧ p < 2147483648) (hw0 : -2147483648 ≤ w0 ∧ w0 < 2147483648) (ho : -2147483648 ≤ o ∧ o < 2147483648)  : ne_M l nw_cl (.code yX1_cut cX1_cut 6 (some .int)) nw_T yX1_cut 9 330 8 48 [.ref 0, ni i, ni m, ni p, ni w0, ni o] (cW c q t b k n h x y) (fun v w => (∃ c1 q1 h1 x1 y1, w = cW c1 q1 t b k n h1 x1 y1 ∧ cI c1 q1 t b k n h1 x1 y1 (T + 1)) ∧ ∃ z : Int, v = some (ni z) ∧ True) (fun E w => w = cW c q t b k n h x y ∧ (E = "java/lang/IndexOutOfBoundsException" ∨ E = "java/lang/IllegalArgumentException")) := by
  refine ne_meet (own := RX1) hl rfl (by decide +kernel) (Nat.le_of_ble_eq_true rfl) ?_
  intro D ct A P9 V9 R9 S9 M9 as9 bl9 mt9 C9 ad0 X hr hin ht
  obtain ⟨Ic, Iq, It, Ib, Itb, Ik, In, Ih, Ix, Iy⟩ := hI
  refine ne_iload_n X dX1_cut_0 rfl ?_
  refine ne_callS X nw_Tg (me_X1_requireWheel l hl _ _ (by omega)) nw_yX1_requireWheel nw_mX1_110 nw_sX1_requireWheel dX1_cut_1 rfl rfl (by decide) (by decide) (by first | decide | omega) (by first | decide | omega) (Nat.le_of_ble_eq_true rfl) rfl rfl (Nat.le_of_ble_eq_true rfl) ?_ ?_
  rotate_left
  · rintro E9 w9 h9; exact ne_out X ht (by obtain ⟨rfl, rfl⟩ := h9; exact ⟨rfl, by first | exact Or.inl rfl | exact Or.inr rfl⟩)
  rintro v1 w1 ⟨rfl, rfl, g1, k1⟩
  refine ne_iload X dX1_cut_4 rfl ?_
  refine ne_callS X nw_Tg (me_X1_requireCell l hl _ _ (by omega)) nw_yX1_requireCell nw_mX1_41 nw_sX1_requireCell dX1_cut_6 rfl rfl (by decide) (by decide) (by first | decide | omega) (by first | decide | omega) (Nat.le_of_ble_eq_true rfl) rfl rfl (Nat.le_of_ble_eq_true rfl) ?_ ?_
  rotate_left
  · rintro E9 w9 h9; exact ne_out X ht (by obtain ⟨rfl, rfl⟩ := h9; exact ⟨rfl, by first | exact Or.inl rfl | exact Or.inr rfl⟩)
  rintro v6 w6 ⟨rfl, rfl, g6, k6⟩
  refine ne_iload_n X dX1_cut_9 rfl ?_
  refine ne_lconst (z := 0) (by decide) X dX1_cut_10 ?_
  refine ne_ldc2 (z := 3) (by decide) nw_cX1_53 X dX1_cut_11 ?_
  refine ne_callS X nw_Tg (me_X1_requireBetween l hl _ _ _ _ (by omega) (by omega) (by omega)) nw_yX1_requireBetween nw_mX1_49 nw_sX1_requireBetween dX1_cut_14 rfl rfl (by decide) (by decide) (by first | decide | omega) (by first | decide | omega) (Nat.le_of_ble_eq_true rfl) rfl rfl (Nat.le_of_ble_eq_true rfl) ?_ ?_
  rotate_left
  · rintro E9 w9 h9; exact ne_out X ht (by obtain ⟨rfl, rfl⟩ := h9; exact ⟨rfl, by first | exact Or.inl rfl | exact Or.inr rfl⟩)
  rintro v14 w14 ⟨rfl, rfl, g14, k14⟩
  refine ne_iload X dX1_cut_17 rfl ?_
  refine ne_callS X nw_Tg (me_X1_requireWay l hl _ _ (by omega)) nw_yX1_requireWay nw_mX1_77 nw_sX1_requireWay dX1_cut_19 rfl rfl (by decide) (by decide) (by first | decide | omega) (by first | decide | omega) (Nat.le_of_ble_eq_true rfl) rfl rfl (Nat.le_of_ble_eq_true rfl) ?_ ?_
  rotate_left
  · rintro E9 w9 h9; exact ne_out X ht (by obtain ⟨rfl, rfl⟩ := h9; exact ⟨rfl, by first | exact Or.inl rfl | exact Or.inr rfl⟩)
  rintro v19 w19 ⟨rfl, rfl, g19, k19⟩
  refine ne_aload_n X dX1_cut_22 rfl ?_
  refine ne_iload X dX1_cut_23 rfl ?_
  refine ne_aload_n X dX1_cut_25 rfl ?_
  refine ne_iload_n X dX1_cut_26 rfl ?_
  refine ne_iload_n X dX1_cut_27 rfl ?_
  refine ne_iload_n X dX1_cut_28 rfl ?_
  refine ne_iload X dX1_cut_29 rfl ?_
  refine ne_callV X nw_Tg (me_X1_cutCount l hl c q t b k n h x y T (by exact ⟨Ic, Iq, It, Ib, Itb, Ik, In, Ih, Ix, Iy⟩) (by omega) _ _ _ _ (by omega) (by omega) (by omega) (by omega)) nw_yX1_cutCount nw_mX1_113 nw_iX1_cutCount nw_eX1_cutCount (ci := 3) rfl rfl rfl dX1_cut_31 rfl rfl (by decide) (by decide) (by first | decide | omega) (by first | decide | omega) (Nat.le_of_ble_eq_true rfl) rfl rfl (Nat.le_of_ble_eq_true rfl) ?_ ?_
  rotate_left
  · rintro E9 w9 h9; exact h9.elim
  rintro v31 w31 ⟨rfl, z31, rfl, g31⟩
  refine ne_iload_n X dX1_cut_34 rfl ?_
  refine ne_callV X nw_Tg (me_X1_bring l hl c q t b k n h x y T (by exact ⟨Ic, Iq, It, Ib, Itb, Ik, In, Ih, Ix, Iy⟩) (by omega) _ _ _ (by omega) (by omega) (by omega)) nw_yX1_bring nw_mX1_55 nw_iX1_bring nw_eX1_bring (ci := 3) rfl rfl rfl dX1_cut_35 rfl rfl (by decide) (by decide) (by first | decide | omega) (by first | decide | omega) (Nat.le_of_ble_eq_true rfl) rfl rfl (Nat.le_of_ble_eq_true rfl) ?_ ?_
  rotate_left
  · rintro E9 w9 h9; exact h9.elim
  rintro v35 w35 ⟨c35, q35, h35, rfl, Ic, Iq, Ih, z35, rfl, g35, k35⟩
  exact ne_iret X hr (by first | rfl | decide | rfl) dX1_cut_38 ⟨⟨_, _, _, _, _, rfl, Ic, Iq, It, Ib, Itb, Ik, In, ne_rg_mono Ih (by omega) (by omega), Ix, Iy⟩, _, rfl, trivial⟩
set_option maxRecDepth 100000 in
set_option maxHeartbeats 4000000 in
theorem me_X1_spoke (l : Launch) (hl : l.stackTraces = false) (c q t b k n h x y : Nat → Int) (T : Int) (hI : cI c q t b k n h x y T) (hT : 0 ≤ T ∧ T ≤ 1000) (i : Int) (a : Int) (hi : -2147483648 ≤ i ∧ i < 2147483648) (ha : -2147483648 ≤ a ∧ a < 2147483648)  : ne_M l nw_cl (.code yX1_spoke cX1_spoke 3 (some .int)) nw_T yX1_spoke 9 330 8 48 [.ref 0, ni i, ni a] (cW c q t b k n h x y) (fun v w => (∃ c1 q1 h1 x1 y1, w = cW c1 q1 t b k n h1 x1 y1 ∧ cI c1 q1 t b k n h1 x1 y1 (T + 1)) ∧ ∃ z : Int, v = some (ni z) ∧ True) (fun E w => w = cW c q t b k n h x y ∧ (E = "java/lang/IndexOutOfBoundsException" ∨ E = "java/lang/IllegalArgumentException")) := by
  refine ne_meet (own := RX1) hl rfl (by decide +kernel) (Nat.le_of_ble_eq_true rfl) ?_
  intro D ct A P9 V9 R9 S9 M9 as9 bl9 mt9 C9 ad0 X hr hin ht
  obtain ⟨Ic, Iq, It, Ib, Itb, Ik, In, Ih, Ix, Iy⟩ := hI
  refine ne_iload_n X dX1_spoke_0 rfl ?_
  refine ne_callS X nw_Tg (me_X1_requireWheel l hl _ _ (by omega)) nw_yX1_requireWheel nw_mX1_110 nw_sX1_requireWheel dX1_spoke_1 rfl rfl (by decide) (by decide) (by first | decide | omega) (by first | decide | omega) (Nat.le_of_ble_eq_true rfl) rfl rfl (Nat.le_of_ble_eq_true rfl) ?_ ?_
  rotate_left
  · rintro E9 w9 h9; exact ne_out X ht (by obtain ⟨rfl, rfl⟩ := h9; exact ⟨rfl, by first | exact Or.inl rfl | exact Or.inr rfl⟩)
  rintro v1 w1 ⟨rfl, rfl, g1, k1⟩
  refine ne_iload_n X dX1_spoke_4 rfl ?_
  refine ne_lconst (z := 0) (by decide) X dX1_spoke_5 ?_
  refine ne_ldc2 (z := 4) (by decide) nw_cX1_150 X dX1_spoke_6 ?_
  refine ne_callS X nw_Tg (me_X1_requireBetween l hl _ _ _ _ (by omega) (by omega) (by omega)) nw_yX1_requireBetween nw_mX1_49 nw_sX1_requireBetween dX1_spoke_9 rfl rfl (by decide) (by decide) (by first | decide | omega) (by first | decide | omega) (Nat.le_of_ble_eq_true rfl) rfl rfl (Nat.le_of_ble_eq_true rfl) ?_ ?_
  rotate_left
  · rintro E9 w9 h9; exact ne_out X ht (by obtain ⟨rfl, rfl⟩ := h9; exact ⟨rfl, by first | exact Or.inl rfl | exact Or.inr rfl⟩)
  rintro v9 w9 ⟨rfl, rfl, g9, k9⟩
  refine ne_aload_n X dX1_spoke_12 rfl ?_
  refine ne_iload_n X dX1_spoke_13 rfl ?_
  refine ne_iload_n X dX1_spoke_14 rfl ?_
  refine ne_callV X nw_Tg (me_X1_spokeOf l hl c q t b k n h x y T (by exact ⟨Ic, Iq, It, Ib, Itb, Ik, In, Ih, Ix, Iy⟩) (by omega) _ _ (by omega) (by omega)) nw_yX1_spokeOf nw_mX1_152 nw_iX1_spokeOf nw_eX1_spokeOf (ci := 3) rfl rfl rfl dX1_spoke_15 rfl rfl (by decide) (by decide) (by first | decide | omega) (by first | decide | omega) (Nat.le_of_ble_eq_true rfl) rfl rfl (Nat.le_of_ble_eq_true rfl) ?_ ?_
  rotate_left
  · rintro E9 w9 h9; exact h9.elim
  rintro v15 w15 ⟨rfl, z15, rfl, g15, k15⟩
  exact ne_iret X hr (by first | rfl | decide | rfl) dX1_spoke_18 ⟨⟨_, _, _, _, _, rfl, Ic, Iq, It, Ib, Itb, Ik, In, ne_rg_mono Ih (by omega) (by omega), Ix, Iy⟩, _, rfl, trivial⟩
set_option maxRecDepth 100000 in
set_option maxHeartbeats 4000000 in
theorem me_X1_restAt (l : Launch) (hl : l.stackTraces = false) (c q t b k n h x y : Nat → Int) (T : Int) (hI : cI c q t b k n h x y T) (hT : 0 ≤ T ∧ T ≤ 1000) (i : Int) (a : Int) (hi : -2147483648 ≤ i ∧ i < 2147483648) (ha : -2147483648 ≤ a ∧ a < 2147483648)  : ne_M l nw_cl (.code yX1_restAt cX1_restAt 3 (some .int)) nw_T yX1_restAt 9 330 8 48 [.ref 0, ni i, ni a] (cW c q t b k n h x y) (fun v w => (∃ c1 q1 h1 x1 y1, w = cW c1 q1 t b k n h1 x1 y1 ∧ cI c1 q1 t b k n h1 x1 y1 (T + 1)) ∧ ∃ z : Int, v = some (ni z) ∧ True) (fun E w => w = cW c q t b k n h x y ∧ (E = "java/lang/IndexOutOfBoundsException" ∨ E = "java/lang/IllegalArgumentException")) := by
  refine ne_meet (own := RX1) hl rfl (by decide +kernel) (Nat.le_of_ble_eq_true rfl) ?_
  intro D ct A P9 V9 R9 S9 M9 as9 bl9 mt9 C9 ad0 X hr hin ht
  obtain ⟨Ic, Iq, It, Ib, Itb, Ik, In, Ih, Ix, Iy⟩ := hI
  refine ne_iload_n X dX1_restAt_0 rfl ?_
  refine ne_callS X nw_Tg (me_X1_requireWheel l hl _ _ (by omega)) nw_yX1_requireWheel nw_mX1_110 nw_sX1_requireWheel dX1_restAt_1 rfl rfl (by decide) (by decide) (by first | decide | omega) (by first | decide | omega) (Nat.le_of_ble_eq_true rfl) rfl rfl (Nat.le_of_ble_eq_true rfl) ?_ ?_
  rotate_left
  · rintro E9 w9 h9; exact ne_out X ht (by obtain ⟨rfl, rfl⟩ := h9; exact ⟨rfl, by first | exact Or.inl rfl | exact Or.inr rfl⟩)
  rintro v1 w1 ⟨rfl, rfl, g1, k1⟩
  refine ne_iload_n X dX1_restAt_4 rfl ?_
  refine ne_lconst (z := 0) (by decide) X dX1_restAt_5 ?_
  refine ne_ldc2 (z := 200) (by decide) nw_cX1_145 X dX1_restAt_6 ?_
  refine ne_callS X nw_Tg (me_X1_requireBetween l hl _ _ _ _ (by omega) (by omega) (by omega)) nw_yX1_requireBetween nw_mX1_49 nw_sX1_requireBetween dX1_restAt_9 rfl rfl (by decide) (by decide) (by first | decide | omega) (by first | decide | omega) (Nat.le_of_ble_eq_true rfl) rfl rfl (Nat.le_of_ble_eq_true rfl) ?_ ?_
  rotate_left
  · rintro E9 w9 h9; exact ne_out X ht (by obtain ⟨rfl, rfl⟩ := h9; exact ⟨rfl, by first | exact Or.inl rfl | exact Or.inr rfl⟩)
  rintro v9 w9 ⟨rfl, rfl, g9, k9⟩
  refine ne_aload_n X dX1_restAt_12 rfl ?_
  refine ne_iload_n X dX1_restAt_13 rfl ?_
  refine ne_iload_n X dX1_restAt_14 rfl ?_
  refine ne_callV X nw_Tg (me_X1_restOfPlace l hl c q t b k n h x y T (by exact ⟨Ic, Iq, It, Ib, Itb, Ik, In, Ih, Ix, Iy⟩) (by omega) _ _ (by omega) (by omega)) nw_yX1_restOfPlace nw_mX1_135 nw_iX1_restOfPlace nw_eX1_restOfPlace (ci := 3) rfl rfl rfl dX1_restAt_15 rfl rfl (by decide) (by decide) (by first | decide | omega) (by first | decide | omega) (Nat.le_of_ble_eq_true rfl) rfl rfl (Nat.le_of_ble_eq_true rfl) ?_ ?_
  rotate_left
  · rintro E9 w9 h9; exact h9.elim
  rintro v15 w15 ⟨rfl, z15, rfl, g15, k15, i15, j15⟩
  exact ne_iret X hr (by first | rfl | decide | rfl) dX1_restAt_18 ⟨⟨_, _, _, _, _, rfl, Ic, Iq, It, Ib, Itb, Ik, In, ne_rg_mono Ih (by omega) (by omega), Ix, Iy⟩, _, rfl, trivial⟩
set_option maxRecDepth 100000 in
set_option maxHeartbeats 4000000 in
theorem me_X1_nines (l : Launch) (hl : l.stackTraces = false) (c q t b k n h x y : Nat → Int) (T : Int) (hI : cI c q t b k n h x y T) (hT : 0 ≤ T ∧ T ≤ 1000) (i : Int) (a : Int) (hi : -2147483648 ≤ i ∧ i < 2147483648) (ha : -2147483648 ≤ a ∧ a < 2147483648)  : ne_M l nw_cl (.code yX1_nines cX1_nines 3 (some .int)) nw_T yX1_nines 9 330 8 48 [.ref 0, ni i, ni a] (cW c q t b k n h x y) (fun v w => (∃ c1 q1 h1 x1 y1, w = cW c1 q1 t b k n h1 x1 y1 ∧ cI c1 q1 t b k n h1 x1 y1 (T + 1)) ∧ ∃ z : Int, v = some (ni z) ∧ True) (fun E w => w = cW c q t b k n h x y ∧ (E = "java/lang/IndexOutOfBoundsException" ∨ E = "java/lang/IllegalArgumentException")) := by
  refine ne_meet (own := RX1) hl rfl (by decide +kernel) (Nat.le_of_ble_eq_true rfl) ?_
  intro D ct A P9 V9 R9 S9 M9 as9 bl9 mt9 C9 ad0 X hr hin ht
  obtain ⟨Ic, Iq, It, Ib, Itb, Ik, In, Ih, Ix, Iy⟩ := hI
  refine ne_iload_n X dX1_nines_0 rfl ?_
  refine ne_callS X nw_Tg (me_X1_requireWheel l hl _ _ (by omega)) nw_yX1_requireWheel nw_mX1_110 nw_sX1_requireWheel dX1_nines_1 rfl rfl (by decide) (by decide) (by first | decide | omega) (by first | decide | omega) (Nat.le_of_ble_eq_true rfl) rfl rfl (Nat.le_of_ble_eq_true rfl) ?_ ?_
  rotate_left
  · rintro E9 w9 h9; exact ne_out X ht (by obtain ⟨rfl, rfl⟩ := h9; exact ⟨rfl, by first | exact Or.inl rfl | exact Or.inr rfl⟩)
  rintro v1 w1 ⟨rfl, rfl, g1, k1⟩
  refine ne_iload_n X dX1_nines_4 rfl ?_
  refine ne_ldc2 (z := 2) (by decide) nw_cX1_173 X dX1_nines_5 ?_
  refine ne_ldc2 (z := 12) (by decide) nw_cX1_175 X dX1_nines_8 ?_
  refine ne_callS X nw_Tg (me_X1_requireBetween l hl _ _ _ _ (by omega) (by omega) (by omega)) nw_yX1_requireBetween nw_mX1_49 nw_sX1_requireBetween dX1_nines_11 rfl rfl (by decide) (by decide) (by first | decide | omega) (by first | decide | omega) (Nat.le_of_ble_eq_true rfl) rfl rfl (Nat.le_of_ble_eq_true rfl) ?_ ?_
  rotate_left
  · rintro E9 w9 h9; exact ne_out X ht (by obtain ⟨rfl, rfl⟩ := h9; exact ⟨rfl, by first | exact Or.inl rfl | exact Or.inr rfl⟩)
  rintro v11 w11 ⟨rfl, rfl, g11, k11⟩
  refine ne_aload_n X dX1_nines_14 rfl ?_
  refine ne_iload_n X dX1_nines_15 rfl ?_
  refine ne_iload_n X dX1_nines_16 rfl ?_
  refine ne_callV X nw_Tg (me_X1_ninesOf l hl c q t b k n h x y T (by exact ⟨Ic, Iq, It, Ib, Itb, Ik, In, Ih, Ix, Iy⟩) (by omega) _ _ (by omega) (by omega)) nw_yX1_ninesOf nw_mX1_186 nw_iX1_ninesOf nw_eX1_ninesOf (ci := 3) rfl rfl rfl dX1_nines_17 rfl rfl (by decide) (by decide) (by first | decide | omega) (by first | decide | omega) (Nat.le_of_ble_eq_true rfl) rfl rfl (Nat.le_of_ble_eq_true rfl) ?_ ?_
  rotate_left
  · rintro E9 w9 h9; exact h9.elim
  rintro v17 w17 ⟨x17, y17, rfl, Ix, Iy, z17, rfl, g17, k17⟩
  exact ne_iret X hr (by first | rfl | decide | rfl) dX1_nines_20 ⟨⟨_, _, _, _, _, rfl, Ic, Iq, It, Ib, Itb, Ik, In, ne_rg_mono Ih (by omega) (by omega), Ix, Iy⟩, _, rfl, trivial⟩
set_option maxRecDepth 100000 in
set_option maxHeartbeats 4000000 in
theorem me_X1_isSound (l : Launch) (hl : l.stackTraces = false) (c q t b k n h x y : Nat → Int) (T : Int) (hI : cI c q t b k n h x y T) (hT : 0 ≤ T ∧ T ≤ 1000000)  : ne_M l nw_cl (.code yX1_isSound cX1_isSound 2 (some .boolean)) nw_T yX1_isSound 6 260 0 0 [.ref 0] (cW c q t b k n h x y) (fun v w => ∃ x1 y1, w = cW c q t b k n h x1 y1 ∧ ne_rg x1 0 9 ∧ ne_rg y1 0 9 ∧ ∃ z : Int, v = some (ni z) ∧ 0 ≤ z ∧ z ≤ 1) (fun _ _ => False) := by
  refine ne_meet (own := RX1) hl rfl (by decide +kernel) (Nat.le_of_ble_eq_true rfl) ?_
  intro D ct A P9 V9 R9 S9 M9 as9 bl9 mt9 C9 ad0 X hr hin ht
  obtain ⟨Ic, Iq, It, Ib, Itb, Ik, In, Ih, Ix, Iy⟩ := hI
  have lp44 : ∀ (n9 : Nat) (x1 y1 : Nat → Int) (j : Int), (3 - j).toNat < n9 → (0 ≤ j) → (j ≤ 3) → (ne_rg x1 0 9) → (ne_rg y1 0 9) → ne_G nw_cl D ct A 12 ad0 P9 l V9 R9 S9 M9 as9 bl9 mt9 C9 (ne_O nw_cl D ct ad0 12 A bl9 as9 S9 0 0 (fun v w => ∃ x1 y1, w = cW c q t b k n h x1 y1 ∧ ne_rg x1 0 9 ∧ ne_rg y1 0 9 ∧ ∃ z : Int, v = some (ni z) ∧ 0 ≤ z ∧ z ≤ 1) (fun _ _ => False)) 2 0 0 0 0 44 [some (.ref 0), some (ni j)] [] (cW c q t b k n h x1 y1) := by
    intro n9
    induction n9 with
    | zero => intro x1 y1 j hm9 q1 q2 Ix Iy; exfalso; omega
    | succ n9 ih =>
      intro x1 y1 j hm9 q1 q2 Ix Iy
      refine ne_iload_n X dX1_isSound_44 rfl ?_
      refine ne_iconst X dX1_isSound_45 ?_
      refine ne_icmp_ge (tgt := 81) X dX1_isSound_46 rfl (by omega) (by omega) (fun b46 => ?_) (fun b46 => ?_)
      · refine ne_iconst X dX1_isSound_81 ?_
        exact ne_iret X hr (by first | rfl | decide | rfl) dX1_isSound_82 ⟨_, _, rfl, Ix, Iy, _, rfl, by omega⟩
      · refine ne_aload_n X dX1_isSound_49 rfl ?_
        refine ne_iload_n X dX1_isSound_50 rfl ?_
        refine ne_callV X nw_Tg (me_X1_isLengthSound l hl c q t b k n h x1 y1 T (by exact ⟨Ic, Iq, It, Ib, Itb, Ik, In, Ih, Ix, Iy⟩) (by omega) _ (by omega)) nw_yX1_isLengthSound nw_mX1_206 nw_iX1_isLengthSound nw_eX1_isLengthSound (ci := 3) rfl rfl rfl dX1_isSound_51 rfl rfl (by decide) (by decide) (by first | decide | omega) (by first | decide | omega) (Nat.le_of_ble_eq_true rfl) rfl rfl (Nat.le_of_ble_eq_true rfl) ?_ ?_
        rotate_left
        · rintro E9 w9 h9; exact h9.elim
        rintro v51 w51 ⟨rfl, z51, rfl, g51, k51⟩
        refine ne_if_eq (tgt := 73) X dX1_isSound_54 rfl (by omega) (fun b54 => ?_) (fun b54 => ?_)
        · refine ne_iconst X dX1_isSound_73 ?_
          exact ne_iret X hr (by first | rfl | decide | rfl) dX1_isSound_74 ⟨_, _, rfl, Ix, Iy, _, rfl, by omega⟩
        · refine ne_aload_n X dX1_isSound_57 rfl ?_
          refine ne_iload_n X dX1_isSound_58 rfl ?_
          refine ne_callV X nw_Tg (me_X1_isProductSound l hl c q t b k n h x1 y1 T (by exact ⟨Ic, Iq, It, Ib, Itb, Ik, In, Ih, Ix, Iy⟩) (by omega) _ (by omega)) nw_yX1_isProductSound nw_mX1_209 nw_iX1_isProductSound nw_eX1_isProductSound (ci := 3) rfl rfl rfl dX1_isSound_59 rfl rfl (by decide) (by decide) (by first | decide | omega) (by first | decide | omega) (Nat.le_of_ble_eq_true rfl) rfl rfl (Nat.le_of_ble_eq_true rfl) ?_ ?_
          rotate_left
          · rintro E9 w9 h9; exact h9.elim
          rintro v59 w59 ⟨x59, y59, rfl, Ix, Iy, z59, rfl, g59, k59⟩
          refine ne_if_eq (tgt := 73) X dX1_isSound_62 rfl (by omega) (fun b62 => ?_) (fun b62 => ?_)
          · refine ne_iconst X dX1_isSound_73 ?_
            exact ne_iret X hr (by first | rfl | decide | rfl) dX1_isSound_74 ⟨_, _, rfl, Ix, Iy, _, rfl, by omega⟩
          · refine ne_aload_n X dX1_isSound_65 rfl ?_
            refine ne_iload_n X dX1_isSound_66 rfl ?_
            refine ne_callV X nw_Tg (me_X1_isCutSound l hl c q t b k n h x59 y59 T (by exact ⟨Ic, Iq, It, Ib, Itb, Ik, In, Ih, Ix, Iy⟩) (by omega) _ (by omega)) nw_yX1_isCutSound nw_mX1_212 nw_iX1_isCutSound nw_eX1_isCutSound (ci := 3) rfl rfl rfl dX1_isSound_67 rfl rfl (by decide) (by decide) (by first | decide | omega) (by first | decide | omega) (Nat.le_of_ble_eq_true rfl) rfl rfl (Nat.le_of_ble_eq_true rfl) ?_ ?_
            rotate_left
            · rintro E9 w9 h9; exact h9.elim
            rintro v67 w67 ⟨rfl, z67, rfl, g67, k67⟩
            refine ne_if_ne (tgt := 75) X dX1_isSound_70 rfl (by omega) (fun b70 => ?_) (fun b70 => ?_)
            · refine ne_iinc X dX1_isSound_75 rfl (by decide) ?_
              refine ne_goto (tgt := 44) X dX1_isSound_78 rfl ?_
              exact ih _ _ _ (by omega) (by omega) (by omega) Ix Iy
            · refine ne_iconst X dX1_isSound_73 ?_
              exact ne_iret X hr (by first | rfl | decide | rfl) dX1_isSound_74 ⟨_, _, rfl, Ix, Iy, _, rfl, by omega⟩
  have lp2 : ∀ (n9 : Nat) (j : Int), (4 - j).toNat < n9 → (0 ≤ j) → (j ≤ 4) → ne_G nw_cl D ct A 12 ad0 P9 l V9 R9 S9 M9 as9 bl9 mt9 C9 (ne_O nw_cl D ct ad0 12 A bl9 as9 S9 0 0 (fun v w => ∃ x1 y1, w = cW c q t b k n h x1 y1 ∧ ne_rg x1 0 9 ∧ ne_rg y1 0 9 ∧ ∃ z : Int, v = some (ni z) ∧ 0 ≤ z ∧ z ≤ 1) (fun _ _ => False)) 2 0 0 0 0 2 [some (.ref 0), some (ni j)] [] (cW c q t b k n h x y) := by
    intro n9
    induction n9 with
    | zero => intro j hm9 q1 q2; exfalso; omega
    | succ n9 ih =>
      intro j hm9 q1 q2
      refine ne_iload_n X dX1_isSound_2 rfl ?_
      refine ne_iconst X dX1_isSound_3 ?_
      refine ne_icmp_ge (tgt := 42) X dX1_isSound_4 rfl (by omega) (by omega) (fun b4 => ?_) (fun b4 => ?_)
      · refine ne_iconst X dX1_isSound_42 ?_
        refine ne_istore_n X dX1_isSound_43 rfl (by decide) ?_
        exact lp44 _ _ _ 0 (Nat.lt_succ_self _) (by omega) (by omega) Ix Iy
      · refine ne_aload_n X dX1_isSound_7 rfl ?_
        refine ne_getf X dX1_isSound_8 nw_fX1_9 rfl rfl ?_
        refine ne_iload_n X dX1_isSound_11 rfl ?_
        refine ne_ialdR X dX1_isSound_12 rfl (by omega) Ic (fun v12 e12 f12 u12 => ?_)
        refine ne_i2l (by omega) X dX1_isSound_13 ?_
        refine ne_aload_n X dX1_isSound_14 rfl ?_
        refine ne_getf X dX1_isSound_15 nw_fX1_13 rfl rfl ?_
        refine ne_iload_n X dX1_isSound_18 rfl ?_
        refine ne_ialdR X dX1_isSound_19 rfl (by omega) Iq (fun v19 e19 f19 u19 => ?_)
        refine ne_callS X nw_Tg (me_X1_fits l hl _ _ _ (by omega) (by omega)) nw_yX1_fits nw_mX1_198 nw_sX1_fits dX1_isSound_20 rfl rfl (by decide) (by decide) (by first | decide | omega) (by first | decide | omega) (Nat.le_of_ble_eq_true rfl) rfl rfl (Nat.le_of_ble_eq_true rfl) ?_ ?_
        rotate_left
        · rintro E9 w9 h9; exact h9.elim
        rintro v20 w20 ⟨rfl, z20, rfl, g20⟩
        refine ne_if_eq (tgt := 34) X dX1_isSound_23 rfl (by omega) (fun b23 => ?_) (fun b23 => ?_)
        · refine ne_iconst X dX1_isSound_34 ?_
          exact ne_iret X hr (by first | rfl | decide | rfl) dX1_isSound_35 ⟨_, _, rfl, Ix, Iy, _, rfl, by omega⟩
        · refine ne_aload_n X dX1_isSound_26 rfl ?_
          refine ne_iload_n X dX1_isSound_27 rfl ?_
          refine ne_callV X nw_Tg (me_X1_isCellSoundWithAll l hl c q t b k n h x y T (by exact ⟨Ic, Iq, It, Ib, Itb, Ik, In, Ih, Ix, Iy⟩) (by omega) _ (by omega)) nw_yX1_isCellSoundWithAll nw_mX1_202 nw_iX1_isCellSoundWithAll nw_eX1_isCellSoundWithAll (ci := 3) rfl rfl rfl dX1_isSound_28 rfl rfl (by decide) (by decide) (by first | decide | omega) (by first | decide | omega) (Nat.le_of_ble_eq_true rfl) rfl rfl (Nat.le_of_ble_eq_true rfl) ?_ ?_
          rotate_left
          · rintro E9 w9 h9; exact h9.elim
          rintro v28 w28 ⟨rfl, z28, rfl, g28, k28⟩
          refine ne_if_ne (tgt := 36) X dX1_isSound_31 rfl (by omega) (fun b31 => ?_) (fun b31 => ?_)
          · refine ne_iinc X dX1_isSound_36 rfl (by decide) ?_
            refine ne_goto (tgt := 2) X dX1_isSound_39 rfl ?_
            exact ih _ (by omega) (by omega) (by omega)
          · refine ne_iconst X dX1_isSound_34 ?_
            exact ne_iret X hr (by first | rfl | decide | rfl) dX1_isSound_35 ⟨_, _, rfl, Ix, Iy, _, rfl, by omega⟩
  refine ne_iconst X dX1_isSound_0 ?_
  refine ne_istore_n X dX1_isSound_1 rfl (by decide) ?_
  exact lp2 _ 0 (Nat.lt_succ_self _) (by omega) (by omega)
set_option maxRecDepth 100000 in
set_option maxHeartbeats 4000000 in
theorem me_X1_digest (l : Launch) (hl : l.stackTraces = false) (c q t b k n h x y : Nat → Int) (T : Int) (hI : cI c q t b k n h x y T) (hT : 0 ≤ T ∧ T ≤ 1000000)  : ne_M l nw_cl (.code yX1_digest cX1_digest 4 (some .long)) nw_T yX1_digest 8 300 0 0 [.ref 0] (cW c q t b k n h x y) (fun v w => ∃ x1 y1, w = cW c q t b k n h x1 y1 ∧ ne_rg x1 0 9 ∧ ne_rg y1 0 9 ∧ ∃ z : Int, v = some (nl z) ∧ True) (fun _ _ => False) := by
  refine ne_meet (own := RX1) hl rfl (by decide +kernel) (Nat.le_of_ble_eq_true rfl) ?_
  intro D ct A P9 V9 R9 S9 M9 as9 bl9 mt9 C9 ad0 X hr hin ht
  obtain ⟨Ic, Iq, It, Ib, Itb, Ik, In, Ih, Ix, Iy⟩ := hI
  have lp16 : ∀ (n9 : Nat) (x1 y1 : Nat → Int) (r j : Int), (4 - j).toNat < n9 → (0 ≤ j) → (j ≤ 4) → (ne_rg x1 0 9) → (ne_rg y1 0 9) → ne_G nw_cl D ct A 12 ad0 P9 l V9 R9 S9 M9 as9 bl9 mt9 C9 (ne_O nw_cl D ct ad0 12 A bl9 as9 S9 0 0 (fun v w => ∃ x1 y1, w = cW c q t b k n h x1 y1 ∧ ne_rg x1 0 9 ∧ ne_rg y1 0 9 ∧ ∃ z : Int, v = some (nl z) ∧ True) (fun _ _ => False)) 4 0 0 0 0 16 [some (.ref 0), some (nl r), none, some (ni j)] [] (cW c q t b k n h x1 y1) := by
    intro n9
    induction n9 with
    | zero => intro x1 y1 r j hm9 q1 q2 Ix Iy; exfalso; omega
    | succ n9 ih =>
      intro x1 y1 r j hm9 q1 q2 Ix Iy
      refine ne_iload_n X dX1_digest_16 rfl ?_
      refine ne_iconst X dX1_digest_17 ?_
      refine ne_icmp_ge (tgt := 39) X dX1_digest_18 rfl (by omega) (by omega) (fun b18 => ?_) (fun b18 => ?_)
      · refine ne_lload_n X dX1_digest_39 rfl ?_
        refine ne_aload_n X dX1_digest_40 rfl ?_
        refine ne_callV X nw_Tg (me_X1_isSound l hl c q t b k n h x1 y1 T (by exact ⟨Ic, Iq, It, Ib, Itb, Ik, In, Ih, Ix, Iy⟩) (by omega) ) nw_yX1_isSound nw_mX1_228 nw_iX1_isSound nw_eX1_isSound (ci := 3) rfl rfl rfl dX1_digest_41 rfl rfl (by decide) (by decide) (by first | decide | omega) (by first | decide | omega) (Nat.le_of_ble_eq_true rfl) rfl rfl (Nat.le_of_ble_eq_true rfl) ?_ ?_
        rotate_left
        · rintro E9 w9 h9; exact h9.elim
        rintro v41 w41 ⟨x41, y41, rfl, Ix, Iy, z41, rfl, g41, k41⟩
        refine ne_if_eq (tgt := 51) X dX1_digest_44 rfl (by omega) (fun b44 => ?_) (fun b44 => ?_)
        · refine ne_lconst (z := 0) (by decide) X dX1_digest_51 ?_
          refine ne_callS X nw_Tg (me_X1_joined l hl _ _ _) nw_yX1_joined nw_mX1_224 nw_sX1_joined dX1_digest_52 rfl rfl (by decide) (by decide) (by first | decide | omega) (by first | decide | omega) (Nat.le_of_ble_eq_true rfl) rfl rfl (Nat.le_of_ble_eq_true rfl) ?_ ?_
          rotate_left
          · rintro E9 w9 h9; exact h9.elim
          rintro v52 w52 ⟨rfl, z52, rfl, g52⟩
          exact ne_lret X hr dX1_digest_55 ⟨_, _, rfl, Ix, Iy, _, rfl, trivial⟩
        · refine ne_lconst (z := 1) (by decide) X dX1_digest_47 ?_
          refine ne_goto (tgt := 52) X dX1_digest_48 rfl ?_
          refine ne_callS X nw_Tg (me_X1_joined l hl _ _ _) nw_yX1_joined nw_mX1_224 nw_sX1_joined dX1_digest_52 rfl rfl (by decide) (by decide) (by first | decide | omega) (by first | decide | omega) (Nat.le_of_ble_eq_true rfl) rfl rfl (Nat.le_of_ble_eq_true rfl) ?_ ?_
          rotate_left
          · rintro E9 w9 h9; exact h9.elim
          rintro v52 w52 ⟨rfl, z52, rfl, g52⟩
          exact ne_lret X hr dX1_digest_55 ⟨_, _, rfl, Ix, Iy, _, rfl, trivial⟩
      · refine ne_lload_n X dX1_digest_21 rfl ?_
        refine ne_aload_n X dX1_digest_22 rfl ?_
        refine ne_getf X dX1_digest_23 nw_fX1_28 rfl rfl ?_
        refine ne_iload_n X dX1_digest_26 rfl ?_
        refine ne_ialdR X dX1_digest_27 rfl (by omega) Ih (fun v27 e27 f27 u27 => ?_)
        refine ne_i2l (by omega) X dX1_digest_28 ?_
        refine ne_callS X nw_Tg (me_X1_joined l hl _ _ _) nw_yX1_joined nw_mX1_224 nw_sX1_joined dX1_digest_29 rfl rfl (by decide) (by decide) (by first | decide | omega) (by first | decide | omega) (Nat.le_of_ble_eq_true rfl) rfl rfl (Nat.le_of_ble_eq_true rfl) ?_ ?_
        rotate_left
        · rintro E9 w9 h9; exact h9.elim
        rintro v29 w29 ⟨rfl, z29, rfl, g29⟩
        refine ne_lstore_n X dX1_digest_32 rfl (by decide) ?_
        refine ne_iinc X dX1_digest_33 rfl (by decide) ?_
        refine ne_ll (L' := [some (.ref 0), some (nl _), none, some (ni _)]) rfl ?_
        refine ne_goto (tgt := 16) X dX1_digest_36 rfl ?_
        exact ih _ _ _ _ (by omega) (by omega) (by omega) Ix Iy
  refine ne_aload_n X dX1_digest_0 rfl ?_
  refine ne_ldc2 (z := 7944) (by decide) nw_cX1_215 X dX1_digest_1 ?_
  refine ne_callV X nw_Tg (me_X1_digestOfCells l hl c q t b k n h x y T (by exact ⟨Ic, Iq, It, Ib, Itb, Ik, In, Ih, Ix, Iy⟩) (by omega) _) nw_yX1_digestOfCells nw_mX1_217 nw_iX1_digestOfCells nw_eX1_digestOfCells (ci := 3) rfl rfl rfl dX1_digest_4 rfl rfl (by decide) (by decide) (by first | decide | omega) (by first | decide | omega) (Nat.le_of_ble_eq_true rfl) rfl rfl (Nat.le_of_ble_eq_true rfl) ?_ ?_
  rotate_left
  · rintro E9 w9 h9; exact h9.elim
  rintro v4 w4 ⟨rfl, z4, rfl, g4⟩
  refine ne_lstore_n X dX1_digest_7 rfl (by decide) ?_
  refine ne_aload_n X dX1_digest_8 rfl ?_
  refine ne_lload_n X dX1_digest_9 rfl ?_
  refine ne_callV X nw_Tg (me_X1_digestOfWheels l hl c q t b k n h x y T (by exact ⟨Ic, Iq, It, Ib, Itb, Ik, In, Ih, Ix, Iy⟩) (by omega) _) nw_yX1_digestOfWheels nw_mX1_221 nw_iX1_digestOfWheels nw_eX1_digestOfWheels (ci := 3) rfl rfl rfl dX1_digest_10 rfl rfl (by decide) (by decide) (by first | decide | omega) (by first | decide | omega) (Nat.le_of_ble_eq_true rfl) rfl rfl (Nat.le_of_ble_eq_true rfl) ?_ ?_
  rotate_left
  · rintro E9 w9 h9; exact h9.elim
  rintro v10 w10 ⟨x10, y10, rfl, Ix, Iy, z10, rfl, g10⟩
  refine ne_lstore_n X dX1_digest_13 rfl (by decide) ?_
  refine ne_ll (L' := [some (.ref 0), some (nl _), none, none]) rfl ?_
  refine ne_iconst X dX1_digest_14 ?_
  refine ne_istore_n X dX1_digest_15 rfl (by decide) ?_
  exact lp16 _ _ _ _ 0 (Nat.lt_succ_self _) (by omega) (by omega) Ix Iy
