theorem ne_tq (v b : Int) : (0 ≤ v → 0 ≤ v.tmod b ∧ v.tmod b ≤ v ∧ -v ≤ v.tdiv b ∧ v.tdiv b ≤ v) ∧ (v ≤ 0 → v ≤ v.tmod b ∧ v.tmod b ≤ 0 ∧ v ≤ v.tdiv b ∧ v.tdiv b ≤ -v) := by
  have pos : ∀ c : Int, 1 ≤ c → (0 ≤ v → 0 ≤ v.tmod c ∧ v.tmod c ≤ v ∧ 0 ≤ v.tdiv c ∧ v.tdiv c ≤ v) ∧ (v ≤ 0 → v ≤ v.tmod c ∧ v.tmod c ≤ 0 ∧ v ≤ v.tdiv c ∧ v.tdiv c ≤ 0) := by
    intro c hc
    have h := ne_tdm v c hc
    have h9 := ne_tdm (-v) c hc
    rw [Int.neg_tdiv, Int.neg_tmod] at h9
    refine ⟨fun hv => ?_, fun hv => ?_⟩
    · have := h.1 hv; omega
    · have := h.2 hv; have := h9.1 (by omega); omega
  rcases (show b = 0 ∨ 1 ≤ b ∨ 1 ≤ -b by omega) with h | h | h
  · subst h
    rw [Int.tmod_zero, Int.tdiv_zero]
    omega
  · have := pos b h; omega
  · have h2 := pos (-b) h
    rw [Int.tmod_neg, Int.tdiv_neg] at h2
    omega
set_option maxRecDepth 100000 in
set_option maxHeartbeats 4000000 in
theorem me_X1_digitsIn6 (l : Launch) (hl : l.stackTraces = false) (ws : ne_W) (a : Int) (ha : -999999 ≤ a ∧ a ≤ 999999) : ne_M l nw_cl (.code yX1_digitsIn cX1_digitsIn 5 (some .int)) nw_T yX1_digitsIn 1 40 0 0 [nl a] ws (fun v w => w = ws ∧ ∃ z : Int, v = some (ni z) ∧ 1 ≤ z ∧ z ≤ 6) (fun _ _ => False) := by
  refine ne_meet (own := RX1) hl rfl (by decide +kernel) (Nat.le_of_ble_eq_true rfl) ?_
  intro D ct A P9 V9 R9 S9 M9 as9 bl9 mt9 C9 ad0 X hr hin ht
  have lp11 : ∀ (n9 : Nat) (d r : Int), (19 - d).toNat < n9 → (1 ≤ d) → (d ≤ 6) → (0 ≤ r) → ((d = 1 → r ≤ 99999) ∧ (d = 2 → r ≤ 9999) ∧ (d = 3 → r ≤ 999) ∧ (d = 4 → r ≤ 99) ∧ (d = 5 → r ≤ 9) ∧ (d = 6 → r ≤ 0)) → ne_G nw_cl D ct A ws.length ad0 P9 l V9 R9 S9 M9 as9 bl9 mt9 C9 (ne_O nw_cl D ct ad0 ws.length A bl9 as9 S9 0 0 (fun v w => w = ws ∧ ∃ z : Int, v = some (ni z) ∧ 1 ≤ z ∧ z ≤ 6) (fun _ _ => False)) 5 0 0 0 0 11 [some (nl a), none, some (ni d), some (nl r), none] [] ws := by
    intro n9
    induction n9 with
    | zero => intro d r hm9 q1 q2 q3 q4; exfalso; omega
    | succ n9 ih =>
      intro d r hm9 q1 q2 q3 q4
      have q5 := ne_t10 r q3
      refine ne_lload_n X dX1_digitsIn_11 rfl ?_
      refine ne_lconst (z := 0) (by decide) X dX1_digitsIn_12 ?_
      refine ne_lcif_le (tgt := 35) X dX1_digitsIn_13 dX1_digitsIn_14 rfl (by omega) (by omega) (fun b14 => ?_) (fun b14 => ?_)
      · refine ne_iload_n X dX1_digitsIn_35 rfl ?_
        exact ne_iret X hr (by first | rfl | decide | rfl) dX1_digitsIn_36 ⟨rfl, _, rfl, by omega⟩
      · refine ne_iload_n X dX1_digitsIn_17 rfl ?_
        refine ne_bipush (v := 19) (by decide) X dX1_digitsIn_18 ?_
        refine ne_icmp_ge (tgt := 35) X dX1_digitsIn_20 rfl (by omega) (by omega) (fun b20 => ?_) (fun b20 => ?_)
        · refine ne_iload_n X dX1_digitsIn_35 rfl ?_
          exact ne_iret X hr (by first | rfl | decide | rfl) dX1_digitsIn_36 ⟨rfl, _, rfl, by omega⟩
        · refine ne_iinc X dX1_digitsIn_23 rfl (by decide) ?_
          refine ne_lload_n X dX1_digitsIn_26 rfl ?_
          refine ne_ldc2 (z := 10) (by decide) nw_cX1_92 X dX1_digitsIn_27 ?_
          refine ne_ldiv X dX1_digitsIn_30 (by omega) (by omega) (by omega) ?_
          refine ne_lstore_n X dX1_digitsIn_31 rfl (by decide) ?_
          refine ne_ll (L' := [some (nl _), none, some (ni _), some (nl _), none]) rfl ?_
          refine ne_goto (tgt := 11) X dX1_digitsIn_32 rfl ?_
          exact ih _ _ (by omega) (by omega) (by omega) (by omega) (by omega)
  refine ne_iconst X dX1_digitsIn_0 ?_
  refine ne_istore_n X dX1_digitsIn_1 rfl (by decide) ?_
  refine ne_lload_n X dX1_digitsIn_2 rfl ?_
  refine ne_mabsl X dX1_digitsIn_3 nw_mX1_250 nw_Ms_absl nw_Mi nw_Mc_absl (by decide) (Nat.le_of_ble_eq_true rfl) (by omega) ?_
  refine ne_topL (fun a3 e3 => ?_)
  have p3 : 0 ≤ a3 ∧ a3 ≤ 999999 := by rw [e3]; split <;> omega
  have t3 := ne_t10 a3 p3.1
  refine ne_ldc2 (z := 10) (by decide) nw_cX1_92 X dX1_digitsIn_6 ?_
  refine ne_ldiv X dX1_digitsIn_9 (by omega) (by omega) (by omega) ?_
  refine ne_lstore_n X dX1_digitsIn_10 rfl (by decide) ?_
  refine ne_ll (L' := [some (nl _), none, some (ni _), some (nl _), none]) rfl ?_
  exact lp11 _ 1 _ (Nat.lt_succ_self _) (by omega) (by omega) (by omega) (by omega)
set_option maxRecDepth 100000 in
set_option maxHeartbeats 4000000 in
theorem me_X1_rounded6 (l : Launch) (hl : l.stackTraces = false) (ws : ne_W) (a b w0 : Int) (ha : -1000000 ≤ a ∧ a ≤ 1000000) (hb : -1000000000000000 ≤ b ∧ b ≤ 1000000000000000) (hw : -2147483648 ≤ w0 ∧ w0 < 2147483648) : ne_M l nw_cl (.code yX1_rounded cX1_rounded 9 (some .long)) nw_T yX1_rounded 2 80 0 0 [nl a, nl b, ni w0] ws (fun v w => w = ws ∧ ∃ z : Int, v = some (nl z) ∧ (z = -9000000000000000000 ∨ (-1000001 ≤ z ∧ z ≤ 1000001))) (fun _ _ => False) := by
  refine ne_meet (own := RX1) hl rfl (by decide +kernel) (Nat.le_of_ble_eq_true rfl) ?_
  intro D ct A P9 V9 R9 S9 M9 as9 bl9 mt9 C9 ad0 X hr hin ht
  refine ne_lload_n X dX1_rounded_0 rfl ?_
  refine ne_lconst (z := 1) (by decide) X dX1_rounded_1 ?_
  refine ne_lcif_ge (tgt := 10) X dX1_rounded_2 dX1_rounded_3 rfl (by omega) (by omega) (fun b3 => ?_) (fun b3 => ?_)
  · have t9 := ne_tdm a b (by omega)
    refine ne_lload_n X dX1_rounded_10 rfl ?_
    refine ne_lload_n X dX1_rounded_11 rfl ?_
    refine ne_ldiv X dX1_rounded_12 (by omega) (by omega) (by omega) ?_
    refine ne_lstore X dX1_rounded_13 (by decide) ?_
    refine ne_lload_n X dX1_rounded_15 rfl ?_
    refine ne_lload_n X dX1_rounded_16 rfl ?_
    refine ne_lrem X dX1_rounded_17 (by omega) (by omega) (by omega) ?_
    refine ne_mabsl X dX1_rounded_18 nw_mX1_250 nw_Ms_absl nw_Mi nw_Mc_absl (by decide) (Nat.le_of_ble_eq_true rfl) (by omega) ?_
    refine ne_topL (fun a18 e18 => ?_)
    have p18 : 0 ≤ a18 ∧ a18 < b := by rw [e18]; split <;> omega
    refine ne_lstore X dX1_rounded_21 (by decide) ?_
    refine ne_ll (L' := [some (nl _), none, some (nl _), none, some (ni _), some (nl _), none, some (nl _), none]) rfl ?_
    refine ne_lload X dX1_rounded_23 rfl ?_
    refine ne_lconst (z := 0) (by decide) X dX1_rounded_25 ?_
    refine ne_lcif_ne (tgt := 33) X dX1_rounded_26 dX1_rounded_27 rfl (by omega) (by omega) (fun b27 => ?_) (fun b27 => ?_)
    · refine ne_iload X dX1_rounded_33 rfl ?_
      refine ne_bipush (v := 7) (by decide) X dX1_rounded_35 ?_
      refine ne_icmp_ne (tgt := 44) X dX1_rounded_37 rfl (by omega) (by omega) (fun b37 => ?_) (fun b37 => ?_)
      · refine ne_lload_n X dX1_rounded_44 rfl ?_
        refine ne_lload X dX1_rounded_45 rfl ?_
        refine ne_ldc2 (z := 2) (by decide) nw_cX1_173 X dX1_rounded_47 ?_
        refine ne_lload X dX1_rounded_50 rfl ?_
        refine ne_lmul X dX1_rounded_52 ?_
        refine ne_lload_n X dX1_rounded_53 rfl ?_
        refine ne_lsub X dX1_rounded_54 ?_
        refine ne_callS X nw_Tg (me_X1_signOf l hl _ _ (by omega)) nw_yX1_signOf nw_mX1_117 nw_sX1_signOf dX1_rounded_55 rfl rfl (by decide) (by decide) (by first | decide | omega) (by first | decide | omega) (Nat.le_refl _) rfl rfl (Nat.le_of_ble_eq_true rfl) ?_ ?_
        rotate_left
        · rintro E9 w9 h9; exact h9.elim
        rintro v55 w55 ⟨rfl, z55, rfl, g55, k55, i55, j55⟩
        refine ne_iload X dX1_rounded_58 rfl ?_
        refine ne_callS X nw_Tg (me_X1_isFartherTaken l hl _ _ _ _ _ (by omega) (by omega) (by omega) (by omega)) nw_yX1_isFartherTaken nw_mX1_270 nw_sX1_isFartherTaken dX1_rounded_60 rfl rfl (by decide) (by decide) (by first | decide | omega) (by first | decide | omega) (Nat.le_refl _) rfl rfl (Nat.le_of_ble_eq_true rfl) ?_ ?_
        rotate_left
        · rintro E9 w9 h9; exact h9.elim
        rintro v60 w60 ⟨rfl, z60, rfl, g60, k60⟩
        refine ne_if_eq (tgt := 77) X dX1_rounded_63 rfl (by omega) (fun b63 => ?_) (fun b63 => ?_)
        · refine ne_lload X dX1_rounded_77 rfl ?_
          exact ne_lret X hr dX1_rounded_79 ⟨rfl, _, rfl, by omega⟩
        · refine ne_lload X dX1_rounded_66 rfl ?_
          refine ne_lload_n X dX1_rounded_68 rfl ?_
          refine ne_callS X nw_Tg (me_X1_signOf l hl _ _ (by omega)) nw_yX1_signOf nw_mX1_117 nw_sX1_signOf dX1_rounded_69 rfl rfl (by decide) (by decide) (by first | decide | omega) (by first | decide | omega) (Nat.le_refl _) rfl rfl (Nat.le_of_ble_eq_true rfl) ?_ ?_
          rotate_left
          · rintro E9 w9 h9; exact h9.elim
          rintro v69 w69 ⟨rfl, z69, rfl, g69, k69, i69, j69⟩
          refine ne_i2l (by omega) X dX1_rounded_72 ?_
          refine ne_ladd X dX1_rounded_73 ?_
          refine ne_goto (tgt := 79) X dX1_rounded_74 rfl ?_
          exact ne_lret X hr dX1_rounded_79 ⟨rfl, _, rfl, by omega⟩
      · refine ne_ldc2 (z := -9000000000000000000) (by decide) nw_cX1_105 X dX1_rounded_40 ?_
        exact ne_lret X hr dX1_rounded_43 ⟨rfl, _, rfl, by omega⟩
    · refine ne_lload X dX1_rounded_30 rfl ?_
      exact ne_lret X hr dX1_rounded_32 ⟨rfl, _, rfl, by omega⟩
  · refine ne_ldc2 (z := -9000000000000000000) (by decide) nw_cX1_105 X dX1_rounded_6 ?_
    exact ne_lret X hr dX1_rounded_9 ⟨rfl, _, rfl, by omega⟩
set_option maxRecDepth 100000 in
set_option maxHeartbeats 4000000 in
theorem me_X1_spoke (l : Launch) (hl : l.stackTraces = false) (c q t b k n h x y : Nat → Int) (T : Int) (hI : cI c q t b k n h x y T) (hT : 0 ≤ T ∧ T ≤ 1000) (i : Int) (a : Int) (hi : -2147483648 ≤ i ∧ i < 2147483648) (ha : -2147483648 ≤ a ∧ a < 2147483648)  : ne_M l nw_cl (.code yX1_spoke cX1_spoke 3 (some .int)) nw_T yX1_spoke 9 330 8 48 [.ref 0, ni i, ni a] (cW c q t b k n h x y) (fun v w => (∃ x1 y1, w = cW c q t b k n h x1 y1 ∧ cI c q t b k n h x1 y1 (T + 1)) ∧ ∃ z : Int, v = some (ni z) ∧ True) (fun E w => w = cW c q t b k n h x y ∧ (E = "java/lang/IndexOutOfBoundsException" ∨ E = "java/lang/IllegalArgumentException")) := by
  refine ne_meet (own := RX1) hl rfl (by decide +kernel) (Nat.le_of_ble_eq_true rfl) ?_
  intro D ct A P9 V9 R9 S9 M9 as9 bl9 mt9 C9 ad0 X hr hin ht
  obtain ⟨Ic, Iq, It, Ib, Itb, Ik, In, Ih, Ix, Iy⟩ := hI
  refine ne_iload_n X dX1_spoke_0 rfl ?_
  refine ne_callS X nw_Tg (me_X1_requireWheel l hl _ _ (by omega)) nw_yX1_requireWheel nw_mX1_110 nw_sX1_requireWheel dX1_spoke_1 rfl rfl (by decide) (by decide) (by first | decide | omega) (by first | decide | omega) (Nat.le_of_ble_eq_true rfl) rfl rfl (Nat.le_of_ble_eq_true rfl) ?_ ?_
  rotate_left
  · rintro E9 w9 h9; exact ne_out X ht (by obtain ⟨rfl, rfl⟩ := h9; exact ⟨rfl, by first | exact Or.inl rfl | exact Or.inr rfl⟩)
  rintro v1 w1 ⟨rfl, rfl, g1, k1⟩
  refine ne_iload_n X dX1_spoke_4 rfl ?_
  refine ne_lconst (z := 0) (by decide) X dX1_spoke_5 ?_
  refine ne_ldc2 (z := 4) (by decide) nw_cX1_150 X dX1_spoke_6 ?_
  refine ne_callS X nw_Tg (me_X1_requireBetween l hl _ _ _ _ (by omega) (by omega) (by omega)) nw_yX1_requireBetween nw_mX1_49 nw_sX1_requireBetween dX1_spoke_9 rfl rfl (by decide) (by decide) (by first | decide | omega) (by first | decide | omega) (Nat.le_of_ble_eq_true rfl) rfl rfl (Nat.le_of_ble_eq_true rfl) ?_ ?_
  rotate_left
  · rintro E9 w9 h9; exact ne_out X ht (by obtain ⟨rfl, rfl⟩ := h9; exact ⟨rfl, by first | exact Or.inl rfl | exact Or.inr rfl⟩)
  rintro v9 w9 ⟨rfl, rfl, g9, k9⟩
  refine ne_aload_n X dX1_spoke_12 rfl ?_
  refine ne_iload_n X dX1_spoke_13 rfl ?_
  refine ne_iload_n X dX1_spoke_14 rfl ?_
  refine ne_callV X nw_Tg (me_X1_spokeOf l hl c q t b k n h x y T (by exact ⟨Ic, Iq, It, Ib, Itb, Ik, In, Ih, Ix, Iy⟩) (by omega) _ _ (by omega) (by omega)) nw_yX1_spokeOf nw_mX1_152 nw_iX1_spokeOf nw_eX1_spokeOf (ci := 3) rfl rfl rfl dX1_spoke_15 rfl rfl (by decide) (by decide) (by first | decide | omega) (by first | decide | omega) (Nat.le_of_ble_eq_true rfl) rfl rfl (Nat.le_of_ble_eq_true rfl) ?_ ?_
  rotate_left
  · rintro E9 w9 h9; exact h9.elim
  rintro v15 w15 ⟨rfl, z15, rfl, g15, k15⟩
  exact ne_iret X hr (by first | rfl | decide | rfl) dX1_spoke_18 ⟨⟨_, _, rfl, Ic, Iq, It, Ib, Itb, Ik, In, ne_rg_mono Ih (by omega) (by omega), Ix, Iy⟩, _, rfl, trivial⟩
set_option maxRecDepth 100000 in
set_option maxHeartbeats 4000000 in
theorem me_X1_restAt (l : Launch) (hl : l.stackTraces = false) (c q t b k n h x y : Nat → Int) (T : Int) (hI : cI c q t b k n h x y T) (hT : 0 ≤ T ∧ T ≤ 1000) (i : Int) (a : Int) (hi : -2147483648 ≤ i ∧ i < 2147483648) (ha : -2147483648 ≤ a ∧ a < 2147483648)  : ne_M l nw_cl (.code yX1_restAt cX1_restAt 3 (some .int)) nw_T yX1_restAt 9 330 8 48 [.ref 0, ni i, ni a] (cW c q t b k n h x y) (fun v w => (∃ x1 y1, w = cW c q t b k n h x1 y1 ∧ cI c q t b k n h x1 y1 (T + 1)) ∧ ∃ z : Int, v = some (ni z) ∧ True) (fun E w => w = cW c q t b k n h x y ∧ (E = "java/lang/IndexOutOfBoundsException" ∨ E = "java/lang/IllegalArgumentException")) := by
  refine ne_meet (own := RX1) hl rfl (by decide +kernel) (Nat.le_of_ble_eq_true rfl) ?_
  intro D ct A P9 V9 R9 S9 M9 as9 bl9 mt9 C9 ad0 X hr hin ht
  obtain ⟨Ic, Iq, It, Ib, Itb, Ik, In, Ih, Ix, Iy⟩ := hI
  refine ne_iload_n X dX1_restAt_0 rfl ?_
  refine ne_callS X nw_Tg (me_X1_requireWheel l hl _ _ (by omega)) nw_yX1_requireWheel nw_mX1_110 nw_sX1_requireWheel dX1_restAt_1 rfl rfl (by decide) (by decide) (by first | decide | omega) (by first | decide | omega) (Nat.le_of_ble_eq_true rfl) rfl rfl (Nat.le_of_ble_eq_true rfl) ?_ ?_
  rotate_left
  · rintro E9 w9 h9; exact ne_out X ht (by obtain ⟨rfl, rfl⟩ := h9; exact ⟨rfl, by first | exact Or.inl rfl | exact Or.inr rfl⟩)
  rintro v1 w1 ⟨rfl, rfl, g1, k1⟩
  refine ne_iload_n X dX1_restAt_4 rfl ?_
  refine ne_lconst (z := 0) (by decide) X dX1_restAt_5 ?_
  refine ne_ldc2 (z := 200) (by decide) nw_cX1_145 X dX1_restAt_6 ?_
  refine ne_callS X nw_Tg (me_X1_requireBetween l hl _ _ _ _ (by omega) (by omega) (by omega)) nw_yX1_requireBetween nw_mX1_49 nw_sX1_requireBetween dX1_restAt_9 rfl rfl (by decide) (by decide) (by first | decide | omega) (by first | decide | omega) (Nat.le_of_ble_eq_true rfl) rfl rfl (Nat.le_of_ble_eq_true rfl) ?_ ?_
  rotate_left
  · rintro E9 w9 h9; exact ne_out X ht (by obtain ⟨rfl, rfl⟩ := h9; exact ⟨rfl, by first | exact Or.inl rfl | exact Or.inr rfl⟩)
  rintro v9 w9 ⟨rfl, rfl, g9, k9⟩
  refine ne_aload_n X dX1_restAt_12 rfl ?_
  refine ne_iload_n X dX1_restAt_13 rfl ?_
  refine ne_iload_n X dX1_restAt_14 rfl ?_
  refine ne_callV X nw_Tg (me_X1_restOfPlace l hl c q t b k n h x y T (by exact ⟨Ic, Iq, It, Ib, Itb, Ik, In, Ih, Ix, Iy⟩) (by omega) _ _ (by omega) (by omega)) nw_yX1_restOfPlace nw_mX1_135 nw_iX1_restOfPlace nw_eX1_restOfPlace (ci := 3) rfl rfl rfl dX1_restAt_15 rfl rfl (by decide) (by decide) (by first | decide | omega) (by first | decide | omega) (Nat.le_of_ble_eq_true rfl) rfl rfl (Nat.le_of_ble_eq_true rfl) ?_ ?_
  rotate_left
  · rintro E9 w9 h9; exact h9.elim
  rintro v15 w15 ⟨rfl, z15, rfl, g15, k15, i15, j15⟩
  exact ne_iret X hr (by first | rfl | decide | rfl) dX1_restAt_18 ⟨⟨_, _, rfl, Ic, Iq, It, Ib, Itb, Ik, In, ne_rg_mono Ih (by omega) (by omega), Ix, Iy⟩, _, rfl, trivial⟩
set_option maxRecDepth 100000 in
set_option maxHeartbeats 4000000 in
theorem me_X1_nines (l : Launch) (hl : l.stackTraces = false) (c q t b k n h x y : Nat → Int) (T : Int) (hI : cI c q t b k n h x y T) (hT : 0 ≤ T ∧ T ≤ 1000) (i : Int) (a : Int) (hi : -2147483648 ≤ i ∧ i < 2147483648) (ha : -2147483648 ≤ a ∧ a < 2147483648)  : ne_M l nw_cl (.code yX1_nines cX1_nines 3 (some .int)) nw_T yX1_nines 9 330 8 48 [.ref 0, ni i, ni a] (cW c q t b k n h x y) (fun v w => (∃ x1 y1, w = cW c q t b k n h x1 y1 ∧ cI c q t b k n h x1 y1 (T + 1)) ∧ ∃ z : Int, v = some (ni z) ∧ True) (fun E w => w = cW c q t b k n h x y ∧ (E = "java/lang/IndexOutOfBoundsException" ∨ E = "java/lang/IllegalArgumentException")) := by
  refine ne_meet (own := RX1) hl rfl (by decide +kernel) (Nat.le_of_ble_eq_true rfl) ?_
  intro D ct A P9 V9 R9 S9 M9 as9 bl9 mt9 C9 ad0 X hr hin ht
  obtain ⟨Ic, Iq, It, Ib, Itb, Ik, In, Ih, Ix, Iy⟩ := hI
  refine ne_iload_n X dX1_nines_0 rfl ?_
  refine ne_callS X nw_Tg (me_X1_requireWheel l hl _ _ (by omega)) nw_yX1_requireWheel nw_mX1_110 nw_sX1_requireWheel dX1_nines_1 rfl rfl (by decide) (by decide) (by first | decide | omega) (by first | decide | omega) (Nat.le_of_ble_eq_true rfl) rfl rfl (Nat.le_of_ble_eq_true rfl) ?_ ?_
  rotate_left
  · rintro E9 w9 h9; exact ne_out X ht (by obtain ⟨rfl, rfl⟩ := h9; exact ⟨rfl, by first | exact Or.inl rfl | exact Or.inr rfl⟩)
  rintro v1 w1 ⟨rfl, rfl, g1, k1⟩
  refine ne_iload_n X dX1_nines_4 rfl ?_
  refine ne_ldc2 (z := 2) (by decide) nw_cX1_173 X dX1_nines_5 ?_
  refine ne_ldc2 (z := 12) (by decide) nw_cX1_175 X dX1_nines_8 ?_
  refine ne_callS X nw_Tg (me_X1_requireBetween l hl _ _ _ _ (by omega) (by omega) (by omega)) nw_yX1_requireBetween nw_mX1_49 nw_sX1_requireBetween dX1_nines_11 rfl rfl (by decide) (by decide) (by first | decide | omega) (by first | decide | omega) (Nat.le_of_ble_eq_true rfl) rfl rfl (Nat.le_of_ble_eq_true rfl) ?_ ?_
  rotate_left
  · rintro E9 w9 h9; exact ne_out X ht (by obtain ⟨rfl, rfl⟩ := h9; exact ⟨rfl, by first | exact Or.inl rfl | exact Or.inr rfl⟩)
  rintro v11 w11 ⟨rfl, rfl, g11, k11⟩
  refine ne_aload_n X dX1_nines_14 rfl ?_
  refine ne_iload_n X dX1_nines_15 rfl ?_
  refine ne_iload_n X dX1_nines_16 rfl ?_
  refine ne_callV X nw_Tg (me_X1_ninesOf l hl c q t b k n h x y T (by exact ⟨Ic, Iq, It, Ib, Itb, Ik, In, Ih, Ix, Iy⟩) (by omega) _ _ (by omega) (by omega)) nw_yX1_ninesOf nw_mX1_186 nw_iX1_ninesOf nw_eX1_ninesOf (ci := 3) rfl rfl rfl dX1_nines_17 rfl rfl (by decide) (by decide) (by first | decide | omega) (by first | decide | omega) (Nat.le_of_ble_eq_true rfl) rfl rfl (Nat.le_of_ble_eq_true rfl) ?_ ?_
  rotate_left
  · rintro E9 w9 h9; exact h9.elim
  rintro v17 w17 ⟨x17, y17, rfl, Ix, Iy, z17, rfl, g17, k17⟩
  exact ne_iret X hr (by first | rfl | decide | rfl) dX1_nines_20 ⟨⟨_, _, rfl, Ic, Iq, It, Ib, Itb, Ik, In, ne_rg_mono Ih (by omega) (by omega), Ix, Iy⟩, _, rfl, trivial⟩
set_option maxRecDepth 100000 in
set_option maxHeartbeats 4000000 in
theorem me_X1_isSound (l : Launch) (hl : l.stackTraces = false) (c q t b k n h x y : Nat → Int) (T : Int) (hI : cI c q t b k n h x y T) (hT : 0 ≤ T ∧ T ≤ 1000000)  : ne_M l nw_cl (.code yX1_isSound cX1_isSound 2 (some .boolean)) nw_T yX1_isSound 6 260 0 0 [.ref 0] (cW c q t b k n h x y) (fun v w => ∃ x1 y1, w = cW c q t b k n h x1 y1 ∧ ne_rg x1 0 9 ∧ ne_rg y1 0 9 ∧ ∃ z : Int, v = some (ni z) ∧ 0 ≤ z ∧ z ≤ 1) (fun _ _ => False) := by
  refine ne_meet (own := RX1) hl rfl (by decide +kernel) (Nat.le_of_ble_eq_true rfl) ?_
  intro D ct A P9 V9 R9 S9 M9 as9 bl9 mt9 C9 ad0 X hr hin ht
  obtain ⟨Ic, Iq, It, Ib, Itb, Ik, In, Ih, Ix, Iy⟩ := hI
  have lp44 : ∀ (n9 : Nat) (x1 y1 : Nat → Int) (j : Int), (3 - j).toNat < n9 → (0 ≤ j) → (j ≤ 3) → (ne_rg x1 0 9) → (ne_rg y1 0 9) → ne_G nw_cl D ct A 12 ad0 P9 l V9 R9 S9 M9 as9 bl9 mt9 C9 (ne_O nw_cl D ct ad0 12 A bl9 as9 S9 0 0 (fun v w => ∃ x1 y1, w = cW c q t b k n h x1 y1 ∧ ne_rg x1 0 9 ∧ ne_rg y1 0 9 ∧ ∃ z : Int, v = some (ni z) ∧ 0 ≤ z ∧ z ≤ 1) (fun _ _ => False)) 2 0 0 0 0 44 [some (.ref 0), some (ni j)] [] (cW c q t b k n h x1 y1) := by
    intro n9
    induction n9 with
    | zero => intro x1 y1 j hm9 q1 q2 Ix Iy; exfalso; omega
    | succ n9 ih =>
      intro x1 y1 j hm9 q1 q2 Ix Iy
      refine ne_iload_n X dX1_isSound_44 rfl ?_
      refine ne_iconst X dX1_isSound_45 ?_
      refine ne_icmp_ge (tgt := 81) X dX1_isSound_46 rfl (by omega) (by omega) (fun b46 => ?_) (fun b46 => ?_)
      · refine ne_iconst X dX1_isSound_81 ?_
        exact ne_iret X hr (by first | rfl | decide | rfl) dX1_isSound_82 ⟨_, _, rfl, Ix, Iy, _, rfl, by omega⟩
      · refine ne_aload_n X dX1_isSound_49 rfl ?_
        refine ne_iload_n X dX1_isSound_50 rfl ?_
        refine ne_callV X nw_Tg (me_X1_isLengthSound l hl c q t b k n h x1 y1 T (by exact ⟨Ic, Iq, It, Ib, Itb, Ik, In, Ih, Ix, Iy⟩) (by omega) _ (by omega)) nw_yX1_isLengthSound nw_mX1_206 nw_iX1_isLengthSound nw_eX1_isLengthSound (ci := 3) rfl rfl rfl dX1_isSound_51 rfl rfl (by decide) (by decide) (by first | decide | omega) (by first | decide | omega) (Nat.le_of_ble_eq_true rfl) rfl rfl (Nat.le_of_ble_eq_true rfl) ?_ ?_
        rotate_left
        · rintro E9 w9 h9; exact h9.elim
        rintro v51 w51 ⟨rfl, z51, rfl, g51, k51⟩
        refine ne_if_eq (tgt := 73) X dX1_isSound_54 rfl (by omega) (fun b54 => ?_) (fun b54 => ?_)
        · refine ne_iconst X dX1_isSound_73 ?_
          exact ne_iret X hr (by first | rfl | decide | rfl) dX1_isSound_74 ⟨_, _, rfl, Ix, Iy, _, rfl, by omega⟩
        · refine ne_aload_n X dX1_isSound_57 rfl ?_
          refine ne_iload_n X dX1_isSound_58 rfl ?_
          refine ne_callV X nw_Tg (me_X1_isProductSound l hl c q t b k n h x1 y1 T (by exact ⟨Ic, Iq, It, Ib, Itb, Ik, In, Ih, Ix, Iy⟩) (by omega) _ (by omega)) nw_yX1_isProductSound nw_mX1_209 nw_iX1_isProductSound nw_eX1_isProductSound (ci := 3) rfl rfl rfl dX1_isSound_59 rfl rfl (by decide) (by decide) (by first | decide | omega) (by first | decide | omega) (Nat.le_of_ble_eq_true rfl) rfl rfl (Nat.le_of_ble_eq_true rfl) ?_ ?_
          rotate_left
          · rintro E9 w9 h9; exact h9.elim
          rintro v59 w59 ⟨x59, y59, rfl, Ix, Iy, z59, rfl, g59, k59⟩
          refine ne_if_eq (tgt := 73) X dX1_isSound_62 rfl (by omega) (fun b62 => ?_) (fun b62 => ?_)
          · refine ne_iconst X dX1_isSound_73 ?_
            exact ne_iret X hr (by first | rfl | decide | rfl) dX1_isSound_74 ⟨_, _, rfl, Ix, Iy, _, rfl, by omega⟩
          · refine ne_aload_n X dX1_isSound_65 rfl ?_
            refine ne_iload_n X dX1_isSound_66 rfl ?_
            refine ne_callV X nw_Tg (me_X1_isCutSound l hl c q t b k n h x59 y59 T (by exact ⟨Ic, Iq, It, Ib, Itb, Ik, In, Ih, Ix, Iy⟩) (by omega) _ (by omega)) nw_yX1_isCutSound nw_mX1_212 nw_iX1_isCutSound nw_eX1_isCutSound (ci := 3) rfl rfl rfl dX1_isSound_67 rfl rfl (by decide) (by decide) (by first | decide | omega) (by first | decide | omega) (Nat.le_of_ble_eq_true rfl) rfl rfl (Nat.le_of_ble_eq_true rfl) ?_ ?_
            rotate_left
            · rintro E9 w9 h9; exact h9.elim
            rintro v67 w67 ⟨rfl, z67, rfl, g67, k67⟩
            refine ne_if_ne (tgt := 75) X dX1_isSound_70 rfl (by omega) (fun b70 => ?_) (fun b70 => ?_)
            · refine ne_iinc X dX1_isSound_75 rfl (by decide) ?_
              refine ne_goto (tgt := 44) X dX1_isSound_78 rfl ?_
              exact ih _ _ _ (by omega) (by omega) (by omega) Ix Iy
            · refine ne_iconst X dX1_isSound_73 ?_
              exact ne_iret X hr (by first | rfl | decide | rfl) dX1_isSound_74 ⟨_, _, rfl, Ix, Iy, _, rfl, by omega⟩
  have lp2 : ∀ (n9 : Nat) (j : Int), (4 - j).toNat < n9 → (0 ≤ j) → (j ≤ 4) → ne_G nw_cl D ct A 12 ad0 P9 l V9 R9 S9 M9 as9 bl9 mt9 C9 (ne_O nw_cl D ct ad0 12 A bl9 as9 S9 0 0 (fun v w => ∃ x1 y1, w = cW c q t b k n h x1 y1 ∧ ne_rg x1 0 9 ∧ ne_rg y1 0 9 ∧ ∃ z : Int, v = some (ni z) ∧ 0 ≤ z ∧ z ≤ 1) (fun _ _ => False)) 2 0 0 0 0 2 [some (.ref 0), some (ni j)] [] (cW c q t b k n h x y) := by
    intro n9
    induction n9 with
    | zero => intro j hm9 q1 q2; exfalso; omega
    | succ n9 ih =>
      intro j hm9 q1 q2
      refine ne_iload_n X dX1_isSound_2 rfl ?_
      refine ne_iconst X dX1_isSound_3 ?_
      refine ne_icmp_ge (tgt := 42) X dX1_isSound_4 rfl (by omega) (by omega) (fun b4 => ?_) (fun b4 => ?_)
      · refine ne_iconst X dX1_isSound_42 ?_
        refine ne_istore_n X dX1_isSound_43 rfl (by decide) ?_
        exact lp44 _ _ _ 0 (Nat.lt_succ_self _) (by omega) (by omega) Ix Iy
      · refine ne_aload_n X dX1_isSound_7 rfl ?_
        refine ne_getf X dX1_isSound_8 nw_fX1_9 rfl rfl ?_
        refine ne_iload_n X dX1_isSound_11 rfl ?_
        refine ne_ialdR X dX1_isSound_12 rfl (by omega) Ic (fun v12 e12 f12 u12 => ?_)
        refine ne_i2l (by omega) X dX1_isSound_13 ?_
        refine ne_aload_n X dX1_isSound_14 rfl ?_
        refine ne_getf X dX1_isSound_15 nw_fX1_13 rfl rfl ?_
        refine ne_iload_n X dX1_isSound_18 rfl ?_
        refine ne_ialdR X dX1_isSound_19 rfl (by omega) Iq (fun v19 e19 f19 u19 => ?_)
        refine ne_callS X nw_Tg (me_X1_fits l hl _ _ _ (by omega) (by omega)) nw_yX1_fits nw_mX1_198 nw_sX1_fits dX1_isSound_20 rfl rfl (by decide) (by decide) (by first | decide | omega) (by first | decide | omega) (Nat.le_of_ble_eq_true rfl) rfl rfl (Nat.le_of_ble_eq_true rfl) ?_ ?_
        rotate_left
        · rintro E9 w9 h9; exact h9.elim
        rintro v20 w20 ⟨rfl, z20, rfl, g20⟩
        refine ne_if_eq (tgt := 34) X dX1_isSound_23 rfl (by omega) (fun b23 => ?_) (fun b23 => ?_)
        · refine ne_iconst X dX1_isSound_34 ?_
          exact ne_iret X hr (by first | rfl | decide | rfl) dX1_isSound_35 ⟨_, _, rfl, Ix, Iy, _, rfl, by omega⟩
        · refine ne_aload_n X dX1_isSound_26 rfl ?_
          refine ne_iload_n X dX1_isSound_27 rfl ?_
          refine ne_callV X nw_Tg (me_X1_isCellSoundWithAll l hl c q t b k n h x y T (by exact ⟨Ic, Iq, It, Ib, Itb, Ik, In, Ih, Ix, Iy⟩) (by omega) _ (by omega)) nw_yX1_isCellSoundWithAll nw_mX1_202 nw_iX1_isCellSoundWithAll nw_eX1_isCellSoundWithAll (ci := 3) rfl rfl rfl dX1_isSound_28 rfl rfl (by decide) (by decide) (by first | decide | omega) (by first | decide | omega) (Nat.le_of_ble_eq_true rfl) rfl rfl (Nat.le_of_ble_eq_true rfl) ?_ ?_
          rotate_left
          · rintro E9 w9 h9; exact h9.elim
          rintro v28 w28 ⟨rfl, z28, rfl, g28, k28⟩
          refine ne_if_ne (tgt := 36) X dX1_isSound_31 rfl (by omega) (fun b31 => ?_) (fun b31 => ?_)
          · refine ne_iinc X dX1_isSound_36 rfl (by decide) ?_
            refine ne_goto (tgt := 2) X dX1_isSound_39 rfl ?_
            exact ih _ (by omega) (by omega) (by omega)
          · refine ne_iconst X dX1_isSound_34 ?_
            exact ne_iret X hr (by first | rfl | decide | rfl) dX1_isSound_35 ⟨_, _, rfl, Ix, Iy, _, rfl, by omega⟩
  refine ne_iconst X dX1_isSound_0 ?_
  refine ne_istore_n X dX1_isSound_1 rfl (by decide) ?_
  exact lp2 _ 0 (Nat.lt_succ_self _) (by omega) (by omega)
set_option maxRecDepth 100000 in
set_option maxHeartbeats 4000000 in
theorem me_X1_digest (l : Launch) (hl : l.stackTraces = false) (c q t b k n h x y : Nat → Int) (T : Int) (hI : cI c q t b k n h x y T) (hT : 0 ≤ T ∧ T ≤ 1000000)  : ne_M l nw_cl (.code yX1_digest cX1_digest 4 (some .long)) nw_T yX1_digest 8 300 0 0 [.ref 0] (cW c q t b k n h x y) (fun v w => ∃ x1 y1, w = cW c q t b k n h x1 y1 ∧ ne_rg x1 0 9 ∧ ne_rg y1 0 9 ∧ ∃ z : Int, v = some (nl z) ∧ True) (fun _ _ => False) := by
  refine ne_meet (own := RX1) hl rfl (by decide +kernel) (Nat.le_of_ble_eq_true rfl) ?_
  intro D ct A P9 V9 R9 S9 M9 as9 bl9 mt9 C9 ad0 X hr hin ht
  obtain ⟨Ic, Iq, It, Ib, Itb, Ik, In, Ih, Ix, Iy⟩ := hI
  have lp16 : ∀ (n9 : Nat) (x1 y1 : Nat → Int) (r j : Int), (4 - j).toNat < n9 → (0 ≤ j) → (j ≤ 4) → (ne_rg x1 0 9) → (ne_rg y1 0 9) → ne_G nw_cl D ct A 12 ad0 P9 l V9 R9 S9 M9 as9 bl9 mt9 C9 (ne_O nw_cl D ct ad0 12 A bl9 as9 S9 0 0 (fun v w => ∃ x1 y1, w = cW c q t b k n h x1 y1 ∧ ne_rg x1 0 9 ∧ ne_rg y1 0 9 ∧ ∃ z : Int, v = some (nl z) ∧ True) (fun _ _ => False)) 4 0 0 0 0 16 [some (.ref 0), some (nl r), none, some (ni j)] [] (cW c q t b k n h x1 y1) := by
    intro n9
    induction n9 with
    | zero => intro x1 y1 r j hm9 q1 q2 Ix Iy; exfalso; omega
    | succ n9 ih =>
      intro x1 y1 r j hm9 q1 q2 Ix Iy
      refine ne_iload_n X dX1_digest_16 rfl ?_
      refine ne_iconst X dX1_digest_17 ?_
      refine ne_icmp_ge (tgt := 39) X dX1_digest_18 rfl (by omega) (by omega) (fun b18 => ?_) (fun b18 => ?_)
      · refine ne_lload_n X dX1_digest_39 rfl ?_
        refine ne_aload_n X dX1_digest_40 rfl ?_
        refine ne_callV X nw_Tg (me_X1_isSound l hl c q t b k n h x1 y1 T (by exact ⟨Ic, Iq, It, Ib, Itb, Ik, In, Ih, Ix, Iy⟩) (by omega) ) nw_yX1_isSound nw_mX1_228 nw_iX1_isSound nw_eX1_isSound (ci := 3) rfl rfl rfl dX1_digest_41 rfl rfl (by decide) (by decide) (by first | decide | omega) (by first | decide | omega) (Nat.le_of_ble_eq_true rfl) rfl rfl (Nat.le_of_ble_eq_true rfl) ?_ ?_
        rotate_left
        · rintro E9 w9 h9; exact h9.elim
        rintro v41 w41 ⟨x41, y41, rfl, Ix, Iy, z41, rfl, g41, k41⟩
        refine ne_if_eq (tgt := 51) X dX1_digest_44 rfl (by omega) (fun b44 => ?_) (fun b44 => ?_)
        · refine ne_lconst (z := 0) (by decide) X dX1_digest_51 ?_
          refine ne_callS X nw_Tg (me_X1_joined l hl _ _ _) nw_yX1_joined nw_mX1_224 nw_sX1_joined dX1_digest_52 rfl rfl (by decide) (by decide) (by first | decide | omega) (by first | decide | omega) (Nat.le_of_ble_eq_true rfl) rfl rfl (Nat.le_of_ble_eq_true rfl) ?_ ?_
          rotate_left
          · rintro E9 w9 h9; exact h9.elim
          rintro v52 w52 ⟨rfl, z52, rfl, g52⟩
          exact ne_lret X hr dX1_digest_55 ⟨_, _, rfl, Ix, Iy, _, rfl, trivial⟩
        · refine ne_lconst (z := 1) (by decide) X dX1_digest_47 ?_
          refine ne_goto (tgt := 52) X dX1_digest_48 rfl ?_
          refine ne_callS X nw_Tg (me_X1_joined l hl _ _ _) nw_yX1_joined nw_mX1_224 nw_sX1_joined dX1_digest_52 rfl rfl (by decide) (by decide) (by first | decide | omega) (by first | decide | omega) (Nat.le_of_ble_eq_true rfl) rfl rfl (Nat.le_of_ble_eq_true rfl) ?_ ?_
          rotate_left
          · rintro E9 w9 h9; exact h9.elim
          rintro v52 w52 ⟨rfl, z52, rfl, g52⟩
          exact ne_lret X hr dX1_digest_55 ⟨_, _, rfl, Ix, Iy, _, rfl, trivial⟩
      · refine ne_lload_n X dX1_digest_21 rfl ?_
        refine ne_aload_n X dX1_digest_22 rfl ?_
        refine ne_getf X dX1_digest_23 nw_fX1_28 rfl rfl ?_
        refine ne_iload_n X dX1_digest_26 rfl ?_
        refine ne_ialdR X dX1_digest_27 rfl (by omega) Ih (fun v27 e27 f27 u27 => ?_)
        refine ne_i2l (by omega) X dX1_digest_28 ?_
        refine ne_callS X nw_Tg (me_X1_joined l hl _ _ _) nw_yX1_joined nw_mX1_224 nw_sX1_joined dX1_digest_29 rfl rfl (by decide) (by decide) (by first | decide | omega) (by first | decide | omega) (Nat.le_of_ble_eq_true rfl) rfl rfl (Nat.le_of_ble_eq_true rfl) ?_ ?_
        rotate_left
        · rintro E9 w9 h9; exact h9.elim
        rintro v29 w29 ⟨rfl, z29, rfl, g29⟩
        refine ne_lstore_n X dX1_digest_32 rfl (by decide) ?_
        refine ne_iinc X dX1_digest_33 rfl (by decide) ?_
        refine ne_ll (L' := [some (.ref 0), some (nl _), none, some (ni _)]) rfl ?_
        refine ne_goto (tgt := 16) X dX1_digest_36 rfl ?_
        exact ih _ _ _ _ (by omega) (by omega) (by omega) Ix Iy
  refine ne_aload_n X dX1_digest_0 rfl ?_
  refine ne_ldc2 (z := 7944) (by decide) nw_cX1_215 X dX1_digest_1 ?_
  refine ne_callV X nw_Tg (me_X1_digestOfCells l hl c q t b k n h x y T (by exact ⟨Ic, Iq, It, Ib, Itb, Ik, In, Ih, Ix, Iy⟩) (by omega) _) nw_yX1_digestOfCells nw_mX1_217 nw_iX1_digestOfCells nw_eX1_digestOfCells (ci := 3) rfl rfl rfl dX1_digest_4 rfl rfl (by decide) (by decide) (by first | decide | omega) (by first | decide | omega) (Nat.le_of_ble_eq_true rfl) rfl rfl (Nat.le_of_ble_eq_true rfl) ?_ ?_
  rotate_left
  · rintro E9 w9 h9; exact h9.elim
  rintro v4 w4 ⟨rfl, z4, rfl, g4⟩
  refine ne_lstore_n X dX1_digest_7 rfl (by decide) ?_
  refine ne_aload_n X dX1_digest_8 rfl ?_
  refine ne_lload_n X dX1_digest_9 rfl ?_
  refine ne_callV X nw_Tg (me_X1_digestOfWheels l hl c q t b k n h x y T (by exact ⟨Ic, Iq, It, Ib, Itb, Ik, In, Ih, Ix, Iy⟩) (by omega) _) nw_yX1_digestOfWheels nw_mX1_221 nw_iX1_digestOfWheels nw_eX1_digestOfWheels (ci := 3) rfl rfl rfl dX1_digest_10 rfl rfl (by decide) (by decide) (by first | decide | omega) (by first | decide | omega) (Nat.le_of_ble_eq_true rfl) rfl rfl (Nat.le_of_ble_eq_true rfl) ?_ ?_
  rotate_left
  · rintro E9 w9 h9; exact h9.elim
  rintro v10 w10 ⟨x10, y10, rfl, Ix, Iy, z10, rfl, g10⟩
  refine ne_lstore_n X dX1_digest_13 rfl (by decide) ?_
  refine ne_ll (L' := [some (.ref 0), some (nl _), none, none]) rfl ?_
  refine ne_iconst X dX1_digest_14 ?_
  refine ne_istore_n X dX1_digest_15 rfl (by decide) ?_
  exact lp16 _ _ _ _ 0 (Nat.lt_succ_self _) (by omega) (by omega) Ix Iy
