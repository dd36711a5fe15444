/-- a StringBuilder's two cells: cnt characters in n places -/
abbrev sB (cnt : Int) (n : Nat) (f : Nat → Int) : ne_W := [some (.inr (1, [.ref 1, ni 0, ni 0, ni cnt])), some (.inl (1, n, f))]
theorem sB_z : ne_rg (fun _ => 0) (-128) 127 := fun _ => by show (-128 : Int) ≤ 0 ∧ (0 : Int) ≤ 127; omega
set_option maxRecDepth 100000 in
set_option maxHeartbeats 4000000 in
theorem me_J5_init_d00df (l : Launch) (hl : l.stackTraces = false) (z : Int) (hz : 0 ≤ z ∧ z ≤ 400) : ne_M l nw_cl (.code yJ5_init_d00df cJ5_init_d00df 2 (none)) nw_T yJ5_init_d00df 3 90 1 z.toNat [.ref 0, ni z] [some (.inr (1, [.null, ni 0, ni 0, ni 0]))] (fun v w => v = none ∧ w = sB 0 z.toNat (fun _ => 0)) (fun _ _ => False) := by
  refine ne_meet (own := RJ5) hl rfl (by decide +kernel) (Nat.le_of_ble_eq_true rfl) ?_
  intro D ct A P9 V9 R9 S9 M9 as9 bl9 mt9 C9 ad0 X hr hin ht
  refine ne_aload_n X dJ5_init_d00df_0 rfl ?_
  refine ne_objInit X dJ5_init_d00df_1 nw_mJ5_3 nw_Oi nw_Ok (by decide) (Nat.le_of_ble_eq_true rfl) ?_
  refine ne_compact X dJ5_init_d00df_4 nw_lJ5_18 ?_
  refine ne_if_eq (tgt := 25) X dJ5_init_d00df_7 rfl (by omega) (fun b7 => ?_) (fun b7 => ?_)
  · exfalso; omega
  · refine ne_aload_n X dJ5_init_d00df_10 rfl ?_
    refine ne_iload_n X dJ5_init_d00df_11 rfl ?_
    refine ne_newa (t := 1) X dJ5_init_d00df_12 (Or.inr ⟨rfl, rfl⟩) nw_Abyte (by omega) (by decide) (Nat.le_refl _) (Nat.le_of_ble_eq_true rfl) rfl rfl rfl ?_
    refine ne_putf X dJ5_init_d00df_14 nw_fJ5_15 nw_p1_0 rfl (fun _ => rfl) (fun _ => rfl) (by first | decide | exact Nat.le_of_ble_eq_true rfl) ?_
    refine ne_aload_n X dJ5_init_d00df_17 rfl ?_
    refine ne_iconst X dJ5_init_d00df_18 ?_
    refine ne_putf X dJ5_init_d00df_19 nw_fJ5_22 nw_p1_1 rfl (fun _ => rfl) (fun _ => rfl) (by first | decide | exact Nat.le_of_ble_eq_true rfl) ?_
    refine ne_goto (tgt := 38) X dJ5_init_d00df_22 rfl ?_
    exact ne_vret X hr dJ5_init_d00df_38 ⟨rfl, rfl⟩
set_option maxRecDepth 100000 in
set_option maxHeartbeats 4000000 in
theorem me_J4_init_da8c8 (l : Launch) (hl : l.stackTraces = false)  : ne_M l nw_cl (.code yJ4_init_da8c8 cJ4_init_da8c8 1 (none)) nw_T yJ4_init_da8c8 4 140 1 (16 : Int).toNat [.ref 0] [some (.inr (1, [.null, ni 0, ni 0, ni 0]))] (fun v w => v = none ∧ w = sB 0 (16 : Int).toNat (fun _ => 0)) (fun _ _ => False) := by
  refine ne_meet (own := RJ4) hl rfl (by decide +kernel) (Nat.le_of_ble_eq_true rfl) ?_
  intro D ct A P9 V9 R9 S9 M9 as9 bl9 mt9 C9 ad0 X hr hin ht
  refine ne_aload_n X dJ4_init_da8c8_0 rfl ?_
  refine ne_bipush (v := 16) (by decide) X dJ4_init_da8c8_1 ?_
  refine ne_callI X nw_Tg (me_J5_init_d00df l hl 16 (by omega)) rfl nw_yJ5_init_d00df nw_mJ4_1 nw_iJ5_init_d00df rfl dJ4_init_da8c8_3 rfl rfl (by decide) (by decide) (by decide) (Nat.le_refl _) (Nat.le_of_ble_eq_true rfl) rfl rfl (Nat.le_of_ble_eq_true rfl) ?_ ?_
  rotate_left
  · rintro E9 w9 h9; exact h9.elim
  rintro v3 w3 ⟨rfl, rfl⟩
  exact ne_vret X hr dJ4_init_da8c8_6 ⟨rfl, rfl⟩
set_option maxRecDepth 100000 in
set_option maxHeartbeats 4000000 in
theorem me_J4_init_d00df (l : Launch) (hl : l.stackTraces = false) (z : Int) (hz : 0 ≤ z ∧ z ≤ 400) : ne_M l nw_cl (.code yJ4_init_d00df cJ4_init_d00df 2 (none)) nw_T yJ4_init_d00df 4 140 1 (z : Int).toNat [.ref 0, ni z] [some (.inr (1, [.null, ni 0, ni 0, ni 0]))] (fun v w => v = none ∧ w = sB 0 (z : Int).toNat (fun _ => 0)) (fun _ _ => False) := by
  refine ne_meet (own := RJ4) hl rfl (by decide +kernel) (Nat.le_of_ble_eq_true rfl) ?_
  intro D ct A P9 V9 R9 S9 M9 as9 bl9 mt9 C9 ad0 X hr hin ht
  refine ne_aload_n X dJ4_init_d00df_0 rfl ?_
  refine ne_iload_n X dJ4_init_d00df_1 rfl ?_
  refine ne_callI X nw_Tg (me_J5_init_d00df l hl z (by omega)) rfl nw_yJ5_init_d00df nw_mJ4_1 nw_iJ5_init_d00df rfl dJ4_init_d00df_2 rfl rfl (by decide) (by decide) (by decide) (Nat.le_refl _) (Nat.le_of_ble_eq_true rfl) rfl rfl (Nat.le_of_ble_eq_true rfl) ?_ ?_
  rotate_left
  · rintro E9 w9 h9; exact h9.elim
  rintro v2 w2 ⟨rfl, rfl⟩
  exact ne_vret X hr dJ4_init_d00df_5 ⟨rfl, rfl⟩
set_option maxRecDepth 100000 in
set_option maxHeartbeats 4000000 in
theorem me_J5_isLatin1_aae02 (l : Launch) (hl : l.stackTraces = false) (cnt : Int) (n : Nat) (f : Nat → Int) (hc : 0 ≤ cnt ∧ cnt ≤ n) (hn : n ≤ 500) (If : ne_rg f (-128) 127) : ne_MK l nw_cl (.code yJ5_isLatin1_aae02 cJ5_isLatin1_aae02 1 (some .boolean)) nw_T yJ5_isLatin1_aae02 2 60 0 0 2 [.ref 0] (sB cnt n f) (fun v w => v = some (ni 1) ∧ w = sB cnt n f) (fun _ _ => False) := by
  refine ne_meetK (own := RJ5) hl rfl (by decide +kernel) (Nat.le_of_ble_eq_true rfl) ?_
  intro D ct A P9 V9 R9 S9 M9 as9 bl9 mt9 C9 ad0 X hr hin ht
  refine ne_compact X dJ5_isLatin1_aae02_0 nw_lJ5_18 ?_
  refine ne_if_eq (tgt := 17) X dJ5_isLatin1_aae02_3 rfl (by omega) (fun b3 => ?_) (fun b3 => ?_)
  · exfalso; omega
  · refine ne_aload_n X dJ5_isLatin1_aae02_6 rfl ?_
    refine ne_getf X dJ5_isLatin1_aae02_7 nw_fJ5_22 rfl rfl ?_
    refine ne_if_ne (tgt := 17) X dJ5_isLatin1_aae02_10 rfl (by omega) (fun b10 => ?_) (fun b10 => ?_)
    · exfalso; omega
    · refine ne_iconst X dJ5_isLatin1_aae02_13 ?_
      refine ne_goto (tgt := 18) X dJ5_isLatin1_aae02_14 rfl ?_
      exact ne_iret X hr (by first | rfl | decide | rfl) dJ5_isLatin1_aae02_18 ⟨rfl, rfl⟩
set_option maxRecDepth 100000 in
set_option maxHeartbeats 4000000 in
theorem me_J5_getValue_6d5f1 (l : Launch) (hl : l.stackTraces = false) (cnt : Int) (n : Nat) (f : Nat → Int) (hc : 0 ≤ cnt ∧ cnt ≤ n) (hn : n ≤ 500) (If : ne_rg f (-128) 127) : ne_MK l nw_cl (.code yJ5_getValue_6d5f1 cJ5_getValue_6d5f1 1 (some (.array .byte))) nw_T yJ5_getValue_6d5f1 2 60 0 0 2 [.ref 0] (sB cnt n f) (fun v w => v = some (.ref 1) ∧ w = sB cnt n f) (fun _ _ => False) := by
  refine ne_meetK (own := RJ5) hl rfl (by decide +kernel) (Nat.le_of_ble_eq_true rfl) ?_
  intro D ct A P9 V9 R9 S9 M9 as9 bl9 mt9 C9 ad0 X hr hin ht
  refine ne_aload_n X dJ5_getValue_6d5f1_0 rfl ?_
  refine ne_getf X dJ5_getValue_6d5f1_1 nw_fJ5_15 rfl rfl ?_
  exact ne_aret X hr (by first | exact Or.inl ⟨_, rfl⟩ | exact Or.inr ⟨_, rfl⟩) dJ5_getValue_6d5f1_4 ⟨rfl, rfl⟩
set_option maxRecDepth 100000 in
set_option maxHeartbeats 4000000 in
theorem me_J5_length_8abf5 (l : Launch) (hl : l.stackTraces = false) (cnt : Int) (n : Nat) (f : Nat → Int) (hc : 0 ≤ cnt ∧ cnt ≤ n) (hn : n ≤ 500) (If : ne_rg f (-128) 127) : ne_MK l nw_cl (.code yJ5_length_8abf5 cJ5_length_8abf5 1 (some .int)) nw_T yJ5_length_8abf5 2 60 0 0 2 [.ref 0] (sB cnt n f) (fun v w => v = some (ni cnt) ∧ w = sB cnt n f) (fun _ _ => False) := by
  refine ne_meetK (own := RJ5) hl rfl (by decide +kernel) (Nat.le_of_ble_eq_true rfl) ?_
  intro D ct A P9 V9 R9 S9 M9 as9 bl9 mt9 C9 ad0 X hr hin ht
  refine ne_aload_n X dJ5_length_8abf5_0 rfl ?_
  refine ne_getf X dJ5_length_8abf5_1 nw_fJ5_79 rfl rfl ?_
  exact ne_iret X hr (by first | rfl | decide | rfl) dJ5_length_8abf5_4 ⟨rfl, rfl⟩
set_option maxRecDepth 100000 in
set_option maxHeartbeats 4000000 in
theorem me_J4_length_8abf5 (l : Launch) (hl : l.stackTraces = false) (cnt : Int) (n : Nat) (f : Nat → Int) (hc : 0 ≤ cnt ∧ cnt ≤ n) (hn : n ≤ 500) (If : ne_rg f (-128) 127) : ne_MK l nw_cl (.code yJ4_length_8abf5 cJ4_length_8abf5 1 (some .int)) nw_T yJ4_length_8abf5 4 120 0 0 2 [.ref 0] (sB cnt n f) (fun v w => v = some (ni cnt) ∧ w = sB cnt n f) (fun _ _ => False) := by
  refine ne_meetK (own := RJ4) hl rfl (by decide +kernel) (Nat.le_of_ble_eq_true rfl) ?_
  intro D ct A P9 V9 R9 S9 M9 as9 bl9 mt9 C9 ad0 X hr hin ht
  refine ne_aload_n X dJ4_length_8abf5_0 rfl ?_
  refine ne_callSUK (is := [0, 1]) (nk := 2) X nw_Tg (me_J5_length_8abf5 l hl cnt n f hc hn If) nw_yJ5_length_8abf5 nw_mJ4_343 nw_z_length nw_z_superSB nw_iJ5_length_8abf5 (by decide +kernel) (ci := 1) rfl rfl dJ4_length_8abf5_1 rfl rfl (by decide) (by decide) (by first | decide | omega) (by first | decide | omega) (Nat.le_of_ble_eq_true rfl) rfl rfl rfl rfl (Nat.le_of_ble_eq_true rfl) (ne_ptb rfl (by decide +kernel) rfl) ?_ ?_
  rotate_left
  · rintro E9 w9 h9; exact h9.elim
  rintro v1 w1 ⟨rfl, rfl⟩
  exact ne_iret X hr (by first | rfl | decide | rfl) dJ4_length_8abf5_4 ⟨rfl, rfl⟩
set_option maxRecDepth 100000 in
set_option maxHeartbeats 4000000 in
theorem me_J1_canEncode_fc78d (l : Launch) (hl : l.stackTraces = false) (ws : ne_W) (a : Int) (ha : 0 ≤ a ∧ a ≤ 127) : ne_M l nw_cl (.code yJ1_canEncode_fc78d cJ1_canEncode_fc78d 1 (some .boolean)) nw_T yJ1_canEncode_fc78d 2 60 0 0 [ni a] ws (fun v w => w = ws ∧ ∃ z : Int, v = some (ni z) ∧ z = 1) (fun _ _ => False) := by
  refine ne_meet (own := RJ1) hl rfl (by decide +kernel) (Nat.le_of_ble_eq_true rfl) ?_
  intro D ct A P9 V9 R9 S9 M9 as9 bl9 mt9 C9 ad0 X hr hin ht
  refine ne_iload_n X dJ1_canEncode_fc78d_0 rfl ?_
  refine ne_sipush (v := 255) (by decide) X dJ1_canEncode_fc78d_1 ?_
  refine ne_icmp_gt (tgt := 11) X dJ1_canEncode_fc78d_4 rfl (by omega) (by omega) (fun b4 => ?_) (fun b4 => ?_)
  · exfalso; omega
  · refine ne_iconst X dJ1_canEncode_fc78d_7 ?_
    refine ne_goto (tgt := 12) X dJ1_canEncode_fc78d_8 rfl ?_
    exact ne_iret X hr (by first | rfl | decide | rfl) dJ1_canEncode_fc78d_12 ⟨rfl, _, rfl, by omega⟩
set_option maxRecDepth 100000 in
set_option maxHeartbeats 4000000 in
theorem me_J8_newLength_cabcc (l : Launch) (hl : l.stackTraces = false) (ws : ne_W) (a b d : Int) (ha : 0 ≤ a ∧ a ≤ 1000) (hb : 0 ≤ b ∧ b ≤ d) (hd : 1 ≤ d ∧ d ≤ 1000) : ne_M l nw_cl (.code yJ8_newLength_cabcc cJ8_newLength_cabcc 4 (some .int)) nw_T yJ8_newLength_cabcc 2 60 0 0 [ni a, ni b, ni d] ws (fun v w => w = ws ∧ ∃ z : Int, v = some (ni z) ∧ z = a + d) (fun _ _ => False) := by
  refine ne_meet (own := RJ8) hl rfl (by decide +kernel) (Nat.le_of_ble_eq_true rfl) ?_
  intro D ct A P9 V9 R9 S9 M9 as9 bl9 mt9 C9 ad0 X hr hin ht
  refine ne_iload_n X dJ8_newLength_cabcc_0 rfl ?_
  refine ne_iload_n X dJ8_newLength_cabcc_1 rfl ?_
  refine ne_iload_n X dJ8_newLength_cabcc_2 rfl ?_
  refine ne_mmax X dJ8_newLength_cabcc_3 nw_mJ8_194 nw_Ms_max nw_Mi nw_Mc_max (by decide) (Nat.le_of_ble_eq_true rfl) (by omega) (by omega) ?_
  refine ne_topI (fun a3 e3 => ?_)
  have p3 : a3 = d := by rw [e3]; split <;> omega
  refine ne_iadd X dJ8_newLength_cabcc_6 ?_
  refine ne_istore_n X dJ8_newLength_cabcc_7 rfl (by decide) ?_
  refine ne_iconst X dJ8_newLength_cabcc_8 ?_
  refine ne_iload_n X dJ8_newLength_cabcc_9 rfl ?_
  refine ne_icmp_ge (tgt := 21) X dJ8_newLength_cabcc_10 rfl (by omega) (by omega) (fun b10 => ?_) (fun b10 => ?_)
  · exfalso; omega
  · refine ne_iload_n X dJ8_newLength_cabcc_13 rfl ?_
    refine ne_ldc (z := 2147483639) (by decide) nw_cJ8_200 X dJ8_newLength_cabcc_14 ?_
    refine ne_icmp_gt (tgt := 21) X dJ8_newLength_cabcc_16 rfl (by omega) (by omega) (fun b16 => ?_) (fun b16 => ?_)
    · exfalso; omega
    · refine ne_iload_n X dJ8_newLength_cabcc_19 rfl ?_
      exact ne_iret X hr (by first | rfl | decide | rfl) dJ8_newLength_cabcc_20 ⟨rfl, _, rfl, by omega⟩
set_option maxRecDepth 100000 in
set_option maxHeartbeats 4000000 in
theorem me_J5_newCapacity_0f7a4 (l : Launch) (hl : l.stackTraces = false) (cnt : Int) (n : Nat) (f : Nat → Int) (hc : 0 ≤ cnt ∧ cnt ≤ n) (hn : n ≤ 500) (If : ne_rg f (-128) 127) (hg : cnt = n) (a : Int) (ha : a = n + 1) : ne_MK l nw_cl (.code yJ5_newCapacity_0f7a4 cJ5_newCapacity_0f7a4 6 (some .int)) nw_T yJ5_newCapacity_0f7a4 4 160 0 0 2 [.ref 0, ni a] (sB cnt n f) (fun v w => v = some (ni (2 * n + 2)) ∧ w = sB cnt n f) (fun _ _ => False) := by
  refine ne_meetK (own := RJ5) hl rfl (by decide +kernel) (Nat.le_of_ble_eq_true rfl) ?_
  intro D ct A P9 V9 R9 S9 M9 as9 bl9 mt9 C9 ad0 X hr hin ht
  refine ne_aload_n X dJ5_newCapacity_0f7a4_0 rfl ?_
  refine ne_getf X dJ5_newCapacity_0f7a4_1 nw_fJ5_15 rfl rfl ?_
  refine ne_alen X dJ5_newCapacity_0f7a4_4 rfl (by decide) ?_
  refine ne_istore_n X dJ5_newCapacity_0f7a4_5 rfl (by decide) ?_
  refine ne_iload_n X dJ5_newCapacity_0f7a4_6 rfl ?_
  refine ne_aload_n X dJ5_newCapacity_0f7a4_7 rfl ?_
  refine ne_getf X dJ5_newCapacity_0f7a4_8 nw_fJ5_22 rfl rfl ?_
  refine ne_shl0 X dJ5_newCapacity_0f7a4_11 ?_
  refine ne_istore_n X dJ5_newCapacity_0f7a4_12 rfl (by decide) ?_
  refine ne_ll (L' := [some (.ref 0), some (ni _), some (ni _), some (ni _), none, none]) rfl ?_
  refine ne_iload_n X dJ5_newCapacity_0f7a4_13 rfl ?_
  refine ne_iload_n X dJ5_newCapacity_0f7a4_14 rfl ?_
  refine ne_isub X dJ5_newCapacity_0f7a4_15 ?_
  refine ne_istore X dJ5_newCapacity_0f7a4_16 (by decide) ?_
  refine ne_iload_n X dJ5_newCapacity_0f7a4_18 rfl ?_
  refine ne_iload X dJ5_newCapacity_0f7a4_19 rfl ?_
  refine ne_iload_n X dJ5_newCapacity_0f7a4_21 rfl ?_
  refine ne_iconst X dJ5_newCapacity_0f7a4_22 ?_
  refine ne_aload_n X dJ5_newCapacity_0f7a4_23 rfl ?_
  refine ne_getf X dJ5_newCapacity_0f7a4_24 nw_fJ5_22 rfl rfl ?_
  refine ne_shl0 X dJ5_newCapacity_0f7a4_27 ?_
  refine ne_iadd X dJ5_newCapacity_0f7a4_28 ?_
  refine ne_callS X nw_Tg (me_J8_newLength_cabcc l hl _ _ _ _ (by omega) (by omega) (by omega)) nw_yJ8_newLength_cabcc nw_mJ5_114 nw_sJ8_newLength_cabcc dJ5_newCapacity_0f7a4_29 rfl rfl (by decide) (by decide) (by first | decide | omega) (by first | decide | omega) (Nat.le_of_ble_eq_true rfl) rfl rfl (Nat.le_of_ble_eq_true rfl) ?_ ?_
  rotate_left
  · rintro E9 w9 h9; exact h9.elim
  rintro v29 w29 ⟨rfl, z29, rfl, g29⟩
  refine ne_istore X dJ5_newCapacity_0f7a4_32 (by decide) ?_
  refine ne_ll (L' := [some (.ref 0), some (ni _), some (ni _), some (ni _), some (ni _), some (ni _)]) rfl ?_
  refine ne_iload X dJ5_newCapacity_0f7a4_34 rfl ?_
  refine ne_ldc (z := 2147483647) (by decide) nw_cJ5_39 X dJ5_newCapacity_0f7a4_36 ?_
  refine ne_icmp_ne (tgt := 51) X dJ5_newCapacity_0f7a4_38 rfl (by omega) (by omega) (fun b38 => ?_) (fun b38 => ?_)
  · refine ne_iload X dJ5_newCapacity_0f7a4_51 rfl ?_
    refine ne_aload_n X dJ5_newCapacity_0f7a4_53 rfl ?_
    refine ne_getf X dJ5_newCapacity_0f7a4_54 nw_fJ5_22 rfl rfl ?_
    refine ne_shr0 X dJ5_newCapacity_0f7a4_57 ?_
    exact ne_iret X hr (by first | rfl | decide | rfl) dJ5_newCapacity_0f7a4_58 ⟨by rw [g29]; congr 3; omega, rfl⟩
  · exfalso; omega
set_option maxRecDepth 100000 in
set_option maxHeartbeats 4000000 in
theorem me_J7_copyOf_9075b (l : Launch) (hl : l.stackTraces = false) (n : Nat) (f : Nat → Int) (z : Int) (If : ne_rg f (-128) 127) (hn : n ≤ 500) (hz : n < z ∧ z ≤ 1200) : ne_M l nw_cl (.code yJ7_copyOf_9075b cJ7_copyOf_9075b 3 (some (.array .byte))) nw_T yJ7_copyOf_9075b 3 120 1 z.toNat [.ref 0, ni z] [some (.inl (1, n, f))] (fun v w => v = some (.ref 1) ∧ ∃ g, w = [some (.inl (1, n, f)), some (.inl (1, z.toNat, g))] ∧ ne_rg g (-128) 127) (fun _ _ => False) := by
  refine ne_meet (own := RJ7) hl rfl (by decide +kernel) (Nat.le_of_ble_eq_true rfl) ?_
  intro D ct A P9 V9 R9 S9 M9 as9 bl9 mt9 C9 ad0 X hr hin ht
  refine ne_iload_n X dJ7_copyOf_9075b_0 rfl ?_
  refine ne_aload_n X dJ7_copyOf_9075b_1 rfl ?_
  refine ne_alen X dJ7_copyOf_9075b_2 rfl (by decide) ?_
  refine ne_icmp_ne (tgt := 14) X dJ7_copyOf_9075b_3 rfl (by omega) (by omega) (fun b3 => ?_) (fun b3 => ?_)
  · refine ne_iload_n X dJ7_copyOf_9075b_14 rfl ?_
    refine ne_newa (t := 1) X dJ7_copyOf_9075b_15 (Or.inr ⟨rfl, rfl⟩) nw_Abyte (by omega) (by decide) (Nat.le_refl _) (Nat.le_of_ble_eq_true rfl) rfl rfl rfl ?_
    refine ne_astore_n X dJ7_copyOf_9075b_17 rfl (by decide) ?_
    refine ne_aload_n X dJ7_copyOf_9075b_18 rfl ?_
    refine ne_iconst X dJ7_copyOf_9075b_19 ?_
    refine ne_aload_n X dJ7_copyOf_9075b_20 rfl ?_
    refine ne_iconst X dJ7_copyOf_9075b_21 ?_
    refine ne_aload_n X dJ7_copyOf_9075b_22 rfl ?_
    refine ne_alen X dJ7_copyOf_9075b_23 rfl (by decide) ?_
    refine ne_iload_n X dJ7_copyOf_9075b_24 rfl ?_
    refine ne_mmin X dJ7_copyOf_9075b_25 nw_mJ7_304 nw_Ms_min nw_Mi nw_Mc_min (by decide) (Nat.le_of_ble_eq_true rfl) (by omega) (by omega) ?_
    refine ne_topI (fun m25 e25 => ?_)
    have p25 : m25 = n := by rw [e25]; split <;> omega
    refine ne_acpB X dJ7_copyOf_9075b_28 nw_ac1 nw_ac2 nw_ac3 nw_ac4 rfl rfl (If) (sB_z) (by omega) (by omega) (by omega) (by omega) (by omega) (by decide) (Nat.le_of_ble_eq_true rfl) (fun g28 r28 e28 => ?_)
    refine ne_aload_n X dJ7_copyOf_9075b_31 rfl ?_
    exact ne_aret X hr (by first | exact Or.inl ⟨_, rfl⟩ | exact Or.inr ⟨_, rfl⟩) dJ7_copyOf_9075b_32 ⟨rfl, g28, rfl, r28⟩
  · exfalso; omega
set_option maxRecDepth 100000 in
set_option maxHeartbeats 4000000 in
theorem me_J5_ensG (l : Launch) (hl : l.stackTraces = false) (cnt : Int) (n : Nat) (f : Nat → Int) (hc : 0 ≤ cnt ∧ cnt ≤ n) (hn : n ≤ 500) (If : ne_rg f (-128) 127) (hg : cnt = n) (hn2 : n ≤ 250) (a : Int) (ha : a = n + 1) : ne_MK l nw_cl (.code yJ5_ensureCapacityInternal_d00df cJ5_ensureCapacityInternal_d00df 3 (none)) nw_T yJ5_ensureCapacityInternal_d00df 5 240 1 (2 * n + 2) 1 [.ref 0, ni a] (sB cnt n f) (fun v w => v = none ∧ ∃ g, w = sB cnt (2 * n + 2) g ∧ ne_rg g (-128) 127) (fun _ _ => False) := by
  refine ne_meetK (own := RJ5) hl rfl (by decide +kernel) (Nat.le_of_ble_eq_true rfl) ?_
  intro D ct A P9 V9 R9 S9 M9 as9 bl9 mt9 C9 ad0 X hr hin ht
  refine ne_aload_n X dJ5_ensureCapacityInternal_d00df_0 rfl ?_
  refine ne_getf X dJ5_ensureCapacityInternal_d00df_1 nw_fJ5_15 rfl rfl ?_
  refine ne_alen X dJ5_ensureCapacityInternal_d00df_4 rfl (by decide) ?_
  refine ne_aload_n X dJ5_ensureCapacityInternal_d00df_5 rfl ?_
  refine ne_getf X dJ5_ensureCapacityInternal_d00df_6 nw_fJ5_22 rfl rfl ?_
  refine ne_shr0 X dJ5_ensureCapacityInternal_d00df_9 ?_
  refine ne_istore_n X dJ5_ensureCapacityInternal_d00df_10 rfl (by decide) ?_
  refine ne_iload_n X dJ5_ensureCapacityInternal_d00df_11 rfl ?_
  refine ne_iload_n X dJ5_ensureCapacityInternal_d00df_12 rfl ?_
  refine ne_isub X dJ5_ensureCapacityInternal_d00df_13 ?_
  refine ne_if_le (tgt := 38) X dJ5_ensureCapacityInternal_d00df_14 rfl (by omega) (fun b14 => ?_) (fun b14 => ?_)
  · exfalso; omega
  · refine ne_aload_n X dJ5_ensureCapacityInternal_d00df_17 rfl ?_
    refine ne_aload_n X dJ5_ensureCapacityInternal_d00df_18 rfl ?_
    refine ne_getf X dJ5_ensureCapacityInternal_d00df_19 nw_fJ5_15 rfl rfl ?_
    refine ne_aload_n X dJ5_ensureCapacityInternal_d00df_22 rfl ?_
    refine ne_iload_n X dJ5_ensureCapacityInternal_d00df_23 rfl ?_
    refine ne_callUK (x := yJ5_newCapacity_0f7a4) (is := [0, 1]) (nk := 2) X nw_Tg (me_J5_newCapacity_0f7a4 l hl cnt n f hc (by omega) If hg a ha) nw_yJ5_newCapacity_0f7a4 rfl (by decide +kernel) nw_mJ5_104 nw_z_newCapacity (fun h9 => h9 _ nw_v_newCapacity) nw_iJ5_newCapacity_0f7a4 nw_iJ5_newCapacity_0f7a4 nw_kJ5_newCapacity_0f7a4 (ci := 1) rfl rfl dJ5_ensureCapacityInternal_d00df_24 rfl rfl (by decide) (by decide) (by first | decide | omega) (by first | decide | omega) (Nat.le_of_ble_eq_true rfl) rfl rfl rfl rfl (Nat.le_of_ble_eq_true rfl) (ne_ptb rfl (by decide +kernel) rfl) ?_ ?_
    rotate_left
    · rintro E9 w9 h9; exact h9.elim
    rintro v24 w24 ⟨rfl, rfl⟩
    refine ne_aload_n X dJ5_ensureCapacityInternal_d00df_27 rfl ?_
    refine ne_getf X dJ5_ensureCapacityInternal_d00df_28 nw_fJ5_22 rfl rfl ?_
    refine ne_shl0 X dJ5_ensureCapacityInternal_d00df_31 ?_
    refine ne_callSF (is := [1]) X nw_Tg (me_J7_copyOf_9075b l hl n f (2 * n + 2) If (by omega) (by omega)) nw_yJ7_copyOf_9075b nw_mJ5_108 nw_sJ7_copyOf_9075b dJ5_ensureCapacityInternal_d00df_32 rfl rfl (by decide) (by decide) (by decide) (by omega) (Nat.le_of_ble_eq_true rfl) rfl rfl rfl (Nat.le_of_ble_eq_true rfl) (ne_ptb rfl (by decide +kernel) rfl) ?_ ?_
    rotate_left
    · rintro E9 w9 h9; exact h9.elim
    rintro v32 w32 ⟨rfl, g32, rfl, r32⟩
    refine ne_putf X dJ5_ensureCapacityInternal_d00df_35 nw_fJ5_15 nw_p1_0 rfl (fun _ => rfl) (fun _ => rfl) (by first | decide | exact Nat.le_of_ble_eq_true rfl) ?_
    refine ne_viewb [0, 2] (ws' := sB cnt (2 * (n : Int) + 2).toNat g32) (L' := [some (.ref 0), some (ni a), some (ni n)]) (st' := []) rfl (by decide) rfl rfl rfl rfl ?_
    rw [show (2 * (n : Int) + 2).toNat = 2 * n + 2 by omega]
    exact ne_vret X hr dJ5_ensureCapacityInternal_d00df_38 ⟨rfl, g32, rfl, r32⟩
set_option maxRecDepth 100000 in
set_option maxHeartbeats 4000000 in
theorem me_J5_ensI (l : Launch) (hl : l.stackTraces = false) (cnt : Int) (n : Nat) (f : Nat → Int) (hc : 0 ≤ cnt ∧ cnt ≤ n) (hn : n ≤ 500) (If : ne_rg f (-128) 127) (a : Int) (ha : 0 ≤ a ∧ a ≤ n) : ne_MK l nw_cl (.code yJ5_ensureCapacityInternal_d00df cJ5_ensureCapacityInternal_d00df 3 (none)) nw_T yJ5_ensureCapacityInternal_d00df 5 240 0 0 2 [.ref 0, ni a] (sB cnt n f) (fun v w => v = none ∧ w = sB cnt n f) (fun _ _ => False) := by
  refine ne_meetK (own := RJ5) hl rfl (by decide +kernel) (Nat.le_of_ble_eq_true rfl) ?_
  intro D ct A P9 V9 R9 S9 M9 as9 bl9 mt9 C9 ad0 X hr hin ht
  refine ne_aload_n X dJ5_ensureCapacityInternal_d00df_0 rfl ?_
  refine ne_getf X dJ5_ensureCapacityInternal_d00df_1 nw_fJ5_15 rfl rfl ?_
  refine ne_alen X dJ5_ensureCapacityInternal_d00df_4 rfl (by decide) ?_
  refine ne_aload_n X dJ5_ensureCapacityInternal_d00df_5 rfl ?_
  refine ne_getf X dJ5_ensureCapacityInternal_d00df_6 nw_fJ5_22 rfl rfl ?_
  refine ne_shr0 X dJ5_ensureCapacityInternal_d00df_9 ?_
  refine ne_istore_n X dJ5_ensureCapacityInternal_d00df_10 rfl (by decide) ?_
  refine ne_iload_n X dJ5_ensureCapacityInternal_d00df_11 rfl ?_
  refine ne_iload_n X dJ5_ensureCapacityInternal_d00df_12 rfl ?_
  refine ne_isub X dJ5_ensureCapacityInternal_d00df_13 ?_
  refine ne_if_le (tgt := 38) X dJ5_ensureCapacityInternal_d00df_14 rfl (by omega) (fun b14 => ?_) (fun b14 => ?_)
  · exact ne_vret X hr dJ5_ensureCapacityInternal_d00df_38 ⟨rfl, rfl⟩
  · exfalso; omega
set_option maxRecDepth 100000 in
set_option maxHeartbeats 4000000 in
theorem me_J5_appI (l : Launch) (hl : l.stackTraces = false) (cnt : Int) (n : Nat) (f : Nat → Int) (hc : 0 ≤ cnt ∧ cnt ≤ n) (hn : n ≤ 500) (If : ne_rg f (-128) 127) (a : Int) (ha : 0 ≤ a ∧ a ≤ 127) (hg : cnt < n) : ne_MK l nw_cl (.code yJ5_append_3fe6f cJ5_append_3fe6f 2 (some (.object "java/lang/AbstractStringBuilder"))) nw_T yJ5_append_3fe6f 6 300 0 0 2 [.ref 0, ni a] (sB cnt n f) (fun v w => v = some (.ref 0) ∧ ∃ g, w = sB (cnt + 1) n g ∧ ne_rg g (-128) 127) (fun _ _ => False) := by
  refine ne_meetK (own := RJ5) hl rfl (by decide +kernel) (Nat.le_of_ble_eq_true rfl) ?_
  intro D ct A P9 V9 R9 S9 M9 as9 bl9 mt9 C9 ad0 X hr hin ht
  refine ne_aload_n X dJ5_append_3fe6f_0 rfl ?_
  refine ne_aload_n X dJ5_append_3fe6f_1 rfl ?_
  refine ne_getf X dJ5_append_3fe6f_2 nw_fJ5_79 rfl rfl ?_
  refine ne_iconst X dJ5_append_3fe6f_5 ?_
  refine ne_iadd X dJ5_append_3fe6f_6 ?_
  refine ne_callUK (x := yJ5_ensureCapacityInternal_d00df) (is := [0, 1]) (nk := 2) X nw_Tg (me_J5_ensI l hl cnt n f hc hn If (cnt + 1) (by omega)) nw_yJ5_ensureCapacityInternal_d00df rfl (by decide +kernel) nw_mJ5_100 nw_z_ensureCapacityInternal (fun h9 => h9 _ nw_v_ensureCapacityInternal) nw_iJ5_ensureCapacityInternal_d00df nw_iJ5_ensureCapacityInternal_d00df nw_kJ5_ensureCapacityInternal_d00df (ci := 1) rfl rfl dJ5_append_3fe6f_7 rfl rfl (by decide) (by decide) (by first | decide | omega) (by first | decide | omega) (Nat.le_of_ble_eq_true rfl) rfl rfl rfl rfl (Nat.le_of_ble_eq_true rfl) (ne_ptb rfl (by decide +kernel) rfl) ?_ ?_
  rotate_left
  · rintro E9 w9 h9; exact h9.elim
  rintro v7 w7 ⟨rfl, rfl⟩
  refine ne_aload_n X dJ5_append_3fe6f_10 rfl ?_
  refine ne_callUK (x := yJ5_isLatin1_aae02) (is := [0, 1]) (nk := 2) X nw_Tg (me_J5_isLatin1_aae02 l hl cnt n f hc hn If) nw_yJ5_isLatin1_aae02 rfl (by decide +kernel) nw_mJ5_83 nw_z_isLatin1 (fun h9 => h9 _ nw_v_isLatin1) nw_iJ5_isLatin1_aae02 nw_iJ5_isLatin1_aae02 nw_kJ5_isLatin1_aae02 (ci := 1) rfl rfl dJ5_append_3fe6f_11 rfl rfl (by decide) (by decide) (by first | decide | omega) (by first | decide | omega) (Nat.le_of_ble_eq_true rfl) rfl rfl rfl rfl (Nat.le_of_ble_eq_true rfl) (ne_ptb rfl (by decide +kernel) rfl) ?_ ?_
  rotate_left
  · rintro E9 w9 h9; exact h9.elim
  rintro v11 w11 ⟨rfl, rfl⟩
  refine ne_if_eq (tgt := 45) X dJ5_append_3fe6f_14 rfl (by omega) (fun b14 => ?_) (fun b14 => ?_)
  · exfalso; omega
  · refine ne_iload_n X dJ5_append_3fe6f_17 rfl ?_
    refine ne_callS X nw_Tg (me_J1_canEncode_fc78d l hl _ _ (by omega)) nw_yJ1_canEncode_fc78d nw_mJ5_191 nw_sJ1_canEncode_fc78d dJ5_append_3fe6f_18 rfl rfl (by decide) (by decide) (by first | decide | omega) (by first | decide | omega) (Nat.le_of_ble_eq_true rfl) rfl rfl (Nat.le_of_ble_eq_true rfl) ?_ ?_
    rotate_left
    · rintro E9 w9 h9; exact h9.elim
    rintro v18 w18 ⟨rfl, z18, rfl, g18⟩
    refine ne_if_eq (tgt := 45) X dJ5_append_3fe6f_21 rfl (by omega) (fun b21 => ?_) (fun b21 => ?_)
    · exfalso; omega
    · refine ne_aload_n X dJ5_append_3fe6f_24 rfl ?_
      refine ne_getf X dJ5_append_3fe6f_25 nw_fJ5_15 rfl rfl ?_
      refine ne_aload_n X dJ5_append_3fe6f_28 rfl ?_
      refine ne_dupa X dJ5_append_3fe6f_29 ?_
      refine ne_getf X dJ5_append_3fe6f_30 nw_fJ5_79 rfl rfl ?_
      refine ne_dup_x1 X dJ5_append_3fe6f_33 ?_
      refine ne_iconst X dJ5_append_3fe6f_34 ?_
      refine ne_iadd X dJ5_append_3fe6f_35 ?_
      refine ne_putf X dJ5_append_3fe6f_36 nw_fJ5_79 nw_p1_3 rfl (fun _ => rfl) (fun _ => rfl) (by first | decide | exact Nat.le_of_ble_eq_true rfl) ?_
      refine ne_iload_n X dJ5_append_3fe6f_39 rfl ?_
      refine ne_i2b (by omega) X dJ5_append_3fe6f_40 ?_
      refine ne_bastR X dJ5_append_3fe6f_41 rfl (by omega) (by omega) If (by omega) (fun f41 _ If => ?_)
      refine ne_goto (tgt := 75) X dJ5_append_3fe6f_42 rfl ?_
      refine ne_aload_n X dJ5_append_3fe6f_75 rfl ?_
      exact ne_aret X hr (by first | exact Or.inl ⟨_, rfl⟩ | exact Or.inr ⟨_, rfl⟩) dJ5_append_3fe6f_76 ⟨rfl, _, rfl, If⟩
set_option maxRecDepth 100000 in
set_option maxHeartbeats 4000000 in
theorem me_J5_appG (l : Launch) (hl : l.stackTraces = false) (cnt : Int) (n : Nat) (f : Nat → Int) (hc : 0 ≤ cnt ∧ cnt ≤ n) (hn : n ≤ 500) (If : ne_rg f (-128) 127) (a : Int) (ha : 0 ≤ a ∧ a ≤ 127) (hg : cnt = n) (hn2 : n ≤ 240) : ne_MK l nw_cl (.code yJ5_append_3fe6f cJ5_append_3fe6f 2 (some (.object "java/lang/AbstractStringBuilder"))) nw_T yJ5_append_3fe6f 6 300 1 (2 * n + 2) 1 [.ref 0, ni a] (sB cnt n f) (fun v w => v = some (.ref 0) ∧ ∃ g, w = sB (cnt + 1) (2 * n + 2) g ∧ ne_rg g (-128) 127) (fun _ _ => False) := by
  refine ne_meetK (own := RJ5) hl rfl (by decide +kernel) (Nat.le_of_ble_eq_true rfl) ?_
  intro D ct A P9 V9 R9 S9 M9 as9 bl9 mt9 C9 ad0 X hr hin ht
  refine ne_aload_n X dJ5_append_3fe6f_0 rfl ?_
  refine ne_aload_n X dJ5_append_3fe6f_1 rfl ?_
  refine ne_getf X dJ5_append_3fe6f_2 nw_fJ5_79 rfl rfl ?_
  refine ne_iconst X dJ5_append_3fe6f_5 ?_
  refine ne_iadd X dJ5_append_3fe6f_6 ?_
  refine ne_callUK (x := yJ5_ensureCapacityInternal_d00df) (is := [0, 1]) (nk := 1) X nw_Tg (me_J5_ensG l hl cnt n f hc hn If hg (by omega) (cnt + 1) (by omega)) nw_yJ5_ensureCapacityInternal_d00df rfl (by decide +kernel) nw_mJ5_100 nw_z_ensureCapacityInternal (fun h9 => h9 _ nw_v_ensureCapacityInternal) nw_iJ5_ensureCapacityInternal_d00df nw_iJ5_ensureCapacityInternal_d00df nw_kJ5_ensureCapacityInternal_d00df (ci := 1) rfl rfl dJ5_append_3fe6f_7 rfl rfl (by decide) (by decide) (by first | decide | omega) (by first | decide | omega) (Nat.le_of_ble_eq_true rfl) rfl rfl rfl rfl (Nat.le_of_ble_eq_true rfl) (ne_ptb rfl (by decide +kernel) rfl) ?_ ?_
  rotate_left
  · rintro E9 w9 h9; exact h9.elim
  rintro v7 w7 ⟨rfl, g7, rfl, r7⟩
  refine ne_aload_n X dJ5_append_3fe6f_10 rfl ?_
  refine ne_callUK (x := yJ5_isLatin1_aae02) (is := [0, 1]) (nk := 2) X nw_Tg (me_J5_isLatin1_aae02 l hl cnt (2 * n + 2) g7 (by omega) (by omega) r7) nw_yJ5_isLatin1_aae02 rfl (by decide +kernel) nw_mJ5_83 nw_z_isLatin1 (fun h9 => h9 _ nw_v_isLatin1) nw_iJ5_isLatin1_aae02 nw_iJ5_isLatin1_aae02 nw_kJ5_isLatin1_aae02 (ci := 1) rfl rfl dJ5_append_3fe6f_11 rfl rfl (by decide) (by decide) (by first | decide | omega) (by first | decide | omega) (Nat.le_of_ble_eq_true rfl) rfl rfl rfl rfl (Nat.le_of_ble_eq_true rfl) (ne_ptb rfl (by decide +kernel) rfl) ?_ ?_
  rotate_left
  · rintro E9 w9 h9; exact h9.elim
  rintro v11 w11 ⟨rfl, rfl⟩
  refine ne_if_eq (tgt := 45) X dJ5_append_3fe6f_14 rfl (by omega) (fun b14 => ?_) (fun b14 => ?_)
  · exfalso; omega
  · refine ne_iload_n X dJ5_append_3fe6f_17 rfl ?_
    refine ne_callS X nw_Tg (me_J1_canEncode_fc78d l hl _ _ (by omega)) nw_yJ1_canEncode_fc78d nw_mJ5_191 nw_sJ1_canEncode_fc78d dJ5_append_3fe6f_18 rfl rfl (by decide) (by decide) (by first | decide | omega) (by first | decide | omega) (Nat.le_of_ble_eq_true rfl) rfl rfl (Nat.le_of_ble_eq_true rfl) ?_ ?_
    rotate_left
    · rintro E9 w9 h9; exact h9.elim
    rintro v18 w18 ⟨rfl, z18, rfl, g18⟩
    refine ne_if_eq (tgt := 45) X dJ5_append_3fe6f_21 rfl (by omega) (fun b21 => ?_) (fun b21 => ?_)
    · exfalso; omega
    · refine ne_aload_n X dJ5_append_3fe6f_24 rfl ?_
      refine ne_getf X dJ5_append_3fe6f_25 nw_fJ5_15 rfl rfl ?_
      refine ne_aload_n X dJ5_append_3fe6f_28 rfl ?_
      refine ne_dupa X dJ5_append_3fe6f_29 ?_
      refine ne_getf X dJ5_append_3fe6f_30 nw_fJ5_79 rfl rfl ?_
      refine ne_dup_x1 X dJ5_append_3fe6f_33 ?_
      refine ne_iconst X dJ5_append_3fe6f_34 ?_
      refine ne_iadd X dJ5_append_3fe6f_35 ?_
      refine ne_putf X dJ5_append_3fe6f_36 nw_fJ5_79 nw_p1_3 rfl (fun _ => rfl) (fun _ => rfl) (by first | decide | exact Nat.le_of_ble_eq_true rfl) ?_
      refine ne_iload_n X dJ5_append_3fe6f_39 rfl ?_
      refine ne_i2b (by omega) X dJ5_append_3fe6f_40 ?_
      refine ne_bastR X dJ5_append_3fe6f_41 rfl (by omega) (by omega) r7 (by omega) (fun f41 _ If => ?_)
      refine ne_goto (tgt := 75) X dJ5_append_3fe6f_42 rfl ?_
      refine ne_aload_n X dJ5_append_3fe6f_75 rfl ?_
      exact ne_aret X hr (by first | exact Or.inl ⟨_, rfl⟩ | exact Or.inr ⟨_, rfl⟩) dJ5_append_3fe6f_76 ⟨rfl, _, rfl, If⟩
set_option maxRecDepth 100000 in
set_option maxHeartbeats 4000000 in
theorem me_J4_appI (l : Launch) (hl : l.stackTraces = false) (cnt : Int) (n : Nat) (f : Nat → Int) (hc : 0 ≤ cnt ∧ cnt ≤ n) (hn : n ≤ 500) (If : ne_rg f (-128) 127) (a : Int) (ha : 0 ≤ a ∧ a ≤ 127) (hg : cnt < n) : ne_MK l nw_cl (.code yJ4_append_cf468 cJ4_append_cf468 2 (some (.object "java/lang/StringBuilder"))) nw_T yJ4_append_cf468 7 360 0 0 1 [.ref 0, ni a] (sB cnt n f) (fun v w => v = some (.ref 0) ∧ ∃ (n1 : Nat) (g : Nat → Int), w = sB (cnt + 1) n1 g ∧ ne_rg g (-128) 127 ∧ ((cnt < n ∧ n1 = n) ∨ (cnt = n ∧ n1 = 2 * n + 2))) (fun _ _ => False) := by
  refine ne_meetK (own := RJ4) hl rfl (by decide +kernel) (Nat.le_of_ble_eq_true rfl) ?_
  intro D ct A P9 V9 R9 S9 M9 as9 bl9 mt9 C9 ad0 X hr hin ht
  refine ne_aload_n X dJ4_append_cf468_0 rfl ?_
  refine ne_iload_n X dJ4_append_cf468_1 rfl ?_
  refine ne_callSUK (is := [0, 1]) (nk := 2) X nw_Tg (me_J5_appI l hl cnt n f hc hn If a ha hg) nw_yJ5_append_3fe6f nw_mJ4_50 nw_z_append nw_z_superSB nw_iJ5_append_3fe6f (by decide +kernel) (ci := 1) rfl rfl dJ4_append_cf468_2 rfl rfl (by decide) (by decide) (by first | decide | omega) (by first | decide | omega) (Nat.le_of_ble_eq_true rfl) rfl rfl rfl rfl (Nat.le_of_ble_eq_true rfl) (ne_ptb rfl (by decide +kernel) rfl) ?_ ?_
  rotate_left
  · rintro E9 w9 h9; exact h9.elim
  rintro v2 w2 ⟨rfl, g2, rfl, r2⟩
  refine ne_popa X dJ4_append_cf468_5 ?_
  refine ne_aload_n X dJ4_append_cf468_6 rfl ?_
  exact ne_aret X hr (by first | exact Or.inl ⟨_, rfl⟩ | exact Or.inr ⟨_, rfl⟩) dJ4_append_cf468_7 ⟨rfl, _, g2, rfl, r2, by omega⟩
set_option maxRecDepth 100000 in
set_option maxHeartbeats 4000000 in
theorem me_J4_appG (l : Launch) (hl : l.stackTraces = false) (cnt : Int) (n : Nat) (f : Nat → Int) (hc : 0 ≤ cnt ∧ cnt ≤ n) (hn : n ≤ 500) (If : ne_rg f (-128) 127) (a : Int) (ha : 0 ≤ a ∧ a ≤ 127) (hg : cnt = n) (hn2 : n ≤ 240) : ne_MK l nw_cl (.code yJ4_append_cf468 cJ4_append_cf468 2 (some (.object "java/lang/StringBuilder"))) nw_T yJ4_append_cf468 7 360 1 (2 * n + 2) 1 [.ref 0, ni a] (sB cnt n f) (fun v w => v = some (.ref 0) ∧ ∃ (n1 : Nat) (g : Nat → Int), w = sB (cnt + 1) n1 g ∧ ne_rg g (-128) 127 ∧ ((cnt < n ∧ n1 = n) ∨ (cnt = n ∧ n1 = 2 * n + 2))) (fun _ _ => False) := by
  refine ne_meetK (own := RJ4) hl rfl (by decide +kernel) (Nat.le_of_ble_eq_true rfl) ?_
  intro D ct A P9 V9 R9 S9 M9 as9 bl9 mt9 C9 ad0 X hr hin ht
  refine ne_aload_n X dJ4_append_cf468_0 rfl ?_
  refine ne_iload_n X dJ4_append_cf468_1 rfl ?_
  refine ne_callSUK (is := [0, 1]) (nk := 1) X nw_Tg (me_J5_appG l hl cnt n f hc hn If a ha hg hn2) nw_yJ5_append_3fe6f nw_mJ4_50 nw_z_append nw_z_superSB nw_iJ5_append_3fe6f (by decide +kernel) (ci := 1) rfl rfl dJ4_append_cf468_2 rfl rfl (by decide) (by decide) (by first | decide | omega) (by first | decide | omega) (Nat.le_of_ble_eq_true rfl) rfl rfl rfl rfl (Nat.le_of_ble_eq_true rfl) (ne_ptb rfl (by decide +kernel) rfl) ?_ ?_
  rotate_left
  · rintro E9 w9 h9; exact h9.elim
  rintro v2 w2 ⟨rfl, g2, rfl, r2⟩
  refine ne_popa X dJ4_append_cf468_5 ?_
  refine ne_aload_n X dJ4_append_cf468_6 rfl ?_
  exact ne_aret X hr (by first | exact Or.inl ⟨_, rfl⟩ | exact Or.inr ⟨_, rfl⟩) dJ4_append_cf468_7 ⟨rfl, _, g2, rfl, r2, by omega⟩
theorem me_app (l : Launch) (hl : l.stackTraces = false) (cnt : Int) (n : Nat) (f : Nat → Int) (hc : 0 ≤ cnt ∧ cnt ≤ n) (hn : n ≤ 500) (If : ne_rg f (-128) 127) (a : Int) (ha : 0 ≤ a ∧ a ≤ 127) (hn2 : n ≤ 240) : ne_MK l nw_cl (.code yJ4_append_cf468 cJ4_append_cf468 2 (some (.object "java/lang/StringBuilder"))) nw_T yJ4_append_cf468 7 360 (if cnt = n then 1 else 0) (if cnt = n then 2 * n + 2 else 0) 1 [.ref 0, ni a] (sB cnt n f) (fun v w => v = some (.ref 0) ∧ ∃ (n1 : Nat) (g : Nat → Int), w = sB (cnt + 1) n1 g ∧ ne_rg g (-128) 127 ∧ ((cnt < n ∧ n1 = n) ∨ (cnt = n ∧ n1 = 2 * n + 2))) (fun _ _ => False) := by
  by_cases h : cnt = n
  · rw [if_pos h, if_pos h]; exact me_J4_appG l hl cnt n f hc hn If a ha h hn2
  · rw [if_neg h, if_neg h]; exact me_J4_appI l hl cnt n f hc hn If a ha (by omega)
set_option maxRecDepth 100000 in
set_option maxHeartbeats 4000000 in
theorem me_J5_reverse_278bc (l : Launch) (hl : l.stackTraces = false) (cnt : Int) (n : Nat) (f : Nat → Int) (hc : 0 ≤ cnt ∧ cnt ≤ n) (hn : n ≤ 500) (If : ne_rg f (-128) 127) : ne_MK l nw_cl (.code yJ5_reverse_278bc cJ5_reverse_278bc 7 (some (.object "java/lang/AbstractStringBuilder"))) nw_T yJ5_reverse_278bc 4 160 0 0 2 [.ref 0] (sB cnt n f) (fun v w => v = some (.ref 0) ∧ ∃ g, w = sB cnt n g ∧ ne_rg g (-128) 127) (fun _ _ => False) := by
  refine ne_meetK (own := RJ5) hl rfl (by decide +kernel) (Nat.le_of_ble_eq_true rfl) ?_
  intro D ct A P9 V9 R9 S9 M9 as9 bl9 mt9 C9 ad0 X hr hin ht
  have lp28 : ∀ (n9 : Nat) (f : Nat → Int) (j : Int), (j + 1).toNat < n9 → (-1 ≤ j) → (j ≤ cnt - 1) → (ne_rg f (-128) 127) → ne_G nw_cl D ct A 2 ad0 P9 l V9 R9 S9 M9 as9 bl9 mt9 C9 (ne_O nw_cl D ct ad0 2 A bl9 as9 S9 0 0 (fun v w => v = some (.ref 0) ∧ ∃ g, w = sB cnt n g ∧ ne_rg g (-128) 127) (fun _ _ => False)) 7 0 0 0 0 28 [some (.ref 0), some (.ref 1), some (ni cnt), some (ni (cnt - 1)), some (ni j), none, none] [] (sB cnt n f) := by
    intro n9
    induction n9 with
    | zero => intro f j hm9 q1 q2 If; exfalso; omega
    | succ n9 ih =>
      intro f j hm9 q1 q2 If
      refine ne_iload X dJ5_reverse_278bc_28 rfl ?_
      refine ne_if_lt (tgt := 65) X dJ5_reverse_278bc_30 rfl (by omega) (fun b30 => ?_) (fun b30 => ?_)
      · refine ne_goto (tgt := 73) X dJ5_reverse_278bc_65 rfl ?_
        refine ne_aload_n X dJ5_reverse_278bc_73 rfl ?_
        exact ne_aret X hr (by first | exact Or.inl ⟨_, rfl⟩ | exact Or.inr ⟨_, rfl⟩) dJ5_reverse_278bc_74 ⟨rfl, _, rfl, If⟩
      · refine ne_iload_n X dJ5_reverse_278bc_33 rfl ?_
        refine ne_iload X dJ5_reverse_278bc_34 rfl ?_
        refine ne_isub X dJ5_reverse_278bc_36 ?_
        refine ne_istore X dJ5_reverse_278bc_37 (by decide) ?_
        refine ne_aload_n X dJ5_reverse_278bc_39 rfl ?_
        refine ne_iload X dJ5_reverse_278bc_40 rfl ?_
        refine ne_baldR X dJ5_reverse_278bc_42 rfl (by omega) If (fun v42 e42 f42 u42 => ?_)
        refine ne_istore X dJ5_reverse_278bc_43 (by decide) ?_
        refine ne_ll (L' := [some (.ref 0), some (.ref 1), some (ni _), some (ni _), some (ni _), some (ni _), some (ni _)]) rfl ?_
        refine ne_aload_n X dJ5_reverse_278bc_45 rfl ?_
        refine ne_iload X dJ5_reverse_278bc_46 rfl ?_
        refine ne_aload_n X dJ5_reverse_278bc_48 rfl ?_
        refine ne_iload X dJ5_reverse_278bc_49 rfl ?_
        refine ne_baldR X dJ5_reverse_278bc_51 rfl (by omega) If (fun v51 e51 f51 u51 => ?_)
        refine ne_bastR X dJ5_reverse_278bc_52 rfl (by omega) (by omega) If (by omega) (fun f52 _ If => ?_)
        refine ne_aload_n X dJ5_reverse_278bc_53 rfl ?_
        refine ne_iload X dJ5_reverse_278bc_54 rfl ?_
        refine ne_iload X dJ5_reverse_278bc_56 rfl ?_
        refine ne_bastR X dJ5_reverse_278bc_58 rfl (by omega) (by omega) If (by omega) (fun f58 _ If => ?_)
        refine ne_iinc X dJ5_reverse_278bc_59 rfl (by decide) ?_
        refine ne_goto (tgt := 28) X dJ5_reverse_278bc_62 rfl ?_
        refine ne_lnone 5 ?_
        refine ne_lnone 6 ?_
        exact ih _ (j + -1) (by omega) (by omega) (by omega) If
  refine ne_aload_n X dJ5_reverse_278bc_0 rfl ?_
  refine ne_getf X dJ5_reverse_278bc_1 nw_fJ5_15 rfl rfl ?_
  refine ne_astore_n X dJ5_reverse_278bc_4 rfl (by decide) ?_
  refine ne_aload_n X dJ5_reverse_278bc_5 rfl ?_
  refine ne_getf X dJ5_reverse_278bc_6 nw_fJ5_79 rfl rfl ?_
  refine ne_istore_n X dJ5_reverse_278bc_9 rfl (by decide) ?_
  refine ne_ll (L' := [some (.ref 0), some (.ref 1), some (ni _), none, none, none, none]) rfl ?_
  refine ne_iload_n X dJ5_reverse_278bc_10 rfl ?_
  refine ne_iconst X dJ5_reverse_278bc_11 ?_
  refine ne_isub X dJ5_reverse_278bc_12 ?_
  refine ne_istore_n X dJ5_reverse_278bc_13 rfl (by decide) ?_
  refine ne_aload_n X dJ5_reverse_278bc_14 rfl ?_
  refine ne_callUK (x := yJ5_isLatin1_aae02) (is := [0, 1]) (nk := 2) X nw_Tg (me_J5_isLatin1_aae02 l hl cnt n f hc hn If) nw_yJ5_isLatin1_aae02 rfl (by decide +kernel) nw_mJ5_83 nw_z_isLatin1 (fun h9 => h9 _ nw_v_isLatin1) nw_iJ5_isLatin1_aae02 nw_iJ5_isLatin1_aae02 nw_kJ5_isLatin1_aae02 (ci := 1) rfl rfl dJ5_reverse_278bc_15 rfl rfl (by decide) (by decide) (by first | decide | omega) (by first | decide | omega) (Nat.le_of_ble_eq_true rfl) rfl rfl rfl rfl (Nat.le_of_ble_eq_true rfl) (ne_ptb rfl (by decide +kernel) rfl) ?_ ?_
  rotate_left
  · rintro E9 w9 h9; exact h9.elim
  rintro v15 w15 ⟨rfl, rfl⟩
  refine ne_if_eq (tgt := 68) X dJ5_reverse_278bc_18 rfl (by omega) (fun b18 => ?_) (fun b18 => ?_)
  · exfalso; omega
  · refine ne_iload_n X dJ5_reverse_278bc_21 rfl ?_
    refine ne_iconst X dJ5_reverse_278bc_22 ?_
    refine ne_isub X dJ5_reverse_278bc_23 ?_
    refine ne_iconst X dJ5_reverse_278bc_24 ?_
    refine ne_shr1 (by omega) X dJ5_reverse_278bc_25 ?_
    refine ne_istore X dJ5_reverse_278bc_26 (by decide) ?_
    refine ne_ll (L' := [some (.ref 0), some (.ref 1), some (ni _), some (ni _), some (ni _), none, none]) rfl ?_
    exact lp28 _ _ _ (Nat.lt_succ_self _) (by omega) (by omega) If
set_option maxRecDepth 100000 in
set_option maxHeartbeats 4000000 in
theorem me_J4_reverse_43fcb (l : Launch) (hl : l.stackTraces = false) (cnt : Int) (n : Nat) (f : Nat → Int) (hc : 0 ≤ cnt ∧ cnt ≤ n) (hn : n ≤ 500) (If : ne_rg f (-128) 127) : ne_MK l nw_cl (.code yJ4_reverse_43fcb cJ4_reverse_43fcb 1 (some (.object "java/lang/StringBuilder"))) nw_T yJ4_reverse_43fcb 5 210 0 0 2 [.ref 0] (sB cnt n f) (fun v w => v = some (.ref 0) ∧ ∃ g, w = sB cnt n g ∧ ne_rg g (-128) 127) (fun _ _ => False) := by
  refine ne_meetK (own := RJ4) hl rfl (by decide +kernel) (Nat.le_of_ble_eq_true rfl) ?_
  intro D ct A P9 V9 R9 S9 M9 as9 bl9 mt9 C9 ad0 X hr hin ht
  refine ne_aload_n X dJ4_reverse_43fcb_0 rfl ?_
  refine ne_callSUK (is := [0, 1]) (nk := 2) X nw_Tg (me_J5_reverse_278bc l hl cnt n f hc hn If) nw_yJ5_reverse_278bc nw_mJ4_127 nw_z_reverse nw_z_superSB nw_iJ5_reverse_278bc (by decide +kernel) (ci := 1) rfl rfl dJ4_reverse_43fcb_1 rfl rfl (by decide) (by decide) (by first | decide | omega) (by first | decide | omega) (Nat.le_of_ble_eq_true rfl) rfl rfl rfl rfl (Nat.le_of_ble_eq_true rfl) (ne_ptb rfl (by decide +kernel) rfl) ?_ ?_
  rotate_left
  · rintro E9 w9 h9; exact h9.elim
  rintro v1 w1 ⟨rfl, g1, rfl, r1⟩
  refine ne_popa X dJ4_reverse_43fcb_4 ?_
  refine ne_aload_n X dJ4_reverse_43fcb_5 rfl ?_
  exact ne_aret X hr (by first | exact Or.inl ⟨_, rfl⟩ | exact Or.inr ⟨_, rfl⟩) dJ4_reverse_43fcb_6 ⟨rfl, g1, rfl, r1⟩
set_option maxRecDepth 100000 in
set_option maxHeartbeats 4000000 in
theorem me_J7_checkLength_df160 (l : Launch) (hl : l.stackTraces = false) (ws : ne_W) (a b : Int) (ha : 0 ≤ a ∧ a ≤ b) (hb : b ≤ 1000) : ne_M l nw_cl (.code yJ7_checkLength_df160 cJ7_checkLength_df160 2 (none)) nw_T yJ7_checkLength_df160 2 60 0 0 [ni a, ni b] ws (fun v w => w = ws ∧ v = none) (fun _ _ => False) := by
  refine ne_meet (own := RJ7) hl rfl (by decide +kernel) (Nat.le_of_ble_eq_true rfl) ?_
  intro D ct A P9 V9 R9 S9 M9 as9 bl9 mt9 C9 ad0 X hr hin ht
  refine ne_iload_n X dJ7_checkLength_df160_0 rfl ?_
  refine ne_iload_n X dJ7_checkLength_df160_1 rfl ?_
  refine ne_icmp_ge (tgt := 37) X dJ7_checkLength_df160_2 rfl (by omega) (by omega) (fun b2 => ?_) (fun b2 => ?_)
  · exact ne_vret X hr dJ7_checkLength_df160_37 ⟨rfl, rfl⟩
  · exfalso; omega
set_option maxRecDepth 100000 in
set_option maxHeartbeats 4000000 in
theorem me_J7_copyOfRangeByte_39247 (l : Launch) (hl : l.stackTraces = false) (n : Nat) (f : Nat → Int) (z : Int) (If : ne_rg f (-128) 127) (hn : n ≤ 1000) (hz : 0 ≤ z ∧ z ≤ n) : ne_M l nw_cl (.code yJ7_copyOfRangeByte_39247 cJ7_copyOfRangeByte_39247 5 (some (.array .byte))) nw_T yJ7_copyOfRangeByte_39247 3 120 1 z.toNat [.ref 0, ni 0, ni z] [some (.inl (1, n, f))] (fun v w => v = some (.ref 1) ∧ ∃ g, w = [some (.inl (1, n, f)), some (.inl (1, z.toNat, g))] ∧ ne_rg g (-128) 127) (fun _ _ => False) := by
  refine ne_meet (own := RJ7) hl rfl (by decide +kernel) (Nat.le_of_ble_eq_true rfl) ?_
  intro D ct A P9 V9 R9 S9 M9 as9 bl9 mt9 C9 ad0 X hr hin ht
  refine ne_iload_n X dJ7_copyOfRangeByte_39247_0 rfl ?_
  refine ne_iload_n X dJ7_copyOfRangeByte_39247_1 rfl ?_
  refine ne_callS X nw_Tg (me_J7_checkLength_df160 l hl _ _ _ (by omega) (by omega)) nw_yJ7_checkLength_df160 nw_mJ7_343 nw_sJ7_checkLength_df160 dJ7_copyOfRangeByte_39247_2 rfl rfl (by decide) (by decide) (by first | decide | omega) (by first | decide | omega) (Nat.le_of_ble_eq_true rfl) rfl rfl (Nat.le_of_ble_eq_true rfl) ?_ ?_
  rotate_left
  · rintro E9 w9 h9; exact h9.elim
  rintro v2 w2 ⟨rfl, rfl⟩
  refine ne_iload_n X dJ7_copyOfRangeByte_39247_5 rfl ?_
  refine ne_iload_n X dJ7_copyOfRangeByte_39247_6 rfl ?_
  refine ne_isub X dJ7_copyOfRangeByte_39247_7 ?_
  rw [Int.sub_zero]
  refine ne_istore_n X dJ7_copyOfRangeByte_39247_8 rfl (by decide) ?_
  refine ne_iload_n X dJ7_copyOfRangeByte_39247_9 rfl ?_
  refine ne_newa (t := 1) X dJ7_copyOfRangeByte_39247_10 (Or.inr ⟨rfl, rfl⟩) nw_Abyte (by omega) (by decide) (Nat.le_refl _) (Nat.le_of_ble_eq_true rfl) rfl rfl rfl ?_
  refine ne_astore X dJ7_copyOfRangeByte_39247_12 (by decide) ?_
  refine ne_aload_n X dJ7_copyOfRangeByte_39247_14 rfl ?_
  refine ne_iload_n X dJ7_copyOfRangeByte_39247_15 rfl ?_
  refine ne_aload X dJ7_copyOfRangeByte_39247_16 rfl ?_
  refine ne_iconst X dJ7_copyOfRangeByte_39247_18 ?_
  refine ne_aload_n X dJ7_copyOfRangeByte_39247_19 rfl ?_
  refine ne_alen X dJ7_copyOfRangeByte_39247_20 rfl (by decide) ?_
  refine ne_iload_n X dJ7_copyOfRangeByte_39247_21 rfl ?_
  refine ne_isub X dJ7_copyOfRangeByte_39247_22 ?_
  refine ne_iload_n X dJ7_copyOfRangeByte_39247_23 rfl ?_
  refine ne_mmin X dJ7_copyOfRangeByte_39247_24 nw_mJ7_304 nw_Ms_min nw_Mi nw_Mc_min (by decide) (Nat.le_of_ble_eq_true rfl) (by omega) (by omega) ?_
  refine ne_topI (fun m24 e24 => ?_)
  have p24 : m24 = z := by rw [e24]; split <;> omega
  refine ne_acpB X dJ7_copyOfRangeByte_39247_27 nw_ac1 nw_ac2 nw_ac3 nw_ac4 rfl rfl (If) (sB_z) (by omega) (by omega) (by omega) (by omega) (by omega) (by decide) (Nat.le_of_ble_eq_true rfl) (fun g27 r27 e27 => ?_)
  refine ne_aload X dJ7_copyOfRangeByte_39247_30 rfl ?_
  exact ne_aret X hr (by first | exact Or.inl ⟨_, rfl⟩ | exact Or.inr ⟨_, rfl⟩) dJ7_copyOfRangeByte_39247_32 ⟨rfl, g27, rfl, r27⟩
set_option maxRecDepth 100000 in
set_option maxHeartbeats 4000000 in
theorem me_J7_copyOfRange_39247 (l : Launch) (hl : l.stackTraces = false) (n : Nat) (f : Nat → Int) (z : Int) (If : ne_rg f (-128) 127) (hn : n ≤ 1000) (hz : 0 ≤ z ∧ z ≤ n) : ne_M l nw_cl (.code yJ7_copyOfRange_39247 cJ7_copyOfRange_39247 3 (some (.array .byte))) nw_T yJ7_copyOfRange_39247 4 180 1 z.toNat [.ref 0, ni 0, ni z] [some (.inl (1, n, f))] (fun v w => v = some (.ref 1) ∧ ∃ g, w = [some (.inl (1, n, f)), some (.inl (1, z.toNat, g))] ∧ ne_rg g (-128) 127) (fun _ _ => False) := by
  refine ne_meet (own := RJ7) hl rfl (by decide +kernel) (Nat.le_of_ble_eq_true rfl) ?_
  intro D ct A P9 V9 R9 S9 M9 as9 bl9 mt9 C9 ad0 X hr hin ht
  refine ne_iload_n X dJ7_copyOfRange_39247_0 rfl ?_
  refine ne_if_ne (tgt := 10) X dJ7_copyOfRange_39247_1 rfl (by omega) (fun b1 => ?_) (fun b1 => ?_)
  · exfalso; omega
  · refine ne_iload_n X dJ7_copyOfRange_39247_4 rfl ?_
    refine ne_aload_n X dJ7_copyOfRange_39247_5 rfl ?_
    refine ne_alen X dJ7_copyOfRange_39247_6 rfl (by decide) ?_
    refine ne_icmp_eq (tgt := 17) X dJ7_copyOfRange_39247_7 rfl (by omega) (by omega) (fun b7 => ?_) (fun b7 => ?_)
    · refine ne_aload_n X dJ7_copyOfRange_39247_17 rfl ?_
      refine ne_clB X dJ7_copyOfRange_39247_18 nw_cl1 nw_cl2 nw_cl3 nw_cl4 nw_cl5 rfl (If) (by decide) (Nat.le_of_ble_eq_true rfl) (by decide) (by omega) (Nat.le_of_ble_eq_true rfl) rfl rfl rfl ?_
      refine ne_ckB X dJ7_copyOfRange_39247_21 nw_cl6 rfl ?_
      exact ne_aret X hr (by first | exact Or.inl ⟨_, rfl⟩ | exact Or.inr ⟨_, rfl⟩) dJ7_copyOfRange_39247_24 ⟨rfl, f, by rw [show z.toNat = n by omega]; rfl, If⟩
    · refine ne_aload_n X dJ7_copyOfRange_39247_10 rfl ?_
      refine ne_iload_n X dJ7_copyOfRange_39247_11 rfl ?_
      refine ne_iload_n X dJ7_copyOfRange_39247_12 rfl ?_
      refine ne_callSF (is := [0]) X nw_Tg (me_J7_copyOfRangeByte_39247 l hl n f z If hn hz) nw_yJ7_copyOfRangeByte_39247 nw_mJ7_339 nw_sJ7_copyOfRangeByte_39247 dJ7_copyOfRange_39247_13 rfl rfl (by decide) (by decide) (by decide) (Nat.le_refl _) (Nat.le_of_ble_eq_true rfl) rfl rfl rfl (Nat.le_of_ble_eq_true rfl) (ne_ptb rfl (by decide +kernel) rfl) ?_ ?_
      rotate_left
      · rintro E9 w9 h9; exact h9.elim
      rintro v13 w13 ⟨rfl, g13, rfl, r13⟩
      exact ne_aret X hr (by first | exact Or.inl ⟨_, rfl⟩ | exact Or.inr ⟨_, rfl⟩) dJ7_copyOfRange_39247_16 ⟨rfl, g13, rfl, r13⟩
set_option maxRecDepth 100000 in
set_option maxHeartbeats 4000000 in
theorem me_J0_init_db425 (l : Launch) (hl : l.stackTraces = false) (cnt : Int) (n : Nat) (f : Nat → Int) (hc : 0 ≤ cnt ∧ cnt ≤ n) (hn : n ≤ 500) (If : ne_rg f (-128) 127) : ne_M l nw_cl (.code yJ0_init_db425 cJ0_init_db425 5 (none)) nw_T yJ0_init_db425 6 300 1 cnt.toNat [.ref 0, .ref 1, .null] [some (.inr (0, [.null, ni 0, ni 0, ni 0])), some (.inr (1, [.ref 2, ni 0, ni 0, ni cnt])), some (.inl (1, n, f))] (fun v w => v = none ∧ ∃ g, w = [some (.inr (0, [.ref 3, ni 0, ni 0, ni 0])), some (.inr (1, [.ref 2, ni 0, ni 0, ni cnt])), some (.inl (1, n, f)), some (.inl (1, cnt.toNat, g))]) (fun _ _ => False) := by
  refine ne_meet (own := RJ0) hl rfl (by decide +kernel) (Nat.le_of_ble_eq_true rfl) ?_
  intro D ct A P9 V9 R9 S9 M9 as9 bl9 mt9 C9 ad0 X hr hin ht
  refine ne_aload_n X dJ0_init_db425_0 rfl ?_
  refine ne_objInit X dJ0_init_db425_1 nw_mJ0_1 nw_Oi nw_Ok (by decide) (Nat.le_of_ble_eq_true rfl) ?_
  refine ne_aload_n X dJ0_init_db425_4 rfl ?_
  refine ne_callUK (x := yJ5_getValue_6d5f1) (is := [1, 2]) (nk := 2) X nw_Tg (me_J5_getValue_6d5f1 l hl cnt n f hc hn If) nw_yJ5_getValue_6d5f1 rfl (by decide +kernel) nw_mJ0_552 nw_z_getValue (fun h9 => h9 _ nw_v_getValue) nw_iJ5_getValue_6d5f1 nw_iJ5_getValue_6d5f1 nw_kJ5_getValue_6d5f1 (ci := 1) rfl rfl dJ0_init_db425_5 rfl rfl (by decide) (by decide) (by first | decide | omega) (by first | decide | omega) (Nat.le_of_ble_eq_true rfl) rfl rfl rfl rfl (Nat.le_of_ble_eq_true rfl) (ne_ptb rfl (by decide +kernel) rfl) ?_ ?_
  rotate_left
  · rintro E9 w9 h9; exact h9.elim
  rintro v5 w5 ⟨rfl, rfl⟩
  refine ne_ws (ws' := [some (.inr (0, [.null, ni 0, ni 0, ni 0])), some (.inr (1, [.ref 2, ni 0, ni 0, ni cnt])), some (.inl (1, n, f))]) rfl ?_
  refine ne_astore_n X dJ0_init_db425_8 rfl (by decide) ?_
  refine ne_aload_n X dJ0_init_db425_9 rfl ?_
  refine ne_callUK (x := yJ5_length_8abf5) (is := [1, 2]) (nk := 2) X nw_Tg (me_J4_length_8abf5 l hl cnt n f hc hn If) nw_yJ4_length_8abf5 rfl (by decide +kernel) nw_mJ0_549 nw_z_length (fun h9 => h9 _ nw_v_length) nw_iJ4_length_8abf5 nw_iJ5_length_8abf5 nw_kJ5_length_8abf5 (ci := 1) rfl rfl dJ0_init_db425_10 rfl rfl (by decide) (by decide) (by first | decide | omega) (by first | decide | omega) (Nat.le_of_ble_eq_true rfl) rfl rfl rfl rfl (Nat.le_of_ble_eq_true rfl) (ne_ptb rfl (by decide +kernel) rfl) ?_ ?_
  rotate_left
  · rintro E9 w9 h9; exact h9.elim
  rintro v10 w10 ⟨rfl, rfl⟩
  refine ne_ws (ws' := [some (.inr (0, [.null, ni 0, ni 0, ni 0])), some (.inr (1, [.ref 2, ni 0, ni 0, ni cnt])), some (.inl (1, n, f))]) rfl ?_
  refine ne_istore X dJ0_init_db425_13 (by decide) ?_
  refine ne_ll (L' := [some (.ref 0), some (.ref 1), some .null, some (.ref 2), some (ni _)]) rfl ?_
  refine ne_aload_n X dJ0_init_db425_15 rfl ?_
  refine ne_callUK (x := yJ5_isLatin1_aae02) (is := [1, 2]) (nk := 2) X nw_Tg (me_J5_isLatin1_aae02 l hl cnt n f hc hn If) nw_yJ5_isLatin1_aae02 rfl (by decide +kernel) nw_mJ0_1047 nw_z_isLatin1 (fun h9 => h9 _ nw_v_isLatin1) nw_iJ5_isLatin1_aae02 nw_iJ5_isLatin1_aae02 nw_kJ5_isLatin1_aae02 (ci := 1) rfl rfl dJ0_init_db425_16 rfl rfl (by decide) (by decide) (by first | decide | omega) (by first | decide | omega) (Nat.le_of_ble_eq_true rfl) rfl rfl rfl rfl (Nat.le_of_ble_eq_true rfl) (ne_ptb rfl (by decide +kernel) rfl) ?_ ?_
  rotate_left
  · rintro E9 w9 h9; exact h9.elim
  rintro v16 w16 ⟨rfl, rfl⟩
  refine ne_ws (ws' := [some (.inr (0, [.null, ni 0, ni 0, ni 0])), some (.inr (1, [.ref 2, ni 0, ni 0, ni cnt])), some (.inl (1, n, f))]) rfl ?_
  refine ne_if_eq (tgt := 41) X dJ0_init_db425_19 rfl (by omega) (fun b19 => ?_) (fun b19 => ?_)
  · exfalso; omega
  · refine ne_aload_n X dJ0_init_db425_22 rfl ?_
    refine ne_iconst X dJ0_init_db425_23 ?_
    refine ne_putF X dJ0_init_db425_24 hin nw_fJ0_15 nw_p0_1 ⟨_, rfl, rfl, rfl⟩ rfl (fun _ => rfl) (fun _ => rfl) (by first | decide | exact Nat.le_of_ble_eq_true rfl) ?_
    refine ne_aload_n X dJ0_init_db425_27 rfl ?_
    refine ne_aload_n X dJ0_init_db425_28 rfl ?_
    refine ne_iconst X dJ0_init_db425_29 ?_
    refine ne_iload X dJ0_init_db425_30 rfl ?_
    refine ne_callSF (is := [2]) X nw_Tg (me_J7_copyOfRange_39247 l hl n f cnt If (by omega) hc) nw_yJ7_copyOfRange_39247 nw_mJ0_54 nw_sJ7_copyOfRange_39247 dJ0_init_db425_32 rfl rfl (by decide) (by decide) (by decide) (Nat.le_refl _) (Nat.le_of_ble_eq_true rfl) rfl rfl rfl (Nat.le_of_ble_eq_true rfl) (ne_ptb rfl (by decide +kernel) rfl) ?_ ?_
    rotate_left
    · rintro E9 w9 h9; exact h9.elim
    rintro v32 w32 ⟨rfl, g32, rfl, r32⟩
    refine ne_putF X dJ0_init_db425_35 hin nw_fJ0_9 nw_p0_0 ⟨_, rfl, rfl, rfl⟩ rfl (fun _ => rfl) (fun _ => rfl) (by first | decide | exact Nat.le_of_ble_eq_true rfl) ?_
    refine ne_goto (tgt := 97) X dJ0_init_db425_38 rfl ?_
    exact ne_vret X hr dJ0_init_db425_97 ⟨rfl, g32, rfl⟩
set_option maxRecDepth 100000 in
set_option maxHeartbeats 4000000 in
theorem me_J0_init_81219 (l : Launch) (hl : l.stackTraces = false) (cnt : Int) (n : Nat) (f : Nat → Int) (hc : 0 ≤ cnt ∧ cnt ≤ n) (hn : n ≤ 500) (If : ne_rg f (-128) 127) : ne_M l nw_cl (.code yJ0_init_81219 cJ0_init_81219 2 (none)) nw_T yJ0_init_81219 7 360 1 cnt.toNat [.ref 0, .ref 1] [some (.inr (0, [.null, ni 0, ni 0, ni 0])), some (.inr (1, [.ref 2, ni 0, ni 0, ni cnt])), some (.inl (1, n, f))] (fun v w => v = none ∧ ∃ g, w = [some (.inr (0, [.ref 3, ni 0, ni 0, ni 0])), some (.inr (1, [.ref 2, ni 0, ni 0, ni cnt])), some (.inl (1, n, f)), some (.inl (1, cnt.toNat, g))]) (fun _ _ => False) := by
  refine ne_meet (own := RJ0) hl rfl (by decide +kernel) (Nat.le_of_ble_eq_true rfl) ?_
  intro D ct A P9 V9 R9 S9 M9 as9 bl9 mt9 C9 ad0 X hr hin ht
  refine ne_aload_n X dJ0_init_81219_0 rfl ?_
  refine ne_aload_n X dJ0_init_81219_1 rfl ?_
  refine ne_null X dJ0_init_81219_2 ?_
  refine ne_callI X nw_Tg (me_J0_init_db425 l hl cnt n f hc hn If) rfl nw_yJ0_init_db425 nw_mJ0_489 nw_iJ0_init_db425 rfl dJ0_init_81219_3 rfl rfl (by decide) (by decide) (by decide) (Nat.le_refl _) (Nat.le_of_ble_eq_true rfl) rfl rfl (Nat.le_of_ble_eq_true rfl) ?_ ?_
  rotate_left
  · rintro E9 w9 h9; exact h9.elim
  rintro v3 w3 ⟨rfl, g3, rfl⟩
  exact ne_vret X hr dJ0_init_81219_6 ⟨rfl, g3, rfl⟩
set_option maxRecDepth 100000 in
set_option maxHeartbeats 4000000 in
theorem me_J4_toString_0e30d (l : Launch) (hl : l.stackTraces = false) (cnt : Int) (n : Nat) (f : Nat → Int) (hc : 0 ≤ cnt ∧ cnt ≤ n) (hn : n ≤ 500) (If : ne_rg f (-128) 127) : ne_MK l nw_cl (.code yJ4_toString_0e30d cJ4_toString_0e30d 1 (some (.object "java/lang/String"))) nw_T yJ4_toString_0e30d 8 420 2 (4 + cnt.toNat) 2 [.ref 0] (sB cnt n f) (fun v w => v = some (.ref 2) ∧ ∃ a b, w = [some (.inr (1, [.ref 1, ni 0, ni 0, ni cnt])), some (.inl (1, n, f)), a, b]) (fun _ _ => False) := by
  refine ne_meetK (own := RJ4) hl rfl (by decide +kernel) (Nat.le_of_ble_eq_true rfl) ?_
  intro D ct A P9 V9 R9 S9 M9 as9 bl9 mt9 C9 ad0 X hr hin ht
  refine ne_new X dJ4_toString_0e30d_0 nw_nJ4_18 (by decide) (by omega) (Nat.le_of_ble_eq_true rfl) rfl rfl rfl ?_
  refine ne_dupa X dJ4_toString_0e30d_3 ?_
  refine ne_aload_n X dJ4_toString_0e30d_4 rfl ?_
  refine ne_callIF (is := [2, 0, 1]) X nw_Tg (me_J0_init_81219 l hl cnt n f hc hn If) rfl nw_yJ0_init_81219 nw_mJ4_137 nw_iJ0_init_81219 rfl dJ4_toString_0e30d_5 rfl rfl (by decide) (by decide) (by decide) (by omega) (Nat.le_of_ble_eq_true rfl) rfl rfl rfl (Nat.le_of_ble_eq_true rfl) (ne_ptb rfl (by decide +kernel) rfl) ?_ ?_
  rotate_left
  · rintro E9 w9 h9; exact h9.elim
  rintro v5 w5 ⟨rfl, g5, rfl⟩
  exact ne_aret X hr (by first | exact Or.inl ⟨_, rfl⟩ | exact Or.inr ⟨_, rfl⟩) dJ4_toString_0e30d_8 ⟨rfl, _, _, rfl⟩
