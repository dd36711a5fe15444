set_option maxRecDepth 100000 in
set_option maxHeartbeats 4000000 in
theorem me_X3_textOf (l : Launch) (hl : l.stackTraces = false) (a p : Int) (ha : -1000000000000000000 ≤ a ∧ a ≤ 1000000000000000000) (hp : 0 ≤ p ∧ p ≤ 16) : ne_M l nw_cl (.code yX3_textOf cX3_textOf 6 (some (.object "java/lang/String"))) nw_T yX3_textOf 10 470 140 330 [nl a, ni p] [] (fun v w => v = some (.ref 0) ∧ w = [none]) (fun _ _ => False) := by
  refine ne_meet (own := RX3) hl rfl (by decide +kernel) (Nat.le_of_ble_eq_true rfl) ?_
  intro D ct A P9 V9 R9 S9 M9 as9 bl9 mt9 C9 ad0 X hr hin ht
  have lp49 : ∀ (n9 : Nat) (s cnt : Int) (nn : Nat) (fb : Nat → Int) (j : Int), (j + 1).toNat < n9 → (-1 ≤ j) → (j ≤ 18) → (0 ≤ cnt) → (cnt ≤ 1 + 2 * (18 - j)) → (cnt ≤ nn) → (nn ≤ 90) → (ne_rg fb (-128) 127) → ne_G nw_cl D ct A 0 ad0 P9 l V9 R9 S9 M9 as9 bl9 mt9 C9 (ne_O nw_cl D ct ad0 0 A bl9 as9 S9 140 330 (fun v w => v = some (.ref 0) ∧ w = [none]) (fun _ _ => False)) 6 140 330 (100 - nn + 2) (2 * (100 - nn) + 60) 49 [some (nl a), none, some (ni p), some (.ref 0), some (ni s), some (ni j)] [] (sB cnt nn fb) := by
    intro n9
    induction n9 with
    | zero => intro s cnt nn fb j hm9 q1 q2 q4 q5 q6 q7 Ib; exfalso; omega
    | succ n9 ih =>
      intro s cnt nn fb j hm9 q1 q2 q4 q5 q6 q7 Ib
      refine ne_iload X dX3_textOf_49 rfl ?_
      refine ne_if_lt (tgt := 102) X dX3_textOf_51 rfl (by omega) (fun b51 => ?_) (fun b51 => ?_)
      · refine ne_aload_n X dX3_textOf_102 rfl ?_
        refine ne_callVK (is := [0, 1]) (nk := 2) X nw_Tg (me_J4_toString_0e30d l hl (cnt) nn fb (by omega) (by omega) Ib) nw_yJ4_toString_0e30d nw_mX3_122 nw_iJ4_toString_0e30d nw_eJ4_toString_0e30d (ci := 1) rfl rfl rfl dX3_textOf_103 rfl rfl (by decide) (by decide) (by first | decide | omega) (by first | decide | omega) (Nat.le_of_ble_eq_true rfl) rfl rfl rfl rfl (Nat.le_of_ble_eq_true rfl) (ne_ptb rfl (by decide +kernel) rfl) ?_ ?_
        rotate_left
        · rintro E9 w9 h9; exact h9.elim
        rintro v103 w103 ⟨rfl, a103, b103, rfl⟩
        refine ne_lnil ?_
        refine ne_forget [2] ?_
        refine ne_viewb [2] (ws' := [none]) (L' := []) (st' := [.ref 0]) rfl (by decide) rfl rfl rfl rfl ?_
        exact ne_aret X hr (by first | exact Or.inl ⟨_, rfl⟩ | exact Or.inr ⟨_, rfl⟩) dX3_textOf_106 ⟨rfl, rfl⟩
      · refine ne_aload_n X dX3_textOf_54 rfl ?_
        refine ne_ldc2 (z := 48) (by decide) nw_cX3_120 X dX3_textOf_55 ?_
        refine ne_lload_n X dX3_textOf_58 rfl ?_
        refine ne_callS X nw_Tg (me_X3_sizeOf l hl _ _ (by omega)) nw_yX3_sizeOf nw_mX3_40 nw_sX3_sizeOf dX3_textOf_59 rfl rfl (by decide) (by decide) (by first | decide | omega) (by first | decide | omega) (Nat.le_of_ble_eq_true rfl) rfl rfl (Nat.le_of_ble_eq_true rfl) ?_ ?_
        rotate_left
        · rintro E9 w9 h9; exact h9.elim
        rintro v59 w59 ⟨rfl, z59, rfl, g59⟩
        refine ne_iload X dX3_textOf_62 rfl ?_
        refine ne_callS X nw_Tg (me_X3_ten l hl _ _ (by omega)) nw_yX3_ten nw_mX3_58 nw_sX3_ten dX3_textOf_64 rfl rfl (by decide) (by decide) (by first | decide | omega) (by first | decide | omega) (Nat.le_of_ble_eq_true rfl) rfl rfl (Nat.le_of_ble_eq_true rfl) ?_ ?_
        rotate_left
        · rintro E9 w9 h9; exact h9.elim
        rintro v64 w64 ⟨rfl, z64, rfl, g64, k64, i64, j64, m64, o64, p64⟩
        refine ne_ldiv X dX3_textOf_67 (by omega) (by omega) (by omega) ?_
        have t67 := (ne_tdm z59 z64 (by omega)).1 (by omega)
        have t68 := ne_t10 (z59.tdiv z64) (by omega)
        refine ne_ldc2 (z := 10) (by decide) nw_cX3_38 X dX3_textOf_68 ?_
        refine ne_lrem X dX3_textOf_71 (by omega) (by omega) (by omega) ?_
        refine ne_ladd X dX3_textOf_72 ?_
        refine ne_l2i X dX3_textOf_73 ?_
        refine ne_i2c (by omega) X dX3_textOf_74 ?_
        refine ne_callVK (is := [0, 1]) (nk := 1) X nw_Tg (me_app l hl (cnt) nn fb (by omega) (by omega) Ib _ (by omega) (by omega)) nw_yJ4_append_cf468 nw_mX3_116 nw_iJ4_append_cf468 nw_eJ4_append_cf468 (ci := 1) rfl rfl rfl dX3_textOf_75 rfl rfl (by decide) (by decide) (by split <;> omega) (by split <;> omega) (Nat.le_of_ble_eq_true rfl) rfl rfl rfl rfl (Nat.le_of_ble_eq_true rfl) (ne_ptb rfl (by decide +kernel) rfl) ?_ ?_
        rotate_left
        · rintro E9 w9 h9; exact h9.elim
        rintro v75 w75 ⟨rfl, n75, f75, rfl, r75, d75⟩
        refine ne_ws (ws' := [some (.inr (1, [.ref 1, ni 0, ni 0, ni (cnt + 1)])), some (.inl (1, n75, f75))]) rfl ?_
        refine ne_less (C' := (100 - n75 + 2)) (S' := (2 * (100 - n75) + 60)) (by split <;> omega) (by split <;> omega) ?_
        refine ne_popa X dX3_textOf_78 ?_
        refine ne_iload X dX3_textOf_79 rfl ?_
        refine ne_iload_n X dX3_textOf_81 rfl ?_
        refine ne_icmp_ne (tgt := 96) X dX3_textOf_82 rfl (by omega) (by omega) (fun b82 => ?_) (fun b82 => ?_)
        · refine ne_iinc X dX3_textOf_96 rfl (by decide) ?_
          refine ne_goto (tgt := 49) X dX3_textOf_99 rfl ?_
          exact ih s (cnt + 1) n75 f75 (j + -1) (by omega) (by omega) (by omega) (by omega) (by omega) (by omega) (by omega) r75
        · refine ne_iload_n X dX3_textOf_85 rfl ?_
          refine ne_if_le (tgt := 96) X dX3_textOf_86 rfl (by omega) (fun b86 => ?_) (fun b86 => ?_)
          · refine ne_iinc X dX3_textOf_96 rfl (by decide) ?_
            refine ne_goto (tgt := 49) X dX3_textOf_99 rfl ?_
            exact ih s (cnt + 1) n75 f75 (j + -1) (by omega) (by omega) (by omega) (by omega) (by omega) (by omega) (by omega) r75
          · refine ne_aload_n X dX3_textOf_89 rfl ?_
            refine ne_bipush (v := 46) (by decide) X dX3_textOf_90 ?_
            refine ne_callVK (is := [0, 1]) (nk := 1) X nw_Tg (me_app l hl (cnt + 1) n75 f75 (by omega) (by omega) r75 _ (by omega) (by omega)) nw_yJ4_append_cf468 nw_mX3_116 nw_iJ4_append_cf468 nw_eJ4_append_cf468 (ci := 1) rfl rfl rfl dX3_textOf_92 rfl rfl (by decide) (by decide) (by split <;> omega) (by split <;> omega) (Nat.le_of_ble_eq_true rfl) rfl rfl rfl rfl (Nat.le_of_ble_eq_true rfl) (ne_ptb rfl (by decide +kernel) rfl) ?_ ?_
            rotate_left
            · rintro E9 w9 h9; exact h9.elim
            rintro v92 w92 ⟨rfl, n92, f92, rfl, r92, d92⟩
            refine ne_ws (ws' := [some (.inr (1, [.ref 1, ni 0, ni 0, ni (cnt + 1 + 1)])), some (.inl (1, n92, f92))]) rfl ?_
            refine ne_less (C' := (100 - n92 + 2)) (S' := (2 * (100 - n92) + 60)) (by split <;> omega) (by split <;> omega) ?_
            refine ne_popa X dX3_textOf_95 ?_
            refine ne_iinc X dX3_textOf_96 rfl (by decide) ?_
            refine ne_goto (tgt := 49) X dX3_textOf_99 rfl ?_
            exact ih s (cnt + 1 + 1) n92 f92 (j + -1) (by omega) (by omega) (by omega) (by omega) (by omega) (by omega) (by omega) r92
  refine ne_new X dX3_textOf_0 nw_nX3_111 (by first | decide | omega) (by first | decide | omega) (Nat.le_of_ble_eq_true rfl) rfl rfl rfl ?_
  refine ne_dupa X dX3_textOf_3 ?_
  refine ne_bipush (v := 24) (by decide) X dX3_textOf_4 ?_
  refine ne_callIF (is := [0]) X nw_Tg (me_J4_init_d00df l hl 24 (by omega)) rfl nw_yJ4_init_d00df nw_mX3_113 nw_iJ4_init_d00df rfl dX3_textOf_6 rfl rfl (by decide) (by decide) (by first | decide | omega) (by first | decide | omega) (Nat.le_of_ble_eq_true rfl) rfl rfl rfl (Nat.le_of_ble_eq_true rfl) (ne_ptb rfl (by decide +kernel) rfl) ?_ ?_
  rotate_left
  · rintro E9 w9 h9; exact h9.elim
  rintro v6 w6 ⟨rfl, rfl⟩
  refine ne_ws (ws' := [some (.inr (1, [.ref 1, ni 0, ni 0, ni (0)])), some (.inl (1, 24, (fun _ => 0)))]) rfl ?_
  refine ne_astore_n X dX3_textOf_9 rfl (by decide) ?_
  refine ne_lload_n X dX3_textOf_10 rfl ?_
  refine ne_lconst (z := 0) (by decide) X dX3_textOf_11 ?_
  refine ne_lcif_ge (tgt := 23) X dX3_textOf_12 dX3_textOf_13 rfl (by omega) (by omega) (fun b13 => ?_) (fun b13 => ?_)
  · refine ne_lload_n X dX3_textOf_23 rfl ?_
    refine ne_callS X nw_Tg (me_X3_digitsOf l hl _ _ (by omega)) nw_yX3_digitsOf nw_mX3_97 nw_sX3_digitsOf dX3_textOf_24 rfl rfl (by decide) (by decide) (by first | decide | omega) (by first | decide | omega) (Nat.le_of_ble_eq_true rfl) rfl rfl (Nat.le_of_ble_eq_true rfl) ?_ ?_
    rotate_left
    · rintro E9 w9 h9; exact h9.elim
    rintro v24 w24 ⟨rfl, z24, rfl, g24, k24⟩
    refine ne_iload_n X dX3_textOf_27 rfl ?_
    refine ne_icmp_le (tgt := 38) X dX3_textOf_28 rfl (by omega) (by omega) (fun b28 => ?_) (fun b28 => ?_)
    · refine ne_iload_n X dX3_textOf_38 rfl ?_
      refine ne_iconst X dX3_textOf_39 ?_
      refine ne_iadd X dX3_textOf_40 ?_
      refine ne_topI (fun a41 e41 => ?_)
      have p41 : 1 ≤ a41 ∧ a41 ≤ 19 := by omega
      refine ne_istore X dX3_textOf_41 (by decide) ?_
      refine ne_ll (L' := [some (nl _), none, some (ni _), some (.ref 0), some (ni _), none]) rfl ?_
      refine ne_iload X dX3_textOf_43 rfl ?_
      refine ne_iconst X dX3_textOf_45 ?_
      refine ne_isub X dX3_textOf_46 ?_
      refine ne_istore X dX3_textOf_47 (by decide) ?_
      refine ne_less (C' := (100 - 24 + 2)) (S' := (2 * (100 - 24) + 60)) (by omega) (by omega) ?_
      exact lp49 _ a41 0 24 (fun _ => 0) _ (Nat.lt_succ_self _) (by omega) (by omega) (by omega) (by omega) (by omega) (by omega) sB_z
    · refine ne_lload_n X dX3_textOf_31 rfl ?_
      refine ne_callS X nw_Tg (me_X3_digitsOf l hl _ _ (by omega)) nw_yX3_digitsOf nw_mX3_97 nw_sX3_digitsOf dX3_textOf_32 rfl rfl (by decide) (by decide) (by first | decide | omega) (by first | decide | omega) (Nat.le_of_ble_eq_true rfl) rfl rfl (Nat.le_of_ble_eq_true rfl) ?_ ?_
      rotate_left
      · rintro E9 w9 h9; exact h9.elim
      rintro v32 w32 ⟨rfl, z32, rfl, g32, k32⟩
      refine ne_goto (tgt := 41) X dX3_textOf_35 rfl ?_
      refine ne_topI (fun a41 e41 => ?_)
      have p41 : 1 ≤ a41 ∧ a41 ≤ 19 := by omega
      refine ne_istore X dX3_textOf_41 (by decide) ?_
      refine ne_ll (L' := [some (nl _), none, some (ni _), some (.ref 0), some (ni _), none]) rfl ?_
      refine ne_iload X dX3_textOf_43 rfl ?_
      refine ne_iconst X dX3_textOf_45 ?_
      refine ne_isub X dX3_textOf_46 ?_
      refine ne_istore X dX3_textOf_47 (by decide) ?_
      refine ne_less (C' := (100 - 24 + 2)) (S' := (2 * (100 - 24) + 60)) (by omega) (by omega) ?_
      exact lp49 _ a41 0 24 (fun _ => 0) _ (Nat.lt_succ_self _) (by omega) (by omega) (by omega) (by omega) (by omega) (by omega) sB_z
  · refine ne_aload_n X dX3_textOf_16 rfl ?_
    refine ne_bipush (v := 45) (by decide) X dX3_textOf_17 ?_
    refine ne_callVK (is := [0, 1]) (nk := 1) X nw_Tg (me_app l hl (0) 24 (fun _ => 0) (by omega) (by omega) sB_z _ (by omega) (by omega)) nw_yJ4_append_cf468 nw_mX3_116 nw_iJ4_append_cf468 nw_eJ4_append_cf468 (ci := 1) rfl rfl rfl dX3_textOf_19 rfl rfl (by decide) (by decide) (by split <;> omega) (by split <;> omega) (Nat.le_of_ble_eq_true rfl) rfl rfl rfl rfl (Nat.le_of_ble_eq_true rfl) (ne_ptb rfl (by decide +kernel) rfl) ?_ ?_
    rotate_left
    · rintro E9 w9 h9; exact h9.elim
    rintro v19 w19 ⟨rfl, n19, f19, rfl, r19, d19⟩
    refine ne_ws (ws' := [some (.inr (1, [.ref 1, ni 0, ni 0, ni (0 + 1)])), some (.inl (1, n19, f19))]) rfl ?_
    refine ne_less (C' := (100 - n19 + 2)) (S' := (2 * (100 - n19) + 60)) (by split <;> omega) (by split <;> omega) ?_
    refine ne_popa X dX3_textOf_22 ?_
    refine ne_lload_n X dX3_textOf_23 rfl ?_
    refine ne_callS X nw_Tg (me_X3_digitsOf l hl _ _ (by omega)) nw_yX3_digitsOf nw_mX3_97 nw_sX3_digitsOf dX3_textOf_24 rfl rfl (by decide) (by decide) (by first | decide | omega) (by first | decide | omega) (Nat.le_of_ble_eq_true rfl) rfl rfl (Nat.le_of_ble_eq_true rfl) ?_ ?_
    rotate_left
    · rintro E9 w9 h9; exact h9.elim
    rintro v24 w24 ⟨rfl, z24, rfl, g24, k24⟩
    refine ne_iload_n X dX3_textOf_27 rfl ?_
    refine ne_icmp_le (tgt := 38) X dX3_textOf_28 rfl (by omega) (by omega) (fun b28 => ?_) (fun b28 => ?_)
    · refine ne_iload_n X dX3_textOf_38 rfl ?_
      refine ne_iconst X dX3_textOf_39 ?_
      refine ne_iadd X dX3_textOf_40 ?_
      refine ne_topI (fun a41 e41 => ?_)
      have p41 : 1 ≤ a41 ∧ a41 ≤ 19 := by omega
      refine ne_istore X dX3_textOf_41 (by decide) ?_
      refine ne_ll (L' := [some (nl _), none, some (ni _), some (.ref 0), some (ni _), none]) rfl ?_
      refine ne_iload X dX3_textOf_43 rfl ?_
      refine ne_iconst X dX3_textOf_45 ?_
      refine ne_isub X dX3_textOf_46 ?_
      refine ne_istore X dX3_textOf_47 (by decide) ?_
      refine ne_less (C' := (100 - n19 + 2)) (S' := (2 * (100 - n19) + 60)) (by omega) (by omega) ?_
      exact lp49 _ a41 (0 + 1) n19 f19 _ (Nat.lt_succ_self _) (by omega) (by omega) (by omega) (by omega) (by omega) (by omega) r19
    · refine ne_lload_n X dX3_textOf_31 rfl ?_
      refine ne_callS X nw_Tg (me_X3_digitsOf l hl _ _ (by omega)) nw_yX3_digitsOf nw_mX3_97 nw_sX3_digitsOf dX3_textOf_32 rfl rfl (by decide) (by decide) (by first | decide | omega) (by first | decide | omega) (Nat.le_of_ble_eq_true rfl) rfl rfl (Nat.le_of_ble_eq_true rfl) ?_ ?_
      rotate_left
      · rintro E9 w9 h9; exact h9.elim
      rintro v32 w32 ⟨rfl, z32, rfl, g32, k32⟩
      refine ne_goto (tgt := 41) X dX3_textOf_35 rfl ?_
      refine ne_topI (fun a41 e41 => ?_)
      have p41 : 1 ≤ a41 ∧ a41 ≤ 19 := by omega
      refine ne_istore X dX3_textOf_41 (by decide) ?_
      refine ne_ll (L' := [some (nl _), none, some (ni _), some (.ref 0), some (ni _), none]) rfl ?_
      refine ne_iload X dX3_textOf_43 rfl ?_
      refine ne_iconst X dX3_textOf_45 ?_
      refine ne_isub X dX3_textOf_46 ?_
      refine ne_istore X dX3_textOf_47 (by decide) ?_
      refine ne_less (C' := (100 - n19 + 2)) (S' := (2 * (100 - n19) + 60)) (by omega) (by omega) ?_
      exact lp49 _ a41 (0 + 1) n19 f19 _ (Nat.lt_succ_self _) (by omega) (by omega) (by omega) (by omega) (by omega) (by omega) r19
set_option maxRecDepth 100000 in
set_option maxHeartbeats 4000000 in
theorem me_X3_written (l : Launch) (hl : l.stackTraces = false) (n : Nat) (f : Nat → Int) (m : Int) (hn : n ≤ 98) (hf : ne_rg f 0 9) (hm : 0 ≤ m ∧ m ≤ n) : ne_M l nw_cl (.code yX3_written cX3_written 4 (some (.object "java/lang/String"))) nw_T yX3_written 10 470 210 540 [.ref 0, ni m] ([some (.inl (0, n, f))]) (fun v w => v = some (.ref 1) ∧ w = [some (.inl (0, n, f))] ++ [none]) (fun _ _ => False) := by
  refine ne_meet (own := RX3) hl rfl (by decide +kernel) (Nat.le_of_ble_eq_true rfl) ?_
  intro D ct A P9 V9 R9 S9 M9 as9 bl9 mt9 C9 ad0 X hr hin ht
  have lp12 : ∀ (n9 : Nat) (cnt : Int) (nn : Nat) (fb : Nat → Int) (j : Int), (n - j).toNat < n9 → (m ≤ j) → (j ≤ n) → (cnt = j - m) → (nn = n) → (ne_rg fb (-128) 127) → ne_G nw_cl D ct A 1 ad0 P9 l V9 R9 S9 M9 as9 bl9 mt9 C9 (ne_O nw_cl D ct ad0 1 A bl9 as9 S9 210 540 (fun v w => v = some (.ref 1) ∧ w = [some (.inl (0, n, f))] ++ [none]) (fun _ _ => False)) 4 210 540 (200 - nn + 2) (2 * (200 - nn) + 110) 12 [some (.ref 0), some (ni m), some (.ref 1), some (ni j)] [] ([some (.inl (0, n, f))] ++ [some (.inr (1, [.ref 2, ni 0, ni 0, ni cnt])), some (.inl (1, nn, fb))]) := by
    intro n9
    induction n9 with
    | zero => intro cnt nn fb j hm9 q1 q2 q3 q4 If; exfalso; omega
    | succ n9 ih =>
      intro cnt nn fb j hm9 q1 q2 q3 q4 If
      refine ne_iload_n X dX3_written_12 rfl ?_
      refine ne_aload_n X dX3_written_13 rfl ?_
      refine ne_alen X dX3_written_14 rfl (by decide) ?_
      refine ne_icmp_ge (tgt := 36) X dX3_written_15 rfl (by omega) (by omega) (fun b15 => ?_) (fun b15 => ?_)
      · refine ne_aload_n X dX3_written_36 rfl ?_
        refine ne_callVK (is := [1, 2]) (nk := 2) X nw_Tg (me_J4_toString_0e30d l hl (cnt) nn fb (by omega) (by omega) If) nw_yJ4_toString_0e30d nw_mX3_122 nw_iJ4_toString_0e30d nw_eJ4_toString_0e30d (ci := 1) rfl rfl rfl dX3_written_37 rfl rfl (by decide) (by decide) (by first | decide | omega) (by first | decide | omega) (Nat.le_of_ble_eq_true rfl) rfl rfl rfl rfl (Nat.le_of_ble_eq_true rfl) (ne_ptb rfl (by decide +kernel) rfl) ?_ ?_
        rotate_left
        · rintro E9 w9 h9; exact h9.elim
        rintro v37 w37 ⟨rfl, a37, b37, rfl⟩
        refine ne_lnil ?_
        refine ne_forget [3] ?_
        refine ne_viewb [0, 3] (ws' := [some (.inl (0, n, f))] ++ [none]) (L' := []) (st' := [.ref 1]) rfl (by decide) rfl rfl rfl rfl ?_
        exact ne_aret X hr (by first | exact Or.inl ⟨_, rfl⟩ | exact Or.inr ⟨_, rfl⟩) dX3_written_40 ⟨rfl, rfl⟩
      · refine ne_aload_n X dX3_written_18 rfl ?_
        refine ne_bipush (v := 48) (by decide) X dX3_written_19 ?_
        refine ne_aload_n X dX3_written_21 rfl ?_
        refine ne_iload_n X dX3_written_22 rfl ?_
        refine ne_ialdR X dX3_written_23 rfl (by omega) hf (fun v23 e23 f23 u23 => ?_)
        refine ne_iadd X dX3_written_24 ?_
        refine ne_i2c (by omega) X dX3_written_25 ?_
        refine ne_callVK (is := [1, 2]) (nk := 1) X nw_Tg (me_app l hl (cnt) nn fb (by omega) (by omega) If _ (by omega) (by omega)) nw_yJ4_append_cf468 nw_mX3_116 nw_iJ4_append_cf468 nw_eJ4_append_cf468 (ci := 1) rfl rfl rfl dX3_written_26 rfl rfl (by decide) (by decide) (by split <;> omega) (by split <;> omega) (Nat.le_of_ble_eq_true rfl) rfl rfl rfl rfl (Nat.le_of_ble_eq_true rfl) (ne_ptb rfl (by decide +kernel) rfl) ?_ ?_
        rotate_left
        · rintro E9 w9 h9; exact h9.elim
        rintro v26 w26 ⟨rfl, n26, f26, rfl, r26, d26⟩
        refine ne_ws (ws' := [some (.inl (0, n, f))] ++ [some (.inr (1, [.ref 2, ni 0, ni 0, ni (cnt + 1)])), some (.inl (1, n26, f26))]) rfl ?_
        refine ne_less (C' := (200 - n26 + 2)) (S' := (2 * (200 - n26) + 110)) (by split <;> omega) (by split <;> omega) ?_
        refine ne_popa X dX3_written_29 ?_
        refine ne_iinc X dX3_written_30 rfl (by decide) ?_
        refine ne_goto (tgt := 12) X dX3_written_33 rfl ?_
        exact ih (cnt + 1) n26 f26 (j + 1) (by omega) (by omega) (by omega) (by omega) (by omega) r26
  refine ne_new X dX3_written_0 nw_nX3_111 (by first | decide | omega) (by first | decide | omega) (Nat.le_of_ble_eq_true rfl) rfl rfl rfl ?_
  refine ne_dupa X dX3_written_3 ?_
  refine ne_aload_n X dX3_written_4 rfl ?_
  refine ne_alen X dX3_written_5 rfl (by decide) ?_
  refine ne_callIF (is := [1]) X nw_Tg (me_J4_init_d00df l hl (n : Int) (by omega)) rfl nw_yJ4_init_d00df nw_mX3_113 nw_iJ4_init_d00df rfl dX3_written_6 rfl rfl (by decide) (by decide) (by first | decide | omega) (by first | decide | omega) (Nat.le_of_ble_eq_true rfl) rfl rfl rfl (Nat.le_of_ble_eq_true rfl) (ne_ptb rfl (by decide +kernel) rfl) ?_ ?_
  rotate_left
  · rintro E9 w9 h9; exact h9.elim
  rintro v6 w6 ⟨rfl, rfl⟩
  refine ne_ws (ws' := [some (.inl (0, n, f))] ++ [some (.inr (1, [.ref 2, ni 0, ni 0, ni (0)])), some (.inl (1, ((n : Int)).toNat, (fun _ => 0)))]) rfl ?_
  refine ne_astore_n X dX3_written_9 rfl (by decide) ?_
  refine ne_iload_n X dX3_written_10 rfl ?_
  refine ne_istore_n X dX3_written_11 rfl (by decide) ?_
  refine ne_ll (L' := [some (.ref 0), some (ni _), some (.ref 1), some (ni _)]) rfl ?_
  refine ne_less (C' := (200 - (n : Int).toNat + 2)) (S' := (2 * (200 - (n : Int).toNat) + 110)) (by omega) (by omega) ?_
  exact lp12 _ 0 (n : Int).toNat (fun _ => 0) _ (Nat.lt_succ_self _) (by omega) (by omega) (by omega) (by omega) sB_z
set_option maxRecDepth 100000 in
set_option maxHeartbeats 4000000 in
theorem me_X3_number (l : Launch) (hl : l.stackTraces = false) (n : Nat) (f : Nat → Int) (hn : 1 ≤ n ∧ n ≤ 98) (hf : ne_rg f 0 9) : ne_M l nw_cl (.code yX3_number cX3_number 2 (some (.object "java/lang/String"))) nw_T yX3_number 11 520 210 540 [.ref 0] ([some (.inl (0, n, f))]) (fun v w => v = some (.ref 1) ∧ w = [some (.inl (0, n, f))] ++ [none]) (fun _ _ => False) := by
  refine ne_meet (own := RX3) hl rfl (by decide +kernel) (Nat.le_of_ble_eq_true rfl) ?_
  intro D ct A P9 V9 R9 S9 M9 as9 bl9 mt9 C9 ad0 X hr hin ht
  have lp2 : ∀ (n9 : Nat) (j : Int), (n - j).toNat < n9 → (0 ≤ j) → (j < n) → ne_G nw_cl D ct A 1 ad0 P9 l V9 R9 S9 M9 as9 bl9 mt9 C9 (ne_O nw_cl D ct ad0 1 A bl9 as9 S9 210 540 (fun v w => v = some (.ref 1) ∧ w = [some (.inl (0, n, f))] ++ [none]) (fun _ _ => False)) 2 210 540 210 540 2 [some (.ref 0), some (ni j)] [] ([some (.inl (0, n, f))]) := by
    intro n9
    induction n9 with
    | zero => intro j hm9 q1 q2; exfalso; omega
    | succ n9 ih =>
      intro j hm9 q1 q2
      refine ne_iload_n X dX3_number_2 rfl ?_
      refine ne_aload_n X dX3_number_3 rfl ?_
      refine ne_alen X dX3_number_4 rfl (by decide) ?_
      refine ne_iconst X dX3_number_5 ?_
      refine ne_isub X dX3_number_6 ?_
      refine ne_icmp_ge (tgt := 22) X dX3_number_7 rfl (by omega) (by omega) (fun b7 => ?_) (fun b7 => ?_)
      · refine ne_aload_n X dX3_number_22 rfl ?_
        refine ne_iload_n X dX3_number_23 rfl ?_
        refine ne_callS X nw_Tg (me_X3_written l hl _ _ _ (by omega) hf (by omega)) nw_yX3_written nw_mX3_156 nw_sX3_written dX3_number_24 rfl rfl (by decide) (by decide) (by first | decide | omega) (by first | decide | omega) (Nat.le_of_ble_eq_true rfl) rfl rfl (Nat.le_of_ble_eq_true rfl) ?_ ?_
        rotate_left
        · rintro E9 w9 h9; exact h9.elim
        rintro v24 w24 ⟨rfl, rfl⟩
        exact ne_aret X hr (by first | exact Or.inl ⟨_, rfl⟩ | exact Or.inr ⟨_, rfl⟩) dX3_number_27 ⟨rfl, rfl⟩
      · refine ne_aload_n X dX3_number_10 rfl ?_
        refine ne_iload_n X dX3_number_11 rfl ?_
        refine ne_ialdR X dX3_number_12 rfl (by omega) hf (fun v12 e12 f12 u12 => ?_)
        refine ne_if_ne (tgt := 22) X dX3_number_13 rfl (by omega) (fun b13 => ?_) (fun b13 => ?_)
        · refine ne_aload_n X dX3_number_22 rfl ?_
          refine ne_iload_n X dX3_number_23 rfl ?_
          refine ne_callS X nw_Tg (me_X3_written l hl _ _ _ (by omega) hf (by omega)) nw_yX3_written nw_mX3_156 nw_sX3_written dX3_number_24 rfl rfl (by decide) (by decide) (by first | decide | omega) (by first | decide | omega) (Nat.le_of_ble_eq_true rfl) rfl rfl (Nat.le_of_ble_eq_true rfl) ?_ ?_
          rotate_left
          · rintro E9 w9 h9; exact h9.elim
          rintro v24 w24 ⟨rfl, rfl⟩
          exact ne_aret X hr (by first | exact Or.inl ⟨_, rfl⟩ | exact Or.inr ⟨_, rfl⟩) dX3_number_27 ⟨rfl, rfl⟩
        · refine ne_iinc X dX3_number_16 rfl (by decide) ?_
          refine ne_goto (tgt := 2) X dX3_number_19 rfl ?_
          exact ih (j + 1) (by omega) (by omega) (by omega)
  refine ne_iconst X dX3_number_0 ?_
  refine ne_istore_n X dX3_number_1 rfl (by decide) ?_
  exact lp2 _ 0 (Nat.lt_succ_self _) (by omega) (by omega)
set_option maxRecDepth 100000 in
set_option maxHeartbeats 4000000 in
theorem me_X3_text (l : Launch) (hl : l.stackTraces = false) (c q t b k h : Nat → Int) (vt T : Int) (hI : mI c q t b k h vt T) (hT : 0 ≤ T ∧ T ≤ 1000) (i : Int) (a : Int) (hi : -2147483648 ≤ i ∧ i < 2147483648) (ha : -2147483648 ≤ a ∧ a < 2147483648) : ne_M l nw_cl (.code yX3_text cX3_text 3 (some (.object "java/lang/String"))) nw_T yX3_text 12 580 240 800 [.ref 0, ni i, ni a] (mW c q t b k h vt) (fun v w => (∃ v1, w = mW c q t b k h v1 ++ [none] ∧ mI c q t b k h v1 (T + 1)) ∧ v = some (.ref 7)) (fun _ _ => False) := by
  refine ne_meet (own := RX3) hl rfl (by decide +kernel) (Nat.le_of_ble_eq_true rfl) ?_
  intro D ct A P9 V9 R9 S9 M9 as9 bl9 mt9 C9 ad0 X hr hin ht
  obtain ⟨Ic, Iq, It, Ib, Itb, Igb, Ik, Ih, Iv⟩ := hI
  refine ne_aload_n X dX3_text_0 rfl ?_
  refine ne_iload_n X dX3_text_1 rfl ?_
  refine ne_callS X nw_Tg (me_X3_isNoCell l hl _ _ (by omega)) nw_yX3_isNoCell nw_mX3_66 nw_sX3_isNoCell dX3_text_2 rfl rfl (by decide) (by decide) (by first | decide | omega) (by first | decide | omega) (Nat.le_of_ble_eq_true rfl) rfl rfl (Nat.le_of_ble_eq_true rfl) ?_ ?_
  rotate_left
  · rintro E9 w9 h9; exact h9.elim
  rintro v2 w2 ⟨rfl, z2, rfl, g2⟩
  refine ne_iload_n X dX3_text_5 rfl ?_
  refine ne_iconst X dX3_text_6 ?_
  refine ne_iconst X dX3_text_7 ?_
  refine ne_callS X nw_Tg (me_X3_isOut l hl _ _ _ _ (by omega) (by omega) (by omega)) nw_yX3_isOut nw_mX3_34 nw_sX3_isOut dX3_text_8 rfl rfl (by decide) (by decide) (by first | decide | omega) (by first | decide | omega) (Nat.le_of_ble_eq_true rfl) rfl rfl (Nat.le_of_ble_eq_true rfl) ?_ ?_
  rotate_left
  · rintro E9 w9 h9; exact h9.elim
  rintro v8 w8 ⟨rfl, z8, rfl, g8⟩
  refine ne_callV X nw_Tg (me_X3_refuse l hl c q t b k h vt T (by exact ⟨Ic, Iq, It, Ib, Itb, Igb, Ik, Ih, Iv⟩) (by omega) _ _ (by omega) (by omega)) nw_yX3_refuse nw_mX3_72 nw_iX3_refuse nw_eX3_refuse (ci := 5) rfl rfl rfl dX3_text_11 rfl rfl (by decide) (by decide) (by first | decide | omega) (by first | decide | omega) (Nat.le_of_ble_eq_true rfl) rfl rfl (Nat.le_of_ble_eq_true rfl) ?_ ?_
  rotate_left
  · rintro E9 w9 h9; exact h9.elim
  rintro v11 w11 ⟨u11, rfl, Iv, z11, rfl, g11⟩
  refine ne_if_eq (tgt := 22) X dX3_text_14 rfl (by omega) (fun b14 => ?_) (fun b14 => ?_)
  · refine ne_aload_n X dX3_text_22 rfl ?_
    refine ne_getf X dX3_text_23 nw_fX3_9 rfl rfl ?_
    refine ne_iload_n X dX3_text_26 rfl ?_
    refine ne_ialdR X dX3_text_27 rfl (by omega) Ic (fun v27 e27 f27 u27 => ?_)
    refine ne_i2l (by omega) X dX3_text_28 ?_
    refine ne_aload_n X dX3_text_29 rfl ?_
    refine ne_getf X dX3_text_30 nw_fX3_15 rfl rfl ?_
    refine ne_iload_n X dX3_text_33 rfl ?_
    refine ne_ialdR X dX3_text_34 rfl (by omega) Iq (fun v34 e34 f34 u34 => ?_)
    refine ne_callSF (is := []) X nw_Tg (me_X3_textOf l hl _ _ (by omega) (by omega)) nw_yX3_textOf nw_mX3_128 nw_sX3_textOf dX3_text_35 rfl rfl (by decide) (by decide) (by first | decide | omega) (by first | decide | omega) (Nat.le_of_ble_eq_true rfl) rfl rfl rfl (Nat.le_of_ble_eq_true rfl) (ne_ptb rfl (by decide +kernel) rfl) ?_ ?_
    rotate_left
    · rintro E9 w9 h9; exact h9.elim
    rintro v35 w35 ⟨rfl, rfl⟩
    refine ne_ws (ws' := mW c q t b k h u11 ++ [none]) rfl ?_
    exact ne_aret X hr (by first | exact Or.inl ⟨_, rfl⟩ | exact Or.inr ⟨_, rfl⟩) dX3_text_38 ⟨⟨_, rfl, Ic, Iq, It, Ib, Itb, Igb, Ik, ne_rg_mono Ih (by omega) (by omega), Iv⟩, rfl⟩
  · refine ne_ldcS (tx := "") X dX3_text_17 (by decide +kernel) (Nat.le_of_ble_eq_true rfl) rfl rfl rfl ?_
    refine ne_goto (tgt := 38) X dX3_text_19 rfl ?_
    exact ne_aret X hr (by first | exact Or.inl ⟨_, rfl⟩ | exact Or.inr ⟨_, rfl⟩) dX3_text_38 ⟨⟨_, rfl, Ic, Iq, It, Ib, Itb, Igb, Ik, ne_rg_mono Ih (by omega) (by omega), Iv⟩, rfl⟩
set_option maxRecDepth 100000 in
set_option maxHeartbeats 4000000 in
theorem me_X3_digitsFrom (l : Launch) (hl : l.stackTraces = false) (c q t b k h : Nat → Int) (vt T : Int) (hI : mI c q t b k h vt T) (hT : 0 ≤ T ∧ T ≤ 1000) (i : Int) (p : Int) (m : Int) (hi : -2147483648 ≤ i ∧ i < 2147483648) (hp : -2147483648 ≤ p ∧ p < 2147483648) (hm : -2147483648 ≤ m ∧ m < 2147483648) : ne_M l nw_cl (.code yX3_digitsFrom cX3_digitsFrom 4 (some (.object "java/lang/String"))) nw_T yX3_digitsFrom 12 580 240 800 [.ref 0, ni i, ni p, ni m] (mW c q t b k h vt) (fun v w => (∃ v1, w = mW c q t b k h v1 ++ [none] ∧ mI c q t b k h v1 (T + 1)) ∧ v = some (.ref 7)) (fun _ _ => False) := by
  refine ne_meet (own := RX3) hl rfl (by decide +kernel) (Nat.le_of_ble_eq_true rfl) ?_
  intro D ct A P9 V9 R9 S9 M9 as9 bl9 mt9 C9 ad0 X hr hin ht
  obtain ⟨Ic, Iq, It, Ib, Itb, Igb, Ik, Ih, Iv⟩ := hI
  refine ne_aload_n X dX3_digitsFrom_0 rfl ?_
  refine ne_iload_n X dX3_digitsFrom_1 rfl ?_
  refine ne_callS X nw_Tg (me_X3_isNoWheel l hl _ _ (by omega)) nw_yX3_isNoWheel nw_mX3_104 nw_sX3_isNoWheel dX3_digitsFrom_2 rfl rfl (by decide) (by decide) (by first | decide | omega) (by first | decide | omega) (Nat.le_of_ble_eq_true rfl) rfl rfl (Nat.le_of_ble_eq_true rfl) ?_ ?_
  rotate_left
  · rintro E9 w9 h9; exact h9.elim
  rintro v2 w2 ⟨rfl, z2, rfl, g2⟩
  refine ne_iload_n X dX3_digitsFrom_5 rfl ?_
  refine ne_iconst X dX3_digitsFrom_6 ?_
  refine ne_sipush (v := 200) (by decide) X dX3_digitsFrom_7 ?_
  refine ne_callS X nw_Tg (me_X3_isOut l hl _ _ _ _ (by omega) (by omega) (by omega)) nw_yX3_isOut nw_mX3_34 nw_sX3_isOut dX3_digitsFrom_10 rfl rfl (by decide) (by decide) (by first | decide | omega) (by first | decide | omega) (Nat.le_of_ble_eq_true rfl) rfl rfl (Nat.le_of_ble_eq_true rfl) ?_ ?_
  rotate_left
  · rintro E9 w9 h9; exact h9.elim
  rintro v10 w10 ⟨rfl, z10, rfl, g10⟩
  refine ne_if_ne (tgt := 26) X dX3_digitsFrom_13 rfl (by omega) (fun b13 => ?_) (fun b13 => ?_)
  · refine ne_iconst X dX3_digitsFrom_26 ?_
    refine ne_goto (tgt := 31) X dX3_digitsFrom_27 rfl ?_
    refine ne_callV X nw_Tg (me_X3_refuse l hl c q t b k h vt T (by exact ⟨Ic, Iq, It, Ib, Itb, Igb, Ik, Ih, Iv⟩) (by omega) _ _ (by omega) (by omega)) nw_yX3_refuse nw_mX3_72 nw_iX3_refuse nw_eX3_refuse (ci := 5) rfl rfl rfl dX3_digitsFrom_31 rfl rfl (by decide) (by decide) (by first | decide | omega) (by first | decide | omega) (Nat.le_of_ble_eq_true rfl) rfl rfl (Nat.le_of_ble_eq_true rfl) ?_ ?_
    rotate_left
    · rintro E9 w9 h9; exact h9.elim
    rintro v31 w31 ⟨u31, rfl, Iv, z31, rfl, g31⟩
    refine ne_if_eq (tgt := 42) X dX3_digitsFrom_34 rfl (by omega) (fun b34 => ?_) (fun b34 => ?_)
    · exfalso; omega
    · refine ne_ldcS (tx := "") X dX3_digitsFrom_37 (by decide +kernel) (Nat.le_of_ble_eq_true rfl) rfl rfl rfl ?_
      refine ne_goto (tgt := 53) X dX3_digitsFrom_39 rfl ?_
      exact ne_aret X hr (by first | exact Or.inl ⟨_, rfl⟩ | exact Or.inr ⟨_, rfl⟩) dX3_digitsFrom_53 ⟨⟨_, rfl, Ic, Iq, It, Ib, Itb, Igb, Ik, ne_rg_mono Ih (by omega) (by omega), Iv⟩, rfl⟩
  · refine ne_iload_n X dX3_digitsFrom_16 rfl ?_
    refine ne_iconst X dX3_digitsFrom_17 ?_
    refine ne_bipush (v := 16) (by decide) X dX3_digitsFrom_18 ?_
    refine ne_callS X nw_Tg (me_X3_isOut l hl _ _ _ _ (by omega) (by omega) (by omega)) nw_yX3_isOut nw_mX3_34 nw_sX3_isOut dX3_digitsFrom_20 rfl rfl (by decide) (by decide) (by first | decide | omega) (by first | decide | omega) (Nat.le_of_ble_eq_true rfl) rfl rfl (Nat.le_of_ble_eq_true rfl) ?_ ?_
    rotate_left
    · rintro E9 w9 h9; exact h9.elim
    rintro v20 w20 ⟨rfl, z20, rfl, g20⟩
    refine ne_if_eq (tgt := 30) X dX3_digitsFrom_23 rfl (by omega) (fun b23 => ?_) (fun b23 => ?_)
    · refine ne_iconst X dX3_digitsFrom_30 ?_
      refine ne_callV X nw_Tg (me_X3_refuse l hl c q t b k h vt T (by exact ⟨Ic, Iq, It, Ib, Itb, Igb, Ik, Ih, Iv⟩) (by omega) _ _ (by omega) (by omega)) nw_yX3_refuse nw_mX3_72 nw_iX3_refuse nw_eX3_refuse (ci := 5) rfl rfl rfl dX3_digitsFrom_31 rfl rfl (by decide) (by decide) (by first | decide | omega) (by first | decide | omega) (Nat.le_of_ble_eq_true rfl) rfl rfl (Nat.le_of_ble_eq_true rfl) ?_ ?_
      rotate_left
      · rintro E9 w9 h9; exact h9.elim
      rintro v31 w31 ⟨u31, rfl, Iv, z31, rfl, g31⟩
      refine ne_if_eq (tgt := 42) X dX3_digitsFrom_34 rfl (by omega) (fun b34 => ?_) (fun b34 => ?_)
      · refine ne_aload_n X dX3_digitsFrom_42 rfl ?_
        refine ne_iload_n X dX3_digitsFrom_43 rfl ?_
        refine ne_iload_n X dX3_digitsFrom_44 rfl ?_
        refine ne_iload_n X dX3_digitsFrom_45 rfl ?_
        refine ne_callV X nw_Tg (me_X3_row l hl c q t b k h u31 T (by exact ⟨Ic, Iq, It, Ib, Itb, Igb, Ik, Ih, Iv⟩) (by omega) _ _ _ (by omega) (by omega) (by omega)) nw_yX3_row nw_mX3_160 nw_iX3_row nw_eX3_row (ci := 5) rfl rfl rfl dX3_digitsFrom_46 rfl rfl (by decide) (by decide) (by first | decide | omega) (by first | decide | omega) (Nat.le_of_ble_eq_true rfl) rfl rfl (Nat.le_of_ble_eq_true rfl) ?_ ?_
        rotate_left
        · rintro E9 w9 h9; exact h9.elim
        rintro v46 w46 ⟨n46, r46, rfl, N46, R46, rfl⟩
        refine ne_iconst X dX3_digitsFrom_49 ?_
        refine ne_callSF (is := [7]) X nw_Tg (me_X3_written l hl n46 r46 _ (by omega) R46 (by omega)) nw_yX3_written nw_mX3_156 nw_sX3_written dX3_digitsFrom_50 rfl rfl (by decide) (by decide) (by first | decide | omega) (by first | decide | omega) (Nat.le_of_ble_eq_true rfl) rfl rfl rfl (Nat.le_of_ble_eq_true rfl) (ne_ptb rfl (by decide +kernel) rfl) ?_ ?_
        rotate_left
        · rintro E9 w9 h9; exact h9.elim
        rintro v50 w50 ⟨rfl, rfl⟩
        refine ne_ws (ws' := mW c q t b k h u31 ++ [some (.inl (0, n46, r46)), none]) rfl ?_
        refine ne_lnil ?_
        refine ne_forget [7] ?_
        refine ne_viewb [0, 1, 2, 3, 4, 5, 6, 8] (ws' := mW c q t b k h u31 ++ [none]) (L' := []) (st' := [.ref 7]) rfl (by decide) rfl rfl rfl rfl ?_
        exact ne_aret X hr (by first | exact Or.inl ⟨_, rfl⟩ | exact Or.inr ⟨_, rfl⟩) dX3_digitsFrom_53 ⟨⟨_, rfl, Ic, Iq, It, Ib, Itb, Igb, Ik, ne_rg_mono Ih (by omega) (by omega), Iv⟩, rfl⟩
      · refine ne_ldcS (tx := "") X dX3_digitsFrom_37 (by decide +kernel) (Nat.le_of_ble_eq_true rfl) rfl rfl rfl ?_
        refine ne_goto (tgt := 53) X dX3_digitsFrom_39 rfl ?_
        exact ne_aret X hr (by first | exact Or.inl ⟨_, rfl⟩ | exact Or.inr ⟨_, rfl⟩) dX3_digitsFrom_53 ⟨⟨_, rfl, Ic, Iq, It, Ib, Itb, Igb, Ik, ne_rg_mono Ih (by omega) (by omega), Iv⟩, rfl⟩
    · refine ne_iconst X dX3_digitsFrom_26 ?_
      refine ne_goto (tgt := 31) X dX3_digitsFrom_27 rfl ?_
      refine ne_callV X nw_Tg (me_X3_refuse l hl c q t b k h vt T (by exact ⟨Ic, Iq, It, Ib, Itb, Igb, Ik, Ih, Iv⟩) (by omega) _ _ (by omega) (by omega)) nw_yX3_refuse nw_mX3_72 nw_iX3_refuse nw_eX3_refuse (ci := 5) rfl rfl rfl dX3_digitsFrom_31 rfl rfl (by decide) (by decide) (by first | decide | omega) (by first | decide | omega) (Nat.le_of_ble_eq_true rfl) rfl rfl (Nat.le_of_ble_eq_true rfl) ?_ ?_
      rotate_left
      · rintro E9 w9 h9; exact h9.elim
      rintro v31 w31 ⟨u31, rfl, Iv, z31, rfl, g31⟩
      refine ne_if_eq (tgt := 42) X dX3_digitsFrom_34 rfl (by omega) (fun b34 => ?_) (fun b34 => ?_)
      · exfalso; omega
      · refine ne_ldcS (tx := "") X dX3_digitsFrom_37 (by decide +kernel) (Nat.le_of_ble_eq_true rfl) rfl rfl rfl ?_
        refine ne_goto (tgt := 53) X dX3_digitsFrom_39 rfl ?_
        exact ne_aret X hr (by first | exact Or.inl ⟨_, rfl⟩ | exact Or.inr ⟨_, rfl⟩) dX3_digitsFrom_53 ⟨⟨_, rfl, Ic, Iq, It, Ib, Itb, Igb, Ik, ne_rg_mono Ih (by omega) (by omega), Iv⟩, rfl⟩
set_option maxRecDepth 100000 in
set_option maxHeartbeats 4000000 in
theorem me_X3_cutText (l : Launch) (hl : l.stackTraces = false) (c q t b k h : Nat → Int) (vt T : Int) (hI : mI c q t b k h vt T) (hT : 0 ≤ T ∧ T ≤ 1000) (i : Int) (m : Int) (p : Int) (w0 : Int) (hi : -2147483648 ≤ i ∧ i < 2147483648) (hm : 0 ≤ m ∧ m ≤ 1) (hp : -2147483648 ≤ p ∧ p < 2147483648) (hw0 : -2147483648 ≤ w0 ∧ w0 < 2147483648) : ne_M l nw_cl (.code yX3_cutText cX3_cutText 7 (some (.object "java/lang/String"))) nw_T yX3_cutText 12 580 240 800 [.ref 0, ni i, ni m, ni p, ni w0] (mW c q t b k h vt) (fun v w => (∃ v1, w = mW c q t b k h v1 ++ [none] ∧ mI c q t b k h v1 (T + 1)) ∧ v = some (.ref 7)) (fun _ _ => False) := by
  refine ne_meet (own := RX3) hl rfl (by decide +kernel) (Nat.le_of_ble_eq_true rfl) ?_
  intro D ct A P9 V9 R9 S9 M9 as9 bl9 mt9 C9 ad0 X hr hin ht
  obtain ⟨Ic, Iq, It, Ib, Itb, Igb, Ik, Ih, Iv⟩ := hI
  refine ne_aload_n X dX3_cutText_0 rfl ?_
  refine ne_iload_n X dX3_cutText_1 rfl ?_
  refine ne_callS X nw_Tg (me_X3_isNoWheel l hl _ _ (by omega)) nw_yX3_isNoWheel nw_mX3_104 nw_sX3_isNoWheel dX3_cutText_2 rfl rfl (by decide) (by decide) (by first | decide | omega) (by first | decide | omega) (Nat.le_of_ble_eq_true rfl) rfl rfl (Nat.le_of_ble_eq_true rfl) ?_ ?_
  rotate_left
  · rintro E9 w9 h9; exact h9.elim
  rintro v2 w2 ⟨rfl, z2, rfl, g2⟩
  refine ne_iload_n X dX3_cutText_5 rfl ?_
  refine ne_iload X dX3_cutText_6 rfl ?_
  refine ne_bipush (v := 16) (by decide) X dX3_cutText_8 ?_
  refine ne_callS X nw_Tg (me_X3_isNoCut l hl _ _ _ _ (by omega) (by omega) (by omega)) nw_yX3_isNoCut nw_mX3_87 nw_sX3_isNoCut dX3_cutText_10 rfl rfl (by decide) (by decide) (by first | decide | omega) (by first | decide | omega) (Nat.le_of_ble_eq_true rfl) rfl rfl (Nat.le_of_ble_eq_true rfl) ?_ ?_
  rotate_left
  · rintro E9 w9 h9; exact h9.elim
  rintro v10 w10 ⟨rfl, z10, rfl, g10⟩
  refine ne_callV X nw_Tg (me_X3_refuse l hl c q t b k h vt T (by exact ⟨Ic, Iq, It, Ib, Itb, Igb, Ik, Ih, Iv⟩) (by omega) _ _ (by omega) (by omega)) nw_yX3_refuse nw_mX3_72 nw_iX3_refuse nw_eX3_refuse (ci := 5) rfl rfl rfl dX3_cutText_13 rfl rfl (by decide) (by decide) (by first | decide | omega) (by first | decide | omega) (Nat.le_of_ble_eq_true rfl) rfl rfl (Nat.le_of_ble_eq_true rfl) ?_ ?_
  rotate_left
  · rintro E9 w9 h9; exact h9.elim
  rintro v13 w13 ⟨u13, rfl, Iv, z13, rfl, g13⟩
  refine ne_if_eq (tgt := 22) X dX3_cutText_16 rfl (by omega) (fun b16 => ?_) (fun b16 => ?_)
  · refine ne_aload_n X dX3_cutText_22 rfl ?_
    refine ne_iload_n X dX3_cutText_23 rfl ?_
    refine ne_iload_n X dX3_cutText_24 rfl ?_
    refine ne_iload_n X dX3_cutText_25 rfl ?_
    refine ne_iload X dX3_cutText_26 rfl ?_
    refine ne_callV X nw_Tg (me_X3_cutOf l hl c q t b k h u13 T (by exact ⟨Ic, Iq, It, Ib, Itb, Igb, Ik, Ih, Iv⟩) (by omega) _ _ _ _ (by omega) (by omega) (by omega) (by omega)) nw_yX3_cutOf nw_mX3_107 nw_iX3_cutOf nw_eX3_cutOf (ci := 5) rfl rfl rfl dX3_cutText_28 rfl rfl (by decide) (by decide) (by first | decide | omega) (by first | decide | omega) (Nat.le_of_ble_eq_true rfl) rfl rfl (Nat.le_of_ble_eq_true rfl) ?_ ?_
    rotate_left
    · rintro E9 w9 h9; exact h9.elim
    rintro v28 w28 ⟨rfl, z28, rfl, g28⟩
    refine ne_lstore X dX3_cutText_31 (by decide) ?_
    refine ne_lload X dX3_cutText_33 rfl ?_
    refine ne_ldc2 (z := -9223372036854775808) (by decide) nw_cX3_44 X dX3_cutText_35 ?_
    refine ne_lcif_ne (tgt := 47) X dX3_cutText_38 dX3_cutText_39 rfl (by omega) (by omega) (fun b39 => ?_) (fun b39 => ?_)
    · refine ne_lload X dX3_cutText_47 rfl ?_
      refine ne_iload_n X dX3_cutText_49 rfl ?_
      refine ne_callSF (is := []) X nw_Tg (me_X3_textOf l hl _ _ (by omega) (by omega)) nw_yX3_textOf nw_mX3_128 nw_sX3_textOf dX3_cutText_50 rfl rfl (by decide) (by decide) (by first | decide | omega) (by first | decide | omega) (Nat.le_of_ble_eq_true rfl) rfl rfl rfl (Nat.le_of_ble_eq_true rfl) (ne_ptb rfl (by decide +kernel) rfl) ?_ ?_
      rotate_left
      · rintro E9 w9 h9; exact h9.elim
      rintro v50 w50 ⟨rfl, rfl⟩
      refine ne_ws (ws' := mW c q t b k h u13 ++ [none]) rfl ?_
      exact ne_aret X hr (by first | exact Or.inl ⟨_, rfl⟩ | exact Or.inr ⟨_, rfl⟩) dX3_cutText_53 ⟨⟨_, rfl, Ic, Iq, It, Ib, Itb, Igb, Ik, ne_rg_mono Ih (by omega) (by omega), Iv⟩, rfl⟩
    · refine ne_ldcS (tx := "-9") X dX3_cutText_42 (by decide +kernel) (Nat.le_of_ble_eq_true rfl) rfl rfl rfl ?_
      refine ne_goto (tgt := 53) X dX3_cutText_44 rfl ?_
      exact ne_aret X hr (by first | exact Or.inl ⟨_, rfl⟩ | exact Or.inr ⟨_, rfl⟩) dX3_cutText_53 ⟨⟨_, rfl, Ic, Iq, It, Ib, Itb, Igb, Ik, ne_rg_mono Ih (by omega) (by omega), Iv⟩, rfl⟩
  · refine ne_ldcS (tx := "") X dX3_cutText_19 (by decide +kernel) (Nat.le_of_ble_eq_true rfl) rfl rfl rfl ?_
    exact ne_aret X hr (by first | exact Or.inl ⟨_, rfl⟩ | exact Or.inr ⟨_, rfl⟩) dX3_cutText_21 ⟨⟨_, rfl, Ic, Iq, It, Ib, Itb, Igb, Ik, ne_rg_mono Ih (by omega) (by omega), Iv⟩, rfl⟩
set_option maxRecDepth 100000 in
set_option maxHeartbeats 4000000 in
theorem me_X3_number_ (l : Launch) (hl : l.stackTraces = false) (c q t b k h : Nat → Int) (vt T : Int) (hI : mI c q t b k h vt T) (hT : 0 ≤ T ∧ T ≤ 1000) (i : Int) (hi : -2147483648 ≤ i ∧ i < 2147483648) : ne_M l nw_cl (.code yX3_number_ cX3_number_ 2 (some (.object "java/lang/String"))) nw_T yX3_number_ 12 580 240 800 [.ref 0, ni i] (mW c q t b k h vt) (fun v w => (∃ v1, w = mW c q t b k h v1 ++ [none] ∧ mI c q t b k h v1 (T + 1)) ∧ v = some (.ref 7)) (fun _ _ => False) := by
  refine ne_meet (own := RX3) hl rfl (by decide +kernel) (Nat.le_of_ble_eq_true rfl) ?_
  intro D ct A P9 V9 R9 S9 M9 as9 bl9 mt9 C9 ad0 X hr hin ht
  obtain ⟨Ic, Iq, It, Ib, Itb, Igb, Ik, Ih, Iv⟩ := hI
  refine ne_aload_n X dX3_number__0 rfl ?_
  refine ne_iload_n X dX3_number__1 rfl ?_
  refine ne_callS X nw_Tg (me_X3_isNoWheel l hl _ _ (by omega)) nw_yX3_isNoWheel nw_mX3_104 nw_sX3_isNoWheel dX3_number__2 rfl rfl (by decide) (by decide) (by first | decide | omega) (by first | decide | omega) (Nat.le_of_ble_eq_true rfl) rfl rfl (Nat.le_of_ble_eq_true rfl) ?_ ?_
  rotate_left
  · rintro E9 w9 h9; exact h9.elim
  rintro v2 w2 ⟨rfl, z2, rfl, g2⟩
  refine ne_iconst X dX3_number__5 ?_
  refine ne_callV X nw_Tg (me_X3_refuse l hl c q t b k h vt T (by exact ⟨Ic, Iq, It, Ib, Itb, Igb, Ik, Ih, Iv⟩) (by omega) _ _ (by omega) (by omega)) nw_yX3_refuse nw_mX3_72 nw_iX3_refuse nw_eX3_refuse (ci := 5) rfl rfl rfl dX3_number__6 rfl rfl (by decide) (by decide) (by first | decide | omega) (by first | decide | omega) (Nat.le_of_ble_eq_true rfl) rfl rfl (Nat.le_of_ble_eq_true rfl) ?_ ?_
  rotate_left
  · rintro E9 w9 h9; exact h9.elim
  rintro v6 w6 ⟨u6, rfl, Iv, z6, rfl, g6⟩
  refine ne_if_eq (tgt := 17) X dX3_number__9 rfl (by omega) (fun b9 => ?_) (fun b9 => ?_)
  · refine ne_aload_n X dX3_number__17 rfl ?_
    refine ne_iload_n X dX3_number__18 rfl ?_
    refine ne_iconst X dX3_number__19 ?_
    refine ne_aload_n X dX3_number__20 rfl ?_
    refine ne_iload_n X dX3_number__21 rfl ?_
    refine ne_callV X nw_Tg (me_X3_lengthOf_ l hl c q t b k h u6 T (by exact ⟨Ic, Iq, It, Ib, Itb, Igb, Ik, Ih, Iv⟩) (by omega) _ (by omega)) nw_yX3_lengthOf_ nw_mX3_146 nw_iX3_lengthOf_ nw_eX3_lengthOf_ (ci := 5) rfl rfl rfl dX3_number__22 rfl rfl (by decide) (by decide) (by first | decide | omega) (by first | decide | omega) (Nat.le_of_ble_eq_true rfl) rfl rfl (Nat.le_of_ble_eq_true rfl) ?_ ?_
    rotate_left
    · rintro E9 w9 h9; exact h9.elim
    rintro v22 w22 ⟨rfl, z22, rfl, P22, g22, k22⟩
    refine ne_callV X nw_Tg (me_X3_row l hl c q t b k h u6 T (by exact ⟨Ic, Iq, It, Ib, Itb, Igb, Ik, Ih, Iv⟩) (by omega) _ _ _ (by omega) (by omega) (by omega)) nw_yX3_row nw_mX3_160 nw_iX3_row nw_eX3_row (ci := 5) rfl rfl rfl dX3_number__25 rfl rfl (by decide) (by decide) (by first | decide | omega) (by first | decide | omega) (Nat.le_of_ble_eq_true rfl) rfl rfl (Nat.le_of_ble_eq_true rfl) ?_ ?_
    rotate_left
    · rintro E9 w9 h9; exact h9.elim
    rintro v25 w25 ⟨n25, r25, rfl, N25, R25, rfl⟩
    refine ne_iconst X dX3_number__28 ?_
    refine ne_callSF (is := [7]) X nw_Tg (me_X3_written l hl n25 r25 _ (by omega) R25 (by omega)) nw_yX3_written nw_mX3_156 nw_sX3_written dX3_number__29 rfl rfl (by decide) (by decide) (by first | decide | omega) (by first | decide | omega) (Nat.le_of_ble_eq_true rfl) rfl rfl rfl (Nat.le_of_ble_eq_true rfl) (ne_ptb rfl (by decide +kernel) rfl) ?_ ?_
    rotate_left
    · rintro E9 w9 h9; exact h9.elim
    rintro v29 w29 ⟨rfl, rfl⟩
    refine ne_ws (ws' := mW c q t b k h u6 ++ [some (.inl (0, n25, r25)), none]) rfl ?_
    refine ne_lnil ?_
    refine ne_forget [7] ?_
    refine ne_viewb [0, 1, 2, 3, 4, 5, 6, 8] (ws' := mW c q t b k h u6 ++ [none]) (L' := []) (st' := [.ref 7]) rfl (by decide) rfl rfl rfl rfl ?_
    exact ne_aret X hr (by first | exact Or.inl ⟨_, rfl⟩ | exact Or.inr ⟨_, rfl⟩) dX3_number__32 ⟨⟨_, rfl, Ic, Iq, It, Ib, Itb, Igb, Ik, ne_rg_mono Ih (by omega) (by omega), Iv⟩, rfl⟩
  · refine ne_ldcS (tx := "") X dX3_number__12 (by decide +kernel) (Nat.le_of_ble_eq_true rfl) rfl rfl rfl ?_
    refine ne_goto (tgt := 32) X dX3_number__14 rfl ?_
    exact ne_aret X hr (by first | exact Or.inl ⟨_, rfl⟩ | exact Or.inr ⟨_, rfl⟩) dX3_number__32 ⟨⟨_, rfl, Ic, Iq, It, Ib, Itb, Igb, Ik, ne_rg_mono Ih (by omega) (by omega), Iv⟩, rfl⟩
set_option maxRecDepth 100000 in
set_option maxHeartbeats 4000000 in
theorem me_X3_product (l : Launch) (hl : l.stackTraces = false) (c q t b k h : Nat → Int) (vt T : Int) (hI : mI c q t b k h vt T) (hT : 0 ≤ T ∧ T ≤ 1000) (i : Int) (hi : -2147483648 ≤ i ∧ i < 2147483648) : ne_M l nw_cl (.code yX3_product cX3_product 2 (some (.object "java/lang/String"))) nw_T yX3_product 12 580 240 800 [.ref 0, ni i] (mW c q t b k h vt) (fun v w => (∃ v1, w = mW c q t b k h v1 ++ [none] ∧ mI c q t b k h v1 (T + 1)) ∧ v = some (.ref 7)) (fun _ _ => False) := by
  refine ne_meet (own := RX3) hl rfl (by decide +kernel) (Nat.le_of_ble_eq_true rfl) ?_
  intro D ct A P9 V9 R9 S9 M9 as9 bl9 mt9 C9 ad0 X hr hin ht
  obtain ⟨Ic, Iq, It, Ib, Itb, Igb, Ik, Ih, Iv⟩ := hI
  refine ne_aload_n X dX3_product_0 rfl ?_
  refine ne_iload_n X dX3_product_1 rfl ?_
  refine ne_callS X nw_Tg (me_X3_isNoWheel l hl _ _ (by omega)) nw_yX3_isNoWheel nw_mX3_104 nw_sX3_isNoWheel dX3_product_2 rfl rfl (by decide) (by decide) (by first | decide | omega) (by first | decide | omega) (Nat.le_of_ble_eq_true rfl) rfl rfl (Nat.le_of_ble_eq_true rfl) ?_ ?_
  rotate_left
  · rintro E9 w9 h9; exact h9.elim
  rintro v2 w2 ⟨rfl, z2, rfl, g2⟩
  refine ne_iconst X dX3_product_5 ?_
  refine ne_callV X nw_Tg (me_X3_refuse l hl c q t b k h vt T (by exact ⟨Ic, Iq, It, Ib, Itb, Igb, Ik, Ih, Iv⟩) (by omega) _ _ (by omega) (by omega)) nw_yX3_refuse nw_mX3_72 nw_iX3_refuse nw_eX3_refuse (ci := 5) rfl rfl rfl dX3_product_6 rfl rfl (by decide) (by decide) (by first | decide | omega) (by first | decide | omega) (Nat.le_of_ble_eq_true rfl) rfl rfl (Nat.le_of_ble_eq_true rfl) ?_ ?_
  rotate_left
  · rintro E9 w9 h9; exact h9.elim
  rintro v6 w6 ⟨u6, rfl, Iv, z6, rfl, g6⟩
  refine ne_if_eq (tgt := 17) X dX3_product_9 rfl (by omega) (fun b9 => ?_) (fun b9 => ?_)
  · refine ne_aload_n X dX3_product_17 rfl ?_
    refine ne_iload_n X dX3_product_18 rfl ?_
    refine ne_callV X nw_Tg (me_X3_timesBottom l hl c q t b k h u6 T (by exact ⟨Ic, Iq, It, Ib, Itb, Igb, Ik, Ih, Iv⟩) (by omega) _ (by omega)) nw_yX3_timesBottom nw_mX3_166 nw_iX3_timesBottom nw_eX3_timesBottom (ci := 5) rfl rfl rfl dX3_product_19 rfl rfl (by decide) (by decide) (by first | decide | omega) (by first | decide | omega) (Nat.le_of_ble_eq_true rfl) rfl rfl (Nat.le_of_ble_eq_true rfl) ?_ ?_
    rotate_left
    · rintro E9 w9 h9; exact h9.elim
    rintro v19 w19 ⟨n19, r19, rfl, ⟨L19, P19, N19, k19, i19⟩, R19, rfl⟩
    refine ne_callSF (is := [7]) X nw_Tg (me_X3_number l hl n19 r19 (by omega) R19) nw_yX3_number nw_mX3_170 nw_sX3_number dX3_product_22 rfl rfl (by decide) (by decide) (by first | decide | omega) (by first | decide | omega) (Nat.le_of_ble_eq_true rfl) rfl rfl rfl (Nat.le_of_ble_eq_true rfl) (ne_ptb rfl (by decide +kernel) rfl) ?_ ?_
    rotate_left
    · rintro E9 w9 h9; exact h9.elim
    rintro v22 w22 ⟨rfl, rfl⟩
    refine ne_ws (ws' := mW c q t b k h u6 ++ [some (.inl (0, n19, r19)), none]) rfl ?_
    refine ne_lnil ?_
    refine ne_forget [7] ?_
    refine ne_viewb [0, 1, 2, 3, 4, 5, 6, 8] (ws' := mW c q t b k h u6 ++ [none]) (L' := []) (st' := [.ref 7]) rfl (by decide) rfl rfl rfl rfl ?_
    exact ne_aret X hr (by first | exact Or.inl ⟨_, rfl⟩ | exact Or.inr ⟨_, rfl⟩) dX3_product_25 ⟨⟨_, rfl, Ic, Iq, It, Ib, Itb, Igb, Ik, ne_rg_mono Ih (by omega) (by omega), Iv⟩, rfl⟩
  · refine ne_ldcS (tx := "") X dX3_product_12 (by decide +kernel) (Nat.le_of_ble_eq_true rfl) rfl rfl rfl ?_
    refine ne_goto (tgt := 25) X dX3_product_14 rfl ?_
    exact ne_aret X hr (by first | exact Or.inl ⟨_, rfl⟩ | exact Or.inr ⟨_, rfl⟩) dX3_product_25 ⟨⟨_, rfl, Ic, Iq, It, Ib, Itb, Igb, Ik, ne_rg_mono Ih (by omega) (by omega), Iv⟩, rfl⟩
set_option maxRecDepth 100000 in
set_option maxHeartbeats 4000000 in
theorem me_X3_partSum (l : Launch) (hl : l.stackTraces = false) (c q t b k h : Nat → Int) (vt T : Int) (hI : mI c q t b k h vt T) (hT : 0 ≤ T ∧ T ≤ 1000) (i : Int) (p : Int) (hi : -2147483648 ≤ i ∧ i < 2147483648) (hp : -2147483648 ≤ p ∧ p < 2147483648) : ne_M l nw_cl (.code yX3_partSum cX3_partSum 4 (some (.object "java/lang/String"))) nw_T yX3_partSum 12 580 240 800 [.ref 0, ni i, ni p] (mW c q t b k h vt) (fun v w => (∃ v1, w = mW c q t b k h v1 ++ [none] ∧ mI c q t b k h v1 (T + 1)) ∧ v = some (.ref 7)) (fun _ _ => False) := by
  refine ne_meet (own := RX3) hl rfl (by decide +kernel) (Nat.le_of_ble_eq_true rfl) ?_
  intro D ct A P9 V9 R9 S9 M9 as9 bl9 mt9 C9 ad0 X hr hin ht
  obtain ⟨Ic, Iq, It, Ib, Itb, Igb, Ik, Ih, Iv⟩ := hI
  refine ne_aload_n X dX3_partSum_0 rfl ?_
  refine ne_iload_n X dX3_partSum_1 rfl ?_
  refine ne_callS X nw_Tg (me_X3_isNoWheel l hl _ _ (by omega)) nw_yX3_isNoWheel nw_mX3_104 nw_sX3_isNoWheel dX3_partSum_2 rfl rfl (by decide) (by decide) (by first | decide | omega) (by first | decide | omega) (Nat.le_of_ble_eq_true rfl) rfl rfl (Nat.le_of_ble_eq_true rfl) ?_ ?_
  rotate_left
  · rintro E9 w9 h9; exact h9.elim
  rintro v2 w2 ⟨rfl, z2, rfl, g2⟩
  refine ne_iload_n X dX3_partSum_5 rfl ?_
  refine ne_iconst X dX3_partSum_6 ?_
  refine ne_bipush (v := 12) (by decide) X dX3_partSum_7 ?_
  refine ne_callS X nw_Tg (me_X3_isOut l hl _ _ _ _ (by omega) (by omega) (by omega)) nw_yX3_isOut nw_mX3_34 nw_sX3_isOut dX3_partSum_9 rfl rfl (by decide) (by decide) (by first | decide | omega) (by first | decide | omega) (Nat.le_of_ble_eq_true rfl) rfl rfl (Nat.le_of_ble_eq_true rfl) ?_ ?_
  rotate_left
  · rintro E9 w9 h9; exact h9.elim
  rintro v9 w9 ⟨rfl, z9, rfl, g9⟩
  refine ne_callV X nw_Tg (me_X3_refuse l hl c q t b k h vt T (by exact ⟨Ic, Iq, It, Ib, Itb, Igb, Ik, Ih, Iv⟩) (by omega) _ _ (by omega) (by omega)) nw_yX3_refuse nw_mX3_72 nw_iX3_refuse nw_eX3_refuse (ci := 5) rfl rfl rfl dX3_partSum_12 rfl rfl (by decide) (by decide) (by first | decide | omega) (by first | decide | omega) (Nat.le_of_ble_eq_true rfl) rfl rfl (Nat.le_of_ble_eq_true rfl) ?_ ?_
  rotate_left
  · rintro E9 w9 h9; exact h9.elim
  rintro v12 w12 ⟨u12, rfl, Iv, z12, rfl, g12⟩
  refine ne_if_eq (tgt := 21) X dX3_partSum_15 rfl (by omega) (fun b15 => ?_) (fun b15 => ?_)
  · refine ne_aload_n X dX3_partSum_21 rfl ?_
    refine ne_iload_n X dX3_partSum_22 rfl ?_
    refine ne_iload_n X dX3_partSum_23 rfl ?_
    refine ne_callV X nw_Tg (me_X3_sumOf l hl c q t b k h u12 T (by exact ⟨Ic, Iq, It, Ib, Itb, Igb, Ik, Ih, Iv⟩) (by omega) _ _ (by omega) (by omega)) nw_yX3_sumOf nw_mX3_174 nw_iX3_sumOf nw_eX3_sumOf (ci := 5) rfl rfl rfl dX3_partSum_24 rfl rfl (by decide) (by decide) (by first | decide | omega) (by first | decide | omega) (Nat.le_of_ble_eq_true rfl) rfl rfl (Nat.le_of_ble_eq_true rfl) ?_ ?_
    rotate_left
    · rintro E9 w9 h9; exact h9.elim
    rintro v24 w24 (⟨rfl, rfl⟩ | ⟨n24, r24, rfl, N24, R24, rfl⟩)
    · refine ne_astore_nN X dX3_partSum_27 rfl (by decide) ?_
      refine ne_aload_nN X dX3_partSum_28 rfl ?_
      refine ne_ifnonnullN X dX3_partSum_29 ?_
      refine ne_ldcS (tx := "-9") X dX3_partSum_32 (by decide +kernel) (Nat.le_of_ble_eq_true rfl) rfl rfl rfl ?_
      refine ne_goto (tgt := 41) X dX3_partSum_34 rfl ?_
      exact ne_aret X hr (by first | exact Or.inl ⟨_, rfl⟩ | exact Or.inr ⟨_, rfl⟩) dX3_partSum_41 ⟨⟨_, rfl, Ic, Iq, It, Ib, Itb, Igb, Ik, ne_rg_mono Ih (by omega) (by omega), Iv⟩, rfl⟩
    · refine ne_astore_n X dX3_partSum_27 rfl (by decide) ?_
      refine ne_aload_n X dX3_partSum_28 rfl ?_
      refine ne_ifnonnull (tgt := 37) X dX3_partSum_29 rfl ?_
      refine ne_aload_n X dX3_partSum_37 rfl ?_
      refine ne_callSF (is := [7]) X nw_Tg (me_X3_number l hl n24 r24 (by omega) R24) nw_yX3_number nw_mX3_170 nw_sX3_number dX3_partSum_38 rfl rfl (by decide) (by decide) (by first | decide | omega) (by first | decide | omega) (Nat.le_of_ble_eq_true rfl) rfl rfl rfl (Nat.le_of_ble_eq_true rfl) (ne_ptb rfl (by decide +kernel) rfl) ?_ ?_
      rotate_left
      · rintro E9 w9 h9; exact h9.elim
      rintro v38 w38 ⟨rfl, rfl⟩
      refine ne_ws (ws' := mW c q t b k h u12 ++ [some (.inl (0, n24, r24)), none]) rfl ?_
      refine ne_lnil ?_
      refine ne_forget [7] ?_
      refine ne_viewb [0, 1, 2, 3, 4, 5, 6, 8] (ws' := mW c q t b k h u12 ++ [none]) (L' := []) (st' := [.ref 7]) rfl (by decide) rfl rfl rfl rfl ?_
      exact ne_aret X hr (by first | exact Or.inl ⟨_, rfl⟩ | exact Or.inr ⟨_, rfl⟩) dX3_partSum_41 ⟨⟨_, rfl, Ic, Iq, It, Ib, Itb, Igb, Ik, ne_rg_mono Ih (by omega) (by omega), Iv⟩, rfl⟩
  · refine ne_ldcS (tx := "") X dX3_partSum_18 (by decide +kernel) (Nat.le_of_ble_eq_true rfl) rfl rfl rfl ?_
    exact ne_aret X hr (by first | exact Or.inl ⟨_, rfl⟩ | exact Or.inr ⟨_, rfl⟩) dX3_partSum_20 ⟨⟨_, rfl, Ic, Iq, It, Ib, Itb, Igb, Ik, ne_rg_mono Ih (by omega) (by omega), Iv⟩, rfl⟩
