section NEX
variable {cl : List vw_C} {D : va_G} {ct : Nat → ClassId} {A : Nat → Prop} {n0 : Nat} {ad0 : Nat → Nat} {p : Program} {l : Launch} {e : Env} {R : Room} {s : State} {m : MethodId} {args : Array Value} {below : List Frame} {meth : Method} {c : Code} {Q : State → Prop} {own : String} {cc : ByteArray} {nL : Nat} {Ts : List Cond} {fr lo mc ms C S pc : Nat} {L : List (Option Value)} {st : List Value} {ws : ne_W}
theorem ne_lnil (kk : ne_G cl D ct A n0 ad0 p l e R s m args below meth c Q nL mc ms C S pc [] st ws) : ne_G cl D ct A n0 ad0 p l e R s m args below meth c Q nL mc ms C S pc L st ws := fun H locs cells slots ad ls h1 h2 h3 h4 h5 h6 h7 => kk H locs cells slots ad ls h1 h2 h3 h4 h5 h6 ⟨h7.1, h7.2.1, fun q hq => by cases hq⟩
end NEX
set_option maxRecDepth 100000 in
set_option maxHeartbeats 4000000 in
theorem me_X1_decimalText (l : Launch) (hl : l.stackTraces = false) (a p : Int) (ha : -9000000000000000000 ≤ a ∧ a ≤ 9000000000000000000) (hp : 0 ≤ p ∧ p ≤ 16) : ne_M l nw_cl (.code yX1_decimalText cX1_decimalText 8 (some (.object "java/lang/String"))) nw_T yX1_decimalText 10 470 140 320 [nl a, ni p] [] (fun v w => v = some (.ref 0) ∧ w = [none]) (fun _ _ => False) := by
  refine ne_meet (own := RX1) hl rfl (by decide +kernel) (Nat.le_of_ble_eq_true rfl) ?_
  intro D ct A P9 V9 R9 S9 M9 as9 bl9 mt9 C9 ad0 X hr hin ht
  have lp29 : ∀ (n9 : Nat) (s cnt : Int) (nn : Nat) (fb : Nat → Int) (r j : Int), (s - j).toNat < n9 → (0 ≤ j) → (j ≤ s) → (s ≤ 20) → (0 ≤ cnt) → (cnt ≤ 2 * j) → (cnt ≤ nn) → (nn ≤ 90) → (0 ≤ r) → (r ≤ 9000000000000000000) → (ne_rg fb (-128) 127) → ne_G nw_cl D ct A 0 ad0 P9 l V9 R9 S9 M9 as9 bl9 mt9 C9 (ne_O nw_cl D ct ad0 0 A bl9 as9 S9 140 320 (fun v w => v = some (.ref 0) ∧ w = [none]) (fun _ _ => False)) 8 140 320 (100 - nn + 2) (2 * (100 - nn) + 60) 29 [some (nl a), none, some (ni p), some (.ref 0), some (ni s), some (nl r), none, some (ni j)] [] (sB cnt nn fb) := by
    intro n9
    induction n9 with
    | zero => intro s cnt nn fb r j hm9 q1 q2 q3 q4 q5 q6 q7 q8 q9 Ib; exfalso; omega
    | succ n9 ih =>
      intro s cnt nn fb r j hm9 q1 q2 q3 q4 q5 q6 q7 q8 q9 Ib
      have t9 := ne_t10 r q8
      refine ne_iload X dX1_decimalText_29 rfl ?_
      refine ne_iload X dX1_decimalText_31 rfl ?_
      refine ne_icmp_ge (tgt := 82) X dX1_decimalText_33 rfl (by omega) (by omega) (fun b33 => ?_) (fun b33 => ?_)
      · refine ne_lload_n X dX1_decimalText_82 rfl ?_
        refine ne_lconst (z := 0) (by decide) X dX1_decimalText_83 ?_
        refine ne_lcif_ge (tgt := 95) X dX1_decimalText_84 dX1_decimalText_85 rfl (by omega) (by omega) (fun b85 => ?_) (fun b85 => ?_)
        · refine ne_aload_n X dX1_decimalText_95 rfl ?_
          refine ne_callVK (is := [0, 1]) (nk := 2) X nw_Tg (me_J4_reverse_43fcb l hl (cnt) nn fb (by omega) (by omega) Ib) nw_yJ4_reverse_43fcb nw_mX1_263 nw_iJ4_reverse_43fcb nw_eJ4_reverse_43fcb (ci := 1) rfl rfl rfl dX1_decimalText_96 rfl rfl (by decide) (by decide) (by first | decide | omega) (by first | decide | omega) (Nat.le_of_ble_eq_true rfl) rfl rfl rfl rfl (Nat.le_of_ble_eq_true rfl) (ne_ptb rfl (by decide +kernel) rfl) ?_ ?_
          rotate_left
          · rintro E9 w9 h9; exact h9.elim
          rintro v96 w96 ⟨rfl, f96, rfl, r96⟩
          refine ne_ws (ws' := [some (.inr (1, [.ref 1, ni 0, ni 0, ni (cnt)])), some (.inl (1, nn, f96))]) rfl ?_
          refine ne_callVK (is := [0, 1]) (nk := 2) X nw_Tg (me_J4_toString_0e30d l hl (cnt) nn f96 (by omega) (by omega) r96) nw_yJ4_toString_0e30d nw_mX1_267 nw_iJ4_toString_0e30d nw_eJ4_toString_0e30d (ci := 1) rfl rfl rfl dX1_decimalText_99 rfl rfl (by decide) (by decide) (by first | decide | omega) (by first | decide | omega) (Nat.le_of_ble_eq_true rfl) rfl rfl rfl rfl (Nat.le_of_ble_eq_true rfl) (ne_ptb rfl (by decide +kernel) rfl) ?_ ?_
          rotate_left
          · rintro E9 w9 h9; exact h9.elim
          rintro v99 w99 ⟨rfl, a99, b99, rfl⟩
          refine ne_lnil ?_
          refine ne_forget [2] ?_
          refine ne_viewb [2] (ws' := [none]) (L' := []) (st' := [.ref 0]) rfl (by decide) rfl rfl rfl rfl ?_
          exact ne_aret X hr (by first | exact Or.inl ⟨_, rfl⟩ | exact Or.inr ⟨_, rfl⟩) dX1_decimalText_102 ⟨rfl, rfl⟩
        · refine ne_aload_n X dX1_decimalText_88 rfl ?_
          refine ne_bipush (v := 45) (by decide) X dX1_decimalText_89 ?_
          refine ne_callVK (is := [0, 1]) (nk := 1) X nw_Tg (me_app l hl (cnt) nn fb (by omega) (by omega) Ib _ (by omega) (by omega)) nw_yJ4_append_cf468 nw_mX1_255 nw_iJ4_append_cf468 nw_eJ4_append_cf468 (ci := 1) rfl rfl rfl dX1_decimalText_91 rfl rfl (by decide) (by decide) (by split <;> omega) (by split <;> omega) (Nat.le_of_ble_eq_true rfl) rfl rfl rfl rfl (Nat.le_of_ble_eq_true rfl) (ne_ptb rfl (by decide +kernel) rfl) ?_ ?_
          rotate_left
          · rintro E9 w9 h9; exact h9.elim
          rintro v91 w91 ⟨rfl, n91, f91, rfl, r91, d91⟩
          refine ne_ws (ws' := [some (.inr (1, [.ref 1, ni 0, ni 0, ni (cnt + 1)])), some (.inl (1, n91, f91))]) rfl ?_
          refine ne_less (C' := (100 - n91 + 2)) (S' := (2 * (100 - n91) + 60)) (by split <;> omega) (by split <;> omega) ?_
          refine ne_popa X dX1_decimalText_94 ?_
          refine ne_aload_n X dX1_decimalText_95 rfl ?_
          refine ne_callVK (is := [0, 1]) (nk := 2) X nw_Tg (me_J4_reverse_43fcb l hl (cnt + 1) n91 f91 (by omega) (by omega) r91) nw_yJ4_reverse_43fcb nw_mX1_263 nw_iJ4_reverse_43fcb nw_eJ4_reverse_43fcb (ci := 1) rfl rfl rfl dX1_decimalText_96 rfl rfl (by decide) (by decide) (by first | decide | omega) (by first | decide | omega) (Nat.le_of_ble_eq_true rfl) rfl rfl rfl rfl (Nat.le_of_ble_eq_true rfl) (ne_ptb rfl (by decide +kernel) rfl) ?_ ?_
          rotate_left
          · rintro E9 w9 h9; exact h9.elim
          rintro v96 w96 ⟨rfl, f96, rfl, r96⟩
          refine ne_ws (ws' := [some (.inr (1, [.ref 1, ni 0, ni 0, ni (cnt + 1)])), some (.inl (1, n91, f96))]) rfl ?_
          refine ne_callVK (is := [0, 1]) (nk := 2) X nw_Tg (me_J4_toString_0e30d l hl (cnt + 1) n91 f96 (by omega) (by omega) r96) nw_yJ4_toString_0e30d nw_mX1_267 nw_iJ4_toString_0e30d nw_eJ4_toString_0e30d (ci := 1) rfl rfl rfl dX1_decimalText_99 rfl rfl (by decide) (by decide) (by first | decide | omega) (by first | decide | omega) (Nat.le_of_ble_eq_true rfl) rfl rfl rfl rfl (Nat.le_of_ble_eq_true rfl) (ne_ptb rfl (by decide +kernel) rfl) ?_ ?_
          rotate_left
          · rintro E9 w9 h9; exact h9.elim
          rintro v99 w99 ⟨rfl, a99, b99, rfl⟩
          refine ne_lnil ?_
          refine ne_forget [2] ?_
          refine ne_viewb [2] (ws' := [none]) (L' := []) (st' := [.ref 0]) rfl (by decide) rfl rfl rfl rfl ?_
          exact ne_aret X hr (by first | exact Or.inl ⟨_, rfl⟩ | exact Or.inr ⟨_, rfl⟩) dX1_decimalText_102 ⟨rfl, rfl⟩
      · refine ne_iload X dX1_decimalText_36 rfl ?_
        refine ne_iload_n X dX1_decimalText_38 rfl ?_
        refine ne_icmp_ne (tgt := 53) X dX1_decimalText_39 rfl (by omega) (by omega) (fun b39 => ?_) (fun b39 => ?_)
        · refine ne_aload_n X dX1_decimalText_53 rfl ?_
          refine ne_lload X dX1_decimalText_54 rfl ?_
          refine ne_ldc2 (z := 10) (by decide) nw_cX1_92 X dX1_decimalText_56 ?_
          refine ne_lrem X dX1_decimalText_59 (by omega) (by omega) (by omega) ?_
          refine ne_l2i X dX1_decimalText_60 ?_
          refine ne_callS X nw_Tg (me_X1_signOfDigit l hl _ _ (by omega)) nw_yX1_signOfDigit nw_mX1_259 nw_sX1_signOfDigit dX1_decimalText_61 rfl rfl (by decide) (by decide) (by first | decide | omega) (by first | decide | omega) (Nat.le_of_ble_eq_true rfl) rfl rfl (Nat.le_of_ble_eq_true rfl) ?_ ?_
          rotate_left
          · rintro E9 w9 h9; exact h9.elim
          rintro v61 w61 ⟨rfl, z61, rfl, g61⟩
          refine ne_callVK (is := [0, 1]) (nk := 1) X nw_Tg (me_app l hl (cnt) nn fb (by omega) (by omega) Ib _ (by omega) (by omega)) nw_yJ4_append_cf468 nw_mX1_255 nw_iJ4_append_cf468 nw_eJ4_append_cf468 (ci := 1) rfl rfl rfl dX1_decimalText_64 rfl rfl (by decide) (by decide) (by split <;> omega) (by split <;> omega) (Nat.le_of_ble_eq_true rfl) rfl rfl rfl rfl (Nat.le_of_ble_eq_true rfl) (ne_ptb rfl (by decide +kernel) rfl) ?_ ?_
          rotate_left
          · rintro E9 w9 h9; exact h9.elim
          rintro v64 w64 ⟨rfl, n64, f64, rfl, r64, d64⟩
          refine ne_ws (ws' := [some (.inr (1, [.ref 1, ni 0, ni 0, ni (cnt + 1)])), some (.inl (1, n64, f64))]) rfl ?_
          refine ne_less (C' := (100 - n64 + 2)) (S' := (2 * (100 - n64) + 60)) (by split <;> omega) (by split <;> omega) ?_
          refine ne_popa X dX1_decimalText_67 ?_
          refine ne_lload X dX1_decimalText_68 rfl ?_
          refine ne_ldc2 (z := 10) (by decide) nw_cX1_92 X dX1_decimalText_70 ?_
          refine ne_ldiv X dX1_decimalText_73 (by omega) (by omega) (by omega) ?_
          refine ne_lstore X dX1_decimalText_74 (by decide) ?_
          refine ne_iinc X dX1_decimalText_76 rfl (by decide) ?_
          refine ne_ll (L' := [some (nl _), none, some (ni _), some (.ref 0), some (ni _), some (nl _), none, some (ni _)]) rfl ?_
          refine ne_goto (tgt := 29) X dX1_decimalText_79 rfl ?_
          exact ih s (cnt + 1) n64 f64 _ (j + 1) (by omega) (by omega) (by omega) (by omega) (by omega) (by omega) (by omega) (by omega) (by omega) (by omega) r64
        · refine ne_iload_n X dX1_decimalText_42 rfl ?_
          refine ne_if_le (tgt := 53) X dX1_decimalText_43 rfl (by omega) (fun b43 => ?_) (fun b43 => ?_)
          · refine ne_aload_n X dX1_decimalText_53 rfl ?_
            refine ne_lload X dX1_decimalText_54 rfl ?_
            refine ne_ldc2 (z := 10) (by decide) nw_cX1_92 X dX1_decimalText_56 ?_
            refine ne_lrem X dX1_decimalText_59 (by omega) (by omega) (by omega) ?_
            refine ne_l2i X dX1_decimalText_60 ?_
            refine ne_callS X nw_Tg (me_X1_signOfDigit l hl _ _ (by omega)) nw_yX1_signOfDigit nw_mX1_259 nw_sX1_signOfDigit dX1_decimalText_61 rfl rfl (by decide) (by decide) (by first | decide | omega) (by first | decide | omega) (Nat.le_of_ble_eq_true rfl) rfl rfl (Nat.le_of_ble_eq_true rfl) ?_ ?_
            rotate_left
            · rintro E9 w9 h9; exact h9.elim
            rintro v61 w61 ⟨rfl, z61, rfl, g61⟩
            refine ne_callVK (is := [0, 1]) (nk := 1) X nw_Tg (me_app l hl (cnt) nn fb (by omega) (by omega) Ib _ (by omega) (by omega)) nw_yJ4_append_cf468 nw_mX1_255 nw_iJ4_append_cf468 nw_eJ4_append_cf468 (ci := 1) rfl rfl rfl dX1_decimalText_64 rfl rfl (by decide) (by decide) (by split <;> omega) (by split <;> omega) (Nat.le_of_ble_eq_true rfl) rfl rfl rfl rfl (Nat.le_of_ble_eq_true rfl) (ne_ptb rfl (by decide +kernel) rfl) ?_ ?_
            rotate_left
            · rintro E9 w9 h9; exact h9.elim
            rintro v64 w64 ⟨rfl, n64, f64, rfl, r64, d64⟩
            refine ne_ws (ws' := [some (.inr (1, [.ref 1, ni 0, ni 0, ni (cnt + 1)])), some (.inl (1, n64, f64))]) rfl ?_
            refine ne_less (C' := (100 - n64 + 2)) (S' := (2 * (100 - n64) + 60)) (by split <;> omega) (by split <;> omega) ?_
            refine ne_popa X dX1_decimalText_67 ?_
            refine ne_lload X dX1_decimalText_68 rfl ?_
            refine ne_ldc2 (z := 10) (by decide) nw_cX1_92 X dX1_decimalText_70 ?_
            refine ne_ldiv X dX1_decimalText_73 (by omega) (by omega) (by omega) ?_
            refine ne_lstore X dX1_decimalText_74 (by decide) ?_
            refine ne_iinc X dX1_decimalText_76 rfl (by decide) ?_
            refine ne_ll (L' := [some (nl _), none, some (ni _), some (.ref 0), some (ni _), some (nl _), none, some (ni _)]) rfl ?_
            refine ne_goto (tgt := 29) X dX1_decimalText_79 rfl ?_
            exact ih s (cnt + 1) n64 f64 _ (j + 1) (by omega) (by omega) (by omega) (by omega) (by omega) (by omega) (by omega) (by omega) (by omega) (by omega) r64
          · refine ne_aload_n X dX1_decimalText_46 rfl ?_
            refine ne_bipush (v := 46) (by decide) X dX1_decimalText_47 ?_
            refine ne_callVK (is := [0, 1]) (nk := 1) X nw_Tg (me_app l hl (cnt) nn fb (by omega) (by omega) Ib _ (by omega) (by omega)) nw_yJ4_append_cf468 nw_mX1_255 nw_iJ4_append_cf468 nw_eJ4_append_cf468 (ci := 1) rfl rfl rfl dX1_decimalText_49 rfl rfl (by decide) (by decide) (by split <;> omega) (by split <;> omega) (Nat.le_of_ble_eq_true rfl) rfl rfl rfl rfl (Nat.le_of_ble_eq_true rfl) (ne_ptb rfl (by decide +kernel) rfl) ?_ ?_
            rotate_left
            · rintro E9 w9 h9; exact h9.elim
            rintro v49 w49 ⟨rfl, n49, f49, rfl, r49, d49⟩
            refine ne_ws (ws' := [some (.inr (1, [.ref 1, ni 0, ni 0, ni (cnt + 1)])), some (.inl (1, n49, f49))]) rfl ?_
            refine ne_less (C' := (100 - n49 + 2)) (S' := (2 * (100 - n49) + 60)) (by split <;> omega) (by split <;> omega) ?_
            refine ne_popa X dX1_decimalText_52 ?_
            refine ne_aload_n X dX1_decimalText_53 rfl ?_
            refine ne_lload X dX1_decimalText_54 rfl ?_
            refine ne_ldc2 (z := 10) (by decide) nw_cX1_92 X dX1_decimalText_56 ?_
            refine ne_lrem X dX1_decimalText_59 (by omega) (by omega) (by omega) ?_
            refine ne_l2i X dX1_decimalText_60 ?_
            refine ne_callS X nw_Tg (me_X1_signOfDigit l hl _ _ (by omega)) nw_yX1_signOfDigit nw_mX1_259 nw_sX1_signOfDigit dX1_decimalText_61 rfl rfl (by decide) (by decide) (by first | decide | omega) (by first | decide | omega) (Nat.le_of_ble_eq_true rfl) rfl rfl (Nat.le_of_ble_eq_true rfl) ?_ ?_
            rotate_left
            · rintro E9 w9 h9; exact h9.elim
            rintro v61 w61 ⟨rfl, z61, rfl, g61⟩
            refine ne_callVK (is := [0, 1]) (nk := 1) X nw_Tg (me_app l hl (cnt + 1) n49 f49 (by omega) (by omega) r49 _ (by omega) (by omega)) nw_yJ4_append_cf468 nw_mX1_255 nw_iJ4_append_cf468 nw_eJ4_append_cf468 (ci := 1) rfl rfl rfl dX1_decimalText_64 rfl rfl (by decide) (by decide) (by split <;> omega) (by split <;> omega) (Nat.le_of_ble_eq_true rfl) rfl rfl rfl rfl (Nat.le_of_ble_eq_true rfl) (ne_ptb rfl (by decide +kernel) rfl) ?_ ?_
            rotate_left
            · rintro E9 w9 h9; exact h9.elim
            rintro v64 w64 ⟨rfl, n64, f64, rfl, r64, d64⟩
            refine ne_ws (ws' := [some (.inr (1, [.ref 1, ni 0, ni 0, ni (cnt + 1 + 1)])), some (.inl (1, n64, f64))]) rfl ?_
            refine ne_less (C' := (100 - n64 + 2)) (S' := (2 * (100 - n64) + 60)) (by split <;> omega) (by split <;> omega) ?_
            refine ne_popa X dX1_decimalText_67 ?_
            refine ne_lload X dX1_decimalText_68 rfl ?_
            refine ne_ldc2 (z := 10) (by decide) nw_cX1_92 X dX1_decimalText_70 ?_
            refine ne_ldiv X dX1_decimalText_73 (by omega) (by omega) (by omega) ?_
            refine ne_lstore X dX1_decimalText_74 (by decide) ?_
            refine ne_iinc X dX1_decimalText_76 rfl (by decide) ?_
            refine ne_ll (L' := [some (nl _), none, some (ni _), some (.ref 0), some (ni _), some (nl _), none, some (ni _)]) rfl ?_
            refine ne_goto (tgt := 29) X dX1_decimalText_79 rfl ?_
            exact ih s (cnt + 1 + 1) n64 f64 _ (j + 1) (by omega) (by omega) (by omega) (by omega) (by omega) (by omega) (by omega) (by omega) (by omega) (by omega) r64
  refine ne_new X dX1_decimalText_0 nw_nX1_252 (by first | decide | omega) (by first | decide | omega) (Nat.le_of_ble_eq_true rfl) rfl rfl rfl ?_
  refine ne_dupa X dX1_decimalText_3 ?_
  refine ne_callIF (is := [0]) X nw_Tg (me_J4_init_da8c8 l hl) rfl nw_yJ4_init_da8c8 nw_mX1_254 nw_iJ4_init_da8c8 rfl dX1_decimalText_4 rfl rfl (by decide) (by decide) (by first | decide | omega) (by first | decide | omega) (Nat.le_of_ble_eq_true rfl) rfl rfl rfl (Nat.le_of_ble_eq_true rfl) (ne_ptb rfl (by decide +kernel) rfl) ?_ ?_
  rotate_left
  · rintro E9 w9 h9; exact h9.elim
  rintro v4 w4 ⟨rfl, rfl⟩
  refine ne_ws (ws' := [some (.inr (1, [.ref 1, ni 0, ni 0, ni (0)])), some (.inl (1, 16, (fun _ => 0)))]) rfl ?_
  refine ne_astore_n X dX1_decimalText_7 rfl (by decide) ?_
  refine ne_lload_n X dX1_decimalText_8 rfl ?_
  refine ne_callS X nw_Tg (me_X1_digitsIn l hl _ _ (by omega)) nw_yX1_digitsIn nw_mX1_101 nw_sX1_digitsIn dX1_decimalText_9 rfl rfl (by decide) (by decide) (by first | decide | omega) (by first | decide | omega) (Nat.le_of_ble_eq_true rfl) rfl rfl (Nat.le_of_ble_eq_true rfl) ?_ ?_
  rotate_left
  · rintro E9 w9 h9; exact h9.elim
  rintro v9 w9 ⟨rfl, z9, rfl, g9, k9⟩
  refine ne_iload_n X dX1_decimalText_12 rfl ?_
  refine ne_iconst X dX1_decimalText_13 ?_
  refine ne_iadd X dX1_decimalText_14 ?_
  refine ne_mmax X dX1_decimalText_15 nw_mX1_69 nw_Ms_max nw_Mi nw_Mc_max (by decide) (Nat.le_of_ble_eq_true rfl) (by omega) (by omega) ?_
  refine ne_topI (fun a15 e15 => ?_)
  have p15 : 1 ≤ a15 ∧ a15 ≤ 20 := by rw [e15]; split <;> omega
  refine ne_istore X dX1_decimalText_18 (by decide) ?_
  refine ne_ll (L' := [some (nl _), none, some (ni _), some (.ref 0), some (ni _), none, none, none]) rfl ?_
  refine ne_lload_n X dX1_decimalText_20 rfl ?_
  refine ne_mabsl X dX1_decimalText_21 nw_mX1_250 nw_Ms_absl nw_Mi nw_Mc_absl (by decide) (Nat.le_of_ble_eq_true rfl) (by omega) ?_
  refine ne_topL (fun a21 e21 => ?_)
  have p21 : 0 ≤ a21 ∧ a21 ≤ 9000000000000000000 := by rw [e21]; split <;> omega
  refine ne_lstore X dX1_decimalText_24 (by decide) ?_
  refine ne_iconst X dX1_decimalText_26 ?_
  refine ne_istore X dX1_decimalText_27 (by decide) ?_
  refine ne_ll (L' := [some (nl _), none, some (ni _), some (.ref 0), some (ni _), some (nl _), none, some (ni _)]) rfl ?_
  refine ne_less (C' := (100 - 16 + 2)) (S' := (2 * (100 - 16) + 60)) (by decide) (by decide) ?_
  exact lp29 _ a15 0 16 (fun _ => 0) _ 0 (Nat.lt_succ_self _) (by omega) (by omega) (by omega) (by omega) (by omega) (by omega) (by omega) (by omega) (by omega) sB_z
set_option maxRecDepth 100000 in
set_option maxHeartbeats 4000000 in
theorem me_X1_digitText (l : Launch) (hl : l.stackTraces = false) (c q t b k n h x y : Nat → Int) (T : Int) (hI : cI c q t b k n h x y T) (hT : 0 ≤ T ∧ T ≤ 1000000) (i p m : Int) (hi : 0 ≤ i ∧ i < 3) (hp : 0 ≤ p ∧ p ≤ 200) (hm : 0 ≤ m ∧ m ≤ 96) : ne_M l nw_cl (.code yX1_digitText cX1_digitText 7 (some (.object "java/lang/String"))) nw_T yX1_digitText 10 470 210 540 [.ref 0, ni i, ni p, ni m] (cW c q t b k n h x y) (fun v w => v = some (.ref 12) ∧ w = cW c q t b k n h x y ++ [none]) (fun _ _ => False) := by
  refine ne_meet (own := RX1) hl rfl (by decide +kernel) (Nat.le_of_ble_eq_true rfl) ?_
  intro D ct A P9 V9 R9 S9 M9 as9 bl9 mt9 C9 ad0 X hr hin ht
  obtain ⟨Ic, Iq, It, Ib, Itb, Ik, In, Ih, Ix, Iy⟩ := hI
  have lp20 : ∀ (n9 : Nat) (cnt : Int) (nn : Nat) (fb : Nat → Int) (r j : Int), (m - j).toNat < n9 → (0 ≤ j) → (j ≤ m) → (cnt = j) → (cnt ≤ nn) → (nn ≤ 196) → (0 ≤ r) → (r < b i.toNat) → (ne_rg fb (-128) 127) → ne_G nw_cl D ct A 12 ad0 P9 l V9 R9 S9 M9 as9 bl9 mt9 C9 (ne_O nw_cl D ct ad0 12 A bl9 as9 S9 210 540 (fun v w => v = some (.ref 12) ∧ w = cW c q t b k n h x y ++ [none]) (fun _ _ => False)) 7 210 540 (200 - nn + 2) (2 * (200 - nn) + 110) 20 [some (.ref 0), some (ni i), some (ni p), some (ni m), some (.ref 12), some (ni r), some (ni j)] [] (cW c q t b k n h x y ++ [some (.inr (1, [.ref 13, ni 0, ni 0, ni cnt])), some (.inl (1, nn, fb))]) := by
    intro n9
    induction n9 with
    | zero => intro cnt nn fb r j hm9 q1 q2 q3 q4 q5 q6 q7 If; exfalso; omega
    | succ n9 ih =>
      intro cnt nn fb r j hm9 q1 q2 q3 q4 q5 q6 q7 If
      have hb9 := Ib i.toNat
      refine ne_iload X dX1_digitText_20 rfl ?_
      refine ne_iload_n X dX1_digitText_22 rfl ?_
      refine ne_icmp_ge (tgt := 65) X dX1_digitText_23 rfl (by omega) (by omega) (fun b23 => ?_) (fun b23 => ?_)
      · refine ne_aload X dX1_digitText_65 rfl ?_
        refine ne_callVK (is := [12, 13]) (nk := 2) X nw_Tg (me_J4_toString_0e30d l hl (cnt) nn fb (by omega) (by omega) If) nw_yJ4_toString_0e30d nw_mX1_267 nw_iJ4_toString_0e30d nw_eJ4_toString_0e30d (ci := 1) rfl rfl rfl dX1_digitText_67 rfl rfl (by decide) (by decide) (by first | decide | omega) (by first | decide | omega) (Nat.le_of_ble_eq_true rfl) rfl rfl rfl rfl (Nat.le_of_ble_eq_true rfl) (ne_ptb rfl (by decide +kernel) rfl) ?_ ?_
        rotate_left
        · rintro E9 w9 h9; exact h9.elim
        rintro v67 w67 ⟨rfl, a67, b67, rfl⟩
        refine ne_lnil ?_
        refine ne_forget [14] ?_
        refine ne_viewb [0, 1, 2, 3, 4, 5, 6, 7, 8, 9, 10, 11, 14] (ws' := cW c q t b k n h x y ++ [none]) (L' := []) (st' := [.ref 12]) rfl (by decide) rfl rfl rfl rfl ?_
        exact ne_aret X hr (by first | exact Or.inl ⟨_, rfl⟩ | exact Or.inr ⟨_, rfl⟩) dX1_digitText_70 ⟨rfl, rfl⟩
      · refine ne_aload X dX1_digitText_26 rfl ?_
        refine ne_iload X dX1_digitText_28 rfl ?_
        refine ne_aload_n X dX1_digitText_30 rfl ?_
        refine ne_getf X dX1_digitText_31 nw_fX1_19 rfl rfl ?_
        refine ne_iload_n X dX1_digitText_34 rfl ?_
        refine ne_ialdR X dX1_digitText_35 rfl (by omega) Ib (fun v35 e35 f35 u35 => ?_)
        refine ne_callS X nw_Tg (me_X1_digitAfter l hl _ _ _ (by omega) (by omega) (by omega)) nw_yX1_digitAfter nw_mX1_138 nw_sX1_digitAfter dX1_digitText_36 rfl rfl (by decide) (by decide) (by first | decide | omega) (by first | decide | omega) (Nat.le_of_ble_eq_true rfl) rfl rfl (Nat.le_of_ble_eq_true rfl) ?_ ?_
        rotate_left
        · rintro E9 w9 h9; exact h9.elim
        rintro v36 w36 ⟨rfl, z36, rfl, g36, k36, i36⟩
        refine ne_callS X nw_Tg (me_X1_signOfDigit l hl _ _ (by omega)) nw_yX1_signOfDigit nw_mX1_259 nw_sX1_signOfDigit dX1_digitText_39 rfl rfl (by decide) (by decide) (by first | decide | omega) (by first | decide | omega) (Nat.le_of_ble_eq_true rfl) rfl rfl (Nat.le_of_ble_eq_true rfl) ?_ ?_
        rotate_left
        · rintro E9 w9 h9; exact h9.elim
        rintro v39 w39 ⟨rfl, z39, rfl, g39⟩
        refine ne_callVK (is := [12, 13]) (nk := 1) X nw_Tg (me_app l hl (cnt) nn fb (by omega) (by omega) If _ (by omega) (by omega)) nw_yJ4_append_cf468 nw_mX1_255 nw_iJ4_append_cf468 nw_eJ4_append_cf468 (ci := 1) rfl rfl rfl dX1_digitText_42 rfl rfl (by decide) (by decide) (by split <;> omega) (by split <;> omega) (Nat.le_of_ble_eq_true rfl) rfl rfl rfl rfl (Nat.le_of_ble_eq_true rfl) (ne_ptb rfl (by decide +kernel) rfl) ?_ ?_
        rotate_left
        · rintro E9 w9 h9; exact h9.elim
        rintro v42 w42 ⟨rfl, n42, f42, rfl, r42, d42⟩
        refine ne_ws (ws' := cW c q t b k n h x y ++ [some (.inr (1, [.ref 13, ni 0, ni 0, ni (cnt + 1)])), some (.inl (1, n42, f42))]) rfl ?_
        refine ne_less (C' := (200 - n42 + 2)) (S' := (2 * (200 - n42) + 110)) (by split <;> omega) (by split <;> omega) ?_
        refine ne_popa X dX1_digitText_45 ?_
        refine ne_iload X dX1_digitText_46 rfl ?_
        refine ne_aload_n X dX1_digitText_48 rfl ?_
        refine ne_getf X dX1_digitText_49 nw_fX1_19 rfl rfl ?_
        refine ne_iload_n X dX1_digitText_52 rfl ?_
        refine ne_ialdR X dX1_digitText_53 rfl (by omega) Ib (fun v53 e53 f53 u53 => ?_)
        refine ne_callS X nw_Tg (me_X1_restAfter l hl _ _ _ (by omega) (by omega) (by omega)) nw_yX1_restAfter nw_mX1_189 nw_sX1_restAfter dX1_digitText_54 rfl rfl (by decide) (by decide) (by first | decide | omega) (by first | decide | omega) (Nat.le_of_ble_eq_true rfl) rfl rfl (Nat.le_of_ble_eq_true rfl) ?_ ?_
        rotate_left
        · rintro E9 w9 h9; exact h9.elim
        rintro v54 w54 ⟨rfl, z54, rfl, g54, k54, i54⟩
        refine ne_istore X dX1_digitText_57 (by decide) ?_
        refine ne_iinc X dX1_digitText_59 rfl (by decide) ?_
        refine ne_ll (L' := [some (.ref 0), some (ni _), some (ni _), some (ni _), some (.ref 12), some (ni _), some (ni _)]) rfl ?_
        refine ne_goto (tgt := 20) X dX1_digitText_62 rfl ?_
        exact ih (cnt + 1) n42 f42 _ (j + 1) (by omega) (by omega) (by omega) (by omega) (by omega) (by omega) (by omega) (by omega) r42
  refine ne_new X dX1_digitText_0 nw_nX1_252 (by first | decide | omega) (by first | decide | omega) (Nat.le_of_ble_eq_true rfl) rfl rfl rfl ?_
  refine ne_dupa X dX1_digitText_3 ?_
  refine ne_callIF (is := [12]) X nw_Tg (me_J4_init_da8c8 l hl) rfl nw_yJ4_init_da8c8 nw_mX1_254 nw_iJ4_init_da8c8 rfl dX1_digitText_4 rfl rfl (by decide) (by decide) (by first | decide | omega) (by first | decide | omega) (Nat.le_of_ble_eq_true rfl) rfl rfl rfl (Nat.le_of_ble_eq_true rfl) (ne_ptb rfl (by decide +kernel) rfl) ?_ ?_
  rotate_left
  · rintro E9 w9 h9; exact h9.elim
  rintro v4 w4 ⟨rfl, rfl⟩
  refine ne_ws (ws' := cW c q t b k n h x y ++ [some (.inr (1, [.ref 13, ni 0, ni 0, ni (0)])), some (.inl (1, 16, (fun _ => 0)))]) rfl ?_
  refine ne_astore X dX1_digitText_7 (by decide) ?_
  refine ne_aload_n X dX1_digitText_9 rfl ?_
  refine ne_iload_n X dX1_digitText_10 rfl ?_
  refine ne_iload_n X dX1_digitText_11 rfl ?_
  refine ne_callVF (is := [0, 1, 2, 3, 4, 5, 6, 7, 8, 9, 10, 11]) X nw_Tg (me_X1_restOfPlace l hl c q t b k n h x y T (by exact ⟨Ic, Iq, It, Ib, Itb, Ik, In, Ih, Ix, Iy⟩) (by omega) _ _ (by omega) (by omega)) nw_yX1_restOfPlace nw_mX1_135 nw_iX1_restOfPlace nw_eX1_restOfPlace (ci := 3) rfl rfl rfl dX1_digitText_12 rfl rfl (by decide) (by decide) (by first | decide | omega) (by first | decide | omega) (Nat.le_of_ble_eq_true rfl) rfl rfl rfl (Nat.le_of_ble_eq_true rfl) (ne_ptb rfl (by decide +kernel) rfl) ?_ ?_
  rotate_left
  · rintro E9 w9 h9; exact h9.elim
  rintro v12 w12 ⟨rfl, z12, rfl, g12, k12, i12, j12⟩
  refine ne_ws (ws' := cW c q t b k n h x y ++ [some (.inr (1, [.ref 13, ni 0, ni 0, ni (0)])), some (.inl (1, 16, (fun _ => 0)))]) rfl ?_
  refine ne_istore X dX1_digitText_15 (by decide) ?_
  refine ne_ll (L' := [some (.ref 0), some (ni _), some (ni _), some (ni _), some (.ref 12), some (ni _), none]) rfl ?_
  refine ne_iconst X dX1_digitText_17 ?_
  refine ne_istore X dX1_digitText_18 (by decide) ?_
  refine ne_less (C' := (200 - 16 + 2)) (S' := (2 * (200 - 16) + 110)) (by decide) (by decide) ?_
  exact lp20 _ 0 16 (fun _ => 0) _ 0 (Nat.lt_succ_self _) (by omega) (by omega) (by omega) (by omega) (by omega) (by omega) (by omega) sB_z
set_option maxRecDepth 100000 in
set_option maxHeartbeats 4000000 in
theorem me_X0_written_x (l : Launch) (hl : l.stackTraces = false) (c q t b k n h x y : Nat → Int) (T : Int) (hI : cI c q t b k n h x y T) (hT : 0 ≤ T ∧ T ≤ 1000000)  : ne_M l nw_cl (.code yX0_written cX0_written 4 (some (.object "java/lang/String"))) nw_T yX0_written 10 470 210 540 [.ref 8] (cW c q t b k n h x y) (fun v w => v = some (.ref 12) ∧ w = cW c q t b k n h x y ++ [none]) (fun _ _ => False) := by
  refine ne_meet (own := RX0) hl rfl (by decide +kernel) (Nat.le_of_ble_eq_true rfl) ?_
  intro D ct A P9 V9 R9 S9 M9 as9 bl9 mt9 C9 ad0 X hr hin ht
  obtain ⟨Ic, Iq, It, Ib, Itb, Ik, In, Ih, Ix, Iy⟩ := hI
  have lp32 : ∀ (n9 : Nat) (s cnt : Int) (nn : Nat) (fb : Nat → Int) (j : Int), (j + 1).toNat < n9 → (-1 ≤ j) → (j ≤ 97) → (0 ≤ cnt) → (cnt + j ≤ 97) → (cnt ≤ nn) → (nn ≤ 196) → (ne_rg fb (-128) 127) → ne_G nw_cl D ct A 12 ad0 P9 l V9 R9 S9 M9 as9 bl9 mt9 C9 (ne_O nw_cl D ct ad0 12 A bl9 as9 S9 210 540 (fun v w => v = some (.ref 12) ∧ w = cW c q t b k n h x y ++ [none]) (fun _ _ => False)) 4 210 540 (200 - nn + 2) (2 * (200 - nn) + 110) 32 [some (.ref 8), some (ni s), some (.ref 12), some (ni j)] [] (cW c q t b k n h x y ++ [some (.inr (1, [.ref 13, ni 0, ni 0, ni cnt])), some (.inl (1, nn, fb))]) := by
    intro n9
    induction n9 with
    | zero => intro s cnt nn fb j hm9 q1 q2 q3 q4 q5 q6 If; exfalso; omega
    | succ n9 ih =>
      intro s cnt nn fb j hm9 q1 q2 q3 q4 q5 q6 If
      refine ne_iload_n X dX0_written_32 rfl ?_
      refine ne_if_lt (tgt := 56) X dX0_written_33 rfl (by omega) (fun b33 => ?_) (fun b33 => ?_)
      · refine ne_aload_n X dX0_written_56 rfl ?_
        refine ne_callVK (is := [12, 13]) (nk := 2) X nw_Tg (me_J4_toString_0e30d l hl (cnt) nn fb (by omega) (by omega) If) nw_yJ4_toString_0e30d nw_mX0_36 nw_iJ4_toString_0e30d nw_eJ4_toString_0e30d (ci := 1) rfl rfl rfl dX0_written_57 rfl rfl (by decide) (by decide) (by first | decide | omega) (by first | decide | omega) (Nat.le_of_ble_eq_true rfl) rfl rfl rfl rfl (Nat.le_of_ble_eq_true rfl) (ne_ptb rfl (by decide +kernel) rfl) ?_ ?_
        rotate_left
        · rintro E9 w9 h9; exact h9.elim
        rintro v57 w57 ⟨rfl, a57, b57, rfl⟩
        refine ne_lnil ?_
        refine ne_forget [14] ?_
        refine ne_viewb [0, 1, 2, 3, 4, 5, 6, 7, 8, 9, 10, 11, 14] (ws' := cW c q t b k n h x y ++ [none]) (L' := []) (st' := [.ref 12]) rfl (by decide) rfl rfl rfl rfl ?_
        exact ne_aret X hr (by first | exact Or.inl ⟨_, rfl⟩ | exact Or.inr ⟨_, rfl⟩) dX0_written_60 ⟨rfl, rfl⟩
      · refine ne_aload_n X dX0_written_36 rfl ?_
        refine ne_aload_n X dX0_written_37 rfl ?_
        refine ne_getf X dX0_written_38 nw_fX0_9 rfl rfl ?_
        refine ne_iload_n X dX0_written_41 rfl ?_
        refine ne_ialdR X dX0_written_42 rfl (by omega) Ix (fun v42 e42 f42 u42 => ?_)
        refine ne_callSN (host := "Ninewheel") X nw_Tg (me_X1_signOfDigit l hl _ _ (by omega)) nw_yX1_signOfDigit (by decide +kernel) nw_sX1_signOfDigit dX0_written_43 rfl rfl (by decide) (by decide) (by first | decide | omega) (by first | decide | omega) (Nat.le_of_ble_eq_true rfl) rfl rfl (Nat.le_of_ble_eq_true rfl) ?_ ?_
        rotate_left
        · rintro E9 w9 h9; exact h9.elim
        rintro v43 w43 ⟨rfl, z43, rfl, g43⟩
        refine ne_callVK (is := [12, 13]) (nk := 1) X nw_Tg (me_app l hl (cnt) nn fb (by omega) (by omega) If _ (by omega) (by omega)) nw_yJ4_append_cf468 nw_mX0_32 nw_iJ4_append_cf468 nw_eJ4_append_cf468 (ci := 1) rfl rfl rfl dX0_written_46 rfl rfl (by decide) (by decide) (by split <;> omega) (by split <;> omega) (Nat.le_of_ble_eq_true rfl) rfl rfl rfl rfl (Nat.le_of_ble_eq_true rfl) (ne_ptb rfl (by decide +kernel) rfl) ?_ ?_
        rotate_left
        · rintro E9 w9 h9; exact h9.elim
        rintro v46 w46 ⟨rfl, n46, f46, rfl, r46, d46⟩
        refine ne_ws (ws' := cW c q t b k n h x y ++ [some (.inr (1, [.ref 13, ni 0, ni 0, ni (cnt + 1)])), some (.inl (1, n46, f46))]) rfl ?_
        refine ne_less (C' := (200 - n46 + 2)) (S' := (2 * (200 - n46) + 110)) (by split <;> omega) (by split <;> omega) ?_
        refine ne_popa X dX0_written_49 ?_
        refine ne_iinc X dX0_written_50 rfl (by decide) ?_
        refine ne_goto (tgt := 32) X dX0_written_53 rfl ?_
        exact ih s (cnt + 1) n46 f46 (j + -1) (by omega) (by omega) (by omega) (by omega) (by omega) (by omega) (by omega) r46
  have lp3 : ∀ (n9 : Nat) (j : Int), j.toNat < n9 → (0 ≤ j) → (j ≤ 97) → ne_G nw_cl D ct A 12 ad0 P9 l V9 R9 S9 M9 as9 bl9 mt9 C9 (ne_O nw_cl D ct ad0 12 A bl9 as9 S9 210 540 (fun v w => v = some (.ref 12) ∧ w = cW c q t b k n h x y ++ [none]) (fun _ _ => False)) 4 210 540 210 540 3 [some (.ref 8), some (ni j), none, none] [] (cW c q t b k n h x y) := by
    intro n9
    induction n9 with
    | zero => intro j hm9 q1 q2; exfalso; omega
    | succ n9 ih =>
      intro j hm9 q1 q2
      refine ne_iload_n X dX0_written_3 rfl ?_
      refine ne_if_le (tgt := 22) X dX0_written_4 rfl (by omega) (fun b4 => ?_) (fun b4 => ?_)
      · refine ne_new X dX0_written_22 nw_nX0_23 (by first | decide | omega) (by first | decide | omega) (Nat.le_of_ble_eq_true rfl) rfl rfl rfl ?_
        refine ne_dupa X dX0_written_25 ?_
        refine ne_callIF (is := [12]) X nw_Tg (me_J4_init_da8c8 l hl) rfl nw_yJ4_init_da8c8 nw_mX0_25 nw_iJ4_init_da8c8 rfl dX0_written_26 rfl rfl (by decide) (by decide) (by first | decide | omega) (by first | decide | omega) (Nat.le_of_ble_eq_true rfl) rfl rfl rfl (Nat.le_of_ble_eq_true rfl) (ne_ptb rfl (by decide +kernel) rfl) ?_ ?_
        rotate_left
        · rintro E9 w9 h9; exact h9.elim
        rintro v26 w26 ⟨rfl, rfl⟩
        refine ne_ws (ws' := cW c q t b k n h x y ++ [some (.inr (1, [.ref 13, ni 0, ni 0, ni (0)])), some (.inl (1, 16, (fun _ => 0)))]) rfl ?_
        refine ne_astore_n X dX0_written_29 rfl (by decide) ?_
        refine ne_iload_n X dX0_written_30 rfl ?_
        refine ne_istore_n X dX0_written_31 rfl (by decide) ?_
        refine ne_ll (L' := [some (.ref 8), some (ni _), some (.ref 12), some (ni _)]) rfl ?_
        refine ne_less (C' := (200 - 16 + 2)) (S' := (2 * (200 - 16) + 110)) (by decide) (by decide) ?_
        exact lp32 _ _ 0 16 (fun _ => 0) _ (Nat.lt_succ_self _) (by omega) (by omega) (by omega) (by omega) (by omega) (by omega) sB_z
      · refine ne_aload_n X dX0_written_7 rfl ?_
        refine ne_getf X dX0_written_8 nw_fX0_9 rfl rfl ?_
        refine ne_iload_n X dX0_written_11 rfl ?_
        refine ne_ialdR X dX0_written_12 rfl (by omega) Ix (fun v12 e12 f12 u12 => ?_)
        refine ne_if_ne (tgt := 22) X dX0_written_13 rfl (by omega) (fun b13 => ?_) (fun b13 => ?_)
        · refine ne_new X dX0_written_22 nw_nX0_23 (by first | decide | omega) (by first | decide | omega) (Nat.le_of_ble_eq_true rfl) rfl rfl rfl ?_
          refine ne_dupa X dX0_written_25 ?_
          refine ne_callIF (is := [12]) X nw_Tg (me_J4_init_da8c8 l hl) rfl nw_yJ4_init_da8c8 nw_mX0_25 nw_iJ4_init_da8c8 rfl dX0_written_26 rfl rfl (by decide) (by decide) (by first | decide | omega) (by first | decide | omega) (Nat.le_of_ble_eq_true rfl) rfl rfl rfl (Nat.le_of_ble_eq_true rfl) (ne_ptb rfl (by decide +kernel) rfl) ?_ ?_
          rotate_left
          · rintro E9 w9 h9; exact h9.elim
          rintro v26 w26 ⟨rfl, rfl⟩
          refine ne_ws (ws' := cW c q t b k n h x y ++ [some (.inr (1, [.ref 13, ni 0, ni 0, ni (0)])), some (.inl (1, 16, (fun _ => 0)))]) rfl ?_
          refine ne_astore_n X dX0_written_29 rfl (by decide) ?_
          refine ne_iload_n X dX0_written_30 rfl ?_
          refine ne_istore_n X dX0_written_31 rfl (by decide) ?_
          refine ne_ll (L' := [some (.ref 8), some (ni _), some (.ref 12), some (ni _)]) rfl ?_
          refine ne_less (C' := (200 - 16 + 2)) (S' := (2 * (200 - 16) + 110)) (by decide) (by decide) ?_
          exact lp32 _ _ 0 16 (fun _ => 0) _ (Nat.lt_succ_self _) (by omega) (by omega) (by omega) (by omega) (by omega) (by omega) sB_z
        · refine ne_iinc X dX0_written_16 rfl (by decide) ?_
          refine ne_goto (tgt := 3) X dX0_written_19 rfl ?_
          exact ih (j + -1) (by omega) (by omega) (by omega)
  refine ne_bipush (v := 97) (by decide) X dX0_written_0 ?_
  refine ne_istore_n X dX0_written_2 rfl (by decide) ?_
  exact lp3 _ 97 (Nat.lt_succ_self _) (by omega) (by omega)
set_option maxRecDepth 100000 in
set_option maxHeartbeats 4000000 in
theorem me_X1_text (l : Launch) (hl : l.stackTraces = false) (c q t b k n h x y : Nat → Int) (T : Int) (hI : cI c q t b k n h x y T) (hT : 0 ≤ T ∧ T ≤ 1000) (i : Int) (a : Int) (hi : -2147483648 ≤ i ∧ i < 2147483648) (ha : -2147483648 ≤ a ∧ a < 2147483648) : ne_M l nw_cl (.code yX1_text cX1_text 3 (some (.object "java/lang/String"))) nw_T yX1_text 12 520 230 600 [.ref 0, ni i, ni a] (cW c q t b k n h x y) (fun v w => (∃ x1 y1, w = cW c q t b k n h x1 y1 ++ [none] ∧ cI c q t b k n h x1 y1 (T + 1)) ∧ v = some (.ref 12)) (fun E w => w = cW c q t b k n h x y ∧ (E = "java/lang/IndexOutOfBoundsException" ∨ E = "java/lang/IllegalArgumentException")) := by
  refine ne_meet (own := RX1) hl rfl (by decide +kernel) (Nat.le_of_ble_eq_true rfl) ?_
  intro D ct A P9 V9 R9 S9 M9 as9 bl9 mt9 C9 ad0 X hr hin ht
  obtain ⟨Ic, Iq, It, Ib, Itb, Ik, In, Ih, Ix, Iy⟩ := hI
  refine ne_iload_n X dX1_text_0 rfl ?_
  refine ne_callS X nw_Tg (me_X1_requireCell l hl _ _ (by omega)) nw_yX1_requireCell nw_mX1_41 nw_sX1_requireCell dX1_text_1 rfl rfl (by decide) (by decide) (by first | decide | omega) (by first | decide | omega) (Nat.le_of_ble_eq_true rfl) rfl rfl (Nat.le_of_ble_eq_true rfl) ?_ ?_
  rotate_left
  · rintro E9 w9 h9; exact ne_out X ht (by obtain ⟨rfl, rfl⟩ := h9; exact ⟨rfl, by first | exact Or.inl rfl | exact Or.inr rfl⟩)
  rintro v1 w1 ⟨rfl, rfl, g1, k1⟩
  refine ne_iload_n X dX1_text_4 rfl ?_
  refine ne_lconst (z := 0) (by decide) X dX1_text_5 ?_
  refine ne_lconst (z := 1) (by decide) X dX1_text_6 ?_
  refine ne_callS X nw_Tg (me_X1_requireBetween l hl _ _ _ _ (by omega) (by omega) (by omega)) nw_yX1_requireBetween nw_mX1_49 nw_sX1_requireBetween dX1_text_7 rfl rfl (by decide) (by decide) (by first | decide | omega) (by first | decide | omega) (Nat.le_of_ble_eq_true rfl) rfl rfl (Nat.le_of_ble_eq_true rfl) ?_ ?_
  rotate_left
  · rintro E9 w9 h9; exact ne_out X ht (by obtain ⟨rfl, rfl⟩ := h9; exact ⟨rfl, by first | exact Or.inl rfl | exact Or.inr rfl⟩)
  rintro v7 w7 ⟨rfl, rfl, g7, k7⟩
  refine ne_aload_n X dX1_text_10 rfl ?_
  refine ne_getf X dX1_text_11 nw_fX1_9 rfl rfl ?_
  refine ne_iload_n X dX1_text_14 rfl ?_
  refine ne_ialdR X dX1_text_15 rfl (by omega) Ic (fun v15 e15 f15 u15 => ?_)
  refine ne_i2l (by omega) X dX1_text_16 ?_
  refine ne_aload_n X dX1_text_17 rfl ?_
  refine ne_getf X dX1_text_18 nw_fX1_13 rfl rfl ?_
  refine ne_iload_n X dX1_text_21 rfl ?_
  refine ne_ialdR X dX1_text_22 rfl (by omega) Iq (fun v22 e22 f22 u22 => ?_)
  refine ne_callSF (is := []) X nw_Tg (me_X1_decimalText l hl _ _ (by omega) (by omega)) nw_yX1_decimalText nw_mX1_120 nw_sX1_decimalText dX1_text_23 rfl rfl (by decide) (by decide) (by first | decide | omega) (by first | decide | omega) (Nat.le_of_ble_eq_true rfl) rfl rfl rfl (Nat.le_of_ble_eq_true rfl) (ne_ptb rfl (by decide +kernel) rfl) ?_ ?_
  rotate_left
  · rintro E9 w9 h9; exact h9.elim
  rintro v23 w23 ⟨rfl, rfl⟩
  refine ne_ws (ws' := cW c q t b k n h x y ++ [none]) rfl ?_
  exact ne_aret X hr (by first | exact Or.inl ⟨_, rfl⟩ | exact Or.inr ⟨_, rfl⟩) dX1_text_26 ⟨⟨_, _, rfl, Ic, Iq, It, Ib, Itb, Ik, In, ne_rg_mono Ih (by omega) (by omega), Ix, Iy⟩, rfl⟩
set_option maxRecDepth 100000 in
set_option maxHeartbeats 4000000 in
theorem me_X1_digitsFrom (l : Launch) (hl : l.stackTraces = false) (c q t b k n h x y : Nat → Int) (T : Int) (hI : cI c q t b k n h x y T) (hT : 0 ≤ T ∧ T ≤ 1000) (i : Int) (p : Int) (m : Int) (hi : -2147483648 ≤ i ∧ i < 2147483648) (hp : -2147483648 ≤ p ∧ p < 2147483648) (hm : -2147483648 ≤ m ∧ m < 2147483648) : ne_M l nw_cl (.code yX1_digitsFrom cX1_digitsFrom 4 (some (.object "java/lang/String"))) nw_T yX1_digitsFrom 12 520 230 600 [.ref 0, ni i, ni p, ni m] (cW c q t b k n h x y) (fun v w => (∃ x1 y1, w = cW c q t b k n h x1 y1 ++ [none] ∧ cI c q t b k n h x1 y1 (T + 1)) ∧ v = some (.ref 12)) (fun E w => w = cW c q t b k n h x y ∧ (E = "java/lang/IndexOutOfBoundsException" ∨ E = "java/lang/IllegalArgumentException")) := by
  refine ne_meet (own := RX1) hl rfl (by decide +kernel) (Nat.le_of_ble_eq_true rfl) ?_
  intro D ct A P9 V9 R9 S9 M9 as9 bl9 mt9 C9 ad0 X hr hin ht
  obtain ⟨Ic, Iq, It, Ib, Itb, Ik, In, Ih, Ix, Iy⟩ := hI
  refine ne_iload_n X dX1_digitsFrom_0 rfl ?_
  refine ne_callS X nw_Tg (me_X1_requireWheel l hl _ _ (by omega)) nw_yX1_requireWheel nw_mX1_110 nw_sX1_requireWheel dX1_digitsFrom_1 rfl rfl (by decide) (by decide) (by first | decide | omega) (by first | decide | omega) (Nat.le_of_ble_eq_true rfl) rfl rfl (Nat.le_of_ble_eq_true rfl) ?_ ?_
  rotate_left
  · rintro E9 w9 h9; exact ne_out X ht (by obtain ⟨rfl, rfl⟩ := h9; exact ⟨rfl, by first | exact Or.inl rfl | exact Or.inr rfl⟩)
  rintro v1 w1 ⟨rfl, rfl, g1, k1⟩
  refine ne_iload_n X dX1_digitsFrom_4 rfl ?_
  refine ne_lconst (z := 0) (by decide) X dX1_digitsFrom_5 ?_
  refine ne_ldc2 (z := 200) (by decide) nw_cX1_145 X dX1_digitsFrom_6 ?_
  refine ne_callS X nw_Tg (me_X1_requireBetween l hl _ _ _ _ (by omega) (by omega) (by omega)) nw_yX1_requireBetween nw_mX1_49 nw_sX1_requireBetween dX1_digitsFrom_9 rfl rfl (by decide) (by decide) (by first | decide | omega) (by first | decide | omega) (Nat.le_of_ble_eq_true rfl) rfl rfl (Nat.le_of_ble_eq_true rfl) ?_ ?_
  rotate_left
  · rintro E9 w9 h9; exact ne_out X ht (by obtain ⟨rfl, rfl⟩ := h9; exact ⟨rfl, by first | exact Or.inl rfl | exact Or.inr rfl⟩)
  rintro v9 w9 ⟨rfl, rfl, g9, k9⟩
  refine ne_iload_n X dX1_digitsFrom_12 rfl ?_
  refine ne_lconst (z := 1) (by decide) X dX1_digitsFrom_13 ?_
  refine ne_ldc2 (z := 16) (by decide) nw_cX1_158 X dX1_digitsFrom_14 ?_
  refine ne_callS X nw_Tg (me_X1_requireBetween l hl _ _ _ _ (by omega) (by omega) (by omega)) nw_yX1_requireBetween nw_mX1_49 nw_sX1_requireBetween dX1_digitsFrom_17 rfl rfl (by decide) (by decide) (by first | decide | omega) (by first | decide | omega) (Nat.le_of_ble_eq_true rfl) rfl rfl (Nat.le_of_ble_eq_true rfl) ?_ ?_
  rotate_left
  · rintro E9 w9 h9; exact ne_out X ht (by obtain ⟨rfl, rfl⟩ := h9; exact ⟨rfl, by first | exact Or.inl rfl | exact Or.inr rfl⟩)
  rintro v17 w17 ⟨rfl, rfl, g17, k17⟩
  refine ne_aload_n X dX1_digitsFrom_20 rfl ?_
  refine ne_iload_n X dX1_digitsFrom_21 rfl ?_
  refine ne_iload_n X dX1_digitsFrom_22 rfl ?_
  refine ne_iload_n X dX1_digitsFrom_23 rfl ?_
  refine ne_callV X nw_Tg (me_X1_digitText l hl c q t b k n h x y T (by exact ⟨Ic, Iq, It, Ib, Itb, Ik, In, Ih, Ix, Iy⟩) (by omega) _ _ _ (by omega) (by omega) (by omega)) nw_yX1_digitText nw_mX1_160 nw_iX1_digitText nw_eX1_digitText (ci := 3) rfl rfl rfl dX1_digitsFrom_24 rfl rfl (by decide) (by decide) (by first | decide | omega) (by first | decide | omega) (Nat.le_of_ble_eq_true rfl) rfl rfl (Nat.le_of_ble_eq_true rfl) ?_ ?_
  rotate_left
  · rintro E9 w9 h9; exact h9.elim
  rintro v24 w24 ⟨rfl, rfl⟩
  exact ne_aret X hr (by first | exact Or.inl ⟨_, rfl⟩ | exact Or.inr ⟨_, rfl⟩) dX1_digitsFrom_27 ⟨⟨_, _, rfl, Ic, Iq, It, Ib, Itb, Ik, In, ne_rg_mono Ih (by omega) (by omega), Ix, Iy⟩, rfl⟩
set_option maxRecDepth 100000 in
set_option maxHeartbeats 4000000 in
theorem me_X1_cutText (l : Launch) (hl : l.stackTraces = false) (c q t b k n h x y : Nat → Int) (T : Int) (hI : cI c q t b k n h x y T) (hT : 0 ≤ T ∧ T ≤ 1000) (i : Int) (m : Int) (p : Int) (w0 : Int) (hi : -2147483648 ≤ i ∧ i < 2147483648) (hm : 0 ≤ m ∧ m ≤ 1) (hp : -2147483648 ≤ p ∧ p < 2147483648) (hw0 : -2147483648 ≤ w0 ∧ w0 < 2147483648) : ne_M l nw_cl (.code yX1_cutText cX1_cutText 7 (some (.object "java/lang/String"))) nw_T yX1_cutText 12 520 230 600 [.ref 0, ni i, ni m, ni p, ni w0] (cW c q t b k n h x y) (fun v w => (∃ x1 y1, w = cW c q t b k n h x1 y1 ++ [none] ∧ cI c q t b k n h x1 y1 (T + 1)) ∧ v = some (.ref 12)) (fun E w => w = cW c q t b k n h x y ∧ (E = "java/lang/IndexOutOfBoundsException" ∨ E = "java/lang/IllegalArgumentException")) := by
  refine ne_meet (own := RX1) hl rfl (by decide +kernel) (Nat.le_of_ble_eq_true rfl) ?_
  intro D ct A P9 V9 R9 S9 M9 as9 bl9 mt9 C9 ad0 X hr hin ht
  obtain ⟨Ic, Iq, It, Ib, Itb, Ik, In, Ih, Ix, Iy⟩ := hI
  refine ne_iload_n X dX1_cutText_0 rfl ?_
  refine ne_callS X nw_Tg (me_X1_requireWheel l hl _ _ (by omega)) nw_yX1_requireWheel nw_mX1_110 nw_sX1_requireWheel dX1_cutText_1 rfl rfl (by decide) (by decide) (by first | decide | omega) (by first | decide | omega) (Nat.le_of_ble_eq_true rfl) rfl rfl (Nat.le_of_ble_eq_true rfl) ?_ ?_
  rotate_left
  · rintro E9 w9 h9; exact ne_out X ht (by obtain ⟨rfl, rfl⟩ := h9; exact ⟨rfl, by first | exact Or.inl rfl | exact Or.inr rfl⟩)
  rintro v1 w1 ⟨rfl, rfl, g1, k1⟩
  refine ne_iload_n X dX1_cutText_4 rfl ?_
  refine ne_lconst (z := 0) (by decide) X dX1_cutText_5 ?_
  refine ne_ldc2 (z := 16) (by decide) nw_cX1_158 X dX1_cutText_6 ?_
  refine ne_callS X nw_Tg (me_X1_requireBetween l hl _ _ _ _ (by omega) (by omega) (by omega)) nw_yX1_requireBetween nw_mX1_49 nw_sX1_requireBetween dX1_cutText_9 rfl rfl (by decide) (by decide) (by first | decide | omega) (by first | decide | omega) (Nat.le_of_ble_eq_true rfl) rfl rfl (Nat.le_of_ble_eq_true rfl) ?_ ?_
  rotate_left
  · rintro E9 w9 h9; exact ne_out X ht (by obtain ⟨rfl, rfl⟩ := h9; exact ⟨rfl, by first | exact Or.inl rfl | exact Or.inr rfl⟩)
  rintro v9 w9 ⟨rfl, rfl, g9, k9⟩
  refine ne_iload X dX1_cutText_12 rfl ?_
  refine ne_callS X nw_Tg (me_X1_requireWay l hl _ _ (by omega)) nw_yX1_requireWay nw_mX1_77 nw_sX1_requireWay dX1_cutText_14 rfl rfl (by decide) (by decide) (by first | decide | omega) (by first | decide | omega) (Nat.le_of_ble_eq_true rfl) rfl rfl (Nat.le_of_ble_eq_true rfl) ?_ ?_
  rotate_left
  · rintro E9 w9 h9; exact ne_out X ht (by obtain ⟨rfl, rfl⟩ := h9; exact ⟨rfl, by first | exact Or.inl rfl | exact Or.inr rfl⟩)
  rintro v14 w14 ⟨rfl, rfl, g14, k14⟩
  refine ne_aload_n X dX1_cutText_17 rfl ?_
  refine ne_iload_n X dX1_cutText_18 rfl ?_
  refine ne_iload_n X dX1_cutText_19 rfl ?_
  refine ne_iload_n X dX1_cutText_20 rfl ?_
  refine ne_iload X dX1_cutText_21 rfl ?_
  refine ne_callV X nw_Tg (me_X1_cutCount l hl c q t b k n h x y T (by exact ⟨Ic, Iq, It, Ib, Itb, Ik, In, Ih, Ix, Iy⟩) (by omega) _ _ _ _ (by omega) (by omega) (by omega) (by omega)) nw_yX1_cutCount nw_mX1_113 nw_iX1_cutCount nw_eX1_cutCount (ci := 3) rfl rfl rfl dX1_cutText_23 rfl rfl (by decide) (by decide) (by first | decide | omega) (by first | decide | omega) (Nat.le_of_ble_eq_true rfl) rfl rfl (Nat.le_of_ble_eq_true rfl) ?_ ?_
  rotate_left
  · rintro E9 w9 h9; exact h9.elim
  rintro v23 w23 ⟨rfl, z23, rfl, g23⟩
  refine ne_lstore X dX1_cutText_26 (by decide) ?_
  refine ne_lload X dX1_cutText_28 rfl ?_
  refine ne_ldc2 (z := -9000000000000000000) (by decide) nw_cX1_105 X dX1_cutText_30 ?_
  refine ne_lcif_ne (tgt := 42) X dX1_cutText_33 dX1_cutText_34 rfl (by omega) (by omega) (fun b34 => ?_) (fun b34 => ?_)
  · refine ne_lload X dX1_cutText_42 rfl ?_
    refine ne_iload_n X dX1_cutText_44 rfl ?_
    refine ne_callSF (is := []) X nw_Tg (me_X1_decimalText l hl _ _ (by omega) (by omega)) nw_yX1_decimalText nw_mX1_120 nw_sX1_decimalText dX1_cutText_45 rfl rfl (by decide) (by decide) (by first | decide | omega) (by first | decide | omega) (Nat.le_of_ble_eq_true rfl) rfl rfl rfl (Nat.le_of_ble_eq_true rfl) (ne_ptb rfl (by decide +kernel) rfl) ?_ ?_
    rotate_left
    · rintro E9 w9 h9; exact h9.elim
    rintro v45 w45 ⟨rfl, rfl⟩
    refine ne_ws (ws' := cW c q t b k n h x y ++ [none]) rfl ?_
    exact ne_aret X hr (by first | exact Or.inl ⟨_, rfl⟩ | exact Or.inr ⟨_, rfl⟩) dX1_cutText_48 ⟨⟨_, _, rfl, Ic, Iq, It, Ib, Itb, Ik, In, ne_rg_mono Ih (by omega) (by omega), Ix, Iy⟩, rfl⟩
  · refine ne_ldcS (tx := "-9") X dX1_cutText_37 (by decide +kernel) (Nat.le_of_ble_eq_true rfl) rfl rfl rfl ?_
    refine ne_goto (tgt := 48) X dX1_cutText_39 rfl ?_
    exact ne_aret X hr (by first | exact Or.inl ⟨_, rfl⟩ | exact Or.inr ⟨_, rfl⟩) dX1_cutText_48 ⟨⟨_, _, rfl, Ic, Iq, It, Ib, Itb, Ik, In, ne_rg_mono Ih (by omega) (by omega), Ix, Iy⟩, rfl⟩
set_option maxRecDepth 100000 in
set_option maxHeartbeats 4000000 in
theorem me_X1_partSum (l : Launch) (hl : l.stackTraces = false) (c q t b k n h x y : Nat → Int) (T : Int) (hI : cI c q t b k n h x y T) (hT : 0 ≤ T ∧ T ≤ 1000) (i : Int) (p : Int) (hi : -2147483648 ≤ i ∧ i < 2147483648) (hp : -2147483648 ≤ p ∧ p < 2147483648) : ne_M l nw_cl (.code yX1_partSum cX1_partSum 3 (some (.object "java/lang/String"))) nw_T yX1_partSum 12 520 230 600 [.ref 0, ni i, ni p] (cW c q t b k n h x y) (fun v w => (∃ x1 y1, w = cW c q t b k n h x1 y1 ++ [none] ∧ cI c q t b k n h x1 y1 (T + 1)) ∧ v = some (.ref 12)) (fun E w => w = cW c q t b k n h x y ∧ (E = "java/lang/IndexOutOfBoundsException" ∨ E = "java/lang/IllegalArgumentException")) := by
  refine ne_meet (own := RX1) hl rfl (by decide +kernel) (Nat.le_of_ble_eq_true rfl) ?_
  intro D ct A P9 V9 R9 S9 M9 as9 bl9 mt9 C9 ad0 X hr hin ht
  obtain ⟨Ic, Iq, It, Ib, Itb, Ik, In, Ih, Ix, Iy⟩ := hI
  refine ne_iload_n X dX1_partSum_0 rfl ?_
  refine ne_callS X nw_Tg (me_X1_requireWheel l hl _ _ (by omega)) nw_yX1_requireWheel nw_mX1_110 nw_sX1_requireWheel dX1_partSum_1 rfl rfl (by decide) (by decide) (by first | decide | omega) (by first | decide | omega) (Nat.le_of_ble_eq_true rfl) rfl rfl (Nat.le_of_ble_eq_true rfl) ?_ ?_
  rotate_left
  · rintro E9 w9 h9; exact ne_out X ht (by obtain ⟨rfl, rfl⟩ := h9; exact ⟨rfl, by first | exact Or.inl rfl | exact Or.inr rfl⟩)
  rintro v1 w1 ⟨rfl, rfl, g1, k1⟩
  refine ne_iload_n X dX1_partSum_4 rfl ?_
  refine ne_ldc2 (z := 2) (by decide) nw_cX1_173 X dX1_partSum_5 ?_
  refine ne_ldc2 (z := 12) (by decide) nw_cX1_175 X dX1_partSum_8 ?_
  refine ne_callS X nw_Tg (me_X1_requireBetween l hl _ _ _ _ (by omega) (by omega) (by omega)) nw_yX1_requireBetween nw_mX1_49 nw_sX1_requireBetween dX1_partSum_11 rfl rfl (by decide) (by decide) (by first | decide | omega) (by first | decide | omega) (Nat.le_of_ble_eq_true rfl) rfl rfl (Nat.le_of_ble_eq_true rfl) ?_ ?_
  rotate_left
  · rintro E9 w9 h9; exact ne_out X ht (by obtain ⟨rfl, rfl⟩ := h9; exact ⟨rfl, by first | exact Or.inl rfl | exact Or.inr rfl⟩)
  rintro v11 w11 ⟨rfl, rfl, g11, k11⟩
  refine ne_aload_n X dX1_partSum_14 rfl ?_
  refine ne_iload_n X dX1_partSum_15 rfl ?_
  refine ne_iload_n X dX1_partSum_16 rfl ?_
  refine ne_callV X nw_Tg (me_X1_hasParts l hl c q t b k n h x y T (by exact ⟨Ic, Iq, It, Ib, Itb, Ik, In, Ih, Ix, Iy⟩) (by omega) _ _ (by omega) (by omega)) nw_yX1_hasParts nw_mX1_177 nw_iX1_hasParts nw_eX1_hasParts (ci := 3) rfl rfl rfl dX1_partSum_17 rfl rfl (by decide) (by decide) (by first | decide | omega) (by first | decide | omega) (Nat.le_of_ble_eq_true rfl) rfl rfl (Nat.le_of_ble_eq_true rfl) ?_ ?_
  rotate_left
  · rintro E9 w9 h9; exact h9.elim
  rintro v17 w17 ⟨rfl, z17, rfl, g17, k17, i17⟩
  refine ne_if_ne (tgt := 26) X dX1_partSum_20 rfl (by omega) (fun b20 => ?_) (fun b20 => ?_)
  · refine ne_aload_n X dX1_partSum_26 rfl ?_
    refine ne_iload_n X dX1_partSum_27 rfl ?_
    refine ne_aload_n X dX1_partSum_28 rfl ?_
    refine ne_iload_n X dX1_partSum_29 rfl ?_
    refine ne_iload_n X dX1_partSum_30 rfl ?_
    refine ne_callV X nw_Tg (me_X1_partLength l hl c q t b k n h x y T (by exact ⟨Ic, Iq, It, Ib, Itb, Ik, In, Ih, Ix, Iy⟩) (by omega) _ _ (by omega) (by omega)) nw_yX1_partLength nw_mX1_180 nw_iX1_partLength nw_eX1_partLength (ci := 3) rfl rfl rfl dX1_partSum_31 rfl rfl (by decide) (by decide) (by first | decide | omega) (by first | decide | omega) (Nat.le_of_ble_eq_true rfl) rfl rfl (Nat.le_of_ble_eq_true rfl) ?_ ?_
    rotate_left
    · rintro E9 w9 h9; exact h9.elim
    rintro v31 w31 ⟨rfl, z31, rfl, g31, k31, i31⟩
    refine ne_callV X nw_Tg (me_X1_workOutPartSum l hl c q t b k n h x y T (by exact ⟨Ic, Iq, It, Ib, Itb, Ik, In, Ih, Ix, Iy⟩) (by omega) _ _ (by omega) (by omega)) nw_yX1_workOutPartSum nw_mX1_183 nw_iX1_workOutPartSum nw_eX1_workOutPartSum (ci := 3) rfl rfl rfl dX1_partSum_34 rfl rfl (by decide) (by decide) (by first | decide | omega) (by first | decide | omega) (Nat.le_of_ble_eq_true rfl) rfl rfl (Nat.le_of_ble_eq_true rfl) ?_ ?_
    rotate_left
    · rintro E9 w9 h9; exact h9.elim
    rintro v34 w34 ⟨rfl, x34, rfl, Ix⟩
    refine ne_aload_n X dX1_partSum_37 rfl ?_
    refine ne_getf X dX1_partSum_38 nw_fX1_34 rfl rfl ?_
    refine ne_callVN (host := "Ninewheel") X nw_Tg (me_X0_written_x l hl c q t b k n h x34 y T (by exact ⟨Ic, Iq, It, Ib, Itb, Ik, In, Ih, Ix, Iy⟩) (by omega)) nw_yX0_written (by decide +kernel) nw_iX0_written nw_eX0_written (ci := 2) rfl rfl rfl dX1_partSum_41 rfl rfl (by decide) (by decide) (by first | decide | omega) (by first | decide | omega) (Nat.le_of_ble_eq_true rfl) rfl rfl (Nat.le_of_ble_eq_true rfl) ?_ ?_
    rotate_left
    · rintro E9 w9 h9; exact h9.elim
    rintro v41 w41 ⟨rfl, rfl⟩
    exact ne_aret X hr (by first | exact Or.inl ⟨_, rfl⟩ | exact Or.inr ⟨_, rfl⟩) dX1_partSum_44 ⟨⟨_, _, rfl, Ic, Iq, It, Ib, Itb, Ik, In, ne_rg_mono Ih (by omega) (by omega), Ix, Iy⟩, rfl⟩
  · refine ne_ldcS (tx := "-9") X dX1_partSum_23 (by decide +kernel) (Nat.le_of_ble_eq_true rfl) rfl rfl rfl ?_
    exact ne_aret X hr (by first | exact Or.inl ⟨_, rfl⟩ | exact Or.inr ⟨_, rfl⟩) dX1_partSum_25 ⟨⟨_, _, rfl, Ic, Iq, It, Ib, Itb, Ik, In, ne_rg_mono Ih (by omega) (by omega), Ix, Iy⟩, rfl⟩
