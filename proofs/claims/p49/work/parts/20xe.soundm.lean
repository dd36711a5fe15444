set_option maxRecDepth 100000 in
set_option maxHeartbeats 4000000 in
theorem me_X3_timesBottomZ (l : Launch) (hl : l.stackTraces = false) (c q t b k h : Nat → Int) (vt T : Int) (hI : mI c q t b k h vt T) (hT : 0 ≤ T ∧ T ≤ 1000000) (i : Int) (hi : 0 ≤ i ∧ i < 3) : ne_M l nw_cl (.code yX3_timesBottom cX3_timesBottom 6 (some (.array .int))) nw_T yX3_timesBottom 2 80 2 194 [.ref 0, ni i] (mW c q t b k h vt) (fun v w => ∃ (n : Nat) (r : Nat → Int), w = mW c q t b k h vt ++ [some (.inl (0, n, r))] ∧ (∃ L : Int, ne_per (t i.toNat) (b i.toNat) L ∧ (n : Int) = L + 2 ∧ 1 ≤ L ∧ L ≤ 96 ∧ (∀ m : Nat, m < n → r m = n9_cd (n9_pd (t i.toNat) (b i.toNat) L) (n - 1 - m))) ∧ ne_rg r (-1000) 1000 ∧ v = some (.ref 7)) (fun _ _ => False) := by
  refine ne_meet (own := RX3) hl rfl (by decide +kernel) (Nat.le_of_ble_eq_true rfl) ?_
  intro D ct A P9 V9 R9 S9 M9 as9 bl9 mt9 C9 ad0 X hr hin ht
  obtain ⟨Ic, Iq, It, Ib, Itb, Igb, Ik, Ih, Iv⟩ := hI
  have htb9 := Itb i.toNat
  have hb9 := Ib i.toNat
  have ht9 := It i.toNat
  have hgb9 := Igb i.toNat
  have hZ : ne_rg (fun _ => 0) 0 9 := (fun _ => by show (0 : Int) ≤ 0 ∧ (0 : Int) ≤ 9; omega)
  have hpd : ∀ (m : Int) (e9 : Nat), 0 ≤ n9_pd (t i.toNat) (b i.toNat) m e9 := fun m e9 => n9_pdN ht9.1 htb9 m e9
  have lp28 : ∀ (n9 : Nat) (z5 : Int) (n1 n2 : Nat) (f1 f2 : Nat → Int) (r j : Int), (j + 1).toNat < n9 → (ne_per (t i.toNat) (b i.toNat) z5) → (1 ≤ z5 ∧ z5 ≤ 96) → (-1 ≤ j) → (j < n2) → (0 ≤ r ∧ r ≤ 99) → ((n1 : Int) = z5) → ((n2 : Int) = n1 + 2) → (ne_rg f1 0 9) → (ne_rg f2 0 9) → (r = n9_cy (n9_pd (t i.toNat) (b i.toNat) z5) ((n2 : Int) - 1 - j).toNat) → (∀ m9 : Nat, m9 < n1 → f1 m9 = n9_dg (t i.toNat) (b i.toNat) m9) → (∀ m9 : Nat, m9 < n2 → j < (m9 : Int) → f2 m9 = n9_cd (n9_pd (t i.toNat) (b i.toNat) z5) (n2 - 1 - m9)) → ne_G nw_cl D ct A 7 ad0 P9 l V9 R9 S9 M9 as9 bl9 mt9 C9 (ne_O nw_cl D ct ad0 7 A bl9 as9 S9 2 194 (fun v w => ∃ (n : Nat) (r : Nat → Int), w = mW c q t b k h vt ++ [some (.inl (0, n, r))] ∧ (∃ L : Int, ne_per (t i.toNat) (b i.toNat) L ∧ (n : Int) = L + 2 ∧ 1 ≤ L ∧ L ≤ 96 ∧ (∀ m : Nat, m < n → r m = n9_cd (n9_pd (t i.toNat) (b i.toNat) L) (n - 1 - m))) ∧ ne_rg r (-1000) 1000 ∧ v = some (.ref 7)) (fun _ _ => False)) 6 2 194 0 0 28 [some (.ref 0), some (ni i), some (.ref 7), some (.ref 8), some (ni r), some (ni j)] [] (mW c q t b k h vt ++ [some (.inl (0, n1, f1)), some (.inl (0, n2, f2))]) := by
    intro n9
    induction n9 with
    | zero => intro z5 n1 n2 f1 f2 r j hm9 P5 k5 q1 q2 q3 q4 q5 If Ig q9 q10 q11; exfalso; omega
    | succ n9 ih =>
      intro z5 n1 n2 f1 f2 r j hm9 P5 k5 q1 q2 q3 q4 q5 If Ig q9 q10 q11
      refine ne_iload X dX3_timesBottom_28 rfl ?_
      refine ne_if_lt (tgt := 83) X dX3_timesBottom_30 rfl (by omega) (fun b30 => ?_) (fun b30 => ?_)
      · refine ne_aload_n X dX3_timesBottom_83 rfl ?_
        refine ne_lnil ?_
        refine ne_forget [7] ?_
        refine ne_viewb [0, 1, 2, 3, 4, 5, 6, 8] (ws' := mW c q t b k h vt ++ [some (.inl (0, n2, f2))]) (L' := []) (st' := [.ref 7]) rfl (by decide) rfl rfl rfl rfl ?_
        exact ne_aret X hr (by first | exact Or.inl ⟨_, rfl⟩ | exact Or.inr ⟨_, rfl⟩) dX3_timesBottom_84 ⟨_, _, rfl, ⟨z5, P5, by omega, by omega, by omega, fun m9 h9 => q11 m9 h9 (by omega)⟩, ne_rg_mono Ig (by omega) (by omega), rfl⟩
      · refine ne_iload X dX3_timesBottom_33 rfl ?_
        refine ne_iload X dX3_timesBottom_35 rfl ?_
        refine ne_iconst X dX3_timesBottom_37 ?_
        refine ne_icmp_ge (tgt := 45) X dX3_timesBottom_38 rfl (by omega) (by omega) (fun b38 => ?_) (fun b38 => ?_)
        · refine ne_aload_n X dX3_timesBottom_45 rfl ?_
          refine ne_iload X dX3_timesBottom_46 rfl ?_
          refine ne_iconst X dX3_timesBottom_48 ?_
          refine ne_isub X dX3_timesBottom_49 ?_
          refine ne_ialdR X dX3_timesBottom_50 rfl (by omega) If (fun v50 e50 f50 u50 => ?_)
          refine ne_aload_n X dX3_timesBottom_51 rfl ?_
          refine ne_getf X dX3_timesBottom_52 nw_fX3_21 rfl rfl ?_
          refine ne_iload_n X dX3_timesBottom_55 rfl ?_
          refine ne_ialdR X dX3_timesBottom_56 rfl (by omega) Ib (fun v56 e56 f56 u56 => ?_)
          have m57 := ne_mul v50 v56 9 99 (by omega) (by omega)
          have m58 : 0 ≤ v50 * v56 := Int.mul_nonneg (by omega) (by omega)
          refine ne_imul X dX3_timesBottom_57 ?_
          refine ne_iadd X dX3_timesBottom_58 ?_
          refine ne_topI (fun r59 e59 => ?_)
          have p59 : 0 ≤ r59 ∧ r59 ≤ 990 := by omega
          have t59 := ne_t10 r59 (by omega)
          have x59 : r59 = n9_pd (t i.toNat) (b i.toNat) z5 ((n2 : Int) - 1 - j).toNat + n9_cy (n9_pd (t i.toNat) (b i.toNat) z5) ((n2 : Int) - 1 - j).toNat := by
                                            rw [← q9]
                                            unfold n9_pd
                                            first | (rw [if_neg (show ¬ (((((n2 : Int) - 1 - j).toNat : Nat) : Int) < z5) by omega)]; omega) | (rw [if_pos (show ((((n2 : Int) - 1 - j).toNat : Nat) : Int) < z5 by omega), show (z5 - 1 - ((((n2 : Int) - 1 - j).toNat : Nat) : Int)).toNat = (j - 2).toNat by omega, ← q10 _ (by omega), ← e50, ← e56]; omega)
          refine ne_istore X dX3_timesBottom_59 (by decide) ?_
          refine ne_aload_n X dX3_timesBottom_61 rfl ?_
          refine ne_iload X dX3_timesBottom_62 rfl ?_
          refine ne_iload X dX3_timesBottom_64 rfl ?_
          refine ne_bipush (v := 10) (by decide) X dX3_timesBottom_66 ?_
          refine ne_irem X dX3_timesBottom_68 (by omega) (by omega) (by omega) ?_
          refine ne_iastR X dX3_timesBottom_69 rfl (by omega) (ne_rg_mono Ig (by omega) (by omega)) (a := 0) (b := 9) (by omega) (fun a69 ha69 J69 => ?_)
          refine ne_ws (ws' := mW c q t b k h vt ++ [some (.inl (0, n1, f1)), some (.inl (0, n2, a69))]) rfl ?_
          refine ne_iload X dX3_timesBottom_70 rfl ?_
          refine ne_bipush (v := 10) (by decide) X dX3_timesBottom_72 ?_
          refine ne_idiv X dX3_timesBottom_74 (by omega) (by omega) (by omega) ?_
          refine ne_istore X dX3_timesBottom_75 (by decide) ?_
          refine ne_ll (L' := [some (.ref 0), some (ni _), some (.ref 7), some (.ref 8), some (ni _), some (ni _)]) rfl ?_
          refine ne_iinc X dX3_timesBottom_77 rfl (by decide) ?_
          refine ne_goto (tgt := 28) X dX3_timesBottom_80 rfl ?_
          have k9 : r59.tdiv 10 = n9_cy (n9_pd (t i.toNat) (b i.toNat) z5) ((n2 : Int) - 1 - (j + -1)).toNat := by
                                            rw [show ((n2 : Int) - 1 - (j + -1)).toNat = ((n2 : Int) - 1 - j).toNat + 1 by omega, x59]
                                            exact (n9_cyT (hpd z5) _).1
          have k11 : ∀ m9 : Nat, m9 < n2 → j + -1 < (m9 : Int) → a69 m9 = n9_cd (n9_pd (t i.toNat) (b i.toNat) z5) (n2 - 1 - m9) := fun m9 h8 h9 => by
                                            rcases n9_upI (m := m9) ha69 with ⟨rfl, e2⟩ | ⟨e1, e2⟩
                                            · rw [e2, x59, show n2 - 1 - j.toNat = ((n2 : Int) - 1 - j).toNat by omega]
                                              exact (n9_cyT (hpd z5) _).2
                                            · rw [e2]; exact q11 m9 h8 (by omega)
          exact ih z5 _ _ _ _ _ (j + -1) (by omega) P5 k5 (by omega) (by omega) (by omega) (by omega) (by omega) If J69 k9 q10 k11
        · refine ne_iconst X dX3_timesBottom_41 ?_
          refine ne_goto (tgt := 58) X dX3_timesBottom_42 rfl ?_
          refine ne_iadd X dX3_timesBottom_58 ?_
          refine ne_topI (fun r59 e59 => ?_)
          have p59 : 0 ≤ r59 ∧ r59 ≤ 990 := by omega
          have t59 := ne_t10 r59 (by omega)
          have x59 : r59 = n9_pd (t i.toNat) (b i.toNat) z5 ((n2 : Int) - 1 - j).toNat + n9_cy (n9_pd (t i.toNat) (b i.toNat) z5) ((n2 : Int) - 1 - j).toNat := by
                                            rw [← q9]
                                            unfold n9_pd
                                            first | (rw [if_neg (show ¬ (((((n2 : Int) - 1 - j).toNat : Nat) : Int) < z5) by omega)]; omega) | (rw [if_pos (show ((((n2 : Int) - 1 - j).toNat : Nat) : Int) < z5 by omega), show (z5 - 1 - ((((n2 : Int) - 1 - j).toNat : Nat) : Int)).toNat = (j - 2).toNat by omega, ← q10 _ (by omega), ← e50, ← e56]; omega)
          refine ne_istore X dX3_timesBottom_59 (by decide) ?_
          refine ne_aload_n X dX3_timesBottom_61 rfl ?_
          refine ne_iload X dX3_timesBottom_62 rfl ?_
          refine ne_iload X dX3_timesBottom_64 rfl ?_
          refine ne_bipush (v := 10) (by decide) X dX3_timesBottom_66 ?_
          refine ne_irem X dX3_timesBottom_68 (by omega) (by omega) (by omega) ?_
          refine ne_iastR X dX3_timesBottom_69 rfl (by omega) (ne_rg_mono Ig (by omega) (by omega)) (a := 0) (b := 9) (by omega) (fun a69 ha69 J69 => ?_)
          refine ne_ws (ws' := mW c q t b k h vt ++ [some (.inl (0, n1, f1)), some (.inl (0, n2, a69))]) rfl ?_
          refine ne_iload X dX3_timesBottom_70 rfl ?_
          refine ne_bipush (v := 10) (by decide) X dX3_timesBottom_72 ?_
          refine ne_idiv X dX3_timesBottom_74 (by omega) (by omega) (by omega) ?_
          refine ne_istore X dX3_timesBottom_75 (by decide) ?_
          refine ne_ll (L' := [some (.ref 0), some (ni _), some (.ref 7), some (.ref 8), some (ni _), some (ni _)]) rfl ?_
          refine ne_iinc X dX3_timesBottom_77 rfl (by decide) ?_
          refine ne_goto (tgt := 28) X dX3_timesBottom_80 rfl ?_
          have k9 : r59.tdiv 10 = n9_cy (n9_pd (t i.toNat) (b i.toNat) z5) ((n2 : Int) - 1 - (j + -1)).toNat := by
                                            rw [show ((n2 : Int) - 1 - (j + -1)).toNat = ((n2 : Int) - 1 - j).toNat + 1 by omega, x59]
                                            exact (n9_cyT (hpd z5) _).1
          have k11 : ∀ m9 : Nat, m9 < n2 → j + -1 < (m9 : Int) → a69 m9 = n9_cd (n9_pd (t i.toNat) (b i.toNat) z5) (n2 - 1 - m9) := fun m9 h8 h9 => by
                                            rcases n9_upI (m := m9) ha69 with ⟨rfl, e2⟩ | ⟨e1, e2⟩
                                            · rw [e2, x59, show n2 - 1 - j.toNat = ((n2 : Int) - 1 - j).toNat by omega]
                                              exact (n9_cyT (hpd z5) _).2
                                            · rw [e2]; exact q11 m9 h8 (by omega)
          exact ih z5 _ _ _ _ _ (j + -1) (by omega) P5 k5 (by omega) (by omega) (by omega) (by omega) (by omega) If J69 k9 q10 k11
  refine ne_aload_n X dX3_timesBottom_0 rfl ?_
  refine ne_iload_n X dX3_timesBottom_1 rfl ?_
  refine ne_iconst X dX3_timesBottom_2 ?_
  refine ne_aload_n X dX3_timesBottom_3 rfl ?_
  refine ne_iload_n X dX3_timesBottom_4 rfl ?_
  refine ne_callV X nw_Tg (me_X3_lengthOf_ l hl c q t b k h vt T (by exact ⟨Ic, Iq, It, Ib, Itb, Igb, Ik, Ih, Iv⟩) (by omega) _ (by omega)) nw_yX3_lengthOf_ nw_mX3_146 nw_iX3_lengthOf_ nw_eX3_lengthOf_ (ci := 5) rfl rfl rfl dX3_timesBottom_5 rfl rfl (by decide) (by decide) (by first | decide | omega) (by first | decide | omega) (Nat.le_of_ble_eq_true rfl) rfl rfl (Nat.le_of_ble_eq_true rfl) ?_ ?_
  rotate_left
  · rintro E9 w9 h9; exact h9.elim
  rintro v5 w5 ⟨rfl, z5, rfl, P5, g5, k5⟩
  refine ne_callV X nw_Tg (me_X3_rowZ l hl c q t b k h vt T (by exact ⟨Ic, Iq, It, Ib, Itb, Igb, Ik, Ih, Iv⟩) (by omega) _ _ _ (by omega) (by omega) (by omega)) nw_yX3_row nw_mX3_160 nw_iX3_row nw_eX3_row (ci := 5) rfl rfl rfl dX3_timesBottom_8 rfl rfl (by decide) (by decide) (by first | decide | omega) (by first | decide | omega) (Nat.le_of_ble_eq_true rfl) rfl rfl (Nat.le_of_ble_eq_true rfl) ?_ ?_
  rotate_left
  · rintro E9 w9 h9; exact h9.elim
  rintro v8 w8 ⟨n8, r8, rfl, N8, R8, rfl, D8⟩
  refine ne_astore_n X dX3_timesBottom_11 rfl (by decide) ?_
  refine ne_aload_n X dX3_timesBottom_12 rfl ?_
  refine ne_alen X dX3_timesBottom_13 rfl (by decide) ?_
  refine ne_iconst X dX3_timesBottom_14 ?_
  refine ne_iadd X dX3_timesBottom_15 ?_
  refine ne_newa (t := 0) X dX3_timesBottom_16 (Or.inl ⟨rfl, rfl⟩) nw_Aint (by omega) (by omega) (by omega) (Nat.le_of_ble_eq_true rfl) rfl rfl rfl ?_
  refine ne_astore_n X dX3_timesBottom_18 rfl (by decide) ?_
  refine ne_ll (L' := [some (.ref 0), some (ni _), some (.ref 7), some (.ref 8), none, none]) rfl ?_
  refine ne_iconst X dX3_timesBottom_19 ?_
  refine ne_istore X dX3_timesBottom_20 (by decide) ?_
  refine ne_aload_n X dX3_timesBottom_22 rfl ?_
  refine ne_alen X dX3_timesBottom_23 rfl (by decide) ?_
  refine ne_iconst X dX3_timesBottom_24 ?_
  refine ne_isub X dX3_timesBottom_25 ?_
  refine ne_istore X dX3_timesBottom_26 (by decide) ?_
  refine ne_ll (L' := [some (.ref 0), some (ni _), some (.ref 7), some (.ref 8), some (ni _), some (ni _)]) rfl ?_
  refine ne_less (C' := 0) (S' := 0) (by omega) (by omega) ?_
  exact lp28 _ z5 _ _ _ _ 0 _ (Nat.lt_succ_self _) P5 (by omega) (by omega) (by omega) (by omega) (by omega) (by omega) R8 hZ (n9_cy0 (by omega)) (fun m9 h9 => by have d9 := D8 m9 (by omega); rw [show (0 : Int).toNat + m9 = m9 by omega] at d9; exact d9) (fun m9 h8 h9 => by omega)
set_option maxRecDepth 100000 in
set_option maxHeartbeats 4000000 in
theorem me_X3_allNinesZ (l : Launch) (hl : l.stackTraces = false) (c q t b k h : Nat → Int) (vt T : Int) (hI : mI c q t b k h vt T) (hT : 0 ≤ T ∧ T ≤ 1000000) (i : Int) (hi : 0 ≤ i ∧ i < 3) : ne_M l nw_cl (.code yX3_allNines cX3_allNines 5 (some (.array .int))) nw_T yX3_allNines 2 80 1 98 [.ref 0, ni i] (mW c q t b k h vt) (fun v w => ∃ (n : Nat) (r : Nat → Int), w = mW c q t b k h vt ++ [some (.inl (0, n, r))] ∧ (∃ L : Int, ne_per (t i.toNat) (b i.toNat) L ∧ (n : Int) = L + 2 ∧ 1 ≤ L ∧ L ≤ 96 ∧ (∀ m : Nat, m < n → r m = n9_cd (n9_nn L (t i.toNat)) (n - 1 - m))) ∧ ne_rg r (-1000) 1000 ∧ v = some (.ref 7)) (fun _ _ => False) := by
  refine ne_meet (own := RX3) hl rfl (by decide +kernel) (Nat.le_of_ble_eq_true rfl) ?_
  intro D ct A P9 V9 R9 S9 M9 as9 bl9 mt9 C9 ad0 X hr hin ht
  obtain ⟨Ic, Iq, It, Ib, Itb, Igb, Ik, Ih, Iv⟩ := hI
  have htb9 := Itb i.toNat
  have hb9 := Ib i.toNat
  have ht9 := It i.toNat
  have hgb9 := Igb i.toNat
  have hZ : ne_rg (fun _ => 0) 0 9 := (fun _ => by show (0 : Int) ≤ 0 ∧ (0 : Int) ≤ 9; omega)
  have k20 : (t i.toNat).tdiv 10 = t i.toNat / 10 ∧ (t i.toNat).tmod 10 = t i.toNat % 10 := ⟨Int.tdiv_eq_ediv_of_nonneg ht9.1, Int.tmod_eq_emod_of_nonneg ht9.1⟩
  have lp47 : ∀ (n9 : Nat) (z2 : Int) (n1 : Nat) (f1 : Nat → Int) (r j : Int), (j + 1).toNat < n9 → (ne_per (t i.toNat) (b i.toNat) z2) → (1 ≤ z2 ∧ z2 ≤ 96) → (-1 ≤ j) → (j < n1) → (0 ≤ r ∧ r ≤ 98) → ((n1 : Int) = z2 + 2) → (ne_rg f1 (-9 * (97 - j)) (9 + 10 * (97 - j))) → (n9_bi (t i.toNat) z2 ((n1 : Int) - 1 - j) r) → (∀ m9 : Nat, m9 < n1 → (j < (m9 : Int) → f1 m9 = n9_cd (n9_nn z2 (t i.toNat)) (n1 - 1 - m9)) ∧ ((m9 : Int) ≤ j → (m9 = 0 → f1 m9 = t i.toNat / 10) ∧ (m9 = 1 → f1 m9 = t i.toNat % 10) ∧ (2 ≤ m9 → f1 m9 = 0))) → ne_G nw_cl D ct A 7 ad0 P9 l V9 R9 S9 M9 as9 bl9 mt9 C9 (ne_O nw_cl D ct ad0 7 A bl9 as9 S9 1 98 (fun v w => ∃ (n : Nat) (r : Nat → Int), w = mW c q t b k h vt ++ [some (.inl (0, n, r))] ∧ (∃ L : Int, ne_per (t i.toNat) (b i.toNat) L ∧ (n : Int) = L + 2 ∧ 1 ≤ L ∧ L ≤ 96 ∧ (∀ m : Nat, m < n → r m = n9_cd (n9_nn L (t i.toNat)) (n - 1 - m))) ∧ ne_rg r (-1000) 1000 ∧ v = some (.ref 7)) (fun _ _ => False)) 5 1 98 0 0 47 [some (.ref 0), some (ni i), some (.ref 7), some (ni r), some (ni j)] [] (mW c q t b k h vt ++ [some (.inl (0, n1, f1))]) := by
    intro n9
    induction n9 with
    | zero => intro z2 n1 f1 r j hm9 P2 k2 q1 q2 q3 q4 If q9 q7; exfalso; omega
    | succ n9 ih =>
      intro z2 n1 f1 r j hm9 P2 k2 q1 q2 q3 q4 If q9 q7
      have t9 := ne_t10 r (by omega)
      refine ne_iload X dX3_allNines_47 rfl ?_
      refine ne_if_lt (tgt := 96) X dX3_allNines_49 rfl (by omega) (fun b49 => ?_) (fun b49 => ?_)
      · refine ne_aload_n X dX3_allNines_96 rfl ?_
        exact ne_aret X hr (by first | exact Or.inl ⟨_, rfl⟩ | exact Or.inr ⟨_, rfl⟩) dX3_allNines_97 ⟨_, _, rfl, ⟨z2, P2, by omega, by omega, by omega, fun m9 h9 => (q7 m9 h9).1 (by omega)⟩, ne_rg_mono If (by omega) (by omega), rfl⟩
      · refine ne_aload_n X dX3_allNines_52 rfl ?_
        refine ne_iload X dX3_allNines_53 rfl ?_
        refine ne_dup2ai X dX3_allNines_55 ?_
        refine ne_ialdR X dX3_allNines_56 rfl (by omega) If (fun v56 e56 f56 u56 => ?_)
        refine ne_iload_n X dX3_allNines_57 rfl ?_
        refine ne_bipush (v := 10) (by decide) X dX3_allNines_58 ?_
        refine ne_irem X dX3_allNines_60 (by omega) (by omega) (by omega) ?_
        refine ne_isub X dX3_allNines_61 ?_
        refine ne_iastR X dX3_allNines_62 rfl (by omega) (ne_rg_mono If (by omega) (by omega)) (a := -9 * (97 - j) - 9) (b := 9 + 10 * (97 - j)) (by omega) (fun a62 ha62 J62 => ?_)
        refine ne_ws (ws' := mW c q t b k h vt ++ [some (.inl (0, n1, a62))]) rfl ?_
        refine ne_iload_n X dX3_allNines_63 rfl ?_
        refine ne_bipush (v := 10) (by decide) X dX3_allNines_64 ?_
        refine ne_idiv X dX3_allNines_66 (by omega) (by omega) (by omega) ?_
        have k62 : r.tdiv 10 = r / 10 ∧ r.tmod 10 = r % 10 := ⟨Int.tdiv_eq_ediv_of_nonneg (by omega), Int.tmod_eq_emod_of_nonneg (by omega)⟩
        have k7 := (q7 j.toNat (by omega)).2 (by omega)
        rw [← e56] at k7
        have S62 := n9_bS (v := v56 - r.tmod 10) ht9 (by omega) (by omega) q9 (a := v56) ⟨fun h9 => k7.2.2 (by omega), fun h9 => k7.2.1 (by omega), fun h9 => k7.1 (by omega)⟩ (by rw [k62.2])
        refine ne_istore_n X dX3_allNines_67 rfl (by decide) ?_
        refine ne_aload_n X dX3_allNines_68 rfl ?_
        refine ne_iload X dX3_allNines_69 rfl ?_
        refine ne_ialdR X dX3_allNines_71 rfl (by omega) J62 (fun v71 e71 f71 u71 => ?_)
        have k71 : v71 = v56 - r.tmod 10 := by
                                            rw [e71]
                                            rcases n9_upI (m := j.toNat) ha62 with ⟨e3, e4⟩ | ⟨e3, e4⟩
                                            · exact e4
                                            · exact absurd rfl e3
        rw [← k71] at S62
        refine ne_if_lt (tgt := 78) X dX3_allNines_72 rfl (by omega) (fun b72 => ?_) (fun b72 => ?_)
        · refine ne_aload_n X dX3_allNines_78 rfl ?_
          refine ne_iload X dX3_allNines_79 rfl ?_
          refine ne_dup2ai X dX3_allNines_81 ?_
          refine ne_ialdR X dX3_allNines_82 rfl (by omega) J62 (fun v82 e82 f82 u82 => ?_)
          have k82 : v82 = v71 := e82.trans e71.symm
          refine ne_bipush (v := 10) (by decide) X dX3_allNines_83 ?_
          refine ne_iadd X dX3_allNines_85 ?_
          refine ne_iastR X dX3_allNines_86 rfl (by omega) (ne_rg_mono J62 (by omega) (by omega)) (a := -9 * (97 - j) - 9) (b := 9 + 10 * (97 - j) + 10) (by omega) (fun a86 ha86 J86 => ?_)
          refine ne_ws (ws' := mW c q t b k h vt ++ [some (.inl (0, n1, a86))]) rfl ?_
          refine ne_iinc X dX3_allNines_87 rfl (by decide) ?_
          refine ne_ll (L' := [some (.ref 0), some (ni _), some (.ref 7), some (ni _), some (ni _)]) rfl ?_
          refine ne_iinc X dX3_allNines_90 rfl (by decide) ?_
          refine ne_goto (tgt := 47) X dX3_allNines_93 rfl ?_
          have k8 := S62.2 b72
          have k9 : n9_bi (t i.toNat) z2 ((n1 : Int) - 1 - (j + -1)) (r.tdiv 10 + 1) := by
                                            rw [show (n1 : Int) - 1 - (j + -1) = ((n1 : Int) - 1 - j) + 1 by omega, k62.1]; exact k8.2
          have k11 : ∀ m9 : Nat, m9 < n1 → (j + -1 < (m9 : Int) → a86 m9 = n9_cd (n9_nn z2 (t i.toNat)) (n1 - 1 - m9)) ∧ ((m9 : Int) ≤ j + -1 → (m9 = 0 → a86 m9 = t i.toNat / 10) ∧ (m9 = 1 → a86 m9 = t i.toNat % 10) ∧ (2 ≤ m9 → a86 m9 = 0)) := fun m9 h9 => by
                                            have q9 := q7 m9 h9
                                            rcases n9_upI (m := m9) ha86 with ⟨rfl, e2⟩ | ⟨e1, e2⟩
                                            · refine ⟨fun _ => ?_, fun h9 => by omega⟩
                                              rw [e2, k82, show n1 - 1 - j.toNat = ((n1 : Int) - 1 - j).toNat by omega]; exact k8.1.symm
                                            · rcases n9_upI (m := m9) ha62 with ⟨e3, e4⟩ | ⟨e3, e4⟩
                                              · exact absurd e3 e1
                                              · rw [e2, e4]; exact ⟨fun h9 => q9.1 (by omega), fun h9 => q9.2 (by omega)⟩
          exact ih z2 _ _ _ (j + -1) (by omega) P2 k2 (by omega) (by omega) (by have k12 := k8.2.1; have k13 := k8.2.2.1; omega) (by omega) (ne_rg_mono J86 (by omega) (by omega)) k9 k11
        · refine ne_goto (tgt := 90) X dX3_allNines_75 rfl ?_
          refine ne_iinc X dX3_allNines_90 rfl (by decide) ?_
          refine ne_ll (L' := [some (.ref 0), some (ni _), some (.ref 7), some (ni _), some (ni _)]) rfl ?_
          refine ne_goto (tgt := 47) X dX3_allNines_93 rfl ?_
          have k8 := S62.1 (by omega)
          have k9 : n9_bi (t i.toNat) z2 ((n1 : Int) - 1 - (j + -1)) (r.tdiv 10) := by
                                            rw [show (n1 : Int) - 1 - (j + -1) = ((n1 : Int) - 1 - j) + 1 by omega, k62.1]; exact k8.2
          have k11 : ∀ m9 : Nat, m9 < n1 → (j + -1 < (m9 : Int) → a62 m9 = n9_cd (n9_nn z2 (t i.toNat)) (n1 - 1 - m9)) ∧ ((m9 : Int) ≤ j + -1 → (m9 = 0 → a62 m9 = t i.toNat / 10) ∧ (m9 = 1 → a62 m9 = t i.toNat % 10) ∧ (2 ≤ m9 → a62 m9 = 0)) := fun m9 h9 => by
                                            have q9 := q7 m9 h9
                                            rcases n9_upI (m := m9) ha62 with ⟨rfl, e2⟩ | ⟨e1, e2⟩
                                            · refine ⟨fun _ => ?_, fun h9 => by omega⟩
                                              rw [e2, ← k71, show n1 - 1 - j.toNat = ((n1 : Int) - 1 - j).toNat by omega]; exact k8.1.symm
                                            · rw [e2]; exact ⟨fun h9 => q9.1 (by omega), fun h9 => q9.2 (by omega)⟩
          exact ih z2 _ _ _ (j + -1) (by omega) P2 k2 (by omega) (by omega) (by have k12 := k8.2.1; have k13 := k8.2.2.1; omega) (by omega) (ne_rg_mono J62 (by omega) (by omega)) k9 k11
  refine ne_aload_n X dX3_allNines_0 rfl ?_
  refine ne_iload_n X dX3_allNines_1 rfl ?_
  refine ne_callV X nw_Tg (me_X3_lengthOf_ l hl c q t b k h vt T (by exact ⟨Ic, Iq, It, Ib, Itb, Igb, Ik, Ih, Iv⟩) (by omega) _ (by omega)) nw_yX3_lengthOf_ nw_mX3_146 nw_iX3_lengthOf_ nw_eX3_lengthOf_ (ci := 5) rfl rfl rfl dX3_allNines_2 rfl rfl (by decide) (by decide) (by first | decide | omega) (by first | decide | omega) (Nat.le_of_ble_eq_true rfl) rfl rfl (Nat.le_of_ble_eq_true rfl) ?_ ?_
  rotate_left
  · rintro E9 w9 h9; exact h9.elim
  rintro v2 w2 ⟨rfl, z2, rfl, P2, g2, k2⟩
  refine ne_iconst X dX3_allNines_5 ?_
  refine ne_iadd X dX3_allNines_6 ?_
  refine ne_newa (t := 0) X dX3_allNines_7 (Or.inl ⟨rfl, rfl⟩) nw_Aint (by omega) (by omega) (by omega) (Nat.le_of_ble_eq_true rfl) rfl rfl rfl ?_
  refine ne_astore_n X dX3_allNines_9 rfl (by decide) ?_
  refine ne_aload_n X dX3_allNines_10 rfl ?_
  refine ne_iconst X dX3_allNines_11 ?_
  refine ne_aload_n X dX3_allNines_12 rfl ?_
  refine ne_getf X dX3_allNines_13 nw_fX3_18 rfl rfl ?_
  refine ne_iload_n X dX3_allNines_16 rfl ?_
  refine ne_ialdR X dX3_allNines_17 rfl (by omega) It (fun v17 e17 f17 u17 => ?_)
  refine ne_bipush (v := 10) (by decide) X dX3_allNines_18 ?_
  have t17 := ne_t10 v17 (by omega)
  refine ne_idiv X dX3_allNines_20 (by omega) (by omega) (by omega) ?_
  refine ne_iastR X dX3_allNines_21 rfl (by omega) (ne_rg_mono hZ (by omega) (by omega)) (a := 0) (b := 9) (by omega) (fun a21 ha21 J21 => ?_)
  refine ne_ws (ws' := mW c q t b k h vt ++ [some (.inl (0, (z2 + 2).toNat, a21))]) rfl ?_
  refine ne_aload_n X dX3_allNines_22 rfl ?_
  refine ne_iconst X dX3_allNines_23 ?_
  refine ne_aload_n X dX3_allNines_24 rfl ?_
  refine ne_getf X dX3_allNines_25 nw_fX3_18 rfl rfl ?_
  refine ne_iload_n X dX3_allNines_28 rfl ?_
  refine ne_ialdR X dX3_allNines_29 rfl (by omega) It (fun v29 e29 f29 u29 => ?_)
  refine ne_bipush (v := 10) (by decide) X dX3_allNines_30 ?_
  have t29 := ne_t10 v29 (by omega)
  refine ne_irem X dX3_allNines_32 (by omega) (by omega) (by omega) ?_
  refine ne_iastR X dX3_allNines_33 rfl (by omega) (ne_rg_mono J21 (by omega) (by omega)) (a := 0) (b := 9) (by omega) (fun a33 ha33 J33 => ?_)
  refine ne_ws (ws' := mW c q t b k h vt ++ [some (.inl (0, (z2 + 2).toNat, a33))]) rfl ?_
  refine ne_aload_n X dX3_allNines_34 rfl ?_
  refine ne_getf X dX3_allNines_35 nw_fX3_18 rfl rfl ?_
  refine ne_iload_n X dX3_allNines_38 rfl ?_
  refine ne_ialdR X dX3_allNines_39 rfl (by omega) It (fun v39 e39 f39 u39 => ?_)
  refine ne_istore_n X dX3_allNines_40 rfl (by decide) ?_
  refine ne_ll (L' := [some (.ref 0), some (ni _), some (.ref 7), some (ni _), none]) rfl ?_
  refine ne_aload_n X dX3_allNines_41 rfl ?_
  refine ne_alen X dX3_allNines_42 rfl (by decide) ?_
  refine ne_iconst X dX3_allNines_43 ?_
  refine ne_isub X dX3_allNines_44 ?_
  refine ne_istore X dX3_allNines_45 (by decide) ?_
  refine ne_less (C' := 0) (S' := 0) (by omega) (by omega) ?_
  have k7 : ∀ m9 : Nat, (m9 = 0 → a33 m9 = t i.toNat / 10) ∧ (m9 = 1 → a33 m9 = t i.toNat % 10) ∧ (2 ≤ m9 → a33 m9 = 0) := fun m9 => by
                                            rcases n9_upI (m := m9) ha33 with ⟨rfl, e2⟩ | ⟨e1, e2⟩
                                            · rw [e2, e29, k20.2]; exact ⟨fun h9 => absurd h9 (by decide), fun _ => rfl, fun h9 => absurd h9 (by decide)⟩
                                            · rw [e2]
                                              rcases n9_upI (m := m9) ha21 with ⟨rfl, e4⟩ | ⟨e3, e4⟩
                                              · rw [e4, e17, k20.1]; exact ⟨fun _ => rfl, fun h9 => absurd h9 (by decide), fun h9 => absurd h9 (by decide)⟩
                                              · rw [e4]; exact ⟨fun h9 => absurd h9 e3, fun h9 => absurd h9 e1, fun _ => rfl⟩
  exact lp47 _ z2 _ _ _ _ (Nat.lt_succ_self _) P2 (by omega) (by omega) (by omega) (by omega) (by omega) (ne_rg_mono J33 (by omega) (by omega)) (n9_bE (by omega) e39 (n9_b0 _ _ ht9 (by omega))) (fun m9 h9 => ⟨fun h8 => by omega, fun _ => k7 m9⟩)
set_option maxRecDepth 100000 in
set_option maxHeartbeats 4000000 in
theorem me_X3_areSameY (l : Launch) (hl : l.stackTraces = false) (c q t b k h : Nat → Int) (vt T : Int) (hI : mI c q t b k h vt T) (hT : 0 ≤ T ∧ T ≤ 1000000) (i j : Int) (hi : 0 ≤ i ∧ i < 4) (hj : 0 ≤ j ∧ j < 4) : ne_M l nw_cl (.code yX3_areSame cX3_areSame 3 (some .boolean)) nw_T yX3_areSame 0 0 0 0 [.ref 0, ni i, ni j] (mW c q t b k h vt) (fun v w => w = mW c q t b k h vt ∧ ∃ z : Int, v = some (ni z) ∧ 0 ≤ z ∧ z ≤ 1 ∧ (z = 1 ↔ c i.toNat = c j.toNat ∧ q i.toNat = q j.toNat)) (fun _ _ => False) := by
  refine ne_meet (own := RX3) hl rfl (by decide +kernel) (Nat.le_of_ble_eq_true rfl) ?_
  intro D ct A P9 V9 R9 S9 M9 as9 bl9 mt9 C9 ad0 X hr hin ht
  obtain ⟨Ic, Iq, It, Ib, Itb, Igb, Ik, Ih, Iv⟩ := hI
  refine ne_aload_n X dX3_areSame_0 rfl ?_
  refine ne_getf X dX3_areSame_1 nw_fX3_9 rfl rfl ?_
  refine ne_iload_n X dX3_areSame_4 rfl ?_
  refine ne_ialdR X dX3_areSame_5 rfl (by omega) Ic (fun v5 e5 f5 u5 => ?_)
  refine ne_aload_n X dX3_areSame_6 rfl ?_
  refine ne_getf X dX3_areSame_7 nw_fX3_9 rfl rfl ?_
  refine ne_iload_n X dX3_areSame_10 rfl ?_
  refine ne_ialdR X dX3_areSame_11 rfl (by omega) Ic (fun v11 e11 f11 u11 => ?_)
  refine ne_icmp_ne (tgt := 34) X dX3_areSame_12 rfl (by omega) (by omega) (fun b12 => ?_) (fun b12 => ?_)
  · refine ne_iconst X dX3_areSame_34 ?_
    exact ne_iret X hr (by first | rfl | decide | rfl) dX3_areSame_35 ⟨rfl, _, rfl, by omega, by omega, (by rw [← e5, ← e11]; first | omega | (rw [← e20, ← e26]; omega))⟩
  · refine ne_aload_n X dX3_areSame_15 rfl ?_
    refine ne_getf X dX3_areSame_16 nw_fX3_15 rfl rfl ?_
    refine ne_iload_n X dX3_areSame_19 rfl ?_
    refine ne_ialdR X dX3_areSame_20 rfl (by omega) Iq (fun v20 e20 f20 u20 => ?_)
    refine ne_aload_n X dX3_areSame_21 rfl ?_
    refine ne_getf X dX3_areSame_22 nw_fX3_15 rfl rfl ?_
    refine ne_iload_n X dX3_areSame_25 rfl ?_
    refine ne_ialdR X dX3_areSame_26 rfl (by omega) Iq (fun v26 e26 f26 u26 => ?_)
    refine ne_icmp_ne (tgt := 34) X dX3_areSame_27 rfl (by omega) (by omega) (fun b27 => ?_) (fun b27 => ?_)
    · refine ne_iconst X dX3_areSame_34 ?_
      exact ne_iret X hr (by first | rfl | decide | rfl) dX3_areSame_35 ⟨rfl, _, rfl, by omega, by omega, (by rw [← e5, ← e11]; first | omega | (rw [← e20, ← e26]; omega))⟩
    · refine ne_iconst X dX3_areSame_30 ?_
      refine ne_goto (tgt := 35) X dX3_areSame_31 rfl ?_
      exact ne_iret X hr (by first | rfl | decide | rfl) dX3_areSame_35 ⟨rfl, _, rfl, by omega, by omega, (by rw [← e5, ← e11]; first | omega | (rw [← e20, ← e26]; omega))⟩
set_option maxRecDepth 100000 in
set_option maxHeartbeats 4000000 in
theorem me_X3_isSoundPairZ (l : Launch) (hl : l.stackTraces = false) (c q t b k h : Nat → Int) (vt T : Int) (hI : mI c q t b k h vt T) (hT : 0 ≤ T ∧ T ≤ 1000000) (i j : Int) (hi : 0 ≤ i ∧ i < 4) (hj : 0 ≤ j ∧ j < 4) : ne_M l nw_cl (.code yX3_isSoundPair cX3_isSoundPair 7 (some .boolean)) nw_T yX3_isSoundPair 3 120 0 0 [.ref 0, ni i, ni j] (mW c q t b k h vt) (fun v w => w = mW c q t b k h vt ∧ ∃ z : Int, v = some (ni z) ∧ z = 1) (fun _ _ => False) := by
  refine ne_meet (own := RX3) hl rfl (by decide +kernel) (Nat.le_of_ble_eq_true rfl) ?_
  intro D ct A P9 V9 R9 S9 M9 as9 bl9 mt9 C9 ad0 X hr hin ht
  obtain ⟨Ic, Iq, It, Ib, Itb, Igb, Ik, Ih, Iv⟩ := hI
  refine ne_aload_n X dX3_isSoundPair_0 rfl ?_
  refine ne_iload_n X dX3_isSoundPair_1 rfl ?_
  refine ne_iconst X dX3_isSoundPair_2 ?_
  refine ne_callV X nw_Tg (me_X3_units l hl c q t b k h vt T (by exact ⟨Ic, Iq, It, Ib, Itb, Igb, Ik, Ih, Iv⟩) (by omega) _ _ (by omega) (by omega)) nw_yX3_units nw_mX3_62 nw_iX3_units nw_eX3_units (ci := 5) rfl rfl rfl dX3_isSoundPair_3 rfl rfl (by decide) (by decide) (by first | decide | omega) (by first | decide | omega) (Nat.le_of_ble_eq_true rfl) rfl rfl (Nat.le_of_ble_eq_true rfl) ?_ ?_
  rotate_left
  · rintro E9 w9 h9; exact h9.elim
  rintro v3 w3 ⟨rfl, z3, rfl, g3, k3⟩
  refine ne_lstore_n X dX3_isSoundPair_6 rfl (by decide) ?_
  refine ne_aload_n X dX3_isSoundPair_7 rfl ?_
  refine ne_iload_n X dX3_isSoundPair_8 rfl ?_
  refine ne_iconst X dX3_isSoundPair_9 ?_
  refine ne_callV X nw_Tg (me_X3_units l hl c q t b k h vt T (by exact ⟨Ic, Iq, It, Ib, Itb, Igb, Ik, Ih, Iv⟩) (by omega) _ _ (by omega) (by omega)) nw_yX3_units nw_mX3_62 nw_iX3_units nw_eX3_units (ci := 5) rfl rfl rfl dX3_isSoundPair_10 rfl rfl (by decide) (by decide) (by first | decide | omega) (by first | decide | omega) (Nat.le_of_ble_eq_true rfl) rfl rfl (Nat.le_of_ble_eq_true rfl) ?_ ?_
  rotate_left
  · rintro E9 w9 h9; exact h9.elim
  rintro v10 w10 ⟨rfl, z10, rfl, g10, k10⟩
  refine ne_lstore X dX3_isSoundPair_13 (by decide) ?_
  refine ne_ll (L' := [some (.ref 0), some (ni _), some (ni _), some (nl _), none, some (nl _), none]) rfl ?_
  refine ne_lload_n X dX3_isSoundPair_15 rfl ?_
  refine ne_lload X dX3_isSoundPair_16 rfl ?_
  refine ne_ladd X dX3_isSoundPair_18 ?_
  refine ne_lload X dX3_isSoundPair_19 rfl ?_
  refine ne_lsub X dX3_isSoundPair_21 ?_
  refine ne_lload_n X dX3_isSoundPair_22 rfl ?_
  refine ne_lcif_ne (tgt := 65) X dX3_isSoundPair_23 dX3_isSoundPair_24 rfl (by omega) (by omega) (fun b24 => ?_) (fun b24 => ?_)
  · exfalso; omega
  · refine ne_aload_n X dX3_isSoundPair_27 rfl ?_
    refine ne_iload_n X dX3_isSoundPair_28 rfl ?_
    refine ne_iload_n X dX3_isSoundPair_29 rfl ?_
    refine ne_callV X nw_Tg (me_X3_orderedX l hl c q t b k h vt T (by exact ⟨Ic, Iq, It, Ib, Itb, Igb, Ik, Ih, Iv⟩) (by omega) _ _ (by omega) (by omega)) nw_yX3_ordered nw_mX3_101 nw_iX3_ordered nw_eX3_ordered (ci := 5) rfl rfl rfl dX3_isSoundPair_30 rfl rfl (by decide) (by decide) (by first | decide | omega) (by first | decide | omega) (Nat.le_of_ble_eq_true rfl) rfl rfl (Nat.le_of_ble_eq_true rfl) ?_ ?_
    rotate_left
    · rintro E9 w9 h9; exact h9.elim
    rintro v30 w30 ⟨rfl, z30, rfl, g30, k30, i30, j30⟩
    refine ne_aload_n X dX3_isSoundPair_33 rfl ?_
    refine ne_iload_n X dX3_isSoundPair_34 rfl ?_
    refine ne_iload_n X dX3_isSoundPair_35 rfl ?_
    refine ne_callV X nw_Tg (me_X3_orderedX l hl c q t b k h vt T (by exact ⟨Ic, Iq, It, Ib, Itb, Igb, Ik, Ih, Iv⟩) (by omega) _ _ (by omega) (by omega)) nw_yX3_ordered nw_mX3_101 nw_iX3_ordered nw_eX3_ordered (ci := 5) rfl rfl rfl dX3_isSoundPair_36 rfl rfl (by decide) (by decide) (by first | decide | omega) (by first | decide | omega) (Nat.le_of_ble_eq_true rfl) rfl rfl (Nat.le_of_ble_eq_true rfl) ?_ ?_
    rotate_left
    · rintro E9 w9 h9; exact h9.elim
    rintro v36 w36 ⟨rfl, z36, rfl, g36, k36, i36, j36⟩
    refine ne_ineg X dX3_isSoundPair_39 ?_
    refine ne_icmp_ne (tgt := 65) X dX3_isSoundPair_40 rfl (by omega) (by omega) (fun b40 => ?_) (fun b40 => ?_)
    · exfalso; omega
    · refine ne_aload_n X dX3_isSoundPair_43 rfl ?_
      refine ne_iload_n X dX3_isSoundPair_44 rfl ?_
      refine ne_iload_n X dX3_isSoundPair_45 rfl ?_
      refine ne_callV X nw_Tg (me_X3_areSameY l hl c q t b k h vt T (by exact ⟨Ic, Iq, It, Ib, Itb, Igb, Ik, Ih, Iv⟩) (by omega) _ _ (by omega) (by omega)) nw_yX3_areSame nw_mX3_132 nw_iX3_areSame nw_eX3_areSame (ci := 5) rfl rfl rfl dX3_isSoundPair_46 rfl rfl (by decide) (by decide) (by first | decide | omega) (by first | decide | omega) (Nat.le_of_ble_eq_true rfl) rfl rfl (Nat.le_of_ble_eq_true rfl) ?_ ?_
      rotate_left
      · rintro E9 w9 h9; exact h9.elim
      rintro v46 w46 ⟨rfl, z46, rfl, g46, k46, i46⟩
      refine ne_if_eq (tgt := 61) X dX3_isSoundPair_49 rfl (by omega) (fun b49 => ?_) (fun b49 => ?_)
      · refine ne_iconst X dX3_isSoundPair_61 ?_
        refine ne_goto (tgt := 66) X dX3_isSoundPair_62 rfl ?_
        exact ne_iret X hr (by first | rfl | decide | rfl) dX3_isSoundPair_66 ⟨rfl, _, rfl, rfl⟩
      · refine ne_aload_n X dX3_isSoundPair_52 rfl ?_
        refine ne_iload_n X dX3_isSoundPair_53 rfl ?_
        refine ne_iload_n X dX3_isSoundPair_54 rfl ?_
        refine ne_callV X nw_Tg (me_X3_orderedX l hl c q t b k h vt T (by exact ⟨Ic, Iq, It, Ib, Itb, Igb, Ik, Ih, Iv⟩) (by omega) _ _ (by omega) (by omega)) nw_yX3_ordered nw_mX3_101 nw_iX3_ordered nw_eX3_ordered (ci := 5) rfl rfl rfl dX3_isSoundPair_55 rfl rfl (by decide) (by decide) (by first | decide | omega) (by first | decide | omega) (Nat.le_of_ble_eq_true rfl) rfl rfl (Nat.le_of_ble_eq_true rfl) ?_ ?_
        rotate_left
        · rintro E9 w9 h9; exact h9.elim
        rintro v55 w55 ⟨rfl, z55, rfl, g55, k55, i55, j55⟩
        refine ne_if_ne (tgt := 65) X dX3_isSoundPair_58 rfl (by omega) (fun b58 => ?_) (fun b58 => ?_)
        · exfalso; have h9 := i46.mp (by omega); rw [h9.1, h9.2] at i55 j55; omega
        · refine ne_iconst X dX3_isSoundPair_61 ?_
          refine ne_goto (tgt := 66) X dX3_isSoundPair_62 rfl ?_
          exact ne_iret X hr (by first | rfl | decide | rfl) dX3_isSoundPair_66 ⟨rfl, _, rfl, rfl⟩
set_option maxRecDepth 100000 in
set_option maxHeartbeats 4000000 in
theorem me_X3_cutOfY (l : Launch) (hl : l.stackTraces = false) (c q t b k h : Nat → Int) (vt T : Int) (hI : mI c q t b k h vt T) (hT : 0 ≤ T ∧ T ≤ 1000000) (i m p w0 : Int) (hi : 0 ≤ i ∧ i < 3) (hm : 0 ≤ m ∧ m ≤ 1) (hp : 0 ≤ p ∧ p ≤ 5) (hw : 0 ≤ w0 ∧ w0 ≤ 7) : ne_M l nw_cl (.code yX3_cutOf cX3_cutOf 7 (some .long)) nw_T yX3_cutOf 2 80 0 0 [.ref 0, ni i, ni m, ni p, ni w0] (mW c q t b k h vt) (fun v w => w = mW c q t b k h vt ∧ ∃ z : Int, v = some (nl z) ∧ ((z = -9223372036854775808 ∧ w0 = 7 ∧ ne_rx (ne_cv (t i.toNat) m p) (b i.toNat)) ∨ (ne_rd (ne_cv (t i.toNat) m p) (b i.toNat) w0 z ∧ -9800000 - 1 ≤ z ∧ z ≤ 9800000 + 1))) (fun _ _ => False) := by
  refine ne_meet (own := RX3) hl rfl (by decide +kernel) (Nat.le_of_ble_eq_true rfl) ?_
  intro D ct A P9 V9 R9 S9 M9 as9 bl9 mt9 C9 ad0 X hr hin ht
  obtain ⟨Ic, Iq, It, Ib, Itb, Igb, Ik, Ih, Iv⟩ := hI
  refine ne_aload_n X dX3_cutOf_0 rfl ?_
  refine ne_getf X dX3_cutOf_1 nw_fX3_18 rfl rfl ?_
  refine ne_iload_n X dX3_cutOf_4 rfl ?_
  refine ne_ialdR X dX3_cutOf_5 rfl (by omega) It (fun v5 e5 f5 u5 => ?_)
  refine ne_i2l (by omega) X dX3_cutOf_6 ?_
  refine ne_iload_n X dX3_cutOf_7 rfl ?_
  refine ne_callS X nw_Tg (me_X3_ten l hl _ _ (by omega)) nw_yX3_ten nw_mX3_58 nw_sX3_ten dX3_cutOf_8 rfl rfl (by decide) (by decide) (by first | decide | omega) (by first | decide | omega) (Nat.le_of_ble_eq_true rfl) rfl rfl (Nat.le_of_ble_eq_true rfl) ?_ ?_
  rotate_left
  · rintro E9 w9 h9; exact h9.elim
  rintro v8 w8 ⟨rfl, z8, rfl, g8, k8, i8, j8, m8, o8, p8⟩
  have m8 := ne_mul v5 z8 98 100000 (by omega) (by omega)
  refine ne_lmul X dX3_cutOf_11 ?_
  refine ne_lstore X dX3_cutOf_12 (by decide) ?_
  refine ne_iload_n X dX3_cutOf_14 rfl ?_
  refine ne_if_eq (tgt := 24) X dX3_cutOf_15 rfl (by omega) (fun b15 => ?_) (fun b15 => ?_)
  · refine ne_lload X dX3_cutOf_24 rfl ?_
    refine ne_aload_n X dX3_cutOf_26 rfl ?_
    refine ne_getf X dX3_cutOf_27 nw_fX3_21 rfl rfl ?_
    refine ne_iload_n X dX3_cutOf_30 rfl ?_
    refine ne_ialdR X dX3_cutOf_31 rfl (by omega) Ib (fun v31 e31 f31 u31 => ?_)
    refine ne_i2l (by omega) X dX3_cutOf_32 ?_
    refine ne_iload X dX3_cutOf_33 rfl ?_
    refine ne_callS X nw_Tg (me_X3_roundedX l hl _ 9800000 _ _ _ (by omega) (by omega) (by omega) (by omega)) nw_yX3_rounded nw_mX3_90 nw_sX3_rounded dX3_cutOf_35 rfl rfl (by decide) (by decide) (by first | decide | omega) (by first | decide | omega) (Nat.le_of_ble_eq_true rfl) rfl rfl (Nat.le_of_ble_eq_true rfl) ?_ ?_
    rotate_left
    · rintro E9 w9 h9; exact h9.elim
    rintro v35 w35 ⟨rfl, z35, rfl, g35⟩
    exact ne_lret X hr dX3_cutOf_38 ⟨rfl, _, rfl, (by unfold ne_cv; (first | rw [if_pos b15] | rw [if_neg b15]); rw [← e5, ← g8, ← e31]; exact g35)⟩
  · refine ne_lload X dX3_cutOf_18 rfl ?_
    refine ne_lneg X dX3_cutOf_20 ?_
    refine ne_goto (tgt := 26) X dX3_cutOf_21 rfl ?_
    refine ne_aload_n X dX3_cutOf_26 rfl ?_
    refine ne_getf X dX3_cutOf_27 nw_fX3_21 rfl rfl ?_
    refine ne_iload_n X dX3_cutOf_30 rfl ?_
    refine ne_ialdR X dX3_cutOf_31 rfl (by omega) Ib (fun v31 e31 f31 u31 => ?_)
    refine ne_i2l (by omega) X dX3_cutOf_32 ?_
    refine ne_iload X dX3_cutOf_33 rfl ?_
    refine ne_callS X nw_Tg (me_X3_roundedX l hl _ 9800000 _ _ _ (by omega) (by omega) (by omega) (by omega)) nw_yX3_rounded nw_mX3_90 nw_sX3_rounded dX3_cutOf_35 rfl rfl (by decide) (by decide) (by first | decide | omega) (by first | decide | omega) (Nat.le_of_ble_eq_true rfl) rfl rfl (Nat.le_of_ble_eq_true rfl) ?_ ?_
    rotate_left
    · rintro E9 w9 h9; exact h9.elim
    rintro v35 w35 ⟨rfl, z35, rfl, g35⟩
    exact ne_lret X hr dX3_cutOf_38 ⟨rfl, _, rfl, (by unfold ne_cv; (first | rw [if_pos b15] | rw [if_neg b15]); rw [← e5, ← g8, ← e31]; exact g35)⟩
set_option maxRecDepth 100000 in
set_option maxHeartbeats 4000000 in
theorem me_X3_isSoundWheelZ (l : Launch) (hl : l.stackTraces = false) (c q t b k h : Nat → Int) (vt T : Int) (hI : mI c q t b k h vt T) (hT : 0 ≤ T ∧ T ≤ 1000000) (i : Int) (hi : 0 ≤ i ∧ i < 3) : ne_M l nw_cl (.code yX3_isSoundWheel cX3_isSoundWheel 5 (some .boolean)) nw_T yX3_isSoundWheel 3 140 3 292 [.ref 0, ni i] (mW c q t b k h vt) (fun v w => w = mW c q t b k h vt ∧ ∃ z : Int, v = some (ni z) ∧ z = 1) (fun _ _ => False) := by
  refine ne_meet (own := RX3) hl rfl (by decide +kernel) (Nat.le_of_ble_eq_true rfl) ?_
  intro D ct A P9 V9 R9 S9 M9 as9 bl9 mt9 C9 ad0 X hr hin ht
  obtain ⟨Ic, Iq, It, Ib, Itb, Igb, Ik, Ih, Iv⟩ := hI
  have htb9 := Itb i.toNat
  have hb9 := Ib i.toNat
  have ht9 := It i.toNat
  have hgb9 := Igb i.toNat
  have lp8 : ∀ (n9 : Nat) (z2 j : Int), (97 - j).toNat < n9 → (ne_per (t i.toNat) (b i.toNat) z2) → (1 ≤ z2 ∧ z2 ≤ 96) → (1 ≤ j) → (j ≤ z2 + 1) → ne_G nw_cl D ct A 7 ad0 P9 l V9 R9 S9 M9 as9 bl9 mt9 C9 (ne_O nw_cl D ct ad0 7 A bl9 as9 S9 3 292 (fun v w => w = mW c q t b k h vt ∧ ∃ z : Int, v = some (ni z) ∧ z = 1) (fun _ _ => False)) 5 3 292 3 292 8 [some (.ref 0), some (ni i), some (ni z2), some (ni j), none] [] (mW c q t b k h vt) := by
    intro n9
    induction n9 with
    | zero => intro z2 j hm9 P2 k2 q1 q2; exfalso; omega
    | succ n9 ih =>
      intro z2 j hm9 P2 k2 q1 q2
      refine ne_iload_n X dX3_isSoundWheel_8 rfl ?_
      refine ne_iload_n X dX3_isSoundWheel_9 rfl ?_
      refine ne_icmp_gt (tgt := 73) X dX3_isSoundWheel_10 rfl (by omega) (by omega) (fun b10 => ?_) (fun b10 => ?_)
      · refine ne_aload_n X dX3_isSoundWheel_73 rfl ?_
        refine ne_iload_n X dX3_isSoundWheel_74 rfl ?_
        refine ne_callV X nw_Tg (me_X3_timesBottomZ l hl c q t b k h vt T (by exact ⟨Ic, Iq, It, Ib, Itb, Igb, Ik, Ih, Iv⟩) (by omega) _ (by omega)) nw_yX3_timesBottom nw_mX3_166 nw_iX3_timesBottom nw_eX3_timesBottom (ci := 5) rfl rfl rfl dX3_isSoundWheel_75 rfl rfl (by decide) (by decide) (by first | decide | omega) (by first | decide | omega) (Nat.le_of_ble_eq_true rfl) rfl rfl (Nat.le_of_ble_eq_true rfl) ?_ ?_
        rotate_left
        · rintro E9 w9 h9; exact h9.elim
        rintro v75 w75 ⟨n75, r75, rfl, ⟨L75, P75, N75, k75, i75, Q75⟩, R75, rfl⟩
        refine ne_aload_n X dX3_isSoundWheel_78 rfl ?_
        refine ne_iload_n X dX3_isSoundWheel_79 rfl ?_
        refine ne_callVF (is := [0, 1, 2, 3, 4, 5, 6]) X nw_Tg (me_X3_allNinesZ l hl c q t b k h vt T (by exact ⟨Ic, Iq, It, Ib, Itb, Igb, Ik, Ih, Iv⟩) (by omega) _ (by omega)) nw_yX3_allNines nw_mX3_191 nw_iX3_allNines nw_eX3_allNines (ci := 5) rfl rfl rfl dX3_isSoundWheel_80 rfl rfl (by decide) (by decide) (by first | decide | omega) (by first | decide | omega) (Nat.le_of_ble_eq_true rfl) rfl rfl rfl (Nat.le_of_ble_eq_true rfl) (ne_ptb rfl (by decide +kernel) rfl) ?_ ?_
        rotate_left
        · rintro E9 w9 h9; exact h9.elim
        rintro v80 w80 ⟨n80, r80, rfl, ⟨L80, P80, N80, k80, i80, Q80⟩, R80, rfl⟩
        refine ne_ws (ws' := mW c q t b k h vt ++ [some (.inl (0, n75, r75)), some (.inl (0, n80, r80))]) rfl ?_
        have L80 := ne_perU P75 P80
        refine ne_callSF (is := [7, 8]) X nw_Tg (me_X3_areLikeZ l hl n75 n80 r75 r80 (by omega) (ne_rg_mono R75 (by omega) (by omega)) (ne_rg_mono R80 (by omega) (by omega))) nw_yX3_areLike nw_mX3_178 nw_sX3_areLike dX3_isSoundWheel_83 rfl rfl (by decide) (by decide) (by first | decide | omega) (by first | decide | omega) (Nat.le_of_ble_eq_true rfl) rfl rfl rfl (Nat.le_of_ble_eq_true rfl) (ne_ptb rfl (by decide +kernel) rfl) ?_ ?_
        rotate_left
        · rintro E9 w9 h9; exact h9.elim
        rintro v83 w83 ⟨rfl, z83, rfl, g83, k83, i83⟩
        refine ne_ws (ws' := mW c q t b k h vt ++ [some (.inl (0, n75, r75)), some (.inl (0, n80, r80))]) rfl ?_
        have k83 : z83 = 1 := i83.mpr (fun m hm => by
                                            rw [Q75 m hm, Q80 m (by omega), L80, show n80 - 1 - m = n75 - 1 - m by omega]; exact n9_prod P80 _)
        refine ne_take 7 ?_
        refine ne_ws (ws' := mW c q t b k h vt) rfl ?_
        refine ne_if_ne (tgt := 91) X dX3_isSoundWheel_86 rfl (by omega) (fun b86 => ?_) (fun b86 => ?_)
        · refine ne_aload_n X dX3_isSoundWheel_91 rfl ?_
          refine ne_iload_n X dX3_isSoundWheel_92 rfl ?_
          refine ne_iconst X dX3_isSoundWheel_93 ?_
          refine ne_iconst X dX3_isSoundWheel_94 ?_
          refine ne_bipush (v := 6) (by decide) X dX3_isSoundWheel_95 ?_
          refine ne_callV X nw_Tg (me_X3_cutOfY l hl c q t b k h vt T (by exact ⟨Ic, Iq, It, Ib, Itb, Igb, Ik, Ih, Iv⟩) (by omega) _ _ _ _ (by omega) (by omega) (by omega) (by omega)) nw_yX3_cutOf nw_mX3_107 nw_iX3_cutOf nw_eX3_cutOf (ci := 5) rfl rfl rfl dX3_isSoundWheel_97 rfl rfl (by decide) (by decide) (by first | decide | omega) (by first | decide | omega) (Nat.le_of_ble_eq_true rfl) rfl rfl (Nat.le_of_ble_eq_true rfl) ?_ ?_
          rotate_left
          · rintro E9 w9 h9; exact h9.elim
          rintro v97 w97 ⟨rfl, z97, rfl, g97⟩
          obtain ⟨R97, b97, c97⟩ := n9_or7 (by decide) g97
          refine ne_lstore_n X dX3_isSoundWheel_100 rfl (by decide) ?_
          refine ne_aload_n X dX3_isSoundWheel_101 rfl ?_
          refine ne_iload_n X dX3_isSoundWheel_102 rfl ?_
          refine ne_iconst X dX3_isSoundWheel_103 ?_
          refine ne_iconst X dX3_isSoundWheel_104 ?_
          refine ne_iconst X dX3_isSoundWheel_105 ?_
          refine ne_callV X nw_Tg (me_X3_cutOfY l hl c q t b k h vt T (by exact ⟨Ic, Iq, It, Ib, Itb, Igb, Ik, Ih, Iv⟩) (by omega) _ _ _ _ (by omega) (by omega) (by omega) (by omega)) nw_yX3_cutOf nw_mX3_107 nw_iX3_cutOf nw_eX3_cutOf (ci := 5) rfl rfl rfl dX3_isSoundWheel_106 rfl rfl (by decide) (by decide) (by first | decide | omega) (by first | decide | omega) (Nat.le_of_ble_eq_true rfl) rfl rfl (Nat.le_of_ble_eq_true rfl) ?_ ?_
          rotate_left
          · rintro E9 w9 h9; exact h9.elim
          rintro v106 w106 ⟨rfl, z106, rfl, g106⟩
          obtain ⟨R106, b106, c106⟩ := n9_or7 (by decide) g106
          refine ne_aload_n X dX3_isSoundWheel_109 rfl ?_
          refine ne_iload_n X dX3_isSoundWheel_110 rfl ?_
          refine ne_iconst X dX3_isSoundWheel_111 ?_
          refine ne_iconst X dX3_isSoundWheel_112 ?_
          refine ne_iconst X dX3_isSoundWheel_113 ?_
          refine ne_callV X nw_Tg (me_X3_cutOfY l hl c q t b k h vt T (by exact ⟨Ic, Iq, It, Ib, Itb, Igb, Ik, Ih, Iv⟩) (by omega) _ _ _ _ (by omega) (by omega) (by omega) (by omega)) nw_yX3_cutOf nw_mX3_107 nw_iX3_cutOf nw_eX3_cutOf (ci := 5) rfl rfl rfl dX3_isSoundWheel_114 rfl rfl (by decide) (by decide) (by first | decide | omega) (by first | decide | omega) (Nat.le_of_ble_eq_true rfl) rfl rfl (Nat.le_of_ble_eq_true rfl) ?_ ?_
          rotate_left
          · rintro E9 w9 h9; exact h9.elim
          rintro v114 w114 ⟨rfl, z114, rfl, g114⟩
          obtain ⟨R114, b114, c114⟩ := n9_or7 (by decide) g114
          have hC := n9_cut ht9.1 htb9 hb9.2 hgb9.1 hgb9.2 R106 R114
          refine ne_lsub X dX3_isSoundWheel_117 ?_
          refine ne_aload_n X dX3_isSoundWheel_118 rfl ?_
          refine ne_getf X dX3_isSoundWheel_119 nw_fX3_18 rfl rfl ?_
          refine ne_iload_n X dX3_isSoundWheel_122 rfl ?_
          refine ne_ialdR X dX3_isSoundWheel_123 rfl (by omega) It (fun v123 e123 f123 u123 => ?_)
          refine ne_if_ne (tgt := 131) X dX3_isSoundWheel_124 rfl (by omega) (fun b124 => ?_) (fun b124 => ?_)
          · refine ne_iconst X dX3_isSoundWheel_131 ?_
            refine ne_i2l (by omega) X dX3_isSoundWheel_132 ?_
            refine ne_lcif_ne (tgt := 167) X dX3_isSoundWheel_133 dX3_isSoundWheel_134 rfl (by omega) (by omega) (fun b134 => ?_) (fun b134 => ?_)
            · exfalso; omega
            · refine ne_aload_n X dX3_isSoundWheel_137 rfl ?_
              refine ne_iload_n X dX3_isSoundWheel_138 rfl ?_
              refine ne_iconst X dX3_isSoundWheel_139 ?_
              refine ne_iconst X dX3_isSoundWheel_140 ?_
              refine ne_iconst X dX3_isSoundWheel_141 ?_
              refine ne_callV X nw_Tg (me_X3_cutOfY l hl c q t b k h vt T (by exact ⟨Ic, Iq, It, Ib, Itb, Igb, Ik, Ih, Iv⟩) (by omega) _ _ _ _ (by omega) (by omega) (by omega) (by omega)) nw_yX3_cutOf nw_mX3_107 nw_iX3_cutOf nw_eX3_cutOf (ci := 5) rfl rfl rfl dX3_isSoundWheel_142 rfl rfl (by decide) (by decide) (by first | decide | omega) (by first | decide | omega) (Nat.le_of_ble_eq_true rfl) rfl rfl (Nat.le_of_ble_eq_true rfl) ?_ ?_
              rotate_left
              · rintro E9 w9 h9; exact h9.elim
              rintro v142 w142 ⟨rfl, z142, rfl, g142⟩
              obtain ⟨R142, b142, c142⟩ := n9_or7 (by decide) g142
              have h142 := n9_cutE hb9.1 hgb9.1 (by omega) (by omega) R142 R97
              refine ne_lload_n X dX3_isSoundWheel_145 rfl ?_
              refine ne_lcif_ne (tgt := 167) X dX3_isSoundWheel_146 dX3_isSoundWheel_147 rfl (by omega) (by omega) (fun b147 => ?_) (fun b147 => ?_)
              · exfalso; omega
              · refine ne_aload_n X dX3_isSoundWheel_150 rfl ?_
                refine ne_iload_n X dX3_isSoundWheel_151 rfl ?_
                refine ne_iconst X dX3_isSoundWheel_152 ?_
                refine ne_iconst X dX3_isSoundWheel_153 ?_
                refine ne_iconst X dX3_isSoundWheel_154 ?_
                refine ne_callV X nw_Tg (me_X3_cutOfY l hl c q t b k h vt T (by exact ⟨Ic, Iq, It, Ib, Itb, Igb, Ik, Ih, Iv⟩) (by omega) _ _ _ _ (by omega) (by omega) (by omega) (by omega)) nw_yX3_cutOf nw_mX3_107 nw_iX3_cutOf nw_eX3_cutOf (ci := 5) rfl rfl rfl dX3_isSoundWheel_155 rfl rfl (by decide) (by decide) (by first | decide | omega) (by first | decide | omega) (Nat.le_of_ble_eq_true rfl) rfl rfl (Nat.le_of_ble_eq_true rfl) ?_ ?_
                rotate_left
                · rintro E9 w9 h9; exact h9.elim
                rintro v155 w155 ⟨rfl, z155, rfl, g155⟩
                obtain ⟨R155, b155, c155⟩ := n9_or7 (by decide) g155
                have h155 := n9_cutE hb9.1 hgb9.1 (by omega) (by omega) R155 R97
                refine ne_lload_n X dX3_isSoundWheel_158 rfl ?_
                refine ne_lcif_ne (tgt := 167) X dX3_isSoundWheel_159 dX3_isSoundWheel_160 rfl (by omega) (by omega) (fun b160 => ?_) (fun b160 => ?_)
                · exfalso; omega
                · refine ne_iconst X dX3_isSoundWheel_163 ?_
                  refine ne_goto (tgt := 168) X dX3_isSoundWheel_164 rfl ?_
                  exact ne_iret X hr (by first | rfl | decide | rfl) dX3_isSoundWheel_168 ⟨rfl, _, rfl, rfl⟩
          · refine ne_iconst X dX3_isSoundWheel_127 ?_
            refine ne_goto (tgt := 132) X dX3_isSoundWheel_128 rfl ?_
            refine ne_i2l (by omega) X dX3_isSoundWheel_132 ?_
            refine ne_lcif_ne (tgt := 167) X dX3_isSoundWheel_133 dX3_isSoundWheel_134 rfl (by omega) (by omega) (fun b134 => ?_) (fun b134 => ?_)
            · exfalso; omega
            · refine ne_aload_n X dX3_isSoundWheel_137 rfl ?_
              refine ne_iload_n X dX3_isSoundWheel_138 rfl ?_
              refine ne_iconst X dX3_isSoundWheel_139 ?_
              refine ne_iconst X dX3_isSoundWheel_140 ?_
              refine ne_iconst X dX3_isSoundWheel_141 ?_
              refine ne_callV X nw_Tg (me_X3_cutOfY l hl c q t b k h vt T (by exact ⟨Ic, Iq, It, Ib, Itb, Igb, Ik, Ih, Iv⟩) (by omega) _ _ _ _ (by omega) (by omega) (by omega) (by omega)) nw_yX3_cutOf nw_mX3_107 nw_iX3_cutOf nw_eX3_cutOf (ci := 5) rfl rfl rfl dX3_isSoundWheel_142 rfl rfl (by decide) (by decide) (by first | decide | omega) (by first | decide | omega) (Nat.le_of_ble_eq_true rfl) rfl rfl (Nat.le_of_ble_eq_true rfl) ?_ ?_
              rotate_left
              · rintro E9 w9 h9; exact h9.elim
              rintro v142 w142 ⟨rfl, z142, rfl, g142⟩
              obtain ⟨R142, b142, c142⟩ := n9_or7 (by decide) g142
              have h142 := n9_cutE hb9.1 hgb9.1 (by omega) (by omega) R142 R97
              refine ne_lload_n X dX3_isSoundWheel_145 rfl ?_
              refine ne_lcif_ne (tgt := 167) X dX3_isSoundWheel_146 dX3_isSoundWheel_147 rfl (by omega) (by omega) (fun b147 => ?_) (fun b147 => ?_)
              · exfalso; omega
              · refine ne_aload_n X dX3_isSoundWheel_150 rfl ?_
                refine ne_iload_n X dX3_isSoundWheel_151 rfl ?_
                refine ne_iconst X dX3_isSoundWheel_152 ?_
                refine ne_iconst X dX3_isSoundWheel_153 ?_
                refine ne_iconst X dX3_isSoundWheel_154 ?_
                refine ne_callV X nw_Tg (me_X3_cutOfY l hl c q t b k h vt T (by exact ⟨Ic, Iq, It, Ib, Itb, Igb, Ik, Ih, Iv⟩) (by omega) _ _ _ _ (by omega) (by omega) (by omega) (by omega)) nw_yX3_cutOf nw_mX3_107 nw_iX3_cutOf nw_eX3_cutOf (ci := 5) rfl rfl rfl dX3_isSoundWheel_155 rfl rfl (by decide) (by decide) (by first | decide | omega) (by first | decide | omega) (Nat.le_of_ble_eq_true rfl) rfl rfl (Nat.le_of_ble_eq_true rfl) ?_ ?_
                rotate_left
                · rintro E9 w9 h9; exact h9.elim
                rintro v155 w155 ⟨rfl, z155, rfl, g155⟩
                obtain ⟨R155, b155, c155⟩ := n9_or7 (by decide) g155
                have h155 := n9_cutE hb9.1 hgb9.1 (by omega) (by omega) R155 R97
                refine ne_lload_n X dX3_isSoundWheel_158 rfl ?_
                refine ne_lcif_ne (tgt := 167) X dX3_isSoundWheel_159 dX3_isSoundWheel_160 rfl (by omega) (by omega) (fun b160 => ?_) (fun b160 => ?_)
                · exfalso; omega
                · refine ne_iconst X dX3_isSoundWheel_163 ?_
                  refine ne_goto (tgt := 168) X dX3_isSoundWheel_164 rfl ?_
                  exact ne_iret X hr (by first | rfl | decide | rfl) dX3_isSoundWheel_168 ⟨rfl, _, rfl, rfl⟩
        · exfalso; omega
      · refine ne_iload_n X dX3_isSoundWheel_13 rfl ?_
        refine ne_iload_n X dX3_isSoundWheel_14 rfl ?_
        have t15 := (ne_tdm z2 j (by omega)).1 (by omega)
        refine ne_irem X dX3_isSoundWheel_15 (by omega) (by omega) (by omega) ?_
        refine ne_if_eq (tgt := 22) X dX3_isSoundWheel_16 rfl (by omega) (fun b16 => ?_) (fun b16 => ?_)
        · refine ne_aload_n X dX3_isSoundWheel_22 rfl ?_
          refine ne_getf X dX3_isSoundWheel_23 nw_fX3_18 rfl rfl ?_
          refine ne_iload_n X dX3_isSoundWheel_26 rfl ?_
          refine ne_ialdR X dX3_isSoundWheel_27 rfl (by omega) It (fun v27 e27 f27 u27 => ?_)
          refine ne_aload_n X dX3_isSoundWheel_28 rfl ?_
          refine ne_getf X dX3_isSoundWheel_29 nw_fX3_21 rfl rfl ?_
          refine ne_iload_n X dX3_isSoundWheel_32 rfl ?_
          refine ne_ialdR X dX3_isSoundWheel_33 rfl (by omega) Ib (fun v33 e33 f33 u33 => ?_)
          refine ne_iload_n X dX3_isSoundWheel_34 rfl ?_
          refine ne_callS X nw_Tg (me_X3_restOf l hl _ _ _ _ (by omega) (by omega) (by omega) (by omega)) nw_yX3_restOf nw_mX3_149 nw_sX3_restOf dX3_isSoundWheel_35 rfl rfl (by decide) (by decide) (by first | decide | omega) (by first | decide | omega) (Nat.le_of_ble_eq_true rfl) rfl rfl (Nat.le_of_ble_eq_true rfl) ?_ ?_
          rotate_left
          · rintro E9 w9 h9; exact h9.elim
          rintro v35 w35 ⟨rfl, z35, rfl, g35, k35, i35⟩
          refine ne_aload_n X dX3_isSoundWheel_38 rfl ?_
          refine ne_getf X dX3_isSoundWheel_39 nw_fX3_18 rfl rfl ?_
          refine ne_iload_n X dX3_isSoundWheel_42 rfl ?_
          refine ne_ialdR X dX3_isSoundWheel_43 rfl (by omega) It (fun v43 e43 f43 u43 => ?_)
          have F44 : z35 = v43 ↔ j = z2 := by
                                            rw [g35, e27, e33, e43]
                                            refine ⟨fun h => ?_, fun h => by rw [h]; exact P2.2.2.2⟩
                                            rcases (show j < z2 ∨ j = z2 by omega) with h3 | h3
                                            · exact absurd h (P2.2.2.1 j.toNat (by omega) (by omega))
                                            · exact h3
          refine ne_icmp_ne (tgt := 51) X dX3_isSoundWheel_44 rfl (by omega) (by omega) (fun b44 => ?_) (fun b44 => ?_)
          · refine ne_iconst X dX3_isSoundWheel_51 ?_
            refine ne_iload_n X dX3_isSoundWheel_52 rfl ?_
            refine ne_iload_n X dX3_isSoundWheel_53 rfl ?_
            refine ne_icmp_ne (tgt := 61) X dX3_isSoundWheel_54 rfl (by omega) (by omega) (fun b54 => ?_) (fun b54 => ?_)
            · refine ne_iconst X dX3_isSoundWheel_61 ?_
              refine ne_icmp_eq (tgt := 67) X dX3_isSoundWheel_62 rfl (by omega) (by omega) (fun b62 => ?_) (fun b62 => ?_)
              · refine ne_iinc X dX3_isSoundWheel_67 rfl (by decide) ?_
                refine ne_goto (tgt := 8) X dX3_isSoundWheel_70 rfl ?_
                exact ih _ (j + 1) (by omega) P2 k2 (by omega) (by omega)
              · exfalso; omega
            · refine ne_iconst X dX3_isSoundWheel_57 ?_
              refine ne_goto (tgt := 62) X dX3_isSoundWheel_58 rfl ?_
              refine ne_icmp_eq (tgt := 67) X dX3_isSoundWheel_62 rfl (by omega) (by omega) (fun b62 => ?_) (fun b62 => ?_)
              · refine ne_iinc X dX3_isSoundWheel_67 rfl (by decide) ?_
                refine ne_goto (tgt := 8) X dX3_isSoundWheel_70 rfl ?_
                exact ih _ (j + 1) (by omega) P2 k2 (by omega) (by omega)
              · exfalso; omega
          · refine ne_iconst X dX3_isSoundWheel_47 ?_
            refine ne_goto (tgt := 52) X dX3_isSoundWheel_48 rfl ?_
            refine ne_iload_n X dX3_isSoundWheel_52 rfl ?_
            refine ne_iload_n X dX3_isSoundWheel_53 rfl ?_
            refine ne_icmp_ne (tgt := 61) X dX3_isSoundWheel_54 rfl (by omega) (by omega) (fun b54 => ?_) (fun b54 => ?_)
            · refine ne_iconst X dX3_isSoundWheel_61 ?_
              refine ne_icmp_eq (tgt := 67) X dX3_isSoundWheel_62 rfl (by omega) (by omega) (fun b62 => ?_) (fun b62 => ?_)
              · refine ne_iinc X dX3_isSoundWheel_67 rfl (by decide) ?_
                refine ne_goto (tgt := 8) X dX3_isSoundWheel_70 rfl ?_
                exact ih _ (j + 1) (by omega) P2 k2 (by omega) (by omega)
              · exfalso; omega
            · refine ne_iconst X dX3_isSoundWheel_57 ?_
              refine ne_goto (tgt := 62) X dX3_isSoundWheel_58 rfl ?_
              refine ne_icmp_eq (tgt := 67) X dX3_isSoundWheel_62 rfl (by omega) (by omega) (fun b62 => ?_) (fun b62 => ?_)
              · refine ne_iinc X dX3_isSoundWheel_67 rfl (by decide) ?_
                refine ne_goto (tgt := 8) X dX3_isSoundWheel_70 rfl ?_
                exact ih _ (j + 1) (by omega) P2 k2 (by omega) (by omega)
              · exfalso; omega
        · refine ne_goto (tgt := 67) X dX3_isSoundWheel_19 rfl ?_
          refine ne_iinc X dX3_isSoundWheel_67 rfl (by decide) ?_
          refine ne_goto (tgt := 8) X dX3_isSoundWheel_70 rfl ?_
          exact ih _ (j + 1) (by omega) P2 k2 (by omega) (by omega)
  refine ne_aload_n X dX3_isSoundWheel_0 rfl ?_
  refine ne_iload_n X dX3_isSoundWheel_1 rfl ?_
  refine ne_callV X nw_Tg (me_X3_lengthOf_ l hl c q t b k h vt T (by exact ⟨Ic, Iq, It, Ib, Itb, Igb, Ik, Ih, Iv⟩) (by omega) _ (by omega)) nw_yX3_lengthOf_ nw_mX3_146 nw_iX3_lengthOf_ nw_eX3_lengthOf_ (ci := 5) rfl rfl rfl dX3_isSoundWheel_2 rfl rfl (by decide) (by decide) (by first | decide | omega) (by first | decide | omega) (Nat.le_of_ble_eq_true rfl) rfl rfl (Nat.le_of_ble_eq_true rfl) ?_ ?_
  rotate_left
  · rintro E9 w9 h9; exact h9.elim
  rintro v2 w2 ⟨rfl, z2, rfl, P2, g2, k2⟩
  refine ne_istore_n X dX3_isSoundWheel_5 rfl (by decide) ?_
  refine ne_iconst X dX3_isSoundWheel_6 ?_
  refine ne_istore_n X dX3_isSoundWheel_7 rfl (by decide) ?_
  refine ne_ll (L' := [some (.ref 0), some (ni _), some (ni _), some (ni _), none]) rfl ?_
  exact lp8 _ _ 1 (Nat.lt_succ_self _) P2 (by omega) (by omega) (by omega)
set_option maxRecDepth 100000 in
set_option maxHeartbeats 4000000 in
theorem me_X3_isWholeZ (l : Launch) (hl : l.stackTraces = false) (c q t b k h : Nat → Int) (vt T : Int) (hI : mI c q t b k h vt T) (hT : 0 ≤ T ∧ T ≤ 1000000)  : ne_M l nw_cl (.code yX3_isWhole cX3_isWhole 3 (some .boolean)) nw_T yX3_isWhole 4 190 9 876 [.ref 0] (mW c q t b k h vt) (fun v w => w = mW c q t b k h vt ∧ ∃ z : Int, v = some (ni z) ∧ z = 1) (fun _ _ => False) := by
  refine ne_meet (own := RX3) hl rfl (by decide +kernel) (Nat.le_of_ble_eq_true rfl) ?_
  intro D ct A P9 V9 R9 S9 M9 as9 bl9 mt9 C9 ad0 X hr hin ht
  obtain ⟨Ic, Iq, It, Ib, Itb, Igb, Ik, Ih, Iv⟩ := hI
  have lp72 : ∀ (n9 : Nat) (j : Int), (3 - j).toNat < n9 → (0 ≤ j) → (j ≤ 3) → ne_G nw_cl D ct A 7 ad0 P9 l V9 R9 S9 M9 as9 bl9 mt9 C9 (ne_O nw_cl D ct ad0 7 A bl9 as9 S9 9 876 (fun v w => w = mW c q t b k h vt ∧ ∃ z : Int, v = some (ni z) ∧ z = 1) (fun _ _ => False)) 3 9 876 (3 * (3 - j)).toNat (292 * (3 - j)).toNat 72 [some (.ref 0), some (ni j), none] [] (mW c q t b k h vt) := by
    intro n9
    induction n9 with
    | zero => intro j hm9 q1 q2; exfalso; omega
    | succ n9 ih =>
      intro j hm9 q1 q2
      refine ne_iload_n X dX3_isWhole_72 rfl ?_
      refine ne_iconst X dX3_isWhole_73 ?_
      refine ne_icmp_ge (tgt := 93) X dX3_isWhole_74 rfl (by omega) (by omega) (fun b74 => ?_) (fun b74 => ?_)
      · refine ne_iconst X dX3_isWhole_93 ?_
        exact ne_iret X hr (by first | rfl | decide | rfl) dX3_isWhole_94 ⟨rfl, _, rfl, rfl⟩
      · refine ne_aload_n X dX3_isWhole_77 rfl ?_
        refine ne_iload_n X dX3_isWhole_78 rfl ?_
        refine ne_callV X nw_Tg (me_X3_isSoundWheelZ l hl c q t b k h vt T (by exact ⟨Ic, Iq, It, Ib, Itb, Igb, Ik, Ih, Iv⟩) (by omega) _ (by omega)) nw_yX3_isSoundWheel nw_mX3_197 nw_iX3_isSoundWheel nw_eX3_isSoundWheel (ci := 5) rfl rfl rfl dX3_isWhole_79 rfl rfl (by decide) (by decide) (by first | decide | omega) (by first | decide | omega) (Nat.le_of_ble_eq_true rfl) rfl rfl (Nat.le_of_ble_eq_true rfl) ?_ ?_
        rotate_left
        · rintro E9 w9 h9; exact h9.elim
        rintro v79 w79 ⟨rfl, z79, rfl, g79⟩
        refine ne_if_ne (tgt := 87) X dX3_isWhole_82 rfl (by omega) (fun b82 => ?_) (fun b82 => ?_)
        · refine ne_iinc X dX3_isWhole_87 rfl (by decide) ?_
          refine ne_goto (tgt := 72) X dX3_isWhole_90 rfl ?_
          refine ne_less (C' := (3 * (3 - (j + 1))).toNat) (S' := (292 * (3 - (j + 1))).toNat) (by omega) (by omega) ?_
          exact ih (j + 1) (by omega) (by omega) (by omega)
        · exfalso; omega
  have lp2 : ∀ (n9 : Nat) (j : Int), (4 - j).toNat < n9 → (0 ≤ j) → (j ≤ 4) → ne_G nw_cl D ct A 7 ad0 P9 l V9 R9 S9 M9 as9 bl9 mt9 C9 (ne_O nw_cl D ct ad0 7 A bl9 as9 S9 9 876 (fun v w => w = mW c q t b k h vt ∧ ∃ z : Int, v = some (ni z) ∧ z = 1) (fun _ _ => False)) 3 9 876 9 876 2 [some (.ref 0), some (ni j), none] [] (mW c q t b k h vt) := by
    intro n9
    induction n9 with
    | zero => intro j hm9 q1 q2; exfalso; omega
    | succ n9 ih =>
      intro j hm9 q1 q2
      have ih2 := ih
      have lp42 : ∀ (n9 : Nat) (a : Int), (4 - a).toNat < n9 → (0 ≤ a) → (a ≤ 4) → (j < 4) → ne_G nw_cl D ct A 7 ad0 P9 l V9 R9 S9 M9 as9 bl9 mt9 C9 (ne_O nw_cl D ct ad0 7 A bl9 as9 S9 9 876 (fun v w => w = mW c q t b k h vt ∧ ∃ z : Int, v = some (ni z) ∧ z = 1) (fun _ _ => False)) 3 9 876 9 876 42 [some (.ref 0), some (ni j), some (ni a)] [] (mW c q t b k h vt) := by
        intro n9
        induction n9 with
        | zero => intro a hm9 u1 u2 u3; exfalso; omega
        | succ n9 ih =>
          intro a hm9 u1 u2 u3
          refine ne_iload_n X dX3_isWhole_42 rfl ?_
          refine ne_iconst X dX3_isWhole_43 ?_
          refine ne_icmp_ge (tgt := 64) X dX3_isWhole_44 rfl (by omega) (by omega) (fun b44 => ?_) (fun b44 => ?_)
          · refine ne_iinc X dX3_isWhole_64 rfl (by decide) ?_
            refine ne_goto (tgt := 2) X dX3_isWhole_67 rfl ?_
            refine ne_lnone 2 ?_
            exact ih2 (j + 1) (by omega) (by omega) (by omega)
          · refine ne_aload_n X dX3_isWhole_47 rfl ?_
            refine ne_iload_n X dX3_isWhole_48 rfl ?_
            refine ne_iload_n X dX3_isWhole_49 rfl ?_
            refine ne_callV X nw_Tg (me_X3_isSoundPairZ l hl c q t b k h vt T (by exact ⟨Ic, Iq, It, Ib, Itb, Igb, Ik, Ih, Iv⟩) (by omega) _ _ (by omega) (by omega)) nw_yX3_isSoundPair nw_mX3_194 nw_iX3_isSoundPair nw_eX3_isSoundPair (ci := 5) rfl rfl rfl dX3_isWhole_50 rfl rfl (by decide) (by decide) (by first | decide | omega) (by first | decide | omega) (Nat.le_of_ble_eq_true rfl) rfl rfl (Nat.le_of_ble_eq_true rfl) ?_ ?_
            rotate_left
            · rintro E9 w9 h9; exact h9.elim
            rintro v50 w50 ⟨rfl, z50, rfl, g50⟩
            refine ne_if_ne (tgt := 58) X dX3_isWhole_53 rfl (by omega) (fun b53 => ?_) (fun b53 => ?_)
            · refine ne_iinc X dX3_isWhole_58 rfl (by decide) ?_
              refine ne_goto (tgt := 42) X dX3_isWhole_61 rfl ?_
              exact ih (a + 1) (by omega) (by omega) (by omega) (by omega)
            · exfalso; omega
      refine ne_iload_n X dX3_isWhole_2 rfl ?_
      refine ne_iconst X dX3_isWhole_3 ?_
      refine ne_icmp_ge (tgt := 70) X dX3_isWhole_4 rfl (by omega) (by omega) (fun b4 => ?_) (fun b4 => ?_)
      · refine ne_iconst X dX3_isWhole_70 ?_
        refine ne_istore_n X dX3_isWhole_71 rfl (by decide) ?_
        refine ne_lnone 2 ?_
        refine ne_less (C' := (3 * (3 - (0 : Int))).toNat) (S' := (292 * (3 - (0 : Int))).toNat) (by omega) (by omega) ?_
        exact lp72 _ 0 (Nat.lt_succ_self _) (by omega) (by omega)
      · refine ne_aload_n X dX3_isWhole_7 rfl ?_
        refine ne_getf X dX3_isWhole_8 nw_fX3_9 rfl rfl ?_
        refine ne_iload_n X dX3_isWhole_11 rfl ?_
        refine ne_ialdR X dX3_isWhole_12 rfl (by omega) Ic (fun v12 e12 f12 u12 => ?_)
        refine ne_i2l (by omega) X dX3_isWhole_13 ?_
        refine ne_callS X nw_Tg (me_X3_sizeOf l hl _ _ (by omega)) nw_yX3_sizeOf nw_mX3_40 nw_sX3_sizeOf dX3_isWhole_14 rfl rfl (by decide) (by decide) (by first | decide | omega) (by first | decide | omega) (Nat.le_of_ble_eq_true rfl) rfl rfl (Nat.le_of_ble_eq_true rfl) ?_ ?_
        rotate_left
        · rintro E9 w9 h9; exact h9.elim
        rintro v14 w14 ⟨rfl, z14, rfl, g14⟩
        refine ne_ldc2 (z := 999999) (by decide) nw_cX3_52 X dX3_isWhole_17 ?_
        refine ne_lcif_gt (tgt := 38) X dX3_isWhole_20 dX3_isWhole_21 rfl (by omega) (by omega) (fun b21 => ?_) (fun b21 => ?_)
        · exfalso; omega
        · refine ne_aload_n X dX3_isWhole_24 rfl ?_
          refine ne_getf X dX3_isWhole_25 nw_fX3_15 rfl rfl ?_
          refine ne_iload_n X dX3_isWhole_28 rfl ?_
          refine ne_ialdR X dX3_isWhole_29 rfl (by omega) Iq (fun v29 e29 f29 u29 => ?_)
          refine ne_iconst X dX3_isWhole_30 ?_
          refine ne_iconst X dX3_isWhole_31 ?_
          refine ne_callS X nw_Tg (me_X3_isOut l hl _ _ _ _ (by omega) (by omega) (by omega)) nw_yX3_isOut nw_mX3_34 nw_sX3_isOut dX3_isWhole_32 rfl rfl (by decide) (by decide) (by first | decide | omega) (by first | decide | omega) (Nat.le_of_ble_eq_true rfl) rfl rfl (Nat.le_of_ble_eq_true rfl) ?_ ?_
          rotate_left
          · rintro E9 w9 h9; exact h9.elim
          rintro v32 w32 ⟨rfl, z32, rfl, g32⟩
          refine ne_if_eq (tgt := 40) X dX3_isWhole_35 rfl (by omega) (fun b35 => ?_) (fun b35 => ?_)
          · refine ne_iconst X dX3_isWhole_40 ?_
            refine ne_istore_n X dX3_isWhole_41 rfl (by decide) ?_
            exact lp42 _ 0 (Nat.lt_succ_self _) (by omega) (by omega) (by omega)
          · exfalso; omega
  refine ne_iconst X dX3_isWhole_0 ?_
  refine ne_istore_n X dX3_isWhole_1 rfl (by decide) ?_
  exact lp2 _ 0 (Nat.lt_succ_self _) (by omega) (by omega)
set_option maxRecDepth 100000 in
set_option maxHeartbeats 4000000 in
theorem me_X3_isSoundZ (l : Launch) (hl : l.stackTraces = false) (c q t b k h : Nat → Int) (vt T : Int) (hI : mI c q t b k h vt T) (hT : 0 ≤ T ∧ T ≤ 1000000)  : ne_M l nw_cl (.code yX3_isSound cX3_isSound 1 (some .boolean)) nw_T yX3_isSound 5 240 9 876 [.ref 0] (mW c q t b k h vt) (fun v w => w = mW c q t b k h 0 ∧ ∃ z : Int, v = some (ni z) ∧ z = 1) (fun _ _ => False) := by
  refine ne_meet (own := RX3) hl rfl (by decide +kernel) (Nat.le_of_ble_eq_true rfl) ?_
  intro D ct A P9 V9 R9 S9 M9 as9 bl9 mt9 C9 ad0 X hr hin ht
  obtain ⟨Ic, Iq, It, Ib, Itb, Igb, Ik, Ih, Iv⟩ := hI
  have Iv : (0 : Int) ≤ 0 ∧ (0 : Int) ≤ 2 := by omega
  refine ne_aload_n X dX3_isSound_0 rfl ?_
  refine ne_iconst X dX3_isSound_1 ?_
  refine ne_putf X dX3_isSound_2 nw_fX3_30 nw_p5_6 rfl (fun _ => rfl) (fun _ => rfl) (by first | decide | exact Nat.le_of_ble_eq_true rfl) ?_
  refine ne_ws (ws' := mW c q t b k h 0) rfl ?_
  have Iv : (0 : Int) ≤ 0 ∧ (0 : Int) ≤ 2 := by omega
  refine ne_aload_n X dX3_isSound_5 rfl ?_
  refine ne_callV X nw_Tg (me_X3_isWholeZ l hl c q t b k h 0 T (by exact ⟨Ic, Iq, It, Ib, Itb, Igb, Ik, Ih, Iv⟩) (by omega) ) nw_yX3_isWhole nw_mX3_200 nw_iX3_isWhole nw_eX3_isWhole (ci := 5) rfl rfl rfl dX3_isSound_6 rfl rfl (by decide) (by decide) (by first | decide | omega) (by first | decide | omega) (Nat.le_of_ble_eq_true rfl) rfl rfl (Nat.le_of_ble_eq_true rfl) ?_ ?_
  rotate_left
  · rintro E9 w9 h9; exact h9.elim
  rintro v6 w6 ⟨rfl, z6, rfl, g6⟩
  exact ne_iret X hr (by first | rfl | decide | (subst g6; rfl)) dX3_isSound_9 ⟨rfl, _, rfl, g6⟩
