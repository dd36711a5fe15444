set_option maxRecDepth 100000 in
set_option maxHeartbeats 4000000 in
theorem me_X3_rowZ (l : Launch) (hl : l.stackTraces = false) (c q t b k h : Nat → Int) (vt T : Int) (hI : mI c q t b k h vt T) (hT : 0 ≤ T ∧ T ≤ 1000000) (i p m : Int) (hi : 0 ≤ i ∧ i < 3) (hp : 0 ≤ p ∧ p ≤ 200) (hm : 0 ≤ m ∧ m ≤ 96) : ne_M l nw_cl (.code yX3_row cX3_row 7 (some (.array .int))) nw_T yX3_row 1 40 1 96 [.ref 0, ni i, ni p, ni m] (mW c q t b k h vt) (fun v w => ∃ (n : Nat) (r : Nat → Int), w = mW c q t b k h vt ++ [some (.inl (0, n, r))] ∧ (n : Int) = m ∧ ne_rg r 0 9 ∧ v = some (.ref 7) ∧ (∀ m9 : Nat, (m9 : Int) < m → r m9 = n9_dg (t i.toNat) (b i.toNat) (p.toNat + m9))) (fun _ _ => False) := by
  refine ne_meet (own := RX3) hl rfl (by decide +kernel) (Nat.le_of_ble_eq_true rfl) ?_
  intro D ct A P9 V9 R9 S9 M9 as9 bl9 mt9 C9 ad0 X hr hin ht
  obtain ⟨Ic, Iq, It, Ib, Itb, Igb, Ik, Ih, Iv⟩ := hI
  have htb9 := Itb i.toNat
  have hb9 := Ib i.toNat
  have ht9 := It i.toNat
  have hgb9 := Igb i.toNat
  have hZ : ne_rg (fun _ => 0) 0 9 := (fun _ => by show (0 : Int) ≤ 0 ∧ (0 : Int) ≤ 9; omega)
  have lp26 : ∀ (n9 : Nat) (f : Nat → Int) (r j : Int), (m - j).toNat < n9 → (0 ≤ j) → (j ≤ m) → (0 ≤ r) → (r < b i.toNat) → (ne_rg f 0 9) → (r = ne_rs (t i.toNat) (b i.toNat) (p.toNat + j.toNat)) → (∀ m9 : Nat, (m9 : Int) < j → f m9 = n9_dg (t i.toNat) (b i.toNat) (p.toNat + m9)) → ne_G nw_cl D ct A 7 ad0 P9 l V9 R9 S9 M9 as9 bl9 mt9 C9 (ne_O nw_cl D ct ad0 7 A bl9 as9 S9 1 96 (fun v w => ∃ (n : Nat) (r : Nat → Int), w = mW c q t b k h vt ++ [some (.inl (0, n, r))] ∧ (n : Int) = m ∧ ne_rg r 0 9 ∧ v = some (.ref 7) ∧ (∀ m9 : Nat, (m9 : Int) < m → r m9 = n9_dg (t i.toNat) (b i.toNat) (p.toNat + m9))) (fun _ _ => False)) 7 1 96 0 0 26 [some (.ref 0), some (ni i), some (ni p), some (ni m), some (.ref 7), some (ni r), some (ni j)] [] (mW c q t b k h vt ++ [some (.inl (0, m.toNat, f))]) := by
    intro n9
    induction n9 with
    | zero => intro f r j hm9 q1 q2 q3 q4 If q5 q7; exfalso; omega
    | succ n9 ih =>
      intro f r j hm9 q1 q2 q3 q4 If q5 q7
      have d9 := ne_dg r (b i.toNat) q3 q4
      refine ne_iload X dX3_row_26 rfl ?_
      refine ne_iload_n X dX3_row_28 rfl ?_
      refine ne_icmp_ge (tgt := 69) X dX3_row_29 rfl (by omega) (by omega) (fun b29 => ?_) (fun b29 => ?_)
      · refine ne_aload X dX3_row_69 rfl ?_
        exact ne_aret X hr (by first | exact Or.inl ⟨_, rfl⟩ | exact Or.inr ⟨_, rfl⟩) dX3_row_71 ⟨_, _, rfl, by omega, If, rfl, fun m9 h9 => q7 m9 (by omega)⟩
      · refine ne_aload X dX3_row_32 rfl ?_
        refine ne_iload X dX3_row_34 rfl ?_
        refine ne_bipush (v := 10) (by decide) X dX3_row_36 ?_
        refine ne_iload X dX3_row_38 rfl ?_
        refine ne_imul X dX3_row_40 ?_
        refine ne_aload_n X dX3_row_41 rfl ?_
        refine ne_getf X dX3_row_42 nw_fX3_21 rfl rfl ?_
        refine ne_iload_n X dX3_row_45 rfl ?_
        refine ne_ialdR X dX3_row_46 rfl (by omega) Ib (fun v46 e46 f46 u46 => ?_)
        subst e46
        refine ne_idiv X dX3_row_47 (by omega) (by omega) (by omega) ?_
        refine ne_iastR X dX3_row_48 rfl (by omega) (ne_rg_mono If (by omega) (by omega)) (a := 0) (b := 9) (by omega) (fun a48 ha48 J48 => ?_)
        refine ne_ws (ws' := mW c q t b k h vt ++ [some (.inl (0, m.toNat, a48))]) rfl ?_
        refine ne_bipush (v := 10) (by decide) X dX3_row_49 ?_
        refine ne_iload X dX3_row_51 rfl ?_
        refine ne_imul X dX3_row_53 ?_
        refine ne_aload_n X dX3_row_54 rfl ?_
        refine ne_getf X dX3_row_55 nw_fX3_21 rfl rfl ?_
        refine ne_iload_n X dX3_row_58 rfl ?_
        refine ne_ialdR X dX3_row_59 rfl (by omega) Ib (fun v59 e59 f59 u59 => ?_)
        subst e59
        refine ne_irem X dX3_row_60 (by omega) (by omega) (by omega) ?_
        refine ne_istore X dX3_row_61 (by decide) ?_
        refine ne_iinc X dX3_row_63 rfl (by decide) ?_
        refine ne_ll (L' := [some (.ref 0), some (ni _), some (ni _), some (ni _), some (.ref 7), some (ni _), some (ni _)]) rfl ?_
        refine ne_goto (tgt := 26) X dX3_row_66 rfl ?_
        have k5 : (10 * r).tmod (b i.toNat) = ne_rs (t i.toNat) (b i.toNat) (p.toNat + (j + 1).toNat) := by
                                            rw [show p.toNat + (j + 1).toNat = (p.toNat + j.toNat) + 1 by omega]
                                            show (10 * r).tmod (b i.toNat) = (10 * ne_rs (t i.toNat) (b i.toNat) (p.toNat + j.toNat)).tmod (b i.toNat)
                                            rw [← q5]
        have k7 : ∀ m9 : Nat, (m9 : Int) < j + 1 → a48 m9 = n9_dg (t i.toNat) (b i.toNat) (p.toNat + m9) := fun m9 h9 => by
                                            rcases n9_upI (m := m9) ha48 with ⟨rfl, e2⟩ | ⟨e1, e2⟩
                                            · rw [e2]; unfold n9_dg; rw [← q5]
                                            · rw [e2]; exact q7 m9 (by omega)
        exact ih _ _ _ (by omega) (by omega) (by omega) (by omega) (by omega) J48 k5 k7
  refine ne_iload_n X dX3_row_0 rfl ?_
  refine ne_newa (t := 0) X dX3_row_1 (Or.inl ⟨rfl, rfl⟩) nw_Aint (by omega) (by omega) (by omega) (Nat.le_of_ble_eq_true rfl) rfl rfl rfl ?_
  refine ne_astore X dX3_row_3 (by decide) ?_
  refine ne_aload_n X dX3_row_5 rfl ?_
  refine ne_getf X dX3_row_6 nw_fX3_18 rfl rfl ?_
  refine ne_iload_n X dX3_row_9 rfl ?_
  refine ne_ialdR X dX3_row_10 rfl (by omega) It (fun v10 e10 f10 u10 => ?_)
  refine ne_aload_n X dX3_row_11 rfl ?_
  refine ne_getf X dX3_row_12 nw_fX3_21 rfl rfl ?_
  refine ne_iload_n X dX3_row_15 rfl ?_
  refine ne_ialdR X dX3_row_16 rfl (by omega) Ib (fun v16 e16 f16 u16 => ?_)
  refine ne_iload_n X dX3_row_17 rfl ?_
  refine ne_callS X nw_Tg (me_X3_restOf l hl _ _ _ _ (by omega) (by omega) (by omega) (by omega)) nw_yX3_restOf nw_mX3_149 nw_sX3_restOf dX3_row_18 rfl rfl (by decide) (by decide) (by first | decide | omega) (by first | decide | omega) (Nat.le_of_ble_eq_true rfl) rfl rfl (Nat.le_of_ble_eq_true rfl) ?_ ?_
  rotate_left
  · rintro E9 w9 h9; exact h9.elim
  rintro v18 w18 ⟨rfl, z18, rfl, g18, k18, i18⟩
  refine ne_istore X dX3_row_21 (by decide) ?_
  refine ne_ll (L' := [some (.ref 0), some (ni _), some (ni _), some (ni _), some (.ref 7), some (ni _), none]) rfl ?_
  refine ne_iconst X dX3_row_23 ?_
  refine ne_istore X dX3_row_24 (by decide) ?_
  refine ne_less (C' := 0) (S' := 0) (by omega) (by omega) ?_
  have k9 : z18 = ne_rs (t i.toNat) (b i.toNat) (p.toNat + (0 : Int).toNat) := by
                                            have h9 := g18
                                            rw [e10, e16] at h9
                                            exact h9
  exact lp26 _ _ _ 0 (Nat.lt_succ_self _) (by omega) (by omega) (by omega) (by omega) hZ k9 (fun m9 h9 => by omega)
set_option maxRecDepth 100000 in
set_option maxHeartbeats 4000000 in
theorem me_X3_areLikeZ (l : Launch) (hl : l.stackTraces = false) (n n2 : Nat) (f f2 : Nat → Int) (hn : n ≤ n2 ∧ n2 ≤ 1000) (If : ne_rg f (-1000) 1000) (Ig : ne_rg f2 (-1000) 1000) : ne_M l nw_cl (.code yX3_areLike cX3_areLike 3 (some .boolean)) nw_T yX3_areLike 0 0 0 0 [.ref 0, .ref 1] ([some (.inl (0, n, f)), some (.inl (0, n2, f2))]) (fun v w => w = [some (.inl (0, n, f)), some (.inl (0, n2, f2))] ∧ ∃ z : Int, v = some (ni z) ∧ 0 ≤ z ∧ z ≤ 1 ∧ (z = 1 ↔ ∀ m : Nat, m < n → f m = f2 m)) (fun _ _ => False) := by
  refine ne_meet (own := RX3) hl rfl (by decide +kernel) (Nat.le_of_ble_eq_true rfl) ?_
  intro D ct A P9 V9 R9 S9 M9 as9 bl9 mt9 C9 ad0 X hr hin ht
  have lp2 : ∀ (n9 : Nat) (j : Int), (n - j).toNat < n9 → (0 ≤ j) → (j ≤ n) → (∀ m : Nat, (m : Int) < j → f m = f2 m) → ne_G nw_cl D ct A 2 ad0 P9 l V9 R9 S9 M9 as9 bl9 mt9 C9 (ne_O nw_cl D ct ad0 2 A bl9 as9 S9 0 0 (fun v w => w = [some (.inl (0, n, f)), some (.inl (0, n2, f2))] ∧ ∃ z : Int, v = some (ni z) ∧ 0 ≤ z ∧ z ≤ 1 ∧ (z = 1 ↔ ∀ m : Nat, m < n → f m = f2 m)) (fun _ _ => False)) 3 0 0 0 0 2 [some (.ref 0), some (.ref 1), some (ni j)] [] ([some (.inl (0, n, f)), some (.inl (0, n2, f2))]) := by
    intro n9
    induction n9 with
    | zero => intro j hm9 q1 q2 q3; exfalso; omega
    | succ n9 ih =>
      intro j hm9 q1 q2 q3
      refine ne_iload_n X dX3_areLike_2 rfl ?_
      refine ne_aload_n X dX3_areLike_3 rfl ?_
      refine ne_alen X dX3_areLike_4 rfl (by decide) ?_
      refine ne_icmp_ge (tgt := 25) X dX3_areLike_5 rfl (by omega) (by omega) (fun b5 => ?_) (fun b5 => ?_)
      · refine ne_iconst X dX3_areLike_25 ?_
        exact ne_iret X hr (by first | rfl | decide | rfl) dX3_areLike_26 ⟨rfl, _, rfl, by omega, by omega, fun _ m hm => q3 m (by omega), fun _ => rfl⟩
      · refine ne_aload_n X dX3_areLike_8 rfl ?_
        refine ne_iload_n X dX3_areLike_9 rfl ?_
        refine ne_ialdR X dX3_areLike_10 rfl (by omega) If (fun v10 e10 f10 u10 => ?_)
        refine ne_aload_n X dX3_areLike_11 rfl ?_
        refine ne_iload_n X dX3_areLike_12 rfl ?_
        refine ne_ialdR X dX3_areLike_13 rfl (by omega) Ig (fun v13 e13 f13 u13 => ?_)
        refine ne_icmp_eq (tgt := 19) X dX3_areLike_14 rfl (by omega) (by omega) (fun b14 => ?_) (fun b14 => ?_)
        · refine ne_iinc X dX3_areLike_19 rfl (by decide) ?_
          refine ne_goto (tgt := 2) X dX3_areLike_22 rfl ?_
          refine ih (j + 1) (by omega) (by omega) (by omega) (fun m hm => ?_)
          rcases (show (m : Int) < j ∨ m = j.toNat by omega) with h3 | h3
          · exact q3 m h3
          · rw [h3, ← e10, ← e13]; exact b14
        · refine ne_iconst X dX3_areLike_17 ?_
          exact ne_iret X hr (by first | rfl | decide | rfl) dX3_areLike_18 ⟨rfl, _, rfl, by omega, by omega, fun h => by omega, fun h => absurd (h j.toNat (by omega)) (by rw [← e10, ← e13]; exact b14)⟩
  refine ne_iconst X dX3_areLike_0 ?_
  refine ne_istore_n X dX3_areLike_1 rfl (by decide) ?_
  exact lp2 _ 0 (Nat.lt_succ_self _) (by omega) (by omega) (fun m hm => by omega)
set_option maxRecDepth 100000 in
set_option maxHeartbeats 4000000 in
theorem me_X3_sumOfZ (l : Launch) (hl : l.stackTraces = false) (c q t b k h : Nat → Int) (vt T : Int) (hI : mI c q t b k h vt T) (hT : 0 ≤ T ∧ T ≤ 1000000) (i p : Int) (hi : 0 ≤ i ∧ i < 3) (hp : 2 ≤ p ∧ p ≤ 12) : ne_M l nw_cl (.code yX3_sumOf cX3_sumOf 10 (some (.array .int))) nw_T yX3_sumOf 2 90 2 194 [.ref 0, ni i, ni p] (mW c q t b k h vt) (fun v w => (v = some .null ∧ w = mW c q t b k h vt ∧ ∃ L, ne_per (t i.toNat) (b i.toNat) L ∧ L.tmod p ≠ 0) ∨ ∃ (n : Nat) (r : Nat → Int), w = mW c q t b k h vt ++ [some (.inl (0, n, r))] ∧ (2 ≤ n ∧ n ≤ 98) ∧ ne_rg r 0 9 ∧ v = some (.ref 7) ∧ ∃ L, ne_per (t i.toNat) (b i.toNat) L ∧ L.tmod p = 0 ∧ (n : Int) = L.tdiv p + 2 ∧ (∀ m : Nat, m < n → r m = n9_cd (n9_cl (t i.toNat) (b i.toNat) (L.tdiv p) p) (n - 1 - m))) (fun _ _ => False) := by
  refine ne_meet (own := RX3) hl rfl (by decide +kernel) (Nat.le_of_ble_eq_true rfl) ?_
  intro D ct A P9 V9 R9 S9 M9 as9 bl9 mt9 C9 ad0 X hr hin ht
  obtain ⟨Ic, Iq, It, Ib, Itb, Igb, Ik, Ih, Iv⟩ := hI
  have htb9 := Itb i.toNat
  have hb9 := Ib i.toNat
  have ht9 := It i.toNat
  have hgb9 := Igb i.toNat
  have hZ : ne_rg (fun _ => 0) 0 9 := (fun _ => by show (0 : Int) ≤ 0 ∧ (0 : Int) ≤ 9; omega)
  have hcl : ∀ (m : Int) (e9 : Nat), 0 ≤ n9_cl (t i.toNat) (b i.toNat) m p e9 := fun m e9 => (n9_clB ht9.1 htb9 (by omega) e9).1
  have lp46 : ∀ (n9 : Nat) (n1 n2 : Nat) (f1 f2 : Nat → Int) (z2 m r j : Int), (j + 1).toNat < n9 → (-1 ≤ j) → (j < n2) → (0 ≤ r ∧ r ≤ 20) → (p * m = n1) → ((n2 : Int) = m + 2) → (0 ≤ m ∧ m ≤ 96) → (n1 ≤ 96) → (ne_rg f1 0 9) → (ne_rg f2 0 9) → (ne_per (t i.toNat) (b i.toNat) z2) → (z2.tmod p = 0 ∧ m = z2.tdiv p) → (r = n9_cy (n9_cl (t i.toNat) (b i.toNat) m p) ((n2 : Int) - 1 - j).toNat) → (∀ m9 : Nat, m9 < n1 → f1 m9 = n9_dg (t i.toNat) (b i.toNat) m9) → (∀ m9 : Nat, m9 < n2 → j < (m9 : Int) → f2 m9 = n9_cd (n9_cl (t i.toNat) (b i.toNat) m p) (n2 - 1 - m9)) → ne_G nw_cl D ct A 7 ad0 P9 l V9 R9 S9 M9 as9 bl9 mt9 C9 (ne_O nw_cl D ct ad0 7 A bl9 as9 S9 2 194 (fun v w => (v = some .null ∧ w = mW c q t b k h vt ∧ ∃ L, ne_per (t i.toNat) (b i.toNat) L ∧ L.tmod p ≠ 0) ∨ ∃ (n : Nat) (r : Nat → Int), w = mW c q t b k h vt ++ [some (.inl (0, n, r))] ∧ (2 ≤ n ∧ n ≤ 98) ∧ ne_rg r 0 9 ∧ v = some (.ref 7) ∧ ∃ L, ne_per (t i.toNat) (b i.toNat) L ∧ L.tmod p = 0 ∧ (n : Int) = L.tdiv p + 2 ∧ (∀ m : Nat, m < n → r m = n9_cd (n9_cl (t i.toNat) (b i.toNat) (L.tdiv p) p) (n - 1 - m))) (fun _ _ => False)) 10 2 194 0 0 46 [some (.ref 0), some (ni i), some (ni p), some (ni z2), some (.ref 7), some (ni m), some (.ref 8), some (ni r), some (ni j), none] [] (mW c q t b k h vt ++ [some (.inl (0, n1, f1)), some (.inl (0, n2, f2))]) := by
    intro n9
    induction n9 with
    | zero => intro n1 n2 f1 f2 z2 m r j hm9 q1 q2 q3 q4 q5 q6 q7 If Ig P2 q8 q9 q10 q11; exfalso; omega
    | succ n9 ih =>
      intro n1 n2 f1 f2 z2 m r j hm9 q1 q2 q3 q4 q5 q6 q7 If Ig P2 q8 q9 q10 q11
      have ih46 := ih
      have lp54 : ∀ (n9 : Nat) (r a : Int), (p - a).toNat < n9 → (0 ≤ a) → (0 ≤ r ∧ r ≤ 20 + 9 * a) → (a ≤ p) → (0 ≤ j) → (r = n9_cy (n9_cl (t i.toNat) (b i.toNat) m p) ((n2 : Int) - 1 - j).toNat + n9_ds (t i.toNat) (b i.toNat) m (m + 1 - j) a.toNat) → (a = 0 ∨ 1 < j) → ne_G nw_cl D ct A 7 ad0 P9 l V9 R9 S9 M9 as9 bl9 mt9 C9 (ne_O nw_cl D ct ad0 7 A bl9 as9 S9 2 194 (fun v w => (v = some .null ∧ w = mW c q t b k h vt ∧ ∃ L, ne_per (t i.toNat) (b i.toNat) L ∧ L.tmod p ≠ 0) ∨ ∃ (n : Nat) (r : Nat → Int), w = mW c q t b k h vt ++ [some (.inl (0, n, r))] ∧ (2 ≤ n ∧ n ≤ 98) ∧ ne_rg r 0 9 ∧ v = some (.ref 7) ∧ ∃ L, ne_per (t i.toNat) (b i.toNat) L ∧ L.tmod p = 0 ∧ (n : Int) = L.tdiv p + 2 ∧ (∀ m : Nat, m < n → r m = n9_cd (n9_cl (t i.toNat) (b i.toNat) (L.tdiv p) p) (n - 1 - m))) (fun _ _ => False)) 10 2 194 0 0 54 [some (.ref 0), some (ni i), some (ni p), some (ni z2), some (.ref 7), some (ni m), some (.ref 8), some (ni r), some (ni j), some (ni a)] [] (mW c q t b k h vt ++ [some (.inl (0, n1, f1)), some (.inl (0, n2, f2))]) := by
        intro n9
        induction n9 with
        | zero => intro r a hm9 u1 u2 u4 u5 u6 u7; exfalso; omega
        | succ n9 ih =>
          intro r a hm9 u1 u2 u4 u5 u6 u7
          have t9 := ne_t10 r (by omega)
          refine ne_iload X dX3_sumOf_54 rfl ?_
          refine ne_iload_n X dX3_sumOf_56 rfl ?_
          refine ne_icmp_ge (tgt := 90) X dX3_sumOf_57 rfl (by omega) (by omega) (fun b57 => ?_) (fun b57 => ?_)
          · have y90 : n9_ds (t i.toNat) (b i.toNat) m (m + 1 - j) a.toNat = n9_cl (t i.toNat) (b i.toNat) m p ((n2 : Int) - 1 - j).toNat := by
                                            unfold n9_cl
                                            split
                                            · rename_i h9
                                              rw [show a.toNat = p.toNat by omega, show ((((n2 : Int) - 1 - j).toNat : Nat) : Int) = m + 1 - j by omega]
                                            · rename_i h9
                                              rw [show a.toNat = 0 by omega]
                                              rfl
            have x90 : r = n9_cl (t i.toNat) (b i.toNat) m p ((n2 : Int) - 1 - j).toNat + n9_cy (n9_cl (t i.toNat) (b i.toNat) m p) ((n2 : Int) - 1 - j).toNat := by omega
            refine ne_aload X dX3_sumOf_90 rfl ?_
            refine ne_iload X dX3_sumOf_92 rfl ?_
            refine ne_iload X dX3_sumOf_94 rfl ?_
            refine ne_bipush (v := 10) (by decide) X dX3_sumOf_96 ?_
            refine ne_irem X dX3_sumOf_98 (by omega) (by omega) (by omega) ?_
            refine ne_iastR X dX3_sumOf_99 rfl (by omega) (ne_rg_mono Ig (by omega) (by omega)) (a := 0) (b := 9) (by omega) (fun a99 ha99 J99 => ?_)
            refine ne_ws (ws' := mW c q t b k h vt ++ [some (.inl (0, n1, f1)), some (.inl (0, n2, a99))]) rfl ?_
            refine ne_iload X dX3_sumOf_100 rfl ?_
            refine ne_bipush (v := 10) (by decide) X dX3_sumOf_102 ?_
            refine ne_idiv X dX3_sumOf_104 (by omega) (by omega) (by omega) ?_
            refine ne_istore X dX3_sumOf_105 (by decide) ?_
            refine ne_iinc X dX3_sumOf_107 rfl (by decide) ?_
            refine ne_ll (L' := [some (.ref 0), some (ni _), some (ni _), some (ni _), some (.ref 7), some (ni _), some (.ref 8), some (ni _), some (ni _), some (ni _)]) rfl ?_
            refine ne_goto (tgt := 46) X dX3_sumOf_110 rfl ?_
            refine ne_lnone 9 ?_
            have k9 : r.tdiv 10 = n9_cy (n9_cl (t i.toNat) (b i.toNat) m p) ((n2 : Int) - 1 - (j + -1)).toNat := by
                                            rw [show ((n2 : Int) - 1 - (j + -1)).toNat = ((n2 : Int) - 1 - j).toNat + 1 by omega, x90]
                                            exact (n9_cyT (hcl m) _).1
            have k11 : ∀ m9 : Nat, m9 < n2 → j + -1 < (m9 : Int) → a99 m9 = n9_cd (n9_cl (t i.toNat) (b i.toNat) m p) (n2 - 1 - m9) := fun m9 h8 h9 => by
                                            rcases n9_upI (m := m9) ha99 with ⟨rfl, e2⟩ | ⟨e1, e2⟩
                                            · rw [e2, x90, show n2 - 1 - j.toNat = ((n2 : Int) - 1 - j).toNat by omega]
                                              exact (n9_cyT (hcl m) _).2
                                            · rw [e2]; exact q11 m9 h8 (by omega)
            exact ih46 _ _ _ _ _ _ _ (j + -1) (by omega) (by omega) (by omega) (by omega) q4 (by omega) (by omega) (by omega) If J99 P2 q8 k9 q10 k11
          · refine ne_iload X dX3_sumOf_60 rfl ?_
            refine ne_iconst X dX3_sumOf_62 ?_
            refine ne_icmp_le (tgt := 90) X dX3_sumOf_63 rfl (by omega) (by omega) (fun b63 => ?_) (fun b63 => ?_)
            · have y90 : n9_ds (t i.toNat) (b i.toNat) m (m + 1 - j) a.toNat = n9_cl (t i.toNat) (b i.toNat) m p ((n2 : Int) - 1 - j).toNat := by
                                            unfold n9_cl
                                            split
                                            · rename_i h9
                                              rw [show a.toNat = p.toNat by omega, show ((((n2 : Int) - 1 - j).toNat : Nat) : Int) = m + 1 - j by omega]
                                            · rename_i h9
                                              rw [show a.toNat = 0 by omega]
                                              rfl
              have x90 : r = n9_cl (t i.toNat) (b i.toNat) m p ((n2 : Int) - 1 - j).toNat + n9_cy (n9_cl (t i.toNat) (b i.toNat) m p) ((n2 : Int) - 1 - j).toNat := by omega
              refine ne_aload X dX3_sumOf_90 rfl ?_
              refine ne_iload X dX3_sumOf_92 rfl ?_
              refine ne_iload X dX3_sumOf_94 rfl ?_
              refine ne_bipush (v := 10) (by decide) X dX3_sumOf_96 ?_
              refine ne_irem X dX3_sumOf_98 (by omega) (by omega) (by omega) ?_
              refine ne_iastR X dX3_sumOf_99 rfl (by omega) (ne_rg_mono Ig (by omega) (by omega)) (a := 0) (b := 9) (by omega) (fun a99 ha99 J99 => ?_)
              refine ne_ws (ws' := mW c q t b k h vt ++ [some (.inl (0, n1, f1)), some (.inl (0, n2, a99))]) rfl ?_
              refine ne_iload X dX3_sumOf_100 rfl ?_
              refine ne_bipush (v := 10) (by decide) X dX3_sumOf_102 ?_
              refine ne_idiv X dX3_sumOf_104 (by omega) (by omega) (by omega) ?_
              refine ne_istore X dX3_sumOf_105 (by decide) ?_
              refine ne_iinc X dX3_sumOf_107 rfl (by decide) ?_
              refine ne_ll (L' := [some (.ref 0), some (ni _), some (ni _), some (ni _), some (.ref 7), some (ni _), some (.ref 8), some (ni _), some (ni _), some (ni _)]) rfl ?_
              refine ne_goto (tgt := 46) X dX3_sumOf_110 rfl ?_
              refine ne_lnone 9 ?_
              have k9 : r.tdiv 10 = n9_cy (n9_cl (t i.toNat) (b i.toNat) m p) ((n2 : Int) - 1 - (j + -1)).toNat := by
                                            rw [show ((n2 : Int) - 1 - (j + -1)).toNat = ((n2 : Int) - 1 - j).toNat + 1 by omega, x90]
                                            exact (n9_cyT (hcl m) _).1
              have k11 : ∀ m9 : Nat, m9 < n2 → j + -1 < (m9 : Int) → a99 m9 = n9_cd (n9_cl (t i.toNat) (b i.toNat) m p) (n2 - 1 - m9) := fun m9 h8 h9 => by
                                            rcases n9_upI (m := m9) ha99 with ⟨rfl, e2⟩ | ⟨e1, e2⟩
                                            · rw [e2, x90, show n2 - 1 - j.toNat = ((n2 : Int) - 1 - j).toNat by omega]
                                              exact (n9_cyT (hcl m) _).2
                                            · rw [e2]; exact q11 m9 h8 (by omega)
              exact ih46 _ _ _ _ _ _ _ (j + -1) (by omega) (by omega) (by omega) (by omega) q4 (by omega) (by omega) (by omega) If J99 P2 q8 k9 q10 k11
            · refine ne_iload X dX3_sumOf_66 rfl ?_
              refine ne_aload X dX3_sumOf_68 rfl ?_
              refine ne_iload X dX3_sumOf_70 rfl ?_
              refine ne_iload X dX3_sumOf_72 rfl ?_
              refine ne_imul X dX3_sumOf_74 ?_
              have m74 : a * m + m ≤ p * m := by
                have h9 := Int.mul_le_mul_of_nonneg_right (show a + 1 ≤ p by omega) (show 0 ≤ m by omega)
                rw [Int.add_mul, Int.one_mul] at h9; exact h9
              have m75 : 0 ≤ a * m := Int.mul_nonneg (by omega) (by omega)
              refine ne_iload X dX3_sumOf_75 rfl ?_
              refine ne_iadd X dX3_sumOf_77 ?_
              refine ne_iconst X dX3_sumOf_78 ?_
              refine ne_isub X dX3_sumOf_79 ?_
              refine ne_ialdR X dX3_sumOf_80 rfl (by omega) If (fun v80 e80 f80 u80 => ?_)
              refine ne_iadd X dX3_sumOf_81 ?_
              refine ne_istore X dX3_sumOf_82 (by decide) ?_
              refine ne_iinc X dX3_sumOf_84 rfl (by decide) ?_
              refine ne_ll (L' := [some (.ref 0), some (ni _), some (ni _), some (ni _), some (.ref 7), some (ni _), some (.ref 8), some (ni _), some (ni _), some (ni _)]) rfl ?_
              refine ne_goto (tgt := 54) X dX3_sumOf_87 rfl ?_
              have k6 : r + v80 = n9_cy (n9_cl (t i.toNat) (b i.toNat) m p) ((n2 : Int) - 1 - j).toNat + n9_ds (t i.toNat) (b i.toNat) m (m + 1 - j) (a + 1).toNat := by
                                            rw [show (a + 1).toNat = a.toNat + 1 by omega]
                                            show r + v80 = n9_cy (n9_cl (t i.toNat) (b i.toNat) m p) ((n2 : Int) - 1 - j).toNat + (n9_ds (t i.toNat) (b i.toNat) m (m + 1 - j) a.toNat + n9_dg (t i.toNat) (b i.toNat) (((a.toNat : Nat) : Int) * m + (m - 1 - (m + 1 - j))).toNat)
                                            rw [show ((a.toNat : Nat) : Int) = a by omega, show (a * m + (m - 1 - (m + 1 - j))).toNat = (a * m + j - 2).toNat by omega, ← q10 _ (by omega), ← e80]
                                            omega
              exact ih (r + v80) (a + 1) (by omega) (by omega) (by omega) (by omega) (by omega) k6 (by omega)
      refine ne_iload X dX3_sumOf_46 rfl ?_
      refine ne_if_lt (tgt := 113) X dX3_sumOf_48 rfl (by omega) (fun b48 => ?_) (fun b48 => ?_)
      · refine ne_aload X dX3_sumOf_113 rfl ?_
        refine ne_lnil ?_
        refine ne_forget [7] ?_
        refine ne_viewb [0, 1, 2, 3, 4, 5, 6, 8] (ws' := mW c q t b k h vt ++ [some (.inl (0, n2, f2))]) (L' := []) (st' := [.ref 7]) rfl (by decide) rfl rfl rfl rfl ?_
        exact ne_aret X hr (by first | exact Or.inl ⟨_, rfl⟩ | exact Or.inr ⟨_, rfl⟩) dX3_sumOf_115 (Or.inr ⟨_, _, rfl, by omega, Ig, rfl, z2, P2, q8.1, by omega, fun m9 h9 => (by rw [← q8.2]; exact q11 m9 h9 (by omega))⟩)
      · refine ne_iconst X dX3_sumOf_51 ?_
        refine ne_istore X dX3_sumOf_52 (by decide) ?_
        have k6 : r = n9_cy (n9_cl (t i.toNat) (b i.toNat) m p) ((n2 : Int) - 1 - j).toNat + n9_ds (t i.toNat) (b i.toNat) m (m + 1 - j) (0 : Int).toNat := by
                                            show r = n9_cy (n9_cl (t i.toNat) (b i.toNat) m p) ((n2 : Int) - 1 - j).toNat + 0
                                            omega
        exact lp54 _ _ 0 (Nat.lt_succ_self _) (by omega) (by omega) (by omega) (by omega) k6 (by omega)
  refine ne_aload_n X dX3_sumOf_0 rfl ?_
  refine ne_iload_n X dX3_sumOf_1 rfl ?_
  refine ne_callV X nw_Tg (me_X3_lengthOf_ l hl c q t b k h vt T (by exact ⟨Ic, Iq, It, Ib, Itb, Igb, Ik, Ih, Iv⟩) (by omega) _ (by omega)) nw_yX3_lengthOf_ nw_mX3_146 nw_iX3_lengthOf_ nw_eX3_lengthOf_ (ci := 5) rfl rfl rfl dX3_sumOf_2 rfl rfl (by decide) (by decide) (by first | decide | omega) (by first | decide | omega) (Nat.le_of_ble_eq_true rfl) rfl rfl (Nat.le_of_ble_eq_true rfl) ?_ ?_
  rotate_left
  · rintro E9 w9 h9; exact h9.elim
  rintro v2 w2 ⟨rfl, z2, rfl, P2, g2, k2⟩
  have t2 := (ne_tdm z2 p (by omega)).1 (by omega)
  have t3 := Int.tmod_def z2 p
  refine ne_istore_n X dX3_sumOf_5 rfl (by decide) ?_
  refine ne_iload_n X dX3_sumOf_6 rfl ?_
  refine ne_iload_n X dX3_sumOf_7 rfl ?_
  refine ne_irem X dX3_sumOf_8 (by omega) (by omega) (by omega) ?_
  refine ne_if_eq (tgt := 14) X dX3_sumOf_9 rfl (by omega) (fun b9 => ?_) (fun b9 => ?_)
  · refine ne_aload_n X dX3_sumOf_14 rfl ?_
    refine ne_iload_n X dX3_sumOf_15 rfl ?_
    refine ne_iconst X dX3_sumOf_16 ?_
    refine ne_iload_n X dX3_sumOf_17 rfl ?_
    refine ne_callV X nw_Tg (me_X3_rowZ l hl c q t b k h vt T (by exact ⟨Ic, Iq, It, Ib, Itb, Igb, Ik, Ih, Iv⟩) (by omega) _ _ _ (by omega) (by omega) (by omega)) nw_yX3_row nw_mX3_160 nw_iX3_row nw_eX3_row (ci := 5) rfl rfl rfl dX3_sumOf_18 rfl rfl (by decide) (by decide) (by first | decide | omega) (by first | decide | omega) (Nat.le_of_ble_eq_true rfl) rfl rfl (Nat.le_of_ble_eq_true rfl) ?_ ?_
    rotate_left
    · rintro E9 w9 h9; exact h9.elim
    rintro v18 w18 ⟨n18, r18, rfl, N18, R18, rfl, D18⟩
    refine ne_astore X dX3_sumOf_21 (by decide) ?_
    refine ne_ll (L' := [some (.ref 0), some (ni _), some (ni _), some (ni _), some (.ref 7), none, none, none, none, none]) rfl ?_
    refine ne_iload_n X dX3_sumOf_23 rfl ?_
    refine ne_iload_n X dX3_sumOf_24 rfl ?_
    refine ne_idiv X dX3_sumOf_25 (by omega) (by omega) (by omega) ?_
    refine ne_istore X dX3_sumOf_26 (by decide) ?_
    refine ne_ll (L' := [some (.ref 0), some (ni i), some (ni p), some (ni z2), some (.ref 7), some (ni (z2.tdiv p)), none, none, none, none]) rfl ?_
    refine ne_iload X dX3_sumOf_28 rfl ?_
    refine ne_iconst X dX3_sumOf_30 ?_
    refine ne_iadd X dX3_sumOf_31 ?_
    have m32 : 2 * z2.tdiv p ≤ p * z2.tdiv p := Int.mul_le_mul_of_nonneg_right (by omega) (by omega)
    refine ne_newa (t := 0) X dX3_sumOf_32 (Or.inl ⟨rfl, rfl⟩) nw_Aint (by omega) (by omega) (by omega) (Nat.le_of_ble_eq_true rfl) rfl rfl rfl ?_
    refine ne_astore X dX3_sumOf_34 (by decide) ?_
    refine ne_ll (L' := [some (.ref 0), some (ni _), some (ni _), some (ni _), some (.ref 7), some (ni _), some (.ref 8), none, none, none]) rfl ?_
    refine ne_iconst X dX3_sumOf_36 ?_
    refine ne_istore X dX3_sumOf_37 (by decide) ?_
    refine ne_ll (L' := [some (.ref 0), some (ni i), some (ni p), some (ni z2), some (.ref 7), some (ni (z2.tdiv p)), some (.ref 8), some (ni 0), none, none]) rfl ?_
    refine ne_aload X dX3_sumOf_39 rfl ?_
    refine ne_alen X dX3_sumOf_41 rfl (by decide) ?_
    refine ne_iconst X dX3_sumOf_42 ?_
    refine ne_isub X dX3_sumOf_43 ?_
    refine ne_istore X dX3_sumOf_44 (by decide) ?_
    refine ne_ll (L' := [some (.ref 0), some (ni _), some (ni _), some (ni _), some (.ref 7), some (ni _), some (.ref 8), some (ni _), some (ni _), none]) rfl ?_
    refine ne_less (C' := 0) (S' := 0) (by omega) (by omega) ?_
    exact lp46 _ _ _ _ _ z2 _ 0 _ (Nat.lt_succ_self _) (by omega) (by omega) (by omega) (by omega) (by omega) (by omega) (by omega) R18 hZ P2 ⟨by omega, rfl⟩ (n9_cy0 (by omega)) (fun m9 h9 => by have d9 := D18 m9 (by omega); rw [show (0 : Int).toNat + m9 = m9 by omega] at d9; exact d9) (fun m9 h8 h9 => by omega)
  · refine ne_null X dX3_sumOf_12 ?_
    exact ne_aretN X hr (by first | exact Or.inl ⟨_, rfl⟩ | exact Or.inr ⟨_, rfl⟩) dX3_sumOf_13 (Or.inl ⟨rfl, rfl, z2, P2, by omega⟩)
set_option maxRecDepth 100000 in
set_option maxHeartbeats 4000000 in
theorem me_X3_ninesOfZ (l : Launch) (hl : l.stackTraces = false) (c q t b k h : Nat → Int) (vt T : Int) (hI : mI c q t b k h vt T) (hT : 0 ≤ T ∧ T ≤ 1000000) (i p : Int) (hi : 0 ≤ i ∧ i < 3) (hp : 2 ≤ p ∧ p ≤ 12) : ne_M l nw_cl (.code yX3_ninesOf cX3_ninesOf 8 (some .int)) nw_T yX3_ninesOf 3 140 3 292 [.ref 0, ni i, ni p] (mW c q t b k h vt) (fun v w => w = mW c q t b k h vt ∧ ∃ z : Int, v = some (ni z) ∧ (-9 ≤ z ∧ z ≤ 12) ∧ ∃ L, ne_per (t i.toNat) (b i.toNat) L ∧ n9_nin (t i.toNat) (b i.toNat) L p z) (fun _ _ => False) := by
  refine ne_meet (own := RX3) hl rfl (by decide +kernel) (Nat.le_of_ble_eq_true rfl) ?_
  intro D ct A P9 V9 R9 S9 M9 as9 bl9 mt9 C9 ad0 X hr hin ht
  obtain ⟨Ic, Iq, It, Ib, Itb, Igb, Ik, Ih, Iv⟩ := hI
  have htb9 := Itb i.toNat
  have hb9 := Ib i.toNat
  have ht9 := It i.toNat
  have hgb9 := Igb i.toNat
  have hZ : ne_rg (fun _ => 0) 0 9 := (fun _ => by show (0 : Int) ≤ 0 ∧ (0 : Int) ≤ 9; omega)
  have lp23 : ∀ (n9 : Nat) (L3 : Int) (n1 n2 : Nat) (f1 f2 : Nat → Int) (j : Int), (p + 1 - j).toNat < n9 → (0 ≤ j) → (j ≤ p + 1) → (2 ≤ n1 ∧ n1 ≤ 98) → (n2 = n1) → (ne_rg f1 0 9) → (ne_rg f2 0 9) → (ne_per (t i.toNat) (b i.toNat) L3) → (L3.tmod p = 0) → ((n1 : Int) = (L3.tdiv p) + 2) → (∀ m : Nat, m < n1 → f1 m = n9_cd (n9_cl (t i.toNat) (b i.toNat) (L3.tdiv p) p) (n1 - 1 - m)) → (∀ m : Nat, m < n2 → f2 m = n9_cd (n9_nn (L3.tdiv p) j) (n2 - 1 - m)) → (∀ f : Int, 0 ≤ f → f < j → ¬ n9_eq (t i.toNat) (b i.toNat) L3 p f) → ne_G nw_cl D ct A 7 ad0 P9 l V9 R9 S9 M9 as9 bl9 mt9 C9 (ne_O nw_cl D ct ad0 7 A bl9 as9 S9 3 292 (fun v w => w = mW c q t b k h vt ∧ ∃ z : Int, v = some (ni z) ∧ (-9 ≤ z ∧ z ≤ 12) ∧ ∃ L, ne_per (t i.toNat) (b i.toNat) L ∧ n9_nin (t i.toNat) (b i.toNat) L p z) (fun _ _ => False)) 8 3 292 0 0 23 [some (.ref 0), some (ni i), some (ni p), some (.ref 7), some (.ref 8), some (ni j), none, none] [] (mW c q t b k h vt ++ [some (.inl (0, n1, f1)), some (.inl (0, n2, f2))]) := by
    intro n9
    induction n9 with
    | zero => intro L3 n1 n2 f1 f2 j hm9 q1 q2 q4 q5 If Ig P3 D3 M3 Q3 q7 q8; exfalso; omega
    | succ n9 ih =>
      intro L3 n1 n2 f1 f2 j hm9 q1 q2 q4 q5 If Ig P3 D3 M3 Q3 q7 q8
      have ih23 := ih
      have lp51 : ∀ (n9 : Nat) (f2 : Nat → Int) (r a : Int), (a + 1).toNat < n9 → (-1 ≤ a) → (a < n2) → (0 ≤ r ∧ r ≤ 1) → (0 ≤ j ∧ j ≤ p) → (ne_rg f2 0 9) → (r = n9_cy (n9_ny (L3.tdiv p) j) ((n2 : Int) - 1 - a).toNat) → (∀ m : Nat, m < n2 → (a < (m : Int) → f2 m = n9_cd (n9_ny (L3.tdiv p) j) (n2 - 1 - m)) ∧ ((m : Int) ≤ a → f2 m = n9_cd (n9_nn (L3.tdiv p) j) (n2 - 1 - m))) → (¬ n9_eq (t i.toNat) (b i.toNat) L3 p j) → ne_G nw_cl D ct A 7 ad0 P9 l V9 R9 S9 M9 as9 bl9 mt9 C9 (ne_O nw_cl D ct ad0 7 A bl9 as9 S9 3 292 (fun v w => w = mW c q t b k h vt ∧ ∃ z : Int, v = some (ni z) ∧ (-9 ≤ z ∧ z ≤ 12) ∧ ∃ L, ne_per (t i.toNat) (b i.toNat) L ∧ n9_nin (t i.toNat) (b i.toNat) L p z) (fun _ _ => False)) 8 3 292 0 0 51 [some (.ref 0), some (ni i), some (ni p), some (.ref 7), some (.ref 8), some (ni j), some (ni r), some (ni a)] [] (mW c q t b k h vt ++ [some (.inl (0, n1, f1)), some (.inl (0, n2, f2))]) := by
        intro n9
        induction n9 with
        | zero => intro f2 r a hm9 u1 u2 u3 u5 Ig u6 u7 E9; exfalso; omega
        | succ n9 ih =>
          intro f2 r a hm9 u1 u2 u3 u5 Ig u6 u7 E9
          refine ne_iload X dX3_ninesOf_51 rfl ?_
          refine ne_if_lt (tgt := 102) X dX3_ninesOf_53 rfl (by omega) (fun b53 => ?_) (fun b53 => ?_)
          · refine ne_iinc X dX3_ninesOf_102 rfl (by decide) ?_
            refine ne_goto (tgt := 23) X dX3_ninesOf_105 rfl ?_
            refine ne_lnone 6 (ne_lnone 7 ?_)
            have k7 : ∀ m : Nat, m < n2 → f2 m = n9_cd (n9_nn (L3.tdiv p) (j + 1)) (n2 - 1 - m) := fun m hm => by
                                            rw [← n9_nyE]; exact (u7 m hm).1 (by omega)
            have k8 : ∀ f : Int, 0 ≤ f → f < j + 1 → ¬ n9_eq (t i.toNat) (b i.toNat) L3 p f := fun f h1 h2 => by
                                            rcases (show f < j ∨ f = j by omega) with h3 | h3
                                            · exact q8 f h1 h3
                                            · rw [h3]; exact E9
            exact ih23 L3 _ _ _ _ (j + 1) (by omega) (by omega) (by omega) q4 q5 If Ig P3 D3 M3 Q3 k7 k8
          · refine ne_iload X dX3_ninesOf_56 rfl ?_
            refine ne_aload X dX3_ninesOf_58 rfl ?_
            refine ne_iload X dX3_ninesOf_60 rfl ?_
            refine ne_ialdR X dX3_ninesOf_62 rfl (by omega) Ig (fun v62 e62 f62 u62 => ?_)
            refine ne_iload X dX3_ninesOf_63 rfl ?_
            refine ne_iconst X dX3_ninesOf_65 ?_
            refine ne_icmp_le (tgt := 74) X dX3_ninesOf_66 rfl (by omega) (by omega) (fun b66 => ?_) (fun b66 => ?_)
            · refine ne_iconst X dX3_ninesOf_74 ?_
              refine ne_iadd X dX3_ninesOf_75 ?_
              refine ne_iadd X dX3_ninesOf_76 ?_
              refine ne_topI (fun r77 e77 => ?_)
              have p77 : 0 ≤ r77 ∧ r77 ≤ 19 := by omega
              have t77 := ne_t10 r77 (by omega)
              have d77 : r77.tdiv 10 ≤ 1 := by omega
              have x77 : r77 = n9_ny (L3.tdiv p) j ((n2 : Int) - 1 - a).toNat + n9_cy (n9_ny (L3.tdiv p) j) ((n2 : Int) - 1 - a).toNat := by
                                            have k1 := (u7 a.toNat (by omega)).2 (by omega)
                                            rw [show n2 - 1 - a.toNat = ((n2 : Int) - 1 - a).toNat by omega, ← e62] at k1
                                            have k2 : (((((n2 : Int) - 1 - a).toNat : Nat) : Int) < (L3.tdiv p) → n9_nn (L3.tdiv p) 1 ((n2 : Int) - 1 - a).toNat = 9) ∧ ((L3.tdiv p) ≤ ((((n2 : Int) - 1 - a).toNat : Nat) : Int) → n9_nn (L3.tdiv p) 1 ((n2 : Int) - 1 - a).toNat = 0) := by
                                              unfold n9_nn
                                              exact ⟨fun h9 => by rw [if_pos h9]; rfl, fun h9 => if_neg (by omega)⟩
                                            show r77 = (n9_cd (n9_nn (L3.tdiv p) j) ((n2 : Int) - 1 - a).toNat + n9_nn (L3.tdiv p) 1 ((n2 : Int) - 1 - a).toNat) + n9_cy (n9_ny (L3.tdiv p) j) ((n2 : Int) - 1 - a).toNat
                                            omega
              refine ne_istore X dX3_ninesOf_77 (by decide) ?_
              refine ne_aload X dX3_ninesOf_79 rfl ?_
              refine ne_iload X dX3_ninesOf_81 rfl ?_
              refine ne_iload X dX3_ninesOf_83 rfl ?_
              refine ne_bipush (v := 10) (by decide) X dX3_ninesOf_85 ?_
              refine ne_irem X dX3_ninesOf_87 (by omega) (by omega) (by omega) ?_
              refine ne_iastR X dX3_ninesOf_88 rfl (by omega) (ne_rg_mono Ig (by omega) (by omega)) (a := 0) (b := 9) (by omega) (fun a88 ha88 J88 => ?_)
              refine ne_ws (ws' := mW c q t b k h vt ++ [some (.inl (0, n1, f1)), some (.inl (0, n2, a88))]) rfl ?_
              refine ne_iload X dX3_ninesOf_89 rfl ?_
              refine ne_bipush (v := 10) (by decide) X dX3_ninesOf_91 ?_
              refine ne_idiv X dX3_ninesOf_93 (by omega) (by omega) (by omega) ?_
              refine ne_istore X dX3_ninesOf_94 (by decide) ?_
              refine ne_ll (L' := [some (.ref 0), some (ni _), some (ni _), some (.ref 7), some (.ref 8), some (ni _), some (ni _), some (ni _)]) rfl ?_
              refine ne_iinc X dX3_ninesOf_96 rfl (by decide) ?_
              refine ne_goto (tgt := 51) X dX3_ninesOf_99 rfl ?_
              have k6 : r77.tdiv 10 = n9_cy (n9_ny (L3.tdiv p) j) ((n2 : Int) - 1 - (a + -1)).toNat := by
                                            rw [show ((n2 : Int) - 1 - (a + -1)).toNat = ((n2 : Int) - 1 - a).toNat + 1 by omega, x77]
                                            exact (n9_cyT (fun e => (n9_nyB _ _ e).1) _).1
              have k7 : ∀ m : Nat, m < n2 → (a + -1 < (m : Int) → a88 m = n9_cd (n9_ny (L3.tdiv p) j) (n2 - 1 - m)) ∧ ((m : Int) ≤ a + -1 → a88 m = n9_cd (n9_nn (L3.tdiv p) j) (n2 - 1 - m)) := fun m hm => by
                                            rcases n9_upI (m := m) ha88 with ⟨rfl, e2⟩ | ⟨e1, e2⟩
                                            · refine ⟨fun _ => ?_, fun h9 => by omega⟩
                                              rw [e2, x77, show n2 - 1 - a.toNat = ((n2 : Int) - 1 - a).toNat by omega]
                                              exact (n9_cyT (fun e => (n9_nyB _ _ e).1) _).2
                                            · have q9 := u7 m hm
                                              rw [e2]
                                              exact ⟨fun h9 => q9.1 (by omega), fun h9 => q9.2 (by omega)⟩
              exact ih _ _ (a + -1) (by omega) (by omega) (by omega) (by omega) (by omega) J88 k6 k7 E9
            · refine ne_bipush (v := 9) (by decide) X dX3_ninesOf_69 ?_
              refine ne_goto (tgt := 75) X dX3_ninesOf_71 rfl ?_
              refine ne_iadd X dX3_ninesOf_75 ?_
              refine ne_iadd X dX3_ninesOf_76 ?_
              refine ne_topI (fun r77 e77 => ?_)
              have p77 : 0 ≤ r77 ∧ r77 ≤ 19 := by omega
              have t77 := ne_t10 r77 (by omega)
              have d77 : r77.tdiv 10 ≤ 1 := by omega
              have x77 : r77 = n9_ny (L3.tdiv p) j ((n2 : Int) - 1 - a).toNat + n9_cy (n9_ny (L3.tdiv p) j) ((n2 : Int) - 1 - a).toNat := by
                                            have k1 := (u7 a.toNat (by omega)).2 (by omega)
                                            rw [show n2 - 1 - a.toNat = ((n2 : Int) - 1 - a).toNat by omega, ← e62] at k1
                                            have k2 : (((((n2 : Int) - 1 - a).toNat : Nat) : Int) < (L3.tdiv p) → n9_nn (L3.tdiv p) 1 ((n2 : Int) - 1 - a).toNat = 9) ∧ ((L3.tdiv p) ≤ ((((n2 : Int) - 1 - a).toNat : Nat) : Int) → n9_nn (L3.tdiv p) 1 ((n2 : Int) - 1 - a).toNat = 0) := by
                                              unfold n9_nn
                                              exact ⟨fun h9 => by rw [if_pos h9]; rfl, fun h9 => if_neg (by omega)⟩
                                            show r77 = (n9_cd (n9_nn (L3.tdiv p) j) ((n2 : Int) - 1 - a).toNat + n9_nn (L3.tdiv p) 1 ((n2 : Int) - 1 - a).toNat) + n9_cy (n9_ny (L3.tdiv p) j) ((n2 : Int) - 1 - a).toNat
                                            omega
              refine ne_istore X dX3_ninesOf_77 (by decide) ?_
              refine ne_aload X dX3_ninesOf_79 rfl ?_
              refine ne_iload X dX3_ninesOf_81 rfl ?_
              refine ne_iload X dX3_ninesOf_83 rfl ?_
              refine ne_bipush (v := 10) (by decide) X dX3_ninesOf_85 ?_
              refine ne_irem X dX3_ninesOf_87 (by omega) (by omega) (by omega) ?_
              refine ne_iastR X dX3_ninesOf_88 rfl (by omega) (ne_rg_mono Ig (by omega) (by omega)) (a := 0) (b := 9) (by omega) (fun a88 ha88 J88 => ?_)
              refine ne_ws (ws' := mW c q t b k h vt ++ [some (.inl (0, n1, f1)), some (.inl (0, n2, a88))]) rfl ?_
              refine ne_iload X dX3_ninesOf_89 rfl ?_
              refine ne_bipush (v := 10) (by decide) X dX3_ninesOf_91 ?_
              refine ne_idiv X dX3_ninesOf_93 (by omega) (by omega) (by omega) ?_
              refine ne_istore X dX3_ninesOf_94 (by decide) ?_
              refine ne_ll (L' := [some (.ref 0), some (ni _), some (ni _), some (.ref 7), some (.ref 8), some (ni _), some (ni _), some (ni _)]) rfl ?_
              refine ne_iinc X dX3_ninesOf_96 rfl (by decide) ?_
              refine ne_goto (tgt := 51) X dX3_ninesOf_99 rfl ?_
              have k6 : r77.tdiv 10 = n9_cy (n9_ny (L3.tdiv p) j) ((n2 : Int) - 1 - (a + -1)).toNat := by
                                            rw [show ((n2 : Int) - 1 - (a + -1)).toNat = ((n2 : Int) - 1 - a).toNat + 1 by omega, x77]
                                            exact (n9_cyT (fun e => (n9_nyB _ _ e).1) _).1
              have k7 : ∀ m : Nat, m < n2 → (a + -1 < (m : Int) → a88 m = n9_cd (n9_ny (L3.tdiv p) j) (n2 - 1 - m)) ∧ ((m : Int) ≤ a + -1 → a88 m = n9_cd (n9_nn (L3.tdiv p) j) (n2 - 1 - m)) := fun m hm => by
                                            rcases n9_upI (m := m) ha88 with ⟨rfl, e2⟩ | ⟨e1, e2⟩
                                            · refine ⟨fun _ => ?_, fun h9 => by omega⟩
                                              rw [e2, x77, show n2 - 1 - a.toNat = ((n2 : Int) - 1 - a).toNat by omega]
                                              exact (n9_cyT (fun e => (n9_nyB _ _ e).1) _).2
                                            · have q9 := u7 m hm
                                              rw [e2]
                                              exact ⟨fun h9 => q9.1 (by omega), fun h9 => q9.2 (by omega)⟩
              exact ih _ _ (a + -1) (by omega) (by omega) (by omega) (by omega) (by omega) J88 k6 k7 E9
      refine ne_iload X dX3_ninesOf_23 rfl ?_
      refine ne_iload_n X dX3_ninesOf_25 rfl ?_
      refine ne_icmp_gt (tgt := 108) X dX3_ninesOf_26 rfl (by omega) (by omega) (fun b26 => ?_) (fun b26 => ?_)
      · refine ne_iconst X dX3_ninesOf_108 ?_
        refine ne_take 7 ?_
        refine ne_ws (ws' := mW c q t b k h vt) rfl ?_
        exact ne_iret X hr (by first | rfl | decide | rfl) dX3_ninesOf_109 ⟨rfl, _, rfl, by omega, L3, P3, Or.inr ⟨D3, Or.inr ⟨rfl, fun f h1 h2 => q8 f h1 (by omega)⟩⟩⟩
      · refine ne_aload X dX3_ninesOf_29 rfl ?_
        refine ne_aload_n X dX3_ninesOf_31 rfl ?_
        refine ne_callSF (is := [8, 7]) X nw_Tg (me_X3_areLikeZ l hl n2 n1 f2 f1 (by omega) (ne_rg_mono Ig (by omega) (by omega)) (ne_rg_mono If (by omega) (by omega))) nw_yX3_areLike nw_mX3_178 nw_sX3_areLike dX3_ninesOf_32 rfl rfl (by decide) (by decide) (by first | decide | omega) (by first | decide | omega) (Nat.le_of_ble_eq_true rfl) rfl rfl rfl (Nat.le_of_ble_eq_true rfl) (ne_ptb rfl (by decide +kernel) rfl) ?_ ?_
        rotate_left
        · rintro E9 w9 h9; exact h9.elim
        rintro v32 w32 ⟨rfl, z32, rfl, g32, k32, i32⟩
        refine ne_ws (ws' := mW c q t b k h vt ++ [some (.inl (0, n1, f1)), some (.inl (0, n2, f2))]) rfl ?_
        have E32 : z32 = 1 ↔ n9_eq (t i.toNat) (b i.toNat) L3 p j := i32.trans (by subst q5; exact n9_lk ht9.1 htb9 (by omega) (by omega) M3 (by omega) Q3 q7)
        refine ne_if_eq (tgt := 41) X dX3_ninesOf_35 rfl (by omega) (fun b35 => ?_) (fun b35 => ?_)
        · refine ne_iconst X dX3_ninesOf_41 ?_
          refine ne_istore X dX3_ninesOf_42 (by decide) ?_
          refine ne_aload X dX3_ninesOf_44 rfl ?_
          refine ne_alen X dX3_ninesOf_46 rfl (by decide) ?_
          refine ne_iconst X dX3_ninesOf_47 ?_
          refine ne_isub X dX3_ninesOf_48 ?_
          refine ne_istore X dX3_ninesOf_49 (by decide) ?_
          refine ne_ll (L' := [some (.ref 0), some (ni _), some (ni _), some (.ref 7), some (.ref 8), some (ni _), some (ni _), some (ni _)]) rfl ?_
          exact lp51 _ _ 0 _ (Nat.lt_succ_self _) (by omega) (by omega) (by omega) (by omega) Ig (n9_cy0 (by omega)) (fun m hm => ⟨fun h9 => by omega, fun _ => q7 m hm⟩) (fun h9 => absurd (E32.mpr h9) (by omega))
        · refine ne_iload X dX3_ninesOf_38 rfl ?_
          refine ne_take 7 ?_
          refine ne_ws (ws' := mW c q t b k h vt) rfl ?_
          exact ne_iret X hr (by first | rfl | decide | rfl) dX3_ninesOf_40 ⟨rfl, _, rfl, by omega, L3, P3, Or.inr ⟨D3, Or.inl ⟨by omega, by omega, E32.mp (by omega), q8⟩⟩⟩
  refine ne_aload_n X dX3_ninesOf_0 rfl ?_
  refine ne_iload_n X dX3_ninesOf_1 rfl ?_
  refine ne_iload_n X dX3_ninesOf_2 rfl ?_
  refine ne_callV X nw_Tg (me_X3_sumOfZ l hl c q t b k h vt T (by exact ⟨Ic, Iq, It, Ib, Itb, Igb, Ik, Ih, Iv⟩) (by omega) _ _ (by omega) (by omega)) nw_yX3_sumOf nw_mX3_174 nw_iX3_sumOf nw_eX3_sumOf (ci := 5) rfl rfl rfl dX3_ninesOf_3 rfl rfl (by decide) (by decide) (by first | decide | omega) (by first | decide | omega) (Nat.le_of_ble_eq_true rfl) rfl rfl (Nat.le_of_ble_eq_true rfl) ?_ ?_
  rotate_left
  · rintro E9 w9 h9; exact h9.elim
  rintro v3 w3 (⟨rfl, rfl, L3, P3, D3⟩ | ⟨n3, r3, rfl, N3, R3, rfl, L3, P3, D3, M3, Q3⟩)
  · refine ne_astore_nN X dX3_ninesOf_6 rfl (by decide) ?_
    refine ne_aload_nN X dX3_ninesOf_7 rfl ?_
    refine ne_ifnonnullN X dX3_ninesOf_8 ?_
    refine ne_bipush (v := -9) (by decide) X dX3_ninesOf_11 ?_
    exact ne_iret X hr (by first | rfl | decide | rfl) dX3_ninesOf_13 ⟨rfl, _, rfl, by omega, L3, P3, Or.inl ⟨D3, rfl⟩⟩
  · refine ne_astore_n X dX3_ninesOf_6 rfl (by decide) ?_
    refine ne_aload_n X dX3_ninesOf_7 rfl ?_
    refine ne_ifnonnull (tgt := 14) X dX3_ninesOf_8 rfl ?_
    refine ne_aload_n X dX3_ninesOf_14 rfl ?_
    refine ne_alen X dX3_ninesOf_15 rfl (by decide) ?_
    refine ne_newa (t := 0) X dX3_ninesOf_16 (Or.inl ⟨rfl, rfl⟩) nw_Aint (by omega) (by omega) (by omega) (Nat.le_of_ble_eq_true rfl) rfl rfl rfl ?_
    refine ne_astore X dX3_ninesOf_18 (by decide) ?_
    refine ne_ll (L' := [some (.ref 0), some (ni _), some (ni _), some (.ref 7), some (.ref 8), none, none, none]) rfl ?_
    refine ne_iconst X dX3_ninesOf_20 ?_
    refine ne_istore X dX3_ninesOf_21 (by decide) ?_
    refine ne_less (C' := 0) (S' := 0) (by omega) (by omega) ?_
    have k7 : ∀ m : Nat, m < ((n3 : Int)).toNat → (fun _ => 0 : Nat → Int) m = n9_cd (n9_nn (L3.tdiv p) 0) (((n3 : Int)).toNat - 1 - m) := fun m hm => (n9_nn0 _ _).symm
    exact lp23 _ L3 _ _ _ _ 0 (Nat.lt_succ_self _) (by omega) (by omega) (by omega) (by omega) R3 hZ P3 D3 M3 Q3 k7 (fun f h1 h2 => by omega)
