section LAWS
variable {D : va_G} {ct : Nat → ClassId} {A : Nat → Prop} {p : Program} {l : Launch} {e : Env} {s9 : State} {m : MethodId} {args : Array Value} {below : List Frame} {meth : Method} {c9 : Code} {Q9 : State → Prop} {b9 N9 : Nat} {xs : Nat → Int32} {ad0 : Nat → Nat}
set_option maxRecDepth 100000 in
set_option maxHeartbeats 4000000 in
theorem lc_24 (hl : l.stackTraces = false) (X : ne_F nw_cl D ct A p l room_1 s9 m args meth c9 RL cL_law 7 nw_T 20 1000 600128 7301098) (hX : va_X b9 N9 xs s9 s9.heap) (hbl : b9 < s9.heap.size) (hbA : ¬ A b9) (hb0 : ad0 0 = b9) (i T : Int) (hi : 0 ≤ i ∧ i + 6 ≤ N9 ∧ N9 ≤ 384) (hT : 0 ≤ T ∧ T ≤ 100) (c q t b k n h x y  : Nat → Int) (mv9 u : Int) (sv : Value) (hI : cI c q t b k n h x y T) (hM : mI c q t b k h mv9 T) (hP : ∀ j : Nat, ne_per (t j) (b j) (n j)) (hs : sv = .null ∨ sv = .ref 21) (C S : Nat) (hC : 500 ≤ C) (hS : 3500 ≤ S) (kk : ∀ (c q t b k n h x y  : Nat → Int) (mv9 u : Int) (sv : Value), cI c q t b k n h x y (T + 1) → mI c q t b k h mv9 (T + 1) → (∀ j : Nat, ne_per (t j) (b j) (n j)) → (sv = .null ∨ sv = .ref 21) → ne_G nw_cl D ct A 1 ad0 p l e room_1 s9 m args below meth c9 Q9 7 600128 7301098 (C - 500) (S - 3500) 2324 [some (.ref 0), some (.ref 1), some (.ref 13), some (.ref 20), some (ni i), none, none] [] (lW c q t b k n h x y c q t b k h mv9 (nl u) sv)) : ne_G nw_cl D ct A 1 ad0 p l e room_1 s9 m args below meth c9 Q9 7 600128 7301098 C S 1412 [some (.ref 0), some (.ref 1), some (.ref 13), some (.ref 20), some (ni i), none, none] [] (lW c q t b k n h x y c q t b k h mv9 (nl u) sv) := by
  rcases hs with rfl | rfl
  · refine ne_aload_n X dL_law_1412 rfl ?_
    refine ne_aload_n X dL_law_1413 rfl ?_
    refine ne_iload X dL_law_1414 rfl ?_
    refine ne_iconst X dL_law_1416 ?_
    refine ne_iadd X dL_law_1417 ?_
    refine ne_sld X hX hbl hbA hb0 (by decide) (by omega) dL_law_1418 (fun z1418 e1418 l1418 r1418 => ?_)
    refine ne_aload_n X dL_law_1419 rfl ?_
    refine ne_iload X dL_law_1420 rfl ?_
    refine ne_iconst X dL_law_1422 ?_
    refine ne_iadd X dL_law_1423 ?_
    refine ne_sld X hX hbl hbA hb0 (by decide) (by omega) dL_law_1424 (fun z1424 e1424 l1424 r1424 => ?_)
    refine ne_aload_n X dL_law_1425 rfl ?_
    refine ne_callSFW (is := [1, 2, 3, 4, 5, 6, 7, 8, 9, 10, 11, 12, 20, 21]) X nw_Tg (me_L_text l hl c q t b k n h x y T hI (by omega) u .null (Or.inl rfl) _ _ (by omega) (by omega)) nw_yL_text nw_mL_252 nw_sL_text dL_law_1426 rfl rfl (by decide) (by decide) (by first | decide | omega) (by first | decide | omega) (Nat.le_of_ble_eq_true rfl) rfl rfl rfl (Nat.le_of_ble_eq_true rfl) (lw_pt1 (s := .null)) ?_ ?_
    rotate_left
    · rintro E9 w9 h9; exact h9.elim
    rintro v1426 w1426 ⟨x1, y1, u1, s1, rfl, hI1, hs1, z1426, rfl⟩
    rcases hs1 with rfl | rfl
    · refine ne_take 22 ?_
      refine ne_ws lw_tkN ?_
      refine ne_istore X dL_law_1429 (by decide) ?_
      refine ne_aload_n X dL_law_1431 rfl ?_
      refine ne_aload_n X dL_law_1432 rfl ?_
      refine ne_iload X dL_law_1433 rfl ?_
      refine ne_iconst X dL_law_1435 ?_
      refine ne_iadd X dL_law_1436 ?_
      refine ne_sld X hX hbl hbA hb0 (by decide) (by omega) dL_law_1437 (fun z1437 e1437 l1437 r1437 => ?_)
      have y1437 : z1418 = z1437 := e1418.trans e1437.symm
      subst y1437
      refine ne_aload_n X dL_law_1438 rfl ?_
      refine ne_iload X dL_law_1439 rfl ?_
      refine ne_iconst X dL_law_1441 ?_
      refine ne_iadd X dL_law_1442 ?_
      refine ne_sld X hX hbl hbA hb0 (by decide) (by omega) dL_law_1443 (fun z1443 e1443 l1443 r1443 => ?_)
      have y1443 : z1424 = z1443 := e1424.trans e1443.symm
      subst y1443
      refine ne_callVF (is := [13, 14, 15, 16, 17, 18, 19]) X nw_Tg (me_X3_text l hl c q t b k h mv9 T hM (by omega) _ _ (by omega) (by omega)) nw_yX3_text nw_mL_254 nw_iX3_text nw_eX3_text (ci := 5) rfl rfl rfl dL_law_1444 rfl rfl (by decide) (by decide) (by first | decide | omega) (by first | decide | omega) (Nat.le_of_ble_eq_true rfl) rfl rfl rfl (Nat.le_of_ble_eq_true rfl) lw_pt2 ?_ ?_
      rotate_left
      · rintro E9 w9 h9; exact h9.elim
      rintro v1444 w1444 ⟨⟨mv91, rfl, hM1⟩, rfl⟩
      refine ne_ws lw_mg4 ?_
      refine ne_astore X dL_law_1447 (by decide) ?_
      refine ne_ll (L' := [some (.ref 0), some (.ref 1), some (.ref 13), some (.ref 20), some (ni _), some (ni _), some (.ref 22)]) rfl ?_
      refine ne_goto (tgt := 2324) X dL_law_1449 rfl ?_
      refine ne_lnone 5 (ne_lnone 6 ?_)
      refine ne_ll (L' := [some (.ref 0), some (.ref 1), some (.ref 13), some (.ref 20), some (ni i), none, none]) rfl ?_
      refine ne_take 22 ?_
      refine ne_ws lw_tk2 ?_
      refine ne_less (C' := C - 500) (S' := S - 3500) (by omega) (by omega) ?_
      exact kk _ _ _ _ _ _ _ _ _ _ _ _ hI1 hM1 hP (Or.inl rfl)
    · refine ne_viewb [0, 1, 2, 3, 4, 5, 6, 7, 8, 9, 10, 11, 12, 13, 14, 15, 16, 17, 18, 19, 20, 22] (ws' := lW c q t b k n h x1 y1 c q t b k h mv9 (nl u1) (.ref 21)) (L' := [some (.ref 0), some (.ref 1), some (.ref 13), some (.ref 20), some (ni i), none, none]) (st' := [ni z1426]) lw_vw (by decide) lw_vl rfl rfl rfl ?_
      refine ne_istore X dL_law_1429 (by decide) ?_
      refine ne_aload_n X dL_law_1431 rfl ?_
      refine ne_aload_n X dL_law_1432 rfl ?_
      refine ne_iload X dL_law_1433 rfl ?_
      refine ne_iconst X dL_law_1435 ?_
      refine ne_iadd X dL_law_1436 ?_
      refine ne_sld X hX hbl hbA hb0 (by decide) (by omega) dL_law_1437 (fun z1437 e1437 l1437 r1437 => ?_)
      have y1437 : z1418 = z1437 := e1418.trans e1437.symm
      subst y1437
      refine ne_aload_n X dL_law_1438 rfl ?_
      refine ne_iload X dL_law_1439 rfl ?_
      refine ne_iconst X dL_law_1441 ?_
      refine ne_iadd X dL_law_1442 ?_
      refine ne_sld X hX hbl hbA hb0 (by decide) (by omega) dL_law_1443 (fun z1443 e1443 l1443 r1443 => ?_)
      have y1443 : z1424 = z1443 := e1424.trans e1443.symm
      subst y1443
      refine ne_callVF (is := [13, 14, 15, 16, 17, 18, 19]) X nw_Tg (me_X3_text l hl c q t b k h mv9 T hM (by omega) _ _ (by omega) (by omega)) nw_yX3_text nw_mL_254 nw_iX3_text nw_eX3_text (ci := 5) rfl rfl rfl dL_law_1444 rfl rfl (by decide) (by decide) (by first | decide | omega) (by first | decide | omega) (Nat.le_of_ble_eq_true rfl) rfl rfl rfl (Nat.le_of_ble_eq_true rfl) lw_pt2 ?_ ?_
      rotate_left
      · rintro E9 w9 h9; exact h9.elim
      rintro v1444 w1444 ⟨⟨mv91, rfl, hM1⟩, rfl⟩
      refine ne_ws lw_mg4 ?_
      refine ne_astore X dL_law_1447 (by decide) ?_
      refine ne_ll (L' := [some (.ref 0), some (.ref 1), some (.ref 13), some (.ref 20), some (ni _), some (ni _), some (.ref 22)]) rfl ?_
      refine ne_goto (tgt := 2324) X dL_law_1449 rfl ?_
      refine ne_lnone 5 (ne_lnone 6 ?_)
      refine ne_ll (L' := [some (.ref 0), some (.ref 1), some (.ref 13), some (.ref 20), some (ni i), none, none]) rfl ?_
      refine ne_take 22 ?_
      refine ne_ws lw_tk2 ?_
      refine ne_less (C' := C - 500) (S' := S - 3500) (by omega) (by omega) ?_
      exact kk _ _ _ _ _ _ _ _ _ _ _ _ hI1 hM1 hP (Or.inr rfl)
  · refine ne_aload_n X dL_law_1412 rfl ?_
    refine ne_aload_n X dL_law_1413 rfl ?_
    refine ne_iload X dL_law_1414 rfl ?_
    refine ne_iconst X dL_law_1416 ?_
    refine ne_iadd X dL_law_1417 ?_
    refine ne_sld X hX hbl hbA hb0 (by decide) (by omega) dL_law_1418 (fun z1418 e1418 l1418 r1418 => ?_)
    refine ne_aload_n X dL_law_1419 rfl ?_
    refine ne_iload X dL_law_1420 rfl ?_
    refine ne_iconst X dL_law_1422 ?_
    refine ne_iadd X dL_law_1423 ?_
    refine ne_sld X hX hbl hbA hb0 (by decide) (by omega) dL_law_1424 (fun z1424 e1424 l1424 r1424 => ?_)
    refine ne_aload_n X dL_law_1425 rfl ?_
    refine ne_callSFW (is := [1, 2, 3, 4, 5, 6, 7, 8, 9, 10, 11, 12, 20, 21]) X nw_Tg (me_L_text l hl c q t b k n h x y T hI (by omega) u (.ref 13) (Or.inr rfl) _ _ (by omega) (by omega)) nw_yL_text nw_mL_252 nw_sL_text dL_law_1426 rfl rfl (by decide) (by decide) (by first | decide | omega) (by first | decide | omega) (Nat.le_of_ble_eq_true rfl) rfl rfl rfl (Nat.le_of_ble_eq_true rfl) (lw_pt1 (s := .ref 13)) ?_ ?_
    rotate_left
    · rintro E9 w9 h9; exact h9.elim
    rintro v1426 w1426 ⟨x1, y1, u1, s1, rfl, hI1, hs1, z1426, rfl⟩
    rcases hs1 with rfl | rfl
    · refine ne_take 22 ?_
      refine ne_ws lw_tkR ?_
      refine ne_istore X dL_law_1429 (by decide) ?_
      refine ne_aload_n X dL_law_1431 rfl ?_
      refine ne_aload_n X dL_law_1432 rfl ?_
      refine ne_iload X dL_law_1433 rfl ?_
      refine ne_iconst X dL_law_1435 ?_
      refine ne_iadd X dL_law_1436 ?_
      refine ne_sld X hX hbl hbA hb0 (by decide) (by omega) dL_law_1437 (fun z1437 e1437 l1437 r1437 => ?_)
      have y1437 : z1418 = z1437 := e1418.trans e1437.symm
      subst y1437
      refine ne_aload_n X dL_law_1438 rfl ?_
      refine ne_iload X dL_law_1439 rfl ?_
      refine ne_iconst X dL_law_1441 ?_
      refine ne_iadd X dL_law_1442 ?_
      refine ne_sld X hX hbl hbA hb0 (by decide) (by omega) dL_law_1443 (fun z1443 e1443 l1443 r1443 => ?_)
      have y1443 : z1424 = z1443 := e1424.trans e1443.symm
      subst y1443
      refine ne_callVF (is := [13, 14, 15, 16, 17, 18, 19]) X nw_Tg (me_X3_text l hl c q t b k h mv9 T hM (by omega) _ _ (by omega) (by omega)) nw_yX3_text nw_mL_254 nw_iX3_text nw_eX3_text (ci := 5) rfl rfl rfl dL_law_1444 rfl rfl (by decide) (by decide) (by first | decide | omega) (by first | decide | omega) (Nat.le_of_ble_eq_true rfl) rfl rfl rfl (Nat.le_of_ble_eq_true rfl) lw_pt2 ?_ ?_
      rotate_left
      · rintro E9 w9 h9; exact h9.elim
      rintro v1444 w1444 ⟨⟨mv91, rfl, hM1⟩, rfl⟩
      refine ne_ws lw_mg4 ?_
      refine ne_astore X dL_law_1447 (by decide) ?_
      refine ne_ll (L' := [some (.ref 0), some (.ref 1), some (.ref 13), some (.ref 20), some (ni _), some (ni _), some (.ref 22)]) rfl ?_
      refine ne_goto (tgt := 2324) X dL_law_1449 rfl ?_
      refine ne_lnone 5 (ne_lnone 6 ?_)
      refine ne_ll (L' := [some (.ref 0), some (.ref 1), some (.ref 13), some (.ref 20), some (ni i), none, none]) rfl ?_
      refine ne_take 22 ?_
      refine ne_ws lw_tk2 ?_
      refine ne_less (C' := C - 500) (S' := S - 3500) (by omega) (by omega) ?_
      exact kk _ _ _ _ _ _ _ _ _ _ _ _ hI1 hM1 hP (Or.inr rfl)
    · refine ne_viewb [0, 1, 2, 3, 4, 5, 6, 7, 8, 9, 10, 11, 12, 13, 14, 15, 16, 17, 18, 19, 20, 22] (ws' := lW c q t b k n h x1 y1 c q t b k h mv9 (nl u1) (.ref 21)) (L' := [some (.ref 0), some (.ref 1), some (.ref 13), some (.ref 20), some (ni i), none, none]) (st' := [ni z1426]) lw_vw (by decide) lw_vl rfl rfl rfl ?_
      refine ne_istore X dL_law_1429 (by decide) ?_
      refine ne_aload_n X dL_law_1431 rfl ?_
      refine ne_aload_n X dL_law_1432 rfl ?_
      refine ne_iload X dL_law_1433 rfl ?_
      refine ne_iconst X dL_law_1435 ?_
      refine ne_iadd X dL_law_1436 ?_
      refine ne_sld X hX hbl hbA hb0 (by decide) (by omega) dL_law_1437 (fun z1437 e1437 l1437 r1437 => ?_)
      have y1437 : z1418 = z1437 := e1418.trans e1437.symm
      subst y1437
      refine ne_aload_n X dL_law_1438 rfl ?_
      refine ne_iload X dL_law_1439 rfl ?_
      refine ne_iconst X dL_law_1441 ?_
      refine ne_iadd X dL_law_1442 ?_
      refine ne_sld X hX hbl hbA hb0 (by decide) (by omega) dL_law_1443 (fun z1443 e1443 l1443 r1443 => ?_)
      have y1443 : z1424 = z1443 := e1424.trans e1443.symm
      subst y1443
      refine ne_callVF (is := [13, 14, 15, 16, 17, 18, 19]) X nw_Tg (me_X3_text l hl c q t b k h mv9 T hM (by omega) _ _ (by omega) (by omega)) nw_yX3_text nw_mL_254 nw_iX3_text nw_eX3_text (ci := 5) rfl rfl rfl dL_law_1444 rfl rfl (by decide) (by decide) (by first | decide | omega) (by first | decide | omega) (Nat.le_of_ble_eq_true rfl) rfl rfl rfl (Nat.le_of_ble_eq_true rfl) lw_pt2 ?_ ?_
      rotate_left
      · rintro E9 w9 h9; exact h9.elim
      rintro v1444 w1444 ⟨⟨mv91, rfl, hM1⟩, rfl⟩
      refine ne_ws lw_mg4 ?_
      refine ne_astore X dL_law_1447 (by decide) ?_
      refine ne_ll (L' := [some (.ref 0), some (.ref 1), some (.ref 13), some (.ref 20), some (ni _), some (ni _), some (.ref 22)]) rfl ?_
      refine ne_goto (tgt := 2324) X dL_law_1449 rfl ?_
      refine ne_lnone 5 (ne_lnone 6 ?_)
      refine ne_ll (L' := [some (.ref 0), some (.ref 1), some (.ref 13), some (.ref 20), some (ni i), none, none]) rfl ?_
      refine ne_take 22 ?_
      refine ne_ws lw_tk2 ?_
      refine ne_less (C' := C - 500) (S' := S - 3500) (by omega) (by omega) ?_
      exact kk _ _ _ _ _ _ _ _ _ _ _ _ hI1 hM1 hP (Or.inr rfl)
set_option maxRecDepth 100000 in
set_option maxHeartbeats 4000000 in
theorem lc_25 (hl : l.stackTraces = false) (X : ne_F nw_cl D ct A p l room_1 s9 m args meth c9 RL cL_law 7 nw_T 20 1000 600128 7301098) (hX : va_X b9 N9 xs s9 s9.heap) (hbl : b9 < s9.heap.size) (hbA : ¬ A b9) (hb0 : ad0 0 = b9) (i T : Int) (hi : 0 ≤ i ∧ i + 6 ≤ N9 ∧ N9 ≤ 384) (hT : 0 ≤ T ∧ T ≤ 100) (c q t b k n h x y  : Nat → Int) (mv9 u : Int) (sv : Value) (hI : cI c q t b k n h x y T) (hM : mI c q t b k h mv9 T) (hP : ∀ j : Nat, ne_per (t j) (b j) (n j)) (hs : sv = .null ∨ sv = .ref 21) (C S : Nat) (hC : 500 ≤ C) (hS : 3500 ≤ S) (kk : ∀ (c q t b k n h x y  : Nat → Int) (mv9 u : Int) (sv : Value), cI c q t b k n h x y (T + 1) → mI c q t b k h mv9 (T + 1) → (∀ j : Nat, ne_per (t j) (b j) (n j)) → (sv = .null ∨ sv = .ref 21) → ne_G nw_cl D ct A 1 ad0 p l e room_1 s9 m args below meth c9 Q9 7 600128 7301098 (C - 500) (S - 3500) 2324 [some (.ref 0), some (.ref 1), some (.ref 13), some (.ref 20), some (ni i), none, none] [] (lW c q t b k n h x y c q t b k h mv9 (nl u) sv)) : ne_G nw_cl D ct A 1 ad0 p l e room_1 s9 m args below meth c9 Q9 7 600128 7301098 C S 1452 [some (.ref 0), some (.ref 1), some (.ref 13), some (.ref 20), some (ni i), none, none] [] (lW c q t b k n h x y c q t b k h mv9 (nl u) sv) := by
  obtain ⟨s8, hs8, rfl⟩ : ∃ s8 : Value, (s8 = .null ∨ s8 = .ref 13) ∧ sv = ne_rn [1, 2, 3, 4, 5, 6, 7, 8, 9, 10, 11, 12, 20, 21] 22 s8 := by
    rcases hs with rfl | rfl
    · exact ⟨.null, Or.inl rfl, rfl⟩
    · exact ⟨.ref 13, Or.inr rfl, rfl⟩
  have hcw : ∀ (c q t b k n h x y mc9 mq9 mt9 mb9 mk9 mh9 : Nat → Int) (mv9 u : Int), ne_cw 22 (lW c q t b k n h x y mc9 mq9 mt9 mb9 mk9 mh9 mv9 (nl u) (ne_rn [1, 2, 3, 4, 5, 6, 7, 8, 9, 10, 11, 12, 20, 21] 22 s8)) = true := by
    intros
    rcases hs8 with rfl | rfl <;> rfl
  refine ne_aload_n X dL_law_1452 rfl ?_
  refine ne_aload_n X dL_law_1453 rfl ?_
  refine ne_iload X dL_law_1454 rfl ?_
  refine ne_iconst X dL_law_1456 ?_
  refine ne_iadd X dL_law_1457 ?_
  refine ne_sld X hX hbl hbA hb0 (by decide) (by omega) dL_law_1458 (fun z1458 e1458 l1458 r1458 => ?_)
  refine ne_aload_n X dL_law_1459 rfl ?_
  refine ne_iload X dL_law_1460 rfl ?_
  refine ne_iconst X dL_law_1462 ?_
  refine ne_iadd X dL_law_1463 ?_
  refine ne_sld X hX hbl hbA hb0 (by decide) (by omega) dL_law_1464 (fun z1464 e1464 l1464 r1464 => ?_)
  refine ne_aload_n X dL_law_1465 rfl ?_
  refine ne_callSFW (is := [1, 2, 3, 4, 5, 6, 7, 8, 9, 10, 11, 12, 20, 21]) X nw_Tg (me_L_order l hl c q t b k n h x y T hI (by omega) u s8 hs8 _ _ (by omega) (by omega)) nw_yL_order nw_mL_255 nw_sL_order dL_law_1466 rfl rfl (by decide) (by decide) (by first | decide | omega) (by first | decide | omega) (Nat.le_of_ble_eq_true rfl) (hcw _ _ _ _ _ _ _ _ _ _ _ _ _ _ _ _ _) rfl rfl (Nat.le_of_ble_eq_true rfl) lw_pt1 ?_ ?_
  rotate_left
  · rintro E9 w9 h9; exact h9.elim
  rintro v1466 w1466 ⟨x1, y1, u1, rfl, hI1, z1466, rfl⟩
  refine ne_ws lw_mg1 ?_
  refine ne_istore X dL_law_1469 (by decide) ?_
  refine ne_aload_n X dL_law_1471 rfl ?_
  refine ne_aload_n X dL_law_1472 rfl ?_
  refine ne_iload X dL_law_1473 rfl ?_
  refine ne_iconst X dL_law_1475 ?_
  refine ne_iadd X dL_law_1476 ?_
  refine ne_sld X hX hbl hbA hb0 (by decide) (by omega) dL_law_1477 (fun z1477 e1477 l1477 r1477 => ?_)
  have y1477 : z1458 = z1477 := e1458.trans e1477.symm
  subst y1477
  refine ne_aload_n X dL_law_1478 rfl ?_
  refine ne_iload X dL_law_1479 rfl ?_
  refine ne_iconst X dL_law_1481 ?_
  refine ne_iadd X dL_law_1482 ?_
  refine ne_sld X hX hbl hbA hb0 (by decide) (by omega) dL_law_1483 (fun z1483 e1483 l1483 r1483 => ?_)
  have y1483 : z1464 = z1483 := e1464.trans e1483.symm
  subst y1483
  refine ne_callVF (is := [13, 14, 15, 16, 17, 18, 19]) X nw_Tg (me_X3_order l hl c q t b k h mv9 T hM (by omega) _ _ (by omega) (by omega)) nw_yX3_order nw_mL_257 nw_iX3_order nw_eX3_order (ci := 5) rfl rfl rfl dL_law_1484 rfl rfl (by decide) (by decide) (by first | decide | omega) (by first | decide | omega) (Nat.le_of_ble_eq_true rfl) (hcw _ _ _ _ _ _ _ _ _ _ _ _ _ _ _ _ _) rfl rfl (Nat.le_of_ble_eq_true rfl) lw_pt2 ?_ ?_
  rotate_left
  · rintro E9 w9 h9; exact h9.elim
  rintro v1484 w1484 ⟨⟨mv91, rfl, hM1⟩, z1484, rfl, g1484⟩
  refine ne_ws lw_mg2 ?_
  refine ne_istore X dL_law_1487 (by decide) ?_
  refine ne_ll (L' := [some (.ref 0), some (.ref 1), some (.ref 13), some (.ref 20), some (ni _), some (ni _), some (ni _)]) rfl ?_
  refine ne_goto (tgt := 2324) X dL_law_1489 rfl ?_
  refine ne_lnone 5 (ne_lnone 6 ?_)
  refine ne_ll (L' := [some (.ref 0), some (.ref 1), some (.ref 13), some (.ref 20), some (ni i), none, none]) rfl ?_
  refine ne_less (C' := C - 500) (S' := S - 3500) (by omega) (by omega) ?_
  exact kk _ _ _ _ _ _ _ _ _ _ _ _ hI1 hM1 hP hs
set_option maxRecDepth 100000 in
set_option maxHeartbeats 4000000 in
theorem lc_26 (hl : l.stackTraces = false) (X : ne_F nw_cl D ct A p l room_1 s9 m args meth c9 RL cL_law 7 nw_T 20 1000 600128 7301098) (hX : va_X b9 N9 xs s9 s9.heap) (hbl : b9 < s9.heap.size) (hbA : ¬ A b9) (hb0 : ad0 0 = b9) (i T : Int) (hi : 0 ≤ i ∧ i + 6 ≤ N9 ∧ N9 ≤ 384) (hT : 0 ≤ T ∧ T ≤ 100) (c q t b k n h x y  : Nat → Int) (mv9 u : Int) (sv : Value) (hI : cI c q t b k n h x y T) (hM : mI c q t b k h mv9 T) (hP : ∀ j : Nat, ne_per (t j) (b j) (n j)) (hs : sv = .null ∨ sv = .ref 21) (C S : Nat) (hC : 500 ≤ C) (hS : 3500 ≤ S) (kk : ∀ (c q t b k n h x y  : Nat → Int) (mv9 u : Int) (sv : Value), cI c q t b k n h x y (T + 1) → mI c q t b k h mv9 (T + 1) → (∀ j : Nat, ne_per (t j) (b j) (n j)) → (sv = .null ∨ sv = .ref 21) → ne_G nw_cl D ct A 1 ad0 p l e room_1 s9 m args below meth c9 Q9 7 600128 7301098 (C - 500) (S - 3500) 2324 [some (.ref 0), some (.ref 1), some (.ref 13), some (.ref 20), some (ni i), none, none] [] (lW c q t b k n h x y c q t b k h mv9 (nl u) sv)) : ne_G nw_cl D ct A 1 ad0 p l e room_1 s9 m args below meth c9 Q9 7 600128 7301098 C S 1492 [some (.ref 0), some (.ref 1), some (.ref 13), some (.ref 20), some (ni i), none, none] [] (lW c q t b k n h x y c q t b k h mv9 (nl u) sv) := by
  obtain ⟨s8, hs8, rfl⟩ : ∃ s8 : Value, (s8 = .null ∨ s8 = .ref 13) ∧ sv = ne_rn [1, 2, 3, 4, 5, 6, 7, 8, 9, 10, 11, 12, 20, 21] 22 s8 := by
    rcases hs with rfl | rfl
    · exact ⟨.null, Or.inl rfl, rfl⟩
    · exact ⟨.ref 13, Or.inr rfl, rfl⟩
  have hcw : ∀ (c q t b k n h x y mc9 mq9 mt9 mb9 mk9 mh9 : Nat → Int) (mv9 u : Int), ne_cw 22 (lW c q t b k n h x y mc9 mq9 mt9 mb9 mk9 mh9 mv9 (nl u) (ne_rn [1, 2, 3, 4, 5, 6, 7, 8, 9, 10, 11, 12, 20, 21] 22 s8)) = true := by
    intros
    rcases hs8 with rfl | rfl <;> rfl
  refine ne_aload_n X dL_law_1492 rfl ?_
  refine ne_aload_n X dL_law_1493 rfl ?_
  refine ne_iload X dL_law_1494 rfl ?_
  refine ne_iconst X dL_law_1496 ?_
  refine ne_iadd X dL_law_1497 ?_
  refine ne_sld X hX hbl hbA hb0 (by decide) (by omega) dL_law_1498 (fun z1498 e1498 l1498 r1498 => ?_)
  refine ne_aload_n X dL_law_1499 rfl ?_
  refine ne_iload X dL_law_1500 rfl ?_
  refine ne_iconst X dL_law_1502 ?_
  refine ne_iadd X dL_law_1503 ?_
  refine ne_sld X hX hbl hbA hb0 (by decide) (by omega) dL_law_1504 (fun z1504 e1504 l1504 r1504 => ?_)
  refine ne_aload_n X dL_law_1505 rfl ?_
  refine ne_callSFW (is := [1, 2, 3, 4, 5, 6, 7, 8, 9, 10, 11, 12, 20, 21]) X nw_Tg (me_L_same l hl c q t b k n h x y T hI (by omega) u s8 hs8 _ _ (by omega) (by omega)) nw_yL_same nw_mL_258 nw_sL_same dL_law_1506 rfl rfl (by decide) (by decide) (by first | decide | omega) (by first | decide | omega) (Nat.le_of_ble_eq_true rfl) (hcw _ _ _ _ _ _ _ _ _ _ _ _ _ _ _ _ _) rfl rfl (Nat.le_of_ble_eq_true rfl) lw_pt1 ?_ ?_
  rotate_left
  · rintro E9 w9 h9; exact h9.elim
  rintro v1506 w1506 ⟨x1, y1, u1, rfl, hI1, z1506, rfl⟩
  refine ne_ws lw_mg1 ?_
  refine ne_istore X dL_law_1509 (by decide) ?_
  refine ne_aload_n X dL_law_1511 rfl ?_
  refine ne_aload_n X dL_law_1512 rfl ?_
  refine ne_iload X dL_law_1513 rfl ?_
  refine ne_iconst X dL_law_1515 ?_
  refine ne_iadd X dL_law_1516 ?_
  refine ne_sld X hX hbl hbA hb0 (by decide) (by omega) dL_law_1517 (fun z1517 e1517 l1517 r1517 => ?_)
  have y1517 : z1498 = z1517 := e1498.trans e1517.symm
  subst y1517
  refine ne_aload_n X dL_law_1518 rfl ?_
  refine ne_iload X dL_law_1519 rfl ?_
  refine ne_iconst X dL_law_1521 ?_
  refine ne_iadd X dL_law_1522 ?_
  refine ne_sld X hX hbl hbA hb0 (by decide) (by omega) dL_law_1523 (fun z1523 e1523 l1523 r1523 => ?_)
  have y1523 : z1504 = z1523 := e1504.trans e1523.symm
  subst y1523
  refine ne_callVF (is := [13, 14, 15, 16, 17, 18, 19]) X nw_Tg (me_X3_same l hl c q t b k h mv9 T hM (by omega) _ _ (by omega) (by omega)) nw_yX3_same nw_mL_260 nw_iX3_same nw_eX3_same (ci := 5) rfl rfl rfl dL_law_1524 rfl rfl (by decide) (by decide) (by first | decide | omega) (by first | decide | omega) (Nat.le_of_ble_eq_true rfl) (hcw _ _ _ _ _ _ _ _ _ _ _ _ _ _ _ _ _) rfl rfl (Nat.le_of_ble_eq_true rfl) lw_pt2 ?_ ?_
  rotate_left
  · rintro E9 w9 h9; exact h9.elim
  rintro v1524 w1524 ⟨⟨mv91, rfl, hM1⟩, z1524, rfl, g1524⟩
  refine ne_ws lw_mg2 ?_
  refine ne_istore X dL_law_1527 (by decide) ?_
  refine ne_ll (L' := [some (.ref 0), some (.ref 1), some (.ref 13), some (.ref 20), some (ni _), some (ni _), some (ni _)]) rfl ?_
  refine ne_goto (tgt := 2324) X dL_law_1529 rfl ?_
  refine ne_lnone 5 (ne_lnone 6 ?_)
  refine ne_ll (L' := [some (.ref 0), some (.ref 1), some (.ref 13), some (.ref 20), some (ni i), none, none]) rfl ?_
  refine ne_less (C' := C - 500) (S' := S - 3500) (by omega) (by omega) ?_
  exact kk _ _ _ _ _ _ _ _ _ _ _ _ hI1 hM1 hP hs
set_option maxRecDepth 100000 in
set_option maxHeartbeats 4000000 in
theorem lc_27 (hl : l.stackTraces = false) (X : ne_F nw_cl D ct A p l room_1 s9 m args meth c9 RL cL_law 7 nw_T 20 1000 600128 7301098) (hX : va_X b9 N9 xs s9 s9.heap) (hbl : b9 < s9.heap.size) (hbA : ¬ A b9) (hb0 : ad0 0 = b9) (i T : Int) (hi : 0 ≤ i ∧ i + 6 ≤ N9 ∧ N9 ≤ 384) (hT : 0 ≤ T ∧ T ≤ 100) (c q t b k n h x y  : Nat → Int) (mv9 u : Int) (sv : Value) (hI : cI c q t b k n h x y T) (hM : mI c q t b k h mv9 T) (hP : ∀ j : Nat, ne_per (t j) (b j) (n j)) (hs : sv = .null ∨ sv = .ref 21) (C S : Nat) (hC : 500 ≤ C) (hS : 3500 ≤ S) (kk : ∀ (c q t b k n h x y  : Nat → Int) (mv9 u : Int) (sv : Value), cI c q t b k n h x y (T + 1) → mI c q t b k h mv9 (T + 1) → (∀ j : Nat, ne_per (t j) (b j) (n j)) → (sv = .null ∨ sv = .ref 21) → ne_G nw_cl D ct A 1 ad0 p l e room_1 s9 m args below meth c9 Q9 7 600128 7301098 (C - 500) (S - 3500) 2324 [some (.ref 0), some (.ref 1), some (.ref 13), some (.ref 20), some (ni i), none, none] [] (lW c q t b k n h x y c q t b k h mv9 (nl u) sv)) : ne_G nw_cl D ct A 1 ad0 p l e room_1 s9 m args below meth c9 Q9 7 600128 7301098 C S 1532 [some (.ref 0), some (.ref 1), some (.ref 13), some (.ref 20), some (ni i), none, none] [] (lW c q t b k n h x y c q t b k h mv9 (nl u) sv) := by
  obtain ⟨s8, hs8, rfl⟩ : ∃ s8 : Value, (s8 = .null ∨ s8 = .ref 13) ∧ sv = ne_rn [1, 2, 3, 4, 5, 6, 7, 8, 9, 10, 11, 12, 20, 21] 22 s8 := by
    rcases hs with rfl | rfl
    · exact ⟨.null, Or.inl rfl, rfl⟩
    · exact ⟨.ref 13, Or.inr rfl, rfl⟩
  have hcw : ∀ (c q t b k n h x y mc9 mq9 mt9 mb9 mk9 mh9 : Nat → Int) (mv9 u : Int), ne_cw 22 (lW c q t b k n h x y mc9 mq9 mt9 mb9 mk9 mh9 mv9 (nl u) (ne_rn [1, 2, 3, 4, 5, 6, 7, 8, 9, 10, 11, 12, 20, 21] 22 s8)) = true := by
    intros
    rcases hs8 with rfl | rfl <;> rfl
  refine ne_aload_n X dL_law_1532 rfl ?_
  refine ne_aload_n X dL_law_1533 rfl ?_
  refine ne_iload X dL_law_1534 rfl ?_
  refine ne_iconst X dL_law_1536 ?_
  refine ne_iadd X dL_law_1537 ?_
  refine ne_sld X hX hbl hbA hb0 (by decide) (by omega) dL_law_1538 (fun z1538 e1538 l1538 r1538 => ?_)
  refine ne_aload_n X dL_law_1539 rfl ?_
  refine ne_iload X dL_law_1540 rfl ?_
  refine ne_iconst X dL_law_1542 ?_
  refine ne_iadd X dL_law_1543 ?_
  refine ne_sld X hX hbl hbA hb0 (by decide) (by omega) dL_law_1544 (fun z1544 e1544 l1544 r1544 => ?_)
  refine ne_aload_n X dL_law_1545 rfl ?_
  refine ne_iload X dL_law_1546 rfl ?_
  refine ne_iconst X dL_law_1548 ?_
  refine ne_iadd X dL_law_1549 ?_
  refine ne_sld X hX hbl hbA hb0 (by decide) (by omega) dL_law_1550 (fun z1550 e1550 l1550 r1550 => ?_)
  refine ne_aload_n X dL_law_1551 rfl ?_
  refine ne_callSFW (is := [1, 2, 3, 4, 5, 6, 7, 8, 9, 10, 11, 12, 20, 21]) X nw_Tg (me_L_setWheel l hl c q t b k n h x y T hI (by omega) u s8 hs8 _ _ _ (by omega) (by omega) (by omega)) nw_yL_setWheel nw_mL_261 nw_sL_setWheel dL_law_1552 rfl rfl (by decide) (by decide) (by first | decide | omega) (by first | decide | omega) (Nat.le_of_ble_eq_true rfl) (hcw _ _ _ _ _ _ _ _ _ _ _ _ _ _ _ _ _) rfl rfl (Nat.le_of_ble_eq_true rfl) lw_pt1 ?_ ?_
  rotate_left
  · rintro E9 w9 h9; exact h9.elim
  rintro v1552 w1552 ⟨t1, b1, k1, n1, h1, u1, rfl, hI1, z1552, rfl, g1552⟩
  refine ne_ws lw_mg1 ?_
  refine ne_istore X dL_law_1555 (by decide) ?_
  refine ne_aload_n X dL_law_1557 rfl ?_
  refine ne_aload_n X dL_law_1558 rfl ?_
  refine ne_iload X dL_law_1559 rfl ?_
  refine ne_iconst X dL_law_1561 ?_
  refine ne_iadd X dL_law_1562 ?_
  refine ne_sld X hX hbl hbA hb0 (by decide) (by omega) dL_law_1563 (fun z1563 e1563 l1563 r1563 => ?_)
  have y1563 : z1538 = z1563 := e1538.trans e1563.symm
  subst y1563
  refine ne_aload_n X dL_law_1564 rfl ?_
  refine ne_iload X dL_law_1565 rfl ?_
  refine ne_iconst X dL_law_1567 ?_
  refine ne_iadd X dL_law_1568 ?_
  refine ne_sld X hX hbl hbA hb0 (by decide) (by omega) dL_law_1569 (fun z1569 e1569 l1569 r1569 => ?_)
  have y1569 : z1544 = z1569 := e1544.trans e1569.symm
  subst y1569
  refine ne_aload_n X dL_law_1570 rfl ?_
  refine ne_iload X dL_law_1571 rfl ?_
  refine ne_iconst X dL_law_1573 ?_
  refine ne_iadd X dL_law_1574 ?_
  refine ne_sld X hX hbl hbA hb0 (by decide) (by omega) dL_law_1575 (fun z1575 e1575 l1575 r1575 => ?_)
  have y1575 : z1550 = z1575 := e1550.trans e1575.symm
  subst y1575
  refine ne_callVF (is := [13, 14, 15, 16, 17, 18, 19]) X nw_Tg (me_X3_setWheelW l hl c q t b k h mv9 T hM (by omega) _ _ _ (by omega) (by omega) (by omega)) nw_yX3_setWheel nw_mL_263 nw_iX3_setWheel nw_eX3_setWheel (ci := 5) rfl rfl rfl dL_law_1576 rfl rfl (by decide) (by decide) (by first | decide | omega) (by first | decide | omega) (Nat.le_of_ble_eq_true rfl) (hcw _ _ _ _ _ _ _ _ _ _ _ _ _ _ _ _ _) rfl rfl (Nat.le_of_ble_eq_true rfl) lw_pt2 ?_ ?_
  rotate_left
  · rintro E9 w9 h9; exact h9.elim
  rintro v1576 w1576 ⟨t2, b2, k2, h2, mv91, z1576, rfl, hM1, rfl, g1576⟩
  refine ne_ws lw_mg2 ?_
  obtain ⟨hk, hu, e7, e8, e9, e10, hP1⟩ := cn_setWheel (k := k) hP g1552 g1576
  subst e7 e8 e9 e10
  refine ne_istore X dL_law_1579 (by decide) ?_
  refine ne_ll (L' := [some (.ref 0), some (.ref 1), some (.ref 13), some (.ref 20), some (ni _), some (ni _), some (ni _)]) rfl ?_
  refine ne_goto (tgt := 2324) X dL_law_1581 rfl ?_
  refine ne_lnone 5 (ne_lnone 6 ?_)
  refine ne_ll (L' := [some (.ref 0), some (.ref 1), some (.ref 13), some (.ref 20), some (ni i), none, none]) rfl ?_
  refine ne_less (C' := C - 500) (S' := S - 3500) (by omega) (by omega) ?_
  exact kk _ _ _ _ _ _ _ _ _ _ _ _ hI1 hM1 hP1 hs
set_option maxRecDepth 100000 in
set_option maxHeartbeats 4000000 in
theorem lc_28 (hl : l.stackTraces = false) (X : ne_F nw_cl D ct A p l room_1 s9 m args meth c9 RL cL_law 7 nw_T 20 1000 600128 7301098) (hX : va_X b9 N9 xs s9 s9.heap) (hbl : b9 < s9.heap.size) (hbA : ¬ A b9) (hb0 : ad0 0 = b9) (i T : Int) (hi : 0 ≤ i ∧ i + 6 ≤ N9 ∧ N9 ≤ 384) (hT : 0 ≤ T ∧ T ≤ 100) (c q t b k n h x y  : Nat → Int) (mv9 u : Int) (sv : Value) (hI : cI c q t b k n h x y T) (hM : mI c q t b k h mv9 T) (hP : ∀ j : Nat, ne_per (t j) (b j) (n j)) (hs : sv = .null ∨ sv = .ref 21) (C S : Nat) (hC : 500 ≤ C) (hS : 3500 ≤ S) (kk : ∀ (c q t b k n h x y  : Nat → Int) (mv9 u : Int) (sv : Value), cI c q t b k n h x y (T + 1) → mI c q t b k h mv9 (T + 1) → (∀ j : Nat, ne_per (t j) (b j) (n j)) → (sv = .null ∨ sv = .ref 21) → ne_G nw_cl D ct A 1 ad0 p l e room_1 s9 m args below meth c9 Q9 7 600128 7301098 (C - 500) (S - 3500) 2324 [some (.ref 0), some (.ref 1), some (.ref 13), some (.ref 20), some (ni i), none, none] [] (lW c q t b k n h x y c q t b k h mv9 (nl u) sv)) : ne_G nw_cl D ct A 1 ad0 p l e room_1 s9 m args below meth c9 Q9 7 600128 7301098 C S 1584 [some (.ref 0), some (.ref 1), some (.ref 13), some (.ref 20), some (ni i), none, none] [] (lW c q t b k n h x y c q t b k h mv9 (nl u) sv) := by
  obtain ⟨s8, hs8, rfl⟩ : ∃ s8 : Value, (s8 = .null ∨ s8 = .ref 13) ∧ sv = ne_rn [1, 2, 3, 4, 5, 6, 7, 8, 9, 10, 11, 12, 20, 21] 22 s8 := by
    rcases hs with rfl | rfl
    · exact ⟨.null, Or.inl rfl, rfl⟩
    · exact ⟨.ref 13, Or.inr rfl, rfl⟩
  have hcw : ∀ (c q t b k n h x y mc9 mq9 mt9 mb9 mk9 mh9 : Nat → Int) (mv9 u : Int), ne_cw 22 (lW c q t b k n h x y mc9 mq9 mt9 mb9 mk9 mh9 mv9 (nl u) (ne_rn [1, 2, 3, 4, 5, 6, 7, 8, 9, 10, 11, 12, 20, 21] 22 s8)) = true := by
    intros
    rcases hs8 with rfl | rfl <;> rfl
  refine ne_aload_n X dL_law_1584 rfl ?_
  refine ne_aload_n X dL_law_1585 rfl ?_
  refine ne_iload X dL_law_1586 rfl ?_
  refine ne_iconst X dL_law_1588 ?_
  refine ne_iadd X dL_law_1589 ?_
  refine ne_sld X hX hbl hbA hb0 (by decide) (by omega) dL_law_1590 (fun z1590 e1590 l1590 r1590 => ?_)
  refine ne_aload_n X dL_law_1591 rfl ?_
  refine ne_callSFW (is := [1, 2, 3, 4, 5, 6, 7, 8, 9, 10, 11, 12, 20, 21]) X nw_Tg (me_L_step l hl c q t b k n h x y T hI (by omega) u s8 hs8 _ (by omega)) nw_yL_step nw_mL_264 nw_sL_step dL_law_1592 rfl rfl (by decide) (by decide) (by first | decide | omega) (by first | decide | omega) (Nat.le_of_ble_eq_true rfl) (hcw _ _ _ _ _ _ _ _ _ _ _ _ _ _ _ _ _) rfl rfl (Nat.le_of_ble_eq_true rfl) lw_pt1 ?_ ?_
  rotate_left
  · rintro E9 w9 h9; exact h9.elim
  rintro v1592 w1592 ⟨t1, b1, k1, n1, h1, u1, rfl, hI1, z1592, rfl, g1592⟩
  refine ne_ws lw_mg1 ?_
  refine ne_istore X dL_law_1595 (by decide) ?_
  refine ne_aload_n X dL_law_1597 rfl ?_
  refine ne_aload_n X dL_law_1598 rfl ?_
  refine ne_iload X dL_law_1599 rfl ?_
  refine ne_iconst X dL_law_1601 ?_
  refine ne_iadd X dL_law_1602 ?_
  refine ne_sld X hX hbl hbA hb0 (by decide) (by omega) dL_law_1603 (fun z1603 e1603 l1603 r1603 => ?_)
  have y1603 : z1590 = z1603 := e1590.trans e1603.symm
  subst y1603
  refine ne_callVF (is := [13, 14, 15, 16, 17, 18, 19]) X nw_Tg (me_X3_stepW l hl c q t b k h mv9 T hM (by omega) _ (by omega)) nw_yX3_step nw_mL_266 nw_iX3_step nw_eX3_step (ci := 5) rfl rfl rfl dL_law_1604 rfl rfl (by decide) (by decide) (by first | decide | omega) (by first | decide | omega) (Nat.le_of_ble_eq_true rfl) (hcw _ _ _ _ _ _ _ _ _ _ _ _ _ _ _ _ _) rfl rfl (Nat.le_of_ble_eq_true rfl) lw_pt2 ?_ ?_
  rotate_left
  · rintro E9 w9 h9; exact h9.elim
  rintro v1604 w1604 ⟨t2, b2, k2, h2, mv91, z1604, rfl, hM1, rfl, g1604⟩
  refine ne_ws lw_mg2 ?_
  obtain ⟨hk, hu, e7, e8, e9, e10, hP1⟩ := cn_step (k := k) hP g1592 g1604
  subst e7 e8 e9 e10
  refine ne_istore X dL_law_1607 (by decide) ?_
  refine ne_ll (L' := [some (.ref 0), some (.ref 1), some (.ref 13), some (.ref 20), some (ni _), some (ni _), some (ni _)]) rfl ?_
  refine ne_goto (tgt := 2324) X dL_law_1609 rfl ?_
  refine ne_lnone 5 (ne_lnone 6 ?_)
  refine ne_ll (L' := [some (.ref 0), some (.ref 1), some (.ref 13), some (.ref 20), some (ni i), none, none]) rfl ?_
  refine ne_less (C' := C - 500) (S' := S - 3500) (by omega) (by omega) ?_
  exact kk _ _ _ _ _ _ _ _ _ _ _ _ hI1 hM1 hP1 hs
set_option maxRecDepth 100000 in
set_option maxHeartbeats 4000000 in
theorem lc_29 (hl : l.stackTraces = false) (X : ne_F nw_cl D ct A p l room_1 s9 m args meth c9 RL cL_law 7 nw_T 20 1000 600128 7301098) (hX : va_X b9 N9 xs s9 s9.heap) (hbl : b9 < s9.heap.size) (hbA : ¬ A b9) (hb0 : ad0 0 = b9) (i T : Int) (hi : 0 ≤ i ∧ i + 6 ≤ N9 ∧ N9 ≤ 384) (hT : 0 ≤ T ∧ T ≤ 100) (c q t b k n h x y  : Nat → Int) (mv9 u : Int) (sv : Value) (hI : cI c q t b k n h x y T) (hM : mI c q t b k h mv9 T) (hP : ∀ j : Nat, ne_per (t j) (b j) (n j)) (hs : sv = .null ∨ sv = .ref 21) (C S : Nat) (hC : 500 ≤ C) (hS : 3500 ≤ S) (kk : ∀ (c q t b k n h x y  : Nat → Int) (mv9 u : Int) (sv : Value), cI c q t b k n h x y (T + 1) → mI c q t b k h mv9 (T + 1) → (∀ j : Nat, ne_per (t j) (b j) (n j)) → (sv = .null ∨ sv = .ref 21) → ne_G nw_cl D ct A 1 ad0 p l e room_1 s9 m args below meth c9 Q9 7 600128 7301098 (C - 500) (S - 3500) 2324 [some (.ref 0), some (.ref 1), some (.ref 13), some (.ref 20), some (ni i), none, none] [] (lW c q t b k n h x y c q t b k h mv9 (nl u) sv)) : ne_G nw_cl D ct A 1 ad0 p l e room_1 s9 m args below meth c9 Q9 7 600128 7301098 C S 1612 [some (.ref 0), some (.ref 1), some (.ref 13), some (.ref 20), some (ni i), none, none] [] (lW c q t b k n h x y c q t b k h mv9 (nl u) sv) := by
  obtain ⟨s8, hs8, rfl⟩ : ∃ s8 : Value, (s8 = .null ∨ s8 = .ref 13) ∧ sv = ne_rn [1, 2, 3, 4, 5, 6, 7, 8, 9, 10, 11, 12, 20, 21] 22 s8 := by
    rcases hs with rfl | rfl
    · exact ⟨.null, Or.inl rfl, rfl⟩
    · exact ⟨.ref 13, Or.inr rfl, rfl⟩
  have hcw : ∀ (c q t b k n h x y mc9 mq9 mt9 mb9 mk9 mh9 : Nat → Int) (mv9 u : Int), ne_cw 22 (lW c q t b k n h x y mc9 mq9 mt9 mb9 mk9 mh9 mv9 (nl u) (ne_rn [1, 2, 3, 4, 5, 6, 7, 8, 9, 10, 11, 12, 20, 21] 22 s8)) = true := by
    intros
    rcases hs8 with rfl | rfl <;> rfl
  refine ne_aload_n X dL_law_1612 rfl ?_
  refine ne_aload_n X dL_law_1613 rfl ?_
  refine ne_iload X dL_law_1614 rfl ?_
  refine ne_iconst X dL_law_1616 ?_
  refine ne_iadd X dL_law_1617 ?_
  refine ne_sld X hX hbl hbA hb0 (by decide) (by omega) dL_law_1618 (fun z1618 e1618 l1618 r1618 => ?_)
  refine ne_aload_n X dL_law_1619 rfl ?_
  refine ne_iload X dL_law_1620 rfl ?_
  refine ne_iconst X dL_law_1622 ?_
  refine ne_iadd X dL_law_1623 ?_
  refine ne_sld X hX hbl hbA hb0 (by decide) (by omega) dL_law_1624 (fun z1624 e1624 l1624 r1624 => ?_)
  refine ne_aload_n X dL_law_1625 rfl ?_
  refine ne_callSFW (is := [1, 2, 3, 4, 5, 6, 7, 8, 9, 10, 11, 12, 20, 21]) X nw_Tg (me_L_turn l hl c q t b k n h x y T hI (by omega) u s8 hs8 _ _ (by omega) (by omega)) nw_yL_turn nw_mL_267 nw_sL_turn dL_law_1626 rfl rfl (by decide) (by decide) (by first | decide | omega) (by first | decide | omega) (Nat.le_of_ble_eq_true rfl) (hcw _ _ _ _ _ _ _ _ _ _ _ _ _ _ _ _ _) rfl rfl (Nat.le_of_ble_eq_true rfl) lw_pt1 ?_ ?_
  rotate_left
  · rintro E9 w9 h9; exact h9.elim
  rintro v1626 w1626 ⟨t1, b1, k1, n1, h1, u1, rfl, hI1, z1626, rfl, g1626⟩
  refine ne_ws lw_mg1 ?_
  refine ne_istore X dL_law_1629 (by decide) ?_
  refine ne_aload_n X dL_law_1631 rfl ?_
  refine ne_aload_n X dL_law_1632 rfl ?_
  refine ne_iload X dL_law_1633 rfl ?_
  refine ne_iconst X dL_law_1635 ?_
  refine ne_iadd X dL_law_1636 ?_
  refine ne_sld X hX hbl hbA hb0 (by decide) (by omega) dL_law_1637 (fun z1637 e1637 l1637 r1637 => ?_)
  have y1637 : z1618 = z1637 := e1618.trans e1637.symm
  subst y1637
  refine ne_aload_n X dL_law_1638 rfl ?_
  refine ne_iload X dL_law_1639 rfl ?_
  refine ne_iconst X dL_law_1641 ?_
  refine ne_iadd X dL_law_1642 ?_
  refine ne_sld X hX hbl hbA hb0 (by decide) (by omega) dL_law_1643 (fun z1643 e1643 l1643 r1643 => ?_)
  have y1643 : z1624 = z1643 := e1624.trans e1643.symm
  subst y1643
  refine ne_callVF (is := [13, 14, 15, 16, 17, 18, 19]) X nw_Tg (me_X3_turnW l hl c q t b k h mv9 T hM (by omega) _ _ (by omega) (by omega)) nw_yX3_turn nw_mL_269 nw_iX3_turn nw_eX3_turn (ci := 5) rfl rfl rfl dL_law_1644 rfl rfl (by decide) (by decide) (by first | decide | omega) (by first | decide | omega) (Nat.le_of_ble_eq_true rfl) (hcw _ _ _ _ _ _ _ _ _ _ _ _ _ _ _ _ _) rfl rfl (Nat.le_of_ble_eq_true rfl) lw_pt2 ?_ ?_
  rotate_left
  · rintro E9 w9 h9; exact h9.elim
  rintro v1644 w1644 ⟨t2, b2, k2, h2, mv91, z1644, rfl, hM1, rfl, g1644⟩
  refine ne_ws lw_mg2 ?_
  obtain ⟨hk, hu, e7, e8, e9, e10, hP1⟩ := cn_turn (k := k) hP g1626 g1644
  subst e7 e8 e9 e10
  refine ne_istore X dL_law_1647 (by decide) ?_
  refine ne_ll (L' := [some (.ref 0), some (.ref 1), some (.ref 13), some (.ref 20), some (ni _), some (ni _), some (ni _)]) rfl ?_
  refine ne_goto (tgt := 2324) X dL_law_1649 rfl ?_
  refine ne_lnone 5 (ne_lnone 6 ?_)
  refine ne_ll (L' := [some (.ref 0), some (.ref 1), some (.ref 13), some (.ref 20), some (ni i), none, none]) rfl ?_
  refine ne_less (C' := C - 500) (S' := S - 3500) (by omega) (by omega) ?_
  exact kk _ _ _ _ _ _ _ _ _ _ _ _ hI1 hM1 hP1 hs
set_option maxRecDepth 100000 in
set_option maxHeartbeats 4000000 in
theorem lc_30 (hl : l.stackTraces = false) (X : ne_F nw_cl D ct A p l room_1 s9 m args meth c9 RL cL_law 7 nw_T 20 1000 600128 7301098) (hX : va_X b9 N9 xs s9 s9.heap) (hbl : b9 < s9.heap.size) (hbA : ¬ A b9) (hb0 : ad0 0 = b9) (i T : Int) (hi : 0 ≤ i ∧ i + 6 ≤ N9 ∧ N9 ≤ 384) (hT : 0 ≤ T ∧ T ≤ 100) (c q t b k n h x y  : Nat → Int) (mv9 u : Int) (sv : Value) (hI : cI c q t b k n h x y T) (hM : mI c q t b k h mv9 T) (hP : ∀ j : Nat, ne_per (t j) (b j) (n j)) (hs : sv = .null ∨ sv = .ref 21) (C S : Nat) (hC : 500 ≤ C) (hS : 3500 ≤ S) (kk : ∀ (c q t b k n h x y  : Nat → Int) (mv9 u : Int) (sv : Value), cI c q t b k n h x y (T + 1) → mI c q t b k h mv9 (T + 1) → (∀ j : Nat, ne_per (t j) (b j) (n j)) → (sv = .null ∨ sv = .ref 21) → ne_G nw_cl D ct A 1 ad0 p l e room_1 s9 m args below meth c9 Q9 7 600128 7301098 (C - 500) (S - 3500) 2324 [some (.ref 0), some (.ref 1), some (.ref 13), some (.ref 20), some (ni i), none, none] [] (lW c q t b k n h x y c q t b k h mv9 (nl u) sv)) : ne_G nw_cl D ct A 1 ad0 p l e room_1 s9 m args below meth c9 Q9 7 600128 7301098 C S 1652 [some (.ref 0), some (.ref 1), some (.ref 13), some (.ref 20), some (ni i), none, none] [] (lW c q t b k n h x y c q t b k h mv9 (nl u) sv) := by
  obtain ⟨s8, hs8, rfl⟩ : ∃ s8 : Value, (s8 = .null ∨ s8 = .ref 13) ∧ sv = ne_rn [1, 2, 3, 4, 5, 6, 7, 8, 9, 10, 11, 12, 20, 21] 22 s8 := by
    rcases hs with rfl | rfl
    · exact ⟨.null, Or.inl rfl, rfl⟩
    · exact ⟨.ref 13, Or.inr rfl, rfl⟩
  have hcw : ∀ (c q t b k n h x y mc9 mq9 mt9 mb9 mk9 mh9 : Nat → Int) (mv9 u : Int), ne_cw 22 (lW c q t b k n h x y mc9 mq9 mt9 mb9 mk9 mh9 mv9 (nl u) (ne_rn [1, 2, 3, 4, 5, 6, 7, 8, 9, 10, 11, 12, 20, 21] 22 s8)) = true := by
    intros
    rcases hs8 with rfl | rfl <;> rfl
  refine ne_aload_n X dL_law_1652 rfl ?_
  refine ne_aload_n X dL_law_1653 rfl ?_
  refine ne_iload X dL_law_1654 rfl ?_
  refine ne_iconst X dL_law_1656 ?_
  refine ne_iadd X dL_law_1657 ?_
  refine ne_sld X hX hbl hbA hb0 (by decide) (by omega) dL_law_1658 (fun z1658 e1658 l1658 r1658 => ?_)
  refine ne_aload_n X dL_law_1659 rfl ?_
  refine ne_iload X dL_law_1660 rfl ?_
  refine ne_iconst X dL_law_1662 ?_
  refine ne_iadd X dL_law_1663 ?_
  refine ne_sld X hX hbl hbA hb0 (by decide) (by omega) dL_law_1664 (fun z1664 e1664 l1664 r1664 => ?_)
  refine ne_aload_n X dL_law_1665 rfl ?_
  refine ne_iload X dL_law_1666 rfl ?_
  refine ne_iconst X dL_law_1668 ?_
  refine ne_iadd X dL_law_1669 ?_
  refine ne_sld X hX hbl hbA hb0 (by decide) (by omega) dL_law_1670 (fun z1670 e1670 l1670 r1670 => ?_)
  refine ne_aload_n X dL_law_1671 rfl ?_
  refine ne_callSFW (is := [1, 2, 3, 4, 5, 6, 7, 8, 9, 10, 11, 12, 20, 21]) X nw_Tg (me_L_times l hl c q t b k n h x y T hI (by omega) u s8 hs8 _ _ _ (by omega) (by omega) (by omega)) nw_yL_times nw_mL_270 nw_sL_times dL_law_1672 rfl rfl (by decide) (by decide) (by first | decide | omega) (by first | decide | omega) (Nat.le_of_ble_eq_true rfl) (hcw _ _ _ _ _ _ _ _ _ _ _ _ _ _ _ _ _) rfl rfl (Nat.le_of_ble_eq_true rfl) lw_pt1 ?_ ?_
  rotate_left
  · rintro E9 w9 h9; exact h9.elim
  rintro v1672 w1672 ⟨t1, b1, k1, n1, h1, u1, rfl, hI1, z1672, rfl, g1672⟩
  refine ne_ws lw_mg1 ?_
  refine ne_istore X dL_law_1675 (by decide) ?_
  refine ne_aload_n X dL_law_1677 rfl ?_
  refine ne_aload_n X dL_law_1678 rfl ?_
  refine ne_iload X dL_law_1679 rfl ?_
  refine ne_iconst X dL_law_1681 ?_
  refine ne_iadd X dL_law_1682 ?_
  refine ne_sld X hX hbl hbA hb0 (by decide) (by omega) dL_law_1683 (fun z1683 e1683 l1683 r1683 => ?_)
  have y1683 : z1658 = z1683 := e1658.trans e1683.symm
  subst y1683
  refine ne_aload_n X dL_law_1684 rfl ?_
  refine ne_iload X dL_law_1685 rfl ?_
  refine ne_iconst X dL_law_1687 ?_
  refine ne_iadd X dL_law_1688 ?_
  refine ne_sld X hX hbl hbA hb0 (by decide) (by omega) dL_law_1689 (fun z1689 e1689 l1689 r1689 => ?_)
  have y1689 : z1664 = z1689 := e1664.trans e1689.symm
  subst y1689
  refine ne_aload_n X dL_law_1690 rfl ?_
  refine ne_iload X dL_law_1691 rfl ?_
  refine ne_iconst X dL_law_1693 ?_
  refine ne_iadd X dL_law_1694 ?_
  refine ne_sld X hX hbl hbA hb0 (by decide) (by omega) dL_law_1695 (fun z1695 e1695 l1695 r1695 => ?_)
  have y1695 : z1670 = z1695 := e1670.trans e1695.symm
  subst y1695
  refine ne_callVF (is := [13, 14, 15, 16, 17, 18, 19]) X nw_Tg (me_X3_timesW l hl c q t b k h mv9 T hM (by omega) _ _ _ (by omega) (by omega) (by omega)) nw_yX3_times nw_mL_272 nw_iX3_times nw_eX3_times (ci := 5) rfl rfl rfl dL_law_1696 rfl rfl (by decide) (by decide) (by first | decide | omega) (by first | decide | omega) (Nat.le_of_ble_eq_true rfl) (hcw _ _ _ _ _ _ _ _ _ _ _ _ _ _ _ _ _) rfl rfl (Nat.le_of_ble_eq_true rfl) lw_pt2 ?_ ?_
  rotate_left
  · rintro E9 w9 h9; exact h9.elim
  rintro v1696 w1696 ⟨t2, b2, k2, h2, mv91, z1696, rfl, hM1, rfl, g1696⟩
  refine ne_ws lw_mg2 ?_
  obtain ⟨hk, hu, e7, e8, e9, e10, hP1⟩ := cn_times (k := k) hP hI.2.2.1 hI.2.2.2.1 hM.2.2.2.2.2.1 g1672 g1696
  subst e7 e8 e9 e10
  refine ne_istore X dL_law_1699 (by decide) ?_
  refine ne_ll (L' := [some (.ref 0), some (.ref 1), some (.ref 13), some (.ref 20), some (ni _), some (ni _), some (ni _)]) rfl ?_
  refine ne_goto (tgt := 2324) X dL_law_1701 rfl ?_
  refine ne_lnone 5 (ne_lnone 6 ?_)
  refine ne_ll (L' := [some (.ref 0), some (.ref 1), some (.ref 13), some (.ref 20), some (ni i), none, none]) rfl ?_
  refine ne_less (C' := C - 500) (S' := S - 3500) (by omega) (by omega) ?_
  exact kk _ _ _ _ _ _ _ _ _ _ _ _ hI1 hM1 hP1 hs
set_option maxRecDepth 100000 in
set_option maxHeartbeats 4000000 in
theorem lc_31 (hl : l.stackTraces = false) (X : ne_F nw_cl D ct A p l room_1 s9 m args meth c9 RL cL_law 7 nw_T 20 1000 600128 7301098) (hX : va_X b9 N9 xs s9 s9.heap) (hbl : b9 < s9.heap.size) (hbA : ¬ A b9) (hb0 : ad0 0 = b9) (i T : Int) (hi : 0 ≤ i ∧ i + 6 ≤ N9 ∧ N9 ≤ 384) (hT : 0 ≤ T ∧ T ≤ 100) (c q t b k n h x y  : Nat → Int) (mv9 u : Int) (sv : Value) (hI : cI c q t b k n h x y T) (hM : mI c q t b k h mv9 T) (hP : ∀ j : Nat, ne_per (t j) (b j) (n j)) (hs : sv = .null ∨ sv = .ref 21) (C S : Nat) (hC : 500 ≤ C) (hS : 3500 ≤ S) (kk : ∀ (c q t b k n h x y  : Nat → Int) (mv9 u : Int) (sv : Value), cI c q t b k n h x y (T + 1) → mI c q t b k h mv9 (T + 1) → (∀ j : Nat, ne_per (t j) (b j) (n j)) → (sv = .null ∨ sv = .ref 21) → ne_G nw_cl D ct A 1 ad0 p l e room_1 s9 m args below meth c9 Q9 7 600128 7301098 (C - 500) (S - 3500) 2324 [some (.ref 0), some (.ref 1), some (.ref 13), some (.ref 20), some (ni i), none, none] [] (lW c q t b k n h x y c q t b k h mv9 (nl u) sv)) : ne_G nw_cl D ct A 1 ad0 p l e room_1 s9 m args below meth c9 Q9 7 600128 7301098 C S 1704 [some (.ref 0), some (.ref 1), some (.ref 13), some (.ref 20), some (ni i), none, none] [] (lW c q t b k n h x y c q t b k h mv9 (nl u) sv) := by
  obtain ⟨s8, hs8, rfl⟩ : ∃ s8 : Value, (s8 = .null ∨ s8 = .ref 13) ∧ sv = ne_rn [1, 2, 3, 4, 5, 6, 7, 8, 9, 10, 11, 12, 20, 21] 22 s8 := by
    rcases hs with rfl | rfl
    · exact ⟨.null, Or.inl rfl, rfl⟩
    · exact ⟨.ref 13, Or.inr rfl, rfl⟩
  have hcw : ∀ (c q t b k n h x y mc9 mq9 mt9 mb9 mk9 mh9 : Nat → Int) (mv9 u : Int), ne_cw 22 (lW c q t b k n h x y mc9 mq9 mt9 mb9 mk9 mh9 mv9 (nl u) (ne_rn [1, 2, 3, 4, 5, 6, 7, 8, 9, 10, 11, 12, 20, 21] 22 s8)) = true := by
    intros
    rcases hs8 with rfl | rfl <;> rfl
  refine ne_aload_n X dL_law_1704 rfl ?_
  refine ne_aload_n X dL_law_1705 rfl ?_
  refine ne_iload X dL_law_1706 rfl ?_
  refine ne_iconst X dL_law_1708 ?_
  refine ne_iadd X dL_law_1709 ?_
  refine ne_sld X hX hbl hbA hb0 (by decide) (by omega) dL_law_1710 (fun z1710 e1710 l1710 r1710 => ?_)
  refine ne_aload_n X dL_law_1711 rfl ?_
  refine ne_iload X dL_law_1712 rfl ?_
  refine ne_iconst X dL_law_1714 ?_
  refine ne_iadd X dL_law_1715 ?_
  refine ne_sld X hX hbl hbA hb0 (by decide) (by omega) dL_law_1716 (fun z1716 e1716 l1716 r1716 => ?_)
  refine ne_aload_n X dL_law_1717 rfl ?_
  refine ne_callSFW (is := [1, 2, 3, 4, 5, 6, 7, 8, 9, 10, 11, 12, 20, 21]) X nw_Tg (me_L_spoke l hl c q t b k n h x y T hI (by omega) u s8 hs8 _ _ (by omega) (by omega)) nw_yL_spoke nw_mL_273 nw_sL_spoke dL_law_1718 rfl rfl (by decide) (by decide) (by first | decide | omega) (by first | decide | omega) (Nat.le_of_ble_eq_true rfl) (hcw _ _ _ _ _ _ _ _ _ _ _ _ _ _ _ _ _) rfl rfl (Nat.le_of_ble_eq_true rfl) lw_pt1 ?_ ?_
  rotate_left
  · rintro E9 w9 h9; exact h9.elim
  rintro v1718 w1718 ⟨x1, y1, u1, rfl, hI1, z1718, rfl⟩
  refine ne_ws lw_mg1 ?_
  refine ne_istore X dL_law_1721 (by decide) ?_
  refine ne_aload_n X dL_law_1723 rfl ?_
  refine ne_aload_n X dL_law_1724 rfl ?_
  refine ne_iload X dL_law_1725 rfl ?_
  refine ne_iconst X dL_law_1727 ?_
  refine ne_iadd X dL_law_1728 ?_
  refine ne_sld X hX hbl hbA hb0 (by decide) (by omega) dL_law_1729 (fun z1729 e1729 l1729 r1729 => ?_)
  have y1729 : z1710 = z1729 := e1710.trans e1729.symm
  subst y1729
  refine ne_aload_n X dL_law_1730 rfl ?_
  refine ne_iload X dL_law_1731 rfl ?_
  refine ne_iconst X dL_law_1733 ?_
  refine ne_iadd X dL_law_1734 ?_
  refine ne_sld X hX hbl hbA hb0 (by decide) (by omega) dL_law_1735 (fun z1735 e1735 l1735 r1735 => ?_)
  have y1735 : z1716 = z1735 := e1716.trans e1735.symm
  subst y1735
  refine ne_callVF (is := [13, 14, 15, 16, 17, 18, 19]) X nw_Tg (me_X3_spoke l hl c q t b k h mv9 T hM (by omega) _ _ (by omega) (by omega)) nw_yX3_spoke nw_mL_275 nw_iX3_spoke nw_eX3_spoke (ci := 5) rfl rfl rfl dL_law_1736 rfl rfl (by decide) (by decide) (by first | decide | omega) (by first | decide | omega) (Nat.le_of_ble_eq_true rfl) (hcw _ _ _ _ _ _ _ _ _ _ _ _ _ _ _ _ _) rfl rfl (Nat.le_of_ble_eq_true rfl) lw_pt2 ?_ ?_
  rotate_left
  · rintro E9 w9 h9; exact h9.elim
  rintro v1736 w1736 ⟨⟨mv91, rfl, hM1⟩, z1736, rfl, g1736⟩
  refine ne_ws lw_mg2 ?_
  refine ne_istore X dL_law_1739 (by decide) ?_
  refine ne_ll (L' := [some (.ref 0), some (.ref 1), some (.ref 13), some (.ref 20), some (ni _), some (ni _), some (ni _)]) rfl ?_
  refine ne_goto (tgt := 2324) X dL_law_1741 rfl ?_
  refine ne_lnone 5 (ne_lnone 6 ?_)
  refine ne_ll (L' := [some (.ref 0), some (.ref 1), some (.ref 13), some (.ref 20), some (ni i), none, none]) rfl ?_
  refine ne_less (C' := C - 500) (S' := S - 3500) (by omega) (by omega) ?_
  exact kk _ _ _ _ _ _ _ _ _ _ _ _ hI1 hM1 hP hs
set_option maxRecDepth 100000 in
set_option maxHeartbeats 4000000 in
theorem lc_32 (hl : l.stackTraces = false) (X : ne_F nw_cl D ct A p l room_1 s9 m args meth c9 RL cL_law 7 nw_T 20 1000 600128 7301098) (hX : va_X b9 N9 xs s9 s9.heap) (hbl : b9 < s9.heap.size) (hbA : ¬ A b9) (hb0 : ad0 0 = b9) (i T : Int) (hi : 0 ≤ i ∧ i + 6 ≤ N9 ∧ N9 ≤ 384) (hT : 0 ≤ T ∧ T ≤ 100) (c q t b k n h x y  : Nat → Int) (mv9 u : Int) (sv : Value) (hI : cI c q t b k n h x y T) (hM : mI c q t b k h mv9 T) (hP : ∀ j : Nat, ne_per (t j) (b j) (n j)) (hs : sv = .null ∨ sv = .ref 21) (C S : Nat) (hC : 500 ≤ C) (hS : 3500 ≤ S) (kk : ∀ (c q t b k n h x y  : Nat → Int) (mv9 u : Int) (sv : Value), cI c q t b k n h x y (T + 1) → mI c q t b k h mv9 (T + 1) → (∀ j : Nat, ne_per (t j) (b j) (n j)) → (sv = .null ∨ sv = .ref 21) → ne_G nw_cl D ct A 1 ad0 p l e room_1 s9 m args below meth c9 Q9 7 600128 7301098 (C - 500) (S - 3500) 2324 [some (.ref 0), some (.ref 1), some (.ref 13), some (.ref 20), some (ni i), none, none] [] (lW c q t b k n h x y c q t b k h mv9 (nl u) sv)) : ne_G nw_cl D ct A 1 ad0 p l e room_1 s9 m args below meth c9 Q9 7 600128 7301098 C S 1744 [some (.ref 0), some (.ref 1), some (.ref 13), some (.ref 20), some (ni i), none, none] [] (lW c q t b k n h x y c q t b k h mv9 (nl u) sv) := by
  obtain ⟨s8, hs8, rfl⟩ : ∃ s8 : Value, (s8 = .null ∨ s8 = .ref 13) ∧ sv = ne_rn [1, 2, 3, 4, 5, 6, 7, 8, 9, 10, 11, 12, 20, 21] 22 s8 := by
    rcases hs with rfl | rfl
    · exact ⟨.null, Or.inl rfl, rfl⟩
    · exact ⟨.ref 13, Or.inr rfl, rfl⟩
  have hcw : ∀ (c q t b k n h x y mc9 mq9 mt9 mb9 mk9 mh9 : Nat → Int) (mv9 u : Int), ne_cw 22 (lW c q t b k n h x y mc9 mq9 mt9 mb9 mk9 mh9 mv9 (nl u) (ne_rn [1, 2, 3, 4, 5, 6, 7, 8, 9, 10, 11, 12, 20, 21] 22 s8)) = true := by
    intros
    rcases hs8 with rfl | rfl <;> rfl
  refine ne_aload_n X dL_law_1744 rfl ?_
  refine ne_aload_n X dL_law_1745 rfl ?_
  refine ne_iload X dL_law_1746 rfl ?_
  refine ne_iconst X dL_law_1748 ?_
  refine ne_iadd X dL_law_1749 ?_
  refine ne_sld X hX hbl hbA hb0 (by decide) (by omega) dL_law_1750 (fun z1750 e1750 l1750 r1750 => ?_)
  refine ne_aload_n X dL_law_1751 rfl ?_
  refine ne_callSFW (is := [1, 2, 3, 4, 5, 6, 7, 8, 9, 10, 11, 12, 20, 21]) X nw_Tg (me_L_lowest l hl c q t b k n h x y T hI (by omega) u s8 hs8 _ (by omega)) nw_yL_lowest nw_mL_276 nw_sL_lowest dL_law_1752 rfl rfl (by decide) (by decide) (by first | decide | omega) (by first | decide | omega) (Nat.le_of_ble_eq_true rfl) (hcw _ _ _ _ _ _ _ _ _ _ _ _ _ _ _ _ _) rfl rfl (Nat.le_of_ble_eq_true rfl) lw_pt1 ?_ ?_
  rotate_left
  · rintro E9 w9 h9; exact h9.elim
  rintro v1752 w1752 ⟨x1, y1, u1, rfl, hI1, z1752, rfl⟩
  refine ne_ws lw_mg1 ?_
  refine ne_istore X dL_law_1755 (by decide) ?_
  refine ne_aload_n X dL_law_1757 rfl ?_
  refine ne_aload_n X dL_law_1758 rfl ?_
  refine ne_iload X dL_law_1759 rfl ?_
  refine ne_iconst X dL_law_1761 ?_
  refine ne_iadd X dL_law_1762 ?_
  refine ne_sld X hX hbl hbA hb0 (by decide) (by omega) dL_law_1763 (fun z1763 e1763 l1763 r1763 => ?_)
  have y1763 : z1750 = z1763 := e1750.trans e1763.symm
  subst y1763
  refine ne_callVF (is := [13, 14, 15, 16, 17, 18, 19]) X nw_Tg (me_X3_lowest l hl c q t b k h mv9 T hM (by omega) _ (by omega)) nw_yX3_lowest nw_mL_278 nw_iX3_lowest nw_eX3_lowest (ci := 5) rfl rfl rfl dL_law_1764 rfl rfl (by decide) (by decide) (by first | decide | omega) (by first | decide | omega) (Nat.le_of_ble_eq_true rfl) (hcw _ _ _ _ _ _ _ _ _ _ _ _ _ _ _ _ _) rfl rfl (Nat.le_of_ble_eq_true rfl) lw_pt2 ?_ ?_
  rotate_left
  · rintro E9 w9 h9; exact h9.elim
  rintro v1764 w1764 ⟨⟨mv91, rfl, hM1⟩, z1764, rfl, g1764⟩
  refine ne_ws lw_mg2 ?_
  refine ne_istore X dL_law_1767 (by decide) ?_
  refine ne_ll (L' := [some (.ref 0), some (.ref 1), some (.ref 13), some (.ref 20), some (ni _), some (ni _), some (ni _)]) rfl ?_
  refine ne_goto (tgt := 2324) X dL_law_1769 rfl ?_
  refine ne_lnone 5 (ne_lnone 6 ?_)
  refine ne_ll (L' := [some (.ref 0), some (.ref 1), some (.ref 13), some (.ref 20), some (ni i), none, none]) rfl ?_
  refine ne_less (C' := C - 500) (S' := S - 3500) (by omega) (by omega) ?_
  exact kk _ _ _ _ _ _ _ _ _ _ _ _ hI1 hM1 hP hs
set_option maxRecDepth 100000 in
set_option maxHeartbeats 4000000 in
theorem lc_33 (hl : l.stackTraces = false) (X : ne_F nw_cl D ct A p l room_1 s9 m args meth c9 RL cL_law 7 nw_T 20 1000 600128 7301098) (hX : va_X b9 N9 xs s9 s9.heap) (hbl : b9 < s9.heap.size) (hbA : ¬ A b9) (hb0 : ad0 0 = b9) (i T : Int) (hi : 0 ≤ i ∧ i + 6 ≤ N9 ∧ N9 ≤ 384) (hT : 0 ≤ T ∧ T ≤ 100) (c q t b k n h x y  : Nat → Int) (mv9 u : Int) (sv : Value) (hI : cI c q t b k n h x y T) (hM : mI c q t b k h mv9 T) (hP : ∀ j : Nat, ne_per (t j) (b j) (n j)) (hs : sv = .null ∨ sv = .ref 21) (C S : Nat) (hC : 500 ≤ C) (hS : 3500 ≤ S) (kk : ∀ (c q t b k n h x y  : Nat → Int) (mv9 u : Int) (sv : Value), cI c q t b k n h x y (T + 1) → mI c q t b k h mv9 (T + 1) → (∀ j : Nat, ne_per (t j) (b j) (n j)) → (sv = .null ∨ sv = .ref 21) → ne_G nw_cl D ct A 1 ad0 p l e room_1 s9 m args below meth c9 Q9 7 600128 7301098 (C - 500) (S - 3500) 2324 [some (.ref 0), some (.ref 1), some (.ref 13), some (.ref 20), some (ni i), none, none] [] (lW c q t b k n h x y c q t b k h mv9 (nl u) sv)) : ne_G nw_cl D ct A 1 ad0 p l e room_1 s9 m args below meth c9 Q9 7 600128 7301098 C S 1772 [some (.ref 0), some (.ref 1), some (.ref 13), some (.ref 20), some (ni i), none, none] [] (lW c q t b k n h x y c q t b k h mv9 (nl u) sv) := by
  obtain ⟨s8, hs8, rfl⟩ : ∃ s8 : Value, (s8 = .null ∨ s8 = .ref 13) ∧ sv = ne_rn [1, 2, 3, 4, 5, 6, 7, 8, 9, 10, 11, 12, 20, 21] 22 s8 := by
    rcases hs with rfl | rfl
    · exact ⟨.null, Or.inl rfl, rfl⟩
    · exact ⟨.ref 13, Or.inr rfl, rfl⟩
  have hcw : ∀ (c q t b k n h x y mc9 mq9 mt9 mb9 mk9 mh9 : Nat → Int) (mv9 u : Int), ne_cw 22 (lW c q t b k n h x y mc9 mq9 mt9 mb9 mk9 mh9 mv9 (nl u) (ne_rn [1, 2, 3, 4, 5, 6, 7, 8, 9, 10, 11, 12, 20, 21] 22 s8)) = true := by
    intros
    rcases hs8 with rfl | rfl <;> rfl
  refine ne_aload_n X dL_law_1772 rfl ?_
  refine ne_aload_n X dL_law_1773 rfl ?_
  refine ne_iload X dL_law_1774 rfl ?_
  refine ne_iconst X dL_law_1776 ?_
  refine ne_iadd X dL_law_1777 ?_
  refine ne_sld X hX hbl hbA hb0 (by decide) (by omega) dL_law_1778 (fun z1778 e1778 l1778 r1778 => ?_)
  refine ne_aload_n X dL_law_1779 rfl ?_
  refine ne_callSFW (is := [1, 2, 3, 4, 5, 6, 7, 8, 9, 10, 11, 12, 20, 21]) X nw_Tg (me_L_tens l hl c q t b k n h x y T hI (by omega) u s8 hs8 _ (by omega)) nw_yL_tens nw_mL_279 nw_sL_tens dL_law_1780 rfl rfl (by decide) (by decide) (by first | decide | omega) (by first | decide | omega) (Nat.le_of_ble_eq_true rfl) (hcw _ _ _ _ _ _ _ _ _ _ _ _ _ _ _ _ _) rfl rfl (Nat.le_of_ble_eq_true rfl) lw_pt1 ?_ ?_
  rotate_left
  · rintro E9 w9 h9; exact h9.elim
  rintro v1780 w1780 ⟨u1, rfl, z1780, rfl, g1780⟩
  refine ne_ws lw_mg1 ?_
  refine ne_istore X dL_law_1783 (by decide) ?_
  refine ne_aload_n X dL_law_1785 rfl ?_
  refine ne_aload_n X dL_law_1786 rfl ?_
  refine ne_iload X dL_law_1787 rfl ?_
  refine ne_iconst X dL_law_1789 ?_
  refine ne_iadd X dL_law_1790 ?_
  refine ne_sld X hX hbl hbA hb0 (by decide) (by omega) dL_law_1791 (fun z1791 e1791 l1791 r1791 => ?_)
  have y1791 : z1778 = z1791 := e1778.trans e1791.symm
  subst y1791
  refine ne_callVF (is := [13, 14, 15, 16, 17, 18, 19]) X nw_Tg (me_X3_tens l hl c q t b k h mv9 T hM (by omega) _ (by omega)) nw_yX3_tens nw_mL_281 nw_iX3_tens nw_eX3_tens (ci := 5) rfl rfl rfl dL_law_1792 rfl rfl (by decide) (by decide) (by first | decide | omega) (by first | decide | omega) (Nat.le_of_ble_eq_true rfl) (hcw _ _ _ _ _ _ _ _ _ _ _ _ _ _ _ _ _) rfl rfl (Nat.le_of_ble_eq_true rfl) lw_pt2 ?_ ?_
  rotate_left
  · rintro E9 w9 h9; exact h9.elim
  rintro v1792 w1792 ⟨mv91, rfl, hM1, z1792, rfl, g1792⟩
  refine ne_ws lw_mg2 ?_
  have hk : mv91 = z1780 := by rcases g1780 with h | h <;> rcases g1792 with h4 | h4 <;> omega
  have hu : z1780 = 0 → u1 = z1792 ∧ 1 ≤ u1 ∧ u1 ≤ 96 := by
              intro h0
              rcases g1780 with h | h
              · omega
              · rcases g1792 with h4 | h4
                · omega
                · exact ⟨ne_tenE h.2.2 h4.2.2, h.2.2.1, h.2.2.2.1⟩
  refine ne_istore X dL_law_1795 (by decide) ?_
  refine ne_ll (L' := [some (.ref 0), some (.ref 1), some (.ref 13), some (.ref 20), some (ni _), some (ni _), some (ni _)]) rfl ?_
  refine ne_goto (tgt := 2324) X dL_law_1797 rfl ?_
  refine ne_lnone 5 (ne_lnone 6 ?_)
  refine ne_ll (L' := [some (.ref 0), some (.ref 1), some (.ref 13), some (.ref 20), some (ni i), none, none]) rfl ?_
  refine ne_less (C' := C - 500) (S' := S - 3500) (by omega) (by omega) ?_
  exact kk _ _ _ _ _ _ _ _ _ _ _ _ (cI_mono hI (by omega)) hM1 hP hs
set_option maxRecDepth 100000 in
set_option maxHeartbeats 4000000 in
theorem lc_34 (hl : l.stackTraces = false) (X : ne_F nw_cl D ct A p l room_1 s9 m args meth c9 RL cL_law 7 nw_T 20 1000 600128 7301098) (hX : va_X b9 N9 xs s9 s9.heap) (hbl : b9 < s9.heap.size) (hbA : ¬ A b9) (hb0 : ad0 0 = b9) (i T : Int) (hi : 0 ≤ i ∧ i + 6 ≤ N9 ∧ N9 ≤ 384) (hT : 0 ≤ T ∧ T ≤ 100) (c q t b k n h x y  : Nat → Int) (mv9 u : Int) (sv : Value) (hI : cI c q t b k n h x y T) (hM : mI c q t b k h mv9 T) (hP : ∀ j : Nat, ne_per (t j) (b j) (n j)) (hs : sv = .null ∨ sv = .ref 21) (C S : Nat) (hC : 500 ≤ C) (hS : 3500 ≤ S) (kk : ∀ (c q t b k n h x y  : Nat → Int) (mv9 u : Int) (sv : Value), cI c q t b k n h x y (T + 1) → mI c q t b k h mv9 (T + 1) → (∀ j : Nat, ne_per (t j) (b j) (n j)) → (sv = .null ∨ sv = .ref 21) → ne_G nw_cl D ct A 1 ad0 p l e room_1 s9 m args below meth c9 Q9 7 600128 7301098 (C - 500) (S - 3500) 2324 [some (.ref 0), some (.ref 1), some (.ref 13), some (.ref 20), some (ni i), none, none] [] (lW c q t b k n h x y c q t b k h mv9 (nl u) sv)) : ne_G nw_cl D ct A 1 ad0 p l e room_1 s9 m args below meth c9 Q9 7 600128 7301098 C S 1800 [some (.ref 0), some (.ref 1), some (.ref 13), some (.ref 20), some (ni i), none, none] [] (lW c q t b k n h x y c q t b k h mv9 (nl u) sv) := by
  obtain ⟨s8, hs8, rfl⟩ : ∃ s8 : Value, (s8 = .null ∨ s8 = .ref 13) ∧ sv = ne_rn [1, 2, 3, 4, 5, 6, 7, 8, 9, 10, 11, 12, 20, 21] 22 s8 := by
    rcases hs with rfl | rfl
    · exact ⟨.null, Or.inl rfl, rfl⟩
    · exact ⟨.ref 13, Or.inr rfl, rfl⟩
  have hcw : ∀ (c q t b k n h x y mc9 mq9 mt9 mb9 mk9 mh9 : Nat → Int) (mv9 u : Int), ne_cw 22 (lW c q t b k n h x y mc9 mq9 mt9 mb9 mk9 mh9 mv9 (nl u) (ne_rn [1, 2, 3, 4, 5, 6, 7, 8, 9, 10, 11, 12, 20, 21] 22 s8)) = true := by
    intros
    rcases hs8 with rfl | rfl <;> rfl
  refine ne_aload_n X dL_law_1800 rfl ?_
  refine ne_aload_n X dL_law_1801 rfl ?_
  refine ne_iload X dL_law_1802 rfl ?_
  refine ne_iconst X dL_law_1804 ?_
  refine ne_iadd X dL_law_1805 ?_
  refine ne_sld X hX hbl hbA hb0 (by decide) (by omega) dL_law_1806 (fun z1806 e1806 l1806 r1806 => ?_)
  refine ne_aload_n X dL_law_1807 rfl ?_
  refine ne_iload X dL_law_1808 rfl ?_
  refine ne_iconst X dL_law_1810 ?_
  refine ne_iadd X dL_law_1811 ?_
  refine ne_sld X hX hbl hbA hb0 (by decide) (by omega) dL_law_1812 (fun z1812 e1812 l1812 r1812 => ?_)
  refine ne_aload_n X dL_law_1813 rfl ?_
  refine ne_callSFW (is := [1, 2, 3, 4, 5, 6, 7, 8, 9, 10, 11, 12, 20, 21]) X nw_Tg (me_L_restAt l hl c q t b k n h x y T hI (by omega) u s8 hs8 _ _ (by omega) (by omega)) nw_yL_restAt nw_mL_282 nw_sL_restAt dL_law_1814 rfl rfl (by decide) (by decide) (by first | decide | omega) (by first | decide | omega) (Nat.le_of_ble_eq_true rfl) (hcw _ _ _ _ _ _ _ _ _ _ _ _ _ _ _ _ _) rfl rfl (Nat.le_of_ble_eq_true rfl) lw_pt1 ?_ ?_
  rotate_left
  · rintro E9 w9 h9; exact h9.elim
  rintro v1814 w1814 ⟨x1, y1, u1, rfl, hI1, z1814, rfl⟩
  refine ne_ws lw_mg1 ?_
  refine ne_istore X dL_law_1817 (by decide) ?_
  refine ne_aload_n X dL_law_1819 rfl ?_
  refine ne_aload_n X dL_law_1820 rfl ?_
  refine ne_iload X dL_law_1821 rfl ?_
  refine ne_iconst X dL_law_1823 ?_
  refine ne_iadd X dL_law_1824 ?_
  refine ne_sld X hX hbl hbA hb0 (by decide) (by omega) dL_law_1825 (fun z1825 e1825 l1825 r1825 => ?_)
  have y1825 : z1806 = z1825 := e1806.trans e1825.symm
  subst y1825
  refine ne_aload_n X dL_law_1826 rfl ?_
  refine ne_iload X dL_law_1827 rfl ?_
  refine ne_iconst X dL_law_1829 ?_
  refine ne_iadd X dL_law_1830 ?_
  refine ne_sld X hX hbl hbA hb0 (by decide) (by omega) dL_law_1831 (fun z1831 e1831 l1831 r1831 => ?_)
  have y1831 : z1812 = z1831 := e1812.trans e1831.symm
  subst y1831
  refine ne_callVF (is := [13, 14, 15, 16, 17, 18, 19]) X nw_Tg (me_X3_restAt l hl c q t b k h mv9 T hM (by omega) _ _ (by omega) (by omega)) nw_yX3_restAt nw_mL_284 nw_iX3_restAt nw_eX3_restAt (ci := 5) rfl rfl rfl dL_law_1832 rfl rfl (by decide) (by decide) (by first | decide | omega) (by first | decide | omega) (Nat.le_of_ble_eq_true rfl) (hcw _ _ _ _ _ _ _ _ _ _ _ _ _ _ _ _ _) rfl rfl (Nat.le_of_ble_eq_true rfl) lw_pt2 ?_ ?_
  rotate_left
  · rintro E9 w9 h9; exact h9.elim
  rintro v1832 w1832 ⟨⟨mv91, rfl, hM1⟩, z1832, rfl, g1832⟩
  refine ne_ws lw_mg2 ?_
  refine ne_istore X dL_law_1835 (by decide) ?_
  refine ne_ll (L' := [some (.ref 0), some (.ref 1), some (.ref 13), some (.ref 20), some (ni _), some (ni _), some (ni _)]) rfl ?_
  refine ne_goto (tgt := 2324) X dL_law_1837 rfl ?_
  refine ne_lnone 5 (ne_lnone 6 ?_)
  refine ne_ll (L' := [some (.ref 0), some (.ref 1), some (.ref 13), some (.ref 20), some (ni i), none, none]) rfl ?_
  refine ne_less (C' := C - 500) (S' := S - 3500) (by omega) (by omega) ?_
  exact kk _ _ _ _ _ _ _ _ _ _ _ _ hI1 hM1 hP hs
set_option maxRecDepth 100000 in
set_option maxHeartbeats 4000000 in
theorem lc_35 (hl : l.stackTraces = false) (X : ne_F nw_cl D ct A p l room_1 s9 m args meth c9 RL cL_law 7 nw_T 20 1000 600128 7301098) (hX : va_X b9 N9 xs s9 s9.heap) (hbl : b9 < s9.heap.size) (hbA : ¬ A b9) (hb0 : ad0 0 = b9) (i T : Int) (hi : 0 ≤ i ∧ i + 6 ≤ N9 ∧ N9 ≤ 384) (hT : 0 ≤ T ∧ T ≤ 100) (c q t b k n h x y  : Nat → Int) (mv9 u : Int) (sv : Value) (hI : cI c q t b k n h x y T) (hM : mI c q t b k h mv9 T) (hP : ∀ j : Nat, ne_per (t j) (b j) (n j)) (hs : sv = .null ∨ sv = .ref 21) (C S : Nat) (hC : 500 ≤ C) (hS : 3500 ≤ S) (kk : ∀ (c q t b k n h x y  : Nat → Int) (mv9 u : Int) (sv : Value), cI c q t b k n h x y (T + 1) → mI c q t b k h mv9 (T + 1) → (∀ j : Nat, ne_per (t j) (b j) (n j)) → (sv = .null ∨ sv = .ref 21) → ne_G nw_cl D ct A 1 ad0 p l e room_1 s9 m args below meth c9 Q9 7 600128 7301098 (C - 500) (S - 3500) 2324 [some (.ref 0), some (.ref 1), some (.ref 13), some (.ref 20), some (ni i), none, none] [] (lW c q t b k n h x y c q t b k h mv9 (nl u) sv)) : ne_G nw_cl D ct A 1 ad0 p l e room_1 s9 m args below meth c9 Q9 7 600128 7301098 C S 1840 [some (.ref 0), some (.ref 1), some (.ref 13), some (.ref 20), some (ni i), none, none] [] (lW c q t b k n h x y c q t b k h mv9 (nl u) sv) := by
  rcases hs with rfl | rfl
  · refine ne_aload_n X dL_law_1840 rfl ?_
    refine ne_aload_n X dL_law_1841 rfl ?_
    refine ne_iload X dL_law_1842 rfl ?_
    refine ne_iconst X dL_law_1844 ?_
    refine ne_iadd X dL_law_1845 ?_
    refine ne_sld X hX hbl hbA hb0 (by decide) (by omega) dL_law_1846 (fun z1846 e1846 l1846 r1846 => ?_)
    refine ne_aload_n X dL_law_1847 rfl ?_
    refine ne_iload X dL_law_1848 rfl ?_
    refine ne_iconst X dL_law_1850 ?_
    refine ne_iadd X dL_law_1851 ?_
    refine ne_sld X hX hbl hbA hb0 (by decide) (by omega) dL_law_1852 (fun z1852 e1852 l1852 r1852 => ?_)
    refine ne_aload_n X dL_law_1853 rfl ?_
    refine ne_iload X dL_law_1854 rfl ?_
    refine ne_iconst X dL_law_1856 ?_
    refine ne_iadd X dL_law_1857 ?_
    refine ne_sld X hX hbl hbA hb0 (by decide) (by omega) dL_law_1858 (fun z1858 e1858 l1858 r1858 => ?_)
    refine ne_aload_n X dL_law_1859 rfl ?_
    refine ne_callSFW (is := [1, 2, 3, 4, 5, 6, 7, 8, 9, 10, 11, 12, 20, 21]) X nw_Tg (me_L_digitsFrom l hl c q t b k n h x y T hI (by omega) u .null (Or.inl rfl) _ _ _ (by omega) (by omega) (by omega)) nw_yL_digitsFrom nw_mL_285 nw_sL_digitsFrom dL_law_1860 rfl rfl (by decide) (by decide) (by first | decide | omega) (by first | decide | omega) (Nat.le_of_ble_eq_true rfl) rfl rfl rfl (Nat.le_of_ble_eq_true rfl) (lw_pt1 (s := .null)) ?_ ?_
    rotate_left
    · rintro E9 w9 h9; exact h9.elim
    rintro v1860 w1860 ⟨x1, y1, u1, s1, rfl, hI1, hs1, z1860, rfl⟩
    rcases hs1 with rfl | rfl
    · refine ne_take 22 ?_
      refine ne_ws lw_tkN ?_
      refine ne_istore X dL_law_1863 (by decide) ?_
      refine ne_aload_n X dL_law_1865 rfl ?_
      refine ne_aload_n X dL_law_1866 rfl ?_
      refine ne_iload X dL_law_1867 rfl ?_
      refine ne_iconst X dL_law_1869 ?_
      refine ne_iadd X dL_law_1870 ?_
      refine ne_sld X hX hbl hbA hb0 (by decide) (by omega) dL_law_1871 (fun z1871 e1871 l1871 r1871 => ?_)
      have y1871 : z1846 = z1871 := e1846.trans e1871.symm
      subst y1871
      refine ne_aload_n X dL_law_1872 rfl ?_
      refine ne_iload X dL_law_1873 rfl ?_
      refine ne_iconst X dL_law_1875 ?_
      refine ne_iadd X dL_law_1876 ?_
      refine ne_sld X hX hbl hbA hb0 (by decide) (by omega) dL_law_1877 (fun z1877 e1877 l1877 r1877 => ?_)
      have y1877 : z1852 = z1877 := e1852.trans e1877.symm
      subst y1877
      refine ne_aload_n X dL_law_1878 rfl ?_
      refine ne_iload X dL_law_1879 rfl ?_
      refine ne_iconst X dL_law_1881 ?_
      refine ne_iadd X dL_law_1882 ?_
      refine ne_sld X hX hbl hbA hb0 (by decide) (by omega) dL_law_1883 (fun z1883 e1883 l1883 r1883 => ?_)
      have y1883 : z1858 = z1883 := e1858.trans e1883.symm
      subst y1883
      refine ne_callVF (is := [13, 14, 15, 16, 17, 18, 19]) X nw_Tg (me_X3_digitsFrom l hl c q t b k h mv9 T hM (by omega) _ _ _ (by omega) (by omega) (by omega)) nw_yX3_digitsFrom nw_mL_287 nw_iX3_digitsFrom nw_eX3_digitsFrom (ci := 5) rfl rfl rfl dL_law_1884 rfl rfl (by decide) (by decide) (by first | decide | omega) (by first | decide | omega) (Nat.le_of_ble_eq_true rfl) rfl rfl rfl (Nat.le_of_ble_eq_true rfl) lw_pt2 ?_ ?_
      rotate_left
      · rintro E9 w9 h9; exact h9.elim
      rintro v1884 w1884 ⟨⟨mv91, rfl, hM1⟩, rfl⟩
      refine ne_ws lw_mg4 ?_
      refine ne_astore X dL_law_1887 (by decide) ?_
      refine ne_ll (L' := [some (.ref 0), some (.ref 1), some (.ref 13), some (.ref 20), some (ni _), some (ni _), some (.ref 22)]) rfl ?_
      refine ne_goto (tgt := 2324) X dL_law_1889 rfl ?_
      refine ne_lnone 5 (ne_lnone 6 ?_)
      refine ne_ll (L' := [some (.ref 0), some (.ref 1), some (.ref 13), some (.ref 20), some (ni i), none, none]) rfl ?_
      refine ne_take 22 ?_
      refine ne_ws lw_tk2 ?_
      refine ne_less (C' := C - 500) (S' := S - 3500) (by omega) (by omega) ?_
      exact kk _ _ _ _ _ _ _ _ _ _ _ _ hI1 hM1 hP (Or.inl rfl)
    · refine ne_viewb [0, 1, 2, 3, 4, 5, 6, 7, 8, 9, 10, 11, 12, 13, 14, 15, 16, 17, 18, 19, 20, 22] (ws' := lW c q t b k n h x1 y1 c q t b k h mv9 (nl u1) (.ref 21)) (L' := [some (.ref 0), some (.ref 1), some (.ref 13), some (.ref 20), some (ni i), none, none]) (st' := [ni z1860]) lw_vw (by decide) lw_vl rfl rfl rfl ?_
      refine ne_istore X dL_law_1863 (by decide) ?_
      refine ne_aload_n X dL_law_1865 rfl ?_
      refine ne_aload_n X dL_law_1866 rfl ?_
      refine ne_iload X dL_law_1867 rfl ?_
      refine ne_iconst X dL_law_1869 ?_
      refine ne_iadd X dL_law_1870 ?_
      refine ne_sld X hX hbl hbA hb0 (by decide) (by omega) dL_law_1871 (fun z1871 e1871 l1871 r1871 => ?_)
      have y1871 : z1846 = z1871 := e1846.trans e1871.symm
      subst y1871
      refine ne_aload_n X dL_law_1872 rfl ?_
      refine ne_iload X dL_law_1873 rfl ?_
      refine ne_iconst X dL_law_1875 ?_
      refine ne_iadd X dL_law_1876 ?_
      refine ne_sld X hX hbl hbA hb0 (by decide) (by omega) dL_law_1877 (fun z1877 e1877 l1877 r1877 => ?_)
      have y1877 : z1852 = z1877 := e1852.trans e1877.symm
      subst y1877
      refine ne_aload_n X dL_law_1878 rfl ?_
      refine ne_iload X dL_law_1879 rfl ?_
      refine ne_iconst X dL_law_1881 ?_
      refine ne_iadd X dL_law_1882 ?_
      refine ne_sld X hX hbl hbA hb0 (by decide) (by omega) dL_law_1883 (fun z1883 e1883 l1883 r1883 => ?_)
      have y1883 : z1858 = z1883 := e1858.trans e1883.symm
      subst y1883
      refine ne_callVF (is := [13, 14, 15, 16, 17, 18, 19]) X nw_Tg (me_X3_digitsFrom l hl c q t b k h mv9 T hM (by omega) _ _ _ (by omega) (by omega) (by omega)) nw_yX3_digitsFrom nw_mL_287 nw_iX3_digitsFrom nw_eX3_digitsFrom (ci := 5) rfl rfl rfl dL_law_1884 rfl rfl (by decide) (by decide) (by first | decide | omega) (by first | decide | omega) (Nat.le_of_ble_eq_true rfl) rfl rfl rfl (Nat.le_of_ble_eq_true rfl) lw_pt2 ?_ ?_
      rotate_left
      · rintro E9 w9 h9; exact h9.elim
      rintro v1884 w1884 ⟨⟨mv91, rfl, hM1⟩, rfl⟩
      refine ne_ws lw_mg4 ?_
      refine ne_astore X dL_law_1887 (by decide) ?_
      refine ne_ll (L' := [some (.ref 0), some (.ref 1), some (.ref 13), some (.ref 20), some (ni _), some (ni _), some (.ref 22)]) rfl ?_
      refine ne_goto (tgt := 2324) X dL_law_1889 rfl ?_
      refine ne_lnone 5 (ne_lnone 6 ?_)
      refine ne_ll (L' := [some (.ref 0), some (.ref 1), some (.ref 13), some (.ref 20), some (ni i), none, none]) rfl ?_
      refine ne_take 22 ?_
      refine ne_ws lw_tk2 ?_
      refine ne_less (C' := C - 500) (S' := S - 3500) (by omega) (by omega) ?_
      exact kk _ _ _ _ _ _ _ _ _ _ _ _ hI1 hM1 hP (Or.inr rfl)
  · refine ne_aload_n X dL_law_1840 rfl ?_
    refine ne_aload_n X dL_law_1841 rfl ?_
    refine ne_iload X dL_law_1842 rfl ?_
    refine ne_iconst X dL_law_1844 ?_
    refine ne_iadd X dL_law_1845 ?_
    refine ne_sld X hX hbl hbA hb0 (by decide) (by omega) dL_law_1846 (fun z1846 e1846 l1846 r1846 => ?_)
    refine ne_aload_n X dL_law_1847 rfl ?_
    refine ne_iload X dL_law_1848 rfl ?_
    refine ne_iconst X dL_law_1850 ?_
    refine ne_iadd X dL_law_1851 ?_
    refine ne_sld X hX hbl hbA hb0 (by decide) (by omega) dL_law_1852 (fun z1852 e1852 l1852 r1852 => ?_)
    refine ne_aload_n X dL_law_1853 rfl ?_
    refine ne_iload X dL_law_1854 rfl ?_
    refine ne_iconst X dL_law_1856 ?_
    refine ne_iadd X dL_law_1857 ?_
    refine ne_sld X hX hbl hbA hb0 (by decide) (by omega) dL_law_1858 (fun z1858 e1858 l1858 r1858 => ?_)
    refine ne_aload_n X dL_law_1859 rfl ?_
    refine ne_callSFW (is := [1, 2, 3, 4, 5, 6, 7, 8, 9, 10, 11, 12, 20, 21]) X nw_Tg (me_L_digitsFrom l hl c q t b k n h x y T hI (by omega) u (.ref 13) (Or.inr rfl) _ _ _ (by omega) (by omega) (by omega)) nw_yL_digitsFrom nw_mL_285 nw_sL_digitsFrom dL_law_1860 rfl rfl (by decide) (by decide) (by first | decide | omega) (by first | decide | omega) (Nat.le_of_ble_eq_true rfl) rfl rfl rfl (Nat.le_of_ble_eq_true rfl) (lw_pt1 (s := .ref 13)) ?_ ?_
    rotate_left
    · rintro E9 w9 h9; exact h9.elim
    rintro v1860 w1860 ⟨x1, y1, u1, s1, rfl, hI1, hs1, z1860, rfl⟩
    rcases hs1 with rfl | rfl
    · refine ne_take 22 ?_
      refine ne_ws lw_tkR ?_
      refine ne_istore X dL_law_1863 (by decide) ?_
      refine ne_aload_n X dL_law_1865 rfl ?_
      refine ne_aload_n X dL_law_1866 rfl ?_
      refine ne_iload X dL_law_1867 rfl ?_
      refine ne_iconst X dL_law_1869 ?_
      refine ne_iadd X dL_law_1870 ?_
      refine ne_sld X hX hbl hbA hb0 (by decide) (by omega) dL_law_1871 (fun z1871 e1871 l1871 r1871 => ?_)
      have y1871 : z1846 = z1871 := e1846.trans e1871.symm
      subst y1871
      refine ne_aload_n X dL_law_1872 rfl ?_
      refine ne_iload X dL_law_1873 rfl ?_
      refine ne_iconst X dL_law_1875 ?_
      refine ne_iadd X dL_law_1876 ?_
      refine ne_sld X hX hbl hbA hb0 (by decide) (by omega) dL_law_1877 (fun z1877 e1877 l1877 r1877 => ?_)
      have y1877 : z1852 = z1877 := e1852.trans e1877.symm
      subst y1877
      refine ne_aload_n X dL_law_1878 rfl ?_
      refine ne_iload X dL_law_1879 rfl ?_
      refine ne_iconst X dL_law_1881 ?_
      refine ne_iadd X dL_law_1882 ?_
      refine ne_sld X hX hbl hbA hb0 (by decide) (by omega) dL_law_1883 (fun z1883 e1883 l1883 r1883 => ?_)
      have y1883 : z1858 = z1883 := e1858.trans e1883.symm
      subst y1883
      refine ne_callVF (is := [13, 14, 15, 16, 17, 18, 19]) X nw_Tg (me_X3_digitsFrom l hl c q t b k h mv9 T hM (by omega) _ _ _ (by omega) (by omega) (by omega)) nw_yX3_digitsFrom nw_mL_287 nw_iX3_digitsFrom nw_eX3_digitsFrom (ci := 5) rfl rfl rfl dL_law_1884 rfl rfl (by decide) (by decide) (by first | decide | omega) (by first | decide | omega) (Nat.le_of_ble_eq_true rfl) rfl rfl rfl (Nat.le_of_ble_eq_true rfl) lw_pt2 ?_ ?_
      rotate_left
      · rintro E9 w9 h9; exact h9.elim
      rintro v1884 w1884 ⟨⟨mv91, rfl, hM1⟩, rfl⟩
      refine ne_ws lw_mg4 ?_
      refine ne_astore X dL_law_1887 (by decide) ?_
      refine ne_ll (L' := [some (.ref 0), some (.ref 1), some (.ref 13), some (.ref 20), some (ni _), some (ni _), some (.ref 22)]) rfl ?_
      refine ne_goto (tgt := 2324) X dL_law_1889 rfl ?_
      refine ne_lnone 5 (ne_lnone 6 ?_)
      refine ne_ll (L' := [some (.ref 0), some (.ref 1), some (.ref 13), some (.ref 20), some (ni i), none, none]) rfl ?_
      refine ne_take 22 ?_
      refine ne_ws lw_tk2 ?_
      refine ne_less (C' := C - 500) (S' := S - 3500) (by omega) (by omega) ?_
      exact kk _ _ _ _ _ _ _ _ _ _ _ _ hI1 hM1 hP (Or.inr rfl)
    · refine ne_viewb [0, 1, 2, 3, 4, 5, 6, 7, 8, 9, 10, 11, 12, 13, 14, 15, 16, 17, 18, 19, 20, 22] (ws' := lW c q t b k n h x1 y1 c q t b k h mv9 (nl u1) (.ref 21)) (L' := [some (.ref 0), some (.ref 1), some (.ref 13), some (.ref 20), some (ni i), none, none]) (st' := [ni z1860]) lw_vw (by decide) lw_vl rfl rfl rfl ?_
      refine ne_istore X dL_law_1863 (by decide) ?_
      refine ne_aload_n X dL_law_1865 rfl ?_
      refine ne_aload_n X dL_law_1866 rfl ?_
      refine ne_iload X dL_law_1867 rfl ?_
      refine ne_iconst X dL_law_1869 ?_
      refine ne_iadd X dL_law_1870 ?_
      refine ne_sld X hX hbl hbA hb0 (by decide) (by omega) dL_law_1871 (fun z1871 e1871 l1871 r1871 => ?_)
      have y1871 : z1846 = z1871 := e1846.trans e1871.symm
      subst y1871
      refine ne_aload_n X dL_law_1872 rfl ?_
      refine ne_iload X dL_law_1873 rfl ?_
      refine ne_iconst X dL_law_1875 ?_
      refine ne_iadd X dL_law_1876 ?_
      refine ne_sld X hX hbl hbA hb0 (by decide) (by omega) dL_law_1877 (fun z1877 e1877 l1877 r1877 => ?_)
      have y1877 : z1852 = z1877 := e1852.trans e1877.symm
      subst y1877
      refine ne_aload_n X dL_law_1878 rfl ?_
      refine ne_iload X dL_law_1879 rfl ?_
      refine ne_iconst X dL_law_1881 ?_
      refine ne_iadd X dL_law_1882 ?_
      refine ne_sld X hX hbl hbA hb0 (by decide) (by omega) dL_law_1883 (fun z1883 e1883 l1883 r1883 => ?_)
      have y1883 : z1858 = z1883 := e1858.trans e1883.symm
      subst y1883
      refine ne_callVF (is := [13, 14, 15, 16, 17, 18, 19]) X nw_Tg (me_X3_digitsFrom l hl c q t b k h mv9 T hM (by omega) _ _ _ (by omega) (by omega) (by omega)) nw_yX3_digitsFrom nw_mL_287 nw_iX3_digitsFrom nw_eX3_digitsFrom (ci := 5) rfl rfl rfl dL_law_1884 rfl rfl (by decide) (by decide) (by first | decide | omega) (by first | decide | omega) (Nat.le_of_ble_eq_true rfl) rfl rfl rfl (Nat.le_of_ble_eq_true rfl) lw_pt2 ?_ ?_
      rotate_left
      · rintro E9 w9 h9; exact h9.elim
      rintro v1884 w1884 ⟨⟨mv91, rfl, hM1⟩, rfl⟩
      refine ne_ws lw_mg4 ?_
      refine ne_astore X dL_law_1887 (by decide) ?_
      refine ne_ll (L' := [some (.ref 0), some (.ref 1), some (.ref 13), some (.ref 20), some (ni _), some (ni _), some (.ref 22)]) rfl ?_
      refine ne_goto (tgt := 2324) X dL_law_1889 rfl ?_
      refine ne_lnone 5 (ne_lnone 6 ?_)
      refine ne_ll (L' := [some (.ref 0), some (.ref 1), some (.ref 13), some (.ref 20), some (ni i), none, none]) rfl ?_
      refine ne_take 22 ?_
      refine ne_ws lw_tk2 ?_
      refine ne_less (C' := C - 500) (S' := S - 3500) (by omega) (by omega) ?_
      exact kk _ _ _ _ _ _ _ _ _ _ _ _ hI1 hM1 hP (Or.inr rfl)
end LAWS
