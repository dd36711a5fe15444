section LAWS
variable {D : va_G} {ct : Nat → ClassId} {A : Nat → Prop} {p : Program} {l : Launch} {e : Env} {s9 : State} {m : MethodId} {args : Array Value} {below : List Frame} {meth : Method} {c9 : Code} {Q9 : State → Prop} {b9 N9 : Nat} {xs : Nat → Int32} {ad0 : Nat → Nat}
set_option maxRecDepth 100000 in
set_option maxHeartbeats 4000000 in
theorem lc_24 (hl : l.stackTraces = false) (X : ne_F nw_cl D ct A p l room_1 s9 m args meth c9 RL cL_law 7 nw_T 20 1000 888398 6436287) (hX : va_X b9 N9 xs s9 s9.heap) (hbl : b9 < s9.heap.size) (hbA : ¬ A b9) (hb0 : ad0 0 = b9) (i T : Int) (hi : 0 ≤ i ∧ i + 6 ≤ N9 ∧ N9 ≤ 384) (hT : 0 ≤ T ∧ T ≤ 100) (c q t b k n h x y  : Nat → Int) (mv9 u : Int) (sv : Value) (hI : cI c q t b k n h x y T) (hM : mI c q t b k h mv9 T) (hP : ∀ j : Nat, ne_per (t j) (b j) (n j)) (hs : sv = .null ∨ sv = .ref 21) (C S : Nat) (hC : 500 ≤ C) (hS : 3500 ≤ S) (kk : ∀ (c q t b k n h x y  : Nat → Int) (mv9 u : Int) (sv : Value), cI c q t b k n h x y (T + 1) → mI c q t b k h mv9 (T + 1) → (∀ j : Nat, ne_per (t j) (b j) (n j)) → (sv = .null ∨ sv = .ref 21) → ne_G nw_cl D ct A 1 ad0 p l e room_1 s9 m args below meth c9 Q9 7 888398 6436287 (C - 500) (S - 3500) 2331 [some (.ref 0), some (.ref 1), some (.ref 13), some (.ref 20), some (ni i), none, none] [] (lW c q t b k n h x y c q t b k h mv9 (nl u) sv)) : ne_G nw_cl D ct A 1 ad0 p l e room_1 s9 m args below meth c9 Q9 7 888398 6436287 C S 1412 [some (.ref 0), some (.ref 1), some (.ref 13), some (.ref 20), some (ni i), none, none] [] (lW c q t b k n h x y c q t b k h mv9 (nl u) sv) := by
  rcases hs with rfl | rfl
  · refine ne_aload_n X dL_law_1412 rfl ?_
    refine ne_aload_n X dL_law_1413 rfl ?_
    refine ne_iload X dL_law_1414 rfl ?_
    refine ne_iconst X dL_law_1416 ?_
    refine ne_iadd X dL_law_1417 ?_
    refine ne_sld X hX hbl hbA hb0 (by decide) (by omega) dL_law_1418 (fun z1418 e1418 l1418 r1418 => ?_)
    refine ne_aload_n X dL_law_1419 rfl ?_
    refine ne_iload X dL_law_1420 rfl ?_
    refine ne_iconst X dL_law_1422 ?_
    refine ne_iadd X dL_law_1423 ?_
    refine ne_sld X hX hbl hbA hb0 (by decide) (by omega) dL_law_1424 (fun z1424 e1424 l1424 r1424 => ?_)
    refine ne_aload_n X dL_law_1425 rfl ?_
    refine ne_callSFW (is := [1, 2, 3, 4, 5, 6, 7, 8, 9, 10, 11, 12, 20, 21]) X nw_Tg (me_L_text l hl c q t b k n h x y T hI (by omega) u .null (Or.inl rfl) _ _ (by omega) (by omega)) nw_yL_text nw_mL_252 nw_sL_text dL_law_1426 rfl rfl (by decide) (by decide) (by first | decide | omega) (by first | decide | omega) (Nat.le_of_ble_eq_true rfl) rfl rfl rfl (Nat.le_of_ble_eq_true rfl) (lw_pt1 (s := .null)) ?_ ?_
    rotate_left
    · rintro E9 w9 h9; exact h9.elim
    rintro v1426 w1426 ⟨x1, y1, u1, s1, rfl, hI1, hs1, z1426, rfl⟩
    rcases hs1 with rfl | rfl
    · refine ne_take 22 ?_
      refine ne_ws lw_tkN ?_
      refine ne_istore X dL_law_1429 (by decide) ?_
      refine ne_aload_n X dL_law_1431 rfl ?_
      refine ne_aload_n X dL_law_1432 rfl ?_
      refine ne_iload X dL_law_1433 rfl ?_
      refine ne_iconst X dL_law_1435 ?_
      refine ne_iadd X dL_law_1436 ?_
      refine ne_sld X hX hbl hbA hb0 (by decide) (by omega) dL_law_1437 (fun z1437 e1437 l1437 r1437 => ?_)
      have y1437 : z1418 = z1437 := e1418.trans e1437.symm
      subst y1437
      refine ne_aload_n X dL_law_1438 rfl ?_
      refine ne_iload X dL_law_1439 rfl ?_
      refine ne_iconst X dL_law_1441 ?_
      refine ne_iadd X dL_law_1442 ?_
      refine ne_sld X hX hbl hbA hb0 (by decide) (by omega) dL_law_1443 (fun z1443 e1443 l1443 r1443 => ?_)
      have y1443 : z1424 = z1443 := e1424.trans e1443.symm
      subst y1443
      refine ne_callVF (is := [13, 14, 15, 16, 17, 18, 19]) X nw_Tg (me_X3_text l hl c q t b k h mv9 T hM (by omega) _ _ (by omega) (by omega)) nw_yX3_text nw_mL_254 nw_iX3_text nw_eX3_text (ci := 5) rfl rfl rfl dL_law_1444 rfl rfl (by decide) (by decide) (by first | decide | omega) (by first | decide | omega) (Nat.le_of_ble_eq_true rfl) rfl rfl rfl (Nat.le_of_ble_eq_true rfl) lw_pt2 ?_ ?_
      rotate_left
      · rintro E9 w9 h9; exact h9.elim
      rintro v1444 w1444 ⟨⟨mv91, rfl, hM1⟩, rfl⟩
      refine ne_ws lw_mg4 ?_
      refine ne_astore X dL_law_1447 (by decide) ?_
      refine ne_ll (L' := [some (.ref 0), some (.ref 1), some (.ref 13), some (.ref 20), some (ni _), some (ni _), some (.ref 22)]) rfl ?_
      refine ne_goto (tgt := 2331) X dL_law_1449 rfl ?_
      refine ne_lnone 5 (ne_lnone 6 ?_)
      refine ne_ll (L' := [some (.ref 0), some (.ref 1), some (.ref 13), some (.ref 20), some (ni i), none, none]) rfl ?_
      refine ne_take 22 ?_
      refine ne_ws lw_tk2 ?_
      refine ne_less (C' := C - 500) (S' := S - 3500) (by omega) (by omega) ?_
      exact kk _ _ _ _ _ _ _ _ _ _ _ _ hI1 hM1 hP (Or.inl rfl)
    · refine ne_viewb [0, 1, 2, 3, 4, 5, 6, 7, 8, 9, 10, 11, 12, 13, 14, 15, 16, 17, 18, 19, 20, 22] (ws' := lW c q t b k n h x1 y1 c q t b k h mv9 (nl u1) (.ref 21)) (L' := [some (.ref 0), some (.ref 1), some (.ref 13), some (.ref 20), some (ni i), none, none]) (st' := [ni z1426]) lw_vw (by decide) lw_vl rfl rfl rfl ?_
      refine ne_istore X dL_law_1429 (by decide) ?_
      refine ne_aload_n X dL_law_1431 rfl ?_
      refine ne_aload_n X dL_law_1432 rfl ?_
      refine ne_iload X dL_law_1433 rfl ?_
      refine ne_iconst X dL_law_1435 ?_
      refine ne_iadd X dL_law_1436 ?_
      refine ne_sld X hX hbl hbA hb0 (by decide) (by omega) dL_law_1437 (fun z1437 e1437 l1437 r1437 => ?_)
      have y1437 : z1418 = z1437 := e1418.trans e1437.symm
      subst y1437
      refine ne_aload_n X dL_law_1438 rfl ?_
      refine ne_iload X dL_law_1439 rfl ?_
      refine ne_iconst X dL_law_1441 ?_
      refine ne_iadd X dL_law_1442 ?_
      refine ne_sld X hX hbl hbA hb0 (by decide) (by omega) dL_law_1443 (fun z1443 e1443 l1443 r1443 => ?_)
      have y1443 : z1424 = z1443 := e1424.trans e1443.symm
      subst y1443
      refine ne_callVF (is := [13, 14, 15, 16, 17, 18, 19]) X nw_Tg (me_X3_text l hl c q t b k h mv9 T hM (by omega) _ _ (by omega) (by omega)) nw_yX3_text nw_mL_254 nw_iX3_text nw_eX3_text (ci := 5) rfl rfl rfl dL_law_1444 rfl rfl (by decide) (by decide) (by first | decide | omega) (by first | decide | omega) (Nat.le_of_ble_eq_true rfl) rfl rfl rfl (Nat.le_of_ble_eq_true rfl) lw_pt2 ?_ ?_
      rotate_left
      · rintro E9 w9 h9; exact h9.elim
      rintro v1444 w1444 ⟨⟨mv91, rfl, hM1⟩, rfl⟩
      refine ne_ws lw_mg4 ?_
      refine ne_astore X dL_law_1447 (by decide) ?_
      refine ne_ll (L' := [some (.ref 0), some (.ref 1), some (.ref 13), some (.ref 20), some (ni _), some (ni _), some (.ref 22)]) rfl ?_
      refine ne_goto (tgt := 2331) X dL_law_1449 rfl ?_
      refine ne_lnone 5 (ne_lnone 6 ?_)
      refine ne_ll (L' := [some (.ref 0), some (.ref 1), some (.ref 13), some (.ref 20), some (ni i), none, none]) rfl ?_
      refine ne_take 22 ?_
      refine ne_ws lw_tk2 ?_
      refine ne_less (C' := C - 500) (S' := S - 3500) (by omega) (by omega) ?_
      exact kk _ _ _ _ _ _ _ _ _ _ _ _ hI1 hM1 hP (Or.inr rfl)
  · refine ne_aload_n X dL_law_1412 rfl ?_
    refine ne_aload_n X dL_law_1413 rfl ?_
    refine ne_iload X dL_law_1414 rfl ?_
    refine ne_iconst X dL_law_1416 ?_
    refine ne_iadd X dL_law_1417 ?_
    refine ne_sld X hX hbl hbA hb0 (by decide) (by omega) dL_law_1418 (fun z1418 e1418 l1418 r1418 => ?_)
    refine ne_aload_n X dL_law_1419 rfl ?_
    refine ne_iload X dL_law_1420 rfl ?_
    refine ne_iconst X dL_law_1422 ?_
    refine ne_iadd X dL_law_1423 ?_
    refine ne_sld X hX hbl hbA hb0 (by decide) (by omega) dL_law_1424 (fun z1424 e1424 l1424 r1424 => ?_)
    refine ne_aload_n X dL_law_1425 rfl ?_
    refine ne_callSFW (is := [1, 2, 3, 4, 5, 6, 7, 8, 9, 10, 11, 12, 20, 21]) X nw_Tg (me_L_text l hl c q t b k n h x y T hI (by omega) u (.ref 13) (Or.inr rfl) _ _ (by omega) (by omega)) nw_yL_text nw_mL_252 nw_sL_text dL_law_1426 rfl rfl (by decide) (by decide) (by first | decide | omega) (by first | decide | omega) (Nat.le_of_ble_eq_true rfl) rfl rfl rfl (Nat.le_of_ble_eq_true rfl) (lw_pt1 (s := .ref 13)) ?_ ?_
    rotate_left
    · rintro E9 w9 h9; exact h9.elim
    rintro v1426 w1426 ⟨x1, y1, u1, s1, rfl, hI1, hs1, z1426, rfl⟩
    rcases hs1 with rfl | rfl
    · refine ne_take 22 ?_
      refine ne_ws lw_tkR ?_
      refine ne_istore X dL_law_1429 (by decide) ?_
      refine ne_aload_n X dL_law_1431 rfl ?_
      refine ne_aload_n X dL_law_1432 rfl ?_
      refine ne_iload X dL_law_1433 rfl ?_
      refine ne_iconst X dL_law_1435 ?_
      refine ne_iadd X dL_law_1436 ?_
      refine ne_sld X hX hbl hbA hb0 (by decide) (by omega) dL_law_1437 (fun z1437 e1437 l1437 r1437 => ?_)
      have y1437 : z1418 = z1437 := e1418.trans e1437.symm
      subst y1437
      refine ne_aload_n X dL_law_1438 rfl ?_
      refine ne_iload X dL_law_1439 rfl ?_
      refine ne_iconst X dL_law_1441 ?_
      refine ne_iadd X dL_law_1442 ?_
      refine ne_sld X hX hbl hbA hb0 (by decide) (by omega) dL_law_1443 (fun z1443 e1443 l1443 r1443 => ?_)
      have y1443 : z1424 = z1443 := e1424.trans e1443.symm
      subst y1443
      refine ne_callVF (is := [13, 14, 15, 16, 17, 18, 19]) X nw_Tg (me_X3_text l hl c q t b k h mv9 T hM (by omega) _ _ (by omega) (by omega)) nw_yX3_text nw_mL_254 nw_iX3_text nw_eX3_text (ci := 5) rfl rfl rfl dL_law_1444 rfl rfl (by decide) (by decide) (by first | decide | omega) (by first | decide | omega) (Nat.le_of_ble_eq_true rfl) rfl rfl rfl (Nat.le_of_ble_eq_true rfl) lw_pt2 ?_ ?_
      rotate_left
      · rintro E9 w9 h9; exact h9.elim
      rintro v1444 w1444 ⟨⟨mv91, rfl, hM1⟩, rfl⟩
      refine ne_ws lw_mg4 ?_
      refine ne_astore X dL_law_1447 (by decide) ?_
      refine ne_ll (L' := [some (.ref 0), some (.ref 1), some (.ref 13), some (.ref 20), some (ni _), some (ni _), some (.ref 22)]) rfl ?_
      refine ne_goto (tgt := 2331) X dL_law_1449 rfl ?_
      refine ne_lnone 5 (ne_lnone 6 ?_)
      refine ne_ll (L' := [some (.ref 0), some (.ref 1), some (.ref 13), some (.ref 20), some (ni i), none, none]) rfl ?_
      refine ne_take 22 ?_
      refine ne_ws lw_tk2 ?_
      refine ne_less (C' := C - 500) (S' := S - 3500) (by omega) (by omega) ?_
      exact kk _ _ _ _ _ _ _ _ _ _ _ _ hI1 hM1 hP (Or.inr rfl)
    · refine ne_viewb [0, 1, 2, 3, 4, 5, 6, 7, 8, 9, 10, 11, 12, 13, 14, 15, 16, 17, 18, 19, 20, 22] (ws' := lW c q t b k n h x1 y1 c q t b k h mv9 (nl u1) (.ref 21)) (L' := [some (.ref 0), some (.ref 1), some (.ref 13), some (.ref 20), some (ni i), none, none]) (st' := [ni z1426]) lw_vw (by decide) lw_vl rfl rfl rfl ?_
      refine ne_istore X dL_law_1429 (by decide) ?_
      refine ne_aload_n X dL_law_1431 rfl ?_
      refine ne_aload_n X dL_law_1432 rfl ?_
      refine ne_iload X dL_law_1433 rfl ?_
      refine ne_iconst X dL_law_1435 ?_
      refine ne_iadd X dL_law_1436 ?_
      refine ne_sld X hX hbl hbA hb0 (by decide) (by omega) dL_law_1437 (fun z1437 e1437 l1437 r1437 => ?_)
      have y1437 : z1418 = z1437 := e1418.trans e1437.symm
      subst y1437
      refine ne_aload_n X dL_law_1438 rfl ?_
      refine ne_iload X dL_law_1439 rfl ?_
      refine ne_iconst X dL_law_1441 ?_
      refine ne_iadd X dL_law_1442 ?_
      refine ne_sld X hX hbl hbA hb0 (by decide) (by omega) dL_law_1443 (fun z1443 e1443 l1443 r1443 => ?_)
      have y1443 : z1424 = z1443 := e1424.trans e1443.symm
      subst y1443
      refine ne_callVF (is := [13, 14, 15, 16, 17, 18, 19]) X nw_Tg (me_X3_text l hl c q t b k h mv9 T hM (by omega) _ _ (by omega) (by omega)) nw_yX3_text nw_mL_254 nw_iX3_text nw_eX3_text (ci := 5) rfl rfl rfl dL_law_1444 rfl rfl (by decide) (by decide) (by first | decide | omega) (by first | decide | omega) (Nat.le_of_ble_eq_true rfl) rfl rfl rfl (Nat.le_of_ble_eq_true rfl) lw_pt2 ?_ ?_
      rotate_left
      · rintro E9 w9 h9; exact h9.elim
      rintro v1444 w1444 ⟨⟨mv91, rfl, hM1⟩, rfl⟩
      refine ne_ws lw_mg4 ?_
      refine ne_astore X dL_law_1447 (by decide) ?_
      refine ne_ll (L' := [some (.ref 0), some (.ref 1), some (.ref 13), some (.ref 20), some (ni _), some (ni _), some (.ref 22)]) rfl ?_
      refine ne_goto (tgt := 2331) X dL_law_1449 rfl ?_
      refine ne_lnone 5 (ne_lnone 6 ?_)
      refine ne_ll (L' := [some (.ref 0), some (.ref 1), some (.ref 13), some (.ref 20), some (ni i), none, none]) rfl ?_
      refine ne_take 22 ?_
      refine ne_ws lw_tk2 ?_
      refine ne_less (C' := C - 500) (S' := S - 3500) (by omega) (by omega) ?_
      exact kk _ _ _ _ _ _ _ _ _ _ _ _ hI1 hM1 hP (Or.inr rfl)
set_option maxRecDepth 100000 in
set_option maxHeartbeats 4000000 in
theorem lc_25 (hl : l.stackTraces = false) (X : ne_F nw_cl D ct A p l room_1 s9 m args meth c9 RL cL_law 7 nw_T 20 1000 888398 6436287) (hX : va_X b9 N9 xs s9 s9.heap) (hbl : b9 < s9.heap.size) (hbA : ¬ A b9) (hb0 : ad0 0 = b9) (i T : Int) (hi : 0 ≤ i ∧ i + 6 ≤ N9 ∧ N9 ≤ 384) (hT : 0 ≤ T ∧ T ≤ 100) (c q t b k n h x y  : Nat → Int) (mv9 u : Int) (sv : Value) (hI : cI c q t b k n h x y T) (hM : mI c q t b k h mv9 T) (hP : ∀ j : Nat, ne_per (t j) (b j) (n j)) (hs : sv = .null ∨ sv = .ref 21) (C S : Nat) (hC : 500 ≤ C) (hS : 3500 ≤ S) (kk : ∀ (c q t b k n h x y  : Nat → Int) (mv9 u : Int) (sv : Value), cI c q t b k n h x y (T + 1) → mI c q t b k h mv9 (T + 1) → (∀ j : Nat, ne_per (t j) (b j) (n j)) → (sv = .null ∨ sv = .ref 21) → ne_G nw_cl D ct A 1 ad0 p l e room_1 s9 m args below meth c9 Q9 7 888398 6436287 (C - 500) (S - 3500) 2331 [some (.ref 0), some (.ref 1), some (.ref 13), some (.ref 20), some (ni i), none, none] [] (lW c q t b k n h x y c q t b k h mv9 (nl u) sv)) : ne_G nw_cl D ct A 1 ad0 p l e room_1 s9 m args below meth c9 Q9 7 888398 6436287 C S 1452 [some (.ref 0), some (.ref 1), some (.ref 13), some (.ref 20), some (ni i), none, none] [] (lW c q t b k n h x y c q t b k h mv9 (nl u) sv) := by
  obtain ⟨s8, hs8, rfl⟩ : ∃ s8 : Value, (s8 = .null ∨ s8 = .ref 13) ∧ sv = ne_rn [1, 2, 3, 4, 5, 6, 7, 8, 9, 10, 11, 12, 20, 21] 22 s8 := by
    rcases hs with rfl | rfl
    · exact ⟨.null, Or.inl rfl, rfl⟩
    · exact ⟨.ref 13, Or.inr rfl, rfl⟩
  have hcw : ∀ (c q t b k n h x y mc9 mq9 mt9 mb9 mk9 mh9 : Nat → Int) (mv9 u : Int), ne_cw 22 (lW c q t b k n h x y mc9 mq9 mt9 mb9 mk9 mh9 mv9 (nl u) (ne_rn [1, 2, 3, 4, 5, 6, 7, 8, 9, 10, 11, 12, 20, 21] 22 s8)) = true := by
    intros
    rcases hs8 with rfl | rfl <;> rfl
  refine ne_aload_n X dL_law_1452 rfl ?_
  refine ne_aload_n X dL_law_1453 rfl ?_
  refine ne_iload X dL_law_1454 rfl ?_
  refine ne_iconst X dL_law_1456 ?_
  refine ne_iadd X dL_law_1457 ?_
  refine ne_sld X hX hbl hbA hb0 (by decide) (by omega) dL_law_1458 (fun z1458 e1458 l1458 r1458 => ?_)
  refine ne_aload_n X dL_law_1459 rfl ?_
  refine ne_iload X dL_law_1460 rfl ?_
  refine ne_iconst X dL_law_1462 ?_
  refine ne_iadd X dL_law_1463 ?_
  refine ne_sld X hX hbl hbA hb0 (by decide) (by omega) dL_law_1464 (fun z1464 e1464 l1464 r1464 => ?_)
  refine ne_aload_n X dL_law_1465 rfl ?_
  refine ne_callSFW (is := [1, 2, 3, 4, 5, 6, 7, 8, 9, 10, 11, 12, 20, 21]) X nw_Tg (me_L_order l hl c q t b k n h x y T hI (by omega) u s8 hs8 _ _ (by omega) (by omega)) nw_yL_order nw_mL_255 nw_sL_order dL_law_1466 rfl rfl (by decide) (by decide) (by first | decide | omega) (by first | decide | omega) (Nat.le_of_ble_eq_true rfl) (hcw _ _ _ _ _ _ _ _ _ _ _ _ _ _ _ _ _) rfl rfl (Nat.le_of_ble_eq_true rfl) lw_pt1 ?_ ?_
  rotate_left
  · rintro E9 w9 h9; exact h9.elim
  rintro v1466 w1466 ⟨x1, y1, u1, rfl, hI1, z1466, rfl⟩
  refine ne_ws lw_mg1 ?_
  refine ne_istore X dL_law_1469 (by decide) ?_
  refine ne_aload_n X dL_law_1471 rfl ?_
  refine ne_aload_n X dL_law_1472 rfl ?_
  refine ne_iload X dL_law_1473 rfl ?_
  refine ne_iconst X dL_law_1475 ?_
  refine ne_iadd X dL_law_1476 ?_
  refine ne_sld X hX hbl hbA hb0 (by decide) (by omega) dL_law_1477 (fun z1477 e1477 l1477 r1477 => ?_)
  have y1477 : z1458 = z1477 := e1458.trans e1477.symm
  subst y1477
  refine ne_aload_n X dL_law_1478 rfl ?_
  refine ne_iload X dL_law_1479 rfl ?_
  refine ne_iconst X dL_law_1481 ?_
  refine ne_iadd X dL_law_1482 ?_
  refine ne_sld X hX hbl hbA hb0 (by decide) (by omega) dL_law_1483 (fun z1483 e1483 l1483 r1483 => ?_)
  have y1483 : z1464 = z1483 := e1464.trans e1483.symm
  subst y1483
  refine ne_callVF (is := [13, 14, 15, 16, 17, 18, 19]) X nw_Tg (me_X3_order l hl c q t b k h mv9 T hM (by omega) _ _ (by omega) (by omega)) nw_yX3_order nw_mL_257 nw_iX3_order nw_eX3_order (ci := 5) rfl rfl rfl dL_law_1484 rfl rfl (by decide) (by decide) (by first | decide | omega) (by first | decide | omega) (Nat.le_of_ble_eq_true rfl) (hcw _ _ _ _ _ _ _ _ _ _ _ _ _ _ _ _ _) rfl rfl (Nat.le_of_ble_eq_true rfl) lw_pt2 ?_ ?_
  rotate_left
  · rintro E9 w9 h9; exact h9.elim
  rintro v1484 w1484 ⟨⟨mv91, rfl, hM1⟩, z1484, rfl, g1484⟩
  refine ne_ws lw_mg2 ?_
  refine ne_istore X dL_law_1487 (by decide) ?_
  refine ne_ll (L' := [some (.ref 0), some (.ref 1), some (.ref 13), some (.ref 20), some (ni _), some (ni _), some (ni _)]) rfl ?_
  refine ne_goto (tgt := 2331) X dL_law_1489 rfl ?_
  refine ne_lnone 5 (ne_lnone 6 ?_)
  refine ne_ll (L' := [some (.ref 0), some (.ref 1), some (.ref 13), some (.ref 20), some (ni i), none, none]) rfl ?_
  refine ne_less (C' := C - 500) (S' := S - 3500) (by omega) (by omega) ?_
  exact kk _ _ _ _ _ _ _ _ _ _ _ _ hI1 hM1 hP hs
set_option maxRecDepth 100000 in
set_option maxHeartbeats 4000000 in
theorem lc_26 (hl : l.stackTraces = false) (X : ne_F nw_cl D ct A p l room_1 s9 m args meth c9 RL cL_law 7 nw_T 20 1000 888398 6436287) (hX : va_X b9 N9 xs s9 s9.heap) (hbl : b9 < s9.heap.size) (hbA : ¬ A b9) (hb0 : ad0 0 = b9) (i T : Int) (hi : 0 ≤ i ∧ i + 6 ≤ N9 ∧ N9 ≤ 384) (hT : 0 ≤ T ∧ T ≤ 100) (c q t b k n h x y  : Nat → Int) (mv9 u : Int) (sv : Value) (hI : cI c q t b k n h x y T) (hM : mI c q t b k h mv9 T) (hP : ∀ j : Nat, ne_per (t j) (b j) (n j)) (hs : sv = .null ∨ sv = .ref 21) (C S : Nat) (hC : 500 ≤ C) (hS : 3500 ≤ S) (kk : ∀ (c q t b k n h x y  : Nat → Int) (mv9 u : Int) (sv : Value), cI c q t b k n h x y (T + 1) → mI c q t b k h mv9 (T + 1) → (∀ j : Nat, ne_per (t j) (b j) (n j)) → (sv = .null ∨ sv = .ref 21) → ne_G nw_cl D ct A 1 ad0 p l e room_1 s9 m args below meth c9 Q9 7 888398 6436287 (C - 500) (S - 3500) 2331 [some (.ref 0), some (.ref 1), some (.ref 13), some (.ref 20), some (ni i), none, none] [] (lW c q t b k n h x y c q t b k h mv9 (nl u) sv)) : ne_G nw_cl D ct A 1 ad0 p l e room_1 s9 m args below meth c9 Q9 7 888398 6436287 C S 1492 [some (.ref 0), some (.ref 1), some (.ref 13), some (.ref 20), some (ni i), none, none] [] (lW c q t b k n h x y c q t b k h mv9 (nl u) sv) := by
  obtain ⟨s8, hs8, rfl⟩ : ∃ s8 : Value, (s8 = .null ∨ s8 = .ref 13) ∧ sv = ne_rn [1, 2, 3, 4, 5, 6, 7, 8, 9, 10, 11, 12, 20, 21] 22 s8 := by
    rcases hs with rfl | rfl
    · exact ⟨.null, Or.inl rfl, rfl⟩
    · exact ⟨.ref 13, Or.inr rfl, rfl⟩
  have hcw : ∀ (c q t b k n h x y mc9 mq9 mt9 mb9 mk9 mh9 : Nat → Int) (mv9 u : Int), ne_cw 22 (lW c q t b k n h x y mc9 mq9 mt9 mb9 mk9 mh9 mv9 (nl u) (ne_rn [1, 2, 3, 4, 5, 6, 7, 8, 9, 10, 11, 12, 20, 21] 22 s8)) = true := by
    intros
    rcases hs8 with rfl | rfl <;> rfl
  refine ne_aload_n X dL_law_1492 rfl ?_
  refine ne_aload_n X dL_law_1493 rfl ?_
  refine ne_iload X dL_law_1494 rfl ?_
  refine ne_iconst X dL_law_1496 ?_
  refine ne_iadd X dL_law_1497 ?_
  refine ne_sld X hX hbl hbA hb0 (by decide) (by omega) dL_law_1498 (fun z1498 e1498 l1498 r1498 => ?_)
  refine ne_aload_n X dL_law_1499 rfl ?_
  refine ne_iload X dL_law_1500 rfl ?_
  refine ne_iconst X dL_law_1502 ?_
  refine ne_iadd X dL_law_1503 ?_
  refine ne_sld X hX hbl hbA hb0 (by decide) (by omega) dL_law_1504 (fun z1504 e1504 l1504 r1504 => ?_)
  refine ne_aload_n X dL_law_1505 rfl ?_
  refine ne_callSFW (is := [1, 2, 3, 4, 5, 6, 7, 8, 9, 10, 11, 12, 20, 21]) X nw_Tg (me_L_same l hl c q t b k n h x y T hI (by omega) u s8 hs8 _ _ (by omega) (by omega)) nw_yL_same nw_mL_258 nw_sL_same dL_law_1506 rfl rfl (by decide) (by decide) (by first | decide | omega) (by first | decide | omega) (Nat.le_of_ble_eq_true rfl) (hcw _ _ _ _ _ _ _ _ _ _ _ _ _ _ _ _ _) rfl rfl (Nat.le_of_ble_eq_true rfl) lw_pt1 ?_ ?_
  rotate_left
  · rintro E9 w9 h9; exact h9.elim
  rintro v1506 w1506 ⟨u1, rfl, z1506, rfl, g1506⟩
  have hI1 := cI_mono hI (show T ≤ T + 1 by omega)
  refine ne_ws lw_mg1 ?_
  refine ne_istore X dL_law_1509 (by decide) ?_
  refine ne_aload_n X dL_law_1511 rfl ?_
  refine ne_aload_n X dL_law_1512 rfl ?_
  refine ne_iload X dL_law_1513 rfl ?_
  refine ne_iconst X dL_law_1515 ?_
  refine ne_iadd X dL_law_1516 ?_
  refine ne_sld X hX hbl hbA hb0 (by decide) (by omega) dL_law_1517 (fun z1517 e1517 l1517 r1517 => ?_)
  have y1517 : z1498 = z1517 := e1498.trans e1517.symm
  subst y1517
  refine ne_aload_n X dL_law_1518 rfl ?_
  refine ne_iload X dL_law_1519 rfl ?_
  refine ne_iconst X dL_law_1521 ?_
  refine ne_iadd X dL_law_1522 ?_
  refine ne_sld X hX hbl hbA hb0 (by decide) (by omega) dL_law_1523 (fun z1523 e1523 l1523 r1523 => ?_)
  have y1523 : z1504 = z1523 := e1504.trans e1523.symm
  subst y1523
  refine ne_callVF (is := [13, 14, 15, 16, 17, 18, 19]) X nw_Tg (me_X3_sameW l hl c q t b k h mv9 T hM (by omega) _ _ (by omega) (by omega)) nw_yX3_same nw_mL_260 nw_iX3_same nw_eX3_same (ci := 5) rfl rfl rfl dL_law_1524 rfl rfl (by decide) (by decide) (by first | decide | omega) (by first | decide | omega) (Nat.le_of_ble_eq_true rfl) (hcw _ _ _ _ _ _ _ _ _ _ _ _ _ _ _ _ _) rfl rfl (Nat.le_of_ble_eq_true rfl) lw_pt2 ?_ ?_
  rotate_left
  · rintro E9 w9 h9; exact h9.elim
  rintro v1524 w1524 ⟨mv91, z1524, rfl, hM1, rfl, g1524⟩
  refine ne_ws lw_mg2 ?_
  obtain ⟨hk, hu⟩ := cn_same g1506 g1524
  refine ne_istore X dL_law_1527 (by decide) ?_
  refine ne_ll (L' := [some (.ref 0), some (.ref 1), some (.ref 13), some (.ref 20), some (ni _), some (ni _), some (ni _)]) rfl ?_
  refine ne_aload_n X dL_law_1529 rfl ?_
  refine ne_callVF (is := [13, 14, 15, 16, 17, 18, 19]) X nw_Tg (me_X3_thrown l hl c q t b k h mv91 (T + 1) hM1 (by omega)) nw_yX3_thrown nw_mL_261 nw_iX3_thrown nw_eX3_thrown (ci := 5) rfl rfl rfl dL_law_1530 rfl rfl (by decide) (by decide) (by first | decide | omega) (by first | decide | omega) (Nat.le_of_ble_eq_true rfl) (hcw _ _ _ _ _ _ _ _ _ _ _ _ _ _ _ _ _) rfl rfl (Nat.le_of_ble_eq_true rfl) lw_pt2 ?_ ?_
  rotate_left
  · rintro E9 w9 h9; exact h9.elim
  rintro v1530 w1530 ⟨rfl, rfl⟩
  refine ne_ws lw_mg2 ?_
  refine ne_iload X dL_law_1533 rfl ?_
  refine ne_icmp_eq (tgt := 1540) X dL_law_1535 rfl (by omega) (by omega) (fun b1535 => ?_) (fun b1535 => ?_)
  · refine ne_iload X dL_law_1540 rfl ?_
    refine ne_if_ne (tgt := 1565) X dL_law_1542 rfl (by omega) (fun b1542 => ?_) (fun b1542 => ?_)
    · refine ne_goto (tgt := 2331) X dL_law_1565 rfl ?_
      refine ne_lnone 5 (ne_lnone 6 ?_)
      refine ne_ll (L' := [some (.ref 0), some (.ref 1), some (.ref 13), some (.ref 20), some (ni i), none, none]) rfl ?_
      refine ne_less (C' := C - 500) (S' := S - 3500) (by omega) (by omega) ?_
      exact kk _ _ _ _ _ _ _ _ _ _ _ _ hI1 hM1 hP hs
    · have hu2 := hu (by omega)
      refine ne_aload_n X dL_law_1545 rfl ?_
      refine ne_getfn X dL_law_1546 nw_fL_13 rfl rfl ?_
      refine ne_iload X dL_law_1549 rfl ?_
      refine ne_if_eq (tgt := 1558) X dL_law_1551 rfl (by omega) (fun b1551 => ?_) (fun b1551 => ?_)
      · refine ne_lconst (z := 0) (by decide) X dL_law_1558 ?_
        refine ne_lcif_eq (tgt := 1565) X dL_law_1559 dL_law_1560 rfl (by omega) (by omega) (fun b1560 => ?_) (fun b1560 => ?_)
        · refine ne_goto (tgt := 2331) X dL_law_1565 rfl ?_
          refine ne_lnone 5 (ne_lnone 6 ?_)
          refine ne_ll (L' := [some (.ref 0), some (.ref 1), some (.ref 13), some (.ref 20), some (ni i), none, none]) rfl ?_
          refine ne_less (C' := C - 500) (S' := S - 3500) (by omega) (by omega) ?_
          exact kk _ _ _ _ _ _ _ _ _ _ _ _ hI1 hM1 hP hs
        · exfalso; omega
      · refine ne_lconst (z := 1) (by decide) X dL_law_1554 ?_
        refine ne_goto (tgt := 1559) X dL_law_1555 rfl ?_
        refine ne_lcif_eq (tgt := 1565) X dL_law_1559 dL_law_1560 rfl (by omega) (by omega) (fun b1560 => ?_) (fun b1560 => ?_)
        · refine ne_goto (tgt := 2331) X dL_law_1565 rfl ?_
          refine ne_lnone 5 (ne_lnone 6 ?_)
          refine ne_ll (L' := [some (.ref 0), some (.ref 1), some (.ref 13), some (.ref 20), some (ni i), none, none]) rfl ?_
          refine ne_less (C' := C - 500) (S' := S - 3500) (by omega) (by omega) ?_
          exact kk _ _ _ _ _ _ _ _ _ _ _ _ hI1 hM1 hP hs
        · exfalso; omega
  · exfalso; omega
set_option maxRecDepth 100000 in
set_option maxHeartbeats 4000000 in
theorem lc_27 (hl : l.stackTraces = false) (X : ne_F nw_cl D ct A p l room_1 s9 m args meth c9 RL cL_law 7 nw_T 20 1000 888398 6436287) (hX : va_X b9 N9 xs s9 s9.heap) (hbl : b9 < s9.heap.size) (hbA : ¬ A b9) (hb0 : ad0 0 = b9) (i T : Int) (hi : 0 ≤ i ∧ i + 6 ≤ N9 ∧ N9 ≤ 384) (hT : 0 ≤ T ∧ T ≤ 100) (c q t b k n h x y  : Nat → Int) (mv9 u : Int) (sv : Value) (hI : cI c q t b k n h x y T) (hM : mI c q t b k h mv9 T) (hP : ∀ j : Nat, ne_per (t j) (b j) (n j)) (hs : sv = .null ∨ sv = .ref 21) (C S : Nat) (hC : 500 ≤ C) (hS : 3500 ≤ S) (kk : ∀ (c q t b k n h x y  : Nat → Int) (mv9 u : Int) (sv : Value), cI c q t b k n h x y (T + 1) → mI c q t b k h mv9 (T + 1) → (∀ j : Nat, ne_per (t j) (b j) (n j)) → (sv = .null ∨ sv = .ref 21) → ne_G nw_cl D ct A 1 ad0 p l e room_1 s9 m args below meth c9 Q9 7 888398 6436287 (C - 500) (S - 3500) 2331 [some (.ref 0), some (.ref 1), some (.ref 13), some (.ref 20), some (ni i), none, none] [] (lW c q t b k n h x y c q t b k h mv9 (nl u) sv)) : ne_G nw_cl D ct A 1 ad0 p l e room_1 s9 m args below meth c9 Q9 7 888398 6436287 C S 1568 [some (.ref 0), some (.ref 1), some (.ref 13), some (.ref 20), some (ni i), none, none] [] (lW c q t b k n h x y c q t b k h mv9 (nl u) sv) := by
  obtain ⟨s8, hs8, rfl⟩ : ∃ s8 : Value, (s8 = .null ∨ s8 = .ref 13) ∧ sv = ne_rn [1, 2, 3, 4, 5, 6, 7, 8, 9, 10, 11, 12, 20, 21] 22 s8 := by
    rcases hs with rfl | rfl
    · exact ⟨.null, Or.inl rfl, rfl⟩
    · exact ⟨.ref 13, Or.inr rfl, rfl⟩
  have hcw : ∀ (c q t b k n h x y mc9 mq9 mt9 mb9 mk9 mh9 : Nat → Int) (mv9 u : Int), ne_cw 22 (lW c q t b k n h x y mc9 mq9 mt9 mb9 mk9 mh9 mv9 (nl u) (ne_rn [1, 2, 3, 4, 5, 6, 7, 8, 9, 10, 11, 12, 20, 21] 22 s8)) = true := by
    intros
    rcases hs8 with rfl | rfl <;> rfl
  refine ne_aload_n X dL_law_1568 rfl ?_
  refine ne_aload_n X dL_law_1569 rfl ?_
  refine ne_iload X dL_law_1570 rfl ?_
  refine ne_iconst X dL_law_1572 ?_
  refine ne_iadd X dL_law_1573 ?_
  refine ne_sld X hX hbl hbA hb0 (by decide) (by omega) dL_law_1574 (fun z1574 e1574 l1574 r1574 => ?_)
  refine ne_aload_n X dL_law_1575 rfl ?_
  refine ne_iload X dL_law_1576 rfl ?_
  refine ne_iconst X dL_law_1578 ?_
  refine ne_iadd X dL_law_1579 ?_
  refine ne_sld X hX hbl hbA hb0 (by decide) (by omega) dL_law_1580 (fun z1580 e1580 l1580 r1580 => ?_)
  refine ne_aload_n X dL_law_1581 rfl ?_
  refine ne_iload X dL_law_1582 rfl ?_
  refine ne_iconst X dL_law_1584 ?_
  refine ne_iadd X dL_law_1585 ?_
  refine ne_sld X hX hbl hbA hb0 (by decide) (by omega) dL_law_1586 (fun z1586 e1586 l1586 r1586 => ?_)
  refine ne_aload_n X dL_law_1587 rfl ?_
  refine ne_callSFW (is := [1, 2, 3, 4, 5, 6, 7, 8, 9, 10, 11, 12, 20, 21]) X nw_Tg (me_L_setWheel l hl c q t b k n h x y T hI (by omega) u s8 hs8 _ _ _ (by omega) (by omega) (by omega)) nw_yL_setWheel nw_mL_265 nw_sL_setWheel dL_law_1588 rfl rfl (by decide) (by decide) (by first | decide | omega) (by first | decide | omega) (Nat.le_of_ble_eq_true rfl) (hcw _ _ _ _ _ _ _ _ _ _ _ _ _ _ _ _ _) rfl rfl (Nat.le_of_ble_eq_true rfl) lw_pt1 ?_ ?_
  rotate_left
  · rintro E9 w9 h9; exact h9.elim
  rintro v1588 w1588 ⟨t1, b1, k1, n1, h1, u1, rfl, hI1, z1588, rfl, g1588⟩
  refine ne_ws lw_mg1 ?_
  refine ne_istore X dL_law_1591 (by decide) ?_
  refine ne_aload_n X dL_law_1593 rfl ?_
  refine ne_aload_n X dL_law_1594 rfl ?_
  refine ne_iload X dL_law_1595 rfl ?_
  refine ne_iconst X dL_law_1597 ?_
  refine ne_iadd X dL_law_1598 ?_
  refine ne_sld X hX hbl hbA hb0 (by decide) (by omega) dL_law_1599 (fun z1599 e1599 l1599 r1599 => ?_)
  have y1599 : z1574 = z1599 := e1574.trans e1599.symm
  subst y1599
  refine ne_aload_n X dL_law_1600 rfl ?_
  refine ne_iload X dL_law_1601 rfl ?_
  refine ne_iconst X dL_law_1603 ?_
  refine ne_iadd X dL_law_1604 ?_
  refine ne_sld X hX hbl hbA hb0 (by decide) (by omega) dL_law_1605 (fun z1605 e1605 l1605 r1605 => ?_)
  have y1605 : z1580 = z1605 := e1580.trans e1605.symm
  subst y1605
  refine ne_aload_n X dL_law_1606 rfl ?_
  refine ne_iload X dL_law_1607 rfl ?_
  refine ne_iconst X dL_law_1609 ?_
  refine ne_iadd X dL_law_1610 ?_
  refine ne_sld X hX hbl hbA hb0 (by decide) (by omega) dL_law_1611 (fun z1611 e1611 l1611 r1611 => ?_)
  have y1611 : z1586 = z1611 := e1586.trans e1611.symm
  subst y1611
  refine ne_callVF (is := [13, 14, 15, 16, 17, 18, 19]) X nw_Tg (me_X3_setWheelW l hl c q t b k h mv9 T hM (by omega) _ _ _ (by omega) (by omega) (by omega)) nw_yX3_setWheel nw_mL_267 nw_iX3_setWheel nw_eX3_setWheel (ci := 5) rfl rfl rfl dL_law_1612 rfl rfl (by decide) (by decide) (by first | decide | omega) (by first | decide | omega) (Nat.le_of_ble_eq_true rfl) (hcw _ _ _ _ _ _ _ _ _ _ _ _ _ _ _ _ _) rfl rfl (Nat.le_of_ble_eq_true rfl) lw_pt2 ?_ ?_
  rotate_left
  · rintro E9 w9 h9; exact h9.elim
  rintro v1612 w1612 ⟨t2, b2, k2, h2, mv91, z1612, rfl, hM1, rfl, g1612⟩
  refine ne_ws lw_mg2 ?_
  obtain ⟨hk, hu, e7, e8, e9, e10, hP1⟩ := cn_setWheel (k := k) hP g1588 g1612
  subst e7 e8 e9 e10
  refine ne_istore X dL_law_1615 (by decide) ?_
  refine ne_ll (L' := [some (.ref 0), some (.ref 1), some (.ref 13), some (.ref 20), some (ni _), some (ni _), some (ni _)]) rfl ?_
  refine ne_goto (tgt := 2331) X dL_law_1617 rfl ?_
  refine ne_lnone 5 (ne_lnone 6 ?_)
  refine ne_ll (L' := [some (.ref 0), some (.ref 1), some (.ref 13), some (.ref 20), some (ni i), none, none]) rfl ?_
  refine ne_less (C' := C - 500) (S' := S - 3500) (by omega) (by omega) ?_
  exact kk _ _ _ _ _ _ _ _ _ _ _ _ hI1 hM1 hP1 hs
set_option maxRecDepth 100000 in
set_option maxHeartbeats 4000000 in
theorem lc_28 (hl : l.stackTraces = false) (X : ne_F nw_cl D ct A p l room_1 s9 m args meth c9 RL cL_law 7 nw_T 20 1000 888398 6436287) (hX : va_X b9 N9 xs s9 s9.heap) (hbl : b9 < s9.heap.size) (hbA : ¬ A b9) (hb0 : ad0 0 = b9) (i T : Int) (hi : 0 ≤ i ∧ i + 6 ≤ N9 ∧ N9 ≤ 384) (hT : 0 ≤ T ∧ T ≤ 100) (c q t b k n h x y  : Nat → Int) (mv9 u : Int) (sv : Value) (hI : cI c q t b k n h x y T) (hM : mI c q t b k h mv9 T) (hP : ∀ j : Nat, ne_per (t j) (b j) (n j)) (hs : sv = .null ∨ sv = .ref 21) (C S : Nat) (hC : 500 ≤ C) (hS : 3500 ≤ S) (kk : ∀ (c q t b k n h x y  : Nat → Int) (mv9 u : Int) (sv : Value), cI c q t b k n h x y (T + 1) → mI c q t b k h mv9 (T + 1) → (∀ j : Nat, ne_per (t j) (b j) (n j)) → (sv = .null ∨ sv = .ref 21) → ne_G nw_cl D ct A 1 ad0 p l e room_1 s9 m args below meth c9 Q9 7 888398 6436287 (C - 500) (S - 3500) 2331 [some (.ref 0), some (.ref 1), some (.ref 13), some (.ref 20), some (ni i), none, none] [] (lW c q t b k n h x y c q t b k h mv9 (nl u) sv)) : ne_G nw_cl D ct A 1 ad0 p l e room_1 s9 m args below meth c9 Q9 7 888398 6436287 C S 1620 [some (.ref 0), some (.ref 1), some (.ref 13), some (.ref 20), some (ni i), none, none] [] (lW c q t b k n h x y c q t b k h mv9 (nl u) sv) := by
  obtain ⟨s8, hs8, rfl⟩ : ∃ s8 : Value, (s8 = .null ∨ s8 = .ref 13) ∧ sv = ne_rn [1, 2, 3, 4, 5, 6, 7, 8, 9, 10, 11, 12, 20, 21] 22 s8 := by
    rcases hs with rfl | rfl
    · exact ⟨.null, Or.inl rfl, rfl⟩
    · exact ⟨.ref 13, Or.inr rfl, rfl⟩
  have hcw : ∀ (c q t b k n h x y mc9 mq9 mt9 mb9 mk9 mh9 : Nat → Int) (mv9 u : Int), ne_cw 22 (lW c q t b k n h x y mc9 mq9 mt9 mb9 mk9 mh9 mv9 (nl u) (ne_rn [1, 2, 3, 4, 5, 6, 7, 8, 9, 10, 11, 12, 20, 21] 22 s8)) = true := by
    intros
    rcases hs8 with rfl | rfl <;> rfl
  refine ne_aload_n X dL_law_1620 rfl ?_
  refine ne_aload_n X dL_law_1621 rfl ?_
  refine ne_iload X dL_law_1622 rfl ?_
  refine ne_iconst X dL_law_1624 ?_
  refine ne_iadd X dL_law_1625 ?_
  refine ne_sld X hX hbl hbA hb0 (by decide) (by omega) dL_law_1626 (fun z1626 e1626 l1626 r1626 => ?_)
  refine ne_aload_n X dL_law_1627 rfl ?_
  refine ne_callSFW (is := [1, 2, 3, 4, 5, 6, 7, 8, 9, 10, 11, 12, 20, 21]) X nw_Tg (me_L_step l hl c q t b k n h x y T hI (by omega) u s8 hs8 _ (by omega)) nw_yL_step nw_mL_268 nw_sL_step dL_law_1628 rfl rfl (by decide) (by decide) (by first | decide | omega) (by first | decide | omega) (Nat.le_of_ble_eq_true rfl) (hcw _ _ _ _ _ _ _ _ _ _ _ _ _ _ _ _ _) rfl rfl (Nat.le_of_ble_eq_true rfl) lw_pt1 ?_ ?_
  rotate_left
  · rintro E9 w9 h9; exact h9.elim
  rintro v1628 w1628 ⟨t1, b1, k1, n1, h1, u1, rfl, hI1, z1628, rfl, g1628⟩
  refine ne_ws lw_mg1 ?_
  refine ne_istore X dL_law_1631 (by decide) ?_
  refine ne_aload_n X dL_law_1633 rfl ?_
  refine ne_aload_n X dL_law_1634 rfl ?_
  refine ne_iload X dL_law_1635 rfl ?_
  refine ne_iconst X dL_law_1637 ?_
  refine ne_iadd X dL_law_1638 ?_
  refine ne_sld X hX hbl hbA hb0 (by decide) (by omega) dL_law_1639 (fun z1639 e1639 l1639 r1639 => ?_)
  have y1639 : z1626 = z1639 := e1626.trans e1639.symm
  subst y1639
  refine ne_callVF (is := [13, 14, 15, 16, 17, 18, 19]) X nw_Tg (me_X3_stepW l hl c q t b k h mv9 T hM (by omega) _ (by omega)) nw_yX3_step nw_mL_270 nw_iX3_step nw_eX3_step (ci := 5) rfl rfl rfl dL_law_1640 rfl rfl (by decide) (by decide) (by first | decide | omega) (by first | decide | omega) (Nat.le_of_ble_eq_true rfl) (hcw _ _ _ _ _ _ _ _ _ _ _ _ _ _ _ _ _) rfl rfl (Nat.le_of_ble_eq_true rfl) lw_pt2 ?_ ?_
  rotate_left
  · rintro E9 w9 h9; exact h9.elim
  rintro v1640 w1640 ⟨t2, b2, k2, h2, mv91, z1640, rfl, hM1, rfl, g1640⟩
  refine ne_ws lw_mg2 ?_
  obtain ⟨hk, hu, e7, e8, e9, e10, hP1⟩ := cn_step (k := k) hP g1628 g1640
  subst e7 e8 e9 e10
  refine ne_istore X dL_law_1643 (by decide) ?_
  refine ne_ll (L' := [some (.ref 0), some (.ref 1), some (.ref 13), some (.ref 20), some (ni _), some (ni _), some (ni _)]) rfl ?_
  refine ne_goto (tgt := 2331) X dL_law_1645 rfl ?_
  refine ne_lnone 5 (ne_lnone 6 ?_)
  refine ne_ll (L' := [some (.ref 0), some (.ref 1), some (.ref 13), some (.ref 20), some (ni i), none, none]) rfl ?_
  refine ne_less (C' := C - 500) (S' := S - 3500) (by omega) (by omega) ?_
  exact kk _ _ _ _ _ _ _ _ _ _ _ _ hI1 hM1 hP1 hs
set_option maxRecDepth 100000 in
set_option maxHeartbeats 4000000 in
theorem lc_29 (hl : l.stackTraces = false) (X : ne_F nw_cl D ct A p l room_1 s9 m args meth c9 RL cL_law 7 nw_T 20 1000 888398 6436287) (hX : va_X b9 N9 xs s9 s9.heap) (hbl : b9 < s9.heap.size) (hbA : ¬ A b9) (hb0 : ad0 0 = b9) (i T : Int) (hi : 0 ≤ i ∧ i + 6 ≤ N9 ∧ N9 ≤ 384) (hT : 0 ≤ T ∧ T ≤ 100) (c q t b k n h x y  : Nat → Int) (mv9 u : Int) (sv : Value) (hI : cI c q t b k n h x y T) (hM : mI c q t b k h mv9 T) (hP : ∀ j : Nat, ne_per (t j) (b j) (n j)) (hs : sv = .null ∨ sv = .ref 21) (C S : Nat) (hC : 500 ≤ C) (hS : 3500 ≤ S) (kk : ∀ (c q t b k n h x y  : Nat → Int) (mv9 u : Int) (sv : Value), cI c q t b k n h x y (T + 1) → mI c q t b k h mv9 (T + 1) → (∀ j : Nat, ne_per (t j) (b j) (n j)) → (sv = .null ∨ sv = .ref 21) → ne_G nw_cl D ct A 1 ad0 p l e room_1 s9 m args below meth c9 Q9 7 888398 6436287 (C - 500) (S - 3500) 2331 [some (.ref 0), some (.ref 1), some (.ref 13), some (.ref 20), some (ni i), none, none] [] (lW c q t b k n h x y c q t b k h mv9 (nl u) sv)) : ne_G nw_cl D ct A 1 ad0 p l e room_1 s9 m args below meth c9 Q9 7 888398 6436287 C S 1648 [some (.ref 0), some (.ref 1), some (.ref 13), some (.ref 20), some (ni i), none, none] [] (lW c q t b k n h x y c q t b k h mv9 (nl u) sv) := by
  obtain ⟨s8, hs8, rfl⟩ : ∃ s8 : Value, (s8 = .null ∨ s8 = .ref 13) ∧ sv = ne_rn [1, 2, 3, 4, 5, 6, 7, 8, 9, 10, 11, 12, 20, 21] 22 s8 := by
    rcases hs with rfl | rfl
    · exact ⟨.null, Or.inl rfl, rfl⟩
    · exact ⟨.ref 13, Or.inr rfl, rfl⟩
  have hcw : ∀ (c q t b k n h x y mc9 mq9 mt9 mb9 mk9 mh9 : Nat → Int) (mv9 u : Int), ne_cw 22 (lW c q t b k n h x y mc9 mq9 mt9 mb9 mk9 mh9 mv9 (nl u) (ne_rn [1, 2, 3, 4, 5, 6, 7, 8, 9, 10, 11, 12, 20, 21] 22 s8)) = true := by
    intros
    rcases hs8 with rfl | rfl <;> rfl
  refine ne_aload_n X dL_law_1648 rfl ?_
  refine ne_aload_n X dL_law_1649 rfl ?_
  refine ne_iload X dL_law_1650 rfl ?_
  refine ne_iconst X dL_law_1652 ?_
  refine ne_iadd X dL_law_1653 ?_
  refine ne_sld X hX hbl hbA hb0 (by decide) (by omega) dL_law_1654 (fun z1654 e1654 l1654 r1654 => ?_)
  refine ne_aload_n X dL_law_1655 rfl ?_
  refine ne_iload X dL_law_1656 rfl ?_
  refine ne_iconst X dL_law_1658 ?_
  refine ne_iadd X dL_law_1659 ?_
  refine ne_sld X hX hbl hbA hb0 (by decide) (by omega) dL_law_1660 (fun z1660 e1660 l1660 r1660 => ?_)
  refine ne_aload_n X dL_law_1661 rfl ?_
  refine ne_callSFW (is := [1, 2, 3, 4, 5, 6, 7, 8, 9, 10, 11, 12, 20, 21]) X nw_Tg (me_L_turn l hl c q t b k n h x y T hI (by omega) u s8 hs8 _ _ (by omega) (by omega)) nw_yL_turn nw_mL_271 nw_sL_turn dL_law_1662 rfl rfl (by decide) (by decide) (by first | decide | omega) (by first | decide | omega) (Nat.le_of_ble_eq_true rfl) (hcw _ _ _ _ _ _ _ _ _ _ _ _ _ _ _ _ _) rfl rfl (Nat.le_of_ble_eq_true rfl) lw_pt1 ?_ ?_
  rotate_left
  · rintro E9 w9 h9; exact h9.elim
  rintro v1662 w1662 ⟨t1, b1, k1, n1, h1, u1, rfl, hI1, z1662, rfl, g1662⟩
  refine ne_ws lw_mg1 ?_
  refine ne_istore X dL_law_1665 (by decide) ?_
  refine ne_aload_n X dL_law_1667 rfl ?_
  refine ne_aload_n X dL_law_1668 rfl ?_
  refine ne_iload X dL_law_1669 rfl ?_
  refine ne_iconst X dL_law_1671 ?_
  refine ne_iadd X dL_law_1672 ?_
  refine ne_sld X hX hbl hbA hb0 (by decide) (by omega) dL_law_1673 (fun z1673 e1673 l1673 r1673 => ?_)
  have y1673 : z1654 = z1673 := e1654.trans e1673.symm
  subst y1673
  refine ne_aload_n X dL_law_1674 rfl ?_
  refine ne_iload X dL_law_1675 rfl ?_
  refine ne_iconst X dL_law_1677 ?_
  refine ne_iadd X dL_law_1678 ?_
  refine ne_sld X hX hbl hbA hb0 (by decide) (by omega) dL_law_1679 (fun z1679 e1679 l1679 r1679 => ?_)
  have y1679 : z1660 = z1679 := e1660.trans e1679.symm
  subst y1679
  refine ne_callVF (is := [13, 14, 15, 16, 17, 18, 19]) X nw_Tg (me_X3_turnW l hl c q t b k h mv9 T hM (by omega) _ _ (by omega) (by omega)) nw_yX3_turn nw_mL_273 nw_iX3_turn nw_eX3_turn (ci := 5) rfl rfl rfl dL_law_1680 rfl rfl (by decide) (by decide) (by first | decide | omega) (by first | decide | omega) (Nat.le_of_ble_eq_true rfl) (hcw _ _ _ _ _ _ _ _ _ _ _ _ _ _ _ _ _) rfl rfl (Nat.le_of_ble_eq_true rfl) lw_pt2 ?_ ?_
  rotate_left
  · rintro E9 w9 h9; exact h9.elim
  rintro v1680 w1680 ⟨t2, b2, k2, h2, mv91, z1680, rfl, hM1, rfl, g1680⟩
  refine ne_ws lw_mg2 ?_
  obtain ⟨hk, hu, e7, e8, e9, e10, hP1⟩ := cn_turn (k := k) hP g1662 g1680
  subst e7 e8 e9 e10
  refine ne_istore X dL_law_1683 (by decide) ?_
  refine ne_ll (L' := [some (.ref 0), some (.ref 1), some (.ref 13), some (.ref 20), some (ni _), some (ni _), some (ni _)]) rfl ?_
  refine ne_goto (tgt := 2331) X dL_law_1685 rfl ?_
  refine ne_lnone 5 (ne_lnone 6 ?_)
  refine ne_ll (L' := [some (.ref 0), some (.ref 1), some (.ref 13), some (.ref 20), some (ni i), none, none]) rfl ?_
  refine ne_less (C' := C - 500) (S' := S - 3500) (by omega) (by omega) ?_
  exact kk _ _ _ _ _ _ _ _ _ _ _ _ hI1 hM1 hP1 hs
set_option maxRecDepth 100000 in
set_option maxHeartbeats 4000000 in
theorem lc_30 (hl : l.stackTraces = false) (X : ne_F nw_cl D ct A p l room_1 s9 m args meth c9 RL cL_law 7 nw_T 20 1000 888398 6436287) (hX : va_X b9 N9 xs s9 s9.heap) (hbl : b9 < s9.heap.size) (hbA : ¬ A b9) (hb0 : ad0 0 = b9) (i T : Int) (hi : 0 ≤ i ∧ i + 6 ≤ N9 ∧ N9 ≤ 384) (hT : 0 ≤ T ∧ T ≤ 100) (c q t b k n h x y  : Nat → Int) (mv9 u : Int) (sv : Value) (hI : cI c q t b k n h x y T) (hM : mI c q t b k h mv9 T) (hP : ∀ j : Nat, ne_per (t j) (b j) (n j)) (hs : sv = .null ∨ sv = .ref 21) (C S : Nat) (hC : 500 ≤ C) (hS : 3500 ≤ S) (kk : ∀ (c q t b k n h x y  : Nat → Int) (mv9 u : Int) (sv : Value), cI c q t b k n h x y (T + 1) → mI c q t b k h mv9 (T + 1) → (∀ j : Nat, ne_per (t j) (b j) (n j)) → (sv = .null ∨ sv = .ref 21) → ne_G nw_cl D ct A 1 ad0 p l e room_1 s9 m args below meth c9 Q9 7 888398 6436287 (C - 500) (S - 3500) 2331 [some (.ref 0), some (.ref 1), some (.ref 13), some (.ref 20), some (ni i), none, none] [] (lW c q t b k n h x y c q t b k h mv9 (nl u) sv)) : ne_G nw_cl D ct A 1 ad0 p l e room_1 s9 m args below meth c9 Q9 7 888398 6436287 C S 1688 [some (.ref 0), some (.ref 1), some (.ref 13), some (.ref 20), some (ni i), none, none] [] (lW c q t b k n h x y c q t b k h mv9 (nl u) sv) := by
  obtain ⟨s8, hs8, rfl⟩ : ∃ s8 : Value, (s8 = .null ∨ s8 = .ref 13) ∧ sv = ne_rn [1, 2, 3, 4, 5, 6, 7, 8, 9, 10, 11, 12, 20, 21] 22 s8 := by
    rcases hs with rfl | rfl
    · exact ⟨.null, Or.inl rfl, rfl⟩
    · exact ⟨.ref 13, Or.inr rfl, rfl⟩
  have hcw : ∀ (c q t b k n h x y mc9 mq9 mt9 mb9 mk9 mh9 : Nat → Int) (mv9 u : Int), ne_cw 22 (lW c q t b k n h x y mc9 mq9 mt9 mb9 mk9 mh9 mv9 (nl u) (ne_rn [1, 2, 3, 4, 5, 6, 7, 8, 9, 10, 11, 12, 20, 21] 22 s8)) = true := by
    intros
    rcases hs8 with rfl | rfl <;> rfl
  refine ne_aload_n X dL_law_1688 rfl ?_
  refine ne_aload_n X dL_law_1689 rfl ?_
  refine ne_iload X dL_law_1690 rfl ?_
  refine ne_iconst X dL_law_1692 ?_
  refine ne_iadd X dL_law_1693 ?_
  refine ne_sld X hX hbl hbA hb0 (by decide) (by omega) dL_law_1694 (fun z1694 e1694 l1694 r1694 => ?_)
  refine ne_aload_n X dL_law_1695 rfl ?_
  refine ne_iload X dL_law_1696 rfl ?_
  refine ne_iconst X dL_law_1698 ?_
  refine ne_iadd X dL_law_1699 ?_
  refine ne_sld X hX hbl hbA hb0 (by decide) (by omega) dL_law_1700 (fun z1700 e1700 l1700 r1700 => ?_)
  refine ne_aload_n X dL_law_1701 rfl ?_
  refine ne_iload X dL_law_1702 rfl ?_
  refine ne_iconst X dL_law_1704 ?_
  refine ne_iadd X dL_law_1705 ?_
  refine ne_sld X hX hbl hbA hb0 (by decide) (by omega) dL_law_1706 (fun z1706 e1706 l1706 r1706 => ?_)
  refine ne_aload_n X dL_law_1707 rfl ?_
  refine ne_callSFW (is := [1, 2, 3, 4, 5, 6, 7, 8, 9, 10, 11, 12, 20, 21]) X nw_Tg (me_L_times l hl c q t b k n h x y T hI (by omega) u s8 hs8 _ _ _ (by omega) (by omega) (by omega)) nw_yL_times nw_mL_274 nw_sL_times dL_law_1708 rfl rfl (by decide) (by decide) (by first | decide | omega) (by first | decide | omega) (Nat.le_of_ble_eq_true rfl) (hcw _ _ _ _ _ _ _ _ _ _ _ _ _ _ _ _ _) rfl rfl (Nat.le_of_ble_eq_true rfl) lw_pt1 ?_ ?_
  rotate_left
  · rintro E9 w9 h9; exact h9.elim
  rintro v1708 w1708 ⟨t1, b1, k1, n1, h1, u1, rfl, hI1, z1708, rfl, g1708⟩
  refine ne_ws lw_mg1 ?_
  refine ne_istore X dL_law_1711 (by decide) ?_
  refine ne_aload_n X dL_law_1713 rfl ?_
  refine ne_aload_n X dL_law_1714 rfl ?_
  refine ne_iload X dL_law_1715 rfl ?_
  refine ne_iconst X dL_law_1717 ?_
  refine ne_iadd X dL_law_1718 ?_
  refine ne_sld X hX hbl hbA hb0 (by decide) (by omega) dL_law_1719 (fun z1719 e1719 l1719 r1719 => ?_)
  have y1719 : z1694 = z1719 := e1694.trans e1719.symm
  subst y1719
  refine ne_aload_n X dL_law_1720 rfl ?_
  refine ne_iload X dL_law_1721 rfl ?_
  refine ne_iconst X dL_law_1723 ?_
  refine ne_iadd X dL_law_1724 ?_
  refine ne_sld X hX hbl hbA hb0 (by decide) (by omega) dL_law_1725 (fun z1725 e1725 l1725 r1725 => ?_)
  have y1725 : z1700 = z1725 := e1700.trans e1725.symm
  subst y1725
  refine ne_aload_n X dL_law_1726 rfl ?_
  refine ne_iload X dL_law_1727 rfl ?_
  refine ne_iconst X dL_law_1729 ?_
  refine ne_iadd X dL_law_1730 ?_
  refine ne_sld X hX hbl hbA hb0 (by decide) (by omega) dL_law_1731 (fun z1731 e1731 l1731 r1731 => ?_)
  have y1731 : z1706 = z1731 := e1706.trans e1731.symm
  subst y1731
  refine ne_callVF (is := [13, 14, 15, 16, 17, 18, 19]) X nw_Tg (me_X3_timesW l hl c q t b k h mv9 T hM (by omega) _ _ _ (by omega) (by omega) (by omega)) nw_yX3_times nw_mL_276 nw_iX3_times nw_eX3_times (ci := 5) rfl rfl rfl dL_law_1732 rfl rfl (by decide) (by decide) (by first | decide | omega) (by first | decide | omega) (Nat.le_of_ble_eq_true rfl) (hcw _ _ _ _ _ _ _ _ _ _ _ _ _ _ _ _ _) rfl rfl (Nat.le_of_ble_eq_true rfl) lw_pt2 ?_ ?_
  rotate_left
  · rintro E9 w9 h9; exact h9.elim
  rintro v1732 w1732 ⟨t2, b2, k2, h2, mv91, z1732, rfl, hM1, rfl, g1732⟩
  refine ne_ws lw_mg2 ?_
  obtain ⟨hk, hu, e7, e8, e9, e10, hP1⟩ := cn_times (k := k) hP hI.2.2.1 hI.2.2.2.1 hM.2.2.2.2.2.1 g1708 g1732
  subst e7 e8 e9 e10
  refine ne_istore X dL_law_1735 (by decide) ?_
  refine ne_ll (L' := [some (.ref 0), some (.ref 1), some (.ref 13), some (.ref 20), some (ni _), some (ni _), some (ni _)]) rfl ?_
  refine ne_goto (tgt := 2331) X dL_law_1737 rfl ?_
  refine ne_lnone 5 (ne_lnone 6 ?_)
  refine ne_ll (L' := [some (.ref 0), some (.ref 1), some (.ref 13), some (.ref 20), some (ni i), none, none]) rfl ?_
  refine ne_less (C' := C - 500) (S' := S - 3500) (by omega) (by omega) ?_
  exact kk _ _ _ _ _ _ _ _ _ _ _ _ hI1 hM1 hP1 hs
set_option maxRecDepth 100000 in
set_option maxHeartbeats 4000000 in
theorem lc_31 (hl : l.stackTraces = false) (X : ne_F nw_cl D ct A p l room_1 s9 m args meth c9 RL cL_law 7 nw_T 20 1000 888398 6436287) (hX : va_X b9 N9 xs s9 s9.heap) (hbl : b9 < s9.heap.size) (hbA : ¬ A b9) (hb0 : ad0 0 = b9) (i T : Int) (hi : 0 ≤ i ∧ i + 6 ≤ N9 ∧ N9 ≤ 384) (hT : 0 ≤ T ∧ T ≤ 100) (c q t b k n h x y  : Nat → Int) (mv9 u : Int) (sv : Value) (hI : cI c q t b k n h x y T) (hM : mI c q t b k h mv9 T) (hP : ∀ j : Nat, ne_per (t j) (b j) (n j)) (hs : sv = .null ∨ sv = .ref 21) (C S : Nat) (hC : 500 ≤ C) (hS : 3500 ≤ S) (kk : ∀ (c q t b k n h x y  : Nat → Int) (mv9 u : Int) (sv : Value), cI c q t b k n h x y (T + 1) → mI c q t b k h mv9 (T + 1) → (∀ j : Nat, ne_per (t j) (b j) (n j)) → (sv = .null ∨ sv = .ref 21) → ne_G nw_cl D ct A 1 ad0 p l e room_1 s9 m args below meth c9 Q9 7 888398 6436287 (C - 500) (S - 3500) 2331 [some (.ref 0), some (.ref 1), some (.ref 13), some (.ref 20), some (ni i), none, none] [] (lW c q t b k n h x y c q t b k h mv9 (nl u) sv)) : ne_G nw_cl D ct A 1 ad0 p l e room_1 s9 m args below meth c9 Q9 7 888398 6436287 C S 1740 [some (.ref 0), some (.ref 1), some (.ref 13), some (.ref 20), some (ni i), none, none] [] (lW c q t b k n h x y c q t b k h mv9 (nl u) sv) := by
  obtain ⟨s8, hs8, rfl⟩ : ∃ s8 : Value, (s8 = .null ∨ s8 = .ref 13) ∧ sv = ne_rn [1, 2, 3, 4, 5, 6, 7, 8, 9, 10, 11, 12, 20, 21] 22 s8 := by
    rcases hs with rfl | rfl
    · exact ⟨.null, Or.inl rfl, rfl⟩
    · exact ⟨.ref 13, Or.inr rfl, rfl⟩
  have hcw : ∀ (c q t b k n h x y mc9 mq9 mt9 mb9 mk9 mh9 : Nat → Int) (mv9 u : Int), ne_cw 22 (lW c q t b k n h x y mc9 mq9 mt9 mb9 mk9 mh9 mv9 (nl u) (ne_rn [1, 2, 3, 4, 5, 6, 7, 8, 9, 10, 11, 12, 20, 21] 22 s8)) = true := by
    intros
    rcases hs8 with rfl | rfl <;> rfl
  refine ne_aload_n X dL_law_1740 rfl ?_
  refine ne_aload_n X dL_law_1741 rfl ?_
  refine ne_iload X dL_law_1742 rfl ?_
  refine ne_iconst X dL_law_1744 ?_
  refine ne_iadd X dL_law_1745 ?_
  refine ne_sld X hX hbl hbA hb0 (by decide) (by omega) dL_law_1746 (fun z1746 e1746 l1746 r1746 => ?_)
  refine ne_aload_n X dL_law_1747 rfl ?_
  refine ne_iload X dL_law_1748 rfl ?_
  refine ne_iconst X dL_law_1750 ?_
  refine ne_iadd X dL_law_1751 ?_
  refine ne_sld X hX hbl hbA hb0 (by decide) (by omega) dL_law_1752 (fun z1752 e1752 l1752 r1752 => ?_)
  refine ne_aload_n X dL_law_1753 rfl ?_
  refine ne_callSFW (is := [1, 2, 3, 4, 5, 6, 7, 8, 9, 10, 11, 12, 20, 21]) X nw_Tg (me_L_spoke l hl c q t b k n h x y T hI (by omega) u s8 hs8 _ _ (by omega) (by omega)) nw_yL_spoke nw_mL_277 nw_sL_spoke dL_law_1754 rfl rfl (by decide) (by decide) (by first | decide | omega) (by first | decide | omega) (Nat.le_of_ble_eq_true rfl) (hcw _ _ _ _ _ _ _ _ _ _ _ _ _ _ _ _ _) rfl rfl (Nat.le_of_ble_eq_true rfl) lw_pt1 ?_ ?_
  rotate_left
  · rintro E9 w9 h9; exact h9.elim
  rintro v1754 w1754 ⟨x1, y1, u1, rfl, hI1, z1754, rfl⟩
  refine ne_ws lw_mg1 ?_
  refine ne_istore X dL_law_1757 (by decide) ?_
  refine ne_aload_n X dL_law_1759 rfl ?_
  refine ne_aload_n X dL_law_1760 rfl ?_
  refine ne_iload X dL_law_1761 rfl ?_
  refine ne_iconst X dL_law_1763 ?_
  refine ne_iadd X dL_law_1764 ?_
  refine ne_sld X hX hbl hbA hb0 (by decide) (by omega) dL_law_1765 (fun z1765 e1765 l1765 r1765 => ?_)
  have y1765 : z1746 = z1765 := e1746.trans e1765.symm
  subst y1765
  refine ne_aload_n X dL_law_1766 rfl ?_
  refine ne_iload X dL_law_1767 rfl ?_
  refine ne_iconst X dL_law_1769 ?_
  refine ne_iadd X dL_law_1770 ?_
  refine ne_sld X hX hbl hbA hb0 (by decide) (by omega) dL_law_1771 (fun z1771 e1771 l1771 r1771 => ?_)
  have y1771 : z1752 = z1771 := e1752.trans e1771.symm
  subst y1771
  refine ne_callVF (is := [13, 14, 15, 16, 17, 18, 19]) X nw_Tg (me_X3_spoke l hl c q t b k h mv9 T hM (by omega) _ _ (by omega) (by omega)) nw_yX3_spoke nw_mL_279 nw_iX3_spoke nw_eX3_spoke (ci := 5) rfl rfl rfl dL_law_1772 rfl rfl (by decide) (by decide) (by first | decide | omega) (by first | decide | omega) (Nat.le_of_ble_eq_true rfl) (hcw _ _ _ _ _ _ _ _ _ _ _ _ _ _ _ _ _) rfl rfl (Nat.le_of_ble_eq_true rfl) lw_pt2 ?_ ?_
  rotate_left
  · rintro E9 w9 h9; exact h9.elim
  rintro v1772 w1772 ⟨⟨mv91, rfl, hM1⟩, z1772, rfl, g1772⟩
  refine ne_ws lw_mg2 ?_
  refine ne_istore X dL_law_1775 (by decide) ?_
  refine ne_ll (L' := [some (.ref 0), some (.ref 1), some (.ref 13), some (.ref 20), some (ni _), some (ni _), some (ni _)]) rfl ?_
  refine ne_goto (tgt := 2331) X dL_law_1777 rfl ?_
  refine ne_lnone 5 (ne_lnone 6 ?_)
  refine ne_ll (L' := [some (.ref 0), some (.ref 1), some (.ref 13), some (.ref 20), some (ni i), none, none]) rfl ?_
  refine ne_less (C' := C - 500) (S' := S - 3500) (by omega) (by omega) ?_
  exact kk _ _ _ _ _ _ _ _ _ _ _ _ hI1 hM1 hP hs
set_option maxRecDepth 100000 in
set_option maxHeartbeats 4000000 in
theorem lc_32 (hl : l.stackTraces = false) (X : ne_F nw_cl D ct A p l room_1 s9 m args meth c9 RL cL_law 7 nw_T 20 1000 888398 6436287) (hX : va_X b9 N9 xs s9 s9.heap) (hbl : b9 < s9.heap.size) (hbA : ¬ A b9) (hb0 : ad0 0 = b9) (i T : Int) (hi : 0 ≤ i ∧ i + 6 ≤ N9 ∧ N9 ≤ 384) (hT : 0 ≤ T ∧ T ≤ 100) (c q t b k n h x y  : Nat → Int) (mv9 u : Int) (sv : Value) (hI : cI c q t b k n h x y T) (hM : mI c q t b k h mv9 T) (hP : ∀ j : Nat, ne_per (t j) (b j) (n j)) (hs : sv = .null ∨ sv = .ref 21) (C S : Nat) (hC : 500 ≤ C) (hS : 3500 ≤ S) (kk : ∀ (c q t b k n h x y  : Nat → Int) (mv9 u : Int) (sv : Value), cI c q t b k n h x y (T + 1) → mI c q t b k h mv9 (T + 1) → (∀ j : Nat, ne_per (t j) (b j) (n j)) → (sv = .null ∨ sv = .ref 21) → ne_G nw_cl D ct A 1 ad0 p l e room_1 s9 m args below meth c9 Q9 7 888398 6436287 (C - 500) (S - 3500) 2331 [some (.ref 0), some (.ref 1), some (.ref 13), some (.ref 20), some (ni i), none, none] [] (lW c q t b k n h x y c q t b k h mv9 (nl u) sv)) : ne_G nw_cl D ct A 1 ad0 p l e room_1 s9 m args below meth c9 Q9 7 888398 6436287 C S 1780 [some (.ref 0), some (.ref 1), some (.ref 13), some (.ref 20), some (ni i), none, none] [] (lW c q t b k n h x y c q t b k h mv9 (nl u) sv) := by
  obtain ⟨s8, hs8, rfl⟩ : ∃ s8 : Value, (s8 = .null ∨ s8 = .ref 13) ∧ sv = ne_rn [1, 2, 3, 4, 5, 6, 7, 8, 9, 10, 11, 12, 20, 21] 22 s8 := by
    rcases hs with rfl | rfl
    · exact ⟨.null, Or.inl rfl, rfl⟩
    · exact ⟨.ref 13, Or.inr rfl, rfl⟩
  have hcw : ∀ (c q t b k n h x y mc9 mq9 mt9 mb9 mk9 mh9 : Nat → Int) (mv9 u : Int), ne_cw 22 (lW c q t b k n h x y mc9 mq9 mt9 mb9 mk9 mh9 mv9 (nl u) (ne_rn [1, 2, 3, 4, 5, 6, 7, 8, 9, 10, 11, 12, 20, 21] 22 s8)) = true := by
    intros
    rcases hs8 with rfl | rfl <;> rfl
  refine ne_aload_n X dL_law_1780 rfl ?_
  refine ne_aload_n X dL_law_1781 rfl ?_
  refine ne_iload X dL_law_1782 rfl ?_
  refine ne_iconst X dL_law_1784 ?_
  refine ne_iadd X dL_law_1785 ?_
  refine ne_sld X hX hbl hbA hb0 (by decide) (by omega) dL_law_1786 (fun z1786 e1786 l1786 r1786 => ?_)
  refine ne_aload_n X dL_law_1787 rfl ?_
  refine ne_callSFW (is := [1, 2, 3, 4, 5, 6, 7, 8, 9, 10, 11, 12, 20, 21]) X nw_Tg (me_L_lowest l hl c q t b k n h x y T hI (by omega) u s8 hs8 _ (by omega)) nw_yL_lowest nw_mL_280 nw_sL_lowest dL_law_1788 rfl rfl (by decide) (by decide) (by first | decide | omega) (by first | decide | omega) (Nat.le_of_ble_eq_true rfl) (hcw _ _ _ _ _ _ _ _ _ _ _ _ _ _ _ _ _) rfl rfl (Nat.le_of_ble_eq_true rfl) lw_pt1 ?_ ?_
  rotate_left
  · rintro E9 w9 h9; exact h9.elim
  rintro v1788 w1788 ⟨x1, y1, u1, rfl, hI1, z1788, rfl⟩
  refine ne_ws lw_mg1 ?_
  refine ne_istore X dL_law_1791 (by decide) ?_
  refine ne_aload_n X dL_law_1793 rfl ?_
  refine ne_aload_n X dL_law_1794 rfl ?_
  refine ne_iload X dL_law_1795 rfl ?_
  refine ne_iconst X dL_law_1797 ?_
  refine ne_iadd X dL_law_1798 ?_
  refine ne_sld X hX hbl hbA hb0 (by decide) (by omega) dL_law_1799 (fun z1799 e1799 l1799 r1799 => ?_)
  have y1799 : z1786 = z1799 := e1786.trans e1799.symm
  subst y1799
  refine ne_callVF (is := [13, 14, 15, 16, 17, 18, 19]) X nw_Tg (me_X3_lowest l hl c q t b k h mv9 T hM (by omega) _ (by omega)) nw_yX3_lowest nw_mL_282 nw_iX3_lowest nw_eX3_lowest (ci := 5) rfl rfl rfl dL_law_1800 rfl rfl (by decide) (by decide) (by first | decide | omega) (by first | decide | omega) (Nat.le_of_ble_eq_true rfl) (hcw _ _ _ _ _ _ _ _ _ _ _ _ _ _ _ _ _) rfl rfl (Nat.le_of_ble_eq_true rfl) lw_pt2 ?_ ?_
  rotate_left
  · rintro E9 w9 h9; exact h9.elim
  rintro v1800 w1800 ⟨⟨mv91, rfl, hM1⟩, z1800, rfl, g1800⟩
  refine ne_ws lw_mg2 ?_
  refine ne_istore X dL_law_1803 (by decide) ?_
  refine ne_ll (L' := [some (.ref 0), some (.ref 1), some (.ref 13), some (.ref 20), some (ni _), some (ni _), some (ni _)]) rfl ?_
  refine ne_goto (tgt := 2331) X dL_law_1805 rfl ?_
  refine ne_lnone 5 (ne_lnone 6 ?_)
  refine ne_ll (L' := [some (.ref 0), some (.ref 1), some (.ref 13), some (.ref 20), some (ni i), none, none]) rfl ?_
  refine ne_less (C' := C - 500) (S' := S - 3500) (by omega) (by omega) ?_
  exact kk _ _ _ _ _ _ _ _ _ _ _ _ hI1 hM1 hP hs
set_option maxRecDepth 100000 in
set_option maxHeartbeats 4000000 in
theorem lc_33 (hl : l.stackTraces = false) (X : ne_F nw_cl D ct A p l room_1 s9 m args meth c9 RL cL_law 7 nw_T 20 1000 888398 6436287) (hX : va_X b9 N9 xs s9 s9.heap) (hbl : b9 < s9.heap.size) (hbA : ¬ A b9) (hb0 : ad0 0 = b9) (i T : Int) (hi : 0 ≤ i ∧ i + 6 ≤ N9 ∧ N9 ≤ 384) (hT : 0 ≤ T ∧ T ≤ 100) (c q t b k n h x y  : Nat → Int) (mv9 u : Int) (sv : Value) (hI : cI c q t b k n h x y T) (hM : mI c q t b k h mv9 T) (hP : ∀ j : Nat, ne_per (t j) (b j) (n j)) (hs : sv = .null ∨ sv = .ref 21) (C S : Nat) (hC : 500 ≤ C) (hS : 3500 ≤ S) (kk : ∀ (c q t b k n h x y  : Nat → Int) (mv9 u : Int) (sv : Value), cI c q t b k n h x y (T + 1) → mI c q t b k h mv9 (T + 1) → (∀ j : Nat, ne_per (t j) (b j) (n j)) → (sv = .null ∨ sv = .ref 21) → ne_G nw_cl D ct A 1 ad0 p l e room_1 s9 m args below meth c9 Q9 7 888398 6436287 (C - 500) (S - 3500) 2331 [some (.ref 0), some (.ref 1), some (.ref 13), some (.ref 20), some (ni i), none, none] [] (lW c q t b k n h x y c q t b k h mv9 (nl u) sv)) : ne_G nw_cl D ct A 1 ad0 p l e room_1 s9 m args below meth c9 Q9 7 888398 6436287 C S 1808 [some (.ref 0), some (.ref 1), some (.ref 13), some (.ref 20), some (ni i), none, none] [] (lW c q t b k n h x y c q t b k h mv9 (nl u) sv) := by
  obtain ⟨s8, hs8, rfl⟩ : ∃ s8 : Value, (s8 = .null ∨ s8 = .ref 13) ∧ sv = ne_rn [1, 2, 3, 4, 5, 6, 7, 8, 9, 10, 11, 12, 20, 21] 22 s8 := by
    rcases hs with rfl | rfl
    · exact ⟨.null, Or.inl rfl, rfl⟩
    · exact ⟨.ref 13, Or.inr rfl, rfl⟩
  have hcw : ∀ (c q t b k n h x y mc9 mq9 mt9 mb9 mk9 mh9 : Nat → Int) (mv9 u : Int), ne_cw 22 (lW c q t b k n h x y mc9 mq9 mt9 mb9 mk9 mh9 mv9 (nl u) (ne_rn [1, 2, 3, 4, 5, 6, 7, 8, 9, 10, 11, 12, 20, 21] 22 s8)) = true := by
    intros
    rcases hs8 with rfl | rfl <;> rfl
  refine ne_aload_n X dL_law_1808 rfl ?_
  refine ne_aload_n X dL_law_1809 rfl ?_
  refine ne_iload X dL_law_1810 rfl ?_
  refine ne_iconst X dL_law_1812 ?_
  refine ne_iadd X dL_law_1813 ?_
  refine ne_sld X hX hbl hbA hb0 (by decide) (by omega) dL_law_1814 (fun z1814 e1814 l1814 r1814 => ?_)
  refine ne_aload_n X dL_law_1815 rfl ?_
  refine ne_callSFW (is := [1, 2, 3, 4, 5, 6, 7, 8, 9, 10, 11, 12, 20, 21]) X nw_Tg (me_L_tens l hl c q t b k n h x y T hI (by omega) u s8 hs8 _ (by omega)) nw_yL_tens nw_mL_283 nw_sL_tens dL_law_1816 rfl rfl (by decide) (by decide) (by first | decide | omega) (by first | decide | omega) (Nat.le_of_ble_eq_true rfl) (hcw _ _ _ _ _ _ _ _ _ _ _ _ _ _ _ _ _) rfl rfl (Nat.le_of_ble_eq_true rfl) lw_pt1 ?_ ?_
  rotate_left
  · rintro E9 w9 h9; exact h9.elim
  rintro v1816 w1816 ⟨u1, rfl, z1816, rfl, g1816⟩
  refine ne_ws lw_mg1 ?_
  refine ne_istore X dL_law_1819 (by decide) ?_
  refine ne_aload_n X dL_law_1821 rfl ?_
  refine ne_aload_n X dL_law_1822 rfl ?_
  refine ne_iload X dL_law_1823 rfl ?_
  refine ne_iconst X dL_law_1825 ?_
  refine ne_iadd X dL_law_1826 ?_
  refine ne_sld X hX hbl hbA hb0 (by decide) (by omega) dL_law_1827 (fun z1827 e1827 l1827 r1827 => ?_)
  have y1827 : z1814 = z1827 := e1814.trans e1827.symm
  subst y1827
  refine ne_callVF (is := [13, 14, 15, 16, 17, 18, 19]) X nw_Tg (me_X3_tens l hl c q t b k h mv9 T hM (by omega) _ (by omega)) nw_yX3_tens nw_mL_285 nw_iX3_tens nw_eX3_tens (ci := 5) rfl rfl rfl dL_law_1828 rfl rfl (by decide) (by decide) (by first | decide | omega) (by first | decide | omega) (Nat.le_of_ble_eq_true rfl) (hcw _ _ _ _ _ _ _ _ _ _ _ _ _ _ _ _ _) rfl rfl (Nat.le_of_ble_eq_true rfl) lw_pt2 ?_ ?_
  rotate_left
  · rintro E9 w9 h9; exact h9.elim
  rintro v1828 w1828 ⟨mv91, rfl, hM1, z1828, rfl, g1828⟩
  refine ne_ws lw_mg2 ?_
  have hk : mv91 = z1816 := by rcases g1816 with h | h <;> rcases g1828 with h4 | h4 <;> omega
  have hu : z1816 = 0 → u1 = z1828 ∧ 1 ≤ u1 ∧ u1 ≤ 96 := by
              intro h0
              rcases g1816 with h | h
              · omega
              · rcases g1828 with h4 | h4
                · omega
                · exact ⟨ne_tenE h.2.2 h4.2.2, h.2.2.1, h.2.2.2.1⟩
  refine ne_istore X dL_law_1831 (by decide) ?_
  refine ne_ll (L' := [some (.ref 0), some (.ref 1), some (.ref 13), some (.ref 20), some (ni _), some (ni _), some (ni _)]) rfl ?_
  refine ne_goto (tgt := 2331) X dL_law_1833 rfl ?_
  refine ne_lnone 5 (ne_lnone 6 ?_)
  refine ne_ll (L' := [some (.ref 0), some (.ref 1), some (.ref 13), some (.ref 20), some (ni i), none, none]) rfl ?_
  refine ne_less (C' := C - 500) (S' := S - 3500) (by omega) (by omega) ?_
  exact kk _ _ _ _ _ _ _ _ _ _ _ _ (cI_mono hI (by omega)) hM1 hP hs
set_option maxRecDepth 100000 in
set_option maxHeartbeats 4000000 in
theorem lc_34 (hl : l.stackTraces = false) (X : ne_F nw_cl D ct A p l room_1 s9 m args meth c9 RL cL_law 7 nw_T 20 1000 888398 6436287) (hX : va_X b9 N9 xs s9 s9.heap) (hbl : b9 < s9.heap.size) (hbA : ¬ A b9) (hb0 : ad0 0 = b9) (i T : Int) (hi : 0 ≤ i ∧ i + 6 ≤ N9 ∧ N9 ≤ 384) (hT : 0 ≤ T ∧ T ≤ 100) (c q t b k n h x y  : Nat → Int) (mv9 u : Int) (sv : Value) (hI : cI c q t b k n h x y T) (hM : mI c q t b k h mv9 T) (hP : ∀ j : Nat, ne_per (t j) (b j) (n j)) (hs : sv = .null ∨ sv = .ref 21) (C S : Nat) (hC : 500 ≤ C) (hS : 3500 ≤ S) (kk : ∀ (c q t b k n h x y  : Nat → Int) (mv9 u : Int) (sv : Value), cI c q t b k n h x y (T + 1) → mI c q t b k h mv9 (T + 1) → (∀ j : Nat, ne_per (t j) (b j) (n j)) → (sv = .null ∨ sv = .ref 21) → ne_G nw_cl D ct A 1 ad0 p l e room_1 s9 m args below meth c9 Q9 7 888398 6436287 (C - 500) (S - 3500) 2331 [some (.ref 0), some (.ref 1), some (.ref 13), some (.ref 20), some (ni i), none, none] [] (lW c q t b k n h x y c q t b k h mv9 (nl u) sv)) : ne_G nw_cl D ct A 1 ad0 p l e room_1 s9 m args below meth c9 Q9 7 888398 6436287 C S 1836 [some (.ref 0), some (.ref 1), some (.ref 13), some (.ref 20), some (ni i), none, none] [] (lW c q t b k n h x y c q t b k h mv9 (nl u) sv) := by
  obtain ⟨s8, hs8, rfl⟩ : ∃ s8 : Value, (s8 = .null ∨ s8 = .ref 13) ∧ sv = ne_rn [1, 2, 3, 4, 5, 6, 7, 8, 9, 10, 11, 12, 20, 21] 22 s8 := by
    rcases hs with rfl | rfl
    · exact ⟨.null, Or.inl rfl, rfl⟩
    · exact ⟨.ref 13, Or.inr rfl, rfl⟩
  have hcw : ∀ (c q t b k n h x y mc9 mq9 mt9 mb9 mk9 mh9 : Nat → Int) (mv9 u : Int), ne_cw 22 (lW c q t b k n h x y mc9 mq9 mt9 mb9 mk9 mh9 mv9 (nl u) (ne_rn [1, 2, 3, 4, 5, 6, 7, 8, 9, 10, 11, 12, 20, 21] 22 s8)) = true := by
    intros
    rcases hs8 with rfl | rfl <;> rfl
  refine ne_aload_n X dL_law_1836 rfl ?_
  refine ne_aload_n X dL_law_1837 rfl ?_
  refine ne_iload X dL_law_1838 rfl ?_
  refine ne_iconst X dL_law_1840 ?_
  refine ne_iadd X dL_law_1841 ?_
  refine ne_sld X hX hbl hbA hb0 (by decide) (by omega) dL_law_1842 (fun z1842 e1842 l1842 r1842 => ?_)
  refine ne_aload_n X dL_law_1843 rfl ?_
  refine ne_iload X dL_law_1844 rfl ?_
  refine ne_iconst X dL_law_1846 ?_
  refine ne_iadd X dL_law_1847 ?_
  refine ne_sld X hX hbl hbA hb0 (by decide) (by omega) dL_law_1848 (fun z1848 e1848 l1848 r1848 => ?_)
  refine ne_aload_n X dL_law_1849 rfl ?_
  refine ne_callSFW (is := [1, 2, 3, 4, 5, 6, 7, 8, 9, 10, 11, 12, 20, 21]) X nw_Tg (me_L_restAt l hl c q t b k n h x y T hI (by omega) u s8 hs8 _ _ (by omega) (by omega)) nw_yL_restAt nw_mL_286 nw_sL_restAt dL_law_1850 rfl rfl (by decide) (by decide) (by first | decide | omega) (by first | decide | omega) (Nat.le_of_ble_eq_true rfl) (hcw _ _ _ _ _ _ _ _ _ _ _ _ _ _ _ _ _) rfl rfl (Nat.le_of_ble_eq_true rfl) lw_pt1 ?_ ?_
  rotate_left
  · rintro E9 w9 h9; exact h9.elim
  rintro v1850 w1850 ⟨x1, y1, u1, rfl, hI1, z1850, rfl⟩
  refine ne_ws lw_mg1 ?_
  refine ne_istore X dL_law_1853 (by decide) ?_
  refine ne_aload_n X dL_law_1855 rfl ?_
  refine ne_aload_n X dL_law_1856 rfl ?_
  refine ne_iload X dL_law_1857 rfl ?_
  refine ne_iconst X dL_law_1859 ?_
  refine ne_iadd X dL_law_1860 ?_
  refine ne_sld X hX hbl hbA hb0 (by decide) (by omega) dL_law_1861 (fun z1861 e1861 l1861 r1861 => ?_)
  have y1861 : z1842 = z1861 := e1842.trans e1861.symm
  subst y1861
  refine ne_aload_n X dL_law_1862 rfl ?_
  refine ne_iload X dL_law_1863 rfl ?_
  refine ne_iconst X dL_law_1865 ?_
  refine ne_iadd X dL_law_1866 ?_
  refine ne_sld X hX hbl hbA hb0 (by decide) (by omega) dL_law_1867 (fun z1867 e1867 l1867 r1867 => ?_)
  have y1867 : z1848 = z1867 := e1848.trans e1867.symm
  subst y1867
  refine ne_callVF (is := [13, 14, 15, 16, 17, 18, 19]) X nw_Tg (me_X3_restAt l hl c q t b k h mv9 T hM (by omega) _ _ (by omega) (by omega)) nw_yX3_restAt nw_mL_288 nw_iX3_restAt nw_eX3_restAt (ci := 5) rfl rfl rfl dL_law_1868 rfl rfl (by decide) (by decide) (by first | decide | omega) (by first | decide | omega) (Nat.le_of_ble_eq_true rfl) (hcw _ _ _ _ _ _ _ _ _ _ _ _ _ _ _ _ _) rfl rfl (Nat.le_of_ble_eq_true rfl) lw_pt2 ?_ ?_
  rotate_left
  · rintro E9 w9 h9; exact h9.elim
  rintro v1868 w1868 ⟨⟨mv91, rfl, hM1⟩, z1868, rfl, g1868⟩
  refine ne_ws lw_mg2 ?_
  refine ne_istore X dL_law_1871 (by decide) ?_
  refine ne_ll (L' := [some (.ref 0), some (.ref 1), some (.ref 13), some (.ref 20), some (ni _), some (ni _), some (ni _)]) rfl ?_
  refine ne_goto (tgt := 2331) X dL_law_1873 rfl ?_
  refine ne_lnone 5 (ne_lnone 6 ?_)
  refine ne_ll (L' := [some (.ref 0), some (.ref 1), some (.ref 13), some (.ref 20), some (ni i), none, none]) rfl ?_
  refine ne_less (C' := C - 500) (S' := S - 3500) (by omega) (by omega) ?_
  exact kk _ _ _ _ _ _ _ _ _ _ _ _ hI1 hM1 hP hs
set_option maxRecDepth 100000 in
set_option maxHeartbeats 4000000 in
theorem lc_35 (hl : l.stackTraces = false) (X : ne_F nw_cl D ct A p l room_1 s9 m args meth c9 RL cL_law 7 nw_T 20 1000 888398 6436287) (hX : va_X b9 N9 xs s9 s9.heap) (hbl : b9 < s9.heap.size) (hbA : ¬ A b9) (hb0 : ad0 0 = b9) (i T : Int) (hi : 0 ≤ i ∧ i + 6 ≤ N9 ∧ N9 ≤ 384) (hT : 0 ≤ T ∧ T ≤ 100) (c q t b k n h x y  : Nat → Int) (mv9 u : Int) (sv : Value) (hI : cI c q t b k n h x y T) (hM : mI c q t b k h mv9 T) (hP : ∀ j : Nat, ne_per (t j) (b j) (n j)) (hs : sv = .null ∨ sv = .ref 21) (C S : Nat) (hC : 500 ≤ C) (hS : 3500 ≤ S) (kk : ∀ (c q t b k n h x y  : Nat → Int) (mv9 u : Int) (sv : Value), cI c q t b k n h x y (T + 1) → mI c q t b k h mv9 (T + 1) → (∀ j : Nat, ne_per (t j) (b j) (n j)) → (sv = .null ∨ sv = .ref 21) → ne_G nw_cl D ct A 1 ad0 p l e room_1 s9 m args below meth c9 Q9 7 888398 6436287 (C - 500) (S - 3500) 2331 [some (.ref 0), some (.ref 1), some (.ref 13), some (.ref 20), some (ni i), none, none] [] (lW c q t b k n h x y c q t b k h mv9 (nl u) sv)) : ne_G nw_cl D ct A 1 ad0 p l e room_1 s9 m args below meth c9 Q9 7 888398 6436287 C S 1876 [some (.ref 0), some (.ref 1), some (.ref 13), some (.ref 20), some (ni i), none, none] [] (lW c q t b k n h x y c q t b k h mv9 (nl u) sv) := by
  rcases hs with rfl | rfl
  · refine ne_aload_n X dL_law_1876 rfl ?_
    refine ne_aload_n X dL_law_1877 rfl ?_
    refine ne_iload X dL_law_1878 rfl ?_
    refine ne_iconst X dL_law_1880 ?_
    refine ne_iadd X dL_law_1881 ?_
    refine ne_sld X hX hbl hbA hb0 (by decide) (by omega) dL_law_1882 (fun z1882 e1882 l1882 r1882 => ?_)
    refine ne_aload_n X dL_law_1883 rfl ?_
    refine ne_iload X dL_law_1884 rfl ?_
    refine ne_iconst X dL_law_1886 ?_
    refine ne_iadd X dL_law_1887 ?_
    refine ne_sld X hX hbl hbA hb0 (by decide) (by omega) dL_law_1888 (fun z1888 e1888 l1888 r1888 => ?_)
    refine ne_aload_n X dL_law_1889 rfl ?_
    refine ne_iload X dL_law_1890 rfl ?_
    refine ne_iconst X dL_law_1892 ?_
    refine ne_iadd X dL_law_1893 ?_
    refine ne_sld X hX hbl hbA hb0 (by decide) (by omega) dL_law_1894 (fun z1894 e1894 l1894 r1894 => ?_)
    refine ne_aload_n X dL_law_1895 rfl ?_
    refine ne_callSFW (is := [1, 2, 3, 4, 5, 6, 7, 8, 9, 10, 11, 12, 20, 21]) X nw_Tg (me_L_digitsFrom l hl c q t b k n h x y T hI (by omega) u .null (Or.inl rfl) _ _ _ (by omega) (by omega) (by omega)) nw_yL_digitsFrom nw_mL_289 nw_sL_digitsFrom dL_law_1896 rfl rfl (by decide) (by decide) (by first | decide | omega) (by first | decide | omega) (Nat.le_of_ble_eq_true rfl) rfl rfl rfl (Nat.le_of_ble_eq_true rfl) (lw_pt1 (s := .null)) ?_ ?_
    rotate_left
    · rintro E9 w9 h9; exact h9.elim
    rintro v1896 w1896 ⟨x1, y1, u1, s1, rfl, hI1, hs1, z1896, rfl⟩
    rcases hs1 with rfl | rfl
    · refine ne_take 22 ?_
      refine ne_ws lw_tkN ?_
      refine ne_istore X dL_law_1899 (by decide) ?_
      refine ne_aload_n X dL_law_1901 rfl ?_
      refine ne_aload_n X dL_law_1902 rfl ?_
      refine ne_iload X dL_law_1903 rfl ?_
      refine ne_iconst X dL_law_1905 ?_
      refine ne_iadd X dL_law_1906 ?_
      refine ne_sld X hX hbl hbA hb0 (by decide) (by omega) dL_law_1907 (fun z1907 e1907 l1907 r1907 => ?_)
      have y1907 : z1882 = z1907 := e1882.trans e1907.symm
      subst y1907
      refine ne_aload_n X dL_law_1908 rfl ?_
      refine ne_iload X dL_law_1909 rfl ?_
      refine ne_iconst X dL_law_1911 ?_
      refine ne_iadd X dL_law_1912 ?_
      refine ne_sld X hX hbl hbA hb0 (by decide) (by omega) dL_law_1913 (fun z1913 e1913 l1913 r1913 => ?_)
      have y1913 : z1888 = z1913 := e1888.trans e1913.symm
      subst y1913
      refine ne_aload_n X dL_law_1914 rfl ?_
      refine ne_iload X dL_law_1915 rfl ?_
      refine ne_iconst X dL_law_1917 ?_
      refine ne_iadd X dL_law_1918 ?_
      refine ne_sld X hX hbl hbA hb0 (by decide) (by omega) dL_law_1919 (fun z1919 e1919 l1919 r1919 => ?_)
      have y1919 : z1894 = z1919 := e1894.trans e1919.symm
      subst y1919
      refine ne_callVF (is := [13, 14, 15, 16, 17, 18, 19]) X nw_Tg (me_X3_digitsFrom l hl c q t b k h mv9 T hM (by omega) _ _ _ (by omega) (by omega) (by omega)) nw_yX3_digitsFrom nw_mL_291 nw_iX3_digitsFrom nw_eX3_digitsFrom (ci := 5) rfl rfl rfl dL_law_1920 rfl rfl (by decide) (by decide) (by first | decide | omega) (by first | decide | omega) (Nat.le_of_ble_eq_true rfl) rfl rfl rfl (Nat.le_of_ble_eq_true rfl) lw_pt2 ?_ ?_
      rotate_left
      · rintro E9 w9 h9; exact h9.elim
      rintro v1920 w1920 ⟨⟨mv91, rfl, hM1⟩, rfl⟩
      refine ne_ws lw_mg4 ?_
      refine ne_astore X dL_law_1923 (by decide) ?_
      refine ne_ll (L' := [some (.ref 0), some (.ref 1), some (.ref 13), some (.ref 20), some (ni _), some (ni _), some (.ref 22)]) rfl ?_
      refine ne_goto (tgt := 2331) X dL_law_1925 rfl ?_
      refine ne_lnone 5 (ne_lnone 6 ?_)
      refine ne_ll (L' := [some (.ref 0), some (.ref 1), some (.ref 13), some (.ref 20), some (ni i), none, none]) rfl ?_
      refine ne_take 22 ?_
      refine ne_ws lw_tk2 ?_
      refine ne_less (C' := C - 500) (S' := S - 3500) (by omega) (by omega) ?_
      exact kk _ _ _ _ _ _ _ _ _ _ _ _ hI1 hM1 hP (Or.inl rfl)
    · refine ne_viewb [0, 1, 2, 3, 4, 5, 6, 7, 8, 9, 10, 11, 12, 13, 14, 15, 16, 17, 18, 19, 20, 22] (ws' := lW c q t b k n h x1 y1 c q t b k h mv9 (nl u1) (.ref 21)) (L' := [some (.ref 0), some (.ref 1), some (.ref 13), some (.ref 20), some (ni i), none, none]) (st' := [ni z1896]) lw_vw (by decide) lw_vl rfl rfl rfl ?_
      refine ne_istore X dL_law_1899 (by decide) ?_
      refine ne_aload_n X dL_law_1901 rfl ?_
      refine ne_aload_n X dL_law_1902 rfl ?_
      refine ne_iload X dL_law_1903 rfl ?_
      refine ne_iconst X dL_law_1905 ?_
      refine ne_iadd X dL_law_1906 ?_
      refine ne_sld X hX hbl hbA hb0 (by decide) (by omega) dL_law_1907 (fun z1907 e1907 l1907 r1907 => ?_)
      have y1907 : z1882 = z1907 := e1882.trans e1907.symm
      subst y1907
      refine ne_aload_n X dL_law_1908 rfl ?_
      refine ne_iload X dL_law_1909 rfl ?_
      refine ne_iconst X dL_law_1911 ?_
      refine ne_iadd X dL_law_1912 ?_
      refine ne_sld X hX hbl hbA hb0 (by decide) (by omega) dL_law_1913 (fun z1913 e1913 l1913 r1913 => ?_)
      have y1913 : z1888 = z1913 := e1888.trans e1913.symm
      subst y1913
      refine ne_aload_n X dL_law_1914 rfl ?_
      refine ne_iload X dL_law_1915 rfl ?_
      refine ne_iconst X dL_law_1917 ?_
      refine ne_iadd X dL_law_1918 ?_
      refine ne_sld X hX hbl hbA hb0 (by decide) (by omega) dL_law_1919 (fun z1919 e1919 l1919 r1919 => ?_)
      have y1919 : z1894 = z1919 := e1894.trans e1919.symm
      subst y1919
      refine ne_callVF (is := [13, 14, 15, 16, 17, 18, 19]) X nw_Tg (me_X3_digitsFrom l hl c q t b k h mv9 T hM (by omega) _ _ _ (by omega) (by omega) (by omega)) nw_yX3_digitsFrom nw_mL_291 nw_iX3_digitsFrom nw_eX3_digitsFrom (ci := 5) rfl rfl rfl dL_law_1920 rfl rfl (by decide) (by decide) (by first | decide | omega) (by first | decide | omega) (Nat.le_of_ble_eq_true rfl) rfl rfl rfl (Nat.le_of_ble_eq_true rfl) lw_pt2 ?_ ?_
      rotate_left
      · rintro E9 w9 h9; exact h9.elim
      rintro v1920 w1920 ⟨⟨mv91, rfl, hM1⟩, rfl⟩
      refine ne_ws lw_mg4 ?_
      refine ne_astore X dL_law_1923 (by decide) ?_
      refine ne_ll (L' := [some (.ref 0), some (.ref 1), some (.ref 13), some (.ref 20), some (ni _), some (ni _), some (.ref 22)]) rfl ?_
      refine ne_goto (tgt := 2331) X dL_law_1925 rfl ?_
      refine ne_lnone 5 (ne_lnone 6 ?_)
      refine ne_ll (L' := [some (.ref 0), some (.ref 1), some (.ref 13), some (.ref 20), some (ni i), none, none]) rfl ?_
      refine ne_take 22 ?_
      refine ne_ws lw_tk2 ?_
      refine ne_less (C' := C - 500) (S' := S - 3500) (by omega) (by omega) ?_
      exact kk _ _ _ _ _ _ _ _ _ _ _ _ hI1 hM1 hP (Or.inr rfl)
  · refine ne_aload_n X dL_law_1876 rfl ?_
    refine ne_aload_n X dL_law_1877 rfl ?_
    refine ne_iload X dL_law_1878 rfl ?_
    refine ne_iconst X dL_law_1880 ?_
    refine ne_iadd X dL_law_1881 ?_
    refine ne_sld X hX hbl hbA hb0 (by decide) (by omega) dL_law_1882 (fun z1882 e1882 l1882 r1882 => ?_)
    refine ne_aload_n X dL_law_1883 rfl ?_
    refine ne_iload X dL_law_1884 rfl ?_
    refine ne_iconst X dL_law_1886 ?_
    refine ne_iadd X dL_law_1887 ?_
    refine ne_sld X hX hbl hbA hb0 (by decide) (by omega) dL_law_1888 (fun z1888 e1888 l1888 r1888 => ?_)
    refine ne_aload_n X dL_law_1889 rfl ?_
    refine ne_iload X dL_law_1890 rfl ?_
    refine ne_iconst X dL_law_1892 ?_
    refine ne_iadd X dL_law_1893 ?_
    refine ne_sld X hX hbl hbA hb0 (by decide) (by omega) dL_law_1894 (fun z1894 e1894 l1894 r1894 => ?_)
    refine ne_aload_n X dL_law_1895 rfl ?_
    refine ne_callSFW (is := [1, 2, 3, 4, 5, 6, 7, 8, 9, 10, 11, 12, 20, 21]) X nw_Tg (me_L_digitsFrom l hl c q t b k n h x y T hI (by omega) u (.ref 13) (Or.inr rfl) _ _ _ (by omega) (by omega) (by omega)) nw_yL_digitsFrom nw_mL_289 nw_sL_digitsFrom dL_law_1896 rfl rfl (by decide) (by decide) (by first | decide | omega) (by first | decide | omega) (Nat.le_of_ble_eq_true rfl) rfl rfl rfl (Nat.le_of_ble_eq_true rfl) (lw_pt1 (s := .ref 13)) ?_ ?_
    rotate_left
    · rintro E9 w9 h9; exact h9.elim
    rintro v1896 w1896 ⟨x1, y1, u1, s1, rfl, hI1, hs1, z1896, rfl⟩
    rcases hs1 with rfl | rfl
    · refine ne_take 22 ?_
      refine ne_ws lw_tkR ?_
      refine ne_istore X dL_law_1899 (by decide) ?_
      refine ne_aload_n X dL_law_1901 rfl ?_
      refine ne_aload_n X dL_law_1902 rfl ?_
      refine ne_iload X dL_law_1903 rfl ?_
      refine ne_iconst X dL_law_1905 ?_
      refine ne_iadd X dL_law_1906 ?_
      refine ne_sld X hX hbl hbA hb0 (by decide) (by omega) dL_law_1907 (fun z1907 e1907 l1907 r1907 => ?_)
      have y1907 : z1882 = z1907 := e1882.trans e1907.symm
      subst y1907
      refine ne_aload_n X dL_law_1908 rfl ?_
      refine ne_iload X dL_law_1909 rfl ?_
      refine ne_iconst X dL_law_1911 ?_
      refine ne_iadd X dL_law_1912 ?_
      refine ne_sld X hX hbl hbA hb0 (by decide) (by omega) dL_law_1913 (fun z1913 e1913 l1913 r1913 => ?_)
      have y1913 : z1888 = z1913 := e1888.trans e1913.symm
      subst y1913
      refine ne_aload_n X dL_law_1914 rfl ?_
      refine ne_iload X dL_law_1915 rfl ?_
      refine ne_iconst X dL_law_1917 ?_
      refine ne_iadd X dL_law_1918 ?_
      refine ne_sld X hX hbl hbA hb0 (by decide) (by omega) dL_law_1919 (fun z1919 e1919 l1919 r1919 => ?_)
      have y1919 : z1894 = z1919 := e1894.trans e1919.symm
      subst y1919
      refine ne_callVF (is := [13, 14, 15, 16, 17, 18, 19]) X nw_Tg (me_X3_digitsFrom l hl c q t b k h mv9 T hM (by omega) _ _ _ (by omega) (by omega) (by omega)) nw_yX3_digitsFrom nw_mL_291 nw_iX3_digitsFrom nw_eX3_digitsFrom (ci := 5) rfl rfl rfl dL_law_1920 rfl rfl (by decide) (by decide) (by first | decide | omega) (by first | decide | omega) (Nat.le_of_ble_eq_true rfl) rfl rfl rfl (Nat.le_of_ble_eq_true rfl) lw_pt2 ?_ ?_
      rotate_left
      · rintro E9 w9 h9; exact h9.elim
      rintro v1920 w1920 ⟨⟨mv91, rfl, hM1⟩, rfl⟩
      refine ne_ws lw_mg4 ?_
      refine ne_astore X dL_law_1923 (by decide) ?_
      refine ne_ll (L' := [some (.ref 0), some (.ref 1), some (.ref 13), some (.ref 20), some (ni _), some (ni _), some (.ref 22)]) rfl ?_
      refine ne_goto (tgt := 2331) X dL_law_1925 rfl ?_
      refine ne_lnone 5 (ne_lnone 6 ?_)
      refine ne_ll (L' := [some (.ref 0), some (.ref 1), some (.ref 13), some (.ref 20), some (ni i), none, none]) rfl ?_
      refine ne_take 22 ?_
      refine ne_ws lw_tk2 ?_
      refine ne_less (C' := C - 500) (S' := S - 3500) (by omega) (by omega) ?_
      exact kk _ _ _ _ _ _ _ _ _ _ _ _ hI1 hM1 hP (Or.inr rfl)
    · refine ne_viewb [0, 1, 2, 3, 4, 5, 6, 7, 8, 9, 10, 11, 12, 13, 14, 15, 16, 17, 18, 19, 20, 22] (ws' := lW c q t b k n h x1 y1 c q t b k h mv9 (nl u1) (.ref 21)) (L' := [some (.ref 0), some (.ref 1), some (.ref 13), some (.ref 20), some (ni i), none, none]) (st' := [ni z1896]) lw_vw (by decide) lw_vl rfl rfl rfl ?_
      refine ne_istore X dL_law_1899 (by decide) ?_
      refine ne_aload_n X dL_law_1901 rfl ?_
      refine ne_aload_n X dL_law_1902 rfl ?_
      refine ne_iload X dL_law_1903 rfl ?_
      refine ne_iconst X dL_law_1905 ?_
      refine ne_iadd X dL_law_1906 ?_
      refine ne_sld X hX hbl hbA hb0 (by decide) (by omega) dL_law_1907 (fun z1907 e1907 l1907 r1907 => ?_)
      have y1907 : z1882 = z1907 := e1882.trans e1907.symm
      subst y1907
      refine ne_aload_n X dL_law_1908 rfl ?_
      refine ne_iload X dL_law_1909 rfl ?_
      refine ne_iconst X dL_law_1911 ?_
      refine ne_iadd X dL_law_1912 ?_
      refine ne_sld X hX hbl hbA hb0 (by decide) (by omega) dL_law_1913 (fun z1913 e1913 l1913 r1913 => ?_)
      have y1913 : z1888 = z1913 := e1888.trans e1913.symm
      subst y1913
      refine ne_aload_n X dL_law_1914 rfl ?_
      refine ne_iload X dL_law_1915 rfl ?_
      refine ne_iconst X dL_law_1917 ?_
      refine ne_iadd X dL_law_1918 ?_
      refine ne_sld X hX hbl hbA hb0 (by decide) (by omega) dL_law_1919 (fun z1919 e1919 l1919 r1919 => ?_)
      have y1919 : z1894 = z1919 := e1894.trans e1919.symm
      subst y1919
      refine ne_callVF (is := [13, 14, 15, 16, 17, 18, 19]) X nw_Tg (me_X3_digitsFrom l hl c q t b k h mv9 T hM (by omega) _ _ _ (by omega) (by omega) (by omega)) nw_yX3_digitsFrom nw_mL_291 nw_iX3_digitsFrom nw_eX3_digitsFrom (ci := 5) rfl rfl rfl dL_law_1920 rfl rfl (by decide) (by decide) (by first | decide | omega) (by first | decide | omega) (Nat.le_of_ble_eq_true rfl) rfl rfl rfl (Nat.le_of_ble_eq_true rfl) lw_pt2 ?_ ?_
      rotate_left
      · rintro E9 w9 h9; exact h9.elim
      rintro v1920 w1920 ⟨⟨mv91, rfl, hM1⟩, rfl⟩
      refine ne_ws lw_mg4 ?_
      refine ne_astore X dL_law_1923 (by decide) ?_
      refine ne_ll (L' := [some (.ref 0), some (.ref 1), some (.ref 13), some (.ref 20), some (ni _), some (ni _), some (.ref 22)]) rfl ?_
      refine ne_goto (tgt := 2331) X dL_law_1925 rfl ?_
      refine ne_lnone 5 (ne_lnone 6 ?_)
      refine ne_ll (L' := [some (.ref 0), some (.ref 1), some (.ref 13), some (.ref 20), some (ni i), none, none]) rfl ?_
      refine ne_take 22 ?_
      refine ne_ws lw_tk2 ?_
      refine ne_less (C' := C - 500) (S' := S - 3500) (by omega) (by omega) ?_
      exact kk _ _ _ _ _ _ _ _ _ _ _ _ hI1 hM1 hP (Or.inr rfl)
end LAWS
