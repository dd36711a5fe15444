section LAWS
variable {D : va_G} {ct : Nat → ClassId} {A : Nat → Prop} {p : Program} {l : Launch} {e : Env} {s9 : State} {m : MethodId} {args : Array Value} {below : List Frame} {meth : Method} {c9 : Code} {Q9 : State → Prop} {b9 N9 : Nat} {xs : Nat → Int32} {ad0 : Nat → Nat}
set_option maxRecDepth 100000 in
set_option maxHeartbeats 4000000 in
theorem lc_24 (hl : l.stackTraces = false) (X : ne_F nw_cl D ct A p l room_1 s9 m args meth c9 RL cL_law 7 nw_T 20 1000 888398 6436287) (hX : va_X b9 N9 xs s9 s9.heap) (hbl : b9 < s9.heap.size) (hbA : ¬ A b9) (hb0 : ad0 0 = b9) (i T : Int) (hi : 0 ≤ i ∧ i + 6 ≤ N9 ∧ N9 ≤ 384) (hT : 0 ≤ T ∧ T ≤ 100) (c q t b k n h x y  : Nat → Int) (mv9 u : Int) (sv : Value) (hI : cI c q t b k n h x y T) (hM : mI c q t b k h mv9 T) (hP : ∀ j : Nat, ne_per (t j) (b j) (n j)) (hs : sv = .null ∨ sv = .ref 21) (C S : Nat) (hC : 500 ≤ C) (hS : 3500 ≤ S) (kk : ∀ (c q t b k n h x y  : Nat → Int) (mv9 u : Int) (sv : Value), cI c q t b k n h x y (T + 1) → mI c q t b k h mv9 (T + 1) → (∀ j : Nat, ne_per (t j) (b j) (n j)) → (sv = .null ∨ sv = .ref 21) → ne_G nw_cl D ct A 1 ad0 p l e room_1 s9 m args below meth c9 Q9 7 888398 6436287 (C - 500) (S - 3500) 2324 [some (.ref 0), some (.ref 1), some (.ref 13), some (.ref 20), some (ni i), none, none] [] (lW c q t b k n h x y c q t b k h mv9 (nl u) sv)) : ne_G nw_cl D ct A 1 ad0 p l e room_1 s9 m args below meth c9 Q9 7 888398 6436287 C S 1412 [some (.ref 0), some (.ref 1), some (.ref 13), some (.ref 20), some (ni i), none, none] [] (lW c q t b k n h x y c q t b k h mv9 (nl u) sv) := by
  rcases hs with rfl | rfl
  · refine ne_aload_n X dL_law_1412 rfl ?_
    refine ne_aload_n X dL_law_1413 rfl ?_
    refine ne_iload X dL_law_1414 rfl ?_
    refine ne_iconst X dL_law_1416 ?_
    refine ne_iadd X dL_law_1417 ?_
    refine ne_sld X hX hbl hbA hb0 (by decide) (by omega) dL_law_1418 (fun z1418 e1418 l1418 r1418 => ?_)
    refine ne_aload_n X dL_law_1419 rfl ?_
    refine ne_iload X dL_law_1420 rfl ?_
    refine ne_iconst X dL_law_1422 ?_
    refine ne_iadd X dL_law_1423 ?_
    refine ne_sld X hX hbl hbA hb0 (by decide) (by omega) dL_law_1424 (fun z1424 e1424 l1424 r1424 => ?_)
    refine ne_aload_n X dL_law_1425 rfl ?_
    refine ne_callSFW (is := [1, 2, 3, 4, 5, 6, 7, 8, 9, 10, 11, 12, 20, 21]) X nw_Tg (me_L_text l hl c q t b k n h x y T hI (by omega) u .null (Or.inl rfl) _ _ (by omega) (by omega)) nw_yL_text nw_mL_252 nw_sL_text dL_law_1426 rfl rfl (by decide) (by decide) (by first | decide | omega) (by first | decide | omega) (Nat.le_of_ble_eq_true rfl) rfl rfl rfl (Nat.le_of_ble_eq_true rfl) (lw_pt1 (s := .null)) ?_ ?_
    rotate_left
    · rintro E9 w9 h9; exact h9.elim
    rintro v1426 w1426 ⟨x1, y1, u1, s1, rfl, hI1, hs1, z1426, rfl⟩
    rcases hs1 with rfl | rfl
    · refine ne_take 22 ?_
      refine ne_ws lw_tkN ?_
      refine ne_istore X dL_law_1429 (by decide) ?_
      refine ne_aload_n X dL_law_1431 rfl ?_
      refine ne_aload_n X dL_law_1432 rfl ?_
      refine ne_iload X dL_law_1433 rfl ?_
      refine ne_iconst X dL_law_1435 ?_
      refine ne_iadd X dL_law_1436 ?_
      refine ne_sld X hX hbl hbA hb0 (by decide) (by omega) dL_law_1437 (fun z1437 e1437 l1437 r1437 => ?_)
      have y1437 : z1418 = z1437 := e1418.trans e1437.symm
      subst y1437
      refine ne_aload_n X dL_law_1438 rfl ?_
      refine ne_iload X dL_law_1439 rfl ?_
      refine ne_iconst X dL_law_1441 ?_
      refine ne_iadd X dL_law_1442 ?_
      refine ne_sld X hX hbl hbA hb0 (by decide) (by omega) dL_law_1443 (fun z1443 e1443 l1443 r1443 => ?_)
      have y1443 : z1424 = z1443 := e1424.trans e1443.symm
      subst y1443
      refine ne_callVF (is := [13, 14, 15, 16, 17, 18, 19]) X nw_Tg (me_X3_text l hl c q t b k h mv9 T hM (by omega) _ _ (by omega) (by omega)) nw_yX3_text nw_mL_254 nw_iX3_text nw_eX3_text (ci := 5) rfl rfl rfl dL_law_1444 rfl rfl (by decide) (by decide) (by first | decide | omega) (by first | decide | omega) (Nat.le_of_ble_eq_true rfl) rfl rfl rfl (Nat.le_of_ble_eq_true rfl) lw_pt2 ?_ ?_
      rotate_left
      · rintro E9 w9 h9; exact h9.elim
      rintro v1444 w1444 ⟨⟨mv91, rfl, hM1⟩, rfl⟩
      refine ne_ws lw_mg4 ?_
      refine ne_astore X dL_law_1447 (by decide) ?_
      refine ne_ll (L' := [some (.ref 0), some (.ref 1), some (.ref 13), some (.ref 20), some (ni _), some (ni _), some (.ref 22)]) rfl ?_
      refine ne_goto (tgt := 2324) X dL_law_1449 rfl ?_
      refine ne_lnone 5 (ne_lnone 6 ?_)
      refine ne_ll (L' := [some (.ref 0), some (.ref 1), some (.ref 13), some (.ref 20), some (ni i), none, none]) rfl ?_
      refine ne_take 22 ?_
      refine ne_ws lw_tk2 ?_
      refine ne_less (C' := C - 500) (S' := S - 3500) (by omega) (by omega) ?_
      exact kk _ _ _ _ _ _ _ _ _ _ _ _ hI1 hM1 hP (Or.inl rfl)
    · refine ne_viewb [0, 1, 2, 3, 4, 5, 6, 7, 8, 9, 10, 11, 12, 13, 14, 15, 16, 17, 18, 19, 20, 22] (ws' := lW c q t b k n h x1 y1 c q t b k h mv9 (nl u1) (.ref 21)) (L' := [some (.ref 0), some (.ref 1), some (.ref 13), some (.ref 20), some (ni i), none, none]) (st' := [ni z1426]) lw_vw (by decide) lw_vl rfl rfl rfl ?_
      refine ne_istore X dL_law_1429 (by decide) ?_
      refine ne_aload_n X dL_law_1431 rfl ?_
      refine ne_aload_n X dL_law_1432 rfl ?_
      refine ne_iload X dL_law_1433 rfl ?_
      refine ne_iconst X dL_law_1435 ?_
      refine ne_iadd X dL_law_1436 ?_
      refine ne_sld X hX hbl hbA hb0 (by decide) (by omega) dL_law_1437 (fun z1437 e1437 l1437 r1437 => ?_)
      have y1437 : z1418 = z1437 := e1418.trans e1437.symm
      subst y1437
      refine ne_aload_n X dL_law_1438 rfl ?_
      refine ne_iload X dL_law_1439 rfl ?_
      refine ne_iconst X dL_law_1441 ?_
      refine ne_iadd X dL_law_1442 ?_
      refine ne_sld X hX hbl hbA hb0 (by decide) (by omega) dL_law_1443 (fun z1443 e1443 l1443 r1443 => ?_)
      have y1443 : z1424 = z1443 := e1424.trans e1443.symm
      subst y1443
      refine ne_callVF (is := [13, 14, 15, 16, 17, 18, 19]) X nw_Tg (me_X3_text l hl c q t b k h mv9 T hM (by omega) _ _ (by omega) (by omega)) nw_yX3_text nw_mL_254 nw_iX3_text nw_eX3_text (ci := 5) rfl rfl rfl dL_law_1444 rfl rfl (by decide) (by decide) (by first | decide | omega) (by first | decide | omega) (Nat.le_of_ble_eq_true rfl) rfl rfl rfl (Nat.le_of_ble_eq_true rfl) lw_pt2 ?_ ?_
      rotate_left
      · rintro E9 w9 h9; exact h9.elim
      rintro v1444 w1444 ⟨⟨mv91, rfl, hM1⟩, rfl⟩
      refine ne_ws lw_mg4 ?_
      refine ne_astore X dL_law_1447 (by decide) ?_
      refine ne_ll (L' := [some (.ref 0), some (.ref 1), some (.ref 13), some (.ref 20), some (ni _), some (ni _), some (.ref 22)]) rfl ?_
      refine ne_goto (tgt := 2324) X dL_law_1449 rfl ?_
      refine ne_lnone 5 (ne_lnone 6 ?_)
      refine ne_ll (L' := [some (.ref 0), some (.ref 1), some (.ref 13), some (.ref 20), some (ni i), none, none]) rfl ?_
      refine ne_take 22 ?_
      refine ne_ws lw_tk2 ?_
      refine ne_less (C' := C - 500) (S' := S - 3500) (by omega) (by omega) ?_
      exact kk _ _ _ _ _ _ _ _ _ _ _ _ hI1 hM1 hP (Or.inr rfl)
  · refine ne_aload_n X dL_law_1412 rfl ?_
    refine ne_aload_n X dL_law_1413 rfl ?_
    refine ne_iload X dL_law_1414 rfl ?_
    refine ne_iconst X dL_law_1416 ?_
    refine ne_iadd X dL_law_1417 ?_
    refine ne_sld X hX hbl hbA hb0 (by decide) (by omega) dL_law_1418 (fun z1418 e1418 l1418 r1418 => ?_)
    refine ne_aload_n X dL_law_1419 rfl ?_
    refine ne_iload X dL_law_1420 rfl ?_
    refine ne_iconst X dL_law_1422 ?_
    refine ne_iadd X dL_law_1423 ?_
    refine ne_sld X hX hbl hbA hb0 (by decide) (by omega) dL_law_1424 (fun z1424 e1424 l1424 r1424 => ?_)
    refine ne_aload_n X dL_law_1425 rfl ?_
    refine ne_callSFW (is := [1, 2, 3, 4, 5, 6, 7, 8, 9, 10, 11, 12, 20, 21]) X nw_Tg (me_L_text l hl c q t b k n h x y T hI (by omega) u (.ref 13) (Or.inr rfl) _ _ (by omega) (by omega)) nw_yL_text nw_mL_252 nw_sL_text dL_law_1426 rfl rfl (by decide) (by decide) (by first | decide | omega) (by first | decide | omega) (Nat.le_of_ble_eq_true rfl) rfl rfl rfl (Nat.le_of_ble_eq_true rfl) (lw_pt1 (s := .ref 13)) ?_ ?_
    rotate_left
    · rintro E9 w9 h9; exact h9.elim
    rintro v1426 w1426 ⟨x1, y1, u1, s1, rfl, hI1, hs1, z1426, rfl⟩
    rcases hs1 with rfl | rfl
    · refine ne_take 22 ?_
      refine ne_ws lw_tkR ?_
      refine ne_istore X dL_law_1429 (by decide) ?_
      refine ne_aload_n X dL_law_1431 rfl ?_
      refine ne_aload_n X dL_law_1432 rfl ?_
      refine ne_iload X dL_law_1433 rfl ?_
      refine ne_iconst X dL_law_1435 ?_
      refine ne_iadd X dL_law_1436 ?_
      refine ne_sld X hX hbl hbA hb0 (by decide) (by omega) dL_law_1437 (fun z1437 e1437 l1437 r1437 => ?_)
      have y1437 : z1418 = z1437 := e1418.trans e1437.symm
      subst y1437
      refine ne_aload_n X dL_law_1438 rfl ?_
      refine ne_iload X dL_law_1439 rfl ?_
      refine ne_iconst X dL_law_1441 ?_
      refine ne_iadd X dL_law_1442 ?_
      refine ne_sld X hX hbl hbA hb0 (by decide) (by omega) dL_law_1443 (fun z1443 e1443 l1443 r1443 => ?_)
      have y1443 : z1424 = z1443 := e1424.trans e1443.symm
      subst y1443
      refine ne_callVF (is := [13, 14, 15, 16, 17, 18, 19]) X nw_Tg (me_X3_text l hl c q t b k h mv9 T hM (by omega) _ _ (by omega) (by omega)) nw_yX3_text nw_mL_254 nw_iX3_text nw_eX3_text (ci := 5) rfl rfl rfl dL_law_1444 rfl rfl (by decide) (by decide) (by first | decide | omega) (by first | decide | omega) (Nat.le_of_ble_eq_true rfl) rfl rfl rfl (Nat.le_of_ble_eq_true rfl) lw_pt2 ?_ ?_
      rotate_left
      · rintro E9 w9 h9; exact h9.elim
      rintro v1444 w1444 ⟨⟨mv91, rfl, hM1⟩, rfl⟩
      refine ne_ws lw_mg4 ?_
      refine ne_astore X dL_law_1447 (by decide) ?_
      refine ne_ll (L' := [some (.ref 0), some (.ref 1), some (.ref 13), some (.ref 20), some (ni _), some (ni _), some (.ref 22)]) rfl ?_
      refine ne_goto (tgt := 2324) X dL_law_1449 rfl ?_
      refine ne_lnone 5 (ne_lnone 6 ?_)
      refine ne_ll (L' := [some (.ref 0), some (.ref 1), some (.ref 13), some (.ref 20), some (ni i), none, none]) rfl ?_
      refine ne_take 22 ?_
      refine ne_ws lw_tk2 ?_
      refine ne_less (C' := C - 500) (S' := S - 3500) (by omega) (by omega) ?_
      exact kk _ _ _ _ _ _ _ _ _ _ _ _ hI1 hM1 hP (Or.inr rfl)
    · refine ne_viewb [0, 1, 2, 3, 4, 5, 6, 7, 8, 9, 10, 11, 12, 13, 14, 15, 16, 17, 18, 19, 20, 22] (ws' := lW c q t b k n h x1 y1 c q t b k h mv9 (nl u1) (.ref 21)) (L' := [some (.ref 0), some (.ref 1), some (.ref 13), some (.ref 20), some (ni i), none, none]) (st' := [ni z1426]) lw_vw (by decide) lw_vl rfl rfl rfl ?_
      refine ne_istore X dL_law_1429 (by decide) ?_
      refine ne_aload_n X dL_law_1431 rfl ?_
      refine ne_aload_n X dL_law_1432 rfl ?_
      refine ne_iload X dL_law_1433 rfl ?_
      refine ne_iconst X dL_law_1435 ?_
      refine ne_iadd X dL_law_1436 ?_
      refine ne_sld X hX hbl hbA hb0 (by decide) (by omega) dL_law_1437 (fun z1437 e1437 l1437 r1437 => ?_)
      have y1437 : z1418 = z1437 := e1418.trans e1437.symm
      subst y1437
      refine ne_aload_n X dL_law_1438 rfl ?_
      refine ne_iload X dL_law_1439 rfl ?_
      refine ne_iconst X dL_law_1441 ?_
      refine ne_iadd X dL_law_1442 ?_
      refine ne_sld X hX hbl hbA hb0 (by decide) (by omega) dL_law_1443 (fun z1443 e1443 l1443 r1443 => ?_)
      have y1443 : z1424 = z1443 := e1424.trans e1443.symm
      subst y1443
      refine ne_callVF (is := [13, 14, 15, 16, 17, 18, 19]) X nw_Tg (me_X3_text l hl c q t b k h mv9 T hM (by omega) _ _ (by omega) (by omega)) nw_yX3_text nw_mL_254 nw_iX3_text nw_eX3_text (ci := 5) rfl rfl rfl dL_law_1444 rfl rfl (by decide) (by decide) (by first | decide | omega) (by first | decide | omega) (Nat.le_of_ble_eq_true rfl) rfl rfl rfl (Nat.le_of_ble_eq_true rfl) lw_pt2 ?_ ?_
      rotate_left
      · rintro E9 w9 h9; exact h9.elim
      rintro v1444 w1444 ⟨⟨mv91, rfl, hM1⟩, rfl⟩
      refine ne_ws lw_mg4 ?_
      refine ne_astore X dL_law_1447 (by decide) ?_
      refine ne_ll (L' := [some (.ref 0), some (.ref 1), some (.ref 13), some (.ref 20), some (ni _), some (ni _), some (.ref 22)]) rfl ?_
      refine ne_goto (tgt := 2324) X dL_law_1449 rfl ?_
      refine ne_lnone 5 (ne_lnone 6 ?_)
      refine ne_ll (L' := [some (.ref 0), some (.ref 1), some (.ref 13), some (.ref 20), some (ni i), none, none]) rfl ?_
      refine ne_take 22 ?_
      refine ne_ws lw_tk2 ?_
      refine ne_less (C' := C - 500) (S' := S - 3500) (by omega) (by omega) ?_
      exact kk _ _ _ _ _ _ _ _ _ _ _ _ hI1 hM1 hP (Or.inr rfl)
set_option maxRecDepth 100000 in
set_option maxHeartbeats 4000000 in
theorem lc_25 (hl : l.stackTraces = false) (X : ne_F nw_cl D ct A p l room_1 s9 m args meth c9 RL cL_law 7 nw_T 20 1000 888398 6436287) (hX : va_X b9 N9 xs s9 s9.heap) (hbl : b9 < s9.heap.size) (hbA : ¬ A b9) (hb0 : ad0 0 = b9) (i T : Int) (hi : 0 ≤ i ∧ i + 6 ≤ N9 ∧ N9 ≤ 384) (hT : 0 ≤ T ∧ T ≤ 100) (c q t b k n h x y  : Nat → Int) (mv9 u : Int) (sv : Value) (hI : cI c q t b k n h x y T) (hM : mI c q t b k h mv9 T) (hP : ∀ j : Nat, ne_per (t j) (b j) (n j)) (hs : sv = .null ∨ sv = .ref 21) (C S : Nat) (hC : 500 ≤ C) (hS : 3500 ≤ S) (kk : ∀ (c q t b k n h x y  : Nat → Int) (mv9 u : Int) (sv : Value), cI c q t b k n h x y (T + 1) → mI c q t b k h mv9 (T + 1) → (∀ j : Nat, ne_per (t j) (b j) (n j)) → (sv = .null ∨ sv = .ref 21) → ne_G nw_cl D ct A 1 ad0 p l e room_1 s9 m args below meth c9 Q9 7 888398 6436287 (C - 500) (S - 3500) 2324 [some (.ref 0), some (.ref 1), some (.ref 13), some (.ref 20), some (ni i), none, none] [] (lW c q t b k n h x y c q t b k h mv9 (nl u) sv)) : ne_G nw_cl D ct A 1 ad0 p l e room_1 s9 m args below meth c9 Q9 7 888398 6436287 C S 1452 [some (.ref 0), some (.ref 1), some (.ref 13), some (.ref 20), some (ni i), none, none] [] (lW c q t b k n h x y c q t b k h mv9 (nl u) sv) := by
  obtain ⟨s8, hs8, rfl⟩ : ∃ s8 : Value, (s8 = .null ∨ s8 = .ref 13) ∧ sv = ne_rn [1, 2, 3, 4, 5, 6, 7, 8, 9, 10, 11, 12, 20, 21] 22 s8 := by
    rcases hs with rfl | rfl
    · exact ⟨.null, Or.inl rfl, rfl⟩
    · exact ⟨.ref 13, Or.inr rfl, rfl⟩
  have hcw : ∀ (c q t b k n h x y mc9 mq9 mt9 mb9 mk9 mh9 : Nat → Int) (mv9 u : Int), ne_cw 22 (lW c q t b k n h x y mc9 mq9 mt9 mb9 mk9 mh9 mv9 (nl u) (ne_rn [1, 2, 3, 4, 5, 6, 7, 8, 9, 10, 11, 12, 20, 21] 22 s8)) = true := by
    intros
    rcases hs8 with rfl | rfl <;> rfl
  refine ne_aload_n X dL_law_1452 rfl ?_
  refine ne_aload_n X dL_law_1453 rfl ?_
  refine ne_iload X dL_law_1454 rfl ?_
  refine ne_iconst X dL_law_1456 ?_
  refine ne_iadd X dL_law_1457 ?_
  refine ne_sld X hX hbl hbA hb0 (by decide) (by omega) dL_law_1458 (fun z1458 e1458 l1458 r1458 => ?_)
  refine ne_aload_n X dL_law_1459 rfl ?_
  refine ne_iload X dL_law_1460 rfl ?_
  refine ne_iconst X dL_law_1462 ?_
  refine ne_iadd X dL_law_1463 ?_
  refine ne_sld X hX hbl hbA hb0 (by decide) (by omega) dL_law_1464 (fun z1464 e1464 l1464 r1464 => ?_)
  refine ne_aload_n X dL_law_1465 rfl ?_
  refine ne_callSFW (is := [1, 2, 3, 4, 5, 6, 7, 8, 9, 10, 11, 12, 20, 21]) X nw_Tg (me_L_order l hl c q t b k n h x y T hI (by omega) u s8 hs8 _ _ (by omega) (by omega)) nw_yL_order nw_mL_255 nw_sL_order dL_law_1466 rfl rfl (by decide) (by decide) (by first | decide | omega) (by first | decide | omega) (Nat.le_of_ble_eq_true rfl) (hcw _ _ _ _ _ _ _ _ _ _ _ _ _ _ _ _ _) rfl rfl (Nat.le_of_ble_eq_true rfl) lw_pt1 ?_ ?_
  rotate_left
  · rintro E9 w9 h9; exact h9.elim
  rintro v1466 w1466 ⟨u1, rfl, z1466, rfl, g1466⟩
  have hI1 := cI_mono hI (show T ≤ T + 1 by omega)
  refine ne_ws lw_mg1 ?_
  refine ne_istore X dL_law_1469 (by decide) ?_
  refine ne_aload_n X dL_law_1471 rfl ?_
  refine ne_aload_n X dL_law_1472 rfl ?_
  refine ne_iload X dL_law_1473 rfl ?_
  refine ne_iconst X dL_law_1475 ?_
  refine ne_iadd X dL_law_1476 ?_
  refine ne_sld X hX hbl hbA hb0 (by decide) (by omega) dL_law_1477 (fun z1477 e1477 l1477 r1477 => ?_)
  have y1477 : z1458 = z1477 := e1458.trans e1477.symm
  subst y1477
  refine ne_aload_n X dL_law_1478 rfl ?_
  refine ne_iload X dL_law_1479 rfl ?_
  refine ne_iconst X dL_law_1481 ?_
  refine ne_iadd X dL_law_1482 ?_
  refine ne_sld X hX hbl hbA hb0 (by decide) (by omega) dL_law_1483 (fun z1483 e1483 l1483 r1483 => ?_)
  have y1483 : z1464 = z1483 := e1464.trans e1483.symm
  subst y1483
  refine ne_callVF (is := [13, 14, 15, 16, 17, 18, 19]) X nw_Tg (me_X3_orderW l hl c q t b k h mv9 T hM (by omega) _ _ (by omega) (by omega)) nw_yX3_order nw_mL_257 nw_iX3_order nw_eX3_order (ci := 5) rfl rfl rfl dL_law_1484 rfl rfl (by decide) (by decide) (by first | decide | omega) (by first | decide | omega) (Nat.le_of_ble_eq_true rfl) (hcw _ _ _ _ _ _ _ _ _ _ _ _ _ _ _ _ _) rfl rfl (Nat.le_of_ble_eq_true rfl) lw_pt2 ?_ ?_
  rotate_left
  · rintro E9 w9 h9; exact h9.elim
  rintro v1484 w1484 ⟨mv91, z1484, rfl, hM1, rfl, g1484⟩
  refine ne_ws lw_mg2 ?_
  obtain ⟨hk, hu⟩ := cn_order (c := c) (q := q) g1466 g1484
  refine ne_istore X dL_law_1487 (by decide) ?_
  refine ne_ll (L' := [some (.ref 0), some (.ref 1), some (.ref 13), some (.ref 20), some (ni _), some (ni _), some (ni _)]) rfl ?_
  refine ne_aload_n X dL_law_1489 rfl ?_
  refine ne_callVF (is := [13, 14, 15, 16, 17, 18, 19]) X nw_Tg (me_X3_thrown l hl c q t b k h mv91 (T + 1) hM1 (by omega)) nw_yX3_thrown nw_mL_258 nw_iX3_thrown nw_eX3_thrown (ci := 5) rfl rfl rfl dL_law_1490 rfl rfl (by decide) (by decide) (by first | decide | omega) (by first | decide | omega) (Nat.le_of_ble_eq_true rfl) (hcw _ _ _ _ _ _ _ _ _ _ _ _ _ _ _ _ _) rfl rfl (Nat.le_of_ble_eq_true rfl) lw_pt2 ?_ ?_
  rotate_left
  · rintro E9 w9 h9; exact h9.elim
  rintro v1490 w1490 ⟨rfl, rfl⟩
  refine ne_ws lw_mg2 ?_
  refine ne_iload X dL_law_1493 rfl ?_
  refine ne_icmp_eq (tgt := 1500) X dL_law_1495 rfl (by omega) (by omega) (fun b1495 => ?_) (fun b1495 => ?_)
  · refine ne_iload X dL_law_1500 rfl ?_
    refine ne_if_ne (tgt := 1518) X dL_law_1502 rfl (by omega) (fun b1502 => ?_) (fun b1502 => ?_)
    · refine ne_goto (tgt := 2324) X dL_law_1518 rfl ?_
      refine ne_lnone 5 (ne_lnone 6 ?_)
      refine ne_ll (L' := [some (.ref 0), some (.ref 1), some (.ref 13), some (.ref 20), some (ni i), none, none]) rfl ?_
      refine ne_less (C' := C - 500) (S' := S - 3500) (by omega) (by omega) ?_
      exact kk _ _ _ _ _ _ _ _ _ _ _ _ hI1 hM1 hP hs
    · have hu2 := hu (by omega)
      refine ne_aload_n X dL_law_1505 rfl ?_
      refine ne_getfn X dL_law_1506 nw_fL_13 rfl rfl ?_
      refine ne_iload X dL_law_1509 rfl ?_
      refine ne_i2l (by omega) X dL_law_1511 ?_
      refine ne_lcif_eq (tgt := 1518) X dL_law_1512 dL_law_1513 rfl (by omega) (by omega) (fun b1513 => ?_) (fun b1513 => ?_)
      · refine ne_goto (tgt := 2324) X dL_law_1518 rfl ?_
        refine ne_lnone 5 (ne_lnone 6 ?_)
        refine ne_ll (L' := [some (.ref 0), some (.ref 1), some (.ref 13), some (.ref 20), some (ni i), none, none]) rfl ?_
        refine ne_less (C' := C - 500) (S' := S - 3500) (by omega) (by omega) ?_
        exact kk _ _ _ _ _ _ _ _ _ _ _ _ hI1 hM1 hP hs
      · exfalso; omega
  · exfalso; omega
set_option maxRecDepth 100000 in
set_option maxHeartbeats 4000000 in
theorem lc_26 (hl : l.stackTraces = false) (X : ne_F nw_cl D ct A p l room_1 s9 m args meth c9 RL cL_law 7 nw_T 20 1000 888398 6436287) (hX : va_X b9 N9 xs s9 s9.heap) (hbl : b9 < s9.heap.size) (hbA : ¬ A b9) (hb0 : ad0 0 = b9) (i T : Int) (hi : 0 ≤ i ∧ i + 6 ≤ N9 ∧ N9 ≤ 384) (hT : 0 ≤ T ∧ T ≤ 100) (c q t b k n h x y  : Nat → Int) (mv9 u : Int) (sv : Value) (hI : cI c q t b k n h x y T) (hM : mI c q t b k h mv9 T) (hP : ∀ j : Nat, ne_per (t j) (b j) (n j)) (hs : sv = .null ∨ sv = .ref 21) (C S : Nat) (hC : 500 ≤ C) (hS : 3500 ≤ S) (kk : ∀ (c q t b k n h x y  : Nat → Int) (mv9 u : Int) (sv : Value), cI c q t b k n h x y (T + 1) → mI c q t b k h mv9 (T + 1) → (∀ j : Nat, ne_per (t j) (b j) (n j)) → (sv = .null ∨ sv = .ref 21) → ne_G nw_cl D ct A 1 ad0 p l e room_1 s9 m args below meth c9 Q9 7 888398 6436287 (C - 500) (S - 3500) 2324 [some (.ref 0), some (.ref 1), some (.ref 13), some (.ref 20), some (ni i), none, none] [] (lW c q t b k n h x y c q t b k h mv9 (nl u) sv)) : ne_G nw_cl D ct A 1 ad0 p l e room_1 s9 m args below meth c9 Q9 7 888398 6436287 C S 1521 [some (.ref 0), some (.ref 1), some (.ref 13), some (.ref 20), some (ni i), none, none] [] (lW c q t b k n h x y c q t b k h mv9 (nl u) sv) := by
  obtain ⟨s8, hs8, rfl⟩ : ∃ s8 : Value, (s8 = .null ∨ s8 = .ref 13) ∧ sv = ne_rn [1, 2, 3, 4, 5, 6, 7, 8, 9, 10, 11, 12, 20, 21] 22 s8 := by
    rcases hs with rfl | rfl
    · exact ⟨.null, Or.inl rfl, rfl⟩
    · exact ⟨.ref 13, Or.inr rfl, rfl⟩
  have hcw : ∀ (c q t b k n h x y mc9 mq9 mt9 mb9 mk9 mh9 : Nat → Int) (mv9 u : Int), ne_cw 22 (lW c q t b k n h x y mc9 mq9 mt9 mb9 mk9 mh9 mv9 (nl u) (ne_rn [1, 2, 3, 4, 5, 6, 7, 8, 9, 10, 11, 12, 20, 21] 22 s8)) = true := by
    intros
    rcases hs8 with rfl | rfl <;> rfl
  refine ne_aload_n X dL_law_1521 rfl ?_
  refine ne_aload_n X dL_law_1522 rfl ?_
  refine ne_iload X dL_law_1523 rfl ?_
  refine ne_iconst X dL_law_1525 ?_
  refine ne_iadd X dL_law_1526 ?_
  refine ne_sld X hX hbl hbA hb0 (by decide) (by omega) dL_law_1527 (fun z1527 e1527 l1527 r1527 => ?_)
  refine ne_aload_n X dL_law_1528 rfl ?_
  refine ne_iload X dL_law_1529 rfl ?_
  refine ne_iconst X dL_law_1531 ?_
  refine ne_iadd X dL_law_1532 ?_
  refine ne_sld X hX hbl hbA hb0 (by decide) (by omega) dL_law_1533 (fun z1533 e1533 l1533 r1533 => ?_)
  refine ne_aload_n X dL_law_1534 rfl ?_
  refine ne_callSFW (is := [1, 2, 3, 4, 5, 6, 7, 8, 9, 10, 11, 12, 20, 21]) X nw_Tg (me_L_same l hl c q t b k n h x y T hI (by omega) u s8 hs8 _ _ (by omega) (by omega)) nw_yL_same nw_mL_262 nw_sL_same dL_law_1535 rfl rfl (by decide) (by decide) (by first | decide | omega) (by first | decide | omega) (Nat.le_of_ble_eq_true rfl) (hcw _ _ _ _ _ _ _ _ _ _ _ _ _ _ _ _ _) rfl rfl (Nat.le_of_ble_eq_true rfl) lw_pt1 ?_ ?_
  rotate_left
  · rintro E9 w9 h9; exact h9.elim
  rintro v1535 w1535 ⟨x1, y1, u1, rfl, hI1, z1535, rfl⟩
  refine ne_ws lw_mg1 ?_
  refine ne_istore X dL_law_1538 (by decide) ?_
  refine ne_aload_n X dL_law_1540 rfl ?_
  refine ne_aload_n X dL_law_1541 rfl ?_
  refine ne_iload X dL_law_1542 rfl ?_
  refine ne_iconst X dL_law_1544 ?_
  refine ne_iadd X dL_law_1545 ?_
  refine ne_sld X hX hbl hbA hb0 (by decide) (by omega) dL_law_1546 (fun z1546 e1546 l1546 r1546 => ?_)
  have y1546 : z1527 = z1546 := e1527.trans e1546.symm
  subst y1546
  refine ne_aload_n X dL_law_1547 rfl ?_
  refine ne_iload X dL_law_1548 rfl ?_
  refine ne_iconst X dL_law_1550 ?_
  refine ne_iadd X dL_law_1551 ?_
  refine ne_sld X hX hbl hbA hb0 (by decide) (by omega) dL_law_1552 (fun z1552 e1552 l1552 r1552 => ?_)
  have y1552 : z1533 = z1552 := e1533.trans e1552.symm
  subst y1552
  refine ne_callVF (is := [13, 14, 15, 16, 17, 18, 19]) X nw_Tg (me_X3_same l hl c q t b k h mv9 T hM (by omega) _ _ (by omega) (by omega)) nw_yX3_same nw_mL_264 nw_iX3_same nw_eX3_same (ci := 5) rfl rfl rfl dL_law_1553 rfl rfl (by decide) (by decide) (by first | decide | omega) (by first | decide | omega) (Nat.le_of_ble_eq_true rfl) (hcw _ _ _ _ _ _ _ _ _ _ _ _ _ _ _ _ _) rfl rfl (Nat.le_of_ble_eq_true rfl) lw_pt2 ?_ ?_
  rotate_left
  · rintro E9 w9 h9; exact h9.elim
  rintro v1553 w1553 ⟨⟨mv91, rfl, hM1⟩, z1553, rfl, g1553⟩
  refine ne_ws lw_mg2 ?_
  refine ne_istore X dL_law_1556 (by decide) ?_
  refine ne_ll (L' := [some (.ref 0), some (.ref 1), some (.ref 13), some (.ref 20), some (ni _), some (ni _), some (ni _)]) rfl ?_
  refine ne_goto (tgt := 2324) X dL_law_1558 rfl ?_
  refine ne_lnone 5 (ne_lnone 6 ?_)
  refine ne_ll (L' := [some (.ref 0), some (.ref 1), some (.ref 13), some (.ref 20), some (ni i), none, none]) rfl ?_
  refine ne_less (C' := C - 500) (S' := S - 3500) (by omega) (by omega) ?_
  exact kk _ _ _ _ _ _ _ _ _ _ _ _ hI1 hM1 hP hs
set_option maxRecDepth 100000 in
set_option maxHeartbeats 4000000 in
theorem lc_27 (hl : l.stackTraces = false) (X : ne_F nw_cl D ct A p l room_1 s9 m args meth c9 RL cL_law 7 nw_T 20 1000 888398 6436287) (hX : va_X b9 N9 xs s9 s9.heap) (hbl : b9 < s9.heap.size) (hbA : ¬ A b9) (hb0 : ad0 0 = b9) (i T : Int) (hi : 0 ≤ i ∧ i + 6 ≤ N9 ∧ N9 ≤ 384) (hT : 0 ≤ T ∧ T ≤ 100) (c q t b k n h x y  : Nat → Int) (mv9 u : Int) (sv : Value) (hI : cI c q t b k n h x y T) (hM : mI c q t b k h mv9 T) (hP : ∀ j : Nat, ne_per (t j) (b j) (n j)) (hs : sv = .null ∨ sv = .ref 21) (C S : Nat) (hC : 500 ≤ C) (hS : 3500 ≤ S) (kk : ∀ (c q t b k n h x y  : Nat → Int) (mv9 u : Int) (sv : Value), cI c q t b k n h x y (T + 1) → mI c q t b k h mv9 (T + 1) → (∀ j : Nat, ne_per (t j) (b j) (n j)) → (sv = .null ∨ sv = .ref 21) → ne_G nw_cl D ct A 1 ad0 p l e room_1 s9 m args below meth c9 Q9 7 888398 6436287 (C - 500) (S - 3500) 2324 [some (.ref 0), some (.ref 1), some (.ref 13), some (.ref 20), some (ni i), none, none] [] (lW c q t b k n h x y c q t b k h mv9 (nl u) sv)) : ne_G nw_cl D ct A 1 ad0 p l e room_1 s9 m args below meth c9 Q9 7 888398 6436287 C S 1561 [some (.ref 0), some (.ref 1), some (.ref 13), some (.ref 20), some (ni i), none, none] [] (lW c q t b k n h x y c q t b k h mv9 (nl u) sv) := by
  obtain ⟨s8, hs8, rfl⟩ : ∃ s8 : Value, (s8 = .null ∨ s8 = .ref 13) ∧ sv = ne_rn [1, 2, 3, 4, 5, 6, 7, 8, 9, 10, 11, 12, 20, 21] 22 s8 := by
    rcases hs with rfl | rfl
    · exact ⟨.null, Or.inl rfl, rfl⟩
    · exact ⟨.ref 13, Or.inr rfl, rfl⟩
  have hcw : ∀ (c q t b k n h x y mc9 mq9 mt9 mb9 mk9 mh9 : Nat → Int) (mv9 u : Int), ne_cw 22 (lW c q t b k n h x y mc9 mq9 mt9 mb9 mk9 mh9 mv9 (nl u) (ne_rn [1, 2, 3, 4, 5, 6, 7, 8, 9, 10, 11, 12, 20, 21] 22 s8)) = true := by
    intros
    rcases hs8 with rfl | rfl <;> rfl
  refine ne_aload_n X dL_law_1561 rfl ?_
  refine ne_aload_n X dL_law_1562 rfl ?_
  refine ne_iload X dL_law_1563 rfl ?_
  refine ne_iconst X dL_law_1565 ?_
  refine ne_iadd X dL_law_1566 ?_
  refine ne_sld X hX hbl hbA hb0 (by decide) (by omega) dL_law_1567 (fun z1567 e1567 l1567 r1567 => ?_)
  refine ne_aload_n X dL_law_1568 rfl ?_
  refine ne_iload X dL_law_1569 rfl ?_
  refine ne_iconst X dL_law_1571 ?_
  refine ne_iadd X dL_law_1572 ?_
  refine ne_sld X hX hbl hbA hb0 (by decide) (by omega) dL_law_1573 (fun z1573 e1573 l1573 r1573 => ?_)
  refine ne_aload_n X dL_law_1574 rfl ?_
  refine ne_iload X dL_law_1575 rfl ?_
  refine ne_iconst X dL_law_1577 ?_
  refine ne_iadd X dL_law_1578 ?_
  refine ne_sld X hX hbl hbA hb0 (by decide) (by omega) dL_law_1579 (fun z1579 e1579 l1579 r1579 => ?_)
  refine ne_aload_n X dL_law_1580 rfl ?_
  refine ne_callSFW (is := [1, 2, 3, 4, 5, 6, 7, 8, 9, 10, 11, 12, 20, 21]) X nw_Tg (me_L_setWheel l hl c q t b k n h x y T hI (by omega) u s8 hs8 _ _ _ (by omega) (by omega) (by omega)) nw_yL_setWheel nw_mL_265 nw_sL_setWheel dL_law_1581 rfl rfl (by decide) (by decide) (by first | decide | omega) (by first | decide | omega) (Nat.le_of_ble_eq_true rfl) (hcw _ _ _ _ _ _ _ _ _ _ _ _ _ _ _ _ _) rfl rfl (Nat.le_of_ble_eq_true rfl) lw_pt1 ?_ ?_
  rotate_left
  · rintro E9 w9 h9; exact h9.elim
  rintro v1581 w1581 ⟨t1, b1, k1, n1, h1, u1, rfl, hI1, z1581, rfl, g1581⟩
  refine ne_ws lw_mg1 ?_
  refine ne_istore X dL_law_1584 (by decide) ?_
  refine ne_aload_n X dL_law_1586 rfl ?_
  refine ne_aload_n X dL_law_1587 rfl ?_
  refine ne_iload X dL_law_1588 rfl ?_
  refine ne_iconst X dL_law_1590 ?_
  refine ne_iadd X dL_law_1591 ?_
  refine ne_sld X hX hbl hbA hb0 (by decide) (by omega) dL_law_1592 (fun z1592 e1592 l1592 r1592 => ?_)
  have y1592 : z1567 = z1592 := e1567.trans e1592.symm
  subst y1592
  refine ne_aload_n X dL_law_1593 rfl ?_
  refine ne_iload X dL_law_1594 rfl ?_
  refine ne_iconst X dL_law_1596 ?_
  refine ne_iadd X dL_law_1597 ?_
  refine ne_sld X hX hbl hbA hb0 (by decide) (by omega) dL_law_1598 (fun z1598 e1598 l1598 r1598 => ?_)
  have y1598 : z1573 = z1598 := e1573.trans e1598.symm
  subst y1598
  refine ne_aload_n X dL_law_1599 rfl ?_
  refine ne_iload X dL_law_1600 rfl ?_
  refine ne_iconst X dL_law_1602 ?_
  refine ne_iadd X dL_law_1603 ?_
  refine ne_sld X hX hbl hbA hb0 (by decide) (by omega) dL_law_1604 (fun z1604 e1604 l1604 r1604 => ?_)
  have y1604 : z1579 = z1604 := e1579.trans e1604.symm
  subst y1604
  refine ne_callVF (is := [13, 14, 15, 16, 17, 18, 19]) X nw_Tg (me_X3_setWheelW l hl c q t b k h mv9 T hM (by omega) _ _ _ (by omega) (by omega) (by omega)) nw_yX3_setWheel nw_mL_267 nw_iX3_setWheel nw_eX3_setWheel (ci := 5) rfl rfl rfl dL_law_1605 rfl rfl (by decide) (by decide) (by first | decide | omega) (by first | decide | omega) (Nat.le_of_ble_eq_true rfl) (hcw _ _ _ _ _ _ _ _ _ _ _ _ _ _ _ _ _) rfl rfl (Nat.le_of_ble_eq_true rfl) lw_pt2 ?_ ?_
  rotate_left
  · rintro E9 w9 h9; exact h9.elim
  rintro v1605 w1605 ⟨t2, b2, k2, h2, mv91, z1605, rfl, hM1, rfl, g1605⟩
  refine ne_ws lw_mg2 ?_
  obtain ⟨hk, hu, e7, e8, e9, e10, hP1⟩ := cn_setWheel (k := k) hP g1581 g1605
  subst e7 e8 e9 e10
  refine ne_istore X dL_law_1608 (by decide) ?_
  refine ne_ll (L' := [some (.ref 0), some (.ref 1), some (.ref 13), some (.ref 20), some (ni _), some (ni _), some (ni _)]) rfl ?_
  refine ne_goto (tgt := 2324) X dL_law_1610 rfl ?_
  refine ne_lnone 5 (ne_lnone 6 ?_)
  refine ne_ll (L' := [some (.ref 0), some (.ref 1), some (.ref 13), some (.ref 20), some (ni i), none, none]) rfl ?_
  refine ne_less (C' := C - 500) (S' := S - 3500) (by omega) (by omega) ?_
  exact kk _ _ _ _ _ _ _ _ _ _ _ _ hI1 hM1 hP1 hs
set_option maxRecDepth 100000 in
set_option maxHeartbeats 4000000 in
theorem lc_28 (hl : l.stackTraces = false) (X : ne_F nw_cl D ct A p l room_1 s9 m args meth c9 RL cL_law 7 nw_T 20 1000 888398 6436287) (hX : va_X b9 N9 xs s9 s9.heap) (hbl : b9 < s9.heap.size) (hbA : ¬ A b9) (hb0 : ad0 0 = b9) (i T : Int) (hi : 0 ≤ i ∧ i + 6 ≤ N9 ∧ N9 ≤ 384) (hT : 0 ≤ T ∧ T ≤ 100) (c q t b k n h x y  : Nat → Int) (mv9 u : Int) (sv : Value) (hI : cI c q t b k n h x y T) (hM : mI c q t b k h mv9 T) (hP : ∀ j : Nat, ne_per (t j) (b j) (n j)) (hs : sv = .null ∨ sv = .ref 21) (C S : Nat) (hC : 500 ≤ C) (hS : 3500 ≤ S) (kk : ∀ (c q t b k n h x y  : Nat → Int) (mv9 u : Int) (sv : Value), cI c q t b k n h x y (T + 1) → mI c q t b k h mv9 (T + 1) → (∀ j : Nat, ne_per (t j) (b j) (n j)) → (sv = .null ∨ sv = .ref 21) → ne_G nw_cl D ct A 1 ad0 p l e room_1 s9 m args below meth c9 Q9 7 888398 6436287 (C - 500) (S - 3500) 2324 [some (.ref 0), some (.ref 1), some (.ref 13), some (.ref 20), some (ni i), none, none] [] (lW c q t b k n h x y c q t b k h mv9 (nl u) sv)) : ne_G nw_cl D ct A 1 ad0 p l e room_1 s9 m args below meth c9 Q9 7 888398 6436287 C S 1613 [some (.ref 0), some (.ref 1), some (.ref 13), some (.ref 20), some (ni i), none, none] [] (lW c q t b k n h x y c q t b k h mv9 (nl u) sv) := by
  obtain ⟨s8, hs8, rfl⟩ : ∃ s8 : Value, (s8 = .null ∨ s8 = .ref 13) ∧ sv = ne_rn [1, 2, 3, 4, 5, 6, 7, 8, 9, 10, 11, 12, 20, 21] 22 s8 := by
    rcases hs with rfl | rfl
    · exact ⟨.null, Or.inl rfl, rfl⟩
    · exact ⟨.ref 13, Or.inr rfl, rfl⟩
  have hcw : ∀ (c q t b k n h x y mc9 mq9 mt9 mb9 mk9 mh9 : Nat → Int) (mv9 u : Int), ne_cw 22 (lW c q t b k n h x y mc9 mq9 mt9 mb9 mk9 mh9 mv9 (nl u) (ne_rn [1, 2, 3, 4, 5, 6, 7, 8, 9, 10, 11, 12, 20, 21] 22 s8)) = true := by
    intros
    rcases hs8 with rfl | rfl <;> rfl
  refine ne_aload_n X dL_law_1613 rfl ?_
  refine ne_aload_n X dL_law_1614 rfl ?_
  refine ne_iload X dL_law_1615 rfl ?_
  refine ne_iconst X dL_law_1617 ?_
  refine ne_iadd X dL_law_1618 ?_
  refine ne_sld X hX hbl hbA hb0 (by decide) (by omega) dL_law_1619 (fun z1619 e1619 l1619 r1619 => ?_)
  refine ne_aload_n X dL_law_1620 rfl ?_
  refine ne_callSFW (is := [1, 2, 3, 4, 5, 6, 7, 8, 9, 10, 11, 12, 20, 21]) X nw_Tg (me_L_step l hl c q t b k n h x y T hI (by omega) u s8 hs8 _ (by omega)) nw_yL_step nw_mL_268 nw_sL_step dL_law_1621 rfl rfl (by decide) (by decide) (by first | decide | omega) (by first | decide | omega) (Nat.le_of_ble_eq_true rfl) (hcw _ _ _ _ _ _ _ _ _ _ _ _ _ _ _ _ _) rfl rfl (Nat.le_of_ble_eq_true rfl) lw_pt1 ?_ ?_
  rotate_left
  · rintro E9 w9 h9; exact h9.elim
  rintro v1621 w1621 ⟨t1, b1, k1, n1, h1, u1, rfl, hI1, z1621, rfl, g1621⟩
  refine ne_ws lw_mg1 ?_
  refine ne_istore X dL_law_1624 (by decide) ?_
  refine ne_aload_n X dL_law_1626 rfl ?_
  refine ne_aload_n X dL_law_1627 rfl ?_
  refine ne_iload X dL_law_1628 rfl ?_
  refine ne_iconst X dL_law_1630 ?_
  refine ne_iadd X dL_law_1631 ?_
  refine ne_sld X hX hbl hbA hb0 (by decide) (by omega) dL_law_1632 (fun z1632 e1632 l1632 r1632 => ?_)
  have y1632 : z1619 = z1632 := e1619.trans e1632.symm
  subst y1632
  refine ne_callVF (is := [13, 14, 15, 16, 17, 18, 19]) X nw_Tg (me_X3_stepW l hl c q t b k h mv9 T hM (by omega) _ (by omega)) nw_yX3_step nw_mL_270 nw_iX3_step nw_eX3_step (ci := 5) rfl rfl rfl dL_law_1633 rfl rfl (by decide) (by decide) (by first | decide | omega) (by first | decide | omega) (Nat.le_of_ble_eq_true rfl) (hcw _ _ _ _ _ _ _ _ _ _ _ _ _ _ _ _ _) rfl rfl (Nat.le_of_ble_eq_true rfl) lw_pt2 ?_ ?_
  rotate_left
  · rintro E9 w9 h9; exact h9.elim
  rintro v1633 w1633 ⟨t2, b2, k2, h2, mv91, z1633, rfl, hM1, rfl, g1633⟩
  refine ne_ws lw_mg2 ?_
  obtain ⟨hk, hu, e7, e8, e9, e10, hP1⟩ := cn_step (k := k) hP g1621 g1633
  subst e7 e8 e9 e10
  refine ne_istore X dL_law_1636 (by decide) ?_
  refine ne_ll (L' := [some (.ref 0), some (.ref 1), some (.ref 13), some (.ref 20), some (ni _), some (ni _), some (ni _)]) rfl ?_
  refine ne_goto (tgt := 2324) X dL_law_1638 rfl ?_
  refine ne_lnone 5 (ne_lnone 6 ?_)
  refine ne_ll (L' := [some (.ref 0), some (.ref 1), some (.ref 13), some (.ref 20), some (ni i), none, none]) rfl ?_
  refine ne_less (C' := C - 500) (S' := S - 3500) (by omega) (by omega) ?_
  exact kk _ _ _ _ _ _ _ _ _ _ _ _ hI1 hM1 hP1 hs
set_option maxRecDepth 100000 in
set_option maxHeartbeats 4000000 in
theorem lc_29 (hl : l.stackTraces = false) (X : ne_F nw_cl D ct A p l room_1 s9 m args meth c9 RL cL_law 7 nw_T 20 1000 888398 6436287) (hX : va_X b9 N9 xs s9 s9.heap) (hbl : b9 < s9.heap.size) (hbA : ¬ A b9) (hb0 : ad0 0 = b9) (i T : Int) (hi : 0 ≤ i ∧ i + 6 ≤ N9 ∧ N9 ≤ 384) (hT : 0 ≤ T ∧ T ≤ 100) (c q t b k n h x y  : Nat → Int) (mv9 u : Int) (sv : Value) (hI : cI c q t b k n h x y T) (hM : mI c q t b k h mv9 T) (hP : ∀ j : Nat, ne_per (t j) (b j) (n j)) (hs : sv = .null ∨ sv = .ref 21) (C S : Nat) (hC : 500 ≤ C) (hS : 3500 ≤ S) (kk : ∀ (c q t b k n h x y  : Nat → Int) (mv9 u : Int) (sv : Value), cI c q t b k n h x y (T + 1) → mI c q t b k h mv9 (T + 1) → (∀ j : Nat, ne_per (t j) (b j) (n j)) → (sv = .null ∨ sv = .ref 21) → ne_G nw_cl D ct A 1 ad0 p l e room_1 s9 m args below meth c9 Q9 7 888398 6436287 (C - 500) (S - 3500) 2324 [some (.ref 0), some (.ref 1), some (.ref 13), some (.ref 20), some (ni i), none, none] [] (lW c q t b k n h x y c q t b k h mv9 (nl u) sv)) : ne_G nw_cl D ct A 1 ad0 p l e room_1 s9 m args below meth c9 Q9 7 888398 6436287 C S 1641 [some (.ref 0), some (.ref 1), some (.ref 13), some (.ref 20), some (ni i), none, none] [] (lW c q t b k n h x y c q t b k h mv9 (nl u) sv) := by
  obtain ⟨s8, hs8, rfl⟩ : ∃ s8 : Value, (s8 = .null ∨ s8 = .ref 13) ∧ sv = ne_rn [1, 2, 3, 4, 5, 6, 7, 8, 9, 10, 11, 12, 20, 21] 22 s8 := by
    rcases hs with rfl | rfl
    · exact ⟨.null, Or.inl rfl, rfl⟩
    · exact ⟨.ref 13, Or.inr rfl, rfl⟩
  have hcw : ∀ (c q t b k n h x y mc9 mq9 mt9 mb9 mk9 mh9 : Nat → Int) (mv9 u : Int), ne_cw 22 (lW c q t b k n h x y mc9 mq9 mt9 mb9 mk9 mh9 mv9 (nl u) (ne_rn [1, 2, 3, 4, 5, 6, 7, 8, 9, 10, 11, 12, 20, 21] 22 s8)) = true := by
    intros
    rcases hs8 with rfl | rfl <;> rfl
  refine ne_aload_n X dL_law_1641 rfl ?_
  refine ne_aload_n X dL_law_1642 rfl ?_
  refine ne_iload X dL_law_1643 rfl ?_
  refine ne_iconst X dL_law_1645 ?_
  refine ne_iadd X dL_law_1646 ?_
  refine ne_sld X hX hbl hbA hb0 (by decide) (by omega) dL_law_1647 (fun z1647 e1647 l1647 r1647 => ?_)
  refine ne_aload_n X dL_law_1648 rfl ?_
  refine ne_iload X dL_law_1649 rfl ?_
  refine ne_iconst X dL_law_1651 ?_
  refine ne_iadd X dL_law_1652 ?_
  refine ne_sld X hX hbl hbA hb0 (by decide) (by omega) dL_law_1653 (fun z1653 e1653 l1653 r1653 => ?_)
  refine ne_aload_n X dL_law_1654 rfl ?_
  refine ne_callSFW (is := [1, 2, 3, 4, 5, 6, 7, 8, 9, 10, 11, 12, 20, 21]) X nw_Tg (me_L_turn l hl c q t b k n h x y T hI (by omega) u s8 hs8 _ _ (by omega) (by omega)) nw_yL_turn nw_mL_271 nw_sL_turn dL_law_1655 rfl rfl (by decide) (by decide) (by first | decide | omega) (by first | decide | omega) (Nat.le_of_ble_eq_true rfl) (hcw _ _ _ _ _ _ _ _ _ _ _ _ _ _ _ _ _) rfl rfl (Nat.le_of_ble_eq_true rfl) lw_pt1 ?_ ?_
  rotate_left
  · rintro E9 w9 h9; exact h9.elim
  rintro v1655 w1655 ⟨t1, b1, k1, n1, h1, u1, rfl, hI1, z1655, rfl, g1655⟩
  refine ne_ws lw_mg1 ?_
  refine ne_istore X dL_law_1658 (by decide) ?_
  refine ne_aload_n X dL_law_1660 rfl ?_
  refine ne_aload_n X dL_law_1661 rfl ?_
  refine ne_iload X dL_law_1662 rfl ?_
  refine ne_iconst X dL_law_1664 ?_
  refine ne_iadd X dL_law_1665 ?_
  refine ne_sld X hX hbl hbA hb0 (by decide) (by omega) dL_law_1666 (fun z1666 e1666 l1666 r1666 => ?_)
  have y1666 : z1647 = z1666 := e1647.trans e1666.symm
  subst y1666
  refine ne_aload_n X dL_law_1667 rfl ?_
  refine ne_iload X dL_law_1668 rfl ?_
  refine ne_iconst X dL_law_1670 ?_
  refine ne_iadd X dL_law_1671 ?_
  refine ne_sld X hX hbl hbA hb0 (by decide) (by omega) dL_law_1672 (fun z1672 e1672 l1672 r1672 => ?_)
  have y1672 : z1653 = z1672 := e1653.trans e1672.symm
  subst y1672
  refine ne_callVF (is := [13, 14, 15, 16, 17, 18, 19]) X nw_Tg (me_X3_turnW l hl c q t b k h mv9 T hM (by omega) _ _ (by omega) (by omega)) nw_yX3_turn nw_mL_273 nw_iX3_turn nw_eX3_turn (ci := 5) rfl rfl rfl dL_law_1673 rfl rfl (by decide) (by decide) (by first | decide | omega) (by first | decide | omega) (Nat.le_of_ble_eq_true rfl) (hcw _ _ _ _ _ _ _ _ _ _ _ _ _ _ _ _ _) rfl rfl (Nat.le_of_ble_eq_true rfl) lw_pt2 ?_ ?_
  rotate_left
  · rintro E9 w9 h9; exact h9.elim
  rintro v1673 w1673 ⟨t2, b2, k2, h2, mv91, z1673, rfl, hM1, rfl, g1673⟩
  refine ne_ws lw_mg2 ?_
  obtain ⟨hk, hu, e7, e8, e9, e10, hP1⟩ := cn_turn (k := k) hP g1655 g1673
  subst e7 e8 e9 e10
  refine ne_istore X dL_law_1676 (by decide) ?_
  refine ne_ll (L' := [some (.ref 0), some (.ref 1), some (.ref 13), some (.ref 20), some (ni _), some (ni _), some (ni _)]) rfl ?_
  refine ne_goto (tgt := 2324) X dL_law_1678 rfl ?_
  refine ne_lnone 5 (ne_lnone 6 ?_)
  refine ne_ll (L' := [some (.ref 0), some (.ref 1), some (.ref 13), some (.ref 20), some (ni i), none, none]) rfl ?_
  refine ne_less (C' := C - 500) (S' := S - 3500) (by omega) (by omega) ?_
  exact kk _ _ _ _ _ _ _ _ _ _ _ _ hI1 hM1 hP1 hs
set_option maxRecDepth 100000 in
set_option maxHeartbeats 4000000 in
theorem lc_30 (hl : l.stackTraces = false) (X : ne_F nw_cl D ct A p l room_1 s9 m args meth c9 RL cL_law 7 nw_T 20 1000 888398 6436287) (hX : va_X b9 N9 xs s9 s9.heap) (hbl : b9 < s9.heap.size) (hbA : ¬ A b9) (hb0 : ad0 0 = b9) (i T : Int) (hi : 0 ≤ i ∧ i + 6 ≤ N9 ∧ N9 ≤ 384) (hT : 0 ≤ T ∧ T ≤ 100) (c q t b k n h x y  : Nat → Int) (mv9 u : Int) (sv : Value) (hI : cI c q t b k n h x y T) (hM : mI c q t b k h mv9 T) (hP : ∀ j : Nat, ne_per (t j) (b j) (n j)) (hs : sv = .null ∨ sv = .ref 21) (C S : Nat) (hC : 500 ≤ C) (hS : 3500 ≤ S) (kk : ∀ (c q t b k n h x y  : Nat → Int) (mv9 u : Int) (sv : Value), cI c q t b k n h x y (T + 1) → mI c q t b k h mv9 (T + 1) → (∀ j : Nat, ne_per (t j) (b j) (n j)) → (sv = .null ∨ sv = .ref 21) → ne_G nw_cl D ct A 1 ad0 p l e room_1 s9 m args below meth c9 Q9 7 888398 6436287 (C - 500) (S - 3500) 2324 [some (.ref 0), some (.ref 1), some (.ref 13), some (.ref 20), some (ni i), none, none] [] (lW c q t b k n h x y c q t b k h mv9 (nl u) sv)) : ne_G nw_cl D ct A 1 ad0 p l e room_1 s9 m args below meth c9 Q9 7 888398 6436287 C S 1681 [some (.ref 0), some (.ref 1), some (.ref 13), some (.ref 20), some (ni i), none, none] [] (lW c q t b k n h x y c q t b k h mv9 (nl u) sv) := by
  obtain ⟨s8, hs8, rfl⟩ : ∃ s8 : Value, (s8 = .null ∨ s8 = .ref 13) ∧ sv = ne_rn [1, 2, 3, 4, 5, 6, 7, 8, 9, 10, 11, 12, 20, 21] 22 s8 := by
    rcases hs with rfl | rfl
    · exact ⟨.null, Or.inl rfl, rfl⟩
    · exact ⟨.ref 13, Or.inr rfl, rfl⟩
  have hcw : ∀ (c q t b k n h x y mc9 mq9 mt9 mb9 mk9 mh9 : Nat → Int) (mv9 u : Int), ne_cw 22 (lW c q t b k n h x y mc9 mq9 mt9 mb9 mk9 mh9 mv9 (nl u) (ne_rn [1, 2, 3, 4, 5, 6, 7, 8, 9, 10, 11, 12, 20, 21] 22 s8)) = true := by
    intros
    rcases hs8 with rfl | rfl <;> rfl
  refine ne_aload_n X dL_law_1681 rfl ?_
  refine ne_aload_n X dL_law_1682 rfl ?_
  refine ne_iload X dL_law_1683 rfl ?_
  refine ne_iconst X dL_law_1685 ?_
  refine ne_iadd X dL_law_1686 ?_
  refine ne_sld X hX hbl hbA hb0 (by decide) (by omega) dL_law_1687 (fun z1687 e1687 l1687 r1687 => ?_)
  refine ne_aload_n X dL_law_1688 rfl ?_
  refine ne_iload X dL_law_1689 rfl ?_
  refine ne_iconst X dL_law_1691 ?_
  refine ne_iadd X dL_law_1692 ?_
  refine ne_sld X hX hbl hbA hb0 (by decide) (by omega) dL_law_1693 (fun z1693 e1693 l1693 r1693 => ?_)
  refine ne_aload_n X dL_law_1694 rfl ?_
  refine ne_iload X dL_law_1695 rfl ?_
  refine ne_iconst X dL_law_1697 ?_
  refine ne_iadd X dL_law_1698 ?_
  refine ne_sld X hX hbl hbA hb0 (by decide) (by omega) dL_law_1699 (fun z1699 e1699 l1699 r1699 => ?_)
  refine ne_aload_n X dL_law_1700 rfl ?_
  refine ne_callSFW (is := [1, 2, 3, 4, 5, 6, 7, 8, 9, 10, 11, 12, 20, 21]) X nw_Tg (me_L_times l hl c q t b k n h x y T hI (by omega) u s8 hs8 _ _ _ (by omega) (by omega) (by omega)) nw_yL_times nw_mL_274 nw_sL_times dL_law_1701 rfl rfl (by decide) (by decide) (by first | decide | omega) (by first | decide | omega) (Nat.le_of_ble_eq_true rfl) (hcw _ _ _ _ _ _ _ _ _ _ _ _ _ _ _ _ _) rfl rfl (Nat.le_of_ble_eq_true rfl) lw_pt1 ?_ ?_
  rotate_left
  · rintro E9 w9 h9; exact h9.elim
  rintro v1701 w1701 ⟨t1, b1, k1, n1, h1, u1, rfl, hI1, z1701, rfl, g1701⟩
  refine ne_ws lw_mg1 ?_
  refine ne_istore X dL_law_1704 (by decide) ?_
  refine ne_aload_n X dL_law_1706 rfl ?_
  refine ne_aload_n X dL_law_1707 rfl ?_
  refine ne_iload X dL_law_1708 rfl ?_
  refine ne_iconst X dL_law_1710 ?_
  refine ne_iadd X dL_law_1711 ?_
  refine ne_sld X hX hbl hbA hb0 (by decide) (by omega) dL_law_1712 (fun z1712 e1712 l1712 r1712 => ?_)
  have y1712 : z1687 = z1712 := e1687.trans e1712.symm
  subst y1712
  refine ne_aload_n X dL_law_1713 rfl ?_
  refine ne_iload X dL_law_1714 rfl ?_
  refine ne_iconst X dL_law_1716 ?_
  refine ne_iadd X dL_law_1717 ?_
  refine ne_sld X hX hbl hbA hb0 (by decide) (by omega) dL_law_1718 (fun z1718 e1718 l1718 r1718 => ?_)
  have y1718 : z1693 = z1718 := e1693.trans e1718.symm
  subst y1718
  refine ne_aload_n X dL_law_1719 rfl ?_
  refine ne_iload X dL_law_1720 rfl ?_
  refine ne_iconst X dL_law_1722 ?_
  refine ne_iadd X dL_law_1723 ?_
  refine ne_sld X hX hbl hbA hb0 (by decide) (by omega) dL_law_1724 (fun z1724 e1724 l1724 r1724 => ?_)
  have y1724 : z1699 = z1724 := e1699.trans e1724.symm
  subst y1724
  refine ne_callVF (is := [13, 14, 15, 16, 17, 18, 19]) X nw_Tg (me_X3_timesW l hl c q t b k h mv9 T hM (by omega) _ _ _ (by omega) (by omega) (by omega)) nw_yX3_times nw_mL_276 nw_iX3_times nw_eX3_times (ci := 5) rfl rfl rfl dL_law_1725 rfl rfl (by decide) (by decide) (by first | decide | omega) (by first | decide | omega) (Nat.le_of_ble_eq_true rfl) (hcw _ _ _ _ _ _ _ _ _ _ _ _ _ _ _ _ _) rfl rfl (Nat.le_of_ble_eq_true rfl) lw_pt2 ?_ ?_
  rotate_left
  · rintro E9 w9 h9; exact h9.elim
  rintro v1725 w1725 ⟨t2, b2, k2, h2, mv91, z1725, rfl, hM1, rfl, g1725⟩
  refine ne_ws lw_mg2 ?_
  obtain ⟨hk, hu, e7, e8, e9, e10, hP1⟩ := cn_times (k := k) hP hI.2.2.1 hI.2.2.2.1 hM.2.2.2.2.2.1 g1701 g1725
  subst e7 e8 e9 e10
  refine ne_istore X dL_law_1728 (by decide) ?_
  refine ne_ll (L' := [some (.ref 0), some (.ref 1), some (.ref 13), some (.ref 20), some (ni _), some (ni _), some (ni _)]) rfl ?_
  refine ne_goto (tgt := 2324) X dL_law_1730 rfl ?_
  refine ne_lnone 5 (ne_lnone 6 ?_)
  refine ne_ll (L' := [some (.ref 0), some (.ref 1), some (.ref 13), some (.ref 20), some (ni i), none, none]) rfl ?_
  refine ne_less (C' := C - 500) (S' := S - 3500) (by omega) (by omega) ?_
  exact kk _ _ _ _ _ _ _ _ _ _ _ _ hI1 hM1 hP1 hs
set_option maxRecDepth 100000 in
set_option maxHeartbeats 4000000 in
theorem lc_31 (hl : l.stackTraces = false) (X : ne_F nw_cl D ct A p l room_1 s9 m args meth c9 RL cL_law 7 nw_T 20 1000 888398 6436287) (hX : va_X b9 N9 xs s9 s9.heap) (hbl : b9 < s9.heap.size) (hbA : ¬ A b9) (hb0 : ad0 0 = b9) (i T : Int) (hi : 0 ≤ i ∧ i + 6 ≤ N9 ∧ N9 ≤ 384) (hT : 0 ≤ T ∧ T ≤ 100) (c q t b k n h x y  : Nat → Int) (mv9 u : Int) (sv : Value) (hI : cI c q t b k n h x y T) (hM : mI c q t b k h mv9 T) (hP : ∀ j : Nat, ne_per (t j) (b j) (n j)) (hs : sv = .null ∨ sv = .ref 21) (C S : Nat) (hC : 500 ≤ C) (hS : 3500 ≤ S) (kk : ∀ (c q t b k n h x y  : Nat → Int) (mv9 u : Int) (sv : Value), cI c q t b k n h x y (T + 1) → mI c q t b k h mv9 (T + 1) → (∀ j : Nat, ne_per (t j) (b j) (n j)) → (sv = .null ∨ sv = .ref 21) → ne_G nw_cl D ct A 1 ad0 p l e room_1 s9 m args below meth c9 Q9 7 888398 6436287 (C - 500) (S - 3500) 2324 [some (.ref 0), some (.ref 1), some (.ref 13), some (.ref 20), some (ni i), none, none] [] (lW c q t b k n h x y c q t b k h mv9 (nl u) sv)) : ne_G nw_cl D ct A 1 ad0 p l e room_1 s9 m args below meth c9 Q9 7 888398 6436287 C S 1733 [some (.ref 0), some (.ref 1), some (.ref 13), some (.ref 20), some (ni i), none, none] [] (lW c q t b k n h x y c q t b k h mv9 (nl u) sv) := by
  obtain ⟨s8, hs8, rfl⟩ : ∃ s8 : Value, (s8 = .null ∨ s8 = .ref 13) ∧ sv = ne_rn [1, 2, 3, 4, 5, 6, 7, 8, 9, 10, 11, 12, 20, 21] 22 s8 := by
    rcases hs with rfl | rfl
    · exact ⟨.null, Or.inl rfl, rfl⟩
    · exact ⟨.ref 13, Or.inr rfl, rfl⟩
  have hcw : ∀ (c q t b k n h x y mc9 mq9 mt9 mb9 mk9 mh9 : Nat → Int) (mv9 u : Int), ne_cw 22 (lW c q t b k n h x y mc9 mq9 mt9 mb9 mk9 mh9 mv9 (nl u) (ne_rn [1, 2, 3, 4, 5, 6, 7, 8, 9, 10, 11, 12, 20, 21] 22 s8)) = true := by
    intros
    rcases hs8 with rfl | rfl <;> rfl
  refine ne_aload_n X dL_law_1733 rfl ?_
  refine ne_aload_n X dL_law_1734 rfl ?_
  refine ne_iload X dL_law_1735 rfl ?_
  refine ne_iconst X dL_law_1737 ?_
  refine ne_iadd X dL_law_1738 ?_
  refine ne_sld X hX hbl hbA hb0 (by decide) (by omega) dL_law_1739 (fun z1739 e1739 l1739 r1739 => ?_)
  refine ne_aload_n X dL_law_1740 rfl ?_
  refine ne_iload X dL_law_1741 rfl ?_
  refine ne_iconst X dL_law_1743 ?_
  refine ne_iadd X dL_law_1744 ?_
  refine ne_sld X hX hbl hbA hb0 (by decide) (by omega) dL_law_1745 (fun z1745 e1745 l1745 r1745 => ?_)
  refine ne_aload_n X dL_law_1746 rfl ?_
  refine ne_callSFW (is := [1, 2, 3, 4, 5, 6, 7, 8, 9, 10, 11, 12, 20, 21]) X nw_Tg (me_L_spoke l hl c q t b k n h x y T hI (by omega) u s8 hs8 _ _ (by omega) (by omega)) nw_yL_spoke nw_mL_277 nw_sL_spoke dL_law_1747 rfl rfl (by decide) (by decide) (by first | decide | omega) (by first | decide | omega) (Nat.le_of_ble_eq_true rfl) (hcw _ _ _ _ _ _ _ _ _ _ _ _ _ _ _ _ _) rfl rfl (Nat.le_of_ble_eq_true rfl) lw_pt1 ?_ ?_
  rotate_left
  · rintro E9 w9 h9; exact h9.elim
  rintro v1747 w1747 ⟨x1, y1, u1, rfl, hI1, z1747, rfl⟩
  refine ne_ws lw_mg1 ?_
  refine ne_istore X dL_law_1750 (by decide) ?_
  refine ne_aload_n X dL_law_1752 rfl ?_
  refine ne_aload_n X dL_law_1753 rfl ?_
  refine ne_iload X dL_law_1754 rfl ?_
  refine ne_iconst X dL_law_1756 ?_
  refine ne_iadd X dL_law_1757 ?_
  refine ne_sld X hX hbl hbA hb0 (by decide) (by omega) dL_law_1758 (fun z1758 e1758 l1758 r1758 => ?_)
  have y1758 : z1739 = z1758 := e1739.trans e1758.symm
  subst y1758
  refine ne_aload_n X dL_law_1759 rfl ?_
  refine ne_iload X dL_law_1760 rfl ?_
  refine ne_iconst X dL_law_1762 ?_
  refine ne_iadd X dL_law_1763 ?_
  refine ne_sld X hX hbl hbA hb0 (by decide) (by omega) dL_law_1764 (fun z1764 e1764 l1764 r1764 => ?_)
  have y1764 : z1745 = z1764 := e1745.trans e1764.symm
  subst y1764
  refine ne_callVF (is := [13, 14, 15, 16, 17, 18, 19]) X nw_Tg (me_X3_spoke l hl c q t b k h mv9 T hM (by omega) _ _ (by omega) (by omega)) nw_yX3_spoke nw_mL_279 nw_iX3_spoke nw_eX3_spoke (ci := 5) rfl rfl rfl dL_law_1765 rfl rfl (by decide) (by decide) (by first | decide | omega) (by first | decide | omega) (Nat.le_of_ble_eq_true rfl) (hcw _ _ _ _ _ _ _ _ _ _ _ _ _ _ _ _ _) rfl rfl (Nat.le_of_ble_eq_true rfl) lw_pt2 ?_ ?_
  rotate_left
  · rintro E9 w9 h9; exact h9.elim
  rintro v1765 w1765 ⟨⟨mv91, rfl, hM1⟩, z1765, rfl, g1765⟩
  refine ne_ws lw_mg2 ?_
  refine ne_istore X dL_law_1768 (by decide) ?_
  refine ne_ll (L' := [some (.ref 0), some (.ref 1), some (.ref 13), some (.ref 20), some (ni _), some (ni _), some (ni _)]) rfl ?_
  refine ne_goto (tgt := 2324) X dL_law_1770 rfl ?_
  refine ne_lnone 5 (ne_lnone 6 ?_)
  refine ne_ll (L' := [some (.ref 0), some (.ref 1), some (.ref 13), some (.ref 20), some (ni i), none, none]) rfl ?_
  refine ne_less (C' := C - 500) (S' := S - 3500) (by omega) (by omega) ?_
  exact kk _ _ _ _ _ _ _ _ _ _ _ _ hI1 hM1 hP hs
set_option maxRecDepth 100000 in
set_option maxHeartbeats 4000000 in
theorem lc_32 (hl : l.stackTraces = false) (X : ne_F nw_cl D ct A p l room_1 s9 m args meth c9 RL cL_law 7 nw_T 20 1000 888398 6436287) (hX : va_X b9 N9 xs s9 s9.heap) (hbl : b9 < s9.heap.size) (hbA : ¬ A b9) (hb0 : ad0 0 = b9) (i T : Int) (hi : 0 ≤ i ∧ i + 6 ≤ N9 ∧ N9 ≤ 384) (hT : 0 ≤ T ∧ T ≤ 100) (c q t b k n h x y  : Nat → Int) (mv9 u : Int) (sv : Value) (hI : cI c q t b k n h x y T) (hM : mI c q t b k h mv9 T) (hP : ∀ j : Nat, ne_per (t j) (b j) (n j)) (hs : sv = .null ∨ sv = .ref 21) (C S : Nat) (hC : 500 ≤ C) (hS : 3500 ≤ S) (kk : ∀ (c q t b k n h x y  : Nat → Int) (mv9 u : Int) (sv : Value), cI c q t b k n h x y (T + 1) → mI c q t b k h mv9 (T + 1) → (∀ j : Nat, ne_per (t j) (b j) (n j)) → (sv = .null ∨ sv = .ref 21) → ne_G nw_cl D ct A 1 ad0 p l e room_1 s9 m args below meth c9 Q9 7 888398 6436287 (C - 500) (S - 3500) 2324 [some (.ref 0), some (.ref 1), some (.ref 13), some (.ref 20), some (ni i), none, none] [] (lW c q t b k n h x y c q t b k h mv9 (nl u) sv)) : ne_G nw_cl D ct A 1 ad0 p l e room_1 s9 m args below meth c9 Q9 7 888398 6436287 C S 1773 [some (.ref 0), some (.ref 1), some (.ref 13), some (.ref 20), some (ni i), none, none] [] (lW c q t b k n h x y c q t b k h mv9 (nl u) sv) := by
  obtain ⟨s8, hs8, rfl⟩ : ∃ s8 : Value, (s8 = .null ∨ s8 = .ref 13) ∧ sv = ne_rn [1, 2, 3, 4, 5, 6, 7, 8, 9, 10, 11, 12, 20, 21] 22 s8 := by
    rcases hs with rfl | rfl
    · exact ⟨.null, Or.inl rfl, rfl⟩
    · exact ⟨.ref 13, Or.inr rfl, rfl⟩
  have hcw : ∀ (c q t b k n h x y mc9 mq9 mt9 mb9 mk9 mh9 : Nat → Int) (mv9 u : Int), ne_cw 22 (lW c q t b k n h x y mc9 mq9 mt9 mb9 mk9 mh9 mv9 (nl u) (ne_rn [1, 2, 3, 4, 5, 6, 7, 8, 9, 10, 11, 12, 20, 21] 22 s8)) = true := by
    intros
    rcases hs8 with rfl | rfl <;> rfl
  refine ne_aload_n X dL_law_1773 rfl ?_
  refine ne_aload_n X dL_law_1774 rfl ?_
  refine ne_iload X dL_law_1775 rfl ?_
  refine ne_iconst X dL_law_1777 ?_
  refine ne_iadd X dL_law_1778 ?_
  refine ne_sld X hX hbl hbA hb0 (by decide) (by omega) dL_law_1779 (fun z1779 e1779 l1779 r1779 => ?_)
  refine ne_aload_n X dL_law_1780 rfl ?_
  refine ne_callSFW (is := [1, 2, 3, 4, 5, 6, 7, 8, 9, 10, 11, 12, 20, 21]) X nw_Tg (me_L_lowest l hl c q t b k n h x y T hI (by omega) u s8 hs8 _ (by omega)) nw_yL_lowest nw_mL_280 nw_sL_lowest dL_law_1781 rfl rfl (by decide) (by decide) (by first | decide | omega) (by first | decide | omega) (Nat.le_of_ble_eq_true rfl) (hcw _ _ _ _ _ _ _ _ _ _ _ _ _ _ _ _ _) rfl rfl (Nat.le_of_ble_eq_true rfl) lw_pt1 ?_ ?_
  rotate_left
  · rintro E9 w9 h9; exact h9.elim
  rintro v1781 w1781 ⟨x1, y1, u1, rfl, hI1, z1781, rfl⟩
  refine ne_ws lw_mg1 ?_
  refine ne_istore X dL_law_1784 (by decide) ?_
  refine ne_aload_n X dL_law_1786 rfl ?_
  refine ne_aload_n X dL_law_1787 rfl ?_
  refine ne_iload X dL_law_1788 rfl ?_
  refine ne_iconst X dL_law_1790 ?_
  refine ne_iadd X dL_law_1791 ?_
  refine ne_sld X hX hbl hbA hb0 (by decide) (by omega) dL_law_1792 (fun z1792 e1792 l1792 r1792 => ?_)
  have y1792 : z1779 = z1792 := e1779.trans e1792.symm
  subst y1792
  refine ne_callVF (is := [13, 14, 15, 16, 17, 18, 19]) X nw_Tg (me_X3_lowest l hl c q t b k h mv9 T hM (by omega) _ (by omega)) nw_yX3_lowest nw_mL_282 nw_iX3_lowest nw_eX3_lowest (ci := 5) rfl rfl rfl dL_law_1793 rfl rfl (by decide) (by decide) (by first | decide | omega) (by first | decide | omega) (Nat.le_of_ble_eq_true rfl) (hcw _ _ _ _ _ _ _ _ _ _ _ _ _ _ _ _ _) rfl rfl (Nat.le_of_ble_eq_true rfl) lw_pt2 ?_ ?_
  rotate_left
  · rintro E9 w9 h9; exact h9.elim
  rintro v1793 w1793 ⟨⟨mv91, rfl, hM1⟩, z1793, rfl, g1793⟩
  refine ne_ws lw_mg2 ?_
  refine ne_istore X dL_law_1796 (by decide) ?_
  refine ne_ll (L' := [some (.ref 0), some (.ref 1), some (.ref 13), some (.ref 20), some (ni _), some (ni _), some (ni _)]) rfl ?_
  refine ne_goto (tgt := 2324) X dL_law_1798 rfl ?_
  refine ne_lnone 5 (ne_lnone 6 ?_)
  refine ne_ll (L' := [some (.ref 0), some (.ref 1), some (.ref 13), some (.ref 20), some (ni i), none, none]) rfl ?_
  refine ne_less (C' := C - 500) (S' := S - 3500) (by omega) (by omega) ?_
  exact kk _ _ _ _ _ _ _ _ _ _ _ _ hI1 hM1 hP hs
set_option maxRecDepth 100000 in
set_option maxHeartbeats 4000000 in
theorem lc_33 (hl : l.stackTraces = false) (X : ne_F nw_cl D ct A p l room_1 s9 m args meth c9 RL cL_law 7 nw_T 20 1000 888398 6436287) (hX : va_X b9 N9 xs s9 s9.heap) (hbl : b9 < s9.heap.size) (hbA : ¬ A b9) (hb0 : ad0 0 = b9) (i T : Int) (hi : 0 ≤ i ∧ i + 6 ≤ N9 ∧ N9 ≤ 384) (hT : 0 ≤ T ∧ T ≤ 100) (c q t b k n h x y  : Nat → Int) (mv9 u : Int) (sv : Value) (hI : cI c q t b k n h x y T) (hM : mI c q t b k h mv9 T) (hP : ∀ j : Nat, ne_per (t j) (b j) (n j)) (hs : sv = .null ∨ sv = .ref 21) (C S : Nat) (hC : 500 ≤ C) (hS : 3500 ≤ S) (kk : ∀ (c q t b k n h x y  : Nat → Int) (mv9 u : Int) (sv : Value), cI c q t b k n h x y (T + 1) → mI c q t b k h mv9 (T + 1) → (∀ j : Nat, ne_per (t j) (b j) (n j)) → (sv = .null ∨ sv = .ref 21) → ne_G nw_cl D ct A 1 ad0 p l e room_1 s9 m args below meth c9 Q9 7 888398 6436287 (C - 500) (S - 3500) 2324 [some (.ref 0), some (.ref 1), some (.ref 13), some (.ref 20), some (ni i), none, none] [] (lW c q t b k n h x y c q t b k h mv9 (nl u) sv)) : ne_G nw_cl D ct A 1 ad0 p l e room_1 s9 m args below meth c9 Q9 7 888398 6436287 C S 1801 [some (.ref 0), some (.ref 1), some (.ref 13), some (.ref 20), some (ni i), none, none] [] (lW c q t b k n h x y c q t b k h mv9 (nl u) sv) := by
  obtain ⟨s8, hs8, rfl⟩ : ∃ s8 : Value, (s8 = .null ∨ s8 = .ref 13) ∧ sv = ne_rn [1, 2, 3, 4, 5, 6, 7, 8, 9, 10, 11, 12, 20, 21] 22 s8 := by
    rcases hs with rfl | rfl
    · exact ⟨.null, Or.inl rfl, rfl⟩
    · exact ⟨.ref 13, Or.inr rfl, rfl⟩
  have hcw : ∀ (c q t b k n h x y mc9 mq9 mt9 mb9 mk9 mh9 : Nat → Int) (mv9 u : Int), ne_cw 22 (lW c q t b k n h x y mc9 mq9 mt9 mb9 mk9 mh9 mv9 (nl u) (ne_rn [1, 2, 3, 4, 5, 6, 7, 8, 9, 10, 11, 12, 20, 21] 22 s8)) = true := by
    intros
    rcases hs8 with rfl | rfl <;> rfl
  refine ne_aload_n X dL_law_1801 rfl ?_
  refine ne_aload_n X dL_law_1802 rfl ?_
  refine ne_iload X dL_law_1803 rfl ?_
  refine ne_iconst X dL_law_1805 ?_
  refine ne_iadd X dL_law_1806 ?_
  refine ne_sld X hX hbl hbA hb0 (by decide) (by omega) dL_law_1807 (fun z1807 e1807 l1807 r1807 => ?_)
  refine ne_aload_n X dL_law_1808 rfl ?_
  refine ne_callSFW (is := [1, 2, 3, 4, 5, 6, 7, 8, 9, 10, 11, 12, 20, 21]) X nw_Tg (me_L_tens l hl c q t b k n h x y T hI (by omega) u s8 hs8 _ (by omega)) nw_yL_tens nw_mL_283 nw_sL_tens dL_law_1809 rfl rfl (by decide) (by decide) (by first | decide | omega) (by first | decide | omega) (Nat.le_of_ble_eq_true rfl) (hcw _ _ _ _ _ _ _ _ _ _ _ _ _ _ _ _ _) rfl rfl (Nat.le_of_ble_eq_true rfl) lw_pt1 ?_ ?_
  rotate_left
  · rintro E9 w9 h9; exact h9.elim
  rintro v1809 w1809 ⟨u1, rfl, z1809, rfl, g1809⟩
  refine ne_ws lw_mg1 ?_
  refine ne_istore X dL_law_1812 (by decide) ?_
  refine ne_aload_n X dL_law_1814 rfl ?_
  refine ne_aload_n X dL_law_1815 rfl ?_
  refine ne_iload X dL_law_1816 rfl ?_
  refine ne_iconst X dL_law_1818 ?_
  refine ne_iadd X dL_law_1819 ?_
  refine ne_sld X hX hbl hbA hb0 (by decide) (by omega) dL_law_1820 (fun z1820 e1820 l1820 r1820 => ?_)
  have y1820 : z1807 = z1820 := e1807.trans e1820.symm
  subst y1820
  refine ne_callVF (is := [13, 14, 15, 16, 17, 18, 19]) X nw_Tg (me_X3_tens l hl c q t b k h mv9 T hM (by omega) _ (by omega)) nw_yX3_tens nw_mL_285 nw_iX3_tens nw_eX3_tens (ci := 5) rfl rfl rfl dL_law_1821 rfl rfl (by decide) (by decide) (by first | decide | omega) (by first | decide | omega) (Nat.le_of_ble_eq_true rfl) (hcw _ _ _ _ _ _ _ _ _ _ _ _ _ _ _ _ _) rfl rfl (Nat.le_of_ble_eq_true rfl) lw_pt2 ?_ ?_
  rotate_left
  · rintro E9 w9 h9; exact h9.elim
  rintro v1821 w1821 ⟨mv91, rfl, hM1, z1821, rfl, g1821⟩
  refine ne_ws lw_mg2 ?_
  have hk : mv91 = z1809 := by rcases g1809 with h | h <;> rcases g1821 with h4 | h4 <;> omega
  have hu : z1809 = 0 → u1 = z1821 ∧ 1 ≤ u1 ∧ u1 ≤ 96 := by
              intro h0
              rcases g1809 with h | h
              · omega
              · rcases g1821 with h4 | h4
                · omega
                · exact ⟨ne_tenE h.2.2 h4.2.2, h.2.2.1, h.2.2.2.1⟩
  refine ne_istore X dL_law_1824 (by decide) ?_
  refine ne_ll (L' := [some (.ref 0), some (.ref 1), some (.ref 13), some (.ref 20), some (ni _), some (ni _), some (ni _)]) rfl ?_
  refine ne_goto (tgt := 2324) X dL_law_1826 rfl ?_
  refine ne_lnone 5 (ne_lnone 6 ?_)
  refine ne_ll (L' := [some (.ref 0), some (.ref 1), some (.ref 13), some (.ref 20), some (ni i), none, none]) rfl ?_
  refine ne_less (C' := C - 500) (S' := S - 3500) (by omega) (by omega) ?_
  exact kk _ _ _ _ _ _ _ _ _ _ _ _ (cI_mono hI (by omega)) hM1 hP hs
set_option maxRecDepth 100000 in
set_option maxHeartbeats 4000000 in
theorem lc_34 (hl : l.stackTraces = false) (X : ne_F nw_cl D ct A p l room_1 s9 m args meth c9 RL cL_law 7 nw_T 20 1000 888398 6436287) (hX : va_X b9 N9 xs s9 s9.heap) (hbl : b9 < s9.heap.size) (hbA : ¬ A b9) (hb0 : ad0 0 = b9) (i T : Int) (hi : 0 ≤ i ∧ i + 6 ≤ N9 ∧ N9 ≤ 384) (hT : 0 ≤ T ∧ T ≤ 100) (c q t b k n h x y  : Nat → Int) (mv9 u : Int) (sv : Value) (hI : cI c q t b k n h x y T) (hM : mI c q t b k h mv9 T) (hP : ∀ j : Nat, ne_per (t j) (b j) (n j)) (hs : sv = .null ∨ sv = .ref 21) (C S : Nat) (hC : 500 ≤ C) (hS : 3500 ≤ S) (kk : ∀ (c q t b k n h x y  : Nat → Int) (mv9 u : Int) (sv : Value), cI c q t b k n h x y (T + 1) → mI c q t b k h mv9 (T + 1) → (∀ j : Nat, ne_per (t j) (b j) (n j)) → (sv = .null ∨ sv = .ref 21) → ne_G nw_cl D ct A 1 ad0 p l e room_1 s9 m args below meth c9 Q9 7 888398 6436287 (C - 500) (S - 3500) 2324 [some (.ref 0), some (.ref 1), some (.ref 13), some (.ref 20), some (ni i), none, none] [] (lW c q t b k n h x y c q t b k h mv9 (nl u) sv)) : ne_G nw_cl D ct A 1 ad0 p l e room_1 s9 m args below meth c9 Q9 7 888398 6436287 C S 1829 [some (.ref 0), some (.ref 1), some (.ref 13), some (.ref 20), some (ni i), none, none] [] (lW c q t b k n h x y c q t b k h mv9 (nl u) sv) := by
  obtain ⟨s8, hs8, rfl⟩ : ∃ s8 : Value, (s8 = .null ∨ s8 = .ref 13) ∧ sv = ne_rn [1, 2, 3, 4, 5, 6, 7, 8, 9, 10, 11, 12, 20, 21] 22 s8 := by
    rcases hs with rfl | rfl
    · exact ⟨.null, Or.inl rfl, rfl⟩
    · exact ⟨.ref 13, Or.inr rfl, rfl⟩
  have hcw : ∀ (c q t b k n h x y mc9 mq9 mt9 mb9 mk9 mh9 : Nat → Int) (mv9 u : Int), ne_cw 22 (lW c q t b k n h x y mc9 mq9 mt9 mb9 mk9 mh9 mv9 (nl u) (ne_rn [1, 2, 3, 4, 5, 6, 7, 8, 9, 10, 11, 12, 20, 21] 22 s8)) = true := by
    intros
    rcases hs8 with rfl | rfl <;> rfl
  refine ne_aload_n X dL_law_1829 rfl ?_
  refine ne_aload_n X dL_law_1830 rfl ?_
  refine ne_iload X dL_law_1831 rfl ?_
  refine ne_iconst X dL_law_1833 ?_
  refine ne_iadd X dL_law_1834 ?_
  refine ne_sld X hX hbl hbA hb0 (by decide) (by omega) dL_law_1835 (fun z1835 e1835 l1835 r1835 => ?_)
  refine ne_aload_n X dL_law_1836 rfl ?_
  refine ne_iload X dL_law_1837 rfl ?_
  refine ne_iconst X dL_law_1839 ?_
  refine ne_iadd X dL_law_1840 ?_
  refine ne_sld X hX hbl hbA hb0 (by decide) (by omega) dL_law_1841 (fun z1841 e1841 l1841 r1841 => ?_)
  refine ne_aload_n X dL_law_1842 rfl ?_
  refine ne_callSFW (is := [1, 2, 3, 4, 5, 6, 7, 8, 9, 10, 11, 12, 20, 21]) X nw_Tg (me_L_restAt l hl c q t b k n h x y T hI (by omega) u s8 hs8 _ _ (by omega) (by omega)) nw_yL_restAt nw_mL_286 nw_sL_restAt dL_law_1843 rfl rfl (by decide) (by decide) (by first | decide | omega) (by first | decide | omega) (Nat.le_of_ble_eq_true rfl) (hcw _ _ _ _ _ _ _ _ _ _ _ _ _ _ _ _ _) rfl rfl (Nat.le_of_ble_eq_true rfl) lw_pt1 ?_ ?_
  rotate_left
  · rintro E9 w9 h9; exact h9.elim
  rintro v1843 w1843 ⟨x1, y1, u1, rfl, hI1, z1843, rfl⟩
  refine ne_ws lw_mg1 ?_
  refine ne_istore X dL_law_1846 (by decide) ?_
  refine ne_aload_n X dL_law_1848 rfl ?_
  refine ne_aload_n X dL_law_1849 rfl ?_
  refine ne_iload X dL_law_1850 rfl ?_
  refine ne_iconst X dL_law_1852 ?_
  refine ne_iadd X dL_law_1853 ?_
  refine ne_sld X hX hbl hbA hb0 (by decide) (by omega) dL_law_1854 (fun z1854 e1854 l1854 r1854 => ?_)
  have y1854 : z1835 = z1854 := e1835.trans e1854.symm
  subst y1854
  refine ne_aload_n X dL_law_1855 rfl ?_
  refine ne_iload X dL_law_1856 rfl ?_
  refine ne_iconst X dL_law_1858 ?_
  refine ne_iadd X dL_law_1859 ?_
  refine ne_sld X hX hbl hbA hb0 (by decide) (by omega) dL_law_1860 (fun z1860 e1860 l1860 r1860 => ?_)
  have y1860 : z1841 = z1860 := e1841.trans e1860.symm
  subst y1860
  refine ne_callVF (is := [13, 14, 15, 16, 17, 18, 19]) X nw_Tg (me_X3_restAt l hl c q t b k h mv9 T hM (by omega) _ _ (by omega) (by omega)) nw_yX3_restAt nw_mL_288 nw_iX3_restAt nw_eX3_restAt (ci := 5) rfl rfl rfl dL_law_1861 rfl rfl (by decide) (by decide) (by first | decide | omega) (by first | decide | omega) (Nat.le_of_ble_eq_true rfl) (hcw _ _ _ _ _ _ _ _ _ _ _ _ _ _ _ _ _) rfl rfl (Nat.le_of_ble_eq_true rfl) lw_pt2 ?_ ?_
  rotate_left
  · rintro E9 w9 h9; exact h9.elim
  rintro v1861 w1861 ⟨⟨mv91, rfl, hM1⟩, z1861, rfl, g1861⟩
  refine ne_ws lw_mg2 ?_
  refine ne_istore X dL_law_1864 (by decide) ?_
  refine ne_ll (L' := [some (.ref 0), some (.ref 1), some (.ref 13), some (.ref 20), some (ni _), some (ni _), some (ni _)]) rfl ?_
  refine ne_goto (tgt := 2324) X dL_law_1866 rfl ?_
  refine ne_lnone 5 (ne_lnone 6 ?_)
  refine ne_ll (L' := [some (.ref 0), some (.ref 1), some (.ref 13), some (.ref 20), some (ni i), none, none]) rfl ?_
  refine ne_less (C' := C - 500) (S' := S - 3500) (by omega) (by omega) ?_
  exact kk _ _ _ _ _ _ _ _ _ _ _ _ hI1 hM1 hP hs
set_option maxRecDepth 100000 in
set_option maxHeartbeats 4000000 in
theorem lc_35 (hl : l.stackTraces = false) (X : ne_F nw_cl D ct A p l room_1 s9 m args meth c9 RL cL_law 7 nw_T 20 1000 888398 6436287) (hX : va_X b9 N9 xs s9 s9.heap) (hbl : b9 < s9.heap.size) (hbA : ¬ A b9) (hb0 : ad0 0 = b9) (i T : Int) (hi : 0 ≤ i ∧ i + 6 ≤ N9 ∧ N9 ≤ 384) (hT : 0 ≤ T ∧ T ≤ 100) (c q t b k n h x y  : Nat → Int) (mv9 u : Int) (sv : Value) (hI : cI c q t b k n h x y T) (hM : mI c q t b k h mv9 T) (hP : ∀ j : Nat, ne_per (t j) (b j) (n j)) (hs : sv = .null ∨ sv = .ref 21) (C S : Nat) (hC : 500 ≤ C) (hS : 3500 ≤ S) (kk : ∀ (c q t b k n h x y  : Nat → Int) (mv9 u : Int) (sv : Value), cI c q t b k n h x y (T + 1) → mI c q t b k h mv9 (T + 1) → (∀ j : Nat, ne_per (t j) (b j) (n j)) → (sv = .null ∨ sv = .ref 21) → ne_G nw_cl D ct A 1 ad0 p l e room_1 s9 m args below meth c9 Q9 7 888398 6436287 (C - 500) (S - 3500) 2324 [some (.ref 0), some (.ref 1), some (.ref 13), some (.ref 20), some (ni i), none, none] [] (lW c q t b k n h x y c q t b k h mv9 (nl u) sv)) : ne_G nw_cl D ct A 1 ad0 p l e room_1 s9 m args below meth c9 Q9 7 888398 6436287 C S 1869 [some (.ref 0), some (.ref 1), some (.ref 13), some (.ref 20), some (ni i), none, none] [] (lW c q t b k n h x y c q t b k h mv9 (nl u) sv) := by
  rcases hs with rfl | rfl
  · refine ne_aload_n X dL_law_1869 rfl ?_
    refine ne_aload_n X dL_law_1870 rfl ?_
    refine ne_iload X dL_law_1871 rfl ?_
    refine ne_iconst X dL_law_1873 ?_
    refine ne_iadd X dL_law_1874 ?_
    refine ne_sld X hX hbl hbA hb0 (by decide) (by omega) dL_law_1875 (fun z1875 e1875 l1875 r1875 => ?_)
    refine ne_aload_n X dL_law_1876 rfl ?_
    refine ne_iload X dL_law_1877 rfl ?_
    refine ne_iconst X dL_law_1879 ?_
    refine ne_iadd X dL_law_1880 ?_
    refine ne_sld X hX hbl hbA hb0 (by decide) (by omega) dL_law_1881 (fun z1881 e1881 l1881 r1881 => ?_)
    refine ne_aload_n X dL_law_1882 rfl ?_
    refine ne_iload X dL_law_1883 rfl ?_
    refine ne_iconst X dL_law_1885 ?_
    refine ne_iadd X dL_law_1886 ?_
    refine ne_sld X hX hbl hbA hb0 (by decide) (by omega) dL_law_1887 (fun z1887 e1887 l1887 r1887 => ?_)
    refine ne_aload_n X dL_law_1888 rfl ?_
    refine ne_callSFW (is := [1, 2, 3, 4, 5, 6, 7, 8, 9, 10, 11, 12, 20, 21]) X nw_Tg (me_L_digitsFrom l hl c q t b k n h x y T hI (by omega) u .null (Or.inl rfl) _ _ _ (by omega) (by omega) (by omega)) nw_yL_digitsFrom nw_mL_289 nw_sL_digitsFrom dL_law_1889 rfl rfl (by decide) (by decide) (by first | decide | omega) (by first | decide | omega) (Nat.le_of_ble_eq_true rfl) rfl rfl rfl (Nat.le_of_ble_eq_true rfl) (lw_pt1 (s := .null)) ?_ ?_
    rotate_left
    · rintro E9 w9 h9; exact h9.elim
    rintro v1889 w1889 ⟨x1, y1, u1, s1, rfl, hI1, hs1, z1889, rfl⟩
    rcases hs1 with rfl | rfl
    · refine ne_take 22 ?_
      refine ne_ws lw_tkN ?_
      refine ne_istore X dL_law_1892 (by decide) ?_
      refine ne_aload_n X dL_law_1894 rfl ?_
      refine ne_aload_n X dL_law_1895 rfl ?_
      refine ne_iload X dL_law_1896 rfl ?_
      refine ne_iconst X dL_law_1898 ?_
      refine ne_iadd X dL_law_1899 ?_
      refine ne_sld X hX hbl hbA hb0 (by decide) (by omega) dL_law_1900 (fun z1900 e1900 l1900 r1900 => ?_)
      have y1900 : z1875 = z1900 := e1875.trans e1900.symm
      subst y1900
      refine ne_aload_n X dL_law_1901 rfl ?_
      refine ne_iload X dL_law_1902 rfl ?_
      refine ne_iconst X dL_law_1904 ?_
      refine ne_iadd X dL_law_1905 ?_
      refine ne_sld X hX hbl hbA hb0 (by decide) (by omega) dL_law_1906 (fun z1906 e1906 l1906 r1906 => ?_)
      have y1906 : z1881 = z1906 := e1881.trans e1906.symm
      subst y1906
      refine ne_aload_n X dL_law_1907 rfl ?_
      refine ne_iload X dL_law_1908 rfl ?_
      refine ne_iconst X dL_law_1910 ?_
      refine ne_iadd X dL_law_1911 ?_
      refine ne_sld X hX hbl hbA hb0 (by decide) (by omega) dL_law_1912 (fun z1912 e1912 l1912 r1912 => ?_)
      have y1912 : z1887 = z1912 := e1887.trans e1912.symm
      subst y1912
      refine ne_callVF (is := [13, 14, 15, 16, 17, 18, 19]) X nw_Tg (me_X3_digitsFrom l hl c q t b k h mv9 T hM (by omega) _ _ _ (by omega) (by omega) (by omega)) nw_yX3_digitsFrom nw_mL_291 nw_iX3_digitsFrom nw_eX3_digitsFrom (ci := 5) rfl rfl rfl dL_law_1913 rfl rfl (by decide) (by decide) (by first | decide | omega) (by first | decide | omega) (Nat.le_of_ble_eq_true rfl) rfl rfl rfl (Nat.le_of_ble_eq_true rfl) lw_pt2 ?_ ?_
      rotate_left
      · rintro E9 w9 h9; exact h9.elim
      rintro v1913 w1913 ⟨⟨mv91, rfl, hM1⟩, rfl⟩
      refine ne_ws lw_mg4 ?_
      refine ne_astore X dL_law_1916 (by decide) ?_
      refine ne_ll (L' := [some (.ref 0), some (.ref 1), some (.ref 13), some (.ref 20), some (ni _), some (ni _), some (.ref 22)]) rfl ?_
      refine ne_goto (tgt := 2324) X dL_law_1918 rfl ?_
      refine ne_lnone 5 (ne_lnone 6 ?_)
      refine ne_ll (L' := [some (.ref 0), some (.ref 1), some (.ref 13), some (.ref 20), some (ni i), none, none]) rfl ?_
      refine ne_take 22 ?_
      refine ne_ws lw_tk2 ?_
      refine ne_less (C' := C - 500) (S' := S - 3500) (by omega) (by omega) ?_
      exact kk _ _ _ _ _ _ _ _ _ _ _ _ hI1 hM1 hP (Or.inl rfl)
    · refine ne_viewb [0, 1, 2, 3, 4, 5, 6, 7, 8, 9, 10, 11, 12, 13, 14, 15, 16, 17, 18, 19, 20, 22] (ws' := lW c q t b k n h x1 y1 c q t b k h mv9 (nl u1) (.ref 21)) (L' := [some (.ref 0), some (.ref 1), some (.ref 13), some (.ref 20), some (ni i), none, none]) (st' := [ni z1889]) lw_vw (by decide) lw_vl rfl rfl rfl ?_
      refine ne_istore X dL_law_1892 (by decide) ?_
      refine ne_aload_n X dL_law_1894 rfl ?_
      refine ne_aload_n X dL_law_1895 rfl ?_
      refine ne_iload X dL_law_1896 rfl ?_
      refine ne_iconst X dL_law_1898 ?_
      refine ne_iadd X dL_law_1899 ?_
      refine ne_sld X hX hbl hbA hb0 (by decide) (by omega) dL_law_1900 (fun z1900 e1900 l1900 r1900 => ?_)
      have y1900 : z1875 = z1900 := e1875.trans e1900.symm
      subst y1900
      refine ne_aload_n X dL_law_1901 rfl ?_
      refine ne_iload X dL_law_1902 rfl ?_
      refine ne_iconst X dL_law_1904 ?_
      refine ne_iadd X dL_law_1905 ?_
      refine ne_sld X hX hbl hbA hb0 (by decide) (by omega) dL_law_1906 (fun z1906 e1906 l1906 r1906 => ?_)
      have y1906 : z1881 = z1906 := e1881.trans e1906.symm
      subst y1906
      refine ne_aload_n X dL_law_1907 rfl ?_
      refine ne_iload X dL_law_1908 rfl ?_
      refine ne_iconst X dL_law_1910 ?_
      refine ne_iadd X dL_law_1911 ?_
      refine ne_sld X hX hbl hbA hb0 (by decide) (by omega) dL_law_1912 (fun z1912 e1912 l1912 r1912 => ?_)
      have y1912 : z1887 = z1912 := e1887.trans e1912.symm
      subst y1912
      refine ne_callVF (is := [13, 14, 15, 16, 17, 18, 19]) X nw_Tg (me_X3_digitsFrom l hl c q t b k h mv9 T hM (by omega) _ _ _ (by omega) (by omega) (by omega)) nw_yX3_digitsFrom nw_mL_291 nw_iX3_digitsFrom nw_eX3_digitsFrom (ci := 5) rfl rfl rfl dL_law_1913 rfl rfl (by decide) (by decide) (by first | decide | omega) (by first | decide | omega) (Nat.le_of_ble_eq_true rfl) rfl rfl rfl (Nat.le_of_ble_eq_true rfl) lw_pt2 ?_ ?_
      rotate_left
      · rintro E9 w9 h9; exact h9.elim
      rintro v1913 w1913 ⟨⟨mv91, rfl, hM1⟩, rfl⟩
      refine ne_ws lw_mg4 ?_
      refine ne_astore X dL_law_1916 (by decide) ?_
      refine ne_ll (L' := [some (.ref 0), some (.ref 1), some (.ref 13), some (.ref 20), some (ni _), some (ni _), some (.ref 22)]) rfl ?_
      refine ne_goto (tgt := 2324) X dL_law_1918 rfl ?_
      refine ne_lnone 5 (ne_lnone 6 ?_)
      refine ne_ll (L' := [some (.ref 0), some (.ref 1), some (.ref 13), some (.ref 20), some (ni i), none, none]) rfl ?_
      refine ne_take 22 ?_
      refine ne_ws lw_tk2 ?_
      refine ne_less (C' := C - 500) (S' := S - 3500) (by omega) (by omega) ?_
      exact kk _ _ _ _ _ _ _ _ _ _ _ _ hI1 hM1 hP (Or.inr rfl)
  · refine ne_aload_n X dL_law_1869 rfl ?_
    refine ne_aload_n X dL_law_1870 rfl ?_
    refine ne_iload X dL_law_1871 rfl ?_
    refine ne_iconst X dL_law_1873 ?_
    refine ne_iadd X dL_law_1874 ?_
    refine ne_sld X hX hbl hbA hb0 (by decide) (by omega) dL_law_1875 (fun z1875 e1875 l1875 r1875 => ?_)
    refine ne_aload_n X dL_law_1876 rfl ?_
    refine ne_iload X dL_law_1877 rfl ?_
    refine ne_iconst X dL_law_1879 ?_
    refine ne_iadd X dL_law_1880 ?_
    refine ne_sld X hX hbl hbA hb0 (by decide) (by omega) dL_law_1881 (fun z1881 e1881 l1881 r1881 => ?_)
    refine ne_aload_n X dL_law_1882 rfl ?_
    refine ne_iload X dL_law_1883 rfl ?_
    refine ne_iconst X dL_law_1885 ?_
    refine ne_iadd X dL_law_1886 ?_
    refine ne_sld X hX hbl hbA hb0 (by decide) (by omega) dL_law_1887 (fun z1887 e1887 l1887 r1887 => ?_)
    refine ne_aload_n X dL_law_1888 rfl ?_
    refine ne_callSFW (is := [1, 2, 3, 4, 5, 6, 7, 8, 9, 10, 11, 12, 20, 21]) X nw_Tg (me_L_digitsFrom l hl c q t b k n h x y T hI (by omega) u (.ref 13) (Or.inr rfl) _ _ _ (by omega) (by omega) (by omega)) nw_yL_digitsFrom nw_mL_289 nw_sL_digitsFrom dL_law_1889 rfl rfl (by decide) (by decide) (by first | decide | omega) (by first | decide | omega) (Nat.le_of_ble_eq_true rfl) rfl rfl rfl (Nat.le_of_ble_eq_true rfl) (lw_pt1 (s := .ref 13)) ?_ ?_
    rotate_left
    · rintro E9 w9 h9; exact h9.elim
    rintro v1889 w1889 ⟨x1, y1, u1, s1, rfl, hI1, hs1, z1889, rfl⟩
    rcases hs1 with rfl | rfl
    · refine ne_take 22 ?_
      refine ne_ws lw_tkR ?_
      refine ne_istore X dL_law_1892 (by decide) ?_
      refine ne_aload_n X dL_law_1894 rfl ?_
      refine ne_aload_n X dL_law_1895 rfl ?_
      refine ne_iload X dL_law_1896 rfl ?_
      refine ne_iconst X dL_law_1898 ?_
      refine ne_iadd X dL_law_1899 ?_
      refine ne_sld X hX hbl hbA hb0 (by decide) (by omega) dL_law_1900 (fun z1900 e1900 l1900 r1900 => ?_)
      have y1900 : z1875 = z1900 := e1875.trans e1900.symm
      subst y1900
      refine ne_aload_n X dL_law_1901 rfl ?_
      refine ne_iload X dL_law_1902 rfl ?_
      refine ne_iconst X dL_law_1904 ?_
      refine ne_iadd X dL_law_1905 ?_
      refine ne_sld X hX hbl hbA hb0 (by decide) (by omega) dL_law_1906 (fun z1906 e1906 l1906 r1906 => ?_)
      have y1906 : z1881 = z1906 := e1881.trans e1906.symm
      subst y1906
      refine ne_aload_n X dL_law_1907 rfl ?_
      refine ne_iload X dL_law_1908 rfl ?_
      refine ne_iconst X dL_law_1910 ?_
      refine ne_iadd X dL_law_1911 ?_
      refine ne_sld X hX hbl hbA hb0 (by decide) (by omega) dL_law_1912 (fun z1912 e1912 l1912 r1912 => ?_)
      have y1912 : z1887 = z1912 := e1887.trans e1912.symm
      subst y1912
      refine ne_callVF (is := [13, 14, 15, 16, 17, 18, 19]) X nw_Tg (me_X3_digitsFrom l hl c q t b k h mv9 T hM (by omega) _ _ _ (by omega) (by omega) (by omega)) nw_yX3_digitsFrom nw_mL_291 nw_iX3_digitsFrom nw_eX3_digitsFrom (ci := 5) rfl rfl rfl dL_law_1913 rfl rfl (by decide) (by decide) (by first | decide | omega) (by first | decide | omega) (Nat.le_of_ble_eq_true rfl) rfl rfl rfl (Nat.le_of_ble_eq_true rfl) lw_pt2 ?_ ?_
      rotate_left
      · rintro E9 w9 h9; exact h9.elim
      rintro v1913 w1913 ⟨⟨mv91, rfl, hM1⟩, rfl⟩
      refine ne_ws lw_mg4 ?_
      refine ne_astore X dL_law_1916 (by decide) ?_
      refine ne_ll (L' := [some (.ref 0), some (.ref 1), some (.ref 13), some (.ref 20), some (ni _), some (ni _), some (.ref 22)]) rfl ?_
      refine ne_goto (tgt := 2324) X dL_law_1918 rfl ?_
      refine ne_lnone 5 (ne_lnone 6 ?_)
      refine ne_ll (L' := [some (.ref 0), some (.ref 1), some (.ref 13), some (.ref 20), some (ni i), none, none]) rfl ?_
      refine ne_take 22 ?_
      refine ne_ws lw_tk2 ?_
      refine ne_less (C' := C - 500) (S' := S - 3500) (by omega) (by omega) ?_
      exact kk _ _ _ _ _ _ _ _ _ _ _ _ hI1 hM1 hP (Or.inr rfl)
    · refine ne_viewb [0, 1, 2, 3, 4, 5, 6, 7, 8, 9, 10, 11, 12, 13, 14, 15, 16, 17, 18, 19, 20, 22] (ws' := lW c q t b k n h x1 y1 c q t b k h mv9 (nl u1) (.ref 21)) (L' := [some (.ref 0), some (.ref 1), some (.ref 13), some (.ref 20), some (ni i), none, none]) (st' := [ni z1889]) lw_vw (by decide) lw_vl rfl rfl rfl ?_
      refine ne_istore X dL_law_1892 (by decide) ?_
      refine ne_aload_n X dL_law_1894 rfl ?_
      refine ne_aload_n X dL_law_1895 rfl ?_
      refine ne_iload X dL_law_1896 rfl ?_
      refine ne_iconst X dL_law_1898 ?_
      refine ne_iadd X dL_law_1899 ?_
      refine ne_sld X hX hbl hbA hb0 (by decide) (by omega) dL_law_1900 (fun z1900 e1900 l1900 r1900 => ?_)
      have y1900 : z1875 = z1900 := e1875.trans e1900.symm
      subst y1900
      refine ne_aload_n X dL_law_1901 rfl ?_
      refine ne_iload X dL_law_1902 rfl ?_
      refine ne_iconst X dL_law_1904 ?_
      refine ne_iadd X dL_law_1905 ?_
      refine ne_sld X hX hbl hbA hb0 (by decide) (by omega) dL_law_1906 (fun z1906 e1906 l1906 r1906 => ?_)
      have y1906 : z1881 = z1906 := e1881.trans e1906.symm
      subst y1906
      refine ne_aload_n X dL_law_1907 rfl ?_
      refine ne_iload X dL_law_1908 rfl ?_
      refine ne_iconst X dL_law_1910 ?_
      refine ne_iadd X dL_law_1911 ?_
      refine ne_sld X hX hbl hbA hb0 (by decide) (by omega) dL_law_1912 (fun z1912 e1912 l1912 r1912 => ?_)
      have y1912 : z1887 = z1912 := e1887.trans e1912.symm
      subst y1912
      refine ne_callVF (is := [13, 14, 15, 16, 17, 18, 19]) X nw_Tg (me_X3_digitsFrom l hl c q t b k h mv9 T hM (by omega) _ _ _ (by omega) (by omega) (by omega)) nw_yX3_digitsFrom nw_mL_291 nw_iX3_digitsFrom nw_eX3_digitsFrom (ci := 5) rfl rfl rfl dL_law_1913 rfl rfl (by decide) (by decide) (by first | decide | omega) (by first | decide | omega) (Nat.le_of_ble_eq_true rfl) rfl rfl rfl (Nat.le_of_ble_eq_true rfl) lw_pt2 ?_ ?_
      rotate_left
      · rintro E9 w9 h9; exact h9.elim
      rintro v1913 w1913 ⟨⟨mv91, rfl, hM1⟩, rfl⟩
      refine ne_ws lw_mg4 ?_
      refine ne_astore X dL_law_1916 (by decide) ?_
      refine ne_ll (L' := [some (.ref 0), some (.ref 1), some (.ref 13), some (.ref 20), some (ni _), some (ni _), some (.ref 22)]) rfl ?_
      refine ne_goto (tgt := 2324) X dL_law_1918 rfl ?_
      refine ne_lnone 5 (ne_lnone 6 ?_)
      refine ne_ll (L' := [some (.ref 0), some (.ref 1), some (.ref 13), some (.ref 20), some (ni i), none, none]) rfl ?_
      refine ne_take 22 ?_
      refine ne_ws lw_tk2 ?_
      refine ne_less (C' := C - 500) (S' := S - 3500) (by omega) (by omega) ?_
      exact kk _ _ _ _ _ _ _ _ _ _ _ _ hI1 hM1 hP (Or.inr rfl)
end LAWS
