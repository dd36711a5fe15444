section LAWS
variable {D : va_G} {ct : Nat → ClassId} {A : Nat → Prop} {p : Program} {l : Launch} {e : Env} {s9 : State} {m : MethodId} {args : Array Value} {below : List Frame} {meth : Method} {c9 : Code} {Q9 : State → Prop} {b9 N9 : Nat} {xs : Nat → Int32} {ad0 : Nat → Nat}
set_option maxRecDepth 100000 in
set_option maxHeartbeats 4000000 in
theorem law_loop (hl : l.stackTraces = false) (X : ne_F nw_cl D ct A p l room_1 s9 m args meth c9 RL cL_law 7 nw_T 20 1000 600128 7301098) (hX : va_X b9 N9 xs s9 s9.heap) (hbl : b9 < s9.heap.size) (hbA : ¬ A b9) (hb0 : ad0 0 = b9) (hend : ∀ (H : Heap) (locs : List Loc) (cells slots : Nat) (ls : Array Slot), va_S A s9.heap H locs → cells ≤ 600128 → slots ≤ 7301098 → W p l e room_1 s9 m args below meth c9 H locs cells slots Q9 (F0 m 2331 ls [.int 1])) (hN : N9 ≤ 384) : ∀ (n9 : Nat) (i T : Int) (c q t b k n h x y  : Nat → Int) (mv9 u : Int) (sv : Value), (400 - i).toNat < n9 → i = 6 * T → 0 ≤ T → T ≤ 64 → cI c q t b k n h x y T → mI c q t b k h mv9 T → (∀ j : Nat, ne_per (t j) (b j) (n j)) → (sv = .null ∨ sv = .ref 21) → ne_G nw_cl D ct A 1 ad0 p l e room_1 s9 m args below meth c9 Q9 7 600128 7301098 ((500 * (70 - T)).toNat) ((3500 * (70 - T)).toNat) 27 [some (.ref 0), some (.ref 1), some (.ref 13), some (.ref 20), some (ni i), none, none] [] (lW c q t b k n h x y c q t b k h mv9 (nl u) sv) := by
  intro n9
  induction n9 with
  | zero => intros; exfalso; omega
  | succ n9 ih =>
    intro i T c q t b k n h x y  mv9 u sv hm9 hiT hT0 hT1 hI hM hP hs
    have kk0 : i + 6 ≤ N9 → ∀ (c q t b k n h x y  : Nat → Int) (mv9 u : Int) (sv : Value), cI c q t b k n h x y (T + 1) → mI c q t b k h mv9 (T + 1) → (∀ j : Nat, ne_per (t j) (b j) (n j)) → (sv = .null ∨ sv = .ref 21) → ne_G nw_cl D ct A 1 ad0 p l e room_1 s9 m args below meth c9 Q9 7 600128 7301098 ((500 * (70 - T)).toNat - 500) ((3500 * (70 - T)).toNat - 3500) 2324 [some (.ref 0), some (.ref 1), some (.ref 13), some (.ref 20), some (ni i), none, none] [] (lW c q t b k n h x y c q t b k h mv9 (nl u) sv) := by
      intro h6 c q t b k n h x y  mv9 u sv hI hM hP hs
      refine ne_iinc X dL_law_2324 rfl (by decide) ?_
      refine ne_goto (tgt := 27) X dL_law_2327 rfl ?_
      refine ne_ll (L' := [some (.ref 0), some (.ref 1), some (.ref 13), some (.ref 20), some (ni (i + 6)), none, none]) rfl ?_
      refine ne_less (C' := (500 * (70 - (T + 1))).toNat) (S' := (3500 * (70 - (T + 1))).toNat) (by omega) (by omega) ?_
      exact ih (i + 6) (T + 1) _ _ _ _ _ _ _ _ _ _ _ _ (by omega) (by omega) (by omega) (by omega) hI hM hP hs
    refine ne_iload X dL_law_27 rfl ?_
    refine ne_aload_n X dL_law_29 rfl ?_
    refine ne_slen X hX hbl hbA hb0 (by decide) dL_law_30 ?_
    refine ne_bipush (v := 6) (by decide) X dL_law_31 ?_
    refine ne_isub X dL_law_33 ?_
    refine ne_icmp_gt (tgt := 2330) X dL_law_34 rfl (by omega) (by omega) (fun b34 => ?_) (fun b34 => ?_)
    · refine ne_iconst X dL_law_2330 ?_
      exact fun H locs cells slots ad ls h1 h2 h3 h4 h5 h6 h7 => hend H locs cells slots ls h6 (by omega) (by omega)
    · refine ne_aload_n X dL_law_37 rfl ?_
      refine ne_iload X dL_law_38 rfl ?_
      refine ne_sld X hX hbl hbA hb0 (by decide) (by omega) dL_law_40 (fun z40 e40 l40 r40 => ?_)
      refine ne_bipush (v := 63) (by decide) X dL_law_41 ?_
      refine ne_and63 X dL_law_43 (fun z43 l43 r43 => ?_)
      clear e40
      rcases (show z43 = 0 ∨ z43 = 1 ∨ z43 = 2 ∨ z43 = 3 ∨ z43 = 4 ∨ z43 = 5 ∨ z43 = 6 ∨ z43 = 7 ∨ z43 = 8 ∨ z43 = 9 ∨ z43 = 10 ∨ z43 = 11 ∨ z43 = 12 ∨ z43 = 13 ∨ z43 = 14 ∨ z43 = 15 ∨ z43 = 16 ∨ z43 = 17 ∨ z43 = 18 ∨ z43 = 19 ∨ z43 = 20 ∨ z43 = 21 ∨ z43 = 22 ∨ z43 = 23 ∨ z43 = 24 ∨ z43 = 25 ∨ z43 = 26 ∨ z43 = 27 ∨ z43 = 28 ∨ z43 = 29 ∨ z43 = 30 ∨ z43 = 31 ∨ z43 = 32 ∨ z43 = 33 ∨ z43 = 34 ∨ z43 = 35 ∨ z43 = 36 ∨ z43 = 37 ∨ z43 = 38 ∨ z43 = 39 ∨ z43 = 40 ∨ z43 = 41 ∨ z43 = 42 ∨ z43 = 43 ∨ z43 = 44 ∨ z43 = 45 ∨ z43 = 46 ∨ z43 = 47 ∨ (z43 < 0 ∨ 47 < z43) by omega) with rfl | rfl | rfl | rfl | rfl | rfl | rfl | rfl | rfl | rfl | rfl | rfl | rfl | rfl | rfl | rfl | rfl | rfl | rfl | rfl | rfl | rfl | rfl | rfl | rfl | rfl | rfl | rfl | rfl | rfl | rfl | rfl | rfl | rfl | rfl | rfl | rfl | rfl | rfl | rfl | rfl | rfl | rfl | rfl | rfl | rfl | rfl | rfl | h44
      · refine ne_tswIn (tgt := 252) X dL_law_44 (by omega) (by omega) (by omega) rfl rfl ?_
        exact lc_0 hl X hX hbl hbA hb0 i T (by omega) (by omega) c q t b k n h x y  mv9 u sv hI hM hP hs _ _ (by omega) (by omega) (kk0 (by omega))
      · refine ne_tswIn (tgt := 304) X dL_law_44 (by omega) (by omega) (by omega) rfl rfl ?_
        exact lc_1 hl X hX hbl hbA hb0 i T (by omega) (by omega) c q t b k n h x y  mv9 u sv hI hM hP hs _ _ (by omega) (by omega) (kk0 (by omega))
      · refine ne_tswIn (tgt := 396) X dL_law_44 (by omega) (by omega) (by omega) rfl rfl ?_
        exact lc_2 hl X hX hbl hbA hb0 i T (by omega) (by omega) c q t b k n h x y  mv9 u sv hI hM hP hs _ _ (by omega) (by omega) (kk0 (by omega))
      · refine ne_tswIn (tgt := 436) X dL_law_44 (by omega) (by omega) (by omega) rfl rfl ?_
        exact lc_3 hl X hX hbl hbA hb0 i T (by omega) (by omega) c q t b k n h x y  mv9 u sv hI hM hP hs _ _ (by omega) (by omega) (kk0 (by omega))
      · refine ne_tswIn (tgt := 464) X dL_law_44 (by omega) (by omega) (by omega) rfl rfl ?_
        exact lc_4 hl X hX hbl hbA hb0 i T (by omega) (by omega) c q t b k n h x y  mv9 u sv hI hM hP hs _ _ (by omega) (by omega) (kk0 (by omega))
      · refine ne_tswIn (tgt := 492) X dL_law_44 (by omega) (by omega) (by omega) rfl rfl ?_
        exact lc_5 hl X hX hbl hbA hb0 i T (by omega) (by omega) c q t b k n h x y  mv9 u sv hI hM hP hs _ _ (by omega) (by omega) (kk0 (by omega))
      · refine ne_tswIn (tgt := 544) X dL_law_44 (by omega) (by omega) (by omega) rfl rfl ?_
        exact lc_6 hl X hX hbl hbA hb0 i T (by omega) (by omega) c q t b k n h x y  mv9 u sv hI hM hP hs _ _ (by omega) (by omega) (kk0 (by omega))
      · refine ne_tswIn (tgt := 596) X dL_law_44 (by omega) (by omega) (by omega) rfl rfl ?_
        exact lc_7 hl X hX hbl hbA hb0 i T (by omega) (by omega) c q t b k n h x y  mv9 u sv hI hM hP hs _ _ (by omega) (by omega) (kk0 (by omega))
      · refine ne_tswIn (tgt := 648) X dL_law_44 (by omega) (by omega) (by omega) rfl rfl ?_
        exact lc_8 hl X hX hbl hbA hb0 i T (by omega) (by omega) c q t b k n h x y  mv9 u sv hI hM hP hs _ _ (by omega) (by omega) (kk0 (by omega))
      · refine ne_tswIn (tgt := 700) X dL_law_44 (by omega) (by omega) (by omega) rfl rfl ?_
        exact lc_9 hl X hX hbl hbA hb0 i T (by omega) (by omega) c q t b k n h x y  mv9 u sv hI hM hP hs _ _ (by omega) (by omega) (kk0 (by omega))
      · refine ne_tswIn (tgt := 776) X dL_law_44 (by omega) (by omega) (by omega) rfl rfl ?_
        exact lc_10 hl X hX hbl hbA hb0 i T (by omega) (by omega) c q t b k n h x y  mv9 u sv hI hM hP hs _ _ (by omega) (by omega) (kk0 (by omega))
      · refine ne_tswIn (tgt := 828) X dL_law_44 (by omega) (by omega) (by omega) rfl rfl ?_
        exact lc_11 hl X hX hbl hbA hb0 i T (by omega) (by omega) c q t b k n h x y  mv9 u sv hI hM hP hs _ _ (by omega) (by omega) (kk0 (by omega))
      · refine ne_tswIn (tgt := 880) X dL_law_44 (by omega) (by omega) (by omega) rfl rfl ?_
        exact lc_12 hl X hX hbl hbA hb0 i T (by omega) (by omega) c q t b k n h x y  mv9 u sv hI hM hP hs _ _ (by omega) (by omega) (kk0 (by omega))
      · refine ne_tswIn (tgt := 932) X dL_law_44 (by omega) (by omega) (by omega) rfl rfl ?_
        exact lc_13 hl X hX hbl hbA hb0 i T (by omega) (by omega) c q t b k n h x y  mv9 u sv hI hM hP hs _ _ (by omega) (by omega) (kk0 (by omega))
      · refine ne_tswIn (tgt := 984) X dL_law_44 (by omega) (by omega) (by omega) rfl rfl ?_
        exact lc_14 hl X hX hbl hbA hb0 i T (by omega) (by omega) c q t b k n h x y  mv9 u sv hI hM hP hs _ _ (by omega) (by omega) (kk0 (by omega))
      · refine ne_tswIn (tgt := 1012) X dL_law_44 (by omega) (by omega) (by omega) rfl rfl ?_
        exact lc_15 hl X hX hbl hbA hb0 i T (by omega) (by omega) c q t b k n h x y  mv9 u sv hI hM hP hs _ _ (by omega) (by omega) (kk0 (by omega))
      · refine ne_tswIn (tgt := 1052) X dL_law_44 (by omega) (by omega) (by omega) rfl rfl ?_
        exact lc_16 hl X hX hbl hbA hb0 i T (by omega) (by omega) c q t b k n h x y  mv9 u sv hI hM hP hs _ _ (by omega) (by omega) (kk0 (by omega))
      · refine ne_tswIn (tgt := 1104) X dL_law_44 (by omega) (by omega) (by omega) rfl rfl ?_
        exact lc_17 hl X hX hbl hbA hb0 i T (by omega) (by omega) c q t b k n h x y  mv9 u sv hI hM hP hs _ _ (by omega) (by omega) (kk0 (by omega))
      · refine ne_tswIn (tgt := 1156) X dL_law_44 (by omega) (by omega) (by omega) rfl rfl ?_
        exact lc_18 hl X hX hbl hbA hb0 i T (by omega) (by omega) c q t b k n h x y  mv9 u sv hI hM hP hs _ _ (by omega) (by omega) (kk0 (by omega))
      · refine ne_tswIn (tgt := 1208) X dL_law_44 (by omega) (by omega) (by omega) rfl rfl ?_
        exact lc_19 hl X hX hbl hbA hb0 i T (by omega) (by omega) c q t b k n h x y  mv9 u sv hI hM hP hs _ _ (by omega) (by omega) (kk0 (by omega))
      · refine ne_tswIn (tgt := 1300) X dL_law_44 (by omega) (by omega) (by omega) rfl rfl ?_
        exact lc_20 hl X hX hbl hbA hb0 i T (by omega) (by omega) c q t b k n h x y  mv9 u sv hI hM hP hs _ _ (by omega) (by omega) (kk0 (by omega))
      · refine ne_tswIn (tgt := 1328) X dL_law_44 (by omega) (by omega) (by omega) rfl rfl ?_
        exact lc_21 hl X hX hbl hbA hb0 i T (by omega) (by omega) c q t b k n h x y  mv9 u sv hI hM hP hs _ _ (by omega) (by omega) (kk0 (by omega))
      · refine ne_tswIn (tgt := 1356) X dL_law_44 (by omega) (by omega) (by omega) rfl rfl ?_
        exact lc_22 hl X hX hbl hbA hb0 i T (by omega) (by omega) c q t b k n h x y  mv9 u sv hI hM hP hs _ _ (by omega) (by omega) (kk0 (by omega))
      · refine ne_tswIn (tgt := 1384) X dL_law_44 (by omega) (by omega) (by omega) rfl rfl ?_
        exact lc_23 hl X hX hbl hbA hb0 i T (by omega) (by omega) c q t b k n h x y  mv9 u sv hI hM hP hs _ _ (by omega) (by omega) (kk0 (by omega))
      · refine ne_tswIn (tgt := 1412) X dL_law_44 (by omega) (by omega) (by omega) rfl rfl ?_
        exact lc_24 hl X hX hbl hbA hb0 i T (by omega) (by omega) c q t b k n h x y  mv9 u sv hI hM hP hs _ _ (by omega) (by omega) (kk0 (by omega))
      · refine ne_tswIn (tgt := 1452) X dL_law_44 (by omega) (by omega) (by omega) rfl rfl ?_
        exact lc_25 hl X hX hbl hbA hb0 i T (by omega) (by omega) c q t b k n h x y  mv9 u sv hI hM hP hs _ _ (by omega) (by omega) (kk0 (by omega))
      · refine ne_tswIn (tgt := 1492) X dL_law_44 (by omega) (by omega) (by omega) rfl rfl ?_
        exact lc_26 hl X hX hbl hbA hb0 i T (by omega) (by omega) c q t b k n h x y  mv9 u sv hI hM hP hs _ _ (by omega) (by omega) (kk0 (by omega))
      · refine ne_tswIn (tgt := 1532) X dL_law_44 (by omega) (by omega) (by omega) rfl rfl ?_
        exact lc_27 hl X hX hbl hbA hb0 i T (by omega) (by omega) c q t b k n h x y  mv9 u sv hI hM hP hs _ _ (by omega) (by omega) (kk0 (by omega))
      · refine ne_tswIn (tgt := 1584) X dL_law_44 (by omega) (by omega) (by omega) rfl rfl ?_
        exact lc_28 hl X hX hbl hbA hb0 i T (by omega) (by omega) c q t b k n h x y  mv9 u sv hI hM hP hs _ _ (by omega) (by omega) (kk0 (by omega))
      · refine ne_tswIn (tgt := 1612) X dL_law_44 (by omega) (by omega) (by omega) rfl rfl ?_
        exact lc_29 hl X hX hbl hbA hb0 i T (by omega) (by omega) c q t b k n h x y  mv9 u sv hI hM hP hs _ _ (by omega) (by omega) (kk0 (by omega))
      · refine ne_tswIn (tgt := 1652) X dL_law_44 (by omega) (by omega) (by omega) rfl rfl ?_
        exact lc_30 hl X hX hbl hbA hb0 i T (by omega) (by omega) c q t b k n h x y  mv9 u sv hI hM hP hs _ _ (by omega) (by omega) (kk0 (by omega))
      · refine ne_tswIn (tgt := 1704) X dL_law_44 (by omega) (by omega) (by omega) rfl rfl ?_
        exact lc_31 hl X hX hbl hbA hb0 i T (by omega) (by omega) c q t b k n h x y  mv9 u sv hI hM hP hs _ _ (by omega) (by omega) (kk0 (by omega))
      · refine ne_tswIn (tgt := 1744) X dL_law_44 (by omega) (by omega) (by omega) rfl rfl ?_
        exact lc_32 hl X hX hbl hbA hb0 i T (by omega) (by omega) c q t b k n h x y  mv9 u sv hI hM hP hs _ _ (by omega) (by omega) (kk0 (by omega))
      · refine ne_tswIn (tgt := 1772) X dL_law_44 (by omega) (by omega) (by omega) rfl rfl ?_
        exact lc_33 hl X hX hbl hbA hb0 i T (by omega) (by omega) c q t b k n h x y  mv9 u sv hI hM hP hs _ _ (by omega) (by omega) (kk0 (by omega))
      · refine ne_tswIn (tgt := 1800) X dL_law_44 (by omega) (by omega) (by omega) rfl rfl ?_
        exact lc_34 hl X hX hbl hbA hb0 i T (by omega) (by omega) c q t b k n h x y  mv9 u sv hI hM hP hs _ _ (by omega) (by omega) (kk0 (by omega))
      · refine ne_tswIn (tgt := 1840) X dL_law_44 (by omega) (by omega) (by omega) rfl rfl ?_
        exact lc_35 hl X hX hbl hbA hb0 i T (by omega) (by omega) c q t b k n h x y  mv9 u sv hI hM hP hs _ _ (by omega) (by omega) (kk0 (by omega))
      · refine ne_tswIn (tgt := 1892) X dL_law_44 (by omega) (by omega) (by omega) rfl rfl ?_
        exact lc_36 hl X hX hbl hbA hb0 i T (by omega) (by omega) c q t b k n h x y  mv9 u sv hI hM hP hs _ _ (by omega) (by omega) (kk0 (by omega))
      · refine ne_tswIn (tgt := 1972) X dL_law_44 (by omega) (by omega) (by omega) rfl rfl ?_
        exact lc_37 hl X hX hbl hbA hb0 i T (by omega) (by omega) c q t b k n h x y  mv9 u sv hI hM hP hs _ _ (by omega) (by omega) (kk0 (by omega))
      · refine ne_tswIn (tgt := 2000) X dL_law_44 (by omega) (by omega) (by omega) rfl rfl ?_
        exact lc_38 hl X hX hbl hbA hb0 i T (by omega) (by omega) c q t b k n h x y  mv9 u sv hI hM hP hs _ _ (by omega) (by omega) (kk0 (by omega))
      · refine ne_tswIn (tgt := 2028) X dL_law_44 (by omega) (by omega) (by omega) rfl rfl ?_
        exact lc_39 hl X hX hbl hbA hb0 i T (by omega) (by omega) c q t b k n h x y  mv9 u sv hI hM hP hs _ _ (by omega) (by omega) (kk0 (by omega))
      · refine ne_tswIn (tgt := 2068) X dL_law_44 (by omega) (by omega) (by omega) rfl rfl ?_
        exact lc_40 hl X hX hbl hbA hb0 i T (by omega) (by omega) c q t b k n h x y  mv9 u sv hI hM hP hs _ _ (by omega) (by omega) (kk0 (by omega))
      · refine ne_tswIn (tgt := 2108) X dL_law_44 (by omega) (by omega) (by omega) rfl rfl ?_
        exact lc_41 hl X hX hbl hbA hb0 i T (by omega) (by omega) c q t b k n h x y  mv9 u sv hI hM hP hs _ _ (by omega) (by omega) (kk0 (by omega))
      · refine ne_tswIn (tgt := 2148) X dL_law_44 (by omega) (by omega) (by omega) rfl rfl ?_
        exact lc_42 hl X hX hbl hbA hb0 i T (by omega) (by omega) c q t b k n h x y  mv9 u sv hI hM hP hs _ _ (by omega) (by omega) (kk0 (by omega))
      · refine ne_tswIn (tgt := 2188) X dL_law_44 (by omega) (by omega) (by omega) rfl rfl ?_
        exact lc_43 hl X hX hbl hbA hb0 i T (by omega) (by omega) c q t b k n h x y  mv9 u sv hI hM hP hs _ _ (by omega) (by omega) (kk0 (by omega))
      · refine ne_tswIn (tgt := 2228) X dL_law_44 (by omega) (by omega) (by omega) rfl rfl ?_
        exact lc_44 hl X hX hbl hbA hb0 i T (by omega) (by omega) c q t b k n h x y  mv9 u sv hI hM hP hs _ _ (by omega) (by omega) (kk0 (by omega))
      · refine ne_tswIn (tgt := 2285) X dL_law_44 (by omega) (by omega) (by omega) rfl rfl ?_
        exact lc_45 hl X hX hbl hbA hb0 i T (by omega) (by omega) c q t b k n h x y  mv9 u sv hI hM hP hs _ _ (by omega) (by omega) (kk0 (by omega))
      · refine ne_tswIn (tgt := 2298) X dL_law_44 (by omega) (by omega) (by omega) rfl rfl ?_
        exact lc_46 hl X hX hbl hbA hb0 i T (by omega) (by omega) c q t b k n h x y  mv9 u sv hI hM hP hs _ _ (by omega) (by omega) (kk0 (by omega))
      · refine ne_tswIn (tgt := 2311) X dL_law_44 (by omega) (by omega) (by omega) rfl rfl ?_
        exact lc_47 hl X hX hbl hbA hb0 i T (by omega) (by omega) c q t b k n h x y  mv9 u sv hI hM hP hs _ _ (by omega) (by omega) (kk0 (by omega))
      · refine ne_tswOut (tgt := 2324) X dL_law_44 (by omega) h44 rfl ?_
        refine ne_less (C' := (500 * (70 - T)).toNat - 500) (S' := (3500 * (70 - T)).toNat - 3500) (by omega) (by omega) ?_
        exact kk0 (by omega) c q t b k n h x y  mv9 u sv (cI_mono hI (by omega)) (mI_mono hM (by omega)) hP hs
theorem ne_rgc (v a b : Int) (h : a ≤ v ∧ v ≤ b) : ne_rg (fun _ => v) a b := fun _ => h
theorem cI0 : cI z0 z0 z0 o1 z0 o1 z0 z0 z0 0 := ⟨ne_rgc 0 _ _ (by omega), ne_rgc 0 _ _ (by omega), ne_rgc 0 _ _ (by omega), ne_rgc 1 _ _ (by omega), fun _ => (by show (0 : Int) < 1; omega), ne_rgc 0 _ _ (by omega), ne_rgc 1 _ _ (by omega), ne_rgc 0 _ _ (by omega), ne_rgc 0 _ _ (by omega), ne_rgc 0 _ _ (by omega)⟩
theorem mI0 : mI z0 z0 z0 o1 z0 z0 0 0 := ⟨ne_rgc 0 _ _ (by omega), ne_rgc 0 _ _ (by omega), ne_rgc 0 _ _ (by omega), ne_rgc 1 _ _ (by omega), fun _ => (by show (0 : Int) < 1; omega), fun _ => (by show (1 : Int).tmod 2 ≠ 0 ∧ (1 : Int).tmod 5 ≠ 0; decide), ne_rgc 0 _ _ (by omega), ne_rgc 0 _ _ (by omega), by omega⟩
theorem hP0 : ∀ j : Nat, ne_per (z0 j) (o1 j) (o1 j) := fun _ => ⟨by show (1 : Int) ≤ 1; decide, by show (1 : Int) ≤ 96; decide, fun m h1 h2 => absurd h2 (by show ¬ (m : Int) < 1; omega), rfl⟩
set_option maxRecDepth 100000 in
set_option maxHeartbeats 4000000 in
theorem law_body (hl : l.stackTraces = false) (X : ne_F nw_cl D ct A p l room_1 s9 m args meth c9 RL cL_law 7 nw_T 20 1000 600128 7301098) (hX : va_X b9 N9 xs s9 s9.heap) (hbl : b9 < s9.heap.size) (hbA : ¬ A b9) (hb0 : ad0 0 = b9) (hend : ∀ (H : Heap) (locs : List Loc) (cells slots : Nat) (ls : Array Slot), va_S A s9.heap H locs → cells ≤ 600128 → slots ≤ 7301098 → W p l e room_1 s9 m args below meth c9 H locs cells slots Q9 (F0 m 2331 ls [.int 1])) (hN : N9 ≤ 384) : ne_G nw_cl D ct A 1 ad0 p l e room_1 s9 m args below meth c9 Q9 7 600128 7301098 600128 7301098 0 [some (.ref 0), none, none, none, none, none, none] [] [none] := by
  refine ne_new X dL_law_0 nw_nL_8 (by first | decide | omega) (by first | decide | omega) (Nat.le_of_ble_eq_true rfl) rfl rfl rfl ?_
  refine ne_dupa X dL_law_3 ?_
  refine ne_callIF (is := [1]) X nw_Tg (me_X1_init l hl) rfl nw_yX1_init nw_mL_168 nw_iX1_init rfl dL_law_4 rfl rfl (by decide) (by decide) (by first | decide | omega) (by first | decide | omega) (Nat.le_of_ble_eq_true rfl) rfl rfl rfl (Nat.le_of_ble_eq_true rfl) (ne_ptb rfl (by decide +kernel) rfl) ?_ ?_
  rotate_left
  · rintro E9 w9 h9; exact h9.elim
  rintro v4 w4 ⟨rfl, rfl⟩
  refine ne_ws (ws' := [none, some (.inr (3, [.ref 2, .ref 3, .ref 4, .ref 5, .ref 6, .ref 7, .ref 8, .ref 9, .ref 10])), some (.inl (0, 4, z0)), some (.inl (0, 4, z0)), some (.inl (0, 3, z0)), some (.inl (0, 3, o1)), some (.inl (0, 3, z0)), some (.inl (0, 3, o1)), some (.inl (0, 4, z0)), some (.inr (2, [.ref 11])), some (.inr (2, [.ref 12])), some (.inl (0, 98, z0)), some (.inl (0, 98, z0))]) rfl ?_
  refine ne_astore_n X dL_law_7 rfl (by decide) ?_
  refine ne_new X dL_law_8 nw_nL_169 (by first | decide | omega) (by first | decide | omega) (Nat.le_of_ble_eq_true rfl) rfl rfl rfl ?_
  refine ne_dupa X dL_law_11 ?_
  refine ne_callIF (is := [13]) X nw_Tg (me_X3_init l hl) rfl nw_yX3_init nw_mL_171 nw_iX3_init rfl dL_law_12 rfl rfl (by decide) (by decide) (by first | decide | omega) (by first | decide | omega) (Nat.le_of_ble_eq_true rfl) rfl rfl rfl (Nat.le_of_ble_eq_true rfl) (ne_ptb rfl (by decide +kernel) rfl) ?_ ?_
  rotate_left
  · rintro E9 w9 h9; exact h9.elim
  rintro v12 w12 ⟨rfl, rfl⟩
  refine ne_ws (ws' := [none, some (.inr (3, [.ref 2, .ref 3, .ref 4, .ref 5, .ref 6, .ref 7, .ref 8, .ref 9, .ref 10])), some (.inl (0, 4, z0)), some (.inl (0, 4, z0)), some (.inl (0, 3, z0)), some (.inl (0, 3, o1)), some (.inl (0, 3, z0)), some (.inl (0, 3, o1)), some (.inl (0, 4, z0)), some (.inr (2, [.ref 11])), some (.inr (2, [.ref 12])), some (.inl (0, 98, z0)), some (.inl (0, 98, z0)), some (.inr (5, [.ref 14, .ref 15, .ref 16, .ref 17, .ref 18, .ref 19, ni 0])), some (.inl (0, 4, z0)), some (.inl (0, 4, z0)), some (.inl (0, 3, z0)), some (.inl (0, 3, o1)), some (.inl (0, 3, z0)), some (.inl (0, 4, z0))]) rfl ?_
  refine ne_astore_n X dL_law_15 rfl (by decide) ?_
  refine ne_ll (L' := [some (.ref 0), some (.ref 1), some (.ref 13), none, none, none, none]) rfl ?_
  refine ne_new X dL_law_16 nw_nL_14 (by first | decide | omega) (by first | decide | omega) (Nat.le_of_ble_eq_true rfl) rfl rfl rfl ?_
  refine ne_dupa X dL_law_19 ?_
  refine ne_callIFN (is := [20]) (host := "NinewheelLaw") X nw_Tg (me_X2_init l hl) rfl nw_yX2_init (by decide +kernel) nw_iX2_init rfl dL_law_20 rfl rfl (by decide) (by decide) (by first | decide | omega) (by first | decide | omega) (Nat.le_of_ble_eq_true rfl) rfl rfl rfl (Nat.le_of_ble_eq_true rfl) (ne_ptb rfl (by decide +kernel) rfl) ?_ ?_
  rotate_left
  · rintro E9 w9 h9; exact h9.elim
  rintro v20 w20 ⟨rfl, rfl⟩
  refine ne_ws (ws' := [none, some (.inr (3, [.ref 2, .ref 3, .ref 4, .ref 5, .ref 6, .ref 7, .ref 8, .ref 9, .ref 10])), some (.inl (0, 4, z0)), some (.inl (0, 4, z0)), some (.inl (0, 3, z0)), some (.inl (0, 3, o1)), some (.inl (0, 3, z0)), some (.inl (0, 3, o1)), some (.inl (0, 4, z0)), some (.inr (2, [.ref 11])), some (.inr (2, [.ref 12])), some (.inl (0, 98, z0)), some (.inl (0, 98, z0)), some (.inr (5, [.ref 14, .ref 15, .ref 16, .ref 17, .ref 18, .ref 19, ni 0])), some (.inl (0, 4, z0)), some (.inl (0, 4, z0)), some (.inl (0, 3, z0)), some (.inl (0, 3, o1)), some (.inl (0, 3, z0)), some (.inl (0, 4, z0)), some (.inr (4, [nl 0, .null]))]) rfl ?_
  refine ne_astore_n X dL_law_23 rfl (by decide) ?_
  refine ne_iconst X dL_law_24 ?_
  refine ne_istore X dL_law_25 (by decide) ?_
  refine ne_ll (L' := [some (.ref 0), some (.ref 1), some (.ref 13), some (.ref 20), some (ni _), none, none]) rfl ?_
  refine ne_ll (L' := [some (.ref 0), some (.ref 1), some (.ref 13), some (.ref 20), some (ni 0), none, none]) rfl ?_
  refine ne_addN (Nat.le_of_ble_eq_true rfl) rfl rfl rfl ?_
  refine ne_ws (ws' := lW z0 z0 z0 o1 z0 o1 z0 z0 z0 z0 z0 z0 o1 z0 z0 0 (nl 0) .null) rfl ?_
  refine ne_less (C' := (500 * (70 - (0 : Int))).toNat) (S' := (3500 * (70 - (0 : Int))).toNat) (by decide) (by decide) ?_
  exact law_loop hl X hX hbl hbA hb0 hend hN 401 0 0 _ _ _ _ _ _ _ _ _ _ _ _ (by decide) (by decide) (by decide) (by decide) cI0 mI0 hP0 (Or.inl rfl)
end LAWS
