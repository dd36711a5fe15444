section LAWS
variable {D : va_G} {ct : Nat → ClassId} {A : Nat → Prop} {p : Program} {l : Launch} {e : Env} {s9 : State} {m : MethodId} {args : Array Value} {below : List Frame} {meth : Method} {c9 : Code} {Q9 : State → Prop} {b9 N9 : Nat} {xs : Nat → Int32} {ad0 : Nat → Nat}
set_option maxRecDepth 100000 in
set_option maxHeartbeats 4000000 in
theorem lc_12 (hl : l.stackTraces = false) (X : ne_F nw_cl D ct A p l room_1 s9 m args meth c9 RL cL_law 7 nw_T 20 1000 600128 7301098) (hX : va_X b9 N9 xs s9 s9.heap) (hbl : b9 < s9.heap.size) (hbA : ¬ A b9) (hb0 : ad0 0 = b9) (i T : Int) (hi : 0 ≤ i ∧ i + 6 ≤ N9 ∧ N9 ≤ 384) (hT : 0 ≤ T ∧ T ≤ 100) (c q t b k n h x y  : Nat → Int) (mv9 u : Int) (sv : Value) (hI : cI c q t b k n h x y T) (hM : mI c q t b k h mv9 T) (hP : ∀ j : Nat, ne_per (t j) (b j) (n j)) (hs : sv = .null ∨ sv = .ref 21) (C S : Nat) (hC : 500 ≤ C) (hS : 3500 ≤ S) (kk : ∀ (c q t b k n h x y  : Nat → Int) (mv9 u : Int) (sv : Value), cI c q t b k n h x y (T + 1) → mI c q t b k h mv9 (T + 1) → (∀ j : Nat, ne_per (t j) (b j) (n j)) → (sv = .null ∨ sv = .ref 21) → ne_G nw_cl D ct A 1 ad0 p l e room_1 s9 m args below meth c9 Q9 7 600128 7301098 (C - 500) (S - 3500) 2324 [some (.ref 0), some (.ref 1), some (.ref 13), some (.ref 20), some (ni i), none, none] [] (lW c q t b k n h x y c q t b k h mv9 (nl u) sv)) : ne_G nw_cl D ct A 1 ad0 p l e room_1 s9 m args below meth c9 Q9 7 600128 7301098 C S 880 [some (.ref 0), some (.ref 1), some (.ref 13), some (.ref 20), some (ni i), none, none] [] (lW c q t b k n h x y c q t b k h mv9 (nl u) sv) := by
  obtain ⟨s8, hs8, rfl⟩ : ∃ s8 : Value, (s8 = .null ∨ s8 = .ref 13) ∧ sv = ne_rn [1, 2, 3, 4, 5, 6, 7, 8, 9, 10, 11, 12, 20, 21] 22 s8 := by
    rcases hs with rfl | rfl
    · exact ⟨.null, Or.inl rfl, rfl⟩
    · exact ⟨.ref 13, Or.inr rfl, rfl⟩
  have hcw : ∀ (c q t b k n h x y mc9 mq9 mt9 mb9 mk9 mh9 : Nat → Int) (mv9 u : Int), ne_cw 22 (lW c q t b k n h x y mc9 mq9 mt9 mb9 mk9 mh9 mv9 (nl u) (ne_rn [1, 2, 3, 4, 5, 6, 7, 8, 9, 10, 11, 12, 20, 21] 22 s8)) = true := by
    intros
    rcases hs8 with rfl | rfl <;> rfl
  refine ne_aload_n X dL_law_880 rfl ?_
  refine ne_aload_n X dL_law_881 rfl ?_
  refine ne_iload X dL_law_882 rfl ?_
  refine ne_iconst X dL_law_884 ?_
  refine ne_iadd X dL_law_885 ?_
  refine ne_sld X hX hbl hbA hb0 (by decide) (by omega) dL_law_886 (fun z886 e886 l886 r886 => ?_)
  refine ne_aload_n X dL_law_887 rfl ?_
  refine ne_iload X dL_law_888 rfl ?_
  refine ne_iconst X dL_law_890 ?_
  refine ne_iadd X dL_law_891 ?_
  refine ne_sld X hX hbl hbA hb0 (by decide) (by omega) dL_law_892 (fun z892 e892 l892 r892 => ?_)
  refine ne_aload_n X dL_law_893 rfl ?_
  refine ne_iload X dL_law_894 rfl ?_
  refine ne_iconst X dL_law_896 ?_
  refine ne_iadd X dL_law_897 ?_
  refine ne_sld X hX hbl hbA hb0 (by decide) (by omega) dL_law_898 (fun z898 e898 l898 r898 => ?_)
  refine ne_aload_n X dL_law_899 rfl ?_
  refine ne_callSFW (is := [1, 2, 3, 4, 5, 6, 7, 8, 9, 10, 11, 12, 20, 21]) X nw_Tg (me_L_rest l hl c q t b k n h x y T hI (by omega) u s8 hs8 _ _ _ (by omega) (by omega) (by omega)) nw_yL_rest nw_mL_216 nw_sL_rest dL_law_900 rfl rfl (by decide) (by decide) (by first | decide | omega) (by first | decide | omega) (Nat.le_of_ble_eq_true rfl) (hcw _ _ _ _ _ _ _ _ _ _ _ _ _ _ _ _ _) rfl rfl (Nat.le_of_ble_eq_true rfl) lw_pt1 ?_ ?_
  rotate_left
  · rintro E9 w9 h9; exact h9.elim
  rintro v900 w900 ⟨c1, q1, h1, u1, rfl, hI1, z900, rfl, g900⟩
  refine ne_ws lw_mg1 ?_
  refine ne_istore X dL_law_903 (by decide) ?_
  refine ne_aload_n X dL_law_905 rfl ?_
  refine ne_aload_n X dL_law_906 rfl ?_
  refine ne_iload X dL_law_907 rfl ?_
  refine ne_iconst X dL_law_909 ?_
  refine ne_iadd X dL_law_910 ?_
  refine ne_sld X hX hbl hbA hb0 (by decide) (by omega) dL_law_911 (fun z911 e911 l911 r911 => ?_)
  have y911 : z886 = z911 := e886.trans e911.symm
  subst y911
  refine ne_aload_n X dL_law_912 rfl ?_
  refine ne_iload X dL_law_913 rfl ?_
  refine ne_iconst X dL_law_915 ?_
  refine ne_iadd X dL_law_916 ?_
  refine ne_sld X hX hbl hbA hb0 (by decide) (by omega) dL_law_917 (fun z917 e917 l917 r917 => ?_)
  have y917 : z892 = z917 := e892.trans e917.symm
  subst y917
  refine ne_aload_n X dL_law_918 rfl ?_
  refine ne_iload X dL_law_919 rfl ?_
  refine ne_iconst X dL_law_921 ?_
  refine ne_iadd X dL_law_922 ?_
  refine ne_sld X hX hbl hbA hb0 (by decide) (by omega) dL_law_923 (fun z923 e923 l923 r923 => ?_)
  have y923 : z898 = z923 := e898.trans e923.symm
  subst y923
  refine ne_callVF (is := [13, 14, 15, 16, 17, 18, 19]) X nw_Tg (me_X3_restW l hl c q t b k h mv9 T hM (by omega) _ _ _ (by omega) (by omega) (by omega)) nw_yX3_rest nw_mL_218 nw_iX3_rest nw_eX3_rest (ci := 5) rfl rfl rfl dL_law_924 rfl rfl (by decide) (by decide) (by first | decide | omega) (by first | decide | omega) (Nat.le_of_ble_eq_true rfl) (hcw _ _ _ _ _ _ _ _ _ _ _ _ _ _ _ _ _) rfl rfl (Nat.le_of_ble_eq_true rfl) lw_pt2 ?_ ?_
  rotate_left
  · rintro E9 w9 h9; exact h9.elim
  rintro v924 w924 ⟨c2, q2, h2, mv91, z924, rfl, hM1, rfl, g924⟩
  refine ne_ws lw_mg2 ?_
  obtain ⟨hk, hu, e7, e8, e9⟩ := cn_rest g900 g924
  subst e7 e8 e9
  refine ne_istore X dL_law_927 (by decide) ?_
  refine ne_ll (L' := [some (.ref 0), some (.ref 1), some (.ref 13), some (.ref 20), some (ni _), some (ni _), some (ni _)]) rfl ?_
  refine ne_goto (tgt := 2324) X dL_law_929 rfl ?_
  refine ne_lnone 5 (ne_lnone 6 ?_)
  refine ne_ll (L' := [some (.ref 0), some (.ref 1), some (.ref 13), some (.ref 20), some (ni i), none, none]) rfl ?_
  refine ne_less (C' := C - 500) (S' := S - 3500) (by omega) (by omega) ?_
  exact kk _ _ _ _ _ _ _ _ _ _ _ _ hI1 hM1 hP hs
set_option maxRecDepth 100000 in
set_option maxHeartbeats 4000000 in
theorem lc_13 (hl : l.stackTraces = false) (X : ne_F nw_cl D ct A p l room_1 s9 m args meth c9 RL cL_law 7 nw_T 20 1000 600128 7301098) (hX : va_X b9 N9 xs s9 s9.heap) (hbl : b9 < s9.heap.size) (hbA : ¬ A b9) (hb0 : ad0 0 = b9) (i T : Int) (hi : 0 ≤ i ∧ i + 6 ≤ N9 ∧ N9 ≤ 384) (hT : 0 ≤ T ∧ T ≤ 100) (c q t b k n h x y  : Nat → Int) (mv9 u : Int) (sv : Value) (hI : cI c q t b k n h x y T) (hM : mI c q t b k h mv9 T) (hP : ∀ j : Nat, ne_per (t j) (b j) (n j)) (hs : sv = .null ∨ sv = .ref 21) (C S : Nat) (hC : 500 ≤ C) (hS : 3500 ≤ S) (kk : ∀ (c q t b k n h x y  : Nat → Int) (mv9 u : Int) (sv : Value), cI c q t b k n h x y (T + 1) → mI c q t b k h mv9 (T + 1) → (∀ j : Nat, ne_per (t j) (b j) (n j)) → (sv = .null ∨ sv = .ref 21) → ne_G nw_cl D ct A 1 ad0 p l e room_1 s9 m args below meth c9 Q9 7 600128 7301098 (C - 500) (S - 3500) 2324 [some (.ref 0), some (.ref 1), some (.ref 13), some (.ref 20), some (ni i), none, none] [] (lW c q t b k n h x y c q t b k h mv9 (nl u) sv)) : ne_G nw_cl D ct A 1 ad0 p l e room_1 s9 m args below meth c9 Q9 7 600128 7301098 C S 932 [some (.ref 0), some (.ref 1), some (.ref 13), some (.ref 20), some (ni i), none, none] [] (lW c q t b k n h x y c q t b k h mv9 (nl u) sv) := by
  obtain ⟨s8, hs8, rfl⟩ : ∃ s8 : Value, (s8 = .null ∨ s8 = .ref 13) ∧ sv = ne_rn [1, 2, 3, 4, 5, 6, 7, 8, 9, 10, 11, 12, 20, 21] 22 s8 := by
    rcases hs with rfl | rfl
    · exact ⟨.null, Or.inl rfl, rfl⟩
    · exact ⟨.ref 13, Or.inr rfl, rfl⟩
  have hcw : ∀ (c q t b k n h x y mc9 mq9 mt9 mb9 mk9 mh9 : Nat → Int) (mv9 u : Int), ne_cw 22 (lW c q t b k n h x y mc9 mq9 mt9 mb9 mk9 mh9 mv9 (nl u) (ne_rn [1, 2, 3, 4, 5, 6, 7, 8, 9, 10, 11, 12, 20, 21] 22 s8)) = true := by
    intros
    rcases hs8 with rfl | rfl <;> rfl
  refine ne_aload_n X dL_law_932 rfl ?_
  refine ne_aload_n X dL_law_933 rfl ?_
  refine ne_iload X dL_law_934 rfl ?_
  refine ne_iconst X dL_law_936 ?_
  refine ne_iadd X dL_law_937 ?_
  refine ne_sld X hX hbl hbA hb0 (by decide) (by omega) dL_law_938 (fun z938 e938 l938 r938 => ?_)
  refine ne_aload_n X dL_law_939 rfl ?_
  refine ne_iload X dL_law_940 rfl ?_
  refine ne_iconst X dL_law_942 ?_
  refine ne_iadd X dL_law_943 ?_
  refine ne_sld X hX hbl hbA hb0 (by decide) (by omega) dL_law_944 (fun z944 e944 l944 r944 => ?_)
  refine ne_aload_n X dL_law_945 rfl ?_
  refine ne_iload X dL_law_946 rfl ?_
  refine ne_iconst X dL_law_948 ?_
  refine ne_iadd X dL_law_949 ?_
  refine ne_sld X hX hbl hbA hb0 (by decide) (by omega) dL_law_950 (fun z950 e950 l950 r950 => ?_)
  refine ne_aload_n X dL_law_951 rfl ?_
  refine ne_callSFW (is := [1, 2, 3, 4, 5, 6, 7, 8, 9, 10, 11, 12, 20, 21]) X nw_Tg (me_L_setPlaces l hl c q t b k n h x y T hI (by omega) u s8 hs8 _ _ _ (by omega) (by omega) (by omega)) nw_yL_setPlaces nw_mL_219 nw_sL_setPlaces dL_law_952 rfl rfl (by decide) (by decide) (by first | decide | omega) (by first | decide | omega) (Nat.le_of_ble_eq_true rfl) (hcw _ _ _ _ _ _ _ _ _ _ _ _ _ _ _ _ _) rfl rfl (Nat.le_of_ble_eq_true rfl) lw_pt1 ?_ ?_
  rotate_left
  · rintro E9 w9 h9; exact h9.elim
  rintro v952 w952 ⟨c1, q1, h1, u1, rfl, hI1, z952, rfl, g952⟩
  refine ne_ws lw_mg1 ?_
  refine ne_istore X dL_law_955 (by decide) ?_
  refine ne_aload_n X dL_law_957 rfl ?_
  refine ne_aload_n X dL_law_958 rfl ?_
  refine ne_iload X dL_law_959 rfl ?_
  refine ne_iconst X dL_law_961 ?_
  refine ne_iadd X dL_law_962 ?_
  refine ne_sld X hX hbl hbA hb0 (by decide) (by omega) dL_law_963 (fun z963 e963 l963 r963 => ?_)
  have y963 : z938 = z963 := e938.trans e963.symm
  subst y963
  refine ne_aload_n X dL_law_964 rfl ?_
  refine ne_iload X dL_law_965 rfl ?_
  refine ne_iconst X dL_law_967 ?_
  refine ne_iadd X dL_law_968 ?_
  refine ne_sld X hX hbl hbA hb0 (by decide) (by omega) dL_law_969 (fun z969 e969 l969 r969 => ?_)
  have y969 : z944 = z969 := e944.trans e969.symm
  subst y969
  refine ne_aload_n X dL_law_970 rfl ?_
  refine ne_iload X dL_law_971 rfl ?_
  refine ne_iconst X dL_law_973 ?_
  refine ne_iadd X dL_law_974 ?_
  refine ne_sld X hX hbl hbA hb0 (by decide) (by omega) dL_law_975 (fun z975 e975 l975 r975 => ?_)
  have y975 : z950 = z975 := e950.trans e975.symm
  subst y975
  refine ne_callVF (is := [13, 14, 15, 16, 17, 18, 19]) X nw_Tg (me_X3_setPlacesW l hl c q t b k h mv9 T hM (by omega) _ _ _ (by omega) (by omega) (by omega)) nw_yX3_setPlaces nw_mL_221 nw_iX3_setPlaces nw_eX3_setPlaces (ci := 5) rfl rfl rfl dL_law_976 rfl rfl (by decide) (by decide) (by first | decide | omega) (by first | decide | omega) (Nat.le_of_ble_eq_true rfl) (hcw _ _ _ _ _ _ _ _ _ _ _ _ _ _ _ _ _) rfl rfl (Nat.le_of_ble_eq_true rfl) lw_pt2 ?_ ?_
  rotate_left
  · rintro E9 w9 h9; exact h9.elim
  rintro v976 w976 ⟨c2, q2, h2, mv91, z976, rfl, hM1, rfl, g976⟩
  refine ne_ws lw_mg2 ?_
  obtain ⟨hk, hu, e7, e8, e9⟩ := cn_setPlaces g952 g976
  subst e7 e8 e9
  refine ne_istore X dL_law_979 (by decide) ?_
  refine ne_ll (L' := [some (.ref 0), some (.ref 1), some (.ref 13), some (.ref 20), some (ni _), some (ni _), some (ni _)]) rfl ?_
  refine ne_goto (tgt := 2324) X dL_law_981 rfl ?_
  refine ne_lnone 5 (ne_lnone 6 ?_)
  refine ne_ll (L' := [some (.ref 0), some (.ref 1), some (.ref 13), some (.ref 20), some (ni i), none, none]) rfl ?_
  refine ne_less (C' := C - 500) (S' := S - 3500) (by omega) (by omega) ?_
  exact kk _ _ _ _ _ _ _ _ _ _ _ _ hI1 hM1 hP hs
set_option maxRecDepth 100000 in
set_option maxHeartbeats 4000000 in
theorem lc_14 (hl : l.stackTraces = false) (X : ne_F nw_cl D ct A p l room_1 s9 m args meth c9 RL cL_law 7 nw_T 20 1000 600128 7301098) (hX : va_X b9 N9 xs s9 s9.heap) (hbl : b9 < s9.heap.size) (hbA : ¬ A b9) (hb0 : ad0 0 = b9) (i T : Int) (hi : 0 ≤ i ∧ i + 6 ≤ N9 ∧ N9 ≤ 384) (hT : 0 ≤ T ∧ T ≤ 100) (c q t b k n h x y  : Nat → Int) (mv9 u : Int) (sv : Value) (hI : cI c q t b k n h x y T) (hM : mI c q t b k h mv9 T) (hP : ∀ j : Nat, ne_per (t j) (b j) (n j)) (hs : sv = .null ∨ sv = .ref 21) (C S : Nat) (hC : 500 ≤ C) (hS : 3500 ≤ S) (kk : ∀ (c q t b k n h x y  : Nat → Int) (mv9 u : Int) (sv : Value), cI c q t b k n h x y (T + 1) → mI c q t b k h mv9 (T + 1) → (∀ j : Nat, ne_per (t j) (b j) (n j)) → (sv = .null ∨ sv = .ref 21) → ne_G nw_cl D ct A 1 ad0 p l e room_1 s9 m args below meth c9 Q9 7 600128 7301098 (C - 500) (S - 3500) 2324 [some (.ref 0), some (.ref 1), some (.ref 13), some (.ref 20), some (ni i), none, none] [] (lW c q t b k n h x y c q t b k h mv9 (nl u) sv)) : ne_G nw_cl D ct A 1 ad0 p l e room_1 s9 m args below meth c9 Q9 7 600128 7301098 C S 984 [some (.ref 0), some (.ref 1), some (.ref 13), some (.ref 20), some (ni i), none, none] [] (lW c q t b k n h x y c q t b k h mv9 (nl u) sv) := by
  obtain ⟨s8, hs8, rfl⟩ : ∃ s8 : Value, (s8 = .null ∨ s8 = .ref 13) ∧ sv = ne_rn [1, 2, 3, 4, 5, 6, 7, 8, 9, 10, 11, 12, 20, 21] 22 s8 := by
    rcases hs with rfl | rfl
    · exact ⟨.null, Or.inl rfl, rfl⟩
    · exact ⟨.ref 13, Or.inr rfl, rfl⟩
  have hcw : ∀ (c q t b k n h x y mc9 mq9 mt9 mb9 mk9 mh9 : Nat → Int) (mv9 u : Int), ne_cw 22 (lW c q t b k n h x y mc9 mq9 mt9 mb9 mk9 mh9 mv9 (nl u) (ne_rn [1, 2, 3, 4, 5, 6, 7, 8, 9, 10, 11, 12, 20, 21] 22 s8)) = true := by
    intros
    rcases hs8 with rfl | rfl <;> rfl
  refine ne_aload_n X dL_law_984 rfl ?_
  refine ne_aload_n X dL_law_985 rfl ?_
  refine ne_iload X dL_law_986 rfl ?_
  refine ne_iconst X dL_law_988 ?_
  refine ne_iadd X dL_law_989 ?_
  refine ne_sld X hX hbl hbA hb0 (by decide) (by omega) dL_law_990 (fun z990 e990 l990 r990 => ?_)
  refine ne_aload_n X dL_law_991 rfl ?_
  refine ne_callSFW (is := [1, 2, 3, 4, 5, 6, 7, 8, 9, 10, 11, 12, 20, 21]) X nw_Tg (me_L_strip l hl c q t b k n h x y T hI (by omega) u s8 hs8 _ (by omega)) nw_yL_strip nw_mL_222 nw_sL_strip dL_law_992 rfl rfl (by decide) (by decide) (by first | decide | omega) (by first | decide | omega) (Nat.le_of_ble_eq_true rfl) (hcw _ _ _ _ _ _ _ _ _ _ _ _ _ _ _ _ _) rfl rfl (Nat.le_of_ble_eq_true rfl) lw_pt1 ?_ ?_
  rotate_left
  · rintro E9 w9 h9; exact h9.elim
  rintro v992 w992 ⟨c1, q1, h1, u1, rfl, hI1, z992, rfl, g992⟩
  refine ne_ws lw_mg1 ?_
  refine ne_istore X dL_law_995 (by decide) ?_
  refine ne_aload_n X dL_law_997 rfl ?_
  refine ne_aload_n X dL_law_998 rfl ?_
  refine ne_iload X dL_law_999 rfl ?_
  refine ne_iconst X dL_law_1001 ?_
  refine ne_iadd X dL_law_1002 ?_
  refine ne_sld X hX hbl hbA hb0 (by decide) (by omega) dL_law_1003 (fun z1003 e1003 l1003 r1003 => ?_)
  have y1003 : z990 = z1003 := e990.trans e1003.symm
  subst y1003
  refine ne_callVF (is := [13, 14, 15, 16, 17, 18, 19]) X nw_Tg (me_X3_stripW l hl c q t b k h mv9 T hM (by omega) _ (by omega)) nw_yX3_strip nw_mL_224 nw_iX3_strip nw_eX3_strip (ci := 5) rfl rfl rfl dL_law_1004 rfl rfl (by decide) (by decide) (by first | decide | omega) (by first | decide | omega) (Nat.le_of_ble_eq_true rfl) (hcw _ _ _ _ _ _ _ _ _ _ _ _ _ _ _ _ _) rfl rfl (Nat.le_of_ble_eq_true rfl) lw_pt2 ?_ ?_
  rotate_left
  · rintro E9 w9 h9; exact h9.elim
  rintro v1004 w1004 ⟨c2, q2, h2, mv91, z1004, rfl, hM1, rfl, g1004⟩
  refine ne_ws lw_mg2 ?_
  obtain ⟨hk, hu, e7, e8, e9⟩ := cn_strip g992 g1004
  subst e7 e8 e9
  refine ne_istore X dL_law_1007 (by decide) ?_
  refine ne_ll (L' := [some (.ref 0), some (.ref 1), some (.ref 13), some (.ref 20), some (ni _), some (ni _), some (ni _)]) rfl ?_
  refine ne_goto (tgt := 2324) X dL_law_1009 rfl ?_
  refine ne_lnone 5 (ne_lnone 6 ?_)
  refine ne_ll (L' := [some (.ref 0), some (.ref 1), some (.ref 13), some (.ref 20), some (ni i), none, none]) rfl ?_
  refine ne_less (C' := C - 500) (S' := S - 3500) (by omega) (by omega) ?_
  exact kk _ _ _ _ _ _ _ _ _ _ _ _ hI1 hM1 hP hs
set_option maxRecDepth 100000 in
set_option maxHeartbeats 4000000 in
theorem lc_15 (hl : l.stackTraces = false) (X : ne_F nw_cl D ct A p l room_1 s9 m args meth c9 RL cL_law 7 nw_T 20 1000 600128 7301098) (hX : va_X b9 N9 xs s9 s9.heap) (hbl : b9 < s9.heap.size) (hbA : ¬ A b9) (hb0 : ad0 0 = b9) (i T : Int) (hi : 0 ≤ i ∧ i + 6 ≤ N9 ∧ N9 ≤ 384) (hT : 0 ≤ T ∧ T ≤ 100) (c q t b k n h x y  : Nat → Int) (mv9 u : Int) (sv : Value) (hI : cI c q t b k n h x y T) (hM : mI c q t b k h mv9 T) (hP : ∀ j : Nat, ne_per (t j) (b j) (n j)) (hs : sv = .null ∨ sv = .ref 21) (C S : Nat) (hC : 500 ≤ C) (hS : 3500 ≤ S) (kk : ∀ (c q t b k n h x y  : Nat → Int) (mv9 u : Int) (sv : Value), cI c q t b k n h x y (T + 1) → mI c q t b k h mv9 (T + 1) → (∀ j : Nat, ne_per (t j) (b j) (n j)) → (sv = .null ∨ sv = .ref 21) → ne_G nw_cl D ct A 1 ad0 p l e room_1 s9 m args below meth c9 Q9 7 600128 7301098 (C - 500) (S - 3500) 2324 [some (.ref 0), some (.ref 1), some (.ref 13), some (.ref 20), some (ni i), none, none] [] (lW c q t b k n h x y c q t b k h mv9 (nl u) sv)) : ne_G nw_cl D ct A 1 ad0 p l e room_1 s9 m args below meth c9 Q9 7 600128 7301098 C S 1012 [some (.ref 0), some (.ref 1), some (.ref 13), some (.ref 20), some (ni i), none, none] [] (lW c q t b k n h x y c q t b k h mv9 (nl u) sv) := by
  obtain ⟨s8, hs8, rfl⟩ : ∃ s8 : Value, (s8 = .null ∨ s8 = .ref 13) ∧ sv = ne_rn [1, 2, 3, 4, 5, 6, 7, 8, 9, 10, 11, 12, 20, 21] 22 s8 := by
    rcases hs with rfl | rfl
    · exact ⟨.null, Or.inl rfl, rfl⟩
    · exact ⟨.ref 13, Or.inr rfl, rfl⟩
  have hcw : ∀ (c q t b k n h x y mc9 mq9 mt9 mb9 mk9 mh9 : Nat → Int) (mv9 u : Int), ne_cw 22 (lW c q t b k n h x y mc9 mq9 mt9 mb9 mk9 mh9 mv9 (nl u) (ne_rn [1, 2, 3, 4, 5, 6, 7, 8, 9, 10, 11, 12, 20, 21] 22 s8)) = true := by
    intros
    rcases hs8 with rfl | rfl <;> rfl
  refine ne_aload_n X dL_law_1012 rfl ?_
  refine ne_aload_n X dL_law_1013 rfl ?_
  refine ne_iload X dL_law_1014 rfl ?_
  refine ne_iconst X dL_law_1016 ?_
  refine ne_iadd X dL_law_1017 ?_
  refine ne_sld X hX hbl hbA hb0 (by decide) (by omega) dL_law_1018 (fun z1018 e1018 l1018 r1018 => ?_)
  refine ne_aload_n X dL_law_1019 rfl ?_
  refine ne_iload X dL_law_1020 rfl ?_
  refine ne_iconst X dL_law_1022 ?_
  refine ne_iadd X dL_law_1023 ?_
  refine ne_sld X hX hbl hbA hb0 (by decide) (by omega) dL_law_1024 (fun z1024 e1024 l1024 r1024 => ?_)
  refine ne_aload_n X dL_law_1025 rfl ?_
  refine ne_callSFW (is := [1, 2, 3, 4, 5, 6, 7, 8, 9, 10, 11, 12, 20, 21]) X nw_Tg (me_L_move l hl c q t b k n h x y T hI (by omega) u s8 hs8 _ _ (by omega) (by omega)) nw_yL_move nw_mL_225 nw_sL_move dL_law_1026 rfl rfl (by decide) (by decide) (by first | decide | omega) (by first | decide | omega) (Nat.le_of_ble_eq_true rfl) (hcw _ _ _ _ _ _ _ _ _ _ _ _ _ _ _ _ _) rfl rfl (Nat.le_of_ble_eq_true rfl) lw_pt1 ?_ ?_
  rotate_left
  · rintro E9 w9 h9; exact h9.elim
  rintro v1026 w1026 ⟨c1, q1, h1, u1, rfl, hI1, z1026, rfl, g1026⟩
  refine ne_ws lw_mg1 ?_
  refine ne_istore X dL_law_1029 (by decide) ?_
  refine ne_aload_n X dL_law_1031 rfl ?_
  refine ne_aload_n X dL_law_1032 rfl ?_
  refine ne_iload X dL_law_1033 rfl ?_
  refine ne_iconst X dL_law_1035 ?_
  refine ne_iadd X dL_law_1036 ?_
  refine ne_sld X hX hbl hbA hb0 (by decide) (by omega) dL_law_1037 (fun z1037 e1037 l1037 r1037 => ?_)
  have y1037 : z1018 = z1037 := e1018.trans e1037.symm
  subst y1037
  refine ne_aload_n X dL_law_1038 rfl ?_
  refine ne_iload X dL_law_1039 rfl ?_
  refine ne_iconst X dL_law_1041 ?_
  refine ne_iadd X dL_law_1042 ?_
  refine ne_sld X hX hbl hbA hb0 (by decide) (by omega) dL_law_1043 (fun z1043 e1043 l1043 r1043 => ?_)
  have y1043 : z1024 = z1043 := e1024.trans e1043.symm
  subst y1043
  refine ne_callVF (is := [13, 14, 15, 16, 17, 18, 19]) X nw_Tg (me_X3_moveW l hl c q t b k h mv9 T hM (by omega) _ _ (by omega) (by omega)) nw_yX3_move nw_mL_227 nw_iX3_move nw_eX3_move (ci := 5) rfl rfl rfl dL_law_1044 rfl rfl (by decide) (by decide) (by first | decide | omega) (by first | decide | omega) (Nat.le_of_ble_eq_true rfl) (hcw _ _ _ _ _ _ _ _ _ _ _ _ _ _ _ _ _) rfl rfl (Nat.le_of_ble_eq_true rfl) lw_pt2 ?_ ?_
  rotate_left
  · rintro E9 w9 h9; exact h9.elim
  rintro v1044 w1044 ⟨c2, q2, h2, mv91, z1044, rfl, hM1, rfl, g1044⟩
  refine ne_ws lw_mg2 ?_
  obtain ⟨hk, hu, e7, e8, e9⟩ := cn_move g1026 g1044
  subst e7 e8 e9
  refine ne_istore X dL_law_1047 (by decide) ?_
  refine ne_ll (L' := [some (.ref 0), some (.ref 1), some (.ref 13), some (.ref 20), some (ni _), some (ni _), some (ni _)]) rfl ?_
  refine ne_goto (tgt := 2324) X dL_law_1049 rfl ?_
  refine ne_lnone 5 (ne_lnone 6 ?_)
  refine ne_ll (L' := [some (.ref 0), some (.ref 1), some (.ref 13), some (.ref 20), some (ni i), none, none]) rfl ?_
  refine ne_less (C' := C - 500) (S' := S - 3500) (by omega) (by omega) ?_
  exact kk _ _ _ _ _ _ _ _ _ _ _ _ hI1 hM1 hP hs
set_option maxRecDepth 100000 in
set_option maxHeartbeats 4000000 in
theorem lc_16 (hl : l.stackTraces = false) (X : ne_F nw_cl D ct A p l room_1 s9 m args meth c9 RL cL_law 7 nw_T 20 1000 600128 7301098) (hX : va_X b9 N9 xs s9 s9.heap) (hbl : b9 < s9.heap.size) (hbA : ¬ A b9) (hb0 : ad0 0 = b9) (i T : Int) (hi : 0 ≤ i ∧ i + 6 ≤ N9 ∧ N9 ≤ 384) (hT : 0 ≤ T ∧ T ≤ 100) (c q t b k n h x y  : Nat → Int) (mv9 u : Int) (sv : Value) (hI : cI c q t b k n h x y T) (hM : mI c q t b k h mv9 T) (hP : ∀ j : Nat, ne_per (t j) (b j) (n j)) (hs : sv = .null ∨ sv = .ref 21) (C S : Nat) (hC : 500 ≤ C) (hS : 3500 ≤ S) (kk : ∀ (c q t b k n h x y  : Nat → Int) (mv9 u : Int) (sv : Value), cI c q t b k n h x y (T + 1) → mI c q t b k h mv9 (T + 1) → (∀ j : Nat, ne_per (t j) (b j) (n j)) → (sv = .null ∨ sv = .ref 21) → ne_G nw_cl D ct A 1 ad0 p l e room_1 s9 m args below meth c9 Q9 7 600128 7301098 (C - 500) (S - 3500) 2324 [some (.ref 0), some (.ref 1), some (.ref 13), some (.ref 20), some (ni i), none, none] [] (lW c q t b k n h x y c q t b k h mv9 (nl u) sv)) : ne_G nw_cl D ct A 1 ad0 p l e room_1 s9 m args below meth c9 Q9 7 600128 7301098 C S 1052 [some (.ref 0), some (.ref 1), some (.ref 13), some (.ref 20), some (ni i), none, none] [] (lW c q t b k n h x y c q t b k h mv9 (nl u) sv) := by
  obtain ⟨s8, hs8, rfl⟩ : ∃ s8 : Value, (s8 = .null ∨ s8 = .ref 13) ∧ sv = ne_rn [1, 2, 3, 4, 5, 6, 7, 8, 9, 10, 11, 12, 20, 21] 22 s8 := by
    rcases hs with rfl | rfl
    · exact ⟨.null, Or.inl rfl, rfl⟩
    · exact ⟨.ref 13, Or.inr rfl, rfl⟩
  have hcw : ∀ (c q t b k n h x y mc9 mq9 mt9 mb9 mk9 mh9 : Nat → Int) (mv9 u : Int), ne_cw 22 (lW c q t b k n h x y mc9 mq9 mt9 mb9 mk9 mh9 mv9 (nl u) (ne_rn [1, 2, 3, 4, 5, 6, 7, 8, 9, 10, 11, 12, 20, 21] 22 s8)) = true := by
    intros
    rcases hs8 with rfl | rfl <;> rfl
  refine ne_aload_n X dL_law_1052 rfl ?_
  refine ne_aload_n X dL_law_1053 rfl ?_
  refine ne_iload X dL_law_1054 rfl ?_
  refine ne_iconst X dL_law_1056 ?_
  refine ne_iadd X dL_law_1057 ?_
  refine ne_sld X hX hbl hbA hb0 (by decide) (by omega) dL_law_1058 (fun z1058 e1058 l1058 r1058 => ?_)
  refine ne_aload_n X dL_law_1059 rfl ?_
  refine ne_iload X dL_law_1060 rfl ?_
  refine ne_iconst X dL_law_1062 ?_
  refine ne_iadd X dL_law_1063 ?_
  refine ne_sld X hX hbl hbA hb0 (by decide) (by omega) dL_law_1064 (fun z1064 e1064 l1064 r1064 => ?_)
  refine ne_aload_n X dL_law_1065 rfl ?_
  refine ne_iload X dL_law_1066 rfl ?_
  refine ne_iconst X dL_law_1068 ?_
  refine ne_iadd X dL_law_1069 ?_
  refine ne_sld X hX hbl hbA hb0 (by decide) (by omega) dL_law_1070 (fun z1070 e1070 l1070 r1070 => ?_)
  refine ne_aload_n X dL_law_1071 rfl ?_
  refine ne_callSFW (is := [1, 2, 3, 4, 5, 6, 7, 8, 9, 10, 11, 12, 20, 21]) X nw_Tg (me_L_round l hl c q t b k n h x y T hI (by omega) u s8 hs8 _ _ _ (by omega) (by omega) (by omega)) nw_yL_round nw_mL_228 nw_sL_round dL_law_1072 rfl rfl (by decide) (by decide) (by first | decide | omega) (by first | decide | omega) (Nat.le_of_ble_eq_true rfl) (hcw _ _ _ _ _ _ _ _ _ _ _ _ _ _ _ _ _) rfl rfl (Nat.le_of_ble_eq_true rfl) lw_pt1 ?_ ?_
  rotate_left
  · rintro E9 w9 h9; exact h9.elim
  rintro v1072 w1072 ⟨c1, q1, h1, u1, rfl, hI1, z1072, rfl, g1072⟩
  refine ne_ws lw_mg1 ?_
  refine ne_istore X dL_law_1075 (by decide) ?_
  refine ne_aload_n X dL_law_1077 rfl ?_
  refine ne_aload_n X dL_law_1078 rfl ?_
  refine ne_iload X dL_law_1079 rfl ?_
  refine ne_iconst X dL_law_1081 ?_
  refine ne_iadd X dL_law_1082 ?_
  refine ne_sld X hX hbl hbA hb0 (by decide) (by omega) dL_law_1083 (fun z1083 e1083 l1083 r1083 => ?_)
  have y1083 : z1058 = z1083 := e1058.trans e1083.symm
  subst y1083
  refine ne_aload_n X dL_law_1084 rfl ?_
  refine ne_iload X dL_law_1085 rfl ?_
  refine ne_iconst X dL_law_1087 ?_
  refine ne_iadd X dL_law_1088 ?_
  refine ne_sld X hX hbl hbA hb0 (by decide) (by omega) dL_law_1089 (fun z1089 e1089 l1089 r1089 => ?_)
  have y1089 : z1064 = z1089 := e1064.trans e1089.symm
  subst y1089
  refine ne_aload_n X dL_law_1090 rfl ?_
  refine ne_iload X dL_law_1091 rfl ?_
  refine ne_iconst X dL_law_1093 ?_
  refine ne_iadd X dL_law_1094 ?_
  refine ne_sld X hX hbl hbA hb0 (by decide) (by omega) dL_law_1095 (fun z1095 e1095 l1095 r1095 => ?_)
  have y1095 : z1070 = z1095 := e1070.trans e1095.symm
  subst y1095
  refine ne_callVF (is := [13, 14, 15, 16, 17, 18, 19]) X nw_Tg (me_X3_roundW l hl c q t b k h mv9 T hM (by omega) _ _ _ (by omega) (by omega) (by omega)) nw_yX3_round nw_mL_230 nw_iX3_round nw_eX3_round (ci := 5) rfl rfl rfl dL_law_1096 rfl rfl (by decide) (by decide) (by first | decide | omega) (by first | decide | omega) (Nat.le_of_ble_eq_true rfl) (hcw _ _ _ _ _ _ _ _ _ _ _ _ _ _ _ _ _) rfl rfl (Nat.le_of_ble_eq_true rfl) lw_pt2 ?_ ?_
  rotate_left
  · rintro E9 w9 h9; exact h9.elim
  rintro v1096 w1096 ⟨c2, q2, h2, mv91, z1096, rfl, hM1, rfl, g1096⟩
  refine ne_ws lw_mg2 ?_
  obtain ⟨hk, hu, e7, e8, e9⟩ := cn_round g1072 g1096
  subst e7 e8 e9
  refine ne_istore X dL_law_1099 (by decide) ?_
  refine ne_ll (L' := [some (.ref 0), some (.ref 1), some (.ref 13), some (.ref 20), some (ni _), some (ni _), some (ni _)]) rfl ?_
  refine ne_goto (tgt := 2324) X dL_law_1101 rfl ?_
  refine ne_lnone 5 (ne_lnone 6 ?_)
  refine ne_ll (L' := [some (.ref 0), some (.ref 1), some (.ref 13), some (.ref 20), some (ni i), none, none]) rfl ?_
  refine ne_less (C' := C - 500) (S' := S - 3500) (by omega) (by omega) ?_
  exact kk _ _ _ _ _ _ _ _ _ _ _ _ hI1 hM1 hP hs
set_option maxRecDepth 100000 in
set_option maxHeartbeats 4000000 in
theorem lc_17 (hl : l.stackTraces = false) (X : ne_F nw_cl D ct A p l room_1 s9 m args meth c9 RL cL_law 7 nw_T 20 1000 600128 7301098) (hX : va_X b9 N9 xs s9 s9.heap) (hbl : b9 < s9.heap.size) (hbA : ¬ A b9) (hb0 : ad0 0 = b9) (i T : Int) (hi : 0 ≤ i ∧ i + 6 ≤ N9 ∧ N9 ≤ 384) (hT : 0 ≤ T ∧ T ≤ 100) (c q t b k n h x y  : Nat → Int) (mv9 u : Int) (sv : Value) (hI : cI c q t b k n h x y T) (hM : mI c q t b k h mv9 T) (hP : ∀ j : Nat, ne_per (t j) (b j) (n j)) (hs : sv = .null ∨ sv = .ref 21) (C S : Nat) (hC : 500 ≤ C) (hS : 3500 ≤ S) (kk : ∀ (c q t b k n h x y  : Nat → Int) (mv9 u : Int) (sv : Value), cI c q t b k n h x y (T + 1) → mI c q t b k h mv9 (T + 1) → (∀ j : Nat, ne_per (t j) (b j) (n j)) → (sv = .null ∨ sv = .ref 21) → ne_G nw_cl D ct A 1 ad0 p l e room_1 s9 m args below meth c9 Q9 7 600128 7301098 (C - 500) (S - 3500) 2324 [some (.ref 0), some (.ref 1), some (.ref 13), some (.ref 20), some (ni i), none, none] [] (lW c q t b k n h x y c q t b k h mv9 (nl u) sv)) : ne_G nw_cl D ct A 1 ad0 p l e room_1 s9 m args below meth c9 Q9 7 600128 7301098 C S 1104 [some (.ref 0), some (.ref 1), some (.ref 13), some (.ref 20), some (ni i), none, none] [] (lW c q t b k n h x y c q t b k h mv9 (nl u) sv) := by
  obtain ⟨s8, hs8, rfl⟩ : ∃ s8 : Value, (s8 = .null ∨ s8 = .ref 13) ∧ sv = ne_rn [1, 2, 3, 4, 5, 6, 7, 8, 9, 10, 11, 12, 20, 21] 22 s8 := by
    rcases hs with rfl | rfl
    · exact ⟨.null, Or.inl rfl, rfl⟩
    · exact ⟨.ref 13, Or.inr rfl, rfl⟩
  have hcw : ∀ (c q t b k n h x y mc9 mq9 mt9 mb9 mk9 mh9 : Nat → Int) (mv9 u : Int), ne_cw 22 (lW c q t b k n h x y mc9 mq9 mt9 mb9 mk9 mh9 mv9 (nl u) (ne_rn [1, 2, 3, 4, 5, 6, 7, 8, 9, 10, 11, 12, 20, 21] 22 s8)) = true := by
    intros
    rcases hs8 with rfl | rfl <;> rfl
  refine ne_aload_n X dL_law_1104 rfl ?_
  refine ne_aload_n X dL_law_1105 rfl ?_
  refine ne_iload X dL_law_1106 rfl ?_
  refine ne_iconst X dL_law_1108 ?_
  refine ne_iadd X dL_law_1109 ?_
  refine ne_sld X hX hbl hbA hb0 (by decide) (by omega) dL_law_1110 (fun z1110 e1110 l1110 r1110 => ?_)
  refine ne_aload_n X dL_law_1111 rfl ?_
  refine ne_iload X dL_law_1112 rfl ?_
  refine ne_iconst X dL_law_1114 ?_
  refine ne_iadd X dL_law_1115 ?_
  refine ne_sld X hX hbl hbA hb0 (by decide) (by omega) dL_law_1116 (fun z1116 e1116 l1116 r1116 => ?_)
  refine ne_aload_n X dL_law_1117 rfl ?_
  refine ne_iload X dL_law_1118 rfl ?_
  refine ne_iconst X dL_law_1120 ?_
  refine ne_iadd X dL_law_1121 ?_
  refine ne_sld X hX hbl hbA hb0 (by decide) (by omega) dL_law_1122 (fun z1122 e1122 l1122 r1122 => ?_)
  refine ne_aload_n X dL_law_1123 rfl ?_
  refine ne_callSFW (is := [1, 2, 3, 4, 5, 6, 7, 8, 9, 10, 11, 12, 20, 21]) X nw_Tg (me_L_greater l hl c q t b k n h x y T hI (by omega) u s8 hs8 _ _ _ (by omega) (by omega) (by omega)) nw_yL_greater nw_mL_231 nw_sL_greater dL_law_1124 rfl rfl (by decide) (by decide) (by first | decide | omega) (by first | decide | omega) (Nat.le_of_ble_eq_true rfl) (hcw _ _ _ _ _ _ _ _ _ _ _ _ _ _ _ _ _) rfl rfl (Nat.le_of_ble_eq_true rfl) lw_pt1 ?_ ?_
  rotate_left
  · rintro E9 w9 h9; exact h9.elim
  rintro v1124 w1124 ⟨c1, q1, h1, u1, rfl, hI1, z1124, rfl, g1124⟩
  refine ne_ws lw_mg1 ?_
  refine ne_istore X dL_law_1127 (by decide) ?_
  refine ne_aload_n X dL_law_1129 rfl ?_
  refine ne_aload_n X dL_law_1130 rfl ?_
  refine ne_iload X dL_law_1131 rfl ?_
  refine ne_iconst X dL_law_1133 ?_
  refine ne_iadd X dL_law_1134 ?_
  refine ne_sld X hX hbl hbA hb0 (by decide) (by omega) dL_law_1135 (fun z1135 e1135 l1135 r1135 => ?_)
  have y1135 : z1110 = z1135 := e1110.trans e1135.symm
  subst y1135
  refine ne_aload_n X dL_law_1136 rfl ?_
  refine ne_iload X dL_law_1137 rfl ?_
  refine ne_iconst X dL_law_1139 ?_
  refine ne_iadd X dL_law_1140 ?_
  refine ne_sld X hX hbl hbA hb0 (by decide) (by omega) dL_law_1141 (fun z1141 e1141 l1141 r1141 => ?_)
  have y1141 : z1116 = z1141 := e1116.trans e1141.symm
  subst y1141
  refine ne_aload_n X dL_law_1142 rfl ?_
  refine ne_iload X dL_law_1143 rfl ?_
  refine ne_iconst X dL_law_1145 ?_
  refine ne_iadd X dL_law_1146 ?_
  refine ne_sld X hX hbl hbA hb0 (by decide) (by omega) dL_law_1147 (fun z1147 e1147 l1147 r1147 => ?_)
  have y1147 : z1122 = z1147 := e1122.trans e1147.symm
  subst y1147
  refine ne_callVF (is := [13, 14, 15, 16, 17, 18, 19]) X nw_Tg (me_X3_greaterW l hl c q t b k h mv9 T hM (by omega) _ _ _ (by omega) (by omega) (by omega)) nw_yX3_greater nw_mL_233 nw_iX3_greater nw_eX3_greater (ci := 5) rfl rfl rfl dL_law_1148 rfl rfl (by decide) (by decide) (by first | decide | omega) (by first | decide | omega) (Nat.le_of_ble_eq_true rfl) (hcw _ _ _ _ _ _ _ _ _ _ _ _ _ _ _ _ _) rfl rfl (Nat.le_of_ble_eq_true rfl) lw_pt2 ?_ ?_
  rotate_left
  · rintro E9 w9 h9; exact h9.elim
  rintro v1148 w1148 ⟨c2, q2, h2, mv91, z1148, rfl, hM1, rfl, g1148⟩
  refine ne_ws lw_mg2 ?_
  obtain ⟨hk, hu, e7, e8, e9⟩ := cn_greater g1124 g1148
  subst e7 e8 e9
  refine ne_istore X dL_law_1151 (by decide) ?_
  refine ne_ll (L' := [some (.ref 0), some (.ref 1), some (.ref 13), some (.ref 20), some (ni _), some (ni _), some (ni _)]) rfl ?_
  refine ne_goto (tgt := 2324) X dL_law_1153 rfl ?_
  refine ne_lnone 5 (ne_lnone 6 ?_)
  refine ne_ll (L' := [some (.ref 0), some (.ref 1), some (.ref 13), some (.ref 20), some (ni i), none, none]) rfl ?_
  refine ne_less (C' := C - 500) (S' := S - 3500) (by omega) (by omega) ?_
  exact kk _ _ _ _ _ _ _ _ _ _ _ _ hI1 hM1 hP hs
set_option maxRecDepth 100000 in
set_option maxHeartbeats 4000000 in
theorem lc_18 (hl : l.stackTraces = false) (X : ne_F nw_cl D ct A p l room_1 s9 m args meth c9 RL cL_law 7 nw_T 20 1000 600128 7301098) (hX : va_X b9 N9 xs s9 s9.heap) (hbl : b9 < s9.heap.size) (hbA : ¬ A b9) (hb0 : ad0 0 = b9) (i T : Int) (hi : 0 ≤ i ∧ i + 6 ≤ N9 ∧ N9 ≤ 384) (hT : 0 ≤ T ∧ T ≤ 100) (c q t b k n h x y  : Nat → Int) (mv9 u : Int) (sv : Value) (hI : cI c q t b k n h x y T) (hM : mI c q t b k h mv9 T) (hP : ∀ j : Nat, ne_per (t j) (b j) (n j)) (hs : sv = .null ∨ sv = .ref 21) (C S : Nat) (hC : 500 ≤ C) (hS : 3500 ≤ S) (kk : ∀ (c q t b k n h x y  : Nat → Int) (mv9 u : Int) (sv : Value), cI c q t b k n h x y (T + 1) → mI c q t b k h mv9 (T + 1) → (∀ j : Nat, ne_per (t j) (b j) (n j)) → (sv = .null ∨ sv = .ref 21) → ne_G nw_cl D ct A 1 ad0 p l e room_1 s9 m args below meth c9 Q9 7 600128 7301098 (C - 500) (S - 3500) 2324 [some (.ref 0), some (.ref 1), some (.ref 13), some (.ref 20), some (ni i), none, none] [] (lW c q t b k n h x y c q t b k h mv9 (nl u) sv)) : ne_G nw_cl D ct A 1 ad0 p l e room_1 s9 m args below meth c9 Q9 7 600128 7301098 C S 1156 [some (.ref 0), some (.ref 1), some (.ref 13), some (.ref 20), some (ni i), none, none] [] (lW c q t b k n h x y c q t b k h mv9 (nl u) sv) := by
  obtain ⟨s8, hs8, rfl⟩ : ∃ s8 : Value, (s8 = .null ∨ s8 = .ref 13) ∧ sv = ne_rn [1, 2, 3, 4, 5, 6, 7, 8, 9, 10, 11, 12, 20, 21] 22 s8 := by
    rcases hs with rfl | rfl
    · exact ⟨.null, Or.inl rfl, rfl⟩
    · exact ⟨.ref 13, Or.inr rfl, rfl⟩
  have hcw : ∀ (c q t b k n h x y mc9 mq9 mt9 mb9 mk9 mh9 : Nat → Int) (mv9 u : Int), ne_cw 22 (lW c q t b k n h x y mc9 mq9 mt9 mb9 mk9 mh9 mv9 (nl u) (ne_rn [1, 2, 3, 4, 5, 6, 7, 8, 9, 10, 11, 12, 20, 21] 22 s8)) = true := by
    intros
    rcases hs8 with rfl | rfl <;> rfl
  refine ne_aload_n X dL_law_1156 rfl ?_
  refine ne_aload_n X dL_law_1157 rfl ?_
  refine ne_iload X dL_law_1158 rfl ?_
  refine ne_iconst X dL_law_1160 ?_
  refine ne_iadd X dL_law_1161 ?_
  refine ne_sld X hX hbl hbA hb0 (by decide) (by omega) dL_law_1162 (fun z1162 e1162 l1162 r1162 => ?_)
  refine ne_aload_n X dL_law_1163 rfl ?_
  refine ne_iload X dL_law_1164 rfl ?_
  refine ne_iconst X dL_law_1166 ?_
  refine ne_iadd X dL_law_1167 ?_
  refine ne_sld X hX hbl hbA hb0 (by decide) (by omega) dL_law_1168 (fun z1168 e1168 l1168 r1168 => ?_)
  refine ne_aload_n X dL_law_1169 rfl ?_
  refine ne_iload X dL_law_1170 rfl ?_
  refine ne_iconst X dL_law_1172 ?_
  refine ne_iadd X dL_law_1173 ?_
  refine ne_sld X hX hbl hbA hb0 (by decide) (by omega) dL_law_1174 (fun z1174 e1174 l1174 r1174 => ?_)
  refine ne_aload_n X dL_law_1175 rfl ?_
  refine ne_callSFW (is := [1, 2, 3, 4, 5, 6, 7, 8, 9, 10, 11, 12, 20, 21]) X nw_Tg (me_L_lesser l hl c q t b k n h x y T hI (by omega) u s8 hs8 _ _ _ (by omega) (by omega) (by omega)) nw_yL_lesser nw_mL_234 nw_sL_lesser dL_law_1176 rfl rfl (by decide) (by decide) (by first | decide | omega) (by first | decide | omega) (Nat.le_of_ble_eq_true rfl) (hcw _ _ _ _ _ _ _ _ _ _ _ _ _ _ _ _ _) rfl rfl (Nat.le_of_ble_eq_true rfl) lw_pt1 ?_ ?_
  rotate_left
  · rintro E9 w9 h9; exact h9.elim
  rintro v1176 w1176 ⟨c1, q1, h1, u1, rfl, hI1, z1176, rfl, g1176⟩
  refine ne_ws lw_mg1 ?_
  refine ne_istore X dL_law_1179 (by decide) ?_
  refine ne_aload_n X dL_law_1181 rfl ?_
  refine ne_aload_n X dL_law_1182 rfl ?_
  refine ne_iload X dL_law_1183 rfl ?_
  refine ne_iconst X dL_law_1185 ?_
  refine ne_iadd X dL_law_1186 ?_
  refine ne_sld X hX hbl hbA hb0 (by decide) (by omega) dL_law_1187 (fun z1187 e1187 l1187 r1187 => ?_)
  have y1187 : z1162 = z1187 := e1162.trans e1187.symm
  subst y1187
  refine ne_aload_n X dL_law_1188 rfl ?_
  refine ne_iload X dL_law_1189 rfl ?_
  refine ne_iconst X dL_law_1191 ?_
  refine ne_iadd X dL_law_1192 ?_
  refine ne_sld X hX hbl hbA hb0 (by decide) (by omega) dL_law_1193 (fun z1193 e1193 l1193 r1193 => ?_)
  have y1193 : z1168 = z1193 := e1168.trans e1193.symm
  subst y1193
  refine ne_aload_n X dL_law_1194 rfl ?_
  refine ne_iload X dL_law_1195 rfl ?_
  refine ne_iconst X dL_law_1197 ?_
  refine ne_iadd X dL_law_1198 ?_
  refine ne_sld X hX hbl hbA hb0 (by decide) (by omega) dL_law_1199 (fun z1199 e1199 l1199 r1199 => ?_)
  have y1199 : z1174 = z1199 := e1174.trans e1199.symm
  subst y1199
  refine ne_callVF (is := [13, 14, 15, 16, 17, 18, 19]) X nw_Tg (me_X3_lesserW l hl c q t b k h mv9 T hM (by omega) _ _ _ (by omega) (by omega) (by omega)) nw_yX3_lesser nw_mL_236 nw_iX3_lesser nw_eX3_lesser (ci := 5) rfl rfl rfl dL_law_1200 rfl rfl (by decide) (by decide) (by first | decide | omega) (by first | decide | omega) (Nat.le_of_ble_eq_true rfl) (hcw _ _ _ _ _ _ _ _ _ _ _ _ _ _ _ _ _) rfl rfl (Nat.le_of_ble_eq_true rfl) lw_pt2 ?_ ?_
  rotate_left
  · rintro E9 w9 h9; exact h9.elim
  rintro v1200 w1200 ⟨c2, q2, h2, mv91, z1200, rfl, hM1, rfl, g1200⟩
  refine ne_ws lw_mg2 ?_
  obtain ⟨hk, hu, e7, e8, e9⟩ := cn_lesser g1176 g1200
  subst e7 e8 e9
  refine ne_istore X dL_law_1203 (by decide) ?_
  refine ne_ll (L' := [some (.ref 0), some (.ref 1), some (.ref 13), some (.ref 20), some (ni _), some (ni _), some (ni _)]) rfl ?_
  refine ne_goto (tgt := 2324) X dL_law_1205 rfl ?_
  refine ne_lnone 5 (ne_lnone 6 ?_)
  refine ne_ll (L' := [some (.ref 0), some (.ref 1), some (.ref 13), some (.ref 20), some (ni i), none, none]) rfl ?_
  refine ne_less (C' := C - 500) (S' := S - 3500) (by omega) (by omega) ?_
  exact kk _ _ _ _ _ _ _ _ _ _ _ _ hI1 hM1 hP hs
set_option maxRecDepth 100000 in
set_option maxHeartbeats 4000000 in
theorem lc_19 (hl : l.stackTraces = false) (X : ne_F nw_cl D ct A p l room_1 s9 m args meth c9 RL cL_law 7 nw_T 20 1000 600128 7301098) (hX : va_X b9 N9 xs s9 s9.heap) (hbl : b9 < s9.heap.size) (hbA : ¬ A b9) (hb0 : ad0 0 = b9) (i T : Int) (hi : 0 ≤ i ∧ i + 6 ≤ N9 ∧ N9 ≤ 384) (hT : 0 ≤ T ∧ T ≤ 100) (c q t b k n h x y  : Nat → Int) (mv9 u : Int) (sv : Value) (hI : cI c q t b k n h x y T) (hM : mI c q t b k h mv9 T) (hP : ∀ j : Nat, ne_per (t j) (b j) (n j)) (hs : sv = .null ∨ sv = .ref 21) (C S : Nat) (hC : 500 ≤ C) (hS : 3500 ≤ S) (kk : ∀ (c q t b k n h x y  : Nat → Int) (mv9 u : Int) (sv : Value), cI c q t b k n h x y (T + 1) → mI c q t b k h mv9 (T + 1) → (∀ j : Nat, ne_per (t j) (b j) (n j)) → (sv = .null ∨ sv = .ref 21) → ne_G nw_cl D ct A 1 ad0 p l e room_1 s9 m args below meth c9 Q9 7 600128 7301098 (C - 500) (S - 3500) 2324 [some (.ref 0), some (.ref 1), some (.ref 13), some (.ref 20), some (ni i), none, none] [] (lW c q t b k n h x y c q t b k h mv9 (nl u) sv)) : ne_G nw_cl D ct A 1 ad0 p l e room_1 s9 m args below meth c9 Q9 7 600128 7301098 C S 1208 [some (.ref 0), some (.ref 1), some (.ref 13), some (.ref 20), some (ni i), none, none] [] (lW c q t b k n h x y c q t b k h mv9 (nl u) sv) := by
  obtain ⟨s8, hs8, rfl⟩ : ∃ s8 : Value, (s8 = .null ∨ s8 = .ref 13) ∧ sv = ne_rn [1, 2, 3, 4, 5, 6, 7, 8, 9, 10, 11, 12, 20, 21] 22 s8 := by
    rcases hs with rfl | rfl
    · exact ⟨.null, Or.inl rfl, rfl⟩
    · exact ⟨.ref 13, Or.inr rfl, rfl⟩
  have hcw : ∀ (c q t b k n h x y mc9 mq9 mt9 mb9 mk9 mh9 : Nat → Int) (mv9 u : Int), ne_cw 22 (lW c q t b k n h x y mc9 mq9 mt9 mb9 mk9 mh9 mv9 (nl u) (ne_rn [1, 2, 3, 4, 5, 6, 7, 8, 9, 10, 11, 12, 20, 21] 22 s8)) = true := by
    intros
    rcases hs8 with rfl | rfl <;> rfl
  refine ne_aload_n X dL_law_1208 rfl ?_
  refine ne_aload_n X dL_law_1209 rfl ?_
  refine ne_iload X dL_law_1210 rfl ?_
  refine ne_iconst X dL_law_1212 ?_
  refine ne_iadd X dL_law_1213 ?_
  refine ne_sld X hX hbl hbA hb0 (by decide) (by omega) dL_law_1214 (fun z1214 e1214 l1214 r1214 => ?_)
  refine ne_aload_n X dL_law_1215 rfl ?_
  refine ne_iload X dL_law_1216 rfl ?_
  refine ne_iconst X dL_law_1218 ?_
  refine ne_iadd X dL_law_1219 ?_
  refine ne_sld X hX hbl hbA hb0 (by decide) (by omega) dL_law_1220 (fun z1220 e1220 l1220 r1220 => ?_)
  refine ne_if_eq (tgt := 1228) X dL_law_1221 rfl (by omega) (fun b1221 => ?_) (fun b1221 => ?_)
  · refine ne_iconst X dL_law_1228 ?_
    refine ne_aload_n X dL_law_1229 rfl ?_
    refine ne_iload X dL_law_1230 rfl ?_
    refine ne_iconst X dL_law_1232 ?_
    refine ne_iadd X dL_law_1233 ?_
    refine ne_sld X hX hbl hbA hb0 (by decide) (by omega) dL_law_1234 (fun z1234 e1234 l1234 r1234 => ?_)
    refine ne_aload_n X dL_law_1235 rfl ?_
    refine ne_iload X dL_law_1236 rfl ?_
    refine ne_iconst X dL_law_1238 ?_
    refine ne_iadd X dL_law_1239 ?_
    refine ne_sld X hX hbl hbA hb0 (by decide) (by omega) dL_law_1240 (fun z1240 e1240 l1240 r1240 => ?_)
    refine ne_aload_n X dL_law_1241 rfl ?_
    refine ne_iload X dL_law_1242 rfl ?_
    refine ne_iconst X dL_law_1244 ?_
    refine ne_iadd X dL_law_1245 ?_
    refine ne_sld X hX hbl hbA hb0 (by decide) (by omega) dL_law_1246 (fun z1246 e1246 l1246 r1246 => ?_)
    refine ne_aload_n X dL_law_1247 rfl ?_
    refine ne_callSFW (is := [1, 2, 3, 4, 5, 6, 7, 8, 9, 10, 11, 12, 20, 21]) X nw_Tg (me_L_cut l hl c q t b k n h x y T hI (by omega) u s8 hs8 _ _ _ _ _ (by omega) (by omega) (by omega) (by omega) (by omega)) nw_yL_cut nw_mL_237 nw_sL_cut dL_law_1248 rfl rfl (by decide) (by decide) (by first | decide | omega) (by first | decide | omega) (Nat.le_of_ble_eq_true rfl) (hcw _ _ _ _ _ _ _ _ _ _ _ _ _ _ _ _ _) rfl rfl (Nat.le_of_ble_eq_true rfl) lw_pt1 ?_ ?_
    rotate_left
    · rintro E9 w9 h9; exact h9.elim
    rintro v1248 w1248 ⟨c1, q1, h1, u1, rfl, hI1, z1248, rfl, g1248⟩
    refine ne_ws lw_mg1 ?_
    refine ne_istore X dL_law_1251 (by decide) ?_
    refine ne_aload_n X dL_law_1253 rfl ?_
    refine ne_aload_n X dL_law_1254 rfl ?_
    refine ne_iload X dL_law_1255 rfl ?_
    refine ne_iconst X dL_law_1257 ?_
    refine ne_iadd X dL_law_1258 ?_
    refine ne_sld X hX hbl hbA hb0 (by decide) (by omega) dL_law_1259 (fun z1259 e1259 l1259 r1259 => ?_)
    have y1259 : z1214 = z1259 := e1214.trans e1259.symm
    subst y1259
    refine ne_aload_n X dL_law_1260 rfl ?_
    refine ne_iload X dL_law_1261 rfl ?_
    refine ne_iconst X dL_law_1263 ?_
    refine ne_iadd X dL_law_1264 ?_
    refine ne_sld X hX hbl hbA hb0 (by decide) (by omega) dL_law_1265 (fun z1265 e1265 l1265 r1265 => ?_)
    have y1265 : z1220 = z1265 := e1220.trans e1265.symm
    subst y1265
    refine ne_if_eq (tgt := 1273) X dL_law_1266 rfl (by omega) (fun b1266 => ?_) (fun b1266 => ?_)
    · refine ne_iconst X dL_law_1273 ?_
      refine ne_aload_n X dL_law_1274 rfl ?_
      refine ne_iload X dL_law_1275 rfl ?_
      refine ne_iconst X dL_law_1277 ?_
      refine ne_iadd X dL_law_1278 ?_
      refine ne_sld X hX hbl hbA hb0 (by decide) (by omega) dL_law_1279 (fun z1279 e1279 l1279 r1279 => ?_)
      have y1279 : z1234 = z1279 := e1234.trans e1279.symm
      subst y1279
      refine ne_aload_n X dL_law_1280 rfl ?_
      refine ne_iload X dL_law_1281 rfl ?_
      refine ne_iconst X dL_law_1283 ?_
      refine ne_iadd X dL_law_1284 ?_
      refine ne_sld X hX hbl hbA hb0 (by decide) (by omega) dL_law_1285 (fun z1285 e1285 l1285 r1285 => ?_)
      have y1285 : z1240 = z1285 := e1240.trans e1285.symm
      subst y1285
      refine ne_aload_n X dL_law_1286 rfl ?_
      refine ne_iload X dL_law_1287 rfl ?_
      refine ne_iconst X dL_law_1289 ?_
      refine ne_iadd X dL_law_1290 ?_
      refine ne_sld X hX hbl hbA hb0 (by decide) (by omega) dL_law_1291 (fun z1291 e1291 l1291 r1291 => ?_)
      have y1291 : z1246 = z1291 := e1246.trans e1291.symm
      subst y1291
      refine ne_callVF (is := [13, 14, 15, 16, 17, 18, 19]) X nw_Tg (me_X3_cutW l hl c q t b k h mv9 T hM (by omega) _ _ _ _ _ (by omega) (by omega) (by omega) (by omega) (by omega)) nw_yX3_cut nw_mL_239 nw_iX3_cut nw_eX3_cut (ci := 5) rfl rfl rfl dL_law_1292 rfl rfl (by decide) (by decide) (by first | decide | omega) (by first | decide | omega) (Nat.le_of_ble_eq_true rfl) (hcw _ _ _ _ _ _ _ _ _ _ _ _ _ _ _ _ _) rfl rfl (Nat.le_of_ble_eq_true rfl) lw_pt2 ?_ ?_
      rotate_left
      · rintro E9 w9 h9; exact h9.elim
      rintro v1292 w1292 ⟨c2, q2, h2, mv91, z1292, rfl, hM1, rfl, g1292⟩
      refine ne_ws lw_mg2 ?_
      obtain ⟨hk, hu, e7, e8, e9⟩ := cn_cut hI.2.2.2.1 g1248 g1292
      subst e7 e8 e9
      refine ne_istore X dL_law_1295 (by decide) ?_
      refine ne_ll (L' := [some (.ref 0), some (.ref 1), some (.ref 13), some (.ref 20), some (ni _), some (ni _), some (ni _)]) rfl ?_
      refine ne_goto (tgt := 2324) X dL_law_1297 rfl ?_
      refine ne_lnone 5 (ne_lnone 6 ?_)
      refine ne_ll (L' := [some (.ref 0), some (.ref 1), some (.ref 13), some (.ref 20), some (ni i), none, none]) rfl ?_
      refine ne_less (C' := C - 500) (S' := S - 3500) (by omega) (by omega) ?_
      exact kk _ _ _ _ _ _ _ _ _ _ _ _ hI1 hM1 hP hs
    · exfalso; omega
  · refine ne_iconst X dL_law_1224 ?_
    refine ne_goto (tgt := 1229) X dL_law_1225 rfl ?_
    refine ne_aload_n X dL_law_1229 rfl ?_
    refine ne_iload X dL_law_1230 rfl ?_
    refine ne_iconst X dL_law_1232 ?_
    refine ne_iadd X dL_law_1233 ?_
    refine ne_sld X hX hbl hbA hb0 (by decide) (by omega) dL_law_1234 (fun z1234 e1234 l1234 r1234 => ?_)
    refine ne_aload_n X dL_law_1235 rfl ?_
    refine ne_iload X dL_law_1236 rfl ?_
    refine ne_iconst X dL_law_1238 ?_
    refine ne_iadd X dL_law_1239 ?_
    refine ne_sld X hX hbl hbA hb0 (by decide) (by omega) dL_law_1240 (fun z1240 e1240 l1240 r1240 => ?_)
    refine ne_aload_n X dL_law_1241 rfl ?_
    refine ne_iload X dL_law_1242 rfl ?_
    refine ne_iconst X dL_law_1244 ?_
    refine ne_iadd X dL_law_1245 ?_
    refine ne_sld X hX hbl hbA hb0 (by decide) (by omega) dL_law_1246 (fun z1246 e1246 l1246 r1246 => ?_)
    refine ne_aload_n X dL_law_1247 rfl ?_
    refine ne_callSFW (is := [1, 2, 3, 4, 5, 6, 7, 8, 9, 10, 11, 12, 20, 21]) X nw_Tg (me_L_cut l hl c q t b k n h x y T hI (by omega) u s8 hs8 _ _ _ _ _ (by omega) (by omega) (by omega) (by omega) (by omega)) nw_yL_cut nw_mL_237 nw_sL_cut dL_law_1248 rfl rfl (by decide) (by decide) (by first | decide | omega) (by first | decide | omega) (Nat.le_of_ble_eq_true rfl) (hcw _ _ _ _ _ _ _ _ _ _ _ _ _ _ _ _ _) rfl rfl (Nat.le_of_ble_eq_true rfl) lw_pt1 ?_ ?_
    rotate_left
    · rintro E9 w9 h9; exact h9.elim
    rintro v1248 w1248 ⟨c1, q1, h1, u1, rfl, hI1, z1248, rfl, g1248⟩
    refine ne_ws lw_mg1 ?_
    refine ne_istore X dL_law_1251 (by decide) ?_
    refine ne_aload_n X dL_law_1253 rfl ?_
    refine ne_aload_n X dL_law_1254 rfl ?_
    refine ne_iload X dL_law_1255 rfl ?_
    refine ne_iconst X dL_law_1257 ?_
    refine ne_iadd X dL_law_1258 ?_
    refine ne_sld X hX hbl hbA hb0 (by decide) (by omega) dL_law_1259 (fun z1259 e1259 l1259 r1259 => ?_)
    have y1259 : z1214 = z1259 := e1214.trans e1259.symm
    subst y1259
    refine ne_aload_n X dL_law_1260 rfl ?_
    refine ne_iload X dL_law_1261 rfl ?_
    refine ne_iconst X dL_law_1263 ?_
    refine ne_iadd X dL_law_1264 ?_
    refine ne_sld X hX hbl hbA hb0 (by decide) (by omega) dL_law_1265 (fun z1265 e1265 l1265 r1265 => ?_)
    have y1265 : z1220 = z1265 := e1220.trans e1265.symm
    subst y1265
    refine ne_if_eq (tgt := 1273) X dL_law_1266 rfl (by omega) (fun b1266 => ?_) (fun b1266 => ?_)
    · exfalso; omega
    · refine ne_iconst X dL_law_1269 ?_
      refine ne_goto (tgt := 1274) X dL_law_1270 rfl ?_
      refine ne_aload_n X dL_law_1274 rfl ?_
      refine ne_iload X dL_law_1275 rfl ?_
      refine ne_iconst X dL_law_1277 ?_
      refine ne_iadd X dL_law_1278 ?_
      refine ne_sld X hX hbl hbA hb0 (by decide) (by omega) dL_law_1279 (fun z1279 e1279 l1279 r1279 => ?_)
      have y1279 : z1234 = z1279 := e1234.trans e1279.symm
      subst y1279
      refine ne_aload_n X dL_law_1280 rfl ?_
      refine ne_iload X dL_law_1281 rfl ?_
      refine ne_iconst X dL_law_1283 ?_
      refine ne_iadd X dL_law_1284 ?_
      refine ne_sld X hX hbl hbA hb0 (by decide) (by omega) dL_law_1285 (fun z1285 e1285 l1285 r1285 => ?_)
      have y1285 : z1240 = z1285 := e1240.trans e1285.symm
      subst y1285
      refine ne_aload_n X dL_law_1286 rfl ?_
      refine ne_iload X dL_law_1287 rfl ?_
      refine ne_iconst X dL_law_1289 ?_
      refine ne_iadd X dL_law_1290 ?_
      refine ne_sld X hX hbl hbA hb0 (by decide) (by omega) dL_law_1291 (fun z1291 e1291 l1291 r1291 => ?_)
      have y1291 : z1246 = z1291 := e1246.trans e1291.symm
      subst y1291
      refine ne_callVF (is := [13, 14, 15, 16, 17, 18, 19]) X nw_Tg (me_X3_cutW l hl c q t b k h mv9 T hM (by omega) _ _ _ _ _ (by omega) (by omega) (by omega) (by omega) (by omega)) nw_yX3_cut nw_mL_239 nw_iX3_cut nw_eX3_cut (ci := 5) rfl rfl rfl dL_law_1292 rfl rfl (by decide) (by decide) (by first | decide | omega) (by first | decide | omega) (Nat.le_of_ble_eq_true rfl) (hcw _ _ _ _ _ _ _ _ _ _ _ _ _ _ _ _ _) rfl rfl (Nat.le_of_ble_eq_true rfl) lw_pt2 ?_ ?_
      rotate_left
      · rintro E9 w9 h9; exact h9.elim
      rintro v1292 w1292 ⟨c2, q2, h2, mv91, z1292, rfl, hM1, rfl, g1292⟩
      refine ne_ws lw_mg2 ?_
      obtain ⟨hk, hu, e7, e8, e9⟩ := cn_cut hI.2.2.2.1 g1248 g1292
      subst e7 e8 e9
      refine ne_istore X dL_law_1295 (by decide) ?_
      refine ne_ll (L' := [some (.ref 0), some (.ref 1), some (.ref 13), some (.ref 20), some (ni _), some (ni _), some (ni _)]) rfl ?_
      refine ne_goto (tgt := 2324) X dL_law_1297 rfl ?_
      refine ne_lnone 5 (ne_lnone 6 ?_)
      refine ne_ll (L' := [some (.ref 0), some (.ref 1), some (.ref 13), some (.ref 20), some (ni i), none, none]) rfl ?_
      refine ne_less (C' := C - 500) (S' := S - 3500) (by omega) (by omega) ?_
      exact kk _ _ _ _ _ _ _ _ _ _ _ _ hI1 hM1 hP hs
set_option maxRecDepth 100000 in
set_option maxHeartbeats 4000000 in
theorem lc_20 (hl : l.stackTraces = false) (X : ne_F nw_cl D ct A p l room_1 s9 m args meth c9 RL cL_law 7 nw_T 20 1000 600128 7301098) (hX : va_X b9 N9 xs s9 s9.heap) (hbl : b9 < s9.heap.size) (hbA : ¬ A b9) (hb0 : ad0 0 = b9) (i T : Int) (hi : 0 ≤ i ∧ i + 6 ≤ N9 ∧ N9 ≤ 384) (hT : 0 ≤ T ∧ T ≤ 100) (c q t b k n h x y  : Nat → Int) (mv9 u : Int) (sv : Value) (hI : cI c q t b k n h x y T) (hM : mI c q t b k h mv9 T) (hP : ∀ j : Nat, ne_per (t j) (b j) (n j)) (hs : sv = .null ∨ sv = .ref 21) (C S : Nat) (hC : 500 ≤ C) (hS : 3500 ≤ S) (kk : ∀ (c q t b k n h x y  : Nat → Int) (mv9 u : Int) (sv : Value), cI c q t b k n h x y (T + 1) → mI c q t b k h mv9 (T + 1) → (∀ j : Nat, ne_per (t j) (b j) (n j)) → (sv = .null ∨ sv = .ref 21) → ne_G nw_cl D ct A 1 ad0 p l e room_1 s9 m args below meth c9 Q9 7 600128 7301098 (C - 500) (S - 3500) 2324 [some (.ref 0), some (.ref 1), some (.ref 13), some (.ref 20), some (ni i), none, none] [] (lW c q t b k n h x y c q t b k h mv9 (nl u) sv)) : ne_G nw_cl D ct A 1 ad0 p l e room_1 s9 m args below meth c9 Q9 7 600128 7301098 C S 1300 [some (.ref 0), some (.ref 1), some (.ref 13), some (.ref 20), some (ni i), none, none] [] (lW c q t b k n h x y c q t b k h mv9 (nl u) sv) := by
  obtain ⟨s8, hs8, rfl⟩ : ∃ s8 : Value, (s8 = .null ∨ s8 = .ref 13) ∧ sv = ne_rn [1, 2, 3, 4, 5, 6, 7, 8, 9, 10, 11, 12, 20, 21] 22 s8 := by
    rcases hs with rfl | rfl
    · exact ⟨.null, Or.inl rfl, rfl⟩
    · exact ⟨.ref 13, Or.inr rfl, rfl⟩
  have hcw : ∀ (c q t b k n h x y mc9 mq9 mt9 mb9 mk9 mh9 : Nat → Int) (mv9 u : Int), ne_cw 22 (lW c q t b k n h x y mc9 mq9 mt9 mb9 mk9 mh9 mv9 (nl u) (ne_rn [1, 2, 3, 4, 5, 6, 7, 8, 9, 10, 11, 12, 20, 21] 22 s8)) = true := by
    intros
    rcases hs8 with rfl | rfl <;> rfl
  refine ne_aload_n X dL_law_1300 rfl ?_
  refine ne_aload_n X dL_law_1301 rfl ?_
  refine ne_iload X dL_law_1302 rfl ?_
  refine ne_iconst X dL_law_1304 ?_
  refine ne_iadd X dL_law_1305 ?_
  refine ne_sld X hX hbl hbA hb0 (by decide) (by omega) dL_law_1306 (fun z1306 e1306 l1306 r1306 => ?_)
  refine ne_aload_n X dL_law_1307 rfl ?_
  refine ne_callSFW (is := [1, 2, 3, 4, 5, 6, 7, 8, 9, 10, 11, 12, 20, 21]) X nw_Tg (me_L_count l hl c q t b k n h x y T hI (by omega) u s8 hs8 _ (by omega)) nw_yL_count nw_mL_240 nw_sL_count dL_law_1308 rfl rfl (by decide) (by decide) (by first | decide | omega) (by first | decide | omega) (Nat.le_of_ble_eq_true rfl) (hcw _ _ _ _ _ _ _ _ _ _ _ _ _ _ _ _ _) rfl rfl (Nat.le_of_ble_eq_true rfl) lw_pt1 ?_ ?_
  rotate_left
  · rintro E9 w9 h9; exact h9.elim
  rintro v1308 w1308 ⟨x1, y1, u1, rfl, hI1, z1308, rfl⟩
  refine ne_ws lw_mg1 ?_
  refine ne_istore X dL_law_1311 (by decide) ?_
  refine ne_aload_n X dL_law_1313 rfl ?_
  refine ne_aload_n X dL_law_1314 rfl ?_
  refine ne_iload X dL_law_1315 rfl ?_
  refine ne_iconst X dL_law_1317 ?_
  refine ne_iadd X dL_law_1318 ?_
  refine ne_sld X hX hbl hbA hb0 (by decide) (by omega) dL_law_1319 (fun z1319 e1319 l1319 r1319 => ?_)
  have y1319 : z1306 = z1319 := e1306.trans e1319.symm
  subst y1319
  refine ne_callVF (is := [13, 14, 15, 16, 17, 18, 19]) X nw_Tg (me_X3_count l hl c q t b k h mv9 T hM (by omega) _ (by omega)) nw_yX3_count nw_mL_242 nw_iX3_count nw_eX3_count (ci := 5) rfl rfl rfl dL_law_1320 rfl rfl (by decide) (by decide) (by first | decide | omega) (by first | decide | omega) (Nat.le_of_ble_eq_true rfl) (hcw _ _ _ _ _ _ _ _ _ _ _ _ _ _ _ _ _) rfl rfl (Nat.le_of_ble_eq_true rfl) lw_pt2 ?_ ?_
  rotate_left
  · rintro E9 w9 h9; exact h9.elim
  rintro v1320 w1320 ⟨⟨mv91, rfl, hM1⟩, z1320, rfl, g1320⟩
  refine ne_ws lw_mg2 ?_
  refine ne_istore X dL_law_1323 (by decide) ?_
  refine ne_ll (L' := [some (.ref 0), some (.ref 1), some (.ref 13), some (.ref 20), some (ni _), some (ni _), some (ni _)]) rfl ?_
  refine ne_goto (tgt := 2324) X dL_law_1325 rfl ?_
  refine ne_lnone 5 (ne_lnone 6 ?_)
  refine ne_ll (L' := [some (.ref 0), some (.ref 1), some (.ref 13), some (.ref 20), some (ni i), none, none]) rfl ?_
  refine ne_less (C' := C - 500) (S' := S - 3500) (by omega) (by omega) ?_
  exact kk _ _ _ _ _ _ _ _ _ _ _ _ hI1 hM1 hP hs
set_option maxRecDepth 100000 in
set_option maxHeartbeats 4000000 in
theorem lc_21 (hl : l.stackTraces = false) (X : ne_F nw_cl D ct A p l room_1 s9 m args meth c9 RL cL_law 7 nw_T 20 1000 600128 7301098) (hX : va_X b9 N9 xs s9 s9.heap) (hbl : b9 < s9.heap.size) (hbA : ¬ A b9) (hb0 : ad0 0 = b9) (i T : Int) (hi : 0 ≤ i ∧ i + 6 ≤ N9 ∧ N9 ≤ 384) (hT : 0 ≤ T ∧ T ≤ 100) (c q t b k n h x y  : Nat → Int) (mv9 u : Int) (sv : Value) (hI : cI c q t b k n h x y T) (hM : mI c q t b k h mv9 T) (hP : ∀ j : Nat, ne_per (t j) (b j) (n j)) (hs : sv = .null ∨ sv = .ref 21) (C S : Nat) (hC : 500 ≤ C) (hS : 3500 ≤ S) (kk : ∀ (c q t b k n h x y  : Nat → Int) (mv9 u : Int) (sv : Value), cI c q t b k n h x y (T + 1) → mI c q t b k h mv9 (T + 1) → (∀ j : Nat, ne_per (t j) (b j) (n j)) → (sv = .null ∨ sv = .ref 21) → ne_G nw_cl D ct A 1 ad0 p l e room_1 s9 m args below meth c9 Q9 7 600128 7301098 (C - 500) (S - 3500) 2324 [some (.ref 0), some (.ref 1), some (.ref 13), some (.ref 20), some (ni i), none, none] [] (lW c q t b k n h x y c q t b k h mv9 (nl u) sv)) : ne_G nw_cl D ct A 1 ad0 p l e room_1 s9 m args below meth c9 Q9 7 600128 7301098 C S 1328 [some (.ref 0), some (.ref 1), some (.ref 13), some (.ref 20), some (ni i), none, none] [] (lW c q t b k n h x y c q t b k h mv9 (nl u) sv) := by
  obtain ⟨s8, hs8, rfl⟩ : ∃ s8 : Value, (s8 = .null ∨ s8 = .ref 13) ∧ sv = ne_rn [1, 2, 3, 4, 5, 6, 7, 8, 9, 10, 11, 12, 20, 21] 22 s8 := by
    rcases hs with rfl | rfl
    · exact ⟨.null, Or.inl rfl, rfl⟩
    · exact ⟨.ref 13, Or.inr rfl, rfl⟩
  have hcw : ∀ (c q t b k n h x y mc9 mq9 mt9 mb9 mk9 mh9 : Nat → Int) (mv9 u : Int), ne_cw 22 (lW c q t b k n h x y mc9 mq9 mt9 mb9 mk9 mh9 mv9 (nl u) (ne_rn [1, 2, 3, 4, 5, 6, 7, 8, 9, 10, 11, 12, 20, 21] 22 s8)) = true := by
    intros
    rcases hs8 with rfl | rfl <;> rfl
  refine ne_aload_n X dL_law_1328 rfl ?_
  refine ne_aload_n X dL_law_1329 rfl ?_
  refine ne_iload X dL_law_1330 rfl ?_
  refine ne_iconst X dL_law_1332 ?_
  refine ne_iadd X dL_law_1333 ?_
  refine ne_sld X hX hbl hbA hb0 (by decide) (by omega) dL_law_1334 (fun z1334 e1334 l1334 r1334 => ?_)
  refine ne_aload_n X dL_law_1335 rfl ?_
  refine ne_callSFW (is := [1, 2, 3, 4, 5, 6, 7, 8, 9, 10, 11, 12, 20, 21]) X nw_Tg (me_L_places l hl c q t b k n h x y T hI (by omega) u s8 hs8 _ (by omega)) nw_yL_places nw_mL_243 nw_sL_places dL_law_1336 rfl rfl (by decide) (by decide) (by first | decide | omega) (by first | decide | omega) (Nat.le_of_ble_eq_true rfl) (hcw _ _ _ _ _ _ _ _ _ _ _ _ _ _ _ _ _) rfl rfl (Nat.le_of_ble_eq_true rfl) lw_pt1 ?_ ?_
  rotate_left
  · rintro E9 w9 h9; exact h9.elim
  rintro v1336 w1336 ⟨x1, y1, u1, rfl, hI1, z1336, rfl⟩
  refine ne_ws lw_mg1 ?_
  refine ne_istore X dL_law_1339 (by decide) ?_
  refine ne_aload_n X dL_law_1341 rfl ?_
  refine ne_aload_n X dL_law_1342 rfl ?_
  refine ne_iload X dL_law_1343 rfl ?_
  refine ne_iconst X dL_law_1345 ?_
  refine ne_iadd X dL_law_1346 ?_
  refine ne_sld X hX hbl hbA hb0 (by decide) (by omega) dL_law_1347 (fun z1347 e1347 l1347 r1347 => ?_)
  have y1347 : z1334 = z1347 := e1334.trans e1347.symm
  subst y1347
  refine ne_callVF (is := [13, 14, 15, 16, 17, 18, 19]) X nw_Tg (me_X3_places l hl c q t b k h mv9 T hM (by omega) _ (by omega)) nw_yX3_places nw_mL_245 nw_iX3_places nw_eX3_places (ci := 5) rfl rfl rfl dL_law_1348 rfl rfl (by decide) (by decide) (by first | decide | omega) (by first | decide | omega) (Nat.le_of_ble_eq_true rfl) (hcw _ _ _ _ _ _ _ _ _ _ _ _ _ _ _ _ _) rfl rfl (Nat.le_of_ble_eq_true rfl) lw_pt2 ?_ ?_
  rotate_left
  · rintro E9 w9 h9; exact h9.elim
  rintro v1348 w1348 ⟨⟨mv91, rfl, hM1⟩, z1348, rfl, g1348⟩
  refine ne_ws lw_mg2 ?_
  refine ne_istore X dL_law_1351 (by decide) ?_
  refine ne_ll (L' := [some (.ref 0), some (.ref 1), some (.ref 13), some (.ref 20), some (ni _), some (ni _), some (ni _)]) rfl ?_
  refine ne_goto (tgt := 2324) X dL_law_1353 rfl ?_
  refine ne_lnone 5 (ne_lnone 6 ?_)
  refine ne_ll (L' := [some (.ref 0), some (.ref 1), some (.ref 13), some (.ref 20), some (ni i), none, none]) rfl ?_
  refine ne_less (C' := C - 500) (S' := S - 3500) (by omega) (by omega) ?_
  exact kk _ _ _ _ _ _ _ _ _ _ _ _ hI1 hM1 hP hs
set_option maxRecDepth 100000 in
set_option maxHeartbeats 4000000 in
theorem lc_22 (hl : l.stackTraces = false) (X : ne_F nw_cl D ct A p l room_1 s9 m args meth c9 RL cL_law 7 nw_T 20 1000 600128 7301098) (hX : va_X b9 N9 xs s9 s9.heap) (hbl : b9 < s9.heap.size) (hbA : ¬ A b9) (hb0 : ad0 0 = b9) (i T : Int) (hi : 0 ≤ i ∧ i + 6 ≤ N9 ∧ N9 ≤ 384) (hT : 0 ≤ T ∧ T ≤ 100) (c q t b k n h x y  : Nat → Int) (mv9 u : Int) (sv : Value) (hI : cI c q t b k n h x y T) (hM : mI c q t b k h mv9 T) (hP : ∀ j : Nat, ne_per (t j) (b j) (n j)) (hs : sv = .null ∨ sv = .ref 21) (C S : Nat) (hC : 500 ≤ C) (hS : 3500 ≤ S) (kk : ∀ (c q t b k n h x y  : Nat → Int) (mv9 u : Int) (sv : Value), cI c q t b k n h x y (T + 1) → mI c q t b k h mv9 (T + 1) → (∀ j : Nat, ne_per (t j) (b j) (n j)) → (sv = .null ∨ sv = .ref 21) → ne_G nw_cl D ct A 1 ad0 p l e room_1 s9 m args below meth c9 Q9 7 600128 7301098 (C - 500) (S - 3500) 2324 [some (.ref 0), some (.ref 1), some (.ref 13), some (.ref 20), some (ni i), none, none] [] (lW c q t b k n h x y c q t b k h mv9 (nl u) sv)) : ne_G nw_cl D ct A 1 ad0 p l e room_1 s9 m args below meth c9 Q9 7 600128 7301098 C S 1356 [some (.ref 0), some (.ref 1), some (.ref 13), some (.ref 20), some (ni i), none, none] [] (lW c q t b k n h x y c q t b k h mv9 (nl u) sv) := by
  obtain ⟨s8, hs8, rfl⟩ : ∃ s8 : Value, (s8 = .null ∨ s8 = .ref 13) ∧ sv = ne_rn [1, 2, 3, 4, 5, 6, 7, 8, 9, 10, 11, 12, 20, 21] 22 s8 := by
    rcases hs with rfl | rfl
    · exact ⟨.null, Or.inl rfl, rfl⟩
    · exact ⟨.ref 13, Or.inr rfl, rfl⟩
  have hcw : ∀ (c q t b k n h x y mc9 mq9 mt9 mb9 mk9 mh9 : Nat → Int) (mv9 u : Int), ne_cw 22 (lW c q t b k n h x y mc9 mq9 mt9 mb9 mk9 mh9 mv9 (nl u) (ne_rn [1, 2, 3, 4, 5, 6, 7, 8, 9, 10, 11, 12, 20, 21] 22 s8)) = true := by
    intros
    rcases hs8 with rfl | rfl <;> rfl
  refine ne_aload_n X dL_law_1356 rfl ?_
  refine ne_aload_n X dL_law_1357 rfl ?_
  refine ne_iload X dL_law_1358 rfl ?_
  refine ne_iconst X dL_law_1360 ?_
  refine ne_iadd X dL_law_1361 ?_
  refine ne_sld X hX hbl hbA hb0 (by decide) (by omega) dL_law_1362 (fun z1362 e1362 l1362 r1362 => ?_)
  refine ne_aload_n X dL_law_1363 rfl ?_
  refine ne_callSFW (is := [1, 2, 3, 4, 5, 6, 7, 8, 9, 10, 11, 12, 20, 21]) X nw_Tg (me_L_digits l hl c q t b k n h x y T hI (by omega) u s8 hs8 _ (by omega)) nw_yL_digits nw_mL_246 nw_sL_digits dL_law_1364 rfl rfl (by decide) (by decide) (by first | decide | omega) (by first | decide | omega) (Nat.le_of_ble_eq_true rfl) (hcw _ _ _ _ _ _ _ _ _ _ _ _ _ _ _ _ _) rfl rfl (Nat.le_of_ble_eq_true rfl) lw_pt1 ?_ ?_
  rotate_left
  · rintro E9 w9 h9; exact h9.elim
  rintro v1364 w1364 ⟨x1, y1, u1, rfl, hI1, z1364, rfl⟩
  refine ne_ws lw_mg1 ?_
  refine ne_istore X dL_law_1367 (by decide) ?_
  refine ne_aload_n X dL_law_1369 rfl ?_
  refine ne_aload_n X dL_law_1370 rfl ?_
  refine ne_iload X dL_law_1371 rfl ?_
  refine ne_iconst X dL_law_1373 ?_
  refine ne_iadd X dL_law_1374 ?_
  refine ne_sld X hX hbl hbA hb0 (by decide) (by omega) dL_law_1375 (fun z1375 e1375 l1375 r1375 => ?_)
  have y1375 : z1362 = z1375 := e1362.trans e1375.symm
  subst y1375
  refine ne_callVF (is := [13, 14, 15, 16, 17, 18, 19]) X nw_Tg (me_X3_digits l hl c q t b k h mv9 T hM (by omega) _ (by omega)) nw_yX3_digits nw_mL_248 nw_iX3_digits nw_eX3_digits (ci := 5) rfl rfl rfl dL_law_1376 rfl rfl (by decide) (by decide) (by first | decide | omega) (by first | decide | omega) (Nat.le_of_ble_eq_true rfl) (hcw _ _ _ _ _ _ _ _ _ _ _ _ _ _ _ _ _) rfl rfl (Nat.le_of_ble_eq_true rfl) lw_pt2 ?_ ?_
  rotate_left
  · rintro E9 w9 h9; exact h9.elim
  rintro v1376 w1376 ⟨⟨mv91, rfl, hM1⟩, z1376, rfl, g1376⟩
  refine ne_ws lw_mg2 ?_
  refine ne_istore X dL_law_1379 (by decide) ?_
  refine ne_ll (L' := [some (.ref 0), some (.ref 1), some (.ref 13), some (.ref 20), some (ni _), some (ni _), some (ni _)]) rfl ?_
  refine ne_goto (tgt := 2324) X dL_law_1381 rfl ?_
  refine ne_lnone 5 (ne_lnone 6 ?_)
  refine ne_ll (L' := [some (.ref 0), some (.ref 1), some (.ref 13), some (.ref 20), some (ni i), none, none]) rfl ?_
  refine ne_less (C' := C - 500) (S' := S - 3500) (by omega) (by omega) ?_
  exact kk _ _ _ _ _ _ _ _ _ _ _ _ hI1 hM1 hP hs
set_option maxRecDepth 100000 in
set_option maxHeartbeats 4000000 in
theorem lc_23 (hl : l.stackTraces = false) (X : ne_F nw_cl D ct A p l room_1 s9 m args meth c9 RL cL_law 7 nw_T 20 1000 600128 7301098) (hX : va_X b9 N9 xs s9 s9.heap) (hbl : b9 < s9.heap.size) (hbA : ¬ A b9) (hb0 : ad0 0 = b9) (i T : Int) (hi : 0 ≤ i ∧ i + 6 ≤ N9 ∧ N9 ≤ 384) (hT : 0 ≤ T ∧ T ≤ 100) (c q t b k n h x y  : Nat → Int) (mv9 u : Int) (sv : Value) (hI : cI c q t b k n h x y T) (hM : mI c q t b k h mv9 T) (hP : ∀ j : Nat, ne_per (t j) (b j) (n j)) (hs : sv = .null ∨ sv = .ref 21) (C S : Nat) (hC : 500 ≤ C) (hS : 3500 ≤ S) (kk : ∀ (c q t b k n h x y  : Nat → Int) (mv9 u : Int) (sv : Value), cI c q t b k n h x y (T + 1) → mI c q t b k h mv9 (T + 1) → (∀ j : Nat, ne_per (t j) (b j) (n j)) → (sv = .null ∨ sv = .ref 21) → ne_G nw_cl D ct A 1 ad0 p l e room_1 s9 m args below meth c9 Q9 7 600128 7301098 (C - 500) (S - 3500) 2324 [some (.ref 0), some (.ref 1), some (.ref 13), some (.ref 20), some (ni i), none, none] [] (lW c q t b k n h x y c q t b k h mv9 (nl u) sv)) : ne_G nw_cl D ct A 1 ad0 p l e room_1 s9 m args below meth c9 Q9 7 600128 7301098 C S 1384 [some (.ref 0), some (.ref 1), some (.ref 13), some (.ref 20), some (ni i), none, none] [] (lW c q t b k n h x y c q t b k h mv9 (nl u) sv) := by
  obtain ⟨s8, hs8, rfl⟩ : ∃ s8 : Value, (s8 = .null ∨ s8 = .ref 13) ∧ sv = ne_rn [1, 2, 3, 4, 5, 6, 7, 8, 9, 10, 11, 12, 20, 21] 22 s8 := by
    rcases hs with rfl | rfl
    · exact ⟨.null, Or.inl rfl, rfl⟩
    · exact ⟨.ref 13, Or.inr rfl, rfl⟩
  have hcw : ∀ (c q t b k n h x y mc9 mq9 mt9 mb9 mk9 mh9 : Nat → Int) (mv9 u : Int), ne_cw 22 (lW c q t b k n h x y mc9 mq9 mt9 mb9 mk9 mh9 mv9 (nl u) (ne_rn [1, 2, 3, 4, 5, 6, 7, 8, 9, 10, 11, 12, 20, 21] 22 s8)) = true := by
    intros
    rcases hs8 with rfl | rfl <;> rfl
  refine ne_aload_n X dL_law_1384 rfl ?_
  refine ne_aload_n X dL_law_1385 rfl ?_
  refine ne_iload X dL_law_1386 rfl ?_
  refine ne_iconst X dL_law_1388 ?_
  refine ne_iadd X dL_law_1389 ?_
  refine ne_sld X hX hbl hbA hb0 (by decide) (by omega) dL_law_1390 (fun z1390 e1390 l1390 r1390 => ?_)
  refine ne_aload_n X dL_law_1391 rfl ?_
  refine ne_callSFW (is := [1, 2, 3, 4, 5, 6, 7, 8, 9, 10, 11, 12, 20, 21]) X nw_Tg (me_L_sign l hl c q t b k n h x y T hI (by omega) u s8 hs8 _ (by omega)) nw_yL_sign nw_mL_249 nw_sL_sign dL_law_1392 rfl rfl (by decide) (by decide) (by first | decide | omega) (by first | decide | omega) (Nat.le_of_ble_eq_true rfl) (hcw _ _ _ _ _ _ _ _ _ _ _ _ _ _ _ _ _) rfl rfl (Nat.le_of_ble_eq_true rfl) lw_pt1 ?_ ?_
  rotate_left
  · rintro E9 w9 h9; exact h9.elim
  rintro v1392 w1392 ⟨x1, y1, u1, rfl, hI1, z1392, rfl⟩
  refine ne_ws lw_mg1 ?_
  refine ne_istore X dL_law_1395 (by decide) ?_
  refine ne_aload_n X dL_law_1397 rfl ?_
  refine ne_aload_n X dL_law_1398 rfl ?_
  refine ne_iload X dL_law_1399 rfl ?_
  refine ne_iconst X dL_law_1401 ?_
  refine ne_iadd X dL_law_1402 ?_
  refine ne_sld X hX hbl hbA hb0 (by decide) (by omega) dL_law_1403 (fun z1403 e1403 l1403 r1403 => ?_)
  have y1403 : z1390 = z1403 := e1390.trans e1403.symm
  subst y1403
  refine ne_callVF (is := [13, 14, 15, 16, 17, 18, 19]) X nw_Tg (me_X3_sign l hl c q t b k h mv9 T hM (by omega) _ (by omega)) nw_yX3_sign nw_mL_251 nw_iX3_sign nw_eX3_sign (ci := 5) rfl rfl rfl dL_law_1404 rfl rfl (by decide) (by decide) (by first | decide | omega) (by first | decide | omega) (Nat.le_of_ble_eq_true rfl) (hcw _ _ _ _ _ _ _ _ _ _ _ _ _ _ _ _ _) rfl rfl (Nat.le_of_ble_eq_true rfl) lw_pt2 ?_ ?_
  rotate_left
  · rintro E9 w9 h9; exact h9.elim
  rintro v1404 w1404 ⟨⟨mv91, rfl, hM1⟩, z1404, rfl, g1404⟩
  refine ne_ws lw_mg2 ?_
  refine ne_istore X dL_law_1407 (by decide) ?_
  refine ne_ll (L' := [some (.ref 0), some (.ref 1), some (.ref 13), some (.ref 20), some (ni _), some (ni _), some (ni _)]) rfl ?_
  refine ne_goto (tgt := 2324) X dL_law_1409 rfl ?_
  refine ne_lnone 5 (ne_lnone 6 ?_)
  refine ne_ll (L' := [some (.ref 0), some (.ref 1), some (.ref 13), some (.ref 20), some (ni i), none, none]) rfl ?_
  refine ne_less (C' := C - 500) (S' := S - 3500) (by omega) (by omega) ?_
  exact kk _ _ _ _ _ _ _ _ _ _ _ _ hI1 hM1 hP hs
end LAWS
