section LAWS
variable {D : va_G} {ct : Nat → ClassId} {A : Nat → Prop} {p : Program} {l : Launch} {e : Env} {s9 : State} {m : MethodId} {args : Array Value} {below : List Frame} {meth : Method} {c9 : Code} {Q9 : State → Prop} {b9 N9 : Nat} {xs : Nat → Int32} {ad0 : Nat → Nat}
set_option maxRecDepth 100000 in
set_option maxHeartbeats 4000000 in
theorem lc_36 (hl : l.stackTraces = false) (X : ne_F nw_cl D ct A p l room_1 s9 m args meth c9 RL cL_law 7 nw_T 20 1000 888398 6436287) (hX : va_X b9 N9 xs s9 s9.heap) (hbl : b9 < s9.heap.size) (hbA : ¬ A b9) (hb0 : ad0 0 = b9) (i T : Int) (hi : 0 ≤ i ∧ i + 6 ≤ N9 ∧ N9 ≤ 384) (hT : 0 ≤ T ∧ T ≤ 100) (c q t b k n h x y  : Nat → Int) (mv9 u : Int) (sv : Value) (hI : cI c q t b k n h x y T) (hM : mI c q t b k h mv9 T) (hP : ∀ j : Nat, ne_per (t j) (b j) (n j)) (hs : sv = .null ∨ sv = .ref 21) (C S : Nat) (hC : 500 ≤ C) (hS : 3500 ≤ S) (kk : ∀ (c q t b k n h x y  : Nat → Int) (mv9 u : Int) (sv : Value), cI c q t b k n h x y (T + 1) → mI c q t b k h mv9 (T + 1) → (∀ j : Nat, ne_per (t j) (b j) (n j)) → (sv = .null ∨ sv = .ref 21) → ne_G nw_cl D ct A 1 ad0 p l e room_1 s9 m args below meth c9 Q9 7 888398 6436287 (C - 500) (S - 3500) 2331 [some (.ref 0), some (.ref 1), some (.ref 13), some (.ref 20), some (ni i), none, none] [] (lW c q t b k n h x y c q t b k h mv9 (nl u) sv)) : ne_G nw_cl D ct A 1 ad0 p l e room_1 s9 m args below meth c9 Q9 7 888398 6436287 C S 1928 [some (.ref 0), some (.ref 1), some (.ref 13), some (.ref 20), some (ni i), none, none] [] (lW c q t b k n h x y c q t b k h mv9 (nl u) sv) := by
  rcases hs with rfl | rfl
  · refine ne_aload_n X dL_law_1928 rfl ?_
    refine ne_aload_n X dL_law_1929 rfl ?_
    refine ne_iload X dL_law_1930 rfl ?_
    refine ne_iconst X dL_law_1932 ?_
    refine ne_iadd X dL_law_1933 ?_
    refine ne_sld X hX hbl hbA hb0 (by decide) (by omega) dL_law_1934 (fun z1934 e1934 l1934 r1934 => ?_)
    refine ne_aload_n X dL_law_1935 rfl ?_
    refine ne_iload X dL_law_1936 rfl ?_
    refine ne_iconst X dL_law_1938 ?_
    refine ne_iadd X dL_law_1939 ?_
    refine ne_sld X hX hbl hbA hb0 (by decide) (by omega) dL_law_1940 (fun z1940 e1940 l1940 r1940 => ?_)
    refine ne_if_eq (tgt := 1948) X dL_law_1941 rfl (by omega) (fun b1941 => ?_) (fun b1941 => ?_)
    · refine ne_iconst X dL_law_1948 ?_
      refine ne_aload_n X dL_law_1949 rfl ?_
      refine ne_iload X dL_law_1950 rfl ?_
      refine ne_iconst X dL_law_1952 ?_
      refine ne_iadd X dL_law_1953 ?_
      refine ne_sld X hX hbl hbA hb0 (by decide) (by omega) dL_law_1954 (fun z1954 e1954 l1954 r1954 => ?_)
      refine ne_aload_n X dL_law_1955 rfl ?_
      refine ne_iload X dL_law_1956 rfl ?_
      refine ne_iconst X dL_law_1958 ?_
      refine ne_iadd X dL_law_1959 ?_
      refine ne_sld X hX hbl hbA hb0 (by decide) (by omega) dL_law_1960 (fun z1960 e1960 l1960 r1960 => ?_)
      refine ne_aload_n X dL_law_1961 rfl ?_
      refine ne_callSFW (is := [1, 2, 3, 4, 5, 6, 7, 8, 9, 10, 11, 12, 20, 21]) X nw_Tg (me_L_cutText l hl c q t b k n h x y T hI (by omega) u .null (Or.inl rfl) _ _ _ _ (by omega) (by omega) (by omega) (by omega)) nw_yL_cutText nw_mL_292 nw_sL_cutText dL_law_1962 rfl rfl (by decide) (by decide) (by first | decide | omega) (by first | decide | omega) (Nat.le_of_ble_eq_true rfl) rfl rfl rfl (Nat.le_of_ble_eq_true rfl) (lw_pt1 (s := .null)) ?_ ?_
      rotate_left
      · rintro E9 w9 h9; exact h9.elim
      rintro v1962 w1962 ⟨x1, y1, u1, s1, rfl, hI1, hs1, z1962, rfl⟩
      rcases hs1 with rfl | rfl
      · refine ne_take 22 ?_
        refine ne_ws lw_tkN ?_
        refine ne_istore X dL_law_1965 (by decide) ?_
        refine ne_aload_n X dL_law_1967 rfl ?_
        refine ne_aload_n X dL_law_1968 rfl ?_
        refine ne_iload X dL_law_1969 rfl ?_
        refine ne_iconst X dL_law_1971 ?_
        refine ne_iadd X dL_law_1972 ?_
        refine ne_sld X hX hbl hbA hb0 (by decide) (by omega) dL_law_1973 (fun z1973 e1973 l1973 r1973 => ?_)
        have y1973 : z1934 = z1973 := e1934.trans e1973.symm
        subst y1973
        refine ne_aload_n X dL_law_1974 rfl ?_
        refine ne_iload X dL_law_1975 rfl ?_
        refine ne_iconst X dL_law_1977 ?_
        refine ne_iadd X dL_law_1978 ?_
        refine ne_sld X hX hbl hbA hb0 (by decide) (by omega) dL_law_1979 (fun z1979 e1979 l1979 r1979 => ?_)
        have y1979 : z1940 = z1979 := e1940.trans e1979.symm
        subst y1979
        refine ne_if_eq (tgt := 1987) X dL_law_1980 rfl (by omega) (fun b1980 => ?_) (fun b1980 => ?_)
        · refine ne_iconst X dL_law_1987 ?_
          refine ne_aload_n X dL_law_1988 rfl ?_
          refine ne_iload X dL_law_1989 rfl ?_
          refine ne_iconst X dL_law_1991 ?_
          refine ne_iadd X dL_law_1992 ?_
          refine ne_sld X hX hbl hbA hb0 (by decide) (by omega) dL_law_1993 (fun z1993 e1993 l1993 r1993 => ?_)
          have y1993 : z1954 = z1993 := e1954.trans e1993.symm
          subst y1993
          refine ne_aload_n X dL_law_1994 rfl ?_
          refine ne_iload X dL_law_1995 rfl ?_
          refine ne_iconst X dL_law_1997 ?_
          refine ne_iadd X dL_law_1998 ?_
          refine ne_sld X hX hbl hbA hb0 (by decide) (by omega) dL_law_1999 (fun z1999 e1999 l1999 r1999 => ?_)
          have y1999 : z1960 = z1999 := e1960.trans e1999.symm
          subst y1999
          refine ne_callVF (is := [13, 14, 15, 16, 17, 18, 19]) X nw_Tg (me_X3_cutText l hl c q t b k h mv9 T hM (by omega) _ _ _ _ (by omega) (by omega) (by omega) (by omega)) nw_yX3_cutText nw_mL_295 nw_iX3_cutText nw_eX3_cutText (ci := 5) rfl rfl rfl dL_law_2000 rfl rfl (by decide) (by decide) (by first | decide | omega) (by first | decide | omega) (Nat.le_of_ble_eq_true rfl) rfl rfl rfl (Nat.le_of_ble_eq_true rfl) lw_pt2 ?_ ?_
          rotate_left
          · rintro E9 w9 h9; exact h9.elim
          rintro v2000 w2000 ⟨⟨mv91, rfl, hM1⟩, rfl⟩
          refine ne_ws lw_mg4 ?_
          refine ne_astore X dL_law_2003 (by decide) ?_
          refine ne_ll (L' := [some (.ref 0), some (.ref 1), some (.ref 13), some (.ref 20), some (ni _), some (ni _), some (.ref 22)]) rfl ?_
          refine ne_goto (tgt := 2331) X dL_law_2005 rfl ?_
          refine ne_lnone 5 (ne_lnone 6 ?_)
          refine ne_ll (L' := [some (.ref 0), some (.ref 1), some (.ref 13), some (.ref 20), some (ni i), none, none]) rfl ?_
          refine ne_take 22 ?_
          refine ne_ws lw_tk2 ?_
          refine ne_less (C' := C - 500) (S' := S - 3500) (by omega) (by omega) ?_
          exact kk _ _ _ _ _ _ _ _ _ _ _ _ hI1 hM1 hP (Or.inl rfl)
        · refine ne_iconst X dL_law_1983 ?_
          refine ne_goto (tgt := 1988) X dL_law_1984 rfl ?_
          refine ne_aload_n X dL_law_1988 rfl ?_
          refine ne_iload X dL_law_1989 rfl ?_
          refine ne_iconst X dL_law_1991 ?_
          refine ne_iadd X dL_law_1992 ?_
          refine ne_sld X hX hbl hbA hb0 (by decide) (by omega) dL_law_1993 (fun z1993 e1993 l1993 r1993 => ?_)
          have y1993 : z1954 = z1993 := e1954.trans e1993.symm
          subst y1993
          refine ne_aload_n X dL_law_1994 rfl ?_
          refine ne_iload X dL_law_1995 rfl ?_
          refine ne_iconst X dL_law_1997 ?_
          refine ne_iadd X dL_law_1998 ?_
          refine ne_sld X hX hbl hbA hb0 (by decide) (by omega) dL_law_1999 (fun z1999 e1999 l1999 r1999 => ?_)
          have y1999 : z1960 = z1999 := e1960.trans e1999.symm
          subst y1999
          refine ne_callVF (is := [13, 14, 15, 16, 17, 18, 19]) X nw_Tg (me_X3_cutText l hl c q t b k h mv9 T hM (by omega) _ _ _ _ (by omega) (by omega) (by omega) (by omega)) nw_yX3_cutText nw_mL_295 nw_iX3_cutText nw_eX3_cutText (ci := 5) rfl rfl rfl dL_law_2000 rfl rfl (by decide) (by decide) (by first | decide | omega) (by first | decide | omega) (Nat.le_of_ble_eq_true rfl) rfl rfl rfl (Nat.le_of_ble_eq_true rfl) lw_pt2 ?_ ?_
          rotate_left
          · rintro E9 w9 h9; exact h9.elim
          rintro v2000 w2000 ⟨⟨mv91, rfl, hM1⟩, rfl⟩
          refine ne_ws lw_mg4 ?_
          refine ne_astore X dL_law_2003 (by decide) ?_
          refine ne_ll (L' := [some (.ref 0), some (.ref 1), some (.ref 13), some (.ref 20), some (ni _), some (ni _), some (.ref 22)]) rfl ?_
          refine ne_goto (tgt := 2331) X dL_law_2005 rfl ?_
          refine ne_lnone 5 (ne_lnone 6 ?_)
          refine ne_ll (L' := [some (.ref 0), some (.ref 1), some (.ref 13), some (.ref 20), some (ni i), none, none]) rfl ?_
          refine ne_take 22 ?_
          refine ne_ws lw_tk2 ?_
          refine ne_less (C' := C - 500) (S' := S - 3500) (by omega) (by omega) ?_
          exact kk _ _ _ _ _ _ _ _ _ _ _ _ hI1 hM1 hP (Or.inl rfl)
      · refine ne_viewb [0, 1, 2, 3, 4, 5, 6, 7, 8, 9, 10, 11, 12, 13, 14, 15, 16, 17, 18, 19, 20, 22] (ws' := lW c q t b k n h x1 y1 c q t b k h mv9 (nl u1) (.ref 21)) (L' := [some (.ref 0), some (.ref 1), some (.ref 13), some (.ref 20), some (ni i), none, none]) (st' := [ni z1962]) lw_vw (by decide) lw_vl rfl rfl rfl ?_
        refine ne_istore X dL_law_1965 (by decide) ?_
        refine ne_aload_n X dL_law_1967 rfl ?_
        refine ne_aload_n X dL_law_1968 rfl ?_
        refine ne_iload X dL_law_1969 rfl ?_
        refine ne_iconst X dL_law_1971 ?_
        refine ne_iadd X dL_law_1972 ?_
        refine ne_sld X hX hbl hbA hb0 (by decide) (by omega) dL_law_1973 (fun z1973 e1973 l1973 r1973 => ?_)
        have y1973 : z1934 = z1973 := e1934.trans e1973.symm
        subst y1973
        refine ne_aload_n X dL_law_1974 rfl ?_
        refine ne_iload X dL_law_1975 rfl ?_
        refine ne_iconst X dL_law_1977 ?_
        refine ne_iadd X dL_law_1978 ?_
        refine ne_sld X hX hbl hbA hb0 (by decide) (by omega) dL_law_1979 (fun z1979 e1979 l1979 r1979 => ?_)
        have y1979 : z1940 = z1979 := e1940.trans e1979.symm
        subst y1979
        refine ne_if_eq (tgt := 1987) X dL_law_1980 rfl (by omega) (fun b1980 => ?_) (fun b1980 => ?_)
        · refine ne_iconst X dL_law_1987 ?_
          refine ne_aload_n X dL_law_1988 rfl ?_
          refine ne_iload X dL_law_1989 rfl ?_
          refine ne_iconst X dL_law_1991 ?_
          refine ne_iadd X dL_law_1992 ?_
          refine ne_sld X hX hbl hbA hb0 (by decide) (by omega) dL_law_1993 (fun z1993 e1993 l1993 r1993 => ?_)
          have y1993 : z1954 = z1993 := e1954.trans e1993.symm
          subst y1993
          refine ne_aload_n X dL_law_1994 rfl ?_
          refine ne_iload X dL_law_1995 rfl ?_
          refine ne_iconst X dL_law_1997 ?_
          refine ne_iadd X dL_law_1998 ?_
          refine ne_sld X hX hbl hbA hb0 (by decide) (by omega) dL_law_1999 (fun z1999 e1999 l1999 r1999 => ?_)
          have y1999 : z1960 = z1999 := e1960.trans e1999.symm
          subst y1999
          refine ne_callVF (is := [13, 14, 15, 16, 17, 18, 19]) X nw_Tg (me_X3_cutText l hl c q t b k h mv9 T hM (by omega) _ _ _ _ (by omega) (by omega) (by omega) (by omega)) nw_yX3_cutText nw_mL_295 nw_iX3_cutText nw_eX3_cutText (ci := 5) rfl rfl rfl dL_law_2000 rfl rfl (by decide) (by decide) (by first | decide | omega) (by first | decide | omega) (Nat.le_of_ble_eq_true rfl) rfl rfl rfl (Nat.le_of_ble_eq_true rfl) lw_pt2 ?_ ?_
          rotate_left
          · rintro E9 w9 h9; exact h9.elim
          rintro v2000 w2000 ⟨⟨mv91, rfl, hM1⟩, rfl⟩
          refine ne_ws lw_mg4 ?_
          refine ne_astore X dL_law_2003 (by decide) ?_
          refine ne_ll (L' := [some (.ref 0), some (.ref 1), some (.ref 13), some (.ref 20), some (ni _), some (ni _), some (.ref 22)]) rfl ?_
          refine ne_goto (tgt := 2331) X dL_law_2005 rfl ?_
          refine ne_lnone 5 (ne_lnone 6 ?_)
          refine ne_ll (L' := [some (.ref 0), some (.ref 1), some (.ref 13), some (.ref 20), some (ni i), none, none]) rfl ?_
          refine ne_take 22 ?_
          refine ne_ws lw_tk2 ?_
          refine ne_less (C' := C - 500) (S' := S - 3500) (by omega) (by omega) ?_
          exact kk _ _ _ _ _ _ _ _ _ _ _ _ hI1 hM1 hP (Or.inr rfl)
        · refine ne_iconst X dL_law_1983 ?_
          refine ne_goto (tgt := 1988) X dL_law_1984 rfl ?_
          refine ne_aload_n X dL_law_1988 rfl ?_
          refine ne_iload X dL_law_1989 rfl ?_
          refine ne_iconst X dL_law_1991 ?_
          refine ne_iadd X dL_law_1992 ?_
          refine ne_sld X hX hbl hbA hb0 (by decide) (by omega) dL_law_1993 (fun z1993 e1993 l1993 r1993 => ?_)
          have y1993 : z1954 = z1993 := e1954.trans e1993.symm
          subst y1993
          refine ne_aload_n X dL_law_1994 rfl ?_
          refine ne_iload X dL_law_1995 rfl ?_
          refine ne_iconst X dL_law_1997 ?_
          refine ne_iadd X dL_law_1998 ?_
          refine ne_sld X hX hbl hbA hb0 (by decide) (by omega) dL_law_1999 (fun z1999 e1999 l1999 r1999 => ?_)
          have y1999 : z1960 = z1999 := e1960.trans e1999.symm
          subst y1999
          refine ne_callVF (is := [13, 14, 15, 16, 17, 18, 19]) X nw_Tg (me_X3_cutText l hl c q t b k h mv9 T hM (by omega) _ _ _ _ (by omega) (by omega) (by omega) (by omega)) nw_yX3_cutText nw_mL_295 nw_iX3_cutText nw_eX3_cutText (ci := 5) rfl rfl rfl dL_law_2000 rfl rfl (by decide) (by decide) (by first | decide | omega) (by first | decide | omega) (Nat.le_of_ble_eq_true rfl) rfl rfl rfl (Nat.le_of_ble_eq_true rfl) lw_pt2 ?_ ?_
          rotate_left
          · rintro E9 w9 h9; exact h9.elim
          rintro v2000 w2000 ⟨⟨mv91, rfl, hM1⟩, rfl⟩
          refine ne_ws lw_mg4 ?_
          refine ne_astore X dL_law_2003 (by decide) ?_
          refine ne_ll (L' := [some (.ref 0), some (.ref 1), some (.ref 13), some (.ref 20), some (ni _), some (ni _), some (.ref 22)]) rfl ?_
          refine ne_goto (tgt := 2331) X dL_law_2005 rfl ?_
          refine ne_lnone 5 (ne_lnone 6 ?_)
          refine ne_ll (L' := [some (.ref 0), some (.ref 1), some (.ref 13), some (.ref 20), some (ni i), none, none]) rfl ?_
          refine ne_take 22 ?_
          refine ne_ws lw_tk2 ?_
          refine ne_less (C' := C - 500) (S' := S - 3500) (by omega) (by omega) ?_
          exact kk _ _ _ _ _ _ _ _ _ _ _ _ hI1 hM1 hP (Or.inr rfl)
    · refine ne_iconst X dL_law_1944 ?_
      refine ne_goto (tgt := 1949) X dL_law_1945 rfl ?_
      refine ne_aload_n X dL_law_1949 rfl ?_
      refine ne_iload X dL_law_1950 rfl ?_
      refine ne_iconst X dL_law_1952 ?_
      refine ne_iadd X dL_law_1953 ?_
      refine ne_sld X hX hbl hbA hb0 (by decide) (by omega) dL_law_1954 (fun z1954 e1954 l1954 r1954 => ?_)
      refine ne_aload_n X dL_law_1955 rfl ?_
      refine ne_iload X dL_law_1956 rfl ?_
      refine ne_iconst X dL_law_1958 ?_
      refine ne_iadd X dL_law_1959 ?_
      refine ne_sld X hX hbl hbA hb0 (by decide) (by omega) dL_law_1960 (fun z1960 e1960 l1960 r1960 => ?_)
      refine ne_aload_n X dL_law_1961 rfl ?_
      refine ne_callSFW (is := [1, 2, 3, 4, 5, 6, 7, 8, 9, 10, 11, 12, 20, 21]) X nw_Tg (me_L_cutText l hl c q t b k n h x y T hI (by omega) u .null (Or.inl rfl) _ _ _ _ (by omega) (by omega) (by omega) (by omega)) nw_yL_cutText nw_mL_292 nw_sL_cutText dL_law_1962 rfl rfl (by decide) (by decide) (by first | decide | omega) (by first | decide | omega) (Nat.le_of_ble_eq_true rfl) rfl rfl rfl (Nat.le_of_ble_eq_true rfl) (lw_pt1 (s := .null)) ?_ ?_
      rotate_left
      · rintro E9 w9 h9; exact h9.elim
      rintro v1962 w1962 ⟨x1, y1, u1, s1, rfl, hI1, hs1, z1962, rfl⟩
      rcases hs1 with rfl | rfl
      · refine ne_take 22 ?_
        refine ne_ws lw_tkN ?_
        refine ne_istore X dL_law_1965 (by decide) ?_
        refine ne_aload_n X dL_law_1967 rfl ?_
        refine ne_aload_n X dL_law_1968 rfl ?_
        refine ne_iload X dL_law_1969 rfl ?_
        refine ne_iconst X dL_law_1971 ?_
        refine ne_iadd X dL_law_1972 ?_
        refine ne_sld X hX hbl hbA hb0 (by decide) (by omega) dL_law_1973 (fun z1973 e1973 l1973 r1973 => ?_)
        have y1973 : z1934 = z1973 := e1934.trans e1973.symm
        subst y1973
        refine ne_aload_n X dL_law_1974 rfl ?_
        refine ne_iload X dL_law_1975 rfl ?_
        refine ne_iconst X dL_law_1977 ?_
        refine ne_iadd X dL_law_1978 ?_
        refine ne_sld X hX hbl hbA hb0 (by decide) (by omega) dL_law_1979 (fun z1979 e1979 l1979 r1979 => ?_)
        have y1979 : z1940 = z1979 := e1940.trans e1979.symm
        subst y1979
        refine ne_if_eq (tgt := 1987) X dL_law_1980 rfl (by omega) (fun b1980 => ?_) (fun b1980 => ?_)
        · refine ne_iconst X dL_law_1987 ?_
          refine ne_aload_n X dL_law_1988 rfl ?_
          refine ne_iload X dL_law_1989 rfl ?_
          refine ne_iconst X dL_law_1991 ?_
          refine ne_iadd X dL_law_1992 ?_
          refine ne_sld X hX hbl hbA hb0 (by decide) (by omega) dL_law_1993 (fun z1993 e1993 l1993 r1993 => ?_)
          have y1993 : z1954 = z1993 := e1954.trans e1993.symm
          subst y1993
          refine ne_aload_n X dL_law_1994 rfl ?_
          refine ne_iload X dL_law_1995 rfl ?_
          refine ne_iconst X dL_law_1997 ?_
          refine ne_iadd X dL_law_1998 ?_
          refine ne_sld X hX hbl hbA hb0 (by decide) (by omega) dL_law_1999 (fun z1999 e1999 l1999 r1999 => ?_)
          have y1999 : z1960 = z1999 := e1960.trans e1999.symm
          subst y1999
          refine ne_callVF (is := [13, 14, 15, 16, 17, 18, 19]) X nw_Tg (me_X3_cutText l hl c q t b k h mv9 T hM (by omega) _ _ _ _ (by omega) (by omega) (by omega) (by omega)) nw_yX3_cutText nw_mL_295 nw_iX3_cutText nw_eX3_cutText (ci := 5) rfl rfl rfl dL_law_2000 rfl rfl (by decide) (by decide) (by first | decide | omega) (by first | decide | omega) (Nat.le_of_ble_eq_true rfl) rfl rfl rfl (Nat.le_of_ble_eq_true rfl) lw_pt2 ?_ ?_
          rotate_left
          · rintro E9 w9 h9; exact h9.elim
          rintro v2000 w2000 ⟨⟨mv91, rfl, hM1⟩, rfl⟩
          refine ne_ws lw_mg4 ?_
          refine ne_astore X dL_law_2003 (by decide) ?_
          refine ne_ll (L' := [some (.ref 0), some (.ref 1), some (.ref 13), some (.ref 20), some (ni _), some (ni _), some (.ref 22)]) rfl ?_
          refine ne_goto (tgt := 2331) X dL_law_2005 rfl ?_
          refine ne_lnone 5 (ne_lnone 6 ?_)
          refine ne_ll (L' := [some (.ref 0), some (.ref 1), some (.ref 13), some (.ref 20), some (ni i), none, none]) rfl ?_
          refine ne_take 22 ?_
          refine ne_ws lw_tk2 ?_
          refine ne_less (C' := C - 500) (S' := S - 3500) (by omega) (by omega) ?_
          exact kk _ _ _ _ _ _ _ _ _ _ _ _ hI1 hM1 hP (Or.inl rfl)
        · refine ne_iconst X dL_law_1983 ?_
          refine ne_goto (tgt := 1988) X dL_law_1984 rfl ?_
          refine ne_aload_n X dL_law_1988 rfl ?_
          refine ne_iload X dL_law_1989 rfl ?_
          refine ne_iconst X dL_law_1991 ?_
          refine ne_iadd X dL_law_1992 ?_
          refine ne_sld X hX hbl hbA hb0 (by decide) (by omega) dL_law_1993 (fun z1993 e1993 l1993 r1993 => ?_)
          have y1993 : z1954 = z1993 := e1954.trans e1993.symm
          subst y1993
          refine ne_aload_n X dL_law_1994 rfl ?_
          refine ne_iload X dL_law_1995 rfl ?_
          refine ne_iconst X dL_law_1997 ?_
          refine ne_iadd X dL_law_1998 ?_
          refine ne_sld X hX hbl hbA hb0 (by decide) (by omega) dL_law_1999 (fun z1999 e1999 l1999 r1999 => ?_)
          have y1999 : z1960 = z1999 := e1960.trans e1999.symm
          subst y1999
          refine ne_callVF (is := [13, 14, 15, 16, 17, 18, 19]) X nw_Tg (me_X3_cutText l hl c q t b k h mv9 T hM (by omega) _ _ _ _ (by omega) (by omega) (by omega) (by omega)) nw_yX3_cutText nw_mL_295 nw_iX3_cutText nw_eX3_cutText (ci := 5) rfl rfl rfl dL_law_2000 rfl rfl (by decide) (by decide) (by first | decide | omega) (by first | decide | omega) (Nat.le_of_ble_eq_true rfl) rfl rfl rfl (Nat.le_of_ble_eq_true rfl) lw_pt2 ?_ ?_
          rotate_left
          · rintro E9 w9 h9; exact h9.elim
          rintro v2000 w2000 ⟨⟨mv91, rfl, hM1⟩, rfl⟩
          refine ne_ws lw_mg4 ?_
          refine ne_astore X dL_law_2003 (by decide) ?_
          refine ne_ll (L' := [some (.ref 0), some (.ref 1), some (.ref 13), some (.ref 20), some (ni _), some (ni _), some (.ref 22)]) rfl ?_
          refine ne_goto (tgt := 2331) X dL_law_2005 rfl ?_
          refine ne_lnone 5 (ne_lnone 6 ?_)
          refine ne_ll (L' := [some (.ref 0), some (.ref 1), some (.ref 13), some (.ref 20), some (ni i), none, none]) rfl ?_
          refine ne_take 22 ?_
          refine ne_ws lw_tk2 ?_
          refine ne_less (C' := C - 500) (S' := S - 3500) (by omega) (by omega) ?_
          exact kk _ _ _ _ _ _ _ _ _ _ _ _ hI1 hM1 hP (Or.inl rfl)
      · refine ne_viewb [0, 1, 2, 3, 4, 5, 6, 7, 8, 9, 10, 11, 12, 13, 14, 15, 16, 17, 18, 19, 20, 22] (ws' := lW c q t b k n h x1 y1 c q t b k h mv9 (nl u1) (.ref 21)) (L' := [some (.ref 0), some (.ref 1), some (.ref 13), some (.ref 20), some (ni i), none, none]) (st' := [ni z1962]) lw_vw (by decide) lw_vl rfl rfl rfl ?_
        refine ne_istore X dL_law_1965 (by decide) ?_
        refine ne_aload_n X dL_law_1967 rfl ?_
        refine ne_aload_n X dL_law_1968 rfl ?_
        refine ne_iload X dL_law_1969 rfl ?_
        refine ne_iconst X dL_law_1971 ?_
        refine ne_iadd X dL_law_1972 ?_
        refine ne_sld X hX hbl hbA hb0 (by decide) (by omega) dL_law_1973 (fun z1973 e1973 l1973 r1973 => ?_)
        have y1973 : z1934 = z1973 := e1934.trans e1973.symm
        subst y1973
        refine ne_aload_n X dL_law_1974 rfl ?_
        refine ne_iload X dL_law_1975 rfl ?_
        refine ne_iconst X dL_law_1977 ?_
        refine ne_iadd X dL_law_1978 ?_
        refine ne_sld X hX hbl hbA hb0 (by decide) (by omega) dL_law_1979 (fun z1979 e1979 l1979 r1979 => ?_)
        have y1979 : z1940 = z1979 := e1940.trans e1979.symm
        subst y1979
        refine ne_if_eq (tgt := 1987) X dL_law_1980 rfl (by omega) (fun b1980 => ?_) (fun b1980 => ?_)
        · refine ne_iconst X dL_law_1987 ?_
          refine ne_aload_n X dL_law_1988 rfl ?_
          refine ne_iload X dL_law_1989 rfl ?_
          refine ne_iconst X dL_law_1991 ?_
          refine ne_iadd X dL_law_1992 ?_
          refine ne_sld X hX hbl hbA hb0 (by decide) (by omega) dL_law_1993 (fun z1993 e1993 l1993 r1993 => ?_)
          have y1993 : z1954 = z1993 := e1954.trans e1993.symm
          subst y1993
          refine ne_aload_n X dL_law_1994 rfl ?_
          refine ne_iload X dL_law_1995 rfl ?_
          refine ne_iconst X dL_law_1997 ?_
          refine ne_iadd X dL_law_1998 ?_
          refine ne_sld X hX hbl hbA hb0 (by decide) (by omega) dL_law_1999 (fun z1999 e1999 l1999 r1999 => ?_)
          have y1999 : z1960 = z1999 := e1960.trans e1999.symm
          subst y1999
          refine ne_callVF (is := [13, 14, 15, 16, 17, 18, 19]) X nw_Tg (me_X3_cutText l hl c q t b k h mv9 T hM (by omega) _ _ _ _ (by omega) (by omega) (by omega) (by omega)) nw_yX3_cutText nw_mL_295 nw_iX3_cutText nw_eX3_cutText (ci := 5) rfl rfl rfl dL_law_2000 rfl rfl (by decide) (by decide) (by first | decide | omega) (by first | decide | omega) (Nat.le_of_ble_eq_true rfl) rfl rfl rfl (Nat.le_of_ble_eq_true rfl) lw_pt2 ?_ ?_
          rotate_left
          · rintro E9 w9 h9; exact h9.elim
          rintro v2000 w2000 ⟨⟨mv91, rfl, hM1⟩, rfl⟩
          refine ne_ws lw_mg4 ?_
          refine ne_astore X dL_law_2003 (by decide) ?_
          refine ne_ll (L' := [some (.ref 0), some (.ref 1), some (.ref 13), some (.ref 20), some (ni _), some (ni _), some (.ref 22)]) rfl ?_
          refine ne_goto (tgt := 2331) X dL_law_2005 rfl ?_
          refine ne_lnone 5 (ne_lnone 6 ?_)
          refine ne_ll (L' := [some (.ref 0), some (.ref 1), some (.ref 13), some (.ref 20), some (ni i), none, none]) rfl ?_
          refine ne_take 22 ?_
          refine ne_ws lw_tk2 ?_
          refine ne_less (C' := C - 500) (S' := S - 3500) (by omega) (by omega) ?_
          exact kk _ _ _ _ _ _ _ _ _ _ _ _ hI1 hM1 hP (Or.inr rfl)
        · refine ne_iconst X dL_law_1983 ?_
          refine ne_goto (tgt := 1988) X dL_law_1984 rfl ?_
          refine ne_aload_n X dL_law_1988 rfl ?_
          refine ne_iload X dL_law_1989 rfl ?_
          refine ne_iconst X dL_law_1991 ?_
          refine ne_iadd X dL_law_1992 ?_
          refine ne_sld X hX hbl hbA hb0 (by decide) (by omega) dL_law_1993 (fun z1993 e1993 l1993 r1993 => ?_)
          have y1993 : z1954 = z1993 := e1954.trans e1993.symm
          subst y1993
          refine ne_aload_n X dL_law_1994 rfl ?_
          refine ne_iload X dL_law_1995 rfl ?_
          refine ne_iconst X dL_law_1997 ?_
          refine ne_iadd X dL_law_1998 ?_
          refine ne_sld X hX hbl hbA hb0 (by decide) (by omega) dL_law_1999 (fun z1999 e1999 l1999 r1999 => ?_)
          have y1999 : z1960 = z1999 := e1960.trans e1999.symm
          subst y1999
          refine ne_callVF (is := [13, 14, 15, 16, 17, 18, 19]) X nw_Tg (me_X3_cutText l hl c q t b k h mv9 T hM (by omega) _ _ _ _ (by omega) (by omega) (by omega) (by omega)) nw_yX3_cutText nw_mL_295 nw_iX3_cutText nw_eX3_cutText (ci := 5) rfl rfl rfl dL_law_2000 rfl rfl (by decide) (by decide) (by first | decide | omega) (by first | decide | omega) (Nat.le_of_ble_eq_true rfl) rfl rfl rfl (Nat.le_of_ble_eq_true rfl) lw_pt2 ?_ ?_
          rotate_left
          · rintro E9 w9 h9; exact h9.elim
          rintro v2000 w2000 ⟨⟨mv91, rfl, hM1⟩, rfl⟩
          refine ne_ws lw_mg4 ?_
          refine ne_astore X dL_law_2003 (by decide) ?_
          refine ne_ll (L' := [some (.ref 0), some (.ref 1), some (.ref 13), some (.ref 20), some (ni _), some (ni _), some (.ref 22)]) rfl ?_
          refine ne_goto (tgt := 2331) X dL_law_2005 rfl ?_
          refine ne_lnone 5 (ne_lnone 6 ?_)
          refine ne_ll (L' := [some (.ref 0), some (.ref 1), some (.ref 13), some (.ref 20), some (ni i), none, none]) rfl ?_
          refine ne_take 22 ?_
          refine ne_ws lw_tk2 ?_
          refine ne_less (C' := C - 500) (S' := S - 3500) (by omega) (by omega) ?_
          exact kk _ _ _ _ _ _ _ _ _ _ _ _ hI1 hM1 hP (Or.inr rfl)
  · refine ne_aload_n X dL_law_1928 rfl ?_
    refine ne_aload_n X dL_law_1929 rfl ?_
    refine ne_iload X dL_law_1930 rfl ?_
    refine ne_iconst X dL_law_1932 ?_
    refine ne_iadd X dL_law_1933 ?_
    refine ne_sld X hX hbl hbA hb0 (by decide) (by omega) dL_law_1934 (fun z1934 e1934 l1934 r1934 => ?_)
    refine ne_aload_n X dL_law_1935 rfl ?_
    refine ne_iload X dL_law_1936 rfl ?_
    refine ne_iconst X dL_law_1938 ?_
    refine ne_iadd X dL_law_1939 ?_
    refine ne_sld X hX hbl hbA hb0 (by decide) (by omega) dL_law_1940 (fun z1940 e1940 l1940 r1940 => ?_)
    refine ne_if_eq (tgt := 1948) X dL_law_1941 rfl (by omega) (fun b1941 => ?_) (fun b1941 => ?_)
    · refine ne_iconst X dL_law_1948 ?_
      refine ne_aload_n X dL_law_1949 rfl ?_
      refine ne_iload X dL_law_1950 rfl ?_
      refine ne_iconst X dL_law_1952 ?_
      refine ne_iadd X dL_law_1953 ?_
      refine ne_sld X hX hbl hbA hb0 (by decide) (by omega) dL_law_1954 (fun z1954 e1954 l1954 r1954 => ?_)
      refine ne_aload_n X dL_law_1955 rfl ?_
      refine ne_iload X dL_law_1956 rfl ?_
      refine ne_iconst X dL_law_1958 ?_
      refine ne_iadd X dL_law_1959 ?_
      refine ne_sld X hX hbl hbA hb0 (by decide) (by omega) dL_law_1960 (fun z1960 e1960 l1960 r1960 => ?_)
      refine ne_aload_n X dL_law_1961 rfl ?_
      refine ne_callSFW (is := [1, 2, 3, 4, 5, 6, 7, 8, 9, 10, 11, 12, 20, 21]) X nw_Tg (me_L_cutText l hl c q t b k n h x y T hI (by omega) u (.ref 13) (Or.inr rfl) _ _ _ _ (by omega) (by omega) (by omega) (by omega)) nw_yL_cutText nw_mL_292 nw_sL_cutText dL_law_1962 rfl rfl (by decide) (by decide) (by first | decide | omega) (by first | decide | omega) (Nat.le_of_ble_eq_true rfl) rfl rfl rfl (Nat.le_of_ble_eq_true rfl) (lw_pt1 (s := .ref 13)) ?_ ?_
      rotate_left
      · rintro E9 w9 h9; exact h9.elim
      rintro v1962 w1962 ⟨x1, y1, u1, s1, rfl, hI1, hs1, z1962, rfl⟩
      rcases hs1 with rfl | rfl
      · refine ne_take 22 ?_
        refine ne_ws lw_tkR ?_
        refine ne_istore X dL_law_1965 (by decide) ?_
        refine ne_aload_n X dL_law_1967 rfl ?_
        refine ne_aload_n X dL_law_1968 rfl ?_
        refine ne_iload X dL_law_1969 rfl ?_
        refine ne_iconst X dL_law_1971 ?_
        refine ne_iadd X dL_law_1972 ?_
        refine ne_sld X hX hbl hbA hb0 (by decide) (by omega) dL_law_1973 (fun z1973 e1973 l1973 r1973 => ?_)
        have y1973 : z1934 = z1973 := e1934.trans e1973.symm
        subst y1973
        refine ne_aload_n X dL_law_1974 rfl ?_
        refine ne_iload X dL_law_1975 rfl ?_
        refine ne_iconst X dL_law_1977 ?_
        refine ne_iadd X dL_law_1978 ?_
        refine ne_sld X hX hbl hbA hb0 (by decide) (by omega) dL_law_1979 (fun z1979 e1979 l1979 r1979 => ?_)
        have y1979 : z1940 = z1979 := e1940.trans e1979.symm
        subst y1979
        refine ne_if_eq (tgt := 1987) X dL_law_1980 rfl (by omega) (fun b1980 => ?_) (fun b1980 => ?_)
        · refine ne_iconst X dL_law_1987 ?_
          refine ne_aload_n X dL_law_1988 rfl ?_
          refine ne_iload X dL_law_1989 rfl ?_
          refine ne_iconst X dL_law_1991 ?_
          refine ne_iadd X dL_law_1992 ?_
          refine ne_sld X hX hbl hbA hb0 (by decide) (by omega) dL_law_1993 (fun z1993 e1993 l1993 r1993 => ?_)
          have y1993 : z1954 = z1993 := e1954.trans e1993.symm
          subst y1993
          refine ne_aload_n X dL_law_1994 rfl ?_
          refine ne_iload X dL_law_1995 rfl ?_
          refine ne_iconst X dL_law_1997 ?_
          refine ne_iadd X dL_law_1998 ?_
          refine ne_sld X hX hbl hbA hb0 (by decide) (by omega) dL_law_1999 (fun z1999 e1999 l1999 r1999 => ?_)
          have y1999 : z1960 = z1999 := e1960.trans e1999.symm
          subst y1999
          refine ne_callVF (is := [13, 14, 15, 16, 17, 18, 19]) X nw_Tg (me_X3_cutText l hl c q t b k h mv9 T hM (by omega) _ _ _ _ (by omega) (by omega) (by omega) (by omega)) nw_yX3_cutText nw_mL_295 nw_iX3_cutText nw_eX3_cutText (ci := 5) rfl rfl rfl dL_law_2000 rfl rfl (by decide) (by decide) (by first | decide | omega) (by first | decide | omega) (Nat.le_of_ble_eq_true rfl) rfl rfl rfl (Nat.le_of_ble_eq_true rfl) lw_pt2 ?_ ?_
          rotate_left
          · rintro E9 w9 h9; exact h9.elim
          rintro v2000 w2000 ⟨⟨mv91, rfl, hM1⟩, rfl⟩
          refine ne_ws lw_mg4 ?_
          refine ne_astore X dL_law_2003 (by decide) ?_
          refine ne_ll (L' := [some (.ref 0), some (.ref 1), some (.ref 13), some (.ref 20), some (ni _), some (ni _), some (.ref 22)]) rfl ?_
          refine ne_goto (tgt := 2331) X dL_law_2005 rfl ?_
          refine ne_lnone 5 (ne_lnone 6 ?_)
          refine ne_ll (L' := [some (.ref 0), some (.ref 1), some (.ref 13), some (.ref 20), some (ni i), none, none]) rfl ?_
          refine ne_take 22 ?_
          refine ne_ws lw_tk2 ?_
          refine ne_less (C' := C - 500) (S' := S - 3500) (by omega) (by omega) ?_
          exact kk _ _ _ _ _ _ _ _ _ _ _ _ hI1 hM1 hP (Or.inr rfl)
        · refine ne_iconst X dL_law_1983 ?_
          refine ne_goto (tgt := 1988) X dL_law_1984 rfl ?_
          refine ne_aload_n X dL_law_1988 rfl ?_
          refine ne_iload X dL_law_1989 rfl ?_
          refine ne_iconst X dL_law_1991 ?_
          refine ne_iadd X dL_law_1992 ?_
          refine ne_sld X hX hbl hbA hb0 (by decide) (by omega) dL_law_1993 (fun z1993 e1993 l1993 r1993 => ?_)
          have y1993 : z1954 = z1993 := e1954.trans e1993.symm
          subst y1993
          refine ne_aload_n X dL_law_1994 rfl ?_
          refine ne_iload X dL_law_1995 rfl ?_
          refine ne_iconst X dL_law_1997 ?_
          refine ne_iadd X dL_law_1998 ?_
          refine ne_sld X hX hbl hbA hb0 (by decide) (by omega) dL_law_1999 (fun z1999 e1999 l1999 r1999 => ?_)
          have y1999 : z1960 = z1999 := e1960.trans e1999.symm
          subst y1999
          refine ne_callVF (is := [13, 14, 15, 16, 17, 18, 19]) X nw_Tg (me_X3_cutText l hl c q t b k h mv9 T hM (by omega) _ _ _ _ (by omega) (by omega) (by omega) (by omega)) nw_yX3_cutText nw_mL_295 nw_iX3_cutText nw_eX3_cutText (ci := 5) rfl rfl rfl dL_law_2000 rfl rfl (by decide) (by decide) (by first | decide | omega) (by first | decide | omega) (Nat.le_of_ble_eq_true rfl) rfl rfl rfl (Nat.le_of_ble_eq_true rfl) lw_pt2 ?_ ?_
          rotate_left
          · rintro E9 w9 h9; exact h9.elim
          rintro v2000 w2000 ⟨⟨mv91, rfl, hM1⟩, rfl⟩
          refine ne_ws lw_mg4 ?_
          refine ne_astore X dL_law_2003 (by decide) ?_
          refine ne_ll (L' := [some (.ref 0), some (.ref 1), some (.ref 13), some (.ref 20), some (ni _), some (ni _), some (.ref 22)]) rfl ?_
          refine ne_goto (tgt := 2331) X dL_law_2005 rfl ?_
          refine ne_lnone 5 (ne_lnone 6 ?_)
          refine ne_ll (L' := [some (.ref 0), some (.ref 1), some (.ref 13), some (.ref 20), some (ni i), none, none]) rfl ?_
          refine ne_take 22 ?_
          refine ne_ws lw_tk2 ?_
          refine ne_less (C' := C - 500) (S' := S - 3500) (by omega) (by omega) ?_
          exact kk _ _ _ _ _ _ _ _ _ _ _ _ hI1 hM1 hP (Or.inr rfl)
      · refine ne_viewb [0, 1, 2, 3, 4, 5, 6, 7, 8, 9, 10, 11, 12, 13, 14, 15, 16, 17, 18, 19, 20, 22] (ws' := lW c q t b k n h x1 y1 c q t b k h mv9 (nl u1) (.ref 21)) (L' := [some (.ref 0), some (.ref 1), some (.ref 13), some (.ref 20), some (ni i), none, none]) (st' := [ni z1962]) lw_vw (by decide) lw_vl rfl rfl rfl ?_
        refine ne_istore X dL_law_1965 (by decide) ?_
        refine ne_aload_n X dL_law_1967 rfl ?_
        refine ne_aload_n X dL_law_1968 rfl ?_
        refine ne_iload X dL_law_1969 rfl ?_
        refine ne_iconst X dL_law_1971 ?_
        refine ne_iadd X dL_law_1972 ?_
        refine ne_sld X hX hbl hbA hb0 (by decide) (by omega) dL_law_1973 (fun z1973 e1973 l1973 r1973 => ?_)
        have y1973 : z1934 = z1973 := e1934.trans e1973.symm
        subst y1973
        refine ne_aload_n X dL_law_1974 rfl ?_
        refine ne_iload X dL_law_1975 rfl ?_
        refine ne_iconst X dL_law_1977 ?_
        refine ne_iadd X dL_law_1978 ?_
        refine ne_sld X hX hbl hbA hb0 (by decide) (by omega) dL_law_1979 (fun z1979 e1979 l1979 r1979 => ?_)
        have y1979 : z1940 = z1979 := e1940.trans e1979.symm
        subst y1979
        refine ne_if_eq (tgt := 1987) X dL_law_1980 rfl (by omega) (fun b1980 => ?_) (fun b1980 => ?_)
        · refine ne_iconst X dL_law_1987 ?_
          refine ne_aload_n X dL_law_1988 rfl ?_
          refine ne_iload X dL_law_1989 rfl ?_
          refine ne_iconst X dL_law_1991 ?_
          refine ne_iadd X dL_law_1992 ?_
          refine ne_sld X hX hbl hbA hb0 (by decide) (by omega) dL_law_1993 (fun z1993 e1993 l1993 r1993 => ?_)
          have y1993 : z1954 = z1993 := e1954.trans e1993.symm
          subst y1993
          refine ne_aload_n X dL_law_1994 rfl ?_
          refine ne_iload X dL_law_1995 rfl ?_
          refine ne_iconst X dL_law_1997 ?_
          refine ne_iadd X dL_law_1998 ?_
          refine ne_sld X hX hbl hbA hb0 (by decide) (by omega) dL_law_1999 (fun z1999 e1999 l1999 r1999 => ?_)
          have y1999 : z1960 = z1999 := e1960.trans e1999.symm
          subst y1999
          refine ne_callVF (is := [13, 14, 15, 16, 17, 18, 19]) X nw_Tg (me_X3_cutText l hl c q t b k h mv9 T hM (by omega) _ _ _ _ (by omega) (by omega) (by omega) (by omega)) nw_yX3_cutText nw_mL_295 nw_iX3_cutText nw_eX3_cutText (ci := 5) rfl rfl rfl dL_law_2000 rfl rfl (by decide) (by decide) (by first | decide | omega) (by first | decide | omega) (Nat.le_of_ble_eq_true rfl) rfl rfl rfl (Nat.le_of_ble_eq_true rfl) lw_pt2 ?_ ?_
          rotate_left
          · rintro E9 w9 h9; exact h9.elim
          rintro v2000 w2000 ⟨⟨mv91, rfl, hM1⟩, rfl⟩
          refine ne_ws lw_mg4 ?_
          refine ne_astore X dL_law_2003 (by decide) ?_
          refine ne_ll (L' := [some (.ref 0), some (.ref 1), some (.ref 13), some (.ref 20), some (ni _), some (ni _), some (.ref 22)]) rfl ?_
          refine ne_goto (tgt := 2331) X dL_law_2005 rfl ?_
          refine ne_lnone 5 (ne_lnone 6 ?_)
          refine ne_ll (L' := [some (.ref 0), some (.ref 1), some (.ref 13), some (.ref 20), some (ni i), none, none]) rfl ?_
          refine ne_take 22 ?_
          refine ne_ws lw_tk2 ?_
          refine ne_less (C' := C - 500) (S' := S - 3500) (by omega) (by omega) ?_
          exact kk _ _ _ _ _ _ _ _ _ _ _ _ hI1 hM1 hP (Or.inr rfl)
        · refine ne_iconst X dL_law_1983 ?_
          refine ne_goto (tgt := 1988) X dL_law_1984 rfl ?_
          refine ne_aload_n X dL_law_1988 rfl ?_
          refine ne_iload X dL_law_1989 rfl ?_
          refine ne_iconst X dL_law_1991 ?_
          refine ne_iadd X dL_law_1992 ?_
          refine ne_sld X hX hbl hbA hb0 (by decide) (by omega) dL_law_1993 (fun z1993 e1993 l1993 r1993 => ?_)
          have y1993 : z1954 = z1993 := e1954.trans e1993.symm
          subst y1993
          refine ne_aload_n X dL_law_1994 rfl ?_
          refine ne_iload X dL_law_1995 rfl ?_
          refine ne_iconst X dL_law_1997 ?_
          refine ne_iadd X dL_law_1998 ?_
          refine ne_sld X hX hbl hbA hb0 (by decide) (by omega) dL_law_1999 (fun z1999 e1999 l1999 r1999 => ?_)
          have y1999 : z1960 = z1999 := e1960.trans e1999.symm
          subst y1999
          refine ne_callVF (is := [13, 14, 15, 16, 17, 18, 19]) X nw_Tg (me_X3_cutText l hl c q t b k h mv9 T hM (by omega) _ _ _ _ (by omega) (by omega) (by omega) (by omega)) nw_yX3_cutText nw_mL_295 nw_iX3_cutText nw_eX3_cutText (ci := 5) rfl rfl rfl dL_law_2000 rfl rfl (by decide) (by decide) (by first | decide | omega) (by first | decide | omega) (Nat.le_of_ble_eq_true rfl) rfl rfl rfl (Nat.le_of_ble_eq_true rfl) lw_pt2 ?_ ?_
          rotate_left
          · rintro E9 w9 h9; exact h9.elim
          rintro v2000 w2000 ⟨⟨mv91, rfl, hM1⟩, rfl⟩
          refine ne_ws lw_mg4 ?_
          refine ne_astore X dL_law_2003 (by decide) ?_
          refine ne_ll (L' := [some (.ref 0), some (.ref 1), some (.ref 13), some (.ref 20), some (ni _), some (ni _), some (.ref 22)]) rfl ?_
          refine ne_goto (tgt := 2331) X dL_law_2005 rfl ?_
          refine ne_lnone 5 (ne_lnone 6 ?_)
          refine ne_ll (L' := [some (.ref 0), some (.ref 1), some (.ref 13), some (.ref 20), some (ni i), none, none]) rfl ?_
          refine ne_take 22 ?_
          refine ne_ws lw_tk2 ?_
          refine ne_less (C' := C - 500) (S' := S - 3500) (by omega) (by omega) ?_
          exact kk _ _ _ _ _ _ _ _ _ _ _ _ hI1 hM1 hP (Or.inr rfl)
    · refine ne_iconst X dL_law_1944 ?_
      refine ne_goto (tgt := 1949) X dL_law_1945 rfl ?_
      refine ne_aload_n X dL_law_1949 rfl ?_
      refine ne_iload X dL_law_1950 rfl ?_
      refine ne_iconst X dL_law_1952 ?_
      refine ne_iadd X dL_law_1953 ?_
      refine ne_sld X hX hbl hbA hb0 (by decide) (by omega) dL_law_1954 (fun z1954 e1954 l1954 r1954 => ?_)
      refine ne_aload_n X dL_law_1955 rfl ?_
      refine ne_iload X dL_law_1956 rfl ?_
      refine ne_iconst X dL_law_1958 ?_
      refine ne_iadd X dL_law_1959 ?_
      refine ne_sld X hX hbl hbA hb0 (by decide) (by omega) dL_law_1960 (fun z1960 e1960 l1960 r1960 => ?_)
      refine ne_aload_n X dL_law_1961 rfl ?_
      refine ne_callSFW (is := [1, 2, 3, 4, 5, 6, 7, 8, 9, 10, 11, 12, 20, 21]) X nw_Tg (me_L_cutText l hl c q t b k n h x y T hI (by omega) u (.ref 13) (Or.inr rfl) _ _ _ _ (by omega) (by omega) (by omega) (by omega)) nw_yL_cutText nw_mL_292 nw_sL_cutText dL_law_1962 rfl rfl (by decide) (by decide) (by first | decide | omega) (by first | decide | omega) (Nat.le_of_ble_eq_true rfl) rfl rfl rfl (Nat.le_of_ble_eq_true rfl) (lw_pt1 (s := .ref 13)) ?_ ?_
      rotate_left
      · rintro E9 w9 h9; exact h9.elim
      rintro v1962 w1962 ⟨x1, y1, u1, s1, rfl, hI1, hs1, z1962, rfl⟩
      rcases hs1 with rfl | rfl
      · refine ne_take 22 ?_
        refine ne_ws lw_tkR ?_
        refine ne_istore X dL_law_1965 (by decide) ?_
        refine ne_aload_n X dL_law_1967 rfl ?_
        refine ne_aload_n X dL_law_1968 rfl ?_
        refine ne_iload X dL_law_1969 rfl ?_
        refine ne_iconst X dL_law_1971 ?_
        refine ne_iadd X dL_law_1972 ?_
        refine ne_sld X hX hbl hbA hb0 (by decide) (by omega) dL_law_1973 (fun z1973 e1973 l1973 r1973 => ?_)
        have y1973 : z1934 = z1973 := e1934.trans e1973.symm
        subst y1973
        refine ne_aload_n X dL_law_1974 rfl ?_
        refine ne_iload X dL_law_1975 rfl ?_
        refine ne_iconst X dL_law_1977 ?_
        refine ne_iadd X dL_law_1978 ?_
        refine ne_sld X hX hbl hbA hb0 (by decide) (by omega) dL_law_1979 (fun z1979 e1979 l1979 r1979 => ?_)
        have y1979 : z1940 = z1979 := e1940.trans e1979.symm
        subst y1979
        refine ne_if_eq (tgt := 1987) X dL_law_1980 rfl (by omega) (fun b1980 => ?_) (fun b1980 => ?_)
        · refine ne_iconst X dL_law_1987 ?_
          refine ne_aload_n X dL_law_1988 rfl ?_
          refine ne_iload X dL_law_1989 rfl ?_
          refine ne_iconst X dL_law_1991 ?_
          refine ne_iadd X dL_law_1992 ?_
          refine ne_sld X hX hbl hbA hb0 (by decide) (by omega) dL_law_1993 (fun z1993 e1993 l1993 r1993 => ?_)
          have y1993 : z1954 = z1993 := e1954.trans e1993.symm
          subst y1993
          refine ne_aload_n X dL_law_1994 rfl ?_
          refine ne_iload X dL_law_1995 rfl ?_
          refine ne_iconst X dL_law_1997 ?_
          refine ne_iadd X dL_law_1998 ?_
          refine ne_sld X hX hbl hbA hb0 (by decide) (by omega) dL_law_1999 (fun z1999 e1999 l1999 r1999 => ?_)
          have y1999 : z1960 = z1999 := e1960.trans e1999.symm
          subst y1999
          refine ne_callVF (is := [13, 14, 15, 16, 17, 18, 19]) X nw_Tg (me_X3_cutText l hl c q t b k h mv9 T hM (by omega) _ _ _ _ (by omega) (by omega) (by omega) (by omega)) nw_yX3_cutText nw_mL_295 nw_iX3_cutText nw_eX3_cutText (ci := 5) rfl rfl rfl dL_law_2000 rfl rfl (by decide) (by decide) (by first | decide | omega) (by first | decide | omega) (Nat.le_of_ble_eq_true rfl) rfl rfl rfl (Nat.le_of_ble_eq_true rfl) lw_pt2 ?_ ?_
          rotate_left
          · rintro E9 w9 h9; exact h9.elim
          rintro v2000 w2000 ⟨⟨mv91, rfl, hM1⟩, rfl⟩
          refine ne_ws lw_mg4 ?_
          refine ne_astore X dL_law_2003 (by decide) ?_
          refine ne_ll (L' := [some (.ref 0), some (.ref 1), some (.ref 13), some (.ref 20), some (ni _), some (ni _), some (.ref 22)]) rfl ?_
          refine ne_goto (tgt := 2331) X dL_law_2005 rfl ?_
          refine ne_lnone 5 (ne_lnone 6 ?_)
          refine ne_ll (L' := [some (.ref 0), some (.ref 1), some (.ref 13), some (.ref 20), some (ni i), none, none]) rfl ?_
          refine ne_take 22 ?_
          refine ne_ws lw_tk2 ?_
          refine ne_less (C' := C - 500) (S' := S - 3500) (by omega) (by omega) ?_
          exact kk _ _ _ _ _ _ _ _ _ _ _ _ hI1 hM1 hP (Or.inr rfl)
        · refine ne_iconst X dL_law_1983 ?_
          refine ne_goto (tgt := 1988) X dL_law_1984 rfl ?_
          refine ne_aload_n X dL_law_1988 rfl ?_
          refine ne_iload X dL_law_1989 rfl ?_
          refine ne_iconst X dL_law_1991 ?_
          refine ne_iadd X dL_law_1992 ?_
          refine ne_sld X hX hbl hbA hb0 (by decide) (by omega) dL_law_1993 (fun z1993 e1993 l1993 r1993 => ?_)
          have y1993 : z1954 = z1993 := e1954.trans e1993.symm
          subst y1993
          refine ne_aload_n X dL_law_1994 rfl ?_
          refine ne_iload X dL_law_1995 rfl ?_
          refine ne_iconst X dL_law_1997 ?_
          refine ne_iadd X dL_law_1998 ?_
          refine ne_sld X hX hbl hbA hb0 (by decide) (by omega) dL_law_1999 (fun z1999 e1999 l1999 r1999 => ?_)
          have y1999 : z1960 = z1999 := e1960.trans e1999.symm
          subst y1999
          refine ne_callVF (is := [13, 14, 15, 16, 17, 18, 19]) X nw_Tg (me_X3_cutText l hl c q t b k h mv9 T hM (by omega) _ _ _ _ (by omega) (by omega) (by omega) (by omega)) nw_yX3_cutText nw_mL_295 nw_iX3_cutText nw_eX3_cutText (ci := 5) rfl rfl rfl dL_law_2000 rfl rfl (by decide) (by decide) (by first | decide | omega) (by first | decide | omega) (Nat.le_of_ble_eq_true rfl) rfl rfl rfl (Nat.le_of_ble_eq_true rfl) lw_pt2 ?_ ?_
          rotate_left
          · rintro E9 w9 h9; exact h9.elim
          rintro v2000 w2000 ⟨⟨mv91, rfl, hM1⟩, rfl⟩
          refine ne_ws lw_mg4 ?_
          refine ne_astore X dL_law_2003 (by decide) ?_
          refine ne_ll (L' := [some (.ref 0), some (.ref 1), some (.ref 13), some (.ref 20), some (ni _), some (ni _), some (.ref 22)]) rfl ?_
          refine ne_goto (tgt := 2331) X dL_law_2005 rfl ?_
          refine ne_lnone 5 (ne_lnone 6 ?_)
          refine ne_ll (L' := [some (.ref 0), some (.ref 1), some (.ref 13), some (.ref 20), some (ni i), none, none]) rfl ?_
          refine ne_take 22 ?_
          refine ne_ws lw_tk2 ?_
          refine ne_less (C' := C - 500) (S' := S - 3500) (by omega) (by omega) ?_
          exact kk _ _ _ _ _ _ _ _ _ _ _ _ hI1 hM1 hP (Or.inr rfl)
      · refine ne_viewb [0, 1, 2, 3, 4, 5, 6, 7, 8, 9, 10, 11, 12, 13, 14, 15, 16, 17, 18, 19, 20, 22] (ws' := lW c q t b k n h x1 y1 c q t b k h mv9 (nl u1) (.ref 21)) (L' := [some (.ref 0), some (.ref 1), some (.ref 13), some (.ref 20), some (ni i), none, none]) (st' := [ni z1962]) lw_vw (by decide) lw_vl rfl rfl rfl ?_
        refine ne_istore X dL_law_1965 (by decide) ?_
        refine ne_aload_n X dL_law_1967 rfl ?_
        refine ne_aload_n X dL_law_1968 rfl ?_
        refine ne_iload X dL_law_1969 rfl ?_
        refine ne_iconst X dL_law_1971 ?_
        refine ne_iadd X dL_law_1972 ?_
        refine ne_sld X hX hbl hbA hb0 (by decide) (by omega) dL_law_1973 (fun z1973 e1973 l1973 r1973 => ?_)
        have y1973 : z1934 = z1973 := e1934.trans e1973.symm
        subst y1973
        refine ne_aload_n X dL_law_1974 rfl ?_
        refine ne_iload X dL_law_1975 rfl ?_
        refine ne_iconst X dL_law_1977 ?_
        refine ne_iadd X dL_law_1978 ?_
        refine ne_sld X hX hbl hbA hb0 (by decide) (by omega) dL_law_1979 (fun z1979 e1979 l1979 r1979 => ?_)
        have y1979 : z1940 = z1979 := e1940.trans e1979.symm
        subst y1979
        refine ne_if_eq (tgt := 1987) X dL_law_1980 rfl (by omega) (fun b1980 => ?_) (fun b1980 => ?_)
        · refine ne_iconst X dL_law_1987 ?_
          refine ne_aload_n X dL_law_1988 rfl ?_
          refine ne_iload X dL_law_1989 rfl ?_
          refine ne_iconst X dL_law_1991 ?_
          refine ne_iadd X dL_law_1992 ?_
          refine ne_sld X hX hbl hbA hb0 (by decide) (by omega) dL_law_1993 (fun z1993 e1993 l1993 r1993 => ?_)
          have y1993 : z1954 = z1993 := e1954.trans e1993.symm
          subst y1993
          refine ne_aload_n X dL_law_1994 rfl ?_
          refine ne_iload X dL_law_1995 rfl ?_
          refine ne_iconst X dL_law_1997 ?_
          refine ne_iadd X dL_law_1998 ?_
          refine ne_sld X hX hbl hbA hb0 (by decide) (by omega) dL_law_1999 (fun z1999 e1999 l1999 r1999 => ?_)
          have y1999 : z1960 = z1999 := e1960.trans e1999.symm
          subst y1999
          refine ne_callVF (is := [13, 14, 15, 16, 17, 18, 19]) X nw_Tg (me_X3_cutText l hl c q t b k h mv9 T hM (by omega) _ _ _ _ (by omega) (by omega) (by omega) (by omega)) nw_yX3_cutText nw_mL_295 nw_iX3_cutText nw_eX3_cutText (ci := 5) rfl rfl rfl dL_law_2000 rfl rfl (by decide) (by decide) (by first | decide | omega) (by first | decide | omega) (Nat.le_of_ble_eq_true rfl) rfl rfl rfl (Nat.le_of_ble_eq_true rfl) lw_pt2 ?_ ?_
          rotate_left
          · rintro E9 w9 h9; exact h9.elim
          rintro v2000 w2000 ⟨⟨mv91, rfl, hM1⟩, rfl⟩
          refine ne_ws lw_mg4 ?_
          refine ne_astore X dL_law_2003 (by decide) ?_
          refine ne_ll (L' := [some (.ref 0), some (.ref 1), some (.ref 13), some (.ref 20), some (ni _), some (ni _), some (.ref 22)]) rfl ?_
          refine ne_goto (tgt := 2331) X dL_law_2005 rfl ?_
          refine ne_lnone 5 (ne_lnone 6 ?_)
          refine ne_ll (L' := [some (.ref 0), some (.ref 1), some (.ref 13), some (.ref 20), some (ni i), none, none]) rfl ?_
          refine ne_take 22 ?_
          refine ne_ws lw_tk2 ?_
          refine ne_less (C' := C - 500) (S' := S - 3500) (by omega) (by omega) ?_
          exact kk _ _ _ _ _ _ _ _ _ _ _ _ hI1 hM1 hP (Or.inr rfl)
        · refine ne_iconst X dL_law_1983 ?_
          refine ne_goto (tgt := 1988) X dL_law_1984 rfl ?_
          refine ne_aload_n X dL_law_1988 rfl ?_
          refine ne_iload X dL_law_1989 rfl ?_
          refine ne_iconst X dL_law_1991 ?_
          refine ne_iadd X dL_law_1992 ?_
          refine ne_sld X hX hbl hbA hb0 (by decide) (by omega) dL_law_1993 (fun z1993 e1993 l1993 r1993 => ?_)
          have y1993 : z1954 = z1993 := e1954.trans e1993.symm
          subst y1993
          refine ne_aload_n X dL_law_1994 rfl ?_
          refine ne_iload X dL_law_1995 rfl ?_
          refine ne_iconst X dL_law_1997 ?_
          refine ne_iadd X dL_law_1998 ?_
          refine ne_sld X hX hbl hbA hb0 (by decide) (by omega) dL_law_1999 (fun z1999 e1999 l1999 r1999 => ?_)
          have y1999 : z1960 = z1999 := e1960.trans e1999.symm
          subst y1999
          refine ne_callVF (is := [13, 14, 15, 16, 17, 18, 19]) X nw_Tg (me_X3_cutText l hl c q t b k h mv9 T hM (by omega) _ _ _ _ (by omega) (by omega) (by omega) (by omega)) nw_yX3_cutText nw_mL_295 nw_iX3_cutText nw_eX3_cutText (ci := 5) rfl rfl rfl dL_law_2000 rfl rfl (by decide) (by decide) (by first | decide | omega) (by first | decide | omega) (Nat.le_of_ble_eq_true rfl) rfl rfl rfl (Nat.le_of_ble_eq_true rfl) lw_pt2 ?_ ?_
          rotate_left
          · rintro E9 w9 h9; exact h9.elim
          rintro v2000 w2000 ⟨⟨mv91, rfl, hM1⟩, rfl⟩
          refine ne_ws lw_mg4 ?_
          refine ne_astore X dL_law_2003 (by decide) ?_
          refine ne_ll (L' := [some (.ref 0), some (.ref 1), some (.ref 13), some (.ref 20), some (ni _), some (ni _), some (.ref 22)]) rfl ?_
          refine ne_goto (tgt := 2331) X dL_law_2005 rfl ?_
          refine ne_lnone 5 (ne_lnone 6 ?_)
          refine ne_ll (L' := [some (.ref 0), some (.ref 1), some (.ref 13), some (.ref 20), some (ni i), none, none]) rfl ?_
          refine ne_take 22 ?_
          refine ne_ws lw_tk2 ?_
          refine ne_less (C' := C - 500) (S' := S - 3500) (by omega) (by omega) ?_
          exact kk _ _ _ _ _ _ _ _ _ _ _ _ hI1 hM1 hP (Or.inr rfl)
set_option maxRecDepth 100000 in
set_option maxHeartbeats 4000000 in
theorem lc_37 (hl : l.stackTraces = false) (X : ne_F nw_cl D ct A p l room_1 s9 m args meth c9 RL cL_law 7 nw_T 20 1000 888398 6436287) (hX : va_X b9 N9 xs s9 s9.heap) (hbl : b9 < s9.heap.size) (hbA : ¬ A b9) (hb0 : ad0 0 = b9) (i T : Int) (hi : 0 ≤ i ∧ i + 6 ≤ N9 ∧ N9 ≤ 384) (hT : 0 ≤ T ∧ T ≤ 100) (c q t b k n h x y  : Nat → Int) (mv9 u : Int) (sv : Value) (hI : cI c q t b k n h x y T) (hM : mI c q t b k h mv9 T) (hP : ∀ j : Nat, ne_per (t j) (b j) (n j)) (hs : sv = .null ∨ sv = .ref 21) (C S : Nat) (hC : 500 ≤ C) (hS : 3500 ≤ S) (kk : ∀ (c q t b k n h x y  : Nat → Int) (mv9 u : Int) (sv : Value), cI c q t b k n h x y (T + 1) → mI c q t b k h mv9 (T + 1) → (∀ j : Nat, ne_per (t j) (b j) (n j)) → (sv = .null ∨ sv = .ref 21) → ne_G nw_cl D ct A 1 ad0 p l e room_1 s9 m args below meth c9 Q9 7 888398 6436287 (C - 500) (S - 3500) 2331 [some (.ref 0), some (.ref 1), some (.ref 13), some (.ref 20), some (ni i), none, none] [] (lW c q t b k n h x y c q t b k h mv9 (nl u) sv)) : ne_G nw_cl D ct A 1 ad0 p l e room_1 s9 m args below meth c9 Q9 7 888398 6436287 C S 2008 [some (.ref 0), some (.ref 1), some (.ref 13), some (.ref 20), some (ni i), none, none] [] (lW c q t b k n h x y c q t b k h mv9 (nl u) sv) := by
  rcases hs with rfl | rfl
  · refine ne_aload_n X dL_law_2008 rfl ?_
    refine ne_aload_n X dL_law_2009 rfl ?_
    refine ne_iload X dL_law_2010 rfl ?_
    refine ne_iconst X dL_law_2012 ?_
    refine ne_iadd X dL_law_2013 ?_
    refine ne_sld X hX hbl hbA hb0 (by decide) (by omega) dL_law_2014 (fun z2014 e2014 l2014 r2014 => ?_)
    refine ne_aload_n X dL_law_2015 rfl ?_
    refine ne_callSFW (is := [1, 2, 3, 4, 5, 6, 7, 8, 9, 10, 11, 12, 20, 21]) X nw_Tg (me_L_number l hl c q t b k n h x y T hI (by omega) u .null (Or.inl rfl) _ (by omega)) nw_yL_number nw_mL_296 nw_sL_number dL_law_2016 rfl rfl (by decide) (by decide) (by first | decide | omega) (by first | decide | omega) (Nat.le_of_ble_eq_true rfl) rfl rfl rfl (Nat.le_of_ble_eq_true rfl) (lw_pt1 (s := .null)) ?_ ?_
    rotate_left
    · rintro E9 w9 h9; exact h9.elim
    rintro v2016 w2016 ⟨x1, y1, u1, s1, rfl, hI1, hs1, z2016, rfl⟩
    rcases hs1 with rfl | rfl
    · refine ne_take 22 ?_
      refine ne_ws lw_tkN ?_
      refine ne_istore X dL_law_2019 (by decide) ?_
      refine ne_aload_n X dL_law_2021 rfl ?_
      refine ne_aload_n X dL_law_2022 rfl ?_
      refine ne_iload X dL_law_2023 rfl ?_
      refine ne_iconst X dL_law_2025 ?_
      refine ne_iadd X dL_law_2026 ?_
      refine ne_sld X hX hbl hbA hb0 (by decide) (by omega) dL_law_2027 (fun z2027 e2027 l2027 r2027 => ?_)
      have y2027 : z2014 = z2027 := e2014.trans e2027.symm
      subst y2027
      refine ne_callVF (is := [13, 14, 15, 16, 17, 18, 19]) X nw_Tg (me_X3_number_ l hl c q t b k h mv9 T hM (by omega) _ (by omega)) nw_yX3_number_ nw_mL_298 nw_iX3_number_ nw_eX3_number_ (ci := 5) rfl rfl rfl dL_law_2028 rfl rfl (by decide) (by decide) (by first | decide | omega) (by first | decide | omega) (Nat.le_of_ble_eq_true rfl) rfl rfl rfl (Nat.le_of_ble_eq_true rfl) lw_pt2 ?_ ?_
      rotate_left
      · rintro E9 w9 h9; exact h9.elim
      rintro v2028 w2028 ⟨⟨mv91, rfl, hM1⟩, rfl⟩
      refine ne_ws lw_mg4 ?_
      refine ne_astore X dL_law_2031 (by decide) ?_
      refine ne_ll (L' := [some (.ref 0), some (.ref 1), some (.ref 13), some (.ref 20), some (ni _), some (ni _), some (.ref 22)]) rfl ?_
      refine ne_goto (tgt := 2331) X dL_law_2033 rfl ?_
      refine ne_lnone 5 (ne_lnone 6 ?_)
      refine ne_ll (L' := [some (.ref 0), some (.ref 1), some (.ref 13), some (.ref 20), some (ni i), none, none]) rfl ?_
      refine ne_take 22 ?_
      refine ne_ws lw_tk2 ?_
      refine ne_less (C' := C - 500) (S' := S - 3500) (by omega) (by omega) ?_
      exact kk _ _ _ _ _ _ _ _ _ _ _ _ hI1 hM1 hP (Or.inl rfl)
    · refine ne_viewb [0, 1, 2, 3, 4, 5, 6, 7, 8, 9, 10, 11, 12, 13, 14, 15, 16, 17, 18, 19, 20, 22] (ws' := lW c q t b k n h x1 y1 c q t b k h mv9 (nl u1) (.ref 21)) (L' := [some (.ref 0), some (.ref 1), some (.ref 13), some (.ref 20), some (ni i), none, none]) (st' := [ni z2016]) lw_vw (by decide) lw_vl rfl rfl rfl ?_
      refine ne_istore X dL_law_2019 (by decide) ?_
      refine ne_aload_n X dL_law_2021 rfl ?_
      refine ne_aload_n X dL_law_2022 rfl ?_
      refine ne_iload X dL_law_2023 rfl ?_
      refine ne_iconst X dL_law_2025 ?_
      refine ne_iadd X dL_law_2026 ?_
      refine ne_sld X hX hbl hbA hb0 (by decide) (by omega) dL_law_2027 (fun z2027 e2027 l2027 r2027 => ?_)
      have y2027 : z2014 = z2027 := e2014.trans e2027.symm
      subst y2027
      refine ne_callVF (is := [13, 14, 15, 16, 17, 18, 19]) X nw_Tg (me_X3_number_ l hl c q t b k h mv9 T hM (by omega) _ (by omega)) nw_yX3_number_ nw_mL_298 nw_iX3_number_ nw_eX3_number_ (ci := 5) rfl rfl rfl dL_law_2028 rfl rfl (by decide) (by decide) (by first | decide | omega) (by first | decide | omega) (Nat.le_of_ble_eq_true rfl) rfl rfl rfl (Nat.le_of_ble_eq_true rfl) lw_pt2 ?_ ?_
      rotate_left
      · rintro E9 w9 h9; exact h9.elim
      rintro v2028 w2028 ⟨⟨mv91, rfl, hM1⟩, rfl⟩
      refine ne_ws lw_mg4 ?_
      refine ne_astore X dL_law_2031 (by decide) ?_
      refine ne_ll (L' := [some (.ref 0), some (.ref 1), some (.ref 13), some (.ref 20), some (ni _), some (ni _), some (.ref 22)]) rfl ?_
      refine ne_goto (tgt := 2331) X dL_law_2033 rfl ?_
      refine ne_lnone 5 (ne_lnone 6 ?_)
      refine ne_ll (L' := [some (.ref 0), some (.ref 1), some (.ref 13), some (.ref 20), some (ni i), none, none]) rfl ?_
      refine ne_take 22 ?_
      refine ne_ws lw_tk2 ?_
      refine ne_less (C' := C - 500) (S' := S - 3500) (by omega) (by omega) ?_
      exact kk _ _ _ _ _ _ _ _ _ _ _ _ hI1 hM1 hP (Or.inr rfl)
  · refine ne_aload_n X dL_law_2008 rfl ?_
    refine ne_aload_n X dL_law_2009 rfl ?_
    refine ne_iload X dL_law_2010 rfl ?_
    refine ne_iconst X dL_law_2012 ?_
    refine ne_iadd X dL_law_2013 ?_
    refine ne_sld X hX hbl hbA hb0 (by decide) (by omega) dL_law_2014 (fun z2014 e2014 l2014 r2014 => ?_)
    refine ne_aload_n X dL_law_2015 rfl ?_
    refine ne_callSFW (is := [1, 2, 3, 4, 5, 6, 7, 8, 9, 10, 11, 12, 20, 21]) X nw_Tg (me_L_number l hl c q t b k n h x y T hI (by omega) u (.ref 13) (Or.inr rfl) _ (by omega)) nw_yL_number nw_mL_296 nw_sL_number dL_law_2016 rfl rfl (by decide) (by decide) (by first | decide | omega) (by first | decide | omega) (Nat.le_of_ble_eq_true rfl) rfl rfl rfl (Nat.le_of_ble_eq_true rfl) (lw_pt1 (s := .ref 13)) ?_ ?_
    rotate_left
    · rintro E9 w9 h9; exact h9.elim
    rintro v2016 w2016 ⟨x1, y1, u1, s1, rfl, hI1, hs1, z2016, rfl⟩
    rcases hs1 with rfl | rfl
    · refine ne_take 22 ?_
      refine ne_ws lw_tkR ?_
      refine ne_istore X dL_law_2019 (by decide) ?_
      refine ne_aload_n X dL_law_2021 rfl ?_
      refine ne_aload_n X dL_law_2022 rfl ?_
      refine ne_iload X dL_law_2023 rfl ?_
      refine ne_iconst X dL_law_2025 ?_
      refine ne_iadd X dL_law_2026 ?_
      refine ne_sld X hX hbl hbA hb0 (by decide) (by omega) dL_law_2027 (fun z2027 e2027 l2027 r2027 => ?_)
      have y2027 : z2014 = z2027 := e2014.trans e2027.symm
      subst y2027
      refine ne_callVF (is := [13, 14, 15, 16, 17, 18, 19]) X nw_Tg (me_X3_number_ l hl c q t b k h mv9 T hM (by omega) _ (by omega)) nw_yX3_number_ nw_mL_298 nw_iX3_number_ nw_eX3_number_ (ci := 5) rfl rfl rfl dL_law_2028 rfl rfl (by decide) (by decide) (by first | decide | omega) (by first | decide | omega) (Nat.le_of_ble_eq_true rfl) rfl rfl rfl (Nat.le_of_ble_eq_true rfl) lw_pt2 ?_ ?_
      rotate_left
      · rintro E9 w9 h9; exact h9.elim
      rintro v2028 w2028 ⟨⟨mv91, rfl, hM1⟩, rfl⟩
      refine ne_ws lw_mg4 ?_
      refine ne_astore X dL_law_2031 (by decide) ?_
      refine ne_ll (L' := [some (.ref 0), some (.ref 1), some (.ref 13), some (.ref 20), some (ni _), some (ni _), some (.ref 22)]) rfl ?_
      refine ne_goto (tgt := 2331) X dL_law_2033 rfl ?_
      refine ne_lnone 5 (ne_lnone 6 ?_)
      refine ne_ll (L' := [some (.ref 0), some (.ref 1), some (.ref 13), some (.ref 20), some (ni i), none, none]) rfl ?_
      refine ne_take 22 ?_
      refine ne_ws lw_tk2 ?_
      refine ne_less (C' := C - 500) (S' := S - 3500) (by omega) (by omega) ?_
      exact kk _ _ _ _ _ _ _ _ _ _ _ _ hI1 hM1 hP (Or.inr rfl)
    · refine ne_viewb [0, 1, 2, 3, 4, 5, 6, 7, 8, 9, 10, 11, 12, 13, 14, 15, 16, 17, 18, 19, 20, 22] (ws' := lW c q t b k n h x1 y1 c q t b k h mv9 (nl u1) (.ref 21)) (L' := [some (.ref 0), some (.ref 1), some (.ref 13), some (.ref 20), some (ni i), none, none]) (st' := [ni z2016]) lw_vw (by decide) lw_vl rfl rfl rfl ?_
      refine ne_istore X dL_law_2019 (by decide) ?_
      refine ne_aload_n X dL_law_2021 rfl ?_
      refine ne_aload_n X dL_law_2022 rfl ?_
      refine ne_iload X dL_law_2023 rfl ?_
      refine ne_iconst X dL_law_2025 ?_
      refine ne_iadd X dL_law_2026 ?_
      refine ne_sld X hX hbl hbA hb0 (by decide) (by omega) dL_law_2027 (fun z2027 e2027 l2027 r2027 => ?_)
      have y2027 : z2014 = z2027 := e2014.trans e2027.symm
      subst y2027
      refine ne_callVF (is := [13, 14, 15, 16, 17, 18, 19]) X nw_Tg (me_X3_number_ l hl c q t b k h mv9 T hM (by omega) _ (by omega)) nw_yX3_number_ nw_mL_298 nw_iX3_number_ nw_eX3_number_ (ci := 5) rfl rfl rfl dL_law_2028 rfl rfl (by decide) (by decide) (by first | decide | omega) (by first | decide | omega) (Nat.le_of_ble_eq_true rfl) rfl rfl rfl (Nat.le_of_ble_eq_true rfl) lw_pt2 ?_ ?_
      rotate_left
      · rintro E9 w9 h9; exact h9.elim
      rintro v2028 w2028 ⟨⟨mv91, rfl, hM1⟩, rfl⟩
      refine ne_ws lw_mg4 ?_
      refine ne_astore X dL_law_2031 (by decide) ?_
      refine ne_ll (L' := [some (.ref 0), some (.ref 1), some (.ref 13), some (.ref 20), some (ni _), some (ni _), some (.ref 22)]) rfl ?_
      refine ne_goto (tgt := 2331) X dL_law_2033 rfl ?_
      refine ne_lnone 5 (ne_lnone 6 ?_)
      refine ne_ll (L' := [some (.ref 0), some (.ref 1), some (.ref 13), some (.ref 20), some (ni i), none, none]) rfl ?_
      refine ne_take 22 ?_
      refine ne_ws lw_tk2 ?_
      refine ne_less (C' := C - 500) (S' := S - 3500) (by omega) (by omega) ?_
      exact kk _ _ _ _ _ _ _ _ _ _ _ _ hI1 hM1 hP (Or.inr rfl)
set_option maxRecDepth 100000 in
set_option maxHeartbeats 4000000 in
theorem lc_38 (hl : l.stackTraces = false) (X : ne_F nw_cl D ct A p l room_1 s9 m args meth c9 RL cL_law 7 nw_T 20 1000 888398 6436287) (hX : va_X b9 N9 xs s9 s9.heap) (hbl : b9 < s9.heap.size) (hbA : ¬ A b9) (hb0 : ad0 0 = b9) (i T : Int) (hi : 0 ≤ i ∧ i + 6 ≤ N9 ∧ N9 ≤ 384) (hT : 0 ≤ T ∧ T ≤ 100) (c q t b k n h x y  : Nat → Int) (mv9 u : Int) (sv : Value) (hI : cI c q t b k n h x y T) (hM : mI c q t b k h mv9 T) (hP : ∀ j : Nat, ne_per (t j) (b j) (n j)) (hs : sv = .null ∨ sv = .ref 21) (C S : Nat) (hC : 500 ≤ C) (hS : 3500 ≤ S) (kk : ∀ (c q t b k n h x y  : Nat → Int) (mv9 u : Int) (sv : Value), cI c q t b k n h x y (T + 1) → mI c q t b k h mv9 (T + 1) → (∀ j : Nat, ne_per (t j) (b j) (n j)) → (sv = .null ∨ sv = .ref 21) → ne_G nw_cl D ct A 1 ad0 p l e room_1 s9 m args below meth c9 Q9 7 888398 6436287 (C - 500) (S - 3500) 2331 [some (.ref 0), some (.ref 1), some (.ref 13), some (.ref 20), some (ni i), none, none] [] (lW c q t b k n h x y c q t b k h mv9 (nl u) sv)) : ne_G nw_cl D ct A 1 ad0 p l e room_1 s9 m args below meth c9 Q9 7 888398 6436287 C S 2036 [some (.ref 0), some (.ref 1), some (.ref 13), some (.ref 20), some (ni i), none, none] [] (lW c q t b k n h x y c q t b k h mv9 (nl u) sv) := by
  rcases hs with rfl | rfl
  · refine ne_aload_n X dL_law_2036 rfl ?_
    refine ne_aload_n X dL_law_2037 rfl ?_
    refine ne_iload X dL_law_2038 rfl ?_
    refine ne_iconst X dL_law_2040 ?_
    refine ne_iadd X dL_law_2041 ?_
    refine ne_sld X hX hbl hbA hb0 (by decide) (by omega) dL_law_2042 (fun z2042 e2042 l2042 r2042 => ?_)
    refine ne_aload_n X dL_law_2043 rfl ?_
    refine ne_callSFW (is := [1, 2, 3, 4, 5, 6, 7, 8, 9, 10, 11, 12, 20, 21]) X nw_Tg (me_L_product l hl c q t b k n h x y T hI (by omega) u .null (Or.inl rfl) _ (by omega)) nw_yL_product nw_mL_299 nw_sL_product dL_law_2044 rfl rfl (by decide) (by decide) (by first | decide | omega) (by first | decide | omega) (Nat.le_of_ble_eq_true rfl) rfl rfl rfl (Nat.le_of_ble_eq_true rfl) (lw_pt1 (s := .null)) ?_ ?_
    rotate_left
    · rintro E9 w9 h9; exact h9.elim
    rintro v2044 w2044 ⟨x1, y1, u1, s1, rfl, hI1, hs1, z2044, rfl⟩
    rcases hs1 with rfl | rfl
    · refine ne_take 22 ?_
      refine ne_ws lw_tkN ?_
      refine ne_istore X dL_law_2047 (by decide) ?_
      refine ne_aload_n X dL_law_2049 rfl ?_
      refine ne_aload_n X dL_law_2050 rfl ?_
      refine ne_iload X dL_law_2051 rfl ?_
      refine ne_iconst X dL_law_2053 ?_
      refine ne_iadd X dL_law_2054 ?_
      refine ne_sld X hX hbl hbA hb0 (by decide) (by omega) dL_law_2055 (fun z2055 e2055 l2055 r2055 => ?_)
      have y2055 : z2042 = z2055 := e2042.trans e2055.symm
      subst y2055
      refine ne_callVF (is := [13, 14, 15, 16, 17, 18, 19]) X nw_Tg (me_X3_product l hl c q t b k h mv9 T hM (by omega) _ (by omega)) nw_yX3_product nw_mL_301 nw_iX3_product nw_eX3_product (ci := 5) rfl rfl rfl dL_law_2056 rfl rfl (by decide) (by decide) (by first | decide | omega) (by first | decide | omega) (Nat.le_of_ble_eq_true rfl) rfl rfl rfl (Nat.le_of_ble_eq_true rfl) lw_pt2 ?_ ?_
      rotate_left
      · rintro E9 w9 h9; exact h9.elim
      rintro v2056 w2056 ⟨⟨mv91, rfl, hM1⟩, rfl⟩
      refine ne_ws lw_mg4 ?_
      refine ne_astore X dL_law_2059 (by decide) ?_
      refine ne_ll (L' := [some (.ref 0), some (.ref 1), some (.ref 13), some (.ref 20), some (ni _), some (ni _), some (.ref 22)]) rfl ?_
      refine ne_goto (tgt := 2331) X dL_law_2061 rfl ?_
      refine ne_lnone 5 (ne_lnone 6 ?_)
      refine ne_ll (L' := [some (.ref 0), some (.ref 1), some (.ref 13), some (.ref 20), some (ni i), none, none]) rfl ?_
      refine ne_take 22 ?_
      refine ne_ws lw_tk2 ?_
      refine ne_less (C' := C - 500) (S' := S - 3500) (by omega) (by omega) ?_
      exact kk _ _ _ _ _ _ _ _ _ _ _ _ hI1 hM1 hP (Or.inl rfl)
    · refine ne_viewb [0, 1, 2, 3, 4, 5, 6, 7, 8, 9, 10, 11, 12, 13, 14, 15, 16, 17, 18, 19, 20, 22] (ws' := lW c q t b k n h x1 y1 c q t b k h mv9 (nl u1) (.ref 21)) (L' := [some (.ref 0), some (.ref 1), some (.ref 13), some (.ref 20), some (ni i), none, none]) (st' := [ni z2044]) lw_vw (by decide) lw_vl rfl rfl rfl ?_
      refine ne_istore X dL_law_2047 (by decide) ?_
      refine ne_aload_n X dL_law_2049 rfl ?_
      refine ne_aload_n X dL_law_2050 rfl ?_
      refine ne_iload X dL_law_2051 rfl ?_
      refine ne_iconst X dL_law_2053 ?_
      refine ne_iadd X dL_law_2054 ?_
      refine ne_sld X hX hbl hbA hb0 (by decide) (by omega) dL_law_2055 (fun z2055 e2055 l2055 r2055 => ?_)
      have y2055 : z2042 = z2055 := e2042.trans e2055.symm
      subst y2055
      refine ne_callVF (is := [13, 14, 15, 16, 17, 18, 19]) X nw_Tg (me_X3_product l hl c q t b k h mv9 T hM (by omega) _ (by omega)) nw_yX3_product nw_mL_301 nw_iX3_product nw_eX3_product (ci := 5) rfl rfl rfl dL_law_2056 rfl rfl (by decide) (by decide) (by first | decide | omega) (by first | decide | omega) (Nat.le_of_ble_eq_true rfl) rfl rfl rfl (Nat.le_of_ble_eq_true rfl) lw_pt2 ?_ ?_
      rotate_left
      · rintro E9 w9 h9; exact h9.elim
      rintro v2056 w2056 ⟨⟨mv91, rfl, hM1⟩, rfl⟩
      refine ne_ws lw_mg4 ?_
      refine ne_astore X dL_law_2059 (by decide) ?_
      refine ne_ll (L' := [some (.ref 0), some (.ref 1), some (.ref 13), some (.ref 20), some (ni _), some (ni _), some (.ref 22)]) rfl ?_
      refine ne_goto (tgt := 2331) X dL_law_2061 rfl ?_
      refine ne_lnone 5 (ne_lnone 6 ?_)
      refine ne_ll (L' := [some (.ref 0), some (.ref 1), some (.ref 13), some (.ref 20), some (ni i), none, none]) rfl ?_
      refine ne_take 22 ?_
      refine ne_ws lw_tk2 ?_
      refine ne_less (C' := C - 500) (S' := S - 3500) (by omega) (by omega) ?_
      exact kk _ _ _ _ _ _ _ _ _ _ _ _ hI1 hM1 hP (Or.inr rfl)
  · refine ne_aload_n X dL_law_2036 rfl ?_
    refine ne_aload_n X dL_law_2037 rfl ?_
    refine ne_iload X dL_law_2038 rfl ?_
    refine ne_iconst X dL_law_2040 ?_
    refine ne_iadd X dL_law_2041 ?_
    refine ne_sld X hX hbl hbA hb0 (by decide) (by omega) dL_law_2042 (fun z2042 e2042 l2042 r2042 => ?_)
    refine ne_aload_n X dL_law_2043 rfl ?_
    refine ne_callSFW (is := [1, 2, 3, 4, 5, 6, 7, 8, 9, 10, 11, 12, 20, 21]) X nw_Tg (me_L_product l hl c q t b k n h x y T hI (by omega) u (.ref 13) (Or.inr rfl) _ (by omega)) nw_yL_product nw_mL_299 nw_sL_product dL_law_2044 rfl rfl (by decide) (by decide) (by first | decide | omega) (by first | decide | omega) (Nat.le_of_ble_eq_true rfl) rfl rfl rfl (Nat.le_of_ble_eq_true rfl) (lw_pt1 (s := .ref 13)) ?_ ?_
    rotate_left
    · rintro E9 w9 h9; exact h9.elim
    rintro v2044 w2044 ⟨x1, y1, u1, s1, rfl, hI1, hs1, z2044, rfl⟩
    rcases hs1 with rfl | rfl
    · refine ne_take 22 ?_
      refine ne_ws lw_tkR ?_
      refine ne_istore X dL_law_2047 (by decide) ?_
      refine ne_aload_n X dL_law_2049 rfl ?_
      refine ne_aload_n X dL_law_2050 rfl ?_
      refine ne_iload X dL_law_2051 rfl ?_
      refine ne_iconst X dL_law_2053 ?_
      refine ne_iadd X dL_law_2054 ?_
      refine ne_sld X hX hbl hbA hb0 (by decide) (by omega) dL_law_2055 (fun z2055 e2055 l2055 r2055 => ?_)
      have y2055 : z2042 = z2055 := e2042.trans e2055.symm
      subst y2055
      refine ne_callVF (is := [13, 14, 15, 16, 17, 18, 19]) X nw_Tg (me_X3_product l hl c q t b k h mv9 T hM (by omega) _ (by omega)) nw_yX3_product nw_mL_301 nw_iX3_product nw_eX3_product (ci := 5) rfl rfl rfl dL_law_2056 rfl rfl (by decide) (by decide) (by first | decide | omega) (by first | decide | omega) (Nat.le_of_ble_eq_true rfl) rfl rfl rfl (Nat.le_of_ble_eq_true rfl) lw_pt2 ?_ ?_
      rotate_left
      · rintro E9 w9 h9; exact h9.elim
      rintro v2056 w2056 ⟨⟨mv91, rfl, hM1⟩, rfl⟩
      refine ne_ws lw_mg4 ?_
      refine ne_astore X dL_law_2059 (by decide) ?_
      refine ne_ll (L' := [some (.ref 0), some (.ref 1), some (.ref 13), some (.ref 20), some (ni _), some (ni _), some (.ref 22)]) rfl ?_
      refine ne_goto (tgt := 2331) X dL_law_2061 rfl ?_
      refine ne_lnone 5 (ne_lnone 6 ?_)
      refine ne_ll (L' := [some (.ref 0), some (.ref 1), some (.ref 13), some (.ref 20), some (ni i), none, none]) rfl ?_
      refine ne_take 22 ?_
      refine ne_ws lw_tk2 ?_
      refine ne_less (C' := C - 500) (S' := S - 3500) (by omega) (by omega) ?_
      exact kk _ _ _ _ _ _ _ _ _ _ _ _ hI1 hM1 hP (Or.inr rfl)
    · refine ne_viewb [0, 1, 2, 3, 4, 5, 6, 7, 8, 9, 10, 11, 12, 13, 14, 15, 16, 17, 18, 19, 20, 22] (ws' := lW c q t b k n h x1 y1 c q t b k h mv9 (nl u1) (.ref 21)) (L' := [some (.ref 0), some (.ref 1), some (.ref 13), some (.ref 20), some (ni i), none, none]) (st' := [ni z2044]) lw_vw (by decide) lw_vl rfl rfl rfl ?_
      refine ne_istore X dL_law_2047 (by decide) ?_
      refine ne_aload_n X dL_law_2049 rfl ?_
      refine ne_aload_n X dL_law_2050 rfl ?_
      refine ne_iload X dL_law_2051 rfl ?_
      refine ne_iconst X dL_law_2053 ?_
      refine ne_iadd X dL_law_2054 ?_
      refine ne_sld X hX hbl hbA hb0 (by decide) (by omega) dL_law_2055 (fun z2055 e2055 l2055 r2055 => ?_)
      have y2055 : z2042 = z2055 := e2042.trans e2055.symm
      subst y2055
      refine ne_callVF (is := [13, 14, 15, 16, 17, 18, 19]) X nw_Tg (me_X3_product l hl c q t b k h mv9 T hM (by omega) _ (by omega)) nw_yX3_product nw_mL_301 nw_iX3_product nw_eX3_product (ci := 5) rfl rfl rfl dL_law_2056 rfl rfl (by decide) (by decide) (by first | decide | omega) (by first | decide | omega) (Nat.le_of_ble_eq_true rfl) rfl rfl rfl (Nat.le_of_ble_eq_true rfl) lw_pt2 ?_ ?_
      rotate_left
      · rintro E9 w9 h9; exact h9.elim
      rintro v2056 w2056 ⟨⟨mv91, rfl, hM1⟩, rfl⟩
      refine ne_ws lw_mg4 ?_
      refine ne_astore X dL_law_2059 (by decide) ?_
      refine ne_ll (L' := [some (.ref 0), some (.ref 1), some (.ref 13), some (.ref 20), some (ni _), some (ni _), some (.ref 22)]) rfl ?_
      refine ne_goto (tgt := 2331) X dL_law_2061 rfl ?_
      refine ne_lnone 5 (ne_lnone 6 ?_)
      refine ne_ll (L' := [some (.ref 0), some (.ref 1), some (.ref 13), some (.ref 20), some (ni i), none, none]) rfl ?_
      refine ne_take 22 ?_
      refine ne_ws lw_tk2 ?_
      refine ne_less (C' := C - 500) (S' := S - 3500) (by omega) (by omega) ?_
      exact kk _ _ _ _ _ _ _ _ _ _ _ _ hI1 hM1 hP (Or.inr rfl)
set_option maxRecDepth 100000 in
set_option maxHeartbeats 4000000 in
theorem lc_39 (hl : l.stackTraces = false) (X : ne_F nw_cl D ct A p l room_1 s9 m args meth c9 RL cL_law 7 nw_T 20 1000 888398 6436287) (hX : va_X b9 N9 xs s9 s9.heap) (hbl : b9 < s9.heap.size) (hbA : ¬ A b9) (hb0 : ad0 0 = b9) (i T : Int) (hi : 0 ≤ i ∧ i + 6 ≤ N9 ∧ N9 ≤ 384) (hT : 0 ≤ T ∧ T ≤ 100) (c q t b k n h x y  : Nat → Int) (mv9 u : Int) (sv : Value) (hI : cI c q t b k n h x y T) (hM : mI c q t b k h mv9 T) (hP : ∀ j : Nat, ne_per (t j) (b j) (n j)) (hs : sv = .null ∨ sv = .ref 21) (C S : Nat) (hC : 500 ≤ C) (hS : 3500 ≤ S) (kk : ∀ (c q t b k n h x y  : Nat → Int) (mv9 u : Int) (sv : Value), cI c q t b k n h x y (T + 1) → mI c q t b k h mv9 (T + 1) → (∀ j : Nat, ne_per (t j) (b j) (n j)) → (sv = .null ∨ sv = .ref 21) → ne_G nw_cl D ct A 1 ad0 p l e room_1 s9 m args below meth c9 Q9 7 888398 6436287 (C - 500) (S - 3500) 2331 [some (.ref 0), some (.ref 1), some (.ref 13), some (.ref 20), some (ni i), none, none] [] (lW c q t b k n h x y c q t b k h mv9 (nl u) sv)) : ne_G nw_cl D ct A 1 ad0 p l e room_1 s9 m args below meth c9 Q9 7 888398 6436287 C S 2064 [some (.ref 0), some (.ref 1), some (.ref 13), some (.ref 20), some (ni i), none, none] [] (lW c q t b k n h x y c q t b k h mv9 (nl u) sv) := by
  rcases hs with rfl | rfl
  · refine ne_aload_n X dL_law_2064 rfl ?_
    refine ne_aload_n X dL_law_2065 rfl ?_
    refine ne_iload X dL_law_2066 rfl ?_
    refine ne_iconst X dL_law_2068 ?_
    refine ne_iadd X dL_law_2069 ?_
    refine ne_sld X hX hbl hbA hb0 (by decide) (by omega) dL_law_2070 (fun z2070 e2070 l2070 r2070 => ?_)
    refine ne_aload_n X dL_law_2071 rfl ?_
    refine ne_iload X dL_law_2072 rfl ?_
    refine ne_iconst X dL_law_2074 ?_
    refine ne_iadd X dL_law_2075 ?_
    refine ne_sld X hX hbl hbA hb0 (by decide) (by omega) dL_law_2076 (fun z2076 e2076 l2076 r2076 => ?_)
    refine ne_aload_n X dL_law_2077 rfl ?_
    refine ne_callSFW (is := [1, 2, 3, 4, 5, 6, 7, 8, 9, 10, 11, 12, 20, 21]) X nw_Tg (me_L_partSum l hl c q t b k n h x y T hI (by omega) u .null (Or.inl rfl) _ _ (by omega) (by omega)) nw_yL_partSum nw_mL_302 nw_sL_partSum dL_law_2078 rfl rfl (by decide) (by decide) (by first | decide | omega) (by first | decide | omega) (Nat.le_of_ble_eq_true rfl) rfl rfl rfl (Nat.le_of_ble_eq_true rfl) (lw_pt1 (s := .null)) ?_ ?_
    rotate_left
    · rintro E9 w9 h9; exact h9.elim
    rintro v2078 w2078 ⟨x1, y1, u1, s1, rfl, hI1, hs1, z2078, rfl⟩
    rcases hs1 with rfl | rfl
    · refine ne_take 22 ?_
      refine ne_ws lw_tkN ?_
      refine ne_istore X dL_law_2081 (by decide) ?_
      refine ne_aload_n X dL_law_2083 rfl ?_
      refine ne_aload_n X dL_law_2084 rfl ?_
      refine ne_iload X dL_law_2085 rfl ?_
      refine ne_iconst X dL_law_2087 ?_
      refine ne_iadd X dL_law_2088 ?_
      refine ne_sld X hX hbl hbA hb0 (by decide) (by omega) dL_law_2089 (fun z2089 e2089 l2089 r2089 => ?_)
      have y2089 : z2070 = z2089 := e2070.trans e2089.symm
      subst y2089
      refine ne_aload_n X dL_law_2090 rfl ?_
      refine ne_iload X dL_law_2091 rfl ?_
      refine ne_iconst X dL_law_2093 ?_
      refine ne_iadd X dL_law_2094 ?_
      refine ne_sld X hX hbl hbA hb0 (by decide) (by omega) dL_law_2095 (fun z2095 e2095 l2095 r2095 => ?_)
      have y2095 : z2076 = z2095 := e2076.trans e2095.symm
      subst y2095
      refine ne_callVF (is := [13, 14, 15, 16, 17, 18, 19]) X nw_Tg (me_X3_partSum l hl c q t b k h mv9 T hM (by omega) _ _ (by omega) (by omega)) nw_yX3_partSum nw_mL_304 nw_iX3_partSum nw_eX3_partSum (ci := 5) rfl rfl rfl dL_law_2096 rfl rfl (by decide) (by decide) (by first | decide | omega) (by first | decide | omega) (Nat.le_of_ble_eq_true rfl) rfl rfl rfl (Nat.le_of_ble_eq_true rfl) lw_pt2 ?_ ?_
      rotate_left
      · rintro E9 w9 h9; exact h9.elim
      rintro v2096 w2096 ⟨⟨mv91, rfl, hM1⟩, rfl⟩
      refine ne_ws lw_mg4 ?_
      refine ne_astore X dL_law_2099 (by decide) ?_
      refine ne_ll (L' := [some (.ref 0), some (.ref 1), some (.ref 13), some (.ref 20), some (ni _), some (ni _), some (.ref 22)]) rfl ?_
      refine ne_goto (tgt := 2331) X dL_law_2101 rfl ?_
      refine ne_lnone 5 (ne_lnone 6 ?_)
      refine ne_ll (L' := [some (.ref 0), some (.ref 1), some (.ref 13), some (.ref 20), some (ni i), none, none]) rfl ?_
      refine ne_take 22 ?_
      refine ne_ws lw_tk2 ?_
      refine ne_less (C' := C - 500) (S' := S - 3500) (by omega) (by omega) ?_
      exact kk _ _ _ _ _ _ _ _ _ _ _ _ hI1 hM1 hP (Or.inl rfl)
    · refine ne_viewb [0, 1, 2, 3, 4, 5, 6, 7, 8, 9, 10, 11, 12, 13, 14, 15, 16, 17, 18, 19, 20, 22] (ws' := lW c q t b k n h x1 y1 c q t b k h mv9 (nl u1) (.ref 21)) (L' := [some (.ref 0), some (.ref 1), some (.ref 13), some (.ref 20), some (ni i), none, none]) (st' := [ni z2078]) lw_vw (by decide) lw_vl rfl rfl rfl ?_
      refine ne_istore X dL_law_2081 (by decide) ?_
      refine ne_aload_n X dL_law_2083 rfl ?_
      refine ne_aload_n X dL_law_2084 rfl ?_
      refine ne_iload X dL_law_2085 rfl ?_
      refine ne_iconst X dL_law_2087 ?_
      refine ne_iadd X dL_law_2088 ?_
      refine ne_sld X hX hbl hbA hb0 (by decide) (by omega) dL_law_2089 (fun z2089 e2089 l2089 r2089 => ?_)
      have y2089 : z2070 = z2089 := e2070.trans e2089.symm
      subst y2089
      refine ne_aload_n X dL_law_2090 rfl ?_
      refine ne_iload X dL_law_2091 rfl ?_
      refine ne_iconst X dL_law_2093 ?_
      refine ne_iadd X dL_law_2094 ?_
      refine ne_sld X hX hbl hbA hb0 (by decide) (by omega) dL_law_2095 (fun z2095 e2095 l2095 r2095 => ?_)
      have y2095 : z2076 = z2095 := e2076.trans e2095.symm
      subst y2095
      refine ne_callVF (is := [13, 14, 15, 16, 17, 18, 19]) X nw_Tg (me_X3_partSum l hl c q t b k h mv9 T hM (by omega) _ _ (by omega) (by omega)) nw_yX3_partSum nw_mL_304 nw_iX3_partSum nw_eX3_partSum (ci := 5) rfl rfl rfl dL_law_2096 rfl rfl (by decide) (by decide) (by first | decide | omega) (by first | decide | omega) (Nat.le_of_ble_eq_true rfl) rfl rfl rfl (Nat.le_of_ble_eq_true rfl) lw_pt2 ?_ ?_
      rotate_left
      · rintro E9 w9 h9; exact h9.elim
      rintro v2096 w2096 ⟨⟨mv91, rfl, hM1⟩, rfl⟩
      refine ne_ws lw_mg4 ?_
      refine ne_astore X dL_law_2099 (by decide) ?_
      refine ne_ll (L' := [some (.ref 0), some (.ref 1), some (.ref 13), some (.ref 20), some (ni _), some (ni _), some (.ref 22)]) rfl ?_
      refine ne_goto (tgt := 2331) X dL_law_2101 rfl ?_
      refine ne_lnone 5 (ne_lnone 6 ?_)
      refine ne_ll (L' := [some (.ref 0), some (.ref 1), some (.ref 13), some (.ref 20), some (ni i), none, none]) rfl ?_
      refine ne_take 22 ?_
      refine ne_ws lw_tk2 ?_
      refine ne_less (C' := C - 500) (S' := S - 3500) (by omega) (by omega) ?_
      exact kk _ _ _ _ _ _ _ _ _ _ _ _ hI1 hM1 hP (Or.inr rfl)
  · refine ne_aload_n X dL_law_2064 rfl ?_
    refine ne_aload_n X dL_law_2065 rfl ?_
    refine ne_iload X dL_law_2066 rfl ?_
    refine ne_iconst X dL_law_2068 ?_
    refine ne_iadd X dL_law_2069 ?_
    refine ne_sld X hX hbl hbA hb0 (by decide) (by omega) dL_law_2070 (fun z2070 e2070 l2070 r2070 => ?_)
    refine ne_aload_n X dL_law_2071 rfl ?_
    refine ne_iload X dL_law_2072 rfl ?_
    refine ne_iconst X dL_law_2074 ?_
    refine ne_iadd X dL_law_2075 ?_
    refine ne_sld X hX hbl hbA hb0 (by decide) (by omega) dL_law_2076 (fun z2076 e2076 l2076 r2076 => ?_)
    refine ne_aload_n X dL_law_2077 rfl ?_
    refine ne_callSFW (is := [1, 2, 3, 4, 5, 6, 7, 8, 9, 10, 11, 12, 20, 21]) X nw_Tg (me_L_partSum l hl c q t b k n h x y T hI (by omega) u (.ref 13) (Or.inr rfl) _ _ (by omega) (by omega)) nw_yL_partSum nw_mL_302 nw_sL_partSum dL_law_2078 rfl rfl (by decide) (by decide) (by first | decide | omega) (by first | decide | omega) (Nat.le_of_ble_eq_true rfl) rfl rfl rfl (Nat.le_of_ble_eq_true rfl) (lw_pt1 (s := .ref 13)) ?_ ?_
    rotate_left
    · rintro E9 w9 h9; exact h9.elim
    rintro v2078 w2078 ⟨x1, y1, u1, s1, rfl, hI1, hs1, z2078, rfl⟩
    rcases hs1 with rfl | rfl
    · refine ne_take 22 ?_
      refine ne_ws lw_tkR ?_
      refine ne_istore X dL_law_2081 (by decide) ?_
      refine ne_aload_n X dL_law_2083 rfl ?_
      refine ne_aload_n X dL_law_2084 rfl ?_
      refine ne_iload X dL_law_2085 rfl ?_
      refine ne_iconst X dL_law_2087 ?_
      refine ne_iadd X dL_law_2088 ?_
      refine ne_sld X hX hbl hbA hb0 (by decide) (by omega) dL_law_2089 (fun z2089 e2089 l2089 r2089 => ?_)
      have y2089 : z2070 = z2089 := e2070.trans e2089.symm
      subst y2089
      refine ne_aload_n X dL_law_2090 rfl ?_
      refine ne_iload X dL_law_2091 rfl ?_
      refine ne_iconst X dL_law_2093 ?_
      refine ne_iadd X dL_law_2094 ?_
      refine ne_sld X hX hbl hbA hb0 (by decide) (by omega) dL_law_2095 (fun z2095 e2095 l2095 r2095 => ?_)
      have y2095 : z2076 = z2095 := e2076.trans e2095.symm
      subst y2095
      refine ne_callVF (is := [13, 14, 15, 16, 17, 18, 19]) X nw_Tg (me_X3_partSum l hl c q t b k h mv9 T hM (by omega) _ _ (by omega) (by omega)) nw_yX3_partSum nw_mL_304 nw_iX3_partSum nw_eX3_partSum (ci := 5) rfl rfl rfl dL_law_2096 rfl rfl (by decide) (by decide) (by first | decide | omega) (by first | decide | omega) (Nat.le_of_ble_eq_true rfl) rfl rfl rfl (Nat.le_of_ble_eq_true rfl) lw_pt2 ?_ ?_
      rotate_left
      · rintro E9 w9 h9; exact h9.elim
      rintro v2096 w2096 ⟨⟨mv91, rfl, hM1⟩, rfl⟩
      refine ne_ws lw_mg4 ?_
      refine ne_astore X dL_law_2099 (by decide) ?_
      refine ne_ll (L' := [some (.ref 0), some (.ref 1), some (.ref 13), some (.ref 20), some (ni _), some (ni _), some (.ref 22)]) rfl ?_
      refine ne_goto (tgt := 2331) X dL_law_2101 rfl ?_
      refine ne_lnone 5 (ne_lnone 6 ?_)
      refine ne_ll (L' := [some (.ref 0), some (.ref 1), some (.ref 13), some (.ref 20), some (ni i), none, none]) rfl ?_
      refine ne_take 22 ?_
      refine ne_ws lw_tk2 ?_
      refine ne_less (C' := C - 500) (S' := S - 3500) (by omega) (by omega) ?_
      exact kk _ _ _ _ _ _ _ _ _ _ _ _ hI1 hM1 hP (Or.inr rfl)
    · refine ne_viewb [0, 1, 2, 3, 4, 5, 6, 7, 8, 9, 10, 11, 12, 13, 14, 15, 16, 17, 18, 19, 20, 22] (ws' := lW c q t b k n h x1 y1 c q t b k h mv9 (nl u1) (.ref 21)) (L' := [some (.ref 0), some (.ref 1), some (.ref 13), some (.ref 20), some (ni i), none, none]) (st' := [ni z2078]) lw_vw (by decide) lw_vl rfl rfl rfl ?_
      refine ne_istore X dL_law_2081 (by decide) ?_
      refine ne_aload_n X dL_law_2083 rfl ?_
      refine ne_aload_n X dL_law_2084 rfl ?_
      refine ne_iload X dL_law_2085 rfl ?_
      refine ne_iconst X dL_law_2087 ?_
      refine ne_iadd X dL_law_2088 ?_
      refine ne_sld X hX hbl hbA hb0 (by decide) (by omega) dL_law_2089 (fun z2089 e2089 l2089 r2089 => ?_)
      have y2089 : z2070 = z2089 := e2070.trans e2089.symm
      subst y2089
      refine ne_aload_n X dL_law_2090 rfl ?_
      refine ne_iload X dL_law_2091 rfl ?_
      refine ne_iconst X dL_law_2093 ?_
      refine ne_iadd X dL_law_2094 ?_
      refine ne_sld X hX hbl hbA hb0 (by decide) (by omega) dL_law_2095 (fun z2095 e2095 l2095 r2095 => ?_)
      have y2095 : z2076 = z2095 := e2076.trans e2095.symm
      subst y2095
      refine ne_callVF (is := [13, 14, 15, 16, 17, 18, 19]) X nw_Tg (me_X3_partSum l hl c q t b k h mv9 T hM (by omega) _ _ (by omega) (by omega)) nw_yX3_partSum nw_mL_304 nw_iX3_partSum nw_eX3_partSum (ci := 5) rfl rfl rfl dL_law_2096 rfl rfl (by decide) (by decide) (by first | decide | omega) (by first | decide | omega) (Nat.le_of_ble_eq_true rfl) rfl rfl rfl (Nat.le_of_ble_eq_true rfl) lw_pt2 ?_ ?_
      rotate_left
      · rintro E9 w9 h9; exact h9.elim
      rintro v2096 w2096 ⟨⟨mv91, rfl, hM1⟩, rfl⟩
      refine ne_ws lw_mg4 ?_
      refine ne_astore X dL_law_2099 (by decide) ?_
      refine ne_ll (L' := [some (.ref 0), some (.ref 1), some (.ref 13), some (.ref 20), some (ni _), some (ni _), some (.ref 22)]) rfl ?_
      refine ne_goto (tgt := 2331) X dL_law_2101 rfl ?_
      refine ne_lnone 5 (ne_lnone 6 ?_)
      refine ne_ll (L' := [some (.ref 0), some (.ref 1), some (.ref 13), some (.ref 20), some (ni i), none, none]) rfl ?_
      refine ne_take 22 ?_
      refine ne_ws lw_tk2 ?_
      refine ne_less (C' := C - 500) (S' := S - 3500) (by omega) (by omega) ?_
      exact kk _ _ _ _ _ _ _ _ _ _ _ _ hI1 hM1 hP (Or.inr rfl)
set_option maxRecDepth 100000 in
set_option maxHeartbeats 4000000 in
theorem lc_40 (hl : l.stackTraces = false) (X : ne_F nw_cl D ct A p l room_1 s9 m args meth c9 RL cL_law 7 nw_T 20 1000 888398 6436287) (hX : va_X b9 N9 xs s9 s9.heap) (hbl : b9 < s9.heap.size) (hbA : ¬ A b9) (hb0 : ad0 0 = b9) (i T : Int) (hi : 0 ≤ i ∧ i + 6 ≤ N9 ∧ N9 ≤ 384) (hT : 0 ≤ T ∧ T ≤ 100) (c q t b k n h x y  : Nat → Int) (mv9 u : Int) (sv : Value) (hI : cI c q t b k n h x y T) (hM : mI c q t b k h mv9 T) (hP : ∀ j : Nat, ne_per (t j) (b j) (n j)) (hs : sv = .null ∨ sv = .ref 21) (C S : Nat) (hC : 500 ≤ C) (hS : 3500 ≤ S) (kk : ∀ (c q t b k n h x y  : Nat → Int) (mv9 u : Int) (sv : Value), cI c q t b k n h x y (T + 1) → mI c q t b k h mv9 (T + 1) → (∀ j : Nat, ne_per (t j) (b j) (n j)) → (sv = .null ∨ sv = .ref 21) → ne_G nw_cl D ct A 1 ad0 p l e room_1 s9 m args below meth c9 Q9 7 888398 6436287 (C - 500) (S - 3500) 2331 [some (.ref 0), some (.ref 1), some (.ref 13), some (.ref 20), some (ni i), none, none] [] (lW c q t b k n h x y c q t b k h mv9 (nl u) sv)) : ne_G nw_cl D ct A 1 ad0 p l e room_1 s9 m args below meth c9 Q9 7 888398 6436287 C S 2104 [some (.ref 0), some (.ref 1), some (.ref 13), some (.ref 20), some (ni i), none, none] [] (lW c q t b k n h x y c q t b k h mv9 (nl u) sv) := by
  obtain ⟨s8, hs8, rfl⟩ : ∃ s8 : Value, (s8 = .null ∨ s8 = .ref 13) ∧ sv = ne_rn [1, 2, 3, 4, 5, 6, 7, 8, 9, 10, 11, 12, 20, 21] 22 s8 := by
    rcases hs with rfl | rfl
    · exact ⟨.null, Or.inl rfl, rfl⟩
    · exact ⟨.ref 13, Or.inr rfl, rfl⟩
  have hcw : ∀ (c q t b k n h x y mc9 mq9 mt9 mb9 mk9 mh9 : Nat → Int) (mv9 u : Int), ne_cw 22 (lW c q t b k n h x y mc9 mq9 mt9 mb9 mk9 mh9 mv9 (nl u) (ne_rn [1, 2, 3, 4, 5, 6, 7, 8, 9, 10, 11, 12, 20, 21] 22 s8)) = true := by
    intros
    rcases hs8 with rfl | rfl <;> rfl
  refine ne_aload_n X dL_law_2104 rfl ?_
  refine ne_aload_n X dL_law_2105 rfl ?_
  refine ne_iload X dL_law_2106 rfl ?_
  refine ne_iconst X dL_law_2108 ?_
  refine ne_iadd X dL_law_2109 ?_
  refine ne_sld X hX hbl hbA hb0 (by decide) (by omega) dL_law_2110 (fun z2110 e2110 l2110 r2110 => ?_)
  refine ne_aload_n X dL_law_2111 rfl ?_
  refine ne_iload X dL_law_2112 rfl ?_
  refine ne_iconst X dL_law_2114 ?_
  refine ne_iadd X dL_law_2115 ?_
  refine ne_sld X hX hbl hbA hb0 (by decide) (by omega) dL_law_2116 (fun z2116 e2116 l2116 r2116 => ?_)
  refine ne_aload_n X dL_law_2117 rfl ?_
  refine ne_callSFW (is := [1, 2, 3, 4, 5, 6, 7, 8, 9, 10, 11, 12, 20, 21]) X nw_Tg (me_L_nines l hl c q t b k n h x y T hI (by omega) u s8 hs8 _ _ (by omega) (by omega)) nw_yL_nines nw_mL_305 nw_sL_nines dL_law_2118 rfl rfl (by decide) (by decide) (by first | decide | omega) (by first | decide | omega) (Nat.le_of_ble_eq_true rfl) (hcw _ _ _ _ _ _ _ _ _ _ _ _ _ _ _ _ _) rfl rfl (Nat.le_of_ble_eq_true rfl) lw_pt1 ?_ ?_
  rotate_left
  · rintro E9 w9 h9; exact h9.elim
  rintro v2118 w2118 ⟨x1, y1, u1, rfl, hI1, z2118, rfl⟩
  refine ne_ws lw_mg1 ?_
  refine ne_istore X dL_law_2121 (by decide) ?_
  refine ne_aload_n X dL_law_2123 rfl ?_
  refine ne_aload_n X dL_law_2124 rfl ?_
  refine ne_iload X dL_law_2125 rfl ?_
  refine ne_iconst X dL_law_2127 ?_
  refine ne_iadd X dL_law_2128 ?_
  refine ne_sld X hX hbl hbA hb0 (by decide) (by omega) dL_law_2129 (fun z2129 e2129 l2129 r2129 => ?_)
  have y2129 : z2110 = z2129 := e2110.trans e2129.symm
  subst y2129
  refine ne_aload_n X dL_law_2130 rfl ?_
  refine ne_iload X dL_law_2131 rfl ?_
  refine ne_iconst X dL_law_2133 ?_
  refine ne_iadd X dL_law_2134 ?_
  refine ne_sld X hX hbl hbA hb0 (by decide) (by omega) dL_law_2135 (fun z2135 e2135 l2135 r2135 => ?_)
  have y2135 : z2116 = z2135 := e2116.trans e2135.symm
  subst y2135
  refine ne_callVF (is := [13, 14, 15, 16, 17, 18, 19]) X nw_Tg (me_X3_nines l hl c q t b k h mv9 T hM (by omega) _ _ (by omega) (by omega)) nw_yX3_nines nw_mL_307 nw_iX3_nines nw_eX3_nines (ci := 5) rfl rfl rfl dL_law_2136 rfl rfl (by decide) (by decide) (by first | decide | omega) (by first | decide | omega) (Nat.le_of_ble_eq_true rfl) (hcw _ _ _ _ _ _ _ _ _ _ _ _ _ _ _ _ _) rfl rfl (Nat.le_of_ble_eq_true rfl) lw_pt2 ?_ ?_
  rotate_left
  · rintro E9 w9 h9; exact h9.elim
  rintro v2136 w2136 ⟨⟨mv91, rfl, hM1⟩, z2136, rfl, g2136⟩
  refine ne_ws lw_mg2 ?_
  refine ne_istore X dL_law_2139 (by decide) ?_
  refine ne_ll (L' := [some (.ref 0), some (.ref 1), some (.ref 13), some (.ref 20), some (ni _), some (ni _), some (ni _)]) rfl ?_
  refine ne_goto (tgt := 2331) X dL_law_2141 rfl ?_
  refine ne_lnone 5 (ne_lnone 6 ?_)
  refine ne_ll (L' := [some (.ref 0), some (.ref 1), some (.ref 13), some (.ref 20), some (ni i), none, none]) rfl ?_
  refine ne_less (C' := C - 500) (S' := S - 3500) (by omega) (by omega) ?_
  exact kk _ _ _ _ _ _ _ _ _ _ _ _ hI1 hM1 hP hs
set_option maxRecDepth 100000 in
set_option maxHeartbeats 4000000 in
theorem lc_41 (hl : l.stackTraces = false) (X : ne_F nw_cl D ct A p l room_1 s9 m args meth c9 RL cL_law 7 nw_T 20 1000 888398 6436287) (hX : va_X b9 N9 xs s9 s9.heap) (hbl : b9 < s9.heap.size) (hbA : ¬ A b9) (hb0 : ad0 0 = b9) (i T : Int) (hi : 0 ≤ i ∧ i + 6 ≤ N9 ∧ N9 ≤ 384) (hT : 0 ≤ T ∧ T ≤ 100) (c q t b k n h x y  : Nat → Int) (mv9 u : Int) (sv : Value) (hI : cI c q t b k n h x y T) (hM : mI c q t b k h mv9 T) (hP : ∀ j : Nat, ne_per (t j) (b j) (n j)) (hs : sv = .null ∨ sv = .ref 21) (C S : Nat) (hC : 500 ≤ C) (hS : 3500 ≤ S) (kk : ∀ (c q t b k n h x y  : Nat → Int) (mv9 u : Int) (sv : Value), cI c q t b k n h x y (T + 1) → mI c q t b k h mv9 (T + 1) → (∀ j : Nat, ne_per (t j) (b j) (n j)) → (sv = .null ∨ sv = .ref 21) → ne_G nw_cl D ct A 1 ad0 p l e room_1 s9 m args below meth c9 Q9 7 888398 6436287 (C - 500) (S - 3500) 2331 [some (.ref 0), some (.ref 1), some (.ref 13), some (.ref 20), some (ni i), none, none] [] (lW c q t b k n h x y c q t b k h mv9 (nl u) sv)) : ne_G nw_cl D ct A 1 ad0 p l e room_1 s9 m args below meth c9 Q9 7 888398 6436287 C S 2144 [some (.ref 0), some (.ref 1), some (.ref 13), some (.ref 20), some (ni i), none, none] [] (lW c q t b k n h x y c q t b k h mv9 (nl u) sv) := by
  obtain ⟨s8, hs8, rfl⟩ : ∃ s8 : Value, (s8 = .null ∨ s8 = .ref 13) ∧ sv = ne_rn [1, 2, 3, 4, 5, 6, 7, 8, 9, 10, 11, 12, 20, 21] 22 s8 := by
    rcases hs with rfl | rfl
    · exact ⟨.null, Or.inl rfl, rfl⟩
    · exact ⟨.ref 13, Or.inr rfl, rfl⟩
  have hcw : ∀ (c q t b k n h x y mc9 mq9 mt9 mb9 mk9 mh9 : Nat → Int) (mv9 u : Int), ne_cw 22 (lW c q t b k n h x y mc9 mq9 mt9 mb9 mk9 mh9 mv9 (nl u) (ne_rn [1, 2, 3, 4, 5, 6, 7, 8, 9, 10, 11, 12, 20, 21] 22 s8)) = true := by
    intros
    rcases hs8 with rfl | rfl <;> rfl
  refine ne_aload_n X dL_law_2144 rfl ?_
  refine ne_aload_n X dL_law_2145 rfl ?_
  refine ne_iload X dL_law_2146 rfl ?_
  refine ne_iconst X dL_law_2148 ?_
  refine ne_iadd X dL_law_2149 ?_
  refine ne_sld X hX hbl hbA hb0 (by decide) (by omega) dL_law_2150 (fun z2150 e2150 l2150 r2150 => ?_)
  refine ne_aload_n X dL_law_2151 rfl ?_
  refine ne_iload X dL_law_2152 rfl ?_
  refine ne_iconst X dL_law_2154 ?_
  refine ne_iadd X dL_law_2155 ?_
  refine ne_sld X hX hbl hbA hb0 (by decide) (by omega) dL_law_2156 (fun z2156 e2156 l2156 r2156 => ?_)
  refine ne_aload_n X dL_law_2157 rfl ?_
  refine ne_callSFW (is := [1, 2, 3, 4, 5, 6, 7, 8, 9, 10, 11, 12, 20, 21]) X nw_Tg (me_L_placeOf l hl c q t b k n h x y T hI (by omega) u s8 hs8 _ _ (by omega) (by omega)) nw_yL_placeOf nw_mL_308 nw_sL_placeOf dL_law_2158 rfl rfl (by decide) (by decide) (by first | decide | omega) (by first | decide | omega) (Nat.le_of_ble_eq_true rfl) (hcw _ _ _ _ _ _ _ _ _ _ _ _ _ _ _ _ _) rfl rfl (Nat.le_of_ble_eq_true rfl) lw_pt1 ?_ ?_
  rotate_left
  · rintro E9 w9 h9; exact h9.elim
  rintro v2158 w2158 ⟨x1, y1, u1, rfl, hI1, z2158, rfl⟩
  refine ne_ws lw_mg1 ?_
  refine ne_istore X dL_law_2161 (by decide) ?_
  refine ne_aload_n X dL_law_2163 rfl ?_
  refine ne_aload_n X dL_law_2164 rfl ?_
  refine ne_iload X dL_law_2165 rfl ?_
  refine ne_iconst X dL_law_2167 ?_
  refine ne_iadd X dL_law_2168 ?_
  refine ne_sld X hX hbl hbA hb0 (by decide) (by omega) dL_law_2169 (fun z2169 e2169 l2169 r2169 => ?_)
  have y2169 : z2150 = z2169 := e2150.trans e2169.symm
  subst y2169
  refine ne_aload_n X dL_law_2170 rfl ?_
  refine ne_iload X dL_law_2171 rfl ?_
  refine ne_iconst X dL_law_2173 ?_
  refine ne_iadd X dL_law_2174 ?_
  refine ne_sld X hX hbl hbA hb0 (by decide) (by omega) dL_law_2175 (fun z2175 e2175 l2175 r2175 => ?_)
  have y2175 : z2156 = z2175 := e2156.trans e2175.symm
  subst y2175
  refine ne_callVF (is := [13, 14, 15, 16, 17, 18, 19]) X nw_Tg (me_X3_placeOf l hl c q t b k h mv9 T hM (by omega) _ _ (by omega) (by omega)) nw_yX3_placeOf nw_mL_310 nw_iX3_placeOf nw_eX3_placeOf (ci := 5) rfl rfl rfl dL_law_2176 rfl rfl (by decide) (by decide) (by first | decide | omega) (by first | decide | omega) (Nat.le_of_ble_eq_true rfl) (hcw _ _ _ _ _ _ _ _ _ _ _ _ _ _ _ _ _) rfl rfl (Nat.le_of_ble_eq_true rfl) lw_pt2 ?_ ?_
  rotate_left
  · rintro E9 w9 h9; exact h9.elim
  rintro v2176 w2176 ⟨⟨mv91, rfl, hM1⟩, z2176, rfl, g2176⟩
  refine ne_ws lw_mg2 ?_
  refine ne_istore X dL_law_2179 (by decide) ?_
  refine ne_ll (L' := [some (.ref 0), some (.ref 1), some (.ref 13), some (.ref 20), some (ni _), some (ni _), some (ni _)]) rfl ?_
  refine ne_goto (tgt := 2331) X dL_law_2181 rfl ?_
  refine ne_lnone 5 (ne_lnone 6 ?_)
  refine ne_ll (L' := [some (.ref 0), some (.ref 1), some (.ref 13), some (.ref 20), some (ni i), none, none]) rfl ?_
  refine ne_less (C' := C - 500) (S' := S - 3500) (by omega) (by omega) ?_
  exact kk _ _ _ _ _ _ _ _ _ _ _ _ hI1 hM1 hP hs
set_option maxRecDepth 100000 in
set_option maxHeartbeats 4000000 in
theorem lc_42 (hl : l.stackTraces = false) (X : ne_F nw_cl D ct A p l room_1 s9 m args meth c9 RL cL_law 7 nw_T 20 1000 888398 6436287) (hX : va_X b9 N9 xs s9 s9.heap) (hbl : b9 < s9.heap.size) (hbA : ¬ A b9) (hb0 : ad0 0 = b9) (i T : Int) (hi : 0 ≤ i ∧ i + 6 ≤ N9 ∧ N9 ≤ 384) (hT : 0 ≤ T ∧ T ≤ 100) (c q t b k n h x y  : Nat → Int) (mv9 u : Int) (sv : Value) (hI : cI c q t b k n h x y T) (hM : mI c q t b k h mv9 T) (hP : ∀ j : Nat, ne_per (t j) (b j) (n j)) (hs : sv = .null ∨ sv = .ref 21) (C S : Nat) (hC : 500 ≤ C) (hS : 3500 ≤ S) (kk : ∀ (c q t b k n h x y  : Nat → Int) (mv9 u : Int) (sv : Value), cI c q t b k n h x y (T + 1) → mI c q t b k h mv9 (T + 1) → (∀ j : Nat, ne_per (t j) (b j) (n j)) → (sv = .null ∨ sv = .ref 21) → ne_G nw_cl D ct A 1 ad0 p l e room_1 s9 m args below meth c9 Q9 7 888398 6436287 (C - 500) (S - 3500) 2331 [some (.ref 0), some (.ref 1), some (.ref 13), some (.ref 20), some (ni i), none, none] [] (lW c q t b k n h x y c q t b k h mv9 (nl u) sv)) : ne_G nw_cl D ct A 1 ad0 p l e room_1 s9 m args below meth c9 Q9 7 888398 6436287 C S 2184 [some (.ref 0), some (.ref 1), some (.ref 13), some (.ref 20), some (ni i), none, none] [] (lW c q t b k n h x y c q t b k h mv9 (nl u) sv) := by
  obtain ⟨s8, hs8, rfl⟩ : ∃ s8 : Value, (s8 = .null ∨ s8 = .ref 13) ∧ sv = ne_rn [1, 2, 3, 4, 5, 6, 7, 8, 9, 10, 11, 12, 20, 21] 22 s8 := by
    rcases hs with rfl | rfl
    · exact ⟨.null, Or.inl rfl, rfl⟩
    · exact ⟨.ref 13, Or.inr rfl, rfl⟩
  have hcw : ∀ (c q t b k n h x y mc9 mq9 mt9 mb9 mk9 mh9 : Nat → Int) (mv9 u : Int), ne_cw 22 (lW c q t b k n h x y mc9 mq9 mt9 mb9 mk9 mh9 mv9 (nl u) (ne_rn [1, 2, 3, 4, 5, 6, 7, 8, 9, 10, 11, 12, 20, 21] 22 s8)) = true := by
    intros
    rcases hs8 with rfl | rfl <;> rfl
  refine ne_aload_n X dL_law_2184 rfl ?_
  refine ne_aload_n X dL_law_2185 rfl ?_
  refine ne_iload X dL_law_2186 rfl ?_
  refine ne_iconst X dL_law_2188 ?_
  refine ne_iadd X dL_law_2189 ?_
  refine ne_sld X hX hbl hbA hb0 (by decide) (by omega) dL_law_2190 (fun z2190 e2190 l2190 r2190 => ?_)
  refine ne_aload_n X dL_law_2191 rfl ?_
  refine ne_iload X dL_law_2192 rfl ?_
  refine ne_iconst X dL_law_2194 ?_
  refine ne_iadd X dL_law_2195 ?_
  refine ne_sld X hX hbl hbA hb0 (by decide) (by omega) dL_law_2196 (fun z2196 e2196 l2196 r2196 => ?_)
  refine ne_aload_n X dL_law_2197 rfl ?_
  refine ne_callSFW (is := [1, 2, 3, 4, 5, 6, 7, 8, 9, 10, 11, 12, 20, 21]) X nw_Tg (me_L_wheelOrder l hl c q t b k n h x y T hI (by omega) u s8 hs8 _ _ (by omega) (by omega)) nw_yL_wheelOrder nw_mL_311 nw_sL_wheelOrder dL_law_2198 rfl rfl (by decide) (by decide) (by first | decide | omega) (by first | decide | omega) (Nat.le_of_ble_eq_true rfl) (hcw _ _ _ _ _ _ _ _ _ _ _ _ _ _ _ _ _) rfl rfl (Nat.le_of_ble_eq_true rfl) lw_pt1 ?_ ?_
  rotate_left
  · rintro E9 w9 h9; exact h9.elim
  rintro v2198 w2198 ⟨x1, y1, u1, rfl, hI1, z2198, rfl⟩
  refine ne_ws lw_mg1 ?_
  refine ne_istore X dL_law_2201 (by decide) ?_
  refine ne_aload_n X dL_law_2203 rfl ?_
  refine ne_aload_n X dL_law_2204 rfl ?_
  refine ne_iload X dL_law_2205 rfl ?_
  refine ne_iconst X dL_law_2207 ?_
  refine ne_iadd X dL_law_2208 ?_
  refine ne_sld X hX hbl hbA hb0 (by decide) (by omega) dL_law_2209 (fun z2209 e2209 l2209 r2209 => ?_)
  have y2209 : z2190 = z2209 := e2190.trans e2209.symm
  subst y2209
  refine ne_aload_n X dL_law_2210 rfl ?_
  refine ne_iload X dL_law_2211 rfl ?_
  refine ne_iconst X dL_law_2213 ?_
  refine ne_iadd X dL_law_2214 ?_
  refine ne_sld X hX hbl hbA hb0 (by decide) (by omega) dL_law_2215 (fun z2215 e2215 l2215 r2215 => ?_)
  have y2215 : z2196 = z2215 := e2196.trans e2215.symm
  subst y2215
  refine ne_callVF (is := [13, 14, 15, 16, 17, 18, 19]) X nw_Tg (me_X3_wheelOrder l hl c q t b k h mv9 T hM (by omega) _ _ (by omega) (by omega)) nw_yX3_wheelOrder nw_mL_313 nw_iX3_wheelOrder nw_eX3_wheelOrder (ci := 5) rfl rfl rfl dL_law_2216 rfl rfl (by decide) (by decide) (by first | decide | omega) (by first | decide | omega) (Nat.le_of_ble_eq_true rfl) (hcw _ _ _ _ _ _ _ _ _ _ _ _ _ _ _ _ _) rfl rfl (Nat.le_of_ble_eq_true rfl) lw_pt2 ?_ ?_
  rotate_left
  · rintro E9 w9 h9; exact h9.elim
  rintro v2216 w2216 ⟨⟨mv91, rfl, hM1⟩, z2216, rfl, g2216⟩
  refine ne_ws lw_mg2 ?_
  refine ne_istore X dL_law_2219 (by decide) ?_
  refine ne_ll (L' := [some (.ref 0), some (.ref 1), some (.ref 13), some (.ref 20), some (ni _), some (ni _), some (ni _)]) rfl ?_
  refine ne_goto (tgt := 2331) X dL_law_2221 rfl ?_
  refine ne_lnone 5 (ne_lnone 6 ?_)
  refine ne_ll (L' := [some (.ref 0), some (.ref 1), some (.ref 13), some (.ref 20), some (ni i), none, none]) rfl ?_
  refine ne_less (C' := C - 500) (S' := S - 3500) (by omega) (by omega) ?_
  exact kk _ _ _ _ _ _ _ _ _ _ _ _ hI1 hM1 hP hs
set_option maxRecDepth 100000 in
set_option maxHeartbeats 4000000 in
theorem lc_43 (hl : l.stackTraces = false) (X : ne_F nw_cl D ct A p l room_1 s9 m args meth c9 RL cL_law 7 nw_T 20 1000 888398 6436287) (hX : va_X b9 N9 xs s9 s9.heap) (hbl : b9 < s9.heap.size) (hbA : ¬ A b9) (hb0 : ad0 0 = b9) (i T : Int) (hi : 0 ≤ i ∧ i + 6 ≤ N9 ∧ N9 ≤ 384) (hT : 0 ≤ T ∧ T ≤ 100) (c q t b k n h x y  : Nat → Int) (mv9 u : Int) (sv : Value) (hI : cI c q t b k n h x y T) (hM : mI c q t b k h mv9 T) (hP : ∀ j : Nat, ne_per (t j) (b j) (n j)) (hs : sv = .null ∨ sv = .ref 21) (C S : Nat) (hC : 500 ≤ C) (hS : 3500 ≤ S) (kk : ∀ (c q t b k n h x y  : Nat → Int) (mv9 u : Int) (sv : Value), cI c q t b k n h x y (T + 1) → mI c q t b k h mv9 (T + 1) → (∀ j : Nat, ne_per (t j) (b j) (n j)) → (sv = .null ∨ sv = .ref 21) → ne_G nw_cl D ct A 1 ad0 p l e room_1 s9 m args below meth c9 Q9 7 888398 6436287 (C - 500) (S - 3500) 2331 [some (.ref 0), some (.ref 1), some (.ref 13), some (.ref 20), some (ni i), none, none] [] (lW c q t b k n h x y c q t b k h mv9 (nl u) sv)) : ne_G nw_cl D ct A 1 ad0 p l e room_1 s9 m args below meth c9 Q9 7 888398 6436287 C S 2224 [some (.ref 0), some (.ref 1), some (.ref 13), some (.ref 20), some (ni i), none, none] [] (lW c q t b k n h x y c q t b k h mv9 (nl u) sv) := by
  obtain ⟨s8, hs8, rfl⟩ : ∃ s8 : Value, (s8 = .null ∨ s8 = .ref 13) ∧ sv = ne_rn [1, 2, 3, 4, 5, 6, 7, 8, 9, 10, 11, 12, 20, 21] 22 s8 := by
    rcases hs with rfl | rfl
    · exact ⟨.null, Or.inl rfl, rfl⟩
    · exact ⟨.ref 13, Or.inr rfl, rfl⟩
  have hcw : ∀ (c q t b k n h x y mc9 mq9 mt9 mb9 mk9 mh9 : Nat → Int) (mv9 u : Int), ne_cw 22 (lW c q t b k n h x y mc9 mq9 mt9 mb9 mk9 mh9 mv9 (nl u) (ne_rn [1, 2, 3, 4, 5, 6, 7, 8, 9, 10, 11, 12, 20, 21] 22 s8)) = true := by
    intros
    rcases hs8 with rfl | rfl <;> rfl
  refine ne_aload_n X dL_law_2224 rfl ?_
  refine ne_aload_n X dL_law_2225 rfl ?_
  refine ne_iload X dL_law_2226 rfl ?_
  refine ne_iconst X dL_law_2228 ?_
  refine ne_iadd X dL_law_2229 ?_
  refine ne_sld X hX hbl hbA hb0 (by decide) (by omega) dL_law_2230 (fun z2230 e2230 l2230 r2230 => ?_)
  refine ne_aload_n X dL_law_2231 rfl ?_
  refine ne_iload X dL_law_2232 rfl ?_
  refine ne_iconst X dL_law_2234 ?_
  refine ne_iadd X dL_law_2235 ?_
  refine ne_sld X hX hbl hbA hb0 (by decide) (by omega) dL_law_2236 (fun z2236 e2236 l2236 r2236 => ?_)
  refine ne_aload_n X dL_law_2237 rfl ?_
  refine ne_callSFW (is := [1, 2, 3, 4, 5, 6, 7, 8, 9, 10, 11, 12, 20, 21]) X nw_Tg (me_L_against l hl c q t b k n h x y T hI (by omega) u s8 hs8 _ _ (by omega) (by omega)) nw_yL_against nw_mL_314 nw_sL_against dL_law_2238 rfl rfl (by decide) (by decide) (by first | decide | omega) (by first | decide | omega) (Nat.le_of_ble_eq_true rfl) (hcw _ _ _ _ _ _ _ _ _ _ _ _ _ _ _ _ _) rfl rfl (Nat.le_of_ble_eq_true rfl) lw_pt1 ?_ ?_
  rotate_left
  · rintro E9 w9 h9; exact h9.elim
  rintro v2238 w2238 ⟨x1, y1, u1, rfl, hI1, z2238, rfl⟩
  refine ne_ws lw_mg1 ?_
  refine ne_istore X dL_law_2241 (by decide) ?_
  refine ne_aload_n X dL_law_2243 rfl ?_
  refine ne_aload_n X dL_law_2244 rfl ?_
  refine ne_iload X dL_law_2245 rfl ?_
  refine ne_iconst X dL_law_2247 ?_
  refine ne_iadd X dL_law_2248 ?_
  refine ne_sld X hX hbl hbA hb0 (by decide) (by omega) dL_law_2249 (fun z2249 e2249 l2249 r2249 => ?_)
  have y2249 : z2230 = z2249 := e2230.trans e2249.symm
  subst y2249
  refine ne_aload_n X dL_law_2250 rfl ?_
  refine ne_iload X dL_law_2251 rfl ?_
  refine ne_iconst X dL_law_2253 ?_
  refine ne_iadd X dL_law_2254 ?_
  refine ne_sld X hX hbl hbA hb0 (by decide) (by omega) dL_law_2255 (fun z2255 e2255 l2255 r2255 => ?_)
  have y2255 : z2236 = z2255 := e2236.trans e2255.symm
  subst y2255
  refine ne_callVF (is := [13, 14, 15, 16, 17, 18, 19]) X nw_Tg (me_X3_against l hl c q t b k h mv9 T hM (by omega) _ _ (by omega) (by omega)) nw_yX3_against nw_mL_316 nw_iX3_against nw_eX3_against (ci := 5) rfl rfl rfl dL_law_2256 rfl rfl (by decide) (by decide) (by first | decide | omega) (by first | decide | omega) (Nat.le_of_ble_eq_true rfl) (hcw _ _ _ _ _ _ _ _ _ _ _ _ _ _ _ _ _) rfl rfl (Nat.le_of_ble_eq_true rfl) lw_pt2 ?_ ?_
  rotate_left
  · rintro E9 w9 h9; exact h9.elim
  rintro v2256 w2256 ⟨⟨mv91, rfl, hM1⟩, z2256, rfl, g2256⟩
  refine ne_ws lw_mg2 ?_
  refine ne_istore X dL_law_2259 (by decide) ?_
  refine ne_ll (L' := [some (.ref 0), some (.ref 1), some (.ref 13), some (.ref 20), some (ni _), some (ni _), some (ni _)]) rfl ?_
  refine ne_goto (tgt := 2331) X dL_law_2261 rfl ?_
  refine ne_lnone 5 (ne_lnone 6 ?_)
  refine ne_ll (L' := [some (.ref 0), some (.ref 1), some (.ref 13), some (.ref 20), some (ni i), none, none]) rfl ?_
  refine ne_less (C' := C - 500) (S' := S - 3500) (by omega) (by omega) ?_
  exact kk _ _ _ _ _ _ _ _ _ _ _ _ hI1 hM1 hP hs
set_option maxRecDepth 100000 in
set_option maxHeartbeats 4000000 in
theorem lc_44 (hl : l.stackTraces = false) (X : ne_F nw_cl D ct A p l room_1 s9 m args meth c9 RL cL_law 7 nw_T 20 1000 888398 6436287) (hX : va_X b9 N9 xs s9 s9.heap) (hbl : b9 < s9.heap.size) (hbA : ¬ A b9) (hb0 : ad0 0 = b9) (i T : Int) (hi : 0 ≤ i ∧ i + 6 ≤ N9 ∧ N9 ≤ 384) (hT : 0 ≤ T ∧ T ≤ 100) (c q t b k n h x y  : Nat → Int) (mv9 u : Int) (sv : Value) (hI : cI c q t b k n h x y T) (hM : mI c q t b k h mv9 T) (hP : ∀ j : Nat, ne_per (t j) (b j) (n j)) (hs : sv = .null ∨ sv = .ref 21) (C S : Nat) (hC : 500 ≤ C) (hS : 3500 ≤ S) (kk : ∀ (c q t b k n h x y  : Nat → Int) (mv9 u : Int) (sv : Value), cI c q t b k n h x y (T + 1) → mI c q t b k h mv9 (T + 1) → (∀ j : Nat, ne_per (t j) (b j) (n j)) → (sv = .null ∨ sv = .ref 21) → ne_G nw_cl D ct A 1 ad0 p l e room_1 s9 m args below meth c9 Q9 7 888398 6436287 (C - 500) (S - 3500) 2331 [some (.ref 0), some (.ref 1), some (.ref 13), some (.ref 20), some (ni i), none, none] [] (lW c q t b k n h x y c q t b k h mv9 (nl u) sv)) : ne_G nw_cl D ct A 1 ad0 p l e room_1 s9 m args below meth c9 Q9 7 888398 6436287 C S 2264 [some (.ref 0), some (.ref 1), some (.ref 13), some (.ref 20), some (ni i), none, none] [] (lW c q t b k n h x y c q t b k h mv9 (nl u) sv) := by
  obtain ⟨s8, hs8, rfl⟩ : ∃ s8 : Value, (s8 = .null ∨ s8 = .ref 13) ∧ sv = ne_rn [1, 2, 3, 4, 5, 6, 7, 8, 9, 10, 11, 12, 20, 21] 22 s8 := by
    rcases hs with rfl | rfl
    · exact ⟨.null, Or.inl rfl, rfl⟩
    · exact ⟨.ref 13, Or.inr rfl, rfl⟩
  have hcw : ∀ (c q t b k n h x y mc9 mq9 mt9 mb9 mk9 mh9 : Nat → Int) (mv9 u : Int), ne_cw 22 (lW c q t b k n h x y mc9 mq9 mt9 mb9 mk9 mh9 mv9 (nl u) (ne_rn [1, 2, 3, 4, 5, 6, 7, 8, 9, 10, 11, 12, 20, 21] 22 s8)) = true := by
    intros
    rcases hs8 with rfl | rfl <;> rfl
  refine ne_aload_n X dL_law_2264 rfl ?_
  refine ne_aload_n X dL_law_2265 rfl ?_
  refine ne_iload X dL_law_2266 rfl ?_
  refine ne_iconst X dL_law_2268 ?_
  refine ne_iadd X dL_law_2269 ?_
  refine ne_sld X hX hbl hbA hb0 (by decide) (by omega) dL_law_2270 (fun z2270 e2270 l2270 r2270 => ?_)
  refine ne_aload_n X dL_law_2271 rfl ?_
  refine ne_callSFW (is := [1, 2, 3, 4, 5, 6, 7, 8, 9, 10, 11, 12, 20, 21]) X nw_Tg (me_L_house l hl c q t b k n h x y T hI (by omega) u s8 hs8 _ (by omega)) nw_yL_house nw_mL_317 nw_sL_house dL_law_2272 rfl rfl (by decide) (by decide) (by first | decide | omega) (by first | decide | omega) (Nat.le_of_ble_eq_true rfl) (hcw _ _ _ _ _ _ _ _ _ _ _ _ _ _ _ _ _) rfl rfl (Nat.le_of_ble_eq_true rfl) lw_pt1 ?_ ?_
  rotate_left
  · rintro E9 w9 h9; exact h9.elim
  rintro v2272 w2272 ⟨x1, y1, u1, rfl, hI1, z2272, rfl⟩
  refine ne_ws lw_mg1 ?_
  refine ne_istore X dL_law_2275 (by decide) ?_
  refine ne_aload_n X dL_law_2277 rfl ?_
  refine ne_aload_n X dL_law_2278 rfl ?_
  refine ne_iload X dL_law_2279 rfl ?_
  refine ne_iconst X dL_law_2281 ?_
  refine ne_iadd X dL_law_2282 ?_
  refine ne_sld X hX hbl hbA hb0 (by decide) (by omega) dL_law_2283 (fun z2283 e2283 l2283 r2283 => ?_)
  have y2283 : z2270 = z2283 := e2270.trans e2283.symm
  subst y2283
  refine ne_callVF (is := [13, 14, 15, 16, 17, 18, 19]) X nw_Tg (me_X3_house l hl c q t b k h mv9 T hM (by omega) _ (by omega)) nw_yX3_house nw_mL_319 nw_iX3_house nw_eX3_house (ci := 5) rfl rfl rfl dL_law_2284 rfl rfl (by decide) (by decide) (by first | decide | omega) (by first | decide | omega) (Nat.le_of_ble_eq_true rfl) (hcw _ _ _ _ _ _ _ _ _ _ _ _ _ _ _ _ _) rfl rfl (Nat.le_of_ble_eq_true rfl) lw_pt2 ?_ ?_
  rotate_left
  · rintro E9 w9 h9; exact h9.elim
  rintro v2284 w2284 ⟨⟨mv91, rfl, hM1⟩, z2284, rfl, g2284⟩
  refine ne_ws lw_mg2 ?_
  refine ne_istore X dL_law_2287 (by decide) ?_
  refine ne_ll (L' := [some (.ref 0), some (.ref 1), some (.ref 13), some (.ref 20), some (ni _), some (ni _), some (ni _)]) rfl ?_
  refine ne_goto (tgt := 2331) X dL_law_2289 rfl ?_
  refine ne_lnone 5 (ne_lnone 6 ?_)
  refine ne_ll (L' := [some (.ref 0), some (.ref 1), some (.ref 13), some (.ref 20), some (ni i), none, none]) rfl ?_
  refine ne_less (C' := C - 500) (S' := S - 3500) (by omega) (by omega) ?_
  exact kk _ _ _ _ _ _ _ _ _ _ _ _ hI1 hM1 hP hs
set_option maxRecDepth 100000 in
set_option maxHeartbeats 4000000 in
theorem lc_45 (hl : l.stackTraces = false) (X : ne_F nw_cl D ct A p l room_1 s9 m args meth c9 RL cL_law 7 nw_T 20 1000 888398 6436287) (hX : va_X b9 N9 xs s9 s9.heap) (hbl : b9 < s9.heap.size) (hbA : ¬ A b9) (hb0 : ad0 0 = b9) (i T : Int) (hi : 0 ≤ i ∧ i + 6 ≤ N9 ∧ N9 ≤ 384) (hT : 0 ≤ T ∧ T ≤ 100) (c q t b k n h x y  : Nat → Int) (mv9 u : Int) (sv : Value) (hI : cI c q t b k n h x y T) (hM : mI c q t b k h mv9 T) (hP : ∀ j : Nat, ne_per (t j) (b j) (n j)) (hs : sv = .null ∨ sv = .ref 21) (C S : Nat) (hC : 500 ≤ C) (hS : 3500 ≤ S) (kk : ∀ (c q t b k n h x y  : Nat → Int) (mv9 u : Int) (sv : Value), cI c q t b k n h x y (T + 1) → mI c q t b k h mv9 (T + 1) → (∀ j : Nat, ne_per (t j) (b j) (n j)) → (sv = .null ∨ sv = .ref 21) → ne_G nw_cl D ct A 1 ad0 p l e room_1 s9 m args below meth c9 Q9 7 888398 6436287 (C - 500) (S - 3500) 2331 [some (.ref 0), some (.ref 1), some (.ref 13), some (.ref 20), some (ni i), none, none] [] (lW c q t b k n h x y c q t b k h mv9 (nl u) sv)) : ne_G nw_cl D ct A 1 ad0 p l e room_1 s9 m args below meth c9 Q9 7 888398 6436287 C S 2292 [some (.ref 0), some (.ref 1), some (.ref 13), some (.ref 20), some (ni i), none, none] [] (lW c q t b k n h x y c q t b k h mv9 (nl u) sv) := by
  obtain ⟨s8, hs8, rfl⟩ : ∃ s8 : Value, (s8 = .null ∨ s8 = .ref 13) ∧ sv = ne_rn [1, 2, 3, 4, 5, 6, 7, 8, 9, 10, 11, 12, 20, 21] 22 s8 := by
    rcases hs with rfl | rfl
    · exact ⟨.null, Or.inl rfl, rfl⟩
    · exact ⟨.ref 13, Or.inr rfl, rfl⟩
  have hcw : ∀ (c q t b k n h x y mc9 mq9 mt9 mb9 mk9 mh9 : Nat → Int) (mv9 u : Int), ne_cw 22 (lW c q t b k n h x y mc9 mq9 mt9 mb9 mk9 mh9 mv9 (nl u) (ne_rn [1, 2, 3, 4, 5, 6, 7, 8, 9, 10, 11, 12, 20, 21] 22 s8)) = true := by
    intros
    rcases hs8 with rfl | rfl <;> rfl
  refine ne_aload_n X dL_law_2292 rfl ?_
  refine ne_callVF (is := [1, 2, 3, 4, 5, 6, 7, 8, 9, 10, 11, 12]) X nw_Tg (me_X1_knockW l hl c q t b k n h x y T hI (by omega)) nw_yX1_knock nw_mL_320 nw_iX1_knock nw_eX1_knock (ci := 3) rfl rfl rfl dL_law_2293 rfl rfl (by decide) (by decide) (by first | decide | omega) (by first | decide | omega) (Nat.le_of_ble_eq_true rfl) (hcw _ _ _ _ _ _ _ _ _ _ _ _ _ _ _ _ _) rfl rfl (Nat.le_of_ble_eq_true rfl) lw_pt3 ?_ ?_
  rotate_left
  · rintro E9 w9 h9; exact h9.elim
  rintro v2293 w2293 ⟨h1, rfl, hI1, hk1, z2293, rfl, g2293, k2293⟩
  refine ne_ws lw_mg3 ?_
  refine ne_popi X dL_law_2296 ?_
  refine ne_aload_n X dL_law_2297 rfl ?_
  refine ne_callVF (is := [13, 14, 15, 16, 17, 18, 19]) X nw_Tg (me_X3_knockW l hl c q t b k h mv9 T hM (by omega)) nw_yX3_knock nw_mL_323 nw_iX3_knock nw_eX3_knock (ci := 5) rfl rfl rfl dL_law_2298 rfl rfl (by decide) (by decide) (by first | decide | omega) (by first | decide | omega) (Nat.le_of_ble_eq_true rfl) (hcw _ _ _ _ _ _ _ _ _ _ _ _ _ _ _ _ _) rfl rfl (Nat.le_of_ble_eq_true rfl) lw_pt2 ?_ ?_
  rotate_left
  · rintro E9 w9 h9; exact h9.elim
  rintro v2298 w2298 ⟨h2, rfl, hM1, hk2, z2298, rfl, g2298, k2298⟩
  refine ne_ws lw_mg2 ?_
  obtain rfl : h2 = h1 := hk2.trans hk1.symm
  refine ne_popi X dL_law_2301 ?_
  refine ne_goto (tgt := 2331) X dL_law_2302 rfl ?_
  refine ne_lnone 5 (ne_lnone 6 ?_)
  refine ne_ll (L' := [some (.ref 0), some (.ref 1), some (.ref 13), some (.ref 20), some (ni i), none, none]) rfl ?_
  refine ne_less (C' := C - 500) (S' := S - 3500) (by omega) (by omega) ?_
  exact kk _ _ _ _ _ _ _ _ _ _ _ _ hI1 hM1 hP hs
set_option maxRecDepth 100000 in
set_option maxHeartbeats 4000000 in
theorem lc_46 (hl : l.stackTraces = false) (X : ne_F nw_cl D ct A p l room_1 s9 m args meth c9 RL cL_law 7 nw_T 20 1000 888398 6436287) (hX : va_X b9 N9 xs s9 s9.heap) (hbl : b9 < s9.heap.size) (hbA : ¬ A b9) (hb0 : ad0 0 = b9) (i T : Int) (hi : 0 ≤ i ∧ i + 6 ≤ N9 ∧ N9 ≤ 384) (hT : 0 ≤ T ∧ T ≤ 100) (c q t b k n h x y  : Nat → Int) (mv9 u : Int) (sv : Value) (hI : cI c q t b k n h x y T) (hM : mI c q t b k h mv9 T) (hP : ∀ j : Nat, ne_per (t j) (b j) (n j)) (hs : sv = .null ∨ sv = .ref 21) (C S : Nat) (hC : 500 ≤ C) (hS : 3500 ≤ S) (kk : ∀ (c q t b k n h x y  : Nat → Int) (mv9 u : Int) (sv : Value), cI c q t b k n h x y (T + 1) → mI c q t b k h mv9 (T + 1) → (∀ j : Nat, ne_per (t j) (b j) (n j)) → (sv = .null ∨ sv = .ref 21) → ne_G nw_cl D ct A 1 ad0 p l e room_1 s9 m args below meth c9 Q9 7 888398 6436287 (C - 500) (S - 3500) 2331 [some (.ref 0), some (.ref 1), some (.ref 13), some (.ref 20), some (ni i), none, none] [] (lW c q t b k n h x y c q t b k h mv9 (nl u) sv)) : ne_G nw_cl D ct A 1 ad0 p l e room_1 s9 m args below meth c9 Q9 7 888398 6436287 C S 2305 [some (.ref 0), some (.ref 1), some (.ref 13), some (.ref 20), some (ni i), none, none] [] (lW c q t b k n h x y c q t b k h mv9 (nl u) sv) := by
  obtain ⟨s8, hs8, rfl⟩ : ∃ s8 : Value, (s8 = .null ∨ s8 = .ref 13) ∧ sv = ne_rn [1, 2, 3, 4, 5, 6, 7, 8, 9, 10, 11, 12, 20, 21] 22 s8 := by
    rcases hs with rfl | rfl
    · exact ⟨.null, Or.inl rfl, rfl⟩
    · exact ⟨.ref 13, Or.inr rfl, rfl⟩
  have hcw : ∀ (c q t b k n h x y mc9 mq9 mt9 mb9 mk9 mh9 : Nat → Int) (mv9 u : Int), ne_cw 22 (lW c q t b k n h x y mc9 mq9 mt9 mb9 mk9 mh9 mv9 (nl u) (ne_rn [1, 2, 3, 4, 5, 6, 7, 8, 9, 10, 11, 12, 20, 21] 22 s8)) = true := by
    intros
    rcases hs8 with rfl | rfl <;> rfl
  refine ne_aload_n X dL_law_2305 rfl ?_
  refine ne_callVF (is := [1, 2, 3, 4, 5, 6, 7, 8, 9, 10, 11, 12]) X nw_Tg (me_X1_isSound l hl c q t b k n h x y T hI (by omega)) nw_yX1_isSound nw_mL_324 nw_iX1_isSound nw_eX1_isSound (ci := 3) rfl rfl rfl dL_law_2306 rfl rfl (by decide) (by decide) (by first | decide | omega) (by first | decide | omega) (Nat.le_of_ble_eq_true rfl) (hcw _ _ _ _ _ _ _ _ _ _ _ _ _ _ _ _ _) rfl rfl (Nat.le_of_ble_eq_true rfl) lw_pt3 ?_ ?_
  rotate_left
  · rintro E9 w9 h9; exact h9.elim
  rintro v2306 w2306 ⟨x1, y1, rfl, Ix1, Iy1, z2306, rfl, g2306⟩
  have hI1 : cI c q t b k n h x1 y1 (T + 1) := cI_mono ⟨hI.1, hI.2.1, hI.2.2.1, hI.2.2.2.1, hI.2.2.2.2.1, hI.2.2.2.2.2.1, hI.2.2.2.2.2.2.1, hI.2.2.2.2.2.2.2.1, Ix1, Iy1⟩ (by omega)
  refine ne_ws lw_mg3 ?_
  refine ne_popi X dL_law_2309 ?_
  refine ne_aload_n X dL_law_2310 rfl ?_
  refine ne_callVF (is := [13, 14, 15, 16, 17, 18, 19]) X nw_Tg (me_X3_isSound l hl c q t b k h mv9 T hM (by omega)) nw_yX3_isSound nw_mL_328 nw_iX3_isSound nw_eX3_isSound (ci := 5) rfl rfl rfl dL_law_2311 rfl rfl (by decide) (by decide) (by first | decide | omega) (by first | decide | omega) (Nat.le_of_ble_eq_true rfl) (hcw _ _ _ _ _ _ _ _ _ _ _ _ _ _ _ _ _) rfl rfl (Nat.le_of_ble_eq_true rfl) lw_pt2 ?_ ?_
  rotate_left
  · rintro E9 w9 h9; exact h9.elim
  rintro v2311 w2311 ⟨rfl, z2311, rfl, g2311⟩
  have hM1 : mI c q t b k h 0 (T + 1) := ⟨hM.1, hM.2.1, hM.2.2.1, hM.2.2.2.1, hM.2.2.2.2.1, hM.2.2.2.2.2.1, hM.2.2.2.2.2.2.1, ne_rg_mono hM.2.2.2.2.2.2.2.1 (by omega) (by omega), by omega⟩
  refine ne_ws lw_mg2 ?_
  refine ne_popi X dL_law_2314 ?_
  refine ne_goto (tgt := 2331) X dL_law_2315 rfl ?_
  refine ne_lnone 5 (ne_lnone 6 ?_)
  refine ne_ll (L' := [some (.ref 0), some (.ref 1), some (.ref 13), some (.ref 20), some (ni i), none, none]) rfl ?_
  refine ne_less (C' := C - 500) (S' := S - 3500) (by omega) (by omega) ?_
  exact kk _ _ _ _ _ _ _ _ _ _ _ _ hI1 hM1 hP hs
set_option maxRecDepth 100000 in
set_option maxHeartbeats 4000000 in
theorem lc_47 (hl : l.stackTraces = false) (X : ne_F nw_cl D ct A p l room_1 s9 m args meth c9 RL cL_law 7 nw_T 20 1000 888398 6436287) (hX : va_X b9 N9 xs s9 s9.heap) (hbl : b9 < s9.heap.size) (hbA : ¬ A b9) (hb0 : ad0 0 = b9) (i T : Int) (hi : 0 ≤ i ∧ i + 6 ≤ N9 ∧ N9 ≤ 384) (hT : 0 ≤ T ∧ T ≤ 100) (c q t b k n h x y  : Nat → Int) (mv9 u : Int) (sv : Value) (hI : cI c q t b k n h x y T) (hM : mI c q t b k h mv9 T) (hP : ∀ j : Nat, ne_per (t j) (b j) (n j)) (hs : sv = .null ∨ sv = .ref 21) (C S : Nat) (hC : 500 ≤ C) (hS : 3500 ≤ S) (kk : ∀ (c q t b k n h x y  : Nat → Int) (mv9 u : Int) (sv : Value), cI c q t b k n h x y (T + 1) → mI c q t b k h mv9 (T + 1) → (∀ j : Nat, ne_per (t j) (b j) (n j)) → (sv = .null ∨ sv = .ref 21) → ne_G nw_cl D ct A 1 ad0 p l e room_1 s9 m args below meth c9 Q9 7 888398 6436287 (C - 500) (S - 3500) 2331 [some (.ref 0), some (.ref 1), some (.ref 13), some (.ref 20), some (ni i), none, none] [] (lW c q t b k n h x y c q t b k h mv9 (nl u) sv)) : ne_G nw_cl D ct A 1 ad0 p l e room_1 s9 m args below meth c9 Q9 7 888398 6436287 C S 2318 [some (.ref 0), some (.ref 1), some (.ref 13), some (.ref 20), some (ni i), none, none] [] (lW c q t b k n h x y c q t b k h mv9 (nl u) sv) := by
  obtain ⟨s8, hs8, rfl⟩ : ∃ s8 : Value, (s8 = .null ∨ s8 = .ref 13) ∧ sv = ne_rn [1, 2, 3, 4, 5, 6, 7, 8, 9, 10, 11, 12, 20, 21] 22 s8 := by
    rcases hs with rfl | rfl
    · exact ⟨.null, Or.inl rfl, rfl⟩
    · exact ⟨.ref 13, Or.inr rfl, rfl⟩
  have hcw : ∀ (c q t b k n h x y mc9 mq9 mt9 mb9 mk9 mh9 : Nat → Int) (mv9 u : Int), ne_cw 22 (lW c q t b k n h x y mc9 mq9 mt9 mb9 mk9 mh9 mv9 (nl u) (ne_rn [1, 2, 3, 4, 5, 6, 7, 8, 9, 10, 11, 12, 20, 21] 22 s8)) = true := by
    intros
    rcases hs8 with rfl | rfl <;> rfl
  refine ne_aload_n X dL_law_2318 rfl ?_
  refine ne_callVF (is := [1, 2, 3, 4, 5, 6, 7, 8, 9, 10, 11, 12]) X nw_Tg (me_X1_digest l hl c q t b k n h x y T hI (by omega)) nw_yX1_digest nw_mL_329 nw_iX1_digest nw_eX1_digest (ci := 3) rfl rfl rfl dL_law_2319 rfl rfl (by decide) (by decide) (by first | decide | omega) (by first | decide | omega) (Nat.le_of_ble_eq_true rfl) (hcw _ _ _ _ _ _ _ _ _ _ _ _ _ _ _ _ _) rfl rfl (Nat.le_of_ble_eq_true rfl) lw_pt3 ?_ ?_
  rotate_left
  · rintro E9 w9 h9; exact h9.elim
  rintro v2319 w2319 ⟨x1, y1, rfl, Ix1, Iy1, z2319, rfl, g2319⟩
  have hI1 : cI c q t b k n h x1 y1 (T + 1) := cI_mono ⟨hI.1, hI.2.1, hI.2.2.1, hI.2.2.2.1, hI.2.2.2.2.1, hI.2.2.2.2.2.1, hI.2.2.2.2.2.2.1, hI.2.2.2.2.2.2.2.1, Ix1, Iy1⟩ (by omega)
  refine ne_ws lw_mg3 ?_
  refine ne_pop2l X dL_law_2322 ?_
  refine ne_aload_n X dL_law_2323 rfl ?_
  refine ne_callVF (is := [13, 14, 15, 16, 17, 18, 19]) X nw_Tg (me_X3_digest l hl c q t b k h mv9 T hM (by omega)) nw_yX3_digest nw_mL_333 nw_iX3_digest nw_eX3_digest (ci := 5) rfl rfl rfl dL_law_2324 rfl rfl (by decide) (by decide) (by first | decide | omega) (by first | decide | omega) (Nat.le_of_ble_eq_true rfl) (hcw _ _ _ _ _ _ _ _ _ _ _ _ _ _ _ _ _) rfl rfl (Nat.le_of_ble_eq_true rfl) lw_pt2 ?_ ?_
  rotate_left
  · rintro E9 w9 h9; exact h9.elim
  rintro v2324 w2324 ⟨rfl, z2324, rfl⟩
  have hM1 : mI c q t b k h 0 (T + 1) := ⟨hM.1, hM.2.1, hM.2.2.1, hM.2.2.2.1, hM.2.2.2.2.1, hM.2.2.2.2.2.1, hM.2.2.2.2.2.2.1, ne_rg_mono hM.2.2.2.2.2.2.2.1 (by omega) (by omega), by omega⟩
  refine ne_ws lw_mg2 ?_
  refine ne_pop2l X dL_law_2327 ?_
  refine ne_goto (tgt := 2331) X dL_law_2328 rfl ?_
  refine ne_lnone 5 (ne_lnone 6 ?_)
  refine ne_ll (L' := [some (.ref 0), some (.ref 1), some (.ref 13), some (.ref 20), some (ni i), none, none]) rfl ?_
  refine ne_less (C' := C - 500) (S' := S - 3500) (by omega) (by omega) ?_
  exact kk _ _ _ _ _ _ _ _ _ _ _ _ hI1 hM1 hP hs
end LAWS
