section LAWS
variable {D : va_G} {ct : Nat → ClassId} {A : Nat → Prop} {p : Program} {l : Launch} {e : Env} {s9 : State} {m : MethodId} {args : Array Value} {below : List Frame} {meth : Method} {c9 : Code} {Q9 : State → Prop} {b9 N9 : Nat} {xs : Nat → Int32} {ad0 : Nat → Nat}
set_option maxRecDepth 100000 in
set_option maxHeartbeats 4000000 in
theorem lc_36 (hl : l.stackTraces = false) (X : ne_F nw_cl D ct A p l room_1 s9 m args meth c9 RL cL_law 7 nw_T 20 1000 888398 6436287) (hX : va_X b9 N9 xs s9 s9.heap) (hbl : b9 < s9.heap.size) (hbA : ¬ A b9) (hb0 : ad0 0 = b9) (i T : Int) (hi : 0 ≤ i ∧ i + 6 ≤ N9 ∧ N9 ≤ 384) (hT : 0 ≤ T ∧ T ≤ 100) (c q t b k n h x y mc9 mq9 mh9 : Nat → Int) (mv9 u : Int) (sv : Value) (hI : cI c q t b k n h x y T) (hM : mI mc9 mq9 t b k mh9 mv9 T) (hP : ∀ j : Nat, ne_per (t j) (b j) (n j)) (hs : sv = .null ∨ sv = .ref 21) (C S : Nat) (hC : 500 ≤ C) (hS : 3500 ≤ S) (kk : ∀ (c q t b k n h x y mc9 mq9 mh9 : Nat → Int) (mv9 u : Int) (sv : Value), cI c q t b k n h x y (T + 1) → mI mc9 mq9 t b k mh9 mv9 (T + 1) → (∀ j : Nat, ne_per (t j) (b j) (n j)) → (sv = .null ∨ sv = .ref 21) → ne_G nw_cl D ct A 1 ad0 p l e room_1 s9 m args below meth c9 Q9 7 888398 6436287 (C - 500) (S - 3500) 2324 [some (.ref 0), some (.ref 1), some (.ref 13), some (.ref 20), some (ni i), none, none] [] (lW c q t b k n h x y mc9 mq9 t b k mh9 mv9 (nl u) sv)) : ne_G nw_cl D ct A 1 ad0 p l e room_1 s9 m args below meth c9 Q9 7 888398 6436287 C S 1921 [some (.ref 0), some (.ref 1), some (.ref 13), some (.ref 20), some (ni i), none, none] [] (lW c q t b k n h x y mc9 mq9 t b k mh9 mv9 (nl u) sv) := by
  rcases hs with rfl | rfl
  · refine ne_aload_n X dL_law_1921 rfl ?_
    refine ne_aload_n X dL_law_1922 rfl ?_
    refine ne_iload X dL_law_1923 rfl ?_
    refine ne_iconst X dL_law_1925 ?_
    refine ne_iadd X dL_law_1926 ?_
    refine ne_sld X hX hbl hbA hb0 (by decide) (by omega) dL_law_1927 (fun z1927 e1927 l1927 r1927 => ?_)
    refine ne_aload_n X dL_law_1928 rfl ?_
    refine ne_iload X dL_law_1929 rfl ?_
    refine ne_iconst X dL_law_1931 ?_
    refine ne_iadd X dL_law_1932 ?_
    refine ne_sld X hX hbl hbA hb0 (by decide) (by omega) dL_law_1933 (fun z1933 e1933 l1933 r1933 => ?_)
    refine ne_if_eq (tgt := 1941) X dL_law_1934 rfl (by omega) (fun b1934 => ?_) (fun b1934 => ?_)
    · refine ne_iconst X dL_law_1941 ?_
      refine ne_aload_n X dL_law_1942 rfl ?_
      refine ne_iload X dL_law_1943 rfl ?_
      refine ne_iconst X dL_law_1945 ?_
      refine ne_iadd X dL_law_1946 ?_
      refine ne_sld X hX hbl hbA hb0 (by decide) (by omega) dL_law_1947 (fun z1947 e1947 l1947 r1947 => ?_)
      refine ne_aload_n X dL_law_1948 rfl ?_
      refine ne_iload X dL_law_1949 rfl ?_
      refine ne_iconst X dL_law_1951 ?_
      refine ne_iadd X dL_law_1952 ?_
      refine ne_sld X hX hbl hbA hb0 (by decide) (by omega) dL_law_1953 (fun z1953 e1953 l1953 r1953 => ?_)
      refine ne_aload_n X dL_law_1954 rfl ?_
      refine ne_callSFW (is := [1, 2, 3, 4, 5, 6, 7, 8, 9, 10, 11, 12, 20, 21]) X nw_Tg (me_L_cutText l hl c q t b k n h x y T hI (by omega) u .null (Or.inl rfl) _ _ _ _ (by omega) (by omega) (by omega) (by omega)) nw_yL_cutText nw_mL_292 nw_sL_cutText dL_law_1955 rfl rfl (by decide) (by decide) (by first | decide | omega) (by first | decide | omega) (Nat.le_of_ble_eq_true rfl) rfl rfl rfl (Nat.le_of_ble_eq_true rfl) (lw_pt1 (s := .null)) ?_ ?_
      rotate_left
      · rintro E9 w9 h9; exact h9.elim
      rintro v1955 w1955 ⟨c1, q1, h1, x1, y1, u1, s1, rfl, hI1, hs1, z1955, rfl⟩
      rcases hs1 with rfl | rfl
      · refine ne_take 22 ?_
        refine ne_ws lw_tkN ?_
        refine ne_istore X dL_law_1958 (by decide) ?_
        refine ne_aload_n X dL_law_1960 rfl ?_
        refine ne_aload_n X dL_law_1961 rfl ?_
        refine ne_iload X dL_law_1962 rfl ?_
        refine ne_iconst X dL_law_1964 ?_
        refine ne_iadd X dL_law_1965 ?_
        refine ne_sld X hX hbl hbA hb0 (by decide) (by omega) dL_law_1966 (fun z1966 e1966 l1966 r1966 => ?_)
        have y1966 : z1927 = z1966 := e1927.trans e1966.symm
        subst y1966
        refine ne_aload_n X dL_law_1967 rfl ?_
        refine ne_iload X dL_law_1968 rfl ?_
        refine ne_iconst X dL_law_1970 ?_
        refine ne_iadd X dL_law_1971 ?_
        refine ne_sld X hX hbl hbA hb0 (by decide) (by omega) dL_law_1972 (fun z1972 e1972 l1972 r1972 => ?_)
        have y1972 : z1933 = z1972 := e1933.trans e1972.symm
        subst y1972
        refine ne_if_eq (tgt := 1980) X dL_law_1973 rfl (by omega) (fun b1973 => ?_) (fun b1973 => ?_)
        · refine ne_iconst X dL_law_1980 ?_
          refine ne_aload_n X dL_law_1981 rfl ?_
          refine ne_iload X dL_law_1982 rfl ?_
          refine ne_iconst X dL_law_1984 ?_
          refine ne_iadd X dL_law_1985 ?_
          refine ne_sld X hX hbl hbA hb0 (by decide) (by omega) dL_law_1986 (fun z1986 e1986 l1986 r1986 => ?_)
          have y1986 : z1947 = z1986 := e1947.trans e1986.symm
          subst y1986
          refine ne_aload_n X dL_law_1987 rfl ?_
          refine ne_iload X dL_law_1988 rfl ?_
          refine ne_iconst X dL_law_1990 ?_
          refine ne_iadd X dL_law_1991 ?_
          refine ne_sld X hX hbl hbA hb0 (by decide) (by omega) dL_law_1992 (fun z1992 e1992 l1992 r1992 => ?_)
          have y1992 : z1953 = z1992 := e1953.trans e1992.symm
          subst y1992
          refine ne_callVF (is := [13, 14, 15, 16, 17, 18, 19]) X nw_Tg (me_X3_cutText l hl mc9 mq9 t b k mh9 mv9 T hM (by omega) _ _ _ _ (by omega) (by omega) (by omega) (by omega)) nw_yX3_cutText nw_mL_295 nw_iX3_cutText nw_eX3_cutText (ci := 5) rfl rfl rfl dL_law_1993 rfl rfl (by decide) (by decide) (by first | decide | omega) (by first | decide | omega) (Nat.le_of_ble_eq_true rfl) rfl rfl rfl (Nat.le_of_ble_eq_true rfl) lw_pt2 ?_ ?_
          rotate_left
          · rintro E9 w9 h9; exact h9.elim
          rintro v1993 w1993 ⟨⟨mc91, mq91, mh91, mv91, rfl, hM1⟩, rfl⟩
          refine ne_ws lw_mg4 ?_
          refine ne_astore X dL_law_1996 (by decide) ?_
          refine ne_ll (L' := [some (.ref 0), some (.ref 1), some (.ref 13), some (.ref 20), some (ni _), some (ni _), some (.ref 22)]) rfl ?_
          refine ne_goto (tgt := 2324) X dL_law_1998 rfl ?_
          refine ne_lnone 5 (ne_lnone 6 ?_)
          refine ne_ll (L' := [some (.ref 0), some (.ref 1), some (.ref 13), some (.ref 20), some (ni i), none, none]) rfl ?_
          refine ne_take 22 ?_
          refine ne_ws lw_tk2 ?_
          refine ne_less (C' := C - 500) (S' := S - 3500) (by omega) (by omega) ?_
          exact kk _ _ _ _ _ _ _ _ _ _ _ _ _ _ _ hI1 hM1 hP (Or.inl rfl)
        · refine ne_iconst X dL_law_1976 ?_
          refine ne_goto (tgt := 1981) X dL_law_1977 rfl ?_
          refine ne_aload_n X dL_law_1981 rfl ?_
          refine ne_iload X dL_law_1982 rfl ?_
          refine ne_iconst X dL_law_1984 ?_
          refine ne_iadd X dL_law_1985 ?_
          refine ne_sld X hX hbl hbA hb0 (by decide) (by omega) dL_law_1986 (fun z1986 e1986 l1986 r1986 => ?_)
          have y1986 : z1947 = z1986 := e1947.trans e1986.symm
          subst y1986
          refine ne_aload_n X dL_law_1987 rfl ?_
          refine ne_iload X dL_law_1988 rfl ?_
          refine ne_iconst X dL_law_1990 ?_
          refine ne_iadd X dL_law_1991 ?_
          refine ne_sld X hX hbl hbA hb0 (by decide) (by omega) dL_law_1992 (fun z1992 e1992 l1992 r1992 => ?_)
          have y1992 : z1953 = z1992 := e1953.trans e1992.symm
          subst y1992
          refine ne_callVF (is := [13, 14, 15, 16, 17, 18, 19]) X nw_Tg (me_X3_cutText l hl mc9 mq9 t b k mh9 mv9 T hM (by omega) _ _ _ _ (by omega) (by omega) (by omega) (by omega)) nw_yX3_cutText nw_mL_295 nw_iX3_cutText nw_eX3_cutText (ci := 5) rfl rfl rfl dL_law_1993 rfl rfl (by decide) (by decide) (by first | decide | omega) (by first | decide | omega) (Nat.le_of_ble_eq_true rfl) rfl rfl rfl (Nat.le_of_ble_eq_true rfl) lw_pt2 ?_ ?_
          rotate_left
          · rintro E9 w9 h9; exact h9.elim
          rintro v1993 w1993 ⟨⟨mc91, mq91, mh91, mv91, rfl, hM1⟩, rfl⟩
          refine ne_ws lw_mg4 ?_
          refine ne_astore X dL_law_1996 (by decide) ?_
          refine ne_ll (L' := [some (.ref 0), some (.ref 1), some (.ref 13), some (.ref 20), some (ni _), some (ni _), some (.ref 22)]) rfl ?_
          refine ne_goto (tgt := 2324) X dL_law_1998 rfl ?_
          refine ne_lnone 5 (ne_lnone 6 ?_)
          refine ne_ll (L' := [some (.ref 0), some (.ref 1), some (.ref 13), some (.ref 20), some (ni i), none, none]) rfl ?_
          refine ne_take 22 ?_
          refine ne_ws lw_tk2 ?_
          refine ne_less (C' := C - 500) (S' := S - 3500) (by omega) (by omega) ?_
          exact kk _ _ _ _ _ _ _ _ _ _ _ _ _ _ _ hI1 hM1 hP (Or.inl rfl)
      · refine ne_viewb [0, 1, 2, 3, 4, 5, 6, 7, 8, 9, 10, 11, 12, 13, 14, 15, 16, 17, 18, 19, 20, 22] (ws' := lW c1 q1 t b k n h1 x1 y1 mc9 mq9 t b k mh9 mv9 (nl u1) (.ref 21)) (L' := [some (.ref 0), some (.ref 1), some (.ref 13), some (.ref 20), some (ni i), none, none]) (st' := [ni z1955]) lw_vw (by decide) lw_vl rfl rfl rfl ?_
        refine ne_istore X dL_law_1958 (by decide) ?_
        refine ne_aload_n X dL_law_1960 rfl ?_
        refine ne_aload_n X dL_law_1961 rfl ?_
        refine ne_iload X dL_law_1962 rfl ?_
        refine ne_iconst X dL_law_1964 ?_
        refine ne_iadd X dL_law_1965 ?_
        refine ne_sld X hX hbl hbA hb0 (by decide) (by omega) dL_law_1966 (fun z1966 e1966 l1966 r1966 => ?_)
        have y1966 : z1927 = z1966 := e1927.trans e1966.symm
        subst y1966
        refine ne_aload_n X dL_law_1967 rfl ?_
        refine ne_iload X dL_law_1968 rfl ?_
        refine ne_iconst X dL_law_1970 ?_
        refine ne_iadd X dL_law_1971 ?_
        refine ne_sld X hX hbl hbA hb0 (by decide) (by omega) dL_law_1972 (fun z1972 e1972 l1972 r1972 => ?_)
        have y1972 : z1933 = z1972 := e1933.trans e1972.symm
        subst y1972
        refine ne_if_eq (tgt := 1980) X dL_law_1973 rfl (by omega) (fun b1973 => ?_) (fun b1973 => ?_)
        · refine ne_iconst X dL_law_1980 ?_
          refine ne_aload_n X dL_law_1981 rfl ?_
          refine ne_iload X dL_law_1982 rfl ?_
          refine ne_iconst X dL_law_1984 ?_
          refine ne_iadd X dL_law_1985 ?_
          refine ne_sld X hX hbl hbA hb0 (by decide) (by omega) dL_law_1986 (fun z1986 e1986 l1986 r1986 => ?_)
          have y1986 : z1947 = z1986 := e1947.trans e1986.symm
          subst y1986
          refine ne_aload_n X dL_law_1987 rfl ?_
          refine ne_iload X dL_law_1988 rfl ?_
          refine ne_iconst X dL_law_1990 ?_
          refine ne_iadd X dL_law_1991 ?_
          refine ne_sld X hX hbl hbA hb0 (by decide) (by omega) dL_law_1992 (fun z1992 e1992 l1992 r1992 => ?_)
          have y1992 : z1953 = z1992 := e1953.trans e1992.symm
          subst y1992
          refine ne_callVF (is := [13, 14, 15, 16, 17, 18, 19]) X nw_Tg (me_X3_cutText l hl mc9 mq9 t b k mh9 mv9 T hM (by omega) _ _ _ _ (by omega) (by omega) (by omega) (by omega)) nw_yX3_cutText nw_mL_295 nw_iX3_cutText nw_eX3_cutText (ci := 5) rfl rfl rfl dL_law_1993 rfl rfl (by decide) (by decide) (by first | decide | omega) (by first | decide | omega) (Nat.le_of_ble_eq_true rfl) rfl rfl rfl (Nat.le_of_ble_eq_true rfl) lw_pt2 ?_ ?_
          rotate_left
          · rintro E9 w9 h9; exact h9.elim
          rintro v1993 w1993 ⟨⟨mc91, mq91, mh91, mv91, rfl, hM1⟩, rfl⟩
          refine ne_ws lw_mg4 ?_
          refine ne_astore X dL_law_1996 (by decide) ?_
          refine ne_ll (L' := [some (.ref 0), some (.ref 1), some (.ref 13), some (.ref 20), some (ni _), some (ni _), some (.ref 22)]) rfl ?_
          refine ne_goto (tgt := 2324) X dL_law_1998 rfl ?_
          refine ne_lnone 5 (ne_lnone 6 ?_)
          refine ne_ll (L' := [some (.ref 0), some (.ref 1), some (.ref 13), some (.ref 20), some (ni i), none, none]) rfl ?_
          refine ne_take 22 ?_
          refine ne_ws lw_tk2 ?_
          refine ne_less (C' := C - 500) (S' := S - 3500) (by omega) (by omega) ?_
          exact kk _ _ _ _ _ _ _ _ _ _ _ _ _ _ _ hI1 hM1 hP (Or.inr rfl)
        · refine ne_iconst X dL_law_1976 ?_
          refine ne_goto (tgt := 1981) X dL_law_1977 rfl ?_
          refine ne_aload_n X dL_law_1981 rfl ?_
          refine ne_iload X dL_law_1982 rfl ?_
          refine ne_iconst X dL_law_1984 ?_
          refine ne_iadd X dL_law_1985 ?_
          refine ne_sld X hX hbl hbA hb0 (by decide) (by omega) dL_law_1986 (fun z1986 e1986 l1986 r1986 => ?_)
          have y1986 : z1947 = z1986 := e1947.trans e1986.symm
          subst y1986
          refine ne_aload_n X dL_law_1987 rfl ?_
          refine ne_iload X dL_law_1988 rfl ?_
          refine ne_iconst X dL_law_1990 ?_
          refine ne_iadd X dL_law_1991 ?_
          refine ne_sld X hX hbl hbA hb0 (by decide) (by omega) dL_law_1992 (fun z1992 e1992 l1992 r1992 => ?_)
          have y1992 : z1953 = z1992 := e1953.trans e1992.symm
          subst y1992
          refine ne_callVF (is := [13, 14, 15, 16, 17, 18, 19]) X nw_Tg (me_X3_cutText l hl mc9 mq9 t b k mh9 mv9 T hM (by omega) _ _ _ _ (by omega) (by omega) (by omega) (by omega)) nw_yX3_cutText nw_mL_295 nw_iX3_cutText nw_eX3_cutText (ci := 5) rfl rfl rfl dL_law_1993 rfl rfl (by decide) (by decide) (by first | decide | omega) (by first | decide | omega) (Nat.le_of_ble_eq_true rfl) rfl rfl rfl (Nat.le_of_ble_eq_true rfl) lw_pt2 ?_ ?_
          rotate_left
          · rintro E9 w9 h9; exact h9.elim
          rintro v1993 w1993 ⟨⟨mc91, mq91, mh91, mv91, rfl, hM1⟩, rfl⟩
          refine ne_ws lw_mg4 ?_
          refine ne_astore X dL_law_1996 (by decide) ?_
          refine ne_ll (L' := [some (.ref 0), some (.ref 1), some (.ref 13), some (.ref 20), some (ni _), some (ni _), some (.ref 22)]) rfl ?_
          refine ne_goto (tgt := 2324) X dL_law_1998 rfl ?_
          refine ne_lnone 5 (ne_lnone 6 ?_)
          refine ne_ll (L' := [some (.ref 0), some (.ref 1), some (.ref 13), some (.ref 20), some (ni i), none, none]) rfl ?_
          refine ne_take 22 ?_
          refine ne_ws lw_tk2 ?_
          refine ne_less (C' := C - 500) (S' := S - 3500) (by omega) (by omega) ?_
          exact kk _ _ _ _ _ _ _ _ _ _ _ _ _ _ _ hI1 hM1 hP (Or.inr rfl)
    · refine ne_iconst X dL_law_1937 ?_
      refine ne_goto (tgt := 1942) X dL_law_1938 rfl ?_
      refine ne_aload_n X dL_law_1942 rfl ?_
      refine ne_iload X dL_law_1943 rfl ?_
      refine ne_iconst X dL_law_1945 ?_
      refine ne_iadd X dL_law_1946 ?_
      refine ne_sld X hX hbl hbA hb0 (by decide) (by omega) dL_law_1947 (fun z1947 e1947 l1947 r1947 => ?_)
      refine ne_aload_n X dL_law_1948 rfl ?_
      refine ne_iload X dL_law_1949 rfl ?_
      refine ne_iconst X dL_law_1951 ?_
      refine ne_iadd X dL_law_1952 ?_
      refine ne_sld X hX hbl hbA hb0 (by decide) (by omega) dL_law_1953 (fun z1953 e1953 l1953 r1953 => ?_)
      refine ne_aload_n X dL_law_1954 rfl ?_
      refine ne_callSFW (is := [1, 2, 3, 4, 5, 6, 7, 8, 9, 10, 11, 12, 20, 21]) X nw_Tg (me_L_cutText l hl c q t b k n h x y T hI (by omega) u .null (Or.inl rfl) _ _ _ _ (by omega) (by omega) (by omega) (by omega)) nw_yL_cutText nw_mL_292 nw_sL_cutText dL_law_1955 rfl rfl (by decide) (by decide) (by first | decide | omega) (by first | decide | omega) (Nat.le_of_ble_eq_true rfl) rfl rfl rfl (Nat.le_of_ble_eq_true rfl) (lw_pt1 (s := .null)) ?_ ?_
      rotate_left
      · rintro E9 w9 h9; exact h9.elim
      rintro v1955 w1955 ⟨c1, q1, h1, x1, y1, u1, s1, rfl, hI1, hs1, z1955, rfl⟩
      rcases hs1 with rfl | rfl
      · refine ne_take 22 ?_
        refine ne_ws lw_tkN ?_
        refine ne_istore X dL_law_1958 (by decide) ?_
        refine ne_aload_n X dL_law_1960 rfl ?_
        refine ne_aload_n X dL_law_1961 rfl ?_
        refine ne_iload X dL_law_1962 rfl ?_
        refine ne_iconst X dL_law_1964 ?_
        refine ne_iadd X dL_law_1965 ?_
        refine ne_sld X hX hbl hbA hb0 (by decide) (by omega) dL_law_1966 (fun z1966 e1966 l1966 r1966 => ?_)
        have y1966 : z1927 = z1966 := e1927.trans e1966.symm
        subst y1966
        refine ne_aload_n X dL_law_1967 rfl ?_
        refine ne_iload X dL_law_1968 rfl ?_
        refine ne_iconst X dL_law_1970 ?_
        refine ne_iadd X dL_law_1971 ?_
        refine ne_sld X hX hbl hbA hb0 (by decide) (by omega) dL_law_1972 (fun z1972 e1972 l1972 r1972 => ?_)
        have y1972 : z1933 = z1972 := e1933.trans e1972.symm
        subst y1972
        refine ne_if_eq (tgt := 1980) X dL_law_1973 rfl (by omega) (fun b1973 => ?_) (fun b1973 => ?_)
        · refine ne_iconst X dL_law_1980 ?_
          refine ne_aload_n X dL_law_1981 rfl ?_
          refine ne_iload X dL_law_1982 rfl ?_
          refine ne_iconst X dL_law_1984 ?_
          refine ne_iadd X dL_law_1985 ?_
          refine ne_sld X hX hbl hbA hb0 (by decide) (by omega) dL_law_1986 (fun z1986 e1986 l1986 r1986 => ?_)
          have y1986 : z1947 = z1986 := e1947.trans e1986.symm
          subst y1986
          refine ne_aload_n X dL_law_1987 rfl ?_
          refine ne_iload X dL_law_1988 rfl ?_
          refine ne_iconst X dL_law_1990 ?_
          refine ne_iadd X dL_law_1991 ?_
          refine ne_sld X hX hbl hbA hb0 (by decide) (by omega) dL_law_1992 (fun z1992 e1992 l1992 r1992 => ?_)
          have y1992 : z1953 = z1992 := e1953.trans e1992.symm
          subst y1992
          refine ne_callVF (is := [13, 14, 15, 16, 17, 18, 19]) X nw_Tg (me_X3_cutText l hl mc9 mq9 t b k mh9 mv9 T hM (by omega) _ _ _ _ (by omega) (by omega) (by omega) (by omega)) nw_yX3_cutText nw_mL_295 nw_iX3_cutText nw_eX3_cutText (ci := 5) rfl rfl rfl dL_law_1993 rfl rfl (by decide) (by decide) (by first | decide | omega) (by first | decide | omega) (Nat.le_of_ble_eq_true rfl) rfl rfl rfl (Nat.le_of_ble_eq_true rfl) lw_pt2 ?_ ?_
          rotate_left
          · rintro E9 w9 h9; exact h9.elim
          rintro v1993 w1993 ⟨⟨mc91, mq91, mh91, mv91, rfl, hM1⟩, rfl⟩
          refine ne_ws lw_mg4 ?_
          refine ne_astore X dL_law_1996 (by decide) ?_
          refine ne_ll (L' := [some (.ref 0), some (.ref 1), some (.ref 13), some (.ref 20), some (ni _), some (ni _), some (.ref 22)]) rfl ?_
          refine ne_goto (tgt := 2324) X dL_law_1998 rfl ?_
          refine ne_lnone 5 (ne_lnone 6 ?_)
          refine ne_ll (L' := [some (.ref 0), some (.ref 1), some (.ref 13), some (.ref 20), some (ni i), none, none]) rfl ?_
          refine ne_take 22 ?_
          refine ne_ws lw_tk2 ?_
          refine ne_less (C' := C - 500) (S' := S - 3500) (by omega) (by omega) ?_
          exact kk _ _ _ _ _ _ _ _ _ _ _ _ _ _ _ hI1 hM1 hP (Or.inl rfl)
        · refine ne_iconst X dL_law_1976 ?_
          refine ne_goto (tgt := 1981) X dL_law_1977 rfl ?_
          refine ne_aload_n X dL_law_1981 rfl ?_
          refine ne_iload X dL_law_1982 rfl ?_
          refine ne_iconst X dL_law_1984 ?_
          refine ne_iadd X dL_law_1985 ?_
          refine ne_sld X hX hbl hbA hb0 (by decide) (by omega) dL_law_1986 (fun z1986 e1986 l1986 r1986 => ?_)
          have y1986 : z1947 = z1986 := e1947.trans e1986.symm
          subst y1986
          refine ne_aload_n X dL_law_1987 rfl ?_
          refine ne_iload X dL_law_1988 rfl ?_
          refine ne_iconst X dL_law_1990 ?_
          refine ne_iadd X dL_law_1991 ?_
          refine ne_sld X hX hbl hbA hb0 (by decide) (by omega) dL_law_1992 (fun z1992 e1992 l1992 r1992 => ?_)
          have y1992 : z1953 = z1992 := e1953.trans e1992.symm
          subst y1992
          refine ne_callVF (is := [13, 14, 15, 16, 17, 18, 19]) X nw_Tg (me_X3_cutText l hl mc9 mq9 t b k mh9 mv9 T hM (by omega) _ _ _ _ (by omega) (by omega) (by omega) (by omega)) nw_yX3_cutText nw_mL_295 nw_iX3_cutText nw_eX3_cutText (ci := 5) rfl rfl rfl dL_law_1993 rfl rfl (by decide) (by decide) (by first | decide | omega) (by first | decide | omega) (Nat.le_of_ble_eq_true rfl) rfl rfl rfl (Nat.le_of_ble_eq_true rfl) lw_pt2 ?_ ?_
          rotate_left
          · rintro E9 w9 h9; exact h9.elim
          rintro v1993 w1993 ⟨⟨mc91, mq91, mh91, mv91, rfl, hM1⟩, rfl⟩
          refine ne_ws lw_mg4 ?_
          refine ne_astore X dL_law_1996 (by decide) ?_
          refine ne_ll (L' := [some (.ref 0), some (.ref 1), some (.ref 13), some (.ref 20), some (ni _), some (ni _), some (.ref 22)]) rfl ?_
          refine ne_goto (tgt := 2324) X dL_law_1998 rfl ?_
          refine ne_lnone 5 (ne_lnone 6 ?_)
          refine ne_ll (L' := [some (.ref 0), some (.ref 1), some (.ref 13), some (.ref 20), some (ni i), none, none]) rfl ?_
          refine ne_take 22 ?_
          refine ne_ws lw_tk2 ?_
          refine ne_less (C' := C - 500) (S' := S - 3500) (by omega) (by omega) ?_
          exact kk _ _ _ _ _ _ _ _ _ _ _ _ _ _ _ hI1 hM1 hP (Or.inl rfl)
      · refine ne_viewb [0, 1, 2, 3, 4, 5, 6, 7, 8, 9, 10, 11, 12, 13, 14, 15, 16, 17, 18, 19, 20, 22] (ws' := lW c1 q1 t b k n h1 x1 y1 mc9 mq9 t b k mh9 mv9 (nl u1) (.ref 21)) (L' := [some (.ref 0), some (.ref 1), some (.ref 13), some (.ref 20), some (ni i), none, none]) (st' := [ni z1955]) lw_vw (by decide) lw_vl rfl rfl rfl ?_
        refine ne_istore X dL_law_1958 (by decide) ?_
        refine ne_aload_n X dL_law_1960 rfl ?_
        refine ne_aload_n X dL_law_1961 rfl ?_
        refine ne_iload X dL_law_1962 rfl ?_
        refine ne_iconst X dL_law_1964 ?_
        refine ne_iadd X dL_law_1965 ?_
        refine ne_sld X hX hbl hbA hb0 (by decide) (by omega) dL_law_1966 (fun z1966 e1966 l1966 r1966 => ?_)
        have y1966 : z1927 = z1966 := e1927.trans e1966.symm
        subst y1966
        refine ne_aload_n X dL_law_1967 rfl ?_
        refine ne_iload X dL_law_1968 rfl ?_
        refine ne_iconst X dL_law_1970 ?_
        refine ne_iadd X dL_law_1971 ?_
        refine ne_sld X hX hbl hbA hb0 (by decide) (by omega) dL_law_1972 (fun z1972 e1972 l1972 r1972 => ?_)
        have y1972 : z1933 = z1972 := e1933.trans e1972.symm
        subst y1972
        refine ne_if_eq (tgt := 1980) X dL_law_1973 rfl (by omega) (fun b1973 => ?_) (fun b1973 => ?_)
        · refine ne_iconst X dL_law_1980 ?_
          refine ne_aload_n X dL_law_1981 rfl ?_
          refine ne_iload X dL_law_1982 rfl ?_
          refine ne_iconst X dL_law_1984 ?_
          refine ne_iadd X dL_law_1985 ?_
          refine ne_sld X hX hbl hbA hb0 (by decide) (by omega) dL_law_1986 (fun z1986 e1986 l1986 r1986 => ?_)
          have y1986 : z1947 = z1986 := e1947.trans e1986.symm
          subst y1986
          refine ne_aload_n X dL_law_1987 rfl ?_
          refine ne_iload X dL_law_1988 rfl ?_
          refine ne_iconst X dL_law_1990 ?_
          refine ne_iadd X dL_law_1991 ?_
          refine ne_sld X hX hbl hbA hb0 (by decide) (by omega) dL_law_1992 (fun z1992 e1992 l1992 r1992 => ?_)
          have y1992 : z1953 = z1992 := e1953.trans e1992.symm
          subst y1992
          refine ne_callVF (is := [13, 14, 15, 16, 17, 18, 19]) X nw_Tg (me_X3_cutText l hl mc9 mq9 t b k mh9 mv9 T hM (by omega) _ _ _ _ (by omega) (by omega) (by omega) (by omega)) nw_yX3_cutText nw_mL_295 nw_iX3_cutText nw_eX3_cutText (ci := 5) rfl rfl rfl dL_law_1993 rfl rfl (by decide) (by decide) (by first | decide | omega) (by first | decide | omega) (Nat.le_of_ble_eq_true rfl) rfl rfl rfl (Nat.le_of_ble_eq_true rfl) lw_pt2 ?_ ?_
          rotate_left
          · rintro E9 w9 h9; exact h9.elim
          rintro v1993 w1993 ⟨⟨mc91, mq91, mh91, mv91, rfl, hM1⟩, rfl⟩
          refine ne_ws lw_mg4 ?_
          refine ne_astore X dL_law_1996 (by decide) ?_
          refine ne_ll (L' := [some (.ref 0), some (.ref 1), some (.ref 13), some (.ref 20), some (ni _), some (ni _), some (.ref 22)]) rfl ?_
          refine ne_goto (tgt := 2324) X dL_law_1998 rfl ?_
          refine ne_lnone 5 (ne_lnone 6 ?_)
          refine ne_ll (L' := [some (.ref 0), some (.ref 1), some (.ref 13), some (.ref 20), some (ni i), none, none]) rfl ?_
          refine ne_take 22 ?_
          refine ne_ws lw_tk2 ?_
          refine ne_less (C' := C - 500) (S' := S - 3500) (by omega) (by omega) ?_
          exact kk _ _ _ _ _ _ _ _ _ _ _ _ _ _ _ hI1 hM1 hP (Or.inr rfl)
        · refine ne_iconst X dL_law_1976 ?_
          refine ne_goto (tgt := 1981) X dL_law_1977 rfl ?_
          refine ne_aload_n X dL_law_1981 rfl ?_
          refine ne_iload X dL_law_1982 rfl ?_
          refine ne_iconst X dL_law_1984 ?_
          refine ne_iadd X dL_law_1985 ?_
          refine ne_sld X hX hbl hbA hb0 (by decide) (by omega) dL_law_1986 (fun z1986 e1986 l1986 r1986 => ?_)
          have y1986 : z1947 = z1986 := e1947.trans e1986.symm
          subst y1986
          refine ne_aload_n X dL_law_1987 rfl ?_
          refine ne_iload X dL_law_1988 rfl ?_
          refine ne_iconst X dL_law_1990 ?_
          refine ne_iadd X dL_law_1991 ?_
          refine ne_sld X hX hbl hbA hb0 (by decide) (by omega) dL_law_1992 (fun z1992 e1992 l1992 r1992 => ?_)
          have y1992 : z1953 = z1992 := e1953.trans e1992.symm
          subst y1992
          refine ne_callVF (is := [13, 14, 15, 16, 17, 18, 19]) X nw_Tg (me_X3_cutText l hl mc9 mq9 t b k mh9 mv9 T hM (by omega) _ _ _ _ (by omega) (by omega) (by omega) (by omega)) nw_yX3_cutText nw_mL_295 nw_iX3_cutText nw_eX3_cutText (ci := 5) rfl rfl rfl dL_law_1993 rfl rfl (by decide) (by decide) (by first | decide | omega) (by first | decide | omega) (Nat.le_of_ble_eq_true rfl) rfl rfl rfl (Nat.le_of_ble_eq_true rfl) lw_pt2 ?_ ?_
          rotate_left
          · rintro E9 w9 h9; exact h9.elim
          rintro v1993 w1993 ⟨⟨mc91, mq91, mh91, mv91, rfl, hM1⟩, rfl⟩
          refine ne_ws lw_mg4 ?_
          refine ne_astore X dL_law_1996 (by decide) ?_
          refine ne_ll (L' := [some (.ref 0), some (.ref 1), some (.ref 13), some (.ref 20), some (ni _), some (ni _), some (.ref 22)]) rfl ?_
          refine ne_goto (tgt := 2324) X dL_law_1998 rfl ?_
          refine ne_lnone 5 (ne_lnone 6 ?_)
          refine ne_ll (L' := [some (.ref 0), some (.ref 1), some (.ref 13), some (.ref 20), some (ni i), none, none]) rfl ?_
          refine ne_take 22 ?_
          refine ne_ws lw_tk2 ?_
          refine ne_less (C' := C - 500) (S' := S - 3500) (by omega) (by omega) ?_
          exact kk _ _ _ _ _ _ _ _ _ _ _ _ _ _ _ hI1 hM1 hP (Or.inr rfl)
  · refine ne_aload_n X dL_law_1921 rfl ?_
    refine ne_aload_n X dL_law_1922 rfl ?_
    refine ne_iload X dL_law_1923 rfl ?_
    refine ne_iconst X dL_law_1925 ?_
    refine ne_iadd X dL_law_1926 ?_
    refine ne_sld X hX hbl hbA hb0 (by decide) (by omega) dL_law_1927 (fun z1927 e1927 l1927 r1927 => ?_)
    refine ne_aload_n X dL_law_1928 rfl ?_
    refine ne_iload X dL_law_1929 rfl ?_
    refine ne_iconst X dL_law_1931 ?_
    refine ne_iadd X dL_law_1932 ?_
    refine ne_sld X hX hbl hbA hb0 (by decide) (by omega) dL_law_1933 (fun z1933 e1933 l1933 r1933 => ?_)
    refine ne_if_eq (tgt := 1941) X dL_law_1934 rfl (by omega) (fun b1934 => ?_) (fun b1934 => ?_)
    · refine ne_iconst X dL_law_1941 ?_
      refine ne_aload_n X dL_law_1942 rfl ?_
      refine ne_iload X dL_law_1943 rfl ?_
      refine ne_iconst X dL_law_1945 ?_
      refine ne_iadd X dL_law_1946 ?_
      refine ne_sld X hX hbl hbA hb0 (by decide) (by omega) dL_law_1947 (fun z1947 e1947 l1947 r1947 => ?_)
      refine ne_aload_n X dL_law_1948 rfl ?_
      refine ne_iload X dL_law_1949 rfl ?_
      refine ne_iconst X dL_law_1951 ?_
      refine ne_iadd X dL_law_1952 ?_
      refine ne_sld X hX hbl hbA hb0 (by decide) (by omega) dL_law_1953 (fun z1953 e1953 l1953 r1953 => ?_)
      refine ne_aload_n X dL_law_1954 rfl ?_
      refine ne_callSFW (is := [1, 2, 3, 4, 5, 6, 7, 8, 9, 10, 11, 12, 20, 21]) X nw_Tg (me_L_cutText l hl c q t b k n h x y T hI (by omega) u (.ref 13) (Or.inr rfl) _ _ _ _ (by omega) (by omega) (by omega) (by omega)) nw_yL_cutText nw_mL_292 nw_sL_cutText dL_law_1955 rfl rfl (by decide) (by decide) (by first | decide | omega) (by first | decide | omega) (Nat.le_of_ble_eq_true rfl) rfl rfl rfl (Nat.le_of_ble_eq_true rfl) (lw_pt1 (s := .ref 13)) ?_ ?_
      rotate_left
      · rintro E9 w9 h9; exact h9.elim
      rintro v1955 w1955 ⟨c1, q1, h1, x1, y1, u1, s1, rfl, hI1, hs1, z1955, rfl⟩
      rcases hs1 with rfl | rfl
      · refine ne_take 22 ?_
        refine ne_ws lw_tkR ?_
        refine ne_istore X dL_law_1958 (by decide) ?_
        refine ne_aload_n X dL_law_1960 rfl ?_
        refine ne_aload_n X dL_law_1961 rfl ?_
        refine ne_iload X dL_law_1962 rfl ?_
        refine ne_iconst X dL_law_1964 ?_
        refine ne_iadd X dL_law_1965 ?_
        refine ne_sld X hX hbl hbA hb0 (by decide) (by omega) dL_law_1966 (fun z1966 e1966 l1966 r1966 => ?_)
        have y1966 : z1927 = z1966 := e1927.trans e1966.symm
        subst y1966
        refine ne_aload_n X dL_law_1967 rfl ?_
        refine ne_iload X dL_law_1968 rfl ?_
        refine ne_iconst X dL_law_1970 ?_
        refine ne_iadd X dL_law_1971 ?_
        refine ne_sld X hX hbl hbA hb0 (by decide) (by omega) dL_law_1972 (fun z1972 e1972 l1972 r1972 => ?_)
        have y1972 : z1933 = z1972 := e1933.trans e1972.symm
        subst y1972
        refine ne_if_eq (tgt := 1980) X dL_law_1973 rfl (by omega) (fun b1973 => ?_) (fun b1973 => ?_)
        · refine ne_iconst X dL_law_1980 ?_
          refine ne_aload_n X dL_law_1981 rfl ?_
          refine ne_iload X dL_law_1982 rfl ?_
          refine ne_iconst X dL_law_1984 ?_
          refine ne_iadd X dL_law_1985 ?_
          refine ne_sld X hX hbl hbA hb0 (by decide) (by omega) dL_law_1986 (fun z1986 e1986 l1986 r1986 => ?_)
          have y1986 : z1947 = z1986 := e1947.trans e1986.symm
          subst y1986
          refine ne_aload_n X dL_law_1987 rfl ?_
          refine ne_iload X dL_law_1988 rfl ?_
          refine ne_iconst X dL_law_1990 ?_
          refine ne_iadd X dL_law_1991 ?_
          refine ne_sld X hX hbl hbA hb0 (by decide) (by omega) dL_law_1992 (fun z1992 e1992 l1992 r1992 => ?_)
          have y1992 : z1953 = z1992 := e1953.trans e1992.symm
          subst y1992
          refine ne_callVF (is := [13, 14, 15, 16, 17, 18, 19]) X nw_Tg (me_X3_cutText l hl mc9 mq9 t b k mh9 mv9 T hM (by omega) _ _ _ _ (by omega) (by omega) (by omega) (by omega)) nw_yX3_cutText nw_mL_295 nw_iX3_cutText nw_eX3_cutText (ci := 5) rfl rfl rfl dL_law_1993 rfl rfl (by decide) (by decide) (by first | decide | omega) (by first | decide | omega) (Nat.le_of_ble_eq_true rfl) rfl rfl rfl (Nat.le_of_ble_eq_true rfl) lw_pt2 ?_ ?_
          rotate_left
          · rintro E9 w9 h9; exact h9.elim
          rintro v1993 w1993 ⟨⟨mc91, mq91, mh91, mv91, rfl, hM1⟩, rfl⟩
          refine ne_ws lw_mg4 ?_
          refine ne_astore X dL_law_1996 (by decide) ?_
          refine ne_ll (L' := [some (.ref 0), some (.ref 1), some (.ref 13), some (.ref 20), some (ni _), some (ni _), some (.ref 22)]) rfl ?_
          refine ne_goto (tgt := 2324) X dL_law_1998 rfl ?_
          refine ne_lnone 5 (ne_lnone 6 ?_)
          refine ne_ll (L' := [some (.ref 0), some (.ref 1), some (.ref 13), some (.ref 20), some (ni i), none, none]) rfl ?_
          refine ne_take 22 ?_
          refine ne_ws lw_tk2 ?_
          refine ne_less (C' := C - 500) (S' := S - 3500) (by omega) (by omega) ?_
          exact kk _ _ _ _ _ _ _ _ _ _ _ _ _ _ _ hI1 hM1 hP (Or.inr rfl)
        · refine ne_iconst X dL_law_1976 ?_
          refine ne_goto (tgt := 1981) X dL_law_1977 rfl ?_
          refine ne_aload_n X dL_law_1981 rfl ?_
          refine ne_iload X dL_law_1982 rfl ?_
          refine ne_iconst X dL_law_1984 ?_
          refine ne_iadd X dL_law_1985 ?_
          refine ne_sld X hX hbl hbA hb0 (by decide) (by omega) dL_law_1986 (fun z1986 e1986 l1986 r1986 => ?_)
          have y1986 : z1947 = z1986 := e1947.trans e1986.symm
          subst y1986
          refine ne_aload_n X dL_law_1987 rfl ?_
          refine ne_iload X dL_law_1988 rfl ?_
          refine ne_iconst X dL_law_1990 ?_
          refine ne_iadd X dL_law_1991 ?_
          refine ne_sld X hX hbl hbA hb0 (by decide) (by omega) dL_law_1992 (fun z1992 e1992 l1992 r1992 => ?_)
          have y1992 : z1953 = z1992 := e1953.trans e1992.symm
          subst y1992
          refine ne_callVF (is := [13, 14, 15, 16, 17, 18, 19]) X nw_Tg (me_X3_cutText l hl mc9 mq9 t b k mh9 mv9 T hM (by omega) _ _ _ _ (by omega) (by omega) (by omega) (by omega)) nw_yX3_cutText nw_mL_295 nw_iX3_cutText nw_eX3_cutText (ci := 5) rfl rfl rfl dL_law_1993 rfl rfl (by decide) (by decide) (by first | decide | omega) (by first | decide | omega) (Nat.le_of_ble_eq_true rfl) rfl rfl rfl (Nat.le_of_ble_eq_true rfl) lw_pt2 ?_ ?_
          rotate_left
          · rintro E9 w9 h9; exact h9.elim
          rintro v1993 w1993 ⟨⟨mc91, mq91, mh91, mv91, rfl, hM1⟩, rfl⟩
          refine ne_ws lw_mg4 ?_
          refine ne_astore X dL_law_1996 (by decide) ?_
          refine ne_ll (L' := [some (.ref 0), some (.ref 1), some (.ref 13), some (.ref 20), some (ni _), some (ni _), some (.ref 22)]) rfl ?_
          refine ne_goto (tgt := 2324) X dL_law_1998 rfl ?_
          refine ne_lnone 5 (ne_lnone 6 ?_)
          refine ne_ll (L' := [some (.ref 0), some (.ref 1), some (.ref 13), some (.ref 20), some (ni i), none, none]) rfl ?_
          refine ne_take 22 ?_
          refine ne_ws lw_tk2 ?_
          refine ne_less (C' := C - 500) (S' := S - 3500) (by omega) (by omega) ?_
          exact kk _ _ _ _ _ _ _ _ _ _ _ _ _ _ _ hI1 hM1 hP (Or.inr rfl)
      · refine ne_viewb [0, 1, 2, 3, 4, 5, 6, 7, 8, 9, 10, 11, 12, 13, 14, 15, 16, 17, 18, 19, 20, 22] (ws' := lW c1 q1 t b k n h1 x1 y1 mc9 mq9 t b k mh9 mv9 (nl u1) (.ref 21)) (L' := [some (.ref 0), some (.ref 1), some (.ref 13), some (.ref 20), some (ni i), none, none]) (st' := [ni z1955]) lw_vw (by decide) lw_vl rfl rfl rfl ?_
        refine ne_istore X dL_law_1958 (by decide) ?_
        refine ne_aload_n X dL_law_1960 rfl ?_
        refine ne_aload_n X dL_law_1961 rfl ?_
        refine ne_iload X dL_law_1962 rfl ?_
        refine ne_iconst X dL_law_1964 ?_
        refine ne_iadd X dL_law_1965 ?_
        refine ne_sld X hX hbl hbA hb0 (by decide) (by omega) dL_law_1966 (fun z1966 e1966 l1966 r1966 => ?_)
        have y1966 : z1927 = z1966 := e1927.trans e1966.symm
        subst y1966
        refine ne_aload_n X dL_law_1967 rfl ?_
        refine ne_iload X dL_law_1968 rfl ?_
        refine ne_iconst X dL_law_1970 ?_
        refine ne_iadd X dL_law_1971 ?_
        refine ne_sld X hX hbl hbA hb0 (by decide) (by omega) dL_law_1972 (fun z1972 e1972 l1972 r1972 => ?_)
        have y1972 : z1933 = z1972 := e1933.trans e1972.symm
        subst y1972
        refine ne_if_eq (tgt := 1980) X dL_law_1973 rfl (by omega) (fun b1973 => ?_) (fun b1973 => ?_)
        · refine ne_iconst X dL_law_1980 ?_
          refine ne_aload_n X dL_law_1981 rfl ?_
          refine ne_iload X dL_law_1982 rfl ?_
          refine ne_iconst X dL_law_1984 ?_
          refine ne_iadd X dL_law_1985 ?_
          refine ne_sld X hX hbl hbA hb0 (by decide) (by omega) dL_law_1986 (fun z1986 e1986 l1986 r1986 => ?_)
          have y1986 : z1947 = z1986 := e1947.trans e1986.symm
          subst y1986
          refine ne_aload_n X dL_law_1987 rfl ?_
          refine ne_iload X dL_law_1988 rfl ?_
          refine ne_iconst X dL_law_1990 ?_
          refine ne_iadd X dL_law_1991 ?_
          refine ne_sld X hX hbl hbA hb0 (by decide) (by omega) dL_law_1992 (fun z1992 e1992 l1992 r1992 => ?_)
          have y1992 : z1953 = z1992 := e1953.trans e1992.symm
          subst y1992
          refine ne_callVF (is := [13, 14, 15, 16, 17, 18, 19]) X nw_Tg (me_X3_cutText l hl mc9 mq9 t b k mh9 mv9 T hM (by omega) _ _ _ _ (by omega) (by omega) (by omega) (by omega)) nw_yX3_cutText nw_mL_295 nw_iX3_cutText nw_eX3_cutText (ci := 5) rfl rfl rfl dL_law_1993 rfl rfl (by decide) (by decide) (by first | decide | omega) (by first | decide | omega) (Nat.le_of_ble_eq_true rfl) rfl rfl rfl (Nat.le_of_ble_eq_true rfl) lw_pt2 ?_ ?_
          rotate_left
          · rintro E9 w9 h9; exact h9.elim
          rintro v1993 w1993 ⟨⟨mc91, mq91, mh91, mv91, rfl, hM1⟩, rfl⟩
          refine ne_ws lw_mg4 ?_
          refine ne_astore X dL_law_1996 (by decide) ?_
          refine ne_ll (L' := [some (.ref 0), some (.ref 1), some (.ref 13), some (.ref 20), some (ni _), some (ni _), some (.ref 22)]) rfl ?_
          refine ne_goto (tgt := 2324) X dL_law_1998 rfl ?_
          refine ne_lnone 5 (ne_lnone 6 ?_)
          refine ne_ll (L' := [some (.ref 0), some (.ref 1), some (.ref 13), some (.ref 20), some (ni i), none, none]) rfl ?_
          refine ne_take 22 ?_
          refine ne_ws lw_tk2 ?_
          refine ne_less (C' := C - 500) (S' := S - 3500) (by omega) (by omega) ?_
          exact kk _ _ _ _ _ _ _ _ _ _ _ _ _ _ _ hI1 hM1 hP (Or.inr rfl)
        · refine ne_iconst X dL_law_1976 ?_
          refine ne_goto (tgt := 1981) X dL_law_1977 rfl ?_
          refine ne_aload_n X dL_law_1981 rfl ?_
          refine ne_iload X dL_law_1982 rfl ?_
          refine ne_iconst X dL_law_1984 ?_
          refine ne_iadd X dL_law_1985 ?_
          refine ne_sld X hX hbl hbA hb0 (by decide) (by omega) dL_law_1986 (fun z1986 e1986 l1986 r1986 => ?_)
          have y1986 : z1947 = z1986 := e1947.trans e1986.symm
          subst y1986
          refine ne_aload_n X dL_law_1987 rfl ?_
          refine ne_iload X dL_law_1988 rfl ?_
          refine ne_iconst X dL_law_1990 ?_
          refine ne_iadd X dL_law_1991 ?_
          refine ne_sld X hX hbl hbA hb0 (by decide) (by omega) dL_law_1992 (fun z1992 e1992 l1992 r1992 => ?_)
          have y1992 : z1953 = z1992 := e1953.trans e1992.symm
          subst y1992
          refine ne_callVF (is := [13, 14, 15, 16, 17, 18, 19]) X nw_Tg (me_X3_cutText l hl mc9 mq9 t b k mh9 mv9 T hM (by omega) _ _ _ _ (by omega) (by omega) (by omega) (by omega)) nw_yX3_cutText nw_mL_295 nw_iX3_cutText nw_eX3_cutText (ci := 5) rfl rfl rfl dL_law_1993 rfl rfl (by decide) (by decide) (by first | decide | omega) (by first | decide | omega) (Nat.le_of_ble_eq_true rfl) rfl rfl rfl (Nat.le_of_ble_eq_true rfl) lw_pt2 ?_ ?_
          rotate_left
          · rintro E9 w9 h9; exact h9.elim
          rintro v1993 w1993 ⟨⟨mc91, mq91, mh91, mv91, rfl, hM1⟩, rfl⟩
          refine ne_ws lw_mg4 ?_
          refine ne_astore X dL_law_1996 (by decide) ?_
          refine ne_ll (L' := [some (.ref 0), some (.ref 1), some (.ref 13), some (.ref 20), some (ni _), some (ni _), some (.ref 22)]) rfl ?_
          refine ne_goto (tgt := 2324) X dL_law_1998 rfl ?_
          refine ne_lnone 5 (ne_lnone 6 ?_)
          refine ne_ll (L' := [some (.ref 0), some (.ref 1), some (.ref 13), some (.ref 20), some (ni i), none, none]) rfl ?_
          refine ne_take 22 ?_
          refine ne_ws lw_tk2 ?_
          refine ne_less (C' := C - 500) (S' := S - 3500) (by omega) (by omega) ?_
          exact kk _ _ _ _ _ _ _ _ _ _ _ _ _ _ _ hI1 hM1 hP (Or.inr rfl)
    · refine ne_iconst X dL_law_1937 ?_
      refine ne_goto (tgt := 1942) X dL_law_1938 rfl ?_
      refine ne_aload_n X dL_law_1942 rfl ?_
      refine ne_iload X dL_law_1943 rfl ?_
      refine ne_iconst X dL_law_1945 ?_
      refine ne_iadd X dL_law_1946 ?_
      refine ne_sld X hX hbl hbA hb0 (by decide) (by omega) dL_law_1947 (fun z1947 e1947 l1947 r1947 => ?_)
      refine ne_aload_n X dL_law_1948 rfl ?_
      refine ne_iload X dL_law_1949 rfl ?_
      refine ne_iconst X dL_law_1951 ?_
      refine ne_iadd X dL_law_1952 ?_
      refine ne_sld X hX hbl hbA hb0 (by decide) (by omega) dL_law_1953 (fun z1953 e1953 l1953 r1953 => ?_)
      refine ne_aload_n X dL_law_1954 rfl ?_
      refine ne_callSFW (is := [1, 2, 3, 4, 5, 6, 7, 8, 9, 10, 11, 12, 20, 21]) X nw_Tg (me_L_cutText l hl c q t b k n h x y T hI (by omega) u (.ref 13) (Or.inr rfl) _ _ _ _ (by omega) (by omega) (by omega) (by omega)) nw_yL_cutText nw_mL_292 nw_sL_cutText dL_law_1955 rfl rfl (by decide) (by decide) (by first | decide | omega) (by first | decide | omega) (Nat.le_of_ble_eq_true rfl) rfl rfl rfl (Nat.le_of_ble_eq_true rfl) (lw_pt1 (s := .ref 13)) ?_ ?_
      rotate_left
      · rintro E9 w9 h9; exact h9.elim
      rintro v1955 w1955 ⟨c1, q1, h1, x1, y1, u1, s1, rfl, hI1, hs1, z1955, rfl⟩
      rcases hs1 with rfl | rfl
      · refine ne_take 22 ?_
        refine ne_ws lw_tkR ?_
        refine ne_istore X dL_law_1958 (by decide) ?_
        refine ne_aload_n X dL_law_1960 rfl ?_
        refine ne_aload_n X dL_law_1961 rfl ?_
        refine ne_iload X dL_law_1962 rfl ?_
        refine ne_iconst X dL_law_1964 ?_
        refine ne_iadd X dL_law_1965 ?_
        refine ne_sld X hX hbl hbA hb0 (by decide) (by omega) dL_law_1966 (fun z1966 e1966 l1966 r1966 => ?_)
        have y1966 : z1927 = z1966 := e1927.trans e1966.symm
        subst y1966
        refine ne_aload_n X dL_law_1967 rfl ?_
        refine ne_iload X dL_law_1968 rfl ?_
        refine ne_iconst X dL_law_1970 ?_
        refine ne_iadd X dL_law_1971 ?_
        refine ne_sld X hX hbl hbA hb0 (by decide) (by omega) dL_law_1972 (fun z1972 e1972 l1972 r1972 => ?_)
        have y1972 : z1933 = z1972 := e1933.trans e1972.symm
        subst y1972
        refine ne_if_eq (tgt := 1980) X dL_law_1973 rfl (by omega) (fun b1973 => ?_) (fun b1973 => ?_)
        · refine ne_iconst X dL_law_1980 ?_
          refine ne_aload_n X dL_law_1981 rfl ?_
          refine ne_iload X dL_law_1982 rfl ?_
          refine ne_iconst X dL_law_1984 ?_
          refine ne_iadd X dL_law_1985 ?_
          refine ne_sld X hX hbl hbA hb0 (by decide) (by omega) dL_law_1986 (fun z1986 e1986 l1986 r1986 => ?_)
          have y1986 : z1947 = z1986 := e1947.trans e1986.symm
          subst y1986
          refine ne_aload_n X dL_law_1987 rfl ?_
          refine ne_iload X dL_law_1988 rfl ?_
          refine ne_iconst X dL_law_1990 ?_
          refine ne_iadd X dL_law_1991 ?_
          refine ne_sld X hX hbl hbA hb0 (by decide) (by omega) dL_law_1992 (fun z1992 e1992 l1992 r1992 => ?_)
          have y1992 : z1953 = z1992 := e1953.trans e1992.symm
          subst y1992
          refine ne_callVF (is := [13, 14, 15, 16, 17, 18, 19]) X nw_Tg (me_X3_cutText l hl mc9 mq9 t b k mh9 mv9 T hM (by omega) _ _ _ _ (by omega) (by omega) (by omega) (by omega)) nw_yX3_cutText nw_mL_295 nw_iX3_cutText nw_eX3_cutText (ci := 5) rfl rfl rfl dL_law_1993 rfl rfl (by decide) (by decide) (by first | decide | omega) (by first | decide | omega) (Nat.le_of_ble_eq_true rfl) rfl rfl rfl (Nat.le_of_ble_eq_true rfl) lw_pt2 ?_ ?_
          rotate_left
          · rintro E9 w9 h9; exact h9.elim
          rintro v1993 w1993 ⟨⟨mc91, mq91, mh91, mv91, rfl, hM1⟩, rfl⟩
          refine ne_ws lw_mg4 ?_
          refine ne_astore X dL_law_1996 (by decide) ?_
          refine ne_ll (L' := [some (.ref 0), some (.ref 1), some (.ref 13), some (.ref 20), some (ni _), some (ni _), some (.ref 22)]) rfl ?_
          refine ne_goto (tgt := 2324) X dL_law_1998 rfl ?_
          refine ne_lnone 5 (ne_lnone 6 ?_)
          refine ne_ll (L' := [some (.ref 0), some (.ref 1), some (.ref 13), some (.ref 20), some (ni i), none, none]) rfl ?_
          refine ne_take 22 ?_
          refine ne_ws lw_tk2 ?_
          refine ne_less (C' := C - 500) (S' := S - 3500) (by omega) (by omega) ?_
          exact kk _ _ _ _ _ _ _ _ _ _ _ _ _ _ _ hI1 hM1 hP (Or.inr rfl)
        · refine ne_iconst X dL_law_1976 ?_
          refine ne_goto (tgt := 1981) X dL_law_1977 rfl ?_
          refine ne_aload_n X dL_law_1981 rfl ?_
          refine ne_iload X dL_law_1982 rfl ?_
          refine ne_iconst X dL_law_1984 ?_
          refine ne_iadd X dL_law_1985 ?_
          refine ne_sld X hX hbl hbA hb0 (by decide) (by omega) dL_law_1986 (fun z1986 e1986 l1986 r1986 => ?_)
          have y1986 : z1947 = z1986 := e1947.trans e1986.symm
          subst y1986
          refine ne_aload_n X dL_law_1987 rfl ?_
          refine ne_iload X dL_law_1988 rfl ?_
          refine ne_iconst X dL_law_1990 ?_
          refine ne_iadd X dL_law_1991 ?_
          refine ne_sld X hX hbl hbA hb0 (by decide) (by omega) dL_law_1992 (fun z1992 e1992 l1992 r1992 => ?_)
          have y1992 : z1953 = z1992 := e1953.trans e1992.symm
          subst y1992
          refine ne_callVF (is := [13, 14, 15, 16, 17, 18, 19]) X nw_Tg (me_X3_cutText l hl mc9 mq9 t b k mh9 mv9 T hM (by omega) _ _ _ _ (by omega) (by omega) (by omega) (by omega)) nw_yX3_cutText nw_mL_295 nw_iX3_cutText nw_eX3_cutText (ci := 5) rfl rfl rfl dL_law_1993 rfl rfl (by decide) (by decide) (by first | decide | omega) (by first | decide | omega) (Nat.le_of_ble_eq_true rfl) rfl rfl rfl (Nat.le_of_ble_eq_true rfl) lw_pt2 ?_ ?_
          rotate_left
          · rintro E9 w9 h9; exact h9.elim
          rintro v1993 w1993 ⟨⟨mc91, mq91, mh91, mv91, rfl, hM1⟩, rfl⟩
          refine ne_ws lw_mg4 ?_
          refine ne_astore X dL_law_1996 (by decide) ?_
          refine ne_ll (L' := [some (.ref 0), some (.ref 1), some (.ref 13), some (.ref 20), some (ni _), some (ni _), some (.ref 22)]) rfl ?_
          refine ne_goto (tgt := 2324) X dL_law_1998 rfl ?_
          refine ne_lnone 5 (ne_lnone 6 ?_)
          refine ne_ll (L' := [some (.ref 0), some (.ref 1), some (.ref 13), some (.ref 20), some (ni i), none, none]) rfl ?_
          refine ne_take 22 ?_
          refine ne_ws lw_tk2 ?_
          refine ne_less (C' := C - 500) (S' := S - 3500) (by omega) (by omega) ?_
          exact kk _ _ _ _ _ _ _ _ _ _ _ _ _ _ _ hI1 hM1 hP (Or.inr rfl)
      · refine ne_viewb [0, 1, 2, 3, 4, 5, 6, 7, 8, 9, 10, 11, 12, 13, 14, 15, 16, 17, 18, 19, 20, 22] (ws' := lW c1 q1 t b k n h1 x1 y1 mc9 mq9 t b k mh9 mv9 (nl u1) (.ref 21)) (L' := [some (.ref 0), some (.ref 1), some (.ref 13), some (.ref 20), some (ni i), none, none]) (st' := [ni z1955]) lw_vw (by decide) lw_vl rfl rfl rfl ?_
        refine ne_istore X dL_law_1958 (by decide) ?_
        refine ne_aload_n X dL_law_1960 rfl ?_
        refine ne_aload_n X dL_law_1961 rfl ?_
        refine ne_iload X dL_law_1962 rfl ?_
        refine ne_iconst X dL_law_1964 ?_
        refine ne_iadd X dL_law_1965 ?_
        refine ne_sld X hX hbl hbA hb0 (by decide) (by omega) dL_law_1966 (fun z1966 e1966 l1966 r1966 => ?_)
        have y1966 : z1927 = z1966 := e1927.trans e1966.symm
        subst y1966
        refine ne_aload_n X dL_law_1967 rfl ?_
        refine ne_iload X dL_law_1968 rfl ?_
        refine ne_iconst X dL_law_1970 ?_
        refine ne_iadd X dL_law_1971 ?_
        refine ne_sld X hX hbl hbA hb0 (by decide) (by omega) dL_law_1972 (fun z1972 e1972 l1972 r1972 => ?_)
        have y1972 : z1933 = z1972 := e1933.trans e1972.symm
        subst y1972
        refine ne_if_eq (tgt := 1980) X dL_law_1973 rfl (by omega) (fun b1973 => ?_) (fun b1973 => ?_)
        · refine ne_iconst X dL_law_1980 ?_
          refine ne_aload_n X dL_law_1981 rfl ?_
          refine ne_iload X dL_law_1982 rfl ?_
          refine ne_iconst X dL_law_1984 ?_
          refine ne_iadd X dL_law_1985 ?_
          refine ne_sld X hX hbl hbA hb0 (by decide) (by omega) dL_law_1986 (fun z1986 e1986 l1986 r1986 => ?_)
          have y1986 : z1947 = z1986 := e1947.trans e1986.symm
          subst y1986
          refine ne_aload_n X dL_law_1987 rfl ?_
          refine ne_iload X dL_law_1988 rfl ?_
          refine ne_iconst X dL_law_1990 ?_
          refine ne_iadd X dL_law_1991 ?_
          refine ne_sld X hX hbl hbA hb0 (by decide) (by omega) dL_law_1992 (fun z1992 e1992 l1992 r1992 => ?_)
          have y1992 : z1953 = z1992 := e1953.trans e1992.symm
          subst y1992
          refine ne_callVF (is := [13, 14, 15, 16, 17, 18, 19]) X nw_Tg (me_X3_cutText l hl mc9 mq9 t b k mh9 mv9 T hM (by omega) _ _ _ _ (by omega) (by omega) (by omega) (by omega)) nw_yX3_cutText nw_mL_295 nw_iX3_cutText nw_eX3_cutText (ci := 5) rfl rfl rfl dL_law_1993 rfl rfl (by decide) (by decide) (by first | decide | omega) (by first | decide | omega) (Nat.le_of_ble_eq_true rfl) rfl rfl rfl (Nat.le_of_ble_eq_true rfl) lw_pt2 ?_ ?_
          rotate_left
          · rintro E9 w9 h9; exact h9.elim
          rintro v1993 w1993 ⟨⟨mc91, mq91, mh91, mv91, rfl, hM1⟩, rfl⟩
          refine ne_ws lw_mg4 ?_
          refine ne_astore X dL_law_1996 (by decide) ?_
          refine ne_ll (L' := [some (.ref 0), some (.ref 1), some (.ref 13), some (.ref 20), some (ni _), some (ni _), some (.ref 22)]) rfl ?_
          refine ne_goto (tgt := 2324) X dL_law_1998 rfl ?_
          refine ne_lnone 5 (ne_lnone 6 ?_)
          refine ne_ll (L' := [some (.ref 0), some (.ref 1), some (.ref 13), some (.ref 20), some (ni i), none, none]) rfl ?_
          refine ne_take 22 ?_
          refine ne_ws lw_tk2 ?_
          refine ne_less (C' := C - 500) (S' := S - 3500) (by omega) (by omega) ?_
          exact kk _ _ _ _ _ _ _ _ _ _ _ _ _ _ _ hI1 hM1 hP (Or.inr rfl)
        · refine ne_iconst X dL_law_1976 ?_
          refine ne_goto (tgt := 1981) X dL_law_1977 rfl ?_
          refine ne_aload_n X dL_law_1981 rfl ?_
          refine ne_iload X dL_law_1982 rfl ?_
          refine ne_iconst X dL_law_1984 ?_
          refine ne_iadd X dL_law_1985 ?_
          refine ne_sld X hX hbl hbA hb0 (by decide) (by omega) dL_law_1986 (fun z1986 e1986 l1986 r1986 => ?_)
          have y1986 : z1947 = z1986 := e1947.trans e1986.symm
          subst y1986
          refine ne_aload_n X dL_law_1987 rfl ?_
          refine ne_iload X dL_law_1988 rfl ?_
          refine ne_iconst X dL_law_1990 ?_
          refine ne_iadd X dL_law_1991 ?_
          refine ne_sld X hX hbl hbA hb0 (by decide) (by omega) dL_law_1992 (fun z1992 e1992 l1992 r1992 => ?_)
          have y1992 : z1953 = z1992 := e1953.trans e1992.symm
          subst y1992
          refine ne_callVF (is := [13, 14, 15, 16, 17, 18, 19]) X nw_Tg (me_X3_cutText l hl mc9 mq9 t b k mh9 mv9 T hM (by omega) _ _ _ _ (by omega) (by omega) (by omega) (by omega)) nw_yX3_cutText nw_mL_295 nw_iX3_cutText nw_eX3_cutText (ci := 5) rfl rfl rfl dL_law_1993 rfl rfl (by decide) (by decide) (by first | decide | omega) (by first | decide | omega) (Nat.le_of_ble_eq_true rfl) rfl rfl rfl (Nat.le_of_ble_eq_true rfl) lw_pt2 ?_ ?_
          rotate_left
          · rintro E9 w9 h9; exact h9.elim
          rintro v1993 w1993 ⟨⟨mc91, mq91, mh91, mv91, rfl, hM1⟩, rfl⟩
          refine ne_ws lw_mg4 ?_
          refine ne_astore X dL_law_1996 (by decide) ?_
          refine ne_ll (L' := [some (.ref 0), some (.ref 1), some (.ref 13), some (.ref 20), some (ni _), some (ni _), some (.ref 22)]) rfl ?_
          refine ne_goto (tgt := 2324) X dL_law_1998 rfl ?_
          refine ne_lnone 5 (ne_lnone 6 ?_)
          refine ne_ll (L' := [some (.ref 0), some (.ref 1), some (.ref 13), some (.ref 20), some (ni i), none, none]) rfl ?_
          refine ne_take 22 ?_
          refine ne_ws lw_tk2 ?_
          refine ne_less (C' := C - 500) (S' := S - 3500) (by omega) (by omega) ?_
          exact kk _ _ _ _ _ _ _ _ _ _ _ _ _ _ _ hI1 hM1 hP (Or.inr rfl)
set_option maxRecDepth 100000 in
set_option maxHeartbeats 4000000 in
theorem lc_37 (hl : l.stackTraces = false) (X : ne_F nw_cl D ct A p l room_1 s9 m args meth c9 RL cL_law 7 nw_T 20 1000 888398 6436287) (hX : va_X b9 N9 xs s9 s9.heap) (hbl : b9 < s9.heap.size) (hbA : ¬ A b9) (hb0 : ad0 0 = b9) (i T : Int) (hi : 0 ≤ i ∧ i + 6 ≤ N9 ∧ N9 ≤ 384) (hT : 0 ≤ T ∧ T ≤ 100) (c q t b k n h x y mc9 mq9 mh9 : Nat → Int) (mv9 u : Int) (sv : Value) (hI : cI c q t b k n h x y T) (hM : mI mc9 mq9 t b k mh9 mv9 T) (hP : ∀ j : Nat, ne_per (t j) (b j) (n j)) (hs : sv = .null ∨ sv = .ref 21) (C S : Nat) (hC : 500 ≤ C) (hS : 3500 ≤ S) (kk : ∀ (c q t b k n h x y mc9 mq9 mh9 : Nat → Int) (mv9 u : Int) (sv : Value), cI c q t b k n h x y (T + 1) → mI mc9 mq9 t b k mh9 mv9 (T + 1) → (∀ j : Nat, ne_per (t j) (b j) (n j)) → (sv = .null ∨ sv = .ref 21) → ne_G nw_cl D ct A 1 ad0 p l e room_1 s9 m args below meth c9 Q9 7 888398 6436287 (C - 500) (S - 3500) 2324 [some (.ref 0), some (.ref 1), some (.ref 13), some (.ref 20), some (ni i), none, none] [] (lW c q t b k n h x y mc9 mq9 t b k mh9 mv9 (nl u) sv)) : ne_G nw_cl D ct A 1 ad0 p l e room_1 s9 m args below meth c9 Q9 7 888398 6436287 C S 2001 [some (.ref 0), some (.ref 1), some (.ref 13), some (.ref 20), some (ni i), none, none] [] (lW c q t b k n h x y mc9 mq9 t b k mh9 mv9 (nl u) sv) := by
  rcases hs with rfl | rfl
  · refine ne_aload_n X dL_law_2001 rfl ?_
    refine ne_aload_n X dL_law_2002 rfl ?_
    refine ne_iload X dL_law_2003 rfl ?_
    refine ne_iconst X dL_law_2005 ?_
    refine ne_iadd X dL_law_2006 ?_
    refine ne_sld X hX hbl hbA hb0 (by decide) (by omega) dL_law_2007 (fun z2007 e2007 l2007 r2007 => ?_)
    refine ne_aload_n X dL_law_2008 rfl ?_
    refine ne_callSFW (is := [1, 2, 3, 4, 5, 6, 7, 8, 9, 10, 11, 12, 20, 21]) X nw_Tg (me_L_number l hl c q t b k n h x y T hI (by omega) u .null (Or.inl rfl) _ (by omega)) nw_yL_number nw_mL_296 nw_sL_number dL_law_2009 rfl rfl (by decide) (by decide) (by first | decide | omega) (by first | decide | omega) (Nat.le_of_ble_eq_true rfl) rfl rfl rfl (Nat.le_of_ble_eq_true rfl) (lw_pt1 (s := .null)) ?_ ?_
    rotate_left
    · rintro E9 w9 h9; exact h9.elim
    rintro v2009 w2009 ⟨c1, q1, h1, x1, y1, u1, s1, rfl, hI1, hs1, z2009, rfl⟩
    rcases hs1 with rfl | rfl
    · refine ne_take 22 ?_
      refine ne_ws lw_tkN ?_
      refine ne_istore X dL_law_2012 (by decide) ?_
      refine ne_aload_n X dL_law_2014 rfl ?_
      refine ne_aload_n X dL_law_2015 rfl ?_
      refine ne_iload X dL_law_2016 rfl ?_
      refine ne_iconst X dL_law_2018 ?_
      refine ne_iadd X dL_law_2019 ?_
      refine ne_sld X hX hbl hbA hb0 (by decide) (by omega) dL_law_2020 (fun z2020 e2020 l2020 r2020 => ?_)
      have y2020 : z2007 = z2020 := e2007.trans e2020.symm
      subst y2020
      refine ne_callVF (is := [13, 14, 15, 16, 17, 18, 19]) X nw_Tg (me_X3_number_ l hl mc9 mq9 t b k mh9 mv9 T hM (by omega) _ (by omega)) nw_yX3_number_ nw_mL_298 nw_iX3_number_ nw_eX3_number_ (ci := 5) rfl rfl rfl dL_law_2021 rfl rfl (by decide) (by decide) (by first | decide | omega) (by first | decide | omega) (Nat.le_of_ble_eq_true rfl) rfl rfl rfl (Nat.le_of_ble_eq_true rfl) lw_pt2 ?_ ?_
      rotate_left
      · rintro E9 w9 h9; exact h9.elim
      rintro v2021 w2021 ⟨⟨mc91, mq91, mh91, mv91, rfl, hM1⟩, rfl⟩
      refine ne_ws lw_mg4 ?_
      refine ne_astore X dL_law_2024 (by decide) ?_
      refine ne_ll (L' := [some (.ref 0), some (.ref 1), some (.ref 13), some (.ref 20), some (ni _), some (ni _), some (.ref 22)]) rfl ?_
      refine ne_goto (tgt := 2324) X dL_law_2026 rfl ?_
      refine ne_lnone 5 (ne_lnone 6 ?_)
      refine ne_ll (L' := [some (.ref 0), some (.ref 1), some (.ref 13), some (.ref 20), some (ni i), none, none]) rfl ?_
      refine ne_take 22 ?_
      refine ne_ws lw_tk2 ?_
      refine ne_less (C' := C - 500) (S' := S - 3500) (by omega) (by omega) ?_
      exact kk _ _ _ _ _ _ _ _ _ _ _ _ _ _ _ hI1 hM1 hP (Or.inl rfl)
    · refine ne_viewb [0, 1, 2, 3, 4, 5, 6, 7, 8, 9, 10, 11, 12, 13, 14, 15, 16, 17, 18, 19, 20, 22] (ws' := lW c1 q1 t b k n h1 x1 y1 mc9 mq9 t b k mh9 mv9 (nl u1) (.ref 21)) (L' := [some (.ref 0), some (.ref 1), some (.ref 13), some (.ref 20), some (ni i), none, none]) (st' := [ni z2009]) lw_vw (by decide) lw_vl rfl rfl rfl ?_
      refine ne_istore X dL_law_2012 (by decide) ?_
      refine ne_aload_n X dL_law_2014 rfl ?_
      refine ne_aload_n X dL_law_2015 rfl ?_
      refine ne_iload X dL_law_2016 rfl ?_
      refine ne_iconst X dL_law_2018 ?_
      refine ne_iadd X dL_law_2019 ?_
      refine ne_sld X hX hbl hbA hb0 (by decide) (by omega) dL_law_2020 (fun z2020 e2020 l2020 r2020 => ?_)
      have y2020 : z2007 = z2020 := e2007.trans e2020.symm
      subst y2020
      refine ne_callVF (is := [13, 14, 15, 16, 17, 18, 19]) X nw_Tg (me_X3_number_ l hl mc9 mq9 t b k mh9 mv9 T hM (by omega) _ (by omega)) nw_yX3_number_ nw_mL_298 nw_iX3_number_ nw_eX3_number_ (ci := 5) rfl rfl rfl dL_law_2021 rfl rfl (by decide) (by decide) (by first | decide | omega) (by first | decide | omega) (Nat.le_of_ble_eq_true rfl) rfl rfl rfl (Nat.le_of_ble_eq_true rfl) lw_pt2 ?_ ?_
      rotate_left
      · rintro E9 w9 h9; exact h9.elim
      rintro v2021 w2021 ⟨⟨mc91, mq91, mh91, mv91, rfl, hM1⟩, rfl⟩
      refine ne_ws lw_mg4 ?_
      refine ne_astore X dL_law_2024 (by decide) ?_
      refine ne_ll (L' := [some (.ref 0), some (.ref 1), some (.ref 13), some (.ref 20), some (ni _), some (ni _), some (.ref 22)]) rfl ?_
      refine ne_goto (tgt := 2324) X dL_law_2026 rfl ?_
      refine ne_lnone 5 (ne_lnone 6 ?_)
      refine ne_ll (L' := [some (.ref 0), some (.ref 1), some (.ref 13), some (.ref 20), some (ni i), none, none]) rfl ?_
      refine ne_take 22 ?_
      refine ne_ws lw_tk2 ?_
      refine ne_less (C' := C - 500) (S' := S - 3500) (by omega) (by omega) ?_
      exact kk _ _ _ _ _ _ _ _ _ _ _ _ _ _ _ hI1 hM1 hP (Or.inr rfl)
  · refine ne_aload_n X dL_law_2001 rfl ?_
    refine ne_aload_n X dL_law_2002 rfl ?_
    refine ne_iload X dL_law_2003 rfl ?_
    refine ne_iconst X dL_law_2005 ?_
    refine ne_iadd X dL_law_2006 ?_
    refine ne_sld X hX hbl hbA hb0 (by decide) (by omega) dL_law_2007 (fun z2007 e2007 l2007 r2007 => ?_)
    refine ne_aload_n X dL_law_2008 rfl ?_
    refine ne_callSFW (is := [1, 2, 3, 4, 5, 6, 7, 8, 9, 10, 11, 12, 20, 21]) X nw_Tg (me_L_number l hl c q t b k n h x y T hI (by omega) u (.ref 13) (Or.inr rfl) _ (by omega)) nw_yL_number nw_mL_296 nw_sL_number dL_law_2009 rfl rfl (by decide) (by decide) (by first | decide | omega) (by first | decide | omega) (Nat.le_of_ble_eq_true rfl) rfl rfl rfl (Nat.le_of_ble_eq_true rfl) (lw_pt1 (s := .ref 13)) ?_ ?_
    rotate_left
    · rintro E9 w9 h9; exact h9.elim
    rintro v2009 w2009 ⟨c1, q1, h1, x1, y1, u1, s1, rfl, hI1, hs1, z2009, rfl⟩
    rcases hs1 with rfl | rfl
    · refine ne_take 22 ?_
      refine ne_ws lw_tkR ?_
      refine ne_istore X dL_law_2012 (by decide) ?_
      refine ne_aload_n X dL_law_2014 rfl ?_
      refine ne_aload_n X dL_law_2015 rfl ?_
      refine ne_iload X dL_law_2016 rfl ?_
      refine ne_iconst X dL_law_2018 ?_
      refine ne_iadd X dL_law_2019 ?_
      refine ne_sld X hX hbl hbA hb0 (by decide) (by omega) dL_law_2020 (fun z2020 e2020 l2020 r2020 => ?_)
      have y2020 : z2007 = z2020 := e2007.trans e2020.symm
      subst y2020
      refine ne_callVF (is := [13, 14, 15, 16, 17, 18, 19]) X nw_Tg (me_X3_number_ l hl mc9 mq9 t b k mh9 mv9 T hM (by omega) _ (by omega)) nw_yX3_number_ nw_mL_298 nw_iX3_number_ nw_eX3_number_ (ci := 5) rfl rfl rfl dL_law_2021 rfl rfl (by decide) (by decide) (by first | decide | omega) (by first | decide | omega) (Nat.le_of_ble_eq_true rfl) rfl rfl rfl (Nat.le_of_ble_eq_true rfl) lw_pt2 ?_ ?_
      rotate_left
      · rintro E9 w9 h9; exact h9.elim
      rintro v2021 w2021 ⟨⟨mc91, mq91, mh91, mv91, rfl, hM1⟩, rfl⟩
      refine ne_ws lw_mg4 ?_
      refine ne_astore X dL_law_2024 (by decide) ?_
      refine ne_ll (L' := [some (.ref 0), some (.ref 1), some (.ref 13), some (.ref 20), some (ni _), some (ni _), some (.ref 22)]) rfl ?_
      refine ne_goto (tgt := 2324) X dL_law_2026 rfl ?_
      refine ne_lnone 5 (ne_lnone 6 ?_)
      refine ne_ll (L' := [some (.ref 0), some (.ref 1), some (.ref 13), some (.ref 20), some (ni i), none, none]) rfl ?_
      refine ne_take 22 ?_
      refine ne_ws lw_tk2 ?_
      refine ne_less (C' := C - 500) (S' := S - 3500) (by omega) (by omega) ?_
      exact kk _ _ _ _ _ _ _ _ _ _ _ _ _ _ _ hI1 hM1 hP (Or.inr rfl)
    · refine ne_viewb [0, 1, 2, 3, 4, 5, 6, 7, 8, 9, 10, 11, 12, 13, 14, 15, 16, 17, 18, 19, 20, 22] (ws' := lW c1 q1 t b k n h1 x1 y1 mc9 mq9 t b k mh9 mv9 (nl u1) (.ref 21)) (L' := [some (.ref 0), some (.ref 1), some (.ref 13), some (.ref 20), some (ni i), none, none]) (st' := [ni z2009]) lw_vw (by decide) lw_vl rfl rfl rfl ?_
      refine ne_istore X dL_law_2012 (by decide) ?_
      refine ne_aload_n X dL_law_2014 rfl ?_
      refine ne_aload_n X dL_law_2015 rfl ?_
      refine ne_iload X dL_law_2016 rfl ?_
      refine ne_iconst X dL_law_2018 ?_
      refine ne_iadd X dL_law_2019 ?_
      refine ne_sld X hX hbl hbA hb0 (by decide) (by omega) dL_law_2020 (fun z2020 e2020 l2020 r2020 => ?_)
      have y2020 : z2007 = z2020 := e2007.trans e2020.symm
      subst y2020
      refine ne_callVF (is := [13, 14, 15, 16, 17, 18, 19]) X nw_Tg (me_X3_number_ l hl mc9 mq9 t b k mh9 mv9 T hM (by omega) _ (by omega)) nw_yX3_number_ nw_mL_298 nw_iX3_number_ nw_eX3_number_ (ci := 5) rfl rfl rfl dL_law_2021 rfl rfl (by decide) (by decide) (by first | decide | omega) (by first | decide | omega) (Nat.le_of_ble_eq_true rfl) rfl rfl rfl (Nat.le_of_ble_eq_true rfl) lw_pt2 ?_ ?_
      rotate_left
      · rintro E9 w9 h9; exact h9.elim
      rintro v2021 w2021 ⟨⟨mc91, mq91, mh91, mv91, rfl, hM1⟩, rfl⟩
      refine ne_ws lw_mg4 ?_
      refine ne_astore X dL_law_2024 (by decide) ?_
      refine ne_ll (L' := [some (.ref 0), some (.ref 1), some (.ref 13), some (.ref 20), some (ni _), some (ni _), some (.ref 22)]) rfl ?_
      refine ne_goto (tgt := 2324) X dL_law_2026 rfl ?_
      refine ne_lnone 5 (ne_lnone 6 ?_)
      refine ne_ll (L' := [some (.ref 0), some (.ref 1), some (.ref 13), some (.ref 20), some (ni i), none, none]) rfl ?_
      refine ne_take 22 ?_
      refine ne_ws lw_tk2 ?_
      refine ne_less (C' := C - 500) (S' := S - 3500) (by omega) (by omega) ?_
      exact kk _ _ _ _ _ _ _ _ _ _ _ _ _ _ _ hI1 hM1 hP (Or.inr rfl)
set_option maxRecDepth 100000 in
set_option maxHeartbeats 4000000 in
theorem lc_38 (hl : l.stackTraces = false) (X : ne_F nw_cl D ct A p l room_1 s9 m args meth c9 RL cL_law 7 nw_T 20 1000 888398 6436287) (hX : va_X b9 N9 xs s9 s9.heap) (hbl : b9 < s9.heap.size) (hbA : ¬ A b9) (hb0 : ad0 0 = b9) (i T : Int) (hi : 0 ≤ i ∧ i + 6 ≤ N9 ∧ N9 ≤ 384) (hT : 0 ≤ T ∧ T ≤ 100) (c q t b k n h x y mc9 mq9 mh9 : Nat → Int) (mv9 u : Int) (sv : Value) (hI : cI c q t b k n h x y T) (hM : mI mc9 mq9 t b k mh9 mv9 T) (hP : ∀ j : Nat, ne_per (t j) (b j) (n j)) (hs : sv = .null ∨ sv = .ref 21) (C S : Nat) (hC : 500 ≤ C) (hS : 3500 ≤ S) (kk : ∀ (c q t b k n h x y mc9 mq9 mh9 : Nat → Int) (mv9 u : Int) (sv : Value), cI c q t b k n h x y (T + 1) → mI mc9 mq9 t b k mh9 mv9 (T + 1) → (∀ j : Nat, ne_per (t j) (b j) (n j)) → (sv = .null ∨ sv = .ref 21) → ne_G nw_cl D ct A 1 ad0 p l e room_1 s9 m args below meth c9 Q9 7 888398 6436287 (C - 500) (S - 3500) 2324 [some (.ref 0), some (.ref 1), some (.ref 13), some (.ref 20), some (ni i), none, none] [] (lW c q t b k n h x y mc9 mq9 t b k mh9 mv9 (nl u) sv)) : ne_G nw_cl D ct A 1 ad0 p l e room_1 s9 m args below meth c9 Q9 7 888398 6436287 C S 2029 [some (.ref 0), some (.ref 1), some (.ref 13), some (.ref 20), some (ni i), none, none] [] (lW c q t b k n h x y mc9 mq9 t b k mh9 mv9 (nl u) sv) := by
  rcases hs with rfl | rfl
  · refine ne_aload_n X dL_law_2029 rfl ?_
    refine ne_aload_n X dL_law_2030 rfl ?_
    refine ne_iload X dL_law_2031 rfl ?_
    refine ne_iconst X dL_law_2033 ?_
    refine ne_iadd X dL_law_2034 ?_
    refine ne_sld X hX hbl hbA hb0 (by decide) (by omega) dL_law_2035 (fun z2035 e2035 l2035 r2035 => ?_)
    refine ne_aload_n X dL_law_2036 rfl ?_
    refine ne_callSFW (is := [1, 2, 3, 4, 5, 6, 7, 8, 9, 10, 11, 12, 20, 21]) X nw_Tg (me_L_product l hl c q t b k n h x y T hI (by omega) u .null (Or.inl rfl) _ (by omega)) nw_yL_product nw_mL_299 nw_sL_product dL_law_2037 rfl rfl (by decide) (by decide) (by first | decide | omega) (by first | decide | omega) (Nat.le_of_ble_eq_true rfl) rfl rfl rfl (Nat.le_of_ble_eq_true rfl) (lw_pt1 (s := .null)) ?_ ?_
    rotate_left
    · rintro E9 w9 h9; exact h9.elim
    rintro v2037 w2037 ⟨c1, q1, h1, x1, y1, u1, s1, rfl, hI1, hs1, z2037, rfl⟩
    rcases hs1 with rfl | rfl
    · refine ne_take 22 ?_
      refine ne_ws lw_tkN ?_
      refine ne_istore X dL_law_2040 (by decide) ?_
      refine ne_aload_n X dL_law_2042 rfl ?_
      refine ne_aload_n X dL_law_2043 rfl ?_
      refine ne_iload X dL_law_2044 rfl ?_
      refine ne_iconst X dL_law_2046 ?_
      refine ne_iadd X dL_law_2047 ?_
      refine ne_sld X hX hbl hbA hb0 (by decide) (by omega) dL_law_2048 (fun z2048 e2048 l2048 r2048 => ?_)
      have y2048 : z2035 = z2048 := e2035.trans e2048.symm
      subst y2048
      refine ne_callVF (is := [13, 14, 15, 16, 17, 18, 19]) X nw_Tg (me_X3_product l hl mc9 mq9 t b k mh9 mv9 T hM (by omega) _ (by omega)) nw_yX3_product nw_mL_301 nw_iX3_product nw_eX3_product (ci := 5) rfl rfl rfl dL_law_2049 rfl rfl (by decide) (by decide) (by first | decide | omega) (by first | decide | omega) (Nat.le_of_ble_eq_true rfl) rfl rfl rfl (Nat.le_of_ble_eq_true rfl) lw_pt2 ?_ ?_
      rotate_left
      · rintro E9 w9 h9; exact h9.elim
      rintro v2049 w2049 ⟨⟨mc91, mq91, mh91, mv91, rfl, hM1⟩, rfl⟩
      refine ne_ws lw_mg4 ?_
      refine ne_astore X dL_law_2052 (by decide) ?_
      refine ne_ll (L' := [some (.ref 0), some (.ref 1), some (.ref 13), some (.ref 20), some (ni _), some (ni _), some (.ref 22)]) rfl ?_
      refine ne_goto (tgt := 2324) X dL_law_2054 rfl ?_
      refine ne_lnone 5 (ne_lnone 6 ?_)
      refine ne_ll (L' := [some (.ref 0), some (.ref 1), some (.ref 13), some (.ref 20), some (ni i), none, none]) rfl ?_
      refine ne_take 22 ?_
      refine ne_ws lw_tk2 ?_
      refine ne_less (C' := C - 500) (S' := S - 3500) (by omega) (by omega) ?_
      exact kk _ _ _ _ _ _ _ _ _ _ _ _ _ _ _ hI1 hM1 hP (Or.inl rfl)
    · refine ne_viewb [0, 1, 2, 3, 4, 5, 6, 7, 8, 9, 10, 11, 12, 13, 14, 15, 16, 17, 18, 19, 20, 22] (ws' := lW c1 q1 t b k n h1 x1 y1 mc9 mq9 t b k mh9 mv9 (nl u1) (.ref 21)) (L' := [some (.ref 0), some (.ref 1), some (.ref 13), some (.ref 20), some (ni i), none, none]) (st' := [ni z2037]) lw_vw (by decide) lw_vl rfl rfl rfl ?_
      refine ne_istore X dL_law_2040 (by decide) ?_
      refine ne_aload_n X dL_law_2042 rfl ?_
      refine ne_aload_n X dL_law_2043 rfl ?_
      refine ne_iload X dL_law_2044 rfl ?_
      refine ne_iconst X dL_law_2046 ?_
      refine ne_iadd X dL_law_2047 ?_
      refine ne_sld X hX hbl hbA hb0 (by decide) (by omega) dL_law_2048 (fun z2048 e2048 l2048 r2048 => ?_)
      have y2048 : z2035 = z2048 := e2035.trans e2048.symm
      subst y2048
      refine ne_callVF (is := [13, 14, 15, 16, 17, 18, 19]) X nw_Tg (me_X3_product l hl mc9 mq9 t b k mh9 mv9 T hM (by omega) _ (by omega)) nw_yX3_product nw_mL_301 nw_iX3_product nw_eX3_product (ci := 5) rfl rfl rfl dL_law_2049 rfl rfl (by decide) (by decide) (by first | decide | omega) (by first | decide | omega) (Nat.le_of_ble_eq_true rfl) rfl rfl rfl (Nat.le_of_ble_eq_true rfl) lw_pt2 ?_ ?_
      rotate_left
      · rintro E9 w9 h9; exact h9.elim
      rintro v2049 w2049 ⟨⟨mc91, mq91, mh91, mv91, rfl, hM1⟩, rfl⟩
      refine ne_ws lw_mg4 ?_
      refine ne_astore X dL_law_2052 (by decide) ?_
      refine ne_ll (L' := [some (.ref 0), some (.ref 1), some (.ref 13), some (.ref 20), some (ni _), some (ni _), some (.ref 22)]) rfl ?_
      refine ne_goto (tgt := 2324) X dL_law_2054 rfl ?_
      refine ne_lnone 5 (ne_lnone 6 ?_)
      refine ne_ll (L' := [some (.ref 0), some (.ref 1), some (.ref 13), some (.ref 20), some (ni i), none, none]) rfl ?_
      refine ne_take 22 ?_
      refine ne_ws lw_tk2 ?_
      refine ne_less (C' := C - 500) (S' := S - 3500) (by omega) (by omega) ?_
      exact kk _ _ _ _ _ _ _ _ _ _ _ _ _ _ _ hI1 hM1 hP (Or.inr rfl)
  · refine ne_aload_n X dL_law_2029 rfl ?_
    refine ne_aload_n X dL_law_2030 rfl ?_
    refine ne_iload X dL_law_2031 rfl ?_
    refine ne_iconst X dL_law_2033 ?_
    refine ne_iadd X dL_law_2034 ?_
    refine ne_sld X hX hbl hbA hb0 (by decide) (by omega) dL_law_2035 (fun z2035 e2035 l2035 r2035 => ?_)
    refine ne_aload_n X dL_law_2036 rfl ?_
    refine ne_callSFW (is := [1, 2, 3, 4, 5, 6, 7, 8, 9, 10, 11, 12, 20, 21]) X nw_Tg (me_L_product l hl c q t b k n h x y T hI (by omega) u (.ref 13) (Or.inr rfl) _ (by omega)) nw_yL_product nw_mL_299 nw_sL_product dL_law_2037 rfl rfl (by decide) (by decide) (by first | decide | omega) (by first | decide | omega) (Nat.le_of_ble_eq_true rfl) rfl rfl rfl (Nat.le_of_ble_eq_true rfl) (lw_pt1 (s := .ref 13)) ?_ ?_
    rotate_left
    · rintro E9 w9 h9; exact h9.elim
    rintro v2037 w2037 ⟨c1, q1, h1, x1, y1, u1, s1, rfl, hI1, hs1, z2037, rfl⟩
    rcases hs1 with rfl | rfl
    · refine ne_take 22 ?_
      refine ne_ws lw_tkR ?_
      refine ne_istore X dL_law_2040 (by decide) ?_
      refine ne_aload_n X dL_law_2042 rfl ?_
      refine ne_aload_n X dL_law_2043 rfl ?_
      refine ne_iload X dL_law_2044 rfl ?_
      refine ne_iconst X dL_law_2046 ?_
      refine ne_iadd X dL_law_2047 ?_
      refine ne_sld X hX hbl hbA hb0 (by decide) (by omega) dL_law_2048 (fun z2048 e2048 l2048 r2048 => ?_)
      have y2048 : z2035 = z2048 := e2035.trans e2048.symm
      subst y2048
      refine ne_callVF (is := [13, 14, 15, 16, 17, 18, 19]) X nw_Tg (me_X3_product l hl mc9 mq9 t b k mh9 mv9 T hM (by omega) _ (by omega)) nw_yX3_product nw_mL_301 nw_iX3_product nw_eX3_product (ci := 5) rfl rfl rfl dL_law_2049 rfl rfl (by decide) (by decide) (by first | decide | omega) (by first | decide | omega) (Nat.le_of_ble_eq_true rfl) rfl rfl rfl (Nat.le_of_ble_eq_true rfl) lw_pt2 ?_ ?_
      rotate_left
      · rintro E9 w9 h9; exact h9.elim
      rintro v2049 w2049 ⟨⟨mc91, mq91, mh91, mv91, rfl, hM1⟩, rfl⟩
      refine ne_ws lw_mg4 ?_
      refine ne_astore X dL_law_2052 (by decide) ?_
      refine ne_ll (L' := [some (.ref 0), some (.ref 1), some (.ref 13), some (.ref 20), some (ni _), some (ni _), some (.ref 22)]) rfl ?_
      refine ne_goto (tgt := 2324) X dL_law_2054 rfl ?_
      refine ne_lnone 5 (ne_lnone 6 ?_)
      refine ne_ll (L' := [some (.ref 0), some (.ref 1), some (.ref 13), some (.ref 20), some (ni i), none, none]) rfl ?_
      refine ne_take 22 ?_
      refine ne_ws lw_tk2 ?_
      refine ne_less (C' := C - 500) (S' := S - 3500) (by omega) (by omega) ?_
      exact kk _ _ _ _ _ _ _ _ _ _ _ _ _ _ _ hI1 hM1 hP (Or.inr rfl)
    · refine ne_viewb [0, 1, 2, 3, 4, 5, 6, 7, 8, 9, 10, 11, 12, 13, 14, 15, 16, 17, 18, 19, 20, 22] (ws' := lW c1 q1 t b k n h1 x1 y1 mc9 mq9 t b k mh9 mv9 (nl u1) (.ref 21)) (L' := [some (.ref 0), some (.ref 1), some (.ref 13), some (.ref 20), some (ni i), none, none]) (st' := [ni z2037]) lw_vw (by decide) lw_vl rfl rfl rfl ?_
      refine ne_istore X dL_law_2040 (by decide) ?_
      refine ne_aload_n X dL_law_2042 rfl ?_
      refine ne_aload_n X dL_law_2043 rfl ?_
      refine ne_iload X dL_law_2044 rfl ?_
      refine ne_iconst X dL_law_2046 ?_
      refine ne_iadd X dL_law_2047 ?_
      refine ne_sld X hX hbl hbA hb0 (by decide) (by omega) dL_law_2048 (fun z2048 e2048 l2048 r2048 => ?_)
      have y2048 : z2035 = z2048 := e2035.trans e2048.symm
      subst y2048
      refine ne_callVF (is := [13, 14, 15, 16, 17, 18, 19]) X nw_Tg (me_X3_product l hl mc9 mq9 t b k mh9 mv9 T hM (by omega) _ (by omega)) nw_yX3_product nw_mL_301 nw_iX3_product nw_eX3_product (ci := 5) rfl rfl rfl dL_law_2049 rfl rfl (by decide) (by decide) (by first | decide | omega) (by first | decide | omega) (Nat.le_of_ble_eq_true rfl) rfl rfl rfl (Nat.le_of_ble_eq_true rfl) lw_pt2 ?_ ?_
      rotate_left
      · rintro E9 w9 h9; exact h9.elim
      rintro v2049 w2049 ⟨⟨mc91, mq91, mh91, mv91, rfl, hM1⟩, rfl⟩
      refine ne_ws lw_mg4 ?_
      refine ne_astore X dL_law_2052 (by decide) ?_
      refine ne_ll (L' := [some (.ref 0), some (.ref 1), some (.ref 13), some (.ref 20), some (ni _), some (ni _), some (.ref 22)]) rfl ?_
      refine ne_goto (tgt := 2324) X dL_law_2054 rfl ?_
      refine ne_lnone 5 (ne_lnone 6 ?_)
      refine ne_ll (L' := [some (.ref 0), some (.ref 1), some (.ref 13), some (.ref 20), some (ni i), none, none]) rfl ?_
      refine ne_take 22 ?_
      refine ne_ws lw_tk2 ?_
      refine ne_less (C' := C - 500) (S' := S - 3500) (by omega) (by omega) ?_
      exact kk _ _ _ _ _ _ _ _ _ _ _ _ _ _ _ hI1 hM1 hP (Or.inr rfl)
set_option maxRecDepth 100000 in
set_option maxHeartbeats 4000000 in
theorem lc_39 (hl : l.stackTraces = false) (X : ne_F nw_cl D ct A p l room_1 s9 m args meth c9 RL cL_law 7 nw_T 20 1000 888398 6436287) (hX : va_X b9 N9 xs s9 s9.heap) (hbl : b9 < s9.heap.size) (hbA : ¬ A b9) (hb0 : ad0 0 = b9) (i T : Int) (hi : 0 ≤ i ∧ i + 6 ≤ N9 ∧ N9 ≤ 384) (hT : 0 ≤ T ∧ T ≤ 100) (c q t b k n h x y mc9 mq9 mh9 : Nat → Int) (mv9 u : Int) (sv : Value) (hI : cI c q t b k n h x y T) (hM : mI mc9 mq9 t b k mh9 mv9 T) (hP : ∀ j : Nat, ne_per (t j) (b j) (n j)) (hs : sv = .null ∨ sv = .ref 21) (C S : Nat) (hC : 500 ≤ C) (hS : 3500 ≤ S) (kk : ∀ (c q t b k n h x y mc9 mq9 mh9 : Nat → Int) (mv9 u : Int) (sv : Value), cI c q t b k n h x y (T + 1) → mI mc9 mq9 t b k mh9 mv9 (T + 1) → (∀ j : Nat, ne_per (t j) (b j) (n j)) → (sv = .null ∨ sv = .ref 21) → ne_G nw_cl D ct A 1 ad0 p l e room_1 s9 m args below meth c9 Q9 7 888398 6436287 (C - 500) (S - 3500) 2324 [some (.ref 0), some (.ref 1), some (.ref 13), some (.ref 20), some (ni i), none, none] [] (lW c q t b k n h x y mc9 mq9 t b k mh9 mv9 (nl u) sv)) : ne_G nw_cl D ct A 1 ad0 p l e room_1 s9 m args below meth c9 Q9 7 888398 6436287 C S 2057 [some (.ref 0), some (.ref 1), some (.ref 13), some (.ref 20), some (ni i), none, none] [] (lW c q t b k n h x y mc9 mq9 t b k mh9 mv9 (nl u) sv) := by
  rcases hs with rfl | rfl
  · refine ne_aload_n X dL_law_2057 rfl ?_
    refine ne_aload_n X dL_law_2058 rfl ?_
    refine ne_iload X dL_law_2059 rfl ?_
    refine ne_iconst X dL_law_2061 ?_
    refine ne_iadd X dL_law_2062 ?_
    refine ne_sld X hX hbl hbA hb0 (by decide) (by omega) dL_law_2063 (fun z2063 e2063 l2063 r2063 => ?_)
    refine ne_aload_n X dL_law_2064 rfl ?_
    refine ne_iload X dL_law_2065 rfl ?_
    refine ne_iconst X dL_law_2067 ?_
    refine ne_iadd X dL_law_2068 ?_
    refine ne_sld X hX hbl hbA hb0 (by decide) (by omega) dL_law_2069 (fun z2069 e2069 l2069 r2069 => ?_)
    refine ne_aload_n X dL_law_2070 rfl ?_
    refine ne_callSFW (is := [1, 2, 3, 4, 5, 6, 7, 8, 9, 10, 11, 12, 20, 21]) X nw_Tg (me_L_partSum l hl c q t b k n h x y T hI (by omega) u .null (Or.inl rfl) _ _ (by omega) (by omega)) nw_yL_partSum nw_mL_302 nw_sL_partSum dL_law_2071 rfl rfl (by decide) (by decide) (by first | decide | omega) (by first | decide | omega) (Nat.le_of_ble_eq_true rfl) rfl rfl rfl (Nat.le_of_ble_eq_true rfl) (lw_pt1 (s := .null)) ?_ ?_
    rotate_left
    · rintro E9 w9 h9; exact h9.elim
    rintro v2071 w2071 ⟨c1, q1, h1, x1, y1, u1, s1, rfl, hI1, hs1, z2071, rfl⟩
    rcases hs1 with rfl | rfl
    · refine ne_take 22 ?_
      refine ne_ws lw_tkN ?_
      refine ne_istore X dL_law_2074 (by decide) ?_
      refine ne_aload_n X dL_law_2076 rfl ?_
      refine ne_aload_n X dL_law_2077 rfl ?_
      refine ne_iload X dL_law_2078 rfl ?_
      refine ne_iconst X dL_law_2080 ?_
      refine ne_iadd X dL_law_2081 ?_
      refine ne_sld X hX hbl hbA hb0 (by decide) (by omega) dL_law_2082 (fun z2082 e2082 l2082 r2082 => ?_)
      have y2082 : z2063 = z2082 := e2063.trans e2082.symm
      subst y2082
      refine ne_aload_n X dL_law_2083 rfl ?_
      refine ne_iload X dL_law_2084 rfl ?_
      refine ne_iconst X dL_law_2086 ?_
      refine ne_iadd X dL_law_2087 ?_
      refine ne_sld X hX hbl hbA hb0 (by decide) (by omega) dL_law_2088 (fun z2088 e2088 l2088 r2088 => ?_)
      have y2088 : z2069 = z2088 := e2069.trans e2088.symm
      subst y2088
      refine ne_callVF (is := [13, 14, 15, 16, 17, 18, 19]) X nw_Tg (me_X3_partSum l hl mc9 mq9 t b k mh9 mv9 T hM (by omega) _ _ (by omega) (by omega)) nw_yX3_partSum nw_mL_304 nw_iX3_partSum nw_eX3_partSum (ci := 5) rfl rfl rfl dL_law_2089 rfl rfl (by decide) (by decide) (by first | decide | omega) (by first | decide | omega) (Nat.le_of_ble_eq_true rfl) rfl rfl rfl (Nat.le_of_ble_eq_true rfl) lw_pt2 ?_ ?_
      rotate_left
      · rintro E9 w9 h9; exact h9.elim
      rintro v2089 w2089 ⟨⟨mc91, mq91, mh91, mv91, rfl, hM1⟩, rfl⟩
      refine ne_ws lw_mg4 ?_
      refine ne_astore X dL_law_2092 (by decide) ?_
      refine ne_ll (L' := [some (.ref 0), some (.ref 1), some (.ref 13), some (.ref 20), some (ni _), some (ni _), some (.ref 22)]) rfl ?_
      refine ne_goto (tgt := 2324) X dL_law_2094 rfl ?_
      refine ne_lnone 5 (ne_lnone 6 ?_)
      refine ne_ll (L' := [some (.ref 0), some (.ref 1), some (.ref 13), some (.ref 20), some (ni i), none, none]) rfl ?_
      refine ne_take 22 ?_
      refine ne_ws lw_tk2 ?_
      refine ne_less (C' := C - 500) (S' := S - 3500) (by omega) (by omega) ?_
      exact kk _ _ _ _ _ _ _ _ _ _ _ _ _ _ _ hI1 hM1 hP (Or.inl rfl)
    · refine ne_viewb [0, 1, 2, 3, 4, 5, 6, 7, 8, 9, 10, 11, 12, 13, 14, 15, 16, 17, 18, 19, 20, 22] (ws' := lW c1 q1 t b k n h1 x1 y1 mc9 mq9 t b k mh9 mv9 (nl u1) (.ref 21)) (L' := [some (.ref 0), some (.ref 1), some (.ref 13), some (.ref 20), some (ni i), none, none]) (st' := [ni z2071]) lw_vw (by decide) lw_vl rfl rfl rfl ?_
      refine ne_istore X dL_law_2074 (by decide) ?_
      refine ne_aload_n X dL_law_2076 rfl ?_
      refine ne_aload_n X dL_law_2077 rfl ?_
      refine ne_iload X dL_law_2078 rfl ?_
      refine ne_iconst X dL_law_2080 ?_
      refine ne_iadd X dL_law_2081 ?_
      refine ne_sld X hX hbl hbA hb0 (by decide) (by omega) dL_law_2082 (fun z2082 e2082 l2082 r2082 => ?_)
      have y2082 : z2063 = z2082 := e2063.trans e2082.symm
      subst y2082
      refine ne_aload_n X dL_law_2083 rfl ?_
      refine ne_iload X dL_law_2084 rfl ?_
      refine ne_iconst X dL_law_2086 ?_
      refine ne_iadd X dL_law_2087 ?_
      refine ne_sld X hX hbl hbA hb0 (by decide) (by omega) dL_law_2088 (fun z2088 e2088 l2088 r2088 => ?_)
      have y2088 : z2069 = z2088 := e2069.trans e2088.symm
      subst y2088
      refine ne_callVF (is := [13, 14, 15, 16, 17, 18, 19]) X nw_Tg (me_X3_partSum l hl mc9 mq9 t b k mh9 mv9 T hM (by omega) _ _ (by omega) (by omega)) nw_yX3_partSum nw_mL_304 nw_iX3_partSum nw_eX3_partSum (ci := 5) rfl rfl rfl dL_law_2089 rfl rfl (by decide) (by decide) (by first | decide | omega) (by first | decide | omega) (Nat.le_of_ble_eq_true rfl) rfl rfl rfl (Nat.le_of_ble_eq_true rfl) lw_pt2 ?_ ?_
      rotate_left
      · rintro E9 w9 h9; exact h9.elim
      rintro v2089 w2089 ⟨⟨mc91, mq91, mh91, mv91, rfl, hM1⟩, rfl⟩
      refine ne_ws lw_mg4 ?_
      refine ne_astore X dL_law_2092 (by decide) ?_
      refine ne_ll (L' := [some (.ref 0), some (.ref 1), some (.ref 13), some (.ref 20), some (ni _), some (ni _), some (.ref 22)]) rfl ?_
      refine ne_goto (tgt := 2324) X dL_law_2094 rfl ?_
      refine ne_lnone 5 (ne_lnone 6 ?_)
      refine ne_ll (L' := [some (.ref 0), some (.ref 1), some (.ref 13), some (.ref 20), some (ni i), none, none]) rfl ?_
      refine ne_take 22 ?_
      refine ne_ws lw_tk2 ?_
      refine ne_less (C' := C - 500) (S' := S - 3500) (by omega) (by omega) ?_
      exact kk _ _ _ _ _ _ _ _ _ _ _ _ _ _ _ hI1 hM1 hP (Or.inr rfl)
  · refine ne_aload_n X dL_law_2057 rfl ?_
    refine ne_aload_n X dL_law_2058 rfl ?_
    refine ne_iload X dL_law_2059 rfl ?_
    refine ne_iconst X dL_law_2061 ?_
    refine ne_iadd X dL_law_2062 ?_
    refine ne_sld X hX hbl hbA hb0 (by decide) (by omega) dL_law_2063 (fun z2063 e2063 l2063 r2063 => ?_)
    refine ne_aload_n X dL_law_2064 rfl ?_
    refine ne_iload X dL_law_2065 rfl ?_
    refine ne_iconst X dL_law_2067 ?_
    refine ne_iadd X dL_law_2068 ?_
    refine ne_sld X hX hbl hbA hb0 (by decide) (by omega) dL_law_2069 (fun z2069 e2069 l2069 r2069 => ?_)
    refine ne_aload_n X dL_law_2070 rfl ?_
    refine ne_callSFW (is := [1, 2, 3, 4, 5, 6, 7, 8, 9, 10, 11, 12, 20, 21]) X nw_Tg (me_L_partSum l hl c q t b k n h x y T hI (by omega) u (.ref 13) (Or.inr rfl) _ _ (by omega) (by omega)) nw_yL_partSum nw_mL_302 nw_sL_partSum dL_law_2071 rfl rfl (by decide) (by decide) (by first | decide | omega) (by first | decide | omega) (Nat.le_of_ble_eq_true rfl) rfl rfl rfl (Nat.le_of_ble_eq_true rfl) (lw_pt1 (s := .ref 13)) ?_ ?_
    rotate_left
    · rintro E9 w9 h9; exact h9.elim
    rintro v2071 w2071 ⟨c1, q1, h1, x1, y1, u1, s1, rfl, hI1, hs1, z2071, rfl⟩
    rcases hs1 with rfl | rfl
    · refine ne_take 22 ?_
      refine ne_ws lw_tkR ?_
      refine ne_istore X dL_law_2074 (by decide) ?_
      refine ne_aload_n X dL_law_2076 rfl ?_
      refine ne_aload_n X dL_law_2077 rfl ?_
      refine ne_iload X dL_law_2078 rfl ?_
      refine ne_iconst X dL_law_2080 ?_
      refine ne_iadd X dL_law_2081 ?_
      refine ne_sld X hX hbl hbA hb0 (by decide) (by omega) dL_law_2082 (fun z2082 e2082 l2082 r2082 => ?_)
      have y2082 : z2063 = z2082 := e2063.trans e2082.symm
      subst y2082
      refine ne_aload_n X dL_law_2083 rfl ?_
      refine ne_iload X dL_law_2084 rfl ?_
      refine ne_iconst X dL_law_2086 ?_
      refine ne_iadd X dL_law_2087 ?_
      refine ne_sld X hX hbl hbA hb0 (by decide) (by omega) dL_law_2088 (fun z2088 e2088 l2088 r2088 => ?_)
      have y2088 : z2069 = z2088 := e2069.trans e2088.symm
      subst y2088
      refine ne_callVF (is := [13, 14, 15, 16, 17, 18, 19]) X nw_Tg (me_X3_partSum l hl mc9 mq9 t b k mh9 mv9 T hM (by omega) _ _ (by omega) (by omega)) nw_yX3_partSum nw_mL_304 nw_iX3_partSum nw_eX3_partSum (ci := 5) rfl rfl rfl dL_law_2089 rfl rfl (by decide) (by decide) (by first | decide | omega) (by first | decide | omega) (Nat.le_of_ble_eq_true rfl) rfl rfl rfl (Nat.le_of_ble_eq_true rfl) lw_pt2 ?_ ?_
      rotate_left
      · rintro E9 w9 h9; exact h9.elim
      rintro v2089 w2089 ⟨⟨mc91, mq91, mh91, mv91, rfl, hM1⟩, rfl⟩
      refine ne_ws lw_mg4 ?_
      refine ne_astore X dL_law_2092 (by decide) ?_
      refine ne_ll (L' := [some (.ref 0), some (.ref 1), some (.ref 13), some (.ref 20), some (ni _), some (ni _), some (.ref 22)]) rfl ?_
      refine ne_goto (tgt := 2324) X dL_law_2094 rfl ?_
      refine ne_lnone 5 (ne_lnone 6 ?_)
      refine ne_ll (L' := [some (.ref 0), some (.ref 1), some (.ref 13), some (.ref 20), some (ni i), none, none]) rfl ?_
      refine ne_take 22 ?_
      refine ne_ws lw_tk2 ?_
      refine ne_less (C' := C - 500) (S' := S - 3500) (by omega) (by omega) ?_
      exact kk _ _ _ _ _ _ _ _ _ _ _ _ _ _ _ hI1 hM1 hP (Or.inr rfl)
    · refine ne_viewb [0, 1, 2, 3, 4, 5, 6, 7, 8, 9, 10, 11, 12, 13, 14, 15, 16, 17, 18, 19, 20, 22] (ws' := lW c1 q1 t b k n h1 x1 y1 mc9 mq9 t b k mh9 mv9 (nl u1) (.ref 21)) (L' := [some (.ref 0), some (.ref 1), some (.ref 13), some (.ref 20), some (ni i), none, none]) (st' := [ni z2071]) lw_vw (by decide) lw_vl rfl rfl rfl ?_
      refine ne_istore X dL_law_2074 (by decide) ?_
      refine ne_aload_n X dL_law_2076 rfl ?_
      refine ne_aload_n X dL_law_2077 rfl ?_
      refine ne_iload X dL_law_2078 rfl ?_
      refine ne_iconst X dL_law_2080 ?_
      refine ne_iadd X dL_law_2081 ?_
      refine ne_sld X hX hbl hbA hb0 (by decide) (by omega) dL_law_2082 (fun z2082 e2082 l2082 r2082 => ?_)
      have y2082 : z2063 = z2082 := e2063.trans e2082.symm
      subst y2082
      refine ne_aload_n X dL_law_2083 rfl ?_
      refine ne_iload X dL_law_2084 rfl ?_
      refine ne_iconst X dL_law_2086 ?_
      refine ne_iadd X dL_law_2087 ?_
      refine ne_sld X hX hbl hbA hb0 (by decide) (by omega) dL_law_2088 (fun z2088 e2088 l2088 r2088 => ?_)
      have y2088 : z2069 = z2088 := e2069.trans e2088.symm
      subst y2088
      refine ne_callVF (is := [13, 14, 15, 16, 17, 18, 19]) X nw_Tg (me_X3_partSum l hl mc9 mq9 t b k mh9 mv9 T hM (by omega) _ _ (by omega) (by omega)) nw_yX3_partSum nw_mL_304 nw_iX3_partSum nw_eX3_partSum (ci := 5) rfl rfl rfl dL_law_2089 rfl rfl (by decide) (by decide) (by first | decide | omega) (by first | decide | omega) (Nat.le_of_ble_eq_true rfl) rfl rfl rfl (Nat.le_of_ble_eq_true rfl) lw_pt2 ?_ ?_
      rotate_left
      · rintro E9 w9 h9; exact h9.elim
      rintro v2089 w2089 ⟨⟨mc91, mq91, mh91, mv91, rfl, hM1⟩, rfl⟩
      refine ne_ws lw_mg4 ?_
      refine ne_astore X dL_law_2092 (by decide) ?_
      refine ne_ll (L' := [some (.ref 0), some (.ref 1), some (.ref 13), some (.ref 20), some (ni _), some (ni _), some (.ref 22)]) rfl ?_
      refine ne_goto (tgt := 2324) X dL_law_2094 rfl ?_
      refine ne_lnone 5 (ne_lnone 6 ?_)
      refine ne_ll (L' := [some (.ref 0), some (.ref 1), some (.ref 13), some (.ref 20), some (ni i), none, none]) rfl ?_
      refine ne_take 22 ?_
      refine ne_ws lw_tk2 ?_
      refine ne_less (C' := C - 500) (S' := S - 3500) (by omega) (by omega) ?_
      exact kk _ _ _ _ _ _ _ _ _ _ _ _ _ _ _ hI1 hM1 hP (Or.inr rfl)
set_option maxRecDepth 100000 in
set_option maxHeartbeats 4000000 in
theorem lc_40 (hl : l.stackTraces = false) (X : ne_F nw_cl D ct A p l room_1 s9 m args meth c9 RL cL_law 7 nw_T 20 1000 888398 6436287) (hX : va_X b9 N9 xs s9 s9.heap) (hbl : b9 < s9.heap.size) (hbA : ¬ A b9) (hb0 : ad0 0 = b9) (i T : Int) (hi : 0 ≤ i ∧ i + 6 ≤ N9 ∧ N9 ≤ 384) (hT : 0 ≤ T ∧ T ≤ 100) (c q t b k n h x y mc9 mq9 mh9 : Nat → Int) (mv9 u : Int) (sv : Value) (hI : cI c q t b k n h x y T) (hM : mI mc9 mq9 t b k mh9 mv9 T) (hP : ∀ j : Nat, ne_per (t j) (b j) (n j)) (hs : sv = .null ∨ sv = .ref 21) (C S : Nat) (hC : 500 ≤ C) (hS : 3500 ≤ S) (kk : ∀ (c q t b k n h x y mc9 mq9 mh9 : Nat → Int) (mv9 u : Int) (sv : Value), cI c q t b k n h x y (T + 1) → mI mc9 mq9 t b k mh9 mv9 (T + 1) → (∀ j : Nat, ne_per (t j) (b j) (n j)) → (sv = .null ∨ sv = .ref 21) → ne_G nw_cl D ct A 1 ad0 p l e room_1 s9 m args below meth c9 Q9 7 888398 6436287 (C - 500) (S - 3500) 2324 [some (.ref 0), some (.ref 1), some (.ref 13), some (.ref 20), some (ni i), none, none] [] (lW c q t b k n h x y mc9 mq9 t b k mh9 mv9 (nl u) sv)) : ne_G nw_cl D ct A 1 ad0 p l e room_1 s9 m args below meth c9 Q9 7 888398 6436287 C S 2097 [some (.ref 0), some (.ref 1), some (.ref 13), some (.ref 20), some (ni i), none, none] [] (lW c q t b k n h x y mc9 mq9 t b k mh9 mv9 (nl u) sv) := by
  obtain ⟨s8, hs8, rfl⟩ : ∃ s8 : Value, (s8 = .null ∨ s8 = .ref 13) ∧ sv = ne_rn [1, 2, 3, 4, 5, 6, 7, 8, 9, 10, 11, 12, 20, 21] 22 s8 := by
    rcases hs with rfl | rfl
    · exact ⟨.null, Or.inl rfl, rfl⟩
    · exact ⟨.ref 13, Or.inr rfl, rfl⟩
  have hcw : ∀ (c q t b k n h x y mc9 mq9 mt9 mb9 mk9 mh9 : Nat → Int) (mv9 u : Int), ne_cw 22 (lW c q t b k n h x y mc9 mq9 mt9 mb9 mk9 mh9 mv9 (nl u) (ne_rn [1, 2, 3, 4, 5, 6, 7, 8, 9, 10, 11, 12, 20, 21] 22 s8)) = true := by
    intros
    rcases hs8 with rfl | rfl <;> rfl
  refine ne_aload_n X dL_law_2097 rfl ?_
  refine ne_aload_n X dL_law_2098 rfl ?_
  refine ne_iload X dL_law_2099 rfl ?_
  refine ne_iconst X dL_law_2101 ?_
  refine ne_iadd X dL_law_2102 ?_
  refine ne_sld X hX hbl hbA hb0 (by decide) (by omega) dL_law_2103 (fun z2103 e2103 l2103 r2103 => ?_)
  refine ne_aload_n X dL_law_2104 rfl ?_
  refine ne_iload X dL_law_2105 rfl ?_
  refine ne_iconst X dL_law_2107 ?_
  refine ne_iadd X dL_law_2108 ?_
  refine ne_sld X hX hbl hbA hb0 (by decide) (by omega) dL_law_2109 (fun z2109 e2109 l2109 r2109 => ?_)
  refine ne_aload_n X dL_law_2110 rfl ?_
  refine ne_callSFW (is := [1, 2, 3, 4, 5, 6, 7, 8, 9, 10, 11, 12, 20, 21]) X nw_Tg (me_L_nines l hl c q t b k n h x y T hI (by omega) u s8 hs8 _ _ (by omega) (by omega)) nw_yL_nines nw_mL_305 nw_sL_nines dL_law_2111 rfl rfl (by decide) (by decide) (by first | decide | omega) (by first | decide | omega) (Nat.le_of_ble_eq_true rfl) (hcw _ _ _ _ _ _ _ _ _ _ _ _ _ _ _ _ _) rfl rfl (Nat.le_of_ble_eq_true rfl) lw_pt1 ?_ ?_
  rotate_left
  · rintro E9 w9 h9; exact h9.elim
  rintro v2111 w2111 ⟨c1, q1, h1, x1, y1, u1, rfl, hI1, z2111, rfl⟩
  refine ne_ws lw_mg1 ?_
  refine ne_istore X dL_law_2114 (by decide) ?_
  refine ne_aload_n X dL_law_2116 rfl ?_
  refine ne_aload_n X dL_law_2117 rfl ?_
  refine ne_iload X dL_law_2118 rfl ?_
  refine ne_iconst X dL_law_2120 ?_
  refine ne_iadd X dL_law_2121 ?_
  refine ne_sld X hX hbl hbA hb0 (by decide) (by omega) dL_law_2122 (fun z2122 e2122 l2122 r2122 => ?_)
  have y2122 : z2103 = z2122 := e2103.trans e2122.symm
  subst y2122
  refine ne_aload_n X dL_law_2123 rfl ?_
  refine ne_iload X dL_law_2124 rfl ?_
  refine ne_iconst X dL_law_2126 ?_
  refine ne_iadd X dL_law_2127 ?_
  refine ne_sld X hX hbl hbA hb0 (by decide) (by omega) dL_law_2128 (fun z2128 e2128 l2128 r2128 => ?_)
  have y2128 : z2109 = z2128 := e2109.trans e2128.symm
  subst y2128
  refine ne_callVF (is := [13, 14, 15, 16, 17, 18, 19]) X nw_Tg (me_X3_nines l hl mc9 mq9 t b k mh9 mv9 T hM (by omega) _ _ (by omega) (by omega)) nw_yX3_nines nw_mL_307 nw_iX3_nines nw_eX3_nines (ci := 5) rfl rfl rfl dL_law_2129 rfl rfl (by decide) (by decide) (by first | decide | omega) (by first | decide | omega) (Nat.le_of_ble_eq_true rfl) (hcw _ _ _ _ _ _ _ _ _ _ _ _ _ _ _ _ _) rfl rfl (Nat.le_of_ble_eq_true rfl) lw_pt2 ?_ ?_
  rotate_left
  · rintro E9 w9 h9; exact h9.elim
  rintro v2129 w2129 ⟨⟨mc91, mq91, mh91, mv91, rfl, hM1⟩, z2129, rfl, g2129⟩
  refine ne_ws lw_mg2 ?_
  refine ne_istore X dL_law_2132 (by decide) ?_
  refine ne_ll (L' := [some (.ref 0), some (.ref 1), some (.ref 13), some (.ref 20), some (ni _), some (ni _), some (ni _)]) rfl ?_
  refine ne_goto (tgt := 2324) X dL_law_2134 rfl ?_
  refine ne_lnone 5 (ne_lnone 6 ?_)
  refine ne_ll (L' := [some (.ref 0), some (.ref 1), some (.ref 13), some (.ref 20), some (ni i), none, none]) rfl ?_
  refine ne_less (C' := C - 500) (S' := S - 3500) (by omega) (by omega) ?_
  exact kk _ _ _ _ _ _ _ _ _ _ _ _ _ _ _ hI1 hM1 hP hs
set_option maxRecDepth 100000 in
set_option maxHeartbeats 4000000 in
theorem lc_41 (hl : l.stackTraces = false) (X : ne_F nw_cl D ct A p l room_1 s9 m args meth c9 RL cL_law 7 nw_T 20 1000 888398 6436287) (hX : va_X b9 N9 xs s9 s9.heap) (hbl : b9 < s9.heap.size) (hbA : ¬ A b9) (hb0 : ad0 0 = b9) (i T : Int) (hi : 0 ≤ i ∧ i + 6 ≤ N9 ∧ N9 ≤ 384) (hT : 0 ≤ T ∧ T ≤ 100) (c q t b k n h x y mc9 mq9 mh9 : Nat → Int) (mv9 u : Int) (sv : Value) (hI : cI c q t b k n h x y T) (hM : mI mc9 mq9 t b k mh9 mv9 T) (hP : ∀ j : Nat, ne_per (t j) (b j) (n j)) (hs : sv = .null ∨ sv = .ref 21) (C S : Nat) (hC : 500 ≤ C) (hS : 3500 ≤ S) (kk : ∀ (c q t b k n h x y mc9 mq9 mh9 : Nat → Int) (mv9 u : Int) (sv : Value), cI c q t b k n h x y (T + 1) → mI mc9 mq9 t b k mh9 mv9 (T + 1) → (∀ j : Nat, ne_per (t j) (b j) (n j)) → (sv = .null ∨ sv = .ref 21) → ne_G nw_cl D ct A 1 ad0 p l e room_1 s9 m args below meth c9 Q9 7 888398 6436287 (C - 500) (S - 3500) 2324 [some (.ref 0), some (.ref 1), some (.ref 13), some (.ref 20), some (ni i), none, none] [] (lW c q t b k n h x y mc9 mq9 t b k mh9 mv9 (nl u) sv)) : ne_G nw_cl D ct A 1 ad0 p l e room_1 s9 m args below meth c9 Q9 7 888398 6436287 C S 2137 [some (.ref 0), some (.ref 1), some (.ref 13), some (.ref 20), some (ni i), none, none] [] (lW c q t b k n h x y mc9 mq9 t b k mh9 mv9 (nl u) sv) := by
  obtain ⟨s8, hs8, rfl⟩ : ∃ s8 : Value, (s8 = .null ∨ s8 = .ref 13) ∧ sv = ne_rn [1, 2, 3, 4, 5, 6, 7, 8, 9, 10, 11, 12, 20, 21] 22 s8 := by
    rcases hs with rfl | rfl
    · exact ⟨.null, Or.inl rfl, rfl⟩
    · exact ⟨.ref 13, Or.inr rfl, rfl⟩
  have hcw : ∀ (c q t b k n h x y mc9 mq9 mt9 mb9 mk9 mh9 : Nat → Int) (mv9 u : Int), ne_cw 22 (lW c q t b k n h x y mc9 mq9 mt9 mb9 mk9 mh9 mv9 (nl u) (ne_rn [1, 2, 3, 4, 5, 6, 7, 8, 9, 10, 11, 12, 20, 21] 22 s8)) = true := by
    intros
    rcases hs8 with rfl | rfl <;> rfl
  refine ne_aload_n X dL_law_2137 rfl ?_
  refine ne_aload_n X dL_law_2138 rfl ?_
  refine ne_iload X dL_law_2139 rfl ?_
  refine ne_iconst X dL_law_2141 ?_
  refine ne_iadd X dL_law_2142 ?_
  refine ne_sld X hX hbl hbA hb0 (by decide) (by omega) dL_law_2143 (fun z2143 e2143 l2143 r2143 => ?_)
  refine ne_aload_n X dL_law_2144 rfl ?_
  refine ne_iload X dL_law_2145 rfl ?_
  refine ne_iconst X dL_law_2147 ?_
  refine ne_iadd X dL_law_2148 ?_
  refine ne_sld X hX hbl hbA hb0 (by decide) (by omega) dL_law_2149 (fun z2149 e2149 l2149 r2149 => ?_)
  refine ne_aload_n X dL_law_2150 rfl ?_
  refine ne_callSFW (is := [1, 2, 3, 4, 5, 6, 7, 8, 9, 10, 11, 12, 20, 21]) X nw_Tg (me_L_placeOf l hl c q t b k n h x y T hI (by omega) u s8 hs8 _ _ (by omega) (by omega)) nw_yL_placeOf nw_mL_308 nw_sL_placeOf dL_law_2151 rfl rfl (by decide) (by decide) (by first | decide | omega) (by first | decide | omega) (Nat.le_of_ble_eq_true rfl) (hcw _ _ _ _ _ _ _ _ _ _ _ _ _ _ _ _ _) rfl rfl (Nat.le_of_ble_eq_true rfl) lw_pt1 ?_ ?_
  rotate_left
  · rintro E9 w9 h9; exact h9.elim
  rintro v2151 w2151 ⟨c1, q1, h1, x1, y1, u1, rfl, hI1, z2151, rfl⟩
  refine ne_ws lw_mg1 ?_
  refine ne_istore X dL_law_2154 (by decide) ?_
  refine ne_aload_n X dL_law_2156 rfl ?_
  refine ne_aload_n X dL_law_2157 rfl ?_
  refine ne_iload X dL_law_2158 rfl ?_
  refine ne_iconst X dL_law_2160 ?_
  refine ne_iadd X dL_law_2161 ?_
  refine ne_sld X hX hbl hbA hb0 (by decide) (by omega) dL_law_2162 (fun z2162 e2162 l2162 r2162 => ?_)
  have y2162 : z2143 = z2162 := e2143.trans e2162.symm
  subst y2162
  refine ne_aload_n X dL_law_2163 rfl ?_
  refine ne_iload X dL_law_2164 rfl ?_
  refine ne_iconst X dL_law_2166 ?_
  refine ne_iadd X dL_law_2167 ?_
  refine ne_sld X hX hbl hbA hb0 (by decide) (by omega) dL_law_2168 (fun z2168 e2168 l2168 r2168 => ?_)
  have y2168 : z2149 = z2168 := e2149.trans e2168.symm
  subst y2168
  refine ne_callVF (is := [13, 14, 15, 16, 17, 18, 19]) X nw_Tg (me_X3_placeOf l hl mc9 mq9 t b k mh9 mv9 T hM (by omega) _ _ (by omega) (by omega)) nw_yX3_placeOf nw_mL_310 nw_iX3_placeOf nw_eX3_placeOf (ci := 5) rfl rfl rfl dL_law_2169 rfl rfl (by decide) (by decide) (by first | decide | omega) (by first | decide | omega) (Nat.le_of_ble_eq_true rfl) (hcw _ _ _ _ _ _ _ _ _ _ _ _ _ _ _ _ _) rfl rfl (Nat.le_of_ble_eq_true rfl) lw_pt2 ?_ ?_
  rotate_left
  · rintro E9 w9 h9; exact h9.elim
  rintro v2169 w2169 ⟨⟨mc91, mq91, mh91, mv91, rfl, hM1⟩, z2169, rfl, g2169⟩
  refine ne_ws lw_mg2 ?_
  refine ne_istore X dL_law_2172 (by decide) ?_
  refine ne_ll (L' := [some (.ref 0), some (.ref 1), some (.ref 13), some (.ref 20), some (ni _), some (ni _), some (ni _)]) rfl ?_
  refine ne_goto (tgt := 2324) X dL_law_2174 rfl ?_
  refine ne_lnone 5 (ne_lnone 6 ?_)
  refine ne_ll (L' := [some (.ref 0), some (.ref 1), some (.ref 13), some (.ref 20), some (ni i), none, none]) rfl ?_
  refine ne_less (C' := C - 500) (S' := S - 3500) (by omega) (by omega) ?_
  exact kk _ _ _ _ _ _ _ _ _ _ _ _ _ _ _ hI1 hM1 hP hs
set_option maxRecDepth 100000 in
set_option maxHeartbeats 4000000 in
theorem lc_42 (hl : l.stackTraces = false) (X : ne_F nw_cl D ct A p l room_1 s9 m args meth c9 RL cL_law 7 nw_T 20 1000 888398 6436287) (hX : va_X b9 N9 xs s9 s9.heap) (hbl : b9 < s9.heap.size) (hbA : ¬ A b9) (hb0 : ad0 0 = b9) (i T : Int) (hi : 0 ≤ i ∧ i + 6 ≤ N9 ∧ N9 ≤ 384) (hT : 0 ≤ T ∧ T ≤ 100) (c q t b k n h x y mc9 mq9 mh9 : Nat → Int) (mv9 u : Int) (sv : Value) (hI : cI c q t b k n h x y T) (hM : mI mc9 mq9 t b k mh9 mv9 T) (hP : ∀ j : Nat, ne_per (t j) (b j) (n j)) (hs : sv = .null ∨ sv = .ref 21) (C S : Nat) (hC : 500 ≤ C) (hS : 3500 ≤ S) (kk : ∀ (c q t b k n h x y mc9 mq9 mh9 : Nat → Int) (mv9 u : Int) (sv : Value), cI c q t b k n h x y (T + 1) → mI mc9 mq9 t b k mh9 mv9 (T + 1) → (∀ j : Nat, ne_per (t j) (b j) (n j)) → (sv = .null ∨ sv = .ref 21) → ne_G nw_cl D ct A 1 ad0 p l e room_1 s9 m args below meth c9 Q9 7 888398 6436287 (C - 500) (S - 3500) 2324 [some (.ref 0), some (.ref 1), some (.ref 13), some (.ref 20), some (ni i), none, none] [] (lW c q t b k n h x y mc9 mq9 t b k mh9 mv9 (nl u) sv)) : ne_G nw_cl D ct A 1 ad0 p l e room_1 s9 m args below meth c9 Q9 7 888398 6436287 C S 2177 [some (.ref 0), some (.ref 1), some (.ref 13), some (.ref 20), some (ni i), none, none] [] (lW c q t b k n h x y mc9 mq9 t b k mh9 mv9 (nl u) sv) := by
  obtain ⟨s8, hs8, rfl⟩ : ∃ s8 : Value, (s8 = .null ∨ s8 = .ref 13) ∧ sv = ne_rn [1, 2, 3, 4, 5, 6, 7, 8, 9, 10, 11, 12, 20, 21] 22 s8 := by
    rcases hs with rfl | rfl
    · exact ⟨.null, Or.inl rfl, rfl⟩
    · exact ⟨.ref 13, Or.inr rfl, rfl⟩
  have hcw : ∀ (c q t b k n h x y mc9 mq9 mt9 mb9 mk9 mh9 : Nat → Int) (mv9 u : Int), ne_cw 22 (lW c q t b k n h x y mc9 mq9 mt9 mb9 mk9 mh9 mv9 (nl u) (ne_rn [1, 2, 3, 4, 5, 6, 7, 8, 9, 10, 11, 12, 20, 21] 22 s8)) = true := by
    intros
    rcases hs8 with rfl | rfl <;> rfl
  refine ne_aload_n X dL_law_2177 rfl ?_
  refine ne_aload_n X dL_law_2178 rfl ?_
  refine ne_iload X dL_law_2179 rfl ?_
  refine ne_iconst X dL_law_2181 ?_
  refine ne_iadd X dL_law_2182 ?_
  refine ne_sld X hX hbl hbA hb0 (by decide) (by omega) dL_law_2183 (fun z2183 e2183 l2183 r2183 => ?_)
  refine ne_aload_n X dL_law_2184 rfl ?_
  refine ne_iload X dL_law_2185 rfl ?_
  refine ne_iconst X dL_law_2187 ?_
  refine ne_iadd X dL_law_2188 ?_
  refine ne_sld X hX hbl hbA hb0 (by decide) (by omega) dL_law_2189 (fun z2189 e2189 l2189 r2189 => ?_)
  refine ne_aload_n X dL_law_2190 rfl ?_
  refine ne_callSFW (is := [1, 2, 3, 4, 5, 6, 7, 8, 9, 10, 11, 12, 20, 21]) X nw_Tg (me_L_wheelOrder l hl c q t b k n h x y T hI (by omega) u s8 hs8 _ _ (by omega) (by omega)) nw_yL_wheelOrder nw_mL_311 nw_sL_wheelOrder dL_law_2191 rfl rfl (by decide) (by decide) (by first | decide | omega) (by first | decide | omega) (Nat.le_of_ble_eq_true rfl) (hcw _ _ _ _ _ _ _ _ _ _ _ _ _ _ _ _ _) rfl rfl (Nat.le_of_ble_eq_true rfl) lw_pt1 ?_ ?_
  rotate_left
  · rintro E9 w9 h9; exact h9.elim
  rintro v2191 w2191 ⟨c1, q1, h1, x1, y1, u1, rfl, hI1, z2191, rfl⟩
  refine ne_ws lw_mg1 ?_
  refine ne_istore X dL_law_2194 (by decide) ?_
  refine ne_aload_n X dL_law_2196 rfl ?_
  refine ne_aload_n X dL_law_2197 rfl ?_
  refine ne_iload X dL_law_2198 rfl ?_
  refine ne_iconst X dL_law_2200 ?_
  refine ne_iadd X dL_law_2201 ?_
  refine ne_sld X hX hbl hbA hb0 (by decide) (by omega) dL_law_2202 (fun z2202 e2202 l2202 r2202 => ?_)
  have y2202 : z2183 = z2202 := e2183.trans e2202.symm
  subst y2202
  refine ne_aload_n X dL_law_2203 rfl ?_
  refine ne_iload X dL_law_2204 rfl ?_
  refine ne_iconst X dL_law_2206 ?_
  refine ne_iadd X dL_law_2207 ?_
  refine ne_sld X hX hbl hbA hb0 (by decide) (by omega) dL_law_2208 (fun z2208 e2208 l2208 r2208 => ?_)
  have y2208 : z2189 = z2208 := e2189.trans e2208.symm
  subst y2208
  refine ne_callVF (is := [13, 14, 15, 16, 17, 18, 19]) X nw_Tg (me_X3_wheelOrder l hl mc9 mq9 t b k mh9 mv9 T hM (by omega) _ _ (by omega) (by omega)) nw_yX3_wheelOrder nw_mL_313 nw_iX3_wheelOrder nw_eX3_wheelOrder (ci := 5) rfl rfl rfl dL_law_2209 rfl rfl (by decide) (by decide) (by first | decide | omega) (by first | decide | omega) (Nat.le_of_ble_eq_true rfl) (hcw _ _ _ _ _ _ _ _ _ _ _ _ _ _ _ _ _) rfl rfl (Nat.le_of_ble_eq_true rfl) lw_pt2 ?_ ?_
  rotate_left
  · rintro E9 w9 h9; exact h9.elim
  rintro v2209 w2209 ⟨⟨mc91, mq91, mh91, mv91, rfl, hM1⟩, z2209, rfl, g2209⟩
  refine ne_ws lw_mg2 ?_
  refine ne_istore X dL_law_2212 (by decide) ?_
  refine ne_ll (L' := [some (.ref 0), some (.ref 1), some (.ref 13), some (.ref 20), some (ni _), some (ni _), some (ni _)]) rfl ?_
  refine ne_goto (tgt := 2324) X dL_law_2214 rfl ?_
  refine ne_lnone 5 (ne_lnone 6 ?_)
  refine ne_ll (L' := [some (.ref 0), some (.ref 1), some (.ref 13), some (.ref 20), some (ni i), none, none]) rfl ?_
  refine ne_less (C' := C - 500) (S' := S - 3500) (by omega) (by omega) ?_
  exact kk _ _ _ _ _ _ _ _ _ _ _ _ _ _ _ hI1 hM1 hP hs
set_option maxRecDepth 100000 in
set_option maxHeartbeats 4000000 in
theorem lc_43 (hl : l.stackTraces = false) (X : ne_F nw_cl D ct A p l room_1 s9 m args meth c9 RL cL_law 7 nw_T 20 1000 888398 6436287) (hX : va_X b9 N9 xs s9 s9.heap) (hbl : b9 < s9.heap.size) (hbA : ¬ A b9) (hb0 : ad0 0 = b9) (i T : Int) (hi : 0 ≤ i ∧ i + 6 ≤ N9 ∧ N9 ≤ 384) (hT : 0 ≤ T ∧ T ≤ 100) (c q t b k n h x y mc9 mq9 mh9 : Nat → Int) (mv9 u : Int) (sv : Value) (hI : cI c q t b k n h x y T) (hM : mI mc9 mq9 t b k mh9 mv9 T) (hP : ∀ j : Nat, ne_per (t j) (b j) (n j)) (hs : sv = .null ∨ sv = .ref 21) (C S : Nat) (hC : 500 ≤ C) (hS : 3500 ≤ S) (kk : ∀ (c q t b k n h x y mc9 mq9 mh9 : Nat → Int) (mv9 u : Int) (sv : Value), cI c q t b k n h x y (T + 1) → mI mc9 mq9 t b k mh9 mv9 (T + 1) → (∀ j : Nat, ne_per (t j) (b j) (n j)) → (sv = .null ∨ sv = .ref 21) → ne_G nw_cl D ct A 1 ad0 p l e room_1 s9 m args below meth c9 Q9 7 888398 6436287 (C - 500) (S - 3500) 2324 [some (.ref 0), some (.ref 1), some (.ref 13), some (.ref 20), some (ni i), none, none] [] (lW c q t b k n h x y mc9 mq9 t b k mh9 mv9 (nl u) sv)) : ne_G nw_cl D ct A 1 ad0 p l e room_1 s9 m args below meth c9 Q9 7 888398 6436287 C S 2217 [some (.ref 0), some (.ref 1), some (.ref 13), some (.ref 20), some (ni i), none, none] [] (lW c q t b k n h x y mc9 mq9 t b k mh9 mv9 (nl u) sv) := by
  obtain ⟨s8, hs8, rfl⟩ : ∃ s8 : Value, (s8 = .null ∨ s8 = .ref 13) ∧ sv = ne_rn [1, 2, 3, 4, 5, 6, 7, 8, 9, 10, 11, 12, 20, 21] 22 s8 := by
    rcases hs with rfl | rfl
    · exact ⟨.null, Or.inl rfl, rfl⟩
    · exact ⟨.ref 13, Or.inr rfl, rfl⟩
  have hcw : ∀ (c q t b k n h x y mc9 mq9 mt9 mb9 mk9 mh9 : Nat → Int) (mv9 u : Int), ne_cw 22 (lW c q t b k n h x y mc9 mq9 mt9 mb9 mk9 mh9 mv9 (nl u) (ne_rn [1, 2, 3, 4, 5, 6, 7, 8, 9, 10, 11, 12, 20, 21] 22 s8)) = true := by
    intros
    rcases hs8 with rfl | rfl <;> rfl
  refine ne_aload_n X dL_law_2217 rfl ?_
  refine ne_aload_n X dL_law_2218 rfl ?_
  refine ne_iload X dL_law_2219 rfl ?_
  refine ne_iconst X dL_law_2221 ?_
  refine ne_iadd X dL_law_2222 ?_
  refine ne_sld X hX hbl hbA hb0 (by decide) (by omega) dL_law_2223 (fun z2223 e2223 l2223 r2223 => ?_)
  refine ne_aload_n X dL_law_2224 rfl ?_
  refine ne_iload X dL_law_2225 rfl ?_
  refine ne_iconst X dL_law_2227 ?_
  refine ne_iadd X dL_law_2228 ?_
  refine ne_sld X hX hbl hbA hb0 (by decide) (by omega) dL_law_2229 (fun z2229 e2229 l2229 r2229 => ?_)
  refine ne_aload_n X dL_law_2230 rfl ?_
  refine ne_callSFW (is := [1, 2, 3, 4, 5, 6, 7, 8, 9, 10, 11, 12, 20, 21]) X nw_Tg (me_L_against l hl c q t b k n h x y T hI (by omega) u s8 hs8 _ _ (by omega) (by omega)) nw_yL_against nw_mL_314 nw_sL_against dL_law_2231 rfl rfl (by decide) (by decide) (by first | decide | omega) (by first | decide | omega) (Nat.le_of_ble_eq_true rfl) (hcw _ _ _ _ _ _ _ _ _ _ _ _ _ _ _ _ _) rfl rfl (Nat.le_of_ble_eq_true rfl) lw_pt1 ?_ ?_
  rotate_left
  · rintro E9 w9 h9; exact h9.elim
  rintro v2231 w2231 ⟨c1, q1, h1, x1, y1, u1, rfl, hI1, z2231, rfl⟩
  refine ne_ws lw_mg1 ?_
  refine ne_istore X dL_law_2234 (by decide) ?_
  refine ne_aload_n X dL_law_2236 rfl ?_
  refine ne_aload_n X dL_law_2237 rfl ?_
  refine ne_iload X dL_law_2238 rfl ?_
  refine ne_iconst X dL_law_2240 ?_
  refine ne_iadd X dL_law_2241 ?_
  refine ne_sld X hX hbl hbA hb0 (by decide) (by omega) dL_law_2242 (fun z2242 e2242 l2242 r2242 => ?_)
  have y2242 : z2223 = z2242 := e2223.trans e2242.symm
  subst y2242
  refine ne_aload_n X dL_law_2243 rfl ?_
  refine ne_iload X dL_law_2244 rfl ?_
  refine ne_iconst X dL_law_2246 ?_
  refine ne_iadd X dL_law_2247 ?_
  refine ne_sld X hX hbl hbA hb0 (by decide) (by omega) dL_law_2248 (fun z2248 e2248 l2248 r2248 => ?_)
  have y2248 : z2229 = z2248 := e2229.trans e2248.symm
  subst y2248
  refine ne_callVF (is := [13, 14, 15, 16, 17, 18, 19]) X nw_Tg (me_X3_against l hl mc9 mq9 t b k mh9 mv9 T hM (by omega) _ _ (by omega) (by omega)) nw_yX3_against nw_mL_316 nw_iX3_against nw_eX3_against (ci := 5) rfl rfl rfl dL_law_2249 rfl rfl (by decide) (by decide) (by first | decide | omega) (by first | decide | omega) (Nat.le_of_ble_eq_true rfl) (hcw _ _ _ _ _ _ _ _ _ _ _ _ _ _ _ _ _) rfl rfl (Nat.le_of_ble_eq_true rfl) lw_pt2 ?_ ?_
  rotate_left
  · rintro E9 w9 h9; exact h9.elim
  rintro v2249 w2249 ⟨⟨mc91, mq91, mh91, mv91, rfl, hM1⟩, z2249, rfl, g2249⟩
  refine ne_ws lw_mg2 ?_
  refine ne_istore X dL_law_2252 (by decide) ?_
  refine ne_ll (L' := [some (.ref 0), some (.ref 1), some (.ref 13), some (.ref 20), some (ni _), some (ni _), some (ni _)]) rfl ?_
  refine ne_goto (tgt := 2324) X dL_law_2254 rfl ?_
  refine ne_lnone 5 (ne_lnone 6 ?_)
  refine ne_ll (L' := [some (.ref 0), some (.ref 1), some (.ref 13), some (.ref 20), some (ni i), none, none]) rfl ?_
  refine ne_less (C' := C - 500) (S' := S - 3500) (by omega) (by omega) ?_
  exact kk _ _ _ _ _ _ _ _ _ _ _ _ _ _ _ hI1 hM1 hP hs
set_option maxRecDepth 100000 in
set_option maxHeartbeats 4000000 in
theorem lc_44 (hl : l.stackTraces = false) (X : ne_F nw_cl D ct A p l room_1 s9 m args meth c9 RL cL_law 7 nw_T 20 1000 888398 6436287) (hX : va_X b9 N9 xs s9 s9.heap) (hbl : b9 < s9.heap.size) (hbA : ¬ A b9) (hb0 : ad0 0 = b9) (i T : Int) (hi : 0 ≤ i ∧ i + 6 ≤ N9 ∧ N9 ≤ 384) (hT : 0 ≤ T ∧ T ≤ 100) (c q t b k n h x y mc9 mq9 mh9 : Nat → Int) (mv9 u : Int) (sv : Value) (hI : cI c q t b k n h x y T) (hM : mI mc9 mq9 t b k mh9 mv9 T) (hP : ∀ j : Nat, ne_per (t j) (b j) (n j)) (hs : sv = .null ∨ sv = .ref 21) (C S : Nat) (hC : 500 ≤ C) (hS : 3500 ≤ S) (kk : ∀ (c q t b k n h x y mc9 mq9 mh9 : Nat → Int) (mv9 u : Int) (sv : Value), cI c q t b k n h x y (T + 1) → mI mc9 mq9 t b k mh9 mv9 (T + 1) → (∀ j : Nat, ne_per (t j) (b j) (n j)) → (sv = .null ∨ sv = .ref 21) → ne_G nw_cl D ct A 1 ad0 p l e room_1 s9 m args below meth c9 Q9 7 888398 6436287 (C - 500) (S - 3500) 2324 [some (.ref 0), some (.ref 1), some (.ref 13), some (.ref 20), some (ni i), none, none] [] (lW c q t b k n h x y mc9 mq9 t b k mh9 mv9 (nl u) sv)) : ne_G nw_cl D ct A 1 ad0 p l e room_1 s9 m args below meth c9 Q9 7 888398 6436287 C S 2257 [some (.ref 0), some (.ref 1), some (.ref 13), some (.ref 20), some (ni i), none, none] [] (lW c q t b k n h x y mc9 mq9 t b k mh9 mv9 (nl u) sv) := by
  obtain ⟨s8, hs8, rfl⟩ : ∃ s8 : Value, (s8 = .null ∨ s8 = .ref 13) ∧ sv = ne_rn [1, 2, 3, 4, 5, 6, 7, 8, 9, 10, 11, 12, 20, 21] 22 s8 := by
    rcases hs with rfl | rfl
    · exact ⟨.null, Or.inl rfl, rfl⟩
    · exact ⟨.ref 13, Or.inr rfl, rfl⟩
  have hcw : ∀ (c q t b k n h x y mc9 mq9 mt9 mb9 mk9 mh9 : Nat → Int) (mv9 u : Int), ne_cw 22 (lW c q t b k n h x y mc9 mq9 mt9 mb9 mk9 mh9 mv9 (nl u) (ne_rn [1, 2, 3, 4, 5, 6, 7, 8, 9, 10, 11, 12, 20, 21] 22 s8)) = true := by
    intros
    rcases hs8 with rfl | rfl <;> rfl
  refine ne_aload_n X dL_law_2257 rfl ?_
  refine ne_aload_n X dL_law_2258 rfl ?_
  refine ne_iload X dL_law_2259 rfl ?_
  refine ne_iconst X dL_law_2261 ?_
  refine ne_iadd X dL_law_2262 ?_
  refine ne_sld X hX hbl hbA hb0 (by decide) (by omega) dL_law_2263 (fun z2263 e2263 l2263 r2263 => ?_)
  refine ne_aload_n X dL_law_2264 rfl ?_
  refine ne_callSFW (is := [1, 2, 3, 4, 5, 6, 7, 8, 9, 10, 11, 12, 20, 21]) X nw_Tg (me_L_house l hl c q t b k n h x y T hI (by omega) u s8 hs8 _ (by omega)) nw_yL_house nw_mL_317 nw_sL_house dL_law_2265 rfl rfl (by decide) (by decide) (by first | decide | omega) (by first | decide | omega) (Nat.le_of_ble_eq_true rfl) (hcw _ _ _ _ _ _ _ _ _ _ _ _ _ _ _ _ _) rfl rfl (Nat.le_of_ble_eq_true rfl) lw_pt1 ?_ ?_
  rotate_left
  · rintro E9 w9 h9; exact h9.elim
  rintro v2265 w2265 ⟨c1, q1, h1, x1, y1, u1, rfl, hI1, z2265, rfl⟩
  refine ne_ws lw_mg1 ?_
  refine ne_istore X dL_law_2268 (by decide) ?_
  refine ne_aload_n X dL_law_2270 rfl ?_
  refine ne_aload_n X dL_law_2271 rfl ?_
  refine ne_iload X dL_law_2272 rfl ?_
  refine ne_iconst X dL_law_2274 ?_
  refine ne_iadd X dL_law_2275 ?_
  refine ne_sld X hX hbl hbA hb0 (by decide) (by omega) dL_law_2276 (fun z2276 e2276 l2276 r2276 => ?_)
  have y2276 : z2263 = z2276 := e2263.trans e2276.symm
  subst y2276
  refine ne_callVF (is := [13, 14, 15, 16, 17, 18, 19]) X nw_Tg (me_X3_house l hl mc9 mq9 t b k mh9 mv9 T hM (by omega) _ (by omega)) nw_yX3_house nw_mL_319 nw_iX3_house nw_eX3_house (ci := 5) rfl rfl rfl dL_law_2277 rfl rfl (by decide) (by decide) (by first | decide | omega) (by first | decide | omega) (Nat.le_of_ble_eq_true rfl) (hcw _ _ _ _ _ _ _ _ _ _ _ _ _ _ _ _ _) rfl rfl (Nat.le_of_ble_eq_true rfl) lw_pt2 ?_ ?_
  rotate_left
  · rintro E9 w9 h9; exact h9.elim
  rintro v2277 w2277 ⟨⟨mc91, mq91, mh91, mv91, rfl, hM1⟩, z2277, rfl, g2277⟩
  refine ne_ws lw_mg2 ?_
  refine ne_istore X dL_law_2280 (by decide) ?_
  refine ne_ll (L' := [some (.ref 0), some (.ref 1), some (.ref 13), some (.ref 20), some (ni _), some (ni _), some (ni _)]) rfl ?_
  refine ne_goto (tgt := 2324) X dL_law_2282 rfl ?_
  refine ne_lnone 5 (ne_lnone 6 ?_)
  refine ne_ll (L' := [some (.ref 0), some (.ref 1), some (.ref 13), some (.ref 20), some (ni i), none, none]) rfl ?_
  refine ne_less (C' := C - 500) (S' := S - 3500) (by omega) (by omega) ?_
  exact kk _ _ _ _ _ _ _ _ _ _ _ _ _ _ _ hI1 hM1 hP hs
set_option maxRecDepth 100000 in
set_option maxHeartbeats 4000000 in
theorem lc_45 (hl : l.stackTraces = false) (X : ne_F nw_cl D ct A p l room_1 s9 m args meth c9 RL cL_law 7 nw_T 20 1000 888398 6436287) (hX : va_X b9 N9 xs s9 s9.heap) (hbl : b9 < s9.heap.size) (hbA : ¬ A b9) (hb0 : ad0 0 = b9) (i T : Int) (hi : 0 ≤ i ∧ i + 6 ≤ N9 ∧ N9 ≤ 384) (hT : 0 ≤ T ∧ T ≤ 100) (c q t b k n h x y mc9 mq9 mh9 : Nat → Int) (mv9 u : Int) (sv : Value) (hI : cI c q t b k n h x y T) (hM : mI mc9 mq9 t b k mh9 mv9 T) (hP : ∀ j : Nat, ne_per (t j) (b j) (n j)) (hs : sv = .null ∨ sv = .ref 21) (C S : Nat) (hC : 500 ≤ C) (hS : 3500 ≤ S) (kk : ∀ (c q t b k n h x y mc9 mq9 mh9 : Nat → Int) (mv9 u : Int) (sv : Value), cI c q t b k n h x y (T + 1) → mI mc9 mq9 t b k mh9 mv9 (T + 1) → (∀ j : Nat, ne_per (t j) (b j) (n j)) → (sv = .null ∨ sv = .ref 21) → ne_G nw_cl D ct A 1 ad0 p l e room_1 s9 m args below meth c9 Q9 7 888398 6436287 (C - 500) (S - 3500) 2324 [some (.ref 0), some (.ref 1), some (.ref 13), some (.ref 20), some (ni i), none, none] [] (lW c q t b k n h x y mc9 mq9 t b k mh9 mv9 (nl u) sv)) : ne_G nw_cl D ct A 1 ad0 p l e room_1 s9 m args below meth c9 Q9 7 888398 6436287 C S 2285 [some (.ref 0), some (.ref 1), some (.ref 13), some (.ref 20), some (ni i), none, none] [] (lW c q t b k n h x y mc9 mq9 t b k mh9 mv9 (nl u) sv) := by
  obtain ⟨s8, hs8, rfl⟩ : ∃ s8 : Value, (s8 = .null ∨ s8 = .ref 13) ∧ sv = ne_rn [1, 2, 3, 4, 5, 6, 7, 8, 9, 10, 11, 12, 20, 21] 22 s8 := by
    rcases hs with rfl | rfl
    · exact ⟨.null, Or.inl rfl, rfl⟩
    · exact ⟨.ref 13, Or.inr rfl, rfl⟩
  have hcw : ∀ (c q t b k n h x y mc9 mq9 mt9 mb9 mk9 mh9 : Nat → Int) (mv9 u : Int), ne_cw 22 (lW c q t b k n h x y mc9 mq9 mt9 mb9 mk9 mh9 mv9 (nl u) (ne_rn [1, 2, 3, 4, 5, 6, 7, 8, 9, 10, 11, 12, 20, 21] 22 s8)) = true := by
    intros
    rcases hs8 with rfl | rfl <;> rfl
  refine ne_aload_n X dL_law_2285 rfl ?_
  refine ne_callVF (is := [1, 2, 3, 4, 5, 6, 7, 8, 9, 10, 11, 12]) X nw_Tg (me_X1_knockS l hl c q t b k n h x y T hI (by omega)) nw_yX1_knock nw_mL_320 nw_iX1_knock nw_eX1_knock (ci := 3) rfl rfl rfl dL_law_2286 rfl rfl (by decide) (by decide) (by first | decide | omega) (by first | decide | omega) (Nat.le_of_ble_eq_true rfl) (hcw _ _ _ _ _ _ _ _ _ _ _ _ _ _ _ _ _) rfl rfl (Nat.le_of_ble_eq_true rfl) lw_pt3 ?_ ?_
  rotate_left
  · rintro E9 w9 h9; exact h9.elim
  rintro v2286 w2286 ⟨⟨c1, q1, h1, x1, y1, rfl, hI1⟩, z2286, rfl, g2286⟩
  refine ne_ws lw_mg3 ?_
  refine ne_popi X dL_law_2289 ?_
  refine ne_aload_n X dL_law_2290 rfl ?_
  refine ne_callVF (is := [13, 14, 15, 16, 17, 18, 19]) X nw_Tg (me_X3_knock l hl mc9 mq9 t b k mh9 mv9 T hM (by omega)) nw_yX3_knock nw_mL_323 nw_iX3_knock nw_eX3_knock (ci := 5) rfl rfl rfl dL_law_2291 rfl rfl (by decide) (by decide) (by first | decide | omega) (by first | decide | omega) (Nat.le_of_ble_eq_true rfl) (hcw _ _ _ _ _ _ _ _ _ _ _ _ _ _ _ _ _) rfl rfl (Nat.le_of_ble_eq_true rfl) lw_pt2 ?_ ?_
  rotate_left
  · rintro E9 w9 h9; exact h9.elim
  rintro v2291 w2291 ⟨mh91, rfl, Ih1, z2291, rfl⟩
  have hM1 : mI mc9 mq9 t b k mh91 0 (T + 1) := ⟨hM.1, hM.2.1, hM.2.2.1, hM.2.2.2.1, hM.2.2.2.2.1, hM.2.2.2.2.2.1, hM.2.2.2.2.2.2.1, Ih1, by omega⟩
  refine ne_ws lw_mg2 ?_
  refine ne_popi X dL_law_2294 ?_
  refine ne_goto (tgt := 2324) X dL_law_2295 rfl ?_
  refine ne_lnone 5 (ne_lnone 6 ?_)
  refine ne_ll (L' := [some (.ref 0), some (.ref 1), some (.ref 13), some (.ref 20), some (ni i), none, none]) rfl ?_
  refine ne_less (C' := C - 500) (S' := S - 3500) (by omega) (by omega) ?_
  exact kk _ _ _ _ _ _ _ _ _ _ _ _ _ _ _ hI1 hM1 hP hs
set_option maxRecDepth 100000 in
set_option maxHeartbeats 4000000 in
theorem lc_46 (hl : l.stackTraces = false) (X : ne_F nw_cl D ct A p l room_1 s9 m args meth c9 RL cL_law 7 nw_T 20 1000 888398 6436287) (hX : va_X b9 N9 xs s9 s9.heap) (hbl : b9 < s9.heap.size) (hbA : ¬ A b9) (hb0 : ad0 0 = b9) (i T : Int) (hi : 0 ≤ i ∧ i + 6 ≤ N9 ∧ N9 ≤ 384) (hT : 0 ≤ T ∧ T ≤ 100) (c q t b k n h x y mc9 mq9 mh9 : Nat → Int) (mv9 u : Int) (sv : Value) (hI : cI c q t b k n h x y T) (hM : mI mc9 mq9 t b k mh9 mv9 T) (hP : ∀ j : Nat, ne_per (t j) (b j) (n j)) (hs : sv = .null ∨ sv = .ref 21) (C S : Nat) (hC : 500 ≤ C) (hS : 3500 ≤ S) (kk : ∀ (c q t b k n h x y mc9 mq9 mh9 : Nat → Int) (mv9 u : Int) (sv : Value), cI c q t b k n h x y (T + 1) → mI mc9 mq9 t b k mh9 mv9 (T + 1) → (∀ j : Nat, ne_per (t j) (b j) (n j)) → (sv = .null ∨ sv = .ref 21) → ne_G nw_cl D ct A 1 ad0 p l e room_1 s9 m args below meth c9 Q9 7 888398 6436287 (C - 500) (S - 3500) 2324 [some (.ref 0), some (.ref 1), some (.ref 13), some (.ref 20), some (ni i), none, none] [] (lW c q t b k n h x y mc9 mq9 t b k mh9 mv9 (nl u) sv)) : ne_G nw_cl D ct A 1 ad0 p l e room_1 s9 m args below meth c9 Q9 7 888398 6436287 C S 2298 [some (.ref 0), some (.ref 1), some (.ref 13), some (.ref 20), some (ni i), none, none] [] (lW c q t b k n h x y mc9 mq9 t b k mh9 mv9 (nl u) sv) := by
  obtain ⟨s8, hs8, rfl⟩ : ∃ s8 : Value, (s8 = .null ∨ s8 = .ref 13) ∧ sv = ne_rn [1, 2, 3, 4, 5, 6, 7, 8, 9, 10, 11, 12, 20, 21] 22 s8 := by
    rcases hs with rfl | rfl
    · exact ⟨.null, Or.inl rfl, rfl⟩
    · exact ⟨.ref 13, Or.inr rfl, rfl⟩
  have hcw : ∀ (c q t b k n h x y mc9 mq9 mt9 mb9 mk9 mh9 : Nat → Int) (mv9 u : Int), ne_cw 22 (lW c q t b k n h x y mc9 mq9 mt9 mb9 mk9 mh9 mv9 (nl u) (ne_rn [1, 2, 3, 4, 5, 6, 7, 8, 9, 10, 11, 12, 20, 21] 22 s8)) = true := by
    intros
    rcases hs8 with rfl | rfl <;> rfl
  refine ne_aload_n X dL_law_2298 rfl ?_
  refine ne_callVF (is := [1, 2, 3, 4, 5, 6, 7, 8, 9, 10, 11, 12]) X nw_Tg (me_X1_isSound l hl c q t b k n h x y T hI (by omega)) nw_yX1_isSound nw_mL_324 nw_iX1_isSound nw_eX1_isSound (ci := 3) rfl rfl rfl dL_law_2299 rfl rfl (by decide) (by decide) (by first | decide | omega) (by first | decide | omega) (Nat.le_of_ble_eq_true rfl) (hcw _ _ _ _ _ _ _ _ _ _ _ _ _ _ _ _ _) rfl rfl (Nat.le_of_ble_eq_true rfl) lw_pt3 ?_ ?_
  rotate_left
  · rintro E9 w9 h9; exact h9.elim
  rintro v2299 w2299 ⟨x1, y1, rfl, Ix1, Iy1, z2299, rfl, g2299⟩
  have hI1 : cI c q t b k n h x1 y1 (T + 1) := cI_mono ⟨hI.1, hI.2.1, hI.2.2.1, hI.2.2.2.1, hI.2.2.2.2.1, hI.2.2.2.2.2.1, hI.2.2.2.2.2.2.1, hI.2.2.2.2.2.2.2.1, Ix1, Iy1⟩ (by omega)
  refine ne_ws lw_mg3 ?_
  refine ne_popi X dL_law_2302 ?_
  refine ne_aload_n X dL_law_2303 rfl ?_
  refine ne_callVF (is := [13, 14, 15, 16, 17, 18, 19]) X nw_Tg (me_X3_isSound l hl mc9 mq9 t b k mh9 mv9 T hM (by omega)) nw_yX3_isSound nw_mL_328 nw_iX3_isSound nw_eX3_isSound (ci := 5) rfl rfl rfl dL_law_2304 rfl rfl (by decide) (by decide) (by first | decide | omega) (by first | decide | omega) (Nat.le_of_ble_eq_true rfl) (hcw _ _ _ _ _ _ _ _ _ _ _ _ _ _ _ _ _) rfl rfl (Nat.le_of_ble_eq_true rfl) lw_pt2 ?_ ?_
  rotate_left
  · rintro E9 w9 h9; exact h9.elim
  rintro v2304 w2304 ⟨rfl, z2304, rfl, g2304⟩
  have hM1 : mI mc9 mq9 t b k mh9 0 (T + 1) := ⟨hM.1, hM.2.1, hM.2.2.1, hM.2.2.2.1, hM.2.2.2.2.1, hM.2.2.2.2.2.1, hM.2.2.2.2.2.2.1, ne_rg_mono hM.2.2.2.2.2.2.2.1 (by omega) (by omega), by omega⟩
  refine ne_ws lw_mg2 ?_
  refine ne_popi X dL_law_2307 ?_
  refine ne_goto (tgt := 2324) X dL_law_2308 rfl ?_
  refine ne_lnone 5 (ne_lnone 6 ?_)
  refine ne_ll (L' := [some (.ref 0), some (.ref 1), some (.ref 13), some (.ref 20), some (ni i), none, none]) rfl ?_
  refine ne_less (C' := C - 500) (S' := S - 3500) (by omega) (by omega) ?_
  exact kk _ _ _ _ _ _ _ _ _ _ _ _ _ _ _ hI1 hM1 hP hs
set_option maxRecDepth 100000 in
set_option maxHeartbeats 4000000 in
theorem lc_47 (hl : l.stackTraces = false) (X : ne_F nw_cl D ct A p l room_1 s9 m args meth c9 RL cL_law 7 nw_T 20 1000 888398 6436287) (hX : va_X b9 N9 xs s9 s9.heap) (hbl : b9 < s9.heap.size) (hbA : ¬ A b9) (hb0 : ad0 0 = b9) (i T : Int) (hi : 0 ≤ i ∧ i + 6 ≤ N9 ∧ N9 ≤ 384) (hT : 0 ≤ T ∧ T ≤ 100) (c q t b k n h x y mc9 mq9 mh9 : Nat → Int) (mv9 u : Int) (sv : Value) (hI : cI c q t b k n h x y T) (hM : mI mc9 mq9 t b k mh9 mv9 T) (hP : ∀ j : Nat, ne_per (t j) (b j) (n j)) (hs : sv = .null ∨ sv = .ref 21) (C S : Nat) (hC : 500 ≤ C) (hS : 3500 ≤ S) (kk : ∀ (c q t b k n h x y mc9 mq9 mh9 : Nat → Int) (mv9 u : Int) (sv : Value), cI c q t b k n h x y (T + 1) → mI mc9 mq9 t b k mh9 mv9 (T + 1) → (∀ j : Nat, ne_per (t j) (b j) (n j)) → (sv = .null ∨ sv = .ref 21) → ne_G nw_cl D ct A 1 ad0 p l e room_1 s9 m args below meth c9 Q9 7 888398 6436287 (C - 500) (S - 3500) 2324 [some (.ref 0), some (.ref 1), some (.ref 13), some (.ref 20), some (ni i), none, none] [] (lW c q t b k n h x y mc9 mq9 t b k mh9 mv9 (nl u) sv)) : ne_G nw_cl D ct A 1 ad0 p l e room_1 s9 m args below meth c9 Q9 7 888398 6436287 C S 2311 [some (.ref 0), some (.ref 1), some (.ref 13), some (.ref 20), some (ni i), none, none] [] (lW c q t b k n h x y mc9 mq9 t b k mh9 mv9 (nl u) sv) := by
  obtain ⟨s8, hs8, rfl⟩ : ∃ s8 : Value, (s8 = .null ∨ s8 = .ref 13) ∧ sv = ne_rn [1, 2, 3, 4, 5, 6, 7, 8, 9, 10, 11, 12, 20, 21] 22 s8 := by
    rcases hs with rfl | rfl
    · exact ⟨.null, Or.inl rfl, rfl⟩
    · exact ⟨.ref 13, Or.inr rfl, rfl⟩
  have hcw : ∀ (c q t b k n h x y mc9 mq9 mt9 mb9 mk9 mh9 : Nat → Int) (mv9 u : Int), ne_cw 22 (lW c q t b k n h x y mc9 mq9 mt9 mb9 mk9 mh9 mv9 (nl u) (ne_rn [1, 2, 3, 4, 5, 6, 7, 8, 9, 10, 11, 12, 20, 21] 22 s8)) = true := by
    intros
    rcases hs8 with rfl | rfl <;> rfl
  refine ne_aload_n X dL_law_2311 rfl ?_
  refine ne_callVF (is := [1, 2, 3, 4, 5, 6, 7, 8, 9, 10, 11, 12]) X nw_Tg (me_X1_digest l hl c q t b k n h x y T hI (by omega)) nw_yX1_digest nw_mL_329 nw_iX1_digest nw_eX1_digest (ci := 3) rfl rfl rfl dL_law_2312 rfl rfl (by decide) (by decide) (by first | decide | omega) (by first | decide | omega) (Nat.le_of_ble_eq_true rfl) (hcw _ _ _ _ _ _ _ _ _ _ _ _ _ _ _ _ _) rfl rfl (Nat.le_of_ble_eq_true rfl) lw_pt3 ?_ ?_
  rotate_left
  · rintro E9 w9 h9; exact h9.elim
  rintro v2312 w2312 ⟨x1, y1, rfl, Ix1, Iy1, z2312, rfl, g2312⟩
  have hI1 : cI c q t b k n h x1 y1 (T + 1) := cI_mono ⟨hI.1, hI.2.1, hI.2.2.1, hI.2.2.2.1, hI.2.2.2.2.1, hI.2.2.2.2.2.1, hI.2.2.2.2.2.2.1, hI.2.2.2.2.2.2.2.1, Ix1, Iy1⟩ (by omega)
  refine ne_ws lw_mg3 ?_
  refine ne_pop2l X dL_law_2315 ?_
  refine ne_aload_n X dL_law_2316 rfl ?_
  refine ne_callVF (is := [13, 14, 15, 16, 17, 18, 19]) X nw_Tg (me_X3_digest l hl mc9 mq9 t b k mh9 mv9 T hM (by omega)) nw_yX3_digest nw_mL_333 nw_iX3_digest nw_eX3_digest (ci := 5) rfl rfl rfl dL_law_2317 rfl rfl (by decide) (by decide) (by first | decide | omega) (by first | decide | omega) (Nat.le_of_ble_eq_true rfl) (hcw _ _ _ _ _ _ _ _ _ _ _ _ _ _ _ _ _) rfl rfl (Nat.le_of_ble_eq_true rfl) lw_pt2 ?_ ?_
  rotate_left
  · rintro E9 w9 h9; exact h9.elim
  rintro v2317 w2317 ⟨rfl, z2317, rfl⟩
  have hM1 : mI mc9 mq9 t b k mh9 0 (T + 1) := ⟨hM.1, hM.2.1, hM.2.2.1, hM.2.2.2.1, hM.2.2.2.2.1, hM.2.2.2.2.2.1, hM.2.2.2.2.2.2.1, ne_rg_mono hM.2.2.2.2.2.2.2.1 (by omega) (by omega), by omega⟩
  refine ne_ws lw_mg2 ?_
  refine ne_pop2l X dL_law_2320 ?_
  refine ne_goto (tgt := 2324) X dL_law_2321 rfl ?_
  refine ne_lnone 5 (ne_lnone 6 ?_)
  refine ne_ll (L' := [some (.ref 0), some (.ref 1), some (.ref 13), some (.ref 20), some (ni i), none, none]) rfl ?_
  refine ne_less (C' := C - 500) (S' := S - 3500) (by omega) (by omega) ?_
  exact kk _ _ _ _ _ _ _ _ _ _ _ _ _ _ _ hI1 hM1 hP hs
end LAWS
