section LAWS
variable {D : va_G} {ct : Nat → ClassId} {A : Nat → Prop} {p : Program} {l : Launch} {e : Env} {s9 : State} {m : MethodId} {args : Array Value} {below : List Frame} {meth : Method} {c9 : Code} {Q9 : State → Prop} {b9 N9 : Nat} {xs : Nat → Int32} {ad0 : Nat → Nat}
set_option maxRecDepth 100000 in
set_option maxHeartbeats 4000000 in
theorem lc_36 (hl : l.stackTraces = false) (X : ne_F nw_cl D ct A p l room_1 s9 m args meth c9 RL cL_law 7 nw_T 20 1000 600128 7301098) (hX : va_X b9 N9 xs s9 s9.heap) (hbl : b9 < s9.heap.size) (hbA : ¬ A b9) (hb0 : ad0 0 = b9) (i T : Int) (hi : 0 ≤ i ∧ i + 6 ≤ N9 ∧ N9 ≤ 384) (hT : 0 ≤ T ∧ T ≤ 100) (c q t b k n h x y  : Nat → Int) (mv9 u : Int) (sv : Value) (hI : cI c q t b k n h x y T) (hM : mI c q t b k h mv9 T) (hP : ∀ j : Nat, ne_per (t j) (b j) (n j)) (hs : sv = .null ∨ sv = .ref 21) (C S : Nat) (hC : 500 ≤ C) (hS : 3500 ≤ S) (kk : ∀ (c q t b k n h x y  : Nat → Int) (mv9 u : Int) (sv : Value), cI c q t b k n h x y (T + 1) → mI c q t b k h mv9 (T + 1) → (∀ j : Nat, ne_per (t j) (b j) (n j)) → (sv = .null ∨ sv = .ref 21) → ne_G nw_cl D ct A 1 ad0 p l e room_1 s9 m args below meth c9 Q9 7 600128 7301098 (C - 500) (S - 3500) 2324 [some (.ref 0), some (.ref 1), some (.ref 13), some (.ref 20), some (ni i), none, none] [] (lW c q t b k n h x y c q t b k h mv9 (nl u) sv)) : ne_G nw_cl D ct A 1 ad0 p l e room_1 s9 m args below meth c9 Q9 7 600128 7301098 C S 1892 [some (.ref 0), some (.ref 1), some (.ref 13), some (.ref 20), some (ni i), none, none] [] (lW c q t b k n h x y c q t b k h mv9 (nl u) sv) := by
  rcases hs with rfl | rfl
  · refine ne_aload_n X dL_law_1892 rfl ?_
    refine ne_aload_n X dL_law_1893 rfl ?_
    refine ne_iload X dL_law_1894 rfl ?_
    refine ne_iconst X dL_law_1896 ?_
    refine ne_iadd X dL_law_1897 ?_
    refine ne_sld X hX hbl hbA hb0 (by decide) (by omega) dL_law_1898 (fun z1898 e1898 l1898 r1898 => ?_)
    refine ne_aload_n X dL_law_1899 rfl ?_
    refine ne_iload X dL_law_1900 rfl ?_
    refine ne_iconst X dL_law_1902 ?_
    refine ne_iadd X dL_law_1903 ?_
    refine ne_sld X hX hbl hbA hb0 (by decide) (by omega) dL_law_1904 (fun z1904 e1904 l1904 r1904 => ?_)
    refine ne_if_eq (tgt := 1912) X dL_law_1905 rfl (by omega) (fun b1905 => ?_) (fun b1905 => ?_)
    · refine ne_iconst X dL_law_1912 ?_
      refine ne_aload_n X dL_law_1913 rfl ?_
      refine ne_iload X dL_law_1914 rfl ?_
      refine ne_iconst X dL_law_1916 ?_
      refine ne_iadd X dL_law_1917 ?_
      refine ne_sld X hX hbl hbA hb0 (by decide) (by omega) dL_law_1918 (fun z1918 e1918 l1918 r1918 => ?_)
      refine ne_aload_n X dL_law_1919 rfl ?_
      refine ne_iload X dL_law_1920 rfl ?_
      refine ne_iconst X dL_law_1922 ?_
      refine ne_iadd X dL_law_1923 ?_
      refine ne_sld X hX hbl hbA hb0 (by decide) (by omega) dL_law_1924 (fun z1924 e1924 l1924 r1924 => ?_)
      refine ne_aload_n X dL_law_1925 rfl ?_
      refine ne_callSFW (is := [1, 2, 3, 4, 5, 6, 7, 8, 9, 10, 11, 12, 20, 21]) X nw_Tg (me_L_cutText l hl c q t b k n h x y T hI (by omega) u .null (Or.inl rfl) _ _ _ _ (by omega) (by omega) (by omega) (by omega)) nw_yL_cutText nw_mL_288 nw_sL_cutText dL_law_1926 rfl rfl (by decide) (by decide) (by first | decide | omega) (by first | decide | omega) (Nat.le_of_ble_eq_true rfl) rfl rfl rfl (Nat.le_of_ble_eq_true rfl) (lw_pt1 (s := .null)) ?_ ?_
      rotate_left
      · rintro E9 w9 h9; exact h9.elim
      rintro v1926 w1926 ⟨x1, y1, u1, s1, rfl, hI1, hs1, z1926, rfl⟩
      rcases hs1 with rfl | rfl
      · refine ne_take 22 ?_
        refine ne_ws lw_tkN ?_
        refine ne_istore X dL_law_1929 (by decide) ?_
        refine ne_aload_n X dL_law_1931 rfl ?_
        refine ne_aload_n X dL_law_1932 rfl ?_
        refine ne_iload X dL_law_1933 rfl ?_
        refine ne_iconst X dL_law_1935 ?_
        refine ne_iadd X dL_law_1936 ?_
        refine ne_sld X hX hbl hbA hb0 (by decide) (by omega) dL_law_1937 (fun z1937 e1937 l1937 r1937 => ?_)
        have y1937 : z1898 = z1937 := e1898.trans e1937.symm
        subst y1937
        refine ne_aload_n X dL_law_1938 rfl ?_
        refine ne_iload X dL_law_1939 rfl ?_
        refine ne_iconst X dL_law_1941 ?_
        refine ne_iadd X dL_law_1942 ?_
        refine ne_sld X hX hbl hbA hb0 (by decide) (by omega) dL_law_1943 (fun z1943 e1943 l1943 r1943 => ?_)
        have y1943 : z1904 = z1943 := e1904.trans e1943.symm
        subst y1943
        refine ne_if_eq (tgt := 1951) X dL_law_1944 rfl (by omega) (fun b1944 => ?_) (fun b1944 => ?_)
        · refine ne_iconst X dL_law_1951 ?_
          refine ne_aload_n X dL_law_1952 rfl ?_
          refine ne_iload X dL_law_1953 rfl ?_
          refine ne_iconst X dL_law_1955 ?_
          refine ne_iadd X dL_law_1956 ?_
          refine ne_sld X hX hbl hbA hb0 (by decide) (by omega) dL_law_1957 (fun z1957 e1957 l1957 r1957 => ?_)
          have y1957 : z1918 = z1957 := e1918.trans e1957.symm
          subst y1957
          refine ne_aload_n X dL_law_1958 rfl ?_
          refine ne_iload X dL_law_1959 rfl ?_
          refine ne_iconst X dL_law_1961 ?_
          refine ne_iadd X dL_law_1962 ?_
          refine ne_sld X hX hbl hbA hb0 (by decide) (by omega) dL_law_1963 (fun z1963 e1963 l1963 r1963 => ?_)
          have y1963 : z1924 = z1963 := e1924.trans e1963.symm
          subst y1963
          refine ne_callVF (is := [13, 14, 15, 16, 17, 18, 19]) X nw_Tg (me_X3_cutText l hl c q t b k h mv9 T hM (by omega) _ _ _ _ (by omega) (by omega) (by omega) (by omega)) nw_yX3_cutText nw_mL_291 nw_iX3_cutText nw_eX3_cutText (ci := 5) rfl rfl rfl dL_law_1964 rfl rfl (by decide) (by decide) (by first | decide | omega) (by first | decide | omega) (Nat.le_of_ble_eq_true rfl) rfl rfl rfl (Nat.le_of_ble_eq_true rfl) lw_pt2 ?_ ?_
          rotate_left
          · rintro E9 w9 h9; exact h9.elim
          rintro v1964 w1964 ⟨⟨mv91, rfl, hM1⟩, rfl⟩
          refine ne_ws lw_mg4 ?_
          refine ne_astore X dL_law_1967 (by decide) ?_
          refine ne_ll (L' := [some (.ref 0), some (.ref 1), some (.ref 13), some (.ref 20), some (ni _), some (ni _), some (.ref 22)]) rfl ?_
          refine ne_goto (tgt := 2324) X dL_law_1969 rfl ?_
          refine ne_lnone 5 (ne_lnone 6 ?_)
          refine ne_ll (L' := [some (.ref 0), some (.ref 1), some (.ref 13), some (.ref 20), some (ni i), none, none]) rfl ?_
          refine ne_take 22 ?_
          refine ne_ws lw_tk2 ?_
          refine ne_less (C' := C - 500) (S' := S - 3500) (by omega) (by omega) ?_
          exact kk _ _ _ _ _ _ _ _ _ _ _ _ hI1 hM1 hP (Or.inl rfl)
        · refine ne_iconst X dL_law_1947 ?_
          refine ne_goto (tgt := 1952) X dL_law_1948 rfl ?_
          refine ne_aload_n X dL_law_1952 rfl ?_
          refine ne_iload X dL_law_1953 rfl ?_
          refine ne_iconst X dL_law_1955 ?_
          refine ne_iadd X dL_law_1956 ?_
          refine ne_sld X hX hbl hbA hb0 (by decide) (by omega) dL_law_1957 (fun z1957 e1957 l1957 r1957 => ?_)
          have y1957 : z1918 = z1957 := e1918.trans e1957.symm
          subst y1957
          refine ne_aload_n X dL_law_1958 rfl ?_
          refine ne_iload X dL_law_1959 rfl ?_
          refine ne_iconst X dL_law_1961 ?_
          refine ne_iadd X dL_law_1962 ?_
          refine ne_sld X hX hbl hbA hb0 (by decide) (by omega) dL_law_1963 (fun z1963 e1963 l1963 r1963 => ?_)
          have y1963 : z1924 = z1963 := e1924.trans e1963.symm
          subst y1963
          refine ne_callVF (is := [13, 14, 15, 16, 17, 18, 19]) X nw_Tg (me_X3_cutText l hl c q t b k h mv9 T hM (by omega) _ _ _ _ (by omega) (by omega) (by omega) (by omega)) nw_yX3_cutText nw_mL_291 nw_iX3_cutText nw_eX3_cutText (ci := 5) rfl rfl rfl dL_law_1964 rfl rfl (by decide) (by decide) (by first | decide | omega) (by first | decide | omega) (Nat.le_of_ble_eq_true rfl) rfl rfl rfl (Nat.le_of_ble_eq_true rfl) lw_pt2 ?_ ?_
          rotate_left
          · rintro E9 w9 h9; exact h9.elim
          rintro v1964 w1964 ⟨⟨mv91, rfl, hM1⟩, rfl⟩
          refine ne_ws lw_mg4 ?_
          refine ne_astore X dL_law_1967 (by decide) ?_
          refine ne_ll (L' := [some (.ref 0), some (.ref 1), some (.ref 13), some (.ref 20), some (ni _), some (ni _), some (.ref 22)]) rfl ?_
          refine ne_goto (tgt := 2324) X dL_law_1969 rfl ?_
          refine ne_lnone 5 (ne_lnone 6 ?_)
          refine ne_ll (L' := [some (.ref 0), some (.ref 1), some (.ref 13), some (.ref 20), some (ni i), none, none]) rfl ?_
          refine ne_take 22 ?_
          refine ne_ws lw_tk2 ?_
          refine ne_less (C' := C - 500) (S' := S - 3500) (by omega) (by omega) ?_
          exact kk _ _ _ _ _ _ _ _ _ _ _ _ hI1 hM1 hP (Or.inl rfl)
      · refine ne_viewb [0, 1, 2, 3, 4, 5, 6, 7, 8, 9, 10, 11, 12, 13, 14, 15, 16, 17, 18, 19, 20, 22] (ws' := lW c q t b k n h x1 y1 c q t b k h mv9 (nl u1) (.ref 21)) (L' := [some (.ref 0), some (.ref 1), some (.ref 13), some (.ref 20), some (ni i), none, none]) (st' := [ni z1926]) lw_vw (by decide) lw_vl rfl rfl rfl ?_
        refine ne_istore X dL_law_1929 (by decide) ?_
        refine ne_aload_n X dL_law_1931 rfl ?_
        refine ne_aload_n X dL_law_1932 rfl ?_
        refine ne_iload X dL_law_1933 rfl ?_
        refine ne_iconst X dL_law_1935 ?_
        refine ne_iadd X dL_law_1936 ?_
        refine ne_sld X hX hbl hbA hb0 (by decide) (by omega) dL_law_1937 (fun z1937 e1937 l1937 r1937 => ?_)
        have y1937 : z1898 = z1937 := e1898.trans e1937.symm
        subst y1937
        refine ne_aload_n X dL_law_1938 rfl ?_
        refine ne_iload X dL_law_1939 rfl ?_
        refine ne_iconst X dL_law_1941 ?_
        refine ne_iadd X dL_law_1942 ?_
        refine ne_sld X hX hbl hbA hb0 (by decide) (by omega) dL_law_1943 (fun z1943 e1943 l1943 r1943 => ?_)
        have y1943 : z1904 = z1943 := e1904.trans e1943.symm
        subst y1943
        refine ne_if_eq (tgt := 1951) X dL_law_1944 rfl (by omega) (fun b1944 => ?_) (fun b1944 => ?_)
        · refine ne_iconst X dL_law_1951 ?_
          refine ne_aload_n X dL_law_1952 rfl ?_
          refine ne_iload X dL_law_1953 rfl ?_
          refine ne_iconst X dL_law_1955 ?_
          refine ne_iadd X dL_law_1956 ?_
          refine ne_sld X hX hbl hbA hb0 (by decide) (by omega) dL_law_1957 (fun z1957 e1957 l1957 r1957 => ?_)
          have y1957 : z1918 = z1957 := e1918.trans e1957.symm
          subst y1957
          refine ne_aload_n X dL_law_1958 rfl ?_
          refine ne_iload X dL_law_1959 rfl ?_
          refine ne_iconst X dL_law_1961 ?_
          refine ne_iadd X dL_law_1962 ?_
          refine ne_sld X hX hbl hbA hb0 (by decide) (by omega) dL_law_1963 (fun z1963 e1963 l1963 r1963 => ?_)
          have y1963 : z1924 = z1963 := e1924.trans e1963.symm
          subst y1963
          refine ne_callVF (is := [13, 14, 15, 16, 17, 18, 19]) X nw_Tg (me_X3_cutText l hl c q t b k h mv9 T hM (by omega) _ _ _ _ (by omega) (by omega) (by omega) (by omega)) nw_yX3_cutText nw_mL_291 nw_iX3_cutText nw_eX3_cutText (ci := 5) rfl rfl rfl dL_law_1964 rfl rfl (by decide) (by decide) (by first | decide | omega) (by first | decide | omega) (Nat.le_of_ble_eq_true rfl) rfl rfl rfl (Nat.le_of_ble_eq_true rfl) lw_pt2 ?_ ?_
          rotate_left
          · rintro E9 w9 h9; exact h9.elim
          rintro v1964 w1964 ⟨⟨mv91, rfl, hM1⟩, rfl⟩
          refine ne_ws lw_mg4 ?_
          refine ne_astore X dL_law_1967 (by decide) ?_
          refine ne_ll (L' := [some (.ref 0), some (.ref 1), some (.ref 13), some (.ref 20), some (ni _), some (ni _), some (.ref 22)]) rfl ?_
          refine ne_goto (tgt := 2324) X dL_law_1969 rfl ?_
          refine ne_lnone 5 (ne_lnone 6 ?_)
          refine ne_ll (L' := [some (.ref 0), some (.ref 1), some (.ref 13), some (.ref 20), some (ni i), none, none]) rfl ?_
          refine ne_take 22 ?_
          refine ne_ws lw_tk2 ?_
          refine ne_less (C' := C - 500) (S' := S - 3500) (by omega) (by omega) ?_
          exact kk _ _ _ _ _ _ _ _ _ _ _ _ hI1 hM1 hP (Or.inr rfl)
        · refine ne_iconst X dL_law_1947 ?_
          refine ne_goto (tgt := 1952) X dL_law_1948 rfl ?_
          refine ne_aload_n X dL_law_1952 rfl ?_
          refine ne_iload X dL_law_1953 rfl ?_
          refine ne_iconst X dL_law_1955 ?_
          refine ne_iadd X dL_law_1956 ?_
          refine ne_sld X hX hbl hbA hb0 (by decide) (by omega) dL_law_1957 (fun z1957 e1957 l1957 r1957 => ?_)
          have y1957 : z1918 = z1957 := e1918.trans e1957.symm
          subst y1957
          refine ne_aload_n X dL_law_1958 rfl ?_
          refine ne_iload X dL_law_1959 rfl ?_
          refine ne_iconst X dL_law_1961 ?_
          refine ne_iadd X dL_law_1962 ?_
          refine ne_sld X hX hbl hbA hb0 (by decide) (by omega) dL_law_1963 (fun z1963 e1963 l1963 r1963 => ?_)
          have y1963 : z1924 = z1963 := e1924.trans e1963.symm
          subst y1963
          refine ne_callVF (is := [13, 14, 15, 16, 17, 18, 19]) X nw_Tg (me_X3_cutText l hl c q t b k h mv9 T hM (by omega) _ _ _ _ (by omega) (by omega) (by omega) (by omega)) nw_yX3_cutText nw_mL_291 nw_iX3_cutText nw_eX3_cutText (ci := 5) rfl rfl rfl dL_law_1964 rfl rfl (by decide) (by decide) (by first | decide | omega) (by first | decide | omega) (Nat.le_of_ble_eq_true rfl) rfl rfl rfl (Nat.le_of_ble_eq_true rfl) lw_pt2 ?_ ?_
          rotate_left
          · rintro E9 w9 h9; exact h9.elim
          rintro v1964 w1964 ⟨⟨mv91, rfl, hM1⟩, rfl⟩
          refine ne_ws lw_mg4 ?_
          refine ne_astore X dL_law_1967 (by decide) ?_
          refine ne_ll (L' := [some (.ref 0), some (.ref 1), some (.ref 13), some (.ref 20), some (ni _), some (ni _), some (.ref 22)]) rfl ?_
          refine ne_goto (tgt := 2324) X dL_law_1969 rfl ?_
          refine ne_lnone 5 (ne_lnone 6 ?_)
          refine ne_ll (L' := [some (.ref 0), some (.ref 1), some (.ref 13), some (.ref 20), some (ni i), none, none]) rfl ?_
          refine ne_take 22 ?_
          refine ne_ws lw_tk2 ?_
          refine ne_less (C' := C - 500) (S' := S - 3500) (by omega) (by omega) ?_
          exact kk _ _ _ _ _ _ _ _ _ _ _ _ hI1 hM1 hP (Or.inr rfl)
    · refine ne_iconst X dL_law_1908 ?_
      refine ne_goto (tgt := 1913) X dL_law_1909 rfl ?_
      refine ne_aload_n X dL_law_1913 rfl ?_
      refine ne_iload X dL_law_1914 rfl ?_
      refine ne_iconst X dL_law_1916 ?_
      refine ne_iadd X dL_law_1917 ?_
      refine ne_sld X hX hbl hbA hb0 (by decide) (by omega) dL_law_1918 (fun z1918 e1918 l1918 r1918 => ?_)
      refine ne_aload_n X dL_law_1919 rfl ?_
      refine ne_iload X dL_law_1920 rfl ?_
      refine ne_iconst X dL_law_1922 ?_
      refine ne_iadd X dL_law_1923 ?_
      refine ne_sld X hX hbl hbA hb0 (by decide) (by omega) dL_law_1924 (fun z1924 e1924 l1924 r1924 => ?_)
      refine ne_aload_n X dL_law_1925 rfl ?_
      refine ne_callSFW (is := [1, 2, 3, 4, 5, 6, 7, 8, 9, 10, 11, 12, 20, 21]) X nw_Tg (me_L_cutText l hl c q t b k n h x y T hI (by omega) u .null (Or.inl rfl) _ _ _ _ (by omega) (by omega) (by omega) (by omega)) nw_yL_cutText nw_mL_288 nw_sL_cutText dL_law_1926 rfl rfl (by decide) (by decide) (by first | decide | omega) (by first | decide | omega) (Nat.le_of_ble_eq_true rfl) rfl rfl rfl (Nat.le_of_ble_eq_true rfl) (lw_pt1 (s := .null)) ?_ ?_
      rotate_left
      · rintro E9 w9 h9; exact h9.elim
      rintro v1926 w1926 ⟨x1, y1, u1, s1, rfl, hI1, hs1, z1926, rfl⟩
      rcases hs1 with rfl | rfl
      · refine ne_take 22 ?_
        refine ne_ws lw_tkN ?_
        refine ne_istore X dL_law_1929 (by decide) ?_
        refine ne_aload_n X dL_law_1931 rfl ?_
        refine ne_aload_n X dL_law_1932 rfl ?_
        refine ne_iload X dL_law_1933 rfl ?_
        refine ne_iconst X dL_law_1935 ?_
        refine ne_iadd X dL_law_1936 ?_
        refine ne_sld X hX hbl hbA hb0 (by decide) (by omega) dL_law_1937 (fun z1937 e1937 l1937 r1937 => ?_)
        have y1937 : z1898 = z1937 := e1898.trans e1937.symm
        subst y1937
        refine ne_aload_n X dL_law_1938 rfl ?_
        refine ne_iload X dL_law_1939 rfl ?_
        refine ne_iconst X dL_law_1941 ?_
        refine ne_iadd X dL_law_1942 ?_
        refine ne_sld X hX hbl hbA hb0 (by decide) (by omega) dL_law_1943 (fun z1943 e1943 l1943 r1943 => ?_)
        have y1943 : z1904 = z1943 := e1904.trans e1943.symm
        subst y1943
        refine ne_if_eq (tgt := 1951) X dL_law_1944 rfl (by omega) (fun b1944 => ?_) (fun b1944 => ?_)
        · refine ne_iconst X dL_law_1951 ?_
          refine ne_aload_n X dL_law_1952 rfl ?_
          refine ne_iload X dL_law_1953 rfl ?_
          refine ne_iconst X dL_law_1955 ?_
          refine ne_iadd X dL_law_1956 ?_
          refine ne_sld X hX hbl hbA hb0 (by decide) (by omega) dL_law_1957 (fun z1957 e1957 l1957 r1957 => ?_)
          have y1957 : z1918 = z1957 := e1918.trans e1957.symm
          subst y1957
          refine ne_aload_n X dL_law_1958 rfl ?_
          refine ne_iload X dL_law_1959 rfl ?_
          refine ne_iconst X dL_law_1961 ?_
          refine ne_iadd X dL_law_1962 ?_
          refine ne_sld X hX hbl hbA hb0 (by decide) (by omega) dL_law_1963 (fun z1963 e1963 l1963 r1963 => ?_)
          have y1963 : z1924 = z1963 := e1924.trans e1963.symm
          subst y1963
          refine ne_callVF (is := [13, 14, 15, 16, 17, 18, 19]) X nw_Tg (me_X3_cutText l hl c q t b k h mv9 T hM (by omega) _ _ _ _ (by omega) (by omega) (by omega) (by omega)) nw_yX3_cutText nw_mL_291 nw_iX3_cutText nw_eX3_cutText (ci := 5) rfl rfl rfl dL_law_1964 rfl rfl (by decide) (by decide) (by first | decide | omega) (by first | decide | omega) (Nat.le_of_ble_eq_true rfl) rfl rfl rfl (Nat.le_of_ble_eq_true rfl) lw_pt2 ?_ ?_
          rotate_left
          · rintro E9 w9 h9; exact h9.elim
          rintro v1964 w1964 ⟨⟨mv91, rfl, hM1⟩, rfl⟩
          refine ne_ws lw_mg4 ?_
          refine ne_astore X dL_law_1967 (by decide) ?_
          refine ne_ll (L' := [some (.ref 0), some (.ref 1), some (.ref 13), some (.ref 20), some (ni _), some (ni _), some (.ref 22)]) rfl ?_
          refine ne_goto (tgt := 2324) X dL_law_1969 rfl ?_
          refine ne_lnone 5 (ne_lnone 6 ?_)
          refine ne_ll (L' := [some (.ref 0), some (.ref 1), some (.ref 13), some (.ref 20), some (ni i), none, none]) rfl ?_
          refine ne_take 22 ?_
          refine ne_ws lw_tk2 ?_
          refine ne_less (C' := C - 500) (S' := S - 3500) (by omega) (by omega) ?_
          exact kk _ _ _ _ _ _ _ _ _ _ _ _ hI1 hM1 hP (Or.inl rfl)
        · refine ne_iconst X dL_law_1947 ?_
          refine ne_goto (tgt := 1952) X dL_law_1948 rfl ?_
          refine ne_aload_n X dL_law_1952 rfl ?_
          refine ne_iload X dL_law_1953 rfl ?_
          refine ne_iconst X dL_law_1955 ?_
          refine ne_iadd X dL_law_1956 ?_
          refine ne_sld X hX hbl hbA hb0 (by decide) (by omega) dL_law_1957 (fun z1957 e1957 l1957 r1957 => ?_)
          have y1957 : z1918 = z1957 := e1918.trans e1957.symm
          subst y1957
          refine ne_aload_n X dL_law_1958 rfl ?_
          refine ne_iload X dL_law_1959 rfl ?_
          refine ne_iconst X dL_law_1961 ?_
          refine ne_iadd X dL_law_1962 ?_
          refine ne_sld X hX hbl hbA hb0 (by decide) (by omega) dL_law_1963 (fun z1963 e1963 l1963 r1963 => ?_)
          have y1963 : z1924 = z1963 := e1924.trans e1963.symm
          subst y1963
          refine ne_callVF (is := [13, 14, 15, 16, 17, 18, 19]) X nw_Tg (me_X3_cutText l hl c q t b k h mv9 T hM (by omega) _ _ _ _ (by omega) (by omega) (by omega) (by omega)) nw_yX3_cutText nw_mL_291 nw_iX3_cutText nw_eX3_cutText (ci := 5) rfl rfl rfl dL_law_1964 rfl rfl (by decide) (by decide) (by first | decide | omega) (by first | decide | omega) (Nat.le_of_ble_eq_true rfl) rfl rfl rfl (Nat.le_of_ble_eq_true rfl) lw_pt2 ?_ ?_
          rotate_left
          · rintro E9 w9 h9; exact h9.elim
          rintro v1964 w1964 ⟨⟨mv91, rfl, hM1⟩, rfl⟩
          refine ne_ws lw_mg4 ?_
          refine ne_astore X dL_law_1967 (by decide) ?_
          refine ne_ll (L' := [some (.ref 0), some (.ref 1), some (.ref 13), some (.ref 20), some (ni _), some (ni _), some (.ref 22)]) rfl ?_
          refine ne_goto (tgt := 2324) X dL_law_1969 rfl ?_
          refine ne_lnone 5 (ne_lnone 6 ?_)
          refine ne_ll (L' := [some (.ref 0), some (.ref 1), some (.ref 13), some (.ref 20), some (ni i), none, none]) rfl ?_
          refine ne_take 22 ?_
          refine ne_ws lw_tk2 ?_
          refine ne_less (C' := C - 500) (S' := S - 3500) (by omega) (by omega) ?_
          exact kk _ _ _ _ _ _ _ _ _ _ _ _ hI1 hM1 hP (Or.inl rfl)
      · refine ne_viewb [0, 1, 2, 3, 4, 5, 6, 7, 8, 9, 10, 11, 12, 13, 14, 15, 16, 17, 18, 19, 20, 22] (ws' := lW c q t b k n h x1 y1 c q t b k h mv9 (nl u1) (.ref 21)) (L' := [some (.ref 0), some (.ref 1), some (.ref 13), some (.ref 20), some (ni i), none, none]) (st' := [ni z1926]) lw_vw (by decide) lw_vl rfl rfl rfl ?_
        refine ne_istore X dL_law_1929 (by decide) ?_
        refine ne_aload_n X dL_law_1931 rfl ?_
        refine ne_aload_n X dL_law_1932 rfl ?_
        refine ne_iload X dL_law_1933 rfl ?_
        refine ne_iconst X dL_law_1935 ?_
        refine ne_iadd X dL_law_1936 ?_
        refine ne_sld X hX hbl hbA hb0 (by decide) (by omega) dL_law_1937 (fun z1937 e1937 l1937 r1937 => ?_)
        have y1937 : z1898 = z1937 := e1898.trans e1937.symm
        subst y1937
        refine ne_aload_n X dL_law_1938 rfl ?_
        refine ne_iload X dL_law_1939 rfl ?_
        refine ne_iconst X dL_law_1941 ?_
        refine ne_iadd X dL_law_1942 ?_
        refine ne_sld X hX hbl hbA hb0 (by decide) (by omega) dL_law_1943 (fun z1943 e1943 l1943 r1943 => ?_)
        have y1943 : z1904 = z1943 := e1904.trans e1943.symm
        subst y1943
        refine ne_if_eq (tgt := 1951) X dL_law_1944 rfl (by omega) (fun b1944 => ?_) (fun b1944 => ?_)
        · refine ne_iconst X dL_law_1951 ?_
          refine ne_aload_n X dL_law_1952 rfl ?_
          refine ne_iload X dL_law_1953 rfl ?_
          refine ne_iconst X dL_law_1955 ?_
          refine ne_iadd X dL_law_1956 ?_
          refine ne_sld X hX hbl hbA hb0 (by decide) (by omega) dL_law_1957 (fun z1957 e1957 l1957 r1957 => ?_)
          have y1957 : z1918 = z1957 := e1918.trans e1957.symm
          subst y1957
          refine ne_aload_n X dL_law_1958 rfl ?_
          refine ne_iload X dL_law_1959 rfl ?_
          refine ne_iconst X dL_law_1961 ?_
          refine ne_iadd X dL_law_1962 ?_
          refine ne_sld X hX hbl hbA hb0 (by decide) (by omega) dL_law_1963 (fun z1963 e1963 l1963 r1963 => ?_)
          have y1963 : z1924 = z1963 := e1924.trans e1963.symm
          subst y1963
          refine ne_callVF (is := [13, 14, 15, 16, 17, 18, 19]) X nw_Tg (me_X3_cutText l hl c q t b k h mv9 T hM (by omega) _ _ _ _ (by omega) (by omega) (by omega) (by omega)) nw_yX3_cutText nw_mL_291 nw_iX3_cutText nw_eX3_cutText (ci := 5) rfl rfl rfl dL_law_1964 rfl rfl (by decide) (by decide) (by first | decide | omega) (by first | decide | omega) (Nat.le_of_ble_eq_true rfl) rfl rfl rfl (Nat.le_of_ble_eq_true rfl) lw_pt2 ?_ ?_
          rotate_left
          · rintro E9 w9 h9; exact h9.elim
          rintro v1964 w1964 ⟨⟨mv91, rfl, hM1⟩, rfl⟩
          refine ne_ws lw_mg4 ?_
          refine ne_astore X dL_law_1967 (by decide) ?_
          refine ne_ll (L' := [some (.ref 0), some (.ref 1), some (.ref 13), some (.ref 20), some (ni _), some (ni _), some (.ref 22)]) rfl ?_
          refine ne_goto (tgt := 2324) X dL_law_1969 rfl ?_
          refine ne_lnone 5 (ne_lnone 6 ?_)
          refine ne_ll (L' := [some (.ref 0), some (.ref 1), some (.ref 13), some (.ref 20), some (ni i), none, none]) rfl ?_
          refine ne_take 22 ?_
          refine ne_ws lw_tk2 ?_
          refine ne_less (C' := C - 500) (S' := S - 3500) (by omega) (by omega) ?_
          exact kk _ _ _ _ _ _ _ _ _ _ _ _ hI1 hM1 hP (Or.inr rfl)
        · refine ne_iconst X dL_law_1947 ?_
          refine ne_goto (tgt := 1952) X dL_law_1948 rfl ?_
          refine ne_aload_n X dL_law_1952 rfl ?_
          refine ne_iload X dL_law_1953 rfl ?_
          refine ne_iconst X dL_law_1955 ?_
          refine ne_iadd X dL_law_1956 ?_
          refine ne_sld X hX hbl hbA hb0 (by decide) (by omega) dL_law_1957 (fun z1957 e1957 l1957 r1957 => ?_)
          have y1957 : z1918 = z1957 := e1918.trans e1957.symm
          subst y1957
          refine ne_aload_n X dL_law_1958 rfl ?_
          refine ne_iload X dL_law_1959 rfl ?_
          refine ne_iconst X dL_law_1961 ?_
          refine ne_iadd X dL_law_1962 ?_
          refine ne_sld X hX hbl hbA hb0 (by decide) (by omega) dL_law_1963 (fun z1963 e1963 l1963 r1963 => ?_)
          have y1963 : z1924 = z1963 := e1924.trans e1963.symm
          subst y1963
          refine ne_callVF (is := [13, 14, 15, 16, 17, 18, 19]) X nw_Tg (me_X3_cutText l hl c q t b k h mv9 T hM (by omega) _ _ _ _ (by omega) (by omega) (by omega) (by omega)) nw_yX3_cutText nw_mL_291 nw_iX3_cutText nw_eX3_cutText (ci := 5) rfl rfl rfl dL_law_1964 rfl rfl (by decide) (by decide) (by first | decide | omega) (by first | decide | omega) (Nat.le_of_ble_eq_true rfl) rfl rfl rfl (Nat.le_of_ble_eq_true rfl) lw_pt2 ?_ ?_
          rotate_left
          · rintro E9 w9 h9; exact h9.elim
          rintro v1964 w1964 ⟨⟨mv91, rfl, hM1⟩, rfl⟩
          refine ne_ws lw_mg4 ?_
          refine ne_astore X dL_law_1967 (by decide) ?_
          refine ne_ll (L' := [some (.ref 0), some (.ref 1), some (.ref 13), some (.ref 20), some (ni _), some (ni _), some (.ref 22)]) rfl ?_
          refine ne_goto (tgt := 2324) X dL_law_1969 rfl ?_
          refine ne_lnone 5 (ne_lnone 6 ?_)
          refine ne_ll (L' := [some (.ref 0), some (.ref 1), some (.ref 13), some (.ref 20), some (ni i), none, none]) rfl ?_
          refine ne_take 22 ?_
          refine ne_ws lw_tk2 ?_
          refine ne_less (C' := C - 500) (S' := S - 3500) (by omega) (by omega) ?_
          exact kk _ _ _ _ _ _ _ _ _ _ _ _ hI1 hM1 hP (Or.inr rfl)
  · refine ne_aload_n X dL_law_1892 rfl ?_
    refine ne_aload_n X dL_law_1893 rfl ?_
    refine ne_iload X dL_law_1894 rfl ?_
    refine ne_iconst X dL_law_1896 ?_
    refine ne_iadd X dL_law_1897 ?_
    refine ne_sld X hX hbl hbA hb0 (by decide) (by omega) dL_law_1898 (fun z1898 e1898 l1898 r1898 => ?_)
    refine ne_aload_n X dL_law_1899 rfl ?_
    refine ne_iload X dL_law_1900 rfl ?_
    refine ne_iconst X dL_law_1902 ?_
    refine ne_iadd X dL_law_1903 ?_
    refine ne_sld X hX hbl hbA hb0 (by decide) (by omega) dL_law_1904 (fun z1904 e1904 l1904 r1904 => ?_)
    refine ne_if_eq (tgt := 1912) X dL_law_1905 rfl (by omega) (fun b1905 => ?_) (fun b1905 => ?_)
    · refine ne_iconst X dL_law_1912 ?_
      refine ne_aload_n X dL_law_1913 rfl ?_
      refine ne_iload X dL_law_1914 rfl ?_
      refine ne_iconst X dL_law_1916 ?_
      refine ne_iadd X dL_law_1917 ?_
      refine ne_sld X hX hbl hbA hb0 (by decide) (by omega) dL_law_1918 (fun z1918 e1918 l1918 r1918 => ?_)
      refine ne_aload_n X dL_law_1919 rfl ?_
      refine ne_iload X dL_law_1920 rfl ?_
      refine ne_iconst X dL_law_1922 ?_
      refine ne_iadd X dL_law_1923 ?_
      refine ne_sld X hX hbl hbA hb0 (by decide) (by omega) dL_law_1924 (fun z1924 e1924 l1924 r1924 => ?_)
      refine ne_aload_n X dL_law_1925 rfl ?_
      refine ne_callSFW (is := [1, 2, 3, 4, 5, 6, 7, 8, 9, 10, 11, 12, 20, 21]) X nw_Tg (me_L_cutText l hl c q t b k n h x y T hI (by omega) u (.ref 13) (Or.inr rfl) _ _ _ _ (by omega) (by omega) (by omega) (by omega)) nw_yL_cutText nw_mL_288 nw_sL_cutText dL_law_1926 rfl rfl (by decide) (by decide) (by first | decide | omega) (by first | decide | omega) (Nat.le_of_ble_eq_true rfl) rfl rfl rfl (Nat.le_of_ble_eq_true rfl) (lw_pt1 (s := .ref 13)) ?_ ?_
      rotate_left
      · rintro E9 w9 h9; exact h9.elim
      rintro v1926 w1926 ⟨x1, y1, u1, s1, rfl, hI1, hs1, z1926, rfl⟩
      rcases hs1 with rfl | rfl
      · refine ne_take 22 ?_
        refine ne_ws lw_tkR ?_
        refine ne_istore X dL_law_1929 (by decide) ?_
        refine ne_aload_n X dL_law_1931 rfl ?_
        refine ne_aload_n X dL_law_1932 rfl ?_
        refine ne_iload X dL_law_1933 rfl ?_
        refine ne_iconst X dL_law_1935 ?_
        refine ne_iadd X dL_law_1936 ?_
        refine ne_sld X hX hbl hbA hb0 (by decide) (by omega) dL_law_1937 (fun z1937 e1937 l1937 r1937 => ?_)
        have y1937 : z1898 = z1937 := e1898.trans e1937.symm
        subst y1937
        refine ne_aload_n X dL_law_1938 rfl ?_
        refine ne_iload X dL_law_1939 rfl ?_
        refine ne_iconst X dL_law_1941 ?_
        refine ne_iadd X dL_law_1942 ?_
        refine ne_sld X hX hbl hbA hb0 (by decide) (by omega) dL_law_1943 (fun z1943 e1943 l1943 r1943 => ?_)
        have y1943 : z1904 = z1943 := e1904.trans e1943.symm
        subst y1943
        refine ne_if_eq (tgt := 1951) X dL_law_1944 rfl (by omega) (fun b1944 => ?_) (fun b1944 => ?_)
        · refine ne_iconst X dL_law_1951 ?_
          refine ne_aload_n X dL_law_1952 rfl ?_
          refine ne_iload X dL_law_1953 rfl ?_
          refine ne_iconst X dL_law_1955 ?_
          refine ne_iadd X dL_law_1956 ?_
          refine ne_sld X hX hbl hbA hb0 (by decide) (by omega) dL_law_1957 (fun z1957 e1957 l1957 r1957 => ?_)
          have y1957 : z1918 = z1957 := e1918.trans e1957.symm
          subst y1957
          refine ne_aload_n X dL_law_1958 rfl ?_
          refine ne_iload X dL_law_1959 rfl ?_
          refine ne_iconst X dL_law_1961 ?_
          refine ne_iadd X dL_law_1962 ?_
          refine ne_sld X hX hbl hbA hb0 (by decide) (by omega) dL_law_1963 (fun z1963 e1963 l1963 r1963 => ?_)
          have y1963 : z1924 = z1963 := e1924.trans e1963.symm
          subst y1963
          refine ne_callVF (is := [13, 14, 15, 16, 17, 18, 19]) X nw_Tg (me_X3_cutText l hl c q t b k h mv9 T hM (by omega) _ _ _ _ (by omega) (by omega) (by omega) (by omega)) nw_yX3_cutText nw_mL_291 nw_iX3_cutText nw_eX3_cutText (ci := 5) rfl rfl rfl dL_law_1964 rfl rfl (by decide) (by decide) (by first | decide | omega) (by first | decide | omega) (Nat.le_of_ble_eq_true rfl) rfl rfl rfl (Nat.le_of_ble_eq_true rfl) lw_pt2 ?_ ?_
          rotate_left
          · rintro E9 w9 h9; exact h9.elim
          rintro v1964 w1964 ⟨⟨mv91, rfl, hM1⟩, rfl⟩
          refine ne_ws lw_mg4 ?_
          refine ne_astore X dL_law_1967 (by decide) ?_
          refine ne_ll (L' := [some (.ref 0), some (.ref 1), some (.ref 13), some (.ref 20), some (ni _), some (ni _), some (.ref 22)]) rfl ?_
          refine ne_goto (tgt := 2324) X dL_law_1969 rfl ?_
          refine ne_lnone 5 (ne_lnone 6 ?_)
          refine ne_ll (L' := [some (.ref 0), some (.ref 1), some (.ref 13), some (.ref 20), some (ni i), none, none]) rfl ?_
          refine ne_take 22 ?_
          refine ne_ws lw_tk2 ?_
          refine ne_less (C' := C - 500) (S' := S - 3500) (by omega) (by omega) ?_
          exact kk _ _ _ _ _ _ _ _ _ _ _ _ hI1 hM1 hP (Or.inr rfl)
        · refine ne_iconst X dL_law_1947 ?_
          refine ne_goto (tgt := 1952) X dL_law_1948 rfl ?_
          refine ne_aload_n X dL_law_1952 rfl ?_
          refine ne_iload X dL_law_1953 rfl ?_
          refine ne_iconst X dL_law_1955 ?_
          refine ne_iadd X dL_law_1956 ?_
          refine ne_sld X hX hbl hbA hb0 (by decide) (by omega) dL_law_1957 (fun z1957 e1957 l1957 r1957 => ?_)
          have y1957 : z1918 = z1957 := e1918.trans e1957.symm
          subst y1957
          refine ne_aload_n X dL_law_1958 rfl ?_
          refine ne_iload X dL_law_1959 rfl ?_
          refine ne_iconst X dL_law_1961 ?_
          refine ne_iadd X dL_law_1962 ?_
          refine ne_sld X hX hbl hbA hb0 (by decide) (by omega) dL_law_1963 (fun z1963 e1963 l1963 r1963 => ?_)
          have y1963 : z1924 = z1963 := e1924.trans e1963.symm
          subst y1963
          refine ne_callVF (is := [13, 14, 15, 16, 17, 18, 19]) X nw_Tg (me_X3_cutText l hl c q t b k h mv9 T hM (by omega) _ _ _ _ (by omega) (by omega) (by omega) (by omega)) nw_yX3_cutText nw_mL_291 nw_iX3_cutText nw_eX3_cutText (ci := 5) rfl rfl rfl dL_law_1964 rfl rfl (by decide) (by decide) (by first | decide | omega) (by first | decide | omega) (Nat.le_of_ble_eq_true rfl) rfl rfl rfl (Nat.le_of_ble_eq_true rfl) lw_pt2 ?_ ?_
          rotate_left
          · rintro E9 w9 h9; exact h9.elim
          rintro v1964 w1964 ⟨⟨mv91, rfl, hM1⟩, rfl⟩
          refine ne_ws lw_mg4 ?_
          refine ne_astore X dL_law_1967 (by decide) ?_
          refine ne_ll (L' := [some (.ref 0), some (.ref 1), some (.ref 13), some (.ref 20), some (ni _), some (ni _), some (.ref 22)]) rfl ?_
          refine ne_goto (tgt := 2324) X dL_law_1969 rfl ?_
          refine ne_lnone 5 (ne_lnone 6 ?_)
          refine ne_ll (L' := [some (.ref 0), some (.ref 1), some (.ref 13), some (.ref 20), some (ni i), none, none]) rfl ?_
          refine ne_take 22 ?_
          refine ne_ws lw_tk2 ?_
          refine ne_less (C' := C - 500) (S' := S - 3500) (by omega) (by omega) ?_
          exact kk _ _ _ _ _ _ _ _ _ _ _ _ hI1 hM1 hP (Or.inr rfl)
      · refine ne_viewb [0, 1, 2, 3, 4, 5, 6, 7, 8, 9, 10, 11, 12, 13, 14, 15, 16, 17, 18, 19, 20, 22] (ws' := lW c q t b k n h x1 y1 c q t b k h mv9 (nl u1) (.ref 21)) (L' := [some (.ref 0), some (.ref 1), some (.ref 13), some (.ref 20), some (ni i), none, none]) (st' := [ni z1926]) lw_vw (by decide) lw_vl rfl rfl rfl ?_
        refine ne_istore X dL_law_1929 (by decide) ?_
        refine ne_aload_n X dL_law_1931 rfl ?_
        refine ne_aload_n X dL_law_1932 rfl ?_
        refine ne_iload X dL_law_1933 rfl ?_
        refine ne_iconst X dL_law_1935 ?_
        refine ne_iadd X dL_law_1936 ?_
        refine ne_sld X hX hbl hbA hb0 (by decide) (by omega) dL_law_1937 (fun z1937 e1937 l1937 r1937 => ?_)
        have y1937 : z1898 = z1937 := e1898.trans e1937.symm
        subst y1937
        refine ne_aload_n X dL_law_1938 rfl ?_
        refine ne_iload X dL_law_1939 rfl ?_
        refine ne_iconst X dL_law_1941 ?_
        refine ne_iadd X dL_law_1942 ?_
        refine ne_sld X hX hbl hbA hb0 (by decide) (by omega) dL_law_1943 (fun z1943 e1943 l1943 r1943 => ?_)
        have y1943 : z1904 = z1943 := e1904.trans e1943.symm
        subst y1943
        refine ne_if_eq (tgt := 1951) X dL_law_1944 rfl (by omega) (fun b1944 => ?_) (fun b1944 => ?_)
        · refine ne_iconst X dL_law_1951 ?_
          refine ne_aload_n X dL_law_1952 rfl ?_
          refine ne_iload X dL_law_1953 rfl ?_
          refine ne_iconst X dL_law_1955 ?_
          refine ne_iadd X dL_law_1956 ?_
          refine ne_sld X hX hbl hbA hb0 (by decide) (by omega) dL_law_1957 (fun z1957 e1957 l1957 r1957 => ?_)
          have y1957 : z1918 = z1957 := e1918.trans e1957.symm
          subst y1957
          refine ne_aload_n X dL_law_1958 rfl ?_
          refine ne_iload X dL_law_1959 rfl ?_
          refine ne_iconst X dL_law_1961 ?_
          refine ne_iadd X dL_law_1962 ?_
          refine ne_sld X hX hbl hbA hb0 (by decide) (by omega) dL_law_1963 (fun z1963 e1963 l1963 r1963 => ?_)
          have y1963 : z1924 = z1963 := e1924.trans e1963.symm
          subst y1963
          refine ne_callVF (is := [13, 14, 15, 16, 17, 18, 19]) X nw_Tg (me_X3_cutText l hl c q t b k h mv9 T hM (by omega) _ _ _ _ (by omega) (by omega) (by omega) (by omega)) nw_yX3_cutText nw_mL_291 nw_iX3_cutText nw_eX3_cutText (ci := 5) rfl rfl rfl dL_law_1964 rfl rfl (by decide) (by decide) (by first | decide | omega) (by first | decide | omega) (Nat.le_of_ble_eq_true rfl) rfl rfl rfl (Nat.le_of_ble_eq_true rfl) lw_pt2 ?_ ?_
          rotate_left
          · rintro E9 w9 h9; exact h9.elim
          rintro v1964 w1964 ⟨⟨mv91, rfl, hM1⟩, rfl⟩
          refine ne_ws lw_mg4 ?_
          refine ne_astore X dL_law_1967 (by decide) ?_
          refine ne_ll (L' := [some (.ref 0), some (.ref 1), some (.ref 13), some (.ref 20), some (ni _), some (ni _), some (.ref 22)]) rfl ?_
          refine ne_goto (tgt := 2324) X dL_law_1969 rfl ?_
          refine ne_lnone 5 (ne_lnone 6 ?_)
          refine ne_ll (L' := [some (.ref 0), some (.ref 1), some (.ref 13), some (.ref 20), some (ni i), none, none]) rfl ?_
          refine ne_take 22 ?_
          refine ne_ws lw_tk2 ?_
          refine ne_less (C' := C - 500) (S' := S - 3500) (by omega) (by omega) ?_
          exact kk _ _ _ _ _ _ _ _ _ _ _ _ hI1 hM1 hP (Or.inr rfl)
        · refine ne_iconst X dL_law_1947 ?_
          refine ne_goto (tgt := 1952) X dL_law_1948 rfl ?_
          refine ne_aload_n X dL_law_1952 rfl ?_
          refine ne_iload X dL_law_1953 rfl ?_
          refine ne_iconst X dL_law_1955 ?_
          refine ne_iadd X dL_law_1956 ?_
          refine ne_sld X hX hbl hbA hb0 (by decide) (by omega) dL_law_1957 (fun z1957 e1957 l1957 r1957 => ?_)
          have y1957 : z1918 = z1957 := e1918.trans e1957.symm
          subst y1957
          refine ne_aload_n X dL_law_1958 rfl ?_
          refine ne_iload X dL_law_1959 rfl ?_
          refine ne_iconst X dL_law_1961 ?_
          refine ne_iadd X dL_law_1962 ?_
          refine ne_sld X hX hbl hbA hb0 (by decide) (by omega) dL_law_1963 (fun z1963 e1963 l1963 r1963 => ?_)
          have y1963 : z1924 = z1963 := e1924.trans e1963.symm
          subst y1963
          refine ne_callVF (is := [13, 14, 15, 16, 17, 18, 19]) X nw_Tg (me_X3_cutText l hl c q t b k h mv9 T hM (by omega) _ _ _ _ (by omega) (by omega) (by omega) (by omega)) nw_yX3_cutText nw_mL_291 nw_iX3_cutText nw_eX3_cutText (ci := 5) rfl rfl rfl dL_law_1964 rfl rfl (by decide) (by decide) (by first | decide | omega) (by first | decide | omega) (Nat.le_of_ble_eq_true rfl) rfl rfl rfl (Nat.le_of_ble_eq_true rfl) lw_pt2 ?_ ?_
          rotate_left
          · rintro E9 w9 h9; exact h9.elim
          rintro v1964 w1964 ⟨⟨mv91, rfl, hM1⟩, rfl⟩
          refine ne_ws lw_mg4 ?_
          refine ne_astore X dL_law_1967 (by decide) ?_
          refine ne_ll (L' := [some (.ref 0), some (.ref 1), some (.ref 13), some (.ref 20), some (ni _), some (ni _), some (.ref 22)]) rfl ?_
          refine ne_goto (tgt := 2324) X dL_law_1969 rfl ?_
          refine ne_lnone 5 (ne_lnone 6 ?_)
          refine ne_ll (L' := [some (.ref 0), some (.ref 1), some (.ref 13), some (.ref 20), some (ni i), none, none]) rfl ?_
          refine ne_take 22 ?_
          refine ne_ws lw_tk2 ?_
          refine ne_less (C' := C - 500) (S' := S - 3500) (by omega) (by omega) ?_
          exact kk _ _ _ _ _ _ _ _ _ _ _ _ hI1 hM1 hP (Or.inr rfl)
    · refine ne_iconst X dL_law_1908 ?_
      refine ne_goto (tgt := 1913) X dL_law_1909 rfl ?_
      refine ne_aload_n X dL_law_1913 rfl ?_
      refine ne_iload X dL_law_1914 rfl ?_
      refine ne_iconst X dL_law_1916 ?_
      refine ne_iadd X dL_law_1917 ?_
      refine ne_sld X hX hbl hbA hb0 (by decide) (by omega) dL_law_1918 (fun z1918 e1918 l1918 r1918 => ?_)
      refine ne_aload_n X dL_law_1919 rfl ?_
      refine ne_iload X dL_law_1920 rfl ?_
      refine ne_iconst X dL_law_1922 ?_
      refine ne_iadd X dL_law_1923 ?_
      refine ne_sld X hX hbl hbA hb0 (by decide) (by omega) dL_law_1924 (fun z1924 e1924 l1924 r1924 => ?_)
      refine ne_aload_n X dL_law_1925 rfl ?_
      refine ne_callSFW (is := [1, 2, 3, 4, 5, 6, 7, 8, 9, 10, 11, 12, 20, 21]) X nw_Tg (me_L_cutText l hl c q t b k n h x y T hI (by omega) u (.ref 13) (Or.inr rfl) _ _ _ _ (by omega) (by omega) (by omega) (by omega)) nw_yL_cutText nw_mL_288 nw_sL_cutText dL_law_1926 rfl rfl (by decide) (by decide) (by first | decide | omega) (by first | decide | omega) (Nat.le_of_ble_eq_true rfl) rfl rfl rfl (Nat.le_of_ble_eq_true rfl) (lw_pt1 (s := .ref 13)) ?_ ?_
      rotate_left
      · rintro E9 w9 h9; exact h9.elim
      rintro v1926 w1926 ⟨x1, y1, u1, s1, rfl, hI1, hs1, z1926, rfl⟩
      rcases hs1 with rfl | rfl
      · refine ne_take 22 ?_
        refine ne_ws lw_tkR ?_
        refine ne_istore X dL_law_1929 (by decide) ?_
        refine ne_aload_n X dL_law_1931 rfl ?_
        refine ne_aload_n X dL_law_1932 rfl ?_
        refine ne_iload X dL_law_1933 rfl ?_
        refine ne_iconst X dL_law_1935 ?_
        refine ne_iadd X dL_law_1936 ?_
        refine ne_sld X hX hbl hbA hb0 (by decide) (by omega) dL_law_1937 (fun z1937 e1937 l1937 r1937 => ?_)
        have y1937 : z1898 = z1937 := e1898.trans e1937.symm
        subst y1937
        refine ne_aload_n X dL_law_1938 rfl ?_
        refine ne_iload X dL_law_1939 rfl ?_
        refine ne_iconst X dL_law_1941 ?_
        refine ne_iadd X dL_law_1942 ?_
        refine ne_sld X hX hbl hbA hb0 (by decide) (by omega) dL_law_1943 (fun z1943 e1943 l1943 r1943 => ?_)
        have y1943 : z1904 = z1943 := e1904.trans e1943.symm
        subst y1943
        refine ne_if_eq (tgt := 1951) X dL_law_1944 rfl (by omega) (fun b1944 => ?_) (fun b1944 => ?_)
        · refine ne_iconst X dL_law_1951 ?_
          refine ne_aload_n X dL_law_1952 rfl ?_
          refine ne_iload X dL_law_1953 rfl ?_
          refine ne_iconst X dL_law_1955 ?_
          refine ne_iadd X dL_law_1956 ?_
          refine ne_sld X hX hbl hbA hb0 (by decide) (by omega) dL_law_1957 (fun z1957 e1957 l1957 r1957 => ?_)
          have y1957 : z1918 = z1957 := e1918.trans e1957.symm
          subst y1957
          refine ne_aload_n X dL_law_1958 rfl ?_
          refine ne_iload X dL_law_1959 rfl ?_
          refine ne_iconst X dL_law_1961 ?_
          refine ne_iadd X dL_law_1962 ?_
          refine ne_sld X hX hbl hbA hb0 (by decide) (by omega) dL_law_1963 (fun z1963 e1963 l1963 r1963 => ?_)
          have y1963 : z1924 = z1963 := e1924.trans e1963.symm
          subst y1963
          refine ne_callVF (is := [13, 14, 15, 16, 17, 18, 19]) X nw_Tg (me_X3_cutText l hl c q t b k h mv9 T hM (by omega) _ _ _ _ (by omega) (by omega) (by omega) (by omega)) nw_yX3_cutText nw_mL_291 nw_iX3_cutText nw_eX3_cutText (ci := 5) rfl rfl rfl dL_law_1964 rfl rfl (by decide) (by decide) (by first | decide | omega) (by first | decide | omega) (Nat.le_of_ble_eq_true rfl) rfl rfl rfl (Nat.le_of_ble_eq_true rfl) lw_pt2 ?_ ?_
          rotate_left
          · rintro E9 w9 h9; exact h9.elim
          rintro v1964 w1964 ⟨⟨mv91, rfl, hM1⟩, rfl⟩
          refine ne_ws lw_mg4 ?_
          refine ne_astore X dL_law_1967 (by decide) ?_
          refine ne_ll (L' := [some (.ref 0), some (.ref 1), some (.ref 13), some (.ref 20), some (ni _), some (ni _), some (.ref 22)]) rfl ?_
          refine ne_goto (tgt := 2324) X dL_law_1969 rfl ?_
          refine ne_lnone 5 (ne_lnone 6 ?_)
          refine ne_ll (L' := [some (.ref 0), some (.ref 1), some (.ref 13), some (.ref 20), some (ni i), none, none]) rfl ?_
          refine ne_take 22 ?_
          refine ne_ws lw_tk2 ?_
          refine ne_less (C' := C - 500) (S' := S - 3500) (by omega) (by omega) ?_
          exact kk _ _ _ _ _ _ _ _ _ _ _ _ hI1 hM1 hP (Or.inr rfl)
        · refine ne_iconst X dL_law_1947 ?_
          refine ne_goto (tgt := 1952) X dL_law_1948 rfl ?_
          refine ne_aload_n X dL_law_1952 rfl ?_
          refine ne_iload X dL_law_1953 rfl ?_
          refine ne_iconst X dL_law_1955 ?_
          refine ne_iadd X dL_law_1956 ?_
          refine ne_sld X hX hbl hbA hb0 (by decide) (by omega) dL_law_1957 (fun z1957 e1957 l1957 r1957 => ?_)
          have y1957 : z1918 = z1957 := e1918.trans e1957.symm
          subst y1957
          refine ne_aload_n X dL_law_1958 rfl ?_
          refine ne_iload X dL_law_1959 rfl ?_
          refine ne_iconst X dL_law_1961 ?_
          refine ne_iadd X dL_law_1962 ?_
          refine ne_sld X hX hbl hbA hb0 (by decide) (by omega) dL_law_1963 (fun z1963 e1963 l1963 r1963 => ?_)
          have y1963 : z1924 = z1963 := e1924.trans e1963.symm
          subst y1963
          refine ne_callVF (is := [13, 14, 15, 16, 17, 18, 19]) X nw_Tg (me_X3_cutText l hl c q t b k h mv9 T hM (by omega) _ _ _ _ (by omega) (by omega) (by omega) (by omega)) nw_yX3_cutText nw_mL_291 nw_iX3_cutText nw_eX3_cutText (ci := 5) rfl rfl rfl dL_law_1964 rfl rfl (by decide) (by decide) (by first | decide | omega) (by first | decide | omega) (Nat.le_of_ble_eq_true rfl) rfl rfl rfl (Nat.le_of_ble_eq_true rfl) lw_pt2 ?_ ?_
          rotate_left
          · rintro E9 w9 h9; exact h9.elim
          rintro v1964 w1964 ⟨⟨mv91, rfl, hM1⟩, rfl⟩
          refine ne_ws lw_mg4 ?_
          refine ne_astore X dL_law_1967 (by decide) ?_
          refine ne_ll (L' := [some (.ref 0), some (.ref 1), some (.ref 13), some (.ref 20), some (ni _), some (ni _), some (.ref 22)]) rfl ?_
          refine ne_goto (tgt := 2324) X dL_law_1969 rfl ?_
          refine ne_lnone 5 (ne_lnone 6 ?_)
          refine ne_ll (L' := [some (.ref 0), some (.ref 1), some (.ref 13), some (.ref 20), some (ni i), none, none]) rfl ?_
          refine ne_take 22 ?_
          refine ne_ws lw_tk2 ?_
          refine ne_less (C' := C - 500) (S' := S - 3500) (by omega) (by omega) ?_
          exact kk _ _ _ _ _ _ _ _ _ _ _ _ hI1 hM1 hP (Or.inr rfl)
      · refine ne_viewb [0, 1, 2, 3, 4, 5, 6, 7, 8, 9, 10, 11, 12, 13, 14, 15, 16, 17, 18, 19, 20, 22] (ws' := lW c q t b k n h x1 y1 c q t b k h mv9 (nl u1) (.ref 21)) (L' := [some (.ref 0), some (.ref 1), some (.ref 13), some (.ref 20), some (ni i), none, none]) (st' := [ni z1926]) lw_vw (by decide) lw_vl rfl rfl rfl ?_
        refine ne_istore X dL_law_1929 (by decide) ?_
        refine ne_aload_n X dL_law_1931 rfl ?_
        refine ne_aload_n X dL_law_1932 rfl ?_
        refine ne_iload X dL_law_1933 rfl ?_
        refine ne_iconst X dL_law_1935 ?_
        refine ne_iadd X dL_law_1936 ?_
        refine ne_sld X hX hbl hbA hb0 (by decide) (by omega) dL_law_1937 (fun z1937 e1937 l1937 r1937 => ?_)
        have y1937 : z1898 = z1937 := e1898.trans e1937.symm
        subst y1937
        refine ne_aload_n X dL_law_1938 rfl ?_
        refine ne_iload X dL_law_1939 rfl ?_
        refine ne_iconst X dL_law_1941 ?_
        refine ne_iadd X dL_law_1942 ?_
        refine ne_sld X hX hbl hbA hb0 (by decide) (by omega) dL_law_1943 (fun z1943 e1943 l1943 r1943 => ?_)
        have y1943 : z1904 = z1943 := e1904.trans e1943.symm
        subst y1943
        refine ne_if_eq (tgt := 1951) X dL_law_1944 rfl (by omega) (fun b1944 => ?_) (fun b1944 => ?_)
        · refine ne_iconst X dL_law_1951 ?_
          refine ne_aload_n X dL_law_1952 rfl ?_
          refine ne_iload X dL_law_1953 rfl ?_
          refine ne_iconst X dL_law_1955 ?_
          refine ne_iadd X dL_law_1956 ?_
          refine ne_sld X hX hbl hbA hb0 (by decide) (by omega) dL_law_1957 (fun z1957 e1957 l1957 r1957 => ?_)
          have y1957 : z1918 = z1957 := e1918.trans e1957.symm
          subst y1957
          refine ne_aload_n X dL_law_1958 rfl ?_
          refine ne_iload X dL_law_1959 rfl ?_
          refine ne_iconst X dL_law_1961 ?_
          refine ne_iadd X dL_law_1962 ?_
          refine ne_sld X hX hbl hbA hb0 (by decide) (by omega) dL_law_1963 (fun z1963 e1963 l1963 r1963 => ?_)
          have y1963 : z1924 = z1963 := e1924.trans e1963.symm
          subst y1963
          refine ne_callVF (is := [13, 14, 15, 16, 17, 18, 19]) X nw_Tg (me_X3_cutText l hl c q t b k h mv9 T hM (by omega) _ _ _ _ (by omega) (by omega) (by omega) (by omega)) nw_yX3_cutText nw_mL_291 nw_iX3_cutText nw_eX3_cutText (ci := 5) rfl rfl rfl dL_law_1964 rfl rfl (by decide) (by decide) (by first | decide | omega) (by first | decide | omega) (Nat.le_of_ble_eq_true rfl) rfl rfl rfl (Nat.le_of_ble_eq_true rfl) lw_pt2 ?_ ?_
          rotate_left
          · rintro E9 w9 h9; exact h9.elim
          rintro v1964 w1964 ⟨⟨mv91, rfl, hM1⟩, rfl⟩
          refine ne_ws lw_mg4 ?_
          refine ne_astore X dL_law_1967 (by decide) ?_
          refine ne_ll (L' := [some (.ref 0), some (.ref 1), some (.ref 13), some (.ref 20), some (ni _), some (ni _), some (.ref 22)]) rfl ?_
          refine ne_goto (tgt := 2324) X dL_law_1969 rfl ?_
          refine ne_lnone 5 (ne_lnone 6 ?_)
          refine ne_ll (L' := [some (.ref 0), some (.ref 1), some (.ref 13), some (.ref 20), some (ni i), none, none]) rfl ?_
          refine ne_take 22 ?_
          refine ne_ws lw_tk2 ?_
          refine ne_less (C' := C - 500) (S' := S - 3500) (by omega) (by omega) ?_
          exact kk _ _ _ _ _ _ _ _ _ _ _ _ hI1 hM1 hP (Or.inr rfl)
        · refine ne_iconst X dL_law_1947 ?_
          refine ne_goto (tgt := 1952) X dL_law_1948 rfl ?_
          refine ne_aload_n X dL_law_1952 rfl ?_
          refine ne_iload X dL_law_1953 rfl ?_
          refine ne_iconst X dL_law_1955 ?_
          refine ne_iadd X dL_law_1956 ?_
          refine ne_sld X hX hbl hbA hb0 (by decide) (by omega) dL_law_1957 (fun z1957 e1957 l1957 r1957 => ?_)
          have y1957 : z1918 = z1957 := e1918.trans e1957.symm
          subst y1957
          refine ne_aload_n X dL_law_1958 rfl ?_
          refine ne_iload X dL_law_1959 rfl ?_
          refine ne_iconst X dL_law_1961 ?_
          refine ne_iadd X dL_law_1962 ?_
          refine ne_sld X hX hbl hbA hb0 (by decide) (by omega) dL_law_1963 (fun z1963 e1963 l1963 r1963 => ?_)
          have y1963 : z1924 = z1963 := e1924.trans e1963.symm
          subst y1963
          refine ne_callVF (is := [13, 14, 15, 16, 17, 18, 19]) X nw_Tg (me_X3_cutText l hl c q t b k h mv9 T hM (by omega) _ _ _ _ (by omega) (by omega) (by omega) (by omega)) nw_yX3_cutText nw_mL_291 nw_iX3_cutText nw_eX3_cutText (ci := 5) rfl rfl rfl dL_law_1964 rfl rfl (by decide) (by decide) (by first | decide | omega) (by first | decide | omega) (Nat.le_of_ble_eq_true rfl) rfl rfl rfl (Nat.le_of_ble_eq_true rfl) lw_pt2 ?_ ?_
          rotate_left
          · rintro E9 w9 h9; exact h9.elim
          rintro v1964 w1964 ⟨⟨mv91, rfl, hM1⟩, rfl⟩
          refine ne_ws lw_mg4 ?_
          refine ne_astore X dL_law_1967 (by decide) ?_
          refine ne_ll (L' := [some (.ref 0), some (.ref 1), some (.ref 13), some (.ref 20), some (ni _), some (ni _), some (.ref 22)]) rfl ?_
          refine ne_goto (tgt := 2324) X dL_law_1969 rfl ?_
          refine ne_lnone 5 (ne_lnone 6 ?_)
          refine ne_ll (L' := [some (.ref 0), some (.ref 1), some (.ref 13), some (.ref 20), some (ni i), none, none]) rfl ?_
          refine ne_take 22 ?_
          refine ne_ws lw_tk2 ?_
          refine ne_less (C' := C - 500) (S' := S - 3500) (by omega) (by omega) ?_
          exact kk _ _ _ _ _ _ _ _ _ _ _ _ hI1 hM1 hP (Or.inr rfl)
set_option maxRecDepth 100000 in
set_option maxHeartbeats 4000000 in
theorem lc_37 (hl : l.stackTraces = false) (X : ne_F nw_cl D ct A p l room_1 s9 m args meth c9 RL cL_law 7 nw_T 20 1000 600128 7301098) (hX : va_X b9 N9 xs s9 s9.heap) (hbl : b9 < s9.heap.size) (hbA : ¬ A b9) (hb0 : ad0 0 = b9) (i T : Int) (hi : 0 ≤ i ∧ i + 6 ≤ N9 ∧ N9 ≤ 384) (hT : 0 ≤ T ∧ T ≤ 100) (c q t b k n h x y  : Nat → Int) (mv9 u : Int) (sv : Value) (hI : cI c q t b k n h x y T) (hM : mI c q t b k h mv9 T) (hP : ∀ j : Nat, ne_per (t j) (b j) (n j)) (hs : sv = .null ∨ sv = .ref 21) (C S : Nat) (hC : 500 ≤ C) (hS : 3500 ≤ S) (kk : ∀ (c q t b k n h x y  : Nat → Int) (mv9 u : Int) (sv : Value), cI c q t b k n h x y (T + 1) → mI c q t b k h mv9 (T + 1) → (∀ j : Nat, ne_per (t j) (b j) (n j)) → (sv = .null ∨ sv = .ref 21) → ne_G nw_cl D ct A 1 ad0 p l e room_1 s9 m args below meth c9 Q9 7 600128 7301098 (C - 500) (S - 3500) 2324 [some (.ref 0), some (.ref 1), some (.ref 13), some (.ref 20), some (ni i), none, none] [] (lW c q t b k n h x y c q t b k h mv9 (nl u) sv)) : ne_G nw_cl D ct A 1 ad0 p l e room_1 s9 m args below meth c9 Q9 7 600128 7301098 C S 1972 [some (.ref 0), some (.ref 1), some (.ref 13), some (.ref 20), some (ni i), none, none] [] (lW c q t b k n h x y c q t b k h mv9 (nl u) sv) := by
  rcases hs with rfl | rfl
  · refine ne_aload_n X dL_law_1972 rfl ?_
    refine ne_aload_n X dL_law_1973 rfl ?_
    refine ne_iload X dL_law_1974 rfl ?_
    refine ne_iconst X dL_law_1976 ?_
    refine ne_iadd X dL_law_1977 ?_
    refine ne_sld X hX hbl hbA hb0 (by decide) (by omega) dL_law_1978 (fun z1978 e1978 l1978 r1978 => ?_)
    refine ne_aload_n X dL_law_1979 rfl ?_
    refine ne_callSFW (is := [1, 2, 3, 4, 5, 6, 7, 8, 9, 10, 11, 12, 20, 21]) X nw_Tg (me_L_number l hl c q t b k n h x y T hI (by omega) u .null (Or.inl rfl) _ (by omega)) nw_yL_number nw_mL_292 nw_sL_number dL_law_1980 rfl rfl (by decide) (by decide) (by first | decide | omega) (by first | decide | omega) (Nat.le_of_ble_eq_true rfl) rfl rfl rfl (Nat.le_of_ble_eq_true rfl) (lw_pt1 (s := .null)) ?_ ?_
    rotate_left
    · rintro E9 w9 h9; exact h9.elim
    rintro v1980 w1980 ⟨x1, y1, u1, s1, rfl, hI1, hs1, z1980, rfl⟩
    rcases hs1 with rfl | rfl
    · refine ne_take 22 ?_
      refine ne_ws lw_tkN ?_
      refine ne_istore X dL_law_1983 (by decide) ?_
      refine ne_aload_n X dL_law_1985 rfl ?_
      refine ne_aload_n X dL_law_1986 rfl ?_
      refine ne_iload X dL_law_1987 rfl ?_
      refine ne_iconst X dL_law_1989 ?_
      refine ne_iadd X dL_law_1990 ?_
      refine ne_sld X hX hbl hbA hb0 (by decide) (by omega) dL_law_1991 (fun z1991 e1991 l1991 r1991 => ?_)
      have y1991 : z1978 = z1991 := e1978.trans e1991.symm
      subst y1991
      refine ne_callVF (is := [13, 14, 15, 16, 17, 18, 19]) X nw_Tg (me_X3_number_ l hl c q t b k h mv9 T hM (by omega) _ (by omega)) nw_yX3_number_ nw_mL_294 nw_iX3_number_ nw_eX3_number_ (ci := 5) rfl rfl rfl dL_law_1992 rfl rfl (by decide) (by decide) (by first | decide | omega) (by first | decide | omega) (Nat.le_of_ble_eq_true rfl) rfl rfl rfl (Nat.le_of_ble_eq_true rfl) lw_pt2 ?_ ?_
      rotate_left
      · rintro E9 w9 h9; exact h9.elim
      rintro v1992 w1992 ⟨⟨mv91, rfl, hM1⟩, rfl⟩
      refine ne_ws lw_mg4 ?_
      refine ne_astore X dL_law_1995 (by decide) ?_
      refine ne_ll (L' := [some (.ref 0), some (.ref 1), some (.ref 13), some (.ref 20), some (ni _), some (ni _), some (.ref 22)]) rfl ?_
      refine ne_goto (tgt := 2324) X dL_law_1997 rfl ?_
      refine ne_lnone 5 (ne_lnone 6 ?_)
      refine ne_ll (L' := [some (.ref 0), some (.ref 1), some (.ref 13), some (.ref 20), some (ni i), none, none]) rfl ?_
      refine ne_take 22 ?_
      refine ne_ws lw_tk2 ?_
      refine ne_less (C' := C - 500) (S' := S - 3500) (by omega) (by omega) ?_
      exact kk _ _ _ _ _ _ _ _ _ _ _ _ hI1 hM1 hP (Or.inl rfl)
    · refine ne_viewb [0, 1, 2, 3, 4, 5, 6, 7, 8, 9, 10, 11, 12, 13, 14, 15, 16, 17, 18, 19, 20, 22] (ws' := lW c q t b k n h x1 y1 c q t b k h mv9 (nl u1) (.ref 21)) (L' := [some (.ref 0), some (.ref 1), some (.ref 13), some (.ref 20), some (ni i), none, none]) (st' := [ni z1980]) lw_vw (by decide) lw_vl rfl rfl rfl ?_
      refine ne_istore X dL_law_1983 (by decide) ?_
      refine ne_aload_n X dL_law_1985 rfl ?_
      refine ne_aload_n X dL_law_1986 rfl ?_
      refine ne_iload X dL_law_1987 rfl ?_
      refine ne_iconst X dL_law_1989 ?_
      refine ne_iadd X dL_law_1990 ?_
      refine ne_sld X hX hbl hbA hb0 (by decide) (by omega) dL_law_1991 (fun z1991 e1991 l1991 r1991 => ?_)
      have y1991 : z1978 = z1991 := e1978.trans e1991.symm
      subst y1991
      refine ne_callVF (is := [13, 14, 15, 16, 17, 18, 19]) X nw_Tg (me_X3_number_ l hl c q t b k h mv9 T hM (by omega) _ (by omega)) nw_yX3_number_ nw_mL_294 nw_iX3_number_ nw_eX3_number_ (ci := 5) rfl rfl rfl dL_law_1992 rfl rfl (by decide) (by decide) (by first | decide | omega) (by first | decide | omega) (Nat.le_of_ble_eq_true rfl) rfl rfl rfl (Nat.le_of_ble_eq_true rfl) lw_pt2 ?_ ?_
      rotate_left
      · rintro E9 w9 h9; exact h9.elim
      rintro v1992 w1992 ⟨⟨mv91, rfl, hM1⟩, rfl⟩
      refine ne_ws lw_mg4 ?_
      refine ne_astore X dL_law_1995 (by decide) ?_
      refine ne_ll (L' := [some (.ref 0), some (.ref 1), some (.ref 13), some (.ref 20), some (ni _), some (ni _), some (.ref 22)]) rfl ?_
      refine ne_goto (tgt := 2324) X dL_law_1997 rfl ?_
      refine ne_lnone 5 (ne_lnone 6 ?_)
      refine ne_ll (L' := [some (.ref 0), some (.ref 1), some (.ref 13), some (.ref 20), some (ni i), none, none]) rfl ?_
      refine ne_take 22 ?_
      refine ne_ws lw_tk2 ?_
      refine ne_less (C' := C - 500) (S' := S - 3500) (by omega) (by omega) ?_
      exact kk _ _ _ _ _ _ _ _ _ _ _ _ hI1 hM1 hP (Or.inr rfl)
  · refine ne_aload_n X dL_law_1972 rfl ?_
    refine ne_aload_n X dL_law_1973 rfl ?_
    refine ne_iload X dL_law_1974 rfl ?_
    refine ne_iconst X dL_law_1976 ?_
    refine ne_iadd X dL_law_1977 ?_
    refine ne_sld X hX hbl hbA hb0 (by decide) (by omega) dL_law_1978 (fun z1978 e1978 l1978 r1978 => ?_)
    refine ne_aload_n X dL_law_1979 rfl ?_
    refine ne_callSFW (is := [1, 2, 3, 4, 5, 6, 7, 8, 9, 10, 11, 12, 20, 21]) X nw_Tg (me_L_number l hl c q t b k n h x y T hI (by omega) u (.ref 13) (Or.inr rfl) _ (by omega)) nw_yL_number nw_mL_292 nw_sL_number dL_law_1980 rfl rfl (by decide) (by decide) (by first | decide | omega) (by first | decide | omega) (Nat.le_of_ble_eq_true rfl) rfl rfl rfl (Nat.le_of_ble_eq_true rfl) (lw_pt1 (s := .ref 13)) ?_ ?_
    rotate_left
    · rintro E9 w9 h9; exact h9.elim
    rintro v1980 w1980 ⟨x1, y1, u1, s1, rfl, hI1, hs1, z1980, rfl⟩
    rcases hs1 with rfl | rfl
    · refine ne_take 22 ?_
      refine ne_ws lw_tkR ?_
      refine ne_istore X dL_law_1983 (by decide) ?_
      refine ne_aload_n X dL_law_1985 rfl ?_
      refine ne_aload_n X dL_law_1986 rfl ?_
      refine ne_iload X dL_law_1987 rfl ?_
      refine ne_iconst X dL_law_1989 ?_
      refine ne_iadd X dL_law_1990 ?_
      refine ne_sld X hX hbl hbA hb0 (by decide) (by omega) dL_law_1991 (fun z1991 e1991 l1991 r1991 => ?_)
      have y1991 : z1978 = z1991 := e1978.trans e1991.symm
      subst y1991
      refine ne_callVF (is := [13, 14, 15, 16, 17, 18, 19]) X nw_Tg (me_X3_number_ l hl c q t b k h mv9 T hM (by omega) _ (by omega)) nw_yX3_number_ nw_mL_294 nw_iX3_number_ nw_eX3_number_ (ci := 5) rfl rfl rfl dL_law_1992 rfl rfl (by decide) (by decide) (by first | decide | omega) (by first | decide | omega) (Nat.le_of_ble_eq_true rfl) rfl rfl rfl (Nat.le_of_ble_eq_true rfl) lw_pt2 ?_ ?_
      rotate_left
      · rintro E9 w9 h9; exact h9.elim
      rintro v1992 w1992 ⟨⟨mv91, rfl, hM1⟩, rfl⟩
      refine ne_ws lw_mg4 ?_
      refine ne_astore X dL_law_1995 (by decide) ?_
      refine ne_ll (L' := [some (.ref 0), some (.ref 1), some (.ref 13), some (.ref 20), some (ni _), some (ni _), some (.ref 22)]) rfl ?_
      refine ne_goto (tgt := 2324) X dL_law_1997 rfl ?_
      refine ne_lnone 5 (ne_lnone 6 ?_)
      refine ne_ll (L' := [some (.ref 0), some (.ref 1), some (.ref 13), some (.ref 20), some (ni i), none, none]) rfl ?_
      refine ne_take 22 ?_
      refine ne_ws lw_tk2 ?_
      refine ne_less (C' := C - 500) (S' := S - 3500) (by omega) (by omega) ?_
      exact kk _ _ _ _ _ _ _ _ _ _ _ _ hI1 hM1 hP (Or.inr rfl)
    · refine ne_viewb [0, 1, 2, 3, 4, 5, 6, 7, 8, 9, 10, 11, 12, 13, 14, 15, 16, 17, 18, 19, 20, 22] (ws' := lW c q t b k n h x1 y1 c q t b k h mv9 (nl u1) (.ref 21)) (L' := [some (.ref 0), some (.ref 1), some (.ref 13), some (.ref 20), some (ni i), none, none]) (st' := [ni z1980]) lw_vw (by decide) lw_vl rfl rfl rfl ?_
      refine ne_istore X dL_law_1983 (by decide) ?_
      refine ne_aload_n X dL_law_1985 rfl ?_
      refine ne_aload_n X dL_law_1986 rfl ?_
      refine ne_iload X dL_law_1987 rfl ?_
      refine ne_iconst X dL_law_1989 ?_
      refine ne_iadd X dL_law_1990 ?_
      refine ne_sld X hX hbl hbA hb0 (by decide) (by omega) dL_law_1991 (fun z1991 e1991 l1991 r1991 => ?_)
      have y1991 : z1978 = z1991 := e1978.trans e1991.symm
      subst y1991
      refine ne_callVF (is := [13, 14, 15, 16, 17, 18, 19]) X nw_Tg (me_X3_number_ l hl c q t b k h mv9 T hM (by omega) _ (by omega)) nw_yX3_number_ nw_mL_294 nw_iX3_number_ nw_eX3_number_ (ci := 5) rfl rfl rfl dL_law_1992 rfl rfl (by decide) (by decide) (by first | decide | omega) (by first | decide | omega) (Nat.le_of_ble_eq_true rfl) rfl rfl rfl (Nat.le_of_ble_eq_true rfl) lw_pt2 ?_ ?_
      rotate_left
      · rintro E9 w9 h9; exact h9.elim
      rintro v1992 w1992 ⟨⟨mv91, rfl, hM1⟩, rfl⟩
      refine ne_ws lw_mg4 ?_
      refine ne_astore X dL_law_1995 (by decide) ?_
      refine ne_ll (L' := [some (.ref 0), some (.ref 1), some (.ref 13), some (.ref 20), some (ni _), some (ni _), some (.ref 22)]) rfl ?_
      refine ne_goto (tgt := 2324) X dL_law_1997 rfl ?_
      refine ne_lnone 5 (ne_lnone 6 ?_)
      refine ne_ll (L' := [some (.ref 0), some (.ref 1), some (.ref 13), some (.ref 20), some (ni i), none, none]) rfl ?_
      refine ne_take 22 ?_
      refine ne_ws lw_tk2 ?_
      refine ne_less (C' := C - 500) (S' := S - 3500) (by omega) (by omega) ?_
      exact kk _ _ _ _ _ _ _ _ _ _ _ _ hI1 hM1 hP (Or.inr rfl)
set_option maxRecDepth 100000 in
set_option maxHeartbeats 4000000 in
theorem lc_38 (hl : l.stackTraces = false) (X : ne_F nw_cl D ct A p l room_1 s9 m args meth c9 RL cL_law 7 nw_T 20 1000 600128 7301098) (hX : va_X b9 N9 xs s9 s9.heap) (hbl : b9 < s9.heap.size) (hbA : ¬ A b9) (hb0 : ad0 0 = b9) (i T : Int) (hi : 0 ≤ i ∧ i + 6 ≤ N9 ∧ N9 ≤ 384) (hT : 0 ≤ T ∧ T ≤ 100) (c q t b k n h x y  : Nat → Int) (mv9 u : Int) (sv : Value) (hI : cI c q t b k n h x y T) (hM : mI c q t b k h mv9 T) (hP : ∀ j : Nat, ne_per (t j) (b j) (n j)) (hs : sv = .null ∨ sv = .ref 21) (C S : Nat) (hC : 500 ≤ C) (hS : 3500 ≤ S) (kk : ∀ (c q t b k n h x y  : Nat → Int) (mv9 u : Int) (sv : Value), cI c q t b k n h x y (T + 1) → mI c q t b k h mv9 (T + 1) → (∀ j : Nat, ne_per (t j) (b j) (n j)) → (sv = .null ∨ sv = .ref 21) → ne_G nw_cl D ct A 1 ad0 p l e room_1 s9 m args below meth c9 Q9 7 600128 7301098 (C - 500) (S - 3500) 2324 [some (.ref 0), some (.ref 1), some (.ref 13), some (.ref 20), some (ni i), none, none] [] (lW c q t b k n h x y c q t b k h mv9 (nl u) sv)) : ne_G nw_cl D ct A 1 ad0 p l e room_1 s9 m args below meth c9 Q9 7 600128 7301098 C S 2000 [some (.ref 0), some (.ref 1), some (.ref 13), some (.ref 20), some (ni i), none, none] [] (lW c q t b k n h x y c q t b k h mv9 (nl u) sv) := by
  rcases hs with rfl | rfl
  · refine ne_aload_n X dL_law_2000 rfl ?_
    refine ne_aload_n X dL_law_2001 rfl ?_
    refine ne_iload X dL_law_2002 rfl ?_
    refine ne_iconst X dL_law_2004 ?_
    refine ne_iadd X dL_law_2005 ?_
    refine ne_sld X hX hbl hbA hb0 (by decide) (by omega) dL_law_2006 (fun z2006 e2006 l2006 r2006 => ?_)
    refine ne_aload_n X dL_law_2007 rfl ?_
    refine ne_callSFW (is := [1, 2, 3, 4, 5, 6, 7, 8, 9, 10, 11, 12, 20, 21]) X nw_Tg (me_L_product l hl c q t b k n h x y T hI (by omega) u .null (Or.inl rfl) _ (by omega)) nw_yL_product nw_mL_295 nw_sL_product dL_law_2008 rfl rfl (by decide) (by decide) (by first | decide | omega) (by first | decide | omega) (Nat.le_of_ble_eq_true rfl) rfl rfl rfl (Nat.le_of_ble_eq_true rfl) (lw_pt1 (s := .null)) ?_ ?_
    rotate_left
    · rintro E9 w9 h9; exact h9.elim
    rintro v2008 w2008 ⟨x1, y1, u1, s1, rfl, hI1, hs1, z2008, rfl⟩
    rcases hs1 with rfl | rfl
    · refine ne_take 22 ?_
      refine ne_ws lw_tkN ?_
      refine ne_istore X dL_law_2011 (by decide) ?_
      refine ne_aload_n X dL_law_2013 rfl ?_
      refine ne_aload_n X dL_law_2014 rfl ?_
      refine ne_iload X dL_law_2015 rfl ?_
      refine ne_iconst X dL_law_2017 ?_
      refine ne_iadd X dL_law_2018 ?_
      refine ne_sld X hX hbl hbA hb0 (by decide) (by omega) dL_law_2019 (fun z2019 e2019 l2019 r2019 => ?_)
      have y2019 : z2006 = z2019 := e2006.trans e2019.symm
      subst y2019
      refine ne_callVF (is := [13, 14, 15, 16, 17, 18, 19]) X nw_Tg (me_X3_product l hl c q t b k h mv9 T hM (by omega) _ (by omega)) nw_yX3_product nw_mL_297 nw_iX3_product nw_eX3_product (ci := 5) rfl rfl rfl dL_law_2020 rfl rfl (by decide) (by decide) (by first | decide | omega) (by first | decide | omega) (Nat.le_of_ble_eq_true rfl) rfl rfl rfl (Nat.le_of_ble_eq_true rfl) lw_pt2 ?_ ?_
      rotate_left
      · rintro E9 w9 h9; exact h9.elim
      rintro v2020 w2020 ⟨⟨mv91, rfl, hM1⟩, rfl⟩
      refine ne_ws lw_mg4 ?_
      refine ne_astore X dL_law_2023 (by decide) ?_
      refine ne_ll (L' := [some (.ref 0), some (.ref 1), some (.ref 13), some (.ref 20), some (ni _), some (ni _), some (.ref 22)]) rfl ?_
      refine ne_goto (tgt := 2324) X dL_law_2025 rfl ?_
      refine ne_lnone 5 (ne_lnone 6 ?_)
      refine ne_ll (L' := [some (.ref 0), some (.ref 1), some (.ref 13), some (.ref 20), some (ni i), none, none]) rfl ?_
      refine ne_take 22 ?_
      refine ne_ws lw_tk2 ?_
      refine ne_less (C' := C - 500) (S' := S - 3500) (by omega) (by omega) ?_
      exact kk _ _ _ _ _ _ _ _ _ _ _ _ hI1 hM1 hP (Or.inl rfl)
    · refine ne_viewb [0, 1, 2, 3, 4, 5, 6, 7, 8, 9, 10, 11, 12, 13, 14, 15, 16, 17, 18, 19, 20, 22] (ws' := lW c q t b k n h x1 y1 c q t b k h mv9 (nl u1) (.ref 21)) (L' := [some (.ref 0), some (.ref 1), some (.ref 13), some (.ref 20), some (ni i), none, none]) (st' := [ni z2008]) lw_vw (by decide) lw_vl rfl rfl rfl ?_
      refine ne_istore X dL_law_2011 (by decide) ?_
      refine ne_aload_n X dL_law_2013 rfl ?_
      refine ne_aload_n X dL_law_2014 rfl ?_
      refine ne_iload X dL_law_2015 rfl ?_
      refine ne_iconst X dL_law_2017 ?_
      refine ne_iadd X dL_law_2018 ?_
      refine ne_sld X hX hbl hbA hb0 (by decide) (by omega) dL_law_2019 (fun z2019 e2019 l2019 r2019 => ?_)
      have y2019 : z2006 = z2019 := e2006.trans e2019.symm
      subst y2019
      refine ne_callVF (is := [13, 14, 15, 16, 17, 18, 19]) X nw_Tg (me_X3_product l hl c q t b k h mv9 T hM (by omega) _ (by omega)) nw_yX3_product nw_mL_297 nw_iX3_product nw_eX3_product (ci := 5) rfl rfl rfl dL_law_2020 rfl rfl (by decide) (by decide) (by first | decide | omega) (by first | decide | omega) (Nat.le_of_ble_eq_true rfl) rfl rfl rfl (Nat.le_of_ble_eq_true rfl) lw_pt2 ?_ ?_
      rotate_left
      · rintro E9 w9 h9; exact h9.elim
      rintro v2020 w2020 ⟨⟨mv91, rfl, hM1⟩, rfl⟩
      refine ne_ws lw_mg4 ?_
      refine ne_astore X dL_law_2023 (by decide) ?_
      refine ne_ll (L' := [some (.ref 0), some (.ref 1), some (.ref 13), some (.ref 20), some (ni _), some (ni _), some (.ref 22)]) rfl ?_
      refine ne_goto (tgt := 2324) X dL_law_2025 rfl ?_
      refine ne_lnone 5 (ne_lnone 6 ?_)
      refine ne_ll (L' := [some (.ref 0), some (.ref 1), some (.ref 13), some (.ref 20), some (ni i), none, none]) rfl ?_
      refine ne_take 22 ?_
      refine ne_ws lw_tk2 ?_
      refine ne_less (C' := C - 500) (S' := S - 3500) (by omega) (by omega) ?_
      exact kk _ _ _ _ _ _ _ _ _ _ _ _ hI1 hM1 hP (Or.inr rfl)
  · refine ne_aload_n X dL_law_2000 rfl ?_
    refine ne_aload_n X dL_law_2001 rfl ?_
    refine ne_iload X dL_law_2002 rfl ?_
    refine ne_iconst X dL_law_2004 ?_
    refine ne_iadd X dL_law_2005 ?_
    refine ne_sld X hX hbl hbA hb0 (by decide) (by omega) dL_law_2006 (fun z2006 e2006 l2006 r2006 => ?_)
    refine ne_aload_n X dL_law_2007 rfl ?_
    refine ne_callSFW (is := [1, 2, 3, 4, 5, 6, 7, 8, 9, 10, 11, 12, 20, 21]) X nw_Tg (me_L_product l hl c q t b k n h x y T hI (by omega) u (.ref 13) (Or.inr rfl) _ (by omega)) nw_yL_product nw_mL_295 nw_sL_product dL_law_2008 rfl rfl (by decide) (by decide) (by first | decide | omega) (by first | decide | omega) (Nat.le_of_ble_eq_true rfl) rfl rfl rfl (Nat.le_of_ble_eq_true rfl) (lw_pt1 (s := .ref 13)) ?_ ?_
    rotate_left
    · rintro E9 w9 h9; exact h9.elim
    rintro v2008 w2008 ⟨x1, y1, u1, s1, rfl, hI1, hs1, z2008, rfl⟩
    rcases hs1 with rfl | rfl
    · refine ne_take 22 ?_
      refine ne_ws lw_tkR ?_
      refine ne_istore X dL_law_2011 (by decide) ?_
      refine ne_aload_n X dL_law_2013 rfl ?_
      refine ne_aload_n X dL_law_2014 rfl ?_
      refine ne_iload X dL_law_2015 rfl ?_
      refine ne_iconst X dL_law_2017 ?_
      refine ne_iadd X dL_law_2018 ?_
      refine ne_sld X hX hbl hbA hb0 (by decide) (by omega) dL_law_2019 (fun z2019 e2019 l2019 r2019 => ?_)
      have y2019 : z2006 = z2019 := e2006.trans e2019.symm
      subst y2019
      refine ne_callVF (is := [13, 14, 15, 16, 17, 18, 19]) X nw_Tg (me_X3_product l hl c q t b k h mv9 T hM (by omega) _ (by omega)) nw_yX3_product nw_mL_297 nw_iX3_product nw_eX3_product (ci := 5) rfl rfl rfl dL_law_2020 rfl rfl (by decide) (by decide) (by first | decide | omega) (by first | decide | omega) (Nat.le_of_ble_eq_true rfl) rfl rfl rfl (Nat.le_of_ble_eq_true rfl) lw_pt2 ?_ ?_
      rotate_left
      · rintro E9 w9 h9; exact h9.elim
      rintro v2020 w2020 ⟨⟨mv91, rfl, hM1⟩, rfl⟩
      refine ne_ws lw_mg4 ?_
      refine ne_astore X dL_law_2023 (by decide) ?_
      refine ne_ll (L' := [some (.ref 0), some (.ref 1), some (.ref 13), some (.ref 20), some (ni _), some (ni _), some (.ref 22)]) rfl ?_
      refine ne_goto (tgt := 2324) X dL_law_2025 rfl ?_
      refine ne_lnone 5 (ne_lnone 6 ?_)
      refine ne_ll (L' := [some (.ref 0), some (.ref 1), some (.ref 13), some (.ref 20), some (ni i), none, none]) rfl ?_
      refine ne_take 22 ?_
      refine ne_ws lw_tk2 ?_
      refine ne_less (C' := C - 500) (S' := S - 3500) (by omega) (by omega) ?_
      exact kk _ _ _ _ _ _ _ _ _ _ _ _ hI1 hM1 hP (Or.inr rfl)
    · refine ne_viewb [0, 1, 2, 3, 4, 5, 6, 7, 8, 9, 10, 11, 12, 13, 14, 15, 16, 17, 18, 19, 20, 22] (ws' := lW c q t b k n h x1 y1 c q t b k h mv9 (nl u1) (.ref 21)) (L' := [some (.ref 0), some (.ref 1), some (.ref 13), some (.ref 20), some (ni i), none, none]) (st' := [ni z2008]) lw_vw (by decide) lw_vl rfl rfl rfl ?_
      refine ne_istore X dL_law_2011 (by decide) ?_
      refine ne_aload_n X dL_law_2013 rfl ?_
      refine ne_aload_n X dL_law_2014 rfl ?_
      refine ne_iload X dL_law_2015 rfl ?_
      refine ne_iconst X dL_law_2017 ?_
      refine ne_iadd X dL_law_2018 ?_
      refine ne_sld X hX hbl hbA hb0 (by decide) (by omega) dL_law_2019 (fun z2019 e2019 l2019 r2019 => ?_)
      have y2019 : z2006 = z2019 := e2006.trans e2019.symm
      subst y2019
      refine ne_callVF (is := [13, 14, 15, 16, 17, 18, 19]) X nw_Tg (me_X3_product l hl c q t b k h mv9 T hM (by omega) _ (by omega)) nw_yX3_product nw_mL_297 nw_iX3_product nw_eX3_product (ci := 5) rfl rfl rfl dL_law_2020 rfl rfl (by decide) (by decide) (by first | decide | omega) (by first | decide | omega) (Nat.le_of_ble_eq_true rfl) rfl rfl rfl (Nat.le_of_ble_eq_true rfl) lw_pt2 ?_ ?_
      rotate_left
      · rintro E9 w9 h9; exact h9.elim
      rintro v2020 w2020 ⟨⟨mv91, rfl, hM1⟩, rfl⟩
      refine ne_ws lw_mg4 ?_
      refine ne_astore X dL_law_2023 (by decide) ?_
      refine ne_ll (L' := [some (.ref 0), some (.ref 1), some (.ref 13), some (.ref 20), some (ni _), some (ni _), some (.ref 22)]) rfl ?_
      refine ne_goto (tgt := 2324) X dL_law_2025 rfl ?_
      refine ne_lnone 5 (ne_lnone 6 ?_)
      refine ne_ll (L' := [some (.ref 0), some (.ref 1), some (.ref 13), some (.ref 20), some (ni i), none, none]) rfl ?_
      refine ne_take 22 ?_
      refine ne_ws lw_tk2 ?_
      refine ne_less (C' := C - 500) (S' := S - 3500) (by omega) (by omega) ?_
      exact kk _ _ _ _ _ _ _ _ _ _ _ _ hI1 hM1 hP (Or.inr rfl)
set_option maxRecDepth 100000 in
set_option maxHeartbeats 4000000 in
theorem lc_39 (hl : l.stackTraces = false) (X : ne_F nw_cl D ct A p l room_1 s9 m args meth c9 RL cL_law 7 nw_T 20 1000 600128 7301098) (hX : va_X b9 N9 xs s9 s9.heap) (hbl : b9 < s9.heap.size) (hbA : ¬ A b9) (hb0 : ad0 0 = b9) (i T : Int) (hi : 0 ≤ i ∧ i + 6 ≤ N9 ∧ N9 ≤ 384) (hT : 0 ≤ T ∧ T ≤ 100) (c q t b k n h x y  : Nat → Int) (mv9 u : Int) (sv : Value) (hI : cI c q t b k n h x y T) (hM : mI c q t b k h mv9 T) (hP : ∀ j : Nat, ne_per (t j) (b j) (n j)) (hs : sv = .null ∨ sv = .ref 21) (C S : Nat) (hC : 500 ≤ C) (hS : 3500 ≤ S) (kk : ∀ (c q t b k n h x y  : Nat → Int) (mv9 u : Int) (sv : Value), cI c q t b k n h x y (T + 1) → mI c q t b k h mv9 (T + 1) → (∀ j : Nat, ne_per (t j) (b j) (n j)) → (sv = .null ∨ sv = .ref 21) → ne_G nw_cl D ct A 1 ad0 p l e room_1 s9 m args below meth c9 Q9 7 600128 7301098 (C - 500) (S - 3500) 2324 [some (.ref 0), some (.ref 1), some (.ref 13), some (.ref 20), some (ni i), none, none] [] (lW c q t b k n h x y c q t b k h mv9 (nl u) sv)) : ne_G nw_cl D ct A 1 ad0 p l e room_1 s9 m args below meth c9 Q9 7 600128 7301098 C S 2028 [some (.ref 0), some (.ref 1), some (.ref 13), some (.ref 20), some (ni i), none, none] [] (lW c q t b k n h x y c q t b k h mv9 (nl u) sv) := by
  rcases hs with rfl | rfl
  · refine ne_aload_n X dL_law_2028 rfl ?_
    refine ne_aload_n X dL_law_2029 rfl ?_
    refine ne_iload X dL_law_2030 rfl ?_
    refine ne_iconst X dL_law_2032 ?_
    refine ne_iadd X dL_law_2033 ?_
    refine ne_sld X hX hbl hbA hb0 (by decide) (by omega) dL_law_2034 (fun z2034 e2034 l2034 r2034 => ?_)
    refine ne_aload_n X dL_law_2035 rfl ?_
    refine ne_iload X dL_law_2036 rfl ?_
    refine ne_iconst X dL_law_2038 ?_
    refine ne_iadd X dL_law_2039 ?_
    refine ne_sld X hX hbl hbA hb0 (by decide) (by omega) dL_law_2040 (fun z2040 e2040 l2040 r2040 => ?_)
    refine ne_aload_n X dL_law_2041 rfl ?_
    refine ne_callSFW (is := [1, 2, 3, 4, 5, 6, 7, 8, 9, 10, 11, 12, 20, 21]) X nw_Tg (me_L_partSum l hl c q t b k n h x y T hI (by omega) u .null (Or.inl rfl) _ _ (by omega) (by omega)) nw_yL_partSum nw_mL_298 nw_sL_partSum dL_law_2042 rfl rfl (by decide) (by decide) (by first | decide | omega) (by first | decide | omega) (Nat.le_of_ble_eq_true rfl) rfl rfl rfl (Nat.le_of_ble_eq_true rfl) (lw_pt1 (s := .null)) ?_ ?_
    rotate_left
    · rintro E9 w9 h9; exact h9.elim
    rintro v2042 w2042 ⟨x1, y1, u1, s1, rfl, hI1, hs1, z2042, rfl⟩
    rcases hs1 with rfl | rfl
    · refine ne_take 22 ?_
      refine ne_ws lw_tkN ?_
      refine ne_istore X dL_law_2045 (by decide) ?_
      refine ne_aload_n X dL_law_2047 rfl ?_
      refine ne_aload_n X dL_law_2048 rfl ?_
      refine ne_iload X dL_law_2049 rfl ?_
      refine ne_iconst X dL_law_2051 ?_
      refine ne_iadd X dL_law_2052 ?_
      refine ne_sld X hX hbl hbA hb0 (by decide) (by omega) dL_law_2053 (fun z2053 e2053 l2053 r2053 => ?_)
      have y2053 : z2034 = z2053 := e2034.trans e2053.symm
      subst y2053
      refine ne_aload_n X dL_law_2054 rfl ?_
      refine ne_iload X dL_law_2055 rfl ?_
      refine ne_iconst X dL_law_2057 ?_
      refine ne_iadd X dL_law_2058 ?_
      refine ne_sld X hX hbl hbA hb0 (by decide) (by omega) dL_law_2059 (fun z2059 e2059 l2059 r2059 => ?_)
      have y2059 : z2040 = z2059 := e2040.trans e2059.symm
      subst y2059
      refine ne_callVF (is := [13, 14, 15, 16, 17, 18, 19]) X nw_Tg (me_X3_partSum l hl c q t b k h mv9 T hM (by omega) _ _ (by omega) (by omega)) nw_yX3_partSum nw_mL_300 nw_iX3_partSum nw_eX3_partSum (ci := 5) rfl rfl rfl dL_law_2060 rfl rfl (by decide) (by decide) (by first | decide | omega) (by first | decide | omega) (Nat.le_of_ble_eq_true rfl) rfl rfl rfl (Nat.le_of_ble_eq_true rfl) lw_pt2 ?_ ?_
      rotate_left
      · rintro E9 w9 h9; exact h9.elim
      rintro v2060 w2060 ⟨⟨mv91, rfl, hM1⟩, rfl⟩
      refine ne_ws lw_mg4 ?_
      refine ne_astore X dL_law_2063 (by decide) ?_
      refine ne_ll (L' := [some (.ref 0), some (.ref 1), some (.ref 13), some (.ref 20), some (ni _), some (ni _), some (.ref 22)]) rfl ?_
      refine ne_goto (tgt := 2324) X dL_law_2065 rfl ?_
      refine ne_lnone 5 (ne_lnone 6 ?_)
      refine ne_ll (L' := [some (.ref 0), some (.ref 1), some (.ref 13), some (.ref 20), some (ni i), none, none]) rfl ?_
      refine ne_take 22 ?_
      refine ne_ws lw_tk2 ?_
      refine ne_less (C' := C - 500) (S' := S - 3500) (by omega) (by omega) ?_
      exact kk _ _ _ _ _ _ _ _ _ _ _ _ hI1 hM1 hP (Or.inl rfl)
    · refine ne_viewb [0, 1, 2, 3, 4, 5, 6, 7, 8, 9, 10, 11, 12, 13, 14, 15, 16, 17, 18, 19, 20, 22] (ws' := lW c q t b k n h x1 y1 c q t b k h mv9 (nl u1) (.ref 21)) (L' := [some (.ref 0), some (.ref 1), some (.ref 13), some (.ref 20), some (ni i), none, none]) (st' := [ni z2042]) lw_vw (by decide) lw_vl rfl rfl rfl ?_
      refine ne_istore X dL_law_2045 (by decide) ?_
      refine ne_aload_n X dL_law_2047 rfl ?_
      refine ne_aload_n X dL_law_2048 rfl ?_
      refine ne_iload X dL_law_2049 rfl ?_
      refine ne_iconst X dL_law_2051 ?_
      refine ne_iadd X dL_law_2052 ?_
      refine ne_sld X hX hbl hbA hb0 (by decide) (by omega) dL_law_2053 (fun z2053 e2053 l2053 r2053 => ?_)
      have y2053 : z2034 = z2053 := e2034.trans e2053.symm
      subst y2053
      refine ne_aload_n X dL_law_2054 rfl ?_
      refine ne_iload X dL_law_2055 rfl ?_
      refine ne_iconst X dL_law_2057 ?_
      refine ne_iadd X dL_law_2058 ?_
      refine ne_sld X hX hbl hbA hb0 (by decide) (by omega) dL_law_2059 (fun z2059 e2059 l2059 r2059 => ?_)
      have y2059 : z2040 = z2059 := e2040.trans e2059.symm
      subst y2059
      refine ne_callVF (is := [13, 14, 15, 16, 17, 18, 19]) X nw_Tg (me_X3_partSum l hl c q t b k h mv9 T hM (by omega) _ _ (by omega) (by omega)) nw_yX3_partSum nw_mL_300 nw_iX3_partSum nw_eX3_partSum (ci := 5) rfl rfl rfl dL_law_2060 rfl rfl (by decide) (by decide) (by first | decide | omega) (by first | decide | omega) (Nat.le_of_ble_eq_true rfl) rfl rfl rfl (Nat.le_of_ble_eq_true rfl) lw_pt2 ?_ ?_
      rotate_left
      · rintro E9 w9 h9; exact h9.elim
      rintro v2060 w2060 ⟨⟨mv91, rfl, hM1⟩, rfl⟩
      refine ne_ws lw_mg4 ?_
      refine ne_astore X dL_law_2063 (by decide) ?_
      refine ne_ll (L' := [some (.ref 0), some (.ref 1), some (.ref 13), some (.ref 20), some (ni _), some (ni _), some (.ref 22)]) rfl ?_
      refine ne_goto (tgt := 2324) X dL_law_2065 rfl ?_
      refine ne_lnone 5 (ne_lnone 6 ?_)
      refine ne_ll (L' := [some (.ref 0), some (.ref 1), some (.ref 13), some (.ref 20), some (ni i), none, none]) rfl ?_
      refine ne_take 22 ?_
      refine ne_ws lw_tk2 ?_
      refine ne_less (C' := C - 500) (S' := S - 3500) (by omega) (by omega) ?_
      exact kk _ _ _ _ _ _ _ _ _ _ _ _ hI1 hM1 hP (Or.inr rfl)
  · refine ne_aload_n X dL_law_2028 rfl ?_
    refine ne_aload_n X dL_law_2029 rfl ?_
    refine ne_iload X dL_law_2030 rfl ?_
    refine ne_iconst X dL_law_2032 ?_
    refine ne_iadd X dL_law_2033 ?_
    refine ne_sld X hX hbl hbA hb0 (by decide) (by omega) dL_law_2034 (fun z2034 e2034 l2034 r2034 => ?_)
    refine ne_aload_n X dL_law_2035 rfl ?_
    refine ne_iload X dL_law_2036 rfl ?_
    refine ne_iconst X dL_law_2038 ?_
    refine ne_iadd X dL_law_2039 ?_
    refine ne_sld X hX hbl hbA hb0 (by decide) (by omega) dL_law_2040 (fun z2040 e2040 l2040 r2040 => ?_)
    refine ne_aload_n X dL_law_2041 rfl ?_
    refine ne_callSFW (is := [1, 2, 3, 4, 5, 6, 7, 8, 9, 10, 11, 12, 20, 21]) X nw_Tg (me_L_partSum l hl c q t b k n h x y T hI (by omega) u (.ref 13) (Or.inr rfl) _ _ (by omega) (by omega)) nw_yL_partSum nw_mL_298 nw_sL_partSum dL_law_2042 rfl rfl (by decide) (by decide) (by first | decide | omega) (by first | decide | omega) (Nat.le_of_ble_eq_true rfl) rfl rfl rfl (Nat.le_of_ble_eq_true rfl) (lw_pt1 (s := .ref 13)) ?_ ?_
    rotate_left
    · rintro E9 w9 h9; exact h9.elim
    rintro v2042 w2042 ⟨x1, y1, u1, s1, rfl, hI1, hs1, z2042, rfl⟩
    rcases hs1 with rfl | rfl
    · refine ne_take 22 ?_
      refine ne_ws lw_tkR ?_
      refine ne_istore X dL_law_2045 (by decide) ?_
      refine ne_aload_n X dL_law_2047 rfl ?_
      refine ne_aload_n X dL_law_2048 rfl ?_
      refine ne_iload X dL_law_2049 rfl ?_
      refine ne_iconst X dL_law_2051 ?_
      refine ne_iadd X dL_law_2052 ?_
      refine ne_sld X hX hbl hbA hb0 (by decide) (by omega) dL_law_2053 (fun z2053 e2053 l2053 r2053 => ?_)
      have y2053 : z2034 = z2053 := e2034.trans e2053.symm
      subst y2053
      refine ne_aload_n X dL_law_2054 rfl ?_
      refine ne_iload X dL_law_2055 rfl ?_
      refine ne_iconst X dL_law_2057 ?_
      refine ne_iadd X dL_law_2058 ?_
      refine ne_sld X hX hbl hbA hb0 (by decide) (by omega) dL_law_2059 (fun z2059 e2059 l2059 r2059 => ?_)
      have y2059 : z2040 = z2059 := e2040.trans e2059.symm
      subst y2059
      refine ne_callVF (is := [13, 14, 15, 16, 17, 18, 19]) X nw_Tg (me_X3_partSum l hl c q t b k h mv9 T hM (by omega) _ _ (by omega) (by omega)) nw_yX3_partSum nw_mL_300 nw_iX3_partSum nw_eX3_partSum (ci := 5) rfl rfl rfl dL_law_2060 rfl rfl (by decide) (by decide) (by first | decide | omega) (by first | decide | omega) (Nat.le_of_ble_eq_true rfl) rfl rfl rfl (Nat.le_of_ble_eq_true rfl) lw_pt2 ?_ ?_
      rotate_left
      · rintro E9 w9 h9; exact h9.elim
      rintro v2060 w2060 ⟨⟨mv91, rfl, hM1⟩, rfl⟩
      refine ne_ws lw_mg4 ?_
      refine ne_astore X dL_law_2063 (by decide) ?_
      refine ne_ll (L' := [some (.ref 0), some (.ref 1), some (.ref 13), some (.ref 20), some (ni _), some (ni _), some (.ref 22)]) rfl ?_
      refine ne_goto (tgt := 2324) X dL_law_2065 rfl ?_
      refine ne_lnone 5 (ne_lnone 6 ?_)
      refine ne_ll (L' := [some (.ref 0), some (.ref 1), some (.ref 13), some (.ref 20), some (ni i), none, none]) rfl ?_
      refine ne_take 22 ?_
      refine ne_ws lw_tk2 ?_
      refine ne_less (C' := C - 500) (S' := S - 3500) (by omega) (by omega) ?_
      exact kk _ _ _ _ _ _ _ _ _ _ _ _ hI1 hM1 hP (Or.inr rfl)
    · refine ne_viewb [0, 1, 2, 3, 4, 5, 6, 7, 8, 9, 10, 11, 12, 13, 14, 15, 16, 17, 18, 19, 20, 22] (ws' := lW c q t b k n h x1 y1 c q t b k h mv9 (nl u1) (.ref 21)) (L' := [some (.ref 0), some (.ref 1), some (.ref 13), some (.ref 20), some (ni i), none, none]) (st' := [ni z2042]) lw_vw (by decide) lw_vl rfl rfl rfl ?_
      refine ne_istore X dL_law_2045 (by decide) ?_
      refine ne_aload_n X dL_law_2047 rfl ?_
      refine ne_aload_n X dL_law_2048 rfl ?_
      refine ne_iload X dL_law_2049 rfl ?_
      refine ne_iconst X dL_law_2051 ?_
      refine ne_iadd X dL_law_2052 ?_
      refine ne_sld X hX hbl hbA hb0 (by decide) (by omega) dL_law_2053 (fun z2053 e2053 l2053 r2053 => ?_)
      have y2053 : z2034 = z2053 := e2034.trans e2053.symm
      subst y2053
      refine ne_aload_n X dL_law_2054 rfl ?_
      refine ne_iload X dL_law_2055 rfl ?_
      refine ne_iconst X dL_law_2057 ?_
      refine ne_iadd X dL_law_2058 ?_
      refine ne_sld X hX hbl hbA hb0 (by decide) (by omega) dL_law_2059 (fun z2059 e2059 l2059 r2059 => ?_)
      have y2059 : z2040 = z2059 := e2040.trans e2059.symm
      subst y2059
      refine ne_callVF (is := [13, 14, 15, 16, 17, 18, 19]) X nw_Tg (me_X3_partSum l hl c q t b k h mv9 T hM (by omega) _ _ (by omega) (by omega)) nw_yX3_partSum nw_mL_300 nw_iX3_partSum nw_eX3_partSum (ci := 5) rfl rfl rfl dL_law_2060 rfl rfl (by decide) (by decide) (by first | decide | omega) (by first | decide | omega) (Nat.le_of_ble_eq_true rfl) rfl rfl rfl (Nat.le_of_ble_eq_true rfl) lw_pt2 ?_ ?_
      rotate_left
      · rintro E9 w9 h9; exact h9.elim
      rintro v2060 w2060 ⟨⟨mv91, rfl, hM1⟩, rfl⟩
      refine ne_ws lw_mg4 ?_
      refine ne_astore X dL_law_2063 (by decide) ?_
      refine ne_ll (L' := [some (.ref 0), some (.ref 1), some (.ref 13), some (.ref 20), some (ni _), some (ni _), some (.ref 22)]) rfl ?_
      refine ne_goto (tgt := 2324) X dL_law_2065 rfl ?_
      refine ne_lnone 5 (ne_lnone 6 ?_)
      refine ne_ll (L' := [some (.ref 0), some (.ref 1), some (.ref 13), some (.ref 20), some (ni i), none, none]) rfl ?_
      refine ne_take 22 ?_
      refine ne_ws lw_tk2 ?_
      refine ne_less (C' := C - 500) (S' := S - 3500) (by omega) (by omega) ?_
      exact kk _ _ _ _ _ _ _ _ _ _ _ _ hI1 hM1 hP (Or.inr rfl)
set_option maxRecDepth 100000 in
set_option maxHeartbeats 4000000 in
theorem lc_40 (hl : l.stackTraces = false) (X : ne_F nw_cl D ct A p l room_1 s9 m args meth c9 RL cL_law 7 nw_T 20 1000 600128 7301098) (hX : va_X b9 N9 xs s9 s9.heap) (hbl : b9 < s9.heap.size) (hbA : ¬ A b9) (hb0 : ad0 0 = b9) (i T : Int) (hi : 0 ≤ i ∧ i + 6 ≤ N9 ∧ N9 ≤ 384) (hT : 0 ≤ T ∧ T ≤ 100) (c q t b k n h x y  : Nat → Int) (mv9 u : Int) (sv : Value) (hI : cI c q t b k n h x y T) (hM : mI c q t b k h mv9 T) (hP : ∀ j : Nat, ne_per (t j) (b j) (n j)) (hs : sv = .null ∨ sv = .ref 21) (C S : Nat) (hC : 500 ≤ C) (hS : 3500 ≤ S) (kk : ∀ (c q t b k n h x y  : Nat → Int) (mv9 u : Int) (sv : Value), cI c q t b k n h x y (T + 1) → mI c q t b k h mv9 (T + 1) → (∀ j : Nat, ne_per (t j) (b j) (n j)) → (sv = .null ∨ sv = .ref 21) → ne_G nw_cl D ct A 1 ad0 p l e room_1 s9 m args below meth c9 Q9 7 600128 7301098 (C - 500) (S - 3500) 2324 [some (.ref 0), some (.ref 1), some (.ref 13), some (.ref 20), some (ni i), none, none] [] (lW c q t b k n h x y c q t b k h mv9 (nl u) sv)) : ne_G nw_cl D ct A 1 ad0 p l e room_1 s9 m args below meth c9 Q9 7 600128 7301098 C S 2068 [some (.ref 0), some (.ref 1), some (.ref 13), some (.ref 20), some (ni i), none, none] [] (lW c q t b k n h x y c q t b k h mv9 (nl u) sv) := by
  obtain ⟨s8, hs8, rfl⟩ : ∃ s8 : Value, (s8 = .null ∨ s8 = .ref 13) ∧ sv = ne_rn [1, 2, 3, 4, 5, 6, 7, 8, 9, 10, 11, 12, 20, 21] 22 s8 := by
    rcases hs with rfl | rfl
    · exact ⟨.null, Or.inl rfl, rfl⟩
    · exact ⟨.ref 13, Or.inr rfl, rfl⟩
  have hcw : ∀ (c q t b k n h x y mc9 mq9 mt9 mb9 mk9 mh9 : Nat → Int) (mv9 u : Int), ne_cw 22 (lW c q t b k n h x y mc9 mq9 mt9 mb9 mk9 mh9 mv9 (nl u) (ne_rn [1, 2, 3, 4, 5, 6, 7, 8, 9, 10, 11, 12, 20, 21] 22 s8)) = true := by
    intros
    rcases hs8 with rfl | rfl <;> rfl
  refine ne_aload_n X dL_law_2068 rfl ?_
  refine ne_aload_n X dL_law_2069 rfl ?_
  refine ne_iload X dL_law_2070 rfl ?_
  refine ne_iconst X dL_law_2072 ?_
  refine ne_iadd X dL_law_2073 ?_
  refine ne_sld X hX hbl hbA hb0 (by decide) (by omega) dL_law_2074 (fun z2074 e2074 l2074 r2074 => ?_)
  refine ne_aload_n X dL_law_2075 rfl ?_
  refine ne_iload X dL_law_2076 rfl ?_
  refine ne_iconst X dL_law_2078 ?_
  refine ne_iadd X dL_law_2079 ?_
  refine ne_sld X hX hbl hbA hb0 (by decide) (by omega) dL_law_2080 (fun z2080 e2080 l2080 r2080 => ?_)
  refine ne_aload_n X dL_law_2081 rfl ?_
  refine ne_callSFW (is := [1, 2, 3, 4, 5, 6, 7, 8, 9, 10, 11, 12, 20, 21]) X nw_Tg (me_L_nines l hl c q t b k n h x y T hI (by omega) u s8 hs8 _ _ (by omega) (by omega)) nw_yL_nines nw_mL_301 nw_sL_nines dL_law_2082 rfl rfl (by decide) (by decide) (by first | decide | omega) (by first | decide | omega) (Nat.le_of_ble_eq_true rfl) (hcw _ _ _ _ _ _ _ _ _ _ _ _ _ _ _ _ _) rfl rfl (Nat.le_of_ble_eq_true rfl) lw_pt1 ?_ ?_
  rotate_left
  · rintro E9 w9 h9; exact h9.elim
  rintro v2082 w2082 ⟨x1, y1, u1, rfl, hI1, z2082, rfl⟩
  refine ne_ws lw_mg1 ?_
  refine ne_istore X dL_law_2085 (by decide) ?_
  refine ne_aload_n X dL_law_2087 rfl ?_
  refine ne_aload_n X dL_law_2088 rfl ?_
  refine ne_iload X dL_law_2089 rfl ?_
  refine ne_iconst X dL_law_2091 ?_
  refine ne_iadd X dL_law_2092 ?_
  refine ne_sld X hX hbl hbA hb0 (by decide) (by omega) dL_law_2093 (fun z2093 e2093 l2093 r2093 => ?_)
  have y2093 : z2074 = z2093 := e2074.trans e2093.symm
  subst y2093
  refine ne_aload_n X dL_law_2094 rfl ?_
  refine ne_iload X dL_law_2095 rfl ?_
  refine ne_iconst X dL_law_2097 ?_
  refine ne_iadd X dL_law_2098 ?_
  refine ne_sld X hX hbl hbA hb0 (by decide) (by omega) dL_law_2099 (fun z2099 e2099 l2099 r2099 => ?_)
  have y2099 : z2080 = z2099 := e2080.trans e2099.symm
  subst y2099
  refine ne_callVF (is := [13, 14, 15, 16, 17, 18, 19]) X nw_Tg (me_X3_nines l hl c q t b k h mv9 T hM (by omega) _ _ (by omega) (by omega)) nw_yX3_nines nw_mL_303 nw_iX3_nines nw_eX3_nines (ci := 5) rfl rfl rfl dL_law_2100 rfl rfl (by decide) (by decide) (by first | decide | omega) (by first | decide | omega) (Nat.le_of_ble_eq_true rfl) (hcw _ _ _ _ _ _ _ _ _ _ _ _ _ _ _ _ _) rfl rfl (Nat.le_of_ble_eq_true rfl) lw_pt2 ?_ ?_
  rotate_left
  · rintro E9 w9 h9; exact h9.elim
  rintro v2100 w2100 ⟨⟨mv91, rfl, hM1⟩, z2100, rfl, g2100⟩
  refine ne_ws lw_mg2 ?_
  refine ne_istore X dL_law_2103 (by decide) ?_
  refine ne_ll (L' := [some (.ref 0), some (.ref 1), some (.ref 13), some (.ref 20), some (ni _), some (ni _), some (ni _)]) rfl ?_
  refine ne_goto (tgt := 2324) X dL_law_2105 rfl ?_
  refine ne_lnone 5 (ne_lnone 6 ?_)
  refine ne_ll (L' := [some (.ref 0), some (.ref 1), some (.ref 13), some (.ref 20), some (ni i), none, none]) rfl ?_
  refine ne_less (C' := C - 500) (S' := S - 3500) (by omega) (by omega) ?_
  exact kk _ _ _ _ _ _ _ _ _ _ _ _ hI1 hM1 hP hs
set_option maxRecDepth 100000 in
set_option maxHeartbeats 4000000 in
theorem lc_41 (hl : l.stackTraces = false) (X : ne_F nw_cl D ct A p l room_1 s9 m args meth c9 RL cL_law 7 nw_T 20 1000 600128 7301098) (hX : va_X b9 N9 xs s9 s9.heap) (hbl : b9 < s9.heap.size) (hbA : ¬ A b9) (hb0 : ad0 0 = b9) (i T : Int) (hi : 0 ≤ i ∧ i + 6 ≤ N9 ∧ N9 ≤ 384) (hT : 0 ≤ T ∧ T ≤ 100) (c q t b k n h x y  : Nat → Int) (mv9 u : Int) (sv : Value) (hI : cI c q t b k n h x y T) (hM : mI c q t b k h mv9 T) (hP : ∀ j : Nat, ne_per (t j) (b j) (n j)) (hs : sv = .null ∨ sv = .ref 21) (C S : Nat) (hC : 500 ≤ C) (hS : 3500 ≤ S) (kk : ∀ (c q t b k n h x y  : Nat → Int) (mv9 u : Int) (sv : Value), cI c q t b k n h x y (T + 1) → mI c q t b k h mv9 (T + 1) → (∀ j : Nat, ne_per (t j) (b j) (n j)) → (sv = .null ∨ sv = .ref 21) → ne_G nw_cl D ct A 1 ad0 p l e room_1 s9 m args below meth c9 Q9 7 600128 7301098 (C - 500) (S - 3500) 2324 [some (.ref 0), some (.ref 1), some (.ref 13), some (.ref 20), some (ni i), none, none] [] (lW c q t b k n h x y c q t b k h mv9 (nl u) sv)) : ne_G nw_cl D ct A 1 ad0 p l e room_1 s9 m args below meth c9 Q9 7 600128 7301098 C S 2108 [some (.ref 0), some (.ref 1), some (.ref 13), some (.ref 20), some (ni i), none, none] [] (lW c q t b k n h x y c q t b k h mv9 (nl u) sv) := by
  obtain ⟨s8, hs8, rfl⟩ : ∃ s8 : Value, (s8 = .null ∨ s8 = .ref 13) ∧ sv = ne_rn [1, 2, 3, 4, 5, 6, 7, 8, 9, 10, 11, 12, 20, 21] 22 s8 := by
    rcases hs with rfl | rfl
    · exact ⟨.null, Or.inl rfl, rfl⟩
    · exact ⟨.ref 13, Or.inr rfl, rfl⟩
  have hcw : ∀ (c q t b k n h x y mc9 mq9 mt9 mb9 mk9 mh9 : Nat → Int) (mv9 u : Int), ne_cw 22 (lW c q t b k n h x y mc9 mq9 mt9 mb9 mk9 mh9 mv9 (nl u) (ne_rn [1, 2, 3, 4, 5, 6, 7, 8, 9, 10, 11, 12, 20, 21] 22 s8)) = true := by
    intros
    rcases hs8 with rfl | rfl <;> rfl
  refine ne_aload_n X dL_law_2108 rfl ?_
  refine ne_aload_n X dL_law_2109 rfl ?_
  refine ne_iload X dL_law_2110 rfl ?_
  refine ne_iconst X dL_law_2112 ?_
  refine ne_iadd X dL_law_2113 ?_
  refine ne_sld X hX hbl hbA hb0 (by decide) (by omega) dL_law_2114 (fun z2114 e2114 l2114 r2114 => ?_)
  refine ne_aload_n X dL_law_2115 rfl ?_
  refine ne_iload X dL_law_2116 rfl ?_
  refine ne_iconst X dL_law_2118 ?_
  refine ne_iadd X dL_law_2119 ?_
  refine ne_sld X hX hbl hbA hb0 (by decide) (by omega) dL_law_2120 (fun z2120 e2120 l2120 r2120 => ?_)
  refine ne_aload_n X dL_law_2121 rfl ?_
  refine ne_callSFW (is := [1, 2, 3, 4, 5, 6, 7, 8, 9, 10, 11, 12, 20, 21]) X nw_Tg (me_L_placeOf l hl c q t b k n h x y T hI (by omega) u s8 hs8 _ _ (by omega) (by omega)) nw_yL_placeOf nw_mL_304 nw_sL_placeOf dL_law_2122 rfl rfl (by decide) (by decide) (by first | decide | omega) (by first | decide | omega) (Nat.le_of_ble_eq_true rfl) (hcw _ _ _ _ _ _ _ _ _ _ _ _ _ _ _ _ _) rfl rfl (Nat.le_of_ble_eq_true rfl) lw_pt1 ?_ ?_
  rotate_left
  · rintro E9 w9 h9; exact h9.elim
  rintro v2122 w2122 ⟨x1, y1, u1, rfl, hI1, z2122, rfl⟩
  refine ne_ws lw_mg1 ?_
  refine ne_istore X dL_law_2125 (by decide) ?_
  refine ne_aload_n X dL_law_2127 rfl ?_
  refine ne_aload_n X dL_law_2128 rfl ?_
  refine ne_iload X dL_law_2129 rfl ?_
  refine ne_iconst X dL_law_2131 ?_
  refine ne_iadd X dL_law_2132 ?_
  refine ne_sld X hX hbl hbA hb0 (by decide) (by omega) dL_law_2133 (fun z2133 e2133 l2133 r2133 => ?_)
  have y2133 : z2114 = z2133 := e2114.trans e2133.symm
  subst y2133
  refine ne_aload_n X dL_law_2134 rfl ?_
  refine ne_iload X dL_law_2135 rfl ?_
  refine ne_iconst X dL_law_2137 ?_
  refine ne_iadd X dL_law_2138 ?_
  refine ne_sld X hX hbl hbA hb0 (by decide) (by omega) dL_law_2139 (fun z2139 e2139 l2139 r2139 => ?_)
  have y2139 : z2120 = z2139 := e2120.trans e2139.symm
  subst y2139
  refine ne_callVF (is := [13, 14, 15, 16, 17, 18, 19]) X nw_Tg (me_X3_placeOf l hl c q t b k h mv9 T hM (by omega) _ _ (by omega) (by omega)) nw_yX3_placeOf nw_mL_306 nw_iX3_placeOf nw_eX3_placeOf (ci := 5) rfl rfl rfl dL_law_2140 rfl rfl (by decide) (by decide) (by first | decide | omega) (by first | decide | omega) (Nat.le_of_ble_eq_true rfl) (hcw _ _ _ _ _ _ _ _ _ _ _ _ _ _ _ _ _) rfl rfl (Nat.le_of_ble_eq_true rfl) lw_pt2 ?_ ?_
  rotate_left
  · rintro E9 w9 h9; exact h9.elim
  rintro v2140 w2140 ⟨⟨mv91, rfl, hM1⟩, z2140, rfl, g2140⟩
  refine ne_ws lw_mg2 ?_
  refine ne_istore X dL_law_2143 (by decide) ?_
  refine ne_ll (L' := [some (.ref 0), some (.ref 1), some (.ref 13), some (.ref 20), some (ni _), some (ni _), some (ni _)]) rfl ?_
  refine ne_goto (tgt := 2324) X dL_law_2145 rfl ?_
  refine ne_lnone 5 (ne_lnone 6 ?_)
  refine ne_ll (L' := [some (.ref 0), some (.ref 1), some (.ref 13), some (.ref 20), some (ni i), none, none]) rfl ?_
  refine ne_less (C' := C - 500) (S' := S - 3500) (by omega) (by omega) ?_
  exact kk _ _ _ _ _ _ _ _ _ _ _ _ hI1 hM1 hP hs
set_option maxRecDepth 100000 in
set_option maxHeartbeats 4000000 in
theorem lc_42 (hl : l.stackTraces = false) (X : ne_F nw_cl D ct A p l room_1 s9 m args meth c9 RL cL_law 7 nw_T 20 1000 600128 7301098) (hX : va_X b9 N9 xs s9 s9.heap) (hbl : b9 < s9.heap.size) (hbA : ¬ A b9) (hb0 : ad0 0 = b9) (i T : Int) (hi : 0 ≤ i ∧ i + 6 ≤ N9 ∧ N9 ≤ 384) (hT : 0 ≤ T ∧ T ≤ 100) (c q t b k n h x y  : Nat → Int) (mv9 u : Int) (sv : Value) (hI : cI c q t b k n h x y T) (hM : mI c q t b k h mv9 T) (hP : ∀ j : Nat, ne_per (t j) (b j) (n j)) (hs : sv = .null ∨ sv = .ref 21) (C S : Nat) (hC : 500 ≤ C) (hS : 3500 ≤ S) (kk : ∀ (c q t b k n h x y  : Nat → Int) (mv9 u : Int) (sv : Value), cI c q t b k n h x y (T + 1) → mI c q t b k h mv9 (T + 1) → (∀ j : Nat, ne_per (t j) (b j) (n j)) → (sv = .null ∨ sv = .ref 21) → ne_G nw_cl D ct A 1 ad0 p l e room_1 s9 m args below meth c9 Q9 7 600128 7301098 (C - 500) (S - 3500) 2324 [some (.ref 0), some (.ref 1), some (.ref 13), some (.ref 20), some (ni i), none, none] [] (lW c q t b k n h x y c q t b k h mv9 (nl u) sv)) : ne_G nw_cl D ct A 1 ad0 p l e room_1 s9 m args below meth c9 Q9 7 600128 7301098 C S 2148 [some (.ref 0), some (.ref 1), some (.ref 13), some (.ref 20), some (ni i), none, none] [] (lW c q t b k n h x y c q t b k h mv9 (nl u) sv) := by
  obtain ⟨s8, hs8, rfl⟩ : ∃ s8 : Value, (s8 = .null ∨ s8 = .ref 13) ∧ sv = ne_rn [1, 2, 3, 4, 5, 6, 7, 8, 9, 10, 11, 12, 20, 21] 22 s8 := by
    rcases hs with rfl | rfl
    · exact ⟨.null, Or.inl rfl, rfl⟩
    · exact ⟨.ref 13, Or.inr rfl, rfl⟩
  have hcw : ∀ (c q t b k n h x y mc9 mq9 mt9 mb9 mk9 mh9 : Nat → Int) (mv9 u : Int), ne_cw 22 (lW c q t b k n h x y mc9 mq9 mt9 mb9 mk9 mh9 mv9 (nl u) (ne_rn [1, 2, 3, 4, 5, 6, 7, 8, 9, 10, 11, 12, 20, 21] 22 s8)) = true := by
    intros
    rcases hs8 with rfl | rfl <;> rfl
  refine ne_aload_n X dL_law_2148 rfl ?_
  refine ne_aload_n X dL_law_2149 rfl ?_
  refine ne_iload X dL_law_2150 rfl ?_
  refine ne_iconst X dL_law_2152 ?_
  refine ne_iadd X dL_law_2153 ?_
  refine ne_sld X hX hbl hbA hb0 (by decide) (by omega) dL_law_2154 (fun z2154 e2154 l2154 r2154 => ?_)
  refine ne_aload_n X dL_law_2155 rfl ?_
  refine ne_iload X dL_law_2156 rfl ?_
  refine ne_iconst X dL_law_2158 ?_
  refine ne_iadd X dL_law_2159 ?_
  refine ne_sld X hX hbl hbA hb0 (by decide) (by omega) dL_law_2160 (fun z2160 e2160 l2160 r2160 => ?_)
  refine ne_aload_n X dL_law_2161 rfl ?_
  refine ne_callSFW (is := [1, 2, 3, 4, 5, 6, 7, 8, 9, 10, 11, 12, 20, 21]) X nw_Tg (me_L_wheelOrder l hl c q t b k n h x y T hI (by omega) u s8 hs8 _ _ (by omega) (by omega)) nw_yL_wheelOrder nw_mL_307 nw_sL_wheelOrder dL_law_2162 rfl rfl (by decide) (by decide) (by first | decide | omega) (by first | decide | omega) (Nat.le_of_ble_eq_true rfl) (hcw _ _ _ _ _ _ _ _ _ _ _ _ _ _ _ _ _) rfl rfl (Nat.le_of_ble_eq_true rfl) lw_pt1 ?_ ?_
  rotate_left
  · rintro E9 w9 h9; exact h9.elim
  rintro v2162 w2162 ⟨x1, y1, u1, rfl, hI1, z2162, rfl⟩
  refine ne_ws lw_mg1 ?_
  refine ne_istore X dL_law_2165 (by decide) ?_
  refine ne_aload_n X dL_law_2167 rfl ?_
  refine ne_aload_n X dL_law_2168 rfl ?_
  refine ne_iload X dL_law_2169 rfl ?_
  refine ne_iconst X dL_law_2171 ?_
  refine ne_iadd X dL_law_2172 ?_
  refine ne_sld X hX hbl hbA hb0 (by decide) (by omega) dL_law_2173 (fun z2173 e2173 l2173 r2173 => ?_)
  have y2173 : z2154 = z2173 := e2154.trans e2173.symm
  subst y2173
  refine ne_aload_n X dL_law_2174 rfl ?_
  refine ne_iload X dL_law_2175 rfl ?_
  refine ne_iconst X dL_law_2177 ?_
  refine ne_iadd X dL_law_2178 ?_
  refine ne_sld X hX hbl hbA hb0 (by decide) (by omega) dL_law_2179 (fun z2179 e2179 l2179 r2179 => ?_)
  have y2179 : z2160 = z2179 := e2160.trans e2179.symm
  subst y2179
  refine ne_callVF (is := [13, 14, 15, 16, 17, 18, 19]) X nw_Tg (me_X3_wheelOrder l hl c q t b k h mv9 T hM (by omega) _ _ (by omega) (by omega)) nw_yX3_wheelOrder nw_mL_309 nw_iX3_wheelOrder nw_eX3_wheelOrder (ci := 5) rfl rfl rfl dL_law_2180 rfl rfl (by decide) (by decide) (by first | decide | omega) (by first | decide | omega) (Nat.le_of_ble_eq_true rfl) (hcw _ _ _ _ _ _ _ _ _ _ _ _ _ _ _ _ _) rfl rfl (Nat.le_of_ble_eq_true rfl) lw_pt2 ?_ ?_
  rotate_left
  · rintro E9 w9 h9; exact h9.elim
  rintro v2180 w2180 ⟨⟨mv91, rfl, hM1⟩, z2180, rfl, g2180⟩
  refine ne_ws lw_mg2 ?_
  refine ne_istore X dL_law_2183 (by decide) ?_
  refine ne_ll (L' := [some (.ref 0), some (.ref 1), some (.ref 13), some (.ref 20), some (ni _), some (ni _), some (ni _)]) rfl ?_
  refine ne_goto (tgt := 2324) X dL_law_2185 rfl ?_
  refine ne_lnone 5 (ne_lnone 6 ?_)
  refine ne_ll (L' := [some (.ref 0), some (.ref 1), some (.ref 13), some (.ref 20), some (ni i), none, none]) rfl ?_
  refine ne_less (C' := C - 500) (S' := S - 3500) (by omega) (by omega) ?_
  exact kk _ _ _ _ _ _ _ _ _ _ _ _ hI1 hM1 hP hs
set_option maxRecDepth 100000 in
set_option maxHeartbeats 4000000 in
theorem lc_43 (hl : l.stackTraces = false) (X : ne_F nw_cl D ct A p l room_1 s9 m args meth c9 RL cL_law 7 nw_T 20 1000 600128 7301098) (hX : va_X b9 N9 xs s9 s9.heap) (hbl : b9 < s9.heap.size) (hbA : ¬ A b9) (hb0 : ad0 0 = b9) (i T : Int) (hi : 0 ≤ i ∧ i + 6 ≤ N9 ∧ N9 ≤ 384) (hT : 0 ≤ T ∧ T ≤ 100) (c q t b k n h x y  : Nat → Int) (mv9 u : Int) (sv : Value) (hI : cI c q t b k n h x y T) (hM : mI c q t b k h mv9 T) (hP : ∀ j : Nat, ne_per (t j) (b j) (n j)) (hs : sv = .null ∨ sv = .ref 21) (C S : Nat) (hC : 500 ≤ C) (hS : 3500 ≤ S) (kk : ∀ (c q t b k n h x y  : Nat → Int) (mv9 u : Int) (sv : Value), cI c q t b k n h x y (T + 1) → mI c q t b k h mv9 (T + 1) → (∀ j : Nat, ne_per (t j) (b j) (n j)) → (sv = .null ∨ sv = .ref 21) → ne_G nw_cl D ct A 1 ad0 p l e room_1 s9 m args below meth c9 Q9 7 600128 7301098 (C - 500) (S - 3500) 2324 [some (.ref 0), some (.ref 1), some (.ref 13), some (.ref 20), some (ni i), none, none] [] (lW c q t b k n h x y c q t b k h mv9 (nl u) sv)) : ne_G nw_cl D ct A 1 ad0 p l e room_1 s9 m args below meth c9 Q9 7 600128 7301098 C S 2188 [some (.ref 0), some (.ref 1), some (.ref 13), some (.ref 20), some (ni i), none, none] [] (lW c q t b k n h x y c q t b k h mv9 (nl u) sv) := by
  obtain ⟨s8, hs8, rfl⟩ : ∃ s8 : Value, (s8 = .null ∨ s8 = .ref 13) ∧ sv = ne_rn [1, 2, 3, 4, 5, 6, 7, 8, 9, 10, 11, 12, 20, 21] 22 s8 := by
    rcases hs with rfl | rfl
    · exact ⟨.null, Or.inl rfl, rfl⟩
    · exact ⟨.ref 13, Or.inr rfl, rfl⟩
  have hcw : ∀ (c q t b k n h x y mc9 mq9 mt9 mb9 mk9 mh9 : Nat → Int) (mv9 u : Int), ne_cw 22 (lW c q t b k n h x y mc9 mq9 mt9 mb9 mk9 mh9 mv9 (nl u) (ne_rn [1, 2, 3, 4, 5, 6, 7, 8, 9, 10, 11, 12, 20, 21] 22 s8)) = true := by
    intros
    rcases hs8 with rfl | rfl <;> rfl
  refine ne_aload_n X dL_law_2188 rfl ?_
  refine ne_aload_n X dL_law_2189 rfl ?_
  refine ne_iload X dL_law_2190 rfl ?_
  refine ne_iconst X dL_law_2192 ?_
  refine ne_iadd X dL_law_2193 ?_
  refine ne_sld X hX hbl hbA hb0 (by decide) (by omega) dL_law_2194 (fun z2194 e2194 l2194 r2194 => ?_)
  refine ne_aload_n X dL_law_2195 rfl ?_
  refine ne_iload X dL_law_2196 rfl ?_
  refine ne_iconst X dL_law_2198 ?_
  refine ne_iadd X dL_law_2199 ?_
  refine ne_sld X hX hbl hbA hb0 (by decide) (by omega) dL_law_2200 (fun z2200 e2200 l2200 r2200 => ?_)
  refine ne_aload_n X dL_law_2201 rfl ?_
  refine ne_callSFW (is := [1, 2, 3, 4, 5, 6, 7, 8, 9, 10, 11, 12, 20, 21]) X nw_Tg (me_L_against l hl c q t b k n h x y T hI (by omega) u s8 hs8 _ _ (by omega) (by omega)) nw_yL_against nw_mL_310 nw_sL_against dL_law_2202 rfl rfl (by decide) (by decide) (by first | decide | omega) (by first | decide | omega) (Nat.le_of_ble_eq_true rfl) (hcw _ _ _ _ _ _ _ _ _ _ _ _ _ _ _ _ _) rfl rfl (Nat.le_of_ble_eq_true rfl) lw_pt1 ?_ ?_
  rotate_left
  · rintro E9 w9 h9; exact h9.elim
  rintro v2202 w2202 ⟨x1, y1, u1, rfl, hI1, z2202, rfl⟩
  refine ne_ws lw_mg1 ?_
  refine ne_istore X dL_law_2205 (by decide) ?_
  refine ne_aload_n X dL_law_2207 rfl ?_
  refine ne_aload_n X dL_law_2208 rfl ?_
  refine ne_iload X dL_law_2209 rfl ?_
  refine ne_iconst X dL_law_2211 ?_
  refine ne_iadd X dL_law_2212 ?_
  refine ne_sld X hX hbl hbA hb0 (by decide) (by omega) dL_law_2213 (fun z2213 e2213 l2213 r2213 => ?_)
  have y2213 : z2194 = z2213 := e2194.trans e2213.symm
  subst y2213
  refine ne_aload_n X dL_law_2214 rfl ?_
  refine ne_iload X dL_law_2215 rfl ?_
  refine ne_iconst X dL_law_2217 ?_
  refine ne_iadd X dL_law_2218 ?_
  refine ne_sld X hX hbl hbA hb0 (by decide) (by omega) dL_law_2219 (fun z2219 e2219 l2219 r2219 => ?_)
  have y2219 : z2200 = z2219 := e2200.trans e2219.symm
  subst y2219
  refine ne_callVF (is := [13, 14, 15, 16, 17, 18, 19]) X nw_Tg (me_X3_against l hl c q t b k h mv9 T hM (by omega) _ _ (by omega) (by omega)) nw_yX3_against nw_mL_312 nw_iX3_against nw_eX3_against (ci := 5) rfl rfl rfl dL_law_2220 rfl rfl (by decide) (by decide) (by first | decide | omega) (by first | decide | omega) (Nat.le_of_ble_eq_true rfl) (hcw _ _ _ _ _ _ _ _ _ _ _ _ _ _ _ _ _) rfl rfl (Nat.le_of_ble_eq_true rfl) lw_pt2 ?_ ?_
  rotate_left
  · rintro E9 w9 h9; exact h9.elim
  rintro v2220 w2220 ⟨⟨mv91, rfl, hM1⟩, z2220, rfl, g2220⟩
  refine ne_ws lw_mg2 ?_
  refine ne_istore X dL_law_2223 (by decide) ?_
  refine ne_ll (L' := [some (.ref 0), some (.ref 1), some (.ref 13), some (.ref 20), some (ni _), some (ni _), some (ni _)]) rfl ?_
  refine ne_goto (tgt := 2324) X dL_law_2225 rfl ?_
  refine ne_lnone 5 (ne_lnone 6 ?_)
  refine ne_ll (L' := [some (.ref 0), some (.ref 1), some (.ref 13), some (.ref 20), some (ni i), none, none]) rfl ?_
  refine ne_less (C' := C - 500) (S' := S - 3500) (by omega) (by omega) ?_
  exact kk _ _ _ _ _ _ _ _ _ _ _ _ hI1 hM1 hP hs
set_option maxRecDepth 100000 in
set_option maxHeartbeats 4000000 in
theorem lc_44 (hl : l.stackTraces = false) (X : ne_F nw_cl D ct A p l room_1 s9 m args meth c9 RL cL_law 7 nw_T 20 1000 600128 7301098) (hX : va_X b9 N9 xs s9 s9.heap) (hbl : b9 < s9.heap.size) (hbA : ¬ A b9) (hb0 : ad0 0 = b9) (i T : Int) (hi : 0 ≤ i ∧ i + 6 ≤ N9 ∧ N9 ≤ 384) (hT : 0 ≤ T ∧ T ≤ 100) (c q t b k n h x y  : Nat → Int) (mv9 u : Int) (sv : Value) (hI : cI c q t b k n h x y T) (hM : mI c q t b k h mv9 T) (hP : ∀ j : Nat, ne_per (t j) (b j) (n j)) (hs : sv = .null ∨ sv = .ref 21) (C S : Nat) (hC : 500 ≤ C) (hS : 3500 ≤ S) (kk : ∀ (c q t b k n h x y  : Nat → Int) (mv9 u : Int) (sv : Value), cI c q t b k n h x y (T + 1) → mI c q t b k h mv9 (T + 1) → (∀ j : Nat, ne_per (t j) (b j) (n j)) → (sv = .null ∨ sv = .ref 21) → ne_G nw_cl D ct A 1 ad0 p l e room_1 s9 m args below meth c9 Q9 7 600128 7301098 (C - 500) (S - 3500) 2324 [some (.ref 0), some (.ref 1), some (.ref 13), some (.ref 20), some (ni i), none, none] [] (lW c q t b k n h x y c q t b k h mv9 (nl u) sv)) : ne_G nw_cl D ct A 1 ad0 p l e room_1 s9 m args below meth c9 Q9 7 600128 7301098 C S 2228 [some (.ref 0), some (.ref 1), some (.ref 13), some (.ref 20), some (ni i), none, none] [] (lW c q t b k n h x y c q t b k h mv9 (nl u) sv) := by
  obtain ⟨s8, hs8, rfl⟩ : ∃ s8 : Value, (s8 = .null ∨ s8 = .ref 13) ∧ sv = ne_rn [1, 2, 3, 4, 5, 6, 7, 8, 9, 10, 11, 12, 20, 21] 22 s8 := by
    rcases hs with rfl | rfl
    · exact ⟨.null, Or.inl rfl, rfl⟩
    · exact ⟨.ref 13, Or.inr rfl, rfl⟩
  have hcw : ∀ (c q t b k n h x y mc9 mq9 mt9 mb9 mk9 mh9 : Nat → Int) (mv9 u : Int), ne_cw 22 (lW c q t b k n h x y mc9 mq9 mt9 mb9 mk9 mh9 mv9 (nl u) (ne_rn [1, 2, 3, 4, 5, 6, 7, 8, 9, 10, 11, 12, 20, 21] 22 s8)) = true := by
    intros
    rcases hs8 with rfl | rfl <;> rfl
  refine ne_aload_n X dL_law_2228 rfl ?_
  refine ne_aload_n X dL_law_2229 rfl ?_
  refine ne_iload X dL_law_2230 rfl ?_
  refine ne_iconst X dL_law_2232 ?_
  refine ne_iadd X dL_law_2233 ?_
  refine ne_sld X hX hbl hbA hb0 (by decide) (by omega) dL_law_2234 (fun z2234 e2234 l2234 r2234 => ?_)
  refine ne_aload_n X dL_law_2235 rfl ?_
  refine ne_callSFW (is := [1, 2, 3, 4, 5, 6, 7, 8, 9, 10, 11, 12, 20, 21]) X nw_Tg (me_L_house l hl c q t b k n h x y T hI (by omega) u s8 hs8 _ (by omega)) nw_yL_house nw_mL_313 nw_sL_house dL_law_2236 rfl rfl (by decide) (by decide) (by first | decide | omega) (by first | decide | omega) (Nat.le_of_ble_eq_true rfl) (hcw _ _ _ _ _ _ _ _ _ _ _ _ _ _ _ _ _) rfl rfl (Nat.le_of_ble_eq_true rfl) lw_pt1 ?_ ?_
  rotate_left
  · rintro E9 w9 h9; exact h9.elim
  rintro v2236 w2236 ⟨u1, rfl, z2236, rfl, g2236⟩
  have hI1 := cI_mono hI (show T ≤ T + 1 by omega)
  refine ne_ws lw_mg1 ?_
  refine ne_istore X dL_law_2239 (by decide) ?_
  refine ne_aload_n X dL_law_2241 rfl ?_
  refine ne_aload_n X dL_law_2242 rfl ?_
  refine ne_iload X dL_law_2243 rfl ?_
  refine ne_iconst X dL_law_2245 ?_
  refine ne_iadd X dL_law_2246 ?_
  refine ne_sld X hX hbl hbA hb0 (by decide) (by omega) dL_law_2247 (fun z2247 e2247 l2247 r2247 => ?_)
  have y2247 : z2234 = z2247 := e2234.trans e2247.symm
  subst y2247
  refine ne_callVF (is := [13, 14, 15, 16, 17, 18, 19]) X nw_Tg (me_X3_houseW l hl c q t b k h mv9 T hM (by omega) _ (by omega)) nw_yX3_house nw_mL_315 nw_iX3_house nw_eX3_house (ci := 5) rfl rfl rfl dL_law_2248 rfl rfl (by decide) (by decide) (by first | decide | omega) (by first | decide | omega) (Nat.le_of_ble_eq_true rfl) (hcw _ _ _ _ _ _ _ _ _ _ _ _ _ _ _ _ _) rfl rfl (Nat.le_of_ble_eq_true rfl) lw_pt2 ?_ ?_
  rotate_left
  · rintro E9 w9 h9; exact h9.elim
  rintro v2248 w2248 ⟨mv91, z2248, rfl, hM1, rfl, g2248⟩
  refine ne_ws lw_mg2 ?_
  obtain ⟨hk, hu⟩ := cn_house (h := h) g2236 g2248
  refine ne_istore X dL_law_2251 (by decide) ?_
  refine ne_ll (L' := [some (.ref 0), some (.ref 1), some (.ref 13), some (.ref 20), some (ni _), some (ni _), some (ni _)]) rfl ?_
  refine ne_aload_n X dL_law_2253 rfl ?_
  refine ne_callVF (is := [13, 14, 15, 16, 17, 18, 19]) X nw_Tg (me_X3_thrown l hl c q t b k h mv91 (T + 1) hM1 (by omega)) nw_yX3_thrown nw_mL_316 nw_iX3_thrown nw_eX3_thrown (ci := 5) rfl rfl rfl dL_law_2254 rfl rfl (by decide) (by decide) (by first | decide | omega) (by first | decide | omega) (Nat.le_of_ble_eq_true rfl) (hcw _ _ _ _ _ _ _ _ _ _ _ _ _ _ _ _ _) rfl rfl (Nat.le_of_ble_eq_true rfl) lw_pt2 ?_ ?_
  rotate_left
  · rintro E9 w9 h9; exact h9.elim
  rintro v2254 w2254 ⟨rfl, rfl⟩
  refine ne_ws lw_mg2 ?_
  refine ne_iload X dL_law_2257 rfl ?_
  refine ne_icmp_eq (tgt := 2264) X dL_law_2259 rfl (by omega) (by omega) (fun b2259 => ?_) (fun b2259 => ?_)
  · refine ne_iload X dL_law_2264 rfl ?_
    refine ne_if_ne (tgt := 2282) X dL_law_2266 rfl (by omega) (fun b2266 => ?_) (fun b2266 => ?_)
    · refine ne_goto (tgt := 2324) X dL_law_2282 rfl ?_
      refine ne_lnone 5 (ne_lnone 6 ?_)
      refine ne_ll (L' := [some (.ref 0), some (.ref 1), some (.ref 13), some (.ref 20), some (ni i), none, none]) rfl ?_
      refine ne_less (C' := C - 500) (S' := S - 3500) (by omega) (by omega) ?_
      exact kk _ _ _ _ _ _ _ _ _ _ _ _ hI1 hM1 hP hs
    · have hu2 := hu (by omega)
      refine ne_aload_n X dL_law_2269 rfl ?_
      refine ne_getfn X dL_law_2270 nw_fL_13 rfl rfl ?_
      refine ne_iload X dL_law_2273 rfl ?_
      refine ne_i2l (by omega) X dL_law_2275 ?_
      refine ne_lcif_eq (tgt := 2282) X dL_law_2276 dL_law_2277 rfl (by omega) (by omega) (fun b2277 => ?_) (fun b2277 => ?_)
      · refine ne_goto (tgt := 2324) X dL_law_2282 rfl ?_
        refine ne_lnone 5 (ne_lnone 6 ?_)
        refine ne_ll (L' := [some (.ref 0), some (.ref 1), some (.ref 13), some (.ref 20), some (ni i), none, none]) rfl ?_
        refine ne_less (C' := C - 500) (S' := S - 3500) (by omega) (by omega) ?_
        exact kk _ _ _ _ _ _ _ _ _ _ _ _ hI1 hM1 hP hs
      · exfalso; omega
  · exfalso; omega
set_option maxRecDepth 100000 in
set_option maxHeartbeats 4000000 in
theorem lc_45 (hl : l.stackTraces = false) (X : ne_F nw_cl D ct A p l room_1 s9 m args meth c9 RL cL_law 7 nw_T 20 1000 600128 7301098) (hX : va_X b9 N9 xs s9 s9.heap) (hbl : b9 < s9.heap.size) (hbA : ¬ A b9) (hb0 : ad0 0 = b9) (i T : Int) (hi : 0 ≤ i ∧ i + 6 ≤ N9 ∧ N9 ≤ 384) (hT : 0 ≤ T ∧ T ≤ 100) (c q t b k n h x y  : Nat → Int) (mv9 u : Int) (sv : Value) (hI : cI c q t b k n h x y T) (hM : mI c q t b k h mv9 T) (hP : ∀ j : Nat, ne_per (t j) (b j) (n j)) (hs : sv = .null ∨ sv = .ref 21) (C S : Nat) (hC : 500 ≤ C) (hS : 3500 ≤ S) (kk : ∀ (c q t b k n h x y  : Nat → Int) (mv9 u : Int) (sv : Value), cI c q t b k n h x y (T + 1) → mI c q t b k h mv9 (T + 1) → (∀ j : Nat, ne_per (t j) (b j) (n j)) → (sv = .null ∨ sv = .ref 21) → ne_G nw_cl D ct A 1 ad0 p l e room_1 s9 m args below meth c9 Q9 7 600128 7301098 (C - 500) (S - 3500) 2324 [some (.ref 0), some (.ref 1), some (.ref 13), some (.ref 20), some (ni i), none, none] [] (lW c q t b k n h x y c q t b k h mv9 (nl u) sv)) : ne_G nw_cl D ct A 1 ad0 p l e room_1 s9 m args below meth c9 Q9 7 600128 7301098 C S 2285 [some (.ref 0), some (.ref 1), some (.ref 13), some (.ref 20), some (ni i), none, none] [] (lW c q t b k n h x y c q t b k h mv9 (nl u) sv) := by
  obtain ⟨s8, hs8, rfl⟩ : ∃ s8 : Value, (s8 = .null ∨ s8 = .ref 13) ∧ sv = ne_rn [1, 2, 3, 4, 5, 6, 7, 8, 9, 10, 11, 12, 20, 21] 22 s8 := by
    rcases hs with rfl | rfl
    · exact ⟨.null, Or.inl rfl, rfl⟩
    · exact ⟨.ref 13, Or.inr rfl, rfl⟩
  have hcw : ∀ (c q t b k n h x y mc9 mq9 mt9 mb9 mk9 mh9 : Nat → Int) (mv9 u : Int), ne_cw 22 (lW c q t b k n h x y mc9 mq9 mt9 mb9 mk9 mh9 mv9 (nl u) (ne_rn [1, 2, 3, 4, 5, 6, 7, 8, 9, 10, 11, 12, 20, 21] 22 s8)) = true := by
    intros
    rcases hs8 with rfl | rfl <;> rfl
  refine ne_aload_n X dL_law_2285 rfl ?_
  refine ne_callVF (is := [1, 2, 3, 4, 5, 6, 7, 8, 9, 10, 11, 12]) X nw_Tg (me_X1_knockW l hl c q t b k n h x y T hI (by omega)) nw_yX1_knock nw_mL_320 nw_iX1_knock nw_eX1_knock (ci := 3) rfl rfl rfl dL_law_2286 rfl rfl (by decide) (by decide) (by first | decide | omega) (by first | decide | omega) (Nat.le_of_ble_eq_true rfl) (hcw _ _ _ _ _ _ _ _ _ _ _ _ _ _ _ _ _) rfl rfl (Nat.le_of_ble_eq_true rfl) lw_pt3 ?_ ?_
  rotate_left
  · rintro E9 w9 h9; exact h9.elim
  rintro v2286 w2286 ⟨h1, rfl, hI1, hk1, z2286, rfl, g2286, k2286⟩
  refine ne_ws lw_mg3 ?_
  refine ne_popi X dL_law_2289 ?_
  refine ne_aload_n X dL_law_2290 rfl ?_
  refine ne_callVF (is := [13, 14, 15, 16, 17, 18, 19]) X nw_Tg (me_X3_knockW l hl c q t b k h mv9 T hM (by omega)) nw_yX3_knock nw_mL_323 nw_iX3_knock nw_eX3_knock (ci := 5) rfl rfl rfl dL_law_2291 rfl rfl (by decide) (by decide) (by first | decide | omega) (by first | decide | omega) (Nat.le_of_ble_eq_true rfl) (hcw _ _ _ _ _ _ _ _ _ _ _ _ _ _ _ _ _) rfl rfl (Nat.le_of_ble_eq_true rfl) lw_pt2 ?_ ?_
  rotate_left
  · rintro E9 w9 h9; exact h9.elim
  rintro v2291 w2291 ⟨h2, rfl, hM1, hk2, z2291, rfl, g2291, k2291⟩
  refine ne_ws lw_mg2 ?_
  obtain rfl : h2 = h1 := hk2.trans hk1.symm
  refine ne_popi X dL_law_2294 ?_
  refine ne_goto (tgt := 2324) X dL_law_2295 rfl ?_
  refine ne_lnone 5 (ne_lnone 6 ?_)
  refine ne_ll (L' := [some (.ref 0), some (.ref 1), some (.ref 13), some (.ref 20), some (ni i), none, none]) rfl ?_
  refine ne_less (C' := C - 500) (S' := S - 3500) (by omega) (by omega) ?_
  exact kk _ _ _ _ _ _ _ _ _ _ _ _ hI1 hM1 hP hs
set_option maxRecDepth 100000 in
set_option maxHeartbeats 4000000 in
theorem lc_46 (hl : l.stackTraces = false) (X : ne_F nw_cl D ct A p l room_1 s9 m args meth c9 RL cL_law 7 nw_T 20 1000 600128 7301098) (hX : va_X b9 N9 xs s9 s9.heap) (hbl : b9 < s9.heap.size) (hbA : ¬ A b9) (hb0 : ad0 0 = b9) (i T : Int) (hi : 0 ≤ i ∧ i + 6 ≤ N9 ∧ N9 ≤ 384) (hT : 0 ≤ T ∧ T ≤ 100) (c q t b k n h x y  : Nat → Int) (mv9 u : Int) (sv : Value) (hI : cI c q t b k n h x y T) (hM : mI c q t b k h mv9 T) (hP : ∀ j : Nat, ne_per (t j) (b j) (n j)) (hs : sv = .null ∨ sv = .ref 21) (C S : Nat) (hC : 500 ≤ C) (hS : 3500 ≤ S) (kk : ∀ (c q t b k n h x y  : Nat → Int) (mv9 u : Int) (sv : Value), cI c q t b k n h x y (T + 1) → mI c q t b k h mv9 (T + 1) → (∀ j : Nat, ne_per (t j) (b j) (n j)) → (sv = .null ∨ sv = .ref 21) → ne_G nw_cl D ct A 1 ad0 p l e room_1 s9 m args below meth c9 Q9 7 600128 7301098 (C - 500) (S - 3500) 2324 [some (.ref 0), some (.ref 1), some (.ref 13), some (.ref 20), some (ni i), none, none] [] (lW c q t b k n h x y c q t b k h mv9 (nl u) sv)) : ne_G nw_cl D ct A 1 ad0 p l e room_1 s9 m args below meth c9 Q9 7 600128 7301098 C S 2298 [some (.ref 0), some (.ref 1), some (.ref 13), some (.ref 20), some (ni i), none, none] [] (lW c q t b k n h x y c q t b k h mv9 (nl u) sv) := by
  obtain ⟨s8, hs8, rfl⟩ : ∃ s8 : Value, (s8 = .null ∨ s8 = .ref 13) ∧ sv = ne_rn [1, 2, 3, 4, 5, 6, 7, 8, 9, 10, 11, 12, 20, 21] 22 s8 := by
    rcases hs with rfl | rfl
    · exact ⟨.null, Or.inl rfl, rfl⟩
    · exact ⟨.ref 13, Or.inr rfl, rfl⟩
  have hcw : ∀ (c q t b k n h x y mc9 mq9 mt9 mb9 mk9 mh9 : Nat → Int) (mv9 u : Int), ne_cw 22 (lW c q t b k n h x y mc9 mq9 mt9 mb9 mk9 mh9 mv9 (nl u) (ne_rn [1, 2, 3, 4, 5, 6, 7, 8, 9, 10, 11, 12, 20, 21] 22 s8)) = true := by
    intros
    rcases hs8 with rfl | rfl <;> rfl
  refine ne_aload_n X dL_law_2298 rfl ?_
  refine ne_callVF (is := [1, 2, 3, 4, 5, 6, 7, 8, 9, 10, 11, 12]) X nw_Tg (me_X1_isSound l hl c q t b k n h x y T hI (by omega)) nw_yX1_isSound nw_mL_324 nw_iX1_isSound nw_eX1_isSound (ci := 3) rfl rfl rfl dL_law_2299 rfl rfl (by decide) (by decide) (by first | decide | omega) (by first | decide | omega) (Nat.le_of_ble_eq_true rfl) (hcw _ _ _ _ _ _ _ _ _ _ _ _ _ _ _ _ _) rfl rfl (Nat.le_of_ble_eq_true rfl) lw_pt3 ?_ ?_
  rotate_left
  · rintro E9 w9 h9; exact h9.elim
  rintro v2299 w2299 ⟨x1, y1, rfl, Ix1, Iy1, z2299, rfl, g2299⟩
  have hI1 : cI c q t b k n h x1 y1 (T + 1) := cI_mono ⟨hI.1, hI.2.1, hI.2.2.1, hI.2.2.2.1, hI.2.2.2.2.1, hI.2.2.2.2.2.1, hI.2.2.2.2.2.2.1, hI.2.2.2.2.2.2.2.1, Ix1, Iy1⟩ (by omega)
  refine ne_ws lw_mg3 ?_
  refine ne_popi X dL_law_2302 ?_
  refine ne_aload_n X dL_law_2303 rfl ?_
  refine ne_callVF (is := [13, 14, 15, 16, 17, 18, 19]) X nw_Tg (me_X3_isSound l hl c q t b k h mv9 T hM (by omega)) nw_yX3_isSound nw_mL_328 nw_iX3_isSound nw_eX3_isSound (ci := 5) rfl rfl rfl dL_law_2304 rfl rfl (by decide) (by decide) (by first | decide | omega) (by first | decide | omega) (Nat.le_of_ble_eq_true rfl) (hcw _ _ _ _ _ _ _ _ _ _ _ _ _ _ _ _ _) rfl rfl (Nat.le_of_ble_eq_true rfl) lw_pt2 ?_ ?_
  rotate_left
  · rintro E9 w9 h9; exact h9.elim
  rintro v2304 w2304 ⟨rfl, z2304, rfl, g2304⟩
  have hM1 : mI c q t b k h 0 (T + 1) := ⟨hM.1, hM.2.1, hM.2.2.1, hM.2.2.2.1, hM.2.2.2.2.1, hM.2.2.2.2.2.1, hM.2.2.2.2.2.2.1, ne_rg_mono hM.2.2.2.2.2.2.2.1 (by omega) (by omega), by omega⟩
  refine ne_ws lw_mg2 ?_
  refine ne_popi X dL_law_2307 ?_
  refine ne_goto (tgt := 2324) X dL_law_2308 rfl ?_
  refine ne_lnone 5 (ne_lnone 6 ?_)
  refine ne_ll (L' := [some (.ref 0), some (.ref 1), some (.ref 13), some (.ref 20), some (ni i), none, none]) rfl ?_
  refine ne_less (C' := C - 500) (S' := S - 3500) (by omega) (by omega) ?_
  exact kk _ _ _ _ _ _ _ _ _ _ _ _ hI1 hM1 hP hs
set_option maxRecDepth 100000 in
set_option maxHeartbeats 4000000 in
theorem lc_47 (hl : l.stackTraces = false) (X : ne_F nw_cl D ct A p l room_1 s9 m args meth c9 RL cL_law 7 nw_T 20 1000 600128 7301098) (hX : va_X b9 N9 xs s9 s9.heap) (hbl : b9 < s9.heap.size) (hbA : ¬ A b9) (hb0 : ad0 0 = b9) (i T : Int) (hi : 0 ≤ i ∧ i + 6 ≤ N9 ∧ N9 ≤ 384) (hT : 0 ≤ T ∧ T ≤ 100) (c q t b k n h x y  : Nat → Int) (mv9 u : Int) (sv : Value) (hI : cI c q t b k n h x y T) (hM : mI c q t b k h mv9 T) (hP : ∀ j : Nat, ne_per (t j) (b j) (n j)) (hs : sv = .null ∨ sv = .ref 21) (C S : Nat) (hC : 500 ≤ C) (hS : 3500 ≤ S) (kk : ∀ (c q t b k n h x y  : Nat → Int) (mv9 u : Int) (sv : Value), cI c q t b k n h x y (T + 1) → mI c q t b k h mv9 (T + 1) → (∀ j : Nat, ne_per (t j) (b j) (n j)) → (sv = .null ∨ sv = .ref 21) → ne_G nw_cl D ct A 1 ad0 p l e room_1 s9 m args below meth c9 Q9 7 600128 7301098 (C - 500) (S - 3500) 2324 [some (.ref 0), some (.ref 1), some (.ref 13), some (.ref 20), some (ni i), none, none] [] (lW c q t b k n h x y c q t b k h mv9 (nl u) sv)) : ne_G nw_cl D ct A 1 ad0 p l e room_1 s9 m args below meth c9 Q9 7 600128 7301098 C S 2311 [some (.ref 0), some (.ref 1), some (.ref 13), some (.ref 20), some (ni i), none, none] [] (lW c q t b k n h x y c q t b k h mv9 (nl u) sv) := by
  obtain ⟨s8, hs8, rfl⟩ : ∃ s8 : Value, (s8 = .null ∨ s8 = .ref 13) ∧ sv = ne_rn [1, 2, 3, 4, 5, 6, 7, 8, 9, 10, 11, 12, 20, 21] 22 s8 := by
    rcases hs with rfl | rfl
    · exact ⟨.null, Or.inl rfl, rfl⟩
    · exact ⟨.ref 13, Or.inr rfl, rfl⟩
  have hcw : ∀ (c q t b k n h x y mc9 mq9 mt9 mb9 mk9 mh9 : Nat → Int) (mv9 u : Int), ne_cw 22 (lW c q t b k n h x y mc9 mq9 mt9 mb9 mk9 mh9 mv9 (nl u) (ne_rn [1, 2, 3, 4, 5, 6, 7, 8, 9, 10, 11, 12, 20, 21] 22 s8)) = true := by
    intros
    rcases hs8 with rfl | rfl <;> rfl
  refine ne_aload_n X dL_law_2311 rfl ?_
  refine ne_callVF (is := [1, 2, 3, 4, 5, 6, 7, 8, 9, 10, 11, 12]) X nw_Tg (me_X1_digest l hl c q t b k n h x y T hI (by omega)) nw_yX1_digest nw_mL_329 nw_iX1_digest nw_eX1_digest (ci := 3) rfl rfl rfl dL_law_2312 rfl rfl (by decide) (by decide) (by first | decide | omega) (by first | decide | omega) (Nat.le_of_ble_eq_true rfl) (hcw _ _ _ _ _ _ _ _ _ _ _ _ _ _ _ _ _) rfl rfl (Nat.le_of_ble_eq_true rfl) lw_pt3 ?_ ?_
  rotate_left
  · rintro E9 w9 h9; exact h9.elim
  rintro v2312 w2312 ⟨x1, y1, rfl, Ix1, Iy1, z2312, rfl, g2312⟩
  have hI1 : cI c q t b k n h x1 y1 (T + 1) := cI_mono ⟨hI.1, hI.2.1, hI.2.2.1, hI.2.2.2.1, hI.2.2.2.2.1, hI.2.2.2.2.2.1, hI.2.2.2.2.2.2.1, hI.2.2.2.2.2.2.2.1, Ix1, Iy1⟩ (by omega)
  refine ne_ws lw_mg3 ?_
  refine ne_pop2l X dL_law_2315 ?_
  refine ne_aload_n X dL_law_2316 rfl ?_
  refine ne_callVF (is := [13, 14, 15, 16, 17, 18, 19]) X nw_Tg (me_X3_digest l hl c q t b k h mv9 T hM (by omega)) nw_yX3_digest nw_mL_333 nw_iX3_digest nw_eX3_digest (ci := 5) rfl rfl rfl dL_law_2317 rfl rfl (by decide) (by decide) (by first | decide | omega) (by first | decide | omega) (Nat.le_of_ble_eq_true rfl) (hcw _ _ _ _ _ _ _ _ _ _ _ _ _ _ _ _ _) rfl rfl (Nat.le_of_ble_eq_true rfl) lw_pt2 ?_ ?_
  rotate_left
  · rintro E9 w9 h9; exact h9.elim
  rintro v2317 w2317 ⟨rfl, z2317, rfl⟩
  have hM1 : mI c q t b k h 0 (T + 1) := ⟨hM.1, hM.2.1, hM.2.2.1, hM.2.2.2.1, hM.2.2.2.2.1, hM.2.2.2.2.2.1, hM.2.2.2.2.2.2.1, ne_rg_mono hM.2.2.2.2.2.2.2.1 (by omega) (by omega), by omega⟩
  refine ne_ws lw_mg2 ?_
  refine ne_pop2l X dL_law_2320 ?_
  refine ne_goto (tgt := 2324) X dL_law_2321 rfl ?_
  refine ne_lnone 5 (ne_lnone 6 ?_)
  refine ne_ll (L' := [some (.ref 0), some (.ref 1), some (.ref 13), some (.ref 20), some (ni i), none, none]) rfl ?_
  refine ne_less (C' := C - 500) (S' := S - 3500) (by omega) (by omega) ?_
  exact kk _ _ _ _ _ _ _ _ _ _ _ _ hI1 hM1 hP hs
end LAWS
