/-- the length of a wheel -/
def ne_per (a b L : Int) : Prop := 1 ≤ L ∧ L ≤ 96 ∧ (∀ m : Nat, 0 < m → (m : Int) < L → ne_rs a b m ≠ a) ∧ ne_rs a b L.toNat = a
theorem ne_perU {a b L L' : Int} (h : ne_per a b L) (h' : ne_per a b L') : L = L' := by
  rcases (show L < L' ∨ L' < L ∨ L = L' by omega) with g | g | g
  · exact absurd h.2.2.2 (h'.2.2.1 L.toNat (by have := h.1; omega) (by have := h.1; omega))
  · exact absurd h'.2.2.2 (h.2.2.1 L'.toNat (by have := h'.1; omega) (by have := h'.1; omega))
  · exact g
section NEZ
variable {cl : List vw_C} {D : va_G} {ct : Nat → ClassId} {A : Nat → Prop} {n0 : Nat} {ad0 : Nat → Nat} {p : Program} {l : Launch} {e : Env} {R : Room} {s : State} {m : MethodId} {args : Array Value} {below : List Frame} {meth : Method} {c : Code} {Q : State → Prop} {own : String} {cc : ByteArray} {nL : Nat} {Ts : List Cond} {fr lo mc ms C S pc : Nat} {L : List (Option Value)} {st : List Value} {ws : ne_W}
theorem ne_astore_nN {k : Fin 4} {i : Nat} (X : ne_F cl D ct A p l R s m args meth c own cc nL Ts fr lo mc ms) (hdg : decode cc pc = .ok (.astore_n k, 1)) (hi : (k : Nat) = i) (hn : i < nL) (k : ne_G cl D ct A n0 ad0 p l e R s m args below meth c Q nL mc ms C S (pc + 1) (ne_s1 L i .null) st ws) : ne_G cl D ct A n0 ad0 p l e R s m args below meth c Q nL mc ms C S pc L (.null :: st) ws := fun H locs cells slots ad ls h1 h2 h3 h4 h5 h6 h7 =>
  lv_astore_nN X.1.1 X.1.2.1 hdg hi h7 hn rfl fun ls' h8 => k H locs cells slots ad ls' h1 h2 h3 h4 h5 h6 (ne_st1 rfl h8)
end NEZ
set_option maxRecDepth 100000 in
set_option maxHeartbeats 4000000 in
theorem me_X3_refuse (l : Launch) (hl : l.stackTraces = false) (c q t b k h : Nat → Int) (vt T : Int) (hI : mI c q t b k h vt T) (hT : 0 ≤ T ∧ T ≤ 1000000) (p1 p2 : Int) (h1 : 0 ≤ p1 ∧ p1 ≤ 1) (h2 : 0 ≤ p2 ∧ p2 ≤ 1) : ne_M l nw_cl (.code yX3_refuse cX3_refuse 3 (some .boolean)) nw_T yX3_refuse 0 0 0 0 [.ref 0, ni p1, ni p2] (mW c q t b k h vt) (fun v w => ∃ u, w = mW c q t b k h u ∧ (0 ≤ u ∧ u ≤ 2) ∧ ∃ z : Int, v = some (ni z) ∧ ((p1 = 1 ∧ u = 1 ∧ z = 1) ∨ (p1 = 0 ∧ p2 = 1 ∧ u = 2 ∧ z = 1) ∨ (p1 = 0 ∧ p2 = 0 ∧ u = 0 ∧ z = 0))) (fun _ _ => False) := by
  refine ne_meet (own := RX3) hl rfl (by decide +kernel) (Nat.le_of_ble_eq_true rfl) ?_
  intro D ct A P9 V9 R9 S9 M9 as9 bl9 mt9 C9 ad0 X hr hin ht
  obtain ⟨Ic, Iq, It, Ib, Itb, Igb, Ik, Ih, Iv⟩ := hI
  refine ne_aload_n X dX3_refuse_0 rfl ?_
  refine ne_iload_n X dX3_refuse_1 rfl ?_
  refine ne_if_eq (tgt := 9) X dX3_refuse_2 rfl (by omega) (fun b2 => ?_) (fun b2 => ?_)
  · refine ne_iload_n X dX3_refuse_9 rfl ?_
    refine ne_if_eq (tgt := 17) X dX3_refuse_10 rfl (by omega) (fun b10 => ?_) (fun b10 => ?_)
    · refine ne_iconst X dX3_refuse_17 ?_
      refine ne_putf X dX3_refuse_18 nw_fX3_30 nw_p5_6 rfl (fun _ => rfl) (fun _ => rfl) (by first | decide | exact Nat.le_of_ble_eq_true rfl) ?_
      refine ne_ws (ws' := mW c q t b k h _) rfl ?_
      refine ne_aload_n X dX3_refuse_21 rfl ?_
      refine ne_getf X dX3_refuse_22 nw_fX3_30 rfl rfl ?_
      refine ne_if_le (tgt := 32) X dX3_refuse_25 rfl (by omega) (fun b25 => ?_) (fun b25 => ?_)
      · refine ne_iconst X dX3_refuse_32 ?_
        exact ne_iret X hr (by first | rfl | decide | rfl) dX3_refuse_33 ⟨_, rfl, by omega, _, rfl, by omega⟩
      · refine ne_iconst X dX3_refuse_28 ?_
        refine ne_goto (tgt := 33) X dX3_refuse_29 rfl ?_
        exact ne_iret X hr (by first | rfl | decide | rfl) dX3_refuse_33 ⟨_, rfl, by omega, _, rfl, by omega⟩
    · refine ne_iconst X dX3_refuse_13 ?_
      refine ne_goto (tgt := 18) X dX3_refuse_14 rfl ?_
      refine ne_putf X dX3_refuse_18 nw_fX3_30 nw_p5_6 rfl (fun _ => rfl) (fun _ => rfl) (by first | decide | exact Nat.le_of_ble_eq_true rfl) ?_
      refine ne_ws (ws' := mW c q t b k h _) rfl ?_
      refine ne_aload_n X dX3_refuse_21 rfl ?_
      refine ne_getf X dX3_refuse_22 nw_fX3_30 rfl rfl ?_
      refine ne_if_le (tgt := 32) X dX3_refuse_25 rfl (by omega) (fun b25 => ?_) (fun b25 => ?_)
      · refine ne_iconst X dX3_refuse_32 ?_
        exact ne_iret X hr (by first | rfl | decide | rfl) dX3_refuse_33 ⟨_, rfl, by omega, _, rfl, by omega⟩
      · refine ne_iconst X dX3_refuse_28 ?_
        refine ne_goto (tgt := 33) X dX3_refuse_29 rfl ?_
        exact ne_iret X hr (by first | rfl | decide | rfl) dX3_refuse_33 ⟨_, rfl, by omega, _, rfl, by omega⟩
  · refine ne_iconst X dX3_refuse_5 ?_
    refine ne_goto (tgt := 18) X dX3_refuse_6 rfl ?_
    refine ne_putf X dX3_refuse_18 nw_fX3_30 nw_p5_6 rfl (fun _ => rfl) (fun _ => rfl) (by first | decide | exact Nat.le_of_ble_eq_true rfl) ?_
    refine ne_ws (ws' := mW c q t b k h _) rfl ?_
    refine ne_aload_n X dX3_refuse_21 rfl ?_
    refine ne_getf X dX3_refuse_22 nw_fX3_30 rfl rfl ?_
    refine ne_if_le (tgt := 32) X dX3_refuse_25 rfl (by omega) (fun b25 => ?_) (fun b25 => ?_)
    · refine ne_iconst X dX3_refuse_32 ?_
      exact ne_iret X hr (by first | rfl | decide | rfl) dX3_refuse_33 ⟨_, rfl, by omega, _, rfl, by omega⟩
    · refine ne_iconst X dX3_refuse_28 ?_
      refine ne_goto (tgt := 33) X dX3_refuse_29 rfl ?_
      exact ne_iret X hr (by first | rfl | decide | rfl) dX3_refuse_33 ⟨_, rfl, by omega, _, rfl, by omega⟩
set_option maxRecDepth 100000 in
set_option maxHeartbeats 4000000 in
theorem me_X3_nay (l : Launch) (hl : l.stackTraces = false) (c q t b k h : Nat → Int) (vt T : Int) (hI : mI c q t b k h vt T) (hT : 0 ≤ T ∧ T ≤ 1000000)  : ne_M l nw_cl (.code yX3_nay cX3_nay 1 (some .int)) nw_T yX3_nay 0 0 0 0 [.ref 0] (mW c q t b k h vt) (fun v w => ∃ h1, w = mW c q t b k h1 vt ∧ ne_rg h1 0 (T + 1) ∧ v = some (ni (-9))) (fun _ _ => False) := by
  refine ne_meet (own := RX3) hl rfl (by decide +kernel) (Nat.le_of_ble_eq_true rfl) ?_
  intro D ct A P9 V9 R9 S9 M9 as9 bl9 mt9 C9 ad0 X hr hin ht
  obtain ⟨Ic, Iq, It, Ib, Itb, Igb, Ik, Ih, Iv⟩ := hI
  refine ne_aload_n X dX3_nay_0 rfl ?_
  refine ne_getf X dX3_nay_1 nw_fX3_27 rfl rfl ?_
  refine ne_iconst X dX3_nay_4 ?_
  refine ne_dup2ai X dX3_nay_5 ?_
  refine ne_ialdR X dX3_nay_6 rfl (by omega) Ih (fun v6 e6 f6 u6 => ?_)
  refine ne_iconst X dX3_nay_7 ?_
  refine ne_iadd X dX3_nay_8 ?_
  refine ne_iastR X dX3_nay_9 rfl (by omega) (ne_rg_mono Ih (by omega) (by omega)) (a := 0) (b := T + 1) (by omega) (fun h9 hh9 Ih => ?_)
  refine ne_ws (ws' := mW c q t b k h9 vt) rfl ?_
  refine ne_bipush (v := -9) (by decide) X dX3_nay_10 ?_
  exact ne_iret X hr (by first | rfl | decide | rfl) dX3_nay_12 ⟨_, rfl, Ih, rfl⟩
set_option maxRecDepth 100000 in
set_option maxHeartbeats 4000000 in
theorem me_X3_come (l : Launch) (hl : l.stackTraces = false) (c q t b k h : Nat → Int) (vt T : Int) (hI : mI c q t b k h vt T) (hT : 0 ≤ T ∧ T ≤ 1000000) (i a p : Int) (hi : 0 ≤ i ∧ i < 4) (ha : -9223372036854775808 ≤ a ∧ a < 9223372036854775808) (hp : 0 ≤ p ∧ p < 2147483648) : ne_M l nw_cl (.code yX3_come cX3_come 6 (some .int)) nw_T yX3_come 2 80 0 0 [.ref 0, ni i, nl a, ni p] (mW c q t b k h vt) (fun v w => ∃ c1 q1 h1, w = mW c1 q1 t b k h1 vt ∧ ne_rg c1 (-999999) 999999 ∧ ne_rg q1 0 3 ∧ ne_rg h1 0 (T + 1) ∧ ∃ z : Int, v = some (ni z) ∧ -9 ≤ z ∧ z ≤ 1) (fun _ _ => False) := by
  refine ne_meet (own := RX3) hl rfl (by decide +kernel) (Nat.le_of_ble_eq_true rfl) ?_
  intro D ct A P9 V9 R9 S9 M9 as9 bl9 mt9 C9 ad0 X hr hin ht
  obtain ⟨Ic, Iq, It, Ib, Itb, Igb, Ik, Ih, Iv⟩ := hI
  refine ne_lload_n X dX3_come_0 rfl ?_
  refine ne_ldc2 (z := -9223372036854775808) (by decide) nw_cX3_44 X dX3_come_1 ?_
  refine ne_lcif_eq (tgt := 25) X dX3_come_4 dX3_come_5 rfl (by omega) (by omega) (fun b5 => ?_) (fun b5 => ?_)
  · refine ne_aload_n X dX3_come_25 rfl ?_
    refine ne_callV X nw_Tg (me_X3_nay l hl c q t b k h vt T (by exact ⟨Ic, Iq, It, Ib, Itb, Igb, Ik, Ih, Iv⟩) (by omega) ) nw_yX3_nay nw_mX3_54 nw_iX3_nay nw_eX3_nay (ci := 5) rfl rfl rfl dX3_come_26 rfl rfl (by decide) (by decide) (by first | decide | omega) (by first | decide | omega) (Nat.le_of_ble_eq_true rfl) rfl rfl (Nat.le_of_ble_eq_true rfl) ?_ ?_
    rotate_left
    · rintro E9 w9 h9; exact h9.elim
    rintro v26 w26 ⟨h26, rfl, Ih, rfl⟩
    exact ne_iret X hr (by first | rfl | decide | rfl) dX3_come_29 ⟨_, _, _, rfl, Ic, Iq, Ih, _, rfl, by omega, by omega⟩
  · refine ne_lload_n X dX3_come_8 rfl ?_
    refine ne_callS X nw_Tg (me_X3_sizeOf l hl _ _ (by omega)) nw_yX3_sizeOf nw_mX3_40 nw_sX3_sizeOf dX3_come_9 rfl rfl (by decide) (by decide) (by first | decide | omega) (by first | decide | omega) (Nat.le_of_ble_eq_true rfl) rfl rfl (Nat.le_of_ble_eq_true rfl) ?_ ?_
    rotate_left
    · rintro E9 w9 h9; exact h9.elim
    rintro v9 w9 ⟨rfl, z9, rfl, g9⟩
    refine ne_ldc2 (z := 999999) (by decide) nw_cX3_52 X dX3_come_12 ?_
    refine ne_lcif_gt (tgt := 25) X dX3_come_15 dX3_come_16 rfl (by omega) (by omega) (fun b16 => ?_) (fun b16 => ?_)
    · refine ne_aload_n X dX3_come_25 rfl ?_
      refine ne_callV X nw_Tg (me_X3_nay l hl c q t b k h vt T (by exact ⟨Ic, Iq, It, Ib, Itb, Igb, Ik, Ih, Iv⟩) (by omega) ) nw_yX3_nay nw_mX3_54 nw_iX3_nay nw_eX3_nay (ci := 5) rfl rfl rfl dX3_come_26 rfl rfl (by decide) (by decide) (by first | decide | omega) (by first | decide | omega) (Nat.le_of_ble_eq_true rfl) rfl rfl (Nat.le_of_ble_eq_true rfl) ?_ ?_
      rotate_left
      · rintro E9 w9 h9; exact h9.elim
      rintro v26 w26 ⟨h26, rfl, Ih, rfl⟩
      exact ne_iret X hr (by first | rfl | decide | rfl) dX3_come_29 ⟨_, _, _, rfl, Ic, Iq, Ih, _, rfl, by omega, by omega⟩
    · refine ne_iload X dX3_come_19 rfl ?_
      refine ne_iconst X dX3_come_21 ?_
      refine ne_icmp_le (tgt := 30) X dX3_come_22 rfl (by omega) (by omega) (fun b22 => ?_) (fun b22 => ?_)
      · refine ne_aload_n X dX3_come_30 rfl ?_
        refine ne_getf X dX3_come_31 nw_fX3_9 rfl rfl ?_
        refine ne_iload_n X dX3_come_34 rfl ?_
        refine ne_ialdR X dX3_come_35 rfl (by omega) Ic (fun v35 e35 f35 u35 => ?_)
        refine ne_i2l (by omega) X dX3_come_36 ?_
        refine ne_lload_n X dX3_come_37 rfl ?_
        refine ne_lcif_ne (tgt := 57) X dX3_come_38 dX3_come_39 rfl (by omega) (by omega) (fun b39 => ?_) (fun b39 => ?_)
        · refine ne_iconst X dX3_come_57 ?_
          refine ne_istore X dX3_come_58 (by decide) ?_
          refine ne_aload_n X dX3_come_60 rfl ?_
          refine ne_getf X dX3_come_61 nw_fX3_9 rfl rfl ?_
          refine ne_iload_n X dX3_come_64 rfl ?_
          refine ne_lload_n X dX3_come_65 rfl ?_
          refine ne_l2i X dX3_come_66 ?_
          refine ne_iastR X dX3_come_67 rfl (by omega) (ne_rg_mono Ic (by omega) (by omega)) (a := -999999) (b := 999999) (by omega) (fun c67 hc67 Ic => ?_)
          refine ne_ws (ws' := mW c67 q t b k h vt) rfl ?_
          refine ne_aload_n X dX3_come_68 rfl ?_
          refine ne_getf X dX3_come_69 nw_fX3_15 rfl rfl ?_
          refine ne_iload_n X dX3_come_72 rfl ?_
          refine ne_iload X dX3_come_73 rfl ?_
          refine ne_iastR X dX3_come_75 rfl (by omega) (ne_rg_mono Iq (by omega) (by omega)) (a := 0) (b := 3) (by omega) (fun q75 hq75 Iq => ?_)
          refine ne_ws (ws' := mW c67 q75 t b k h vt) rfl ?_
          refine ne_aload_n X dX3_come_76 rfl ?_
          refine ne_getf X dX3_come_77 nw_fX3_27 rfl rfl ?_
          refine ne_iconst X dX3_come_80 ?_
          refine ne_dup2ai X dX3_come_81 ?_
          refine ne_ialdR X dX3_come_82 rfl (by omega) Ih (fun v82 e82 f82 u82 => ?_)
          refine ne_iconst X dX3_come_83 ?_
          refine ne_iadd X dX3_come_84 ?_
          refine ne_iastR X dX3_come_85 rfl (by omega) (ne_rg_mono Ih (by omega) (by omega)) (a := 0) (b := T + 1) (by omega) (fun h85 hh85 Ih => ?_)
          refine ne_ws (ws' := mW c67 q75 t b k h85 vt) rfl ?_
          refine ne_iload X dX3_come_86 rfl ?_
          refine ne_if_eq (tgt := 95) X dX3_come_88 rfl (by omega) (fun b88 => ?_) (fun b88 => ?_)
          · refine ne_iconst X dX3_come_95 ?_
            exact ne_iret X hr (by first | rfl | decide | rfl) dX3_come_96 ⟨_, _, _, rfl, Ic, Iq, Ih, _, rfl, by omega, by omega⟩
          · exfalso; omega
        · refine ne_aload_n X dX3_come_42 rfl ?_
          refine ne_getf X dX3_come_43 nw_fX3_15 rfl rfl ?_
          refine ne_iload_n X dX3_come_46 rfl ?_
          refine ne_ialdR X dX3_come_47 rfl (by omega) Iq (fun v47 e47 f47 u47 => ?_)
          refine ne_iload X dX3_come_48 rfl ?_
          refine ne_icmp_ne (tgt := 57) X dX3_come_50 rfl (by omega) (by omega) (fun b50 => ?_) (fun b50 => ?_)
          · refine ne_iconst X dX3_come_57 ?_
            refine ne_istore X dX3_come_58 (by decide) ?_
            refine ne_aload_n X dX3_come_60 rfl ?_
            refine ne_getf X dX3_come_61 nw_fX3_9 rfl rfl ?_
            refine ne_iload_n X dX3_come_64 rfl ?_
            refine ne_lload_n X dX3_come_65 rfl ?_
            refine ne_l2i X dX3_come_66 ?_
            refine ne_iastR X dX3_come_67 rfl (by omega) (ne_rg_mono Ic (by omega) (by omega)) (a := -999999) (b := 999999) (by omega) (fun c67 hc67 Ic => ?_)
            refine ne_ws (ws' := mW c67 q t b k h vt) rfl ?_
            refine ne_aload_n X dX3_come_68 rfl ?_
            refine ne_getf X dX3_come_69 nw_fX3_15 rfl rfl ?_
            refine ne_iload_n X dX3_come_72 rfl ?_
            refine ne_iload X dX3_come_73 rfl ?_
            refine ne_iastR X dX3_come_75 rfl (by omega) (ne_rg_mono Iq (by omega) (by omega)) (a := 0) (b := 3) (by omega) (fun q75 hq75 Iq => ?_)
            refine ne_ws (ws' := mW c67 q75 t b k h vt) rfl ?_
            refine ne_aload_n X dX3_come_76 rfl ?_
            refine ne_getf X dX3_come_77 nw_fX3_27 rfl rfl ?_
            refine ne_iconst X dX3_come_80 ?_
            refine ne_dup2ai X dX3_come_81 ?_
            refine ne_ialdR X dX3_come_82 rfl (by omega) Ih (fun v82 e82 f82 u82 => ?_)
            refine ne_iconst X dX3_come_83 ?_
            refine ne_iadd X dX3_come_84 ?_
            refine ne_iastR X dX3_come_85 rfl (by omega) (ne_rg_mono Ih (by omega) (by omega)) (a := 0) (b := T + 1) (by omega) (fun h85 hh85 Ih => ?_)
            refine ne_ws (ws' := mW c67 q75 t b k h85 vt) rfl ?_
            refine ne_iload X dX3_come_86 rfl ?_
            refine ne_if_eq (tgt := 95) X dX3_come_88 rfl (by omega) (fun b88 => ?_) (fun b88 => ?_)
            · refine ne_iconst X dX3_come_95 ?_
              exact ne_iret X hr (by first | rfl | decide | rfl) dX3_come_96 ⟨_, _, _, rfl, Ic, Iq, Ih, _, rfl, by omega, by omega⟩
            · exfalso; omega
          · refine ne_iconst X dX3_come_53 ?_
            refine ne_goto (tgt := 58) X dX3_come_54 rfl ?_
            refine ne_istore X dX3_come_58 (by decide) ?_
            refine ne_aload_n X dX3_come_60 rfl ?_
            refine ne_getf X dX3_come_61 nw_fX3_9 rfl rfl ?_
            refine ne_iload_n X dX3_come_64 rfl ?_
            refine ne_lload_n X dX3_come_65 rfl ?_
            refine ne_l2i X dX3_come_66 ?_
            refine ne_iastR X dX3_come_67 rfl (by omega) (ne_rg_mono Ic (by omega) (by omega)) (a := -999999) (b := 999999) (by omega) (fun c67 hc67 Ic => ?_)
            refine ne_ws (ws' := mW c67 q t b k h vt) rfl ?_
            refine ne_aload_n X dX3_come_68 rfl ?_
            refine ne_getf X dX3_come_69 nw_fX3_15 rfl rfl ?_
            refine ne_iload_n X dX3_come_72 rfl ?_
            refine ne_iload X dX3_come_73 rfl ?_
            refine ne_iastR X dX3_come_75 rfl (by omega) (ne_rg_mono Iq (by omega) (by omega)) (a := 0) (b := 3) (by omega) (fun q75 hq75 Iq => ?_)
            refine ne_ws (ws' := mW c67 q75 t b k h vt) rfl ?_
            refine ne_aload_n X dX3_come_76 rfl ?_
            refine ne_getf X dX3_come_77 nw_fX3_27 rfl rfl ?_
            refine ne_iconst X dX3_come_80 ?_
            refine ne_dup2ai X dX3_come_81 ?_
            refine ne_ialdR X dX3_come_82 rfl (by omega) Ih (fun v82 e82 f82 u82 => ?_)
            refine ne_iconst X dX3_come_83 ?_
            refine ne_iadd X dX3_come_84 ?_
            refine ne_iastR X dX3_come_85 rfl (by omega) (ne_rg_mono Ih (by omega) (by omega)) (a := 0) (b := T + 1) (by omega) (fun h85 hh85 Ih => ?_)
            refine ne_ws (ws' := mW c67 q75 t b k h85 vt) rfl ?_
            refine ne_iload X dX3_come_86 rfl ?_
            refine ne_if_eq (tgt := 95) X dX3_come_88 rfl (by omega) (fun b88 => ?_) (fun b88 => ?_)
            · exfalso; omega
            · refine ne_iconst X dX3_come_91 ?_
              refine ne_goto (tgt := 96) X dX3_come_92 rfl ?_
              exact ne_iret X hr (by first | rfl | decide | rfl) dX3_come_96 ⟨_, _, _, rfl, Ic, Iq, Ih, _, rfl, by omega, by omega⟩
      · refine ne_aload_n X dX3_come_25 rfl ?_
        refine ne_callV X nw_Tg (me_X3_nay l hl c q t b k h vt T (by exact ⟨Ic, Iq, It, Ib, Itb, Igb, Ik, Ih, Iv⟩) (by omega) ) nw_yX3_nay nw_mX3_54 nw_iX3_nay nw_eX3_nay (ci := 5) rfl rfl rfl dX3_come_26 rfl rfl (by decide) (by decide) (by first | decide | omega) (by first | decide | omega) (Nat.le_of_ble_eq_true rfl) rfl rfl (Nat.le_of_ble_eq_true rfl) ?_ ?_
        rotate_left
        · rintro E9 w9 h9; exact h9.elim
        rintro v26 w26 ⟨h26, rfl, Ih, rfl⟩
        exact ne_iret X hr (by first | rfl | decide | rfl) dX3_come_29 ⟨_, _, _, rfl, Ic, Iq, Ih, _, rfl, by omega, by omega⟩
set_option maxRecDepth 100000 in
set_option maxHeartbeats 4000000 in
theorem me_X3_units (l : Launch) (hl : l.stackTraces = false) (c q t b k h : Nat → Int) (vt T : Int) (hI : mI c q t b k h vt T) (hT : 0 ≤ T ∧ T ≤ 1000000) (i p : Int) (hi : 0 ≤ i ∧ i < 4) (hp : 0 ≤ p ∧ p ≤ 3) : ne_M l nw_cl (.code yX3_units cX3_units 3 (some .long)) nw_T yX3_units 1 40 0 0 [.ref 0, ni i, ni p] (mW c q t b k h vt) (fun v w => w = mW c q t b k h vt ∧ ∃ z : Int, v = some (nl z) ∧ -1000000000 ≤ z ∧ z ≤ 1000000000) (fun _ _ => False) := by
  refine ne_meet (own := RX3) hl rfl (by decide +kernel) (Nat.le_of_ble_eq_true rfl) ?_
  intro D ct A P9 V9 R9 S9 M9 as9 bl9 mt9 C9 ad0 X hr hin ht
  obtain ⟨Ic, Iq, It, Ib, Itb, Igb, Ik, Ih, Iv⟩ := hI
  refine ne_aload_n X dX3_units_0 rfl ?_
  refine ne_getf X dX3_units_1 nw_fX3_9 rfl rfl ?_
  refine ne_iload_n X dX3_units_4 rfl ?_
  refine ne_ialdR X dX3_units_5 rfl (by omega) Ic (fun v5 e5 f5 u5 => ?_)
  refine ne_i2l (by omega) X dX3_units_6 ?_
  refine ne_iload_n X dX3_units_7 rfl ?_
  refine ne_aload_n X dX3_units_8 rfl ?_
  refine ne_getf X dX3_units_9 nw_fX3_15 rfl rfl ?_
  refine ne_iload_n X dX3_units_12 rfl ?_
  refine ne_ialdR X dX3_units_13 rfl (by omega) Iq (fun v13 e13 f13 u13 => ?_)
  refine ne_isub X dX3_units_14 ?_
  refine ne_callS X nw_Tg (me_X3_ten l hl _ _ (by omega)) nw_yX3_ten nw_mX3_58 nw_sX3_ten dX3_units_15 rfl rfl (by decide) (by decide) (by first | decide | omega) (by first | decide | omega) (Nat.le_of_ble_eq_true rfl) rfl rfl (Nat.le_of_ble_eq_true rfl) ?_ ?_
  rotate_left
  · rintro E9 w9 h9; exact h9.elim
  rintro v15 w15 ⟨rfl, z15, rfl, g15, k15, i15, j15, m15, o15, p15⟩
  have m15 := ne_mul v5 z15 999999 1000 (by omega) (by omega)
  refine ne_lmul X dX3_units_18 ?_
  exact ne_lret X hr dX3_units_19 ⟨rfl, _, rfl, by omega, by omega⟩
set_option maxRecDepth 100000 in
set_option maxHeartbeats 4000000 in
theorem me_X3_most (l : Launch) (hl : l.stackTraces = false) (c q t b k h : Nat → Int) (vt T : Int) (hI : mI c q t b k h vt T) (hT : 0 ≤ T ∧ T ≤ 1000000) (i j : Int) (hi : 0 ≤ i ∧ i < 4) (hj : 0 ≤ j ∧ j < 4) : ne_M l nw_cl (.code yX3_most cX3_most 3 (some .int)) nw_T yX3_most 0 0 0 0 [.ref 0, ni i, ni j] (mW c q t b k h vt) (fun v w => w = mW c q t b k h vt ∧ ∃ z : Int, v = some (ni z) ∧ 0 ≤ z ∧ z ≤ 3) (fun _ _ => False) := by
  refine ne_meet (own := RX3) hl rfl (by decide +kernel) (Nat.le_of_ble_eq_true rfl) ?_
  intro D ct A P9 V9 R9 S9 M9 as9 bl9 mt9 C9 ad0 X hr hin ht
  obtain ⟨Ic, Iq, It, Ib, Itb, Igb, Ik, Ih, Iv⟩ := hI
  refine ne_aload_n X dX3_most_0 rfl ?_
  refine ne_getf X dX3_most_1 nw_fX3_15 rfl rfl ?_
  refine ne_iload_n X dX3_most_4 rfl ?_
  refine ne_ialdR X dX3_most_5 rfl (by omega) Iq (fun v5 e5 f5 u5 => ?_)
  refine ne_aload_n X dX3_most_6 rfl ?_
  refine ne_getf X dX3_most_7 nw_fX3_15 rfl rfl ?_
  refine ne_iload_n X dX3_most_10 rfl ?_
  refine ne_ialdR X dX3_most_11 rfl (by omega) Iq (fun v11 e11 f11 u11 => ?_)
  refine ne_icmp_le (tgt := 24) X dX3_most_12 rfl (by omega) (by omega) (fun b12 => ?_) (fun b12 => ?_)
  · refine ne_aload_n X dX3_most_24 rfl ?_
    refine ne_getf X dX3_most_25 nw_fX3_15 rfl rfl ?_
    refine ne_iload_n X dX3_most_28 rfl ?_
    refine ne_ialdR X dX3_most_29 rfl (by omega) Iq (fun v29 e29 f29 u29 => ?_)
    exact ne_iret X hr (by first | rfl | decide | rfl) dX3_most_30 ⟨rfl, _, rfl, by omega⟩
  · refine ne_aload_n X dX3_most_15 rfl ?_
    refine ne_getf X dX3_most_16 nw_fX3_15 rfl rfl ?_
    refine ne_iload_n X dX3_most_19 rfl ?_
    refine ne_ialdR X dX3_most_20 rfl (by omega) Iq (fun v20 e20 f20 u20 => ?_)
    refine ne_goto (tgt := 30) X dX3_most_21 rfl ?_
    exact ne_iret X hr (by first | rfl | decide | rfl) dX3_most_30 ⟨rfl, _, rfl, by omega⟩
set_option maxRecDepth 100000 in
set_option maxHeartbeats 4000000 in
theorem me_X3_ordered (l : Launch) (hl : l.stackTraces = false) (c q t b k h : Nat → Int) (vt T : Int) (hI : mI c q t b k h vt T) (hT : 0 ≤ T ∧ T ≤ 1000000) (i j : Int) (hi : 0 ≤ i ∧ i < 4) (hj : 0 ≤ j ∧ j < 4) : ne_M l nw_cl (.code yX3_ordered cX3_ordered 3 (some .int)) nw_T yX3_ordered 2 80 0 0 [.ref 0, ni i, ni j] (mW c q t b k h vt) (fun v w => w = mW c q t b k h vt ∧ ∃ z : Int, v = some (ni z) ∧ -1 ≤ z ∧ z ≤ 1) (fun _ _ => False) := by
  refine ne_meet (own := RX3) hl rfl (by decide +kernel) (Nat.le_of_ble_eq_true rfl) ?_
  intro D ct A P9 V9 R9 S9 M9 as9 bl9 mt9 C9 ad0 X hr hin ht
  obtain ⟨Ic, Iq, It, Ib, Itb, Igb, Ik, Ih, Iv⟩ := hI
  refine ne_aload_n X dX3_ordered_0 rfl ?_
  refine ne_iload_n X dX3_ordered_1 rfl ?_
  refine ne_iconst X dX3_ordered_2 ?_
  refine ne_callV X nw_Tg (me_X3_units l hl c q t b k h vt T (by exact ⟨Ic, Iq, It, Ib, Itb, Igb, Ik, Ih, Iv⟩) (by omega) _ _ (by omega) (by omega)) nw_yX3_units nw_mX3_62 nw_iX3_units nw_eX3_units (ci := 5) rfl rfl rfl dX3_ordered_3 rfl rfl (by decide) (by decide) (by first | decide | omega) (by first | decide | omega) (Nat.le_of_ble_eq_true rfl) rfl rfl (Nat.le_of_ble_eq_true rfl) ?_ ?_
  rotate_left
  · rintro E9 w9 h9; exact h9.elim
  rintro v3 w3 ⟨rfl, z3, rfl, g3, k3⟩
  refine ne_aload_n X dX3_ordered_6 rfl ?_
  refine ne_iload_n X dX3_ordered_7 rfl ?_
  refine ne_iconst X dX3_ordered_8 ?_
  refine ne_callV X nw_Tg (me_X3_units l hl c q t b k h vt T (by exact ⟨Ic, Iq, It, Ib, Itb, Igb, Ik, Ih, Iv⟩) (by omega) _ _ (by omega) (by omega)) nw_yX3_units nw_mX3_62 nw_iX3_units nw_eX3_units (ci := 5) rfl rfl rfl dX3_ordered_9 rfl rfl (by decide) (by decide) (by first | decide | omega) (by first | decide | omega) (Nat.le_of_ble_eq_true rfl) rfl rfl (Nat.le_of_ble_eq_true rfl) ?_ ?_
  rotate_left
  · rintro E9 w9 h9; exact h9.elim
  rintro v9 w9 ⟨rfl, z9, rfl, g9, k9⟩
  refine ne_callS X nw_Tg (me_X3_side l hl _ _ _ (by omega) (by omega)) nw_yX3_side nw_mX3_48 nw_sX3_side dX3_ordered_12 rfl rfl (by decide) (by decide) (by first | decide | omega) (by first | decide | omega) (Nat.le_of_ble_eq_true rfl) rfl rfl (Nat.le_of_ble_eq_true rfl) ?_ ?_
  rotate_left
  · rintro E9 w9 h9; exact h9.elim
  rintro v12 w12 ⟨rfl, z12, rfl, g12, k12, i12, j12⟩
  exact ne_iret X hr (by first | rfl | decide | rfl) dX3_ordered_15 ⟨rfl, _, rfl, by omega⟩
set_option maxRecDepth 100000 in
set_option maxHeartbeats 4000000 in
theorem me_X3_areNoCells (l : Launch) (hl : l.stackTraces = false) (c q t b k h : Nat → Int) (vt T : Int) (hI : mI c q t b k h vt T) (hT : 0 ≤ T ∧ T ≤ 1000000) (i j o : Int) (hi : -2147483648 ≤ i ∧ i < 2147483648) (hj : -2147483648 ≤ j ∧ j < 2147483648) (ho : -2147483648 ≤ o ∧ o < 2147483648) : ne_M l nw_cl (.code yX3_areNoCells cX3_areNoCells 4 (some .boolean)) nw_T yX3_areNoCells 2 80 0 0 [.ref 0, ni i, ni j, ni o] (mW c q t b k h vt) (fun v w => w = mW c q t b k h vt ∧ ∃ z : Int, v = some (ni z) ∧ (z = 1 ∨ (z = 0 ∧ 0 ≤ i ∧ i < 4 ∧ 0 ≤ j ∧ j < 4 ∧ 0 ≤ o ∧ o < 4))) (fun _ _ => False) := by
  refine ne_meet (own := RX3) hl rfl (by decide +kernel) (Nat.le_of_ble_eq_true rfl) ?_
  intro D ct A P9 V9 R9 S9 M9 as9 bl9 mt9 C9 ad0 X hr hin ht
  obtain ⟨Ic, Iq, It, Ib, Itb, Igb, Ik, Ih, Iv⟩ := hI
  refine ne_iload_n X dX3_areNoCells_0 rfl ?_
  refine ne_callS X nw_Tg (me_X3_isNoCell l hl _ _ (by omega)) nw_yX3_isNoCell nw_mX3_66 nw_sX3_isNoCell dX3_areNoCells_1 rfl rfl (by decide) (by decide) (by first | decide | omega) (by first | decide | omega) (Nat.le_of_ble_eq_true rfl) rfl rfl (Nat.le_of_ble_eq_true rfl) ?_ ?_
  rotate_left
  · rintro E9 w9 h9; exact h9.elim
  rintro v1 w1 ⟨rfl, z1, rfl, g1⟩
  refine ne_if_ne (tgt := 21) X dX3_areNoCells_4 rfl (by omega) (fun b4 => ?_) (fun b4 => ?_)
  · refine ne_iconst X dX3_areNoCells_21 ?_
    refine ne_goto (tgt := 26) X dX3_areNoCells_22 rfl ?_
    exact ne_iret X hr (by first | rfl | decide | rfl) dX3_areNoCells_26 ⟨rfl, _, rfl, by omega⟩
  · refine ne_iload_n X dX3_areNoCells_7 rfl ?_
    refine ne_callS X nw_Tg (me_X3_isNoCell l hl _ _ (by omega)) nw_yX3_isNoCell nw_mX3_66 nw_sX3_isNoCell dX3_areNoCells_8 rfl rfl (by decide) (by decide) (by first | decide | omega) (by first | decide | omega) (Nat.le_of_ble_eq_true rfl) rfl rfl (Nat.le_of_ble_eq_true rfl) ?_ ?_
    rotate_left
    · rintro E9 w9 h9; exact h9.elim
    rintro v8 w8 ⟨rfl, z8, rfl, g8⟩
    refine ne_if_ne (tgt := 21) X dX3_areNoCells_11 rfl (by omega) (fun b11 => ?_) (fun b11 => ?_)
    · refine ne_iconst X dX3_areNoCells_21 ?_
      refine ne_goto (tgt := 26) X dX3_areNoCells_22 rfl ?_
      exact ne_iret X hr (by first | rfl | decide | rfl) dX3_areNoCells_26 ⟨rfl, _, rfl, by omega⟩
    · refine ne_iload_n X dX3_areNoCells_14 rfl ?_
      refine ne_callS X nw_Tg (me_X3_isNoCell l hl _ _ (by omega)) nw_yX3_isNoCell nw_mX3_66 nw_sX3_isNoCell dX3_areNoCells_15 rfl rfl (by decide) (by decide) (by first | decide | omega) (by first | decide | omega) (Nat.le_of_ble_eq_true rfl) rfl rfl (Nat.le_of_ble_eq_true rfl) ?_ ?_
      rotate_left
      · rintro E9 w9 h9; exact h9.elim
      rintro v15 w15 ⟨rfl, z15, rfl, g15⟩
      refine ne_if_eq (tgt := 25) X dX3_areNoCells_18 rfl (by omega) (fun b18 => ?_) (fun b18 => ?_)
      · refine ne_iconst X dX3_areNoCells_25 ?_
        exact ne_iret X hr (by first | rfl | decide | rfl) dX3_areNoCells_26 ⟨rfl, _, rfl, by omega⟩
      · refine ne_iconst X dX3_areNoCells_21 ?_
        refine ne_goto (tgt := 26) X dX3_areNoCells_22 rfl ?_
        exact ne_iret X hr (by first | rfl | decide | rfl) dX3_areNoCells_26 ⟨rfl, _, rfl, by omega⟩
set_option maxRecDepth 100000 in
set_option maxHeartbeats 4000000 in
theorem me_X3_wholeOf (l : Launch) (hl : l.stackTraces = false) (c q t b k h : Nat → Int) (vt T : Int) (hI : mI c q t b k h vt T) (hT : 0 ≤ T ∧ T ≤ 1000000) (i a : Int) (hi : 0 ≤ i ∧ i < 4) (ha : -99 ≤ a ∧ a ≤ 99) (h0 : a ≠ 0) : ne_M l nw_cl (.code yX3_wholeOf cX3_wholeOf 3 (some .long)) nw_T yX3_wholeOf 1 40 0 0 [.ref 0, ni i, ni a] (mW c q t b k h vt) (fun v w => w = mW c q t b k h vt ∧ ∃ z : Int, v = some (nl z) ∧ -999999 ≤ z ∧ z ≤ 999999) (fun _ _ => False) := by
  refine ne_meet (own := RX3) hl rfl (by decide +kernel) (Nat.le_of_ble_eq_true rfl) ?_
  intro D ct A P9 V9 R9 S9 M9 as9 bl9 mt9 C9 ad0 X hr hin ht
  obtain ⟨Ic, Iq, It, Ib, Itb, Igb, Ik, Ih, Iv⟩ := hI
  refine ne_aload_n X dX3_wholeOf_0 rfl ?_
  refine ne_getf X dX3_wholeOf_1 nw_fX3_9 rfl rfl ?_
  refine ne_iload_n X dX3_wholeOf_4 rfl ?_
  refine ne_ialdR X dX3_wholeOf_5 rfl (by omega) Ic (fun v5 e5 f5 u5 => ?_)
  refine ne_i2l (by omega) X dX3_wholeOf_6 ?_
  refine ne_iload_n X dX3_wholeOf_7 rfl ?_
  refine ne_i2l (by omega) X dX3_wholeOf_8 ?_
  refine ne_aload_n X dX3_wholeOf_9 rfl ?_
  refine ne_getf X dX3_wholeOf_10 nw_fX3_15 rfl rfl ?_
  refine ne_iload_n X dX3_wholeOf_13 rfl ?_
  refine ne_ialdR X dX3_wholeOf_14 rfl (by omega) Iq (fun v14 e14 f14 u14 => ?_)
  refine ne_callS X nw_Tg (me_X3_ten l hl _ _ (by omega)) nw_yX3_ten nw_mX3_58 nw_sX3_ten dX3_wholeOf_15 rfl rfl (by decide) (by decide) (by first | decide | omega) (by first | decide | omega) (Nat.le_of_ble_eq_true rfl) rfl rfl (Nat.le_of_ble_eq_true rfl) ?_ ?_
  rotate_left
  · rintro E9 w9 h9; exact h9.elim
  rintro v15 w15 ⟨rfl, z15, rfl, g15, k15, i15, j15, m15, o15, p15⟩
  have m15 := ne_mul a z15 99 1000 (by omega) (by omega)
  have m16 : a * z15 ≠ 0 := Int.mul_ne_zero h0 (by omega)
  have t15 := ne_tq v5 (a * z15)
  refine ne_lmul X dX3_wholeOf_18 ?_
  refine ne_ldiv X dX3_wholeOf_19 (by omega) (by omega) (by omega) ?_
  exact ne_lret X hr dX3_wholeOf_20 ⟨rfl, _, rfl, by omega, by omega⟩
set_option maxRecDepth 100000 in
set_option maxHeartbeats 4000000 in
theorem me_X3_cutOf (l : Launch) (hl : l.stackTraces = false) (c q t b k h : Nat → Int) (vt T : Int) (hI : mI c q t b k h vt T) (hT : 0 ≤ T ∧ T ≤ 1000000) (i m p w0 : Int) (hi : 0 ≤ i ∧ i < 3) (hm : 0 ≤ m ∧ m ≤ 1) (hp : 0 ≤ p ∧ p ≤ 16) (hw : 0 ≤ w0 ∧ w0 ≤ 7) : ne_M l nw_cl (.code yX3_cutOf cX3_cutOf 7 (some .long)) nw_T yX3_cutOf 2 80 0 0 [.ref 0, ni i, ni m, ni p, ni w0] (mW c q t b k h vt) (fun v w => w = mW c q t b k h vt ∧ ∃ z : Int, v = some (nl z) ∧ (z = -9223372036854775808 ∨ (-980000000000000001 ≤ z ∧ z ≤ 980000000000000001))) (fun _ _ => False) := by
  refine ne_meet (own := RX3) hl rfl (by decide +kernel) (Nat.le_of_ble_eq_true rfl) ?_
  intro D ct A P9 V9 R9 S9 M9 as9 bl9 mt9 C9 ad0 X hr hin ht
  obtain ⟨Ic, Iq, It, Ib, Itb, Igb, Ik, Ih, Iv⟩ := hI
  refine ne_aload_n X dX3_cutOf_0 rfl ?_
  refine ne_getf X dX3_cutOf_1 nw_fX3_18 rfl rfl ?_
  refine ne_iload_n X dX3_cutOf_4 rfl ?_
  refine ne_ialdR X dX3_cutOf_5 rfl (by omega) It (fun v5 e5 f5 u5 => ?_)
  refine ne_i2l (by omega) X dX3_cutOf_6 ?_
  refine ne_iload_n X dX3_cutOf_7 rfl ?_
  refine ne_callS X nw_Tg (me_X3_ten l hl _ _ (by omega)) nw_yX3_ten nw_mX3_58 nw_sX3_ten dX3_cutOf_8 rfl rfl (by decide) (by decide) (by first | decide | omega) (by first | decide | omega) (Nat.le_of_ble_eq_true rfl) rfl rfl (Nat.le_of_ble_eq_true rfl) ?_ ?_
  rotate_left
  · rintro E9 w9 h9; exact h9.elim
  rintro v8 w8 ⟨rfl, z8, rfl, g8, k8, i8, j8, m8, o8, p8⟩
  have m8 := ne_mul v5 z8 98 10000000000000000 (by omega) (by omega)
  refine ne_lmul X dX3_cutOf_11 ?_
  refine ne_lstore X dX3_cutOf_12 (by decide) ?_
  refine ne_iload_n X dX3_cutOf_14 rfl ?_
  refine ne_if_eq (tgt := 24) X dX3_cutOf_15 rfl (by omega) (fun b15 => ?_) (fun b15 => ?_)
  · refine ne_lload X dX3_cutOf_24 rfl ?_
    refine ne_aload_n X dX3_cutOf_26 rfl ?_
    refine ne_getf X dX3_cutOf_27 nw_fX3_21 rfl rfl ?_
    refine ne_iload_n X dX3_cutOf_30 rfl ?_
    refine ne_ialdR X dX3_cutOf_31 rfl (by omega) Ib (fun v31 e31 f31 u31 => ?_)
    refine ne_i2l (by omega) X dX3_cutOf_32 ?_
    refine ne_iload X dX3_cutOf_33 rfl ?_
    refine ne_callS X nw_Tg (me_X3_rounded l hl _ 980000000000000000 _ _ _ (by omega) (by omega) (by omega) (by omega)) nw_yX3_rounded nw_mX3_90 nw_sX3_rounded dX3_cutOf_35 rfl rfl (by decide) (by decide) (by first | decide | omega) (by first | decide | omega) (Nat.le_of_ble_eq_true rfl) rfl rfl (Nat.le_of_ble_eq_true rfl) ?_ ?_
    rotate_left
    · rintro E9 w9 h9; exact h9.elim
    rintro v35 w35 ⟨rfl, z35, rfl, g35⟩
    exact ne_lret X hr dX3_cutOf_38 ⟨rfl, _, rfl, by omega⟩
  · refine ne_lload X dX3_cutOf_18 rfl ?_
    refine ne_lneg X dX3_cutOf_20 ?_
    refine ne_goto (tgt := 26) X dX3_cutOf_21 rfl ?_
    refine ne_aload_n X dX3_cutOf_26 rfl ?_
    refine ne_getf X dX3_cutOf_27 nw_fX3_21 rfl rfl ?_
    refine ne_iload_n X dX3_cutOf_30 rfl ?_
    refine ne_ialdR X dX3_cutOf_31 rfl (by omega) Ib (fun v31 e31 f31 u31 => ?_)
    refine ne_i2l (by omega) X dX3_cutOf_32 ?_
    refine ne_iload X dX3_cutOf_33 rfl ?_
    refine ne_callS X nw_Tg (me_X3_rounded l hl _ 980000000000000000 _ _ _ (by omega) (by omega) (by omega) (by omega)) nw_yX3_rounded nw_mX3_90 nw_sX3_rounded dX3_cutOf_35 rfl rfl (by decide) (by decide) (by first | decide | omega) (by first | decide | omega) (Nat.le_of_ble_eq_true rfl) rfl rfl (Nat.le_of_ble_eq_true rfl) ?_ ?_
    rotate_left
    · rintro E9 w9 h9; exact h9.elim
    rintro v35 w35 ⟨rfl, z35, rfl, g35⟩
    exact ne_lret X hr dX3_cutOf_38 ⟨rfl, _, rfl, by omega⟩
set_option maxRecDepth 100000 in
set_option maxHeartbeats 4000000 in
theorem me_X3_areSame (l : Launch) (hl : l.stackTraces = false) (c q t b k h : Nat → Int) (vt T : Int) (hI : mI c q t b k h vt T) (hT : 0 ≤ T ∧ T ≤ 1000000) (i j : Int) (hi : 0 ≤ i ∧ i < 4) (hj : 0 ≤ j ∧ j < 4) : ne_M l nw_cl (.code yX3_areSame cX3_areSame 3 (some .boolean)) nw_T yX3_areSame 0 0 0 0 [.ref 0, ni i, ni j] (mW c q t b k h vt) (fun v w => w = mW c q t b k h vt ∧ ∃ z : Int, v = some (ni z) ∧ 0 ≤ z ∧ z ≤ 1) (fun _ _ => False) := by
  refine ne_meet (own := RX3) hl rfl (by decide +kernel) (Nat.le_of_ble_eq_true rfl) ?_
  intro D ct A P9 V9 R9 S9 M9 as9 bl9 mt9 C9 ad0 X hr hin ht
  obtain ⟨Ic, Iq, It, Ib, Itb, Igb, Ik, Ih, Iv⟩ := hI
  refine ne_aload_n X dX3_areSame_0 rfl ?_
  refine ne_getf X dX3_areSame_1 nw_fX3_9 rfl rfl ?_
  refine ne_iload_n X dX3_areSame_4 rfl ?_
  refine ne_ialdR X dX3_areSame_5 rfl (by omega) Ic (fun v5 e5 f5 u5 => ?_)
  refine ne_aload_n X dX3_areSame_6 rfl ?_
  refine ne_getf X dX3_areSame_7 nw_fX3_9 rfl rfl ?_
  refine ne_iload_n X dX3_areSame_10 rfl ?_
  refine ne_ialdR X dX3_areSame_11 rfl (by omega) Ic (fun v11 e11 f11 u11 => ?_)
  refine ne_icmp_ne (tgt := 34) X dX3_areSame_12 rfl (by omega) (by omega) (fun b12 => ?_) (fun b12 => ?_)
  · refine ne_iconst X dX3_areSame_34 ?_
    exact ne_iret X hr (by first | rfl | decide | rfl) dX3_areSame_35 ⟨rfl, _, rfl, by omega⟩
  · refine ne_aload_n X dX3_areSame_15 rfl ?_
    refine ne_getf X dX3_areSame_16 nw_fX3_15 rfl rfl ?_
    refine ne_iload_n X dX3_areSame_19 rfl ?_
    refine ne_ialdR X dX3_areSame_20 rfl (by omega) Iq (fun v20 e20 f20 u20 => ?_)
    refine ne_aload_n X dX3_areSame_21 rfl ?_
    refine ne_getf X dX3_areSame_22 nw_fX3_15 rfl rfl ?_
    refine ne_iload_n X dX3_areSame_25 rfl ?_
    refine ne_ialdR X dX3_areSame_26 rfl (by omega) Iq (fun v26 e26 f26 u26 => ?_)
    refine ne_icmp_ne (tgt := 34) X dX3_areSame_27 rfl (by omega) (by omega) (fun b27 => ?_) (fun b27 => ?_)
    · refine ne_iconst X dX3_areSame_34 ?_
      exact ne_iret X hr (by first | rfl | decide | rfl) dX3_areSame_35 ⟨rfl, _, rfl, by omega⟩
    · refine ne_iconst X dX3_areSame_30 ?_
      refine ne_goto (tgt := 35) X dX3_areSame_31 rfl ?_
      exact ne_iret X hr (by first | rfl | decide | rfl) dX3_areSame_35 ⟨rfl, _, rfl, by omega⟩
set_option maxRecDepth 100000 in
set_option maxHeartbeats 4000000 in
theorem me_X3_lengthOf_ (l : Launch) (hl : l.stackTraces = false) (c q t b k h : Nat → Int) (vt T : Int) (hI : mI c q t b k h vt T) (hT : 0 ≤ T ∧ T ≤ 1000000) (i : Int) (hi : 0 ≤ i ∧ i < 3) : ne_M l nw_cl (.code yX3_lengthOf_ cX3_lengthOf_ 2 (some .int)) nw_T yX3_lengthOf_ 1 40 0 0 [.ref 0, ni i] (mW c q t b k h vt) (fun v w => w = mW c q t b k h vt ∧ ∃ z : Int, v = some (ni z) ∧ ne_per (t i.toNat) (b i.toNat) z ∧ 1 ≤ z ∧ z ≤ 96) (fun _ _ => False) := by
  refine ne_meet (own := RX3) hl rfl (by decide +kernel) (Nat.le_of_ble_eq_true rfl) ?_
  intro D ct A P9 V9 R9 S9 M9 as9 bl9 mt9 C9 ad0 X hr hin ht
  obtain ⟨Ic, Iq, It, Ib, Itb, Igb, Ik, Ih, Iv⟩ := hI
  have htb9 := Itb i.toNat
  have hb9 := Ib i.toNat
  have ht9 := It i.toNat
  have hgb9 := Igb i.toNat
  refine ne_aload_n X dX3_lengthOf__0 rfl ?_
  refine ne_getf X dX3_lengthOf__1 nw_fX3_18 rfl rfl ?_
  refine ne_iload_n X dX3_lengthOf__4 rfl ?_
  refine ne_ialdR X dX3_lengthOf__5 rfl (by omega) It (fun v5 e5 f5 u5 => ?_)
  refine ne_aload_n X dX3_lengthOf__6 rfl ?_
  refine ne_getf X dX3_lengthOf__7 nw_fX3_21 rfl rfl ?_
  refine ne_iload_n X dX3_lengthOf__10 rfl ?_
  refine ne_ialdR X dX3_lengthOf__11 rfl (by omega) Ib (fun v11 e11 f11 u11 => ?_)
  rw [← e11] at hgb9
  have n91 := hgb9.1
  have n92 := hgb9.2
  refine ne_callS X nw_Tg (me_X3_lengthOf l hl _ _ _ (by omega) (by omega) (by omega) (by assumption) (by assumption)) nw_yX3_lengthOf nw_mX3_136 nw_sX3_lengthOf dX3_lengthOf__12 rfl rfl (by decide) (by decide) (by first | decide | omega) (by first | decide | omega) (Nat.le_of_ble_eq_true rfl) rfl rfl (Nat.le_of_ble_eq_true rfl) ?_ ?_
  rotate_left
  · rintro E9 w9 h9; exact h9.elim
  rintro v12 w12 ⟨rfl, z12, rfl, g12, k12, i12, j12⟩
  exact ne_iret X hr (by first | rfl | decide | rfl) dX3_lengthOf__15 ⟨rfl, _, rfl, ⟨by omega, by omega, by rw [← e5, ← e11]; exact i12, by rw [← e5, ← e11]; exact j12⟩, by omega, by omega⟩
set_option maxRecDepth 100000 in
set_option maxHeartbeats 4000000 in
theorem me_X3_set (l : Launch) (hl : l.stackTraces = false) (c q t b k h : Nat → Int) (vt T : Int) (hI : mI c q t b k h vt T) (hT : 0 ≤ T ∧ T ≤ 1000000) (i a d : Int) (hi : 0 ≤ i ∧ i < 3) (ha : 0 ≤ a ∧ a < d ∧ d ≤ 99) (hd : d.tmod 2 ≠ 0 ∧ d.tmod 5 ≠ 0) : ne_M l nw_cl (.code yX3_set cX3_set 4 (none)) nw_T yX3_set 0 0 0 0 [.ref 0, ni i, ni a, ni d] (mW c q t b k h vt) (fun v w => v = none ∧ ∃ t1 b1 k1 h1, w = mW c q t1 b1 k1 h1 vt ∧ ne_rg t1 0 98 ∧ ne_rg b1 1 99 ∧ (∀ j, t1 j < b1 j) ∧ (∀ j, (b1 j).tmod 2 ≠ 0 ∧ (b1 j).tmod 5 ≠ 0) ∧ ne_rg k1 0 95 ∧ ne_rg h1 0 (T + 1)) (fun _ _ => False) := by
  refine ne_meet (own := RX3) hl rfl (by decide +kernel) (Nat.le_of_ble_eq_true rfl) ?_
  intro D ct A P9 V9 R9 S9 M9 as9 bl9 mt9 C9 ad0 X hr hin ht
  obtain ⟨Ic, Iq, It, Ib, Itb, Igb, Ik, Ih, Iv⟩ := hI
  refine ne_aload_n X dX3_set_0 rfl ?_
  refine ne_getf X dX3_set_1 nw_fX3_18 rfl rfl ?_
  refine ne_iload_n X dX3_set_4 rfl ?_
  refine ne_iload_n X dX3_set_5 rfl ?_
  refine ne_iastR X dX3_set_6 rfl (by omega) (ne_rg_mono It (by omega) (by omega)) (a := 0) (b := 98) (by omega) (fun t6 ht6 It => ?_)
  refine ne_ws (ws' := mW c q t6 b k h vt) rfl ?_
  refine ne_aload_n X dX3_set_7 rfl ?_
  refine ne_getf X dX3_set_8 nw_fX3_21 rfl rfl ?_
  refine ne_iload_n X dX3_set_11 rfl ?_
  refine ne_iload_n X dX3_set_12 rfl ?_
  refine ne_iastR X dX3_set_13 rfl (by omega) (ne_rg_mono Ib (by omega) (by omega)) (a := 1) (b := 99) (by omega) (fun b13 hb13 Ib => ?_)
  refine ne_ws (ws' := mW c q t6 b13 k h vt) rfl ?_
  refine ne_aload_n X dX3_set_14 rfl ?_
  refine ne_getf X dX3_set_15 nw_fX3_24 rfl rfl ?_
  refine ne_iload_n X dX3_set_18 rfl ?_
  refine ne_iconst X dX3_set_19 ?_
  refine ne_iastR X dX3_set_20 rfl (by omega) (ne_rg_mono Ik (by omega) (by omega)) (a := 0) (b := 95) (by omega) (fun k20 hk20 Ik => ?_)
  refine ne_ws (ws' := mW c q t6 b13 k20 h vt) rfl ?_
  refine ne_aload_n X dX3_set_21 rfl ?_
  refine ne_getf X dX3_set_22 nw_fX3_27 rfl rfl ?_
  refine ne_iconst X dX3_set_25 ?_
  refine ne_dup2ai X dX3_set_26 ?_
  refine ne_ialdR X dX3_set_27 rfl (by omega) Ih (fun v27 e27 f27 u27 => ?_)
  refine ne_iconst X dX3_set_28 ?_
  refine ne_iadd X dX3_set_29 ?_
  refine ne_iastR X dX3_set_30 rfl (by omega) (ne_rg_mono Ih (by omega) (by omega)) (a := 0) (b := T + 1) (by omega) (fun h30 hh30 Ih => ?_)
  refine ne_ws (ws' := mW c q t6 b13 k20 h30 vt) rfl ?_
  exact ne_vret X hr dX3_set_31 ⟨rfl, _, _, _, _, rfl, It, Ib, (by intro m; rw [ht6, hb13]; unfold va_up; split; exact ha.2.1; exact Itb m), (by intro m; rw [hb13]; unfold va_up; split; exact hd; exact Igb m), Ik, Ih⟩
set_option maxRecDepth 100000 in
set_option maxHeartbeats 4000000 in
theorem me_X3_spokeOf (l : Launch) (hl : l.stackTraces = false) (c q t b k h : Nat → Int) (vt T : Int) (hI : mI c q t b k h vt T) (hT : 0 ≤ T ∧ T ≤ 1000000) (i w0 : Int) (hi : 0 ≤ i ∧ i < 3) (hw : 0 ≤ w0 ∧ w0 ≤ 4) : ne_M l nw_cl (.code yX3_spokeOf cX3_spokeOf 3 (some .int)) nw_T yX3_spokeOf 2 80 0 0 [.ref 0, ni i, ni w0] (mW c q t b k h vt) (fun v w => w = mW c q t b k h vt ∧ ∃ z : Int, v = some (ni z) ∧ 0 ≤ z ∧ z ≤ 99) (fun _ _ => False) := by
  refine ne_meet (own := RX3) hl rfl (by decide +kernel) (Nat.le_of_ble_eq_true rfl) ?_
  intro D ct A P9 V9 R9 S9 M9 as9 bl9 mt9 C9 ad0 X hr hin ht
  obtain ⟨Ic, Iq, It, Ib, Itb, Igb, Ik, Ih, Iv⟩ := hI
  have htb9 := Itb i.toNat
  have hb9 := Ib i.toNat
  have ht9 := It i.toNat
  have hgb9 := Igb i.toNat
  refine ne_iload_n X dX3_spokeOf_0 rfl ?_
  refine ne_if_ne (tgt := 11) X dX3_spokeOf_1 rfl (by omega) (fun b1 => ?_) (fun b1 => ?_)
  · refine ne_iload_n X dX3_spokeOf_11 rfl ?_
    refine ne_iconst X dX3_spokeOf_12 ?_
    refine ne_icmp_ne (tgt := 23) X dX3_spokeOf_13 rfl (by omega) (by omega) (fun b13 => ?_) (fun b13 => ?_)
    · refine ne_iload_n X dX3_spokeOf_23 rfl ?_
      refine ne_iconst X dX3_spokeOf_24 ?_
      refine ne_icmp_ne (tgt := 35) X dX3_spokeOf_25 rfl (by omega) (by omega) (fun b25 => ?_) (fun b25 => ?_)
      · refine ne_iload_n X dX3_spokeOf_35 rfl ?_
        refine ne_iconst X dX3_spokeOf_36 ?_
        refine ne_icmp_ne (tgt := 64) X dX3_spokeOf_37 rfl (by omega) (by omega) (fun b37 => ?_) (fun b37 => ?_)
        · refine ne_aload_n X dX3_spokeOf_64 rfl ?_
          refine ne_iload_n X dX3_spokeOf_65 rfl ?_
          refine ne_callV X nw_Tg (me_X3_lengthOf_ l hl c q t b k h vt T (by exact ⟨Ic, Iq, It, Ib, Itb, Igb, Ik, Ih, Iv⟩) (by omega) _ (by omega)) nw_yX3_lengthOf_ nw_mX3_146 nw_iX3_lengthOf_ nw_eX3_lengthOf_ (ci := 5) rfl rfl rfl dX3_spokeOf_66 rfl rfl (by decide) (by decide) (by first | decide | omega) (by first | decide | omega) (Nat.le_of_ble_eq_true rfl) rfl rfl (Nat.le_of_ble_eq_true rfl) ?_ ?_
          rotate_left
          · rintro E9 w9 h9; exact h9.elim
          rintro v66 w66 ⟨rfl, z66, rfl, P66, g66, k66⟩
          exact ne_iret X hr (by first | rfl | decide | rfl) dX3_spokeOf_69 ⟨rfl, _, rfl, by omega⟩
        · refine ne_aload_n X dX3_spokeOf_40 rfl ?_
          refine ne_getf X dX3_spokeOf_41 nw_fX3_18 rfl rfl ?_
          refine ne_iload_n X dX3_spokeOf_44 rfl ?_
          refine ne_ialdR X dX3_spokeOf_45 rfl (by omega) It (fun v45 e45 f45 u45 => ?_)
          refine ne_aload_n X dX3_spokeOf_46 rfl ?_
          refine ne_getf X dX3_spokeOf_47 nw_fX3_21 rfl rfl ?_
          refine ne_iload_n X dX3_spokeOf_50 rfl ?_
          refine ne_ialdR X dX3_spokeOf_51 rfl (by omega) Ib (fun v51 e51 f51 u51 => ?_)
          refine ne_aload_n X dX3_spokeOf_52 rfl ?_
          refine ne_getf X dX3_spokeOf_53 nw_fX3_24 rfl rfl ?_
          refine ne_iload_n X dX3_spokeOf_56 rfl ?_
          refine ne_ialdR X dX3_spokeOf_57 rfl (by omega) Ik (fun v57 e57 f57 u57 => ?_)
          refine ne_callS X nw_Tg (me_X3_restOf l hl _ _ _ _ (by omega) (by omega) (by omega) (by omega)) nw_yX3_restOf nw_mX3_149 nw_sX3_restOf dX3_spokeOf_58 rfl rfl (by decide) (by decide) (by first | decide | omega) (by first | decide | omega) (Nat.le_of_ble_eq_true rfl) rfl rfl (Nat.le_of_ble_eq_true rfl) ?_ ?_
          rotate_left
          · rintro E9 w9 h9; exact h9.elim
          rintro v58 w58 ⟨rfl, z58, rfl, g58, k58, i58⟩
          refine ne_goto (tgt := 69) X dX3_spokeOf_61 rfl ?_
          exact ne_iret X hr (by first | rfl | decide | rfl) dX3_spokeOf_69 ⟨rfl, _, rfl, by omega⟩
      · refine ne_aload_n X dX3_spokeOf_28 rfl ?_
        refine ne_getf X dX3_spokeOf_29 nw_fX3_24 rfl rfl ?_
        refine ne_iload_n X dX3_spokeOf_32 rfl ?_
        refine ne_ialdR X dX3_spokeOf_33 rfl (by omega) Ik (fun v33 e33 f33 u33 => ?_)
        exact ne_iret X hr (by first | rfl | decide | rfl) dX3_spokeOf_34 ⟨rfl, _, rfl, by omega⟩
    · refine ne_aload_n X dX3_spokeOf_16 rfl ?_
      refine ne_getf X dX3_spokeOf_17 nw_fX3_21 rfl rfl ?_
      refine ne_iload_n X dX3_spokeOf_20 rfl ?_
      refine ne_ialdR X dX3_spokeOf_21 rfl (by omega) Ib (fun v21 e21 f21 u21 => ?_)
      exact ne_iret X hr (by first | rfl | decide | rfl) dX3_spokeOf_22 ⟨rfl, _, rfl, by omega⟩
  · refine ne_aload_n X dX3_spokeOf_4 rfl ?_
    refine ne_getf X dX3_spokeOf_5 nw_fX3_18 rfl rfl ?_
    refine ne_iload_n X dX3_spokeOf_8 rfl ?_
    refine ne_ialdR X dX3_spokeOf_9 rfl (by omega) It (fun v9 e9 f9 u9 => ?_)
    exact ne_iret X hr (by first | rfl | decide | rfl) dX3_spokeOf_10 ⟨rfl, _, rfl, by omega⟩
set_option maxRecDepth 100000 in
set_option maxHeartbeats 4000000 in
theorem me_X3_wheelsOrdered (l : Launch) (hl : l.stackTraces = false) (c q t b k h : Nat → Int) (vt T : Int) (hI : mI c q t b k h vt T) (hT : 0 ≤ T ∧ T ≤ 1000000) (i j : Int) (hi : 0 ≤ i ∧ i < 3) (hj : 0 ≤ j ∧ j < 3) : ne_M l nw_cl (.code yX3_wheelsOrdered cX3_wheelsOrdered 3 (some .int)) nw_T yX3_wheelsOrdered 1 40 0 0 [.ref 0, ni i, ni j] (mW c q t b k h vt) (fun v w => w = mW c q t b k h vt ∧ ∃ z : Int, v = some (ni z) ∧ -1 ≤ z ∧ z ≤ 1) (fun _ _ => False) := by
  refine ne_meet (own := RX3) hl rfl (by decide +kernel) (Nat.le_of_ble_eq_true rfl) ?_
  intro D ct A P9 V9 R9 S9 M9 as9 bl9 mt9 C9 ad0 X hr hin ht
  obtain ⟨Ic, Iq, It, Ib, Itb, Igb, Ik, Ih, Iv⟩ := hI
  refine ne_aload_n X dX3_wheelsOrdered_0 rfl ?_
  refine ne_getf X dX3_wheelsOrdered_1 nw_fX3_18 rfl rfl ?_
  refine ne_iload_n X dX3_wheelsOrdered_4 rfl ?_
  refine ne_ialdR X dX3_wheelsOrdered_5 rfl (by omega) It (fun v5 e5 f5 u5 => ?_)
  refine ne_aload_n X dX3_wheelsOrdered_6 rfl ?_
  refine ne_getf X dX3_wheelsOrdered_7 nw_fX3_21 rfl rfl ?_
  refine ne_iload_n X dX3_wheelsOrdered_10 rfl ?_
  refine ne_ialdR X dX3_wheelsOrdered_11 rfl (by omega) Ib (fun v11 e11 f11 u11 => ?_)
  have m12 := ne_mul v5 v11 98 99 (by omega) (by omega)
  refine ne_imul X dX3_wheelsOrdered_12 ?_
  refine ne_i2l (by omega) X dX3_wheelsOrdered_13 ?_
  refine ne_aload_n X dX3_wheelsOrdered_14 rfl ?_
  refine ne_getf X dX3_wheelsOrdered_15 nw_fX3_18 rfl rfl ?_
  refine ne_iload_n X dX3_wheelsOrdered_18 rfl ?_
  refine ne_ialdR X dX3_wheelsOrdered_19 rfl (by omega) It (fun v19 e19 f19 u19 => ?_)
  refine ne_aload_n X dX3_wheelsOrdered_20 rfl ?_
  refine ne_getf X dX3_wheelsOrdered_21 nw_fX3_21 rfl rfl ?_
  refine ne_iload_n X dX3_wheelsOrdered_24 rfl ?_
  refine ne_ialdR X dX3_wheelsOrdered_25 rfl (by omega) Ib (fun v25 e25 f25 u25 => ?_)
  have m26 := ne_mul v19 v25 98 99 (by omega) (by omega)
  refine ne_imul X dX3_wheelsOrdered_26 ?_
  refine ne_i2l (by omega) X dX3_wheelsOrdered_27 ?_
  refine ne_callS X nw_Tg (me_X3_side l hl _ _ _ (by omega) (by omega)) nw_yX3_side nw_mX3_48 nw_sX3_side dX3_wheelsOrdered_28 rfl rfl (by decide) (by decide) (by first | decide | omega) (by first | decide | omega) (Nat.le_of_ble_eq_true rfl) rfl rfl (Nat.le_of_ble_eq_true rfl) ?_ ?_
  rotate_left
  · rintro E9 w9 h9; exact h9.elim
  rintro v28 w28 ⟨rfl, z28, rfl, g28, k28, i28, j28⟩
  exact ne_iret X hr (by first | rfl | decide | rfl) dX3_wheelsOrdered_31 ⟨rfl, _, rfl, by omega⟩
set_option maxRecDepth 100000 in
set_option maxHeartbeats 4000000 in
theorem me_X3_heldAgainst (l : Launch) (hl : l.stackTraces = false) (c q t b k h : Nat → Int) (vt T : Int) (hI : mI c q t b k h vt T) (hT : 0 ≤ T ∧ T ≤ 1000000) (i j : Int) (hi : 0 ≤ i ∧ i < 3) (hj : 0 ≤ j ∧ j < 4) : ne_M l nw_cl (.code yX3_heldAgainst cX3_heldAgainst 3 (some .int)) nw_T yX3_heldAgainst 1 40 0 0 [.ref 0, ni i, ni j] (mW c q t b k h vt) (fun v w => w = mW c q t b k h vt ∧ ∃ z : Int, v = some (ni z) ∧ -1 ≤ z ∧ z ≤ 1) (fun _ _ => False) := by
  refine ne_meet (own := RX3) hl rfl (by decide +kernel) (Nat.le_of_ble_eq_true rfl) ?_
  intro D ct A P9 V9 R9 S9 M9 as9 bl9 mt9 C9 ad0 X hr hin ht
  obtain ⟨Ic, Iq, It, Ib, Itb, Igb, Ik, Ih, Iv⟩ := hI
  refine ne_aload_n X dX3_heldAgainst_0 rfl ?_
  refine ne_getf X dX3_heldAgainst_1 nw_fX3_18 rfl rfl ?_
  refine ne_iload_n X dX3_heldAgainst_4 rfl ?_
  refine ne_ialdR X dX3_heldAgainst_5 rfl (by omega) It (fun v5 e5 f5 u5 => ?_)
  refine ne_i2l (by omega) X dX3_heldAgainst_6 ?_
  refine ne_aload_n X dX3_heldAgainst_7 rfl ?_
  refine ne_getf X dX3_heldAgainst_8 nw_fX3_15 rfl rfl ?_
  refine ne_iload_n X dX3_heldAgainst_11 rfl ?_
  refine ne_ialdR X dX3_heldAgainst_12 rfl (by omega) Iq (fun v12 e12 f12 u12 => ?_)
  refine ne_callS X nw_Tg (me_X3_ten l hl _ _ (by omega)) nw_yX3_ten nw_mX3_58 nw_sX3_ten dX3_heldAgainst_13 rfl rfl (by decide) (by decide) (by first | decide | omega) (by first | decide | omega) (Nat.le_of_ble_eq_true rfl) rfl rfl (Nat.le_of_ble_eq_true rfl) ?_ ?_
  rotate_left
  · rintro E9 w9 h9; exact h9.elim
  rintro v13 w13 ⟨rfl, z13, rfl, g13, k13, i13, j13, m13, o13, p13⟩
  have m13 := ne_mul v5 z13 98 1000 (by omega) (by omega)
  refine ne_lmul X dX3_heldAgainst_16 ?_
  refine ne_aload_n X dX3_heldAgainst_17 rfl ?_
  refine ne_getf X dX3_heldAgainst_18 nw_fX3_9 rfl rfl ?_
  refine ne_iload_n X dX3_heldAgainst_21 rfl ?_
  refine ne_ialdR X dX3_heldAgainst_22 rfl (by omega) Ic (fun v22 e22 f22 u22 => ?_)
  refine ne_i2l (by omega) X dX3_heldAgainst_23 ?_
  refine ne_aload_n X dX3_heldAgainst_24 rfl ?_
  refine ne_getf X dX3_heldAgainst_25 nw_fX3_21 rfl rfl ?_
  refine ne_iload_n X dX3_heldAgainst_28 rfl ?_
  refine ne_ialdR X dX3_heldAgainst_29 rfl (by omega) Ib (fun v29 e29 f29 u29 => ?_)
  refine ne_i2l (by omega) X dX3_heldAgainst_30 ?_
  have m31 := ne_mul v22 v29 999999 99 (by omega) (by omega)
  refine ne_lmul X dX3_heldAgainst_31 ?_
  refine ne_callS X nw_Tg (me_X3_side l hl _ _ _ (by omega) (by omega)) nw_yX3_side nw_mX3_48 nw_sX3_side dX3_heldAgainst_32 rfl rfl (by decide) (by decide) (by first | decide | omega) (by first | decide | omega) (Nat.le_of_ble_eq_true rfl) rfl rfl (Nat.le_of_ble_eq_true rfl) ?_ ?_
  rotate_left
  · rintro E9 w9 h9; exact h9.elim
  rintro v32 w32 ⟨rfl, z32, rfl, g32, k32, i32, j32⟩
  exact ne_iret X hr (by first | rfl | decide | rfl) dX3_heldAgainst_35 ⟨rfl, _, rfl, by omega⟩
set_option maxRecDepth 100000 in
set_option maxHeartbeats 4000000 in
theorem me_X3_isSoundPair (l : Launch) (hl : l.stackTraces = false) (c q t b k h : Nat → Int) (vt T : Int) (hI : mI c q t b k h vt T) (hT : 0 ≤ T ∧ T ≤ 1000000) (i j : Int) (hi : 0 ≤ i ∧ i < 4) (hj : 0 ≤ j ∧ j < 4) : ne_M l nw_cl (.code yX3_isSoundPair cX3_isSoundPair 7 (some .boolean)) nw_T yX3_isSoundPair 3 120 0 0 [.ref 0, ni i, ni j] (mW c q t b k h vt) (fun v w => w = mW c q t b k h vt ∧ ∃ z : Int, v = some (ni z) ∧ 0 ≤ z ∧ z ≤ 1) (fun _ _ => False) := by
  refine ne_meet (own := RX3) hl rfl (by decide +kernel) (Nat.le_of_ble_eq_true rfl) ?_
  intro D ct A P9 V9 R9 S9 M9 as9 bl9 mt9 C9 ad0 X hr hin ht
  obtain ⟨Ic, Iq, It, Ib, Itb, Igb, Ik, Ih, Iv⟩ := hI
  refine ne_aload_n X dX3_isSoundPair_0 rfl ?_
  refine ne_iload_n X dX3_isSoundPair_1 rfl ?_
  refine ne_iconst X dX3_isSoundPair_2 ?_
  refine ne_callV X nw_Tg (me_X3_units l hl c q t b k h vt T (by exact ⟨Ic, Iq, It, Ib, Itb, Igb, Ik, Ih, Iv⟩) (by omega) _ _ (by omega) (by omega)) nw_yX3_units nw_mX3_62 nw_iX3_units nw_eX3_units (ci := 5) rfl rfl rfl dX3_isSoundPair_3 rfl rfl (by decide) (by decide) (by first | decide | omega) (by first | decide | omega) (Nat.le_of_ble_eq_true rfl) rfl rfl (Nat.le_of_ble_eq_true rfl) ?_ ?_
  rotate_left
  · rintro E9 w9 h9; exact h9.elim
  rintro v3 w3 ⟨rfl, z3, rfl, g3, k3⟩
  refine ne_lstore_n X dX3_isSoundPair_6 rfl (by decide) ?_
  refine ne_aload_n X dX3_isSoundPair_7 rfl ?_
  refine ne_iload_n X dX3_isSoundPair_8 rfl ?_
  refine ne_iconst X dX3_isSoundPair_9 ?_
  refine ne_callV X nw_Tg (me_X3_units l hl c q t b k h vt T (by exact ⟨Ic, Iq, It, Ib, Itb, Igb, Ik, Ih, Iv⟩) (by omega) _ _ (by omega) (by omega)) nw_yX3_units nw_mX3_62 nw_iX3_units nw_eX3_units (ci := 5) rfl rfl rfl dX3_isSoundPair_10 rfl rfl (by decide) (by decide) (by first | decide | omega) (by first | decide | omega) (Nat.le_of_ble_eq_true rfl) rfl rfl (Nat.le_of_ble_eq_true rfl) ?_ ?_
  rotate_left
  · rintro E9 w9 h9; exact h9.elim
  rintro v10 w10 ⟨rfl, z10, rfl, g10, k10⟩
  refine ne_lstore X dX3_isSoundPair_13 (by decide) ?_
  refine ne_ll (L' := [some (.ref 0), some (ni _), some (ni _), some (nl _), none, some (nl _), none]) rfl ?_
  refine ne_lload_n X dX3_isSoundPair_15 rfl ?_
  refine ne_lload X dX3_isSoundPair_16 rfl ?_
  refine ne_ladd X dX3_isSoundPair_18 ?_
  refine ne_lload X dX3_isSoundPair_19 rfl ?_
  refine ne_lsub X dX3_isSoundPair_21 ?_
  refine ne_lload_n X dX3_isSoundPair_22 rfl ?_
  refine ne_lcif_ne (tgt := 65) X dX3_isSoundPair_23 dX3_isSoundPair_24 rfl (by omega) (by omega) (fun b24 => ?_) (fun b24 => ?_)
  · refine ne_iconst X dX3_isSoundPair_65 ?_
    exact ne_iret X hr (by first | rfl | decide | rfl) dX3_isSoundPair_66 ⟨rfl, _, rfl, by omega⟩
  · refine ne_aload_n X dX3_isSoundPair_27 rfl ?_
    refine ne_iload_n X dX3_isSoundPair_28 rfl ?_
    refine ne_iload_n X dX3_isSoundPair_29 rfl ?_
    refine ne_callV X nw_Tg (me_X3_ordered l hl c q t b k h vt T (by exact ⟨Ic, Iq, It, Ib, Itb, Igb, Ik, Ih, Iv⟩) (by omega) _ _ (by omega) (by omega)) nw_yX3_ordered nw_mX3_101 nw_iX3_ordered nw_eX3_ordered (ci := 5) rfl rfl rfl dX3_isSoundPair_30 rfl rfl (by decide) (by decide) (by first | decide | omega) (by first | decide | omega) (Nat.le_of_ble_eq_true rfl) rfl rfl (Nat.le_of_ble_eq_true rfl) ?_ ?_
    rotate_left
    · rintro E9 w9 h9; exact h9.elim
    rintro v30 w30 ⟨rfl, z30, rfl, g30, k30⟩
    refine ne_aload_n X dX3_isSoundPair_33 rfl ?_
    refine ne_iload_n X dX3_isSoundPair_34 rfl ?_
    refine ne_iload_n X dX3_isSoundPair_35 rfl ?_
    refine ne_callV X nw_Tg (me_X3_ordered l hl c q t b k h vt T (by exact ⟨Ic, Iq, It, Ib, Itb, Igb, Ik, Ih, Iv⟩) (by omega) _ _ (by omega) (by omega)) nw_yX3_ordered nw_mX3_101 nw_iX3_ordered nw_eX3_ordered (ci := 5) rfl rfl rfl dX3_isSoundPair_36 rfl rfl (by decide) (by decide) (by first | decide | omega) (by first | decide | omega) (Nat.le_of_ble_eq_true rfl) rfl rfl (Nat.le_of_ble_eq_true rfl) ?_ ?_
    rotate_left
    · rintro E9 w9 h9; exact h9.elim
    rintro v36 w36 ⟨rfl, z36, rfl, g36, k36⟩
    refine ne_ineg X dX3_isSoundPair_39 ?_
    refine ne_icmp_ne (tgt := 65) X dX3_isSoundPair_40 rfl (by omega) (by omega) (fun b40 => ?_) (fun b40 => ?_)
    · refine ne_iconst X dX3_isSoundPair_65 ?_
      exact ne_iret X hr (by first | rfl | decide | rfl) dX3_isSoundPair_66 ⟨rfl, _, rfl, by omega⟩
    · refine ne_aload_n X dX3_isSoundPair_43 rfl ?_
      refine ne_iload_n X dX3_isSoundPair_44 rfl ?_
      refine ne_iload_n X dX3_isSoundPair_45 rfl ?_
      refine ne_callV X nw_Tg (me_X3_areSame l hl c q t b k h vt T (by exact ⟨Ic, Iq, It, Ib, Itb, Igb, Ik, Ih, Iv⟩) (by omega) _ _ (by omega) (by omega)) nw_yX3_areSame nw_mX3_132 nw_iX3_areSame nw_eX3_areSame (ci := 5) rfl rfl rfl dX3_isSoundPair_46 rfl rfl (by decide) (by decide) (by first | decide | omega) (by first | decide | omega) (Nat.le_of_ble_eq_true rfl) rfl rfl (Nat.le_of_ble_eq_true rfl) ?_ ?_
      rotate_left
      · rintro E9 w9 h9; exact h9.elim
      rintro v46 w46 ⟨rfl, z46, rfl, g46, k46⟩
      refine ne_if_eq (tgt := 61) X dX3_isSoundPair_49 rfl (by omega) (fun b49 => ?_) (fun b49 => ?_)
      · refine ne_iconst X dX3_isSoundPair_61 ?_
        refine ne_goto (tgt := 66) X dX3_isSoundPair_62 rfl ?_
        exact ne_iret X hr (by first | rfl | decide | rfl) dX3_isSoundPair_66 ⟨rfl, _, rfl, by omega⟩
      · refine ne_aload_n X dX3_isSoundPair_52 rfl ?_
        refine ne_iload_n X dX3_isSoundPair_53 rfl ?_
        refine ne_iload_n X dX3_isSoundPair_54 rfl ?_
        refine ne_callV X nw_Tg (me_X3_ordered l hl c q t b k h vt T (by exact ⟨Ic, Iq, It, Ib, Itb, Igb, Ik, Ih, Iv⟩) (by omega) _ _ (by omega) (by omega)) nw_yX3_ordered nw_mX3_101 nw_iX3_ordered nw_eX3_ordered (ci := 5) rfl rfl rfl dX3_isSoundPair_55 rfl rfl (by decide) (by decide) (by first | decide | omega) (by first | decide | omega) (Nat.le_of_ble_eq_true rfl) rfl rfl (Nat.le_of_ble_eq_true rfl) ?_ ?_
        rotate_left
        · rintro E9 w9 h9; exact h9.elim
        rintro v55 w55 ⟨rfl, z55, rfl, g55, k55⟩
        refine ne_if_ne (tgt := 65) X dX3_isSoundPair_58 rfl (by omega) (fun b58 => ?_) (fun b58 => ?_)
        · refine ne_iconst X dX3_isSoundPair_65 ?_
          exact ne_iret X hr (by first | rfl | decide | rfl) dX3_isSoundPair_66 ⟨rfl, _, rfl, by omega⟩
        · refine ne_iconst X dX3_isSoundPair_61 ?_
          refine ne_goto (tgt := 66) X dX3_isSoundPair_62 rfl ?_
          exact ne_iret X hr (by first | rfl | decide | rfl) dX3_isSoundPair_66 ⟨rfl, _, rfl, by omega⟩
set_option maxRecDepth 100000 in
set_option maxHeartbeats 4000000 in
theorem me_X3_row (l : Launch) (hl : l.stackTraces = false) (c q t b k h : Nat → Int) (vt T : Int) (hI : mI c q t b k h vt T) (hT : 0 ≤ T ∧ T ≤ 1000000) (i p m : Int) (hi : 0 ≤ i ∧ i < 3) (hp : 0 ≤ p ∧ p ≤ 200) (hm : 0 ≤ m ∧ m ≤ 96) : ne_M l nw_cl (.code yX3_row cX3_row 7 (some (.array .int))) nw_T yX3_row 1 40 1 96 [.ref 0, ni i, ni p, ni m] (mW c q t b k h vt) (fun v w => ∃ (n : Nat) (r : Nat → Int), w = mW c q t b k h vt ++ [some (.inl (0, n, r))] ∧ (n : Int) = m ∧ ne_rg r 0 9 ∧ v = some (.ref 7)) (fun _ _ => False) := by
  refine ne_meet (own := RX3) hl rfl (by decide +kernel) (Nat.le_of_ble_eq_true rfl) ?_
  intro D ct A P9 V9 R9 S9 M9 as9 bl9 mt9 C9 ad0 X hr hin ht
  obtain ⟨Ic, Iq, It, Ib, Itb, Igb, Ik, Ih, Iv⟩ := hI
  have htb9 := Itb i.toNat
  have hb9 := Ib i.toNat
  have ht9 := It i.toNat
  have hgb9 := Igb i.toNat
  have hZ : ne_rg (fun _ => 0) 0 9 := (fun _ => by show (0 : Int) ≤ 0 ∧ (0 : Int) ≤ 9; omega)
  have lp26 : ∀ (n9 : Nat) (f : Nat → Int) (r j : Int), (m - j).toNat < n9 → (0 ≤ j) → (j ≤ m) → (0 ≤ r) → (r < b i.toNat) → (ne_rg f 0 9) → ne_G nw_cl D ct A 7 ad0 P9 l V9 R9 S9 M9 as9 bl9 mt9 C9 (ne_O nw_cl D ct ad0 7 A bl9 as9 S9 1 96 (fun v w => ∃ (n : Nat) (r : Nat → Int), w = mW c q t b k h vt ++ [some (.inl (0, n, r))] ∧ (n : Int) = m ∧ ne_rg r 0 9 ∧ v = some (.ref 7)) (fun _ _ => False)) 7 1 96 0 0 26 [some (.ref 0), some (ni i), some (ni p), some (ni m), some (.ref 7), some (ni r), some (ni j)] [] (mW c q t b k h vt ++ [some (.inl (0, m.toNat, f))]) := by
    intro n9
    induction n9 with
    | zero => intro f r j hm9 q1 q2 q3 q4 If; exfalso; omega
    | succ n9 ih =>
      intro f r j hm9 q1 q2 q3 q4 If
      have d9 := ne_dg r (b i.toNat) q3 q4
      refine ne_iload X dX3_row_26 rfl ?_
      refine ne_iload_n X dX3_row_28 rfl ?_
      refine ne_icmp_ge (tgt := 69) X dX3_row_29 rfl (by omega) (by omega) (fun b29 => ?_) (fun b29 => ?_)
      · refine ne_aload X dX3_row_69 rfl ?_
        exact ne_aret X hr (by first | exact Or.inl ⟨_, rfl⟩ | exact Or.inr ⟨_, rfl⟩) dX3_row_71 ⟨_, _, rfl, by omega, If, rfl⟩
      · refine ne_aload X dX3_row_32 rfl ?_
        refine ne_iload X dX3_row_34 rfl ?_
        refine ne_bipush (v := 10) (by decide) X dX3_row_36 ?_
        refine ne_iload X dX3_row_38 rfl ?_
        refine ne_imul X dX3_row_40 ?_
        refine ne_aload_n X dX3_row_41 rfl ?_
        refine ne_getf X dX3_row_42 nw_fX3_21 rfl rfl ?_
        refine ne_iload_n X dX3_row_45 rfl ?_
        refine ne_ialdR X dX3_row_46 rfl (by omega) Ib (fun v46 e46 f46 u46 => ?_)
        subst e46
        refine ne_idiv X dX3_row_47 (by omega) (by omega) (by omega) ?_
        refine ne_iastR X dX3_row_48 rfl (by omega) (ne_rg_mono If (by omega) (by omega)) (a := 0) (b := 9) (by omega) (fun a48 ha48 J48 => ?_)
        refine ne_ws (ws' := mW c q t b k h vt ++ [some (.inl (0, m.toNat, a48))]) rfl ?_
        refine ne_bipush (v := 10) (by decide) X dX3_row_49 ?_
        refine ne_iload X dX3_row_51 rfl ?_
        refine ne_imul X dX3_row_53 ?_
        refine ne_aload_n X dX3_row_54 rfl ?_
        refine ne_getf X dX3_row_55 nw_fX3_21 rfl rfl ?_
        refine ne_iload_n X dX3_row_58 rfl ?_
        refine ne_ialdR X dX3_row_59 rfl (by omega) Ib (fun v59 e59 f59 u59 => ?_)
        subst e59
        refine ne_irem X dX3_row_60 (by omega) (by omega) (by omega) ?_
        refine ne_istore X dX3_row_61 (by decide) ?_
        refine ne_iinc X dX3_row_63 rfl (by decide) ?_
        refine ne_ll (L' := [some (.ref 0), some (ni _), some (ni _), some (ni _), some (.ref 7), some (ni _), some (ni _)]) rfl ?_
        refine ne_goto (tgt := 26) X dX3_row_66 rfl ?_
        exact ih _ _ _ (by omega) (by omega) (by omega) (by omega) (by omega) J48
  refine ne_iload_n X dX3_row_0 rfl ?_
  refine ne_newa (t := 0) X dX3_row_1 (Or.inl ⟨rfl, rfl⟩) nw_Aint (by omega) (by omega) (by omega) (Nat.le_of_ble_eq_true rfl) rfl rfl rfl ?_
  refine ne_astore X dX3_row_3 (by decide) ?_
  refine ne_aload_n X dX3_row_5 rfl ?_
  refine ne_getf X dX3_row_6 nw_fX3_18 rfl rfl ?_
  refine ne_iload_n X dX3_row_9 rfl ?_
  refine ne_ialdR X dX3_row_10 rfl (by omega) It (fun v10 e10 f10 u10 => ?_)
  refine ne_aload_n X dX3_row_11 rfl ?_
  refine ne_getf X dX3_row_12 nw_fX3_21 rfl rfl ?_
  refine ne_iload_n X dX3_row_15 rfl ?_
  refine ne_ialdR X dX3_row_16 rfl (by omega) Ib (fun v16 e16 f16 u16 => ?_)
  refine ne_iload_n X dX3_row_17 rfl ?_
  refine ne_callS X nw_Tg (me_X3_restOf l hl _ _ _ _ (by omega) (by omega) (by omega) (by omega)) nw_yX3_restOf nw_mX3_149 nw_sX3_restOf dX3_row_18 rfl rfl (by decide) (by decide) (by first | decide | omega) (by first | decide | omega) (Nat.le_of_ble_eq_true rfl) rfl rfl (Nat.le_of_ble_eq_true rfl) ?_ ?_
  rotate_left
  · rintro E9 w9 h9; exact h9.elim
  rintro v18 w18 ⟨rfl, z18, rfl, g18, k18, i18⟩
  refine ne_istore X dX3_row_21 (by decide) ?_
  refine ne_ll (L' := [some (.ref 0), some (ni _), some (ni _), some (ni _), some (.ref 7), some (ni _), none]) rfl ?_
  refine ne_iconst X dX3_row_23 ?_
  refine ne_istore X dX3_row_24 (by decide) ?_
  refine ne_less (C' := 0) (S' := 0) (by omega) (by omega) ?_
  exact lp26 _ _ _ 0 (Nat.lt_succ_self _) (by omega) (by omega) (by omega) (by omega) hZ
set_option maxRecDepth 100000 in
set_option maxHeartbeats 4000000 in
theorem me_X3_timesBottom (l : Launch) (hl : l.stackTraces = false) (c q t b k h : Nat → Int) (vt T : Int) (hI : mI c q t b k h vt T) (hT : 0 ≤ T ∧ T ≤ 1000000) (i : Int) (hi : 0 ≤ i ∧ i < 3) : ne_M l nw_cl (.code yX3_timesBottom cX3_timesBottom 6 (some (.array .int))) nw_T yX3_timesBottom 2 80 2 194 [.ref 0, ni i] (mW c q t b k h vt) (fun v w => ∃ (n : Nat) (r : Nat → Int), w = mW c q t b k h vt ++ [some (.inl (0, n, r))] ∧ (∃ L : Int, ne_per (t i.toNat) (b i.toNat) L ∧ (n : Int) = L + 2 ∧ 1 ≤ L ∧ L ≤ 96) ∧ ne_rg r 0 9 ∧ v = some (.ref 7)) (fun _ _ => False) := by
  refine ne_meet (own := RX3) hl rfl (by decide +kernel) (Nat.le_of_ble_eq_true rfl) ?_
  intro D ct A P9 V9 R9 S9 M9 as9 bl9 mt9 C9 ad0 X hr hin ht
  obtain ⟨Ic, Iq, It, Ib, Itb, Igb, Ik, Ih, Iv⟩ := hI
  have htb9 := Itb i.toNat
  have hb9 := Ib i.toNat
  have ht9 := It i.toNat
  have hgb9 := Igb i.toNat
  have hZ : ne_rg (fun _ => 0) 0 9 := (fun _ => by show (0 : Int) ≤ 0 ∧ (0 : Int) ≤ 9; omega)
  have lp28 : ∀ (n9 : Nat) (z5 : Int) (n1 n2 : Nat) (f1 f2 : Nat → Int) (r j : Int), (j + 1).toNat < n9 → (ne_per (t i.toNat) (b i.toNat) z5) → (1 ≤ z5 ∧ z5 ≤ 96) → (-1 ≤ j) → (j < n2) → (0 ≤ r ∧ r ≤ 99) → ((n1 : Int) = z5) → ((n2 : Int) = n1 + 2) → (ne_rg f1 0 9) → (ne_rg f2 0 9) → ne_G nw_cl D ct A 7 ad0 P9 l V9 R9 S9 M9 as9 bl9 mt9 C9 (ne_O nw_cl D ct ad0 7 A bl9 as9 S9 2 194 (fun v w => ∃ (n : Nat) (r : Nat → Int), w = mW c q t b k h vt ++ [some (.inl (0, n, r))] ∧ (∃ L : Int, ne_per (t i.toNat) (b i.toNat) L ∧ (n : Int) = L + 2 ∧ 1 ≤ L ∧ L ≤ 96) ∧ ne_rg r 0 9 ∧ v = some (.ref 7)) (fun _ _ => False)) 6 2 194 0 0 28 [some (.ref 0), some (ni i), some (.ref 7), some (.ref 8), some (ni r), some (ni j)] [] (mW c q t b k h vt ++ [some (.inl (0, n1, f1)), some (.inl (0, n2, f2))]) := by
    intro n9
    induction n9 with
    | zero => intro z5 n1 n2 f1 f2 r j hm9 P5 k5 q1 q2 q3 q4 q5 If Ig; exfalso; omega
    | succ n9 ih =>
      intro z5 n1 n2 f1 f2 r j hm9 P5 k5 q1 q2 q3 q4 q5 If Ig
      refine ne_iload X dX3_timesBottom_28 rfl ?_
      refine ne_if_lt (tgt := 83) X dX3_timesBottom_30 rfl (by omega) (fun b30 => ?_) (fun b30 => ?_)
      · refine ne_aload_n X dX3_timesBottom_83 rfl ?_
        refine ne_lnil ?_
        refine ne_forget [7] ?_
        refine ne_viewb [0, 1, 2, 3, 4, 5, 6, 8] (ws' := mW c q t b k h vt ++ [some (.inl (0, n2, f2))]) (L' := []) (st' := [.ref 7]) rfl (by decide) rfl rfl rfl rfl ?_
        exact ne_aret X hr (by first | exact Or.inl ⟨_, rfl⟩ | exact Or.inr ⟨_, rfl⟩) dX3_timesBottom_84 ⟨_, _, rfl, ⟨_, P5, by omega, by omega, by omega⟩, Ig, rfl⟩
      · refine ne_iload X dX3_timesBottom_33 rfl ?_
        refine ne_iload X dX3_timesBottom_35 rfl ?_
        refine ne_iconst X dX3_timesBottom_37 ?_
        refine ne_icmp_ge (tgt := 45) X dX3_timesBottom_38 rfl (by omega) (by omega) (fun b38 => ?_) (fun b38 => ?_)
        · refine ne_aload_n X dX3_timesBottom_45 rfl ?_
          refine ne_iload X dX3_timesBottom_46 rfl ?_
          refine ne_iconst X dX3_timesBottom_48 ?_
          refine ne_isub X dX3_timesBottom_49 ?_
          refine ne_ialdR X dX3_timesBottom_50 rfl (by omega) If (fun v50 e50 f50 u50 => ?_)
          refine ne_aload_n X dX3_timesBottom_51 rfl ?_
          refine ne_getf X dX3_timesBottom_52 nw_fX3_21 rfl rfl ?_
          refine ne_iload_n X dX3_timesBottom_55 rfl ?_
          refine ne_ialdR X dX3_timesBottom_56 rfl (by omega) Ib (fun v56 e56 f56 u56 => ?_)
          have m57 := ne_mul v50 v56 9 99 (by omega) (by omega)
          have m58 : 0 ≤ v50 * v56 := Int.mul_nonneg (by omega) (by omega)
          refine ne_imul X dX3_timesBottom_57 ?_
          refine ne_iadd X dX3_timesBottom_58 ?_
          refine ne_topI (fun r59 e59 => ?_)
          have p59 : 0 ≤ r59 ∧ r59 ≤ 990 := by omega
          have t59 := ne_t10 r59 (by omega)
          refine ne_istore X dX3_timesBottom_59 (by decide) ?_
          refine ne_aload_n X dX3_timesBottom_61 rfl ?_
          refine ne_iload X dX3_timesBottom_62 rfl ?_
          refine ne_iload X dX3_timesBottom_64 rfl ?_
          refine ne_bipush (v := 10) (by decide) X dX3_timesBottom_66 ?_
          refine ne_irem X dX3_timesBottom_68 (by omega) (by omega) (by omega) ?_
          refine ne_iastR X dX3_timesBottom_69 rfl (by omega) (ne_rg_mono Ig (by omega) (by omega)) (a := 0) (b := 9) (by omega) (fun a69 ha69 J69 => ?_)
          refine ne_ws (ws' := mW c q t b k h vt ++ [some (.inl (0, n1, f1)), some (.inl (0, n2, a69))]) rfl ?_
          refine ne_iload X dX3_timesBottom_70 rfl ?_
          refine ne_bipush (v := 10) (by decide) X dX3_timesBottom_72 ?_
          refine ne_idiv X dX3_timesBottom_74 (by omega) (by omega) (by omega) ?_
          refine ne_istore X dX3_timesBottom_75 (by decide) ?_
          refine ne_ll (L' := [some (.ref 0), some (ni _), some (.ref 7), some (.ref 8), some (ni _), some (ni _)]) rfl ?_
          refine ne_iinc X dX3_timesBottom_77 rfl (by decide) ?_
          refine ne_goto (tgt := 28) X dX3_timesBottom_80 rfl ?_
          exact ih _ _ _ _ _ _ (j + -1) (by omega) P5 k5 (by omega) (by omega) (by omega) (by omega) (by omega) If J69
        · refine ne_iconst X dX3_timesBottom_41 ?_
          refine ne_goto (tgt := 58) X dX3_timesBottom_42 rfl ?_
          refine ne_iadd X dX3_timesBottom_58 ?_
          refine ne_topI (fun r59 e59 => ?_)
          have p59 : 0 ≤ r59 ∧ r59 ≤ 990 := by omega
          have t59 := ne_t10 r59 (by omega)
          refine ne_istore X dX3_timesBottom_59 (by decide) ?_
          refine ne_aload_n X dX3_timesBottom_61 rfl ?_
          refine ne_iload X dX3_timesBottom_62 rfl ?_
          refine ne_iload X dX3_timesBottom_64 rfl ?_
          refine ne_bipush (v := 10) (by decide) X dX3_timesBottom_66 ?_
          refine ne_irem X dX3_timesBottom_68 (by omega) (by omega) (by omega) ?_
          refine ne_iastR X dX3_timesBottom_69 rfl (by omega) (ne_rg_mono Ig (by omega) (by omega)) (a := 0) (b := 9) (by omega) (fun a69 ha69 J69 => ?_)
          refine ne_ws (ws' := mW c q t b k h vt ++ [some (.inl (0, n1, f1)), some (.inl (0, n2, a69))]) rfl ?_
          refine ne_iload X dX3_timesBottom_70 rfl ?_
          refine ne_bipush (v := 10) (by decide) X dX3_timesBottom_72 ?_
          refine ne_idiv X dX3_timesBottom_74 (by omega) (by omega) (by omega) ?_
          refine ne_istore X dX3_timesBottom_75 (by decide) ?_
          refine ne_ll (L' := [some (.ref 0), some (ni _), some (.ref 7), some (.ref 8), some (ni _), some (ni _)]) rfl ?_
          refine ne_iinc X dX3_timesBottom_77 rfl (by decide) ?_
          refine ne_goto (tgt := 28) X dX3_timesBottom_80 rfl ?_
          exact ih _ _ _ _ _ _ (j + -1) (by omega) P5 k5 (by omega) (by omega) (by omega) (by omega) (by omega) If J69
  refine ne_aload_n X dX3_timesBottom_0 rfl ?_
  refine ne_iload_n X dX3_timesBottom_1 rfl ?_
  refine ne_iconst X dX3_timesBottom_2 ?_
  refine ne_aload_n X dX3_timesBottom_3 rfl ?_
  refine ne_iload_n X dX3_timesBottom_4 rfl ?_
  refine ne_callV X nw_Tg (me_X3_lengthOf_ l hl c q t b k h vt T (by exact ⟨Ic, Iq, It, Ib, Itb, Igb, Ik, Ih, Iv⟩) (by omega) _ (by omega)) nw_yX3_lengthOf_ nw_mX3_146 nw_iX3_lengthOf_ nw_eX3_lengthOf_ (ci := 5) rfl rfl rfl dX3_timesBottom_5 rfl rfl (by decide) (by decide) (by first | decide | omega) (by first | decide | omega) (Nat.le_of_ble_eq_true rfl) rfl rfl (Nat.le_of_ble_eq_true rfl) ?_ ?_
  rotate_left
  · rintro E9 w9 h9; exact h9.elim
  rintro v5 w5 ⟨rfl, z5, rfl, P5, g5, k5⟩
  refine ne_callV X nw_Tg (me_X3_row l hl c q t b k h vt T (by exact ⟨Ic, Iq, It, Ib, Itb, Igb, Ik, Ih, Iv⟩) (by omega) _ _ _ (by omega) (by omega) (by omega)) nw_yX3_row nw_mX3_160 nw_iX3_row nw_eX3_row (ci := 5) rfl rfl rfl dX3_timesBottom_8 rfl rfl (by decide) (by decide) (by first | decide | omega) (by first | decide | omega) (Nat.le_of_ble_eq_true rfl) rfl rfl (Nat.le_of_ble_eq_true rfl) ?_ ?_
  rotate_left
  · rintro E9 w9 h9; exact h9.elim
  rintro v8 w8 ⟨n8, r8, rfl, N8, R8, rfl⟩
  refine ne_astore_n X dX3_timesBottom_11 rfl (by decide) ?_
  refine ne_aload_n X dX3_timesBottom_12 rfl ?_
  refine ne_alen X dX3_timesBottom_13 rfl (by decide) ?_
  refine ne_iconst X dX3_timesBottom_14 ?_
  refine ne_iadd X dX3_timesBottom_15 ?_
  refine ne_newa (t := 0) X dX3_timesBottom_16 (Or.inl ⟨rfl, rfl⟩) nw_Aint (by omega) (by omega) (by omega) (Nat.le_of_ble_eq_true rfl) rfl rfl rfl ?_
  refine ne_astore_n X dX3_timesBottom_18 rfl (by decide) ?_
  refine ne_ll (L' := [some (.ref 0), some (ni _), some (.ref 7), some (.ref 8), none, none]) rfl ?_
  refine ne_iconst X dX3_timesBottom_19 ?_
  refine ne_istore X dX3_timesBottom_20 (by decide) ?_
  refine ne_aload_n X dX3_timesBottom_22 rfl ?_
  refine ne_alen X dX3_timesBottom_23 rfl (by decide) ?_
  refine ne_iconst X dX3_timesBottom_24 ?_
  refine ne_isub X dX3_timesBottom_25 ?_
  refine ne_istore X dX3_timesBottom_26 (by decide) ?_
  refine ne_ll (L' := [some (.ref 0), some (ni _), some (.ref 7), some (.ref 8), some (ni _), some (ni _)]) rfl ?_
  refine ne_less (C' := 0) (S' := 0) (by omega) (by omega) ?_
  exact lp28 _ z5 _ _ _ _ 0 _ (Nat.lt_succ_self _) P5 (by omega) (by omega) (by omega) (by omega) (by omega) (by omega) R8 hZ
set_option maxRecDepth 100000 in
set_option maxHeartbeats 4000000 in
theorem me_X3_sumOf (l : Launch) (hl : l.stackTraces = false) (c q t b k h : Nat → Int) (vt T : Int) (hI : mI c q t b k h vt T) (hT : 0 ≤ T ∧ T ≤ 1000000) (i p : Int) (hi : 0 ≤ i ∧ i < 3) (hp : 2 ≤ p ∧ p ≤ 12) : ne_M l nw_cl (.code yX3_sumOf cX3_sumOf 10 (some (.array .int))) nw_T yX3_sumOf 2 90 2 194 [.ref 0, ni i, ni p] (mW c q t b k h vt) (fun v w => (v = some .null ∧ w = mW c q t b k h vt) ∨ ∃ (n : Nat) (r : Nat → Int), w = mW c q t b k h vt ++ [some (.inl (0, n, r))] ∧ (2 ≤ n ∧ n ≤ 98) ∧ ne_rg r 0 9 ∧ v = some (.ref 7)) (fun _ _ => False) := by
  refine ne_meet (own := RX3) hl rfl (by decide +kernel) (Nat.le_of_ble_eq_true rfl) ?_
  intro D ct A P9 V9 R9 S9 M9 as9 bl9 mt9 C9 ad0 X hr hin ht
  obtain ⟨Ic, Iq, It, Ib, Itb, Igb, Ik, Ih, Iv⟩ := hI
  have htb9 := Itb i.toNat
  have hb9 := Ib i.toNat
  have ht9 := It i.toNat
  have hgb9 := Igb i.toNat
  have hZ : ne_rg (fun _ => 0) 0 9 := (fun _ => by show (0 : Int) ≤ 0 ∧ (0 : Int) ≤ 9; omega)
  have lp46 : ∀ (n9 : Nat) (n1 n2 : Nat) (f1 f2 : Nat → Int) (z2 m r j : Int), (j + 1).toNat < n9 → (-1 ≤ j) → (j < n2) → (0 ≤ r ∧ r ≤ 20) → (p * m = n1) → ((n2 : Int) = m + 2) → (0 ≤ m ∧ m ≤ 96) → (n1 ≤ 96) → (ne_rg f1 0 9) → (ne_rg f2 0 9) → ne_G nw_cl D ct A 7 ad0 P9 l V9 R9 S9 M9 as9 bl9 mt9 C9 (ne_O nw_cl D ct ad0 7 A bl9 as9 S9 2 194 (fun v w => (v = some .null ∧ w = mW c q t b k h vt) ∨ ∃ (n : Nat) (r : Nat → Int), w = mW c q t b k h vt ++ [some (.inl (0, n, r))] ∧ (2 ≤ n ∧ n ≤ 98) ∧ ne_rg r 0 9 ∧ v = some (.ref 7)) (fun _ _ => False)) 10 2 194 0 0 46 [some (.ref 0), some (ni i), some (ni p), some (ni z2), some (.ref 7), some (ni m), some (.ref 8), some (ni r), some (ni j), none] [] (mW c q t b k h vt ++ [some (.inl (0, n1, f1)), some (.inl (0, n2, f2))]) := by
    intro n9
    induction n9 with
    | zero => intro n1 n2 f1 f2 z2 m r j hm9 q1 q2 q3 q4 q5 q6 q7 If Ig; exfalso; omega
    | succ n9 ih =>
      intro n1 n2 f1 f2 z2 m r j hm9 q1 q2 q3 q4 q5 q6 q7 If Ig
      have ih46 := ih
      have lp54 : ∀ (n9 : Nat) (r a : Int), (p - a).toNat < n9 → (0 ≤ a) → (0 ≤ r ∧ r ≤ 20 + 9 * a) → (a ≤ p) → (0 ≤ j) → ne_G nw_cl D ct A 7 ad0 P9 l V9 R9 S9 M9 as9 bl9 mt9 C9 (ne_O nw_cl D ct ad0 7 A bl9 as9 S9 2 194 (fun v w => (v = some .null ∧ w = mW c q t b k h vt) ∨ ∃ (n : Nat) (r : Nat → Int), w = mW c q t b k h vt ++ [some (.inl (0, n, r))] ∧ (2 ≤ n ∧ n ≤ 98) ∧ ne_rg r 0 9 ∧ v = some (.ref 7)) (fun _ _ => False)) 10 2 194 0 0 54 [some (.ref 0), some (ni i), some (ni p), some (ni z2), some (.ref 7), some (ni m), some (.ref 8), some (ni r), some (ni j), some (ni a)] [] (mW c q t b k h vt ++ [some (.inl (0, n1, f1)), some (.inl (0, n2, f2))]) := by
        intro n9
        induction n9 with
        | zero => intro r a hm9 u1 u2 u4 u5; exfalso; omega
        | succ n9 ih =>
          intro r a hm9 u1 u2 u4 u5
          have t9 := ne_t10 r (by omega)
          refine ne_iload X dX3_sumOf_54 rfl ?_
          refine ne_iload_n X dX3_sumOf_56 rfl ?_
          refine ne_icmp_ge (tgt := 90) X dX3_sumOf_57 rfl (by omega) (by omega) (fun b57 => ?_) (fun b57 => ?_)
          · refine ne_aload X dX3_sumOf_90 rfl ?_
            refine ne_iload X dX3_sumOf_92 rfl ?_
            refine ne_iload X dX3_sumOf_94 rfl ?_
            refine ne_bipush (v := 10) (by decide) X dX3_sumOf_96 ?_
            refine ne_irem X dX3_sumOf_98 (by omega) (by omega) (by omega) ?_
            refine ne_iastR X dX3_sumOf_99 rfl (by omega) (ne_rg_mono Ig (by omega) (by omega)) (a := 0) (b := 9) (by omega) (fun a99 ha99 J99 => ?_)
            refine ne_ws (ws' := mW c q t b k h vt ++ [some (.inl (0, n1, f1)), some (.inl (0, n2, a99))]) rfl ?_
            refine ne_iload X dX3_sumOf_100 rfl ?_
            refine ne_bipush (v := 10) (by decide) X dX3_sumOf_102 ?_
            refine ne_idiv X dX3_sumOf_104 (by omega) (by omega) (by omega) ?_
            refine ne_istore X dX3_sumOf_105 (by decide) ?_
            refine ne_iinc X dX3_sumOf_107 rfl (by decide) ?_
            refine ne_ll (L' := [some (.ref 0), some (ni _), some (ni _), some (ni _), some (.ref 7), some (ni _), some (.ref 8), some (ni _), some (ni _), some (ni _)]) rfl ?_
            refine ne_goto (tgt := 46) X dX3_sumOf_110 rfl ?_
            refine ne_lnone 9 ?_
            exact ih46 _ _ _ _ _ _ _ (j + -1) (by omega) (by omega) (by omega) (by omega) q4 (by omega) (by omega) (by omega) If J99
          · refine ne_iload X dX3_sumOf_60 rfl ?_
            refine ne_iconst X dX3_sumOf_62 ?_
            refine ne_icmp_le (tgt := 90) X dX3_sumOf_63 rfl (by omega) (by omega) (fun b63 => ?_) (fun b63 => ?_)
            · refine ne_aload X dX3_sumOf_90 rfl ?_
              refine ne_iload X dX3_sumOf_92 rfl ?_
              refine ne_iload X dX3_sumOf_94 rfl ?_
              refine ne_bipush (v := 10) (by decide) X dX3_sumOf_96 ?_
              refine ne_irem X dX3_sumOf_98 (by omega) (by omega) (by omega) ?_
              refine ne_iastR X dX3_sumOf_99 rfl (by omega) (ne_rg_mono Ig (by omega) (by omega)) (a := 0) (b := 9) (by omega) (fun a99 ha99 J99 => ?_)
              refine ne_ws (ws' := mW c q t b k h vt ++ [some (.inl (0, n1, f1)), some (.inl (0, n2, a99))]) rfl ?_
              refine ne_iload X dX3_sumOf_100 rfl ?_
              refine ne_bipush (v := 10) (by decide) X dX3_sumOf_102 ?_
              refine ne_idiv X dX3_sumOf_104 (by omega) (by omega) (by omega) ?_
              refine ne_istore X dX3_sumOf_105 (by decide) ?_
              refine ne_iinc X dX3_sumOf_107 rfl (by decide) ?_
              refine ne_ll (L' := [some (.ref 0), some (ni _), some (ni _), some (ni _), some (.ref 7), some (ni _), some (.ref 8), some (ni _), some (ni _), some (ni _)]) rfl ?_
              refine ne_goto (tgt := 46) X dX3_sumOf_110 rfl ?_
              refine ne_lnone 9 ?_
              exact ih46 _ _ _ _ _ _ _ (j + -1) (by omega) (by omega) (by omega) (by omega) q4 (by omega) (by omega) (by omega) If J99
            · refine ne_iload X dX3_sumOf_66 rfl ?_
              refine ne_aload X dX3_sumOf_68 rfl ?_
              refine ne_iload X dX3_sumOf_70 rfl ?_
              refine ne_iload X dX3_sumOf_72 rfl ?_
              refine ne_imul X dX3_sumOf_74 ?_
              have m74 : a * m + m ≤ p * m := by
                have h9 := Int.mul_le_mul_of_nonneg_right (show a + 1 ≤ p by omega) (show 0 ≤ m by omega)
                rw [Int.add_mul, Int.one_mul] at h9; exact h9
              have m75 : 0 ≤ a * m := Int.mul_nonneg (by omega) (by omega)
              refine ne_iload X dX3_sumOf_75 rfl ?_
              refine ne_iadd X dX3_sumOf_77 ?_
              refine ne_iconst X dX3_sumOf_78 ?_
              refine ne_isub X dX3_sumOf_79 ?_
              refine ne_ialdR X dX3_sumOf_80 rfl (by omega) If (fun v80 e80 f80 u80 => ?_)
              refine ne_iadd X dX3_sumOf_81 ?_
              refine ne_istore X dX3_sumOf_82 (by decide) ?_
              refine ne_iinc X dX3_sumOf_84 rfl (by decide) ?_
              refine ne_ll (L' := [some (.ref 0), some (ni _), some (ni _), some (ni _), some (.ref 7), some (ni _), some (.ref 8), some (ni _), some (ni _), some (ni _)]) rfl ?_
              refine ne_goto (tgt := 54) X dX3_sumOf_87 rfl ?_
              exact ih (r + v80) (a + 1) (by omega) (by omega) (by omega) (by omega) (by omega)
      refine ne_iload X dX3_sumOf_46 rfl ?_
      refine ne_if_lt (tgt := 113) X dX3_sumOf_48 rfl (by omega) (fun b48 => ?_) (fun b48 => ?_)
      · refine ne_aload X dX3_sumOf_113 rfl ?_
        refine ne_lnil ?_
        refine ne_forget [7] ?_
        refine ne_viewb [0, 1, 2, 3, 4, 5, 6, 8] (ws' := mW c q t b k h vt ++ [some (.inl (0, n2, f2))]) (L' := []) (st' := [.ref 7]) rfl (by decide) rfl rfl rfl rfl ?_
        exact ne_aret X hr (by first | exact Or.inl ⟨_, rfl⟩ | exact Or.inr ⟨_, rfl⟩) dX3_sumOf_115 (Or.inr ⟨_, _, rfl, by omega, Ig, rfl⟩)
      · refine ne_iconst X dX3_sumOf_51 ?_
        refine ne_istore X dX3_sumOf_52 (by decide) ?_
        exact lp54 _ _ 0 (Nat.lt_succ_self _) (by omega) (by omega) (by omega) (by omega)
  refine ne_aload_n X dX3_sumOf_0 rfl ?_
  refine ne_iload_n X dX3_sumOf_1 rfl ?_
  refine ne_callV X nw_Tg (me_X3_lengthOf_ l hl c q t b k h vt T (by exact ⟨Ic, Iq, It, Ib, Itb, Igb, Ik, Ih, Iv⟩) (by omega) _ (by omega)) nw_yX3_lengthOf_ nw_mX3_146 nw_iX3_lengthOf_ nw_eX3_lengthOf_ (ci := 5) rfl rfl rfl dX3_sumOf_2 rfl rfl (by decide) (by decide) (by first | decide | omega) (by first | decide | omega) (Nat.le_of_ble_eq_true rfl) rfl rfl (Nat.le_of_ble_eq_true rfl) ?_ ?_
  rotate_left
  · rintro E9 w9 h9; exact h9.elim
  rintro v2 w2 ⟨rfl, z2, rfl, P2, g2, k2⟩
  have t2 := (ne_tdm z2 p (by omega)).1 (by omega)
  have t3 := Int.tmod_def z2 p
  refine ne_istore_n X dX3_sumOf_5 rfl (by decide) ?_
  refine ne_iload_n X dX3_sumOf_6 rfl ?_
  refine ne_iload_n X dX3_sumOf_7 rfl ?_
  refine ne_irem X dX3_sumOf_8 (by omega) (by omega) (by omega) ?_
  refine ne_if_eq (tgt := 14) X dX3_sumOf_9 rfl (by omega) (fun b9 => ?_) (fun b9 => ?_)
  · refine ne_aload_n X dX3_sumOf_14 rfl ?_
    refine ne_iload_n X dX3_sumOf_15 rfl ?_
    refine ne_iconst X dX3_sumOf_16 ?_
    refine ne_iload_n X dX3_sumOf_17 rfl ?_
    refine ne_callV X nw_Tg (me_X3_row l hl c q t b k h vt T (by exact ⟨Ic, Iq, It, Ib, Itb, Igb, Ik, Ih, Iv⟩) (by omega) _ _ _ (by omega) (by omega) (by omega)) nw_yX3_row nw_mX3_160 nw_iX3_row nw_eX3_row (ci := 5) rfl rfl rfl dX3_sumOf_18 rfl rfl (by decide) (by decide) (by first | decide | omega) (by first | decide | omega) (Nat.le_of_ble_eq_true rfl) rfl rfl (Nat.le_of_ble_eq_true rfl) ?_ ?_
    rotate_left
    · rintro E9 w9 h9; exact h9.elim
    rintro v18 w18 ⟨n18, r18, rfl, N18, R18, rfl⟩
    refine ne_astore X dX3_sumOf_21 (by decide) ?_
    refine ne_ll (L' := [some (.ref 0), some (ni _), some (ni _), some (ni _), some (.ref 7), none, none, none, none, none]) rfl ?_
    refine ne_iload_n X dX3_sumOf_23 rfl ?_
    refine ne_iload_n X dX3_sumOf_24 rfl ?_
    refine ne_idiv X dX3_sumOf_25 (by omega) (by omega) (by omega) ?_
    refine ne_istore X dX3_sumOf_26 (by decide) ?_
    refine ne_ll (L' := [some (.ref 0), some (ni i), some (ni p), some (ni z2), some (.ref 7), some (ni (z2.tdiv p)), none, none, none, none]) rfl ?_
    refine ne_iload X dX3_sumOf_28 rfl ?_
    refine ne_iconst X dX3_sumOf_30 ?_
    refine ne_iadd X dX3_sumOf_31 ?_
    have m32 : 2 * z2.tdiv p ≤ p * z2.tdiv p := Int.mul_le_mul_of_nonneg_right (by omega) (by omega)
    refine ne_newa (t := 0) X dX3_sumOf_32 (Or.inl ⟨rfl, rfl⟩) nw_Aint (by omega) (by omega) (by omega) (Nat.le_of_ble_eq_true rfl) rfl rfl rfl ?_
    refine ne_astore X dX3_sumOf_34 (by decide) ?_
    refine ne_ll (L' := [some (.ref 0), some (ni _), some (ni _), some (ni _), some (.ref 7), some (ni _), some (.ref 8), none, none, none]) rfl ?_
    refine ne_iconst X dX3_sumOf_36 ?_
    refine ne_istore X dX3_sumOf_37 (by decide) ?_
    refine ne_ll (L' := [some (.ref 0), some (ni i), some (ni p), some (ni z2), some (.ref 7), some (ni (z2.tdiv p)), some (.ref 8), some (ni 0), none, none]) rfl ?_
    refine ne_aload X dX3_sumOf_39 rfl ?_
    refine ne_alen X dX3_sumOf_41 rfl (by decide) ?_
    refine ne_iconst X dX3_sumOf_42 ?_
    refine ne_isub X dX3_sumOf_43 ?_
    refine ne_istore X dX3_sumOf_44 (by decide) ?_
    refine ne_ll (L' := [some (.ref 0), some (ni _), some (ni _), some (ni _), some (.ref 7), some (ni _), some (.ref 8), some (ni _), some (ni _), none]) rfl ?_
    refine ne_less (C' := 0) (S' := 0) (by omega) (by omega) ?_
    exact lp46 _ _ _ _ _ _ _ 0 _ (Nat.lt_succ_self _) (by omega) (by omega) (by omega) (by omega) (by omega) (by omega) (by omega) R18 hZ
  · refine ne_null X dX3_sumOf_12 ?_
    exact ne_aretN X hr (by first | exact Or.inl ⟨_, rfl⟩ | exact Or.inr ⟨_, rfl⟩) dX3_sumOf_13 (Or.inl ⟨rfl, rfl⟩)
set_option maxRecDepth 100000 in
set_option maxHeartbeats 4000000 in
theorem me_X3_ninesOf (l : Launch) (hl : l.stackTraces = false) (c q t b k h : Nat → Int) (vt T : Int) (hI : mI c q t b k h vt T) (hT : 0 ≤ T ∧ T ≤ 1000000) (i p : Int) (hi : 0 ≤ i ∧ i < 3) (hp : 2 ≤ p ∧ p ≤ 12) : ne_M l nw_cl (.code yX3_ninesOf cX3_ninesOf 8 (some .int)) nw_T yX3_ninesOf 3 140 3 292 [.ref 0, ni i, ni p] (mW c q t b k h vt) (fun v w => w = mW c q t b k h vt ∧ ∃ z : Int, v = some (ni z) ∧ -9 ≤ z ∧ z ≤ 12) (fun _ _ => False) := by
  refine ne_meet (own := RX3) hl rfl (by decide +kernel) (Nat.le_of_ble_eq_true rfl) ?_
  intro D ct A P9 V9 R9 S9 M9 as9 bl9 mt9 C9 ad0 X hr hin ht
  obtain ⟨Ic, Iq, It, Ib, Itb, Igb, Ik, Ih, Iv⟩ := hI
  have hZ : ne_rg (fun _ => 0) 0 9 := (fun _ => by show (0 : Int) ≤ 0 ∧ (0 : Int) ≤ 9; omega)
  have lp23 : ∀ (n9 : Nat) (n1 n2 : Nat) (f1 f2 : Nat → Int) (j : Int), (p + 1 - j).toNat < n9 → (0 ≤ j) → (j ≤ p + 1) → (2 ≤ n1 ∧ n1 ≤ 98) → (n2 = n1) → (ne_rg f1 0 9) → (ne_rg f2 0 9) → ne_G nw_cl D ct A 7 ad0 P9 l V9 R9 S9 M9 as9 bl9 mt9 C9 (ne_O nw_cl D ct ad0 7 A bl9 as9 S9 3 292 (fun v w => w = mW c q t b k h vt ∧ ∃ z : Int, v = some (ni z) ∧ -9 ≤ z ∧ z ≤ 12) (fun _ _ => False)) 8 3 292 0 0 23 [some (.ref 0), some (ni i), some (ni p), some (.ref 7), some (.ref 8), some (ni j), none, none] [] (mW c q t b k h vt ++ [some (.inl (0, n1, f1)), some (.inl (0, n2, f2))]) := by
    intro n9
    induction n9 with
    | zero => intro n1 n2 f1 f2 j hm9 q1 q2 q4 q5 If Ig; exfalso; omega
    | succ n9 ih =>
      intro n1 n2 f1 f2 j hm9 q1 q2 q4 q5 If Ig
      have ih23 := ih
      have lp51 : ∀ (n9 : Nat) (f2 : Nat → Int) (r a : Int), (a + 1).toNat < n9 → (-1 ≤ a) → (a < n2) → (0 ≤ r ∧ r ≤ 1) → (0 ≤ j ∧ j ≤ p) → (ne_rg f2 0 9) → ne_G nw_cl D ct A 7 ad0 P9 l V9 R9 S9 M9 as9 bl9 mt9 C9 (ne_O nw_cl D ct ad0 7 A bl9 as9 S9 3 292 (fun v w => w = mW c q t b k h vt ∧ ∃ z : Int, v = some (ni z) ∧ -9 ≤ z ∧ z ≤ 12) (fun _ _ => False)) 8 3 292 0 0 51 [some (.ref 0), some (ni i), some (ni p), some (.ref 7), some (.ref 8), some (ni j), some (ni r), some (ni a)] [] (mW c q t b k h vt ++ [some (.inl (0, n1, f1)), some (.inl (0, n2, f2))]) := by
        intro n9
        induction n9 with
        | zero => intro f2 r a hm9 u1 u2 u3 u5 Ig; exfalso; omega
        | succ n9 ih =>
          intro f2 r a hm9 u1 u2 u3 u5 Ig
          refine ne_iload X dX3_ninesOf_51 rfl ?_
          refine ne_if_lt (tgt := 102) X dX3_ninesOf_53 rfl (by omega) (fun b53 => ?_) (fun b53 => ?_)
          · refine ne_iinc X dX3_ninesOf_102 rfl (by decide) ?_
            refine ne_goto (tgt := 23) X dX3_ninesOf_105 rfl ?_
            refine ne_lnone 6 (ne_lnone 7 ?_)
            exact ih23 _ _ _ _ (j + 1) (by omega) (by omega) (by omega) q4 q5 If Ig
          · refine ne_iload X dX3_ninesOf_56 rfl ?_
            refine ne_aload X dX3_ninesOf_58 rfl ?_
            refine ne_iload X dX3_ninesOf_60 rfl ?_
            refine ne_ialdR X dX3_ninesOf_62 rfl (by omega) Ig (fun v62 e62 f62 u62 => ?_)
            refine ne_iload X dX3_ninesOf_63 rfl ?_
            refine ne_iconst X dX3_ninesOf_65 ?_
            refine ne_icmp_le (tgt := 74) X dX3_ninesOf_66 rfl (by omega) (by omega) (fun b66 => ?_) (fun b66 => ?_)
            · refine ne_iconst X dX3_ninesOf_74 ?_
              refine ne_iadd X dX3_ninesOf_75 ?_
              refine ne_iadd X dX3_ninesOf_76 ?_
              refine ne_topI (fun r77 e77 => ?_)
              have p77 : 0 ≤ r77 ∧ r77 ≤ 19 := by omega
              have t77 := ne_t10 r77 (by omega)
              have d77 : r77.tdiv 10 ≤ 1 := by omega
              refine ne_istore X dX3_ninesOf_77 (by decide) ?_
              refine ne_aload X dX3_ninesOf_79 rfl ?_
              refine ne_iload X dX3_ninesOf_81 rfl ?_
              refine ne_iload X dX3_ninesOf_83 rfl ?_
              refine ne_bipush (v := 10) (by decide) X dX3_ninesOf_85 ?_
              refine ne_irem X dX3_ninesOf_87 (by omega) (by omega) (by omega) ?_
              refine ne_iastR X dX3_ninesOf_88 rfl (by omega) (ne_rg_mono Ig (by omega) (by omega)) (a := 0) (b := 9) (by omega) (fun a88 ha88 J88 => ?_)
              refine ne_ws (ws' := mW c q t b k h vt ++ [some (.inl (0, n1, f1)), some (.inl (0, n2, a88))]) rfl ?_
              refine ne_iload X dX3_ninesOf_89 rfl ?_
              refine ne_bipush (v := 10) (by decide) X dX3_ninesOf_91 ?_
              refine ne_idiv X dX3_ninesOf_93 (by omega) (by omega) (by omega) ?_
              refine ne_istore X dX3_ninesOf_94 (by decide) ?_
              refine ne_ll (L' := [some (.ref 0), some (ni _), some (ni _), some (.ref 7), some (.ref 8), some (ni _), some (ni _), some (ni _)]) rfl ?_
              refine ne_iinc X dX3_ninesOf_96 rfl (by decide) ?_
              refine ne_goto (tgt := 51) X dX3_ninesOf_99 rfl ?_
              exact ih _ _ (a + -1) (by omega) (by omega) (by omega) (by omega) (by omega) J88
            · refine ne_bipush (v := 9) (by decide) X dX3_ninesOf_69 ?_
              refine ne_goto (tgt := 75) X dX3_ninesOf_71 rfl ?_
              refine ne_iadd X dX3_ninesOf_75 ?_
              refine ne_iadd X dX3_ninesOf_76 ?_
              refine ne_topI (fun r77 e77 => ?_)
              have p77 : 0 ≤ r77 ∧ r77 ≤ 19 := by omega
              have t77 := ne_t10 r77 (by omega)
              have d77 : r77.tdiv 10 ≤ 1 := by omega
              refine ne_istore X dX3_ninesOf_77 (by decide) ?_
              refine ne_aload X dX3_ninesOf_79 rfl ?_
              refine ne_iload X dX3_ninesOf_81 rfl ?_
              refine ne_iload X dX3_ninesOf_83 rfl ?_
              refine ne_bipush (v := 10) (by decide) X dX3_ninesOf_85 ?_
              refine ne_irem X dX3_ninesOf_87 (by omega) (by omega) (by omega) ?_
              refine ne_iastR X dX3_ninesOf_88 rfl (by omega) (ne_rg_mono Ig (by omega) (by omega)) (a := 0) (b := 9) (by omega) (fun a88 ha88 J88 => ?_)
              refine ne_ws (ws' := mW c q t b k h vt ++ [some (.inl (0, n1, f1)), some (.inl (0, n2, a88))]) rfl ?_
              refine ne_iload X dX3_ninesOf_89 rfl ?_
              refine ne_bipush (v := 10) (by decide) X dX3_ninesOf_91 ?_
              refine ne_idiv X dX3_ninesOf_93 (by omega) (by omega) (by omega) ?_
              refine ne_istore X dX3_ninesOf_94 (by decide) ?_
              refine ne_ll (L' := [some (.ref 0), some (ni _), some (ni _), some (.ref 7), some (.ref 8), some (ni _), some (ni _), some (ni _)]) rfl ?_
              refine ne_iinc X dX3_ninesOf_96 rfl (by decide) ?_
              refine ne_goto (tgt := 51) X dX3_ninesOf_99 rfl ?_
              exact ih _ _ (a + -1) (by omega) (by omega) (by omega) (by omega) (by omega) J88
      refine ne_iload X dX3_ninesOf_23 rfl ?_
      refine ne_iload_n X dX3_ninesOf_25 rfl ?_
      refine ne_icmp_gt (tgt := 108) X dX3_ninesOf_26 rfl (by omega) (by omega) (fun b26 => ?_) (fun b26 => ?_)
      · refine ne_iconst X dX3_ninesOf_108 ?_
        refine ne_take 7 ?_
        refine ne_ws (ws' := mW c q t b k h vt) rfl ?_
        exact ne_iret X hr (by first | rfl | decide | rfl) dX3_ninesOf_109 ⟨rfl, _, rfl, by omega, by omega⟩
      · refine ne_aload X dX3_ninesOf_29 rfl ?_
        refine ne_aload_n X dX3_ninesOf_31 rfl ?_
        refine ne_callSF (is := [8, 7]) X nw_Tg (me_X3_areLike l hl n2 n1 f2 f1 (by omega) (ne_rg_mono Ig (by omega) (by omega)) (ne_rg_mono If (by omega) (by omega))) nw_yX3_areLike nw_mX3_178 nw_sX3_areLike dX3_ninesOf_32 rfl rfl (by decide) (by decide) (by first | decide | omega) (by first | decide | omega) (Nat.le_of_ble_eq_true rfl) rfl rfl rfl (Nat.le_of_ble_eq_true rfl) (ne_ptb rfl (by decide +kernel) rfl) ?_ ?_
        rotate_left
        · rintro E9 w9 h9; exact h9.elim
        rintro v32 w32 ⟨rfl, z32, rfl, g32, k32⟩
        refine ne_ws (ws' := mW c q t b k h vt ++ [some (.inl (0, n1, f1)), some (.inl (0, n2, f2))]) rfl ?_
        refine ne_if_eq (tgt := 41) X dX3_ninesOf_35 rfl (by omega) (fun b35 => ?_) (fun b35 => ?_)
        · refine ne_iconst X dX3_ninesOf_41 ?_
          refine ne_istore X dX3_ninesOf_42 (by decide) ?_
          refine ne_aload X dX3_ninesOf_44 rfl ?_
          refine ne_alen X dX3_ninesOf_46 rfl (by decide) ?_
          refine ne_iconst X dX3_ninesOf_47 ?_
          refine ne_isub X dX3_ninesOf_48 ?_
          refine ne_istore X dX3_ninesOf_49 (by decide) ?_
          refine ne_ll (L' := [some (.ref 0), some (ni _), some (ni _), some (.ref 7), some (.ref 8), some (ni _), some (ni _), some (ni _)]) rfl ?_
          exact lp51 _ _ 0 _ (Nat.lt_succ_self _) (by omega) (by omega) (by omega) (by omega) Ig
        · refine ne_iload X dX3_ninesOf_38 rfl ?_
          refine ne_take 7 ?_
          refine ne_ws (ws' := mW c q t b k h vt) rfl ?_
          exact ne_iret X hr (by first | rfl | decide | rfl) dX3_ninesOf_40 ⟨rfl, _, rfl, by omega, by omega⟩
  refine ne_aload_n X dX3_ninesOf_0 rfl ?_
  refine ne_iload_n X dX3_ninesOf_1 rfl ?_
  refine ne_iload_n X dX3_ninesOf_2 rfl ?_
  refine ne_callV X nw_Tg (me_X3_sumOf l hl c q t b k h vt T (by exact ⟨Ic, Iq, It, Ib, Itb, Igb, Ik, Ih, Iv⟩) (by omega) _ _ (by omega) (by omega)) nw_yX3_sumOf nw_mX3_174 nw_iX3_sumOf nw_eX3_sumOf (ci := 5) rfl rfl rfl dX3_ninesOf_3 rfl rfl (by decide) (by decide) (by first | decide | omega) (by first | decide | omega) (Nat.le_of_ble_eq_true rfl) rfl rfl (Nat.le_of_ble_eq_true rfl) ?_ ?_
  rotate_left
  · rintro E9 w9 h9; exact h9.elim
  rintro v3 w3 (⟨rfl, rfl⟩ | ⟨n3, r3, rfl, N3, R3, rfl⟩)
  · refine ne_astore_nN X dX3_ninesOf_6 rfl (by decide) ?_
    refine ne_aload_nN X dX3_ninesOf_7 rfl ?_
    refine ne_ifnonnullN X dX3_ninesOf_8 ?_
    refine ne_bipush (v := -9) (by decide) X dX3_ninesOf_11 ?_
    exact ne_iret X hr (by first | rfl | decide | rfl) dX3_ninesOf_13 ⟨rfl, _, rfl, by omega, by omega⟩
  · refine ne_astore_n X dX3_ninesOf_6 rfl (by decide) ?_
    refine ne_aload_n X dX3_ninesOf_7 rfl ?_
    refine ne_ifnonnull (tgt := 14) X dX3_ninesOf_8 rfl ?_
    refine ne_aload_n X dX3_ninesOf_14 rfl ?_
    refine ne_alen X dX3_ninesOf_15 rfl (by decide) ?_
    refine ne_newa (t := 0) X dX3_ninesOf_16 (Or.inl ⟨rfl, rfl⟩) nw_Aint (by omega) (by omega) (by omega) (Nat.le_of_ble_eq_true rfl) rfl rfl rfl ?_
    refine ne_astore X dX3_ninesOf_18 (by decide) ?_
    refine ne_ll (L' := [some (.ref 0), some (ni _), some (ni _), some (.ref 7), some (.ref 8), none, none, none]) rfl ?_
    refine ne_iconst X dX3_ninesOf_20 ?_
    refine ne_istore X dX3_ninesOf_21 (by decide) ?_
    refine ne_less (C' := 0) (S' := 0) (by omega) (by omega) ?_
    exact lp23 _ _ _ _ _ 0 (Nat.lt_succ_self _) (by omega) (by omega) (by omega) (by omega) R3 hZ
set_option maxRecDepth 100000 in
set_option maxHeartbeats 4000000 in
theorem me_X3_allNines (l : Launch) (hl : l.stackTraces = false) (c q t b k h : Nat → Int) (vt T : Int) (hI : mI c q t b k h vt T) (hT : 0 ≤ T ∧ T ≤ 1000000) (i : Int) (hi : 0 ≤ i ∧ i < 3) : ne_M l nw_cl (.code yX3_allNines cX3_allNines 5 (some (.array .int))) nw_T yX3_allNines 2 80 1 98 [.ref 0, ni i] (mW c q t b k h vt) (fun v w => ∃ (n : Nat) (r : Nat → Int), w = mW c q t b k h vt ++ [some (.inl (0, n, r))] ∧ (∃ L : Int, ne_per (t i.toNat) (b i.toNat) L ∧ (n : Int) = L + 2 ∧ 1 ≤ L ∧ L ≤ 96) ∧ ne_rg r (-1000) 1000 ∧ v = some (.ref 7)) (fun _ _ => False) := by
  refine ne_meet (own := RX3) hl rfl (by decide +kernel) (Nat.le_of_ble_eq_true rfl) ?_
  intro D ct A P9 V9 R9 S9 M9 as9 bl9 mt9 C9 ad0 X hr hin ht
  obtain ⟨Ic, Iq, It, Ib, Itb, Igb, Ik, Ih, Iv⟩ := hI
  have htb9 := Itb i.toNat
  have hb9 := Ib i.toNat
  have ht9 := It i.toNat
  have hgb9 := Igb i.toNat
  have hZ : ne_rg (fun _ => 0) 0 9 := (fun _ => by show (0 : Int) ≤ 0 ∧ (0 : Int) ≤ 9; omega)
  have lp47 : ∀ (n9 : Nat) (z2 : Int) (n1 : Nat) (f1 : Nat → Int) (r j : Int), (j + 1).toNat < n9 → (ne_per (t i.toNat) (b i.toNat) z2) → (1 ≤ z2 ∧ z2 ≤ 96) → (-1 ≤ j) → (j < n1) → (0 ≤ r ∧ r ≤ 98) → ((n1 : Int) = z2 + 2) → (ne_rg f1 (-9 * (97 - j)) (9 + 10 * (97 - j))) → ne_G nw_cl D ct A 7 ad0 P9 l V9 R9 S9 M9 as9 bl9 mt9 C9 (ne_O nw_cl D ct ad0 7 A bl9 as9 S9 1 98 (fun v w => ∃ (n : Nat) (r : Nat → Int), w = mW c q t b k h vt ++ [some (.inl (0, n, r))] ∧ (∃ L : Int, ne_per (t i.toNat) (b i.toNat) L ∧ (n : Int) = L + 2 ∧ 1 ≤ L ∧ L ≤ 96) ∧ ne_rg r (-1000) 1000 ∧ v = some (.ref 7)) (fun _ _ => False)) 5 1 98 0 0 47 [some (.ref 0), some (ni i), some (.ref 7), some (ni r), some (ni j)] [] (mW c q t b k h vt ++ [some (.inl (0, n1, f1))]) := by
    intro n9
    induction n9 with
    | zero => intro z2 n1 f1 r j hm9 P2 k2 q1 q2 q3 q4 If; exfalso; omega
    | succ n9 ih =>
      intro z2 n1 f1 r j hm9 P2 k2 q1 q2 q3 q4 If
      have t9 := ne_t10 r (by omega)
      refine ne_iload X dX3_allNines_47 rfl ?_
      refine ne_if_lt (tgt := 96) X dX3_allNines_49 rfl (by omega) (fun b49 => ?_) (fun b49 => ?_)
      · refine ne_aload_n X dX3_allNines_96 rfl ?_
        exact ne_aret X hr (by first | exact Or.inl ⟨_, rfl⟩ | exact Or.inr ⟨_, rfl⟩) dX3_allNines_97 ⟨_, _, rfl, ⟨_, P2, by omega, by omega, by omega⟩, ne_rg_mono If (by omega) (by omega), rfl⟩
      · refine ne_aload_n X dX3_allNines_52 rfl ?_
        refine ne_iload X dX3_allNines_53 rfl ?_
        refine ne_dup2ai X dX3_allNines_55 ?_
        refine ne_ialdR X dX3_allNines_56 rfl (by omega) If (fun v56 e56 f56 u56 => ?_)
        refine ne_iload_n X dX3_allNines_57 rfl ?_
        refine ne_bipush (v := 10) (by decide) X dX3_allNines_58 ?_
        refine ne_irem X dX3_allNines_60 (by omega) (by omega) (by omega) ?_
        refine ne_isub X dX3_allNines_61 ?_
        refine ne_iastR X dX3_allNines_62 rfl (by omega) (ne_rg_mono If (by omega) (by omega)) (a := -9 * (97 - j) - 9) (b := 9 + 10 * (97 - j)) (by omega) (fun a62 ha62 J62 => ?_)
        refine ne_ws (ws' := mW c q t b k h vt ++ [some (.inl (0, n1, a62))]) rfl ?_
        refine ne_iload_n X dX3_allNines_63 rfl ?_
        refine ne_bipush (v := 10) (by decide) X dX3_allNines_64 ?_
        refine ne_idiv X dX3_allNines_66 (by omega) (by omega) (by omega) ?_
        refine ne_istore_n X dX3_allNines_67 rfl (by decide) ?_
        refine ne_aload_n X dX3_allNines_68 rfl ?_
        refine ne_iload X dX3_allNines_69 rfl ?_
        refine ne_ialdR X dX3_allNines_71 rfl (by omega) J62 (fun v71 e71 f71 u71 => ?_)
        refine ne_if_lt (tgt := 78) X dX3_allNines_72 rfl (by omega) (fun b72 => ?_) (fun b72 => ?_)
        · refine ne_aload_n X dX3_allNines_78 rfl ?_
          refine ne_iload X dX3_allNines_79 rfl ?_
          refine ne_dup2ai X dX3_allNines_81 ?_
          refine ne_ialdR X dX3_allNines_82 rfl (by omega) J62 (fun v82 e82 f82 u82 => ?_)
          refine ne_bipush (v := 10) (by decide) X dX3_allNines_83 ?_
          refine ne_iadd X dX3_allNines_85 ?_
          refine ne_iastR X dX3_allNines_86 rfl (by omega) (ne_rg_mono J62 (by omega) (by omega)) (a := -9 * (97 - j) - 9) (b := 9 + 10 * (97 - j) + 10) (by omega) (fun a86 ha86 J86 => ?_)
          refine ne_ws (ws' := mW c q t b k h vt ++ [some (.inl (0, n1, a86))]) rfl ?_
          refine ne_iinc X dX3_allNines_87 rfl (by decide) ?_
          refine ne_ll (L' := [some (.ref 0), some (ni _), some (.ref 7), some (ni _), some (ni _)]) rfl ?_
          refine ne_iinc X dX3_allNines_90 rfl (by decide) ?_
          refine ne_goto (tgt := 47) X dX3_allNines_93 rfl ?_
          exact ih _ _ _ _ (j + -1) (by omega) P2 k2 (by omega) (by omega) (by omega) (by omega) (ne_rg_mono J86 (by omega) (by omega))
        · refine ne_goto (tgt := 90) X dX3_allNines_75 rfl ?_
          refine ne_iinc X dX3_allNines_90 rfl (by decide) ?_
          refine ne_ll (L' := [some (.ref 0), some (ni _), some (.ref 7), some (ni _), some (ni _)]) rfl ?_
          refine ne_goto (tgt := 47) X dX3_allNines_93 rfl ?_
          exact ih _ _ _ _ (j + -1) (by omega) P2 k2 (by omega) (by omega) (by omega) (by omega) (ne_rg_mono J62 (by omega) (by omega))
  refine ne_aload_n X dX3_allNines_0 rfl ?_
  refine ne_iload_n X dX3_allNines_1 rfl ?_
  refine ne_callV X nw_Tg (me_X3_lengthOf_ l hl c q t b k h vt T (by exact ⟨Ic, Iq, It, Ib, Itb, Igb, Ik, Ih, Iv⟩) (by omega) _ (by omega)) nw_yX3_lengthOf_ nw_mX3_146 nw_iX3_lengthOf_ nw_eX3_lengthOf_ (ci := 5) rfl rfl rfl dX3_allNines_2 rfl rfl (by decide) (by decide) (by first | decide | omega) (by first | decide | omega) (Nat.le_of_ble_eq_true rfl) rfl rfl (Nat.le_of_ble_eq_true rfl) ?_ ?_
  rotate_left
  · rintro E9 w9 h9; exact h9.elim
  rintro v2 w2 ⟨rfl, z2, rfl, P2, g2, k2⟩
  refine ne_iconst X dX3_allNines_5 ?_
  refine ne_iadd X dX3_allNines_6 ?_
  refine ne_newa (t := 0) X dX3_allNines_7 (Or.inl ⟨rfl, rfl⟩) nw_Aint (by omega) (by omega) (by omega) (Nat.le_of_ble_eq_true rfl) rfl rfl rfl ?_
  refine ne_astore_n X dX3_allNines_9 rfl (by decide) ?_
  refine ne_aload_n X dX3_allNines_10 rfl ?_
  refine ne_iconst X dX3_allNines_11 ?_
  refine ne_aload_n X dX3_allNines_12 rfl ?_
  refine ne_getf X dX3_allNines_13 nw_fX3_18 rfl rfl ?_
  refine ne_iload_n X dX3_allNines_16 rfl ?_
  refine ne_ialdR X dX3_allNines_17 rfl (by omega) It (fun v17 e17 f17 u17 => ?_)
  refine ne_bipush (v := 10) (by decide) X dX3_allNines_18 ?_
  have t17 := ne_t10 v17 (by omega)
  refine ne_idiv X dX3_allNines_20 (by omega) (by omega) (by omega) ?_
  refine ne_iastR X dX3_allNines_21 rfl (by omega) (ne_rg_mono hZ (by omega) (by omega)) (a := 0) (b := 9) (by omega) (fun a21 ha21 J21 => ?_)
  refine ne_ws (ws' := mW c q t b k h vt ++ [some (.inl (0, (z2 + 2).toNat, a21))]) rfl ?_
  refine ne_aload_n X dX3_allNines_22 rfl ?_
  refine ne_iconst X dX3_allNines_23 ?_
  refine ne_aload_n X dX3_allNines_24 rfl ?_
  refine ne_getf X dX3_allNines_25 nw_fX3_18 rfl rfl ?_
  refine ne_iload_n X dX3_allNines_28 rfl ?_
  refine ne_ialdR X dX3_allNines_29 rfl (by omega) It (fun v29 e29 f29 u29 => ?_)
  refine ne_bipush (v := 10) (by decide) X dX3_allNines_30 ?_
  have t29 := ne_t10 v29 (by omega)
  refine ne_irem X dX3_allNines_32 (by omega) (by omega) (by omega) ?_
  refine ne_iastR X dX3_allNines_33 rfl (by omega) (ne_rg_mono J21 (by omega) (by omega)) (a := 0) (b := 9) (by omega) (fun a33 ha33 J33 => ?_)
  refine ne_ws (ws' := mW c q t b k h vt ++ [some (.inl (0, (z2 + 2).toNat, a33))]) rfl ?_
  refine ne_aload_n X dX3_allNines_34 rfl ?_
  refine ne_getf X dX3_allNines_35 nw_fX3_18 rfl rfl ?_
  refine ne_iload_n X dX3_allNines_38 rfl ?_
  refine ne_ialdR X dX3_allNines_39 rfl (by omega) It (fun v39 e39 f39 u39 => ?_)
  refine ne_istore_n X dX3_allNines_40 rfl (by decide) ?_
  refine ne_ll (L' := [some (.ref 0), some (ni _), some (.ref 7), some (ni _), none]) rfl ?_
  refine ne_aload_n X dX3_allNines_41 rfl ?_
  refine ne_alen X dX3_allNines_42 rfl (by decide) ?_
  refine ne_iconst X dX3_allNines_43 ?_
  refine ne_isub X dX3_allNines_44 ?_
  refine ne_istore X dX3_allNines_45 (by decide) ?_
  refine ne_less (C' := 0) (S' := 0) (by omega) (by omega) ?_
  exact lp47 _ z2 _ _ _ _ (Nat.lt_succ_self _) P2 (by omega) (by omega) (by omega) (by omega) (by omega) (ne_rg_mono J33 (by omega) (by omega))
set_option maxRecDepth 100000 in
set_option maxHeartbeats 4000000 in
theorem me_X3_isSoundWheel (l : Launch) (hl : l.stackTraces = false) (c q t b k h : Nat → Int) (vt T : Int) (hI : mI c q t b k h vt T) (hT : 0 ≤ T ∧ T ≤ 1000000) (i : Int) (hi : 0 ≤ i ∧ i < 3) : ne_M l nw_cl (.code yX3_isSoundWheel cX3_isSoundWheel 5 (some .boolean)) nw_T yX3_isSoundWheel 3 140 3 292 [.ref 0, ni i] (mW c q t b k h vt) (fun v w => w = mW c q t b k h vt ∧ ∃ z : Int, v = some (ni z) ∧ 0 ≤ z ∧ z ≤ 1) (fun _ _ => False) := by
  refine ne_meet (own := RX3) hl rfl (by decide +kernel) (Nat.le_of_ble_eq_true rfl) ?_
  intro D ct A P9 V9 R9 S9 M9 as9 bl9 mt9 C9 ad0 X hr hin ht
  obtain ⟨Ic, Iq, It, Ib, Itb, Igb, Ik, Ih, Iv⟩ := hI
  have htb9 := Itb i.toNat
  have hb9 := Ib i.toNat
  have ht9 := It i.toNat
  have hgb9 := Igb i.toNat
  have lp8 : ∀ (n9 : Nat) (z2 j : Int), (97 - j).toNat < n9 → (1 ≤ z2 ∧ z2 ≤ 96) → (1 ≤ j) → (j ≤ 97) → ne_G nw_cl D ct A 7 ad0 P9 l V9 R9 S9 M9 as9 bl9 mt9 C9 (ne_O nw_cl D ct ad0 7 A bl9 as9 S9 3 292 (fun v w => w = mW c q t b k h vt ∧ ∃ z : Int, v = some (ni z) ∧ 0 ≤ z ∧ z ≤ 1) (fun _ _ => False)) 5 3 292 3 292 8 [some (.ref 0), some (ni i), some (ni z2), some (ni j), none] [] (mW c q t b k h vt) := by
    intro n9
    induction n9 with
    | zero => intro z2 j hm9 k2 q1 q2; exfalso; omega
    | succ n9 ih =>
      intro z2 j hm9 k2 q1 q2
      refine ne_iload_n X dX3_isSoundWheel_8 rfl ?_
      refine ne_iload_n X dX3_isSoundWheel_9 rfl ?_
      refine ne_icmp_gt (tgt := 73) X dX3_isSoundWheel_10 rfl (by omega) (by omega) (fun b10 => ?_) (fun b10 => ?_)
      · refine ne_aload_n X dX3_isSoundWheel_73 rfl ?_
        refine ne_iload_n X dX3_isSoundWheel_74 rfl ?_
        refine ne_callV X nw_Tg (me_X3_timesBottom l hl c q t b k h vt T (by exact ⟨Ic, Iq, It, Ib, Itb, Igb, Ik, Ih, Iv⟩) (by omega) _ (by omega)) nw_yX3_timesBottom nw_mX3_166 nw_iX3_timesBottom nw_eX3_timesBottom (ci := 5) rfl rfl rfl dX3_isSoundWheel_75 rfl rfl (by decide) (by decide) (by first | decide | omega) (by first | decide | omega) (Nat.le_of_ble_eq_true rfl) rfl rfl (Nat.le_of_ble_eq_true rfl) ?_ ?_
        rotate_left
        · rintro E9 w9 h9; exact h9.elim
        rintro v75 w75 ⟨n75, r75, rfl, ⟨L75, P75, N75, k75, i75⟩, R75, rfl⟩
        refine ne_aload_n X dX3_isSoundWheel_78 rfl ?_
        refine ne_iload_n X dX3_isSoundWheel_79 rfl ?_
        refine ne_callVF (is := [0, 1, 2, 3, 4, 5, 6]) X nw_Tg (me_X3_allNines l hl c q t b k h vt T (by exact ⟨Ic, Iq, It, Ib, Itb, Igb, Ik, Ih, Iv⟩) (by omega) _ (by omega)) nw_yX3_allNines nw_mX3_191 nw_iX3_allNines nw_eX3_allNines (ci := 5) rfl rfl rfl dX3_isSoundWheel_80 rfl rfl (by decide) (by decide) (by first | decide | omega) (by first | decide | omega) (Nat.le_of_ble_eq_true rfl) rfl rfl rfl (Nat.le_of_ble_eq_true rfl) (ne_ptb rfl (by decide +kernel) rfl) ?_ ?_
        rotate_left
        · rintro E9 w9 h9; exact h9.elim
        rintro v80 w80 ⟨n80, r80, rfl, ⟨L80, P80, N80, k80, i80⟩, R80, rfl⟩
        refine ne_ws (ws' := mW c q t b k h vt ++ [some (.inl (0, n75, r75)), some (.inl (0, n80, r80))]) rfl ?_
        have L80 := ne_perU P75 P80
        refine ne_callSF (is := [7, 8]) X nw_Tg (me_X3_areLike l hl n75 n80 r75 r80 (by omega) (ne_rg_mono R75 (by omega) (by omega)) (ne_rg_mono R80 (by omega) (by omega))) nw_yX3_areLike nw_mX3_178 nw_sX3_areLike dX3_isSoundWheel_83 rfl rfl (by decide) (by decide) (by first | decide | omega) (by first | decide | omega) (Nat.le_of_ble_eq_true rfl) rfl rfl rfl (Nat.le_of_ble_eq_true rfl) (ne_ptb rfl (by decide +kernel) rfl) ?_ ?_
        rotate_left
        · rintro E9 w9 h9; exact h9.elim
        rintro v83 w83 ⟨rfl, z83, rfl, g83, k83⟩
        refine ne_ws (ws' := mW c q t b k h vt ++ [some (.inl (0, n75, r75)), some (.inl (0, n80, r80))]) rfl ?_
        refine ne_take 7 ?_
        refine ne_ws (ws' := mW c q t b k h vt) rfl ?_
        refine ne_if_ne (tgt := 91) X dX3_isSoundWheel_86 rfl (by omega) (fun b86 => ?_) (fun b86 => ?_)
        · refine ne_aload_n X dX3_isSoundWheel_91 rfl ?_
          refine ne_iload_n X dX3_isSoundWheel_92 rfl ?_
          refine ne_iconst X dX3_isSoundWheel_93 ?_
          refine ne_iconst X dX3_isSoundWheel_94 ?_
          refine ne_bipush (v := 6) (by decide) X dX3_isSoundWheel_95 ?_
          refine ne_callV X nw_Tg (me_X3_cutOf l hl c q t b k h vt T (by exact ⟨Ic, Iq, It, Ib, Itb, Igb, Ik, Ih, Iv⟩) (by omega) _ _ _ _ (by omega) (by omega) (by omega) (by omega)) nw_yX3_cutOf nw_mX3_107 nw_iX3_cutOf nw_eX3_cutOf (ci := 5) rfl rfl rfl dX3_isSoundWheel_97 rfl rfl (by decide) (by decide) (by first | decide | omega) (by first | decide | omega) (Nat.le_of_ble_eq_true rfl) rfl rfl (Nat.le_of_ble_eq_true rfl) ?_ ?_
          rotate_left
          · rintro E9 w9 h9; exact h9.elim
          rintro v97 w97 ⟨rfl, z97, rfl, g97⟩
          refine ne_lstore_n X dX3_isSoundWheel_100 rfl (by decide) ?_
          refine ne_aload_n X dX3_isSoundWheel_101 rfl ?_
          refine ne_iload_n X dX3_isSoundWheel_102 rfl ?_
          refine ne_iconst X dX3_isSoundWheel_103 ?_
          refine ne_iconst X dX3_isSoundWheel_104 ?_
          refine ne_iconst X dX3_isSoundWheel_105 ?_
          refine ne_callV X nw_Tg (me_X3_cutOf l hl c q t b k h vt T (by exact ⟨Ic, Iq, It, Ib, Itb, Igb, Ik, Ih, Iv⟩) (by omega) _ _ _ _ (by omega) (by omega) (by omega) (by omega)) nw_yX3_cutOf nw_mX3_107 nw_iX3_cutOf nw_eX3_cutOf (ci := 5) rfl rfl rfl dX3_isSoundWheel_106 rfl rfl (by decide) (by decide) (by first | decide | omega) (by first | decide | omega) (Nat.le_of_ble_eq_true rfl) rfl rfl (Nat.le_of_ble_eq_true rfl) ?_ ?_
          rotate_left
          · rintro E9 w9 h9; exact h9.elim
          rintro v106 w106 ⟨rfl, z106, rfl, g106⟩
          refine ne_aload_n X dX3_isSoundWheel_109 rfl ?_
          refine ne_iload_n X dX3_isSoundWheel_110 rfl ?_
          refine ne_iconst X dX3_isSoundWheel_111 ?_
          refine ne_iconst X dX3_isSoundWheel_112 ?_
          refine ne_iconst X dX3_isSoundWheel_113 ?_
          refine ne_callV X nw_Tg (me_X3_cutOf l hl c q t b k h vt T (by exact ⟨Ic, Iq, It, Ib, Itb, Igb, Ik, Ih, Iv⟩) (by omega) _ _ _ _ (by omega) (by omega) (by omega) (by omega)) nw_yX3_cutOf nw_mX3_107 nw_iX3_cutOf nw_eX3_cutOf (ci := 5) rfl rfl rfl dX3_isSoundWheel_114 rfl rfl (by decide) (by decide) (by first | decide | omega) (by first | decide | omega) (Nat.le_of_ble_eq_true rfl) rfl rfl (Nat.le_of_ble_eq_true rfl) ?_ ?_
          rotate_left
          · rintro E9 w9 h9; exact h9.elim
          rintro v114 w114 ⟨rfl, z114, rfl, g114⟩
          refine ne_lsub X dX3_isSoundWheel_117 ?_
          refine ne_wrapL (fun z117 l117 r117 q117 => ?_)
          refine ne_aload_n X dX3_isSoundWheel_118 rfl ?_
          refine ne_getf X dX3_isSoundWheel_119 nw_fX3_18 rfl rfl ?_
          refine ne_iload_n X dX3_isSoundWheel_122 rfl ?_
          refine ne_ialdR X dX3_isSoundWheel_123 rfl (by omega) It (fun v123 e123 f123 u123 => ?_)
          refine ne_if_ne (tgt := 131) X dX3_isSoundWheel_124 rfl (by omega) (fun b124 => ?_) (fun b124 => ?_)
          · refine ne_iconst X dX3_isSoundWheel_131 ?_
            refine ne_i2l (by omega) X dX3_isSoundWheel_132 ?_
            refine ne_lcif_ne (tgt := 167) X dX3_isSoundWheel_133 dX3_isSoundWheel_134 rfl (by omega) (by omega) (fun b134 => ?_) (fun b134 => ?_)
            · refine ne_iconst X dX3_isSoundWheel_167 ?_
              exact ne_iret X hr (by first | rfl | decide | rfl) dX3_isSoundWheel_168 ⟨rfl, _, rfl, by omega, by omega⟩
            · refine ne_aload_n X dX3_isSoundWheel_137 rfl ?_
              refine ne_iload_n X dX3_isSoundWheel_138 rfl ?_
              refine ne_iconst X dX3_isSoundWheel_139 ?_
              refine ne_iconst X dX3_isSoundWheel_140 ?_
              refine ne_iconst X dX3_isSoundWheel_141 ?_
              refine ne_callV X nw_Tg (me_X3_cutOf l hl c q t b k h vt T (by exact ⟨Ic, Iq, It, Ib, Itb, Igb, Ik, Ih, Iv⟩) (by omega) _ _ _ _ (by omega) (by omega) (by omega) (by omega)) nw_yX3_cutOf nw_mX3_107 nw_iX3_cutOf nw_eX3_cutOf (ci := 5) rfl rfl rfl dX3_isSoundWheel_142 rfl rfl (by decide) (by decide) (by first | decide | omega) (by first | decide | omega) (Nat.le_of_ble_eq_true rfl) rfl rfl (Nat.le_of_ble_eq_true rfl) ?_ ?_
              rotate_left
              · rintro E9 w9 h9; exact h9.elim
              rintro v142 w142 ⟨rfl, z142, rfl, g142⟩
              refine ne_lload_n X dX3_isSoundWheel_145 rfl ?_
              refine ne_lcif_ne (tgt := 167) X dX3_isSoundWheel_146 dX3_isSoundWheel_147 rfl (by omega) (by omega) (fun b147 => ?_) (fun b147 => ?_)
              · refine ne_iconst X dX3_isSoundWheel_167 ?_
                exact ne_iret X hr (by first | rfl | decide | rfl) dX3_isSoundWheel_168 ⟨rfl, _, rfl, by omega, by omega⟩
              · refine ne_aload_n X dX3_isSoundWheel_150 rfl ?_
                refine ne_iload_n X dX3_isSoundWheel_151 rfl ?_
                refine ne_iconst X dX3_isSoundWheel_152 ?_
                refine ne_iconst X dX3_isSoundWheel_153 ?_
                refine ne_iconst X dX3_isSoundWheel_154 ?_
                refine ne_callV X nw_Tg (me_X3_cutOf l hl c q t b k h vt T (by exact ⟨Ic, Iq, It, Ib, Itb, Igb, Ik, Ih, Iv⟩) (by omega) _ _ _ _ (by omega) (by omega) (by omega) (by omega)) nw_yX3_cutOf nw_mX3_107 nw_iX3_cutOf nw_eX3_cutOf (ci := 5) rfl rfl rfl dX3_isSoundWheel_155 rfl rfl (by decide) (by decide) (by first | decide | omega) (by first | decide | omega) (Nat.le_of_ble_eq_true rfl) rfl rfl (Nat.le_of_ble_eq_true rfl) ?_ ?_
                rotate_left
                · rintro E9 w9 h9; exact h9.elim
                rintro v155 w155 ⟨rfl, z155, rfl, g155⟩
                refine ne_lload_n X dX3_isSoundWheel_158 rfl ?_
                refine ne_lcif_ne (tgt := 167) X dX3_isSoundWheel_159 dX3_isSoundWheel_160 rfl (by omega) (by omega) (fun b160 => ?_) (fun b160 => ?_)
                · refine ne_iconst X dX3_isSoundWheel_167 ?_
                  exact ne_iret X hr (by first | rfl | decide | rfl) dX3_isSoundWheel_168 ⟨rfl, _, rfl, by omega, by omega⟩
                · refine ne_iconst X dX3_isSoundWheel_163 ?_
                  refine ne_goto (tgt := 168) X dX3_isSoundWheel_164 rfl ?_
                  exact ne_iret X hr (by first | rfl | decide | rfl) dX3_isSoundWheel_168 ⟨rfl, _, rfl, by omega, by omega⟩
          · refine ne_iconst X dX3_isSoundWheel_127 ?_
            refine ne_goto (tgt := 132) X dX3_isSoundWheel_128 rfl ?_
            refine ne_i2l (by omega) X dX3_isSoundWheel_132 ?_
            refine ne_lcif_ne (tgt := 167) X dX3_isSoundWheel_133 dX3_isSoundWheel_134 rfl (by omega) (by omega) (fun b134 => ?_) (fun b134 => ?_)
            · refine ne_iconst X dX3_isSoundWheel_167 ?_
              exact ne_iret X hr (by first | rfl | decide | rfl) dX3_isSoundWheel_168 ⟨rfl, _, rfl, by omega, by omega⟩
            · refine ne_aload_n X dX3_isSoundWheel_137 rfl ?_
              refine ne_iload_n X dX3_isSoundWheel_138 rfl ?_
              refine ne_iconst X dX3_isSoundWheel_139 ?_
              refine ne_iconst X dX3_isSoundWheel_140 ?_
              refine ne_iconst X dX3_isSoundWheel_141 ?_
              refine ne_callV X nw_Tg (me_X3_cutOf l hl c q t b k h vt T (by exact ⟨Ic, Iq, It, Ib, Itb, Igb, Ik, Ih, Iv⟩) (by omega) _ _ _ _ (by omega) (by omega) (by omega) (by omega)) nw_yX3_cutOf nw_mX3_107 nw_iX3_cutOf nw_eX3_cutOf (ci := 5) rfl rfl rfl dX3_isSoundWheel_142 rfl rfl (by decide) (by decide) (by first | decide | omega) (by first | decide | omega) (Nat.le_of_ble_eq_true rfl) rfl rfl (Nat.le_of_ble_eq_true rfl) ?_ ?_
              rotate_left
              · rintro E9 w9 h9; exact h9.elim
              rintro v142 w142 ⟨rfl, z142, rfl, g142⟩
              refine ne_lload_n X dX3_isSoundWheel_145 rfl ?_
              refine ne_lcif_ne (tgt := 167) X dX3_isSoundWheel_146 dX3_isSoundWheel_147 rfl (by omega) (by omega) (fun b147 => ?_) (fun b147 => ?_)
              · refine ne_iconst X dX3_isSoundWheel_167 ?_
                exact ne_iret X hr (by first | rfl | decide | rfl) dX3_isSoundWheel_168 ⟨rfl, _, rfl, by omega, by omega⟩
              · refine ne_aload_n X dX3_isSoundWheel_150 rfl ?_
                refine ne_iload_n X dX3_isSoundWheel_151 rfl ?_
                refine ne_iconst X dX3_isSoundWheel_152 ?_
                refine ne_iconst X dX3_isSoundWheel_153 ?_
                refine ne_iconst X dX3_isSoundWheel_154 ?_
                refine ne_callV X nw_Tg (me_X3_cutOf l hl c q t b k h vt T (by exact ⟨Ic, Iq, It, Ib, Itb, Igb, Ik, Ih, Iv⟩) (by omega) _ _ _ _ (by omega) (by omega) (by omega) (by omega)) nw_yX3_cutOf nw_mX3_107 nw_iX3_cutOf nw_eX3_cutOf (ci := 5) rfl rfl rfl dX3_isSoundWheel_155 rfl rfl (by decide) (by decide) (by first | decide | omega) (by first | decide | omega) (Nat.le_of_ble_eq_true rfl) rfl rfl (Nat.le_of_ble_eq_true rfl) ?_ ?_
                rotate_left
                · rintro E9 w9 h9; exact h9.elim
                rintro v155 w155 ⟨rfl, z155, rfl, g155⟩
                refine ne_lload_n X dX3_isSoundWheel_158 rfl ?_
                refine ne_lcif_ne (tgt := 167) X dX3_isSoundWheel_159 dX3_isSoundWheel_160 rfl (by omega) (by omega) (fun b160 => ?_) (fun b160 => ?_)
                · refine ne_iconst X dX3_isSoundWheel_167 ?_
                  exact ne_iret X hr (by first | rfl | decide | rfl) dX3_isSoundWheel_168 ⟨rfl, _, rfl, by omega, by omega⟩
                · refine ne_iconst X dX3_isSoundWheel_163 ?_
                  refine ne_goto (tgt := 168) X dX3_isSoundWheel_164 rfl ?_
                  exact ne_iret X hr (by first | rfl | decide | rfl) dX3_isSoundWheel_168 ⟨rfl, _, rfl, by omega, by omega⟩
        · refine ne_iconst X dX3_isSoundWheel_89 ?_
          exact ne_iret X hr (by first | rfl | decide | rfl) dX3_isSoundWheel_90 ⟨rfl, _, rfl, by omega, by omega⟩
      · refine ne_iload_n X dX3_isSoundWheel_13 rfl ?_
        refine ne_iload_n X dX3_isSoundWheel_14 rfl ?_
        have t15 := (ne_tdm z2 j (by omega)).1 (by omega)
        refine ne_irem X dX3_isSoundWheel_15 (by omega) (by omega) (by omega) ?_
        refine ne_if_eq (tgt := 22) X dX3_isSoundWheel_16 rfl (by omega) (fun b16 => ?_) (fun b16 => ?_)
        · refine ne_aload_n X dX3_isSoundWheel_22 rfl ?_
          refine ne_getf X dX3_isSoundWheel_23 nw_fX3_18 rfl rfl ?_
          refine ne_iload_n X dX3_isSoundWheel_26 rfl ?_
          refine ne_ialdR X dX3_isSoundWheel_27 rfl (by omega) It (fun v27 e27 f27 u27 => ?_)
          refine ne_aload_n X dX3_isSoundWheel_28 rfl ?_
          refine ne_getf X dX3_isSoundWheel_29 nw_fX3_21 rfl rfl ?_
          refine ne_iload_n X dX3_isSoundWheel_32 rfl ?_
          refine ne_ialdR X dX3_isSoundWheel_33 rfl (by omega) Ib (fun v33 e33 f33 u33 => ?_)
          refine ne_iload_n X dX3_isSoundWheel_34 rfl ?_
          refine ne_callS X nw_Tg (me_X3_restOf l hl _ _ _ _ (by omega) (by omega) (by omega) (by omega)) nw_yX3_restOf nw_mX3_149 nw_sX3_restOf dX3_isSoundWheel_35 rfl rfl (by decide) (by decide) (by first | decide | omega) (by first | decide | omega) (Nat.le_of_ble_eq_true rfl) rfl rfl (Nat.le_of_ble_eq_true rfl) ?_ ?_
          rotate_left
          · rintro E9 w9 h9; exact h9.elim
          rintro v35 w35 ⟨rfl, z35, rfl, g35, k35, i35⟩
          refine ne_aload_n X dX3_isSoundWheel_38 rfl ?_
          refine ne_getf X dX3_isSoundWheel_39 nw_fX3_18 rfl rfl ?_
          refine ne_iload_n X dX3_isSoundWheel_42 rfl ?_
          refine ne_ialdR X dX3_isSoundWheel_43 rfl (by omega) It (fun v43 e43 f43 u43 => ?_)
          refine ne_icmp_ne (tgt := 51) X dX3_isSoundWheel_44 rfl (by omega) (by omega) (fun b44 => ?_) (fun b44 => ?_)
          · refine ne_iconst X dX3_isSoundWheel_51 ?_
            refine ne_iload_n X dX3_isSoundWheel_52 rfl ?_
            refine ne_iload_n X dX3_isSoundWheel_53 rfl ?_
            refine ne_icmp_ne (tgt := 61) X dX3_isSoundWheel_54 rfl (by omega) (by omega) (fun b54 => ?_) (fun b54 => ?_)
            · refine ne_iconst X dX3_isSoundWheel_61 ?_
              refine ne_icmp_eq (tgt := 67) X dX3_isSoundWheel_62 rfl (by omega) (by omega) (fun b62 => ?_) (fun b62 => ?_)
              · refine ne_iinc X dX3_isSoundWheel_67 rfl (by decide) ?_
                refine ne_goto (tgt := 8) X dX3_isSoundWheel_70 rfl ?_
                exact ih _ (j + 1) (by omega) (by omega) (by omega) (by omega)
              · refine ne_iconst X dX3_isSoundWheel_65 ?_
                exact ne_iret X hr (by first | rfl | decide | rfl) dX3_isSoundWheel_66 ⟨rfl, _, rfl, by omega, by omega⟩
            · refine ne_iconst X dX3_isSoundWheel_57 ?_
              refine ne_goto (tgt := 62) X dX3_isSoundWheel_58 rfl ?_
              refine ne_icmp_eq (tgt := 67) X dX3_isSoundWheel_62 rfl (by omega) (by omega) (fun b62 => ?_) (fun b62 => ?_)
              · refine ne_iinc X dX3_isSoundWheel_67 rfl (by decide) ?_
                refine ne_goto (tgt := 8) X dX3_isSoundWheel_70 rfl ?_
                exact ih _ (j + 1) (by omega) (by omega) (by omega) (by omega)
              · refine ne_iconst X dX3_isSoundWheel_65 ?_
                exact ne_iret X hr (by first | rfl | decide | rfl) dX3_isSoundWheel_66 ⟨rfl, _, rfl, by omega, by omega⟩
          · refine ne_iconst X dX3_isSoundWheel_47 ?_
            refine ne_goto (tgt := 52) X dX3_isSoundWheel_48 rfl ?_
            refine ne_iload_n X dX3_isSoundWheel_52 rfl ?_
            refine ne_iload_n X dX3_isSoundWheel_53 rfl ?_
            refine ne_icmp_ne (tgt := 61) X dX3_isSoundWheel_54 rfl (by omega) (by omega) (fun b54 => ?_) (fun b54 => ?_)
            · refine ne_iconst X dX3_isSoundWheel_61 ?_
              refine ne_icmp_eq (tgt := 67) X dX3_isSoundWheel_62 rfl (by omega) (by omega) (fun b62 => ?_) (fun b62 => ?_)
              · refine ne_iinc X dX3_isSoundWheel_67 rfl (by decide) ?_
                refine ne_goto (tgt := 8) X dX3_isSoundWheel_70 rfl ?_
                exact ih _ (j + 1) (by omega) (by omega) (by omega) (by omega)
              · refine ne_iconst X dX3_isSoundWheel_65 ?_
                exact ne_iret X hr (by first | rfl | decide | rfl) dX3_isSoundWheel_66 ⟨rfl, _, rfl, by omega, by omega⟩
            · refine ne_iconst X dX3_isSoundWheel_57 ?_
              refine ne_goto (tgt := 62) X dX3_isSoundWheel_58 rfl ?_
              refine ne_icmp_eq (tgt := 67) X dX3_isSoundWheel_62 rfl (by omega) (by omega) (fun b62 => ?_) (fun b62 => ?_)
              · refine ne_iinc X dX3_isSoundWheel_67 rfl (by decide) ?_
                refine ne_goto (tgt := 8) X dX3_isSoundWheel_70 rfl ?_
                exact ih _ (j + 1) (by omega) (by omega) (by omega) (by omega)
              · refine ne_iconst X dX3_isSoundWheel_65 ?_
                exact ne_iret X hr (by first | rfl | decide | rfl) dX3_isSoundWheel_66 ⟨rfl, _, rfl, by omega, by omega⟩
        · refine ne_goto (tgt := 67) X dX3_isSoundWheel_19 rfl ?_
          refine ne_iinc X dX3_isSoundWheel_67 rfl (by decide) ?_
          refine ne_goto (tgt := 8) X dX3_isSoundWheel_70 rfl ?_
          exact ih _ (j + 1) (by omega) (by omega) (by omega) (by omega)
  refine ne_aload_n X dX3_isSoundWheel_0 rfl ?_
  refine ne_iload_n X dX3_isSoundWheel_1 rfl ?_
  refine ne_callV X nw_Tg (me_X3_lengthOf_ l hl c q t b k h vt T (by exact ⟨Ic, Iq, It, Ib, Itb, Igb, Ik, Ih, Iv⟩) (by omega) _ (by omega)) nw_yX3_lengthOf_ nw_mX3_146 nw_iX3_lengthOf_ nw_eX3_lengthOf_ (ci := 5) rfl rfl rfl dX3_isSoundWheel_2 rfl rfl (by decide) (by decide) (by first | decide | omega) (by first | decide | omega) (Nat.le_of_ble_eq_true rfl) rfl rfl (Nat.le_of_ble_eq_true rfl) ?_ ?_
  rotate_left
  · rintro E9 w9 h9; exact h9.elim
  rintro v2 w2 ⟨rfl, z2, rfl, P2, g2, k2⟩
  refine ne_istore_n X dX3_isSoundWheel_5 rfl (by decide) ?_
  refine ne_iconst X dX3_isSoundWheel_6 ?_
  refine ne_istore_n X dX3_isSoundWheel_7 rfl (by decide) ?_
  refine ne_ll (L' := [some (.ref 0), some (ni _), some (ni _), some (ni _), none]) rfl ?_
  exact lp8 _ _ 1 (Nat.lt_succ_self _) (by omega) (by omega) (by omega)
set_option maxRecDepth 100000 in
set_option maxHeartbeats 4000000 in
theorem me_X3_isWhole (l : Launch) (hl : l.stackTraces = false) (c q t b k h : Nat → Int) (vt T : Int) (hI : mI c q t b k h vt T) (hT : 0 ≤ T ∧ T ≤ 1000000)  : ne_M l nw_cl (.code yX3_isWhole cX3_isWhole 3 (some .boolean)) nw_T yX3_isWhole 4 190 9 876 [.ref 0] (mW c q t b k h vt) (fun v w => w = mW c q t b k h vt ∧ ∃ z : Int, v = some (ni z) ∧ 0 ≤ z ∧ z ≤ 1) (fun _ _ => False) := by
  refine ne_meet (own := RX3) hl rfl (by decide +kernel) (Nat.le_of_ble_eq_true rfl) ?_
  intro D ct A P9 V9 R9 S9 M9 as9 bl9 mt9 C9 ad0 X hr hin ht
  obtain ⟨Ic, Iq, It, Ib, Itb, Igb, Ik, Ih, Iv⟩ := hI
  have lp72 : ∀ (n9 : Nat) (j : Int), (3 - j).toNat < n9 → (0 ≤ j) → (j ≤ 3) → ne_G nw_cl D ct A 7 ad0 P9 l V9 R9 S9 M9 as9 bl9 mt9 C9 (ne_O nw_cl D ct ad0 7 A bl9 as9 S9 9 876 (fun v w => w = mW c q t b k h vt ∧ ∃ z : Int, v = some (ni z) ∧ 0 ≤ z ∧ z ≤ 1) (fun _ _ => False)) 3 9 876 (3 * (3 - j)).toNat (292 * (3 - j)).toNat 72 [some (.ref 0), some (ni j), none] [] (mW c q t b k h vt) := by
    intro n9
    induction n9 with
    | zero => intro j hm9 q1 q2; exfalso; omega
    | succ n9 ih =>
      intro j hm9 q1 q2
      refine ne_iload_n X dX3_isWhole_72 rfl ?_
      refine ne_iconst X dX3_isWhole_73 ?_
      refine ne_icmp_ge (tgt := 93) X dX3_isWhole_74 rfl (by omega) (by omega) (fun b74 => ?_) (fun b74 => ?_)
      · refine ne_iconst X dX3_isWhole_93 ?_
        exact ne_iret X hr (by first | rfl | decide | rfl) dX3_isWhole_94 ⟨rfl, _, rfl, by omega, by omega⟩
      · refine ne_aload_n X dX3_isWhole_77 rfl ?_
        refine ne_iload_n X dX3_isWhole_78 rfl ?_
        refine ne_callV X nw_Tg (me_X3_isSoundWheel l hl c q t b k h vt T (by exact ⟨Ic, Iq, It, Ib, Itb, Igb, Ik, Ih, Iv⟩) (by omega) _ (by omega)) nw_yX3_isSoundWheel nw_mX3_197 nw_iX3_isSoundWheel nw_eX3_isSoundWheel (ci := 5) rfl rfl rfl dX3_isWhole_79 rfl rfl (by decide) (by decide) (by first | decide | omega) (by first | decide | omega) (Nat.le_of_ble_eq_true rfl) rfl rfl (Nat.le_of_ble_eq_true rfl) ?_ ?_
        rotate_left
        · rintro E9 w9 h9; exact h9.elim
        rintro v79 w79 ⟨rfl, z79, rfl, g79, k79⟩
        refine ne_if_ne (tgt := 87) X dX3_isWhole_82 rfl (by omega) (fun b82 => ?_) (fun b82 => ?_)
        · refine ne_iinc X dX3_isWhole_87 rfl (by decide) ?_
          refine ne_goto (tgt := 72) X dX3_isWhole_90 rfl ?_
          refine ne_less (C' := (3 * (3 - (j + 1))).toNat) (S' := (292 * (3 - (j + 1))).toNat) (by omega) (by omega) ?_
          exact ih (j + 1) (by omega) (by omega) (by omega)
        · refine ne_iconst X dX3_isWhole_85 ?_
          exact ne_iret X hr (by first | rfl | decide | rfl) dX3_isWhole_86 ⟨rfl, _, rfl, by omega, by omega⟩
  have lp2 : ∀ (n9 : Nat) (j : Int), (4 - j).toNat < n9 → (0 ≤ j) → (j ≤ 4) → ne_G nw_cl D ct A 7 ad0 P9 l V9 R9 S9 M9 as9 bl9 mt9 C9 (ne_O nw_cl D ct ad0 7 A bl9 as9 S9 9 876 (fun v w => w = mW c q t b k h vt ∧ ∃ z : Int, v = some (ni z) ∧ 0 ≤ z ∧ z ≤ 1) (fun _ _ => False)) 3 9 876 9 876 2 [some (.ref 0), some (ni j), none] [] (mW c q t b k h vt) := by
    intro n9
    induction n9 with
    | zero => intro j hm9 q1 q2; exfalso; omega
    | succ n9 ih =>
      intro j hm9 q1 q2
      have ih2 := ih
      have lp42 : ∀ (n9 : Nat) (a : Int), (4 - a).toNat < n9 → (0 ≤ a) → (a ≤ 4) → (j < 4) → ne_G nw_cl D ct A 7 ad0 P9 l V9 R9 S9 M9 as9 bl9 mt9 C9 (ne_O nw_cl D ct ad0 7 A bl9 as9 S9 9 876 (fun v w => w = mW c q t b k h vt ∧ ∃ z : Int, v = some (ni z) ∧ 0 ≤ z ∧ z ≤ 1) (fun _ _ => False)) 3 9 876 9 876 42 [some (.ref 0), some (ni j), some (ni a)] [] (mW c q t b k h vt) := by
        intro n9
        induction n9 with
        | zero => intro a hm9 u1 u2 u3; exfalso; omega
        | succ n9 ih =>
          intro a hm9 u1 u2 u3
          refine ne_iload_n X dX3_isWhole_42 rfl ?_
          refine ne_iconst X dX3_isWhole_43 ?_
          refine ne_icmp_ge (tgt := 64) X dX3_isWhole_44 rfl (by omega) (by omega) (fun b44 => ?_) (fun b44 => ?_)
          · refine ne_iinc X dX3_isWhole_64 rfl (by decide) ?_
            refine ne_goto (tgt := 2) X dX3_isWhole_67 rfl ?_
            refine ne_lnone 2 ?_
            exact ih2 (j + 1) (by omega) (by omega) (by omega)
          · refine ne_aload_n X dX3_isWhole_47 rfl ?_
            refine ne_iload_n X dX3_isWhole_48 rfl ?_
            refine ne_iload_n X dX3_isWhole_49 rfl ?_
            refine ne_callV X nw_Tg (me_X3_isSoundPair l hl c q t b k h vt T (by exact ⟨Ic, Iq, It, Ib, Itb, Igb, Ik, Ih, Iv⟩) (by omega) _ _ (by omega) (by omega)) nw_yX3_isSoundPair nw_mX3_194 nw_iX3_isSoundPair nw_eX3_isSoundPair (ci := 5) rfl rfl rfl dX3_isWhole_50 rfl rfl (by decide) (by decide) (by first | decide | omega) (by first | decide | omega) (Nat.le_of_ble_eq_true rfl) rfl rfl (Nat.le_of_ble_eq_true rfl) ?_ ?_
            rotate_left
            · rintro E9 w9 h9; exact h9.elim
            rintro v50 w50 ⟨rfl, z50, rfl, g50, k50⟩
            refine ne_if_ne (tgt := 58) X dX3_isWhole_53 rfl (by omega) (fun b53 => ?_) (fun b53 => ?_)
            · refine ne_iinc X dX3_isWhole_58 rfl (by decide) ?_
              refine ne_goto (tgt := 42) X dX3_isWhole_61 rfl ?_
              exact ih (a + 1) (by omega) (by omega) (by omega) (by omega)
            · refine ne_iconst X dX3_isWhole_56 ?_
              exact ne_iret X hr (by first | rfl | decide | rfl) dX3_isWhole_57 ⟨rfl, _, rfl, by omega, by omega⟩
      refine ne_iload_n X dX3_isWhole_2 rfl ?_
      refine ne_iconst X dX3_isWhole_3 ?_
      refine ne_icmp_ge (tgt := 70) X dX3_isWhole_4 rfl (by omega) (by omega) (fun b4 => ?_) (fun b4 => ?_)
      · refine ne_iconst X dX3_isWhole_70 ?_
        refine ne_istore_n X dX3_isWhole_71 rfl (by decide) ?_
        refine ne_lnone 2 ?_
        refine ne_less (C' := (3 * (3 - (0 : Int))).toNat) (S' := (292 * (3 - (0 : Int))).toNat) (by omega) (by omega) ?_
        exact lp72 _ 0 (Nat.lt_succ_self _) (by omega) (by omega)
      · refine ne_aload_n X dX3_isWhole_7 rfl ?_
        refine ne_getf X dX3_isWhole_8 nw_fX3_9 rfl rfl ?_
        refine ne_iload_n X dX3_isWhole_11 rfl ?_
        refine ne_ialdR X dX3_isWhole_12 rfl (by omega) Ic (fun v12 e12 f12 u12 => ?_)
        refine ne_i2l (by omega) X dX3_isWhole_13 ?_
        refine ne_callS X nw_Tg (me_X3_sizeOf l hl _ _ (by omega)) nw_yX3_sizeOf nw_mX3_40 nw_sX3_sizeOf dX3_isWhole_14 rfl rfl (by decide) (by decide) (by first | decide | omega) (by first | decide | omega) (Nat.le_of_ble_eq_true rfl) rfl rfl (Nat.le_of_ble_eq_true rfl) ?_ ?_
        rotate_left
        · rintro E9 w9 h9; exact h9.elim
        rintro v14 w14 ⟨rfl, z14, rfl, g14⟩
        refine ne_ldc2 (z := 999999) (by decide) nw_cX3_52 X dX3_isWhole_17 ?_
        refine ne_lcif_gt (tgt := 38) X dX3_isWhole_20 dX3_isWhole_21 rfl (by omega) (by omega) (fun b21 => ?_) (fun b21 => ?_)
        · refine ne_iconst X dX3_isWhole_38 ?_
          exact ne_iret X hr (by first | rfl | decide | rfl) dX3_isWhole_39 ⟨rfl, _, rfl, by omega, by omega⟩
        · refine ne_aload_n X dX3_isWhole_24 rfl ?_
          refine ne_getf X dX3_isWhole_25 nw_fX3_15 rfl rfl ?_
          refine ne_iload_n X dX3_isWhole_28 rfl ?_
          refine ne_ialdR X dX3_isWhole_29 rfl (by omega) Iq (fun v29 e29 f29 u29 => ?_)
          refine ne_iconst X dX3_isWhole_30 ?_
          refine ne_iconst X dX3_isWhole_31 ?_
          refine ne_callS X nw_Tg (me_X3_isOut l hl _ _ _ _ (by omega) (by omega) (by omega)) nw_yX3_isOut nw_mX3_34 nw_sX3_isOut dX3_isWhole_32 rfl rfl (by decide) (by decide) (by first | decide | omega) (by first | decide | omega) (Nat.le_of_ble_eq_true rfl) rfl rfl (Nat.le_of_ble_eq_true rfl) ?_ ?_
          rotate_left
          · rintro E9 w9 h9; exact h9.elim
          rintro v32 w32 ⟨rfl, z32, rfl, g32⟩
          refine ne_if_eq (tgt := 40) X dX3_isWhole_35 rfl (by omega) (fun b35 => ?_) (fun b35 => ?_)
          · refine ne_iconst X dX3_isWhole_40 ?_
            refine ne_istore_n X dX3_isWhole_41 rfl (by decide) ?_
            exact lp42 _ 0 (Nat.lt_succ_self _) (by omega) (by omega) (by omega)
          · refine ne_iconst X dX3_isWhole_38 ?_
            exact ne_iret X hr (by first | rfl | decide | rfl) dX3_isWhole_39 ⟨rfl, _, rfl, by omega, by omega⟩
  refine ne_iconst X dX3_isWhole_0 ?_
  refine ne_istore_n X dX3_isWhole_1 rfl (by decide) ?_
  exact lp2 _ 0 (Nat.lt_succ_self _) (by omega) (by omega)
set_option maxRecDepth 100000 in
set_option maxHeartbeats 4000000 in
theorem me_X3_isSound (l : Launch) (hl : l.stackTraces = false) (c q t b k h : Nat → Int) (vt T : Int) (hI : mI c q t b k h vt T) (hT : 0 ≤ T ∧ T ≤ 1000000)  : ne_M l nw_cl (.code yX3_isSound cX3_isSound 1 (some .boolean)) nw_T yX3_isSound 5 240 9 876 [.ref 0] (mW c q t b k h vt) (fun v w => w = mW c q t b k h 0 ∧ ∃ z : Int, v = some (ni z) ∧ 0 ≤ z ∧ z ≤ 1) (fun _ _ => False) := by
  refine ne_meet (own := RX3) hl rfl (by decide +kernel) (Nat.le_of_ble_eq_true rfl) ?_
  intro D ct A P9 V9 R9 S9 M9 as9 bl9 mt9 C9 ad0 X hr hin ht
  obtain ⟨Ic, Iq, It, Ib, Itb, Igb, Ik, Ih, Iv⟩ := hI
  have Iv : (0 : Int) ≤ 0 ∧ (0 : Int) ≤ 2 := by omega
  refine ne_aload_n X dX3_isSound_0 rfl ?_
  refine ne_iconst X dX3_isSound_1 ?_
  refine ne_putf X dX3_isSound_2 nw_fX3_30 nw_p5_6 rfl (fun _ => rfl) (fun _ => rfl) (by first | decide | exact Nat.le_of_ble_eq_true rfl) ?_
  refine ne_ws (ws' := mW c q t b k h 0) rfl ?_
  have Iv : (0 : Int) ≤ 0 ∧ (0 : Int) ≤ 2 := by omega
  refine ne_aload_n X dX3_isSound_5 rfl ?_
  refine ne_callV X nw_Tg (me_X3_isWhole l hl c q t b k h 0 T (by exact ⟨Ic, Iq, It, Ib, Itb, Igb, Ik, Ih, Iv⟩) (by omega) ) nw_yX3_isWhole nw_mX3_200 nw_iX3_isWhole nw_eX3_isWhole (ci := 5) rfl rfl rfl dX3_isSound_6 rfl rfl (by decide) (by decide) (by first | decide | omega) (by first | decide | omega) (Nat.le_of_ble_eq_true rfl) rfl rfl (Nat.le_of_ble_eq_true rfl) ?_ ?_
  rotate_left
  · rintro E9 w9 h9; exact h9.elim
  rintro v6 w6 ⟨rfl, z6, rfl, g6, k6⟩
  exact ne_iret X hr (by first | rfl | decide | (rcases (show z6 = 0 ∨ z6 = 1 by omega) with rfl | rfl <;> rfl)) dX3_isSound_9 ⟨rfl, _, rfl, by omega, by omega⟩
set_option maxRecDepth 100000 in
set_option maxHeartbeats 4000000 in
theorem me_X3_digest (l : Launch) (hl : l.stackTraces = false) (c q t b k h : Nat → Int) (vt T : Int) (hI : mI c q t b k h vt T) (hT : 0 ≤ T ∧ T ≤ 1000000)  : ne_M l nw_cl (.code yX3_digest cX3_digest 5 (some .long)) nw_T yX3_digest 5 240 27 2628 [.ref 0] (mW c q t b k h vt) (fun v w => w = mW c q t b k h 0 ∧ ∃ z : Int, v = some (nl z)) (fun _ _ => False) := by
  refine ne_meet (own := RX3) hl rfl (by decide +kernel) (Nat.le_of_ble_eq_true rfl) ?_
  intro D ct A P9 V9 R9 S9 M9 as9 bl9 mt9 C9 ad0 X hr hin ht
  obtain ⟨Ic, Iq, It, Ib, Itb, Igb, Ik, Ih, Iv⟩ := hI
  have Iv : (0 : Int) ≤ 0 ∧ (0 : Int) ≤ 2 := by omega
  have lp270 : ∀ (n9 : Nat) (d j : Int), (4 - j).toNat < n9 → (0 ≤ j) → (j ≤ 4) → ne_G nw_cl D ct A 7 ad0 P9 l V9 R9 S9 M9 as9 bl9 mt9 C9 (ne_O nw_cl D ct ad0 7 A bl9 as9 S9 27 2628 (fun v w => w = mW c q t b k h 0 ∧ ∃ z : Int, v = some (nl z)) (fun _ _ => False)) 5 27 2628 9 876 270 [some (.ref 0), some (nl d), none, some (ni j), none] [] (mW c q t b k h 0) := by
    intro n9
    induction n9 with
    | zero => intro d j hm9 q1 q2; exfalso; omega
    | succ n9 ih =>
      intro d j hm9 q1 q2
      refine ne_iload_n X dX3_digest_270 rfl ?_
      refine ne_iconst X dX3_digest_271 ?_
      refine ne_icmp_ge (tgt := 293) X dX3_digest_272 rfl (by omega) (by omega) (fun b272 => ?_) (fun b272 => ?_)
      · refine ne_lload_n X dX3_digest_293 rfl ?_
        refine ne_aload_n X dX3_digest_294 rfl ?_
        refine ne_callV X nw_Tg (me_X3_isWhole l hl c q t b k h 0 T (by exact ⟨Ic, Iq, It, Ib, Itb, Igb, Ik, Ih, Iv⟩) (by omega) ) nw_yX3_isWhole nw_mX3_200 nw_iX3_isWhole nw_eX3_isWhole (ci := 5) rfl rfl rfl dX3_digest_295 rfl rfl (by decide) (by decide) (by first | decide | omega) (by first | decide | omega) (Nat.le_of_ble_eq_true rfl) rfl rfl (Nat.le_of_ble_eq_true rfl) ?_ ?_
        rotate_left
        · rintro E9 w9 h9; exact h9.elim
        rintro v295 w295 ⟨rfl, z295, rfl, g295, k295⟩
        refine ne_if_eq (tgt := 305) X dX3_digest_298 rfl (by omega) (fun b298 => ?_) (fun b298 => ?_)
        · refine ne_lconst (z := 0) (by decide) X dX3_digest_305 ?_
          refine ne_callS X nw_Tg (me_X3_add_ l hl _ _ _) nw_yX3_add_ nw_mX3_208 nw_sX3_add_ dX3_digest_306 rfl rfl (by decide) (by decide) (by first | decide | omega) (by first | decide | omega) (Nat.le_of_ble_eq_true rfl) rfl rfl (Nat.le_of_ble_eq_true rfl) ?_ ?_
          rotate_left
          · rintro E9 w9 h9; exact h9.elim
          rintro v306 w306 ⟨rfl, z306, rfl, g306⟩
          exact ne_lret X hr dX3_digest_309 ⟨rfl, _, rfl⟩
        · refine ne_lconst (z := 1) (by decide) X dX3_digest_301 ?_
          refine ne_goto (tgt := 306) X dX3_digest_302 rfl ?_
          refine ne_callS X nw_Tg (me_X3_add_ l hl _ _ _) nw_yX3_add_ nw_mX3_208 nw_sX3_add_ dX3_digest_306 rfl rfl (by decide) (by decide) (by first | decide | omega) (by first | decide | omega) (Nat.le_of_ble_eq_true rfl) rfl rfl (Nat.le_of_ble_eq_true rfl) ?_ ?_
          rotate_left
          · rintro E9 w9 h9; exact h9.elim
          rintro v306 w306 ⟨rfl, z306, rfl, g306⟩
          exact ne_lret X hr dX3_digest_309 ⟨rfl, _, rfl⟩
      · refine ne_lload_n X dX3_digest_275 rfl ?_
        refine ne_aload_n X dX3_digest_276 rfl ?_
        refine ne_getf X dX3_digest_277 nw_fX3_27 rfl rfl ?_
        refine ne_iload_n X dX3_digest_280 rfl ?_
        refine ne_ialdR X dX3_digest_281 rfl (by omega) Ih (fun v281 e281 f281 u281 => ?_)
        refine ne_i2l (by omega) X dX3_digest_282 ?_
        refine ne_callS X nw_Tg (me_X3_add_ l hl _ _ _) nw_yX3_add_ nw_mX3_208 nw_sX3_add_ dX3_digest_283 rfl rfl (by decide) (by decide) (by first | decide | omega) (by first | decide | omega) (Nat.le_of_ble_eq_true rfl) rfl rfl (Nat.le_of_ble_eq_true rfl) ?_ ?_
        rotate_left
        · rintro E9 w9 h9; exact h9.elim
        rintro v283 w283 ⟨rfl, z283, rfl, g283⟩
        refine ne_lstore_n X dX3_digest_286 rfl (by decide) ?_
        refine ne_iinc X dX3_digest_287 rfl (by decide) ?_
        refine ne_ll (L' := [some (.ref 0), some (nl _), none, some (ni _), none]) rfl ?_
        refine ne_goto (tgt := 270) X dX3_digest_290 rfl ?_
        refine ne_lnone 4 ?_
        exact ih _ (j + 1) (by omega) (by omega) (by omega)
  have lp227 : ∀ (n9 : Nat) (d j : Int), (3 - j).toNat < n9 → (0 ≤ j) → (j ≤ 3) → ne_G nw_cl D ct A 7 ad0 P9 l V9 R9 S9 M9 as9 bl9 mt9 C9 (ne_O nw_cl D ct ad0 7 A bl9 as9 S9 27 2628 (fun v w => w = mW c q t b k h 0 ∧ ∃ z : Int, v = some (nl z)) (fun _ _ => False)) 5 27 2628 9 876 227 [some (.ref 0), some (nl d), none, some (ni j), none] [] (mW c q t b k h 0) := by
    intro n9
    induction n9 with
    | zero => intro d j hm9 q1 q2; exfalso; omega
    | succ n9 ih =>
      intro d j hm9 q1 q2
      have ih227 := ih
      have lp237 : ∀ (n9 : Nat) (d a : Int), (3 - a).toNat < n9 → (0 ≤ a) → (a ≤ 3) → (j < 3) → ne_G nw_cl D ct A 7 ad0 P9 l V9 R9 S9 M9 as9 bl9 mt9 C9 (ne_O nw_cl D ct ad0 7 A bl9 as9 S9 27 2628 (fun v w => w = mW c q t b k h 0 ∧ ∃ z : Int, v = some (nl z)) (fun _ _ => False)) 5 27 2628 9 876 237 [some (.ref 0), some (nl d), none, some (ni j), some (ni a)] [] (mW c q t b k h 0) := by
        intro n9
        induction n9 with
        | zero => intro d a hm9 u1 u2 u3; exfalso; omega
        | succ n9 ih =>
          intro d a hm9 u1 u2 u3
          refine ne_iload X dX3_digest_237 rfl ?_
          refine ne_iconst X dX3_digest_239 ?_
          refine ne_icmp_ge (tgt := 262) X dX3_digest_240 rfl (by omega) (by omega) (fun b240 => ?_) (fun b240 => ?_)
          · refine ne_iinc X dX3_digest_262 rfl (by decide) ?_
            refine ne_goto (tgt := 227) X dX3_digest_265 rfl ?_
            refine ne_lnone 4 ?_
            exact ih227 _ (j + 1) (by omega) (by omega) (by omega)
          · refine ne_lload_n X dX3_digest_243 rfl ?_
            refine ne_aload_n X dX3_digest_244 rfl ?_
            refine ne_iload_n X dX3_digest_245 rfl ?_
            refine ne_iload X dX3_digest_246 rfl ?_
            refine ne_callV X nw_Tg (me_X3_wheelsOrdered l hl c q t b k h 0 T (by exact ⟨Ic, Iq, It, Ib, Itb, Igb, Ik, Ih, Iv⟩) (by omega) _ _ (by omega) (by omega)) nw_yX3_wheelsOrdered nw_mX3_185 nw_iX3_wheelsOrdered nw_eX3_wheelsOrdered (ci := 5) rfl rfl rfl dX3_digest_248 rfl rfl (by decide) (by decide) (by first | decide | omega) (by first | decide | omega) (Nat.le_of_ble_eq_true rfl) rfl rfl (Nat.le_of_ble_eq_true rfl) ?_ ?_
            rotate_left
            · rintro E9 w9 h9; exact h9.elim
            rintro v248 w248 ⟨rfl, z248, rfl, g248, k248⟩
            refine ne_i2l (by omega) X dX3_digest_251 ?_
            refine ne_callS X nw_Tg (me_X3_add_ l hl _ _ _) nw_yX3_add_ nw_mX3_208 nw_sX3_add_ dX3_digest_252 rfl rfl (by decide) (by decide) (by first | decide | omega) (by first | decide | omega) (Nat.le_of_ble_eq_true rfl) rfl rfl (Nat.le_of_ble_eq_true rfl) ?_ ?_
            rotate_left
            · rintro E9 w9 h9; exact h9.elim
            rintro v252 w252 ⟨rfl, z252, rfl, g252⟩
            refine ne_lstore_n X dX3_digest_255 rfl (by decide) ?_
            refine ne_iinc X dX3_digest_256 rfl (by decide) ?_
            refine ne_ll (L' := [some (.ref 0), some (nl _), none, some (ni _), some (ni _)]) rfl ?_
            refine ne_goto (tgt := 237) X dX3_digest_259 rfl ?_
            exact ih _ (a + 1) (by omega) (by omega) (by omega) (by omega)
      refine ne_iload_n X dX3_digest_227 rfl ?_
      refine ne_iconst X dX3_digest_228 ?_
      refine ne_icmp_ge (tgt := 268) X dX3_digest_229 rfl (by omega) (by omega) (fun b229 => ?_) (fun b229 => ?_)
      · refine ne_iconst X dX3_digest_268 ?_
        refine ne_istore_n X dX3_digest_269 rfl (by decide) ?_
        refine ne_lnone 4 ?_
        exact lp270 _ _ 0 (Nat.lt_succ_self _) (by omega) (by omega)
      · refine ne_iload_n X dX3_digest_232 rfl ?_
        refine ne_iconst X dX3_digest_233 ?_
        refine ne_iadd X dX3_digest_234 ?_
        refine ne_istore X dX3_digest_235 (by decide) ?_
        exact lp237 _ _ _ (Nat.lt_succ_self _) (by omega) (by omega) (by omega)
  have lp136 : ∀ (n9 : Nat) (d j : Int), (3 - j).toNat < n9 → (0 ≤ j) → (j ≤ 3) → ne_G nw_cl D ct A 7 ad0 P9 l V9 R9 S9 M9 as9 bl9 mt9 C9 (ne_O nw_cl D ct ad0 7 A bl9 as9 S9 27 2628 (fun v w => w = mW c q t b k h 0 ∧ ∃ z : Int, v = some (nl z)) (fun _ _ => False)) 5 27 2628 (9 + 6 * (3 - j)).toNat (876 + 584 * (3 - j)).toNat 136 [some (.ref 0), some (nl d), none, some (ni j), none] [] (mW c q t b k h 0) := by
    intro n9
    induction n9 with
    | zero => intro d j hm9 q1 q2; exfalso; omega
    | succ n9 ih =>
      intro d j hm9 q1 q2
      have ih136 := ih
      have lp194 : ∀ (n9 : Nat) (d a : Int), (4 - a).toNat < n9 → (0 ≤ a) → (a ≤ 4) → (j < 3) → ne_G nw_cl D ct A 7 ad0 P9 l V9 R9 S9 M9 as9 bl9 mt9 C9 (ne_O nw_cl D ct ad0 7 A bl9 as9 S9 27 2628 (fun v w => w = mW c q t b k h 0 ∧ ∃ z : Int, v = some (nl z)) (fun _ _ => False)) 5 27 2628 (3 + 6 * (3 - j)).toNat (292 + 584 * (3 - j)).toNat 194 [some (.ref 0), some (nl d), none, some (ni j), some (ni a)] [] (mW c q t b k h 0) := by
        intro n9
        induction n9 with
        | zero => intro d a hm9 u1 u2 u3; exfalso; omega
        | succ n9 ih =>
          intro d a hm9 u1 u2 u3
          refine ne_iload X dX3_digest_194 rfl ?_
          refine ne_iconst X dX3_digest_196 ?_
          refine ne_icmp_ge (tgt := 219) X dX3_digest_197 rfl (by omega) (by omega) (fun b197 => ?_) (fun b197 => ?_)
          · refine ne_iinc X dX3_digest_219 rfl (by decide) ?_
            refine ne_goto (tgt := 136) X dX3_digest_222 rfl ?_
            refine ne_lnone 4 ?_
            refine ne_less (C' := (9 + 6 * (3 - (j + 1))).toNat) (S' := (876 + 584 * (3 - (j + 1))).toNat) (by omega) (by omega) ?_
            exact ih136 _ (j + 1) (by omega) (by omega) (by omega)
          · refine ne_lload_n X dX3_digest_200 rfl ?_
            refine ne_aload_n X dX3_digest_201 rfl ?_
            refine ne_iload_n X dX3_digest_202 rfl ?_
            refine ne_iload X dX3_digest_203 rfl ?_
            refine ne_callV X nw_Tg (me_X3_heldAgainst l hl c q t b k h 0 T (by exact ⟨Ic, Iq, It, Ib, Itb, Igb, Ik, Ih, Iv⟩) (by omega) _ _ (by omega) (by omega)) nw_yX3_heldAgainst nw_mX3_188 nw_iX3_heldAgainst nw_eX3_heldAgainst (ci := 5) rfl rfl rfl dX3_digest_205 rfl rfl (by decide) (by decide) (by first | decide | omega) (by first | decide | omega) (Nat.le_of_ble_eq_true rfl) rfl rfl (Nat.le_of_ble_eq_true rfl) ?_ ?_
            rotate_left
            · rintro E9 w9 h9; exact h9.elim
            rintro v205 w205 ⟨rfl, z205, rfl, g205, k205⟩
            refine ne_i2l (by omega) X dX3_digest_208 ?_
            refine ne_callS X nw_Tg (me_X3_add_ l hl _ _ _) nw_yX3_add_ nw_mX3_208 nw_sX3_add_ dX3_digest_209 rfl rfl (by decide) (by decide) (by first | decide | omega) (by first | decide | omega) (Nat.le_of_ble_eq_true rfl) rfl rfl (Nat.le_of_ble_eq_true rfl) ?_ ?_
            rotate_left
            · rintro E9 w9 h9; exact h9.elim
            rintro v209 w209 ⟨rfl, z209, rfl, g209⟩
            refine ne_lstore_n X dX3_digest_212 rfl (by decide) ?_
            refine ne_iinc X dX3_digest_213 rfl (by decide) ?_
            refine ne_ll (L' := [some (.ref 0), some (nl _), none, some (ni _), some (ni _)]) rfl ?_
            refine ne_goto (tgt := 194) X dX3_digest_216 rfl ?_
            exact ih _ (a + 1) (by omega) (by omega) (by omega) (by omega)
      have lp144 : ∀ (n9 : Nat) (d a : Int), (5 - a).toNat < n9 → (0 ≤ a) → (a ≤ 5) → (j < 3) → ne_G nw_cl D ct A 7 ad0 P9 l V9 R9 S9 M9 as9 bl9 mt9 C9 (ne_O nw_cl D ct ad0 7 A bl9 as9 S9 27 2628 (fun v w => w = mW c q t b k h 0 ∧ ∃ z : Int, v = some (nl z)) (fun _ _ => False)) 5 27 2628 (9 + 6 * (3 - j)).toNat (876 + 584 * (3 - j)).toNat 144 [some (.ref 0), some (nl d), none, some (ni j), some (ni a)] [] (mW c q t b k h 0) := by
        intro n9
        induction n9 with
        | zero => intro d a hm9 u1 u2 u3; exfalso; omega
        | succ n9 ih =>
          intro d a hm9 u1 u2 u3
          refine ne_iload X dX3_digest_144 rfl ?_
          refine ne_iconst X dX3_digest_146 ?_
          refine ne_icmp_ge (tgt := 169) X dX3_digest_147 rfl (by omega) (by omega) (fun b147 => ?_) (fun b147 => ?_)
          · refine ne_lload_n X dX3_digest_169 rfl ?_
            refine ne_aload_n X dX3_digest_170 rfl ?_
            refine ne_iload_n X dX3_digest_171 rfl ?_
            refine ne_iconst X dX3_digest_172 ?_
            refine ne_callV X nw_Tg (me_X3_ninesOf l hl c q t b k h 0 T (by exact ⟨Ic, Iq, It, Ib, Itb, Igb, Ik, Ih, Iv⟩) (by omega) _ _ (by omega) (by omega)) nw_yX3_ninesOf nw_mX3_182 nw_iX3_ninesOf nw_eX3_ninesOf (ci := 5) rfl rfl rfl dX3_digest_173 rfl rfl (by decide) (by decide) (by first | decide | omega) (by first | decide | omega) (Nat.le_of_ble_eq_true rfl) rfl rfl (Nat.le_of_ble_eq_true rfl) ?_ ?_
            rotate_left
            · rintro E9 w9 h9; exact h9.elim
            rintro v173 w173 ⟨rfl, z173, rfl, g173, k173⟩
            refine ne_i2l (by omega) X dX3_digest_176 ?_
            refine ne_callS X nw_Tg (me_X3_add_ l hl _ _ _) nw_yX3_add_ nw_mX3_208 nw_sX3_add_ dX3_digest_177 rfl rfl (by decide) (by decide) (by first | decide | omega) (by first | decide | omega) (Nat.le_of_ble_eq_true rfl) rfl rfl (Nat.le_of_ble_eq_true rfl) ?_ ?_
            rotate_left
            · rintro E9 w9 h9; exact h9.elim
            rintro v177 w177 ⟨rfl, z177, rfl, g177⟩
            refine ne_aload_n X dX3_digest_180 rfl ?_
            refine ne_iload_n X dX3_digest_181 rfl ?_
            refine ne_iconst X dX3_digest_182 ?_
            refine ne_callV X nw_Tg (me_X3_ninesOf l hl c q t b k h 0 T (by exact ⟨Ic, Iq, It, Ib, Itb, Igb, Ik, Ih, Iv⟩) (by omega) _ _ (by omega) (by omega)) nw_yX3_ninesOf nw_mX3_182 nw_iX3_ninesOf nw_eX3_ninesOf (ci := 5) rfl rfl rfl dX3_digest_183 rfl rfl (by decide) (by decide) (by first | decide | omega) (by first | decide | omega) (Nat.le_of_ble_eq_true rfl) rfl rfl (Nat.le_of_ble_eq_true rfl) ?_ ?_
            rotate_left
            · rintro E9 w9 h9; exact h9.elim
            rintro v183 w183 ⟨rfl, z183, rfl, g183, k183⟩
            refine ne_i2l (by omega) X dX3_digest_186 ?_
            refine ne_callS X nw_Tg (me_X3_add_ l hl _ _ _) nw_yX3_add_ nw_mX3_208 nw_sX3_add_ dX3_digest_187 rfl rfl (by decide) (by decide) (by first | decide | omega) (by first | decide | omega) (Nat.le_of_ble_eq_true rfl) rfl rfl (Nat.le_of_ble_eq_true rfl) ?_ ?_
            rotate_left
            · rintro E9 w9 h9; exact h9.elim
            rintro v187 w187 ⟨rfl, z187, rfl, g187⟩
            refine ne_lstore_n X dX3_digest_190 rfl (by decide) ?_
            refine ne_iconst X dX3_digest_191 ?_
            refine ne_istore X dX3_digest_192 (by decide) ?_
            refine ne_ll (L' := [some (.ref 0), some (nl _), none, some (ni _), some (ni _)]) rfl ?_
            refine ne_less (C' := (3 + 6 * (3 - j)).toNat) (S' := (292 + 584 * (3 - j)).toNat) (by omega) (by omega) ?_
            exact lp194 _ _ _ (Nat.lt_succ_self _) (by omega) (by omega) (by omega)
          · refine ne_lload_n X dX3_digest_150 rfl ?_
            refine ne_aload_n X dX3_digest_151 rfl ?_
            refine ne_iload_n X dX3_digest_152 rfl ?_
            refine ne_iload X dX3_digest_153 rfl ?_
            refine ne_callV X nw_Tg (me_X3_spokeOf l hl c q t b k h 0 T (by exact ⟨Ic, Iq, It, Ib, Itb, Igb, Ik, Ih, Iv⟩) (by omega) _ _ (by omega) (by omega)) nw_yX3_spokeOf nw_mX3_153 nw_iX3_spokeOf nw_eX3_spokeOf (ci := 5) rfl rfl rfl dX3_digest_155 rfl rfl (by decide) (by decide) (by first | decide | omega) (by first | decide | omega) (Nat.le_of_ble_eq_true rfl) rfl rfl (Nat.le_of_ble_eq_true rfl) ?_ ?_
            rotate_left
            · rintro E9 w9 h9; exact h9.elim
            rintro v155 w155 ⟨rfl, z155, rfl, g155, k155⟩
            refine ne_i2l (by omega) X dX3_digest_158 ?_
            refine ne_callS X nw_Tg (me_X3_add_ l hl _ _ _) nw_yX3_add_ nw_mX3_208 nw_sX3_add_ dX3_digest_159 rfl rfl (by decide) (by decide) (by first | decide | omega) (by first | decide | omega) (Nat.le_of_ble_eq_true rfl) rfl rfl (Nat.le_of_ble_eq_true rfl) ?_ ?_
            rotate_left
            · rintro E9 w9 h9; exact h9.elim
            rintro v159 w159 ⟨rfl, z159, rfl, g159⟩
            refine ne_lstore_n X dX3_digest_162 rfl (by decide) ?_
            refine ne_iinc X dX3_digest_163 rfl (by decide) ?_
            refine ne_ll (L' := [some (.ref 0), some (nl _), none, some (ni _), some (ni _)]) rfl ?_
            refine ne_goto (tgt := 144) X dX3_digest_166 rfl ?_
            exact ih _ (a + 1) (by omega) (by omega) (by omega) (by omega)
      refine ne_iload_n X dX3_digest_136 rfl ?_
      refine ne_iconst X dX3_digest_137 ?_
      refine ne_icmp_ge (tgt := 225) X dX3_digest_138 rfl (by omega) (by omega) (fun b138 => ?_) (fun b138 => ?_)
      · refine ne_iconst X dX3_digest_225 ?_
        refine ne_istore_n X dX3_digest_226 rfl (by decide) ?_
        refine ne_lnone 4 ?_
        refine ne_less (C' := 9) (S' := 876) (by omega) (by omega) ?_
        exact lp227 _ _ 0 (Nat.lt_succ_self _) (by omega) (by omega)
      · refine ne_iconst X dX3_digest_141 ?_
        refine ne_istore X dX3_digest_142 (by decide) ?_
        exact lp144 _ _ _ (Nat.lt_succ_self _) (by omega) (by omega) (by omega)
  have lp75 : ∀ (n9 : Nat) (d j : Int), (4 - j).toNat < n9 → (0 ≤ j) → (j ≤ 4) → ne_G nw_cl D ct A 7 ad0 P9 l V9 R9 S9 M9 as9 bl9 mt9 C9 (ne_O nw_cl D ct ad0 7 A bl9 as9 S9 27 2628 (fun v w => w = mW c q t b k h 0 ∧ ∃ z : Int, v = some (nl z)) (fun _ _ => False)) 5 27 2628 27 2628 75 [some (.ref 0), some (nl d), none, some (ni j), none] [] (mW c q t b k h 0) := by
    intro n9
    induction n9 with
    | zero => intro d j hm9 q1 q2; exfalso; omega
    | succ n9 ih =>
      intro d j hm9 q1 q2
      have ih75 := ih
      have lp85 : ∀ (n9 : Nat) (d a : Int), (4 - a).toNat < n9 → (0 ≤ a) → (a ≤ 4) → (j < 4) → ne_G nw_cl D ct A 7 ad0 P9 l V9 R9 S9 M9 as9 bl9 mt9 C9 (ne_O nw_cl D ct ad0 7 A bl9 as9 S9 27 2628 (fun v w => w = mW c q t b k h 0 ∧ ∃ z : Int, v = some (nl z)) (fun _ _ => False)) 5 27 2628 27 2628 85 [some (.ref 0), some (nl d), none, some (ni j), some (ni a)] [] (mW c q t b k h 0) := by
        intro n9
        induction n9 with
        | zero => intro d a hm9 u1 u2 u3; exfalso; omega
        | succ n9 ih =>
          intro d a hm9 u1 u2 u3
          refine ne_iload X dX3_digest_85 rfl ?_
          refine ne_iconst X dX3_digest_87 ?_
          refine ne_icmp_ge (tgt := 128) X dX3_digest_88 rfl (by omega) (by omega) (fun b88 => ?_) (fun b88 => ?_)
          · refine ne_iinc X dX3_digest_128 rfl (by decide) ?_
            refine ne_goto (tgt := 75) X dX3_digest_131 rfl ?_
            refine ne_lnone 4 ?_
            exact ih75 _ (j + 1) (by omega) (by omega) (by omega)
          · refine ne_lload_n X dX3_digest_91 rfl ?_
            refine ne_aload_n X dX3_digest_92 rfl ?_
            refine ne_iload_n X dX3_digest_93 rfl ?_
            refine ne_iload X dX3_digest_94 rfl ?_
            refine ne_callV X nw_Tg (me_X3_ordered l hl c q t b k h 0 T (by exact ⟨Ic, Iq, It, Ib, Itb, Igb, Ik, Ih, Iv⟩) (by omega) _ _ (by omega) (by omega)) nw_yX3_ordered nw_mX3_101 nw_iX3_ordered nw_eX3_ordered (ci := 5) rfl rfl rfl dX3_digest_96 rfl rfl (by decide) (by decide) (by first | decide | omega) (by first | decide | omega) (Nat.le_of_ble_eq_true rfl) rfl rfl (Nat.le_of_ble_eq_true rfl) ?_ ?_
            rotate_left
            · rintro E9 w9 h9; exact h9.elim
            rintro v96 w96 ⟨rfl, z96, rfl, g96, k96⟩
            refine ne_i2l (by omega) X dX3_digest_99 ?_
            refine ne_callS X nw_Tg (me_X3_add_ l hl _ _ _) nw_yX3_add_ nw_mX3_208 nw_sX3_add_ dX3_digest_100 rfl rfl (by decide) (by decide) (by first | decide | omega) (by first | decide | omega) (Nat.le_of_ble_eq_true rfl) rfl rfl (Nat.le_of_ble_eq_true rfl) ?_ ?_
            rotate_left
            · rintro E9 w9 h9; exact h9.elim
            rintro v100 w100 ⟨rfl, z100, rfl, g100⟩
            refine ne_aload_n X dX3_digest_103 rfl ?_
            refine ne_iload_n X dX3_digest_104 rfl ?_
            refine ne_iload X dX3_digest_105 rfl ?_
            refine ne_callV X nw_Tg (me_X3_areSame l hl c q t b k h 0 T (by exact ⟨Ic, Iq, It, Ib, Itb, Igb, Ik, Ih, Iv⟩) (by omega) _ _ (by omega) (by omega)) nw_yX3_areSame nw_mX3_132 nw_iX3_areSame nw_eX3_areSame (ci := 5) rfl rfl rfl dX3_digest_107 rfl rfl (by decide) (by decide) (by first | decide | omega) (by first | decide | omega) (Nat.le_of_ble_eq_true rfl) rfl rfl (Nat.le_of_ble_eq_true rfl) ?_ ?_
            rotate_left
            · rintro E9 w9 h9; exact h9.elim
            rintro v107 w107 ⟨rfl, z107, rfl, g107, k107⟩
            refine ne_if_eq (tgt := 117) X dX3_digest_110 rfl (by omega) (fun b110 => ?_) (fun b110 => ?_)
            · refine ne_lconst (z := 0) (by decide) X dX3_digest_117 ?_
              refine ne_callS X nw_Tg (me_X3_add_ l hl _ _ _) nw_yX3_add_ nw_mX3_208 nw_sX3_add_ dX3_digest_118 rfl rfl (by decide) (by decide) (by first | decide | omega) (by first | decide | omega) (Nat.le_of_ble_eq_true rfl) rfl rfl (Nat.le_of_ble_eq_true rfl) ?_ ?_
              rotate_left
              · rintro E9 w9 h9; exact h9.elim
              rintro v118 w118 ⟨rfl, z118, rfl, g118⟩
              refine ne_lstore_n X dX3_digest_121 rfl (by decide) ?_
              refine ne_iinc X dX3_digest_122 rfl (by decide) ?_
              refine ne_ll (L' := [some (.ref 0), some (nl _), none, some (ni _), some (ni _)]) rfl ?_
              refine ne_goto (tgt := 85) X dX3_digest_125 rfl ?_
              exact ih _ (a + 1) (by omega) (by omega) (by omega) (by omega)
            · refine ne_lconst (z := 1) (by decide) X dX3_digest_113 ?_
              refine ne_goto (tgt := 118) X dX3_digest_114 rfl ?_
              refine ne_callS X nw_Tg (me_X3_add_ l hl _ _ _) nw_yX3_add_ nw_mX3_208 nw_sX3_add_ dX3_digest_118 rfl rfl (by decide) (by decide) (by first | decide | omega) (by first | decide | omega) (Nat.le_of_ble_eq_true rfl) rfl rfl (Nat.le_of_ble_eq_true rfl) ?_ ?_
              rotate_left
              · rintro E9 w9 h9; exact h9.elim
              rintro v118 w118 ⟨rfl, z118, rfl, g118⟩
              refine ne_lstore_n X dX3_digest_121 rfl (by decide) ?_
              refine ne_iinc X dX3_digest_122 rfl (by decide) ?_
              refine ne_ll (L' := [some (.ref 0), some (nl _), none, some (ni _), some (ni _)]) rfl ?_
              refine ne_goto (tgt := 85) X dX3_digest_125 rfl ?_
              exact ih _ (a + 1) (by omega) (by omega) (by omega) (by omega)
      refine ne_iload_n X dX3_digest_75 rfl ?_
      refine ne_iconst X dX3_digest_76 ?_
      refine ne_icmp_ge (tgt := 134) X dX3_digest_77 rfl (by omega) (by omega) (fun b77 => ?_) (fun b77 => ?_)
      · refine ne_iconst X dX3_digest_134 ?_
        refine ne_istore_n X dX3_digest_135 rfl (by decide) ?_
        refine ne_lnone 4 ?_
        refine ne_less (C' := (9 + 6 * (3 - (0 : Int))).toNat) (S' := (876 + 584 * (3 - (0 : Int))).toNat) (by omega) (by omega) ?_
        exact lp136 _ _ 0 (Nat.lt_succ_self _) (by omega) (by omega)
      · refine ne_iload_n X dX3_digest_80 rfl ?_
        refine ne_iconst X dX3_digest_81 ?_
        refine ne_iadd X dX3_digest_82 ?_
        refine ne_istore X dX3_digest_83 (by decide) ?_
        exact lp85 _ _ _ (Nat.lt_succ_self _) (by omega) (by omega) (by omega)
  have lp11 : ∀ (n9 : Nat) (d j : Int), (4 - j).toNat < n9 → (0 ≤ j) → (j ≤ 4) → ne_G nw_cl D ct A 7 ad0 P9 l V9 R9 S9 M9 as9 bl9 mt9 C9 (ne_O nw_cl D ct ad0 7 A bl9 as9 S9 27 2628 (fun v w => w = mW c q t b k h 0 ∧ ∃ z : Int, v = some (nl z)) (fun _ _ => False)) 5 27 2628 27 2628 11 [some (.ref 0), some (nl d), none, some (ni j), none] [] (mW c q t b k h 0) := by
    intro n9
    induction n9 with
    | zero => intro d j hm9 q1 q2; exfalso; omega
    | succ n9 ih =>
      intro d j hm9 q1 q2
      refine ne_iload_n X dX3_digest_11 rfl ?_
      refine ne_iconst X dX3_digest_12 ?_
      refine ne_icmp_ge (tgt := 73) X dX3_digest_13 rfl (by omega) (by omega) (fun b13 => ?_) (fun b13 => ?_)
      · refine ne_iconst X dX3_digest_73 ?_
        refine ne_istore_n X dX3_digest_74 rfl (by decide) ?_
        refine ne_lnone 4 ?_
        exact lp75 _ _ 0 (Nat.lt_succ_self _) (by omega) (by omega)
      · refine ne_lload_n X dX3_digest_16 rfl ?_
        refine ne_aload_n X dX3_digest_17 rfl ?_
        refine ne_getf X dX3_digest_18 nw_fX3_9 rfl rfl ?_
        refine ne_iload_n X dX3_digest_21 rfl ?_
        refine ne_ialdR X dX3_digest_22 rfl (by omega) Ic (fun v22 e22 f22 u22 => ?_)
        refine ne_i2l (by omega) X dX3_digest_23 ?_
        refine ne_callS X nw_Tg (me_X3_add_ l hl _ _ _) nw_yX3_add_ nw_mX3_208 nw_sX3_add_ dX3_digest_24 rfl rfl (by decide) (by decide) (by first | decide | omega) (by first | decide | omega) (Nat.le_of_ble_eq_true rfl) rfl rfl (Nat.le_of_ble_eq_true rfl) ?_ ?_
        rotate_left
        · rintro E9 w9 h9; exact h9.elim
        rintro v24 w24 ⟨rfl, z24, rfl, g24⟩
        refine ne_aload_n X dX3_digest_27 rfl ?_
        refine ne_getf X dX3_digest_28 nw_fX3_15 rfl rfl ?_
        refine ne_iload_n X dX3_digest_31 rfl ?_
        refine ne_ialdR X dX3_digest_32 rfl (by omega) Iq (fun v32 e32 f32 u32 => ?_)
        refine ne_i2l (by omega) X dX3_digest_33 ?_
        refine ne_callS X nw_Tg (me_X3_add_ l hl _ _ _) nw_yX3_add_ nw_mX3_208 nw_sX3_add_ dX3_digest_34 rfl rfl (by decide) (by decide) (by first | decide | omega) (by first | decide | omega) (Nat.le_of_ble_eq_true rfl) rfl rfl (Nat.le_of_ble_eq_true rfl) ?_ ?_
        rotate_left
        · rintro E9 w9 h9; exact h9.elim
        rintro v34 w34 ⟨rfl, z34, rfl, g34⟩
        refine ne_aload_n X dX3_digest_37 rfl ?_
        refine ne_getf X dX3_digest_38 nw_fX3_9 rfl rfl ?_
        refine ne_iload_n X dX3_digest_41 rfl ?_
        refine ne_ialdR X dX3_digest_42 rfl (by omega) Ic (fun v42 e42 f42 u42 => ?_)
        refine ne_i2l (by omega) X dX3_digest_43 ?_
        refine ne_callS X nw_Tg (me_X3_digitsOf l hl _ _ (by omega)) nw_yX3_digitsOf nw_mX3_97 nw_sX3_digitsOf dX3_digest_44 rfl rfl (by decide) (by decide) (by first | decide | omega) (by first | decide | omega) (Nat.le_of_ble_eq_true rfl) rfl rfl (Nat.le_of_ble_eq_true rfl) ?_ ?_
        rotate_left
        · rintro E9 w9 h9; exact h9.elim
        rintro v44 w44 ⟨rfl, z44, rfl, g44, k44⟩
        refine ne_i2l (by omega) X dX3_digest_47 ?_
        refine ne_callS X nw_Tg (me_X3_add_ l hl _ _ _) nw_yX3_add_ nw_mX3_208 nw_sX3_add_ dX3_digest_48 rfl rfl (by decide) (by decide) (by first | decide | omega) (by first | decide | omega) (Nat.le_of_ble_eq_true rfl) rfl rfl (Nat.le_of_ble_eq_true rfl) ?_ ?_
        rotate_left
        · rintro E9 w9 h9; exact h9.elim
        rintro v48 w48 ⟨rfl, z48, rfl, g48⟩
        refine ne_aload_n X dX3_digest_51 rfl ?_
        refine ne_getf X dX3_digest_52 nw_fX3_9 rfl rfl ?_
        refine ne_iload_n X dX3_digest_55 rfl ?_
        refine ne_ialdR X dX3_digest_56 rfl (by omega) Ic (fun v56 e56 f56 u56 => ?_)
        refine ne_i2l (by omega) X dX3_digest_57 ?_
        refine ne_lconst (z := 0) (by decide) X dX3_digest_58 ?_
        refine ne_callS X nw_Tg (me_X3_side l hl _ _ _ (by omega) (by omega)) nw_yX3_side nw_mX3_48 nw_sX3_side dX3_digest_59 rfl rfl (by decide) (by decide) (by first | decide | omega) (by first | decide | omega) (Nat.le_of_ble_eq_true rfl) rfl rfl (Nat.le_of_ble_eq_true rfl) ?_ ?_
        rotate_left
        · rintro E9 w9 h9; exact h9.elim
        rintro v59 w59 ⟨rfl, z59, rfl, g59, k59, i59, j59⟩
        refine ne_i2l (by omega) X dX3_digest_62 ?_
        refine ne_callS X nw_Tg (me_X3_add_ l hl _ _ _) nw_yX3_add_ nw_mX3_208 nw_sX3_add_ dX3_digest_63 rfl rfl (by decide) (by decide) (by first | decide | omega) (by first | decide | omega) (Nat.le_of_ble_eq_true rfl) rfl rfl (Nat.le_of_ble_eq_true rfl) ?_ ?_
        rotate_left
        · rintro E9 w9 h9; exact h9.elim
        rintro v63 w63 ⟨rfl, z63, rfl, g63⟩
        refine ne_lstore_n X dX3_digest_66 rfl (by decide) ?_
        refine ne_iinc X dX3_digest_67 rfl (by decide) ?_
        refine ne_ll (L' := [some (.ref 0), some (nl _), none, some (ni _), none]) rfl ?_
        refine ne_goto (tgt := 11) X dX3_digest_70 rfl ?_
        refine ne_lnone 4 ?_
        exact ih _ (j + 1) (by omega) (by omega) (by omega)
  refine ne_aload_n X dX3_digest_0 rfl ?_
  refine ne_iconst X dX3_digest_1 ?_
  refine ne_putf X dX3_digest_2 nw_fX3_30 nw_p5_6 rfl (fun _ => rfl) (fun _ => rfl) (by first | decide | exact Nat.le_of_ble_eq_true rfl) ?_
  refine ne_ws (ws' := mW c q t b k h 0) rfl ?_
  have Iv : (0 : Int) ≤ 0 ∧ (0 : Int) ≤ 2 := by omega
  refine ne_ldc2 (z := 7944) (by decide) nw_cX3_206 X dX3_digest_5 ?_
  refine ne_lstore_n X dX3_digest_8 rfl (by decide) ?_
  refine ne_iconst X dX3_digest_9 ?_
  refine ne_istore_n X dX3_digest_10 rfl (by decide) ?_
  refine ne_ll (L' := [some (.ref 0), some (nl _), none, some (ni _), none]) rfl ?_
  refine ne_lnone 4 ?_
  exact lp11 _ _ 0 (Nat.lt_succ_self _) (by omega) (by omega)
set_option maxRecDepth 100000 in
set_option maxHeartbeats 4000000 in
theorem me_X3_knock (l : Launch) (hl : l.stackTraces = false) (c q t b k h : Nat → Int) (vt T : Int) (hI : mI c q t b k h vt T) (hT : 0 ≤ T ∧ T ≤ 1000000)  : ne_M l nw_cl (.code yX3_knock cX3_knock 1 (some .int)) nw_T yX3_knock 0 0 0 0 [.ref 0] (mW c q t b k h vt) (fun v w => ∃ h1, w = mW c q t b k h1 0 ∧ ne_rg h1 0 (T + 1) ∧ ∃ z : Int, v = some (ni z)) (fun _ _ => False) := by
  refine ne_meet (own := RX3) hl rfl (by decide +kernel) (Nat.le_of_ble_eq_true rfl) ?_
  intro D ct A P9 V9 R9 S9 M9 as9 bl9 mt9 C9 ad0 X hr hin ht
  obtain ⟨Ic, Iq, It, Ib, Itb, Igb, Ik, Ih, Iv⟩ := hI
  have Iv : (0 : Int) ≤ 0 ∧ (0 : Int) ≤ 2 := by omega
  refine ne_aload_n X dX3_knock_0 rfl ?_
  refine ne_iconst X dX3_knock_1 ?_
  refine ne_putf X dX3_knock_2 nw_fX3_30 nw_p5_6 rfl (fun _ => rfl) (fun _ => rfl) (by first | decide | exact Nat.le_of_ble_eq_true rfl) ?_
  refine ne_ws (ws' := mW c q t b k h 0) rfl ?_
  have Iv : (0 : Int) ≤ 0 ∧ (0 : Int) ≤ 2 := by omega
  refine ne_aload_n X dX3_knock_5 rfl ?_
  refine ne_getf X dX3_knock_6 nw_fX3_27 rfl rfl ?_
  refine ne_iconst X dX3_knock_9 ?_
  refine ne_dup2ai X dX3_knock_10 ?_
  refine ne_ialdR X dX3_knock_11 rfl (by omega) Ih (fun v11 e11 f11 u11 => ?_)
  refine ne_iconst X dX3_knock_12 ?_
  refine ne_iadd X dX3_knock_13 ?_
  refine ne_iastR X dX3_knock_14 rfl (by omega) (ne_rg_mono Ih (by omega) (by omega)) (a := 0) (b := T + 1) (by omega) (fun h14 hh14 Ih => ?_)
  refine ne_ws (ws' := mW c q t b k h14 0) rfl ?_
  refine ne_aload_n X dX3_knock_15 rfl ?_
  refine ne_getf X dX3_knock_16 nw_fX3_27 rfl rfl ?_
  refine ne_iconst X dX3_knock_19 ?_
  refine ne_ialdR X dX3_knock_20 rfl (by omega) Ih (fun v20 e20 f20 u20 => ?_)
  exact ne_iret X hr (by first | rfl | decide | rfl) dX3_knock_21 ⟨_, rfl, Ih, _, rfl⟩
set_option maxRecDepth 100000 in
set_option maxHeartbeats 4000000 in
theorem me_X3_thrown (l : Launch) (hl : l.stackTraces = false) (c q t b k h : Nat → Int) (vt T : Int) (hI : mI c q t b k h vt T) (hT : 0 ≤ T ∧ T ≤ 1000000)  : ne_M l nw_cl (.code yX3_thrown cX3_thrown 1 (some .int)) nw_T yX3_thrown 0 0 0 0 [.ref 0] (mW c q t b k h vt) (fun v w => w = mW c q t b k h vt ∧ v = some (ni vt)) (fun _ _ => False) := by
  refine ne_meet (own := RX3) hl rfl (by decide +kernel) (Nat.le_of_ble_eq_true rfl) ?_
  intro D ct A P9 V9 R9 S9 M9 as9 bl9 mt9 C9 ad0 X hr hin ht
  obtain ⟨Ic, Iq, It, Ib, Itb, Igb, Ik, Ih, Iv⟩ := hI
  refine ne_aload_n X dX3_thrown_0 rfl ?_
  refine ne_getf X dX3_thrown_1 nw_fX3_30 rfl rfl ?_
  exact ne_iret X hr (by first | rfl | decide | rfl) dX3_thrown_4 ⟨rfl, rfl⟩
