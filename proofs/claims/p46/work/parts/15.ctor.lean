theorem ne_arrX {cI : ClassId} {N : Nat} {f g : Nat → Value} (h : ∀ j, j < N → f j = g j) : arrV cI N f = arrV cI N g := by
  have e : (fun j : Fin N => f j.val) = (fun j : Fin N => g j.val) := funext fun j => h j.val j.isLt
  unfold arrV
  rw [e]
section NEY
variable {cl : List vw_C} {D : va_G} {ct : Nat → ClassId} {A : Nat → Prop} {n0 : Nat} {ad0 : Nat → Nat} {p : Program} {l : Launch} {e : Env} {R : Room} {s : State} {m : MethodId} {args : Array Value} {below : List Frame} {meth : Method} {c : Code} {Q : State → Prop} {own : String} {cc : ByteArray} {nL : Nat} {Ts : List Cond} {fr lo mc ms C S pc : Nat} {L : List (Option Value)} {st : List Value} {ws : ne_W}
theorem ne_setx {q : Nat} {x : ne_E} (hq : q < ws.length) : ∀ {i : Nat} {e9 : ne_E}, (ws.set q (some x))[i]? = some (some e9) → i = q ∨ ws[i]? = some (some e9) := fun {i e9} hi => by
  by_cases h : i = q
  · exact Or.inl h
  · rw [List.getElem?_set_ne (Ne.symm h)] at hi; exact Or.inr hi
/-- what lies behind an array's length is free -/
theorem ne_ext {q n kd : Nat} {f : Nat → Int} (g : Nat → Int) (he : ws[q]? = some (some (.inl (kd, n, f)))) (hfg : ∀ j, j < n → f j = g j) (kk : ne_G cl D ct A n0 ad0 p l e R s m args below meth c Q nL mc ms C S pc L st (ws.set q (some (.inl (kd, n, g))))) : ne_G cl D ct A n0 ad0 p l e R s m args below meth c Q nL mc ms C S pc L st ws := fun H locs cells slots ad ls h1 h2 h3 h4 h5 h6 h7 => by
  have hq : q < ws.length := (List.getElem?_eq_some_iff.mp he).1
  have ex : ∀ {i : Nat} {e9 : ne_E}, (ws.set q (some (.inl (kd, n, g))))[i]? = some (some e9) → ∃ e8, ws[i]? = some (some e8) := fun {i e9} hi => by
    rcases ne_setx hq hi with rfl | h
    · exact ⟨_, he⟩
    · exact ⟨_, h⟩
  refine kk H locs cells slots ad ls h1 h2 h3 (ne_Piff.mpr fun i e9 hi => ?_) (ne_Diff.mpr ⟨fun i j a b hi hj hq9 => ?_, fun i a hi => ?_⟩) h6 h7
  · by_cases h : i = q
    · subst h
      rw [List.getElem?_set_self hq] at hi
      cases hi
      have h9 : H[ad i]? = some (vp_cell (ct kd) (n, .inl fun j => Int32.ofInt (f j))) := ne_Piff.mp h4 i _ he
      show H[ad i]? = some (vp_cell (ct kd) (n, .inl fun j => Int32.ofInt (g j)))
      rw [h9, vp_cell_i, vp_cell_i]
      exact congrArg some (ne_arrX fun j hj => congrArg (fun z => Value.int (Int32.ofInt z)) (hfg j hj))
    · rw [List.getElem?_set_ne (Ne.symm h)] at hi
      exact ne_Piff.mp h4 i e9 hi
  · obtain ⟨a', ha⟩ := ex hi
    obtain ⟨b', hb⟩ := ex hj
    exact (ne_Diff.mp h5).1 i j a' b' ha hb hq9
  · obtain ⟨a', ha⟩ := ex hi
    exact (ne_Diff.mp h5).2 i a' ha
/-- only the first cells are kept in mind -/
theorem ne_take (k : Nat) (kk : ne_G cl D ct A n0 ad0 p l e R s m args below meth c Q nL mc ms C S pc L st (ws.take k)) : ne_G cl D ct A n0 ad0 p l e R s m args below meth c Q nL mc ms C S pc L st ws := ne_drop (fun i e9 h => by
  by_cases hk : i < k
  · rw [List.getElem?_take_of_lt hk] at h; exact h
  · rw [List.getElem?_eq_none (by rw [List.length_take]; omega)] at h; cases h) kk
theorem ne_callIFN {y : MethodName} {bytes : ByteArray} {maxL n ix fr1 lo1 mc1 ms1 : Nat} {ret : Option FieldType} {as st1 : List Value} {is : List Nat} {wc : ne_W} {post : Option Value → ne_W → Prop} {px : String → ne_W → Prop} {q : Nat} {host : String} (X : ne_F cl D ct A p l R s m args meth c own cc nL Ts fr lo mc ms) (hg : ∀ w ∈ Ts, goodWord w = true) (hM : ne_M l cl (.code y bytes maxL ret) Ts y fr1 lo1 mc1 ms1 (.ref q :: as) wc post px) (hr9 : ret = none) (hy : ne_cy y (.code y bytes maxL ret) n Ts) (hw1 : (own, ix, y, host) ∈ ne_nm) (hw2 : Cond.instanceMethod y ∈ Ts) (hy1 : y.name = "<init>") (hdg : decode cc pc = .ok (.invokespecial ix, 3)) (hst : st1 = (as.map (ne_rn is ws.length)).reverse ++ .ref (ne_rp is ws.length q) :: st) (hlen : as.length = n) (hfr : fr1 + 1 ≤ fr) (hlo : 8 + (maxL + 11) + lo1 ≤ lo) (hC : mc1 ≤ C) (hS : ms1 ≤ S) (hn0 : n0 ≤ ws.length) (hw : ne_cw ws.length ws = true) (hl : ne_cl ws.length L = true) (hs : ne_cs ws.length st = true) (hcat : (st.map fun v => v.category).sum ≤ 8) (hp : ne_pt ws is wc) (kk : ∀ (v : Option Value) (ws1 : ne_W), post v ws1 → ne_G cl D ct A n0 ad0 p l e R s m args below meth c Q nL mc ms (C - mc1) (S - ms1) (pc + 3) L ((v.map (ne_rn is ws.length)).toList ++ st) (ne_mg ws is ws1)) (kx : ∀ (E : String) (ws1 : ne_W), px E ws1 → ne_T cl D ct A n0 ad0 p l e R s m args below meth c Q nL mc ms (C - mc1) (S - ms1) pc L E (ne_mg ws is ws1)) : ne_G cl D ct A n0 ad0 p l e R s m args below meth c Q nL mc ms C S pc L st1 ws := fun H locs cells slots ad ls h1 h2 h3 h4 h5 h6 h7 => by
  subst hst
  have e8 : ∀ z : List Value, z.map (fun v => ne_v ad (ne_rn is ws.length v)) = z.map (ne_v (ne_ac is ws.length ad)) := fun z => List.map_congr_left fun v _ => (ne_ac_v v).symm
  have e9 : ((as.map (ne_rn is ws.length)).reverse ++ .ref (ne_rp is ws.length q) :: st).map (ne_v ad) = (as.map (ne_v (ne_ac is ws.length ad))).reverse ++ .ref (ne_ac is ws.length ad q) :: st.map (ne_v ad) := by
    rw [← e8]
    simp [List.map_append, List.map_reverse, ne_v, ne_ac, Function.comp_def]
  rw [e9]
  subst hr9
  have hF := ne_preF (av := .ref (ne_ac is ws.length ad q) :: as.map (ne_v (ne_ac is ws.length ad))) X hp h4 h5 h6
  have cw := va_cnB (R := R) (s := s) (args := args) (own := own) (host := host) (index := ix) (y := y) (bytes := bytes) (maxL := maxL) (mc := mc1) (ms := ms1) (ret := none) (Ts := Ts) (ws := .code y bytes maxL none :: Ts) (ws' := Ts) (rm := { frames := fr1, cells := mc1, slots := ms1, locals := lo1 }) n X.1.2.2.2.2 (ne_gi hg (fun w hw => by
    rcases List.mem_cons.mp hw with rfl | hw
    · exact hy.1
    · exact hw)) rfl rfl rfl (X.2.2.2.2.2.2.2.1.2.2.2.2.1 _ hw1) (X.1.2.2.2.2 _ hy.2.1) ⟨hy.2.2.1, hy.2.2.2.1, hy.2.2.2.2⟩ ⟨Nat.le_trans hfr X.2.2.2.1, Nat.le_trans hlo X.2.2.2.2.1⟩
  exact ne_afterF X hp hF.1 (vx_runIN (As := as.map (ne_v (ne_ac is ws.length ad))) (rest := st.map (ne_v ad)) (b := ne_ac is ws.length ad q) X.1 (hM D ct (ne_ac is ws.length ad) H.size) ⟨cw, hy1, X.1.2.2.2.2 _ hw2⟩ hF.2.2 rfl (by rw [List.length_map]; exact hlen) h7.1 rfl (by show 2 * 0 + _ ≤ 8; rw [ne_mcat]; omega) hdg ⟨by have := X.2.2.2.2.2.1; omega, by have := X.2.2.2.2.2.2.1; omega⟩) h1 h2 h3 h4 h5 h6 h7 hC hS hn0 hw hl hs kk kx
end NEY
abbrev z0 : Nat → Int := fun _ => 0
abbrev o1 : Nat → Int := fun _ => 1
/-- the model's cells -/
def mW (c q t b k h : Nat → Int) (v : Int) : ne_W := [some (.inr (5, [.ref 1, .ref 2, .ref 3, .ref 4, .ref 5, .ref 6, ni v])), some (.inl (0, 4, c)), some (.inl (0, 4, q)), some (.inl (0, 3, t)), some (.inl (0, 3, b)), some (.inl (0, 3, k)), some (.inl (0, 4, h))]
set_option maxRecDepth 100000 in
set_option maxHeartbeats 4000000 in
theorem me_X2_init (l : Launch) (hl : l.stackTraces = false)  : ne_M l nw_cl (.code yX2_init cX2_init 1 (none)) nw_T yX2_init 3 60 0 0 [.ref 0] [some (.inr (4, [nl 0, .null]))] (fun v w => v = none ∧ w = [some (.inr (4, [nl 0, .null]))]) (fun _ _ => False) := by
  refine ne_meet (own := RX2) hl rfl (by decide +kernel) (Nat.le_of_ble_eq_true rfl) ?_
  intro D ct A P9 V9 R9 S9 M9 as9 bl9 mt9 C9 ad0 X hr hin ht
  refine ne_aload_n X dX2_init_0 rfl ?_
  refine ne_objInit X dX2_init_1 nw_mX2_1 nw_Oi nw_Ok (by decide) (Nat.le_of_ble_eq_true rfl) ?_
  exact ne_vret X hr dX2_init_4 ⟨rfl, rfl⟩
set_option maxRecDepth 100000 in
set_option maxHeartbeats 4000000 in
theorem me_X0_init (l : Launch) (hl : l.stackTraces = false)  : ne_M l nw_cl (.code yX0_init cX0_init 1 (none)) nw_T yX0_init 3 60 1 98 [.ref 0] [some (.inr (2, [.null]))] (fun v w => v = none ∧ w = [some (.inr (2, [.ref 1])), some (.inl (0, 98, z0))]) (fun _ _ => False) := by
  refine ne_meet (own := RX0) hl rfl (by decide +kernel) (Nat.le_of_ble_eq_true rfl) ?_
  intro D ct A P9 V9 R9 S9 M9 as9 bl9 mt9 C9 ad0 X hr hin ht
  refine ne_aload_n X dX0_init_0 rfl ?_
  refine ne_objInit X dX0_init_1 nw_mX0_1 nw_Oi nw_Ok (by decide) (Nat.le_of_ble_eq_true rfl) ?_
  refine ne_aload_n X dX0_init_4 rfl ?_
  refine ne_bipush (v := 98) (by decide) X dX0_init_5 ?_
  refine ne_newa (t := 0) X dX0_init_7 (Or.inl ⟨rfl, rfl⟩) nw_Aint (by omega) (by decide) (by decide) (Nat.le_of_ble_eq_true rfl) rfl rfl rfl ?_
  refine ne_putF X dX0_init_9 hin nw_fX0_9 nw_p2_0 ⟨_, rfl, rfl, rfl⟩ rfl (fun _ => rfl) (fun _ => rfl) (by first | decide | exact Nat.le_of_ble_eq_true rfl) ?_
  exact ne_vret X hr dX0_init_12 ⟨rfl, rfl⟩
set_option maxRecDepth 100000 in
set_option maxHeartbeats 4000000 in
theorem me_X1_init (l : Launch) (hl : l.stackTraces = false)  : ne_M l nw_cl (.code yX1_init cX1_init 2 (none)) nw_T yX1_init 5 150 12 240 [.ref 0] [some (.inr (3, [.null, .null, .null, .null, .null, .null, .null, .null, .null]))] (fun v w => v = none ∧ w = cW z0 z0 z0 o1 z0 o1 z0 z0 z0) (fun _ _ => False) := by
  refine ne_meet (own := RX1) hl rfl (by decide +kernel) (Nat.le_of_ble_eq_true rfl) ?_
  intro D ct A P9 V9 R9 S9 M9 as9 bl9 mt9 C9 ad0 X hr hin ht
  have lp77 : ∀ (n9 : Nat) (b n : Nat → Int) (j : Int), (3 - j).toNat < n9 → (0 ≤ j) → (j ≤ 3) → (ne_rg b 0 1) → (ne_rg n 0 1) → (∀ m : Nat, (m : Int) < j → b m = 1) → (∀ m : Nat, (m : Int) < j → n m = 1) → ne_G nw_cl D ct A 1 ad0 P9 l V9 R9 S9 M9 as9 bl9 mt9 C9 (ne_O nw_cl D ct ad0 1 A bl9 as9 S9 12 240 (fun v w => v = none ∧ w = cW z0 z0 z0 o1 z0 o1 z0 z0 z0) (fun _ _ => False)) 2 12 240 0 0 77 [some (.ref 0), some (ni j)] [] (cW z0 z0 z0 b z0 n z0 z0 z0) := by
    intro n9
    induction n9 with
    | zero => intro b n j hm9 q1 q2 Ib In q5 q6; exfalso; omega
    | succ n9 ih =>
      intro b n j hm9 q1 q2 Ib In q5 q6
      refine ne_iload_n X dX1_init_77 rfl ?_
      refine ne_iconst X dX1_init_78 ?_
      refine ne_icmp_ge (tgt := 102) X dX1_init_79 rfl (by omega) (by omega) (fun b79 => ?_) (fun b79 => ?_)
      · refine ne_ext (q := 4) o1 rfl (fun m hm => q5 m (by omega)) ?_
        refine ne_ext (q := 6) o1 rfl (fun m hm => q6 m (by omega)) ?_
        exact ne_vret X hr dX1_init_102 ⟨rfl, rfl⟩
      · refine ne_aload_n X dX1_init_82 rfl ?_
        refine ne_getf X dX1_init_83 nw_fX1_19 rfl rfl ?_
        refine ne_iload_n X dX1_init_86 rfl ?_
        refine ne_iconst X dX1_init_87 ?_
        refine ne_iastR X dX1_init_88 rfl (by omega) Ib (a := 0) (b := 1) (by omega) (fun b88 h88 Ib => ?_)
        refine ne_aload_n X dX1_init_89 rfl ?_
        refine ne_getf X dX1_init_90 nw_fX1_25 rfl rfl ?_
        refine ne_iload_n X dX1_init_93 rfl ?_
        refine ne_iconst X dX1_init_94 ?_
        refine ne_iastR X dX1_init_95 rfl (by omega) In (a := 0) (b := 1) (by omega) (fun n95 h95 In => ?_)
        refine ne_ws (ws' := cW z0 z0 z0 b88 z0 n95 z0 z0 z0) rfl ?_
        refine ne_iinc X dX1_init_96 rfl (by decide) ?_
        refine ne_goto (tgt := 77) X dX1_init_99 rfl ?_
        exact ih b88 n95 (j + 1) (by omega) (by omega) (by omega) Ib In (fun m hm => by rw [h88]; unfold va_up; split <;> first | rfl | exact q5 m (by omega)) (fun m hm => by rw [h95]; unfold va_up; split <;> first | rfl | exact q6 m (by omega))
  refine ne_aload_n X dX1_init_0 rfl ?_
  refine ne_objInit X dX1_init_1 nw_mX1_1 nw_Oi nw_Ok (by decide) (Nat.le_of_ble_eq_true rfl) ?_
  refine ne_aload_n X dX1_init_4 rfl ?_
  refine ne_iconst X dX1_init_5 ?_
  refine ne_newa (t := 0) X dX1_init_6 (Or.inl ⟨rfl, rfl⟩) nw_Aint (by omega) (by decide) (by decide) (Nat.le_of_ble_eq_true rfl) rfl rfl rfl ?_
  refine ne_putF X dX1_init_8 hin nw_fX1_9 nw_p3_0 ⟨_, rfl, rfl, rfl⟩ rfl (fun _ => rfl) (fun _ => rfl) (by first | decide | exact Nat.le_of_ble_eq_true rfl) ?_
  refine ne_aload_n X dX1_init_11 rfl ?_
  refine ne_iconst X dX1_init_12 ?_
  refine ne_newa (t := 0) X dX1_init_13 (Or.inl ⟨rfl, rfl⟩) nw_Aint (by omega) (by decide) (by decide) (Nat.le_of_ble_eq_true rfl) rfl rfl rfl ?_
  refine ne_putF X dX1_init_15 hin nw_fX1_13 nw_p3_1 ⟨_, rfl, rfl, rfl⟩ rfl (fun _ => rfl) (fun _ => rfl) (by first | decide | exact Nat.le_of_ble_eq_true rfl) ?_
  refine ne_aload_n X dX1_init_18 rfl ?_
  refine ne_iconst X dX1_init_19 ?_
  refine ne_newa (t := 0) X dX1_init_20 (Or.inl ⟨rfl, rfl⟩) nw_Aint (by omega) (by decide) (by decide) (Nat.le_of_ble_eq_true rfl) rfl rfl rfl ?_
  refine ne_putF X dX1_init_22 hin nw_fX1_16 nw_p3_2 ⟨_, rfl, rfl, rfl⟩ rfl (fun _ => rfl) (fun _ => rfl) (by first | decide | exact Nat.le_of_ble_eq_true rfl) ?_
  refine ne_aload_n X dX1_init_25 rfl ?_
  refine ne_iconst X dX1_init_26 ?_
  refine ne_newa (t := 0) X dX1_init_27 (Or.inl ⟨rfl, rfl⟩) nw_Aint (by omega) (by decide) (by decide) (Nat.le_of_ble_eq_true rfl) rfl rfl rfl ?_
  refine ne_putF X dX1_init_29 hin nw_fX1_19 nw_p3_3 ⟨_, rfl, rfl, rfl⟩ rfl (fun _ => rfl) (fun _ => rfl) (by first | decide | exact Nat.le_of_ble_eq_true rfl) ?_
  refine ne_aload_n X dX1_init_32 rfl ?_
  refine ne_iconst X dX1_init_33 ?_
  refine ne_newa (t := 0) X dX1_init_34 (Or.inl ⟨rfl, rfl⟩) nw_Aint (by omega) (by decide) (by decide) (Nat.le_of_ble_eq_true rfl) rfl rfl rfl ?_
  refine ne_putF X dX1_init_36 hin nw_fX1_22 nw_p3_4 ⟨_, rfl, rfl, rfl⟩ rfl (fun _ => rfl) (fun _ => rfl) (by first | decide | exact Nat.le_of_ble_eq_true rfl) ?_
  refine ne_aload_n X dX1_init_39 rfl ?_
  refine ne_iconst X dX1_init_40 ?_
  refine ne_newa (t := 0) X dX1_init_41 (Or.inl ⟨rfl, rfl⟩) nw_Aint (by omega) (by decide) (by decide) (Nat.le_of_ble_eq_true rfl) rfl rfl rfl ?_
  refine ne_putF X dX1_init_43 hin nw_fX1_25 nw_p3_5 ⟨_, rfl, rfl, rfl⟩ rfl (fun _ => rfl) (fun _ => rfl) (by first | decide | exact Nat.le_of_ble_eq_true rfl) ?_
  refine ne_aload_n X dX1_init_46 rfl ?_
  refine ne_iconst X dX1_init_47 ?_
  refine ne_newa (t := 0) X dX1_init_48 (Or.inl ⟨rfl, rfl⟩) nw_Aint (by omega) (by decide) (by decide) (Nat.le_of_ble_eq_true rfl) rfl rfl rfl ?_
  refine ne_putF X dX1_init_50 hin nw_fX1_28 nw_p3_6 ⟨_, rfl, rfl, rfl⟩ rfl (fun _ => rfl) (fun _ => rfl) (by first | decide | exact Nat.le_of_ble_eq_true rfl) ?_
  refine ne_aload_n X dX1_init_53 rfl ?_
  refine ne_new X dX1_init_54 nw_nX1_31 (by first | decide | omega) (by first | decide | omega) (Nat.le_of_ble_eq_true rfl) rfl rfl rfl ?_
  refine ne_dupa X dX1_init_57 ?_
  refine ne_callIFN (is := [8]) (host := "Ninewheel") X nw_Tg (me_X0_init l hl) rfl nw_yX0_init (by decide +kernel) nw_iX0_init rfl dX1_init_58 rfl rfl (by decide) (by decide) (by first | decide | omega) (by first | decide | omega) (Nat.le_of_ble_eq_true rfl) rfl rfl rfl (Nat.le_of_ble_eq_true rfl) (ne_ptb rfl (by decide +kernel) rfl) ?_ ?_
  rotate_left
  · rintro E9 w9 h9; exact h9.elim
  rintro v58 w58 ⟨rfl, rfl⟩
  refine ne_putF X dX1_init_61 hin nw_fX1_34 nw_p3_7 ⟨_, rfl, rfl, rfl⟩ rfl (fun _ => rfl) (fun _ => rfl) (by first | decide | exact Nat.le_of_ble_eq_true rfl) ?_
  refine ne_aload_n X dX1_init_64 rfl ?_
  refine ne_new X dX1_init_65 nw_nX1_31 (by first | decide | omega) (by first | decide | omega) (Nat.le_of_ble_eq_true rfl) rfl rfl rfl ?_
  refine ne_dupa X dX1_init_68 ?_
  refine ne_callIFN (is := [10]) (host := "Ninewheel") X nw_Tg (me_X0_init l hl) rfl nw_yX0_init (by decide +kernel) nw_iX0_init rfl dX1_init_69 rfl rfl (by decide) (by decide) (by first | decide | omega) (by first | decide | omega) (Nat.le_of_ble_eq_true rfl) rfl rfl rfl (Nat.le_of_ble_eq_true rfl) (ne_ptb rfl (by decide +kernel) rfl) ?_ ?_
  rotate_left
  · rintro E9 w9 h9; exact h9.elim
  rintro v69 w69 ⟨rfl, rfl⟩
  refine ne_putF X dX1_init_72 hin nw_fX1_38 nw_p3_8 ⟨_, rfl, rfl, rfl⟩ rfl (fun _ => rfl) (fun _ => rfl) (by first | decide | exact Nat.le_of_ble_eq_true rfl) ?_
  refine ne_viewb [0, 1, 2, 3, 4, 5, 6, 7, 8, 10, 9, 11] (ws' := cW z0 z0 z0 z0 z0 z0 z0 z0 z0) (L' := [some (.ref 0), none]) (st' := []) rfl (by decide) rfl rfl rfl rfl ?_
  refine ne_iconst X dX1_init_75 ?_
  refine ne_istore_n X dX1_init_76 rfl (by decide) ?_
  refine ne_less (C' := 0) (S' := 0) (by decide) (by decide) ?_
  exact lp77 _ z0 z0 0 (Nat.lt_succ_self _) (by omega) (by omega) (fun _ => by show (0 : Int) ≤ 0 ∧ (0 : Int) ≤ 1; omega) (fun _ => by show (0 : Int) ≤ 0 ∧ (0 : Int) ≤ 1; omega) (fun m hm => by omega) (fun m hm => by omega)
set_option maxRecDepth 100000 in
set_option maxHeartbeats 4000000 in
theorem me_X3_init (l : Launch) (hl : l.stackTraces = false)  : ne_M l nw_cl (.code yX3_init cX3_init 1 (none)) nw_T yX3_init 3 90 6 21 [.ref 0] [some (.inr (5, [.null, .null, .null, .null, .null, .null, ni 0]))] (fun v w => v = none ∧ w = mW z0 z0 z0 o1 z0 z0 0) (fun _ _ => False) := by
  refine ne_meet (own := RX3) hl rfl (by decide +kernel) (Nat.le_of_ble_eq_true rfl) ?_
  intro D ct A P9 V9 R9 S9 M9 as9 bl9 mt9 C9 ad0 X hr hin ht
  have hz9 : ne_rg z0 0 1 := fun _ => by show (0 : Int) ≤ 0 ∧ (0 : Int) ≤ 1; omega
  refine ne_aload_n X dX3_init_0 rfl ?_
  refine ne_objInit X dX3_init_1 nw_mX3_3 nw_Oi nw_Ok (by decide) (Nat.le_of_ble_eq_true rfl) ?_
  refine ne_aload_n X dX3_init_4 rfl ?_
  refine ne_iconst X dX3_init_5 ?_
  refine ne_newa (t := 0) X dX3_init_6 (Or.inl ⟨rfl, rfl⟩) nw_Aint (by omega) (by decide) (by decide) (Nat.le_of_ble_eq_true rfl) rfl rfl rfl ?_
  refine ne_putF X dX3_init_8 hin nw_fX3_9 nw_p5_0 ⟨_, rfl, rfl, rfl⟩ rfl (fun _ => rfl) (fun _ => rfl) (by first | decide | exact Nat.le_of_ble_eq_true rfl) ?_
  refine ne_aload_n X dX3_init_11 rfl ?_
  refine ne_iconst X dX3_init_12 ?_
  refine ne_newa (t := 0) X dX3_init_13 (Or.inl ⟨rfl, rfl⟩) nw_Aint (by omega) (by decide) (by decide) (Nat.le_of_ble_eq_true rfl) rfl rfl rfl ?_
  refine ne_putF X dX3_init_15 hin nw_fX3_15 nw_p5_1 ⟨_, rfl, rfl, rfl⟩ rfl (fun _ => rfl) (fun _ => rfl) (by first | decide | exact Nat.le_of_ble_eq_true rfl) ?_
  refine ne_aload_n X dX3_init_18 rfl ?_
  refine ne_iconst X dX3_init_19 ?_
  refine ne_newa (t := 0) X dX3_init_20 (Or.inl ⟨rfl, rfl⟩) nw_Aint (by omega) (by decide) (by decide) (Nat.le_of_ble_eq_true rfl) rfl rfl rfl ?_
  refine ne_putF X dX3_init_22 hin nw_fX3_18 nw_p5_2 ⟨_, rfl, rfl, rfl⟩ rfl (fun _ => rfl) (fun _ => rfl) (by first | decide | exact Nat.le_of_ble_eq_true rfl) ?_
  refine ne_aload_n X dX3_init_25 rfl ?_
  refine ne_iconst X dX3_init_26 ?_
  refine ne_newa (t := 0) X dX3_init_27 (Or.inl ⟨rfl, rfl⟩) nw_Aint (by omega) (by decide) (by decide) (Nat.le_of_ble_eq_true rfl) rfl rfl rfl ?_
  refine ne_dupa X dX3_init_29 ?_
  refine ne_iconst X dX3_init_30 ?_
  refine ne_iconst X dX3_init_31 ?_
  refine ne_iastR X dX3_init_32 rfl (by omega) hz9 (a := 0) (b := 1) (by omega) (fun b32 h32 Ib => ?_)
  refine ne_dupa X dX3_init_33 ?_
  refine ne_iconst X dX3_init_34 ?_
  refine ne_iconst X dX3_init_35 ?_
  refine ne_iastR X dX3_init_36 rfl (by omega) Ib (a := 0) (b := 1) (by omega) (fun b36 h36 Ib => ?_)
  refine ne_dupa X dX3_init_37 ?_
  refine ne_iconst X dX3_init_38 ?_
  refine ne_iconst X dX3_init_39 ?_
  refine ne_iastR X dX3_init_40 rfl (by omega) Ib (a := 0) (b := 1) (by omega) (fun b40 h40 Ib => ?_)
  refine ne_putF X dX3_init_41 hin nw_fX3_21 nw_p5_3 ⟨_, rfl, rfl, rfl⟩ rfl (fun _ => rfl) (fun _ => rfl) (by first | decide | exact Nat.le_of_ble_eq_true rfl) ?_
  refine ne_aload_n X dX3_init_44 rfl ?_
  refine ne_iconst X dX3_init_45 ?_
  refine ne_newa (t := 0) X dX3_init_46 (Or.inl ⟨rfl, rfl⟩) nw_Aint (by omega) (by decide) (by decide) (Nat.le_of_ble_eq_true rfl) rfl rfl rfl ?_
  refine ne_putF X dX3_init_48 hin nw_fX3_24 nw_p5_4 ⟨_, rfl, rfl, rfl⟩ rfl (fun _ => rfl) (fun _ => rfl) (by first | decide | exact Nat.le_of_ble_eq_true rfl) ?_
  refine ne_aload_n X dX3_init_51 rfl ?_
  refine ne_iconst X dX3_init_52 ?_
  refine ne_newa (t := 0) X dX3_init_53 (Or.inl ⟨rfl, rfl⟩) nw_Aint (by omega) (by decide) (by decide) (Nat.le_of_ble_eq_true rfl) rfl rfl rfl ?_
  refine ne_putF X dX3_init_55 hin nw_fX3_27 nw_p5_5 ⟨_, rfl, rfl, rfl⟩ rfl (fun _ => rfl) (fun _ => rfl) (by first | decide | exact Nat.le_of_ble_eq_true rfl) ?_
  refine ne_ext (q := 4) o1 rfl (fun m hm => ?_) ?_
  · rw [h40, h36, h32]; rcases (show m = 0 ∨ m = 1 ∨ m = 2 by omega) with rfl | rfl | rfl <;> rfl
  exact ne_vret X hr dX3_init_58 ⟨rfl, rfl⟩
