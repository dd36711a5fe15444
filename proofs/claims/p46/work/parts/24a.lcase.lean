/-- the law's world: the script, the class's cells, the model's, Out, a string -/
def lW (c q t b k n h x y mc9 mq9 mt9 mb9 mk9 mh9 : Nat → Int) (mv9 : Int) (u s : Value) : ne_W := [none, some (.inr (3, [.ref 2, .ref 3, .ref 4, .ref 5, .ref 6, .ref 7, .ref 8, .ref 9, .ref 10])), some (.inl (0, 4, c)), some (.inl (0, 4, q)), some (.inl (0, 3, t)), some (.inl (0, 3, b)), some (.inl (0, 3, k)), some (.inl (0, 3, n)), some (.inl (0, 4, h)), some (.inr (2, [.ref 11])), some (.inr (2, [.ref 12])), some (.inl (0, 98, x)), some (.inl (0, 98, y)), some (.inr (5, [.ref 14, .ref 15, .ref 16, .ref 17, .ref 18, .ref 19, ni mv9])), some (.inl (0, 4, mc9)), some (.inl (0, 4, mq9)), some (.inl (0, 3, mt9)), some (.inl (0, 3, mb9)), some (.inl (0, 3, mk9)), some (.inl (0, 4, mh9)), some (.inr (4, [u, s])), none]
theorem mI_mono {c q t b k h : Nat → Int} {v T T' : Int} (hI : mI c q t b k h v T) (hT : T ≤ T') : mI c q t b k h v T' := ⟨hI.1, hI.2.1, hI.2.2.1, hI.2.2.2.1, hI.2.2.2.2.1, hI.2.2.2.2.2.1, hI.2.2.2.2.2.2.1, ne_rg_mono hI.2.2.2.2.2.2.2.1 (Int.le_refl 0) hT, hI.2.2.2.2.2.2.2.2⟩
theorem ne_tenE {a u z : Int} (h : 1 ≤ u ∧ u ≤ 96 ∧ (∀ m : Nat, 0 < m → (m : Int) < u → ne_rs ((1 : Int).tmod a) a m ≠ (1 : Int).tmod a) ∧ (ne_rs ((1 : Int).tmod a) a u.toNat = (1 : Int).tmod a ∨ u = 96)) (h' : ne_per ((1 : Int).tmod a) a z) : u = z := by
  obtain ⟨h1, h2, h3, h4⟩ := h
  rcases h4 with h4 | h4
  · exact ne_perU ⟨h1, h2, h3, h4⟩ h'
  · obtain ⟨g1, g2, g3, g4⟩ := h'
    rcases (show z = u ∨ z < u by omega) with h5 | h5
    · exact h5.symm
    · exact absurd g4 (h3 z.toNat (by omega) (by omega))
theorem lw_mg1 {c q t b k n h x y c8 q8 t8 b8 k8 n8 h8 x8 y8 mc9 mq9 mt9 mb9 mk9 mh9 : Nat → Int} {mv9 u u8 : Int} {s : Value} : ne_mg (lW c q t b k n h x y mc9 mq9 mt9 mb9 mk9 mh9 mv9 (nl u) (ne_rn [1, 2, 3, 4, 5, 6, 7, 8, 9, 10, 11, 12, 20, 21] 22 s)) [1, 2, 3, 4, 5, 6, 7, 8, 9, 10, 11, 12, 20, 21] (cW c8 q8 t8 b8 k8 n8 h8 x8 y8 ++ [some (.inr (4, [nl u8, s])), none]) = lW c8 q8 t8 b8 k8 n8 h8 x8 y8 mc9 mq9 mt9 mb9 mk9 mh9 mv9 (nl u8) (ne_rn [1, 2, 3, 4, 5, 6, 7, 8, 9, 10, 11, 12, 20, 21] 22 s) := rfl
theorem lw_pt1 {c q t b k n h x y mc9 mq9 mt9 mb9 mk9 mh9 : Nat → Int} {mv9 u : Int} {s : Value} : ne_pt (lW c q t b k n h x y mc9 mq9 mt9 mb9 mk9 mh9 mv9 (nl u) (ne_rn [1, 2, 3, 4, 5, 6, 7, 8, 9, 10, 11, 12, 20, 21] 22 s)) [1, 2, 3, 4, 5, 6, 7, 8, 9, 10, 11, 12, 20, 21] (cW c q t b k n h x y ++ [some (.inr (4, [nl u, s])), none]) := ne_ptb rfl (by decide +kernel) rfl
theorem lw_mg2 {c q t b k n h x y mc9 mq9 mt9 mb9 mk9 mh9 mc8 mq8 mt8 mb8 mk8 mh8 : Nat → Int} {mv9 mv8 : Int} {u s : Value} : ne_mg (lW c q t b k n h x y mc9 mq9 mt9 mb9 mk9 mh9 mv9 u s) [13, 14, 15, 16, 17, 18, 19] (mW mc8 mq8 mt8 mb8 mk8 mh8 mv8) = lW c q t b k n h x y mc8 mq8 mt8 mb8 mk8 mh8 mv8 u s := rfl
theorem lw_pt2 {c q t b k n h x y mc9 mq9 mt9 mb9 mk9 mh9 : Nat → Int} {mv9 : Int} {u s : Value} : ne_pt (lW c q t b k n h x y mc9 mq9 mt9 mb9 mk9 mh9 mv9 u s) [13, 14, 15, 16, 17, 18, 19] (mW mc9 mq9 mt9 mb9 mk9 mh9 mv9) := ne_ptb rfl (by decide +kernel) rfl
theorem lw_mg3 {c q t b k n h x y c8 q8 t8 b8 k8 n8 h8 x8 y8 mc9 mq9 mt9 mb9 mk9 mh9 : Nat → Int} {mv9 : Int} {u s : Value} : ne_mg (lW c q t b k n h x y mc9 mq9 mt9 mb9 mk9 mh9 mv9 u s) [1, 2, 3, 4, 5, 6, 7, 8, 9, 10, 11, 12] (cW c8 q8 t8 b8 k8 n8 h8 x8 y8) = lW c8 q8 t8 b8 k8 n8 h8 x8 y8 mc9 mq9 mt9 mb9 mk9 mh9 mv9 u s := rfl
theorem lw_pt3 {c q t b k n h x y mc9 mq9 mt9 mb9 mk9 mh9 : Nat → Int} {mv9 : Int} {u s : Value} : ne_pt (lW c q t b k n h x y mc9 mq9 mt9 mb9 mk9 mh9 mv9 u s) [1, 2, 3, 4, 5, 6, 7, 8, 9, 10, 11, 12] (cW c q t b k n h x y) := ne_ptb rfl (by decide +kernel) rfl
theorem lw_vw {c q t b k n h x y c8 q8 t8 b8 k8 n8 h8 x8 y8 mc9 mq9 mt9 mb9 mk9 mh9 : Nat → Int} {mv9 u u8 : Int} {sv : Value} : [0, 1, 2, 3, 4, 5, 6, 7, 8, 9, 10, 11, 12, 13, 14, 15, 16, 17, 18, 19, 20, 22].map (fun i => (ne_mg (lW c q t b k n h x y mc9 mq9 mt9 mb9 mk9 mh9 mv9 (nl u) sv) [1, 2, 3, 4, 5, 6, 7, 8, 9, 10, 11, 12, 20, 21] (cW c8 q8 t8 b8 k8 n8 h8 x8 y8 ++ [some (.inr (4, [nl u8, .ref 14])), none, none])).getD i none) = (lW c8 q8 t8 b8 k8 n8 h8 x8 y8 mc9 mq9 mt9 mb9 mk9 mh9 mv9 (nl u8) (.ref 21)).map (ne_vE [0, 1, 2, 3, 4, 5, 6, 7, 8, 9, 10, 11, 12, 13, 14, 15, 16, 17, 18, 19, 20, 22]) := rfl
theorem lw_vl {c q t b k n h x y c8 q8 t8 b8 k8 n8 h8 x8 y8 mc9 mq9 mt9 mb9 mk9 mh9 : Nat → Int} {mv9 u u8 : Int} {sv : Value} : ([0, 1, 2, 3, 4, 5, 6, 7, 8, 9, 10, 11, 12, 13, 14, 15, 16, 17, 18, 19, 20, 22].all (fun i => decide (i < (ne_mg (lW c q t b k n h x y mc9 mq9 mt9 mb9 mk9 mh9 mv9 (nl u) sv) [1, 2, 3, 4, 5, 6, 7, 8, 9, 10, 11, 12, 20, 21] (cW c8 q8 t8 b8 k8 n8 h8 x8 y8 ++ [some (.inr (4, [nl u8, .ref 14])), none, none])).length))) = true := rfl
theorem lw_tkN {c q t b k n h x y c8 q8 t8 b8 k8 n8 h8 x8 y8 mc9 mq9 mt9 mb9 mk9 mh9 : Nat → Int} {mv9 u u8 : Int} {sv : Value} : List.take 22 (ne_mg (lW c q t b k n h x y mc9 mq9 mt9 mb9 mk9 mh9 mv9 (nl u) sv) [1, 2, 3, 4, 5, 6, 7, 8, 9, 10, 11, 12, 20, 21] (cW c8 q8 t8 b8 k8 n8 h8 x8 y8 ++ [some (.inr (4, [nl u8, .null])), none, none])) = lW c8 q8 t8 b8 k8 n8 h8 x8 y8 mc9 mq9 mt9 mb9 mk9 mh9 mv9 (nl u8) .null := rfl
theorem lw_tkR {c q t b k n h x y c8 q8 t8 b8 k8 n8 h8 x8 y8 mc9 mq9 mt9 mb9 mk9 mh9 : Nat → Int} {mv9 u u8 : Int} {sv : Value} : List.take 22 (ne_mg (lW c q t b k n h x y mc9 mq9 mt9 mb9 mk9 mh9 mv9 (nl u) sv) [1, 2, 3, 4, 5, 6, 7, 8, 9, 10, 11, 12, 20, 21] (cW c8 q8 t8 b8 k8 n8 h8 x8 y8 ++ [some (.inr (4, [nl u8, .ref 13])), none, none])) = lW c8 q8 t8 b8 k8 n8 h8 x8 y8 mc9 mq9 mt9 mb9 mk9 mh9 mv9 (nl u8) (.ref 21) := rfl
theorem lw_mg4 {c q t b k n h x y mc9 mq9 mt9 mb9 mk9 mh9 mc8 mq8 mt8 mb8 mk8 mh8 : Nat → Int} {mv9 mv8 : Int} {u s : Value} : ne_mg (lW c q t b k n h x y mc9 mq9 mt9 mb9 mk9 mh9 mv9 u s) [13, 14, 15, 16, 17, 18, 19] (mW mc8 mq8 mt8 mb8 mk8 mh8 mv8 ++ [none]) = lW c q t b k n h x y mc8 mq8 mt8 mb8 mk8 mh8 mv8 u s ++ [none] := rfl
theorem lw_tk2 {c q t b k n h x y mc9 mq9 mt9 mb9 mk9 mh9 : Nat → Int} {mv9 : Int} {u s : Value} : List.take 22 (lW c q t b k n h x y mc9 mq9 mt9 mb9 mk9 mh9 mv9 u s ++ [none]) = lW c q t b k n h x y mc9 mq9 mt9 mb9 mk9 mh9 mv9 u s := rfl
section LAWS
variable {D : va_G} {ct : Nat → ClassId} {A : Nat → Prop} {p : Program} {l : Launch} {e : Env} {s9 : State} {m : MethodId} {args : Array Value} {below : List Frame} {meth : Method} {c9 : Code} {Q9 : State → Prop} {b9 N9 : Nat} {xs : Nat → Int32} {ad0 : Nat → Nat}
set_option maxRecDepth 100000 in
set_option maxHeartbeats 4000000 in
theorem lc_0 (hl : l.stackTraces = false) (X : ne_F nw_cl D ct A p l room_1 s9 m args meth c9 RL cL_law 7 nw_T 20 1000 600128 7301098) (hX : va_X b9 N9 xs s9 s9.heap) (hbl : b9 < s9.heap.size) (hbA : ¬ A b9) (hb0 : ad0 0 = b9) (i T : Int) (hi : 0 ≤ i ∧ i + 6 ≤ N9 ∧ N9 ≤ 384) (hT : 0 ≤ T ∧ T ≤ 100) (c q t b k n h x y  : Nat → Int) (mv9 u : Int) (sv : Value) (hI : cI c q t b k n h x y T) (hM : mI c q t b k h mv9 T) (hP : ∀ j : Nat, ne_per (t j) (b j) (n j)) (hs : sv = .null ∨ sv = .ref 21) (C S : Nat) (hC : 500 ≤ C) (hS : 3500 ≤ S) (kk : ∀ (c q t b k n h x y  : Nat → Int) (mv9 u : Int) (sv : Value), cI c q t b k n h x y (T + 1) → mI c q t b k h mv9 (T + 1) → (∀ j : Nat, ne_per (t j) (b j) (n j)) → (sv = .null ∨ sv = .ref 21) → ne_G nw_cl D ct A 1 ad0 p l e room_1 s9 m args below meth c9 Q9 7 600128 7301098 (C - 500) (S - 3500) 2324 [some (.ref 0), some (.ref 1), some (.ref 13), some (.ref 20), some (ni i), none, none] [] (lW c q t b k n h x y c q t b k h mv9 (nl u) sv)) : ne_G nw_cl D ct A 1 ad0 p l e room_1 s9 m args below meth c9 Q9 7 600128 7301098 C S 252 [some (.ref 0), some (.ref 1), some (.ref 13), some (.ref 20), some (ni i), none, none] [] (lW c q t b k n h x y c q t b k h mv9 (nl u) sv) := by
  obtain ⟨s8, hs8, rfl⟩ : ∃ s8 : Value, (s8 = .null ∨ s8 = .ref 13) ∧ sv = ne_rn [1, 2, 3, 4, 5, 6, 7, 8, 9, 10, 11, 12, 20, 21] 22 s8 := by
    rcases hs with rfl | rfl
    · exact ⟨.null, Or.inl rfl, rfl⟩
    · exact ⟨.ref 13, Or.inr rfl, rfl⟩
  have hcw : ∀ (c q t b k n h x y mc9 mq9 mt9 mb9 mk9 mh9 : Nat → Int) (mv9 u : Int), ne_cw 22 (lW c q t b k n h x y mc9 mq9 mt9 mb9 mk9 mh9 mv9 (nl u) (ne_rn [1, 2, 3, 4, 5, 6, 7, 8, 9, 10, 11, 12, 20, 21] 22 s8)) = true := by
    intros
    rcases hs8 with rfl | rfl <;> rfl
  refine ne_aload_n X dL_law_252 rfl ?_
  refine ne_aload_n X dL_law_253 rfl ?_
  refine ne_iload X dL_law_254 rfl ?_
  refine ne_iconst X dL_law_256 ?_
  refine ne_iadd X dL_law_257 ?_
  refine ne_sld X hX hbl hbA hb0 (by decide) (by omega) dL_law_258 (fun z258 e258 l258 r258 => ?_)
  refine ne_aload_n X dL_law_259 rfl ?_
  refine ne_iload X dL_law_260 rfl ?_
  refine ne_iconst X dL_law_262 ?_
  refine ne_iadd X dL_law_263 ?_
  refine ne_sld X hX hbl hbA hb0 (by decide) (by omega) dL_law_264 (fun z264 e264 l264 r264 => ?_)
  refine ne_aload_n X dL_law_265 rfl ?_
  refine ne_iload X dL_law_266 rfl ?_
  refine ne_iconst X dL_law_268 ?_
  refine ne_iadd X dL_law_269 ?_
  refine ne_sld X hX hbl hbA hb0 (by decide) (by omega) dL_law_270 (fun z270 e270 l270 r270 => ?_)
  refine ne_aload_n X dL_law_271 rfl ?_
  refine ne_callSFW (is := [1, 2, 3, 4, 5, 6, 7, 8, 9, 10, 11, 12, 20, 21]) X nw_Tg (me_L_put l hl c q t b k n h x y T hI (by omega) u s8 hs8 _ _ _ (by omega) (by omega) (by omega)) nw_yL_put nw_mL_173 nw_sL_put dL_law_272 rfl rfl (by decide) (by decide) (by first | decide | omega) (by first | decide | omega) (Nat.le_of_ble_eq_true rfl) (hcw _ _ _ _ _ _ _ _ _ _ _ _ _ _ _ _ _) rfl rfl (Nat.le_of_ble_eq_true rfl) lw_pt1 ?_ ?_
  rotate_left
  · rintro E9 w9 h9; exact h9.elim
  rintro v272 w272 ⟨c1, q1, h1, u1, rfl, hI1, z272, rfl, g272⟩
  refine ne_ws lw_mg1 ?_
  refine ne_istore X dL_law_275 (by decide) ?_
  refine ne_aload_n X dL_law_277 rfl ?_
  refine ne_aload_n X dL_law_278 rfl ?_
  refine ne_iload X dL_law_279 rfl ?_
  refine ne_iconst X dL_law_281 ?_
  refine ne_iadd X dL_law_282 ?_
  refine ne_sld X hX hbl hbA hb0 (by decide) (by omega) dL_law_283 (fun z283 e283 l283 r283 => ?_)
  have y283 : z258 = z283 := e258.trans e283.symm
  subst y283
  refine ne_aload_n X dL_law_284 rfl ?_
  refine ne_iload X dL_law_285 rfl ?_
  refine ne_iconst X dL_law_287 ?_
  refine ne_iadd X dL_law_288 ?_
  refine ne_sld X hX hbl hbA hb0 (by decide) (by omega) dL_law_289 (fun z289 e289 l289 r289 => ?_)
  have y289 : z264 = z289 := e264.trans e289.symm
  subst y289
  refine ne_aload_n X dL_law_290 rfl ?_
  refine ne_iload X dL_law_291 rfl ?_
  refine ne_iconst X dL_law_293 ?_
  refine ne_iadd X dL_law_294 ?_
  refine ne_sld X hX hbl hbA hb0 (by decide) (by omega) dL_law_295 (fun z295 e295 l295 r295 => ?_)
  have y295 : z270 = z295 := e270.trans e295.symm
  subst y295
  refine ne_callVF (is := [13, 14, 15, 16, 17, 18, 19]) X nw_Tg (me_X3_putW l hl c q t b k h mv9 T hM (by omega) _ _ _ (by omega) (by omega) (by omega)) nw_yX3_put nw_mL_178 nw_iX3_put nw_eX3_put (ci := 5) rfl rfl rfl dL_law_296 rfl rfl (by decide) (by decide) (by first | decide | omega) (by first | decide | omega) (Nat.le_of_ble_eq_true rfl) (hcw _ _ _ _ _ _ _ _ _ _ _ _ _ _ _ _ _) rfl rfl (Nat.le_of_ble_eq_true rfl) lw_pt2 ?_ ?_
  rotate_left
  · rintro E9 w9 h9; exact h9.elim
  rintro v296 w296 ⟨c2, q2, h2, mv91, z296, rfl, hM1, rfl, g296⟩
  refine ne_ws lw_mg2 ?_
  obtain ⟨hk, hu, e7, e8, e9⟩ := cn_put g272 g296
  subst e7 e8 e9
  refine ne_istore X dL_law_299 (by decide) ?_
  refine ne_ll (L' := [some (.ref 0), some (.ref 1), some (.ref 13), some (.ref 20), some (ni _), some (ni _), some (ni _)]) rfl ?_
  refine ne_goto (tgt := 2324) X dL_law_301 rfl ?_
  refine ne_lnone 5 (ne_lnone 6 ?_)
  refine ne_ll (L' := [some (.ref 0), some (.ref 1), some (.ref 13), some (.ref 20), some (ni i), none, none]) rfl ?_
  refine ne_less (C' := C - 500) (S' := S - 3500) (by omega) (by omega) ?_
  exact kk _ _ _ _ _ _ _ _ _ _ _ _ hI1 hM1 hP hs
set_option maxRecDepth 100000 in
set_option maxHeartbeats 4000000 in
theorem lc_1 (hl : l.stackTraces = false) (X : ne_F nw_cl D ct A p l room_1 s9 m args meth c9 RL cL_law 7 nw_T 20 1000 600128 7301098) (hX : va_X b9 N9 xs s9 s9.heap) (hbl : b9 < s9.heap.size) (hbA : ¬ A b9) (hb0 : ad0 0 = b9) (i T : Int) (hi : 0 ≤ i ∧ i + 6 ≤ N9 ∧ N9 ≤ 384) (hT : 0 ≤ T ∧ T ≤ 100) (c q t b k n h x y  : Nat → Int) (mv9 u : Int) (sv : Value) (hI : cI c q t b k n h x y T) (hM : mI c q t b k h mv9 T) (hP : ∀ j : Nat, ne_per (t j) (b j) (n j)) (hs : sv = .null ∨ sv = .ref 21) (C S : Nat) (hC : 500 ≤ C) (hS : 3500 ≤ S) (kk : ∀ (c q t b k n h x y  : Nat → Int) (mv9 u : Int) (sv : Value), cI c q t b k n h x y (T + 1) → mI c q t b k h mv9 (T + 1) → (∀ j : Nat, ne_per (t j) (b j) (n j)) → (sv = .null ∨ sv = .ref 21) → ne_G nw_cl D ct A 1 ad0 p l e room_1 s9 m args below meth c9 Q9 7 600128 7301098 (C - 500) (S - 3500) 2324 [some (.ref 0), some (.ref 1), some (.ref 13), some (.ref 20), some (ni i), none, none] [] (lW c q t b k n h x y c q t b k h mv9 (nl u) sv)) : ne_G nw_cl D ct A 1 ad0 p l e room_1 s9 m args below meth c9 Q9 7 600128 7301098 C S 304 [some (.ref 0), some (.ref 1), some (.ref 13), some (.ref 20), some (ni i), none, none] [] (lW c q t b k n h x y c q t b k h mv9 (nl u) sv) := by
  obtain ⟨s8, hs8, rfl⟩ : ∃ s8 : Value, (s8 = .null ∨ s8 = .ref 13) ∧ sv = ne_rn [1, 2, 3, 4, 5, 6, 7, 8, 9, 10, 11, 12, 20, 21] 22 s8 := by
    rcases hs with rfl | rfl
    · exact ⟨.null, Or.inl rfl, rfl⟩
    · exact ⟨.ref 13, Or.inr rfl, rfl⟩
  have hcw : ∀ (c q t b k n h x y mc9 mq9 mt9 mb9 mk9 mh9 : Nat → Int) (mv9 u : Int), ne_cw 22 (lW c q t b k n h x y mc9 mq9 mt9 mb9 mk9 mh9 mv9 (nl u) (ne_rn [1, 2, 3, 4, 5, 6, 7, 8, 9, 10, 11, 12, 20, 21] 22 s8)) = true := by
    intros
    rcases hs8 with rfl | rfl <;> rfl
  refine ne_aload_n X dL_law_304 rfl ?_
  refine ne_aload_n X dL_law_305 rfl ?_
  refine ne_iload X dL_law_306 rfl ?_
  refine ne_iconst X dL_law_308 ?_
  refine ne_iadd X dL_law_309 ?_
  refine ne_sld X hX hbl hbA hb0 (by decide) (by omega) dL_law_310 (fun z310 e310 l310 r310 => ?_)
  refine ne_aload_n X dL_law_311 rfl ?_
  refine ne_iload X dL_law_312 rfl ?_
  refine ne_iconst X dL_law_314 ?_
  refine ne_iadd X dL_law_315 ?_
  refine ne_sld X hX hbl hbA hb0 (by decide) (by omega) dL_law_316 (fun z316 e316 l316 r316 => ?_)
  refine ne_if_eq (tgt := 324) X dL_law_317 rfl (by omega) (fun b317 => ?_) (fun b317 => ?_)
  · refine ne_iconst X dL_law_324 ?_
    refine ne_aload_n X dL_law_325 rfl ?_
    refine ne_iload X dL_law_326 rfl ?_
    refine ne_iconst X dL_law_328 ?_
    refine ne_iadd X dL_law_329 ?_
    refine ne_sld X hX hbl hbA hb0 (by decide) (by omega) dL_law_330 (fun z330 e330 l330 r330 => ?_)
    refine ne_aload_n X dL_law_331 rfl ?_
    refine ne_iload X dL_law_332 rfl ?_
    refine ne_iconst X dL_law_334 ?_
    refine ne_iadd X dL_law_335 ?_
    refine ne_sld X hX hbl hbA hb0 (by decide) (by omega) dL_law_336 (fun z336 e336 l336 r336 => ?_)
    refine ne_aload_n X dL_law_337 rfl ?_
    refine ne_iload X dL_law_338 rfl ?_
    refine ne_iconst X dL_law_340 ?_
    refine ne_iadd X dL_law_341 ?_
    refine ne_sld X hX hbl hbA hb0 (by decide) (by omega) dL_law_342 (fun z342 e342 l342 r342 => ?_)
    refine ne_aload_n X dL_law_343 rfl ?_
    refine ne_callSFW (is := [1, 2, 3, 4, 5, 6, 7, 8, 9, 10, 11, 12, 20, 21]) X nw_Tg (me_L_write l hl c q t b k n h x y T hI (by omega) u s8 hs8 _ _ _ _ _ (by omega) (by omega) (by omega) (by omega) (by omega)) nw_yL_write nw_mL_179 nw_sL_write dL_law_344 rfl rfl (by decide) (by decide) (by first | decide | omega) (by first | decide | omega) (Nat.le_of_ble_eq_true rfl) (hcw _ _ _ _ _ _ _ _ _ _ _ _ _ _ _ _ _) rfl rfl (Nat.le_of_ble_eq_true rfl) lw_pt1 ?_ ?_
    rotate_left
    · rintro E9 w9 h9; exact h9.elim
    rintro v344 w344 ⟨c1, q1, h1, u1, rfl, hI1, z344, rfl, g344⟩
    refine ne_ws lw_mg1 ?_
    refine ne_istore X dL_law_347 (by decide) ?_
    refine ne_aload_n X dL_law_349 rfl ?_
    refine ne_aload_n X dL_law_350 rfl ?_
    refine ne_iload X dL_law_351 rfl ?_
    refine ne_iconst X dL_law_353 ?_
    refine ne_iadd X dL_law_354 ?_
    refine ne_sld X hX hbl hbA hb0 (by decide) (by omega) dL_law_355 (fun z355 e355 l355 r355 => ?_)
    have y355 : z310 = z355 := e310.trans e355.symm
    subst y355
    refine ne_aload_n X dL_law_356 rfl ?_
    refine ne_iload X dL_law_357 rfl ?_
    refine ne_iconst X dL_law_359 ?_
    refine ne_iadd X dL_law_360 ?_
    refine ne_sld X hX hbl hbA hb0 (by decide) (by omega) dL_law_361 (fun z361 e361 l361 r361 => ?_)
    have y361 : z316 = z361 := e316.trans e361.symm
    subst y361
    refine ne_if_eq (tgt := 369) X dL_law_362 rfl (by omega) (fun b362 => ?_) (fun b362 => ?_)
    · refine ne_iconst X dL_law_369 ?_
      refine ne_aload_n X dL_law_370 rfl ?_
      refine ne_iload X dL_law_371 rfl ?_
      refine ne_iconst X dL_law_373 ?_
      refine ne_iadd X dL_law_374 ?_
      refine ne_sld X hX hbl hbA hb0 (by decide) (by omega) dL_law_375 (fun z375 e375 l375 r375 => ?_)
      have y375 : z330 = z375 := e330.trans e375.symm
      subst y375
      refine ne_aload_n X dL_law_376 rfl ?_
      refine ne_iload X dL_law_377 rfl ?_
      refine ne_iconst X dL_law_379 ?_
      refine ne_iadd X dL_law_380 ?_
      refine ne_sld X hX hbl hbA hb0 (by decide) (by omega) dL_law_381 (fun z381 e381 l381 r381 => ?_)
      have y381 : z336 = z381 := e336.trans e381.symm
      subst y381
      refine ne_aload_n X dL_law_382 rfl ?_
      refine ne_iload X dL_law_383 rfl ?_
      refine ne_iconst X dL_law_385 ?_
      refine ne_iadd X dL_law_386 ?_
      refine ne_sld X hX hbl hbA hb0 (by decide) (by omega) dL_law_387 (fun z387 e387 l387 r387 => ?_)
      have y387 : z342 = z387 := e342.trans e387.symm
      subst y387
      refine ne_callVF (is := [13, 14, 15, 16, 17, 18, 19]) X nw_Tg (me_X3_writeW l hl c q t b k h mv9 T hM (by omega) _ _ _ _ _ (by omega) (by omega) (by omega) (by omega) (by omega)) nw_yX3_write nw_mL_182 nw_iX3_write nw_eX3_write (ci := 5) rfl rfl rfl dL_law_388 rfl rfl (by decide) (by decide) (by first | decide | omega) (by first | decide | omega) (Nat.le_of_ble_eq_true rfl) (hcw _ _ _ _ _ _ _ _ _ _ _ _ _ _ _ _ _) rfl rfl (Nat.le_of_ble_eq_true rfl) lw_pt2 ?_ ?_
      rotate_left
      · rintro E9 w9 h9; exact h9.elim
      rintro v388 w388 ⟨c2, q2, h2, mv91, z388, rfl, hM1, rfl, g388⟩
      refine ne_ws lw_mg2 ?_
      obtain ⟨hk, hu, e7, e8, e9⟩ := cn_write g344 g388
      subst e7 e8 e9
      refine ne_istore X dL_law_391 (by decide) ?_
      refine ne_ll (L' := [some (.ref 0), some (.ref 1), some (.ref 13), some (.ref 20), some (ni _), some (ni _), some (ni _)]) rfl ?_
      refine ne_goto (tgt := 2324) X dL_law_393 rfl ?_
      refine ne_lnone 5 (ne_lnone 6 ?_)
      refine ne_ll (L' := [some (.ref 0), some (.ref 1), some (.ref 13), some (.ref 20), some (ni i), none, none]) rfl ?_
      refine ne_less (C' := C - 500) (S' := S - 3500) (by omega) (by omega) ?_
      exact kk _ _ _ _ _ _ _ _ _ _ _ _ hI1 hM1 hP hs
    · exfalso; omega
  · refine ne_iconst X dL_law_320 ?_
    refine ne_goto (tgt := 325) X dL_law_321 rfl ?_
    refine ne_aload_n X dL_law_325 rfl ?_
    refine ne_iload X dL_law_326 rfl ?_
    refine ne_iconst X dL_law_328 ?_
    refine ne_iadd X dL_law_329 ?_
    refine ne_sld X hX hbl hbA hb0 (by decide) (by omega) dL_law_330 (fun z330 e330 l330 r330 => ?_)
    refine ne_aload_n X dL_law_331 rfl ?_
    refine ne_iload X dL_law_332 rfl ?_
    refine ne_iconst X dL_law_334 ?_
    refine ne_iadd X dL_law_335 ?_
    refine ne_sld X hX hbl hbA hb0 (by decide) (by omega) dL_law_336 (fun z336 e336 l336 r336 => ?_)
    refine ne_aload_n X dL_law_337 rfl ?_
    refine ne_iload X dL_law_338 rfl ?_
    refine ne_iconst X dL_law_340 ?_
    refine ne_iadd X dL_law_341 ?_
    refine ne_sld X hX hbl hbA hb0 (by decide) (by omega) dL_law_342 (fun z342 e342 l342 r342 => ?_)
    refine ne_aload_n X dL_law_343 rfl ?_
    refine ne_callSFW (is := [1, 2, 3, 4, 5, 6, 7, 8, 9, 10, 11, 12, 20, 21]) X nw_Tg (me_L_write l hl c q t b k n h x y T hI (by omega) u s8 hs8 _ _ _ _ _ (by omega) (by omega) (by omega) (by omega) (by omega)) nw_yL_write nw_mL_179 nw_sL_write dL_law_344 rfl rfl (by decide) (by decide) (by first | decide | omega) (by first | decide | omega) (Nat.le_of_ble_eq_true rfl) (hcw _ _ _ _ _ _ _ _ _ _ _ _ _ _ _ _ _) rfl rfl (Nat.le_of_ble_eq_true rfl) lw_pt1 ?_ ?_
    rotate_left
    · rintro E9 w9 h9; exact h9.elim
    rintro v344 w344 ⟨c1, q1, h1, u1, rfl, hI1, z344, rfl, g344⟩
    refine ne_ws lw_mg1 ?_
    refine ne_istore X dL_law_347 (by decide) ?_
    refine ne_aload_n X dL_law_349 rfl ?_
    refine ne_aload_n X dL_law_350 rfl ?_
    refine ne_iload X dL_law_351 rfl ?_
    refine ne_iconst X dL_law_353 ?_
    refine ne_iadd X dL_law_354 ?_
    refine ne_sld X hX hbl hbA hb0 (by decide) (by omega) dL_law_355 (fun z355 e355 l355 r355 => ?_)
    have y355 : z310 = z355 := e310.trans e355.symm
    subst y355
    refine ne_aload_n X dL_law_356 rfl ?_
    refine ne_iload X dL_law_357 rfl ?_
    refine ne_iconst X dL_law_359 ?_
    refine ne_iadd X dL_law_360 ?_
    refine ne_sld X hX hbl hbA hb0 (by decide) (by omega) dL_law_361 (fun z361 e361 l361 r361 => ?_)
    have y361 : z316 = z361 := e316.trans e361.symm
    subst y361
    refine ne_if_eq (tgt := 369) X dL_law_362 rfl (by omega) (fun b362 => ?_) (fun b362 => ?_)
    · exfalso; omega
    · refine ne_iconst X dL_law_365 ?_
      refine ne_goto (tgt := 370) X dL_law_366 rfl ?_
      refine ne_aload_n X dL_law_370 rfl ?_
      refine ne_iload X dL_law_371 rfl ?_
      refine ne_iconst X dL_law_373 ?_
      refine ne_iadd X dL_law_374 ?_
      refine ne_sld X hX hbl hbA hb0 (by decide) (by omega) dL_law_375 (fun z375 e375 l375 r375 => ?_)
      have y375 : z330 = z375 := e330.trans e375.symm
      subst y375
      refine ne_aload_n X dL_law_376 rfl ?_
      refine ne_iload X dL_law_377 rfl ?_
      refine ne_iconst X dL_law_379 ?_
      refine ne_iadd X dL_law_380 ?_
      refine ne_sld X hX hbl hbA hb0 (by decide) (by omega) dL_law_381 (fun z381 e381 l381 r381 => ?_)
      have y381 : z336 = z381 := e336.trans e381.symm
      subst y381
      refine ne_aload_n X dL_law_382 rfl ?_
      refine ne_iload X dL_law_383 rfl ?_
      refine ne_iconst X dL_law_385 ?_
      refine ne_iadd X dL_law_386 ?_
      refine ne_sld X hX hbl hbA hb0 (by decide) (by omega) dL_law_387 (fun z387 e387 l387 r387 => ?_)
      have y387 : z342 = z387 := e342.trans e387.symm
      subst y387
      refine ne_callVF (is := [13, 14, 15, 16, 17, 18, 19]) X nw_Tg (me_X3_writeW l hl c q t b k h mv9 T hM (by omega) _ _ _ _ _ (by omega) (by omega) (by omega) (by omega) (by omega)) nw_yX3_write nw_mL_182 nw_iX3_write nw_eX3_write (ci := 5) rfl rfl rfl dL_law_388 rfl rfl (by decide) (by decide) (by first | decide | omega) (by first | decide | omega) (Nat.le_of_ble_eq_true rfl) (hcw _ _ _ _ _ _ _ _ _ _ _ _ _ _ _ _ _) rfl rfl (Nat.le_of_ble_eq_true rfl) lw_pt2 ?_ ?_
      rotate_left
      · rintro E9 w9 h9; exact h9.elim
      rintro v388 w388 ⟨c2, q2, h2, mv91, z388, rfl, hM1, rfl, g388⟩
      refine ne_ws lw_mg2 ?_
      obtain ⟨hk, hu, e7, e8, e9⟩ := cn_write g344 g388
      subst e7 e8 e9
      refine ne_istore X dL_law_391 (by decide) ?_
      refine ne_ll (L' := [some (.ref 0), some (.ref 1), some (.ref 13), some (.ref 20), some (ni _), some (ni _), some (ni _)]) rfl ?_
      refine ne_goto (tgt := 2324) X dL_law_393 rfl ?_
      refine ne_lnone 5 (ne_lnone 6 ?_)
      refine ne_ll (L' := [some (.ref 0), some (.ref 1), some (.ref 13), some (.ref 20), some (ni i), none, none]) rfl ?_
      refine ne_less (C' := C - 500) (S' := S - 3500) (by omega) (by omega) ?_
      exact kk _ _ _ _ _ _ _ _ _ _ _ _ hI1 hM1 hP hs
set_option maxRecDepth 100000 in
set_option maxHeartbeats 4000000 in
theorem lc_2 (hl : l.stackTraces = false) (X : ne_F nw_cl D ct A p l room_1 s9 m args meth c9 RL cL_law 7 nw_T 20 1000 600128 7301098) (hX : va_X b9 N9 xs s9 s9.heap) (hbl : b9 < s9.heap.size) (hbA : ¬ A b9) (hb0 : ad0 0 = b9) (i T : Int) (hi : 0 ≤ i ∧ i + 6 ≤ N9 ∧ N9 ≤ 384) (hT : 0 ≤ T ∧ T ≤ 100) (c q t b k n h x y  : Nat → Int) (mv9 u : Int) (sv : Value) (hI : cI c q t b k n h x y T) (hM : mI c q t b k h mv9 T) (hP : ∀ j : Nat, ne_per (t j) (b j) (n j)) (hs : sv = .null ∨ sv = .ref 21) (C S : Nat) (hC : 500 ≤ C) (hS : 3500 ≤ S) (kk : ∀ (c q t b k n h x y  : Nat → Int) (mv9 u : Int) (sv : Value), cI c q t b k n h x y (T + 1) → mI c q t b k h mv9 (T + 1) → (∀ j : Nat, ne_per (t j) (b j) (n j)) → (sv = .null ∨ sv = .ref 21) → ne_G nw_cl D ct A 1 ad0 p l e room_1 s9 m args below meth c9 Q9 7 600128 7301098 (C - 500) (S - 3500) 2324 [some (.ref 0), some (.ref 1), some (.ref 13), some (.ref 20), some (ni i), none, none] [] (lW c q t b k n h x y c q t b k h mv9 (nl u) sv)) : ne_G nw_cl D ct A 1 ad0 p l e room_1 s9 m args below meth c9 Q9 7 600128 7301098 C S 396 [some (.ref 0), some (.ref 1), some (.ref 13), some (.ref 20), some (ni i), none, none] [] (lW c q t b k n h x y c q t b k h mv9 (nl u) sv) := by
  obtain ⟨s8, hs8, rfl⟩ : ∃ s8 : Value, (s8 = .null ∨ s8 = .ref 13) ∧ sv = ne_rn [1, 2, 3, 4, 5, 6, 7, 8, 9, 10, 11, 12, 20, 21] 22 s8 := by
    rcases hs with rfl | rfl
    · exact ⟨.null, Or.inl rfl, rfl⟩
    · exact ⟨.ref 13, Or.inr rfl, rfl⟩
  have hcw : ∀ (c q t b k n h x y mc9 mq9 mt9 mb9 mk9 mh9 : Nat → Int) (mv9 u : Int), ne_cw 22 (lW c q t b k n h x y mc9 mq9 mt9 mb9 mk9 mh9 mv9 (nl u) (ne_rn [1, 2, 3, 4, 5, 6, 7, 8, 9, 10, 11, 12, 20, 21] 22 s8)) = true := by
    intros
    rcases hs8 with rfl | rfl <;> rfl
  refine ne_aload_n X dL_law_396 rfl ?_
  refine ne_aload_n X dL_law_397 rfl ?_
  refine ne_iload X dL_law_398 rfl ?_
  refine ne_iconst X dL_law_400 ?_
  refine ne_iadd X dL_law_401 ?_
  refine ne_sld X hX hbl hbA hb0 (by decide) (by omega) dL_law_402 (fun z402 e402 l402 r402 => ?_)
  refine ne_aload_n X dL_law_403 rfl ?_
  refine ne_iload X dL_law_404 rfl ?_
  refine ne_iconst X dL_law_406 ?_
  refine ne_iadd X dL_law_407 ?_
  refine ne_sld X hX hbl hbA hb0 (by decide) (by omega) dL_law_408 (fun z408 e408 l408 r408 => ?_)
  refine ne_aload_n X dL_law_409 rfl ?_
  refine ne_callSFW (is := [1, 2, 3, 4, 5, 6, 7, 8, 9, 10, 11, 12, 20, 21]) X nw_Tg (me_L_copy l hl c q t b k n h x y T hI (by omega) u s8 hs8 _ _ (by omega) (by omega)) nw_yL_copy nw_mL_183 nw_sL_copy dL_law_410 rfl rfl (by decide) (by decide) (by first | decide | omega) (by first | decide | omega) (Nat.le_of_ble_eq_true rfl) (hcw _ _ _ _ _ _ _ _ _ _ _ _ _ _ _ _ _) rfl rfl (Nat.le_of_ble_eq_true rfl) lw_pt1 ?_ ?_
  rotate_left
  · rintro E9 w9 h9; exact h9.elim
  rintro v410 w410 ⟨c1, q1, h1, u1, rfl, hI1, z410, rfl, g410⟩
  refine ne_ws lw_mg1 ?_
  refine ne_istore X dL_law_413 (by decide) ?_
  refine ne_aload_n X dL_law_415 rfl ?_
  refine ne_aload_n X dL_law_416 rfl ?_
  refine ne_iload X dL_law_417 rfl ?_
  refine ne_iconst X dL_law_419 ?_
  refine ne_iadd X dL_law_420 ?_
  refine ne_sld X hX hbl hbA hb0 (by decide) (by omega) dL_law_421 (fun z421 e421 l421 r421 => ?_)
  have y421 : z402 = z421 := e402.trans e421.symm
  subst y421
  refine ne_aload_n X dL_law_422 rfl ?_
  refine ne_iload X dL_law_423 rfl ?_
  refine ne_iconst X dL_law_425 ?_
  refine ne_iadd X dL_law_426 ?_
  refine ne_sld X hX hbl hbA hb0 (by decide) (by omega) dL_law_427 (fun z427 e427 l427 r427 => ?_)
  have y427 : z408 = z427 := e408.trans e427.symm
  subst y427
  refine ne_callVF (is := [13, 14, 15, 16, 17, 18, 19]) X nw_Tg (me_X3_copyW l hl c q t b k h mv9 T hM (by omega) _ _ (by omega) (by omega)) nw_yX3_copy nw_mL_186 nw_iX3_copy nw_eX3_copy (ci := 5) rfl rfl rfl dL_law_428 rfl rfl (by decide) (by decide) (by first | decide | omega) (by first | decide | omega) (Nat.le_of_ble_eq_true rfl) (hcw _ _ _ _ _ _ _ _ _ _ _ _ _ _ _ _ _) rfl rfl (Nat.le_of_ble_eq_true rfl) lw_pt2 ?_ ?_
  rotate_left
  · rintro E9 w9 h9; exact h9.elim
  rintro v428 w428 ⟨c2, q2, h2, mv91, z428, rfl, hM1, rfl, g428⟩
  refine ne_ws lw_mg2 ?_
  obtain ⟨hk, hu, e7, e8, e9⟩ := cn_copy g410 g428
  subst e7 e8 e9
  refine ne_istore X dL_law_431 (by decide) ?_
  refine ne_ll (L' := [some (.ref 0), some (.ref 1), some (.ref 13), some (.ref 20), some (ni _), some (ni _), some (ni _)]) rfl ?_
  refine ne_goto (tgt := 2324) X dL_law_433 rfl ?_
  refine ne_lnone 5 (ne_lnone 6 ?_)
  refine ne_ll (L' := [some (.ref 0), some (.ref 1), some (.ref 13), some (.ref 20), some (ni i), none, none]) rfl ?_
  refine ne_less (C' := C - 500) (S' := S - 3500) (by omega) (by omega) ?_
  exact kk _ _ _ _ _ _ _ _ _ _ _ _ hI1 hM1 hP hs
set_option maxRecDepth 100000 in
set_option maxHeartbeats 4000000 in
theorem lc_3 (hl : l.stackTraces = false) (X : ne_F nw_cl D ct A p l room_1 s9 m args meth c9 RL cL_law 7 nw_T 20 1000 600128 7301098) (hX : va_X b9 N9 xs s9 s9.heap) (hbl : b9 < s9.heap.size) (hbA : ¬ A b9) (hb0 : ad0 0 = b9) (i T : Int) (hi : 0 ≤ i ∧ i + 6 ≤ N9 ∧ N9 ≤ 384) (hT : 0 ≤ T ∧ T ≤ 100) (c q t b k n h x y  : Nat → Int) (mv9 u : Int) (sv : Value) (hI : cI c q t b k n h x y T) (hM : mI c q t b k h mv9 T) (hP : ∀ j : Nat, ne_per (t j) (b j) (n j)) (hs : sv = .null ∨ sv = .ref 21) (C S : Nat) (hC : 500 ≤ C) (hS : 3500 ≤ S) (kk : ∀ (c q t b k n h x y  : Nat → Int) (mv9 u : Int) (sv : Value), cI c q t b k n h x y (T + 1) → mI c q t b k h mv9 (T + 1) → (∀ j : Nat, ne_per (t j) (b j) (n j)) → (sv = .null ∨ sv = .ref 21) → ne_G nw_cl D ct A 1 ad0 p l e room_1 s9 m args below meth c9 Q9 7 600128 7301098 (C - 500) (S - 3500) 2324 [some (.ref 0), some (.ref 1), some (.ref 13), some (.ref 20), some (ni i), none, none] [] (lW c q t b k n h x y c q t b k h mv9 (nl u) sv)) : ne_G nw_cl D ct A 1 ad0 p l e room_1 s9 m args below meth c9 Q9 7 600128 7301098 C S 436 [some (.ref 0), some (.ref 1), some (.ref 13), some (.ref 20), some (ni i), none, none] [] (lW c q t b k n h x y c q t b k h mv9 (nl u) sv) := by
  obtain ⟨s8, hs8, rfl⟩ : ∃ s8 : Value, (s8 = .null ∨ s8 = .ref 13) ∧ sv = ne_rn [1, 2, 3, 4, 5, 6, 7, 8, 9, 10, 11, 12, 20, 21] 22 s8 := by
    rcases hs with rfl | rfl
    · exact ⟨.null, Or.inl rfl, rfl⟩
    · exact ⟨.ref 13, Or.inr rfl, rfl⟩
  have hcw : ∀ (c q t b k n h x y mc9 mq9 mt9 mb9 mk9 mh9 : Nat → Int) (mv9 u : Int), ne_cw 22 (lW c q t b k n h x y mc9 mq9 mt9 mb9 mk9 mh9 mv9 (nl u) (ne_rn [1, 2, 3, 4, 5, 6, 7, 8, 9, 10, 11, 12, 20, 21] 22 s8)) = true := by
    intros
    rcases hs8 with rfl | rfl <;> rfl
  refine ne_aload_n X dL_law_436 rfl ?_
  refine ne_aload_n X dL_law_437 rfl ?_
  refine ne_iload X dL_law_438 rfl ?_
  refine ne_iconst X dL_law_440 ?_
  refine ne_iadd X dL_law_441 ?_
  refine ne_sld X hX hbl hbA hb0 (by decide) (by omega) dL_law_442 (fun z442 e442 l442 r442 => ?_)
  refine ne_aload_n X dL_law_443 rfl ?_
  refine ne_callSFW (is := [1, 2, 3, 4, 5, 6, 7, 8, 9, 10, 11, 12, 20, 21]) X nw_Tg (me_L_negate l hl c q t b k n h x y T hI (by omega) u s8 hs8 _ (by omega)) nw_yL_negate nw_mL_187 nw_sL_negate dL_law_444 rfl rfl (by decide) (by decide) (by first | decide | omega) (by first | decide | omega) (Nat.le_of_ble_eq_true rfl) (hcw _ _ _ _ _ _ _ _ _ _ _ _ _ _ _ _ _) rfl rfl (Nat.le_of_ble_eq_true rfl) lw_pt1 ?_ ?_
  rotate_left
  · rintro E9 w9 h9; exact h9.elim
  rintro v444 w444 ⟨c1, q1, h1, u1, rfl, hI1, z444, rfl, g444⟩
  refine ne_ws lw_mg1 ?_
  refine ne_istore X dL_law_447 (by decide) ?_
  refine ne_aload_n X dL_law_449 rfl ?_
  refine ne_aload_n X dL_law_450 rfl ?_
  refine ne_iload X dL_law_451 rfl ?_
  refine ne_iconst X dL_law_453 ?_
  refine ne_iadd X dL_law_454 ?_
  refine ne_sld X hX hbl hbA hb0 (by decide) (by omega) dL_law_455 (fun z455 e455 l455 r455 => ?_)
  have y455 : z442 = z455 := e442.trans e455.symm
  subst y455
  refine ne_callVF (is := [13, 14, 15, 16, 17, 18, 19]) X nw_Tg (me_X3_negateW l hl c q t b k h mv9 T hM (by omega) _ (by omega)) nw_yX3_negate nw_mL_190 nw_iX3_negate nw_eX3_negate (ci := 5) rfl rfl rfl dL_law_456 rfl rfl (by decide) (by decide) (by first | decide | omega) (by first | decide | omega) (Nat.le_of_ble_eq_true rfl) (hcw _ _ _ _ _ _ _ _ _ _ _ _ _ _ _ _ _) rfl rfl (Nat.le_of_ble_eq_true rfl) lw_pt2 ?_ ?_
  rotate_left
  · rintro E9 w9 h9; exact h9.elim
  rintro v456 w456 ⟨c2, q2, h2, mv91, z456, rfl, hM1, rfl, g456⟩
  refine ne_ws lw_mg2 ?_
  obtain ⟨hk, hu, e7, e8, e9⟩ := cn_negate g444 g456
  subst e7 e8 e9
  refine ne_istore X dL_law_459 (by decide) ?_
  refine ne_ll (L' := [some (.ref 0), some (.ref 1), some (.ref 13), some (.ref 20), some (ni _), some (ni _), some (ni _)]) rfl ?_
  refine ne_goto (tgt := 2324) X dL_law_461 rfl ?_
  refine ne_lnone 5 (ne_lnone 6 ?_)
  refine ne_ll (L' := [some (.ref 0), some (.ref 1), some (.ref 13), some (.ref 20), some (ni i), none, none]) rfl ?_
  refine ne_less (C' := C - 500) (S' := S - 3500) (by omega) (by omega) ?_
  exact kk _ _ _ _ _ _ _ _ _ _ _ _ hI1 hM1 hP hs
set_option maxRecDepth 100000 in
set_option maxHeartbeats 4000000 in
theorem lc_4 (hl : l.stackTraces = false) (X : ne_F nw_cl D ct A p l room_1 s9 m args meth c9 RL cL_law 7 nw_T 20 1000 600128 7301098) (hX : va_X b9 N9 xs s9 s9.heap) (hbl : b9 < s9.heap.size) (hbA : ¬ A b9) (hb0 : ad0 0 = b9) (i T : Int) (hi : 0 ≤ i ∧ i + 6 ≤ N9 ∧ N9 ≤ 384) (hT : 0 ≤ T ∧ T ≤ 100) (c q t b k n h x y  : Nat → Int) (mv9 u : Int) (sv : Value) (hI : cI c q t b k n h x y T) (hM : mI c q t b k h mv9 T) (hP : ∀ j : Nat, ne_per (t j) (b j) (n j)) (hs : sv = .null ∨ sv = .ref 21) (C S : Nat) (hC : 500 ≤ C) (hS : 3500 ≤ S) (kk : ∀ (c q t b k n h x y  : Nat → Int) (mv9 u : Int) (sv : Value), cI c q t b k n h x y (T + 1) → mI c q t b k h mv9 (T + 1) → (∀ j : Nat, ne_per (t j) (b j) (n j)) → (sv = .null ∨ sv = .ref 21) → ne_G nw_cl D ct A 1 ad0 p l e room_1 s9 m args below meth c9 Q9 7 600128 7301098 (C - 500) (S - 3500) 2324 [some (.ref 0), some (.ref 1), some (.ref 13), some (.ref 20), some (ni i), none, none] [] (lW c q t b k n h x y c q t b k h mv9 (nl u) sv)) : ne_G nw_cl D ct A 1 ad0 p l e room_1 s9 m args below meth c9 Q9 7 600128 7301098 C S 464 [some (.ref 0), some (.ref 1), some (.ref 13), some (.ref 20), some (ni i), none, none] [] (lW c q t b k n h x y c q t b k h mv9 (nl u) sv) := by
  obtain ⟨s8, hs8, rfl⟩ : ∃ s8 : Value, (s8 = .null ∨ s8 = .ref 13) ∧ sv = ne_rn [1, 2, 3, 4, 5, 6, 7, 8, 9, 10, 11, 12, 20, 21] 22 s8 := by
    rcases hs with rfl | rfl
    · exact ⟨.null, Or.inl rfl, rfl⟩
    · exact ⟨.ref 13, Or.inr rfl, rfl⟩
  have hcw : ∀ (c q t b k n h x y mc9 mq9 mt9 mb9 mk9 mh9 : Nat → Int) (mv9 u : Int), ne_cw 22 (lW c q t b k n h x y mc9 mq9 mt9 mb9 mk9 mh9 mv9 (nl u) (ne_rn [1, 2, 3, 4, 5, 6, 7, 8, 9, 10, 11, 12, 20, 21] 22 s8)) = true := by
    intros
    rcases hs8 with rfl | rfl <;> rfl
  refine ne_aload_n X dL_law_464 rfl ?_
  refine ne_aload_n X dL_law_465 rfl ?_
  refine ne_iload X dL_law_466 rfl ?_
  refine ne_iconst X dL_law_468 ?_
  refine ne_iadd X dL_law_469 ?_
  refine ne_sld X hX hbl hbA hb0 (by decide) (by omega) dL_law_470 (fun z470 e470 l470 r470 => ?_)
  refine ne_aload_n X dL_law_471 rfl ?_
  refine ne_callSFW (is := [1, 2, 3, 4, 5, 6, 7, 8, 9, 10, 11, 12, 20, 21]) X nw_Tg (me_L_size l hl c q t b k n h x y T hI (by omega) u s8 hs8 _ (by omega)) nw_yL_size nw_mL_191 nw_sL_size dL_law_472 rfl rfl (by decide) (by decide) (by first | decide | omega) (by first | decide | omega) (Nat.le_of_ble_eq_true rfl) (hcw _ _ _ _ _ _ _ _ _ _ _ _ _ _ _ _ _) rfl rfl (Nat.le_of_ble_eq_true rfl) lw_pt1 ?_ ?_
  rotate_left
  · rintro E9 w9 h9; exact h9.elim
  rintro v472 w472 ⟨c1, q1, h1, u1, rfl, hI1, z472, rfl, g472⟩
  refine ne_ws lw_mg1 ?_
  refine ne_istore X dL_law_475 (by decide) ?_
  refine ne_aload_n X dL_law_477 rfl ?_
  refine ne_aload_n X dL_law_478 rfl ?_
  refine ne_iload X dL_law_479 rfl ?_
  refine ne_iconst X dL_law_481 ?_
  refine ne_iadd X dL_law_482 ?_
  refine ne_sld X hX hbl hbA hb0 (by decide) (by omega) dL_law_483 (fun z483 e483 l483 r483 => ?_)
  have y483 : z470 = z483 := e470.trans e483.symm
  subst y483
  refine ne_callVF (is := [13, 14, 15, 16, 17, 18, 19]) X nw_Tg (me_X3_sizeW l hl c q t b k h mv9 T hM (by omega) _ (by omega)) nw_yX3_size nw_mL_193 nw_iX3_size nw_eX3_size (ci := 5) rfl rfl rfl dL_law_484 rfl rfl (by decide) (by decide) (by first | decide | omega) (by first | decide | omega) (Nat.le_of_ble_eq_true rfl) (hcw _ _ _ _ _ _ _ _ _ _ _ _ _ _ _ _ _) rfl rfl (Nat.le_of_ble_eq_true rfl) lw_pt2 ?_ ?_
  rotate_left
  · rintro E9 w9 h9; exact h9.elim
  rintro v484 w484 ⟨c2, q2, h2, mv91, z484, rfl, hM1, rfl, g484⟩
  refine ne_ws lw_mg2 ?_
  obtain ⟨hk, hu, e7, e8, e9⟩ := cn_size g472 g484
  subst e7 e8 e9
  refine ne_istore X dL_law_487 (by decide) ?_
  refine ne_ll (L' := [some (.ref 0), some (.ref 1), some (.ref 13), some (.ref 20), some (ni _), some (ni _), some (ni _)]) rfl ?_
  refine ne_goto (tgt := 2324) X dL_law_489 rfl ?_
  refine ne_lnone 5 (ne_lnone 6 ?_)
  refine ne_ll (L' := [some (.ref 0), some (.ref 1), some (.ref 13), some (.ref 20), some (ni i), none, none]) rfl ?_
  refine ne_less (C' := C - 500) (S' := S - 3500) (by omega) (by omega) ?_
  exact kk _ _ _ _ _ _ _ _ _ _ _ _ hI1 hM1 hP hs
set_option maxRecDepth 100000 in
set_option maxHeartbeats 4000000 in
theorem lc_5 (hl : l.stackTraces = false) (X : ne_F nw_cl D ct A p l room_1 s9 m args meth c9 RL cL_law 7 nw_T 20 1000 600128 7301098) (hX : va_X b9 N9 xs s9 s9.heap) (hbl : b9 < s9.heap.size) (hbA : ¬ A b9) (hb0 : ad0 0 = b9) (i T : Int) (hi : 0 ≤ i ∧ i + 6 ≤ N9 ∧ N9 ≤ 384) (hT : 0 ≤ T ∧ T ≤ 100) (c q t b k n h x y  : Nat → Int) (mv9 u : Int) (sv : Value) (hI : cI c q t b k n h x y T) (hM : mI c q t b k h mv9 T) (hP : ∀ j : Nat, ne_per (t j) (b j) (n j)) (hs : sv = .null ∨ sv = .ref 21) (C S : Nat) (hC : 500 ≤ C) (hS : 3500 ≤ S) (kk : ∀ (c q t b k n h x y  : Nat → Int) (mv9 u : Int) (sv : Value), cI c q t b k n h x y (T + 1) → mI c q t b k h mv9 (T + 1) → (∀ j : Nat, ne_per (t j) (b j) (n j)) → (sv = .null ∨ sv = .ref 21) → ne_G nw_cl D ct A 1 ad0 p l e room_1 s9 m args below meth c9 Q9 7 600128 7301098 (C - 500) (S - 3500) 2324 [some (.ref 0), some (.ref 1), some (.ref 13), some (.ref 20), some (ni i), none, none] [] (lW c q t b k n h x y c q t b k h mv9 (nl u) sv)) : ne_G nw_cl D ct A 1 ad0 p l e room_1 s9 m args below meth c9 Q9 7 600128 7301098 C S 492 [some (.ref 0), some (.ref 1), some (.ref 13), some (.ref 20), some (ni i), none, none] [] (lW c q t b k n h x y c q t b k h mv9 (nl u) sv) := by
  obtain ⟨s8, hs8, rfl⟩ : ∃ s8 : Value, (s8 = .null ∨ s8 = .ref 13) ∧ sv = ne_rn [1, 2, 3, 4, 5, 6, 7, 8, 9, 10, 11, 12, 20, 21] 22 s8 := by
    rcases hs with rfl | rfl
    · exact ⟨.null, Or.inl rfl, rfl⟩
    · exact ⟨.ref 13, Or.inr rfl, rfl⟩
  have hcw : ∀ (c q t b k n h x y mc9 mq9 mt9 mb9 mk9 mh9 : Nat → Int) (mv9 u : Int), ne_cw 22 (lW c q t b k n h x y mc9 mq9 mt9 mb9 mk9 mh9 mv9 (nl u) (ne_rn [1, 2, 3, 4, 5, 6, 7, 8, 9, 10, 11, 12, 20, 21] 22 s8)) = true := by
    intros
    rcases hs8 with rfl | rfl <;> rfl
  refine ne_aload_n X dL_law_492 rfl ?_
  refine ne_aload_n X dL_law_493 rfl ?_
  refine ne_iload X dL_law_494 rfl ?_
  refine ne_iconst X dL_law_496 ?_
  refine ne_iadd X dL_law_497 ?_
  refine ne_sld X hX hbl hbA hb0 (by decide) (by omega) dL_law_498 (fun z498 e498 l498 r498 => ?_)
  refine ne_aload_n X dL_law_499 rfl ?_
  refine ne_iload X dL_law_500 rfl ?_
  refine ne_iconst X dL_law_502 ?_
  refine ne_iadd X dL_law_503 ?_
  refine ne_sld X hX hbl hbA hb0 (by decide) (by omega) dL_law_504 (fun z504 e504 l504 r504 => ?_)
  refine ne_aload_n X dL_law_505 rfl ?_
  refine ne_iload X dL_law_506 rfl ?_
  refine ne_iconst X dL_law_508 ?_
  refine ne_iadd X dL_law_509 ?_
  refine ne_sld X hX hbl hbA hb0 (by decide) (by omega) dL_law_510 (fun z510 e510 l510 r510 => ?_)
  refine ne_aload_n X dL_law_511 rfl ?_
  refine ne_callSFW (is := [1, 2, 3, 4, 5, 6, 7, 8, 9, 10, 11, 12, 20, 21]) X nw_Tg (me_L_add l hl c q t b k n h x y T hI (by omega) u s8 hs8 _ _ _ (by omega) (by omega) (by omega)) nw_yL_add nw_mL_194 nw_sL_add dL_law_512 rfl rfl (by decide) (by decide) (by first | decide | omega) (by first | decide | omega) (Nat.le_of_ble_eq_true rfl) (hcw _ _ _ _ _ _ _ _ _ _ _ _ _ _ _ _ _) rfl rfl (Nat.le_of_ble_eq_true rfl) lw_pt1 ?_ ?_
  rotate_left
  · rintro E9 w9 h9; exact h9.elim
  rintro v512 w512 ⟨c1, q1, h1, u1, rfl, hI1, z512, rfl, g512⟩
  refine ne_ws lw_mg1 ?_
  refine ne_istore X dL_law_515 (by decide) ?_
  refine ne_aload_n X dL_law_517 rfl ?_
  refine ne_aload_n X dL_law_518 rfl ?_
  refine ne_iload X dL_law_519 rfl ?_
  refine ne_iconst X dL_law_521 ?_
  refine ne_iadd X dL_law_522 ?_
  refine ne_sld X hX hbl hbA hb0 (by decide) (by omega) dL_law_523 (fun z523 e523 l523 r523 => ?_)
  have y523 : z498 = z523 := e498.trans e523.symm
  subst y523
  refine ne_aload_n X dL_law_524 rfl ?_
  refine ne_iload X dL_law_525 rfl ?_
  refine ne_iconst X dL_law_527 ?_
  refine ne_iadd X dL_law_528 ?_
  refine ne_sld X hX hbl hbA hb0 (by decide) (by omega) dL_law_529 (fun z529 e529 l529 r529 => ?_)
  have y529 : z504 = z529 := e504.trans e529.symm
  subst y529
  refine ne_aload_n X dL_law_530 rfl ?_
  refine ne_iload X dL_law_531 rfl ?_
  refine ne_iconst X dL_law_533 ?_
  refine ne_iadd X dL_law_534 ?_
  refine ne_sld X hX hbl hbA hb0 (by decide) (by omega) dL_law_535 (fun z535 e535 l535 r535 => ?_)
  have y535 : z510 = z535 := e510.trans e535.symm
  subst y535
  refine ne_callVF (is := [13, 14, 15, 16, 17, 18, 19]) X nw_Tg (me_X3_addW l hl c q t b k h mv9 T hM (by omega) _ _ _ (by omega) (by omega) (by omega)) nw_yX3_add nw_mL_196 nw_iX3_add nw_eX3_add (ci := 5) rfl rfl rfl dL_law_536 rfl rfl (by decide) (by decide) (by first | decide | omega) (by first | decide | omega) (Nat.le_of_ble_eq_true rfl) (hcw _ _ _ _ _ _ _ _ _ _ _ _ _ _ _ _ _) rfl rfl (Nat.le_of_ble_eq_true rfl) lw_pt2 ?_ ?_
  rotate_left
  · rintro E9 w9 h9; exact h9.elim
  rintro v536 w536 ⟨c2, q2, h2, mv91, z536, rfl, hM1, rfl, g536⟩
  refine ne_ws lw_mg2 ?_
  obtain ⟨hk, hu, e7, e8, e9⟩ := cn_add g512 g536
  subst e7 e8 e9
  refine ne_istore X dL_law_539 (by decide) ?_
  refine ne_ll (L' := [some (.ref 0), some (.ref 1), some (.ref 13), some (.ref 20), some (ni _), some (ni _), some (ni _)]) rfl ?_
  refine ne_goto (tgt := 2324) X dL_law_541 rfl ?_
  refine ne_lnone 5 (ne_lnone 6 ?_)
  refine ne_ll (L' := [some (.ref 0), some (.ref 1), some (.ref 13), some (.ref 20), some (ni i), none, none]) rfl ?_
  refine ne_less (C' := C - 500) (S' := S - 3500) (by omega) (by omega) ?_
  exact kk _ _ _ _ _ _ _ _ _ _ _ _ hI1 hM1 hP hs
set_option maxRecDepth 100000 in
set_option maxHeartbeats 4000000 in
theorem lc_6 (hl : l.stackTraces = false) (X : ne_F nw_cl D ct A p l room_1 s9 m args meth c9 RL cL_law 7 nw_T 20 1000 600128 7301098) (hX : va_X b9 N9 xs s9 s9.heap) (hbl : b9 < s9.heap.size) (hbA : ¬ A b9) (hb0 : ad0 0 = b9) (i T : Int) (hi : 0 ≤ i ∧ i + 6 ≤ N9 ∧ N9 ≤ 384) (hT : 0 ≤ T ∧ T ≤ 100) (c q t b k n h x y  : Nat → Int) (mv9 u : Int) (sv : Value) (hI : cI c q t b k n h x y T) (hM : mI c q t b k h mv9 T) (hP : ∀ j : Nat, ne_per (t j) (b j) (n j)) (hs : sv = .null ∨ sv = .ref 21) (C S : Nat) (hC : 500 ≤ C) (hS : 3500 ≤ S) (kk : ∀ (c q t b k n h x y  : Nat → Int) (mv9 u : Int) (sv : Value), cI c q t b k n h x y (T + 1) → mI c q t b k h mv9 (T + 1) → (∀ j : Nat, ne_per (t j) (b j) (n j)) → (sv = .null ∨ sv = .ref 21) → ne_G nw_cl D ct A 1 ad0 p l e room_1 s9 m args below meth c9 Q9 7 600128 7301098 (C - 500) (S - 3500) 2324 [some (.ref 0), some (.ref 1), some (.ref 13), some (.ref 20), some (ni i), none, none] [] (lW c q t b k n h x y c q t b k h mv9 (nl u) sv)) : ne_G nw_cl D ct A 1 ad0 p l e room_1 s9 m args below meth c9 Q9 7 600128 7301098 C S 544 [some (.ref 0), some (.ref 1), some (.ref 13), some (.ref 20), some (ni i), none, none] [] (lW c q t b k n h x y c q t b k h mv9 (nl u) sv) := by
  obtain ⟨s8, hs8, rfl⟩ : ∃ s8 : Value, (s8 = .null ∨ s8 = .ref 13) ∧ sv = ne_rn [1, 2, 3, 4, 5, 6, 7, 8, 9, 10, 11, 12, 20, 21] 22 s8 := by
    rcases hs with rfl | rfl
    · exact ⟨.null, Or.inl rfl, rfl⟩
    · exact ⟨.ref 13, Or.inr rfl, rfl⟩
  have hcw : ∀ (c q t b k n h x y mc9 mq9 mt9 mb9 mk9 mh9 : Nat → Int) (mv9 u : Int), ne_cw 22 (lW c q t b k n h x y mc9 mq9 mt9 mb9 mk9 mh9 mv9 (nl u) (ne_rn [1, 2, 3, 4, 5, 6, 7, 8, 9, 10, 11, 12, 20, 21] 22 s8)) = true := by
    intros
    rcases hs8 with rfl | rfl <;> rfl
  refine ne_aload_n X dL_law_544 rfl ?_
  refine ne_aload_n X dL_law_545 rfl ?_
  refine ne_iload X dL_law_546 rfl ?_
  refine ne_iconst X dL_law_548 ?_
  refine ne_iadd X dL_law_549 ?_
  refine ne_sld X hX hbl hbA hb0 (by decide) (by omega) dL_law_550 (fun z550 e550 l550 r550 => ?_)
  refine ne_aload_n X dL_law_551 rfl ?_
  refine ne_iload X dL_law_552 rfl ?_
  refine ne_iconst X dL_law_554 ?_
  refine ne_iadd X dL_law_555 ?_
  refine ne_sld X hX hbl hbA hb0 (by decide) (by omega) dL_law_556 (fun z556 e556 l556 r556 => ?_)
  refine ne_aload_n X dL_law_557 rfl ?_
  refine ne_iload X dL_law_558 rfl ?_
  refine ne_iconst X dL_law_560 ?_
  refine ne_iadd X dL_law_561 ?_
  refine ne_sld X hX hbl hbA hb0 (by decide) (by omega) dL_law_562 (fun z562 e562 l562 r562 => ?_)
  refine ne_aload_n X dL_law_563 rfl ?_
  refine ne_callSFW (is := [1, 2, 3, 4, 5, 6, 7, 8, 9, 10, 11, 12, 20, 21]) X nw_Tg (me_L_subtract l hl c q t b k n h x y T hI (by omega) u s8 hs8 _ _ _ (by omega) (by omega) (by omega)) nw_yL_subtract nw_mL_197 nw_sL_subtract dL_law_564 rfl rfl (by decide) (by decide) (by first | decide | omega) (by first | decide | omega) (Nat.le_of_ble_eq_true rfl) (hcw _ _ _ _ _ _ _ _ _ _ _ _ _ _ _ _ _) rfl rfl (Nat.le_of_ble_eq_true rfl) lw_pt1 ?_ ?_
  rotate_left
  · rintro E9 w9 h9; exact h9.elim
  rintro v564 w564 ⟨c1, q1, h1, u1, rfl, hI1, z564, rfl, g564⟩
  refine ne_ws lw_mg1 ?_
  refine ne_istore X dL_law_567 (by decide) ?_
  refine ne_aload_n X dL_law_569 rfl ?_
  refine ne_aload_n X dL_law_570 rfl ?_
  refine ne_iload X dL_law_571 rfl ?_
  refine ne_iconst X dL_law_573 ?_
  refine ne_iadd X dL_law_574 ?_
  refine ne_sld X hX hbl hbA hb0 (by decide) (by omega) dL_law_575 (fun z575 e575 l575 r575 => ?_)
  have y575 : z550 = z575 := e550.trans e575.symm
  subst y575
  refine ne_aload_n X dL_law_576 rfl ?_
  refine ne_iload X dL_law_577 rfl ?_
  refine ne_iconst X dL_law_579 ?_
  refine ne_iadd X dL_law_580 ?_
  refine ne_sld X hX hbl hbA hb0 (by decide) (by omega) dL_law_581 (fun z581 e581 l581 r581 => ?_)
  have y581 : z556 = z581 := e556.trans e581.symm
  subst y581
  refine ne_aload_n X dL_law_582 rfl ?_
  refine ne_iload X dL_law_583 rfl ?_
  refine ne_iconst X dL_law_585 ?_
  refine ne_iadd X dL_law_586 ?_
  refine ne_sld X hX hbl hbA hb0 (by decide) (by omega) dL_law_587 (fun z587 e587 l587 r587 => ?_)
  have y587 : z562 = z587 := e562.trans e587.symm
  subst y587
  refine ne_callVF (is := [13, 14, 15, 16, 17, 18, 19]) X nw_Tg (me_X3_subtractW l hl c q t b k h mv9 T hM (by omega) _ _ _ (by omega) (by omega) (by omega)) nw_yX3_subtract nw_mL_199 nw_iX3_subtract nw_eX3_subtract (ci := 5) rfl rfl rfl dL_law_588 rfl rfl (by decide) (by decide) (by first | decide | omega) (by first | decide | omega) (Nat.le_of_ble_eq_true rfl) (hcw _ _ _ _ _ _ _ _ _ _ _ _ _ _ _ _ _) rfl rfl (Nat.le_of_ble_eq_true rfl) lw_pt2 ?_ ?_
  rotate_left
  · rintro E9 w9 h9; exact h9.elim
  rintro v588 w588 ⟨c2, q2, h2, mv91, z588, rfl, hM1, rfl, g588⟩
  refine ne_ws lw_mg2 ?_
  obtain ⟨hk, hu, e7, e8, e9⟩ := cn_subtract g564 g588
  subst e7 e8 e9
  refine ne_istore X dL_law_591 (by decide) ?_
  refine ne_ll (L' := [some (.ref 0), some (.ref 1), some (.ref 13), some (.ref 20), some (ni _), some (ni _), some (ni _)]) rfl ?_
  refine ne_goto (tgt := 2324) X dL_law_593 rfl ?_
  refine ne_lnone 5 (ne_lnone 6 ?_)
  refine ne_ll (L' := [some (.ref 0), some (.ref 1), some (.ref 13), some (.ref 20), some (ni i), none, none]) rfl ?_
  refine ne_less (C' := C - 500) (S' := S - 3500) (by omega) (by omega) ?_
  exact kk _ _ _ _ _ _ _ _ _ _ _ _ hI1 hM1 hP hs
set_option maxRecDepth 100000 in
set_option maxHeartbeats 4000000 in
theorem lc_7 (hl : l.stackTraces = false) (X : ne_F nw_cl D ct A p l room_1 s9 m args meth c9 RL cL_law 7 nw_T 20 1000 600128 7301098) (hX : va_X b9 N9 xs s9 s9.heap) (hbl : b9 < s9.heap.size) (hbA : ¬ A b9) (hb0 : ad0 0 = b9) (i T : Int) (hi : 0 ≤ i ∧ i + 6 ≤ N9 ∧ N9 ≤ 384) (hT : 0 ≤ T ∧ T ≤ 100) (c q t b k n h x y  : Nat → Int) (mv9 u : Int) (sv : Value) (hI : cI c q t b k n h x y T) (hM : mI c q t b k h mv9 T) (hP : ∀ j : Nat, ne_per (t j) (b j) (n j)) (hs : sv = .null ∨ sv = .ref 21) (C S : Nat) (hC : 500 ≤ C) (hS : 3500 ≤ S) (kk : ∀ (c q t b k n h x y  : Nat → Int) (mv9 u : Int) (sv : Value), cI c q t b k n h x y (T + 1) → mI c q t b k h mv9 (T + 1) → (∀ j : Nat, ne_per (t j) (b j) (n j)) → (sv = .null ∨ sv = .ref 21) → ne_G nw_cl D ct A 1 ad0 p l e room_1 s9 m args below meth c9 Q9 7 600128 7301098 (C - 500) (S - 3500) 2324 [some (.ref 0), some (.ref 1), some (.ref 13), some (.ref 20), some (ni i), none, none] [] (lW c q t b k n h x y c q t b k h mv9 (nl u) sv)) : ne_G nw_cl D ct A 1 ad0 p l e room_1 s9 m args below meth c9 Q9 7 600128 7301098 C S 596 [some (.ref 0), some (.ref 1), some (.ref 13), some (.ref 20), some (ni i), none, none] [] (lW c q t b k n h x y c q t b k h mv9 (nl u) sv) := by
  obtain ⟨s8, hs8, rfl⟩ : ∃ s8 : Value, (s8 = .null ∨ s8 = .ref 13) ∧ sv = ne_rn [1, 2, 3, 4, 5, 6, 7, 8, 9, 10, 11, 12, 20, 21] 22 s8 := by
    rcases hs with rfl | rfl
    · exact ⟨.null, Or.inl rfl, rfl⟩
    · exact ⟨.ref 13, Or.inr rfl, rfl⟩
  have hcw : ∀ (c q t b k n h x y mc9 mq9 mt9 mb9 mk9 mh9 : Nat → Int) (mv9 u : Int), ne_cw 22 (lW c q t b k n h x y mc9 mq9 mt9 mb9 mk9 mh9 mv9 (nl u) (ne_rn [1, 2, 3, 4, 5, 6, 7, 8, 9, 10, 11, 12, 20, 21] 22 s8)) = true := by
    intros
    rcases hs8 with rfl | rfl <;> rfl
  refine ne_aload_n X dL_law_596 rfl ?_
  refine ne_aload_n X dL_law_597 rfl ?_
  refine ne_iload X dL_law_598 rfl ?_
  refine ne_iconst X dL_law_600 ?_
  refine ne_iadd X dL_law_601 ?_
  refine ne_sld X hX hbl hbA hb0 (by decide) (by omega) dL_law_602 (fun z602 e602 l602 r602 => ?_)
  refine ne_aload_n X dL_law_603 rfl ?_
  refine ne_iload X dL_law_604 rfl ?_
  refine ne_iconst X dL_law_606 ?_
  refine ne_iadd X dL_law_607 ?_
  refine ne_sld X hX hbl hbA hb0 (by decide) (by omega) dL_law_608 (fun z608 e608 l608 r608 => ?_)
  refine ne_aload_n X dL_law_609 rfl ?_
  refine ne_iload X dL_law_610 rfl ?_
  refine ne_iconst X dL_law_612 ?_
  refine ne_iadd X dL_law_613 ?_
  refine ne_sld X hX hbl hbA hb0 (by decide) (by omega) dL_law_614 (fun z614 e614 l614 r614 => ?_)
  refine ne_aload_n X dL_law_615 rfl ?_
  refine ne_callSFW (is := [1, 2, 3, 4, 5, 6, 7, 8, 9, 10, 11, 12, 20, 21]) X nw_Tg (me_L_multiply l hl c q t b k n h x y T hI (by omega) u s8 hs8 _ _ _ (by omega) (by omega) (by omega)) nw_yL_multiply nw_mL_200 nw_sL_multiply dL_law_616 rfl rfl (by decide) (by decide) (by first | decide | omega) (by first | decide | omega) (Nat.le_of_ble_eq_true rfl) (hcw _ _ _ _ _ _ _ _ _ _ _ _ _ _ _ _ _) rfl rfl (Nat.le_of_ble_eq_true rfl) lw_pt1 ?_ ?_
  rotate_left
  · rintro E9 w9 h9; exact h9.elim
  rintro v616 w616 ⟨c1, q1, h1, u1, rfl, hI1, z616, rfl, g616⟩
  refine ne_ws lw_mg1 ?_
  refine ne_istore X dL_law_619 (by decide) ?_
  refine ne_aload_n X dL_law_621 rfl ?_
  refine ne_aload_n X dL_law_622 rfl ?_
  refine ne_iload X dL_law_623 rfl ?_
  refine ne_iconst X dL_law_625 ?_
  refine ne_iadd X dL_law_626 ?_
  refine ne_sld X hX hbl hbA hb0 (by decide) (by omega) dL_law_627 (fun z627 e627 l627 r627 => ?_)
  have y627 : z602 = z627 := e602.trans e627.symm
  subst y627
  refine ne_aload_n X dL_law_628 rfl ?_
  refine ne_iload X dL_law_629 rfl ?_
  refine ne_iconst X dL_law_631 ?_
  refine ne_iadd X dL_law_632 ?_
  refine ne_sld X hX hbl hbA hb0 (by decide) (by omega) dL_law_633 (fun z633 e633 l633 r633 => ?_)
  have y633 : z608 = z633 := e608.trans e633.symm
  subst y633
  refine ne_aload_n X dL_law_634 rfl ?_
  refine ne_iload X dL_law_635 rfl ?_
  refine ne_iconst X dL_law_637 ?_
  refine ne_iadd X dL_law_638 ?_
  refine ne_sld X hX hbl hbA hb0 (by decide) (by omega) dL_law_639 (fun z639 e639 l639 r639 => ?_)
  have y639 : z614 = z639 := e614.trans e639.symm
  subst y639
  refine ne_callVF (is := [13, 14, 15, 16, 17, 18, 19]) X nw_Tg (me_X3_multiplyW l hl c q t b k h mv9 T hM (by omega) _ _ _ (by omega) (by omega) (by omega)) nw_yX3_multiply nw_mL_202 nw_iX3_multiply nw_eX3_multiply (ci := 5) rfl rfl rfl dL_law_640 rfl rfl (by decide) (by decide) (by first | decide | omega) (by first | decide | omega) (Nat.le_of_ble_eq_true rfl) (hcw _ _ _ _ _ _ _ _ _ _ _ _ _ _ _ _ _) rfl rfl (Nat.le_of_ble_eq_true rfl) lw_pt2 ?_ ?_
  rotate_left
  · rintro E9 w9 h9; exact h9.elim
  rintro v640 w640 ⟨c2, q2, h2, mv91, z640, rfl, hM1, rfl, g640⟩
  refine ne_ws lw_mg2 ?_
  obtain ⟨hk, hu, e7, e8, e9⟩ := cn_multiply g616 g640
  subst e7 e8 e9
  refine ne_istore X dL_law_643 (by decide) ?_
  refine ne_ll (L' := [some (.ref 0), some (.ref 1), some (.ref 13), some (.ref 20), some (ni _), some (ni _), some (ni _)]) rfl ?_
  refine ne_goto (tgt := 2324) X dL_law_645 rfl ?_
  refine ne_lnone 5 (ne_lnone 6 ?_)
  refine ne_ll (L' := [some (.ref 0), some (.ref 1), some (.ref 13), some (.ref 20), some (ni i), none, none]) rfl ?_
  refine ne_less (C' := C - 500) (S' := S - 3500) (by omega) (by omega) ?_
  exact kk _ _ _ _ _ _ _ _ _ _ _ _ hI1 hM1 hP hs
set_option maxRecDepth 100000 in
set_option maxHeartbeats 4000000 in
theorem lc_8 (hl : l.stackTraces = false) (X : ne_F nw_cl D ct A p l room_1 s9 m args meth c9 RL cL_law 7 nw_T 20 1000 600128 7301098) (hX : va_X b9 N9 xs s9 s9.heap) (hbl : b9 < s9.heap.size) (hbA : ¬ A b9) (hb0 : ad0 0 = b9) (i T : Int) (hi : 0 ≤ i ∧ i + 6 ≤ N9 ∧ N9 ≤ 384) (hT : 0 ≤ T ∧ T ≤ 100) (c q t b k n h x y  : Nat → Int) (mv9 u : Int) (sv : Value) (hI : cI c q t b k n h x y T) (hM : mI c q t b k h mv9 T) (hP : ∀ j : Nat, ne_per (t j) (b j) (n j)) (hs : sv = .null ∨ sv = .ref 21) (C S : Nat) (hC : 500 ≤ C) (hS : 3500 ≤ S) (kk : ∀ (c q t b k n h x y  : Nat → Int) (mv9 u : Int) (sv : Value), cI c q t b k n h x y (T + 1) → mI c q t b k h mv9 (T + 1) → (∀ j : Nat, ne_per (t j) (b j) (n j)) → (sv = .null ∨ sv = .ref 21) → ne_G nw_cl D ct A 1 ad0 p l e room_1 s9 m args below meth c9 Q9 7 600128 7301098 (C - 500) (S - 3500) 2324 [some (.ref 0), some (.ref 1), some (.ref 13), some (.ref 20), some (ni i), none, none] [] (lW c q t b k n h x y c q t b k h mv9 (nl u) sv)) : ne_G nw_cl D ct A 1 ad0 p l e room_1 s9 m args below meth c9 Q9 7 600128 7301098 C S 648 [some (.ref 0), some (.ref 1), some (.ref 13), some (.ref 20), some (ni i), none, none] [] (lW c q t b k n h x y c q t b k h mv9 (nl u) sv) := by
  obtain ⟨s8, hs8, rfl⟩ : ∃ s8 : Value, (s8 = .null ∨ s8 = .ref 13) ∧ sv = ne_rn [1, 2, 3, 4, 5, 6, 7, 8, 9, 10, 11, 12, 20, 21] 22 s8 := by
    rcases hs with rfl | rfl
    · exact ⟨.null, Or.inl rfl, rfl⟩
    · exact ⟨.ref 13, Or.inr rfl, rfl⟩
  have hcw : ∀ (c q t b k n h x y mc9 mq9 mt9 mb9 mk9 mh9 : Nat → Int) (mv9 u : Int), ne_cw 22 (lW c q t b k n h x y mc9 mq9 mt9 mb9 mk9 mh9 mv9 (nl u) (ne_rn [1, 2, 3, 4, 5, 6, 7, 8, 9, 10, 11, 12, 20, 21] 22 s8)) = true := by
    intros
    rcases hs8 with rfl | rfl <;> rfl
  refine ne_aload_n X dL_law_648 rfl ?_
  refine ne_aload_n X dL_law_649 rfl ?_
  refine ne_iload X dL_law_650 rfl ?_
  refine ne_iconst X dL_law_652 ?_
  refine ne_iadd X dL_law_653 ?_
  refine ne_sld X hX hbl hbA hb0 (by decide) (by omega) dL_law_654 (fun z654 e654 l654 r654 => ?_)
  refine ne_aload_n X dL_law_655 rfl ?_
  refine ne_iload X dL_law_656 rfl ?_
  refine ne_iconst X dL_law_658 ?_
  refine ne_iadd X dL_law_659 ?_
  refine ne_sld X hX hbl hbA hb0 (by decide) (by omega) dL_law_660 (fun z660 e660 l660 r660 => ?_)
  refine ne_aload_n X dL_law_661 rfl ?_
  refine ne_iload X dL_law_662 rfl ?_
  refine ne_iconst X dL_law_664 ?_
  refine ne_iadd X dL_law_665 ?_
  refine ne_sld X hX hbl hbA hb0 (by decide) (by omega) dL_law_666 (fun z666 e666 l666 r666 => ?_)
  refine ne_aload_n X dL_law_667 rfl ?_
  refine ne_callSFW (is := [1, 2, 3, 4, 5, 6, 7, 8, 9, 10, 11, 12, 20, 21]) X nw_Tg (me_L_power l hl c q t b k n h x y T hI (by omega) u s8 hs8 _ _ _ (by omega) (by omega) (by omega)) nw_yL_power nw_mL_203 nw_sL_power dL_law_668 rfl rfl (by decide) (by decide) (by first | decide | omega) (by first | decide | omega) (Nat.le_of_ble_eq_true rfl) (hcw _ _ _ _ _ _ _ _ _ _ _ _ _ _ _ _ _) rfl rfl (Nat.le_of_ble_eq_true rfl) lw_pt1 ?_ ?_
  rotate_left
  · rintro E9 w9 h9; exact h9.elim
  rintro v668 w668 ⟨c1, q1, h1, u1, rfl, hI1, z668, rfl, g668⟩
  refine ne_ws lw_mg1 ?_
  refine ne_istore X dL_law_671 (by decide) ?_
  refine ne_aload_n X dL_law_673 rfl ?_
  refine ne_aload_n X dL_law_674 rfl ?_
  refine ne_iload X dL_law_675 rfl ?_
  refine ne_iconst X dL_law_677 ?_
  refine ne_iadd X dL_law_678 ?_
  refine ne_sld X hX hbl hbA hb0 (by decide) (by omega) dL_law_679 (fun z679 e679 l679 r679 => ?_)
  have y679 : z654 = z679 := e654.trans e679.symm
  subst y679
  refine ne_aload_n X dL_law_680 rfl ?_
  refine ne_iload X dL_law_681 rfl ?_
  refine ne_iconst X dL_law_683 ?_
  refine ne_iadd X dL_law_684 ?_
  refine ne_sld X hX hbl hbA hb0 (by decide) (by omega) dL_law_685 (fun z685 e685 l685 r685 => ?_)
  have y685 : z660 = z685 := e660.trans e685.symm
  subst y685
  refine ne_aload_n X dL_law_686 rfl ?_
  refine ne_iload X dL_law_687 rfl ?_
  refine ne_iconst X dL_law_689 ?_
  refine ne_iadd X dL_law_690 ?_
  refine ne_sld X hX hbl hbA hb0 (by decide) (by omega) dL_law_691 (fun z691 e691 l691 r691 => ?_)
  have y691 : z666 = z691 := e666.trans e691.symm
  subst y691
  refine ne_callVF (is := [13, 14, 15, 16, 17, 18, 19]) X nw_Tg (me_X3_powerW l hl c q t b k h mv9 T hM (by omega) _ _ _ (by omega) (by omega) (by omega)) nw_yX3_power nw_mL_205 nw_iX3_power nw_eX3_power (ci := 5) rfl rfl rfl dL_law_692 rfl rfl (by decide) (by decide) (by first | decide | omega) (by first | decide | omega) (Nat.le_of_ble_eq_true rfl) (hcw _ _ _ _ _ _ _ _ _ _ _ _ _ _ _ _ _) rfl rfl (Nat.le_of_ble_eq_true rfl) lw_pt2 ?_ ?_
  rotate_left
  · rintro E9 w9 h9; exact h9.elim
  rintro v692 w692 ⟨c2, q2, h2, mv91, z692, rfl, hM1, rfl, g692⟩
  refine ne_ws lw_mg2 ?_
  obtain ⟨hk, hu, e7, e8, e9⟩ := cn_power g668 g692
  subst e7 e8 e9
  refine ne_istore X dL_law_695 (by decide) ?_
  refine ne_ll (L' := [some (.ref 0), some (.ref 1), some (.ref 13), some (.ref 20), some (ni _), some (ni _), some (ni _)]) rfl ?_
  refine ne_goto (tgt := 2324) X dL_law_697 rfl ?_
  refine ne_lnone 5 (ne_lnone 6 ?_)
  refine ne_ll (L' := [some (.ref 0), some (.ref 1), some (.ref 13), some (.ref 20), some (ni i), none, none]) rfl ?_
  refine ne_less (C' := C - 500) (S' := S - 3500) (by omega) (by omega) ?_
  exact kk _ _ _ _ _ _ _ _ _ _ _ _ hI1 hM1 hP hs
set_option maxRecDepth 100000 in
set_option maxHeartbeats 4000000 in
theorem lc_9 (hl : l.stackTraces = false) (X : ne_F nw_cl D ct A p l room_1 s9 m args meth c9 RL cL_law 7 nw_T 20 1000 600128 7301098) (hX : va_X b9 N9 xs s9 s9.heap) (hbl : b9 < s9.heap.size) (hbA : ¬ A b9) (hb0 : ad0 0 = b9) (i T : Int) (hi : 0 ≤ i ∧ i + 6 ≤ N9 ∧ N9 ≤ 384) (hT : 0 ≤ T ∧ T ≤ 100) (c q t b k n h x y  : Nat → Int) (mv9 u : Int) (sv : Value) (hI : cI c q t b k n h x y T) (hM : mI c q t b k h mv9 T) (hP : ∀ j : Nat, ne_per (t j) (b j) (n j)) (hs : sv = .null ∨ sv = .ref 21) (C S : Nat) (hC : 500 ≤ C) (hS : 3500 ≤ S) (kk : ∀ (c q t b k n h x y  : Nat → Int) (mv9 u : Int) (sv : Value), cI c q t b k n h x y (T + 1) → mI c q t b k h mv9 (T + 1) → (∀ j : Nat, ne_per (t j) (b j) (n j)) → (sv = .null ∨ sv = .ref 21) → ne_G nw_cl D ct A 1 ad0 p l e room_1 s9 m args below meth c9 Q9 7 600128 7301098 (C - 500) (S - 3500) 2324 [some (.ref 0), some (.ref 1), some (.ref 13), some (.ref 20), some (ni i), none, none] [] (lW c q t b k n h x y c q t b k h mv9 (nl u) sv)) : ne_G nw_cl D ct A 1 ad0 p l e room_1 s9 m args below meth c9 Q9 7 600128 7301098 C S 700 [some (.ref 0), some (.ref 1), some (.ref 13), some (.ref 20), some (ni i), none, none] [] (lW c q t b k n h x y c q t b k h mv9 (nl u) sv) := by
  obtain ⟨s8, hs8, rfl⟩ : ∃ s8 : Value, (s8 = .null ∨ s8 = .ref 13) ∧ sv = ne_rn [1, 2, 3, 4, 5, 6, 7, 8, 9, 10, 11, 12, 20, 21] 22 s8 := by
    rcases hs with rfl | rfl
    · exact ⟨.null, Or.inl rfl, rfl⟩
    · exact ⟨.ref 13, Or.inr rfl, rfl⟩
  have hcw : ∀ (c q t b k n h x y mc9 mq9 mt9 mb9 mk9 mh9 : Nat → Int) (mv9 u : Int), ne_cw 22 (lW c q t b k n h x y mc9 mq9 mt9 mb9 mk9 mh9 mv9 (nl u) (ne_rn [1, 2, 3, 4, 5, 6, 7, 8, 9, 10, 11, 12, 20, 21] 22 s8)) = true := by
    intros
    rcases hs8 with rfl | rfl <;> rfl
  refine ne_aload_n X dL_law_700 rfl ?_
  refine ne_aload_n X dL_law_701 rfl ?_
  refine ne_iload X dL_law_702 rfl ?_
  refine ne_iconst X dL_law_704 ?_
  refine ne_iadd X dL_law_705 ?_
  refine ne_sld X hX hbl hbA hb0 (by decide) (by omega) dL_law_706 (fun z706 e706 l706 r706 => ?_)
  refine ne_aload_n X dL_law_707 rfl ?_
  refine ne_iload X dL_law_708 rfl ?_
  refine ne_iconst X dL_law_710 ?_
  refine ne_iadd X dL_law_711 ?_
  refine ne_sld X hX hbl hbA hb0 (by decide) (by omega) dL_law_712 (fun z712 e712 l712 r712 => ?_)
  refine ne_aload_n X dL_law_713 rfl ?_
  refine ne_iload X dL_law_714 rfl ?_
  refine ne_iconst X dL_law_716 ?_
  refine ne_iadd X dL_law_717 ?_
  refine ne_sld X hX hbl hbA hb0 (by decide) (by omega) dL_law_718 (fun z718 e718 l718 r718 => ?_)
  refine ne_aload_n X dL_law_719 rfl ?_
  refine ne_iload X dL_law_720 rfl ?_
  refine ne_iconst X dL_law_722 ?_
  refine ne_iadd X dL_law_723 ?_
  refine ne_sld X hX hbl hbA hb0 (by decide) (by omega) dL_law_724 (fun z724 e724 l724 r724 => ?_)
  refine ne_aload_n X dL_law_725 rfl ?_
  refine ne_iload X dL_law_726 rfl ?_
  refine ne_iconst X dL_law_728 ?_
  refine ne_iadd X dL_law_729 ?_
  refine ne_sld X hX hbl hbA hb0 (by decide) (by omega) dL_law_730 (fun z730 e730 l730 r730 => ?_)
  refine ne_aload_n X dL_law_731 rfl ?_
  refine ne_callSFW (is := [1, 2, 3, 4, 5, 6, 7, 8, 9, 10, 11, 12, 20, 21]) X nw_Tg (me_L_divide l hl c q t b k n h x y T hI (by omega) u s8 hs8 _ _ _ _ _ (by omega) (by omega) (by omega) (by omega) (by omega)) nw_yL_divide nw_mL_206 nw_sL_divide dL_law_732 rfl rfl (by decide) (by decide) (by first | decide | omega) (by first | decide | omega) (Nat.le_of_ble_eq_true rfl) (hcw _ _ _ _ _ _ _ _ _ _ _ _ _ _ _ _ _) rfl rfl (Nat.le_of_ble_eq_true rfl) lw_pt1 ?_ ?_
  rotate_left
  · rintro E9 w9 h9; exact h9.elim
  rintro v732 w732 ⟨c1, q1, h1, u1, rfl, hI1, z732, rfl, g732⟩
  refine ne_ws lw_mg1 ?_
  refine ne_istore X dL_law_735 (by decide) ?_
  refine ne_aload_n X dL_law_737 rfl ?_
  refine ne_aload_n X dL_law_738 rfl ?_
  refine ne_iload X dL_law_739 rfl ?_
  refine ne_iconst X dL_law_741 ?_
  refine ne_iadd X dL_law_742 ?_
  refine ne_sld X hX hbl hbA hb0 (by decide) (by omega) dL_law_743 (fun z743 e743 l743 r743 => ?_)
  have y743 : z706 = z743 := e706.trans e743.symm
  subst y743
  refine ne_aload_n X dL_law_744 rfl ?_
  refine ne_iload X dL_law_745 rfl ?_
  refine ne_iconst X dL_law_747 ?_
  refine ne_iadd X dL_law_748 ?_
  refine ne_sld X hX hbl hbA hb0 (by decide) (by omega) dL_law_749 (fun z749 e749 l749 r749 => ?_)
  have y749 : z712 = z749 := e712.trans e749.symm
  subst y749
  refine ne_aload_n X dL_law_750 rfl ?_
  refine ne_iload X dL_law_751 rfl ?_
  refine ne_iconst X dL_law_753 ?_
  refine ne_iadd X dL_law_754 ?_
  refine ne_sld X hX hbl hbA hb0 (by decide) (by omega) dL_law_755 (fun z755 e755 l755 r755 => ?_)
  have y755 : z718 = z755 := e718.trans e755.symm
  subst y755
  refine ne_aload_n X dL_law_756 rfl ?_
  refine ne_iload X dL_law_757 rfl ?_
  refine ne_iconst X dL_law_759 ?_
  refine ne_iadd X dL_law_760 ?_
  refine ne_sld X hX hbl hbA hb0 (by decide) (by omega) dL_law_761 (fun z761 e761 l761 r761 => ?_)
  have y761 : z724 = z761 := e724.trans e761.symm
  subst y761
  refine ne_aload_n X dL_law_762 rfl ?_
  refine ne_iload X dL_law_763 rfl ?_
  refine ne_iconst X dL_law_765 ?_
  refine ne_iadd X dL_law_766 ?_
  refine ne_sld X hX hbl hbA hb0 (by decide) (by omega) dL_law_767 (fun z767 e767 l767 r767 => ?_)
  have y767 : z730 = z767 := e730.trans e767.symm
  subst y767
  refine ne_callVF (is := [13, 14, 15, 16, 17, 18, 19]) X nw_Tg (me_X3_divideW l hl c q t b k h mv9 T hM (by omega) _ _ _ _ _ (by omega) (by omega) (by omega) (by omega) (by omega)) nw_yX3_divide nw_mL_209 nw_iX3_divide nw_eX3_divide (ci := 5) rfl rfl rfl dL_law_768 rfl rfl (by decide) (by decide) (by first | decide | omega) (by first | decide | omega) (Nat.le_of_ble_eq_true rfl) (hcw _ _ _ _ _ _ _ _ _ _ _ _ _ _ _ _ _) rfl rfl (Nat.le_of_ble_eq_true rfl) lw_pt2 ?_ ?_
  rotate_left
  · rintro E9 w9 h9; exact h9.elim
  rintro v768 w768 ⟨c2, q2, h2, mv91, z768, rfl, hM1, rfl, g768⟩
  refine ne_ws lw_mg2 ?_
  obtain ⟨hk, hu, e7, e8, e9⟩ := cn_divide g732 g768
  subst e7 e8 e9
  refine ne_istore X dL_law_771 (by decide) ?_
  refine ne_ll (L' := [some (.ref 0), some (.ref 1), some (.ref 13), some (.ref 20), some (ni _), some (ni _), some (ni _)]) rfl ?_
  refine ne_goto (tgt := 2324) X dL_law_773 rfl ?_
  refine ne_lnone 5 (ne_lnone 6 ?_)
  refine ne_ll (L' := [some (.ref 0), some (.ref 1), some (.ref 13), some (.ref 20), some (ni i), none, none]) rfl ?_
  refine ne_less (C' := C - 500) (S' := S - 3500) (by omega) (by omega) ?_
  exact kk _ _ _ _ _ _ _ _ _ _ _ _ hI1 hM1 hP hs
set_option maxRecDepth 100000 in
set_option maxHeartbeats 4000000 in
theorem lc_10 (hl : l.stackTraces = false) (X : ne_F nw_cl D ct A p l room_1 s9 m args meth c9 RL cL_law 7 nw_T 20 1000 600128 7301098) (hX : va_X b9 N9 xs s9 s9.heap) (hbl : b9 < s9.heap.size) (hbA : ¬ A b9) (hb0 : ad0 0 = b9) (i T : Int) (hi : 0 ≤ i ∧ i + 6 ≤ N9 ∧ N9 ≤ 384) (hT : 0 ≤ T ∧ T ≤ 100) (c q t b k n h x y  : Nat → Int) (mv9 u : Int) (sv : Value) (hI : cI c q t b k n h x y T) (hM : mI c q t b k h mv9 T) (hP : ∀ j : Nat, ne_per (t j) (b j) (n j)) (hs : sv = .null ∨ sv = .ref 21) (C S : Nat) (hC : 500 ≤ C) (hS : 3500 ≤ S) (kk : ∀ (c q t b k n h x y  : Nat → Int) (mv9 u : Int) (sv : Value), cI c q t b k n h x y (T + 1) → mI c q t b k h mv9 (T + 1) → (∀ j : Nat, ne_per (t j) (b j) (n j)) → (sv = .null ∨ sv = .ref 21) → ne_G nw_cl D ct A 1 ad0 p l e room_1 s9 m args below meth c9 Q9 7 600128 7301098 (C - 500) (S - 3500) 2324 [some (.ref 0), some (.ref 1), some (.ref 13), some (.ref 20), some (ni i), none, none] [] (lW c q t b k n h x y c q t b k h mv9 (nl u) sv)) : ne_G nw_cl D ct A 1 ad0 p l e room_1 s9 m args below meth c9 Q9 7 600128 7301098 C S 776 [some (.ref 0), some (.ref 1), some (.ref 13), some (.ref 20), some (ni i), none, none] [] (lW c q t b k n h x y c q t b k h mv9 (nl u) sv) := by
  obtain ⟨s8, hs8, rfl⟩ : ∃ s8 : Value, (s8 = .null ∨ s8 = .ref 13) ∧ sv = ne_rn [1, 2, 3, 4, 5, 6, 7, 8, 9, 10, 11, 12, 20, 21] 22 s8 := by
    rcases hs with rfl | rfl
    · exact ⟨.null, Or.inl rfl, rfl⟩
    · exact ⟨.ref 13, Or.inr rfl, rfl⟩
  have hcw : ∀ (c q t b k n h x y mc9 mq9 mt9 mb9 mk9 mh9 : Nat → Int) (mv9 u : Int), ne_cw 22 (lW c q t b k n h x y mc9 mq9 mt9 mb9 mk9 mh9 mv9 (nl u) (ne_rn [1, 2, 3, 4, 5, 6, 7, 8, 9, 10, 11, 12, 20, 21] 22 s8)) = true := by
    intros
    rcases hs8 with rfl | rfl <;> rfl
  refine ne_aload_n X dL_law_776 rfl ?_
  refine ne_aload_n X dL_law_777 rfl ?_
  refine ne_iload X dL_law_778 rfl ?_
  refine ne_iconst X dL_law_780 ?_
  refine ne_iadd X dL_law_781 ?_
  refine ne_sld X hX hbl hbA hb0 (by decide) (by omega) dL_law_782 (fun z782 e782 l782 r782 => ?_)
  refine ne_aload_n X dL_law_783 rfl ?_
  refine ne_iload X dL_law_784 rfl ?_
  refine ne_iconst X dL_law_786 ?_
  refine ne_iadd X dL_law_787 ?_
  refine ne_sld X hX hbl hbA hb0 (by decide) (by omega) dL_law_788 (fun z788 e788 l788 r788 => ?_)
  refine ne_aload_n X dL_law_789 rfl ?_
  refine ne_iload X dL_law_790 rfl ?_
  refine ne_iconst X dL_law_792 ?_
  refine ne_iadd X dL_law_793 ?_
  refine ne_sld X hX hbl hbA hb0 (by decide) (by omega) dL_law_794 (fun z794 e794 l794 r794 => ?_)
  refine ne_aload_n X dL_law_795 rfl ?_
  refine ne_callSFW (is := [1, 2, 3, 4, 5, 6, 7, 8, 9, 10, 11, 12, 20, 21]) X nw_Tg (me_L_share l hl c q t b k n h x y T hI (by omega) u s8 hs8 _ _ _ (by omega) (by omega) (by omega)) nw_yL_share nw_mL_210 nw_sL_share dL_law_796 rfl rfl (by decide) (by decide) (by first | decide | omega) (by first | decide | omega) (Nat.le_of_ble_eq_true rfl) (hcw _ _ _ _ _ _ _ _ _ _ _ _ _ _ _ _ _) rfl rfl (Nat.le_of_ble_eq_true rfl) lw_pt1 ?_ ?_
  rotate_left
  · rintro E9 w9 h9; exact h9.elim
  rintro v796 w796 ⟨c1, q1, h1, u1, rfl, hI1, z796, rfl, g796⟩
  refine ne_ws lw_mg1 ?_
  refine ne_istore X dL_law_799 (by decide) ?_
  refine ne_aload_n X dL_law_801 rfl ?_
  refine ne_aload_n X dL_law_802 rfl ?_
  refine ne_iload X dL_law_803 rfl ?_
  refine ne_iconst X dL_law_805 ?_
  refine ne_iadd X dL_law_806 ?_
  refine ne_sld X hX hbl hbA hb0 (by decide) (by omega) dL_law_807 (fun z807 e807 l807 r807 => ?_)
  have y807 : z782 = z807 := e782.trans e807.symm
  subst y807
  refine ne_aload_n X dL_law_808 rfl ?_
  refine ne_iload X dL_law_809 rfl ?_
  refine ne_iconst X dL_law_811 ?_
  refine ne_iadd X dL_law_812 ?_
  refine ne_sld X hX hbl hbA hb0 (by decide) (by omega) dL_law_813 (fun z813 e813 l813 r813 => ?_)
  have y813 : z788 = z813 := e788.trans e813.symm
  subst y813
  refine ne_aload_n X dL_law_814 rfl ?_
  refine ne_iload X dL_law_815 rfl ?_
  refine ne_iconst X dL_law_817 ?_
  refine ne_iadd X dL_law_818 ?_
  refine ne_sld X hX hbl hbA hb0 (by decide) (by omega) dL_law_819 (fun z819 e819 l819 r819 => ?_)
  have y819 : z794 = z819 := e794.trans e819.symm
  subst y819
  refine ne_callVF (is := [13, 14, 15, 16, 17, 18, 19]) X nw_Tg (me_X3_shareW l hl c q t b k h mv9 T hM (by omega) _ _ _ (by omega) (by omega) (by omega)) nw_yX3_share nw_mL_212 nw_iX3_share nw_eX3_share (ci := 5) rfl rfl rfl dL_law_820 rfl rfl (by decide) (by decide) (by first | decide | omega) (by first | decide | omega) (Nat.le_of_ble_eq_true rfl) (hcw _ _ _ _ _ _ _ _ _ _ _ _ _ _ _ _ _) rfl rfl (Nat.le_of_ble_eq_true rfl) lw_pt2 ?_ ?_
  rotate_left
  · rintro E9 w9 h9; exact h9.elim
  rintro v820 w820 ⟨c2, q2, h2, mv91, z820, rfl, hM1, rfl, g820⟩
  refine ne_ws lw_mg2 ?_
  obtain ⟨hk, hu, e7, e8, e9⟩ := cn_share g796 g820
  subst e7 e8 e9
  refine ne_istore X dL_law_823 (by decide) ?_
  refine ne_ll (L' := [some (.ref 0), some (.ref 1), some (.ref 13), some (.ref 20), some (ni _), some (ni _), some (ni _)]) rfl ?_
  refine ne_goto (tgt := 2324) X dL_law_825 rfl ?_
  refine ne_lnone 5 (ne_lnone 6 ?_)
  refine ne_ll (L' := [some (.ref 0), some (.ref 1), some (.ref 13), some (.ref 20), some (ni i), none, none]) rfl ?_
  refine ne_less (C' := C - 500) (S' := S - 3500) (by omega) (by omega) ?_
  exact kk _ _ _ _ _ _ _ _ _ _ _ _ hI1 hM1 hP hs
set_option maxRecDepth 100000 in
set_option maxHeartbeats 4000000 in
theorem lc_11 (hl : l.stackTraces = false) (X : ne_F nw_cl D ct A p l room_1 s9 m args meth c9 RL cL_law 7 nw_T 20 1000 600128 7301098) (hX : va_X b9 N9 xs s9 s9.heap) (hbl : b9 < s9.heap.size) (hbA : ¬ A b9) (hb0 : ad0 0 = b9) (i T : Int) (hi : 0 ≤ i ∧ i + 6 ≤ N9 ∧ N9 ≤ 384) (hT : 0 ≤ T ∧ T ≤ 100) (c q t b k n h x y  : Nat → Int) (mv9 u : Int) (sv : Value) (hI : cI c q t b k n h x y T) (hM : mI c q t b k h mv9 T) (hP : ∀ j : Nat, ne_per (t j) (b j) (n j)) (hs : sv = .null ∨ sv = .ref 21) (C S : Nat) (hC : 500 ≤ C) (hS : 3500 ≤ S) (kk : ∀ (c q t b k n h x y  : Nat → Int) (mv9 u : Int) (sv : Value), cI c q t b k n h x y (T + 1) → mI c q t b k h mv9 (T + 1) → (∀ j : Nat, ne_per (t j) (b j) (n j)) → (sv = .null ∨ sv = .ref 21) → ne_G nw_cl D ct A 1 ad0 p l e room_1 s9 m args below meth c9 Q9 7 600128 7301098 (C - 500) (S - 3500) 2324 [some (.ref 0), some (.ref 1), some (.ref 13), some (.ref 20), some (ni i), none, none] [] (lW c q t b k n h x y c q t b k h mv9 (nl u) sv)) : ne_G nw_cl D ct A 1 ad0 p l e room_1 s9 m args below meth c9 Q9 7 600128 7301098 C S 828 [some (.ref 0), some (.ref 1), some (.ref 13), some (.ref 20), some (ni i), none, none] [] (lW c q t b k n h x y c q t b k h mv9 (nl u) sv) := by
  obtain ⟨s8, hs8, rfl⟩ : ∃ s8 : Value, (s8 = .null ∨ s8 = .ref 13) ∧ sv = ne_rn [1, 2, 3, 4, 5, 6, 7, 8, 9, 10, 11, 12, 20, 21] 22 s8 := by
    rcases hs with rfl | rfl
    · exact ⟨.null, Or.inl rfl, rfl⟩
    · exact ⟨.ref 13, Or.inr rfl, rfl⟩
  have hcw : ∀ (c q t b k n h x y mc9 mq9 mt9 mb9 mk9 mh9 : Nat → Int) (mv9 u : Int), ne_cw 22 (lW c q t b k n h x y mc9 mq9 mt9 mb9 mk9 mh9 mv9 (nl u) (ne_rn [1, 2, 3, 4, 5, 6, 7, 8, 9, 10, 11, 12, 20, 21] 22 s8)) = true := by
    intros
    rcases hs8 with rfl | rfl <;> rfl
  refine ne_aload_n X dL_law_828 rfl ?_
  refine ne_aload_n X dL_law_829 rfl ?_
  refine ne_iload X dL_law_830 rfl ?_
  refine ne_iconst X dL_law_832 ?_
  refine ne_iadd X dL_law_833 ?_
  refine ne_sld X hX hbl hbA hb0 (by decide) (by omega) dL_law_834 (fun z834 e834 l834 r834 => ?_)
  refine ne_aload_n X dL_law_835 rfl ?_
  refine ne_iload X dL_law_836 rfl ?_
  refine ne_iconst X dL_law_838 ?_
  refine ne_iadd X dL_law_839 ?_
  refine ne_sld X hX hbl hbA hb0 (by decide) (by omega) dL_law_840 (fun z840 e840 l840 r840 => ?_)
  refine ne_aload_n X dL_law_841 rfl ?_
  refine ne_iload X dL_law_842 rfl ?_
  refine ne_iconst X dL_law_844 ?_
  refine ne_iadd X dL_law_845 ?_
  refine ne_sld X hX hbl hbA hb0 (by decide) (by omega) dL_law_846 (fun z846 e846 l846 r846 => ?_)
  refine ne_aload_n X dL_law_847 rfl ?_
  refine ne_callSFW (is := [1, 2, 3, 4, 5, 6, 7, 8, 9, 10, 11, 12, 20, 21]) X nw_Tg (me_L_whole l hl c q t b k n h x y T hI (by omega) u s8 hs8 _ _ _ (by omega) (by omega) (by omega)) nw_yL_whole nw_mL_213 nw_sL_whole dL_law_848 rfl rfl (by decide) (by decide) (by first | decide | omega) (by first | decide | omega) (Nat.le_of_ble_eq_true rfl) (hcw _ _ _ _ _ _ _ _ _ _ _ _ _ _ _ _ _) rfl rfl (Nat.le_of_ble_eq_true rfl) lw_pt1 ?_ ?_
  rotate_left
  · rintro E9 w9 h9; exact h9.elim
  rintro v848 w848 ⟨c1, q1, h1, u1, rfl, hI1, z848, rfl, g848⟩
  refine ne_ws lw_mg1 ?_
  refine ne_istore X dL_law_851 (by decide) ?_
  refine ne_aload_n X dL_law_853 rfl ?_
  refine ne_aload_n X dL_law_854 rfl ?_
  refine ne_iload X dL_law_855 rfl ?_
  refine ne_iconst X dL_law_857 ?_
  refine ne_iadd X dL_law_858 ?_
  refine ne_sld X hX hbl hbA hb0 (by decide) (by omega) dL_law_859 (fun z859 e859 l859 r859 => ?_)
  have y859 : z834 = z859 := e834.trans e859.symm
  subst y859
  refine ne_aload_n X dL_law_860 rfl ?_
  refine ne_iload X dL_law_861 rfl ?_
  refine ne_iconst X dL_law_863 ?_
  refine ne_iadd X dL_law_864 ?_
  refine ne_sld X hX hbl hbA hb0 (by decide) (by omega) dL_law_865 (fun z865 e865 l865 r865 => ?_)
  have y865 : z840 = z865 := e840.trans e865.symm
  subst y865
  refine ne_aload_n X dL_law_866 rfl ?_
  refine ne_iload X dL_law_867 rfl ?_
  refine ne_iconst X dL_law_869 ?_
  refine ne_iadd X dL_law_870 ?_
  refine ne_sld X hX hbl hbA hb0 (by decide) (by omega) dL_law_871 (fun z871 e871 l871 r871 => ?_)
  have y871 : z846 = z871 := e846.trans e871.symm
  subst y871
  refine ne_callVF (is := [13, 14, 15, 16, 17, 18, 19]) X nw_Tg (me_X3_wholeW l hl c q t b k h mv9 T hM (by omega) _ _ _ (by omega) (by omega) (by omega)) nw_yX3_whole nw_mL_215 nw_iX3_whole nw_eX3_whole (ci := 5) rfl rfl rfl dL_law_872 rfl rfl (by decide) (by decide) (by first | decide | omega) (by first | decide | omega) (Nat.le_of_ble_eq_true rfl) (hcw _ _ _ _ _ _ _ _ _ _ _ _ _ _ _ _ _) rfl rfl (Nat.le_of_ble_eq_true rfl) lw_pt2 ?_ ?_
  rotate_left
  · rintro E9 w9 h9; exact h9.elim
  rintro v872 w872 ⟨c2, q2, h2, mv91, z872, rfl, hM1, rfl, g872⟩
  refine ne_ws lw_mg2 ?_
  obtain ⟨hk, hu, e7, e8, e9⟩ := cn_whole g848 g872
  subst e7 e8 e9
  refine ne_istore X dL_law_875 (by decide) ?_
  refine ne_ll (L' := [some (.ref 0), some (.ref 1), some (.ref 13), some (.ref 20), some (ni _), some (ni _), some (ni _)]) rfl ?_
  refine ne_goto (tgt := 2324) X dL_law_877 rfl ?_
  refine ne_lnone 5 (ne_lnone 6 ?_)
  refine ne_ll (L' := [some (.ref 0), some (.ref 1), some (.ref 13), some (.ref 20), some (ni i), none, none]) rfl ?_
  refine ne_less (C' := C - 500) (S' := S - 3500) (by omega) (by omega) ?_
  exact kk _ _ _ _ _ _ _ _ _ _ _ _ hI1 hM1 hP hs
end LAWS
