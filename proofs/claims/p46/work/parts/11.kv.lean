section NEV
variable {cl : List vw_C} {D : va_G} {ct : Nat → ClassId} {A : Nat → Prop} {n0 : Nat} {ad0 : Nat → Nat} {p : Program} {l : Launch} {e : Env} {R : Room} {s : State} {m : MethodId} {args : Array Value} {below : List Frame} {meth : Method} {c : Code} {Q : State → Prop} {own : String} {cc : ByteArray} {nL : Nat} {Ts : List Cond} {fr lo mc ms C S pc : Nat} {L : List (Option Value)} {st : List Value} {ws : ne_W}
/-- less of the world -/
theorem ne_drop {ws' : ne_W} (h : ∀ (i : Nat) (e9 : ne_E), ws'[i]? = some (some e9) → ws[i]? = some (some e9)) (kk : ne_G cl D ct A n0 ad0 p l e R s m args below meth c Q nL mc ms C S pc L st ws') : ne_G cl D ct A n0 ad0 p l e R s m args below meth c Q nL mc ms C S pc L st ws := fun H locs cells slots ad ls h1 h2 h3 h4 h5 h6 h7 =>
  kk H locs cells slots ad ls h1 h2 h3 (ne_Piff.mpr fun i e9 hi => ne_Piff.mp h4 i e9 (h i e9 hi)) (ne_Diff.mpr ⟨fun i j a b hi hj hq => (ne_Diff.mp h5).1 i j a b (h i a hi) (h j b hj) hq, fun i a hi => (ne_Diff.mp h5).2 i a (h i a hi)⟩) h6 h7
theorem ne_dropA {g : ne_W} (kk : ne_G cl D ct A n0 ad0 p l e R s m args below meth c Q nL mc ms C S pc L st ws) : ne_G cl D ct A n0 ad0 p l e R s m args below meth c Q nL mc ms C S pc L st (ws ++ g) := ne_drop (fun i e9 hi => by rw [List.getElem?_append_left (List.getElem?_eq_some_iff.mp hi).1]; exact hi) kk
def ne_vv (is : List Nat) (v : Value) : Value := match v with
  | .ref j => .ref (is.getD j 0)
  | w => w
def ne_vc (is : List Nat) (e : ne_E) : ne_E := match e with
  | .inl a => .inl a
  | .inr o => .inr (o.1, o.2.map (ne_vv is))
def ne_vE (is : List Nat) (o : Option ne_E) : Option ne_E := match o with
  | some e => some (ne_vc is e)
  | none => none
/-- the same state, its places counted anew: is names the old place of each new one -/
theorem ne_view (is : List Nat) {ws' : ne_W} {L' : List (Option Value)} {st' : List Value} (hw : is.map (fun i => ws.getD i none) = ws'.map (ne_vE is)) (hnd : is.Nodup) (hlt : ∀ i ∈ is, i < ws.length) (hL : L = L'.map (Option.map (ne_vv is))) (hs : st = st'.map (ne_vv is)) (hn : ∀ k, k < n0 → is.getD k 0 = k) (kk : ne_G cl D ct A n0 ad0 p l e R s m args below meth c Q nL mc ms C S pc L' st' ws') : ne_G cl D ct A n0 ad0 p l e R s m args below meth c Q nL mc ms C S pc L st ws := fun H locs cells slots ad ls h1 h2 h3 h4 h5 h6 h7 => by
  have hv : ∀ v, ne_v (fun k => ad (is.getD k 0)) v = ne_v ad (ne_vv is v) := fun v => by cases v <;> rfl
  have hc : ∀ e9 : ne_E, ne_c ct (fun k => ad (is.getD k 0)) e9 = ne_c ct ad (ne_vc is e9) := fun e9 => by
    cases e9 with
    | inl a => rfl
    | inr o =>
      simp only [ne_c, ne_vc, List.map_map]
      congr 2
      exact List.map_congr_left fun v _ => hv v
  have at9 : ∀ {j : Nat} {e1 : ne_E}, ws'[j]? = some (some e1) → is[j]? = some (is.getD j 0) ∧ ws[is.getD j 0]? = some (some (ne_vc is e1)) := by
    intro j e1 h
    have a1 := congrArg (fun z => z[j]?) hw
    simp only [List.getElem?_map, h, Option.map_some] at a1
    cases a2 : is[j]? with
    | none => rw [a2] at a1; simp at a1
    | some i =>
      rw [a2] at a1
      simp only [Option.map_some, Option.some.injEq] at a1
      have a4 : is.getD j 0 = i := by rw [List.getD_eq_getElem?_getD, a2]; rfl
      have a5 : i < ws.length := hlt i (List.mem_of_getElem? a2)
      rw [a4]
      refine ⟨rfl, ?_⟩
      rw [List.getD_eq_getElem?_getD, List.getElem?_eq_getElem a5] at a1
      rw [List.getElem?_eq_getElem a5]
      simp only [Option.getD_some] at a1
      rw [a1]
      rfl
  have k9 := kk H locs cells slots (fun k => ad (is.getD k 0)) ls (fun k hk => by
      show ad (is.getD k 0) = ad0 k
      rw [hn k hk]; exact h1 k hk) h2 h3 (ne_Piff.mpr fun j e1 hj => by
      obtain ⟨b1, b2⟩ := at9 hj
      rw [hc]
      exact ne_Piff.mp h4 _ _ b2) (ne_Diff.mpr ⟨fun i j a b hi hj hq => by
      obtain ⟨b1, b2⟩ := at9 hi
      obtain ⟨c1, c2⟩ := at9 hj
      have h9 := (ne_Diff.mp h5).1 _ _ _ _ b2 c2 hq
      rw [h9] at b1
      exact (List.getElem?_inj (List.getElem?_eq_some_iff.mp b1).1 hnd).mp (b1.trans c1.symm), fun i a hi => by
      obtain ⟨b1, b2⟩ := at9 hi
      exact (ne_Diff.mp h5).2 _ _ b2⟩) h6 (by
      refine ⟨h7.1, h7.2.1, fun q hq => h7.2.2 q ?_⟩
      obtain ⟨k, v, a1, a2⟩ := ne_l_mem.mp hq
      refine ne_l_mem.mpr ⟨k, ne_vv is v, ?_, by rw [a2, hv]⟩
      rw [hL, List.getElem?_map, a1]
      rfl)
  have e3 : List.map (ne_v ad) st = List.map (ne_v (fun k => ad (is.getD k 0))) st' := by
    rw [hs, List.map_map]
    exact List.map_congr_left fun v _ => (hv v).symm
  rw [e3]
  exact k9

/-- a place that a call leaves where it is -/
def ne_xk (is : List Nat) (nk k : Nat) : Bool := match ne_fi is k with
  | some j => decide (j < nk)
  | none => true
def ne_xv (is : List Nat) (nk n : Nat) (v : Value) : Bool := match v with
  | .ref k => decide (k < n) && ne_xk is nk k
  | _ => true
def ne_xw (is : List Nat) (nk : Nat) (ws : ne_W) : Bool := (List.range ws.length).all (fun i => match ne_fi is i with
  | some _ => true
  | none => match ws.getD i none with
    | some (.inr o) => o.2.all (ne_xv is nk ws.length)
    | _ => true)
def ne_xl (is : List Nat) (nk n : Nat) (L : List (Option Value)) : Bool := L.all (fun o => match o with
  | some v => ne_xv is nk n v
  | none => true)
theorem ne_xl_eq {is : List Nat} {nk n : Nat} {ad ad' : Nat → Nat} (ha : ∀ v, ne_xv is nk n v = true → ne_v ad' v = ne_v ad v) : ∀ {L : List (Option Value)} {i : Nat}, ne_xl is nk n L = true → ne_l ad' i L = ne_l ad i L
  | [], i, _ => rfl
  | none :: t, i, h => by
    rw [ne_l, ne_l]
    simp only [ne_xl, List.all_cons, Bool.and_eq_true] at h
    exact ne_xl_eq ha h.2
  | some v :: t, i, h => by
    rw [ne_l, ne_l]
    simp only [ne_xl, List.all_cons, Bool.and_eq_true] at h
    rw [ne_xl_eq ha (L := t) h.2, ha v h.1]
/-- a contract that leaves the first nk cells where they are -/
def ne_MK (l : Launch) (cl : List vw_C) (cw : Cond) (Ts : List Cond) (y : MethodName) (fr lo mc ms nk : Nat) (as : List Value) (ws : ne_W) (post : Option Value → ne_W → Prop) (px : String → ne_W → Prop) : Prop :=
  ∀ (D : va_G) (ct : Nat → ClassId) (ad : Nat → Nat) (sz : Nat), vx_Met l y (cw :: Ts) { frames := fr, cells := mc, slots := ms, locals := lo }
    (va_Pc (as.map (ne_v ad)) (fun U => U.heap.size = sz ∧ va_P D cl (ne_w ct ad 0 ws) U.heap ∧ va_K D cl (ne_ty ct) U ∧ va_D (fun _ => True) (ne_w ct ad 0 ws) ∧ ne_Z (va_A (ne_w ct ad 0 ws) sz) U U.heap))
    (ne_Q cl D ct ad nk (va_A (ne_w ct ad 0 ws) sz) post) (ne_XC cl D ct ad nk (va_A (ne_w ct ad 0 ws) sz) px) mc ms (va_A (ne_w ct ad 0 ws) sz)
/-- the caller's view behind the call -/
theorem ne_backK {H H1 : Heap} {ad ad1 : Nat → Nat} {is : List Nat} {wc ws1 : ne_W} (hp : ne_pt ws is wc) {nk : Nat} (hw : ne_xw is nk ws = true) (hA : ∀ q, va_A (ne_w ct (ne_ac is ws.length ad) 0 wc) H.size q → A q) (h4 : va_P D cl (ne_w ct ad 0 ws) H) (h5 : va_D A (ne_w ct ad 0 ws)) (hlen : wc.length = is.length) (hag : ∀ k, k < nk → ad1 k = ne_ac is ws.length ad k) (hP1 : va_P D cl (ne_w ct ad1 0 ws1) H1) (hD1 : va_D (va_A (ne_w ct (ne_ac is ws.length ad) 0 wc) H.size) (ne_w ct ad1 0 ws1)) (hk : ∀ q : Nat, q < H.size → ¬ va_A (ne_w ct (ne_ac is ws.length ad) 0 wc) H.size q → H1[q]? = H[q]?) :
    ∃ ad2 : Nat → Nat, (∀ k, k < ws.length → ne_xk is nk k = true → ad2 k = ad k) ∧ (∀ v, ne_xv is nk ws.length v = true → ne_v ad2 v = ne_v ad v) ∧ (∀ v, ne_v ad2 (ne_rn is ws.length v) = ne_v ad1 v) ∧ va_P D cl (ne_w ct ad2 0 (ne_mg ws is ws1)) H1 ∧ va_D A (ne_w ct ad2 0 (ne_mg ws is ws1)) := by
  obtain ⟨ad2, had2⟩ : ∃ f : Nat → Nat, f = fun i => match ne_fi is i with
    | some j => ad1 j
    | none => if i < ws.length then ad i else ad1 (is.length + (i - ws.length)) := ⟨_, rfl⟩
  have hrpi : ∀ {i j : Nat}, ne_fi is i = some j → ne_rp is ws.length j = i := fun {i j} hf => by
    have hj := ne_fi_some hf
    have hjl : j < is.length := (List.getElem?_eq_some_iff.mp hj).1
    unfold ne_rp
    rw [if_pos hjl, List.getD_eq_getElem?_getD, hj]; rfl
  have e1 : ∀ k, k < ws.length → ne_xk is nk k = true → ad2 k = ad k := fun k hk hx => by
    rw [had2]
    cases hf : ne_fi is k with
    | none => simp [hf, hk]
    | some j =>
      simp only [hf]
      have hjk : j < nk := by simpa [ne_xk, hf] using hx
      rw [hag j hjk]
      show ad (ne_rp is ws.length j) = ad k
      rw [hrpi hf]
  have e0 : ∀ k, k < ws.length → ne_fi is k = none → ad2 k = ad k := fun k hk hf => e1 k hk (by simp [ne_xk, hf])
  have e2 : ∀ j, ad2 (ne_rp is ws.length j) = ad1 j := fun j => by
    by_cases hj : j < is.length
    · have h1 : ne_rp is ws.length j < ws.length := by
        unfold ne_rp
        rw [if_pos hj, List.getD_eq_getElem?_getD, List.getElem?_eq_getElem hj]
        exact hp.2.2 _ (List.getElem_mem hj)
      have h2 : is[j]? = some (ne_rp is ws.length j) := by
        unfold ne_rp
        rw [if_pos hj, List.getD_eq_getElem?_getD, List.getElem?_eq_getElem hj]; rfl
      rw [had2]
      cases hf : ne_fi is (ne_rp is ws.length j) with
      | none => exact absurd h2 (ne_fi_none hf j)
      | some j' =>
        simp only [hf]
        rw [ne_pt_nd hp (ne_fi_some hf) h2]
    · have h1 : ne_rp is ws.length j = ws.length + (j - is.length) := by unfold ne_rp; rw [if_neg hj]
      rw [h1, had2]
      have hf : ne_fi is (ws.length + (j - is.length)) = none := by
        cases hf : ne_fi is (ws.length + (j - is.length)) with
        | none => rfl
        | some j' => have := hp.2.2 _ (List.mem_of_getElem? (ne_fi_some hf)); omega
      simp only [hf, show ¬ (ws.length + (j - is.length) < ws.length) by omega, if_false]
      congr 1
      omega
  have e3 : ∀ v, ne_v ad2 (ne_rn is ws.length v) = ne_v ad1 v := fun v => by
    cases v with
    | ref j => show Value.ref _ = Value.ref _; rw [e2]
    | _ => rfl
  have e4 : ∀ e9 : ne_E, ne_c ct ad2 (ne_rc is ws.length e9) = ne_c ct ad1 e9 := fun e9 => by
    cases e9 with
    | inl a => rfl
    | inr o =>
      simp only [ne_c, ne_rc, List.map_map]
      congr 2
      exact List.map_congr_left fun v _ => e3 v
  have ev : ∀ v, ne_xv is nk ws.length v = true → ne_v ad2 v = ne_v ad v := fun v hv => by
    cases v with
    | ref k => 
      simp only [ne_xv, Bool.and_eq_true, decide_eq_true_eq] at hv
      show Value.ref _ = Value.ref _
      rw [e1 k hv.1 hv.2]
    | _ => rfl
  have e5 : ∀ {i : Nat} {e9 : ne_E}, ne_fi is i = none → ws[i]? = some (some e9) → ne_c ct ad2 e9 = ne_c ct ad e9 := fun {i e9} hf hi => by
    have hlt := (List.getElem?_eq_some_iff.mp hi).1
    have h9 := List.all_eq_true.mp hw i (List.mem_range.mpr hlt)
    simp only [hf, List.getD_eq_getElem?_getD, hi, Option.getD_some] at h9
    cases e9 with
    | inl a => rfl
    | inr o =>
      have h8 : o.2.all (ne_xv is nk ws.length) = true := h9
      simp only [ne_c]
      congr 2
      exact List.map_congr_left fun v hv => ev v (List.all_eq_true.mp h8 v hv)
  -- what lies at a place of the new world
  have key : ∀ (i : Nat) (e9 : ne_E), (ne_mg ws is ws1)[i]? = some (some e9) → (∃ j e8, ws1[j]? = some (some e8) ∧ i = ne_rp is ws.length j ∧ e9 = ne_rc is ws.length e8) ∨ (i < ws.length ∧ ne_fi is i = none ∧ ws[i]? = some (some e9)) := by
    intro i e9 hi
    by_cases h : i < ws.length
    · rw [ne_mg_lt h] at hi
      cases hf : ne_fi is i with
      | none =>
        rw [hf] at hi
        refine Or.inr ⟨h, rfl, ?_⟩
        rw [List.getD_eq_getElem?_getD, List.getElem?_eq_getElem h] at hi
        rw [List.getElem?_eq_getElem h]
        simpa using hi
      | some j =>
        rw [hf] at hi
        have hj := ne_fi_some hf
        have hjl : j < is.length := (List.getElem?_eq_some_iff.mp hj).1
        simp only [Option.some.injEq] at hi
        cases hz : ws1.getD j none with
        | none => rw [hz] at hi; simp [ne_rE] at hi
        | some e8 =>
          rw [hz] at hi
          simp only [ne_rE, Option.some.injEq] at hi
          refine Or.inl ⟨j, e8, ?_, ?_, hi.symm⟩
          · rw [List.getD_eq_getElem?_getD] at hz
            cases hq : ws1[j]? with
            | none => rw [hq] at hz; simp at hz
            | some o => rw [hq] at hz; simp only [Option.getD_some] at hz; rw [hz]
          · unfold ne_rp
            rw [if_pos hjl, List.getD_eq_getElem?_getD, hj]; rfl
    · rw [ne_mg_ge (by omega)] at hi
      cases hq : ws1[is.length + (i - ws.length)]? with
      | none => rw [hq] at hi; simp at hi
      | some o =>
        rw [hq] at hi
        cases o with
        | none => simp [ne_rE] at hi
        | some e8 =>
          simp only [Option.map_some, ne_rE, Option.some.injEq] at hi
          refine Or.inl ⟨_, e8, hq, ?_, hi.symm⟩
          unfold ne_rp
          rw [if_neg (by omega)]
          omega
  -- the cells that are not the callee's
  have oth : ∀ (i : Nat) (e9 : ne_E), i < ws.length → ne_fi is i = none → ws[i]? = some (some e9) → ad i < H.size ∧ ¬ va_A (ne_w ct (ne_ac is ws.length ad) 0 wc) H.size (ad i) := by
    intro i e9 h hf hi
    have hlt : ad i < H.size := (ne_Piff.mp h4 i e9 hi).lt
    refine ⟨hlt, ?_⟩
    rintro (⟨k, x, hkx⟩ | hq)
    · obtain ⟨j, e8, b1, b2, b3⟩ := ne_ix_of hkx
      rw [Nat.zero_add] at b3
      obtain ⟨a1, a2, a3, a4⟩ := ne_pt_at hp b1
      have h9 : ad i = ad (ne_rp is ws.length j) := congrArg Prod.fst b3
      have h10 := (ne_Diff.mp h5).1 _ _ _ _ hi a4 h9
      rw [← h10] at a3
      exact ne_fi_none hf j a3
    · omega
  refine ⟨ad2, e1, ev, e3, ne_Piff.mpr fun i e9 hi => ?_, ne_Diff.mpr ⟨fun i j e9 e8 hi hj hq => ?_, fun i e9 hi => ?_⟩⟩
  · rcases key i e9 hi with ⟨j, e8, a1, rfl, rfl⟩ | ⟨a1, a2, a3⟩
    · rw [e2, e4]
      exact ne_Piff.mp hP1 _ _ a1
    · rw [e0 i a1 a2, e5 a2 a3]
      obtain ⟨b1, b2⟩ := oth i e9 a1 a2 a3
      exact (ne_Piff.mp h4 i e9 a3).kept (hk _ b1 b2)
  · rcases key i e9 hi with ⟨i', e7, a1, rfl, rfl⟩ | ⟨a1, a2, a3⟩
    · rcases key j e8 hj with ⟨j', e6, b1, rfl, rfl⟩ | ⟨b1, b2, b3⟩
      · rw [e2, e2] at hq
        rw [(ne_Diff.mp hD1).1 _ _ _ _ a1 b1 hq]
      · rw [e2, e0 j b1 b2] at hq
        have h9 := (ne_Diff.mp hD1).2 _ _ a1
        rw [hq] at h9
        exact absurd h9 (oth j e8 b1 b2 b3).2
    · rcases key j e8 hj with ⟨j', e6, b1, rfl, rfl⟩ | ⟨b1, b2, b3⟩
      · rw [e2, e0 i a1 a2] at hq
        have h9 := (ne_Diff.mp hD1).2 _ _ b1
        rw [← hq] at h9
        exact absurd h9 (oth i e9 a1 a2 a3).2
      · rw [e0 i a1 a2, e0 j b1 b2] at hq
        exact (ne_Diff.mp h5).1 _ _ _ _ a3 b3 hq
  · rcases key i e9 hi with ⟨i', e7, a1, rfl, rfl⟩ | ⟨a1, a2, a3⟩
    · rw [e2]
      exact hA _ ((ne_Diff.mp hD1).2 _ _ a1)
    · rw [e0 i a1 a2]
      exact (ne_Diff.mp h5).2 _ _ a3

theorem ne_afterK {H : Heap} {locs : List Loc} {cells slots mc1 ms1 : Nat} {ad : Nat → Nat} {ls : Array Slot} {st0 : List Value} {a9 : Array Value} {is : List Nat} {nk : Nat} {wc : ne_W} {post : Option Value → ne_W → Prop} {px : String → ne_W → Prop} (X : ne_F cl D ct A p l R s m args meth c own cc nL Ts fr lo mc ms) (hp : ne_pt ws is wc) (hA1 : ∀ q, va_A (ne_w ct (ne_ac is ws.length ad) 0 wc) H.size q → A q) (hr : vx_Run p l e R s m args below meth c H locs cells slots mc1 ms1 (F0 m pc ls st0) (st.map (ne_v ad)) (ne_Q cl D ct (ne_ac is ws.length ad) nk (va_A (ne_w ct (ne_ac is ws.length ad) 0 wc) H.size) post a9) (ne_XC cl D ct (ne_ac is ws.length ad) nk (va_A (ne_w ct (ne_ac is ws.length ad) 0 wc) H.size) px) (va_A (ne_w ct (ne_ac is ws.length ad) 0 wc) H.size))
    (h1 : ∀ k, k < n0 → ad k = ad0 k) (h2 : cells + C ≤ mc) (h3 : slots + S ≤ ms) (h4 : va_P D cl (ne_w ct ad 0 ws) H) (h5 : va_D A (ne_w ct ad 0 ws)) (h6 : va_S A s.heap H locs) (h7 : lv_has ls nL (ne_l ad 0 L)) (hC : mc1 ≤ C) (hS : ms1 ≤ S) (hn0 : n0 ≤ ws.length) (hx0 : (List.range n0).all (ne_xk is nk) = true) (hw : ne_xw is nk ws = true) (hl : ne_xl is nk ws.length L = true) (hs : st.all (ne_xv is nk ws.length) = true)
    (kk : ∀ (v : Option Value) (ws1 : ne_W), post v ws1 → ne_G cl D ct A n0 ad0 p l e R s m args below meth c Q nL mc ms (C - mc1) (S - ms1) (pc + 3) L ((v.map (ne_rn is ws.length)).toList ++ st) (ne_mg ws is ws1)) (kx : ∀ (E : String) (ws1 : ne_W), px E ws1 → ne_T cl D ct A n0 ad0 p l e R s m args below meth c Q nL mc ms (C - mc1) (S - ms1) pc L E (ne_mg ws is ws1)) : W p l e R s m args below meth c H locs cells slots Q (F0 m pc ls st0) := by
  have hlen : wc.length = is.length := by have := congrArg List.length hp.1; simpa using this.symm
  have hx : ∀ k, k < n0 → ne_xk is nk k = true := fun k hk => List.all_eq_true.mp hx0 k (List.mem_range.mpr hk)
  intro T hT Y
  rcases hr T hT Y with ⟨v, st₀, t, T', L9, h0, Y', hL, e1, e2, ⟨v', ws1, ad1, hv, hpo, hag, hP1, hD1, hF1⟩, stp⟩ | ⟨q, st₀, t, T', L9, E, ce, h0, Y', hL, e1, e2, ⟨ws1, ad1, hpo, hag, hP1, hD1, hF1⟩, hce, hcv, hcl, stp⟩
  · have hv2 : v = v'.map (ne_v ad1) := by injection hv
    subst hv2
    obtain ⟨k1, k2, k3⟩ := vx_keep h0 e1 h6 (fun q _ h => hA1 q h) hA1 hL hF1
    obtain ⟨ad2, f1, f5, f2, f3, f4⟩ := ne_backK (ct := ct) (A := A) hp hw hA1 h4 h5 hlen hag (by rw [e1]; exact hP1 : va_P D cl (ne_w ct ad1 0 ws1) T'.heap) hD1 k2
    obtain ⟨t2, a1, b1⟩ := kk v' ws1 hpo T'.heap (locs ++ L9) (cells + mc1) (slots + ms1) ad2 ls (fun k hk => (f1 k (by omega) (hx k hk)).trans (h1 k hk)) (by omega) (by omega) f3 f4 k3 (by rw [ne_xl_eq f5 hl]; exact h7) T' rfl Y'
    have hst : ((v'.map (ne_rn is ws.length)).toList ++ st).map (ne_v ad2) = (v'.map (ne_v ad1)).toList ++ st.map (ne_v ad) := by
      rw [List.map_append, List.map_congr_left (fun v hv => f5 v (List.all_eq_true.mp hs v hv))]
      cases v' with
      | none => rfl
      | some v => simp only [Option.map_some, Option.toList_some, List.map_cons, List.map_nil, f2]
    rw [hst] at a1
    exact ⟨t2, stp t2 a1, b1⟩
  · obtain ⟨k1, k2, k3⟩ := vx_keep h0 e1 h6 (fun q _ h => hA1 q h) hA1 hL hF1
    obtain ⟨ad2, f1, f5, f2, f3, f4⟩ := ne_backK (ct := ct) (A := A) hp hw hA1 h4 h5 hlen hag (by rw [e1]; exact hP1 : va_P D cl (ne_w ct ad1 0 ws1) T'.heap) hD1 k2
    obtain ⟨t2, a1, b1⟩ := kx E ws1 hpo T'.heap (locs ++ L9) (cells + mc1) (slots + ms1) ad2 ls (st.map (ne_v ad)) q ce (fun k hk => (f1 k (by omega) (hx k hk)).trans (h1 k hk)) (by omega) (by omega) f3 f4 k3 (by rw [ne_xl_eq f5 hl]; exact h7) (by rw [e1]; exact hce) hcv hcl T' rfl Y'
    exact ⟨t2, stp.trans a1, b1⟩

theorem ne_callVK {y : MethodName} {bytes : ByteArray} {maxL n ix fr1 lo1 mc1 ms1 : Nat} {ret : Option FieldType} {as st1 : List Value} {is : List Nat} {nk : Nat} {wc : ne_W} {post : Option Value → ne_W → Prop} {px : String → ne_W → Prop} {q ci : Nat} {fs : List Value} {r : vw_C} (X : ne_F cl D ct A p l R s m args meth c own cc nL Ts fr lo mc ms) (hg : ∀ w ∈ Ts, goodWord w = true) (hM : ne_MK l cl (.code y bytes maxL ret) Ts y fr1 lo1 mc1 ms1 nk (.ref q :: as) wc post px) (hy : ne_cy y (.code y bytes maxL ret) n Ts) (hw1 : Cond.methodLink own ix y ∈ Ts) (hw2 : Cond.instanceMethod y ∈ Ts) (hw3 : Cond.selects y.cls y y ∈ Ts) (hr : cl[ci]? = some r) (hrc : r.1 = y.cls) (he : wc[q]? = some (some (.inr (ci, fs)))) (hdg : decode cc pc = .ok (.invokevirtual ix, 3)) (hst : st1 = (as.map (ne_rn is ws.length)).reverse ++ .ref (ne_rp is ws.length q) :: st) (hlen : as.length = n) (hfr : fr1 + 1 ≤ fr) (hlo : 8 + (maxL + 11) + lo1 ≤ lo) (hC : mc1 ≤ C) (hS : ms1 ≤ S) (hn0 : n0 ≤ ws.length) (hx0 : (List.range n0).all (ne_xk is nk) = true) (hw : ne_xw is nk ws = true) (hl : ne_xl is nk ws.length L = true) (hs : st.all (ne_xv is nk ws.length) = true) (hcat : (st.map fun v => v.category).sum ≤ 8) (hp : ne_pt ws is wc) (kk : ∀ (v : Option Value) (ws1 : ne_W), post v ws1 → ne_G cl D ct A n0 ad0 p l e R s m args below meth c Q nL mc ms (C - mc1) (S - ms1) (pc + 3) L ((v.map (ne_rn is ws.length)).toList ++ st) (ne_mg ws is ws1)) (kx : ∀ (E : String) (ws1 : ne_W), px E ws1 → ne_T cl D ct A n0 ad0 p l e R s m args below meth c Q nL mc ms (C - mc1) (S - ms1) pc L E (ne_mg ws is ws1)) : ne_G cl D ct A n0 ad0 p l e R s m args below meth c Q nL mc ms C S pc L st1 ws := fun H locs cells slots ad ls h1 h2 h3 h4 h5 h6 h7 => by
  subst hst
  have e8 : ∀ z : List Value, z.map (fun v => ne_v ad (ne_rn is ws.length v)) = z.map (ne_v (ne_ac is ws.length ad)) := fun z => List.map_congr_left fun v _ => (ne_ac_v v).symm
  have e9 : ((as.map (ne_rn is ws.length)).reverse ++ .ref (ne_rp is ws.length q) :: st).map (ne_v ad) = (as.map (ne_v (ne_ac is ws.length ad))).reverse ++ .ref (ne_ac is ws.length ad q) :: st.map (ne_v ad) := by
    rw [← e8]
    simp [List.map_append, List.map_reverse, ne_v, ne_ac, Function.comp_def]
  rw [e9]
  obtain ⟨q0, e1, -⟩ := ne_w_set (ct := ct) (ad := ne_ac is ws.length ad) (k := 0) he
  rw [Nat.zero_add] at e1
  have hF := ne_preF (av := .ref (ne_ac is ws.length ad q) :: as.map (ne_v (ne_ac is ws.length ad))) X hp h4 h5 h6
  have rv := va_recv X.2.1 hF.2.1 hr e1
  rw [hrc] at rv
  have cw := cwV (R := R) (s := s) (args := args) (own := own) (C := y.cls) (index := ix) (y := y) (bytes := bytes) (maxL := maxL) (mc := mc1) (ms := ms1) (ret := ret) (Ts := Ts) (ws := .code y bytes maxL ret :: Ts) (ws' := Ts) (rm := { frames := fr1, cells := mc1, slots := ms1, locals := lo1 }) n X.1.2.2.2.2 (ne_gi hg (fun w hw => by
    unfold wsV at hw
    simp only [List.cons_append, List.nil_append, List.mem_cons] at hw
    rcases hw with rfl | rfl | rfl | rfl | rfl | hw
    · exact hw1
    · exact hw2
    · exact hw3
    · exact hy.2.1
    · exact hy.1
    · exact hw)) rfl rfl rfl ⟨rfl, hy.2.2.1, hy.2.2.2.1, hy.2.2.2.2⟩ ⟨Nat.le_trans hfr X.2.2.2.1, Nat.le_trans hlo X.2.2.2.2.1⟩
  exact ne_afterK X hp hF.1 (vx_runV (As := as.map (ne_v (ne_ac is ws.length ad))) (rest := st.map (ne_v ad)) (b := ne_ac is ws.length ad q) X.1 (hM D ct (ne_ac is ws.length ad) H.size) cw ⟨hF.2.2.1, rv, hF.2.2.2⟩ rfl (by rw [List.length_map]; exact hlen) h7.1 rfl (by show 2 * 0 + _ ≤ 8; rw [ne_mcat]; omega) hdg ⟨by have := X.2.2.2.2.2.1; omega, by have := X.2.2.2.2.2.2.1; omega⟩) h1 h2 h3 h4 h5 h6 h7 hC hS hn0 hx0 hw hl hs kk kx
theorem ne_shl0 {x : Int} (X : ne_F cl D ct A p l R s m args meth c own cc nL Ts fr lo mc ms) (hdg : decode cc pc = .ok (.ishl, 1)) (k : ne_G cl D ct A n0 ad0 p l e R s m args below meth c Q nL mc ms C S (pc + 1) L (ni x :: st) ws) : ne_G cl D ct A n0 ad0 p l e R s m args below meth c Q nL mc ms C S pc L (ni 0 :: ni x :: st) ws := fun H locs cells slots ad ls h1 h2 h3 h4 h5 h6 h7 => by
  have k9 := k H locs cells slots ad ls h1 h2 h3 h4 h5 h6 h7
  have e : Int32.ofInt 0 &&& 31 = 0 := by decide
  exact lv_ishl X.1.1 X.1.2.1 hdg (by rw [e, Int32.shiftLeft_zero]; exact k9)
theorem ne_shr0 {x : Int} (X : ne_F cl D ct A p l R s m args meth c own cc nL Ts fr lo mc ms) (hdg : decode cc pc = .ok (.ishr, 1)) (k : ne_G cl D ct A n0 ad0 p l e R s m args below meth c Q nL mc ms C S (pc + 1) L (ni x :: st) ws) : ne_G cl D ct A n0 ad0 p l e R s m args below meth c Q nL mc ms C S pc L (ni 0 :: ni x :: st) ws := fun H locs cells slots ad ls h1 h2 h3 h4 h5 h6 h7 => by
  have k9 := k H locs cells slots ad ls h1 h2 h3 h4 h5 h6 h7
  have e : Int32.ofInt 0 &&& 31 = 0 := by decide
  exact lv_ishr X.1.1 X.1.2.1 hdg (by rw [e, Int32.shiftRight_zero]; exact k9)
theorem ne_shr1 {x : Int} (hx : -2147483648 ≤ x ∧ x < 2147483648) (X : ne_F cl D ct A p l R s m args meth c own cc nL Ts fr lo mc ms) (hdg : decode cc pc = .ok (.ishr, 1)) (k : ne_G cl D ct A n0 ad0 p l e R s m args below meth c Q nL mc ms C S (pc + 1) L (ni (x / 2) :: st) ws) : ne_G cl D ct A n0 ad0 p l e R s m args below meth c Q nL mc ms C S pc L (ni 1 :: ni x :: st) ws := fun H locs cells slots ad ls h1 h2 h3 h4 h5 h6 h7 => by
  have k9 := k H locs cells slots ad ls h1 h2 h3 h4 h5 h6 h7
  have e : Int32.ofInt 1 &&& 31 = 1 := by decide
  have e2 : Int32.ofInt x >>> (1 : Int32) = Int32.ofInt (x / 2) := by
    apply Int32.toInt_inj.mp
    rw [ne_toI (z := x / 2) (by omega) (by omega)]
    have h9 : (Int32.ofInt x >>> (1 : Int32)).toBitVec = (Int32.ofInt x).toBitVec.sshiftRight 1 := rfl
    have h8 : (Int32.ofInt x >>> (1 : Int32)).toInt = ((Int32.ofInt x).toBitVec.sshiftRight 1).toInt := by rw [← h9]; rfl
    rw [h8, BitVec.toInt_sshiftRight]
    have h7 : (Int32.ofInt x).toBitVec.toInt = x := ne_toI hx.1 hx.2
    rw [h7, Int.shiftRight_eq_div_pow]
    rfl
  exact lv_ishr X.1.1 X.1.2.1 hdg (by rw [e, e2]; exact k9)
theorem ne_fit8 {z : Int} (hz : -128 ≤ z ∧ z < 128) : fits .byte (.int (Int32.ofInt z)) = true := by
  have a1 : (-128 : Int32) ≤ Int32.ofInt z := by
    rw [show (-128 : Int32) = Int32.ofInt (-128) from rfl, ne_leI (by omega) (by omega)]; omega
  have a2 : Int32.ofInt z ≤ (127 : Int32) := by
    rw [show (127 : Int32) = Int32.ofInt 127 from rfl, ne_leI (by omega) (by omega)]; omega
  show (decide ((-128 : Int32) ≤ Int32.ofInt z) && decide (Int32.ofInt z ≤ (127 : Int32))) = true
  simp [a1, a2]
theorem ne_ckB {ix q n : Nat} {f : Nat → Int} (X : ne_F cl D ct A p l R s m args meth c own cc nL Ts fr lo mc ms) (hdg : decode cc pc = .ok (.checkcast ix, 3)) (hlk : Cond.classLink own ix "[B" ∈ Ts) (he : ws[q]? = some (some (.inl (1, n, f)))) (k : ne_G cl D ct A n0 ad0 p l e R s m args below meth c Q nL mc ms C S (pc + 3) L (.ref q :: st) ws) : ne_G cl D ct A n0 ad0 p l e R s m args below meth c Q nL mc ms C S pc L (.ref q :: st) ws := fun H locs cells slots ad ls h1 h2 h3 h4 h5 h6 h7 => by
  have k9 := k H locs cells slots ad ls h1 h2 h3 h4 h5 h6 h7
  obtain ⟨q0, e1, -⟩ := ne_w_set (ct := ct) (ad := ad) (k := 0) he
  rw [Nat.zero_add] at e1
  have hB : s.vm.findClass "[B" = some (ct 1) := (X.2.1.2 1 (ct 1, .byte) rfl).2
  exact va_castA X.1.1 X.1.2.1 X.1.2.2.2.1 (X.1.2.2.2.2 _ hlk) h4 q0 e1 hB hdg k9
theorem ne_clB {ix q n : Nat} {f : Nat → Int} (X : ne_F cl D ct A p l R s m args meth c own cc nL Ts fr lo mc ms) (hdg : decode cc pc = .ok (.invokevirtual ix, 3)) (hw1 : Cond.methodLink own ix ⟨"[B", "clone", "()Ljava/lang/Object;"⟩ ∈ Ts) (hw2 : Cond.sameMethod "[B" "java/lang/Object" "clone" "()Ljava/lang/Object;" ∈ Ts) (hw3 : Cond.native ⟨"java/lang/Object", "clone", "()Ljava/lang/Object;"⟩ ∈ Ts) (hw4 : Cond.instanceMethod ⟨"java/lang/Object", "clone", "()Ljava/lang/Object;"⟩ ∈ Ts) (hw5 : Cond.selects "[B" ⟨"[B", "clone", "()Ljava/lang/Object;"⟩ ⟨"java/lang/Object", "clone", "()Ljava/lang/Object;"⟩ ∈ Ts) (he : ws[q]? = some (some (.inl (1, n, f)))) (hf : ne_rg f (-128) 127) (hfr : 1 ≤ fr) (hlo : (st.map fun v => v.category).sum + 14 ≤ lo) (hC : 1 ≤ C) (hS : n ≤ S) (hn0 : n0 ≤ ws.length) (hw : ne_cw ws.length ws = true) (hl : ne_cl ws.length L = true) (hs : ne_cs ws.length st = true) (kk : ne_G cl D ct A n0 ad0 p l e R s m args below meth c Q nL mc ms (C - 1) (S - n) (pc + 3) L (.ref ws.length :: st) (ws ++ [some (.inl (1, n, f))])) : ne_G cl D ct A n0 ad0 p l e R s m args below meth c Q nL mc ms C S pc L (.ref q :: st) ws := fun H locs cells slots ad ls h1 h2 h3 h4 h5 h6 h7 => by
  obtain ⟨q0, e1, -⟩ := ne_w_set (ct := ct) (ad := ad) (k := 0) he
  rw [Nat.zero_add] at e1
  have hB : s.vm.findClass "[B" = some (ct 1) := (X.2.1.2 1 (ct 1, .byte) rfl).2
  refine va_clone X.1.1 X.1.2.1 (by rw [X.1.2.2.1]; exact h7.1.symm) X.1.2.2.2.1 (X.1.2.2.2.2 _ hw1) (X.1.2.2.2.2 _ hw2) (X.1.2.2.2.2 _ hw3) (X.1.2.2.2.2 _ hw4) (X.1.2.2.2.2 _ hw5) (X.2.2.2.2.2.2.2.1.2.2.2.2.2.2.1 ("[B", "java/lang/Cloneable") (List.mem_of_getElem? (i := 2) rfl)) X.2.1 h4 h5 h6 X.2.2.1 q0 1 e1 rfl hB (fun i v hv => ?_) (Nat.le_trans hfr X.2.2.2.1) (by rw [ne_mcat]; have := X.2.2.2.2.1; omega) (Nat.le_trans (by omega) X.2.2.2.2.2.1) (Nat.le_trans (show slots + n ≤ ms by omega) X.2.2.2.2.2.2.1) hdg (fun q9 H1 hK9 hP hD hS9 => ?_)
  · have h9 : (arrV (ct 1) n (fun j => Value.int (Int32.ofInt (f j)))).slots[i]? = some v := hv
    by_cases hi : i < n
    · rw [arrV_read _ _ hi] at h9
      cases h9
      exact ne_fit8 (by have := hf i; omega)
    · have hsz : (arrV (ct 1) n (fun j => Value.int (Int32.ofInt (f j)))).slots.size = n := arrV_size _ _ _
      rw [Array.getElem?_eq_none (by omega)] at h9
      cases h9
  · have hag : ∀ k, k < ws.length → ne_up ad ws.length q9 k = ad k := fun k hk => ne_up_lt hk
    have e2 : ne_w ct (ne_up ad ws.length q9) 0 (ws ++ [some (.inl (1, n, f))]) = ne_w ct ad 0 ws ++ [(q9, .inl (ct 1, n, .inl (fun j => Int32.ofInt (f j))))] := by
      rw [ne_w_app, ne_w_eq hag hw (by omega), Nat.zero_add, ne_up_self]
      rfl
    rw [← e2] at hP hD
    have k9 := kk H1 locs (cells + 1) (slots + n) _ ls (fun k hk => (hag k (by omega)).trans (h1 k hk)) (by omega) (by omega) hP hD hS9 (by rw [ne_l_eq hag hl]; exact h7)
    have e3 : List.map (ne_v (ne_up ad ws.length q9)) (.ref ws.length :: st) = .ref q9 :: st.map (ne_v ad) := by
      rw [List.map_cons, ne_s_eq hag hs]
      simp only [ne_v, ne_up_self]
    rw [e3] at k9
    exact k9
theorem ne_acpB {ix q q' n n' : Nat} {f g : Nat → Int} {a b k : Int} (X : ne_F cl D ct A p l R s m args meth c own cc nL Ts fr lo mc ms) (hdg : decode cc pc = .ok (.invokestatic ix, 3)) (hw1 : Cond.methodLink own ix arraycopyName ∈ Ts) (hw2 : Cond.native arraycopyName ∈ Ts) (hw3 : Cond.static arraycopyName ∈ Ts) (hw4 : Cond.initialized "java/lang/System" ∈ Ts) (he : ws[q]? = some (some (.inl (1, n, f)))) (he' : ws[q']? = some (some (.inl (1, n', g)))) (hf : ne_rg f (-128) 127) (hg : ne_rg g (-128) 127) (ha : 0 ≤ a ∧ a ≤ 100000) (hb : 0 ≤ b ∧ b ≤ 100000) (hk : 0 ≤ k ∧ k ≤ 100000) (h8 : a + k ≤ n) (h9 : b + k ≤ n') (hfr : 1 ≤ fr) (hlo : (st.map fun v => v.category).sum + (nativeFrameWords "java/lang/System" "arraycopy" 5 + 11) ≤ lo) (kk : ∀ g' : Nat → Int, ne_rg g' (-128) 127 → g' = va_cpy f g a.toNat b.toNat k.toNat → ne_G cl D ct A n0 ad0 p l e R s m args below meth c Q nL mc ms C S (pc + 3) L st (ws.set q' (some (.inl (1, n', g'))))) : ne_G cl D ct A n0 ad0 p l e R s m args below meth c Q nL mc ms C S pc L (ni k :: ni b :: .ref q' :: ni a :: .ref q :: st) ws := fun H locs cells slots ad ls h1 h2 h3 h4 h5 h6 h7 => by
  obtain ⟨q0, e1, -⟩ := ne_w_set (ct := ct) (ad := ad) (k := 0) he
  obtain ⟨q1, e2, e3⟩ := ne_w_set (ct := ct) (ad := ad) (k := 0) he'
  rw [Nat.zero_add] at e1 e2 e3
  have cl9 : ∀ z : Int, 0 ≤ z → z ≤ 100000 → (Int32.ofInt z).toNatClampNeg = z.toNat := fun z z0 z1 => by rw [Int32.toNatClampNeg, ne_toI (by omega) (by omega)]
  have ng9 : ∀ z : Int, 0 ≤ z → z ≤ 100000 → ¬ Int32.ofInt z < 0 := fun z z0 z1 => by rw [ne_z0, ne_ltI (by omega) (by omega)]; omega
  refine va_copyi (ty := .byte) X.1.1 X.1.2.1 (by rw [X.1.2.2.1]; exact h7.1.symm) X.1.2.2.2.1 (X.1.2.2.2.2 _ hw1) (X.1.2.2.2.2 _ hw2) (X.1.2.2.2.2 _ hw3) (X.1.2.2.2.2 _ hw4) X.2.1 h4 h5 h6 q0 q1 1 1 e1 e2 rfl rfl rfl (ng9 a ha.1 ha.2) (ng9 b hb.1 hb.2) (ng9 k hk.1 hk.2) (by show (Int32.ofInt a).toNatClampNeg + (Int32.ofInt k).toNatClampNeg ≤ n; rw [cl9 a ha.1 ha.2, cl9 k hk.1 hk.2]; omega) (by show (Int32.ofInt b).toNatClampNeg + (Int32.ofInt k).toNatClampNeg ≤ n'; rw [cl9 b hb.1 hb.2, cl9 k hk.1 hk.2]; omega) (fun i _ => ne_fit8 (z := f ((Int32.ofInt a).toNatClampNeg + i)) (by have := hf ((Int32.ofInt a).toNatClampNeg + i); omega)) (Nat.le_trans hfr X.2.2.2.1) (by rw [ne_mcat]; exact Nat.le_trans hlo X.2.2.2.2.1) hdg (fun H1 locs1 hP hD hS => ?_)
  have e5 := e3 (.inl (1, n', va_cpy f g a.toNat b.toNat k.toNat))
  have e4 : ne_c ct ad (.inl (1, n', va_cpy f g a.toNat b.toNat k.toNat)) = .inl (ct 1, n', .inl (va_cpy (fun j => Int32.ofInt (f j)) (fun j => Int32.ofInt (g j)) (Int32.ofInt a).toNatClampNeg (Int32.ofInt b).toNatClampNeg (Int32.ofInt k).toNatClampNeg)) := by
    rw [cl9 a ha.1 ha.2, cl9 b hb.1 hb.2, cl9 k hk.1 hk.2]
    have e6 : (fun j => Int32.ofInt (va_cpy f g a.toNat b.toNat k.toNat j)) = va_cpy (fun j => Int32.ofInt (f j)) (fun j => Int32.ofInt (g j)) a.toNat b.toNat k.toNat := by
      funext j
      unfold va_cpy
      split <;> rfl
    show Sum.inl (ct 1, n', Sum.inl (fun j => Int32.ofInt (va_cpy f g a.toNat b.toNat k.toNat j))) = _
    rw [e6]
  rw [e4] at e5
  rw [e5] at hP hD
  exact kk _ (fun j => by unfold va_cpy; split; exact hf _; exact hg _) rfl H1 locs1 cells slots ad ls h1 h2 h3 hP hD hS h7
theorem ne_selp {args9 : Array Value} {s9 : State} {y z : MethodName} {C9 : String} (hy : y.cls ≠ "java/lang/invoke/MethodHandle" ∧ y.cls ≠ "java/lang/invoke/VarHandle") (hz : (Cond.selects C9 z z).before args9 s9 = true) (hzc : z.cls = y.cls) (hpriv : (Cond.privateMethod y).before args9 s9 = true) (hinst : (Cond.instanceMethod y).before args9 s9 = true) : (Cond.selects C9 y y).before args9 s9 = true := by
  obtain ⟨mk, methM, hnamed, hmethM, -, -⟩ := Cond.instanceMethod_spec hinst
  have hfound : s9.methodFound? y.cls y.name y.desc = some mk := State.methodFound?_of_named hnamed hy
  have hsel : ∀ c, selectMethod {} s9.vm c mk = .method mk := fun c => selectMethod_private hmethM (Cond.privateMethod_at hpriv mk methM hnamed hmethM)
  have hz2 : (Cond.selects C9 z z).value args9 s9 none s9 [] = some true := by simpa [Cond.before, Cond.holds] using hz
  simp only [Cond.value] at hz2
  cases hc : s9.vm.findClass C9 with
  | none => simp [hc] at hz2
  | some c =>
    cases hf : s9.methodFound? z.cls z.name z.desc with
    | none => simp [hc, hf] at hz2
    | some r =>
      cases hn : s9.methodNamed? z with
      | none => simp [hc, hf, hn] at hz2
      | some m9 =>
        have hcls : m9.cls = mk.cls := by
          have a1 := findClass_of_methodNamed hn
          have a2 := findClass_of_methodNamed hnamed
          rw [hzc] at a1
          exact Option.some.inj (a1.symm.trans a2)
        simp only [hc, hf, hn, Option.some.injEq] at hz2
        have hany : (s9.vm.classes[mk.cls]?).any (!·.isInterface) = true := by
          rw [← hcls]
          split at hz2
          · simp only [Bool.and_eq_true] at hz2; exact hz2.2
          · cases hz2
        simp only [Cond.before, Cond.holds, Cond.value, hc, hfound, hnamed, hsel]
        simp [hany]
theorem ne_callUK {y : MethodName} {bytes : ByteArray} {maxL n ix fr1 lo1 mc1 ms1 : Nat} {ret : Option FieldType} {as st1 : List Value} {is : List Nat} {nk : Nat} {wc : ne_W} {post : Option Value → ne_W → Prop} {px : String → ne_W → Prop} {q ci : Nat} {fs : List Value} {r : vw_C} {x : MethodName} {b0 : ByteArray} {m0 : Nat} {r0 : Option FieldType} {owner : String} (X : ne_F cl D ct A p l R s m args meth c own cc nL Ts fr lo mc ms) (hg : ∀ w ∈ Ts, goodWord w = true) (hM : ne_MK l cl (.code y bytes maxL ret) Ts y fr1 lo1 mc1 ms1 nk (.ref q :: as) wc post px) (hy : ne_cy y (.code y bytes maxL ret) n Ts) (hyx : x.desc = y.desc) (hw0 : owner ≠ "java/lang/invoke/MethodHandle" ∧ owner ≠ "java/lang/invoke/VarHandle") (hw1 : Cond.methodLink own ix x ∈ Ts) (hw2 : Cond.sameMethod x.cls owner x.name x.desc ∈ Ts) (hw3 : (∀ w ∈ Ts, w.before args s = true) → (Cond.selects r.1 x y).before args s = true) (hw4 : Cond.instanceMethod y ∈ Ts) (hw5 : Cond.instanceMethod ⟨owner, x.name, x.desc⟩ ∈ Ts) (hw6 : Cond.code ⟨owner, x.name, x.desc⟩ b0 m0 r0 ∈ Ts) (hr : cl[ci]? = some r) (he : wc[q]? = some (some (.inr (ci, fs)))) (hdg : decode cc pc = .ok (.invokevirtual ix, 3)) (hst : st1 = (as.map (ne_rn is ws.length)).reverse ++ .ref (ne_rp is ws.length q) :: st) (hlen : as.length = n) (hfr : fr1 + 1 ≤ fr) (hlo : 8 + (maxL + 11) + lo1 ≤ lo) (hC : mc1 ≤ C) (hS : ms1 ≤ S) (hn0 : n0 ≤ ws.length) (hx0 : (List.range n0).all (ne_xk is nk) = true) (hw : ne_xw is nk ws = true) (hl : ne_xl is nk ws.length L = true) (hs : st.all (ne_xv is nk ws.length) = true) (hcat : (st.map fun v => v.category).sum ≤ 8) (hp : ne_pt ws is wc) (kk : ∀ (v : Option Value) (ws1 : ne_W), post v ws1 → ne_G cl D ct A n0 ad0 p l e R s m args below meth c Q nL mc ms (C - mc1) (S - ms1) (pc + 3) L ((v.map (ne_rn is ws.length)).toList ++ st) (ne_mg ws is ws1)) (kx : ∀ (E : String) (ws1 : ne_W), px E ws1 → ne_T cl D ct A n0 ad0 p l e R s m args below meth c Q nL mc ms (C - mc1) (S - ms1) pc L E (ne_mg ws is ws1)) : ne_G cl D ct A n0 ad0 p l e R s m args below meth c Q nL mc ms C S pc L st1 ws := fun H locs cells slots ad ls h1 h2 h3 h4 h5 h6 h7 => by
  subst hst
  have e8 : ∀ z : List Value, z.map (fun v => ne_v ad (ne_rn is ws.length v)) = z.map (ne_v (ne_ac is ws.length ad)) := fun z => List.map_congr_left fun v _ => (ne_ac_v v).symm
  have e9 : ((as.map (ne_rn is ws.length)).reverse ++ .ref (ne_rp is ws.length q) :: st).map (ne_v ad) = (as.map (ne_v (ne_ac is ws.length ad))).reverse ++ .ref (ne_ac is ws.length ad q) :: st.map (ne_v ad) := by
    rw [← e8]
    simp [List.map_append, List.map_reverse, ne_v, ne_ac, Function.comp_def]
  rw [e9]
  obtain ⟨q0, e1, -⟩ := ne_w_set (ct := ct) (ad := ne_ac is ws.length ad) (k := 0) he
  rw [Nat.zero_add] at e1
  have hF := ne_preF (av := .ref (ne_ac is ws.length ad q) :: as.map (ne_v (ne_ac is ws.length ad))) X hp h4 h5 h6
  have rv := va_recv X.2.1 hF.2.1 hr e1
  have gT : GoodIn Ts (.code y bytes maxL ret :: Ts) := ne_gi hg (fun w hw => by
    rcases List.mem_cons.mp hw with rfl | hw
    · exact hy.1
    · exact hw)
  have cw : va_CU R s args own r.1 owner ix x y bytes maxL ret (.code y bytes maxL ret :: Ts) { frames := fr1, cells := mc1, slots := ms1, locals := lo1 } mc1 ms1 n := ⟨⟨rfl, rfl, Nat.le_trans hfr X.2.2.2.1, Nat.le_trans hlo X.2.2.2.2.1, pay_in X.1.2.2.2.2 gT, List.mem_cons_self⟩, X.1.2.2.2.2 _ hy.1, X.1.2.2.2.2 _ hy.2.1, hw0, fun sig h => (by
    have h2 := hy.2.2.2.2
    rw [← hyx, h] at h2
    exact (Option.some.inj h2).symm), X.1.2.2.2.2 _ hw1, X.1.2.2.2.2 _ hw2, va_Decl.of (X.1.2.2.2.2 _ hw5) (X.1.2.2.2.2 _ hw6), hw3 X.1.2.2.2.2, X.1.2.2.2.2 _ hw4⟩
  exact ne_afterK X hp hF.1 (vx_runU (As := as.map (ne_v (ne_ac is ws.length ad))) (rest := st.map (ne_v ad)) (b := ne_ac is ws.length ad q) X.1 (hM D ct (ne_ac is ws.length ad) H.size) cw ⟨hF.2.2.1, rv, hF.2.2.2⟩ rfl (by rw [List.length_map]; exact hlen) h7.1 rfl (by show 2 * 0 + _ ≤ 8; rw [ne_mcat]; omega) hdg ⟨by have := X.2.2.2.2.2.1; omega, by have := X.2.2.2.2.2.2.1; omega⟩) h1 h2 h3 h4 h5 h6 h7 hC hS hn0 hx0 hw hl hs kk kx
theorem ne_callSUK {y : MethodName} {bytes : ByteArray} {maxL n ix fr1 lo1 mc1 ms1 : Nat} {ret : Option FieldType} {as st1 : List Value} {is : List Nat} {nk : Nat} {wc : ne_W} {post : Option Value → ne_W → Prop} {px : String → ne_W → Prop} {q ci : Nat} {fs : List Value} {r : vw_C} (X : ne_F cl D ct A p l R s m args meth c own cc nL Ts fr lo mc ms) (hg : ∀ w ∈ Ts, goodWord w = true) (hM : ne_MK l cl (.code y bytes maxL ret) Ts y fr1 lo1 mc1 ms1 nk (.ref q :: as) wc post px) (hy : ne_cy y (.code y bytes maxL ret) n Ts) (hw1 : Cond.methodLink own ix y ∈ Ts) (hw2 : Cond.sameMethod y.cls y.cls y.name y.desc ∈ Ts) (hw3 : Cond.superclass own y.cls ∈ Ts) (hw4 : Cond.instanceMethod y ∈ Ts) (hnm : y.name ≠ "<init>") (hr : cl[ci]? = some r) (he : wc[q]? = some (some (.inr (ci, fs)))) (hdg : decode cc pc = .ok (.invokespecial ix, 3)) (hst : st1 = (as.map (ne_rn is ws.length)).reverse ++ .ref (ne_rp is ws.length q) :: st) (hlen : as.length = n) (hfr : fr1 + 1 ≤ fr) (hlo : 8 + (maxL + 11) + lo1 ≤ lo) (hC : mc1 ≤ C) (hS : ms1 ≤ S) (hn0 : n0 ≤ ws.length) (hx0 : (List.range n0).all (ne_xk is nk) = true) (hw : ne_xw is nk ws = true) (hl : ne_xl is nk ws.length L = true) (hs : st.all (ne_xv is nk ws.length) = true) (hcat : (st.map fun v => v.category).sum ≤ 8) (hp : ne_pt ws is wc) (kk : ∀ (v : Option Value) (ws1 : ne_W), post v ws1 → ne_G cl D ct A n0 ad0 p l e R s m args below meth c Q nL mc ms (C - mc1) (S - ms1) (pc + 3) L ((v.map (ne_rn is ws.length)).toList ++ st) (ne_mg ws is ws1)) (kx : ∀ (E : String) (ws1 : ne_W), px E ws1 → ne_T cl D ct A n0 ad0 p l e R s m args below meth c Q nL mc ms (C - mc1) (S - ms1) pc L E (ne_mg ws is ws1)) : ne_G cl D ct A n0 ad0 p l e R s m args below meth c Q nL mc ms C S pc L st1 ws := fun H locs cells slots ad ls h1 h2 h3 h4 h5 h6 h7 => by
  subst hst
  have e8 : ∀ z : List Value, z.map (fun v => ne_v ad (ne_rn is ws.length v)) = z.map (ne_v (ne_ac is ws.length ad)) := fun z => List.map_congr_left fun v _ => (ne_ac_v v).symm
  have e9 : ((as.map (ne_rn is ws.length)).reverse ++ .ref (ne_rp is ws.length q) :: st).map (ne_v ad) = (as.map (ne_v (ne_ac is ws.length ad))).reverse ++ .ref (ne_ac is ws.length ad q) :: st.map (ne_v ad) := by
    rw [← e8]
    simp [List.map_append, List.map_reverse, ne_v, ne_ac, Function.comp_def]
  rw [e9]
  obtain ⟨q0, e1, -⟩ := ne_w_set (ct := ct) (ad := ne_ac is ws.length ad) (k := 0) he
  rw [Nat.zero_add] at e1
  have hF := ne_preF (av := .ref (ne_ac is ws.length ad q) :: as.map (ne_v (ne_ac is ws.length ad))) X hp h4 h5 h6
  have rv := va_recv X.2.1 hF.2.1 hr e1
  have gT : GoodIn Ts (.code y bytes maxL ret :: Ts) := ne_gi hg (fun w hw => by
    rcases List.mem_cons.mp hw with rfl | hw
    · exact hy.1
    · exact hw)
  have hat : ClassAt s r.1 (D.1 ci) := (X.2.1.1 ci r hr).2
  have cw : va_CS R s args own ix y bytes maxL ret (.code y bytes maxL ret :: Ts) { frames := fr1, cells := mc1, slots := ms1, locals := lo1 } mc1 ms1 n := ⟨⟨rfl, rfl, Nat.le_trans hfr X.2.2.2.1, Nat.le_trans hlo X.2.2.2.2.1, pay_in X.1.2.2.2.2 gT, List.mem_cons_self⟩, X.1.2.2.2.2 _ hw1, X.1.2.2.2.2 _ hw2, X.1.2.2.2.2 _ hw3, X.1.2.2.2.2 _ hw4, X.1.2.2.2.2 _ hy.2.1, X.1.2.2.2.2 _ hy.1, hnm, fun sig h => (by
    have h2 := hy.2.2.2.2
    rw [h] at h2
    exact (Option.some.inj h2).symm)⟩
  exact ne_afterK X hp hF.1 (vx_runSU (As := as.map (ne_v (ne_ac is ws.length ad))) (rest := st.map (ne_v ad)) (b := ne_ac is ws.length ad q) hat X.1 (hM D ct (ne_ac is ws.length ad) H.size) cw ⟨hF.2.2.1, rv, hF.2.2.2⟩ rfl (by rw [List.length_map]; exact hlen) h7.1 rfl (by show 2 * 0 + _ ≤ 8; rw [ne_mcat]; omega) hdg ⟨by have := X.2.2.2.2.2.1; omega, by have := X.2.2.2.2.2.2.1; omega⟩) h1 h2 h3 h4 h5 h6 h7 hC hS hn0 hx0 hw hl hs kk kx
/-- fewer cells and slots asked than are free -/
theorem ne_less {C' S' : Nat} (hC : C' ≤ C) (hS : S' ≤ S) (kk : ne_G cl D ct A n0 ad0 p l e R s m args below meth c Q nL mc ms C' S' pc L st ws) : ne_G cl D ct A n0 ad0 p l e R s m args below meth c Q nL mc ms C S pc L st ws := fun H locs cells slots ad ls h1 h2 h3 h4 h5 h6 h7 => kk H locs cells slots ad ls h1 (by omega) (by omega) h4 h5 h6 h7
theorem ne_meetK {cl : List vw_C} {l : Launch} {y : MethodName} {nk : Nat} {own : String} {bytes : ByteArray} {maxL fr lo mc ms : Nat} {ret : Option FieldType} {Ts : List Cond} {as : List Value} {ws : ne_W} {post : Option Value → ne_W → Prop} {px : String → ne_W → Prop} (hl : l.stackTraces = false) (ho : y.cls = own) (hy : plainName y.cls = true) (hlen : (ne_a as).length ≤ maxL)
    (body : ∀ (D : va_G) (ct : Nat → ClassId) (A : Nat → Prop) (p : Program) (e : Env) (R : Room) (s : State) (m : MethodId) (args : Array Value) (below : List Frame) (meth : Method) (c : Code) (ad0 : Nat → Nat), ne_F cl D ct A p l R s m args meth c own bytes maxL Ts fr lo mc ms → meth.sig.returnType = ret → meth.name = y.name → (∀ x ∈ c.exceptionTable.toList, False) →
      ne_G cl D ct A nk ad0 p l e R s m args below meth c (ne_O cl D ct ad0 nk A below args s mc ms post px) maxL mc ms mc ms 0 (ne_a as ++ List.replicate (maxL - (ne_a as).length) none) [] ws) : ne_MK l cl (.code y bytes maxL ret) Ts y fr lo mc ms nk as ws post px := by
  intro D ct ad sz
  refine vx_ofW (cc := bytes) (maxL := maxL) (ret := ret) (ws' := Ts) hy rfl ?_
  intro p e s m args below meth c s₁ B hml ht hv
  obtain ⟨rfl, hsz, hP, hK, hD0, hZ⟩ := hv
  subst hsz
  have hts := atoms_spec (ws := Cond.code y bytes maxL ret :: Ts) B.pre
  have hown : s.vm.findClass own = some m.cls := by rw [← ho]; exact findClass_of_methodNamed B.named
  have hD := hD0.self (sz := s.heap.size)
  have hin : meth.name = y.name := (name_of_methodNamed B.named B.method).1
  have hlsl : ∀ vs : List Value, (lg_sl (vs.map (ne_v ad))).length = (ne_a vs).length := by
    intro vs
    induction vs with
    | nil => rfl
    | cons v t ih =>
      have e9 : ∀ (w : Value) (t' : List Value), lg_sl (w :: t') = (if w.category = 2 then [Slot.val w, Slot.second] else [Slot.val w]) ++ lg_sl t' := fun w t' => by simp [lg_sl]
      rw [ne_a, List.map_cons, e9, List.length_append, ih, ne_v_cat]
      by_cases h : v.category = 2
      · rw [if_pos h, if_pos h]; simp only [List.length_cons, List.length_nil]; omega
      · rw [if_neg h, if_neg h]; simp only [List.length_cons, List.length_nil]; omega
  have h9 := lv_entry (as.map (ne_v ad)) (n := maxL) (by rw [hlsl]; exact hlen)
  rw [lg_entry_eq]
  refine body D ct (va_A (ne_w ct ad 0 ws) s.heap.size) p e _ s m _ below meth c ad ⟨⟨B.exec, B.bytes, hml, hown, fun w hw => hts w (List.mem_cons_of_mem _ hw)⟩, hK, fun q hq => Or.inr hq, Nat.le_refl _, Nat.le_refl _, Nat.le_refl _, Nat.le_refl _, hZ, B.notSynchronized, hl⟩ B.returns hin ht s.heap [] 0 0 ad _ (fun _ _ => rfl) (by omega) (by omega) hP hD va_S.rf ?_
  rw [ne_l_pad, ne_a_args]
  exact h9
theorem ne_ptb {is : List Nat} {wc : ne_W} (h1 : is.map (fun i => ws.getD i none) = wc.map (ne_rE is ws.length)) (h2 : is.Nodup) (h3 : (is.all (fun i => decide (i < ws.length))) = true) : ne_pt ws is wc := ⟨h1, h2, fun i hi => of_decide_eq_true (List.all_eq_true.mp h3 i hi)⟩
theorem ne_viewb (is : List Nat) {ws' : ne_W} {L' : List (Option Value)} {st' : List Value} (hw : is.map (fun i => ws.getD i none) = ws'.map (ne_vE is)) (hnd : is.Nodup) (hlt : (is.all (fun i => decide (i < ws.length))) = true) (hL : L = L'.map (Option.map (ne_vv is))) (hs : st = st'.map (ne_vv is)) (hn : ((List.range n0).all (fun k => is.getD k 0 == k)) = true) (kk : ne_G cl D ct A n0 ad0 p l e R s m args below meth c Q nL mc ms C S pc L' st' ws') : ne_G cl D ct A n0 ad0 p l e R s m args below meth c Q nL mc ms C S pc L st ws := ne_view is hw hnd (fun i hi => of_decide_eq_true (List.all_eq_true.mp hlt i hi)) hL hs (fun k hk => by have := List.all_eq_true.mp hn k (List.mem_range.mpr hk); simpa using this) kk
/-- contents of some places forgotten -/
def ne_fg (is : List Nat) : Nat → ne_W → ne_W
  | _, [] => []
  | k, a :: t => (if is.contains k then none else a) :: ne_fg is (k + 1) t
theorem ne_fg_ix {is : List Nat} : ∀ {w : ne_W} {k i : Nat} {e9 : ne_E}, (ne_fg is k w)[i]? = some (some e9) → w[i]? = some (some e9)
  | [], k, i, e9, h => h
  | a :: t, k, 0, e9, h => by
    rw [ne_fg, List.getElem?_cons_zero] at h
    rw [List.getElem?_cons_zero]
    by_cases h9 : is.contains k = true
    · rw [if_pos h9] at h; cases h
    · rw [if_neg h9] at h; exact h
  | a :: t, k, i + 1, e9, h => by
    rw [ne_fg, List.getElem?_cons_succ] at h
    rw [List.getElem?_cons_succ]
    exact ne_fg_ix h
theorem ne_forget (is : List Nat) (kk : ne_G cl D ct A n0 ad0 p l e R s m args below meth c Q nL mc ms C S pc L st (ne_fg is 0 ws)) : ne_G cl D ct A n0 ad0 p l e R s m args below meth c Q nL mc ms C S pc L st ws := ne_drop (fun i e9 h => ne_fg_ix h) kk
end NEV
