/-! ## calls with a part of the world: by places -/
def ne_ix : ne_W → Nat → Nat
  | [], _ => 0
  | _ :: _, 0 => 0
  | none :: t, i + 1 => ne_ix t i
  | some _ :: t, i + 1 => ne_ix t i + 1
theorem ne_ix_at {ct : Nat → ClassId} {ad : Nat → Nat} : ∀ {ws : ne_W} {k i : Nat} {e : ne_E}, ws[i]? = some (some e) → (ne_w ct ad k ws)[ne_ix ws i]? = some (ad (k + i), ne_c ct ad e)
  | [], k, i, e, h => by simp at h
  | none :: t, k, i, e, h => by
    cases i with
    | zero => simp at h
    | succ i =>
      have h2 := ne_ix_at (ct := ct) (ad := ad) (k := k + 1) (ws := t) (i := i) (e := e) (by simpa using h)
      rw [show k + 1 + i = k + (i + 1) by omega] at h2
      rw [ne_w, ne_ix]
      exact h2
  | some e0 :: t, k, i, e, h => by
    cases i with
    | zero =>
      have : e0 = e := by simpa using h
      subst this
      rw [ne_w, ne_ix]
      rfl
    | succ i =>
      have h2 := ne_ix_at (ct := ct) (ad := ad) (k := k + 1) (ws := t) (i := i) (e := e) (by simpa using h)
      rw [show k + 1 + i = k + (i + 1) by omega] at h2
      rw [ne_w, ne_ix, List.getElem?_cons_succ]
      exact h2
theorem ne_ix_inj : ∀ {ws : ne_W} {i j : Nat} {e e' : ne_E}, ws[i]? = some (some e) → ws[j]? = some (some e') → ne_ix ws i = ne_ix ws j → i = j
  | [], i, j, e, e', h, _, _ => by simp at h
  | none :: t, i, j, e, e', h, h', q => by
    cases i with
    | zero => simp at h
    | succ i =>
      cases j with
      | zero => simp at h'
      | succ j =>
        rw [ne_ix, ne_ix] at q
        rw [ne_ix_inj (ws := t) (i := i) (j := j) (by simpa using h) (by simpa using h') q]
  | some e0 :: t, i, j, e, e', h, h', q => by
    cases i with
    | zero =>
      cases j with
      | zero => rfl
      | succ j => rw [ne_ix, ne_ix] at q; omega
    | succ i =>
      cases j with
      | zero => rw [ne_ix, ne_ix] at q; omega
      | succ j =>
        rw [ne_ix, ne_ix] at q
        rw [ne_ix_inj (ws := t) (i := i) (j := j) (by simpa using h) (by simpa using h') (by omega)]
theorem ne_ix_of {ct : Nat → ClassId} {ad : Nat → Nat} : ∀ {ws : ne_W} {k q : Nat} {x : Nat × va_E}, (ne_w ct ad k ws)[q]? = some x → ∃ (i : Nat) (e : ne_E), ws[i]? = some (some e) ∧ q = ne_ix ws i ∧ x = (ad (k + i), ne_c ct ad e)
  | [], k, q, x, h => by simp [ne_w] at h
  | none :: t, k, q, x, h => by
    rw [ne_w] at h
    obtain ⟨i, e, h1, h2, h3⟩ := ne_ix_of h
    exact ⟨i + 1, e, by simpa using h1, by rw [ne_ix]; exact h2, by rw [h3, show k + 1 + i = k + (i + 1) by omega]⟩
  | some e0 :: t, k, q, x, h => by
    rw [ne_w] at h
    cases q with
    | zero => exact ⟨0, e0, rfl, by rw [ne_ix], by simpa using h.symm⟩
    | succ q =>
      rw [List.getElem?_cons_succ] at h
      obtain ⟨i, e, h1, h2, h3⟩ := ne_ix_of h
      exact ⟨i + 1, e, by simpa using h1, by rw [ne_ix, h2], by rw [h3, show k + 1 + i = k + (i + 1) by omega]⟩
theorem ne_Piff {cl : List vw_C} {D : va_G} {ct : Nat → ClassId} {ad : Nat → Nat} {ws : ne_W} {H : Heap} : va_P D cl (ne_w ct ad 0 ws) H ↔ ∀ (i : Nat) (e : ne_E), ws[i]? = some (some e) → va_at D cl (ad i, ne_c ct ad e) H := by
  constructor
  · intro h i e hi
    have h2 := h _ _ (ne_ix_at (ct := ct) (ad := ad) (k := 0) hi)
    rw [Nat.zero_add] at h2
    exact h2
  · intro h k q hq
    obtain ⟨i, e, h1, -, h3⟩ := ne_ix_of hq
    rw [Nat.zero_add] at h3
    rw [h3]
    exact h i e h1
theorem ne_Diff {A : Nat → Prop} {ct : Nat → ClassId} {ad : Nat → Nat} {ws : ne_W} : va_D A (ne_w ct ad 0 ws) ↔ (∀ (i j : Nat) (e e' : ne_E), ws[i]? = some (some e) → ws[j]? = some (some e') → ad i = ad j → i = j) ∧ ∀ (i : Nat) (e : ne_E), ws[i]? = some (some e) → A (ad i) := by
  constructor
  · intro h
    refine ⟨fun i j e e' h1 h2 h3 => ?_, fun i e h1 => ?_⟩
    · have a1 := ne_ix_at (ct := ct) (ad := ad) (k := 0) h1
      have a2 := ne_ix_at (ct := ct) (ad := ad) (k := 0) h2
      rw [Nat.zero_add] at a1 a2
      exact ne_ix_inj h1 h2 (h.1 _ _ _ _ a1 a2 h3)
    · have a1 := ne_ix_at (ct := ct) (ad := ad) (k := 0) h1
      rw [Nat.zero_add] at a1
      exact h.2 _ _ a1
  · intro h
    refine ⟨fun i j x y h1 h2 h3 => ?_, fun k x h1 => ?_⟩
    · obtain ⟨i', e, a1, a2, a3⟩ := ne_ix_of h1
      obtain ⟨j', e', b1, b2, b3⟩ := ne_ix_of h2
      rw [Nat.zero_add] at a3 b3
      rw [a3, b3] at h3
      rw [a2, b2, h.1 _ _ _ _ a1 b1 h3]
    · obtain ⟨i', e, a1, a2, a3⟩ := ne_ix_of h1
      rw [Nat.zero_add] at a3
      rw [a3]
      exact h.2 _ _ a1
/-- a callee's place, seen by the caller -/
def ne_rp (is : List Nat) (n j : Nat) : Nat := if j < is.length then is.getD j 0 else n + (j - is.length)
def ne_rn (is : List Nat) (n : Nat) (v : Value) : Value := match v with
  | .ref j => .ref (ne_rp is n j)
  | w => w
def ne_rc (is : List Nat) (n : Nat) (e : ne_E) : ne_E := match e with
  | .inl a => .inl a
  | .inr o => .inr (o.1, o.2.map (ne_rn is n))
def ne_rE (is : List Nat) (n : Nat) (o : Option ne_E) : Option ne_E := match o with
  | some e => some (ne_rc is n e)
  | none => none
def ne_fi : List Nat → Nat → Option Nat
  | [], _ => none
  | a :: t, i => if a = i then some 0 else match ne_fi t i with
    | some j => some (j + 1)
    | none => none
theorem ne_fi_some : ∀ {is : List Nat} {i j : Nat}, ne_fi is i = some j → is[j]? = some i
  | [], i, j, h => by simp [ne_fi] at h
  | a :: t, i, j, h => by
    rw [ne_fi] at h
    split at h
    · next h1 => cases h; simp [h1]
    · split at h
      · next k hk => cases h; simpa using ne_fi_some hk
      · cases h
theorem ne_fi_none : ∀ {is : List Nat} {i : Nat}, ne_fi is i = none → ∀ j : Nat, is[j]? ≠ some i
  | [], i, _, j => by simp
  | a :: t, i, h, j => by
    rw [ne_fi] at h
    split at h
    · cases h
    · next h1 =>
      split at h
      · cases h
      · next hk =>
        cases j with
        | zero => simpa using h1
        | succ j => simpa using ne_fi_none hk j
/-- the caller's world behind the call -/
def ne_mg (ws : ne_W) (is : List Nat) (ws1 : ne_W) : ne_W := (List.range ws.length).map (fun i => match ne_fi is i with
  | some j => ne_rE is ws.length (ws1.getD j none)
  | none => ws.getD i none) ++ (ws1.drop is.length).map (ne_rE is ws.length)
theorem ne_mg_lt {ws : ne_W} {is : List Nat} {ws1 : ne_W} {i : Nat} (h : i < ws.length) : (ne_mg ws is ws1)[i]? = some (match ne_fi is i with
  | some j => ne_rE is ws.length (ws1.getD j none)
  | none => ws.getD i none) := by
  unfold ne_mg
  rw [List.getElem?_append_left (by simpa using h), List.getElem?_map, List.getElem?_range h]
  rfl
theorem ne_mg_ge {ws : ne_W} {is : List Nat} {ws1 : ne_W} {i : Nat} (h : ws.length ≤ i) : (ne_mg ws is ws1)[i]? = (ws1[is.length + (i - ws.length)]?).map (ne_rE is ws.length) := by
  unfold ne_mg
  rw [List.getElem?_append_right (by simpa using h), List.getElem?_map, List.getElem?_drop]
  simp
section NEF
variable {cl : List vw_C} {D : va_G} {ct : Nat → ClassId} {A : Nat → Prop} {n0 : Nat} {ad0 : Nat → Nat} {p : Program} {l : Launch} {e : Env} {R : Room} {s : State} {m : MethodId} {args : Array Value} {below : List Frame} {meth : Method} {c : Code} {Q : State → Prop} {own : String} {cc : ByteArray} {nL : Nat} {Ts : List Cond} {fr lo mc ms C S pc : Nat} {L : List (Option Value)} {st : List Value} {ws : ne_W}
/-- the cells named by is are the callee's world wc -/
def ne_pt (ws : ne_W) (is : List Nat) (wc : ne_W) : Prop := is.map (fun i => ws.getD i none) = wc.map (ne_rE is ws.length) ∧ is.Nodup ∧ ∀ i ∈ is, i < ws.length
def ne_ac (is : List Nat) (n : Nat) (ad : Nat → Nat) : Nat → Nat := fun j => ad (ne_rp is n j)
theorem ne_ac_v {is : List Nat} {n : Nat} {ad : Nat → Nat} (v : Value) : ne_v (ne_ac is n ad) v = ne_v ad (ne_rn is n v) := by
  cases v <;> rfl
theorem ne_ac_c {is : List Nat} {n : Nat} {ad : Nat → Nat} (e : ne_E) : ne_c ct (ne_ac is n ad) e = ne_c ct ad (ne_rc is n e) := by
  cases e with
  | inl a => rfl
  | inr o =>
    simp only [ne_c, ne_rc, List.map_map]
    congr 2
    exact List.map_congr_left fun v _ => ne_ac_v v
theorem ne_pt_at {is : List Nat} {wc : ne_W} (hp : ne_pt ws is wc) {j : Nat} {e1 : ne_E} (h : wc[j]? = some (some e1)) : j < is.length ∧ ne_rp is ws.length j < ws.length ∧ is[j]? = some (ne_rp is ws.length j) ∧ ws[ne_rp is ws.length j]? = some (some (ne_rc is ws.length e1)) := by
  have h1 := congrArg (fun z => z[j]?) hp.1
  simp only [List.getElem?_map, h, Option.map_some] at h1
  cases h2 : is[j]? with
  | none => rw [h2] at h1; simp at h1
  | some i =>
    have h3 : j < is.length := (List.getElem?_eq_some_iff.mp h2).1
    have h4 : ne_rp is ws.length j = i := by
      unfold ne_rp
      rw [if_pos h3, List.getD_eq_getElem?_getD, h2]; rfl
    rw [h2] at h1
    simp only [Option.map_some, Option.some.injEq] at h1
    have h5 : i < ws.length := hp.2.2 i (List.mem_of_getElem? h2)
    rw [h4]
    refine ⟨h3, h5, rfl, ?_⟩
    rw [List.getD_eq_getElem?_getD] at h1
    rw [List.getElem?_eq_getElem h5] at h1 ⊢
    simp only [Option.getD_some] at h1
    rw [h1]
    rfl
theorem ne_pt_nd {is : List Nat} {wc : ne_W} (hp : ne_pt ws is wc) {i j a : Nat} (h1 : is[i]? = some a) (h2 : is[j]? = some a) : i = j := by
  have hi := (List.getElem?_eq_some_iff.mp h1).1
  have h3 : is[i]? = is[j]? := by rw [h1, h2]
  exact (List.getElem?_inj hi hp.2.1).mp h3
theorem ne_preF {H : Heap} {locs : List Loc} {ad : Nat → Nat} {is : List Nat} {wc : ne_W} {av : List Value} (X : ne_F cl D ct A p l R s m args meth c own cc nL Ts fr lo mc ms) (hp : ne_pt ws is wc) (h4 : va_P D cl (ne_w ct ad 0 ws) H) (h5 : va_D A (ne_w ct ad 0 ws)) (h6 : va_S A s.heap H locs) :
    (∀ q, va_A (ne_w ct (ne_ac is ws.length ad) 0 wc) H.size q → A q) ∧ va_P D cl (ne_w ct (ne_ac is ws.length ad) 0 wc) H ∧ PreS s H (va_Pc av (fun U => U.heap.size = H.size ∧ va_P D cl (ne_w ct (ne_ac is ws.length ad) 0 wc) U.heap ∧ va_K D cl (ne_ty ct) U ∧ va_D (fun _ => True) (ne_w ct (ne_ac is ws.length ad) 0 wc) ∧ ne_Z (va_A (ne_w ct (ne_ac is ws.length ad) 0 wc) H.size) U U.heap)) av := by
  have hP : va_P D cl (ne_w ct (ne_ac is ws.length ad) 0 wc) H := ne_Piff.mpr fun j e1 hj => by
    obtain ⟨a1, a2, a3, a4⟩ := ne_pt_at hp hj
    rw [ne_ac_c]
    exact ne_Piff.mp h4 _ _ a4
  have hD : va_D A (ne_w ct (ne_ac is ws.length ad) 0 wc) := ne_Diff.mpr ⟨fun i j e1 e2 hi hj hq => by
    obtain ⟨a1, a2, a3, a4⟩ := ne_pt_at hp hi
    obtain ⟨b1, b2, b3, b4⟩ := ne_pt_at hp hj
    have h9 := (ne_Diff.mp h5).1 _ _ _ _ a4 b4 hq
    rw [h9] at a3
    exact ne_pt_nd hp a3 b3, fun i e1 hi => by
    obtain ⟨a1, a2, a3, a4⟩ := ne_pt_at hp hi
    exact (ne_Diff.mp h5).2 _ _ a4⟩
  have hA1 : ∀ q, va_A (ne_w ct (ne_ac is ws.length ad) 0 wc) H.size q → A q := by
    rintro q (⟨k, e, hk⟩ | hq)
    · exact hD.2 k _ hk
    · exact X.2.2.1 q (Nat.le_trans h6.1 hq)
  refine ⟨hA1, hP, ne_blind, fun U hU hW => ⟨rfl, by rw [hU], by rw [hU]; exact hP, va_K.moved hW.alike X.2.1, hD.weaken (fun _ _ _ _ => trivial), ?_⟩⟩
  rw [hU]
  have hz : ne_Z A s H := ne_Z.kept X.2.2.2.2.2.2.2.1 (fun a ha hA => h6.2.1 a ha hA)
  exact (hz.narrow hA1).warm hW
/-- the caller's view behind the call -/
theorem ne_back {H H1 : Heap} {ad ad1 : Nat → Nat} {is : List Nat} {wc ws1 : ne_W} (hp : ne_pt ws is wc) (hw : ne_cw ws.length ws = true) (hA : ∀ q, va_A (ne_w ct (ne_ac is ws.length ad) 0 wc) H.size q → A q) (h4 : va_P D cl (ne_w ct ad 0 ws) H) (h5 : va_D A (ne_w ct ad 0 ws)) (hlen : wc.length = is.length) (hag : ∀ k, k < wc.length → ad1 k = ne_ac is ws.length ad k) (hP1 : va_P D cl (ne_w ct ad1 0 ws1) H1) (hD1 : va_D (va_A (ne_w ct (ne_ac is ws.length ad) 0 wc) H.size) (ne_w ct ad1 0 ws1)) (hk : ∀ q : Nat, q < H.size → ¬ va_A (ne_w ct (ne_ac is ws.length ad) 0 wc) H.size q → H1[q]? = H[q]?) (hwcs : ∀ j : Nat, j < is.length → ∃ e1, wc[j]? = some e1) :
    ∃ ad2 : Nat → Nat, (∀ k, k < ws.length → ad2 k = ad k) ∧ (∀ v, ne_v ad2 (ne_rn is ws.length v) = ne_v ad1 v) ∧ va_P D cl (ne_w ct ad2 0 (ne_mg ws is ws1)) H1 ∧ va_D A (ne_w ct ad2 0 (ne_mg ws is ws1)) := by
  obtain ⟨ad2, had2⟩ : ∃ f : Nat → Nat, f = fun i => if i < ws.length then ad i else ad1 (is.length + (i - ws.length)) := ⟨_, rfl⟩
  have e1 : ∀ k, k < ws.length → ad2 k = ad k := fun k hk => by rw [had2]; simp [hk]
  have e2 : ∀ j, ad2 (ne_rp is ws.length j) = ad1 j := fun j => by
    by_cases hj : j < is.length
    · have h1 : ne_rp is ws.length j < ws.length := by
        unfold ne_rp
        rw [if_pos hj, List.getD_eq_getElem?_getD, List.getElem?_eq_getElem hj]
        exact hp.2.2 _ (List.getElem_mem hj)
      rw [e1 _ h1, hag j (by omega)]
      rfl
    · have h1 : ne_rp is ws.length j = ws.length + (j - is.length) := by unfold ne_rp; rw [if_neg hj]
      rw [h1, had2]
      simp only [show ¬ (ws.length + (j - is.length) < ws.length) by omega, if_false]
      congr 1
      omega
  have e3 : ∀ v, ne_v ad2 (ne_rn is ws.length v) = ne_v ad1 v := fun v => by
    cases v with
    | ref j => show Value.ref _ = Value.ref _; rw [e2]
    | _ => rfl
  have e4 : ∀ e9 : ne_E, ne_c ct ad2 (ne_rc is ws.length e9) = ne_c ct ad1 e9 := fun e9 => by
    cases e9 with
    | inl a => rfl
    | inr o =>
      simp only [ne_c, ne_rc, List.map_map]
      congr 2
      exact List.map_congr_left fun v _ => e3 v
  have e5 : ∀ {e9 : ne_E}, ne_okE ws.length (some e9) = true → ne_c ct ad2 e9 = ne_c ct ad e9 := fun h => ne_c_eq e1 h
  -- what lies at a place of the new world
  have key : ∀ (i : Nat) (e9 : ne_E), (ne_mg ws is ws1)[i]? = some (some e9) → (∃ j e8, ws1[j]? = some (some e8) ∧ i = ne_rp is ws.length j ∧ e9 = ne_rc is ws.length e8) ∨ (i < ws.length ∧ ne_fi is i = none ∧ ws[i]? = some (some e9)) := by
    intro i e9 hi
    by_cases h : i < ws.length
    · rw [ne_mg_lt h] at hi
      cases hf : ne_fi is i with
      | none =>
        rw [hf] at hi
        refine Or.inr ⟨h, rfl, ?_⟩
        rw [List.getD_eq_getElem?_getD, List.getElem?_eq_getElem h] at hi
        rw [List.getElem?_eq_getElem h]
        simpa using hi
      | some j =>
        rw [hf] at hi
        have hj := ne_fi_some hf
        have hjl : j < is.length := (List.getElem?_eq_some_iff.mp hj).1
        simp only [Option.some.injEq] at hi
        cases hz : ws1.getD j none with
        | none => rw [hz] at hi; simp [ne_rE] at hi
        | some e8 =>
          rw [hz] at hi
          simp only [ne_rE, Option.some.injEq] at hi
          refine Or.inl ⟨j, e8, ?_, ?_, hi.symm⟩
          · rw [List.getD_eq_getElem?_getD] at hz
            cases hq : ws1[j]? with
            | none => rw [hq] at hz; simp at hz
            | some o => rw [hq] at hz; simp only [Option.getD_some] at hz; rw [hz]
          · unfold ne_rp
            rw [if_pos hjl, List.getD_eq_getElem?_getD, hj]; rfl
    · rw [ne_mg_ge (by omega)] at hi
      cases hq : ws1[is.length + (i - ws.length)]? with
      | none => rw [hq] at hi; simp at hi
      | some o =>
        rw [hq] at hi
        cases o with
        | none => simp [ne_rE] at hi
        | some e8 =>
          simp only [Option.map_some, ne_rE, Option.some.injEq] at hi
          refine Or.inl ⟨_, e8, hq, ?_, hi.symm⟩
          unfold ne_rp
          rw [if_neg (by omega)]
          omega
  -- the cells that are not the callee's
  have oth : ∀ (i : Nat) (e9 : ne_E), i < ws.length → ne_fi is i = none → ws[i]? = some (some e9) → ad i < H.size ∧ ¬ va_A (ne_w ct (ne_ac is ws.length ad) 0 wc) H.size (ad i) := by
    intro i e9 h hf hi
    have hlt : ad i < H.size := (ne_Piff.mp h4 i e9 hi).lt
    refine ⟨hlt, ?_⟩
    rintro (⟨k, x, hkx⟩ | hq)
    · obtain ⟨j, e8, b1, b2, b3⟩ := ne_ix_of hkx
      rw [Nat.zero_add] at b3
      obtain ⟨a1, a2, a3, a4⟩ := ne_pt_at hp b1
      have h9 : ad i = ad (ne_rp is ws.length j) := congrArg Prod.fst b3
      have h10 := (ne_Diff.mp h5).1 _ _ _ _ hi a4 h9
      rw [← h10] at a3
      exact ne_fi_none hf j a3
    · omega
  refine ⟨ad2, e1, e3, ne_Piff.mpr fun i e9 hi => ?_, ne_Diff.mpr ⟨fun i j e9 e8 hi hj hq => ?_, fun i e9 hi => ?_⟩⟩
  · rcases key i e9 hi with ⟨j, e8, a1, rfl, rfl⟩ | ⟨a1, a2, a3⟩
    · rw [e2, e4]
      exact ne_Piff.mp hP1 _ _ a1
    · have hc : ne_okE ws.length (some e9) = true := List.all_eq_true.mp hw _ (List.mem_of_getElem? a3)
      rw [e1 i a1, e5 hc]
      obtain ⟨b1, b2⟩ := oth i e9 a1 a2 a3
      exact (ne_Piff.mp h4 i e9 a3).kept (hk _ b1 b2)
  · rcases key i e9 hi with ⟨i', e7, a1, rfl, rfl⟩ | ⟨a1, a2, a3⟩
    · rcases key j e8 hj with ⟨j', e6, b1, rfl, rfl⟩ | ⟨b1, b2, b3⟩
      · rw [e2, e2] at hq
        rw [(ne_Diff.mp hD1).1 _ _ _ _ a1 b1 hq]
      · rw [e2, e1 j b1] at hq
        have h9 := (ne_Diff.mp hD1).2 _ _ a1
        rw [hq] at h9
        exact absurd h9 (oth j e8 b1 b2 b3).2
    · rcases key j e8 hj with ⟨j', e6, b1, rfl, rfl⟩ | ⟨b1, b2, b3⟩
      · rw [e2, e1 i a1] at hq
        have h9 := (ne_Diff.mp hD1).2 _ _ b1
        rw [← hq] at h9
        exact absurd h9 (oth i e9 a1 a2 a3).2
      · rw [e1 i a1, e1 j b1] at hq
        exact (ne_Diff.mp h5).1 _ _ _ _ a3 b3 hq
  · rcases key i e9 hi with ⟨i', e7, a1, rfl, rfl⟩ | ⟨a1, a2, a3⟩
    · rw [e2]
      exact hA _ ((ne_Diff.mp hD1).2 _ _ a1)
    · rw [e1 i a1]
      exact (ne_Diff.mp h5).2 _ _ a3
theorem ne_afterF {H : Heap} {locs : List Loc} {cells slots mc1 ms1 : Nat} {ad : Nat → Nat} {ls : Array Slot} {st0 : List Value} {a9 : Array Value} {is : List Nat} {wc : ne_W} {post : Option Value → ne_W → Prop} {px : String → ne_W → Prop} (X : ne_F cl D ct A p l R s m args meth c own cc nL Ts fr lo mc ms) (hp : ne_pt ws is wc) (hA1 : ∀ q, va_A (ne_w ct (ne_ac is ws.length ad) 0 wc) H.size q → A q) (hr : vx_Run p l e R s m args below meth c H locs cells slots mc1 ms1 (F0 m pc ls st0) (st.map (ne_v ad)) (ne_Q cl D ct (ne_ac is ws.length ad) wc.length (va_A (ne_w ct (ne_ac is ws.length ad) 0 wc) H.size) post a9) (ne_XC cl D ct (ne_ac is ws.length ad) wc.length (va_A (ne_w ct (ne_ac is ws.length ad) 0 wc) H.size) px) (va_A (ne_w ct (ne_ac is ws.length ad) 0 wc) H.size))
    (h1 : ∀ k, k < n0 → ad k = ad0 k) (h2 : cells + C ≤ mc) (h3 : slots + S ≤ ms) (h4 : va_P D cl (ne_w ct ad 0 ws) H) (h5 : va_D A (ne_w ct ad 0 ws)) (h6 : va_S A s.heap H locs) (h7 : lv_has ls nL (ne_l ad 0 L)) (hC : mc1 ≤ C) (hS : ms1 ≤ S) (hn0 : n0 ≤ ws.length) (hw : ne_cw ws.length ws = true) (hl : ne_cl ws.length L = true) (hs : ne_cs ws.length st = true)
    (kk : ∀ (v : Option Value) (ws1 : ne_W), post v ws1 → ne_G cl D ct A n0 ad0 p l e R s m args below meth c Q nL mc ms (C - mc1) (S - ms1) (pc + 3) L ((v.map (ne_rn is ws.length)).toList ++ st) (ne_mg ws is ws1)) (kx : ∀ (E : String) (ws1 : ne_W), px E ws1 → ne_T cl D ct A n0 ad0 p l e R s m args below meth c Q nL mc ms (C - mc1) (S - ms1) pc L E (ne_mg ws is ws1)) : W p l e R s m args below meth c H locs cells slots Q (F0 m pc ls st0) := by
  have hlen : wc.length = is.length := by have := congrArg List.length hp.1; simpa using this.symm
  have hwcs : ∀ j : Nat, j < is.length → ∃ e1, wc[j]? = some e1 := fun j hj => ⟨_, List.getElem?_eq_getElem (by omega)⟩
  intro T hT Y
  rcases hr T hT Y with ⟨v, st₀, t, T', L9, h0, Y', hL, e1, e2, ⟨v', ws1, ad1, hv, hpo, hag, hP1, hD1, hF1⟩, stp⟩ | ⟨q, st₀, t, T', L9, E, ce, h0, Y', hL, e1, e2, ⟨ws1, ad1, hpo, hag, hP1, hD1, hF1⟩, hce, hcv, hcl, stp⟩
  · have hv2 : v = v'.map (ne_v ad1) := by injection hv
    subst hv2
    obtain ⟨k1, k2, k3⟩ := vx_keep h0 e1 h6 (fun q _ h => hA1 q h) hA1 hL hF1
    obtain ⟨ad2, f1, f2, f3, f4⟩ := ne_back (ct := ct) (A := A) hp hw hA1 h4 h5 hlen hag (by rw [e1]; exact hP1 : va_P D cl (ne_w ct ad1 0 ws1) T'.heap) hD1 k2 hwcs
    obtain ⟨t2, a1, b1⟩ := kk v' ws1 hpo T'.heap (locs ++ L9) (cells + mc1) (slots + ms1) ad2 ls (fun k hk => (f1 k (by omega)).trans (h1 k hk)) (by omega) (by omega) f3 f4 k3 (by rw [ne_l_eq f1 hl]; exact h7) T' rfl Y'
    have hst : ((v'.map (ne_rn is ws.length)).toList ++ st).map (ne_v ad2) = (v'.map (ne_v ad1)).toList ++ st.map (ne_v ad) := by
      rw [List.map_append, ne_s_eq f1 hs]
      cases v' with
      | none => rfl
      | some v => simp only [Option.map_some, Option.toList_some, List.map_cons, List.map_nil, f2]
    rw [hst] at a1
    exact ⟨t2, stp t2 a1, b1⟩
  · obtain ⟨k1, k2, k3⟩ := vx_keep h0 e1 h6 (fun q _ h => hA1 q h) hA1 hL hF1
    obtain ⟨ad2, f1, f2, f3, f4⟩ := ne_back (ct := ct) (A := A) hp hw hA1 h4 h5 hlen hag (by rw [e1]; exact hP1 : va_P D cl (ne_w ct ad1 0 ws1) T'.heap) hD1 k2 hwcs
    obtain ⟨t2, a1, b1⟩ := kx E ws1 hpo T'.heap (locs ++ L9) (cells + mc1) (slots + ms1) ad2 ls (st.map (ne_v ad)) q ce (fun k hk => (f1 k (by omega)).trans (h1 k hk)) (by omega) (by omega) f3 f4 k3 (by rw [ne_l_eq f1 hl]; exact h7) (by rw [e1]; exact hce) hcv hcl T' rfl Y'
    exact ⟨t2, stp.trans a1, b1⟩

theorem ne_callSF {y : MethodName} {bytes : ByteArray} {maxL n ix fr1 lo1 mc1 ms1 : Nat} {ret : Option FieldType} {as st1 : List Value} {is : List Nat} {wc : ne_W} {post : Option Value → ne_W → Prop} {px : String → ne_W → Prop} (X : ne_F cl D ct A p l R s m args meth c own cc nL Ts fr lo mc ms) (hg : ∀ w ∈ Ts, goodWord w = true) (hM : ne_M l cl (.code y bytes maxL ret) Ts y fr1 lo1 mc1 ms1 as wc post px) (hy : ne_cy y (.code y bytes maxL ret) n Ts) (hw1 : Cond.methodLink own ix y ∈ Ts) (hw2 : Cond.static y ∈ Ts) (hdg : decode cc pc = .ok (.invokestatic ix, 3)) (hst : st1 = (as.map (ne_rn is ws.length)).reverse ++ st) (hlen : as.length = n) (hfr : fr1 + 1 ≤ fr) (hlo : 8 + (maxL + 11) + lo1 ≤ lo) (hC : mc1 ≤ C) (hS : ms1 ≤ S) (hn0 : n0 ≤ ws.length) (hw : ne_cw ws.length ws = true) (hl : ne_cl ws.length L = true) (hs : ne_cs ws.length st = true) (hcat : (st.map fun v => v.category).sum ≤ 8) (hp : ne_pt ws is wc) (kk : ∀ (v : Option Value) (ws1 : ne_W), post v ws1 → ne_G cl D ct A n0 ad0 p l e R s m args below meth c Q nL mc ms (C - mc1) (S - ms1) (pc + 3) L ((v.map (ne_rn is ws.length)).toList ++ st) (ne_mg ws is ws1)) (kx : ∀ (E : String) (ws1 : ne_W), px E ws1 → ne_T cl D ct A n0 ad0 p l e R s m args below meth c Q nL mc ms (C - mc1) (S - ms1) pc L E (ne_mg ws is ws1)) : ne_G cl D ct A n0 ad0 p l e R s m args below meth c Q nL mc ms C S pc L st1 ws := fun H locs cells slots ad ls h1 h2 h3 h4 h5 h6 h7 => by
  subst hst
  have e8 : ∀ z : List Value, z.map (fun v => ne_v ad (ne_rn is ws.length v)) = z.map (ne_v (ne_ac is ws.length ad)) := fun z => List.map_congr_left fun v _ => (ne_ac_v v).symm
  have e9 : ((as.map (ne_rn is ws.length)).reverse ++ st).map (ne_v ad) = (as.map (ne_v (ne_ac is ws.length ad))).reverse ++ st.map (ne_v ad) := by
    rw [← e8]
    simp [List.map_append, List.map_reverse, ne_v, ne_ac, Function.comp_def]
  rw [e9]
  have hF := ne_preF (av := as.map (ne_v (ne_ac is ws.length ad))) X hp h4 h5 h6
  have cw := va_cwS (R := R) (s := s) (args := args) (own := own) (index := ix) (y := y) (bytes := bytes) (maxL := maxL) (mc := mc1) (ms := ms1) (ret := ret) (Ts := Ts) (ws := .code y bytes maxL ret :: Ts) (ws' := Ts) (rm := { frames := fr1, cells := mc1, slots := ms1, locals := lo1 }) n X.1.2.2.2.2 (ne_gi hg (fun w hw => by
    unfold va_wsS at hw
    simp only [List.cons_append, List.nil_append, List.mem_cons] at hw
    rcases hw with rfl | rfl | rfl | rfl | hw
    · exact hw1
    · exact hw2
    · exact hy.2.1
    · exact hy.1
    · exact hw)) rfl rfl rfl ⟨hy.2.2.1, hy.2.2.2.1, hy.2.2.2.2⟩ ⟨Nat.le_trans hfr X.2.2.2.1, Nat.le_trans hlo X.2.2.2.2.1⟩
  exact ne_afterF X hp hF.1 (vx_runS (As := as.map (ne_v (ne_ac is ws.length ad))) (rest := st.map (ne_v ad)) X.1 (hM D ct (ne_ac is ws.length ad) H.size) cw hF.2.2 rfl (by rw [List.length_map]; exact hlen) h7.1 rfl (by show 2 * 0 + _ ≤ 8; rw [ne_mcat]; omega) hdg ⟨by have := X.2.2.2.2.2.1; omega, by have := X.2.2.2.2.2.2.1; omega⟩) h1 h2 h3 h4 h5 h6 h7 hC hS hn0 hw hl hs kk kx
theorem ne_callVF {y : MethodName} {bytes : ByteArray} {maxL n ix fr1 lo1 mc1 ms1 : Nat} {ret : Option FieldType} {as st1 : List Value} {is : List Nat} {wc : ne_W} {post : Option Value → ne_W → Prop} {px : String → ne_W → Prop} {q ci : Nat} {fs : List Value} {r : vw_C} (X : ne_F cl D ct A p l R s m args meth c own cc nL Ts fr lo mc ms) (hg : ∀ w ∈ Ts, goodWord w = true) (hM : ne_M l cl (.code y bytes maxL ret) Ts y fr1 lo1 mc1 ms1 (.ref q :: as) wc post px) (hy : ne_cy y (.code y bytes maxL ret) n Ts) (hw1 : Cond.methodLink own ix y ∈ Ts) (hw2 : Cond.instanceMethod y ∈ Ts) (hw3 : Cond.selects y.cls y y ∈ Ts) (hr : cl[ci]? = some r) (hrc : r.1 = y.cls) (he : wc[q]? = some (some (.inr (ci, fs)))) (hdg : decode cc pc = .ok (.invokevirtual ix, 3)) (hst : st1 = (as.map (ne_rn is ws.length)).reverse ++ .ref (ne_rp is ws.length q) :: st) (hlen : as.length = n) (hfr : fr1 + 1 ≤ fr) (hlo : 8 + (maxL + 11) + lo1 ≤ lo) (hC : mc1 ≤ C) (hS : ms1 ≤ S) (hn0 : n0 ≤ ws.length) (hw : ne_cw ws.length ws = true) (hl : ne_cl ws.length L = true) (hs : ne_cs ws.length st = true) (hcat : (st.map fun v => v.category).sum ≤ 8) (hp : ne_pt ws is wc) (kk : ∀ (v : Option Value) (ws1 : ne_W), post v ws1 → ne_G cl D ct A n0 ad0 p l e R s m args below meth c Q nL mc ms (C - mc1) (S - ms1) (pc + 3) L ((v.map (ne_rn is ws.length)).toList ++ st) (ne_mg ws is ws1)) (kx : ∀ (E : String) (ws1 : ne_W), px E ws1 → ne_T cl D ct A n0 ad0 p l e R s m args below meth c Q nL mc ms (C - mc1) (S - ms1) pc L E (ne_mg ws is ws1)) : ne_G cl D ct A n0 ad0 p l e R s m args below meth c Q nL mc ms C S pc L st1 ws := fun H locs cells slots ad ls h1 h2 h3 h4 h5 h6 h7 => by
  subst hst
  have e8 : ∀ z : List Value, z.map (fun v => ne_v ad (ne_rn is ws.length v)) = z.map (ne_v (ne_ac is ws.length ad)) := fun z => List.map_congr_left fun v _ => (ne_ac_v v).symm
  have e9 : ((as.map (ne_rn is ws.length)).reverse ++ .ref (ne_rp is ws.length q) :: st).map (ne_v ad) = (as.map (ne_v (ne_ac is ws.length ad))).reverse ++ .ref (ne_ac is ws.length ad q) :: st.map (ne_v ad) := by
    rw [← e8]
    simp [List.map_append, List.map_reverse, ne_v, ne_ac, Function.comp_def]
  rw [e9]
  obtain ⟨q0, e1, -⟩ := ne_w_set (ct := ct) (ad := ne_ac is ws.length ad) (k := 0) he
  rw [Nat.zero_add] at e1
  have hF := ne_preF (av := .ref (ne_ac is ws.length ad q) :: as.map (ne_v (ne_ac is ws.length ad))) X hp h4 h5 h6
  have rv := va_recv X.2.1 hF.2.1 hr e1
  rw [hrc] at rv
  have cw := cwV (R := R) (s := s) (args := args) (own := own) (C := y.cls) (index := ix) (y := y) (bytes := bytes) (maxL := maxL) (mc := mc1) (ms := ms1) (ret := ret) (Ts := Ts) (ws := .code y bytes maxL ret :: Ts) (ws' := Ts) (rm := { frames := fr1, cells := mc1, slots := ms1, locals := lo1 }) n X.1.2.2.2.2 (ne_gi hg (fun w hw => by
    unfold wsV at hw
    simp only [List.cons_append, List.nil_append, List.mem_cons] at hw
    rcases hw with rfl | rfl | rfl | rfl | rfl | hw
    · exact hw1
    · exact hw2
    · exact hw3
    · exact hy.2.1
    · exact hy.1
    · exact hw)) rfl rfl rfl ⟨rfl, hy.2.2.1, hy.2.2.2.1, hy.2.2.2.2⟩ ⟨Nat.le_trans hfr X.2.2.2.1, Nat.le_trans hlo X.2.2.2.2.1⟩
  exact ne_afterF X hp hF.1 (vx_runV (As := as.map (ne_v (ne_ac is ws.length ad))) (rest := st.map (ne_v ad)) (b := ne_ac is ws.length ad q) X.1 (hM D ct (ne_ac is ws.length ad) H.size) cw ⟨hF.2.2.1, rv, hF.2.2.2⟩ rfl (by rw [List.length_map]; exact hlen) h7.1 rfl (by show 2 * 0 + _ ≤ 8; rw [ne_mcat]; omega) hdg ⟨by have := X.2.2.2.2.2.1; omega, by have := X.2.2.2.2.2.2.1; omega⟩) h1 h2 h3 h4 h5 h6 h7 hC hS hn0 hw hl hs kk kx
theorem ne_callIF {y : MethodName} {bytes : ByteArray} {maxL n ix fr1 lo1 mc1 ms1 : Nat} {ret : Option FieldType} {as st1 : List Value} {is : List Nat} {wc : ne_W} {post : Option Value → ne_W → Prop} {px : String → ne_W → Prop} {q : Nat} (X : ne_F cl D ct A p l R s m args meth c own cc nL Ts fr lo mc ms) (hg : ∀ w ∈ Ts, goodWord w = true) (hM : ne_M l cl (.code y bytes maxL ret) Ts y fr1 lo1 mc1 ms1 (.ref q :: as) wc post px) (hr9 : ret = none) (hy : ne_cy y (.code y bytes maxL ret) n Ts) (hw1 : Cond.methodLink own ix y ∈ Ts) (hw2 : Cond.instanceMethod y ∈ Ts) (hy1 : y.name = "<init>") (hdg : decode cc pc = .ok (.invokespecial ix, 3)) (hst : st1 = (as.map (ne_rn is ws.length)).reverse ++ .ref (ne_rp is ws.length q) :: st) (hlen : as.length = n) (hfr : fr1 + 1 ≤ fr) (hlo : 8 + (maxL + 11) + lo1 ≤ lo) (hC : mc1 ≤ C) (hS : ms1 ≤ S) (hn0 : n0 ≤ ws.length) (hw : ne_cw ws.length ws = true) (hl : ne_cl ws.length L = true) (hs : ne_cs ws.length st = true) (hcat : (st.map fun v => v.category).sum ≤ 8) (hp : ne_pt ws is wc) (kk : ∀ (v : Option Value) (ws1 : ne_W), post v ws1 → ne_G cl D ct A n0 ad0 p l e R s m args below meth c Q nL mc ms (C - mc1) (S - ms1) (pc + 3) L ((v.map (ne_rn is ws.length)).toList ++ st) (ne_mg ws is ws1)) (kx : ∀ (E : String) (ws1 : ne_W), px E ws1 → ne_T cl D ct A n0 ad0 p l e R s m args below meth c Q nL mc ms (C - mc1) (S - ms1) pc L E (ne_mg ws is ws1)) : ne_G cl D ct A n0 ad0 p l e R s m args below meth c Q nL mc ms C S pc L st1 ws := fun H locs cells slots ad ls h1 h2 h3 h4 h5 h6 h7 => by
  subst hst
  have e8 : ∀ z : List Value, z.map (fun v => ne_v ad (ne_rn is ws.length v)) = z.map (ne_v (ne_ac is ws.length ad)) := fun z => List.map_congr_left fun v _ => (ne_ac_v v).symm
  have e9 : ((as.map (ne_rn is ws.length)).reverse ++ .ref (ne_rp is ws.length q) :: st).map (ne_v ad) = (as.map (ne_v (ne_ac is ws.length ad))).reverse ++ .ref (ne_ac is ws.length ad q) :: st.map (ne_v ad) := by
    rw [← e8]
    simp [List.map_append, List.map_reverse, ne_v, ne_ac, Function.comp_def]
  rw [e9]
  subst hr9
  have hF := ne_preF (av := .ref (ne_ac is ws.length ad q) :: as.map (ne_v (ne_ac is ws.length ad))) X hp h4 h5 h6
  have cw := cwI (R := R) (s := s) (args := args) (own := own) (index := ix) (y := y) (bytes := bytes) (maxL := maxL) (mc := mc1) (ms := ms1) (Ts := Ts) (ws := .code y bytes maxL none :: Ts) (ws' := Ts) (rm := { frames := fr1, cells := mc1, slots := ms1, locals := lo1 }) n X.1.2.2.2.2 (ne_gi hg (fun w hw => by
    rcases List.mem_cons.mp hw with rfl | hw
    · exact hy.1
    · exact hw)) rfl rfl rfl (X.1.2.2.2.2 _ hy.2.1) (X.1.2.2.2.2 _ hw1) (X.1.2.2.2.2 _ hw2) hy1 ⟨hy.2.2.1, hy.2.2.2.1, hy.2.2.2.2⟩ ⟨Nat.le_trans hfr X.2.2.2.1, Nat.le_trans hlo X.2.2.2.2.1⟩
  exact ne_afterF X hp hF.1 (vx_runI (As := as.map (ne_v (ne_ac is ws.length ad))) (rest := st.map (ne_v ad)) (b := ne_ac is ws.length ad q) X.1 (hM D ct (ne_ac is ws.length ad) H.size) cw hF.2.2 rfl (by rw [List.length_map]; exact hlen) h7.1 rfl (by show 2 * 0 + _ ≤ 8; rw [ne_mcat]; omega) hdg ⟨by have := X.2.2.2.2.2.1; omega, by have := X.2.2.2.2.2.2.1; omega⟩) h1 h2 h3 h4 h5 h6 h7 hC hS hn0 hw hl hs kk kx
end NEF
