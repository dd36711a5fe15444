/-! ## NE: a thin layer over W: worlds by places, whole numbers for ints -/
section NEA
def ne_v (ad : Nat → Nat) (v : Value) : Value := match v with
  | .ref k => .ref (ad k)
  | w => w
theorem ne_v_cat (ad : Nat → Nat) (v : Value) : (ne_v ad v).category = v.category := by cases v <;> rfl
/-- an int, a long, by a whole number -/
abbrev ni (z : Int) : Value := .int (Int32.ofInt z)
abbrev nl (z : Int) : Value := .long (Int64.ofInt z)
/-- a cell: an array (its kind, its length, its contents), an object (its class, its fields) -/
abbrev ne_E : Type := (Nat × Nat × (Nat → Int)) ⊕ (Nat × List Value)
abbrev ne_W : Type := List (Option ne_E)
def ne_c (ct : Nat → ClassId) (ad : Nat → Nat) (e : ne_E) : va_E := match e with
  | .inl a => .inl (ct a.1, a.2.1, .inl (fun j => Int32.ofInt (a.2.2 j)))
  | .inr o => .inr (o.1, o.2.map (ne_v ad))
def ne_w (ct : Nat → ClassId) (ad : Nat → Nat) : Nat → ne_W → va_W
  | _, [] => []
  | k, none :: t => ne_w ct ad (k + 1) t
  | k, some e :: t => (ad k, ne_c ct ad e) :: ne_w ct ad (k + 1) t
theorem ne_w_mem {ct : Nat → ClassId} {ad : Nat → Nat} : ∀ {ws : ne_W} {k : Nat} {q : Nat × va_E}, q ∈ ne_w ct ad k ws ↔ ∃ (i : Nat) (e : ne_E), ws[i]? = some (some e) ∧ q = (ad (k + i), ne_c ct ad e)
  | [], k, q => by simp [ne_w]
  | none :: t, k, q => by
    rw [ne_w, ne_w_mem]
    constructor
    · rintro ⟨i, e, h1, h2⟩
      exact ⟨i + 1, e, by simpa using h1, by rw [h2]; congr 2; omega⟩
    · rintro ⟨i, e, h1, h2⟩
      cases i with
      | zero => simp at h1
      | succ i => exact ⟨i, e, by simpa using h1, by rw [h2]; congr 2; omega⟩
  | some e0 :: t, k, q => by
    rw [ne_w, List.mem_cons, ne_w_mem]
    constructor
    · rintro (h | ⟨i, e, h1, h2⟩)
      · exact ⟨0, e0, rfl, h⟩
      · exact ⟨i + 1, e, by simpa using h1, by rw [h2]; congr 2; omega⟩
    · rintro ⟨i, e, h1, h2⟩
      cases i with
      | zero =>
        have : e0 = e := by simpa using h1
        subst this
        exact Or.inl h2
      | succ i => exact Or.inr ⟨i, e, by simpa using h1, by rw [h2]; congr 2; omega⟩
theorem ne_w_set {ct : Nat → ClassId} {ad : Nat → Nat} : ∀ {ws : ne_W} {k i : Nat} {e : ne_E}, ws[i]? = some (some e) → ∃ q0 : Nat, (ne_w ct ad k ws)[q0]? = some (ad (k + i), ne_c ct ad e) ∧ ∀ e' : ne_E, (ne_w ct ad k ws).set q0 (ad (k + i), ne_c ct ad e') = ne_w ct ad k (ws.set i (some e'))
  | [], k, i, e, h => by simp at h
  | none :: t, k, i, e, h => by
    cases i with
    | zero => simp at h
    | succ i =>
      obtain ⟨q0, h1, h2⟩ := ne_w_set (ct := ct) (ad := ad) (k := k + 1) (ws := t) (i := i) (e := e) (by simpa using h)
      have e1 : k + 1 + i = k + (i + 1) := by omega
      rw [e1] at h1 h2
      refine ⟨q0, by rw [ne_w]; exact h1, fun e' => ?_⟩
      rw [List.set_cons_succ, ne_w, ne_w]
      exact h2 e'
  | some e0 :: t, k, i, e, h => by
    cases i with
    | zero =>
      have : e0 = e := by simpa using h
      subst this
      refine ⟨0, by rw [ne_w]; rfl, fun e' => ?_⟩
      rw [List.set_cons_zero, ne_w, ne_w, List.set_cons_zero]
      rfl
    | succ i =>
      obtain ⟨q0, h1, h2⟩ := ne_w_set (ct := ct) (ad := ad) (k := k + 1) (ws := t) (i := i) (e := e) (by simpa using h)
      have e1 : k + 1 + i = k + (i + 1) := by omega
      rw [e1] at h1 h2
      refine ⟨q0 + 1, by rw [ne_w]; simpa using h1, fun e' => ?_⟩
      rw [List.set_cons_succ, ne_w, ne_w, List.set_cons_succ, h2 e']
theorem ne_w_app {ct : Nat → ClassId} {ad : Nat → Nat} {e : ne_E} : ∀ {ws : ne_W} {k : Nat}, ne_w ct ad k (ws ++ [some e]) = ne_w ct ad k ws ++ [(ad (k + ws.length), ne_c ct ad e)]
  | [], k => by simp [ne_w]
  | none :: t, k => by
    rw [List.cons_append, ne_w, ne_w, ne_w_app]
    simp only [List.length_cons]
    rw [show k + 1 + t.length = k + (t.length + 1) by omega]
  | some e0 :: t, k => by
    rw [List.cons_append, ne_w, ne_w, ne_w_app, List.cons_append]
    simp only [List.length_cons]
    rw [show k + 1 + t.length = k + (t.length + 1) by omega]
theorem ne_w_appN {ct : Nat → ClassId} {ad : Nat → Nat} : ∀ {ws : ne_W} {k : Nat}, ne_w ct ad k (ws ++ [none]) = ne_w ct ad k ws
  | [], k => by simp [ne_w]
  | none :: t, k => by rw [List.cons_append, ne_w, ne_w, ne_w_appN]
  | some e0 :: t, k => by rw [List.cons_append, ne_w, ne_w, ne_w_appN]
/-- references below n alone -/
def ne_ok (n : Nat) (v : Value) : Bool := match v with
  | .ref k => decide (k < n)
  | _ => true
def ne_okE (n : Nat) (e : Option ne_E) : Bool := match e with
  | some (.inr o) => o.2.all (ne_ok n)
  | _ => true
def ne_okL (n : Nat) (o : Option Value) : Bool := match o with
  | some v => ne_ok n v
  | none => true
def ne_cw (n : Nat) (ws : ne_W) : Bool := ws.all (ne_okE n)
def ne_cs (n : Nat) (st : List Value) : Bool := st.all (ne_ok n)
def ne_cl (n : Nat) (L : List (Option Value)) : Bool := L.all (ne_okL n)
theorem ne_v_eq {n : Nat} {ad ad' : Nat → Nat} (ha : ∀ k, k < n → ad' k = ad k) {v : Value} (h : ne_ok n v = true) : ne_v ad' v = ne_v ad v := by
  cases v with
  | ref k => simp only [ne_ok, decide_eq_true_eq] at h; simp only [ne_v, ha k h]
  | _ => rfl
theorem ne_s_eq {n : Nat} {ad ad' : Nat → Nat} (ha : ∀ k, k < n → ad' k = ad k) {st : List Value} (h : ne_cs n st = true) : st.map (ne_v ad') = st.map (ne_v ad) :=
  List.map_congr_left fun v hv => ne_v_eq ha (List.all_eq_true.mp h v hv)
theorem ne_c_eq {n : Nat} {ct : Nat → ClassId} {ad ad' : Nat → Nat} (ha : ∀ k, k < n → ad' k = ad k) {e : ne_E} (h : ne_okE n (some e) = true) : ne_c ct ad' e = ne_c ct ad e := by
  cases e with
  | inl a => rfl
  | inr o =>
    have h2 : ne_cs n o.2 = true := h
    simp only [ne_c, ne_s_eq ha h2]
theorem ne_w_eq {n : Nat} {ct : Nat → ClassId} {ad ad' : Nat → Nat} (ha : ∀ k, k < n → ad' k = ad k) : ∀ {ws : ne_W} {k : Nat}, ne_cw n ws = true → k + ws.length ≤ n → ne_w ct ad' k ws = ne_w ct ad k ws
  | [], k, _, _ => rfl
  | none :: t, k, h, hk => by
    rw [ne_w, ne_w]
    have h2 : ne_cw n t = true := by simp only [ne_cw, List.all_cons, Bool.and_eq_true] at h ⊢; exact h.2
    exact ne_w_eq ha h2 (by simp only [List.length_cons] at hk; omega)
  | some e :: t, k, h, hk => by
    rw [ne_w, ne_w]
    simp only [ne_cw, List.all_cons, Bool.and_eq_true] at h
    have h2 : ne_cw n t = true := h.2
    simp only [List.length_cons] at hk
    rw [ne_w_eq ha h2 (by omega), ne_c_eq ha h.1, ha k (by omega)]
def ne_up (ad : Nat → Nat) (n q : Nat) : Nat → Nat := fun k => if k = n then q else ad k
theorem ne_up_self {ad : Nat → Nat} {n q : Nat} : ne_up ad n q n = q := by simp [ne_up]
theorem ne_up_lt {ad : Nat → Nat} {n q k : Nat} (h : k < n) : ne_up ad n q k = ad k := by simp [ne_up, Nat.ne_of_lt h]
/-! locals, by places -/
def ne_l (ad : Nat → Nat) : Nat → List (Option Value) → List (Nat × Value)
  | _, [] => []
  | i, none :: t => ne_l ad (i + 1) t
  | i, some v :: t => (i, ne_v ad v) :: ne_l ad (i + 1) t
theorem ne_l_mem {ad : Nat → Nat} : ∀ {L : List (Option Value)} {i : Nat} {q : Nat × Value}, q ∈ ne_l ad i L ↔ ∃ (k : Nat) (v : Value), L[k]? = some (some v) ∧ q = (i + k, ne_v ad v)
  | [], i, q => by simp [ne_l]
  | none :: t, i, q => by
    rw [ne_l, ne_l_mem]
    constructor
    · rintro ⟨k, v, h1, h2⟩
      exact ⟨k + 1, v, by simpa using h1, by rw [h2]; congr 1; omega⟩
    · rintro ⟨k, v, h1, h2⟩
      cases k with
      | zero => simp at h1
      | succ k => exact ⟨k, v, by simpa using h1, by rw [h2]; congr 1; omega⟩
  | some v0 :: t, i, q => by
    rw [ne_l, List.mem_cons, ne_l_mem]
    constructor
    · rintro (h | ⟨k, v, h1, h2⟩)
      · exact ⟨0, v0, rfl, h⟩
      · exact ⟨k + 1, v, by simpa using h1, by rw [h2]; congr 1; omega⟩
    · rintro ⟨k, v, h1, h2⟩
      cases k with
      | zero =>
        have : v0 = v := by simpa using h1
        subst this
        exact Or.inl h2
      | succ k => exact Or.inr ⟨k, v, by simpa using h1, by rw [h2]; congr 1; omega⟩
theorem ne_l_eq {n : Nat} {ad ad' : Nat → Nat} (ha : ∀ k, k < n → ad' k = ad k) : ∀ {L : List (Option Value)} {i : Nat}, ne_cl n L = true → ne_l ad' i L = ne_l ad i L
  | [], i, _ => rfl
  | none :: t, i, h => by
    rw [ne_l, ne_l]
    simp only [ne_cl, List.all_cons, Bool.and_eq_true] at h
    exact ne_l_eq ha h.2
  | some v :: t, i, h => by
    rw [ne_l, ne_l]
    simp only [ne_cl, List.all_cons, Bool.and_eq_true] at h
    rw [ne_l_eq ha (L := t) h.2, ne_v_eq ha h.1]
/-- what a store at i leaves of the locals ahead of it: not a long whose second half it was -/
def ne_kj (L : List (Option Value)) (j : Nat) : List (Option Value) := match L[j]? with
  | some (some (.long _)) => L.set j none
  | some (some (.double _)) => L.set j none
  | _ => L
def ne_k (L : List (Option Value)) (i : Nat) : List (Option Value) := match i with
  | 0 => L
  | j + 1 => ne_kj L j
def ne_s1 (L : List (Option Value)) (i : Nat) (v : Value) : List (Option Value) := (ne_k L i).set i (some v)
def ne_s2 (L : List (Option Value)) (i : Nat) (v : Value) : List (Option Value) := ((ne_k L i).set i (some v)).set (i + 1) none
theorem ne_k_at {L : List (Option Value)} {i k : Nat} {v : Value} (h : (ne_k L i)[k]? = some (some v)) : L[k]? = some (some v) ∧ ¬ (k + 1 = i ∧ v.category = 2) := by
  cases i with
  | zero => exact ⟨h, fun q => by omega⟩
  | succ j =>
    have h : (ne_kj L j)[k]? = some (some v) := h
    have key : ∀ w : Value, L[j]? = some (some w) → w.category = 2 → ne_kj L j = L.set j none := by
      intro w hw hc
      cases w <;> simp [Value.category] at hc <;> simp [ne_kj, hw]
    by_cases hkj : k = j
    · subst hkj
      by_cases hc : ∃ w : Value, L[k]? = some (some w) ∧ w.category = 2
      · obtain ⟨w, hw, hw2⟩ := hc
        rw [key w hw hw2, List.getElem?_set] at h
        have hlt : k < L.length := (List.getElem?_eq_some_iff.mp hw).1
        simp [hlt] at h
      · have e1 : ne_kj L k = L := by
          unfold ne_kj
          split
          next w hw => exact absurd ⟨_, hw, rfl⟩ hc
          next w hw => exact absurd ⟨_, hw, rfl⟩ hc
          next => rfl
        rw [e1] at h
        exact ⟨h, fun q => hc ⟨v, h, q.2⟩⟩
    · have h2 : L[k]? = some (some v) := by
        unfold ne_kj at h
        split at h
        · rw [List.getElem?_set_ne (fun q => hkj q.symm)] at h; exact h
        · rw [List.getElem?_set_ne (fun q => hkj q.symm)] at h; exact h
        · exact h
      exact ⟨h2, fun q => hkj (by omega)⟩
theorem ne_st1 {ad : Nat → Nat} {ls : Array Slot} {nL i : Nat} {L : List (Option Value)} {v w : Value} (hv : w = ne_v ad v) (h : lv_has ls nL ((i, w) :: (ne_l ad 0 L).filter (fun q => !(q.1 == i) && !(q.1 + 1 == i && q.2.category == 2)))) : lv_has ls nL (ne_l ad 0 (ne_s1 L i v)) := by
  subst hv
  refine ⟨h.1, h.2.1, fun q hq => h.2.2 q ?_⟩
  obtain ⟨k, u, h1, h2⟩ := ne_l_mem.mp hq
  rw [Nat.zero_add] at h2
  subst h2
  by_cases hk : k = i
  · subst hk
    unfold ne_s1 at h1
    rw [List.getElem?_set] at h1
    split at h1
    · split at h1
      · have : v = u := by simpa using h1
        subst this
        exact List.mem_cons_self
      · cases h1
    · rename_i hne; exact absurd rfl hne
  · unfold ne_s1 at h1
    rw [List.getElem?_set_ne (fun q => hk q.symm)] at h1
    obtain ⟨h3, h4⟩ := ne_k_at h1
    refine List.mem_cons_of_mem _ (List.mem_filter.mpr ⟨ne_l_mem.mpr ⟨k, u, h3, by rw [Nat.zero_add]⟩, ?_⟩)
    simp only [ne_v_cat]
    simp only [Bool.and_eq_true, Bool.not_eq_true', beq_eq_false_iff_ne, ne_eq]
    refine ⟨hk, ?_⟩
    simp only [Bool.and_eq_false_iff, beq_eq_false_iff_ne, ne_eq]
    by_cases h5 : k + 1 = i
    · exact Or.inr fun h6 => h4 ⟨h5, h6⟩
    · exact Or.inl h5
theorem ne_st2 {ad : Nat → Nat} {ls : Array Slot} {nL i : Nat} {L : List (Option Value)} {v w : Value} (hv : w = ne_v ad v) (h : lv_has ls nL ((i, w) :: (ne_l ad 0 L).filter (fun q => !(q.1 == i) && (!(q.1 == i + 1) && !(q.1 + 1 == i && q.2.category == 2))))) : lv_has ls nL (ne_l ad 0 (ne_s2 L i v)) := by
  subst hv
  refine ⟨h.1, h.2.1, fun q hq => h.2.2 q ?_⟩
  obtain ⟨k, u, h1, h2⟩ := ne_l_mem.mp hq
  rw [Nat.zero_add] at h2
  subst h2
  unfold ne_s2 at h1
  by_cases hk1 : k = i + 1
  · subst hk1
    rw [List.getElem?_set] at h1
    split at h1
    · split at h1
      · cases h1
      · cases h1
    · rename_i hne; exact absurd rfl hne
  rw [List.getElem?_set_ne (fun q => hk1 q.symm)] at h1
  by_cases hk : k = i
  · subst hk
    rw [List.getElem?_set] at h1
    split at h1
    · split at h1
      · have : v = u := by simpa using h1
        subst this
        exact List.mem_cons_self
      · cases h1
    · rename_i hne; exact absurd rfl hne
  · rw [List.getElem?_set_ne (fun q => hk q.symm)] at h1
    obtain ⟨h3, h4⟩ := ne_k_at h1
    refine List.mem_cons_of_mem _ (List.mem_filter.mpr ⟨ne_l_mem.mpr ⟨k, u, h3, by rw [Nat.zero_add]⟩, ?_⟩)
    simp only [ne_v_cat]
    simp only [Bool.and_eq_true, Bool.not_eq_true', beq_eq_false_iff_ne, ne_eq]
    refine ⟨hk, hk1, ?_⟩
    simp only [Bool.and_eq_false_iff, beq_eq_false_iff_ne, ne_eq]
    by_cases h5 : k + 1 = i
    · exact Or.inr fun h6 => h4 ⟨h5, h6⟩
    · exact Or.inl h5
/-- the locals at the entry -/
def ne_a : List Value → List (Option Value)
  | [] => []
  | v :: t => if v.category = 2 then some v :: none :: ne_a t else some v :: ne_a t
theorem ne_a_args {ad : Nat → Nat} : ∀ {as : List Value} {i : Nat}, ne_l ad i (ne_a as) = lv_args i (as.map (ne_v ad))
  | [], i => rfl
  | v :: t, i => by
    rw [ne_a, List.map_cons, lv_args, ne_v_cat]
    by_cases h : v.category = 2
    · rw [if_pos h, if_pos h, ne_l, ne_l, ne_a_args]
    · rw [if_neg h, if_neg h, ne_l, ne_a_args]
theorem ne_l_pad {ad : Nat → Nat} {n : Nat} : ∀ {L : List (Option Value)} {i : Nat}, ne_l ad i (L ++ List.replicate n none) = ne_l ad i L
  | [], i => by
    rw [List.nil_append]
    show ne_l ad i (List.replicate n none) = []
    induction n generalizing i with
    | zero => rfl
    | succ n ih =>
      rw [List.replicate_succ, ne_l]
      exact ih _
  | none :: t, i => by rw [List.cons_append, ne_l, ne_l, ne_l_pad]
  | some v :: t, i => by rw [List.cons_append, ne_l, ne_l, ne_l_pad]
end NEA
section NEB
def ne_ty (ct : Nat → ClassId) : List (ClassId × FieldType) := [(ct 0, .int), (ct 1, .byte)]
/-- the constant texts that are loaded: class, place in its pool, text -/
def ne_sl : List (String × Nat × String) := [("Ninewheel", 164, "-9"), ("Ninewheel", 234, "no such cell"), ("Ninewheel", 239, "no such wheel"), ("Ninewheel", 243, "an argument is out of its bounds"), ("Ninewheel", 248, "a bottom is divided by 2 or by 5"), ("NinewheelModel", 126, ""), ("NinewheelModel", 164, "-9")]
/-- nest mates' private methods and fields that are linked: class, place in its pool, which, the host -/
def ne_nm : List (String × Nat × MethodName × String) := [("Ninewheel", 33, ⟨"Ninewheel$LongNumber", "<init>", "()V"⟩, "Ninewheel"), ("Ninewheel", 274, ⟨"Ninewheel$LongNumber", "clear", "()V"⟩, "Ninewheel"), ("Ninewheel", 277, ⟨"Ninewheel$LongNumber", "raise", "(II)V"⟩, "Ninewheel"), ("Ninewheel", 280, ⟨"Ninewheel$LongNumber", "carry", "()V"⟩, "Ninewheel"), ("Ninewheel", 283, ⟨"Ninewheel$LongNumber", "becomeNines", "(II)V"⟩, "Ninewheel"), ("Ninewheel", 286, ⟨"Ninewheel$LongNumber", "isLike", "(LNinewheel$LongNumber;)Z"⟩, "Ninewheel"), ("NinewheelLaw", 172, ⟨"NinewheelLaw$Out", "<init>", "()V"⟩, "NinewheelLaw"), ("Ninewheel", 169, ⟨"Ninewheel$LongNumber", "written", "()Ljava/lang/String;"⟩, "Ninewheel"), ("Ninewheel$LongNumber", 26, ⟨"Ninewheel", "signOfDigit", "(I)C"⟩, "Ninewheel")]
def ne_nf : List (String × Nat × String × String × String × String) := [("NinewheelLaw", 13, "NinewheelLaw$Out", "n", "J", "NinewheelLaw"), ("NinewheelLaw", 100, "NinewheelLaw$Out", "s", "Ljava/lang/String;", "NinewheelLaw")]
def ne_ca : List (String × String) := [("java/lang/IndexOutOfBoundsException", "java/lang/IndexOutOfBoundsException"), ("java/lang/IllegalArgumentException", "java/lang/IllegalArgumentException"), ("[B", "java/lang/Cloneable")]
def ne_cb : List (String × String) := [("java/lang/IllegalArgumentException", "java/lang/IndexOutOfBoundsException"), ("java/lang/IndexOutOfBoundsException", "java/lang/IllegalArgumentException")]
def ne_de : List MethodName := [⟨"java/lang/RuntimeException", "<init>", "(Ljava/lang/String;)V"⟩, ⟨"java/lang/Exception", "<init>", "(Ljava/lang/String;)V"⟩, ⟨"java/lang/Throwable", "<init>", "(Ljava/lang/String;)V"⟩]
def ne_N (U : State) : Prop := (∀ q ∈ ne_nm, va_Nw (.methodLinkNest q.1 q.2.1 q.2.2.1 q.2.2.2) U) ∧ (∀ q ∈ ne_nf, va_Nw (.fieldLinkNest q.1 q.2.1 q.2.2.1 q.2.2.2.1 q.2.2.2.2.1 q.2.2.2.2.2) U) ∧ (∀ q ∈ ne_ca, va_Nw (.castable q.1 q.2) U) ∧ (∀ q ∈ ne_cb, va_Nc q.1 q.2 U) ∧ ∀ q ∈ ne_de, va_Nw (.declares q) U
theorem ne_N.same {u U : State} (hv : U.vm = u.vm) (h : ne_N u) : ne_N U := ⟨fun q hq => (h.1 q hq).same rfl hv.symm, fun q hq => (h.2.1 q hq).same rfl hv.symm, fun q hq => (h.2.2.1 q hq).same rfl hv.symm, fun q hq => (h.2.2.2.1 q hq).moved (by rw [hv]; exact Vm.Alike.refl _), fun q hq => (h.2.2.2.2 q hq).same rfl hv.symm⟩
theorem ne_N.warm {s U : State} (hW : s.WarmedH U.vm) (h : ne_N s) : ne_N U := ⟨fun q hq => (h.1 q hq).warmM hW, fun q hq => (h.2.1 q hq).warmF hW, fun q hq => (h.2.2.1 q hq).warmC hW, fun q hq => (h.2.2.2.1 q hq).moved hW.alike, fun q hq => (h.2.2.2.2 q hq).warmD hW⟩
def ne_R (U : State) : Prop := ∀ q ∈ ne_sl, ∃ a, vk_R q.1 q.2.1 q.2.2 a U
theorem ne_R.same {u U : State} (hv : U.vm = u.vm) (h : ne_R u) : ne_R U := fun q hq => by
  obtain ⟨a, ha⟩ := h q hq
  exact ⟨a, vk_R.same hv ha⟩
theorem ne_R.warm {s U : State} (hW : s.WarmedH U.vm) (h : ne_R s) : ne_R U := fun q hq => by
  obtain ⟨a, ha⟩ := h q hq
  exact ⟨a, vk_R.warm hW ha⟩
/-- statics that are read: where they lie, what they hold -/
def ne_Z (A : Nat → Prop) (U : State) (H : Heap) : Prop := vx_Zq Bundle.tN "UNASSIGNED_STACK" Bundle.steD A U H ∧ vx_Zq Bundle.tN "SUPPRESSED_SENTINEL" Bundle.listD A U H ∧ va_Z "java/lang/String" "COMPACT_STRINGS" "Z" (.int 1) A U H ∧ ne_R U ∧ ne_N U
theorem ne_Z.kept {A : Nat → Prop} {U : State} {H H1 : Heap} (h : ne_Z A U H) (hq : ∀ a : Nat, a < H.size → ¬ A a → H1[a]? = H[a]?) : ne_Z A U H1 := ⟨h.1.kept hq, h.2.1.kept hq, va_Z.kept h.2.2.1 hq, h.2.2.2⟩
theorem ne_Z.narrow {A B : Nat → Prop} {U : State} {H : Heap} (h : ne_Z A U H) (hAB : ∀ q, B q → A q) : ne_Z B U H := ⟨h.1.narrow hAB, h.2.1.narrow hAB, va_Z.narrow h.2.2.1 hAB, h.2.2.2⟩
theorem ne_Z.warm {A : Nat → Prop} {s U : State} {H : Heap} (hW : s.WarmedH U.vm) (h : ne_Z A s H) : ne_Z A U H := ⟨h.1.moved hW.alike, h.2.1.moved hW.alike, va_Z.moved hW.alike h.2.2.1, h.2.2.2.1.warm hW, h.2.2.2.2.warm hW⟩
theorem ne_Z.same {A : Nat → Prop} {u U : State} {H : Heap} (hv : U.vm = u.vm) (h : ne_Z A u H) : ne_Z A U H := by
  have ha : u.vm.Alike U.vm := by rw [hv]; exact Vm.Alike.refl _
  exact ⟨h.1.moved ha, h.2.1.moved ha, va_Z.moved ha h.2.2.1, h.2.2.2.1.same hv, h.2.2.2.2.same hv⟩
/-- what a frame stands on -/
def ne_F (cl : List vw_C) (D : va_G) (ct : Nat → ClassId) (A : Nat → Prop) (p : Program) (l : Launch) (R : Room) (s : State) (m : MethodId) (args : Array Value) (meth : Method) (c : Code) (own : String) (cc : ByteArray) (nL : Nat) (Ts : List Cond) (fr lo mc ms : Nat) : Prop :=
  CallFix p m c cc nL s args Ts own ∧ va_K D cl (ne_ty ct) s ∧ (∀ q, s.heap.size ≤ q → A q) ∧ fr ≤ R.frames ∧ lo ≤ R.locals ∧ mc ≤ R.cells ∧ ms ≤ R.slots ∧ ne_Z A s s.heap ∧ meth.locks = false ∧ l.stackTraces = false
/-- the machine at pc, with locals L, stack st, a world ws, C cells and S slots still free: comes to Q -/
def ne_G (cl : List vw_C) (D : va_G) (ct : Nat → ClassId) (A : Nat → Prop) (n0 : Nat) (ad0 : Nat → Nat) (p : Program) (l : Launch) (e : Env) (R : Room) (s : State) (m : MethodId) (args : Array Value) (below : List Frame) (meth : Method) (c : Code) (Q : State → Prop) (nL mc ms C S pc : Nat) (L : List (Option Value)) (st : List Value) (ws : ne_W) : Prop :=
  ∀ (H : Heap) (locs : List Loc) (cells slots : Nat) (ad : Nat → Nat) (ls : Array Slot), (∀ k, k < n0 → ad k = ad0 k) → cells + C ≤ mc → slots + S ≤ ms → va_P D cl (ne_w ct ad 0 ws) H → va_D A (ne_w ct ad 0 ws) → va_S A s.heap H locs → lv_has ls nL (ne_l ad 0 L) → W p l e R s m args below meth c H locs cells slots Q (F0 m pc ls (st.map (ne_v ad)))
variable {cl : List vw_C} {D : va_G} {ct : Nat → ClassId} {A : Nat → Prop} {n0 : Nat} {ad0 : Nat → Nat} {p : Program} {l : Launch} {e : Env} {R : Room} {s : State} {m : MethodId} {args : Array Value} {below : List Frame} {meth : Method} {c : Code} {Q : State → Prop} {own : String} {cc : ByteArray} {nL : Nat} {Ts : List Cond} {fr lo mc ms C S pc : Nat} {L : List (Option Value)} {st : List Value} {ws : ne_W}
theorem ne_toI {z : Int} (h1 : -2147483648 ≤ z) (h2 : z < 2147483648) : (Int32.ofInt z).toInt = z := Int32.toInt_ofInt_of_le (by rw [show (2 : Int) ^ 31 = 2147483648 from rfl]; exact h1) (by rw [show (2 : Int) ^ 31 = 2147483648 from rfl]; exact h2)
theorem ne_toL {z : Int} (h1 : -9223372036854775808 ≤ z) (h2 : z < 9223372036854775808) : (Int64.ofInt z).toInt = z := Int64.toInt_ofInt_of_le (by rw [show (2 : Int) ^ 63 = 9223372036854775808 from rfl]; exact h1) (by rw [show (2 : Int) ^ 63 = 9223372036854775808 from rfl]; exact h2)
theorem ne_divI {x y : Int} (hx : -2147483648 ≤ x ∧ x < 2147483648) (hy : -2147483648 ≤ y ∧ y < 2147483648) : Int32.ofInt x / Int32.ofInt y = Int32.ofInt (x.tdiv y) := Int32.toInt_inj.mp (by rw [Int32.toInt_div, ne_toI hx.1 hx.2, ne_toI hy.1 hy.2, Int32.toInt_ofInt])
theorem ne_modI {x y : Int} (hx : -2147483648 ≤ x ∧ x < 2147483648) (hy : -2147483648 ≤ y ∧ y < 2147483648) : Int32.ofInt x - Int32.ofInt x / Int32.ofInt y * Int32.ofInt y = Int32.ofInt (x.tmod y) := by
  rw [ne_divI hx hy, ← Int32.ofInt_mul, ← Int32.ofInt_sub, Int.tmod_def, Int.mul_comm]
theorem ne_divL {x y : Int} (hx : -9223372036854775808 ≤ x ∧ x < 9223372036854775808) (hy : -9223372036854775808 ≤ y ∧ y < 9223372036854775808) : Int64.ofInt x / Int64.ofInt y = Int64.ofInt (x.tdiv y) := Int64.toInt_inj.mp (by rw [Int64.toInt_div, ne_toL hx.1 hx.2, ne_toL hy.1 hy.2, Int64.toInt_ofInt])
theorem ne_modL {x y : Int} (hx : -9223372036854775808 ≤ x ∧ x < 9223372036854775808) (hy : -9223372036854775808 ≤ y ∧ y < 9223372036854775808) : Int64.ofInt x - Int64.ofInt x / Int64.ofInt y * Int64.ofInt y = Int64.ofInt (x.tmod y) := by
  rw [ne_divL hx hy, ← Int64.ofInt_mul, ← Int64.ofInt_sub, Int.tmod_def, Int.mul_comm]
theorem ne_eqI {x y : Int} (hx : -2147483648 ≤ x ∧ x < 2147483648) (hy : -2147483648 ≤ y ∧ y < 2147483648) : (Int32.ofInt x = Int32.ofInt y) ↔ x = y := ⟨fun h => by rw [← ne_toI hx.1 hx.2, h, ne_toI hy.1 hy.2], fun h => by rw [h]⟩
theorem ne_ltI {x y : Int} (hx : -2147483648 ≤ x ∧ x < 2147483648) (hy : -2147483648 ≤ y ∧ y < 2147483648) : (Int32.ofInt x < Int32.ofInt y) ↔ x < y := by rw [Int32.lt_iff_toInt_lt, ne_toI hx.1 hx.2, ne_toI hy.1 hy.2]
theorem ne_leI {x y : Int} (hx : -2147483648 ≤ x ∧ x < 2147483648) (hy : -2147483648 ≤ y ∧ y < 2147483648) : (Int32.ofInt x ≤ Int32.ofInt y) ↔ x ≤ y := by rw [Int32.le_iff_toInt_le, ne_toI hx.1 hx.2, ne_toI hy.1 hy.2]
theorem ne_ltL {x y : Int} (hx : -9223372036854775808 ≤ x ∧ x < 9223372036854775808) (hy : -9223372036854775808 ≤ y ∧ y < 9223372036854775808) : (Int64.ofInt x < Int64.ofInt y) ↔ x < y := by rw [Int64.lt_iff_toInt_lt, ne_toL hx.1 hx.2, ne_toL hy.1 hy.2]
theorem ne_z0 : (0 : Int32) = Int32.ofInt 0 := rfl
theorem ne_in {i : Int} {n : Nat} (h0 : 0 ≤ i) (h1 : i < n) (h2 : i < 2147483648) : vp_in (Int32.ofInt i) n ∧ (Int32.ofInt i).toNatClampNeg = i.toNat := by
  have e1 : (Int32.ofInt i).toInt = i := ne_toI (by omega) h2
  have e2 : (Int32.ofInt i).toNatClampNeg = i.toNat := by rw [Int32.toNatClampNeg, e1]
  refine ⟨?_, e2⟩
  unfold vp_in
  rw [e2, ne_z0, ne_ltI ⟨by omega, h2⟩ ⟨by omega, by omega⟩]
  omega
theorem ne_upd {f : Nat → Int} {k : Nat} {z : Int} : upd (fun j => Int32.ofInt (f j)) k (Int32.ofInt z) = fun j => Int32.ofInt (va_up f k z j) := by
  funext j
  unfold upd va_up
  split <;> rfl

/-! constants -/
theorem ne_iconst {n : Int} (X : ne_F cl D ct A p l R s m args meth c own cc nL Ts fr lo mc ms) (hdg : decode cc pc = .ok (.iconst n, 1)) (k : ne_G cl D ct A n0 ad0 p l e R s m args below meth c Q nL mc ms C S (pc + 1) L (ni n :: st) ws) : ne_G cl D ct A n0 ad0 p l e R s m args below meth c Q nL mc ms C S pc L (st) ws := fun H locs cells slots ad ls h1 h2 h3 h4 h5 h6 h7 => by
  have k9 := k H locs cells slots ad ls h1 h2 h3 h4 h5 h6 h7
  exact lv_iconst X.1.1 X.1.2.1 hdg rfl k9
theorem ne_bipush {n v : Int} (hv : (Int8.ofInt n).toInt = v) (X : ne_F cl D ct A p l R s m args meth c own cc nL Ts fr lo mc ms) (hdg : decode cc pc = .ok (.bipush n, 2)) (k : ne_G cl D ct A n0 ad0 p l e R s m args below meth c Q nL mc ms C S (pc + 2) L (ni v :: st) ws) : ne_G cl D ct A n0 ad0 p l e R s m args below meth c Q nL mc ms C S pc L st ws := fun H locs cells slots ad ls h1 h2 h3 h4 h5 h6 h7 => by
  have k9 := k H locs cells slots ad ls h1 h2 h3 h4 h5 h6 h7
  exact lv_bipush X.1.1 X.1.2.1 hdg (by rw [← hv]; rfl) k9
theorem ne_sipush {n v : Int} (hv : (Int16.ofInt n).toInt = v) (X : ne_F cl D ct A p l R s m args meth c own cc nL Ts fr lo mc ms) (hdg : decode cc pc = .ok (.sipush n, 3)) (k : ne_G cl D ct A n0 ad0 p l e R s m args below meth c Q nL mc ms C S (pc + 3) L (ni v :: st) ws) : ne_G cl D ct A n0 ad0 p l e R s m args below meth c Q nL mc ms C S pc L st ws := fun H locs cells slots ad ls h1 h2 h3 h4 h5 h6 h7 => by
  have k9 := k H locs cells slots ad ls h1 h2 h3 h4 h5 h6 h7
  exact lv_sipush X.1.1 X.1.2.1 hdg (by rw [← hv]; rfl) k9
theorem ne_lconst {n : Fin 2} {z : Int} (hz : Int64.ofNat (n : Nat) = Int64.ofInt z) (X : ne_F cl D ct A p l R s m args meth c own cc nL Ts fr lo mc ms) (hdg : decode cc pc = .ok (.lconst n, 1)) (k : ne_G cl D ct A n0 ad0 p l e R s m args below meth c Q nL mc ms C S (pc + 1) L (nl z :: st) ws) : ne_G cl D ct A n0 ad0 p l e R s m args below meth c Q nL mc ms C S pc L st ws := fun H locs cells slots ad ls h1 h2 h3 h4 h5 h6 h7 => by
  have k9 := k H locs cells slots ad ls h1 h2 h3 h4 h5 h6 h7
  exact lv_lconst X.1.1 X.1.2.1 hdg hz k9
theorem ne_ldc {ix : Nat} {v : Int32} {z : Int} (hz : v = Int32.ofInt z) (hw : Cond.constant own ix v ∈ Ts) (X : ne_F cl D ct A p l R s m args meth c own cc nL Ts fr lo mc ms) (hdg : decode cc pc = .ok (.ldc ix, 2)) (k : ne_G cl D ct A n0 ad0 p l e R s m args below meth c Q nL mc ms C S (pc + 2) L (ni z :: st) ws) : ne_G cl D ct A n0 ad0 p l e R s m args below meth c Q nL mc ms C S pc L st ws := fun H locs cells slots ad ls h1 h2 h3 h4 h5 h6 h7 => by
  have k9 := k H locs cells slots ad ls h1 h2 h3 h4 h5 h6 h7
  subst hz
  exact lv_ldc X.1.1 X.1.2.1 X.1.2.2.2.1 (X.1.2.2.2.2 _ hw) hdg k9
theorem ne_ldc2 {ix : Nat} {v : Int64} {z : Int} (hz : v = Int64.ofInt z) (hw : Cond.constantLong own ix v ∈ Ts) (X : ne_F cl D ct A p l R s m args meth c own cc nL Ts fr lo mc ms) (hdg : decode cc pc = .ok (.ldc2_w ix, 3)) (k : ne_G cl D ct A n0 ad0 p l e R s m args below meth c Q nL mc ms C S (pc + 3) L (nl z :: st) ws) : ne_G cl D ct A n0 ad0 p l e R s m args below meth c Q nL mc ms C S pc L st ws := fun H locs cells slots ad ls h1 h2 h3 h4 h5 h6 h7 => by
  have k9 := k H locs cells slots ad ls h1 h2 h3 h4 h5 h6 h7
  subst hz
  exact lv_ldc2 X.1.1 X.1.2.1 X.1.2.2.2.1 (X.1.2.2.2.2 _ hw) hdg k9
theorem ne_null (X : ne_F cl D ct A p l R s m args meth c own cc nL Ts fr lo mc ms) (hdg : decode cc pc = .ok (.aconst_null, 1)) (k : ne_G cl D ct A n0 ad0 p l e R s m args below meth c Q nL mc ms C S (pc + 1) L (.null :: st) ws) : ne_G cl D ct A n0 ad0 p l e R s m args below meth c Q nL mc ms C S pc L (st) ws := fun H locs cells slots ad ls h1 h2 h3 h4 h5 h6 h7 => by
  have k9 := k H locs cells slots ad ls h1 h2 h3 h4 h5 h6 h7
  exact lv_null X.1.1 X.1.2.1 hdg k9
/-! locals -/
theorem ne_at {ad : Nat → Nat} {ls : Array Slot} {i : Nat} {v : Value} (h : lv_has ls nL (ne_l ad 0 L)) (hv : L[i]? = some (some v)) : ls[i]? = some (.val (ne_v ad v)) := by
  have h2 := h.2.2 (i, ne_v ad v) (ne_l_mem.mpr ⟨i, v, hv, by rw [Nat.zero_add]⟩)
  exact h2
theorem ne_iload_n {k : Fin 4} {x : Int32} (X : ne_F cl D ct A p l R s m args meth c own cc nL Ts fr lo mc ms) (hdg : decode cc pc = .ok (.iload_n k, 1)) (hl : L[(k : Nat)]? = some (some (.int x))) (k : ne_G cl D ct A n0 ad0 p l e R s m args below meth c Q nL mc ms C S (pc + 1) L (.int x :: st) ws) : ne_G cl D ct A n0 ad0 p l e R s m args below meth c Q nL mc ms C S pc L st ws := fun H locs cells slots ad ls h1 h2 h3 h4 h5 h6 h7 => by
  have k9 := k H locs cells slots ad ls h1 h2 h3 h4 h5 h6 h7
  exact lv_iload_n X.1.1 X.1.2.1 hdg rfl (ne_at h7 hl) k9
theorem ne_iload {i : Nat} {x : Int32} (X : ne_F cl D ct A p l R s m args meth c own cc nL Ts fr lo mc ms) (hdg : decode cc pc = .ok (.iload i, 2)) (hl : L[i]? = some (some (.int x))) (k : ne_G cl D ct A n0 ad0 p l e R s m args below meth c Q nL mc ms C S (pc + 2) L (.int x :: st) ws) : ne_G cl D ct A n0 ad0 p l e R s m args below meth c Q nL mc ms C S pc L st ws := fun H locs cells slots ad ls h1 h2 h3 h4 h5 h6 h7 => by
  have k9 := k H locs cells slots ad ls h1 h2 h3 h4 h5 h6 h7
  exact lv_iload X.1.1 X.1.2.1 hdg (ne_at h7 hl) k9
theorem ne_lload_n {k : Fin 4} {x : Int64} (X : ne_F cl D ct A p l R s m args meth c own cc nL Ts fr lo mc ms) (hdg : decode cc pc = .ok (.lload_n k, 1)) (hl : L[(k : Nat)]? = some (some (.long x))) (k : ne_G cl D ct A n0 ad0 p l e R s m args below meth c Q nL mc ms C S (pc + 1) L (.long x :: st) ws) : ne_G cl D ct A n0 ad0 p l e R s m args below meth c Q nL mc ms C S pc L st ws := fun H locs cells slots ad ls h1 h2 h3 h4 h5 h6 h7 => by
  have k9 := k H locs cells slots ad ls h1 h2 h3 h4 h5 h6 h7
  exact lv_lload_n X.1.1 X.1.2.1 hdg rfl (ne_at h7 hl) k9
theorem ne_lload {i : Nat} {x : Int64} (X : ne_F cl D ct A p l R s m args meth c own cc nL Ts fr lo mc ms) (hdg : decode cc pc = .ok (.lload i, 2)) (hl : L[i]? = some (some (.long x))) (k : ne_G cl D ct A n0 ad0 p l e R s m args below meth c Q nL mc ms C S (pc + 2) L (.long x :: st) ws) : ne_G cl D ct A n0 ad0 p l e R s m args below meth c Q nL mc ms C S pc L st ws := fun H locs cells slots ad ls h1 h2 h3 h4 h5 h6 h7 => by
  have k9 := k H locs cells slots ad ls h1 h2 h3 h4 h5 h6 h7
  exact lv_lload X.1.1 X.1.2.1 hdg (ne_at h7 hl) k9
theorem ne_aload_n {k : Fin 4} {q : Nat} (X : ne_F cl D ct A p l R s m args meth c own cc nL Ts fr lo mc ms) (hdg : decode cc pc = .ok (.aload_n k, 1)) (hl : L[(k : Nat)]? = some (some (.ref q))) (k : ne_G cl D ct A n0 ad0 p l e R s m args below meth c Q nL mc ms C S (pc + 1) L (.ref q :: st) ws) : ne_G cl D ct A n0 ad0 p l e R s m args below meth c Q nL mc ms C S pc L st ws := fun H locs cells slots ad ls h1 h2 h3 h4 h5 h6 h7 => by
  have k9 := k H locs cells slots ad ls h1 h2 h3 h4 h5 h6 h7
  exact lv_aload_n X.1.1 X.1.2.1 hdg rfl (ne_at h7 hl) k9
theorem ne_aload {i : Nat} {q : Nat} (X : ne_F cl D ct A p l R s m args meth c own cc nL Ts fr lo mc ms) (hdg : decode cc pc = .ok (.aload i, 2)) (hl : L[i]? = some (some (.ref q))) (k : ne_G cl D ct A n0 ad0 p l e R s m args below meth c Q nL mc ms C S (pc + 2) L (.ref q :: st) ws) : ne_G cl D ct A n0 ad0 p l e R s m args below meth c Q nL mc ms C S pc L st ws := fun H locs cells slots ad ls h1 h2 h3 h4 h5 h6 h7 => by
  have k9 := k H locs cells slots ad ls h1 h2 h3 h4 h5 h6 h7
  exact lv_aload X.1.1 X.1.2.1 hdg (ne_at h7 hl) k9
theorem ne_aload_nN {k : Fin 4} (X : ne_F cl D ct A p l R s m args meth c own cc nL Ts fr lo mc ms) (hdg : decode cc pc = .ok (.aload_n k, 1)) (hl : L[(k : Nat)]? = some (some .null)) (k : ne_G cl D ct A n0 ad0 p l e R s m args below meth c Q nL mc ms C S (pc + 1) L (.null :: st) ws) : ne_G cl D ct A n0 ad0 p l e R s m args below meth c Q nL mc ms C S pc L st ws := fun H locs cells slots ad ls h1 h2 h3 h4 h5 h6 h7 => by
  have k9 := k H locs cells slots ad ls h1 h2 h3 h4 h5 h6 h7
  exact lv_aload_nN X.1.1 X.1.2.1 hdg rfl (ne_at h7 hl) k9
theorem ne_istore_n {k : Fin 4} {i : Nat} {x : Int32} (X : ne_F cl D ct A p l R s m args meth c own cc nL Ts fr lo mc ms) (hdg : decode cc pc = .ok (.istore_n k, 1)) (hi : (k : Nat) = i) (hn : i < nL) (k : ne_G cl D ct A n0 ad0 p l e R s m args below meth c Q nL mc ms C S (pc + 1) (ne_s1 L i (.int x)) st ws) : ne_G cl D ct A n0 ad0 p l e R s m args below meth c Q nL mc ms C S pc L (.int x :: st) ws := fun H locs cells slots ad ls h1 h2 h3 h4 h5 h6 h7 =>
  lv_istore_n X.1.1 X.1.2.1 hdg hi h7 hn rfl fun ls' h8 => k H locs cells slots ad ls' h1 h2 h3 h4 h5 h6 (ne_st1 rfl h8)
theorem ne_istore {i : Nat} {x : Int32} (X : ne_F cl D ct A p l R s m args meth c own cc nL Ts fr lo mc ms) (hdg : decode cc pc = .ok (.istore i, 2)) (hn : i < nL) (k : ne_G cl D ct A n0 ad0 p l e R s m args below meth c Q nL mc ms C S (pc + 2) (ne_s1 L i (.int x)) st ws) : ne_G cl D ct A n0 ad0 p l e R s m args below meth c Q nL mc ms C S pc L (.int x :: st) ws := fun H locs cells slots ad ls h1 h2 h3 h4 h5 h6 h7 =>
  lv_istore X.1.1 X.1.2.1 hdg h7 hn rfl fun ls' h8 => k H locs cells slots ad ls' h1 h2 h3 h4 h5 h6 (ne_st1 rfl h8)
theorem ne_lstore_n {k : Fin 4} {i : Nat} {x : Int64} (X : ne_F cl D ct A p l R s m args meth c own cc nL Ts fr lo mc ms) (hdg : decode cc pc = .ok (.lstore_n k, 1)) (hi : (k : Nat) = i) (hn : i + 1 < nL) (k : ne_G cl D ct A n0 ad0 p l e R s m args below meth c Q nL mc ms C S (pc + 1) (ne_s2 L i (.long x)) st ws) : ne_G cl D ct A n0 ad0 p l e R s m args below meth c Q nL mc ms C S pc L (.long x :: st) ws := fun H locs cells slots ad ls h1 h2 h3 h4 h5 h6 h7 =>
  lv_lstore_n X.1.1 X.1.2.1 hdg hi h7 hn rfl fun ls' h8 => k H locs cells slots ad ls' h1 h2 h3 h4 h5 h6 (ne_st2 rfl h8)
theorem ne_lstore {i : Nat} {x : Int64} (X : ne_F cl D ct A p l R s m args meth c own cc nL Ts fr lo mc ms) (hdg : decode cc pc = .ok (.lstore i, 2)) (hn : i + 1 < nL) (k : ne_G cl D ct A n0 ad0 p l e R s m args below meth c Q nL mc ms C S (pc + 2) (ne_s2 L i (.long x)) st ws) : ne_G cl D ct A n0 ad0 p l e R s m args below meth c Q nL mc ms C S pc L (.long x :: st) ws := fun H locs cells slots ad ls h1 h2 h3 h4 h5 h6 h7 =>
  lv_lstore X.1.1 X.1.2.1 hdg h7 hn rfl fun ls' h8 => k H locs cells slots ad ls' h1 h2 h3 h4 h5 h6 (ne_st2 rfl h8)
theorem ne_astore_n {k : Fin 4} {i : Nat} {x : Nat} (X : ne_F cl D ct A p l R s m args meth c own cc nL Ts fr lo mc ms) (hdg : decode cc pc = .ok (.astore_n k, 1)) (hi : (k : Nat) = i) (hn : i < nL) (k : ne_G cl D ct A n0 ad0 p l e R s m args below meth c Q nL mc ms C S (pc + 1) (ne_s1 L i (.ref x)) st ws) : ne_G cl D ct A n0 ad0 p l e R s m args below meth c Q nL mc ms C S pc L (.ref x :: st) ws := fun H locs cells slots ad ls h1 h2 h3 h4 h5 h6 h7 =>
  lv_astore_n X.1.1 X.1.2.1 hdg hi h7 hn rfl fun ls' h8 => k H locs cells slots ad ls' h1 h2 h3 h4 h5 h6 (ne_st1 rfl h8)
theorem ne_astore {i : Nat} {x : Nat} (X : ne_F cl D ct A p l R s m args meth c own cc nL Ts fr lo mc ms) (hdg : decode cc pc = .ok (.astore i, 2)) (hn : i < nL) (k : ne_G cl D ct A n0 ad0 p l e R s m args below meth c Q nL mc ms C S (pc + 2) (ne_s1 L i (.ref x)) st ws) : ne_G cl D ct A n0 ad0 p l e R s m args below meth c Q nL mc ms C S pc L (.ref x :: st) ws := fun H locs cells slots ad ls h1 h2 h3 h4 h5 h6 h7 =>
  lv_astore X.1.1 X.1.2.1 hdg h7 hn rfl fun ls' h8 => k H locs cells slots ad ls' h1 h2 h3 h4 h5 h6 (ne_st1 rfl h8)
theorem ne_iinc {i : Nat} {n x : Int} (X : ne_F cl D ct A p l R s m args meth c own cc nL Ts fr lo mc ms) (hdg : decode cc pc = .ok (.iinc i n, 3)) (hl : L[i]? = some (some (ni x))) (hn : i < nL) (k : ne_G cl D ct A n0 ad0 p l e R s m args below meth c Q nL mc ms C S (pc + 3) (ne_s1 L i (ni (x + n))) st ws) : ne_G cl D ct A n0 ad0 p l e R s m args below meth c Q nL mc ms C S pc L st ws := fun H locs cells slots ad ls h1 h2 h3 h4 h5 h6 h7 => by
  obtain ⟨j, hj⟩ := List.getElem?_of_mem (ne_l_mem (ad := ad) (i := 0).mpr ⟨i, _, hl, rfl⟩)
  rw [Nat.zero_add] at hj
  exact lv_iinc X.1.1 X.1.2.1 hdg h7 hj (v := Int32.ofInt (x + n)) (Int32.ofInt_add x n).symm hn rfl fun ls' h8 => k H locs cells slots ad ls' h1 h2 h3 h4 h5 h6 (ne_st1 rfl h8)
/-! arithmetic -/
theorem ne_iadd {x y : Int} (X : ne_F cl D ct A p l R s m args meth c own cc nL Ts fr lo mc ms) (hdg : decode cc pc = .ok (.iadd, 1)) (k : ne_G cl D ct A n0 ad0 p l e R s m args below meth c Q nL mc ms C S (pc + 1) L (ni (x + y) :: st) ws) : ne_G cl D ct A n0 ad0 p l e R s m args below meth c Q nL mc ms C S pc L (ni y :: ni x :: st) ws := fun H locs cells slots ad ls h1 h2 h3 h4 h5 h6 h7 => by
  have k9 := k H locs cells slots ad ls h1 h2 h3 h4 h5 h6 h7
  exact lv_iadd X.1.1 X.1.2.1 hdg (by rw [← Int32.ofInt_add]; exact k9)
theorem ne_isub {x y : Int} (X : ne_F cl D ct A p l R s m args meth c own cc nL Ts fr lo mc ms) (hdg : decode cc pc = .ok (.isub, 1)) (k : ne_G cl D ct A n0 ad0 p l e R s m args below meth c Q nL mc ms C S (pc + 1) L (ni (x - y) :: st) ws) : ne_G cl D ct A n0 ad0 p l e R s m args below meth c Q nL mc ms C S pc L (ni y :: ni x :: st) ws := fun H locs cells slots ad ls h1 h2 h3 h4 h5 h6 h7 => by
  have k9 := k H locs cells slots ad ls h1 h2 h3 h4 h5 h6 h7
  exact lv_isub X.1.1 X.1.2.1 hdg (by rw [← Int32.ofInt_sub]; exact k9)
theorem ne_imul {x y : Int} (X : ne_F cl D ct A p l R s m args meth c own cc nL Ts fr lo mc ms) (hdg : decode cc pc = .ok (.imul, 1)) (k : ne_G cl D ct A n0 ad0 p l e R s m args below meth c Q nL mc ms C S (pc + 1) L (ni (x * y) :: st) ws) : ne_G cl D ct A n0 ad0 p l e R s m args below meth c Q nL mc ms C S pc L (ni y :: ni x :: st) ws := fun H locs cells slots ad ls h1 h2 h3 h4 h5 h6 h7 => by
  have k9 := k H locs cells slots ad ls h1 h2 h3 h4 h5 h6 h7
  exact lv_imul X.1.1 X.1.2.1 hdg (by rw [← Int32.ofInt_mul]; exact k9)
theorem ne_ladd {x y : Int} (X : ne_F cl D ct A p l R s m args meth c own cc nL Ts fr lo mc ms) (hdg : decode cc pc = .ok (.ladd, 1)) (k : ne_G cl D ct A n0 ad0 p l e R s m args below meth c Q nL mc ms C S (pc + 1) L (nl (x + y) :: st) ws) : ne_G cl D ct A n0 ad0 p l e R s m args below meth c Q nL mc ms C S pc L (nl y :: nl x :: st) ws := fun H locs cells slots ad ls h1 h2 h3 h4 h5 h6 h7 => by
  have k9 := k H locs cells slots ad ls h1 h2 h3 h4 h5 h6 h7
  exact lv_ladd X.1.1 X.1.2.1 hdg (by rw [← Int64.ofInt_add]; exact k9)
theorem ne_lsub {x y : Int} (X : ne_F cl D ct A p l R s m args meth c own cc nL Ts fr lo mc ms) (hdg : decode cc pc = .ok (.lsub, 1)) (k : ne_G cl D ct A n0 ad0 p l e R s m args below meth c Q nL mc ms C S (pc + 1) L (nl (x - y) :: st) ws) : ne_G cl D ct A n0 ad0 p l e R s m args below meth c Q nL mc ms C S pc L (nl y :: nl x :: st) ws := fun H locs cells slots ad ls h1 h2 h3 h4 h5 h6 h7 => by
  have k9 := k H locs cells slots ad ls h1 h2 h3 h4 h5 h6 h7
  exact lv_lsub X.1.1 X.1.2.1 hdg (by rw [← Int64.ofInt_sub]; exact k9)
theorem ne_lmul {x y : Int} (X : ne_F cl D ct A p l R s m args meth c own cc nL Ts fr lo mc ms) (hdg : decode cc pc = .ok (.lmul, 1)) (k : ne_G cl D ct A n0 ad0 p l e R s m args below meth c Q nL mc ms C S (pc + 1) L (nl (x * y) :: st) ws) : ne_G cl D ct A n0 ad0 p l e R s m args below meth c Q nL mc ms C S pc L (nl y :: nl x :: st) ws := fun H locs cells slots ad ls h1 h2 h3 h4 h5 h6 h7 => by
  have k9 := k H locs cells slots ad ls h1 h2 h3 h4 h5 h6 h7
  exact lv_lmul X.1.1 X.1.2.1 hdg (by rw [← Int64.ofInt_mul]; exact k9)
theorem ne_ineg {x : Int} (X : ne_F cl D ct A p l R s m args meth c own cc nL Ts fr lo mc ms) (hdg : decode cc pc = .ok (.ineg, 1)) (k : ne_G cl D ct A n0 ad0 p l e R s m args below meth c Q nL mc ms C S (pc + 1) L (ni (-x) :: st) ws) : ne_G cl D ct A n0 ad0 p l e R s m args below meth c Q nL mc ms C S pc L (ni x :: st) ws := fun H locs cells slots ad ls h1 h2 h3 h4 h5 h6 h7 => by
  have k9 := k H locs cells slots ad ls h1 h2 h3 h4 h5 h6 h7
  exact lv_ineg X.1.1 X.1.2.1 hdg (by rw [← Int32.ofInt_neg]; exact k9)
theorem ne_lneg {x : Int} (X : ne_F cl D ct A p l R s m args meth c own cc nL Ts fr lo mc ms) (hdg : decode cc pc = .ok (.lneg, 1)) (k : ne_G cl D ct A n0 ad0 p l e R s m args below meth c Q nL mc ms C S (pc + 1) L (nl (-x) :: st) ws) : ne_G cl D ct A n0 ad0 p l e R s m args below meth c Q nL mc ms C S pc L (nl x :: st) ws := fun H locs cells slots ad ls h1 h2 h3 h4 h5 h6 h7 => by
  have k9 := k H locs cells slots ad ls h1 h2 h3 h4 h5 h6 h7
  exact lv_lneg X.1.1 X.1.2.1 hdg (by rw [← Int64.ofInt_neg]; exact k9)
theorem ne_idiv {x y : Int} (X : ne_F cl D ct A p l R s m args meth c own cc nL Ts fr lo mc ms) (hdg : decode cc pc = .ok (.idiv, 1)) (hx : -2147483648 ≤ x ∧ x < 2147483648) (hy : -2147483648 ≤ y ∧ y < 2147483648) (hne : y ≠ 0) (k : ne_G cl D ct A n0 ad0 p l e R s m args below meth c Q nL mc ms C S (pc + 1) L (ni (x.tdiv y) :: st) ws) : ne_G cl D ct A n0 ad0 p l e R s m args below meth c Q nL mc ms C S pc L (ni y :: ni x :: st) ws := fun H locs cells slots ad ls h1 h2 h3 h4 h5 h6 h7 => by
  have k9 := k H locs cells slots ad ls h1 h2 h3 h4 h5 h6 h7
  refine lv_idiv X.1.1 X.1.2.1 hdg (fun h => hne ?_) (by rw [ne_divI hx hy]; exact k9)
  have h9 := congrArg Int32.toInt h
  rw [ne_toI hy.1 hy.2] at h9
  exact h9
theorem ne_irem {x y : Int} (X : ne_F cl D ct A p l R s m args meth c own cc nL Ts fr lo mc ms) (hdg : decode cc pc = .ok (.irem, 1)) (hx : -2147483648 ≤ x ∧ x < 2147483648) (hy : -2147483648 ≤ y ∧ y < 2147483648) (hne : y ≠ 0) (k : ne_G cl D ct A n0 ad0 p l e R s m args below meth c Q nL mc ms C S (pc + 1) L (ni (x.tmod y) :: st) ws) : ne_G cl D ct A n0 ad0 p l e R s m args below meth c Q nL mc ms C S pc L (ni y :: ni x :: st) ws := fun H locs cells slots ad ls h1 h2 h3 h4 h5 h6 h7 => by
  have k9 := k H locs cells slots ad ls h1 h2 h3 h4 h5 h6 h7
  refine lv_irem X.1.1 X.1.2.1 hdg (fun h => hne ?_) (by rw [ne_modI hx hy]; exact k9)
  have h9 := congrArg Int32.toInt h
  rw [ne_toI hy.1 hy.2] at h9
  exact h9
theorem ne_ldiv {x y : Int} (X : ne_F cl D ct A p l R s m args meth c own cc nL Ts fr lo mc ms) (hdg : decode cc pc = .ok (.ldiv, 1)) (hx : -9223372036854775808 ≤ x ∧ x < 9223372036854775808) (hy : -9223372036854775808 ≤ y ∧ y < 9223372036854775808) (hne : y ≠ 0) (k : ne_G cl D ct A n0 ad0 p l e R s m args below meth c Q nL mc ms C S (pc + 1) L (nl (x.tdiv y) :: st) ws) : ne_G cl D ct A n0 ad0 p l e R s m args below meth c Q nL mc ms C S pc L (nl y :: nl x :: st) ws := fun H locs cells slots ad ls h1 h2 h3 h4 h5 h6 h7 => by
  have k9 := k H locs cells slots ad ls h1 h2 h3 h4 h5 h6 h7
  refine lv_ldiv X.1.1 X.1.2.1 hdg (fun h => hne ?_) (by rw [ne_divL hx hy]; exact k9)
  have h9 := congrArg Int64.toInt h
  rw [ne_toL hy.1 hy.2] at h9
  exact h9
theorem ne_lrem {x y : Int} (X : ne_F cl D ct A p l R s m args meth c own cc nL Ts fr lo mc ms) (hdg : decode cc pc = .ok (.lrem, 1)) (hx : -9223372036854775808 ≤ x ∧ x < 9223372036854775808) (hy : -9223372036854775808 ≤ y ∧ y < 9223372036854775808) (hne : y ≠ 0) (k : ne_G cl D ct A n0 ad0 p l e R s m args below meth c Q nL mc ms C S (pc + 1) L (nl (x.tmod y) :: st) ws) : ne_G cl D ct A n0 ad0 p l e R s m args below meth c Q nL mc ms C S pc L (nl y :: nl x :: st) ws := fun H locs cells slots ad ls h1 h2 h3 h4 h5 h6 h7 => by
  have k9 := k H locs cells slots ad ls h1 h2 h3 h4 h5 h6 h7
  refine lv_lrem X.1.1 X.1.2.1 hdg (fun h => hne ?_) (by rw [ne_modL hx hy]; exact k9)
  have h9 := congrArg Int64.toInt h
  rw [ne_toL hy.1 hy.2] at h9
  exact h9
theorem ne_i2l {x : Int} (hx : -2147483648 ≤ x ∧ x < 2147483648) (X : ne_F cl D ct A p l R s m args meth c own cc nL Ts fr lo mc ms) (hdg : decode cc pc = .ok (.i2l, 1)) (k : ne_G cl D ct A n0 ad0 p l e R s m args below meth c Q nL mc ms C S (pc + 1) L (nl x :: st) ws) : ne_G cl D ct A n0 ad0 p l e R s m args below meth c Q nL mc ms C S pc L (ni x :: st) ws := fun H locs cells slots ad ls h1 h2 h3 h4 h5 h6 h7 => by
  have k9 := k H locs cells slots ad ls h1 h2 h3 h4 h5 h6 h7
  exact lv_i2l X.1.1 X.1.2.1 hdg (Int64.toInt_inj.mp (by rw [Int32.toInt_toInt64, ne_toI hx.1 hx.2, ne_toL (by omega) (by omega)])) k9
theorem ne_l2i {x : Int} (X : ne_F cl D ct A p l R s m args meth c own cc nL Ts fr lo mc ms) (hdg : decode cc pc = .ok (.l2i, 1)) (k : ne_G cl D ct A n0 ad0 p l e R s m args below meth c Q nL mc ms C S (pc + 1) L (ni x :: st) ws) : ne_G cl D ct A n0 ad0 p l e R s m args below meth c Q nL mc ms C S pc L (nl x :: st) ws := fun H locs cells slots ad ls h1 h2 h3 h4 h5 h6 h7 => by
  have k9 := k H locs cells slots ad ls h1 h2 h3 h4 h5 h6 h7
  exact lv_l2i X.1.1 X.1.2.1 hdg Int64.toInt32_ofInt k9
/-! stack -/
theorem ne_dupi {x : Int32} (X : ne_F cl D ct A p l R s m args meth c own cc nL Ts fr lo mc ms) (hdg : decode cc pc = .ok (.dup, 1)) (k : ne_G cl D ct A n0 ad0 p l e R s m args below meth c Q nL mc ms C S (pc + 1) L (.int x :: .int x :: st) ws) : ne_G cl D ct A n0 ad0 p l e R s m args below meth c Q nL mc ms C S pc L (.int x :: st) ws := fun H locs cells slots ad ls h1 h2 h3 h4 h5 h6 h7 => by
  have k9 := k H locs cells slots ad ls h1 h2 h3 h4 h5 h6 h7
  exact lv_dup X.1.1 X.1.2.1 hdg rfl k9
theorem ne_dupa {x : Nat} (X : ne_F cl D ct A p l R s m args meth c own cc nL Ts fr lo mc ms) (hdg : decode cc pc = .ok (.dup, 1)) (k : ne_G cl D ct A n0 ad0 p l e R s m args below meth c Q nL mc ms C S (pc + 1) L (.ref x :: .ref x :: st) ws) : ne_G cl D ct A n0 ad0 p l e R s m args below meth c Q nL mc ms C S pc L (.ref x :: st) ws := fun H locs cells slots ad ls h1 h2 h3 h4 h5 h6 h7 => by
  have k9 := k H locs cells slots ad ls h1 h2 h3 h4 h5 h6 h7
  exact lv_dup X.1.1 X.1.2.1 hdg rfl k9
theorem ne_popi {x : Int32} (X : ne_F cl D ct A p l R s m args meth c own cc nL Ts fr lo mc ms) (hdg : decode cc pc = .ok (.pop, 1)) (k : ne_G cl D ct A n0 ad0 p l e R s m args below meth c Q nL mc ms C S (pc + 1) L (st) ws) : ne_G cl D ct A n0 ad0 p l e R s m args below meth c Q nL mc ms C S pc L (.int x :: st) ws := fun H locs cells slots ad ls h1 h2 h3 h4 h5 h6 h7 => by
  have k9 := k H locs cells slots ad ls h1 h2 h3 h4 h5 h6 h7
  exact lv_pop X.1.1 X.1.2.1 hdg rfl k9
theorem ne_popa {x : Nat} (X : ne_F cl D ct A p l R s m args meth c own cc nL Ts fr lo mc ms) (hdg : decode cc pc = .ok (.pop, 1)) (k : ne_G cl D ct A n0 ad0 p l e R s m args below meth c Q nL mc ms C S (pc + 1) L (st) ws) : ne_G cl D ct A n0 ad0 p l e R s m args below meth c Q nL mc ms C S pc L (.ref x :: st) ws := fun H locs cells slots ad ls h1 h2 h3 h4 h5 h6 h7 => by
  have k9 := k H locs cells slots ad ls h1 h2 h3 h4 h5 h6 h7
  exact lv_pop X.1.1 X.1.2.1 hdg rfl k9
theorem ne_pop2l {x : Int64} (X : ne_F cl D ct A p l R s m args meth c own cc nL Ts fr lo mc ms) (hdg : decode cc pc = .ok (.pop2, 1)) (k : ne_G cl D ct A n0 ad0 p l e R s m args below meth c Q nL mc ms C S (pc + 1) L (st) ws) : ne_G cl D ct A n0 ad0 p l e R s m args below meth c Q nL mc ms C S pc L (.long x :: st) ws := fun H locs cells slots ad ls h1 h2 h3 h4 h5 h6 h7 => by
  have k9 := k H locs cells slots ad ls h1 h2 h3 h4 h5 h6 h7
  exact lv_pop2_2 X.1.1 X.1.2.1 hdg rfl k9
theorem ne_dup2ai {x : Int32} {q : Nat} (X : ne_F cl D ct A p l R s m args meth c own cc nL Ts fr lo mc ms) (hdg : decode cc pc = .ok (.dup2, 1)) (k : ne_G cl D ct A n0 ad0 p l e R s m args below meth c Q nL mc ms C S (pc + 1) L (.int x :: .ref q :: .int x :: .ref q :: st) ws) : ne_G cl D ct A n0 ad0 p l e R s m args below meth c Q nL mc ms C S pc L (.int x :: .ref q :: st) ws := fun H locs cells slots ad ls h1 h2 h3 h4 h5 h6 h7 => by
  have k9 := k H locs cells slots ad ls h1 h2 h3 h4 h5 h6 h7
  exact lv_dup2_11 X.1.1 X.1.2.1 hdg rfl rfl k9
theorem ne_dup_x1 {x : Int32} {q : Nat} (X : ne_F cl D ct A p l R s m args meth c own cc nL Ts fr lo mc ms) (hdg : decode cc pc = .ok (.dup_x1, 1)) (k : ne_G cl D ct A n0 ad0 p l e R s m args below meth c Q nL mc ms C S (pc + 1) L (.int x :: .ref q :: .int x :: st) ws) : ne_G cl D ct A n0 ad0 p l e R s m args below meth c Q nL mc ms C S pc L (.int x :: .ref q :: st) ws := fun H locs cells slots ad ls h1 h2 h3 h4 h5 h6 h7 => by
  have k9 := k H locs cells slots ad ls h1 h2 h3 h4 h5 h6 h7
  exact lv_dup_x1 X.1.1 X.1.2.1 hdg rfl rfl k9
/-! branches -/
theorem ne_goto {off : Int} {tgt : Nat} (X : ne_F cl D ct A p l R s m args meth c own cc nL Ts fr lo mc ms) (hdg : decode cc pc = .ok (.goto off, 3)) (ht : (pc : Int) + off = (tgt : Int)) (k : ne_G cl D ct A n0 ad0 p l e R s m args below meth c Q nL mc ms C S tgt L st ws) : ne_G cl D ct A n0 ad0 p l e R s m args below meth c Q nL mc ms C S pc L st ws := fun H locs cells slots ad ls h1 h2 h3 h4 h5 h6 h7 =>
  lv_goto X.1.1 X.1.2.1 hdg ht (k H locs cells slots ad ls h1 h2 h3 h4 h5 h6 h7)
theorem ne_icmp_eq {x y : Int} {off : Int} {tgt : Nat} (X : ne_F cl D ct A p l R s m args meth c own cc nL Ts fr lo mc ms) (hdg : decode cc pc = .ok (.if_icmp .eq off, 3)) (ht : (pc : Int) + off = (tgt : Int)) (hx : -2147483648 ≤ x ∧ x < 2147483648) (hy : -2147483648 ≤ y ∧ y < 2147483648) (kt : x = y → ne_G cl D ct A n0 ad0 p l e R s m args below meth c Q nL mc ms C S tgt L st ws) (kf : x ≠ y → ne_G cl D ct A n0 ad0 p l e R s m args below meth c Q nL mc ms C S (pc + 3) L st ws) : ne_G cl D ct A n0 ad0 p l e R s m args below meth c Q nL mc ms C S pc L (ni y :: ni x :: st) ws := fun H locs cells slots ad ls h1 h2 h3 h4 h5 h6 h7 => by
  skip
  have a1 : (Int32.ofInt x = Int32.ofInt y) ↔ x = y := ne_eqI hx hy
  have a2 : (Int32.ofInt x < Int32.ofInt y) ↔ x < y := ne_ltI hx hy
  have a3 : (Int32.ofInt x ≤ Int32.ofInt y) ↔ x ≤ y := ne_leI hx hy
  have a4 : (Int32.ofInt y < Int32.ofInt x) ↔ y < x := ne_ltI hy hx
  have a5 : (Int32.ofInt y ≤ Int32.ofInt x) ↔ y ≤ x := ne_leI hy hx
  skip
  refine lv_icmp_eq X.1.1 X.1.2.1 hdg ht (fun h9 => kt ?_ H locs cells slots ad ls h1 h2 h3 h4 h5 h6 h7) (fun h9 => kf ?_ H locs cells slots ad ls h1 h2 h3 h4 h5 h6 h7)
  all_goals (simp only [ge_iff_le, gt_iff_lt, ne_eq, Decidable.not_not, a1, a2, a3, a4, a5] at h9; omega)
theorem ne_if_eq {x : Int} {off : Int} {tgt : Nat} (X : ne_F cl D ct A p l R s m args meth c own cc nL Ts fr lo mc ms) (hdg : decode cc pc = .ok (.ifCond .eq off, 3)) (ht : (pc : Int) + off = (tgt : Int)) (hx : -2147483648 ≤ x ∧ x < 2147483648) (kt : x = 0 → ne_G cl D ct A n0 ad0 p l e R s m args below meth c Q nL mc ms C S tgt L st ws) (kf : x ≠ 0 → ne_G cl D ct A n0 ad0 p l e R s m args below meth c Q nL mc ms C S (pc + 3) L st ws) : ne_G cl D ct A n0 ad0 p l e R s m args below meth c Q nL mc ms C S pc L (ni x :: st) ws := fun H locs cells slots ad ls h1 h2 h3 h4 h5 h6 h7 => by
  have hy : -2147483648 ≤ (0 : Int) ∧ (0 : Int) < 2147483648 := by omega
  have a1 : (Int32.ofInt x = Int32.ofInt 0) ↔ x = 0 := ne_eqI hx hy
  have a2 : (Int32.ofInt x < Int32.ofInt 0) ↔ x < 0 := ne_ltI hx hy
  have a3 : (Int32.ofInt x ≤ Int32.ofInt 0) ↔ x ≤ 0 := ne_leI hx hy
  have a4 : (Int32.ofInt 0 < Int32.ofInt x) ↔ 0 < x := ne_ltI hy hx
  have a5 : (Int32.ofInt 0 ≤ Int32.ofInt x) ↔ 0 ≤ x := ne_leI hy hx
  rw [← ne_z0] at a1 a2 a3 a4 a5
  refine lv_if_eq X.1.1 X.1.2.1 hdg ht (fun h9 => kt ?_ H locs cells slots ad ls h1 h2 h3 h4 h5 h6 h7) (fun h9 => kf ?_ H locs cells slots ad ls h1 h2 h3 h4 h5 h6 h7)
  all_goals (simp only [ge_iff_le, gt_iff_lt, ne_eq, Decidable.not_not, a1, a2, a3, a4, a5] at h9; omega)
theorem ne_icmp_ne {x y : Int} {off : Int} {tgt : Nat} (X : ne_F cl D ct A p l R s m args meth c own cc nL Ts fr lo mc ms) (hdg : decode cc pc = .ok (.if_icmp .ne off, 3)) (ht : (pc : Int) + off = (tgt : Int)) (hx : -2147483648 ≤ x ∧ x < 2147483648) (hy : -2147483648 ≤ y ∧ y < 2147483648) (kt : x ≠ y → ne_G cl D ct A n0 ad0 p l e R s m args below meth c Q nL mc ms C S tgt L st ws) (kf : x = y → ne_G cl D ct A n0 ad0 p l e R s m args below meth c Q nL mc ms C S (pc + 3) L st ws) : ne_G cl D ct A n0 ad0 p l e R s m args below meth c Q nL mc ms C S pc L (ni y :: ni x :: st) ws := fun H locs cells slots ad ls h1 h2 h3 h4 h5 h6 h7 => by
  skip
  have a1 : (Int32.ofInt x = Int32.ofInt y) ↔ x = y := ne_eqI hx hy
  have a2 : (Int32.ofInt x < Int32.ofInt y) ↔ x < y := ne_ltI hx hy
  have a3 : (Int32.ofInt x ≤ Int32.ofInt y) ↔ x ≤ y := ne_leI hx hy
  have a4 : (Int32.ofInt y < Int32.ofInt x) ↔ y < x := ne_ltI hy hx
  have a5 : (Int32.ofInt y ≤ Int32.ofInt x) ↔ y ≤ x := ne_leI hy hx
  skip
  refine lv_icmp_ne X.1.1 X.1.2.1 hdg ht (fun h9 => kt ?_ H locs cells slots ad ls h1 h2 h3 h4 h5 h6 h7) (fun h9 => kf ?_ H locs cells slots ad ls h1 h2 h3 h4 h5 h6 h7)
  all_goals (simp only [ge_iff_le, gt_iff_lt, ne_eq, Decidable.not_not, a1, a2, a3, a4, a5] at h9; omega)
theorem ne_if_ne {x : Int} {off : Int} {tgt : Nat} (X : ne_F cl D ct A p l R s m args meth c own cc nL Ts fr lo mc ms) (hdg : decode cc pc = .ok (.ifCond .ne off, 3)) (ht : (pc : Int) + off = (tgt : Int)) (hx : -2147483648 ≤ x ∧ x < 2147483648) (kt : x ≠ 0 → ne_G cl D ct A n0 ad0 p l e R s m args below meth c Q nL mc ms C S tgt L st ws) (kf : x = 0 → ne_G cl D ct A n0 ad0 p l e R s m args below meth c Q nL mc ms C S (pc + 3) L st ws) : ne_G cl D ct A n0 ad0 p l e R s m args below meth c Q nL mc ms C S pc L (ni x :: st) ws := fun H locs cells slots ad ls h1 h2 h3 h4 h5 h6 h7 => by
  have hy : -2147483648 ≤ (0 : Int) ∧ (0 : Int) < 2147483648 := by omega
  have a1 : (Int32.ofInt x = Int32.ofInt 0) ↔ x = 0 := ne_eqI hx hy
  have a2 : (Int32.ofInt x < Int32.ofInt 0) ↔ x < 0 := ne_ltI hx hy
  have a3 : (Int32.ofInt x ≤ Int32.ofInt 0) ↔ x ≤ 0 := ne_leI hx hy
  have a4 : (Int32.ofInt 0 < Int32.ofInt x) ↔ 0 < x := ne_ltI hy hx
  have a5 : (Int32.ofInt 0 ≤ Int32.ofInt x) ↔ 0 ≤ x := ne_leI hy hx
  rw [← ne_z0] at a1 a2 a3 a4 a5
  refine lv_if_ne X.1.1 X.1.2.1 hdg ht (fun h9 => kt ?_ H locs cells slots ad ls h1 h2 h3 h4 h5 h6 h7) (fun h9 => kf ?_ H locs cells slots ad ls h1 h2 h3 h4 h5 h6 h7)
  all_goals (simp only [ge_iff_le, gt_iff_lt, ne_eq, Decidable.not_not, a1, a2, a3, a4, a5] at h9; omega)
theorem ne_icmp_lt {x y : Int} {off : Int} {tgt : Nat} (X : ne_F cl D ct A p l R s m args meth c own cc nL Ts fr lo mc ms) (hdg : decode cc pc = .ok (.if_icmp .lt off, 3)) (ht : (pc : Int) + off = (tgt : Int)) (hx : -2147483648 ≤ x ∧ x < 2147483648) (hy : -2147483648 ≤ y ∧ y < 2147483648) (kt : x < y → ne_G cl D ct A n0 ad0 p l e R s m args below meth c Q nL mc ms C S tgt L st ws) (kf : y ≤ x → ne_G cl D ct A n0 ad0 p l e R s m args below meth c Q nL mc ms C S (pc + 3) L st ws) : ne_G cl D ct A n0 ad0 p l e R s m args below meth c Q nL mc ms C S pc L (ni y :: ni x :: st) ws := fun H locs cells slots ad ls h1 h2 h3 h4 h5 h6 h7 => by
  skip
  have a1 : (Int32.ofInt x = Int32.ofInt y) ↔ x = y := ne_eqI hx hy
  have a2 : (Int32.ofInt x < Int32.ofInt y) ↔ x < y := ne_ltI hx hy
  have a3 : (Int32.ofInt x ≤ Int32.ofInt y) ↔ x ≤ y := ne_leI hx hy
  have a4 : (Int32.ofInt y < Int32.ofInt x) ↔ y < x := ne_ltI hy hx
  have a5 : (Int32.ofInt y ≤ Int32.ofInt x) ↔ y ≤ x := ne_leI hy hx
  skip
  refine lv_icmp_lt X.1.1 X.1.2.1 hdg ht (fun h9 => kt ?_ H locs cells slots ad ls h1 h2 h3 h4 h5 h6 h7) (fun h9 => kf ?_ H locs cells slots ad ls h1 h2 h3 h4 h5 h6 h7)
  all_goals (simp only [ge_iff_le, gt_iff_lt, ne_eq, Decidable.not_not, a1, a2, a3, a4, a5] at h9; omega)
theorem ne_if_lt {x : Int} {off : Int} {tgt : Nat} (X : ne_F cl D ct A p l R s m args meth c own cc nL Ts fr lo mc ms) (hdg : decode cc pc = .ok (.ifCond .lt off, 3)) (ht : (pc : Int) + off = (tgt : Int)) (hx : -2147483648 ≤ x ∧ x < 2147483648) (kt : x < 0 → ne_G cl D ct A n0 ad0 p l e R s m args below meth c Q nL mc ms C S tgt L st ws) (kf : 0 ≤ x → ne_G cl D ct A n0 ad0 p l e R s m args below meth c Q nL mc ms C S (pc + 3) L st ws) : ne_G cl D ct A n0 ad0 p l e R s m args below meth c Q nL mc ms C S pc L (ni x :: st) ws := fun H locs cells slots ad ls h1 h2 h3 h4 h5 h6 h7 => by
  have hy : -2147483648 ≤ (0 : Int) ∧ (0 : Int) < 2147483648 := by omega
  have a1 : (Int32.ofInt x = Int32.ofInt 0) ↔ x = 0 := ne_eqI hx hy
  have a2 : (Int32.ofInt x < Int32.ofInt 0) ↔ x < 0 := ne_ltI hx hy
  have a3 : (Int32.ofInt x ≤ Int32.ofInt 0) ↔ x ≤ 0 := ne_leI hx hy
  have a4 : (Int32.ofInt 0 < Int32.ofInt x) ↔ 0 < x := ne_ltI hy hx
  have a5 : (Int32.ofInt 0 ≤ Int32.ofInt x) ↔ 0 ≤ x := ne_leI hy hx
  rw [← ne_z0] at a1 a2 a3 a4 a5
  refine lv_if_lt X.1.1 X.1.2.1 hdg ht (fun h9 => kt ?_ H locs cells slots ad ls h1 h2 h3 h4 h5 h6 h7) (fun h9 => kf ?_ H locs cells slots ad ls h1 h2 h3 h4 h5 h6 h7)
  all_goals (simp only [ge_iff_le, gt_iff_lt, ne_eq, Decidable.not_not, a1, a2, a3, a4, a5] at h9; omega)
theorem ne_icmp_ge {x y : Int} {off : Int} {tgt : Nat} (X : ne_F cl D ct A p l R s m args meth c own cc nL Ts fr lo mc ms) (hdg : decode cc pc = .ok (.if_icmp .ge off, 3)) (ht : (pc : Int) + off = (tgt : Int)) (hx : -2147483648 ≤ x ∧ x < 2147483648) (hy : -2147483648 ≤ y ∧ y < 2147483648) (kt : y ≤ x → ne_G cl D ct A n0 ad0 p l e R s m args below meth c Q nL mc ms C S tgt L st ws) (kf : x < y → ne_G cl D ct A n0 ad0 p l e R s m args below meth c Q nL mc ms C S (pc + 3) L st ws) : ne_G cl D ct A n0 ad0 p l e R s m args below meth c Q nL mc ms C S pc L (ni y :: ni x :: st) ws := fun H locs cells slots ad ls h1 h2 h3 h4 h5 h6 h7 => by
  skip
  have a1 : (Int32.ofInt x = Int32.ofInt y) ↔ x = y := ne_eqI hx hy
  have a2 : (Int32.ofInt x < Int32.ofInt y) ↔ x < y := ne_ltI hx hy
  have a3 : (Int32.ofInt x ≤ Int32.ofInt y) ↔ x ≤ y := ne_leI hx hy
  have a4 : (Int32.ofInt y < Int32.ofInt x) ↔ y < x := ne_ltI hy hx
  have a5 : (Int32.ofInt y ≤ Int32.ofInt x) ↔ y ≤ x := ne_leI hy hx
  skip
  refine lv_icmp_ge X.1.1 X.1.2.1 hdg ht (fun h9 => kt ?_ H locs cells slots ad ls h1 h2 h3 h4 h5 h6 h7) (fun h9 => kf ?_ H locs cells slots ad ls h1 h2 h3 h4 h5 h6 h7)
  all_goals (simp only [ge_iff_le, gt_iff_lt, ne_eq, Decidable.not_not, a1, a2, a3, a4, a5] at h9; omega)
theorem ne_if_ge {x : Int} {off : Int} {tgt : Nat} (X : ne_F cl D ct A p l R s m args meth c own cc nL Ts fr lo mc ms) (hdg : decode cc pc = .ok (.ifCond .ge off, 3)) (ht : (pc : Int) + off = (tgt : Int)) (hx : -2147483648 ≤ x ∧ x < 2147483648) (kt : 0 ≤ x → ne_G cl D ct A n0 ad0 p l e R s m args below meth c Q nL mc ms C S tgt L st ws) (kf : x < 0 → ne_G cl D ct A n0 ad0 p l e R s m args below meth c Q nL mc ms C S (pc + 3) L st ws) : ne_G cl D ct A n0 ad0 p l e R s m args below meth c Q nL mc ms C S pc L (ni x :: st) ws := fun H locs cells slots ad ls h1 h2 h3 h4 h5 h6 h7 => by
  have hy : -2147483648 ≤ (0 : Int) ∧ (0 : Int) < 2147483648 := by omega
  have a1 : (Int32.ofInt x = Int32.ofInt 0) ↔ x = 0 := ne_eqI hx hy
  have a2 : (Int32.ofInt x < Int32.ofInt 0) ↔ x < 0 := ne_ltI hx hy
  have a3 : (Int32.ofInt x ≤ Int32.ofInt 0) ↔ x ≤ 0 := ne_leI hx hy
  have a4 : (Int32.ofInt 0 < Int32.ofInt x) ↔ 0 < x := ne_ltI hy hx
  have a5 : (Int32.ofInt 0 ≤ Int32.ofInt x) ↔ 0 ≤ x := ne_leI hy hx
  rw [← ne_z0] at a1 a2 a3 a4 a5
  refine lv_if_ge X.1.1 X.1.2.1 hdg ht (fun h9 => kt ?_ H locs cells slots ad ls h1 h2 h3 h4 h5 h6 h7) (fun h9 => kf ?_ H locs cells slots ad ls h1 h2 h3 h4 h5 h6 h7)
  all_goals (simp only [ge_iff_le, gt_iff_lt, ne_eq, Decidable.not_not, a1, a2, a3, a4, a5] at h9; omega)
theorem ne_icmp_gt {x y : Int} {off : Int} {tgt : Nat} (X : ne_F cl D ct A p l R s m args meth c own cc nL Ts fr lo mc ms) (hdg : decode cc pc = .ok (.if_icmp .gt off, 3)) (ht : (pc : Int) + off = (tgt : Int)) (hx : -2147483648 ≤ x ∧ x < 2147483648) (hy : -2147483648 ≤ y ∧ y < 2147483648) (kt : y < x → ne_G cl D ct A n0 ad0 p l e R s m args below meth c Q nL mc ms C S tgt L st ws) (kf : x ≤ y → ne_G cl D ct A n0 ad0 p l e R s m args below meth c Q nL mc ms C S (pc + 3) L st ws) : ne_G cl D ct A n0 ad0 p l e R s m args below meth c Q nL mc ms C S pc L (ni y :: ni x :: st) ws := fun H locs cells slots ad ls h1 h2 h3 h4 h5 h6 h7 => by
  skip
  have a1 : (Int32.ofInt x = Int32.ofInt y) ↔ x = y := ne_eqI hx hy
  have a2 : (Int32.ofInt x < Int32.ofInt y) ↔ x < y := ne_ltI hx hy
  have a3 : (Int32.ofInt x ≤ Int32.ofInt y) ↔ x ≤ y := ne_leI hx hy
  have a4 : (Int32.ofInt y < Int32.ofInt x) ↔ y < x := ne_ltI hy hx
  have a5 : (Int32.ofInt y ≤ Int32.ofInt x) ↔ y ≤ x := ne_leI hy hx
  skip
  refine lv_icmp_gt X.1.1 X.1.2.1 hdg ht (fun h9 => kt ?_ H locs cells slots ad ls h1 h2 h3 h4 h5 h6 h7) (fun h9 => kf ?_ H locs cells slots ad ls h1 h2 h3 h4 h5 h6 h7)
  all_goals (simp only [ge_iff_le, gt_iff_lt, ne_eq, Decidable.not_not, a1, a2, a3, a4, a5] at h9; omega)
theorem ne_if_gt {x : Int} {off : Int} {tgt : Nat} (X : ne_F cl D ct A p l R s m args meth c own cc nL Ts fr lo mc ms) (hdg : decode cc pc = .ok (.ifCond .gt off, 3)) (ht : (pc : Int) + off = (tgt : Int)) (hx : -2147483648 ≤ x ∧ x < 2147483648) (kt : 0 < x → ne_G cl D ct A n0 ad0 p l e R s m args below meth c Q nL mc ms C S tgt L st ws) (kf : x ≤ 0 → ne_G cl D ct A n0 ad0 p l e R s m args below meth c Q nL mc ms C S (pc + 3) L st ws) : ne_G cl D ct A n0 ad0 p l e R s m args below meth c Q nL mc ms C S pc L (ni x :: st) ws := fun H locs cells slots ad ls h1 h2 h3 h4 h5 h6 h7 => by
  have hy : -2147483648 ≤ (0 : Int) ∧ (0 : Int) < 2147483648 := by omega
  have a1 : (Int32.ofInt x = Int32.ofInt 0) ↔ x = 0 := ne_eqI hx hy
  have a2 : (Int32.ofInt x < Int32.ofInt 0) ↔ x < 0 := ne_ltI hx hy
  have a3 : (Int32.ofInt x ≤ Int32.ofInt 0) ↔ x ≤ 0 := ne_leI hx hy
  have a4 : (Int32.ofInt 0 < Int32.ofInt x) ↔ 0 < x := ne_ltI hy hx
  have a5 : (Int32.ofInt 0 ≤ Int32.ofInt x) ↔ 0 ≤ x := ne_leI hy hx
  rw [← ne_z0] at a1 a2 a3 a4 a5
  refine lv_if_gt X.1.1 X.1.2.1 hdg ht (fun h9 => kt ?_ H locs cells slots ad ls h1 h2 h3 h4 h5 h6 h7) (fun h9 => kf ?_ H locs cells slots ad ls h1 h2 h3 h4 h5 h6 h7)
  all_goals (simp only [ge_iff_le, gt_iff_lt, ne_eq, Decidable.not_not, a1, a2, a3, a4, a5] at h9; omega)
theorem ne_icmp_le {x y : Int} {off : Int} {tgt : Nat} (X : ne_F cl D ct A p l R s m args meth c own cc nL Ts fr lo mc ms) (hdg : decode cc pc = .ok (.if_icmp .le off, 3)) (ht : (pc : Int) + off = (tgt : Int)) (hx : -2147483648 ≤ x ∧ x < 2147483648) (hy : -2147483648 ≤ y ∧ y < 2147483648) (kt : x ≤ y → ne_G cl D ct A n0 ad0 p l e R s m args below meth c Q nL mc ms C S tgt L st ws) (kf : y < x → ne_G cl D ct A n0 ad0 p l e R s m args below meth c Q nL mc ms C S (pc + 3) L st ws) : ne_G cl D ct A n0 ad0 p l e R s m args below meth c Q nL mc ms C S pc L (ni y :: ni x :: st) ws := fun H locs cells slots ad ls h1 h2 h3 h4 h5 h6 h7 => by
  skip
  have a1 : (Int32.ofInt x = Int32.ofInt y) ↔ x = y := ne_eqI hx hy
  have a2 : (Int32.ofInt x < Int32.ofInt y) ↔ x < y := ne_ltI hx hy
  have a3 : (Int32.ofInt x ≤ Int32.ofInt y) ↔ x ≤ y := ne_leI hx hy
  have a4 : (Int32.ofInt y < Int32.ofInt x) ↔ y < x := ne_ltI hy hx
  have a5 : (Int32.ofInt y ≤ Int32.ofInt x) ↔ y ≤ x := ne_leI hy hx
  skip
  refine lv_icmp_le X.1.1 X.1.2.1 hdg ht (fun h9 => kt ?_ H locs cells slots ad ls h1 h2 h3 h4 h5 h6 h7) (fun h9 => kf ?_ H locs cells slots ad ls h1 h2 h3 h4 h5 h6 h7)
  all_goals (simp only [ge_iff_le, gt_iff_lt, ne_eq, Decidable.not_not, a1, a2, a3, a4, a5] at h9; omega)
theorem ne_if_le {x : Int} {off : Int} {tgt : Nat} (X : ne_F cl D ct A p l R s m args meth c own cc nL Ts fr lo mc ms) (hdg : decode cc pc = .ok (.ifCond .le off, 3)) (ht : (pc : Int) + off = (tgt : Int)) (hx : -2147483648 ≤ x ∧ x < 2147483648) (kt : x ≤ 0 → ne_G cl D ct A n0 ad0 p l e R s m args below meth c Q nL mc ms C S tgt L st ws) (kf : 0 < x → ne_G cl D ct A n0 ad0 p l e R s m args below meth c Q nL mc ms C S (pc + 3) L st ws) : ne_G cl D ct A n0 ad0 p l e R s m args below meth c Q nL mc ms C S pc L (ni x :: st) ws := fun H locs cells slots ad ls h1 h2 h3 h4 h5 h6 h7 => by
  have hy : -2147483648 ≤ (0 : Int) ∧ (0 : Int) < 2147483648 := by omega
  have a1 : (Int32.ofInt x = Int32.ofInt 0) ↔ x = 0 := ne_eqI hx hy
  have a2 : (Int32.ofInt x < Int32.ofInt 0) ↔ x < 0 := ne_ltI hx hy
  have a3 : (Int32.ofInt x ≤ Int32.ofInt 0) ↔ x ≤ 0 := ne_leI hx hy
  have a4 : (Int32.ofInt 0 < Int32.ofInt x) ↔ 0 < x := ne_ltI hy hx
  have a5 : (Int32.ofInt 0 ≤ Int32.ofInt x) ↔ 0 ≤ x := ne_leI hy hx
  rw [← ne_z0] at a1 a2 a3 a4 a5
  refine lv_if_le X.1.1 X.1.2.1 hdg ht (fun h9 => kt ?_ H locs cells slots ad ls h1 h2 h3 h4 h5 h6 h7) (fun h9 => kf ?_ H locs cells slots ad ls h1 h2 h3 h4 h5 h6 h7)
  all_goals (simp only [ge_iff_le, gt_iff_lt, ne_eq, Decidable.not_not, a1, a2, a3, a4, a5] at h9; omega)
theorem ne_ifnull {q : Nat} {off : Int} (X : ne_F cl D ct A p l R s m args meth c own cc nL Ts fr lo mc ms) (hdg : decode cc pc = .ok (.ifnull off, 3)) (k : ne_G cl D ct A n0 ad0 p l e R s m args below meth c Q nL mc ms C S (pc + 3) L st ws) : ne_G cl D ct A n0 ad0 p l e R s m args below meth c Q nL mc ms C S pc L (.ref q :: st) ws := fun H locs cells slots ad ls h1 h2 h3 h4 h5 h6 h7 =>
  lv_ifnull X.1.1 X.1.2.1 hdg (k H locs cells slots ad ls h1 h2 h3 h4 h5 h6 h7)
theorem ne_ifnonnull {q : Nat} {off : Int} {tgt : Nat} (X : ne_F cl D ct A p l R s m args meth c own cc nL Ts fr lo mc ms) (hdg : decode cc pc = .ok (.ifnonnull off, 3)) (ht : (pc : Int) + off = (tgt : Int)) (k : ne_G cl D ct A n0 ad0 p l e R s m args below meth c Q nL mc ms C S tgt L st ws) : ne_G cl D ct A n0 ad0 p l e R s m args below meth c Q nL mc ms C S pc L (.ref q :: st) ws := fun H locs cells slots ad ls h1 h2 h3 h4 h5 h6 h7 =>
  lv_ifnonnull X.1.1 X.1.2.1 hdg ht (k H locs cells slots ad ls h1 h2 h3 h4 h5 h6 h7)
theorem ne_ifnonnullN {off : Int} (X : ne_F cl D ct A p l R s m args meth c own cc nL Ts fr lo mc ms) (hdg : decode cc pc = .ok (.ifnonnull off, 3)) (k : ne_G cl D ct A n0 ad0 p l e R s m args below meth c Q nL mc ms C S (pc + 3) L st ws) : ne_G cl D ct A n0 ad0 p l e R s m args below meth c Q nL mc ms C S pc L (.null :: st) ws := fun H locs cells slots ad ls h1 h2 h3 h4 h5 h6 h7 =>
  lv_ifnonnullN X.1.1 X.1.2.1 hdg (k H locs cells slots ad ls h1 h2 h3 h4 h5 h6 h7)
theorem ne_cmpv {x y : Int} (hx : -9223372036854775808 ≤ x ∧ x < 9223372036854775808) (hy : -9223372036854775808 ≤ y ∧ y < 9223372036854775808) : ∃ z : Int, lg_cmp (Int64.ofInt x) (Int64.ofInt y) = Int32.ofInt z ∧ -1 ≤ z ∧ z ≤ 1 ∧ (z < 0 ↔ x < y) ∧ (0 < z ↔ y < x) := by
  have a1 := ne_ltL hx hy
  have a2 := ne_ltL hy hx
  unfold lg_cmp
  by_cases b1 : y < x
  · refine ⟨1, ?_, by omega, by omega, by omega, by omega⟩
    simp [a1, a2, b1]; try omega
  · by_cases b2 : x < y
    · refine ⟨-1, ?_, by omega, by omega, by omega, by omega⟩
      have b4 : ¬ Int64.ofInt x = Int64.ofInt y := fun h9 => by
        have h8 := congrArg Int64.toInt h9
        rw [ne_toL hx.1 hx.2, ne_toL hy.1 hy.2] at h8
        omega
      simp [a1, a2, b1, b4]
    · refine ⟨0, ?_, by omega, by omega, by omega, by omega⟩
      have b3 : x = y := by omega
      subst b3
      simp
theorem ne_lcmp {x y : Int} (X : ne_F cl D ct A p l R s m args meth c own cc nL Ts fr lo mc ms) (hdg : decode cc pc = .ok (.lcmp, 1)) (hx : -9223372036854775808 ≤ x ∧ x < 9223372036854775808) (hy : -9223372036854775808 ≤ y ∧ y < 9223372036854775808) (k : ∀ z : Int, -1 ≤ z → z ≤ 1 → (z < 0 ↔ x < y) → (0 < z ↔ y < x) → ne_G cl D ct A n0 ad0 p l e R s m args below meth c Q nL mc ms C S (pc + 1) L (ni z :: st) ws) : ne_G cl D ct A n0 ad0 p l e R s m args below meth c Q nL mc ms C S pc L (nl y :: nl x :: st) ws := fun H locs cells slots ad ls h1 h2 h3 h4 h5 h6 h7 => by
  obtain ⟨z, e1, e2, e3, e4, e5⟩ := ne_cmpv hx hy
  refine W.lcmp X.1.1 X.1.2.1 hdg ?_
  rw [e1]
  exact k z e2 e3 e4 e5 H locs cells slots ad ls h1 h2 h3 h4 h5 h6 h7
end NEB
section NEC
variable {cl : List vw_C} {D : va_G} {ct : Nat → ClassId} {A : Nat → Prop} {n0 : Nat} {ad0 : Nat → Nat} {p : Program} {l : Launch} {e : Env} {R : Room} {s : State} {m : MethodId} {args : Array Value} {below : List Frame} {meth : Method} {c : Code} {Q : State → Prop} {own : String} {cc : ByteArray} {nL : Nat} {Ts : List Cond} {fr lo mc ms C S pc : Nat} {L : List (Option Value)} {st : List Value} {ws : ne_W}
/-! fields -/
/-- place ix of own's pool: field k of class ci -/
def ne_fl (cl : List vw_C) (own : String) (ix ci k : Nat) (Ts : List Cond) : Prop := ∃ (C : String) (T : u_T) (N : Nat), cl[ci]? = some (C, T, N) ∧ k < N ∧ (∀ w ∈ u_ws C T N, w ∈ Ts) ∧ Cond.fieldLink own ix (T k).1 (T k).2.1 (T k).2.2.1 ∈ Ts
def ne_fln (cl : List vw_C) (own : String) (ix ci k : Nat) (host : String) (Ts : List Cond) : Prop := ∃ (C : String) (T : u_T) (N : Nat), cl[ci]? = some (C, T, N) ∧ k < N ∧ (∀ w ∈ u_ws C T N, w ∈ Ts) ∧ (own, ix, (T k).1, (T k).2.1, (T k).2.2.1, host) ∈ ne_nf
/-- .. and what may be stored there -/
def ne_fp (cl : List vw_C) (ci k : Nat) (ty : FieldType) (fin : Bool) : Prop := ∃ (C : String) (T : u_T) (N : Nat) (ty0 : Nat → FieldType), cl[ci]? = some (C, T, N) ∧ (∀ k, k < N → parseFieldDescriptor (T k).2.2.1 = some (ty0 k)) ∧ (∀ a, a < N → ∀ b, b < N → a ≠ b → (T a).2.1 ≠ (T b).2.1) ∧ (T k).2.2.2 = fin ∧ parseFieldDescriptor (T k).2.2.1 = some ty
theorem ne_getf {ix ci k q : Nat} {fs : List Value} {v : Value} (X : ne_F cl D ct A p l R s m args meth c own cc nL Ts fr lo mc ms) (hdg : decode cc pc = .ok (.getfield ix, 3)) (hf : ne_fl cl own ix ci k Ts) (he : ws[q]? = some (some (.inr (ci, fs)))) (hv : fs[k]? = some v) (kk : ne_G cl D ct A n0 ad0 p l e R s m args below meth c Q nL mc ms C S (pc + 3) L (v :: st) ws) : ne_G cl D ct A n0 ad0 p l e R s m args below meth c Q nL mc ms C S pc L (.ref q :: st) ws := fun H locs cells slots ad ls h1 h2 h3 h4 h5 h6 h7 => by
  obtain ⟨C', T, N, f1, f2, f3, f4⟩ := hf
  obtain ⟨q0, e1, -⟩ := ne_w_set (ct := ct) (ad := ad) (k := 0) he
  rw [Nat.zero_add] at e1
  exact va_get (fs := fs.map (ne_v ad)) (v := ne_v ad v) X.1.1 X.1.2.1 X.1.2.2.2.2 f3 X.1.2.2.2.1 X.2.1 h4 q0 e1 f1 k f2 (X.1.2.2.2.2 _ f4) (fun _ h => h) (by rw [List.getElem?_map, hv]; rfl) hdg (kk H locs cells slots ad ls h1 h2 h3 h4 h5 h6 h7)
theorem ne_getfn {ix ci k q : Nat} {host : String} {fs : List Value} {v : Value} (X : ne_F cl D ct A p l R s m args meth c own cc nL Ts fr lo mc ms) (hdg : decode cc pc = .ok (.getfield ix, 3)) (hf : ne_fln cl own ix ci k host Ts) (he : ws[q]? = some (some (.inr (ci, fs)))) (hv : fs[k]? = some v) (kk : ne_G cl D ct A n0 ad0 p l e R s m args below meth c Q nL mc ms C S (pc + 3) L (v :: st) ws) : ne_G cl D ct A n0 ad0 p l e R s m args below meth c Q nL mc ms C S pc L (.ref q :: st) ws := fun H locs cells slots ad ls h1 h2 h3 h4 h5 h6 h7 => by
  obtain ⟨C', T, N, f1, f2, f3, f4⟩ := hf
  obtain ⟨q0, e1, -⟩ := ne_w_set (ct := ct) (ad := ad) (k := 0) he
  rw [Nat.zero_add] at e1
  exact va_getN (host := host) (fs := fs.map (ne_v ad)) (v := ne_v ad v) X.1.1 X.1.2.1 X.1.2.2.2.2 f3 X.1.2.2.2.1 X.2.1 h4 q0 e1 f1 k f2 ((X.2.2.2.2.2.2.2.1.2.2.2.2.2.1 _ f4).use rfl) (fun _ h => h) (by rw [List.getElem?_map, hv]; rfl) hdg (kk H locs cells slots ad ls h1 h2 h3 h4 h5 h6 h7)
theorem ne_setf {ad : Nat → Nat} {ci k : Nat} {fs : List Value} {v : Value} : ne_c ct ad (.inr (ci, fs.set k v)) = .inr (ci, (fs.map (ne_v ad)).set k (ne_v ad v)) := by
  simp only [ne_c, List.map_set]
theorem ne_putf {ix ci k q : Nat} {ty : FieldType} {fs : List Value} {v : Value} (X : ne_F cl D ct A p l R s m args meth c own cc nL Ts fr lo mc ms) (hdg : decode cc pc = .ok (.putfield ix, 3)) (hf : ne_fl cl own ix ci k Ts) (hp : ne_fp cl ci k ty false) (he : ws[q]? = some (some (.inr (ci, fs)))) (hn : ∀ ad, narrow ty (ne_v ad v) = ne_v ad v) (hfit : ∀ ad, fits ty (ne_v ad v) = true) (hl : k < fs.length) (kk : ne_G cl D ct A n0 ad0 p l e R s m args below meth c Q nL mc ms C S (pc + 3) L st (ws.set q (some (.inr (ci, fs.set k v))))) : ne_G cl D ct A n0 ad0 p l e R s m args below meth c Q nL mc ms C S pc L (v :: .ref q :: st) ws := fun H locs cells slots ad ls h1 h2 h3 h4 h5 h6 h7 => by
  obtain ⟨C', T, N, f1, f2, f3, f4⟩ := hf
  obtain ⟨C2, T2, N2, ty0, g1, g2, g3, g4, g5⟩ := hp
  cases f1.symm.trans g1
  obtain ⟨q0, e1, e2⟩ := ne_w_set (ct := ct) (ad := ad) (k := 0) he
  rw [Nat.zero_add] at e1 e2
  refine va_put (fs := fs.map (ne_v ad)) (v := ne_v ad v) X.1.1 X.1.2.1 X.1.2.2.2.2 f3 ty0 g2 g3 X.1.2.2.2.1 X.2.1 h4 h5 h6 q0 e1 f1 k f2 (X.1.2.2.2.2 _ f4) (fun _ h => h) g4 g5 (hn ad) (hfit ad) (by rw [List.length_map]; exact hl) hdg (fun H1 locs1 hP hD hS => ?_)
  have e3 := e2 (.inr (ci, fs.set k v))
  rw [ne_setf] at e3
  rw [e3] at hP hD
  exact kk H1 locs1 cells slots ad ls h1 h2 h3 hP hD hS h7
theorem ne_putfn {ix ci k q : Nat} {host : String} {ty : FieldType} {fs : List Value} {v : Value} (X : ne_F cl D ct A p l R s m args meth c own cc nL Ts fr lo mc ms) (hdg : decode cc pc = .ok (.putfield ix, 3)) (hf : ne_fln cl own ix ci k host Ts) (hp : ne_fp cl ci k ty false) (he : ws[q]? = some (some (.inr (ci, fs)))) (hn : ∀ ad, narrow ty (ne_v ad v) = ne_v ad v) (hfit : ∀ ad, fits ty (ne_v ad v) = true) (hl : k < fs.length) (kk : ne_G cl D ct A n0 ad0 p l e R s m args below meth c Q nL mc ms C S (pc + 3) L st (ws.set q (some (.inr (ci, fs.set k v))))) : ne_G cl D ct A n0 ad0 p l e R s m args below meth c Q nL mc ms C S pc L (v :: .ref q :: st) ws := fun H locs cells slots ad ls h1 h2 h3 h4 h5 h6 h7 => by
  obtain ⟨C', T, N, f1, f2, f3, f4⟩ := hf
  obtain ⟨C2, T2, N2, ty0, g1, g2, g3, g4, g5⟩ := hp
  cases f1.symm.trans g1
  obtain ⟨q0, e1, e2⟩ := ne_w_set (ct := ct) (ad := ad) (k := 0) he
  rw [Nat.zero_add] at e1 e2
  refine va_putN (host := host) (fs := fs.map (ne_v ad)) (v := ne_v ad v) X.1.1 X.1.2.1 X.1.2.2.2.2 f3 ty0 g2 g3 X.1.2.2.2.1 X.2.1 h4 h5 h6 q0 e1 f1 k f2 ((X.2.2.2.2.2.2.2.1.2.2.2.2.2.1 _ f4).use rfl) (fun _ h => h) g4 g5 (hn ad) (hfit ad) (by rw [List.length_map]; exact hl) hdg (fun H1 locs1 hP hD hS => ?_)
  have e3 := e2 (.inr (ci, fs.set k v))
  rw [ne_setf] at e3
  rw [e3] at hP hD
  exact kk H1 locs1 cells slots ad ls h1 h2 h3 hP hD hS h7
theorem ne_putF {ix ci k q : Nat} {ty : FieldType} {fs : List Value} {v : Value} (X : ne_F cl D ct A p l R s m args meth c own cc nL Ts fr lo mc ms) (hdg : decode cc pc = .ok (.putfield ix, 3)) (hin : meth.name = "<init>") (hf : ne_fl cl own ix ci k Ts) (hp : ne_fp cl ci k ty true) (ho : ∃ r, cl[ci]? = some r ∧ own = r.1 ∧ (r.2.1 k).1 = r.1) (he : ws[q]? = some (some (.inr (ci, fs)))) (hn : ∀ ad, narrow ty (ne_v ad v) = ne_v ad v) (hfit : ∀ ad, fits ty (ne_v ad v) = true) (hl : k < fs.length) (kk : ne_G cl D ct A n0 ad0 p l e R s m args below meth c Q nL mc ms C S (pc + 3) L st (ws.set q (some (.inr (ci, fs.set k v))))) : ne_G cl D ct A n0 ad0 p l e R s m args below meth c Q nL mc ms C S pc L (v :: .ref q :: st) ws := fun H locs cells slots ad ls h1 h2 h3 h4 h5 h6 h7 => by
  obtain ⟨C', T, N, f1, f2, f3, f4⟩ := hf
  obtain ⟨C2, T2, N2, ty0, g1, g2, g3, g4, g5⟩ := hp
  obtain ⟨r, r1, r2, r3⟩ := ho
  cases f1.symm.trans g1
  cases f1.symm.trans r1
  obtain ⟨q0, e1, e2⟩ := ne_w_set (ct := ct) (ad := ad) (k := 0) he
  rw [Nat.zero_add] at e1 e2
  refine va_putF (fs := fs.map (ne_v ad)) (v := ne_v ad v) X.1.1 X.1.2.1 X.1.2.2.2.2 f3 ty0 g2 g3 X.1.2.2.2.1 X.2.1 h4 h5 h6 q0 e1 f1 k f2 (X.1.2.2.2.2 _ f4) (fun _ h => h) g4 hin (r3.trans r2.symm) g5 (hn ad) (hfit ad) (by rw [List.length_map]; exact hl) hdg (fun H1 locs1 hP hD hS => ?_)
  have e3 := e2 (.inr (ci, fs.set k v))
  rw [ne_setf] at e3
  rw [e3] at hP hD
  exact kk H1 locs1 cells slots ad ls h1 h2 h3 hP hD hS h7
/-! arrays -/
theorem ne_iald {q n : Nat} {f : Nat → Int} {i : Int} (X : ne_F cl D ct A p l R s m args meth c own cc nL Ts fr lo mc ms) (hdg : decode cc pc = .ok (.iaload, 1)) (he : ws[q]? = some (some (.inl (0, n, f)))) (hi : 0 ≤ i ∧ i < n ∧ i < 2147483648) (kk : ne_G cl D ct A n0 ad0 p l e R s m args below meth c Q nL mc ms C S (pc + 1) L (ni (f i.toNat) :: st) ws) : ne_G cl D ct A n0 ad0 p l e R s m args below meth c Q nL mc ms C S pc L (ni i :: .ref q :: st) ws := fun H locs cells slots ad ls h1 h2 h3 h4 h5 h6 h7 => by
  obtain ⟨q0, e1, -⟩ := ne_w_set (ct := ct) (ad := ad) (k := 0) he
  rw [Nat.zero_add] at e1
  obtain ⟨a1, a2⟩ := ne_in hi.1 hi.2.1 hi.2.2
  have k9 := kk H locs cells slots ad ls h1 h2 h3 h4 h5 h6 h7
  rw [← a2] at k9
  exact va_iald X.1.1 X.1.2.1 X.2.1 h4 q0 0 e1 rfl a1 hdg k9
theorem ne_bald {q n : Nat} {f : Nat → Int} {i : Int} (X : ne_F cl D ct A p l R s m args meth c own cc nL Ts fr lo mc ms) (hdg : decode cc pc = .ok (.baload, 1)) (he : ws[q]? = some (some (.inl (1, n, f)))) (hi : 0 ≤ i ∧ i < n ∧ i < 2147483648) (kk : ne_G cl D ct A n0 ad0 p l e R s m args below meth c Q nL mc ms C S (pc + 1) L (ni (f i.toNat) :: st) ws) : ne_G cl D ct A n0 ad0 p l e R s m args below meth c Q nL mc ms C S pc L (ni i :: .ref q :: st) ws := fun H locs cells slots ad ls h1 h2 h3 h4 h5 h6 h7 => by
  obtain ⟨q0, e1, -⟩ := ne_w_set (ct := ct) (ad := ad) (k := 0) he
  rw [Nat.zero_add] at e1
  obtain ⟨a1, a2⟩ := ne_in hi.1 hi.2.1 hi.2.2
  have k9 := kk H locs cells slots ad ls h1 h2 h3 h4 h5 h6 h7
  rw [← a2] at k9
  exact va_bald X.1.1 X.1.2.1 X.2.1 h4 q0 1 e1 rfl a1 hdg k9
theorem ne_iast {q n : Nat} {f : Nat → Int} {i z : Int} (X : ne_F cl D ct A p l R s m args meth c own cc nL Ts fr lo mc ms) (hdg : decode cc pc = .ok (.iastore, 1)) (he : ws[q]? = some (some (.inl (0, n, f)))) (hi : 0 ≤ i ∧ i < n ∧ i < 2147483648) (kk : ne_G cl D ct A n0 ad0 p l e R s m args below meth c Q nL mc ms C S (pc + 1) L st (ws.set q (some (.inl (0, n, va_up f i.toNat z))))) : ne_G cl D ct A n0 ad0 p l e R s m args below meth c Q nL mc ms C S pc L (ni z :: ni i :: .ref q :: st) ws := fun H locs cells slots ad ls h1 h2 h3 h4 h5 h6 h7 => by
  obtain ⟨q0, e1, e2⟩ := ne_w_set (ct := ct) (ad := ad) (k := 0) he
  rw [Nat.zero_add] at e1 e2
  obtain ⟨a1, a2⟩ := ne_in hi.1 hi.2.1 hi.2.2
  refine va_iast X.1.1 X.1.2.1 X.2.1 h4 h5 h6 q0 0 e1 rfl a1 hdg (fun H1 locs1 hP hD hS => ?_)
  have e3 := e2 (.inl (0, n, va_up f i.toNat z))
  have e4 : ne_c ct ad (.inl (0, n, va_up f i.toNat z)) = .inl (ct 0, n, .inl (upd (fun j => Int32.ofInt (f j)) (Int32.ofInt i).toNatClampNeg (Int32.ofInt z))) := by rw [a2, ne_upd]; rfl
  rw [e4] at e3
  rw [e3] at hP hD
  exact kk H1 locs1 cells slots ad ls h1 h2 h3 hP hD hS h7
theorem ne_nar {z : Int} (hz : -128 ≤ z ∧ z < 128) : vp_nar .byte (Int32.ofInt z) = Int32.ofInt z := by
  have h1 : (Int32.ofInt z).toInt = z := ne_toI (by omega) (by omega)
  have h2 : (Int32.ofInt z).toInt8.toInt32 = Int32.ofInt z := by
    apply Int32.toInt_inj.mp
    rw [Int8.toInt_toInt32, Int32.toInt_toInt8, h1]
    exact Int.bmod_eq_of_le (by omega) (by omega)
  first
    | (show (Int32.ofInt z).toInt8.toInt32 = Int32.ofInt z; exact h2)
    | (simp only [vp_nar, narrow]; exact h2)
    | (simp [vp_nar, narrow, h2])
theorem ne_bast {q n : Nat} {f : Nat → Int} {i z : Int} (X : ne_F cl D ct A p l R s m args meth c own cc nL Ts fr lo mc ms) (hdg : decode cc pc = .ok (.bastore, 1)) (he : ws[q]? = some (some (.inl (1, n, f)))) (hi : 0 ≤ i ∧ i < n ∧ i < 2147483648) (hz : -128 ≤ z ∧ z < 128) (kk : ne_G cl D ct A n0 ad0 p l e R s m args below meth c Q nL mc ms C S (pc + 1) L st (ws.set q (some (.inl (1, n, va_up f i.toNat z))))) : ne_G cl D ct A n0 ad0 p l e R s m args below meth c Q nL mc ms C S pc L (ni z :: ni i :: .ref q :: st) ws := fun H locs cells slots ad ls h1 h2 h3 h4 h5 h6 h7 => by
  obtain ⟨q0, e1, e2⟩ := ne_w_set (ct := ct) (ad := ad) (k := 0) he
  rw [Nat.zero_add] at e1 e2
  obtain ⟨a1, a2⟩ := ne_in hi.1 hi.2.1 hi.2.2
  refine va_bast X.1.1 X.1.2.1 X.2.1 h4 h5 h6 q0 1 e1 rfl a1 hdg (fun H1 locs1 hP hD hS => ?_)
  have e3 := e2 (.inl (1, n, va_up f i.toNat z))
  have e4 : ne_c ct ad (.inl (1, n, va_up f i.toNat z)) = .inl (ct 1, n, .inl (upd (fun j => Int32.ofInt (f j)) (Int32.ofInt i).toNatClampNeg (vp_nar .byte (Int32.ofInt z)))) := by rw [a2, ne_nar hz, ne_upd]; rfl
  rw [e4] at e3
  rw [e3] at hP hD
  exact kk H1 locs1 cells slots ad ls h1 h2 h3 hP hD hS h7
theorem ne_alen {q t n : Nat} {f : Nat → Int} (X : ne_F cl D ct A p l R s m args meth c own cc nL Ts fr lo mc ms) (hdg : decode cc pc = .ok (.arraylength, 1)) (he : ws[q]? = some (some (.inl (t, n, f)))) (ht : t < 2) (kk : ne_G cl D ct A n0 ad0 p l e R s m args below meth c Q nL mc ms C S (pc + 1) L (ni (n : Int) :: st) ws) : ne_G cl D ct A n0 ad0 p l e R s m args below meth c Q nL mc ms C S pc L (.ref q :: st) ws := fun H locs cells slots ad ls h1 h2 h3 h4 h5 h6 h7 => by
  obtain ⟨q0, e1, -⟩ := ne_w_set (ct := ct) (ad := ad) (k := 0) he
  rw [Nat.zero_add] at e1
  have ht2 : ∃ ty, (ne_ty ct)[t]? = some (ct t, ty) := by
    rcases (show t = 0 ∨ t = 1 by omega) with rfl | rfl
    · exact ⟨_, rfl⟩
    · exact ⟨_, rfl⟩
  obtain ⟨ty, ht3⟩ := ht2
  exact va_alen (v := Int32.ofInt (n : Int)) X.1.1 X.1.2.1 X.2.1 h4 q0 t e1 ht3 (Int32.ofInt_eq_ofNat).symm hdg (kk H locs cells slots ad ls h1 h2 h3 h4 h5 h6 h7)
/-! what is new -/
theorem ne_lt {ad : Nat → Nat} {H : Heap} (h : va_P D cl (ne_w ct ad 0 ws) H) {q : Nat × va_E} (hq : q ∈ ne_w ct ad 0 ws) : q.1 < H.size := by
  obtain ⟨k, hk⟩ := List.getElem?_of_mem hq
  exact (h k q hk).lt
/-- the view after a new cell -/
theorem ne_push {H H1 : Heap} {locs : List Loc} {ad : Nat → Nat} {ls : Array Slot} {e9 : ne_E} (hA : ∀ q, s.heap.size ≤ q → A q) (hn0 : n0 ≤ ws.length) (h1 : ∀ k, k < n0 → ad k = ad0 k) (h4 : va_P D cl (ne_w ct ad 0 ws) H) (h5 : va_D A (ne_w ct ad 0 ws)) (h6 : va_S A s.heap H locs) (h7 : lv_has ls nL (ne_l ad 0 L)) (hw : ne_cw ws.length ws = true) (hl : ne_cl ws.length L = true) (hz : H1.size = H.size + 1) (ho : ∀ q, q < H.size → H1[q]? = H[q]?) (hat : va_at D cl (H.size, ne_c ct (ne_up ad ws.length H.size) e9) H1) :
    (∀ k, k < n0 → ne_up ad ws.length H.size k = ad0 k) ∧ va_P D cl (ne_w ct (ne_up ad ws.length H.size) 0 (ws ++ [some e9])) H1 ∧ va_D A (ne_w ct (ne_up ad ws.length H.size) 0 (ws ++ [some e9])) ∧ va_S A s.heap H1 locs ∧ lv_has ls nL (ne_l (ne_up ad ws.length H.size) 0 L) := by
  have hag : ∀ k, k < ws.length → ne_up ad ws.length H.size k = ad k := fun k hk => ne_up_lt hk
  have e1 : ne_w ct (ne_up ad ws.length H.size) 0 (ws ++ [some e9]) = ne_w ct ad 0 ws ++ [(H.size, ne_c ct (ne_up ad ws.length H.size) e9)] := by
    rw [ne_w_app, ne_w_eq hag hw (by omega), Nat.zero_add, ne_up_self]
  refine ⟨fun k hk => (hag k (by omega)).trans (h1 k hk), ?_, ?_, ?_, by rw [ne_l_eq hag hl]; exact h7⟩
  · rw [e1]
    refine va_P.app (h4.kept fun k q hk => ho _ (h4 k q hk).lt) (fun k q hk => ?_)
    have hq : q ∈ [(H.size, ne_c ct (ne_up ad ws.length H.size) e9)] := List.mem_of_getElem? hk
    rw [List.mem_singleton] at hq
    subst hq
    exact hat
  · rw [e1]
    exact h5.push h4 rfl (hA _ h6.1)
  · exact ⟨by have := h6.1; omega, fun q hq hq2 => (ho q (by have := h6.1; omega)).trans (h6.2.1 q hq hq2), h6.2.2⟩
theorem ne_newa {t : Nat} {atype : ArrayType} {z : Int} (X : ne_F cl D ct A p l R s m args meth c own cc nL Ts fr lo mc ms) (hdg : decode cc pc = .ok (.newarray atype, 2)) (ht : (t = 0 ∧ atype = .int) ∨ (t = 1 ∧ atype = .byte)) (harr : Cond.arrayClass (newarray.typeOf atype) ∈ Ts) (hz : 0 ≤ z ∧ z < 100000000) (hC : 1 ≤ C) (hS : z.toNat ≤ S) (hn0 : n0 ≤ ws.length) (hw : ne_cw ws.length ws = true) (hl : ne_cl ws.length L = true) (hs : ne_cs ws.length st = true) (kk : ne_G cl D ct A n0 ad0 p l e R s m args below meth c Q nL mc ms (C - 1) (S - z.toNat) (pc + 2) L (.ref ws.length :: st) (ws ++ [some (.inl (t, z.toNat, fun _ => 0))])) : ne_G cl D ct A n0 ad0 p l e R s m args below meth c Q nL mc ms C S pc L (ni z :: st) ws := fun H locs cells slots ad ls h1 h2 h3 h4 h5 h6 h7 => by
  have e1 : (Int32.ofInt z).toInt = z := ne_toI (by omega) (by omega)
  have e2 : (Int32.ofInt z).toNatClampNeg = z.toNat := by rw [Int32.toNatClampNeg, e1]
  have hlt : ¬ Int32.ofInt z < 0 := by rw [ne_z0, ne_ltI ⟨by omega, by omega⟩ ⟨by omega, by omega⟩]; omega
  have hcb : z.toNat * componentBytes (newarray.typeOf atype) ≤ 536870912 := by
    rcases ht with ⟨-, rfl⟩ | ⟨-, rfl⟩
    · show z.toNat * 4 ≤ _; omega
    · show z.toNat * 1 ≤ _; omega
  refine va_newaK X.1.1 X.1.2.1 (X.1.2.2.2.2 _ harr) (g := F0 m pc ls (ni z :: st.map (ne_v ad))) rfl hdg rfl hlt e2 hcb (Nat.le_trans (by omega) X.2.2.2.2.2.1) (Nat.le_trans (by omega) X.2.2.2.2.2.2.1) rfl (fun H1 cA b1 b2 b3 b4 b5 => ?_)
  have hcA : cA = ct t := by
    rcases ht with ⟨rfl, rfl⟩ | ⟨rfl, rfl⟩
    · have h9 := (X.2.1.2 0 (ct 0, .int) rfl).2
      exact Option.some.inj (b5.symm.trans h9)
    · have h9 := (X.2.1.2 1 (ct 1, .byte) rfl).2
      exact Option.some.inj (b5.symm.trans h9)
  subst hcA
  obtain ⟨c1, c2, c3, c4, c5⟩ := ne_push (e9 := .inl (t, z.toNat, fun _ => 0)) X.2.2.1 hn0 h1 h4 h5 h6 h7 hw hl b2 b3 (by
    show H1[H.size]? = some (vp_cell (ct t) (z.toNat, .inl (fun _ => Int32.ofInt 0)))
    rw [b1]
    rcases ht with ⟨rfl, rfl⟩ | ⟨rfl, rfl⟩
    · rfl
    · rfl)
  have k9 := kk H1 locs (cells + 1) (slots + z.toNat) _ ls c1 (by omega) (by omega) c2 c3 c4 c5
  have e3 : List.map (ne_v (ne_up ad ws.length H.size)) (.ref ws.length :: st) = .ref H.size :: st.map (ne_v ad) := by
    rw [List.map_cons, ne_s_eq (fun k hk => ne_up_lt hk) hs]
    simp only [ne_v, ne_up_self]
  rw [e3] at k9
  exact k9
def ne_nl (cl : List vw_C) (own : String) (ix ci N : Nat) (fs : List Value) (Ts : List Cond) : Prop := ∃ (C : String) (T : u_T) (ty0 : Nat → FieldType), cl[ci]? = some (C, T, N) ∧ (∀ w ∈ u_ws C T N, w ∈ Ts) ∧ (∀ k, k < N → parseFieldDescriptor (T k).2.2.1 = some (ty0 k)) ∧ (∀ j, j < N → defaultValue (ty0 j) = vp_V fs j) ∧ Cond.classLink own ix C ∈ Ts ∧ Cond.instantiable C N ∈ Ts ∧ Cond.initialized C ∈ Ts ∧ ∀ ad, fs.map (ne_v ad) = fs
theorem ne_new {ix ci N : Nat} {fs : List Value} (X : ne_F cl D ct A p l R s m args meth c own cc nL Ts fr lo mc ms) (hdg : decode cc pc = .ok (.new ix, 3)) (hk : ne_nl cl own ix ci N fs Ts) (hC : 1 ≤ C) (hS : N ≤ S) (hn0 : n0 ≤ ws.length) (hw : ne_cw ws.length ws = true) (hl : ne_cl ws.length L = true) (hs : ne_cs ws.length st = true) (kk : ne_G cl D ct A n0 ad0 p l e R s m args below meth c Q nL mc ms (C - 1) (S - N) (pc + 3) L (.ref ws.length :: st) (ws ++ [some (.inr (ci, fs))])) : ne_G cl D ct A n0 ad0 p l e R s m args below meth c Q nL mc ms C S pc L st ws := fun H locs cells slots ad ls h1 h2 h3 h4 h5 h6 h7 => by
  obtain ⟨C', T, ty0, f1, f2, f3, f4, f5, f6, f7, f8⟩ := hk
  refine va_new (ci := ci) (fs := fs) X.1.1 X.1.2.1 X.1.2.2.2.2 f2 ty0 f3 X.1.2.2.2.1 (X.1.2.2.2.2 _ f5) (X.1.2.2.2.2 _ f6) (X.1.2.2.2.2 _ f7) X.2.1 h4 h5 h6 X.2.2.1 f1 f4 (Nat.le_trans (by omega) X.2.2.2.2.2.1) (Nat.le_trans (by omega) X.2.2.2.2.2.2.1) hdg (fun q H1 hP hD hS9 => ?_)
  have hag : ∀ k, k < ws.length → ne_up ad ws.length q k = ad k := fun k hk => ne_up_lt hk
  have e1 : ne_w ct (ne_up ad ws.length q) 0 (ws ++ [some (.inr (ci, fs))]) = ne_w ct ad 0 ws ++ [(q, .inr (ci, fs))] := by
    rw [ne_w_app, ne_w_eq hag hw (by omega), Nat.zero_add, ne_up_self]
    simp only [ne_c, f8]
  rw [← e1] at hP hD
  have k9 := kk H1 locs (cells + 1) (slots + N) _ ls (fun k hk => (hag k (by omega)).trans (h1 k hk)) (by omega) (by omega) hP hD hS9 (by rw [ne_l_eq hag hl]; exact h7)
  have e3 : List.map (ne_v (ne_up ad ws.length q)) (.ref ws.length :: st) = .ref q :: st.map (ne_v ad) := by
    rw [List.map_cons, ne_s_eq hag hs]
    simp only [ne_v, ne_up_self]
  rw [e3] at k9
  exact k9
/-- a constant text: a place without a cell -/
theorem ne_ldcS {ix : Nat} {tx : String} (X : ne_F cl D ct A p l R s m args meth c own cc nL Ts fr lo mc ms) (hdg : decode cc pc = .ok (.ldc ix, 2)) (hk : (own, ix, tx) ∈ ne_sl) (hn0 : n0 ≤ ws.length) (hw : ne_cw ws.length ws = true) (hl : ne_cl ws.length L = true) (hs : ne_cs ws.length st = true) (kk : ne_G cl D ct A n0 ad0 p l e R s m args below meth c Q nL mc ms C S (pc + 2) L (.ref ws.length :: st) (ws ++ [none])) : ne_G cl D ct A n0 ad0 p l e R s m args below meth c Q nL mc ms C S pc L st ws := fun H locs cells slots ad ls h1 h2 h3 h4 h5 h6 h7 => by
  obtain ⟨a, ha⟩ := X.2.2.2.2.2.2.2.1.2.2.2.1 _ hk
  have hag : ∀ k, k < ws.length → ne_up ad ws.length a k = ad k := fun k hk => ne_up_lt hk
  refine va_ldcS X.1.1 X.1.2.1 X.1.2.2.2.1 ha hdg ?_
  have k9 := kk H locs cells slots (ne_up ad ws.length a) ls (fun k hk => (hag k (by omega)).trans (h1 k hk)) h2 h3 (by rw [ne_w_appN, ne_w_eq hag hw (by omega)]; exact h4) (by rw [ne_w_appN, ne_w_eq hag hw (by omega)]; exact h5) h6 (by rw [ne_l_eq hag hl]; exact h7)
  have e3 : List.map (ne_v (ne_up ad ws.length a)) (.ref ws.length :: st) = .ref a :: st.map (ne_v ad) := by
    rw [List.map_cons, ne_s_eq hag hs]
    simp only [ne_v, ne_up_self]
  rw [e3] at k9
  exact k9
/-- String's static COMPACT_STRINGS: 1 -/
theorem ne_compact {ix : Nat} (X : ne_F cl D ct A p l R s m args meth c own cc nL Ts fr lo mc ms) (hdg : decode cc pc = .ok (.getstatic ix, 3)) (hlk : Cond.fieldLink own ix "java/lang/String" "COMPACT_STRINGS" "Z" ∈ Ts) (kk : ne_G cl D ct A n0 ad0 p l e R s m args below meth c Q nL mc ms C S (pc + 3) L (ni 1 :: st) ws) : ne_G cl D ct A n0 ad0 p l e R s m args below meth c Q nL mc ms C S pc L st ws := fun H locs cells slots ad ls h1 h2 h3 h4 h5 h6 h7 =>
  va_gets X.1.1 X.1.2.1 X.2.2.2.2.2.2.2.1.2.2.1 h6 X.1.2.2.2.1 (X.1.2.2.2.2 _ hlk) (fun _ h => h) hdg (kk H locs cells slots ad ls h1 h2 h3 h4 h5 h6 h7)
theorem ne_objInit {ix q : Nat} (X : ne_F cl D ct A p l R s m args meth c own cc nL Ts fr lo mc ms) (hdg : decode cc pc = .ok (.invokespecial ix, 3)) (hw1 : Cond.methodLink own ix Lib.objectInit ∈ Ts) (hw2 : Cond.instanceMethod Lib.objectInit ∈ Ts) (hw3 : Cond.code Lib.objectInit ⟨#[0xb1]⟩ 1 none ∈ Ts) (hfr : 1 ≤ fr) (hlo : (st.map fun v => v.category).sum + 12 ≤ lo) (kk : ne_G cl D ct A n0 ad0 p l e R s m args below meth c Q nL mc ms C S (pc + 3) L st ws) : ne_G cl D ct A n0 ad0 p l e R s m args below meth c Q nL mc ms C S pc L (.ref q :: st) ws := fun H locs cells slots ad ls h1 h2 h3 h4 h5 h6 h7 => by
  have hcat : ((st.map (ne_v ad)).map fun v => v.category).sum = (st.map fun v => v.category).sum := by
    rw [List.map_map]; congr 1; exact List.map_congr_left fun v _ => ne_v_cat ad v
  exact W.objInit X.1.1 X.1.2.1 X.1.2.2.2.1 (X.1.2.2.2.2 _ hw1) (X.1.2.2.2.2 _ hw2) (X.1.2.2.2.2 _ hw3) (g := F0 m pc ls (.ref (ad q) :: st.map (ne_v ad))) rfl (by rw [X.1.2.2.1]; exact h7.1) rfl hdg (Nat.le_trans hfr X.2.2.2.1) (by show 2 * 0 + _ + 12 ≤ _; rw [hcat]; have := X.2.2.2.2.1; omega) (kk H locs cells slots ad ls h1 h2 h3 h4 h5 h6 h7)
theorem ne_mcat {ad : Nat → Nat} : ((st.map (ne_v ad)).map fun v => v.category).sum = (st.map fun v => v.category).sum := by
  rw [List.map_map]; congr 1; exact List.map_congr_left fun v _ => ne_v_cat ad v

theorem ne_mmax {ix : Nat} {x y : Int} (X : ne_F cl D ct A p l R s m args meth c own cc nL Ts fr lo mc ms) (hdg : decode cc pc = .ok (.invokestatic ix, 3)) (hw1 : Cond.methodLink own ix Lib.Math.max.name ∈ Ts) (hw2 : Cond.static Lib.Math.max.name ∈ Ts) (hw3 : Cond.initialized "java/lang/Math" ∈ Ts) (hw4 : Cond.code Lib.Math.max.name Lib.Math.max.code 2 (some .int) ∈ Ts) (hfr : 1 ≤ fr) (hlo : (st.map fun v => v.category).sum + 13 ≤ lo) (hx : -2147483648 ≤ x ∧ x < 2147483648) (hy : -2147483648 ≤ y ∧ y < 2147483648) (kk : ne_G cl D ct A n0 ad0 p l e R s m args below meth c Q nL mc ms C S (pc + 3) L (ni (if x < y then y else x) :: st) ws) : ne_G cl D ct A n0 ad0 p l e R s m args below meth c Q nL mc ms C S pc L (ni y :: ni x :: st) ws := fun H locs cells slots ad ls h1 h2 h3 h4 h5 h6 h7 => by
  have k9 := kk H locs cells slots ad ls h1 h2 h3 h4 h5 h6 h7
  refine va_mmax X.1.1 X.1.2.1 (by rw [X.1.2.2.1]; exact h7.1.symm) X.1.2.2.2.1 (X.1.2.2.2.2 _ hw1) (X.1.2.2.2.2 _ hw2) (X.1.2.2.2.2 _ hw3) (X.1.2.2.2.2 _ hw4) (Nat.le_trans hfr X.2.2.2.1) (by rw [ne_mcat]; have := X.2.2.2.2.1; omega) (Nat.le_trans (by omega) X.2.2.2.2.2.1) (Nat.le_trans (by omega) X.2.2.2.2.2.2.1) hdg ?_
  by_cases hh : x < y
  · rw [if_pos ((ne_ltI hx hy).mpr hh)]; rw [if_pos hh] at k9; exact k9
  · rw [if_neg (fun q => hh ((ne_ltI hx hy).mp q))]; rw [if_neg hh] at k9; exact k9
theorem ne_mmin {ix : Nat} {x y : Int} (X : ne_F cl D ct A p l R s m args meth c own cc nL Ts fr lo mc ms) (hdg : decode cc pc = .ok (.invokestatic ix, 3)) (hw1 : Cond.methodLink own ix Lib.Math.min.name ∈ Ts) (hw2 : Cond.static Lib.Math.min.name ∈ Ts) (hw3 : Cond.initialized "java/lang/Math" ∈ Ts) (hw4 : Cond.code Lib.Math.min.name Lib.Math.min.code 2 (some .int) ∈ Ts) (hfr : 1 ≤ fr) (hlo : (st.map fun v => v.category).sum + 13 ≤ lo) (hx : -2147483648 ≤ x ∧ x < 2147483648) (hy : -2147483648 ≤ y ∧ y < 2147483648) (kk : ne_G cl D ct A n0 ad0 p l e R s m args below meth c Q nL mc ms C S (pc + 3) L (ni (if y < x then y else x) :: st) ws) : ne_G cl D ct A n0 ad0 p l e R s m args below meth c Q nL mc ms C S pc L (ni y :: ni x :: st) ws := fun H locs cells slots ad ls h1 h2 h3 h4 h5 h6 h7 => by
  have k9 := kk H locs cells slots ad ls h1 h2 h3 h4 h5 h6 h7
  refine va_mmin X.1.1 X.1.2.1 (by rw [X.1.2.2.1]; exact h7.1.symm) X.1.2.2.2.1 (X.1.2.2.2.2 _ hw1) (X.1.2.2.2.2 _ hw2) (X.1.2.2.2.2 _ hw3) (X.1.2.2.2.2 _ hw4) (Nat.le_trans hfr X.2.2.2.1) (by rw [ne_mcat]; have := X.2.2.2.2.1; omega) (Nat.le_trans (by omega) X.2.2.2.2.2.1) (Nat.le_trans (by omega) X.2.2.2.2.2.2.1) hdg ?_
  by_cases hh : y < x
  · rw [if_pos ((ne_ltI hy hx).mpr hh)]; rw [if_pos hh] at k9; exact k9
  · rw [if_neg (fun q => hh ((ne_ltI hy hx).mp q))]; rw [if_neg hh] at k9; exact k9
theorem ne_mabs {ix : Nat} {x : Int} (X : ne_F cl D ct A p l R s m args meth c own cc nL Ts fr lo mc ms) (hdg : decode cc pc = .ok (.invokestatic ix, 3)) (hw1 : Cond.methodLink own ix Lib.Math.abs.name ∈ Ts) (hw2 : Cond.static Lib.Math.abs.name ∈ Ts) (hw3 : Cond.initialized "java/lang/Math" ∈ Ts) (hw4 : Cond.code Lib.Math.abs.name Lib.Math.abs.code 1 (some .int) ∈ Ts) (hfr : 1 ≤ fr) (hlo : (st.map fun v => v.category).sum + 13 ≤ lo) (hx : -2147483648 ≤ x ∧ x < 2147483648) (kk : ne_G cl D ct A n0 ad0 p l e R s m args below meth c Q nL mc ms C S (pc + 3) L (ni (if 0 ≤ x then x else -x) :: st) ws) : ne_G cl D ct A n0 ad0 p l e R s m args below meth c Q nL mc ms C S pc L (ni x :: st) ws := fun H locs cells slots ad ls h1 h2 h3 h4 h5 h6 h7 => by
  have k9 := kk H locs cells slots ad ls h1 h2 h3 h4 h5 h6 h7
  refine va_mabs X.1.1 X.1.2.1 (by rw [X.1.2.2.1]; exact h7.1.symm) X.1.2.2.2.1 (X.1.2.2.2.2 _ hw1) (X.1.2.2.2.2 _ hw2) (X.1.2.2.2.2 _ hw3) (X.1.2.2.2.2 _ hw4) (Nat.le_trans hfr X.2.2.2.1) (by rw [ne_mcat]; have := X.2.2.2.2.1; omega) (Nat.le_trans (by omega) X.2.2.2.2.2.1) (Nat.le_trans (by omega) X.2.2.2.2.2.2.1) hdg ?_
  by_cases hh : 0 ≤ x
  · rw [if_pos (by rw [ne_z0]; exact (ne_leI (by omega) hx).mpr hh)]; rw [if_pos hh] at k9; exact k9
  · rw [if_neg (fun q => hh ((ne_leI (by omega) hx).mp (by rw [ne_z0] at q; exact q)))]; rw [if_neg hh] at k9
    rw [ne_z0, ← Int32.ofInt_sub, show (0 : Int) - x = -x by omega]; exact k9
theorem ne_mabsl {ix : Nat} {x : Int} (X : ne_F cl D ct A p l R s m args meth c own cc nL Ts fr lo mc ms) (hdg : decode cc pc = .ok (.invokestatic ix, 3)) (hw1 : Cond.methodLink own ix Lib.MathLoose.abs_long.x ∈ Ts) (hw2 : Cond.static Lib.MathLoose.abs_long.x ∈ Ts) (hw3 : Cond.initialized "java/lang/Math" ∈ Ts) (hw4 : Cond.code Lib.MathLoose.abs_long.x Lib.MathLoose.abs_long.code 2 (some .long) ∈ Ts) (hfr : 1 ≤ fr) (hlo : (st.map fun v => v.category).sum + 13 ≤ lo) (hx : -9223372036854775808 ≤ x ∧ x < 9223372036854775808) (kk : ne_G cl D ct A n0 ad0 p l e R s m args below meth c Q nL mc ms C S (pc + 3) L (nl (if 0 < x then x else -x) :: st) ws) : ne_G cl D ct A n0 ad0 p l e R s m args below meth c Q nL mc ms C S pc L (nl x :: st) ws := fun H locs cells slots ad ls h1 h2 h3 h4 h5 h6 h7 => by
  have k9 := kk H locs cells slots ad ls h1 h2 h3 h4 h5 h6 h7
  refine va_mabs_long X.1.1 X.1.2.1 (by rw [X.1.2.2.1]; exact h7.1.symm) X.1.2.2.2.1 (X.1.2.2.2.2 _ hw1) (X.1.2.2.2.2 _ hw2) (X.1.2.2.2.2 _ hw3) (X.1.2.2.2.2 _ hw4) (Nat.le_trans hfr X.2.2.2.1) (by rw [ne_mcat]; have := X.2.2.2.2.1; omega) (Nat.le_trans (by omega) X.2.2.2.2.2.1) (Nat.le_trans (by omega) X.2.2.2.2.2.2.1) hdg ?_
  have z0 : (0 : Int64) = Int64.ofInt 0 := rfl
  by_cases hh : 0 < x
  · rw [if_pos (by rw [z0]; exact (ne_ltL (by omega) hx).mpr hh)]; rw [if_pos hh] at k9; exact k9
  · rw [if_neg (fun q => hh ((ne_ltL (by omega) hx).mp (by rw [z0] at q; exact q)))]; rw [if_neg hh] at k9
    rw [← Int64.ofInt_neg]; exact k9
/-! ## contracts -/
def ne_Q (cl : List vw_C) (D : va_G) (ct : Nat → ClassId) (ad0 : Nat → Nat) (n0 : Nat) (A : Nat → Prop) (post : Option Value → ne_W → Prop) : Array Value → State → Outcome → State → Prop := fun _ st oc t => ∃ (v : Option Value) (ws : ne_W) (ad : Nat → Nat), oc = .returned (v.map (ne_v ad)) ∧ post v ws ∧ (∀ k, k < n0 → ad k = ad0 k) ∧ va_P D cl (ne_w ct ad 0 ws) t.heap ∧ va_D A (ne_w ct ad 0 ws) ∧ va_F A st t
def ne_XC (cl : List vw_C) (D : va_G) (ct : Nat → ClassId) (ad0 : Nat → Nat) (n0 : Nat) (A : Nat → Prop) (px : String → ne_W → Prop) : String → State → State → Prop := fun E st t => ∃ (ws : ne_W) (ad : Nat → Nat), px E ws ∧ (∀ k, k < n0 → ad k = ad0 k) ∧ va_P D cl (ne_w ct ad 0 ws) t.heap ∧ va_D A (ne_w ct ad 0 ws) ∧ va_F A st t
/-- what a method does with these arguments in this world: fr frames, lo words of locals, mc cells, ms slots are enough -/
def ne_M (l : Launch) (cl : List vw_C) (cw : Cond) (Ts : List Cond) (y : MethodName) (fr lo mc ms : Nat) (as : List Value) (ws : ne_W) (post : Option Value → ne_W → Prop) (px : String → ne_W → Prop) : Prop :=
  ∀ (D : va_G) (ct : Nat → ClassId) (ad : Nat → Nat) (sz : Nat), vx_Met l y (cw :: Ts) { frames := fr, cells := mc, slots := ms, locals := lo }
    (va_Pc (as.map (ne_v ad)) (fun U => U.heap.size = sz ∧ va_P D cl (ne_w ct ad 0 ws) U.heap ∧ va_K D cl (ne_ty ct) U ∧ va_D (fun _ => True) (ne_w ct ad 0 ws) ∧ ne_Z (va_A (ne_w ct ad 0 ws) sz) U U.heap))
    (ne_Q cl D ct ad ws.length (va_A (ne_w ct ad 0 ws) sz) post) (ne_XC cl D ct ad ws.length (va_A (ne_w ct ad 0 ws) sz) px) mc ms (va_A (ne_w ct ad 0 ws) sz)
/-- what a frame without handlers owes -/
abbrev ne_O (cl : List vw_C) (D : va_G) (ct : Nat → ClassId) (ad0 : Nat → Nat) (n0 : Nat) (A : Nat → Prop) (below : List Frame) (args : Array Value) (s : State) (mc ms : Nat) (post : Option Value → ne_W → Prop) (px : String → ne_W → Prop) : State → Prop := vx_MQ below (ne_Q cl D ct ad0 n0 A post) (ne_XC cl D ct ad0 n0 A px) args s mc ms A
/-- a frame over which something of class E was thrown -/
def ne_T (cl : List vw_C) (D : va_G) (ct : Nat → ClassId) (A : Nat → Prop) (n0 : Nat) (ad0 : Nat → Nat) (p : Program) (l : Launch) (e : Env) (R : Room) (s : State) (m : MethodId) (args : Array Value) (below : List Frame) (meth : Method) (c : Code) (Q : State → Prop) (nL mc ms C S pc : Nat) (L : List (Option Value)) (E : String) (ws : ne_W) : Prop :=
  ∀ (H : Heap) (locs : List Loc) (cells slots : Nat) (ad : Nat → Nat) (ls : Array Slot) (rest : List Value) (q : Addr) (ce : Cell), (∀ k, k < n0 → ad k = ad0 k) → cells + C ≤ mc → slots + S ≤ ms → va_P D cl (ne_w ct ad 0 ws) H → va_D A (ne_w ct ad 0 ws) → va_S A s.heap H locs → lv_has ls nL (ne_l ad 0 L) → H[q]? = some ce → ce.vm = .none → s.vm.findClass E = some ce.cls → vx_W p l e R s m args below meth c H locs cells slots Q (F0 m pc ls rest) q
theorem ne_blind {av : List Value} {D : va_G} {tys : List (ClassId × FieldType)} {W0 : va_W} {sz : Nat} {A9 : Nat → Prop} : FrameBlind (va_Pc av (fun U => U.heap.size = sz ∧ va_P D cl W0 U.heap ∧ va_K D cl tys U ∧ va_D (fun _ => True) W0 ∧ ne_Z A9 U U.heap)) := by
  intro a U g mk q
  obtain ⟨q0, q1, q2, q3, q4, q5⟩ := q
  exact ⟨q0, q1, q2, va_K.moved (u := U) (U := U.calling g mk a) (Vm.Alike.refl U.vm) q3, q4, ne_Z.same (u := U) (U := U.calling g mk a) rfl q5⟩
theorem ne_pre {H : Heap} {locs : List Loc} {ad : Nat → Nat} {ls : Array Slot} {av : List Value} (X : ne_F cl D ct A p l R s m args meth c own cc nL Ts fr lo mc ms) (h4 : va_P D cl (ne_w ct ad 0 ws) H) (h5 : va_D A (ne_w ct ad 0 ws)) (h6 : va_S A s.heap H locs) : PreS s H (va_Pc av (fun U => U.heap.size = H.size ∧ va_P D cl (ne_w ct ad 0 ws) U.heap ∧ va_K D cl (ne_ty ct) U ∧ va_D (fun _ => True) (ne_w ct ad 0 ws) ∧ ne_Z (va_A (ne_w ct ad 0 ws) H.size) U U.heap)) av := by
  refine ⟨ne_blind, fun U hU hW => ⟨rfl, by rw [hU], by rw [hU]; exact h4, va_K.moved hW.alike X.2.1, h5.weaken (fun _ _ _ _ => trivial), ?_⟩⟩
  rw [hU]
  have hz : ne_Z A s H := ne_Z.kept X.2.2.2.2.2.2.2.1 (fun a ha hA => h6.2.1 a ha hA)
  refine (hz.narrow ?_).warm hW
  rintro q (⟨k, e, hk⟩ | hq)
  · exact h5.2 k _ hk
  · exact X.2.2.1 q (Nat.le_trans h6.1 hq)
/-- behind a call -/
theorem ne_after {H : Heap} {locs : List Loc} {cells slots mc1 ms1 : Nat} {ad : Nat → Nat} {ls : Array Slot} {st0 : List Value} {a9 : Array Value} {post : Option Value → ne_W → Prop} {px : String → ne_W → Prop} (X : ne_F cl D ct A p l R s m args meth c own cc nL Ts fr lo mc ms) (hr : vx_Run p l e R s m args below meth c H locs cells slots mc1 ms1 (F0 m pc ls st0) (st.map (ne_v ad)) (ne_Q cl D ct ad ws.length (va_A (ne_w ct ad 0 ws) H.size) post a9) (ne_XC cl D ct ad ws.length (va_A (ne_w ct ad 0 ws) H.size) px) (va_A (ne_w ct ad 0 ws) H.size))
    (h1 : ∀ k, k < n0 → ad k = ad0 k) (h2 : cells + C ≤ mc) (h3 : slots + S ≤ ms) (h5 : va_D A (ne_w ct ad 0 ws)) (h6 : va_S A s.heap H locs) (h7 : lv_has ls nL (ne_l ad 0 L)) (hC : mc1 ≤ C) (hS : ms1 ≤ S) (hn0 : n0 ≤ ws.length) (hl : ne_cl ws.length L = true) (hs : ne_cs ws.length st = true)
    (kk : ∀ (v : Option Value) (ws1 : ne_W), post v ws1 → ne_G cl D ct A n0 ad0 p l e R s m args below meth c Q nL mc ms (C - mc1) (S - ms1) (pc + 3) L (v.toList ++ st) ws1) (kx : ∀ (E : String) (ws1 : ne_W), px E ws1 → ne_T cl D ct A n0 ad0 p l e R s m args below meth c Q nL mc ms (C - mc1) (S - ms1) pc L E ws1) : W p l e R s m args below meth c H locs cells slots Q (F0 m pc ls st0) := by
  have hA1 : ∀ q, va_A (ne_w ct ad 0 ws) H.size q → A q := by
    rintro q (⟨k, e, hk⟩ | hq)
    · exact h5.2 k _ hk
    · exact X.2.2.1 q (Nat.le_trans h6.1 hq)
  intro T hT Y
  rcases hr T hT Y with ⟨v, st₀, t, T', L9, h0, Y', hL, e1, e2, ⟨v', ws1, ad1, hv, hp, hag, hP1, hD1, hF1⟩, stp⟩ | ⟨q, st₀, t, T', L9, E, ce, h0, Y', hL, e1, e2, ⟨ws1, ad1, hp, hag, hP1, hD1, hF1⟩, hce, hcv, hcl, stp⟩
  · have hv2 : v = v'.map (ne_v ad1) := by injection hv
    subst hv2
    obtain ⟨k1, k2, k3⟩ := vx_keep h0 e1 h6 (fun q _ h => hA1 q h) hA1 hL hF1
    obtain ⟨t2, a1, b1⟩ := kk v' ws1 hp T'.heap (locs ++ L9) (cells + mc1) (slots + ms1) ad1 ls (fun k hk => (hag k (by omega)).trans (h1 k hk)) (by omega) (by omega) (by rw [e1]; exact hP1) (hD1.weaken fun _ q _ h => hA1 _ h) k3 (by rw [ne_l_eq hag hl]; exact h7) T' rfl Y'
    have hst : (v'.toList ++ st).map (ne_v ad1) = (v'.map (ne_v ad1)).toList ++ st.map (ne_v ad) := by
      rw [List.map_append, ne_s_eq hag hs]
      cases v' <;> rfl
    rw [hst] at a1
    exact ⟨t2, stp t2 a1, b1⟩
  · obtain ⟨k1, k2, k3⟩ := vx_keep h0 e1 h6 (fun q _ h => hA1 q h) hA1 hL hF1
    obtain ⟨t2, a1, b1⟩ := kx E ws1 hp T'.heap (locs ++ L9) (cells + mc1) (slots + ms1) ad1 ls (st.map (ne_v ad)) q ce (fun k hk => (hag k (by omega)).trans (h1 k hk)) (by omega) (by omega) (by rw [e1]; exact hP1) (hD1.weaken fun _ q _ h => hA1 _ h) k3 (by rw [ne_l_eq hag hl]; exact h7) (by rw [e1]; exact hce) hcv hcl T' rfl Y'
    exact ⟨t2, stp.trans a1, b1⟩
theorem ne_gi {ws9 : List Cond} (hg : ∀ w ∈ Ts, goodWord w = true) (h : ∀ w ∈ ws9, w ∈ Ts) : GoodIn Ts ws9 := fun w hw => ⟨h w hw, good_of_word (hg w (h w hw))⟩
/-- what the tables say of a callee -/
def ne_cy (y : MethodName) (cw : Cond) (n : Nat) (Ts : List Cond) : Prop := cw ∈ Ts ∧ Cond.initialized y.cls ∈ Ts ∧ y.cls ≠ "java/lang/invoke/MethodHandle" ∧ y.cls ≠ "java/lang/invoke/VarHandle" ∧ (parseMethodDescriptor y.desc).map (fun d => d.parameters.length) = some n

theorem ne_callS {y : MethodName} {bytes : ByteArray} {maxL n ix fr1 lo1 mc1 ms1 : Nat} {ret : Option FieldType} {as st1 : List Value} {post : Option Value → ne_W → Prop} {px : String → ne_W → Prop} (X : ne_F cl D ct A p l R s m args meth c own cc nL Ts fr lo mc ms) (hg : ∀ w ∈ Ts, goodWord w = true) (hM : ne_M l cl (.code y bytes maxL ret) Ts y fr1 lo1 mc1 ms1 as ws post px) (hy : ne_cy y (.code y bytes maxL ret) n Ts) (hw1 : Cond.methodLink own ix y ∈ Ts) (hw2 : Cond.static y ∈ Ts) (hdg : decode cc pc = .ok (.invokestatic ix, 3)) (hst : st1 = as.reverse ++ st) (hlen : as.length = n) (hfr : fr1 + 1 ≤ fr) (hlo : 8 + (maxL + 11) + lo1 ≤ lo) (hC : mc1 ≤ C) (hS : ms1 ≤ S) (hn0 : n0 ≤ ws.length) (hl : ne_cl ws.length L = true) (hs : ne_cs ws.length st = true) (hcat : (st.map fun v => v.category).sum ≤ 8) (kk : ∀ (v : Option Value) (ws1 : ne_W), post v ws1 → ne_G cl D ct A n0 ad0 p l e R s m args below meth c Q nL mc ms (C - mc1) (S - ms1) (pc + 3) L (v.toList ++ st) ws1) (kx : ∀ (E : String) (ws1 : ne_W), px E ws1 → ne_T cl D ct A n0 ad0 p l e R s m args below meth c Q nL mc ms (C - mc1) (S - ms1) pc L E ws1) : ne_G cl D ct A n0 ad0 p l e R s m args below meth c Q nL mc ms C S pc L st1 ws := fun H locs cells slots ad ls h1 h2 h3 h4 h5 h6 h7 => by
  subst hst
  have e9 : (as.reverse ++ st).map (ne_v ad) = (as.map (ne_v ad)).reverse ++ st.map (ne_v ad) := by simp [List.map_append, List.map_reverse, ne_v]
  rw [e9]
  have cw := va_cwS (R := R) (s := s) (args := args) (own := own) (index := ix) (y := y) (bytes := bytes) (maxL := maxL) (mc := mc1) (ms := ms1) (ret := ret) (Ts := Ts) (ws := .code y bytes maxL ret :: Ts) (ws' := Ts) (rm := { frames := fr1, cells := mc1, slots := ms1, locals := lo1 }) n X.1.2.2.2.2 (ne_gi hg (fun w hw => by
    unfold va_wsS at hw
    simp only [List.cons_append, List.nil_append, List.mem_cons] at hw
    rcases hw with rfl | rfl | rfl | rfl | hw
    · exact hw1
    · exact hw2
    · exact hy.2.1
    · exact hy.1
    · exact hw)) rfl rfl rfl ⟨hy.2.2.1, hy.2.2.2.1, hy.2.2.2.2⟩ ⟨Nat.le_trans hfr X.2.2.2.1, Nat.le_trans hlo X.2.2.2.2.1⟩
  exact ne_after X (vx_runS (As := as.map (ne_v ad)) (rest := st.map (ne_v ad)) X.1 (hM D ct ad H.size) cw (ne_pre (ls := ls) X h4 h5 h6) rfl (by rw [List.length_map]; exact hlen) h7.1 rfl (by show 2 * 0 + _ ≤ 8; rw [ne_mcat]; omega) hdg ⟨by have := X.2.2.2.2.2.1; omega, by have := X.2.2.2.2.2.2.1; omega⟩) h1 h2 h3 h5 h6 h7 hC hS hn0 hl hs kk kx
theorem ne_callV {y : MethodName} {bytes : ByteArray} {maxL n ix fr1 lo1 mc1 ms1 : Nat} {ret : Option FieldType} {as st1 : List Value} {post : Option Value → ne_W → Prop} {px : String → ne_W → Prop} {q ci : Nat} {fs : List Value} {r : vw_C} (X : ne_F cl D ct A p l R s m args meth c own cc nL Ts fr lo mc ms) (hg : ∀ w ∈ Ts, goodWord w = true) (hM : ne_M l cl (.code y bytes maxL ret) Ts y fr1 lo1 mc1 ms1 (.ref q :: as) ws post px) (hy : ne_cy y (.code y bytes maxL ret) n Ts) (hw1 : Cond.methodLink own ix y ∈ Ts) (hw2 : Cond.instanceMethod y ∈ Ts) (hw3 : Cond.selects y.cls y y ∈ Ts) (hr : cl[ci]? = some r) (hrc : r.1 = y.cls) (he : ws[q]? = some (some (.inr (ci, fs)))) (hdg : decode cc pc = .ok (.invokevirtual ix, 3)) (hst : st1 = as.reverse ++ .ref q :: st) (hlen : as.length = n) (hfr : fr1 + 1 ≤ fr) (hlo : 8 + (maxL + 11) + lo1 ≤ lo) (hC : mc1 ≤ C) (hS : ms1 ≤ S) (hn0 : n0 ≤ ws.length) (hl : ne_cl ws.length L = true) (hs : ne_cs ws.length st = true) (hcat : (st.map fun v => v.category).sum ≤ 8) (kk : ∀ (v : Option Value) (ws1 : ne_W), post v ws1 → ne_G cl D ct A n0 ad0 p l e R s m args below meth c Q nL mc ms (C - mc1) (S - ms1) (pc + 3) L (v.toList ++ st) ws1) (kx : ∀ (E : String) (ws1 : ne_W), px E ws1 → ne_T cl D ct A n0 ad0 p l e R s m args below meth c Q nL mc ms (C - mc1) (S - ms1) pc L E ws1) : ne_G cl D ct A n0 ad0 p l e R s m args below meth c Q nL mc ms C S pc L st1 ws := fun H locs cells slots ad ls h1 h2 h3 h4 h5 h6 h7 => by
  subst hst
  have e9 : (as.reverse ++ .ref q :: st).map (ne_v ad) = (as.map (ne_v ad)).reverse ++ .ref (ad q) :: st.map (ne_v ad) := by simp [List.map_append, List.map_reverse, ne_v]
  rw [e9]
  obtain ⟨q0, e1, -⟩ := ne_w_set (ct := ct) (ad := ad) (k := 0) he
  rw [Nat.zero_add] at e1
  have rv := va_recv X.2.1 h4 hr e1
  rw [hrc] at rv
  have cw := cwV (R := R) (s := s) (args := args) (own := own) (C := y.cls) (index := ix) (y := y) (bytes := bytes) (maxL := maxL) (mc := mc1) (ms := ms1) (ret := ret) (Ts := Ts) (ws := .code y bytes maxL ret :: Ts) (ws' := Ts) (rm := { frames := fr1, cells := mc1, slots := ms1, locals := lo1 }) n X.1.2.2.2.2 (ne_gi hg (fun w hw => by
    unfold wsV at hw
    simp only [List.cons_append, List.nil_append, List.mem_cons] at hw
    rcases hw with rfl | rfl | rfl | rfl | rfl | hw
    · exact hw1
    · exact hw2
    · exact hw3
    · exact hy.2.1
    · exact hy.1
    · exact hw)) rfl rfl rfl ⟨rfl, hy.2.2.1, hy.2.2.2.1, hy.2.2.2.2⟩ ⟨Nat.le_trans hfr X.2.2.2.1, Nat.le_trans hlo X.2.2.2.2.1⟩
  have hp := ne_pre (ls := ls) (av := .ref (ad q) :: as.map (ne_v ad)) X h4 h5 h6
  exact ne_after X (vx_runV (As := as.map (ne_v ad)) (b := ad q) (rest := st.map (ne_v ad)) X.1 (hM D ct ad H.size) cw ⟨hp.1, rv, hp.2⟩ rfl (by rw [List.length_map]; exact hlen) h7.1 rfl (by show 2 * 0 + _ ≤ 8; rw [ne_mcat]; omega) hdg ⟨by have := X.2.2.2.2.2.1; omega, by have := X.2.2.2.2.2.2.1; omega⟩) h1 h2 h3 h5 h6 h7 hC hS hn0 hl hs kk kx
theorem ne_callVN {y : MethodName} {bytes : ByteArray} {maxL n ix fr1 lo1 mc1 ms1 : Nat} {ret : Option FieldType} {as st1 : List Value} {post : Option Value → ne_W → Prop} {px : String → ne_W → Prop} {q ci : Nat} {fs : List Value} {r : vw_C} {host : String} (X : ne_F cl D ct A p l R s m args meth c own cc nL Ts fr lo mc ms) (hg : ∀ w ∈ Ts, goodWord w = true) (hM : ne_M l cl (.code y bytes maxL ret) Ts y fr1 lo1 mc1 ms1 (.ref q :: as) ws post px) (hy : ne_cy y (.code y bytes maxL ret) n Ts) (hw1 : (own, ix, y, host) ∈ ne_nm) (hw2 : Cond.instanceMethod y ∈ Ts) (hw3 : Cond.selects y.cls y y ∈ Ts) (hr : cl[ci]? = some r) (hrc : r.1 = y.cls) (he : ws[q]? = some (some (.inr (ci, fs)))) (hdg : decode cc pc = .ok (.invokevirtual ix, 3)) (hst : st1 = as.reverse ++ .ref q :: st) (hlen : as.length = n) (hfr : fr1 + 1 ≤ fr) (hlo : 8 + (maxL + 11) + lo1 ≤ lo) (hC : mc1 ≤ C) (hS : ms1 ≤ S) (hn0 : n0 ≤ ws.length) (hl : ne_cl ws.length L = true) (hs : ne_cs ws.length st = true) (hcat : (st.map fun v => v.category).sum ≤ 8) (kk : ∀ (v : Option Value) (ws1 : ne_W), post v ws1 → ne_G cl D ct A n0 ad0 p l e R s m args below meth c Q nL mc ms (C - mc1) (S - ms1) (pc + 3) L (v.toList ++ st) ws1) (kx : ∀ (E : String) (ws1 : ne_W), px E ws1 → ne_T cl D ct A n0 ad0 p l e R s m args below meth c Q nL mc ms (C - mc1) (S - ms1) pc L E ws1) : ne_G cl D ct A n0 ad0 p l e R s m args below meth c Q nL mc ms C S pc L st1 ws := fun H locs cells slots ad ls h1 h2 h3 h4 h5 h6 h7 => by
  subst hst
  have e9 : (as.reverse ++ .ref q :: st).map (ne_v ad) = (as.map (ne_v ad)).reverse ++ .ref (ad q) :: st.map (ne_v ad) := by simp [List.map_append, List.map_reverse, ne_v]
  rw [e9]
  obtain ⟨q0, e1, -⟩ := ne_w_set (ct := ct) (ad := ad) (k := 0) he
  rw [Nat.zero_add] at e1
  have rv := va_recv X.2.1 h4 hr e1
  rw [hrc] at rv
  have cw := va_cnB (R := R) (s := s) (args := args) (own := own) (host := host) (index := ix) (y := y) (bytes := bytes) (maxL := maxL) (mc := mc1) (ms := ms1) (ret := ret) (Ts := Ts) (ws := .code y bytes maxL ret :: Ts) (ws' := Ts) (rm := { frames := fr1, cells := mc1, slots := ms1, locals := lo1 }) n X.1.2.2.2.2 (ne_gi hg (fun w hw => by
    rcases List.mem_cons.mp hw with rfl | hw
    · exact hy.1
    · exact hw)) rfl rfl rfl (X.2.2.2.2.2.2.2.1.2.2.2.2.1 (own, ix, y, host) hw1) (X.1.2.2.2.2 _ hy.2.1) ⟨hy.2.2.1, hy.2.2.2.1, hy.2.2.2.2⟩ ⟨Nat.le_trans hfr X.2.2.2.1, Nat.le_trans hlo X.2.2.2.2.1⟩
  have hp := ne_pre (ls := ls) (av := .ref (ad q) :: as.map (ne_v ad)) X h4 h5 h6
  exact ne_after X (vx_runVN (C := y.cls) (As := as.map (ne_v ad)) (b := ad q) (rest := st.map (ne_v ad)) X.1 (hM D ct ad H.size) ⟨cw, X.1.2.2.2.2 _ hw2, X.1.2.2.2.2 _ hw3⟩ ⟨hp.1, rv, hp.2⟩ rfl (by rw [List.length_map]; exact hlen) h7.1 rfl (by show 2 * 0 + _ ≤ 8; rw [ne_mcat]; omega) hdg ⟨by have := X.2.2.2.2.2.1; omega, by have := X.2.2.2.2.2.2.1; omega⟩) h1 h2 h3 h5 h6 h7 hC hS hn0 hl hs kk kx
theorem ne_callSN {y : MethodName} {bytes : ByteArray} {maxL n ix fr1 lo1 mc1 ms1 : Nat} {ret : Option FieldType} {as st1 : List Value} {post : Option Value → ne_W → Prop} {px : String → ne_W → Prop} {host : String} (X : ne_F cl D ct A p l R s m args meth c own cc nL Ts fr lo mc ms) (hg : ∀ w ∈ Ts, goodWord w = true) (hM : ne_M l cl (.code y bytes maxL ret) Ts y fr1 lo1 mc1 ms1 as ws post px) (hy : ne_cy y (.code y bytes maxL ret) n Ts) (hw1 : (own, ix, y, host) ∈ ne_nm) (hw2 : Cond.static y ∈ Ts) (hdg : decode cc pc = .ok (.invokestatic ix, 3)) (hst : st1 = as.reverse ++ st) (hlen : as.length = n) (hfr : fr1 + 1 ≤ fr) (hlo : 8 + (maxL + 11) + lo1 ≤ lo) (hC : mc1 ≤ C) (hS : ms1 ≤ S) (hn0 : n0 ≤ ws.length) (hl : ne_cl ws.length L = true) (hs : ne_cs ws.length st = true) (hcat : (st.map fun v => v.category).sum ≤ 8) (kk : ∀ (v : Option Value) (ws1 : ne_W), post v ws1 → ne_G cl D ct A n0 ad0 p l e R s m args below meth c Q nL mc ms (C - mc1) (S - ms1) (pc + 3) L (v.toList ++ st) ws1) (kx : ∀ (E : String) (ws1 : ne_W), px E ws1 → ne_T cl D ct A n0 ad0 p l e R s m args below meth c Q nL mc ms (C - mc1) (S - ms1) pc L E ws1) : ne_G cl D ct A n0 ad0 p l e R s m args below meth c Q nL mc ms C S pc L st1 ws := fun H locs cells slots ad ls h1 h2 h3 h4 h5 h6 h7 => by
  subst hst
  have e9 : (as.reverse ++ st).map (ne_v ad) = (as.map (ne_v ad)).reverse ++ st.map (ne_v ad) := by simp [List.map_append, List.map_reverse, ne_v]
  rw [e9]
  have cw := va_cnB (R := R) (s := s) (args := args) (own := own) (host := host) (index := ix) (y := y) (bytes := bytes) (maxL := maxL) (mc := mc1) (ms := ms1) (ret := ret) (Ts := Ts) (ws := .code y bytes maxL ret :: Ts) (ws' := Ts) (rm := { frames := fr1, cells := mc1, slots := ms1, locals := lo1 }) n X.1.2.2.2.2 (ne_gi hg (fun w hw => by
    rcases List.mem_cons.mp hw with rfl | hw
    · exact hy.1
    · exact hw)) rfl rfl rfl (X.2.2.2.2.2.2.2.1.2.2.2.2.1 (own, ix, y, host) hw1) (X.1.2.2.2.2 _ hy.2.1) ⟨hy.2.2.1, hy.2.2.2.1, hy.2.2.2.2⟩ ⟨Nat.le_trans hfr X.2.2.2.1, Nat.le_trans hlo X.2.2.2.2.1⟩
  exact ne_after X (vx_runSN (As := as.map (ne_v ad)) (rest := st.map (ne_v ad)) X.1 (hM D ct ad H.size) ⟨cw, X.1.2.2.2.2 _ hw2, trivial⟩ (ne_pre (ls := ls) X h4 h5 h6) rfl (by rw [List.length_map]; exact hlen) h7.1 rfl (by show 2 * 0 + _ ≤ 8; rw [ne_mcat]; omega) hdg ⟨by have := X.2.2.2.2.2.1; omega, by have := X.2.2.2.2.2.2.1; omega⟩) h1 h2 h3 h5 h6 h7 hC hS hn0 hl hs kk kx
theorem ne_callI {y : MethodName} {bytes : ByteArray} {maxL n ix fr1 lo1 mc1 ms1 : Nat} {ret : Option FieldType} {as st1 : List Value} {post : Option Value → ne_W → Prop} {px : String → ne_W → Prop} {q : Nat} (X : ne_F cl D ct A p l R s m args meth c own cc nL Ts fr lo mc ms) (hg : ∀ w ∈ Ts, goodWord w = true) (hM : ne_M l cl (.code y bytes maxL ret) Ts y fr1 lo1 mc1 ms1 (.ref q :: as) ws post px) (hr9 : ret = none) (hy : ne_cy y (.code y bytes maxL ret) n Ts) (hw1 : Cond.methodLink own ix y ∈ Ts) (hw2 : Cond.instanceMethod y ∈ Ts) (hy1 : y.name = "<init>") (hdg : decode cc pc = .ok (.invokespecial ix, 3)) (hst : st1 = as.reverse ++ .ref q :: st) (hlen : as.length = n) (hfr : fr1 + 1 ≤ fr) (hlo : 8 + (maxL + 11) + lo1 ≤ lo) (hC : mc1 ≤ C) (hS : ms1 ≤ S) (hn0 : n0 ≤ ws.length) (hl : ne_cl ws.length L = true) (hs : ne_cs ws.length st = true) (hcat : (st.map fun v => v.category).sum ≤ 8) (kk : ∀ (v : Option Value) (ws1 : ne_W), post v ws1 → ne_G cl D ct A n0 ad0 p l e R s m args below meth c Q nL mc ms (C - mc1) (S - ms1) (pc + 3) L (v.toList ++ st) ws1) (kx : ∀ (E : String) (ws1 : ne_W), px E ws1 → ne_T cl D ct A n0 ad0 p l e R s m args below meth c Q nL mc ms (C - mc1) (S - ms1) pc L E ws1) : ne_G cl D ct A n0 ad0 p l e R s m args below meth c Q nL mc ms C S pc L st1 ws := fun H locs cells slots ad ls h1 h2 h3 h4 h5 h6 h7 => by
  subst hst
  have e9 : (as.reverse ++ .ref q :: st).map (ne_v ad) = (as.map (ne_v ad)).reverse ++ .ref (ad q) :: st.map (ne_v ad) := by simp [List.map_append, List.map_reverse, ne_v]
  rw [e9]
  subst hr9
  have cw := cwI (R := R) (s := s) (args := args) (own := own) (index := ix) (y := y) (bytes := bytes) (maxL := maxL) (mc := mc1) (ms := ms1) (Ts := Ts) (ws := .code y bytes maxL none :: Ts) (ws' := Ts) (rm := { frames := fr1, cells := mc1, slots := ms1, locals := lo1 }) n X.1.2.2.2.2 (ne_gi hg (fun w hw => by
    rcases List.mem_cons.mp hw with rfl | hw
    · exact hy.1
    · exact hw)) rfl rfl rfl (X.1.2.2.2.2 _ hy.2.1) (X.1.2.2.2.2 _ hw1) (X.1.2.2.2.2 _ hw2) hy1 ⟨hy.2.2.1, hy.2.2.2.1, hy.2.2.2.2⟩ ⟨Nat.le_trans hfr X.2.2.2.1, Nat.le_trans hlo X.2.2.2.2.1⟩
  have hp := ne_pre (ls := ls) (av := .ref (ad q) :: as.map (ne_v ad)) X h4 h5 h6
  exact ne_after X (vx_runI (As := as.map (ne_v ad)) (b := ad q) (rest := st.map (ne_v ad)) X.1 (hM D ct ad H.size) cw hp rfl (by rw [List.length_map]; exact hlen) h7.1 rfl (by show 2 * 0 + _ ≤ 8; rw [ne_mcat]; omega) hdg ⟨by have := X.2.2.2.2.2.1; omega, by have := X.2.2.2.2.2.2.1; omega⟩) h1 h2 h3 h5 h6 h7 hC hS hn0 hl hs kk kx
theorem ne_callIN {y : MethodName} {bytes : ByteArray} {maxL n ix fr1 lo1 mc1 ms1 : Nat} {ret : Option FieldType} {as st1 : List Value} {post : Option Value → ne_W → Prop} {px : String → ne_W → Prop} {q : Nat} {host : String} (X : ne_F cl D ct A p l R s m args meth c own cc nL Ts fr lo mc ms) (hg : ∀ w ∈ Ts, goodWord w = true) (hM : ne_M l cl (.code y bytes maxL ret) Ts y fr1 lo1 mc1 ms1 (.ref q :: as) ws post px) (hr9 : ret = none) (hy : ne_cy y (.code y bytes maxL ret) n Ts) (hw1 : (own, ix, y, host) ∈ ne_nm) (hw2 : Cond.instanceMethod y ∈ Ts) (hy1 : y.name = "<init>") (hdg : decode cc pc = .ok (.invokespecial ix, 3)) (hst : st1 = as.reverse ++ .ref q :: st) (hlen : as.length = n) (hfr : fr1 + 1 ≤ fr) (hlo : 8 + (maxL + 11) + lo1 ≤ lo) (hC : mc1 ≤ C) (hS : ms1 ≤ S) (hn0 : n0 ≤ ws.length) (hl : ne_cl ws.length L = true) (hs : ne_cs ws.length st = true) (hcat : (st.map fun v => v.category).sum ≤ 8) (kk : ∀ (v : Option Value) (ws1 : ne_W), post v ws1 → ne_G cl D ct A n0 ad0 p l e R s m args below meth c Q nL mc ms (C - mc1) (S - ms1) (pc + 3) L (v.toList ++ st) ws1) (kx : ∀ (E : String) (ws1 : ne_W), px E ws1 → ne_T cl D ct A n0 ad0 p l e R s m args below meth c Q nL mc ms (C - mc1) (S - ms1) pc L E ws1) : ne_G cl D ct A n0 ad0 p l e R s m args below meth c Q nL mc ms C S pc L st1 ws := fun H locs cells slots ad ls h1 h2 h3 h4 h5 h6 h7 => by
  subst hst
  have e9 : (as.reverse ++ .ref q :: st).map (ne_v ad) = (as.map (ne_v ad)).reverse ++ .ref (ad q) :: st.map (ne_v ad) := by simp [List.map_append, List.map_reverse, ne_v]
  rw [e9]
  subst hr9
  have cw := va_cnB (R := R) (s := s) (args := args) (own := own) (host := host) (index := ix) (y := y) (bytes := bytes) (maxL := maxL) (mc := mc1) (ms := ms1) (ret := none) (Ts := Ts) (ws := .code y bytes maxL none :: Ts) (ws' := Ts) (rm := { frames := fr1, cells := mc1, slots := ms1, locals := lo1 }) n X.1.2.2.2.2 (ne_gi hg (fun w hw => by
    rcases List.mem_cons.mp hw with rfl | hw
    · exact hy.1
    · exact hw)) rfl rfl rfl (X.2.2.2.2.2.2.2.1.2.2.2.2.1 (own, ix, y, host) hw1) (X.1.2.2.2.2 _ hy.2.1) ⟨hy.2.2.1, hy.2.2.2.1, hy.2.2.2.2⟩ ⟨Nat.le_trans hfr X.2.2.2.1, Nat.le_trans hlo X.2.2.2.2.1⟩
  have hp := ne_pre (ls := ls) (av := .ref (ad q) :: as.map (ne_v ad)) X h4 h5 h6
  exact ne_after X (vx_runIN (As := as.map (ne_v ad)) (b := ad q) (rest := st.map (ne_v ad)) X.1 (hM D ct ad H.size) ⟨cw, hy1, X.1.2.2.2.2 _ hw2⟩ hp rfl (by rw [List.length_map]; exact hlen) h7.1 rfl (by show 2 * 0 + _ ≤ 8; rw [ne_mcat]; omega) hdg ⟨by have := X.2.2.2.2.2.1; omega, by have := X.2.2.2.2.2.2.1; omega⟩) h1 h2 h3 h5 h6 h7 hC hS hn0 hl hs kk kx
/-! ## ends -/
theorem ne_iret {z : Int32} {ty : FieldType} {post : Option Value → ne_W → Prop} {px : String → ne_W → Prop} (X : ne_F cl D ct A p l R s m args meth c own cc nL Ts fr lo mc ms) (hr : meth.sig.returnType = some ty) (hn : narrow ty (.int z) = .int z) (hdg : decode cc pc = .ok (.ireturn, 1)) (hp : post (some (.int z)) ws) : ne_G cl D ct A n0 ad0 p l e R s m args below meth c (ne_O cl D ct ad0 n0 A below args s mc ms post px) nL mc ms C S pc L [.int z] ws := fun H locs cells slots ad ls h1 h2 h3 h4 h5 h6 h7 =>
  W.widen (k := mc) (n := ms) (by omega) (by omega) (vx_ret (W.zret (v := z) X.1.1 X.1.2.1 hr hn (fun t ht hW => ⟨some (.int z), ws, ad, rfl, hp, h1, by rw [ht]; exact h4, h5, h6.F ht⟩) h6.2.2 hdg X.2.2.2.2.2.2.2.2.1))
theorem ne_lret {z : Int64} {post : Option Value → ne_W → Prop} {px : String → ne_W → Prop} (X : ne_F cl D ct A p l R s m args meth c own cc nL Ts fr lo mc ms) (hr : meth.sig.returnType = some .long) (hdg : decode cc pc = .ok (.lreturn, 1)) (hp : post (some (.long z)) ws) : ne_G cl D ct A n0 ad0 p l e R s m args below meth c (ne_O cl D ct ad0 n0 A below args s mc ms post px) nL mc ms C S pc L [.long z] ws := fun H locs cells slots ad ls h1 h2 h3 h4 h5 h6 h7 =>
  W.widen (k := mc) (n := ms) (by omega) (by omega) (vx_ret (W.lret (v := z) X.1.1 X.1.2.1 hr (fun t ht hW => ⟨some (.long z), ws, ad, rfl, hp, h1, by rw [ht]; exact h4, h5, h6.F ht⟩) h6.2.2 hdg X.2.2.2.2.2.2.2.2.1))
theorem ne_vret {post : Option Value → ne_W → Prop} {px : String → ne_W → Prop} (X : ne_F cl D ct A p l R s m args meth c own cc nL Ts fr lo mc ms) (hr : meth.sig.returnType = none) (hdg : decode cc pc = .ok (.return_, 1)) (hp : post none ws) : ne_G cl D ct A n0 ad0 p l e R s m args below meth c (ne_O cl D ct ad0 n0 A below args s mc ms post px) nL mc ms C S pc L [] ws := fun H locs cells slots ad ls h1 h2 h3 h4 h5 h6 h7 =>
  W.widen (k := mc) (n := ms) (by omega) (by omega) (vx_ret (W.vret X.1.1 X.1.2.1 hr (fun t ht hW => ⟨none, ws, ad, rfl, hp, h1, by rw [ht]; exact h4, h5, h6.F ht⟩) h6.2.2 hdg X.2.2.2.2.2.2.2.2.1))
theorem ne_aret {q : Nat} {rt : FieldType} {post : Option Value → ne_W → Prop} {px : String → ne_W → Prop} (X : ne_F cl D ct A p l R s m args meth c own cc nL Ts fr lo mc ms) (hr : meth.sig.returnType = some rt) (hrt : (∃ n, rt = .object n) ∨ ∃ t, rt = .array t) (hdg : decode cc pc = .ok (.areturn, 1)) (hp : post (some (.ref q)) ws) : ne_G cl D ct A n0 ad0 p l e R s m args below meth c (ne_O cl D ct ad0 n0 A below args s mc ms post px) nL mc ms C S pc L [.ref q] ws := fun H locs cells slots ad ls h1 h2 h3 h4 h5 h6 h7 =>
  W.widen (k := mc) (n := ms) (by omega) (by omega) (vx_ret (W.aret (v := .ref (ad q)) X.1.1 X.1.2.1 hr hrt (Or.inr ⟨_, rfl⟩) (fun t ht hW => ⟨some (.ref q), ws, ad, rfl, hp, h1, by rw [ht]; exact h4, h5, h6.F ht⟩) h6.2.2 hdg X.2.2.2.2.2.2.2.2.1))
theorem ne_aretN {rt : FieldType} {post : Option Value → ne_W → Prop} {px : String → ne_W → Prop} (X : ne_F cl D ct A p l R s m args meth c own cc nL Ts fr lo mc ms) (hr : meth.sig.returnType = some rt) (hrt : (∃ n, rt = .object n) ∨ ∃ t, rt = .array t) (hdg : decode cc pc = .ok (.areturn, 1)) (hp : post (some .null) ws) : ne_G cl D ct A n0 ad0 p l e R s m args below meth c (ne_O cl D ct ad0 n0 A below args s mc ms post px) nL mc ms C S pc L [.null] ws := fun H locs cells slots ad ls h1 h2 h3 h4 h5 h6 h7 =>
  W.widen (k := mc) (n := ms) (by omega) (by omega) (vx_ret (W.aret (v := .null) X.1.1 X.1.2.1 hr hrt (Or.inl rfl) (fun t ht hW => ⟨some .null, ws, ad, rfl, hp, h1, by rw [ht]; exact h4, h5, h6.F ht⟩) h6.2.2 hdg X.2.2.2.2.2.2.2.2.1))
/-- thrown over a frame without handlers: on to the caller -/
theorem ne_out {E : String} {post : Option Value → ne_W → Prop} {px : String → ne_W → Prop} (X : ne_F cl D ct A p l R s m args meth c own cc nL Ts fr lo mc ms) (ht : ∀ x ∈ c.exceptionTable.toList, False) (hp : px E ws) : ne_T cl D ct A n0 ad0 p l e R s m args below meth c (ne_O cl D ct ad0 n0 A below args s mc ms post px) nL mc ms C S pc L E ws := fun H locs cells slots ad ls rest q ce h1 h2 h3 h4 h5 h6 h7 h8 h9 h10 =>
  vx_out (fun x hx => (ht x hx).elim) X.2.2.2.2.2.2.2.2.1 h8 h9 h10 (fun t e1 _ => ⟨ws, ad, hp, h1, by rw [e1]; exact h4, h5, h6.F e1⟩) h6.2.2 (by omega) (by omega)
/-- 'throw new E(text)' -/
theorem ne_throw {cls text : String} {names : List String} {ik is ic : Nat} {post : Option Value → ne_W → Prop} {px : String → ne_W → Prop} (X : ne_F cl D ct A p l R s m args meth c own cc nL Ts fr lo mc ms) (hT9 : ∀ w ∈ Ts, w.before args s = true) (hcls : Bundle.fit cls = true) (hnames : ∀ n ∈ names, Bundle.fit n = true) (hk : Cond.classLink own ik cls ∈ Ts) (hini : Cond.initialized cls ∈ Ts) (hstr : (own, is, text) ∈ ne_sl) (hat : ∀ w ∈ (vx_atS own ic cls names).filter goodWord, w ∈ Ts) (hcast : (cls, cls) ∈ ne_ca) (hat2 : ∀ w ∈ (vx_atS own ic cls names).filter (fun w => !goodWord w), w ∈ Cond.castable cls cls :: [Cond.declares ⟨"java/lang/RuntimeException", "<init>", "(Ljava/lang/String;)V"⟩, Cond.declares ⟨"java/lang/Exception", "<init>", "(Ljava/lang/String;)V"⟩, Cond.declares ⟨"java/lang/Throwable", "<init>", "(Ljava/lang/String;)V"⟩])
    (hgood : ∀ w ∈ Cond.classLink own ik cls :: Cond.initialized cls :: vx_atS own ic cls names, vx_ot w = true) (ht : ∀ x ∈ c.exceptionTable.toList, False)
    (d0 : decode cc pc = .ok (.new ik, 3)) (d3 : decode cc (pc + 3) = .ok (.dup, 1)) (d4 : decode cc (pc + 4) = .ok (.ldc is, 2)) (d6 : decode cc (pc + 6) = .ok (.invokespecial ic, 3)) (d9 : decode cc (pc + 9) = .ok (.athrow, 1))
    (hfr : names.length + 3 < fr) (hlo : (st.map fun v => v.category).sum + (13 * (names.length + 1) + 43) ≤ lo) (hC : 1 ≤ C) (hS : 6 ≤ S) (hp : px cls ws) : ne_G cl D ct A n0 ad0 p l e R s m args below meth c (ne_O cl D ct ad0 n0 A below args s mc ms post px) nL mc ms C S pc L st ws := fun H locs cells slots ad ls h1 h2 h3 h4 h5 h6 h7 => by
  obtain ⟨sa, hsa⟩ := X.2.2.2.2.2.2.2.1.2.2.2.1 _ hstr
  refine vx_throwS X.1.1 X.1.2.1 X.2.2.2.2.2.2.2.2.2 X.1.2.2.2.1 hcls hnames (hT9 _ hk) (hT9 _ hini) hsa (vx_hat (fun w hw => hT9 _ (hat w hw)) hat2 (vx_c ((X.2.2.2.2.2.2.2.1.2.2.2.2.2.2.1 _ hcast).use rfl) (vx_c ((X.2.2.2.2.2.2.2.1.2.2.2.2.2.2.2.2 _ (List.mem_of_getElem? (i := 0) rfl)).use rfl) (vx_c ((X.2.2.2.2.2.2.2.1.2.2.2.2.2.2.2.2 _ (List.mem_of_getElem? (i := 1) rfl)).use rfl) (vx_c ((X.2.2.2.2.2.2.2.1.2.2.2.2.2.2.2.2 _ (List.mem_of_getElem? (i := 2) rfl)).use rfl) vx_n))))) hgood X.2.2.2.2.2.2.2.1.1 X.2.2.2.2.2.2.2.1.2.1 h6 (by rw [X.1.2.2.1]; exact h7.1) d0 d3 d4 d6 d9 (fun x hx => (ht x hx).elim) (Nat.lt_of_lt_of_le hfr X.2.2.2.1) (by rw [ne_mcat]; exact Nat.le_trans hlo X.2.2.2.2.1) (by have := X.2.2.2.2.2.1; omega) (by have := X.2.2.2.2.2.2.1; omega) X.2.2.2.2.2.2.2.2.1 ?_ h6.2.2 (by omega) (by omega)
  intro t _ hz hq
  exact ⟨ws, ad, hp, h1, h4.kept (fun k q hk => hq _ (h4 k q hk).lt), h5, Nat.le_trans h6.1 hz, fun q h8 h9 => (hq q (Nat.lt_of_lt_of_le h8 h6.1)).trans (h6.2.1 q h8 h9)⟩
/-- a method's contract out of its body -/
theorem ne_meet {cl : List vw_C} {l : Launch} {y : MethodName} {own : String} {bytes : ByteArray} {maxL fr lo mc ms : Nat} {ret : Option FieldType} {Ts : List Cond} {as : List Value} {ws : ne_W} {post : Option Value → ne_W → Prop} {px : String → ne_W → Prop} (hl : l.stackTraces = false) (ho : y.cls = own) (hy : plainName y.cls = true) (hlen : (ne_a as).length ≤ maxL)
    (body : ∀ (D : va_G) (ct : Nat → ClassId) (A : Nat → Prop) (p : Program) (e : Env) (R : Room) (s : State) (m : MethodId) (args : Array Value) (below : List Frame) (meth : Method) (c : Code) (ad0 : Nat → Nat), ne_F cl D ct A p l R s m args meth c own bytes maxL Ts fr lo mc ms → meth.sig.returnType = ret → meth.name = y.name → (∀ x ∈ c.exceptionTable.toList, False) →
      ne_G cl D ct A ws.length ad0 p l e R s m args below meth c (ne_O cl D ct ad0 ws.length A below args s mc ms post px) maxL mc ms mc ms 0 (ne_a as ++ List.replicate (maxL - (ne_a as).length) none) [] ws) : ne_M l cl (.code y bytes maxL ret) Ts y fr lo mc ms as ws post px := by
  intro D ct ad sz
  refine vx_ofW (cc := bytes) (maxL := maxL) (ret := ret) (ws' := Ts) hy rfl ?_
  intro p e s m args below meth c s₁ B hml ht hv
  obtain ⟨rfl, hsz, hP, hK, hD0, hZ⟩ := hv
  subst hsz
  have hts := atoms_spec (ws := Cond.code y bytes maxL ret :: Ts) B.pre
  have hown : s.vm.findClass own = some m.cls := by rw [← ho]; exact findClass_of_methodNamed B.named
  have hD := hD0.self (sz := s.heap.size)
  have hin : meth.name = y.name := (name_of_methodNamed B.named B.method).1
  have hlsl : ∀ vs : List Value, (lg_sl (vs.map (ne_v ad))).length = (ne_a vs).length := by
    intro vs
    induction vs with
    | nil => rfl
    | cons v t ih =>
      have e9 : ∀ (w : Value) (t' : List Value), lg_sl (w :: t') = (if w.category = 2 then [Slot.val w, Slot.second] else [Slot.val w]) ++ lg_sl t' := fun w t' => by simp [lg_sl]
      rw [ne_a, List.map_cons, e9, List.length_append, ih, ne_v_cat]
      by_cases h : v.category = 2
      · rw [if_pos h, if_pos h]; simp only [List.length_cons, List.length_nil]; omega
      · rw [if_neg h, if_neg h]; simp only [List.length_cons, List.length_nil]; omega
  have h9 := lv_entry (as.map (ne_v ad)) (n := maxL) (by rw [hlsl]; exact hlen)
  rw [lg_entry_eq]
  refine body D ct (va_A (ne_w ct ad 0 ws) s.heap.size) p e _ s m _ below meth c ad ⟨⟨B.exec, B.bytes, hml, hown, fun w hw => hts w (List.mem_cons_of_mem _ hw)⟩, hK, fun q hq => Or.inr hq, Nat.le_refl _, Nat.le_refl _, Nat.le_refl _, Nat.le_refl _, hZ, B.notSynchronized, hl⟩ B.returns hin ht s.heap [] 0 0 ad _ (fun _ _ => rfl) (by omega) (by omega) hP hD va_S.rf ?_
  rw [ne_l_pad, ne_a_args]
  exact h9
end NEC
