theorem nw_inI : Cond.initialized "java/lang/IndexOutOfBoundsException" ∈ nw_T := nw_tm 64 (by decide +kernel) (by decide +kernel)
theorem nw_xI1 : ∀ w ∈ (vx_atS RX1 236 "java/lang/IndexOutOfBoundsException" ["java/lang/RuntimeException", "java/lang/Exception"]).filter goodWord, w ∈ nw_T := by
  have h : ((vx_atS RX1 236 "java/lang/IndexOutOfBoundsException" ["java/lang/RuntimeException", "java/lang/Exception"]).filter goodWord).all (fun w => decide (w ∈ lw_tbl)) = true := by decide +kernel
  intro w hw
  exact nw_tf (of_decide_eq_true (List.all_eq_true.mp h w hw)) (List.mem_filter.mp hw).2
theorem nw_xI2 : ∀ w ∈ (vx_atS RX1 236 "java/lang/IndexOutOfBoundsException" ["java/lang/RuntimeException", "java/lang/Exception"]).filter (fun w => !goodWord w), w ∈ Cond.castable "java/lang/IndexOutOfBoundsException" "java/lang/IndexOutOfBoundsException" :: [Cond.declares ⟨"java/lang/RuntimeException", "<init>", "(Ljava/lang/String;)V"⟩, Cond.declares ⟨"java/lang/Exception", "<init>", "(Ljava/lang/String;)V"⟩, Cond.declares ⟨"java/lang/Throwable", "<init>", "(Ljava/lang/String;)V"⟩] := by
  have h : ((vx_atS RX1 236 "java/lang/IndexOutOfBoundsException" ["java/lang/RuntimeException", "java/lang/Exception"]).filter (fun w => !goodWord w)).all (fun w => decide (w ∈ Cond.castable "java/lang/IndexOutOfBoundsException" "java/lang/IndexOutOfBoundsException" :: [Cond.declares ⟨"java/lang/RuntimeException", "<init>", "(Ljava/lang/String;)V"⟩, Cond.declares ⟨"java/lang/Exception", "<init>", "(Ljava/lang/String;)V"⟩, Cond.declares ⟨"java/lang/Throwable", "<init>", "(Ljava/lang/String;)V"⟩])) = true := by decide +kernel
  intro w hw
  exact of_decide_eq_true (List.all_eq_true.mp h w hw)
theorem nw_xI3 : ∀ w ∈ Cond.classLink RX1 232 "java/lang/IndexOutOfBoundsException" :: Cond.initialized "java/lang/IndexOutOfBoundsException" :: vx_atS RX1 236 "java/lang/IndexOutOfBoundsException" ["java/lang/RuntimeException", "java/lang/Exception"], vx_ot w = true := by
  have h : (Cond.classLink RX1 232 "java/lang/IndexOutOfBoundsException" :: Cond.initialized "java/lang/IndexOutOfBoundsException" :: vx_atS RX1 236 "java/lang/IndexOutOfBoundsException" ["java/lang/RuntimeException", "java/lang/Exception"]).all vx_ot = true := by decide +kernel
  exact List.all_eq_true.mp h
theorem nw_inA : Cond.initialized "java/lang/IllegalArgumentException" ∈ nw_T := nw_tm 65 (by decide +kernel) (by decide +kernel)
theorem nw_xA1 : ∀ w ∈ (vx_atS RX1 245 "java/lang/IllegalArgumentException" ["java/lang/RuntimeException", "java/lang/Exception"]).filter goodWord, w ∈ nw_T := by
  have h : ((vx_atS RX1 245 "java/lang/IllegalArgumentException" ["java/lang/RuntimeException", "java/lang/Exception"]).filter goodWord).all (fun w => decide (w ∈ lw_tbl)) = true := by decide +kernel
  intro w hw
  exact nw_tf (of_decide_eq_true (List.all_eq_true.mp h w hw)) (List.mem_filter.mp hw).2
theorem nw_xA2 : ∀ w ∈ (vx_atS RX1 245 "java/lang/IllegalArgumentException" ["java/lang/RuntimeException", "java/lang/Exception"]).filter (fun w => !goodWord w), w ∈ Cond.castable "java/lang/IllegalArgumentException" "java/lang/IllegalArgumentException" :: [Cond.declares ⟨"java/lang/RuntimeException", "<init>", "(Ljava/lang/String;)V"⟩, Cond.declares ⟨"java/lang/Exception", "<init>", "(Ljava/lang/String;)V"⟩, Cond.declares ⟨"java/lang/Throwable", "<init>", "(Ljava/lang/String;)V"⟩] := by
  have h : ((vx_atS RX1 245 "java/lang/IllegalArgumentException" ["java/lang/RuntimeException", "java/lang/Exception"]).filter (fun w => !goodWord w)).all (fun w => decide (w ∈ Cond.castable "java/lang/IllegalArgumentException" "java/lang/IllegalArgumentException" :: [Cond.declares ⟨"java/lang/RuntimeException", "<init>", "(Ljava/lang/String;)V"⟩, Cond.declares ⟨"java/lang/Exception", "<init>", "(Ljava/lang/String;)V"⟩, Cond.declares ⟨"java/lang/Throwable", "<init>", "(Ljava/lang/String;)V"⟩])) = true := by decide +kernel
  intro w hw
  exact of_decide_eq_true (List.all_eq_true.mp h w hw)
theorem nw_xA3 : ∀ w ∈ Cond.classLink RX1 241 "java/lang/IllegalArgumentException" :: Cond.initialized "java/lang/IllegalArgumentException" :: vx_atS RX1 245 "java/lang/IllegalArgumentException" ["java/lang/RuntimeException", "java/lang/Exception"], vx_ot w = true := by
  have h : (Cond.classLink RX1 241 "java/lang/IllegalArgumentException" :: Cond.initialized "java/lang/IllegalArgumentException" :: vx_atS RX1 245 "java/lang/IllegalArgumentException" ["java/lang/RuntimeException", "java/lang/Exception"]).all vx_ot = true := by decide +kernel
  exact List.all_eq_true.mp h
/-- the values of an array lie in bounds -/
def ne_rg (f : Nat → Int) (lo hi : Int) : Prop := ∀ j, lo ≤ f j ∧ f j ≤ hi
theorem ne_rg_up {f : Nat → Int} {lo hi z : Int} {k : Nat} (h : ne_rg f lo hi) (h1 : lo ≤ z) (h2 : z ≤ hi) : ne_rg (va_up f k z) lo hi := fun j => by
  unfold va_up
  split
  · exact ⟨h1, h2⟩
  · exact h j
theorem ne_rg_0 {lo hi : Int} (h1 : lo ≤ 0) (h2 : 0 ≤ hi) : ne_rg (fun _ => 0) lo hi := fun _ => ⟨h1, h2⟩
theorem ne_rg_mono {f : Nat → Int} {lo hi lo' hi' : Int} (h : ne_rg f lo hi) (h1 : lo' ≤ lo) (h2 : hi ≤ hi') : ne_rg f lo' hi' := fun j => by
  have := h j
  omega
section NED
variable {cl : List vw_C} {D : va_G} {ct : Nat → ClassId} {A : Nat → Prop} {n0 : Nat} {ad0 : Nat → Nat} {p : Program} {l : Launch} {e : Env} {R : Room} {s : State} {m : MethodId} {args : Array Value} {below : List Frame} {meth : Method} {c : Code} {Q : State → Prop} {own : String} {cc : ByteArray} {nL : Nat} {Ts : List Cond} {fr lo mc ms C S pc : Nat} {L : List (Option Value)} {st : List Value} {ws : ne_W}
/-- a value of an array, by a name, with its bounds -/
theorem ne_ialdR {q n : Nat} {f : Nat → Int} {i a b : Int} (X : ne_F cl D ct A p l R s m args meth c own cc nL Ts fr lo mc ms) (hdg : decode cc pc = .ok (.iaload, 1)) (he : ws[q]? = some (some (.inl (0, n, f)))) (hi : 0 ≤ i ∧ i < n ∧ i < 2147483648) (hf : ne_rg f a b) (kk : ∀ z : Int, z = f i.toNat → a ≤ z → z ≤ b → ne_G cl D ct A n0 ad0 p l e R s m args below meth c Q nL mc ms C S (pc + 1) L (ni z :: st) ws) : ne_G cl D ct A n0 ad0 p l e R s m args below meth c Q nL mc ms C S pc L (ni i :: .ref q :: st) ws :=
  ne_iald X hdg he hi (kk _ rfl (hf _).1 (hf _).2)
theorem ne_baldR {q n : Nat} {f : Nat → Int} {i a b : Int} (X : ne_F cl D ct A p l R s m args meth c own cc nL Ts fr lo mc ms) (hdg : decode cc pc = .ok (.baload, 1)) (he : ws[q]? = some (some (.inl (1, n, f)))) (hi : 0 ≤ i ∧ i < n ∧ i < 2147483648) (hf : ne_rg f a b) (kk : ∀ z : Int, z = f i.toNat → a ≤ z → z ≤ b → ne_G cl D ct A n0 ad0 p l e R s m args below meth c Q nL mc ms C S (pc + 1) L (ni z :: st) ws) : ne_G cl D ct A n0 ad0 p l e R s m args below meth c Q nL mc ms C S pc L (ni i :: .ref q :: st) ws :=
  ne_bald X hdg he hi (kk _ rfl (hf _).1 (hf _).2)
/-- a store, the new contents by a name -/
theorem ne_iastR {q n : Nat} {f : Nat → Int} {i z a b : Int} (X : ne_F cl D ct A p l R s m args meth c own cc nL Ts fr lo mc ms) (hdg : decode cc pc = .ok (.iastore, 1)) (he : ws[q]? = some (some (.inl (0, n, f)))) (hi : 0 ≤ i ∧ i < n ∧ i < 2147483648) (hf : ne_rg f a b) (hz : a ≤ z ∧ z ≤ b) (kk : ∀ f' : Nat → Int, f' = va_up f i.toNat z → ne_rg f' a b → ne_G cl D ct A n0 ad0 p l e R s m args below meth c Q nL mc ms C S (pc + 1) L st (ws.set q (some (.inl (0, n, f'))))) : ne_G cl D ct A n0 ad0 p l e R s m args below meth c Q nL mc ms C S pc L (ni z :: ni i :: .ref q :: st) ws :=
  ne_iast X hdg he hi (kk _ rfl (ne_rg_up hf hz.1 hz.2))
theorem ne_bastR {q n : Nat} {f : Nat → Int} {i z a b : Int} (X : ne_F cl D ct A p l R s m args meth c own cc nL Ts fr lo mc ms) (hdg : decode cc pc = .ok (.bastore, 1)) (he : ws[q]? = some (some (.inl (1, n, f)))) (hi : 0 ≤ i ∧ i < n ∧ i < 2147483648) (h8 : -128 ≤ z ∧ z < 128) (hf : ne_rg f a b) (hz : a ≤ z ∧ z ≤ b) (kk : ∀ f' : Nat → Int, f' = va_up f i.toNat z → ne_rg f' a b → ne_G cl D ct A n0 ad0 p l e R s m args below meth c Q nL mc ms C S (pc + 1) L st (ws.set q (some (.inl (1, n, f'))))) : ne_G cl D ct A n0 ad0 p l e R s m args below meth c Q nL mc ms C S pc L (ni z :: ni i :: .ref q :: st) ws :=
  ne_bast X hdg he hi h8 (kk _ rfl (ne_rg_up hf hz.1 hz.2))
/-- the top of the stack, by a name -/
theorem ne_topI {x : Int} (kk : ∀ z : Int, z = x → ne_G cl D ct A n0 ad0 p l e R s m args below meth c Q nL mc ms C S pc L (ni z :: st) ws) : ne_G cl D ct A n0 ad0 p l e R s m args below meth c Q nL mc ms C S pc L (ni x :: st) ws := kk x rfl
theorem ne_topL {x : Int} (kk : ∀ z : Int, z = x → ne_G cl D ct A n0 ad0 p l e R s m args below meth c Q nL mc ms C S pc L (nl z :: st) ws) : ne_G cl D ct A n0 ad0 p l e R s m args below meth c Q nL mc ms C S pc L (nl x :: st) ws := kk x rfl
/-- any long is in bounds -/
theorem ne_wrapL {x : Int} (kk : ∀ z : Int, -9223372036854775808 ≤ z → z < 9223372036854775808 → (-9223372036854775808 ≤ x → x < 9223372036854775808 → z = x) → ne_G cl D ct A n0 ad0 p l e R s m args below meth c Q nL mc ms C S pc L (nl z :: st) ws) : ne_G cl D ct A n0 ad0 p l e R s m args below meth c Q nL mc ms C S pc L (nl x :: st) ws := by
  have h := kk (Int64.ofInt x).toInt (by have := Int64.le_toInt (Int64.ofInt x); omega) (by have := Int64.toInt_lt (Int64.ofInt x); omega) (fun h1 h2 => ne_toL h1 h2)
  have e9 : nl (Int64.ofInt x).toInt = nl x := by show Value.long _ = Value.long _; rw [Int64.ofInt_toInt]
  rw [e9] at h
  exact h
theorem ne_wrapI {x : Int} (kk : ∀ z : Int, -2147483648 ≤ z → z < 2147483648 → (-2147483648 ≤ x → x < 2147483648 → z = x) → ne_G cl D ct A n0 ad0 p l e R s m args below meth c Q nL mc ms C S pc L (ni z :: st) ws) : ne_G cl D ct A n0 ad0 p l e R s m args below meth c Q nL mc ms C S pc L (ni x :: st) ws := by
  have h := kk (Int32.ofInt x).toInt (by have := Int32.le_toInt (Int32.ofInt x); omega) (by have := Int32.toInt_lt (Int32.ofInt x); omega) (fun h1 h2 => ne_toI h1 h2)
  have e9 : ni (Int32.ofInt x).toInt = ni x := by show Value.int _ = Value.int _; rw [Int32.ofInt_toInt]
  rw [e9] at h
  exact h
theorem ne_ws {ws' : ne_W} (h : ws = ws') (kk : ne_G cl D ct A n0 ad0 p l e R s m args below meth c Q nL mc ms C S pc L st ws') : ne_G cl D ct A n0 ad0 p l e R s m args below meth c Q nL mc ms C S pc L st ws := by rw [h]; exact kk
theorem ne_i2c {x : Int} (hx : 0 ≤ x ∧ x < 65536) (X : ne_F cl D ct A p l R s m args meth c own cc nL Ts fr lo mc ms) (hdg : decode cc pc = .ok (.i2c, 1)) (k : ne_G cl D ct A n0 ad0 p l e R s m args below meth c Q nL mc ms C S (pc + 1) L (ni x :: st) ws) : ne_G cl D ct A n0 ad0 p l e R s m args below meth c Q nL mc ms C S pc L (ni x :: st) ws := fun H locs cells slots ad ls h1 h2 h3 h4 h5 h6 h7 => by
  have k9 := k H locs cells slots ad ls h1 h2 h3 h4 h5 h6 h7
  refine lv_i2c X.1.1 X.1.2.1 hdg ?_ k9
  apply Int32.toInt_inj.mp
  have e1 : Int32.ofInt x = Int32.ofNat x.toNat := by
    rw [← Int32.ofInt_eq_ofNat]; congr 1; omega
  rw [ne_toI (by omega) (by omega), e1]
  have e2 : (Int32.ofNat x.toNat).toUInt32 = UInt32.ofNat x.toNat := rfl
  rw [e2]
  have e3 : UInt32.ofNat x.toNat % 65536 = UInt32.ofNat x.toNat := by
    apply UInt32.toNat_inj.mp
    rw [UInt32.toNat_mod, UInt32.toNat_ofNat_of_lt' (by show _ < 4294967296; omega)]
    show x.toNat % 65536 = x.toNat
    omega
  rw [e3]
  have e4 : (UInt32.ofNat x.toNat).toInt32 = Int32.ofNat x.toNat := rfl
  rw [e4, ← e1, ne_toI (by omega) (by omega)]
theorem ne_i2b {x : Int} (hx : -128 ≤ x ∧ x < 128) (X : ne_F cl D ct A p l R s m args meth c own cc nL Ts fr lo mc ms) (hdg : decode cc pc = .ok (.i2b, 1)) (k : ne_G cl D ct A n0 ad0 p l e R s m args below meth c Q nL mc ms C S (pc + 1) L (ni x :: st) ws) : ne_G cl D ct A n0 ad0 p l e R s m args below meth c Q nL mc ms C S pc L (ni x :: st) ws := fun H locs cells slots ad ls h1 h2 h3 h4 h5 h6 h7 => by
  have k9 := k H locs cells slots ad ls h1 h2 h3 h4 h5 h6 h7
  refine lv_i2b X.1.1 X.1.2.1 hdg ?_ k9
  apply Int32.toInt_inj.mp
  rw [Int8.toInt_toInt32, Int32.toInt_toInt8, ne_toI (by omega) (by omega)]
  exact Int.bmod_eq_of_le (by omega) (by omega)
/-- a local that is not asked for again -/
theorem ne_lnone (i : Nat) (kk : ne_G cl D ct A n0 ad0 p l e R s m args below meth c Q nL mc ms C S pc (L.set i none) st ws) : ne_G cl D ct A n0 ad0 p l e R s m args below meth c Q nL mc ms C S pc L st ws := fun H locs cells slots ad ls h1 h2 h3 h4 h5 h6 h7 =>
  kk H locs cells slots ad ls h1 h2 h3 h4 h5 h6 ⟨h7.1, h7.2.1, fun q hq => h7.2.2 q (by
    obtain ⟨k, v, a1, a2⟩ := ne_l_mem.mp hq
    refine ne_l_mem.mpr ⟨k, v, ?_, a2⟩
    rw [List.getElem?_set] at a1
    split at a1
    · split at a1 <;> cases a1
    · exact a1)⟩
theorem ne_tswIn {dflt lo9 hi9 : Int} {offs : Array Int} {len tgt : Nat} {x off : Int} (X : ne_F cl D ct A p l R s m args meth c own cc nL Ts fr lo mc ms) (hdg : decode cc pc = .ok (.tableswitch dflt lo9 hi9 offs, len)) (hx : -2147483648 ≤ x ∧ x < 2147483648) (h8 : lo9 ≤ x) (h9 : x ≤ hi9) (ho : offs[(x - lo9).toNat]? = some off) (ht : (pc : Int) + off = (tgt : Int)) (kk : ne_G cl D ct A n0 ad0 p l e R s m args below meth c Q nL mc ms C S tgt L st ws) : ne_G cl D ct A n0 ad0 p l e R s m args below meth c Q nL mc ms C S pc L (ni x :: st) ws := fun H locs cells slots ad ls h1 h2 h3 h4 h5 h6 h7 => by
  have e1 : (Int32.ofInt x).toInt = x := ne_toI hx.1 hx.2
  exact lv_tableIn X.1.1 X.1.2.1 hdg (by rw [e1]; omega) (by rw [e1]; omega) (by rw [e1]; exact ho) ht (kk H locs cells slots ad ls h1 h2 h3 h4 h5 h6 h7)
theorem ne_tswOut {dflt lo9 hi9 : Int} {offs : Array Int} {len tgt : Nat} {x : Int} (X : ne_F cl D ct A p l R s m args meth c own cc nL Ts fr lo mc ms) (hdg : decode cc pc = .ok (.tableswitch dflt lo9 hi9 offs, len)) (hx : -2147483648 ≤ x ∧ x < 2147483648) (h8 : x < lo9 ∨ hi9 < x) (ht : (pc : Int) + dflt = (tgt : Int)) (kk : ne_G cl D ct A n0 ad0 p l e R s m args below meth c Q nL mc ms C S tgt L st ws) : ne_G cl D ct A n0 ad0 p l e R s m args below meth c Q nL mc ms C S pc L (ni x :: st) ws := fun H locs cells slots ad ls h1 h2 h3 h4 h5 h6 h7 => by
  have e1 : (Int32.ofInt x).toInt = x := ne_toI hx.1 hx.2
  exact lv_tableOut X.1.1 X.1.2.1 hdg (by rw [e1]; exact h8) ht (kk H locs cells slots ad ls h1 h2 h3 h4 h5 h6 h7)
end NED
/-- a quotient and what is left, by a number above 0 -/
theorem ne_tdm (v b : Int) (hb : 1 ≤ b) : (0 ≤ v → 0 ≤ v.tdiv b ∧ v.tdiv b ≤ v ∧ 0 ≤ v.tmod b ∧ v.tmod b < b ∧ v.tmod b ≤ v) ∧ (v ≤ 0 → v ≤ v.tdiv b ∧ v.tdiv b ≤ 0 ∧ -b < v.tmod b ∧ v.tmod b ≤ 0) := by
  have pos : ∀ u : Int, 0 ≤ u → 0 ≤ u.tdiv b ∧ u.tdiv b ≤ u ∧ 0 ≤ u.tmod b ∧ u.tmod b < b ∧ u.tmod b ≤ u := by
    intro u hu
    rw [Int.tdiv_eq_ediv_of_nonneg hu, Int.tmod_eq_emod_of_nonneg hu]
    have h1 := Int.ediv_nonneg hu (show 0 ≤ b by omega)
    have h2 := Int.ediv_le_self b hu
    have h3 := Int.emod_nonneg u (show b ≠ 0 by omega)
    have h4 := Int.emod_lt_of_pos u (show 0 < b by omega)
    have h6 := Int.mul_ediv_add_emod u b
    have h7 := Int.mul_nonneg (show 0 ≤ b by omega) h1
    have h5 : u % b ≤ u := by omega
    exact ⟨h1, h2, h3, h4, h5⟩
  refine ⟨pos v, fun hv => ?_⟩
  have h := pos (-v) (by omega)
  rw [Int.neg_tdiv, Int.neg_tmod] at h
  omega
theorem ne_t10 (v : Int) (hv : 0 ≤ v) : 0 ≤ v.tdiv 10 ∧ v.tdiv 10 ≤ v ∧ (0 < v → v.tdiv 10 < v) ∧ 0 ≤ v.tmod 10 ∧ v.tmod 10 ≤ 9 ∧ 10 * v.tdiv 10 ≤ v := by
  rw [Int.tdiv_eq_ediv_of_nonneg hv, Int.tmod_eq_emod_of_nonneg hv]
  omega
/-- a digit and the next rest -/
theorem ne_dg (a b : Int) (ha : 0 ≤ a) (hab : a < b) : 0 ≤ (10 * a).tdiv b ∧ (10 * a).tdiv b ≤ 9 ∧ 0 ≤ (10 * a).tmod b ∧ (10 * a).tmod b < b := by
  have h := (ne_tdm (10 * a) b (by omega)).1 (by omega)
  refine ⟨h.1, ?_, h.2.2.1, h.2.2.2.1⟩
  rw [Int.tdiv_eq_ediv_of_nonneg (by omega)]
  have h2 : 10 * a / b < 10 := Int.ediv_lt_of_lt_mul (by omega) (by omega)
  omega
/-- the rest behind n places -/
def ne_rs (t b : Int) : Nat → Int
  | 0 => t
  | n + 1 => (10 * ne_rs t b n).tmod b
theorem ne_rs_in (t b : Int) (h0 : 0 ≤ t) (h1 : t < b) : ∀ n, 0 ≤ ne_rs t b n ∧ ne_rs t b n < b
  | 0 => ⟨h0, h1⟩
  | n + 1 => by
    have h := ne_rs_in t b h0 h1 n
    have h2 := ne_dg _ b h.1 h.2
    exact ⟨h2.2.2.1, h2.2.2.2⟩

