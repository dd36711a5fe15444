/-- a step of the checksum -/
def n7_j (s v : Int) : Int := s * 31 + v
/-- how one stands to the other -/
def n7_od (a b : Int) : Int := if a < b then -1 else if b < a then 1 else 0
theorem n7_odE {a b z : Int} (h1 : -1 ≤ z) (h2 : z ≤ 1) (h3 : z < 0 ↔ a < b) (h4 : 0 < z ↔ b < a) : z = n7_od a b := by
  unfold n7_od
  split
  · omega
  · split <;> omega
noncomputable def n7_dn (a : Int) : Int := Classical.epsilon (fun z => ne_dn a z)
theorem n7_dnE {a z : Int} (h : ne_dn a z) : z = n7_dn a := ne_dnU h (Classical.epsilon_spec (p := fun z => ne_dn a z) ⟨z, h⟩)
noncomputable def n7_nv (t b L p : Int) : Int := Classical.epsilon (fun z => n9_nin t b L p z)
theorem n7_nvE {t b L p z : Int} (h : n9_nin t b L p z) : z = n7_nv t b L p := n9_ninU h (Classical.epsilon_spec (p := fun z => n9_nin t b L p z) ⟨z, h⟩)
/-- the count of a cell in units of 3 places -/
def n7_cv (c q : Nat → Int) (i : Nat) : Int := c i * 10 ^ (3 - q i).toNat
def n7_sm (c q : Nat → Int) (i j : Nat) : Int := if c i = c j ∧ q i = q j then 1 else 0
def n7_sp (t b k n : Nat → Int) (i : Nat) : Nat → Int
  | 0 => t i
  | 1 => b i
  | 2 => k i
  | 3 => ne_rs (t i) (b i) (k i).toNat
  | _ => n i
noncomputable def n7_c1 (c q : Nat → Int) (d : Int) : Nat → Int
  | 0 => d
  | m + 1 => n7_j (n7_j (n7_j (n7_j (n7_c1 c q d m) (c m)) (q m)) (n7_dn (c m))) (n7_od (c m) 0)
def n7_p1 (c q : Nat → Int) (i : Nat) (d : Int) : Nat → Int
  | 0 => d
  | m + 1 => n7_j (n7_j (n7_p1 c q i d m) (n7_od (n7_cv c q i) (n7_cv c q (i + 1 + m)))) (n7_sm c q i (i + 1 + m))
def n7_p2 (c q : Nat → Int) (d : Int) : Nat → Int
  | 0 => d
  | i + 1 => n7_p1 c q i (n7_p2 c q d i) (3 - i)
def n7_w1 (t b k n : Nat → Int) (i : Nat) (d : Int) : Nat → Int
  | 0 => d
  | m + 1 => n7_j (n7_w1 t b k n i d m) (n7_sp t b k n i m)
def n7_a1 (c q t b : Nat → Int) (i : Nat) (d : Int) : Nat → Int
  | 0 => d
  | m + 1 => n7_j (n7_a1 c q t b i d m) (n7_od (t i * 10 ^ (q m).toNat) (c m * b i))
noncomputable def n7_d3 (t b k n : Nat → Int) (i : Nat) (d : Int) : Int := n7_j (n7_j (n7_w1 t b k n i d 5) (n7_nv (t i) (b i) (n i) 2)) (n7_nv (t i) (b i) (n i) 3)
noncomputable def n7_wl (c q t b k n : Nat → Int) (i : Nat) (d : Int) : Int := n7_a1 c q t b i (n7_d3 t b k n i d) 4
noncomputable def n7_w3 (c q t b k n : Nat → Int) (d : Int) : Nat → Int
  | 0 => d
  | i + 1 => n7_wl c q t b k n i (n7_w3 c q t b k n d i)
def n7_q1 (t b : Nat → Int) (i : Nat) (d : Int) : Nat → Int
  | 0 => d
  | m + 1 => n7_j (n7_q1 t b i d m) (n7_od (t i * b (i + 1 + m)) (t (i + 1 + m) * b i))
def n7_q2 (t b : Nat → Int) (d : Int) : Nat → Int
  | 0 => d
  | i + 1 => n7_q1 t b i (n7_q2 t b d i) (2 - i)
def n7_h1 (h : Nat → Int) (d : Int) : Nat → Int
  | 0 => d
  | m + 1 => n7_j (n7_h1 h d m) (h m)
noncomputable def n7_dc (c q : Nat → Int) (d : Int) : Int := n7_p2 c q (n7_c1 c q d 4) 4
noncomputable def n7_dw (c q t b k n : Nat → Int) (d : Int) : Int := n7_q2 t b (n7_w3 c q t b k n d 3) 3
/-- the checksum, as a whole number without bounds -/
noncomputable def n7_dig (c q t b k n h : Nat → Int) : Int := n7_j (n7_h1 h (n7_dw c q t b k n (n7_dc c q 7944)) 4) 1
/-- .. in 64 bits -/
def n7_w (d : Int) : Int := (Int64.ofInt d).toInt
theorem n7_wE (d : Int) : some (nl d) = some (nl (n7_w d)) := by
  have e9 : nl (n7_w d) = nl d := by show Value.long (Int64.ofInt (Int64.ofInt d).toInt) = Value.long _; rw [Int64.ofInt_toInt]
  rw [e9]
theorem n7_wB (d : Int) : -9223372036854775808 ≤ n7_w d ∧ n7_w d < 9223372036854775808 := by
  have h1 := Int64.le_toInt (Int64.ofInt d)
  have h2 := Int64.toInt_lt (Int64.ofInt d)
  unfold n7_w
  omega
