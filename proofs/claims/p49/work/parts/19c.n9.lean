/-- the digit of a place -/
def n9_dg (t b : Int) (m : Nat) : Int := (10 * ne_rs t b m).tdiv b
theorem n9_dgB {t b : Int} (h0 : 0 ≤ t) (h1 : t < b) (m : Nat) : 0 ≤ n9_dg t b m ∧ n9_dg t b m ≤ 9 := by
  have h := ne_rs_in t b h0 h1 m
  have d := ne_dg (ne_rs t b m) b h.1 h.2
  exact ⟨d.1, d.2.1⟩
/-- what is carried to a place, and the digit there -/
def n9_cy (x : Nat → Int) : Nat → Int
  | 0 => 0
  | e + 1 => (x e + n9_cy x e) / 10
def n9_cd (x : Nat → Int) (e : Nat) : Int := (x e + n9_cy x e) % 10
theorem n9_cyN {x : Nat → Int} (h : ∀ e, 0 ≤ x e) : ∀ e, 0 ≤ n9_cy x e
  | 0 => Int.le_refl 0
  | e + 1 => by
    have h1 := n9_cyN h e
    have h2 := h e
    show 0 ≤ (x e + n9_cy x e) / 10
    omega
theorem n9_cyT {x : Nat → Int} (h : ∀ e, 0 ≤ x e) (e : Nat) : (x e + n9_cy x e).tdiv 10 = n9_cy x (e + 1) ∧ (x e + n9_cy x e).tmod 10 = n9_cd x e := by
  have h1 := n9_cyN h e
  have h2 := h e
  exact ⟨Int.tdiv_eq_ediv_of_nonneg (by omega), Int.tmod_eq_emod_of_nonneg (by omega)⟩
theorem n9_cyC {x y : Nat → Int} {n : Nat} (h : ∀ m, m < n → x m = y m) : ∀ e, e ≤ n → n9_cy x e = n9_cy y e
  | 0, _ => rfl
  | e + 1, he => by
    show (x e + n9_cy x e) / 10 = (y e + n9_cy y e) / 10
    rw [h e (by omega), n9_cyC h e (by omega)]
theorem n9_cdC {x y : Nat → Int} {n : Nat} (h : ∀ m, m < n → x m = y m) (e : Nat) (he : e < n) : n9_cd x e = n9_cd y e := by
  unfold n9_cd
  rw [h e he, n9_cyC h e (by omega)]
theorem n9_cdB (x : Nat → Int) (e : Nat) : 0 ≤ n9_cd x e ∧ n9_cd x e ≤ 9 := by
  unfold n9_cd
  omega
theorem n9_cyB {x : Nat → Int} {B : Int} (h : ∀ e, 0 ≤ x e ∧ x e ≤ 9 * B) (hB : 0 ≤ B) : ∀ e, n9_cy x e ≤ B
  | 0 => hB
  | e + 1 => by
    have h1 := n9_cyB h hB e
    have h2 := h e
    show (x e + n9_cy x e) / 10 ≤ B
    omega
theorem n9_cyZ {x : Nat → Int} {k : Nat} {B : Int} (hx : ∀ e, 0 ≤ x e ∧ x e ≤ 9 * B) (hB : 0 ≤ B ∧ B ≤ 99) (h0 : ∀ e, k ≤ e → x e = 0) : ∀ e, n9_cy x (k + 2 + e) = 0
  | 0 => by
    have h1 := n9_cyB hx hB.1 k
    have h2 := n9_cyN (fun e => (hx e).1) k
    have e1 : n9_cy x (k + 1) = (x k + n9_cy x k) / 10 := rfl
    have e2 : n9_cy x (k + 2) = (x (k + 1) + n9_cy x (k + 1)) / 10 := rfl
    have a1 := h0 k (by omega)
    have a2 := h0 (k + 1) (by omega)
    show n9_cy x (k + 2) = 0
    omega
  | e + 1 => by
    have e1 : n9_cy x (k + 2 + (e + 1)) = (x (k + 2 + e) + n9_cy x (k + 2 + e)) / 10 := rfl
    have a1 := n9_cyZ hx hB h0 e
    have a2 := h0 (k + 2 + e) (by omega)
    omega
theorem n9_cdZ {x : Nat → Int} {k : Nat} {B : Int} (hx : ∀ e, 0 ≤ x e ∧ x e ≤ 9 * B) (hB : 0 ≤ B ∧ B ≤ 99) (h0 : ∀ e, k ≤ e → x e = 0) (e : Nat) (he : k + 2 ≤ e) : n9_cd x e = 0 := by
  obtain ⟨d, rfl⟩ : ∃ d, e = k + 2 + d := ⟨e - (k + 2), by omega⟩
  have a1 := n9_cyZ hx hB h0 d
  have a2 := h0 (k + 2 + d) (by omega)
  unfold n9_cd
  omega
/-- nines, factor times, in h places -/
def n9_nn (h f : Int) (e : Nat) : Int := if (e : Int) < h then 9 * f else 0
theorem n9_cyA {a b x : Nat → Int} (hx : ∀ e, x e = n9_cd a e + b e) : ∀ e, n9_cy (fun e => a e + b e) e = n9_cy a e + n9_cy x e
  | 0 => rfl
  | e + 1 => by
    have h1 := n9_cyA hx e
    have h2 := hx e
    have h3 : n9_cd a e = (a e + n9_cy a e) % 10 := rfl
    show (a e + b e + n9_cy (fun e => a e + b e) e) / 10 = (a e + n9_cy a e) / 10 + (x e + n9_cy x e) / 10
    omega
theorem n9_cdA {a b x : Nat → Int} (hx : ∀ e, x e = n9_cd a e + b e) (e : Nat) : n9_cd (fun e => a e + b e) e = n9_cd x e := by
  have h1 := n9_cyA hx e
  have h2 := hx e
  have h3 : n9_cd a e = (a e + n9_cy a e) % 10 := rfl
  show (a e + b e + n9_cy (fun e => a e + b e) e) % 10 = (x e + n9_cy x e) % 10
  omega
/-- nines added to the digits of nines -/
def n9_ny (h f : Int) (e : Nat) : Int := n9_cd (n9_nn h f) e + n9_nn h 1 e
theorem n9_nyE (h f : Int) (e : Nat) : n9_cd (n9_ny h f) e = n9_cd (n9_nn h (f + 1)) e := by
  have h1 : n9_nn h (f + 1) = fun e => n9_nn h f e + n9_nn h 1 e := by
    funext e
    unfold n9_nn
    by_cases g : (e : Int) < h
    · rw [if_pos g, if_pos g, if_pos g]
      omega
    · rw [if_neg g, if_neg g, if_neg g, Int.add_zero]
  rw [h1]
  exact (n9_cdA (fun _ => rfl) e).symm
theorem n9_nnB {h f B : Int} (hf : 0 ≤ f ∧ f ≤ B) (e : Nat) : 0 ≤ n9_nn h f e ∧ n9_nn h f e ≤ 9 * B := by
  unfold n9_nn
  split <;> omega
theorem n9_nyB (h f : Int) (e : Nat) : 0 ≤ n9_ny h f e ∧ n9_ny h f e ≤ 9 * 2 := by
  have h1 := n9_cdB (n9_nn h f) e
  have h2 := n9_nnB (h := h) (f := 1) (B := 1) (by omega) e
  unfold n9_ny
  omega
/-- the sum of the digits that come to place e, of the first m places of the wheel -/
def n9_col (t b L h : Int) : Nat → Nat → Int
  | 0, _ => 0
  | m + 1, e => n9_col t b L h m e + (if (L - 1 - (m : Int)).tmod h = (e : Int) then n9_dg t b m else 0)
/-- the same, part by part -/
def n9_ds (t b h e : Int) : Nat → Int
  | 0 => 0
  | p + 1 => n9_ds t b h e p + n9_dg t b ((p : Int) * h + (h - 1 - e)).toNat
theorem n9_dsB {t b : Int} (h0 : 0 ≤ t) (h1 : t < b) (h e : Int) : ∀ p : Nat, 0 ≤ n9_ds t b h e p ∧ n9_ds t b h e p ≤ 9 * (p : Int)
  | 0 => by show (0 : Int) ≤ 0 ∧ (0 : Int) ≤ 9 * ((0 : Nat) : Int); omega
  | p + 1 => by
    have k1 := n9_dsB h0 h1 h e p
    have k2 := n9_dgB h0 h1 ((p : Int) * h + (h - 1 - e)).toNat
    show 0 ≤ n9_ds t b h e p + n9_dg t b ((p : Int) * h + (h - 1 - e)).toNat ∧ n9_ds t b h e p + n9_dg t b ((p : Int) * h + (h - 1 - e)).toNat ≤ 9 * ((p + 1 : Nat) : Int)
    omega
theorem n9_tm {q h r : Int} (hq : 0 ≤ q) (hr : 0 ≤ r) (hrh : r < h) : (q * h + r).tmod h = r := by
  have : 0 ≤ q * h := Int.mul_nonneg hq (by omega)
  rw [Int.tmod_eq_emod_of_nonneg (by omega), Int.mul_add_emod_self_right, Int.emod_eq_of_lt hr hrh]
theorem n9_colJ (t b h e : Int) (P p : Nat) (hp : p < P) (he : 0 ≤ e ∧ e < h) (k : Nat) (hk : (k : Int) = e) : ∀ j : Nat, (j : Int) ≤ h → n9_col t b ((P : Int) * h) h (((p : Int) * h).toNat + j) k = n9_col t b ((P : Int) * h) h ((p : Int) * h).toNat k + (if h - 1 - e < (j : Int) then n9_dg t b ((p : Int) * h + (h - 1 - e)).toNat else 0)
  | 0, _ => by
    rw [if_neg (by omega)]
    show n9_col t b ((P : Int) * h) h ((p : Int) * h).toNat k = _
    omega
  | j + 1, hj => by
    have ih := n9_colJ t b h e P p hp he k hk j (by omega)
    have h0 : 0 ≤ (p : Int) * h := Int.mul_nonneg (by omega) (by omega)
    have e1 : (P : Int) * h - 1 - ((((p : Int) * h).toNat + j : Nat) : Int) = ((P : Int) - 1 - p) * h + (h - 1 - j) := by
      rw [Int.sub_mul, Int.sub_mul, Int.one_mul]
      omega
    have e2 : ((P : Int) * h - 1 - ((((p : Int) * h).toNat + j : Nat) : Int)).tmod h = h - 1 - j := by
      rw [e1]
      exact n9_tm (by omega) (by omega) (by omega)
    show n9_col t b ((P : Int) * h) h (((p : Int) * h).toNat + j) k + (if ((P : Int) * h - 1 - ((((p : Int) * h).toNat + j : Nat) : Int)).tmod h = (k : Int) then n9_dg t b (((p : Int) * h).toNat + j) else 0) = _
    rw [ih, e2]
    rcases (show h - 1 - e < (j : Int) ∨ h - 1 - e = (j : Int) ∨ (j : Int) < h - 1 - e by omega) with g | g | g
    · rw [if_pos g, if_neg (by omega), if_pos (by omega), Int.add_zero]
    · rw [if_neg (by omega), if_pos (by omega), if_pos (by omega), Int.add_zero, show ((p : Int) * h + (h - 1 - e)).toNat = ((p : Int) * h).toNat + j by omega]
    · rw [if_neg (by omega), if_neg (by omega), if_neg (by omega), Int.add_zero]
theorem n9_colP (t b h e : Int) (P : Nat) (he : 0 ≤ e ∧ e < h) (k : Nat) (hk : (k : Int) = e) : ∀ p : Nat, p ≤ P → n9_col t b ((P : Int) * h) h ((p : Int) * h).toNat k = n9_ds t b h e p
  | 0, _ => by
    have e0 : (((0 : Nat) : Int) * h).toNat = 0 := by simp
    rw [e0]
    rfl
  | p + 1, hp => by
    have h0 : 0 ≤ (p : Int) * h := Int.mul_nonneg (by omega) (by omega)
    have h1 := n9_colJ t b h e P p (by omega) he k hk h.toNat (by omega)
    rw [if_pos (by omega), n9_colP t b h e P he k hk p (by omega)] at h1
    have e3 : ((p + 1 : Nat) : Int) * h = (p : Int) * h + h := by rw [show ((p + 1 : Nat) : Int) = (p : Int) + 1 by omega, Int.add_mul, Int.one_mul]
    rw [e3, show ((p : Int) * h + h).toNat = ((p : Int) * h).toNat + h.toNat by omega]
    exact h1
theorem n9_colH (t b L h : Int) (hh : 1 ≤ h) (k : Nat) (hk : h ≤ (k : Int)) : ∀ m : Nat, (m : Int) ≤ L → n9_col t b L h m k = 0
  | 0, _ => rfl
  | m + 1, hm => by
    have h1 := n9_colH t b L h hh k hk m (by omega)
    have h2 := (ne_tdm (L - 1 - (m : Int)) h hh).1 (by omega)
    show n9_col t b L h m k + (if (L - 1 - (m : Int)).tmod h = (k : Int) then n9_dg t b m else 0) = 0
    rw [h1, if_neg (by omega), Int.add_zero]
/-- the columns of the parts' sum -/
def n9_cl (t b h p : Int) (e : Nat) : Int := if (e : Int) < h then n9_ds t b h e p.toNat else 0
theorem n9_colE {t b L h p : Int} (hh : 1 ≤ h) (hp : 0 ≤ p) (hL : p * h = L) (k : Nat) : n9_col t b L h L.toNat k = n9_cl t b h p k := by
  unfold n9_cl
  have e0 : ((p.toNat : Nat) : Int) = p := by omega
  have h0 : 0 ≤ p * h := Int.mul_nonneg hp (by omega)
  split
  · rename_i g
    have h1 := n9_colP t b h k p.toNat ⟨by omega, g⟩ k rfl p.toNat (by omega)
    rw [e0, hL] at h1
    exact h1
  · rename_i g
    exact n9_colH t b L h hh k (by omega) L.toNat (by omega)
theorem n9_clB {t b h p : Int} (h0 : 0 ≤ t) (h1 : t < b) (hp : 0 ≤ p) (e : Nat) : 0 ≤ n9_cl t b h p e ∧ n9_cl t b h p e ≤ 9 * p := by
  have h2 := n9_dsB h0 h1 h e p.toNat
  unfold n9_cl
  split <;> omega
/-- the parts' sum is factor times the nines -/
def n9_eq (t b L p f : Int) : Prop := ∀ m : Nat, m < 98 → n9_cd (n9_cl t b (L.tdiv p) p) m = n9_cd (n9_nn (L.tdiv p) f) m
theorem n9_eqE {t b L p f : Int} (h0 : 0 ≤ t) (h1 : t < b) (hp : 0 ≤ p ∧ p ≤ 12) (hf : 0 ≤ f ∧ f ≤ 12) (hh : 0 ≤ L.tdiv p ∧ L.tdiv p ≤ 96) : n9_eq t b L p f ↔ ∀ m : Nat, (m : Int) < L.tdiv p + 2 → n9_cd (n9_cl t b (L.tdiv p) p) m = n9_cd (n9_nn (L.tdiv p) f) m := by
  constructor
  · intro h m hm
    exact h m (by omega)
  · intro h m hm
    rcases (show (m : Int) < L.tdiv p + 2 ∨ (L.tdiv p).toNat + 2 ≤ m by omega) with g | g
    · exact h m g
    · rw [n9_cdZ (x := n9_cl t b (L.tdiv p) p) (k := (L.tdiv p).toNat) (B := 12) (fun e => by have := n9_clB (h := L.tdiv p) h0 h1 hp.1 e; omega) (by omega) (fun e he => by unfold n9_cl; rw [if_neg (by omega)]) m g, n9_cdZ (x := n9_nn (L.tdiv p) f) (k := (L.tdiv p).toNat) (B := 12) (fun e => n9_nnB hf e) (by omega) (fun e he => by unfold n9_nn; rw [if_neg (by omega)]) m g]
/-- what nines answers -/
def n9_nin (t b L p z : Int) : Prop := (L.tmod p ≠ 0 ∧ z = -9) ∨ (L.tmod p = 0 ∧ ((0 ≤ z ∧ z ≤ p ∧ n9_eq t b L p z ∧ ∀ f : Int, 0 ≤ f → f < z → ¬ n9_eq t b L p f) ∨ (z = -1 ∧ ∀ f : Int, 0 ≤ f → f ≤ p → ¬ n9_eq t b L p f)))
theorem n9_ninU {t b L p z z' : Int} (h : n9_nin t b L p z) (h' : n9_nin t b L p z') : z = z' := by
  rcases h with ⟨a1, a2⟩ | ⟨a1, ⟨a2, a3, a4, a5⟩ | ⟨a2, a3⟩⟩
  · rcases h' with ⟨b1, b2⟩ | ⟨b1, -⟩
    · omega
    · exact absurd b1 a1
  · rcases h' with ⟨b1, b2⟩ | ⟨b1, ⟨b2, b3, b4, b5⟩ | ⟨b2, b3⟩⟩
    · exact absurd a1 b1
    · rcases (show z < z' ∨ z' < z ∨ z = z' by omega) with g | g | g
      · exact absurd a4 (b5 z a2 g)
      · exact absurd b4 (a5 z' b2 g)
      · exact g
    · exact absurd a4 (b3 z a2 a3)
  · rcases h' with ⟨b1, b2⟩ | ⟨b1, ⟨b2, b3, b4, b5⟩ | ⟨b2, b3⟩⟩
    · exact absurd a1 b1
    · exact absurd b4 (a3 z' b2 b3)
    · omega
theorem n9_cy0 {x : Nat → Int} {e : Nat} (h : e = 0) : 0 = n9_cy x e := by
  subst h
  rfl
theorem n9_upI {f g : Nat → Int} {i m : Nat} {v : Int} (h : g = va_up f i v) : (m = i ∧ g m = v) ∨ (m ≠ i ∧ g m = f m) := by
  by_cases e : m = i
  · refine Or.inl ⟨e, ?_⟩
    rw [h, e]
    unfold va_up
    rw [if_pos rfl]
  · refine Or.inr ⟨e, ?_⟩
    rw [h, va_up_ne _ _ e]
/-- a row that holds the columns of the first M places -/
def n9_ci (t b L h : Int) (M : Nat) (x : Nat → Int) : Prop := ∀ m : Nat, m < 98 → x m = n9_col t b L h M m
theorem n9_ciS {x x' : Nat → Int} {t b L h j z w : Int} (hj : 0 ≤ j ∧ j < L) (q : n9_ci t b L h (L - 1 - j).toNat x) (hz : z = n9_dg t b (L - 1 - j).toNat) (hw : w = j.tmod h) (hw0 : 0 ≤ w ∧ w < 98) (g : (0 ≤ w ∧ w < 98 ∧ x' = va_up x w.toNat (x w.toNat + z)) ∨ ((w < 0 ∨ 98 ≤ w) ∧ x' = x)) : n9_ci t b L h (L - 1 - (j + -1)).toNat x' := by
  intro m hm
  rw [show (L - 1 - (j + -1)).toNat = (L - 1 - j).toNat + 1 by omega]
  show x' m = n9_col t b L h (L - 1 - j).toNat m + (if (L - 1 - (((L - 1 - j).toNat : Nat) : Int)).tmod h = (m : Int) then n9_dg t b (L - 1 - j).toNat else 0)
  rw [show L - 1 - (((L - 1 - j).toNat : Nat) : Int) = j by omega, ← hw, ← hz, ← q m hm]
  rcases g with ⟨-, -, g⟩ | ⟨g, -⟩
  · rcases n9_upI (m := m) g with ⟨rfl, e2⟩ | ⟨e1, e2⟩
    · rw [e2, if_pos (by omega)]
    · rw [e2, if_neg (by omega), Int.add_zero]
  · exfalso; omega
/-- two rows of digits, the highest first, are alike where the sum is so many times the nines -/
theorem n9_lk {f1 f2 : Nat → Int} {t b L p j : Int} {n : Nat} (h0 : 0 ≤ t) (h1 : t < b) (hp : 0 ≤ p ∧ p ≤ 12) (hj : 0 ≤ j ∧ j ≤ 12) (hn : (n : Int) = L.tdiv p + 2) (hn2 : 2 ≤ n ∧ n ≤ 98) (k1 : ∀ m : Nat, m < n → f1 m = n9_cd (n9_cl t b (L.tdiv p) p) (n - 1 - m)) (k2 : ∀ m : Nat, m < n → f2 m = n9_cd (n9_nn (L.tdiv p) j) (n - 1 - m)) : (∀ m : Nat, m < n → f2 m = f1 m) ↔ n9_eq t b L p j := by
  rw [n9_eqE h0 h1 hp hj (by omega)]
  constructor
  · intro h m hm
    have h9 := h (n - 1 - m) (by omega)
    rw [k1 _ (by omega), k2 _ (by omega), show n - 1 - (n - 1 - m) = m by omega] at h9
    exact h9.symm
  · intro h m hm
    rw [k1 m hm, k2 m hm]
    exact (h (n - 1 - m) (by omega)).symm
theorem n9_cyO {x : Nat → Int} (h : ∀ e, x e = 0) : ∀ e, n9_cy x e = 0
  | 0 => rfl
  | e + 1 => by
    have h1 := n9_cyO h e
    have h2 := h e
    show (x e + n9_cy x e) / 10 = 0
    omega
theorem n9_cdO {x : Nat → Int} (h : ∀ e, x e = 0) (e : Nat) : n9_cd x e = 0 := by
  have h1 := n9_cyO h e
  have h2 := h e
  unfold n9_cd
  omega
theorem n9_nn0 (h : Int) (e : Nat) : n9_cd (n9_nn h 0) e = 0 :=
  n9_cdO (fun e => by unfold n9_nn; split <;> rfl) e
