theorem n9_dgE (t b : Int) (m : Nat) : n9_dg t b m * b = 10 * ne_rs t b m - ne_rs t b (m + 1) := by
  have h : ne_rs t b (m + 1) = (10 * ne_rs t b m).tmod b := rfl
  have h2 := Int.tmod_def (10 * ne_rs t b m) b
  have h3 : n9_dg t b m * b = b * (10 * ne_rs t b m).tdiv b := Int.mul_comm _ _
  omega
/-- the columns of the product -/
def n9_pd (t b L : Int) (e : Nat) : Int := if (e : Int) < L then n9_dg t b (L - 1 - (e : Int)).toNat * b else 0
theorem n9_pdN {t b : Int} (h0 : 0 ≤ t) (h1 : t < b) (L : Int) (e : Nat) : 0 ≤ n9_pd t b L e := by
  unfold n9_pd
  split
  · exact Int.mul_nonneg (n9_dgB h0 h1 _).1 (by omega)
  · exact Int.le_refl 0
theorem n9_pdC {t b : Int} {k : Nat} (hk : ne_rs t b k = t) : ∀ e : Nat, e ≤ k → n9_cy (n9_pd t b (k : Int)) e = n9_cy (n9_nn (k : Int) t) e + (ne_rs t b (k - e) - t)
  | 0, _ => by
    show (0 : Int) = 0 + (ne_rs t b (k - 0) - t)
    rw [Nat.sub_zero, hk]
    omega
  | e + 1, he => by
    have h1 := n9_pdC hk e (by omega)
    have h2 : n9_pd t b (k : Int) e = 10 * ne_rs t b (k - (e + 1)) - ne_rs t b (k - e) := by
      unfold n9_pd
      rw [if_pos (by omega), show ((k : Int) - 1 - (e : Int)).toNat = k - (e + 1) by omega, n9_dgE, show k - (e + 1) + 1 = k - e by omega]
    have h3 : n9_nn (k : Int) t e = 9 * t := by
      unfold n9_nn
      rw [if_pos (by omega)]
    show (n9_pd t b (k : Int) e + n9_cy (n9_pd t b (k : Int)) e) / 10 = (n9_nn (k : Int) t e + n9_cy (n9_nn (k : Int) t) e) / 10 + (ne_rs t b (k - (e + 1)) - t)
    omega
theorem n9_tl {x y : Nat → Int} {k : Nat} (h : ∀ e, k ≤ e → x e = y e) (hc : n9_cy x k = n9_cy y k) : ∀ d : Nat, n9_cy x (k + d) = n9_cy y (k + d)
  | 0 => hc
  | d + 1 => by
    have h1 := n9_tl h hc d
    have h2 := h (k + d) (by omega)
    show (x (k + d) + n9_cy x (k + d)) / 10 = (y (k + d) + n9_cy y (k + d)) / 10
    rw [h1, h2]
/-- the product is so many times the nines -/
theorem n9_prod {t b L : Int} (hP : ne_per t b L) (e : Nat) : n9_cd (n9_pd t b L) e = n9_cd (n9_nn L t) e := by
  obtain ⟨k, rfl⟩ : ∃ k : Nat, L = (k : Int) := ⟨L.toNat, by have := hP.1; omega⟩
  have hk : ne_rs t b k = t := by
    have := hP.2.2.2
    rwa [show ((k : Int)).toNat = k by omega] at this
  have key := n9_pdC hk
  rcases (show e < k ∨ k ≤ e by omega) with g | g
  · have h1 := key e (by omega)
    have h2 : n9_pd t b (k : Int) e = 10 * ne_rs t b (k - (e + 1)) - ne_rs t b (k - e) := by
      unfold n9_pd
      rw [if_pos (by omega), show ((k : Int) - 1 - (e : Int)).toNat = k - (e + 1) by omega, n9_dgE, show k - (e + 1) + 1 = k - e by omega]
    have h3 : n9_nn (k : Int) t e = 9 * t := by
      unfold n9_nn
      rw [if_pos (by omega)]
    unfold n9_cd
    omega
  · have z1 : ∀ e : Nat, k ≤ e → n9_pd t b (k : Int) e = n9_nn (k : Int) t e := by
      intro e he
      unfold n9_pd n9_nn
      rw [if_neg (by omega), if_neg (by omega)]
    have h1 := key k (Nat.le_refl k)
    rw [Nat.sub_self, show ne_rs t b 0 = t from rfl, Int.sub_self, Int.add_zero] at h1
    obtain ⟨d, rfl⟩ : ∃ d, e = k + d := ⟨e - k, by omega⟩
    unfold n9_cd
    rw [z1 _ g, n9_tl z1 h1 d]
/-- a row that holds the columns of the product above place j -/
def n9_pi (t b L j : Int) (x : Nat → Int) : Prop := ∀ m : Nat, m < 98 → (j < (m : Int) → x m = n9_pd t b L m) ∧ ((m : Int) ≤ j → x m = 0)
theorem n9_piS {x x' : Nat → Int} {t b L j z : Int} (hj : 0 ≤ j ∧ j < L) (hL : L ≤ 96) (q : n9_pi t b L j x) (hz : z = n9_dg t b (L - 1 - j).toNat * b) (g : (0 ≤ j ∧ j < 98 ∧ x' = va_up x j.toNat (x j.toNat + z)) ∨ ((j < 0 ∨ 98 ≤ j) ∧ x' = x)) : n9_pi t b L (j + -1) x' := by
  intro m hm
  have q9 := q m hm
  rcases g with ⟨-, -, g⟩ | ⟨g, -⟩
  · rcases n9_upI (m := m) g with ⟨rfl, e2⟩ | ⟨e1, e2⟩
    · refine ⟨fun _ => ?_, fun h9 => by omega⟩
      rw [e2, q9.2 (by omega), hz, Int.zero_add]
      unfold n9_pd
      rw [if_pos (by omega), show L - 1 - ((j.toNat : Nat) : Int) = L - 1 - j by omega]
    · rw [e2]
      exact ⟨fun h9 => q9.1 (by omega), fun h9 => q9.2 (by omega)⟩
  · exfalso; omega
theorem n9_rdo {a b w w' z : Int} (hb : 1 ≤ b) (h2 : b.tmod 2 ≠ 0) (hw : 4 ≤ w ∧ w ≤ 6) (hw' : 4 ≤ w' ∧ w' ≤ 6) (h : ne_rd a b w z) : ne_rd a b w' z := by
  obtain ⟨f, f1, f2, f3⟩ := h
  rw [Int.tmod_eq_emod_of_nonneg (by omega)] at h2
  refine ⟨f, f1, f2, ?_⟩
  rcases f3 with h | ⟨p1, p2, p3, p4, p5, p6, p7, p8⟩
  · exact Or.inl h
  · have k := p8 hw.1
    exact Or.inr ⟨p1, by omega, p3, fun h => by omega, fun h => by omega, fun h => by omega, fun h => by omega, fun _ => ⟨k.1, k.2.1, fun h9 => absurd h9 (by omega)⟩⟩
theorem n9_cop (t b : Int) (h0 : 0 < t) (h1 : t < b) (hb : b ≤ 99) (h2 : b.tmod 2 ≠ 0) (h5 : b.tmod 5 ≠ 0) : (t * 100000) % b ≠ 0 := by
  have key : ∀ d : Fin 100, (d.val : Int).tmod 2 ≠ 0 → (d.val : Int).tmod 5 ≠ 0 → ∀ s : Fin 100, 0 < s.val → s.val < d.val → ((s.val : Int) * 100000) % (d.val : Int) ≠ 0 := by decide +kernel
  have e : ((b.toNat : Nat) : Int) = b := by omega
  have e' : ((t.toNat : Nat) : Int) = t := by omega
  have k := key ⟨b.toNat, by omega⟩ (by show ((b.toNat : Nat) : Int).tmod 2 ≠ 0; rw [e]; exact h2) (by show ((b.toNat : Nat) : Int).tmod 5 ≠ 0; rw [e]; exact h5) ⟨t.toNat, by omega⟩ (by show 0 < t.toNat; omega) (by show t.toNat < b.toNat; omega)
  have k2 : (((t.toNat : Nat) : Int) * 100000) % ((b.toNat : Nat) : Int) ≠ 0 := k
  rw [e, e'] at k2
  exact k2
/-- a wheel's fraction cut to 5 places -/
theorem n9_cut {t b z0 z1 : Int} (h0 : 0 ≤ t) (h1 : t < b) (hb : b ≤ 99) (h2 : b.tmod 2 ≠ 0) (h5 : b.tmod 5 ≠ 0) (r0 : ne_rd (ne_cv t 0 5) b 0 z0) (r1 : ne_rd (ne_cv t 0 5) b 1 z1) : (t = 0 → z0 - z1 = 0) ∧ (t ≠ 0 → z0 - z1 = 1) := by
  have hA : ne_cv t 0 5 = t * 100000 := by
    unfold ne_cv
    rw [if_pos rfl]
    rfl
  rw [hA] at r0 r1
  have hb0 : (0 : Int) < b := by omega
  constructor
  · intro ht
    subst ht
    have k0 : ∀ w : Int, ne_rd (0 * 100000) b w 0 := fun w => ⟨0, by omega, by omega, Or.inl ⟨by omega, rfl⟩⟩
    have e0 := ne_rdU hb0 hb0 (by omega) rfl r0 (k0 0)
    have e1 := ne_rdU hb0 hb0 (by omega) rfl r1 (k0 1)
    omega
  · intro ht
    have hc := n9_cop t b (by omega) h1 hb h2 h5
    obtain ⟨f, f1, f2, f3⟩ := r0
    rcases f3 with ⟨g1, g2⟩ | ⟨p1, p2, p3, p4, p5, p6, p7, p8⟩
    · exfalso
      apply hc
      rw [g1]
      exact Int.mul_emod_left f b
    · have e0 : z0 = f + 1 := (p4 rfl).mpr (by omega)
      have e1 : z1 = f := ne_rdU hb0 hb0 (by omega) rfl r1 ⟨f, f1, f2, Or.inr ⟨p1, by omega, Or.inl rfl, fun h => by omega, fun _ => ⟨fun _ => by omega, fun _ => rfl⟩, fun h => by omega, fun h => by omega, fun h => by omega⟩⟩
      omega
theorem n9_cutE {t b w w' z z' : Int} (hb : 1 ≤ b) (h2 : b.tmod 2 ≠ 0) (hw : 4 ≤ w ∧ w ≤ 6) (hw' : 4 ≤ w' ∧ w' ≤ 6) (r : ne_rd (ne_cv t 0 5) b w z) (r' : ne_rd (ne_cv t 0 5) b w' z') : z = z' :=
  ne_rdU (show (0 : Int) < b by omega) (show (0 : Int) < b by omega) (show 0 ≤ w ∧ w ≤ 7 by omega) rfl r (n9_rdo hb h2 hw' hw r')
theorem n9_or7 {w : Int} {X Y : Prop} {P Q : Prop} (hw : w ≠ 7) (h : (X ∧ w = 7 ∧ Y) ∨ (P ∧ Q)) : P ∧ Q := by
  rcases h with ⟨-, h, -⟩ | h
  · exact absurd h hw
  · exact h
/-- the borrow, at the wheel's places -/
theorem n9_bwA {r t x c v : Int} (hr : 0 ≤ r ∧ r ≤ t) (ht : t ≤ 98) (hx : x = 9 * t) (hc : c = t - r) (hv : v = 0 - r % 10) : (0 ≤ v → (x + c) % 10 = v ∧ (x + c) / 10 = t - r / 10 ∧ r / 10 ≤ t) ∧ (v < 0 → (x + c) % 10 = v + 10 ∧ (x + c) / 10 = t - (r / 10 + 1) ∧ r / 10 + 1 ≤ t) := by
  omega
theorem n9_bwB {r t x c v : Int} (hr : 0 ≤ r ∧ r ≤ t) (ht : t ≤ 98) (hx : x = 0) (hc : c = t - r) (hv : v = t % 10 - r % 10) : (0 ≤ v → (x + c) % 10 = v ∧ (x + c) / 10 = t / 10 - r / 10 ∧ r / 10 ≤ t / 10) ∧ (v < 0 → (x + c) % 10 = v + 10 ∧ (x + c) / 10 = t / 10 - (r / 10 + 1) ∧ r / 10 + 1 ≤ t / 10) := by
  omega
theorem n9_bwC {r t x c v : Int} (hr : 0 ≤ r ∧ r ≤ t / 10) (ht : 0 ≤ t ∧ t ≤ 98) (hx : x = 0) (hc : c = t / 10 - r) (hv : v = t / 10 - r % 10) : 0 ≤ v ∧ (x + c) % 10 = v := by
  omega
/-- where the subtraction stands: t with the wheel's zeros behind it, less r still to be taken; e the place, L the wheel's length -/
def n9_bi (t L e r : Int) : Prop := 0 ≤ r ∧ r ≤ 98 ∧ (e ≤ L → r ≤ t ∧ n9_cy (n9_nn L t) e.toNat = t - r) ∧ (e = L + 1 → r ≤ t / 10 ∧ n9_cy (n9_nn L t) e.toNat = t / 10 - r)
/-- what stands in a place before anything is taken -/
def n9_ba (t L e a : Int) : Prop := (e < L → a = 0) ∧ (e = L → a = t % 10) ∧ (e = L + 1 → a = t / 10)
theorem n9_bS {t L e r a v : Int} (ht : 0 ≤ t ∧ t ≤ 98) (hL : 1 ≤ L) (he : 0 ≤ e ∧ e ≤ L + 1) (h : n9_bi t L e r) (ha : n9_ba t L e a) (hv : v = a - r % 10) : (0 ≤ v → n9_cd (n9_nn L t) e.toNat = v ∧ n9_bi t L (e + 1) (r / 10)) ∧ (v < 0 → n9_cd (n9_nn L t) e.toNat = v + 10 ∧ n9_bi t L (e + 1) (r / 10 + 1)) := by
  obtain ⟨h1, h2, h3, h4⟩ := h
  obtain ⟨a1, a2, a3⟩ := ha
  have hd : n9_cd (n9_nn L t) e.toNat = (n9_nn L t e.toNat + n9_cy (n9_nn L t) e.toNat) % 10 := rfl
  have hc : n9_cy (n9_nn L t) (e + 1).toNat = (n9_nn L t e.toNat + n9_cy (n9_nn L t) e.toNat) / 10 := by
    rw [show (e + 1).toNat = e.toNat + 1 by omega]
    rfl
  have hn : (e < L → n9_nn L t e.toNat = 9 * t) ∧ (L ≤ e → n9_nn L t e.toNat = 0) := by
    unfold n9_nn
    exact ⟨fun h => if_pos (by omega), fun h => if_neg (by omega)⟩
  rw [hd]
  unfold n9_bi
  rw [hc]
  generalize n9_nn L t e.toNat = x at hn ⊢
  generalize n9_cy (n9_nn L t) e.toNat = c at h3 h4 ⊢
  rcases (show e < L ∨ e = L ∨ e = L + 1 by omega) with g | g | g
  · have k := n9_bwA (r := r) (t := t) (x := x) (c := c) (v := v) ⟨h1, (h3 (by omega)).1⟩ ht.2 (hn.1 g) (h3 (by omega)).2 (by rw [hv, a1 g])
    refine ⟨fun g9 => ?_, fun g9 => ?_⟩
    · have k1 := k.1 g9
      exact ⟨k1.1, by omega, by omega, fun _ => ⟨k1.2.2, k1.2.1⟩, fun h => by omega⟩
    · have k1 := k.2 g9
      exact ⟨k1.1, by omega, by omega, fun _ => ⟨k1.2.2, k1.2.1⟩, fun h => by omega⟩
  · have k := n9_bwB (r := r) (t := t) (x := x) (c := c) (v := v) ⟨h1, (h3 (by omega)).1⟩ ht.2 (hn.2 (by omega)) (h3 (by omega)).2 (by rw [hv, a2 g])
    refine ⟨fun g9 => ?_, fun g9 => ?_⟩
    · have k1 := k.1 g9
      exact ⟨k1.1, by omega, by omega, fun h => by omega, fun _ => ⟨k1.2.2, k1.2.1⟩⟩
    · have k1 := k.2 g9
      exact ⟨k1.1, by omega, by omega, fun h => by omega, fun _ => ⟨k1.2.2, k1.2.1⟩⟩
  · have k := n9_bwC (r := r) (t := t) (x := x) (c := c) (v := v) ⟨h1, (h4 g).1⟩ ht (hn.2 (by omega)) (h4 g).2 (by rw [hv, a3 g])
    refine ⟨fun g9 => ⟨k.2, by omega, by omega, fun h => by omega, fun h => by omega⟩, fun g9 => by omega⟩
theorem n9_b0 (t L : Int) (ht : 0 ≤ t ∧ t ≤ 98) (hL : 1 ≤ L) : n9_bi t L 0 t :=
  ⟨ht.1, ht.2, fun _ => ⟨Int.le_refl t, (show (0 : Int) = t - t by omega)⟩, fun h => by omega⟩
theorem n9_bE {t L e r : Int} (he : e = 0) (hr : r = t) (h : n9_bi t L 0 t) : n9_bi t L e r := by
  subst he hr
  exact h
