theorem ne_cnC {c q h c1 q1 h1 c2 q2 h2 : Nat → Int} {z u1 v2 z2 : Int} {io ia ok E1 E2 : Prop} (x1 : io → ¬ ia) (x2 : io → ¬ ok) (x3 : ia → ¬ ok) (det : ok → E1 → E2 → c2 = c1 ∧ q2 = q1 ∧ h2 = h1 ∧ u1 = z2) (g : (z = 1 ∧ io ∧ c1 = c ∧ q1 = q ∧ h1 = h) ∨ (z = 2 ∧ ia ∧ c1 = c ∧ q1 = q ∧ h1 = h) ∨ (z = 0 ∧ (-9 ≤ u1 ∧ u1 ≤ 1) ∧ ok ∧ E1)) (g2 : (v2 = 1 ∧ io ∧ c2 = c ∧ q2 = q ∧ h2 = h) ∨ (v2 = 2 ∧ ia ∧ c2 = c ∧ q2 = q ∧ h2 = h) ∨ (v2 = 0 ∧ ok ∧ E2)) : v2 = z ∧ (z = 0 → u1 = z2 ∧ -9 ≤ u1 ∧ u1 ≤ 1) ∧ c2 = c1 ∧ q2 = q1 ∧ h2 = h1 := by
  rcases g with ⟨a1, a2, rfl, rfl, rfl⟩ | ⟨a1, a2, rfl, rfl, rfl⟩ | ⟨a1, a2, a3, a4⟩
  · rcases g2 with ⟨b1, b2, rfl, rfl, rfl⟩ | ⟨b1, b2, rfl, rfl, rfl⟩ | ⟨b1, b2, b3⟩
    · exact ⟨by omega, fun h => by omega, rfl, rfl, rfl⟩
    · exact absurd b2 (x1 a2)
    · exact absurd b2 (x2 a2)
  · rcases g2 with ⟨b1, b2, rfl, rfl, rfl⟩ | ⟨b1, b2, rfl, rfl, rfl⟩ | ⟨b1, b2, b3⟩
    · exact absurd a2 (x1 b2)
    · exact ⟨by omega, fun h => by omega, rfl, rfl, rfl⟩
    · exact absurd b2 (x3 a2)
  · rcases g2 with ⟨b1, b2, rfl, rfl, rfl⟩ | ⟨b1, b2, rfl, rfl, rfl⟩ | ⟨b1, b2, b3⟩
    · exact absurd a3 (x2 b2)
    · exact absurd a3 (x3 b2)
    · obtain ⟨d1, d2, d3, d4⟩ := det a3 a4 b3
      exact ⟨by omega, fun _ => ⟨d4, a2⟩, d1, d2, d3⟩
theorem ne_10pos (n : Nat) : (0 : Int) < 10 ^ n := Int.pow_pos (by decide)
theorem ne_AdivU {c q h c1 q1 h1 c2 q2 h2 : Nat → Int} {i j p w o z z2 : Int} (hw : 0 ≤ w ∧ w ≤ 7) (g : ne_Adiv c q h i j p w o c1 q1 h1 z) (g2 : ne_Adiv c q h i j p w o c2 q2 h2 z2) : c2 = c1 ∧ q2 = q1 ∧ h2 = h1 ∧ z = z2 := by
  rcases g with ⟨k, g⟩ | ⟨k, a, b, hb, he, g⟩
  · rcases g2 with ⟨k2, g2⟩ | ⟨k2, -⟩
    · exact ne_declU g g2
    · exact absurd k k2
  · rcases g2 with ⟨k2, g2⟩ | ⟨k2, a', b', hb', he', g2⟩
    · exact absurd k2 k
    · refine ne_rcomeU hb hb' hw ?_ g g2
      have hY : c j.toNat * 10 ^ (q i.toNat).toNat ≠ 0 := Int.mul_ne_zero k (by have := ne_10pos (q i.toNat).toNat; omega)
      revert he he' hY
      generalize c j.toNat * 10 ^ (q i.toNat).toNat = Y
      generalize c i.toNat * 10 ^ (q j.toNat).toNat * 10 ^ p.toNat = N
      intro he he' hY
      refine Int.eq_of_mul_eq_mul_right hY ?_
      have f1 : a * b' * Y = a * Y * b' := by ac_rfl
      have f2 : a' * b * Y = a' * Y * b := by ac_rfl
      rw [f1, f2, he, he']
      ac_rfl
theorem ne_AshareU {c q h c1 q1 h1 c2 q2 h2 : Nat → Int} {i a o z z2 : Int} (g : ne_Ashare c q h i a o c1 q1 h1 z) (g2 : ne_Ashare c q h i a o c2 q2 h2 z2) : c2 = c1 ∧ q2 = q1 ∧ h2 = h1 ∧ z = z2 := by
  rcases g with ⟨k, g⟩ | ⟨k, ⟨P, p1, p2, p3, p4, g⟩ | ⟨p4, g⟩⟩
  · rcases g2 with ⟨k2, g2⟩ | ⟨k2, -⟩
    · exact ne_declU g g2
    · exact absurd k k2
  · rcases g2 with ⟨k2, g2⟩ | ⟨k2, ⟨P', r1, r2, r3, r4, g2⟩ | ⟨r4, g2⟩⟩
    · exact absurd k2 k
    · rcases (show P < P' ∨ P' < P ∨ P = P' by omega) with e | e | e
      · exact absurd p3 (r4 P p1 e)
      · exact absurd r3 (p4 P' r1 e)
      · subst e
        exact ne_comeU g g2
    · exact absurd p3 (r4 P p1 p2)
  · rcases g2 with ⟨k2, g2⟩ | ⟨k2, ⟨P', r1, r2, r3, r4, g2⟩ | ⟨r4, g2⟩⟩
    · exact absurd k2 k
    · exact absurd r3 (p4 P' r1 r2)
    · exact ne_declU g g2
theorem ne_AwholeU {c q h c1 q1 h1 c2 q2 h2 : Nat → Int} {i a o z z2 : Int} (g : ne_Awhole c q h i a o c1 q1 h1 z) (g2 : ne_Awhole c q h i a o c2 q2 h2 z2) : c2 = c1 ∧ q2 = q1 ∧ h2 = h1 ∧ z = z2 := by
  rcases g with ⟨k, g⟩ | ⟨k, g⟩
  · rcases g2 with ⟨k2, g2⟩ | ⟨k2, g2⟩
    · exact ne_declU g g2
    · exact absurd k k2
  · rcases g2 with ⟨k2, g2⟩ | ⟨k2, g2⟩
    · exact absurd k2 k
    · exact ne_comeU g g2
theorem ne_ArestU {c q h c1 q1 h1 c2 q2 h2 : Nat → Int} {i a o z z2 : Int} (g : ne_Arest c q h i a o c1 q1 h1 z) (g2 : ne_Arest c q h i a o c2 q2 h2 z2) : c2 = c1 ∧ q2 = q1 ∧ h2 = h1 ∧ z = z2 := by
  rcases g with ⟨k, g⟩ | ⟨k, g⟩
  · rcases g2 with ⟨k2, g2⟩ | ⟨k2, g2⟩
    · exact ne_declU g g2
    · exact absurd k k2
  · rcases g2 with ⟨k2, g2⟩ | ⟨k2, g2⟩
    · exact absurd k2 k
    · exact ne_comeU g g2
theorem ne_AgtU {c q h c1 q1 h1 c2 q2 h2 : Nat → Int} {i j o z z2 : Int} (g : ne_Agt c q h i j o c1 q1 h1 z) (g2 : ne_Agt c q h i j o c2 q2 h2 z2) : c2 = c1 ∧ q2 = q1 ∧ h2 = h1 ∧ z = z2 := by
  rcases g with ⟨k, g⟩ | ⟨k, g⟩
  · rcases g2 with ⟨k2, g2⟩ | ⟨k2, g2⟩
    · exact ne_comeU g g2
    · exact absurd k k2
  · rcases g2 with ⟨k2, g2⟩ | ⟨k2, g2⟩
    · exact absurd k2 k
    · exact ne_comeU g g2
theorem ne_AlsU {c q h c1 q1 h1 c2 q2 h2 : Nat → Int} {i j o z z2 : Int} (g : ne_Als c q h i j o c1 q1 h1 z) (g2 : ne_Als c q h i j o c2 q2 h2 z2) : c2 = c1 ∧ q2 = q1 ∧ h2 = h1 ∧ z = z2 := by
  rcases g with ⟨k, g⟩ | ⟨k, g⟩
  · rcases g2 with ⟨k2, g2⟩ | ⟨k2, g2⟩
    · exact ne_comeU g g2
    · exact absurd k k2
  · rcases g2 with ⟨k2, g2⟩ | ⟨k2, g2⟩
    · exact absurd k2 k
    · exact ne_comeU g g2
theorem ne_stU {a a' s P P' : Int} (h : a * 10 ^ (s - P).toNat = a' * 10 ^ (s - P').toNat) (hp : P < P') (hs : P' ≤ s) : a'.tmod 10 = 0 := by
  rw [show (s - P).toNat = (P' - P - 1).toNat + 1 + (s - P').toNat by omega, Int.pow_add, ← Int.mul_assoc] at h
  have h2 := Int.eq_of_mul_eq_mul_right (by have := ne_10pos (s - P').toNat; omega) h
  rw [← h2, Int.pow_succ, ← Int.mul_assoc]
  exact Int.mul_tmod_left _ _
theorem ne_AstripU {c q h c1 q1 h1 c2 q2 h2 : Nat → Int} {i z z2 : Int} (g : ne_Astrip c q h i c1 q1 h1 z) (g2 : ne_Astrip c q h i c2 q2 h2 z2) : c2 = c1 ∧ q2 = q1 ∧ h2 = h1 ∧ z = z2 := by
  obtain ⟨a, P, p1, p2, p3, p4, g⟩ := g
  obtain ⟨a', P', r1, r2, r3, r4, g2⟩ := g2
  rcases (show P < P' ∨ P' < P ∨ P = P' by omega) with e | e | e
  · have := ne_stU (p3.symm.trans r3) e r2
    omega
  · have := ne_stU (r3.symm.trans p3) e p2
    omega
  · subst e
    obtain rfl := Int.eq_of_mul_eq_mul_right (by have := ne_10pos (q i.toNat - P).toNat; omega) (p3.symm.trans r3)
    exact ne_comeU g g2
theorem ne_AroundU {c q h c1 q1 h1 c2 q2 h2 : Nat → Int} {i a w z z2 : Int} (hw : 0 ≤ w ∧ w ≤ 7) (g : ne_Around c q h i a w c1 q1 h1 z) (g2 : ne_Around c q h i a w c2 q2 h2 z2) : c2 = c1 ∧ q2 = q1 ∧ h2 = h1 ∧ z = z2 := by
  obtain ⟨d, hd, g⟩ := g
  obtain ⟨d', hd', g2⟩ := g2
  obtain rfl := ne_dnU hd hd'
  have hb := ne_10pos (d - a).toNat
  rcases g with ⟨k, g⟩ | ⟨k, ⟨k7, hx, g⟩ | ⟨u, e, hr, he, g⟩⟩
  · rcases g2 with ⟨k2, g2⟩ | ⟨k2, -⟩
    · exact ne_comeU g g2
    · exfalso; omega
  · rcases g2 with ⟨k2, g2⟩ | ⟨k2, ⟨k7', hx', g2⟩ | ⟨u', e', hr', he', g2⟩⟩
    · exfalso; omega
    · exact ne_declU g g2
    · exact (ne_rxU hb hb rfl k7 hx hr').elim
  · rcases g2 with ⟨k2, g2⟩ | ⟨k2, ⟨k7', hx', g2⟩ | ⟨u', e', hr', he', g2⟩⟩
    · exfalso; omega
    · exact (ne_rxU hb hb rfl k7' hx' hr).elim
    · obtain rfl := ne_rdU hb hb hw rfl hr hr'
      obtain rfl := ne_dnU he he'
      rcases g with ⟨k3, g⟩ | ⟨k3, g⟩
      · rcases g2 with ⟨k4, g2⟩ | ⟨k4, g2⟩
        · exact ne_catU g g2
        · exfalso; omega
      · rcases g2 with ⟨k4, g2⟩ | ⟨k4, g2⟩
        · exfalso; omega
        · exact ne_catU g g2
theorem cn_put {c q h c1 q1 h1 c2 q2 h2 : Nat → Int} {i a p z u1 v2 z2 : Int} (g : ((z = 1 ∧ (i < 0 ∨ 4 ≤ i) ∧ c1 = c ∧ q1 = q ∧ h1 = h) ∨ (z = 2 ∧ ((0 ≤ i ∧ i < 4) ∧ (a < -999999 ∨ 999999 < a ∨ p < 0 ∨ 3 < p)) ∧ c1 = c ∧ q1 = q ∧ h1 = h) ∨ (z = 0 ∧ (-9 ≤ u1 ∧ u1 ≤ 1) ∧ ((0 ≤ i ∧ i < 4) ∧ -999999 ≤ a ∧ a ≤ 999999 ∧ 0 ≤ p ∧ p ≤ 3) ∧ ne_come c q h i a p c1 q1 h1 u1))) (g2 : ((v2 = 1 ∧ (i < 0 ∨ 4 ≤ i) ∧ c2 = c ∧ q2 = q ∧ h2 = h) ∨ (v2 = 2 ∧ ((0 ≤ i ∧ i < 4) ∧ (a < -999999 ∨ 999999 < a ∨ p < 0 ∨ 3 < p)) ∧ c2 = c ∧ q2 = q ∧ h2 = h) ∨ (v2 = 0 ∧ ((0 ≤ i ∧ i < 4) ∧ -999999 ≤ a ∧ a ≤ 999999 ∧ 0 ≤ p ∧ p ≤ 3) ∧ ne_come c q h i a p c2 q2 h2 z2))) : v2 = z ∧ (z = 0 → u1 = z2 ∧ -9 ≤ u1 ∧ u1 ≤ 1) ∧ c2 = c1 ∧ q2 = q1 ∧ h2 = h1 :=
  ne_cnC (fun h h9 => by omega) (fun h h9 => by omega) (fun h h9 => by omega) (fun h a b => ne_comeU a b) g g2
theorem cn_write {c q h c1 q1 h1 c2 q2 h2 : Nat → Int} {i m a p d z u1 v2 z2 : Int} (g : ((z = 1 ∧ (i < 0 ∨ 4 ≤ i) ∧ c1 = c ∧ q1 = q ∧ h1 = h) ∨ (z = 2 ∧ ((0 ≤ i ∧ i < 4) ∧ (a < 0 ∨ 999999 < a ∨ p < 0 ∨ 3 < p ∨ d < 0 ∨ 10 ^ p.toNat ≤ d)) ∧ c1 = c ∧ q1 = q ∧ h1 = h) ∨ (z = 0 ∧ (-9 ≤ u1 ∧ u1 ≤ 1) ∧ ((0 ≤ i ∧ i < 4) ∧ 0 ≤ a ∧ a ≤ 999999 ∧ 0 ≤ p ∧ p ≤ 3 ∧ 0 ≤ d ∧ d < 10 ^ p.toNat) ∧ ne_come c q h i (if m = 0 then a * 10 ^ p.toNat + d else -(a * 10 ^ p.toNat + d)) p c1 q1 h1 u1))) (g2 : ((v2 = 1 ∧ (i < 0 ∨ 4 ≤ i) ∧ c2 = c ∧ q2 = q ∧ h2 = h) ∨ (v2 = 2 ∧ ((0 ≤ i ∧ i < 4) ∧ (a < 0 ∨ 999999 < a ∨ p < 0 ∨ 3 < p ∨ d < 0 ∨ 10 ^ p.toNat ≤ d)) ∧ c2 = c ∧ q2 = q ∧ h2 = h) ∨ (v2 = 0 ∧ ((0 ≤ i ∧ i < 4) ∧ 0 ≤ a ∧ a ≤ 999999 ∧ 0 ≤ p ∧ p ≤ 3 ∧ 0 ≤ d ∧ d < 10 ^ p.toNat) ∧ ne_come c q h i (if m = 0 then a * 10 ^ p.toNat + d else -(a * 10 ^ p.toNat + d)) p c2 q2 h2 z2))) : v2 = z ∧ (z = 0 → u1 = z2 ∧ -9 ≤ u1 ∧ u1 ≤ 1) ∧ c2 = c1 ∧ q2 = q1 ∧ h2 = h1 :=
  ne_cnC (fun h h9 => by omega) (fun h h9 => by omega) (fun h h9 => by omega) (fun h a b => ne_comeU a b) g g2
theorem cn_copy {c q h c1 q1 h1 c2 q2 h2 : Nat → Int} {i j z u1 v2 z2 : Int} (g : ((z = 1 ∧ (i < 0 ∨ 4 ≤ i ∨ j < 0 ∨ 4 ≤ j) ∧ c1 = c ∧ q1 = q ∧ h1 = h) ∨ (z = 2 ∧ False ∧ c1 = c ∧ q1 = q ∧ h1 = h) ∨ (z = 0 ∧ (-9 ≤ u1 ∧ u1 ≤ 1) ∧ (0 ≤ i ∧ i < 4 ∧ 0 ≤ j ∧ j < 4) ∧ ne_come c q h j (c i.toNat) (q i.toNat) c1 q1 h1 u1))) (g2 : ((v2 = 1 ∧ (i < 0 ∨ 4 ≤ i ∨ j < 0 ∨ 4 ≤ j) ∧ c2 = c ∧ q2 = q ∧ h2 = h) ∨ (v2 = 2 ∧ False ∧ c2 = c ∧ q2 = q ∧ h2 = h) ∨ (v2 = 0 ∧ (0 ≤ i ∧ i < 4 ∧ 0 ≤ j ∧ j < 4) ∧ ne_come c q h j (c i.toNat) (q i.toNat) c2 q2 h2 z2))) : v2 = z ∧ (z = 0 → u1 = z2 ∧ -9 ≤ u1 ∧ u1 ≤ 1) ∧ c2 = c1 ∧ q2 = q1 ∧ h2 = h1 :=
  ne_cnC (fun h h9 => by omega) (fun h h9 => by omega) (fun h h9 => by omega) (fun h a b => ne_comeU a b) g g2
theorem cn_negate {c q h c1 q1 h1 c2 q2 h2 : Nat → Int} {i z u1 v2 z2 : Int} (g : ((z = 1 ∧ (i < 0 ∨ 4 ≤ i) ∧ c1 = c ∧ q1 = q ∧ h1 = h) ∨ (z = 2 ∧ False ∧ c1 = c ∧ q1 = q ∧ h1 = h) ∨ (z = 0 ∧ (-9 ≤ u1 ∧ u1 ≤ 1) ∧ (0 ≤ i ∧ i < 4) ∧ ne_come c q h i (-c i.toNat) (q i.toNat) c1 q1 h1 u1))) (g2 : ((v2 = 1 ∧ (i < 0 ∨ 4 ≤ i) ∧ c2 = c ∧ q2 = q ∧ h2 = h) ∨ (v2 = 2 ∧ False ∧ c2 = c ∧ q2 = q ∧ h2 = h) ∨ (v2 = 0 ∧ (0 ≤ i ∧ i < 4) ∧ ne_come c q h i (-c i.toNat) (q i.toNat) c2 q2 h2 z2))) : v2 = z ∧ (z = 0 → u1 = z2 ∧ -9 ≤ u1 ∧ u1 ≤ 1) ∧ c2 = c1 ∧ q2 = q1 ∧ h2 = h1 :=
  ne_cnC (fun h h9 => by omega) (fun h h9 => by omega) (fun h h9 => by omega) (fun h a b => ne_comeU a b) g g2
theorem cn_size {c q h c1 q1 h1 c2 q2 h2 : Nat → Int} {i z u1 v2 z2 : Int} (g : ((z = 1 ∧ (i < 0 ∨ 4 ≤ i) ∧ c1 = c ∧ q1 = q ∧ h1 = h) ∨ (z = 2 ∧ False ∧ c1 = c ∧ q1 = q ∧ h1 = h) ∨ (z = 0 ∧ (-9 ≤ u1 ∧ u1 ≤ 1) ∧ (0 ≤ i ∧ i < 4) ∧ ne_come c q h i (if 0 ≤ c i.toNat then c i.toNat else -c i.toNat) (q i.toNat) c1 q1 h1 u1))) (g2 : ((v2 = 1 ∧ (i < 0 ∨ 4 ≤ i) ∧ c2 = c ∧ q2 = q ∧ h2 = h) ∨ (v2 = 2 ∧ False ∧ c2 = c ∧ q2 = q ∧ h2 = h) ∨ (v2 = 0 ∧ (0 ≤ i ∧ i < 4) ∧ ne_come c q h i (if 0 ≤ c i.toNat then c i.toNat else -c i.toNat) (q i.toNat) c2 q2 h2 z2))) : v2 = z ∧ (z = 0 → u1 = z2 ∧ -9 ≤ u1 ∧ u1 ≤ 1) ∧ c2 = c1 ∧ q2 = q1 ∧ h2 = h1 :=
  ne_cnC (fun h h9 => by omega) (fun h h9 => by omega) (fun h h9 => by omega) (fun h a b => ne_comeU a b) g g2
theorem cn_add {c q h c1 q1 h1 c2 q2 h2 : Nat → Int} {i j o z u1 v2 z2 : Int} (g : ((z = 1 ∧ (i < 0 ∨ 4 ≤ i ∨ j < 0 ∨ 4 ≤ j ∨ o < 0 ∨ 4 ≤ o) ∧ c1 = c ∧ q1 = q ∧ h1 = h) ∨ (z = 2 ∧ False ∧ c1 = c ∧ q1 = q ∧ h1 = h) ∨ (z = 0 ∧ (-9 ≤ u1 ∧ u1 ≤ 1) ∧ (0 ≤ i ∧ i < 4 ∧ 0 ≤ j ∧ j < 4 ∧ 0 ≤ o ∧ o < 4) ∧ ne_come c q h o (c i.toNat * 10 ^ ((if q i.toNat < q j.toNat then q j.toNat else q i.toNat) - q i.toNat).toNat + c j.toNat * 10 ^ ((if q i.toNat < q j.toNat then q j.toNat else q i.toNat) - q j.toNat).toNat) (if q i.toNat < q j.toNat then q j.toNat else q i.toNat) c1 q1 h1 u1))) (g2 : ((v2 = 1 ∧ (i < 0 ∨ 4 ≤ i ∨ j < 0 ∨ 4 ≤ j ∨ o < 0 ∨ 4 ≤ o) ∧ c2 = c ∧ q2 = q ∧ h2 = h) ∨ (v2 = 2 ∧ False ∧ c2 = c ∧ q2 = q ∧ h2 = h) ∨ (v2 = 0 ∧ (0 ≤ i ∧ i < 4 ∧ 0 ≤ j ∧ j < 4 ∧ 0 ≤ o ∧ o < 4) ∧ ne_come c q h o (c i.toNat * 10 ^ ((if q i.toNat < q j.toNat then q j.toNat else q i.toNat) - q i.toNat).toNat + c j.toNat * 10 ^ ((if q i.toNat < q j.toNat then q j.toNat else q i.toNat) - q j.toNat).toNat) (if q i.toNat < q j.toNat then q j.toNat else q i.toNat) c2 q2 h2 z2))) : v2 = z ∧ (z = 0 → u1 = z2 ∧ -9 ≤ u1 ∧ u1 ≤ 1) ∧ c2 = c1 ∧ q2 = q1 ∧ h2 = h1 :=
  ne_cnC (fun h h9 => by omega) (fun h h9 => by omega) (fun h h9 => by omega) (fun h a b => ne_comeU a b) g g2
theorem cn_subtract {c q h c1 q1 h1 c2 q2 h2 : Nat → Int} {i j o z u1 v2 z2 : Int} (g : ((z = 1 ∧ (i < 0 ∨ 4 ≤ i ∨ j < 0 ∨ 4 ≤ j ∨ o < 0 ∨ 4 ≤ o) ∧ c1 = c ∧ q1 = q ∧ h1 = h) ∨ (z = 2 ∧ False ∧ c1 = c ∧ q1 = q ∧ h1 = h) ∨ (z = 0 ∧ (-9 ≤ u1 ∧ u1 ≤ 1) ∧ (0 ≤ i ∧ i < 4 ∧ 0 ≤ j ∧ j < 4 ∧ 0 ≤ o ∧ o < 4) ∧ ne_come c q h o (c i.toNat * 10 ^ ((if q i.toNat < q j.toNat then q j.toNat else q i.toNat) - q i.toNat).toNat - c j.toNat * 10 ^ ((if q i.toNat < q j.toNat then q j.toNat else q i.toNat) - q j.toNat).toNat) (if q i.toNat < q j.toNat then q j.toNat else q i.toNat) c1 q1 h1 u1))) (g2 : ((v2 = 1 ∧ (i < 0 ∨ 4 ≤ i ∨ j < 0 ∨ 4 ≤ j ∨ o < 0 ∨ 4 ≤ o) ∧ c2 = c ∧ q2 = q ∧ h2 = h) ∨ (v2 = 2 ∧ False ∧ c2 = c ∧ q2 = q ∧ h2 = h) ∨ (v2 = 0 ∧ (0 ≤ i ∧ i < 4 ∧ 0 ≤ j ∧ j < 4 ∧ 0 ≤ o ∧ o < 4) ∧ ne_come c q h o (c i.toNat * 10 ^ ((if q i.toNat < q j.toNat then q j.toNat else q i.toNat) - q i.toNat).toNat - c j.toNat * 10 ^ ((if q i.toNat < q j.toNat then q j.toNat else q i.toNat) - q j.toNat).toNat) (if q i.toNat < q j.toNat then q j.toNat else q i.toNat) c2 q2 h2 z2))) : v2 = z ∧ (z = 0 → u1 = z2 ∧ -9 ≤ u1 ∧ u1 ≤ 1) ∧ c2 = c1 ∧ q2 = q1 ∧ h2 = h1 :=
  ne_cnC (fun h h9 => by omega) (fun h h9 => by omega) (fun h h9 => by omega) (fun h a b => ne_comeU a b) g g2
theorem cn_multiply {c q h c1 q1 h1 c2 q2 h2 : Nat → Int} {i j o z u1 v2 z2 : Int} (g : ((z = 1 ∧ (i < 0 ∨ 4 ≤ i ∨ j < 0 ∨ 4 ≤ j ∨ o < 0 ∨ 4 ≤ o) ∧ c1 = c ∧ q1 = q ∧ h1 = h) ∨ (z = 2 ∧ False ∧ c1 = c ∧ q1 = q ∧ h1 = h) ∨ (z = 0 ∧ (-9 ≤ u1 ∧ u1 ≤ 1) ∧ (0 ≤ i ∧ i < 4 ∧ 0 ≤ j ∧ j < 4 ∧ 0 ≤ o ∧ o < 4) ∧ ne_come c q h o (c i.toNat * c j.toNat) (q i.toNat + q j.toNat) c1 q1 h1 u1))) (g2 : ((v2 = 1 ∧ (i < 0 ∨ 4 ≤ i ∨ j < 0 ∨ 4 ≤ j ∨ o < 0 ∨ 4 ≤ o) ∧ c2 = c ∧ q2 = q ∧ h2 = h) ∨ (v2 = 2 ∧ False ∧ c2 = c ∧ q2 = q ∧ h2 = h) ∨ (v2 = 0 ∧ (0 ≤ i ∧ i < 4 ∧ 0 ≤ j ∧ j < 4 ∧ 0 ≤ o ∧ o < 4) ∧ ne_come c q h o (c i.toNat * c j.toNat) (q i.toNat + q j.toNat) c2 q2 h2 z2))) : v2 = z ∧ (z = 0 → u1 = z2 ∧ -9 ≤ u1 ∧ u1 ≤ 1) ∧ c2 = c1 ∧ q2 = q1 ∧ h2 = h1 :=
  ne_cnC (fun h h9 => by omega) (fun h h9 => by omega) (fun h h9 => by omega) (fun h a b => ne_comeU a b) g g2
theorem cn_power {c q h c1 q1 h1 c2 q2 h2 : Nat → Int} {i a o z u1 v2 z2 : Int} (g : ((z = 1 ∧ (i < 0 ∨ 4 ≤ i ∨ o < 0 ∨ 4 ≤ o) ∧ c1 = c ∧ q1 = q ∧ h1 = h) ∨ (z = 2 ∧ ((0 ≤ i ∧ i < 4 ∧ 0 ≤ o ∧ o < 4) ∧ (a < 0 ∨ 3 < a)) ∧ c1 = c ∧ q1 = q ∧ h1 = h) ∨ (z = 0 ∧ (-9 ≤ u1 ∧ u1 ≤ 1) ∧ ((0 ≤ i ∧ i < 4 ∧ 0 ≤ o ∧ o < 4) ∧ 0 ≤ a ∧ a ≤ 3) ∧ ne_come c q h o (c i.toNat ^ a.toNat) (a * q i.toNat) c1 q1 h1 u1))) (g2 : ((v2 = 1 ∧ (i < 0 ∨ 4 ≤ i ∨ o < 0 ∨ 4 ≤ o) ∧ c2 = c ∧ q2 = q ∧ h2 = h) ∨ (v2 = 2 ∧ ((0 ≤ i ∧ i < 4 ∧ 0 ≤ o ∧ o < 4) ∧ (a < 0 ∨ 3 < a)) ∧ c2 = c ∧ q2 = q ∧ h2 = h) ∨ (v2 = 0 ∧ ((0 ≤ i ∧ i < 4 ∧ 0 ≤ o ∧ o < 4) ∧ 0 ≤ a ∧ a ≤ 3) ∧ ne_come c q h o (c i.toNat ^ a.toNat) (a * q i.toNat) c2 q2 h2 z2))) : v2 = z ∧ (z = 0 → u1 = z2 ∧ -9 ≤ u1 ∧ u1 ≤ 1) ∧ c2 = c1 ∧ q2 = q1 ∧ h2 = h1 :=
  ne_cnC (fun h h9 => by omega) (fun h h9 => by omega) (fun h h9 => by omega) (fun h a b => ne_comeU a b) g g2
theorem cn_divide {c q h c1 q1 h1 c2 q2 h2 : Nat → Int} {i j p w0 o z u1 v2 z2 : Int} (g : ((z = 1 ∧ (i < 0 ∨ 4 ≤ i ∨ j < 0 ∨ 4 ≤ j ∨ o < 0 ∨ 4 ≤ o) ∧ c1 = c ∧ q1 = q ∧ h1 = h) ∨ (z = 2 ∧ ((0 ≤ i ∧ i < 4 ∧ 0 ≤ j ∧ j < 4 ∧ 0 ≤ o ∧ o < 4) ∧ (p < 0 ∨ 3 < p ∨ w0 < 0 ∨ 7 < w0)) ∧ c1 = c ∧ q1 = q ∧ h1 = h) ∨ (z = 0 ∧ (-9 ≤ u1 ∧ u1 ≤ 1) ∧ ((0 ≤ i ∧ i < 4 ∧ 0 ≤ j ∧ j < 4 ∧ 0 ≤ o ∧ o < 4) ∧ 0 ≤ p ∧ p ≤ 3 ∧ 0 ≤ w0 ∧ w0 ≤ 7) ∧ ne_Adiv c q h i j p w0 o c1 q1 h1 u1))) (g2 : ((v2 = 1 ∧ (i < 0 ∨ 4 ≤ i ∨ j < 0 ∨ 4 ≤ j ∨ o < 0 ∨ 4 ≤ o) ∧ c2 = c ∧ q2 = q ∧ h2 = h) ∨ (v2 = 2 ∧ ((0 ≤ i ∧ i < 4 ∧ 0 ≤ j ∧ j < 4 ∧ 0 ≤ o ∧ o < 4) ∧ (p < 0 ∨ 3 < p ∨ w0 < 0 ∨ 7 < w0)) ∧ c2 = c ∧ q2 = q ∧ h2 = h) ∨ (v2 = 0 ∧ ((0 ≤ i ∧ i < 4 ∧ 0 ≤ j ∧ j < 4 ∧ 0 ≤ o ∧ o < 4) ∧ 0 ≤ p ∧ p ≤ 3 ∧ 0 ≤ w0 ∧ w0 ≤ 7) ∧ ne_Adiv c q h i j p w0 o c2 q2 h2 z2))) : v2 = z ∧ (z = 0 → u1 = z2 ∧ -9 ≤ u1 ∧ u1 ≤ 1) ∧ c2 = c1 ∧ q2 = q1 ∧ h2 = h1 :=
  ne_cnC (fun h h9 => by omega) (fun h h9 => by omega) (fun h h9 => by omega) (fun h a b => ne_AdivU (by omega) a b) g g2
theorem cn_share {c q h c1 q1 h1 c2 q2 h2 : Nat → Int} {i a o z u1 v2 z2 : Int} (g : ((z = 1 ∧ (i < 0 ∨ 4 ≤ i ∨ o < 0 ∨ 4 ≤ o) ∧ c1 = c ∧ q1 = q ∧ h1 = h) ∨ (z = 2 ∧ ((0 ≤ i ∧ i < 4 ∧ 0 ≤ o ∧ o < 4) ∧ (a < -99 ∨ 99 < a)) ∧ c1 = c ∧ q1 = q ∧ h1 = h) ∨ (z = 0 ∧ (-9 ≤ u1 ∧ u1 ≤ 1) ∧ ((0 ≤ i ∧ i < 4 ∧ 0 ≤ o ∧ o < 4) ∧ -99 ≤ a ∧ a ≤ 99) ∧ ne_Ashare c q h i a o c1 q1 h1 u1))) (g2 : ((v2 = 1 ∧ (i < 0 ∨ 4 ≤ i ∨ o < 0 ∨ 4 ≤ o) ∧ c2 = c ∧ q2 = q ∧ h2 = h) ∨ (v2 = 2 ∧ ((0 ≤ i ∧ i < 4 ∧ 0 ≤ o ∧ o < 4) ∧ (a < -99 ∨ 99 < a)) ∧ c2 = c ∧ q2 = q ∧ h2 = h) ∨ (v2 = 0 ∧ ((0 ≤ i ∧ i < 4 ∧ 0 ≤ o ∧ o < 4) ∧ -99 ≤ a ∧ a ≤ 99) ∧ ne_Ashare c q h i a o c2 q2 h2 z2))) : v2 = z ∧ (z = 0 → u1 = z2 ∧ -9 ≤ u1 ∧ u1 ≤ 1) ∧ c2 = c1 ∧ q2 = q1 ∧ h2 = h1 :=
  ne_cnC (fun h h9 => by omega) (fun h h9 => by omega) (fun h h9 => by omega) (fun h a b => ne_AshareU a b) g g2
theorem cn_whole {c q h c1 q1 h1 c2 q2 h2 : Nat → Int} {i a o z u1 v2 z2 : Int} (g : ((z = 1 ∧ (i < 0 ∨ 4 ≤ i ∨ o < 0 ∨ 4 ≤ o) ∧ c1 = c ∧ q1 = q ∧ h1 = h) ∨ (z = 2 ∧ ((0 ≤ i ∧ i < 4 ∧ 0 ≤ o ∧ o < 4) ∧ (a < -99 ∨ 99 < a)) ∧ c1 = c ∧ q1 = q ∧ h1 = h) ∨ (z = 0 ∧ (-9 ≤ u1 ∧ u1 ≤ 1) ∧ ((0 ≤ i ∧ i < 4 ∧ 0 ≤ o ∧ o < 4) ∧ -99 ≤ a ∧ a ≤ 99) ∧ ne_Awhole c q h i a o c1 q1 h1 u1))) (g2 : ((v2 = 1 ∧ (i < 0 ∨ 4 ≤ i ∨ o < 0 ∨ 4 ≤ o) ∧ c2 = c ∧ q2 = q ∧ h2 = h) ∨ (v2 = 2 ∧ ((0 ≤ i ∧ i < 4 ∧ 0 ≤ o ∧ o < 4) ∧ (a < -99 ∨ 99 < a)) ∧ c2 = c ∧ q2 = q ∧ h2 = h) ∨ (v2 = 0 ∧ ((0 ≤ i ∧ i < 4 ∧ 0 ≤ o ∧ o < 4) ∧ -99 ≤ a ∧ a ≤ 99) ∧ ne_Awhole c q h i a o c2 q2 h2 z2))) : v2 = z ∧ (z = 0 → u1 = z2 ∧ -9 ≤ u1 ∧ u1 ≤ 1) ∧ c2 = c1 ∧ q2 = q1 ∧ h2 = h1 :=
  ne_cnC (fun h h9 => by omega) (fun h h9 => by omega) (fun h h9 => by omega) (fun h a b => ne_AwholeU a b) g g2
theorem cn_rest {c q h c1 q1 h1 c2 q2 h2 : Nat → Int} {i a o z u1 v2 z2 : Int} (g : ((z = 1 ∧ (i < 0 ∨ 4 ≤ i ∨ o < 0 ∨ 4 ≤ o) ∧ c1 = c ∧ q1 = q ∧ h1 = h) ∨ (z = 2 ∧ ((0 ≤ i ∧ i < 4 ∧ 0 ≤ o ∧ o < 4) ∧ (a < -99 ∨ 99 < a)) ∧ c1 = c ∧ q1 = q ∧ h1 = h) ∨ (z = 0 ∧ (-9 ≤ u1 ∧ u1 ≤ 1) ∧ ((0 ≤ i ∧ i < 4 ∧ 0 ≤ o ∧ o < 4) ∧ -99 ≤ a ∧ a ≤ 99) ∧ ne_Arest c q h i a o c1 q1 h1 u1))) (g2 : ((v2 = 1 ∧ (i < 0 ∨ 4 ≤ i ∨ o < 0 ∨ 4 ≤ o) ∧ c2 = c ∧ q2 = q ∧ h2 = h) ∨ (v2 = 2 ∧ ((0 ≤ i ∧ i < 4 ∧ 0 ≤ o ∧ o < 4) ∧ (a < -99 ∨ 99 < a)) ∧ c2 = c ∧ q2 = q ∧ h2 = h) ∨ (v2 = 0 ∧ ((0 ≤ i ∧ i < 4 ∧ 0 ≤ o ∧ o < 4) ∧ -99 ≤ a ∧ a ≤ 99) ∧ ne_Arest c q h i a o c2 q2 h2 z2))) : v2 = z ∧ (z = 0 → u1 = z2 ∧ -9 ≤ u1 ∧ u1 ≤ 1) ∧ c2 = c1 ∧ q2 = q1 ∧ h2 = h1 :=
  ne_cnC (fun h h9 => by omega) (fun h h9 => by omega) (fun h h9 => by omega) (fun h a b => ne_ArestU a b) g g2
theorem cn_setPlaces {c q h c1 q1 h1 c2 q2 h2 : Nat → Int} {i p w0 z u1 v2 z2 : Int} (g : ((z = 1 ∧ (i < 0 ∨ 4 ≤ i) ∧ c1 = c ∧ q1 = q ∧ h1 = h) ∨ (z = 2 ∧ ((0 ≤ i ∧ i < 4) ∧ (p < 0 ∨ 3 < p ∨ w0 < 0 ∨ 7 < w0)) ∧ c1 = c ∧ q1 = q ∧ h1 = h) ∨ (z = 0 ∧ (-9 ≤ u1 ∧ u1 ≤ 1) ∧ ((0 ≤ i ∧ i < 4) ∧ 0 ≤ p ∧ p ≤ 3 ∧ 0 ≤ w0 ∧ w0 ≤ 7) ∧ ne_rcome c q h i w0 p (c i.toNat * 10 ^ p.toNat) (10 ^ (q i.toNat).toNat) c1 q1 h1 u1))) (g2 : ((v2 = 1 ∧ (i < 0 ∨ 4 ≤ i) ∧ c2 = c ∧ q2 = q ∧ h2 = h) ∨ (v2 = 2 ∧ ((0 ≤ i ∧ i < 4) ∧ (p < 0 ∨ 3 < p ∨ w0 < 0 ∨ 7 < w0)) ∧ c2 = c ∧ q2 = q ∧ h2 = h) ∨ (v2 = 0 ∧ ((0 ≤ i ∧ i < 4) ∧ 0 ≤ p ∧ p ≤ 3 ∧ 0 ≤ w0 ∧ w0 ≤ 7) ∧ ne_rcome c q h i w0 p (c i.toNat * 10 ^ p.toNat) (10 ^ (q i.toNat).toNat) c2 q2 h2 z2))) : v2 = z ∧ (z = 0 → u1 = z2 ∧ -9 ≤ u1 ∧ u1 ≤ 1) ∧ c2 = c1 ∧ q2 = q1 ∧ h2 = h1 :=
  ne_cnC (fun h h9 => by omega) (fun h h9 => by omega) (fun h h9 => by omega) (fun h a b => ne_rcomeU (ne_10pos _) (ne_10pos _) (by omega) rfl a b) g g2
theorem cn_strip {c q h c1 q1 h1 c2 q2 h2 : Nat → Int} {i z u1 v2 z2 : Int} (g : ((z = 1 ∧ (i < 0 ∨ 4 ≤ i) ∧ c1 = c ∧ q1 = q ∧ h1 = h) ∨ (z = 2 ∧ False ∧ c1 = c ∧ q1 = q ∧ h1 = h) ∨ (z = 0 ∧ (-9 ≤ u1 ∧ u1 ≤ 1) ∧ (0 ≤ i ∧ i < 4) ∧ ne_Astrip c q h i c1 q1 h1 u1))) (g2 : ((v2 = 1 ∧ (i < 0 ∨ 4 ≤ i) ∧ c2 = c ∧ q2 = q ∧ h2 = h) ∨ (v2 = 2 ∧ False ∧ c2 = c ∧ q2 = q ∧ h2 = h) ∨ (v2 = 0 ∧ (0 ≤ i ∧ i < 4) ∧ ne_Astrip c q h i c2 q2 h2 z2))) : v2 = z ∧ (z = 0 → u1 = z2 ∧ -9 ≤ u1 ∧ u1 ≤ 1) ∧ c2 = c1 ∧ q2 = q1 ∧ h2 = h1 :=
  ne_cnC (fun h h9 => by omega) (fun h h9 => by omega) (fun h h9 => by omega) (fun h a b => ne_AstripU a b) g g2
theorem cn_move {c q h c1 q1 h1 c2 q2 h2 : Nat → Int} {i a z u1 v2 z2 : Int} (g : ((z = 1 ∧ (i < 0 ∨ 4 ≤ i) ∧ c1 = c ∧ q1 = q ∧ h1 = h) ∨ (z = 2 ∧ ((0 ≤ i ∧ i < 4) ∧ (a < -3 ∨ 3 < a)) ∧ c1 = c ∧ q1 = q ∧ h1 = h) ∨ (z = 0 ∧ (-9 ≤ u1 ∧ u1 ≤ 1) ∧ ((0 ≤ i ∧ i < 4) ∧ -3 ≤ a ∧ a ≤ 3) ∧ ne_cat c q h i (c i.toNat) (q i.toNat + a) c1 q1 h1 u1))) (g2 : ((v2 = 1 ∧ (i < 0 ∨ 4 ≤ i) ∧ c2 = c ∧ q2 = q ∧ h2 = h) ∨ (v2 = 2 ∧ ((0 ≤ i ∧ i < 4) ∧ (a < -3 ∨ 3 < a)) ∧ c2 = c ∧ q2 = q ∧ h2 = h) ∨ (v2 = 0 ∧ ((0 ≤ i ∧ i < 4) ∧ -3 ≤ a ∧ a ≤ 3) ∧ ne_cat c q h i (c i.toNat) (q i.toNat + a) c2 q2 h2 z2))) : v2 = z ∧ (z = 0 → u1 = z2 ∧ -9 ≤ u1 ∧ u1 ≤ 1) ∧ c2 = c1 ∧ q2 = q1 ∧ h2 = h1 :=
  ne_cnC (fun h h9 => by omega) (fun h h9 => by omega) (fun h h9 => by omega) (fun h a b => ne_catU a b) g g2
theorem cn_round {c q h c1 q1 h1 c2 q2 h2 : Nat → Int} {i a w0 z u1 v2 z2 : Int} (g : ((z = 1 ∧ (i < 0 ∨ 4 ≤ i) ∧ c1 = c ∧ q1 = q ∧ h1 = h) ∨ (z = 2 ∧ ((0 ≤ i ∧ i < 4) ∧ (a < 1 ∨ 6 < a ∨ w0 < 0 ∨ 7 < w0)) ∧ c1 = c ∧ q1 = q ∧ h1 = h) ∨ (z = 0 ∧ (-9 ≤ u1 ∧ u1 ≤ 1) ∧ ((0 ≤ i ∧ i < 4) ∧ 1 ≤ a ∧ a ≤ 6 ∧ 0 ≤ w0 ∧ w0 ≤ 7) ∧ ne_Around c q h i a w0 c1 q1 h1 u1))) (g2 : ((v2 = 1 ∧ (i < 0 ∨ 4 ≤ i) ∧ c2 = c ∧ q2 = q ∧ h2 = h) ∨ (v2 = 2 ∧ ((0 ≤ i ∧ i < 4) ∧ (a < 1 ∨ 6 < a ∨ w0 < 0 ∨ 7 < w0)) ∧ c2 = c ∧ q2 = q ∧ h2 = h) ∨ (v2 = 0 ∧ ((0 ≤ i ∧ i < 4) ∧ 1 ≤ a ∧ a ≤ 6 ∧ 0 ≤ w0 ∧ w0 ≤ 7) ∧ ne_Around c q h i a w0 c2 q2 h2 z2))) : v2 = z ∧ (z = 0 → u1 = z2 ∧ -9 ≤ u1 ∧ u1 ≤ 1) ∧ c2 = c1 ∧ q2 = q1 ∧ h2 = h1 :=
  ne_cnC (fun h h9 => by omega) (fun h h9 => by omega) (fun h h9 => by omega) (fun h a b => ne_AroundU (by omega) a b) g g2
theorem cn_greater {c q h c1 q1 h1 c2 q2 h2 : Nat → Int} {i j o z u1 v2 z2 : Int} (g : ((z = 1 ∧ (i < 0 ∨ 4 ≤ i ∨ j < 0 ∨ 4 ≤ j ∨ o < 0 ∨ 4 ≤ o) ∧ c1 = c ∧ q1 = q ∧ h1 = h) ∨ (z = 2 ∧ False ∧ c1 = c ∧ q1 = q ∧ h1 = h) ∨ (z = 0 ∧ (-9 ≤ u1 ∧ u1 ≤ 1) ∧ (0 ≤ i ∧ i < 4 ∧ 0 ≤ j ∧ j < 4 ∧ 0 ≤ o ∧ o < 4) ∧ ne_Agt c q h i j o c1 q1 h1 u1))) (g2 : ((v2 = 1 ∧ (i < 0 ∨ 4 ≤ i ∨ j < 0 ∨ 4 ≤ j ∨ o < 0 ∨ 4 ≤ o) ∧ c2 = c ∧ q2 = q ∧ h2 = h) ∨ (v2 = 2 ∧ False ∧ c2 = c ∧ q2 = q ∧ h2 = h) ∨ (v2 = 0 ∧ (0 ≤ i ∧ i < 4 ∧ 0 ≤ j ∧ j < 4 ∧ 0 ≤ o ∧ o < 4) ∧ ne_Agt c q h i j o c2 q2 h2 z2))) : v2 = z ∧ (z = 0 → u1 = z2 ∧ -9 ≤ u1 ∧ u1 ≤ 1) ∧ c2 = c1 ∧ q2 = q1 ∧ h2 = h1 :=
  ne_cnC (fun h h9 => by omega) (fun h h9 => by omega) (fun h h9 => by omega) (fun h a b => ne_AgtU a b) g g2
theorem cn_lesser {c q h c1 q1 h1 c2 q2 h2 : Nat → Int} {i j o z u1 v2 z2 : Int} (g : ((z = 1 ∧ (i < 0 ∨ 4 ≤ i ∨ j < 0 ∨ 4 ≤ j ∨ o < 0 ∨ 4 ≤ o) ∧ c1 = c ∧ q1 = q ∧ h1 = h) ∨ (z = 2 ∧ False ∧ c1 = c ∧ q1 = q ∧ h1 = h) ∨ (z = 0 ∧ (-9 ≤ u1 ∧ u1 ≤ 1) ∧ (0 ≤ i ∧ i < 4 ∧ 0 ≤ j ∧ j < 4 ∧ 0 ≤ o ∧ o < 4) ∧ ne_Als c q h i j o c1 q1 h1 u1))) (g2 : ((v2 = 1 ∧ (i < 0 ∨ 4 ≤ i ∨ j < 0 ∨ 4 ≤ j ∨ o < 0 ∨ 4 ≤ o) ∧ c2 = c ∧ q2 = q ∧ h2 = h) ∨ (v2 = 2 ∧ False ∧ c2 = c ∧ q2 = q ∧ h2 = h) ∨ (v2 = 0 ∧ (0 ≤ i ∧ i < 4 ∧ 0 ≤ j ∧ j < 4 ∧ 0 ≤ o ∧ o < 4) ∧ ne_Als c q h i j o c2 q2 h2 z2))) : v2 = z ∧ (z = 0 → u1 = z2 ∧ -9 ≤ u1 ∧ u1 ≤ 1) ∧ c2 = c1 ∧ q2 = q1 ∧ h2 = h1 :=
  ne_cnC (fun h h9 => by omega) (fun h h9 => by omega) (fun h h9 => by omega) (fun h a b => ne_AlsU a b) g g2
theorem cn_cut {c q h c1 q1 h1 c2 q2 h2 t b : Nat → Int} {i m p w0 o z u1 v2 z2 : Int} (hIb : ne_rg b 1 99) (g : ((z = 1 ∧ (i < 0 ∨ 3 ≤ i ∨ o < 0 ∨ 4 ≤ o) ∧ c1 = c ∧ q1 = q ∧ h1 = h) ∨ (z = 2 ∧ ((0 ≤ i ∧ i < 3 ∧ 0 ≤ o ∧ o < 4) ∧ (p < 0 ∨ 3 < p ∨ w0 < 0 ∨ 7 < w0)) ∧ c1 = c ∧ q1 = q ∧ h1 = h) ∨ (z = 0 ∧ (-9 ≤ u1 ∧ u1 ≤ 1) ∧ ((0 ≤ i ∧ i < 3 ∧ 0 ≤ o ∧ o < 4) ∧ 0 ≤ p ∧ p ≤ 3 ∧ 0 ≤ w0 ∧ w0 ≤ 7) ∧ ne_rcome c q h o w0 p (ne_cv (t i.toNat) m p) (b i.toNat) c1 q1 h1 u1))) (g2 : ((v2 = 1 ∧ (i < 0 ∨ 3 ≤ i ∨ o < 0 ∨ 4 ≤ o) ∧ c2 = c ∧ q2 = q ∧ h2 = h) ∨ (v2 = 2 ∧ ((0 ≤ i ∧ i < 3 ∧ 0 ≤ o ∧ o < 4) ∧ (p < 0 ∨ 3 < p ∨ w0 < 0 ∨ 7 < w0)) ∧ c2 = c ∧ q2 = q ∧ h2 = h) ∨ (v2 = 0 ∧ ((0 ≤ i ∧ i < 3 ∧ 0 ≤ o ∧ o < 4) ∧ 0 ≤ p ∧ p ≤ 3 ∧ 0 ≤ w0 ∧ w0 ≤ 7) ∧ ne_rcome c q h o w0 p (ne_cv (t i.toNat) m p) (b i.toNat) c2 q2 h2 z2))) : v2 = z ∧ (z = 0 → u1 = z2 ∧ -9 ≤ u1 ∧ u1 ≤ 1) ∧ c2 = c1 ∧ q2 = q1 ∧ h2 = h1 :=
  ne_cnC (fun h h9 => by omega) (fun h h9 => by omega) (fun h h9 => by omega) (fun h a b => ne_rcomeU (by have := hIb i.toNat; omega) (by have := hIb i.toNat; omega) (by omega) rfl a b) g g2
theorem cn_house {h : Nat → Int} {a z u1 v2 z2 : Int} (g : ((z = 1 ∧ (a < 0 ∨ 3 < a)) ∨ (z = 0 ∧ (0 ≤ u1 ∧ u1 ≤ 1000) ∧ (0 ≤ a ∧ a ≤ 3) ∧ u1 = h a.toNat))) (g2 : ((v2 = 1 ∧ (a < 0 ∨ 3 < a)) ∨ (v2 = 2 ∧ False) ∨ (v2 = 0 ∧ (0 ≤ a ∧ a ≤ 3) ∧ (0 ≤ z2 ∧ z2 ≤ 1000) ∧ z2 = h a.toNat))) : v2 = z ∧ (z = 0 → u1 = z2 ∧ 0 ≤ u1 ∧ u1 ≤ 1000) := by
  rcases g with ⟨a1, a2⟩ | ⟨a1, a2, a3, hv⟩
  · rcases g2 with ⟨b1, b2⟩ | ⟨b1, b2⟩ | ⟨b1, b2, b3, hz⟩
    · exact ⟨by omega, fun h => by omega⟩
    · exact b2.elim
    · exfalso; omega
  · rcases g2 with ⟨b1, b2⟩ | ⟨b1, b2⟩ | ⟨b1, b2, b3, hz⟩
    · exfalso; omega
    · exact b2.elim
    · exact ⟨by omega, fun _ => ⟨(by rw [hv, hz]), by omega⟩⟩
