theorem cn_setWheel {t b k n t1 b1 k1 n1 t2 b2 k2 h h1 h2 : Nat → Int} {i a d z u1 v2 z2 : Int} (hP : ∀ j : Nat, ne_per (t j) (b j) (n j)) (g : ((z = 1 ∧ (i < 0 ∨ 3 ≤ i) ∧ t1 = t ∧ b1 = b ∧ k1 = k ∧ n1 = n ∧ h1 = h) ∨ (z = 2 ∧ ((0 ≤ i ∧ i < 3) ∧ (d < 1 ∨ 99 < d ∨ d.tmod 2 = 0 ∨ d.tmod 5 = 0 ∨ a < 0 ∨ d ≤ a)) ∧ t1 = t ∧ b1 = b ∧ k1 = k ∧ n1 = n ∧ h1 = h) ∨ (z = 0 ∧ (1 ≤ u1 ∧ u1 ≤ 96) ∧ ((0 ≤ i ∧ i < 3) ∧ (1 ≤ d ∧ d ≤ 99 ∧ d.tmod 2 ≠ 0 ∧ d.tmod 5 ≠ 0) ∧ (0 ≤ a ∧ a < d)) ∧ t1 = va_up t i.toNat a ∧ b1 = va_up b i.toNat d ∧ k1 = va_up k i.toNat 0 ∧ n1 = va_up n i.toNat u1 ∧ h1 = va_up h 1 (h 1 + 1) ∧ ne_per a d u1))) (g2 : ((v2 = 1 ∧ (i < 0 ∨ 3 ≤ i) ∧ t2 = t ∧ b2 = b ∧ k2 = k ∧ h2 = h) ∨ (v2 = 2 ∧ (0 ≤ i ∧ i < 3) ∧ (d < 1 ∨ 99 < d ∨ d.tmod 2 = 0 ∨ d.tmod 5 = 0 ∨ a < 0 ∨ d ≤ a) ∧ t2 = t ∧ b2 = b ∧ k2 = k ∧ h2 = h) ∨ (v2 = 0 ∧ ((0 ≤ i ∧ i < 3) ∧ (1 ≤ d ∧ d ≤ 99 ∧ d.tmod 2 ≠ 0 ∧ d.tmod 5 ≠ 0) ∧ (0 ≤ a ∧ a < d)) ∧ t2 = (va_up t i.toNat a) ∧ b2 = (va_up b i.toNat d) ∧ k2 = (va_up k i.toNat 0) ∧ ne_per a d z2 ∧ h2 = va_up h 1 (h 1 + 1)))) : v2 = z ∧ (z = 0 → u1 = z2 ∧ 1 ≤ u1 ∧ u1 ≤ 96) ∧ t2 = t1 ∧ b2 = b1 ∧ k2 = k1 ∧ h2 = h1 ∧ ∀ j : Nat, ne_per (t1 j) (b1 j) (n1 j) := by
  rcases g with ⟨x0, x1, rfl, rfl, rfl, rfl, rfl⟩ | ⟨x0, x1, rfl, rfl, rfl, rfl, rfl⟩ | ⟨x0, hl, x1, rfl, rfl, rfl, rfl, rfl, hv⟩
  · rcases g2 with ⟨x2, x3, rfl, rfl, rfl, rfl⟩ | ⟨x2, x3, x4, rfl, rfl, rfl, rfl⟩ | ⟨x2, x3, rfl, rfl, rfl, hp, rfl⟩
    · exact ⟨by omega, fun h => by omega, rfl, rfl, rfl, rfl, hP⟩
    · exfalso; omega
    · exfalso; omega
  · rcases g2 with ⟨x2, x3, rfl, rfl, rfl, rfl⟩ | ⟨x2, x3, x4, rfl, rfl, rfl, rfl⟩ | ⟨x2, x3, rfl, rfl, rfl, hp, rfl⟩
    · exfalso; omega
    · exact ⟨by omega, fun h => by omega, rfl, rfl, rfl, rfl, hP⟩
    · exfalso; omega
  · rcases g2 with ⟨x2, x3, rfl, rfl, rfl, rfl⟩ | ⟨x2, x3, x4, rfl, rfl, rfl, rfl⟩ | ⟨x2, x3, rfl, rfl, rfl, hp, rfl⟩
    · exfalso; omega
    · exfalso; omega
    · refine ⟨by omega, fun _ => ⟨ne_perU hv hp, by omega⟩, rfl, rfl, rfl, rfl, fun j => ?_⟩
      by_cases hj : j = i.toNat
      · subst hj; rw [va_up_self, va_up_self, va_up_self]; exact hv
      · rw [va_up_ne _ _ hj, va_up_ne _ _ hj, va_up_ne _ _ hj]; exact hP j
theorem cn_step {t b k n t1 b1 k1 n1 t2 b2 k2 h h1 h2 : Nat → Int} {i z u1 v2 z2 : Int} (hP : ∀ j : Nat, ne_per (t j) (b j) (n j)) (g : ((z = 1 ∧ (i < 0 ∨ 3 ≤ i) ∧ t1 = t ∧ b1 = b ∧ k1 = k ∧ n1 = n ∧ h1 = h) ∨ (z = 0 ∧ (0 ≤ u1 ∧ u1 ≤ 9) ∧ (0 ≤ i ∧ i < 3) ∧ t1 = t ∧ b1 = b ∧ k1 = va_up k i.toNat ((k i.toNat + 1).tmod (n i.toNat)) ∧ n1 = n ∧ h1 = va_up h 1 (h 1 + 1) ∧ u1 = (10 * ne_rs (t i.toNat) (b i.toNat) (k i.toNat).toNat).tdiv (b i.toNat)))) (g2 : t2 = t ∧ b2 = b ∧ ((v2 = 1 ∧ (i < 0 ∨ 3 ≤ i) ∧ k2 = k ∧ h2 = h) ∨ (v2 = 0 ∧ (0 ≤ i ∧ i < 3) ∧ z2 = (10 * ne_rs (t i.toNat) (b i.toNat) (k i.toNat).toNat).tdiv (b i.toNat) ∧ ∃ L, ne_per (t i.toNat) (b i.toNat) L ∧ k2 = (va_up k i.toNat ((k i.toNat + 1).tmod L)) ∧ h2 = va_up h 1 (h 1 + 1)))) : v2 = z ∧ (z = 0 → u1 = z2 ∧ 0 ≤ u1 ∧ u1 ≤ 9) ∧ t2 = t1 ∧ b2 = b1 ∧ k2 = k1 ∧ h2 = h1 ∧ ∀ j : Nat, ne_per (t1 j) (b1 j) (n1 j) := by
  obtain ⟨rfl, rfl, g2⟩ := g2
  rcases g with ⟨x0, x1, rfl, rfl, rfl, rfl, rfl⟩ | ⟨x0, hl, x1, rfl, rfl, rfl, rfl, rfl, hv⟩
  · rcases g2 with ⟨x2, x3, rfl, rfl⟩ | ⟨x2, x3, hz, L, hp, rfl, rfl⟩
    · exact ⟨by omega, fun h => by omega, rfl, rfl, rfl, rfl, hP⟩
    · exfalso; omega
  · rcases g2 with ⟨x2, x3, rfl, rfl⟩ | ⟨x2, x3, hz, L, hp, rfl, rfl⟩
    · exfalso; omega
    · obtain rfl := ne_perU (hP i.toNat) hp
      exact ⟨by omega, fun _ => ⟨by rw [hv, hz], by omega⟩, rfl, rfl, rfl, rfl, hP⟩
theorem cn_turn {t b k n t1 b1 k1 n1 t2 b2 k2 h h1 h2 : Nat → Int} {i a z u1 v2 z2 : Int} (hP : ∀ j : Nat, ne_per (t j) (b j) (n j)) (g : ((z = 1 ∧ (i < 0 ∨ 3 ≤ i) ∧ t1 = t ∧ b1 = b ∧ k1 = k ∧ n1 = n ∧ h1 = h) ∨ (z = 2 ∧ ((0 ≤ i ∧ i < 3) ∧ (a < 0 ∨ 200 < a)) ∧ t1 = t ∧ b1 = b ∧ k1 = k ∧ n1 = n ∧ h1 = h) ∨ (z = 0 ∧ (0 ≤ u1 ∧ u1 ≤ 98) ∧ (0 ≤ i ∧ i < 3 ∧ 0 ≤ a ∧ a ≤ 200) ∧ t1 = t ∧ b1 = b ∧ k1 = va_up k i.toNat ((k i.toNat + a).tmod (n i.toNat)) ∧ n1 = n ∧ h1 = va_up h 1 (h 1 + 1) ∧ u1 = ne_rs (t i.toNat) (b i.toNat) ((k i.toNat + a).tmod (n i.toNat)).toNat))) (g2 : t2 = t ∧ b2 = b ∧ ((v2 = 1 ∧ (i < 0 ∨ 3 ≤ i) ∧ k2 = k ∧ h2 = h) ∨ (v2 = 2 ∧ (0 ≤ i ∧ i < 3) ∧ (a < 0 ∨ 200 < a) ∧ k2 = k ∧ h2 = h) ∨ (v2 = 0 ∧ (0 ≤ i ∧ i < 3) ∧ (0 ≤ a ∧ a ≤ 200) ∧ ∃ L, ne_per (t i.toNat) (b i.toNat) L ∧ k2 = (va_up k i.toNat ((k i.toNat + a).tmod L)) ∧ z2 = ne_rs (t i.toNat) (b i.toNat) ((k i.toNat + a).tmod L).toNat ∧ h2 = va_up h 1 (h 1 + 1)))) : v2 = z ∧ (z = 0 → u1 = z2 ∧ 0 ≤ u1 ∧ u1 ≤ 98) ∧ t2 = t1 ∧ b2 = b1 ∧ k2 = k1 ∧ h2 = h1 ∧ ∀ j : Nat, ne_per (t1 j) (b1 j) (n1 j) := by
  obtain ⟨rfl, rfl, g2⟩ := g2
  rcases g with ⟨x0, x1, rfl, rfl, rfl, rfl, rfl⟩ | ⟨x0, x1, rfl, rfl, rfl, rfl, rfl⟩ | ⟨x0, hl, x1, rfl, rfl, rfl, rfl, rfl, hv⟩
  · rcases g2 with ⟨x2, x3, rfl, rfl⟩ | ⟨x2, x3, x4, rfl, rfl⟩ | ⟨x2, x3, x4, L, hp, rfl, hz, rfl⟩
    · exact ⟨by omega, fun h => by omega, rfl, rfl, rfl, rfl, hP⟩
    · exfalso; omega
    · exfalso; omega
  · rcases g2 with ⟨x2, x3, rfl, rfl⟩ | ⟨x2, x3, x4, rfl, rfl⟩ | ⟨x2, x3, x4, L, hp, rfl, hz, rfl⟩
    · exfalso; omega
    · exact ⟨by omega, fun h => by omega, rfl, rfl, rfl, rfl, hP⟩
    · exfalso; omega
  · rcases g2 with ⟨x2, x3, rfl, rfl⟩ | ⟨x2, x3, x4, rfl, rfl⟩ | ⟨x2, x3, x4, L, hp, rfl, hz, rfl⟩
    · exfalso; omega
    · exfalso; omega
    · obtain rfl := ne_perU (hP i.toNat) hp
      exact ⟨by omega, fun _ => ⟨by rw [hv, hz], by omega⟩, rfl, rfl, rfl, rfl, hP⟩
theorem cn_times {t b k n t1 b1 k1 n1 t2 b2 k2 h h1 h2 : Nat → Int} {i a o z u1 v2 z2 : Int} (hP : ∀ j : Nat, ne_per (t j) (b j) (n j)) (hIt : ne_rg t 0 98) (hIb : ne_rg b 1 99) (hG : ∀ j : Nat, (b j).tmod 2 ≠ 0 ∧ (b j).tmod 5 ≠ 0) (g : ((z = 1 ∧ (i < 0 ∨ 3 ≤ i ∨ o < 0 ∨ 3 ≤ o) ∧ t1 = t ∧ b1 = b ∧ k1 = k ∧ n1 = n ∧ h1 = h) ∨ (z = 2 ∧ (((0 ≤ i ∧ i < 3) ∧ 0 ≤ o ∧ o < 3) ∧ (a < 0 ∨ 99 < a)) ∧ t1 = t ∧ b1 = b ∧ k1 = k ∧ n1 = n ∧ h1 = h) ∨ (z = 0 ∧ (0 ≤ u1 ∧ u1 ≤ 98) ∧ ((0 ≤ i ∧ i < 3) ∧ 0 ≤ o ∧ o < 3 ∧ 0 ≤ a ∧ a ≤ 99) ∧ t1 = va_up t o.toNat ((a * t i.toNat).tmod (b i.toNat)) ∧ b1 = va_up b o.toNat (b i.toNat) ∧ k1 = va_up k o.toNat 0 ∧ (∃ M : Int, n1 = va_up n o.toNat M ∧ ne_pc ((a * t i.toNat).tmod (b i.toNat)) (b i.toNat) M) ∧ h1 = va_up h 1 (h 1 + 1) ∧ u1 = ((a * t i.toNat).tmod (b i.toNat)) ∧ 0 ≤ ((a * t i.toNat).tmod (b i.toNat)) ∧ ((a * t i.toNat).tmod (b i.toNat)) < b i.toNat))) (g2 : ((v2 = 1 ∧ (i < 0 ∨ 3 ≤ i ∨ o < 0 ∨ 3 ≤ o) ∧ t2 = t ∧ b2 = b ∧ k2 = k ∧ h2 = h) ∨ (v2 = 2 ∧ ((0 ≤ i ∧ i < 3) ∧ 0 ≤ o ∧ o < 3) ∧ (a < 0 ∨ 99 < a) ∧ t2 = t ∧ b2 = b ∧ k2 = k ∧ h2 = h) ∨ (v2 = 0 ∧ ((0 ≤ i ∧ i < 3) ∧ 0 ≤ o ∧ o < 3 ∧ 0 ≤ a ∧ a ≤ 99) ∧ t2 = (va_up t o.toNat ((a * t i.toNat).tmod (b i.toNat))) ∧ b2 = (va_up b o.toNat (b i.toNat)) ∧ k2 = (va_up k o.toNat 0) ∧ z2 = ((a * t i.toNat).tmod (b i.toNat)) ∧ h2 = va_up h 1 (h 1 + 1)))) : v2 = z ∧ (z = 0 → u1 = z2 ∧ 0 ≤ u1 ∧ u1 ≤ 98) ∧ t2 = t1 ∧ b2 = b1 ∧ k2 = k1 ∧ h2 = h1 ∧ ∀ j : Nat, ne_per (t1 j) (b1 j) (n1 j) := by
  rcases g with ⟨x0, x1, rfl, rfl, rfl, rfl, rfl⟩ | ⟨x0, x1, rfl, rfl, rfl, rfl, rfl⟩ | ⟨x0, hl, x1, rfl, rfl, rfl, ⟨M, rfl, hm⟩, rfl, hv, hv2⟩
  · rcases g2 with ⟨x2, x3, rfl, rfl, rfl, rfl⟩ | ⟨x2, x3, x4, rfl, rfl, rfl, rfl⟩ | ⟨x2, x3, rfl, rfl, rfl, hz, rfl⟩
    · exact ⟨by omega, fun h => by omega, rfl, rfl, rfl, rfl, hP⟩
    · exfalso; omega
    · exfalso; omega
  · rcases g2 with ⟨x2, x3, rfl, rfl, rfl, rfl⟩ | ⟨x2, x3, x4, rfl, rfl, rfl, rfl⟩ | ⟨x2, x3, rfl, rfl, rfl, hz, rfl⟩
    · exfalso; omega
    · exact ⟨by omega, fun h => by omega, rfl, rfl, rfl, rfl, hP⟩
    · exfalso; omega
  · rcases g2 with ⟨x2, x3, rfl, rfl, rfl, rfl⟩ | ⟨x2, x3, x4, rfl, rfl, rfl, rfl⟩ | ⟨x2, x3, rfl, rfl, rfl, hz, rfl⟩
    · exfalso; omega
    · exfalso; omega
    · have hb := hIb i.toNat
      have hg := hG i.toNat
      obtain ⟨e1, e2, e3, e4⟩ := hm
      have hper := ne_pcper hv2.1 hv2.2 (by omega) hg.1 hg.2 e1 e2 e3 e4
      refine ⟨by omega, fun _ => ⟨by rw [hv, hz], by omega⟩, rfl, rfl, rfl, rfl, fun j => ?_⟩
      by_cases hj : j = o.toNat
      · subst hj; rw [va_up_self, va_up_self, va_up_self]; exact hper
      · rw [va_up_ne _ _ hj, va_up_ne _ _ hj, va_up_ne _ _ hj]; exact hP j
