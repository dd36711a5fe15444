theorem ne_ev (n : Int) : n.tmod 2 = 0 ↔ n % 2 = 0 := by
  have h := Int.tmod_def n 2
  have h1 := Int.tmod_def n 2
  have h2 : -2 < n.tmod 2 ∧ n.tmod 2 < 2 := by
    rcases (show 0 ≤ n ∨ n < 0 by omega) with h9 | h9
    · rw [Int.tmod_eq_emod_of_nonneg h9]; omega
    · have h8 : n.tmod 2 = -((-n).tmod 2) := by rw [Int.neg_tmod, Int.neg_neg]
      rw [h8, Int.tmod_eq_emod_of_nonneg (by omega)]; omega
  omega
/-- a / b, rounded: f the floor -/
def ne_rd (a b w z : Int) : Prop := ∃ f : Int, f * b ≤ a ∧ a < f * b + b ∧ ((a = f * b ∧ z = f) ∨ (f * b < a ∧ w ≠ 7 ∧ (z = f ∨ z = f + 1) ∧ (w = 0 → (z = f + 1 ↔ 0 < a)) ∧ (w = 1 → (z = f ↔ 0 < a)) ∧ (w = 2 → z = f + 1) ∧ (w = 3 → z = f) ∧ (4 ≤ w → (2 * (a - f * b) < b → z = f) ∧ (b < 2 * (a - f * b) → z = f + 1) ∧ (2 * (a - f * b) = b → (w = 4 → (z = f + 1 ↔ 0 < a)) ∧ (w = 5 → (z = f ↔ 0 < a)) ∧ (w = 6 → z % 2 = 0)))))
theorem ne_sgn {x y b c : Int} (hb : 0 < b) (hc : 0 < c) (h : x * c = y * b) : (x < 0 ↔ y < 0) ∧ (x = 0 ↔ y = 0) ∧ (0 < x ↔ 0 < y) := by
  have key : ∀ {x y b c : Int}, 0 < b → 0 < c → x * c = y * b → 0 < x → 0 < y := by
    intro x y b c hb hc h hx
    have h1 : 0 < x * c := Int.mul_pos hx hc
    rcases (show 0 < y ∨ y ≤ 0 by omega) with g | g
    · exact g
    · have h2 : y * b ≤ 0 := Int.mul_nonpos_of_nonpos_of_nonneg g (by omega)
      omega
  have hn : (-x) * c = (-y) * b := by rw [Int.neg_mul, Int.neg_mul, h]
  have h1 := @key x y b c hb hc h
  have h2 := @key y x c b hc hb h.symm
  have h3 := @key (-x) (-y) b c hb hc hn
  have h4 := @key (-y) (-x) c b hc hb hn.symm
  omega
theorem ne_rdU {a b a' b' w z z' : Int} (hb : 0 < b) (hb' : 0 < b') (hw : 0 ≤ w ∧ w ≤ 7) (he : a * b' = a' * b) (h : ne_rd a b w z) (h' : ne_rd a' b' w z') : z = z' := by
  obtain ⟨f, f1, f2, f3⟩ := h
  obtain ⟨g, g1, g2, g3⟩ := h'
  have hle : ∀ {a b a' b' f g : Int}, 0 < b → 0 < b' → a * b' = a' * b → f * b ≤ a → a' < g * b' + b' → f < g + 1 := by
    intro a b a' b' f g hb hb' he h1 h2
    have e1 : f * b * b' ≤ a * b' := Int.mul_le_mul_of_nonneg_right h1 (by omega)
    have e2 : a' * b < (g * b' + b') * b := Int.mul_lt_mul_of_pos_right h2 hb
    have e3 : f * b * b' = f * (b * b') := Int.mul_assoc f b b'
    have e4 : (g * b' + b') * b = (g + 1) * (b * b') := by rw [show g * b' + b' = (g + 1) * b' by rw [Int.add_mul, Int.one_mul], Int.mul_assoc, Int.mul_comm b' b]
    rw [e3] at e1
    rw [e4] at e2
    exact Int.lt_of_mul_lt_mul_right (by omega : f * (b * b') < (g + 1) * (b * b')) (Int.le_of_lt (Int.mul_pos hb hb'))
  have hfg : f = g := by
    have h1 := hle hb hb' he f1 g2
    have h2 := hle hb' hb he.symm g1 f2
    omega
  subst hfg
  have hr : (a - f * b) * b' = (a' - f * b') * b := by
    rw [Int.sub_mul, Int.sub_mul, he, Int.mul_assoc, Int.mul_assoc, Int.mul_comm b b']
  have hh : (2 * (a - f * b) - b) * b' = (2 * (a' - f * b') - b') * b := by
    rw [Int.sub_mul, Int.sub_mul, Int.mul_assoc, Int.mul_assoc, hr, Int.mul_comm b b']
  have s1 := ne_sgn hb hb' he
  have s2 := ne_sgn hb hb' hr
  have s3 := ne_sgn hb hb' hh
  rcases f3 with ⟨p1, rfl⟩ | ⟨p1, p2, p3, p4⟩
  · rcases g3 with ⟨q1, rfl⟩ | ⟨q1, -⟩
    · rfl
    · exfalso; have h8 := s2.2.1; clear s1 s2 s3 hle hr hh he; omega
  · rcases g3 with ⟨q1, rfl⟩ | ⟨q1, q2, q3, q4⟩
    · exfalso; have h8 := s2.2.1; clear s1 s2 s3 hle hr hh he p2 p3 p4; omega
    · obtain ⟨p5, p6, p7, p8, p9⟩ := p4
      obtain ⟨q5, q6, q7, q8, q9⟩ := q4
      clear hle hr hh he f1 f2 g1 g2
      rcases (show w = 0 ∨ w = 1 ∨ w = 2 ∨ w = 3 ∨ 4 ≤ w by omega) with h | h | h | h | h
      · have := p5 h; have := q5 h; clear p5 p6 p7 p8 p9 q5 q6 q7 q8 q9; omega
      · have := p6 h; have := q6 h; clear p5 p6 p7 p8 p9 q5 q6 q7 q8 q9; omega
      · rw [p7 h, q7 h]
      · rw [p8 h, q8 h]
      · obtain ⟨u1, u2, u3⟩ := p9 h
        obtain ⟨v1, v2, v3⟩ := q9 h
        have t1 : 2 * (a - f * b) < b → 2 * (a' - f * b') < b' := by have := s3.1; clear s1 s2 s3 p3 q3 p5 p6 p7 p8 p9 q5 q6 q7 q8 q9 u1 u2 u3 v1 v2 v3; omega
        have t2 : b < 2 * (a - f * b) → b' < 2 * (a' - f * b') := by have := s3.2.2; clear s1 s2 s3 p3 q3 p5 p6 p7 p8 p9 q5 q6 q7 q8 q9 u1 u2 u3 v1 v2 v3; omega
        have t3 : 2 * (a - f * b) = b → 2 * (a' - f * b') = b' := by have := s3.2.1; clear s1 s2 s3 p3 q3 p5 p6 p7 p8 p9 q5 q6 q7 q8 q9 u1 u2 u3 v1 v2 v3; omega
        rcases (show 2 * (a - f * b) < b ∨ b < 2 * (a - f * b) ∨ 2 * (a - f * b) = b by omega) with k | k | k
        · rw [u1 k, v1 (t1 k)]
        · rw [u2 k, v2 (t2 k)]
        · obtain ⟨x1, x2, x3⟩ := u3 k
          obtain ⟨y1, y2, y3⟩ := v3 (t3 k)
          clear t1 t2 t3 s2 s3 u1 u2 u3 v1 v2 v3 p5 p6 p7 p8 p9 q5 q6 q7 q8 q9
          rcases (show w = 4 ∨ w = 5 ∨ w = 6 by omega) with e | e | e
          · have := x1 e; have := y1 e; clear x1 x2 x3 y1 y2 y3; omega
          · have := x2 e; have := y2 e; clear x1 x2 x3 y1 y2 y3; omega
          · have := x3 e; have := y3 e; clear x1 x2 x3 y1 y2 y3; omega
def ne_rx (a b : Int) : Prop := ∃ f : Int, f * b < a ∧ a < f * b + b
theorem ne_flr {a b : Int} (hb : 1 ≤ b) : ∃ m : Int, a = a.tdiv b * b + m ∧ m = a.tmod b ∧ -b < m ∧ m < b ∧ (0 ≤ a → 0 ≤ m) ∧ (a ≤ 0 → m ≤ 0) := by
  have h := Int.tmod_def a b
  refine ⟨a.tmod b, by rw [h, Int.mul_comm]; omega, rfl, ?_⟩
  rcases (show 0 ≤ a ∨ a < 0 by omega) with h9 | h9
  · rw [Int.tmod_eq_emod_of_nonneg h9]
    have h1 := Int.emod_nonneg a (show b ≠ 0 by omega)
    have h2 := Int.emod_lt_of_pos a (show 0 < b by omega)
    refine ⟨by omega, by omega, by omega, fun h8 => ?_⟩
    have : a = 0 := by omega
    subst this
    rw [Int.zero_emod]; omega
  · have h8 : a.tmod b = -((-a).tmod b) := by rw [Int.neg_tmod, Int.neg_neg]
    rw [h8, Int.tmod_eq_emod_of_nonneg (by omega)]
    have h1 := Int.emod_nonneg (-a) (show b ≠ 0 by omega)
    have h2 := Int.emod_lt_of_pos (-a) (show 0 < b by omega)
    omega
theorem ne_rdC1 {a b w : Int} (hb : 1 ≤ b) (h0 : a.tmod b = 0) : ne_rd a b w (a.tdiv b) := by
  obtain ⟨m, h1, h2, h3⟩ := ne_flr (a := a) hb
  exact ⟨a.tdiv b, by omega, by omega, Or.inl ⟨by omega, rfl⟩⟩
theorem ne_rxC {a b : Int} (hb : 1 ≤ b) (h0 : a.tmod b ≠ 0) : ne_rx a b := by
  obtain ⟨m, h1, h2, h3⟩ := ne_flr (a := a) hb
  rcases (show 0 ≤ a ∨ a < 0 by omega) with h9 | h9
  · exact ⟨a.tdiv b, by omega, by omega⟩
  · have e : (a.tdiv b - 1) * b = a.tdiv b * b - b := by rw [Int.sub_mul, Int.one_mul]
    exact ⟨a.tdiv b - 1, by omega, by omega⟩
theorem ne_rdC2 {a b w t s hf z r : Int} (hb : 1 ≤ b) (hw : 0 ≤ w ∧ w ≤ 6) (h0 : a.tmod b ≠ 0) (hr : (0 ≤ a → r = a.tmod b) ∧ (a < 0 → r = -(a.tmod b))) (hs : (0 < a → s = 1) ∧ (a < 0 → s = -1)) (hh : (hf < 0 ↔ 2 * r < b) ∧ (0 < hf ↔ b < 2 * r)) (ht : (0 ≤ t ∧ t ≤ 1) ∧ (w = 0 → t = 1) ∧ (w = 1 → t = 0) ∧ (w = 2 → (t = 1 ↔ 0 < a)) ∧ (w = 3 → (t = 1 ↔ a < 0)) ∧ (w = 4 → (t = 1 ↔ 0 ≤ hf)) ∧ (w = 5 → (t = 1 ↔ 0 < hf)) ∧ (w = 6 → (t = 1 ↔ (0 < hf ∨ (hf = 0 ∧ (a.tdiv b).tmod 2 ≠ 0))))) (hz : (t = 1 ∧ z = a.tdiv b + s) ∨ (t = 0 ∧ z = a.tdiv b)) : ne_rd a b w z := by
  obtain ⟨m, h1, h2, h3, h4, h5, h6⟩ := ne_flr (a := a) hb
  have hev := ne_ev (a.tdiv b)
  rw [← h2] at h0 hr
  clear h2
  obtain ⟨k0, k1, k2, k3, k4, k5, k6, k7⟩ := ht
  generalize a.tdiv b = N at *
  have ha : 0 < a ∨ a < 0 := by clear hh hs hz hev hr k0 k1 k2 k3 k4 k5 k6 k7 hw; omega
  rcases ha with h9 | h9
  · obtain rfl : s = 1 := hs.1 h9
    obtain rfl : r = m := hr.1 (Int.le_of_lt h9)
    have e1 : 0 < a - N * b ∧ a - N * b < b ∧ r = a - N * b := by clear hh hs hz hev hr k0 k1 k2 k3 k4 k5 k6 k7 hw; omega
    clear hr hs h0 h1 h3 h4 h5 h6
    obtain ⟨e1, e2, rfl⟩ := e1
    have hz' : z = N + t := by clear hh hev k1 k2 k3 k4 k5 k6 k7 hw e1 e2 h9 hb; omega
    clear hz
    subst hz'
    refine ⟨N, by clear hh hev k0 k1 k2 k3 k4 k5 k6 k7 hw; omega, by clear hh hev k0 k1 k2 k3 k4 k5 k6 k7 hw; omega, Or.inr ⟨by clear hh hev k0 k1 k2 k3 k4 k5 k6 k7 hw; omega, by clear hh hev k0 k1 k2 k3 k4 k5 k6 k7; omega, by clear hh hev k1 k2 k3 k4 k5 k6 k7 hw; omega, ?_⟩⟩
    rcases (show w = 0 ∨ w = 1 ∨ w = 2 ∨ w = 3 ∨ w = 4 ∨ w = 5 ∨ w = 6 by clear hh hev k0 k1 k2 k3 k4 k5 k6 k7; omega) with rfl | rfl | rfl | rfl | rfl | rfl | rfl
    · have k9 := k1 rfl; clear k1 k2 k3 k4 k5 k6 k7 hh hev; exact ⟨fun _ => by omega, fun h => by omega, fun h => by omega, fun h => by omega, fun h => by omega⟩
    · have k9 := k2 rfl; clear k1 k2 k3 k4 k5 k6 k7 hh hev; exact ⟨fun h => by omega, fun _ => by omega, fun h => by omega, fun h => by omega, fun h => by omega⟩
    · have k9 := k3 rfl; clear k1 k2 k3 k4 k5 k6 k7 hh hev; exact ⟨fun h => by omega, fun h => by omega, fun _ => by omega, fun h => by omega, fun h => by omega⟩
    · have k9 := k4 rfl; clear k1 k2 k3 k4 k5 k6 k7 hh hev; exact ⟨fun h => by omega, fun h => by omega, fun h => by omega, fun _ => by omega, fun h => by omega⟩
    · have k9 := k5 rfl; clear k1 k2 k3 k4 k5 k6 k7 hev; exact ⟨fun h => by omega, fun h => by omega, fun h => by omega, fun h => by omega, fun _ => ⟨fun h => by omega, fun h => by omega, fun h => ⟨fun _ => by omega, fun h => by omega, fun h => by omega⟩⟩⟩
    · have k9 := k6 rfl; clear k1 k2 k3 k4 k5 k6 k7 hev; exact ⟨fun h => by omega, fun h => by omega, fun h => by omega, fun h => by omega, fun _ => ⟨fun h => by omega, fun h => by omega, fun h => ⟨fun h => by omega, fun _ => by omega, fun h => by omega⟩⟩⟩
    · have k9 := k7 rfl; clear k1 k2 k3 k4 k5 k6 k7; exact ⟨fun h => by omega, fun h => by omega, fun h => by omega, fun h => by omega, fun _ => ⟨fun h => by omega, fun h => by omega, fun h => ⟨fun h => by omega, fun h => by omega, fun _ => by omega⟩⟩⟩
  · obtain rfl : s = -1 := hs.2 h9
    obtain rfl : r = -m := hr.2 h9
    have e0 : (N - 1) * b = N * b - b := by rw [Int.sub_mul, Int.one_mul]
    have e1 : 0 < a - (N * b - b) ∧ a - (N * b - b) < b ∧ m = a - N * b := by clear hh hs hz hev hr k0 k1 k2 k3 k4 k5 k6 k7 hw e0; omega
    clear hr hs h0 h1 h3 h4 h5 h6
    obtain ⟨e1, e2, rfl⟩ := e1
    have hz' : z = N - t := by clear hh hev k1 k2 k3 k4 k5 k6 k7 hw e1 e2 h9 hb e0; omega
    clear hz
    subst hz'
    refine ⟨N - 1, by clear hh hev k0 k1 k2 k3 k4 k5 k6 k7 hw; omega, by clear hh hev k0 k1 k2 k3 k4 k5 k6 k7 hw; omega, Or.inr ⟨by clear hh hev k0 k1 k2 k3 k4 k5 k6 k7 hw; omega, by clear hh hev k0 k1 k2 k3 k4 k5 k6 k7; omega, by clear hh hev k1 k2 k3 k4 k5 k6 k7 hw; omega, ?_⟩⟩
    rw [e0]
    clear e0
    rcases (show w = 0 ∨ w = 1 ∨ w = 2 ∨ w = 3 ∨ w = 4 ∨ w = 5 ∨ w = 6 by clear hh hev k0 k1 k2 k3 k4 k5 k6 k7; omega) with rfl | rfl | rfl | rfl | rfl | rfl | rfl
    · have k9 := k1 rfl; clear k1 k2 k3 k4 k5 k6 k7 hh hev; exact ⟨fun _ => by omega, fun h => by omega, fun h => by omega, fun h => by omega, fun h => by omega⟩
    · have k9 := k2 rfl; clear k1 k2 k3 k4 k5 k6 k7 hh hev; exact ⟨fun h => by omega, fun _ => by omega, fun h => by omega, fun h => by omega, fun h => by omega⟩
    · have k9 := k3 rfl; clear k1 k2 k3 k4 k5 k6 k7 hh hev; exact ⟨fun h => by omega, fun h => by omega, fun _ => by omega, fun h => by omega, fun h => by omega⟩
    · have k9 := k4 rfl; clear k1 k2 k3 k4 k5 k6 k7 hh hev; exact ⟨fun h => by omega, fun h => by omega, fun h => by omega, fun _ => by omega, fun h => by omega⟩
    · have k9 := k5 rfl; clear k1 k2 k3 k4 k5 k6 k7 hev; exact ⟨fun h => by omega, fun h => by omega, fun h => by omega, fun h => by omega, fun _ => ⟨fun h => by omega, fun h => by omega, fun h => ⟨fun _ => by omega, fun h => by omega, fun h => by omega⟩⟩⟩
    · have k9 := k6 rfl; clear k1 k2 k3 k4 k5 k6 k7 hev; exact ⟨fun h => by omega, fun h => by omega, fun h => by omega, fun h => by omega, fun _ => ⟨fun h => by omega, fun h => by omega, fun h => ⟨fun h => by omega, fun _ => by omega, fun h => by omega⟩⟩⟩
    · have k9 := k7 rfl; clear k1 k2 k3 k4 k5 k6 k7; exact ⟨fun h => by omega, fun h => by omega, fun h => by omega, fun h => by omega, fun _ => ⟨fun h => by omega, fun h => by omega, fun h => ⟨fun h => by omega, fun h => by omega, fun _ => by omega⟩⟩⟩
theorem ne_rxU {a b a' b' w z : Int} (hb : 0 < b) (hb' : 0 < b') (he : a * b' = a' * b) (hw : w = 7) (h : ne_rx a b) (h' : ne_rd a' b' w z) : False := by
  obtain ⟨f, f1, f2⟩ := h
  obtain ⟨g, g1, g2, g3 | ⟨-, g4, -⟩⟩ := h'
  · have e0 : (a - g * b) * b' = (a' - g * b') * b := by rw [Int.sub_mul, Int.sub_mul, he, Int.mul_assoc, Int.mul_assoc, Int.mul_comm b b']
    have e1 : a - g * b = 0 := ((ne_sgn hb hb' e0).2.1).mpr (by omega)
    have e2 : f * b < g * b := by omega
    have e3 : g * b < (f + 1) * b := by rw [Int.add_mul, Int.one_mul]; omega
    have e4 := Int.lt_of_mul_lt_mul_right e2 (by omega)
    have e5 := Int.lt_of_mul_lt_mul_right e3 (by omega)
    omega
  · exact g4 hw
/-- whether the farther neighbour is taken -/
def ne_tk (a h w b z : Int) : Prop := (w = 0 → z = 1) ∧ (w = 1 → z = 0) ∧ (w = 2 → (z = 1 ↔ 0 < a)) ∧ (w = 3 → (z = 1 ↔ a < 0)) ∧ (w = 4 → (z = 1 ↔ 0 ≤ h)) ∧ (w = 5 → (z = 1 ↔ 0 < h)) ∧ (w = 6 → (z = 1 ↔ (0 < h ∨ (h = 0 ∧ b.tmod 2 ≠ 0))))
theorem ne_tdB {a b B : Int} (hb : 1 ≤ b) (ha : -B ≤ a ∧ a ≤ B) : -B ≤ a.tdiv b ∧ a.tdiv b ≤ B ∧ -b < a.tmod b ∧ a.tmod b < b := by
  have h := ne_tdm a b hb
  omega
theorem ne_absm {a b r : Int} (hb : 1 ≤ b) (h : r = if 0 < a.tmod b then a.tmod b else -(a.tmod b)) : 0 ≤ r ∧ r < b := by
  have h1 := ne_tdm a b hb
  rw [h]
  split <;> omega
theorem ne_rdC0 {a b w r : Int} (hb : 1 ≤ b) (h : r = if 0 < a.tmod b then a.tmod b else -(a.tmod b)) (h0 : r = 0) : ne_rd a b w (a.tdiv b) := by
  refine ne_rdC1 hb ?_
  rw [h] at h0
  split at h0 <;> omega
theorem ne_rxC0 {a b r : Int} (hb : 1 ≤ b) (h : r = if 0 < a.tmod b then a.tmod b else -(a.tmod b)) (h0 : r ≠ 0) : ne_rx a b := by
  refine ne_rxC hb (fun h1 => h0 ?_)
  rw [h, h1]
  rfl
theorem ne_rdC3 {a b w t s hf z r : Int} (hb : 1 ≤ b) (hw : 0 ≤ w ∧ w ≤ 6) (h : r = if 0 < a.tmod b then a.tmod b else -(a.tmod b)) (h0 : r ≠ 0) (hs : (s < 0 ↔ a < 0) ∧ (0 < s ↔ 0 < a) ∧ -1 ≤ s ∧ s ≤ 1) (hh : (hf < 0 ↔ 2 * r - b < 0) ∧ (0 < hf ↔ 0 < 2 * r - b)) (ht : 0 ≤ t ∧ t ≤ 1) (hk : ne_tk a hf w (a.tdiv b) t) (hz : (t ≠ 0 ∧ z = a.tdiv b + s) ∨ (t = 0 ∧ z = a.tdiv b)) : ne_rd a b w z := by
  have hm0 : a.tmod b ≠ 0 := by
    intro h1
    apply h0
    rw [h, h1]
    rfl
  obtain ⟨m, h1, h2, h3, h4, h5, h6⟩ := ne_flr (a := a) hb
  have hr : (0 ≤ a → r = a.tmod b) ∧ (a < 0 → r = -(a.tmod b)) := by
    rw [← h2] at h ⊢
    constructor
    · intro h7
      have := h5 h7
      rw [h]; split <;> omega
    · intro h7
      have := h6 (by omega)
      rw [h]; split <;> omega
  unfold ne_tk at hk
  have ha0 : a ≠ 0 := by
    intro h7
    rw [h7, Int.zero_tmod] at hm0
    exact hm0 rfl
  obtain ⟨s1, s2, s3, s4⟩ := hs
  obtain ⟨g1, g2⟩ := hh
  have k1 : (0 < a → s = 1) ∧ (a < 0 → s = -1) := by clear hk hr h g1 g2 h5 h6 hz; constructor <;> intro h7 <;> omega
  have k2 : (hf < 0 ↔ 2 * r < b) ∧ (0 < hf ↔ b < 2 * r) := by clear hk hr h s1 s2 h5 h6 hz k1; constructor <;> constructor <;> intro h7 <;> omega
  have k3 : (t = 1 ∧ z = a.tdiv b + s) ∨ (t = 0 ∧ z = a.tdiv b) := by clear hk hr h g1 g2 h5 h6 k1 k2 s1 s2; omega
  exact ne_rdC2 hb hw hm0 hr k1 k2 ⟨ht, hk⟩ k3
theorem ne_rdC4 {a b w t hf r : Int} (hb : 1 ≤ b) (hw : 0 ≤ w ∧ w ≤ 6) (h : r = if 0 < a.tmod b then a.tmod b else -(a.tmod b)) (h0 : r ≠ 0) (hh : (hf < 0 ↔ 2 * r - b < 0) ∧ (0 < hf ↔ 0 < 2 * r - b)) (ht : 0 ≤ t ∧ t ≤ 1) (hk : ne_tk a hf w (a.tdiv b) t) (hz : t = 0) : ne_rd a b w (a.tdiv b) := by
  refine ne_rdC3 (s := if a < 0 then -1 else if 0 < a then 1 else 0) hb hw h h0 ?_ hh ht hk (Or.inr ⟨hz, rfl⟩)
  clear hk hh h h0
  split
  · omega
  · split <;> omega
theorem ne_rdM0 {a b w u : Int} (hb : 1 ≤ b) (h : u * b = a) : ne_rd a b w u := ⟨u, by omega, by omega, Or.inl ⟨by omega, rfl⟩⟩
theorem ne_rdW0 {a b w u far near : Int} (q7 : 0 < a - u * b) (q8 : a - u * b < b) (q3 : (0 < a ∧ far = u + 1 ∧ near = u) ∨ (a ≤ 0 ∧ far = u ∧ near = u + 1)) (hw : w = 0) : ne_rd a b w far := by
  exact ⟨u, by omega, by omega, Or.inr ⟨by omega, by omega, by omega, fun h => by omega, fun h => by omega, fun h => by omega, fun h => by omega, fun h => ⟨fun h => by omega, fun h => by omega, fun h => ⟨fun h => by omega, fun h => by omega, fun h => by omega⟩⟩⟩⟩
theorem ne_rdW1 {a b w u far near : Int} (q7 : 0 < a - u * b) (q8 : a - u * b < b) (q3 : (0 < a ∧ far = u + 1 ∧ near = u) ∨ (a ≤ 0 ∧ far = u ∧ near = u + 1)) (hw : w = 1) : ne_rd a b w near := by
  exact ⟨u, by omega, by omega, Or.inr ⟨by omega, by omega, by omega, fun h => by omega, fun h => by omega, fun h => by omega, fun h => by omega, fun h => ⟨fun h => by omega, fun h => by omega, fun h => ⟨fun h => by omega, fun h => by omega, fun h => by omega⟩⟩⟩⟩
theorem ne_rdW2 {a b w u far near : Int} (q7 : 0 < a - u * b) (q8 : a - u * b < b) (q3 : (0 < a ∧ far = u + 1 ∧ near = u) ∨ (a ≤ 0 ∧ far = u ∧ near = u + 1)) (hw : w = 2) : ne_rd a b w (u + 1) := by
  exact ⟨u, by omega, by omega, Or.inr ⟨by omega, by omega, by omega, fun h => by omega, fun h => by omega, fun h => by omega, fun h => by omega, fun h => ⟨fun h => by omega, fun h => by omega, fun h => ⟨fun h => by omega, fun h => by omega, fun h => by omega⟩⟩⟩⟩
theorem ne_rdW3 {a b w u far near : Int} (q7 : 0 < a - u * b) (q8 : a - u * b < b) (q3 : (0 < a ∧ far = u + 1 ∧ near = u) ∨ (a ≤ 0 ∧ far = u ∧ near = u + 1)) (hw : w = 3) : ne_rd a b w u := by
  exact ⟨u, by omega, by omega, Or.inr ⟨by omega, by omega, by omega, fun h => by omega, fun h => by omega, fun h => by omega, fun h => by omega, fun h => ⟨fun h => by omega, fun h => by omega, fun h => ⟨fun h => by omega, fun h => by omega, fun h => by omega⟩⟩⟩⟩
theorem ne_rdWl {a b w u far near : Int} (q7 : 0 < a - u * b) (q8 : a - u * b < b) (q3 : (0 < a ∧ far = u + 1 ∧ near = u) ∨ (a ≤ 0 ∧ far = u ∧ near = u + 1)) (hw : 4 ≤ w ∧ w ≤ 6) (hk : 2 * (a - u * b) < b) : ne_rd a b w u := by
  exact ⟨u, by omega, by omega, Or.inr ⟨by omega, by omega, by omega, fun h => by omega, fun h => by omega, fun h => by omega, fun h => by omega, fun h => ⟨fun h => by omega, fun h => by omega, fun h => ⟨fun h => by omega, fun h => by omega, fun h => by omega⟩⟩⟩⟩
theorem ne_rdWg {a b w u far near : Int} (q7 : 0 < a - u * b) (q8 : a - u * b < b) (q3 : (0 < a ∧ far = u + 1 ∧ near = u) ∨ (a ≤ 0 ∧ far = u ∧ near = u + 1)) (hw : 4 ≤ w ∧ w ≤ 6) (hk : b < 2 * (a - u * b)) : ne_rd a b w (u + 1) := by
  exact ⟨u, by omega, by omega, Or.inr ⟨by omega, by omega, by omega, fun h => by omega, fun h => by omega, fun h => by omega, fun h => by omega, fun h => ⟨fun h => by omega, fun h => by omega, fun h => ⟨fun h => by omega, fun h => by omega, fun h => by omega⟩⟩⟩⟩
theorem ne_rdWt {a b w u far near z : Int} (q7 : 0 < a - u * b) (q8 : a - u * b < b) (q3 : (0 < a ∧ far = u + 1 ∧ near = u) ∨ (a ≤ 0 ∧ far = u ∧ near = u + 1)) (hk : 2 * (a - u * b) = b) (hz : (w = 4 ∧ z = far) ∨ (w = 5 ∧ z = near) ∨ (w = 6 ∧ u.tmod 2 = 0 ∧ z = u) ∨ (w = 6 ∧ u.tmod 2 ≠ 0 ∧ z = u + 1)) : ne_rd a b w z := by
  have hev := ne_ev u
  rcases hz with ⟨h1, h2⟩ | ⟨h1, h2⟩ | ⟨h1, h3, h2⟩ | ⟨h1, h3, h2⟩
  all_goals
    refine ⟨u, by omega, by omega, Or.inr ⟨by omega, by omega, by omega, fun h => by omega, fun h => by omega, fun h => by omega, fun h => by omega, fun h => ⟨fun h => by omega, fun h => by omega, fun h => ⟨fun h => by omega, fun h => by omega, fun h => by omega⟩⟩⟩⟩
theorem ne_d10 (v : Int) (h : 0 ≤ v) : 10 * v.tdiv 10 ≤ v ∧ v < 10 * v.tdiv 10 + 10 ∧ 0 ≤ v.tdiv 10 := by
  rw [Int.tdiv_eq_ediv_of_nonneg h]
  omega
/-- d digits of s are counted, r is what is left -/
def ne_di (s r d : Int) : Prop := (d = 1 ∧ 10 * r ≤ s ∧ s < 10 * r + 10) ∨ (d = 2 ∧ 100 * r ≤ s ∧ s < 100 * r + 100 ∧ 10 ≤ s) ∨ (d = 3 ∧ 1000 * r ≤ s ∧ s < 1000 * r + 1000 ∧ 100 ≤ s) ∨ (d = 4 ∧ 10000 * r ≤ s ∧ s < 10000 * r + 10000 ∧ 1000 ≤ s) ∨ (d = 5 ∧ 100000 * r ≤ s ∧ s < 100000 * r + 100000 ∧ 10000 ≤ s) ∨ (d = 6 ∧ 1000000 * r ≤ s ∧ s < 1000000 * r + 1000000 ∧ 100000 ≤ s) ∨ (d = 7 ∧ 10000000 * r ≤ s ∧ s < 10000000 * r + 10000000 ∧ 1000000 ≤ s)
/-- how many digits a number of at most seven has -/
def ne_dn (a d : Int) : Prop := ∃ s : Int, ((0 ≤ a ∧ s = a) ∨ (a < 0 ∧ s = -a)) ∧ ((d = 1 ∧ 0 ≤ s ∧ s < 10) ∨ (d = 2 ∧ 10 ≤ s ∧ s < 100) ∨ (d = 3 ∧ 100 ≤ s ∧ s < 1000) ∨ (d = 4 ∧ 1000 ≤ s ∧ s < 10000) ∨ (d = 5 ∧ 10000 ≤ s ∧ s < 100000) ∨ (d = 6 ∧ 100000 ≤ s ∧ s < 1000000) ∨ (d = 7 ∧ 1000000 ≤ s ∧ s < 10000000))
theorem ne_di0 {s : Int} (h : 0 ≤ s) : ne_di s (s.tdiv 10) 1 := by
  have := ne_d10 s h
  exact Or.inl ⟨rfl, by omega, by omega⟩
theorem ne_diS {s r d : Int} (hs : s ≤ 9999999) (hr : 0 < r) (h : ne_di s r d) : ne_di s (r.tdiv 10) (d + 1) ∧ d ≤ 6 := by
  have h1 := ne_d10 r (by omega)
  unfold ne_di at h ⊢
  rcases h with h | h | h | h | h | h | h
  · exact ⟨Or.inr (Or.inl ⟨by omega, by omega, by omega, by omega⟩), by omega⟩
  · exact ⟨Or.inr (Or.inr (Or.inl ⟨by omega, by omega, by omega, by omega⟩)), by omega⟩
  · exact ⟨Or.inr (Or.inr (Or.inr (Or.inl ⟨by omega, by omega, by omega, by omega⟩))), by omega⟩
  · exact ⟨Or.inr (Or.inr (Or.inr (Or.inr (Or.inl ⟨by omega, by omega, by omega, by omega⟩)))), by omega⟩
  · exact ⟨Or.inr (Or.inr (Or.inr (Or.inr (Or.inr (Or.inl ⟨by omega, by omega, by omega, by omega⟩))))), by omega⟩
  · exact ⟨Or.inr (Or.inr (Or.inr (Or.inr (Or.inr (Or.inr ⟨by omega, by omega, by omega, by omega⟩))))), by omega⟩
  · exfalso; omega
theorem ne_diE {a s r d : Int} (hs : (0 ≤ a ∧ s = a) ∨ (a < 0 ∧ s = -a)) (hr : r = 0) (h : ne_di s r d) : ne_dn a d ∧ 1 ≤ d ∧ d ≤ 7 := by
  subst hr
  unfold ne_di at h
  refine ⟨⟨s, hs, ?_⟩, ?_⟩
  · rcases h with h | h | h | h | h | h | h
    · exact Or.inl ⟨by omega, by omega, by omega⟩
    · exact Or.inr (Or.inl ⟨by omega, by omega, by omega⟩)
    · exact Or.inr (Or.inr (Or.inl ⟨by omega, by omega, by omega⟩))
    · exact Or.inr (Or.inr (Or.inr (Or.inl ⟨by omega, by omega, by omega⟩)))
    · exact Or.inr (Or.inr (Or.inr (Or.inr (Or.inl ⟨by omega, by omega, by omega⟩))))
    · exact Or.inr (Or.inr (Or.inr (Or.inr (Or.inr (Or.inl ⟨by omega, by omega, by omega⟩)))))
    · exact Or.inr (Or.inr (Or.inr (Or.inr (Or.inr (Or.inr ⟨by omega, by omega, by omega⟩)))))
  · omega
theorem ne_dnU {a d e : Int} (h : ne_dn a d) (h' : ne_dn a e) : d = e := by
  obtain ⟨s, hs, h⟩ := h
  obtain ⟨s', hs', h'⟩ := h'
  obtain rfl : s = s' := by omega
  clear hs hs'
  rcases h with h | h | h | h | h | h | h <;> rcases h' with h' | h' | h' | h' | h' | h' | h' <;> omega
theorem ne_dn6 {a d : Int} (h : ne_dn a d) (ha : -999999 ≤ a ∧ a ≤ 999999) : 1 ≤ d ∧ d ≤ 6 := by
  obtain ⟨s, hs, h⟩ := h
  omega
theorem ne_abL {a s : Int} (h : s = if 0 < a then a else -a) : (0 ≤ a ∧ s = a) ∨ (a < 0 ∧ s = -a) := by
  split at h <;> omega
theorem ne_abM {a s : Int} (h : (a < 0 ∧ s = -a) ∨ (0 ≤ a ∧ s = a)) : (0 ≤ a ∧ s = a) ∨ (a < 0 ∧ s = -a) := by omega
set_option maxRecDepth 100000 in
set_option maxHeartbeats 4000000 in
theorem me_X1_isFartherTakenX (l : Launch) (hl : l.stackTraces = false) (ws : ne_W) (a b h w0 : Int) (ha : -9223372036854775808 ≤ a ∧ a < 9223372036854775808) (hb : -9223372036854775808 ≤ b ∧ b < 9223372036854775808) (hh : -2147483648 ≤ h ∧ h < 2147483648) (hw : -2147483648 ≤ w0 ∧ w0 < 2147483648) : ne_M l nw_cl (.code yX1_isFartherTaken cX1_isFartherTaken 6 (some .boolean)) nw_T yX1_isFartherTaken 0 0 0 0 [nl a, nl b, ni h, ni w0] ws (fun v w => w = ws ∧ ∃ z : Int, v = some (ni z) ∧ 0 ≤ z ∧ z ≤ 1 ∧ ne_tk a h w0 b z) (fun _ _ => False) := by
  refine ne_meet (own := RX1) hl rfl (by decide +kernel) (Nat.le_of_ble_eq_true rfl) ?_
  intro D ct A P9 V9 R9 S9 M9 as9 bl9 mt9 C9 ad0 X hr hin ht
  have t9 := tmod_bounds (a := b) (M := 2) (by decide)
  refine ne_iload X dX1_isFartherTaken_0 rfl ?_
  rcases (show w0 = 0 ∨ w0 = 1 ∨ w0 = 2 ∨ w0 = 3 ∨ w0 = 4 ∨ w0 = 5 ∨ (w0 < 0 ∨ 5 < w0) by omega) with rfl | rfl | rfl | rfl | rfl | rfl | h2
  · refine ne_tswIn (tgt := 40) X dX1_isFartherTaken_2 (by omega) (by omega) (by omega) rfl rfl ?_
    refine ne_iconst X dX1_isFartherTaken_40 ?_
    exact ne_iret X hr (by first | rfl | decide | rfl) dX1_isFartherTaken_41 ⟨rfl, _, rfl, by omega, by omega, ⟨fun _ => by omega, fun _ => by omega, fun _ => by omega, fun _ => by omega, fun _ => by omega, fun _ => by omega, fun _ => by omega⟩⟩
  · refine ne_tswIn (tgt := 42) X dX1_isFartherTaken_2 (by omega) (by omega) (by omega) rfl rfl ?_
    refine ne_iconst X dX1_isFartherTaken_42 ?_
    exact ne_iret X hr (by first | rfl | decide | rfl) dX1_isFartherTaken_43 ⟨rfl, _, rfl, by omega, by omega, ⟨fun _ => by omega, fun _ => by omega, fun _ => by omega, fun _ => by omega, fun _ => by omega, fun _ => by omega, fun _ => by omega⟩⟩
  · refine ne_tswIn (tgt := 44) X dX1_isFartherTaken_2 (by omega) (by omega) (by omega) rfl rfl ?_
    refine ne_lload_n X dX1_isFartherTaken_44 rfl ?_
    refine ne_lconst (z := 0) (by decide) X dX1_isFartherTaken_45 ?_
    refine ne_lcif_le (tgt := 54) X dX1_isFartherTaken_46 dX1_isFartherTaken_47 rfl (by omega) (by omega) (fun b47 => ?_) (fun b47 => ?_)
    · refine ne_iconst X dX1_isFartherTaken_54 ?_
      exact ne_iret X hr (by first | rfl | decide | rfl) dX1_isFartherTaken_55 ⟨rfl, _, rfl, by omega, by omega, ⟨fun _ => by omega, fun _ => by omega, fun _ => by omega, fun _ => by omega, fun _ => by omega, fun _ => by omega, fun _ => by omega⟩⟩
    · refine ne_iconst X dX1_isFartherTaken_50 ?_
      refine ne_goto (tgt := 55) X dX1_isFartherTaken_51 rfl ?_
      exact ne_iret X hr (by first | rfl | decide | rfl) dX1_isFartherTaken_55 ⟨rfl, _, rfl, by omega, by omega, ⟨fun _ => by omega, fun _ => by omega, fun _ => by omega, fun _ => by omega, fun _ => by omega, fun _ => by omega, fun _ => by omega⟩⟩
  · refine ne_tswIn (tgt := 56) X dX1_isFartherTaken_2 (by omega) (by omega) (by omega) rfl rfl ?_
    refine ne_lload_n X dX1_isFartherTaken_56 rfl ?_
    refine ne_lconst (z := 0) (by decide) X dX1_isFartherTaken_57 ?_
    refine ne_lcif_ge (tgt := 66) X dX1_isFartherTaken_58 dX1_isFartherTaken_59 rfl (by omega) (by omega) (fun b59 => ?_) (fun b59 => ?_)
    · refine ne_iconst X dX1_isFartherTaken_66 ?_
      exact ne_iret X hr (by first | rfl | decide | rfl) dX1_isFartherTaken_67 ⟨rfl, _, rfl, by omega, by omega, ⟨fun _ => by omega, fun _ => by omega, fun _ => by omega, fun _ => by omega, fun _ => by omega, fun _ => by omega, fun _ => by omega⟩⟩
    · refine ne_iconst X dX1_isFartherTaken_62 ?_
      refine ne_goto (tgt := 67) X dX1_isFartherTaken_63 rfl ?_
      exact ne_iret X hr (by first | rfl | decide | rfl) dX1_isFartherTaken_67 ⟨rfl, _, rfl, by omega, by omega, ⟨fun _ => by omega, fun _ => by omega, fun _ => by omega, fun _ => by omega, fun _ => by omega, fun _ => by omega, fun _ => by omega⟩⟩
  · refine ne_tswIn (tgt := 68) X dX1_isFartherTaken_2 (by omega) (by omega) (by omega) rfl rfl ?_
    refine ne_iload X dX1_isFartherTaken_68 rfl ?_
    refine ne_if_lt (tgt := 77) X dX1_isFartherTaken_70 rfl (by omega) (fun b70 => ?_) (fun b70 => ?_)
    · refine ne_iconst X dX1_isFartherTaken_77 ?_
      exact ne_iret X hr (by first | rfl | decide | rfl) dX1_isFartherTaken_78 ⟨rfl, _, rfl, by omega, by omega, ⟨fun _ => by omega, fun _ => by omega, fun _ => by omega, fun _ => by omega, fun _ => by omega, fun _ => by omega, fun _ => by omega⟩⟩
    · refine ne_iconst X dX1_isFartherTaken_73 ?_
      refine ne_goto (tgt := 78) X dX1_isFartherTaken_74 rfl ?_
      exact ne_iret X hr (by first | rfl | decide | rfl) dX1_isFartherTaken_78 ⟨rfl, _, rfl, by omega, by omega, ⟨fun _ => by omega, fun _ => by omega, fun _ => by omega, fun _ => by omega, fun _ => by omega, fun _ => by omega, fun _ => by omega⟩⟩
  · refine ne_tswIn (tgt := 79) X dX1_isFartherTaken_2 (by omega) (by omega) (by omega) rfl rfl ?_
    refine ne_iload X dX1_isFartherTaken_79 rfl ?_
    refine ne_if_le (tgt := 88) X dX1_isFartherTaken_81 rfl (by omega) (fun b81 => ?_) (fun b81 => ?_)
    · refine ne_iconst X dX1_isFartherTaken_88 ?_
      exact ne_iret X hr (by first | rfl | decide | rfl) dX1_isFartherTaken_89 ⟨rfl, _, rfl, by omega, by omega, ⟨fun _ => by omega, fun _ => by omega, fun _ => by omega, fun _ => by omega, fun _ => by omega, fun _ => by omega, fun _ => by omega⟩⟩
    · refine ne_iconst X dX1_isFartherTaken_84 ?_
      refine ne_goto (tgt := 89) X dX1_isFartherTaken_85 rfl ?_
      exact ne_iret X hr (by first | rfl | decide | rfl) dX1_isFartherTaken_89 ⟨rfl, _, rfl, by omega, by omega, ⟨fun _ => by omega, fun _ => by omega, fun _ => by omega, fun _ => by omega, fun _ => by omega, fun _ => by omega, fun _ => by omega⟩⟩
  · refine ne_tswOut (tgt := 90) X dX1_isFartherTaken_2 (by omega) h2 rfl ?_
    refine ne_iload X dX1_isFartherTaken_90 rfl ?_
    refine ne_if_gt (tgt := 110) X dX1_isFartherTaken_92 rfl (by omega) (fun b92 => ?_) (fun b92 => ?_)
    · refine ne_iconst X dX1_isFartherTaken_110 ?_
      refine ne_goto (tgt := 115) X dX1_isFartherTaken_111 rfl ?_
      exact ne_iret X hr (by first | rfl | decide | rfl) dX1_isFartherTaken_115 ⟨rfl, _, rfl, by omega, by omega, ⟨fun _ => by omega, fun _ => by omega, fun _ => by omega, fun _ => by omega, fun _ => by omega, fun _ => by omega, fun _ => by omega⟩⟩
    · refine ne_iload X dX1_isFartherTaken_95 rfl ?_
      refine ne_if_ne (tgt := 114) X dX1_isFartherTaken_97 rfl (by omega) (fun b97 => ?_) (fun b97 => ?_)
      · refine ne_iconst X dX1_isFartherTaken_114 ?_
        exact ne_iret X hr (by first | rfl | decide | rfl) dX1_isFartherTaken_115 ⟨rfl, _, rfl, by omega, by omega, ⟨fun _ => by omega, fun _ => by omega, fun _ => by omega, fun _ => by omega, fun _ => by omega, fun _ => by omega, fun _ => by omega⟩⟩
      · refine ne_lload_n X dX1_isFartherTaken_100 rfl ?_
        refine ne_ldc2 (z := 2) (by decide) nw_cX1_173 X dX1_isFartherTaken_101 ?_
        refine ne_lrem X dX1_isFartherTaken_104 (by omega) (by omega) (by omega) ?_
        refine ne_lconst (z := 0) (by decide) X dX1_isFartherTaken_105 ?_
        refine ne_lcif_eq (tgt := 114) X dX1_isFartherTaken_106 dX1_isFartherTaken_107 rfl (by omega) (by omega) (fun b107 => ?_) (fun b107 => ?_)
        · refine ne_iconst X dX1_isFartherTaken_114 ?_
          exact ne_iret X hr (by first | rfl | decide | rfl) dX1_isFartherTaken_115 ⟨rfl, _, rfl, by omega, by omega, ⟨fun _ => by omega, fun _ => by omega, fun _ => by omega, fun _ => by omega, fun _ => by omega, fun _ => by omega, fun _ => by omega⟩⟩
        · refine ne_iconst X dX1_isFartherTaken_110 ?_
          refine ne_goto (tgt := 115) X dX1_isFartherTaken_111 rfl ?_
          exact ne_iret X hr (by first | rfl | decide | rfl) dX1_isFartherTaken_115 ⟨rfl, _, rfl, by omega, by omega, ⟨fun _ => by omega, fun _ => by omega, fun _ => by omega, fun _ => by omega, fun _ => by omega, fun _ => by omega, fun _ => by omega⟩⟩
set_option maxRecDepth 100000 in
set_option maxHeartbeats 4000000 in
theorem me_X1_roundedX (l : Launch) (hl : l.stackTraces = false) (ws : ne_W) (B a b w0 : Int) (hB : 0 ≤ B ∧ B ≤ 1000000000000000000) (ha : -B ≤ a ∧ a ≤ B) (hb : 1 ≤ b ∧ b ≤ 1000000000000000) (hw : 0 ≤ w0 ∧ w0 ≤ 7) : ne_M l nw_cl (.code yX1_rounded cX1_rounded 9 (some .long)) nw_T yX1_rounded 2 80 0 0 [nl a, nl b, ni w0] ws (fun v w => w = ws ∧ ∃ z : Int, v = some (nl z) ∧ ((z = -9000000000000000000 ∧ w0 = 7 ∧ ne_rx a b) ∨ (ne_rd a b w0 z ∧ -B - 1 ≤ z ∧ z ≤ B + 1))) (fun _ _ => False) := by
  refine ne_meet (own := RX1) hl rfl (by decide +kernel) (Nat.le_of_ble_eq_true rfl) ?_
  intro D ct A P9 V9 R9 S9 M9 as9 bl9 mt9 C9 ad0 X hr hin ht
  refine ne_lload_n X dX1_rounded_0 rfl ?_
  refine ne_lconst (z := 1) (by decide) X dX1_rounded_1 ?_
  refine ne_lcif_ge (tgt := 10) X dX1_rounded_2 dX1_rounded_3 rfl (by omega) (by omega) (fun b3 => ?_) (fun b3 => ?_)
  · obtain ⟨t1, t2, t3, t4⟩ := ne_tdB (a := a) (b := b) (B := B) hb.1 ha
    refine ne_lload_n X dX1_rounded_10 rfl ?_
    refine ne_lload_n X dX1_rounded_11 rfl ?_
    refine ne_ldiv X dX1_rounded_12 (by omega) (by omega) (by omega) ?_
    refine ne_lstore X dX1_rounded_13 (by decide) ?_
    refine ne_lload_n X dX1_rounded_15 rfl ?_
    refine ne_lload_n X dX1_rounded_16 rfl ?_
    refine ne_lrem X dX1_rounded_17 (by omega) (by omega) (by omega) ?_
    refine ne_mabsl X dX1_rounded_18 nw_mX1_250 nw_Ms_absl nw_Mi nw_Mc_absl (by decide) (Nat.le_of_ble_eq_true rfl) (by omega) ?_
    refine ne_topL (fun a18 e18 => ?_)
    obtain ⟨p18, p19⟩ := ne_absm hb.1 e18
    refine ne_lstore X dX1_rounded_21 (by decide) ?_
    refine ne_ll (L' := [some (nl _), none, some (nl _), none, some (ni _), some (nl _), none, some (nl _), none]) rfl ?_
    refine ne_lload X dX1_rounded_23 rfl ?_
    refine ne_lconst (z := 0) (by decide) X dX1_rounded_25 ?_
    refine ne_lcif_ne (tgt := 33) X dX1_rounded_26 dX1_rounded_27 rfl (by omega) (by omega) (fun b27 => ?_) (fun b27 => ?_)
    · refine ne_iload X dX1_rounded_33 rfl ?_
      refine ne_bipush (v := 7) (by decide) X dX1_rounded_35 ?_
      refine ne_icmp_ne (tgt := 44) X dX1_rounded_37 rfl (by omega) (by omega) (fun b37 => ?_) (fun b37 => ?_)
      · refine ne_lload_n X dX1_rounded_44 rfl ?_
        refine ne_lload X dX1_rounded_45 rfl ?_
        refine ne_ldc2 (z := 2) (by decide) nw_cX1_173 X dX1_rounded_47 ?_
        refine ne_lload X dX1_rounded_50 rfl ?_
        refine ne_lmul X dX1_rounded_52 ?_
        refine ne_lload_n X dX1_rounded_53 rfl ?_
        refine ne_lsub X dX1_rounded_54 ?_
        refine ne_callS X nw_Tg (me_X1_signOf l hl _ _ (by omega)) nw_yX1_signOf nw_mX1_117 nw_sX1_signOf dX1_rounded_55 rfl rfl (by decide) (by decide) (by first | decide | omega) (by first | decide | omega) (Nat.le_refl _) rfl rfl (Nat.le_of_ble_eq_true rfl) ?_ ?_
        rotate_left
        · rintro E9 w9 h9; exact h9.elim
        rintro v55 w55 ⟨rfl, z55, rfl, g55, k55, i55, j55⟩
        refine ne_iload X dX1_rounded_58 rfl ?_
        refine ne_callS X nw_Tg (me_X1_isFartherTakenX l hl _ _ _ _ _ (by omega) (by omega) (by omega) (by omega)) nw_yX1_isFartherTaken nw_mX1_270 nw_sX1_isFartherTaken dX1_rounded_60 rfl rfl (by decide) (by decide) (by first | decide | omega) (by first | decide | omega) (Nat.le_refl _) rfl rfl (Nat.le_of_ble_eq_true rfl) ?_ ?_
        rotate_left
        · rintro E9 w9 h9; exact h9.elim
        rintro v60 w60 ⟨rfl, z60, rfl, g60, k60, j60⟩
        refine ne_if_eq (tgt := 77) X dX1_rounded_63 rfl (by omega) (fun b63 => ?_) (fun b63 => ?_)
        · refine ne_lload X dX1_rounded_77 rfl ?_
          exact ne_lret X hr dX1_rounded_79 (by first | exact ⟨rfl, _, rfl, Or.inr ⟨ne_rdC3 hb.1 (by omega) e18 (by omega) ⟨i69, j69, g69, k69⟩ ⟨i55, j55⟩ ⟨g60, k60⟩ j60 (Or.inl ⟨b63, rfl⟩), by omega, by omega⟩⟩ | exact ⟨rfl, _, rfl, Or.inr ⟨ne_rdC4 hb.1 (by omega) e18 (by omega) ⟨i55, j55⟩ ⟨g60, k60⟩ j60 b63, by omega, by omega⟩⟩)
        · refine ne_lload X dX1_rounded_66 rfl ?_
          refine ne_lload_n X dX1_rounded_68 rfl ?_
          refine ne_callS X nw_Tg (me_X1_signOf l hl _ _ (by omega)) nw_yX1_signOf nw_mX1_117 nw_sX1_signOf dX1_rounded_69 rfl rfl (by decide) (by decide) (by first | decide | omega) (by first | decide | omega) (Nat.le_refl _) rfl rfl (Nat.le_of_ble_eq_true rfl) ?_ ?_
          rotate_left
          · rintro E9 w9 h9; exact h9.elim
          rintro v69 w69 ⟨rfl, z69, rfl, g69, k69, i69, j69⟩
          refine ne_i2l (by omega) X dX1_rounded_72 ?_
          refine ne_ladd X dX1_rounded_73 ?_
          refine ne_goto (tgt := 79) X dX1_rounded_74 rfl ?_
          exact ne_lret X hr dX1_rounded_79 (by first | exact ⟨rfl, _, rfl, Or.inr ⟨ne_rdC3 hb.1 (by omega) e18 (by omega) ⟨i69, j69, g69, k69⟩ ⟨i55, j55⟩ ⟨g60, k60⟩ j60 (Or.inl ⟨b63, rfl⟩), by omega, by omega⟩⟩ | exact ⟨rfl, _, rfl, Or.inr ⟨ne_rdC4 hb.1 (by omega) e18 (by omega) ⟨i55, j55⟩ ⟨g60, k60⟩ j60 b63, by omega, by omega⟩⟩)
      · refine ne_ldc2 (z := -9000000000000000000) (by decide) nw_cX1_105 X dX1_rounded_40 ?_
        exact ne_lret X hr dX1_rounded_43 ⟨rfl, _, rfl, Or.inl ⟨rfl, by omega, ne_rxC0 hb.1 e18 (by omega)⟩⟩
    · refine ne_lload X dX1_rounded_30 rfl ?_
      exact ne_lret X hr dX1_rounded_32 ⟨rfl, _, rfl, Or.inr ⟨ne_rdC0 hb.1 e18 (by omega), by omega, by omega⟩⟩
  · refine ne_ldc2 (z := -9000000000000000000) (by decide) nw_cX1_105 X dX1_rounded_6 ?_
    exact ne_lret X hr dX1_rounded_9 (by exfalso; omega)
set_option maxRecDepth 100000 in
set_option maxHeartbeats 8000000 in
theorem me_X3_roundedX (l : Launch) (hl : l.stackTraces = false) (ws : ne_W) (B a b w0 : Int) (hB : 0 ≤ B ∧ B ≤ 1000000000000000000) (ha : -B ≤ a ∧ a ≤ B) (hb : 1 ≤ b ∧ b ≤ 1000000000000000) (hw : 0 ≤ w0 ∧ w0 ≤ 7) : ne_M l nw_cl (.code yX3_rounded cX3_rounded 12 (some .long)) nw_T yX3_rounded 1 40 0 0 [nl a, nl b, ni w0] ws (fun v w => w = ws ∧ ∃ z : Int, v = some (nl z) ∧ ((z = -9223372036854775808 ∧ w0 = 7 ∧ ne_rx a b) ∨ (ne_rd a b w0 z ∧ -B - 1 ≤ z ∧ z ≤ B + 1))) (fun _ _ => False) := by
  refine ne_meet (own := RX3) hl rfl (by decide +kernel) (Nat.le_of_ble_eq_true rfl) ?_
  intro D ct A P9 V9 R9 S9 M9 as9 bl9 mt9 C9 ad0 X hr hin ht
  have lp66 : ∀ (n9 : Nat) (u far near : Int), 0 < n9 → (-B - 1 ≤ u) → (u ≤ B) → ((0 < a ∧ far = u + 1 ∧ near = u) ∨ (a ≤ 0 ∧ far = u ∧ near = u + 1)) → (0 < a - u * b) → (a - u * b < b) → ne_G nw_cl D ct A ws.length ad0 P9 l V9 R9 S9 M9 as9 bl9 mt9 C9 (ne_O nw_cl D ct ad0 ws.length A bl9 as9 S9 0 0 (fun v w => w = ws ∧ ∃ z : Int, v = some (nl z) ∧ ((z = -9223372036854775808 ∧ w0 = 7 ∧ ne_rx a b) ∨ (ne_rd a b w0 z ∧ -B - 1 ≤ z ∧ z ≤ B + 1))) (fun _ _ => False)) 12 0 0 0 0 66 [some (nl a), none, some (nl b), none, some (ni w0), some (nl u), none, some (nl far), none, some (nl near), none, none] [] ws := by
    intro n9
    induction n9 with
    | zero => intro u far near hm9 q1 q2 q3 q7 q8; exfalso; omega
    | succ n9 ih =>
      intro u far near hm9 q1 q2 q3 q7 q8
      refine ne_iload X dX3_rounded_66 rfl ?_
      refine ne_bipush (v := 7) (by decide) X dX3_rounded_68 ?_
      refine ne_icmp_ne (tgt := 77) X dX3_rounded_70 rfl (by omega) (by omega) (fun b70 => ?_) (fun b70 => ?_)
      · have w77 : w0 ≤ 6 := by omega
        clear b70
        refine ne_iload X dX3_rounded_77 rfl ?_
        refine ne_if_ne (tgt := 85) X dX3_rounded_79 rfl (by omega) (fun b79 => ?_) (fun b79 => ?_)
        · have w85 : 1 ≤ w0 := by omega
          clear b79
          refine ne_iload X dX3_rounded_85 rfl ?_
          refine ne_iconst X dX3_rounded_87 ?_
          refine ne_icmp_ne (tgt := 94) X dX3_rounded_88 rfl (by omega) (by omega) (fun b88 => ?_) (fun b88 => ?_)
          · have w94 : 2 ≤ w0 := by omega
            clear b88 w85
            refine ne_iload X dX3_rounded_94 rfl ?_
            refine ne_iconst X dX3_rounded_96 ?_
            refine ne_icmp_ne (tgt := 105) X dX3_rounded_97 rfl (by omega) (by omega) (fun b97 => ?_) (fun b97 => ?_)
            · have w105 : 3 ≤ w0 := by omega
              clear b97 w94
              refine ne_iload X dX3_rounded_105 rfl ?_
              refine ne_iconst X dX3_rounded_107 ?_
              refine ne_icmp_ne (tgt := 114) X dX3_rounded_108 rfl (by omega) (by omega) (fun b108 => ?_) (fun b108 => ?_)
              · have w114 : 4 ≤ w0 := by omega
                clear b108 w105
                refine ne_ldc2 (z := 2) (by decide) nw_cX3_46 X dX3_rounded_114 ?_
                refine ne_lload_n X dX3_rounded_117 rfl ?_
                refine ne_lload X dX3_rounded_118 rfl ?_
                refine ne_lload_n X dX3_rounded_120 rfl ?_
                refine ne_lmul X dX3_rounded_121 ?_
                refine ne_lsub X dX3_rounded_122 ?_
                refine ne_lmul X dX3_rounded_123 ?_
                refine ne_lload_n X dX3_rounded_124 rfl ?_
                refine ne_callS X nw_Tg (me_X3_side l hl _ _ _ (by omega) (by omega)) nw_yX3_side nw_mX3_48 nw_sX3_side dX3_rounded_125 rfl rfl (by decide) (by decide) (by first | decide | omega) (by first | decide | omega) (Nat.le_refl _) rfl rfl (Nat.le_of_ble_eq_true rfl) ?_ ?_
                rotate_left
                · rintro E9 w9 h9; exact h9.elim
                rintro v125 w125 ⟨rfl, z125, rfl, g125, k125, i125, j125⟩
                refine ne_istore X dX3_rounded_128 (by decide) ?_
                refine ne_iload X dX3_rounded_130 rfl ?_
                refine ne_if_ge (tgt := 138) X dX3_rounded_132 rfl (by omega) (fun b132 => ?_) (fun b132 => ?_)
                · refine ne_iload X dX3_rounded_138 rfl ?_
                  refine ne_if_le (tgt := 148) X dX3_rounded_140 rfl (by omega) (fun b140 => ?_) (fun b140 => ?_)
                  · refine ne_iload X dX3_rounded_148 rfl ?_
                    refine ne_iconst X dX3_rounded_150 ?_
                    refine ne_icmp_ne (tgt := 159) X dX3_rounded_151 rfl (by omega) (by omega) (fun b151 => ?_) (fun b151 => ?_)
                    · have w159 : 5 ≤ w0 := by omega
                      clear b151 w114
                      refine ne_iload X dX3_rounded_159 rfl ?_
                      refine ne_iconst X dX3_rounded_161 ?_
                      refine ne_icmp_ne (tgt := 170) X dX3_rounded_162 rfl (by omega) (by omega) (fun b162 => ?_) (fun b162 => ?_)
                      · have w170 : 6 ≤ w0 := by omega
                        clear b162 w159
                        refine ne_lload X dX3_rounded_170 rfl ?_
                        refine ne_ldc2 (z := 2) (by decide) nw_cX3_46 X dX3_rounded_172 ?_
                        refine ne_lrem X dX3_rounded_175 (by omega) (by omega) (by omega) ?_
                        refine ne_lconst (z := 0) (by decide) X dX3_rounded_176 ?_
                        have t9 := tmod_bounds (a := u) (M := 2) (by decide)
                        refine ne_lcif_ne (tgt := 186) X dX3_rounded_177 dX3_rounded_178 rfl (by omega) (by omega) (fun b178 => ?_) (fun b178 => ?_)
                        · refine ne_lload X dX3_rounded_186 rfl ?_
                          refine ne_lconst (z := 1) (by decide) X dX3_rounded_188 ?_
                          refine ne_ladd X dX3_rounded_189 ?_
                          exact ne_lret X hr dX3_rounded_190 ⟨rfl, _, rfl, Or.inr ⟨ne_rdWt q7 q8 q3 (by omega) (by omega), by omega, by omega⟩⟩
                        · refine ne_lload X dX3_rounded_181 rfl ?_
                          refine ne_goto (tgt := 190) X dX3_rounded_183 rfl ?_
                          exact ne_lret X hr dX3_rounded_190 ⟨rfl, _, rfl, Or.inr ⟨ne_rdWt q7 q8 q3 (by omega) (by omega), by omega, by omega⟩⟩
                      · refine ne_lload X dX3_rounded_165 rfl ?_
                        refine ne_goto (tgt := 190) X dX3_rounded_167 rfl ?_
                        exact ne_lret X hr dX3_rounded_190 ⟨rfl, _, rfl, Or.inr ⟨ne_rdWt q7 q8 q3 (by omega) (by omega), by omega, by omega⟩⟩
                    · refine ne_lload X dX3_rounded_154 rfl ?_
                      refine ne_goto (tgt := 190) X dX3_rounded_156 rfl ?_
                      exact ne_lret X hr dX3_rounded_190 ⟨rfl, _, rfl, Or.inr ⟨ne_rdWt q7 q8 q3 (by omega) (by omega), by omega, by omega⟩⟩
                  · refine ne_lload X dX3_rounded_143 rfl ?_
                    refine ne_lconst (z := 1) (by decide) X dX3_rounded_145 ?_
                    refine ne_ladd X dX3_rounded_146 ?_
                    exact ne_lret X hr dX3_rounded_147 ⟨rfl, _, rfl, Or.inr ⟨ne_rdWg q7 q8 q3 (by omega) (j125.mp (by omega)), by omega, by omega⟩⟩
                · refine ne_lload X dX3_rounded_135 rfl ?_
                  exact ne_lret X hr dX3_rounded_137 ⟨rfl, _, rfl, Or.inr ⟨ne_rdWl q7 q8 q3 (by omega) (i125.mp (by omega)), by omega, by omega⟩⟩
              · refine ne_lload X dX3_rounded_111 rfl ?_
                exact ne_lret X hr dX3_rounded_113 ⟨rfl, _, rfl, Or.inr ⟨ne_rdW3 q7 q8 q3 (by omega), by omega, by omega⟩⟩
            · refine ne_lload X dX3_rounded_100 rfl ?_
              refine ne_lconst (z := 1) (by decide) X dX3_rounded_102 ?_
              refine ne_ladd X dX3_rounded_103 ?_
              exact ne_lret X hr dX3_rounded_104 ⟨rfl, _, rfl, Or.inr ⟨ne_rdW2 q7 q8 q3 (by omega), by omega, by omega⟩⟩
          · refine ne_lload X dX3_rounded_91 rfl ?_
            exact ne_lret X hr dX3_rounded_93 ⟨rfl, _, rfl, Or.inr ⟨ne_rdW1 q7 q8 q3 (by omega), by omega, by omega⟩⟩
        · refine ne_lload X dX3_rounded_82 rfl ?_
          exact ne_lret X hr dX3_rounded_84 ⟨rfl, _, rfl, Or.inr ⟨ne_rdW0 q7 q8 q3 (by omega), by omega, by omega⟩⟩
      · refine ne_ldc2 (z := -9223372036854775808) (by decide) nw_cX3_44 X dX3_rounded_73 ?_
        exact ne_lret X hr dX3_rounded_76 ⟨rfl, _, rfl, Or.inl ⟨rfl, by omega, ⟨u, by omega, by omega⟩⟩⟩
  have lp49 : ∀ (n9 : Nat) (u far : Int), 0 < n9 → (-B - 1 ≤ u) → (u ≤ B) → ((0 < a ∧ far = u + 1) ∨ (a ≤ 0 ∧ far = u)) → (0 < a - u * b) → (a - u * b < b) → ne_G nw_cl D ct A ws.length ad0 P9 l V9 R9 S9 M9 as9 bl9 mt9 C9 (ne_O nw_cl D ct ad0 ws.length A bl9 as9 S9 0 0 (fun v w => w = ws ∧ ∃ z : Int, v = some (nl z) ∧ ((z = -9223372036854775808 ∧ w0 = 7 ∧ ne_rx a b) ∨ (ne_rd a b w0 z ∧ -B - 1 ≤ z ∧ z ≤ B + 1))) (fun _ _ => False)) 12 0 0 0 0 49 [some (nl a), none, some (nl b), none, some (ni w0), some (nl u), none, some (nl far), none, none, none, none] [] ws := by
    intro n9
    induction n9 with
    | zero => intro u far hm9 q1 q2 q3 q7 q8; exfalso; omega
    | succ n9 ih =>
      intro u far hm9 q1 q2 q3 q7 q8
      refine ne_lload_n X dX3_rounded_49 rfl ?_
      refine ne_lconst (z := 0) (by decide) X dX3_rounded_50 ?_
      refine ne_lcif_le (tgt := 60) X dX3_rounded_51 dX3_rounded_52 rfl (by omega) (by omega) (fun b52 => ?_) (fun b52 => ?_)
      · refine ne_lload X dX3_rounded_60 rfl ?_
        refine ne_lconst (z := 1) (by decide) X dX3_rounded_62 ?_
        refine ne_ladd X dX3_rounded_63 ?_
        refine ne_lstore X dX3_rounded_64 (by decide) ?_
        exact lp66 1 _ _ _ (by omega) (by omega) (by omega) (by omega) (by omega) (by omega)
      · refine ne_lload X dX3_rounded_55 rfl ?_
        refine ne_goto (tgt := 64) X dX3_rounded_57 rfl ?_
        refine ne_lstore X dX3_rounded_64 (by decide) ?_
        exact lp66 1 _ _ _ (by omega) (by omega) (by omega) (by omega) (by omega) (by omega)
  have lp20 : ∀ (n9 : Nat) (u : Int), 0 < n9 → (-B - 1 ≤ u) → (u ≤ B) → (0 ≤ a - u * b) → (a - u * b < b) → ne_G nw_cl D ct A ws.length ad0 P9 l V9 R9 S9 M9 as9 bl9 mt9 C9 (ne_O nw_cl D ct ad0 ws.length A bl9 as9 S9 0 0 (fun v w => w = ws ∧ ∃ z : Int, v = some (nl z) ∧ ((z = -9223372036854775808 ∧ w0 = 7 ∧ ne_rx a b) ∨ (ne_rd a b w0 z ∧ -B - 1 ≤ z ∧ z ≤ B + 1))) (fun _ _ => False)) 12 0 0 0 0 20 [some (nl a), none, some (nl b), none, some (ni w0), some (nl u), none, none, none, none, none, none] [] ws := by
    intro n9
    induction n9 with
    | zero => intro u hm9 q1 q2 q7 q8; exfalso; omega
    | succ n9 ih =>
      intro u hm9 q1 q2 q7 q8
      refine ne_lload X dX3_rounded_20 rfl ?_
      refine ne_lload_n X dX3_rounded_22 rfl ?_
      refine ne_lmul X dX3_rounded_23 ?_
      refine ne_lload_n X dX3_rounded_24 rfl ?_
      refine ne_lcif_ne (tgt := 32) X dX3_rounded_25 dX3_rounded_26 rfl (by omega) (by omega) (fun b26 => ?_) (fun b26 => ?_)
      · refine ne_lload_n X dX3_rounded_32 rfl ?_
        refine ne_lconst (z := 0) (by decide) X dX3_rounded_33 ?_
        refine ne_lcif_le (tgt := 45) X dX3_rounded_34 dX3_rounded_35 rfl (by omega) (by omega) (fun b35 => ?_) (fun b35 => ?_)
        · refine ne_lload X dX3_rounded_45 rfl ?_
          refine ne_lstore X dX3_rounded_47 (by decide) ?_
          exact lp49 1 _ _ (by omega) (by omega) (by omega) (by omega) (by omega) (by omega)
        · refine ne_lload X dX3_rounded_38 rfl ?_
          refine ne_lconst (z := 1) (by decide) X dX3_rounded_40 ?_
          refine ne_ladd X dX3_rounded_41 ?_
          refine ne_goto (tgt := 47) X dX3_rounded_42 rfl ?_
          refine ne_lstore X dX3_rounded_47 (by decide) ?_
          exact lp49 1 _ _ (by omega) (by omega) (by omega) (by omega) (by omega) (by omega)
      · refine ne_lload X dX3_rounded_29 rfl ?_
        exact ne_lret X hr dX3_rounded_31 ⟨rfl, _, rfl, Or.inr ⟨ne_rdM0 hb.1 (by omega), by omega, by omega⟩⟩
  refine ne_lload_n X dX3_rounded_0 rfl ?_
  refine ne_lload_n X dX3_rounded_1 rfl ?_
  obtain ⟨t1, t2, t3, t4⟩ := ne_tdB (a := a) (b := b) (B := B) hb.1 ha
  have m2 : a.tdiv b * b = a - a.tmod b := by rw [Int.tmod_def, Int.mul_comm]; omega
  have m3 : (a.tdiv b - 1) * b = a.tdiv b * b - b := by rw [Int.sub_mul, Int.one_mul]
  refine ne_ldiv X dX3_rounded_2 (by omega) (by omega) (by omega) ?_
  refine ne_lstore X dX3_rounded_3 (by decide) ?_
  refine ne_lload X dX3_rounded_5 rfl ?_
  refine ne_lload_n X dX3_rounded_7 rfl ?_
  refine ne_lmul X dX3_rounded_8 ?_
  refine ne_lload_n X dX3_rounded_9 rfl ?_
  refine ne_lcif_le (tgt := 20) X dX3_rounded_10 dX3_rounded_11 rfl (by omega) (by omega) (fun b11 => ?_) (fun b11 => ?_)
  · exact lp20 1 _ (by omega) (by omega) (by omega) (by omega) (by omega)
  · refine ne_lload X dX3_rounded_14 rfl ?_
    refine ne_lconst (z := 1) (by decide) X dX3_rounded_16 ?_
    refine ne_lsub X dX3_rounded_17 ?_
    refine ne_lstore X dX3_rounded_18 (by decide) ?_
    refine ne_ll (L' := [some (nl _), none, some (nl _), none, some (ni _), some (nl _), none, none, none, none, none, none]) rfl ?_
    exact lp20 1 _ (by omega) (by omega) (by omega) (by omega) (by omega)
set_option maxRecDepth 100000 in
set_option maxHeartbeats 4000000 in
theorem me_X1_digitsInX (l : Launch) (hl : l.stackTraces = false) (ws : ne_W) (a : Int) (ha : -9999999 ≤ a ∧ a ≤ 9999999) : ne_M l nw_cl (.code yX1_digitsIn cX1_digitsIn 5 (some .int)) nw_T yX1_digitsIn 1 40 0 0 [nl a] ws (fun v w => w = ws ∧ ∃ z : Int, v = some (ni z) ∧ ne_dn a z ∧ 1 ≤ z ∧ z ≤ 7) (fun _ _ => False) := by
  refine ne_meet (own := RX1) hl rfl (by decide +kernel) (Nat.le_of_ble_eq_true rfl) ?_
  intro D ct A P9 V9 R9 S9 M9 as9 bl9 mt9 C9 ad0 X hr hin ht
  have lp11 : ∀ (n9 : Nat) (s d r : Int), (19 - d).toNat < n9 → (0 ≤ r) → (r ≤ 9999999) → (ne_di s r d) → (1 ≤ d ∧ d ≤ 7) → (s ≤ 9999999) → ((0 ≤ a ∧ s = a) ∨ (a < 0 ∧ s = -a)) → ne_G nw_cl D ct A ws.length ad0 P9 l V9 R9 S9 M9 as9 bl9 mt9 C9 (ne_O nw_cl D ct ad0 ws.length A bl9 as9 S9 0 0 (fun v w => w = ws ∧ ∃ z : Int, v = some (ni z) ∧ ne_dn a z ∧ 1 ≤ z ∧ z ≤ 7) (fun _ _ => False)) 5 0 0 0 0 11 [some (nl a), none, some (ni d), some (nl r), none] [] ws := by
    intro n9
    induction n9 with
    | zero => intro s d r hm9 q1 q2 q4 q5 q6 q7; exfalso; omega
    | succ n9 ih =>
      intro s d r hm9 q1 q2 q4 q5 q6 q7
      have q8 := ne_d10 r q1
      refine ne_lload_n X dX1_digitsIn_11 rfl ?_
      refine ne_lconst (z := 0) (by decide) X dX1_digitsIn_12 ?_
      refine ne_lcif_le (tgt := 35) X dX1_digitsIn_13 dX1_digitsIn_14 rfl (by omega) (by omega) (fun b14 => ?_) (fun b14 => ?_)
      · refine ne_iload_n X dX1_digitsIn_35 rfl ?_
        exact ne_iret X hr (by first | rfl | decide | rfl) dX1_digitsIn_36 ⟨rfl, _, rfl, ne_diE q7 (by omega) q4⟩
      · refine ne_iload_n X dX1_digitsIn_17 rfl ?_
        refine ne_bipush (v := 19) (by decide) X dX1_digitsIn_18 ?_
        refine ne_icmp_ge (tgt := 35) X dX1_digitsIn_20 rfl (by omega) (by omega) (fun b20 => ?_) (fun b20 => ?_)
        · refine ne_iload_n X dX1_digitsIn_35 rfl ?_
          exact ne_iret X hr (by first | rfl | decide | rfl) dX1_digitsIn_36 ⟨rfl, _, rfl, ne_diE q7 (by omega) q4⟩
        · refine ne_iinc X dX1_digitsIn_23 rfl (by decide) ?_
          refine ne_lload_n X dX1_digitsIn_26 rfl ?_
          refine ne_ldc2 (z := 10) (by decide) nw_cX1_92 X dX1_digitsIn_27 ?_
          refine ne_ldiv X dX1_digitsIn_30 (by omega) (by omega) (by omega) ?_
          refine ne_lstore_n X dX1_digitsIn_31 rfl (by decide) ?_
          refine ne_ll (L' := [some (nl _), none, some (ni _), some (nl _), none]) rfl ?_
          refine ne_goto (tgt := 11) X dX1_digitsIn_32 rfl ?_
          obtain ⟨q9, q10⟩ := ne_diS q6 (by omega) q4
          exact ih _ _ _ (by omega) (by omega) (by omega) q9 (by omega) (by omega) q7
  refine ne_iconst X dX1_digitsIn_0 ?_
  refine ne_istore_n X dX1_digitsIn_1 rfl (by decide) ?_
  refine ne_lload_n X dX1_digitsIn_2 rfl ?_
  refine ne_mabsl X dX1_digitsIn_3 nw_mX1_250 nw_Ms_absl nw_Mi nw_Mc_absl (by decide) (Nat.le_of_ble_eq_true rfl) (by omega) ?_
  refine ne_topL (fun a3 e3 => ?_)
  have p3 : 0 ≤ a3 ∧ a3 ≤ 9999999 := by rw [e3]; split <;> omega
  have t3 := ne_d10 a3 p3.1
  refine ne_ldc2 (z := 10) (by decide) nw_cX1_92 X dX1_digitsIn_6 ?_
  refine ne_ldiv X dX1_digitsIn_9 (by omega) (by omega) (by omega) ?_
  refine ne_lstore_n X dX1_digitsIn_10 rfl (by decide) ?_
  refine ne_ll (L' := [some (nl _), none, some (ni _), some (nl _), none]) rfl ?_
  exact lp11 _ a3 1 _ (Nat.lt_succ_self _) (by omega) (by omega) (ne_di0 (by omega)) (by omega) (by omega) (ne_abL e3)
set_option maxRecDepth 100000 in
set_option maxHeartbeats 4000000 in
theorem me_X3_digitsOfX (l : Launch) (hl : l.stackTraces = false) (ws : ne_W) (a : Int) (ha : -9999999 ≤ a ∧ a ≤ 9999999) : ne_M l nw_cl (.code yX3_digitsOf cX3_digitsOf 5 (some .int)) nw_T yX3_digitsOf 1 40 0 0 [nl a] ws (fun v w => w = ws ∧ ∃ z : Int, v = some (ni z) ∧ ne_dn a z ∧ 1 ≤ z ∧ z ≤ 7) (fun _ _ => False) := by
  refine ne_meet (own := RX3) hl rfl (by decide +kernel) (Nat.le_of_ble_eq_true rfl) ?_
  intro D ct A P9 V9 R9 S9 M9 as9 bl9 mt9 C9 ad0 X hr hin ht
  have lp11 : ∀ (n9 : Nat) (s d r : Int), (19 - d).toNat < n9 → (0 ≤ r) → (r ≤ 9999999) → (ne_di s r d) → (1 ≤ d ∧ d ≤ 7) → (s ≤ 9999999) → ((0 ≤ a ∧ s = a) ∨ (a < 0 ∧ s = -a)) → ne_G nw_cl D ct A ws.length ad0 P9 l V9 R9 S9 M9 as9 bl9 mt9 C9 (ne_O nw_cl D ct ad0 ws.length A bl9 as9 S9 0 0 (fun v w => w = ws ∧ ∃ z : Int, v = some (ni z) ∧ ne_dn a z ∧ 1 ≤ z ∧ z ≤ 7) (fun _ _ => False)) 5 0 0 0 0 11 [some (nl a), none, some (ni d), some (nl r), none] [] ws := by
    intro n9
    induction n9 with
    | zero => intro s d r hm9 q1 q2 q4 q5 q6 q7; exfalso; omega
    | succ n9 ih =>
      intro s d r hm9 q1 q2 q4 q5 q6 q7
      have q8 := ne_d10 r q1
      refine ne_lload_n X dX3_digitsOf_11 rfl ?_
      refine ne_lconst (z := 0) (by decide) X dX3_digitsOf_12 ?_
      refine ne_lcif_le (tgt := 29) X dX3_digitsOf_13 dX3_digitsOf_14 rfl (by omega) (by omega) (fun b14 => ?_) (fun b14 => ?_)
      · refine ne_iload_n X dX3_digitsOf_29 rfl ?_
        exact ne_iret X hr (by first | rfl | decide | rfl) dX3_digitsOf_30 ⟨rfl, _, rfl, ne_diE q7 (by omega) q4⟩
      · refine ne_iinc X dX3_digitsOf_17 rfl (by decide) ?_
        refine ne_lload_n X dX3_digitsOf_20 rfl ?_
        refine ne_ldc2 (z := 10) (by decide) nw_cX3_38 X dX3_digitsOf_21 ?_
        refine ne_ldiv X dX3_digitsOf_24 (by omega) (by omega) (by omega) ?_
        refine ne_lstore_n X dX3_digitsOf_25 rfl (by decide) ?_
        refine ne_ll (L' := [some (nl _), none, some (ni _), some (nl _), none]) rfl ?_
        refine ne_goto (tgt := 11) X dX3_digitsOf_26 rfl ?_
        obtain ⟨q9, q10⟩ := ne_diS q6 (by omega) q4
        exact ih _ _ _ (by omega) (by omega) (by omega) q9 (by omega) (by omega) q7
  refine ne_iconst X dX3_digitsOf_0 ?_
  refine ne_istore_n X dX3_digitsOf_1 rfl (by decide) ?_
  refine ne_lload_n X dX3_digitsOf_2 rfl ?_
  refine ne_callS X nw_Tg (me_X3_sizeOf l hl _ _ (by omega)) nw_yX3_sizeOf nw_mX3_40 nw_sX3_sizeOf dX3_digitsOf_3 rfl rfl (by decide) (by decide) (by first | decide | omega) (by first | decide | omega) (Nat.le_refl _) rfl rfl (Nat.le_of_ble_eq_true rfl) ?_ ?_
  rotate_left
  · rintro E9 w9 h9; exact h9.elim
  rintro v3 w3 ⟨rfl, z3, rfl, g3⟩
  have p3 : 0 ≤ z3 ∧ z3 ≤ 9999999 := by omega
  have t3 := ne_d10 z3 p3.1
  refine ne_ldc2 (z := 10) (by decide) nw_cX3_38 X dX3_digitsOf_6 ?_
  refine ne_ldiv X dX3_digitsOf_9 (by omega) (by omega) (by omega) ?_
  refine ne_lstore_n X dX3_digitsOf_10 rfl (by decide) ?_
  refine ne_ll (L' := [some (nl _), none, some (ni _), some (nl _), none]) rfl ?_
  exact lp11 _ z3 1 _ (Nat.lt_succ_self _) (by omega) (by omega) (ne_di0 (by omega)) (by omega) (by omega) (ne_abM g3)
