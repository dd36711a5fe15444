theorem lw_R {own tx : String} {k : Nat} {args : Array Value} {s : State} (h1 : (Cond.stringRef own k tx).before args s = true) (h2 : (Cond.exactly (.string own k) "java/lang/String").before args s = true) : ∃ a, vk_R own k tx a s := by
  obtain ⟨a, _, _, _, q1, -⟩ := Cond.exactly_spec h2
  exact ⟨a, vk_R.of h1 q1⟩
theorem nw_hts {args : Array Value} {s : State} (hts : ∀ w ∈ lw_tbl, w.before args s = true) : ∀ w ∈ nw_T, w.before args s = true := by
  intro w hw
  rcases List.mem_append.mp hw with h | h
  · rcases List.mem_cons.mp h with rfl | h
    · exact ne_selp (z := yJ5_isLatin1_aae02) ⟨by decide +kernel, by decide +kernel⟩ (hts _ (List.mem_of_getElem? (i := 668) (by decide +kernel))) rfl (hts _ (List.mem_of_getElem? (i := 633) (by decide +kernel))) (hts _ (List.mem_of_getElem? (i := 634) (by decide +kernel)))
    · rcases List.mem_cons.mp h with rfl | h
      · exact ne_selp (z := yJ5_isLatin1_aae02) ⟨by decide +kernel, by decide +kernel⟩ (hts _ (List.mem_of_getElem? (i := 668) (by decide +kernel))) rfl (hts _ (List.mem_of_getElem? (i := 637) (by decide +kernel))) (hts _ (List.mem_of_getElem? (i := 638) (by decide +kernel)))
      · exact absurd h List.not_mem_nil
  · exact hts w (List.mem_filter.mp h).1
set_option maxRecDepth 100000 in
set_option maxHeartbeats 4000000 in
theorem lw_known {args : Array Value} {s : State} (hts : ∀ w ∈ lw_tbl, w.before args s = true) : ∃ (D : va_G) (ct : Nat → ClassId), va_K D nw_cl (ne_ty ct) s := by
  have hT := nw_hts hts
  obtain ⟨c0, i0, k0⟩ := u_known (C := RJ0) (T := TJ0) (N := 4) (n := 4) hT nw_uJ0 (hts _ (List.mem_of_getElem? (i := 763) (by decide +kernel)))
  obtain ⟨c1, i1, k1⟩ := u_known (C := RJ4) (T := TJ4) (N := 4) (n := 4) hT nw_uJ4 (hts _ (List.mem_of_getElem? (i := 595) (by decide +kernel)))
  obtain ⟨c2, i2, k2⟩ := u_known (C := RX0) (T := TX0) (N := 1) (n := 1) hT nw_uX0 (hts _ (List.mem_of_getElem? (i := 87) (by decide +kernel)))
  obtain ⟨c3, i3, k3⟩ := u_known (C := RX1) (T := TX1) (N := 9) (n := 9) hT nw_uX1 (hts _ (List.mem_of_getElem? (i := 79) (by decide +kernel)))
  obtain ⟨c4, i4, k4⟩ := u_known (C := RX2) (T := TX2) (N := 2) (n := 2) hT nw_uX2 (hts _ (List.mem_of_getElem? (i := 285) (by decide +kernel)))
  obtain ⟨c5, i5, k5⟩ := u_known (C := RX3) (T := TX3) (N := 7) (n := 7) hT nw_uX3 (hts _ (List.mem_of_getElem? (i := 1064) (by decide +kernel)))
  obtain ⟨cI, kI, compI, hI1, hI2, hI3⟩ := Cond.arrayClass_spec (hT _ nw_Aint)
  obtain ⟨cB, kB, compB, hB1, hB2, hB3⟩ := Cond.arrayClass_spec (hT _ nw_Abyte)
  refine ⟨(fun k => match k with | 0 => c0 | 1 => c1 | 2 => c2 | 3 => c3 | 4 => c4 | _ => c5, fun k => match k with | 0 => i0 | 1 => i1 | 2 => i2 | 3 => i3 | 4 => i4 | _ => i5), fun k => match k with | 0 => cI | _ => cB, fun k q hq => ?_, fun k q hq => ?_⟩
  · match k, hq with
    | 0, hq => cases hq; exact k0
    | 1, hq => cases hq; exact k1
    | 2, hq => cases hq; exact k2
    | 3, hq => cases hq; exact k3
    | 4, hq => cases hq; exact k4
    | 5, hq => cases hq; exact k5
    | k + 6, hq => exact absurd hq (by simp [nw_cl])
  · match k, hq with
    | 0, hq => cases hq; exact ⟨fun n z => ⟨fun k h => (by cases h), kI, hI2, compI, hI3⟩, hI1⟩
    | 1, hq => cases hq; exact ⟨fun n z => ⟨fun k h => (by cases h), kB, hB2, compB, hB3⟩, hB1⟩
    | k + 2, hq => exact absurd hq (by simp [ne_ty])
set_option maxRecDepth 100000 in
set_option maxHeartbeats 4000000 in
theorem lw_NZ {s : State} {b : Nat} (hts : ∀ w ∈ lw_tbl, w.before #[Value.ref b] s = true) (hgv : (Jvm.Cond.and given_1 narrow_1).before #[Value.ref b] s = true) : ne_Z (fun q : Nat => s.heap.size ≤ q) s s.heap := by
  have hs := flat_of_before _ hgv
  have hA : ∀ a : Nat, a < s.heap.size → ¬ (fun q : Nat => s.heap.size ≤ q) a := fun a h => Nat.not_le.mpr h
  exact ⟨vx_Zqof (hts _ (List.mem_of_getElem? (i := 336) (by decide +kernel))) (hts _ (List.mem_of_getElem? (i := 61) (by decide +kernel))) (hs _ (by decide +kernel)) hA, vx_Zqof (hts _ (List.mem_of_getElem? (i := 338) (by decide +kernel))) (hts _ (List.mem_of_getElem? (i := 61) (by decide +kernel))) (hs _ (by decide +kernel)) hA, va_Zof (hts _ (List.mem_of_getElem? (i := 604) (by decide +kernel))) (hts _ (List.mem_of_getElem? (i := 69) (by decide +kernel))) (va_eqi (hs _ (by decide +kernel))) hA, (List.forall_mem_cons.mpr ⟨(lw_R (hts _ (List.mem_of_getElem? (i := 996) (by decide +kernel))) (hs _ (by decide +kernel))), (List.forall_mem_cons.mpr ⟨(lw_R (hts _ (List.mem_of_getElem? (i := 349) (by decide +kernel))) (hs _ (by decide +kernel))), (List.forall_mem_cons.mpr ⟨(lw_R (hts _ (List.mem_of_getElem? (i := 555) (by decide +kernel))) (hs _ (by decide +kernel))), (List.forall_mem_cons.mpr ⟨(lw_R (hts _ (List.mem_of_getElem? (i := 388) (by decide +kernel))) (hs _ (by decide +kernel))), (List.forall_mem_cons.mpr ⟨(lw_R (hts _ (List.mem_of_getElem? (i := 914) (by decide +kernel))) (hs _ (by decide +kernel))), (List.forall_mem_cons.mpr ⟨(lw_R (hts _ (List.mem_of_getElem? (i := 1264) (by decide +kernel))) (hs _ (by decide +kernel))), (List.forall_mem_cons.mpr ⟨(lw_R (hts _ (List.mem_of_getElem? (i := 1355) (by decide +kernel))) (hs _ (by decide +kernel))), (fun _ h => absurd h List.not_mem_nil)⟩)⟩)⟩)⟩)⟩)⟩)⟩), (List.forall_mem_cons.mpr ⟨(va_Nw.of rfl (hts _ (List.mem_of_getElem? (i := 88) (by decide +kernel)))), (List.forall_mem_cons.mpr ⟨(va_Nw.of rfl (hts _ (List.mem_of_getElem? (i := 182) (by decide +kernel)))), (List.forall_mem_cons.mpr ⟨(va_Nw.of rfl (hts _ (List.mem_of_getElem? (i := 189) (by decide +kernel)))), (List.forall_mem_cons.mpr ⟨(va_Nw.of rfl (hts _ (List.mem_of_getElem? (i := 193) (by decide +kernel)))), (List.forall_mem_cons.mpr ⟨(va_Nw.of rfl (hts _ (List.mem_of_getElem? (i := 197) (by decide +kernel)))), (List.forall_mem_cons.mpr ⟨(va_Nw.of rfl (hts _ (List.mem_of_getElem? (i := 204) (by decide +kernel)))), (List.forall_mem_cons.mpr ⟨(va_Nw.of rfl (hts _ (List.mem_of_getElem? (i := 286) (by decide +kernel)))), (List.forall_mem_cons.mpr ⟨(va_Nw.of rfl (hts _ (List.mem_of_getElem? (i := 1011) (by decide +kernel)))), (List.forall_mem_cons.mpr ⟨(va_Nw.of rfl (hts _ (List.mem_of_getElem? (i := 1017) (by decide +kernel)))), (fun _ h => absurd h List.not_mem_nil)⟩)⟩)⟩)⟩)⟩)⟩)⟩)⟩)⟩), (List.forall_mem_cons.mpr ⟨(va_Nw.of rfl (hts _ (List.mem_of_getElem? (i := 290) (by decide +kernel)))), (List.forall_mem_cons.mpr ⟨(va_Nw.of rfl (hts _ (List.mem_of_getElem? (i := 291) (by decide +kernel)))), (fun _ h => absurd h List.not_mem_nil)⟩)⟩), (List.forall_mem_cons.mpr ⟨(va_Nw.of rfl (hts _ (List.mem_of_getElem? (i := 311) (by decide +kernel)))), (List.forall_mem_cons.mpr ⟨(va_Nw.of rfl (hts _ (List.mem_of_getElem? (i := 381) (by decide +kernel)))), (List.forall_mem_cons.mpr ⟨(va_Nw.of rfl (hts _ (List.mem_of_getElem? (i := 657) (by decide +kernel)))), (fun _ h => absurd h List.not_mem_nil)⟩)⟩)⟩), (List.forall_mem_cons.mpr ⟨(va_Nc.of (hs (Cond.not (.castable "java/lang/IllegalArgumentException" "java/lang/IndexOutOfBoundsException")) (by decide +kernel))), (List.forall_mem_cons.mpr ⟨(va_Nc.of (hs (Cond.not (.castable "java/lang/IndexOutOfBoundsException" "java/lang/IllegalArgumentException")) (by decide +kernel))), (fun _ h => absurd h List.not_mem_nil)⟩)⟩), (List.forall_mem_cons.mpr ⟨(va_Nw.of rfl (hts _ (List.mem_of_getElem? (i := 313) (by decide +kernel)))), (List.forall_mem_cons.mpr ⟨(va_Nw.of rfl (hts _ (List.mem_of_getElem? (i := 315) (by decide +kernel)))), (List.forall_mem_cons.mpr ⟨(va_Nw.of rfl (hts _ (List.mem_of_getElem? (i := 317) (by decide +kernel)))), (fun _ h => absurd h List.not_mem_nil)⟩)⟩)⟩)⟩
