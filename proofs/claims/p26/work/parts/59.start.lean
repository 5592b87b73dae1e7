/-! what the machine's tables give at the law's entry -/
theorem z_arr1 {s : State} {args : Array Value} {ty : FieldType} (h : (Cond.arrayClass ty).before args s = true) : ∃ cA, ArrOfT s cA ty ∧ s.vm.findClass ("[" ++ ty.toString) = some cA := by
  obtain ⟨cA, kA, comp, h1, h2, h3⟩ := Cond.arrayClass_spec h
  refine ⟨cA, fun n z => ⟨fun k h => (by cases h), kA, h2, comp, h3⟩, h1⟩
theorem z_arr2 {s : State} {args : Array Value} {C : String} (h : (Cond.arrayOver (.object C)).before args s = true) : ∃ cA, ArrOfT s cA (.object C) ∧ va_RA s cA (.object C) := by
  obtain ⟨comp, cA, kA, h1, h2, h3, h4, h5⟩ := Cond.arrayOver_spec h
  exact ⟨cA, fun n z => ⟨fun k h => (by cases h), kA, h3, comp, h4⟩, kA, comp, h3, h4, h1, h5⟩
theorem z_nestT : ∀ q ∈ z_nestN, Cond.methodLinkNest q.1 q.2.1 q.2.2.1 q.2.2.2 ∈ lw_tbl := by decide +kernel
theorem z_castT : ∀ q ∈ z_castN, Cond.castable q q ∈ lw_tbl := by decide +kernel
theorem z_strsT : ∀ q ∈ z_strs, Cond.stringRef q.1 q.2.1 q.2.2 ∈ lw_tbl ∧ q.1 = RX5 := by decide +kernel
theorem z_overT : ∀ C ∈ z_over, Cond.arrayOver (.object C) ∈ lw_tbl := by decide +kernel
theorem z_declT : ∀ y ∈ z_declN, Cond.declares y ∈ lw_tbl := by decide +kernel
theorem z_F0 {p : Program} {s : State} {m : MethodId} {meth : Method} {c : Code} {b L : Nat} {xs : Nat → Int32} (l : Launch) (hflags : l.flags = flags0) (C0 : lw_At p s m meth c b L xs) : ∃ G : z_G, G.2.2 = (s.heap.size, l, b, L, xs) ∧ z_F G s := by
  obtain ⟨hx, hb, hr, hml, hown, hts, hX, hbl, hlocks, hgv, -, -⟩ := C0
  have hts2 : ∀ w ∈ z_T, w.before #[Value.ref b] s = true := fun w hw => hts w (List.mem_filter.mp hw).1
  have hs := flat_of_before _ hgv
  obtain ⟨c0, i0, k0⟩ := u_known (C := RX0) (T := TX0) (N := 1) (n := 1) hts2 inX0 (hts (.instantiable RX0 1) (List.mem_of_getElem? (i := 41) (by decide +kernel)))
  obtain ⟨c1, i1, k1⟩ := u_known (C := RX1) (T := TX1) (N := 6) (n := 6) hts2 inX1 (hts (.instantiable RX1 6) (List.mem_of_getElem? (i := 279) (by decide +kernel)))
  obtain ⟨c2, i2, k2⟩ := u_known (C := RX2) (T := TX2) (N := 4) (n := 4) hts2 inX2 (hts (.instantiable RX2 4) (List.mem_of_getElem? (i := 47) (by decide +kernel)))
  obtain ⟨c3, i3, k3⟩ := u_known (C := RX3) (T := TX3) (N := 8) (n := 8) hts2 inX3 (hts (.instantiable RX3 8) (List.mem_of_getElem? (i := 197) (by decide +kernel)))
  obtain ⟨c4, i4, k4⟩ := u_known (C := RX4) (T := TX4) (N := 3) (n := 3) hts2 inX4 (hts (.instantiable RX4 3) (List.mem_of_getElem? (i := 604) (by decide +kernel)))
  obtain ⟨c5, i5, k5⟩ := u_known (C := RX5) (T := TX5) (N := 8) (n := 8) hts2 inX5 (hts (.instantiable RX5 8) (List.mem_of_getElem? (i := 27) (by decide +kernel)))
  obtain ⟨dC, dI, hKc⟩ : ∃ (dC : Nat → ClassId) (dI : Nat → Nat → Nat), ∀ (k : Nat) (q : vw_C), vwCl[k]? = some q → u_Kn s q.1 q.2.1 q.2.2 (dC k) (dI k) := by
    refine ⟨fun k => match k with | 0 => c0 | 1 => c1 | 2 => c2 | 3 => c3 | 4 => c4 | _ => c5, fun k => match k with | 0 => i0 | 1 => i1 | 2 => i2 | 3 => i3 | 4 => i4 | _ => i5, ?_⟩
    intro k q hq
    match k, hq with
    | 0, hq => cases hq; exact k0
    | 1, hq => cases hq; exact k1
    | 2, hq => cases hq; exact k2
    | 3, hq => cases hq; exact k3
    | 4, hq => cases hq; exact k4
    | 5, hq => cases hq; exact k5
    | k + 6, hq => simp [vwCl] at hq
  obtain ⟨a0, p0, r0⟩ := z_arr1 (hts2 _ ac_int)
  obtain ⟨a1, p1, r1⟩ := z_arr1 (hts2 _ ac_boolean)
  obtain ⟨a4, p4, r4⟩ := z_arr2 (hts _ (z_overT RX3 (by decide +kernel)))
  obtain ⟨a5, p5, r5⟩ := z_arr2 (hts _ (z_overT RX1 (by decide +kernel)))
  obtain ⟨a6, p6, r6⟩ := z_arr2 (hts _ (z_overT RX4 (by decide +kernel)))
  obtain ⟨a7, p7, r7⟩ := z_arr2 (hts _ (z_overT RX2 (by decide +kernel)))
  have hcur : ∃ cur, s.vm.findClass RX5 = some cur := ⟨_, (hKc 5 (RX5, TX5, 8) rfl).2.1⟩
  obtain ⟨cur, hcur⟩ := hcur
  refine ⟨((dC, dI), fun k => match k with | 0 => a0 | 1 => a1 | 2 => a0 | 3 => a0 | 4 => a4 | 5 => a5 | 6 => a6 | _ => a7, s.heap.size, l, b, L, xs), rfl, ⟨hKc, fun k q hq => ?_⟩, fun q hq => va_Nw.of rfl (hts _ (z_nestT q hq)), fun q hq => va_Nw.of rfl (hts _ (z_castT q hq)), fun q hq => ?_, fun C hC => va_AO.of (hts _ (z_overT C hC)), vx_Zqof (hts _ (List.mem_of_getElem? (i := 156) (by decide +kernel))) (hts _ (List.mem_of_getElem? (i := 16) (by decide +kernel))) (hs _ (by decide +kernel)) (fun a h1 h2 => Nat.not_le.mpr h1 h2), vx_Zqof (hts _ (List.mem_of_getElem? (i := 158) (by decide +kernel))) (hts _ (List.mem_of_getElem? (i := 16) (by decide +kernel))) (hs _ (by decide +kernel)) (fun a h1 h2 => Nat.not_le.mpr h1 h2), Nat.le_refl _, ?_, fun y hy => va_Nw.of rfl (hts _ (z_declT y hy)), fun q hq => ?_, hX, hbl⟩
  · match k, hq with
    | 0, hq => cases hq; exact ⟨p0, r0⟩
    | 1, hq => cases hq; exact ⟨p1, r1⟩
    | 2, hq => cases hq; exact ⟨p0, r0⟩
    | 3, hq => cases hq; exact ⟨p0, r0⟩
    | 4, hq => cases hq; exact ⟨p4, r4⟩
    | 5, hq => cases hq; exact ⟨p5, r5⟩
    | 6, hq => cases hq; exact ⟨p6, r6⟩
    | 7, hq => cases hq; exact ⟨p7, r7⟩
    | k + 8, hq => simp [z_tys] at hq
  · obtain ⟨h1, h2⟩ := z_strsT q hq
    have h3 := hts _ h1
    obtain ⟨-, -, -, a, -, -, -, -, -, h4⟩ := Cond.stringRef_spec (by rw [h2]; exact hcur) h3
    exact ⟨a, vk_R.of h3 h4⟩
  · show l.stackTraces = false
    unfold Launch.stackTraces
    rw [hflags]
    decide +kernel
  · have hh : ∀ q ∈ z_ncast, (Cond.not (.castable q.1 q.2)).before #[Value.ref b] s = true := by
      intro q hq
      have h6 : q = z_ncast[0] ∨ q = z_ncast[1] ∨ q = z_ncast[2] ∨ q = z_ncast[3] ∨ q = z_ncast[4] ∨ q = z_ncast[5] := by simpa [z_ncast] using hq
      rcases h6 with rfl | rfl | rfl | rfl | rfl | rfl <;> exact hs _ (by decide +kernel)
    exact va_Nc.of (hh q hq)

