theorem arr_of {s : State} {args : Array Value} {ty : FieldType} (h : (Cond.arrayClass ty).before args s = true) : ∃ cA, ArrOfT s cA ty ∧ s.vm.findClass ("[" ++ ty.toString) = some cA := by
  obtain ⟨c, k, comp, h1, h2, h3⟩ := Cond.arrayClass_spec h
  exact ⟨c, fun n z => ⟨fun k h => (by cases h), k, h2, comp, h3⟩, h1⟩
theorem arro_of {s : State} {args : Array Value} {C : String} (h : (Cond.arrayOver (.object C)).before args s = true) : ∃ cA, ArrOfT s cA (.object C) ∧ va_RA s cA (.object C) := by
  obtain ⟨comp, c, k, h1, h2, h3, h4, h5⟩ := Cond.arrayOver_spec h
  exact ⟨c, fun n z => ⟨fun k h => (by cases h), k, h3, comp, h4⟩, k, comp, h3, h4, h1, h5⟩
theorem st_nst : ∀ q ∈ nstL, Cond.methodLinkNest q.1 q.2.1 q.2.2 RX7 ∈ lw_tbl := by decide +kernel
theorem st_ao : ∀ C ∈ aoL, Cond.arrayOver (.object C) ∈ lw_tbl := by decide +kernel
theorem st_dcl : ∀ y ∈ xDcl, Cond.declares y ∈ lw_tbl := by decide +kernel
theorem st_cst : ∀ y ∈ xCst, Cond.castable y y ∈ lw_tbl := by decide +kernel
theorem st_str : ∀ q ∈ xStr, Cond.stringRef RX7 q.1 q.2 ∈ lw_tbl := by decide +kernel
theorem st_exa : ∀ q ∈ xStr, Cond.exactly (.string RX7 q.1) "java/lang/String" ∈ flatC (Jvm.Cond.and given_1 narrow_1) := by decide +kernel
theorem st_isr : Cond.isRef (.static Bundle.tN "UNASSIGNED_STACK" Bundle.steD) ∈ flatC (Jvm.Cond.and given_1 narrow_1) ∧ Cond.isRef (.static Bundle.tN "SUPPRESSED_SENTINEL" Bundle.listD) ∈ flatC (Jvm.Cond.and given_1 narrow_1) := by decide +kernel
theorem st_lay : Cond.laysStatic Bundle.tN "UNASSIGNED_STACK" Bundle.steD ∈ lw_tbl ∧ Cond.laysStatic Bundle.tN "SUPPRESSED_SENTINEL" Bundle.listD ∈ lw_tbl ∧ Cond.initialized Bundle.tN ∈ lw_tbl := by decide +kernel
theorem st_arr : Cond.arrayClass .int ∈ lw_tbl ∧ Cond.arrayClass .byte ∈ lw_tbl := by decide +kernel
theorem st_ins : Cond.instantiable RX1 3 ∈ lw_tbl ∧ Cond.instantiable RX2 6 ∈ lw_tbl ∧ Cond.instantiable RX3 7 ∈ lw_tbl ∧ Cond.instantiable RX4 4 ∈ lw_tbl ∧ Cond.instantiable RX5 2 ∈ lw_tbl ∧ Cond.instantiable RX6 9 ∈ lw_tbl ∧ Cond.instantiable RX7 4 ∈ lw_tbl := by decide +kernel
/-- what the tables say at the start -/
theorem st_world {s : State} {b : Nat} (hts : ∀ w ∈ lw_tbl, w.before #[Value.ref b] s = true) (hgv : (Jvm.Cond.and given_1 narrow_1).before #[Value.ref b] s = true) : ∃ (D : va_G) (Z : Nat → ClassId), va_K D vwCl (tyv Z) s ∧ Nst s ∧ AO s ∧ XT (fun q : Nat => s.heap.size ≤ q) s s.heap := by
  have hs := flat_of_before _ hgv
  obtain ⟨c1, i1, k1⟩ := u_known (C := RX1) (T := TX1) (N := 3) (n := 3) hts inX1 (hts _ st_ins.1)
  obtain ⟨c2, i2, k2⟩ := u_known (C := RX2) (T := TX2) (N := 6) (n := 6) hts inX2 (hts _ st_ins.2.1)
  obtain ⟨c3, i3, k3⟩ := u_known (C := RX3) (T := TX3) (N := 7) (n := 7) hts inX3 (hts _ st_ins.2.2.1)
  obtain ⟨c4, i4, k4⟩ := u_known (C := RX4) (T := TX4) (N := 4) (n := 4) hts inX4 (hts _ st_ins.2.2.2.1)
  obtain ⟨c5, i5, k5⟩ := u_known (C := RX5) (T := TX5) (N := 2) (n := 2) hts inX5 (hts _ st_ins.2.2.2.2.1)
  obtain ⟨c6, i6, k6⟩ := u_known (C := RX6) (T := TX6) (N := 9) (n := 9) hts inX6 (hts _ st_ins.2.2.2.2.2.1)
  obtain ⟨c7, i7, k7⟩ := u_known (C := RX7) (T := TX7) (N := 4) (n := 4) hts inX7 (hts _ st_ins.2.2.2.2.2.2)
  obtain ⟨z0, a0, r0⟩ := arr_of (hts _ st_arr.1)
  obtain ⟨z1, a1, r1⟩ := arr_of (hts _ st_arr.2)
  obtain ⟨z2, a2, r2⟩ := arro_of (hts _ (st_ao "ChannelLoom$State" (by decide)))
  obtain ⟨z3, a3, r3⟩ := arro_of (hts _ (st_ao "ChannelLoom$Voice" (by decide)))
  refine ⟨(fun k => if k = 0 then c1 else if k = 1 then c2 else if k = 2 then c3 else if k = 3 then c4 else if k = 4 then c5 else if k = 5 then c6 else c7, fun k => if k = 0 then i1 else if k = 1 then i2 else if k = 2 then i3 else if k = 3 then i4 else if k = 4 then i5 else if k = 5 then i6 else i7), fun k => if k = 0 then z0 else if k = 1 then z1 else if k = 2 then z2 else if k = 3 then z3 else z0, ⟨fun k q hq => ?_, fun k q hq => ?_⟩, fun q hq => va_Nw.of rfl (hts _ (st_nst q hq)), fun C hC => va_AO.of (hts _ (st_ao C hC)), ⟨⟨fun y hy => va_Nw.of rfl (hts _ (st_dcl y hy)), fun y hy => va_Nw.of rfl (hts _ (st_cst y hy))⟩, fun q hq => ?_, ?_, ?_⟩⟩
  · match k, hq with
    | 0, hq => cases hq; exact k1
    | 1, hq => cases hq; exact k2
    | 2, hq => cases hq; exact k3
    | 3, hq => cases hq; exact k4
    | 4, hq => cases hq; exact k5
    | 5, hq => cases hq; exact k6
    | 6, hq => cases hq; exact k7
    | k + 7, hq => simp [vwCl] at hq
  · match k, hq with
    | 0, hq => cases hq; exact ⟨a0, r0⟩
    | 1, hq => cases hq; exact ⟨a1, r1⟩
    | 2, hq => cases hq; exact ⟨a2, r2⟩
    | 3, hq => cases hq; exact ⟨a3, r3⟩
    | 4, hq => cases hq; exact ⟨a0, r0⟩
    | k + 5, hq => simp [tyv] at hq
  · obtain ⟨sa, -, -, -, h, -⟩ := Cond.exactly_spec (hs _ (st_exa q hq))
    exact ⟨sa, vk_R.of (A := #[Value.ref b]) (hts _ (st_str q hq)) h⟩
  · exact vx_Zqof (hts _ st_lay.1) (hts _ st_lay.2.2) (hs _ st_isr.1) (fun a h => Nat.not_le.mpr h)
  · exact vx_Zqof (hts _ st_lay.2.1) (hts _ st_lay.2.2) (hs _ st_isr.2) (fun a h => Nat.not_le.mpr h)
theorem LPq_0 : LPq S0 0 0 S0 0 0 := ⟨B_0, B_0, TE_0, by decide, by decide, by decide, by decide⟩
