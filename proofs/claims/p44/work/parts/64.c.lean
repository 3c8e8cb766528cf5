/-! from the entry -/
theorem ar_of {args : Array Value} {s : State} {ty : FieldType} (h : (Cond.arrayClass ty).before args s = true) : ∃ cA : ClassId, ArrOfT s cA ty ∧ s.vm.findClass ("[" ++ ty.toString) = some cA := by
  obtain ⟨cA, kA, comp, h1, h2, h3⟩ := Cond.arrayClass_spec h
  exact ⟨cA, fun n z => ⟨fun k hh => (by cases hh), kA, h2, comp, h3⟩, h1⟩
theorem ar_obj {args : Array Value} {s : State} {C : String} (h : (Cond.arrayOver (.object C)).before args s = true) : ∃ cA : ClassId, ArrOfT s cA (.object C) ∧ va_RA s cA (.object C) := by
  obtain ⟨comp, cA, kA, h1, h2, h3, h4, h5⟩ := Cond.arrayOver_spec h
  exact ⟨cA, fun n z => ⟨fun k hh => (by cases hh), kA, h3, comp, h4⟩, kA, comp, h3, h4, h1, h5⟩
theorem vk_ex {own tx : String} {k : Nat} {A : Array Value} {U : State} (h1 : (Cond.stringRef own k tx).before A U = true) (h2 : (Cond.exactly (.string own k) "java/lang/String").before A U = true) : ∃ a, vk_R own k tx a U := by
  obtain ⟨a, c, cell, kk, h3, -⟩ := Cond.exactly_spec h2
  exact ⟨a, vk_R.of h1 h3⟩
theorem cast_self {E : String} {A : Array Value} {U : State} (n : Nat) (h : (Cond.instantiable E n).before A U = true) : va_Nw (.castable E E) U := by
  obtain ⟨c, k, h1, -⟩ := Cond.instantiable_spec h
  show (Cond.castable E E).before #[] U = true
  have h2 : U.vm.assignable c c = true := by
    show U.vm.assignableAux (255 + 1) c c = true
    rw [Vm.assignableAux]
    simp
  simp [Cond.before, Cond.holds, Cond.value, h1, h2]
theorem in_w1 : ∀ q ∈ exStr, Cond.stringRef RX8 q.1 q.2 ∈ lw_tbl := by decide +kernel
theorem in_w2 : ∀ q ∈ exStr, Cond.exactly (.string RX8 q.1) "java/lang/String" ∈ flatC (Jvm.Cond.and given_1 narrow_1) := by decide +kernel
theorem in_w3 : ∀ E ∈ exCls, Cond.castable E E ∈ lw_tbl := by decide +kernel
theorem in_w4 : ∀ q ∈ exNot, Cond.not (.castable q.1 q.2) ∈ flatC (Jvm.Cond.and given_1 narrow_1) := by decide +kernel
theorem in_w5 : ∀ q ∈ exNest, Cond.methodLinkNest q.1 q.2.1 q.2.2.1 q.2.2.2 ∈ lw_tbl := by decide +kernel
theorem in_w6 : Cond.arrayOver (.object "SlackPlan$State") ∈ lw_tbl := by decide +kernel
theorem in_w7 : ∀ n ∈ exDec, Cond.declares (Bundle.initS n) ∈ lw_tbl := by decide +kernel
theorem in_w8 : Cond.laysStatic Bundle.tN "UNASSIGNED_STACK" Bundle.steD ∈ lw_tbl ∧ Cond.laysStatic Bundle.tN "SUPPRESSED_SENTINEL" Bundle.listD ∈ lw_tbl ∧ Cond.initialized Bundle.tN ∈ lw_tbl := by decide +kernel
theorem in_w9 : Cond.isRef (.static Bundle.tN "UNASSIGNED_STACK" Bundle.steD) ∈ flatC (Jvm.Cond.and given_1 narrow_1) ∧ Cond.isRef (.static Bundle.tN "SUPPRESSED_SENTINEL" Bundle.listD) ∈ flatC (Jvm.Cond.and given_1 narrow_1) := by decide +kernel
theorem in_wa : Cond.arrayClass .int ∈ lw_tbl ∧ Cond.arrayClass .boolean ∈ lw_tbl ∧ Cond.arrayClass .char ∈ lw_tbl ∧ Cond.arrayClass .long ∈ lw_tbl := by decide +kernel
theorem in_wb : Cond.instantiable RX0 5 ∈ lw_tbl ∧ Cond.instantiable RX1 5 ∈ lw_tbl ∧ Cond.instantiable RX2 3 ∈ lw_tbl ∧ Cond.instantiable RX3 3 ∈ lw_tbl ∧ Cond.instantiable RX4 4 ∈ lw_tbl ∧ Cond.instantiable RX5 1 ∈ lw_tbl ∧ Cond.instantiable RX6 4 ∈ lw_tbl ∧ Cond.instantiable RX7 6 ∈ lw_tbl ∧ Cond.instantiable RX8 10 ∈ lw_tbl := by decide +kernel
theorem start_EV {args : Array Value} {s : State} (hts : ∀ w ∈ lw_tbl, w.before args s = true) (hgv : (Jvm.Cond.and given_1 narrow_1).before args s = true) : EV (fun q : Nat => s.heap.size ≤ q) s s.heap := by
  have hfl := flat_of_before _ hgv
  have hA : ∀ a : Nat, a < s.heap.size → ¬ (fun q : Nat => s.heap.size ≤ q) a := fun a h => Nat.not_le.mpr h
  refine ⟨vx_Zqof (hts _ in_w8.1) (hts _ in_w8.2.2) (hfl _ in_w9.1) hA, vx_Zqof (hts _ in_w8.2.1) (hts _ in_w8.2.2) (hfl _ in_w9.2) hA, fun q hq => vk_ex (hts _ (in_w1 q hq)) (hfl _ (in_w2 q hq)), fun E hE => va_Nw.of rfl (hts _ (in_w3 E hE)), fun q hq => va_Nc.of (hfl _ (in_w4 q hq)), fun q hq => va_Nw.of rfl (hts _ (in_w5 q hq)), va_AO.of (hts _ in_w6), cast_self 6 (hts _ in_wb.2.2.2.2.2.2.2.1), fun n hn => va_Nw.of rfl (hts _ (in_w7 n hn))⟩
theorem start_K {args : Array Value} {s : State} (hts : ∀ w ∈ lw_tbl, w.before args s = true) : ∃ (D : va_G) (ca : Nat → ClassId), va_K D vwCl (TY ca) s := by
  obtain ⟨c0, i0, k0⟩ := u_known (C := RX0) (T := TX0) (N := 5) (n := 5) hts inX0 (hts _ in_wb.1)
  obtain ⟨c1, i1, k1⟩ := u_known (C := RX1) (T := TX1) (N := 5) (n := 5) hts inX1 (hts _ in_wb.2.1)
  obtain ⟨c2, i2, k2⟩ := u_known (C := RX2) (T := TX2) (N := 3) (n := 3) hts inX2 (hts _ in_wb.2.2.1)
  obtain ⟨c3, i3, k3⟩ := u_known (C := RX3) (T := TX3) (N := 3) (n := 3) hts inX3 (hts _ in_wb.2.2.2.1)
  obtain ⟨c4, i4, k4⟩ := u_known (C := RX4) (T := TX4) (N := 4) (n := 4) hts inX4 (hts _ in_wb.2.2.2.2.1)
  obtain ⟨c5, i5, k5⟩ := u_known (C := RX5) (T := TX5) (N := 1) (n := 1) hts inX5 (hts _ in_wb.2.2.2.2.2.1)
  obtain ⟨c6, i6, k6⟩ := u_known (C := RX6) (T := TX6) (N := 4) (n := 4) hts inX6 (hts _ in_wb.2.2.2.2.2.2.1)
  obtain ⟨c7, i7, k7⟩ := u_known (C := RX7) (T := TX7) (N := 6) (n := 6) hts inX7 (hts _ in_wb.2.2.2.2.2.2.2.1)
  obtain ⟨c8, i8, k8⟩ := u_known (C := RX8) (T := TX8) (N := 10) (n := 10) hts inX8 (hts _ in_wb.2.2.2.2.2.2.2.2)
  obtain ⟨a0, r0, f0⟩ := ar_of (hts _ in_wa.1)
  obtain ⟨a1, r1, f1⟩ := ar_of (hts _ in_wa.2.1)
  obtain ⟨a2, r2, f2⟩ := ar_of (hts _ in_wa.2.2.1)
  obtain ⟨a3, r3, f3⟩ := ar_of (hts _ in_wa.2.2.2)
  obtain ⟨a4, r4, f4⟩ := ar_of (hts _ in_wa.2.2.2)
  obtain ⟨a5, r5, f5⟩ := ar_obj (hts _ in_w6)
  refine ⟨(fun k => match k with | 0 => c0 | 1 => c1 | 2 => c2 | 3 => c3 | 4 => c4 | 5 => c5 | 6 => c6 | 7 => c7 | _ => c8, fun k => match k with | 0 => i0 | 1 => i1 | 2 => i2 | 3 => i3 | 4 => i4 | 5 => i5 | 6 => i6 | 7 => i7 | _ => i8), (fun k => match k with | 0 => a0 | 1 => a1 | 2 => a2 | 3 => a3 | 4 => a4 | _ => a5), fun k q hq => ?_, fun k q hq => ?_⟩
  · match k, hq with
    | 0, hq => cases hq; exact k0
    | 1, hq => cases hq; exact k1
    | 2, hq => cases hq; exact k2
    | 3, hq => cases hq; exact k3
    | 4, hq => cases hq; exact k4
    | 5, hq => cases hq; exact k5
    | 6, hq => cases hq; exact k6
    | 7, hq => cases hq; exact k7
    | 8, hq => cases hq; exact k8
    | k + 9, hq => simp [vwCl] at hq
  · match k, hq with
    | 0, hq => cases hq; exact ⟨r0, f0⟩
    | 1, hq => cases hq; exact ⟨r1, f1⟩
    | 2, hq => cases hq; exact ⟨r2, f2⟩
    | 3, hq => cases hq; exact ⟨r3, f3⟩
    | 4, hq => cases hq; exact ⟨r4, f4⟩
    | 5, hq => cases hq; exact ⟨r5, f5⟩
    | k + 6, hq => simp at hq
