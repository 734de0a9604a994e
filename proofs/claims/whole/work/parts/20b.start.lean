set_option maxRecDepth 100000 in
theorem zk_n0 : (.methodLinkNest RX8 11 yX4_init RX8 : Cond) ∈ lw_tbl := List.mem_of_getElem? (i := 73) (by decide +kernel)
set_option maxRecDepth 100000 in
theorem zk_n1 : (.methodLinkNest RX8 24 yX3_init RX8 : Cond) ∈ lw_tbl := List.mem_of_getElem? (i := 90) (by decide +kernel)
set_option maxRecDepth 100000 in
theorem zk_n2 : (.methodLinkNest RX8 34 yX7_init RX8 : Cond) ∈ lw_tbl := List.mem_of_getElem? (i := 131) (by decide +kernel)
set_option maxRecDepth 100000 in
theorem zk_n3 : (.methodLinkNest RX3 27 yX8_clear RX8 : Cond) ∈ lw_tbl := List.mem_of_getElem? (i := 348) (by decide +kernel)
set_option maxRecDepth 100000 in
theorem zk_n4 : (.methodLinkNest RX3 44 yX8_copy RX8 : Cond) ∈ lw_tbl := List.mem_of_getElem? (i := 567) (by decide +kernel)
set_option maxRecDepth 100000 in
theorem zk_n5 : (.methodLinkNest RX3 48 yX8_put RX8 : Cond) ∈ lw_tbl := List.mem_of_getElem? (i := 539) (by decide +kernel)
set_option maxRecDepth 100000 in
theorem zk_n6 : (.methodLinkNest RX3 52 yX8_at RX8 : Cond) ∈ lw_tbl := List.mem_of_getElem? (i := 485) (by decide +kernel)
set_option maxRecDepth 100000 in
theorem zk_n7 : (.methodLinkNest RX4 19 yX8_put RX8 : Cond) ∈ lw_tbl := List.mem_of_getElem? (i := 212) (by decide +kernel)
set_option maxRecDepth 100000 in
theorem zk_n8 : (.methodLinkNest RX4 23 yX8_at RX8 : Cond) ∈ lw_tbl := List.mem_of_getElem? (i := 239) (by decide +kernel)
set_option maxRecDepth 100000 in
theorem zk_n9 : (.methodLinkNest RX7 34 yX8_put RX8 : Cond) ∈ lw_tbl := List.mem_of_getElem? (i := 395) (by decide +kernel)
set_option maxRecDepth 100000 in
theorem zk_n10 : (.methodLinkNest RX7 38 yX8_at RX8 : Cond) ∈ lw_tbl := List.mem_of_getElem? (i := 396) (by decide +kernel)
set_option maxRecDepth 100000 in
theorem zk_n11 : (.methodLinkNest RX7 42 yX8_fatherAt RX8 : Cond) ∈ lw_tbl := List.mem_of_getElem? (i := 397) (by decide +kernel)
set_option maxRecDepth 100000 in
theorem zk_n12 : (.methodLinkNest RX7 64 yX8_knows RX8 : Cond) ∈ lw_tbl := List.mem_of_getElem? (i := 402) (by decide +kernel)
set_option maxRecDepth 100000 in
theorem zk_c0 : (.castable RX0 RX2 : Cond) ∈ lw_tbl := List.mem_of_getElem? (i := 941) (by decide +kernel)
set_option maxRecDepth 100000 in
theorem zk_c1 : (.castable RX1 RX2 : Cond) ∈ lw_tbl := List.mem_of_getElem? (i := 938) (by decide +kernel)
set_option maxRecDepth 100000 in
theorem zk_c2 : (.castable RX5 RX2 : Cond) ∈ lw_tbl := List.mem_of_getElem? (i := 940) (by decide +kernel)
set_option maxRecDepth 100000 in
theorem zk_c3 : (.castable RX6 RX2 : Cond) ∈ lw_tbl := List.mem_of_getElem? (i := 939) (by decide +kernel)
set_option maxRecDepth 100000 in
theorem zk_c4 : (.castable RX0 RX1 : Cond) ∈ lw_tbl := List.mem_of_getElem? (i := 937) (by decide +kernel)
theorem zk_d0 : (Cond.not (.castable RX2 RX0)) ∈ flatC (Jvm.Cond.and given_1 narrow_1) := by decide +kernel
theorem zk_d1 : (Cond.not (.castable RX2 RX1)) ∈ flatC (Jvm.Cond.and given_1 narrow_1) := by decide +kernel
theorem zk_d2 : (Cond.not (.castable RX2 RX5)) ∈ flatC (Jvm.Cond.and given_1 narrow_1) := by decide +kernel
theorem zk_d3 : (Cond.not (.castable RX2 RX6)) ∈ flatC (Jvm.Cond.and given_1 narrow_1) := by decide +kernel
theorem zk_d4 : (Cond.not (.castable RX1 RX0)) ∈ flatC (Jvm.Cond.and given_1 narrow_1) := by decide +kernel
theorem zk_d5 : (Cond.not (.castable RX1 RX5)) ∈ flatC (Jvm.Cond.and given_1 narrow_1) := by decide +kernel
theorem zk_d6 : (Cond.not (.castable RX1 RX6)) ∈ flatC (Jvm.Cond.and given_1 narrow_1) := by decide +kernel
theorem zk_d7 : (Cond.not (.castable RX5 RX0)) ∈ flatC (Jvm.Cond.and given_1 narrow_1) := by decide +kernel
theorem zk_d8 : (Cond.not (.castable RX5 RX1)) ∈ flatC (Jvm.Cond.and given_1 narrow_1) := by decide +kernel
theorem zk_d9 : (Cond.not (.castable RX5 RX6)) ∈ flatC (Jvm.Cond.and given_1 narrow_1) := by decide +kernel
theorem zk_d10 : (Cond.not (.castable RX6 RX0)) ∈ flatC (Jvm.Cond.and given_1 narrow_1) := by decide +kernel
theorem zk_d11 : (Cond.not (.castable RX6 RX1)) ∈ flatC (Jvm.Cond.and given_1 narrow_1) := by decide +kernel
theorem zk_d12 : (Cond.not (.castable RX6 RX5)) ∈ flatC (Jvm.Cond.and given_1 narrow_1) := by decide +kernel
theorem zk_d13 : (Cond.not (.castable RX0 RX5)) ∈ flatC (Jvm.Cond.and given_1 narrow_1) := by decide +kernel
theorem zk_d14 : (Cond.not (.castable RX0 RX6)) ∈ flatC (Jvm.Cond.and given_1 narrow_1) := by decide +kernel
set_option maxRecDepth 100000 in
theorem zk_ai : (.arrayClass .int : Cond) ∈ lw_tbl := List.mem_of_getElem? (i := 85) (by decide +kernel)
set_option maxRecDepth 100000 in
theorem zk_ab : (.arrayClass .byte : Cond) ∈ lw_tbl := List.mem_of_getElem? (i := 726) (by decide +kernel)
set_option maxRecDepth 100000 in
theorem zk_ao : (.arrayOver (.object "RotaFathers$Father") : Cond) ∈ lw_tbl := List.mem_of_getElem? (i := 87) (by decide +kernel)
set_option maxRecDepth 100000 in
theorem zk_i0 : (.instantiable RX0 2 : Cond) ∈ lw_tbl := List.mem_of_getElem? (i := 326) (by decide +kernel)
set_option maxRecDepth 100000 in
theorem zk_i1 : (.instantiable RX1 2 : Cond) ∈ lw_tbl := List.mem_of_getElem? (i := 285) (by decide +kernel)
set_option maxRecDepth 100000 in
theorem zk_i2 : (.instantiable RX2 2 : Cond) ∈ lw_tbl := List.mem_of_getElem? (i := 335) (by decide +kernel)
set_option maxRecDepth 100000 in
theorem zk_i3 : (.instantiable RX3 9 : Cond) ∈ lw_tbl := List.mem_of_getElem? (i := 89) (by decide +kernel)
set_option maxRecDepth 100000 in
theorem zk_i4 : (.instantiable RX4 2 : Cond) ∈ lw_tbl := List.mem_of_getElem? (i := 72) (by decide +kernel)
set_option maxRecDepth 100000 in
theorem zk_i5 : (.instantiable RX5 2 : Cond) ∈ lw_tbl := List.mem_of_getElem? (i := 317) (by decide +kernel)
set_option maxRecDepth 100000 in
theorem zk_i6 : (.instantiable RX6 2 : Cond) ∈ lw_tbl := List.mem_of_getElem? (i := 308) (by decide +kernel)
set_option maxRecDepth 100000 in
theorem zk_i7 : (.instantiable RX7 7 : Cond) ∈ lw_tbl := List.mem_of_getElem? (i := 130) (by decide +kernel)
set_option maxRecDepth 100000 in
theorem zk_i8 : (.instantiable RX8 13 : Cond) ∈ lw_tbl := List.mem_of_getElem? (i := 64) (by decide +kernel)
set_option maxRecDepth 100000 in
theorem zk_i9 : (.instantiable RX9 41 : Cond) ∈ lw_tbl := List.mem_of_getElem? (i := 597) (by decide +kernel)
theorem zN_start {s : State} {b : Nat} (hts : ∀ w ∈ lw_tbl, w.before #[Value.ref b] s = true) (hgv : (Jvm.Cond.and given_1 narrow_1).before #[Value.ref b] s = true) : zN s := by
  have hfl := flat_of_before _ hgv
  refine ⟨List.forall_mem_cons.mpr ⟨va_Nw.of rfl (hts _ zk_n0), List.forall_mem_cons.mpr ⟨va_Nw.of rfl (hts _ zk_n1), List.forall_mem_cons.mpr ⟨va_Nw.of rfl (hts _ zk_n2), List.forall_mem_cons.mpr ⟨va_Nw.of rfl (hts _ zk_n3), List.forall_mem_cons.mpr ⟨va_Nw.of rfl (hts _ zk_n4), List.forall_mem_cons.mpr ⟨va_Nw.of rfl (hts _ zk_n5), List.forall_mem_cons.mpr ⟨va_Nw.of rfl (hts _ zk_n6), List.forall_mem_cons.mpr ⟨va_Nw.of rfl (hts _ zk_n7), List.forall_mem_cons.mpr ⟨va_Nw.of rfl (hts _ zk_n8), List.forall_mem_cons.mpr ⟨va_Nw.of rfl (hts _ zk_n9), List.forall_mem_cons.mpr ⟨va_Nw.of rfl (hts _ zk_n10), List.forall_mem_cons.mpr ⟨va_Nw.of rfl (hts _ zk_n11), List.forall_mem_cons.mpr ⟨va_Nw.of rfl (hts _ zk_n12), fun _ h => absurd h List.not_mem_nil⟩⟩⟩⟩⟩⟩⟩⟩⟩⟩⟩⟩⟩, List.forall_mem_cons.mpr ⟨va_Nw.of rfl (hts _ zk_c0), List.forall_mem_cons.mpr ⟨va_Nw.of rfl (hts _ zk_c1), List.forall_mem_cons.mpr ⟨va_Nw.of rfl (hts _ zk_c2), List.forall_mem_cons.mpr ⟨va_Nw.of rfl (hts _ zk_c3), List.forall_mem_cons.mpr ⟨va_Nw.of rfl (hts _ zk_c4), fun _ h => absurd h List.not_mem_nil⟩⟩⟩⟩⟩, List.forall_mem_cons.mpr ⟨va_Nc.of (hfl _ zk_d0), List.forall_mem_cons.mpr ⟨va_Nc.of (hfl _ zk_d1), List.forall_mem_cons.mpr ⟨va_Nc.of (hfl _ zk_d2), List.forall_mem_cons.mpr ⟨va_Nc.of (hfl _ zk_d3), List.forall_mem_cons.mpr ⟨va_Nc.of (hfl _ zk_d4), List.forall_mem_cons.mpr ⟨va_Nc.of (hfl _ zk_d5), List.forall_mem_cons.mpr ⟨va_Nc.of (hfl _ zk_d6), List.forall_mem_cons.mpr ⟨va_Nc.of (hfl _ zk_d7), List.forall_mem_cons.mpr ⟨va_Nc.of (hfl _ zk_d8), List.forall_mem_cons.mpr ⟨va_Nc.of (hfl _ zk_d9), List.forall_mem_cons.mpr ⟨va_Nc.of (hfl _ zk_d10), List.forall_mem_cons.mpr ⟨va_Nc.of (hfl _ zk_d11), List.forall_mem_cons.mpr ⟨va_Nc.of (hfl _ zk_d12), List.forall_mem_cons.mpr ⟨va_Nc.of (hfl _ zk_d13), List.forall_mem_cons.mpr ⟨va_Nc.of (hfl _ zk_d14), fun _ h => absurd h List.not_mem_nil⟩⟩⟩⟩⟩⟩⟩⟩⟩⟩⟩⟩⟩⟩⟩⟩
theorem zA_prim {s : State} {b : Nat} {ty : FieldType} (h : (Cond.arrayClass ty).before #[Value.ref b] s = true) (hn : ∀ C, ty ≠ .object C) : ∃ cA, ArrOfT s cA ty ∧ va_RA s cA ty := by
  obtain ⟨cA, kA, comp, h1, h2, h3⟩ := Cond.arrayClass_spec h
  refine ⟨cA, fun n z => ⟨fun k h => (by cases h), kA, h2, comp, h3⟩, ?_⟩
  cases ty with
  | object C => exact absurd rfl (hn C)
  | _ => exact h1
theorem zA_obj {s : State} {b : Nat} {C : String} (h : (Cond.arrayOver (.object C)).before #[Value.ref b] s = true) : ∃ cA, ArrOfT s cA (.object C) ∧ va_RA s cA (.object C) := by
  obtain ⟨comp, cA, kA, h1, h2, h3, h4, h5⟩ := Cond.arrayOver_spec h
  exact ⟨cA, fun n z => ⟨fun k h => (by cases h), kA, h3, comp, h4⟩, kA, comp, h3, h4, h1, h5⟩
theorem zK_start {s : State} {b : Nat} (hts : ∀ w ∈ lw_tbl, w.before #[Value.ref b] s = true) (hgv : (Jvm.Cond.and given_1 narrow_1).before #[Value.ref b] s = true) : ∃ (D : va_G) (cI cB cF : ClassId), zK D cI cB cF s := by
  obtain ⟨c0, iS0, hKn0⟩ := u_known (C := RX0) (T := TX0) (N := 2) (n := 2) hts inW_X0 (hts _ zk_i0)
  obtain ⟨c1, iS1, hKn1⟩ := u_known (C := RX1) (T := TX1) (N := 2) (n := 2) hts inW_X1 (hts _ zk_i1)
  obtain ⟨c2, iS2, hKn2⟩ := u_known (C := RX2) (T := TX2) (N := 2) (n := 2) hts inW_X2 (hts _ zk_i2)
  obtain ⟨c3, iS3, hKn3⟩ := u_known (C := RX3) (T := TX3) (N := 9) (n := 9) hts inW_X3 (hts _ zk_i3)
  obtain ⟨c4, iS4, hKn4⟩ := u_known (C := RX4) (T := TX4) (N := 2) (n := 2) hts inW_X4 (hts _ zk_i4)
  obtain ⟨c5, iS5, hKn5⟩ := u_known (C := RX5) (T := TX5) (N := 2) (n := 2) hts inW_X5 (hts _ zk_i5)
  obtain ⟨c6, iS6, hKn6⟩ := u_known (C := RX6) (T := TX6) (N := 2) (n := 2) hts inW_X6 (hts _ zk_i6)
  obtain ⟨c7, iS7, hKn7⟩ := u_known (C := RX7) (T := TX7) (N := 7) (n := 7) hts inW_X7 (hts _ zk_i7)
  obtain ⟨c8, iS8, hKn8⟩ := u_known (C := RX8) (T := TX8) (N := 13) (n := 13) hts inW_X8 (hts _ zk_i8)
  obtain ⟨c9, iS9, hKn9⟩ := u_known (C := RX9) (T := TX9) (N := 41) (n := 41) hts inW_X9 (hts _ zk_i9)
  obtain ⟨cI, hI1, hI2⟩ := zA_prim (hts _ zk_ai) (fun _ h => by cases h)
  obtain ⟨cB, hB1, hB2⟩ := zA_prim (hts _ zk_ab) (fun _ h => by cases h)
  obtain ⟨cF, hF1, hF2⟩ := zA_obj (hts _ zk_ao)
  refine ⟨(fun k => [c0, c1, c2, c3, c4, c5, c6, c7, c8, c9].getD k 0, fun k => [iS0, iS1, iS2, iS3, iS4, iS5, iS6, iS7, iS8, iS9].getD k (fun _ => 0)), cI, cB, cF, ⟨fun k q hq => ?_, fun k q hq => ?_⟩, zN_start hts hgv⟩
  · match k, hq with
    | 0, hq => cases hq; exact hKn0
    | 1, hq => cases hq; exact hKn1
    | 2, hq => cases hq; exact hKn2
    | 3, hq => cases hq; exact hKn3
    | 4, hq => cases hq; exact hKn4
    | 5, hq => cases hq; exact hKn5
    | 6, hq => cases hq; exact hKn6
    | 7, hq => cases hq; exact hKn7
    | 8, hq => cases hq; exact hKn8
    | 9, hq => cases hq; exact hKn9
    | k + 10, hq => simp [vwCl] at hq
  · match k, hq with
    | 0, hq => cases hq; exact ⟨hI1, hI2⟩
    | 1, hq => cases hq; exact ⟨hB1, hB2⟩
    | 2, hq => cases hq; exact ⟨hF1, hF2⟩
    | k + 3, hq => simp [zT] at hq
