/-! MAKING: arrays of the classes that are known -/
section VNA
variable {p : Program} {l : Launch} {e : Env} {R : Room} {s : State} {m : MethodId} {args : Array Value} {below : List Frame} {meth : Method} {c : Code} {H : Heap} {locs : List Loc} {cells slots : Nat} {Q : State → Prop} {ls : Array Slot} {rest : List Value} {D : va_G} {cI cB cF : ClassId} {ws : va_W} {A : Nat → Prop} {H0 : Heap} {cc : ByteArray} {pc : Nat}
theorem vz_newaI (hx : p.tables.exec = Jvm.exec) (hb : c.code = cc) (harr : (Cond.arrayClass .int).before args s = true) (hK : zK D cI cB cF s) (hP : va_P D vwCl ws H) (hD : va_D A ws) (hS : va_S A H0 H locs) (hA : ∀ q, H0.size ≤ q → A q) {n : Int32} {N : Nat} (hn : ¬ n < 0) (hN : n.toNatClampNeg = N) (hbytes : N * 4 ≤ 536870912) (hcells : cells + 1 ≤ R.cells) (hslots : slots + N ≤ R.slots) (hdg : decode cc pc = .ok (.newarray .int, 2))
    (kk : ∀ (q : Nat) (H1 : Heap), va_P D vwCl (ws ++ [(q, .inl (cI, N, .inl (fun _ => 0)))]) H1 → va_D A (ws ++ [(q, .inl (cI, N, .inl (fun _ => 0)))]) → va_S A H0 H1 locs → W p l e R s m args below meth c H1 locs (cells + 1) (slots + N) Q (F0 m (pc + 2) ls (.ref q :: rest))) : W p l e R s m args below meth c H locs cells slots Q (F0 m pc ls (.int n :: rest)) := by
  refine va_newa (atype := .int) (ty := .int) (a0 := (N, .inl (fun _ => 0))) hx hb harr rfl hK.1 hP hD hS hA (fun cA => vp_cell_i ..) hn hN hbytes hcells hslots hdg (fun q cA H1 hK1 hP1 hD1 hS1 => ?_)
  have h1 : va_RA s cA .int := (hK1.2 3 (cA, .int) rfl).2
  have h2 : va_RA s cI .int := (hK.1.2 0 (cI, .int) rfl).2
  have h1 : s.vm.findClass ("[" ++ (FieldType.int).toString) = some cA := h1
  have h2 : s.vm.findClass ("[" ++ (FieldType.int).toString) = some cI := h2
  have e9 : cA = cI := Option.some.inj (h1.symm.trans h2)
  rw [e9] at hP1 hD1
  exact kk q H1 hP1 hD1 hS1
theorem vz_newaB (hx : p.tables.exec = Jvm.exec) (hb : c.code = cc) (harr : (Cond.arrayClass .byte).before args s = true) (hK : zK D cI cB cF s) (hP : va_P D vwCl ws H) (hD : va_D A ws) (hS : va_S A H0 H locs) (hA : ∀ q, H0.size ≤ q → A q) {n : Int32} {N : Nat} (hn : ¬ n < 0) (hN : n.toNatClampNeg = N) (hbytes : N * 1 ≤ 536870912) (hcells : cells + 1 ≤ R.cells) (hslots : slots + N ≤ R.slots) (hdg : decode cc pc = .ok (.newarray .byte, 2))
    (kk : ∀ (q : Nat) (H1 : Heap), va_P D vwCl (ws ++ [(q, .inl (cB, N, .inl (fun _ => 0)))]) H1 → va_D A (ws ++ [(q, .inl (cB, N, .inl (fun _ => 0)))]) → va_S A H0 H1 locs → W p l e R s m args below meth c H1 locs (cells + 1) (slots + N) Q (F0 m (pc + 2) ls (.ref q :: rest))) : W p l e R s m args below meth c H locs cells slots Q (F0 m pc ls (.int n :: rest)) := by
  refine va_newa (atype := .byte) (ty := .byte) (a0 := (N, .inl (fun _ => 0))) hx hb harr rfl hK.1 hP hD hS hA (fun cA => vp_cell_i ..) hn hN hbytes hcells hslots hdg (fun q cA H1 hK1 hP1 hD1 hS1 => ?_)
  have h1 : va_RA s cA .byte := (hK1.2 3 (cA, .byte) rfl).2
  have h2 : va_RA s cB .byte := (hK.1.2 1 (cB, .byte) rfl).2
  have h1 : s.vm.findClass ("[" ++ (FieldType.byte).toString) = some cA := h1
  have h2 : s.vm.findClass ("[" ++ (FieldType.byte).toString) = some cB := h2
  have e9 : cA = cB := Option.some.inj (h1.symm.trans h2)
  rw [e9] at hP1 hD1
  exact kk q H1 hP1 hD1 hS1
theorem vz_newaF (hx : p.tables.exec = Jvm.exec) (hb : c.code = cc) {own : String} {index : Nat} (hown : s.vm.findClass own = some m.cls) (hcl : (Cond.classLink own index "RotaFathers$Father").before args s = true) (hAO : va_AO "RotaFathers$Father" s) (hK : zK D cI cB cF s) (hP : va_P D vwCl ws H) (hD : va_D A ws) (hS : va_S A H0 H locs) (hA : ∀ q, H0.size ≤ q → A q) {n : Int32} {N : Nat} (hn : ¬ n < 0) (hN : n.toNatClampNeg = N) (hbytes : N * 4 ≤ 536870912) (hcells : cells + 1 ≤ R.cells) (hslots : slots + N ≤ R.slots) (hdg : decode cc pc = .ok (.anewarray index, 3))
    (kk : ∀ (q : Nat) (H1 : Heap), va_P D vwCl (ws ++ [(q, .inl (cF, N, .inr (.inr (.inr (.inr (fun _ => none))))))]) H1 → va_D A (ws ++ [(q, .inl (cF, N, .inr (.inr (.inr (.inr (fun _ => none))))))]) → va_S A H0 H1 locs → W p l e R s m args below meth c H1 locs (cells + 1) (slots + N) Q (F0 m (pc + 3) ls (.ref q :: rest))) : W p l e R s m args below meth c H locs cells slots Q (F0 m pc ls (.int n :: rest)) := by
  refine va_newq hx hb hown hcl hAO hK.1 hP hD hS hA hn hN hbytes hcells hslots hdg (fun q cA H1 hK1 hP1 hD1 hS1 => ?_)
  obtain ⟨-, -, -, -, -, h1⟩ := (hK1.2 3 (cA, .object "RotaFathers$Father") rfl).2
  obtain ⟨-, -, -, -, -, h2⟩ := (hK.1.2 2 (cF, .object "RotaFathers$Father") rfl).2
  have e9 : cA = cF := Option.some.inj (h1.symm.trans h2)
  rw [e9] at hP1 hD1
  exact kk q H1 hP1 hD1 hS1
end VNA
/-- a start, of a constructor that makes an array of fathers -/
def PcA (D : va_G) (cI cB cF : ClassId) (av : List Value) (sz : Nat) (ws wr : va_W) : Array Value → State → Prop := va_Pc av (fun U => (U.heap.size = sz ∧ va_P D vwCl ws U.heap ∧ zK D cI cB cF U ∧ va_D (fun _ => True) ws ∧ vz_R D wr (va_A ws sz) U.heap) ∧ va_AO "RotaFathers$Father" U)
theorem blindA {D : va_G} {cI cB cF : ClassId} {av : List Value} {sz : Nat} {ws wr : va_W} : FrameBlind (PcA D cI cB cF av sz ws wr) := fun a U g mk q => by
  obtain ⟨q0, ⟨q1, qP, qK, qD, qR⟩, qA⟩ := q
  exact ⟨q0, ⟨q1, qP, qK.same (u := U) (U := U.calling g mk a) rfl, qD, qR⟩, va_AO.moved (Vm.Alike.refl U.vm) qA⟩
theorem preA_I {D : va_G} {cI cB cF : ClassId} {s : State} {H : Heap} {As : List Value} {wc wr : va_W} {A : Nat → Prop} {b : Nat} (hP : va_P D vwCl wc H) (hD : va_D A wc) (hK : zK D cI cB cF s) (hR : vz_R D wr (va_A wc H.size) H) (hAO : va_AO "RotaFathers$Father" s) : PreS s H (PcA D cI cB cF (.ref b :: As) H.size wc wr) (.ref b :: As) := ⟨blindA, fun U hU hW => ⟨rfl, ⟨by rw [hU], by rw [hU]; exact hP, hK.warm hW, hD.weaken (fun _ _ _ _ => trivial), by rw [hU]; exact hR⟩, va_AO.moved hW.alike hAO⟩⟩
