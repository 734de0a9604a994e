set_option maxRecDepth 100000 in
theorem hd_X8_at : yX8_at.cls ≠ "java/lang/invoke/MethodHandle" ∧ yX8_at.cls ≠ "java/lang/invoke/VarHandle" ∧ (parseMethodDescriptor yX8_at.desc).map (fun d => d.parameters.length) = some 2 := by decide +kernel
set_option maxHeartbeats 4000000 in
set_option maxRecDepth 100000 in
theorem c_X8_at (l : Launch) (D : va_G) (cI cB cF : ClassId) (r : Nat) (N : Nat) (f : Nat → Int32) (i : Int32) (hN : N < 2147483648) : Met l yX8_at wsX8_at ({ frames := 0, cells := 0, slots := 0, locals := 0 } : Room) (PcP D cI cB cF [.ref r, .int i] [(r, .inl (cI, N, .inl f))]) (QcV (.int (zAt f N i))) 0 0 (fun _ => False) := by
  refine Met.ofW (cc := cX8_at) (maxL := 2) (ret := (some .int)) (by decide) rfl ?_
  intro p e s m args below meth c s₁ Bd hml hv
  rw [show (headSpec wsX8_at ({ frames := 0, cells := 0, slots := 0, locals := 0 } : Room)).room = ({ frames := 0, cells := 0, slots := 0, locals := 0 } : Room) from rfl]
  obtain ⟨rfl, hQ, hK⟩ := hv
  have hx := Bd.exec
  have hb := Bd.bytes
  have hr := Bd.returns
  have hts := atoms_spec (ws := wsX8_at) Bd.pre
  have hown : s.vm.findClass RX8 = some m.cls := findClass_of_methodNamed Bd.named
  have hlocks := Bd.notSynchronized
  have FX : CallFix p m c cX8_at 2 s _ wsX8_at RX8 := ⟨hx, hb, hml, hown, hts⟩
  have hQ : va_P D vwCl [(r, .inl (cI, N, .inl f))] s.heap := hQ
  have hl := lv_entry ([.ref r, .int i]) (n := 2) (Nat.le_of_ble_eq_true rfl)
  rw [lg_entry_eq]
  generalize (lg_sl ([.ref r, .int i]) ++ List.replicate (2 - (lg_sl ([.ref r, .int i])).length) Slot.unset).toArray = ls at hl ⊢
  have hl : lv_has ls 2 [(0, .ref r), (1, .int i)] := hl
  refine lv_iload_n hx hb dX8_at_0 rfl (lv_at hl 1 rfl) ?_
  refine lv_if_lt (tgt := 16) hx hb dX8_at_1 (by decide) (fun c_1 => ?_) (fun c_1 => ?_)
  · refine lv_iconst (v := 0) hx hb dX8_at_16 (by decide) ?_
    refine vz_si (zAt f N i) (by unfold zAt; first | rw [if_pos c_1] | rw [if_neg c_1, if_pos c_7] | rw [if_neg c_1, if_neg c_7]) ?_
    exact W.iret hx hb hr (fun t ht hW => ⟨rfl, ht⟩) (fun q h => by cases h) dX8_at_17
  · refine lv_iload_n hx hb dX8_at_4 rfl (lv_at hl 1 rfl) ?_
    refine lv_aload_n hx hb dX8_at_5 rfl (lv_at hl 0 rfl) ?_
    refine va_alen (D := D) (cl := vwCl) (tys := zT cI cB cF) (v := nI N) hx hb hK.1 hQ 0 0 rfl rfl (rfl) dX8_at_6 ?_
    refine lv_icmp_ge (tgt := 16) hx hb dX8_at_7 (by decide) (fun c_7 => ?_) (fun c_7 => ?_)
    · refine lv_iconst (v := 0) hx hb dX8_at_16 (by decide) ?_
      refine vz_si (zAt f N i) (by unfold zAt; first | rw [if_pos c_1] | rw [if_neg c_1, if_pos c_7] | rw [if_neg c_1, if_neg c_7]) ?_
      exact W.iret hx hb hr (fun t ht hW => ⟨rfl, ht⟩) (fun q h => by cases h) dX8_at_17
    · refine lv_aload_n hx hb dX8_at_10 rfl (lv_at hl 0 rfl) ?_
      refine lv_iload_n hx hb dX8_at_11 rfl (lv_at hl 1 rfl) ?_
      refine va_iald (D := D) (cl := vwCl) (tys := zT cI cB cF) (f := f) hx hb hK.1 hQ 0 0 rfl rfl (z_in c_1 c_7 hN) dX8_at_12 ?_
      refine vz_si (f i.toNatClampNeg) (rfl) ?_
      refine lv_goto (tgt := 17) hx hb dX8_at_13 (by decide) ?_
      refine vz_si (zAt f N i) (by unfold zAt; first | rw [if_pos c_1] | rw [if_neg c_1, if_pos c_7] | rw [if_neg c_1, if_neg c_7]) ?_
      exact W.iret hx hb hr (fun t ht hW => ⟨rfl, ht⟩) (fun q h => by cases h) dX8_at_17
set_option maxRecDepth 100000 in
theorem hd_X8_put : yX8_put.cls ≠ "java/lang/invoke/MethodHandle" ∧ yX8_put.cls ≠ "java/lang/invoke/VarHandle" ∧ (parseMethodDescriptor yX8_put.desc).map (fun d => d.parameters.length) = some 3 := by decide +kernel
set_option maxHeartbeats 4000000 in
set_option maxRecDepth 100000 in
theorem c_X8_put (l : Launch) (D : va_G) (cI cB cF : ClassId) (sz : Nat) (r : Nat) (N : Nat) (f : Nat → Int32) (i : Int32) (v : Int32) (hN : N < 2147483648) : Met l yX8_put wsX8_put ({ frames := 0, cells := 0, slots := 0, locals := 0 } : Room) (PcW D cI cB cF [.ref r, .int i, .int v] sz [(r, .inl (cI, N, .inl f))] []) (Qw D (S := Unit) (fun xx => none) (fun xx => True) (fun xx => [(r, .inl (cI, N, .inl (zPut f N i v)))]) (va_A [(r, .inl (cI, N, .inl f))] sz)) 0 0 (va_A [(r, .inl (cI, N, .inl f))] sz) := by
  refine Met.ofW (cc := cX8_put) (maxL := 3) (ret := none) (by decide) rfl ?_
  intro p e s m args below meth c s₁ Bd hml hv
  rw [show (headSpec wsX8_put ({ frames := 0, cells := 0, slots := 0, locals := 0 } : Room)).room = ({ frames := 0, cells := 0, slots := 0, locals := 0 } : Room) from rfl]
  obtain ⟨rfl, hsz, hP, hK, hD0, hR⟩ := hv
  have hx := Bd.exec
  have hb := Bd.bytes
  have hr := Bd.returns
  have hts := atoms_spec (ws := wsX8_put) Bd.pre
  have hown : s.vm.findClass RX8 = some m.cls := findClass_of_methodNamed Bd.named
  have hlocks := Bd.notSynchronized
  have FX : CallFix p m c cX8_put 3 s _ wsX8_put RX8 := ⟨hx, hb, hml, hown, hts⟩
  subst hsz
  have hD := hD0.self (sz := s.heap.size)
  generalize hAe : va_A [(r, .inl (cI, N, .inl f))] s.heap.size = A at hD hR ⊢
  have hA : ∀ q : Nat, s.heap.size ≤ q → A q := fun q h => by rw [← hAe]; exact Or.inr h
  have hS : va_S A s.heap s.heap [] := va_S.rf
  have hP : va_P D vwCl [(r, .inl (cI, N, .inl f))] s.heap := hP
  have hQ := hP
  have hl := lv_entry ([.ref r, .int i, .int v]) (n := 3) (Nat.le_of_ble_eq_true rfl)
  rw [lg_entry_eq]
  generalize (lg_sl ([.ref r, .int i, .int v]) ++ List.replicate (3 - (lg_sl ([.ref r, .int i, .int v])).length) Slot.unset).toArray = ls at hl ⊢
  have hl : lv_has ls 3 [(0, .ref r), (1, .int i), (2, .int v)] := hl
  refine lv_iload_n hx hb dX8_put_0 rfl (lv_at hl 1 rfl) ?_
  refine lv_if_lt (tgt := 14) hx hb dX8_put_1 (by decide) (fun c_1 => ?_) (fun c_1 => ?_)
  · have hP : va_P D vwCl [(r, .inl (cI, N, .inl (zPut f N i v)))] s.heap := vz_arr (g := zPut f N i v) hP 0 rfl (fun j hj => by unfold zPut; first | rw [if_pos c_1] | rw [if_neg c_1, if_pos c_7] | rw [if_neg c_1, if_neg c_7])
    have hD : va_D A [(r, .inl (cI, N, .inl (zPut f N i v)))] := vz_arrD hD 0 rfl
    have hQ := hP
    have hP9 := hP.sub (ws' := [(r, .inl (cI, N, .inl (zPut f N i v)))]) [0] rfl
    have hD9 := hD.sub (ws' := [(r, .inl (cI, N, .inl (zPut f N i v)))]) [0] (by decide) rfl
    exact W.vret hx hb hr (fun t ht hW => ⟨⟨(), rfl, trivial, by rw [ht]; exact hP9, hD9⟩, hS.F ht⟩) hS.2.2 dX8_put_14
  · refine lv_iload_n hx hb dX8_put_4 rfl (lv_at hl 1 rfl) ?_
    refine lv_aload_n hx hb dX8_put_5 rfl (lv_at hl 0 rfl) ?_
    refine va_alen (D := D) (cl := vwCl) (tys := zT cI cB cF) (v := nI N) hx hb hK.1 hQ 0 0 rfl rfl (rfl) dX8_put_6 ?_
    refine lv_icmp_ge (tgt := 14) hx hb dX8_put_7 (by decide) (fun c_7 => ?_) (fun c_7 => ?_)
    · have hP : va_P D vwCl [(r, .inl (cI, N, .inl (zPut f N i v)))] s.heap := vz_arr (g := zPut f N i v) hP 0 rfl (fun j hj => by unfold zPut; first | rw [if_pos c_1] | rw [if_neg c_1, if_pos c_7] | rw [if_neg c_1, if_neg c_7])
      have hD : va_D A [(r, .inl (cI, N, .inl (zPut f N i v)))] := vz_arrD hD 0 rfl
      have hQ := hP
      have hP9 := hP.sub (ws' := [(r, .inl (cI, N, .inl (zPut f N i v)))]) [0] rfl
      have hD9 := hD.sub (ws' := [(r, .inl (cI, N, .inl (zPut f N i v)))]) [0] (by decide) rfl
      exact W.vret hx hb hr (fun t ht hW => ⟨⟨(), rfl, trivial, by rw [ht]; exact hP9, hD9⟩, hS.F ht⟩) hS.2.2 dX8_put_14
    · refine lv_aload_n hx hb dX8_put_10 rfl (lv_at hl 0 rfl) ?_
      refine lv_iload_n hx hb dX8_put_11 rfl (lv_at hl 1 rfl) ?_
      refine lv_iload_n hx hb dX8_put_12 rfl (lv_at hl 2 rfl) ?_
      refine va_iast (D := D) (cl := vwCl) (tys := zT cI cB cF) (f := f) hx hb hK.1 hP hD hS 0 0 rfl rfl (z_in c_1 c_7 hN) dX8_put_13 (fun H locs hP hD hS => ?_)
      have hP : va_P D vwCl [(r, .inl (cI, N, .inl (upd f i.toNatClampNeg v)))] H := hP
      have hD : va_D A [(r, .inl (cI, N, .inl (upd f i.toNatClampNeg v)))] := hD
      have hQ := hP
      have hP : va_P D vwCl [(r, .inl (cI, N, .inl (zPut f N i v)))] H := vz_arr (g := zPut f N i v) hP 0 rfl (fun j hj => by unfold zPut; first | rw [if_pos c_1] | rw [if_neg c_1, if_pos c_7] | rw [if_neg c_1, if_neg c_7])
      have hD : va_D A [(r, .inl (cI, N, .inl (zPut f N i v)))] := vz_arrD hD 0 rfl
      have hQ := hP
      have hP9 := hP.sub (ws' := [(r, .inl (cI, N, .inl (zPut f N i v)))]) [0] rfl
      have hD9 := hD.sub (ws' := [(r, .inl (cI, N, .inl (zPut f N i v)))]) [0] (by decide) rfl
      exact W.vret hx hb hr (fun t ht hW => ⟨⟨(), rfl, trivial, by rw [ht]; exact hP9, hD9⟩, hS.F ht⟩) hS.2.2 dX8_put_14
set_option maxRecDepth 100000 in
theorem hd_X8_copy : yX8_copy.cls ≠ "java/lang/invoke/MethodHandle" ∧ yX8_copy.cls ≠ "java/lang/invoke/VarHandle" ∧ (parseMethodDescriptor yX8_copy.desc).map (fun d => d.parameters.length) = some 2 := by decide +kernel
set_option maxHeartbeats 4000000 in
set_option maxRecDepth 100000 in
theorem c_X8_copy (l : Launch) (D : va_G) (cI cB cF : ClassId) (sz : Nat) (a : Nat) (b : Nat) (N : Nat) (f : Nat → Int32) (g : Nat → Int32) (hN : N < 2147483648) : Met l yX8_copy wsX8_copy ({ frames := 0, cells := 0, slots := 0, locals := 0 } : Room) (PcW D cI cB cF [.ref a, .ref b] sz [(b, .inl (cI, N, .inl g))] [(a, .inl (cI, N, .inl f))]) (Qw D (S := Unit) (fun xx => none) (fun xx => True) (fun xx => [(b, .inl (cI, N, .inl f))]) (va_A [(b, .inl (cI, N, .inl g))] sz)) 0 0 (va_A [(b, .inl (cI, N, .inl g))] sz) := by
  refine Met.ofW (cc := cX8_copy) (maxL := 3) (ret := none) (by decide) rfl ?_
  intro p e s m args below meth c s₁ Bd hml hv
  rw [show (headSpec wsX8_copy ({ frames := 0, cells := 0, slots := 0, locals := 0 } : Room)).room = ({ frames := 0, cells := 0, slots := 0, locals := 0 } : Room) from rfl]
  obtain ⟨rfl, hsz, hP, hK, hD0, hR⟩ := hv
  have hx := Bd.exec
  have hb := Bd.bytes
  have hr := Bd.returns
  have hts := atoms_spec (ws := wsX8_copy) Bd.pre
  have hown : s.vm.findClass RX8 = some m.cls := findClass_of_methodNamed Bd.named
  have hlocks := Bd.notSynchronized
  have FX : CallFix p m c cX8_copy 3 s _ wsX8_copy RX8 := ⟨hx, hb, hml, hown, hts⟩
  subst hsz
  have hD := hD0.self (sz := s.heap.size)
  generalize hAe : va_A [(b, .inl (cI, N, .inl g))] s.heap.size = A at hD hR ⊢
  have hA : ∀ q : Nat, s.heap.size ≤ q → A q := fun q h => by rw [← hAe]; exact Or.inr h
  have hS : va_S A s.heap s.heap [] := va_S.rf
  have hP : va_P D vwCl [(b, .inl (cI, N, .inl g))] s.heap := hP
  have hQ : va_P D vwCl ([(b, .inl (cI, N, .inl g))] ++ [(a, .inl (cI, N, .inl f))]) s.heap := va_P.app hP (hR.at hS).P
  have hl := lv_entry ([.ref a, .ref b]) (n := 3) (Nat.le_of_ble_eq_true rfl)
  rw [lg_entry_eq]
  generalize (lg_sl ([.ref a, .ref b]) ++ List.replicate (3 - (lg_sl ([.ref a, .ref b])).length) Slot.unset).toArray = ls at hl ⊢
  have hl : lv_has ls 3 [(0, .ref a), (1, .ref b)] := hl
  refine lv_iconst (v := 0) hx hb dX8_copy_0 (by decide) ?_
  refine lv_istore_n (lv' := [(2, .int 0), (0, .ref a), (1, .ref b)]) hx hb dX8_copy_1 rfl hl (by decide) rfl (fun ls hl => ?_)
  refine vz_loop (D := D) (A := A) (H0 := s.heap) (nL := 3) (σ := Nat × (Nat → Int32)) (fun xx => N - xx.1) (fun xx => (xx.1 ≤ N) ∧ (∀ j, j < xx.1 → xx.2 j = f j)) (fun xx => [(b, .inl (cI, N, .inl xx.2))]) (fun xx => [(0, .ref a), (1, .ref b), (2, .int (nI xx.1))]) (fun xx => []) ?_ (0, g) ⟨Nat.zero_le _, fun j h => absurd h (Nat.not_lt_zero _)⟩ (hP.sub [0] rfl) (hD.sub [0] (by decide) rfl) hS (lv_sub hl [1, 2, 0] rfl)
  rintro ⟨k, g1⟩ hI ih_2 H locs ls hP hD hS hl
  obtain ⟨hk, hg⟩ := hI
  have hk : k ≤ N := hk
  have hg : ∀ j, j < k → g1 j = f j := hg
  have hP : va_P D vwCl [(b, .inl (cI, N, .inl g1))] H := hP
  have hD : va_D A [(b, .inl (cI, N, .inl g1))] := hD
  have hQ : va_P D vwCl ([(b, .inl (cI, N, .inl g1))] ++ [(a, .inl (cI, N, .inl f))]) H := va_P.app hP (hR.at hS).P
  have hl : lv_has ls 3 [(0, .ref a), (1, .ref b), (2, .int (nI k))] := hl
  show W _ _ _ _ _ _ _ _ _ _ _ _ _ _ _ (F0 m 2 ls [])
  refine lv_iload_n hx hb dX8_copy_2 rfl (lv_at hl 2 rfl) ?_
  refine lv_aload_n hx hb dX8_copy_3 rfl (lv_at hl 0 rfl) ?_
  refine va_alen (D := D) (cl := vwCl) (tys := zT cI cB cF) (v := nI N) hx hb hK.1 hQ 1 0 rfl rfl (rfl) dX8_copy_4 ?_
  refine lv_icmp_ge (tgt := 26) hx hb dX8_copy_5 (by decide) (fun c_5 => ?_) (fun c_5 => ?_)
  · have hge_5 : N ≤ k := (nI_zle (a := N) (b := k) (by omega) (by omega)).mp c_5
    have hP : va_P D vwCl [(b, .inl (cI, N, .inl f))] H := vz_arr (g := f) hP 0 rfl (fun j hj => hg j (by omega))
    have hD : va_D A [(b, .inl (cI, N, .inl f))] := vz_arrD hD 0 rfl
    have hQ : va_P D vwCl ([(b, .inl (cI, N, .inl f))] ++ [(a, .inl (cI, N, .inl f))]) H := va_P.app hP (hR.at hS).P
    have hP9 := hP.sub (ws' := [(b, .inl (cI, N, .inl f))]) [0] rfl
    have hD9 := hD.sub (ws' := [(b, .inl (cI, N, .inl f))]) [0] (by decide) rfl
    exact W.vret hx hb hr (fun t ht hW => ⟨⟨(), rfl, trivial, by rw [ht]; exact hP9, hD9⟩, hS.F ht⟩) hS.2.2 dX8_copy_26
  · have hlt_5 : k < N := Nat.lt_of_not_le fun q => c_5 ((nI_zle (a := N) (b := k) (by omega) (by omega)).mpr q)
    refine lv_iload_n hx hb dX8_copy_8 rfl (lv_at hl 2 rfl) ?_
    refine lv_aload_n hx hb dX8_copy_9 rfl (lv_at hl 1 rfl) ?_
    refine va_alen (D := D) (cl := vwCl) (tys := zT cI cB cF) (v := nI N) hx hb hK.1 hQ 0 0 rfl rfl (rfl) dX8_copy_10 ?_
    refine lv_icmp_ge (tgt := 26) hx hb dX8_copy_11 (by decide) (fun c_11 => False.elim (by exact c_5 c_11)) (fun c_11 => ?_)
    refine lv_aload_n hx hb dX8_copy_14 rfl (lv_at hl 1 rfl) ?_
    refine lv_iload_n hx hb dX8_copy_15 rfl (lv_at hl 2 rfl) ?_
    refine lv_aload_n hx hb dX8_copy_16 rfl (lv_at hl 0 rfl) ?_
    refine lv_iload_n hx hb dX8_copy_17 rfl (lv_at hl 2 rfl) ?_
    refine va_iald (D := D) (cl := vwCl) (tys := zT cI cB cF) (f := f) hx hb hK.1 hQ 1 0 rfl rfl (vp_in_nI (by omega) (by omega)) dX8_copy_18 ?_
    refine vz_si (f k) (by rw [nI_clamp (n := k) (by omega)]) ?_
    refine va_iast (D := D) (cl := vwCl) (tys := zT cI cB cF) (f := g1) hx hb hK.1 hP hD hS 0 0 rfl rfl (vp_in_nI (by omega) (by omega)) dX8_copy_19 (fun H locs hP hD hS => ?_)
    rw [nI_clamp (n := k) (by omega)] at hP hD
    have hP : va_P D vwCl [(b, .inl (cI, N, .inl (upd g1 k (f k))))] H := hP
    have hD : va_D A [(b, .inl (cI, N, .inl (upd g1 k (f k))))] := hD
    have hQ : va_P D vwCl ([(b, .inl (cI, N, .inl (upd g1 k (f k))))] ++ [(a, .inl (cI, N, .inl f))]) H := va_P.app hP (hR.at hS).P
    refine lv_iinc (v := (nI (k + 1))) (lv' := [(2, .int (nI (k + 1))), (0, .ref a), (1, .ref b)]) hx hb dX8_copy_20 hl (k := 2) rfl ((nI_succ k).symm) (by decide) rfl (fun ls hl => ?_)
    refine lv_goto (tgt := 2) hx hb dX8_copy_23 (by decide) ?_
    exact ih_2 (k + 1, upd g1 k (f k)) (by (try dsimp only); omega) ⟨hlt_5, z_ext hg rfl⟩ H _ ls (hP.sub [0] rfl) (hD.sub [0] (by decide) rfl) hS (lv_sub hl [1, 2, 0] rfl)
set_option maxRecDepth 100000 in
theorem hd_X8_clear : yX8_clear.cls ≠ "java/lang/invoke/MethodHandle" ∧ yX8_clear.cls ≠ "java/lang/invoke/VarHandle" ∧ (parseMethodDescriptor yX8_clear.desc).map (fun d => d.parameters.length) = some 1 := by decide +kernel
set_option maxHeartbeats 4000000 in
set_option maxRecDepth 100000 in
theorem c_X8_clear (l : Launch) (D : va_G) (cI cB cF : ClassId) (sz : Nat) (a : Nat) (N : Nat) (g : Nat → Int32) (hN : N < 2147483648) : Met l yX8_clear wsX8_clear ({ frames := 0, cells := 0, slots := 0, locals := 0 } : Room) (PcW D cI cB cF [.ref a] sz [(a, .inl (cI, N, .inl g))] []) (Qw D (S := Unit) (fun xx => none) (fun xx => True) (fun xx => [(a, .inl (cI, N, .inl (fun _ => 0)))]) (va_A [(a, .inl (cI, N, .inl g))] sz)) 0 0 (va_A [(a, .inl (cI, N, .inl g))] sz) := by
  refine Met.ofW (cc := cX8_clear) (maxL := 2) (ret := none) (by decide) rfl ?_
  intro p e s m args below meth c s₁ Bd hml hv
  rw [show (headSpec wsX8_clear ({ frames := 0, cells := 0, slots := 0, locals := 0 } : Room)).room = ({ frames := 0, cells := 0, slots := 0, locals := 0 } : Room) from rfl]
  obtain ⟨rfl, hsz, hP, hK, hD0, hR⟩ := hv
  have hx := Bd.exec
  have hb := Bd.bytes
  have hr := Bd.returns
  have hts := atoms_spec (ws := wsX8_clear) Bd.pre
  have hown : s.vm.findClass RX8 = some m.cls := findClass_of_methodNamed Bd.named
  have hlocks := Bd.notSynchronized
  have FX : CallFix p m c cX8_clear 2 s _ wsX8_clear RX8 := ⟨hx, hb, hml, hown, hts⟩
  subst hsz
  have hD := hD0.self (sz := s.heap.size)
  generalize hAe : va_A [(a, .inl (cI, N, .inl g))] s.heap.size = A at hD hR ⊢
  have hA : ∀ q : Nat, s.heap.size ≤ q → A q := fun q h => by rw [← hAe]; exact Or.inr h
  have hS : va_S A s.heap s.heap [] := va_S.rf
  have hP : va_P D vwCl [(a, .inl (cI, N, .inl g))] s.heap := hP
  have hQ := hP
  have hl := lv_entry ([.ref a]) (n := 2) (Nat.le_of_ble_eq_true rfl)
  rw [lg_entry_eq]
  generalize (lg_sl ([.ref a]) ++ List.replicate (2 - (lg_sl ([.ref a])).length) Slot.unset).toArray = ls at hl ⊢
  have hl : lv_has ls 2 [(0, .ref a)] := hl
  refine lv_iconst (v := 0) hx hb dX8_clear_0 (by decide) ?_
  refine lv_istore_n (lv' := [(1, .int 0), (0, .ref a)]) hx hb dX8_clear_1 rfl hl (by decide) rfl (fun ls hl => ?_)
  refine vz_loop (D := D) (A := A) (H0 := s.heap) (nL := 2) (σ := Nat × (Nat → Int32)) (fun xx => N - xx.1) (fun xx => (xx.1 ≤ N) ∧ (∀ j, j < xx.1 → xx.2 j = 0)) (fun xx => [(a, .inl (cI, N, .inl xx.2))]) (fun xx => [(0, .ref a), (1, .int (nI xx.1))]) (fun xx => []) ?_ (0, g) ⟨Nat.zero_le _, fun j h => absurd h (Nat.not_lt_zero _)⟩ (hP.sub [0] rfl) (hD.sub [0] (by decide) rfl) hS (lv_sub hl [1, 0] rfl)
  rintro ⟨k, g1⟩ hI ih_2 H locs ls hP hD hS hl
  obtain ⟨hk, hg⟩ := hI
  have hk : k ≤ N := hk
  have hg : ∀ j, j < k → g1 j = 0 := hg
  have hP : va_P D vwCl [(a, .inl (cI, N, .inl g1))] H := hP
  have hD : va_D A [(a, .inl (cI, N, .inl g1))] := hD
  have hQ := hP
  have hl : lv_has ls 2 [(0, .ref a), (1, .int (nI k))] := hl
  show W _ _ _ _ _ _ _ _ _ _ _ _ _ _ _ (F0 m 2 ls [])
  refine lv_iload_n hx hb dX8_clear_2 rfl (lv_at hl 1 rfl) ?_
  refine lv_aload_n hx hb dX8_clear_3 rfl (lv_at hl 0 rfl) ?_
  refine va_alen (D := D) (cl := vwCl) (tys := zT cI cB cF) (v := nI N) hx hb hK.1 hQ 0 0 rfl rfl (rfl) dX8_clear_4 ?_
  refine lv_icmp_ge (tgt := 18) hx hb dX8_clear_5 (by decide) (fun c_5 => ?_) (fun c_5 => ?_)
  · have hge_5 : N ≤ k := (nI_zle (a := N) (b := k) (by omega) (by omega)).mp c_5
    have hP : va_P D vwCl [(a, .inl (cI, N, .inl (fun _ => 0)))] H := vz_arr (g := fun _ => 0) hP 0 rfl (fun j hj => hg j (by omega))
    have hD : va_D A [(a, .inl (cI, N, .inl (fun _ => 0)))] := vz_arrD hD 0 rfl
    have hQ := hP
    have hP9 := hP.sub (ws' := [(a, .inl (cI, N, .inl (fun _ => 0)))]) [0] rfl
    have hD9 := hD.sub (ws' := [(a, .inl (cI, N, .inl (fun _ => 0)))]) [0] (by decide) rfl
    exact W.vret hx hb hr (fun t ht hW => ⟨⟨(), rfl, trivial, by rw [ht]; exact hP9, hD9⟩, hS.F ht⟩) hS.2.2 dX8_clear_18
  · have hlt_5 : k < N := Nat.lt_of_not_le fun q => c_5 ((nI_zle (a := N) (b := k) (by omega) (by omega)).mpr q)
    refine lv_aload_n hx hb dX8_clear_8 rfl (lv_at hl 0 rfl) ?_
    refine lv_iload_n hx hb dX8_clear_9 rfl (lv_at hl 1 rfl) ?_
    refine lv_iconst (v := 0) hx hb dX8_clear_10 (by decide) ?_
    refine va_iast (D := D) (cl := vwCl) (tys := zT cI cB cF) (f := g1) hx hb hK.1 hP hD hS 0 0 rfl rfl (vp_in_nI (by omega) (by omega)) dX8_clear_11 (fun H locs hP hD hS => ?_)
    rw [nI_clamp (n := k) (by omega)] at hP hD
    have hP : va_P D vwCl [(a, .inl (cI, N, .inl (upd g1 k 0)))] H := hP
    have hD : va_D A [(a, .inl (cI, N, .inl (upd g1 k 0)))] := hD
    have hQ := hP
    refine lv_iinc (v := (nI (k + 1))) (lv' := [(1, .int (nI (k + 1))), (0, .ref a)]) hx hb dX8_clear_12 hl (k := 1) rfl ((nI_succ k).symm) (by decide) rfl (fun ls hl => ?_)
    refine lv_goto (tgt := 2) hx hb dX8_clear_15 (by decide) ?_
    exact ih_2 (k + 1, upd g1 k 0) (by (try dsimp only); omega) ⟨hlt_5, z_ext (F := fun _ => 0) hg rfl⟩ H _ ls (hP.sub [0] rfl) (hD.sub [0] (by decide) rfl) hS (lv_sub hl [1, 0] rfl)
set_option maxRecDepth 100000 in
theorem hd_X8_sum : yX8_sum.cls ≠ "java/lang/invoke/MethodHandle" ∧ yX8_sum.cls ≠ "java/lang/invoke/VarHandle" ∧ (parseMethodDescriptor yX8_sum.desc).map (fun d => d.parameters.length) = some 1 := by decide +kernel
set_option maxHeartbeats 4000000 in
set_option maxRecDepth 100000 in
theorem c_X8_sum (l : Launch) (D : va_G) (cI cB cF : ClassId) (a : Nat) (N : Nat) (f : Nat → Int32) (hN : N < 2147483648) : Met l yX8_sum wsX8_sum ({ frames := 0, cells := 0, slots := 0, locals := 0 } : Room) (PcP D cI cB cF [.ref a] [(a, .inl (cI, N, .inl f))]) (QcV (.int (zSum f N))) 0 0 (fun _ => False) := by
  refine Met.ofW (cc := cX8_sum) (maxL := 3) (ret := (some .int)) (by decide) rfl ?_
  intro p e s m args below meth c s₁ Bd hml hv
  rw [show (headSpec wsX8_sum ({ frames := 0, cells := 0, slots := 0, locals := 0 } : Room)).room = ({ frames := 0, cells := 0, slots := 0, locals := 0 } : Room) from rfl]
  obtain ⟨rfl, hQ, hK⟩ := hv
  have hx := Bd.exec
  have hb := Bd.bytes
  have hr := Bd.returns
  have hts := atoms_spec (ws := wsX8_sum) Bd.pre
  have hown : s.vm.findClass RX8 = some m.cls := findClass_of_methodNamed Bd.named
  have hlocks := Bd.notSynchronized
  have FX : CallFix p m c cX8_sum 3 s _ wsX8_sum RX8 := ⟨hx, hb, hml, hown, hts⟩
  have hQ : va_P D vwCl [(a, .inl (cI, N, .inl f))] s.heap := hQ
  have hl := lv_entry ([.ref a]) (n := 3) (Nat.le_of_ble_eq_true rfl)
  rw [lg_entry_eq]
  generalize (lg_sl ([.ref a]) ++ List.replicate (3 - (lg_sl ([.ref a])).length) Slot.unset).toArray = ls at hl ⊢
  have hl : lv_has ls 3 [(0, .ref a)] := hl
  refine lv_iconst (v := 0) hx hb dX8_sum_0 (by decide) ?_
  refine lv_istore_n (lv' := [(1, .int 0), (0, .ref a)]) hx hb dX8_sum_1 rfl hl (by decide) rfl (fun ls hl => ?_)
  refine lv_iconst (v := 0) hx hb dX8_sum_2 (by decide) ?_
  refine lv_istore_n (lv' := [(2, .int 0), (1, .int 0), (0, .ref a)]) hx hb dX8_sum_3 rfl hl (by decide) rfl (fun ls hl => ?_)
  refine vz_loopP (nL := 3) (σ := Nat) (fun xx => N - xx) (fun xx => (xx ≤ N)) (fun xx => [(0, .ref a), (1, .int (zSum f xx)), (2, .int (nI xx))]) (fun xx => []) ?_ 0 (Nat.zero_le _) (lv_sub hl [2, 1, 0] rfl)
  rintro k hI ih_4 ls hl
  have hk := hI
  have hk : k ≤ N := hk
  have hl : lv_has ls 3 [(0, .ref a), (1, .int (zSum f k)), (2, .int (nI k))] := hl
  show W _ _ _ _ _ _ _ _ _ _ _ _ _ _ _ (F0 m 4 ls [])
  refine lv_iload_n hx hb dX8_sum_4 rfl (lv_at hl 2 rfl) ?_
  refine lv_aload_n hx hb dX8_sum_5 rfl (lv_at hl 0 rfl) ?_
  refine va_alen (D := D) (cl := vwCl) (tys := zT cI cB cF) (v := nI N) hx hb hK.1 hQ 0 0 rfl rfl (rfl) dX8_sum_6 ?_
  refine lv_icmp_ge (tgt := 22) hx hb dX8_sum_7 (by decide) (fun c_7 => ?_) (fun c_7 => ?_)
  · have hge_7 : N ≤ k := (nI_zle (a := N) (b := k) (by omega) (by omega)).mp c_7
    refine lv_iload_n hx hb dX8_sum_22 rfl (lv_at hl 1 rfl) ?_
    refine vz_si (zSum f N) (by rw [show k = N by omega]) ?_
    exact W.iret hx hb hr (fun t ht hW => ⟨rfl, ht⟩) (fun q h => by cases h) dX8_sum_23
  · have hlt_7 : k < N := Nat.lt_of_not_le fun q => c_7 ((nI_zle (a := N) (b := k) (by omega) (by omega)).mpr q)
    refine lv_iload_n hx hb dX8_sum_10 rfl (lv_at hl 1 rfl) ?_
    refine lv_aload_n hx hb dX8_sum_11 rfl (lv_at hl 0 rfl) ?_
    refine lv_iload_n hx hb dX8_sum_12 rfl (lv_at hl 2 rfl) ?_
    refine va_iald (D := D) (cl := vwCl) (tys := zT cI cB cF) (f := f) hx hb hK.1 hQ 0 0 rfl rfl (vp_in_nI (by omega) (by omega)) dX8_sum_13 ?_
    refine vz_si (f k) (by rw [nI_clamp (n := k) (by omega)]) ?_
    refine lv_iadd hx hb dX8_sum_14 ?_
    refine vz_si (zSum f (k + 1)) (rfl) ?_
    refine lv_istore_n (lv' := [(1, .int (zSum f (k + 1))), (0, .ref a), (2, .int (nI k))]) hx hb dX8_sum_15 rfl hl (by decide) rfl (fun ls hl => ?_)
    refine lv_iinc (v := (nI (k + 1))) (lv' := [(2, .int (nI (k + 1))), (1, .int (zSum f (k + 1))), (0, .ref a)]) hx hb dX8_sum_16 hl (k := 2) rfl ((nI_succ k).symm) (by decide) rfl (fun ls hl => ?_)
    refine lv_goto (tgt := 4) hx hb dX8_sum_19 (by decide) ?_
    exact ih_4 (k + 1) (by (try dsimp only); omega) (hlt_7) ls (lv_sub hl [2, 1, 0] rfl)
set_option maxRecDepth 100000 in
theorem hd_X8_fatherAt : yX8_fatherAt.cls ≠ "java/lang/invoke/MethodHandle" ∧ yX8_fatherAt.cls ≠ "java/lang/invoke/VarHandle" ∧ (parseMethodDescriptor yX8_fatherAt.desc).map (fun d => d.parameters.length) = some 2 := by decide +kernel
set_option maxHeartbeats 4000000 in
set_option maxRecDepth 100000 in
theorem c_X8_fatherAt (l : Launch) (D : va_G) (cI cB cF : ClassId) (r : Nat) (N : Nat) (g : Nat → Option Nat) (i : Int32) (hN : N < 2147483648) : Met l yX8_fatherAt wsX8_fatherAt ({ frames := 0, cells := 0, slots := 0, locals := 0 } : Room) (PcP D cI cB cF [.ref r, .int i] [(r, .inl (cF, N, .inr (.inr (.inr (.inr g)))))]) (QcV (va_rf (zFa g N i))) 0 0 (fun _ => False) := by
  refine Met.ofW (cc := cX8_fatherAt) (maxL := 2) (ret := (some (.object "RotaFathers$Father"))) (by decide) rfl ?_
  intro p e s m args below meth c s₁ Bd hml hv
  rw [show (headSpec wsX8_fatherAt ({ frames := 0, cells := 0, slots := 0, locals := 0 } : Room)).room = ({ frames := 0, cells := 0, slots := 0, locals := 0 } : Room) from rfl]
  obtain ⟨rfl, hQ, hK⟩ := hv
  have hx := Bd.exec
  have hb := Bd.bytes
  have hr := Bd.returns
  have hts := atoms_spec (ws := wsX8_fatherAt) Bd.pre
  have hown : s.vm.findClass RX8 = some m.cls := findClass_of_methodNamed Bd.named
  have hlocks := Bd.notSynchronized
  have FX : CallFix p m c cX8_fatherAt 2 s _ wsX8_fatherAt RX8 := ⟨hx, hb, hml, hown, hts⟩
  have hQ : va_P D vwCl [(r, .inl (cF, N, .inr (.inr (.inr (.inr g)))))] s.heap := hQ
  have hl := lv_entry ([.ref r, .int i]) (n := 2) (Nat.le_of_ble_eq_true rfl)
  rw [lg_entry_eq]
  generalize (lg_sl ([.ref r, .int i]) ++ List.replicate (2 - (lg_sl ([.ref r, .int i])).length) Slot.unset).toArray = ls at hl ⊢
  have hl : lv_has ls 2 [(0, .ref r), (1, .int i)] := hl
  refine lv_iload_n hx hb dX8_fatherAt_0 rfl (lv_at hl 1 rfl) ?_
  refine lv_if_lt (tgt := 16) hx hb dX8_fatherAt_1 (by decide) (fun c_1 => ?_) (fun c_1 => ?_)
  · refine lv_null hx hb dX8_fatherAt_16 ?_
    refine vz_sv (va_rf (zFa g N i)) (by unfold zFa; first | (rw [if_pos c_1]; rfl) | (rw [if_neg c_1, if_pos c_7]; rfl) | rw [if_neg c_1, if_neg c_7]) ?_
    exact W.aret hx hb hr (Or.inl ⟨_, rfl⟩) (vz_rv _) (fun t ht hW => ⟨rfl, ht⟩) (fun q h => by cases h) dX8_fatherAt_17
  · refine lv_iload_n hx hb dX8_fatherAt_4 rfl (lv_at hl 1 rfl) ?_
    refine lv_aload_n hx hb dX8_fatherAt_5 rfl (lv_at hl 0 rfl) ?_
    refine va_alen (D := D) (cl := vwCl) (tys := zT cI cB cF) (v := nI N) hx hb hK.1 hQ 0 2 rfl rfl (rfl) dX8_fatherAt_6 ?_
    refine lv_icmp_ge (tgt := 16) hx hb dX8_fatherAt_7 (by decide) (fun c_7 => ?_) (fun c_7 => ?_)
    · refine lv_null hx hb dX8_fatherAt_16 ?_
      refine vz_sv (va_rf (zFa g N i)) (by unfold zFa; first | (rw [if_pos c_1]; rfl) | (rw [if_neg c_1, if_pos c_7]; rfl) | rw [if_neg c_1, if_neg c_7]) ?_
      exact W.aret hx hb hr (Or.inl ⟨_, rfl⟩) (vz_rv _) (fun t ht hW => ⟨rfl, ht⟩) (fun q h => by cases h) dX8_fatherAt_17
    · refine lv_aload_n hx hb dX8_fatherAt_10 rfl (lv_at hl 0 rfl) ?_
      refine lv_iload_n hx hb dX8_fatherAt_11 rfl (lv_at hl 1 rfl) ?_
      refine va_aldq (D := D) (cl := vwCl) (tys := zT cI cB cF) (f := g) hx hb hK.1 hQ 0 2 rfl rfl (z_in c_1 c_7 hN) dX8_fatherAt_12 ?_
      refine vz_sv (va_rf (g i.toNatClampNeg)) (rfl) ?_
      refine lv_goto (tgt := 17) hx hb dX8_fatherAt_13 (by decide) ?_
      refine vz_sv (va_rf (zFa g N i)) (by unfold zFa; first | (rw [if_pos c_1]; rfl) | (rw [if_neg c_1, if_pos c_7]; rfl) | rw [if_neg c_1, if_neg c_7]) ?_
      exact W.aret hx hb hr (Or.inl ⟨_, rfl⟩) (vz_rv _) (fun t ht hW => ⟨rfl, ht⟩) (fun q h => by cases h) dX8_fatherAt_17
set_option maxRecDepth 100000 in
theorem hd_X8_knows : yX8_knows.cls ≠ "java/lang/invoke/MethodHandle" ∧ yX8_knows.cls ≠ "java/lang/invoke/VarHandle" ∧ (parseMethodDescriptor yX8_knows.desc).map (fun d => d.parameters.length) = some 2 := by decide +kernel
set_option maxHeartbeats 4000000 in
set_option maxRecDepth 100000 in
theorem c_X8_knows (l : Launch) (D : va_G) (cI cB cF : ClassId) (kn : Int32) (fl : Int32)  : Met l yX8_knows wsX8_knows ({ frames := 0, cells := 0, slots := 0, locals := 0 } : Room) (PcP D cI cB cF [.int kn, .int fl] []) (QcV (.int (zb (zKn kn fl)))) 0 0 (fun _ => False) := by
  refine Met.ofW (cc := cX8_knows) (maxL := 2) (ret := (some .boolean)) (by decide) rfl ?_
  intro p e s m args below meth c s₁ Bd hml hv
  rw [show (headSpec wsX8_knows ({ frames := 0, cells := 0, slots := 0, locals := 0 } : Room)).room = ({ frames := 0, cells := 0, slots := 0, locals := 0 } : Room) from rfl]
  obtain ⟨rfl, hQ, hK⟩ := hv
  have hx := Bd.exec
  have hb := Bd.bytes
  have hr := Bd.returns
  have hts := atoms_spec (ws := wsX8_knows) Bd.pre
  have hown : s.vm.findClass RX8 = some m.cls := findClass_of_methodNamed Bd.named
  have hlocks := Bd.notSynchronized
  have FX : CallFix p m c cX8_knows 2 s _ wsX8_knows RX8 := ⟨hx, hb, hml, hown, hts⟩
  have hQ : va_P D vwCl [] s.heap := hQ
  have hl := lv_entry ([.int kn, .int fl]) (n := 2) (Nat.le_of_ble_eq_true rfl)
  rw [lg_entry_eq]
  generalize (lg_sl ([.int kn, .int fl]) ++ List.replicate (2 - (lg_sl ([.int kn, .int fl])).length) Slot.unset).toArray = ls at hl ⊢
  have hl : lv_has ls 2 [(0, .int kn), (1, .int fl)] := hl
  refine lv_iload_n hx hb dX8_knows_0 rfl (lv_at hl 0 rfl) ?_
  refine lv_iconst (v := 1) hx hb dX8_knows_1 (by decide) ?_
  refine lv_iload_n hx hb dX8_knows_2 rfl (lv_at hl 1 rfl) ?_
  refine lv_ishl hx hb dX8_knows_3 ?_
  refine lv_iand hx hb dX8_knows_4 ?_
  refine lv_if_eq (tgt := 12) hx hb dX8_knows_5 (by decide) (fun c_5 => ?_) (fun c_5 => ?_)
  · refine lv_iconst (v := 0) hx hb dX8_knows_12 (by decide) ?_
    refine vz_si (zb (zKn kn fl)) (by unfold zKn; first | (rw [decide_eq_true c_5]; rfl) | (rw [decide_eq_false c_5]; rfl)) ?_
    exact W.zret hx hb hr (zb_nar _) (fun t ht hW => ⟨rfl, ht⟩) (fun q h => by cases h) dX8_knows_13
  · refine lv_iconst (v := 1) hx hb dX8_knows_8 (by decide) ?_
    refine lv_goto (tgt := 13) hx hb dX8_knows_9 (by decide) ?_
    refine vz_si (zb (zKn kn fl)) (by unfold zKn; first | (rw [decide_eq_true c_5]; rfl) | (rw [decide_eq_false c_5]; rfl)) ?_
    exact W.zret hx hb hr (zb_nar _) (fun t ht hW => ⟨rfl, ht⟩) (fun q h => by cases h) dX8_knows_13
set_option maxRecDepth 100000 in
theorem hd_X8_isFit : yX8_isFit.cls ≠ "java/lang/invoke/MethodHandle" ∧ yX8_isFit.cls ≠ "java/lang/invoke/VarHandle" ∧ (parseMethodDescriptor yX8_isFit.desc).map (fun d => d.parameters.length) = some 1 := by decide +kernel
set_option maxHeartbeats 4000000 in
set_option maxRecDepth 100000 in
theorem c_X8_isFit (l : Launch) (D : va_G) (cI cB cF : ClassId) (i : Int32)  : Met l yX8_isFit wsX8_isFit ({ frames := 0, cells := 0, slots := 0, locals := 0 } : Room) (PcP D cI cB cF [.int i] []) (QcV (.int (zb (zIn i 0 9)))) 0 0 (fun _ => False) := by
  refine Met.ofW (cc := cX8_isFit) (maxL := 1) (ret := (some .boolean)) (by decide) rfl ?_
  intro p e s m args below meth c s₁ Bd hml hv
  rw [show (headSpec wsX8_isFit ({ frames := 0, cells := 0, slots := 0, locals := 0 } : Room)).room = ({ frames := 0, cells := 0, slots := 0, locals := 0 } : Room) from rfl]
  obtain ⟨rfl, hQ, hK⟩ := hv
  have hx := Bd.exec
  have hb := Bd.bytes
  have hr := Bd.returns
  have hts := atoms_spec (ws := wsX8_isFit) Bd.pre
  have hown : s.vm.findClass RX8 = some m.cls := findClass_of_methodNamed Bd.named
  have hlocks := Bd.notSynchronized
  have FX : CallFix p m c cX8_isFit 1 s _ wsX8_isFit RX8 := ⟨hx, hb, hml, hown, hts⟩
  have hQ : va_P D vwCl [] s.heap := hQ
  have hl := lv_entry ([.int i]) (n := 1) (Nat.le_of_ble_eq_true rfl)
  rw [lg_entry_eq]
  generalize (lg_sl ([.int i]) ++ List.replicate (1 - (lg_sl ([.int i])).length) Slot.unset).toArray = ls at hl ⊢
  have hl : lv_has ls 1 [(0, .int i)] := hl
  refine lv_iload_n hx hb dX8_isFit_0 rfl (lv_at hl 0 rfl) ?_
  refine lv_if_lt (tgt := 14) hx hb dX8_isFit_1 (by decide) (fun c_1 => ?_) (fun c_1 => ?_)
  · refine lv_iconst (v := 0) hx hb dX8_isFit_14 (by decide) ?_
    refine vz_si (zb (zIn i 0 9)) (by unfold zIn; first | (rw [decide_eq_true c_1]; rfl) | (rw [decide_eq_false c_1, decide_eq_true c_7]; rfl) | (rw [decide_eq_false c_1, decide_eq_false c_7]; rfl)) ?_
    exact W.zret hx hb hr (zb_nar _) (fun t ht hW => ⟨rfl, ht⟩) (fun q h => by cases h) dX8_isFit_15
  · refine lv_iload_n hx hb dX8_isFit_4 rfl (lv_at hl 0 rfl) ?_
    refine lv_bipush (v := 9) hx hb dX8_isFit_5 (by decide) ?_
    refine lv_icmp_gt (tgt := 14) hx hb dX8_isFit_7 (by decide) (fun c_7 => ?_) (fun c_7 => ?_)
    · refine lv_iconst (v := 0) hx hb dX8_isFit_14 (by decide) ?_
      refine vz_si (zb (zIn i 0 9)) (by unfold zIn; first | (rw [decide_eq_true c_1]; rfl) | (rw [decide_eq_false c_1, decide_eq_true c_7]; rfl) | (rw [decide_eq_false c_1, decide_eq_false c_7]; rfl)) ?_
      exact W.zret hx hb hr (zb_nar _) (fun t ht hW => ⟨rfl, ht⟩) (fun q h => by cases h) dX8_isFit_15
    · refine lv_iconst (v := 1) hx hb dX8_isFit_10 (by decide) ?_
      refine lv_goto (tgt := 15) hx hb dX8_isFit_11 (by decide) ?_
      refine vz_si (zb (zIn i 0 9)) (by unfold zIn; first | (rw [decide_eq_true c_1]; rfl) | (rw [decide_eq_false c_1, decide_eq_true c_7]; rfl) | (rw [decide_eq_false c_1, decide_eq_false c_7]; rfl)) ?_
      exact W.zret hx hb hr (zb_nar _) (fun t ht hW => ⟨rfl, ht⟩) (fun q h => by cases h) dX8_isFit_15
set_option maxRecDepth 100000 in
theorem hw_X8_nextSeed_1 : (.constantLong RX8 278 (1103515245) : Cond) ∈ wsX8_nextSeed := List.mem_of_getElem? (i := 1) rfl
set_option maxRecDepth 100000 in
theorem hw_X8_nextSeed_2 : (.constantLong RX8 280 (12345) : Cond) ∈ wsX8_nextSeed := List.mem_of_getElem? (i := 2) rfl
set_option maxRecDepth 100000 in
theorem hw_X8_nextSeed_3 : (.constantLong RX8 282 (2147483647) : Cond) ∈ wsX8_nextSeed := List.mem_of_getElem? (i := 3) rfl
set_option maxRecDepth 100000 in
theorem hd_X8_nextSeed : yX8_nextSeed.cls ≠ "java/lang/invoke/MethodHandle" ∧ yX8_nextSeed.cls ≠ "java/lang/invoke/VarHandle" ∧ (parseMethodDescriptor yX8_nextSeed.desc).map (fun d => d.parameters.length) = some 1 := by decide +kernel
set_option maxHeartbeats 4000000 in
set_option maxRecDepth 100000 in
theorem c_X8_nextSeed (l : Launch) (D : va_G) (cI cB cF : ClassId) (k : Nat) (hk : k < 2147483648) : Met l yX8_nextSeed wsX8_nextSeed ({ frames := 0, cells := 0, slots := 0, locals := 0 } : Room) (PcP D cI cB cF [.int (nI k)] []) (QcV (.int (nI (zNx k)))) 0 0 (fun _ => False) := by
  refine Met.ofW (cc := cX8_nextSeed) (maxL := 1) (ret := (some .int)) (by decide) rfl ?_
  intro p e s m args below meth c s₁ Bd hml hv
  rw [show (headSpec wsX8_nextSeed ({ frames := 0, cells := 0, slots := 0, locals := 0 } : Room)).room = ({ frames := 0, cells := 0, slots := 0, locals := 0 } : Room) from rfl]
  obtain ⟨rfl, hQ, hK⟩ := hv
  have hx := Bd.exec
  have hb := Bd.bytes
  have hr := Bd.returns
  have hts := atoms_spec (ws := wsX8_nextSeed) Bd.pre
  have hown : s.vm.findClass RX8 = some m.cls := findClass_of_methodNamed Bd.named
  have hlocks := Bd.notSynchronized
  have FX : CallFix p m c cX8_nextSeed 1 s _ wsX8_nextSeed RX8 := ⟨hx, hb, hml, hown, hts⟩
  have hQ : va_P D vwCl [] s.heap := hQ
  have hl := lv_entry ([.int (nI k)]) (n := 1) (Nat.le_of_ble_eq_true rfl)
  rw [lg_entry_eq]
  generalize (lg_sl ([.int (nI k)]) ++ List.replicate (1 - (lg_sl ([.int (nI k)])).length) Slot.unset).toArray = ls at hl ⊢
  have hl : lv_has ls 1 [(0, .int (nI k))] := hl
  refine lv_ldc2 (v := 1103515245) hx hb hown (hts _ hw_X8_nextSeed_1) dX8_nextSeed_0 ?_
  refine lv_iload_n hx hb dX8_nextSeed_3 rfl (lv_at hl 0 rfl) ?_
  refine lv_i2l (v := (nI k).toInt64) hx hb dX8_nextSeed_4 rfl ?_
  refine lv_lmul hx hb dX8_nextSeed_5 ?_
  refine lv_ldc2 (v := 12345) hx hb hown (hts _ hw_X8_nextSeed_2) dX8_nextSeed_6 ?_
  refine lv_ladd hx hb dX8_nextSeed_9 ?_
  refine lv_ldc2 (v := 2147483647) hx hb hown (hts _ hw_X8_nextSeed_3) dX8_nextSeed_10 ?_
  refine lv_land hx hb dX8_nextSeed_13 ?_
  refine lv_l2i (v := (((1103515245 * ((nI k).toInt64)) + 12345) &&& 2147483647).toInt32) hx hb dX8_nextSeed_14 rfl ?_
  refine vz_si (nI (zNx k)) (z_next hk) ?_
  exact W.iret hx hb hr (fun t ht hW => ⟨rfl, ht⟩) (fun q h => by cases h) dX8_nextSeed_15
