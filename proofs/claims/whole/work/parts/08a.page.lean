set_option maxRecDepth 100000 in
theorem iw_X4_add_X4 : ∀ w ∈ u_ws RX4 TX4 2, w ∈ wsX4_add := fun w h => List.mem_cons_of_mem _ (List.mem_append_right _ h)
set_option maxRecDepth 100000 in
theorem hw_X4_add_1 : (.fieldLink RX4 15 "RotaFathers$Page" "length" "I" : Cond) ∈ wsX4_add := List.mem_of_getElem? (i := 1) rfl
set_option maxRecDepth 100000 in
theorem hw_X4_add_2 : (.fieldLink RX4 9 "RotaFathers$Page" "codes" "[I" : Cond) ∈ wsX4_add := List.mem_of_getElem? (i := 2) rfl
set_option maxRecDepth 100000 in
theorem hw_X4_add_4 : (.initialized RX8 : Cond) ∈ wsX4_add := List.mem_of_getElem? (i := 4) rfl
set_option maxRecDepth 100000 in
theorem hw_X4_add_3 : (.static yX8_put : Cond) ∈ wsX4_add := List.mem_of_getElem? (i := 3) rfl
set_option maxRecDepth 100000 in
theorem hd_X4_add : yX4_add.cls ≠ "java/lang/invoke/MethodHandle" ∧ yX4_add.cls ≠ "java/lang/invoke/VarHandle" ∧ (parseMethodDescriptor yX4_add.desc).map (fun d => d.parameters.length) = some 1 := by decide +kernel
set_option maxHeartbeats 4000000 in
set_option maxRecDepth 100000 in
theorem c_X4_add (l : Launch) (D : va_G) (cI cB cF : ClassId) (sz : Nat) (pg0 : Nat) (co : Nat) (ln : Nat) (pg : Nat → Int32) (cd : Int32) (hln : ln < 18) : Met l yX4_add wsX4_add ({ frames := 1, cells := 0, slots := 0, locals := 22 } : Room) (PcW D cI cB cF [.ref pg0, .int cd] sz [(pg0, .inr (4, [.ref co, .int (nI ln)])), (co, .inl (cI, 18, .inl pg))] []) (Qw D (S := Unit) (fun xx => none) (fun xx => True) (fun xx => [(pg0, .inr (4, [.ref co, .int (nI (ln + 1))])), (co, .inl (cI, 18, .inl (upd pg ln cd)))]) (va_A [(pg0, .inr (4, [.ref co, .int (nI ln)])), (co, .inl (cI, 18, .inl pg))] sz)) 0 0 (va_A [(pg0, .inr (4, [.ref co, .int (nI ln)])), (co, .inl (cI, 18, .inl pg))] sz) := by
  refine Met.ofW (cc := cX4_add) (maxL := 2) (ret := none) (by decide) rfl ?_
  intro p e s m args below meth c s₁ Bd hml hv
  rw [show (headSpec wsX4_add ({ frames := 1, cells := 0, slots := 0, locals := 22 } : Room)).room = ({ frames := 1, cells := 0, slots := 0, locals := 22 } : Room) from rfl]
  obtain ⟨rfl, hsz, hP, hK, hD0, hR⟩ := hv
  have hx := Bd.exec
  have hb := Bd.bytes
  have hr := Bd.returns
  have hts := atoms_spec (ws := wsX4_add) Bd.pre
  have hown : s.vm.findClass RX4 = some m.cls := findClass_of_methodNamed Bd.named
  have hlocks := Bd.notSynchronized
  have FX : CallFix p m c cX4_add 2 s _ wsX4_add RX4 := ⟨hx, hb, hml, hown, hts⟩
  subst hsz
  have hD := hD0.self (sz := s.heap.size)
  generalize hAe : va_A [(pg0, .inr (4, [.ref co, .int (nI ln)])), (co, .inl (cI, 18, .inl pg))] s.heap.size = A at hD hR ⊢
  have hA : ∀ q : Nat, s.heap.size ≤ q → A q := fun q h => by rw [← hAe]; exact Or.inr h
  have hS : va_S A s.heap s.heap [] := va_S.rf
  have hP : va_P D vwCl [(pg0, .inr (4, [.ref co, .int (nI ln)])), (co, .inl (cI, 18, .inl pg))] s.heap := hP
  have hQ := hP
  have hl := lv_entry ([.ref pg0, .int cd]) (n := 2) (Nat.le_of_ble_eq_true rfl)
  rw [lg_entry_eq]
  generalize (lg_sl ([.ref pg0, .int cd]) ++ List.replicate (2 - (lg_sl ([.ref pg0, .int cd])).length) Slot.unset).toArray = ls at hl ⊢
  have hl : lv_has ls 2 [(0, .ref pg0), (1, .int cd)] := hl
  refine lv_aload_n hx hb dX4_add_0 rfl (lv_at hl 0 rfl) ?_
  refine va_get (D := D) (cl := vwCl) (tys := zT cI cB cF) (ci := 4) (v := .int (nI ln)) (C := RX4) (T := TX4) (N := 2) hx hb hts iw_X4_add_X4 hown hK.1 hQ 0 rfl rfl 1 (by decide) (hts _ hw_X4_add_1) (fun _ h9 => h9) rfl dX4_add_1 ?_
  refine lv_aload_n hx hb dX4_add_4 rfl (lv_at hl 0 rfl) ?_
  refine va_get (D := D) (cl := vwCl) (tys := zT cI cB cF) (ci := 4) (v := .ref co) (C := RX4) (T := TX4) (N := 2) hx hb hts iw_X4_add_X4 hown hK.1 hQ 0 rfl rfl 0 (by decide) (hts _ hw_X4_add_2) (fun _ h9 => h9) rfl dX4_add_5 ?_
  refine va_alen (D := D) (cl := vwCl) (tys := zT cI cB cF) (v := 18) hx hb hK.1 hQ 1 0 rfl rfl (rfl) dX4_add_8 ?_
  refine lv_icmp_ge (tgt := 34) hx hb dX4_add_9 (by decide) (fun c_9 => False.elim (by exact absurd c_9 (nI_ge (by omega) (by decide)))) (fun c_9 => ?_)
  refine lv_aload_n hx hb dX4_add_12 rfl (lv_at hl 0 rfl) ?_
  refine va_get (D := D) (cl := vwCl) (tys := zT cI cB cF) (ci := 4) (v := .ref co) (C := RX4) (T := TX4) (N := 2) hx hb hts iw_X4_add_X4 hown hK.1 hQ 0 rfl rfl 0 (by decide) (hts _ hw_X4_add_2) (fun _ h9 => h9) rfl dX4_add_13 ?_
  refine lv_aload_n hx hb dX4_add_16 rfl (lv_at hl 0 rfl) ?_
  refine va_get (D := D) (cl := vwCl) (tys := zT cI cB cF) (ci := 4) (v := .int (nI ln)) (C := RX4) (T := TX4) (N := 2) hx hb hts iw_X4_add_X4 hown hK.1 hQ 0 rfl rfl 1 (by decide) (hts _ hw_X4_add_1) (fun _ h9 => h9) rfl dX4_add_17 ?_
  refine lv_iload_n hx hb dX4_add_20 rfl (lv_at hl 1 rfl) ?_
  have hFc := va_free (wc := [(co, .inl (cI, 18, .inl pg))]) hD hS hA [1] rfl
  refine vz_cw [(pg0, .inr (4, [.ref co, .int (nI ln)]))] [1] [0] (va_runSN (As := [.ref co, .int (nI ln), .int cd]) (rest := []) FX (c_X8_put l D cI cB cF s.heap.size co 18 pg (nI ln) cd (by decide)) ⟨va_cnB 3 hts gX4_add_X8_put_n19 rfl rfl rfl (zn_X4_19 hK.2) (hts _ hw_X4_add_4) hd_X8_put ⟨Nat.le_of_ble_eq_true rfl, Nat.le_of_ble_eq_true rfl⟩, (hts _ hw_X4_add_3), trivial⟩ (preW_S (hP.sub (ws' := [(co, .inl (cI, 18, .inl pg))]) [1] rfl) (hD.sub (ws' := [(co, .inl (cI, 18, .inl pg))]) [1] (by decide) rfl) hK (show vz_R D [] _ _ from vz_R.nil)) rfl rfl hl.1 rfl (lv_room (Nat.le_of_ble_eq_true rfl)) dX4_add_21 ⟨Nat.le_of_ble_eq_true rfl, Nat.le_of_ble_eq_true rfl⟩) hP hD hS hA rfl rfl rfl (by decide) (fun u H locs hu hP hD hS hz9 hk9 => ?_)
  have hP : va_P D vwCl [(pg0, .inr (4, [.ref co, .int (nI ln)])), (co, .inl (cI, 18, .inl (zPut pg 18 (nI ln) cd)))] H := hP
  have hD : va_D A [(pg0, .inr (4, [.ref co, .int (nI ln)])), (co, .inl (cI, 18, .inl (zPut pg 18 (nI ln) cd)))] := hD
  have hQ := hP
  show W _ _ _ _ _ _ _ _ _ _ _ _ _ _ _ (F0 m 24 ls [])
  have hP : va_P D vwCl [(pg0, .inr (4, [.ref co, .int (nI ln)])), (co, .inl (cI, 18, .inl (upd pg ln cd)))] H := vz_arr (g := upd pg ln cd) hP 1 rfl (fun j _ => by rw [zPut_nI hln (by decide)])
  have hD : va_D A [(pg0, .inr (4, [.ref co, .int (nI ln)])), (co, .inl (cI, 18, .inl (upd pg ln cd)))] := vz_arrD hD 1 rfl
  have hQ := hP
  refine lv_aload_n hx hb dX4_add_24 rfl (lv_at hl 0 rfl) ?_
  refine lv_dup hx hb dX4_add_25 rfl ?_
  refine va_get (D := D) (cl := vwCl) (tys := zT cI cB cF) (ci := 4) (v := .int (nI ln)) (C := RX4) (T := TX4) (N := 2) hx hb hts iw_X4_add_X4 hown hK.1 hQ 0 rfl rfl 1 (by decide) (hts _ hw_X4_add_1) (fun _ h9 => h9) rfl dX4_add_26 ?_
  refine lv_iconst (v := 1) hx hb dX4_add_29 (by decide) ?_
  refine lv_iadd hx hb dX4_add_30 ?_
  refine vz_si (nI (ln + 1)) (nI_1 ln) ?_
  refine va_put (D := D) (cl := vwCl) (tys := zT cI cB cF) (ci := 4) (v := .int (nI (ln + 1))) (ty := .int) (C := RX4) (T := TX4) (N := 2) hx hb hts iw_X4_add_X4 tyX4 tyX4_ok nmX4 hown hK.1 hP hD hS 0 rfl rfl 1 (by decide) (hts _ hw_X4_add_1) (fun _ h9 => h9) rfl (tyX4_ok 1 (by decide)) (rfl) (rfl) (Nat.le_of_ble_eq_true rfl) dX4_add_31 (fun H locs hP hD hS => ?_)
  have hP : va_P D vwCl [(pg0, .inr (4, [.ref co, .int (nI (ln + 1))])), (co, .inl (cI, 18, .inl (upd pg ln cd)))] H := hP
  have hD : va_D A [(pg0, .inr (4, [.ref co, .int (nI (ln + 1))])), (co, .inl (cI, 18, .inl (upd pg ln cd)))] := hD
  have hQ := hP
  have hP9 := hP.sub (ws' := [(pg0, .inr (4, [.ref co, .int (nI (ln + 1))])), (co, .inl (cI, 18, .inl (upd pg ln cd)))]) [0, 1] rfl
  have hD9 := hD.sub (ws' := [(pg0, .inr (4, [.ref co, .int (nI (ln + 1))])), (co, .inl (cI, 18, .inl (upd pg ln cd)))]) [0, 1] (by decide) rfl
  exact W.vret hx hb hr (fun t ht hW => ⟨⟨(), rfl, trivial, by rw [ht]; exact hP9, hD9⟩, hS.F ht⟩) hS.2.2 dX4_add_34
set_option maxRecDepth 100000 in
theorem iw_X4_clear_X4 : ∀ w ∈ u_ws RX4 TX4 2, w ∈ wsX4_clear := fun w h => List.mem_cons_of_mem _ (List.mem_append_right _ h)
set_option maxRecDepth 100000 in
theorem hw_X4_clear_1 : (.fieldLink RX4 15 "RotaFathers$Page" "length" "I" : Cond) ∈ wsX4_clear := List.mem_of_getElem? (i := 1) rfl
set_option maxRecDepth 100000 in
theorem hd_X4_clear : yX4_clear.cls ≠ "java/lang/invoke/MethodHandle" ∧ yX4_clear.cls ≠ "java/lang/invoke/VarHandle" ∧ (parseMethodDescriptor yX4_clear.desc).map (fun d => d.parameters.length) = some 0 := by decide +kernel
set_option maxHeartbeats 4000000 in
set_option maxRecDepth 100000 in
theorem c_X4_clear (l : Launch) (D : va_G) (cI cB cF : ClassId) (sz : Nat) (pg0 : Nat) (co : Nat) (ln : Nat)  : Met l yX4_clear wsX4_clear ({ frames := 0, cells := 0, slots := 0, locals := 0 } : Room) (PcW D cI cB cF [.ref pg0] sz [(pg0, .inr (4, [.ref co, .int (nI ln)]))] []) (Qw D (S := Unit) (fun xx => none) (fun xx => True) (fun xx => [(pg0, .inr (4, [.ref co, .int 0]))]) (va_A [(pg0, .inr (4, [.ref co, .int (nI ln)]))] sz)) 0 0 (va_A [(pg0, .inr (4, [.ref co, .int (nI ln)]))] sz) := by
  refine Met.ofW (cc := cX4_clear) (maxL := 1) (ret := none) (by decide) rfl ?_
  intro p e s m args below meth c s₁ Bd hml hv
  rw [show (headSpec wsX4_clear ({ frames := 0, cells := 0, slots := 0, locals := 0 } : Room)).room = ({ frames := 0, cells := 0, slots := 0, locals := 0 } : Room) from rfl]
  obtain ⟨rfl, hsz, hP, hK, hD0, hR⟩ := hv
  have hx := Bd.exec
  have hb := Bd.bytes
  have hr := Bd.returns
  have hts := atoms_spec (ws := wsX4_clear) Bd.pre
  have hown : s.vm.findClass RX4 = some m.cls := findClass_of_methodNamed Bd.named
  have hlocks := Bd.notSynchronized
  have FX : CallFix p m c cX4_clear 1 s _ wsX4_clear RX4 := ⟨hx, hb, hml, hown, hts⟩
  subst hsz
  have hD := hD0.self (sz := s.heap.size)
  generalize hAe : va_A [(pg0, .inr (4, [.ref co, .int (nI ln)]))] s.heap.size = A at hD hR ⊢
  have hA : ∀ q : Nat, s.heap.size ≤ q → A q := fun q h => by rw [← hAe]; exact Or.inr h
  have hS : va_S A s.heap s.heap [] := va_S.rf
  have hP : va_P D vwCl [(pg0, .inr (4, [.ref co, .int (nI ln)]))] s.heap := hP
  have hQ := hP
  have hl := lv_entry ([.ref pg0]) (n := 1) (Nat.le_of_ble_eq_true rfl)
  rw [lg_entry_eq]
  generalize (lg_sl ([.ref pg0]) ++ List.replicate (1 - (lg_sl ([.ref pg0])).length) Slot.unset).toArray = ls at hl ⊢
  have hl : lv_has ls 1 [(0, .ref pg0)] := hl
  refine lv_aload_n hx hb dX4_clear_0 rfl (lv_at hl 0 rfl) ?_
  refine lv_iconst (v := 0) hx hb dX4_clear_1 (by decide) ?_
  refine va_put (D := D) (cl := vwCl) (tys := zT cI cB cF) (ci := 4) (v := .int 0) (ty := .int) (C := RX4) (T := TX4) (N := 2) hx hb hts iw_X4_clear_X4 tyX4 tyX4_ok nmX4 hown hK.1 hP hD hS 0 rfl rfl 1 (by decide) (hts _ hw_X4_clear_1) (fun _ h9 => h9) rfl (tyX4_ok 1 (by decide)) (rfl) (rfl) (Nat.le_of_ble_eq_true rfl) dX4_clear_2 (fun H locs hP hD hS => ?_)
  have hP : va_P D vwCl [(pg0, .inr (4, [.ref co, .int 0]))] H := hP
  have hD : va_D A [(pg0, .inr (4, [.ref co, .int 0]))] := hD
  have hQ := hP
  have hP9 := hP.sub (ws' := [(pg0, .inr (4, [.ref co, .int 0]))]) [0] rfl
  have hD9 := hD.sub (ws' := [(pg0, .inr (4, [.ref co, .int 0]))]) [0] (by decide) rfl
  exact W.vret hx hb hr (fun t ht hW => ⟨⟨(), rfl, trivial, by rw [ht]; exact hP9, hD9⟩, hS.F ht⟩) hS.2.2 dX4_clear_5
set_option maxRecDepth 100000 in
theorem iw_X4_code_X4 : ∀ w ∈ u_ws RX4 TX4 2, w ∈ wsX4_code := fun w h => List.mem_cons_of_mem _ (List.mem_append_right _ h)
set_option maxRecDepth 100000 in
theorem hw_X4_code_1 : (.fieldLink RX4 9 "RotaFathers$Page" "codes" "[I" : Cond) ∈ wsX4_code := List.mem_of_getElem? (i := 1) rfl
set_option maxRecDepth 100000 in
theorem hw_X4_code_3 : (.initialized RX8 : Cond) ∈ wsX4_code := List.mem_of_getElem? (i := 3) rfl
set_option maxRecDepth 100000 in
theorem hw_X4_code_2 : (.static yX8_at : Cond) ∈ wsX4_code := List.mem_of_getElem? (i := 2) rfl
set_option maxRecDepth 100000 in
theorem hd_X4_code : yX4_code.cls ≠ "java/lang/invoke/MethodHandle" ∧ yX4_code.cls ≠ "java/lang/invoke/VarHandle" ∧ (parseMethodDescriptor yX4_code.desc).map (fun d => d.parameters.length) = some 1 := by decide +kernel
set_option maxHeartbeats 4000000 in
set_option maxRecDepth 100000 in
theorem c_X4_code (l : Launch) (D : va_G) (cI cB cF : ClassId) (pg0 : Nat) (co : Nat) (ln : Nat) (pg : Nat → Int32) (i : Int32)  : Met l yX4_code wsX4_code ({ frames := 1, cells := 0, slots := 0, locals := 21 } : Room) (PcP D cI cB cF [.ref pg0, .int i] [(pg0, .inr (4, [.ref co, .int (nI ln)])), (co, .inl (cI, 18, .inl pg))]) (QcV (.int (zAt pg 18 i))) 0 0 (fun _ => False) := by
  refine Met.ofW (cc := cX4_code) (maxL := 2) (ret := (some .int)) (by decide) rfl ?_
  intro p e s m args below meth c s₁ Bd hml hv
  rw [show (headSpec wsX4_code ({ frames := 1, cells := 0, slots := 0, locals := 21 } : Room)).room = ({ frames := 1, cells := 0, slots := 0, locals := 21 } : Room) from rfl]
  obtain ⟨rfl, hQ, hK⟩ := hv
  have hx := Bd.exec
  have hb := Bd.bytes
  have hr := Bd.returns
  have hts := atoms_spec (ws := wsX4_code) Bd.pre
  have hown : s.vm.findClass RX4 = some m.cls := findClass_of_methodNamed Bd.named
  have hlocks := Bd.notSynchronized
  have FX : CallFix p m c cX4_code 2 s _ wsX4_code RX4 := ⟨hx, hb, hml, hown, hts⟩
  have hQ : va_P D vwCl [(pg0, .inr (4, [.ref co, .int (nI ln)])), (co, .inl (cI, 18, .inl pg))] s.heap := hQ
  have hl := lv_entry ([.ref pg0, .int i]) (n := 2) (Nat.le_of_ble_eq_true rfl)
  rw [lg_entry_eq]
  generalize (lg_sl ([.ref pg0, .int i]) ++ List.replicate (2 - (lg_sl ([.ref pg0, .int i])).length) Slot.unset).toArray = ls at hl ⊢
  have hl : lv_has ls 2 [(0, .ref pg0), (1, .int i)] := hl
  refine lv_aload_n hx hb dX4_code_0 rfl (lv_at hl 0 rfl) ?_
  refine va_get (D := D) (cl := vwCl) (tys := zT cI cB cF) (ci := 4) (v := .ref co) (C := RX4) (T := TX4) (N := 2) hx hb hts iw_X4_code_X4 hown hK.1 hQ 0 rfl rfl 0 (by decide) (hts _ hw_X4_code_1) (fun _ h9 => h9) rfl dX4_code_1 ?_
  refine lv_iload_n hx hb dX4_code_4 rfl (lv_at hl 1 rfl) ?_
  refine vz_rd (va_runSN (As := [.ref co, .int i]) (rest := []) FX (c_X8_at l D cI cB cF co 18 pg i (by decide)) ⟨va_cnB 2 hts gX4_code_X8_at_n23 rfl rfl rfl (zn_X4_23 hK.2) (hts _ hw_X4_code_3) hd_X8_at ⟨Nat.le_of_ble_eq_true rfl, Nat.le_of_ble_eq_true rfl⟩, (hts _ hw_X4_code_2), trivial⟩ (preP_S (hQ.sub (ws' := [(co, .inl (cI, 18, .inl pg))]) [1] rfl) hK) rfl rfl hl.1 rfl (lv_room (Nat.le_of_ble_eq_true rfl)) dX4_code_5 ⟨Nat.le_of_ble_eq_true rfl, Nat.le_of_ble_eq_true rfl⟩) ?_
  exact W.iret hx hb hr (fun t ht hW => ⟨rfl, ht⟩) (fun q h => by cases h) dX4_code_8
set_option maxRecDepth 100000 in
theorem iw_X4_digit_X4 : ∀ w ∈ u_ws RX4 TX4 2, w ∈ wsX4_digit := fun w h => List.mem_cons_of_mem _ (List.mem_append_right _ h)
set_option maxRecDepth 100000 in
theorem hw_X4_digit_1 : (.fieldLink RX4 9 "RotaFathers$Page" "codes" "[I" : Cond) ∈ wsX4_digit := List.mem_of_getElem? (i := 1) rfl
set_option maxRecDepth 100000 in
theorem hw_X4_digit_3 : (.initialized RX8 : Cond) ∈ wsX4_digit := List.mem_of_getElem? (i := 3) rfl
set_option maxRecDepth 100000 in
theorem hw_X4_digit_2 : (.static yX8_at : Cond) ∈ wsX4_digit := List.mem_of_getElem? (i := 2) rfl
set_option maxRecDepth 100000 in
theorem hd_X4_digit : yX4_digit.cls ≠ "java/lang/invoke/MethodHandle" ∧ yX4_digit.cls ≠ "java/lang/invoke/VarHandle" ∧ (parseMethodDescriptor yX4_digit.desc).map (fun d => d.parameters.length) = some 1 := by decide +kernel
set_option maxHeartbeats 4000000 in
set_option maxRecDepth 100000 in
theorem c_X4_digit (l : Launch) (D : va_G) (cI cB cF : ClassId) (pg0 : Nat) (co : Nat) (ln : Nat) (pg : Nat → Int32) (i : Int32)  : Met l yX4_digit wsX4_digit ({ frames := 1, cells := 0, slots := 0, locals := 21 } : Room) (PcP D cI cB cF [.ref pg0, .int i] [(pg0, .inr (4, [.ref co, .int (nI ln)])), (co, .inl (cI, 18, .inl pg))]) (QcV (.int (zAt pg 18 i - 48))) 0 0 (fun _ => False) := by
  refine Met.ofW (cc := cX4_digit) (maxL := 2) (ret := (some .int)) (by decide) rfl ?_
  intro p e s m args below meth c s₁ Bd hml hv
  rw [show (headSpec wsX4_digit ({ frames := 1, cells := 0, slots := 0, locals := 21 } : Room)).room = ({ frames := 1, cells := 0, slots := 0, locals := 21 } : Room) from rfl]
  obtain ⟨rfl, hQ, hK⟩ := hv
  have hx := Bd.exec
  have hb := Bd.bytes
  have hr := Bd.returns
  have hts := atoms_spec (ws := wsX4_digit) Bd.pre
  have hown : s.vm.findClass RX4 = some m.cls := findClass_of_methodNamed Bd.named
  have hlocks := Bd.notSynchronized
  have FX : CallFix p m c cX4_digit 2 s _ wsX4_digit RX4 := ⟨hx, hb, hml, hown, hts⟩
  have hQ : va_P D vwCl [(pg0, .inr (4, [.ref co, .int (nI ln)])), (co, .inl (cI, 18, .inl pg))] s.heap := hQ
  have hl := lv_entry ([.ref pg0, .int i]) (n := 2) (Nat.le_of_ble_eq_true rfl)
  rw [lg_entry_eq]
  generalize (lg_sl ([.ref pg0, .int i]) ++ List.replicate (2 - (lg_sl ([.ref pg0, .int i])).length) Slot.unset).toArray = ls at hl ⊢
  have hl : lv_has ls 2 [(0, .ref pg0), (1, .int i)] := hl
  refine lv_aload_n hx hb dX4_digit_0 rfl (lv_at hl 0 rfl) ?_
  refine va_get (D := D) (cl := vwCl) (tys := zT cI cB cF) (ci := 4) (v := .ref co) (C := RX4) (T := TX4) (N := 2) hx hb hts iw_X4_digit_X4 hown hK.1 hQ 0 rfl rfl 0 (by decide) (hts _ hw_X4_digit_1) (fun _ h9 => h9) rfl dX4_digit_1 ?_
  refine lv_iload_n hx hb dX4_digit_4 rfl (lv_at hl 1 rfl) ?_
  refine vz_rd (va_runSN (As := [.ref co, .int i]) (rest := []) FX (c_X8_at l D cI cB cF co 18 pg i (by decide)) ⟨va_cnB 2 hts gX4_digit_X8_at_n23 rfl rfl rfl (zn_X4_23 hK.2) (hts _ hw_X4_digit_3) hd_X8_at ⟨Nat.le_of_ble_eq_true rfl, Nat.le_of_ble_eq_true rfl⟩, (hts _ hw_X4_digit_2), trivial⟩ (preP_S (hQ.sub (ws' := [(co, .inl (cI, 18, .inl pg))]) [1] rfl) hK) rfl rfl hl.1 rfl (lv_room (Nat.le_of_ble_eq_true rfl)) dX4_digit_5 ⟨Nat.le_of_ble_eq_true rfl, Nat.le_of_ble_eq_true rfl⟩) ?_
  refine lv_bipush (v := 48) hx hb dX4_digit_8 (by decide) ?_
  refine lv_isub hx hb dX4_digit_10 ?_
  refine vz_si (zAt pg 18 i - 48) (rfl) ?_
  exact W.iret hx hb hr (fun t ht hW => ⟨rfl, ht⟩) (fun q h => by cases h) dX4_digit_11
set_option maxRecDepth 100000 in
theorem hd_X4_isDigit : yX4_isDigit.cls ≠ "java/lang/invoke/MethodHandle" ∧ yX4_isDigit.cls ≠ "java/lang/invoke/VarHandle" ∧ (parseMethodDescriptor yX4_isDigit.desc).map (fun d => d.parameters.length) = some 3 := by decide +kernel
set_option maxHeartbeats 4000000 in
set_option maxRecDepth 100000 in
theorem c_X4_isDigit (l : Launch) (D : va_G) (cI cB cF : ClassId) (pg0 : Nat) (co : Nat) (ln : Nat) (pg : Nat → Int32) (i : Int32) (lo : Int32) (hi : Int32)  : Met l yX4_isDigit wsX4_isDigit ({ frames := 2, cells := 0, slots := 0, locals := 42 } : Room) (PcP D cI cB cF [.ref pg0, .int i, .int lo, .int hi] [(pg0, .inr (4, [.ref co, .int (nI ln)])), (co, .inl (cI, 18, .inl pg))]) (QcV (.int (zb (zIn (zAt pg 18 i - 48) lo hi)))) 0 0 (fun _ => False) := by
  refine Met.ofW (cc := cX4_isDigit) (maxL := 5) (ret := (some .boolean)) (by decide) rfl ?_
  intro p e s m args below meth c s₁ Bd hml hv
  rw [show (headSpec wsX4_isDigit ({ frames := 2, cells := 0, slots := 0, locals := 42 } : Room)).room = ({ frames := 2, cells := 0, slots := 0, locals := 42 } : Room) from rfl]
  obtain ⟨rfl, hQ, hK⟩ := hv
  have hx := Bd.exec
  have hb := Bd.bytes
  have hr := Bd.returns
  have hts := atoms_spec (ws := wsX4_isDigit) Bd.pre
  have hown : s.vm.findClass RX4 = some m.cls := findClass_of_methodNamed Bd.named
  have hlocks := Bd.notSynchronized
  have FX : CallFix p m c cX4_isDigit 5 s _ wsX4_isDigit RX4 := ⟨hx, hb, hml, hown, hts⟩
  have hQ : va_P D vwCl [(pg0, .inr (4, [.ref co, .int (nI ln)])), (co, .inl (cI, 18, .inl pg))] s.heap := hQ
  have hl := lv_entry ([.ref pg0, .int i, .int lo, .int hi]) (n := 5) (Nat.le_of_ble_eq_true rfl)
  rw [lg_entry_eq]
  generalize (lg_sl ([.ref pg0, .int i, .int lo, .int hi]) ++ List.replicate (5 - (lg_sl ([.ref pg0, .int i, .int lo, .int hi])).length) Slot.unset).toArray = ls at hl ⊢
  have hl : lv_has ls 5 [(0, .ref pg0), (1, .int i), (2, .int lo), (3, .int hi)] := hl
  refine lv_aload_n hx hb dX4_isDigit_0 rfl (lv_at hl 0 rfl) ?_
  refine lv_iload_n hx hb dX4_isDigit_1 rfl (lv_at hl 1 rfl) ?_
  refine vz_rd (va_runV (As := [.int i]) (rest := []) FX (c_X4_digit l D cI cB cF pg0 co ln pg i ) (cwV 1 hts gX4_isDigit_X4_digit rfl rfl rfl ⟨rfl, hd_X4_digit⟩ ⟨Nat.le_of_ble_eq_true rfl, Nat.le_of_ble_eq_true rfl⟩) (preP_V hQ 0 rfl rfl (hQ.sub (ws' := [(pg0, .inr (4, [.ref co, .int (nI ln)])), (co, .inl (cI, 18, .inl pg))]) [0, 1] rfl) hK) rfl rfl hl.1 rfl (lv_room (Nat.le_of_ble_eq_true rfl)) dX4_isDigit_2 ⟨Nat.le_of_ble_eq_true rfl, Nat.le_of_ble_eq_true rfl⟩) ?_
  refine lv_istore (lv' := [(4, .int (zAt pg 18 i - 48)), (0, .ref pg0), (1, .int i), (2, .int lo), (3, .int hi)]) hx hb dX4_isDigit_5 hl (by decide) rfl (fun ls hl => ?_)
  refine lv_iload hx hb dX4_isDigit_7 (lv_at hl 0 rfl) ?_
  refine lv_iload_n hx hb dX4_isDigit_9 rfl (lv_at hl 3 rfl) ?_
  refine lv_icmp_lt (tgt := 23) hx hb dX4_isDigit_10 (by decide) (fun c_10 => ?_) (fun c_10 => ?_)
  · refine lv_iconst (v := 0) hx hb dX4_isDigit_23 (by decide) ?_
    refine vz_si (zb (zIn (zAt pg 18 i - 48) lo hi)) (by unfold zIn; first | (rw [decide_eq_true c_10]; rfl) | (rw [decide_eq_false c_10, decide_eq_true c_16]; rfl) | (rw [decide_eq_false c_10, decide_eq_false c_16]; rfl)) ?_
    exact W.zret hx hb hr (zb_nar _) (fun t ht hW => ⟨rfl, ht⟩) (fun q h => by cases h) dX4_isDigit_24
  · refine lv_iload hx hb dX4_isDigit_13 (lv_at hl 0 rfl) ?_
    refine lv_iload_n hx hb dX4_isDigit_15 rfl (lv_at hl 4 rfl) ?_
    refine lv_icmp_gt (tgt := 23) hx hb dX4_isDigit_16 (by decide) (fun c_16 => ?_) (fun c_16 => ?_)
    · refine lv_iconst (v := 0) hx hb dX4_isDigit_23 (by decide) ?_
      refine vz_si (zb (zIn (zAt pg 18 i - 48) lo hi)) (by unfold zIn; first | (rw [decide_eq_true c_10]; rfl) | (rw [decide_eq_false c_10, decide_eq_true c_16]; rfl) | (rw [decide_eq_false c_10, decide_eq_false c_16]; rfl)) ?_
      exact W.zret hx hb hr (zb_nar _) (fun t ht hW => ⟨rfl, ht⟩) (fun q h => by cases h) dX4_isDigit_24
    · refine lv_iconst (v := 1) hx hb dX4_isDigit_19 (by decide) ?_
      refine lv_goto (tgt := 24) hx hb dX4_isDigit_20 (by decide) ?_
      refine vz_si (zb (zIn (zAt pg 18 i - 48) lo hi)) (by unfold zIn; first | (rw [decide_eq_true c_10]; rfl) | (rw [decide_eq_false c_10, decide_eq_true c_16]; rfl) | (rw [decide_eq_false c_10, decide_eq_false c_16]; rfl)) ?_
      exact W.zret hx hb hr (zb_nar _) (fun t ht hW => ⟨rfl, ht⟩) (fun q h => by cases h) dX4_isDigit_24
set_option maxRecDepth 100000 in
theorem hd_X4_isKind : yX4_isKind.cls ≠ "java/lang/invoke/MethodHandle" ∧ yX4_isKind.cls ≠ "java/lang/invoke/VarHandle" ∧ (parseMethodDescriptor yX4_isKind.desc).map (fun d => d.parameters.length) = some 1 := by decide +kernel
set_option maxHeartbeats 4000000 in
set_option maxRecDepth 100000 in
theorem c_X4_isKind (l : Launch) (D : va_G) (cI cB cF : ClassId) (cd : Int32)  : Met l yX4_isKind wsX4_isKind ({ frames := 0, cells := 0, slots := 0, locals := 0 } : Room) (PcP D cI cB cF [.int cd] []) (QcV (.int (zb (zKd cd)))) 0 0 (fun _ => False) := by
  refine Met.ofW (cc := cX4_isKind) (maxL := 1) (ret := (some .boolean)) (by decide) rfl ?_
  intro p e s m args below meth c s₁ Bd hml hv
  rw [show (headSpec wsX4_isKind ({ frames := 0, cells := 0, slots := 0, locals := 0 } : Room)).room = ({ frames := 0, cells := 0, slots := 0, locals := 0 } : Room) from rfl]
  obtain ⟨rfl, hQ, hK⟩ := hv
  have hx := Bd.exec
  have hb := Bd.bytes
  have hr := Bd.returns
  have hts := atoms_spec (ws := wsX4_isKind) Bd.pre
  have hown : s.vm.findClass RX4 = some m.cls := findClass_of_methodNamed Bd.named
  have hlocks := Bd.notSynchronized
  have FX : CallFix p m c cX4_isKind 1 s _ wsX4_isKind RX4 := ⟨hx, hb, hml, hown, hts⟩
  have hQ : va_P D vwCl [] s.heap := hQ
  have hl := lv_entry ([.int cd]) (n := 1) (Nat.le_of_ble_eq_true rfl)
  rw [lg_entry_eq]
  generalize (lg_sl ([.int cd]) ++ List.replicate (1 - (lg_sl ([.int cd])).length) Slot.unset).toArray = ls at hl ⊢
  have hl : lv_has ls 1 [(0, .int cd)] := hl
  refine lv_iload_n hx hb dX4_isKind_0 rfl (lv_at hl 0 rfl) ?_
  refine lv_bipush (v := 102) hx hb dX4_isKind_1 (by decide) ?_
  refine lv_icmp_eq (tgt := 30) hx hb dX4_isKind_3 (by decide) (fun c_3 => ?_) (fun c_3 => ?_)
  · refine lv_iconst (v := 1) hx hb dX4_isKind_30 (by decide) ?_
    refine lv_goto (tgt := 35) hx hb dX4_isKind_31 (by decide) ?_
    refine vz_si (zb (zKd cd)) (by unfold zKd; first | (rw [decide_eq_true c_3]; rfl) | (rw [decide_eq_false c_3, decide_eq_true c_9]; rfl) | (rw [decide_eq_false c_3, decide_eq_false c_9, decide_eq_true c_15]; rfl) | (rw [decide_eq_false c_3, decide_eq_false c_9, decide_eq_false c_15, decide_eq_true c_21]; rfl) | (rw [decide_eq_false c_3, decide_eq_false c_9, decide_eq_false c_15, decide_eq_false c_21, decide_eq_true c_27]; rfl) | (rw [decide_eq_false c_3, decide_eq_false c_9, decide_eq_false c_15, decide_eq_false c_21, decide_eq_false c_27]; rfl)) ?_
    exact W.zret hx hb hr (zb_nar _) (fun t ht hW => ⟨rfl, ht⟩) (fun q h => by cases h) dX4_isKind_35
  · refine lv_iload_n hx hb dX4_isKind_6 rfl (lv_at hl 0 rfl) ?_
    refine lv_bipush (v := 99) hx hb dX4_isKind_7 (by decide) ?_
    refine lv_icmp_eq (tgt := 30) hx hb dX4_isKind_9 (by decide) (fun c_9 => ?_) (fun c_9 => ?_)
    · refine lv_iconst (v := 1) hx hb dX4_isKind_30 (by decide) ?_
      refine lv_goto (tgt := 35) hx hb dX4_isKind_31 (by decide) ?_
      refine vz_si (zb (zKd cd)) (by unfold zKd; first | (rw [decide_eq_true c_3]; rfl) | (rw [decide_eq_false c_3, decide_eq_true c_9]; rfl) | (rw [decide_eq_false c_3, decide_eq_false c_9, decide_eq_true c_15]; rfl) | (rw [decide_eq_false c_3, decide_eq_false c_9, decide_eq_false c_15, decide_eq_true c_21]; rfl) | (rw [decide_eq_false c_3, decide_eq_false c_9, decide_eq_false c_15, decide_eq_false c_21, decide_eq_true c_27]; rfl) | (rw [decide_eq_false c_3, decide_eq_false c_9, decide_eq_false c_15, decide_eq_false c_21, decide_eq_false c_27]; rfl)) ?_
      exact W.zret hx hb hr (zb_nar _) (fun t ht hW => ⟨rfl, ht⟩) (fun q h => by cases h) dX4_isKind_35
    · refine lv_iload_n hx hb dX4_isKind_12 rfl (lv_at hl 0 rfl) ?_
      refine lv_bipush (v := 115) hx hb dX4_isKind_13 (by decide) ?_
      refine lv_icmp_eq (tgt := 30) hx hb dX4_isKind_15 (by decide) (fun c_15 => ?_) (fun c_15 => ?_)
      · refine lv_iconst (v := 1) hx hb dX4_isKind_30 (by decide) ?_
        refine lv_goto (tgt := 35) hx hb dX4_isKind_31 (by decide) ?_
        refine vz_si (zb (zKd cd)) (by unfold zKd; first | (rw [decide_eq_true c_3]; rfl) | (rw [decide_eq_false c_3, decide_eq_true c_9]; rfl) | (rw [decide_eq_false c_3, decide_eq_false c_9, decide_eq_true c_15]; rfl) | (rw [decide_eq_false c_3, decide_eq_false c_9, decide_eq_false c_15, decide_eq_true c_21]; rfl) | (rw [decide_eq_false c_3, decide_eq_false c_9, decide_eq_false c_15, decide_eq_false c_21, decide_eq_true c_27]; rfl) | (rw [decide_eq_false c_3, decide_eq_false c_9, decide_eq_false c_15, decide_eq_false c_21, decide_eq_false c_27]; rfl)) ?_
        exact W.zret hx hb hr (zb_nar _) (fun t ht hW => ⟨rfl, ht⟩) (fun q h => by cases h) dX4_isKind_35
      · refine lv_iload_n hx hb dX4_isKind_18 rfl (lv_at hl 0 rfl) ?_
        refine lv_bipush (v := 112) hx hb dX4_isKind_19 (by decide) ?_
        refine lv_icmp_eq (tgt := 30) hx hb dX4_isKind_21 (by decide) (fun c_21 => ?_) (fun c_21 => ?_)
        · refine lv_iconst (v := 1) hx hb dX4_isKind_30 (by decide) ?_
          refine lv_goto (tgt := 35) hx hb dX4_isKind_31 (by decide) ?_
          refine vz_si (zb (zKd cd)) (by unfold zKd; first | (rw [decide_eq_true c_3]; rfl) | (rw [decide_eq_false c_3, decide_eq_true c_9]; rfl) | (rw [decide_eq_false c_3, decide_eq_false c_9, decide_eq_true c_15]; rfl) | (rw [decide_eq_false c_3, decide_eq_false c_9, decide_eq_false c_15, decide_eq_true c_21]; rfl) | (rw [decide_eq_false c_3, decide_eq_false c_9, decide_eq_false c_15, decide_eq_false c_21, decide_eq_true c_27]; rfl) | (rw [decide_eq_false c_3, decide_eq_false c_9, decide_eq_false c_15, decide_eq_false c_21, decide_eq_false c_27]; rfl)) ?_
          exact W.zret hx hb hr (zb_nar _) (fun t ht hW => ⟨rfl, ht⟩) (fun q h => by cases h) dX4_isKind_35
        · refine lv_iload_n hx hb dX4_isKind_24 rfl (lv_at hl 0 rfl) ?_
          refine lv_bipush (v := 97) hx hb dX4_isKind_25 (by decide) ?_
          refine lv_icmp_ne (tgt := 34) hx hb dX4_isKind_27 (by decide) (fun c_27 => ?_) (fun c_27 => ?_)
          · refine lv_iconst (v := 0) hx hb dX4_isKind_34 (by decide) ?_
            refine vz_si (zb (zKd cd)) (by unfold zKd; first | (rw [decide_eq_true c_3]; rfl) | (rw [decide_eq_false c_3, decide_eq_true c_9]; rfl) | (rw [decide_eq_false c_3, decide_eq_false c_9, decide_eq_true c_15]; rfl) | (rw [decide_eq_false c_3, decide_eq_false c_9, decide_eq_false c_15, decide_eq_true c_21]; rfl) | (rw [decide_eq_false c_3, decide_eq_false c_9, decide_eq_false c_15, decide_eq_false c_21, decide_eq_true c_27]; rfl) | (rw [decide_eq_false c_3, decide_eq_false c_9, decide_eq_false c_15, decide_eq_false c_21, decide_eq_false c_27]; rfl)) ?_
            exact W.zret hx hb hr (zb_nar _) (fun t ht hW => ⟨rfl, ht⟩) (fun q h => by cases h) dX4_isKind_35
          · refine lv_iconst (v := 1) hx hb dX4_isKind_30 (by decide) ?_
            refine lv_goto (tgt := 35) hx hb dX4_isKind_31 (by decide) ?_
            refine vz_si (zb (zKd cd)) (by unfold zKd; first | (rw [decide_eq_true c_3]; rfl) | (rw [decide_eq_false c_3, decide_eq_true c_9]; rfl) | (rw [decide_eq_false c_3, decide_eq_false c_9, decide_eq_true c_15]; rfl) | (rw [decide_eq_false c_3, decide_eq_false c_9, decide_eq_false c_15, decide_eq_true c_21]; rfl) | (rw [decide_eq_false c_3, decide_eq_false c_9, decide_eq_false c_15, decide_eq_false c_21, decide_eq_true c_27]; rfl) | (rw [decide_eq_false c_3, decide_eq_false c_9, decide_eq_false c_15, decide_eq_false c_21, decide_eq_false c_27]; rfl)) ?_
            exact W.zret hx hb hr (zb_nar _) (fun t ht hW => ⟨rfl, ht⟩) (fun q h => by cases h) dX4_isKind_35
set_option maxRecDepth 100000 in
theorem hd_X4_endsFather : yX4_endsFather.cls ≠ "java/lang/invoke/MethodHandle" ∧ yX4_endsFather.cls ≠ "java/lang/invoke/VarHandle" ∧ (parseMethodDescriptor yX4_endsFather.desc).map (fun d => d.parameters.length) = some 2 := by decide +kernel
set_option maxHeartbeats 4000000 in
set_option maxRecDepth 100000 in
theorem c_X4_endsFather (l : Launch) (D : va_G) (cI cB cF : ClassId) (cd : Int32) (fm : Int32)  : Met l yX4_endsFather wsX4_endsFather ({ frames := 0, cells := 0, slots := 0, locals := 0 } : Room) (PcP D cI cB cF [.int cd, .int fm] []) (QcV (.int (zb (zEf cd fm)))) 0 0 (fun _ => False) := by
  refine Met.ofW (cc := cX4_endsFather) (maxL := 2) (ret := (some .boolean)) (by decide) rfl ?_
  intro p e s m args below meth c s₁ Bd hml hv
  rw [show (headSpec wsX4_endsFather ({ frames := 0, cells := 0, slots := 0, locals := 0 } : Room)).room = ({ frames := 0, cells := 0, slots := 0, locals := 0 } : Room) from rfl]
  obtain ⟨rfl, hQ, hK⟩ := hv
  have hx := Bd.exec
  have hb := Bd.bytes
  have hr := Bd.returns
  have hts := atoms_spec (ws := wsX4_endsFather) Bd.pre
  have hown : s.vm.findClass RX4 = some m.cls := findClass_of_methodNamed Bd.named
  have hlocks := Bd.notSynchronized
  have FX : CallFix p m c cX4_endsFather 2 s _ wsX4_endsFather RX4 := ⟨hx, hb, hml, hown, hts⟩
  have hQ : va_P D vwCl [] s.heap := hQ
  have hl := lv_entry ([.int cd, .int fm]) (n := 2) (Nat.le_of_ble_eq_true rfl)
  rw [lg_entry_eq]
  generalize (lg_sl ([.int cd, .int fm]) ++ List.replicate (2 - (lg_sl ([.int cd, .int fm])).length) Slot.unset).toArray = ls at hl ⊢
  have hl : lv_has ls 2 [(0, .int cd), (1, .int fm)] := hl
  refine lv_iload_n hx hb dX4_endsFather_0 rfl (lv_at hl 0 rfl) ?_
  refine lv_bipush (v := 59) hx hb dX4_endsFather_1 (by decide) ?_
  refine lv_icmp_ne (tgt := 17) hx hb dX4_endsFather_3 (by decide) (fun c_3 => ?_) (fun c_3 => ?_)
  · refine lv_iload_n hx hb dX4_endsFather_17 rfl (lv_at hl 0 rfl) ?_
    refine lv_bipush (v := 44) hx hb dX4_endsFather_18 (by decide) ?_
    refine lv_icmp_ne (tgt := 32) hx hb dX4_endsFather_20 (by decide) (fun c_20 => ?_) (fun c_20 => ?_)
    · refine lv_iconst (v := 0) hx hb dX4_endsFather_32 (by decide) ?_
      refine vz_si (zb (zEf cd fm)) (by unfold zEf; first | (rw [if_pos c_3, decide_eq_true c_8]; rfl) | (rw [if_pos c_3, decide_eq_false c_8]; rfl) | (rw [if_neg c_3, decide_eq_false c_20]; rfl) | (rw [if_neg c_3, decide_eq_true c_20, decide_eq_true c_25]; rfl) | (rw [if_neg c_3, decide_eq_true c_20, decide_eq_false c_25]; rfl)) ?_
      exact W.zret hx hb hr (zb_nar _) (fun t ht hW => ⟨rfl, ht⟩) (fun q h => by cases h) dX4_endsFather_33
    · refine lv_iload_n hx hb dX4_endsFather_23 rfl (lv_at hl 1 rfl) ?_
      refine lv_iconst (v := 4) hx hb dX4_endsFather_24 (by decide) ?_
      refine lv_icmp_ge (tgt := 32) hx hb dX4_endsFather_25 (by decide) (fun c_25 => ?_) (fun c_25 => ?_)
      · refine lv_iconst (v := 0) hx hb dX4_endsFather_32 (by decide) ?_
        refine vz_si (zb (zEf cd fm)) (by unfold zEf; first | (rw [if_pos c_3, decide_eq_true c_8]; rfl) | (rw [if_pos c_3, decide_eq_false c_8]; rfl) | (rw [if_neg c_3, decide_eq_false c_20]; rfl) | (rw [if_neg c_3, decide_eq_true c_20, decide_eq_true c_25]; rfl) | (rw [if_neg c_3, decide_eq_true c_20, decide_eq_false c_25]; rfl)) ?_
        exact W.zret hx hb hr (zb_nar _) (fun t ht hW => ⟨rfl, ht⟩) (fun q h => by cases h) dX4_endsFather_33
      · refine lv_iconst (v := 1) hx hb dX4_endsFather_28 (by decide) ?_
        refine lv_goto (tgt := 33) hx hb dX4_endsFather_29 (by decide) ?_
        refine vz_si (zb (zEf cd fm)) (by unfold zEf; first | (rw [if_pos c_3, decide_eq_true c_8]; rfl) | (rw [if_pos c_3, decide_eq_false c_8]; rfl) | (rw [if_neg c_3, decide_eq_false c_20]; rfl) | (rw [if_neg c_3, decide_eq_true c_20, decide_eq_true c_25]; rfl) | (rw [if_neg c_3, decide_eq_true c_20, decide_eq_false c_25]; rfl)) ?_
        exact W.zret hx hb hr (zb_nar _) (fun t ht hW => ⟨rfl, ht⟩) (fun q h => by cases h) dX4_endsFather_33
  · refine lv_iload_n hx hb dX4_endsFather_6 rfl (lv_at hl 1 rfl) ?_
    refine lv_iconst (v := 2) hx hb dX4_endsFather_7 (by decide) ?_
    refine lv_icmp_lt (tgt := 15) hx hb dX4_endsFather_8 (by decide) (fun c_8 => ?_) (fun c_8 => ?_)
    · refine lv_iconst (v := 0) hx hb dX4_endsFather_15 (by decide) ?_
      refine vz_si (zb (zEf cd fm)) (by unfold zEf; first | (rw [if_pos c_3, decide_eq_true c_8]; rfl) | (rw [if_pos c_3, decide_eq_false c_8]; rfl) | (rw [if_neg c_3, decide_eq_false c_20]; rfl) | (rw [if_neg c_3, decide_eq_true c_20, decide_eq_true c_25]; rfl) | (rw [if_neg c_3, decide_eq_true c_20, decide_eq_false c_25]; rfl)) ?_
      exact W.zret hx hb hr (zb_nar _) (fun t ht hW => ⟨rfl, ht⟩) (fun q h => by cases h) dX4_endsFather_16
    · refine lv_iconst (v := 1) hx hb dX4_endsFather_11 (by decide) ?_
      refine lv_goto (tgt := 16) hx hb dX4_endsFather_12 (by decide) ?_
      refine vz_si (zb (zEf cd fm)) (by unfold zEf; first | (rw [if_pos c_3, decide_eq_true c_8]; rfl) | (rw [if_pos c_3, decide_eq_false c_8]; rfl) | (rw [if_neg c_3, decide_eq_false c_20]; rfl) | (rw [if_neg c_3, decide_eq_true c_20, decide_eq_true c_25]; rfl) | (rw [if_neg c_3, decide_eq_true c_20, decide_eq_false c_25]; rfl)) ?_
      exact W.zret hx hb hr (zb_nar _) (fun t ht hW => ⟨rfl, ht⟩) (fun q h => by cases h) dX4_endsFather_16
set_option maxRecDepth 100000 in
theorem iw_X4_closing_X4 : ∀ w ∈ u_ws RX4 TX4 2, w ∈ wsX4_closing := fun w h => List.mem_cons_of_mem _ (List.mem_append_right _ h)
set_option maxRecDepth 100000 in
theorem hw_X4_closing_1 : (.fieldLink RX4 15 "RotaFathers$Page" "length" "I" : Cond) ∈ wsX4_closing := List.mem_of_getElem? (i := 1) rfl
set_option maxRecDepth 100000 in
theorem hd_X4_closing : yX4_closing.cls ≠ "java/lang/invoke/MethodHandle" ∧ yX4_closing.cls ≠ "java/lang/invoke/VarHandle" ∧ (parseMethodDescriptor yX4_closing.desc).map (fun d => d.parameters.length) = some 0 := by decide +kernel
set_option maxHeartbeats 4000000 in
set_option maxRecDepth 100000 in
theorem c_X4_closing (l : Launch) (D : va_G) (cI cB cF : ClassId) (pg0 : Nat) (co : Nat) (ln : Nat) (pg : Nat → Int32) (hln : ln ≤ 18) : Met l yX4_closing wsX4_closing ({ frames := 2, cells := 0, slots := 0, locals := 42 } : Room) (PcP D cI cB cF [.ref pg0] [(pg0, .inr (4, [.ref co, .int (nI ln)])), (co, .inl (cI, 18, .inl pg))]) (QcV (.int (nI (zCg pg ln)))) 0 0 (fun _ => False) := by
  refine Met.ofW (cc := cX4_closing) (maxL := 2) (ret := (some .int)) (by decide) rfl ?_
  intro p e s m args below meth c s₁ Bd hml hv
  rw [show (headSpec wsX4_closing ({ frames := 2, cells := 0, slots := 0, locals := 42 } : Room)).room = ({ frames := 2, cells := 0, slots := 0, locals := 42 } : Room) from rfl]
  obtain ⟨rfl, hQ, hK⟩ := hv
  have hx := Bd.exec
  have hb := Bd.bytes
  have hr := Bd.returns
  have hts := atoms_spec (ws := wsX4_closing) Bd.pre
  have hown : s.vm.findClass RX4 = some m.cls := findClass_of_methodNamed Bd.named
  have hlocks := Bd.notSynchronized
  have FX : CallFix p m c cX4_closing 2 s _ wsX4_closing RX4 := ⟨hx, hb, hml, hown, hts⟩
  have hQ : va_P D vwCl [(pg0, .inr (4, [.ref co, .int (nI ln)])), (co, .inl (cI, 18, .inl pg))] s.heap := hQ
  have hl := lv_entry ([.ref pg0]) (n := 2) (Nat.le_of_ble_eq_true rfl)
  rw [lg_entry_eq]
  generalize (lg_sl ([.ref pg0]) ++ List.replicate (2 - (lg_sl ([.ref pg0])).length) Slot.unset).toArray = ls at hl ⊢
  have hl : lv_has ls 2 [(0, .ref pg0)] := hl
  refine lv_iconst (v := 0) hx hb dX4_closing_0 (by decide) ?_
  refine lv_istore_n (lv' := [(1, .int 0), (0, .ref pg0)]) hx hb dX4_closing_1 rfl hl (by decide) rfl (fun ls hl => ?_)
  refine vz_loopP (nL := 2) (σ := Nat) (fun xx => ln - xx) (fun xx => (xx ≤ ln) ∧ (∀ j, j < xx → ¬ pg j = 59)) (fun xx => [(0, .ref pg0), (1, .int (nI xx))]) (fun xx => []) ?_ 0 ⟨Nat.zero_le _, fun j h => absurd h (Nat.not_lt_zero _)⟩ (lv_sub hl [1, 0] rfl)
  rintro k hI ih_2 ls hl
  obtain ⟨hk, hg⟩ := hI
  have hk : k ≤ ln := hk
  have hg : ∀ j, j < k → ¬ pg j = 59 := hg
  have hl : lv_has ls 2 [(0, .ref pg0), (1, .int (nI k))] := hl
  show W _ _ _ _ _ _ _ _ _ _ _ _ _ _ _ (F0 m 2 ls [])
  refine lv_iload_n hx hb dX4_closing_2 rfl (lv_at hl 1 rfl) ?_
  refine lv_aload_n hx hb dX4_closing_3 rfl (lv_at hl 0 rfl) ?_
  refine va_get (D := D) (cl := vwCl) (tys := zT cI cB cF) (ci := 4) (v := .int (nI ln)) (C := RX4) (T := TX4) (N := 2) hx hb hts iw_X4_closing_X4 hown hK.1 hQ 0 rfl rfl 1 (by decide) (hts _ hw_X4_closing_1) (fun _ h9 => h9) rfl dX4_closing_4 ?_
  refine lv_icmp_ge (tgt := 26) hx hb dX4_closing_7 (by decide) (fun c_7 => ?_) (fun c_7 => ?_)
  · have hge_7 : ln ≤ k := (nI_zle (a := ln) (b := k) (by omega) (by omega)).mp c_7
    refine lv_iload_n hx hb dX4_closing_26 rfl (lv_at hl 1 rfl) ?_
    refine vz_si (nI (zCg pg ln)) (by rw [zCg_u hk hg (by first | exact fun h => absurd h (by omega) | exact fun _ => c_17)]) ?_
    exact W.iret hx hb hr (fun t ht hW => ⟨rfl, ht⟩) (fun q h => by cases h) dX4_closing_27
  · have hlt_7 : k < ln := Nat.lt_of_not_le fun q => c_7 ((nI_zle (a := ln) (b := k) (by omega) (by omega)).mpr q)
    refine lv_aload_n hx hb dX4_closing_10 rfl (lv_at hl 0 rfl) ?_
    refine lv_iload_n hx hb dX4_closing_11 rfl (lv_at hl 1 rfl) ?_
    refine vz_rd (va_runV (As := [.int (nI k)]) (rest := []) FX (c_X4_code l D cI cB cF pg0 co ln pg (nI k) ) (cwV 1 hts gX4_closing_X4_code rfl rfl rfl ⟨rfl, hd_X4_code⟩ ⟨Nat.le_of_ble_eq_true rfl, Nat.le_of_ble_eq_true rfl⟩) (preP_V hQ 0 rfl rfl (hQ.sub (ws' := [(pg0, .inr (4, [.ref co, .int (nI ln)])), (co, .inl (cI, 18, .inl pg))]) [0, 1] rfl) hK) rfl rfl hl.1 rfl (lv_room (Nat.le_of_ble_eq_true rfl)) dX4_closing_12 ⟨Nat.le_of_ble_eq_true rfl, Nat.le_of_ble_eq_true rfl⟩) ?_
    refine vz_si (pg k) (zAt_nI (by omega) (by decide)) ?_
    refine lv_bipush (v := 59) hx hb dX4_closing_15 (by decide) ?_
    refine lv_icmp_eq (tgt := 26) hx hb dX4_closing_17 (by decide) (fun c_17 => ?_) (fun c_17 => ?_)
    · refine lv_iload_n hx hb dX4_closing_26 rfl (lv_at hl 1 rfl) ?_
      refine vz_si (nI (zCg pg ln)) (by rw [zCg_u hk hg (by first | exact fun h => absurd h (by omega) | exact fun _ => c_17)]) ?_
      exact W.iret hx hb hr (fun t ht hW => ⟨rfl, ht⟩) (fun q h => by cases h) dX4_closing_27
    · refine lv_iinc (v := (nI (k + 1))) (lv' := [(1, .int (nI (k + 1))), (0, .ref pg0)]) hx hb dX4_closing_20 hl (k := 1) rfl ((nI_succ k).symm) (by decide) rfl (fun ls hl => ?_)
      refine lv_goto (tgt := 2) hx hb dX4_closing_23 (by decide) ?_
      exact ih_2 (k + 1) (by (try dsimp only); omega) ⟨hlt_7, fun j hj => by rcases Nat.lt_succ_iff_lt_or_eq.mp hj with h | h; exact hg j h; rw [h]; exact c_17⟩ ls (lv_sub hl [1, 0] rfl)
set_option maxRecDepth 100000 in
theorem hd_X4_isRight : yX4_isRight.cls ≠ "java/lang/invoke/MethodHandle" ∧ yX4_isRight.cls ≠ "java/lang/invoke/VarHandle" ∧ (parseMethodDescriptor yX4_isRight.desc).map (fun d => d.parameters.length) = some 2 := by decide +kernel
set_option maxHeartbeats 4000000 in
set_option maxRecDepth 100000 in
theorem c_X4_isRight (l : Launch) (D : va_G) (cI cB cF : ClassId) (pg0 : Nat) (co : Nat) (ln : Nat) (pg : Nat → Int32) (j : Nat) (cg : Nat) (hj : j < 18) (hcg : cg ≤ 18) : Met l yX4_isRight wsX4_isRight ({ frames := 3, cells := 0, slots := 0, locals := 66 } : Room) (PcP D cI cB cF [.ref pg0, .int (nI j), .int (nI cg)] [(pg0, .inr (4, [.ref co, .int (nI ln)])), (co, .inl (cI, 18, .inl pg))]) (QcV (.int (zb (zRt pg cg j)))) 0 0 (fun _ => False) := by
  refine Met.ofW (cc := cX4_isRight) (maxL := 3) (ret := (some .boolean)) (by decide) rfl ?_
  intro p e s m args below meth c s₁ Bd hml hv
  rw [show (headSpec wsX4_isRight ({ frames := 3, cells := 0, slots := 0, locals := 66 } : Room)).room = ({ frames := 3, cells := 0, slots := 0, locals := 66 } : Room) from rfl]
  obtain ⟨rfl, hQ, hK⟩ := hv
  have hx := Bd.exec
  have hb := Bd.bytes
  have hr := Bd.returns
  have hts := atoms_spec (ws := wsX4_isRight) Bd.pre
  have hown : s.vm.findClass RX4 = some m.cls := findClass_of_methodNamed Bd.named
  have hlocks := Bd.notSynchronized
  have FX : CallFix p m c cX4_isRight 3 s _ wsX4_isRight RX4 := ⟨hx, hb, hml, hown, hts⟩
  have hQ : va_P D vwCl [(pg0, .inr (4, [.ref co, .int (nI ln)])), (co, .inl (cI, 18, .inl pg))] s.heap := hQ
  have hl := lv_entry ([.ref pg0, .int (nI j), .int (nI cg)]) (n := 3) (Nat.le_of_ble_eq_true rfl)
  rw [lg_entry_eq]
  generalize (lg_sl ([.ref pg0, .int (nI j), .int (nI cg)]) ++ List.replicate (3 - (lg_sl ([.ref pg0, .int (nI j), .int (nI cg)])).length) Slot.unset).toArray = ls at hl ⊢
  have hl : lv_has ls 3 [(0, .ref pg0), (1, .int (nI j)), (2, .int (nI cg))] := hl
  refine lv_iload_n hx hb dX4_isRight_0 rfl (lv_at hl 1 rfl) ?_
  refine lv_iload_n hx hb dX4_isRight_1 rfl (lv_at hl 2 rfl) ?_
  refine lv_icmp_le (tgt := 29) hx hb dX4_isRight_2 (by decide) (fun c_2 => ?_) (fun c_2 => ?_)
  · have hle : j ≤ cg := (nI_zle (a := j) (b := cg) (by omega) (by omega)).mp c_2
    refine lv_iload_n hx hb dX4_isRight_29 rfl (lv_at hl 1 rfl) ?_
    refine lv_iconst (v := 4) hx hb dX4_isRight_30 (by decide) ?_
    refine lv_irem hx hb dX4_isRight_31 (by decide) ?_
    refine vz_si (nI (j % 4)) (pk_rem (d := 4) (by omega) (by decide) (by decide)) ?_
    by_cases q_32_0 : nI (j % 4) = 0
    · refine vz_si 0 q_32_0 ?_
      refine lv_tableIn (off := 28) (tgt := 60) hx hb dX4_isRight_32 (by decide) (by decide) (by decide) (by decide) ?_
      refine lv_aload_n hx hb dX4_isRight_60 rfl (lv_at hl 0 rfl) ?_
      refine lv_iload_n hx hb dX4_isRight_61 rfl (lv_at hl 1 rfl) ?_
      refine vz_rd (va_runV (As := [.int (nI j)]) (rest := []) FX (c_X4_code l D cI cB cF pg0 co ln pg (nI j) ) (cwV 1 hts gX4_isRight_X4_code rfl rfl rfl ⟨rfl, hd_X4_code⟩ ⟨Nat.le_of_ble_eq_true rfl, Nat.le_of_ble_eq_true rfl⟩) (preP_V hQ 0 rfl rfl (hQ.sub (ws' := [(pg0, .inr (4, [.ref co, .int (nI ln)])), (co, .inl (cI, 18, .inl pg))]) [0, 1] rfl) hK) rfl rfl hl.1 rfl (lv_room (Nat.le_of_ble_eq_true rfl)) dX4_isRight_62 ⟨Nat.le_of_ble_eq_true rfl, Nat.le_of_ble_eq_true rfl⟩) ?_
      refine vz_rd (va_runS (As := [.int (zAt pg 18 (nI j))]) (rest := []) FX (c_X4_isKind l D cI cB cF (zAt pg 18 (nI j)) ) (va_cwS 1 hts gX4_isRight_X4_isKind rfl rfl rfl hd_X4_isKind ⟨Nat.le_of_ble_eq_true rfl, Nat.le_of_ble_eq_true rfl⟩) (preP_S (hQ.sub (ws' := []) [] rfl) hK) rfl rfl hl.1 rfl (lv_room (Nat.le_of_ble_eq_true rfl)) dX4_isRight_65 ⟨Nat.le_of_ble_eq_true rfl, Nat.le_of_ble_eq_true rfl⟩) ?_
      refine vz_si (zb (zRt pg cg j)) (by unfold zRt; rw [if_neg (by omega), if_pos (zj4 (m := 0) q_32_0)]) ?_
      exact W.zret hx hb hr (zb_nar _) (fun t ht hW => ⟨rfl, ht⟩) (fun q h => by cases h) dX4_isRight_68
    · skip
      by_cases q_32_1 : nI (j % 4) = 1
      · refine vz_si 1 q_32_1 ?_
        refine lv_tableIn (off := 37) (tgt := 69) hx hb dX4_isRight_32 (by decide) (by decide) (by decide) (by decide) ?_
        refine lv_aload_n hx hb dX4_isRight_69 rfl (lv_at hl 0 rfl) ?_
        refine lv_iload_n hx hb dX4_isRight_70 rfl (lv_at hl 1 rfl) ?_
        refine lv_iconst (v := 0) hx hb dX4_isRight_71 (by decide) ?_
        refine lv_iconst (v := 5) hx hb dX4_isRight_72 (by decide) ?_
        refine vz_rd (va_runV (As := [.int (nI j), .int 0, .int 5]) (rest := []) FX (c_X4_isDigit l D cI cB cF pg0 co ln pg (nI j) 0 5 ) (cwV 3 hts gX4_isRight_X4_isDigit rfl rfl rfl ⟨rfl, hd_X4_isDigit⟩ ⟨Nat.le_of_ble_eq_true rfl, Nat.le_of_ble_eq_true rfl⟩) (preP_V hQ 0 rfl rfl (hQ.sub (ws' := [(pg0, .inr (4, [.ref co, .int (nI ln)])), (co, .inl (cI, 18, .inl pg))]) [0, 1] rfl) hK) rfl rfl hl.1 rfl (lv_room (Nat.le_of_ble_eq_true rfl)) dX4_isRight_73 ⟨Nat.le_of_ble_eq_true rfl, Nat.le_of_ble_eq_true rfl⟩) ?_
        refine vz_si (zb (zRt pg cg j)) (by unfold zRt; rw [if_neg (by omega), if_neg (by rw [zj4 (m := 1) q_32_1]; decide), if_pos (zj4 (m := 1) q_32_1)]; rfl) ?_
        exact W.zret hx hb hr (zb_nar _) (fun t ht hW => ⟨rfl, ht⟩) (fun q h => by cases h) dX4_isRight_76
      · skip
        by_cases q_32_2 : nI (j % 4) = 2
        · refine vz_si 2 q_32_2 ?_
          refine lv_tableIn (off := 45) (tgt := 77) hx hb dX4_isRight_32 (by decide) (by decide) (by decide) (by decide) ?_
          refine lv_aload_n hx hb dX4_isRight_77 rfl (lv_at hl 0 rfl) ?_
          refine lv_iload_n hx hb dX4_isRight_78 rfl (lv_at hl 1 rfl) ?_
          refine lv_iconst (v := 1) hx hb dX4_isRight_79 (by decide) ?_
          refine lv_bipush (v := 9) hx hb dX4_isRight_80 (by decide) ?_
          refine vz_rd (va_runV (As := [.int (nI j), .int 1, .int 9]) (rest := []) FX (c_X4_isDigit l D cI cB cF pg0 co ln pg (nI j) 1 9 ) (cwV 3 hts gX4_isRight_X4_isDigit rfl rfl rfl ⟨rfl, hd_X4_isDigit⟩ ⟨Nat.le_of_ble_eq_true rfl, Nat.le_of_ble_eq_true rfl⟩) (preP_V hQ 0 rfl rfl (hQ.sub (ws' := [(pg0, .inr (4, [.ref co, .int (nI ln)])), (co, .inl (cI, 18, .inl pg))]) [0, 1] rfl) hK) rfl rfl hl.1 rfl (lv_room (Nat.le_of_ble_eq_true rfl)) dX4_isRight_82 ⟨Nat.le_of_ble_eq_true rfl, Nat.le_of_ble_eq_true rfl⟩) ?_
          refine vz_si (zb (zRt pg cg j)) (by unfold zRt; rw [if_neg (by omega), if_neg (by rw [zj4 (m := 2) q_32_2]; decide), if_neg (by rw [zj4 (m := 2) q_32_2]; decide), if_pos (zj4 (m := 2) q_32_2)]; rfl) ?_
          exact W.zret hx hb hr (zb_nar _) (fun t ht hW => ⟨rfl, ht⟩) (fun q h => by cases h) dX4_isRight_85
        · skip
          refine lv_tableOut (tgt := 86) hx hb dX4_isRight_32 (by have w_0 := lv_neT (a := 0) q_32_0 rfl; have w_1 := lv_neT (a := 1) q_32_1 rfl; have w_2 := lv_neT (a := 2) q_32_2 rfl; omega) (by decide) ?_
          refine lv_aload_n hx hb dX4_isRight_86 rfl (lv_at hl 0 rfl) ?_
          refine lv_iload_n hx hb dX4_isRight_87 rfl (lv_at hl 1 rfl) ?_
          refine vz_rd (va_runV (As := [.int (nI j)]) (rest := []) FX (c_X4_code l D cI cB cF pg0 co ln pg (nI j) ) (cwV 1 hts gX4_isRight_X4_code rfl rfl rfl ⟨rfl, hd_X4_code⟩ ⟨Nat.le_of_ble_eq_true rfl, Nat.le_of_ble_eq_true rfl⟩) (preP_V hQ 0 rfl rfl (hQ.sub (ws' := [(pg0, .inr (4, [.ref co, .int (nI ln)])), (co, .inl (cI, 18, .inl pg))]) [0, 1] rfl) hK) rfl rfl hl.1 rfl (lv_room (Nat.le_of_ble_eq_true rfl)) dX4_isRight_88 ⟨Nat.le_of_ble_eq_true rfl, Nat.le_of_ble_eq_true rfl⟩) ?_
          refine lv_iload_n hx hb dX4_isRight_91 rfl (lv_at hl 1 rfl) ?_
          refine lv_iconst (v := 4) hx hb dX4_isRight_92 (by decide) ?_
          refine lv_idiv hx hb dX4_isRight_93 (by decide) ?_
          refine vz_si (nI (j / 4)) (pk_div (d := 4) (by omega) (by decide) (by decide)) ?_
          refine lv_iconst (v := 1) hx hb dX4_isRight_94 (by decide) ?_
          refine lv_iadd hx hb dX4_isRight_95 ?_
          refine vz_si (nI (j / 4 + 1)) (nI_1 (j / 4)) ?_
          refine vz_rd (va_runS (As := [.int (zAt pg 18 (nI j)), .int (nI (j / 4 + 1))]) (rest := []) FX (c_X4_endsFather l D cI cB cF (zAt pg 18 (nI j)) (nI (j / 4 + 1)) ) (va_cwS 2 hts gX4_isRight_X4_endsFather rfl rfl rfl hd_X4_endsFather ⟨Nat.le_of_ble_eq_true rfl, Nat.le_of_ble_eq_true rfl⟩) (preP_S (hQ.sub (ws' := []) [] rfl) hK) rfl rfl hl.1 rfl (lv_room (Nat.le_of_ble_eq_true rfl)) dX4_isRight_96 ⟨Nat.le_of_ble_eq_true rfl, Nat.le_of_ble_eq_true rfl⟩) ?_
          refine vz_si (zb (zRt pg cg j)) (by unfold zRt; rw [if_neg (by omega), if_neg (fun h => q_32_0 (by rw [h]; rfl)), if_neg (fun h => q_32_1 (by rw [h]; rfl)), if_neg (fun h => q_32_2 (by rw [h]; rfl))]) ?_
          exact W.zret hx hb hr (zb_nar _) (fun t ht hW => ⟨rfl, ht⟩) (fun q h => by cases h) dX4_isRight_99
  · have hgt : cg < j := Nat.lt_of_not_le fun q => c_2 ((nI_zle (a := j) (b := cg) (by omega) (by omega)).mpr q)
    refine lv_iload_n hx hb dX4_isRight_5 rfl (lv_at hl 1 rfl) ?_
    refine lv_iload_n hx hb dX4_isRight_6 rfl (lv_at hl 2 rfl) ?_
    refine lv_iconst (v := 1) hx hb dX4_isRight_7 (by decide) ?_
    refine lv_iadd hx hb dX4_isRight_8 ?_
    refine vz_si (nI (cg + 1)) (nI_1 cg) ?_
    refine lv_icmp_ne (tgt := 27) hx hb dX4_isRight_9 (by decide) (fun c_9 => ?_) (fun c_9 => ?_)
    · have hne : ¬ j = cg + 1 := fun q => c_9 (by rw [q])
      refine lv_iconst (v := 0) hx hb dX4_isRight_27 (by decide) ?_
      refine vz_si (zb (zRt pg cg j)) (by unfold zRt; rw [if_pos hgt]; first | (rw [decide_eq_false hne]; rfl) | (rw [decide_eq_true heq]; rw [show zIn (zDg1 pg j) 0 9 = _ from b_20]; rfl)) ?_
      exact W.zret hx hb hr (zb_nar _) (fun t ht hW => ⟨rfl, ht⟩) (fun q h => by cases h) dX4_isRight_28
    · have heq : j = cg + 1 := (nI_eq (by omega) (by omega)).mp c_9
      refine lv_aload_n hx hb dX4_isRight_12 rfl (lv_at hl 0 rfl) ?_
      refine lv_iload_n hx hb dX4_isRight_13 rfl (lv_at hl 1 rfl) ?_
      refine lv_iconst (v := 0) hx hb dX4_isRight_14 (by decide) ?_
      refine lv_bipush (v := 9) hx hb dX4_isRight_15 (by decide) ?_
      refine vz_rd (va_runV (As := [.int (nI j), .int 0, .int 9]) (rest := []) FX (c_X4_isDigit l D cI cB cF pg0 co ln pg (nI j) 0 9 ) (cwV 3 hts gX4_isRight_X4_isDigit rfl rfl rfl ⟨rfl, hd_X4_isDigit⟩ ⟨Nat.le_of_ble_eq_true rfl, Nat.le_of_ble_eq_true rfl⟩) (preP_V hQ 0 rfl rfl (hQ.sub (ws' := [(pg0, .inr (4, [.ref co, .int (nI ln)])), (co, .inl (cI, 18, .inl pg))]) [0, 1] rfl) hK) rfl rfl hl.1 rfl (lv_room (Nat.le_of_ble_eq_true rfl)) dX4_isRight_17 ⟨Nat.le_of_ble_eq_true rfl, Nat.le_of_ble_eq_true rfl⟩) ?_
      refine lv_if_eq (tgt := 27) hx hb dX4_isRight_20 (by decide) (fun c_20 => ?_) (fun c_20 => ?_)
      · have b_20 : (zIn (zAt pg 18 (nI j) - 48) 0 9) = false := zb_f c_20
        refine lv_iconst (v := 0) hx hb dX4_isRight_27 (by decide) ?_
        refine vz_si (zb (zRt pg cg j)) (by unfold zRt; rw [if_pos hgt]; first | (rw [decide_eq_false hne]; rfl) | (rw [decide_eq_true heq]; rw [show zIn (zDg1 pg j) 0 9 = _ from b_20]; rfl)) ?_
        exact W.zret hx hb hr (zb_nar _) (fun t ht hW => ⟨rfl, ht⟩) (fun q h => by cases h) dX4_isRight_28
      · have b_20 : (zIn (zAt pg 18 (nI j) - 48) 0 9) = true := zb_t c_20
        refine lv_iconst (v := 1) hx hb dX4_isRight_23 (by decide) ?_
        refine lv_goto (tgt := 28) hx hb dX4_isRight_24 (by decide) ?_
        refine vz_si (zb (zRt pg cg j)) (by unfold zRt; rw [if_pos hgt]; first | (rw [decide_eq_false hne]; rfl) | (rw [decide_eq_true heq]; rw [show zIn (zDg1 pg j) 0 9 = _ from b_20]; rfl)) ?_
        exact W.zret hx hb hr (zb_nar _) (fun t ht hW => ⟨rfl, ht⟩) (fun q h => by cases h) dX4_isRight_28
set_option maxRecDepth 100000 in
theorem iw_X4_rightLetters_X4 : ∀ w ∈ u_ws RX4 TX4 2, w ∈ wsX4_rightLetters := fun w h => List.mem_cons_of_mem _ (List.mem_append_right _ h)
set_option maxRecDepth 100000 in
theorem hw_X4_rightLetters_1 : (.fieldLink RX4 15 "RotaFathers$Page" "length" "I" : Cond) ∈ wsX4_rightLetters := List.mem_of_getElem? (i := 1) rfl
set_option maxRecDepth 100000 in
theorem hd_X4_rightLetters : yX4_rightLetters.cls ≠ "java/lang/invoke/MethodHandle" ∧ yX4_rightLetters.cls ≠ "java/lang/invoke/VarHandle" ∧ (parseMethodDescriptor yX4_rightLetters.desc).map (fun d => d.parameters.length) = some 0 := by decide +kernel
set_option maxHeartbeats 4000000 in
set_option maxRecDepth 100000 in
theorem c_X4_rightLetters (l : Launch) (D : va_G) (cI cB cF : ClassId) (pg0 : Nat) (co : Nat) (ln : Nat) (pg : Nat → Int32) (hln : ln ≤ 18) : Met l yX4_rightLetters wsX4_rightLetters ({ frames := 4, cells := 0, slots := 0, locals := 88 } : Room) (PcP D cI cB cF [.ref pg0] [(pg0, .inr (4, [.ref co, .int (nI ln)])), (co, .inl (cI, 18, .inl pg))]) (QcV (.int (nI (zRl pg (zCg pg ln) ln)))) 0 0 (fun _ => False) := by
  refine Met.ofW (cc := cX4_rightLetters) (maxL := 3) (ret := (some .int)) (by decide) rfl ?_
  intro p e s m args below meth c s₁ Bd hml hv
  rw [show (headSpec wsX4_rightLetters ({ frames := 4, cells := 0, slots := 0, locals := 88 } : Room)).room = ({ frames := 4, cells := 0, slots := 0, locals := 88 } : Room) from rfl]
  obtain ⟨rfl, hQ, hK⟩ := hv
  have hx := Bd.exec
  have hb := Bd.bytes
  have hr := Bd.returns
  have hts := atoms_spec (ws := wsX4_rightLetters) Bd.pre
  have hown : s.vm.findClass RX4 = some m.cls := findClass_of_methodNamed Bd.named
  have hlocks := Bd.notSynchronized
  have FX : CallFix p m c cX4_rightLetters 3 s _ wsX4_rightLetters RX4 := ⟨hx, hb, hml, hown, hts⟩
  have hQ : va_P D vwCl [(pg0, .inr (4, [.ref co, .int (nI ln)])), (co, .inl (cI, 18, .inl pg))] s.heap := hQ
  have hl := lv_entry ([.ref pg0]) (n := 3) (Nat.le_of_ble_eq_true rfl)
  rw [lg_entry_eq]
  generalize (lg_sl ([.ref pg0]) ++ List.replicate (3 - (lg_sl ([.ref pg0])).length) Slot.unset).toArray = ls at hl ⊢
  have hl : lv_has ls 3 [(0, .ref pg0)] := hl
  refine lv_aload_n hx hb dX4_rightLetters_0 rfl (lv_at hl 0 rfl) ?_
  refine vz_rd (va_runV (As := []) (rest := []) FX (c_X4_closing l D cI cB cF pg0 co ln pg (by first | assumption | omega | decide)) (cwV 0 hts gX4_rightLetters_X4_closing rfl rfl rfl ⟨rfl, hd_X4_closing⟩ ⟨Nat.le_of_ble_eq_true rfl, Nat.le_of_ble_eq_true rfl⟩) (preP_V hQ 0 rfl rfl (hQ.sub (ws' := [(pg0, .inr (4, [.ref co, .int (nI ln)])), (co, .inl (cI, 18, .inl pg))]) [0, 1] rfl) hK) rfl rfl hl.1 rfl (lv_room (Nat.le_of_ble_eq_true rfl)) dX4_rightLetters_1 ⟨Nat.le_of_ble_eq_true rfl, Nat.le_of_ble_eq_true rfl⟩) ?_
  refine lv_istore_n (lv' := [(1, .int (nI (zCg pg ln))), (0, .ref pg0)]) hx hb dX4_rightLetters_4 rfl hl (by decide) rfl (fun ls hl => ?_)
  refine lv_iconst (v := 0) hx hb dX4_rightLetters_5 (by decide) ?_
  refine lv_istore_n (lv' := [(2, .int 0), (1, .int (nI (zCg pg ln))), (0, .ref pg0)]) hx hb dX4_rightLetters_6 rfl hl (by decide) rfl (fun ls hl => ?_)
  refine vz_loopP (nL := 3) (σ := Nat) (fun xx => ln - xx) (fun xx => (xx ≤ ln) ∧ (∀ j, j < xx → zRt pg (zCg pg ln) j = true)) (fun xx => [(0, .ref pg0), (1, .int (nI (zCg pg ln))), (2, .int (nI xx))]) (fun xx => []) ?_ 0 ⟨Nat.zero_le _, fun j h => absurd h (Nat.not_lt_zero _)⟩ (lv_sub hl [2, 1, 0] rfl)
  rintro k hI ih_7 ls hl
  obtain ⟨hk, hg⟩ := hI
  have hk : k ≤ ln := hk
  have hg : ∀ j, j < k → zRt pg (zCg pg ln) j = true := hg
  have hl : lv_has ls 3 [(0, .ref pg0), (1, .int (nI (zCg pg ln))), (2, .int (nI k))] := hl
  show W _ _ _ _ _ _ _ _ _ _ _ _ _ _ _ (F0 m 7 ls [])
  refine lv_iload_n hx hb dX4_rightLetters_7 rfl (lv_at hl 2 rfl) ?_
  refine lv_aload_n hx hb dX4_rightLetters_8 rfl (lv_at hl 0 rfl) ?_
  refine va_get (D := D) (cl := vwCl) (tys := zT cI cB cF) (ci := 4) (v := .int (nI ln)) (C := RX4) (T := TX4) (N := 2) hx hb hts iw_X4_rightLetters_X4 hown hK.1 hQ 0 rfl rfl 1 (by decide) (hts _ hw_X4_rightLetters_1) (fun _ h9 => h9) rfl dX4_rightLetters_9 ?_
  refine lv_icmp_ge (tgt := 30) hx hb dX4_rightLetters_12 (by decide) (fun c_12 => ?_) (fun c_12 => ?_)
  · have hge_12 : ln ≤ k := (nI_zle (a := ln) (b := k) (by omega) (by omega)).mp c_12
    refine lv_iload_n hx hb dX4_rightLetters_30 rfl (lv_at hl 2 rfl) ?_
    refine vz_si (nI (zRl pg (zCg pg ln) ln)) (by rw [zRl_u hk hg (by first | exact fun h => absurd h (by omega) | exact fun _ h => absurd (b_21.symm.trans h) (by decide))]) ?_
    exact W.iret hx hb hr (fun t ht hW => ⟨rfl, ht⟩) (fun q h => by cases h) dX4_rightLetters_31
  · have hlt_12 : k < ln := Nat.lt_of_not_le fun q => c_12 ((nI_zle (a := ln) (b := k) (by omega) (by omega)).mpr q)
    refine lv_aload_n hx hb dX4_rightLetters_15 rfl (lv_at hl 0 rfl) ?_
    refine lv_iload_n hx hb dX4_rightLetters_16 rfl (lv_at hl 2 rfl) ?_
    refine lv_iload_n hx hb dX4_rightLetters_17 rfl (lv_at hl 1 rfl) ?_
    refine vz_rd (va_runV (As := [.int (nI k), .int (nI (zCg pg ln))]) (rest := []) FX (c_X4_isRight l D cI cB cF pg0 co ln pg k (zCg pg ln) (by omega) (by have := zCg_le pg ln; omega)) (cwV 2 hts gX4_rightLetters_X4_isRight rfl rfl rfl ⟨rfl, hd_X4_isRight⟩ ⟨Nat.le_of_ble_eq_true rfl, Nat.le_of_ble_eq_true rfl⟩) (preP_V hQ 0 rfl rfl (hQ.sub (ws' := [(pg0, .inr (4, [.ref co, .int (nI ln)])), (co, .inl (cI, 18, .inl pg))]) [0, 1] rfl) hK) rfl rfl hl.1 rfl (lv_room (Nat.le_of_ble_eq_true rfl)) dX4_rightLetters_18 ⟨Nat.le_of_ble_eq_true rfl, Nat.le_of_ble_eq_true rfl⟩) ?_
    refine lv_if_eq (tgt := 30) hx hb dX4_rightLetters_21 (by decide) (fun c_21 => ?_) (fun c_21 => ?_)
    · have b_21 : (zRt pg (zCg pg ln) k) = false := zb_f c_21
      refine lv_iload_n hx hb dX4_rightLetters_30 rfl (lv_at hl 2 rfl) ?_
      refine vz_si (nI (zRl pg (zCg pg ln) ln)) (by rw [zRl_u hk hg (by first | exact fun h => absurd h (by omega) | exact fun _ h => absurd (b_21.symm.trans h) (by decide))]) ?_
      exact W.iret hx hb hr (fun t ht hW => ⟨rfl, ht⟩) (fun q h => by cases h) dX4_rightLetters_31
    · have b_21 : (zRt pg (zCg pg ln) k) = true := zb_t c_21
      refine lv_iinc (v := (nI (k + 1))) (lv' := [(2, .int (nI (k + 1))), (0, .ref pg0), (1, .int (nI (zCg pg ln)))]) hx hb dX4_rightLetters_24 hl (k := 2) rfl ((nI_succ k).symm) (by decide) rfl (fun ls hl => ?_)
      refine lv_goto (tgt := 7) hx hb dX4_rightLetters_27 (by decide) ?_
      exact ih_7 (k + 1) (by (try dsimp only); omega) ⟨hlt_12, fun j hj => by rcases Nat.lt_succ_iff_lt_or_eq.mp hj with h | h; exact hg j h; rw [h]; exact b_21⟩ ls (lv_sub hl [1, 2, 0] rfl)
set_option maxRecDepth 100000 in
theorem iw_X4_isWhole_X4 : ∀ w ∈ u_ws RX4 TX4 2, w ∈ wsX4_isWhole := fun w h => List.mem_cons_of_mem _ (List.mem_append_right _ h)
set_option maxRecDepth 100000 in
theorem hw_X4_isWhole_1 : (.fieldLink RX4 15 "RotaFathers$Page" "length" "I" : Cond) ∈ wsX4_isWhole := List.mem_of_getElem? (i := 1) rfl
set_option maxRecDepth 100000 in
theorem hd_X4_isWhole : yX4_isWhole.cls ≠ "java/lang/invoke/MethodHandle" ∧ yX4_isWhole.cls ≠ "java/lang/invoke/VarHandle" ∧ (parseMethodDescriptor yX4_isWhole.desc).map (fun d => d.parameters.length) = some 0 := by decide +kernel
set_option maxHeartbeats 4000000 in
set_option maxRecDepth 100000 in
theorem c_X4_isWhole (l : Launch) (D : va_G) (cI cB cF : ClassId) (pg0 : Nat) (co : Nat) (ln : Nat) (pg : Nat → Int32) (hln : ln ≤ 18) : Met l yX4_isWhole wsX4_isWhole ({ frames := 5, cells := 0, slots := 0, locals := 110 } : Room) (PcP D cI cB cF [.ref pg0] [(pg0, .inr (4, [.ref co, .int (nI ln)])), (co, .inl (cI, 18, .inl pg))]) (QcV (.int (zb (zWhole pg ln)))) 0 0 (fun _ => False) := by
  refine Met.ofW (cc := cX4_isWhole) (maxL := 1) (ret := (some .boolean)) (by decide) rfl ?_
  intro p e s m args below meth c s₁ Bd hml hv
  rw [show (headSpec wsX4_isWhole ({ frames := 5, cells := 0, slots := 0, locals := 110 } : Room)).room = ({ frames := 5, cells := 0, slots := 0, locals := 110 } : Room) from rfl]
  obtain ⟨rfl, hQ, hK⟩ := hv
  have hx := Bd.exec
  have hb := Bd.bytes
  have hr := Bd.returns
  have hts := atoms_spec (ws := wsX4_isWhole) Bd.pre
  have hown : s.vm.findClass RX4 = some m.cls := findClass_of_methodNamed Bd.named
  have hlocks := Bd.notSynchronized
  have FX : CallFix p m c cX4_isWhole 1 s _ wsX4_isWhole RX4 := ⟨hx, hb, hml, hown, hts⟩
  have hQ : va_P D vwCl [(pg0, .inr (4, [.ref co, .int (nI ln)])), (co, .inl (cI, 18, .inl pg))] s.heap := hQ
  have hl := lv_entry ([.ref pg0]) (n := 1) (Nat.le_of_ble_eq_true rfl)
  rw [lg_entry_eq]
  generalize (lg_sl ([.ref pg0]) ++ List.replicate (1 - (lg_sl ([.ref pg0])).length) Slot.unset).toArray = ls at hl ⊢
  have hl : lv_has ls 1 [(0, .ref pg0)] := hl
  have hcl := zCg_le pg ln
  have hrl : zRl pg (zCg pg ln) ln ≤ ln := zRl_le _ _ _
  refine lv_aload_n hx hb dX4_isWhole_0 rfl (lv_at hl 0 rfl) ?_
  refine va_get (D := D) (cl := vwCl) (tys := zT cI cB cF) (ci := 4) (v := .int (nI ln)) (C := RX4) (T := TX4) (N := 2) hx hb hts iw_X4_isWhole_X4 hown hK.1 hQ 0 rfl rfl 1 (by decide) (hts _ hw_X4_isWhole_1) (fun _ h9 => h9) rfl dX4_isWhole_1 ?_
  refine lv_aload_n hx hb dX4_isWhole_4 rfl (lv_at hl 0 rfl) ?_
  refine vz_rd (va_runV (As := []) (rest := [.int (nI ln)]) FX (c_X4_closing l D cI cB cF pg0 co ln pg (by first | assumption | omega | decide)) (cwV 0 hts gX4_isWhole_X4_closing rfl rfl rfl ⟨rfl, hd_X4_closing⟩ ⟨Nat.le_of_ble_eq_true rfl, Nat.le_of_ble_eq_true rfl⟩) (preP_V hQ 0 rfl rfl (hQ.sub (ws' := [(pg0, .inr (4, [.ref co, .int (nI ln)])), (co, .inl (cI, 18, .inl pg))]) [0, 1] rfl) hK) rfl rfl hl.1 rfl (lv_room (Nat.le_of_ble_eq_true rfl)) dX4_isWhole_5 ⟨Nat.le_of_ble_eq_true rfl, Nat.le_of_ble_eq_true rfl⟩) ?_
  refine lv_iconst (v := 2) hx hb dX4_isWhole_8 (by decide) ?_
  refine lv_iadd hx hb dX4_isWhole_9 ?_
  refine vz_si (nI (zCg pg ln + 2)) (nI_add _ 2) ?_
  refine lv_icmp_ne (tgt := 28) hx hb dX4_isWhole_10 (by decide) (fun c_10 => ?_) (fun c_10 => ?_)
  · have hne : ¬ ln = zCg pg ln + 2 := fun q => c_10 (by rw [← q])
    refine lv_iconst (v := 0) hx hb dX4_isWhole_28 (by decide) ?_
    refine vz_si (zb (zWhole pg ln)) (by unfold zWhole; first | (rw [decide_eq_false hne]; rfl) | (rw [decide_eq_true heq, decide_eq_false hne2]; rfl) | (rw [decide_eq_true heq, decide_eq_true heq2]; rfl)) ?_
    exact W.zret hx hb hr (zb_nar _) (fun t ht hW => ⟨rfl, ht⟩) (fun q h => by cases h) dX4_isWhole_29
  · have heq : ln = zCg pg ln + 2 := (nI_eq (by omega) (by omega)).mp c_10
    refine lv_aload_n hx hb dX4_isWhole_13 rfl (lv_at hl 0 rfl) ?_
    refine vz_rd (va_runV (As := []) (rest := []) FX (c_X4_rightLetters l D cI cB cF pg0 co ln pg (by first | assumption | omega | decide)) (cwV 0 hts gX4_isWhole_X4_rightLetters rfl rfl rfl ⟨rfl, hd_X4_rightLetters⟩ ⟨Nat.le_of_ble_eq_true rfl, Nat.le_of_ble_eq_true rfl⟩) (preP_V hQ 0 rfl rfl (hQ.sub (ws' := [(pg0, .inr (4, [.ref co, .int (nI ln)])), (co, .inl (cI, 18, .inl pg))]) [0, 1] rfl) hK) rfl rfl hl.1 rfl (lv_room (Nat.le_of_ble_eq_true rfl)) dX4_isWhole_14 ⟨Nat.le_of_ble_eq_true rfl, Nat.le_of_ble_eq_true rfl⟩) ?_
    refine lv_aload_n hx hb dX4_isWhole_17 rfl (lv_at hl 0 rfl) ?_
    refine va_get (D := D) (cl := vwCl) (tys := zT cI cB cF) (ci := 4) (v := .int (nI ln)) (C := RX4) (T := TX4) (N := 2) hx hb hts iw_X4_isWhole_X4 hown hK.1 hQ 0 rfl rfl 1 (by decide) (hts _ hw_X4_isWhole_1) (fun _ h9 => h9) rfl dX4_isWhole_18 ?_
    refine lv_icmp_ne (tgt := 28) hx hb dX4_isWhole_21 (by decide) (fun c_21 => ?_) (fun c_21 => ?_)
    · have hne2 : ¬ zRl pg (zCg pg ln) ln = ln := fun q => c_21 (by rw [q])
      refine lv_iconst (v := 0) hx hb dX4_isWhole_28 (by decide) ?_
      refine vz_si (zb (zWhole pg ln)) (by unfold zWhole; first | (rw [decide_eq_false hne]; rfl) | (rw [decide_eq_true heq, decide_eq_false hne2]; rfl) | (rw [decide_eq_true heq, decide_eq_true heq2]; rfl)) ?_
      exact W.zret hx hb hr (zb_nar _) (fun t ht hW => ⟨rfl, ht⟩) (fun q h => by cases h) dX4_isWhole_29
    · have heq2 : zRl pg (zCg pg ln) ln = ln := (nI_eq (by omega) (by omega)).mp c_21
      refine lv_iconst (v := 1) hx hb dX4_isWhole_24 (by decide) ?_
      refine lv_goto (tgt := 29) hx hb dX4_isWhole_25 (by decide) ?_
      refine vz_si (zb (zWhole pg ln)) (by unfold zWhole; first | (rw [decide_eq_false hne]; rfl) | (rw [decide_eq_true heq, decide_eq_false hne2]; rfl) | (rw [decide_eq_true heq, decide_eq_true heq2]; rfl)) ?_
      exact W.zret hx hb hr (zb_nar _) (fun t ht hW => ⟨rfl, ht⟩) (fun q h => by cases h) dX4_isWhole_29
set_option maxRecDepth 100000 in
theorem hw_X4_fathers_1 : (.methodLink RX4 38 Lib.Math.min.name : Cond) ∈ wsX4_fathers := List.mem_of_getElem? (i := 1) rfl
set_option maxRecDepth 100000 in
theorem hw_X4_fathers_2 : (.static Lib.Math.min.name : Cond) ∈ wsX4_fathers := List.mem_of_getElem? (i := 2) rfl
set_option maxRecDepth 100000 in
theorem hw_X4_fathers_3 : (.initialized "java/lang/Math" : Cond) ∈ wsX4_fathers := List.mem_of_getElem? (i := 3) rfl
set_option maxRecDepth 100000 in
theorem hw_X4_fathers_4 : (.code Lib.Math.min.name Lib.Math.min.code 2 (some .int) : Cond) ∈ wsX4_fathers := List.mem_of_getElem? (i := 4) rfl
set_option maxRecDepth 100000 in
theorem hd_X4_fathers : yX4_fathers.cls ≠ "java/lang/invoke/MethodHandle" ∧ yX4_fathers.cls ≠ "java/lang/invoke/VarHandle" ∧ (parseMethodDescriptor yX4_fathers.desc).map (fun d => d.parameters.length) = some 0 := by decide +kernel
set_option maxHeartbeats 4000000 in
set_option maxRecDepth 100000 in
theorem c_X4_fathers (l : Launch) (D : va_G) (cI cB cF : ClassId) (pg0 : Nat) (co : Nat) (ln : Nat) (pg : Nat → Int32) (hln : ln ≤ 18) : Met l yX4_fathers wsX4_fathers ({ frames := 3, cells := 0, slots := 0, locals := 63 } : Room) (PcP D cI cB cF [.ref pg0] [(pg0, .inr (4, [.ref co, .int (nI ln)])), (co, .inl (cI, 18, .inl pg))]) (QcV (.int (nI (zFm ((zCg pg ln + 1) / 4))))) 0 0 (fun _ => False) := by
  refine Met.ofW (cc := cX4_fathers) (maxL := 1) (ret := (some .int)) (by decide) rfl ?_
  intro p e s m args below meth c s₁ Bd hml hv
  rw [show (headSpec wsX4_fathers ({ frames := 3, cells := 0, slots := 0, locals := 63 } : Room)).room = ({ frames := 3, cells := 0, slots := 0, locals := 63 } : Room) from rfl]
  obtain ⟨rfl, hQ, hK⟩ := hv
  have hx := Bd.exec
  have hb := Bd.bytes
  have hr := Bd.returns
  have hts := atoms_spec (ws := wsX4_fathers) Bd.pre
  have hown : s.vm.findClass RX4 = some m.cls := findClass_of_methodNamed Bd.named
  have hlocks := Bd.notSynchronized
  have FX : CallFix p m c cX4_fathers 1 s _ wsX4_fathers RX4 := ⟨hx, hb, hml, hown, hts⟩
  have hQ : va_P D vwCl [(pg0, .inr (4, [.ref co, .int (nI ln)])), (co, .inl (cI, 18, .inl pg))] s.heap := hQ
  have hl := lv_entry ([.ref pg0]) (n := 1) (Nat.le_of_ble_eq_true rfl)
  rw [lg_entry_eq]
  generalize (lg_sl ([.ref pg0]) ++ List.replicate (1 - (lg_sl ([.ref pg0])).length) Slot.unset).toArray = ls at hl ⊢
  have hl : lv_has ls 1 [(0, .ref pg0)] := hl
  have hcl := zCg_le pg ln
  refine lv_aload_n hx hb dX4_fathers_0 rfl (lv_at hl 0 rfl) ?_
  refine vz_rd (va_runV (As := []) (rest := []) FX (c_X4_closing l D cI cB cF pg0 co ln pg (by first | assumption | omega | decide)) (cwV 0 hts gX4_fathers_X4_closing rfl rfl rfl ⟨rfl, hd_X4_closing⟩ ⟨Nat.le_of_ble_eq_true rfl, Nat.le_of_ble_eq_true rfl⟩) (preP_V hQ 0 rfl rfl (hQ.sub (ws' := [(pg0, .inr (4, [.ref co, .int (nI ln)])), (co, .inl (cI, 18, .inl pg))]) [0, 1] rfl) hK) rfl rfl hl.1 rfl (lv_room (Nat.le_of_ble_eq_true rfl)) dX4_fathers_1 ⟨Nat.le_of_ble_eq_true rfl, Nat.le_of_ble_eq_true rfl⟩) ?_
  refine lv_iconst (v := 1) hx hb dX4_fathers_4 (by decide) ?_
  refine lv_iadd hx hb dX4_fathers_5 ?_
  refine vz_si (nI (zCg pg ln + 1)) (nI_1 _) ?_
  refine lv_iconst (v := 4) hx hb dX4_fathers_6 (by decide) ?_
  refine lv_idiv hx hb dX4_fathers_7 (by decide) ?_
  refine vz_si (nI ((zCg pg ln + 1) / 4)) (pk_div (d := 4) (by omega) (by decide) (by decide)) ?_
  refine lv_iconst (v := 4) hx hb dX4_fathers_8 (by decide) ?_
  refine va_mmin hx hb (hml.trans hl.1.symm) hown (hts _ hw_X4_fathers_1) (hts _ hw_X4_fathers_2) (hts _ hw_X4_fathers_3) (hts _ hw_X4_fathers_4) (Nat.le_of_ble_eq_true rfl) (Nat.le_of_ble_eq_true rfl) (Nat.le_of_ble_eq_true rfl) (Nat.le_of_ble_eq_true rfl) dX4_fathers_9 ?_
  refine vz_si (nI (zFm ((zCg pg ln + 1) / 4))) (zFm_i (by omega)) ?_
  exact W.iret hx hb hr (fun t ht hW => ⟨rfl, ht⟩) (fun q h => by cases h) dX4_fathers_12
set_option maxRecDepth 100000 in
theorem hd_X4_fit : yX4_fit.cls ≠ "java/lang/invoke/MethodHandle" ∧ yX4_fit.cls ≠ "java/lang/invoke/VarHandle" ∧ (parseMethodDescriptor yX4_fit.desc).map (fun d => d.parameters.length) = some 0 := by decide +kernel
set_option maxHeartbeats 4000000 in
set_option maxRecDepth 100000 in
theorem c_X4_fit (l : Launch) (D : va_G) (cI cB cF : ClassId) (pg0 : Nat) (co : Nat) (ln : Nat) (pg : Nat → Int32) (hln : ln ≤ 18) : Met l yX4_fit wsX4_fit ({ frames := 3, cells := 0, slots := 0, locals := 63 } : Room) (PcP D cI cB cF [.ref pg0] [(pg0, .inr (4, [.ref co, .int (nI ln)])), (co, .inl (cI, 18, .inl pg))]) (QcV (.int (zDg1 pg (zCg pg ln + 1)))) 0 0 (fun _ => False) := by
  refine Met.ofW (cc := cX4_fit) (maxL := 1) (ret := (some .int)) (by decide) rfl ?_
  intro p e s m args below meth c s₁ Bd hml hv
  rw [show (headSpec wsX4_fit ({ frames := 3, cells := 0, slots := 0, locals := 63 } : Room)).room = ({ frames := 3, cells := 0, slots := 0, locals := 63 } : Room) from rfl]
  obtain ⟨rfl, hQ, hK⟩ := hv
  have hx := Bd.exec
  have hb := Bd.bytes
  have hr := Bd.returns
  have hts := atoms_spec (ws := wsX4_fit) Bd.pre
  have hown : s.vm.findClass RX4 = some m.cls := findClass_of_methodNamed Bd.named
  have hlocks := Bd.notSynchronized
  have FX : CallFix p m c cX4_fit 1 s _ wsX4_fit RX4 := ⟨hx, hb, hml, hown, hts⟩
  have hQ : va_P D vwCl [(pg0, .inr (4, [.ref co, .int (nI ln)])), (co, .inl (cI, 18, .inl pg))] s.heap := hQ
  have hl := lv_entry ([.ref pg0]) (n := 1) (Nat.le_of_ble_eq_true rfl)
  rw [lg_entry_eq]
  generalize (lg_sl ([.ref pg0]) ++ List.replicate (1 - (lg_sl ([.ref pg0])).length) Slot.unset).toArray = ls at hl ⊢
  have hl : lv_has ls 1 [(0, .ref pg0)] := hl
  refine lv_aload_n hx hb dX4_fit_0 rfl (lv_at hl 0 rfl) ?_
  refine lv_aload_n hx hb dX4_fit_1 rfl (lv_at hl 0 rfl) ?_
  refine vz_rd (va_runV (As := []) (rest := [.ref pg0]) FX (c_X4_closing l D cI cB cF pg0 co ln pg (by first | assumption | omega | decide)) (cwV 0 hts gX4_fit_X4_closing rfl rfl rfl ⟨rfl, hd_X4_closing⟩ ⟨Nat.le_of_ble_eq_true rfl, Nat.le_of_ble_eq_true rfl⟩) (preP_V hQ 0 rfl rfl (hQ.sub (ws' := [(pg0, .inr (4, [.ref co, .int (nI ln)])), (co, .inl (cI, 18, .inl pg))]) [0, 1] rfl) hK) rfl rfl hl.1 rfl (lv_room (Nat.le_of_ble_eq_true rfl)) dX4_fit_2 ⟨Nat.le_of_ble_eq_true rfl, Nat.le_of_ble_eq_true rfl⟩) ?_
  refine lv_iconst (v := 1) hx hb dX4_fit_5 (by decide) ?_
  refine lv_iadd hx hb dX4_fit_6 ?_
  refine vz_si (nI (zCg pg ln + 1)) (nI_1 _) ?_
  refine vz_rd (va_runV (As := [.int (nI (zCg pg ln + 1))]) (rest := []) FX (c_X4_digit l D cI cB cF pg0 co ln pg (nI (zCg pg ln + 1)) ) (cwV 1 hts gX4_fit_X4_digit rfl rfl rfl ⟨rfl, hd_X4_digit⟩ ⟨Nat.le_of_ble_eq_true rfl, Nat.le_of_ble_eq_true rfl⟩) (preP_V hQ 0 rfl rfl (hQ.sub (ws' := [(pg0, .inr (4, [.ref co, .int (nI ln)])), (co, .inl (cI, 18, .inl pg))]) [0, 1] rfl) hK) rfl rfl hl.1 rfl (lv_room (Nat.le_of_ble_eq_true rfl)) dX4_fit_7 ⟨Nat.le_of_ble_eq_true rfl, Nat.le_of_ble_eq_true rfl⟩) ?_
  refine vz_si (zDg1 pg (zCg pg ln + 1)) (rfl) ?_
  exact W.iret hx hb hr (fun t ht hW => ⟨rfl, ht⟩) (fun q h => by cases h) dX4_fit_10
set_option maxRecDepth 100000 in
theorem iw_X4_father_X0 : ∀ w ∈ u_ws RX0 TX0 2, w ∈ wsX4_father := fun w h => List.mem_cons_of_mem _ (List.mem_append_left _ (List.mem_append_left _ (List.mem_append_right _ h)))
set_option maxRecDepth 100000 in
theorem hw_X4_father_10 : (.classLink RX4 62 RX0 : Cond) ∈ wsX4_father := List.mem_of_getElem? (i := 10) rfl
set_option maxRecDepth 100000 in
theorem hw_X4_father_11 : (.instantiable RX0 2 : Cond) ∈ wsX4_father := List.mem_of_getElem? (i := 11) rfl
set_option maxRecDepth 100000 in
theorem hw_X4_father_12 : (.initialized RX0 : Cond) ∈ wsX4_father := List.mem_of_getElem? (i := 12) rfl
set_option maxRecDepth 100000 in
theorem hw_X4_father_48 : (.methodLink RX4 64 yX0_init : Cond) ∈ wsX4_father := List.mem_of_getElem? (i := 48) rfl
set_option maxRecDepth 100000 in
theorem hw_X4_father_49 : (.instanceMethod yX0_init : Cond) ∈ wsX4_father := List.mem_of_getElem? (i := 49) rfl
set_option maxRecDepth 100000 in
theorem iw_X4_father_X1 : ∀ w ∈ u_ws RX1 TX1 2, w ∈ wsX4_father := fun w h => List.mem_cons_of_mem _ (List.mem_append_left _ (List.mem_append_left _ (List.mem_append_left _ (List.mem_append_left _ (List.mem_append_left _ (List.mem_append_right _ h))))))
set_option maxRecDepth 100000 in
theorem hw_X4_father_1 : (.classLink RX4 51 RX1 : Cond) ∈ wsX4_father := List.mem_of_getElem? (i := 1) rfl
set_option maxRecDepth 100000 in
theorem hw_X4_father_2 : (.instantiable RX1 2 : Cond) ∈ wsX4_father := List.mem_of_getElem? (i := 2) rfl
set_option maxRecDepth 100000 in
theorem hw_X4_father_3 : (.initialized RX1 : Cond) ∈ wsX4_father := List.mem_of_getElem? (i := 3) rfl
set_option maxRecDepth 100000 in
theorem hw_X4_father_29 : (.methodLink RX4 53 yX1_init : Cond) ∈ wsX4_father := List.mem_of_getElem? (i := 29) rfl
set_option maxRecDepth 100000 in
theorem hw_X4_father_30 : (.instanceMethod yX1_init : Cond) ∈ wsX4_father := List.mem_of_getElem? (i := 30) rfl
set_option maxRecDepth 100000 in
theorem iw_X4_father_X5 : ∀ w ∈ u_ws RX5 TX5 2, w ∈ wsX4_father := fun w h => List.mem_cons_of_mem _ (List.mem_append_left _ (List.mem_append_left _ (List.mem_append_left _ (List.mem_append_right _ h))))
set_option maxRecDepth 100000 in
theorem hw_X4_father_7 : (.classLink RX4 59 RX5 : Cond) ∈ wsX4_father := List.mem_of_getElem? (i := 7) rfl
set_option maxRecDepth 100000 in
theorem hw_X4_father_8 : (.instantiable RX5 2 : Cond) ∈ wsX4_father := List.mem_of_getElem? (i := 8) rfl
set_option maxRecDepth 100000 in
theorem hw_X4_father_9 : (.initialized RX5 : Cond) ∈ wsX4_father := List.mem_of_getElem? (i := 9) rfl
set_option maxRecDepth 100000 in
theorem hw_X4_father_44 : (.methodLink RX4 61 yX5_init : Cond) ∈ wsX4_father := List.mem_of_getElem? (i := 44) rfl
set_option maxRecDepth 100000 in
theorem hw_X4_father_45 : (.instanceMethod yX5_init : Cond) ∈ wsX4_father := List.mem_of_getElem? (i := 45) rfl
set_option maxRecDepth 100000 in
theorem iw_X4_father_X6 : ∀ w ∈ u_ws RX6 TX6 2, w ∈ wsX4_father := fun w h => List.mem_cons_of_mem _ (List.mem_append_left _ (List.mem_append_left _ (List.mem_append_left _ (List.mem_append_left _ (List.mem_append_right _ h)))))
set_option maxRecDepth 100000 in
theorem hw_X4_father_4 : (.classLink RX4 56 RX6 : Cond) ∈ wsX4_father := List.mem_of_getElem? (i := 4) rfl
set_option maxRecDepth 100000 in
theorem hw_X4_father_5 : (.instantiable RX6 2 : Cond) ∈ wsX4_father := List.mem_of_getElem? (i := 5) rfl
set_option maxRecDepth 100000 in
theorem hw_X4_father_6 : (.initialized RX6 : Cond) ∈ wsX4_father := List.mem_of_getElem? (i := 6) rfl
set_option maxRecDepth 100000 in
theorem hw_X4_father_40 : (.methodLink RX4 58 yX6_init : Cond) ∈ wsX4_father := List.mem_of_getElem? (i := 40) rfl
set_option maxRecDepth 100000 in
theorem hw_X4_father_41 : (.instanceMethod yX6_init : Cond) ∈ wsX4_father := List.mem_of_getElem? (i := 41) rfl
set_option maxRecDepth 100000 in
theorem iw_X4_father_X2 : ∀ w ∈ u_ws RX2 TX2 2, w ∈ wsX4_father := fun w h => List.mem_cons_of_mem _ (List.mem_append_left _ (List.mem_append_right _ h))
set_option maxRecDepth 100000 in
theorem hw_X4_father_13 : (.classLink RX4 65 RX2 : Cond) ∈ wsX4_father := List.mem_of_getElem? (i := 13) rfl
set_option maxRecDepth 100000 in
theorem hw_X4_father_14 : (.instantiable RX2 2 : Cond) ∈ wsX4_father := List.mem_of_getElem? (i := 14) rfl
set_option maxRecDepth 100000 in
theorem hw_X4_father_15 : (.initialized RX2 : Cond) ∈ wsX4_father := List.mem_of_getElem? (i := 15) rfl
set_option maxRecDepth 100000 in
theorem hw_X4_father_52 : (.methodLink RX4 67 yX2_init : Cond) ∈ wsX4_father := List.mem_of_getElem? (i := 52) rfl
set_option maxRecDepth 100000 in
theorem hw_X4_father_33 : (.instanceMethod yX2_init : Cond) ∈ wsX4_father := List.mem_of_getElem? (i := 33) rfl
set_option maxRecDepth 100000 in
theorem hd_X4_father : yX4_father.cls ≠ "java/lang/invoke/MethodHandle" ∧ yX4_father.cls ≠ "java/lang/invoke/VarHandle" ∧ (parseMethodDescriptor yX4_father.desc).map (fun d => d.parameters.length) = some 1 := by decide +kernel
set_option maxHeartbeats 4000000 in
set_option maxRecDepth 100000 in
theorem c_X4_father (l : Launch) (D : va_G) (cI cB cF : ClassId) (sz : Nat) (pg0 : Nat) (co : Nat) (ln : Nat) (pg : Nat → Int32) (f : Nat) (hf : f < 4) : Met l yX4_father wsX4_father ({ frames := 4, cells := 1, slots := 2, locals := 78 } : Room) (PcW D cI cB cF [.ref pg0, .int (nI f)] sz [] [(pg0, .inr (4, [.ref co, .int (nI ln)])), (co, .inl (cI, 18, .inl pg))]) (Qw D (S := Nat) (fun xx => some (.ref xx)) (fun xx => True) (fun xx => [(xx, zO (zKc (zAt pg 18 (nI (4 * f)))) (zDg1 pg (4 * f + 1)) (zDg1 pg (4 * f + 2)))]) (va_A [] sz)) 1 2 (va_A [] sz) := by
  refine Met.ofW (cc := cX4_father) (maxL := 4) (ret := (some (.object "RotaFathers$Father"))) (by decide) rfl ?_
  intro p e s m args below meth c s₁ Bd hml hv
  rw [show (headSpec wsX4_father ({ frames := 4, cells := 1, slots := 2, locals := 78 } : Room)).room = ({ frames := 4, cells := 1, slots := 2, locals := 78 } : Room) from rfl]
  obtain ⟨rfl, hsz, hP, hK, hD0, hR⟩ := hv
  have hx := Bd.exec
  have hb := Bd.bytes
  have hr := Bd.returns
  have hts := atoms_spec (ws := wsX4_father) Bd.pre
  have hown : s.vm.findClass RX4 = some m.cls := findClass_of_methodNamed Bd.named
  have hlocks := Bd.notSynchronized
  have FX : CallFix p m c cX4_father 4 s _ wsX4_father RX4 := ⟨hx, hb, hml, hown, hts⟩
  subst hsz
  have hD := hD0.self (sz := s.heap.size)
  generalize hAe : va_A [] s.heap.size = A at hD hR ⊢
  have hA : ∀ q : Nat, s.heap.size ≤ q → A q := fun q h => by rw [← hAe]; exact Or.inr h
  have hS : va_S A s.heap s.heap [] := va_S.rf
  have hP : va_P D vwCl [] s.heap := hP
  have hQ : va_P D vwCl ([] ++ [(pg0, .inr (4, [.ref co, .int (nI ln)])), (co, .inl (cI, 18, .inl pg))]) s.heap := va_P.app hP (hR.at hS).P
  have hl := lv_entry ([.ref pg0, .int (nI f)]) (n := 4) (Nat.le_of_ble_eq_true rfl)
  rw [lg_entry_eq]
  generalize (lg_sl ([.ref pg0, .int (nI f)]) ++ List.replicate (4 - (lg_sl ([.ref pg0, .int (nI f)])).length) Slot.unset).toArray = ls at hl ⊢
  have hl : lv_has ls 4 [(0, .ref pg0), (1, .int (nI f))] := hl
  refine lv_aload_n hx hb dX4_father_0 rfl (lv_at hl 0 rfl) ?_
  refine lv_iconst (v := 4) hx hb dX4_father_1 (by decide) ?_
  refine lv_iload_n hx hb dX4_father_2 rfl (lv_at hl 1 rfl) ?_
  refine lv_imul hx hb dX4_father_3 ?_
  refine vz_si (nI (4 * f)) (pk_mul 4 f) ?_
  refine lv_iconst (v := 1) hx hb dX4_father_4 (by decide) ?_
  refine lv_iadd hx hb dX4_father_5 ?_
  refine vz_si (nI (4 * f + 1)) (nI_add (4 * f) 1) ?_
  refine vz_rd (va_runV (As := [.int (nI (4 * f + 1))]) (rest := []) FX (c_X4_digit l D cI cB cF pg0 co ln pg (nI (4 * f + 1)) ) (cwV 1 hts gX4_father_X4_digit rfl rfl rfl ⟨rfl, hd_X4_digit⟩ ⟨Nat.le_of_ble_eq_true rfl, Nat.le_of_ble_eq_true rfl⟩) (preP_V hQ 0 rfl rfl (hQ.sub (ws' := [(pg0, .inr (4, [.ref co, .int (nI ln)])), (co, .inl (cI, 18, .inl pg))]) [0, 1] rfl) hK) rfl rfl hl.1 rfl (lv_room (Nat.le_of_ble_eq_true rfl)) dX4_father_6 ⟨Nat.le_of_ble_eq_true rfl, Nat.le_of_ble_eq_true rfl⟩) ?_
  refine vz_si (zDg1 pg (4 * f + 1)) (rfl) ?_
  refine lv_istore_n (lv' := [(2, .int (zDg1 pg (4 * f + 1))), (0, .ref pg0), (1, .int (nI f))]) hx hb dX4_father_9 rfl hl (by decide) rfl (fun ls hl => ?_)
  refine lv_aload_n hx hb dX4_father_10 rfl (lv_at hl 1 rfl) ?_
  refine lv_iconst (v := 4) hx hb dX4_father_11 (by decide) ?_
  refine lv_iload_n hx hb dX4_father_12 rfl (lv_at hl 2 rfl) ?_
  refine lv_imul hx hb dX4_father_13 ?_
  refine vz_si (nI (4 * f)) (pk_mul 4 f) ?_
  refine lv_iconst (v := 2) hx hb dX4_father_14 (by decide) ?_
  refine lv_iadd hx hb dX4_father_15 ?_
  refine vz_si (nI (4 * f + 2)) (nI_add (4 * f) 2) ?_
  refine vz_rd (va_runV (As := [.int (nI (4 * f + 2))]) (rest := []) FX (c_X4_digit l D cI cB cF pg0 co ln pg (nI (4 * f + 2)) ) (cwV 1 hts gX4_father_X4_digit rfl rfl rfl ⟨rfl, hd_X4_digit⟩ ⟨Nat.le_of_ble_eq_true rfl, Nat.le_of_ble_eq_true rfl⟩) (preP_V hQ 0 rfl rfl (hQ.sub (ws' := [(pg0, .inr (4, [.ref co, .int (nI ln)])), (co, .inl (cI, 18, .inl pg))]) [0, 1] rfl) hK) rfl rfl hl.1 rfl (lv_room (Nat.le_of_ble_eq_true rfl)) dX4_father_16 ⟨Nat.le_of_ble_eq_true rfl, Nat.le_of_ble_eq_true rfl⟩) ?_
  refine vz_si (zDg1 pg (4 * f + 2)) (rfl) ?_
  refine lv_istore_n (lv' := [(3, .int (zDg1 pg (4 * f + 2))), (2, .int (zDg1 pg (4 * f + 1))), (0, .ref pg0), (1, .int (nI f))]) hx hb dX4_father_19 rfl hl (by decide) rfl (fun ls hl => ?_)
  refine lv_aload_n hx hb dX4_father_20 rfl (lv_at hl 2 rfl) ?_
  refine lv_iconst (v := 4) hx hb dX4_father_21 (by decide) ?_
  refine lv_iload_n hx hb dX4_father_22 rfl (lv_at hl 3 rfl) ?_
  refine lv_imul hx hb dX4_father_23 ?_
  refine vz_si (nI (4 * f)) (pk_mul 4 f) ?_
  refine vz_rd (va_runV (As := [.int (nI (4 * f))]) (rest := []) FX (c_X4_code l D cI cB cF pg0 co ln pg (nI (4 * f)) ) (cwV 1 hts gX4_father_X4_code rfl rfl rfl ⟨rfl, hd_X4_code⟩ ⟨Nat.le_of_ble_eq_true rfl, Nat.le_of_ble_eq_true rfl⟩) (preP_V hQ 0 rfl rfl (hQ.sub (ws' := [(pg0, .inr (4, [.ref co, .int (nI ln)])), (co, .inl (cI, 18, .inl pg))]) [0, 1] rfl) hK) rfl rfl hl.1 rfl (lv_room (Nat.le_of_ble_eq_true rfl)) dX4_father_24 ⟨Nat.le_of_ble_eq_true rfl, Nat.le_of_ble_eq_true rfl⟩) ?_
  by_cases q_27_97 : zAt pg 18 (nI (4 * f)) = 97
  · refine vz_si 97 q_27_97 ?_
    refine lv_lookup (off := 71) (tgt := 98) hx hb dX4_father_27 (by decide) (by decide) (by decide) ?_
    refine va_new (D := D) (cl := vwCl) (tys := zT cI cB cF) (ci := 0) (fs := [.int 0, .int 0]) (C := RX0) (T := TX0) (N := 2) hx hb hts iw_X4_father_X0 tyX0 tyX0_ok hown (hts _ hw_X4_father_10) (hts _ hw_X4_father_11) (hts _ hw_X4_father_12) hK.1 hP hD hS hA rfl (fun j hj => by rcases (show j = 0 ∨ j = 1 by omega) with rfl | rfl <;> rfl) (Nat.le_of_ble_eq_true rfl) (Nat.le_of_ble_eq_true rfl) dX4_father_98 (fun q98_1 H hP hD hS => ?_)
    have hP : va_P D vwCl [(q98_1, .inr (0, [.int 0, .int 0]))] H := hP
    have hD : va_D A [(q98_1, .inr (0, [.int 0, .int 0]))] := hD
    have hQ : va_P D vwCl ([(q98_1, .inr (0, [.int 0, .int 0]))] ++ [(pg0, .inr (4, [.ref co, .int (nI ln)])), (co, .inl (cI, 18, .inl pg))]) H := va_P.app hP (hR.at hS).P
    refine W.widen (k := 1) (n := 2) (by omega) (by omega) ?_
    refine lv_dup hx hb dX4_father_101 rfl ?_
    refine lv_iload_n hx hb dX4_father_102 rfl (lv_at hl 1 rfl) ?_
    refine lv_iload_n hx hb dX4_father_103 rfl (lv_at hl 0 rfl) ?_
    have hFc := va_free (wc := [(q98_1, .inr (0, [.int 0, .int 0]))]) hD hS hA [0] rfl
    refine vz_cw [] [0] [] (va_runI (As := [.int (zDg1 pg (4 * f + 1)), .int (zDg1 pg (4 * f + 2))]) (rest := [.ref q98_1]) FX (c_X0_init l D cI cB cF H.size q98_1 0 0 (zDg1 pg (4 * f + 1)) (zDg1 pg (4 * f + 2)) ) (cwI 2 hts gX4_father_X0_init rfl rfl rfl (hts _ hw_X4_father_12) (hts _ hw_X4_father_48) (hts _ hw_X4_father_49) rfl hd_X0_init ⟨Nat.le_of_ble_eq_true rfl, Nat.le_of_ble_eq_true rfl⟩) (preW_I (hP.sub (ws' := [(q98_1, .inr (0, [.int 0, .int 0]))]) [0] rfl) (hD.sub (ws' := [(q98_1, .inr (0, [.int 0, .int 0]))]) [0] (by decide) rfl) hK (show vz_R D [] _ _ from vz_R.nil)) rfl rfl hl.1 rfl (lv_room (Nat.le_of_ble_eq_true rfl)) dX4_father_104 ⟨Nat.le_of_ble_eq_true rfl, Nat.le_of_ble_eq_true rfl⟩) hP hD hS hA rfl rfl rfl (by decide) (fun u H locs hu hP hD hS hz9 hk9 => ?_)
    have hP : va_P D vwCl [(q98_1, .inr (0, [.int (zDg1 pg (4 * f + 1)), .int (zDg1 pg (4 * f + 2))]))] H := hP
    have hD : va_D A [(q98_1, .inr (0, [.int (zDg1 pg (4 * f + 1)), .int (zDg1 pg (4 * f + 2))]))] := hD
    have hQ : va_P D vwCl ([(q98_1, .inr (0, [.int (zDg1 pg (4 * f + 1)), .int (zDg1 pg (4 * f + 2))]))] ++ [(pg0, .inr (4, [.ref co, .int (nI ln)])), (co, .inl (cI, 18, .inl pg))]) H := va_P.app hP (hR.at hS).P
    show W _ _ _ _ _ _ _ _ _ _ _ _ _ _ _ (F0 m 107 ls [.ref q98_1])
    have hE : (.inr (0, [.int (zDg1 pg (4 * f + 1)), .int (zDg1 pg (4 * f + 2))]) : va_E) = zO (zKc (zAt pg 18 (nI (4 * f)))) (zDg1 pg (4 * f + 1)) (zDg1 pg (4 * f + 2)) := by rw [show zKc (zAt pg 18 (nI (4 * f))) = 4 from by unfold zKc; rw [if_pos q_27_97]]; rfl
    have hP : va_P D vwCl [(q98_1, zO (zKc (zAt pg 18 (nI (4 * f)))) (zDg1 pg (4 * f + 1)) (zDg1 pg (4 * f + 2)))] H := by rw [← hE]; exact hP
    have hD : va_D A [(q98_1, zO (zKc (zAt pg 18 (nI (4 * f)))) (zDg1 pg (4 * f + 1)) (zDg1 pg (4 * f + 2)))] := by rw [← hE]; exact hD
    have hQ : va_P D vwCl ([(q98_1, zO (zKc (zAt pg 18 (nI (4 * f)))) (zDg1 pg (4 * f + 1)) (zDg1 pg (4 * f + 2)))] ++ [(pg0, .inr (4, [.ref co, .int (nI ln)])), (co, .inl (cI, 18, .inl pg))]) H := va_P.app hP (hR.at hS).P
    have hP9 := hP.sub (ws' := [(q98_1, zO (zKc (zAt pg 18 (nI (4 * f)))) (zDg1 pg (4 * f + 1)) (zDg1 pg (4 * f + 2)))]) [0] rfl
    have hD9 := hD.sub (ws' := [(q98_1, zO (zKc (zAt pg 18 (nI (4 * f)))) (zDg1 pg (4 * f + 1)) (zDg1 pg (4 * f + 2)))]) [0] (by decide) rfl
    exact W.aret hx hb hr (Or.inl ⟨_, rfl⟩) (Or.inr ⟨_, rfl⟩) (fun t ht hW => ⟨⟨q98_1, rfl, trivial, by rw [ht]; exact hP9, hD9⟩, hS.F ht⟩) hS.2.2 dX4_father_107
  · skip
    by_cases q_27_99 : zAt pg 18 (nI (4 * f)) = 99
    · refine vz_si 99 q_27_99 ?_
      refine lv_lookup (off := 41) (tgt := 68) hx hb dX4_father_27 (by decide) (by decide) (by decide) ?_
      refine va_new (D := D) (cl := vwCl) (tys := zT cI cB cF) (ci := 1) (fs := [.int 0, .int 0]) (C := RX1) (T := TX1) (N := 2) hx hb hts iw_X4_father_X1 tyX1 tyX1_ok hown (hts _ hw_X4_father_1) (hts _ hw_X4_father_2) (hts _ hw_X4_father_3) hK.1 hP hD hS hA rfl (fun j hj => by rcases (show j = 0 ∨ j = 1 by omega) with rfl | rfl <;> rfl) (Nat.le_of_ble_eq_true rfl) (Nat.le_of_ble_eq_true rfl) dX4_father_68 (fun q68_3 H hP hD hS => ?_)
      have hP : va_P D vwCl [(q68_3, .inr (1, [.int 0, .int 0]))] H := hP
      have hD : va_D A [(q68_3, .inr (1, [.int 0, .int 0]))] := hD
      have hQ : va_P D vwCl ([(q68_3, .inr (1, [.int 0, .int 0]))] ++ [(pg0, .inr (4, [.ref co, .int (nI ln)])), (co, .inl (cI, 18, .inl pg))]) H := va_P.app hP (hR.at hS).P
      refine W.widen (k := 1) (n := 2) (by omega) (by omega) ?_
      refine lv_dup hx hb dX4_father_71 rfl ?_
      refine lv_iload_n hx hb dX4_father_72 rfl (lv_at hl 1 rfl) ?_
      refine lv_iload_n hx hb dX4_father_73 rfl (lv_at hl 0 rfl) ?_
      have hFc := va_free (wc := [(q68_3, .inr (1, [.int 0, .int 0]))]) hD hS hA [0] rfl
      refine vz_cw [] [0] [] (va_runI (As := [.int (zDg1 pg (4 * f + 1)), .int (zDg1 pg (4 * f + 2))]) (rest := [.ref q68_3]) FX (c_X1_init_1 l D cI cB cF H.size q68_3 0 0 (zDg1 pg (4 * f + 1)) (zDg1 pg (4 * f + 2)) ) (cwI 2 hts gX4_father_X1_init rfl rfl rfl (hts _ hw_X4_father_3) (hts _ hw_X4_father_29) (hts _ hw_X4_father_30) rfl hd_X1_init ⟨Nat.le_of_ble_eq_true rfl, Nat.le_of_ble_eq_true rfl⟩) (preW_I (hP.sub (ws' := [(q68_3, .inr (1, [.int 0, .int 0]))]) [0] rfl) (hD.sub (ws' := [(q68_3, .inr (1, [.int 0, .int 0]))]) [0] (by decide) rfl) hK (show vz_R D [] _ _ from vz_R.nil)) rfl rfl hl.1 rfl (lv_room (Nat.le_of_ble_eq_true rfl)) dX4_father_74 ⟨Nat.le_of_ble_eq_true rfl, Nat.le_of_ble_eq_true rfl⟩) hP hD hS hA rfl rfl rfl (by decide) (fun u H locs hu hP hD hS hz9 hk9 => ?_)
      have hP : va_P D vwCl [(q68_3, .inr (1, [.int (zDg1 pg (4 * f + 1)), .int (zDg1 pg (4 * f + 2))]))] H := hP
      have hD : va_D A [(q68_3, .inr (1, [.int (zDg1 pg (4 * f + 1)), .int (zDg1 pg (4 * f + 2))]))] := hD
      have hQ : va_P D vwCl ([(q68_3, .inr (1, [.int (zDg1 pg (4 * f + 1)), .int (zDg1 pg (4 * f + 2))]))] ++ [(pg0, .inr (4, [.ref co, .int (nI ln)])), (co, .inl (cI, 18, .inl pg))]) H := va_P.app hP (hR.at hS).P
      show W _ _ _ _ _ _ _ _ _ _ _ _ _ _ _ (F0 m 77 ls [.ref q68_3])
      have hE : (.inr (1, [.int (zDg1 pg (4 * f + 1)), .int (zDg1 pg (4 * f + 2))]) : va_E) = zO (zKc (zAt pg 18 (nI (4 * f)))) (zDg1 pg (4 * f + 1)) (zDg1 pg (4 * f + 2)) := by rw [show zKc (zAt pg 18 (nI (4 * f))) = 1 from by unfold zKc; rw [if_neg (by rw [q_27_99]; decide), if_pos q_27_99]]; rfl
      have hP : va_P D vwCl [(q68_3, zO (zKc (zAt pg 18 (nI (4 * f)))) (zDg1 pg (4 * f + 1)) (zDg1 pg (4 * f + 2)))] H := by rw [← hE]; exact hP
      have hD : va_D A [(q68_3, zO (zKc (zAt pg 18 (nI (4 * f)))) (zDg1 pg (4 * f + 1)) (zDg1 pg (4 * f + 2)))] := by rw [← hE]; exact hD
      have hQ : va_P D vwCl ([(q68_3, zO (zKc (zAt pg 18 (nI (4 * f)))) (zDg1 pg (4 * f + 1)) (zDg1 pg (4 * f + 2)))] ++ [(pg0, .inr (4, [.ref co, .int (nI ln)])), (co, .inl (cI, 18, .inl pg))]) H := va_P.app hP (hR.at hS).P
      have hP9 := hP.sub (ws' := [(q68_3, zO (zKc (zAt pg 18 (nI (4 * f)))) (zDg1 pg (4 * f + 1)) (zDg1 pg (4 * f + 2)))]) [0] rfl
      have hD9 := hD.sub (ws' := [(q68_3, zO (zKc (zAt pg 18 (nI (4 * f)))) (zDg1 pg (4 * f + 1)) (zDg1 pg (4 * f + 2)))]) [0] (by decide) rfl
      exact W.aret hx hb hr (Or.inl ⟨_, rfl⟩) (Or.inr ⟨_, rfl⟩) (fun t ht hW => ⟨⟨q68_3, rfl, trivial, by rw [ht]; exact hP9, hD9⟩, hS.F ht⟩) hS.2.2 dX4_father_77
    · skip
      by_cases q_27_112 : zAt pg 18 (nI (4 * f)) = 112
      · refine vz_si 112 q_27_112 ?_
        refine lv_lookup (off := 61) (tgt := 88) hx hb dX4_father_27 (by decide) (by decide) (by decide) ?_
        refine va_new (D := D) (cl := vwCl) (tys := zT cI cB cF) (ci := 5) (fs := [.int 0, .int 0]) (C := RX5) (T := TX5) (N := 2) hx hb hts iw_X4_father_X5 tyX5 tyX5_ok hown (hts _ hw_X4_father_7) (hts _ hw_X4_father_8) (hts _ hw_X4_father_9) hK.1 hP hD hS hA rfl (fun j hj => by rcases (show j = 0 ∨ j = 1 by omega) with rfl | rfl <;> rfl) (Nat.le_of_ble_eq_true rfl) (Nat.le_of_ble_eq_true rfl) dX4_father_88 (fun q88_5 H hP hD hS => ?_)
        have hP : va_P D vwCl [(q88_5, .inr (5, [.int 0, .int 0]))] H := hP
        have hD : va_D A [(q88_5, .inr (5, [.int 0, .int 0]))] := hD
        have hQ : va_P D vwCl ([(q88_5, .inr (5, [.int 0, .int 0]))] ++ [(pg0, .inr (4, [.ref co, .int (nI ln)])), (co, .inl (cI, 18, .inl pg))]) H := va_P.app hP (hR.at hS).P
        refine W.widen (k := 1) (n := 2) (by omega) (by omega) ?_
        refine lv_dup hx hb dX4_father_91 rfl ?_
        refine lv_iload_n hx hb dX4_father_92 rfl (lv_at hl 1 rfl) ?_
        refine lv_iload_n hx hb dX4_father_93 rfl (lv_at hl 0 rfl) ?_
        have hFc := va_free (wc := [(q88_5, .inr (5, [.int 0, .int 0]))]) hD hS hA [0] rfl
        refine vz_cw [] [0] [] (va_runI (As := [.int (zDg1 pg (4 * f + 1)), .int (zDg1 pg (4 * f + 2))]) (rest := [.ref q88_5]) FX (c_X5_init l D cI cB cF H.size q88_5 0 0 (zDg1 pg (4 * f + 1)) (zDg1 pg (4 * f + 2)) ) (cwI 2 hts gX4_father_X5_init rfl rfl rfl (hts _ hw_X4_father_9) (hts _ hw_X4_father_44) (hts _ hw_X4_father_45) rfl hd_X5_init ⟨Nat.le_of_ble_eq_true rfl, Nat.le_of_ble_eq_true rfl⟩) (preW_I (hP.sub (ws' := [(q88_5, .inr (5, [.int 0, .int 0]))]) [0] rfl) (hD.sub (ws' := [(q88_5, .inr (5, [.int 0, .int 0]))]) [0] (by decide) rfl) hK (show vz_R D [] _ _ from vz_R.nil)) rfl rfl hl.1 rfl (lv_room (Nat.le_of_ble_eq_true rfl)) dX4_father_94 ⟨Nat.le_of_ble_eq_true rfl, Nat.le_of_ble_eq_true rfl⟩) hP hD hS hA rfl rfl rfl (by decide) (fun u H locs hu hP hD hS hz9 hk9 => ?_)
        have hP : va_P D vwCl [(q88_5, .inr (5, [.int (zDg1 pg (4 * f + 1)), .int (zDg1 pg (4 * f + 2))]))] H := hP
        have hD : va_D A [(q88_5, .inr (5, [.int (zDg1 pg (4 * f + 1)), .int (zDg1 pg (4 * f + 2))]))] := hD
        have hQ : va_P D vwCl ([(q88_5, .inr (5, [.int (zDg1 pg (4 * f + 1)), .int (zDg1 pg (4 * f + 2))]))] ++ [(pg0, .inr (4, [.ref co, .int (nI ln)])), (co, .inl (cI, 18, .inl pg))]) H := va_P.app hP (hR.at hS).P
        show W _ _ _ _ _ _ _ _ _ _ _ _ _ _ _ (F0 m 97 ls [.ref q88_5])
        have hE : (.inr (5, [.int (zDg1 pg (4 * f + 1)), .int (zDg1 pg (4 * f + 2))]) : va_E) = zO (zKc (zAt pg 18 (nI (4 * f)))) (zDg1 pg (4 * f + 1)) (zDg1 pg (4 * f + 2)) := by rw [show zKc (zAt pg 18 (nI (4 * f))) = 3 from by unfold zKc; rw [if_neg (by rw [q_27_112]; decide), if_neg (by rw [q_27_112]; decide), if_pos q_27_112]]; rfl
        have hP : va_P D vwCl [(q88_5, zO (zKc (zAt pg 18 (nI (4 * f)))) (zDg1 pg (4 * f + 1)) (zDg1 pg (4 * f + 2)))] H := by rw [← hE]; exact hP
        have hD : va_D A [(q88_5, zO (zKc (zAt pg 18 (nI (4 * f)))) (zDg1 pg (4 * f + 1)) (zDg1 pg (4 * f + 2)))] := by rw [← hE]; exact hD
        have hQ : va_P D vwCl ([(q88_5, zO (zKc (zAt pg 18 (nI (4 * f)))) (zDg1 pg (4 * f + 1)) (zDg1 pg (4 * f + 2)))] ++ [(pg0, .inr (4, [.ref co, .int (nI ln)])), (co, .inl (cI, 18, .inl pg))]) H := va_P.app hP (hR.at hS).P
        have hP9 := hP.sub (ws' := [(q88_5, zO (zKc (zAt pg 18 (nI (4 * f)))) (zDg1 pg (4 * f + 1)) (zDg1 pg (4 * f + 2)))]) [0] rfl
        have hD9 := hD.sub (ws' := [(q88_5, zO (zKc (zAt pg 18 (nI (4 * f)))) (zDg1 pg (4 * f + 1)) (zDg1 pg (4 * f + 2)))]) [0] (by decide) rfl
        exact W.aret hx hb hr (Or.inl ⟨_, rfl⟩) (Or.inr ⟨_, rfl⟩) (fun t ht hW => ⟨⟨q88_5, rfl, trivial, by rw [ht]; exact hP9, hD9⟩, hS.F ht⟩) hS.2.2 dX4_father_97
      · skip
        by_cases q_27_115 : zAt pg 18 (nI (4 * f)) = 115
        · refine vz_si 115 q_27_115 ?_
          refine lv_lookup (off := 51) (tgt := 78) hx hb dX4_father_27 (by decide) (by decide) (by decide) ?_
          refine va_new (D := D) (cl := vwCl) (tys := zT cI cB cF) (ci := 6) (fs := [.int 0, .int 0]) (C := RX6) (T := TX6) (N := 2) hx hb hts iw_X4_father_X6 tyX6 tyX6_ok hown (hts _ hw_X4_father_4) (hts _ hw_X4_father_5) (hts _ hw_X4_father_6) hK.1 hP hD hS hA rfl (fun j hj => by rcases (show j = 0 ∨ j = 1 by omega) with rfl | rfl <;> rfl) (Nat.le_of_ble_eq_true rfl) (Nat.le_of_ble_eq_true rfl) dX4_father_78 (fun q78_7 H hP hD hS => ?_)
          have hP : va_P D vwCl [(q78_7, .inr (6, [.int 0, .int 0]))] H := hP
          have hD : va_D A [(q78_7, .inr (6, [.int 0, .int 0]))] := hD
          have hQ : va_P D vwCl ([(q78_7, .inr (6, [.int 0, .int 0]))] ++ [(pg0, .inr (4, [.ref co, .int (nI ln)])), (co, .inl (cI, 18, .inl pg))]) H := va_P.app hP (hR.at hS).P
          refine W.widen (k := 1) (n := 2) (by omega) (by omega) ?_
          refine lv_dup hx hb dX4_father_81 rfl ?_
          refine lv_iload_n hx hb dX4_father_82 rfl (lv_at hl 1 rfl) ?_
          refine lv_iload_n hx hb dX4_father_83 rfl (lv_at hl 0 rfl) ?_
          have hFc := va_free (wc := [(q78_7, .inr (6, [.int 0, .int 0]))]) hD hS hA [0] rfl
          refine vz_cw [] [0] [] (va_runI (As := [.int (zDg1 pg (4 * f + 1)), .int (zDg1 pg (4 * f + 2))]) (rest := [.ref q78_7]) FX (c_X6_init l D cI cB cF H.size q78_7 0 0 (zDg1 pg (4 * f + 1)) (zDg1 pg (4 * f + 2)) ) (cwI 2 hts gX4_father_X6_init rfl rfl rfl (hts _ hw_X4_father_6) (hts _ hw_X4_father_40) (hts _ hw_X4_father_41) rfl hd_X6_init ⟨Nat.le_of_ble_eq_true rfl, Nat.le_of_ble_eq_true rfl⟩) (preW_I (hP.sub (ws' := [(q78_7, .inr (6, [.int 0, .int 0]))]) [0] rfl) (hD.sub (ws' := [(q78_7, .inr (6, [.int 0, .int 0]))]) [0] (by decide) rfl) hK (show vz_R D [] _ _ from vz_R.nil)) rfl rfl hl.1 rfl (lv_room (Nat.le_of_ble_eq_true rfl)) dX4_father_84 ⟨Nat.le_of_ble_eq_true rfl, Nat.le_of_ble_eq_true rfl⟩) hP hD hS hA rfl rfl rfl (by decide) (fun u H locs hu hP hD hS hz9 hk9 => ?_)
          have hP : va_P D vwCl [(q78_7, .inr (6, [.int (zDg1 pg (4 * f + 1)), .int (zDg1 pg (4 * f + 2))]))] H := hP
          have hD : va_D A [(q78_7, .inr (6, [.int (zDg1 pg (4 * f + 1)), .int (zDg1 pg (4 * f + 2))]))] := hD
          have hQ : va_P D vwCl ([(q78_7, .inr (6, [.int (zDg1 pg (4 * f + 1)), .int (zDg1 pg (4 * f + 2))]))] ++ [(pg0, .inr (4, [.ref co, .int (nI ln)])), (co, .inl (cI, 18, .inl pg))]) H := va_P.app hP (hR.at hS).P
          show W _ _ _ _ _ _ _ _ _ _ _ _ _ _ _ (F0 m 87 ls [.ref q78_7])
          have hE : (.inr (6, [.int (zDg1 pg (4 * f + 1)), .int (zDg1 pg (4 * f + 2))]) : va_E) = zO (zKc (zAt pg 18 (nI (4 * f)))) (zDg1 pg (4 * f + 1)) (zDg1 pg (4 * f + 2)) := by rw [show zKc (zAt pg 18 (nI (4 * f))) = 2 from by unfold zKc; rw [if_neg (by rw [q_27_115]; decide), if_neg (by rw [q_27_115]; decide), if_neg (by rw [q_27_115]; decide), if_pos q_27_115]]; rfl
          have hP : va_P D vwCl [(q78_7, zO (zKc (zAt pg 18 (nI (4 * f)))) (zDg1 pg (4 * f + 1)) (zDg1 pg (4 * f + 2)))] H := by rw [← hE]; exact hP
          have hD : va_D A [(q78_7, zO (zKc (zAt pg 18 (nI (4 * f)))) (zDg1 pg (4 * f + 1)) (zDg1 pg (4 * f + 2)))] := by rw [← hE]; exact hD
          have hQ : va_P D vwCl ([(q78_7, zO (zKc (zAt pg 18 (nI (4 * f)))) (zDg1 pg (4 * f + 1)) (zDg1 pg (4 * f + 2)))] ++ [(pg0, .inr (4, [.ref co, .int (nI ln)])), (co, .inl (cI, 18, .inl pg))]) H := va_P.app hP (hR.at hS).P
          have hP9 := hP.sub (ws' := [(q78_7, zO (zKc (zAt pg 18 (nI (4 * f)))) (zDg1 pg (4 * f + 1)) (zDg1 pg (4 * f + 2)))]) [0] rfl
          have hD9 := hD.sub (ws' := [(q78_7, zO (zKc (zAt pg 18 (nI (4 * f)))) (zDg1 pg (4 * f + 1)) (zDg1 pg (4 * f + 2)))]) [0] (by decide) rfl
          exact W.aret hx hb hr (Or.inl ⟨_, rfl⟩) (Or.inr ⟨_, rfl⟩) (fun t ht hW => ⟨⟨q78_7, rfl, trivial, by rw [ht]; exact hP9, hD9⟩, hS.F ht⟩) hS.2.2 dX4_father_87
        · skip
          refine lv_lookup (off := 81) (tgt := 108) hx hb dX4_father_27 (by decide) ((lv_osw q_27_97 rfl).trans ((lv_osw q_27_99 rfl).trans ((lv_osw q_27_112 rfl).trans ((lv_osw q_27_115 rfl).trans rfl)))) (by decide) ?_
          refine va_new (D := D) (cl := vwCl) (tys := zT cI cB cF) (ci := 2) (fs := [.int 0, .int 0]) (C := RX2) (T := TX2) (N := 2) hx hb hts iw_X4_father_X2 tyX2 tyX2_ok hown (hts _ hw_X4_father_13) (hts _ hw_X4_father_14) (hts _ hw_X4_father_15) hK.1 hP hD hS hA rfl (fun j hj => by rcases (show j = 0 ∨ j = 1 by omega) with rfl | rfl <;> rfl) (Nat.le_of_ble_eq_true rfl) (Nat.le_of_ble_eq_true rfl) dX4_father_108 (fun q108_9 H hP hD hS => ?_)
          have hP : va_P D vwCl [(q108_9, .inr (2, [.int 0, .int 0]))] H := hP
          have hD : va_D A [(q108_9, .inr (2, [.int 0, .int 0]))] := hD
          have hQ : va_P D vwCl ([(q108_9, .inr (2, [.int 0, .int 0]))] ++ [(pg0, .inr (4, [.ref co, .int (nI ln)])), (co, .inl (cI, 18, .inl pg))]) H := va_P.app hP (hR.at hS).P
          refine W.widen (k := 1) (n := 2) (by omega) (by omega) ?_
          refine lv_dup hx hb dX4_father_111 rfl ?_
          refine lv_iload_n hx hb dX4_father_112 rfl (lv_at hl 1 rfl) ?_
          refine lv_iload_n hx hb dX4_father_113 rfl (lv_at hl 0 rfl) ?_
          have hFc := va_free (wc := [(q108_9, .inr (2, [.int 0, .int 0]))]) hD hS hA [0] rfl
          refine vz_cw [] [0] [] (va_runI (As := [.int (zDg1 pg (4 * f + 1)), .int (zDg1 pg (4 * f + 2))]) (rest := [.ref q108_9]) FX (c_X2_init_2 l D cI cB cF H.size q108_9 0 0 (zDg1 pg (4 * f + 1)) (zDg1 pg (4 * f + 2)) ) (cwI 2 hts gX4_father_X2_init rfl rfl rfl (hts _ hw_X4_father_15) (hts _ hw_X4_father_52) (hts _ hw_X4_father_33) rfl hd_X2_init ⟨Nat.le_of_ble_eq_true rfl, Nat.le_of_ble_eq_true rfl⟩) (preW_I (hP.sub (ws' := [(q108_9, .inr (2, [.int 0, .int 0]))]) [0] rfl) (hD.sub (ws' := [(q108_9, .inr (2, [.int 0, .int 0]))]) [0] (by decide) rfl) hK (show vz_R D [] _ _ from vz_R.nil)) rfl rfl hl.1 rfl (lv_room (Nat.le_of_ble_eq_true rfl)) dX4_father_114 ⟨Nat.le_of_ble_eq_true rfl, Nat.le_of_ble_eq_true rfl⟩) hP hD hS hA rfl rfl rfl (by decide) (fun u H locs hu hP hD hS hz9 hk9 => ?_)
          have hP : va_P D vwCl [(q108_9, .inr (2, [.int (zDg1 pg (4 * f + 1)), .int (zDg1 pg (4 * f + 2))]))] H := hP
          have hD : va_D A [(q108_9, .inr (2, [.int (zDg1 pg (4 * f + 1)), .int (zDg1 pg (4 * f + 2))]))] := hD
          have hQ : va_P D vwCl ([(q108_9, .inr (2, [.int (zDg1 pg (4 * f + 1)), .int (zDg1 pg (4 * f + 2))]))] ++ [(pg0, .inr (4, [.ref co, .int (nI ln)])), (co, .inl (cI, 18, .inl pg))]) H := va_P.app hP (hR.at hS).P
          show W _ _ _ _ _ _ _ _ _ _ _ _ _ _ _ (F0 m 117 ls [.ref q108_9])
          have hE : (.inr (2, [.int (zDg1 pg (4 * f + 1)), .int (zDg1 pg (4 * f + 2))]) : va_E) = zO (zKc (zAt pg 18 (nI (4 * f)))) (zDg1 pg (4 * f + 1)) (zDg1 pg (4 * f + 2)) := by rw [show zKc (zAt pg 18 (nI (4 * f))) = 0 from by unfold zKc; rw [if_neg q_27_97, if_neg q_27_99, if_neg q_27_112, if_neg q_27_115]]; rfl
          have hP : va_P D vwCl [(q108_9, zO (zKc (zAt pg 18 (nI (4 * f)))) (zDg1 pg (4 * f + 1)) (zDg1 pg (4 * f + 2)))] H := by rw [← hE]; exact hP
          have hD : va_D A [(q108_9, zO (zKc (zAt pg 18 (nI (4 * f)))) (zDg1 pg (4 * f + 1)) (zDg1 pg (4 * f + 2)))] := by rw [← hE]; exact hD
          have hQ : va_P D vwCl ([(q108_9, zO (zKc (zAt pg 18 (nI (4 * f)))) (zDg1 pg (4 * f + 1)) (zDg1 pg (4 * f + 2)))] ++ [(pg0, .inr (4, [.ref co, .int (nI ln)])), (co, .inl (cI, 18, .inl pg))]) H := va_P.app hP (hR.at hS).P
          have hP9 := hP.sub (ws' := [(q108_9, zO (zKc (zAt pg 18 (nI (4 * f)))) (zDg1 pg (4 * f + 1)) (zDg1 pg (4 * f + 2)))]) [0] rfl
          have hD9 := hD.sub (ws' := [(q108_9, zO (zKc (zAt pg 18 (nI (4 * f)))) (zDg1 pg (4 * f + 1)) (zDg1 pg (4 * f + 2)))]) [0] (by decide) rfl
          exact W.aret hx hb hr (Or.inl ⟨_, rfl⟩) (Or.inr ⟨_, rfl⟩) (fun t ht hW => ⟨⟨q108_9, rfl, trivial, by rw [ht]; exact hP9, hD9⟩, hS.F ht⟩) hS.2.2 dX4_father_117
