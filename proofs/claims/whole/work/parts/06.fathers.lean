set_option maxRecDepth 100000 in
theorem hw_X2_init_1 : (.methodLink RX2 3 objectInit : Cond) ∈ wsX2_init := List.mem_of_getElem? (i := 1) rfl
set_option maxRecDepth 100000 in
theorem hw_X2_init_2 : (.instanceMethod objectInit : Cond) ∈ wsX2_init := List.mem_of_getElem? (i := 2) rfl
set_option maxRecDepth 100000 in
theorem hw_X2_init_3 : (.code objectInit ⟨#[0xb1]⟩ 1 none : Cond) ∈ wsX2_init := List.mem_of_getElem? (i := 3) rfl
set_option maxRecDepth 100000 in
theorem iw_X2_init_X0 : ∀ w ∈ u_ws RX0 TX0 2, w ∈ wsX2_init := fun w h => List.mem_cons_of_mem _ (List.mem_append_left _ (List.mem_append_left _ (List.mem_append_left _ (List.mem_append_left _ (List.mem_append_right _ h)))))
set_option maxRecDepth 100000 in
theorem hw_X2_init_4 : (.fieldLink RX2 9 "RotaFathers$Father" "flaw" "I" : Cond) ∈ wsX2_init := List.mem_of_getElem? (i := 4) rfl
set_option maxRecDepth 100000 in
theorem hw_X2_init_5 : (.fieldLink RX2 15 "RotaFathers$Father" "strength" "I" : Cond) ∈ wsX2_init := List.mem_of_getElem? (i := 5) rfl
set_option maxRecDepth 100000 in
theorem hd_X2_init : yX2_init.cls ≠ "java/lang/invoke/MethodHandle" ∧ yX2_init.cls ≠ "java/lang/invoke/VarHandle" ∧ (parseMethodDescriptor yX2_init.desc).map (fun d => d.parameters.length) = some 2 := by decide +kernel
set_option maxHeartbeats 4000000 in
set_option maxRecDepth 100000 in
theorem c_X2_init_0 (l : Launch) (D : va_G) (cI cB cF : ClassId) (sz : Nat) (o : Nat) (x : Int32) (y : Int32) (fl : Int32) (st : Int32)  : Met l yX2_init wsX2_init ({ frames := 1, cells := 0, slots := 0, locals := 12 } : Room) (PcW D cI cB cF [.ref o, .int fl, .int st] sz [(o, .inr (0, [.int x, .int y]))] []) (Qw D (S := Unit) (fun xx => none) (fun xx => True) (fun xx => [(o, .inr (0, [.int fl, .int st]))]) (va_A [(o, .inr (0, [.int x, .int y]))] sz)) 0 0 (va_A [(o, .inr (0, [.int x, .int y]))] sz) := by
  refine Met.ofW (cc := cX2_init) (maxL := 3) (ret := none) (by decide) rfl ?_
  intro p e s m args below meth c s₁ Bd hml hv
  rw [show (headSpec wsX2_init ({ frames := 1, cells := 0, slots := 0, locals := 12 } : Room)).room = ({ frames := 1, cells := 0, slots := 0, locals := 12 } : Room) from rfl]
  obtain ⟨rfl, hsz, hP, hK, hD0, hR⟩ := hv
  have hx := Bd.exec
  have hb := Bd.bytes
  have hr := Bd.returns
  have hts := atoms_spec (ws := wsX2_init) Bd.pre
  have hown : s.vm.findClass RX2 = some m.cls := findClass_of_methodNamed Bd.named
  have hlocks := Bd.notSynchronized
  have FX : CallFix p m c cX2_init 3 s _ wsX2_init RX2 := ⟨hx, hb, hml, hown, hts⟩
  have hin : meth.name = "<init>" := (name_of_methodNamed Bd.named Bd.method).1
  subst hsz
  have hD := hD0.self (sz := s.heap.size)
  generalize hAe : va_A [(o, .inr (0, [.int x, .int y]))] s.heap.size = A at hD hR ⊢
  have hA : ∀ q : Nat, s.heap.size ≤ q → A q := fun q h => by rw [← hAe]; exact Or.inr h
  have hS : va_S A s.heap s.heap [] := va_S.rf
  have hP : va_P D vwCl [(o, .inr (0, [.int x, .int y]))] s.heap := hP
  have hQ := hP
  have hl := lv_entry ([.ref o, .int fl, .int st]) (n := 3) (Nat.le_of_ble_eq_true rfl)
  rw [lg_entry_eq]
  generalize (lg_sl ([.ref o, .int fl, .int st]) ++ List.replicate (3 - (lg_sl ([.ref o, .int fl, .int st])).length) Slot.unset).toArray = ls at hl ⊢
  have hl : lv_has ls 3 [(0, .ref o), (1, .int fl), (2, .int st)] := hl
  refine lv_aload_n hx hb dX2_init_0 rfl (lv_at hl 0 rfl) ?_
  refine W.objInit hx hb hown (hts _ hw_X2_init_1) (hts _ hw_X2_init_2) (hts _ hw_X2_init_3) rfl (by rw [hml]; exact hl.1) rfl dX2_init_1 (Nat.le_of_ble_eq_true rfl) (Nat.le_of_ble_eq_true rfl) ?_
  refine W.eq (g2 := F0 m 4 ls []) rfl ?_
  refine lv_aload_n hx hb dX2_init_4 rfl (lv_at hl 0 rfl) ?_
  refine lv_iload_n hx hb dX2_init_5 rfl (lv_at hl 1 rfl) ?_
  refine va_putF (D := D) (cl := vwCl) (tys := zT cI cB cF) (ci := 0) (v := .int fl) (ty := .int) (C := RX0) (T := TX0) (N := 2) hx hb hts iw_X2_init_X0 tyX0 tyX0_ok nmX0 hown hK.1 hP hD hS 0 rfl rfl 0 (by decide) (hts _ hw_X2_init_4) (fun _ h9 => h9) rfl hin rfl (tyX0_ok 0 (by decide)) (rfl) (rfl) (Nat.le_of_ble_eq_true rfl) dX2_init_6 (fun H locs hP hD hS => ?_)
  have hP : va_P D vwCl [(o, .inr (0, [.int fl, .int y]))] H := hP
  have hD : va_D A [(o, .inr (0, [.int fl, .int y]))] := hD
  have hQ := hP
  refine lv_aload_n hx hb dX2_init_9 rfl (lv_at hl 0 rfl) ?_
  refine lv_iload_n hx hb dX2_init_10 rfl (lv_at hl 2 rfl) ?_
  refine va_putF (D := D) (cl := vwCl) (tys := zT cI cB cF) (ci := 0) (v := .int st) (ty := .int) (C := RX0) (T := TX0) (N := 2) hx hb hts iw_X2_init_X0 tyX0 tyX0_ok nmX0 hown hK.1 hP hD hS 0 rfl rfl 1 (by decide) (hts _ hw_X2_init_5) (fun _ h9 => h9) rfl hin rfl (tyX0_ok 1 (by decide)) (rfl) (rfl) (Nat.le_of_ble_eq_true rfl) dX2_init_11 (fun H locs hP hD hS => ?_)
  have hP : va_P D vwCl [(o, .inr (0, [.int fl, .int st]))] H := hP
  have hD : va_D A [(o, .inr (0, [.int fl, .int st]))] := hD
  have hQ := hP
  have hP9 := hP.sub (ws' := [(o, .inr (0, [.int fl, .int st]))]) [0] rfl
  have hD9 := hD.sub (ws' := [(o, .inr (0, [.int fl, .int st]))]) [0] (by decide) rfl
  exact W.vret hx hb hr (fun t ht hW => ⟨⟨(), rfl, trivial, by rw [ht]; exact hP9, hD9⟩, hS.F ht⟩) hS.2.2 dX2_init_14
set_option maxRecDepth 100000 in
theorem iw_X2_init_X1 : ∀ w ∈ u_ws RX1 TX1 2, w ∈ wsX2_init := fun w h => List.mem_cons_of_mem _ (List.mem_append_left _ (List.mem_append_left _ (List.mem_append_left _ (List.mem_append_right _ h))))
set_option maxHeartbeats 4000000 in
set_option maxRecDepth 100000 in
theorem c_X2_init_1 (l : Launch) (D : va_G) (cI cB cF : ClassId) (sz : Nat) (o : Nat) (x : Int32) (y : Int32) (fl : Int32) (st : Int32)  : Met l yX2_init wsX2_init ({ frames := 1, cells := 0, slots := 0, locals := 12 } : Room) (PcW D cI cB cF [.ref o, .int fl, .int st] sz [(o, .inr (1, [.int x, .int y]))] []) (Qw D (S := Unit) (fun xx => none) (fun xx => True) (fun xx => [(o, .inr (1, [.int fl, .int st]))]) (va_A [(o, .inr (1, [.int x, .int y]))] sz)) 0 0 (va_A [(o, .inr (1, [.int x, .int y]))] sz) := by
  refine Met.ofW (cc := cX2_init) (maxL := 3) (ret := none) (by decide) rfl ?_
  intro p e s m args below meth c s₁ Bd hml hv
  rw [show (headSpec wsX2_init ({ frames := 1, cells := 0, slots := 0, locals := 12 } : Room)).room = ({ frames := 1, cells := 0, slots := 0, locals := 12 } : Room) from rfl]
  obtain ⟨rfl, hsz, hP, hK, hD0, hR⟩ := hv
  have hx := Bd.exec
  have hb := Bd.bytes
  have hr := Bd.returns
  have hts := atoms_spec (ws := wsX2_init) Bd.pre
  have hown : s.vm.findClass RX2 = some m.cls := findClass_of_methodNamed Bd.named
  have hlocks := Bd.notSynchronized
  have FX : CallFix p m c cX2_init 3 s _ wsX2_init RX2 := ⟨hx, hb, hml, hown, hts⟩
  have hin : meth.name = "<init>" := (name_of_methodNamed Bd.named Bd.method).1
  subst hsz
  have hD := hD0.self (sz := s.heap.size)
  generalize hAe : va_A [(o, .inr (1, [.int x, .int y]))] s.heap.size = A at hD hR ⊢
  have hA : ∀ q : Nat, s.heap.size ≤ q → A q := fun q h => by rw [← hAe]; exact Or.inr h
  have hS : va_S A s.heap s.heap [] := va_S.rf
  have hP : va_P D vwCl [(o, .inr (1, [.int x, .int y]))] s.heap := hP
  have hQ := hP
  have hl := lv_entry ([.ref o, .int fl, .int st]) (n := 3) (Nat.le_of_ble_eq_true rfl)
  rw [lg_entry_eq]
  generalize (lg_sl ([.ref o, .int fl, .int st]) ++ List.replicate (3 - (lg_sl ([.ref o, .int fl, .int st])).length) Slot.unset).toArray = ls at hl ⊢
  have hl : lv_has ls 3 [(0, .ref o), (1, .int fl), (2, .int st)] := hl
  refine lv_aload_n hx hb dX2_init_0 rfl (lv_at hl 0 rfl) ?_
  refine W.objInit hx hb hown (hts _ hw_X2_init_1) (hts _ hw_X2_init_2) (hts _ hw_X2_init_3) rfl (by rw [hml]; exact hl.1) rfl dX2_init_1 (Nat.le_of_ble_eq_true rfl) (Nat.le_of_ble_eq_true rfl) ?_
  refine W.eq (g2 := F0 m 4 ls []) rfl ?_
  refine lv_aload_n hx hb dX2_init_4 rfl (lv_at hl 0 rfl) ?_
  refine lv_iload_n hx hb dX2_init_5 rfl (lv_at hl 1 rfl) ?_
  refine va_putF (D := D) (cl := vwCl) (tys := zT cI cB cF) (ci := 1) (v := .int fl) (ty := .int) (C := RX1) (T := TX1) (N := 2) hx hb hts iw_X2_init_X1 tyX1 tyX1_ok nmX1 hown hK.1 hP hD hS 0 rfl rfl 0 (by decide) (hts _ hw_X2_init_4) (fun _ h9 => h9) rfl hin rfl (tyX1_ok 0 (by decide)) (rfl) (rfl) (Nat.le_of_ble_eq_true rfl) dX2_init_6 (fun H locs hP hD hS => ?_)
  have hP : va_P D vwCl [(o, .inr (1, [.int fl, .int y]))] H := hP
  have hD : va_D A [(o, .inr (1, [.int fl, .int y]))] := hD
  have hQ := hP
  refine lv_aload_n hx hb dX2_init_9 rfl (lv_at hl 0 rfl) ?_
  refine lv_iload_n hx hb dX2_init_10 rfl (lv_at hl 2 rfl) ?_
  refine va_putF (D := D) (cl := vwCl) (tys := zT cI cB cF) (ci := 1) (v := .int st) (ty := .int) (C := RX1) (T := TX1) (N := 2) hx hb hts iw_X2_init_X1 tyX1 tyX1_ok nmX1 hown hK.1 hP hD hS 0 rfl rfl 1 (by decide) (hts _ hw_X2_init_5) (fun _ h9 => h9) rfl hin rfl (tyX1_ok 1 (by decide)) (rfl) (rfl) (Nat.le_of_ble_eq_true rfl) dX2_init_11 (fun H locs hP hD hS => ?_)
  have hP : va_P D vwCl [(o, .inr (1, [.int fl, .int st]))] H := hP
  have hD : va_D A [(o, .inr (1, [.int fl, .int st]))] := hD
  have hQ := hP
  have hP9 := hP.sub (ws' := [(o, .inr (1, [.int fl, .int st]))]) [0] rfl
  have hD9 := hD.sub (ws' := [(o, .inr (1, [.int fl, .int st]))]) [0] (by decide) rfl
  exact W.vret hx hb hr (fun t ht hW => ⟨⟨(), rfl, trivial, by rw [ht]; exact hP9, hD9⟩, hS.F ht⟩) hS.2.2 dX2_init_14
set_option maxRecDepth 100000 in
theorem iw_X2_init_X2 : ∀ w ∈ u_ws RX2 TX2 2, w ∈ wsX2_init := fun w h => List.mem_cons_of_mem _ (List.mem_append_left _ (List.mem_append_left _ (List.mem_append_right _ h)))
set_option maxHeartbeats 4000000 in
set_option maxRecDepth 100000 in
theorem c_X2_init_2 (l : Launch) (D : va_G) (cI cB cF : ClassId) (sz : Nat) (o : Nat) (x : Int32) (y : Int32) (fl : Int32) (st : Int32)  : Met l yX2_init wsX2_init ({ frames := 1, cells := 0, slots := 0, locals := 12 } : Room) (PcW D cI cB cF [.ref o, .int fl, .int st] sz [(o, .inr (2, [.int x, .int y]))] []) (Qw D (S := Unit) (fun xx => none) (fun xx => True) (fun xx => [(o, .inr (2, [.int fl, .int st]))]) (va_A [(o, .inr (2, [.int x, .int y]))] sz)) 0 0 (va_A [(o, .inr (2, [.int x, .int y]))] sz) := by
  refine Met.ofW (cc := cX2_init) (maxL := 3) (ret := none) (by decide) rfl ?_
  intro p e s m args below meth c s₁ Bd hml hv
  rw [show (headSpec wsX2_init ({ frames := 1, cells := 0, slots := 0, locals := 12 } : Room)).room = ({ frames := 1, cells := 0, slots := 0, locals := 12 } : Room) from rfl]
  obtain ⟨rfl, hsz, hP, hK, hD0, hR⟩ := hv
  have hx := Bd.exec
  have hb := Bd.bytes
  have hr := Bd.returns
  have hts := atoms_spec (ws := wsX2_init) Bd.pre
  have hown : s.vm.findClass RX2 = some m.cls := findClass_of_methodNamed Bd.named
  have hlocks := Bd.notSynchronized
  have FX : CallFix p m c cX2_init 3 s _ wsX2_init RX2 := ⟨hx, hb, hml, hown, hts⟩
  have hin : meth.name = "<init>" := (name_of_methodNamed Bd.named Bd.method).1
  subst hsz
  have hD := hD0.self (sz := s.heap.size)
  generalize hAe : va_A [(o, .inr (2, [.int x, .int y]))] s.heap.size = A at hD hR ⊢
  have hA : ∀ q : Nat, s.heap.size ≤ q → A q := fun q h => by rw [← hAe]; exact Or.inr h
  have hS : va_S A s.heap s.heap [] := va_S.rf
  have hP : va_P D vwCl [(o, .inr (2, [.int x, .int y]))] s.heap := hP
  have hQ := hP
  have hl := lv_entry ([.ref o, .int fl, .int st]) (n := 3) (Nat.le_of_ble_eq_true rfl)
  rw [lg_entry_eq]
  generalize (lg_sl ([.ref o, .int fl, .int st]) ++ List.replicate (3 - (lg_sl ([.ref o, .int fl, .int st])).length) Slot.unset).toArray = ls at hl ⊢
  have hl : lv_has ls 3 [(0, .ref o), (1, .int fl), (2, .int st)] := hl
  refine lv_aload_n hx hb dX2_init_0 rfl (lv_at hl 0 rfl) ?_
  refine W.objInit hx hb hown (hts _ hw_X2_init_1) (hts _ hw_X2_init_2) (hts _ hw_X2_init_3) rfl (by rw [hml]; exact hl.1) rfl dX2_init_1 (Nat.le_of_ble_eq_true rfl) (Nat.le_of_ble_eq_true rfl) ?_
  refine W.eq (g2 := F0 m 4 ls []) rfl ?_
  refine lv_aload_n hx hb dX2_init_4 rfl (lv_at hl 0 rfl) ?_
  refine lv_iload_n hx hb dX2_init_5 rfl (lv_at hl 1 rfl) ?_
  refine va_putF (D := D) (cl := vwCl) (tys := zT cI cB cF) (ci := 2) (v := .int fl) (ty := .int) (C := RX2) (T := TX2) (N := 2) hx hb hts iw_X2_init_X2 tyX2 tyX2_ok nmX2 hown hK.1 hP hD hS 0 rfl rfl 0 (by decide) (hts _ hw_X2_init_4) (fun _ h9 => h9) rfl hin rfl (tyX2_ok 0 (by decide)) (rfl) (rfl) (Nat.le_of_ble_eq_true rfl) dX2_init_6 (fun H locs hP hD hS => ?_)
  have hP : va_P D vwCl [(o, .inr (2, [.int fl, .int y]))] H := hP
  have hD : va_D A [(o, .inr (2, [.int fl, .int y]))] := hD
  have hQ := hP
  refine lv_aload_n hx hb dX2_init_9 rfl (lv_at hl 0 rfl) ?_
  refine lv_iload_n hx hb dX2_init_10 rfl (lv_at hl 2 rfl) ?_
  refine va_putF (D := D) (cl := vwCl) (tys := zT cI cB cF) (ci := 2) (v := .int st) (ty := .int) (C := RX2) (T := TX2) (N := 2) hx hb hts iw_X2_init_X2 tyX2 tyX2_ok nmX2 hown hK.1 hP hD hS 0 rfl rfl 1 (by decide) (hts _ hw_X2_init_5) (fun _ h9 => h9) rfl hin rfl (tyX2_ok 1 (by decide)) (rfl) (rfl) (Nat.le_of_ble_eq_true rfl) dX2_init_11 (fun H locs hP hD hS => ?_)
  have hP : va_P D vwCl [(o, .inr (2, [.int fl, .int st]))] H := hP
  have hD : va_D A [(o, .inr (2, [.int fl, .int st]))] := hD
  have hQ := hP
  have hP9 := hP.sub (ws' := [(o, .inr (2, [.int fl, .int st]))]) [0] rfl
  have hD9 := hD.sub (ws' := [(o, .inr (2, [.int fl, .int st]))]) [0] (by decide) rfl
  exact W.vret hx hb hr (fun t ht hW => ⟨⟨(), rfl, trivial, by rw [ht]; exact hP9, hD9⟩, hS.F ht⟩) hS.2.2 dX2_init_14
set_option maxRecDepth 100000 in
theorem iw_X2_init_X5 : ∀ w ∈ u_ws RX5 TX5 2, w ∈ wsX2_init := fun w h => List.mem_cons_of_mem _ (List.mem_append_left _ (List.mem_append_right _ h))
set_option maxHeartbeats 4000000 in
set_option maxRecDepth 100000 in
theorem c_X2_init_5 (l : Launch) (D : va_G) (cI cB cF : ClassId) (sz : Nat) (o : Nat) (x : Int32) (y : Int32) (fl : Int32) (st : Int32)  : Met l yX2_init wsX2_init ({ frames := 1, cells := 0, slots := 0, locals := 12 } : Room) (PcW D cI cB cF [.ref o, .int fl, .int st] sz [(o, .inr (5, [.int x, .int y]))] []) (Qw D (S := Unit) (fun xx => none) (fun xx => True) (fun xx => [(o, .inr (5, [.int fl, .int st]))]) (va_A [(o, .inr (5, [.int x, .int y]))] sz)) 0 0 (va_A [(o, .inr (5, [.int x, .int y]))] sz) := by
  refine Met.ofW (cc := cX2_init) (maxL := 3) (ret := none) (by decide) rfl ?_
  intro p e s m args below meth c s₁ Bd hml hv
  rw [show (headSpec wsX2_init ({ frames := 1, cells := 0, slots := 0, locals := 12 } : Room)).room = ({ frames := 1, cells := 0, slots := 0, locals := 12 } : Room) from rfl]
  obtain ⟨rfl, hsz, hP, hK, hD0, hR⟩ := hv
  have hx := Bd.exec
  have hb := Bd.bytes
  have hr := Bd.returns
  have hts := atoms_spec (ws := wsX2_init) Bd.pre
  have hown : s.vm.findClass RX2 = some m.cls := findClass_of_methodNamed Bd.named
  have hlocks := Bd.notSynchronized
  have FX : CallFix p m c cX2_init 3 s _ wsX2_init RX2 := ⟨hx, hb, hml, hown, hts⟩
  have hin : meth.name = "<init>" := (name_of_methodNamed Bd.named Bd.method).1
  subst hsz
  have hD := hD0.self (sz := s.heap.size)
  generalize hAe : va_A [(o, .inr (5, [.int x, .int y]))] s.heap.size = A at hD hR ⊢
  have hA : ∀ q : Nat, s.heap.size ≤ q → A q := fun q h => by rw [← hAe]; exact Or.inr h
  have hS : va_S A s.heap s.heap [] := va_S.rf
  have hP : va_P D vwCl [(o, .inr (5, [.int x, .int y]))] s.heap := hP
  have hQ := hP
  have hl := lv_entry ([.ref o, .int fl, .int st]) (n := 3) (Nat.le_of_ble_eq_true rfl)
  rw [lg_entry_eq]
  generalize (lg_sl ([.ref o, .int fl, .int st]) ++ List.replicate (3 - (lg_sl ([.ref o, .int fl, .int st])).length) Slot.unset).toArray = ls at hl ⊢
  have hl : lv_has ls 3 [(0, .ref o), (1, .int fl), (2, .int st)] := hl
  refine lv_aload_n hx hb dX2_init_0 rfl (lv_at hl 0 rfl) ?_
  refine W.objInit hx hb hown (hts _ hw_X2_init_1) (hts _ hw_X2_init_2) (hts _ hw_X2_init_3) rfl (by rw [hml]; exact hl.1) rfl dX2_init_1 (Nat.le_of_ble_eq_true rfl) (Nat.le_of_ble_eq_true rfl) ?_
  refine W.eq (g2 := F0 m 4 ls []) rfl ?_
  refine lv_aload_n hx hb dX2_init_4 rfl (lv_at hl 0 rfl) ?_
  refine lv_iload_n hx hb dX2_init_5 rfl (lv_at hl 1 rfl) ?_
  refine va_putF (D := D) (cl := vwCl) (tys := zT cI cB cF) (ci := 5) (v := .int fl) (ty := .int) (C := RX5) (T := TX5) (N := 2) hx hb hts iw_X2_init_X5 tyX5 tyX5_ok nmX5 hown hK.1 hP hD hS 0 rfl rfl 0 (by decide) (hts _ hw_X2_init_4) (fun _ h9 => h9) rfl hin rfl (tyX5_ok 0 (by decide)) (rfl) (rfl) (Nat.le_of_ble_eq_true rfl) dX2_init_6 (fun H locs hP hD hS => ?_)
  have hP : va_P D vwCl [(o, .inr (5, [.int fl, .int y]))] H := hP
  have hD : va_D A [(o, .inr (5, [.int fl, .int y]))] := hD
  have hQ := hP
  refine lv_aload_n hx hb dX2_init_9 rfl (lv_at hl 0 rfl) ?_
  refine lv_iload_n hx hb dX2_init_10 rfl (lv_at hl 2 rfl) ?_
  refine va_putF (D := D) (cl := vwCl) (tys := zT cI cB cF) (ci := 5) (v := .int st) (ty := .int) (C := RX5) (T := TX5) (N := 2) hx hb hts iw_X2_init_X5 tyX5 tyX5_ok nmX5 hown hK.1 hP hD hS 0 rfl rfl 1 (by decide) (hts _ hw_X2_init_5) (fun _ h9 => h9) rfl hin rfl (tyX5_ok 1 (by decide)) (rfl) (rfl) (Nat.le_of_ble_eq_true rfl) dX2_init_11 (fun H locs hP hD hS => ?_)
  have hP : va_P D vwCl [(o, .inr (5, [.int fl, .int st]))] H := hP
  have hD : va_D A [(o, .inr (5, [.int fl, .int st]))] := hD
  have hQ := hP
  have hP9 := hP.sub (ws' := [(o, .inr (5, [.int fl, .int st]))]) [0] rfl
  have hD9 := hD.sub (ws' := [(o, .inr (5, [.int fl, .int st]))]) [0] (by decide) rfl
  exact W.vret hx hb hr (fun t ht hW => ⟨⟨(), rfl, trivial, by rw [ht]; exact hP9, hD9⟩, hS.F ht⟩) hS.2.2 dX2_init_14
set_option maxRecDepth 100000 in
theorem iw_X2_init_X6 : ∀ w ∈ u_ws RX6 TX6 2, w ∈ wsX2_init := fun w h => List.mem_cons_of_mem _ (List.mem_append_right _ h)
set_option maxHeartbeats 4000000 in
set_option maxRecDepth 100000 in
theorem c_X2_init_6 (l : Launch) (D : va_G) (cI cB cF : ClassId) (sz : Nat) (o : Nat) (x : Int32) (y : Int32) (fl : Int32) (st : Int32)  : Met l yX2_init wsX2_init ({ frames := 1, cells := 0, slots := 0, locals := 12 } : Room) (PcW D cI cB cF [.ref o, .int fl, .int st] sz [(o, .inr (6, [.int x, .int y]))] []) (Qw D (S := Unit) (fun xx => none) (fun xx => True) (fun xx => [(o, .inr (6, [.int fl, .int st]))]) (va_A [(o, .inr (6, [.int x, .int y]))] sz)) 0 0 (va_A [(o, .inr (6, [.int x, .int y]))] sz) := by
  refine Met.ofW (cc := cX2_init) (maxL := 3) (ret := none) (by decide) rfl ?_
  intro p e s m args below meth c s₁ Bd hml hv
  rw [show (headSpec wsX2_init ({ frames := 1, cells := 0, slots := 0, locals := 12 } : Room)).room = ({ frames := 1, cells := 0, slots := 0, locals := 12 } : Room) from rfl]
  obtain ⟨rfl, hsz, hP, hK, hD0, hR⟩ := hv
  have hx := Bd.exec
  have hb := Bd.bytes
  have hr := Bd.returns
  have hts := atoms_spec (ws := wsX2_init) Bd.pre
  have hown : s.vm.findClass RX2 = some m.cls := findClass_of_methodNamed Bd.named
  have hlocks := Bd.notSynchronized
  have FX : CallFix p m c cX2_init 3 s _ wsX2_init RX2 := ⟨hx, hb, hml, hown, hts⟩
  have hin : meth.name = "<init>" := (name_of_methodNamed Bd.named Bd.method).1
  subst hsz
  have hD := hD0.self (sz := s.heap.size)
  generalize hAe : va_A [(o, .inr (6, [.int x, .int y]))] s.heap.size = A at hD hR ⊢
  have hA : ∀ q : Nat, s.heap.size ≤ q → A q := fun q h => by rw [← hAe]; exact Or.inr h
  have hS : va_S A s.heap s.heap [] := va_S.rf
  have hP : va_P D vwCl [(o, .inr (6, [.int x, .int y]))] s.heap := hP
  have hQ := hP
  have hl := lv_entry ([.ref o, .int fl, .int st]) (n := 3) (Nat.le_of_ble_eq_true rfl)
  rw [lg_entry_eq]
  generalize (lg_sl ([.ref o, .int fl, .int st]) ++ List.replicate (3 - (lg_sl ([.ref o, .int fl, .int st])).length) Slot.unset).toArray = ls at hl ⊢
  have hl : lv_has ls 3 [(0, .ref o), (1, .int fl), (2, .int st)] := hl
  refine lv_aload_n hx hb dX2_init_0 rfl (lv_at hl 0 rfl) ?_
  refine W.objInit hx hb hown (hts _ hw_X2_init_1) (hts _ hw_X2_init_2) (hts _ hw_X2_init_3) rfl (by rw [hml]; exact hl.1) rfl dX2_init_1 (Nat.le_of_ble_eq_true rfl) (Nat.le_of_ble_eq_true rfl) ?_
  refine W.eq (g2 := F0 m 4 ls []) rfl ?_
  refine lv_aload_n hx hb dX2_init_4 rfl (lv_at hl 0 rfl) ?_
  refine lv_iload_n hx hb dX2_init_5 rfl (lv_at hl 1 rfl) ?_
  refine va_putF (D := D) (cl := vwCl) (tys := zT cI cB cF) (ci := 6) (v := .int fl) (ty := .int) (C := RX6) (T := TX6) (N := 2) hx hb hts iw_X2_init_X6 tyX6 tyX6_ok nmX6 hown hK.1 hP hD hS 0 rfl rfl 0 (by decide) (hts _ hw_X2_init_4) (fun _ h9 => h9) rfl hin rfl (tyX6_ok 0 (by decide)) (rfl) (rfl) (Nat.le_of_ble_eq_true rfl) dX2_init_6 (fun H locs hP hD hS => ?_)
  have hP : va_P D vwCl [(o, .inr (6, [.int fl, .int y]))] H := hP
  have hD : va_D A [(o, .inr (6, [.int fl, .int y]))] := hD
  have hQ := hP
  refine lv_aload_n hx hb dX2_init_9 rfl (lv_at hl 0 rfl) ?_
  refine lv_iload_n hx hb dX2_init_10 rfl (lv_at hl 2 rfl) ?_
  refine va_putF (D := D) (cl := vwCl) (tys := zT cI cB cF) (ci := 6) (v := .int st) (ty := .int) (C := RX6) (T := TX6) (N := 2) hx hb hts iw_X2_init_X6 tyX6 tyX6_ok nmX6 hown hK.1 hP hD hS 0 rfl rfl 1 (by decide) (hts _ hw_X2_init_5) (fun _ h9 => h9) rfl hin rfl (tyX6_ok 1 (by decide)) (rfl) (rfl) (Nat.le_of_ble_eq_true rfl) dX2_init_11 (fun H locs hP hD hS => ?_)
  have hP : va_P D vwCl [(o, .inr (6, [.int fl, .int st]))] H := hP
  have hD : va_D A [(o, .inr (6, [.int fl, .int st]))] := hD
  have hQ := hP
  have hP9 := hP.sub (ws' := [(o, .inr (6, [.int fl, .int st]))]) [0] rfl
  have hD9 := hD.sub (ws' := [(o, .inr (6, [.int fl, .int st]))]) [0] (by decide) rfl
  exact W.vret hx hb hr (fun t ht hW => ⟨⟨(), rfl, trivial, by rw [ht]; exact hP9, hD9⟩, hS.F ht⟩) hS.2.2 dX2_init_14
set_option maxRecDepth 100000 in
theorem hw_X1_init_3 : (.initialized RX2 : Cond) ∈ wsX1_init := List.mem_of_getElem? (i := 3) rfl
set_option maxRecDepth 100000 in
theorem hw_X1_init_1 : (.methodLink RX1 3 yX2_init : Cond) ∈ wsX1_init := List.mem_of_getElem? (i := 1) rfl
set_option maxRecDepth 100000 in
theorem hw_X1_init_2 : (.instanceMethod yX2_init : Cond) ∈ wsX1_init := List.mem_of_getElem? (i := 2) rfl
set_option maxRecDepth 100000 in
theorem hd_X1_init : yX1_init.cls ≠ "java/lang/invoke/MethodHandle" ∧ yX1_init.cls ≠ "java/lang/invoke/VarHandle" ∧ (parseMethodDescriptor yX1_init.desc).map (fun d => d.parameters.length) = some 2 := by decide +kernel
set_option maxHeartbeats 4000000 in
set_option maxRecDepth 100000 in
theorem c_X1_init_0 (l : Launch) (D : va_G) (cI cB cF : ClassId) (sz : Nat) (o : Nat) (x : Int32) (y : Int32) (fl : Int32) (st : Int32)  : Met l yX1_init wsX1_init ({ frames := 2, cells := 0, slots := 0, locals := 34 } : Room) (PcW D cI cB cF [.ref o, .int fl, .int st] sz [(o, .inr (0, [.int x, .int y]))] []) (Qw D (S := Unit) (fun xx => none) (fun xx => True) (fun xx => [(o, .inr (0, [.int fl, .int st]))]) (va_A [(o, .inr (0, [.int x, .int y]))] sz)) 0 0 (va_A [(o, .inr (0, [.int x, .int y]))] sz) := by
  refine Met.ofW (cc := cX1_init) (maxL := 3) (ret := none) (by decide) rfl ?_
  intro p e s m args below meth c s₁ Bd hml hv
  rw [show (headSpec wsX1_init ({ frames := 2, cells := 0, slots := 0, locals := 34 } : Room)).room = ({ frames := 2, cells := 0, slots := 0, locals := 34 } : Room) from rfl]
  obtain ⟨rfl, hsz, hP, hK, hD0, hR⟩ := hv
  have hx := Bd.exec
  have hb := Bd.bytes
  have hr := Bd.returns
  have hts := atoms_spec (ws := wsX1_init) Bd.pre
  have hown : s.vm.findClass RX1 = some m.cls := findClass_of_methodNamed Bd.named
  have hlocks := Bd.notSynchronized
  have FX : CallFix p m c cX1_init 3 s _ wsX1_init RX1 := ⟨hx, hb, hml, hown, hts⟩
  have hin : meth.name = "<init>" := (name_of_methodNamed Bd.named Bd.method).1
  subst hsz
  have hD := hD0.self (sz := s.heap.size)
  generalize hAe : va_A [(o, .inr (0, [.int x, .int y]))] s.heap.size = A at hD hR ⊢
  have hA : ∀ q : Nat, s.heap.size ≤ q → A q := fun q h => by rw [← hAe]; exact Or.inr h
  have hS : va_S A s.heap s.heap [] := va_S.rf
  have hP : va_P D vwCl [(o, .inr (0, [.int x, .int y]))] s.heap := hP
  have hQ := hP
  have hl := lv_entry ([.ref o, .int fl, .int st]) (n := 3) (Nat.le_of_ble_eq_true rfl)
  rw [lg_entry_eq]
  generalize (lg_sl ([.ref o, .int fl, .int st]) ++ List.replicate (3 - (lg_sl ([.ref o, .int fl, .int st])).length) Slot.unset).toArray = ls at hl ⊢
  have hl : lv_has ls 3 [(0, .ref o), (1, .int fl), (2, .int st)] := hl
  refine lv_aload_n hx hb dX1_init_0 rfl (lv_at hl 0 rfl) ?_
  refine lv_iload_n hx hb dX1_init_1 rfl (lv_at hl 1 rfl) ?_
  refine lv_iload_n hx hb dX1_init_2 rfl (lv_at hl 2 rfl) ?_
  have hFc := va_free (wc := [(o, .inr (0, [.int x, .int y]))]) hD hS hA [0] rfl
  refine vz_cw [] [0] [] (va_runI (As := [.int fl, .int st]) (rest := []) FX (c_X2_init_0 l D cI cB cF s.heap.size o x y fl st ) (cwI 2 hts gX1_init_X2_init rfl rfl rfl (hts _ hw_X1_init_3) (hts _ hw_X1_init_1) (hts _ hw_X1_init_2) rfl hd_X2_init ⟨Nat.le_of_ble_eq_true rfl, Nat.le_of_ble_eq_true rfl⟩) (preW_I (hP.sub (ws' := [(o, .inr (0, [.int x, .int y]))]) [0] rfl) (hD.sub (ws' := [(o, .inr (0, [.int x, .int y]))]) [0] (by decide) rfl) hK (show vz_R D [] _ _ from vz_R.nil)) rfl rfl hl.1 rfl (lv_room (Nat.le_of_ble_eq_true rfl)) dX1_init_3 ⟨Nat.le_of_ble_eq_true rfl, Nat.le_of_ble_eq_true rfl⟩) hP hD hS hA rfl rfl rfl (by decide) (fun u H locs hu hP hD hS hz9 hk9 => ?_)
  have hP : va_P D vwCl [(o, .inr (0, [.int fl, .int st]))] H := hP
  have hD : va_D A [(o, .inr (0, [.int fl, .int st]))] := hD
  have hQ := hP
  show W _ _ _ _ _ _ _ _ _ _ _ _ _ _ _ (F0 m 6 ls [])
  have hP9 := hP.sub (ws' := [(o, .inr (0, [.int fl, .int st]))]) [0] rfl
  have hD9 := hD.sub (ws' := [(o, .inr (0, [.int fl, .int st]))]) [0] (by decide) rfl
  exact W.vret hx hb hr (fun t ht hW => ⟨⟨(), rfl, trivial, by rw [ht]; exact hP9, hD9⟩, hS.F ht⟩) hS.2.2 dX1_init_6
set_option maxHeartbeats 4000000 in
set_option maxRecDepth 100000 in
theorem c_X1_init_1 (l : Launch) (D : va_G) (cI cB cF : ClassId) (sz : Nat) (o : Nat) (x : Int32) (y : Int32) (fl : Int32) (st : Int32)  : Met l yX1_init wsX1_init ({ frames := 2, cells := 0, slots := 0, locals := 34 } : Room) (PcW D cI cB cF [.ref o, .int fl, .int st] sz [(o, .inr (1, [.int x, .int y]))] []) (Qw D (S := Unit) (fun xx => none) (fun xx => True) (fun xx => [(o, .inr (1, [.int fl, .int st]))]) (va_A [(o, .inr (1, [.int x, .int y]))] sz)) 0 0 (va_A [(o, .inr (1, [.int x, .int y]))] sz) := by
  refine Met.ofW (cc := cX1_init) (maxL := 3) (ret := none) (by decide) rfl ?_
  intro p e s m args below meth c s₁ Bd hml hv
  rw [show (headSpec wsX1_init ({ frames := 2, cells := 0, slots := 0, locals := 34 } : Room)).room = ({ frames := 2, cells := 0, slots := 0, locals := 34 } : Room) from rfl]
  obtain ⟨rfl, hsz, hP, hK, hD0, hR⟩ := hv
  have hx := Bd.exec
  have hb := Bd.bytes
  have hr := Bd.returns
  have hts := atoms_spec (ws := wsX1_init) Bd.pre
  have hown : s.vm.findClass RX1 = some m.cls := findClass_of_methodNamed Bd.named
  have hlocks := Bd.notSynchronized
  have FX : CallFix p m c cX1_init 3 s _ wsX1_init RX1 := ⟨hx, hb, hml, hown, hts⟩
  have hin : meth.name = "<init>" := (name_of_methodNamed Bd.named Bd.method).1
  subst hsz
  have hD := hD0.self (sz := s.heap.size)
  generalize hAe : va_A [(o, .inr (1, [.int x, .int y]))] s.heap.size = A at hD hR ⊢
  have hA : ∀ q : Nat, s.heap.size ≤ q → A q := fun q h => by rw [← hAe]; exact Or.inr h
  have hS : va_S A s.heap s.heap [] := va_S.rf
  have hP : va_P D vwCl [(o, .inr (1, [.int x, .int y]))] s.heap := hP
  have hQ := hP
  have hl := lv_entry ([.ref o, .int fl, .int st]) (n := 3) (Nat.le_of_ble_eq_true rfl)
  rw [lg_entry_eq]
  generalize (lg_sl ([.ref o, .int fl, .int st]) ++ List.replicate (3 - (lg_sl ([.ref o, .int fl, .int st])).length) Slot.unset).toArray = ls at hl ⊢
  have hl : lv_has ls 3 [(0, .ref o), (1, .int fl), (2, .int st)] := hl
  refine lv_aload_n hx hb dX1_init_0 rfl (lv_at hl 0 rfl) ?_
  refine lv_iload_n hx hb dX1_init_1 rfl (lv_at hl 1 rfl) ?_
  refine lv_iload_n hx hb dX1_init_2 rfl (lv_at hl 2 rfl) ?_
  have hFc := va_free (wc := [(o, .inr (1, [.int x, .int y]))]) hD hS hA [0] rfl
  refine vz_cw [] [0] [] (va_runI (As := [.int fl, .int st]) (rest := []) FX (c_X2_init_1 l D cI cB cF s.heap.size o x y fl st ) (cwI 2 hts gX1_init_X2_init rfl rfl rfl (hts _ hw_X1_init_3) (hts _ hw_X1_init_1) (hts _ hw_X1_init_2) rfl hd_X2_init ⟨Nat.le_of_ble_eq_true rfl, Nat.le_of_ble_eq_true rfl⟩) (preW_I (hP.sub (ws' := [(o, .inr (1, [.int x, .int y]))]) [0] rfl) (hD.sub (ws' := [(o, .inr (1, [.int x, .int y]))]) [0] (by decide) rfl) hK (show vz_R D [] _ _ from vz_R.nil)) rfl rfl hl.1 rfl (lv_room (Nat.le_of_ble_eq_true rfl)) dX1_init_3 ⟨Nat.le_of_ble_eq_true rfl, Nat.le_of_ble_eq_true rfl⟩) hP hD hS hA rfl rfl rfl (by decide) (fun u H locs hu hP hD hS hz9 hk9 => ?_)
  have hP : va_P D vwCl [(o, .inr (1, [.int fl, .int st]))] H := hP
  have hD : va_D A [(o, .inr (1, [.int fl, .int st]))] := hD
  have hQ := hP
  show W _ _ _ _ _ _ _ _ _ _ _ _ _ _ _ (F0 m 6 ls [])
  have hP9 := hP.sub (ws' := [(o, .inr (1, [.int fl, .int st]))]) [0] rfl
  have hD9 := hD.sub (ws' := [(o, .inr (1, [.int fl, .int st]))]) [0] (by decide) rfl
  exact W.vret hx hb hr (fun t ht hW => ⟨⟨(), rfl, trivial, by rw [ht]; exact hP9, hD9⟩, hS.F ht⟩) hS.2.2 dX1_init_6
set_option maxRecDepth 100000 in
theorem hw_X0_init_3 : (.initialized RX1 : Cond) ∈ wsX0_init := List.mem_of_getElem? (i := 3) rfl
set_option maxRecDepth 100000 in
theorem hw_X0_init_1 : (.methodLink RX0 3 yX1_init : Cond) ∈ wsX0_init := List.mem_of_getElem? (i := 1) rfl
set_option maxRecDepth 100000 in
theorem hw_X0_init_2 : (.instanceMethod yX1_init : Cond) ∈ wsX0_init := List.mem_of_getElem? (i := 2) rfl
set_option maxRecDepth 100000 in
theorem hd_X0_init : yX0_init.cls ≠ "java/lang/invoke/MethodHandle" ∧ yX0_init.cls ≠ "java/lang/invoke/VarHandle" ∧ (parseMethodDescriptor yX0_init.desc).map (fun d => d.parameters.length) = some 2 := by decide +kernel
set_option maxHeartbeats 4000000 in
set_option maxRecDepth 100000 in
theorem c_X0_init (l : Launch) (D : va_G) (cI cB cF : ClassId) (sz : Nat) (o : Nat) (x : Int32) (y : Int32) (fl : Int32) (st : Int32)  : Met l yX0_init wsX0_init ({ frames := 3, cells := 0, slots := 0, locals := 56 } : Room) (PcW D cI cB cF [.ref o, .int fl, .int st] sz [(o, .inr (0, [.int x, .int y]))] []) (Qw D (S := Unit) (fun xx => none) (fun xx => True) (fun xx => [(o, .inr (0, [.int fl, .int st]))]) (va_A [(o, .inr (0, [.int x, .int y]))] sz)) 0 0 (va_A [(o, .inr (0, [.int x, .int y]))] sz) := by
  refine Met.ofW (cc := cX0_init) (maxL := 3) (ret := none) (by decide) rfl ?_
  intro p e s m args below meth c s₁ Bd hml hv
  rw [show (headSpec wsX0_init ({ frames := 3, cells := 0, slots := 0, locals := 56 } : Room)).room = ({ frames := 3, cells := 0, slots := 0, locals := 56 } : Room) from rfl]
  obtain ⟨rfl, hsz, hP, hK, hD0, hR⟩ := hv
  have hx := Bd.exec
  have hb := Bd.bytes
  have hr := Bd.returns
  have hts := atoms_spec (ws := wsX0_init) Bd.pre
  have hown : s.vm.findClass RX0 = some m.cls := findClass_of_methodNamed Bd.named
  have hlocks := Bd.notSynchronized
  have FX : CallFix p m c cX0_init 3 s _ wsX0_init RX0 := ⟨hx, hb, hml, hown, hts⟩
  have hin : meth.name = "<init>" := (name_of_methodNamed Bd.named Bd.method).1
  subst hsz
  have hD := hD0.self (sz := s.heap.size)
  generalize hAe : va_A [(o, .inr (0, [.int x, .int y]))] s.heap.size = A at hD hR ⊢
  have hA : ∀ q : Nat, s.heap.size ≤ q → A q := fun q h => by rw [← hAe]; exact Or.inr h
  have hS : va_S A s.heap s.heap [] := va_S.rf
  have hP : va_P D vwCl [(o, .inr (0, [.int x, .int y]))] s.heap := hP
  have hQ := hP
  have hl := lv_entry ([.ref o, .int fl, .int st]) (n := 3) (Nat.le_of_ble_eq_true rfl)
  rw [lg_entry_eq]
  generalize (lg_sl ([.ref o, .int fl, .int st]) ++ List.replicate (3 - (lg_sl ([.ref o, .int fl, .int st])).length) Slot.unset).toArray = ls at hl ⊢
  have hl : lv_has ls 3 [(0, .ref o), (1, .int fl), (2, .int st)] := hl
  refine lv_aload_n hx hb dX0_init_0 rfl (lv_at hl 0 rfl) ?_
  refine lv_iload_n hx hb dX0_init_1 rfl (lv_at hl 1 rfl) ?_
  refine lv_iload_n hx hb dX0_init_2 rfl (lv_at hl 2 rfl) ?_
  have hFc := va_free (wc := [(o, .inr (0, [.int x, .int y]))]) hD hS hA [0] rfl
  refine vz_cw [] [0] [] (va_runI (As := [.int fl, .int st]) (rest := []) FX (c_X1_init_0 l D cI cB cF s.heap.size o x y fl st ) (cwI 2 hts gX0_init_X1_init rfl rfl rfl (hts _ hw_X0_init_3) (hts _ hw_X0_init_1) (hts _ hw_X0_init_2) rfl hd_X1_init ⟨Nat.le_of_ble_eq_true rfl, Nat.le_of_ble_eq_true rfl⟩) (preW_I (hP.sub (ws' := [(o, .inr (0, [.int x, .int y]))]) [0] rfl) (hD.sub (ws' := [(o, .inr (0, [.int x, .int y]))]) [0] (by decide) rfl) hK (show vz_R D [] _ _ from vz_R.nil)) rfl rfl hl.1 rfl (lv_room (Nat.le_of_ble_eq_true rfl)) dX0_init_3 ⟨Nat.le_of_ble_eq_true rfl, Nat.le_of_ble_eq_true rfl⟩) hP hD hS hA rfl rfl rfl (by decide) (fun u H locs hu hP hD hS hz9 hk9 => ?_)
  have hP : va_P D vwCl [(o, .inr (0, [.int fl, .int st]))] H := hP
  have hD : va_D A [(o, .inr (0, [.int fl, .int st]))] := hD
  have hQ := hP
  show W _ _ _ _ _ _ _ _ _ _ _ _ _ _ _ (F0 m 6 ls [])
  have hP9 := hP.sub (ws' := [(o, .inr (0, [.int fl, .int st]))]) [0] rfl
  have hD9 := hD.sub (ws' := [(o, .inr (0, [.int fl, .int st]))]) [0] (by decide) rfl
  exact W.vret hx hb hr (fun t ht hW => ⟨⟨(), rfl, trivial, by rw [ht]; exact hP9, hD9⟩, hS.F ht⟩) hS.2.2 dX0_init_6
set_option maxRecDepth 100000 in
theorem hw_X5_init_3 : (.initialized RX2 : Cond) ∈ wsX5_init := List.mem_of_getElem? (i := 3) rfl
set_option maxRecDepth 100000 in
theorem hw_X5_init_1 : (.methodLink RX5 3 yX2_init : Cond) ∈ wsX5_init := List.mem_of_getElem? (i := 1) rfl
set_option maxRecDepth 100000 in
theorem hw_X5_init_2 : (.instanceMethod yX2_init : Cond) ∈ wsX5_init := List.mem_of_getElem? (i := 2) rfl
set_option maxRecDepth 100000 in
theorem hd_X5_init : yX5_init.cls ≠ "java/lang/invoke/MethodHandle" ∧ yX5_init.cls ≠ "java/lang/invoke/VarHandle" ∧ (parseMethodDescriptor yX5_init.desc).map (fun d => d.parameters.length) = some 2 := by decide +kernel
set_option maxHeartbeats 4000000 in
set_option maxRecDepth 100000 in
theorem c_X5_init (l : Launch) (D : va_G) (cI cB cF : ClassId) (sz : Nat) (o : Nat) (x : Int32) (y : Int32) (fl : Int32) (st : Int32)  : Met l yX5_init wsX5_init ({ frames := 2, cells := 0, slots := 0, locals := 34 } : Room) (PcW D cI cB cF [.ref o, .int fl, .int st] sz [(o, .inr (5, [.int x, .int y]))] []) (Qw D (S := Unit) (fun xx => none) (fun xx => True) (fun xx => [(o, .inr (5, [.int fl, .int st]))]) (va_A [(o, .inr (5, [.int x, .int y]))] sz)) 0 0 (va_A [(o, .inr (5, [.int x, .int y]))] sz) := by
  refine Met.ofW (cc := cX5_init) (maxL := 3) (ret := none) (by decide) rfl ?_
  intro p e s m args below meth c s₁ Bd hml hv
  rw [show (headSpec wsX5_init ({ frames := 2, cells := 0, slots := 0, locals := 34 } : Room)).room = ({ frames := 2, cells := 0, slots := 0, locals := 34 } : Room) from rfl]
  obtain ⟨rfl, hsz, hP, hK, hD0, hR⟩ := hv
  have hx := Bd.exec
  have hb := Bd.bytes
  have hr := Bd.returns
  have hts := atoms_spec (ws := wsX5_init) Bd.pre
  have hown : s.vm.findClass RX5 = some m.cls := findClass_of_methodNamed Bd.named
  have hlocks := Bd.notSynchronized
  have FX : CallFix p m c cX5_init 3 s _ wsX5_init RX5 := ⟨hx, hb, hml, hown, hts⟩
  have hin : meth.name = "<init>" := (name_of_methodNamed Bd.named Bd.method).1
  subst hsz
  have hD := hD0.self (sz := s.heap.size)
  generalize hAe : va_A [(o, .inr (5, [.int x, .int y]))] s.heap.size = A at hD hR ⊢
  have hA : ∀ q : Nat, s.heap.size ≤ q → A q := fun q h => by rw [← hAe]; exact Or.inr h
  have hS : va_S A s.heap s.heap [] := va_S.rf
  have hP : va_P D vwCl [(o, .inr (5, [.int x, .int y]))] s.heap := hP
  have hQ := hP
  have hl := lv_entry ([.ref o, .int fl, .int st]) (n := 3) (Nat.le_of_ble_eq_true rfl)
  rw [lg_entry_eq]
  generalize (lg_sl ([.ref o, .int fl, .int st]) ++ List.replicate (3 - (lg_sl ([.ref o, .int fl, .int st])).length) Slot.unset).toArray = ls at hl ⊢
  have hl : lv_has ls 3 [(0, .ref o), (1, .int fl), (2, .int st)] := hl
  refine lv_aload_n hx hb dX5_init_0 rfl (lv_at hl 0 rfl) ?_
  refine lv_iload_n hx hb dX5_init_1 rfl (lv_at hl 1 rfl) ?_
  refine lv_iload_n hx hb dX5_init_2 rfl (lv_at hl 2 rfl) ?_
  have hFc := va_free (wc := [(o, .inr (5, [.int x, .int y]))]) hD hS hA [0] rfl
  refine vz_cw [] [0] [] (va_runI (As := [.int fl, .int st]) (rest := []) FX (c_X2_init_5 l D cI cB cF s.heap.size o x y fl st ) (cwI 2 hts gX5_init_X2_init rfl rfl rfl (hts _ hw_X5_init_3) (hts _ hw_X5_init_1) (hts _ hw_X5_init_2) rfl hd_X2_init ⟨Nat.le_of_ble_eq_true rfl, Nat.le_of_ble_eq_true rfl⟩) (preW_I (hP.sub (ws' := [(o, .inr (5, [.int x, .int y]))]) [0] rfl) (hD.sub (ws' := [(o, .inr (5, [.int x, .int y]))]) [0] (by decide) rfl) hK (show vz_R D [] _ _ from vz_R.nil)) rfl rfl hl.1 rfl (lv_room (Nat.le_of_ble_eq_true rfl)) dX5_init_3 ⟨Nat.le_of_ble_eq_true rfl, Nat.le_of_ble_eq_true rfl⟩) hP hD hS hA rfl rfl rfl (by decide) (fun u H locs hu hP hD hS hz9 hk9 => ?_)
  have hP : va_P D vwCl [(o, .inr (5, [.int fl, .int st]))] H := hP
  have hD : va_D A [(o, .inr (5, [.int fl, .int st]))] := hD
  have hQ := hP
  show W _ _ _ _ _ _ _ _ _ _ _ _ _ _ _ (F0 m 6 ls [])
  have hP9 := hP.sub (ws' := [(o, .inr (5, [.int fl, .int st]))]) [0] rfl
  have hD9 := hD.sub (ws' := [(o, .inr (5, [.int fl, .int st]))]) [0] (by decide) rfl
  exact W.vret hx hb hr (fun t ht hW => ⟨⟨(), rfl, trivial, by rw [ht]; exact hP9, hD9⟩, hS.F ht⟩) hS.2.2 dX5_init_6
set_option maxRecDepth 100000 in
theorem hw_X6_init_3 : (.initialized RX2 : Cond) ∈ wsX6_init := List.mem_of_getElem? (i := 3) rfl
set_option maxRecDepth 100000 in
theorem hw_X6_init_1 : (.methodLink RX6 3 yX2_init : Cond) ∈ wsX6_init := List.mem_of_getElem? (i := 1) rfl
set_option maxRecDepth 100000 in
theorem hw_X6_init_2 : (.instanceMethod yX2_init : Cond) ∈ wsX6_init := List.mem_of_getElem? (i := 2) rfl
set_option maxRecDepth 100000 in
theorem hd_X6_init : yX6_init.cls ≠ "java/lang/invoke/MethodHandle" ∧ yX6_init.cls ≠ "java/lang/invoke/VarHandle" ∧ (parseMethodDescriptor yX6_init.desc).map (fun d => d.parameters.length) = some 2 := by decide +kernel
set_option maxHeartbeats 4000000 in
set_option maxRecDepth 100000 in
theorem c_X6_init (l : Launch) (D : va_G) (cI cB cF : ClassId) (sz : Nat) (o : Nat) (x : Int32) (y : Int32) (fl : Int32) (st : Int32)  : Met l yX6_init wsX6_init ({ frames := 2, cells := 0, slots := 0, locals := 34 } : Room) (PcW D cI cB cF [.ref o, .int fl, .int st] sz [(o, .inr (6, [.int x, .int y]))] []) (Qw D (S := Unit) (fun xx => none) (fun xx => True) (fun xx => [(o, .inr (6, [.int fl, .int st]))]) (va_A [(o, .inr (6, [.int x, .int y]))] sz)) 0 0 (va_A [(o, .inr (6, [.int x, .int y]))] sz) := by
  refine Met.ofW (cc := cX6_init) (maxL := 3) (ret := none) (by decide) rfl ?_
  intro p e s m args below meth c s₁ Bd hml hv
  rw [show (headSpec wsX6_init ({ frames := 2, cells := 0, slots := 0, locals := 34 } : Room)).room = ({ frames := 2, cells := 0, slots := 0, locals := 34 } : Room) from rfl]
  obtain ⟨rfl, hsz, hP, hK, hD0, hR⟩ := hv
  have hx := Bd.exec
  have hb := Bd.bytes
  have hr := Bd.returns
  have hts := atoms_spec (ws := wsX6_init) Bd.pre
  have hown : s.vm.findClass RX6 = some m.cls := findClass_of_methodNamed Bd.named
  have hlocks := Bd.notSynchronized
  have FX : CallFix p m c cX6_init 3 s _ wsX6_init RX6 := ⟨hx, hb, hml, hown, hts⟩
  have hin : meth.name = "<init>" := (name_of_methodNamed Bd.named Bd.method).1
  subst hsz
  have hD := hD0.self (sz := s.heap.size)
  generalize hAe : va_A [(o, .inr (6, [.int x, .int y]))] s.heap.size = A at hD hR ⊢
  have hA : ∀ q : Nat, s.heap.size ≤ q → A q := fun q h => by rw [← hAe]; exact Or.inr h
  have hS : va_S A s.heap s.heap [] := va_S.rf
  have hP : va_P D vwCl [(o, .inr (6, [.int x, .int y]))] s.heap := hP
  have hQ := hP
  have hl := lv_entry ([.ref o, .int fl, .int st]) (n := 3) (Nat.le_of_ble_eq_true rfl)
  rw [lg_entry_eq]
  generalize (lg_sl ([.ref o, .int fl, .int st]) ++ List.replicate (3 - (lg_sl ([.ref o, .int fl, .int st])).length) Slot.unset).toArray = ls at hl ⊢
  have hl : lv_has ls 3 [(0, .ref o), (1, .int fl), (2, .int st)] := hl
  refine lv_aload_n hx hb dX6_init_0 rfl (lv_at hl 0 rfl) ?_
  refine lv_iload_n hx hb dX6_init_1 rfl (lv_at hl 1 rfl) ?_
  refine lv_iload_n hx hb dX6_init_2 rfl (lv_at hl 2 rfl) ?_
  have hFc := va_free (wc := [(o, .inr (6, [.int x, .int y]))]) hD hS hA [0] rfl
  refine vz_cw [] [0] [] (va_runI (As := [.int fl, .int st]) (rest := []) FX (c_X2_init_6 l D cI cB cF s.heap.size o x y fl st ) (cwI 2 hts gX6_init_X2_init rfl rfl rfl (hts _ hw_X6_init_3) (hts _ hw_X6_init_1) (hts _ hw_X6_init_2) rfl hd_X2_init ⟨Nat.le_of_ble_eq_true rfl, Nat.le_of_ble_eq_true rfl⟩) (preW_I (hP.sub (ws' := [(o, .inr (6, [.int x, .int y]))]) [0] rfl) (hD.sub (ws' := [(o, .inr (6, [.int x, .int y]))]) [0] (by decide) rfl) hK (show vz_R D [] _ _ from vz_R.nil)) rfl rfl hl.1 rfl (lv_room (Nat.le_of_ble_eq_true rfl)) dX6_init_3 ⟨Nat.le_of_ble_eq_true rfl, Nat.le_of_ble_eq_true rfl⟩) hP hD hS hA rfl rfl rfl (by decide) (fun u H locs hu hP hD hS hz9 hk9 => ?_)
  have hP : va_P D vwCl [(o, .inr (6, [.int fl, .int st]))] H := hP
  have hD : va_D A [(o, .inr (6, [.int fl, .int st]))] := hD
  have hQ := hP
  show W _ _ _ _ _ _ _ _ _ _ _ _ _ _ _ (F0 m 6 ls [])
  have hP9 := hP.sub (ws' := [(o, .inr (6, [.int fl, .int st]))]) [0] rfl
  have hD9 := hD.sub (ws' := [(o, .inr (6, [.int fl, .int st]))]) [0] (by decide) rfl
  exact W.vret hx hb hr (fun t ht hW => ⟨⟨(), rfl, trivial, by rw [ht]; exact hP9, hD9⟩, hS.F ht⟩) hS.2.2 dX6_init_6
set_option maxRecDepth 100000 in
theorem hd_X2_kind : yX2_kind.cls ≠ "java/lang/invoke/MethodHandle" ∧ yX2_kind.cls ≠ "java/lang/invoke/VarHandle" ∧ (parseMethodDescriptor yX2_kind.desc).map (fun d => d.parameters.length) = some 0 := by decide +kernel
set_option maxHeartbeats 4000000 in
set_option maxRecDepth 100000 in
theorem c_X2_kind (l : Launch) (D : va_G) (cI cB cF : ClassId) (o : Nat)  : Met l yX2_kind wsX2_kind ({ frames := 0, cells := 0, slots := 0, locals := 0 } : Room) (PcP D cI cB cF [.ref o] []) (QcV (.int 0)) 0 0 (fun _ => False) := by
  refine Met.ofW (cc := cX2_kind) (maxL := 1) (ret := (some .int)) (by decide) rfl ?_
  intro p e s m args below meth c s₁ Bd hml hv
  rw [show (headSpec wsX2_kind ({ frames := 0, cells := 0, slots := 0, locals := 0 } : Room)).room = ({ frames := 0, cells := 0, slots := 0, locals := 0 } : Room) from rfl]
  obtain ⟨rfl, hQ, hK⟩ := hv
  have hx := Bd.exec
  have hb := Bd.bytes
  have hr := Bd.returns
  have hts := atoms_spec (ws := wsX2_kind) Bd.pre
  have hown : s.vm.findClass RX2 = some m.cls := findClass_of_methodNamed Bd.named
  have hlocks := Bd.notSynchronized
  have FX : CallFix p m c cX2_kind 1 s _ wsX2_kind RX2 := ⟨hx, hb, hml, hown, hts⟩
  have hQ : va_P D vwCl [] s.heap := hQ
  have hl := lv_entry ([.ref o]) (n := 1) (Nat.le_of_ble_eq_true rfl)
  rw [lg_entry_eq]
  generalize (lg_sl ([.ref o]) ++ List.replicate (1 - (lg_sl ([.ref o])).length) Slot.unset).toArray = ls at hl ⊢
  have hl : lv_has ls 1 [(0, .ref o)] := hl
  refine lv_iconst (v := 0) hx hb dX2_kind_0 (by decide) ?_
  exact W.iret hx hb hr (fun t ht hW => ⟨rfl, ht⟩) (fun q h => by cases h) dX2_kind_1
set_option maxRecDepth 100000 in
theorem hd_X1_kind : yX1_kind.cls ≠ "java/lang/invoke/MethodHandle" ∧ yX1_kind.cls ≠ "java/lang/invoke/VarHandle" ∧ (parseMethodDescriptor yX1_kind.desc).map (fun d => d.parameters.length) = some 0 := by decide +kernel
set_option maxHeartbeats 4000000 in
set_option maxRecDepth 100000 in
theorem c_X1_kind (l : Launch) (D : va_G) (cI cB cF : ClassId) (o : Nat)  : Met l yX1_kind wsX1_kind ({ frames := 0, cells := 0, slots := 0, locals := 0 } : Room) (PcP D cI cB cF [.ref o] []) (QcV (.int 1)) 0 0 (fun _ => False) := by
  refine Met.ofW (cc := cX1_kind) (maxL := 1) (ret := (some .int)) (by decide) rfl ?_
  intro p e s m args below meth c s₁ Bd hml hv
  rw [show (headSpec wsX1_kind ({ frames := 0, cells := 0, slots := 0, locals := 0 } : Room)).room = ({ frames := 0, cells := 0, slots := 0, locals := 0 } : Room) from rfl]
  obtain ⟨rfl, hQ, hK⟩ := hv
  have hx := Bd.exec
  have hb := Bd.bytes
  have hr := Bd.returns
  have hts := atoms_spec (ws := wsX1_kind) Bd.pre
  have hown : s.vm.findClass RX1 = some m.cls := findClass_of_methodNamed Bd.named
  have hlocks := Bd.notSynchronized
  have FX : CallFix p m c cX1_kind 1 s _ wsX1_kind RX1 := ⟨hx, hb, hml, hown, hts⟩
  have hQ : va_P D vwCl [] s.heap := hQ
  have hl := lv_entry ([.ref o]) (n := 1) (Nat.le_of_ble_eq_true rfl)
  rw [lg_entry_eq]
  generalize (lg_sl ([.ref o]) ++ List.replicate (1 - (lg_sl ([.ref o])).length) Slot.unset).toArray = ls at hl ⊢
  have hl : lv_has ls 1 [(0, .ref o)] := hl
  refine lv_iconst (v := 1) hx hb dX1_kind_0 (by decide) ?_
  exact W.iret hx hb hr (fun t ht hW => ⟨rfl, ht⟩) (fun q h => by cases h) dX1_kind_1
set_option maxRecDepth 100000 in
theorem hd_X6_kind : yX6_kind.cls ≠ "java/lang/invoke/MethodHandle" ∧ yX6_kind.cls ≠ "java/lang/invoke/VarHandle" ∧ (parseMethodDescriptor yX6_kind.desc).map (fun d => d.parameters.length) = some 0 := by decide +kernel
set_option maxHeartbeats 4000000 in
set_option maxRecDepth 100000 in
theorem c_X6_kind (l : Launch) (D : va_G) (cI cB cF : ClassId) (o : Nat)  : Met l yX6_kind wsX6_kind ({ frames := 0, cells := 0, slots := 0, locals := 0 } : Room) (PcP D cI cB cF [.ref o] []) (QcV (.int 2)) 0 0 (fun _ => False) := by
  refine Met.ofW (cc := cX6_kind) (maxL := 1) (ret := (some .int)) (by decide) rfl ?_
  intro p e s m args below meth c s₁ Bd hml hv
  rw [show (headSpec wsX6_kind ({ frames := 0, cells := 0, slots := 0, locals := 0 } : Room)).room = ({ frames := 0, cells := 0, slots := 0, locals := 0 } : Room) from rfl]
  obtain ⟨rfl, hQ, hK⟩ := hv
  have hx := Bd.exec
  have hb := Bd.bytes
  have hr := Bd.returns
  have hts := atoms_spec (ws := wsX6_kind) Bd.pre
  have hown : s.vm.findClass RX6 = some m.cls := findClass_of_methodNamed Bd.named
  have hlocks := Bd.notSynchronized
  have FX : CallFix p m c cX6_kind 1 s _ wsX6_kind RX6 := ⟨hx, hb, hml, hown, hts⟩
  have hQ : va_P D vwCl [] s.heap := hQ
  have hl := lv_entry ([.ref o]) (n := 1) (Nat.le_of_ble_eq_true rfl)
  rw [lg_entry_eq]
  generalize (lg_sl ([.ref o]) ++ List.replicate (1 - (lg_sl ([.ref o])).length) Slot.unset).toArray = ls at hl ⊢
  have hl : lv_has ls 1 [(0, .ref o)] := hl
  refine lv_iconst (v := 2) hx hb dX6_kind_0 (by decide) ?_
  exact W.iret hx hb hr (fun t ht hW => ⟨rfl, ht⟩) (fun q h => by cases h) dX6_kind_1
set_option maxRecDepth 100000 in
theorem hd_X5_kind : yX5_kind.cls ≠ "java/lang/invoke/MethodHandle" ∧ yX5_kind.cls ≠ "java/lang/invoke/VarHandle" ∧ (parseMethodDescriptor yX5_kind.desc).map (fun d => d.parameters.length) = some 0 := by decide +kernel
set_option maxHeartbeats 4000000 in
set_option maxRecDepth 100000 in
theorem c_X5_kind (l : Launch) (D : va_G) (cI cB cF : ClassId) (o : Nat)  : Met l yX5_kind wsX5_kind ({ frames := 0, cells := 0, slots := 0, locals := 0 } : Room) (PcP D cI cB cF [.ref o] []) (QcV (.int 3)) 0 0 (fun _ => False) := by
  refine Met.ofW (cc := cX5_kind) (maxL := 1) (ret := (some .int)) (by decide) rfl ?_
  intro p e s m args below meth c s₁ Bd hml hv
  rw [show (headSpec wsX5_kind ({ frames := 0, cells := 0, slots := 0, locals := 0 } : Room)).room = ({ frames := 0, cells := 0, slots := 0, locals := 0 } : Room) from rfl]
  obtain ⟨rfl, hQ, hK⟩ := hv
  have hx := Bd.exec
  have hb := Bd.bytes
  have hr := Bd.returns
  have hts := atoms_spec (ws := wsX5_kind) Bd.pre
  have hown : s.vm.findClass RX5 = some m.cls := findClass_of_methodNamed Bd.named
  have hlocks := Bd.notSynchronized
  have FX : CallFix p m c cX5_kind 1 s _ wsX5_kind RX5 := ⟨hx, hb, hml, hown, hts⟩
  have hQ : va_P D vwCl [] s.heap := hQ
  have hl := lv_entry ([.ref o]) (n := 1) (Nat.le_of_ble_eq_true rfl)
  rw [lg_entry_eq]
  generalize (lg_sl ([.ref o]) ++ List.replicate (1 - (lg_sl ([.ref o])).length) Slot.unset).toArray = ls at hl ⊢
  have hl : lv_has ls 1 [(0, .ref o)] := hl
  refine lv_iconst (v := 3) hx hb dX5_kind_0 (by decide) ?_
  exact W.iret hx hb hr (fun t ht hW => ⟨rfl, ht⟩) (fun q h => by cases h) dX5_kind_1
set_option maxRecDepth 100000 in
theorem hd_X0_kind : yX0_kind.cls ≠ "java/lang/invoke/MethodHandle" ∧ yX0_kind.cls ≠ "java/lang/invoke/VarHandle" ∧ (parseMethodDescriptor yX0_kind.desc).map (fun d => d.parameters.length) = some 0 := by decide +kernel
set_option maxHeartbeats 4000000 in
set_option maxRecDepth 100000 in
theorem c_X0_kind (l : Launch) (D : va_G) (cI cB cF : ClassId) (o : Nat)  : Met l yX0_kind wsX0_kind ({ frames := 0, cells := 0, slots := 0, locals := 0 } : Room) (PcP D cI cB cF [.ref o] []) (QcV (.int 4)) 0 0 (fun _ => False) := by
  refine Met.ofW (cc := cX0_kind) (maxL := 1) (ret := (some .int)) (by decide) rfl ?_
  intro p e s m args below meth c s₁ Bd hml hv
  rw [show (headSpec wsX0_kind ({ frames := 0, cells := 0, slots := 0, locals := 0 } : Room)).room = ({ frames := 0, cells := 0, slots := 0, locals := 0 } : Room) from rfl]
  obtain ⟨rfl, hQ, hK⟩ := hv
  have hx := Bd.exec
  have hb := Bd.bytes
  have hr := Bd.returns
  have hts := atoms_spec (ws := wsX0_kind) Bd.pre
  have hown : s.vm.findClass RX0 = some m.cls := findClass_of_methodNamed Bd.named
  have hlocks := Bd.notSynchronized
  have FX : CallFix p m c cX0_kind 1 s _ wsX0_kind RX0 := ⟨hx, hb, hml, hown, hts⟩
  have hQ : va_P D vwCl [] s.heap := hQ
  have hl := lv_entry ([.ref o]) (n := 1) (Nat.le_of_ble_eq_true rfl)
  rw [lg_entry_eq]
  generalize (lg_sl ([.ref o]) ++ List.replicate (1 - (lg_sl ([.ref o])).length) Slot.unset).toArray = ls at hl ⊢
  have hl : lv_has ls 1 [(0, .ref o)] := hl
  refine lv_iconst (v := 4) hx hb dX0_kind_0 (by decide) ?_
  exact W.iret hx hb hr (fun t ht hW => ⟨rfl, ht⟩) (fun q h => by cases h) dX0_kind_1
set_option maxRecDepth 100000 in
theorem hd_X2_letsItSleep : yX2_letsItSleep.cls ≠ "java/lang/invoke/MethodHandle" ∧ yX2_letsItSleep.cls ≠ "java/lang/invoke/VarHandle" ∧ (parseMethodDescriptor yX2_letsItSleep.desc).map (fun d => d.parameters.length) = some 0 := by decide +kernel
set_option maxHeartbeats 4000000 in
set_option maxRecDepth 100000 in
theorem c_X2_letsItSleep (l : Launch) (D : va_G) (cI cB cF : ClassId) (o : Nat)  : Met l yX2_letsItSleep wsX2_letsItSleep ({ frames := 0, cells := 0, slots := 0, locals := 0 } : Room) (PcP D cI cB cF [.ref o] []) (QcV (.int 0)) 0 0 (fun _ => False) := by
  refine Met.ofW (cc := cX2_letsItSleep) (maxL := 1) (ret := (some .boolean)) (by decide) rfl ?_
  intro p e s m args below meth c s₁ Bd hml hv
  rw [show (headSpec wsX2_letsItSleep ({ frames := 0, cells := 0, slots := 0, locals := 0 } : Room)).room = ({ frames := 0, cells := 0, slots := 0, locals := 0 } : Room) from rfl]
  obtain ⟨rfl, hQ, hK⟩ := hv
  have hx := Bd.exec
  have hb := Bd.bytes
  have hr := Bd.returns
  have hts := atoms_spec (ws := wsX2_letsItSleep) Bd.pre
  have hown : s.vm.findClass RX2 = some m.cls := findClass_of_methodNamed Bd.named
  have hlocks := Bd.notSynchronized
  have FX : CallFix p m c cX2_letsItSleep 1 s _ wsX2_letsItSleep RX2 := ⟨hx, hb, hml, hown, hts⟩
  have hQ : va_P D vwCl [] s.heap := hQ
  have hl := lv_entry ([.ref o]) (n := 1) (Nat.le_of_ble_eq_true rfl)
  rw [lg_entry_eq]
  generalize (lg_sl ([.ref o]) ++ List.replicate (1 - (lg_sl ([.ref o])).length) Slot.unset).toArray = ls at hl ⊢
  have hl : lv_has ls 1 [(0, .ref o)] := hl
  refine lv_iconst (v := 0) hx hb dX2_letsItSleep_0 (by decide) ?_
  exact W.zret hx hb hr (rfl) (fun t ht hW => ⟨rfl, ht⟩) (fun q h => by cases h) dX2_letsItSleep_1
set_option maxRecDepth 100000 in
theorem hd_X6_letsItSleep : yX6_letsItSleep.cls ≠ "java/lang/invoke/MethodHandle" ∧ yX6_letsItSleep.cls ≠ "java/lang/invoke/VarHandle" ∧ (parseMethodDescriptor yX6_letsItSleep.desc).map (fun d => d.parameters.length) = some 0 := by decide +kernel
set_option maxHeartbeats 4000000 in
set_option maxRecDepth 100000 in
theorem c_X6_letsItSleep (l : Launch) (D : va_G) (cI cB cF : ClassId) (o : Nat)  : Met l yX6_letsItSleep wsX6_letsItSleep ({ frames := 0, cells := 0, slots := 0, locals := 0 } : Room) (PcP D cI cB cF [.ref o] []) (QcV (.int 1)) 0 0 (fun _ => False) := by
  refine Met.ofW (cc := cX6_letsItSleep) (maxL := 1) (ret := (some .boolean)) (by decide) rfl ?_
  intro p e s m args below meth c s₁ Bd hml hv
  rw [show (headSpec wsX6_letsItSleep ({ frames := 0, cells := 0, slots := 0, locals := 0 } : Room)).room = ({ frames := 0, cells := 0, slots := 0, locals := 0 } : Room) from rfl]
  obtain ⟨rfl, hQ, hK⟩ := hv
  have hx := Bd.exec
  have hb := Bd.bytes
  have hr := Bd.returns
  have hts := atoms_spec (ws := wsX6_letsItSleep) Bd.pre
  have hown : s.vm.findClass RX6 = some m.cls := findClass_of_methodNamed Bd.named
  have hlocks := Bd.notSynchronized
  have FX : CallFix p m c cX6_letsItSleep 1 s _ wsX6_letsItSleep RX6 := ⟨hx, hb, hml, hown, hts⟩
  have hQ : va_P D vwCl [] s.heap := hQ
  have hl := lv_entry ([.ref o]) (n := 1) (Nat.le_of_ble_eq_true rfl)
  rw [lg_entry_eq]
  generalize (lg_sl ([.ref o]) ++ List.replicate (1 - (lg_sl ([.ref o])).length) Slot.unset).toArray = ls at hl ⊢
  have hl : lv_has ls 1 [(0, .ref o)] := hl
  refine lv_iconst (v := 1) hx hb dX6_letsItSleep_0 (by decide) ?_
  exact W.zret hx hb hr (rfl) (fun t ht hW => ⟨rfl, ht⟩) (fun q h => by cases h) dX6_letsItSleep_1
set_option maxRecDepth 100000 in
theorem hd_X2_fitterByStanding : yX2_fitterByStanding.cls ≠ "java/lang/invoke/MethodHandle" ∧ yX2_fitterByStanding.cls ≠ "java/lang/invoke/VarHandle" ∧ (parseMethodDescriptor yX2_fitterByStanding.desc).map (fun d => d.parameters.length) = some 0 := by decide +kernel
set_option maxHeartbeats 4000000 in
set_option maxRecDepth 100000 in
theorem c_X2_fitterByStanding (l : Launch) (D : va_G) (cI cB cF : ClassId) (o : Nat)  : Met l yX2_fitterByStanding wsX2_fitterByStanding ({ frames := 0, cells := 0, slots := 0, locals := 0 } : Room) (PcP D cI cB cF [.ref o] []) (QcV (.int (-1))) 0 0 (fun _ => False) := by
  refine Met.ofW (cc := cX2_fitterByStanding) (maxL := 1) (ret := (some .int)) (by decide) rfl ?_
  intro p e s m args below meth c s₁ Bd hml hv
  rw [show (headSpec wsX2_fitterByStanding ({ frames := 0, cells := 0, slots := 0, locals := 0 } : Room)).room = ({ frames := 0, cells := 0, slots := 0, locals := 0 } : Room) from rfl]
  obtain ⟨rfl, hQ, hK⟩ := hv
  have hx := Bd.exec
  have hb := Bd.bytes
  have hr := Bd.returns
  have hts := atoms_spec (ws := wsX2_fitterByStanding) Bd.pre
  have hown : s.vm.findClass RX2 = some m.cls := findClass_of_methodNamed Bd.named
  have hlocks := Bd.notSynchronized
  have FX : CallFix p m c cX2_fitterByStanding 1 s _ wsX2_fitterByStanding RX2 := ⟨hx, hb, hml, hown, hts⟩
  have hQ : va_P D vwCl [] s.heap := hQ
  have hl := lv_entry ([.ref o]) (n := 1) (Nat.le_of_ble_eq_true rfl)
  rw [lg_entry_eq]
  generalize (lg_sl ([.ref o]) ++ List.replicate (1 - (lg_sl ([.ref o])).length) Slot.unset).toArray = ls at hl ⊢
  have hl : lv_has ls 1 [(0, .ref o)] := hl
  refine lv_iconst (v := (-1)) hx hb dX2_fitterByStanding_0 (by decide) ?_
  exact W.iret hx hb hr (fun t ht hW => ⟨rfl, ht⟩) (fun q h => by cases h) dX2_fitterByStanding_1
set_option maxRecDepth 100000 in
theorem hd_X5_fitterByStanding : yX5_fitterByStanding.cls ≠ "java/lang/invoke/MethodHandle" ∧ yX5_fitterByStanding.cls ≠ "java/lang/invoke/VarHandle" ∧ (parseMethodDescriptor yX5_fitterByStanding.desc).map (fun d => d.parameters.length) = some 0 := by decide +kernel
set_option maxHeartbeats 4000000 in
set_option maxRecDepth 100000 in
theorem c_X5_fitterByStanding (l : Launch) (D : va_G) (cI cB cF : ClassId) (o : Nat)  : Met l yX5_fitterByStanding wsX5_fitterByStanding ({ frames := 0, cells := 0, slots := 0, locals := 0 } : Room) (PcP D cI cB cF [.ref o] []) (QcV (.int 1)) 0 0 (fun _ => False) := by
  refine Met.ofW (cc := cX5_fitterByStanding) (maxL := 1) (ret := (some .int)) (by decide) rfl ?_
  intro p e s m args below meth c s₁ Bd hml hv
  rw [show (headSpec wsX5_fitterByStanding ({ frames := 0, cells := 0, slots := 0, locals := 0 } : Room)).room = ({ frames := 0, cells := 0, slots := 0, locals := 0 } : Room) from rfl]
  obtain ⟨rfl, hQ, hK⟩ := hv
  have hx := Bd.exec
  have hb := Bd.bytes
  have hr := Bd.returns
  have hts := atoms_spec (ws := wsX5_fitterByStanding) Bd.pre
  have hown : s.vm.findClass RX5 = some m.cls := findClass_of_methodNamed Bd.named
  have hlocks := Bd.notSynchronized
  have FX : CallFix p m c cX5_fitterByStanding 1 s _ wsX5_fitterByStanding RX5 := ⟨hx, hb, hml, hown, hts⟩
  have hQ : va_P D vwCl [] s.heap := hQ
  have hl := lv_entry ([.ref o]) (n := 1) (Nat.le_of_ble_eq_true rfl)
  rw [lg_entry_eq]
  generalize (lg_sl ([.ref o]) ++ List.replicate (1 - (lg_sl ([.ref o])).length) Slot.unset).toArray = ls at hl ⊢
  have hl : lv_has ls 1 [(0, .ref o)] := hl
  refine lv_iconst (v := 1) hx hb dX5_fitterByStanding_0 (by decide) ?_
  exact W.iret hx hb hr (fun t ht hW => ⟨rfl, ht⟩) (fun q h => by cases h) dX5_fitterByStanding_1
set_option maxRecDepth 100000 in
theorem iw_X2_bears_X2 : ∀ w ∈ u_ws RX2 TX2 2, w ∈ wsX2_bears := fun w h => List.mem_cons_of_mem _ (List.mem_append_left _ (List.mem_append_left _ (List.mem_append_right _ h)))
set_option maxRecDepth 100000 in
theorem hw_X2_bears_1 : (.fieldLink RX2 15 "RotaFathers$Father" "strength" "I" : Cond) ∈ wsX2_bears := List.mem_of_getElem? (i := 1) rfl
set_option maxRecDepth 100000 in
theorem hd_X2_bears : yX2_bears.cls ≠ "java/lang/invoke/MethodHandle" ∧ yX2_bears.cls ≠ "java/lang/invoke/VarHandle" ∧ (parseMethodDescriptor yX2_bears.desc).map (fun d => d.parameters.length) = some 1 := by decide +kernel
set_option maxHeartbeats 4000000 in
set_option maxRecDepth 100000 in
theorem c_X2_bears_2 (l : Launch) (D : va_G) (cI cB cF : ClassId) (o : Nat) (fl : Int32) (st : Int32) (i : Int32)  : Met l yX2_bears wsX2_bears ({ frames := 0, cells := 0, slots := 0, locals := 0 } : Room) (PcP D cI cB cF [.ref o, .int i] [(o, .inr (2, [.int fl, .int st]))]) (QcV (.int st)) 0 0 (fun _ => False) := by
  refine Met.ofW (cc := cX2_bears) (maxL := 2) (ret := (some .int)) (by decide) rfl ?_
  intro p e s m args below meth c s₁ Bd hml hv
  rw [show (headSpec wsX2_bears ({ frames := 0, cells := 0, slots := 0, locals := 0 } : Room)).room = ({ frames := 0, cells := 0, slots := 0, locals := 0 } : Room) from rfl]
  obtain ⟨rfl, hQ, hK⟩ := hv
  have hx := Bd.exec
  have hb := Bd.bytes
  have hr := Bd.returns
  have hts := atoms_spec (ws := wsX2_bears) Bd.pre
  have hown : s.vm.findClass RX2 = some m.cls := findClass_of_methodNamed Bd.named
  have hlocks := Bd.notSynchronized
  have FX : CallFix p m c cX2_bears 2 s _ wsX2_bears RX2 := ⟨hx, hb, hml, hown, hts⟩
  have hQ : va_P D vwCl [(o, .inr (2, [.int fl, .int st]))] s.heap := hQ
  have hl := lv_entry ([.ref o, .int i]) (n := 2) (Nat.le_of_ble_eq_true rfl)
  rw [lg_entry_eq]
  generalize (lg_sl ([.ref o, .int i]) ++ List.replicate (2 - (lg_sl ([.ref o, .int i])).length) Slot.unset).toArray = ls at hl ⊢
  have hl : lv_has ls 2 [(0, .ref o), (1, .int i)] := hl
  refine lv_aload_n hx hb dX2_bears_0 rfl (lv_at hl 0 rfl) ?_
  refine va_get (D := D) (cl := vwCl) (tys := zT cI cB cF) (ci := 2) (v := .int st) (C := RX2) (T := TX2) (N := 2) hx hb hts iw_X2_bears_X2 hown hK.1 hQ 0 rfl rfl 1 (by decide) (hts _ hw_X2_bears_1) (fun _ h9 => h9) rfl dX2_bears_1 ?_
  exact W.iret hx hb hr (fun t ht hW => ⟨rfl, ht⟩) (fun q h => by cases h) dX2_bears_4
set_option maxRecDepth 100000 in
theorem iw_X2_bears_X5 : ∀ w ∈ u_ws RX5 TX5 2, w ∈ wsX2_bears := fun w h => List.mem_cons_of_mem _ (List.mem_append_left _ (List.mem_append_right _ h))
set_option maxHeartbeats 4000000 in
set_option maxRecDepth 100000 in
theorem c_X2_bears_5 (l : Launch) (D : va_G) (cI cB cF : ClassId) (o : Nat) (fl : Int32) (st : Int32) (i : Int32)  : Met l yX2_bears wsX2_bears ({ frames := 0, cells := 0, slots := 0, locals := 0 } : Room) (PcP D cI cB cF [.ref o, .int i] [(o, .inr (5, [.int fl, .int st]))]) (QcV (.int st)) 0 0 (fun _ => False) := by
  refine Met.ofW (cc := cX2_bears) (maxL := 2) (ret := (some .int)) (by decide) rfl ?_
  intro p e s m args below meth c s₁ Bd hml hv
  rw [show (headSpec wsX2_bears ({ frames := 0, cells := 0, slots := 0, locals := 0 } : Room)).room = ({ frames := 0, cells := 0, slots := 0, locals := 0 } : Room) from rfl]
  obtain ⟨rfl, hQ, hK⟩ := hv
  have hx := Bd.exec
  have hb := Bd.bytes
  have hr := Bd.returns
  have hts := atoms_spec (ws := wsX2_bears) Bd.pre
  have hown : s.vm.findClass RX2 = some m.cls := findClass_of_methodNamed Bd.named
  have hlocks := Bd.notSynchronized
  have FX : CallFix p m c cX2_bears 2 s _ wsX2_bears RX2 := ⟨hx, hb, hml, hown, hts⟩
  have hQ : va_P D vwCl [(o, .inr (5, [.int fl, .int st]))] s.heap := hQ
  have hl := lv_entry ([.ref o, .int i]) (n := 2) (Nat.le_of_ble_eq_true rfl)
  rw [lg_entry_eq]
  generalize (lg_sl ([.ref o, .int i]) ++ List.replicate (2 - (lg_sl ([.ref o, .int i])).length) Slot.unset).toArray = ls at hl ⊢
  have hl : lv_has ls 2 [(0, .ref o), (1, .int i)] := hl
  refine lv_aload_n hx hb dX2_bears_0 rfl (lv_at hl 0 rfl) ?_
  refine va_get (D := D) (cl := vwCl) (tys := zT cI cB cF) (ci := 5) (v := .int st) (C := RX5) (T := TX5) (N := 2) hx hb hts iw_X2_bears_X5 hown hK.1 hQ 0 rfl rfl 1 (by decide) (hts _ hw_X2_bears_1) (fun _ h9 => h9) rfl dX2_bears_1 ?_
  exact W.iret hx hb hr (fun t ht hW => ⟨rfl, ht⟩) (fun q h => by cases h) dX2_bears_4
set_option maxRecDepth 100000 in
theorem iw_X2_bears_X6 : ∀ w ∈ u_ws RX6 TX6 2, w ∈ wsX2_bears := fun w h => List.mem_cons_of_mem _ (List.mem_append_right _ h)
set_option maxHeartbeats 4000000 in
set_option maxRecDepth 100000 in
theorem c_X2_bears_6 (l : Launch) (D : va_G) (cI cB cF : ClassId) (o : Nat) (fl : Int32) (st : Int32) (i : Int32)  : Met l yX2_bears wsX2_bears ({ frames := 0, cells := 0, slots := 0, locals := 0 } : Room) (PcP D cI cB cF [.ref o, .int i] [(o, .inr (6, [.int fl, .int st]))]) (QcV (.int st)) 0 0 (fun _ => False) := by
  refine Met.ofW (cc := cX2_bears) (maxL := 2) (ret := (some .int)) (by decide) rfl ?_
  intro p e s m args below meth c s₁ Bd hml hv
  rw [show (headSpec wsX2_bears ({ frames := 0, cells := 0, slots := 0, locals := 0 } : Room)).room = ({ frames := 0, cells := 0, slots := 0, locals := 0 } : Room) from rfl]
  obtain ⟨rfl, hQ, hK⟩ := hv
  have hx := Bd.exec
  have hb := Bd.bytes
  have hr := Bd.returns
  have hts := atoms_spec (ws := wsX2_bears) Bd.pre
  have hown : s.vm.findClass RX2 = some m.cls := findClass_of_methodNamed Bd.named
  have hlocks := Bd.notSynchronized
  have FX : CallFix p m c cX2_bears 2 s _ wsX2_bears RX2 := ⟨hx, hb, hml, hown, hts⟩
  have hQ : va_P D vwCl [(o, .inr (6, [.int fl, .int st]))] s.heap := hQ
  have hl := lv_entry ([.ref o, .int i]) (n := 2) (Nat.le_of_ble_eq_true rfl)
  rw [lg_entry_eq]
  generalize (lg_sl ([.ref o, .int i]) ++ List.replicate (2 - (lg_sl ([.ref o, .int i])).length) Slot.unset).toArray = ls at hl ⊢
  have hl : lv_has ls 2 [(0, .ref o), (1, .int i)] := hl
  refine lv_aload_n hx hb dX2_bears_0 rfl (lv_at hl 0 rfl) ?_
  refine va_get (D := D) (cl := vwCl) (tys := zT cI cB cF) (ci := 6) (v := .int st) (C := RX6) (T := TX6) (N := 2) hx hb hts iw_X2_bears_X6 hown hK.1 hQ 0 rfl rfl 1 (by decide) (hts _ hw_X2_bears_1) (fun _ h9 => h9) rfl dX2_bears_1 ?_
  exact W.iret hx hb hr (fun t ht hW => ⟨rfl, ht⟩) (fun q h => by cases h) dX2_bears_4
set_option maxRecDepth 100000 in
theorem hw_X1_bears_2 : (.sameField "RotaFathers$Copt" "RotaFathers$Father" "strength" "I" : Cond) ∈ wsX1_bears := List.mem_of_getElem? (i := 2) rfl
set_option maxRecDepth 100000 in
theorem iw_X1_bears_X1 : ∀ w ∈ u_ws RX1 TX1 2, w ∈ wsX1_bears := fun w h => List.mem_cons_of_mem _ (List.mem_append_left _ (List.mem_append_left _ (List.mem_append_left _ (List.mem_append_right _ h))))
set_option maxRecDepth 100000 in
theorem hw_X1_bears_1 : (.fieldLink RX1 9 "RotaFathers$Copt" "strength" "I" : Cond) ∈ wsX1_bears := List.mem_of_getElem? (i := 1) rfl
set_option maxRecDepth 100000 in
theorem hd_X1_bears : yX1_bears.cls ≠ "java/lang/invoke/MethodHandle" ∧ yX1_bears.cls ≠ "java/lang/invoke/VarHandle" ∧ (parseMethodDescriptor yX1_bears.desc).map (fun d => d.parameters.length) = some 1 := by decide +kernel
set_option maxHeartbeats 4000000 in
set_option maxRecDepth 100000 in
theorem c_X1_bears (l : Launch) (D : va_G) (cI cB cF : ClassId) (o : Nat) (fl : Int32) (st : Int32) (i : Int32)  : Met l yX1_bears wsX1_bears ({ frames := 0, cells := 0, slots := 0, locals := 0 } : Room) (PcP D cI cB cF [.ref o, .int i] [(o, .inr (1, [.int fl, .int st]))]) (QcV (.int (if 3 < i then st else st + 2))) 0 0 (fun _ => False) := by
  refine Met.ofW (cc := cX1_bears) (maxL := 2) (ret := (some .int)) (by decide) rfl ?_
  intro p e s m args below meth c s₁ Bd hml hv
  rw [show (headSpec wsX1_bears ({ frames := 0, cells := 0, slots := 0, locals := 0 } : Room)).room = ({ frames := 0, cells := 0, slots := 0, locals := 0 } : Room) from rfl]
  obtain ⟨rfl, hQ, hK⟩ := hv
  have hx := Bd.exec
  have hb := Bd.bytes
  have hr := Bd.returns
  have hts := atoms_spec (ws := wsX1_bears) Bd.pre
  have hown : s.vm.findClass RX1 = some m.cls := findClass_of_methodNamed Bd.named
  have hlocks := Bd.notSynchronized
  have FX : CallFix p m c cX1_bears 2 s _ wsX1_bears RX1 := ⟨hx, hb, hml, hown, hts⟩
  have hQ : va_P D vwCl [(o, .inr (1, [.int fl, .int st]))] s.heap := hQ
  have hl := lv_entry ([.ref o, .int i]) (n := 2) (Nat.le_of_ble_eq_true rfl)
  rw [lg_entry_eq]
  generalize (lg_sl ([.ref o, .int i]) ++ List.replicate (2 - (lg_sl ([.ref o, .int i])).length) Slot.unset).toArray = ls at hl ⊢
  have hl : lv_has ls 2 [(0, .ref o), (1, .int i)] := hl
  refine lv_iload_n hx hb dX1_bears_0 rfl (lv_at hl 1 rfl) ?_
  refine lv_iconst (v := 3) hx hb dX1_bears_1 (by decide) ?_
  refine lv_icmp_gt (tgt := 14) hx hb dX1_bears_2 (by decide) (fun c_2 => ?_) (fun c_2 => ?_)
  · refine lv_aload_n hx hb dX1_bears_14 rfl (lv_at hl 0 rfl) ?_
    refine va_get (D := D) (cl := vwCl) (tys := zT cI cB cF) (ci := 1) (v := .int st) (C := RX1) (T := TX1) (N := 2) hx hb hts iw_X1_bears_X1 hown hK.1 hQ 0 rfl rfl 1 (by decide) (hts _ hw_X1_bears_1) (u_same (hts _ hw_X1_bears_2)) rfl dX1_bears_15 ?_
    refine vz_si (if 3 < i then st else st + 2) (by first | rw [if_pos c_2] | rw [if_neg c_2]) ?_
    exact W.iret hx hb hr (fun t ht hW => ⟨rfl, ht⟩) (fun q h => by cases h) dX1_bears_18
  · refine lv_aload_n hx hb dX1_bears_5 rfl (lv_at hl 0 rfl) ?_
    refine va_get (D := D) (cl := vwCl) (tys := zT cI cB cF) (ci := 1) (v := .int st) (C := RX1) (T := TX1) (N := 2) hx hb hts iw_X1_bears_X1 hown hK.1 hQ 0 rfl rfl 1 (by decide) (hts _ hw_X1_bears_1) (u_same (hts _ hw_X1_bears_2)) rfl dX1_bears_6 ?_
    refine lv_iconst (v := 2) hx hb dX1_bears_9 (by decide) ?_
    refine lv_iadd hx hb dX1_bears_10 ?_
    refine lv_goto (tgt := 18) hx hb dX1_bears_11 (by decide) ?_
    refine vz_si (if 3 < i then st else st + 2) (by first | rw [if_pos c_2] | rw [if_neg c_2]) ?_
    exact W.iret hx hb hr (fun t ht hW => ⟨rfl, ht⟩) (fun q h => by cases h) dX1_bears_18
set_option maxRecDepth 100000 in
theorem hw_X0_bears_2 : (.sameField "RotaFathers$Abbot" "RotaFathers$Father" "strength" "I" : Cond) ∈ wsX0_bears := List.mem_of_getElem? (i := 2) rfl
set_option maxRecDepth 100000 in
theorem iw_X0_bears_X0 : ∀ w ∈ u_ws RX0 TX0 2, w ∈ wsX0_bears := fun w h => List.mem_cons_of_mem _ (List.mem_append_left _ (List.mem_append_left _ (List.mem_append_left _ (List.mem_append_left _ (List.mem_append_right _ h)))))
set_option maxRecDepth 100000 in
theorem hw_X0_bears_1 : (.fieldLink RX0 9 "RotaFathers$Abbot" "strength" "I" : Cond) ∈ wsX0_bears := List.mem_of_getElem? (i := 1) rfl
set_option maxRecDepth 100000 in
theorem hd_X0_bears : yX0_bears.cls ≠ "java/lang/invoke/MethodHandle" ∧ yX0_bears.cls ≠ "java/lang/invoke/VarHandle" ∧ (parseMethodDescriptor yX0_bears.desc).map (fun d => d.parameters.length) = some 1 := by decide +kernel
set_option maxHeartbeats 4000000 in
set_option maxRecDepth 100000 in
theorem c_X0_bears (l : Launch) (D : va_G) (cI cB cF : ClassId) (o : Nat) (fl : Int32) (st : Int32) (i : Int32)  : Met l yX0_bears wsX0_bears ({ frames := 0, cells := 0, slots := 0, locals := 0 } : Room) (PcP D cI cB cF [.ref o, .int i] [(o, .inr (0, [.int fl, .int st]))]) (QcV (.int (st + 2))) 0 0 (fun _ => False) := by
  refine Met.ofW (cc := cX0_bears) (maxL := 2) (ret := (some .int)) (by decide) rfl ?_
  intro p e s m args below meth c s₁ Bd hml hv
  rw [show (headSpec wsX0_bears ({ frames := 0, cells := 0, slots := 0, locals := 0 } : Room)).room = ({ frames := 0, cells := 0, slots := 0, locals := 0 } : Room) from rfl]
  obtain ⟨rfl, hQ, hK⟩ := hv
  have hx := Bd.exec
  have hb := Bd.bytes
  have hr := Bd.returns
  have hts := atoms_spec (ws := wsX0_bears) Bd.pre
  have hown : s.vm.findClass RX0 = some m.cls := findClass_of_methodNamed Bd.named
  have hlocks := Bd.notSynchronized
  have FX : CallFix p m c cX0_bears 2 s _ wsX0_bears RX0 := ⟨hx, hb, hml, hown, hts⟩
  have hQ : va_P D vwCl [(o, .inr (0, [.int fl, .int st]))] s.heap := hQ
  have hl := lv_entry ([.ref o, .int i]) (n := 2) (Nat.le_of_ble_eq_true rfl)
  rw [lg_entry_eq]
  generalize (lg_sl ([.ref o, .int i]) ++ List.replicate (2 - (lg_sl ([.ref o, .int i])).length) Slot.unset).toArray = ls at hl ⊢
  have hl : lv_has ls 2 [(0, .ref o), (1, .int i)] := hl
  refine lv_aload_n hx hb dX0_bears_0 rfl (lv_at hl 0 rfl) ?_
  refine va_get (D := D) (cl := vwCl) (tys := zT cI cB cF) (ci := 0) (v := .int st) (C := RX0) (T := TX0) (N := 2) hx hb hts iw_X0_bears_X0 hown hK.1 hQ 0 rfl rfl 1 (by decide) (hts _ hw_X0_bears_1) (u_same (hts _ hw_X0_bears_2)) rfl dX0_bears_1 ?_
  refine lv_iconst (v := 2) hx hb dX0_bears_4 (by decide) ?_
  refine lv_iadd hx hb dX0_bears_5 ?_
  exact W.iret hx hb hr (fun t ht hW => ⟨rfl, ht⟩) (fun q h => by cases h) dX0_bears_6
set_option maxHeartbeats 4000000 in
theorem vz_flaw {p : Program} {l : Launch} {e : Env} {R : Room} {s : State} {m : MethodId} {args : Array Value} {below : List Frame} {meth : Method} {c : Code} {H : Heap} {locs : List Loc} {cells slots : Nat} {Q : State → Prop} {ls : Array Slot} {rest : List Value} {D : va_G} {cI cB cF : ClassId} {ws : va_W} {a k : Nat} {fl st : Int32} {cc : ByteArray} {pc : Nat} {own : String} {index : Nat} {Ts : List Cond} (hx : p.tables.exec = Jvm.exec) (hb : c.code = cc) (hts : ∀ w ∈ Ts, w.before args s = true) (i2 : ∀ w ∈ u_ws RX2 TX2 2, w ∈ Ts) (i1 : ∀ w ∈ u_ws RX1 TX1 2, w ∈ Ts) (i6 : ∀ w ∈ u_ws RX6 TX6 2, w ∈ Ts) (i5 : ∀ w ∈ u_ws RX5 TX5 2, w ∈ Ts) (i0 : ∀ w ∈ u_ws RX0 TX0 2, w ∈ Ts) (hown : s.vm.findClass own = some m.cls) (hK : zK D cI cB cF s) (hQ : va_P D vwCl ws H) (q0 : Nat) (hk : k < 5) (he : ws[q0]? = some (a, zO k fl st)) (hlink : (Cond.fieldLink own index "RotaFathers$Father" "flaw" "I").before args s = true) (hdg : decode cc pc = .ok (.getfield index, 3)) (kk : W p l e R s m args below meth c H locs cells slots Q (F0 m (pc + 3) ls (.int fl :: rest))) : W p l e R s m args below meth c H locs cells slots Q (F0 m pc ls (.ref a :: rest)) := by
  rcases z5 hk with rfl | rfl | rfl | rfl | rfl
  · exact va_get (D := D) (cl := vwCl) (tys := zT cI cB cF) (ci := 2) (v := .int fl) (C := RX2) (T := TX2) (N := 2) hx hb hts i2 hown hK.1 hQ q0 he rfl 0 (by decide) hlink (fun _ h9 => h9) rfl hdg kk
  · exact va_get (D := D) (cl := vwCl) (tys := zT cI cB cF) (ci := 1) (v := .int fl) (C := RX1) (T := TX1) (N := 2) hx hb hts i1 hown hK.1 hQ q0 he rfl 0 (by decide) hlink (fun _ h9 => h9) rfl hdg kk
  · exact va_get (D := D) (cl := vwCl) (tys := zT cI cB cF) (ci := 6) (v := .int fl) (C := RX6) (T := TX6) (N := 2) hx hb hts i6 hown hK.1 hQ q0 he rfl 0 (by decide) hlink (fun _ h9 => h9) rfl hdg kk
  · exact va_get (D := D) (cl := vwCl) (tys := zT cI cB cF) (ci := 5) (v := .int fl) (C := RX5) (T := TX5) (N := 2) hx hb hts i5 hown hK.1 hQ q0 he rfl 0 (by decide) hlink (fun _ h9 => h9) rfl hdg kk
  · exact va_get (D := D) (cl := vwCl) (tys := zT cI cB cF) (ci := 0) (v := .int fl) (C := RX0) (T := TX0) (N := 2) hx hb hts i0 hown hK.1 hQ q0 he rfl 0 (by decide) hlink (fun _ h9 => h9) rfl hdg kk
set_option maxHeartbeats 4000000 in
theorem vz_strength {p : Program} {l : Launch} {e : Env} {R : Room} {s : State} {m : MethodId} {args : Array Value} {below : List Frame} {meth : Method} {c : Code} {H : Heap} {locs : List Loc} {cells slots : Nat} {Q : State → Prop} {ls : Array Slot} {rest : List Value} {D : va_G} {cI cB cF : ClassId} {ws : va_W} {a k : Nat} {fl st : Int32} {cc : ByteArray} {pc : Nat} {own : String} {index : Nat} {Ts : List Cond} (hx : p.tables.exec = Jvm.exec) (hb : c.code = cc) (hts : ∀ w ∈ Ts, w.before args s = true) (i2 : ∀ w ∈ u_ws RX2 TX2 2, w ∈ Ts) (i1 : ∀ w ∈ u_ws RX1 TX1 2, w ∈ Ts) (i6 : ∀ w ∈ u_ws RX6 TX6 2, w ∈ Ts) (i5 : ∀ w ∈ u_ws RX5 TX5 2, w ∈ Ts) (i0 : ∀ w ∈ u_ws RX0 TX0 2, w ∈ Ts) (hown : s.vm.findClass own = some m.cls) (hK : zK D cI cB cF s) (hQ : va_P D vwCl ws H) (q0 : Nat) (hk : k < 5) (he : ws[q0]? = some (a, zO k fl st)) (hlink : (Cond.fieldLink own index "RotaFathers$Father" "strength" "I").before args s = true) (hdg : decode cc pc = .ok (.getfield index, 3)) (kk : W p l e R s m args below meth c H locs cells slots Q (F0 m (pc + 3) ls (.int st :: rest))) : W p l e R s m args below meth c H locs cells slots Q (F0 m pc ls (.ref a :: rest)) := by
  rcases z5 hk with rfl | rfl | rfl | rfl | rfl
  · exact va_get (D := D) (cl := vwCl) (tys := zT cI cB cF) (ci := 2) (v := .int st) (C := RX2) (T := TX2) (N := 2) hx hb hts i2 hown hK.1 hQ q0 he rfl 1 (by decide) hlink (fun _ h9 => h9) rfl hdg kk
  · exact va_get (D := D) (cl := vwCl) (tys := zT cI cB cF) (ci := 1) (v := .int st) (C := RX1) (T := TX1) (N := 2) hx hb hts i1 hown hK.1 hQ q0 he rfl 1 (by decide) hlink (fun _ h9 => h9) rfl hdg kk
  · exact va_get (D := D) (cl := vwCl) (tys := zT cI cB cF) (ci := 6) (v := .int st) (C := RX6) (T := TX6) (N := 2) hx hb hts i6 hown hK.1 hQ q0 he rfl 1 (by decide) hlink (fun _ h9 => h9) rfl hdg kk
  · exact va_get (D := D) (cl := vwCl) (tys := zT cI cB cF) (ci := 5) (v := .int st) (C := RX5) (T := TX5) (N := 2) hx hb hts i5 hown hK.1 hQ q0 he rfl 1 (by decide) hlink (fun _ h9 => h9) rfl hdg kk
  · exact va_get (D := D) (cl := vwCl) (tys := zT cI cB cF) (ci := 0) (v := .int st) (C := RX0) (T := TX0) (N := 2) hx hb hts i0 hown hK.1 hQ q0 he rfl 1 (by decide) hlink (fun _ h9 => h9) rfl hdg kk
set_option maxHeartbeats 4000000 in
set_option maxRecDepth 100000 in
theorem mt_sleep {p : Program} {l : Launch} {e : Env} {R : Room} {s : State} {m : MethodId} {args : Array Value} {below : List Frame} {meth : Method} {c : Code} {H : Heap} {locs : List Loc} {cells slots : Nat} {Q : State → Prop} {ls : Array Slot} {rest : List Value} {D : va_G} {cI cB cF : ClassId} {ws : va_W} {a k : Nat} {fl st : Int32} (hf : 1 ≤ R.frames) (h8 : 21 ≤ R.locals) (hcc : cells ≤ R.cells) (hss : slots ≤ R.slots) (FX : CallFix p m c cX7_meet 5 s args wsX7_meet RX7) (hK : zK D cI cB cF s) (hQ : va_P D vwCl ws H) (q0 : Nat) (hk : k < 5) (he : ws[q0]? = some (a, zO k fl st)) (hsz : ls.size = 5) (hrs : (rest.map fun v => v.category).sum ≤ 8) (kk : W p l e R s m args below meth c H locs cells slots Q (F0 m 85 ls (.int (zb (decide (k = 2))) :: rest))) : W p l e R s m args below meth c H locs cells slots Q (F0 m 82 ls (.ref a :: rest)) := by
  have hts : ∀ w ∈ wsX7_meet, w.before args s = true := FX.2.2.2.2
  rcases z5 hk with rfl | rfl | rfl | rfl | rfl
  · exact vz_rd (va_runV (As := []) (rest := rest) FX (c_X2_letsItSleep l D cI cB cF a) (cwV 0 hts gX7_meet_X2_letsItSleep rfl rfl rfl ⟨rfl, hd_X2_letsItSleep⟩ ⟨hf, Nat.le_trans (Nat.le_of_ble_eq_true rfl) h8⟩) (preP_V hQ q0 he (q := (RX2, TX2, 2)) rfl (hQ.sub (ws' := []) [] rfl) hK) rfl rfl hsz rfl (lv_room hrs) dX7_meet_82 ⟨hcc, hss⟩) kk
  · exact vz_rd (va_runU (As := []) (rest := rest) FX (c_X2_letsItSleep l D cI cB cF a) (va_cwU (C := RX1) (owner := "RotaFathers$Father") (x := ⟨"RotaFathers$Father", "letsItSleep", "()Z"⟩) 0 hts gX7_meet_X2_letsItSleep_u68X1 rfl rfl rfl rfl (by decide +kernel) ⟨hf, Nat.le_trans (Nat.le_of_ble_eq_true rfl) h8⟩) (preP_V hQ q0 he (q := (RX1, TX1, 2)) rfl (hQ.sub (ws' := []) [] rfl) hK) rfl rfl hsz rfl (lv_room hrs) dX7_meet_82 ⟨hcc, hss⟩) kk
  · exact vz_rd (va_runU (As := []) (rest := rest) FX (c_X6_letsItSleep l D cI cB cF a) (va_cwO (C := RX6) (owner := "RotaFathers$Father") (x := ⟨"RotaFathers$Father", "letsItSleep", "()Z"⟩) 0 hts gX7_meet_X6_letsItSleep_u68X6 rfl rfl rfl (b0 := cX2_letsItSleep) (m0 := 1) (r0 := (some .boolean)) (by decide +kernel) (by decide +kernel) ⟨hf, Nat.le_trans (Nat.le_of_ble_eq_true rfl) h8⟩) (preP_V hQ q0 he (q := (RX6, TX6, 2)) rfl (hQ.sub (ws' := []) [] rfl) hK) rfl rfl hsz rfl (lv_room hrs) dX7_meet_82 ⟨hcc, hss⟩) kk
  · exact vz_rd (va_runU (As := []) (rest := rest) FX (c_X2_letsItSleep l D cI cB cF a) (va_cwU (C := RX5) (owner := "RotaFathers$Father") (x := ⟨"RotaFathers$Father", "letsItSleep", "()Z"⟩) 0 hts gX7_meet_X2_letsItSleep_u68X5 rfl rfl rfl rfl (by decide +kernel) ⟨hf, Nat.le_trans (Nat.le_of_ble_eq_true rfl) h8⟩) (preP_V hQ q0 he (q := (RX5, TX5, 2)) rfl (hQ.sub (ws' := []) [] rfl) hK) rfl rfl hsz rfl (lv_room hrs) dX7_meet_82 ⟨hcc, hss⟩) kk
  · exact vz_rd (va_runU (As := []) (rest := rest) FX (c_X2_letsItSleep l D cI cB cF a) (va_cwU (C := RX0) (owner := "RotaFathers$Father") (x := ⟨"RotaFathers$Father", "letsItSleep", "()Z"⟩) 0 hts gX7_meet_X2_letsItSleep_u68X0 rfl rfl rfl rfl (by decide +kernel) ⟨hf, Nat.le_trans (Nat.le_of_ble_eq_true rfl) h8⟩) (preP_V hQ q0 he (q := (RX0, TX0, 2)) rfl (hQ.sub (ws' := []) [] rfl) hK) rfl rfl hsz rfl (lv_room hrs) dX7_meet_82 ⟨hcc, hss⟩) kk
set_option maxHeartbeats 4000000 in
set_option maxRecDepth 100000 in
theorem mt_bears {p : Program} {l : Launch} {e : Env} {R : Room} {s : State} {m : MethodId} {args : Array Value} {below : List Frame} {meth : Method} {c : Code} {H : Heap} {locs : List Loc} {cells slots : Nat} {Q : State → Prop} {ls : Array Slot} {rest : List Value} {D : va_G} {cI cB cF : ClassId} {ws : va_W} {a k : Nat} {fl st : Int32} {i : Int32} (hf : 1 ≤ R.frames) (h8 : 21 ≤ R.locals) (hcc : cells ≤ R.cells) (hss : slots ≤ R.slots) (FX : CallFix p m c cX7_meet 5 s args wsX7_meet RX7) (hK : zK D cI cB cF s) (hQ : va_P D vwCl ws H) (q0 : Nat) (hk : k < 5) (he : ws[q0]? = some (a, zO k fl st)) (hsz : ls.size = 5) (hrs : (rest.map fun v => v.category).sum ≤ 8) (kk : W p l e R s m args below meth c H locs cells slots Q (F0 m 97 ls (.int (zBr k st i) :: rest))) : W p l e R s m args below meth c H locs cells slots Q (F0 m 94 ls (.int i :: .ref a :: rest)) := by
  have hts : ∀ w ∈ wsX7_meet, w.before args s = true := FX.2.2.2.2
  rcases z5 hk with rfl | rfl | rfl | rfl | rfl
  · exact vz_rd (va_runV (As := [.int i]) (rest := rest) FX (c_X2_bears_2 l D cI cB cF a fl st i) (cwV 1 hts gX7_meet_X2_bears rfl rfl rfl ⟨rfl, hd_X2_bears⟩ ⟨hf, Nat.le_trans (Nat.le_of_ble_eq_true rfl) h8⟩) (preP_V hQ q0 he (q := (RX2, TX2, 2)) rfl ((fun z : va_at D vwCl (a, zO 0 fl st) H => va_at.P z) (hQ q0 _ he)) hK) rfl rfl hsz rfl (lv_room hrs) dX7_meet_94 ⟨hcc, hss⟩) kk
  · exact vz_rd (va_runU (As := [.int i]) (rest := rest) FX (c_X1_bears l D cI cB cF a fl st i) (va_cwO (C := RX1) (owner := "RotaFathers$Father") (x := ⟨"RotaFathers$Father", "bears", "(I)I"⟩) 1 hts gX7_meet_X1_bears_u72X1 rfl rfl rfl (b0 := cX2_bears) (m0 := 2) (r0 := (some .int)) (by decide +kernel) (by decide +kernel) ⟨hf, Nat.le_trans (Nat.le_of_ble_eq_true rfl) h8⟩) (preP_V hQ q0 he (q := (RX1, TX1, 2)) rfl ((fun z : va_at D vwCl (a, zO 1 fl st) H => va_at.P z) (hQ q0 _ he)) hK) rfl rfl hsz rfl (lv_room hrs) dX7_meet_94 ⟨hcc, hss⟩) kk
  · exact vz_rd (va_runU (As := [.int i]) (rest := rest) FX (c_X2_bears_6 l D cI cB cF a fl st i) (va_cwU (C := RX6) (owner := "RotaFathers$Father") (x := ⟨"RotaFathers$Father", "bears", "(I)I"⟩) 1 hts gX7_meet_X2_bears_u72X6 rfl rfl rfl rfl (by decide +kernel) ⟨hf, Nat.le_trans (Nat.le_of_ble_eq_true rfl) h8⟩) (preP_V hQ q0 he (q := (RX6, TX6, 2)) rfl ((fun z : va_at D vwCl (a, zO 2 fl st) H => va_at.P z) (hQ q0 _ he)) hK) rfl rfl hsz rfl (lv_room hrs) dX7_meet_94 ⟨hcc, hss⟩) kk
  · exact vz_rd (va_runU (As := [.int i]) (rest := rest) FX (c_X2_bears_5 l D cI cB cF a fl st i) (va_cwU (C := RX5) (owner := "RotaFathers$Father") (x := ⟨"RotaFathers$Father", "bears", "(I)I"⟩) 1 hts gX7_meet_X2_bears_u72X5 rfl rfl rfl rfl (by decide +kernel) ⟨hf, Nat.le_trans (Nat.le_of_ble_eq_true rfl) h8⟩) (preP_V hQ q0 he (q := (RX5, TX5, 2)) rfl ((fun z : va_at D vwCl (a, zO 3 fl st) H => va_at.P z) (hQ q0 _ he)) hK) rfl rfl hsz rfl (lv_room hrs) dX7_meet_94 ⟨hcc, hss⟩) kk
  · exact vz_rd (va_runU (As := [.int i]) (rest := rest) FX (c_X0_bears l D cI cB cF a fl st i) (va_cwO (C := RX0) (owner := "RotaFathers$Father") (x := ⟨"RotaFathers$Father", "bears", "(I)I"⟩) 1 hts gX7_meet_X0_bears_u72X0 rfl rfl rfl (b0 := cX2_bears) (m0 := 2) (r0 := (some .int)) (by decide +kernel) (by decide +kernel) ⟨hf, Nat.le_trans (Nat.le_of_ble_eq_true rfl) h8⟩) (preP_V hQ q0 he (q := (RX0, TX0, 2)) rfl ((fun z : va_at D vwCl (a, zO 4 fl st) H => va_at.P z) (hQ q0 _ he)) hK) rfl rfl hsz rfl (lv_room hrs) dX7_meet_94 ⟨hcc, hss⟩) kk
set_option maxHeartbeats 4000000 in
set_option maxRecDepth 100000 in
theorem mt_fitter {p : Program} {l : Launch} {e : Env} {R : Room} {s : State} {m : MethodId} {args : Array Value} {below : List Frame} {meth : Method} {c : Code} {H : Heap} {locs : List Loc} {cells slots : Nat} {Q : State → Prop} {ls : Array Slot} {rest : List Value} {D : va_G} {cI cB cF : ClassId} {ws : va_W} {a k : Nat} {fl st : Int32} (hf : 1 ≤ R.frames) (h8 : 21 ≤ R.locals) (hcc : cells ≤ R.cells) (hss : slots ≤ R.slots) (FX : CallFix p m c cX7_meet 5 s args wsX7_meet RX7) (hK : zK D cI cB cF s) (hQ : va_P D vwCl ws H) (q0 : Nat) (hk : k < 5) (he : ws[q0]? = some (a, zO k fl st)) (hsz : ls.size = 5) (hrs : (rest.map fun v => v.category).sum ≤ 8) (kk : W p l e R s m args below meth c H locs cells slots Q (F0 m 146 ls (.int (if k = 3 then 1 else -1) :: rest))) : W p l e R s m args below meth c H locs cells slots Q (F0 m 143 ls (.ref a :: rest)) := by
  have hts : ∀ w ∈ wsX7_meet, w.before args s = true := FX.2.2.2.2
  rcases z5 hk with rfl | rfl | rfl | rfl | rfl
  · exact vz_rd (va_runV (As := []) (rest := rest) FX (c_X2_fitterByStanding l D cI cB cF a) (cwV 0 hts gX7_meet_X2_fitterByStanding rfl rfl rfl ⟨rfl, hd_X2_fitterByStanding⟩ ⟨hf, Nat.le_trans (Nat.le_of_ble_eq_true rfl) h8⟩) (preP_V hQ q0 he (q := (RX2, TX2, 2)) rfl (hQ.sub (ws' := []) [] rfl) hK) rfl rfl hsz rfl (lv_room hrs) dX7_meet_143 ⟨hcc, hss⟩) kk
  · exact vz_rd (va_runU (As := []) (rest := rest) FX (c_X2_fitterByStanding l D cI cB cF a) (va_cwU (C := RX1) (owner := "RotaFathers$Father") (x := ⟨"RotaFathers$Father", "fitterByStanding", "()I"⟩) 0 hts gX7_meet_X2_fitterByStanding_u76X1 rfl rfl rfl rfl (by decide +kernel) ⟨hf, Nat.le_trans (Nat.le_of_ble_eq_true rfl) h8⟩) (preP_V hQ q0 he (q := (RX1, TX1, 2)) rfl (hQ.sub (ws' := []) [] rfl) hK) rfl rfl hsz rfl (lv_room hrs) dX7_meet_143 ⟨hcc, hss⟩) kk
  · exact vz_rd (va_runU (As := []) (rest := rest) FX (c_X2_fitterByStanding l D cI cB cF a) (va_cwU (C := RX6) (owner := "RotaFathers$Father") (x := ⟨"RotaFathers$Father", "fitterByStanding", "()I"⟩) 0 hts gX7_meet_X2_fitterByStanding_u76X6 rfl rfl rfl rfl (by decide +kernel) ⟨hf, Nat.le_trans (Nat.le_of_ble_eq_true rfl) h8⟩) (preP_V hQ q0 he (q := (RX6, TX6, 2)) rfl (hQ.sub (ws' := []) [] rfl) hK) rfl rfl hsz rfl (lv_room hrs) dX7_meet_143 ⟨hcc, hss⟩) kk
  · exact vz_rd (va_runU (As := []) (rest := rest) FX (c_X5_fitterByStanding l D cI cB cF a) (va_cwO (C := RX5) (owner := "RotaFathers$Father") (x := ⟨"RotaFathers$Father", "fitterByStanding", "()I"⟩) 0 hts gX7_meet_X5_fitterByStanding_u76X5 rfl rfl rfl (b0 := cX2_fitterByStanding) (m0 := 1) (r0 := (some .int)) (by decide +kernel) (by decide +kernel) ⟨hf, Nat.le_trans (Nat.le_of_ble_eq_true rfl) h8⟩) (preP_V hQ q0 he (q := (RX5, TX5, 2)) rfl (hQ.sub (ws' := []) [] rfl) hK) rfl rfl hsz rfl (lv_room hrs) dX7_meet_143 ⟨hcc, hss⟩) kk
  · exact vz_rd (va_runU (As := []) (rest := rest) FX (c_X2_fitterByStanding l D cI cB cF a) (va_cwU (C := RX0) (owner := "RotaFathers$Father") (x := ⟨"RotaFathers$Father", "fitterByStanding", "()I"⟩) 0 hts gX7_meet_X2_fitterByStanding_u76X0 rfl rfl rfl rfl (by decide +kernel) ⟨hf, Nat.le_trans (Nat.le_of_ble_eq_true rfl) h8⟩) (preP_V hQ q0 he (q := (RX0, TX0, 2)) rfl (hQ.sub (ws' := []) [] rfl) hK) rfl rfl hsz rfl (lv_room hrs) dX7_meet_143 ⟨hcc, hss⟩) kk
set_option maxHeartbeats 4000000 in
set_option maxRecDepth 100000 in
theorem ab_kind {p : Program} {l : Launch} {e : Env} {R : Room} {s : State} {m : MethodId} {args : Array Value} {below : List Frame} {meth : Method} {c : Code} {H : Heap} {locs : List Loc} {cells slots : Nat} {Q : State → Prop} {ls : Array Slot} {rest : List Value} {D : va_G} {cI cB cF : ClassId} {ws : va_W} {a k : Nat} {fl st : Int32} (hf : 1 ≤ R.frames) (h8 : 21 ≤ R.locals) (hcc : cells ≤ R.cells) (hss : slots ≤ R.slots) (FX : CallFix p m c cX8_about 4 s args wsX8_about RX8) (hK : zK D cI cB cF s) (hQ : va_P D vwCl ws H) (q0 : Nat) (hk : k < 5) (he : ws[q0]? = some (a, zO k fl st)) (hsz : ls.size = 4) (hrs : (rest.map fun v => v.category).sum ≤ 8) (kk : W p l e R s m args below meth c H locs cells slots Q (F0 m 68 ls (.int (nI k) :: rest))) : W p l e R s m args below meth c H locs cells slots Q (F0 m 65 ls (.ref a :: rest)) := by
  have hts : ∀ w ∈ wsX8_about, w.before args s = true := FX.2.2.2.2
  rcases z5 hk with rfl | rfl | rfl | rfl | rfl
  · exact vz_rd (va_runV (As := []) (rest := rest) FX (c_X2_kind l D cI cB cF a) (cwV 0 hts gX8_about_X2_kind rfl rfl rfl ⟨rfl, hd_X2_kind⟩ ⟨hf, Nat.le_trans (Nat.le_of_ble_eq_true rfl) h8⟩) (preP_V hQ q0 he (q := (RX2, TX2, 2)) rfl (hQ.sub (ws' := []) [] rfl) hK) rfl rfl hsz rfl (lv_room hrs) dX8_about_65 ⟨hcc, hss⟩) kk
  · exact vz_rd (va_runU (As := []) (rest := rest) FX (c_X1_kind l D cI cB cF a) (va_cwO (C := RX1) (owner := "RotaFathers$Father") (x := ⟨"RotaFathers$Father", "kind", "()I"⟩) 0 hts gX8_about_X1_kind_u91X1 rfl rfl rfl (b0 := cX2_kind) (m0 := 1) (r0 := (some .int)) (by decide +kernel) (by decide +kernel) ⟨hf, Nat.le_trans (Nat.le_of_ble_eq_true rfl) h8⟩) (preP_V hQ q0 he (q := (RX1, TX1, 2)) rfl (hQ.sub (ws' := []) [] rfl) hK) rfl rfl hsz rfl (lv_room hrs) dX8_about_65 ⟨hcc, hss⟩) kk
  · exact vz_rd (va_runU (As := []) (rest := rest) FX (c_X6_kind l D cI cB cF a) (va_cwO (C := RX6) (owner := "RotaFathers$Father") (x := ⟨"RotaFathers$Father", "kind", "()I"⟩) 0 hts gX8_about_X6_kind_u91X6 rfl rfl rfl (b0 := cX2_kind) (m0 := 1) (r0 := (some .int)) (by decide +kernel) (by decide +kernel) ⟨hf, Nat.le_trans (Nat.le_of_ble_eq_true rfl) h8⟩) (preP_V hQ q0 he (q := (RX6, TX6, 2)) rfl (hQ.sub (ws' := []) [] rfl) hK) rfl rfl hsz rfl (lv_room hrs) dX8_about_65 ⟨hcc, hss⟩) kk
  · exact vz_rd (va_runU (As := []) (rest := rest) FX (c_X5_kind l D cI cB cF a) (va_cwO (C := RX5) (owner := "RotaFathers$Father") (x := ⟨"RotaFathers$Father", "kind", "()I"⟩) 0 hts gX8_about_X5_kind_u91X5 rfl rfl rfl (b0 := cX2_kind) (m0 := 1) (r0 := (some .int)) (by decide +kernel) (by decide +kernel) ⟨hf, Nat.le_trans (Nat.le_of_ble_eq_true rfl) h8⟩) (preP_V hQ q0 he (q := (RX5, TX5, 2)) rfl (hQ.sub (ws' := []) [] rfl) hK) rfl rfl hsz rfl (lv_room hrs) dX8_about_65 ⟨hcc, hss⟩) kk
  · exact vz_rd (va_runU (As := []) (rest := rest) FX (c_X0_kind l D cI cB cF a) (va_cwO (C := RX0) (owner := "RotaFathers$Father") (x := ⟨"RotaFathers$Father", "kind", "()I"⟩) 0 hts gX8_about_X0_kind_u91X0 rfl rfl rfl (b0 := cX2_kind) (m0 := 1) (r0 := (some .int)) (by decide +kernel) (by decide +kernel) ⟨hf, Nat.le_trans (Nat.le_of_ble_eq_true rfl) h8⟩) (preP_V hQ q0 he (q := (RX0, TX0, 2)) rfl (hQ.sub (ws' := []) [] rfl) hK) rfl rfl hsz rfl (lv_room hrs) dX8_about_65 ⟨hcc, hss⟩) kk
