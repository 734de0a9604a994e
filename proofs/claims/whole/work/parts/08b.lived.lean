set_option maxRecDepth 100000 in
theorem iw_X3_begin_X3 : ∀ w ∈ u_ws RX3 TX3 9, w ∈ wsX3_begin := fun w h => List.mem_cons_of_mem _ (List.mem_append_right _ h)
set_option maxRecDepth 100000 in
theorem hw_X3_begin_1 : (.fieldLink RX3 9 "RotaFathers$Lived" "rota" "[I" : Cond) ∈ wsX3_begin := List.mem_of_getElem? (i := 1) rfl
set_option maxRecDepth 100000 in
theorem hw_X3_begin_2 : (.fieldLink RX3 15 "RotaFathers$Lived" "merits" "[I" : Cond) ∈ wsX3_begin := List.mem_of_getElem? (i := 2) rfl
set_option maxRecDepth 100000 in
theorem hw_X3_begin_9 : (.initialized RX8 : Cond) ∈ wsX3_begin := List.mem_of_getElem? (i := 9) rfl
set_option maxRecDepth 100000 in
theorem hw_X3_begin_8 : (.static yX8_clear : Cond) ∈ wsX3_begin := List.mem_of_getElem? (i := 8) rfl
set_option maxRecDepth 100000 in
theorem hw_X3_begin_3 : (.fieldLink RX3 18 "RotaFathers$Lived" "falls" "[I" : Cond) ∈ wsX3_begin := List.mem_of_getElem? (i := 3) rfl
set_option maxRecDepth 100000 in
theorem hw_X3_begin_4 : (.fieldLink RX3 31 "RotaFathers$Lived" "foundCount" "I" : Cond) ∈ wsX3_begin := List.mem_of_getElem? (i := 4) rfl
set_option maxRecDepth 100000 in
theorem hw_X3_begin_5 : (.fieldLink RX3 35 "RotaFathers$Lived" "fit" "I" : Cond) ∈ wsX3_begin := List.mem_of_getElem? (i := 5) rfl
set_option maxRecDepth 100000 in
theorem hw_X3_begin_6 : (.fieldLink RX3 38 "RotaFathers$Lived" "known" "I" : Cond) ∈ wsX3_begin := List.mem_of_getElem? (i := 6) rfl
set_option maxRecDepth 100000 in
theorem hw_X3_begin_7 : (.fieldLink RX3 41 "RotaFathers$Lived" "days" "I" : Cond) ∈ wsX3_begin := List.mem_of_getElem? (i := 7) rfl
set_option maxRecDepth 100000 in
theorem hd_X3_begin : yX3_begin.cls ≠ "java/lang/invoke/MethodHandle" ∧ yX3_begin.cls ≠ "java/lang/invoke/VarHandle" ∧ (parseMethodDescriptor yX3_begin.desc).map (fun d => d.parameters.length) = some 1 := by decide +kernel
set_option maxHeartbeats 4000000 in
set_option maxRecDepth 100000 in
theorem c_X3_begin (l : Launch) (D : va_G) (cI cB cF : ClassId) (sz : Nat) (nw : Nat) (n1 : Nat) (n2 : Nat) (n3 : Nat) (n4 : Nat) (n5 : Nat) (fd0 : Int32) (ft0 : Int32) (kn0 : Int32) (dy0 : Int32) (r : Nat → Int32) (me : Nat → Int32) (fe : Nat → Int32) (ft : Int32)  : Met l yX3_begin wsX3_begin ({ frames := 1, cells := 0, slots := 0, locals := 21 } : Room) (PcW D cI cB cF [.ref nw, .int ft] sz [(nw, .inr (3, [.ref n1, .ref n2, .ref n3, .ref n4, .ref n5, .int fd0, .int ft0, .int kn0, .int dy0])), (n1, .inl (cI, 8, .inl r)), (n2, .inl (cI, 4, .inl me)), (n3, .inl (cI, 4, .inl fe))] []) (Qw D (S := Unit) (fun xx => none) (fun xx => True) (fun xx => [(nw, .inr (3, [.ref n1, .ref n2, .ref n3, .ref n4, .ref n5, .int 0, .int ft, .int 0, .int 0])), (n1, .inl (cI, 8, .inl (fun _ => -1))), (n2, .inl (cI, 4, .inl (fun _ => 0))), (n3, .inl (cI, 4, .inl (fun _ => 0)))]) (va_A [(nw, .inr (3, [.ref n1, .ref n2, .ref n3, .ref n4, .ref n5, .int fd0, .int ft0, .int kn0, .int dy0])), (n1, .inl (cI, 8, .inl r)), (n2, .inl (cI, 4, .inl me)), (n3, .inl (cI, 4, .inl fe))] sz)) 0 0 (va_A [(nw, .inr (3, [.ref n1, .ref n2, .ref n3, .ref n4, .ref n5, .int fd0, .int ft0, .int kn0, .int dy0])), (n1, .inl (cI, 8, .inl r)), (n2, .inl (cI, 4, .inl me)), (n3, .inl (cI, 4, .inl fe))] sz) := by
  refine Met.ofW (cc := cX3_begin) (maxL := 3) (ret := none) (by decide) rfl ?_
  intro p e s m args below meth c s₁ Bd hml hv
  rw [show (headSpec wsX3_begin ({ frames := 1, cells := 0, slots := 0, locals := 21 } : Room)).room = ({ frames := 1, cells := 0, slots := 0, locals := 21 } : Room) from rfl]
  obtain ⟨rfl, hsz, hP, hK, hD0, hR⟩ := hv
  have hx := Bd.exec
  have hb := Bd.bytes
  have hr := Bd.returns
  have hts := atoms_spec (ws := wsX3_begin) Bd.pre
  have hown : s.vm.findClass RX3 = some m.cls := findClass_of_methodNamed Bd.named
  have hlocks := Bd.notSynchronized
  have FX : CallFix p m c cX3_begin 3 s _ wsX3_begin RX3 := ⟨hx, hb, hml, hown, hts⟩
  subst hsz
  have hD := hD0.self (sz := s.heap.size)
  generalize hAe : va_A [(nw, .inr (3, [.ref n1, .ref n2, .ref n3, .ref n4, .ref n5, .int fd0, .int ft0, .int kn0, .int dy0])), (n1, .inl (cI, 8, .inl r)), (n2, .inl (cI, 4, .inl me)), (n3, .inl (cI, 4, .inl fe))] s.heap.size = A at hD hR ⊢
  have hA : ∀ q : Nat, s.heap.size ≤ q → A q := fun q h => by rw [← hAe]; exact Or.inr h
  have hS : va_S A s.heap s.heap [] := va_S.rf
  have hP : va_P D vwCl [(nw, .inr (3, [.ref n1, .ref n2, .ref n3, .ref n4, .ref n5, .int fd0, .int ft0, .int kn0, .int dy0])), (n1, .inl (cI, 8, .inl r)), (n2, .inl (cI, 4, .inl me)), (n3, .inl (cI, 4, .inl fe))] s.heap := hP
  have hQ := hP
  have hl := lv_entry ([.ref nw, .int ft]) (n := 3) (Nat.le_of_ble_eq_true rfl)
  rw [lg_entry_eq]
  generalize (lg_sl ([.ref nw, .int ft]) ++ List.replicate (3 - (lg_sl ([.ref nw, .int ft])).length) Slot.unset).toArray = ls at hl ⊢
  have hl : lv_has ls 3 [(0, .ref nw), (1, .int ft)] := hl
  refine lv_iconst (v := 0) hx hb dX3_begin_0 (by decide) ?_
  refine lv_istore_n (lv' := [(2, .int 0), (0, .ref nw), (1, .int ft)]) hx hb dX3_begin_1 rfl hl (by decide) rfl (fun ls hl => ?_)
  refine vz_loop (D := D) (A := A) (H0 := s.heap) (nL := 3) (σ := Nat × (Nat → Int32)) (fun xx => 8 - xx.1) (fun xx => (xx.1 ≤ 8) ∧ (∀ j, j < xx.1 → xx.2 j = -1)) (fun xx => [(nw, .inr (3, [.ref n1, .ref n2, .ref n3, .ref n4, .ref n5, .int fd0, .int ft0, .int kn0, .int dy0])), (n1, .inl (cI, 8, .inl xx.2)), (n2, .inl (cI, 4, .inl me)), (n3, .inl (cI, 4, .inl fe))]) (fun xx => [(0, .ref nw), (1, .int ft), (2, .int (nI xx.1))]) (fun xx => []) ?_ (0, r) ⟨Nat.zero_le _, fun j h => absurd h (Nat.not_lt_zero _)⟩ (hP.sub [0, 1, 2, 3] rfl) (hD.sub [0, 1, 2, 3] (by decide) rfl) hS (lv_sub hl [1, 2, 0] rfl)
  rintro ⟨k, g1⟩ hI ih_2 H locs ls hP hD hS hl
  obtain ⟨hk, hg⟩ := hI
  have hk : k ≤ 8 := hk
  have hg : ∀ j, j < k → g1 j = -1 := hg
  have hP : va_P D vwCl [(nw, .inr (3, [.ref n1, .ref n2, .ref n3, .ref n4, .ref n5, .int fd0, .int ft0, .int kn0, .int dy0])), (n1, .inl (cI, 8, .inl g1)), (n2, .inl (cI, 4, .inl me)), (n3, .inl (cI, 4, .inl fe))] H := hP
  have hD : va_D A [(nw, .inr (3, [.ref n1, .ref n2, .ref n3, .ref n4, .ref n5, .int fd0, .int ft0, .int kn0, .int dy0])), (n1, .inl (cI, 8, .inl g1)), (n2, .inl (cI, 4, .inl me)), (n3, .inl (cI, 4, .inl fe))] := hD
  have hQ := hP
  have hl : lv_has ls 3 [(0, .ref nw), (1, .int ft), (2, .int (nI k))] := hl
  show W _ _ _ _ _ _ _ _ _ _ _ _ _ _ _ (F0 m 2 ls [])
  refine lv_iload_n hx hb dX3_begin_2 rfl (lv_at hl 2 rfl) ?_
  refine lv_aload_n hx hb dX3_begin_3 rfl (lv_at hl 0 rfl) ?_
  refine va_get (D := D) (cl := vwCl) (tys := zT cI cB cF) (ci := 3) (v := .ref n1) (C := RX3) (T := TX3) (N := 9) hx hb hts iw_X3_begin_X3 hown hK.1 hQ 0 rfl rfl 0 (by decide) (hts _ hw_X3_begin_1) (fun _ h9 => h9) rfl dX3_begin_4 ?_
  refine va_alen (D := D) (cl := vwCl) (tys := zT cI cB cF) (v := 8) hx hb hK.1 hQ 1 0 rfl rfl (rfl) dX3_begin_7 ?_
  refine lv_icmp_ge (tgt := 24) hx hb dX3_begin_8 (by decide) (fun c_8 => ?_) (fun c_8 => ?_)
  · have hge_8 : 8 ≤ k := (nI_zle (a := 8) (b := k) (by omega) (by omega)).mp c_8
    have hP : va_P D vwCl [(nw, .inr (3, [.ref n1, .ref n2, .ref n3, .ref n4, .ref n5, .int fd0, .int ft0, .int kn0, .int dy0])), (n1, .inl (cI, 8, .inl (fun _ => -1))), (n2, .inl (cI, 4, .inl me)), (n3, .inl (cI, 4, .inl fe))] H := vz_arr (g := fun _ => -1) hP 1 rfl (fun j hj => hg j (by omega))
    have hD : va_D A [(nw, .inr (3, [.ref n1, .ref n2, .ref n3, .ref n4, .ref n5, .int fd0, .int ft0, .int kn0, .int dy0])), (n1, .inl (cI, 8, .inl (fun _ => -1))), (n2, .inl (cI, 4, .inl me)), (n3, .inl (cI, 4, .inl fe))] := vz_arrD hD 1 rfl
    have hQ := hP
    refine lv_aload_n hx hb dX3_begin_24 rfl (lv_at hl 0 rfl) ?_
    refine va_get (D := D) (cl := vwCl) (tys := zT cI cB cF) (ci := 3) (v := .ref n2) (C := RX3) (T := TX3) (N := 9) hx hb hts iw_X3_begin_X3 hown hK.1 hQ 0 rfl rfl 1 (by decide) (hts _ hw_X3_begin_2) (fun _ h9 => h9) rfl dX3_begin_25 ?_
    have hFc := va_free (wc := [(n2, .inl (cI, 4, .inl me))]) hD hS hA [2] rfl
    refine vz_cw [(nw, .inr (3, [.ref n1, .ref n2, .ref n3, .ref n4, .ref n5, .int fd0, .int ft0, .int kn0, .int dy0])), (n1, .inl (cI, 8, .inl (fun _ => -1))), (n3, .inl (cI, 4, .inl fe))] [2] [0, 1, 3] (va_runSN (As := [.ref n2]) (rest := []) FX (c_X8_clear l D cI cB cF H.size n2 4 me (by decide)) ⟨va_cnB 1 hts gX3_begin_X8_clear_n27 rfl rfl rfl (zn_X3_27 hK.2) (hts _ hw_X3_begin_9) hd_X8_clear ⟨Nat.le_of_ble_eq_true rfl, Nat.le_of_ble_eq_true rfl⟩, (hts _ hw_X3_begin_8), trivial⟩ (preW_S (hP.sub (ws' := [(n2, .inl (cI, 4, .inl me))]) [2] rfl) (hD.sub (ws' := [(n2, .inl (cI, 4, .inl me))]) [2] (by decide) rfl) hK (show vz_R D [] _ _ from vz_R.nil)) rfl rfl hl.1 rfl (lv_room (Nat.le_of_ble_eq_true rfl)) dX3_begin_28 ⟨Nat.le_of_ble_eq_true rfl, Nat.le_of_ble_eq_true rfl⟩) hP hD hS hA rfl rfl rfl (by decide) (fun u H locs hu hP hD hS hz9 hk9 => ?_)
    have hP : va_P D vwCl [(nw, .inr (3, [.ref n1, .ref n2, .ref n3, .ref n4, .ref n5, .int fd0, .int ft0, .int kn0, .int dy0])), (n1, .inl (cI, 8, .inl (fun _ => -1))), (n3, .inl (cI, 4, .inl fe)), (n2, .inl (cI, 4, .inl (fun _ => 0)))] H := hP
    have hD : va_D A [(nw, .inr (3, [.ref n1, .ref n2, .ref n3, .ref n4, .ref n5, .int fd0, .int ft0, .int kn0, .int dy0])), (n1, .inl (cI, 8, .inl (fun _ => -1))), (n3, .inl (cI, 4, .inl fe)), (n2, .inl (cI, 4, .inl (fun _ => 0)))] := hD
    have hQ := hP
    show W _ _ _ _ _ _ _ _ _ _ _ _ _ _ _ (F0 m 31 ls [])
    refine lv_aload_n hx hb dX3_begin_31 rfl (lv_at hl 0 rfl) ?_
    refine va_get (D := D) (cl := vwCl) (tys := zT cI cB cF) (ci := 3) (v := .ref n3) (C := RX3) (T := TX3) (N := 9) hx hb hts iw_X3_begin_X3 hown hK.1 hQ 0 rfl rfl 2 (by decide) (hts _ hw_X3_begin_3) (fun _ h9 => h9) rfl dX3_begin_32 ?_
    have hFc := va_free (wc := [(n3, .inl (cI, 4, .inl fe))]) hD hS hA [2] rfl
    refine vz_cw [(nw, .inr (3, [.ref n1, .ref n2, .ref n3, .ref n4, .ref n5, .int fd0, .int ft0, .int kn0, .int dy0])), (n1, .inl (cI, 8, .inl (fun _ => -1))), (n2, .inl (cI, 4, .inl (fun _ => 0)))] [2] [0, 1, 3] (va_runSN (As := [.ref n3]) (rest := []) FX (c_X8_clear l D cI cB cF H.size n3 4 fe (by decide)) ⟨va_cnB 1 hts gX3_begin_X8_clear_n27 rfl rfl rfl (zn_X3_27 hK.2) (hts _ hw_X3_begin_9) hd_X8_clear ⟨Nat.le_of_ble_eq_true rfl, Nat.le_of_ble_eq_true rfl⟩, (hts _ hw_X3_begin_8), trivial⟩ (preW_S (hP.sub (ws' := [(n3, .inl (cI, 4, .inl fe))]) [2] rfl) (hD.sub (ws' := [(n3, .inl (cI, 4, .inl fe))]) [2] (by decide) rfl) hK (show vz_R D [] _ _ from vz_R.nil)) rfl rfl hl.1 rfl (lv_room (Nat.le_of_ble_eq_true rfl)) dX3_begin_35 ⟨Nat.le_of_ble_eq_true rfl, Nat.le_of_ble_eq_true rfl⟩) hP hD hS hA rfl rfl rfl (by decide) (fun u H locs hu hP hD hS hz9 hk9 => ?_)
    have hP : va_P D vwCl [(nw, .inr (3, [.ref n1, .ref n2, .ref n3, .ref n4, .ref n5, .int fd0, .int ft0, .int kn0, .int dy0])), (n1, .inl (cI, 8, .inl (fun _ => -1))), (n2, .inl (cI, 4, .inl (fun _ => 0))), (n3, .inl (cI, 4, .inl (fun _ => 0)))] H := hP
    have hD : va_D A [(nw, .inr (3, [.ref n1, .ref n2, .ref n3, .ref n4, .ref n5, .int fd0, .int ft0, .int kn0, .int dy0])), (n1, .inl (cI, 8, .inl (fun _ => -1))), (n2, .inl (cI, 4, .inl (fun _ => 0))), (n3, .inl (cI, 4, .inl (fun _ => 0)))] := hD
    have hQ := hP
    show W _ _ _ _ _ _ _ _ _ _ _ _ _ _ _ (F0 m 38 ls [])
    refine lv_aload_n hx hb dX3_begin_38 rfl (lv_at hl 0 rfl) ?_
    refine lv_iconst (v := 0) hx hb dX3_begin_39 (by decide) ?_
    refine va_put (D := D) (cl := vwCl) (tys := zT cI cB cF) (ci := 3) (v := .int 0) (ty := .int) (C := RX3) (T := TX3) (N := 9) hx hb hts iw_X3_begin_X3 tyX3 tyX3_ok nmX3 hown hK.1 hP hD hS 0 rfl rfl 5 (by decide) (hts _ hw_X3_begin_4) (fun _ h9 => h9) rfl (tyX3_ok 5 (by decide)) (rfl) (rfl) (Nat.le_of_ble_eq_true rfl) dX3_begin_40 (fun H locs hP hD hS => ?_)
    have hP : va_P D vwCl [(nw, .inr (3, [.ref n1, .ref n2, .ref n3, .ref n4, .ref n5, .int 0, .int ft0, .int kn0, .int dy0])), (n1, .inl (cI, 8, .inl (fun _ => -1))), (n2, .inl (cI, 4, .inl (fun _ => 0))), (n3, .inl (cI, 4, .inl (fun _ => 0)))] H := hP
    have hD : va_D A [(nw, .inr (3, [.ref n1, .ref n2, .ref n3, .ref n4, .ref n5, .int 0, .int ft0, .int kn0, .int dy0])), (n1, .inl (cI, 8, .inl (fun _ => -1))), (n2, .inl (cI, 4, .inl (fun _ => 0))), (n3, .inl (cI, 4, .inl (fun _ => 0)))] := hD
    have hQ := hP
    refine lv_aload_n hx hb dX3_begin_43 rfl (lv_at hl 0 rfl) ?_
    refine lv_iload_n hx hb dX3_begin_44 rfl (lv_at hl 1 rfl) ?_
    refine va_put (D := D) (cl := vwCl) (tys := zT cI cB cF) (ci := 3) (v := .int ft) (ty := .int) (C := RX3) (T := TX3) (N := 9) hx hb hts iw_X3_begin_X3 tyX3 tyX3_ok nmX3 hown hK.1 hP hD hS 0 rfl rfl 6 (by decide) (hts _ hw_X3_begin_5) (fun _ h9 => h9) rfl (tyX3_ok 6 (by decide)) (rfl) (rfl) (Nat.le_of_ble_eq_true rfl) dX3_begin_45 (fun H locs hP hD hS => ?_)
    have hP : va_P D vwCl [(nw, .inr (3, [.ref n1, .ref n2, .ref n3, .ref n4, .ref n5, .int 0, .int ft, .int kn0, .int dy0])), (n1, .inl (cI, 8, .inl (fun _ => -1))), (n2, .inl (cI, 4, .inl (fun _ => 0))), (n3, .inl (cI, 4, .inl (fun _ => 0)))] H := hP
    have hD : va_D A [(nw, .inr (3, [.ref n1, .ref n2, .ref n3, .ref n4, .ref n5, .int 0, .int ft, .int kn0, .int dy0])), (n1, .inl (cI, 8, .inl (fun _ => -1))), (n2, .inl (cI, 4, .inl (fun _ => 0))), (n3, .inl (cI, 4, .inl (fun _ => 0)))] := hD
    have hQ := hP
    refine lv_aload_n hx hb dX3_begin_48 rfl (lv_at hl 0 rfl) ?_
    refine lv_iconst (v := 0) hx hb dX3_begin_49 (by decide) ?_
    refine va_put (D := D) (cl := vwCl) (tys := zT cI cB cF) (ci := 3) (v := .int 0) (ty := .int) (C := RX3) (T := TX3) (N := 9) hx hb hts iw_X3_begin_X3 tyX3 tyX3_ok nmX3 hown hK.1 hP hD hS 0 rfl rfl 7 (by decide) (hts _ hw_X3_begin_6) (fun _ h9 => h9) rfl (tyX3_ok 7 (by decide)) (rfl) (rfl) (Nat.le_of_ble_eq_true rfl) dX3_begin_50 (fun H locs hP hD hS => ?_)
    have hP : va_P D vwCl [(nw, .inr (3, [.ref n1, .ref n2, .ref n3, .ref n4, .ref n5, .int 0, .int ft, .int 0, .int dy0])), (n1, .inl (cI, 8, .inl (fun _ => -1))), (n2, .inl (cI, 4, .inl (fun _ => 0))), (n3, .inl (cI, 4, .inl (fun _ => 0)))] H := hP
    have hD : va_D A [(nw, .inr (3, [.ref n1, .ref n2, .ref n3, .ref n4, .ref n5, .int 0, .int ft, .int 0, .int dy0])), (n1, .inl (cI, 8, .inl (fun _ => -1))), (n2, .inl (cI, 4, .inl (fun _ => 0))), (n3, .inl (cI, 4, .inl (fun _ => 0)))] := hD
    have hQ := hP
    refine lv_aload_n hx hb dX3_begin_53 rfl (lv_at hl 0 rfl) ?_
    refine lv_iconst (v := 0) hx hb dX3_begin_54 (by decide) ?_
    refine va_put (D := D) (cl := vwCl) (tys := zT cI cB cF) (ci := 3) (v := .int 0) (ty := .int) (C := RX3) (T := TX3) (N := 9) hx hb hts iw_X3_begin_X3 tyX3 tyX3_ok nmX3 hown hK.1 hP hD hS 0 rfl rfl 8 (by decide) (hts _ hw_X3_begin_7) (fun _ h9 => h9) rfl (tyX3_ok 8 (by decide)) (rfl) (rfl) (Nat.le_of_ble_eq_true rfl) dX3_begin_55 (fun H locs hP hD hS => ?_)
    have hP : va_P D vwCl [(nw, .inr (3, [.ref n1, .ref n2, .ref n3, .ref n4, .ref n5, .int 0, .int ft, .int 0, .int 0])), (n1, .inl (cI, 8, .inl (fun _ => -1))), (n2, .inl (cI, 4, .inl (fun _ => 0))), (n3, .inl (cI, 4, .inl (fun _ => 0)))] H := hP
    have hD : va_D A [(nw, .inr (3, [.ref n1, .ref n2, .ref n3, .ref n4, .ref n5, .int 0, .int ft, .int 0, .int 0])), (n1, .inl (cI, 8, .inl (fun _ => -1))), (n2, .inl (cI, 4, .inl (fun _ => 0))), (n3, .inl (cI, 4, .inl (fun _ => 0)))] := hD
    have hQ := hP
    have hP9 := hP.sub (ws' := [(nw, .inr (3, [.ref n1, .ref n2, .ref n3, .ref n4, .ref n5, .int 0, .int ft, .int 0, .int 0])), (n1, .inl (cI, 8, .inl (fun _ => -1))), (n2, .inl (cI, 4, .inl (fun _ => 0))), (n3, .inl (cI, 4, .inl (fun _ => 0)))]) [0, 1, 2, 3] rfl
    have hD9 := hD.sub (ws' := [(nw, .inr (3, [.ref n1, .ref n2, .ref n3, .ref n4, .ref n5, .int 0, .int ft, .int 0, .int 0])), (n1, .inl (cI, 8, .inl (fun _ => -1))), (n2, .inl (cI, 4, .inl (fun _ => 0))), (n3, .inl (cI, 4, .inl (fun _ => 0)))]) [0, 1, 2, 3] (by decide) rfl
    exact W.vret hx hb hr (fun t ht hW => ⟨⟨(), rfl, trivial, by rw [ht]; exact hP9, hD9⟩, hS.F ht⟩) hS.2.2 dX3_begin_58
  · have hlt_8 : k < 8 := Nat.lt_of_not_le fun q => c_8 ((nI_zle (a := 8) (b := k) (by omega) (by omega)).mpr q)
    refine lv_aload_n hx hb dX3_begin_11 rfl (lv_at hl 0 rfl) ?_
    refine va_get (D := D) (cl := vwCl) (tys := zT cI cB cF) (ci := 3) (v := .ref n1) (C := RX3) (T := TX3) (N := 9) hx hb hts iw_X3_begin_X3 hown hK.1 hQ 0 rfl rfl 0 (by decide) (hts _ hw_X3_begin_1) (fun _ h9 => h9) rfl dX3_begin_12 ?_
    refine lv_iload_n hx hb dX3_begin_15 rfl (lv_at hl 2 rfl) ?_
    refine lv_iconst (v := (-1)) hx hb dX3_begin_16 (by decide) ?_
    refine va_iast (D := D) (cl := vwCl) (tys := zT cI cB cF) (f := g1) hx hb hK.1 hP hD hS 1 0 rfl rfl (vp_in_nI (by omega) (by omega)) dX3_begin_17 (fun H locs hP hD hS => ?_)
    rw [nI_clamp (n := k) (by omega)] at hP hD
    have hP : va_P D vwCl [(nw, .inr (3, [.ref n1, .ref n2, .ref n3, .ref n4, .ref n5, .int fd0, .int ft0, .int kn0, .int dy0])), (n1, .inl (cI, 8, .inl (upd g1 k (-1)))), (n2, .inl (cI, 4, .inl me)), (n3, .inl (cI, 4, .inl fe))] H := hP
    have hD : va_D A [(nw, .inr (3, [.ref n1, .ref n2, .ref n3, .ref n4, .ref n5, .int fd0, .int ft0, .int kn0, .int dy0])), (n1, .inl (cI, 8, .inl (upd g1 k (-1)))), (n2, .inl (cI, 4, .inl me)), (n3, .inl (cI, 4, .inl fe))] := hD
    have hQ := hP
    refine lv_iinc (v := (nI (k + 1))) (lv' := [(2, .int (nI (k + 1))), (0, .ref nw), (1, .int ft)]) hx hb dX3_begin_18 hl (k := 2) rfl ((nI_succ k).symm) (by decide) rfl (fun ls hl => ?_)
    refine lv_goto (tgt := 2) hx hb dX3_begin_21 (by decide) ?_
    exact ih_2 (k + 1, upd g1 k (-1)) (by (try dsimp only); omega) ⟨hlt_8, z_ext (F := fun _ => -1) hg rfl⟩ H _ ls (hP.sub [0, 1, 2, 3] rfl) (hD.sub [0, 1, 2, 3] (by decide) rfl) hS (lv_sub hl [1, 2, 0] rfl)
set_option maxRecDepth 100000 in
theorem iw_X3_takeOver_X3 : ∀ w ∈ u_ws RX3 TX3 9, w ∈ wsX3_takeOver := fun w h => List.mem_cons_of_mem _ (List.mem_append_right _ h)
set_option maxRecDepth 100000 in
theorem hw_X3_takeOver_1 : (.fieldLink RX3 9 "RotaFathers$Lived" "rota" "[I" : Cond) ∈ wsX3_takeOver := List.mem_of_getElem? (i := 1) rfl
set_option maxRecDepth 100000 in
theorem hw_X3_takeOver_11 : (.initialized RX8 : Cond) ∈ wsX3_takeOver := List.mem_of_getElem? (i := 11) rfl
set_option maxRecDepth 100000 in
theorem hw_X3_takeOver_10 : (.static yX8_copy : Cond) ∈ wsX3_takeOver := List.mem_of_getElem? (i := 10) rfl
set_option maxRecDepth 100000 in
theorem hw_X3_takeOver_2 : (.fieldLink RX3 15 "RotaFathers$Lived" "merits" "[I" : Cond) ∈ wsX3_takeOver := List.mem_of_getElem? (i := 2) rfl
set_option maxRecDepth 100000 in
theorem hw_X3_takeOver_3 : (.fieldLink RX3 18 "RotaFathers$Lived" "falls" "[I" : Cond) ∈ wsX3_takeOver := List.mem_of_getElem? (i := 3) rfl
set_option maxRecDepth 100000 in
theorem hw_X3_takeOver_4 : (.fieldLink RX3 21 "RotaFathers$Lived" "foundShifts" "[I" : Cond) ∈ wsX3_takeOver := List.mem_of_getElem? (i := 4) rfl
set_option maxRecDepth 100000 in
theorem hw_X3_takeOver_5 : (.fieldLink RX3 24 "RotaFathers$Lived" "foundFits" "[I" : Cond) ∈ wsX3_takeOver := List.mem_of_getElem? (i := 5) rfl
set_option maxRecDepth 100000 in
theorem hw_X3_takeOver_6 : (.fieldLink RX3 31 "RotaFathers$Lived" "foundCount" "I" : Cond) ∈ wsX3_takeOver := List.mem_of_getElem? (i := 6) rfl
set_option maxRecDepth 100000 in
theorem hw_X3_takeOver_7 : (.fieldLink RX3 35 "RotaFathers$Lived" "fit" "I" : Cond) ∈ wsX3_takeOver := List.mem_of_getElem? (i := 7) rfl
set_option maxRecDepth 100000 in
theorem hw_X3_takeOver_8 : (.fieldLink RX3 38 "RotaFathers$Lived" "known" "I" : Cond) ∈ wsX3_takeOver := List.mem_of_getElem? (i := 8) rfl
set_option maxRecDepth 100000 in
theorem hw_X3_takeOver_9 : (.fieldLink RX3 41 "RotaFathers$Lived" "days" "I" : Cond) ∈ wsX3_takeOver := List.mem_of_getElem? (i := 9) rfl
set_option maxRecDepth 100000 in
theorem hd_X3_takeOver : yX3_takeOver.cls ≠ "java/lang/invoke/MethodHandle" ∧ yX3_takeOver.cls ≠ "java/lang/invoke/VarHandle" ∧ (parseMethodDescriptor yX3_takeOver.desc).map (fun d => d.parameters.length) = some 1 := by decide +kernel
set_option maxHeartbeats 4000000 in
set_option maxRecDepth 100000 in
theorem c_X3_takeOver (l : Launch) (D : va_G) (cI cB cF : ClassId) (sz : Nat) (nw : Nat) (n1 : Nat) (n2 : Nat) (n3 : Nat) (n4 : Nat) (n5 : Nat) (fd0 : Int32) (ft0 : Int32) (kn0 : Int32) (dy0 : Int32) (ra0 : Nat → Int32) (rb0 : Nat → Int32) (rc0 : Nat → Int32) (rd0 : Nat → Int32) (re0 : Nat → Int32) (kp : Nat) (k1 : Nat) (k2 : Nat) (k3 : Nat) (k4 : Nat) (k5 : Nat) (fd : Int32) (ft : Int32) (kn : Int32) (dy : Int32) (ra : Nat → Int32) (rb : Nat → Int32) (rc : Nat → Int32) (rd : Nat → Int32) (re : Nat → Int32)  : Met l yX3_takeOver wsX3_takeOver ({ frames := 1, cells := 0, slots := 0, locals := 22 } : Room) (PcW D cI cB cF [.ref nw, .ref kp] sz [(nw, .inr (3, [.ref n1, .ref n2, .ref n3, .ref n4, .ref n5, .int fd0, .int ft0, .int kn0, .int dy0])), (n1, .inl (cI, 8, .inl ra0)), (n2, .inl (cI, 4, .inl rb0)), (n3, .inl (cI, 4, .inl rc0)), (n4, .inl (cI, 6, .inl rd0)), (n5, .inl (cI, 6, .inl re0))] [(kp, .inr (3, [.ref k1, .ref k2, .ref k3, .ref k4, .ref k5, .int fd, .int ft, .int kn, .int dy])), (k1, .inl (cI, 8, .inl ra)), (k2, .inl (cI, 4, .inl rb)), (k3, .inl (cI, 4, .inl rc)), (k4, .inl (cI, 6, .inl rd)), (k5, .inl (cI, 6, .inl re))]) (Qw D (S := Unit) (fun xx => none) (fun xx => True) (fun xx => [(nw, .inr (3, [.ref n1, .ref n2, .ref n3, .ref n4, .ref n5, .int fd, .int ft, .int kn, .int dy])), (n1, .inl (cI, 8, .inl ra)), (n2, .inl (cI, 4, .inl rb)), (n3, .inl (cI, 4, .inl rc)), (n4, .inl (cI, 6, .inl rd)), (n5, .inl (cI, 6, .inl re))]) (va_A [(nw, .inr (3, [.ref n1, .ref n2, .ref n3, .ref n4, .ref n5, .int fd0, .int ft0, .int kn0, .int dy0])), (n1, .inl (cI, 8, .inl ra0)), (n2, .inl (cI, 4, .inl rb0)), (n3, .inl (cI, 4, .inl rc0)), (n4, .inl (cI, 6, .inl rd0)), (n5, .inl (cI, 6, .inl re0))] sz)) 0 0 (va_A [(nw, .inr (3, [.ref n1, .ref n2, .ref n3, .ref n4, .ref n5, .int fd0, .int ft0, .int kn0, .int dy0])), (n1, .inl (cI, 8, .inl ra0)), (n2, .inl (cI, 4, .inl rb0)), (n3, .inl (cI, 4, .inl rc0)), (n4, .inl (cI, 6, .inl rd0)), (n5, .inl (cI, 6, .inl re0))] sz) := by
  refine Met.ofW (cc := cX3_takeOver) (maxL := 2) (ret := none) (by decide) rfl ?_
  intro p e s m args below meth c s₁ Bd hml hv
  rw [show (headSpec wsX3_takeOver ({ frames := 1, cells := 0, slots := 0, locals := 22 } : Room)).room = ({ frames := 1, cells := 0, slots := 0, locals := 22 } : Room) from rfl]
  obtain ⟨rfl, hsz, hP, hK, hD0, hR⟩ := hv
  have hx := Bd.exec
  have hb := Bd.bytes
  have hr := Bd.returns
  have hts := atoms_spec (ws := wsX3_takeOver) Bd.pre
  have hown : s.vm.findClass RX3 = some m.cls := findClass_of_methodNamed Bd.named
  have hlocks := Bd.notSynchronized
  have FX : CallFix p m c cX3_takeOver 2 s _ wsX3_takeOver RX3 := ⟨hx, hb, hml, hown, hts⟩
  subst hsz
  have hD := hD0.self (sz := s.heap.size)
  generalize hAe : va_A [(nw, .inr (3, [.ref n1, .ref n2, .ref n3, .ref n4, .ref n5, .int fd0, .int ft0, .int kn0, .int dy0])), (n1, .inl (cI, 8, .inl ra0)), (n2, .inl (cI, 4, .inl rb0)), (n3, .inl (cI, 4, .inl rc0)), (n4, .inl (cI, 6, .inl rd0)), (n5, .inl (cI, 6, .inl re0))] s.heap.size = A at hD hR ⊢
  have hA : ∀ q : Nat, s.heap.size ≤ q → A q := fun q h => by rw [← hAe]; exact Or.inr h
  have hS : va_S A s.heap s.heap [] := va_S.rf
  have hP : va_P D vwCl [(nw, .inr (3, [.ref n1, .ref n2, .ref n3, .ref n4, .ref n5, .int fd0, .int ft0, .int kn0, .int dy0])), (n1, .inl (cI, 8, .inl ra0)), (n2, .inl (cI, 4, .inl rb0)), (n3, .inl (cI, 4, .inl rc0)), (n4, .inl (cI, 6, .inl rd0)), (n5, .inl (cI, 6, .inl re0))] s.heap := hP
  have hQ : va_P D vwCl ([(nw, .inr (3, [.ref n1, .ref n2, .ref n3, .ref n4, .ref n5, .int fd0, .int ft0, .int kn0, .int dy0])), (n1, .inl (cI, 8, .inl ra0)), (n2, .inl (cI, 4, .inl rb0)), (n3, .inl (cI, 4, .inl rc0)), (n4, .inl (cI, 6, .inl rd0)), (n5, .inl (cI, 6, .inl re0))] ++ [(kp, .inr (3, [.ref k1, .ref k2, .ref k3, .ref k4, .ref k5, .int fd, .int ft, .int kn, .int dy])), (k1, .inl (cI, 8, .inl ra)), (k2, .inl (cI, 4, .inl rb)), (k3, .inl (cI, 4, .inl rc)), (k4, .inl (cI, 6, .inl rd)), (k5, .inl (cI, 6, .inl re))]) s.heap := va_P.app hP (hR.at hS).P
  have hl := lv_entry ([.ref nw, .ref kp]) (n := 2) (Nat.le_of_ble_eq_true rfl)
  rw [lg_entry_eq]
  generalize (lg_sl ([.ref nw, .ref kp]) ++ List.replicate (2 - (lg_sl ([.ref nw, .ref kp])).length) Slot.unset).toArray = ls at hl ⊢
  have hl : lv_has ls 2 [(0, .ref nw), (1, .ref kp)] := hl
  refine lv_aload_n hx hb dX3_takeOver_0 rfl (lv_at hl 1 rfl) ?_
  refine va_get (D := D) (cl := vwCl) (tys := zT cI cB cF) (ci := 3) (v := .ref k1) (C := RX3) (T := TX3) (N := 9) hx hb hts iw_X3_takeOver_X3 hown hK.1 hQ 6 rfl rfl 0 (by decide) (hts _ hw_X3_takeOver_1) (fun _ h9 => h9) rfl dX3_takeOver_1 ?_
  refine lv_aload_n hx hb dX3_takeOver_4 rfl (lv_at hl 0 rfl) ?_
  refine va_get (D := D) (cl := vwCl) (tys := zT cI cB cF) (ci := 3) (v := .ref n1) (C := RX3) (T := TX3) (N := 9) hx hb hts iw_X3_takeOver_X3 hown hK.1 hQ 0 rfl rfl 0 (by decide) (hts _ hw_X3_takeOver_1) (fun _ h9 => h9) rfl dX3_takeOver_5 ?_
  have hFc := va_free (wc := [(n1, .inl (cI, 8, .inl ra0))]) hD hS hA [1] rfl
  refine vz_cw [(nw, .inr (3, [.ref n1, .ref n2, .ref n3, .ref n4, .ref n5, .int fd0, .int ft0, .int kn0, .int dy0])), (n2, .inl (cI, 4, .inl rb0)), (n3, .inl (cI, 4, .inl rc0)), (n4, .inl (cI, 6, .inl rd0)), (n5, .inl (cI, 6, .inl re0))] [1] [0, 2, 3, 4, 5] (va_runSN (As := [.ref k1, .ref n1]) (rest := []) FX (c_X8_copy l D cI cB cF s.heap.size k1 n1 8 ra ra0 (by decide)) ⟨va_cnB 2 hts gX3_takeOver_X8_copy_n44 rfl rfl rfl (zn_X3_44 hK.2) (hts _ hw_X3_takeOver_11) hd_X8_copy ⟨Nat.le_of_ble_eq_true rfl, Nat.le_of_ble_eq_true rfl⟩, (hts _ hw_X3_takeOver_10), trivial⟩ (preW_S (hP.sub (ws' := [(n1, .inl (cI, 8, .inl ra0))]) [1] rfl) (hD.sub (ws' := [(n1, .inl (cI, 8, .inl ra0))]) [1] (by decide) rfl) hK (show vz_R D [(k1, .inl (cI, 8, .inl ra))] _ _ from (vz_R.cons ((hR.at hS).one hFc (List.mem_of_getElem? (i := 1) rfl)) vz_R.nil))) rfl rfl hl.1 rfl (lv_room (Nat.le_of_ble_eq_true rfl)) dX3_takeOver_8 ⟨Nat.le_of_ble_eq_true rfl, Nat.le_of_ble_eq_true rfl⟩) hP hD hS hA rfl rfl rfl (by decide) (fun u H locs hu hP hD hS hz9 hk9 => ?_)
  have hP : va_P D vwCl [(nw, .inr (3, [.ref n1, .ref n2, .ref n3, .ref n4, .ref n5, .int fd0, .int ft0, .int kn0, .int dy0])), (n2, .inl (cI, 4, .inl rb0)), (n3, .inl (cI, 4, .inl rc0)), (n4, .inl (cI, 6, .inl rd0)), (n5, .inl (cI, 6, .inl re0)), (n1, .inl (cI, 8, .inl ra))] H := hP
  have hD : va_D A [(nw, .inr (3, [.ref n1, .ref n2, .ref n3, .ref n4, .ref n5, .int fd0, .int ft0, .int kn0, .int dy0])), (n2, .inl (cI, 4, .inl rb0)), (n3, .inl (cI, 4, .inl rc0)), (n4, .inl (cI, 6, .inl rd0)), (n5, .inl (cI, 6, .inl re0)), (n1, .inl (cI, 8, .inl ra))] := hD
  have hQ : va_P D vwCl ([(nw, .inr (3, [.ref n1, .ref n2, .ref n3, .ref n4, .ref n5, .int fd0, .int ft0, .int kn0, .int dy0])), (n2, .inl (cI, 4, .inl rb0)), (n3, .inl (cI, 4, .inl rc0)), (n4, .inl (cI, 6, .inl rd0)), (n5, .inl (cI, 6, .inl re0)), (n1, .inl (cI, 8, .inl ra))] ++ [(kp, .inr (3, [.ref k1, .ref k2, .ref k3, .ref k4, .ref k5, .int fd, .int ft, .int kn, .int dy])), (k1, .inl (cI, 8, .inl ra)), (k2, .inl (cI, 4, .inl rb)), (k3, .inl (cI, 4, .inl rc)), (k4, .inl (cI, 6, .inl rd)), (k5, .inl (cI, 6, .inl re))]) H := va_P.app hP (hR.at hS).P
  show W _ _ _ _ _ _ _ _ _ _ _ _ _ _ _ (F0 m 11 ls [])
  refine lv_aload_n hx hb dX3_takeOver_11 rfl (lv_at hl 1 rfl) ?_
  refine va_get (D := D) (cl := vwCl) (tys := zT cI cB cF) (ci := 3) (v := .ref k2) (C := RX3) (T := TX3) (N := 9) hx hb hts iw_X3_takeOver_X3 hown hK.1 hQ 6 rfl rfl 1 (by decide) (hts _ hw_X3_takeOver_2) (fun _ h9 => h9) rfl dX3_takeOver_12 ?_
  refine lv_aload_n hx hb dX3_takeOver_15 rfl (lv_at hl 0 rfl) ?_
  refine va_get (D := D) (cl := vwCl) (tys := zT cI cB cF) (ci := 3) (v := .ref n2) (C := RX3) (T := TX3) (N := 9) hx hb hts iw_X3_takeOver_X3 hown hK.1 hQ 0 rfl rfl 1 (by decide) (hts _ hw_X3_takeOver_2) (fun _ h9 => h9) rfl dX3_takeOver_16 ?_
  have hFc := va_free (wc := [(n2, .inl (cI, 4, .inl rb0))]) hD hS hA [1] rfl
  refine vz_cw [(nw, .inr (3, [.ref n1, .ref n2, .ref n3, .ref n4, .ref n5, .int fd0, .int ft0, .int kn0, .int dy0])), (n3, .inl (cI, 4, .inl rc0)), (n4, .inl (cI, 6, .inl rd0)), (n5, .inl (cI, 6, .inl re0)), (n1, .inl (cI, 8, .inl ra))] [1] [0, 2, 3, 4, 5] (va_runSN (As := [.ref k2, .ref n2]) (rest := []) FX (c_X8_copy l D cI cB cF H.size k2 n2 4 rb rb0 (by decide)) ⟨va_cnB 2 hts gX3_takeOver_X8_copy_n44 rfl rfl rfl (zn_X3_44 hK.2) (hts _ hw_X3_takeOver_11) hd_X8_copy ⟨Nat.le_of_ble_eq_true rfl, Nat.le_of_ble_eq_true rfl⟩, (hts _ hw_X3_takeOver_10), trivial⟩ (preW_S (hP.sub (ws' := [(n2, .inl (cI, 4, .inl rb0))]) [1] rfl) (hD.sub (ws' := [(n2, .inl (cI, 4, .inl rb0))]) [1] (by decide) rfl) hK (show vz_R D [(k2, .inl (cI, 4, .inl rb))] _ _ from (vz_R.cons ((hR.at hS).one hFc (List.mem_of_getElem? (i := 2) rfl)) vz_R.nil))) rfl rfl hl.1 rfl (lv_room (Nat.le_of_ble_eq_true rfl)) dX3_takeOver_19 ⟨Nat.le_of_ble_eq_true rfl, Nat.le_of_ble_eq_true rfl⟩) hP hD hS hA rfl rfl rfl (by decide) (fun u H locs hu hP hD hS hz9 hk9 => ?_)
  have hP : va_P D vwCl [(nw, .inr (3, [.ref n1, .ref n2, .ref n3, .ref n4, .ref n5, .int fd0, .int ft0, .int kn0, .int dy0])), (n3, .inl (cI, 4, .inl rc0)), (n4, .inl (cI, 6, .inl rd0)), (n5, .inl (cI, 6, .inl re0)), (n1, .inl (cI, 8, .inl ra)), (n2, .inl (cI, 4, .inl rb))] H := hP
  have hD : va_D A [(nw, .inr (3, [.ref n1, .ref n2, .ref n3, .ref n4, .ref n5, .int fd0, .int ft0, .int kn0, .int dy0])), (n3, .inl (cI, 4, .inl rc0)), (n4, .inl (cI, 6, .inl rd0)), (n5, .inl (cI, 6, .inl re0)), (n1, .inl (cI, 8, .inl ra)), (n2, .inl (cI, 4, .inl rb))] := hD
  have hQ : va_P D vwCl ([(nw, .inr (3, [.ref n1, .ref n2, .ref n3, .ref n4, .ref n5, .int fd0, .int ft0, .int kn0, .int dy0])), (n3, .inl (cI, 4, .inl rc0)), (n4, .inl (cI, 6, .inl rd0)), (n5, .inl (cI, 6, .inl re0)), (n1, .inl (cI, 8, .inl ra)), (n2, .inl (cI, 4, .inl rb))] ++ [(kp, .inr (3, [.ref k1, .ref k2, .ref k3, .ref k4, .ref k5, .int fd, .int ft, .int kn, .int dy])), (k1, .inl (cI, 8, .inl ra)), (k2, .inl (cI, 4, .inl rb)), (k3, .inl (cI, 4, .inl rc)), (k4, .inl (cI, 6, .inl rd)), (k5, .inl (cI, 6, .inl re))]) H := va_P.app hP (hR.at hS).P
  show W _ _ _ _ _ _ _ _ _ _ _ _ _ _ _ (F0 m 22 ls [])
  refine lv_aload_n hx hb dX3_takeOver_22 rfl (lv_at hl 1 rfl) ?_
  refine va_get (D := D) (cl := vwCl) (tys := zT cI cB cF) (ci := 3) (v := .ref k3) (C := RX3) (T := TX3) (N := 9) hx hb hts iw_X3_takeOver_X3 hown hK.1 hQ 6 rfl rfl 2 (by decide) (hts _ hw_X3_takeOver_3) (fun _ h9 => h9) rfl dX3_takeOver_23 ?_
  refine lv_aload_n hx hb dX3_takeOver_26 rfl (lv_at hl 0 rfl) ?_
  refine va_get (D := D) (cl := vwCl) (tys := zT cI cB cF) (ci := 3) (v := .ref n3) (C := RX3) (T := TX3) (N := 9) hx hb hts iw_X3_takeOver_X3 hown hK.1 hQ 0 rfl rfl 2 (by decide) (hts _ hw_X3_takeOver_3) (fun _ h9 => h9) rfl dX3_takeOver_27 ?_
  have hFc := va_free (wc := [(n3, .inl (cI, 4, .inl rc0))]) hD hS hA [1] rfl
  refine vz_cw [(nw, .inr (3, [.ref n1, .ref n2, .ref n3, .ref n4, .ref n5, .int fd0, .int ft0, .int kn0, .int dy0])), (n4, .inl (cI, 6, .inl rd0)), (n5, .inl (cI, 6, .inl re0)), (n1, .inl (cI, 8, .inl ra)), (n2, .inl (cI, 4, .inl rb))] [1] [0, 2, 3, 4, 5] (va_runSN (As := [.ref k3, .ref n3]) (rest := []) FX (c_X8_copy l D cI cB cF H.size k3 n3 4 rc rc0 (by decide)) ⟨va_cnB 2 hts gX3_takeOver_X8_copy_n44 rfl rfl rfl (zn_X3_44 hK.2) (hts _ hw_X3_takeOver_11) hd_X8_copy ⟨Nat.le_of_ble_eq_true rfl, Nat.le_of_ble_eq_true rfl⟩, (hts _ hw_X3_takeOver_10), trivial⟩ (preW_S (hP.sub (ws' := [(n3, .inl (cI, 4, .inl rc0))]) [1] rfl) (hD.sub (ws' := [(n3, .inl (cI, 4, .inl rc0))]) [1] (by decide) rfl) hK (show vz_R D [(k3, .inl (cI, 4, .inl rc))] _ _ from (vz_R.cons ((hR.at hS).one hFc (List.mem_of_getElem? (i := 3) rfl)) vz_R.nil))) rfl rfl hl.1 rfl (lv_room (Nat.le_of_ble_eq_true rfl)) dX3_takeOver_30 ⟨Nat.le_of_ble_eq_true rfl, Nat.le_of_ble_eq_true rfl⟩) hP hD hS hA rfl rfl rfl (by decide) (fun u H locs hu hP hD hS hz9 hk9 => ?_)
  have hP : va_P D vwCl [(nw, .inr (3, [.ref n1, .ref n2, .ref n3, .ref n4, .ref n5, .int fd0, .int ft0, .int kn0, .int dy0])), (n4, .inl (cI, 6, .inl rd0)), (n5, .inl (cI, 6, .inl re0)), (n1, .inl (cI, 8, .inl ra)), (n2, .inl (cI, 4, .inl rb)), (n3, .inl (cI, 4, .inl rc))] H := hP
  have hD : va_D A [(nw, .inr (3, [.ref n1, .ref n2, .ref n3, .ref n4, .ref n5, .int fd0, .int ft0, .int kn0, .int dy0])), (n4, .inl (cI, 6, .inl rd0)), (n5, .inl (cI, 6, .inl re0)), (n1, .inl (cI, 8, .inl ra)), (n2, .inl (cI, 4, .inl rb)), (n3, .inl (cI, 4, .inl rc))] := hD
  have hQ : va_P D vwCl ([(nw, .inr (3, [.ref n1, .ref n2, .ref n3, .ref n4, .ref n5, .int fd0, .int ft0, .int kn0, .int dy0])), (n4, .inl (cI, 6, .inl rd0)), (n5, .inl (cI, 6, .inl re0)), (n1, .inl (cI, 8, .inl ra)), (n2, .inl (cI, 4, .inl rb)), (n3, .inl (cI, 4, .inl rc))] ++ [(kp, .inr (3, [.ref k1, .ref k2, .ref k3, .ref k4, .ref k5, .int fd, .int ft, .int kn, .int dy])), (k1, .inl (cI, 8, .inl ra)), (k2, .inl (cI, 4, .inl rb)), (k3, .inl (cI, 4, .inl rc)), (k4, .inl (cI, 6, .inl rd)), (k5, .inl (cI, 6, .inl re))]) H := va_P.app hP (hR.at hS).P
  show W _ _ _ _ _ _ _ _ _ _ _ _ _ _ _ (F0 m 33 ls [])
  refine lv_aload_n hx hb dX3_takeOver_33 rfl (lv_at hl 1 rfl) ?_
  refine va_get (D := D) (cl := vwCl) (tys := zT cI cB cF) (ci := 3) (v := .ref k4) (C := RX3) (T := TX3) (N := 9) hx hb hts iw_X3_takeOver_X3 hown hK.1 hQ 6 rfl rfl 3 (by decide) (hts _ hw_X3_takeOver_4) (fun _ h9 => h9) rfl dX3_takeOver_34 ?_
  refine lv_aload_n hx hb dX3_takeOver_37 rfl (lv_at hl 0 rfl) ?_
  refine va_get (D := D) (cl := vwCl) (tys := zT cI cB cF) (ci := 3) (v := .ref n4) (C := RX3) (T := TX3) (N := 9) hx hb hts iw_X3_takeOver_X3 hown hK.1 hQ 0 rfl rfl 3 (by decide) (hts _ hw_X3_takeOver_4) (fun _ h9 => h9) rfl dX3_takeOver_38 ?_
  have hFc := va_free (wc := [(n4, .inl (cI, 6, .inl rd0))]) hD hS hA [1] rfl
  refine vz_cw [(nw, .inr (3, [.ref n1, .ref n2, .ref n3, .ref n4, .ref n5, .int fd0, .int ft0, .int kn0, .int dy0])), (n5, .inl (cI, 6, .inl re0)), (n1, .inl (cI, 8, .inl ra)), (n2, .inl (cI, 4, .inl rb)), (n3, .inl (cI, 4, .inl rc))] [1] [0, 2, 3, 4, 5] (va_runSN (As := [.ref k4, .ref n4]) (rest := []) FX (c_X8_copy l D cI cB cF H.size k4 n4 6 rd rd0 (by decide)) ⟨va_cnB 2 hts gX3_takeOver_X8_copy_n44 rfl rfl rfl (zn_X3_44 hK.2) (hts _ hw_X3_takeOver_11) hd_X8_copy ⟨Nat.le_of_ble_eq_true rfl, Nat.le_of_ble_eq_true rfl⟩, (hts _ hw_X3_takeOver_10), trivial⟩ (preW_S (hP.sub (ws' := [(n4, .inl (cI, 6, .inl rd0))]) [1] rfl) (hD.sub (ws' := [(n4, .inl (cI, 6, .inl rd0))]) [1] (by decide) rfl) hK (show vz_R D [(k4, .inl (cI, 6, .inl rd))] _ _ from (vz_R.cons ((hR.at hS).one hFc (List.mem_of_getElem? (i := 4) rfl)) vz_R.nil))) rfl rfl hl.1 rfl (lv_room (Nat.le_of_ble_eq_true rfl)) dX3_takeOver_41 ⟨Nat.le_of_ble_eq_true rfl, Nat.le_of_ble_eq_true rfl⟩) hP hD hS hA rfl rfl rfl (by decide) (fun u H locs hu hP hD hS hz9 hk9 => ?_)
  have hP : va_P D vwCl [(nw, .inr (3, [.ref n1, .ref n2, .ref n3, .ref n4, .ref n5, .int fd0, .int ft0, .int kn0, .int dy0])), (n5, .inl (cI, 6, .inl re0)), (n1, .inl (cI, 8, .inl ra)), (n2, .inl (cI, 4, .inl rb)), (n3, .inl (cI, 4, .inl rc)), (n4, .inl (cI, 6, .inl rd))] H := hP
  have hD : va_D A [(nw, .inr (3, [.ref n1, .ref n2, .ref n3, .ref n4, .ref n5, .int fd0, .int ft0, .int kn0, .int dy0])), (n5, .inl (cI, 6, .inl re0)), (n1, .inl (cI, 8, .inl ra)), (n2, .inl (cI, 4, .inl rb)), (n3, .inl (cI, 4, .inl rc)), (n4, .inl (cI, 6, .inl rd))] := hD
  have hQ : va_P D vwCl ([(nw, .inr (3, [.ref n1, .ref n2, .ref n3, .ref n4, .ref n5, .int fd0, .int ft0, .int kn0, .int dy0])), (n5, .inl (cI, 6, .inl re0)), (n1, .inl (cI, 8, .inl ra)), (n2, .inl (cI, 4, .inl rb)), (n3, .inl (cI, 4, .inl rc)), (n4, .inl (cI, 6, .inl rd))] ++ [(kp, .inr (3, [.ref k1, .ref k2, .ref k3, .ref k4, .ref k5, .int fd, .int ft, .int kn, .int dy])), (k1, .inl (cI, 8, .inl ra)), (k2, .inl (cI, 4, .inl rb)), (k3, .inl (cI, 4, .inl rc)), (k4, .inl (cI, 6, .inl rd)), (k5, .inl (cI, 6, .inl re))]) H := va_P.app hP (hR.at hS).P
  show W _ _ _ _ _ _ _ _ _ _ _ _ _ _ _ (F0 m 44 ls [])
  refine lv_aload_n hx hb dX3_takeOver_44 rfl (lv_at hl 1 rfl) ?_
  refine va_get (D := D) (cl := vwCl) (tys := zT cI cB cF) (ci := 3) (v := .ref k5) (C := RX3) (T := TX3) (N := 9) hx hb hts iw_X3_takeOver_X3 hown hK.1 hQ 6 rfl rfl 4 (by decide) (hts _ hw_X3_takeOver_5) (fun _ h9 => h9) rfl dX3_takeOver_45 ?_
  refine lv_aload_n hx hb dX3_takeOver_48 rfl (lv_at hl 0 rfl) ?_
  refine va_get (D := D) (cl := vwCl) (tys := zT cI cB cF) (ci := 3) (v := .ref n5) (C := RX3) (T := TX3) (N := 9) hx hb hts iw_X3_takeOver_X3 hown hK.1 hQ 0 rfl rfl 4 (by decide) (hts _ hw_X3_takeOver_5) (fun _ h9 => h9) rfl dX3_takeOver_49 ?_
  have hFc := va_free (wc := [(n5, .inl (cI, 6, .inl re0))]) hD hS hA [1] rfl
  refine vz_cw [(nw, .inr (3, [.ref n1, .ref n2, .ref n3, .ref n4, .ref n5, .int fd0, .int ft0, .int kn0, .int dy0])), (n1, .inl (cI, 8, .inl ra)), (n2, .inl (cI, 4, .inl rb)), (n3, .inl (cI, 4, .inl rc)), (n4, .inl (cI, 6, .inl rd))] [1] [0, 2, 3, 4, 5] (va_runSN (As := [.ref k5, .ref n5]) (rest := []) FX (c_X8_copy l D cI cB cF H.size k5 n5 6 re re0 (by decide)) ⟨va_cnB 2 hts gX3_takeOver_X8_copy_n44 rfl rfl rfl (zn_X3_44 hK.2) (hts _ hw_X3_takeOver_11) hd_X8_copy ⟨Nat.le_of_ble_eq_true rfl, Nat.le_of_ble_eq_true rfl⟩, (hts _ hw_X3_takeOver_10), trivial⟩ (preW_S (hP.sub (ws' := [(n5, .inl (cI, 6, .inl re0))]) [1] rfl) (hD.sub (ws' := [(n5, .inl (cI, 6, .inl re0))]) [1] (by decide) rfl) hK (show vz_R D [(k5, .inl (cI, 6, .inl re))] _ _ from (vz_R.cons ((hR.at hS).one hFc (List.mem_of_getElem? (i := 5) rfl)) vz_R.nil))) rfl rfl hl.1 rfl (lv_room (Nat.le_of_ble_eq_true rfl)) dX3_takeOver_52 ⟨Nat.le_of_ble_eq_true rfl, Nat.le_of_ble_eq_true rfl⟩) hP hD hS hA rfl rfl rfl (by decide) (fun u H locs hu hP hD hS hz9 hk9 => ?_)
  have hP : va_P D vwCl [(nw, .inr (3, [.ref n1, .ref n2, .ref n3, .ref n4, .ref n5, .int fd0, .int ft0, .int kn0, .int dy0])), (n1, .inl (cI, 8, .inl ra)), (n2, .inl (cI, 4, .inl rb)), (n3, .inl (cI, 4, .inl rc)), (n4, .inl (cI, 6, .inl rd)), (n5, .inl (cI, 6, .inl re))] H := hP
  have hD : va_D A [(nw, .inr (3, [.ref n1, .ref n2, .ref n3, .ref n4, .ref n5, .int fd0, .int ft0, .int kn0, .int dy0])), (n1, .inl (cI, 8, .inl ra)), (n2, .inl (cI, 4, .inl rb)), (n3, .inl (cI, 4, .inl rc)), (n4, .inl (cI, 6, .inl rd)), (n5, .inl (cI, 6, .inl re))] := hD
  have hQ : va_P D vwCl ([(nw, .inr (3, [.ref n1, .ref n2, .ref n3, .ref n4, .ref n5, .int fd0, .int ft0, .int kn0, .int dy0])), (n1, .inl (cI, 8, .inl ra)), (n2, .inl (cI, 4, .inl rb)), (n3, .inl (cI, 4, .inl rc)), (n4, .inl (cI, 6, .inl rd)), (n5, .inl (cI, 6, .inl re))] ++ [(kp, .inr (3, [.ref k1, .ref k2, .ref k3, .ref k4, .ref k5, .int fd, .int ft, .int kn, .int dy])), (k1, .inl (cI, 8, .inl ra)), (k2, .inl (cI, 4, .inl rb)), (k3, .inl (cI, 4, .inl rc)), (k4, .inl (cI, 6, .inl rd)), (k5, .inl (cI, 6, .inl re))]) H := va_P.app hP (hR.at hS).P
  show W _ _ _ _ _ _ _ _ _ _ _ _ _ _ _ (F0 m 55 ls [])
  refine lv_aload_n hx hb dX3_takeOver_55 rfl (lv_at hl 0 rfl) ?_
  refine lv_aload_n hx hb dX3_takeOver_56 rfl (lv_at hl 1 rfl) ?_
  refine va_get (D := D) (cl := vwCl) (tys := zT cI cB cF) (ci := 3) (v := .int fd) (C := RX3) (T := TX3) (N := 9) hx hb hts iw_X3_takeOver_X3 hown hK.1 hQ 6 rfl rfl 5 (by decide) (hts _ hw_X3_takeOver_6) (fun _ h9 => h9) rfl dX3_takeOver_57 ?_
  refine va_put (D := D) (cl := vwCl) (tys := zT cI cB cF) (ci := 3) (v := .int fd) (ty := .int) (C := RX3) (T := TX3) (N := 9) hx hb hts iw_X3_takeOver_X3 tyX3 tyX3_ok nmX3 hown hK.1 hP hD hS 0 rfl rfl 5 (by decide) (hts _ hw_X3_takeOver_6) (fun _ h9 => h9) rfl (tyX3_ok 5 (by decide)) (rfl) (rfl) (Nat.le_of_ble_eq_true rfl) dX3_takeOver_60 (fun H locs hP hD hS => ?_)
  have hP : va_P D vwCl [(nw, .inr (3, [.ref n1, .ref n2, .ref n3, .ref n4, .ref n5, .int fd, .int ft0, .int kn0, .int dy0])), (n1, .inl (cI, 8, .inl ra)), (n2, .inl (cI, 4, .inl rb)), (n3, .inl (cI, 4, .inl rc)), (n4, .inl (cI, 6, .inl rd)), (n5, .inl (cI, 6, .inl re))] H := hP
  have hD : va_D A [(nw, .inr (3, [.ref n1, .ref n2, .ref n3, .ref n4, .ref n5, .int fd, .int ft0, .int kn0, .int dy0])), (n1, .inl (cI, 8, .inl ra)), (n2, .inl (cI, 4, .inl rb)), (n3, .inl (cI, 4, .inl rc)), (n4, .inl (cI, 6, .inl rd)), (n5, .inl (cI, 6, .inl re))] := hD
  have hQ : va_P D vwCl ([(nw, .inr (3, [.ref n1, .ref n2, .ref n3, .ref n4, .ref n5, .int fd, .int ft0, .int kn0, .int dy0])), (n1, .inl (cI, 8, .inl ra)), (n2, .inl (cI, 4, .inl rb)), (n3, .inl (cI, 4, .inl rc)), (n4, .inl (cI, 6, .inl rd)), (n5, .inl (cI, 6, .inl re))] ++ [(kp, .inr (3, [.ref k1, .ref k2, .ref k3, .ref k4, .ref k5, .int fd, .int ft, .int kn, .int dy])), (k1, .inl (cI, 8, .inl ra)), (k2, .inl (cI, 4, .inl rb)), (k3, .inl (cI, 4, .inl rc)), (k4, .inl (cI, 6, .inl rd)), (k5, .inl (cI, 6, .inl re))]) H := va_P.app hP (hR.at hS).P
  refine lv_aload_n hx hb dX3_takeOver_63 rfl (lv_at hl 0 rfl) ?_
  refine lv_aload_n hx hb dX3_takeOver_64 rfl (lv_at hl 1 rfl) ?_
  refine va_get (D := D) (cl := vwCl) (tys := zT cI cB cF) (ci := 3) (v := .int ft) (C := RX3) (T := TX3) (N := 9) hx hb hts iw_X3_takeOver_X3 hown hK.1 hQ 6 rfl rfl 6 (by decide) (hts _ hw_X3_takeOver_7) (fun _ h9 => h9) rfl dX3_takeOver_65 ?_
  refine va_put (D := D) (cl := vwCl) (tys := zT cI cB cF) (ci := 3) (v := .int ft) (ty := .int) (C := RX3) (T := TX3) (N := 9) hx hb hts iw_X3_takeOver_X3 tyX3 tyX3_ok nmX3 hown hK.1 hP hD hS 0 rfl rfl 6 (by decide) (hts _ hw_X3_takeOver_7) (fun _ h9 => h9) rfl (tyX3_ok 6 (by decide)) (rfl) (rfl) (Nat.le_of_ble_eq_true rfl) dX3_takeOver_68 (fun H locs hP hD hS => ?_)
  have hP : va_P D vwCl [(nw, .inr (3, [.ref n1, .ref n2, .ref n3, .ref n4, .ref n5, .int fd, .int ft, .int kn0, .int dy0])), (n1, .inl (cI, 8, .inl ra)), (n2, .inl (cI, 4, .inl rb)), (n3, .inl (cI, 4, .inl rc)), (n4, .inl (cI, 6, .inl rd)), (n5, .inl (cI, 6, .inl re))] H := hP
  have hD : va_D A [(nw, .inr (3, [.ref n1, .ref n2, .ref n3, .ref n4, .ref n5, .int fd, .int ft, .int kn0, .int dy0])), (n1, .inl (cI, 8, .inl ra)), (n2, .inl (cI, 4, .inl rb)), (n3, .inl (cI, 4, .inl rc)), (n4, .inl (cI, 6, .inl rd)), (n5, .inl (cI, 6, .inl re))] := hD
  have hQ : va_P D vwCl ([(nw, .inr (3, [.ref n1, .ref n2, .ref n3, .ref n4, .ref n5, .int fd, .int ft, .int kn0, .int dy0])), (n1, .inl (cI, 8, .inl ra)), (n2, .inl (cI, 4, .inl rb)), (n3, .inl (cI, 4, .inl rc)), (n4, .inl (cI, 6, .inl rd)), (n5, .inl (cI, 6, .inl re))] ++ [(kp, .inr (3, [.ref k1, .ref k2, .ref k3, .ref k4, .ref k5, .int fd, .int ft, .int kn, .int dy])), (k1, .inl (cI, 8, .inl ra)), (k2, .inl (cI, 4, .inl rb)), (k3, .inl (cI, 4, .inl rc)), (k4, .inl (cI, 6, .inl rd)), (k5, .inl (cI, 6, .inl re))]) H := va_P.app hP (hR.at hS).P
  refine lv_aload_n hx hb dX3_takeOver_71 rfl (lv_at hl 0 rfl) ?_
  refine lv_aload_n hx hb dX3_takeOver_72 rfl (lv_at hl 1 rfl) ?_
  refine va_get (D := D) (cl := vwCl) (tys := zT cI cB cF) (ci := 3) (v := .int kn) (C := RX3) (T := TX3) (N := 9) hx hb hts iw_X3_takeOver_X3 hown hK.1 hQ 6 rfl rfl 7 (by decide) (hts _ hw_X3_takeOver_8) (fun _ h9 => h9) rfl dX3_takeOver_73 ?_
  refine va_put (D := D) (cl := vwCl) (tys := zT cI cB cF) (ci := 3) (v := .int kn) (ty := .int) (C := RX3) (T := TX3) (N := 9) hx hb hts iw_X3_takeOver_X3 tyX3 tyX3_ok nmX3 hown hK.1 hP hD hS 0 rfl rfl 7 (by decide) (hts _ hw_X3_takeOver_8) (fun _ h9 => h9) rfl (tyX3_ok 7 (by decide)) (rfl) (rfl) (Nat.le_of_ble_eq_true rfl) dX3_takeOver_76 (fun H locs hP hD hS => ?_)
  have hP : va_P D vwCl [(nw, .inr (3, [.ref n1, .ref n2, .ref n3, .ref n4, .ref n5, .int fd, .int ft, .int kn, .int dy0])), (n1, .inl (cI, 8, .inl ra)), (n2, .inl (cI, 4, .inl rb)), (n3, .inl (cI, 4, .inl rc)), (n4, .inl (cI, 6, .inl rd)), (n5, .inl (cI, 6, .inl re))] H := hP
  have hD : va_D A [(nw, .inr (3, [.ref n1, .ref n2, .ref n3, .ref n4, .ref n5, .int fd, .int ft, .int kn, .int dy0])), (n1, .inl (cI, 8, .inl ra)), (n2, .inl (cI, 4, .inl rb)), (n3, .inl (cI, 4, .inl rc)), (n4, .inl (cI, 6, .inl rd)), (n5, .inl (cI, 6, .inl re))] := hD
  have hQ : va_P D vwCl ([(nw, .inr (3, [.ref n1, .ref n2, .ref n3, .ref n4, .ref n5, .int fd, .int ft, .int kn, .int dy0])), (n1, .inl (cI, 8, .inl ra)), (n2, .inl (cI, 4, .inl rb)), (n3, .inl (cI, 4, .inl rc)), (n4, .inl (cI, 6, .inl rd)), (n5, .inl (cI, 6, .inl re))] ++ [(kp, .inr (3, [.ref k1, .ref k2, .ref k3, .ref k4, .ref k5, .int fd, .int ft, .int kn, .int dy])), (k1, .inl (cI, 8, .inl ra)), (k2, .inl (cI, 4, .inl rb)), (k3, .inl (cI, 4, .inl rc)), (k4, .inl (cI, 6, .inl rd)), (k5, .inl (cI, 6, .inl re))]) H := va_P.app hP (hR.at hS).P
  refine lv_aload_n hx hb dX3_takeOver_79 rfl (lv_at hl 0 rfl) ?_
  refine lv_aload_n hx hb dX3_takeOver_80 rfl (lv_at hl 1 rfl) ?_
  refine va_get (D := D) (cl := vwCl) (tys := zT cI cB cF) (ci := 3) (v := .int dy) (C := RX3) (T := TX3) (N := 9) hx hb hts iw_X3_takeOver_X3 hown hK.1 hQ 6 rfl rfl 8 (by decide) (hts _ hw_X3_takeOver_9) (fun _ h9 => h9) rfl dX3_takeOver_81 ?_
  refine va_put (D := D) (cl := vwCl) (tys := zT cI cB cF) (ci := 3) (v := .int dy) (ty := .int) (C := RX3) (T := TX3) (N := 9) hx hb hts iw_X3_takeOver_X3 tyX3 tyX3_ok nmX3 hown hK.1 hP hD hS 0 rfl rfl 8 (by decide) (hts _ hw_X3_takeOver_9) (fun _ h9 => h9) rfl (tyX3_ok 8 (by decide)) (rfl) (rfl) (Nat.le_of_ble_eq_true rfl) dX3_takeOver_84 (fun H locs hP hD hS => ?_)
  have hP : va_P D vwCl [(nw, .inr (3, [.ref n1, .ref n2, .ref n3, .ref n4, .ref n5, .int fd, .int ft, .int kn, .int dy])), (n1, .inl (cI, 8, .inl ra)), (n2, .inl (cI, 4, .inl rb)), (n3, .inl (cI, 4, .inl rc)), (n4, .inl (cI, 6, .inl rd)), (n5, .inl (cI, 6, .inl re))] H := hP
  have hD : va_D A [(nw, .inr (3, [.ref n1, .ref n2, .ref n3, .ref n4, .ref n5, .int fd, .int ft, .int kn, .int dy])), (n1, .inl (cI, 8, .inl ra)), (n2, .inl (cI, 4, .inl rb)), (n3, .inl (cI, 4, .inl rc)), (n4, .inl (cI, 6, .inl rd)), (n5, .inl (cI, 6, .inl re))] := hD
  have hQ : va_P D vwCl ([(nw, .inr (3, [.ref n1, .ref n2, .ref n3, .ref n4, .ref n5, .int fd, .int ft, .int kn, .int dy])), (n1, .inl (cI, 8, .inl ra)), (n2, .inl (cI, 4, .inl rb)), (n3, .inl (cI, 4, .inl rc)), (n4, .inl (cI, 6, .inl rd)), (n5, .inl (cI, 6, .inl re))] ++ [(kp, .inr (3, [.ref k1, .ref k2, .ref k3, .ref k4, .ref k5, .int fd, .int ft, .int kn, .int dy])), (k1, .inl (cI, 8, .inl ra)), (k2, .inl (cI, 4, .inl rb)), (k3, .inl (cI, 4, .inl rc)), (k4, .inl (cI, 6, .inl rd)), (k5, .inl (cI, 6, .inl re))]) H := va_P.app hP (hR.at hS).P
  have hP9 := hP.sub (ws' := [(nw, .inr (3, [.ref n1, .ref n2, .ref n3, .ref n4, .ref n5, .int fd, .int ft, .int kn, .int dy])), (n1, .inl (cI, 8, .inl ra)), (n2, .inl (cI, 4, .inl rb)), (n3, .inl (cI, 4, .inl rc)), (n4, .inl (cI, 6, .inl rd)), (n5, .inl (cI, 6, .inl re))]) [0, 1, 2, 3, 4, 5] rfl
  have hD9 := hD.sub (ws' := [(nw, .inr (3, [.ref n1, .ref n2, .ref n3, .ref n4, .ref n5, .int fd, .int ft, .int kn, .int dy])), (n1, .inl (cI, 8, .inl ra)), (n2, .inl (cI, 4, .inl rb)), (n3, .inl (cI, 4, .inl rc)), (n4, .inl (cI, 6, .inl rd)), (n5, .inl (cI, 6, .inl re))]) [0, 1, 2, 3, 4, 5] (by decide) rfl
  exact W.vret hx hb hr (fun t ht hW => ⟨⟨(), rfl, trivial, by rw [ht]; exact hP9, hD9⟩, hS.F ht⟩) hS.2.2 dX3_takeOver_87
set_option maxRecDepth 100000 in
theorem iw_X3_addFound_X3 : ∀ w ∈ u_ws RX3 TX3 9, w ∈ wsX3_addFound := fun w h => List.mem_cons_of_mem _ (List.mem_append_right _ h)
set_option maxRecDepth 100000 in
theorem hw_X3_addFound_1 : (.fieldLink RX3 21 "RotaFathers$Lived" "foundShifts" "[I" : Cond) ∈ wsX3_addFound := List.mem_of_getElem? (i := 1) rfl
set_option maxRecDepth 100000 in
theorem hw_X3_addFound_2 : (.fieldLink RX3 31 "RotaFathers$Lived" "foundCount" "I" : Cond) ∈ wsX3_addFound := List.mem_of_getElem? (i := 2) rfl
set_option maxRecDepth 100000 in
theorem hw_X3_addFound_5 : (.initialized RX8 : Cond) ∈ wsX3_addFound := List.mem_of_getElem? (i := 5) rfl
set_option maxRecDepth 100000 in
theorem hw_X3_addFound_4 : (.static yX8_put : Cond) ∈ wsX3_addFound := List.mem_of_getElem? (i := 4) rfl
set_option maxRecDepth 100000 in
theorem hw_X3_addFound_3 : (.fieldLink RX3 24 "RotaFathers$Lived" "foundFits" "[I" : Cond) ∈ wsX3_addFound := List.mem_of_getElem? (i := 3) rfl
set_option maxRecDepth 100000 in
theorem hd_X3_addFound : yX3_addFound.cls ≠ "java/lang/invoke/MethodHandle" ∧ yX3_addFound.cls ≠ "java/lang/invoke/VarHandle" ∧ (parseMethodDescriptor yX3_addFound.desc).map (fun d => d.parameters.length) = some 2 := by decide +kernel
set_option maxHeartbeats 4000000 in
set_option maxRecDepth 100000 in
theorem c_X3_addFound (l : Launch) (D : va_G) (cI cB cF : ClassId) (sz : Nat) (nw : Nat) (n1 : Nat) (n2 : Nat) (n3 : Nat) (n4 : Nat) (n5 : Nat) (fd : Nat) (ft : Int32) (kn : Int32) (dy : Int32) (fs : Nat → Int32) (ff : Nat → Int32) (sh : Int32) (fi : Int32) (hfd : fd < 6) : Met l yX3_addFound wsX3_addFound ({ frames := 1, cells := 0, slots := 0, locals := 22 } : Room) (PcW D cI cB cF [.ref nw, .int sh, .int fi] sz [(nw, .inr (3, [.ref n1, .ref n2, .ref n3, .ref n4, .ref n5, .int (nI fd), .int ft, .int kn, .int dy])), (n4, .inl (cI, 6, .inl fs)), (n5, .inl (cI, 6, .inl ff))] []) (Qw D (S := Unit) (fun xx => none) (fun xx => True) (fun xx => [(nw, .inr (3, [.ref n1, .ref n2, .ref n3, .ref n4, .ref n5, .int (nI (fd + 1)), .int ft, .int kn, .int dy])), (n4, .inl (cI, 6, .inl (upd fs fd sh))), (n5, .inl (cI, 6, .inl (upd ff fd fi)))]) (va_A [(nw, .inr (3, [.ref n1, .ref n2, .ref n3, .ref n4, .ref n5, .int (nI fd), .int ft, .int kn, .int dy])), (n4, .inl (cI, 6, .inl fs)), (n5, .inl (cI, 6, .inl ff))] sz)) 0 0 (va_A [(nw, .inr (3, [.ref n1, .ref n2, .ref n3, .ref n4, .ref n5, .int (nI fd), .int ft, .int kn, .int dy])), (n4, .inl (cI, 6, .inl fs)), (n5, .inl (cI, 6, .inl ff))] sz) := by
  refine Met.ofW (cc := cX3_addFound) (maxL := 3) (ret := none) (by decide) rfl ?_
  intro p e s m args below meth c s₁ Bd hml hv
  rw [show (headSpec wsX3_addFound ({ frames := 1, cells := 0, slots := 0, locals := 22 } : Room)).room = ({ frames := 1, cells := 0, slots := 0, locals := 22 } : Room) from rfl]
  obtain ⟨rfl, hsz, hP, hK, hD0, hR⟩ := hv
  have hx := Bd.exec
  have hb := Bd.bytes
  have hr := Bd.returns
  have hts := atoms_spec (ws := wsX3_addFound) Bd.pre
  have hown : s.vm.findClass RX3 = some m.cls := findClass_of_methodNamed Bd.named
  have hlocks := Bd.notSynchronized
  have FX : CallFix p m c cX3_addFound 3 s _ wsX3_addFound RX3 := ⟨hx, hb, hml, hown, hts⟩
  subst hsz
  have hD := hD0.self (sz := s.heap.size)
  generalize hAe : va_A [(nw, .inr (3, [.ref n1, .ref n2, .ref n3, .ref n4, .ref n5, .int (nI fd), .int ft, .int kn, .int dy])), (n4, .inl (cI, 6, .inl fs)), (n5, .inl (cI, 6, .inl ff))] s.heap.size = A at hD hR ⊢
  have hA : ∀ q : Nat, s.heap.size ≤ q → A q := fun q h => by rw [← hAe]; exact Or.inr h
  have hS : va_S A s.heap s.heap [] := va_S.rf
  have hP : va_P D vwCl [(nw, .inr (3, [.ref n1, .ref n2, .ref n3, .ref n4, .ref n5, .int (nI fd), .int ft, .int kn, .int dy])), (n4, .inl (cI, 6, .inl fs)), (n5, .inl (cI, 6, .inl ff))] s.heap := hP
  have hQ := hP
  have hl := lv_entry ([.ref nw, .int sh, .int fi]) (n := 3) (Nat.le_of_ble_eq_true rfl)
  rw [lg_entry_eq]
  generalize (lg_sl ([.ref nw, .int sh, .int fi]) ++ List.replicate (3 - (lg_sl ([.ref nw, .int sh, .int fi])).length) Slot.unset).toArray = ls at hl ⊢
  have hl : lv_has ls 3 [(0, .ref nw), (1, .int sh), (2, .int fi)] := hl
  refine lv_aload_n hx hb dX3_addFound_0 rfl (lv_at hl 0 rfl) ?_
  refine va_get (D := D) (cl := vwCl) (tys := zT cI cB cF) (ci := 3) (v := .ref n4) (C := RX3) (T := TX3) (N := 9) hx hb hts iw_X3_addFound_X3 hown hK.1 hQ 0 rfl rfl 3 (by decide) (hts _ hw_X3_addFound_1) (fun _ h9 => h9) rfl dX3_addFound_1 ?_
  refine lv_aload_n hx hb dX3_addFound_4 rfl (lv_at hl 0 rfl) ?_
  refine va_get (D := D) (cl := vwCl) (tys := zT cI cB cF) (ci := 3) (v := .int (nI fd)) (C := RX3) (T := TX3) (N := 9) hx hb hts iw_X3_addFound_X3 hown hK.1 hQ 0 rfl rfl 5 (by decide) (hts _ hw_X3_addFound_2) (fun _ h9 => h9) rfl dX3_addFound_5 ?_
  refine lv_iload_n hx hb dX3_addFound_8 rfl (lv_at hl 1 rfl) ?_
  have hFc := va_free (wc := [(n4, .inl (cI, 6, .inl fs))]) hD hS hA [1] rfl
  refine vz_cw [(nw, .inr (3, [.ref n1, .ref n2, .ref n3, .ref n4, .ref n5, .int (nI fd), .int ft, .int kn, .int dy])), (n5, .inl (cI, 6, .inl ff))] [1] [0, 2] (va_runSN (As := [.ref n4, .int (nI fd), .int sh]) (rest := []) FX (c_X8_put l D cI cB cF s.heap.size n4 6 fs (nI fd) sh (by decide)) ⟨va_cnB 3 hts gX3_addFound_X8_put_n48 rfl rfl rfl (zn_X3_48 hK.2) (hts _ hw_X3_addFound_5) hd_X8_put ⟨Nat.le_of_ble_eq_true rfl, Nat.le_of_ble_eq_true rfl⟩, (hts _ hw_X3_addFound_4), trivial⟩ (preW_S (hP.sub (ws' := [(n4, .inl (cI, 6, .inl fs))]) [1] rfl) (hD.sub (ws' := [(n4, .inl (cI, 6, .inl fs))]) [1] (by decide) rfl) hK (show vz_R D [] _ _ from vz_R.nil)) rfl rfl hl.1 rfl (lv_room (Nat.le_of_ble_eq_true rfl)) dX3_addFound_9 ⟨Nat.le_of_ble_eq_true rfl, Nat.le_of_ble_eq_true rfl⟩) hP hD hS hA rfl rfl rfl (by decide) (fun u H locs hu hP hD hS hz9 hk9 => ?_)
  have hP : va_P D vwCl [(nw, .inr (3, [.ref n1, .ref n2, .ref n3, .ref n4, .ref n5, .int (nI fd), .int ft, .int kn, .int dy])), (n5, .inl (cI, 6, .inl ff)), (n4, .inl (cI, 6, .inl (zPut fs 6 (nI fd) sh)))] H := hP
  have hD : va_D A [(nw, .inr (3, [.ref n1, .ref n2, .ref n3, .ref n4, .ref n5, .int (nI fd), .int ft, .int kn, .int dy])), (n5, .inl (cI, 6, .inl ff)), (n4, .inl (cI, 6, .inl (zPut fs 6 (nI fd) sh)))] := hD
  have hQ := hP
  show W _ _ _ _ _ _ _ _ _ _ _ _ _ _ _ (F0 m 12 ls [])
  have hP : va_P D vwCl [(nw, .inr (3, [.ref n1, .ref n2, .ref n3, .ref n4, .ref n5, .int (nI fd), .int ft, .int kn, .int dy])), (n5, .inl (cI, 6, .inl ff)), (n4, .inl (cI, 6, .inl (upd fs fd sh)))] H := vz_arr (g := upd fs fd sh) hP 2 rfl (fun j _ => by rw [zPut_nI hfd (by decide)])
  have hD : va_D A [(nw, .inr (3, [.ref n1, .ref n2, .ref n3, .ref n4, .ref n5, .int (nI fd), .int ft, .int kn, .int dy])), (n5, .inl (cI, 6, .inl ff)), (n4, .inl (cI, 6, .inl (upd fs fd sh)))] := vz_arrD hD 2 rfl
  have hQ := hP
  refine lv_aload_n hx hb dX3_addFound_12 rfl (lv_at hl 0 rfl) ?_
  refine va_get (D := D) (cl := vwCl) (tys := zT cI cB cF) (ci := 3) (v := .ref n5) (C := RX3) (T := TX3) (N := 9) hx hb hts iw_X3_addFound_X3 hown hK.1 hQ 0 rfl rfl 4 (by decide) (hts _ hw_X3_addFound_3) (fun _ h9 => h9) rfl dX3_addFound_13 ?_
  refine lv_aload_n hx hb dX3_addFound_16 rfl (lv_at hl 0 rfl) ?_
  refine va_get (D := D) (cl := vwCl) (tys := zT cI cB cF) (ci := 3) (v := .int (nI fd)) (C := RX3) (T := TX3) (N := 9) hx hb hts iw_X3_addFound_X3 hown hK.1 hQ 0 rfl rfl 5 (by decide) (hts _ hw_X3_addFound_2) (fun _ h9 => h9) rfl dX3_addFound_17 ?_
  refine lv_iload_n hx hb dX3_addFound_20 rfl (lv_at hl 2 rfl) ?_
  have hFc := va_free (wc := [(n5, .inl (cI, 6, .inl ff))]) hD hS hA [1] rfl
  refine vz_cw [(nw, .inr (3, [.ref n1, .ref n2, .ref n3, .ref n4, .ref n5, .int (nI fd), .int ft, .int kn, .int dy])), (n4, .inl (cI, 6, .inl (upd fs fd sh)))] [1] [0, 2] (va_runSN (As := [.ref n5, .int (nI fd), .int fi]) (rest := []) FX (c_X8_put l D cI cB cF H.size n5 6 ff (nI fd) fi (by decide)) ⟨va_cnB 3 hts gX3_addFound_X8_put_n48 rfl rfl rfl (zn_X3_48 hK.2) (hts _ hw_X3_addFound_5) hd_X8_put ⟨Nat.le_of_ble_eq_true rfl, Nat.le_of_ble_eq_true rfl⟩, (hts _ hw_X3_addFound_4), trivial⟩ (preW_S (hP.sub (ws' := [(n5, .inl (cI, 6, .inl ff))]) [1] rfl) (hD.sub (ws' := [(n5, .inl (cI, 6, .inl ff))]) [1] (by decide) rfl) hK (show vz_R D [] _ _ from vz_R.nil)) rfl rfl hl.1 rfl (lv_room (Nat.le_of_ble_eq_true rfl)) dX3_addFound_21 ⟨Nat.le_of_ble_eq_true rfl, Nat.le_of_ble_eq_true rfl⟩) hP hD hS hA rfl rfl rfl (by decide) (fun u H locs hu hP hD hS hz9 hk9 => ?_)
  have hP : va_P D vwCl [(nw, .inr (3, [.ref n1, .ref n2, .ref n3, .ref n4, .ref n5, .int (nI fd), .int ft, .int kn, .int dy])), (n4, .inl (cI, 6, .inl (upd fs fd sh))), (n5, .inl (cI, 6, .inl (zPut ff 6 (nI fd) fi)))] H := hP
  have hD : va_D A [(nw, .inr (3, [.ref n1, .ref n2, .ref n3, .ref n4, .ref n5, .int (nI fd), .int ft, .int kn, .int dy])), (n4, .inl (cI, 6, .inl (upd fs fd sh))), (n5, .inl (cI, 6, .inl (zPut ff 6 (nI fd) fi)))] := hD
  have hQ := hP
  show W _ _ _ _ _ _ _ _ _ _ _ _ _ _ _ (F0 m 24 ls [])
  have hP : va_P D vwCl [(nw, .inr (3, [.ref n1, .ref n2, .ref n3, .ref n4, .ref n5, .int (nI fd), .int ft, .int kn, .int dy])), (n4, .inl (cI, 6, .inl (upd fs fd sh))), (n5, .inl (cI, 6, .inl (upd ff fd fi)))] H := vz_arr (g := upd ff fd fi) hP 2 rfl (fun j _ => by rw [zPut_nI hfd (by decide)])
  have hD : va_D A [(nw, .inr (3, [.ref n1, .ref n2, .ref n3, .ref n4, .ref n5, .int (nI fd), .int ft, .int kn, .int dy])), (n4, .inl (cI, 6, .inl (upd fs fd sh))), (n5, .inl (cI, 6, .inl (upd ff fd fi)))] := vz_arrD hD 2 rfl
  have hQ := hP
  refine lv_aload_n hx hb dX3_addFound_24 rfl (lv_at hl 0 rfl) ?_
  refine lv_dup hx hb dX3_addFound_25 rfl ?_
  refine va_get (D := D) (cl := vwCl) (tys := zT cI cB cF) (ci := 3) (v := .int (nI fd)) (C := RX3) (T := TX3) (N := 9) hx hb hts iw_X3_addFound_X3 hown hK.1 hQ 0 rfl rfl 5 (by decide) (hts _ hw_X3_addFound_2) (fun _ h9 => h9) rfl dX3_addFound_26 ?_
  refine lv_iconst (v := 1) hx hb dX3_addFound_29 (by decide) ?_
  refine lv_iadd hx hb dX3_addFound_30 ?_
  refine vz_si (nI (fd + 1)) (nI_1 fd) ?_
  refine va_put (D := D) (cl := vwCl) (tys := zT cI cB cF) (ci := 3) (v := .int (nI (fd + 1))) (ty := .int) (C := RX3) (T := TX3) (N := 9) hx hb hts iw_X3_addFound_X3 tyX3 tyX3_ok nmX3 hown hK.1 hP hD hS 0 rfl rfl 5 (by decide) (hts _ hw_X3_addFound_2) (fun _ h9 => h9) rfl (tyX3_ok 5 (by decide)) (rfl) (rfl) (Nat.le_of_ble_eq_true rfl) dX3_addFound_31 (fun H locs hP hD hS => ?_)
  have hP : va_P D vwCl [(nw, .inr (3, [.ref n1, .ref n2, .ref n3, .ref n4, .ref n5, .int (nI (fd + 1)), .int ft, .int kn, .int dy])), (n4, .inl (cI, 6, .inl (upd fs fd sh))), (n5, .inl (cI, 6, .inl (upd ff fd fi)))] H := hP
  have hD : va_D A [(nw, .inr (3, [.ref n1, .ref n2, .ref n3, .ref n4, .ref n5, .int (nI (fd + 1)), .int ft, .int kn, .int dy])), (n4, .inl (cI, 6, .inl (upd fs fd sh))), (n5, .inl (cI, 6, .inl (upd ff fd fi)))] := hD
  have hQ := hP
  have hP9 := hP.sub (ws' := [(nw, .inr (3, [.ref n1, .ref n2, .ref n3, .ref n4, .ref n5, .int (nI (fd + 1)), .int ft, .int kn, .int dy])), (n4, .inl (cI, 6, .inl (upd fs fd sh))), (n5, .inl (cI, 6, .inl (upd ff fd fi)))]) [0, 1, 2] rfl
  have hD9 := hD.sub (ws' := [(nw, .inr (3, [.ref n1, .ref n2, .ref n3, .ref n4, .ref n5, .int (nI (fd + 1)), .int ft, .int kn, .int dy])), (n4, .inl (cI, 6, .inl (upd fs fd sh))), (n5, .inl (cI, 6, .inl (upd ff fd fi)))]) [0, 1, 2] (by decide) rfl
  exact W.vret hx hb hr (fun t ht hW => ⟨⟨(), rfl, trivial, by rw [ht]; exact hP9, hD9⟩, hS.F ht⟩) hS.2.2 dX3_addFound_34
set_option maxRecDepth 100000 in
theorem iw_X3_isAsFound_X3 : ∀ w ∈ u_ws RX3 TX3 9, w ∈ wsX3_isAsFound := fun w h => List.mem_cons_of_mem _ (List.mem_append_right _ h)
set_option maxRecDepth 100000 in
theorem hw_X3_isAsFound_1 : (.fieldLink RX3 31 "RotaFathers$Lived" "foundCount" "I" : Cond) ∈ wsX3_isAsFound := List.mem_of_getElem? (i := 1) rfl
set_option maxRecDepth 100000 in
theorem hw_X3_isAsFound_2 : (.fieldLink RX3 21 "RotaFathers$Lived" "foundShifts" "[I" : Cond) ∈ wsX3_isAsFound := List.mem_of_getElem? (i := 2) rfl
set_option maxRecDepth 100000 in
theorem hw_X3_isAsFound_5 : (.initialized RX8 : Cond) ∈ wsX3_isAsFound := List.mem_of_getElem? (i := 5) rfl
set_option maxRecDepth 100000 in
theorem hw_X3_isAsFound_4 : (.static yX8_at : Cond) ∈ wsX3_isAsFound := List.mem_of_getElem? (i := 4) rfl
set_option maxRecDepth 100000 in
theorem hw_X3_isAsFound_3 : (.fieldLink RX3 24 "RotaFathers$Lived" "foundFits" "[I" : Cond) ∈ wsX3_isAsFound := List.mem_of_getElem? (i := 3) rfl
set_option maxRecDepth 100000 in
theorem hd_X3_isAsFound : yX3_isAsFound.cls ≠ "java/lang/invoke/MethodHandle" ∧ yX3_isAsFound.cls ≠ "java/lang/invoke/VarHandle" ∧ (parseMethodDescriptor yX3_isAsFound.desc).map (fun d => d.parameters.length) = some 1 := by decide +kernel
set_option maxHeartbeats 4000000 in
set_option maxRecDepth 100000 in
theorem c_X3_isAsFound (l : Launch) (D : va_G) (cI cB cF : ClassId) (nw : Nat) (n1 : Nat) (n2 : Nat) (n3 : Nat) (n4 : Nat) (n5 : Nat) (fd : Nat) (ft : Int32) (kn : Int32) (dy : Int32) (fs : Nat → Int32) (ff : Nat → Int32) (da : Nat) (d : Nat → Int32) (hfd : fd ≤ 6) : Met l yX3_isAsFound wsX3_isAsFound ({ frames := 1, cells := 0, slots := 0, locals := 21 } : Room) (PcP D cI cB cF [.ref nw, .ref da] [(nw, .inr (3, [.ref n1, .ref n2, .ref n3, .ref n4, .ref n5, .int (nI fd), .int ft, .int kn, .int dy])), (n4, .inl (cI, 6, .inl fs)), (n5, .inl (cI, 6, .inl ff)), (da, .inl (cI, 9, .inl d))]) (QcV (.int (zb (zOk d fs ff fd)))) 0 0 (fun _ => False) := by
  refine Met.ofW (cc := cX3_isAsFound) (maxL := 3) (ret := (some .boolean)) (by decide) rfl ?_
  intro p e s m args below meth c s₁ Bd hml hv
  rw [show (headSpec wsX3_isAsFound ({ frames := 1, cells := 0, slots := 0, locals := 21 } : Room)).room = ({ frames := 1, cells := 0, slots := 0, locals := 21 } : Room) from rfl]
  obtain ⟨rfl, hQ, hK⟩ := hv
  have hx := Bd.exec
  have hb := Bd.bytes
  have hr := Bd.returns
  have hts := atoms_spec (ws := wsX3_isAsFound) Bd.pre
  have hown : s.vm.findClass RX3 = some m.cls := findClass_of_methodNamed Bd.named
  have hlocks := Bd.notSynchronized
  have FX : CallFix p m c cX3_isAsFound 3 s _ wsX3_isAsFound RX3 := ⟨hx, hb, hml, hown, hts⟩
  have hQ : va_P D vwCl [(nw, .inr (3, [.ref n1, .ref n2, .ref n3, .ref n4, .ref n5, .int (nI fd), .int ft, .int kn, .int dy])), (n4, .inl (cI, 6, .inl fs)), (n5, .inl (cI, 6, .inl ff)), (da, .inl (cI, 9, .inl d))] s.heap := hQ
  have hl := lv_entry ([.ref nw, .ref da]) (n := 3) (Nat.le_of_ble_eq_true rfl)
  rw [lg_entry_eq]
  generalize (lg_sl ([.ref nw, .ref da]) ++ List.replicate (3 - (lg_sl ([.ref nw, .ref da])).length) Slot.unset).toArray = ls at hl ⊢
  have hl : lv_has ls 3 [(0, .ref nw), (1, .ref da)] := hl
  refine lv_iconst (v := 0) hx hb dX3_isAsFound_0 (by decide) ?_
  refine lv_istore_n (lv' := [(2, .int 0), (0, .ref nw), (1, .ref da)]) hx hb dX3_isAsFound_1 rfl hl (by decide) rfl (fun ls hl => ?_)
  refine vz_loopP (nL := 3) (σ := Nat) (fun xx => fd - xx) (fun xx => (xx ≤ fd) ∧ (zOk d fs ff xx = true)) (fun xx => [(0, .ref nw), (1, .ref da), (2, .int (nI xx))]) (fun xx => []) ?_ 0 ⟨Nat.zero_le _, rfl⟩ (lv_sub hl [1, 2, 0] rfl)
  rintro k hI ih_2 ls hl
  obtain ⟨hk, hg⟩ := hI
  have hk : k ≤ fd := hk
  have hg : zOk d fs ff k = true := hg
  have hl : lv_has ls 3 [(0, .ref nw), (1, .ref da), (2, .int (nI k))] := hl
  show W _ _ _ _ _ _ _ _ _ _ _ _ _ _ _ (F0 m 2 ls [])
  refine lv_iload_n hx hb dX3_isAsFound_2 rfl (lv_at hl 2 rfl) ?_
  refine lv_aload_n hx hb dX3_isAsFound_3 rfl (lv_at hl 0 rfl) ?_
  refine va_get (D := D) (cl := vwCl) (tys := zT cI cB cF) (ci := 3) (v := .int (nI fd)) (C := RX3) (T := TX3) (N := 9) hx hb hts iw_X3_isAsFound_X3 hown hK.1 hQ 0 rfl rfl 5 (by decide) (hts _ hw_X3_isAsFound_1) (fun _ h9 => h9) rfl dX3_isAsFound_4 ?_
  refine lv_icmp_ge (tgt := 41) hx hb dX3_isAsFound_7 (by decide) (fun c_7 => ?_) (fun c_7 => ?_)
  · have hge_7 : fd ≤ k := (nI_zle (a := fd) (b := k) (by omega) (by omega)).mp c_7
    refine lv_iconst (v := 1) hx hb dX3_isAsFound_41 (by decide) ?_
    refine vz_si (zb (zOk d fs ff fd)) (by rw [show fd = k by omega, hg]; rfl) ?_
    exact W.zret hx hb hr (zb_nar _) (fun t ht hW => ⟨rfl, ht⟩) (fun q h => by cases h) dX3_isAsFound_42
  · have hlt_7 : k < fd := Nat.lt_of_not_le fun q => c_7 ((nI_zle (a := fd) (b := k) (by omega) (by omega)).mpr q)
    refine lv_aload_n hx hb dX3_isAsFound_10 rfl (lv_at hl 1 rfl) ?_
    refine lv_aload_n hx hb dX3_isAsFound_11 rfl (lv_at hl 0 rfl) ?_
    refine va_get (D := D) (cl := vwCl) (tys := zT cI cB cF) (ci := 3) (v := .ref n4) (C := RX3) (T := TX3) (N := 9) hx hb hts iw_X3_isAsFound_X3 hown hK.1 hQ 0 rfl rfl 3 (by decide) (hts _ hw_X3_isAsFound_2) (fun _ h9 => h9) rfl dX3_isAsFound_12 ?_
    refine lv_iload_n hx hb dX3_isAsFound_15 rfl (lv_at hl 2 rfl) ?_
    refine vz_rd (va_runSN (As := [.ref n4, .int (nI k)]) (rest := [.ref da]) FX (c_X8_at l D cI cB cF n4 6 fs (nI k) (by decide)) ⟨va_cnB 2 hts gX3_isAsFound_X8_at_n52 rfl rfl rfl (zn_X3_52 hK.2) (hts _ hw_X3_isAsFound_5) hd_X8_at ⟨Nat.le_of_ble_eq_true rfl, Nat.le_of_ble_eq_true rfl⟩, (hts _ hw_X3_isAsFound_4), trivial⟩ (preP_S (hQ.sub (ws' := [(n4, .inl (cI, 6, .inl fs))]) [1] rfl) hK) rfl rfl hl.1 rfl (lv_room (Nat.le_of_ble_eq_true rfl)) dX3_isAsFound_16 ⟨Nat.le_of_ble_eq_true rfl, Nat.le_of_ble_eq_true rfl⟩) ?_
    refine vz_si (fs k) (zAt_nI (by omega) (by decide)) ?_
    refine vz_rd (va_runSN (As := [.ref da, .int (fs k)]) (rest := []) FX (c_X8_at l D cI cB cF da 9 d (fs k) (by decide)) ⟨va_cnB 2 hts gX3_isAsFound_X8_at_n52 rfl rfl rfl (zn_X3_52 hK.2) (hts _ hw_X3_isAsFound_5) hd_X8_at ⟨Nat.le_of_ble_eq_true rfl, Nat.le_of_ble_eq_true rfl⟩, (hts _ hw_X3_isAsFound_4), trivial⟩ (preP_S (hQ.sub (ws' := [(da, .inl (cI, 9, .inl d))]) [3] rfl) hK) rfl rfl hl.1 rfl (lv_room (Nat.le_of_ble_eq_true rfl)) dX3_isAsFound_19 ⟨Nat.le_of_ble_eq_true rfl, Nat.le_of_ble_eq_true rfl⟩) ?_
    refine lv_aload_n hx hb dX3_isAsFound_22 rfl (lv_at hl 0 rfl) ?_
    refine va_get (D := D) (cl := vwCl) (tys := zT cI cB cF) (ci := 3) (v := .ref n5) (C := RX3) (T := TX3) (N := 9) hx hb hts iw_X3_isAsFound_X3 hown hK.1 hQ 0 rfl rfl 4 (by decide) (hts _ hw_X3_isAsFound_3) (fun _ h9 => h9) rfl dX3_isAsFound_23 ?_
    refine lv_iload_n hx hb dX3_isAsFound_26 rfl (lv_at hl 2 rfl) ?_
    refine vz_rd (va_runSN (As := [.ref n5, .int (nI k)]) (rest := [.int (zAt d 9 (fs k))]) FX (c_X8_at l D cI cB cF n5 6 ff (nI k) (by decide)) ⟨va_cnB 2 hts gX3_isAsFound_X8_at_n52 rfl rfl rfl (zn_X3_52 hK.2) (hts _ hw_X3_isAsFound_5) hd_X8_at ⟨Nat.le_of_ble_eq_true rfl, Nat.le_of_ble_eq_true rfl⟩, (hts _ hw_X3_isAsFound_4), trivial⟩ (preP_S (hQ.sub (ws' := [(n5, .inl (cI, 6, .inl ff))]) [2] rfl) hK) rfl rfl hl.1 rfl (lv_room (Nat.le_of_ble_eq_true rfl)) dX3_isAsFound_27 ⟨Nat.le_of_ble_eq_true rfl, Nat.le_of_ble_eq_true rfl⟩) ?_
    refine vz_si (ff k) (zAt_nI (by omega) (by decide)) ?_
    refine lv_icmp_eq (tgt := 35) hx hb dX3_isAsFound_30 (by decide) (fun c_30 => ?_) (fun c_30 => ?_)
    · refine lv_iinc (v := (nI (k + 1))) (lv' := [(2, .int (nI (k + 1))), (0, .ref nw), (1, .ref da)]) hx hb dX3_isAsFound_35 hl (k := 2) rfl ((nI_succ k).symm) (by decide) rfl (fun ls hl => ?_)
      refine lv_goto (tgt := 2) hx hb dX3_isAsFound_38 (by decide) ?_
      exact ih_2 (k + 1) (by (try dsimp only); omega) ⟨hlt_7, zOk_true hg c_30⟩ ls (lv_sub hl [1, 2, 0] rfl)
    · refine lv_iconst (v := 0) hx hb dX3_isAsFound_33 (by decide) ?_
      refine vz_si (zb (zOk d fs ff fd)) ((zb_0 (zOk_false c_30 fd hlt_7)).symm) ?_
      exact W.zret hx hb hr (zb_nar _) (fun t ht hW => ⟨rfl, ht⟩) (fun q h => by cases h) dX3_isAsFound_34
