set_option maxRecDepth 100000 in
theorem iw_X9_passDay_X9 : ∀ w ∈ u_ws RX9 TX9 41, w ∈ wsX9_passDay := fun w h => List.mem_cons_of_mem _ (List.mem_append_right _ h)
set_option maxRecDepth 100000 in
theorem hw_X9_passDay_1 : (.fieldLink RX9 118 "RotaFathersModel" "nowFit" "I" : Cond) ∈ wsX9_passDay := List.mem_of_getElem? (i := 1) rfl
set_option maxRecDepth 100000 in
theorem hw_X9_passDay_2 : (.fieldLink RX9 124 "RotaFathersModel" "nowKnows" "I" : Cond) ∈ wsX9_passDay := List.mem_of_getElem? (i := 2) rfl
set_option maxRecDepth 100000 in
theorem hw_X9_passDay_3 : (.fieldLink RX9 134 "RotaFathersModel" "fallsIn" "I" : Cond) ∈ wsX9_passDay := List.mem_of_getElem? (i := 3) rfl
set_option maxRecDepth 100000 in
theorem hw_X9_passDay_6 : (.fieldLink RX9 38 "RotaFathersModel" "fitAhead" "[I" : Cond) ∈ wsX9_passDay := List.mem_of_getElem? (i := 6) rfl
set_option maxRecDepth 100000 in
theorem hw_X9_passDay_4 : (.fieldLink RX9 44 "RotaFathersModel" "gainOf" "[I" : Cond) ∈ wsX9_passDay := List.mem_of_getElem? (i := 4) rfl
set_option maxRecDepth 100000 in
theorem hw_X9_passDay_5 : (.fieldLink RX9 47 "RotaFathersModel" "fallOf" "[I" : Cond) ∈ wsX9_passDay := List.mem_of_getElem? (i := 5) rfl
set_option maxRecDepth 100000 in
theorem hd_X9_passDay : yX9_passDay.cls ≠ "java/lang/invoke/MethodHandle" ∧ yX9_passDay.cls ≠ "java/lang/invoke/VarHandle" ∧ (parseMethodDescriptor yX9_passDay.desc).map (fun d => d.parameters.length) = some 2 := by decide +kernel
set_option maxHeartbeats 4000000 in
set_option maxRecDepth 100000 in
theorem c_X9_passDay (l : Launch) (D : va_G) (cI cB cF : ClassId) (sz : Nat) (M : Nat → Nat) (ca : Int32) (nn : Int32) (dy : Int32) (fd : Int32) (ak : Int32) (pl : Int32) (iw : Int32) (nm : Int32) (fi : Int32) (nf : Int32) (nk : Int32) (sd : Int64) (ik : Int32) (kc : Int32) (kf : Int32) (kk : Int32) (kd : Int32) (ko : Int32) (hh : Int64) (ft0 : Int32) (kn0 : Int32) (g1 : Nat → Int32) (g2 : Nat → Int32) (ga : Nat → Int32) (fb : Nat → Int32) (F : zF) (r : Nat → Int32) (n : Nat) (ft : Int32) (kn : Int32) (hn : n ≤ 4) (hF : zFo n F) (hro : zRo n r) (hkn : zKb kn) : Met l yX9_passDay wsX9_passDay ({ frames := 2, cells := 0, slots := 0, locals := 46 } : Room) (PcW D cI cB cF [.ref (M 0), .int ft, .int kn] sz [(M 0, mO M ca nn ft0 kn0 dy fd ak pl iw nm fi nf nk sd ik kc kf kk kd ko hh), (M 19, .inl (cI, 9, .inl g1)), (M 20, .inl (cI, 8, .inl g2)), (M 21, .inl (cI, 4, .inl ga)), (M 22, .inl (cI, 4, .inl fb))] [(M 2, .inl (cI, 4, .inl (fun f => nI (F.1 f)))), (M 3, .inl (cI, 4, .inl F.2.1)), (M 4, .inl (cI, 4, .inl F.2.2)), (M 7, .inl (cI, 8, .inl r))]) (Qw D (S := Unit) (fun xx => none) (fun xx => True) (fun xx => [(M 0, mO M ca nn ft0 kn0 dy fd ak pl iw nm (zFb F r ft kn 8) (zDf F r ft kn 8) (zDk F r ft kn 8) sd ik kc kf kk kd ko hh), (M 19, .inl (cI, 9, .inl (zDf F r ft kn))), (M 20, .inl (cI, 8, .inl (zDh F r ft kn))), (M 21, .inl (cI, 4, .inl (fun f => zGs (zDg F r ft kn) r (nI f) 8))), (M 22, .inl (cI, 4, .inl (fun f => zGs (zDe F r ft kn) r (nI f) 8)))]) (va_A [(M 0, mO M ca nn ft0 kn0 dy fd ak pl iw nm fi nf nk sd ik kc kf kk kd ko hh), (M 19, .inl (cI, 9, .inl g1)), (M 20, .inl (cI, 8, .inl g2)), (M 21, .inl (cI, 4, .inl ga)), (M 22, .inl (cI, 4, .inl fb))] sz)) 0 0 (va_A [(M 0, mO M ca nn ft0 kn0 dy fd ak pl iw nm fi nf nk sd ik kc kf kk kd ko hh), (M 19, .inl (cI, 9, .inl g1)), (M 20, .inl (cI, 8, .inl g2)), (M 21, .inl (cI, 4, .inl ga)), (M 22, .inl (cI, 4, .inl fb))] sz) := by
  refine Met.ofW (cc := cX9_passDay) (maxL := 4) (ret := none) (by decide) rfl ?_
  intro p e s m args below meth c s₁ Bd hml hv
  rw [show (headSpec wsX9_passDay ({ frames := 2, cells := 0, slots := 0, locals := 46 } : Room)).room = ({ frames := 2, cells := 0, slots := 0, locals := 46 } : Room) from rfl]
  obtain ⟨rfl, hsz, hP, hK, hD0, hR⟩ := hv
  have hx := Bd.exec
  have hb := Bd.bytes
  have hr := Bd.returns
  have hts := atoms_spec (ws := wsX9_passDay) Bd.pre
  have hown : s.vm.findClass RX9 = some m.cls := findClass_of_methodNamed Bd.named
  have hlocks := Bd.notSynchronized
  have FX : CallFix p m c cX9_passDay 4 s _ wsX9_passDay RX9 := ⟨hx, hb, hml, hown, hts⟩
  subst hsz
  have hD := hD0.self (sz := s.heap.size)
  generalize hAe : va_A [(M 0, mO M ca nn ft0 kn0 dy fd ak pl iw nm fi nf nk sd ik kc kf kk kd ko hh), (M 19, .inl (cI, 9, .inl g1)), (M 20, .inl (cI, 8, .inl g2)), (M 21, .inl (cI, 4, .inl ga)), (M 22, .inl (cI, 4, .inl fb))] s.heap.size = A at hD hR ⊢
  have hA : ∀ q : Nat, s.heap.size ≤ q → A q := fun q h => by rw [← hAe]; exact Or.inr h
  have hS : va_S A s.heap s.heap [] := va_S.rf
  have hP : va_P D vwCl [(M 0, mO M ca nn ft0 kn0 dy fd ak pl iw nm fi nf nk sd ik kc kf kk kd ko hh), (M 19, .inl (cI, 9, .inl g1)), (M 20, .inl (cI, 8, .inl g2)), (M 21, .inl (cI, 4, .inl ga)), (M 22, .inl (cI, 4, .inl fb))] s.heap := hP
  have hQ : va_P D vwCl ([(M 0, mO M ca nn ft0 kn0 dy fd ak pl iw nm fi nf nk sd ik kc kf kk kd ko hh), (M 19, .inl (cI, 9, .inl g1)), (M 20, .inl (cI, 8, .inl g2)), (M 21, .inl (cI, 4, .inl ga)), (M 22, .inl (cI, 4, .inl fb))] ++ [(M 2, .inl (cI, 4, .inl (fun f => nI (F.1 f)))), (M 3, .inl (cI, 4, .inl F.2.1)), (M 4, .inl (cI, 4, .inl F.2.2)), (M 7, .inl (cI, 8, .inl r))]) s.heap := va_P.app hP (hR.at hS).P
  have hl := lv_entry ([.ref (M 0), .int ft, .int kn]) (n := 4) (Nat.le_of_ble_eq_true rfl)
  rw [lg_entry_eq]
  generalize (lg_sl ([.ref (M 0), .int ft, .int kn]) ++ List.replicate (4 - (lg_sl ([.ref (M 0), .int ft, .int kn])).length) Slot.unset).toArray = ls at hl ⊢
  have hl : lv_has ls 4 [(0, .ref (M 0)), (1, .int ft), (2, .int kn)] := hl
  refine lv_aload_n hx hb dX9_passDay_0 rfl (lv_at hl 0 rfl) ?_
  refine lv_iload_n hx hb dX9_passDay_1 rfl (lv_at hl 1 rfl) ?_
  refine va_put (D := D) (cl := vwCl) (tys := zT cI cB cF) (ci := 9) (v := .int ft) (ty := .int) (C := RX9) (T := TX9) (N := 41) hx hb hts iw_X9_passDay_X9 tyX9 tyX9_ok nmX9 hown hK.1 hP hD hS 0 rfl rfl 24 (by decide) (hts _ hw_X9_passDay_1) (fun _ h9 => h9) rfl (tyX9_ok 24 (by decide)) (rfl) (rfl) (Nat.le_of_ble_eq_true rfl) dX9_passDay_2 (fun H locs hP hD hS => ?_)
  have hP : va_P D vwCl [(M 0, mO M ca nn ft0 kn0 dy fd ak pl iw nm fi ft nk sd ik kc kf kk kd ko hh), (M 19, .inl (cI, 9, .inl g1)), (M 20, .inl (cI, 8, .inl g2)), (M 21, .inl (cI, 4, .inl ga)), (M 22, .inl (cI, 4, .inl fb))] H := hP
  have hD : va_D A [(M 0, mO M ca nn ft0 kn0 dy fd ak pl iw nm fi ft nk sd ik kc kf kk kd ko hh), (M 19, .inl (cI, 9, .inl g1)), (M 20, .inl (cI, 8, .inl g2)), (M 21, .inl (cI, 4, .inl ga)), (M 22, .inl (cI, 4, .inl fb))] := hD
  have hQ : va_P D vwCl ([(M 0, mO M ca nn ft0 kn0 dy fd ak pl iw nm fi ft nk sd ik kc kf kk kd ko hh), (M 19, .inl (cI, 9, .inl g1)), (M 20, .inl (cI, 8, .inl g2)), (M 21, .inl (cI, 4, .inl ga)), (M 22, .inl (cI, 4, .inl fb))] ++ [(M 2, .inl (cI, 4, .inl (fun f => nI (F.1 f)))), (M 3, .inl (cI, 4, .inl F.2.1)), (M 4, .inl (cI, 4, .inl F.2.2)), (M 7, .inl (cI, 8, .inl r))]) H := va_P.app hP (hR.at hS).P
  refine lv_aload_n hx hb dX9_passDay_5 rfl (lv_at hl 0 rfl) ?_
  refine lv_iload_n hx hb dX9_passDay_6 rfl (lv_at hl 2 rfl) ?_
  refine va_put (D := D) (cl := vwCl) (tys := zT cI cB cF) (ci := 9) (v := .int kn) (ty := .int) (C := RX9) (T := TX9) (N := 41) hx hb hts iw_X9_passDay_X9 tyX9 tyX9_ok nmX9 hown hK.1 hP hD hS 0 rfl rfl 25 (by decide) (hts _ hw_X9_passDay_2) (fun _ h9 => h9) rfl (tyX9_ok 25 (by decide)) (rfl) (rfl) (Nat.le_of_ble_eq_true rfl) dX9_passDay_7 (fun H locs hP hD hS => ?_)
  have hP : va_P D vwCl [(M 0, mO M ca nn ft0 kn0 dy fd ak pl iw nm fi ft kn sd ik kc kf kk kd ko hh), (M 19, .inl (cI, 9, .inl g1)), (M 20, .inl (cI, 8, .inl g2)), (M 21, .inl (cI, 4, .inl ga)), (M 22, .inl (cI, 4, .inl fb))] H := hP
  have hD : va_D A [(M 0, mO M ca nn ft0 kn0 dy fd ak pl iw nm fi ft kn sd ik kc kf kk kd ko hh), (M 19, .inl (cI, 9, .inl g1)), (M 20, .inl (cI, 8, .inl g2)), (M 21, .inl (cI, 4, .inl ga)), (M 22, .inl (cI, 4, .inl fb))] := hD
  have hQ : va_P D vwCl ([(M 0, mO M ca nn ft0 kn0 dy fd ak pl iw nm fi ft kn sd ik kc kf kk kd ko hh), (M 19, .inl (cI, 9, .inl g1)), (M 20, .inl (cI, 8, .inl g2)), (M 21, .inl (cI, 4, .inl ga)), (M 22, .inl (cI, 4, .inl fb))] ++ [(M 2, .inl (cI, 4, .inl (fun f => nI (F.1 f)))), (M 3, .inl (cI, 4, .inl F.2.1)), (M 4, .inl (cI, 4, .inl F.2.2)), (M 7, .inl (cI, 8, .inl r))]) H := va_P.app hP (hR.at hS).P
  refine lv_aload_n hx hb dX9_passDay_10 rfl (lv_at hl 0 rfl) ?_
  refine lv_iconst (v := 0) hx hb dX9_passDay_11 (by decide) ?_
  refine va_put (D := D) (cl := vwCl) (tys := zT cI cB cF) (ci := 9) (v := .int 0) (ty := .int) (C := RX9) (T := TX9) (N := 41) hx hb hts iw_X9_passDay_X9 tyX9 tyX9_ok nmX9 hown hK.1 hP hD hS 0 rfl rfl 23 (by decide) (hts _ hw_X9_passDay_3) (fun _ h9 => h9) rfl (tyX9_ok 23 (by decide)) (rfl) (rfl) (Nat.le_of_ble_eq_true rfl) dX9_passDay_12 (fun H locs hP hD hS => ?_)
  have hP : va_P D vwCl [(M 0, mO M ca nn ft0 kn0 dy fd ak pl iw nm 0 ft kn sd ik kc kf kk kd ko hh), (M 19, .inl (cI, 9, .inl g1)), (M 20, .inl (cI, 8, .inl g2)), (M 21, .inl (cI, 4, .inl ga)), (M 22, .inl (cI, 4, .inl fb))] H := hP
  have hD : va_D A [(M 0, mO M ca nn ft0 kn0 dy fd ak pl iw nm 0 ft kn sd ik kc kf kk kd ko hh), (M 19, .inl (cI, 9, .inl g1)), (M 20, .inl (cI, 8, .inl g2)), (M 21, .inl (cI, 4, .inl ga)), (M 22, .inl (cI, 4, .inl fb))] := hD
  have hQ : va_P D vwCl ([(M 0, mO M ca nn ft0 kn0 dy fd ak pl iw nm 0 ft kn sd ik kc kf kk kd ko hh), (M 19, .inl (cI, 9, .inl g1)), (M 20, .inl (cI, 8, .inl g2)), (M 21, .inl (cI, 4, .inl ga)), (M 22, .inl (cI, 4, .inl fb))] ++ [(M 2, .inl (cI, 4, .inl (fun f => nI (F.1 f)))), (M 3, .inl (cI, 4, .inl F.2.1)), (M 4, .inl (cI, 4, .inl F.2.2)), (M 7, .inl (cI, 8, .inl r))]) H := va_P.app hP (hR.at hS).P
  refine lv_iconst (v := 0) hx hb dX9_passDay_15 (by decide) ?_
  refine lv_istore_n (lv' := [(3, .int 0), (0, .ref (M 0)), (1, .int ft), (2, .int kn)]) hx hb dX9_passDay_16 rfl hl (by decide) rfl (fun ls hl => ?_)
  refine vz_loop (D := D) (A := A) (H0 := s.heap) (nL := 4) (σ := Nat × (Nat → Int32) × (Nat → Int32)) (fun xx => 4 - xx.1) (fun xx => (xx.1 ≤ 4) ∧ (∀ j, j < xx.1 → xx.2.1 j = 0) ∧ (∀ j, j < xx.1 → xx.2.2 j = 0)) (fun xx => [(M 0, mO M ca nn ft0 kn0 dy fd ak pl iw nm 0 ft kn sd ik kc kf kk kd ko hh), (M 19, .inl (cI, 9, .inl g1)), (M 20, .inl (cI, 8, .inl g2)), (M 21, .inl (cI, 4, .inl xx.2.1)), (M 22, .inl (cI, 4, .inl xx.2.2))]) (fun xx => [(0, .ref (M 0)), (3, .int (nI xx.1))]) (fun xx => []) ?_ (0, ga, fb) ⟨Nat.zero_le _, fun j h => absurd h (Nat.not_lt_zero _), fun j h => absurd h (Nat.not_lt_zero _)⟩ (hP.sub [0, 1, 2, 3, 4] rfl) (hD.sub [0, 1, 2, 3, 4] (by decide) rfl) hS (lv_sub hl [1, 0] rfl)
  rintro ⟨k, u1, u2⟩ hI ih_17 H locs ls hP hD hS hl
  obtain ⟨hk, h1, h2⟩ := hI
  have hk : k ≤ 4 := hk
  have h1 : ∀ j, j < k → u1 j = 0 := h1
  have h2 : ∀ j, j < k → u2 j = 0 := h2
  have hP : va_P D vwCl [(M 0, mO M ca nn ft0 kn0 dy fd ak pl iw nm 0 ft kn sd ik kc kf kk kd ko hh), (M 19, .inl (cI, 9, .inl g1)), (M 20, .inl (cI, 8, .inl g2)), (M 21, .inl (cI, 4, .inl u1)), (M 22, .inl (cI, 4, .inl u2))] H := hP
  have hD : va_D A [(M 0, mO M ca nn ft0 kn0 dy fd ak pl iw nm 0 ft kn sd ik kc kf kk kd ko hh), (M 19, .inl (cI, 9, .inl g1)), (M 20, .inl (cI, 8, .inl g2)), (M 21, .inl (cI, 4, .inl u1)), (M 22, .inl (cI, 4, .inl u2))] := hD
  have hQ : va_P D vwCl ([(M 0, mO M ca nn ft0 kn0 dy fd ak pl iw nm 0 ft kn sd ik kc kf kk kd ko hh), (M 19, .inl (cI, 9, .inl g1)), (M 20, .inl (cI, 8, .inl g2)), (M 21, .inl (cI, 4, .inl u1)), (M 22, .inl (cI, 4, .inl u2))] ++ [(M 2, .inl (cI, 4, .inl (fun f => nI (F.1 f)))), (M 3, .inl (cI, 4, .inl F.2.1)), (M 4, .inl (cI, 4, .inl F.2.2)), (M 7, .inl (cI, 8, .inl r))]) H := va_P.app hP (hR.at hS).P
  have hl : lv_has ls 4 [(0, .ref (M 0)), (3, .int (nI k))] := hl
  show W _ _ _ _ _ _ _ _ _ _ _ _ _ _ _ (F0 m 17 ls [])
  refine lv_iload_n hx hb dX9_passDay_17 rfl (lv_at hl 1 rfl) ?_
  refine lv_iconst (v := 4) hx hb dX9_passDay_18 (by decide) ?_
  refine lv_icmp_ge (tgt := 42) hx hb dX9_passDay_19 (by decide) (fun c_19 => ?_) (fun c_19 => ?_)
  · have hge_19 : 4 ≤ k := (nI_zle (a := 4) (b := k) (by omega) (by omega)).mp c_19
    have hP : va_P D vwCl [(M 0, mO M ca nn ft0 kn0 dy fd ak pl iw nm 0 ft kn sd ik kc kf kk kd ko hh), (M 19, .inl (cI, 9, .inl g1)), (M 20, .inl (cI, 8, .inl g2)), (M 21, .inl (cI, 4, .inl (fun _ => 0))), (M 22, .inl (cI, 4, .inl u2))] H := vz_arr (g := fun _ => 0) hP 3 rfl (fun j hj => h1 j (by omega))
    have hD : va_D A [(M 0, mO M ca nn ft0 kn0 dy fd ak pl iw nm 0 ft kn sd ik kc kf kk kd ko hh), (M 19, .inl (cI, 9, .inl g1)), (M 20, .inl (cI, 8, .inl g2)), (M 21, .inl (cI, 4, .inl (fun _ => 0))), (M 22, .inl (cI, 4, .inl u2))] := vz_arrD hD 3 rfl
    have hQ : va_P D vwCl ([(M 0, mO M ca nn ft0 kn0 dy fd ak pl iw nm 0 ft kn sd ik kc kf kk kd ko hh), (M 19, .inl (cI, 9, .inl g1)), (M 20, .inl (cI, 8, .inl g2)), (M 21, .inl (cI, 4, .inl (fun _ => 0))), (M 22, .inl (cI, 4, .inl u2))] ++ [(M 2, .inl (cI, 4, .inl (fun f => nI (F.1 f)))), (M 3, .inl (cI, 4, .inl F.2.1)), (M 4, .inl (cI, 4, .inl F.2.2)), (M 7, .inl (cI, 8, .inl r))]) H := va_P.app hP (hR.at hS).P
    have hP : va_P D vwCl [(M 0, mO M ca nn ft0 kn0 dy fd ak pl iw nm 0 ft kn sd ik kc kf kk kd ko hh), (M 19, .inl (cI, 9, .inl g1)), (M 20, .inl (cI, 8, .inl g2)), (M 21, .inl (cI, 4, .inl (fun _ => 0))), (M 22, .inl (cI, 4, .inl (fun _ => 0)))] H := vz_arr (g := fun _ => 0) hP 4 rfl (fun j hj => h2 j (by omega))
    have hD : va_D A [(M 0, mO M ca nn ft0 kn0 dy fd ak pl iw nm 0 ft kn sd ik kc kf kk kd ko hh), (M 19, .inl (cI, 9, .inl g1)), (M 20, .inl (cI, 8, .inl g2)), (M 21, .inl (cI, 4, .inl (fun _ => 0))), (M 22, .inl (cI, 4, .inl (fun _ => 0)))] := vz_arrD hD 4 rfl
    have hQ : va_P D vwCl ([(M 0, mO M ca nn ft0 kn0 dy fd ak pl iw nm 0 ft kn sd ik kc kf kk kd ko hh), (M 19, .inl (cI, 9, .inl g1)), (M 20, .inl (cI, 8, .inl g2)), (M 21, .inl (cI, 4, .inl (fun _ => 0))), (M 22, .inl (cI, 4, .inl (fun _ => 0)))] ++ [(M 2, .inl (cI, 4, .inl (fun f => nI (F.1 f)))), (M 3, .inl (cI, 4, .inl F.2.1)), (M 4, .inl (cI, 4, .inl F.2.2)), (M 7, .inl (cI, 8, .inl r))]) H := va_P.app hP (hR.at hS).P
    refine lv_iconst (v := 0) hx hb dX9_passDay_42 (by decide) ?_
    refine lv_istore_n (lv' := [(3, .int 0), (0, .ref (M 0))]) hx hb dX9_passDay_43 rfl hl (by decide) rfl (fun ls hl => ?_)
    refine vz_loop (D := D) (A := A) (H0 := s.heap) (nL := 4) (σ := Nat × (Nat → Int32) × (Nat → Int32)) (fun xx => 8 - xx.1) (fun xx => (xx.1 ≤ 8) ∧ (∀ j, j < xx.1 → xx.2.1 j = zDf F r ft kn j) ∧ (∀ j, j < xx.1 → xx.2.2 j = zDh F r ft kn j)) (fun xx => [(M 0, mO M ca nn ft0 kn0 dy fd ak pl iw nm (zFb F r ft kn xx.1) (zDf F r ft kn xx.1) (zDk F r ft kn xx.1) sd ik kc kf kk kd ko hh), (M 19, .inl (cI, 9, .inl xx.2.1)), (M 20, .inl (cI, 8, .inl xx.2.2)), (M 21, .inl (cI, 4, .inl (fun f => zGs (zDg F r ft kn) r (nI f) xx.1))), (M 22, .inl (cI, 4, .inl (fun f => zGs (zDe F r ft kn) r (nI f) xx.1)))]) (fun xx => [(0, .ref (M 0)), (3, .int (nI xx.1))]) (fun xx => []) ?_ (0, g1, g2) ⟨Nat.zero_le _, fun j h => absurd h (Nat.not_lt_zero _), fun j h => absurd h (Nat.not_lt_zero _)⟩ (hP.sub [0, 1, 2, 3, 4] rfl) (hD.sub [0, 1, 2, 3, 4] (by decide) rfl) hS (lv_sub hl [1, 0] rfl)
    rintro ⟨k, u1, u2⟩ hI ih_44 H locs ls hP hD hS hl
    obtain ⟨hk, h1, h2⟩ := hI
    have hk : k ≤ 8 := hk
    have h1 : ∀ j, j < k → u1 j = zDf F r ft kn j := h1
    have h2 : ∀ j, j < k → u2 j = zDh F r ft kn j := h2
    have hP : va_P D vwCl [(M 0, mO M ca nn ft0 kn0 dy fd ak pl iw nm (zFb F r ft kn k) (zDf F r ft kn k) (zDk F r ft kn k) sd ik kc kf kk kd ko hh), (M 19, .inl (cI, 9, .inl u1)), (M 20, .inl (cI, 8, .inl u2)), (M 21, .inl (cI, 4, .inl (fun f => zGs (zDg F r ft kn) r (nI f) k))), (M 22, .inl (cI, 4, .inl (fun f => zGs (zDe F r ft kn) r (nI f) k)))] H := hP
    have hD : va_D A [(M 0, mO M ca nn ft0 kn0 dy fd ak pl iw nm (zFb F r ft kn k) (zDf F r ft kn k) (zDk F r ft kn k) sd ik kc kf kk kd ko hh), (M 19, .inl (cI, 9, .inl u1)), (M 20, .inl (cI, 8, .inl u2)), (M 21, .inl (cI, 4, .inl (fun f => zGs (zDg F r ft kn) r (nI f) k))), (M 22, .inl (cI, 4, .inl (fun f => zGs (zDe F r ft kn) r (nI f) k)))] := hD
    have hQ : va_P D vwCl ([(M 0, mO M ca nn ft0 kn0 dy fd ak pl iw nm (zFb F r ft kn k) (zDf F r ft kn k) (zDk F r ft kn k) sd ik kc kf kk kd ko hh), (M 19, .inl (cI, 9, .inl u1)), (M 20, .inl (cI, 8, .inl u2)), (M 21, .inl (cI, 4, .inl (fun f => zGs (zDg F r ft kn) r (nI f) k))), (M 22, .inl (cI, 4, .inl (fun f => zGs (zDe F r ft kn) r (nI f) k)))] ++ [(M 2, .inl (cI, 4, .inl (fun f => nI (F.1 f)))), (M 3, .inl (cI, 4, .inl F.2.1)), (M 4, .inl (cI, 4, .inl F.2.2)), (M 7, .inl (cI, 8, .inl r))]) H := va_P.app hP (hR.at hS).P
    have hl : lv_has ls 4 [(0, .ref (M 0)), (3, .int (nI k))] := hl
    show W _ _ _ _ _ _ _ _ _ _ _ _ _ _ _ (F0 m 44 ls [])
    refine lv_iload_n hx hb dX9_passDay_44 rfl (lv_at hl 1 rfl) ?_
    refine lv_bipush (v := 8) hx hb dX9_passDay_45 (by decide) ?_
    refine lv_icmp_ge (tgt := 61) hx hb dX9_passDay_47 (by decide) (fun c_47 => ?_) (fun c_47 => ?_)
    · have hge_47 : 8 ≤ k := (nI_zle (a := 8) (b := k) (by omega) (by omega)).mp c_47
      obtain rfl : k = 8 := by omega
      refine lv_aload_n hx hb dX9_passDay_61 rfl (lv_at hl 0 rfl) ?_
      refine va_get (D := D) (cl := vwCl) (tys := zT cI cB cF) (ci := 9) (v := .ref (M 19)) (C := RX9) (T := TX9) (N := 41) hx hb hts iw_X9_passDay_X9 hown hK.1 hQ 0 rfl rfl 19 (by decide) (hts _ hw_X9_passDay_6) (fun _ h9 => h9) rfl dX9_passDay_62 ?_
      refine lv_bipush (v := 8) hx hb dX9_passDay_65 (by decide) ?_
      refine lv_aload_n hx hb dX9_passDay_67 rfl (lv_at hl 0 rfl) ?_
      refine va_get (D := D) (cl := vwCl) (tys := zT cI cB cF) (ci := 9) (v := .int (zDf F r ft kn 8)) (C := RX9) (T := TX9) (N := 41) hx hb hts iw_X9_passDay_X9 hown hK.1 hQ 0 rfl rfl 24 (by decide) (hts _ hw_X9_passDay_1) (fun _ h9 => h9) rfl dX9_passDay_68 ?_
      refine va_iast (D := D) (cl := vwCl) (tys := zT cI cB cF) (f := u1) hx hb hK.1 hP hD hS 1 0 rfl rfl (vp_in_nI (n := 8) (N := 9) (by omega) (by omega)) dX9_passDay_71 (fun H locs hP hD hS => ?_)
      have hP : va_P D vwCl [(M 0, mO M ca nn ft0 kn0 dy fd ak pl iw nm (zFb F r ft kn 8) (zDf F r ft kn 8) (zDk F r ft kn 8) sd ik kc kf kk kd ko hh), (M 19, .inl (cI, 9, .inl (upd u1 8 (zDf F r ft kn 8)))), (M 20, .inl (cI, 8, .inl u2)), (M 21, .inl (cI, 4, .inl (fun f => zGs (zDg F r ft kn) r (nI f) 8))), (M 22, .inl (cI, 4, .inl (fun f => zGs (zDe F r ft kn) r (nI f) 8)))] H := hP
      have hD : va_D A [(M 0, mO M ca nn ft0 kn0 dy fd ak pl iw nm (zFb F r ft kn 8) (zDf F r ft kn 8) (zDk F r ft kn 8) sd ik kc kf kk kd ko hh), (M 19, .inl (cI, 9, .inl (upd u1 8 (zDf F r ft kn 8)))), (M 20, .inl (cI, 8, .inl u2)), (M 21, .inl (cI, 4, .inl (fun f => zGs (zDg F r ft kn) r (nI f) 8))), (M 22, .inl (cI, 4, .inl (fun f => zGs (zDe F r ft kn) r (nI f) 8)))] := hD
      have hQ : va_P D vwCl ([(M 0, mO M ca nn ft0 kn0 dy fd ak pl iw nm (zFb F r ft kn 8) (zDf F r ft kn 8) (zDk F r ft kn 8) sd ik kc kf kk kd ko hh), (M 19, .inl (cI, 9, .inl (upd u1 8 (zDf F r ft kn 8)))), (M 20, .inl (cI, 8, .inl u2)), (M 21, .inl (cI, 4, .inl (fun f => zGs (zDg F r ft kn) r (nI f) 8))), (M 22, .inl (cI, 4, .inl (fun f => zGs (zDe F r ft kn) r (nI f) 8)))] ++ [(M 2, .inl (cI, 4, .inl (fun f => nI (F.1 f)))), (M 3, .inl (cI, 4, .inl F.2.1)), (M 4, .inl (cI, 4, .inl F.2.2)), (M 7, .inl (cI, 8, .inl r))]) H := va_P.app hP (hR.at hS).P
      have hP : va_P D vwCl [(M 0, mO M ca nn ft0 kn0 dy fd ak pl iw nm (zFb F r ft kn 8) (zDf F r ft kn 8) (zDk F r ft kn 8) sd ik kc kf kk kd ko hh), (M 19, .inl (cI, 9, .inl (zDf F r ft kn))), (M 20, .inl (cI, 8, .inl u2)), (M 21, .inl (cI, 4, .inl (fun f => zGs (zDg F r ft kn) r (nI f) 8))), (M 22, .inl (cI, 4, .inl (fun f => zGs (zDe F r ft kn) r (nI f) 8)))] H := vz_arr (g := zDf F r ft kn) hP 1 rfl (fun j hj => z_ext h1 rfl j hj)
      have hD : va_D A [(M 0, mO M ca nn ft0 kn0 dy fd ak pl iw nm (zFb F r ft kn 8) (zDf F r ft kn 8) (zDk F r ft kn 8) sd ik kc kf kk kd ko hh), (M 19, .inl (cI, 9, .inl (zDf F r ft kn))), (M 20, .inl (cI, 8, .inl u2)), (M 21, .inl (cI, 4, .inl (fun f => zGs (zDg F r ft kn) r (nI f) 8))), (M 22, .inl (cI, 4, .inl (fun f => zGs (zDe F r ft kn) r (nI f) 8)))] := vz_arrD hD 1 rfl
      have hQ : va_P D vwCl ([(M 0, mO M ca nn ft0 kn0 dy fd ak pl iw nm (zFb F r ft kn 8) (zDf F r ft kn 8) (zDk F r ft kn 8) sd ik kc kf kk kd ko hh), (M 19, .inl (cI, 9, .inl (zDf F r ft kn))), (M 20, .inl (cI, 8, .inl u2)), (M 21, .inl (cI, 4, .inl (fun f => zGs (zDg F r ft kn) r (nI f) 8))), (M 22, .inl (cI, 4, .inl (fun f => zGs (zDe F r ft kn) r (nI f) 8)))] ++ [(M 2, .inl (cI, 4, .inl (fun f => nI (F.1 f)))), (M 3, .inl (cI, 4, .inl F.2.1)), (M 4, .inl (cI, 4, .inl F.2.2)), (M 7, .inl (cI, 8, .inl r))]) H := va_P.app hP (hR.at hS).P
      have hP : va_P D vwCl [(M 0, mO M ca nn ft0 kn0 dy fd ak pl iw nm (zFb F r ft kn 8) (zDf F r ft kn 8) (zDk F r ft kn 8) sd ik kc kf kk kd ko hh), (M 19, .inl (cI, 9, .inl (zDf F r ft kn))), (M 20, .inl (cI, 8, .inl (zDh F r ft kn))), (M 21, .inl (cI, 4, .inl (fun f => zGs (zDg F r ft kn) r (nI f) 8))), (M 22, .inl (cI, 4, .inl (fun f => zGs (zDe F r ft kn) r (nI f) 8)))] H := vz_arr (g := zDh F r ft kn) hP 2 rfl (fun j hj => h2 j hj)
      have hD : va_D A [(M 0, mO M ca nn ft0 kn0 dy fd ak pl iw nm (zFb F r ft kn 8) (zDf F r ft kn 8) (zDk F r ft kn 8) sd ik kc kf kk kd ko hh), (M 19, .inl (cI, 9, .inl (zDf F r ft kn))), (M 20, .inl (cI, 8, .inl (zDh F r ft kn))), (M 21, .inl (cI, 4, .inl (fun f => zGs (zDg F r ft kn) r (nI f) 8))), (M 22, .inl (cI, 4, .inl (fun f => zGs (zDe F r ft kn) r (nI f) 8)))] := vz_arrD hD 2 rfl
      have hQ : va_P D vwCl ([(M 0, mO M ca nn ft0 kn0 dy fd ak pl iw nm (zFb F r ft kn 8) (zDf F r ft kn 8) (zDk F r ft kn 8) sd ik kc kf kk kd ko hh), (M 19, .inl (cI, 9, .inl (zDf F r ft kn))), (M 20, .inl (cI, 8, .inl (zDh F r ft kn))), (M 21, .inl (cI, 4, .inl (fun f => zGs (zDg F r ft kn) r (nI f) 8))), (M 22, .inl (cI, 4, .inl (fun f => zGs (zDe F r ft kn) r (nI f) 8)))] ++ [(M 2, .inl (cI, 4, .inl (fun f => nI (F.1 f)))), (M 3, .inl (cI, 4, .inl F.2.1)), (M 4, .inl (cI, 4, .inl F.2.2)), (M 7, .inl (cI, 8, .inl r))]) H := va_P.app hP (hR.at hS).P
      have hP9 := hP.sub (ws' := [(M 0, mO M ca nn ft0 kn0 dy fd ak pl iw nm (zFb F r ft kn 8) (zDf F r ft kn 8) (zDk F r ft kn 8) sd ik kc kf kk kd ko hh), (M 19, .inl (cI, 9, .inl (zDf F r ft kn))), (M 20, .inl (cI, 8, .inl (zDh F r ft kn))), (M 21, .inl (cI, 4, .inl (fun f => zGs (zDg F r ft kn) r (nI f) 8))), (M 22, .inl (cI, 4, .inl (fun f => zGs (zDe F r ft kn) r (nI f) 8)))]) [0, 1, 2, 3, 4] rfl
      have hD9 := hD.sub (ws' := [(M 0, mO M ca nn ft0 kn0 dy fd ak pl iw nm (zFb F r ft kn 8) (zDf F r ft kn 8) (zDk F r ft kn 8) sd ik kc kf kk kd ko hh), (M 19, .inl (cI, 9, .inl (zDf F r ft kn))), (M 20, .inl (cI, 8, .inl (zDh F r ft kn))), (M 21, .inl (cI, 4, .inl (fun f => zGs (zDg F r ft kn) r (nI f) 8))), (M 22, .inl (cI, 4, .inl (fun f => zGs (zDe F r ft kn) r (nI f) 8)))]) [0, 1, 2, 3, 4] (by decide) rfl
      exact W.vret hx hb hr (fun t ht hW => ⟨⟨(), rfl, trivial, by rw [ht]; exact hP9, hD9⟩, hS.F ht⟩) hS.2.2 dX9_passDay_72
    · have hlt_47 : k < 8 := Nat.lt_of_not_le fun q => c_47 ((nI_zle (a := 8) (b := k) (by omega) (by omega)).mpr q)
      refine lv_aload_n hx hb dX9_passDay_50 rfl (lv_at hl 0 rfl) ?_
      refine lv_iload_n hx hb dX9_passDay_51 rfl (lv_at hl 1 rfl) ?_
      have hFc := va_free (wc := [(M 0, mO M ca nn ft0 kn0 dy fd ak pl iw nm (zFb F r ft kn k) (zDf F r ft kn k) (zDk F r ft kn k) sd ik kc kf kk kd ko hh), (M 19, .inl (cI, 9, .inl u1)), (M 20, .inl (cI, 8, .inl u2)), (M 21, .inl (cI, 4, .inl (fun f => zGs (zDg F r ft kn) r (nI f) k))), (M 22, .inl (cI, 4, .inl (fun f => zGs (zDe F r ft kn) r (nI f) k)))]) hD hS hA [0, 1, 2, 3, 4] rfl
      refine vz_cw [] [0, 1, 2, 3, 4] [] (va_runV (As := [.int (nI k)]) (rest := []) FX (c_X9_passShift l D cI cB cF H.size M ca nn ft0 kn0 dy fd ak pl iw nm (zFb F r ft kn k) (zDf F r ft kn k) (zDk F r ft kn k) sd ik kc kf kk kd ko hh u1 u2 (fun f => zGs (zDg F r ft kn) r (nI f) k) (fun f => zGs (zDe F r ft kn) r (nI f) k) F r n k (by first | assumption | omega | decide) (by first | assumption | omega | decide) (by first | assumption | omega | decide) hlt_47 (zDk_b hn hF hro hkn k (by omega))) (cwV 1 hts gX9_passDay_X9_passShift rfl rfl rfl ⟨rfl, hd_X9_passShift⟩ ⟨Nat.le_of_ble_eq_true rfl, Nat.le_of_ble_eq_true rfl⟩) (preW_V hQ 0 rfl rfl (hP.sub (ws' := [(M 0, mO M ca nn ft0 kn0 dy fd ak pl iw nm (zFb F r ft kn k) (zDf F r ft kn k) (zDk F r ft kn k) sd ik kc kf kk kd ko hh), (M 19, .inl (cI, 9, .inl u1)), (M 20, .inl (cI, 8, .inl u2)), (M 21, .inl (cI, 4, .inl (fun f => zGs (zDg F r ft kn) r (nI f) k))), (M 22, .inl (cI, 4, .inl (fun f => zGs (zDe F r ft kn) r (nI f) k)))]) [0, 1, 2, 3, 4] rfl) (hD.sub (ws' := [(M 0, mO M ca nn ft0 kn0 dy fd ak pl iw nm (zFb F r ft kn k) (zDf F r ft kn k) (zDk F r ft kn k) sd ik kc kf kk kd ko hh), (M 19, .inl (cI, 9, .inl u1)), (M 20, .inl (cI, 8, .inl u2)), (M 21, .inl (cI, 4, .inl (fun f => zGs (zDg F r ft kn) r (nI f) k))), (M 22, .inl (cI, 4, .inl (fun f => zGs (zDe F r ft kn) r (nI f) k)))]) [0, 1, 2, 3, 4] (by decide) rfl) hK (show vz_R D [(M 2, .inl (cI, 4, .inl (fun f => nI (F.1 f)))), (M 3, .inl (cI, 4, .inl F.2.1)), (M 4, .inl (cI, 4, .inl F.2.2)), (M 7, .inl (cI, 8, .inl r))] _ _ from (vz_R.cons ((hR.at hS).one hFc (List.mem_of_getElem? (i := 0) rfl)) (vz_R.cons ((hR.at hS).one hFc (List.mem_of_getElem? (i := 1) rfl)) (vz_R.cons ((hR.at hS).one hFc (List.mem_of_getElem? (i := 2) rfl)) (vz_R.cons ((hR.at hS).one hFc (List.mem_of_getElem? (i := 3) rfl)) vz_R.nil)))))) rfl rfl hl.1 rfl (lv_room (Nat.le_of_ble_eq_true rfl)) dX9_passDay_52 ⟨Nat.le_of_ble_eq_true rfl, Nat.le_of_ble_eq_true rfl⟩) hP hD hS hA rfl rfl rfl (by decide) (fun u H locs hu hP hD hS hz9 hk9 => ?_)
      have hP : va_P D vwCl [(M 0, mO M ca nn ft0 kn0 dy fd ak pl iw nm (zFi (zFb F r ft kn k) (zEw F (r k) (nI k) ((zDf F r ft kn k), (zDk F r ft kn k))) k) (zCl ((zDf F r ft kn k) + zMw F (r k) (nI k) ((zDf F r ft kn k), (zDk F r ft kn k)))) (zKw F (r k) ((zDf F r ft kn k), (zDk F r ft kn k))) sd ik kc kf kk kd ko hh), (M 19, .inl (cI, 9, .inl (upd u1 k (zDf F r ft kn k)))), (M 20, .inl (cI, 8, .inl (upd u2 k (zHw F (r k) ((zDf F r ft kn k), (zDk F r ft kn k)))))), (M 21, .inl (cI, 4, .inl (fun j => if r k = nI j then (fun f => zGs (zDg F r ft kn) r (nI f) k) j + zGw F (r k) (nI k) ((zDf F r ft kn k), (zDk F r ft kn k)) else (fun f => zGs (zDg F r ft kn) r (nI f) k) j))), (M 22, .inl (cI, 4, .inl (fun j => if r k = nI j then (fun f => zGs (zDe F r ft kn) r (nI f) k) j + zEw F (r k) (nI k) ((zDf F r ft kn k), (zDk F r ft kn k)) else (fun f => zGs (zDe F r ft kn) r (nI f) k) j)))] H := hP
      have hD : va_D A [(M 0, mO M ca nn ft0 kn0 dy fd ak pl iw nm (zFi (zFb F r ft kn k) (zEw F (r k) (nI k) ((zDf F r ft kn k), (zDk F r ft kn k))) k) (zCl ((zDf F r ft kn k) + zMw F (r k) (nI k) ((zDf F r ft kn k), (zDk F r ft kn k)))) (zKw F (r k) ((zDf F r ft kn k), (zDk F r ft kn k))) sd ik kc kf kk kd ko hh), (M 19, .inl (cI, 9, .inl (upd u1 k (zDf F r ft kn k)))), (M 20, .inl (cI, 8, .inl (upd u2 k (zHw F (r k) ((zDf F r ft kn k), (zDk F r ft kn k)))))), (M 21, .inl (cI, 4, .inl (fun j => if r k = nI j then (fun f => zGs (zDg F r ft kn) r (nI f) k) j + zGw F (r k) (nI k) ((zDf F r ft kn k), (zDk F r ft kn k)) else (fun f => zGs (zDg F r ft kn) r (nI f) k) j))), (M 22, .inl (cI, 4, .inl (fun j => if r k = nI j then (fun f => zGs (zDe F r ft kn) r (nI f) k) j + zEw F (r k) (nI k) ((zDf F r ft kn k), (zDk F r ft kn k)) else (fun f => zGs (zDe F r ft kn) r (nI f) k) j)))] := hD
      have hQ : va_P D vwCl ([(M 0, mO M ca nn ft0 kn0 dy fd ak pl iw nm (zFi (zFb F r ft kn k) (zEw F (r k) (nI k) ((zDf F r ft kn k), (zDk F r ft kn k))) k) (zCl ((zDf F r ft kn k) + zMw F (r k) (nI k) ((zDf F r ft kn k), (zDk F r ft kn k)))) (zKw F (r k) ((zDf F r ft kn k), (zDk F r ft kn k))) sd ik kc kf kk kd ko hh), (M 19, .inl (cI, 9, .inl (upd u1 k (zDf F r ft kn k)))), (M 20, .inl (cI, 8, .inl (upd u2 k (zHw F (r k) ((zDf F r ft kn k), (zDk F r ft kn k)))))), (M 21, .inl (cI, 4, .inl (fun j => if r k = nI j then (fun f => zGs (zDg F r ft kn) r (nI f) k) j + zGw F (r k) (nI k) ((zDf F r ft kn k), (zDk F r ft kn k)) else (fun f => zGs (zDg F r ft kn) r (nI f) k) j))), (M 22, .inl (cI, 4, .inl (fun j => if r k = nI j then (fun f => zGs (zDe F r ft kn) r (nI f) k) j + zEw F (r k) (nI k) ((zDf F r ft kn k), (zDk F r ft kn k)) else (fun f => zGs (zDe F r ft kn) r (nI f) k) j)))] ++ [(M 2, .inl (cI, 4, .inl (fun f => nI (F.1 f)))), (M 3, .inl (cI, 4, .inl F.2.1)), (M 4, .inl (cI, 4, .inl F.2.2)), (M 7, .inl (cI, 8, .inl r))]) H := va_P.app hP (hR.at hS).P
      show W _ _ _ _ _ _ _ _ _ _ _ _ _ _ _ (F0 m 55 ls [])
      have hP : va_P D vwCl [(M 0, mO M ca nn ft0 kn0 dy fd ak pl iw nm (zFb F r ft kn (k + 1)) (zCl ((zDf F r ft kn k) + zMw F (r k) (nI k) ((zDf F r ft kn k), (zDk F r ft kn k)))) (zKw F (r k) ((zDf F r ft kn k), (zDk F r ft kn k))) sd ik kc kf kk kd ko hh), (M 19, .inl (cI, 9, .inl (upd u1 k (zDf F r ft kn k)))), (M 20, .inl (cI, 8, .inl (upd u2 k (zHw F (r k) ((zDf F r ft kn k), (zDk F r ft kn k)))))), (M 21, .inl (cI, 4, .inl (fun j => if r k = nI j then (fun f => zGs (zDg F r ft kn) r (nI f) k) j + zGw F (r k) (nI k) ((zDf F r ft kn k), (zDk F r ft kn k)) else (fun f => zGs (zDg F r ft kn) r (nI f) k) j))), (M 22, .inl (cI, 4, .inl (fun j => if r k = nI j then (fun f => zGs (zDe F r ft kn) r (nI f) k) j + zEw F (r k) (nI k) ((zDf F r ft kn k), (zDk F r ft kn k)) else (fun f => zGs (zDe F r ft kn) r (nI f) k) j)))] H := by rw [← (show zFi (zFb F r ft kn k) (zEw F (r k) (nI k) ((zDf F r ft kn k), (zDk F r ft kn k))) k = zFb F r ft kn (k + 1) from rfl)]; exact hP
      have hD : va_D A [(M 0, mO M ca nn ft0 kn0 dy fd ak pl iw nm (zFb F r ft kn (k + 1)) (zCl ((zDf F r ft kn k) + zMw F (r k) (nI k) ((zDf F r ft kn k), (zDk F r ft kn k)))) (zKw F (r k) ((zDf F r ft kn k), (zDk F r ft kn k))) sd ik kc kf kk kd ko hh), (M 19, .inl (cI, 9, .inl (upd u1 k (zDf F r ft kn k)))), (M 20, .inl (cI, 8, .inl (upd u2 k (zHw F (r k) ((zDf F r ft kn k), (zDk F r ft kn k)))))), (M 21, .inl (cI, 4, .inl (fun j => if r k = nI j then (fun f => zGs (zDg F r ft kn) r (nI f) k) j + zGw F (r k) (nI k) ((zDf F r ft kn k), (zDk F r ft kn k)) else (fun f => zGs (zDg F r ft kn) r (nI f) k) j))), (M 22, .inl (cI, 4, .inl (fun j => if r k = nI j then (fun f => zGs (zDe F r ft kn) r (nI f) k) j + zEw F (r k) (nI k) ((zDf F r ft kn k), (zDk F r ft kn k)) else (fun f => zGs (zDe F r ft kn) r (nI f) k) j)))] := by rw [← (show zFi (zFb F r ft kn k) (zEw F (r k) (nI k) ((zDf F r ft kn k), (zDk F r ft kn k))) k = zFb F r ft kn (k + 1) from rfl)]; exact hD
      have hQ : va_P D vwCl ([(M 0, mO M ca nn ft0 kn0 dy fd ak pl iw nm (zFb F r ft kn (k + 1)) (zCl ((zDf F r ft kn k) + zMw F (r k) (nI k) ((zDf F r ft kn k), (zDk F r ft kn k)))) (zKw F (r k) ((zDf F r ft kn k), (zDk F r ft kn k))) sd ik kc kf kk kd ko hh), (M 19, .inl (cI, 9, .inl (upd u1 k (zDf F r ft kn k)))), (M 20, .inl (cI, 8, .inl (upd u2 k (zHw F (r k) ((zDf F r ft kn k), (zDk F r ft kn k)))))), (M 21, .inl (cI, 4, .inl (fun j => if r k = nI j then (fun f => zGs (zDg F r ft kn) r (nI f) k) j + zGw F (r k) (nI k) ((zDf F r ft kn k), (zDk F r ft kn k)) else (fun f => zGs (zDg F r ft kn) r (nI f) k) j))), (M 22, .inl (cI, 4, .inl (fun j => if r k = nI j then (fun f => zGs (zDe F r ft kn) r (nI f) k) j + zEw F (r k) (nI k) ((zDf F r ft kn k), (zDk F r ft kn k)) else (fun f => zGs (zDe F r ft kn) r (nI f) k) j)))] ++ [(M 2, .inl (cI, 4, .inl (fun f => nI (F.1 f)))), (M 3, .inl (cI, 4, .inl F.2.1)), (M 4, .inl (cI, 4, .inl F.2.2)), (M 7, .inl (cI, 8, .inl r))]) H := va_P.app hP (hR.at hS).P
      have hP : va_P D vwCl [(M 0, mO M ca nn ft0 kn0 dy fd ak pl iw nm (zFb F r ft kn (k + 1)) (zDf F r ft kn (k + 1)) (zKw F (r k) ((zDf F r ft kn k), (zDk F r ft kn k))) sd ik kc kf kk kd ko hh), (M 19, .inl (cI, 9, .inl (upd u1 k (zDf F r ft kn k)))), (M 20, .inl (cI, 8, .inl (upd u2 k (zHw F (r k) ((zDf F r ft kn k), (zDk F r ft kn k)))))), (M 21, .inl (cI, 4, .inl (fun j => if r k = nI j then (fun f => zGs (zDg F r ft kn) r (nI f) k) j + zGw F (r k) (nI k) ((zDf F r ft kn k), (zDk F r ft kn k)) else (fun f => zGs (zDg F r ft kn) r (nI f) k) j))), (M 22, .inl (cI, 4, .inl (fun j => if r k = nI j then (fun f => zGs (zDe F r ft kn) r (nI f) k) j + zEw F (r k) (nI k) ((zDf F r ft kn k), (zDk F r ft kn k)) else (fun f => zGs (zDe F r ft kn) r (nI f) k) j)))] H := by rw [← (show zCl ((zDf F r ft kn k) + zMw F (r k) (nI k) ((zDf F r ft kn k), (zDk F r ft kn k))) = zDf F r ft kn (k + 1) from rfl)]; exact hP
      have hD : va_D A [(M 0, mO M ca nn ft0 kn0 dy fd ak pl iw nm (zFb F r ft kn (k + 1)) (zDf F r ft kn (k + 1)) (zKw F (r k) ((zDf F r ft kn k), (zDk F r ft kn k))) sd ik kc kf kk kd ko hh), (M 19, .inl (cI, 9, .inl (upd u1 k (zDf F r ft kn k)))), (M 20, .inl (cI, 8, .inl (upd u2 k (zHw F (r k) ((zDf F r ft kn k), (zDk F r ft kn k)))))), (M 21, .inl (cI, 4, .inl (fun j => if r k = nI j then (fun f => zGs (zDg F r ft kn) r (nI f) k) j + zGw F (r k) (nI k) ((zDf F r ft kn k), (zDk F r ft kn k)) else (fun f => zGs (zDg F r ft kn) r (nI f) k) j))), (M 22, .inl (cI, 4, .inl (fun j => if r k = nI j then (fun f => zGs (zDe F r ft kn) r (nI f) k) j + zEw F (r k) (nI k) ((zDf F r ft kn k), (zDk F r ft kn k)) else (fun f => zGs (zDe F r ft kn) r (nI f) k) j)))] := by rw [← (show zCl ((zDf F r ft kn k) + zMw F (r k) (nI k) ((zDf F r ft kn k), (zDk F r ft kn k))) = zDf F r ft kn (k + 1) from rfl)]; exact hD
      have hQ : va_P D vwCl ([(M 0, mO M ca nn ft0 kn0 dy fd ak pl iw nm (zFb F r ft kn (k + 1)) (zDf F r ft kn (k + 1)) (zKw F (r k) ((zDf F r ft kn k), (zDk F r ft kn k))) sd ik kc kf kk kd ko hh), (M 19, .inl (cI, 9, .inl (upd u1 k (zDf F r ft kn k)))), (M 20, .inl (cI, 8, .inl (upd u2 k (zHw F (r k) ((zDf F r ft kn k), (zDk F r ft kn k)))))), (M 21, .inl (cI, 4, .inl (fun j => if r k = nI j then (fun f => zGs (zDg F r ft kn) r (nI f) k) j + zGw F (r k) (nI k) ((zDf F r ft kn k), (zDk F r ft kn k)) else (fun f => zGs (zDg F r ft kn) r (nI f) k) j))), (M 22, .inl (cI, 4, .inl (fun j => if r k = nI j then (fun f => zGs (zDe F r ft kn) r (nI f) k) j + zEw F (r k) (nI k) ((zDf F r ft kn k), (zDk F r ft kn k)) else (fun f => zGs (zDe F r ft kn) r (nI f) k) j)))] ++ [(M 2, .inl (cI, 4, .inl (fun f => nI (F.1 f)))), (M 3, .inl (cI, 4, .inl F.2.1)), (M 4, .inl (cI, 4, .inl F.2.2)), (M 7, .inl (cI, 8, .inl r))]) H := va_P.app hP (hR.at hS).P
      have hP : va_P D vwCl [(M 0, mO M ca nn ft0 kn0 dy fd ak pl iw nm (zFb F r ft kn (k + 1)) (zDf F r ft kn (k + 1)) (zDk F r ft kn (k + 1)) sd ik kc kf kk kd ko hh), (M 19, .inl (cI, 9, .inl (upd u1 k (zDf F r ft kn k)))), (M 20, .inl (cI, 8, .inl (upd u2 k (zHw F (r k) ((zDf F r ft kn k), (zDk F r ft kn k)))))), (M 21, .inl (cI, 4, .inl (fun j => if r k = nI j then (fun f => zGs (zDg F r ft kn) r (nI f) k) j + zGw F (r k) (nI k) ((zDf F r ft kn k), (zDk F r ft kn k)) else (fun f => zGs (zDg F r ft kn) r (nI f) k) j))), (M 22, .inl (cI, 4, .inl (fun j => if r k = nI j then (fun f => zGs (zDe F r ft kn) r (nI f) k) j + zEw F (r k) (nI k) ((zDf F r ft kn k), (zDk F r ft kn k)) else (fun f => zGs (zDe F r ft kn) r (nI f) k) j)))] H := by rw [← (show zKw F (r k) ((zDf F r ft kn k), (zDk F r ft kn k)) = zDk F r ft kn (k + 1) from rfl)]; exact hP
      have hD : va_D A [(M 0, mO M ca nn ft0 kn0 dy fd ak pl iw nm (zFb F r ft kn (k + 1)) (zDf F r ft kn (k + 1)) (zDk F r ft kn (k + 1)) sd ik kc kf kk kd ko hh), (M 19, .inl (cI, 9, .inl (upd u1 k (zDf F r ft kn k)))), (M 20, .inl (cI, 8, .inl (upd u2 k (zHw F (r k) ((zDf F r ft kn k), (zDk F r ft kn k)))))), (M 21, .inl (cI, 4, .inl (fun j => if r k = nI j then (fun f => zGs (zDg F r ft kn) r (nI f) k) j + zGw F (r k) (nI k) ((zDf F r ft kn k), (zDk F r ft kn k)) else (fun f => zGs (zDg F r ft kn) r (nI f) k) j))), (M 22, .inl (cI, 4, .inl (fun j => if r k = nI j then (fun f => zGs (zDe F r ft kn) r (nI f) k) j + zEw F (r k) (nI k) ((zDf F r ft kn k), (zDk F r ft kn k)) else (fun f => zGs (zDe F r ft kn) r (nI f) k) j)))] := by rw [← (show zKw F (r k) ((zDf F r ft kn k), (zDk F r ft kn k)) = zDk F r ft kn (k + 1) from rfl)]; exact hD
      have hQ : va_P D vwCl ([(M 0, mO M ca nn ft0 kn0 dy fd ak pl iw nm (zFb F r ft kn (k + 1)) (zDf F r ft kn (k + 1)) (zDk F r ft kn (k + 1)) sd ik kc kf kk kd ko hh), (M 19, .inl (cI, 9, .inl (upd u1 k (zDf F r ft kn k)))), (M 20, .inl (cI, 8, .inl (upd u2 k (zHw F (r k) ((zDf F r ft kn k), (zDk F r ft kn k)))))), (M 21, .inl (cI, 4, .inl (fun j => if r k = nI j then (fun f => zGs (zDg F r ft kn) r (nI f) k) j + zGw F (r k) (nI k) ((zDf F r ft kn k), (zDk F r ft kn k)) else (fun f => zGs (zDg F r ft kn) r (nI f) k) j))), (M 22, .inl (cI, 4, .inl (fun j => if r k = nI j then (fun f => zGs (zDe F r ft kn) r (nI f) k) j + zEw F (r k) (nI k) ((zDf F r ft kn k), (zDk F r ft kn k)) else (fun f => zGs (zDe F r ft kn) r (nI f) k) j)))] ++ [(M 2, .inl (cI, 4, .inl (fun f => nI (F.1 f)))), (M 3, .inl (cI, 4, .inl F.2.1)), (M 4, .inl (cI, 4, .inl F.2.2)), (M 7, .inl (cI, 8, .inl r))]) H := va_P.app hP (hR.at hS).P
      have hP : va_P D vwCl [(M 0, mO M ca nn ft0 kn0 dy fd ak pl iw nm (zFb F r ft kn (k + 1)) (zDf F r ft kn (k + 1)) (zDk F r ft kn (k + 1)) sd ik kc kf kk kd ko hh), (M 19, .inl (cI, 9, .inl (upd u1 k (zDf F r ft kn k)))), (M 20, .inl (cI, 8, .inl (upd u2 k (zHw F (r k) ((zDf F r ft kn k), (zDk F r ft kn k)))))), (M 21, .inl (cI, 4, .inl (fun f => zGs (zDg F r ft kn) r (nI f) (k + 1)))), (M 22, .inl (cI, 4, .inl (fun j => if r k = nI j then (fun f => zGs (zDe F r ft kn) r (nI f) k) j + zEw F (r k) (nI k) ((zDf F r ft kn k), (zDk F r ft kn k)) else (fun f => zGs (zDe F r ft kn) r (nI f) k) j)))] H := vz_arr (g := fun f => zGs (zDg F r ft kn) r (nI f) (k + 1)) hP 3 rfl (fun j _ => rfl)
      have hD : va_D A [(M 0, mO M ca nn ft0 kn0 dy fd ak pl iw nm (zFb F r ft kn (k + 1)) (zDf F r ft kn (k + 1)) (zDk F r ft kn (k + 1)) sd ik kc kf kk kd ko hh), (M 19, .inl (cI, 9, .inl (upd u1 k (zDf F r ft kn k)))), (M 20, .inl (cI, 8, .inl (upd u2 k (zHw F (r k) ((zDf F r ft kn k), (zDk F r ft kn k)))))), (M 21, .inl (cI, 4, .inl (fun f => zGs (zDg F r ft kn) r (nI f) (k + 1)))), (M 22, .inl (cI, 4, .inl (fun j => if r k = nI j then (fun f => zGs (zDe F r ft kn) r (nI f) k) j + zEw F (r k) (nI k) ((zDf F r ft kn k), (zDk F r ft kn k)) else (fun f => zGs (zDe F r ft kn) r (nI f) k) j)))] := vz_arrD hD 3 rfl
      have hQ : va_P D vwCl ([(M 0, mO M ca nn ft0 kn0 dy fd ak pl iw nm (zFb F r ft kn (k + 1)) (zDf F r ft kn (k + 1)) (zDk F r ft kn (k + 1)) sd ik kc kf kk kd ko hh), (M 19, .inl (cI, 9, .inl (upd u1 k (zDf F r ft kn k)))), (M 20, .inl (cI, 8, .inl (upd u2 k (zHw F (r k) ((zDf F r ft kn k), (zDk F r ft kn k)))))), (M 21, .inl (cI, 4, .inl (fun f => zGs (zDg F r ft kn) r (nI f) (k + 1)))), (M 22, .inl (cI, 4, .inl (fun j => if r k = nI j then (fun f => zGs (zDe F r ft kn) r (nI f) k) j + zEw F (r k) (nI k) ((zDf F r ft kn k), (zDk F r ft kn k)) else (fun f => zGs (zDe F r ft kn) r (nI f) k) j)))] ++ [(M 2, .inl (cI, 4, .inl (fun f => nI (F.1 f)))), (M 3, .inl (cI, 4, .inl F.2.1)), (M 4, .inl (cI, 4, .inl F.2.2)), (M 7, .inl (cI, 8, .inl r))]) H := va_P.app hP (hR.at hS).P
      have hP : va_P D vwCl [(M 0, mO M ca nn ft0 kn0 dy fd ak pl iw nm (zFb F r ft kn (k + 1)) (zDf F r ft kn (k + 1)) (zDk F r ft kn (k + 1)) sd ik kc kf kk kd ko hh), (M 19, .inl (cI, 9, .inl (upd u1 k (zDf F r ft kn k)))), (M 20, .inl (cI, 8, .inl (upd u2 k (zHw F (r k) ((zDf F r ft kn k), (zDk F r ft kn k)))))), (M 21, .inl (cI, 4, .inl (fun f => zGs (zDg F r ft kn) r (nI f) (k + 1)))), (M 22, .inl (cI, 4, .inl (fun f => zGs (zDe F r ft kn) r (nI f) (k + 1))))] H := vz_arr (g := fun f => zGs (zDe F r ft kn) r (nI f) (k + 1)) hP 4 rfl (fun j _ => rfl)
      have hD : va_D A [(M 0, mO M ca nn ft0 kn0 dy fd ak pl iw nm (zFb F r ft kn (k + 1)) (zDf F r ft kn (k + 1)) (zDk F r ft kn (k + 1)) sd ik kc kf kk kd ko hh), (M 19, .inl (cI, 9, .inl (upd u1 k (zDf F r ft kn k)))), (M 20, .inl (cI, 8, .inl (upd u2 k (zHw F (r k) ((zDf F r ft kn k), (zDk F r ft kn k)))))), (M 21, .inl (cI, 4, .inl (fun f => zGs (zDg F r ft kn) r (nI f) (k + 1)))), (M 22, .inl (cI, 4, .inl (fun f => zGs (zDe F r ft kn) r (nI f) (k + 1))))] := vz_arrD hD 4 rfl
      have hQ : va_P D vwCl ([(M 0, mO M ca nn ft0 kn0 dy fd ak pl iw nm (zFb F r ft kn (k + 1)) (zDf F r ft kn (k + 1)) (zDk F r ft kn (k + 1)) sd ik kc kf kk kd ko hh), (M 19, .inl (cI, 9, .inl (upd u1 k (zDf F r ft kn k)))), (M 20, .inl (cI, 8, .inl (upd u2 k (zHw F (r k) ((zDf F r ft kn k), (zDk F r ft kn k)))))), (M 21, .inl (cI, 4, .inl (fun f => zGs (zDg F r ft kn) r (nI f) (k + 1)))), (M 22, .inl (cI, 4, .inl (fun f => zGs (zDe F r ft kn) r (nI f) (k + 1))))] ++ [(M 2, .inl (cI, 4, .inl (fun f => nI (F.1 f)))), (M 3, .inl (cI, 4, .inl F.2.1)), (M 4, .inl (cI, 4, .inl F.2.2)), (M 7, .inl (cI, 8, .inl r))]) H := va_P.app hP (hR.at hS).P
      refine lv_iinc (v := (nI (k + 1))) (lv' := [(3, .int (nI (k + 1))), (0, .ref (M 0))]) hx hb dX9_passDay_55 hl (k := 1) rfl ((nI_succ k).symm) (by decide) rfl (fun ls hl => ?_)
      refine lv_goto (tgt := 44) hx hb dX9_passDay_58 (by decide) ?_
      exact ih_44 (k + 1, upd u1 k (zDf F r ft kn k), upd u2 k (zHw F (r k) ((zDf F r ft kn k), (zDk F r ft kn k)))) (by (try dsimp only); omega) ⟨hlt_47, z_ext h1 rfl, z_ext h2 rfl⟩ H _ ls (hP.sub [0, 1, 2, 3, 4] rfl) (hD.sub [0, 1, 2, 3, 4] (by decide) rfl) hS (lv_sub hl [1, 0] rfl)
  · have hlt_19 : k < 4 := Nat.lt_of_not_le fun q => c_19 ((nI_zle (a := 4) (b := k) (by omega) (by omega)).mpr q)
    refine lv_aload_n hx hb dX9_passDay_22 rfl (lv_at hl 0 rfl) ?_
    refine va_get (D := D) (cl := vwCl) (tys := zT cI cB cF) (ci := 9) (v := .ref (M 21)) (C := RX9) (T := TX9) (N := 41) hx hb hts iw_X9_passDay_X9 hown hK.1 hQ 0 rfl rfl 21 (by decide) (hts _ hw_X9_passDay_4) (fun _ h9 => h9) rfl dX9_passDay_23 ?_
    refine lv_iload_n hx hb dX9_passDay_26 rfl (lv_at hl 1 rfl) ?_
    refine lv_iconst (v := 0) hx hb dX9_passDay_27 (by decide) ?_
    refine va_iast (D := D) (cl := vwCl) (tys := zT cI cB cF) (f := u1) hx hb hK.1 hP hD hS 3 0 rfl rfl (vp_in_nI (by omega) (by omega)) dX9_passDay_28 (fun H locs hP hD hS => ?_)
    rw [nI_clamp (n := k) (by omega)] at hP hD
    have hP : va_P D vwCl [(M 0, mO M ca nn ft0 kn0 dy fd ak pl iw nm 0 ft kn sd ik kc kf kk kd ko hh), (M 19, .inl (cI, 9, .inl g1)), (M 20, .inl (cI, 8, .inl g2)), (M 21, .inl (cI, 4, .inl (upd u1 k 0))), (M 22, .inl (cI, 4, .inl u2))] H := hP
    have hD : va_D A [(M 0, mO M ca nn ft0 kn0 dy fd ak pl iw nm 0 ft kn sd ik kc kf kk kd ko hh), (M 19, .inl (cI, 9, .inl g1)), (M 20, .inl (cI, 8, .inl g2)), (M 21, .inl (cI, 4, .inl (upd u1 k 0))), (M 22, .inl (cI, 4, .inl u2))] := hD
    have hQ : va_P D vwCl ([(M 0, mO M ca nn ft0 kn0 dy fd ak pl iw nm 0 ft kn sd ik kc kf kk kd ko hh), (M 19, .inl (cI, 9, .inl g1)), (M 20, .inl (cI, 8, .inl g2)), (M 21, .inl (cI, 4, .inl (upd u1 k 0))), (M 22, .inl (cI, 4, .inl u2))] ++ [(M 2, .inl (cI, 4, .inl (fun f => nI (F.1 f)))), (M 3, .inl (cI, 4, .inl F.2.1)), (M 4, .inl (cI, 4, .inl F.2.2)), (M 7, .inl (cI, 8, .inl r))]) H := va_P.app hP (hR.at hS).P
    refine lv_aload_n hx hb dX9_passDay_29 rfl (lv_at hl 0 rfl) ?_
    refine va_get (D := D) (cl := vwCl) (tys := zT cI cB cF) (ci := 9) (v := .ref (M 22)) (C := RX9) (T := TX9) (N := 41) hx hb hts iw_X9_passDay_X9 hown hK.1 hQ 0 rfl rfl 22 (by decide) (hts _ hw_X9_passDay_5) (fun _ h9 => h9) rfl dX9_passDay_30 ?_
    refine lv_iload_n hx hb dX9_passDay_33 rfl (lv_at hl 1 rfl) ?_
    refine lv_iconst (v := 0) hx hb dX9_passDay_34 (by decide) ?_
    refine va_iast (D := D) (cl := vwCl) (tys := zT cI cB cF) (f := u2) hx hb hK.1 hP hD hS 4 0 rfl rfl (vp_in_nI (by omega) (by omega)) dX9_passDay_35 (fun H locs hP hD hS => ?_)
    rw [nI_clamp (n := k) (by omega)] at hP hD
    have hP : va_P D vwCl [(M 0, mO M ca nn ft0 kn0 dy fd ak pl iw nm 0 ft kn sd ik kc kf kk kd ko hh), (M 19, .inl (cI, 9, .inl g1)), (M 20, .inl (cI, 8, .inl g2)), (M 21, .inl (cI, 4, .inl (upd u1 k 0))), (M 22, .inl (cI, 4, .inl (upd u2 k 0)))] H := hP
    have hD : va_D A [(M 0, mO M ca nn ft0 kn0 dy fd ak pl iw nm 0 ft kn sd ik kc kf kk kd ko hh), (M 19, .inl (cI, 9, .inl g1)), (M 20, .inl (cI, 8, .inl g2)), (M 21, .inl (cI, 4, .inl (upd u1 k 0))), (M 22, .inl (cI, 4, .inl (upd u2 k 0)))] := hD
    have hQ : va_P D vwCl ([(M 0, mO M ca nn ft0 kn0 dy fd ak pl iw nm 0 ft kn sd ik kc kf kk kd ko hh), (M 19, .inl (cI, 9, .inl g1)), (M 20, .inl (cI, 8, .inl g2)), (M 21, .inl (cI, 4, .inl (upd u1 k 0))), (M 22, .inl (cI, 4, .inl (upd u2 k 0)))] ++ [(M 2, .inl (cI, 4, .inl (fun f => nI (F.1 f)))), (M 3, .inl (cI, 4, .inl F.2.1)), (M 4, .inl (cI, 4, .inl F.2.2)), (M 7, .inl (cI, 8, .inl r))]) H := va_P.app hP (hR.at hS).P
    refine lv_iinc (v := (nI (k + 1))) (lv' := [(3, .int (nI (k + 1))), (0, .ref (M 0))]) hx hb dX9_passDay_36 hl (k := 1) rfl ((nI_succ k).symm) (by decide) rfl (fun ls hl => ?_)
    refine lv_goto (tgt := 17) hx hb dX9_passDay_39 (by decide) ?_
    exact ih_17 (k + 1, upd u1 k 0, upd u2 k 0) (by (try dsimp only); omega) ⟨hlt_19, z_ext (F := fun _ => 0) h1 rfl, z_ext (F := fun _ => 0) h2 rfl⟩ H _ ls (hP.sub [0, 1, 2, 3, 4] rfl) (hD.sub [0, 1, 2, 3, 4] (by decide) rfl) hS (lv_sub hl [1, 0] rfl)
set_option maxRecDepth 100000 in
theorem iw_X9_thinkDay_X9 : ∀ w ∈ u_ws RX9 TX9 41, w ∈ wsX9_thinkDay := fun w h => List.mem_cons_of_mem _ (List.mem_append_right _ h)
set_option maxRecDepth 100000 in
theorem hw_X9_thinkDay_1 : (.fieldLink RX9 103 "RotaFathersModel" "fit" "I" : Cond) ∈ wsX9_thinkDay := List.mem_of_getElem? (i := 1) rfl
set_option maxRecDepth 100000 in
theorem hw_X9_thinkDay_2 : (.fieldLink RX9 109 "RotaFathersModel" "knows" "I" : Cond) ∈ wsX9_thinkDay := List.mem_of_getElem? (i := 2) rfl
set_option maxRecDepth 100000 in
theorem hd_X9_thinkDay : yX9_thinkDay.cls ≠ "java/lang/invoke/MethodHandle" ∧ yX9_thinkDay.cls ≠ "java/lang/invoke/VarHandle" ∧ (parseMethodDescriptor yX9_thinkDay.desc).map (fun d => d.parameters.length) = some 0 := by decide +kernel
set_option maxHeartbeats 4000000 in
set_option maxRecDepth 100000 in
theorem c_X9_thinkDay (l : Launch) (D : va_G) (cI cB cF : ClassId) (sz : Nat) (M : Nat → Nat) (ca : Int32) (nn : Int32) (ft : Int32) (kn : Int32) (dy : Int32) (fd : Int32) (ak : Int32) (pl : Int32) (iw : Int32) (nm : Int32) (fi : Int32) (nf : Int32) (nk : Int32) (sd : Int64) (ik : Int32) (kc : Int32) (kf : Int32) (kk : Int32) (kd : Int32) (ko : Int32) (hh : Int64) (g1 : Nat → Int32) (g2 : Nat → Int32) (ga : Nat → Int32) (fb : Nat → Int32) (F : zF) (r : Nat → Int32) (n : Nat) (hn : n ≤ 4) (hF : zFo n F) (hro : zRo n r) (hkn : zKb kn) : Met l yX9_thinkDay wsX9_thinkDay ({ frames := 3, cells := 0, slots := 0, locals := 69 } : Room) (PcW D cI cB cF [.ref (M 0)] sz [(M 0, mO M ca nn ft kn dy fd ak pl iw nm fi nf nk sd ik kc kf kk kd ko hh), (M 19, .inl (cI, 9, .inl g1)), (M 20, .inl (cI, 8, .inl g2)), (M 21, .inl (cI, 4, .inl ga)), (M 22, .inl (cI, 4, .inl fb))] [(M 2, .inl (cI, 4, .inl (fun f => nI (F.1 f)))), (M 3, .inl (cI, 4, .inl F.2.1)), (M 4, .inl (cI, 4, .inl F.2.2)), (M 7, .inl (cI, 8, .inl r))]) (Qw D (S := Unit) (fun xx => none) (fun xx => True) (fun xx => [(M 0, mO M ca nn ft kn dy fd ak pl iw nm (zFb F r ft kn 8) (zDf F r ft kn 8) (zDk F r ft kn 8) sd ik kc kf kk kd ko hh), (M 19, .inl (cI, 9, .inl (zDf F r ft kn))), (M 20, .inl (cI, 8, .inl (zDh F r ft kn))), (M 21, .inl (cI, 4, .inl (fun f => zGs (zDg F r ft kn) r (nI f) 8))), (M 22, .inl (cI, 4, .inl (fun f => zGs (zDe F r ft kn) r (nI f) 8)))]) (va_A [(M 0, mO M ca nn ft kn dy fd ak pl iw nm fi nf nk sd ik kc kf kk kd ko hh), (M 19, .inl (cI, 9, .inl g1)), (M 20, .inl (cI, 8, .inl g2)), (M 21, .inl (cI, 4, .inl ga)), (M 22, .inl (cI, 4, .inl fb))] sz)) 0 0 (va_A [(M 0, mO M ca nn ft kn dy fd ak pl iw nm fi nf nk sd ik kc kf kk kd ko hh), (M 19, .inl (cI, 9, .inl g1)), (M 20, .inl (cI, 8, .inl g2)), (M 21, .inl (cI, 4, .inl ga)), (M 22, .inl (cI, 4, .inl fb))] sz) := by
  refine Met.ofW (cc := cX9_thinkDay) (maxL := 1) (ret := none) (by decide) rfl ?_
  intro p e s m args below meth c s₁ Bd hml hv
  rw [show (headSpec wsX9_thinkDay ({ frames := 3, cells := 0, slots := 0, locals := 69 } : Room)).room = ({ frames := 3, cells := 0, slots := 0, locals := 69 } : Room) from rfl]
  obtain ⟨rfl, hsz, hP, hK, hD0, hR⟩ := hv
  have hx := Bd.exec
  have hb := Bd.bytes
  have hr := Bd.returns
  have hts := atoms_spec (ws := wsX9_thinkDay) Bd.pre
  have hown : s.vm.findClass RX9 = some m.cls := findClass_of_methodNamed Bd.named
  have hlocks := Bd.notSynchronized
  have FX : CallFix p m c cX9_thinkDay 1 s _ wsX9_thinkDay RX9 := ⟨hx, hb, hml, hown, hts⟩
  subst hsz
  have hD := hD0.self (sz := s.heap.size)
  generalize hAe : va_A [(M 0, mO M ca nn ft kn dy fd ak pl iw nm fi nf nk sd ik kc kf kk kd ko hh), (M 19, .inl (cI, 9, .inl g1)), (M 20, .inl (cI, 8, .inl g2)), (M 21, .inl (cI, 4, .inl ga)), (M 22, .inl (cI, 4, .inl fb))] s.heap.size = A at hD hR ⊢
  have hA : ∀ q : Nat, s.heap.size ≤ q → A q := fun q h => by rw [← hAe]; exact Or.inr h
  have hS : va_S A s.heap s.heap [] := va_S.rf
  have hP : va_P D vwCl [(M 0, mO M ca nn ft kn dy fd ak pl iw nm fi nf nk sd ik kc kf kk kd ko hh), (M 19, .inl (cI, 9, .inl g1)), (M 20, .inl (cI, 8, .inl g2)), (M 21, .inl (cI, 4, .inl ga)), (M 22, .inl (cI, 4, .inl fb))] s.heap := hP
  have hQ : va_P D vwCl ([(M 0, mO M ca nn ft kn dy fd ak pl iw nm fi nf nk sd ik kc kf kk kd ko hh), (M 19, .inl (cI, 9, .inl g1)), (M 20, .inl (cI, 8, .inl g2)), (M 21, .inl (cI, 4, .inl ga)), (M 22, .inl (cI, 4, .inl fb))] ++ [(M 2, .inl (cI, 4, .inl (fun f => nI (F.1 f)))), (M 3, .inl (cI, 4, .inl F.2.1)), (M 4, .inl (cI, 4, .inl F.2.2)), (M 7, .inl (cI, 8, .inl r))]) s.heap := va_P.app hP (hR.at hS).P
  have hl := lv_entry ([.ref (M 0)]) (n := 1) (Nat.le_of_ble_eq_true rfl)
  rw [lg_entry_eq]
  generalize (lg_sl ([.ref (M 0)]) ++ List.replicate (1 - (lg_sl ([.ref (M 0)])).length) Slot.unset).toArray = ls at hl ⊢
  have hl : lv_has ls 1 [(0, .ref (M 0))] := hl
  refine lv_aload_n hx hb dX9_thinkDay_0 rfl (lv_at hl 0 rfl) ?_
  refine lv_aload_n hx hb dX9_thinkDay_1 rfl (lv_at hl 0 rfl) ?_
  refine va_get (D := D) (cl := vwCl) (tys := zT cI cB cF) (ci := 9) (v := .int ft) (C := RX9) (T := TX9) (N := 41) hx hb hts iw_X9_thinkDay_X9 hown hK.1 hQ 0 rfl rfl 8 (by decide) (hts _ hw_X9_thinkDay_1) (fun _ h9 => h9) rfl dX9_thinkDay_2 ?_
  refine lv_aload_n hx hb dX9_thinkDay_5 rfl (lv_at hl 0 rfl) ?_
  refine va_get (D := D) (cl := vwCl) (tys := zT cI cB cF) (ci := 9) (v := .int kn) (C := RX9) (T := TX9) (N := 41) hx hb hts iw_X9_thinkDay_X9 hown hK.1 hQ 0 rfl rfl 9 (by decide) (hts _ hw_X9_thinkDay_2) (fun _ h9 => h9) rfl dX9_thinkDay_6 ?_
  have hFc := va_free (wc := [(M 0, mO M ca nn ft kn dy fd ak pl iw nm fi nf nk sd ik kc kf kk kd ko hh), (M 19, .inl (cI, 9, .inl g1)), (M 20, .inl (cI, 8, .inl g2)), (M 21, .inl (cI, 4, .inl ga)), (M 22, .inl (cI, 4, .inl fb))]) hD hS hA [0, 1, 2, 3, 4] rfl
  refine vz_cw [] [0, 1, 2, 3, 4] [] (va_runV (As := [.int ft, .int kn]) (rest := []) FX (c_X9_passDay l D cI cB cF s.heap.size M ca nn dy fd ak pl iw nm fi nf nk sd ik kc kf kk kd ko hh ft kn g1 g2 ga fb F r n ft kn (by first | assumption | omega | decide) (by first | assumption | omega | decide) (by first | assumption | omega | decide) (by first | assumption | omega | decide)) (cwV 2 hts gX9_thinkDay_X9_passDay rfl rfl rfl ⟨rfl, hd_X9_passDay⟩ ⟨Nat.le_of_ble_eq_true rfl, Nat.le_of_ble_eq_true rfl⟩) (preW_V hQ 0 rfl rfl (hP.sub (ws' := [(M 0, mO M ca nn ft kn dy fd ak pl iw nm fi nf nk sd ik kc kf kk kd ko hh), (M 19, .inl (cI, 9, .inl g1)), (M 20, .inl (cI, 8, .inl g2)), (M 21, .inl (cI, 4, .inl ga)), (M 22, .inl (cI, 4, .inl fb))]) [0, 1, 2, 3, 4] rfl) (hD.sub (ws' := [(M 0, mO M ca nn ft kn dy fd ak pl iw nm fi nf nk sd ik kc kf kk kd ko hh), (M 19, .inl (cI, 9, .inl g1)), (M 20, .inl (cI, 8, .inl g2)), (M 21, .inl (cI, 4, .inl ga)), (M 22, .inl (cI, 4, .inl fb))]) [0, 1, 2, 3, 4] (by decide) rfl) hK (show vz_R D [(M 2, .inl (cI, 4, .inl (fun f => nI (F.1 f)))), (M 3, .inl (cI, 4, .inl F.2.1)), (M 4, .inl (cI, 4, .inl F.2.2)), (M 7, .inl (cI, 8, .inl r))] _ _ from (vz_R.cons ((hR.at hS).one hFc (List.mem_of_getElem? (i := 0) rfl)) (vz_R.cons ((hR.at hS).one hFc (List.mem_of_getElem? (i := 1) rfl)) (vz_R.cons ((hR.at hS).one hFc (List.mem_of_getElem? (i := 2) rfl)) (vz_R.cons ((hR.at hS).one hFc (List.mem_of_getElem? (i := 3) rfl)) vz_R.nil)))))) rfl rfl hl.1 rfl (lv_room (Nat.le_of_ble_eq_true rfl)) dX9_thinkDay_9 ⟨Nat.le_of_ble_eq_true rfl, Nat.le_of_ble_eq_true rfl⟩) hP hD hS hA rfl rfl rfl (by decide) (fun u H locs hu hP hD hS hz9 hk9 => ?_)
  have hP : va_P D vwCl [(M 0, mO M ca nn ft kn dy fd ak pl iw nm (zFb F r ft kn 8) (zDf F r ft kn 8) (zDk F r ft kn 8) sd ik kc kf kk kd ko hh), (M 19, .inl (cI, 9, .inl (zDf F r ft kn))), (M 20, .inl (cI, 8, .inl (zDh F r ft kn))), (M 21, .inl (cI, 4, .inl (fun f => zGs (zDg F r ft kn) r (nI f) 8))), (M 22, .inl (cI, 4, .inl (fun f => zGs (zDe F r ft kn) r (nI f) 8)))] H := hP
  have hD : va_D A [(M 0, mO M ca nn ft kn dy fd ak pl iw nm (zFb F r ft kn 8) (zDf F r ft kn 8) (zDk F r ft kn 8) sd ik kc kf kk kd ko hh), (M 19, .inl (cI, 9, .inl (zDf F r ft kn))), (M 20, .inl (cI, 8, .inl (zDh F r ft kn))), (M 21, .inl (cI, 4, .inl (fun f => zGs (zDg F r ft kn) r (nI f) 8))), (M 22, .inl (cI, 4, .inl (fun f => zGs (zDe F r ft kn) r (nI f) 8)))] := hD
  have hQ : va_P D vwCl ([(M 0, mO M ca nn ft kn dy fd ak pl iw nm (zFb F r ft kn 8) (zDf F r ft kn 8) (zDk F r ft kn 8) sd ik kc kf kk kd ko hh), (M 19, .inl (cI, 9, .inl (zDf F r ft kn))), (M 20, .inl (cI, 8, .inl (zDh F r ft kn))), (M 21, .inl (cI, 4, .inl (fun f => zGs (zDg F r ft kn) r (nI f) 8))), (M 22, .inl (cI, 4, .inl (fun f => zGs (zDe F r ft kn) r (nI f) 8)))] ++ [(M 2, .inl (cI, 4, .inl (fun f => nI (F.1 f)))), (M 3, .inl (cI, 4, .inl F.2.1)), (M 4, .inl (cI, 4, .inl F.2.2)), (M 7, .inl (cI, 8, .inl r))]) H := va_P.app hP (hR.at hS).P
  show W _ _ _ _ _ _ _ _ _ _ _ _ _ _ _ (F0 m 12 ls [])
  have hP9 := hP.sub (ws' := [(M 0, mO M ca nn ft kn dy fd ak pl iw nm (zFb F r ft kn 8) (zDf F r ft kn 8) (zDk F r ft kn 8) sd ik kc kf kk kd ko hh), (M 19, .inl (cI, 9, .inl (zDf F r ft kn))), (M 20, .inl (cI, 8, .inl (zDh F r ft kn))), (M 21, .inl (cI, 4, .inl (fun f => zGs (zDg F r ft kn) r (nI f) 8))), (M 22, .inl (cI, 4, .inl (fun f => zGs (zDe F r ft kn) r (nI f) 8)))]) [0, 1, 2, 3, 4] rfl
  have hD9 := hD.sub (ws' := [(M 0, mO M ca nn ft kn dy fd ak pl iw nm (zFb F r ft kn 8) (zDf F r ft kn 8) (zDk F r ft kn 8) sd ik kc kf kk kd ko hh), (M 19, .inl (cI, 9, .inl (zDf F r ft kn))), (M 20, .inl (cI, 8, .inl (zDh F r ft kn))), (M 21, .inl (cI, 4, .inl (fun f => zGs (zDg F r ft kn) r (nI f) 8))), (M 22, .inl (cI, 4, .inl (fun f => zGs (zDe F r ft kn) r (nI f) 8)))]) [0, 1, 2, 3, 4] (by decide) rfl
  exact W.vret hx hb hr (fun t ht hW => ⟨⟨(), rfl, trivial, by rw [ht]; exact hP9, hD9⟩, hS.F ht⟩) hS.2.2 dX9_thinkDay_12
set_option maxRecDepth 100000 in
theorem iw_X9_gainAll_X9 : ∀ w ∈ u_ws RX9 TX9 41, w ∈ wsX9_gainAll := fun w h => List.mem_cons_of_mem _ (List.mem_append_right _ h)
set_option maxRecDepth 100000 in
theorem hw_X9_gainAll_1 : (.fieldLink RX9 100 "RotaFathersModel" "fathers" "I" : Cond) ∈ wsX9_gainAll := List.mem_of_getElem? (i := 1) rfl
set_option maxRecDepth 100000 in
theorem hw_X9_gainAll_2 : (.fieldLink RX9 44 "RotaFathersModel" "gainOf" "[I" : Cond) ∈ wsX9_gainAll := List.mem_of_getElem? (i := 2) rfl
set_option maxRecDepth 100000 in
theorem hd_X9_gainAll : yX9_gainAll.cls ≠ "java/lang/invoke/MethodHandle" ∧ yX9_gainAll.cls ≠ "java/lang/invoke/VarHandle" ∧ (parseMethodDescriptor yX9_gainAll.desc).map (fun d => d.parameters.length) = some 0 := by decide +kernel
set_option maxHeartbeats 4000000 in
set_option maxRecDepth 100000 in
theorem c_X9_gainAll (l : Launch) (D : va_G) (cI cB cF : ClassId) (M : Nat → Nat) (ca : Int32) (ft : Int32) (kn : Int32) (dy : Int32) (fd : Int32) (ak : Int32) (pl : Int32) (iw : Int32) (nm : Int32) (fi : Int32) (nf : Int32) (nk : Int32) (sd : Int64) (ik : Int32) (kc : Int32) (kf : Int32) (kk : Int32) (kd : Int32) (ko : Int32) (hh : Int64) (n : Nat) (g : Nat → Int32) (hn : n ≤ 4) : Met l yX9_gainAll wsX9_gainAll ({ frames := 0, cells := 0, slots := 0, locals := 0 } : Room) (PcP D cI cB cF [.ref (M 0)] [(M 0, mO M ca (nI n) ft kn dy fd ak pl iw nm fi nf nk sd ik kc kf kk kd ko hh), (M 21, .inl (cI, 4, .inl g))]) (QcV (.int (zSum g n))) 0 0 (fun _ => False) := by
  refine Met.ofW (cc := cX9_gainAll) (maxL := 3) (ret := (some .int)) (by decide) rfl ?_
  intro p e s m args below meth c s₁ Bd hml hv
  rw [show (headSpec wsX9_gainAll ({ frames := 0, cells := 0, slots := 0, locals := 0 } : Room)).room = ({ frames := 0, cells := 0, slots := 0, locals := 0 } : Room) from rfl]
  obtain ⟨rfl, hQ, hK⟩ := hv
  have hx := Bd.exec
  have hb := Bd.bytes
  have hr := Bd.returns
  have hts := atoms_spec (ws := wsX9_gainAll) Bd.pre
  have hown : s.vm.findClass RX9 = some m.cls := findClass_of_methodNamed Bd.named
  have hlocks := Bd.notSynchronized
  have FX : CallFix p m c cX9_gainAll 3 s _ wsX9_gainAll RX9 := ⟨hx, hb, hml, hown, hts⟩
  have hQ : va_P D vwCl [(M 0, mO M ca (nI n) ft kn dy fd ak pl iw nm fi nf nk sd ik kc kf kk kd ko hh), (M 21, .inl (cI, 4, .inl g))] s.heap := hQ
  have hl := lv_entry ([.ref (M 0)]) (n := 3) (Nat.le_of_ble_eq_true rfl)
  rw [lg_entry_eq]
  generalize (lg_sl ([.ref (M 0)]) ++ List.replicate (3 - (lg_sl ([.ref (M 0)])).length) Slot.unset).toArray = ls at hl ⊢
  have hl : lv_has ls 3 [(0, .ref (M 0))] := hl
  refine lv_iconst (v := 0) hx hb dX9_gainAll_0 (by decide) ?_
  refine lv_istore_n (lv' := [(1, .int 0), (0, .ref (M 0))]) hx hb dX9_gainAll_1 rfl hl (by decide) rfl (fun ls hl => ?_)
  refine lv_iconst (v := 0) hx hb dX9_gainAll_2 (by decide) ?_
  refine lv_istore_n (lv' := [(2, .int 0), (1, .int 0), (0, .ref (M 0))]) hx hb dX9_gainAll_3 rfl hl (by decide) rfl (fun ls hl => ?_)
  refine vz_loopP (nL := 3) (σ := Nat) (fun xx => n - xx) (fun xx => (xx ≤ n)) (fun xx => [(0, .ref (M 0)), (1, .int (zSum g xx)), (2, .int (nI xx))]) (fun xx => []) ?_ 0 (Nat.zero_le _) (lv_sub hl [2, 1, 0] rfl)
  rintro k hI ih_4 ls hl
  have hk := hI
  have hk : k ≤ n := hk
  have hl : lv_has ls 3 [(0, .ref (M 0)), (1, .int (zSum g k)), (2, .int (nI k))] := hl
  show W _ _ _ _ _ _ _ _ _ _ _ _ _ _ _ (F0 m 4 ls [])
  refine lv_iload_n hx hb dX9_gainAll_4 rfl (lv_at hl 2 rfl) ?_
  refine lv_aload_n hx hb dX9_gainAll_5 rfl (lv_at hl 0 rfl) ?_
  refine va_get (D := D) (cl := vwCl) (tys := zT cI cB cF) (ci := 9) (v := .int (nI n)) (C := RX9) (T := TX9) (N := 41) hx hb hts iw_X9_gainAll_X9 hown hK.1 hQ 0 rfl rfl 1 (by decide) (hts _ hw_X9_gainAll_1) (fun _ h9 => h9) rfl dX9_gainAll_6 ?_
  refine lv_icmp_ge (tgt := 27) hx hb dX9_gainAll_9 (by decide) (fun c_9 => ?_) (fun c_9 => ?_)
  · have hge_9 : n ≤ k := (nI_zle (a := n) (b := k) (by omega) (by omega)).mp c_9
    refine lv_iload_n hx hb dX9_gainAll_27 rfl (lv_at hl 1 rfl) ?_
    refine vz_si (zSum g n) (by rw [show k = n by omega]) ?_
    exact W.iret hx hb hr (fun t ht hW => ⟨rfl, ht⟩) (fun q h => by cases h) dX9_gainAll_28
  · have hlt_9 : k < n := Nat.lt_of_not_le fun q => c_9 ((nI_zle (a := n) (b := k) (by omega) (by omega)).mpr q)
    refine lv_iload_n hx hb dX9_gainAll_12 rfl (lv_at hl 1 rfl) ?_
    refine lv_aload_n hx hb dX9_gainAll_13 rfl (lv_at hl 0 rfl) ?_
    refine va_get (D := D) (cl := vwCl) (tys := zT cI cB cF) (ci := 9) (v := .ref (M 21)) (C := RX9) (T := TX9) (N := 41) hx hb hts iw_X9_gainAll_X9 hown hK.1 hQ 0 rfl rfl 21 (by decide) (hts _ hw_X9_gainAll_2) (fun _ h9 => h9) rfl dX9_gainAll_14 ?_
    refine lv_iload_n hx hb dX9_gainAll_17 rfl (lv_at hl 2 rfl) ?_
    refine va_iald (D := D) (cl := vwCl) (tys := zT cI cB cF) (f := g) hx hb hK.1 hQ 1 0 rfl rfl (vp_in_nI (by omega) (by omega)) dX9_gainAll_18 ?_
    refine vz_si (g k) (by rw [nI_clamp (n := k) (by omega)]) ?_
    refine lv_iadd hx hb dX9_gainAll_19 ?_
    refine vz_si (zSum g (k + 1)) (rfl) ?_
    refine lv_istore_n (lv' := [(1, .int (zSum g (k + 1))), (0, .ref (M 0)), (2, .int (nI k))]) hx hb dX9_gainAll_20 rfl hl (by decide) rfl (fun ls hl => ?_)
    refine lv_iinc (v := (nI (k + 1))) (lv' := [(2, .int (nI (k + 1))), (1, .int (zSum g (k + 1))), (0, .ref (M 0))]) hx hb dX9_gainAll_21 hl (k := 2) rfl ((nI_succ k).symm) (by decide) rfl (fun ls hl => ?_)
    refine lv_goto (tgt := 4) hx hb dX9_gainAll_24 (by decide) ?_
    exact ih_4 (k + 1) (by (try dsimp only); omega) (hlt_9) ls (lv_sub hl [2, 1, 0] rfl)
set_option maxRecDepth 100000 in
theorem iw_X9_fallAll_X9 : ∀ w ∈ u_ws RX9 TX9 41, w ∈ wsX9_fallAll := fun w h => List.mem_cons_of_mem _ (List.mem_append_right _ h)
set_option maxRecDepth 100000 in
theorem hw_X9_fallAll_1 : (.fieldLink RX9 100 "RotaFathersModel" "fathers" "I" : Cond) ∈ wsX9_fallAll := List.mem_of_getElem? (i := 1) rfl
set_option maxRecDepth 100000 in
theorem hw_X9_fallAll_2 : (.fieldLink RX9 47 "RotaFathersModel" "fallOf" "[I" : Cond) ∈ wsX9_fallAll := List.mem_of_getElem? (i := 2) rfl
set_option maxRecDepth 100000 in
theorem hd_X9_fallAll : yX9_fallAll.cls ≠ "java/lang/invoke/MethodHandle" ∧ yX9_fallAll.cls ≠ "java/lang/invoke/VarHandle" ∧ (parseMethodDescriptor yX9_fallAll.desc).map (fun d => d.parameters.length) = some 0 := by decide +kernel
set_option maxHeartbeats 4000000 in
set_option maxRecDepth 100000 in
theorem c_X9_fallAll (l : Launch) (D : va_G) (cI cB cF : ClassId) (M : Nat → Nat) (ca : Int32) (ft : Int32) (kn : Int32) (dy : Int32) (fd : Int32) (ak : Int32) (pl : Int32) (iw : Int32) (nm : Int32) (fi : Int32) (nf : Int32) (nk : Int32) (sd : Int64) (ik : Int32) (kc : Int32) (kf : Int32) (kk : Int32) (kd : Int32) (ko : Int32) (hh : Int64) (n : Nat) (g : Nat → Int32) (hn : n ≤ 4) : Met l yX9_fallAll wsX9_fallAll ({ frames := 0, cells := 0, slots := 0, locals := 0 } : Room) (PcP D cI cB cF [.ref (M 0)] [(M 0, mO M ca (nI n) ft kn dy fd ak pl iw nm fi nf nk sd ik kc kf kk kd ko hh), (M 22, .inl (cI, 4, .inl g))]) (QcV (.int (zSum g n))) 0 0 (fun _ => False) := by
  refine Met.ofW (cc := cX9_fallAll) (maxL := 3) (ret := (some .int)) (by decide) rfl ?_
  intro p e s m args below meth c s₁ Bd hml hv
  rw [show (headSpec wsX9_fallAll ({ frames := 0, cells := 0, slots := 0, locals := 0 } : Room)).room = ({ frames := 0, cells := 0, slots := 0, locals := 0 } : Room) from rfl]
  obtain ⟨rfl, hQ, hK⟩ := hv
  have hx := Bd.exec
  have hb := Bd.bytes
  have hr := Bd.returns
  have hts := atoms_spec (ws := wsX9_fallAll) Bd.pre
  have hown : s.vm.findClass RX9 = some m.cls := findClass_of_methodNamed Bd.named
  have hlocks := Bd.notSynchronized
  have FX : CallFix p m c cX9_fallAll 3 s _ wsX9_fallAll RX9 := ⟨hx, hb, hml, hown, hts⟩
  have hQ : va_P D vwCl [(M 0, mO M ca (nI n) ft kn dy fd ak pl iw nm fi nf nk sd ik kc kf kk kd ko hh), (M 22, .inl (cI, 4, .inl g))] s.heap := hQ
  have hl := lv_entry ([.ref (M 0)]) (n := 3) (Nat.le_of_ble_eq_true rfl)
  rw [lg_entry_eq]
  generalize (lg_sl ([.ref (M 0)]) ++ List.replicate (3 - (lg_sl ([.ref (M 0)])).length) Slot.unset).toArray = ls at hl ⊢
  have hl : lv_has ls 3 [(0, .ref (M 0))] := hl
  refine lv_iconst (v := 0) hx hb dX9_fallAll_0 (by decide) ?_
  refine lv_istore_n (lv' := [(1, .int 0), (0, .ref (M 0))]) hx hb dX9_fallAll_1 rfl hl (by decide) rfl (fun ls hl => ?_)
  refine lv_iconst (v := 0) hx hb dX9_fallAll_2 (by decide) ?_
  refine lv_istore_n (lv' := [(2, .int 0), (1, .int 0), (0, .ref (M 0))]) hx hb dX9_fallAll_3 rfl hl (by decide) rfl (fun ls hl => ?_)
  refine vz_loopP (nL := 3) (σ := Nat) (fun xx => n - xx) (fun xx => (xx ≤ n)) (fun xx => [(0, .ref (M 0)), (1, .int (zSum g xx)), (2, .int (nI xx))]) (fun xx => []) ?_ 0 (Nat.zero_le _) (lv_sub hl [2, 1, 0] rfl)
  rintro k hI ih_4 ls hl
  have hk := hI
  have hk : k ≤ n := hk
  have hl : lv_has ls 3 [(0, .ref (M 0)), (1, .int (zSum g k)), (2, .int (nI k))] := hl
  show W _ _ _ _ _ _ _ _ _ _ _ _ _ _ _ (F0 m 4 ls [])
  refine lv_iload_n hx hb dX9_fallAll_4 rfl (lv_at hl 2 rfl) ?_
  refine lv_aload_n hx hb dX9_fallAll_5 rfl (lv_at hl 0 rfl) ?_
  refine va_get (D := D) (cl := vwCl) (tys := zT cI cB cF) (ci := 9) (v := .int (nI n)) (C := RX9) (T := TX9) (N := 41) hx hb hts iw_X9_fallAll_X9 hown hK.1 hQ 0 rfl rfl 1 (by decide) (hts _ hw_X9_fallAll_1) (fun _ h9 => h9) rfl dX9_fallAll_6 ?_
  refine lv_icmp_ge (tgt := 27) hx hb dX9_fallAll_9 (by decide) (fun c_9 => ?_) (fun c_9 => ?_)
  · have hge_9 : n ≤ k := (nI_zle (a := n) (b := k) (by omega) (by omega)).mp c_9
    refine lv_iload_n hx hb dX9_fallAll_27 rfl (lv_at hl 1 rfl) ?_
    refine vz_si (zSum g n) (by rw [show k = n by omega]) ?_
    exact W.iret hx hb hr (fun t ht hW => ⟨rfl, ht⟩) (fun q h => by cases h) dX9_fallAll_28
  · have hlt_9 : k < n := Nat.lt_of_not_le fun q => c_9 ((nI_zle (a := n) (b := k) (by omega) (by omega)).mpr q)
    refine lv_iload_n hx hb dX9_fallAll_12 rfl (lv_at hl 1 rfl) ?_
    refine lv_aload_n hx hb dX9_fallAll_13 rfl (lv_at hl 0 rfl) ?_
    refine va_get (D := D) (cl := vwCl) (tys := zT cI cB cF) (ci := 9) (v := .ref (M 22)) (C := RX9) (T := TX9) (N := 41) hx hb hts iw_X9_fallAll_X9 hown hK.1 hQ 0 rfl rfl 22 (by decide) (hts _ hw_X9_fallAll_2) (fun _ h9 => h9) rfl dX9_fallAll_14 ?_
    refine lv_iload_n hx hb dX9_fallAll_17 rfl (lv_at hl 2 rfl) ?_
    refine va_iald (D := D) (cl := vwCl) (tys := zT cI cB cF) (f := g) hx hb hK.1 hQ 1 0 rfl rfl (vp_in_nI (by omega) (by omega)) dX9_fallAll_18 ?_
    refine vz_si (g k) (by rw [nI_clamp (n := k) (by omega)]) ?_
    refine lv_iadd hx hb dX9_fallAll_19 ?_
    refine vz_si (zSum g (k + 1)) (rfl) ?_
    refine lv_istore_n (lv' := [(1, .int (zSum g (k + 1))), (0, .ref (M 0)), (2, .int (nI k))]) hx hb dX9_fallAll_20 rfl hl (by decide) rfl (fun ls hl => ?_)
    refine lv_iinc (v := (nI (k + 1))) (lv' := [(2, .int (nI (k + 1))), (1, .int (zSum g (k + 1))), (0, .ref (M 0))]) hx hb dX9_fallAll_21 hl (k := 2) rfl ((nI_succ k).symm) (by decide) rfl (fun ls hl => ?_)
    refine lv_goto (tgt := 4) hx hb dX9_fallAll_24 (by decide) ?_
    exact ih_4 (k + 1) (by (try dsimp only); omega) (hlt_9) ls (lv_sub hl [2, 1, 0] rfl)
set_option maxRecDepth 100000 in
theorem iw_X9_shiftsOf_X9 : ∀ w ∈ u_ws RX9 TX9 41, w ∈ wsX9_shiftsOf := fun w h => List.mem_cons_of_mem _ (List.mem_append_right _ h)
set_option maxRecDepth 100000 in
theorem hw_X9_shiftsOf_1 : (.fieldLink RX9 25 "RotaFathersModel" "rotaOf" "[I" : Cond) ∈ wsX9_shiftsOf := List.mem_of_getElem? (i := 1) rfl
set_option maxRecDepth 100000 in
theorem hd_X9_shiftsOf : yX9_shiftsOf.cls ≠ "java/lang/invoke/MethodHandle" ∧ yX9_shiftsOf.cls ≠ "java/lang/invoke/VarHandle" ∧ (parseMethodDescriptor yX9_shiftsOf.desc).map (fun d => d.parameters.length) = some 1 := by decide +kernel
set_option maxHeartbeats 4000000 in
set_option maxRecDepth 100000 in
theorem c_X9_shiftsOf (l : Launch) (D : va_G) (cI cB cF : ClassId) (M : Nat → Nat) (ca : Int32) (nn : Int32) (ft : Int32) (kn : Int32) (dy : Int32) (fd : Int32) (ak : Int32) (pl : Int32) (iw : Int32) (nm : Int32) (fi : Int32) (nf : Int32) (nk : Int32) (sd : Int64) (ik : Int32) (kc : Int32) (kf : Int32) (kk : Int32) (kd : Int32) (ko : Int32) (hh : Int64) (r : Nat → Int32) (w : Int32)  : Met l yX9_shiftsOf wsX9_shiftsOf ({ frames := 0, cells := 0, slots := 0, locals := 0 } : Room) (PcP D cI cB cF [.ref (M 0), .int w] [(M 0, mO M ca nn ft kn dy fd ak pl iw nm fi nf nk sd ik kc kf kk kd ko hh), (M 7, .inl (cI, 8, .inl r))]) (QcV (.int (zBits r w 8))) 0 0 (fun _ => False) := by
  refine Met.ofW (cc := cX9_shiftsOf) (maxL := 4) (ret := (some .int)) (by decide) rfl ?_
  intro p e s m args below meth c s₁ Bd hml hv
  rw [show (headSpec wsX9_shiftsOf ({ frames := 0, cells := 0, slots := 0, locals := 0 } : Room)).room = ({ frames := 0, cells := 0, slots := 0, locals := 0 } : Room) from rfl]
  obtain ⟨rfl, hQ, hK⟩ := hv
  have hx := Bd.exec
  have hb := Bd.bytes
  have hr := Bd.returns
  have hts := atoms_spec (ws := wsX9_shiftsOf) Bd.pre
  have hown : s.vm.findClass RX9 = some m.cls := findClass_of_methodNamed Bd.named
  have hlocks := Bd.notSynchronized
  have FX : CallFix p m c cX9_shiftsOf 4 s _ wsX9_shiftsOf RX9 := ⟨hx, hb, hml, hown, hts⟩
  have hQ : va_P D vwCl [(M 0, mO M ca nn ft kn dy fd ak pl iw nm fi nf nk sd ik kc kf kk kd ko hh), (M 7, .inl (cI, 8, .inl r))] s.heap := hQ
  have hl := lv_entry ([.ref (M 0), .int w]) (n := 4) (Nat.le_of_ble_eq_true rfl)
  rw [lg_entry_eq]
  generalize (lg_sl ([.ref (M 0), .int w]) ++ List.replicate (4 - (lg_sl ([.ref (M 0), .int w])).length) Slot.unset).toArray = ls at hl ⊢
  have hl : lv_has ls 4 [(0, .ref (M 0)), (1, .int w)] := hl
  refine lv_iconst (v := 0) hx hb dX9_shiftsOf_0 (by decide) ?_
  refine lv_istore_n (lv' := [(2, .int 0), (0, .ref (M 0)), (1, .int w)]) hx hb dX9_shiftsOf_1 rfl hl (by decide) rfl (fun ls hl => ?_)
  refine lv_iconst (v := 0) hx hb dX9_shiftsOf_2 (by decide) ?_
  refine lv_istore_n (lv' := [(3, .int 0), (2, .int 0), (0, .ref (M 0)), (1, .int w)]) hx hb dX9_shiftsOf_3 rfl hl (by decide) rfl (fun ls hl => ?_)
  refine vz_loopP (nL := 4) (σ := Nat) (fun xx => 8 - xx) (fun xx => (xx ≤ 8)) (fun xx => [(0, .ref (M 0)), (1, .int w), (2, .int (zBits r w xx)), (3, .int (nI xx))]) (fun xx => []) ?_ 0 (Nat.zero_le _) (lv_sub hl [2, 3, 1, 0] rfl)
  rintro k hI ih_4 ls hl
  have hk := hI
  have hk : k ≤ 8 := hk
  have hl : lv_has ls 4 [(0, .ref (M 0)), (1, .int w), (2, .int (zBits r w k)), (3, .int (nI k))] := hl
  show W _ _ _ _ _ _ _ _ _ _ _ _ _ _ _ (F0 m 4 ls [])
  refine lv_iload_n hx hb dX9_shiftsOf_4 rfl (lv_at hl 3 rfl) ?_
  refine lv_bipush (v := 8) hx hb dX9_shiftsOf_5 (by decide) ?_
  refine lv_icmp_ge (tgt := 36) hx hb dX9_shiftsOf_7 (by decide) (fun c_7 => ?_) (fun c_7 => ?_)
  · have hge_7 : 8 ≤ k := (nI_zle (a := 8) (b := k) (by omega) (by omega)).mp c_7
    refine lv_iload_n hx hb dX9_shiftsOf_36 rfl (lv_at hl 2 rfl) ?_
    refine vz_si (zBits r w 8) (by rw [show k = 8 by omega]) ?_
    exact W.iret hx hb hr (fun t ht hW => ⟨rfl, ht⟩) (fun q h => by cases h) dX9_shiftsOf_37
  · have hlt_7 : k < 8 := Nat.lt_of_not_le fun q => c_7 ((nI_zle (a := 8) (b := k) (by omega) (by omega)).mpr q)
    refine lv_iload_n hx hb dX9_shiftsOf_10 rfl (lv_at hl 2 rfl) ?_
    refine lv_aload_n hx hb dX9_shiftsOf_11 rfl (lv_at hl 0 rfl) ?_
    refine va_get (D := D) (cl := vwCl) (tys := zT cI cB cF) (ci := 9) (v := .ref (M 7)) (C := RX9) (T := TX9) (N := 41) hx hb hts iw_X9_shiftsOf_X9 hown hK.1 hQ 0 rfl rfl 7 (by decide) (hts _ hw_X9_shiftsOf_1) (fun _ h9 => h9) rfl dX9_shiftsOf_12 ?_
    refine lv_iload_n hx hb dX9_shiftsOf_15 rfl (lv_at hl 3 rfl) ?_
    refine va_iald (D := D) (cl := vwCl) (tys := zT cI cB cF) (f := r) hx hb hK.1 hQ 1 0 rfl rfl (vp_in_nI (by omega) (by omega)) dX9_shiftsOf_16 ?_
    refine vz_si (r k) (by rw [nI_clamp (n := k) (by omega)]) ?_
    refine lv_iload_n hx hb dX9_shiftsOf_17 rfl (lv_at hl 1 rfl) ?_
    refine lv_icmp_ne (tgt := 27) hx hb dX9_shiftsOf_18 (by decide) (fun c_18 => ?_) (fun c_18 => ?_)
    · refine lv_iconst (v := 0) hx hb dX9_shiftsOf_27 (by decide) ?_
      refine lv_ior hx hb dX9_shiftsOf_28 ?_
      refine vz_si (zBits r w (k + 1)) (by show _ = if r k = w then _ else _; rw [if_neg c_18, Int32.or_zero]) ?_
      refine lv_istore_n (lv' := [(2, .int (zBits r w (k + 1))), (0, .ref (M 0)), (1, .int w), (3, .int (nI k))]) hx hb dX9_shiftsOf_29 rfl hl (by decide) rfl (fun ls hl => ?_)
      refine lv_iinc (v := (nI (k + 1))) (lv' := [(3, .int (nI (k + 1))), (2, .int (zBits r w (k + 1))), (0, .ref (M 0)), (1, .int w)]) hx hb dX9_shiftsOf_30 hl (k := 3) rfl ((nI_succ k).symm) (by decide) rfl (fun ls hl => ?_)
      refine lv_goto (tgt := 4) hx hb dX9_shiftsOf_33 (by decide) ?_
      exact ih_4 (k + 1) (by (try dsimp only); omega) (hlt_7) ls (lv_sub hl [2, 3, 1, 0] rfl)
    · refine lv_iconst (v := 1) hx hb dX9_shiftsOf_21 (by decide) ?_
      refine lv_iload_n hx hb dX9_shiftsOf_22 rfl (lv_at hl 3 rfl) ?_
      refine lv_ishl hx hb dX9_shiftsOf_23 ?_
      refine lv_goto (tgt := 28) hx hb dX9_shiftsOf_24 (by decide) ?_
      refine lv_ior hx hb dX9_shiftsOf_28 ?_
      refine vz_si (zBits r w (k + 1)) (by show _ = if r k = w then _ else _; rw [if_pos c_18]) ?_
      refine lv_istore_n (lv' := [(2, .int (zBits r w (k + 1))), (0, .ref (M 0)), (1, .int w), (3, .int (nI k))]) hx hb dX9_shiftsOf_29 rfl hl (by decide) rfl (fun ls hl => ?_)
      refine lv_iinc (v := (nI (k + 1))) (lv' := [(3, .int (nI (k + 1))), (2, .int (zBits r w (k + 1))), (0, .ref (M 0)), (1, .int w)]) hx hb dX9_shiftsOf_30 hl (k := 3) rfl ((nI_succ k).symm) (by decide) rfl (fun ls hl => ?_)
      refine lv_goto (tgt := 4) hx hb dX9_shiftsOf_33 (by decide) ?_
      exact ih_4 (k + 1) (by (try dsimp only); omega) (hlt_7) ls (lv_sub hl [2, 3, 1, 0] rfl)
set_option maxRecDepth 100000 in
theorem iw_X9_gainThen_X9 : ∀ w ∈ u_ws RX9 TX9 41, w ∈ wsX9_gainThen := fun w h => List.mem_cons_of_mem _ (List.mem_append_right _ h)
set_option maxRecDepth 100000 in
theorem hw_X9_gainThen_1 : (.fieldLink RX9 44 "RotaFathersModel" "gainOf" "[I" : Cond) ∈ wsX9_gainThen := List.mem_of_getElem? (i := 1) rfl
set_option maxRecDepth 100000 in
theorem hd_X9_gainThen : yX9_gainThen.cls ≠ "java/lang/invoke/MethodHandle" ∧ yX9_gainThen.cls ≠ "java/lang/invoke/VarHandle" ∧ (parseMethodDescriptor yX9_gainThen.desc).map (fun d => d.parameters.length) = some 1 := by decide +kernel
set_option maxHeartbeats 4000000 in
set_option maxRecDepth 100000 in
theorem c_X9_gainThen (l : Launch) (D : va_G) (cI cB cF : ClassId) (sz : Nat) (M : Nat → Nat) (ca : Int32) (nn : Int32) (ft : Int32) (kn : Int32) (dy : Int32) (fd : Int32) (ak : Int32) (pl : Int32) (iw : Int32) (nm : Int32) (fi : Int32) (nf : Int32) (nk : Int32) (sd : Int64) (ik : Int32) (kc : Int32) (kf : Int32) (kk : Int32) (kd : Int32) (ko : Int32) (hh : Int64) (g1 : Nat → Int32) (g2 : Nat → Int32) (ga : Nat → Int32) (fb : Nat → Int32) (F : zF) (r : Nat → Int32) (n : Nat) (f : Nat) (hn : n ≤ 4) (hF : zFo n F) (hro : zRo n r) (hkn : zKb kn) (hf : f < 4) : Met l yX9_gainThen wsX9_gainThen ({ frames := 4, cells := 0, slots := 0, locals := 89 } : Room) (PcW D cI cB cF [.ref (M 0), .int (nI f)] sz [(M 0, mO M ca nn ft kn dy fd ak pl iw nm fi nf nk sd ik kc kf kk kd ko hh), (M 19, .inl (cI, 9, .inl g1)), (M 20, .inl (cI, 8, .inl g2)), (M 21, .inl (cI, 4, .inl ga)), (M 22, .inl (cI, 4, .inl fb))] [(M 2, .inl (cI, 4, .inl (fun f => nI (F.1 f)))), (M 3, .inl (cI, 4, .inl F.2.1)), (M 4, .inl (cI, 4, .inl F.2.2)), (M 7, .inl (cI, 8, .inl r))]) (Qw D (S := Unit) (fun xx => some (.int (zGs (zDg F r ft kn) r (nI f) 8))) (fun xx => True) (fun xx => [(M 0, mO M ca nn ft kn dy fd ak pl iw nm (zFb F r ft kn 8) (zDf F r ft kn 8) (zDk F r ft kn 8) sd ik kc kf kk kd ko hh), (M 19, .inl (cI, 9, .inl (zDf F r ft kn))), (M 20, .inl (cI, 8, .inl (zDh F r ft kn))), (M 21, .inl (cI, 4, .inl (fun f => zGs (zDg F r ft kn) r (nI f) 8))), (M 22, .inl (cI, 4, .inl (fun f => zGs (zDe F r ft kn) r (nI f) 8)))]) (va_A [(M 0, mO M ca nn ft kn dy fd ak pl iw nm fi nf nk sd ik kc kf kk kd ko hh), (M 19, .inl (cI, 9, .inl g1)), (M 20, .inl (cI, 8, .inl g2)), (M 21, .inl (cI, 4, .inl ga)), (M 22, .inl (cI, 4, .inl fb))] sz)) 0 0 (va_A [(M 0, mO M ca nn ft kn dy fd ak pl iw nm fi nf nk sd ik kc kf kk kd ko hh), (M 19, .inl (cI, 9, .inl g1)), (M 20, .inl (cI, 8, .inl g2)), (M 21, .inl (cI, 4, .inl ga)), (M 22, .inl (cI, 4, .inl fb))] sz) := by
  refine Met.ofW (cc := cX9_gainThen) (maxL := 2) (ret := (some .int)) (by decide) rfl ?_
  intro p e s m args below meth c s₁ Bd hml hv
  rw [show (headSpec wsX9_gainThen ({ frames := 4, cells := 0, slots := 0, locals := 89 } : Room)).room = ({ frames := 4, cells := 0, slots := 0, locals := 89 } : Room) from rfl]
  obtain ⟨rfl, hsz, hP, hK, hD0, hR⟩ := hv
  have hx := Bd.exec
  have hb := Bd.bytes
  have hr := Bd.returns
  have hts := atoms_spec (ws := wsX9_gainThen) Bd.pre
  have hown : s.vm.findClass RX9 = some m.cls := findClass_of_methodNamed Bd.named
  have hlocks := Bd.notSynchronized
  have FX : CallFix p m c cX9_gainThen 2 s _ wsX9_gainThen RX9 := ⟨hx, hb, hml, hown, hts⟩
  subst hsz
  have hD := hD0.self (sz := s.heap.size)
  generalize hAe : va_A [(M 0, mO M ca nn ft kn dy fd ak pl iw nm fi nf nk sd ik kc kf kk kd ko hh), (M 19, .inl (cI, 9, .inl g1)), (M 20, .inl (cI, 8, .inl g2)), (M 21, .inl (cI, 4, .inl ga)), (M 22, .inl (cI, 4, .inl fb))] s.heap.size = A at hD hR ⊢
  have hA : ∀ q : Nat, s.heap.size ≤ q → A q := fun q h => by rw [← hAe]; exact Or.inr h
  have hS : va_S A s.heap s.heap [] := va_S.rf
  have hP : va_P D vwCl [(M 0, mO M ca nn ft kn dy fd ak pl iw nm fi nf nk sd ik kc kf kk kd ko hh), (M 19, .inl (cI, 9, .inl g1)), (M 20, .inl (cI, 8, .inl g2)), (M 21, .inl (cI, 4, .inl ga)), (M 22, .inl (cI, 4, .inl fb))] s.heap := hP
  have hQ : va_P D vwCl ([(M 0, mO M ca nn ft kn dy fd ak pl iw nm fi nf nk sd ik kc kf kk kd ko hh), (M 19, .inl (cI, 9, .inl g1)), (M 20, .inl (cI, 8, .inl g2)), (M 21, .inl (cI, 4, .inl ga)), (M 22, .inl (cI, 4, .inl fb))] ++ [(M 2, .inl (cI, 4, .inl (fun f => nI (F.1 f)))), (M 3, .inl (cI, 4, .inl F.2.1)), (M 4, .inl (cI, 4, .inl F.2.2)), (M 7, .inl (cI, 8, .inl r))]) s.heap := va_P.app hP (hR.at hS).P
  have hl := lv_entry ([.ref (M 0), .int (nI f)]) (n := 2) (Nat.le_of_ble_eq_true rfl)
  rw [lg_entry_eq]
  generalize (lg_sl ([.ref (M 0), .int (nI f)]) ++ List.replicate (2 - (lg_sl ([.ref (M 0), .int (nI f)])).length) Slot.unset).toArray = ls at hl ⊢
  have hl : lv_has ls 2 [(0, .ref (M 0)), (1, .int (nI f))] := hl
  refine lv_aload_n hx hb dX9_gainThen_0 rfl (lv_at hl 0 rfl) ?_
  have hFc := va_free (wc := [(M 0, mO M ca nn ft kn dy fd ak pl iw nm fi nf nk sd ik kc kf kk kd ko hh), (M 19, .inl (cI, 9, .inl g1)), (M 20, .inl (cI, 8, .inl g2)), (M 21, .inl (cI, 4, .inl ga)), (M 22, .inl (cI, 4, .inl fb))]) hD hS hA [0, 1, 2, 3, 4] rfl
  refine vz_cw [] [0, 1, 2, 3, 4] [] (va_runV (As := []) (rest := []) FX (c_X9_thinkDay l D cI cB cF s.heap.size M ca nn ft kn dy fd ak pl iw nm fi nf nk sd ik kc kf kk kd ko hh g1 g2 ga fb F r n (by first | assumption | omega | decide) (by first | assumption | omega | decide) (by first | assumption | omega | decide) (by first | assumption | omega | decide)) (cwV 0 hts gX9_gainThen_X9_thinkDay rfl rfl rfl ⟨rfl, hd_X9_thinkDay⟩ ⟨Nat.le_of_ble_eq_true rfl, Nat.le_of_ble_eq_true rfl⟩) (preW_V hQ 0 rfl rfl (hP.sub (ws' := [(M 0, mO M ca nn ft kn dy fd ak pl iw nm fi nf nk sd ik kc kf kk kd ko hh), (M 19, .inl (cI, 9, .inl g1)), (M 20, .inl (cI, 8, .inl g2)), (M 21, .inl (cI, 4, .inl ga)), (M 22, .inl (cI, 4, .inl fb))]) [0, 1, 2, 3, 4] rfl) (hD.sub (ws' := [(M 0, mO M ca nn ft kn dy fd ak pl iw nm fi nf nk sd ik kc kf kk kd ko hh), (M 19, .inl (cI, 9, .inl g1)), (M 20, .inl (cI, 8, .inl g2)), (M 21, .inl (cI, 4, .inl ga)), (M 22, .inl (cI, 4, .inl fb))]) [0, 1, 2, 3, 4] (by decide) rfl) hK (show vz_R D [(M 2, .inl (cI, 4, .inl (fun f => nI (F.1 f)))), (M 3, .inl (cI, 4, .inl F.2.1)), (M 4, .inl (cI, 4, .inl F.2.2)), (M 7, .inl (cI, 8, .inl r))] _ _ from (vz_R.cons ((hR.at hS).one hFc (List.mem_of_getElem? (i := 0) rfl)) (vz_R.cons ((hR.at hS).one hFc (List.mem_of_getElem? (i := 1) rfl)) (vz_R.cons ((hR.at hS).one hFc (List.mem_of_getElem? (i := 2) rfl)) (vz_R.cons ((hR.at hS).one hFc (List.mem_of_getElem? (i := 3) rfl)) vz_R.nil)))))) rfl rfl hl.1 rfl (lv_room (Nat.le_of_ble_eq_true rfl)) dX9_gainThen_1 ⟨Nat.le_of_ble_eq_true rfl, Nat.le_of_ble_eq_true rfl⟩) hP hD hS hA rfl rfl rfl (by decide) (fun u H locs hu hP hD hS hz9 hk9 => ?_)
  have hP : va_P D vwCl [(M 0, mO M ca nn ft kn dy fd ak pl iw nm (zFb F r ft kn 8) (zDf F r ft kn 8) (zDk F r ft kn 8) sd ik kc kf kk kd ko hh), (M 19, .inl (cI, 9, .inl (zDf F r ft kn))), (M 20, .inl (cI, 8, .inl (zDh F r ft kn))), (M 21, .inl (cI, 4, .inl (fun f => zGs (zDg F r ft kn) r (nI f) 8))), (M 22, .inl (cI, 4, .inl (fun f => zGs (zDe F r ft kn) r (nI f) 8)))] H := hP
  have hD : va_D A [(M 0, mO M ca nn ft kn dy fd ak pl iw nm (zFb F r ft kn 8) (zDf F r ft kn 8) (zDk F r ft kn 8) sd ik kc kf kk kd ko hh), (M 19, .inl (cI, 9, .inl (zDf F r ft kn))), (M 20, .inl (cI, 8, .inl (zDh F r ft kn))), (M 21, .inl (cI, 4, .inl (fun f => zGs (zDg F r ft kn) r (nI f) 8))), (M 22, .inl (cI, 4, .inl (fun f => zGs (zDe F r ft kn) r (nI f) 8)))] := hD
  have hQ : va_P D vwCl ([(M 0, mO M ca nn ft kn dy fd ak pl iw nm (zFb F r ft kn 8) (zDf F r ft kn 8) (zDk F r ft kn 8) sd ik kc kf kk kd ko hh), (M 19, .inl (cI, 9, .inl (zDf F r ft kn))), (M 20, .inl (cI, 8, .inl (zDh F r ft kn))), (M 21, .inl (cI, 4, .inl (fun f => zGs (zDg F r ft kn) r (nI f) 8))), (M 22, .inl (cI, 4, .inl (fun f => zGs (zDe F r ft kn) r (nI f) 8)))] ++ [(M 2, .inl (cI, 4, .inl (fun f => nI (F.1 f)))), (M 3, .inl (cI, 4, .inl F.2.1)), (M 4, .inl (cI, 4, .inl F.2.2)), (M 7, .inl (cI, 8, .inl r))]) H := va_P.app hP (hR.at hS).P
  show W _ _ _ _ _ _ _ _ _ _ _ _ _ _ _ (F0 m 4 ls [])
  refine lv_aload_n hx hb dX9_gainThen_4 rfl (lv_at hl 0 rfl) ?_
  refine va_get (D := D) (cl := vwCl) (tys := zT cI cB cF) (ci := 9) (v := .ref (M 21)) (C := RX9) (T := TX9) (N := 41) hx hb hts iw_X9_gainThen_X9 hown hK.1 hQ 0 rfl rfl 21 (by decide) (hts _ hw_X9_gainThen_1) (fun _ h9 => h9) rfl dX9_gainThen_5 ?_
  refine lv_iload_n hx hb dX9_gainThen_8 rfl (lv_at hl 1 rfl) ?_
  refine va_iald (D := D) (cl := vwCl) (tys := zT cI cB cF) (f := (fun f => zGs (zDg F r ft kn) r (nI f) 8)) hx hb hK.1 hQ 3 0 rfl rfl (vp_in_nI (by omega) (by omega)) dX9_gainThen_9 ?_
  refine vz_si (zGs (zDg F r ft kn) r (nI f) 8) (by rw [nI_clamp (n := f) (by omega)]) ?_
  refine vz_si (zGs (zDg F r ft kn) r (nI f) 8) (rfl) ?_
  have hP9 := hP.sub (ws' := [(M 0, mO M ca nn ft kn dy fd ak pl iw nm (zFb F r ft kn 8) (zDf F r ft kn 8) (zDk F r ft kn 8) sd ik kc kf kk kd ko hh), (M 19, .inl (cI, 9, .inl (zDf F r ft kn))), (M 20, .inl (cI, 8, .inl (zDh F r ft kn))), (M 21, .inl (cI, 4, .inl (fun f => zGs (zDg F r ft kn) r (nI f) 8))), (M 22, .inl (cI, 4, .inl (fun f => zGs (zDe F r ft kn) r (nI f) 8)))]) [0, 1, 2, 3, 4] rfl
  have hD9 := hD.sub (ws' := [(M 0, mO M ca nn ft kn dy fd ak pl iw nm (zFb F r ft kn 8) (zDf F r ft kn 8) (zDk F r ft kn 8) sd ik kc kf kk kd ko hh), (M 19, .inl (cI, 9, .inl (zDf F r ft kn))), (M 20, .inl (cI, 8, .inl (zDh F r ft kn))), (M 21, .inl (cI, 4, .inl (fun f => zGs (zDg F r ft kn) r (nI f) 8))), (M 22, .inl (cI, 4, .inl (fun f => zGs (zDe F r ft kn) r (nI f) 8)))]) [0, 1, 2, 3, 4] (by decide) rfl
  exact W.iret hx hb hr (fun t ht hW => ⟨⟨(), rfl, trivial, by rw [ht]; exact hP9, hD9⟩, hS.F ht⟩) hS.2.2 dX9_gainThen_10
