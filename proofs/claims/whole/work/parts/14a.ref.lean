set_option maxRecDepth 100000 in
theorem iw_X9_letter_X9 : ∀ w ∈ u_ws RX9 TX9 41, w ∈ wsX9_letter := fun w h => List.mem_cons_of_mem _ (List.mem_append_right _ h)
set_option maxRecDepth 100000 in
theorem hw_X9_letter_1 : (.fieldLink RX9 75 "RotaFathersModel" "pageLength" "I" : Cond) ∈ wsX9_letter := List.mem_of_getElem? (i := 1) rfl
set_option maxRecDepth 100000 in
theorem hw_X9_letter_2 : (.fieldLink RX9 34 "RotaFathersModel" "page" "[B" : Cond) ∈ wsX9_letter := List.mem_of_getElem? (i := 2) rfl
set_option maxRecDepth 100000 in
theorem hd_X9_letter : yX9_letter.cls ≠ "java/lang/invoke/MethodHandle" ∧ yX9_letter.cls ≠ "java/lang/invoke/VarHandle" ∧ (parseMethodDescriptor yX9_letter.desc).map (fun d => d.parameters.length) = some 1 := by decide +kernel
set_option maxHeartbeats 4000000 in
set_option maxRecDepth 100000 in
theorem c_X9_letter (l : Launch) (D : va_G) (cI cB cF : ClassId) (sz : Nat) (M : Nat → Nat) (ca : Int32) (nn : Int32) (ft : Int32) (kn : Int32) (dy : Int32) (fd : Int32) (ak : Int32) (iw : Int32) (nm : Int32) (fi : Int32) (nf : Int32) (nk : Int32) (sd : Int64) (ik : Int32) (kc : Int32) (kf : Int32) (kk : Int32) (kd : Int32) (ko : Int32) (hh : Int64) (ln : Nat) (pg : Nat → Int32) (cd : Int32) (hln : ln ≤ 18) : Met l yX9_letter wsX9_letter ({ frames := 1, cells := 0, slots := 0, locals := 22 } : Room) (PcW D cI cB cF [.ref (M 0), .int cd] sz [(M 0, mO M ca nn ft kn dy fd ak (nI ln) iw nm fi nf nk sd ik kc kf kk kd ko hh), (M 16, .inl (cB, 18, .inl pg))] []) (Qw D (S := Unit) (fun xx => some (.int (zLe ln cd))) (fun xx => True) (fun xx => [(M 0, mO M ca nn ft kn dy fd ak (nI (zLn ln cd)) iw nm fi nf nk sd ik kc kf kk kd ko hh), (M 16, .inl (cB, 18, .inl (zLp pg ln cd)))]) (va_A [(M 0, mO M ca nn ft kn dy fd ak (nI ln) iw nm fi nf nk sd ik kc kf kk kd ko hh), (M 16, .inl (cB, 18, .inl pg))] sz)) 0 0 (va_A [(M 0, mO M ca nn ft kn dy fd ak (nI ln) iw nm fi nf nk sd ik kc kf kk kd ko hh), (M 16, .inl (cB, 18, .inl pg))] sz) := by
  refine Met.ofW (cc := cX9_letter) (maxL := 2) (ret := (some .int)) (by decide) rfl ?_
  intro p e s m args below meth c s₁ Bd hml hv
  rw [show (headSpec wsX9_letter ({ frames := 1, cells := 0, slots := 0, locals := 22 } : Room)).room = ({ frames := 1, cells := 0, slots := 0, locals := 22 } : Room) from rfl]
  obtain ⟨rfl, hsz, hP, hK, hD0, hR⟩ := hv
  have hx := Bd.exec
  have hb := Bd.bytes
  have hr := Bd.returns
  have hts := atoms_spec (ws := wsX9_letter) Bd.pre
  have hown : s.vm.findClass RX9 = some m.cls := findClass_of_methodNamed Bd.named
  have hlocks := Bd.notSynchronized
  have FX : CallFix p m c cX9_letter 2 s _ wsX9_letter RX9 := ⟨hx, hb, hml, hown, hts⟩
  subst hsz
  have hD := hD0.self (sz := s.heap.size)
  generalize hAe : va_A [(M 0, mO M ca nn ft kn dy fd ak (nI ln) iw nm fi nf nk sd ik kc kf kk kd ko hh), (M 16, .inl (cB, 18, .inl pg))] s.heap.size = A at hD hR ⊢
  have hA : ∀ q : Nat, s.heap.size ≤ q → A q := fun q h => by rw [← hAe]; exact Or.inr h
  have hS : va_S A s.heap s.heap [] := va_S.rf
  have hP : va_P D vwCl [(M 0, mO M ca nn ft kn dy fd ak (nI ln) iw nm fi nf nk sd ik kc kf kk kd ko hh), (M 16, .inl (cB, 18, .inl pg))] s.heap := hP
  have hQ := hP
  have hl := lv_entry ([.ref (M 0), .int cd]) (n := 2) (Nat.le_of_ble_eq_true rfl)
  rw [lg_entry_eq]
  generalize (lg_sl ([.ref (M 0), .int cd]) ++ List.replicate (2 - (lg_sl ([.ref (M 0), .int cd])).length) Slot.unset).toArray = ls at hl ⊢
  have hl : lv_has ls 2 [(0, .ref (M 0)), (1, .int cd)] := hl
  refine lv_iload_n hx hb dX9_letter_0 rfl (lv_at hl 1 rfl) ?_
  refine lv_bipush (v := 32) hx hb dX9_letter_1 (by decide) ?_
  refine lv_bipush (v := 126) hx hb dX9_letter_3 (by decide) ?_
  refine vz_rd (va_runS (As := [.int cd, .int 32, .int 126]) (rest := []) FX (c_X9_within l D cI cB cF cd 32 126 ) (va_cwS 3 hts gX9_letter_X9_within rfl rfl rfl hd_X9_within ⟨Nat.le_of_ble_eq_true rfl, Nat.le_of_ble_eq_true rfl⟩) (preP_S (hQ.sub (ws' := []) [] rfl) hK) rfl rfl hl.1 rfl (lv_room (Nat.le_of_ble_eq_true rfl)) dX9_letter_5 ⟨Nat.le_of_ble_eq_true rfl, Nat.le_of_ble_eq_true rfl⟩) ?_
  refine lv_if_ne (tgt := 14) hx hb dX9_letter_8 (by decide) (fun c_8 => ?_) (fun c_8 => ?_)
  · have b_8 : (zIn cd 32 126) = true := zb_t c_8
    refine lv_aload_n hx hb dX9_letter_14 rfl (lv_at hl 0 rfl) ?_
    refine va_get (D := D) (cl := vwCl) (tys := zT cI cB cF) (ci := 9) (v := .int (nI ln)) (C := RX9) (T := TX9) (N := 41) hx hb hts iw_X9_letter_X9 hown hK.1 hQ 0 rfl rfl 15 (by decide) (hts _ hw_X9_letter_1) (fun _ h9 => h9) rfl dX9_letter_15 ?_
    refine lv_bipush (v := 18) hx hb dX9_letter_18 (by decide) ?_
    refine lv_icmp_ne (tgt := 26) hx hb dX9_letter_20 (by decide) (fun c_20 => ?_) (fun c_20 => ?_)
    · have hl18 : ln < 18 := Nat.lt_of_le_of_ne hln (fun q => c_20 (by rw [q]; rfl))
      refine lv_aload_n hx hb dX9_letter_26 rfl (lv_at hl 0 rfl) ?_
      refine va_get (D := D) (cl := vwCl) (tys := zT cI cB cF) (ci := 9) (v := .ref (M 16)) (C := RX9) (T := TX9) (N := 41) hx hb hts iw_X9_letter_X9 hown hK.1 hQ 0 rfl rfl 16 (by decide) (hts _ hw_X9_letter_2) (fun _ h9 => h9) rfl dX9_letter_27 ?_
      refine lv_aload_n hx hb dX9_letter_30 rfl (lv_at hl 0 rfl) ?_
      refine va_get (D := D) (cl := vwCl) (tys := zT cI cB cF) (ci := 9) (v := .int (nI ln)) (C := RX9) (T := TX9) (N := 41) hx hb hts iw_X9_letter_X9 hown hK.1 hQ 0 rfl rfl 15 (by decide) (hts _ hw_X9_letter_1) (fun _ h9 => h9) rfl dX9_letter_31 ?_
      refine lv_iload_n hx hb dX9_letter_34 rfl (lv_at hl 1 rfl) ?_
      refine lv_i2b (v := cd.toInt8.toInt32) hx hb dX9_letter_35 rfl ?_
      refine vz_si (cd) (z_byte b_8) ?_
      refine va_bast (D := D) (cl := vwCl) (tys := zT cI cB cF) (f := pg) hx hb hK.1 hP hD hS 1 1 rfl rfl (vp_in_nI (by omega) (by omega)) dX9_letter_36 (fun H locs hP hD hS => ?_)
      rw [nI_clamp (n := ln) (by omega)] at hP hD
      have hP : va_P D vwCl [(M 0, mO M ca nn ft kn dy fd ak (nI ln) iw nm fi nf nk sd ik kc kf kk kd ko hh), (M 16, .inl (cB, 18, .inl (upd pg ln (vp_nar .byte cd))))] H := hP
      have hD : va_D A [(M 0, mO M ca nn ft kn dy fd ak (nI ln) iw nm fi nf nk sd ik kc kf kk kd ko hh), (M 16, .inl (cB, 18, .inl (upd pg ln (vp_nar .byte cd))))] := hD
      have hQ := hP
      have hP : va_P D vwCl [(M 0, mO M ca nn ft kn dy fd ak (nI ln) iw nm fi nf nk sd ik kc kf kk kd ko hh), (M 16, .inl (cB, 18, .inl (upd pg ln cd)))] H := vz_arr (g := upd pg ln cd) hP 1 rfl (fun j _ => by rw [vp_nar_byte, z_byte b_8])
      have hD : va_D A [(M 0, mO M ca nn ft kn dy fd ak (nI ln) iw nm fi nf nk sd ik kc kf kk kd ko hh), (M 16, .inl (cB, 18, .inl (upd pg ln cd)))] := vz_arrD hD 1 rfl
      have hQ := hP
      refine lv_aload_n hx hb dX9_letter_37 rfl (lv_at hl 0 rfl) ?_
      refine lv_dup hx hb dX9_letter_38 rfl ?_
      refine va_get (D := D) (cl := vwCl) (tys := zT cI cB cF) (ci := 9) (v := .int (nI ln)) (C := RX9) (T := TX9) (N := 41) hx hb hts iw_X9_letter_X9 hown hK.1 hQ 0 rfl rfl 15 (by decide) (hts _ hw_X9_letter_1) (fun _ h9 => h9) rfl dX9_letter_39 ?_
      refine lv_iconst (v := 1) hx hb dX9_letter_42 (by decide) ?_
      refine lv_iadd hx hb dX9_letter_43 ?_
      refine vz_si (nI (ln + 1)) (nI_1 ln) ?_
      refine va_put (D := D) (cl := vwCl) (tys := zT cI cB cF) (ci := 9) (v := .int (nI (ln + 1))) (ty := .int) (C := RX9) (T := TX9) (N := 41) hx hb hts iw_X9_letter_X9 tyX9 tyX9_ok nmX9 hown hK.1 hP hD hS 0 rfl rfl 15 (by decide) (hts _ hw_X9_letter_1) (fun _ h9 => h9) rfl (tyX9_ok 15 (by decide)) (rfl) (rfl) (Nat.le_of_ble_eq_true rfl) dX9_letter_44 (fun H locs hP hD hS => ?_)
      have hP : va_P D vwCl [(M 0, mO M ca nn ft kn dy fd ak (nI (ln + 1)) iw nm fi nf nk sd ik kc kf kk kd ko hh), (M 16, .inl (cB, 18, .inl (upd pg ln cd)))] H := hP
      have hD : va_D A [(M 0, mO M ca nn ft kn dy fd ak (nI (ln + 1)) iw nm fi nf nk sd ik kc kf kk kd ko hh), (M 16, .inl (cB, 18, .inl (upd pg ln cd)))] := hD
      have hQ := hP
      refine lv_aload_n hx hb dX9_letter_47 rfl (lv_at hl 0 rfl) ?_
      refine va_get (D := D) (cl := vwCl) (tys := zT cI cB cF) (ci := 9) (v := .int (nI (ln + 1))) (C := RX9) (T := TX9) (N := 41) hx hb hts iw_X9_letter_X9 hown hK.1 hQ 0 rfl rfl 15 (by decide) (hts _ hw_X9_letter_1) (fun _ h9 => h9) rfl dX9_letter_48 ?_
      have hP : va_P D vwCl [(M 0, mO M ca nn ft kn dy fd ak (nI (zLn ln cd)) iw nm fi nf nk sd ik kc kf kk kd ko hh), (M 16, .inl (cB, 18, .inl (upd pg ln cd)))] H := by rw [← (show nI (ln + 1) = nI (zLn ln cd) from by rw [zLn, if_pos (by rw [b_8, decide_eq_true hl18]; rfl)])]; exact hP
      have hD : va_D A [(M 0, mO M ca nn ft kn dy fd ak (nI (zLn ln cd)) iw nm fi nf nk sd ik kc kf kk kd ko hh), (M 16, .inl (cB, 18, .inl (upd pg ln cd)))] := by rw [← (show nI (ln + 1) = nI (zLn ln cd) from by rw [zLn, if_pos (by rw [b_8, decide_eq_true hl18]; rfl)])]; exact hD
      have hQ := hP
      have hP : va_P D vwCl [(M 0, mO M ca nn ft kn dy fd ak (nI (zLn ln cd)) iw nm fi nf nk sd ik kc kf kk kd ko hh), (M 16, .inl (cB, 18, .inl (zLp pg ln cd)))] H := vz_arr (g := zLp pg ln cd) hP 1 rfl (fun j _ => by rw [zLp, if_pos (by rw [b_8, decide_eq_true hl18]; rfl)])
      have hD : va_D A [(M 0, mO M ca nn ft kn dy fd ak (nI (zLn ln cd)) iw nm fi nf nk sd ik kc kf kk kd ko hh), (M 16, .inl (cB, 18, .inl (zLp pg ln cd)))] := vz_arrD hD 1 rfl
      have hQ := hP
      refine vz_si (zLe ln cd) (by rw [zLe, if_pos b_8, if_pos hl18]) ?_
      have hP9 := hP.sub (ws' := [(M 0, mO M ca nn ft kn dy fd ak (nI (zLn ln cd)) iw nm fi nf nk sd ik kc kf kk kd ko hh), (M 16, .inl (cB, 18, .inl (zLp pg ln cd)))]) [0, 1] rfl
      have hD9 := hD.sub (ws' := [(M 0, mO M ca nn ft kn dy fd ak (nI (zLn ln cd)) iw nm fi nf nk sd ik kc kf kk kd ko hh), (M 16, .inl (cB, 18, .inl (zLp pg ln cd)))]) [0, 1] (by decide) rfl
      exact W.iret hx hb hr (fun t ht hW => ⟨⟨(), rfl, trivial, by rw [ht]; exact hP9, hD9⟩, hS.F ht⟩) hS.2.2 dX9_letter_51
    · have hl18 : ¬ ln < 18 := by have := (nI_eq (a := ln) (b := 18) (by omega) (by decide)).mp c_20; omega
      refine lv_bipush (v := (-104)) hx hb dX9_letter_23 (by decide) ?_
      have hP : va_P D vwCl [(M 0, mO M ca nn ft kn dy fd ak (nI (zLn ln cd)) iw nm fi nf nk sd ik kc kf kk kd ko hh), (M 16, .inl (cB, 18, .inl pg))] s.heap := by rw [← (show nI ln = nI (zLn ln cd) from by rw [zLn, if_neg (by rw [decide_eq_false hl18, Bool.and_false]; decide)])]; exact hP
      have hD : va_D A [(M 0, mO M ca nn ft kn dy fd ak (nI (zLn ln cd)) iw nm fi nf nk sd ik kc kf kk kd ko hh), (M 16, .inl (cB, 18, .inl pg))] := by rw [← (show nI ln = nI (zLn ln cd) from by rw [zLn, if_neg (by rw [decide_eq_false hl18, Bool.and_false]; decide)])]; exact hD
      have hQ := hP
      have hP : va_P D vwCl [(M 0, mO M ca nn ft kn dy fd ak (nI (zLn ln cd)) iw nm fi nf nk sd ik kc kf kk kd ko hh), (M 16, .inl (cB, 18, .inl (zLp pg ln cd)))] s.heap := vz_arr (g := zLp pg ln cd) hP 1 rfl (fun j _ => by rw [zLp, if_neg (by rw [decide_eq_false hl18, Bool.and_false]; decide)])
      have hD : va_D A [(M 0, mO M ca nn ft kn dy fd ak (nI (zLn ln cd)) iw nm fi nf nk sd ik kc kf kk kd ko hh), (M 16, .inl (cB, 18, .inl (zLp pg ln cd)))] := vz_arrD hD 1 rfl
      have hQ := hP
      refine vz_si (zLe ln cd) (by rw [zLe, if_pos b_8, if_neg hl18]) ?_
      have hP9 := hP.sub (ws' := [(M 0, mO M ca nn ft kn dy fd ak (nI (zLn ln cd)) iw nm fi nf nk sd ik kc kf kk kd ko hh), (M 16, .inl (cB, 18, .inl (zLp pg ln cd)))]) [0, 1] rfl
      have hD9 := hD.sub (ws' := [(M 0, mO M ca nn ft kn dy fd ak (nI (zLn ln cd)) iw nm fi nf nk sd ik kc kf kk kd ko hh), (M 16, .inl (cB, 18, .inl (zLp pg ln cd)))]) [0, 1] (by decide) rfl
      exact W.iret hx hb hr (fun t ht hW => ⟨⟨(), rfl, trivial, by rw [ht]; exact hP9, hD9⟩, hS.F ht⟩) hS.2.2 dX9_letter_25
  · have b_8 : (zIn cd 32 126) = false := zb_f c_8
    refine lv_bipush (v := (-102)) hx hb dX9_letter_11 (by decide) ?_
    have hP : va_P D vwCl [(M 0, mO M ca nn ft kn dy fd ak (nI (zLn ln cd)) iw nm fi nf nk sd ik kc kf kk kd ko hh), (M 16, .inl (cB, 18, .inl pg))] s.heap := by rw [← (show nI ln = nI (zLn ln cd) from by rw [zLn, if_neg (by rw [b_8]; exact Bool.false_ne_true)])]; exact hP
    have hD : va_D A [(M 0, mO M ca nn ft kn dy fd ak (nI (zLn ln cd)) iw nm fi nf nk sd ik kc kf kk kd ko hh), (M 16, .inl (cB, 18, .inl pg))] := by rw [← (show nI ln = nI (zLn ln cd) from by rw [zLn, if_neg (by rw [b_8]; exact Bool.false_ne_true)])]; exact hD
    have hQ := hP
    have hP : va_P D vwCl [(M 0, mO M ca nn ft kn dy fd ak (nI (zLn ln cd)) iw nm fi nf nk sd ik kc kf kk kd ko hh), (M 16, .inl (cB, 18, .inl (zLp pg ln cd)))] s.heap := vz_arr (g := zLp pg ln cd) hP 1 rfl (fun j _ => by rw [zLp, if_neg (by rw [b_8]; exact Bool.false_ne_true)])
    have hD : va_D A [(M 0, mO M ca nn ft kn dy fd ak (nI (zLn ln cd)) iw nm fi nf nk sd ik kc kf kk kd ko hh), (M 16, .inl (cB, 18, .inl (zLp pg ln cd)))] := vz_arrD hD 1 rfl
    have hQ := hP
    refine vz_si (zLe ln cd) (by rw [zLe, if_neg (by rw [b_8]; decide)]) ?_
    have hP9 := hP.sub (ws' := [(M 0, mO M ca nn ft kn dy fd ak (nI (zLn ln cd)) iw nm fi nf nk sd ik kc kf kk kd ko hh), (M 16, .inl (cB, 18, .inl (zLp pg ln cd)))]) [0, 1] rfl
    have hD9 := hD.sub (ws' := [(M 0, mO M ca nn ft kn dy fd ak (nI (zLn ln cd)) iw nm fi nf nk sd ik kc kf kk kd ko hh), (M 16, .inl (cB, 18, .inl (zLp pg ln cd)))]) [0, 1] (by decide) rfl
    exact W.iret hx hb hr (fun t ht hW => ⟨⟨(), rfl, trivial, by rw [ht]; exact hP9, hD9⟩, hS.F ht⟩) hS.2.2 dX9_letter_13
set_option maxRecDepth 100000 in
theorem iw_X9_blank_X9 : ∀ w ∈ u_ws RX9 TX9 41, w ∈ wsX9_blank := fun w h => List.mem_cons_of_mem _ (List.mem_append_right _ h)
set_option maxRecDepth 100000 in
theorem hw_X9_blank_1 : (.fieldLink RX9 75 "RotaFathersModel" "pageLength" "I" : Cond) ∈ wsX9_blank := List.mem_of_getElem? (i := 1) rfl
set_option maxRecDepth 100000 in
theorem hd_X9_blank : yX9_blank.cls ≠ "java/lang/invoke/MethodHandle" ∧ yX9_blank.cls ≠ "java/lang/invoke/VarHandle" ∧ (parseMethodDescriptor yX9_blank.desc).map (fun d => d.parameters.length) = some 0 := by decide +kernel
set_option maxHeartbeats 4000000 in
set_option maxRecDepth 100000 in
theorem c_X9_blank (l : Launch) (D : va_G) (cI cB cF : ClassId) (sz : Nat) (M : Nat → Nat) (ca : Int32) (nn : Int32) (ft : Int32) (kn : Int32) (dy : Int32) (fd : Int32) (ak : Int32) (iw : Int32) (nm : Int32) (fi : Int32) (nf : Int32) (nk : Int32) (sd : Int64) (ik : Int32) (kc : Int32) (kf : Int32) (kk : Int32) (kd : Int32) (ko : Int32) (hh : Int64) (ln : Nat)  : Met l yX9_blank wsX9_blank ({ frames := 0, cells := 0, slots := 0, locals := 0 } : Room) (PcW D cI cB cF [.ref (M 0)] sz [(M 0, mO M ca nn ft kn dy fd ak (nI ln) iw nm fi nf nk sd ik kc kf kk kd ko hh)] []) (Qw D (S := Unit) (fun xx => some (.int (nI ln))) (fun xx => True) (fun xx => [(M 0, mO M ca nn ft kn dy fd ak 0 iw nm fi nf nk sd ik kc kf kk kd ko hh)]) (va_A [(M 0, mO M ca nn ft kn dy fd ak (nI ln) iw nm fi nf nk sd ik kc kf kk kd ko hh)] sz)) 0 0 (va_A [(M 0, mO M ca nn ft kn dy fd ak (nI ln) iw nm fi nf nk sd ik kc kf kk kd ko hh)] sz) := by
  refine Met.ofW (cc := cX9_blank) (maxL := 2) (ret := (some .int)) (by decide) rfl ?_
  intro p e s m args below meth c s₁ Bd hml hv
  rw [show (headSpec wsX9_blank ({ frames := 0, cells := 0, slots := 0, locals := 0 } : Room)).room = ({ frames := 0, cells := 0, slots := 0, locals := 0 } : Room) from rfl]
  obtain ⟨rfl, hsz, hP, hK, hD0, hR⟩ := hv
  have hx := Bd.exec
  have hb := Bd.bytes
  have hr := Bd.returns
  have hts := atoms_spec (ws := wsX9_blank) Bd.pre
  have hown : s.vm.findClass RX9 = some m.cls := findClass_of_methodNamed Bd.named
  have hlocks := Bd.notSynchronized
  have FX : CallFix p m c cX9_blank 2 s _ wsX9_blank RX9 := ⟨hx, hb, hml, hown, hts⟩
  subst hsz
  have hD := hD0.self (sz := s.heap.size)
  generalize hAe : va_A [(M 0, mO M ca nn ft kn dy fd ak (nI ln) iw nm fi nf nk sd ik kc kf kk kd ko hh)] s.heap.size = A at hD hR ⊢
  have hA : ∀ q : Nat, s.heap.size ≤ q → A q := fun q h => by rw [← hAe]; exact Or.inr h
  have hS : va_S A s.heap s.heap [] := va_S.rf
  have hP : va_P D vwCl [(M 0, mO M ca nn ft kn dy fd ak (nI ln) iw nm fi nf nk sd ik kc kf kk kd ko hh)] s.heap := hP
  have hQ := hP
  have hl := lv_entry ([.ref (M 0)]) (n := 2) (Nat.le_of_ble_eq_true rfl)
  rw [lg_entry_eq]
  generalize (lg_sl ([.ref (M 0)]) ++ List.replicate (2 - (lg_sl ([.ref (M 0)])).length) Slot.unset).toArray = ls at hl ⊢
  have hl : lv_has ls 2 [(0, .ref (M 0))] := hl
  refine lv_aload_n hx hb dX9_blank_0 rfl (lv_at hl 0 rfl) ?_
  refine va_get (D := D) (cl := vwCl) (tys := zT cI cB cF) (ci := 9) (v := .int (nI ln)) (C := RX9) (T := TX9) (N := 41) hx hb hts iw_X9_blank_X9 hown hK.1 hQ 0 rfl rfl 15 (by decide) (hts _ hw_X9_blank_1) (fun _ h9 => h9) rfl dX9_blank_1 ?_
  refine lv_istore_n (lv' := [(1, .int (nI ln)), (0, .ref (M 0))]) hx hb dX9_blank_4 rfl hl (by decide) rfl (fun ls hl => ?_)
  refine lv_aload_n hx hb dX9_blank_5 rfl (lv_at hl 1 rfl) ?_
  refine lv_iconst (v := 0) hx hb dX9_blank_6 (by decide) ?_
  refine va_put (D := D) (cl := vwCl) (tys := zT cI cB cF) (ci := 9) (v := .int 0) (ty := .int) (C := RX9) (T := TX9) (N := 41) hx hb hts iw_X9_blank_X9 tyX9 tyX9_ok nmX9 hown hK.1 hP hD hS 0 rfl rfl 15 (by decide) (hts _ hw_X9_blank_1) (fun _ h9 => h9) rfl (tyX9_ok 15 (by decide)) (rfl) (rfl) (Nat.le_of_ble_eq_true rfl) dX9_blank_7 (fun H locs hP hD hS => ?_)
  have hP : va_P D vwCl [(M 0, mO M ca nn ft kn dy fd ak 0 iw nm fi nf nk sd ik kc kf kk kd ko hh)] H := hP
  have hD : va_D A [(M 0, mO M ca nn ft kn dy fd ak 0 iw nm fi nf nk sd ik kc kf kk kd ko hh)] := hD
  have hQ := hP
  refine lv_iload_n hx hb dX9_blank_10 rfl (lv_at hl 0 rfl) ?_
  refine vz_si (nI ln) (rfl) ?_
  have hP9 := hP.sub (ws' := [(M 0, mO M ca nn ft kn dy fd ak 0 iw nm fi nf nk sd ik kc kf kk kd ko hh)]) [0] rfl
  have hD9 := hD.sub (ws' := [(M 0, mO M ca nn ft kn dy fd ak 0 iw nm fi nf nk sd ik kc kf kk kd ko hh)]) [0] (by decide) rfl
  exact W.iret hx hb hr (fun t ht hW => ⟨⟨(), rfl, trivial, by rw [ht]; exact hP9, hD9⟩, hS.F ht⟩) hS.2.2 dX9_blank_11
set_option maxRecDepth 100000 in
theorem iw_X9_fatherNow_X9 : ∀ w ∈ u_ws RX9 TX9 41, w ∈ wsX9_fatherNow := fun w h => List.mem_cons_of_mem _ (List.mem_append_right _ h)
set_option maxRecDepth 100000 in
theorem hw_X9_fatherNow_1 : (.fieldLink RX9 7 "RotaFathersModel" "kindOf" "[I" : Cond) ∈ wsX9_fatherNow := List.mem_of_getElem? (i := 1) rfl
set_option maxRecDepth 100000 in
theorem hw_X9_fatherNow_2 : (.fieldLink RX9 13 "RotaFathersModel" "flawOf" "[I" : Cond) ∈ wsX9_fatherNow := List.mem_of_getElem? (i := 2) rfl
set_option maxRecDepth 100000 in
theorem hw_X9_fatherNow_3 : (.fieldLink RX9 16 "RotaFathersModel" "strengthOf" "[I" : Cond) ∈ wsX9_fatherNow := List.mem_of_getElem? (i := 3) rfl
set_option maxRecDepth 100000 in
theorem hw_X9_fatherNow_4 : (.fieldLink RX9 19 "RotaFathersModel" "meritOf" "[I" : Cond) ∈ wsX9_fatherNow := List.mem_of_getElem? (i := 4) rfl
set_option maxRecDepth 100000 in
theorem hw_X9_fatherNow_5 : (.fieldLink RX9 22 "RotaFathersModel" "fellOf" "[I" : Cond) ∈ wsX9_fatherNow := List.mem_of_getElem? (i := 5) rfl
set_option maxRecDepth 100000 in
theorem hw_X9_fatherNow_6 : (.fieldLink RX9 109 "RotaFathersModel" "knows" "I" : Cond) ∈ wsX9_fatherNow := List.mem_of_getElem? (i := 6) rfl
set_option maxRecDepth 100000 in
theorem hd_X9_fatherNow : yX9_fatherNow.cls ≠ "java/lang/invoke/MethodHandle" ∧ yX9_fatherNow.cls ≠ "java/lang/invoke/VarHandle" ∧ (parseMethodDescriptor yX9_fatherNow.desc).map (fun d => d.parameters.length) = some 2 := by decide +kernel
set_option maxHeartbeats 4000000 in
set_option maxRecDepth 100000 in
theorem c_X9_fatherNow (l : Launch) (D : va_G) (cI cB cF : ClassId) (sz : Nat) (M : Nat → Nat) (ca : Int32) (nn : Int32) (ft : Int32) (kn : Int32) (dy : Int32) (fd : Int32) (ak : Int32) (pl : Int32) (iw : Int32) (nm : Int32) (fi : Int32) (nf : Int32) (nk : Int32) (sd : Int64) (ik : Int32) (kc : Int32) (kf : Int32) (kk : Int32) (kd : Int32) (ko : Int32) (hh : Int64) (g1 : Nat → Int32) (g2 : Nat → Int32) (ga : Nat → Int32) (fb : Nat → Int32) (F : zF) (r : Nat → Int32) (n : Nat) (mM : Nat → Int32) (fM : Nat → Int32) (me : Nat → Int32) (fe : Nat → Int32) (f : Nat) (w : Int32) (hn : n ≤ 4) (hF : zFo n F) (hro0 : 0 < n → zRo n r) (hkn : zKb kn) (hf : f < n) (hw : zIn w 0 7 = true) (hme : ∀ f, f < n → mM f = me f) (hfe : ∀ f, f < n → fM f = fe f) : Met l yX9_fatherNow wsX9_fatherNow ({ frames := 5, cells := 0, slots := 0, locals := 110 } : Room) (PcW D cI cB cF [.ref (M 0), .int (nI f), .int w] sz [(M 0, mO M ca nn ft kn dy fd ak pl iw nm fi nf nk sd ik kc kf kk kd ko hh), (M 19, .inl (cI, 9, .inl g1)), (M 20, .inl (cI, 8, .inl g2)), (M 21, .inl (cI, 4, .inl ga)), (M 22, .inl (cI, 4, .inl fb))] [(M 2, .inl (cI, 4, .inl (fun f => nI (F.1 f)))), (M 3, .inl (cI, 4, .inl F.2.1)), (M 4, .inl (cI, 4, .inl F.2.2)), (M 7, .inl (cI, 8, .inl r)), (M 5, .inl (cI, 4, .inl mM)), (M 6, .inl (cI, 4, .inl fM))]) (Qw D (S := Int32 × Int32 × Int32 × (Nat → Int32) × (Nat → Int32) × (Nat → Int32) × (Nat → Int32)) (fun xx => some (.int (zAb1 F r me fe ft kn f w))) (fun xx => True) (fun xx => [(M 0, mO M ca nn ft kn dy fd ak pl iw nm xx.1 xx.2.1 xx.2.2.1 sd ik kc kf kk kd ko hh), (M 19, .inl (cI, 9, .inl xx.2.2.2.1)), (M 20, .inl (cI, 8, .inl xx.2.2.2.2.1)), (M 21, .inl (cI, 4, .inl xx.2.2.2.2.2.1)), (M 22, .inl (cI, 4, .inl xx.2.2.2.2.2.2))]) (va_A [(M 0, mO M ca nn ft kn dy fd ak pl iw nm fi nf nk sd ik kc kf kk kd ko hh), (M 19, .inl (cI, 9, .inl g1)), (M 20, .inl (cI, 8, .inl g2)), (M 21, .inl (cI, 4, .inl ga)), (M 22, .inl (cI, 4, .inl fb))] sz)) 0 0 (va_A [(M 0, mO M ca nn ft kn dy fd ak pl iw nm fi nf nk sd ik kc kf kk kd ko hh), (M 19, .inl (cI, 9, .inl g1)), (M 20, .inl (cI, 8, .inl g2)), (M 21, .inl (cI, 4, .inl ga)), (M 22, .inl (cI, 4, .inl fb))] sz) := by
  refine Met.ofW (cc := cX9_fatherNow) (maxL := 3) (ret := (some .int)) (by decide) rfl ?_
  intro p e s m args below meth c s₁ Bd hml hv
  rw [show (headSpec wsX9_fatherNow ({ frames := 5, cells := 0, slots := 0, locals := 110 } : Room)).room = ({ frames := 5, cells := 0, slots := 0, locals := 110 } : Room) from rfl]
  obtain ⟨rfl, hsz, hP, hK, hD0, hR⟩ := hv
  have hx := Bd.exec
  have hb := Bd.bytes
  have hr := Bd.returns
  have hts := atoms_spec (ws := wsX9_fatherNow) Bd.pre
  have hown : s.vm.findClass RX9 = some m.cls := findClass_of_methodNamed Bd.named
  have hlocks := Bd.notSynchronized
  have FX : CallFix p m c cX9_fatherNow 3 s _ wsX9_fatherNow RX9 := ⟨hx, hb, hml, hown, hts⟩
  subst hsz
  have hD := hD0.self (sz := s.heap.size)
  generalize hAe : va_A [(M 0, mO M ca nn ft kn dy fd ak pl iw nm fi nf nk sd ik kc kf kk kd ko hh), (M 19, .inl (cI, 9, .inl g1)), (M 20, .inl (cI, 8, .inl g2)), (M 21, .inl (cI, 4, .inl ga)), (M 22, .inl (cI, 4, .inl fb))] s.heap.size = A at hD hR ⊢
  have hA : ∀ q : Nat, s.heap.size ≤ q → A q := fun q h => by rw [← hAe]; exact Or.inr h
  have hS : va_S A s.heap s.heap [] := va_S.rf
  have hP : va_P D vwCl [(M 0, mO M ca nn ft kn dy fd ak pl iw nm fi nf nk sd ik kc kf kk kd ko hh), (M 19, .inl (cI, 9, .inl g1)), (M 20, .inl (cI, 8, .inl g2)), (M 21, .inl (cI, 4, .inl ga)), (M 22, .inl (cI, 4, .inl fb))] s.heap := hP
  have hQ : va_P D vwCl ([(M 0, mO M ca nn ft kn dy fd ak pl iw nm fi nf nk sd ik kc kf kk kd ko hh), (M 19, .inl (cI, 9, .inl g1)), (M 20, .inl (cI, 8, .inl g2)), (M 21, .inl (cI, 4, .inl ga)), (M 22, .inl (cI, 4, .inl fb))] ++ [(M 2, .inl (cI, 4, .inl (fun f => nI (F.1 f)))), (M 3, .inl (cI, 4, .inl F.2.1)), (M 4, .inl (cI, 4, .inl F.2.2)), (M 7, .inl (cI, 8, .inl r)), (M 5, .inl (cI, 4, .inl mM)), (M 6, .inl (cI, 4, .inl fM))]) s.heap := va_P.app hP (hR.at hS).P
  have hl := lv_entry ([.ref (M 0), .int (nI f), .int w]) (n := 3) (Nat.le_of_ble_eq_true rfl)
  rw [lg_entry_eq]
  generalize (lg_sl ([.ref (M 0), .int (nI f), .int w]) ++ List.replicate (3 - (lg_sl ([.ref (M 0), .int (nI f), .int w])).length) Slot.unset).toArray = ls at hl ⊢
  have hl : lv_has ls 3 [(0, .ref (M 0)), (1, .int (nI f)), (2, .int w)] := hl
  have hpos : 0 < n := by omega
  have hro := hro0 hpos
  refine lv_iload_n hx hb dX9_fatherNow_0 rfl (lv_at hl 2 rfl) ?_
  by_cases q_1_0 : w = 0
  · refine vz_si 0 q_1_0 ?_
    refine lv_tableIn (off := 43) (tgt := 44) hx hb dX9_fatherNow_1 (by decide) (by decide) (by decide) (by decide) ?_
    refine lv_aload_n hx hb dX9_fatherNow_44 rfl (lv_at hl 0 rfl) ?_
    refine va_get (D := D) (cl := vwCl) (tys := zT cI cB cF) (ci := 9) (v := .ref (M 2)) (C := RX9) (T := TX9) (N := 41) hx hb hts iw_X9_fatherNow_X9 hown hK.1 hQ 0 rfl rfl 2 (by decide) (hts _ hw_X9_fatherNow_1) (fun _ h9 => h9) rfl dX9_fatherNow_45 ?_
    refine lv_iload_n hx hb dX9_fatherNow_48 rfl (lv_at hl 1 rfl) ?_
    refine va_iald (D := D) (cl := vwCl) (tys := zT cI cB cF) (f := (fun f => nI (F.1 f))) hx hb hK.1 hQ 5 0 rfl rfl (vp_in_nI (by omega) (by omega)) dX9_fatherNow_49 ?_
    refine vz_si (nI (F.1 f)) (by rw [nI_clamp (n := f) (by omega)]) ?_
    refine vz_si (zAb1 F r me fe ft kn f w) (by unfold zAb1; rw [if_pos q_1_0]) ?_
    have hP9 := hP.sub (ws' := [(M 0, mO M ca nn ft kn dy fd ak pl iw nm fi nf nk sd ik kc kf kk kd ko hh), (M 19, .inl (cI, 9, .inl g1)), (M 20, .inl (cI, 8, .inl g2)), (M 21, .inl (cI, 4, .inl ga)), (M 22, .inl (cI, 4, .inl fb))]) [0, 1, 2, 3, 4] rfl
    have hD9 := hD.sub (ws' := [(M 0, mO M ca nn ft kn dy fd ak pl iw nm fi nf nk sd ik kc kf kk kd ko hh), (M 19, .inl (cI, 9, .inl g1)), (M 20, .inl (cI, 8, .inl g2)), (M 21, .inl (cI, 4, .inl ga)), (M 22, .inl (cI, 4, .inl fb))]) [0, 1, 2, 3, 4] (by decide) rfl
    exact W.iret hx hb hr (fun t ht hW => ⟨⟨(fi, nf, nk, g1, g2, ga, fb), rfl, trivial, by rw [ht]; exact hP9, hD9⟩, hS.F ht⟩) hS.2.2 dX9_fatherNow_50
  · skip
    by_cases q_1_1 : w = 1
    · refine vz_si 1 q_1_1 ?_
      refine lv_tableIn (off := 50) (tgt := 51) hx hb dX9_fatherNow_1 (by decide) (by decide) (by decide) (by decide) ?_
      refine lv_aload_n hx hb dX9_fatherNow_51 rfl (lv_at hl 0 rfl) ?_
      refine va_get (D := D) (cl := vwCl) (tys := zT cI cB cF) (ci := 9) (v := .ref (M 3)) (C := RX9) (T := TX9) (N := 41) hx hb hts iw_X9_fatherNow_X9 hown hK.1 hQ 0 rfl rfl 3 (by decide) (hts _ hw_X9_fatherNow_2) (fun _ h9 => h9) rfl dX9_fatherNow_52 ?_
      refine lv_iload_n hx hb dX9_fatherNow_55 rfl (lv_at hl 1 rfl) ?_
      refine va_iald (D := D) (cl := vwCl) (tys := zT cI cB cF) (f := F.2.1) hx hb hK.1 hQ 6 0 rfl rfl (vp_in_nI (by omega) (by omega)) dX9_fatherNow_56 ?_
      refine vz_si (F.2.1 f) (by rw [nI_clamp (n := f) (by omega)]) ?_
      refine vz_si (zAb1 F r me fe ft kn f w) (by unfold zAb1; rw [if_neg (by rw [q_1_1]; decide), if_pos q_1_1]) ?_
      have hP9 := hP.sub (ws' := [(M 0, mO M ca nn ft kn dy fd ak pl iw nm fi nf nk sd ik kc kf kk kd ko hh), (M 19, .inl (cI, 9, .inl g1)), (M 20, .inl (cI, 8, .inl g2)), (M 21, .inl (cI, 4, .inl ga)), (M 22, .inl (cI, 4, .inl fb))]) [0, 1, 2, 3, 4] rfl
      have hD9 := hD.sub (ws' := [(M 0, mO M ca nn ft kn dy fd ak pl iw nm fi nf nk sd ik kc kf kk kd ko hh), (M 19, .inl (cI, 9, .inl g1)), (M 20, .inl (cI, 8, .inl g2)), (M 21, .inl (cI, 4, .inl ga)), (M 22, .inl (cI, 4, .inl fb))]) [0, 1, 2, 3, 4] (by decide) rfl
      exact W.iret hx hb hr (fun t ht hW => ⟨⟨(fi, nf, nk, g1, g2, ga, fb), rfl, trivial, by rw [ht]; exact hP9, hD9⟩, hS.F ht⟩) hS.2.2 dX9_fatherNow_57
    · skip
      by_cases q_1_2 : w = 2
      · refine vz_si 2 q_1_2 ?_
        refine lv_tableIn (off := 57) (tgt := 58) hx hb dX9_fatherNow_1 (by decide) (by decide) (by decide) (by decide) ?_
        refine lv_aload_n hx hb dX9_fatherNow_58 rfl (lv_at hl 0 rfl) ?_
        refine va_get (D := D) (cl := vwCl) (tys := zT cI cB cF) (ci := 9) (v := .ref (M 4)) (C := RX9) (T := TX9) (N := 41) hx hb hts iw_X9_fatherNow_X9 hown hK.1 hQ 0 rfl rfl 4 (by decide) (hts _ hw_X9_fatherNow_3) (fun _ h9 => h9) rfl dX9_fatherNow_59 ?_
        refine lv_iload_n hx hb dX9_fatherNow_62 rfl (lv_at hl 1 rfl) ?_
        refine va_iald (D := D) (cl := vwCl) (tys := zT cI cB cF) (f := F.2.2) hx hb hK.1 hQ 7 0 rfl rfl (vp_in_nI (by omega) (by omega)) dX9_fatherNow_63 ?_
        refine vz_si (F.2.2 f) (by rw [nI_clamp (n := f) (by omega)]) ?_
        refine vz_si (zAb1 F r me fe ft kn f w) (by unfold zAb1; rw [if_neg (by rw [q_1_2]; decide), if_neg (by rw [q_1_2]; decide), if_pos q_1_2]) ?_
        have hP9 := hP.sub (ws' := [(M 0, mO M ca nn ft kn dy fd ak pl iw nm fi nf nk sd ik kc kf kk kd ko hh), (M 19, .inl (cI, 9, .inl g1)), (M 20, .inl (cI, 8, .inl g2)), (M 21, .inl (cI, 4, .inl ga)), (M 22, .inl (cI, 4, .inl fb))]) [0, 1, 2, 3, 4] rfl
        have hD9 := hD.sub (ws' := [(M 0, mO M ca nn ft kn dy fd ak pl iw nm fi nf nk sd ik kc kf kk kd ko hh), (M 19, .inl (cI, 9, .inl g1)), (M 20, .inl (cI, 8, .inl g2)), (M 21, .inl (cI, 4, .inl ga)), (M 22, .inl (cI, 4, .inl fb))]) [0, 1, 2, 3, 4] (by decide) rfl
        exact W.iret hx hb hr (fun t ht hW => ⟨⟨(fi, nf, nk, g1, g2, ga, fb), rfl, trivial, by rw [ht]; exact hP9, hD9⟩, hS.F ht⟩) hS.2.2 dX9_fatherNow_64
      · skip
        by_cases q_1_3 : w = 3
        · refine vz_si 3 q_1_3 ?_
          refine lv_tableIn (off := 64) (tgt := 65) hx hb dX9_fatherNow_1 (by decide) (by decide) (by decide) (by decide) ?_
          refine lv_aload_n hx hb dX9_fatherNow_65 rfl (lv_at hl 0 rfl) ?_
          refine va_get (D := D) (cl := vwCl) (tys := zT cI cB cF) (ci := 9) (v := .ref (M 5)) (C := RX9) (T := TX9) (N := 41) hx hb hts iw_X9_fatherNow_X9 hown hK.1 hQ 0 rfl rfl 5 (by decide) (hts _ hw_X9_fatherNow_4) (fun _ h9 => h9) rfl dX9_fatherNow_66 ?_
          refine lv_iload_n hx hb dX9_fatherNow_69 rfl (lv_at hl 1 rfl) ?_
          refine va_iald (D := D) (cl := vwCl) (tys := zT cI cB cF) (f := mM) hx hb hK.1 hQ 9 0 rfl rfl (vp_in_nI (by omega) (by omega)) dX9_fatherNow_70 ?_
          refine vz_si (mM f) (by rw [nI_clamp (n := f) (by omega)]) ?_
          refine vz_si (zAb1 F r me fe ft kn f w) (by rw [hme f hf]; unfold zAb1; rw [if_neg (by rw [q_1_3]; decide), if_neg (by rw [q_1_3]; decide), if_neg (by rw [q_1_3]; decide), if_pos q_1_3]) ?_
          have hP9 := hP.sub (ws' := [(M 0, mO M ca nn ft kn dy fd ak pl iw nm fi nf nk sd ik kc kf kk kd ko hh), (M 19, .inl (cI, 9, .inl g1)), (M 20, .inl (cI, 8, .inl g2)), (M 21, .inl (cI, 4, .inl ga)), (M 22, .inl (cI, 4, .inl fb))]) [0, 1, 2, 3, 4] rfl
          have hD9 := hD.sub (ws' := [(M 0, mO M ca nn ft kn dy fd ak pl iw nm fi nf nk sd ik kc kf kk kd ko hh), (M 19, .inl (cI, 9, .inl g1)), (M 20, .inl (cI, 8, .inl g2)), (M 21, .inl (cI, 4, .inl ga)), (M 22, .inl (cI, 4, .inl fb))]) [0, 1, 2, 3, 4] (by decide) rfl
          exact W.iret hx hb hr (fun t ht hW => ⟨⟨(fi, nf, nk, g1, g2, ga, fb), rfl, trivial, by rw [ht]; exact hP9, hD9⟩, hS.F ht⟩) hS.2.2 dX9_fatherNow_71
        · skip
          by_cases q_1_4 : w = 4
          · refine vz_si 4 q_1_4 ?_
            refine lv_tableIn (off := 71) (tgt := 72) hx hb dX9_fatherNow_1 (by decide) (by decide) (by decide) (by decide) ?_
            refine lv_aload_n hx hb dX9_fatherNow_72 rfl (lv_at hl 0 rfl) ?_
            refine va_get (D := D) (cl := vwCl) (tys := zT cI cB cF) (ci := 9) (v := .ref (M 6)) (C := RX9) (T := TX9) (N := 41) hx hb hts iw_X9_fatherNow_X9 hown hK.1 hQ 0 rfl rfl 6 (by decide) (hts _ hw_X9_fatherNow_5) (fun _ h9 => h9) rfl dX9_fatherNow_73 ?_
            refine lv_iload_n hx hb dX9_fatherNow_76 rfl (lv_at hl 1 rfl) ?_
            refine va_iald (D := D) (cl := vwCl) (tys := zT cI cB cF) (f := fM) hx hb hK.1 hQ 10 0 rfl rfl (vp_in_nI (by omega) (by omega)) dX9_fatherNow_77 ?_
            refine vz_si (fM f) (by rw [nI_clamp (n := f) (by omega)]) ?_
            refine vz_si (zAb1 F r me fe ft kn f w) (by rw [hfe f hf]; unfold zAb1; rw [if_neg (by rw [q_1_4]; decide), if_neg (by rw [q_1_4]; decide), if_neg (by rw [q_1_4]; decide), if_neg (by rw [q_1_4]; decide), if_pos q_1_4]) ?_
            have hP9 := hP.sub (ws' := [(M 0, mO M ca nn ft kn dy fd ak pl iw nm fi nf nk sd ik kc kf kk kd ko hh), (M 19, .inl (cI, 9, .inl g1)), (M 20, .inl (cI, 8, .inl g2)), (M 21, .inl (cI, 4, .inl ga)), (M 22, .inl (cI, 4, .inl fb))]) [0, 1, 2, 3, 4] rfl
            have hD9 := hD.sub (ws' := [(M 0, mO M ca nn ft kn dy fd ak pl iw nm fi nf nk sd ik kc kf kk kd ko hh), (M 19, .inl (cI, 9, .inl g1)), (M 20, .inl (cI, 8, .inl g2)), (M 21, .inl (cI, 4, .inl ga)), (M 22, .inl (cI, 4, .inl fb))]) [0, 1, 2, 3, 4] (by decide) rfl
            exact W.iret hx hb hr (fun t ht hW => ⟨⟨(fi, nf, nk, g1, g2, ga, fb), rfl, trivial, by rw [ht]; exact hP9, hD9⟩, hS.F ht⟩) hS.2.2 dX9_fatherNow_78
          · skip
            by_cases q_1_5 : w = 5
            · refine vz_si 5 q_1_5 ?_
              refine lv_tableIn (off := 78) (tgt := 79) hx hb dX9_fatherNow_1 (by decide) (by decide) (by decide) (by decide) ?_
              refine lv_aload_n hx hb dX9_fatherNow_79 rfl (lv_at hl 0 rfl) ?_
              refine lv_iload_n hx hb dX9_fatherNow_80 rfl (lv_at hl 1 rfl) ?_
              refine vz_rd (va_runV (As := [.int (nI f)]) (rest := []) FX (c_X9_shiftsOf l D cI cB cF M ca nn ft kn dy fd ak pl iw nm fi nf nk sd ik kc kf kk kd ko hh r (nI f) ) (cwV 1 hts gX9_fatherNow_X9_shiftsOf rfl rfl rfl ⟨rfl, hd_X9_shiftsOf⟩ ⟨Nat.le_of_ble_eq_true rfl, Nat.le_of_ble_eq_true rfl⟩) (preP_V hQ 0 rfl rfl (hQ.sub (ws' := [(M 0, mO M ca nn ft kn dy fd ak pl iw nm fi nf nk sd ik kc kf kk kd ko hh), (M 7, .inl (cI, 8, .inl r))]) [0, 8] rfl) hK) rfl rfl hl.1 rfl (lv_room (Nat.le_of_ble_eq_true rfl)) dX9_fatherNow_81 ⟨Nat.le_of_ble_eq_true rfl, Nat.le_of_ble_eq_true rfl⟩) ?_
              refine vz_si (zAb1 F r me fe ft kn f w) (by unfold zAb1; rw [if_neg (by rw [q_1_5]; decide), if_neg (by rw [q_1_5]; decide), if_neg (by rw [q_1_5]; decide), if_neg (by rw [q_1_5]; decide), if_neg (by rw [q_1_5]; decide), if_pos q_1_5]) ?_
              have hP9 := hP.sub (ws' := [(M 0, mO M ca nn ft kn dy fd ak pl iw nm fi nf nk sd ik kc kf kk kd ko hh), (M 19, .inl (cI, 9, .inl g1)), (M 20, .inl (cI, 8, .inl g2)), (M 21, .inl (cI, 4, .inl ga)), (M 22, .inl (cI, 4, .inl fb))]) [0, 1, 2, 3, 4] rfl
              have hD9 := hD.sub (ws' := [(M 0, mO M ca nn ft kn dy fd ak pl iw nm fi nf nk sd ik kc kf kk kd ko hh), (M 19, .inl (cI, 9, .inl g1)), (M 20, .inl (cI, 8, .inl g2)), (M 21, .inl (cI, 4, .inl ga)), (M 22, .inl (cI, 4, .inl fb))]) [0, 1, 2, 3, 4] (by decide) rfl
              exact W.iret hx hb hr (fun t ht hW => ⟨⟨(fi, nf, nk, g1, g2, ga, fb), rfl, trivial, by rw [ht]; exact hP9, hD9⟩, hS.F ht⟩) hS.2.2 dX9_fatherNow_84
            · skip
              by_cases q_1_6 : w = 6
              · refine vz_si 6 q_1_6 ?_
                refine lv_tableIn (off := 84) (tgt := 85) hx hb dX9_fatherNow_1 (by decide) (by decide) (by decide) (by decide) ?_
                refine lv_aload_n hx hb dX9_fatherNow_85 rfl (lv_at hl 0 rfl) ?_
                refine va_get (D := D) (cl := vwCl) (tys := zT cI cB cF) (ci := 9) (v := .int kn) (C := RX9) (T := TX9) (N := 41) hx hb hts iw_X9_fatherNow_X9 hown hK.1 hQ 0 rfl rfl 9 (by decide) (hts _ hw_X9_fatherNow_6) (fun _ h9 => h9) rfl dX9_fatherNow_86 ?_
                refine lv_aload_n hx hb dX9_fatherNow_89 rfl (lv_at hl 0 rfl) ?_
                refine va_get (D := D) (cl := vwCl) (tys := zT cI cB cF) (ci := 9) (v := .ref (M 3)) (C := RX9) (T := TX9) (N := 41) hx hb hts iw_X9_fatherNow_X9 hown hK.1 hQ 0 rfl rfl 3 (by decide) (hts _ hw_X9_fatherNow_2) (fun _ h9 => h9) rfl dX9_fatherNow_90 ?_
                refine lv_iload_n hx hb dX9_fatherNow_93 rfl (lv_at hl 1 rfl) ?_
                refine va_iald (D := D) (cl := vwCl) (tys := zT cI cB cF) (f := F.2.1) hx hb hK.1 hQ 6 0 rfl rfl (vp_in_nI (by omega) (by omega)) dX9_fatherNow_94 ?_
                refine vz_si (F.2.1 f) (by rw [nI_clamp (n := f) (by omega)]) ?_
                refine lv_ishr hx hb dX9_fatherNow_95 ?_
                refine lv_iconst (v := 1) hx hb dX9_fatherNow_96 (by decide) ?_
                refine lv_iand hx hb dX9_fatherNow_97 ?_
                refine vz_si (zAb1 F r me fe ft kn f w) (by rw [zK6b hkn (hF f hf).2]; unfold zAb1; rw [if_neg (by rw [q_1_6]; decide), if_neg (by rw [q_1_6]; decide), if_neg (by rw [q_1_6]; decide), if_neg (by rw [q_1_6]; decide), if_neg (by rw [q_1_6]; decide), if_neg (by rw [q_1_6]; decide), if_pos q_1_6]) ?_
                have hP9 := hP.sub (ws' := [(M 0, mO M ca nn ft kn dy fd ak pl iw nm fi nf nk sd ik kc kf kk kd ko hh), (M 19, .inl (cI, 9, .inl g1)), (M 20, .inl (cI, 8, .inl g2)), (M 21, .inl (cI, 4, .inl ga)), (M 22, .inl (cI, 4, .inl fb))]) [0, 1, 2, 3, 4] rfl
                have hD9 := hD.sub (ws' := [(M 0, mO M ca nn ft kn dy fd ak pl iw nm fi nf nk sd ik kc kf kk kd ko hh), (M 19, .inl (cI, 9, .inl g1)), (M 20, .inl (cI, 8, .inl g2)), (M 21, .inl (cI, 4, .inl ga)), (M 22, .inl (cI, 4, .inl fb))]) [0, 1, 2, 3, 4] (by decide) rfl
                exact W.iret hx hb hr (fun t ht hW => ⟨⟨(fi, nf, nk, g1, g2, ga, fb), rfl, trivial, by rw [ht]; exact hP9, hD9⟩, hS.F ht⟩) hS.2.2 dX9_fatherNow_98
              · skip
                refine lv_tableOut (tgt := 99) hx hb dX9_fatherNow_1 (by have w_0 := lv_neT (a := 0) q_1_0 rfl; have w_1 := lv_neT (a := 1) q_1_1 rfl; have w_2 := lv_neT (a := 2) q_1_2 rfl; have w_3 := lv_neT (a := 3) q_1_3 rfl; have w_4 := lv_neT (a := 4) q_1_4 rfl; have w_5 := lv_neT (a := 5) q_1_5 rfl; have w_6 := lv_neT (a := 6) q_1_6 rfl; omega) (by decide) ?_
                refine lv_aload_n hx hb dX9_fatherNow_99 rfl (lv_at hl 0 rfl) ?_
                refine lv_iload_n hx hb dX9_fatherNow_100 rfl (lv_at hl 1 rfl) ?_
                have hFc := va_free (wc := [(M 0, mO M ca nn ft kn dy fd ak pl iw nm fi nf nk sd ik kc kf kk kd ko hh), (M 19, .inl (cI, 9, .inl g1)), (M 20, .inl (cI, 8, .inl g2)), (M 21, .inl (cI, 4, .inl ga)), (M 22, .inl (cI, 4, .inl fb))]) hD hS hA [0, 1, 2, 3, 4] rfl
                refine vz_cw [] [0, 1, 2, 3, 4] [] (va_runV (As := [.int (nI f)]) (rest := []) FX (c_X9_gainThen l D cI cB cF s.heap.size M ca nn ft kn dy fd ak pl iw nm fi nf nk sd ik kc kf kk kd ko hh g1 g2 ga fb F r n f (by first | assumption | omega | decide) (by first | assumption | omega | decide) (by first | assumption | omega | decide) (by first | assumption | omega | decide) (by omega)) (cwV 1 hts gX9_fatherNow_X9_gainThen rfl rfl rfl ⟨rfl, hd_X9_gainThen⟩ ⟨Nat.le_of_ble_eq_true rfl, Nat.le_of_ble_eq_true rfl⟩) (preW_V hQ 0 rfl rfl (hP.sub (ws' := [(M 0, mO M ca nn ft kn dy fd ak pl iw nm fi nf nk sd ik kc kf kk kd ko hh), (M 19, .inl (cI, 9, .inl g1)), (M 20, .inl (cI, 8, .inl g2)), (M 21, .inl (cI, 4, .inl ga)), (M 22, .inl (cI, 4, .inl fb))]) [0, 1, 2, 3, 4] rfl) (hD.sub (ws' := [(M 0, mO M ca nn ft kn dy fd ak pl iw nm fi nf nk sd ik kc kf kk kd ko hh), (M 19, .inl (cI, 9, .inl g1)), (M 20, .inl (cI, 8, .inl g2)), (M 21, .inl (cI, 4, .inl ga)), (M 22, .inl (cI, 4, .inl fb))]) [0, 1, 2, 3, 4] (by decide) rfl) hK (show vz_R D [(M 2, .inl (cI, 4, .inl (fun f => nI (F.1 f)))), (M 3, .inl (cI, 4, .inl F.2.1)), (M 4, .inl (cI, 4, .inl F.2.2)), (M 7, .inl (cI, 8, .inl r))] _ _ from (vz_R.cons ((hR.at hS).one hFc (List.mem_of_getElem? (i := 0) rfl)) (vz_R.cons ((hR.at hS).one hFc (List.mem_of_getElem? (i := 1) rfl)) (vz_R.cons ((hR.at hS).one hFc (List.mem_of_getElem? (i := 2) rfl)) (vz_R.cons ((hR.at hS).one hFc (List.mem_of_getElem? (i := 3) rfl)) vz_R.nil)))))) rfl rfl hl.1 rfl (lv_room (Nat.le_of_ble_eq_true rfl)) dX9_fatherNow_101 ⟨Nat.le_of_ble_eq_true rfl, Nat.le_of_ble_eq_true rfl⟩) hP hD hS hA rfl rfl rfl (by decide) (fun u H locs hu hP hD hS hz9 hk9 => ?_)
                have hP : va_P D vwCl [(M 0, mO M ca nn ft kn dy fd ak pl iw nm (zFb F r ft kn 8) (zDf F r ft kn 8) (zDk F r ft kn 8) sd ik kc kf kk kd ko hh), (M 19, .inl (cI, 9, .inl (zDf F r ft kn))), (M 20, .inl (cI, 8, .inl (zDh F r ft kn))), (M 21, .inl (cI, 4, .inl (fun f => zGs (zDg F r ft kn) r (nI f) 8))), (M 22, .inl (cI, 4, .inl (fun f => zGs (zDe F r ft kn) r (nI f) 8)))] H := hP
                have hD : va_D A [(M 0, mO M ca nn ft kn dy fd ak pl iw nm (zFb F r ft kn 8) (zDf F r ft kn 8) (zDk F r ft kn 8) sd ik kc kf kk kd ko hh), (M 19, .inl (cI, 9, .inl (zDf F r ft kn))), (M 20, .inl (cI, 8, .inl (zDh F r ft kn))), (M 21, .inl (cI, 4, .inl (fun f => zGs (zDg F r ft kn) r (nI f) 8))), (M 22, .inl (cI, 4, .inl (fun f => zGs (zDe F r ft kn) r (nI f) 8)))] := hD
                have hQ : va_P D vwCl ([(M 0, mO M ca nn ft kn dy fd ak pl iw nm (zFb F r ft kn 8) (zDf F r ft kn 8) (zDk F r ft kn 8) sd ik kc kf kk kd ko hh), (M 19, .inl (cI, 9, .inl (zDf F r ft kn))), (M 20, .inl (cI, 8, .inl (zDh F r ft kn))), (M 21, .inl (cI, 4, .inl (fun f => zGs (zDg F r ft kn) r (nI f) 8))), (M 22, .inl (cI, 4, .inl (fun f => zGs (zDe F r ft kn) r (nI f) 8)))] ++ [(M 2, .inl (cI, 4, .inl (fun f => nI (F.1 f)))), (M 3, .inl (cI, 4, .inl F.2.1)), (M 4, .inl (cI, 4, .inl F.2.2)), (M 7, .inl (cI, 8, .inl r)), (M 5, .inl (cI, 4, .inl mM)), (M 6, .inl (cI, 4, .inl fM))]) H := va_P.app hP (hR.at hS).P
                show W _ _ _ _ _ _ _ _ _ _ _ _ _ _ _ (F0 m 104 ls [.int (zGs (zDg F r ft kn) r (nI f) 8)])
                refine vz_si (zAb1 F r me fe ft kn f w) (by rw [z_w7 hw q_1_0 q_1_1 q_1_2 q_1_3 q_1_4 q_1_5 q_1_6]; rfl) ?_
                have hP9 := hP.sub (ws' := [(M 0, mO M ca nn ft kn dy fd ak pl iw nm (zFb F r ft kn 8) (zDf F r ft kn 8) (zDk F r ft kn 8) sd ik kc kf kk kd ko hh), (M 19, .inl (cI, 9, .inl (zDf F r ft kn))), (M 20, .inl (cI, 8, .inl (zDh F r ft kn))), (M 21, .inl (cI, 4, .inl (fun f => zGs (zDg F r ft kn) r (nI f) 8))), (M 22, .inl (cI, 4, .inl (fun f => zGs (zDe F r ft kn) r (nI f) 8)))]) [0, 1, 2, 3, 4] rfl
                have hD9 := hD.sub (ws' := [(M 0, mO M ca nn ft kn dy fd ak pl iw nm (zFb F r ft kn 8) (zDf F r ft kn 8) (zDk F r ft kn 8) sd ik kc kf kk kd ko hh), (M 19, .inl (cI, 9, .inl (zDf F r ft kn))), (M 20, .inl (cI, 8, .inl (zDh F r ft kn))), (M 21, .inl (cI, 4, .inl (fun f => zGs (zDg F r ft kn) r (nI f) 8))), (M 22, .inl (cI, 4, .inl (fun f => zGs (zDe F r ft kn) r (nI f) 8)))]) [0, 1, 2, 3, 4] (by decide) rfl
                exact W.iret hx hb hr (fun t ht hW => ⟨⟨(zFb F r ft kn 8, zDf F r ft kn 8, zDk F r ft kn 8, zDf F r ft kn, zDh F r ft kn, fun f => zGs (zDg F r ft kn) r (nI f) 8, fun f => zGs (zDe F r ft kn) r (nI f) 8), rfl, trivial, by rw [ht]; exact hP9, hD9⟩, hS.F ht⟩) hS.2.2 dX9_fatherNow_104
set_option maxRecDepth 100000 in
theorem hd_X9_about : yX9_about.cls ≠ "java/lang/invoke/MethodHandle" ∧ yX9_about.cls ≠ "java/lang/invoke/VarHandle" ∧ (parseMethodDescriptor yX9_about.desc).map (fun d => d.parameters.length) = some 2 := by decide +kernel
set_option maxHeartbeats 4000000 in
set_option maxRecDepth 100000 in
theorem c_X9_about (l : Launch) (D : va_G) (cI cB cF : ClassId) (sz : Nat) (M : Nat → Nat) (ca : Int32) (ft : Int32) (kn : Int32) (dy : Int32) (fd : Int32) (ak : Int32) (pl : Int32) (iw : Int32) (nm : Int32) (fi : Int32) (nf : Int32) (nk : Int32) (sd : Int64) (ik : Int32) (kc : Int32) (kf : Int32) (kk : Int32) (kd : Int32) (ko : Int32) (hh : Int64) (g1 : Nat → Int32) (g2 : Nat → Int32) (ga : Nat → Int32) (fb : Nat → Int32) (F : zF) (r : Nat → Int32) (n : Nat) (mM : Nat → Int32) (fM : Nat → Int32) (me : Nat → Int32) (fe : Nat → Int32) (i : Int32) (w : Int32) (hn : n ≤ 4) (hF : zFo n F) (hro0 : 0 < n → zRo n r) (hkn : zKb kn) (hme : ∀ f, f < n → mM f = me f) (hfe : ∀ f, f < n → fM f = fe f) : Met l yX9_about wsX9_about ({ frames := 6, cells := 0, slots := 0, locals := 132 } : Room) (PcW D cI cB cF [.ref (M 0), .int i, .int w] sz [(M 0, mO M ca (nI n) ft kn dy fd ak pl iw nm fi nf nk sd ik kc kf kk kd ko hh), (M 19, .inl (cI, 9, .inl g1)), (M 20, .inl (cI, 8, .inl g2)), (M 21, .inl (cI, 4, .inl ga)), (M 22, .inl (cI, 4, .inl fb))] [(M 2, .inl (cI, 4, .inl (fun f => nI (F.1 f)))), (M 3, .inl (cI, 4, .inl F.2.1)), (M 4, .inl (cI, 4, .inl F.2.2)), (M 7, .inl (cI, 8, .inl r)), (M 5, .inl (cI, 4, .inl mM)), (M 6, .inl (cI, 4, .inl fM))]) (Qw D (S := Int32 × Int32 × Int32 × (Nat → Int32) × (Nat → Int32) × (Nat → Int32) × (Nat → Int32)) (fun xx => some (.int (zAbo n F r me fe ft kn i w))) (fun xx => True) (fun xx => [(M 0, mO M ca (nI n) ft kn dy fd ak pl iw nm xx.1 xx.2.1 xx.2.2.1 sd ik kc kf kk kd ko hh), (M 19, .inl (cI, 9, .inl xx.2.2.2.1)), (M 20, .inl (cI, 8, .inl xx.2.2.2.2.1)), (M 21, .inl (cI, 4, .inl xx.2.2.2.2.2.1)), (M 22, .inl (cI, 4, .inl xx.2.2.2.2.2.2))]) (va_A [(M 0, mO M ca (nI n) ft kn dy fd ak pl iw nm fi nf nk sd ik kc kf kk kd ko hh), (M 19, .inl (cI, 9, .inl g1)), (M 20, .inl (cI, 8, .inl g2)), (M 21, .inl (cI, 4, .inl ga)), (M 22, .inl (cI, 4, .inl fb))] sz)) 0 0 (va_A [(M 0, mO M ca (nI n) ft kn dy fd ak pl iw nm fi nf nk sd ik kc kf kk kd ko hh), (M 19, .inl (cI, 9, .inl g1)), (M 20, .inl (cI, 8, .inl g2)), (M 21, .inl (cI, 4, .inl ga)), (M 22, .inl (cI, 4, .inl fb))] sz) := by
  refine Met.ofW (cc := cX9_about) (maxL := 3) (ret := (some .int)) (by decide) rfl ?_
  intro p e s m args below meth c s₁ Bd hml hv
  rw [show (headSpec wsX9_about ({ frames := 6, cells := 0, slots := 0, locals := 132 } : Room)).room = ({ frames := 6, cells := 0, slots := 0, locals := 132 } : Room) from rfl]
  obtain ⟨rfl, hsz, hP, hK, hD0, hR⟩ := hv
  have hx := Bd.exec
  have hb := Bd.bytes
  have hr := Bd.returns
  have hts := atoms_spec (ws := wsX9_about) Bd.pre
  have hown : s.vm.findClass RX9 = some m.cls := findClass_of_methodNamed Bd.named
  have hlocks := Bd.notSynchronized
  have FX : CallFix p m c cX9_about 3 s _ wsX9_about RX9 := ⟨hx, hb, hml, hown, hts⟩
  subst hsz
  have hD := hD0.self (sz := s.heap.size)
  generalize hAe : va_A [(M 0, mO M ca (nI n) ft kn dy fd ak pl iw nm fi nf nk sd ik kc kf kk kd ko hh), (M 19, .inl (cI, 9, .inl g1)), (M 20, .inl (cI, 8, .inl g2)), (M 21, .inl (cI, 4, .inl ga)), (M 22, .inl (cI, 4, .inl fb))] s.heap.size = A at hD hR ⊢
  have hA : ∀ q : Nat, s.heap.size ≤ q → A q := fun q h => by rw [← hAe]; exact Or.inr h
  have hS : va_S A s.heap s.heap [] := va_S.rf
  have hP : va_P D vwCl [(M 0, mO M ca (nI n) ft kn dy fd ak pl iw nm fi nf nk sd ik kc kf kk kd ko hh), (M 19, .inl (cI, 9, .inl g1)), (M 20, .inl (cI, 8, .inl g2)), (M 21, .inl (cI, 4, .inl ga)), (M 22, .inl (cI, 4, .inl fb))] s.heap := hP
  have hQ : va_P D vwCl ([(M 0, mO M ca (nI n) ft kn dy fd ak pl iw nm fi nf nk sd ik kc kf kk kd ko hh), (M 19, .inl (cI, 9, .inl g1)), (M 20, .inl (cI, 8, .inl g2)), (M 21, .inl (cI, 4, .inl ga)), (M 22, .inl (cI, 4, .inl fb))] ++ [(M 2, .inl (cI, 4, .inl (fun f => nI (F.1 f)))), (M 3, .inl (cI, 4, .inl F.2.1)), (M 4, .inl (cI, 4, .inl F.2.2)), (M 7, .inl (cI, 8, .inl r)), (M 5, .inl (cI, 4, .inl mM)), (M 6, .inl (cI, 4, .inl fM))]) s.heap := va_P.app hP (hR.at hS).P
  have hl := lv_entry ([.ref (M 0), .int i, .int w]) (n := 3) (Nat.le_of_ble_eq_true rfl)
  rw [lg_entry_eq]
  generalize (lg_sl ([.ref (M 0), .int i, .int w]) ++ List.replicate (3 - (lg_sl ([.ref (M 0), .int i, .int w])).length) Slot.unset).toArray = ls at hl ⊢
  have hl : lv_has ls 3 [(0, .ref (M 0)), (1, .int i), (2, .int w)] := hl
  refine lv_aload_n hx hb dX9_about_0 rfl (lv_at hl 0 rfl) ?_
  refine lv_iload_n hx hb dX9_about_1 rfl (lv_at hl 1 rfl) ?_
  refine vz_rd (va_runV (As := [.int i]) (rest := []) FX (c_X9_isFather l D cI cB cF M ca ft kn dy fd ak pl iw nm fi nf nk sd ik kc kf kk kd ko hh n i ) (cwV 1 hts gX9_about_X9_isFather rfl rfl rfl ⟨rfl, hd_X9_isFather⟩ ⟨Nat.le_of_ble_eq_true rfl, Nat.le_of_ble_eq_true rfl⟩) (preP_V hQ 0 rfl rfl (hQ.sub (ws' := [(M 0, mO M ca (nI n) ft kn dy fd ak pl iw nm fi nf nk sd ik kc kf kk kd ko hh)]) [0] rfl) hK) rfl rfl hl.1 rfl (lv_room (Nat.le_of_ble_eq_true rfl)) dX9_about_2 ⟨Nat.le_of_ble_eq_true rfl, Nat.le_of_ble_eq_true rfl⟩) ?_
  refine lv_if_ne (tgt := 13) hx hb dX9_about_5 (by decide) (fun c_5 => ?_) (fun c_5 => ?_)
  · have b_5 : (zIn i 0 (nI n - 1)) = true := zb_t c_5
    obtain ⟨f, hf, rfl⟩ := z_f8 hn b_5
    refine lv_iload_n hx hb dX9_about_13 rfl (lv_at hl 2 rfl) ?_
    refine lv_iconst (v := 0) hx hb dX9_about_14 (by decide) ?_
    refine lv_bipush (v := 7) hx hb dX9_about_15 (by decide) ?_
    refine vz_rd (va_runS (As := [.int w, .int 0, .int 7]) (rest := []) FX (c_X9_within l D cI cB cF w 0 7 ) (va_cwS 3 hts gX9_about_X9_within rfl rfl rfl hd_X9_within ⟨Nat.le_of_ble_eq_true rfl, Nat.le_of_ble_eq_true rfl⟩) (preP_S (hQ.sub (ws' := []) [] rfl) hK) rfl rfl hl.1 rfl (lv_room (Nat.le_of_ble_eq_true rfl)) dX9_about_17 ⟨Nat.le_of_ble_eq_true rfl, Nat.le_of_ble_eq_true rfl⟩) ?_
    refine lv_if_eq (tgt := 32) hx hb dX9_about_20 (by decide) (fun c_20 => ?_) (fun c_20 => ?_)
    · have b_20 : (zIn w 0 7) = false := zb_f c_20
      refine lv_bipush (v := (-102)) hx hb dX9_about_32 (by decide) ?_
      refine vz_si (zAbo n F r me fe ft kn (nI f) w) (by rw [zAbo, if_pos (z_inf hf hn), zAb1_out b_20]) ?_
      have hP9 := hP.sub (ws' := [(M 0, mO M ca (nI n) ft kn dy fd ak pl iw nm fi nf nk sd ik kc kf kk kd ko hh), (M 19, .inl (cI, 9, .inl g1)), (M 20, .inl (cI, 8, .inl g2)), (M 21, .inl (cI, 4, .inl ga)), (M 22, .inl (cI, 4, .inl fb))]) [0, 1, 2, 3, 4] rfl
      have hD9 := hD.sub (ws' := [(M 0, mO M ca (nI n) ft kn dy fd ak pl iw nm fi nf nk sd ik kc kf kk kd ko hh), (M 19, .inl (cI, 9, .inl g1)), (M 20, .inl (cI, 8, .inl g2)), (M 21, .inl (cI, 4, .inl ga)), (M 22, .inl (cI, 4, .inl fb))]) [0, 1, 2, 3, 4] (by decide) rfl
      exact W.iret hx hb hr (fun t ht hW => ⟨⟨(fi, nf, nk, g1, g2, ga, fb), rfl, trivial, by rw [ht]; exact hP9, hD9⟩, hS.F ht⟩) hS.2.2 dX9_about_34
    · have b_20 : (zIn w 0 7) = true := zb_t c_20
      refine lv_aload_n hx hb dX9_about_23 rfl (lv_at hl 0 rfl) ?_
      refine lv_iload_n hx hb dX9_about_24 rfl (lv_at hl 1 rfl) ?_
      refine lv_iload_n hx hb dX9_about_25 rfl (lv_at hl 2 rfl) ?_
      have hFc := va_free (wc := [(M 0, mO M ca (nI n) ft kn dy fd ak pl iw nm fi nf nk sd ik kc kf kk kd ko hh), (M 19, .inl (cI, 9, .inl g1)), (M 20, .inl (cI, 8, .inl g2)), (M 21, .inl (cI, 4, .inl ga)), (M 22, .inl (cI, 4, .inl fb))]) hD hS hA [0, 1, 2, 3, 4] rfl
      refine vz_cw [] [0, 1, 2, 3, 4] [] (va_runV (As := [.int (nI f), .int w]) (rest := []) FX (c_X9_fatherNow l D cI cB cF s.heap.size M ca (nI n) ft kn dy fd ak pl iw nm fi nf nk sd ik kc kf kk kd ko hh g1 g2 ga fb F r n mM fM me fe f w (by first | assumption | omega | decide) (by first | assumption | omega | decide) (by first | assumption | omega | decide) (by first | assumption | omega | decide) (by first | assumption | omega | decide) b_20 (by first | assumption | omega | decide) (by first | assumption | omega | decide)) (cwV 2 hts gX9_about_X9_fatherNow rfl rfl rfl ⟨rfl, hd_X9_fatherNow⟩ ⟨Nat.le_of_ble_eq_true rfl, Nat.le_of_ble_eq_true rfl⟩) (preW_V hQ 0 rfl rfl (hP.sub (ws' := [(M 0, mO M ca (nI n) ft kn dy fd ak pl iw nm fi nf nk sd ik kc kf kk kd ko hh), (M 19, .inl (cI, 9, .inl g1)), (M 20, .inl (cI, 8, .inl g2)), (M 21, .inl (cI, 4, .inl ga)), (M 22, .inl (cI, 4, .inl fb))]) [0, 1, 2, 3, 4] rfl) (hD.sub (ws' := [(M 0, mO M ca (nI n) ft kn dy fd ak pl iw nm fi nf nk sd ik kc kf kk kd ko hh), (M 19, .inl (cI, 9, .inl g1)), (M 20, .inl (cI, 8, .inl g2)), (M 21, .inl (cI, 4, .inl ga)), (M 22, .inl (cI, 4, .inl fb))]) [0, 1, 2, 3, 4] (by decide) rfl) hK (show vz_R D [(M 2, .inl (cI, 4, .inl (fun f => nI (F.1 f)))), (M 3, .inl (cI, 4, .inl F.2.1)), (M 4, .inl (cI, 4, .inl F.2.2)), (M 7, .inl (cI, 8, .inl r)), (M 5, .inl (cI, 4, .inl mM)), (M 6, .inl (cI, 4, .inl fM))] _ _ from (vz_R.cons ((hR.at hS).one hFc (List.mem_of_getElem? (i := 0) rfl)) (vz_R.cons ((hR.at hS).one hFc (List.mem_of_getElem? (i := 1) rfl)) (vz_R.cons ((hR.at hS).one hFc (List.mem_of_getElem? (i := 2) rfl)) (vz_R.cons ((hR.at hS).one hFc (List.mem_of_getElem? (i := 3) rfl)) (vz_R.cons ((hR.at hS).one hFc (List.mem_of_getElem? (i := 4) rfl)) (vz_R.cons ((hR.at hS).one hFc (List.mem_of_getElem? (i := 5) rfl)) vz_R.nil)))))))) rfl rfl hl.1 rfl (lv_room (Nat.le_of_ble_eq_true rfl)) dX9_about_26 ⟨Nat.le_of_ble_eq_true rfl, Nat.le_of_ble_eq_true rfl⟩) hP hD hS hA rfl rfl rfl (by decide) (fun u H locs hu hP hD hS hz9 hk9 => ?_)
      obtain ⟨z1_26_1, z2_26_1, z3_26_1, z4_26_1, z5_26_1, z6_26_1, z7_26_1⟩ := u
      have hP : va_P D vwCl [(M 0, mO M ca (nI n) ft kn dy fd ak pl iw nm z1_26_1 z2_26_1 z3_26_1 sd ik kc kf kk kd ko hh), (M 19, .inl (cI, 9, .inl z4_26_1)), (M 20, .inl (cI, 8, .inl z5_26_1)), (M 21, .inl (cI, 4, .inl z6_26_1)), (M 22, .inl (cI, 4, .inl z7_26_1))] H := hP
      have hD : va_D A [(M 0, mO M ca (nI n) ft kn dy fd ak pl iw nm z1_26_1 z2_26_1 z3_26_1 sd ik kc kf kk kd ko hh), (M 19, .inl (cI, 9, .inl z4_26_1)), (M 20, .inl (cI, 8, .inl z5_26_1)), (M 21, .inl (cI, 4, .inl z6_26_1)), (M 22, .inl (cI, 4, .inl z7_26_1))] := hD
      have hQ : va_P D vwCl ([(M 0, mO M ca (nI n) ft kn dy fd ak pl iw nm z1_26_1 z2_26_1 z3_26_1 sd ik kc kf kk kd ko hh), (M 19, .inl (cI, 9, .inl z4_26_1)), (M 20, .inl (cI, 8, .inl z5_26_1)), (M 21, .inl (cI, 4, .inl z6_26_1)), (M 22, .inl (cI, 4, .inl z7_26_1))] ++ [(M 2, .inl (cI, 4, .inl (fun f => nI (F.1 f)))), (M 3, .inl (cI, 4, .inl F.2.1)), (M 4, .inl (cI, 4, .inl F.2.2)), (M 7, .inl (cI, 8, .inl r)), (M 5, .inl (cI, 4, .inl mM)), (M 6, .inl (cI, 4, .inl fM))]) H := va_P.app hP (hR.at hS).P
      show W _ _ _ _ _ _ _ _ _ _ _ _ _ _ _ (F0 m 29 ls [.int (zAb1 F r me fe ft kn f w)])
      refine lv_goto (tgt := 34) hx hb dX9_about_29 (by decide) ?_
      refine vz_si (zAbo n F r me fe ft kn (nI f) w) (by rw [zAbo, if_pos (z_inf hf hn), nI_clamp (by omega)]) ?_
      have hP9 := hP.sub (ws' := [(M 0, mO M ca (nI n) ft kn dy fd ak pl iw nm z1_26_1 z2_26_1 z3_26_1 sd ik kc kf kk kd ko hh), (M 19, .inl (cI, 9, .inl z4_26_1)), (M 20, .inl (cI, 8, .inl z5_26_1)), (M 21, .inl (cI, 4, .inl z6_26_1)), (M 22, .inl (cI, 4, .inl z7_26_1))]) [0, 1, 2, 3, 4] rfl
      have hD9 := hD.sub (ws' := [(M 0, mO M ca (nI n) ft kn dy fd ak pl iw nm z1_26_1 z2_26_1 z3_26_1 sd ik kc kf kk kd ko hh), (M 19, .inl (cI, 9, .inl z4_26_1)), (M 20, .inl (cI, 8, .inl z5_26_1)), (M 21, .inl (cI, 4, .inl z6_26_1)), (M 22, .inl (cI, 4, .inl z7_26_1))]) [0, 1, 2, 3, 4] (by decide) rfl
      exact W.iret hx hb hr (fun t ht hW => ⟨⟨(z1_26_1, z2_26_1, z3_26_1, z4_26_1, z5_26_1, z6_26_1, z7_26_1), rfl, trivial, by rw [ht]; exact hP9, hD9⟩, hS.F ht⟩) hS.2.2 dX9_about_34
  · have b_5 : (zIn i 0 (nI n - 1)) = false := zb_f c_5
    refine lv_bipush (v := (-101)) hx hb dX9_about_8 (by decide) ?_
    refine lv_goto (tgt := 34) hx hb dX9_about_10 (by decide) ?_
    refine vz_si (zAbo n F r me fe ft kn i w) (by rw [zAbo, if_neg (by rw [b_5]; decide)]) ?_
    have hP9 := hP.sub (ws' := [(M 0, mO M ca (nI n) ft kn dy fd ak pl iw nm fi nf nk sd ik kc kf kk kd ko hh), (M 19, .inl (cI, 9, .inl g1)), (M 20, .inl (cI, 8, .inl g2)), (M 21, .inl (cI, 4, .inl ga)), (M 22, .inl (cI, 4, .inl fb))]) [0, 1, 2, 3, 4] rfl
    have hD9 := hD.sub (ws' := [(M 0, mO M ca (nI n) ft kn dy fd ak pl iw nm fi nf nk sd ik kc kf kk kd ko hh), (M 19, .inl (cI, 9, .inl g1)), (M 20, .inl (cI, 8, .inl g2)), (M 21, .inl (cI, 4, .inl ga)), (M 22, .inl (cI, 4, .inl fb))]) [0, 1, 2, 3, 4] (by decide) rfl
    exact W.iret hx hb hr (fun t ht hW => ⟨⟨(fi, nf, nk, g1, g2, ga, fb), rfl, trivial, by rw [ht]; exact hP9, hD9⟩, hS.F ht⟩) hS.2.2 dX9_about_34
set_option maxRecDepth 100000 in
theorem iw_X9_as_X9 : ∀ w ∈ u_ws RX9 TX9 41, w ∈ wsX9_as := fun w h => List.mem_cons_of_mem _ (List.mem_append_right _ h)
set_option maxRecDepth 100000 in
theorem hw_X9_as_1 : (.fieldLink RX9 7 "RotaFathersModel" "kindOf" "[I" : Cond) ∈ wsX9_as := List.mem_of_getElem? (i := 1) rfl
set_option maxRecDepth 100000 in
theorem hd_X9_as : yX9_as.cls ≠ "java/lang/invoke/MethodHandle" ∧ yX9_as.cls ≠ "java/lang/invoke/VarHandle" ∧ (parseMethodDescriptor yX9_as.desc).map (fun d => d.parameters.length) = some 2 := by decide +kernel
set_option maxHeartbeats 4000000 in
set_option maxRecDepth 100000 in
theorem c_X9_as (l : Launch) (D : va_G) (cI cB cF : ClassId) (M : Nat → Nat) (ca : Int32) (ft : Int32) (kn : Int32) (dy : Int32) (fd : Int32) (ak : Int32) (pl : Int32) (iw : Int32) (nm : Int32) (fi : Int32) (nf : Int32) (nk : Int32) (sd : Int64) (ik : Int32) (kc : Int32) (kf : Int32) (kk : Int32) (kd : Int32) (ko : Int32) (hh : Int64) (n : Nat) (F : zF) (i : Int32) (kd : Int32) (hn : n ≤ 4) (hF : zFo n F) : Met l yX9_as wsX9_as ({ frames := 2, cells := 0, slots := 0, locals := 43 } : Room) (PcP D cI cB cF [.ref (M 0), .int i, .int kd] [(M 0, mO M ca (nI n) ft kn dy fd ak pl iw nm fi nf nk sd ik kc kf kk kd ko hh), (M 2, .inl (cI, 4, .inl (fun f => nI (F.1 f))))]) (QcV (.int (zAs n F i kd))) 0 0 (fun _ => False) := by
  refine Met.ofW (cc := cX9_as) (maxL := 4) (ret := (some .int)) (by decide) rfl ?_
  intro p e s m args below meth c s₁ Bd hml hv
  rw [show (headSpec wsX9_as ({ frames := 2, cells := 0, slots := 0, locals := 43 } : Room)).room = ({ frames := 2, cells := 0, slots := 0, locals := 43 } : Room) from rfl]
  obtain ⟨rfl, hQ, hK⟩ := hv
  have hx := Bd.exec
  have hb := Bd.bytes
  have hr := Bd.returns
  have hts := atoms_spec (ws := wsX9_as) Bd.pre
  have hown : s.vm.findClass RX9 = some m.cls := findClass_of_methodNamed Bd.named
  have hlocks := Bd.notSynchronized
  have FX : CallFix p m c cX9_as 4 s _ wsX9_as RX9 := ⟨hx, hb, hml, hown, hts⟩
  have hQ : va_P D vwCl [(M 0, mO M ca (nI n) ft kn dy fd ak pl iw nm fi nf nk sd ik kc kf kk kd ko hh), (M 2, .inl (cI, 4, .inl (fun f => nI (F.1 f))))] s.heap := hQ
  have hl := lv_entry ([.ref (M 0), .int i, .int kd]) (n := 4) (Nat.le_of_ble_eq_true rfl)
  rw [lg_entry_eq]
  generalize (lg_sl ([.ref (M 0), .int i, .int kd]) ++ List.replicate (4 - (lg_sl ([.ref (M 0), .int i, .int kd])).length) Slot.unset).toArray = ls at hl ⊢
  have hl : lv_has ls 4 [(0, .ref (M 0)), (1, .int i), (2, .int kd)] := hl
  refine lv_aload_n hx hb dX9_as_0 rfl (lv_at hl 0 rfl) ?_
  refine lv_iload_n hx hb dX9_as_1 rfl (lv_at hl 1 rfl) ?_
  refine vz_rd (va_runV (As := [.int i]) (rest := []) FX (c_X9_isFather l D cI cB cF M ca ft kn dy fd ak pl iw nm fi nf nk sd ik kc kf kk kd ko hh n i ) (cwV 1 hts gX9_as_X9_isFather rfl rfl rfl ⟨rfl, hd_X9_isFather⟩ ⟨Nat.le_of_ble_eq_true rfl, Nat.le_of_ble_eq_true rfl⟩) (preP_V hQ 0 rfl rfl (hQ.sub (ws' := [(M 0, mO M ca (nI n) ft kn dy fd ak pl iw nm fi nf nk sd ik kc kf kk kd ko hh)]) [0] rfl) hK) rfl rfl hl.1 rfl (lv_room (Nat.le_of_ble_eq_true rfl)) dX9_as_2 ⟨Nat.le_of_ble_eq_true rfl, Nat.le_of_ble_eq_true rfl⟩) ?_
  refine lv_if_ne (tgt := 11) hx hb dX9_as_5 (by decide) (fun c_5 => ?_) (fun c_5 => ?_)
  · have b_5 : (zIn i 0 (nI n - 1)) = true := zb_t c_5
    obtain ⟨f, hf, rfl⟩ := z_f8 hn b_5
    refine lv_iload_n hx hb dX9_as_11 rfl (lv_at hl 2 rfl) ?_
    refine lv_iconst (v := 0) hx hb dX9_as_12 (by decide) ?_
    refine lv_iconst (v := 4) hx hb dX9_as_13 (by decide) ?_
    refine vz_rd (va_runS (As := [.int kd, .int 0, .int 4]) (rest := []) FX (c_X9_within l D cI cB cF kd 0 4 ) (va_cwS 3 hts gX9_as_X9_within rfl rfl rfl hd_X9_within ⟨Nat.le_of_ble_eq_true rfl, Nat.le_of_ble_eq_true rfl⟩) (preP_S (hQ.sub (ws' := []) [] rfl) hK) rfl rfl hl.1 rfl (lv_room (Nat.le_of_ble_eq_true rfl)) dX9_as_14 ⟨Nat.le_of_ble_eq_true rfl, Nat.le_of_ble_eq_true rfl⟩) ?_
    refine lv_if_ne (tgt := 23) hx hb dX9_as_17 (by decide) (fun c_17 => ?_) (fun c_17 => ?_)
    · have b_17 : (zIn kd 0 4) = true := zb_t c_17
      refine lv_aload_n hx hb dX9_as_23 rfl (lv_at hl 0 rfl) ?_
      refine va_get (D := D) (cl := vwCl) (tys := zT cI cB cF) (ci := 9) (v := .ref (M 2)) (C := RX9) (T := TX9) (N := 41) hx hb hts iw_X9_as_X9 hown hK.1 hQ 0 rfl rfl 2 (by decide) (hts _ hw_X9_as_1) (fun _ h9 => h9) rfl dX9_as_24 ?_
      refine lv_iload_n hx hb dX9_as_27 rfl (lv_at hl 1 rfl) ?_
      refine va_iald (D := D) (cl := vwCl) (tys := zT cI cB cF) (f := (fun f => nI (F.1 f))) hx hb hK.1 hQ 1 0 rfl rfl (vp_in_nI (by omega) (by omega)) dX9_as_28 ?_
      refine vz_si (nI (F.1 f)) (by rw [nI_clamp (n := f) (by omega)]) ?_
      refine lv_istore_n (lv' := [(3, .int (nI (F.1 f))), (0, .ref (M 0)), (1, .int (nI f)), (2, .int kd)]) hx hb dX9_as_29 rfl hl (by decide) rfl (fun ls hl => ?_)
      refine lv_iload_n hx hb dX9_as_30 rfl (lv_at hl 3 rfl) ?_
      refine lv_if_eq (tgt := 49) hx hb dX9_as_31 (by decide) (fun c_31 => ?_) (fun c_31 => ?_)
      · refine lv_iload_n hx hb dX9_as_49 rfl (lv_at hl 2 rfl) ?_
        refine lv_goto (tgt := 54) hx hb dX9_as_50 (by decide) ?_
        refine vz_si (zAs n F (nI f) kd) (by rw [zAs, if_pos (z_inf hf hn), if_pos b_17, nI_clamp (by omega), zIs_ref (hF f hf).1 b_17]; first | rw [if_pos (by rw [decide_eq_true c_31]; rfl)] | rw [if_pos (by rw [decide_eq_true c_36, Bool.true_or, Bool.or_true])] | rw [if_pos (by rw [decide_eq_true c_41, decide_eq_true c_46, Bool.true_and, Bool.or_true, Bool.or_true])] | rw [if_neg (by rw [decide_eq_false c_31, decide_eq_false c_36, decide_eq_false c_41, Bool.false_and]; decide)] | rw [if_neg (by rw [decide_eq_false c_31, decide_eq_false c_36, decide_eq_false c_46, Bool.and_false]; decide)]) ?_
        exact W.iret hx hb hr (fun t ht hW => ⟨rfl, ht⟩) (fun q h => by cases h) dX9_as_54
      · refine lv_iload_n hx hb dX9_as_34 rfl (lv_at hl 0 rfl) ?_
        refine lv_iload_n hx hb dX9_as_35 rfl (lv_at hl 3 rfl) ?_
        refine lv_icmp_eq (tgt := 49) hx hb dX9_as_36 (by decide) (fun c_36 => ?_) (fun c_36 => ?_)
        · refine lv_iload_n hx hb dX9_as_49 rfl (lv_at hl 2 rfl) ?_
          refine lv_goto (tgt := 54) hx hb dX9_as_50 (by decide) ?_
          refine vz_si (zAs n F (nI f) kd) (by rw [zAs, if_pos (z_inf hf hn), if_pos b_17, nI_clamp (by omega), zIs_ref (hF f hf).1 b_17]; first | rw [if_pos (by rw [decide_eq_true c_31]; rfl)] | rw [if_pos (by rw [decide_eq_true c_36, Bool.true_or, Bool.or_true])] | rw [if_pos (by rw [decide_eq_true c_41, decide_eq_true c_46, Bool.true_and, Bool.or_true, Bool.or_true])] | rw [if_neg (by rw [decide_eq_false c_31, decide_eq_false c_36, decide_eq_false c_41, Bool.false_and]; decide)] | rw [if_neg (by rw [decide_eq_false c_31, decide_eq_false c_36, decide_eq_false c_46, Bool.and_false]; decide)]) ?_
          exact W.iret hx hb hr (fun t ht hW => ⟨rfl, ht⟩) (fun q h => by cases h) dX9_as_54
        · refine lv_iload_n hx hb dX9_as_39 rfl (lv_at hl 3 rfl) ?_
          refine lv_iconst (v := 1) hx hb dX9_as_40 (by decide) ?_
          refine lv_icmp_ne (tgt := 53) hx hb dX9_as_41 (by decide) (fun c_41 => ?_) (fun c_41 => ?_)
          · refine lv_iconst (v := (-1)) hx hb dX9_as_53 (by decide) ?_
            refine vz_si (zAs n F (nI f) kd) (by rw [zAs, if_pos (z_inf hf hn), if_pos b_17, nI_clamp (by omega), zIs_ref (hF f hf).1 b_17]; first | rw [if_pos (by rw [decide_eq_true c_31]; rfl)] | rw [if_pos (by rw [decide_eq_true c_36, Bool.true_or, Bool.or_true])] | rw [if_pos (by rw [decide_eq_true c_41, decide_eq_true c_46, Bool.true_and, Bool.or_true, Bool.or_true])] | rw [if_neg (by rw [decide_eq_false c_31, decide_eq_false c_36, decide_eq_false c_41, Bool.false_and]; decide)] | rw [if_neg (by rw [decide_eq_false c_31, decide_eq_false c_36, decide_eq_false c_46, Bool.and_false]; decide)]) ?_
            exact W.iret hx hb hr (fun t ht hW => ⟨rfl, ht⟩) (fun q h => by cases h) dX9_as_54
          · refine lv_iload_n hx hb dX9_as_44 rfl (lv_at hl 0 rfl) ?_
            refine lv_iconst (v := 4) hx hb dX9_as_45 (by decide) ?_
            refine lv_icmp_ne (tgt := 53) hx hb dX9_as_46 (by decide) (fun c_46 => ?_) (fun c_46 => ?_)
            · refine lv_iconst (v := (-1)) hx hb dX9_as_53 (by decide) ?_
              refine vz_si (zAs n F (nI f) kd) (by rw [zAs, if_pos (z_inf hf hn), if_pos b_17, nI_clamp (by omega), zIs_ref (hF f hf).1 b_17]; first | rw [if_pos (by rw [decide_eq_true c_31]; rfl)] | rw [if_pos (by rw [decide_eq_true c_36, Bool.true_or, Bool.or_true])] | rw [if_pos (by rw [decide_eq_true c_41, decide_eq_true c_46, Bool.true_and, Bool.or_true, Bool.or_true])] | rw [if_neg (by rw [decide_eq_false c_31, decide_eq_false c_36, decide_eq_false c_41, Bool.false_and]; decide)] | rw [if_neg (by rw [decide_eq_false c_31, decide_eq_false c_36, decide_eq_false c_46, Bool.and_false]; decide)]) ?_
              exact W.iret hx hb hr (fun t ht hW => ⟨rfl, ht⟩) (fun q h => by cases h) dX9_as_54
            · refine lv_iload_n hx hb dX9_as_49 rfl (lv_at hl 2 rfl) ?_
              refine lv_goto (tgt := 54) hx hb dX9_as_50 (by decide) ?_
              refine vz_si (zAs n F (nI f) kd) (by rw [zAs, if_pos (z_inf hf hn), if_pos b_17, nI_clamp (by omega), zIs_ref (hF f hf).1 b_17]; first | rw [if_pos (by rw [decide_eq_true c_31]; rfl)] | rw [if_pos (by rw [decide_eq_true c_36, Bool.true_or, Bool.or_true])] | rw [if_pos (by rw [decide_eq_true c_41, decide_eq_true c_46, Bool.true_and, Bool.or_true, Bool.or_true])] | rw [if_neg (by rw [decide_eq_false c_31, decide_eq_false c_36, decide_eq_false c_41, Bool.false_and]; decide)] | rw [if_neg (by rw [decide_eq_false c_31, decide_eq_false c_36, decide_eq_false c_46, Bool.and_false]; decide)]) ?_
              exact W.iret hx hb hr (fun t ht hW => ⟨rfl, ht⟩) (fun q h => by cases h) dX9_as_54
    · have b_17 : (zIn kd 0 4) = false := zb_f c_17
      refine lv_bipush (v := (-102)) hx hb dX9_as_20 (by decide) ?_
      refine vz_si (zAs n F (nI f) kd) (by rw [zAs, if_pos (z_inf hf hn), if_neg (by rw [b_17]; decide)]) ?_
      exact W.iret hx hb hr (fun t ht hW => ⟨rfl, ht⟩) (fun q h => by cases h) dX9_as_22
  · have b_5 : (zIn i 0 (nI n - 1)) = false := zb_f c_5
    refine lv_bipush (v := (-101)) hx hb dX9_as_8 (by decide) ?_
    refine vz_si (zAs n F i kd) (by rw [zAs, if_neg (by rw [b_5]; decide)]) ?_
    exact W.iret hx hb hr (fun t ht hW => ⟨rfl, ht⟩) (fun q h => by cases h) dX9_as_10
set_option maxRecDepth 100000 in
theorem iw_X9_rota_X9 : ∀ w ∈ u_ws RX9 TX9 41, w ∈ wsX9_rota := fun w h => List.mem_cons_of_mem _ (List.mem_append_right _ h)
set_option maxRecDepth 100000 in
theorem hw_X9_rota_1 : (.fieldLink RX9 25 "RotaFathersModel" "rotaOf" "[I" : Cond) ∈ wsX9_rota := List.mem_of_getElem? (i := 1) rfl
set_option maxRecDepth 100000 in
theorem hd_X9_rota : yX9_rota.cls ≠ "java/lang/invoke/MethodHandle" ∧ yX9_rota.cls ≠ "java/lang/invoke/VarHandle" ∧ (parseMethodDescriptor yX9_rota.desc).map (fun d => d.parameters.length) = some 2 := by decide +kernel
set_option maxHeartbeats 4000000 in
set_option maxRecDepth 100000 in
theorem c_X9_rota (l : Launch) (D : va_G) (cI cB cF : ClassId) (sz : Nat) (M : Nat → Nat) (ca : Int32) (ft : Int32) (kn : Int32) (dy : Int32) (fd : Int32) (ak : Int32) (pl : Int32) (iw : Int32) (nm : Int32) (fi : Int32) (nf : Int32) (nk : Int32) (sd : Int64) (ik : Int32) (kc : Int32) (kf : Int32) (kk : Int32) (kd : Int32) (ko : Int32) (hh : Int64) (n : Nat) (r : Nat → Int32) (s0 : Int32) (i : Int32) (hn : n ≤ 4) : Met l yX9_rota wsX9_rota ({ frames := 2, cells := 0, slots := 0, locals := 43 } : Room) (PcW D cI cB cF [.ref (M 0), .int s0, .int i] sz [(M 7, .inl (cI, 8, .inl r))] [(M 0, mO M ca (nI n) ft kn dy fd ak pl iw nm fi nf nk sd ik kc kf kk kd ko hh)]) (Qw D (S := Unit) (fun xx => some (.int (zRa n r s0 i))) (fun xx => True) (fun xx => [(M 7, .inl (cI, 8, .inl (zRr n r s0 i)))]) (va_A [(M 7, .inl (cI, 8, .inl r))] sz)) 0 0 (va_A [(M 7, .inl (cI, 8, .inl r))] sz) := by
  refine Met.ofW (cc := cX9_rota) (maxL := 4) (ret := (some .int)) (by decide) rfl ?_
  intro p e s m args below meth c s₁ Bd hml hv
  rw [show (headSpec wsX9_rota ({ frames := 2, cells := 0, slots := 0, locals := 43 } : Room)).room = ({ frames := 2, cells := 0, slots := 0, locals := 43 } : Room) from rfl]
  obtain ⟨rfl, hsz, hP, hK, hD0, hR⟩ := hv
  have hx := Bd.exec
  have hb := Bd.bytes
  have hr := Bd.returns
  have hts := atoms_spec (ws := wsX9_rota) Bd.pre
  have hown : s.vm.findClass RX9 = some m.cls := findClass_of_methodNamed Bd.named
  have hlocks := Bd.notSynchronized
  have FX : CallFix p m c cX9_rota 4 s _ wsX9_rota RX9 := ⟨hx, hb, hml, hown, hts⟩
  subst hsz
  have hD := hD0.self (sz := s.heap.size)
  generalize hAe : va_A [(M 7, .inl (cI, 8, .inl r))] s.heap.size = A at hD hR ⊢
  have hA : ∀ q : Nat, s.heap.size ≤ q → A q := fun q h => by rw [← hAe]; exact Or.inr h
  have hS : va_S A s.heap s.heap [] := va_S.rf
  have hP : va_P D vwCl [(M 7, .inl (cI, 8, .inl r))] s.heap := hP
  have hQ : va_P D vwCl ([(M 7, .inl (cI, 8, .inl r))] ++ [(M 0, mO M ca (nI n) ft kn dy fd ak pl iw nm fi nf nk sd ik kc kf kk kd ko hh)]) s.heap := va_P.app hP (hR.at hS).P
  have hl := lv_entry ([.ref (M 0), .int s0, .int i]) (n := 4) (Nat.le_of_ble_eq_true rfl)
  rw [lg_entry_eq]
  generalize (lg_sl ([.ref (M 0), .int s0, .int i]) ++ List.replicate (4 - (lg_sl ([.ref (M 0), .int s0, .int i])).length) Slot.unset).toArray = ls at hl ⊢
  have hl : lv_has ls 4 [(0, .ref (M 0)), (1, .int s0), (2, .int i)] := hl
  refine lv_aload_n hx hb dX9_rota_0 rfl (lv_at hl 0 rfl) ?_
  refine lv_iload_n hx hb dX9_rota_1 rfl (lv_at hl 1 rfl) ?_
  refine vz_rd (va_runV (As := [.int s0]) (rest := []) FX (c_X9_isShift l D cI cB cF M ca ft kn dy fd ak pl iw nm fi nf nk sd ik kc kf kk kd ko hh n s0 (by first | assumption | omega | decide)) (cwV 1 hts gX9_rota_X9_isShift rfl rfl rfl ⟨rfl, hd_X9_isShift⟩ ⟨Nat.le_of_ble_eq_true rfl, Nat.le_of_ble_eq_true rfl⟩) (preP_V hQ 1 rfl rfl (hQ.sub (ws' := [(M 0, mO M ca (nI n) ft kn dy fd ak pl iw nm fi nf nk sd ik kc kf kk kd ko hh)]) [1] rfl) hK) rfl rfl hl.1 rfl (lv_room (Nat.le_of_ble_eq_true rfl)) dX9_rota_2 ⟨Nat.le_of_ble_eq_true rfl, Nat.le_of_ble_eq_true rfl⟩) ?_
  refine lv_if_eq (tgt := 21) hx hb dX9_rota_5 (by decide) (fun c_5 => ?_) (fun c_5 => ?_)
  · have b_5 : (decide (0 < n) && zIn s0 0 7) = false := zb_f c_5
    have hrk : zRk n s0 i = false := by rw [zRk, b_5]; rfl
    refine lv_bipush (v := (-101)) hx hb dX9_rota_21 (by decide) ?_
    have hP : va_P D vwCl [(M 7, .inl (cI, 8, .inl (zRr n r s0 i)))] s.heap := vz_arr (g := zRr n r s0 i) hP 0 rfl (fun j _ => by rw [zRr, if_neg (by rw [hrk]; decide)])
    have hD : va_D A [(M 7, .inl (cI, 8, .inl (zRr n r s0 i)))] := vz_arrD hD 0 rfl
    have hQ : va_P D vwCl ([(M 7, .inl (cI, 8, .inl (zRr n r s0 i)))] ++ [(M 0, mO M ca (nI n) ft kn dy fd ak pl iw nm fi nf nk sd ik kc kf kk kd ko hh)]) s.heap := va_P.app hP (hR.at hS).P
    refine vz_si (zRa n r s0 i) (by rw [zRa, if_neg (by rw [hrk]; decide)]) ?_
    have hP9 := hP.sub (ws' := [(M 7, .inl (cI, 8, .inl (zRr n r s0 i)))]) [0] rfl
    have hD9 := hD.sub (ws' := [(M 7, .inl (cI, 8, .inl (zRr n r s0 i)))]) [0] (by decide) rfl
    exact W.iret hx hb hr (fun t ht hW => ⟨⟨(), rfl, trivial, by rw [ht]; exact hP9, hD9⟩, hS.F ht⟩) hS.2.2 dX9_rota_23
  · have b_5 : (decide (0 < n) && zIn s0 0 7) = true := zb_t c_5
    obtain ⟨s1, hs, rfl⟩ := z_s8 (z_and_r b_5)
    refine lv_iload_n hx hb dX9_rota_8 rfl (lv_at hl 2 rfl) ?_
    refine lv_iconst (v := (-1)) hx hb dX9_rota_9 (by decide) ?_
    refine lv_icmp_eq (tgt := 24) hx hb dX9_rota_10 (by decide) (fun c_10 => ?_) (fun c_10 => ?_)
    · have hrk : zRk n (nI s1) i = true := by rw [zRk, b_5, decide_eq_true c_10]; rfl
      refine lv_aload_n hx hb dX9_rota_24 rfl (lv_at hl 0 rfl) ?_
      refine va_get (D := D) (cl := vwCl) (tys := zT cI cB cF) (ci := 9) (v := .ref (M 7)) (C := RX9) (T := TX9) (N := 41) hx hb hts iw_X9_rota_X9 hown hK.1 hQ 1 rfl rfl 7 (by decide) (hts _ hw_X9_rota_1) (fun _ h9 => h9) rfl dX9_rota_25 ?_
      refine lv_iload_n hx hb dX9_rota_28 rfl (lv_at hl 1 rfl) ?_
      refine va_iald (D := D) (cl := vwCl) (tys := zT cI cB cF) (f := r) hx hb hK.1 hQ 0 0 rfl rfl (vp_in_nI (by omega) (by omega)) dX9_rota_29 ?_
      refine vz_si (r s1) (by rw [nI_clamp (n := s1) (by omega)]) ?_
      refine lv_istore_n (lv' := [(3, .int (r s1)), (0, .ref (M 0)), (1, .int (nI s1)), (2, .int i)]) hx hb dX9_rota_30 rfl hl (by decide) rfl (fun ls hl => ?_)
      refine lv_aload_n hx hb dX9_rota_31 rfl (lv_at hl 1 rfl) ?_
      refine va_get (D := D) (cl := vwCl) (tys := zT cI cB cF) (ci := 9) (v := .ref (M 7)) (C := RX9) (T := TX9) (N := 41) hx hb hts iw_X9_rota_X9 hown hK.1 hQ 1 rfl rfl 7 (by decide) (hts _ hw_X9_rota_1) (fun _ h9 => h9) rfl dX9_rota_32 ?_
      refine lv_iload_n hx hb dX9_rota_35 rfl (lv_at hl 2 rfl) ?_
      refine lv_iload_n hx hb dX9_rota_36 rfl (lv_at hl 3 rfl) ?_
      refine va_iast (D := D) (cl := vwCl) (tys := zT cI cB cF) (f := r) hx hb hK.1 hP hD hS 0 0 rfl rfl (vp_in_nI (by omega) (by omega)) dX9_rota_37 (fun H locs hP hD hS => ?_)
      rw [nI_clamp (n := s1) (by omega)] at hP hD
      have hP : va_P D vwCl [(M 7, .inl (cI, 8, .inl (upd r s1 i)))] H := hP
      have hD : va_D A [(M 7, .inl (cI, 8, .inl (upd r s1 i)))] := hD
      have hQ : va_P D vwCl ([(M 7, .inl (cI, 8, .inl (upd r s1 i)))] ++ [(M 0, mO M ca (nI n) ft kn dy fd ak pl iw nm fi nf nk sd ik kc kf kk kd ko hh)]) H := va_P.app hP (hR.at hS).P
      refine lv_iload_n hx hb dX9_rota_38 rfl (lv_at hl 0 rfl) ?_
      have hP : va_P D vwCl [(M 7, .inl (cI, 8, .inl (zRr n r (nI s1) i)))] H := vz_arr (g := zRr n r (nI s1) i) hP 0 rfl (fun j _ => by rw [zRr, if_pos hrk, nI_clamp (by omega)])
      have hD : va_D A [(M 7, .inl (cI, 8, .inl (zRr n r (nI s1) i)))] := vz_arrD hD 0 rfl
      have hQ : va_P D vwCl ([(M 7, .inl (cI, 8, .inl (zRr n r (nI s1) i)))] ++ [(M 0, mO M ca (nI n) ft kn dy fd ak pl iw nm fi nf nk sd ik kc kf kk kd ko hh)]) H := va_P.app hP (hR.at hS).P
      refine vz_si (zRa n r (nI s1) i) (by rw [zRa, if_pos hrk, nI_clamp (by omega)]) ?_
      have hP9 := hP.sub (ws' := [(M 7, .inl (cI, 8, .inl (zRr n r (nI s1) i)))]) [0] rfl
      have hD9 := hD.sub (ws' := [(M 7, .inl (cI, 8, .inl (zRr n r (nI s1) i)))]) [0] (by decide) rfl
      exact W.iret hx hb hr (fun t ht hW => ⟨⟨(), rfl, trivial, by rw [ht]; exact hP9, hD9⟩, hS.F ht⟩) hS.2.2 dX9_rota_39
    · refine lv_aload_n hx hb dX9_rota_13 rfl (lv_at hl 0 rfl) ?_
      refine lv_iload_n hx hb dX9_rota_14 rfl (lv_at hl 2 rfl) ?_
      refine vz_rd (va_runV (As := [.int i]) (rest := []) FX (c_X9_isFather l D cI cB cF M ca ft kn dy fd ak pl iw nm fi nf nk sd ik kc kf kk kd ko hh n i ) (cwV 1 hts gX9_rota_X9_isFather rfl rfl rfl ⟨rfl, hd_X9_isFather⟩ ⟨Nat.le_of_ble_eq_true rfl, Nat.le_of_ble_eq_true rfl⟩) (preP_V hQ 1 rfl rfl (hQ.sub (ws' := [(M 0, mO M ca (nI n) ft kn dy fd ak pl iw nm fi nf nk sd ik kc kf kk kd ko hh)]) [1] rfl) hK) rfl rfl hl.1 rfl (lv_room (Nat.le_of_ble_eq_true rfl)) dX9_rota_15 ⟨Nat.le_of_ble_eq_true rfl, Nat.le_of_ble_eq_true rfl⟩) ?_
      refine lv_if_ne (tgt := 24) hx hb dX9_rota_18 (by decide) (fun c_18 => ?_) (fun c_18 => ?_)
      · have b_18 : (zIn i 0 (nI n - 1)) = true := zb_t c_18
        have hrk : zRk n (nI s1) i = true := by rw [zRk, b_5, b_18, Bool.or_true]; rfl
        refine lv_aload_n hx hb dX9_rota_24 rfl (lv_at hl 0 rfl) ?_
        refine va_get (D := D) (cl := vwCl) (tys := zT cI cB cF) (ci := 9) (v := .ref (M 7)) (C := RX9) (T := TX9) (N := 41) hx hb hts iw_X9_rota_X9 hown hK.1 hQ 1 rfl rfl 7 (by decide) (hts _ hw_X9_rota_1) (fun _ h9 => h9) rfl dX9_rota_25 ?_
        refine lv_iload_n hx hb dX9_rota_28 rfl (lv_at hl 1 rfl) ?_
        refine va_iald (D := D) (cl := vwCl) (tys := zT cI cB cF) (f := r) hx hb hK.1 hQ 0 0 rfl rfl (vp_in_nI (by omega) (by omega)) dX9_rota_29 ?_
        refine vz_si (r s1) (by rw [nI_clamp (n := s1) (by omega)]) ?_
        refine lv_istore_n (lv' := [(3, .int (r s1)), (0, .ref (M 0)), (1, .int (nI s1)), (2, .int i)]) hx hb dX9_rota_30 rfl hl (by decide) rfl (fun ls hl => ?_)
        refine lv_aload_n hx hb dX9_rota_31 rfl (lv_at hl 1 rfl) ?_
        refine va_get (D := D) (cl := vwCl) (tys := zT cI cB cF) (ci := 9) (v := .ref (M 7)) (C := RX9) (T := TX9) (N := 41) hx hb hts iw_X9_rota_X9 hown hK.1 hQ 1 rfl rfl 7 (by decide) (hts _ hw_X9_rota_1) (fun _ h9 => h9) rfl dX9_rota_32 ?_
        refine lv_iload_n hx hb dX9_rota_35 rfl (lv_at hl 2 rfl) ?_
        refine lv_iload_n hx hb dX9_rota_36 rfl (lv_at hl 3 rfl) ?_
        refine va_iast (D := D) (cl := vwCl) (tys := zT cI cB cF) (f := r) hx hb hK.1 hP hD hS 0 0 rfl rfl (vp_in_nI (by omega) (by omega)) dX9_rota_37 (fun H locs hP hD hS => ?_)
        rw [nI_clamp (n := s1) (by omega)] at hP hD
        have hP : va_P D vwCl [(M 7, .inl (cI, 8, .inl (upd r s1 i)))] H := hP
        have hD : va_D A [(M 7, .inl (cI, 8, .inl (upd r s1 i)))] := hD
        have hQ : va_P D vwCl ([(M 7, .inl (cI, 8, .inl (upd r s1 i)))] ++ [(M 0, mO M ca (nI n) ft kn dy fd ak pl iw nm fi nf nk sd ik kc kf kk kd ko hh)]) H := va_P.app hP (hR.at hS).P
        refine lv_iload_n hx hb dX9_rota_38 rfl (lv_at hl 0 rfl) ?_
        have hP : va_P D vwCl [(M 7, .inl (cI, 8, .inl (zRr n r (nI s1) i)))] H := vz_arr (g := zRr n r (nI s1) i) hP 0 rfl (fun j _ => by rw [zRr, if_pos hrk, nI_clamp (by omega)])
        have hD : va_D A [(M 7, .inl (cI, 8, .inl (zRr n r (nI s1) i)))] := vz_arrD hD 0 rfl
        have hQ : va_P D vwCl ([(M 7, .inl (cI, 8, .inl (zRr n r (nI s1) i)))] ++ [(M 0, mO M ca (nI n) ft kn dy fd ak pl iw nm fi nf nk sd ik kc kf kk kd ko hh)]) H := va_P.app hP (hR.at hS).P
        refine vz_si (zRa n r (nI s1) i) (by rw [zRa, if_pos hrk, nI_clamp (by omega)]) ?_
        have hP9 := hP.sub (ws' := [(M 7, .inl (cI, 8, .inl (zRr n r (nI s1) i)))]) [0] rfl
        have hD9 := hD.sub (ws' := [(M 7, .inl (cI, 8, .inl (zRr n r (nI s1) i)))]) [0] (by decide) rfl
        exact W.iret hx hb hr (fun t ht hW => ⟨⟨(), rfl, trivial, by rw [ht]; exact hP9, hD9⟩, hS.F ht⟩) hS.2.2 dX9_rota_39
      · have b_18 : (zIn i 0 (nI n - 1)) = false := zb_f c_18
        have hrk : zRk n (nI s1) i = false := by rw [zRk, b_5, decide_eq_false c_10, b_18]; rfl
        refine lv_bipush (v := (-101)) hx hb dX9_rota_21 (by decide) ?_
        have hP : va_P D vwCl [(M 7, .inl (cI, 8, .inl (zRr n r (nI s1) i)))] s.heap := vz_arr (g := zRr n r (nI s1) i) hP 0 rfl (fun j _ => by rw [zRr, if_neg (by rw [hrk]; decide)])
        have hD : va_D A [(M 7, .inl (cI, 8, .inl (zRr n r (nI s1) i)))] := vz_arrD hD 0 rfl
        have hQ : va_P D vwCl ([(M 7, .inl (cI, 8, .inl (zRr n r (nI s1) i)))] ++ [(M 0, mO M ca (nI n) ft kn dy fd ak pl iw nm fi nf nk sd ik kc kf kk kd ko hh)]) s.heap := va_P.app hP (hR.at hS).P
        refine vz_si (zRa n r (nI s1) i) (by rw [zRa, if_neg (by rw [hrk]; decide)]) ?_
        have hP9 := hP.sub (ws' := [(M 7, .inl (cI, 8, .inl (zRr n r (nI s1) i)))]) [0] rfl
        have hD9 := hD.sub (ws' := [(M 7, .inl (cI, 8, .inl (zRr n r (nI s1) i)))]) [0] (by decide) rfl
        exact W.iret hx hb hr (fun t ht hW => ⟨⟨(), rfl, trivial, by rw [ht]; exact hP9, hD9⟩, hS.F ht⟩) hS.2.2 dX9_rota_23
