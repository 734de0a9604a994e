set_option maxRecDepth 100000 in
theorem iw_X9_isFigure_X9 : ∀ w ∈ u_ws RX9 TX9 41, w ∈ wsX9_isFigure := fun w h => List.mem_cons_of_mem _ (List.mem_append_right _ h)
set_option maxRecDepth 100000 in
theorem hw_X9_isFigure_1 : (.fieldLink RX9 75 "RotaFathersModel" "pageLength" "I" : Cond) ∈ wsX9_isFigure := List.mem_of_getElem? (i := 1) rfl
set_option maxRecDepth 100000 in
theorem hw_X9_isFigure_2 : (.fieldLink RX9 34 "RotaFathersModel" "page" "[B" : Cond) ∈ wsX9_isFigure := List.mem_of_getElem? (i := 2) rfl
set_option maxRecDepth 100000 in
theorem hd_X9_isFigure : yX9_isFigure.cls ≠ "java/lang/invoke/MethodHandle" ∧ yX9_isFigure.cls ≠ "java/lang/invoke/VarHandle" ∧ (parseMethodDescriptor yX9_isFigure.desc).map (fun d => d.parameters.length) = some 3 := by decide +kernel
set_option maxHeartbeats 4000000 in
set_option maxRecDepth 100000 in
theorem c_X9_isFigure (l : Launch) (D : va_G) (cI cB cF : ClassId) (M : Nat → Nat) (ca : Int32) (nn : Int32) (ft : Int32) (kn : Int32) (dy : Int32) (fd : Int32) (ak : Int32) (iw : Int32) (nm : Int32) (fi : Int32) (nf : Int32) (nk : Int32) (sd : Int64) (ik : Int32) (kc : Int32) (kf : Int32) (kk : Int32) (kd : Int32) (ko : Int32) (hh : Int64) (ln : Nat) (pg : Nat → Int32) (j : Nat) (lo : Int32) (hi : Int32) (hln : ln ≤ 18) (hj : j ≤ 20) : Met l yX9_isFigure wsX9_isFigure ({ frames := 1, cells := 0, slots := 0, locals := 22 } : Room) (PcP D cI cB cF [.ref (M 0), .int (nI j), .int lo, .int hi] [(M 0, mO M ca nn ft kn dy fd ak (nI ln) iw nm fi nf nk sd ik kc kf kk kd ko hh), (M 16, .inl (cB, 18, .inl pg))]) (QcV (.int (zb (zFg pg ln j lo hi)))) 0 0 (fun _ => False) := by
  refine Met.ofW (cc := cX9_isFigure) (maxL := 4) (ret := (some .boolean)) (by decide) rfl ?_
  intro p e s m args below meth c s₁ Bd hml hv
  rw [show (headSpec wsX9_isFigure ({ frames := 1, cells := 0, slots := 0, locals := 22 } : Room)).room = ({ frames := 1, cells := 0, slots := 0, locals := 22 } : Room) from rfl]
  obtain ⟨rfl, hQ, hK⟩ := hv
  have hx := Bd.exec
  have hb := Bd.bytes
  have hr := Bd.returns
  have hts := atoms_spec (ws := wsX9_isFigure) Bd.pre
  have hown : s.vm.findClass RX9 = some m.cls := findClass_of_methodNamed Bd.named
  have hlocks := Bd.notSynchronized
  have FX : CallFix p m c cX9_isFigure 4 s _ wsX9_isFigure RX9 := ⟨hx, hb, hml, hown, hts⟩
  have hQ : va_P D vwCl [(M 0, mO M ca nn ft kn dy fd ak (nI ln) iw nm fi nf nk sd ik kc kf kk kd ko hh), (M 16, .inl (cB, 18, .inl pg))] s.heap := hQ
  have hl := lv_entry ([.ref (M 0), .int (nI j), .int lo, .int hi]) (n := 4) (Nat.le_of_ble_eq_true rfl)
  rw [lg_entry_eq]
  generalize (lg_sl ([.ref (M 0), .int (nI j), .int lo, .int hi]) ++ List.replicate (4 - (lg_sl ([.ref (M 0), .int (nI j), .int lo, .int hi])).length) Slot.unset).toArray = ls at hl ⊢
  have hl : lv_has ls 4 [(0, .ref (M 0)), (1, .int (nI j)), (2, .int lo), (3, .int hi)] := hl
  refine lv_iload_n hx hb dX9_isFigure_0 rfl (lv_at hl 1 rfl) ?_
  refine lv_aload_n hx hb dX9_isFigure_1 rfl (lv_at hl 0 rfl) ?_
  refine va_get (D := D) (cl := vwCl) (tys := zT cI cB cF) (ci := 9) (v := .int (nI ln)) (C := RX9) (T := TX9) (N := 41) hx hb hts iw_X9_isFigure_X9 hown hK.1 hQ 0 rfl rfl 15 (by decide) (hts _ hw_X9_isFigure_1) (fun _ h9 => h9) rfl dX9_isFigure_2 ?_
  refine lv_icmp_ge (tgt := 29) hx hb dX9_isFigure_5 (by decide) (fun c_5 => ?_) (fun c_5 => ?_)
  · have hge_5 : ln ≤ j := (nI_zle (a := ln) (b := j) (by omega) (by omega)).mp c_5
    refine lv_iconst (v := 0) hx hb dX9_isFigure_29 (by decide) ?_
    refine vz_si (zb (zFg pg ln j lo hi)) (by first | (rw [zFg, decide_eq_true hlt_5, b_22]; rfl) | (rw [zFg, b_22, Bool.and_false]; rfl) | (rw [zFg, decide_eq_false (show ¬ j < ln by omega), Bool.false_and]; rfl)) ?_
    exact W.zret hx hb hr (zb_nar _) (fun t ht hW => ⟨rfl, ht⟩) (fun q h => by cases h) dX9_isFigure_30
  · have hlt_5 : j < ln := Nat.lt_of_not_le fun q => c_5 ((nI_zle (a := ln) (b := j) (by omega) (by omega)).mpr q)
    refine lv_aload_n hx hb dX9_isFigure_8 rfl (lv_at hl 0 rfl) ?_
    refine va_get (D := D) (cl := vwCl) (tys := zT cI cB cF) (ci := 9) (v := .ref (M 16)) (C := RX9) (T := TX9) (N := 41) hx hb hts iw_X9_isFigure_X9 hown hK.1 hQ 0 rfl rfl 16 (by decide) (hts _ hw_X9_isFigure_2) (fun _ h9 => h9) rfl dX9_isFigure_9 ?_
    refine lv_iload_n hx hb dX9_isFigure_12 rfl (lv_at hl 1 rfl) ?_
    refine va_bald (D := D) (cl := vwCl) (tys := zT cI cB cF) (f := pg) hx hb hK.1 hQ 1 1 rfl rfl (vp_in_nI (by omega) (by omega)) dX9_isFigure_13 ?_
    refine vz_si (pg j) (by rw [nI_clamp (n := j) (by omega)]) ?_
    refine lv_bipush (v := 48) hx hb dX9_isFigure_14 (by decide) ?_
    refine lv_isub hx hb dX9_isFigure_16 ?_
    refine lv_iload_n hx hb dX9_isFigure_17 rfl (lv_at hl 2 rfl) ?_
    refine lv_iload_n hx hb dX9_isFigure_18 rfl (lv_at hl 3 rfl) ?_
    refine vz_rd (va_runS (As := [.int ((pg j) - 48), .int lo, .int hi]) (rest := []) FX (c_X9_within l D cI cB cF ((pg j) - 48) lo hi ) (va_cwS 3 hts gX9_isFigure_X9_within rfl rfl rfl hd_X9_within ⟨Nat.le_of_ble_eq_true rfl, Nat.le_of_ble_eq_true rfl⟩) (preP_S (hQ.sub (ws' := []) [] rfl) hK) rfl rfl hl.1 rfl (lv_room (Nat.le_of_ble_eq_true rfl)) dX9_isFigure_19 ⟨Nat.le_of_ble_eq_true rfl, Nat.le_of_ble_eq_true rfl⟩) ?_
    refine lv_if_eq (tgt := 29) hx hb dX9_isFigure_22 (by decide) (fun c_22 => ?_) (fun c_22 => ?_)
    · have b_22 : (zIn ((pg j) - 48) lo hi) = false := zb_f c_22
      refine lv_iconst (v := 0) hx hb dX9_isFigure_29 (by decide) ?_
      refine vz_si (zb (zFg pg ln j lo hi)) (by first | (rw [zFg, decide_eq_true hlt_5, b_22]; rfl) | (rw [zFg, b_22, Bool.and_false]; rfl) | (rw [zFg, decide_eq_false (show ¬ j < ln by omega), Bool.false_and]; rfl)) ?_
      exact W.zret hx hb hr (zb_nar _) (fun t ht hW => ⟨rfl, ht⟩) (fun q h => by cases h) dX9_isFigure_30
    · have b_22 : (zIn ((pg j) - 48) lo hi) = true := zb_t c_22
      refine lv_iconst (v := 1) hx hb dX9_isFigure_25 (by decide) ?_
      refine lv_goto (tgt := 30) hx hb dX9_isFigure_26 (by decide) ?_
      refine vz_si (zb (zFg pg ln j lo hi)) (by first | (rw [zFg, decide_eq_true hlt_5, b_22]; rfl) | (rw [zFg, b_22, Bool.and_false]; rfl) | (rw [zFg, decide_eq_false (show ¬ j < ln by omega), Bool.false_and]; rfl)) ?_
      exact W.zret hx hb hr (zb_nar _) (fun t ht hW => ⟨rfl, ht⟩) (fun q h => by cases h) dX9_isFigure_30
set_option maxRecDepth 100000 in
theorem iw_X9_readOne_X9 : ∀ w ∈ u_ws RX9 TX9 41, w ∈ wsX9_readOne := fun w h => List.mem_cons_of_mem _ (List.mem_append_right _ h)
set_option maxRecDepth 100000 in
theorem hw_X9_readOne_1 : (.fieldLink RX9 75 "RotaFathersModel" "pageLength" "I" : Cond) ∈ wsX9_readOne := List.mem_of_getElem? (i := 1) rfl
set_option maxRecDepth 100000 in
theorem hw_X9_readOne_2 : (.fieldLink RX9 34 "RotaFathersModel" "page" "[B" : Cond) ∈ wsX9_readOne := List.mem_of_getElem? (i := 2) rfl
set_option maxRecDepth 100000 in
theorem hd_X9_readOne : yX9_readOne.cls ≠ "java/lang/invoke/MethodHandle" ∧ yX9_readOne.cls ≠ "java/lang/invoke/VarHandle" ∧ (parseMethodDescriptor yX9_readOne.desc).map (fun d => d.parameters.length) = some 1 := by decide +kernel
set_option maxHeartbeats 4000000 in
set_option maxRecDepth 100000 in
theorem c_X9_readOne (l : Launch) (D : va_G) (cI cB cF : ClassId) (M : Nat → Nat) (ca : Int32) (nn : Int32) (ft : Int32) (kn : Int32) (dy : Int32) (fd : Int32) (ak : Int32) (iw : Int32) (nm : Int32) (fi : Int32) (nf : Int32) (nk : Int32) (sd : Int64) (ik : Int32) (kc : Int32) (kf : Int32) (kk : Int32) (kd : Int32) (ko : Int32) (hh : Int64) (ln : Nat) (pg : Nat → Int32) (a : Nat) (hln : ln ≤ 18) (hal : a ≤ ln) : Met l yX9_readOne wsX9_readOne ({ frames := 2, cells := 0, slots := 0, locals := 45 } : Room) (PcP D cI cB cF [.ref (M 0), .int (nI a)] [(M 0, mO M ca nn ft kn dy fd ak (nI ln) iw nm fi nf nk sd ik kc kf kk kd ko hh), (M 16, .inl (cB, 18, .inl pg))]) (QcV (.int (nI (zOn pg ln a)))) 0 0 (fun _ => False) := by
  refine Met.ofW (cc := cX9_readOne) (maxL := 2) (ret := (some .int)) (by decide) rfl ?_
  intro p e s m args below meth c s₁ Bd hml hv
  rw [show (headSpec wsX9_readOne ({ frames := 2, cells := 0, slots := 0, locals := 45 } : Room)).room = ({ frames := 2, cells := 0, slots := 0, locals := 45 } : Room) from rfl]
  obtain ⟨rfl, hQ, hK⟩ := hv
  have hx := Bd.exec
  have hb := Bd.bytes
  have hr := Bd.returns
  have hts := atoms_spec (ws := wsX9_readOne) Bd.pre
  have hown : s.vm.findClass RX9 = some m.cls := findClass_of_methodNamed Bd.named
  have hlocks := Bd.notSynchronized
  have FX : CallFix p m c cX9_readOne 2 s _ wsX9_readOne RX9 := ⟨hx, hb, hml, hown, hts⟩
  have hQ : va_P D vwCl [(M 0, mO M ca nn ft kn dy fd ak (nI ln) iw nm fi nf nk sd ik kc kf kk kd ko hh), (M 16, .inl (cB, 18, .inl pg))] s.heap := hQ
  have hl := lv_entry ([.ref (M 0), .int (nI a)]) (n := 2) (Nat.le_of_ble_eq_true rfl)
  rw [lg_entry_eq]
  generalize (lg_sl ([.ref (M 0), .int (nI a)]) ++ List.replicate (2 - (lg_sl ([.ref (M 0), .int (nI a)])).length) Slot.unset).toArray = ls at hl ⊢
  have hl : lv_has ls 2 [(0, .ref (M 0)), (1, .int (nI a))] := hl
  refine lv_iload_n hx hb dX9_readOne_0 rfl (lv_at hl 1 rfl) ?_
  refine lv_aload_n hx hb dX9_readOne_1 rfl (lv_at hl 0 rfl) ?_
  refine va_get (D := D) (cl := vwCl) (tys := zT cI cB cF) (ci := 9) (v := .int (nI ln)) (C := RX9) (T := TX9) (N := 41) hx hb hts iw_X9_readOne_X9 hown hK.1 hQ 0 rfl rfl 15 (by decide) (hts _ hw_X9_readOne_1) (fun _ h9 => h9) rfl dX9_readOne_2 ?_
  refine lv_icmp_eq (tgt := 21) hx hb dX9_readOne_5 (by decide) (fun c_5 => ?_) (fun c_5 => ?_)
  · have hae : a = ln := (nI_eq (by omega) (by omega)).mp c_5
    refine lv_iload_n hx hb dX9_readOne_21 rfl (lv_at hl 1 rfl) ?_
    refine vz_si (nI (zOn pg ln a)) (by rw [zOn]; first | rw [if_pos hae] | rw [if_neg hae, if_pos c_18]) ?_
    exact W.iret hx hb hr (fun t ht hW => ⟨rfl, ht⟩) (fun q h => by cases h) dX9_readOne_22
  · have hae : ¬ a = ln := fun q => c_5 (by rw [q])
    have hlt : a < ln := by omega
    refine lv_aload_n hx hb dX9_readOne_8 rfl (lv_at hl 0 rfl) ?_
    refine va_get (D := D) (cl := vwCl) (tys := zT cI cB cF) (ci := 9) (v := .ref (M 16)) (C := RX9) (T := TX9) (N := 41) hx hb hts iw_X9_readOne_X9 hown hK.1 hQ 0 rfl rfl 16 (by decide) (hts _ hw_X9_readOne_2) (fun _ h9 => h9) rfl dX9_readOne_9 ?_
    refine lv_iload_n hx hb dX9_readOne_12 rfl (lv_at hl 1 rfl) ?_
    refine va_bald (D := D) (cl := vwCl) (tys := zT cI cB cF) (f := pg) hx hb hK.1 hQ 1 1 rfl rfl (vp_in_nI (by omega) (by omega)) dX9_readOne_13 ?_
    refine vz_si (pg a) (by rw [nI_clamp (n := a) (by omega)]) ?_
    refine vz_rd (va_runS (As := [.int (pg a)]) (rest := []) FX (c_X9_kindBy l D cI cB cF (pg a) ) (va_cwS 1 hts gX9_readOne_X9_kindBy rfl rfl rfl hd_X9_kindBy ⟨Nat.le_of_ble_eq_true rfl, Nat.le_of_ble_eq_true rfl⟩) (preP_S (hQ.sub (ws' := []) [] rfl) hK) rfl rfl hl.1 rfl (lv_room (Nat.le_of_ble_eq_true rfl)) dX9_readOne_14 ⟨Nat.le_of_ble_eq_true rfl, Nat.le_of_ble_eq_true rfl⟩) ?_
    refine lv_iconst (v := (-1)) hx hb dX9_readOne_17 (by decide) ?_
    refine lv_icmp_ne (tgt := 23) hx hb dX9_readOne_18 (by decide) (fun c_18 => ?_) (fun c_18 => ?_)
    · refine lv_aload_n hx hb dX9_readOne_23 rfl (lv_at hl 0 rfl) ?_
      refine lv_iload_n hx hb dX9_readOne_24 rfl (lv_at hl 1 rfl) ?_
      refine lv_iconst (v := 1) hx hb dX9_readOne_25 (by decide) ?_
      refine lv_iadd hx hb dX9_readOne_26 ?_
      refine vz_si (nI (a + 1)) (nI_1 a) ?_
      refine lv_iconst (v := 0) hx hb dX9_readOne_27 (by decide) ?_
      refine lv_iconst (v := 5) hx hb dX9_readOne_28 (by decide) ?_
      refine vz_rd (va_runV (As := [.int (nI (a + 1)), .int 0, .int 5]) (rest := []) FX (c_X9_isFigure l D cI cB cF M ca nn ft kn dy fd ak iw nm fi nf nk sd ik kc kf kk kd ko hh ln pg (a + 1) 0 5 (by first | assumption | omega | decide) (by first | assumption | omega | decide)) (cwV 3 hts gX9_readOne_X9_isFigure rfl rfl rfl ⟨rfl, hd_X9_isFigure⟩ ⟨Nat.le_of_ble_eq_true rfl, Nat.le_of_ble_eq_true rfl⟩) (preP_V hQ 0 rfl rfl (hQ.sub (ws' := [(M 0, mO M ca nn ft kn dy fd ak (nI ln) iw nm fi nf nk sd ik kc kf kk kd ko hh), (M 16, .inl (cB, 18, .inl pg))]) [0, 1] rfl) hK) rfl rfl hl.1 rfl (lv_room (Nat.le_of_ble_eq_true rfl)) dX9_readOne_29 ⟨Nat.le_of_ble_eq_true rfl, Nat.le_of_ble_eq_true rfl⟩) ?_
      refine lv_if_ne (tgt := 41) hx hb dX9_readOne_32 (by decide) (fun c_32 => ?_) (fun c_32 => ?_)
      · have b_32 : (zFg pg ln (a + 1) 0 5) = true := zb_t c_32
        refine lv_aload_n hx hb dX9_readOne_41 rfl (lv_at hl 0 rfl) ?_
        refine lv_iload_n hx hb dX9_readOne_42 rfl (lv_at hl 1 rfl) ?_
        refine lv_iconst (v := 2) hx hb dX9_readOne_43 (by decide) ?_
        refine lv_iadd hx hb dX9_readOne_44 ?_
        refine vz_si (nI (a + 2)) (nI_add a 2) ?_
        refine lv_iconst (v := 1) hx hb dX9_readOne_45 (by decide) ?_
        refine lv_bipush (v := 9) hx hb dX9_readOne_46 (by decide) ?_
        refine vz_rd (va_runV (As := [.int (nI (a + 2)), .int 1, .int 9]) (rest := []) FX (c_X9_isFigure l D cI cB cF M ca nn ft kn dy fd ak iw nm fi nf nk sd ik kc kf kk kd ko hh ln pg (a + 2) 1 9 (by first | assumption | omega | decide) (by first | assumption | omega | decide)) (cwV 3 hts gX9_readOne_X9_isFigure rfl rfl rfl ⟨rfl, hd_X9_isFigure⟩ ⟨Nat.le_of_ble_eq_true rfl, Nat.le_of_ble_eq_true rfl⟩) (preP_V hQ 0 rfl rfl (hQ.sub (ws' := [(M 0, mO M ca nn ft kn dy fd ak (nI ln) iw nm fi nf nk sd ik kc kf kk kd ko hh), (M 16, .inl (cB, 18, .inl pg))]) [0, 1] rfl) hK) rfl rfl hl.1 rfl (lv_room (Nat.le_of_ble_eq_true rfl)) dX9_readOne_48 ⟨Nat.le_of_ble_eq_true rfl, Nat.le_of_ble_eq_true rfl⟩) ?_
        refine lv_if_ne (tgt := 60) hx hb dX9_readOne_51 (by decide) (fun c_51 => ?_) (fun c_51 => ?_)
        · have b_51 : (zFg pg ln (a + 2) 1 9) = true := zb_t c_51
          refine lv_iload_n hx hb dX9_readOne_60 rfl (lv_at hl 1 rfl) ?_
          refine lv_iconst (v := 3) hx hb dX9_readOne_61 (by decide) ?_
          refine lv_iadd hx hb dX9_readOne_62 ?_
          refine vz_si (nI (a + 3)) (nI_add a 3) ?_
          refine vz_si (nI (zOn pg ln a)) (by rw [zOn, if_neg hae, if_neg c_18]; first | rw [if_neg (by rw [b_32]; decide)] | rw [if_pos b_32, if_neg (by rw [b_51]; decide)] | rw [if_pos b_32, if_pos b_51]) ?_
          exact W.iret hx hb hr (fun t ht hW => ⟨rfl, ht⟩) (fun q h => by cases h) dX9_readOne_63
        · have b_51 : (zFg pg ln (a + 2) 1 9) = false := zb_f c_51
          refine lv_iload_n hx hb dX9_readOne_54 rfl (lv_at hl 1 rfl) ?_
          refine lv_iconst (v := 2) hx hb dX9_readOne_55 (by decide) ?_
          refine lv_iadd hx hb dX9_readOne_56 ?_
          refine vz_si (nI (a + 2)) (nI_add a 2) ?_
          refine lv_goto (tgt := 63) hx hb dX9_readOne_57 (by decide) ?_
          refine vz_si (nI (zOn pg ln a)) (by rw [zOn, if_neg hae, if_neg c_18]; first | rw [if_neg (by rw [b_32]; decide)] | rw [if_pos b_32, if_neg (by rw [b_51]; decide)] | rw [if_pos b_32, if_pos b_51]) ?_
          exact W.iret hx hb hr (fun t ht hW => ⟨rfl, ht⟩) (fun q h => by cases h) dX9_readOne_63
      · have b_32 : (zFg pg ln (a + 1) 0 5) = false := zb_f c_32
        refine lv_iload_n hx hb dX9_readOne_35 rfl (lv_at hl 1 rfl) ?_
        refine lv_iconst (v := 1) hx hb dX9_readOne_36 (by decide) ?_
        refine lv_iadd hx hb dX9_readOne_37 ?_
        refine vz_si (nI (a + 1)) (nI_1 a) ?_
        refine lv_goto (tgt := 63) hx hb dX9_readOne_38 (by decide) ?_
        refine vz_si (nI (zOn pg ln a)) (by rw [zOn, if_neg hae, if_neg c_18]; first | rw [if_neg (by rw [b_32]; decide)] | rw [if_pos b_32, if_neg (by rw [b_51]; decide)] | rw [if_pos b_32, if_pos b_51]) ?_
        exact W.iret hx hb hr (fun t ht hW => ⟨rfl, ht⟩) (fun q h => by cases h) dX9_readOne_63
    · refine lv_iload_n hx hb dX9_readOne_21 rfl (lv_at hl 1 rfl) ?_
      refine vz_si (nI (zOn pg ln a)) (by rw [zOn]; first | rw [if_pos hae] | rw [if_neg hae, if_pos c_18]) ?_
      exact W.iret hx hb hr (fun t ht hW => ⟨rfl, ht⟩) (fun q h => by cases h) dX9_readOne_22
set_option maxRecDepth 100000 in
theorem iw_X9_read_X9 : ∀ w ∈ u_ws RX9 TX9 41, w ∈ wsX9_read := fun w h => List.mem_cons_of_mem _ (List.mem_append_right _ h)
set_option maxRecDepth 100000 in
theorem hw_X9_read_1 : (.fieldLink RX9 86 "RotaFathersModel" "isWhole" "Z" : Cond) ∈ wsX9_read := List.mem_of_getElem? (i := 1) rfl
set_option maxRecDepth 100000 in
theorem hw_X9_read_2 : (.fieldLink RX9 90 "RotaFathersModel" "newMany" "I" : Cond) ∈ wsX9_read := List.mem_of_getElem? (i := 2) rfl
set_option maxRecDepth 100000 in
theorem hw_X9_read_3 : (.fieldLink RX9 75 "RotaFathersModel" "pageLength" "I" : Cond) ∈ wsX9_read := List.mem_of_getElem? (i := 3) rfl
set_option maxRecDepth 100000 in
theorem hw_X9_read_4 : (.fieldLink RX9 34 "RotaFathersModel" "page" "[B" : Cond) ∈ wsX9_read := List.mem_of_getElem? (i := 4) rfl
set_option maxRecDepth 100000 in
theorem hd_X9_read : yX9_read.cls ≠ "java/lang/invoke/MethodHandle" ∧ yX9_read.cls ≠ "java/lang/invoke/VarHandle" ∧ (parseMethodDescriptor yX9_read.desc).map (fun d => d.parameters.length) = some 0 := by decide +kernel
set_option maxHeartbeats 4000000 in
set_option maxRecDepth 100000 in
theorem c_X9_read (l : Launch) (D : va_G) (cI cB cF : ClassId) (sz : Nat) (M : Nat → Nat) (ca : Int32) (nn : Int32) (ft : Int32) (kn : Int32) (dy : Int32) (fd : Int32) (ak : Int32) (iw : Int32) (nm : Int32) (fi : Int32) (nf : Int32) (nk : Int32) (sd : Int64) (ik : Int32) (kc : Int32) (kf : Int32) (kk : Int32) (kd : Int32) (ko : Int32) (hh : Int64) (ln : Nat) (pg : Nat → Int32) (hln : ln ≤ 18) : Met l yX9_read wsX9_read ({ frames := 3, cells := 0, slots := 0, locals := 66 } : Room) (PcW D cI cB cF [.ref (M 0)] sz [(M 0, mO M ca nn ft kn dy fd ak (nI ln) iw nm fi nf nk sd ik kc kf kk kd ko hh)] [(M 16, .inl (cB, 18, .inl pg))]) (Qw D (S := Int32) (fun xx => some (.int (nI (zRl pg (zCg pg ln) ln)))) (fun xx => zWhole pg ln = true → xx = nI ((zCg pg ln + 1) / 4)) (fun xx => [(M 0, mO M ca nn ft kn dy fd ak (nI ln) (zb (zWhole pg ln)) xx fi nf nk sd ik kc kf kk kd ko hh)]) (va_A [(M 0, mO M ca nn ft kn dy fd ak (nI ln) iw nm fi nf nk sd ik kc kf kk kd ko hh)] sz)) 0 0 (va_A [(M 0, mO M ca nn ft kn dy fd ak (nI ln) iw nm fi nf nk sd ik kc kf kk kd ko hh)] sz) := by
  refine Met.ofW (cc := cX9_read) (maxL := 3) (ret := (some .int)) (by decide) rfl ?_
  intro p e s m args below meth c s₁ Bd hml hv
  rw [show (headSpec wsX9_read ({ frames := 3, cells := 0, slots := 0, locals := 66 } : Room)).room = ({ frames := 3, cells := 0, slots := 0, locals := 66 } : Room) from rfl]
  obtain ⟨rfl, hsz, hP, hK, hD0, hR⟩ := hv
  have hx := Bd.exec
  have hb := Bd.bytes
  have hr := Bd.returns
  have hts := atoms_spec (ws := wsX9_read) Bd.pre
  have hown : s.vm.findClass RX9 = some m.cls := findClass_of_methodNamed Bd.named
  have hlocks := Bd.notSynchronized
  have FX : CallFix p m c cX9_read 3 s _ wsX9_read RX9 := ⟨hx, hb, hml, hown, hts⟩
  subst hsz
  have hD := hD0.self (sz := s.heap.size)
  generalize hAe : va_A [(M 0, mO M ca nn ft kn dy fd ak (nI ln) iw nm fi nf nk sd ik kc kf kk kd ko hh)] s.heap.size = A at hD hR ⊢
  have hA : ∀ q : Nat, s.heap.size ≤ q → A q := fun q h => by rw [← hAe]; exact Or.inr h
  have hS : va_S A s.heap s.heap [] := va_S.rf
  have hP : va_P D vwCl [(M 0, mO M ca nn ft kn dy fd ak (nI ln) iw nm fi nf nk sd ik kc kf kk kd ko hh)] s.heap := hP
  have hQ : va_P D vwCl ([(M 0, mO M ca nn ft kn dy fd ak (nI ln) iw nm fi nf nk sd ik kc kf kk kd ko hh)] ++ [(M 16, .inl (cB, 18, .inl pg))]) s.heap := va_P.app hP (hR.at hS).P
  have hl := lv_entry ([.ref (M 0)]) (n := 3) (Nat.le_of_ble_eq_true rfl)
  rw [lg_entry_eq]
  generalize (lg_sl ([.ref (M 0)]) ++ List.replicate (3 - (lg_sl ([.ref (M 0)])).length) Slot.unset).toArray = ls at hl ⊢
  have hl : lv_has ls 3 [(0, .ref (M 0))] := hl
  refine lv_aload_n hx hb dX9_read_0 rfl (lv_at hl 0 rfl) ?_
  refine lv_iconst (v := 0) hx hb dX9_read_1 (by decide) ?_
  refine va_put (D := D) (cl := vwCl) (tys := zT cI cB cF) (ci := 9) (v := .int 0) (ty := .boolean) (C := RX9) (T := TX9) (N := 41) hx hb hts iw_X9_read_X9 tyX9 tyX9_ok nmX9 hown hK.1 hP hD hS 0 rfl rfl 17 (by decide) (hts _ hw_X9_read_1) (fun _ h9 => h9) rfl (tyX9_ok 17 (by decide)) (rfl) (rfl) (Nat.le_of_ble_eq_true rfl) dX9_read_2 (fun H locs hP hD hS => ?_)
  have hP : va_P D vwCl [(M 0, mO M ca nn ft kn dy fd ak (nI ln) 0 nm fi nf nk sd ik kc kf kk kd ko hh)] H := hP
  have hD : va_D A [(M 0, mO M ca nn ft kn dy fd ak (nI ln) 0 nm fi nf nk sd ik kc kf kk kd ko hh)] := hD
  have hQ : va_P D vwCl ([(M 0, mO M ca nn ft kn dy fd ak (nI ln) 0 nm fi nf nk sd ik kc kf kk kd ko hh)] ++ [(M 16, .inl (cB, 18, .inl pg))]) H := va_P.app hP (hR.at hS).P
  refine lv_aload_n hx hb dX9_read_5 rfl (lv_at hl 0 rfl) ?_
  refine lv_iconst (v := 0) hx hb dX9_read_6 (by decide) ?_
  refine va_put (D := D) (cl := vwCl) (tys := zT cI cB cF) (ci := 9) (v := .int 0) (ty := .int) (C := RX9) (T := TX9) (N := 41) hx hb hts iw_X9_read_X9 tyX9 tyX9_ok nmX9 hown hK.1 hP hD hS 0 rfl rfl 18 (by decide) (hts _ hw_X9_read_2) (fun _ h9 => h9) rfl (tyX9_ok 18 (by decide)) (rfl) (rfl) (Nat.le_of_ble_eq_true rfl) dX9_read_7 (fun H locs hP hD hS => ?_)
  have hP : va_P D vwCl [(M 0, mO M ca nn ft kn dy fd ak (nI ln) 0 0 fi nf nk sd ik kc kf kk kd ko hh)] H := hP
  have hD : va_D A [(M 0, mO M ca nn ft kn dy fd ak (nI ln) 0 0 fi nf nk sd ik kc kf kk kd ko hh)] := hD
  have hQ : va_P D vwCl ([(M 0, mO M ca nn ft kn dy fd ak (nI ln) 0 0 fi nf nk sd ik kc kf kk kd ko hh)] ++ [(M 16, .inl (cB, 18, .inl pg))]) H := va_P.app hP (hR.at hS).P
  refine lv_iconst (v := 0) hx hb dX9_read_10 (by decide) ?_
  refine lv_istore_n (lv' := [(1, .int 0), (0, .ref (M 0))]) hx hb dX9_read_11 rfl hl (by decide) rfl (fun ls hl => ?_)
  refine vz_loop (D := D) (A := A) (H0 := s.heap) (nL := 3) (σ := Nat) (fun xx => 4 - xx) (fun xx => (xx ≤ 3) ∧ (zHp pg ln (4 * xx))) (fun xx => [(M 0, mO M ca nn ft kn dy fd ak (nI ln) 0 (nI xx) fi nf nk sd ik kc kf kk kd ko hh)]) (fun xx => [(0, .ref (M 0)), (1, .int (nI (4 * xx)))]) (fun xx => []) ?_ 0 ⟨Nat.zero_le _, ⟨Nat.zero_le _, fun j h => absurd h (Nat.not_lt_zero _)⟩⟩ (hP.sub [0] rfl) (hD.sub [0] (by decide) rfl) hS (lv_sub hl [1, 0] rfl)
  rintro mm hI ih_12 H locs ls hP hD hS hl
  obtain ⟨hm3, hp0⟩ := hI
  have hm3 : mm ≤ 3 := hm3
  have hp0 : zHp pg ln (4 * mm) := hp0
  have hP : va_P D vwCl [(M 0, mO M ca nn ft kn dy fd ak (nI ln) 0 (nI mm) fi nf nk sd ik kc kf kk kd ko hh)] H := hP
  have hD : va_D A [(M 0, mO M ca nn ft kn dy fd ak (nI ln) 0 (nI mm) fi nf nk sd ik kc kf kk kd ko hh)] := hD
  have hQ : va_P D vwCl ([(M 0, mO M ca nn ft kn dy fd ak (nI ln) 0 (nI mm) fi nf nk sd ik kc kf kk kd ko hh)] ++ [(M 16, .inl (cB, 18, .inl pg))]) H := va_P.app hP (hR.at hS).P
  have hl : lv_has ls 3 [(0, .ref (M 0)), (1, .int (nI (4 * mm)))] := hl
  show W _ _ _ _ _ _ _ _ _ _ _ _ _ _ _ (F0 m 12 ls [])
  refine lv_aload_n hx hb dX9_read_12 rfl (lv_at hl 0 rfl) ?_
  refine va_get (D := D) (cl := vwCl) (tys := zT cI cB cF) (ci := 9) (v := .int (nI mm)) (C := RX9) (T := TX9) (N := 41) hx hb hts iw_X9_read_X9 hown hK.1 hQ 0 rfl rfl 18 (by decide) (hts _ hw_X9_read_2) (fun _ h9 => h9) rfl dX9_read_13 ?_
  refine lv_iconst (v := 4) hx hb dX9_read_16 (by decide) ?_
  refine lv_icmp_ge (tgt := 164) hx hb dX9_read_17 (by decide) (fun c_17 => False.elim (by have := (nI_zle (a := 4) (b := mm) (by decide) (by omega)).mp c_17; omega)) (fun c_17 => ?_)
  refine lv_aload_n hx hb dX9_read_20 rfl (lv_at hl 0 rfl) ?_
  refine lv_iload_n hx hb dX9_read_21 rfl (lv_at hl 1 rfl) ?_
  refine vz_rd (va_runV (As := [.int (nI (4 * mm))]) (rest := []) FX (c_X9_readOne l D cI cB cF M ca nn ft kn dy fd ak 0 (nI mm) fi nf nk sd ik kc kf kk kd ko hh ln pg (4 * mm) (by first | assumption | omega | decide) hp0.1) (cwV 1 hts gX9_read_X9_readOne rfl rfl rfl ⟨rfl, hd_X9_readOne⟩ ⟨Nat.le_of_ble_eq_true rfl, Nat.le_of_ble_eq_true rfl⟩) (preP_V hQ 0 rfl rfl (hQ.sub (ws' := [(M 0, mO M ca nn ft kn dy fd ak (nI ln) 0 (nI mm) fi nf nk sd ik kc kf kk kd ko hh), (M 16, .inl (cB, 18, .inl pg))]) [0, 1] rfl) hK) rfl rfl hl.1 rfl (lv_room (Nat.le_of_ble_eq_true rfl)) dX9_read_22 ⟨Nat.le_of_ble_eq_true rfl, Nat.le_of_ble_eq_true rfl⟩) ?_
  have hol := zOn_le (pg := pg) (ln := ln) (a := 4 * mm)
  have hoc := zOn_c (a := 4 * mm) (by omega) hp0
  refine lv_istore_n (lv' := [(2, .int (nI (zOn pg ln (4 * mm)))), (0, .ref (M 0)), (1, .int (nI (4 * mm)))]) hx hb dX9_read_25 rfl hl (by decide) rfl (fun ls hl => ?_)
  refine lv_iload_n hx hb dX9_read_26 rfl (lv_at hl 0 rfl) ?_
  refine lv_iload_n hx hb dX9_read_27 rfl (lv_at hl 2 rfl) ?_
  refine lv_iconst (v := 3) hx hb dX9_read_28 (by decide) ?_
  refine lv_iadd hx hb dX9_read_29 ?_
  refine vz_si (nI (4 * mm + 3)) (nI_add (4 * mm) 3) ?_
  refine lv_icmp_eq (tgt := 35) hx hb dX9_read_30 (by decide) (fun c_30 => ?_) (fun c_30 => ?_)
  · have ho3 : zOn pg ln (4 * mm) = 4 * mm + 3 := (nI_eq (by omega) (by omega)).mp c_30
    have hp3 : zHp pg ln (4 * mm + 3) := (hoc.resolve_right (fun q => q.1 ho3)).2
    have hl : lv_has ls 3 [(2, .int (nI (zOn pg ln (4 * mm)))), (0, .ref (M 0)), (1, .int (nI (4 * mm)))] := by have hz := hl; rw [show (nI (4 * mm)) = (nI (4 * mm)) from rfl] at hz; exact hz
    refine lv_aload_n hx hb dX9_read_35 rfl (lv_at hl 1 rfl) ?_
    refine lv_dup hx hb dX9_read_36 rfl ?_
    refine va_get (D := D) (cl := vwCl) (tys := zT cI cB cF) (ci := 9) (v := .int (nI mm)) (C := RX9) (T := TX9) (N := 41) hx hb hts iw_X9_read_X9 hown hK.1 hQ 0 rfl rfl 18 (by decide) (hts _ hw_X9_read_2) (fun _ h9 => h9) rfl dX9_read_37 ?_
    refine lv_iconst (v := 1) hx hb dX9_read_40 (by decide) ?_
    refine lv_iadd hx hb dX9_read_41 ?_
    refine vz_si (nI (mm + 1)) (nI_1 mm) ?_
    refine va_put (D := D) (cl := vwCl) (tys := zT cI cB cF) (ci := 9) (v := .int (nI (mm + 1))) (ty := .int) (C := RX9) (T := TX9) (N := 41) hx hb hts iw_X9_read_X9 tyX9 tyX9_ok nmX9 hown hK.1 hP hD hS 0 rfl rfl 18 (by decide) (hts _ hw_X9_read_2) (fun _ h9 => h9) rfl (tyX9_ok 18 (by decide)) (rfl) (rfl) (Nat.le_of_ble_eq_true rfl) dX9_read_42 (fun H locs hP hD hS => ?_)
    have hP : va_P D vwCl [(M 0, mO M ca nn ft kn dy fd ak (nI ln) 0 (nI (mm + 1)) fi nf nk sd ik kc kf kk kd ko hh)] H := hP
    have hD : va_D A [(M 0, mO M ca nn ft kn dy fd ak (nI ln) 0 (nI (mm + 1)) fi nf nk sd ik kc kf kk kd ko hh)] := hD
    have hQ : va_P D vwCl ([(M 0, mO M ca nn ft kn dy fd ak (nI ln) 0 (nI (mm + 1)) fi nf nk sd ik kc kf kk kd ko hh)] ++ [(M 16, .inl (cB, 18, .inl pg))]) H := va_P.app hP (hR.at hS).P
    refine lv_iload_n hx hb dX9_read_45 rfl (lv_at hl 0 rfl) ?_
    refine lv_istore_n (lv' := [(1, .int (nI (zOn pg ln (4 * mm)))), (2, .int (nI (zOn pg ln (4 * mm)))), (0, .ref (M 0))]) hx hb dX9_read_46 rfl hl (by decide) rfl (fun ls hl => ?_)
    have hl : lv_has ls 3 [(1, .int (nI (4 * mm + 3))), (2, .int (nI (4 * mm + 3))), (0, .ref (M 0))] := by have hz := hl; rw [show (nI (zOn pg ln (4 * mm))) = (nI (4 * mm + 3)) from c_30] at hz; exact hz
    refine lv_iload_n hx hb dX9_read_47 rfl (lv_at hl 0 rfl) ?_
    refine lv_aload_n hx hb dX9_read_48 rfl (lv_at hl 2 rfl) ?_
    refine va_get (D := D) (cl := vwCl) (tys := zT cI cB cF) (ci := 9) (v := .int (nI ln)) (C := RX9) (T := TX9) (N := 41) hx hb hts iw_X9_read_X9 hown hK.1 hQ 0 rfl rfl 15 (by decide) (hts _ hw_X9_read_3) (fun _ h9 => h9) rfl dX9_read_49 ?_
    refine lv_icmp_ge (tgt := 129) hx hb dX9_read_52 (by decide) (fun c_52 => ?_) (fun c_52 => ?_)
    · have hnlt : ¬ 4 * mm + 3 < ln := fun q => by have := (nI_zle (a := ln) (b := 4 * mm + 3) (by omega) (by omega)).mp c_52; omega
      refine lv_iload_n hx hb dX9_read_129 rfl (lv_at hl 0 rfl) ?_
      refine lv_aload_n hx hb dX9_read_130 rfl (lv_at hl 2 rfl) ?_
      refine va_get (D := D) (cl := vwCl) (tys := zT cI cB cF) (ci := 9) (v := .int (nI ln)) (C := RX9) (T := TX9) (N := 41) hx hb hts iw_X9_read_X9 hown hK.1 hQ 0 rfl rfl 15 (by decide) (hts _ hw_X9_read_3) (fun _ h9 => h9) rfl dX9_read_131 ?_
      refine lv_icmp_eq (tgt := 156) hx hb dX9_read_134 (by decide) (fun c_134 => ?_) (fun c_134 => False.elim (by exact hnlt (Nat.lt_of_le_of_ne hp3.1 (fun q => c_134 (by rw [q])))))
      have hpe : 4 * mm + 3 = ln := (nI_eq (by omega) (by omega)).mp c_134
      have hE := zE_stop hln hp3 (Or.inl hpe)
      refine lv_iload_n hx hb dX9_read_156 rfl (lv_at hl 0 rfl) ?_
      have hP : va_P D vwCl [(M 0, mO M ca nn ft kn dy fd ak (nI ln) (zb (zWhole pg ln)) (nI (mm + 1)) fi nf nk sd ik kc kf kk kd ko hh)] H := by rw [← (show 0 = zb (zWhole pg ln) from by rw [hE.2]; rfl)]; exact hP
      have hD : va_D A [(M 0, mO M ca nn ft kn dy fd ak (nI ln) (zb (zWhole pg ln)) (nI (mm + 1)) fi nf nk sd ik kc kf kk kd ko hh)] := by rw [← (show 0 = zb (zWhole pg ln) from by rw [hE.2]; rfl)]; exact hD
      have hQ : va_P D vwCl ([(M 0, mO M ca nn ft kn dy fd ak (nI ln) (zb (zWhole pg ln)) (nI (mm + 1)) fi nf nk sd ik kc kf kk kd ko hh)] ++ [(M 16, .inl (cB, 18, .inl pg))]) H := va_P.app hP (hR.at hS).P
      refine vz_si (nI (zRl pg (zCg pg ln) ln)) (by rw [hE.1]) ?_
      have hP9 := hP.sub (ws' := [(M 0, mO M ca nn ft kn dy fd ak (nI ln) (zb (zWhole pg ln)) (nI (mm + 1)) fi nf nk sd ik kc kf kk kd ko hh)]) [0] rfl
      have hD9 := hD.sub (ws' := [(M 0, mO M ca nn ft kn dy fd ak (nI ln) (zb (zWhole pg ln)) (nI (mm + 1)) fi nf nk sd ik kc kf kk kd ko hh)]) [0] (by decide) rfl
      exact W.iret hx hb hr (fun t ht hW => ⟨⟨nI (mm + 1), rfl, fun h => by rw [hE.2] at h; exact absurd h (by decide), by rw [ht]; exact hP9, hD9⟩, hS.F ht⟩) hS.2.2 dX9_read_157
    · have hlt3 : 4 * mm + 3 < ln := Nat.lt_of_not_le fun q => c_52 ((nI_zle (a := ln) (b := 4 * mm + 3) (by omega) (by omega)).mpr q)
      refine lv_aload_n hx hb dX9_read_55 rfl (lv_at hl 2 rfl) ?_
      refine va_get (D := D) (cl := vwCl) (tys := zT cI cB cF) (ci := 9) (v := .ref (M 16)) (C := RX9) (T := TX9) (N := 41) hx hb hts iw_X9_read_X9 hown hK.1 hQ 0 rfl rfl 16 (by decide) (hts _ hw_X9_read_4) (fun _ h9 => h9) rfl dX9_read_56 ?_
      refine lv_iload_n hx hb dX9_read_59 rfl (lv_at hl 0 rfl) ?_
      refine va_bald (D := D) (cl := vwCl) (tys := zT cI cB cF) (f := pg) hx hb hK.1 hQ 1 1 rfl rfl (vp_in_nI (by omega) (by omega)) dX9_read_60 ?_
      refine vz_si (pg (4 * mm + 3)) (by rw [nI_clamp (n := (4 * mm + 3)) (by omega)]) ?_
      refine lv_bipush (v := 59) hx hb dX9_read_61 (by decide) ?_
      refine lv_icmp_ne (tgt := 129) hx hb dX9_read_63 (by decide) (fun c_63 => ?_) (fun c_63 => ?_)
      · refine lv_iload_n hx hb dX9_read_129 rfl (lv_at hl 0 rfl) ?_
        refine lv_aload_n hx hb dX9_read_130 rfl (lv_at hl 2 rfl) ?_
        refine va_get (D := D) (cl := vwCl) (tys := zT cI cB cF) (ci := 9) (v := .int (nI ln)) (C := RX9) (T := TX9) (N := 41) hx hb hts iw_X9_read_X9 hown hK.1 hQ 0 rfl rfl 15 (by decide) (hts _ hw_X9_read_3) (fun _ h9 => h9) rfl dX9_read_131 ?_
        refine lv_icmp_eq (tgt := 156) hx hb dX9_read_134 (by decide) (fun c_134 => False.elim (by have := (nI_eq (a := 4 * mm + 3) (b := ln) (by omega) (by omega)).mp c_134; omega)) (fun c_134 => ?_)
        have hpn : ¬ 4 * mm + 3 = ln := fun q => c_134 (by rw [q])
        refine lv_aload_n hx hb dX9_read_137 rfl (lv_at hl 2 rfl) ?_
        refine va_get (D := D) (cl := vwCl) (tys := zT cI cB cF) (ci := 9) (v := .int (nI (mm + 1))) (C := RX9) (T := TX9) (N := 41) hx hb hts iw_X9_read_X9 hown hK.1 hQ 0 rfl rfl 18 (by decide) (hts _ hw_X9_read_2) (fun _ h9 => h9) rfl dX9_read_138 ?_
        refine lv_iconst (v := 4) hx hb dX9_read_141 (by decide) ?_
        refine lv_icmp_eq (tgt := 156) hx hb dX9_read_142 (by decide) (fun c_142 => ?_) (fun c_142 => ?_)
        · have hm4 : mm = 3 := by have := (nI_eq (a := mm + 1) (b := 4) (by omega) (by decide)).mp c_142; omega
          have hE := zE_stop hln hp3 (Or.inr (by rw [zR0_3]; exact zEf_o c_63 (Or.inl hm4)))
          refine lv_iload_n hx hb dX9_read_156 rfl (lv_at hl 0 rfl) ?_
          have hP : va_P D vwCl [(M 0, mO M ca nn ft kn dy fd ak (nI ln) (zb (zWhole pg ln)) (nI (mm + 1)) fi nf nk sd ik kc kf kk kd ko hh)] H := by rw [← (show 0 = zb (zWhole pg ln) from by rw [hE.2]; rfl)]; exact hP
          have hD : va_D A [(M 0, mO M ca nn ft kn dy fd ak (nI ln) (zb (zWhole pg ln)) (nI (mm + 1)) fi nf nk sd ik kc kf kk kd ko hh)] := by rw [← (show 0 = zb (zWhole pg ln) from by rw [hE.2]; rfl)]; exact hD
          have hQ : va_P D vwCl ([(M 0, mO M ca nn ft kn dy fd ak (nI ln) (zb (zWhole pg ln)) (nI (mm + 1)) fi nf nk sd ik kc kf kk kd ko hh)] ++ [(M 16, .inl (cB, 18, .inl pg))]) H := va_P.app hP (hR.at hS).P
          refine vz_si (nI (zRl pg (zCg pg ln) ln)) (by rw [hE.1]) ?_
          have hP9 := hP.sub (ws' := [(M 0, mO M ca nn ft kn dy fd ak (nI ln) (zb (zWhole pg ln)) (nI (mm + 1)) fi nf nk sd ik kc kf kk kd ko hh)]) [0] rfl
          have hD9 := hD.sub (ws' := [(M 0, mO M ca nn ft kn dy fd ak (nI ln) (zb (zWhole pg ln)) (nI (mm + 1)) fi nf nk sd ik kc kf kk kd ko hh)]) [0] (by decide) rfl
          exact W.iret hx hb hr (fun t ht hW => ⟨⟨nI (mm + 1), rfl, fun h => by rw [hE.2] at h; exact absurd h (by decide), by rw [ht]; exact hP9, hD9⟩, hS.F ht⟩) hS.2.2 dX9_read_157
        · have hm4 : ¬ mm = 3 := fun q => c_142 (by rw [q]; rfl)
          refine lv_aload_n hx hb dX9_read_145 rfl (lv_at hl 2 rfl) ?_
          refine va_get (D := D) (cl := vwCl) (tys := zT cI cB cF) (ci := 9) (v := .ref (M 16)) (C := RX9) (T := TX9) (N := 41) hx hb hts iw_X9_read_X9 hown hK.1 hQ 0 rfl rfl 16 (by decide) (hts _ hw_X9_read_4) (fun _ h9 => h9) rfl dX9_read_146 ?_
          refine lv_iload_n hx hb dX9_read_149 rfl (lv_at hl 0 rfl) ?_
          refine va_bald (D := D) (cl := vwCl) (tys := zT cI cB cF) (f := pg) hx hb hK.1 hQ 1 1 rfl rfl (vp_in_nI (by omega) (by omega)) dX9_read_150 ?_
          refine vz_si (pg (4 * mm + 3)) (by rw [nI_clamp (n := (4 * mm + 3)) (by omega)]) ?_
          refine lv_bipush (v := 44) hx hb dX9_read_151 (by decide) ?_
          refine lv_icmp_eq (tgt := 158) hx hb dX9_read_153 (by decide) (fun c_153 => ?_) (fun c_153 => ?_)
          · have h44 : pg (4 * mm + 3) = 44 := c_153
            refine lv_iinc (v := (nI ((4 * mm + 3) + 1))) (lv' := [(1, .int (nI ((4 * mm + 3) + 1))), (2, .int (nI (4 * mm + 3))), (0, .ref (M 0))]) hx hb dX9_read_158 hl (k := 0) rfl ((nI_succ (4 * mm + 3)).symm) (by decide) rfl (fun ls hl => ?_)
            have hl : lv_has ls 3 [(1, .int (nI (4 * (mm + 1)))), (2, .int (nI (4 * mm + 3))), (0, .ref (M 0))] := by have hz := hl; rw [show (nI ((4 * mm + 3) + 1)) = (nI (4 * (mm + 1))) from rfl] at hz; exact hz
            refine lv_goto (tgt := 12) hx hb dX9_read_161 (by decide) ?_
            exact ih_12 (mm + 1) (by (try dsimp only); omega) ⟨(show mm + 1 ≤ 3 by omega), zHp_s (p := 4 * mm + 3) hp3 (Nat.lt_of_le_of_ne hp3.1 hpn) (by rw [zR0_3, h44]; exact zEf_44 (by omega)) (by rw [h44]; decide)⟩ H _ ls (hP.sub [0] rfl) (hD.sub [0] (by decide) rfl) hS (lv_sub hl [2, 0] rfl)
          · have hE := zE_stop hln hp3 (Or.inr (by rw [zR0_3]; exact zEf_o c_63 (Or.inr c_153)))
            refine lv_iload_n hx hb dX9_read_156 rfl (lv_at hl 0 rfl) ?_
            have hP : va_P D vwCl [(M 0, mO M ca nn ft kn dy fd ak (nI ln) (zb (zWhole pg ln)) (nI (mm + 1)) fi nf nk sd ik kc kf kk kd ko hh)] H := by rw [← (show 0 = zb (zWhole pg ln) from by rw [hE.2]; rfl)]; exact hP
            have hD : va_D A [(M 0, mO M ca nn ft kn dy fd ak (nI ln) (zb (zWhole pg ln)) (nI (mm + 1)) fi nf nk sd ik kc kf kk kd ko hh)] := by rw [← (show 0 = zb (zWhole pg ln) from by rw [hE.2]; rfl)]; exact hD
            have hQ : va_P D vwCl ([(M 0, mO M ca nn ft kn dy fd ak (nI ln) (zb (zWhole pg ln)) (nI (mm + 1)) fi nf nk sd ik kc kf kk kd ko hh)] ++ [(M 16, .inl (cB, 18, .inl pg))]) H := va_P.app hP (hR.at hS).P
            refine vz_si (nI (zRl pg (zCg pg ln) ln)) (by rw [hE.1]) ?_
            have hP9 := hP.sub (ws' := [(M 0, mO M ca nn ft kn dy fd ak (nI ln) (zb (zWhole pg ln)) (nI (mm + 1)) fi nf nk sd ik kc kf kk kd ko hh)]) [0] rfl
            have hD9 := hD.sub (ws' := [(M 0, mO M ca nn ft kn dy fd ak (nI ln) (zb (zWhole pg ln)) (nI (mm + 1)) fi nf nk sd ik kc kf kk kd ko hh)]) [0] (by decide) rfl
            exact W.iret hx hb hr (fun t ht hW => ⟨⟨nI (mm + 1), rfl, fun h => by rw [hE.2] at h; exact absurd h (by decide), by rw [ht]; exact hP9, hD9⟩, hS.F ht⟩) hS.2.2 dX9_read_157
      · refine lv_aload_n hx hb dX9_read_66 rfl (lv_at hl 2 rfl) ?_
        refine va_get (D := D) (cl := vwCl) (tys := zT cI cB cF) (ci := 9) (v := .int (nI (mm + 1))) (C := RX9) (T := TX9) (N := 41) hx hb hts iw_X9_read_X9 hown hK.1 hQ 0 rfl rfl 18 (by decide) (hts _ hw_X9_read_2) (fun _ h9 => h9) rfl dX9_read_67 ?_
        refine lv_iconst (v := 1) hx hb dX9_read_70 (by decide) ?_
        refine lv_icmp_le (tgt := 129) hx hb dX9_read_71 (by decide) (fun c_71 => ?_) (fun c_71 => ?_)
        · have hm1 : mm < 1 := by have := (nI_zle (a := mm + 1) (b := 1) (by omega) (by decide)).mp c_71; omega
          refine lv_iload_n hx hb dX9_read_129 rfl (lv_at hl 0 rfl) ?_
          refine lv_aload_n hx hb dX9_read_130 rfl (lv_at hl 2 rfl) ?_
          refine va_get (D := D) (cl := vwCl) (tys := zT cI cB cF) (ci := 9) (v := .int (nI ln)) (C := RX9) (T := TX9) (N := 41) hx hb hts iw_X9_read_X9 hown hK.1 hQ 0 rfl rfl 15 (by decide) (hts _ hw_X9_read_3) (fun _ h9 => h9) rfl dX9_read_131 ?_
          refine lv_icmp_eq (tgt := 156) hx hb dX9_read_134 (by decide) (fun c_134 => False.elim (by have := (nI_eq (a := 4 * mm + 3) (b := ln) (by omega) (by omega)).mp c_134; omega)) (fun c_134 => ?_)
          have hpn : ¬ 4 * mm + 3 = ln := fun q => c_134 (by rw [q])
          refine lv_aload_n hx hb dX9_read_137 rfl (lv_at hl 2 rfl) ?_
          refine va_get (D := D) (cl := vwCl) (tys := zT cI cB cF) (ci := 9) (v := .int (nI (mm + 1))) (C := RX9) (T := TX9) (N := 41) hx hb hts iw_X9_read_X9 hown hK.1 hQ 0 rfl rfl 18 (by decide) (hts _ hw_X9_read_2) (fun _ h9 => h9) rfl dX9_read_138 ?_
          refine lv_iconst (v := 4) hx hb dX9_read_141 (by decide) ?_
          refine lv_icmp_eq (tgt := 156) hx hb dX9_read_142 (by decide) (fun c_142 => False.elim (by have := (nI_eq (a := mm + 1) (b := 4) (by omega) (by decide)).mp c_142; omega)) (fun c_142 => ?_)
          have hm4 : ¬ mm = 3 := fun q => c_142 (by rw [q]; rfl)
          refine lv_aload_n hx hb dX9_read_145 rfl (lv_at hl 2 rfl) ?_
          refine va_get (D := D) (cl := vwCl) (tys := zT cI cB cF) (ci := 9) (v := .ref (M 16)) (C := RX9) (T := TX9) (N := 41) hx hb hts iw_X9_read_X9 hown hK.1 hQ 0 rfl rfl 16 (by decide) (hts _ hw_X9_read_4) (fun _ h9 => h9) rfl dX9_read_146 ?_
          refine lv_iload_n hx hb dX9_read_149 rfl (lv_at hl 0 rfl) ?_
          refine va_bald (D := D) (cl := vwCl) (tys := zT cI cB cF) (f := pg) hx hb hK.1 hQ 1 1 rfl rfl (vp_in_nI (by omega) (by omega)) dX9_read_150 ?_
          refine vz_si (pg (4 * mm + 3)) (by rw [nI_clamp (n := (4 * mm + 3)) (by omega)]) ?_
          refine lv_bipush (v := 44) hx hb dX9_read_151 (by decide) ?_
          refine lv_icmp_eq (tgt := 158) hx hb dX9_read_153 (by decide) (fun c_153 => False.elim (by rw [c_63] at c_153; exact absurd c_153 (by decide))) (fun c_153 => ?_)
          have hE := zE_stop hln hp3 (Or.inr (by rw [zR0_3, c_63]; exact zEf_59f (by omega)))
          refine lv_iload_n hx hb dX9_read_156 rfl (lv_at hl 0 rfl) ?_
          have hP : va_P D vwCl [(M 0, mO M ca nn ft kn dy fd ak (nI ln) (zb (zWhole pg ln)) (nI (mm + 1)) fi nf nk sd ik kc kf kk kd ko hh)] H := by rw [← (show 0 = zb (zWhole pg ln) from by rw [hE.2]; rfl)]; exact hP
          have hD : va_D A [(M 0, mO M ca nn ft kn dy fd ak (nI ln) (zb (zWhole pg ln)) (nI (mm + 1)) fi nf nk sd ik kc kf kk kd ko hh)] := by rw [← (show 0 = zb (zWhole pg ln) from by rw [hE.2]; rfl)]; exact hD
          have hQ : va_P D vwCl ([(M 0, mO M ca nn ft kn dy fd ak (nI ln) (zb (zWhole pg ln)) (nI (mm + 1)) fi nf nk sd ik kc kf kk kd ko hh)] ++ [(M 16, .inl (cB, 18, .inl pg))]) H := va_P.app hP (hR.at hS).P
          refine vz_si (nI (zRl pg (zCg pg ln) ln)) (by rw [hE.1]) ?_
          have hP9 := hP.sub (ws' := [(M 0, mO M ca nn ft kn dy fd ak (nI ln) (zb (zWhole pg ln)) (nI (mm + 1)) fi nf nk sd ik kc kf kk kd ko hh)]) [0] rfl
          have hD9 := hD.sub (ws' := [(M 0, mO M ca nn ft kn dy fd ak (nI ln) (zb (zWhole pg ln)) (nI (mm + 1)) fi nf nk sd ik kc kf kk kd ko hh)]) [0] (by decide) rfl
          exact W.iret hx hb hr (fun t ht hW => ⟨⟨nI (mm + 1), rfl, fun h => by rw [hE.2] at h; exact absurd h (by decide), by rw [ht]; exact hP9, hD9⟩, hS.F ht⟩) hS.2.2 dX9_read_157
        · have hm1 : 1 ≤ mm := by have := Nat.lt_of_not_le fun q => c_71 ((nI_zle (a := mm + 1) (b := 1) (by omega) (by decide)).mpr q); omega
          have hcg : zCg pg ln = 4 * mm + 3 := zE_59 hp3 c_63
          have hR3 : zR0 pg (4 * mm + 3) = true := by rw [zR0_3, c_63]; exact zEf_59 hm1 (by omega)
          refine lv_aload_n hx hb dX9_read_74 rfl (lv_at hl 2 rfl) ?_
          refine lv_aload_n hx hb dX9_read_75 rfl (lv_at hl 2 rfl) ?_
          refine lv_iload_n hx hb dX9_read_76 rfl (lv_at hl 0 rfl) ?_
          refine lv_iconst (v := 1) hx hb dX9_read_77 (by decide) ?_
          refine lv_iadd hx hb dX9_read_78 ?_
          refine vz_si (nI (4 * mm + 4)) (nI_add (4 * mm + 3) 1) ?_
          refine lv_iconst (v := 0) hx hb dX9_read_79 (by decide) ?_
          refine lv_bipush (v := 9) hx hb dX9_read_80 (by decide) ?_
          refine vz_rd (va_runV (As := [.int (nI (4 * mm + 4)), .int 0, .int 9]) (rest := [.ref (M 0)]) FX (c_X9_isFigure l D cI cB cF M ca nn ft kn dy fd ak 0 (nI (mm + 1)) fi nf nk sd ik kc kf kk kd ko hh ln pg (4 * mm + 4) 0 9 (by first | assumption | omega | decide) (by omega)) (cwV 3 hts gX9_read_X9_isFigure rfl rfl rfl ⟨rfl, hd_X9_isFigure⟩ ⟨Nat.le_of_ble_eq_true rfl, Nat.le_of_ble_eq_true rfl⟩) (preP_V hQ 0 rfl rfl (hQ.sub (ws' := [(M 0, mO M ca nn ft kn dy fd ak (nI ln) 0 (nI (mm + 1)) fi nf nk sd ik kc kf kk kd ko hh), (M 16, .inl (cB, 18, .inl pg))]) [0, 1] rfl) hK) rfl rfl hl.1 rfl (lv_room (Nat.le_of_ble_eq_true rfl)) dX9_read_82 ⟨Nat.le_of_ble_eq_true rfl, Nat.le_of_ble_eq_true rfl⟩) ?_
          refine lv_if_eq (tgt := 102) hx hb dX9_read_85 (by decide) (fun c_85 => ?_) (fun c_85 => ?_)
          · have b_85 : (zFg pg ln (4 * mm + 4) 0 9) = false := zb_f c_85
            have hE := zE_no hln hp3 hlt3 c_63 hR3 b_85
            have hwh : (0 : Int32) = zb (zWhole pg ln) := by rw [hE.2]; rfl
            refine lv_iconst (v := 0) hx hb dX9_read_102 (by decide) ?_
            refine vz_si (zb (zWhole pg ln)) (hwh) ?_
            refine va_put (D := D) (cl := vwCl) (tys := zT cI cB cF) (ci := 9) (v := .int (zb (zWhole pg ln))) (ty := .boolean) (C := RX9) (T := TX9) (N := 41) hx hb hts iw_X9_read_X9 tyX9 tyX9_ok nmX9 hown hK.1 hP hD hS 0 rfl rfl 17 (by decide) (hts _ hw_X9_read_1) (fun _ h9 => h9) rfl (tyX9_ok 17 (by decide)) (zb_nar _) (zb_fit _) (Nat.le_of_ble_eq_true rfl) dX9_read_103 (fun H locs hP hD hS => ?_)
            have hP : va_P D vwCl [(M 0, mO M ca nn ft kn dy fd ak (nI ln) (zb (zWhole pg ln)) (nI (mm + 1)) fi nf nk sd ik kc kf kk kd ko hh)] H := hP
            have hD : va_D A [(M 0, mO M ca nn ft kn dy fd ak (nI ln) (zb (zWhole pg ln)) (nI (mm + 1)) fi nf nk sd ik kc kf kk kd ko hh)] := hD
            have hQ : va_P D vwCl ([(M 0, mO M ca nn ft kn dy fd ak (nI ln) (zb (zWhole pg ln)) (nI (mm + 1)) fi nf nk sd ik kc kf kk kd ko hh)] ++ [(M 16, .inl (cB, 18, .inl pg))]) H := va_P.app hP (hR.at hS).P
            refine lv_aload_n hx hb dX9_read_106 rfl (lv_at hl 2 rfl) ?_
            refine lv_iload_n hx hb dX9_read_107 rfl (lv_at hl 0 rfl) ?_
            refine lv_iconst (v := 1) hx hb dX9_read_108 (by decide) ?_
            refine lv_iadd hx hb dX9_read_109 ?_
            refine vz_si (nI (4 * mm + 4)) (nI_add (4 * mm + 3) 1) ?_
            refine lv_iconst (v := 0) hx hb dX9_read_110 (by decide) ?_
            refine lv_bipush (v := 9) hx hb dX9_read_111 (by decide) ?_
            refine vz_rd (va_runV (As := [.int (nI (4 * mm + 4)), .int 0, .int 9]) (rest := []) FX (c_X9_isFigure l D cI cB cF M ca nn ft kn dy fd ak (zb (zWhole pg ln)) (nI (mm + 1)) fi nf nk sd ik kc kf kk kd ko hh ln pg (4 * mm + 4) 0 9 (by first | assumption | omega | decide) (by omega)) (cwV 3 hts gX9_read_X9_isFigure rfl rfl rfl ⟨rfl, hd_X9_isFigure⟩ ⟨Nat.le_of_ble_eq_true rfl, Nat.le_of_ble_eq_true rfl⟩) (preP_V hQ 0 rfl rfl (hQ.sub (ws' := [(M 0, mO M ca nn ft kn dy fd ak (nI ln) (zb (zWhole pg ln)) (nI (mm + 1)) fi nf nk sd ik kc kf kk kd ko hh), (M 16, .inl (cB, 18, .inl pg))]) [0, 1] rfl) hK) rfl rfl hl.1 rfl (lv_room (Nat.le_of_ble_eq_true rfl)) dX9_read_113 ⟨Nat.le_of_ble_eq_true rfl, Nat.le_of_ble_eq_true rfl⟩) ?_
            refine lv_if_eq (tgt := 125) hx hb dX9_read_116 (by decide) (fun c_116 => ?_) (fun c_116 => False.elim (by exact absurd (b_85.symm.trans (zb_t c_116)) (by decide)))
            have b_116 : (zFg pg ln (4 * mm + 4) 0 9) = false := zb_f c_116
            refine lv_iload_n hx hb dX9_read_125 rfl (lv_at hl 0 rfl) ?_
            refine lv_iconst (v := 1) hx hb dX9_read_126 (by decide) ?_
            refine lv_iadd hx hb dX9_read_127 ?_
            refine vz_si (nI (4 * mm + 4)) (nI_add (4 * mm + 3) 1) ?_
            refine vz_si (nI (zRl pg (zCg pg ln) ln)) (by rw [hE.1]) ?_
            have hP9 := hP.sub (ws' := [(M 0, mO M ca nn ft kn dy fd ak (nI ln) (zb (zWhole pg ln)) (nI (mm + 1)) fi nf nk sd ik kc kf kk kd ko hh)]) [0] rfl
            have hD9 := hD.sub (ws' := [(M 0, mO M ca nn ft kn dy fd ak (nI ln) (zb (zWhole pg ln)) (nI (mm + 1)) fi nf nk sd ik kc kf kk kd ko hh)]) [0] (by decide) rfl
            exact W.iret hx hb hr (fun t ht hW => ⟨⟨nI (mm + 1), rfl, fun h => by rw [hE.2] at h; exact absurd h (by decide), by rw [ht]; exact hP9, hD9⟩, hS.F ht⟩) hS.2.2 dX9_read_128
          · have b_85 : (zFg pg ln (4 * mm + 4) 0 9) = true := zb_t c_85
            have hE := zE_yes hln hp3 hlt3 c_63 hR3 b_85
            refine lv_iload_n hx hb dX9_read_88 rfl (lv_at hl 0 rfl) ?_
            refine lv_iconst (v := 2) hx hb dX9_read_89 (by decide) ?_
            refine lv_iadd hx hb dX9_read_90 ?_
            refine vz_si (nI (4 * mm + 5)) (nI_add (4 * mm + 3) 2) ?_
            refine lv_aload_n hx hb dX9_read_91 rfl (lv_at hl 2 rfl) ?_
            refine va_get (D := D) (cl := vwCl) (tys := zT cI cB cF) (ci := 9) (v := .int (nI ln)) (C := RX9) (T := TX9) (N := 41) hx hb hts iw_X9_read_X9 hown hK.1 hQ 0 rfl rfl 15 (by decide) (hts _ hw_X9_read_3) (fun _ h9 => h9) rfl dX9_read_92 ?_
            refine lv_icmp_ne (tgt := 102) hx hb dX9_read_95 (by decide) (fun c_95 => ?_) (fun c_95 => ?_)
            · have hwh : (0 : Int32) = zb (zWhole pg ln) := by rw [hE.2, decide_eq_false (fun q => c_95 (by rw [← q]))]; rfl
              refine lv_iconst (v := 0) hx hb dX9_read_102 (by decide) ?_
              refine vz_si (zb (zWhole pg ln)) (hwh) ?_
              refine va_put (D := D) (cl := vwCl) (tys := zT cI cB cF) (ci := 9) (v := .int (zb (zWhole pg ln))) (ty := .boolean) (C := RX9) (T := TX9) (N := 41) hx hb hts iw_X9_read_X9 tyX9 tyX9_ok nmX9 hown hK.1 hP hD hS 0 rfl rfl 17 (by decide) (hts _ hw_X9_read_1) (fun _ h9 => h9) rfl (tyX9_ok 17 (by decide)) (zb_nar _) (zb_fit _) (Nat.le_of_ble_eq_true rfl) dX9_read_103 (fun H locs hP hD hS => ?_)
              have hP : va_P D vwCl [(M 0, mO M ca nn ft kn dy fd ak (nI ln) (zb (zWhole pg ln)) (nI (mm + 1)) fi nf nk sd ik kc kf kk kd ko hh)] H := hP
              have hD : va_D A [(M 0, mO M ca nn ft kn dy fd ak (nI ln) (zb (zWhole pg ln)) (nI (mm + 1)) fi nf nk sd ik kc kf kk kd ko hh)] := hD
              have hQ : va_P D vwCl ([(M 0, mO M ca nn ft kn dy fd ak (nI ln) (zb (zWhole pg ln)) (nI (mm + 1)) fi nf nk sd ik kc kf kk kd ko hh)] ++ [(M 16, .inl (cB, 18, .inl pg))]) H := va_P.app hP (hR.at hS).P
              refine lv_aload_n hx hb dX9_read_106 rfl (lv_at hl 2 rfl) ?_
              refine lv_iload_n hx hb dX9_read_107 rfl (lv_at hl 0 rfl) ?_
              refine lv_iconst (v := 1) hx hb dX9_read_108 (by decide) ?_
              refine lv_iadd hx hb dX9_read_109 ?_
              refine vz_si (nI (4 * mm + 4)) (nI_add (4 * mm + 3) 1) ?_
              refine lv_iconst (v := 0) hx hb dX9_read_110 (by decide) ?_
              refine lv_bipush (v := 9) hx hb dX9_read_111 (by decide) ?_
              refine vz_rd (va_runV (As := [.int (nI (4 * mm + 4)), .int 0, .int 9]) (rest := []) FX (c_X9_isFigure l D cI cB cF M ca nn ft kn dy fd ak (zb (zWhole pg ln)) (nI (mm + 1)) fi nf nk sd ik kc kf kk kd ko hh ln pg (4 * mm + 4) 0 9 (by first | assumption | omega | decide) (by omega)) (cwV 3 hts gX9_read_X9_isFigure rfl rfl rfl ⟨rfl, hd_X9_isFigure⟩ ⟨Nat.le_of_ble_eq_true rfl, Nat.le_of_ble_eq_true rfl⟩) (preP_V hQ 0 rfl rfl (hQ.sub (ws' := [(M 0, mO M ca nn ft kn dy fd ak (nI ln) (zb (zWhole pg ln)) (nI (mm + 1)) fi nf nk sd ik kc kf kk kd ko hh), (M 16, .inl (cB, 18, .inl pg))]) [0, 1] rfl) hK) rfl rfl hl.1 rfl (lv_room (Nat.le_of_ble_eq_true rfl)) dX9_read_113 ⟨Nat.le_of_ble_eq_true rfl, Nat.le_of_ble_eq_true rfl⟩) ?_
              refine lv_if_eq (tgt := 125) hx hb dX9_read_116 (by decide) (fun c_116 => False.elim (by exact absurd (b_85.symm.trans (zb_f c_116)) (by decide))) (fun c_116 => ?_)
              have b_116 : (zFg pg ln (4 * mm + 4) 0 9) = true := zb_t c_116
              refine lv_iload_n hx hb dX9_read_119 rfl (lv_at hl 0 rfl) ?_
              refine lv_iconst (v := 2) hx hb dX9_read_120 (by decide) ?_
              refine lv_iadd hx hb dX9_read_121 ?_
              refine vz_si (nI (4 * mm + 5)) (nI_add (4 * mm + 3) 2) ?_
              refine lv_goto (tgt := 128) hx hb dX9_read_122 (by decide) ?_
              refine vz_si (nI (zRl pg (zCg pg ln) ln)) (by rw [hE.1]) ?_
              have hP9 := hP.sub (ws' := [(M 0, mO M ca nn ft kn dy fd ak (nI ln) (zb (zWhole pg ln)) (nI (mm + 1)) fi nf nk sd ik kc kf kk kd ko hh)]) [0] rfl
              have hD9 := hD.sub (ws' := [(M 0, mO M ca nn ft kn dy fd ak (nI ln) (zb (zWhole pg ln)) (nI (mm + 1)) fi nf nk sd ik kc kf kk kd ko hh)]) [0] (by decide) rfl
              exact W.iret hx hb hr (fun t ht hW => ⟨⟨nI (mm + 1), rfl, fun _ => by rw [hcg, show (4 * mm + 3 + 1) / 4 = mm + 1 by omega], by rw [ht]; exact hP9, hD9⟩, hS.F ht⟩) hS.2.2 dX9_read_128
            · have hwh : (1 : Int32) = zb (zWhole pg ln) := by rw [hE.2, decide_eq_true ((nI_eq (a := 4 * mm + 5) (b := ln) (by omega) (by omega)).mp c_95)]; rfl
              refine lv_iconst (v := 1) hx hb dX9_read_98 (by decide) ?_
              refine lv_goto (tgt := 103) hx hb dX9_read_99 (by decide) ?_
              refine vz_si (zb (zWhole pg ln)) (hwh) ?_
              refine va_put (D := D) (cl := vwCl) (tys := zT cI cB cF) (ci := 9) (v := .int (zb (zWhole pg ln))) (ty := .boolean) (C := RX9) (T := TX9) (N := 41) hx hb hts iw_X9_read_X9 tyX9 tyX9_ok nmX9 hown hK.1 hP hD hS 0 rfl rfl 17 (by decide) (hts _ hw_X9_read_1) (fun _ h9 => h9) rfl (tyX9_ok 17 (by decide)) (zb_nar _) (zb_fit _) (Nat.le_of_ble_eq_true rfl) dX9_read_103 (fun H locs hP hD hS => ?_)
              have hP : va_P D vwCl [(M 0, mO M ca nn ft kn dy fd ak (nI ln) (zb (zWhole pg ln)) (nI (mm + 1)) fi nf nk sd ik kc kf kk kd ko hh)] H := hP
              have hD : va_D A [(M 0, mO M ca nn ft kn dy fd ak (nI ln) (zb (zWhole pg ln)) (nI (mm + 1)) fi nf nk sd ik kc kf kk kd ko hh)] := hD
              have hQ : va_P D vwCl ([(M 0, mO M ca nn ft kn dy fd ak (nI ln) (zb (zWhole pg ln)) (nI (mm + 1)) fi nf nk sd ik kc kf kk kd ko hh)] ++ [(M 16, .inl (cB, 18, .inl pg))]) H := va_P.app hP (hR.at hS).P
              refine lv_aload_n hx hb dX9_read_106 rfl (lv_at hl 2 rfl) ?_
              refine lv_iload_n hx hb dX9_read_107 rfl (lv_at hl 0 rfl) ?_
              refine lv_iconst (v := 1) hx hb dX9_read_108 (by decide) ?_
              refine lv_iadd hx hb dX9_read_109 ?_
              refine vz_si (nI (4 * mm + 4)) (nI_add (4 * mm + 3) 1) ?_
              refine lv_iconst (v := 0) hx hb dX9_read_110 (by decide) ?_
              refine lv_bipush (v := 9) hx hb dX9_read_111 (by decide) ?_
              refine vz_rd (va_runV (As := [.int (nI (4 * mm + 4)), .int 0, .int 9]) (rest := []) FX (c_X9_isFigure l D cI cB cF M ca nn ft kn dy fd ak (zb (zWhole pg ln)) (nI (mm + 1)) fi nf nk sd ik kc kf kk kd ko hh ln pg (4 * mm + 4) 0 9 (by first | assumption | omega | decide) (by omega)) (cwV 3 hts gX9_read_X9_isFigure rfl rfl rfl ⟨rfl, hd_X9_isFigure⟩ ⟨Nat.le_of_ble_eq_true rfl, Nat.le_of_ble_eq_true rfl⟩) (preP_V hQ 0 rfl rfl (hQ.sub (ws' := [(M 0, mO M ca nn ft kn dy fd ak (nI ln) (zb (zWhole pg ln)) (nI (mm + 1)) fi nf nk sd ik kc kf kk kd ko hh), (M 16, .inl (cB, 18, .inl pg))]) [0, 1] rfl) hK) rfl rfl hl.1 rfl (lv_room (Nat.le_of_ble_eq_true rfl)) dX9_read_113 ⟨Nat.le_of_ble_eq_true rfl, Nat.le_of_ble_eq_true rfl⟩) ?_
              refine lv_if_eq (tgt := 125) hx hb dX9_read_116 (by decide) (fun c_116 => False.elim (by exact absurd (b_85.symm.trans (zb_f c_116)) (by decide))) (fun c_116 => ?_)
              have b_116 : (zFg pg ln (4 * mm + 4) 0 9) = true := zb_t c_116
              refine lv_iload_n hx hb dX9_read_119 rfl (lv_at hl 0 rfl) ?_
              refine lv_iconst (v := 2) hx hb dX9_read_120 (by decide) ?_
              refine lv_iadd hx hb dX9_read_121 ?_
              refine vz_si (nI (4 * mm + 5)) (nI_add (4 * mm + 3) 2) ?_
              refine lv_goto (tgt := 128) hx hb dX9_read_122 (by decide) ?_
              refine vz_si (nI (zRl pg (zCg pg ln) ln)) (by rw [hE.1]) ?_
              have hP9 := hP.sub (ws' := [(M 0, mO M ca nn ft kn dy fd ak (nI ln) (zb (zWhole pg ln)) (nI (mm + 1)) fi nf nk sd ik kc kf kk kd ko hh)]) [0] rfl
              have hD9 := hD.sub (ws' := [(M 0, mO M ca nn ft kn dy fd ak (nI ln) (zb (zWhole pg ln)) (nI (mm + 1)) fi nf nk sd ik kc kf kk kd ko hh)]) [0] (by decide) rfl
              exact W.iret hx hb hr (fun t ht hW => ⟨⟨nI (mm + 1), rfl, fun _ => by rw [hcg, show (4 * mm + 3 + 1) / 4 = mm + 1 by omega], by rw [ht]; exact hP9, hD9⟩, hS.F ht⟩) hS.2.2 dX9_read_128
  · have ho3 : ¬ zOn pg ln (4 * mm) = 4 * mm + 3 := fun q => c_30 (by rw [q])
    have hq9 := (hoc.resolve_left (fun q => ho3 q.1)).2
    have hE := zE_stop hln hq9.1 hq9.2
    refine lv_iload_n hx hb dX9_read_33 rfl (lv_at hl 0 rfl) ?_
    have hP : va_P D vwCl [(M 0, mO M ca nn ft kn dy fd ak (nI ln) (zb (zWhole pg ln)) (nI mm) fi nf nk sd ik kc kf kk kd ko hh)] H := by rw [← (show 0 = zb (zWhole pg ln) from by rw [hE.2]; rfl)]; exact hP
    have hD : va_D A [(M 0, mO M ca nn ft kn dy fd ak (nI ln) (zb (zWhole pg ln)) (nI mm) fi nf nk sd ik kc kf kk kd ko hh)] := by rw [← (show 0 = zb (zWhole pg ln) from by rw [hE.2]; rfl)]; exact hD
    have hQ : va_P D vwCl ([(M 0, mO M ca nn ft kn dy fd ak (nI ln) (zb (zWhole pg ln)) (nI mm) fi nf nk sd ik kc kf kk kd ko hh)] ++ [(M 16, .inl (cB, 18, .inl pg))]) H := va_P.app hP (hR.at hS).P
    refine vz_si (nI (zRl pg (zCg pg ln) ln)) (by rw [hE.1]) ?_
    have hP9 := hP.sub (ws' := [(M 0, mO M ca nn ft kn dy fd ak (nI ln) (zb (zWhole pg ln)) (nI mm) fi nf nk sd ik kc kf kk kd ko hh)]) [0] rfl
    have hD9 := hD.sub (ws' := [(M 0, mO M ca nn ft kn dy fd ak (nI ln) (zb (zWhole pg ln)) (nI mm) fi nf nk sd ik kc kf kk kd ko hh)]) [0] (by decide) rfl
    exact W.iret hx hb hr (fun t ht hW => ⟨⟨nI mm, rfl, fun h => by rw [hE.2] at h; exact absurd h (by decide), by rw [ht]; exact hP9, hD9⟩, hS.F ht⟩) hS.2.2 dX9_read_34
set_option maxRecDepth 100000 in
theorem hd_X9_fault : yX9_fault.cls ≠ "java/lang/invoke/MethodHandle" ∧ yX9_fault.cls ≠ "java/lang/invoke/VarHandle" ∧ (parseMethodDescriptor yX9_fault.desc).map (fun d => d.parameters.length) = some 0 := by decide +kernel
set_option maxHeartbeats 4000000 in
set_option maxRecDepth 100000 in
theorem c_X9_fault (l : Launch) (D : va_G) (cI cB cF : ClassId) (sz : Nat) (M : Nat → Nat) (ca : Int32) (nn : Int32) (ft : Int32) (kn : Int32) (dy : Int32) (fd : Int32) (ak : Int32) (iw : Int32) (nm : Int32) (fi : Int32) (nf : Int32) (nk : Int32) (sd : Int64) (ik : Int32) (kc : Int32) (kf : Int32) (kk : Int32) (kd : Int32) (ko : Int32) (hh : Int64) (ln : Nat) (pg : Nat → Int32) (hln : ln ≤ 18) : Met l yX9_fault wsX9_fault ({ frames := 4, cells := 0, slots := 0, locals := 88 } : Room) (PcW D cI cB cF [.ref (M 0)] sz [(M 0, mO M ca nn ft kn dy fd ak (nI ln) iw nm fi nf nk sd ik kc kf kk kd ko hh)] [(M 16, .inl (cB, 18, .inl pg))]) (Qw D (S := Int32) (fun xx => some (.int (nI (zRl pg (zCg pg ln) ln)))) (fun xx => True) (fun xx => [(M 0, mO M ca nn ft kn dy fd ak (nI ln) (zb (zWhole pg ln)) xx fi nf nk sd ik kc kf kk kd ko hh)]) (va_A [(M 0, mO M ca nn ft kn dy fd ak (nI ln) iw nm fi nf nk sd ik kc kf kk kd ko hh)] sz)) 0 0 (va_A [(M 0, mO M ca nn ft kn dy fd ak (nI ln) iw nm fi nf nk sd ik kc kf kk kd ko hh)] sz) := by
  refine Met.ofW (cc := cX9_fault) (maxL := 1) (ret := (some .int)) (by decide) rfl ?_
  intro p e s m args below meth c s₁ Bd hml hv
  rw [show (headSpec wsX9_fault ({ frames := 4, cells := 0, slots := 0, locals := 88 } : Room)).room = ({ frames := 4, cells := 0, slots := 0, locals := 88 } : Room) from rfl]
  obtain ⟨rfl, hsz, hP, hK, hD0, hR⟩ := hv
  have hx := Bd.exec
  have hb := Bd.bytes
  have hr := Bd.returns
  have hts := atoms_spec (ws := wsX9_fault) Bd.pre
  have hown : s.vm.findClass RX9 = some m.cls := findClass_of_methodNamed Bd.named
  have hlocks := Bd.notSynchronized
  have FX : CallFix p m c cX9_fault 1 s _ wsX9_fault RX9 := ⟨hx, hb, hml, hown, hts⟩
  subst hsz
  have hD := hD0.self (sz := s.heap.size)
  generalize hAe : va_A [(M 0, mO M ca nn ft kn dy fd ak (nI ln) iw nm fi nf nk sd ik kc kf kk kd ko hh)] s.heap.size = A at hD hR ⊢
  have hA : ∀ q : Nat, s.heap.size ≤ q → A q := fun q h => by rw [← hAe]; exact Or.inr h
  have hS : va_S A s.heap s.heap [] := va_S.rf
  have hP : va_P D vwCl [(M 0, mO M ca nn ft kn dy fd ak (nI ln) iw nm fi nf nk sd ik kc kf kk kd ko hh)] s.heap := hP
  have hQ : va_P D vwCl ([(M 0, mO M ca nn ft kn dy fd ak (nI ln) iw nm fi nf nk sd ik kc kf kk kd ko hh)] ++ [(M 16, .inl (cB, 18, .inl pg))]) s.heap := va_P.app hP (hR.at hS).P
  have hl := lv_entry ([.ref (M 0)]) (n := 1) (Nat.le_of_ble_eq_true rfl)
  rw [lg_entry_eq]
  generalize (lg_sl ([.ref (M 0)]) ++ List.replicate (1 - (lg_sl ([.ref (M 0)])).length) Slot.unset).toArray = ls at hl ⊢
  have hl : lv_has ls 1 [(0, .ref (M 0))] := hl
  refine lv_aload_n hx hb dX9_fault_0 rfl (lv_at hl 0 rfl) ?_
  have hFc := va_free (wc := [(M 0, mO M ca nn ft kn dy fd ak (nI ln) iw nm fi nf nk sd ik kc kf kk kd ko hh)]) hD hS hA [0] rfl
  refine vz_cw [] [0] [] (va_runV (As := []) (rest := []) FX (c_X9_read l D cI cB cF s.heap.size M ca nn ft kn dy fd ak iw nm fi nf nk sd ik kc kf kk kd ko hh ln pg (by first | assumption | omega | decide)) (cwV 0 hts gX9_fault_X9_read rfl rfl rfl ⟨rfl, hd_X9_read⟩ ⟨Nat.le_of_ble_eq_true rfl, Nat.le_of_ble_eq_true rfl⟩) (preW_V hQ 0 rfl rfl (hP.sub (ws' := [(M 0, mO M ca nn ft kn dy fd ak (nI ln) iw nm fi nf nk sd ik kc kf kk kd ko hh)]) [0] rfl) (hD.sub (ws' := [(M 0, mO M ca nn ft kn dy fd ak (nI ln) iw nm fi nf nk sd ik kc kf kk kd ko hh)]) [0] (by decide) rfl) hK (show vz_R D [(M 16, .inl (cB, 18, .inl pg))] _ _ from (vz_R.cons ((hR.at hS).one hFc (List.mem_of_getElem? (i := 0) rfl)) vz_R.nil))) rfl rfl hl.1 rfl (lv_room (Nat.le_of_ble_eq_true rfl)) dX9_fault_1 ⟨Nat.le_of_ble_eq_true rfl, Nat.le_of_ble_eq_true rfl⟩) hP hD hS hA rfl rfl rfl (by decide) (fun u H locs hu hP hD hS hz9 hk9 => ?_)
  obtain ⟨z1_1_1, rfl⟩ : ∃ z, z = u := ⟨_, rfl⟩
  have hu_1 : zWhole pg ln = true → z1_1_1 = nI ((zCg pg ln + 1) / 4) := hu
  have hP : va_P D vwCl [(M 0, mO M ca nn ft kn dy fd ak (nI ln) (zb (zWhole pg ln)) z1_1_1 fi nf nk sd ik kc kf kk kd ko hh)] H := hP
  have hD : va_D A [(M 0, mO M ca nn ft kn dy fd ak (nI ln) (zb (zWhole pg ln)) z1_1_1 fi nf nk sd ik kc kf kk kd ko hh)] := hD
  have hQ : va_P D vwCl ([(M 0, mO M ca nn ft kn dy fd ak (nI ln) (zb (zWhole pg ln)) z1_1_1 fi nf nk sd ik kc kf kk kd ko hh)] ++ [(M 16, .inl (cB, 18, .inl pg))]) H := va_P.app hP (hR.at hS).P
  show W _ _ _ _ _ _ _ _ _ _ _ _ _ _ _ (F0 m 4 ls [.int (nI (zRl pg (zCg pg ln) ln))])
  refine vz_si (nI (zRl pg (zCg pg ln) ln)) (rfl) ?_
  have hP9 := hP.sub (ws' := [(M 0, mO M ca nn ft kn dy fd ak (nI ln) (zb (zWhole pg ln)) z1_1_1 fi nf nk sd ik kc kf kk kd ko hh)]) [0] rfl
  have hD9 := hD.sub (ws' := [(M 0, mO M ca nn ft kn dy fd ak (nI ln) (zb (zWhole pg ln)) z1_1_1 fi nf nk sd ik kc kf kk kd ko hh)]) [0] (by decide) rfl
  exact W.iret hx hb hr (fun t ht hW => ⟨⟨z1_1_1, rfl, trivial, by rw [ht]; exact hP9, hD9⟩, hS.F ht⟩) hS.2.2 dX9_fault_4
