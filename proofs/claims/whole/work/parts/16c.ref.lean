set_option maxRecDepth 100000 in
theorem iw_X9_fitting_X9 : ∀ w ∈ u_ws RX9 TX9 41, w ∈ wsX9_fitting := fun w h => List.mem_cons_of_mem _ (List.mem_append_right _ h)
set_option maxRecDepth 100000 in
theorem hw_X9_fitting_1 : (.fieldLink RX9 100 "RotaFathersModel" "fathers" "I" : Cond) ∈ wsX9_fitting := List.mem_of_getElem? (i := 1) rfl
set_option maxRecDepth 100000 in
theorem hw_X9_fitting_2 : (.fieldLink RX9 115 "RotaFathersModel" "found" "I" : Cond) ∈ wsX9_fitting := List.mem_of_getElem? (i := 2) rfl
set_option maxRecDepth 100000 in
theorem hw_X9_fitting_3 : (.fieldLink RX9 53 "RotaFathersModel" "fitBy" "[I" : Cond) ∈ wsX9_fitting := List.mem_of_getElem? (i := 3) rfl
set_option maxRecDepth 100000 in
theorem hw_X9_fitting_4 : (.fieldLink RX9 28 "RotaFathersModel" "foundShift" "[I" : Cond) ∈ wsX9_fitting := List.mem_of_getElem? (i := 4) rfl
set_option maxRecDepth 100000 in
theorem hw_X9_fitting_5 : (.fieldLink RX9 31 "RotaFathersModel" "foundFit" "[I" : Cond) ∈ wsX9_fitting := List.mem_of_getElem? (i := 5) rfl
set_option maxRecDepth 100000 in
theorem hd_X9_fitting : yX9_fitting.cls ≠ "java/lang/invoke/MethodHandle" ∧ yX9_fitting.cls ≠ "java/lang/invoke/VarHandle" ∧ (parseMethodDescriptor yX9_fitting.desc).map (fun d => d.parameters.length) = some 0 := by decide +kernel
set_option maxHeartbeats 4000000 in
set_option maxRecDepth 100000 in
theorem c_X9_fitting (l : Launch) (D : va_G) (cI cB cF : ClassId) (M : Nat → Nat) (ca : Int32) (ft : Int32) (kn : Int32) (dy : Int32) (ak : Int32) (pl : Int32) (iw : Int32) (nm : Int32) (fi : Int32) (nf : Int32) (nk : Int32) (sd : Int64) (ik : Int32) (kc : Int32) (kf : Int32) (kk : Int32) (kd : Int32) (ko : Int32) (hh : Int64) (n : Nat) (w27 : Nat → Int32) (fdn : Nat) (fs : Nat → Int32) (ff : Nat → Int32) (hn : n ≤ 4) (hfd : fdn ≤ 6) (hfs : ∀ i, i < fdn → ∃ j, j < 9 ∧ fs i = nI j) : Met l yX9_fitting wsX9_fitting ({ frames := 0, cells := 0, slots := 0, locals := 0 } : Room) (PcP D cI cB cF [.ref (M 0)] [(M 0, mO M ca (nI n) ft kn dy (nI fdn) ak pl iw nm fi nf nk sd ik kc kf kk kd ko hh), (M 27, .inl (cI, 45, .inl w27)), (M 12, .inl (cI, 6, .inl fs)), (M 13, .inl (cI, 6, .inl ff))]) (QcV (.int (zRw (zOj w27 fs ff fdn) (n + 1)))) 0 0 (fun _ => False) := by
  refine Met.ofW (cc := cX9_fitting) (maxL := 5) (ret := (some .int)) (by decide) rfl ?_
  intro p e s m args below meth c s₁ Bd hml hv
  rw [show (headSpec wsX9_fitting ({ frames := 0, cells := 0, slots := 0, locals := 0 } : Room)).room = ({ frames := 0, cells := 0, slots := 0, locals := 0 } : Room) from rfl]
  obtain ⟨rfl, hQ, hK⟩ := hv
  have hx := Bd.exec
  have hb := Bd.bytes
  have hr := Bd.returns
  have hts := atoms_spec (ws := wsX9_fitting) Bd.pre
  have hown : s.vm.findClass RX9 = some m.cls := findClass_of_methodNamed Bd.named
  have hlocks := Bd.notSynchronized
  have FX : CallFix p m c cX9_fitting 5 s _ wsX9_fitting RX9 := ⟨hx, hb, hml, hown, hts⟩
  have hQ : va_P D vwCl [(M 0, mO M ca (nI n) ft kn dy (nI fdn) ak pl iw nm fi nf nk sd ik kc kf kk kd ko hh), (M 27, .inl (cI, 45, .inl w27)), (M 12, .inl (cI, 6, .inl fs)), (M 13, .inl (cI, 6, .inl ff))] s.heap := hQ
  have hl := lv_entry ([.ref (M 0)]) (n := 5) (Nat.le_of_ble_eq_true rfl)
  rw [lg_entry_eq]
  generalize (lg_sl ([.ref (M 0)]) ++ List.replicate (5 - (lg_sl ([.ref (M 0)])).length) Slot.unset).toArray = ls at hl ⊢
  have hl : lv_has ls 5 [(0, .ref (M 0))] := hl
  refine lv_iconst (v := 0) hx hb dX9_fitting_0 (by decide) ?_
  refine lv_istore_n (lv' := [(1, .int 0), (0, .ref (M 0))]) hx hb dX9_fitting_1 rfl hl (by decide) rfl (fun ls hl => ?_)
  refine lv_iconst (v := 0) hx hb dX9_fitting_2 (by decide) ?_
  refine lv_istore_n (lv' := [(2, .int 0), (1, .int 0), (0, .ref (M 0))]) hx hb dX9_fitting_3 rfl hl (by decide) rfl (fun ls hl => ?_)
  refine vz_loopP (nL := 5) (σ := Nat) (fun xx => n + 1 - xx) (fun xx => (xx ≤ n + 1)) (fun xx => [(0, .ref (M 0)), (1, .int (zRw (zOj w27 fs ff fdn) xx)), (2, .int (nI xx))]) (fun xx => []) ?_ 0 (Nat.zero_le _) (lv_sub hl [2, 1, 0] rfl)
  rintro k hI ih_4 ls hl
  have hk := hI
  have hk : k ≤ n + 1 := hk
  have hl : lv_has ls 5 [(0, .ref (M 0)), (1, .int (zRw (zOj w27 fs ff fdn) k)), (2, .int (nI k))] := hl
  show W _ _ _ _ _ _ _ _ _ _ _ _ _ _ _ (F0 m 4 ls [])
  refine lv_iload_n hx hb dX9_fitting_4 rfl (lv_at hl 2 rfl) ?_
  refine lv_aload_n hx hb dX9_fitting_5 rfl (lv_at hl 0 rfl) ?_
  refine va_get (D := D) (cl := vwCl) (tys := zT cI cB cF) (ci := 9) (v := .int (nI n)) (C := RX9) (T := TX9) (N := 41) hx hb hts iw_X9_fitting_X9 hown hK.1 hQ 0 rfl rfl 1 (by decide) (hts _ hw_X9_fitting_1) (fun _ h9 => h9) rfl dX9_fitting_6 ?_
  refine lv_icmp_gt (tgt := 89) hx hb dX9_fitting_9 (by decide) (fun c_9 => ?_) (fun c_9 => ?_)
  · have hke : k = n + 1 := by have := (nI_zlt (a := n) (b := k) (by omega) (by omega)).mp c_9; omega
    refine lv_iload_n hx hb dX9_fitting_89 rfl (lv_at hl 1 rfl) ?_
    refine vz_si (zRw (zOj w27 fs ff fdn) (n + 1)) (by rw [hke]) ?_
    exact W.iret hx hb hr (fun t ht hW => ⟨rfl, ht⟩) (fun q h => by cases h) dX9_fitting_90
  · have hkn9 : k ≤ n := by have := (nI_zle (a := k) (b := n) (by omega) (by omega)).mp (Int32.not_lt.mp c_9); omega
    refine lv_iconst (v := 1) hx hb dX9_fitting_12 (by decide) ?_
    refine lv_istore_n (lv' := [(3, .int 1), (0, .ref (M 0)), (1, .int (zRw (zOj w27 fs ff fdn) k)), (2, .int (nI k))]) hx hb dX9_fitting_13 rfl hl (by decide) rfl (fun ls hl => ?_)
    refine lv_iconst (v := 0) hx hb dX9_fitting_14 (by decide) ?_
    refine lv_istore (lv' := [(4, .int 0), (3, .int 1), (0, .ref (M 0)), (1, .int (zRw (zOj w27 fs ff fdn) k)), (2, .int (nI k))]) hx hb dX9_fitting_15 hl (by decide) rfl (fun ls hl => ?_)
    have hl : lv_has ls 5 [(4, .int 0), (3, .int (zb (zOk (zW9 w27 k) fs ff 0))), (0, .ref (M 0)), (1, .int (zRw (zOj w27 fs ff fdn) k)), (2, .int (nI k))] := by have hz := hl; rw [show (1) = (zb (zOk (zW9 w27 k) fs ff 0)) from rfl] at hz; exact hz
    refine vz_loopP (nL := 5) (σ := Nat) (fun xx => fdn - xx) (fun xx => (xx ≤ fdn)) (fun xx => [(0, .ref (M 0)), (1, .int (zRw (zOj w27 fs ff fdn) k)), (2, .int (nI k)), (3, .int (zb (zOk (zW9 w27 k) fs ff xx))), (4, .int (nI xx))]) (fun xx => []) ?_ 0 (Nat.zero_le _) (lv_sub hl [2, 3, 4, 1, 0] rfl)
    rintro i hI ih_17 ls hl
    have hi := hI
    have hi : i ≤ fdn := hi
    have hl : lv_has ls 5 [(0, .ref (M 0)), (1, .int (zRw (zOj w27 fs ff fdn) k)), (2, .int (nI k)), (3, .int (zb (zOk (zW9 w27 k) fs ff i))), (4, .int (nI i))] := hl
    show W _ _ _ _ _ _ _ _ _ _ _ _ _ _ _ (F0 m 17 ls [])
    refine lv_iload hx hb dX9_fitting_17 (lv_at hl 4 rfl) ?_
    refine lv_aload_n hx hb dX9_fitting_19 rfl (lv_at hl 0 rfl) ?_
    refine va_get (D := D) (cl := vwCl) (tys := zT cI cB cF) (ci := 9) (v := .int (nI fdn)) (C := RX9) (T := TX9) (N := 41) hx hb hts iw_X9_fitting_X9 hown hK.1 hQ 0 rfl rfl 11 (by decide) (hts _ hw_X9_fitting_2) (fun _ h9 => h9) rfl dX9_fitting_20 ?_
    refine lv_icmp_ge (tgt := 69) hx hb dX9_fitting_23 (by decide) (fun c_23 => ?_) (fun c_23 => ?_)
    · have hge_23 : fdn ≤ i := (nI_zle (a := fdn) (b := i) (by omega) (by omega)).mp c_23
      have he3 : i = fdn := by omega
      have hl : lv_has ls 5 [(0, .ref (M 0)), (1, .int (zRw (zOj w27 fs ff fdn) k)), (2, .int (nI k)), (3, .int (zb (zOj w27 fs ff fdn k))), (4, .int (nI i))] := by have hz := hl; rw [show (zb (zOk (zW9 w27 k) fs ff i)) = (zb (zOj w27 fs ff fdn k)) from (by rw [he3]; rfl)] at hz; exact hz
      refine lv_iload_n hx hb dX9_fitting_69 rfl (lv_at hl 1 rfl) ?_
      refine lv_iload_n hx hb dX9_fitting_70 rfl (lv_at hl 3 rfl) ?_
      refine lv_if_eq (tgt := 80) hx hb dX9_fitting_71 (by decide) (fun c_71 => ?_) (fun c_71 => ?_)
      · have b_71 : (zOj w27 fs ff fdn k) = false := zb_f c_71
        have hrw := zRw_f b_71
        refine lv_iconst (v := 0) hx hb dX9_fitting_80 (by decide) ?_
        refine lv_ior hx hb dX9_fitting_81 ?_
        refine vz_si (zRw (zOj w27 fs ff fdn) (k + 1)) (hrw) ?_
        refine lv_istore_n (lv' := [(1, .int (zRw (zOj w27 fs ff fdn) (k + 1))), (0, .ref (M 0)), (2, .int (nI k)), (3, .int (zb (zOj w27 fs ff fdn k))), (4, .int (nI i))]) hx hb dX9_fitting_82 rfl hl (by decide) rfl (fun ls hl => ?_)
        refine lv_iinc (v := (nI (k + 1))) (lv' := [(2, .int (nI (k + 1))), (1, .int (zRw (zOj w27 fs ff fdn) (k + 1))), (0, .ref (M 0)), (3, .int (zb (zOj w27 fs ff fdn k))), (4, .int (nI i))]) hx hb dX9_fitting_83 hl (k := 2) rfl ((nI_succ k).symm) (by decide) rfl (fun ls hl => ?_)
        refine lv_goto (tgt := 4) hx hb dX9_fitting_86 (by decide) ?_
        exact ih_4 (k + 1) (by (try dsimp only); omega) (Nat.succ_le_succ hkn9) ls (lv_sub hl [2, 1, 0] rfl)
      · have b_71 : (zOj w27 fs ff fdn k) = true := zb_t c_71
        have hrw := zRw_t b_71
        refine lv_iconst (v := 1) hx hb dX9_fitting_74 (by decide) ?_
        refine lv_iload_n hx hb dX9_fitting_75 rfl (lv_at hl 2 rfl) ?_
        refine lv_ishl hx hb dX9_fitting_76 ?_
        refine lv_goto (tgt := 81) hx hb dX9_fitting_77 (by decide) ?_
        refine lv_ior hx hb dX9_fitting_81 ?_
        refine vz_si (zRw (zOj w27 fs ff fdn) (k + 1)) (hrw) ?_
        refine lv_istore_n (lv' := [(1, .int (zRw (zOj w27 fs ff fdn) (k + 1))), (0, .ref (M 0)), (2, .int (nI k)), (3, .int (zb (zOj w27 fs ff fdn k))), (4, .int (nI i))]) hx hb dX9_fitting_82 rfl hl (by decide) rfl (fun ls hl => ?_)
        refine lv_iinc (v := (nI (k + 1))) (lv' := [(2, .int (nI (k + 1))), (1, .int (zRw (zOj w27 fs ff fdn) (k + 1))), (0, .ref (M 0)), (3, .int (zb (zOj w27 fs ff fdn k))), (4, .int (nI i))]) hx hb dX9_fitting_83 hl (k := 2) rfl ((nI_succ k).symm) (by decide) rfl (fun ls hl => ?_)
        refine lv_goto (tgt := 4) hx hb dX9_fitting_86 (by decide) ?_
        exact ih_4 (k + 1) (by (try dsimp only); omega) (Nat.succ_le_succ hkn9) ls (lv_sub hl [2, 1, 0] rfl)
    · have hlt_23 : i < fdn := Nat.lt_of_not_le fun q => c_23 ((nI_zle (a := fdn) (b := i) (by omega) (by omega)).mpr q)
      obtain ⟨jf, hjf, ejf⟩ := hfs i hlt_23
      refine lv_iload_n hx hb dX9_fitting_26 rfl (lv_at hl 3 rfl) ?_
      refine lv_if_eq (tgt := 61) hx hb dX9_fitting_27 (by decide) (fun c_27 => ?_) (fun c_27 => ?_)
      · have b_27 : (zOk (zW9 w27 k) fs ff i) = false := zb_f c_27
        have hok : (0 : Int32) = zb (zOk (zW9 w27 k) fs ff (i + 1)) := zOj_0 b_27
        refine lv_iconst (v := 0) hx hb dX9_fitting_61 (by decide) ?_
        refine vz_si (zb (zOk (zW9 w27 k) fs ff (i + 1))) (hok) ?_
        refine lv_istore_n (lv' := [(3, .int (zb (zOk (zW9 w27 k) fs ff (i + 1)))), (0, .ref (M 0)), (1, .int (zRw (zOj w27 fs ff fdn) k)), (2, .int (nI k)), (4, .int (nI i))]) hx hb dX9_fitting_62 rfl hl (by decide) rfl (fun ls hl => ?_)
        refine lv_iinc (v := (nI (i + 1))) (lv' := [(4, .int (nI (i + 1))), (3, .int (zb (zOk (zW9 w27 k) fs ff (i + 1)))), (0, .ref (M 0)), (1, .int (zRw (zOj w27 fs ff fdn) k)), (2, .int (nI k))]) hx hb dX9_fitting_63 hl (k := 4) rfl ((nI_succ i).symm) (by decide) rfl (fun ls hl => ?_)
        refine lv_goto (tgt := 17) hx hb dX9_fitting_66 (by decide) ?_
        exact ih_17 (i + 1) (by (try dsimp only); omega) (hlt_23) ls (lv_sub hl [2, 3, 4, 1, 0] rfl)
      · have b_27 : (zOk (zW9 w27 k) fs ff i) = true := zb_t c_27
        refine lv_aload_n hx hb dX9_fitting_30 rfl (lv_at hl 0 rfl) ?_
        refine va_get (D := D) (cl := vwCl) (tys := zT cI cB cF) (ci := 9) (v := .ref (M 27)) (C := RX9) (T := TX9) (N := 41) hx hb hts iw_X9_fitting_X9 hown hK.1 hQ 0 rfl rfl 27 (by decide) (hts _ hw_X9_fitting_3) (fun _ h9 => h9) rfl dX9_fitting_31 ?_
        refine lv_bipush (v := 9) hx hb dX9_fitting_34 (by decide) ?_
        refine lv_iload_n hx hb dX9_fitting_36 rfl (lv_at hl 2 rfl) ?_
        refine lv_imul hx hb dX9_fitting_37 ?_
        refine vz_si (nI (9 * k)) (pk_mul 9 k) ?_
        refine lv_aload_n hx hb dX9_fitting_38 rfl (lv_at hl 0 rfl) ?_
        refine va_get (D := D) (cl := vwCl) (tys := zT cI cB cF) (ci := 9) (v := .ref (M 12)) (C := RX9) (T := TX9) (N := 41) hx hb hts iw_X9_fitting_X9 hown hK.1 hQ 0 rfl rfl 12 (by decide) (hts _ hw_X9_fitting_4) (fun _ h9 => h9) rfl dX9_fitting_39 ?_
        refine lv_iload hx hb dX9_fitting_42 (lv_at hl 4 rfl) ?_
        refine va_iald (D := D) (cl := vwCl) (tys := zT cI cB cF) (f := fs) hx hb hK.1 hQ 2 0 rfl rfl (vp_in_nI (by omega) (by omega)) dX9_fitting_44 ?_
        refine vz_si (fs i) (by rw [nI_clamp (n := i) (by omega)]) ?_
        refine vz_si (nI jf) (ejf) ?_
        refine lv_iadd hx hb dX9_fitting_45 ?_
        refine vz_si (nI (9 * k + jf)) (nI_add (9 * k) jf) ?_
        refine va_iald (D := D) (cl := vwCl) (tys := zT cI cB cF) (f := w27) hx hb hK.1 hQ 1 0 rfl rfl (vp_in_nI (by omega) (by omega)) dX9_fitting_46 ?_
        refine vz_si (w27 (9 * k + jf)) (by rw [nI_clamp (n := (9 * k + jf)) (by omega)]) ?_
        refine lv_aload_n hx hb dX9_fitting_47 rfl (lv_at hl 0 rfl) ?_
        refine va_get (D := D) (cl := vwCl) (tys := zT cI cB cF) (ci := 9) (v := .ref (M 13)) (C := RX9) (T := TX9) (N := 41) hx hb hts iw_X9_fitting_X9 hown hK.1 hQ 0 rfl rfl 13 (by decide) (hts _ hw_X9_fitting_5) (fun _ h9 => h9) rfl dX9_fitting_48 ?_
        refine lv_iload hx hb dX9_fitting_51 (lv_at hl 4 rfl) ?_
        refine va_iald (D := D) (cl := vwCl) (tys := zT cI cB cF) (f := ff) hx hb hK.1 hQ 3 0 rfl rfl (vp_in_nI (by omega) (by omega)) dX9_fitting_53 ?_
        refine vz_si (ff i) (by rw [nI_clamp (n := i) (by omega)]) ?_
        refine lv_icmp_ne (tgt := 61) hx hb dX9_fitting_54 (by decide) (fun c_54 => ?_) (fun c_54 => ?_)
        · have hok : (0 : Int32) = zb (zOk (zW9 w27 k) fs ff (i + 1)) := zOj_f ejf hjf c_54
          refine lv_iconst (v := 0) hx hb dX9_fitting_61 (by decide) ?_
          refine vz_si (zb (zOk (zW9 w27 k) fs ff (i + 1))) (hok) ?_
          refine lv_istore_n (lv' := [(3, .int (zb (zOk (zW9 w27 k) fs ff (i + 1)))), (0, .ref (M 0)), (1, .int (zRw (zOj w27 fs ff fdn) k)), (2, .int (nI k)), (4, .int (nI i))]) hx hb dX9_fitting_62 rfl hl (by decide) rfl (fun ls hl => ?_)
          refine lv_iinc (v := (nI (i + 1))) (lv' := [(4, .int (nI (i + 1))), (3, .int (zb (zOk (zW9 w27 k) fs ff (i + 1)))), (0, .ref (M 0)), (1, .int (zRw (zOj w27 fs ff fdn) k)), (2, .int (nI k))]) hx hb dX9_fitting_63 hl (k := 4) rfl ((nI_succ i).symm) (by decide) rfl (fun ls hl => ?_)
          refine lv_goto (tgt := 17) hx hb dX9_fitting_66 (by decide) ?_
          exact ih_17 (i + 1) (by (try dsimp only); omega) (hlt_23) ls (lv_sub hl [2, 3, 4, 1, 0] rfl)
        · have hok : (1 : Int32) = zb (zOk (zW9 w27 k) fs ff (i + 1)) := zOj_t b_27 ejf hjf c_54
          refine lv_iconst (v := 1) hx hb dX9_fitting_57 (by decide) ?_
          refine lv_goto (tgt := 62) hx hb dX9_fitting_58 (by decide) ?_
          refine vz_si (zb (zOk (zW9 w27 k) fs ff (i + 1))) (hok) ?_
          refine lv_istore_n (lv' := [(3, .int (zb (zOk (zW9 w27 k) fs ff (i + 1)))), (0, .ref (M 0)), (1, .int (zRw (zOj w27 fs ff fdn) k)), (2, .int (nI k)), (4, .int (nI i))]) hx hb dX9_fitting_62 rfl hl (by decide) rfl (fun ls hl => ?_)
          refine lv_iinc (v := (nI (i + 1))) (lv' := [(4, .int (nI (i + 1))), (3, .int (zb (zOk (zW9 w27 k) fs ff (i + 1)))), (0, .ref (M 0)), (1, .int (zRw (zOj w27 fs ff fdn) k)), (2, .int (nI k))]) hx hb dX9_fitting_63 hl (k := 4) rfl ((nI_succ i).symm) (by decide) rfl (fun ls hl => ?_)
          refine lv_goto (tgt := 17) hx hb dX9_fitting_66 (by decide) ?_
          exact ih_17 (i + 1) (by (try dsimp only); omega) (hlt_23) ls (lv_sub hl [2, 3, 4, 1, 0] rfl)
set_option maxRecDepth 100000 in
theorem iw_X9_whoIn_X9 : ∀ w ∈ u_ws RX9 TX9 41, w ∈ wsX9_whoIn := fun w h => List.mem_cons_of_mem _ (List.mem_append_right _ h)
set_option maxRecDepth 100000 in
theorem hw_X9_whoIn_1 : (.fieldLink RX9 100 "RotaFathersModel" "fathers" "I" : Cond) ∈ wsX9_whoIn := List.mem_of_getElem? (i := 1) rfl
set_option maxRecDepth 100000 in
theorem hd_X9_whoIn : yX9_whoIn.cls ≠ "java/lang/invoke/MethodHandle" ∧ yX9_whoIn.cls ≠ "java/lang/invoke/VarHandle" ∧ (parseMethodDescriptor yX9_whoIn.desc).map (fun d => d.parameters.length) = some 1 := by decide +kernel
set_option maxHeartbeats 4000000 in
set_option maxRecDepth 100000 in
theorem c_X9_whoIn (l : Launch) (D : va_G) (cI cB cF : ClassId) (sz : Nat) (M : Nat → Nat) (ca : Int32) (ft : Int32) (kn : Int32) (dy : Int32) (ak : Int32) (pl : Int32) (iw : Int32) (nm : Int32) (fi : Int32) (nf : Int32) (nk : Int32) (sd : Int64) (ik : Int32) (kc : Int32) (kf : Int32) (kk : Int32) (kd : Int32) (ko : Int32) (hh : Int64) (g1 : Nat → Int32) (g2 : Nat → Int32) (ga : Nat → Int32) (fb : Nat → Int32) (F : zF) (r : Nat → Int32) (n : Nat) (fdn : Nat) (fs : Nat → Int32) (ff : Nat → Int32) (u27 : Nat → Int32) (s1 : Nat) (hn : n ≤ 4) (hF : zFo n F) (hro : zRo n r) (hkn : zKb kn) (hfd : fdn ≤ 6) (hfs : ∀ i, i < fdn → ∃ j, j < 9 ∧ fs i = nI j) (hs : s1 < 8) : Met l yX9_whoIn wsX9_whoIn ({ frames := 5, cells := 0, slots := 0, locals := 113 } : Room) (PcW D cI cB cF [.ref (M 0), .int (nI s1)] sz [(M 0, mO M ca (nI n) ft kn dy (nI fdn) ak pl iw nm fi nf nk sd ik kc kf kk kd ko hh), (M 19, .inl (cI, 9, .inl g1)), (M 20, .inl (cI, 8, .inl g2)), (M 21, .inl (cI, 4, .inl ga)), (M 22, .inl (cI, 4, .inl fb)), (M 7, .inl (cI, 8, .inl r)), (M 27, .inl (cI, 45, .inl u27))] [(M 2, .inl (cI, 4, .inl (fun f => nI (F.1 f)))), (M 3, .inl (cI, 4, .inl F.2.1)), (M 4, .inl (cI, 4, .inl F.2.2)), (M 12, .inl (cI, 6, .inl fs)), (M 13, .inl (cI, 6, .inl ff))]) (Qw D (S := Int32 × Int32 × Int32 × (Nat → Int32) × (Nat → Int32) × (Nat → Int32) × (Nat → Int32) × (Nat → Int32)) (fun xx => some (.int (zWb (zOkR F r s1 ft kn fs ff fdn) (n + 1)))) (fun xx => True) (fun xx => [(M 0, mO M ca (nI n) ft kn dy (nI fdn) ak pl iw nm xx.1 xx.2.1 xx.2.2.1 sd ik kc kf kk kd ko hh), (M 19, .inl (cI, 9, .inl xx.2.2.2.1)), (M 20, .inl (cI, 8, .inl xx.2.2.2.2.1)), (M 21, .inl (cI, 4, .inl xx.2.2.2.2.2.1)), (M 22, .inl (cI, 4, .inl xx.2.2.2.2.2.2.1)), (M 7, .inl (cI, 8, .inl r)), (M 27, .inl (cI, 45, .inl xx.2.2.2.2.2.2.2))]) (va_A [(M 0, mO M ca (nI n) ft kn dy (nI fdn) ak pl iw nm fi nf nk sd ik kc kf kk kd ko hh), (M 19, .inl (cI, 9, .inl g1)), (M 20, .inl (cI, 8, .inl g2)), (M 21, .inl (cI, 4, .inl ga)), (M 22, .inl (cI, 4, .inl fb)), (M 7, .inl (cI, 8, .inl r)), (M 27, .inl (cI, 45, .inl u27))] sz)) 0 0 (va_A [(M 0, mO M ca (nI n) ft kn dy (nI fdn) ak pl iw nm fi nf nk sd ik kc kf kk kd ko hh), (M 19, .inl (cI, 9, .inl g1)), (M 20, .inl (cI, 8, .inl g2)), (M 21, .inl (cI, 4, .inl ga)), (M 22, .inl (cI, 4, .inl fb)), (M 7, .inl (cI, 8, .inl r)), (M 27, .inl (cI, 45, .inl u27))] sz) := by
  refine Met.ofW (cc := cX9_whoIn) (maxL := 4) (ret := (some .int)) (by decide) rfl ?_
  intro p e s m args below meth c s₁ Bd hml hv
  rw [show (headSpec wsX9_whoIn ({ frames := 5, cells := 0, slots := 0, locals := 113 } : Room)).room = ({ frames := 5, cells := 0, slots := 0, locals := 113 } : Room) from rfl]
  obtain ⟨rfl, hsz, hP, hK, hD0, hR⟩ := hv
  have hx := Bd.exec
  have hb := Bd.bytes
  have hr := Bd.returns
  have hts := atoms_spec (ws := wsX9_whoIn) Bd.pre
  have hown : s.vm.findClass RX9 = some m.cls := findClass_of_methodNamed Bd.named
  have hlocks := Bd.notSynchronized
  have FX : CallFix p m c cX9_whoIn 4 s _ wsX9_whoIn RX9 := ⟨hx, hb, hml, hown, hts⟩
  subst hsz
  have hD := hD0.self (sz := s.heap.size)
  generalize hAe : va_A [(M 0, mO M ca (nI n) ft kn dy (nI fdn) ak pl iw nm fi nf nk sd ik kc kf kk kd ko hh), (M 19, .inl (cI, 9, .inl g1)), (M 20, .inl (cI, 8, .inl g2)), (M 21, .inl (cI, 4, .inl ga)), (M 22, .inl (cI, 4, .inl fb)), (M 7, .inl (cI, 8, .inl r)), (M 27, .inl (cI, 45, .inl u27))] s.heap.size = A at hD hR ⊢
  have hA : ∀ q : Nat, s.heap.size ≤ q → A q := fun q h => by rw [← hAe]; exact Or.inr h
  have hS : va_S A s.heap s.heap [] := va_S.rf
  have hP : va_P D vwCl [(M 0, mO M ca (nI n) ft kn dy (nI fdn) ak pl iw nm fi nf nk sd ik kc kf kk kd ko hh), (M 19, .inl (cI, 9, .inl g1)), (M 20, .inl (cI, 8, .inl g2)), (M 21, .inl (cI, 4, .inl ga)), (M 22, .inl (cI, 4, .inl fb)), (M 7, .inl (cI, 8, .inl r)), (M 27, .inl (cI, 45, .inl u27))] s.heap := hP
  have hQ : va_P D vwCl ([(M 0, mO M ca (nI n) ft kn dy (nI fdn) ak pl iw nm fi nf nk sd ik kc kf kk kd ko hh), (M 19, .inl (cI, 9, .inl g1)), (M 20, .inl (cI, 8, .inl g2)), (M 21, .inl (cI, 4, .inl ga)), (M 22, .inl (cI, 4, .inl fb)), (M 7, .inl (cI, 8, .inl r)), (M 27, .inl (cI, 45, .inl u27))] ++ [(M 2, .inl (cI, 4, .inl (fun f => nI (F.1 f)))), (M 3, .inl (cI, 4, .inl F.2.1)), (M 4, .inl (cI, 4, .inl F.2.2)), (M 12, .inl (cI, 6, .inl fs)), (M 13, .inl (cI, 6, .inl ff))]) s.heap := va_P.app hP (hR.at hS).P
  have hl := lv_entry ([.ref (M 0), .int (nI s1)]) (n := 4) (Nat.le_of_ble_eq_true rfl)
  rw [lg_entry_eq]
  generalize (lg_sl ([.ref (M 0), .int (nI s1)]) ++ List.replicate (4 - (lg_sl ([.ref (M 0), .int (nI s1)])).length) Slot.unset).toArray = ls at hl ⊢
  have hl : lv_has ls 4 [(0, .ref (M 0)), (1, .int (nI s1))] := hl
  refine lv_aload_n hx hb dX9_whoIn_0 rfl (lv_at hl 0 rfl) ?_
  refine lv_iload_n hx hb dX9_whoIn_1 rfl (lv_at hl 1 rfl) ?_
  have hFc := va_free (wc := [(M 0, mO M ca (nI n) ft kn dy (nI fdn) ak pl iw nm fi nf nk sd ik kc kf kk kd ko hh), (M 19, .inl (cI, 9, .inl g1)), (M 20, .inl (cI, 8, .inl g2)), (M 21, .inl (cI, 4, .inl ga)), (M 22, .inl (cI, 4, .inl fb)), (M 7, .inl (cI, 8, .inl r)), (M 27, .inl (cI, 45, .inl u27))]) hD hS hA [0, 1, 2, 3, 4, 5, 6] rfl
  refine vz_cw [] [0, 1, 2, 3, 4, 5, 6] [] (va_runV (As := [.int (nI s1)]) (rest := []) FX (c_X9_layWho l D cI cB cF s.heap.size M ca ft kn dy (nI fdn) ak pl iw nm fi nf nk sd ik kc kf kk kd ko hh g1 g2 ga fb F r n u27 s1 (by first | assumption | omega | decide) (by first | assumption | omega | decide) (by first | assumption | omega | decide) (by first | assumption | omega | decide) (by first | assumption | omega | decide)) (cwV 1 hts gX9_whoIn_X9_layWho rfl rfl rfl ⟨rfl, hd_X9_layWho⟩ ⟨Nat.le_of_ble_eq_true rfl, Nat.le_of_ble_eq_true rfl⟩) (preW_V hQ 0 rfl rfl (hP.sub (ws' := [(M 0, mO M ca (nI n) ft kn dy (nI fdn) ak pl iw nm fi nf nk sd ik kc kf kk kd ko hh), (M 19, .inl (cI, 9, .inl g1)), (M 20, .inl (cI, 8, .inl g2)), (M 21, .inl (cI, 4, .inl ga)), (M 22, .inl (cI, 4, .inl fb)), (M 7, .inl (cI, 8, .inl r)), (M 27, .inl (cI, 45, .inl u27))]) [0, 1, 2, 3, 4, 5, 6] rfl) (hD.sub (ws' := [(M 0, mO M ca (nI n) ft kn dy (nI fdn) ak pl iw nm fi nf nk sd ik kc kf kk kd ko hh), (M 19, .inl (cI, 9, .inl g1)), (M 20, .inl (cI, 8, .inl g2)), (M 21, .inl (cI, 4, .inl ga)), (M 22, .inl (cI, 4, .inl fb)), (M 7, .inl (cI, 8, .inl r)), (M 27, .inl (cI, 45, .inl u27))]) [0, 1, 2, 3, 4, 5, 6] (by decide) rfl) hK (show vz_R D [(M 2, .inl (cI, 4, .inl (fun f => nI (F.1 f)))), (M 3, .inl (cI, 4, .inl F.2.1)), (M 4, .inl (cI, 4, .inl F.2.2))] _ _ from (vz_R.cons ((hR.at hS).one hFc (List.mem_of_getElem? (i := 0) rfl)) (vz_R.cons ((hR.at hS).one hFc (List.mem_of_getElem? (i := 1) rfl)) (vz_R.cons ((hR.at hS).one hFc (List.mem_of_getElem? (i := 2) rfl)) vz_R.nil))))) rfl rfl hl.1 rfl (lv_room (Nat.le_of_ble_eq_true rfl)) dX9_whoIn_2 ⟨Nat.le_of_ble_eq_true rfl, Nat.le_of_ble_eq_true rfl⟩) hP hD hS hA rfl rfl rfl (by decide) (fun u H locs hu hP hD hS hz9 hk9 => ?_)
  obtain ⟨z1_2_1, z2_2_1, z3_2_1, z4_2_1, z5_2_1, z6_2_1, z7_2_1, z8_2_1⟩ := u
  have hu_2 : ∀ j, j < 9 * (n + 1) → z8_2_1 j = zFt F r s1 n ft kn j := hu
  have hP : va_P D vwCl [(M 0, mO M ca (nI n) ft kn dy (nI fdn) ak pl iw nm z1_2_1 z2_2_1 z3_2_1 sd ik kc kf kk kd ko hh), (M 19, .inl (cI, 9, .inl z4_2_1)), (M 20, .inl (cI, 8, .inl z5_2_1)), (M 21, .inl (cI, 4, .inl z6_2_1)), (M 22, .inl (cI, 4, .inl z7_2_1)), (M 7, .inl (cI, 8, .inl r)), (M 27, .inl (cI, 45, .inl z8_2_1))] H := hP
  have hD : va_D A [(M 0, mO M ca (nI n) ft kn dy (nI fdn) ak pl iw nm z1_2_1 z2_2_1 z3_2_1 sd ik kc kf kk kd ko hh), (M 19, .inl (cI, 9, .inl z4_2_1)), (M 20, .inl (cI, 8, .inl z5_2_1)), (M 21, .inl (cI, 4, .inl z6_2_1)), (M 22, .inl (cI, 4, .inl z7_2_1)), (M 7, .inl (cI, 8, .inl r)), (M 27, .inl (cI, 45, .inl z8_2_1))] := hD
  have hQ : va_P D vwCl ([(M 0, mO M ca (nI n) ft kn dy (nI fdn) ak pl iw nm z1_2_1 z2_2_1 z3_2_1 sd ik kc kf kk kd ko hh), (M 19, .inl (cI, 9, .inl z4_2_1)), (M 20, .inl (cI, 8, .inl z5_2_1)), (M 21, .inl (cI, 4, .inl z6_2_1)), (M 22, .inl (cI, 4, .inl z7_2_1)), (M 7, .inl (cI, 8, .inl r)), (M 27, .inl (cI, 45, .inl z8_2_1))] ++ [(M 2, .inl (cI, 4, .inl (fun f => nI (F.1 f)))), (M 3, .inl (cI, 4, .inl F.2.1)), (M 4, .inl (cI, 4, .inl F.2.2)), (M 12, .inl (cI, 6, .inl fs)), (M 13, .inl (cI, 6, .inl ff))]) H := va_P.app hP (hR.at hS).P
  show W _ _ _ _ _ _ _ _ _ _ _ _ _ _ _ (F0 m 5 ls [])
  refine lv_aload_n hx hb dX9_whoIn_5 rfl (lv_at hl 0 rfl) ?_
  refine vz_rd (va_runV (As := []) (rest := []) FX (c_X9_fitting l D cI cB cF M ca ft kn dy ak pl iw nm z1_2_1 z2_2_1 z3_2_1 sd ik kc kf kk kd ko hh n z8_2_1 fdn fs ff (by first | assumption | omega | decide) (by first | assumption | omega | decide) (by first | assumption | omega | decide)) (cwV 0 hts gX9_whoIn_X9_fitting rfl rfl rfl ⟨rfl, hd_X9_fitting⟩ ⟨Nat.le_of_ble_eq_true rfl, Nat.le_of_ble_eq_true rfl⟩) (preP_V hQ 0 rfl rfl (hQ.sub (ws' := [(M 0, mO M ca (nI n) ft kn dy (nI fdn) ak pl iw nm z1_2_1 z2_2_1 z3_2_1 sd ik kc kf kk kd ko hh), (M 27, .inl (cI, 45, .inl z8_2_1)), (M 12, .inl (cI, 6, .inl fs)), (M 13, .inl (cI, 6, .inl ff))]) [0, 6, 10, 11] rfl) hK) rfl rfl hl.1 rfl (lv_room (Nat.le_of_ble_eq_true rfl)) dX9_whoIn_6 ⟨Nat.le_of_ble_eq_true rfl, Nat.le_of_ble_eq_true rfl⟩) ?_
  refine lv_istore_n (lv' := [(2, .int (zRw (zOj z8_2_1 fs ff fdn) (n + 1))), (0, .ref (M 0)), (1, .int (nI s1))]) hx hb dX9_whoIn_9 rfl hl (by decide) rfl (fun ls hl => ?_)
  refine lv_iload_n hx hb dX9_whoIn_10 rfl (lv_at hl 0 rfl) ?_
  refine lv_iconst (v := 1) hx hb dX9_whoIn_11 (by decide) ?_
  refine lv_aload_n hx hb dX9_whoIn_12 rfl (lv_at hl 1 rfl) ?_
  refine va_get (D := D) (cl := vwCl) (tys := zT cI cB cF) (ci := 9) (v := .int (nI n)) (C := RX9) (T := TX9) (N := 41) hx hb hts iw_X9_whoIn_X9 hown hK.1 hQ 0 rfl rfl 1 (by decide) (hts _ hw_X9_whoIn_1) (fun _ h9 => h9) rfl dX9_whoIn_13 ?_
  refine lv_ishl hx hb dX9_whoIn_16 ?_
  refine lv_iconst (v := 1) hx hb dX9_whoIn_17 (by decide) ?_
  refine lv_isub hx hb dX9_whoIn_18 ?_
  refine lv_iand hx hb dX9_whoIn_19 ?_
  refine lv_istore_n (lv' := [(3, .int ((zRw (zOj z8_2_1 fs ff fdn) (n + 1)) &&& ((1 <<< ((nI n) &&& 31)) - 1))), (2, .int (zRw (zOj z8_2_1 fs ff fdn) (n + 1))), (0, .ref (M 0)), (1, .int (nI s1))]) hx hb dX9_whoIn_20 rfl hl (by decide) rfl (fun ls hl => ?_)
  refine lv_iload_n hx hb dX9_whoIn_21 rfl (lv_at hl 1 rfl) ?_
  refine lv_aload_n hx hb dX9_whoIn_22 rfl (lv_at hl 2 rfl) ?_
  refine va_get (D := D) (cl := vwCl) (tys := zT cI cB cF) (ci := 9) (v := .int (nI n)) (C := RX9) (T := TX9) (N := 41) hx hb hts iw_X9_whoIn_X9 hown hK.1 hQ 0 rfl rfl 1 (by decide) (hts _ hw_X9_whoIn_1) (fun _ h9 => h9) rfl dX9_whoIn_23 ?_
  refine vz_rd (va_runS (As := [.int (zRw (zOj z8_2_1 fs ff fdn) (n + 1)), .int (nI n)]) (rest := []) FX (c_X9_isIn l D cI cB cF (zRw (zOj z8_2_1 fs ff fdn) (n + 1)) (nI n) ) (va_cwS 2 hts gX9_whoIn_X9_isIn rfl rfl rfl hd_X9_isIn ⟨Nat.le_of_ble_eq_true rfl, Nat.le_of_ble_eq_true rfl⟩) (preP_S (hQ.sub (ws' := []) [] rfl) hK) rfl rfl hl.1 rfl (lv_room (Nat.le_of_ble_eq_true rfl)) dX9_whoIn_26 ⟨Nat.le_of_ble_eq_true rfl, Nat.le_of_ble_eq_true rfl⟩) ?_
  refine lv_if_eq (tgt := 39) hx hb dX9_whoIn_29 (by decide) (fun c_29 => ?_) (fun c_29 => ?_)
  · have b_29 : (zIi (zRw (zOj z8_2_1 fs ff fdn) (n + 1)) (nI n)) = false := zb_f c_29
    refine lv_iload_n hx hb dX9_whoIn_39 rfl (lv_at hl 0 rfl) ?_
    refine vz_si (zWb (zOkR F r s1 ft kn fs ff fdn) (n + 1)) (by rw [← zRw_w hn (a := (zOj z8_2_1 fs ff fdn)) (ok := (zOkR F r s1 ft kn fs ff fdn)) (fun k hk => zOj_e hu_2 hfs hk), if_neg (by rw [b_29]; decide)]) ?_
    have hP9 := hP.sub (ws' := [(M 0, mO M ca (nI n) ft kn dy (nI fdn) ak pl iw nm z1_2_1 z2_2_1 z3_2_1 sd ik kc kf kk kd ko hh), (M 19, .inl (cI, 9, .inl z4_2_1)), (M 20, .inl (cI, 8, .inl z5_2_1)), (M 21, .inl (cI, 4, .inl z6_2_1)), (M 22, .inl (cI, 4, .inl z7_2_1)), (M 7, .inl (cI, 8, .inl r)), (M 27, .inl (cI, 45, .inl z8_2_1))]) [0, 1, 2, 3, 4, 5, 6] rfl
    have hD9 := hD.sub (ws' := [(M 0, mO M ca (nI n) ft kn dy (nI fdn) ak pl iw nm z1_2_1 z2_2_1 z3_2_1 sd ik kc kf kk kd ko hh), (M 19, .inl (cI, 9, .inl z4_2_1)), (M 20, .inl (cI, 8, .inl z5_2_1)), (M 21, .inl (cI, 4, .inl z6_2_1)), (M 22, .inl (cI, 4, .inl z7_2_1)), (M 7, .inl (cI, 8, .inl r)), (M 27, .inl (cI, 45, .inl z8_2_1))]) [0, 1, 2, 3, 4, 5, 6] (by decide) rfl
    exact W.iret hx hb hr (fun t ht hW => ⟨⟨(z1_2_1, z2_2_1, z3_2_1, z4_2_1, z5_2_1, z6_2_1, z7_2_1, z8_2_1), rfl, trivial, by rw [ht]; exact hP9, hD9⟩, hS.F ht⟩) hS.2.2 dX9_whoIn_40
  · have b_29 : (zIi (zRw (zOj z8_2_1 fs ff fdn) (n + 1)) (nI n)) = true := zb_t c_29
    refine lv_iload_n hx hb dX9_whoIn_32 rfl (lv_at hl 0 rfl) ?_
    refine lv_bipush (v := 16) hx hb dX9_whoIn_33 (by decide) ?_
    refine lv_ior hx hb dX9_whoIn_35 ?_
    refine lv_goto (tgt := 40) hx hb dX9_whoIn_36 (by decide) ?_
    refine vz_si (zWb (zOkR F r s1 ft kn fs ff fdn) (n + 1)) (by rw [← zRw_w hn (a := (zOj z8_2_1 fs ff fdn)) (ok := (zOkR F r s1 ft kn fs ff fdn)) (fun k hk => zOj_e hu_2 hfs hk), if_pos b_29]) ?_
    have hP9 := hP.sub (ws' := [(M 0, mO M ca (nI n) ft kn dy (nI fdn) ak pl iw nm z1_2_1 z2_2_1 z3_2_1 sd ik kc kf kk kd ko hh), (M 19, .inl (cI, 9, .inl z4_2_1)), (M 20, .inl (cI, 8, .inl z5_2_1)), (M 21, .inl (cI, 4, .inl z6_2_1)), (M 22, .inl (cI, 4, .inl z7_2_1)), (M 7, .inl (cI, 8, .inl r)), (M 27, .inl (cI, 45, .inl z8_2_1))]) [0, 1, 2, 3, 4, 5, 6] rfl
    have hD9 := hD.sub (ws' := [(M 0, mO M ca (nI n) ft kn dy (nI fdn) ak pl iw nm z1_2_1 z2_2_1 z3_2_1 sd ik kc kf kk kd ko hh), (M 19, .inl (cI, 9, .inl z4_2_1)), (M 20, .inl (cI, 8, .inl z5_2_1)), (M 21, .inl (cI, 4, .inl z6_2_1)), (M 22, .inl (cI, 4, .inl z7_2_1)), (M 7, .inl (cI, 8, .inl r)), (M 27, .inl (cI, 45, .inl z8_2_1))]) [0, 1, 2, 3, 4, 5, 6] (by decide) rfl
    exact W.iret hx hb hr (fun t ht hW => ⟨⟨(z1_2_1, z2_2_1, z3_2_1, z4_2_1, z5_2_1, z6_2_1, z7_2_1, z8_2_1), rfl, trivial, by rw [ht]; exact hP9, hD9⟩, hS.F ht⟩) hS.2.2 dX9_whoIn_40
set_option maxRecDepth 100000 in
theorem hw_X9_lookFor_1 : (.constant RX9 199 (268435456) : Cond) ∈ wsX9_lookFor := List.mem_of_getElem? (i := 1) rfl
set_option maxRecDepth 100000 in
theorem iw_X9_lookFor_X9 : ∀ w ∈ u_ws RX9 TX9 41, w ∈ wsX9_lookFor := fun w h => List.mem_cons_of_mem _ (List.mem_append_right _ h)
set_option maxRecDepth 100000 in
theorem hw_X9_lookFor_2 : (.fieldLink RX9 100 "RotaFathersModel" "fathers" "I" : Cond) ∈ wsX9_lookFor := List.mem_of_getElem? (i := 2) rfl
set_option maxRecDepth 100000 in
theorem hw_X9_lookFor_3 : (.fieldLink RX9 53 "RotaFathersModel" "fitBy" "[I" : Cond) ∈ wsX9_lookFor := List.mem_of_getElem? (i := 3) rfl
set_option maxRecDepth 100000 in
theorem hd_X9_lookFor : yX9_lookFor.cls ≠ "java/lang/invoke/MethodHandle" ∧ yX9_lookFor.cls ≠ "java/lang/invoke/VarHandle" ∧ (parseMethodDescriptor yX9_lookFor.desc).map (fun d => d.parameters.length) = some 1 := by decide +kernel
set_option maxHeartbeats 4000000 in
set_option maxRecDepth 100000 in
theorem c_X9_lookFor (l : Launch) (D : va_G) (cI cB cF : ClassId) (sz : Nat) (M : Nat → Nat) (ca : Int32) (ft : Int32) (kn : Int32) (dy : Int32) (ak : Int32) (pl : Int32) (iw : Int32) (nm : Int32) (fi : Int32) (nf : Int32) (nk : Int32) (sd : Int64) (ik : Int32) (kc : Int32) (kf : Int32) (kk : Int32) (kd : Int32) (ko : Int32) (hh : Int64) (g1 : Nat → Int32) (g2 : Nat → Int32) (ga : Nat → Int32) (fb : Nat → Int32) (F : zF) (r : Nat → Int32) (n : Nat) (fdn : Nat) (fs : Nat → Int32) (ff : Nat → Int32) (u27 : Nat → Int32) (s1 : Nat) (hn : n ≤ 4) (hF : zFo n F) (hro : zRo n r) (hkn : zKb kn) (hfd : fdn ≤ 6) (hfs : ∀ i, i < fdn → ∃ j, j < 9 ∧ fs i = nI j) (hs : s1 < 8) (hft : ∃ j, j ≤ 9 ∧ ft = nI j) : Met l yX9_lookFor wsX9_lookFor ({ frames := 5, cells := 0, slots := 0, locals := 113 } : Room) (PcW D cI cB cF [.ref (M 0), .int (nI s1)] sz [(M 0, mO M ca (nI n) ft kn dy (nI fdn) ak pl iw nm fi nf nk sd ik kc kf kk kd ko hh), (M 19, .inl (cI, 9, .inl g1)), (M 20, .inl (cI, 8, .inl g2)), (M 21, .inl (cI, 4, .inl ga)), (M 22, .inl (cI, 4, .inl fb)), (M 7, .inl (cI, 8, .inl r)), (M 27, .inl (cI, 45, .inl u27))] [(M 2, .inl (cI, 4, .inl (fun f => nI (F.1 f)))), (M 3, .inl (cI, 4, .inl F.2.1)), (M 4, .inl (cI, 4, .inl F.2.2)), (M 12, .inl (cI, 6, .inl fs)), (M 13, .inl (cI, 6, .inl ff))]) (Qw D (S := Int32 × Int32 × Int32 × (Nat → Int32) × (Nat → Int32) × (Nat → Int32) × (Nat → Int32) × (Nat → Int32)) (fun xx => some (.int (zLk F r n s1 ft kn fs ff fdn))) (fun xx => True) (fun xx => [(M 0, mO M ca (nI n) ft kn dy (nI fdn) ak pl iw nm xx.1 xx.2.1 xx.2.2.1 sd ik kc kf kk kd ko hh), (M 19, .inl (cI, 9, .inl xx.2.2.2.1)), (M 20, .inl (cI, 8, .inl xx.2.2.2.2.1)), (M 21, .inl (cI, 4, .inl xx.2.2.2.2.2.1)), (M 22, .inl (cI, 4, .inl xx.2.2.2.2.2.2.1)), (M 7, .inl (cI, 8, .inl r)), (M 27, .inl (cI, 45, .inl xx.2.2.2.2.2.2.2))]) (va_A [(M 0, mO M ca (nI n) ft kn dy (nI fdn) ak pl iw nm fi nf nk sd ik kc kf kk kd ko hh), (M 19, .inl (cI, 9, .inl g1)), (M 20, .inl (cI, 8, .inl g2)), (M 21, .inl (cI, 4, .inl ga)), (M 22, .inl (cI, 4, .inl fb)), (M 7, .inl (cI, 8, .inl r)), (M 27, .inl (cI, 45, .inl u27))] sz)) 0 0 (va_A [(M 0, mO M ca (nI n) ft kn dy (nI fdn) ak pl iw nm fi nf nk sd ik kc kf kk kd ko hh), (M 19, .inl (cI, 9, .inl g1)), (M 20, .inl (cI, 8, .inl g2)), (M 21, .inl (cI, 4, .inl ga)), (M 22, .inl (cI, 4, .inl fb)), (M 7, .inl (cI, 8, .inl r)), (M 27, .inl (cI, 45, .inl u27))] sz) := by
  refine Met.ofW (cc := cX9_lookFor) (maxL := 10) (ret := (some .int)) (by decide) rfl ?_
  intro p e s m args below meth c s₁ Bd hml hv
  rw [show (headSpec wsX9_lookFor ({ frames := 5, cells := 0, slots := 0, locals := 113 } : Room)).room = ({ frames := 5, cells := 0, slots := 0, locals := 113 } : Room) from rfl]
  obtain ⟨rfl, hsz, hP, hK, hD0, hR⟩ := hv
  have hx := Bd.exec
  have hb := Bd.bytes
  have hr := Bd.returns
  have hts := atoms_spec (ws := wsX9_lookFor) Bd.pre
  have hown : s.vm.findClass RX9 = some m.cls := findClass_of_methodNamed Bd.named
  have hlocks := Bd.notSynchronized
  have FX : CallFix p m c cX9_lookFor 10 s _ wsX9_lookFor RX9 := ⟨hx, hb, hml, hown, hts⟩
  subst hsz
  have hD := hD0.self (sz := s.heap.size)
  generalize hAe : va_A [(M 0, mO M ca (nI n) ft kn dy (nI fdn) ak pl iw nm fi nf nk sd ik kc kf kk kd ko hh), (M 19, .inl (cI, 9, .inl g1)), (M 20, .inl (cI, 8, .inl g2)), (M 21, .inl (cI, 4, .inl ga)), (M 22, .inl (cI, 4, .inl fb)), (M 7, .inl (cI, 8, .inl r)), (M 27, .inl (cI, 45, .inl u27))] s.heap.size = A at hD hR ⊢
  have hA : ∀ q : Nat, s.heap.size ≤ q → A q := fun q h => by rw [← hAe]; exact Or.inr h
  have hS : va_S A s.heap s.heap [] := va_S.rf
  have hP : va_P D vwCl [(M 0, mO M ca (nI n) ft kn dy (nI fdn) ak pl iw nm fi nf nk sd ik kc kf kk kd ko hh), (M 19, .inl (cI, 9, .inl g1)), (M 20, .inl (cI, 8, .inl g2)), (M 21, .inl (cI, 4, .inl ga)), (M 22, .inl (cI, 4, .inl fb)), (M 7, .inl (cI, 8, .inl r)), (M 27, .inl (cI, 45, .inl u27))] s.heap := hP
  have hQ : va_P D vwCl ([(M 0, mO M ca (nI n) ft kn dy (nI fdn) ak pl iw nm fi nf nk sd ik kc kf kk kd ko hh), (M 19, .inl (cI, 9, .inl g1)), (M 20, .inl (cI, 8, .inl g2)), (M 21, .inl (cI, 4, .inl ga)), (M 22, .inl (cI, 4, .inl fb)), (M 7, .inl (cI, 8, .inl r)), (M 27, .inl (cI, 45, .inl u27))] ++ [(M 2, .inl (cI, 4, .inl (fun f => nI (F.1 f)))), (M 3, .inl (cI, 4, .inl F.2.1)), (M 4, .inl (cI, 4, .inl F.2.2)), (M 12, .inl (cI, 6, .inl fs)), (M 13, .inl (cI, 6, .inl ff))]) s.heap := va_P.app hP (hR.at hS).P
  have hl := lv_entry ([.ref (M 0), .int (nI s1)]) (n := 10) (Nat.le_of_ble_eq_true rfl)
  rw [lg_entry_eq]
  generalize (lg_sl ([.ref (M 0), .int (nI s1)]) ++ List.replicate (10 - (lg_sl ([.ref (M 0), .int (nI s1)])).length) Slot.unset).toArray = ls at hl ⊢
  have hl : lv_has ls 10 [(0, .ref (M 0)), (1, .int (nI s1))] := hl
  refine lv_aload_n hx hb dX9_lookFor_0 rfl (lv_at hl 0 rfl) ?_
  refine lv_iload_n hx hb dX9_lookFor_1 rfl (lv_at hl 1 rfl) ?_
  have hFc := va_free (wc := [(M 0, mO M ca (nI n) ft kn dy (nI fdn) ak pl iw nm fi nf nk sd ik kc kf kk kd ko hh), (M 19, .inl (cI, 9, .inl g1)), (M 20, .inl (cI, 8, .inl g2)), (M 21, .inl (cI, 4, .inl ga)), (M 22, .inl (cI, 4, .inl fb)), (M 7, .inl (cI, 8, .inl r)), (M 27, .inl (cI, 45, .inl u27))]) hD hS hA [0, 1, 2, 3, 4, 5, 6] rfl
  refine vz_cw [] [0, 1, 2, 3, 4, 5, 6] [] (va_runV (As := [.int (nI s1)]) (rest := []) FX (c_X9_layWho l D cI cB cF s.heap.size M ca ft kn dy (nI fdn) ak pl iw nm fi nf nk sd ik kc kf kk kd ko hh g1 g2 ga fb F r n u27 s1 (by first | assumption | omega | decide) (by first | assumption | omega | decide) (by first | assumption | omega | decide) (by first | assumption | omega | decide) (by first | assumption | omega | decide)) (cwV 1 hts gX9_lookFor_X9_layWho rfl rfl rfl ⟨rfl, hd_X9_layWho⟩ ⟨Nat.le_of_ble_eq_true rfl, Nat.le_of_ble_eq_true rfl⟩) (preW_V hQ 0 rfl rfl (hP.sub (ws' := [(M 0, mO M ca (nI n) ft kn dy (nI fdn) ak pl iw nm fi nf nk sd ik kc kf kk kd ko hh), (M 19, .inl (cI, 9, .inl g1)), (M 20, .inl (cI, 8, .inl g2)), (M 21, .inl (cI, 4, .inl ga)), (M 22, .inl (cI, 4, .inl fb)), (M 7, .inl (cI, 8, .inl r)), (M 27, .inl (cI, 45, .inl u27))]) [0, 1, 2, 3, 4, 5, 6] rfl) (hD.sub (ws' := [(M 0, mO M ca (nI n) ft kn dy (nI fdn) ak pl iw nm fi nf nk sd ik kc kf kk kd ko hh), (M 19, .inl (cI, 9, .inl g1)), (M 20, .inl (cI, 8, .inl g2)), (M 21, .inl (cI, 4, .inl ga)), (M 22, .inl (cI, 4, .inl fb)), (M 7, .inl (cI, 8, .inl r)), (M 27, .inl (cI, 45, .inl u27))]) [0, 1, 2, 3, 4, 5, 6] (by decide) rfl) hK (show vz_R D [(M 2, .inl (cI, 4, .inl (fun f => nI (F.1 f)))), (M 3, .inl (cI, 4, .inl F.2.1)), (M 4, .inl (cI, 4, .inl F.2.2))] _ _ from (vz_R.cons ((hR.at hS).one hFc (List.mem_of_getElem? (i := 0) rfl)) (vz_R.cons ((hR.at hS).one hFc (List.mem_of_getElem? (i := 1) rfl)) (vz_R.cons ((hR.at hS).one hFc (List.mem_of_getElem? (i := 2) rfl)) vz_R.nil))))) rfl rfl hl.1 rfl (lv_room (Nat.le_of_ble_eq_true rfl)) dX9_lookFor_2 ⟨Nat.le_of_ble_eq_true rfl, Nat.le_of_ble_eq_true rfl⟩) hP hD hS hA rfl rfl rfl (by decide) (fun u H locs hu hP hD hS hz9 hk9 => ?_)
  obtain ⟨z1_2_1, z2_2_1, z3_2_1, z4_2_1, z5_2_1, z6_2_1, z7_2_1, z8_2_1⟩ := u
  have hu_2 : ∀ j, j < 9 * (n + 1) → z8_2_1 j = zFt F r s1 n ft kn j := hu
  have hP : va_P D vwCl [(M 0, mO M ca (nI n) ft kn dy (nI fdn) ak pl iw nm z1_2_1 z2_2_1 z3_2_1 sd ik kc kf kk kd ko hh), (M 19, .inl (cI, 9, .inl z4_2_1)), (M 20, .inl (cI, 8, .inl z5_2_1)), (M 21, .inl (cI, 4, .inl z6_2_1)), (M 22, .inl (cI, 4, .inl z7_2_1)), (M 7, .inl (cI, 8, .inl r)), (M 27, .inl (cI, 45, .inl z8_2_1))] H := hP
  have hD : va_D A [(M 0, mO M ca (nI n) ft kn dy (nI fdn) ak pl iw nm z1_2_1 z2_2_1 z3_2_1 sd ik kc kf kk kd ko hh), (M 19, .inl (cI, 9, .inl z4_2_1)), (M 20, .inl (cI, 8, .inl z5_2_1)), (M 21, .inl (cI, 4, .inl z6_2_1)), (M 22, .inl (cI, 4, .inl z7_2_1)), (M 7, .inl (cI, 8, .inl r)), (M 27, .inl (cI, 45, .inl z8_2_1))] := hD
  have hQ : va_P D vwCl ([(M 0, mO M ca (nI n) ft kn dy (nI fdn) ak pl iw nm z1_2_1 z2_2_1 z3_2_1 sd ik kc kf kk kd ko hh), (M 19, .inl (cI, 9, .inl z4_2_1)), (M 20, .inl (cI, 8, .inl z5_2_1)), (M 21, .inl (cI, 4, .inl z6_2_1)), (M 22, .inl (cI, 4, .inl z7_2_1)), (M 7, .inl (cI, 8, .inl r)), (M 27, .inl (cI, 45, .inl z8_2_1))] ++ [(M 2, .inl (cI, 4, .inl (fun f => nI (F.1 f)))), (M 3, .inl (cI, 4, .inl F.2.1)), (M 4, .inl (cI, 4, .inl F.2.2)), (M 12, .inl (cI, 6, .inl fs)), (M 13, .inl (cI, 6, .inl ff))]) H := va_P.app hP (hR.at hS).P
  show W _ _ _ _ _ _ _ _ _ _ _ _ _ _ _ (F0 m 5 ls [])
  refine lv_aload_n hx hb dX9_lookFor_5 rfl (lv_at hl 0 rfl) ?_
  refine vz_rd (va_runV (As := []) (rest := []) FX (c_X9_fitting l D cI cB cF M ca ft kn dy ak pl iw nm z1_2_1 z2_2_1 z3_2_1 sd ik kc kf kk kd ko hh n z8_2_1 fdn fs ff (by first | assumption | omega | decide) (by first | assumption | omega | decide) (by first | assumption | omega | decide)) (cwV 0 hts gX9_lookFor_X9_fitting rfl rfl rfl ⟨rfl, hd_X9_fitting⟩ ⟨Nat.le_of_ble_eq_true rfl, Nat.le_of_ble_eq_true rfl⟩) (preP_V hQ 0 rfl rfl (hQ.sub (ws' := [(M 0, mO M ca (nI n) ft kn dy (nI fdn) ak pl iw nm z1_2_1 z2_2_1 z3_2_1 sd ik kc kf kk kd ko hh), (M 27, .inl (cI, 45, .inl z8_2_1)), (M 12, .inl (cI, 6, .inl fs)), (M 13, .inl (cI, 6, .inl ff))]) [0, 6, 10, 11] rfl) hK) rfl rfl hl.1 rfl (lv_room (Nat.le_of_ble_eq_true rfl)) dX9_lookFor_6 ⟨Nat.le_of_ble_eq_true rfl, Nat.le_of_ble_eq_true rfl⟩) ?_
  refine lv_istore_n (lv' := [(2, .int (zRw (zOj z8_2_1 fs ff fdn) (n + 1))), (0, .ref (M 0)), (1, .int (nI s1))]) hx hb dX9_lookFor_9 rfl hl (by decide) rfl (fun ls hl => ?_)
  refine lv_iconst (v := (-1)) hx hb dX9_lookFor_10 (by decide) ?_
  refine lv_istore_n (lv' := [(3, .int (-1)), (2, .int (zRw (zOj z8_2_1 fs ff fdn) (n + 1))), (0, .ref (M 0)), (1, .int (nI s1))]) hx hb dX9_lookFor_11 rfl hl (by decide) rfl (fun ls hl => ?_)
  refine lv_ldc (v := 268435456) hx hb hown (hts _ hw_X9_lookFor_1) dX9_lookFor_12 ?_
  refine lv_istore (lv' := [(4, .int 268435456), (3, .int (-1)), (2, .int (zRw (zOj z8_2_1 fs ff fdn) (n + 1))), (0, .ref (M 0)), (1, .int (nI s1))]) hx hb dX9_lookFor_14 hl (by decide) rfl (fun ls hl => ?_)
  refine lv_iconst (v := 0) hx hb dX9_lookFor_16 (by decide) ?_
  refine lv_istore (lv' := [(5, .int 0), (4, .int 268435456), (3, .int (-1)), (2, .int (zRw (zOj z8_2_1 fs ff fdn) (n + 1))), (0, .ref (M 0)), (1, .int (nI s1))]) hx hb dX9_lookFor_17 hl (by decide) rfl (fun ls hl => ?_)
  refine vz_loop (D := D) (A := A) (H0 := s.heap) (nL := 10) (σ := Nat) (fun xx => 9 - xx) (fun xx => (xx ≤ 9) ∧ (xx = 0 ∨ ¬ zRw (zOj z8_2_1 fs ff fdn) (n + 1) = 0)) (fun xx => [(M 0, mO M ca (nI n) ft kn dy (nI fdn) ak pl iw nm z1_2_1 z2_2_1 z3_2_1 sd ik kc kf kk kd ko hh), (M 19, .inl (cI, 9, .inl z4_2_1)), (M 20, .inl (cI, 8, .inl z5_2_1)), (M 21, .inl (cI, 4, .inl z6_2_1)), (M 22, .inl (cI, 4, .inl z7_2_1)), (M 7, .inl (cI, 8, .inl r)), (M 27, .inl (cI, 45, .inl z8_2_1))]) (fun xx => [(0, .ref (M 0)), (1, .int (nI s1)), (2, .int (zRw (zOj z8_2_1 fs ff fdn) (n + 1))), (3, .int ((zLo (zOj z8_2_1 fs ff fdn) z8_2_1 (n + 1) xx).1)), (4, .int ((zLo (zOj z8_2_1 fs ff fdn) z8_2_1 (n + 1) xx).2)), (5, .int (nI xx))]) (fun xx => []) ?_ 0 ⟨Nat.zero_le _, Or.inl rfl⟩ (hP.sub [0, 1, 2, 3, 4, 5, 6] rfl) (hD.sub [0, 1, 2, 3, 4, 5, 6] (by decide) rfl) hS (lv_sub hl [4, 5, 3, 2, 1, 0] rfl)
  rintro q hI ih_19 H locs ls hP hD hS hl
  obtain ⟨hq, hzq⟩ := hI
  have hq : q ≤ 9 := hq
  have hzq : q = 0 ∨ ¬ zRw (zOj z8_2_1 fs ff fdn) (n + 1) = 0 := hzq
  have hP : va_P D vwCl [(M 0, mO M ca (nI n) ft kn dy (nI fdn) ak pl iw nm z1_2_1 z2_2_1 z3_2_1 sd ik kc kf kk kd ko hh), (M 19, .inl (cI, 9, .inl z4_2_1)), (M 20, .inl (cI, 8, .inl z5_2_1)), (M 21, .inl (cI, 4, .inl z6_2_1)), (M 22, .inl (cI, 4, .inl z7_2_1)), (M 7, .inl (cI, 8, .inl r)), (M 27, .inl (cI, 45, .inl z8_2_1))] H := hP
  have hD : va_D A [(M 0, mO M ca (nI n) ft kn dy (nI fdn) ak pl iw nm z1_2_1 z2_2_1 z3_2_1 sd ik kc kf kk kd ko hh), (M 19, .inl (cI, 9, .inl z4_2_1)), (M 20, .inl (cI, 8, .inl z5_2_1)), (M 21, .inl (cI, 4, .inl z6_2_1)), (M 22, .inl (cI, 4, .inl z7_2_1)), (M 7, .inl (cI, 8, .inl r)), (M 27, .inl (cI, 45, .inl z8_2_1))] := hD
  have hQ : va_P D vwCl ([(M 0, mO M ca (nI n) ft kn dy (nI fdn) ak pl iw nm z1_2_1 z2_2_1 z3_2_1 sd ik kc kf kk kd ko hh), (M 19, .inl (cI, 9, .inl z4_2_1)), (M 20, .inl (cI, 8, .inl z5_2_1)), (M 21, .inl (cI, 4, .inl z6_2_1)), (M 22, .inl (cI, 4, .inl z7_2_1)), (M 7, .inl (cI, 8, .inl r)), (M 27, .inl (cI, 45, .inl z8_2_1))] ++ [(M 2, .inl (cI, 4, .inl (fun f => nI (F.1 f)))), (M 3, .inl (cI, 4, .inl F.2.1)), (M 4, .inl (cI, 4, .inl F.2.2)), (M 12, .inl (cI, 6, .inl fs)), (M 13, .inl (cI, 6, .inl ff))]) H := va_P.app hP (hR.at hS).P
  have hl : lv_has ls 10 [(0, .ref (M 0)), (1, .int (nI s1)), (2, .int (zRw (zOj z8_2_1 fs ff fdn) (n + 1))), (3, .int ((zLo (zOj z8_2_1 fs ff fdn) z8_2_1 (n + 1) q).1)), (4, .int ((zLo (zOj z8_2_1 fs ff fdn) z8_2_1 (n + 1) q).2)), (5, .int (nI q))] := hl
  show W _ _ _ _ _ _ _ _ _ _ _ _ _ _ _ (F0 m 19 ls [])
  refine lv_iload hx hb dX9_lookFor_19 (lv_at hl 5 rfl) ?_
  refine lv_bipush (v := 8) hx hb dX9_lookFor_21 (by decide) ?_
  refine lv_icmp_gt (tgt := 159) hx hb dX9_lookFor_23 (by decide) (fun c_23 => ?_) (fun c_23 => ?_)
  · have hq9 : q = 9 := by have := (nI_zlt (a := 8) (b := q) (by decide) (by omega)).mp c_23; omega
    refine lv_iload_n hx hb dX9_lookFor_159 rfl (lv_at hl 3 rfl) ?_
    refine vz_si (zLk F r n s1 ft kn fs ff fdn) (by rw [zLk_1 hn hft hfs hu_2 (hzq.resolve_left (by omega)), hq9]) ?_
    have hP9 := hP.sub (ws' := [(M 0, mO M ca (nI n) ft kn dy (nI fdn) ak pl iw nm z1_2_1 z2_2_1 z3_2_1 sd ik kc kf kk kd ko hh), (M 19, .inl (cI, 9, .inl z4_2_1)), (M 20, .inl (cI, 8, .inl z5_2_1)), (M 21, .inl (cI, 4, .inl z6_2_1)), (M 22, .inl (cI, 4, .inl z7_2_1)), (M 7, .inl (cI, 8, .inl r)), (M 27, .inl (cI, 45, .inl z8_2_1))]) [0, 1, 2, 3, 4, 5, 6] rfl
    have hD9 := hD.sub (ws' := [(M 0, mO M ca (nI n) ft kn dy (nI fdn) ak pl iw nm z1_2_1 z2_2_1 z3_2_1 sd ik kc kf kk kd ko hh), (M 19, .inl (cI, 9, .inl z4_2_1)), (M 20, .inl (cI, 8, .inl z5_2_1)), (M 21, .inl (cI, 4, .inl z6_2_1)), (M 22, .inl (cI, 4, .inl z7_2_1)), (M 7, .inl (cI, 8, .inl r)), (M 27, .inl (cI, 45, .inl z8_2_1))]) [0, 1, 2, 3, 4, 5, 6] (by decide) rfl
    exact W.iret hx hb hr (fun t ht hW => ⟨⟨(z1_2_1, z2_2_1, z3_2_1, z4_2_1, z5_2_1, z6_2_1, z7_2_1, z8_2_1), rfl, trivial, by rw [ht]; exact hP9, hD9⟩, hS.F ht⟩) hS.2.2 dX9_lookFor_160
  · have hq8 : q ≤ 8 := by have := (nI_zle (a := q) (b := 8) (by omega) (by decide)).mp (Int32.not_lt.mp c_23); omega
    refine lv_iload_n hx hb dX9_lookFor_26 rfl (lv_at hl 2 rfl) ?_
    refine lv_if_eq (tgt := 159) hx hb dX9_lookFor_27 (by decide) (fun c_27 => ?_) (fun c_27 => ?_)
    · refine lv_iload_n hx hb dX9_lookFor_159 rfl (lv_at hl 3 rfl) ?_
      refine vz_si (zLk F r n s1 ft kn fs ff fdn) (by rw [zLk_0 hn hfs hu_2 c_27, hzq.resolve_right (fun h => h c_27)]; rfl) ?_
      have hP9 := hP.sub (ws' := [(M 0, mO M ca (nI n) ft kn dy (nI fdn) ak pl iw nm z1_2_1 z2_2_1 z3_2_1 sd ik kc kf kk kd ko hh), (M 19, .inl (cI, 9, .inl z4_2_1)), (M 20, .inl (cI, 8, .inl z5_2_1)), (M 21, .inl (cI, 4, .inl z6_2_1)), (M 22, .inl (cI, 4, .inl z7_2_1)), (M 7, .inl (cI, 8, .inl r)), (M 27, .inl (cI, 45, .inl z8_2_1))]) [0, 1, 2, 3, 4, 5, 6] rfl
      have hD9 := hD.sub (ws' := [(M 0, mO M ca (nI n) ft kn dy (nI fdn) ak pl iw nm z1_2_1 z2_2_1 z3_2_1 sd ik kc kf kk kd ko hh), (M 19, .inl (cI, 9, .inl z4_2_1)), (M 20, .inl (cI, 8, .inl z5_2_1)), (M 21, .inl (cI, 4, .inl z6_2_1)), (M 22, .inl (cI, 4, .inl z7_2_1)), (M 7, .inl (cI, 8, .inl r)), (M 27, .inl (cI, 45, .inl z8_2_1))]) [0, 1, 2, 3, 4, 5, 6] (by decide) rfl
      exact W.iret hx hb hr (fun t ht hW => ⟨⟨(z1_2_1, z2_2_1, z3_2_1, z4_2_1, z5_2_1, z6_2_1, z7_2_1, z8_2_1), rfl, trivial, by rw [ht]; exact hP9, hD9⟩, hS.F ht⟩) hS.2.2 dX9_lookFor_160
    · refine lv_iconst (v := 0) hx hb dX9_lookFor_30 (by decide) ?_
      refine lv_istore (lv' := [(6, .int 0), (0, .ref (M 0)), (1, .int (nI s1)), (2, .int (zRw (zOj z8_2_1 fs ff fdn) (n + 1))), (3, .int ((zLo (zOj z8_2_1 fs ff fdn) z8_2_1 (n + 1) q).1)), (4, .int ((zLo (zOj z8_2_1 fs ff fdn) z8_2_1 (n + 1) q).2)), (5, .int (nI q))]) hx hb dX9_lookFor_31 hl (by decide) rfl (fun ls hl => ?_)
      refine lv_iconst (v := 0) hx hb dX9_lookFor_33 (by decide) ?_
      refine lv_istore (lv' := [(7, .int 0), (6, .int 0), (0, .ref (M 0)), (1, .int (nI s1)), (2, .int (zRw (zOj z8_2_1 fs ff fdn) (n + 1))), (3, .int ((zLo (zOj z8_2_1 fs ff fdn) z8_2_1 (n + 1) q).1)), (4, .int ((zLo (zOj z8_2_1 fs ff fdn) z8_2_1 (n + 1) q).2)), (5, .int (nI q))]) hx hb dX9_lookFor_34 hl (by decide) rfl (fun ls hl => ?_)
      refine vz_loop (D := D) (A := A) (H0 := s.heap) (nL := 10) (σ := Nat) (fun xx => 10 - xx) (fun xx => (xx ≤ 10)) (fun xx => [(M 0, mO M ca (nI n) ft kn dy (nI fdn) ak pl iw nm z1_2_1 z2_2_1 z3_2_1 sd ik kc kf kk kd ko hh), (M 19, .inl (cI, 9, .inl z4_2_1)), (M 20, .inl (cI, 8, .inl z5_2_1)), (M 21, .inl (cI, 4, .inl z6_2_1)), (M 22, .inl (cI, 4, .inl z7_2_1)), (M 7, .inl (cI, 8, .inl r)), (M 27, .inl (cI, 45, .inl z8_2_1))]) (fun xx => [(0, .ref (M 0)), (1, .int (nI s1)), (2, .int (zRw (zOj z8_2_1 fs ff fdn) (n + 1))), (3, .int ((zLo (zOj z8_2_1 fs ff fdn) z8_2_1 (n + 1) q).1)), (4, .int ((zLo (zOj z8_2_1 fs ff fdn) z8_2_1 (n + 1) q).2)), (5, .int (nI q)), (6, .int (zMv (zOj z8_2_1 fs ff fdn) z8_2_1 q (n + 1) xx)), (7, .int (nI xx))]) (fun xx => []) ?_ 0 (Nat.zero_le _) (hP.sub [0, 1, 2, 3, 4, 5, 6] rfl) (hD.sub [0, 1, 2, 3, 4, 5, 6] (by decide) rfl) hS (lv_sub hl [2, 3, 4, 5, 6, 7, 1, 0] rfl)
      rintro v hI ih_36 H locs ls hP hD hS hl
      have hvv := hI
      have hvv : v ≤ 10 := hvv
      have hP : va_P D vwCl [(M 0, mO M ca (nI n) ft kn dy (nI fdn) ak pl iw nm z1_2_1 z2_2_1 z3_2_1 sd ik kc kf kk kd ko hh), (M 19, .inl (cI, 9, .inl z4_2_1)), (M 20, .inl (cI, 8, .inl z5_2_1)), (M 21, .inl (cI, 4, .inl z6_2_1)), (M 22, .inl (cI, 4, .inl z7_2_1)), (M 7, .inl (cI, 8, .inl r)), (M 27, .inl (cI, 45, .inl z8_2_1))] H := hP
      have hD : va_D A [(M 0, mO M ca (nI n) ft kn dy (nI fdn) ak pl iw nm z1_2_1 z2_2_1 z3_2_1 sd ik kc kf kk kd ko hh), (M 19, .inl (cI, 9, .inl z4_2_1)), (M 20, .inl (cI, 8, .inl z5_2_1)), (M 21, .inl (cI, 4, .inl z6_2_1)), (M 22, .inl (cI, 4, .inl z7_2_1)), (M 7, .inl (cI, 8, .inl r)), (M 27, .inl (cI, 45, .inl z8_2_1))] := hD
      have hQ : va_P D vwCl ([(M 0, mO M ca (nI n) ft kn dy (nI fdn) ak pl iw nm z1_2_1 z2_2_1 z3_2_1 sd ik kc kf kk kd ko hh), (M 19, .inl (cI, 9, .inl z4_2_1)), (M 20, .inl (cI, 8, .inl z5_2_1)), (M 21, .inl (cI, 4, .inl z6_2_1)), (M 22, .inl (cI, 4, .inl z7_2_1)), (M 7, .inl (cI, 8, .inl r)), (M 27, .inl (cI, 45, .inl z8_2_1))] ++ [(M 2, .inl (cI, 4, .inl (fun f => nI (F.1 f)))), (M 3, .inl (cI, 4, .inl F.2.1)), (M 4, .inl (cI, 4, .inl F.2.2)), (M 12, .inl (cI, 6, .inl fs)), (M 13, .inl (cI, 6, .inl ff))]) H := va_P.app hP (hR.at hS).P
      have hl : lv_has ls 10 [(0, .ref (M 0)), (1, .int (nI s1)), (2, .int (zRw (zOj z8_2_1 fs ff fdn) (n + 1))), (3, .int ((zLo (zOj z8_2_1 fs ff fdn) z8_2_1 (n + 1) q).1)), (4, .int ((zLo (zOj z8_2_1 fs ff fdn) z8_2_1 (n + 1) q).2)), (5, .int (nI q)), (6, .int (zMv (zOj z8_2_1 fs ff fdn) z8_2_1 q (n + 1) v)), (7, .int (nI v))] := hl
      show W _ _ _ _ _ _ _ _ _ _ _ _ _ _ _ (F0 m 36 ls [])
      refine lv_iload hx hb dX9_lookFor_36 (lv_at hl 7 rfl) ?_
      refine lv_bipush (v := 9) hx hb dX9_lookFor_38 (by decide) ?_
      refine lv_icmp_gt (tgt := 123) hx hb dX9_lookFor_40 (by decide) (fun c_40 => ?_) (fun c_40 => ?_)
      · have hv10 : v = 10 := by have := (nI_zlt (a := 9) (b := v) (by decide) (by omega)).mp c_40; omega
        have hl : lv_has ls 10 [(0, .ref (M 0)), (1, .int (nI s1)), (2, .int (zRw (zOj z8_2_1 fs ff fdn) (n + 1))), (3, .int ((zLo (zOj z8_2_1 fs ff fdn) z8_2_1 (n + 1) q).1)), (4, .int ((zLo (zOj z8_2_1 fs ff fdn) z8_2_1 (n + 1) q).2)), (5, .int (nI q)), (6, .int (zMv (zOj z8_2_1 fs ff fdn) z8_2_1 q (n + 1) 10)), (7, .int (nI v))] := by have hz := hl; rw [show (zMv (zOj z8_2_1 fs ff fdn) z8_2_1 q (n + 1) v) = (zMv (zOj z8_2_1 fs ff fdn) z8_2_1 q (n + 1) 10) from (by rw [hv10])] at hz; exact hz
        refine lv_iload hx hb dX9_lookFor_123 (lv_at hl 6 rfl) ?_
        refine lv_iload hx hb dX9_lookFor_125 (lv_at hl 4 rfl) ?_
        refine lv_icmp_ge (tgt := 135) hx hb dX9_lookFor_127 (by decide) (fun c_127 => ?_) (fun c_127 => ?_)
        · have hl1 := zLo_f1 (Int32.not_lt.mpr c_127)
          have hl2 := zLo_f2 (Int32.not_lt.mpr c_127)
          refine lv_iload_n hx hb dX9_lookFor_135 rfl (lv_at hl 3 rfl) ?_
          refine vz_si ((zLo (zOj z8_2_1 fs ff fdn) z8_2_1 (n + 1) (q + 1)).1) (hl1) ?_
          refine lv_istore_n (lv' := [(3, .int ((zLo (zOj z8_2_1 fs ff fdn) z8_2_1 (n + 1) (q + 1)).1)), (0, .ref (M 0)), (1, .int (nI s1)), (2, .int (zRw (zOj z8_2_1 fs ff fdn) (n + 1))), (4, .int ((zLo (zOj z8_2_1 fs ff fdn) z8_2_1 (n + 1) q).2)), (5, .int (nI q)), (6, .int (zMv (zOj z8_2_1 fs ff fdn) z8_2_1 q (n + 1) 10)), (7, .int (nI v))]) hx hb dX9_lookFor_136 rfl hl (by decide) rfl (fun ls hl => ?_)
          refine lv_iload hx hb dX9_lookFor_137 (lv_at hl 6 rfl) ?_
          refine lv_iload hx hb dX9_lookFor_139 (lv_at hl 4 rfl) ?_
          refine lv_icmp_ge (tgt := 149) hx hb dX9_lookFor_141 (by decide) (fun c_141 => ?_) (fun c_141 => False.elim (by exact c_141 c_127))
          refine lv_iload hx hb dX9_lookFor_149 (lv_at hl 4 rfl) ?_
          refine vz_si ((zLo (zOj z8_2_1 fs ff fdn) z8_2_1 (n + 1) (q + 1)).2) (hl2) ?_
          refine lv_istore (lv' := [(4, .int ((zLo (zOj z8_2_1 fs ff fdn) z8_2_1 (n + 1) (q + 1)).2)), (3, .int ((zLo (zOj z8_2_1 fs ff fdn) z8_2_1 (n + 1) (q + 1)).1)), (0, .ref (M 0)), (1, .int (nI s1)), (2, .int (zRw (zOj z8_2_1 fs ff fdn) (n + 1))), (5, .int (nI q)), (6, .int (zMv (zOj z8_2_1 fs ff fdn) z8_2_1 q (n + 1) 10)), (7, .int (nI v))]) hx hb dX9_lookFor_151 hl (by decide) rfl (fun ls hl => ?_)
          refine lv_iinc (v := (nI (q + 1))) (lv' := [(5, .int (nI (q + 1))), (4, .int ((zLo (zOj z8_2_1 fs ff fdn) z8_2_1 (n + 1) (q + 1)).2)), (3, .int ((zLo (zOj z8_2_1 fs ff fdn) z8_2_1 (n + 1) (q + 1)).1)), (0, .ref (M 0)), (1, .int (nI s1)), (2, .int (zRw (zOj z8_2_1 fs ff fdn) (n + 1))), (6, .int (zMv (zOj z8_2_1 fs ff fdn) z8_2_1 q (n + 1) 10)), (7, .int (nI v))]) hx hb dX9_lookFor_153 hl (k := 5) rfl ((nI_succ q).symm) (by decide) rfl (fun ls hl => ?_)
          refine lv_goto (tgt := 19) hx hb dX9_lookFor_156 (by decide) ?_
          exact ih_19 (q + 1) (by (try dsimp only); omega) ⟨Nat.succ_le_succ hq8, Or.inr c_27⟩ H _ ls (hP.sub [0, 1, 2, 3, 4, 5, 6] rfl) (hD.sub [0, 1, 2, 3, 4, 5, 6] (by decide) rfl) hS (lv_sub hl [3, 4, 5, 2, 1, 0] rfl)
        · have hl1 := zLo_t1 (Int32.not_le.mp c_127)
          have hl2 := zLo_t2 (Int32.not_le.mp c_127)
          refine lv_iload hx hb dX9_lookFor_130 (lv_at hl 5 rfl) ?_
          refine lv_goto (tgt := 136) hx hb dX9_lookFor_132 (by decide) ?_
          refine vz_si ((zLo (zOj z8_2_1 fs ff fdn) z8_2_1 (n + 1) (q + 1)).1) (hl1) ?_
          refine lv_istore_n (lv' := [(3, .int ((zLo (zOj z8_2_1 fs ff fdn) z8_2_1 (n + 1) (q + 1)).1)), (0, .ref (M 0)), (1, .int (nI s1)), (2, .int (zRw (zOj z8_2_1 fs ff fdn) (n + 1))), (4, .int ((zLo (zOj z8_2_1 fs ff fdn) z8_2_1 (n + 1) q).2)), (5, .int (nI q)), (6, .int (zMv (zOj z8_2_1 fs ff fdn) z8_2_1 q (n + 1) 10)), (7, .int (nI v))]) hx hb dX9_lookFor_136 rfl hl (by decide) rfl (fun ls hl => ?_)
          refine lv_iload hx hb dX9_lookFor_137 (lv_at hl 6 rfl) ?_
          refine lv_iload hx hb dX9_lookFor_139 (lv_at hl 4 rfl) ?_
          refine lv_icmp_ge (tgt := 149) hx hb dX9_lookFor_141 (by decide) (fun c_141 => False.elim (by exact c_127 c_141)) (fun c_141 => ?_)
          refine lv_iload hx hb dX9_lookFor_144 (lv_at hl 6 rfl) ?_
          refine lv_goto (tgt := 151) hx hb dX9_lookFor_146 (by decide) ?_
          refine vz_si ((zLo (zOj z8_2_1 fs ff fdn) z8_2_1 (n + 1) (q + 1)).2) (hl2) ?_
          refine lv_istore (lv' := [(4, .int ((zLo (zOj z8_2_1 fs ff fdn) z8_2_1 (n + 1) (q + 1)).2)), (3, .int ((zLo (zOj z8_2_1 fs ff fdn) z8_2_1 (n + 1) (q + 1)).1)), (0, .ref (M 0)), (1, .int (nI s1)), (2, .int (zRw (zOj z8_2_1 fs ff fdn) (n + 1))), (5, .int (nI q)), (6, .int (zMv (zOj z8_2_1 fs ff fdn) z8_2_1 q (n + 1) 10)), (7, .int (nI v))]) hx hb dX9_lookFor_151 hl (by decide) rfl (fun ls hl => ?_)
          refine lv_iinc (v := (nI (q + 1))) (lv' := [(5, .int (nI (q + 1))), (4, .int ((zLo (zOj z8_2_1 fs ff fdn) z8_2_1 (n + 1) (q + 1)).2)), (3, .int ((zLo (zOj z8_2_1 fs ff fdn) z8_2_1 (n + 1) (q + 1)).1)), (0, .ref (M 0)), (1, .int (nI s1)), (2, .int (zRw (zOj z8_2_1 fs ff fdn) (n + 1))), (6, .int (zMv (zOj z8_2_1 fs ff fdn) z8_2_1 q (n + 1) 10)), (7, .int (nI v))]) hx hb dX9_lookFor_153 hl (k := 5) rfl ((nI_succ q).symm) (by decide) rfl (fun ls hl => ?_)
          refine lv_goto (tgt := 19) hx hb dX9_lookFor_156 (by decide) ?_
          exact ih_19 (q + 1) (by (try dsimp only); omega) ⟨Nat.succ_le_succ hq8, Or.inr c_27⟩ H _ ls (hP.sub [0, 1, 2, 3, 4, 5, 6] rfl) (hD.sub [0, 1, 2, 3, 4, 5, 6] (by decide) rfl) hS (lv_sub hl [3, 4, 5, 2, 1, 0] rfl)
      · have hv9 : v ≤ 9 := by have := (nI_zle (a := v) (b := 9) (by omega) (by decide)).mp (Int32.not_lt.mp c_40); omega
        refine lv_iconst (v := 0) hx hb dX9_lookFor_43 (by decide) ?_
        refine lv_istore (lv' := [(8, .int 0), (0, .ref (M 0)), (1, .int (nI s1)), (2, .int (zRw (zOj z8_2_1 fs ff fdn) (n + 1))), (3, .int ((zLo (zOj z8_2_1 fs ff fdn) z8_2_1 (n + 1) q).1)), (4, .int ((zLo (zOj z8_2_1 fs ff fdn) z8_2_1 (n + 1) q).2)), (5, .int (nI q)), (6, .int (zMv (zOj z8_2_1 fs ff fdn) z8_2_1 q (n + 1) v)), (7, .int (nI v))]) hx hb dX9_lookFor_44 hl (by decide) rfl (fun ls hl => ?_)
        refine lv_iconst (v := 0) hx hb dX9_lookFor_46 (by decide) ?_
        refine lv_istore (lv' := [(9, .int 0), (8, .int 0), (0, .ref (M 0)), (1, .int (nI s1)), (2, .int (zRw (zOj z8_2_1 fs ff fdn) (n + 1))), (3, .int ((zLo (zOj z8_2_1 fs ff fdn) z8_2_1 (n + 1) q).1)), (4, .int ((zLo (zOj z8_2_1 fs ff fdn) z8_2_1 (n + 1) q).2)), (5, .int (nI q)), (6, .int (zMv (zOj z8_2_1 fs ff fdn) z8_2_1 q (n + 1) v)), (7, .int (nI v))]) hx hb dX9_lookFor_47 hl (by decide) rfl (fun ls hl => ?_)
        refine vz_loop (D := D) (A := A) (H0 := s.heap) (nL := 10) (σ := Nat) (fun xx => n + 1 - xx) (fun xx => (xx ≤ n + 1)) (fun xx => [(M 0, mO M ca (nI n) ft kn dy (nI fdn) ak pl iw nm z1_2_1 z2_2_1 z3_2_1 sd ik kc kf kk kd ko hh), (M 19, .inl (cI, 9, .inl z4_2_1)), (M 20, .inl (cI, 8, .inl z5_2_1)), (M 21, .inl (cI, 4, .inl z6_2_1)), (M 22, .inl (cI, 4, .inl z7_2_1)), (M 7, .inl (cI, 8, .inl r)), (M 27, .inl (cI, 45, .inl z8_2_1))]) (fun xx => [(0, .ref (M 0)), (1, .int (nI s1)), (2, .int (zRw (zOj z8_2_1 fs ff fdn) (n + 1))), (3, .int ((zLo (zOj z8_2_1 fs ff fdn) z8_2_1 (n + 1) q).1)), (4, .int ((zLo (zOj z8_2_1 fs ff fdn) z8_2_1 (n + 1) q).2)), (5, .int (nI q)), (6, .int (zMv (zOj z8_2_1 fs ff fdn) z8_2_1 q (n + 1) v)), (7, .int (nI v)), (8, .int (zSum (zCu (zOj z8_2_1 fs ff fdn) z8_2_1 q (nI v)) xx)), (9, .int (nI xx))]) (fun xx => []) ?_ 0 (Nat.zero_le _) (hP.sub [0, 1, 2, 3, 4, 5, 6] rfl) (hD.sub [0, 1, 2, 3, 4, 5, 6] (by decide) rfl) hS (lv_sub hl [2, 3, 4, 5, 6, 7, 8, 9, 1, 0] rfl)
        rintro k hI ih_49 H locs ls hP hD hS hl
        have hk := hI
        have hk : k ≤ n + 1 := hk
        have hP : va_P D vwCl [(M 0, mO M ca (nI n) ft kn dy (nI fdn) ak pl iw nm z1_2_1 z2_2_1 z3_2_1 sd ik kc kf kk kd ko hh), (M 19, .inl (cI, 9, .inl z4_2_1)), (M 20, .inl (cI, 8, .inl z5_2_1)), (M 21, .inl (cI, 4, .inl z6_2_1)), (M 22, .inl (cI, 4, .inl z7_2_1)), (M 7, .inl (cI, 8, .inl r)), (M 27, .inl (cI, 45, .inl z8_2_1))] H := hP
        have hD : va_D A [(M 0, mO M ca (nI n) ft kn dy (nI fdn) ak pl iw nm z1_2_1 z2_2_1 z3_2_1 sd ik kc kf kk kd ko hh), (M 19, .inl (cI, 9, .inl z4_2_1)), (M 20, .inl (cI, 8, .inl z5_2_1)), (M 21, .inl (cI, 4, .inl z6_2_1)), (M 22, .inl (cI, 4, .inl z7_2_1)), (M 7, .inl (cI, 8, .inl r)), (M 27, .inl (cI, 45, .inl z8_2_1))] := hD
        have hQ : va_P D vwCl ([(M 0, mO M ca (nI n) ft kn dy (nI fdn) ak pl iw nm z1_2_1 z2_2_1 z3_2_1 sd ik kc kf kk kd ko hh), (M 19, .inl (cI, 9, .inl z4_2_1)), (M 20, .inl (cI, 8, .inl z5_2_1)), (M 21, .inl (cI, 4, .inl z6_2_1)), (M 22, .inl (cI, 4, .inl z7_2_1)), (M 7, .inl (cI, 8, .inl r)), (M 27, .inl (cI, 45, .inl z8_2_1))] ++ [(M 2, .inl (cI, 4, .inl (fun f => nI (F.1 f)))), (M 3, .inl (cI, 4, .inl F.2.1)), (M 4, .inl (cI, 4, .inl F.2.2)), (M 12, .inl (cI, 6, .inl fs)), (M 13, .inl (cI, 6, .inl ff))]) H := va_P.app hP (hR.at hS).P
        have hl : lv_has ls 10 [(0, .ref (M 0)), (1, .int (nI s1)), (2, .int (zRw (zOj z8_2_1 fs ff fdn) (n + 1))), (3, .int ((zLo (zOj z8_2_1 fs ff fdn) z8_2_1 (n + 1) q).1)), (4, .int ((zLo (zOj z8_2_1 fs ff fdn) z8_2_1 (n + 1) q).2)), (5, .int (nI q)), (6, .int (zMv (zOj z8_2_1 fs ff fdn) z8_2_1 q (n + 1) v)), (7, .int (nI v)), (8, .int (zSum (zCu (zOj z8_2_1 fs ff fdn) z8_2_1 q (nI v)) k)), (9, .int (nI k))] := hl
        show W _ _ _ _ _ _ _ _ _ _ _ _ _ _ _ (F0 m 49 ls [])
        refine lv_iload hx hb dX9_lookFor_49 (lv_at hl 9 rfl) ?_
        refine lv_aload_n hx hb dX9_lookFor_51 rfl (lv_at hl 0 rfl) ?_
        refine va_get (D := D) (cl := vwCl) (tys := zT cI cB cF) (ci := 9) (v := .int (nI n)) (C := RX9) (T := TX9) (N := 41) hx hb hts iw_X9_lookFor_X9 hown hK.1 hQ 0 rfl rfl 1 (by decide) (hts _ hw_X9_lookFor_2) (fun _ h9 => h9) rfl dX9_lookFor_52 ?_
        refine lv_icmp_gt (tgt := 101) hx hb dX9_lookFor_55 (by decide) (fun c_55 => ?_) (fun c_55 => ?_)
        · have hke : k = n + 1 := by have := (nI_zlt (a := n) (b := k) (by omega) (by omega)).mp c_55; omega
          have hl : lv_has ls 10 [(0, .ref (M 0)), (1, .int (nI s1)), (2, .int (zRw (zOj z8_2_1 fs ff fdn) (n + 1))), (3, .int ((zLo (zOj z8_2_1 fs ff fdn) z8_2_1 (n + 1) q).1)), (4, .int ((zLo (zOj z8_2_1 fs ff fdn) z8_2_1 (n + 1) q).2)), (5, .int (nI q)), (6, .int (zMv (zOj z8_2_1 fs ff fdn) z8_2_1 q (n + 1) v)), (7, .int (nI v)), (8, .int (zSum (zCu (zOj z8_2_1 fs ff fdn) z8_2_1 q (nI v)) (n + 1))), (9, .int (nI k))] := by have hz := hl; rw [show (zSum (zCu (zOj z8_2_1 fs ff fdn) z8_2_1 q (nI v)) k) = (zSum (zCu (zOj z8_2_1 fs ff fdn) z8_2_1 q (nI v)) (n + 1)) from (by rw [hke])] at hz; exact hz
          refine lv_iload hx hb dX9_lookFor_101 (lv_at hl 8 rfl) ?_
          refine lv_iload hx hb dX9_lookFor_103 (lv_at hl 6 rfl) ?_
          refine lv_icmp_le (tgt := 113) hx hb dX9_lookFor_105 (by decide) (fun c_105 => ?_) (fun c_105 => ?_)
          · have hmv : zMv (zOj z8_2_1 fs ff fdn) z8_2_1 q (n + 1) v = zMv (zOj z8_2_1 fs ff fdn) z8_2_1 q (n + 1) (v + 1) := zMx_n (Int32.not_lt.mpr c_105)
            refine lv_iload hx hb dX9_lookFor_113 (lv_at hl 6 rfl) ?_
            refine vz_si (zMv (zOj z8_2_1 fs ff fdn) z8_2_1 q (n + 1) (v + 1)) (hmv) ?_
            refine lv_istore (lv' := [(6, .int (zMv (zOj z8_2_1 fs ff fdn) z8_2_1 q (n + 1) (v + 1))), (0, .ref (M 0)), (1, .int (nI s1)), (2, .int (zRw (zOj z8_2_1 fs ff fdn) (n + 1))), (3, .int ((zLo (zOj z8_2_1 fs ff fdn) z8_2_1 (n + 1) q).1)), (4, .int ((zLo (zOj z8_2_1 fs ff fdn) z8_2_1 (n + 1) q).2)), (5, .int (nI q)), (7, .int (nI v)), (8, .int (zSum (zCu (zOj z8_2_1 fs ff fdn) z8_2_1 q (nI v)) (n + 1))), (9, .int (nI k))]) hx hb dX9_lookFor_115 hl (by decide) rfl (fun ls hl => ?_)
            refine lv_iinc (v := (nI (v + 1))) (lv' := [(7, .int (nI (v + 1))), (6, .int (zMv (zOj z8_2_1 fs ff fdn) z8_2_1 q (n + 1) (v + 1))), (0, .ref (M 0)), (1, .int (nI s1)), (2, .int (zRw (zOj z8_2_1 fs ff fdn) (n + 1))), (3, .int ((zLo (zOj z8_2_1 fs ff fdn) z8_2_1 (n + 1) q).1)), (4, .int ((zLo (zOj z8_2_1 fs ff fdn) z8_2_1 (n + 1) q).2)), (5, .int (nI q)), (8, .int (zSum (zCu (zOj z8_2_1 fs ff fdn) z8_2_1 q (nI v)) (n + 1))), (9, .int (nI k))]) hx hb dX9_lookFor_117 hl (k := 7) rfl ((nI_succ v).symm) (by decide) rfl (fun ls hl => ?_)
            refine lv_goto (tgt := 36) hx hb dX9_lookFor_120 (by decide) ?_
            exact ih_36 (v + 1) (by (try dsimp only); omega) (Nat.succ_le_succ hv9) H _ ls (hP.sub [0, 1, 2, 3, 4, 5, 6] rfl) (hD.sub [0, 1, 2, 3, 4, 5, 6] (by decide) rfl) hS (lv_sub hl [2, 3, 4, 5, 6, 7, 1, 0] rfl)
          · have hmv : zSum (zCu (zOj z8_2_1 fs ff fdn) z8_2_1 q (nI v)) (n + 1) = zMv (zOj z8_2_1 fs ff fdn) z8_2_1 q (n + 1) (v + 1) := zMx_y (Int32.not_le.mp c_105)
            refine lv_iload hx hb dX9_lookFor_108 (lv_at hl 8 rfl) ?_
            refine lv_goto (tgt := 115) hx hb dX9_lookFor_110 (by decide) ?_
            refine vz_si (zMv (zOj z8_2_1 fs ff fdn) z8_2_1 q (n + 1) (v + 1)) (hmv) ?_
            refine lv_istore (lv' := [(6, .int (zMv (zOj z8_2_1 fs ff fdn) z8_2_1 q (n + 1) (v + 1))), (0, .ref (M 0)), (1, .int (nI s1)), (2, .int (zRw (zOj z8_2_1 fs ff fdn) (n + 1))), (3, .int ((zLo (zOj z8_2_1 fs ff fdn) z8_2_1 (n + 1) q).1)), (4, .int ((zLo (zOj z8_2_1 fs ff fdn) z8_2_1 (n + 1) q).2)), (5, .int (nI q)), (7, .int (nI v)), (8, .int (zSum (zCu (zOj z8_2_1 fs ff fdn) z8_2_1 q (nI v)) (n + 1))), (9, .int (nI k))]) hx hb dX9_lookFor_115 hl (by decide) rfl (fun ls hl => ?_)
            refine lv_iinc (v := (nI (v + 1))) (lv' := [(7, .int (nI (v + 1))), (6, .int (zMv (zOj z8_2_1 fs ff fdn) z8_2_1 q (n + 1) (v + 1))), (0, .ref (M 0)), (1, .int (nI s1)), (2, .int (zRw (zOj z8_2_1 fs ff fdn) (n + 1))), (3, .int ((zLo (zOj z8_2_1 fs ff fdn) z8_2_1 (n + 1) q).1)), (4, .int ((zLo (zOj z8_2_1 fs ff fdn) z8_2_1 (n + 1) q).2)), (5, .int (nI q)), (8, .int (zSum (zCu (zOj z8_2_1 fs ff fdn) z8_2_1 q (nI v)) (n + 1))), (9, .int (nI k))]) hx hb dX9_lookFor_117 hl (k := 7) rfl ((nI_succ v).symm) (by decide) rfl (fun ls hl => ?_)
            refine lv_goto (tgt := 36) hx hb dX9_lookFor_120 (by decide) ?_
            exact ih_36 (v + 1) (by (try dsimp only); omega) (Nat.succ_le_succ hv9) H _ ls (hP.sub [0, 1, 2, 3, 4, 5, 6] rfl) (hD.sub [0, 1, 2, 3, 4, 5, 6] (by decide) rfl) hS (lv_sub hl [2, 3, 4, 5, 6, 7, 1, 0] rfl)
        · have hkn9 : k ≤ n := by have := (nI_zle (a := k) (b := n) (by omega) (by omega)).mp (Int32.not_lt.mp c_55); omega
          refine lv_iload hx hb dX9_lookFor_58 (lv_at hl 8 rfl) ?_
          refine lv_iload_n hx hb dX9_lookFor_60 rfl (lv_at hl 2 rfl) ?_
          refine lv_iload hx hb dX9_lookFor_61 (lv_at hl 9 rfl) ?_
          refine vz_rd (va_runS (As := [.int (zRw (zOj z8_2_1 fs ff fdn) (n + 1)), .int (nI k)]) (rest := [.int (zSum (zCu (zOj z8_2_1 fs ff fdn) z8_2_1 q (nI v)) k)]) FX (c_X9_isIn l D cI cB cF (zRw (zOj z8_2_1 fs ff fdn) (n + 1)) (nI k) ) (va_cwS 2 hts gX9_lookFor_X9_isIn rfl rfl rfl hd_X9_isIn ⟨Nat.le_of_ble_eq_true rfl, Nat.le_of_ble_eq_true rfl⟩) (preP_S (hQ.sub (ws' := []) [] rfl) hK) rfl rfl hl.1 rfl (lv_room (Nat.le_of_ble_eq_true rfl)) dX9_lookFor_63 ⟨Nat.le_of_ble_eq_true rfl, Nat.le_of_ble_eq_true rfl⟩) ?_
          refine lv_if_eq (tgt := 91) hx hb dX9_lookFor_66 (by decide) (fun c_66 => ?_) (fun c_66 => ?_)
          · have b_66 : (zIi (zRw (zOj z8_2_1 fs ff fdn) (n + 1)) (nI k)) = false := zb_f c_66
            have hcu := zCu_f (w := z8_2_1) (q := q) (v := nI v) (Or.inl ((zRw_i (ok := (zOj z8_2_1 fs ff fdn)) hn hkn9).symm.trans b_66))
            refine lv_iconst (v := 0) hx hb dX9_lookFor_91 (by decide) ?_
            refine lv_iadd hx hb dX9_lookFor_92 ?_
            refine vz_si (zSum (zCu (zOj z8_2_1 fs ff fdn) z8_2_1 q (nI v)) (k + 1)) (hcu) ?_
            refine lv_istore (lv' := [(8, .int (zSum (zCu (zOj z8_2_1 fs ff fdn) z8_2_1 q (nI v)) (k + 1))), (0, .ref (M 0)), (1, .int (nI s1)), (2, .int (zRw (zOj z8_2_1 fs ff fdn) (n + 1))), (3, .int ((zLo (zOj z8_2_1 fs ff fdn) z8_2_1 (n + 1) q).1)), (4, .int ((zLo (zOj z8_2_1 fs ff fdn) z8_2_1 (n + 1) q).2)), (5, .int (nI q)), (6, .int (zMv (zOj z8_2_1 fs ff fdn) z8_2_1 q (n + 1) v)), (7, .int (nI v)), (9, .int (nI k))]) hx hb dX9_lookFor_93 hl (by decide) rfl (fun ls hl => ?_)
            refine lv_iinc (v := (nI (k + 1))) (lv' := [(9, .int (nI (k + 1))), (8, .int (zSum (zCu (zOj z8_2_1 fs ff fdn) z8_2_1 q (nI v)) (k + 1))), (0, .ref (M 0)), (1, .int (nI s1)), (2, .int (zRw (zOj z8_2_1 fs ff fdn) (n + 1))), (3, .int ((zLo (zOj z8_2_1 fs ff fdn) z8_2_1 (n + 1) q).1)), (4, .int ((zLo (zOj z8_2_1 fs ff fdn) z8_2_1 (n + 1) q).2)), (5, .int (nI q)), (6, .int (zMv (zOj z8_2_1 fs ff fdn) z8_2_1 q (n + 1) v)), (7, .int (nI v))]) hx hb dX9_lookFor_95 hl (k := 9) rfl ((nI_succ k).symm) (by decide) rfl (fun ls hl => ?_)
            refine lv_goto (tgt := 49) hx hb dX9_lookFor_98 (by decide) ?_
            exact ih_49 (k + 1) (by (try dsimp only); omega) (Nat.succ_le_succ hkn9) H _ ls (hP.sub [0, 1, 2, 3, 4, 5, 6] rfl) (hD.sub [0, 1, 2, 3, 4, 5, 6] (by decide) rfl) hS (lv_sub hl [2, 3, 4, 5, 6, 7, 8, 9, 1, 0] rfl)
          · have b_66 : (zIi (zRw (zOj z8_2_1 fs ff fdn) (n + 1)) (nI k)) = true := zb_t c_66
            refine lv_aload_n hx hb dX9_lookFor_69 rfl (lv_at hl 0 rfl) ?_
            refine va_get (D := D) (cl := vwCl) (tys := zT cI cB cF) (ci := 9) (v := .ref (M 27)) (C := RX9) (T := TX9) (N := 41) hx hb hts iw_X9_lookFor_X9 hown hK.1 hQ 0 rfl rfl 27 (by decide) (hts _ hw_X9_lookFor_3) (fun _ h9 => h9) rfl dX9_lookFor_70 ?_
            refine lv_bipush (v := 9) hx hb dX9_lookFor_73 (by decide) ?_
            refine lv_iload hx hb dX9_lookFor_75 (lv_at hl 9 rfl) ?_
            refine lv_imul hx hb dX9_lookFor_77 ?_
            refine vz_si (nI (9 * k)) (pk_mul 9 k) ?_
            refine lv_iload hx hb dX9_lookFor_78 (lv_at hl 5 rfl) ?_
            refine lv_iadd hx hb dX9_lookFor_80 ?_
            refine vz_si (nI (9 * k + q)) (nI_add (9 * k) q) ?_
            refine va_iald (D := D) (cl := vwCl) (tys := zT cI cB cF) (f := z8_2_1) hx hb hK.1 hQ 6 0 rfl rfl (vp_in_nI (by omega) (by omega)) dX9_lookFor_81 ?_
            refine vz_si (z8_2_1 (9 * k + q)) (by rw [nI_clamp (n := (9 * k + q)) (by omega)]) ?_
            refine lv_iload hx hb dX9_lookFor_82 (lv_at hl 7 rfl) ?_
            refine lv_icmp_ne (tgt := 91) hx hb dX9_lookFor_84 (by decide) (fun c_84 => ?_) (fun c_84 => ?_)
            · have hcu := zCu_f (ok := (zOj z8_2_1 fs ff fdn)) (w := z8_2_1) (q := q) (k := k) (v := nI v) (Or.inr c_84)
              refine lv_iconst (v := 0) hx hb dX9_lookFor_91 (by decide) ?_
              refine lv_iadd hx hb dX9_lookFor_92 ?_
              refine vz_si (zSum (zCu (zOj z8_2_1 fs ff fdn) z8_2_1 q (nI v)) (k + 1)) (hcu) ?_
              refine lv_istore (lv' := [(8, .int (zSum (zCu (zOj z8_2_1 fs ff fdn) z8_2_1 q (nI v)) (k + 1))), (0, .ref (M 0)), (1, .int (nI s1)), (2, .int (zRw (zOj z8_2_1 fs ff fdn) (n + 1))), (3, .int ((zLo (zOj z8_2_1 fs ff fdn) z8_2_1 (n + 1) q).1)), (4, .int ((zLo (zOj z8_2_1 fs ff fdn) z8_2_1 (n + 1) q).2)), (5, .int (nI q)), (6, .int (zMv (zOj z8_2_1 fs ff fdn) z8_2_1 q (n + 1) v)), (7, .int (nI v)), (9, .int (nI k))]) hx hb dX9_lookFor_93 hl (by decide) rfl (fun ls hl => ?_)
              refine lv_iinc (v := (nI (k + 1))) (lv' := [(9, .int (nI (k + 1))), (8, .int (zSum (zCu (zOj z8_2_1 fs ff fdn) z8_2_1 q (nI v)) (k + 1))), (0, .ref (M 0)), (1, .int (nI s1)), (2, .int (zRw (zOj z8_2_1 fs ff fdn) (n + 1))), (3, .int ((zLo (zOj z8_2_1 fs ff fdn) z8_2_1 (n + 1) q).1)), (4, .int ((zLo (zOj z8_2_1 fs ff fdn) z8_2_1 (n + 1) q).2)), (5, .int (nI q)), (6, .int (zMv (zOj z8_2_1 fs ff fdn) z8_2_1 q (n + 1) v)), (7, .int (nI v))]) hx hb dX9_lookFor_95 hl (k := 9) rfl ((nI_succ k).symm) (by decide) rfl (fun ls hl => ?_)
              refine lv_goto (tgt := 49) hx hb dX9_lookFor_98 (by decide) ?_
              exact ih_49 (k + 1) (by (try dsimp only); omega) (Nat.succ_le_succ hkn9) H _ ls (hP.sub [0, 1, 2, 3, 4, 5, 6] rfl) (hD.sub [0, 1, 2, 3, 4, 5, 6] (by decide) rfl) hS (lv_sub hl [2, 3, 4, 5, 6, 7, 8, 9, 1, 0] rfl)
            · have hcu := zCu_t ((zRw_i (ok := (zOj z8_2_1 fs ff fdn)) hn hkn9).symm.trans b_66) c_84
              refine lv_iconst (v := 1) hx hb dX9_lookFor_87 (by decide) ?_
              refine lv_goto (tgt := 92) hx hb dX9_lookFor_88 (by decide) ?_
              refine lv_iadd hx hb dX9_lookFor_92 ?_
              refine vz_si (zSum (zCu (zOj z8_2_1 fs ff fdn) z8_2_1 q (nI v)) (k + 1)) (hcu) ?_
              refine lv_istore (lv' := [(8, .int (zSum (zCu (zOj z8_2_1 fs ff fdn) z8_2_1 q (nI v)) (k + 1))), (0, .ref (M 0)), (1, .int (nI s1)), (2, .int (zRw (zOj z8_2_1 fs ff fdn) (n + 1))), (3, .int ((zLo (zOj z8_2_1 fs ff fdn) z8_2_1 (n + 1) q).1)), (4, .int ((zLo (zOj z8_2_1 fs ff fdn) z8_2_1 (n + 1) q).2)), (5, .int (nI q)), (6, .int (zMv (zOj z8_2_1 fs ff fdn) z8_2_1 q (n + 1) v)), (7, .int (nI v)), (9, .int (nI k))]) hx hb dX9_lookFor_93 hl (by decide) rfl (fun ls hl => ?_)
              refine lv_iinc (v := (nI (k + 1))) (lv' := [(9, .int (nI (k + 1))), (8, .int (zSum (zCu (zOj z8_2_1 fs ff fdn) z8_2_1 q (nI v)) (k + 1))), (0, .ref (M 0)), (1, .int (nI s1)), (2, .int (zRw (zOj z8_2_1 fs ff fdn) (n + 1))), (3, .int ((zLo (zOj z8_2_1 fs ff fdn) z8_2_1 (n + 1) q).1)), (4, .int ((zLo (zOj z8_2_1 fs ff fdn) z8_2_1 (n + 1) q).2)), (5, .int (nI q)), (6, .int (zMv (zOj z8_2_1 fs ff fdn) z8_2_1 q (n + 1) v)), (7, .int (nI v))]) hx hb dX9_lookFor_95 hl (k := 9) rfl ((nI_succ k).symm) (by decide) rfl (fun ls hl => ?_)
              refine lv_goto (tgt := 49) hx hb dX9_lookFor_98 (by decide) ?_
              exact ih_49 (k + 1) (by (try dsimp only); omega) (Nat.succ_le_succ hkn9) H _ ls (hP.sub [0, 1, 2, 3, 4, 5, 6] rfl) (hD.sub [0, 1, 2, 3, 4, 5, 6] (by decide) rfl) hS (lv_sub hl [2, 3, 4, 5, 6, 7, 8, 9, 1, 0] rfl)
set_option maxRecDepth 100000 in
theorem iw_X9_shiftNow_X9 : ∀ w ∈ u_ws RX9 TX9 41, w ∈ wsX9_shiftNow := fun w h => List.mem_cons_of_mem _ (List.mem_append_right _ h)
set_option maxRecDepth 100000 in
theorem hw_X9_shiftNow_1 : (.fieldLink RX9 25 "RotaFathersModel" "rotaOf" "[I" : Cond) ∈ wsX9_shiftNow := List.mem_of_getElem? (i := 1) rfl
set_option maxRecDepth 100000 in
theorem hw_X9_shiftNow_2 : (.fieldLink RX9 38 "RotaFathersModel" "fitAhead" "[I" : Cond) ∈ wsX9_shiftNow := List.mem_of_getElem? (i := 2) rfl
set_option maxRecDepth 100000 in
theorem hw_X9_shiftNow_3 : (.fieldLink RX9 41 "RotaFathersModel" "heavyIn" "[I" : Cond) ∈ wsX9_shiftNow := List.mem_of_getElem? (i := 3) rfl
set_option maxRecDepth 100000 in
theorem hw_X9_shiftNow_4 : (.fieldLink RX9 134 "RotaFathersModel" "fallsIn" "I" : Cond) ∈ wsX9_shiftNow := List.mem_of_getElem? (i := 4) rfl
set_option maxRecDepth 100000 in
theorem hd_X9_shiftNow : yX9_shiftNow.cls ≠ "java/lang/invoke/MethodHandle" ∧ yX9_shiftNow.cls ≠ "java/lang/invoke/VarHandle" ∧ (parseMethodDescriptor yX9_shiftNow.desc).map (fun d => d.parameters.length) = some 2 := by decide +kernel
set_option maxHeartbeats 4000000 in
set_option maxRecDepth 100000 in
theorem c_X9_shiftNow (l : Launch) (D : va_G) (cI cB cF : ClassId) (sz : Nat) (M : Nat → Nat) (ca : Int32) (ft : Int32) (kn : Int32) (dy : Int32) (ak : Int32) (pl : Int32) (iw : Int32) (nm : Int32) (fi : Int32) (nf : Int32) (nk : Int32) (sd : Int64) (ik : Int32) (kc : Int32) (kf : Int32) (kk : Int32) (kd : Int32) (ko : Int32) (hh : Int64) (g1 : Nat → Int32) (g2 : Nat → Int32) (ga : Nat → Int32) (fb : Nat → Int32) (F : zF) (r : Nat → Int32) (n : Nat) (fdn : Nat) (fs : Nat → Int32) (ff : Nat → Int32) (u27 : Nat → Int32) (s1 : Nat) (w : Int32) (hn : n ≤ 4) (hF : zFo n F) (hro : zRo n r) (hkn : zKb kn) (hfd : fdn ≤ 6) (hfs : ∀ i, i < fdn → ∃ j, j < 9 ∧ fs i = nI j) (hs : s1 < 8) (hft : ∃ j, j ≤ 9 ∧ ft = nI j) (hw : zIn w 0 5 = true) : Met l yX9_shiftNow wsX9_shiftNow ({ frames := 6, cells := 0, slots := 0, locals := 142 } : Room) (PcW D cI cB cF [.ref (M 0), .int (nI s1), .int w] sz [(M 0, mO M ca (nI n) ft kn dy (nI fdn) ak pl iw nm fi nf nk sd ik kc kf kk kd ko hh), (M 19, .inl (cI, 9, .inl g1)), (M 20, .inl (cI, 8, .inl g2)), (M 21, .inl (cI, 4, .inl ga)), (M 22, .inl (cI, 4, .inl fb)), (M 7, .inl (cI, 8, .inl r)), (M 27, .inl (cI, 45, .inl u27))] [(M 2, .inl (cI, 4, .inl (fun f => nI (F.1 f)))), (M 3, .inl (cI, 4, .inl F.2.1)), (M 4, .inl (cI, 4, .inl F.2.2)), (M 12, .inl (cI, 6, .inl fs)), (M 13, .inl (cI, 6, .inl ff))]) (Qw D (S := Int32 × Int32 × Int32 × (Nat → Int32) × (Nat → Int32) × (Nat → Int32) × (Nat → Int32) × (Nat → Int32)) (fun xx => some (.int (zSh1 n F r ft kn fs ff fdn s1 w))) (fun xx => True) (fun xx => [(M 0, mO M ca (nI n) ft kn dy (nI fdn) ak pl iw nm xx.1 xx.2.1 xx.2.2.1 sd ik kc kf kk kd ko hh), (M 19, .inl (cI, 9, .inl xx.2.2.2.1)), (M 20, .inl (cI, 8, .inl xx.2.2.2.2.1)), (M 21, .inl (cI, 4, .inl xx.2.2.2.2.2.1)), (M 22, .inl (cI, 4, .inl xx.2.2.2.2.2.2.1)), (M 7, .inl (cI, 8, .inl r)), (M 27, .inl (cI, 45, .inl xx.2.2.2.2.2.2.2))]) (va_A [(M 0, mO M ca (nI n) ft kn dy (nI fdn) ak pl iw nm fi nf nk sd ik kc kf kk kd ko hh), (M 19, .inl (cI, 9, .inl g1)), (M 20, .inl (cI, 8, .inl g2)), (M 21, .inl (cI, 4, .inl ga)), (M 22, .inl (cI, 4, .inl fb)), (M 7, .inl (cI, 8, .inl r)), (M 27, .inl (cI, 45, .inl u27))] sz)) 0 0 (va_A [(M 0, mO M ca (nI n) ft kn dy (nI fdn) ak pl iw nm fi nf nk sd ik kc kf kk kd ko hh), (M 19, .inl (cI, 9, .inl g1)), (M 20, .inl (cI, 8, .inl g2)), (M 21, .inl (cI, 4, .inl ga)), (M 22, .inl (cI, 4, .inl fb)), (M 7, .inl (cI, 8, .inl r)), (M 27, .inl (cI, 45, .inl u27))] sz) := by
  refine Met.ofW (cc := cX9_shiftNow) (maxL := 3) (ret := (some .int)) (by decide) rfl ?_
  intro p e s m args below meth c s₁ Bd hml hv
  rw [show (headSpec wsX9_shiftNow ({ frames := 6, cells := 0, slots := 0, locals := 142 } : Room)).room = ({ frames := 6, cells := 0, slots := 0, locals := 142 } : Room) from rfl]
  obtain ⟨rfl, hsz, hP, hK, hD0, hR⟩ := hv
  have hx := Bd.exec
  have hb := Bd.bytes
  have hr := Bd.returns
  have hts := atoms_spec (ws := wsX9_shiftNow) Bd.pre
  have hown : s.vm.findClass RX9 = some m.cls := findClass_of_methodNamed Bd.named
  have hlocks := Bd.notSynchronized
  have FX : CallFix p m c cX9_shiftNow 3 s _ wsX9_shiftNow RX9 := ⟨hx, hb, hml, hown, hts⟩
  subst hsz
  have hD := hD0.self (sz := s.heap.size)
  generalize hAe : va_A [(M 0, mO M ca (nI n) ft kn dy (nI fdn) ak pl iw nm fi nf nk sd ik kc kf kk kd ko hh), (M 19, .inl (cI, 9, .inl g1)), (M 20, .inl (cI, 8, .inl g2)), (M 21, .inl (cI, 4, .inl ga)), (M 22, .inl (cI, 4, .inl fb)), (M 7, .inl (cI, 8, .inl r)), (M 27, .inl (cI, 45, .inl u27))] s.heap.size = A at hD hR ⊢
  have hA : ∀ q : Nat, s.heap.size ≤ q → A q := fun q h => by rw [← hAe]; exact Or.inr h
  have hS : va_S A s.heap s.heap [] := va_S.rf
  have hP : va_P D vwCl [(M 0, mO M ca (nI n) ft kn dy (nI fdn) ak pl iw nm fi nf nk sd ik kc kf kk kd ko hh), (M 19, .inl (cI, 9, .inl g1)), (M 20, .inl (cI, 8, .inl g2)), (M 21, .inl (cI, 4, .inl ga)), (M 22, .inl (cI, 4, .inl fb)), (M 7, .inl (cI, 8, .inl r)), (M 27, .inl (cI, 45, .inl u27))] s.heap := hP
  have hQ : va_P D vwCl ([(M 0, mO M ca (nI n) ft kn dy (nI fdn) ak pl iw nm fi nf nk sd ik kc kf kk kd ko hh), (M 19, .inl (cI, 9, .inl g1)), (M 20, .inl (cI, 8, .inl g2)), (M 21, .inl (cI, 4, .inl ga)), (M 22, .inl (cI, 4, .inl fb)), (M 7, .inl (cI, 8, .inl r)), (M 27, .inl (cI, 45, .inl u27))] ++ [(M 2, .inl (cI, 4, .inl (fun f => nI (F.1 f)))), (M 3, .inl (cI, 4, .inl F.2.1)), (M 4, .inl (cI, 4, .inl F.2.2)), (M 12, .inl (cI, 6, .inl fs)), (M 13, .inl (cI, 6, .inl ff))]) s.heap := va_P.app hP (hR.at hS).P
  have hl := lv_entry ([.ref (M 0), .int (nI s1), .int w]) (n := 3) (Nat.le_of_ble_eq_true rfl)
  rw [lg_entry_eq]
  generalize (lg_sl ([.ref (M 0), .int (nI s1), .int w]) ++ List.replicate (3 - (lg_sl ([.ref (M 0), .int (nI s1), .int w])).length) Slot.unset).toArray = ls at hl ⊢
  have hl : lv_has ls 3 [(0, .ref (M 0)), (1, .int (nI s1)), (2, .int w)] := hl
  refine lv_aload_n hx hb dX9_shiftNow_0 rfl (lv_at hl 0 rfl) ?_
  have hFc := va_free (wc := [(M 0, mO M ca (nI n) ft kn dy (nI fdn) ak pl iw nm fi nf nk sd ik kc kf kk kd ko hh), (M 19, .inl (cI, 9, .inl g1)), (M 20, .inl (cI, 8, .inl g2)), (M 21, .inl (cI, 4, .inl ga)), (M 22, .inl (cI, 4, .inl fb))]) hD hS hA [0, 1, 2, 3, 4] rfl
  refine vz_cw [(M 7, .inl (cI, 8, .inl r)), (M 27, .inl (cI, 45, .inl u27))] [0, 1, 2, 3, 4] [5, 6] (va_runV (As := []) (rest := []) FX (c_X9_thinkDay l D cI cB cF s.heap.size M ca (nI n) ft kn dy (nI fdn) ak pl iw nm fi nf nk sd ik kc kf kk kd ko hh g1 g2 ga fb F r n (by first | assumption | omega | decide) (by first | assumption | omega | decide) (by first | assumption | omega | decide) (by first | assumption | omega | decide)) (cwV 0 hts gX9_shiftNow_X9_thinkDay rfl rfl rfl ⟨rfl, hd_X9_thinkDay⟩ ⟨Nat.le_of_ble_eq_true rfl, Nat.le_of_ble_eq_true rfl⟩) (preW_V hQ 0 rfl rfl (hP.sub (ws' := [(M 0, mO M ca (nI n) ft kn dy (nI fdn) ak pl iw nm fi nf nk sd ik kc kf kk kd ko hh), (M 19, .inl (cI, 9, .inl g1)), (M 20, .inl (cI, 8, .inl g2)), (M 21, .inl (cI, 4, .inl ga)), (M 22, .inl (cI, 4, .inl fb))]) [0, 1, 2, 3, 4] rfl) (hD.sub (ws' := [(M 0, mO M ca (nI n) ft kn dy (nI fdn) ak pl iw nm fi nf nk sd ik kc kf kk kd ko hh), (M 19, .inl (cI, 9, .inl g1)), (M 20, .inl (cI, 8, .inl g2)), (M 21, .inl (cI, 4, .inl ga)), (M 22, .inl (cI, 4, .inl fb))]) [0, 1, 2, 3, 4] (by decide) rfl) hK (show vz_R D [(M 2, .inl (cI, 4, .inl (fun f => nI (F.1 f)))), (M 3, .inl (cI, 4, .inl F.2.1)), (M 4, .inl (cI, 4, .inl F.2.2)), (M 7, .inl (cI, 8, .inl r))] _ _ from (vz_R.cons ((hR.at hS).one hFc (List.mem_of_getElem? (i := 0) rfl)) (vz_R.cons ((hR.at hS).one hFc (List.mem_of_getElem? (i := 1) rfl)) (vz_R.cons ((hR.at hS).one hFc (List.mem_of_getElem? (i := 2) rfl)) (vz_R.cons (vz_w1 hP hD [0, 1, 2, 3, 4] (wc := [(M 0, mO M ca (nI n) ft kn dy (nI fdn) ak pl iw nm fi nf nk sd ik kc kf kk kd ko hh), (M 19, .inl (cI, 9, .inl g1)), (M 20, .inl (cI, 8, .inl g2)), (M 21, .inl (cI, 4, .inl ga)), (M 22, .inl (cI, 4, .inl fb))]) rfl 5 rfl (by decide)) vz_R.nil)))))) rfl rfl hl.1 rfl (lv_room (Nat.le_of_ble_eq_true rfl)) dX9_shiftNow_1 ⟨Nat.le_of_ble_eq_true rfl, Nat.le_of_ble_eq_true rfl⟩) hP hD hS hA rfl rfl rfl (by decide) (fun u H locs hu hP hD hS hz9 hk9 => ?_)
  have hP : va_P D vwCl [(M 7, .inl (cI, 8, .inl r)), (M 27, .inl (cI, 45, .inl u27)), (M 0, mO M ca (nI n) ft kn dy (nI fdn) ak pl iw nm (zFb F r ft kn 8) (zDf F r ft kn 8) (zDk F r ft kn 8) sd ik kc kf kk kd ko hh), (M 19, .inl (cI, 9, .inl (zDf F r ft kn))), (M 20, .inl (cI, 8, .inl (zDh F r ft kn))), (M 21, .inl (cI, 4, .inl (fun f => zGs (zDg F r ft kn) r (nI f) 8))), (M 22, .inl (cI, 4, .inl (fun f => zGs (zDe F r ft kn) r (nI f) 8)))] H := hP
  have hD : va_D A [(M 7, .inl (cI, 8, .inl r)), (M 27, .inl (cI, 45, .inl u27)), (M 0, mO M ca (nI n) ft kn dy (nI fdn) ak pl iw nm (zFb F r ft kn 8) (zDf F r ft kn 8) (zDk F r ft kn 8) sd ik kc kf kk kd ko hh), (M 19, .inl (cI, 9, .inl (zDf F r ft kn))), (M 20, .inl (cI, 8, .inl (zDh F r ft kn))), (M 21, .inl (cI, 4, .inl (fun f => zGs (zDg F r ft kn) r (nI f) 8))), (M 22, .inl (cI, 4, .inl (fun f => zGs (zDe F r ft kn) r (nI f) 8)))] := hD
  have hQ : va_P D vwCl ([(M 7, .inl (cI, 8, .inl r)), (M 27, .inl (cI, 45, .inl u27)), (M 0, mO M ca (nI n) ft kn dy (nI fdn) ak pl iw nm (zFb F r ft kn 8) (zDf F r ft kn 8) (zDk F r ft kn 8) sd ik kc kf kk kd ko hh), (M 19, .inl (cI, 9, .inl (zDf F r ft kn))), (M 20, .inl (cI, 8, .inl (zDh F r ft kn))), (M 21, .inl (cI, 4, .inl (fun f => zGs (zDg F r ft kn) r (nI f) 8))), (M 22, .inl (cI, 4, .inl (fun f => zGs (zDe F r ft kn) r (nI f) 8)))] ++ [(M 2, .inl (cI, 4, .inl (fun f => nI (F.1 f)))), (M 3, .inl (cI, 4, .inl F.2.1)), (M 4, .inl (cI, 4, .inl F.2.2)), (M 12, .inl (cI, 6, .inl fs)), (M 13, .inl (cI, 6, .inl ff))]) H := va_P.app hP (hR.at hS).P
  show W _ _ _ _ _ _ _ _ _ _ _ _ _ _ _ (F0 m 4 ls [])
  refine lv_iload_n hx hb dX9_shiftNow_4 rfl (lv_at hl 2 rfl) ?_
  by_cases q_5_0 : w = 0
  · refine vz_si 0 q_5_0 ?_
    refine lv_tableIn (off := 35) (tgt := 40) hx hb dX9_shiftNow_5 (by decide) (by decide) (by decide) (by decide) ?_
    refine lv_aload_n hx hb dX9_shiftNow_40 rfl (lv_at hl 0 rfl) ?_
    refine va_get (D := D) (cl := vwCl) (tys := zT cI cB cF) (ci := 9) (v := .ref (M 7)) (C := RX9) (T := TX9) (N := 41) hx hb hts iw_X9_shiftNow_X9 hown hK.1 hQ 2 rfl rfl 7 (by decide) (hts _ hw_X9_shiftNow_1) (fun _ h9 => h9) rfl dX9_shiftNow_41 ?_
    refine lv_iload_n hx hb dX9_shiftNow_44 rfl (lv_at hl 1 rfl) ?_
    refine va_iald (D := D) (cl := vwCl) (tys := zT cI cB cF) (f := r) hx hb hK.1 hQ 0 0 rfl rfl (vp_in_nI (by omega) (by omega)) dX9_shiftNow_45 ?_
    refine vz_si (r s1) (by rw [nI_clamp (n := s1) (by omega)]) ?_
    refine vz_si (zSh1 n F r ft kn fs ff fdn s1 w) (by unfold zSh1; rw [if_pos q_5_0]) ?_
    have hP9 := hP.sub (ws' := [(M 0, mO M ca (nI n) ft kn dy (nI fdn) ak pl iw nm (zFb F r ft kn 8) (zDf F r ft kn 8) (zDk F r ft kn 8) sd ik kc kf kk kd ko hh), (M 19, .inl (cI, 9, .inl (zDf F r ft kn))), (M 20, .inl (cI, 8, .inl (zDh F r ft kn))), (M 21, .inl (cI, 4, .inl (fun f => zGs (zDg F r ft kn) r (nI f) 8))), (M 22, .inl (cI, 4, .inl (fun f => zGs (zDe F r ft kn) r (nI f) 8))), (M 7, .inl (cI, 8, .inl r)), (M 27, .inl (cI, 45, .inl u27))]) [2, 3, 4, 5, 6, 0, 1] rfl
    have hD9 := hD.sub (ws' := [(M 0, mO M ca (nI n) ft kn dy (nI fdn) ak pl iw nm (zFb F r ft kn 8) (zDf F r ft kn 8) (zDk F r ft kn 8) sd ik kc kf kk kd ko hh), (M 19, .inl (cI, 9, .inl (zDf F r ft kn))), (M 20, .inl (cI, 8, .inl (zDh F r ft kn))), (M 21, .inl (cI, 4, .inl (fun f => zGs (zDg F r ft kn) r (nI f) 8))), (M 22, .inl (cI, 4, .inl (fun f => zGs (zDe F r ft kn) r (nI f) 8))), (M 7, .inl (cI, 8, .inl r)), (M 27, .inl (cI, 45, .inl u27))]) [2, 3, 4, 5, 6, 0, 1] (by decide) rfl
    exact W.iret hx hb hr (fun t ht hW => ⟨⟨(zFb F r ft kn 8, zDf F r ft kn 8, zDk F r ft kn 8, zDf F r ft kn, zDh F r ft kn, fun f => zGs (zDg F r ft kn) r (nI f) 8, fun f => zGs (zDe F r ft kn) r (nI f) 8, u27), rfl, trivial, by rw [ht]; exact hP9, hD9⟩, hS.F ht⟩) hS.2.2 dX9_shiftNow_46
  · skip
    by_cases q_5_1 : w = 1
    · refine vz_si 1 q_5_1 ?_
      refine lv_tableIn (off := 42) (tgt := 47) hx hb dX9_shiftNow_5 (by decide) (by decide) (by decide) (by decide) ?_
      refine lv_aload_n hx hb dX9_shiftNow_47 rfl (lv_at hl 0 rfl) ?_
      refine va_get (D := D) (cl := vwCl) (tys := zT cI cB cF) (ci := 9) (v := .ref (M 19)) (C := RX9) (T := TX9) (N := 41) hx hb hts iw_X9_shiftNow_X9 hown hK.1 hQ 2 rfl rfl 19 (by decide) (hts _ hw_X9_shiftNow_2) (fun _ h9 => h9) rfl dX9_shiftNow_48 ?_
      refine lv_iload_n hx hb dX9_shiftNow_51 rfl (lv_at hl 1 rfl) ?_
      refine va_iald (D := D) (cl := vwCl) (tys := zT cI cB cF) (f := (zDf F r ft kn)) hx hb hK.1 hQ 3 0 rfl rfl (vp_in_nI (by omega) (by omega)) dX9_shiftNow_52 ?_
      refine vz_si ((zDf F r ft kn) s1) (by rw [nI_clamp (n := s1) (by omega)]) ?_
      refine vz_si (zSh1 n F r ft kn fs ff fdn s1 w) (by unfold zSh1; rw [if_neg (by rw [q_5_1]; decide), if_pos q_5_1]) ?_
      have hP9 := hP.sub (ws' := [(M 0, mO M ca (nI n) ft kn dy (nI fdn) ak pl iw nm (zFb F r ft kn 8) (zDf F r ft kn 8) (zDk F r ft kn 8) sd ik kc kf kk kd ko hh), (M 19, .inl (cI, 9, .inl (zDf F r ft kn))), (M 20, .inl (cI, 8, .inl (zDh F r ft kn))), (M 21, .inl (cI, 4, .inl (fun f => zGs (zDg F r ft kn) r (nI f) 8))), (M 22, .inl (cI, 4, .inl (fun f => zGs (zDe F r ft kn) r (nI f) 8))), (M 7, .inl (cI, 8, .inl r)), (M 27, .inl (cI, 45, .inl u27))]) [2, 3, 4, 5, 6, 0, 1] rfl
      have hD9 := hD.sub (ws' := [(M 0, mO M ca (nI n) ft kn dy (nI fdn) ak pl iw nm (zFb F r ft kn 8) (zDf F r ft kn 8) (zDk F r ft kn 8) sd ik kc kf kk kd ko hh), (M 19, .inl (cI, 9, .inl (zDf F r ft kn))), (M 20, .inl (cI, 8, .inl (zDh F r ft kn))), (M 21, .inl (cI, 4, .inl (fun f => zGs (zDg F r ft kn) r (nI f) 8))), (M 22, .inl (cI, 4, .inl (fun f => zGs (zDe F r ft kn) r (nI f) 8))), (M 7, .inl (cI, 8, .inl r)), (M 27, .inl (cI, 45, .inl u27))]) [2, 3, 4, 5, 6, 0, 1] (by decide) rfl
      exact W.iret hx hb hr (fun t ht hW => ⟨⟨(zFb F r ft kn 8, zDf F r ft kn 8, zDk F r ft kn 8, zDf F r ft kn, zDh F r ft kn, fun f => zGs (zDg F r ft kn) r (nI f) 8, fun f => zGs (zDe F r ft kn) r (nI f) 8, u27), rfl, trivial, by rw [ht]; exact hP9, hD9⟩, hS.F ht⟩) hS.2.2 dX9_shiftNow_53
    · skip
      by_cases q_5_2 : w = 2
      · refine vz_si 2 q_5_2 ?_
        refine lv_tableIn (off := 49) (tgt := 54) hx hb dX9_shiftNow_5 (by decide) (by decide) (by decide) (by decide) ?_
        refine lv_aload_n hx hb dX9_shiftNow_54 rfl (lv_at hl 0 rfl) ?_
        refine va_get (D := D) (cl := vwCl) (tys := zT cI cB cF) (ci := 9) (v := .ref (M 20)) (C := RX9) (T := TX9) (N := 41) hx hb hts iw_X9_shiftNow_X9 hown hK.1 hQ 2 rfl rfl 20 (by decide) (hts _ hw_X9_shiftNow_3) (fun _ h9 => h9) rfl dX9_shiftNow_55 ?_
        refine lv_iload_n hx hb dX9_shiftNow_58 rfl (lv_at hl 1 rfl) ?_
        refine va_iald (D := D) (cl := vwCl) (tys := zT cI cB cF) (f := (zDh F r ft kn)) hx hb hK.1 hQ 4 0 rfl rfl (vp_in_nI (by omega) (by omega)) dX9_shiftNow_59 ?_
        refine vz_si ((zDh F r ft kn) s1) (by rw [nI_clamp (n := s1) (by omega)]) ?_
        refine vz_si (zSh1 n F r ft kn fs ff fdn s1 w) (by unfold zSh1; rw [if_neg (by rw [q_5_2]; decide), if_neg (by rw [q_5_2]; decide), if_pos q_5_2]) ?_
        have hP9 := hP.sub (ws' := [(M 0, mO M ca (nI n) ft kn dy (nI fdn) ak pl iw nm (zFb F r ft kn 8) (zDf F r ft kn 8) (zDk F r ft kn 8) sd ik kc kf kk kd ko hh), (M 19, .inl (cI, 9, .inl (zDf F r ft kn))), (M 20, .inl (cI, 8, .inl (zDh F r ft kn))), (M 21, .inl (cI, 4, .inl (fun f => zGs (zDg F r ft kn) r (nI f) 8))), (M 22, .inl (cI, 4, .inl (fun f => zGs (zDe F r ft kn) r (nI f) 8))), (M 7, .inl (cI, 8, .inl r)), (M 27, .inl (cI, 45, .inl u27))]) [2, 3, 4, 5, 6, 0, 1] rfl
        have hD9 := hD.sub (ws' := [(M 0, mO M ca (nI n) ft kn dy (nI fdn) ak pl iw nm (zFb F r ft kn 8) (zDf F r ft kn 8) (zDk F r ft kn 8) sd ik kc kf kk kd ko hh), (M 19, .inl (cI, 9, .inl (zDf F r ft kn))), (M 20, .inl (cI, 8, .inl (zDh F r ft kn))), (M 21, .inl (cI, 4, .inl (fun f => zGs (zDg F r ft kn) r (nI f) 8))), (M 22, .inl (cI, 4, .inl (fun f => zGs (zDe F r ft kn) r (nI f) 8))), (M 7, .inl (cI, 8, .inl r)), (M 27, .inl (cI, 45, .inl u27))]) [2, 3, 4, 5, 6, 0, 1] (by decide) rfl
        exact W.iret hx hb hr (fun t ht hW => ⟨⟨(zFb F r ft kn 8, zDf F r ft kn 8, zDk F r ft kn 8, zDf F r ft kn, zDh F r ft kn, fun f => zGs (zDg F r ft kn) r (nI f) 8, fun f => zGs (zDe F r ft kn) r (nI f) 8, u27), rfl, trivial, by rw [ht]; exact hP9, hD9⟩, hS.F ht⟩) hS.2.2 dX9_shiftNow_60
      · skip
        by_cases q_5_3 : w = 3
        · refine vz_si 3 q_5_3 ?_
          refine lv_tableIn (off := 56) (tgt := 61) hx hb dX9_shiftNow_5 (by decide) (by decide) (by decide) (by decide) ?_
          refine lv_aload_n hx hb dX9_shiftNow_61 rfl (lv_at hl 0 rfl) ?_
          refine va_get (D := D) (cl := vwCl) (tys := zT cI cB cF) (ci := 9) (v := .int (zFb F r ft kn 8)) (C := RX9) (T := TX9) (N := 41) hx hb hts iw_X9_shiftNow_X9 hown hK.1 hQ 2 rfl rfl 23 (by decide) (hts _ hw_X9_shiftNow_4) (fun _ h9 => h9) rfl dX9_shiftNow_62 ?_
          refine lv_iload_n hx hb dX9_shiftNow_65 rfl (lv_at hl 1 rfl) ?_
          refine lv_ishr hx hb dX9_shiftNow_66 ?_
          refine lv_iconst (v := 1) hx hb dX9_shiftNow_67 (by decide) ?_
          refine lv_iand hx hb dX9_shiftNow_68 ?_
          refine vz_si (zSh1 n F r ft kn fs ff fdn s1 w) (by unfold zSh1; rw [if_neg (by rw [q_5_3]; decide), if_neg (by rw [q_5_3]; decide), if_neg (by rw [q_5_3]; decide), if_pos q_5_3]; exact zFb_e hs) ?_
          have hP9 := hP.sub (ws' := [(M 0, mO M ca (nI n) ft kn dy (nI fdn) ak pl iw nm (zFb F r ft kn 8) (zDf F r ft kn 8) (zDk F r ft kn 8) sd ik kc kf kk kd ko hh), (M 19, .inl (cI, 9, .inl (zDf F r ft kn))), (M 20, .inl (cI, 8, .inl (zDh F r ft kn))), (M 21, .inl (cI, 4, .inl (fun f => zGs (zDg F r ft kn) r (nI f) 8))), (M 22, .inl (cI, 4, .inl (fun f => zGs (zDe F r ft kn) r (nI f) 8))), (M 7, .inl (cI, 8, .inl r)), (M 27, .inl (cI, 45, .inl u27))]) [2, 3, 4, 5, 6, 0, 1] rfl
          have hD9 := hD.sub (ws' := [(M 0, mO M ca (nI n) ft kn dy (nI fdn) ak pl iw nm (zFb F r ft kn 8) (zDf F r ft kn 8) (zDk F r ft kn 8) sd ik kc kf kk kd ko hh), (M 19, .inl (cI, 9, .inl (zDf F r ft kn))), (M 20, .inl (cI, 8, .inl (zDh F r ft kn))), (M 21, .inl (cI, 4, .inl (fun f => zGs (zDg F r ft kn) r (nI f) 8))), (M 22, .inl (cI, 4, .inl (fun f => zGs (zDe F r ft kn) r (nI f) 8))), (M 7, .inl (cI, 8, .inl r)), (M 27, .inl (cI, 45, .inl u27))]) [2, 3, 4, 5, 6, 0, 1] (by decide) rfl
          exact W.iret hx hb hr (fun t ht hW => ⟨⟨(zFb F r ft kn 8, zDf F r ft kn 8, zDk F r ft kn 8, zDf F r ft kn, zDh F r ft kn, fun f => zGs (zDg F r ft kn) r (nI f) 8, fun f => zGs (zDe F r ft kn) r (nI f) 8, u27), rfl, trivial, by rw [ht]; exact hP9, hD9⟩, hS.F ht⟩) hS.2.2 dX9_shiftNow_69
        · skip
          by_cases q_5_4 : w = 4
          · refine vz_si 4 q_5_4 ?_
            refine lv_tableIn (off := 65) (tgt := 70) hx hb dX9_shiftNow_5 (by decide) (by decide) (by decide) (by decide) ?_
            refine lv_aload_n hx hb dX9_shiftNow_70 rfl (lv_at hl 0 rfl) ?_
            refine lv_iload_n hx hb dX9_shiftNow_71 rfl (lv_at hl 1 rfl) ?_
            have hFc := va_free (wc := [(M 0, mO M ca (nI n) ft kn dy (nI fdn) ak pl iw nm (zFb F r ft kn 8) (zDf F r ft kn 8) (zDk F r ft kn 8) sd ik kc kf kk kd ko hh), (M 19, .inl (cI, 9, .inl (zDf F r ft kn))), (M 20, .inl (cI, 8, .inl (zDh F r ft kn))), (M 21, .inl (cI, 4, .inl (fun f => zGs (zDg F r ft kn) r (nI f) 8))), (M 22, .inl (cI, 4, .inl (fun f => zGs (zDe F r ft kn) r (nI f) 8))), (M 7, .inl (cI, 8, .inl r)), (M 27, .inl (cI, 45, .inl u27))]) hD hS hA [2, 3, 4, 5, 6, 0, 1] rfl
            refine vz_cw [] [2, 3, 4, 5, 6, 0, 1] [] (va_runV (As := [.int (nI s1)]) (rest := []) FX (c_X9_whoIn l D cI cB cF H.size M ca ft kn dy ak pl iw nm (zFb F r ft kn 8) (zDf F r ft kn 8) (zDk F r ft kn 8) sd ik kc kf kk kd ko hh (zDf F r ft kn) (zDh F r ft kn) (fun f => zGs (zDg F r ft kn) r (nI f) 8) (fun f => zGs (zDe F r ft kn) r (nI f) 8) F r n fdn fs ff u27 s1 (by first | assumption | omega | decide) (by first | assumption | omega | decide) (by first | assumption | omega | decide) (by first | assumption | omega | decide) (by first | assumption | omega | decide) (by first | assumption | omega | decide) (by first | assumption | omega | decide)) (cwV 1 hts gX9_shiftNow_X9_whoIn rfl rfl rfl ⟨rfl, hd_X9_whoIn⟩ ⟨Nat.le_of_ble_eq_true rfl, Nat.le_of_ble_eq_true rfl⟩) (preW_V hQ 2 rfl rfl (hP.sub (ws' := [(M 0, mO M ca (nI n) ft kn dy (nI fdn) ak pl iw nm (zFb F r ft kn 8) (zDf F r ft kn 8) (zDk F r ft kn 8) sd ik kc kf kk kd ko hh), (M 19, .inl (cI, 9, .inl (zDf F r ft kn))), (M 20, .inl (cI, 8, .inl (zDh F r ft kn))), (M 21, .inl (cI, 4, .inl (fun f => zGs (zDg F r ft kn) r (nI f) 8))), (M 22, .inl (cI, 4, .inl (fun f => zGs (zDe F r ft kn) r (nI f) 8))), (M 7, .inl (cI, 8, .inl r)), (M 27, .inl (cI, 45, .inl u27))]) [2, 3, 4, 5, 6, 0, 1] rfl) (hD.sub (ws' := [(M 0, mO M ca (nI n) ft kn dy (nI fdn) ak pl iw nm (zFb F r ft kn 8) (zDf F r ft kn 8) (zDk F r ft kn 8) sd ik kc kf kk kd ko hh), (M 19, .inl (cI, 9, .inl (zDf F r ft kn))), (M 20, .inl (cI, 8, .inl (zDh F r ft kn))), (M 21, .inl (cI, 4, .inl (fun f => zGs (zDg F r ft kn) r (nI f) 8))), (M 22, .inl (cI, 4, .inl (fun f => zGs (zDe F r ft kn) r (nI f) 8))), (M 7, .inl (cI, 8, .inl r)), (M 27, .inl (cI, 45, .inl u27))]) [2, 3, 4, 5, 6, 0, 1] (by decide) rfl) hK (show vz_R D [(M 2, .inl (cI, 4, .inl (fun f => nI (F.1 f)))), (M 3, .inl (cI, 4, .inl F.2.1)), (M 4, .inl (cI, 4, .inl F.2.2)), (M 12, .inl (cI, 6, .inl fs)), (M 13, .inl (cI, 6, .inl ff))] _ _ from (vz_R.cons ((hR.at hS).one hFc (List.mem_of_getElem? (i := 0) rfl)) (vz_R.cons ((hR.at hS).one hFc (List.mem_of_getElem? (i := 1) rfl)) (vz_R.cons ((hR.at hS).one hFc (List.mem_of_getElem? (i := 2) rfl)) (vz_R.cons ((hR.at hS).one hFc (List.mem_of_getElem? (i := 3) rfl)) (vz_R.cons ((hR.at hS).one hFc (List.mem_of_getElem? (i := 4) rfl)) vz_R.nil))))))) rfl rfl hl.1 rfl (lv_room (Nat.le_of_ble_eq_true rfl)) dX9_shiftNow_72 ⟨Nat.le_of_ble_eq_true rfl, Nat.le_of_ble_eq_true rfl⟩) hP hD hS hA rfl rfl rfl (by decide) (fun u H locs hu hP hD hS hz9 hk9 => ?_)
            obtain ⟨z1_72_2, z2_72_2, z3_72_2, z4_72_2, z5_72_2, z6_72_2, z7_72_2, z8_72_2⟩ := u
            have hP : va_P D vwCl [(M 0, mO M ca (nI n) ft kn dy (nI fdn) ak pl iw nm z1_72_2 z2_72_2 z3_72_2 sd ik kc kf kk kd ko hh), (M 19, .inl (cI, 9, .inl z4_72_2)), (M 20, .inl (cI, 8, .inl z5_72_2)), (M 21, .inl (cI, 4, .inl z6_72_2)), (M 22, .inl (cI, 4, .inl z7_72_2)), (M 7, .inl (cI, 8, .inl r)), (M 27, .inl (cI, 45, .inl z8_72_2))] H := hP
            have hD : va_D A [(M 0, mO M ca (nI n) ft kn dy (nI fdn) ak pl iw nm z1_72_2 z2_72_2 z3_72_2 sd ik kc kf kk kd ko hh), (M 19, .inl (cI, 9, .inl z4_72_2)), (M 20, .inl (cI, 8, .inl z5_72_2)), (M 21, .inl (cI, 4, .inl z6_72_2)), (M 22, .inl (cI, 4, .inl z7_72_2)), (M 7, .inl (cI, 8, .inl r)), (M 27, .inl (cI, 45, .inl z8_72_2))] := hD
            have hQ : va_P D vwCl ([(M 0, mO M ca (nI n) ft kn dy (nI fdn) ak pl iw nm z1_72_2 z2_72_2 z3_72_2 sd ik kc kf kk kd ko hh), (M 19, .inl (cI, 9, .inl z4_72_2)), (M 20, .inl (cI, 8, .inl z5_72_2)), (M 21, .inl (cI, 4, .inl z6_72_2)), (M 22, .inl (cI, 4, .inl z7_72_2)), (M 7, .inl (cI, 8, .inl r)), (M 27, .inl (cI, 45, .inl z8_72_2))] ++ [(M 2, .inl (cI, 4, .inl (fun f => nI (F.1 f)))), (M 3, .inl (cI, 4, .inl F.2.1)), (M 4, .inl (cI, 4, .inl F.2.2)), (M 12, .inl (cI, 6, .inl fs)), (M 13, .inl (cI, 6, .inl ff))]) H := va_P.app hP (hR.at hS).P
            show W _ _ _ _ _ _ _ _ _ _ _ _ _ _ _ (F0 m 75 ls [.int (zWb (zOkR F r s1 ft kn fs ff fdn) (n + 1))])
            refine vz_si (zSh1 n F r ft kn fs ff fdn s1 w) (by unfold zSh1; rw [if_neg (by rw [q_5_4]; decide), if_neg (by rw [q_5_4]; decide), if_neg (by rw [q_5_4]; decide), if_neg (by rw [q_5_4]; decide), if_pos q_5_4]) ?_
            have hP9 := hP.sub (ws' := [(M 0, mO M ca (nI n) ft kn dy (nI fdn) ak pl iw nm z1_72_2 z2_72_2 z3_72_2 sd ik kc kf kk kd ko hh), (M 19, .inl (cI, 9, .inl z4_72_2)), (M 20, .inl (cI, 8, .inl z5_72_2)), (M 21, .inl (cI, 4, .inl z6_72_2)), (M 22, .inl (cI, 4, .inl z7_72_2)), (M 7, .inl (cI, 8, .inl r)), (M 27, .inl (cI, 45, .inl z8_72_2))]) [0, 1, 2, 3, 4, 5, 6] rfl
            have hD9 := hD.sub (ws' := [(M 0, mO M ca (nI n) ft kn dy (nI fdn) ak pl iw nm z1_72_2 z2_72_2 z3_72_2 sd ik kc kf kk kd ko hh), (M 19, .inl (cI, 9, .inl z4_72_2)), (M 20, .inl (cI, 8, .inl z5_72_2)), (M 21, .inl (cI, 4, .inl z6_72_2)), (M 22, .inl (cI, 4, .inl z7_72_2)), (M 7, .inl (cI, 8, .inl r)), (M 27, .inl (cI, 45, .inl z8_72_2))]) [0, 1, 2, 3, 4, 5, 6] (by decide) rfl
            exact W.iret hx hb hr (fun t ht hW => ⟨⟨(z1_72_2, z2_72_2, z3_72_2, z4_72_2, z5_72_2, z6_72_2, z7_72_2, z8_72_2), rfl, trivial, by rw [ht]; exact hP9, hD9⟩, hS.F ht⟩) hS.2.2 dX9_shiftNow_75
          · skip
            refine lv_tableOut (tgt := 76) hx hb dX9_shiftNow_5 (by have w_0 := lv_neT (a := 0) q_5_0 rfl; have w_1 := lv_neT (a := 1) q_5_1 rfl; have w_2 := lv_neT (a := 2) q_5_2 rfl; have w_3 := lv_neT (a := 3) q_5_3 rfl; have w_4 := lv_neT (a := 4) q_5_4 rfl; omega) (by decide) ?_
            refine lv_aload_n hx hb dX9_shiftNow_76 rfl (lv_at hl 0 rfl) ?_
            refine lv_iload_n hx hb dX9_shiftNow_77 rfl (lv_at hl 1 rfl) ?_
            have hFc := va_free (wc := [(M 0, mO M ca (nI n) ft kn dy (nI fdn) ak pl iw nm (zFb F r ft kn 8) (zDf F r ft kn 8) (zDk F r ft kn 8) sd ik kc kf kk kd ko hh), (M 19, .inl (cI, 9, .inl (zDf F r ft kn))), (M 20, .inl (cI, 8, .inl (zDh F r ft kn))), (M 21, .inl (cI, 4, .inl (fun f => zGs (zDg F r ft kn) r (nI f) 8))), (M 22, .inl (cI, 4, .inl (fun f => zGs (zDe F r ft kn) r (nI f) 8))), (M 7, .inl (cI, 8, .inl r)), (M 27, .inl (cI, 45, .inl u27))]) hD hS hA [2, 3, 4, 5, 6, 0, 1] rfl
            refine vz_cw [] [2, 3, 4, 5, 6, 0, 1] [] (va_runV (As := [.int (nI s1)]) (rest := []) FX (c_X9_lookFor l D cI cB cF H.size M ca ft kn dy ak pl iw nm (zFb F r ft kn 8) (zDf F r ft kn 8) (zDk F r ft kn 8) sd ik kc kf kk kd ko hh (zDf F r ft kn) (zDh F r ft kn) (fun f => zGs (zDg F r ft kn) r (nI f) 8) (fun f => zGs (zDe F r ft kn) r (nI f) 8) F r n fdn fs ff u27 s1 (by first | assumption | omega | decide) (by first | assumption | omega | decide) (by first | assumption | omega | decide) (by first | assumption | omega | decide) (by first | assumption | omega | decide) (by first | assumption | omega | decide) (by first | assumption | omega | decide) (by first | assumption | omega | decide)) (cwV 1 hts gX9_shiftNow_X9_lookFor rfl rfl rfl ⟨rfl, hd_X9_lookFor⟩ ⟨Nat.le_of_ble_eq_true rfl, Nat.le_of_ble_eq_true rfl⟩) (preW_V hQ 2 rfl rfl (hP.sub (ws' := [(M 0, mO M ca (nI n) ft kn dy (nI fdn) ak pl iw nm (zFb F r ft kn 8) (zDf F r ft kn 8) (zDk F r ft kn 8) sd ik kc kf kk kd ko hh), (M 19, .inl (cI, 9, .inl (zDf F r ft kn))), (M 20, .inl (cI, 8, .inl (zDh F r ft kn))), (M 21, .inl (cI, 4, .inl (fun f => zGs (zDg F r ft kn) r (nI f) 8))), (M 22, .inl (cI, 4, .inl (fun f => zGs (zDe F r ft kn) r (nI f) 8))), (M 7, .inl (cI, 8, .inl r)), (M 27, .inl (cI, 45, .inl u27))]) [2, 3, 4, 5, 6, 0, 1] rfl) (hD.sub (ws' := [(M 0, mO M ca (nI n) ft kn dy (nI fdn) ak pl iw nm (zFb F r ft kn 8) (zDf F r ft kn 8) (zDk F r ft kn 8) sd ik kc kf kk kd ko hh), (M 19, .inl (cI, 9, .inl (zDf F r ft kn))), (M 20, .inl (cI, 8, .inl (zDh F r ft kn))), (M 21, .inl (cI, 4, .inl (fun f => zGs (zDg F r ft kn) r (nI f) 8))), (M 22, .inl (cI, 4, .inl (fun f => zGs (zDe F r ft kn) r (nI f) 8))), (M 7, .inl (cI, 8, .inl r)), (M 27, .inl (cI, 45, .inl u27))]) [2, 3, 4, 5, 6, 0, 1] (by decide) rfl) hK (show vz_R D [(M 2, .inl (cI, 4, .inl (fun f => nI (F.1 f)))), (M 3, .inl (cI, 4, .inl F.2.1)), (M 4, .inl (cI, 4, .inl F.2.2)), (M 12, .inl (cI, 6, .inl fs)), (M 13, .inl (cI, 6, .inl ff))] _ _ from (vz_R.cons ((hR.at hS).one hFc (List.mem_of_getElem? (i := 0) rfl)) (vz_R.cons ((hR.at hS).one hFc (List.mem_of_getElem? (i := 1) rfl)) (vz_R.cons ((hR.at hS).one hFc (List.mem_of_getElem? (i := 2) rfl)) (vz_R.cons ((hR.at hS).one hFc (List.mem_of_getElem? (i := 3) rfl)) (vz_R.cons ((hR.at hS).one hFc (List.mem_of_getElem? (i := 4) rfl)) vz_R.nil))))))) rfl rfl hl.1 rfl (lv_room (Nat.le_of_ble_eq_true rfl)) dX9_shiftNow_78 ⟨Nat.le_of_ble_eq_true rfl, Nat.le_of_ble_eq_true rfl⟩) hP hD hS hA rfl rfl rfl (by decide) (fun u H locs hu hP hD hS hz9 hk9 => ?_)
            obtain ⟨z1_78_3, z2_78_3, z3_78_3, z4_78_3, z5_78_3, z6_78_3, z7_78_3, z8_78_3⟩ := u
            have hP : va_P D vwCl [(M 0, mO M ca (nI n) ft kn dy (nI fdn) ak pl iw nm z1_78_3 z2_78_3 z3_78_3 sd ik kc kf kk kd ko hh), (M 19, .inl (cI, 9, .inl z4_78_3)), (M 20, .inl (cI, 8, .inl z5_78_3)), (M 21, .inl (cI, 4, .inl z6_78_3)), (M 22, .inl (cI, 4, .inl z7_78_3)), (M 7, .inl (cI, 8, .inl r)), (M 27, .inl (cI, 45, .inl z8_78_3))] H := hP
            have hD : va_D A [(M 0, mO M ca (nI n) ft kn dy (nI fdn) ak pl iw nm z1_78_3 z2_78_3 z3_78_3 sd ik kc kf kk kd ko hh), (M 19, .inl (cI, 9, .inl z4_78_3)), (M 20, .inl (cI, 8, .inl z5_78_3)), (M 21, .inl (cI, 4, .inl z6_78_3)), (M 22, .inl (cI, 4, .inl z7_78_3)), (M 7, .inl (cI, 8, .inl r)), (M 27, .inl (cI, 45, .inl z8_78_3))] := hD
            have hQ : va_P D vwCl ([(M 0, mO M ca (nI n) ft kn dy (nI fdn) ak pl iw nm z1_78_3 z2_78_3 z3_78_3 sd ik kc kf kk kd ko hh), (M 19, .inl (cI, 9, .inl z4_78_3)), (M 20, .inl (cI, 8, .inl z5_78_3)), (M 21, .inl (cI, 4, .inl z6_78_3)), (M 22, .inl (cI, 4, .inl z7_78_3)), (M 7, .inl (cI, 8, .inl r)), (M 27, .inl (cI, 45, .inl z8_78_3))] ++ [(M 2, .inl (cI, 4, .inl (fun f => nI (F.1 f)))), (M 3, .inl (cI, 4, .inl F.2.1)), (M 4, .inl (cI, 4, .inl F.2.2)), (M 12, .inl (cI, 6, .inl fs)), (M 13, .inl (cI, 6, .inl ff))]) H := va_P.app hP (hR.at hS).P
            show W _ _ _ _ _ _ _ _ _ _ _ _ _ _ _ (F0 m 81 ls [.int (zLk F r n s1 ft kn fs ff fdn)])
            refine vz_si (zSh1 n F r ft kn fs ff fdn s1 w) (by rw [z_w5 hw q_5_0 q_5_1 q_5_2 q_5_3 q_5_4]; rfl) ?_
            have hP9 := hP.sub (ws' := [(M 0, mO M ca (nI n) ft kn dy (nI fdn) ak pl iw nm z1_78_3 z2_78_3 z3_78_3 sd ik kc kf kk kd ko hh), (M 19, .inl (cI, 9, .inl z4_78_3)), (M 20, .inl (cI, 8, .inl z5_78_3)), (M 21, .inl (cI, 4, .inl z6_78_3)), (M 22, .inl (cI, 4, .inl z7_78_3)), (M 7, .inl (cI, 8, .inl r)), (M 27, .inl (cI, 45, .inl z8_78_3))]) [0, 1, 2, 3, 4, 5, 6] rfl
            have hD9 := hD.sub (ws' := [(M 0, mO M ca (nI n) ft kn dy (nI fdn) ak pl iw nm z1_78_3 z2_78_3 z3_78_3 sd ik kc kf kk kd ko hh), (M 19, .inl (cI, 9, .inl z4_78_3)), (M 20, .inl (cI, 8, .inl z5_78_3)), (M 21, .inl (cI, 4, .inl z6_78_3)), (M 22, .inl (cI, 4, .inl z7_78_3)), (M 7, .inl (cI, 8, .inl r)), (M 27, .inl (cI, 45, .inl z8_78_3))]) [0, 1, 2, 3, 4, 5, 6] (by decide) rfl
            exact W.iret hx hb hr (fun t ht hW => ⟨⟨(z1_78_3, z2_78_3, z3_78_3, z4_78_3, z5_78_3, z6_78_3, z7_78_3, z8_78_3), rfl, trivial, by rw [ht]; exact hP9, hD9⟩, hS.F ht⟩) hS.2.2 dX9_shiftNow_81
set_option maxRecDepth 100000 in
theorem hd_X9_shift : yX9_shift.cls ≠ "java/lang/invoke/MethodHandle" ∧ yX9_shift.cls ≠ "java/lang/invoke/VarHandle" ∧ (parseMethodDescriptor yX9_shift.desc).map (fun d => d.parameters.length) = some 2 := by decide +kernel
set_option maxHeartbeats 4000000 in
set_option maxRecDepth 100000 in
theorem c_X9_shift (l : Launch) (D : va_G) (cI cB cF : ClassId) (sz : Nat) (M : Nat → Nat) (ca : Int32) (ft : Int32) (kn : Int32) (dy : Int32) (ak : Int32) (pl : Int32) (iw : Int32) (nm : Int32) (fi : Int32) (nf : Int32) (nk : Int32) (sd : Int64) (ik : Int32) (kc : Int32) (kf : Int32) (kk : Int32) (kd : Int32) (ko : Int32) (hh : Int64) (g1 : Nat → Int32) (g2 : Nat → Int32) (ga : Nat → Int32) (fb : Nat → Int32) (F : zF) (r : Nat → Int32) (n : Nat) (fdn : Nat) (fs : Nat → Int32) (ff : Nat → Int32) (u27 : Nat → Int32) (s0 : Int32) (w : Int32) (hn : n ≤ 4) (hF : zFo n F) (hro0 : 0 < n → zRo n r) (hkn : zKb kn) (hfd : fdn ≤ 6) (hfs : ∀ i, i < fdn → ∃ j, j < 9 ∧ fs i = nI j) (hft : ∃ j, j ≤ 9 ∧ ft = nI j) : Met l yX9_shift wsX9_shift ({ frames := 7, cells := 0, slots := 0, locals := 164 } : Room) (PcW D cI cB cF [.ref (M 0), .int s0, .int w] sz [(M 0, mO M ca (nI n) ft kn dy (nI fdn) ak pl iw nm fi nf nk sd ik kc kf kk kd ko hh), (M 19, .inl (cI, 9, .inl g1)), (M 20, .inl (cI, 8, .inl g2)), (M 21, .inl (cI, 4, .inl ga)), (M 22, .inl (cI, 4, .inl fb)), (M 7, .inl (cI, 8, .inl r)), (M 27, .inl (cI, 45, .inl u27))] [(M 2, .inl (cI, 4, .inl (fun f => nI (F.1 f)))), (M 3, .inl (cI, 4, .inl F.2.1)), (M 4, .inl (cI, 4, .inl F.2.2)), (M 12, .inl (cI, 6, .inl fs)), (M 13, .inl (cI, 6, .inl ff))]) (Qw D (S := Int32 × Int32 × Int32 × (Nat → Int32) × (Nat → Int32) × (Nat → Int32) × (Nat → Int32) × (Nat → Int32)) (fun xx => some (.int (zSho n F r ft kn fs ff fdn s0 w))) (fun xx => True) (fun xx => [(M 0, mO M ca (nI n) ft kn dy (nI fdn) ak pl iw nm xx.1 xx.2.1 xx.2.2.1 sd ik kc kf kk kd ko hh), (M 19, .inl (cI, 9, .inl xx.2.2.2.1)), (M 20, .inl (cI, 8, .inl xx.2.2.2.2.1)), (M 21, .inl (cI, 4, .inl xx.2.2.2.2.2.1)), (M 22, .inl (cI, 4, .inl xx.2.2.2.2.2.2.1)), (M 7, .inl (cI, 8, .inl r)), (M 27, .inl (cI, 45, .inl xx.2.2.2.2.2.2.2))]) (va_A [(M 0, mO M ca (nI n) ft kn dy (nI fdn) ak pl iw nm fi nf nk sd ik kc kf kk kd ko hh), (M 19, .inl (cI, 9, .inl g1)), (M 20, .inl (cI, 8, .inl g2)), (M 21, .inl (cI, 4, .inl ga)), (M 22, .inl (cI, 4, .inl fb)), (M 7, .inl (cI, 8, .inl r)), (M 27, .inl (cI, 45, .inl u27))] sz)) 0 0 (va_A [(M 0, mO M ca (nI n) ft kn dy (nI fdn) ak pl iw nm fi nf nk sd ik kc kf kk kd ko hh), (M 19, .inl (cI, 9, .inl g1)), (M 20, .inl (cI, 8, .inl g2)), (M 21, .inl (cI, 4, .inl ga)), (M 22, .inl (cI, 4, .inl fb)), (M 7, .inl (cI, 8, .inl r)), (M 27, .inl (cI, 45, .inl u27))] sz) := by
  refine Met.ofW (cc := cX9_shift) (maxL := 3) (ret := (some .int)) (by decide) rfl ?_
  intro p e s m args below meth c s₁ Bd hml hv
  rw [show (headSpec wsX9_shift ({ frames := 7, cells := 0, slots := 0, locals := 164 } : Room)).room = ({ frames := 7, cells := 0, slots := 0, locals := 164 } : Room) from rfl]
  obtain ⟨rfl, hsz, hP, hK, hD0, hR⟩ := hv
  have hx := Bd.exec
  have hb := Bd.bytes
  have hr := Bd.returns
  have hts := atoms_spec (ws := wsX9_shift) Bd.pre
  have hown : s.vm.findClass RX9 = some m.cls := findClass_of_methodNamed Bd.named
  have hlocks := Bd.notSynchronized
  have FX : CallFix p m c cX9_shift 3 s _ wsX9_shift RX9 := ⟨hx, hb, hml, hown, hts⟩
  subst hsz
  have hD := hD0.self (sz := s.heap.size)
  generalize hAe : va_A [(M 0, mO M ca (nI n) ft kn dy (nI fdn) ak pl iw nm fi nf nk sd ik kc kf kk kd ko hh), (M 19, .inl (cI, 9, .inl g1)), (M 20, .inl (cI, 8, .inl g2)), (M 21, .inl (cI, 4, .inl ga)), (M 22, .inl (cI, 4, .inl fb)), (M 7, .inl (cI, 8, .inl r)), (M 27, .inl (cI, 45, .inl u27))] s.heap.size = A at hD hR ⊢
  have hA : ∀ q : Nat, s.heap.size ≤ q → A q := fun q h => by rw [← hAe]; exact Or.inr h
  have hS : va_S A s.heap s.heap [] := va_S.rf
  have hP : va_P D vwCl [(M 0, mO M ca (nI n) ft kn dy (nI fdn) ak pl iw nm fi nf nk sd ik kc kf kk kd ko hh), (M 19, .inl (cI, 9, .inl g1)), (M 20, .inl (cI, 8, .inl g2)), (M 21, .inl (cI, 4, .inl ga)), (M 22, .inl (cI, 4, .inl fb)), (M 7, .inl (cI, 8, .inl r)), (M 27, .inl (cI, 45, .inl u27))] s.heap := hP
  have hQ : va_P D vwCl ([(M 0, mO M ca (nI n) ft kn dy (nI fdn) ak pl iw nm fi nf nk sd ik kc kf kk kd ko hh), (M 19, .inl (cI, 9, .inl g1)), (M 20, .inl (cI, 8, .inl g2)), (M 21, .inl (cI, 4, .inl ga)), (M 22, .inl (cI, 4, .inl fb)), (M 7, .inl (cI, 8, .inl r)), (M 27, .inl (cI, 45, .inl u27))] ++ [(M 2, .inl (cI, 4, .inl (fun f => nI (F.1 f)))), (M 3, .inl (cI, 4, .inl F.2.1)), (M 4, .inl (cI, 4, .inl F.2.2)), (M 12, .inl (cI, 6, .inl fs)), (M 13, .inl (cI, 6, .inl ff))]) s.heap := va_P.app hP (hR.at hS).P
  have hl := lv_entry ([.ref (M 0), .int s0, .int w]) (n := 3) (Nat.le_of_ble_eq_true rfl)
  rw [lg_entry_eq]
  generalize (lg_sl ([.ref (M 0), .int s0, .int w]) ++ List.replicate (3 - (lg_sl ([.ref (M 0), .int s0, .int w])).length) Slot.unset).toArray = ls at hl ⊢
  have hl : lv_has ls 3 [(0, .ref (M 0)), (1, .int s0), (2, .int w)] := hl
  refine lv_aload_n hx hb dX9_shift_0 rfl (lv_at hl 0 rfl) ?_
  refine lv_iload_n hx hb dX9_shift_1 rfl (lv_at hl 1 rfl) ?_
  refine vz_rd (va_runV (As := [.int s0]) (rest := []) FX (c_X9_isShift l D cI cB cF M ca ft kn dy (nI fdn) ak pl iw nm fi nf nk sd ik kc kf kk kd ko hh n s0 (by first | assumption | omega | decide)) (cwV 1 hts gX9_shift_X9_isShift rfl rfl rfl ⟨rfl, hd_X9_isShift⟩ ⟨Nat.le_of_ble_eq_true rfl, Nat.le_of_ble_eq_true rfl⟩) (preP_V hQ 0 rfl rfl (hQ.sub (ws' := [(M 0, mO M ca (nI n) ft kn dy (nI fdn) ak pl iw nm fi nf nk sd ik kc kf kk kd ko hh)]) [0] rfl) hK) rfl rfl hl.1 rfl (lv_room (Nat.le_of_ble_eq_true rfl)) dX9_shift_2 ⟨Nat.le_of_ble_eq_true rfl, Nat.le_of_ble_eq_true rfl⟩) ?_
  refine lv_if_ne (tgt := 13) hx hb dX9_shift_5 (by decide) (fun c_5 => ?_) (fun c_5 => ?_)
  · have b_5 : (decide (0 < n) && zIn s0 0 7) = true := zb_t c_5
    have hpos : 0 < n := of_decide_eq_true (z_and_l b_5)
    have hro := hro0 hpos
    obtain ⟨s1, hs, rfl⟩ := z_s8 (z_and_r b_5)
    refine lv_iload_n hx hb dX9_shift_13 rfl (lv_at hl 2 rfl) ?_
    refine lv_iconst (v := 0) hx hb dX9_shift_14 (by decide) ?_
    refine lv_iconst (v := 5) hx hb dX9_shift_15 (by decide) ?_
    refine vz_rd (va_runS (As := [.int w, .int 0, .int 5]) (rest := []) FX (c_X9_within l D cI cB cF w 0 5 ) (va_cwS 3 hts gX9_shift_X9_within rfl rfl rfl hd_X9_within ⟨Nat.le_of_ble_eq_true rfl, Nat.le_of_ble_eq_true rfl⟩) (preP_S (hQ.sub (ws' := []) [] rfl) hK) rfl rfl hl.1 rfl (lv_room (Nat.le_of_ble_eq_true rfl)) dX9_shift_16 ⟨Nat.le_of_ble_eq_true rfl, Nat.le_of_ble_eq_true rfl⟩) ?_
    refine lv_if_eq (tgt := 31) hx hb dX9_shift_19 (by decide) (fun c_19 => ?_) (fun c_19 => ?_)
    · have b_19 : (zIn w 0 5) = false := zb_f c_19
      refine lv_bipush (v := (-102)) hx hb dX9_shift_31 (by decide) ?_
      refine vz_si (zSho n F r ft kn fs ff fdn (nI s1) w) (by rw [zSho, if_pos b_5, zSh1_out b_19]) ?_
      have hP9 := hP.sub (ws' := [(M 0, mO M ca (nI n) ft kn dy (nI fdn) ak pl iw nm fi nf nk sd ik kc kf kk kd ko hh), (M 19, .inl (cI, 9, .inl g1)), (M 20, .inl (cI, 8, .inl g2)), (M 21, .inl (cI, 4, .inl ga)), (M 22, .inl (cI, 4, .inl fb)), (M 7, .inl (cI, 8, .inl r)), (M 27, .inl (cI, 45, .inl u27))]) [0, 1, 2, 3, 4, 5, 6] rfl
      have hD9 := hD.sub (ws' := [(M 0, mO M ca (nI n) ft kn dy (nI fdn) ak pl iw nm fi nf nk sd ik kc kf kk kd ko hh), (M 19, .inl (cI, 9, .inl g1)), (M 20, .inl (cI, 8, .inl g2)), (M 21, .inl (cI, 4, .inl ga)), (M 22, .inl (cI, 4, .inl fb)), (M 7, .inl (cI, 8, .inl r)), (M 27, .inl (cI, 45, .inl u27))]) [0, 1, 2, 3, 4, 5, 6] (by decide) rfl
      exact W.iret hx hb hr (fun t ht hW => ⟨⟨(fi, nf, nk, g1, g2, ga, fb, u27), rfl, trivial, by rw [ht]; exact hP9, hD9⟩, hS.F ht⟩) hS.2.2 dX9_shift_33
    · have b_19 : (zIn w 0 5) = true := zb_t c_19
      refine lv_aload_n hx hb dX9_shift_22 rfl (lv_at hl 0 rfl) ?_
      refine lv_iload_n hx hb dX9_shift_23 rfl (lv_at hl 1 rfl) ?_
      refine lv_iload_n hx hb dX9_shift_24 rfl (lv_at hl 2 rfl) ?_
      have hFc := va_free (wc := [(M 0, mO M ca (nI n) ft kn dy (nI fdn) ak pl iw nm fi nf nk sd ik kc kf kk kd ko hh), (M 19, .inl (cI, 9, .inl g1)), (M 20, .inl (cI, 8, .inl g2)), (M 21, .inl (cI, 4, .inl ga)), (M 22, .inl (cI, 4, .inl fb)), (M 7, .inl (cI, 8, .inl r)), (M 27, .inl (cI, 45, .inl u27))]) hD hS hA [0, 1, 2, 3, 4, 5, 6] rfl
      refine vz_cw [] [0, 1, 2, 3, 4, 5, 6] [] (va_runV (As := [.int (nI s1), .int w]) (rest := []) FX (c_X9_shiftNow l D cI cB cF s.heap.size M ca ft kn dy ak pl iw nm fi nf nk sd ik kc kf kk kd ko hh g1 g2 ga fb F r n fdn fs ff u27 s1 w (by first | assumption | omega | decide) (by first | assumption | omega | decide) (by first | assumption | omega | decide) (by first | assumption | omega | decide) (by first | assumption | omega | decide) (by first | assumption | omega | decide) (by first | assumption | omega | decide) (by first | assumption | omega | decide) b_19) (cwV 2 hts gX9_shift_X9_shiftNow rfl rfl rfl ⟨rfl, hd_X9_shiftNow⟩ ⟨Nat.le_of_ble_eq_true rfl, Nat.le_of_ble_eq_true rfl⟩) (preW_V hQ 0 rfl rfl (hP.sub (ws' := [(M 0, mO M ca (nI n) ft kn dy (nI fdn) ak pl iw nm fi nf nk sd ik kc kf kk kd ko hh), (M 19, .inl (cI, 9, .inl g1)), (M 20, .inl (cI, 8, .inl g2)), (M 21, .inl (cI, 4, .inl ga)), (M 22, .inl (cI, 4, .inl fb)), (M 7, .inl (cI, 8, .inl r)), (M 27, .inl (cI, 45, .inl u27))]) [0, 1, 2, 3, 4, 5, 6] rfl) (hD.sub (ws' := [(M 0, mO M ca (nI n) ft kn dy (nI fdn) ak pl iw nm fi nf nk sd ik kc kf kk kd ko hh), (M 19, .inl (cI, 9, .inl g1)), (M 20, .inl (cI, 8, .inl g2)), (M 21, .inl (cI, 4, .inl ga)), (M 22, .inl (cI, 4, .inl fb)), (M 7, .inl (cI, 8, .inl r)), (M 27, .inl (cI, 45, .inl u27))]) [0, 1, 2, 3, 4, 5, 6] (by decide) rfl) hK (show vz_R D [(M 2, .inl (cI, 4, .inl (fun f => nI (F.1 f)))), (M 3, .inl (cI, 4, .inl F.2.1)), (M 4, .inl (cI, 4, .inl F.2.2)), (M 12, .inl (cI, 6, .inl fs)), (M 13, .inl (cI, 6, .inl ff))] _ _ from (vz_R.cons ((hR.at hS).one hFc (List.mem_of_getElem? (i := 0) rfl)) (vz_R.cons ((hR.at hS).one hFc (List.mem_of_getElem? (i := 1) rfl)) (vz_R.cons ((hR.at hS).one hFc (List.mem_of_getElem? (i := 2) rfl)) (vz_R.cons ((hR.at hS).one hFc (List.mem_of_getElem? (i := 3) rfl)) (vz_R.cons ((hR.at hS).one hFc (List.mem_of_getElem? (i := 4) rfl)) vz_R.nil))))))) rfl rfl hl.1 rfl (lv_room (Nat.le_of_ble_eq_true rfl)) dX9_shift_25 ⟨Nat.le_of_ble_eq_true rfl, Nat.le_of_ble_eq_true rfl⟩) hP hD hS hA rfl rfl rfl (by decide) (fun u H locs hu hP hD hS hz9 hk9 => ?_)
      obtain ⟨z1_25_1, z2_25_1, z3_25_1, z4_25_1, z5_25_1, z6_25_1, z7_25_1, z8_25_1⟩ := u
      have hP : va_P D vwCl [(M 0, mO M ca (nI n) ft kn dy (nI fdn) ak pl iw nm z1_25_1 z2_25_1 z3_25_1 sd ik kc kf kk kd ko hh), (M 19, .inl (cI, 9, .inl z4_25_1)), (M 20, .inl (cI, 8, .inl z5_25_1)), (M 21, .inl (cI, 4, .inl z6_25_1)), (M 22, .inl (cI, 4, .inl z7_25_1)), (M 7, .inl (cI, 8, .inl r)), (M 27, .inl (cI, 45, .inl z8_25_1))] H := hP
      have hD : va_D A [(M 0, mO M ca (nI n) ft kn dy (nI fdn) ak pl iw nm z1_25_1 z2_25_1 z3_25_1 sd ik kc kf kk kd ko hh), (M 19, .inl (cI, 9, .inl z4_25_1)), (M 20, .inl (cI, 8, .inl z5_25_1)), (M 21, .inl (cI, 4, .inl z6_25_1)), (M 22, .inl (cI, 4, .inl z7_25_1)), (M 7, .inl (cI, 8, .inl r)), (M 27, .inl (cI, 45, .inl z8_25_1))] := hD
      have hQ : va_P D vwCl ([(M 0, mO M ca (nI n) ft kn dy (nI fdn) ak pl iw nm z1_25_1 z2_25_1 z3_25_1 sd ik kc kf kk kd ko hh), (M 19, .inl (cI, 9, .inl z4_25_1)), (M 20, .inl (cI, 8, .inl z5_25_1)), (M 21, .inl (cI, 4, .inl z6_25_1)), (M 22, .inl (cI, 4, .inl z7_25_1)), (M 7, .inl (cI, 8, .inl r)), (M 27, .inl (cI, 45, .inl z8_25_1))] ++ [(M 2, .inl (cI, 4, .inl (fun f => nI (F.1 f)))), (M 3, .inl (cI, 4, .inl F.2.1)), (M 4, .inl (cI, 4, .inl F.2.2)), (M 12, .inl (cI, 6, .inl fs)), (M 13, .inl (cI, 6, .inl ff))]) H := va_P.app hP (hR.at hS).P
      show W _ _ _ _ _ _ _ _ _ _ _ _ _ _ _ (F0 m 28 ls [.int (zSh1 n F r ft kn fs ff fdn s1 w)])
      refine lv_goto (tgt := 33) hx hb dX9_shift_28 (by decide) ?_
      refine vz_si (zSho n F r ft kn fs ff fdn (nI s1) w) (by rw [zSho, if_pos b_5, nI_clamp (by omega)]) ?_
      have hP9 := hP.sub (ws' := [(M 0, mO M ca (nI n) ft kn dy (nI fdn) ak pl iw nm z1_25_1 z2_25_1 z3_25_1 sd ik kc kf kk kd ko hh), (M 19, .inl (cI, 9, .inl z4_25_1)), (M 20, .inl (cI, 8, .inl z5_25_1)), (M 21, .inl (cI, 4, .inl z6_25_1)), (M 22, .inl (cI, 4, .inl z7_25_1)), (M 7, .inl (cI, 8, .inl r)), (M 27, .inl (cI, 45, .inl z8_25_1))]) [0, 1, 2, 3, 4, 5, 6] rfl
      have hD9 := hD.sub (ws' := [(M 0, mO M ca (nI n) ft kn dy (nI fdn) ak pl iw nm z1_25_1 z2_25_1 z3_25_1 sd ik kc kf kk kd ko hh), (M 19, .inl (cI, 9, .inl z4_25_1)), (M 20, .inl (cI, 8, .inl z5_25_1)), (M 21, .inl (cI, 4, .inl z6_25_1)), (M 22, .inl (cI, 4, .inl z7_25_1)), (M 7, .inl (cI, 8, .inl r)), (M 27, .inl (cI, 45, .inl z8_25_1))]) [0, 1, 2, 3, 4, 5, 6] (by decide) rfl
      exact W.iret hx hb hr (fun t ht hW => ⟨⟨(z1_25_1, z2_25_1, z3_25_1, z4_25_1, z5_25_1, z6_25_1, z7_25_1, z8_25_1), rfl, trivial, by rw [ht]; exact hP9, hD9⟩, hS.F ht⟩) hS.2.2 dX9_shift_33
  · have b_5 : (decide (0 < n) && zIn s0 0 7) = false := zb_f c_5
    refine lv_bipush (v := (-101)) hx hb dX9_shift_8 (by decide) ?_
    refine lv_goto (tgt := 33) hx hb dX9_shift_10 (by decide) ?_
    refine vz_si (zSho n F r ft kn fs ff fdn s0 w) (by rw [zSho, if_neg (by rw [b_5]; decide)]) ?_
    have hP9 := hP.sub (ws' := [(M 0, mO M ca (nI n) ft kn dy (nI fdn) ak pl iw nm fi nf nk sd ik kc kf kk kd ko hh), (M 19, .inl (cI, 9, .inl g1)), (M 20, .inl (cI, 8, .inl g2)), (M 21, .inl (cI, 4, .inl ga)), (M 22, .inl (cI, 4, .inl fb)), (M 7, .inl (cI, 8, .inl r)), (M 27, .inl (cI, 45, .inl u27))]) [0, 1, 2, 3, 4, 5, 6] rfl
    have hD9 := hD.sub (ws' := [(M 0, mO M ca (nI n) ft kn dy (nI fdn) ak pl iw nm fi nf nk sd ik kc kf kk kd ko hh), (M 19, .inl (cI, 9, .inl g1)), (M 20, .inl (cI, 8, .inl g2)), (M 21, .inl (cI, 4, .inl ga)), (M 22, .inl (cI, 4, .inl fb)), (M 7, .inl (cI, 8, .inl r)), (M 27, .inl (cI, 45, .inl u27))]) [0, 1, 2, 3, 4, 5, 6] (by decide) rfl
    exact W.iret hx hb hr (fun t ht hW => ⟨⟨(fi, nf, nk, g1, g2, ga, fb, u27), rfl, trivial, by rw [ht]; exact hP9, hD9⟩, hS.F ht⟩) hS.2.2 dX9_shift_33
