set_option maxHeartbeats 4000000 in
set_option maxRecDepth 100000 in
theorem c_X9_as_k (l : Launch) (D : va_G) (cI cB cF : ClassId) (M : Nat → Nat) (ca : Int32) (ft : Int32) (kn : Int32) (dy : Int32) (fd : Int32) (ak : Int32) (pl : Int32) (iw : Int32) (nm : Int32) (fi : Int32) (nf : Int32) (nk : Int32) (sd : Int64) (ik : Int32) (kc : Int32) (kf : Int32) (kk : Int32) (kd : Int32) (ko : Int32) (hh : Int64) (n : Nat) (F : zF) (i : Int32) (kq : Int32) (hn : n ≤ 4) (hF : zFo n F) : Met l yX9_as wsX9_as ({ frames := 2, cells := 0, slots := 0, locals := 43 } : Room) (PcP D cI cB cF [.ref (M 0), .int i, .int kq] [(M 0, mO M ca (nI n) ft kn dy fd ak pl iw nm fi nf nk sd ik kc kf kk kd ko hh), (M 2, .inl (cI, 4, .inl (fun f => nI (F.1 f))))]) (QcV (.int (zAs n F i kq))) 0 0 (fun _ => False) := by
  refine Met.ofW (cc := cX9_as) (maxL := 4) (ret := (some .int)) (by decide) rfl ?_
  intro p e s m args below meth c s₁ Bd hml hv
  rw [show (headSpec wsX9_as ({ frames := 2, cells := 0, slots := 0, locals := 43 } : Room)).room = ({ frames := 2, cells := 0, slots := 0, locals := 43 } : Room) from rfl]
  obtain ⟨rfl, hQ, hK⟩ := hv
  have hx := Bd.exec
  have hb := Bd.bytes
  have hr := Bd.returns
  have hts := atoms_spec (ws := wsX9_as) Bd.pre
  have hown : s.vm.findClass RX9 = some m.cls := findClass_of_methodNamed Bd.named
  have hlocks := Bd.notSynchronized
  have FX : CallFix p m c cX9_as 4 s _ wsX9_as RX9 := ⟨hx, hb, hml, hown, hts⟩
  have hQ : va_P D vwCl [(M 0, mO M ca (nI n) ft kn dy fd ak pl iw nm fi nf nk sd ik kc kf kk kd ko hh), (M 2, .inl (cI, 4, .inl (fun f => nI (F.1 f))))] s.heap := hQ
  have hl := lv_entry ([.ref (M 0), .int i, .int kq]) (n := 4) (Nat.le_of_ble_eq_true rfl)
  rw [lg_entry_eq]
  generalize (lg_sl ([.ref (M 0), .int i, .int kq]) ++ List.replicate (4 - (lg_sl ([.ref (M 0), .int i, .int kq])).length) Slot.unset).toArray = ls at hl ⊢
  have hl : lv_has ls 4 [(0, .ref (M 0)), (1, .int i), (2, .int kq)] := hl
  refine lv_aload_n hx hb dX9_as_0 rfl (lv_at hl 0 rfl) ?_
  refine lv_iload_n hx hb dX9_as_1 rfl (lv_at hl 1 rfl) ?_
  refine vz_rd (va_runV (As := [.int i]) (rest := []) FX (c_X9_isFather l D cI cB cF M ca ft kn dy fd ak pl iw nm fi nf nk sd ik kc kf kk kd ko hh n i ) (cwV 1 hts gX9_as_X9_isFather rfl rfl rfl ⟨rfl, hd_X9_isFather⟩ ⟨Nat.le_of_ble_eq_true rfl, Nat.le_of_ble_eq_true rfl⟩) (preP_V hQ 0 rfl rfl (hQ.sub (ws' := [(M 0, mO M ca (nI n) ft kn dy fd ak pl iw nm fi nf nk sd ik kc kf kk kd ko hh)]) [0] rfl) hK) rfl rfl hl.1 rfl (lv_room (Nat.le_of_ble_eq_true rfl)) dX9_as_2 ⟨Nat.le_of_ble_eq_true rfl, Nat.le_of_ble_eq_true rfl⟩) ?_
  refine lv_if_ne (tgt := 11) hx hb dX9_as_5 (by decide) (fun c_5 => ?_) (fun c_5 => ?_)
  · have b_5 : (zIn i 0 (nI n - 1)) = true := zb_t c_5
    obtain ⟨f, hf, rfl⟩ := z_f8 hn b_5
    refine lv_iload_n hx hb dX9_as_11 rfl (lv_at hl 2 rfl) ?_
    refine lv_iconst (v := 0) hx hb dX9_as_12 (by decide) ?_
    refine lv_iconst (v := 4) hx hb dX9_as_13 (by decide) ?_
    refine vz_rd (va_runS (As := [.int kq, .int 0, .int 4]) (rest := []) FX (c_X9_within l D cI cB cF kq 0 4 ) (va_cwS 3 hts gX9_as_X9_within rfl rfl rfl hd_X9_within ⟨Nat.le_of_ble_eq_true rfl, Nat.le_of_ble_eq_true rfl⟩) (preP_S (hQ.sub (ws' := []) [] rfl) hK) rfl rfl hl.1 rfl (lv_room (Nat.le_of_ble_eq_true rfl)) dX9_as_14 ⟨Nat.le_of_ble_eq_true rfl, Nat.le_of_ble_eq_true rfl⟩) ?_
    refine lv_if_ne (tgt := 23) hx hb dX9_as_17 (by decide) (fun c_17 => ?_) (fun c_17 => ?_)
    · have b_17 : (zIn kq 0 4) = true := zb_t c_17
      refine lv_aload_n hx hb dX9_as_23 rfl (lv_at hl 0 rfl) ?_
      refine va_get (D := D) (cl := vwCl) (tys := zT cI cB cF) (ci := 9) (v := .ref (M 2)) (C := RX9) (T := TX9) (N := 41) hx hb hts iw_X9_as_X9 hown hK.1 hQ 0 rfl rfl 2 (by decide) (hts _ hw_X9_as_1) (fun _ h9 => h9) rfl dX9_as_24 ?_
      refine lv_iload_n hx hb dX9_as_27 rfl (lv_at hl 1 rfl) ?_
      refine va_iald (D := D) (cl := vwCl) (tys := zT cI cB cF) (f := (fun f => nI (F.1 f))) hx hb hK.1 hQ 1 0 rfl rfl (vp_in_nI (by omega) (by omega)) dX9_as_28 ?_
      refine vz_si (nI (F.1 f)) (by rw [nI_clamp (n := f) (by omega)]) ?_
      refine lv_istore_n (lv' := [(3, .int (nI (F.1 f))), (0, .ref (M 0)), (1, .int (nI f)), (2, .int kq)]) hx hb dX9_as_29 rfl hl (by decide) rfl (fun ls hl => ?_)
      refine lv_iload_n hx hb dX9_as_30 rfl (lv_at hl 3 rfl) ?_
      refine lv_if_eq (tgt := 49) hx hb dX9_as_31 (by decide) (fun c_31 => ?_) (fun c_31 => ?_)
      · refine lv_iload_n hx hb dX9_as_49 rfl (lv_at hl 2 rfl) ?_
        refine lv_goto (tgt := 54) hx hb dX9_as_50 (by decide) ?_
        refine vz_si (zAs n F (nI f) kq) (by rw [zAs, if_pos (z_inf hf hn), if_pos b_17, nI_clamp (by omega), zIs_ref (hF f hf).1 b_17]; first | rw [if_pos (by rw [decide_eq_true c_31]; rfl)] | rw [if_pos (by rw [decide_eq_true c_36, Bool.true_or, Bool.or_true])] | rw [if_pos (by rw [decide_eq_true c_41, decide_eq_true c_46, Bool.true_and, Bool.or_true, Bool.or_true])] | rw [if_neg (by rw [decide_eq_false c_31, decide_eq_false c_36, decide_eq_false c_41, Bool.false_and]; decide)] | rw [if_neg (by rw [decide_eq_false c_31, decide_eq_false c_36, decide_eq_false c_46, Bool.and_false]; decide)]) ?_
        exact W.iret hx hb hr (fun t ht hW => ⟨rfl, ht⟩) (fun q h => by cases h) dX9_as_54
      · refine lv_iload_n hx hb dX9_as_34 rfl (lv_at hl 0 rfl) ?_
        refine lv_iload_n hx hb dX9_as_35 rfl (lv_at hl 3 rfl) ?_
        refine lv_icmp_eq (tgt := 49) hx hb dX9_as_36 (by decide) (fun c_36 => ?_) (fun c_36 => ?_)
        · refine lv_iload_n hx hb dX9_as_49 rfl (lv_at hl 2 rfl) ?_
          refine lv_goto (tgt := 54) hx hb dX9_as_50 (by decide) ?_
          refine vz_si (zAs n F (nI f) kq) (by rw [zAs, if_pos (z_inf hf hn), if_pos b_17, nI_clamp (by omega), zIs_ref (hF f hf).1 b_17]; first | rw [if_pos (by rw [decide_eq_true c_31]; rfl)] | rw [if_pos (by rw [decide_eq_true c_36, Bool.true_or, Bool.or_true])] | rw [if_pos (by rw [decide_eq_true c_41, decide_eq_true c_46, Bool.true_and, Bool.or_true, Bool.or_true])] | rw [if_neg (by rw [decide_eq_false c_31, decide_eq_false c_36, decide_eq_false c_41, Bool.false_and]; decide)] | rw [if_neg (by rw [decide_eq_false c_31, decide_eq_false c_36, decide_eq_false c_46, Bool.and_false]; decide)]) ?_
          exact W.iret hx hb hr (fun t ht hW => ⟨rfl, ht⟩) (fun q h => by cases h) dX9_as_54
        · refine lv_iload_n hx hb dX9_as_39 rfl (lv_at hl 3 rfl) ?_
          refine lv_iconst (v := 1) hx hb dX9_as_40 (by decide) ?_
          refine lv_icmp_ne (tgt := 53) hx hb dX9_as_41 (by decide) (fun c_41 => ?_) (fun c_41 => ?_)
          · refine lv_iconst (v := (-1)) hx hb dX9_as_53 (by decide) ?_
            refine vz_si (zAs n F (nI f) kq) (by rw [zAs, if_pos (z_inf hf hn), if_pos b_17, nI_clamp (by omega), zIs_ref (hF f hf).1 b_17]; first | rw [if_pos (by rw [decide_eq_true c_31]; rfl)] | rw [if_pos (by rw [decide_eq_true c_36, Bool.true_or, Bool.or_true])] | rw [if_pos (by rw [decide_eq_true c_41, decide_eq_true c_46, Bool.true_and, Bool.or_true, Bool.or_true])] | rw [if_neg (by rw [decide_eq_false c_31, decide_eq_false c_36, decide_eq_false c_41, Bool.false_and]; decide)] | rw [if_neg (by rw [decide_eq_false c_31, decide_eq_false c_36, decide_eq_false c_46, Bool.and_false]; decide)]) ?_
            exact W.iret hx hb hr (fun t ht hW => ⟨rfl, ht⟩) (fun q h => by cases h) dX9_as_54
          · refine lv_iload_n hx hb dX9_as_44 rfl (lv_at hl 0 rfl) ?_
            refine lv_iconst (v := 4) hx hb dX9_as_45 (by decide) ?_
            refine lv_icmp_ne (tgt := 53) hx hb dX9_as_46 (by decide) (fun c_46 => ?_) (fun c_46 => ?_)
            · refine lv_iconst (v := (-1)) hx hb dX9_as_53 (by decide) ?_
              refine vz_si (zAs n F (nI f) kq) (by rw [zAs, if_pos (z_inf hf hn), if_pos b_17, nI_clamp (by omega), zIs_ref (hF f hf).1 b_17]; first | rw [if_pos (by rw [decide_eq_true c_31]; rfl)] | rw [if_pos (by rw [decide_eq_true c_36, Bool.true_or, Bool.or_true])] | rw [if_pos (by rw [decide_eq_true c_41, decide_eq_true c_46, Bool.true_and, Bool.or_true, Bool.or_true])] | rw [if_neg (by rw [decide_eq_false c_31, decide_eq_false c_36, decide_eq_false c_41, Bool.false_and]; decide)] | rw [if_neg (by rw [decide_eq_false c_31, decide_eq_false c_36, decide_eq_false c_46, Bool.and_false]; decide)]) ?_
              exact W.iret hx hb hr (fun t ht hW => ⟨rfl, ht⟩) (fun q h => by cases h) dX9_as_54
            · refine lv_iload_n hx hb dX9_as_49 rfl (lv_at hl 2 rfl) ?_
              refine lv_goto (tgt := 54) hx hb dX9_as_50 (by decide) ?_
              refine vz_si (zAs n F (nI f) kq) (by rw [zAs, if_pos (z_inf hf hn), if_pos b_17, nI_clamp (by omega), zIs_ref (hF f hf).1 b_17]; first | rw [if_pos (by rw [decide_eq_true c_31]; rfl)] | rw [if_pos (by rw [decide_eq_true c_36, Bool.true_or, Bool.or_true])] | rw [if_pos (by rw [decide_eq_true c_41, decide_eq_true c_46, Bool.true_and, Bool.or_true, Bool.or_true])] | rw [if_neg (by rw [decide_eq_false c_31, decide_eq_false c_36, decide_eq_false c_41, Bool.false_and]; decide)] | rw [if_neg (by rw [decide_eq_false c_31, decide_eq_false c_36, decide_eq_false c_46, Bool.and_false]; decide)]) ?_
              exact W.iret hx hb hr (fun t ht hW => ⟨rfl, ht⟩) (fun q h => by cases h) dX9_as_54
    · have b_17 : (zIn kq 0 4) = false := zb_f c_17
      refine lv_bipush (v := (-102)) hx hb dX9_as_20 (by decide) ?_
      refine vz_si (zAs n F (nI f) kq) (by rw [zAs, if_pos (z_inf hf hn), if_neg (by rw [b_17]; decide)]) ?_
      exact W.iret hx hb hr (fun t ht hW => ⟨rfl, ht⟩) (fun q h => by cases h) dX9_as_22
  · have b_5 : (zIn i 0 (nI n - 1)) = false := zb_f c_5
    refine lv_bipush (v := (-101)) hx hb dX9_as_8 (by decide) ?_
    refine vz_si (zAs n F i kq) (by rw [zAs, if_neg (by rw [b_5]; decide)]) ?_
    exact W.iret hx hb hr (fun t ht hW => ⟨rfl, ht⟩) (fun q h => by cases h) dX9_as_10
