set_option maxRecDepth 100000 in
theorem hw_X8_isOfKind_1 : (.classLink RX8 284 "RotaFathers$Copt" : Cond) ∈ wsX8_isOfKind := List.mem_of_getElem? (i := 1) rfl
set_option maxRecDepth 100000 in
theorem hw_X8_isOfKind_2 : (.classLink RX8 286 "RotaFathers$Syrian" : Cond) ∈ wsX8_isOfKind := List.mem_of_getElem? (i := 2) rfl
set_option maxRecDepth 100000 in
theorem hw_X8_isOfKind_3 : (.classLink RX8 288 "RotaFathers$Spoiler" : Cond) ∈ wsX8_isOfKind := List.mem_of_getElem? (i := 3) rfl
set_option maxRecDepth 100000 in
theorem hw_X8_isOfKind_4 : (.classLink RX8 290 "RotaFathers$Abbot" : Cond) ∈ wsX8_isOfKind := List.mem_of_getElem? (i := 4) rfl
set_option maxRecDepth 100000 in
theorem hd_X8_isOfKind : yX8_isOfKind.cls ≠ "java/lang/invoke/MethodHandle" ∧ yX8_isOfKind.cls ≠ "java/lang/invoke/VarHandle" ∧ (parseMethodDescriptor yX8_isOfKind.desc).map (fun d => d.parameters.length) = some 2 := by decide +kernel
set_option maxHeartbeats 4000000 in
set_option maxRecDepth 100000 in
theorem c_X8_isOfKind (l : Launch) (D : va_G) (cI cB cF : ClassId) (fa0 : Nat) (k : Nat) (fl : Int32) (st : Int32) (kd : Int32) (hk : k < 5) : Met l yX8_isOfKind wsX8_isOfKind ({ frames := 0, cells := 0, slots := 0, locals := 0 } : Room) (PcP D cI cB cF [.ref fa0, .int kd] [(fa0, zO k fl st)]) (QcV (.int (zb (zIs k kd)))) 0 0 (fun _ => False) := by
  refine Met.ofW (cc := cX8_isOfKind) (maxL := 2) (ret := (some .boolean)) (by decide) rfl ?_
  intro p e s m args below meth c s₁ Bd hml hv
  rw [show (headSpec wsX8_isOfKind ({ frames := 0, cells := 0, slots := 0, locals := 0 } : Room)).room = ({ frames := 0, cells := 0, slots := 0, locals := 0 } : Room) from rfl]
  obtain ⟨rfl, hQ, hK⟩ := hv
  have hx := Bd.exec
  have hb := Bd.bytes
  have hr := Bd.returns
  have hts := atoms_spec (ws := wsX8_isOfKind) Bd.pre
  have hown : s.vm.findClass RX8 = some m.cls := findClass_of_methodNamed Bd.named
  have hlocks := Bd.notSynchronized
  have FX : CallFix p m c cX8_isOfKind 2 s _ wsX8_isOfKind RX8 := ⟨hx, hb, hml, hown, hts⟩
  have hQ : va_P D vwCl [(fa0, zO k fl st)] s.heap := hQ
  have hl := lv_entry ([.ref fa0, .int kd]) (n := 2) (Nat.le_of_ble_eq_true rfl)
  rw [lg_entry_eq]
  generalize (lg_sl ([.ref fa0, .int kd]) ++ List.replicate (2 - (lg_sl ([.ref fa0, .int kd])).length) Slot.unset).toArray = ls at hl ⊢
  have hl : lv_has ls 2 [(0, .ref fa0), (1, .int kd)] := hl
  refine lv_iload_n hx hb dX8_isOfKind_0 rfl (lv_at hl 1 rfl) ?_
  by_cases q_1_0 : kd = 0
  · refine vz_si 0 q_1_0 ?_
    refine lv_tableIn (off := 35) (tgt := 36) hx hb dX8_isOfKind_1 (by decide) (by decide) (by decide) (by decide) ?_
    refine lv_iconst (v := 1) hx hb dX8_isOfKind_36 (by decide) ?_
    refine vz_si (zb (zIs k kd)) (by unfold zIs; rw [if_pos q_1_0]; rfl) ?_
    exact W.zret hx hb hr (zb_nar _) (fun t ht hW => ⟨rfl, ht⟩) (fun q h => by cases h) dX8_isOfKind_37
  · skip
    by_cases q_1_1 : kd = 1
    · refine vz_si 1 q_1_1 ?_
      refine lv_tableIn (off := 37) (tgt := 38) hx hb dX8_isOfKind_1 (by decide) (by decide) (by decide) (by decide) ?_
      refine lv_aload_n hx hb dX8_isOfKind_38 rfl (lv_at hl 0 rfl) ?_
      refine vz_inst_C hx hb hown (hts _ hw_X8_isOfKind_1) hK hQ 0 hk rfl dX8_isOfKind_39 ?_
      refine vz_si (zb (zIs k kd)) (by unfold zIs; rw [if_neg (by rw [q_1_1]; decide), if_pos q_1_1]) ?_
      exact W.zret hx hb hr (zb_nar _) (fun t ht hW => ⟨rfl, ht⟩) (fun q h => by cases h) dX8_isOfKind_42
    · skip
      by_cases q_1_2 : kd = 2
      · refine vz_si 2 q_1_2 ?_
        refine lv_tableIn (off := 42) (tgt := 43) hx hb dX8_isOfKind_1 (by decide) (by decide) (by decide) (by decide) ?_
        refine lv_aload_n hx hb dX8_isOfKind_43 rfl (lv_at hl 0 rfl) ?_
        refine vz_inst_S hx hb hown (hts _ hw_X8_isOfKind_2) hK hQ 0 hk rfl dX8_isOfKind_44 ?_
        refine vz_si (zb (zIs k kd)) (by unfold zIs; rw [if_neg (by rw [q_1_2]; decide), if_neg (by rw [q_1_2]; decide), if_pos q_1_2]) ?_
        exact W.zret hx hb hr (zb_nar _) (fun t ht hW => ⟨rfl, ht⟩) (fun q h => by cases h) dX8_isOfKind_47
      · skip
        by_cases q_1_3 : kd = 3
        · refine vz_si 3 q_1_3 ?_
          refine lv_tableIn (off := 47) (tgt := 48) hx hb dX8_isOfKind_1 (by decide) (by decide) (by decide) (by decide) ?_
          refine lv_aload_n hx hb dX8_isOfKind_48 rfl (lv_at hl 0 rfl) ?_
          refine vz_inst_P hx hb hown (hts _ hw_X8_isOfKind_3) hK hQ 0 hk rfl dX8_isOfKind_49 ?_
          refine vz_si (zb (zIs k kd)) (by unfold zIs; rw [if_neg (by rw [q_1_3]; decide), if_neg (by rw [q_1_3]; decide), if_neg (by rw [q_1_3]; decide), if_pos q_1_3]) ?_
          exact W.zret hx hb hr (zb_nar _) (fun t ht hW => ⟨rfl, ht⟩) (fun q h => by cases h) dX8_isOfKind_52
        · skip
          by_cases q_1_4 : kd = 4
          · refine vz_si 4 q_1_4 ?_
            refine lv_tableIn (off := 52) (tgt := 53) hx hb dX8_isOfKind_1 (by decide) (by decide) (by decide) (by decide) ?_
            refine lv_aload_n hx hb dX8_isOfKind_53 rfl (lv_at hl 0 rfl) ?_
            refine vz_inst_A hx hb hown (hts _ hw_X8_isOfKind_4) hK hQ 0 hk rfl dX8_isOfKind_54 ?_
            refine vz_si (zb (zIs k kd)) (by unfold zIs; rw [if_neg (by rw [q_1_4]; decide), if_neg (by rw [q_1_4]; decide), if_neg (by rw [q_1_4]; decide), if_neg (by rw [q_1_4]; decide), if_pos q_1_4]) ?_
            exact W.zret hx hb hr (zb_nar _) (fun t ht hW => ⟨rfl, ht⟩) (fun q h => by cases h) dX8_isOfKind_57
          · skip
            refine lv_tableOut (tgt := 58) hx hb dX8_isOfKind_1 (by have w_0 := lv_neT (a := 0) q_1_0 rfl; have w_1 := lv_neT (a := 1) q_1_1 rfl; have w_2 := lv_neT (a := 2) q_1_2 rfl; have w_3 := lv_neT (a := 3) q_1_3 rfl; have w_4 := lv_neT (a := 4) q_1_4 rfl; omega) (by decide) ?_
            refine lv_iconst (v := 0) hx hb dX8_isOfKind_58 (by decide) ?_
            refine vz_si (zb (zIs k kd)) (by unfold zIs; rw [if_neg q_1_0, if_neg q_1_1, if_neg q_1_2, if_neg q_1_3, if_neg q_1_4]; rfl) ?_
            exact W.zret hx hb hr (zb_nar _) (fun t ht hW => ⟨rfl, ht⟩) (fun q h => by cases h) dX8_isOfKind_59
set_option maxRecDepth 100000 in
theorem iw_X8_hasCave_X8 : ∀ w ∈ u_ws RX8 TX8 13, w ∈ wsX8_hasCave := fun w h => List.mem_cons_of_mem _ (List.mem_append_right _ h)
set_option maxRecDepth 100000 in
theorem hw_X8_hasCave_1 : (.fieldLink RX8 84 "RotaFathers" "fatherCount" "I" : Cond) ∈ wsX8_hasCave := List.mem_of_getElem? (i := 1) rfl
set_option maxRecDepth 100000 in
theorem hd_X8_hasCave : yX8_hasCave.cls ≠ "java/lang/invoke/MethodHandle" ∧ yX8_hasCave.cls ≠ "java/lang/invoke/VarHandle" ∧ (parseMethodDescriptor yX8_hasCave.desc).map (fun d => d.parameters.length) = some 0 := by decide +kernel
set_option maxHeartbeats 4000000 in
set_option maxRecDepth 100000 in
theorem c_X8_hasCave (l : Launch) (D : va_G) (cI cB cF : ClassId) (x0 : Nat) (pg0 : Nat) (fr : Nat) (nw : Nat) (kp : Nat) (t0 : Nat) (pn : Nat) (bw : Nat) (ta : Nat) (bm : Int32) (n : Nat) (cv : Int32) (bd : Int32) (hi : Int32) (hn : n ≤ 4) : Met l yX8_hasCave wsX8_hasCave ({ frames := 0, cells := 0, slots := 0, locals := 0 } : Room) (PcP D cI cB cF [.ref x0] [(x0, .inr (8, [.ref pg0, .ref fr, .ref nw, .ref kp, .ref t0, .ref pn, .ref bw, .ref ta, .int bm, .int (nI n), .int cv, .int bd, .int hi]))]) (QcV (.int (zb (decide (0 < n))))) 0 0 (fun _ => False) := by
  refine Met.ofW (cc := cX8_hasCave) (maxL := 1) (ret := (some .boolean)) (by decide) rfl ?_
  intro p e s m args below meth c s₁ Bd hml hv
  rw [show (headSpec wsX8_hasCave ({ frames := 0, cells := 0, slots := 0, locals := 0 } : Room)).room = ({ frames := 0, cells := 0, slots := 0, locals := 0 } : Room) from rfl]
  obtain ⟨rfl, hQ, hK⟩ := hv
  have hx := Bd.exec
  have hb := Bd.bytes
  have hr := Bd.returns
  have hts := atoms_spec (ws := wsX8_hasCave) Bd.pre
  have hown : s.vm.findClass RX8 = some m.cls := findClass_of_methodNamed Bd.named
  have hlocks := Bd.notSynchronized
  have FX : CallFix p m c cX8_hasCave 1 s _ wsX8_hasCave RX8 := ⟨hx, hb, hml, hown, hts⟩
  have hQ : va_P D vwCl [(x0, .inr (8, [.ref pg0, .ref fr, .ref nw, .ref kp, .ref t0, .ref pn, .ref bw, .ref ta, .int bm, .int (nI n), .int cv, .int bd, .int hi]))] s.heap := hQ
  have hl := lv_entry ([.ref x0]) (n := 1) (Nat.le_of_ble_eq_true rfl)
  rw [lg_entry_eq]
  generalize (lg_sl ([.ref x0]) ++ List.replicate (1 - (lg_sl ([.ref x0])).length) Slot.unset).toArray = ls at hl ⊢
  have hl : lv_has ls 1 [(0, .ref x0)] := hl
  refine lv_aload_n hx hb dX8_hasCave_0 rfl (lv_at hl 0 rfl) ?_
  refine va_get (D := D) (cl := vwCl) (tys := zT cI cB cF) (ci := 8) (v := .int (nI n)) (C := RX8) (T := TX8) (N := 13) hx hb hts iw_X8_hasCave_X8 hown hK.1 hQ 0 rfl rfl 9 (by decide) (hts _ hw_X8_hasCave_1) (fun _ h9 => h9) rfl dX8_hasCave_1 ?_
  refine lv_if_le (tgt := 11) hx hb dX8_hasCave_4 (by decide) (fun c_4 => ?_) (fun c_4 => ?_)
  · refine lv_iconst (v := 0) hx hb dX8_hasCave_11 (by decide) ?_
    refine vz_si (zb (decide (0 < n))) (by first | (rw [decide_eq_true (by rcases Nat.eq_zero_or_pos n with h | h; exact absurd (by rw [h]; decide) c_4; exact h)]; rfl) | (rw [decide_eq_false (fun h => absurd c_4 (nI_nle h (by omega)))]; rfl)) ?_
    exact W.zret hx hb hr (zb_nar _) (fun t ht hW => ⟨rfl, ht⟩) (fun q h => by cases h) dX8_hasCave_12
  · refine lv_iconst (v := 1) hx hb dX8_hasCave_7 (by decide) ?_
    refine lv_goto (tgt := 12) hx hb dX8_hasCave_8 (by decide) ?_
    refine vz_si (zb (decide (0 < n))) (by first | (rw [decide_eq_true (by rcases Nat.eq_zero_or_pos n with h | h; exact absurd (by rw [h]; decide) c_4; exact h)]; rfl) | (rw [decide_eq_false (fun h => absurd c_4 (nI_nle h (by omega)))]; rfl)) ?_
    exact W.zret hx hb hr (zb_nar _) (fun t ht hW => ⟨rfl, ht⟩) (fun q h => by cases h) dX8_hasCave_12
set_option maxRecDepth 100000 in
theorem hd_X8_isShift : yX8_isShift.cls ≠ "java/lang/invoke/MethodHandle" ∧ yX8_isShift.cls ≠ "java/lang/invoke/VarHandle" ∧ (parseMethodDescriptor yX8_isShift.desc).map (fun d => d.parameters.length) = some 1 := by decide +kernel
set_option maxHeartbeats 4000000 in
set_option maxRecDepth 100000 in
theorem c_X8_isShift (l : Launch) (D : va_G) (cI cB cF : ClassId) (x0 : Nat) (pg0 : Nat) (fr : Nat) (nw : Nat) (kp : Nat) (t0 : Nat) (pn : Nat) (bw : Nat) (ta : Nat) (bm : Int32) (n : Nat) (cv : Int32) (bd : Int32) (hi : Int32) (i : Int32) (hn : n ≤ 4) : Met l yX8_isShift wsX8_isShift ({ frames := 1, cells := 0, slots := 0, locals := 20 } : Room) (PcP D cI cB cF [.ref x0, .int i] [(x0, .inr (8, [.ref pg0, .ref fr, .ref nw, .ref kp, .ref t0, .ref pn, .ref bw, .ref ta, .int bm, .int (nI n), .int cv, .int bd, .int hi]))]) (QcV (.int (zb (decide (0 < n) && zIn i 0 7)))) 0 0 (fun _ => False) := by
  refine Met.ofW (cc := cX8_isShift) (maxL := 2) (ret := (some .boolean)) (by decide) rfl ?_
  intro p e s m args below meth c s₁ Bd hml hv
  rw [show (headSpec wsX8_isShift ({ frames := 1, cells := 0, slots := 0, locals := 20 } : Room)).room = ({ frames := 1, cells := 0, slots := 0, locals := 20 } : Room) from rfl]
  obtain ⟨rfl, hQ, hK⟩ := hv
  have hx := Bd.exec
  have hb := Bd.bytes
  have hr := Bd.returns
  have hts := atoms_spec (ws := wsX8_isShift) Bd.pre
  have hown : s.vm.findClass RX8 = some m.cls := findClass_of_methodNamed Bd.named
  have hlocks := Bd.notSynchronized
  have FX : CallFix p m c cX8_isShift 2 s _ wsX8_isShift RX8 := ⟨hx, hb, hml, hown, hts⟩
  have hQ : va_P D vwCl [(x0, .inr (8, [.ref pg0, .ref fr, .ref nw, .ref kp, .ref t0, .ref pn, .ref bw, .ref ta, .int bm, .int (nI n), .int cv, .int bd, .int hi]))] s.heap := hQ
  have hl := lv_entry ([.ref x0, .int i]) (n := 2) (Nat.le_of_ble_eq_true rfl)
  rw [lg_entry_eq]
  generalize (lg_sl ([.ref x0, .int i]) ++ List.replicate (2 - (lg_sl ([.ref x0, .int i])).length) Slot.unset).toArray = ls at hl ⊢
  have hl : lv_has ls 2 [(0, .ref x0), (1, .int i)] := hl
  refine lv_aload_n hx hb dX8_isShift_0 rfl (lv_at hl 0 rfl) ?_
  refine vz_rd (va_runV (As := []) (rest := []) FX (c_X8_hasCave l D cI cB cF x0 pg0 fr nw kp t0 pn bw ta bm n cv bd hi (by first | assumption | omega | decide)) (cwV 0 hts gX8_isShift_X8_hasCave rfl rfl rfl ⟨rfl, hd_X8_hasCave⟩ ⟨Nat.le_of_ble_eq_true rfl, Nat.le_of_ble_eq_true rfl⟩) (preP_V hQ 0 rfl rfl (hQ.sub (ws' := [(x0, .inr (8, [.ref pg0, .ref fr, .ref nw, .ref kp, .ref t0, .ref pn, .ref bw, .ref ta, .int bm, .int (nI n), .int cv, .int bd, .int hi]))]) [0] rfl) hK) rfl rfl hl.1 rfl (lv_room (Nat.le_of_ble_eq_true rfl)) dX8_isShift_1 ⟨Nat.le_of_ble_eq_true rfl, Nat.le_of_ble_eq_true rfl⟩) ?_
  refine lv_if_eq (tgt := 21) hx hb dX8_isShift_4 (by decide) (fun c_4 => ?_) (fun c_4 => ?_)
  · have b_4 : (decide (0 < n)) = false := zb_f c_4
    refine lv_iconst (v := 0) hx hb dX8_isShift_21 (by decide) ?_
    refine vz_si (zb (decide (0 < n) && zIn i 0 7)) (by unfold zIn; first | (rw [b_4]; rfl) | (rw [b_4, decide_eq_true c_8]; rfl) | (rw [b_4, decide_eq_false c_8, decide_eq_true ((z_le8 i).mp c_14)]; rfl) | (rw [b_4, decide_eq_false c_8, decide_eq_false (fun h => c_14 ((z_le8 i).mpr h))]; rfl)) ?_
    exact W.zret hx hb hr (zb_nar _) (fun t ht hW => ⟨rfl, ht⟩) (fun q h => by cases h) dX8_isShift_22
  · have b_4 : (decide (0 < n)) = true := zb_t c_4
    refine lv_iload_n hx hb dX8_isShift_7 rfl (lv_at hl 1 rfl) ?_
    refine lv_if_lt (tgt := 21) hx hb dX8_isShift_8 (by decide) (fun c_8 => ?_) (fun c_8 => ?_)
    · refine lv_iconst (v := 0) hx hb dX8_isShift_21 (by decide) ?_
      refine vz_si (zb (decide (0 < n) && zIn i 0 7)) (by unfold zIn; first | (rw [b_4]; rfl) | (rw [b_4, decide_eq_true c_8]; rfl) | (rw [b_4, decide_eq_false c_8, decide_eq_true ((z_le8 i).mp c_14)]; rfl) | (rw [b_4, decide_eq_false c_8, decide_eq_false (fun h => c_14 ((z_le8 i).mpr h))]; rfl)) ?_
      exact W.zret hx hb hr (zb_nar _) (fun t ht hW => ⟨rfl, ht⟩) (fun q h => by cases h) dX8_isShift_22
    · refine lv_iload_n hx hb dX8_isShift_11 rfl (lv_at hl 1 rfl) ?_
      refine lv_bipush (v := 8) hx hb dX8_isShift_12 (by decide) ?_
      refine lv_icmp_ge (tgt := 21) hx hb dX8_isShift_14 (by decide) (fun c_14 => ?_) (fun c_14 => ?_)
      · refine lv_iconst (v := 0) hx hb dX8_isShift_21 (by decide) ?_
        refine vz_si (zb (decide (0 < n) && zIn i 0 7)) (by unfold zIn; first | (rw [b_4]; rfl) | (rw [b_4, decide_eq_true c_8]; rfl) | (rw [b_4, decide_eq_false c_8, decide_eq_true ((z_le8 i).mp c_14)]; rfl) | (rw [b_4, decide_eq_false c_8, decide_eq_false (fun h => c_14 ((z_le8 i).mpr h))]; rfl)) ?_
        exact W.zret hx hb hr (zb_nar _) (fun t ht hW => ⟨rfl, ht⟩) (fun q h => by cases h) dX8_isShift_22
      · refine lv_iconst (v := 1) hx hb dX8_isShift_17 (by decide) ?_
        refine lv_goto (tgt := 22) hx hb dX8_isShift_18 (by decide) ?_
        refine vz_si (zb (decide (0 < n) && zIn i 0 7)) (by unfold zIn; first | (rw [b_4]; rfl) | (rw [b_4, decide_eq_true c_8]; rfl) | (rw [b_4, decide_eq_false c_8, decide_eq_true ((z_le8 i).mp c_14)]; rfl) | (rw [b_4, decide_eq_false c_8, decide_eq_false (fun h => c_14 ((z_le8 i).mpr h))]; rfl)) ?_
        exact W.zret hx hb hr (zb_nar _) (fun t ht hW => ⟨rfl, ht⟩) (fun q h => by cases h) dX8_isShift_22
set_option maxRecDepth 100000 in
theorem iw_X8_plannedDay_X8 : ∀ w ∈ u_ws RX8 TX8 13, w ∈ wsX8_plannedDay := fun w h => List.mem_cons_of_mem _ (List.mem_append_left _ (List.mem_append_left _ (List.mem_append_left _ (List.mem_append_left _ (List.mem_append_left _ (List.mem_append_left _ (List.mem_append_left _ (List.mem_append_right _ h))))))))
set_option maxRecDepth 100000 in
theorem hw_X8_plannedDay_1 : (.fieldLink RX8 35 "RotaFathers" "trial" "LRotaFathers$TrialDay;" : Cond) ∈ wsX8_plannedDay := List.mem_of_getElem? (i := 1) rfl
set_option maxRecDepth 100000 in
theorem hw_X8_plannedDay_2 : (.fieldLink RX8 18 "RotaFathers" "fathers" "[LRotaFathers$Father;" : Cond) ∈ wsX8_plannedDay := List.mem_of_getElem? (i := 2) rfl
set_option maxRecDepth 100000 in
theorem hw_X8_plannedDay_3 : (.fieldLink RX8 39 "RotaFathers" "plan" "[I" : Cond) ∈ wsX8_plannedDay := List.mem_of_getElem? (i := 3) rfl
set_option maxRecDepth 100000 in
theorem hw_X8_plannedDay_4 : (.fieldLink RX8 25 "RotaFathers" "now" "LRotaFathers$Lived;" : Cond) ∈ wsX8_plannedDay := List.mem_of_getElem? (i := 4) rfl
set_option maxRecDepth 100000 in
theorem iw_X8_plannedDay_X3 : ∀ w ∈ u_ws RX3 TX3 9, w ∈ wsX8_plannedDay := fun w h => List.mem_cons_of_mem _ (List.mem_append_left _ (List.mem_append_left _ (List.mem_append_left _ (List.mem_append_left _ (List.mem_append_left _ (List.mem_append_left _ (List.mem_append_right _ h)))))))
set_option maxRecDepth 100000 in
theorem hw_X8_plannedDay_5 : (.fieldLink RX8 164 "RotaFathers$Lived" "fit" "I" : Cond) ∈ wsX8_plannedDay := List.mem_of_getElem? (i := 5) rfl
set_option maxRecDepth 100000 in
theorem hw_X8_plannedDay_6 : (.fieldLink RX8 114 "RotaFathers$Lived" "known" "I" : Cond) ∈ wsX8_plannedDay := List.mem_of_getElem? (i := 6) rfl
set_option maxRecDepth 100000 in
theorem hd_X8_plannedDay : yX8_plannedDay.cls ≠ "java/lang/invoke/MethodHandle" ∧ yX8_plannedDay.cls ≠ "java/lang/invoke/VarHandle" ∧ (parseMethodDescriptor yX8_plannedDay.desc).map (fun d => d.parameters.length) = some 0 := by decide +kernel
set_option maxHeartbeats 4000000 in
set_option maxRecDepth 100000 in
theorem c_X8_plannedDay (l : Launch) (D : va_G) (cI cB cF : ClassId) (sz : Nat) (x0 : Nat) (pg0 : Nat) (fr : Nat) (nw : Nat) (kp : Nat) (t0 : Nat) (pn : Nat) (bw : Nat) (ta : Nat) (t1 : Nat) (t2 : Nat) (t3 : Nat) (t4 : Nat) (n1 : Nat) (n2 : Nat) (n3 : Nat) (n4 : Nat) (n5 : Nat) (fd : Nat) (ft : Int32) (kn : Int32) (dy : Int32) (bm : Int32) (n : Nat) (cv : Int32) (bd : Int32) (hi : Int32) (kn0 : Int32) (me0 : Int32) (fa0 : Int32) (f1 : Nat → Int32) (f2 : Nat → Int32) (f3 : Nat → Int32) (f4 : Nat → Int32) (B : Nat → Nat) (F : zF) (r : Nat → Int32) (hn : n ≤ 4) (hF : ∀ f, f < n → F.1 f < 5) (hro : zRo n r) : Met l yX8_plannedDay wsX8_plannedDay ({ frames := 3, cells := 0, slots := 0, locals := 73 } : Room) (PcW D cI cB cF [.ref x0] sz [(t0, .inr (7, [.ref t1, .ref t2, .ref t3, .ref t4, .int kn0, .int me0, .int fa0])), (t1, .inl (cI, 9, .inl f1)), (t2, .inl (cI, 8, .inl f2)), (t3, .inl (cI, 8, .inl f3)), (t4, .inl (cI, 8, .inl f4))] ([(x0, .inr (8, [.ref pg0, .ref fr, .ref nw, .ref kp, .ref t0, .ref pn, .ref bw, .ref ta, .int bm, .int (nI n), .int cv, .int bd, .int hi])), (nw, .inr (3, [.ref n1, .ref n2, .ref n3, .ref n4, .ref n5, .int (nI fd), .int ft, .int kn, .int dy])), (fr, .inl (cF, 4, .inr (.inr (.inr (.inr (zG n B)))))), (pn, .inl (cI, 8, .inl r))] ++ (zPo n B F))) (Qw D (S := Unit) (fun xx => some (.ref t0)) (fun xx => True) (fun xx => [(t0, .inr (7, [.ref t1, .ref t2, .ref t3, .ref t4, .int (zDk F r ft kn 8), .int (zSum (zDg F r ft kn) 8), .int (zSum (zDe F r ft kn) 8)])), (t1, .inl (cI, 9, .inl (zDf F r ft kn))), (t2, .inl (cI, 8, .inl (zDh F r ft kn))), (t3, .inl (cI, 8, .inl (zDg F r ft kn))), (t4, .inl (cI, 8, .inl (zDe F r ft kn)))]) (va_A [(t0, .inr (7, [.ref t1, .ref t2, .ref t3, .ref t4, .int kn0, .int me0, .int fa0])), (t1, .inl (cI, 9, .inl f1)), (t2, .inl (cI, 8, .inl f2)), (t3, .inl (cI, 8, .inl f3)), (t4, .inl (cI, 8, .inl f4))] sz)) 0 0 (va_A [(t0, .inr (7, [.ref t1, .ref t2, .ref t3, .ref t4, .int kn0, .int me0, .int fa0])), (t1, .inl (cI, 9, .inl f1)), (t2, .inl (cI, 8, .inl f2)), (t3, .inl (cI, 8, .inl f3)), (t4, .inl (cI, 8, .inl f4))] sz) := by
  refine Met.ofW (cc := cX8_plannedDay) (maxL := 1) (ret := (some (.object "RotaFathers$TrialDay"))) (by decide) rfl ?_
  intro p e s m args below meth c s₁ Bd hml hv
  rw [show (headSpec wsX8_plannedDay ({ frames := 3, cells := 0, slots := 0, locals := 73 } : Room)).room = ({ frames := 3, cells := 0, slots := 0, locals := 73 } : Room) from rfl]
  obtain ⟨rfl, hsz, hP, hK, hD0, hR⟩ := hv
  have hx := Bd.exec
  have hb := Bd.bytes
  have hr := Bd.returns
  have hts := atoms_spec (ws := wsX8_plannedDay) Bd.pre
  have hown : s.vm.findClass RX8 = some m.cls := findClass_of_methodNamed Bd.named
  have hlocks := Bd.notSynchronized
  have FX : CallFix p m c cX8_plannedDay 1 s _ wsX8_plannedDay RX8 := ⟨hx, hb, hml, hown, hts⟩
  subst hsz
  have hD := hD0.self (sz := s.heap.size)
  generalize hAe : va_A [(t0, .inr (7, [.ref t1, .ref t2, .ref t3, .ref t4, .int kn0, .int me0, .int fa0])), (t1, .inl (cI, 9, .inl f1)), (t2, .inl (cI, 8, .inl f2)), (t3, .inl (cI, 8, .inl f3)), (t4, .inl (cI, 8, .inl f4))] s.heap.size = A at hD hR ⊢
  have hA : ∀ q : Nat, s.heap.size ≤ q → A q := fun q h => by rw [← hAe]; exact Or.inr h
  have hS : va_S A s.heap s.heap [] := va_S.rf
  have hP : va_P D vwCl [(t0, .inr (7, [.ref t1, .ref t2, .ref t3, .ref t4, .int kn0, .int me0, .int fa0])), (t1, .inl (cI, 9, .inl f1)), (t2, .inl (cI, 8, .inl f2)), (t3, .inl (cI, 8, .inl f3)), (t4, .inl (cI, 8, .inl f4))] s.heap := hP
  have hQ : va_P D vwCl ([(t0, .inr (7, [.ref t1, .ref t2, .ref t3, .ref t4, .int kn0, .int me0, .int fa0])), (t1, .inl (cI, 9, .inl f1)), (t2, .inl (cI, 8, .inl f2)), (t3, .inl (cI, 8, .inl f3)), (t4, .inl (cI, 8, .inl f4))] ++ ([(x0, .inr (8, [.ref pg0, .ref fr, .ref nw, .ref kp, .ref t0, .ref pn, .ref bw, .ref ta, .int bm, .int (nI n), .int cv, .int bd, .int hi])), (nw, .inr (3, [.ref n1, .ref n2, .ref n3, .ref n4, .ref n5, .int (nI fd), .int ft, .int kn, .int dy])), (fr, .inl (cF, 4, .inr (.inr (.inr (.inr (zG n B)))))), (pn, .inl (cI, 8, .inl r))] ++ (zPo n B F))) s.heap := va_P.app hP (hR.at hS).P
  have hl := lv_entry ([.ref x0]) (n := 1) (Nat.le_of_ble_eq_true rfl)
  rw [lg_entry_eq]
  generalize (lg_sl ([.ref x0]) ++ List.replicate (1 - (lg_sl ([.ref x0])).length) Slot.unset).toArray = ls at hl ⊢
  have hl : lv_has ls 1 [(0, .ref x0)] := hl
  refine lv_aload_n hx hb dX8_plannedDay_0 rfl (lv_at hl 0 rfl) ?_
  refine va_get (D := D) (cl := vwCl) (tys := zT cI cB cF) (ci := 8) (v := .ref t0) (C := RX8) (T := TX8) (N := 13) hx hb hts iw_X8_plannedDay_X8 hown hK.1 hQ 5 rfl rfl 4 (by decide) (hts _ hw_X8_plannedDay_1) (fun _ h9 => h9) rfl dX8_plannedDay_1 ?_
  refine lv_aload_n hx hb dX8_plannedDay_4 rfl (lv_at hl 0 rfl) ?_
  refine va_get (D := D) (cl := vwCl) (tys := zT cI cB cF) (ci := 8) (v := .ref fr) (C := RX8) (T := TX8) (N := 13) hx hb hts iw_X8_plannedDay_X8 hown hK.1 hQ 5 rfl rfl 1 (by decide) (hts _ hw_X8_plannedDay_2) (fun _ h9 => h9) rfl dX8_plannedDay_5 ?_
  refine lv_aload_n hx hb dX8_plannedDay_8 rfl (lv_at hl 0 rfl) ?_
  refine va_get (D := D) (cl := vwCl) (tys := zT cI cB cF) (ci := 8) (v := .ref pn) (C := RX8) (T := TX8) (N := 13) hx hb hts iw_X8_plannedDay_X8 hown hK.1 hQ 5 rfl rfl 5 (by decide) (hts _ hw_X8_plannedDay_3) (fun _ h9 => h9) rfl dX8_plannedDay_9 ?_
  refine lv_aload_n hx hb dX8_plannedDay_12 rfl (lv_at hl 0 rfl) ?_
  refine va_get (D := D) (cl := vwCl) (tys := zT cI cB cF) (ci := 8) (v := .ref nw) (C := RX8) (T := TX8) (N := 13) hx hb hts iw_X8_plannedDay_X8 hown hK.1 hQ 5 rfl rfl 2 (by decide) (hts _ hw_X8_plannedDay_4) (fun _ h9 => h9) rfl dX8_plannedDay_13 ?_
  refine va_get (D := D) (cl := vwCl) (tys := zT cI cB cF) (ci := 3) (v := .int ft) (C := RX3) (T := TX3) (N := 9) hx hb hts iw_X8_plannedDay_X3 hown hK.1 hQ 6 rfl rfl 6 (by decide) (hts _ hw_X8_plannedDay_5) (fun _ h9 => h9) rfl dX8_plannedDay_16 ?_
  refine lv_aload_n hx hb dX8_plannedDay_19 rfl (lv_at hl 0 rfl) ?_
  refine va_get (D := D) (cl := vwCl) (tys := zT cI cB cF) (ci := 8) (v := .ref nw) (C := RX8) (T := TX8) (N := 13) hx hb hts iw_X8_plannedDay_X8 hown hK.1 hQ 5 rfl rfl 2 (by decide) (hts _ hw_X8_plannedDay_4) (fun _ h9 => h9) rfl dX8_plannedDay_20 ?_
  refine va_get (D := D) (cl := vwCl) (tys := zT cI cB cF) (ci := 3) (v := .int kn) (C := RX3) (T := TX3) (N := 9) hx hb hts iw_X8_plannedDay_X3 hown hK.1 hQ 6 rfl rfl 7 (by decide) (hts _ hw_X8_plannedDay_6) (fun _ h9 => h9) rfl dX8_plannedDay_23 ?_
  have hFc := va_free (wc := [(t0, .inr (7, [.ref t1, .ref t2, .ref t3, .ref t4, .int kn0, .int me0, .int fa0])), (t1, .inl (cI, 9, .inl f1)), (t2, .inl (cI, 8, .inl f2)), (t3, .inl (cI, 8, .inl f3)), (t4, .inl (cI, 8, .inl f4))]) hD hS hA [0, 1, 2, 3, 4] rfl
  refine vz_cw [] [0, 1, 2, 3, 4] [] (va_runV (As := [.ref fr, .ref pn, .int ft, .int kn]) (rest := []) FX (c_X7_live l D cI cB cF s.heap.size t0 t1 t2 t3 t4 kn0 me0 fa0 f1 f2 f3 f4 fr pn n B F r ft kn (by first | assumption | omega | decide) (by first | assumption | omega | decide) (by first | assumption | omega | decide)) (cwV 4 hts gX8_plannedDay_X7_live rfl rfl rfl ⟨rfl, hd_X7_live⟩ ⟨Nat.le_of_ble_eq_true rfl, Nat.le_of_ble_eq_true rfl⟩) (preW_V hQ 0 rfl rfl (hP.sub (ws' := [(t0, .inr (7, [.ref t1, .ref t2, .ref t3, .ref t4, .int kn0, .int me0, .int fa0])), (t1, .inl (cI, 9, .inl f1)), (t2, .inl (cI, 8, .inl f2)), (t3, .inl (cI, 8, .inl f3)), (t4, .inl (cI, 8, .inl f4))]) [0, 1, 2, 3, 4] rfl) (hD.sub (ws' := [(t0, .inr (7, [.ref t1, .ref t2, .ref t3, .ref t4, .int kn0, .int me0, .int fa0])), (t1, .inl (cI, 9, .inl f1)), (t2, .inl (cI, 8, .inl f2)), (t3, .inl (cI, 8, .inl f3)), (t4, .inl (cI, 8, .inl f4))]) [0, 1, 2, 3, 4] (by decide) rfl) hK (show vz_R D ([(fr, .inl (cF, 4, .inr (.inr (.inr (.inr (zG n B)))))), (pn, .inl (cI, 8, .inl r))] ++ (zPo n B F)) _ _ from (vz_R.cons ((hR.at hS).one hFc (List.mem_of_getElem? (i := 2) rfl)) (vz_R.cons ((hR.at hS).one hFc (List.mem_of_getElem? (i := 3) rfl)) ((hR.at hS).sub hFc (fun q h => List.mem_append_right _ h)))))) rfl rfl hl.1 rfl (lv_room (Nat.le_of_ble_eq_true rfl)) dX8_plannedDay_26 ⟨Nat.le_of_ble_eq_true rfl, Nat.le_of_ble_eq_true rfl⟩) hP hD hS hA rfl rfl rfl (by decide) (fun u H locs hu hP hD hS hz9 hk9 => ?_)
  have hP : va_P D vwCl [(t0, .inr (7, [.ref t1, .ref t2, .ref t3, .ref t4, .int (zDk F r ft kn 8), .int (zSum (zDg F r ft kn) 8), .int (zSum (zDe F r ft kn) 8)])), (t1, .inl (cI, 9, .inl (zDf F r ft kn))), (t2, .inl (cI, 8, .inl (zDh F r ft kn))), (t3, .inl (cI, 8, .inl (zDg F r ft kn))), (t4, .inl (cI, 8, .inl (zDe F r ft kn)))] H := hP
  have hD : va_D A [(t0, .inr (7, [.ref t1, .ref t2, .ref t3, .ref t4, .int (zDk F r ft kn 8), .int (zSum (zDg F r ft kn) 8), .int (zSum (zDe F r ft kn) 8)])), (t1, .inl (cI, 9, .inl (zDf F r ft kn))), (t2, .inl (cI, 8, .inl (zDh F r ft kn))), (t3, .inl (cI, 8, .inl (zDg F r ft kn))), (t4, .inl (cI, 8, .inl (zDe F r ft kn)))] := hD
  have hQ : va_P D vwCl ([(t0, .inr (7, [.ref t1, .ref t2, .ref t3, .ref t4, .int (zDk F r ft kn 8), .int (zSum (zDg F r ft kn) 8), .int (zSum (zDe F r ft kn) 8)])), (t1, .inl (cI, 9, .inl (zDf F r ft kn))), (t2, .inl (cI, 8, .inl (zDh F r ft kn))), (t3, .inl (cI, 8, .inl (zDg F r ft kn))), (t4, .inl (cI, 8, .inl (zDe F r ft kn)))] ++ ([(x0, .inr (8, [.ref pg0, .ref fr, .ref nw, .ref kp, .ref t0, .ref pn, .ref bw, .ref ta, .int bm, .int (nI n), .int cv, .int bd, .int hi])), (nw, .inr (3, [.ref n1, .ref n2, .ref n3, .ref n4, .ref n5, .int (nI fd), .int ft, .int kn, .int dy])), (fr, .inl (cF, 4, .inr (.inr (.inr (.inr (zG n B)))))), (pn, .inl (cI, 8, .inl r))] ++ (zPo n B F))) H := va_P.app hP (hR.at hS).P
  show W _ _ _ _ _ _ _ _ _ _ _ _ _ _ _ (F0 m 29 ls [])
  refine lv_aload_n hx hb dX8_plannedDay_29 rfl (lv_at hl 0 rfl) ?_
  refine va_get (D := D) (cl := vwCl) (tys := zT cI cB cF) (ci := 8) (v := .ref t0) (C := RX8) (T := TX8) (N := 13) hx hb hts iw_X8_plannedDay_X8 hown hK.1 hQ 5 rfl rfl 4 (by decide) (hts _ hw_X8_plannedDay_1) (fun _ h9 => h9) rfl dX8_plannedDay_30 ?_
  have hP9 := hP.sub (ws' := [(t0, .inr (7, [.ref t1, .ref t2, .ref t3, .ref t4, .int (zDk F r ft kn 8), .int (zSum (zDg F r ft kn) 8), .int (zSum (zDe F r ft kn) 8)])), (t1, .inl (cI, 9, .inl (zDf F r ft kn))), (t2, .inl (cI, 8, .inl (zDh F r ft kn))), (t3, .inl (cI, 8, .inl (zDg F r ft kn))), (t4, .inl (cI, 8, .inl (zDe F r ft kn)))]) [0, 1, 2, 3, 4] rfl
  have hD9 := hD.sub (ws' := [(t0, .inr (7, [.ref t1, .ref t2, .ref t3, .ref t4, .int (zDk F r ft kn 8), .int (zSum (zDg F r ft kn) 8), .int (zSum (zDe F r ft kn) 8)])), (t1, .inl (cI, 9, .inl (zDf F r ft kn))), (t2, .inl (cI, 8, .inl (zDh F r ft kn))), (t3, .inl (cI, 8, .inl (zDg F r ft kn))), (t4, .inl (cI, 8, .inl (zDe F r ft kn)))]) [0, 1, 2, 3, 4] (by decide) rfl
  exact W.aret hx hb hr (Or.inl ⟨_, rfl⟩) (Or.inr ⟨_, rfl⟩) (fun t ht hW => ⟨⟨(), rfl, trivial, by rw [ht]; exact hP9, hD9⟩, hS.F ht⟩) hS.2.2 dX8_plannedDay_33
set_option maxRecDepth 100000 in
theorem iw_X8_nextDay_X8 : ∀ w ∈ u_ws RX8 TX8 13, w ∈ wsX8_nextDay := fun w h => List.mem_cons_of_mem _ (List.mem_append_left _ (List.mem_append_left _ (List.mem_append_left _ (List.mem_append_left _ (List.mem_append_left _ (List.mem_append_left _ (List.mem_append_left _ (List.mem_append_right _ h))))))))
set_option maxRecDepth 100000 in
theorem hw_X8_nextDay_1 : (.fieldLink RX8 35 "RotaFathers" "trial" "LRotaFathers$TrialDay;" : Cond) ∈ wsX8_nextDay := List.mem_of_getElem? (i := 1) rfl
set_option maxRecDepth 100000 in
theorem hw_X8_nextDay_2 : (.fieldLink RX8 18 "RotaFathers" "fathers" "[LRotaFathers$Father;" : Cond) ∈ wsX8_nextDay := List.mem_of_getElem? (i := 2) rfl
set_option maxRecDepth 100000 in
theorem hw_X8_nextDay_3 : (.fieldLink RX8 25 "RotaFathers" "now" "LRotaFathers$Lived;" : Cond) ∈ wsX8_nextDay := List.mem_of_getElem? (i := 3) rfl
set_option maxRecDepth 100000 in
theorem iw_X8_nextDay_X3 : ∀ w ∈ u_ws RX3 TX3 9, w ∈ wsX8_nextDay := fun w h => List.mem_cons_of_mem _ (List.mem_append_left _ (List.mem_append_left _ (List.mem_append_left _ (List.mem_append_left _ (List.mem_append_left _ (List.mem_append_left _ (List.mem_append_right _ h)))))))
set_option maxRecDepth 100000 in
theorem hw_X8_nextDay_4 : (.fieldLink RX8 132 "RotaFathers$Lived" "rota" "[I" : Cond) ∈ wsX8_nextDay := List.mem_of_getElem? (i := 4) rfl
set_option maxRecDepth 100000 in
theorem hw_X8_nextDay_5 : (.fieldLink RX8 164 "RotaFathers$Lived" "fit" "I" : Cond) ∈ wsX8_nextDay := List.mem_of_getElem? (i := 5) rfl
set_option maxRecDepth 100000 in
theorem hw_X8_nextDay_6 : (.fieldLink RX8 114 "RotaFathers$Lived" "known" "I" : Cond) ∈ wsX8_nextDay := List.mem_of_getElem? (i := 6) rfl
set_option maxRecDepth 100000 in
theorem hd_X8_nextDay : yX8_nextDay.cls ≠ "java/lang/invoke/MethodHandle" ∧ yX8_nextDay.cls ≠ "java/lang/invoke/VarHandle" ∧ (parseMethodDescriptor yX8_nextDay.desc).map (fun d => d.parameters.length) = some 0 := by decide +kernel
set_option maxHeartbeats 4000000 in
set_option maxRecDepth 100000 in
theorem c_X8_nextDay (l : Launch) (D : va_G) (cI cB cF : ClassId) (sz : Nat) (x0 : Nat) (pg0 : Nat) (fr : Nat) (nw : Nat) (kp : Nat) (t0 : Nat) (pn : Nat) (bw : Nat) (ta : Nat) (t1 : Nat) (t2 : Nat) (t3 : Nat) (t4 : Nat) (n1 : Nat) (n2 : Nat) (n3 : Nat) (n4 : Nat) (n5 : Nat) (fd : Nat) (ft : Int32) (kn : Int32) (dy : Int32) (bm : Int32) (n : Nat) (cv : Int32) (bd : Int32) (hi : Int32) (kn0 : Int32) (me0 : Int32) (fa0 : Int32) (f1 : Nat → Int32) (f2 : Nat → Int32) (f3 : Nat → Int32) (f4 : Nat → Int32) (B : Nat → Nat) (F : zF) (r : Nat → Int32) (hn : n ≤ 4) (hF : ∀ f, f < n → F.1 f < 5) (hro : zRo n r) : Met l yX8_nextDay wsX8_nextDay ({ frames := 3, cells := 0, slots := 0, locals := 73 } : Room) (PcW D cI cB cF [.ref x0] sz [(t0, .inr (7, [.ref t1, .ref t2, .ref t3, .ref t4, .int kn0, .int me0, .int fa0])), (t1, .inl (cI, 9, .inl f1)), (t2, .inl (cI, 8, .inl f2)), (t3, .inl (cI, 8, .inl f3)), (t4, .inl (cI, 8, .inl f4))] ([(x0, .inr (8, [.ref pg0, .ref fr, .ref nw, .ref kp, .ref t0, .ref pn, .ref bw, .ref ta, .int bm, .int (nI n), .int cv, .int bd, .int hi])), (nw, .inr (3, [.ref n1, .ref n2, .ref n3, .ref n4, .ref n5, .int (nI fd), .int ft, .int kn, .int dy])), (fr, .inl (cF, 4, .inr (.inr (.inr (.inr (zG n B)))))), (n1, .inl (cI, 8, .inl r))] ++ (zPo n B F))) (Qw D (S := Unit) (fun xx => some (.ref t0)) (fun xx => True) (fun xx => [(t0, .inr (7, [.ref t1, .ref t2, .ref t3, .ref t4, .int (zDk F r ft kn 8), .int (zSum (zDg F r ft kn) 8), .int (zSum (zDe F r ft kn) 8)])), (t1, .inl (cI, 9, .inl (zDf F r ft kn))), (t2, .inl (cI, 8, .inl (zDh F r ft kn))), (t3, .inl (cI, 8, .inl (zDg F r ft kn))), (t4, .inl (cI, 8, .inl (zDe F r ft kn)))]) (va_A [(t0, .inr (7, [.ref t1, .ref t2, .ref t3, .ref t4, .int kn0, .int me0, .int fa0])), (t1, .inl (cI, 9, .inl f1)), (t2, .inl (cI, 8, .inl f2)), (t3, .inl (cI, 8, .inl f3)), (t4, .inl (cI, 8, .inl f4))] sz)) 0 0 (va_A [(t0, .inr (7, [.ref t1, .ref t2, .ref t3, .ref t4, .int kn0, .int me0, .int fa0])), (t1, .inl (cI, 9, .inl f1)), (t2, .inl (cI, 8, .inl f2)), (t3, .inl (cI, 8, .inl f3)), (t4, .inl (cI, 8, .inl f4))] sz) := by
  refine Met.ofW (cc := cX8_nextDay) (maxL := 1) (ret := (some (.object "RotaFathers$TrialDay"))) (by decide) rfl ?_
  intro p e s m args below meth c s₁ Bd hml hv
  rw [show (headSpec wsX8_nextDay ({ frames := 3, cells := 0, slots := 0, locals := 73 } : Room)).room = ({ frames := 3, cells := 0, slots := 0, locals := 73 } : Room) from rfl]
  obtain ⟨rfl, hsz, hP, hK, hD0, hR⟩ := hv
  have hx := Bd.exec
  have hb := Bd.bytes
  have hr := Bd.returns
  have hts := atoms_spec (ws := wsX8_nextDay) Bd.pre
  have hown : s.vm.findClass RX8 = some m.cls := findClass_of_methodNamed Bd.named
  have hlocks := Bd.notSynchronized
  have FX : CallFix p m c cX8_nextDay 1 s _ wsX8_nextDay RX8 := ⟨hx, hb, hml, hown, hts⟩
  subst hsz
  have hD := hD0.self (sz := s.heap.size)
  generalize hAe : va_A [(t0, .inr (7, [.ref t1, .ref t2, .ref t3, .ref t4, .int kn0, .int me0, .int fa0])), (t1, .inl (cI, 9, .inl f1)), (t2, .inl (cI, 8, .inl f2)), (t3, .inl (cI, 8, .inl f3)), (t4, .inl (cI, 8, .inl f4))] s.heap.size = A at hD hR ⊢
  have hA : ∀ q : Nat, s.heap.size ≤ q → A q := fun q h => by rw [← hAe]; exact Or.inr h
  have hS : va_S A s.heap s.heap [] := va_S.rf
  have hP : va_P D vwCl [(t0, .inr (7, [.ref t1, .ref t2, .ref t3, .ref t4, .int kn0, .int me0, .int fa0])), (t1, .inl (cI, 9, .inl f1)), (t2, .inl (cI, 8, .inl f2)), (t3, .inl (cI, 8, .inl f3)), (t4, .inl (cI, 8, .inl f4))] s.heap := hP
  have hQ : va_P D vwCl ([(t0, .inr (7, [.ref t1, .ref t2, .ref t3, .ref t4, .int kn0, .int me0, .int fa0])), (t1, .inl (cI, 9, .inl f1)), (t2, .inl (cI, 8, .inl f2)), (t3, .inl (cI, 8, .inl f3)), (t4, .inl (cI, 8, .inl f4))] ++ ([(x0, .inr (8, [.ref pg0, .ref fr, .ref nw, .ref kp, .ref t0, .ref pn, .ref bw, .ref ta, .int bm, .int (nI n), .int cv, .int bd, .int hi])), (nw, .inr (3, [.ref n1, .ref n2, .ref n3, .ref n4, .ref n5, .int (nI fd), .int ft, .int kn, .int dy])), (fr, .inl (cF, 4, .inr (.inr (.inr (.inr (zG n B)))))), (n1, .inl (cI, 8, .inl r))] ++ (zPo n B F))) s.heap := va_P.app hP (hR.at hS).P
  have hl := lv_entry ([.ref x0]) (n := 1) (Nat.le_of_ble_eq_true rfl)
  rw [lg_entry_eq]
  generalize (lg_sl ([.ref x0]) ++ List.replicate (1 - (lg_sl ([.ref x0])).length) Slot.unset).toArray = ls at hl ⊢
  have hl : lv_has ls 1 [(0, .ref x0)] := hl
  refine lv_aload_n hx hb dX8_nextDay_0 rfl (lv_at hl 0 rfl) ?_
  refine va_get (D := D) (cl := vwCl) (tys := zT cI cB cF) (ci := 8) (v := .ref t0) (C := RX8) (T := TX8) (N := 13) hx hb hts iw_X8_nextDay_X8 hown hK.1 hQ 5 rfl rfl 4 (by decide) (hts _ hw_X8_nextDay_1) (fun _ h9 => h9) rfl dX8_nextDay_1 ?_
  refine lv_aload_n hx hb dX8_nextDay_4 rfl (lv_at hl 0 rfl) ?_
  refine va_get (D := D) (cl := vwCl) (tys := zT cI cB cF) (ci := 8) (v := .ref fr) (C := RX8) (T := TX8) (N := 13) hx hb hts iw_X8_nextDay_X8 hown hK.1 hQ 5 rfl rfl 1 (by decide) (hts _ hw_X8_nextDay_2) (fun _ h9 => h9) rfl dX8_nextDay_5 ?_
  refine lv_aload_n hx hb dX8_nextDay_8 rfl (lv_at hl 0 rfl) ?_
  refine va_get (D := D) (cl := vwCl) (tys := zT cI cB cF) (ci := 8) (v := .ref nw) (C := RX8) (T := TX8) (N := 13) hx hb hts iw_X8_nextDay_X8 hown hK.1 hQ 5 rfl rfl 2 (by decide) (hts _ hw_X8_nextDay_3) (fun _ h9 => h9) rfl dX8_nextDay_9 ?_
  refine va_get (D := D) (cl := vwCl) (tys := zT cI cB cF) (ci := 3) (v := .ref n1) (C := RX3) (T := TX3) (N := 9) hx hb hts iw_X8_nextDay_X3 hown hK.1 hQ 6 rfl rfl 0 (by decide) (hts _ hw_X8_nextDay_4) (fun _ h9 => h9) rfl dX8_nextDay_12 ?_
  refine lv_aload_n hx hb dX8_nextDay_15 rfl (lv_at hl 0 rfl) ?_
  refine va_get (D := D) (cl := vwCl) (tys := zT cI cB cF) (ci := 8) (v := .ref nw) (C := RX8) (T := TX8) (N := 13) hx hb hts iw_X8_nextDay_X8 hown hK.1 hQ 5 rfl rfl 2 (by decide) (hts _ hw_X8_nextDay_3) (fun _ h9 => h9) rfl dX8_nextDay_16 ?_
  refine va_get (D := D) (cl := vwCl) (tys := zT cI cB cF) (ci := 3) (v := .int ft) (C := RX3) (T := TX3) (N := 9) hx hb hts iw_X8_nextDay_X3 hown hK.1 hQ 6 rfl rfl 6 (by decide) (hts _ hw_X8_nextDay_5) (fun _ h9 => h9) rfl dX8_nextDay_19 ?_
  refine lv_aload_n hx hb dX8_nextDay_22 rfl (lv_at hl 0 rfl) ?_
  refine va_get (D := D) (cl := vwCl) (tys := zT cI cB cF) (ci := 8) (v := .ref nw) (C := RX8) (T := TX8) (N := 13) hx hb hts iw_X8_nextDay_X8 hown hK.1 hQ 5 rfl rfl 2 (by decide) (hts _ hw_X8_nextDay_3) (fun _ h9 => h9) rfl dX8_nextDay_23 ?_
  refine va_get (D := D) (cl := vwCl) (tys := zT cI cB cF) (ci := 3) (v := .int kn) (C := RX3) (T := TX3) (N := 9) hx hb hts iw_X8_nextDay_X3 hown hK.1 hQ 6 rfl rfl 7 (by decide) (hts _ hw_X8_nextDay_6) (fun _ h9 => h9) rfl dX8_nextDay_26 ?_
  have hFc := va_free (wc := [(t0, .inr (7, [.ref t1, .ref t2, .ref t3, .ref t4, .int kn0, .int me0, .int fa0])), (t1, .inl (cI, 9, .inl f1)), (t2, .inl (cI, 8, .inl f2)), (t3, .inl (cI, 8, .inl f3)), (t4, .inl (cI, 8, .inl f4))]) hD hS hA [0, 1, 2, 3, 4] rfl
  refine vz_cw [] [0, 1, 2, 3, 4] [] (va_runV (As := [.ref fr, .ref n1, .int ft, .int kn]) (rest := []) FX (c_X7_live l D cI cB cF s.heap.size t0 t1 t2 t3 t4 kn0 me0 fa0 f1 f2 f3 f4 fr n1 n B F r ft kn (by first | assumption | omega | decide) (by first | assumption | omega | decide) (by first | assumption | omega | decide)) (cwV 4 hts gX8_nextDay_X7_live rfl rfl rfl ⟨rfl, hd_X7_live⟩ ⟨Nat.le_of_ble_eq_true rfl, Nat.le_of_ble_eq_true rfl⟩) (preW_V hQ 0 rfl rfl (hP.sub (ws' := [(t0, .inr (7, [.ref t1, .ref t2, .ref t3, .ref t4, .int kn0, .int me0, .int fa0])), (t1, .inl (cI, 9, .inl f1)), (t2, .inl (cI, 8, .inl f2)), (t3, .inl (cI, 8, .inl f3)), (t4, .inl (cI, 8, .inl f4))]) [0, 1, 2, 3, 4] rfl) (hD.sub (ws' := [(t0, .inr (7, [.ref t1, .ref t2, .ref t3, .ref t4, .int kn0, .int me0, .int fa0])), (t1, .inl (cI, 9, .inl f1)), (t2, .inl (cI, 8, .inl f2)), (t3, .inl (cI, 8, .inl f3)), (t4, .inl (cI, 8, .inl f4))]) [0, 1, 2, 3, 4] (by decide) rfl) hK (show vz_R D ([(fr, .inl (cF, 4, .inr (.inr (.inr (.inr (zG n B)))))), (n1, .inl (cI, 8, .inl r))] ++ (zPo n B F)) _ _ from (vz_R.cons ((hR.at hS).one hFc (List.mem_of_getElem? (i := 2) rfl)) (vz_R.cons ((hR.at hS).one hFc (List.mem_of_getElem? (i := 3) rfl)) ((hR.at hS).sub hFc (fun q h => List.mem_append_right _ h)))))) rfl rfl hl.1 rfl (lv_room (Nat.le_of_ble_eq_true rfl)) dX8_nextDay_29 ⟨Nat.le_of_ble_eq_true rfl, Nat.le_of_ble_eq_true rfl⟩) hP hD hS hA rfl rfl rfl (by decide) (fun u H locs hu hP hD hS hz9 hk9 => ?_)
  have hP : va_P D vwCl [(t0, .inr (7, [.ref t1, .ref t2, .ref t3, .ref t4, .int (zDk F r ft kn 8), .int (zSum (zDg F r ft kn) 8), .int (zSum (zDe F r ft kn) 8)])), (t1, .inl (cI, 9, .inl (zDf F r ft kn))), (t2, .inl (cI, 8, .inl (zDh F r ft kn))), (t3, .inl (cI, 8, .inl (zDg F r ft kn))), (t4, .inl (cI, 8, .inl (zDe F r ft kn)))] H := hP
  have hD : va_D A [(t0, .inr (7, [.ref t1, .ref t2, .ref t3, .ref t4, .int (zDk F r ft kn 8), .int (zSum (zDg F r ft kn) 8), .int (zSum (zDe F r ft kn) 8)])), (t1, .inl (cI, 9, .inl (zDf F r ft kn))), (t2, .inl (cI, 8, .inl (zDh F r ft kn))), (t3, .inl (cI, 8, .inl (zDg F r ft kn))), (t4, .inl (cI, 8, .inl (zDe F r ft kn)))] := hD
  have hQ : va_P D vwCl ([(t0, .inr (7, [.ref t1, .ref t2, .ref t3, .ref t4, .int (zDk F r ft kn 8), .int (zSum (zDg F r ft kn) 8), .int (zSum (zDe F r ft kn) 8)])), (t1, .inl (cI, 9, .inl (zDf F r ft kn))), (t2, .inl (cI, 8, .inl (zDh F r ft kn))), (t3, .inl (cI, 8, .inl (zDg F r ft kn))), (t4, .inl (cI, 8, .inl (zDe F r ft kn)))] ++ ([(x0, .inr (8, [.ref pg0, .ref fr, .ref nw, .ref kp, .ref t0, .ref pn, .ref bw, .ref ta, .int bm, .int (nI n), .int cv, .int bd, .int hi])), (nw, .inr (3, [.ref n1, .ref n2, .ref n3, .ref n4, .ref n5, .int (nI fd), .int ft, .int kn, .int dy])), (fr, .inl (cF, 4, .inr (.inr (.inr (.inr (zG n B)))))), (n1, .inl (cI, 8, .inl r))] ++ (zPo n B F))) H := va_P.app hP (hR.at hS).P
  show W _ _ _ _ _ _ _ _ _ _ _ _ _ _ _ (F0 m 32 ls [])
  refine lv_aload_n hx hb dX8_nextDay_32 rfl (lv_at hl 0 rfl) ?_
  refine va_get (D := D) (cl := vwCl) (tys := zT cI cB cF) (ci := 8) (v := .ref t0) (C := RX8) (T := TX8) (N := 13) hx hb hts iw_X8_nextDay_X8 hown hK.1 hQ 5 rfl rfl 4 (by decide) (hts _ hw_X8_nextDay_1) (fun _ h9 => h9) rfl dX8_nextDay_33 ?_
  have hP9 := hP.sub (ws' := [(t0, .inr (7, [.ref t1, .ref t2, .ref t3, .ref t4, .int (zDk F r ft kn 8), .int (zSum (zDg F r ft kn) 8), .int (zSum (zDe F r ft kn) 8)])), (t1, .inl (cI, 9, .inl (zDf F r ft kn))), (t2, .inl (cI, 8, .inl (zDh F r ft kn))), (t3, .inl (cI, 8, .inl (zDg F r ft kn))), (t4, .inl (cI, 8, .inl (zDe F r ft kn)))]) [0, 1, 2, 3, 4] rfl
  have hD9 := hD.sub (ws' := [(t0, .inr (7, [.ref t1, .ref t2, .ref t3, .ref t4, .int (zDk F r ft kn 8), .int (zSum (zDg F r ft kn) 8), .int (zSum (zDe F r ft kn) 8)])), (t1, .inl (cI, 9, .inl (zDf F r ft kn))), (t2, .inl (cI, 8, .inl (zDh F r ft kn))), (t3, .inl (cI, 8, .inl (zDg F r ft kn))), (t4, .inl (cI, 8, .inl (zDe F r ft kn)))]) [0, 1, 2, 3, 4] (by decide) rfl
  exact W.aret hx hb hr (Or.inl ⟨_, rfl⟩) (Or.inr ⟨_, rfl⟩) (fun t ht hW => ⟨⟨(), rfl, trivial, by rw [ht]; exact hP9, hD9⟩, hS.F ht⟩) hS.2.2 dX8_nextDay_36
set_option maxRecDepth 100000 in
theorem iw_X8_shiftsOf_X8 : ∀ w ∈ u_ws RX8 TX8 13, w ∈ wsX8_shiftsOf := fun w h => List.mem_cons_of_mem _ (List.mem_append_left _ (List.mem_append_right _ h))
set_option maxRecDepth 100000 in
theorem hw_X8_shiftsOf_1 : (.fieldLink RX8 25 "RotaFathers" "now" "LRotaFathers$Lived;" : Cond) ∈ wsX8_shiftsOf := List.mem_of_getElem? (i := 1) rfl
set_option maxRecDepth 100000 in
theorem iw_X8_shiftsOf_X3 : ∀ w ∈ u_ws RX3 TX3 9, w ∈ wsX8_shiftsOf := fun w h => List.mem_cons_of_mem _ (List.mem_append_right _ h)
set_option maxRecDepth 100000 in
theorem hw_X8_shiftsOf_2 : (.fieldLink RX8 132 "RotaFathers$Lived" "rota" "[I" : Cond) ∈ wsX8_shiftsOf := List.mem_of_getElem? (i := 2) rfl
set_option maxRecDepth 100000 in
theorem hd_X8_shiftsOf : yX8_shiftsOf.cls ≠ "java/lang/invoke/MethodHandle" ∧ yX8_shiftsOf.cls ≠ "java/lang/invoke/VarHandle" ∧ (parseMethodDescriptor yX8_shiftsOf.desc).map (fun d => d.parameters.length) = some 1 := by decide +kernel
set_option maxHeartbeats 4000000 in
set_option maxRecDepth 100000 in
theorem c_X8_shiftsOf (l : Launch) (D : va_G) (cI cB cF : ClassId) (x0 : Nat) (pg0 : Nat) (fr : Nat) (nw : Nat) (kp : Nat) (t0 : Nat) (pn : Nat) (bw : Nat) (ta : Nat) (n1 : Nat) (n2 : Nat) (n3 : Nat) (n4 : Nat) (n5 : Nat) (fd : Nat) (ft : Int32) (kn : Int32) (dy : Int32) (bm : Int32) (n : Nat) (cv : Int32) (bd : Int32) (hi : Int32) (r : Nat → Int32) (w : Int32)  : Met l yX8_shiftsOf wsX8_shiftsOf ({ frames := 1, cells := 0, slots := 0, locals := 21 } : Room) (PcP D cI cB cF [.ref x0, .int w] [(x0, .inr (8, [.ref pg0, .ref fr, .ref nw, .ref kp, .ref t0, .ref pn, .ref bw, .ref ta, .int bm, .int (nI n), .int cv, .int bd, .int hi])), (nw, .inr (3, [.ref n1, .ref n2, .ref n3, .ref n4, .ref n5, .int (nI fd), .int ft, .int kn, .int dy])), (n1, .inl (cI, 8, .inl r))]) (QcV (.int (zBits r w 8))) 0 0 (fun _ => False) := by
  refine Met.ofW (cc := cX8_shiftsOf) (maxL := 4) (ret := (some .int)) (by decide) rfl ?_
  intro p e s m args below meth c s₁ Bd hml hv
  rw [show (headSpec wsX8_shiftsOf ({ frames := 1, cells := 0, slots := 0, locals := 21 } : Room)).room = ({ frames := 1, cells := 0, slots := 0, locals := 21 } : Room) from rfl]
  obtain ⟨rfl, hQ, hK⟩ := hv
  have hx := Bd.exec
  have hb := Bd.bytes
  have hr := Bd.returns
  have hts := atoms_spec (ws := wsX8_shiftsOf) Bd.pre
  have hown : s.vm.findClass RX8 = some m.cls := findClass_of_methodNamed Bd.named
  have hlocks := Bd.notSynchronized
  have FX : CallFix p m c cX8_shiftsOf 4 s _ wsX8_shiftsOf RX8 := ⟨hx, hb, hml, hown, hts⟩
  have hQ : va_P D vwCl [(x0, .inr (8, [.ref pg0, .ref fr, .ref nw, .ref kp, .ref t0, .ref pn, .ref bw, .ref ta, .int bm, .int (nI n), .int cv, .int bd, .int hi])), (nw, .inr (3, [.ref n1, .ref n2, .ref n3, .ref n4, .ref n5, .int (nI fd), .int ft, .int kn, .int dy])), (n1, .inl (cI, 8, .inl r))] s.heap := hQ
  have hl := lv_entry ([.ref x0, .int w]) (n := 4) (Nat.le_of_ble_eq_true rfl)
  rw [lg_entry_eq]
  generalize (lg_sl ([.ref x0, .int w]) ++ List.replicate (4 - (lg_sl ([.ref x0, .int w])).length) Slot.unset).toArray = ls at hl ⊢
  have hl : lv_has ls 4 [(0, .ref x0), (1, .int w)] := hl
  refine lv_iconst (v := 0) hx hb dX8_shiftsOf_0 (by decide) ?_
  refine lv_istore_n (lv' := [(2, .int 0), (0, .ref x0), (1, .int w)]) hx hb dX8_shiftsOf_1 rfl hl (by decide) rfl (fun ls hl => ?_)
  refine lv_iconst (v := 0) hx hb dX8_shiftsOf_2 (by decide) ?_
  refine lv_istore_n (lv' := [(3, .int 0), (2, .int 0), (0, .ref x0), (1, .int w)]) hx hb dX8_shiftsOf_3 rfl hl (by decide) rfl (fun ls hl => ?_)
  refine vz_loopP (nL := 4) (σ := Nat) (fun xx => 8 - xx) (fun xx => (xx ≤ 8)) (fun xx => [(0, .ref x0), (1, .int w), (2, .int (zBits r w xx)), (3, .int (nI xx))]) (fun xx => []) ?_ 0 (Nat.zero_le _) (lv_sub hl [2, 3, 1, 0] rfl)
  rintro k hI ih_4 ls hl
  have hk := hI
  have hk : k ≤ 8 := hk
  have hl : lv_has ls 4 [(0, .ref x0), (1, .int w), (2, .int (zBits r w k)), (3, .int (nI k))] := hl
  show W _ _ _ _ _ _ _ _ _ _ _ _ _ _ _ (F0 m 4 ls [])
  refine lv_iload_n hx hb dX8_shiftsOf_4 rfl (lv_at hl 3 rfl) ?_
  refine lv_bipush (v := 8) hx hb dX8_shiftsOf_5 (by decide) ?_
  refine lv_icmp_ge (tgt := 37) hx hb dX8_shiftsOf_7 (by decide) (fun c_7 => ?_) (fun c_7 => ?_)
  · have hge_7 : 8 ≤ k := (nI_zle (a := 8) (b := k) (by omega) (by omega)).mp c_7
    refine lv_iload_n hx hb dX8_shiftsOf_37 rfl (lv_at hl 2 rfl) ?_
    refine vz_si (zBits r w 8) (by rw [show k = 8 by omega]) ?_
    exact W.iret hx hb hr (fun t ht hW => ⟨rfl, ht⟩) (fun q h => by cases h) dX8_shiftsOf_38
  · have hlt_7 : k < 8 := Nat.lt_of_not_le fun q => c_7 ((nI_zle (a := 8) (b := k) (by omega) (by omega)).mpr q)
    refine lv_aload_n hx hb dX8_shiftsOf_10 rfl (lv_at hl 0 rfl) ?_
    refine va_get (D := D) (cl := vwCl) (tys := zT cI cB cF) (ci := 8) (v := .ref nw) (C := RX8) (T := TX8) (N := 13) hx hb hts iw_X8_shiftsOf_X8 hown hK.1 hQ 0 rfl rfl 2 (by decide) (hts _ hw_X8_shiftsOf_1) (fun _ h9 => h9) rfl dX8_shiftsOf_11 ?_
    refine va_get (D := D) (cl := vwCl) (tys := zT cI cB cF) (ci := 3) (v := .ref n1) (C := RX3) (T := TX3) (N := 9) hx hb hts iw_X8_shiftsOf_X3 hown hK.1 hQ 1 rfl rfl 0 (by decide) (hts _ hw_X8_shiftsOf_2) (fun _ h9 => h9) rfl dX8_shiftsOf_14 ?_
    refine lv_iload_n hx hb dX8_shiftsOf_17 rfl (lv_at hl 3 rfl) ?_
    refine vz_rd (va_runS (As := [.ref n1, .int (nI k)]) (rest := []) FX (c_X8_at l D cI cB cF n1 8 r (nI k) (by decide)) (va_cwS 2 hts gX8_shiftsOf_X8_at rfl rfl rfl hd_X8_at ⟨Nat.le_of_ble_eq_true rfl, Nat.le_of_ble_eq_true rfl⟩) (preP_S (hQ.sub (ws' := [(n1, .inl (cI, 8, .inl r))]) [2] rfl) hK) rfl rfl hl.1 rfl (lv_room (Nat.le_of_ble_eq_true rfl)) dX8_shiftsOf_18 ⟨Nat.le_of_ble_eq_true rfl, Nat.le_of_ble_eq_true rfl⟩) ?_
    refine vz_si (r k) (zAt_nI (by omega) (by decide)) ?_
    refine lv_iload_n hx hb dX8_shiftsOf_21 rfl (lv_at hl 1 rfl) ?_
    refine lv_icmp_ne (tgt := 31) hx hb dX8_shiftsOf_22 (by decide) (fun c_22 => ?_) (fun c_22 => ?_)
    · have hl : lv_has ls 4 [(0, .ref x0), (1, .int w), (2, .int (zBits r w (k + 1))), (3, .int (nI k))] := by have hz := hl; rw [show (zBits r w k) = (zBits r w (k + 1)) from (by show _ = if r k = w then _ else _; rw [if_neg c_22])] at hz; exact hz
      refine lv_iinc (v := (nI (k + 1))) (lv' := [(3, .int (nI (k + 1))), (0, .ref x0), (1, .int w), (2, .int (zBits r w (k + 1)))]) hx hb dX8_shiftsOf_31 hl (k := 3) rfl ((nI_succ k).symm) (by decide) rfl (fun ls hl => ?_)
      refine lv_goto (tgt := 4) hx hb dX8_shiftsOf_34 (by decide) ?_
      exact ih_4 (k + 1) (by (try dsimp only); omega) (hlt_7) ls (lv_sub hl [1, 2, 3, 0] rfl)
    · refine lv_iload_n hx hb dX8_shiftsOf_25 rfl (lv_at hl 2 rfl) ?_
      refine lv_iconst (v := 1) hx hb dX8_shiftsOf_26 (by decide) ?_
      refine lv_iload_n hx hb dX8_shiftsOf_27 rfl (lv_at hl 3 rfl) ?_
      refine lv_ishl hx hb dX8_shiftsOf_28 ?_
      refine lv_ior hx hb dX8_shiftsOf_29 ?_
      refine vz_si (zBits r w (k + 1)) (by show _ = if r k = w then _ else _; rw [if_pos c_22]) ?_
      refine lv_istore_n (lv' := [(2, .int (zBits r w (k + 1))), (0, .ref x0), (1, .int w), (3, .int (nI k))]) hx hb dX8_shiftsOf_30 rfl hl (by decide) rfl (fun ls hl => ?_)
      refine lv_iinc (v := (nI (k + 1))) (lv' := [(3, .int (nI (k + 1))), (2, .int (zBits r w (k + 1))), (0, .ref x0), (1, .int w)]) hx hb dX8_shiftsOf_31 hl (k := 3) rfl ((nI_succ k).symm) (by decide) rfl (fun ls hl => ?_)
      refine lv_goto (tgt := 4) hx hb dX8_shiftsOf_34 (by decide) ?_
      exact ih_4 (k + 1) (by (try dsimp only); omega) (hlt_7) ls (lv_sub hl [2, 3, 1, 0] rfl)
set_option maxRecDepth 100000 in
theorem iw_X8_nextMeritOf_X8 : ∀ w ∈ u_ws RX8 TX8 13, w ∈ wsX8_nextMeritOf := fun w h => List.mem_cons_of_mem _ (List.mem_append_left _ (List.mem_append_left _ (List.mem_append_left _ (List.mem_append_left _ (List.mem_append_left _ (List.mem_append_left _ (List.mem_append_left _ (List.mem_append_right _ h))))))))
set_option maxRecDepth 100000 in
theorem hw_X8_nextMeritOf_1 : (.fieldLink RX8 25 "RotaFathers" "now" "LRotaFathers$Lived;" : Cond) ∈ wsX8_nextMeritOf := List.mem_of_getElem? (i := 1) rfl
set_option maxRecDepth 100000 in
theorem iw_X8_nextMeritOf_X3 : ∀ w ∈ u_ws RX3 TX3 9, w ∈ wsX8_nextMeritOf := fun w h => List.mem_cons_of_mem _ (List.mem_append_left _ (List.mem_append_left _ (List.mem_append_left _ (List.mem_append_left _ (List.mem_append_left _ (List.mem_append_left _ (List.mem_append_right _ h)))))))
set_option maxRecDepth 100000 in
theorem hw_X8_nextMeritOf_2 : (.fieldLink RX8 132 "RotaFathers$Lived" "rota" "[I" : Cond) ∈ wsX8_nextMeritOf := List.mem_of_getElem? (i := 2) rfl
set_option maxRecDepth 100000 in
theorem iw_X8_nextMeritOf_X7 : ∀ w ∈ u_ws RX7 TX7 7, w ∈ wsX8_nextMeritOf := fun w h => List.mem_cons_of_mem _ (List.mem_append_left _ (List.mem_append_left _ (List.mem_append_left _ (List.mem_append_left _ (List.mem_append_left _ (List.mem_append_right _ h))))))
set_option maxRecDepth 100000 in
theorem hw_X8_nextMeritOf_3 : (.fieldLink RX8 161 "RotaFathers$TrialDay" "gains" "[I" : Cond) ∈ wsX8_nextMeritOf := List.mem_of_getElem? (i := 3) rfl
set_option maxRecDepth 100000 in
theorem hd_X8_nextMeritOf : yX8_nextMeritOf.cls ≠ "java/lang/invoke/MethodHandle" ∧ yX8_nextMeritOf.cls ≠ "java/lang/invoke/VarHandle" ∧ (parseMethodDescriptor yX8_nextMeritOf.desc).map (fun d => d.parameters.length) = some 1 := by decide +kernel
set_option maxHeartbeats 4000000 in
set_option maxRecDepth 100000 in
theorem c_X8_nextMeritOf (l : Launch) (D : va_G) (cI cB cF : ClassId) (sz : Nat) (x0 : Nat) (pg0 : Nat) (fr : Nat) (nw : Nat) (kp : Nat) (t0 : Nat) (pn : Nat) (bw : Nat) (ta : Nat) (t1 : Nat) (t2 : Nat) (t3 : Nat) (t4 : Nat) (n1 : Nat) (n2 : Nat) (n3 : Nat) (n4 : Nat) (n5 : Nat) (fd : Nat) (ft : Int32) (kn : Int32) (dy : Int32) (bm : Int32) (n : Nat) (cv : Int32) (bd : Int32) (hi : Int32) (kn0 : Int32) (me0 : Int32) (fa0 : Int32) (f1 : Nat → Int32) (f2 : Nat → Int32) (f3 : Nat → Int32) (f4 : Nat → Int32) (B : Nat → Nat) (F : zF) (r : Nat → Int32) (w : Int32) (hn : n ≤ 4) (hF : ∀ f, f < n → F.1 f < 5) (hro : zRo n r) : Met l yX8_nextMeritOf wsX8_nextMeritOf ({ frames := 4, cells := 0, slots := 0, locals := 93 } : Room) (PcW D cI cB cF [.ref x0, .int w] sz [(t0, .inr (7, [.ref t1, .ref t2, .ref t3, .ref t4, .int kn0, .int me0, .int fa0])), (t1, .inl (cI, 9, .inl f1)), (t2, .inl (cI, 8, .inl f2)), (t3, .inl (cI, 8, .inl f3)), (t4, .inl (cI, 8, .inl f4))] ([(x0, .inr (8, [.ref pg0, .ref fr, .ref nw, .ref kp, .ref t0, .ref pn, .ref bw, .ref ta, .int bm, .int (nI n), .int cv, .int bd, .int hi])), (nw, .inr (3, [.ref n1, .ref n2, .ref n3, .ref n4, .ref n5, .int (nI fd), .int ft, .int kn, .int dy])), (fr, .inl (cF, 4, .inr (.inr (.inr (.inr (zG n B)))))), (n1, .inl (cI, 8, .inl r))] ++ (zPo n B F))) (Qw D (S := Unit) (fun xx => some (.int (zGs (zDg F r ft kn) r w 8))) (fun xx => True) (fun xx => [(t0, .inr (7, [.ref t1, .ref t2, .ref t3, .ref t4, .int (zDk F r ft kn 8), .int (zSum (zDg F r ft kn) 8), .int (zSum (zDe F r ft kn) 8)])), (t1, .inl (cI, 9, .inl (zDf F r ft kn))), (t2, .inl (cI, 8, .inl (zDh F r ft kn))), (t3, .inl (cI, 8, .inl (zDg F r ft kn))), (t4, .inl (cI, 8, .inl (zDe F r ft kn)))]) (va_A [(t0, .inr (7, [.ref t1, .ref t2, .ref t3, .ref t4, .int kn0, .int me0, .int fa0])), (t1, .inl (cI, 9, .inl f1)), (t2, .inl (cI, 8, .inl f2)), (t3, .inl (cI, 8, .inl f3)), (t4, .inl (cI, 8, .inl f4))] sz)) 0 0 (va_A [(t0, .inr (7, [.ref t1, .ref t2, .ref t3, .ref t4, .int kn0, .int me0, .int fa0])), (t1, .inl (cI, 9, .inl f1)), (t2, .inl (cI, 8, .inl f2)), (t3, .inl (cI, 8, .inl f3)), (t4, .inl (cI, 8, .inl f4))] sz) := by
  refine Met.ofW (cc := cX8_nextMeritOf) (maxL := 5) (ret := (some .int)) (by decide) rfl ?_
  intro p e s m args below meth c s₁ Bd hml hv
  rw [show (headSpec wsX8_nextMeritOf ({ frames := 4, cells := 0, slots := 0, locals := 93 } : Room)).room = ({ frames := 4, cells := 0, slots := 0, locals := 93 } : Room) from rfl]
  obtain ⟨rfl, hsz, hP, hK, hD0, hR⟩ := hv
  have hx := Bd.exec
  have hb := Bd.bytes
  have hr := Bd.returns
  have hts := atoms_spec (ws := wsX8_nextMeritOf) Bd.pre
  have hown : s.vm.findClass RX8 = some m.cls := findClass_of_methodNamed Bd.named
  have hlocks := Bd.notSynchronized
  have FX : CallFix p m c cX8_nextMeritOf 5 s _ wsX8_nextMeritOf RX8 := ⟨hx, hb, hml, hown, hts⟩
  subst hsz
  have hD := hD0.self (sz := s.heap.size)
  generalize hAe : va_A [(t0, .inr (7, [.ref t1, .ref t2, .ref t3, .ref t4, .int kn0, .int me0, .int fa0])), (t1, .inl (cI, 9, .inl f1)), (t2, .inl (cI, 8, .inl f2)), (t3, .inl (cI, 8, .inl f3)), (t4, .inl (cI, 8, .inl f4))] s.heap.size = A at hD hR ⊢
  have hA : ∀ q : Nat, s.heap.size ≤ q → A q := fun q h => by rw [← hAe]; exact Or.inr h
  have hS : va_S A s.heap s.heap [] := va_S.rf
  have hP : va_P D vwCl [(t0, .inr (7, [.ref t1, .ref t2, .ref t3, .ref t4, .int kn0, .int me0, .int fa0])), (t1, .inl (cI, 9, .inl f1)), (t2, .inl (cI, 8, .inl f2)), (t3, .inl (cI, 8, .inl f3)), (t4, .inl (cI, 8, .inl f4))] s.heap := hP
  have hQ : va_P D vwCl ([(t0, .inr (7, [.ref t1, .ref t2, .ref t3, .ref t4, .int kn0, .int me0, .int fa0])), (t1, .inl (cI, 9, .inl f1)), (t2, .inl (cI, 8, .inl f2)), (t3, .inl (cI, 8, .inl f3)), (t4, .inl (cI, 8, .inl f4))] ++ ([(x0, .inr (8, [.ref pg0, .ref fr, .ref nw, .ref kp, .ref t0, .ref pn, .ref bw, .ref ta, .int bm, .int (nI n), .int cv, .int bd, .int hi])), (nw, .inr (3, [.ref n1, .ref n2, .ref n3, .ref n4, .ref n5, .int (nI fd), .int ft, .int kn, .int dy])), (fr, .inl (cF, 4, .inr (.inr (.inr (.inr (zG n B)))))), (n1, .inl (cI, 8, .inl r))] ++ (zPo n B F))) s.heap := va_P.app hP (hR.at hS).P
  have hl := lv_entry ([.ref x0, .int w]) (n := 5) (Nat.le_of_ble_eq_true rfl)
  rw [lg_entry_eq]
  generalize (lg_sl ([.ref x0, .int w]) ++ List.replicate (5 - (lg_sl ([.ref x0, .int w])).length) Slot.unset).toArray = ls at hl ⊢
  have hl : lv_has ls 5 [(0, .ref x0), (1, .int w)] := hl
  refine lv_aload_n hx hb dX8_nextMeritOf_0 rfl (lv_at hl 0 rfl) ?_
  have hFc := va_free (wc := [(t0, .inr (7, [.ref t1, .ref t2, .ref t3, .ref t4, .int kn0, .int me0, .int fa0])), (t1, .inl (cI, 9, .inl f1)), (t2, .inl (cI, 8, .inl f2)), (t3, .inl (cI, 8, .inl f3)), (t4, .inl (cI, 8, .inl f4))]) hD hS hA [0, 1, 2, 3, 4] rfl
  refine vz_cw [] [0, 1, 2, 3, 4] [] (va_runV (As := []) (rest := []) FX (c_X8_nextDay l D cI cB cF s.heap.size x0 pg0 fr nw kp t0 pn bw ta t1 t2 t3 t4 n1 n2 n3 n4 n5 fd ft kn dy bm n cv bd hi kn0 me0 fa0 f1 f2 f3 f4 B F r (by first | assumption | omega | decide) (by first | assumption | omega | decide) (by first | assumption | omega | decide)) (cwV 0 hts gX8_nextMeritOf_X8_nextDay rfl rfl rfl ⟨rfl, hd_X8_nextDay⟩ ⟨Nat.le_of_ble_eq_true rfl, Nat.le_of_ble_eq_true rfl⟩) (preW_V hQ 5 rfl rfl (hP.sub (ws' := [(t0, .inr (7, [.ref t1, .ref t2, .ref t3, .ref t4, .int kn0, .int me0, .int fa0])), (t1, .inl (cI, 9, .inl f1)), (t2, .inl (cI, 8, .inl f2)), (t3, .inl (cI, 8, .inl f3)), (t4, .inl (cI, 8, .inl f4))]) [0, 1, 2, 3, 4] rfl) (hD.sub (ws' := [(t0, .inr (7, [.ref t1, .ref t2, .ref t3, .ref t4, .int kn0, .int me0, .int fa0])), (t1, .inl (cI, 9, .inl f1)), (t2, .inl (cI, 8, .inl f2)), (t3, .inl (cI, 8, .inl f3)), (t4, .inl (cI, 8, .inl f4))]) [0, 1, 2, 3, 4] (by decide) rfl) hK (show vz_R D ([(x0, .inr (8, [.ref pg0, .ref fr, .ref nw, .ref kp, .ref t0, .ref pn, .ref bw, .ref ta, .int bm, .int (nI n), .int cv, .int bd, .int hi])), (nw, .inr (3, [.ref n1, .ref n2, .ref n3, .ref n4, .ref n5, .int (nI fd), .int ft, .int kn, .int dy])), (fr, .inl (cF, 4, .inr (.inr (.inr (.inr (zG n B)))))), (n1, .inl (cI, 8, .inl r))] ++ (zPo n B F)) _ _ from (vz_R.cons ((hR.at hS).one hFc (List.mem_of_getElem? (i := 0) rfl)) (vz_R.cons ((hR.at hS).one hFc (List.mem_of_getElem? (i := 1) rfl)) (vz_R.cons ((hR.at hS).one hFc (List.mem_of_getElem? (i := 2) rfl)) (vz_R.cons ((hR.at hS).one hFc (List.mem_of_getElem? (i := 3) rfl)) ((hR.at hS).sub hFc (fun q h => List.mem_append_right _ h)))))))) rfl rfl hl.1 rfl (lv_room (Nat.le_of_ble_eq_true rfl)) dX8_nextMeritOf_1 ⟨Nat.le_of_ble_eq_true rfl, Nat.le_of_ble_eq_true rfl⟩) hP hD hS hA rfl rfl rfl (by decide) (fun u H locs hu hP hD hS hz9 hk9 => ?_)
  have hP : va_P D vwCl [(t0, .inr (7, [.ref t1, .ref t2, .ref t3, .ref t4, .int (zDk F r ft kn 8), .int (zSum (zDg F r ft kn) 8), .int (zSum (zDe F r ft kn) 8)])), (t1, .inl (cI, 9, .inl (zDf F r ft kn))), (t2, .inl (cI, 8, .inl (zDh F r ft kn))), (t3, .inl (cI, 8, .inl (zDg F r ft kn))), (t4, .inl (cI, 8, .inl (zDe F r ft kn)))] H := hP
  have hD : va_D A [(t0, .inr (7, [.ref t1, .ref t2, .ref t3, .ref t4, .int (zDk F r ft kn 8), .int (zSum (zDg F r ft kn) 8), .int (zSum (zDe F r ft kn) 8)])), (t1, .inl (cI, 9, .inl (zDf F r ft kn))), (t2, .inl (cI, 8, .inl (zDh F r ft kn))), (t3, .inl (cI, 8, .inl (zDg F r ft kn))), (t4, .inl (cI, 8, .inl (zDe F r ft kn)))] := hD
  have hQ : va_P D vwCl ([(t0, .inr (7, [.ref t1, .ref t2, .ref t3, .ref t4, .int (zDk F r ft kn 8), .int (zSum (zDg F r ft kn) 8), .int (zSum (zDe F r ft kn) 8)])), (t1, .inl (cI, 9, .inl (zDf F r ft kn))), (t2, .inl (cI, 8, .inl (zDh F r ft kn))), (t3, .inl (cI, 8, .inl (zDg F r ft kn))), (t4, .inl (cI, 8, .inl (zDe F r ft kn)))] ++ ([(x0, .inr (8, [.ref pg0, .ref fr, .ref nw, .ref kp, .ref t0, .ref pn, .ref bw, .ref ta, .int bm, .int (nI n), .int cv, .int bd, .int hi])), (nw, .inr (3, [.ref n1, .ref n2, .ref n3, .ref n4, .ref n5, .int (nI fd), .int ft, .int kn, .int dy])), (fr, .inl (cF, 4, .inr (.inr (.inr (.inr (zG n B)))))), (n1, .inl (cI, 8, .inl r))] ++ (zPo n B F))) H := va_P.app hP (hR.at hS).P
  show W _ _ _ _ _ _ _ _ _ _ _ _ _ _ _ (F0 m 4 ls [.ref t0])
  refine lv_astore_n (lv' := [(2, .ref t0), (0, .ref x0), (1, .int w)]) hx hb dX8_nextMeritOf_4 rfl hl (by decide) rfl (fun ls hl => ?_)
  refine lv_iconst (v := 0) hx hb dX8_nextMeritOf_5 (by decide) ?_
  refine lv_istore_n (lv' := [(3, .int 0), (2, .ref t0), (0, .ref x0), (1, .int w)]) hx hb dX8_nextMeritOf_6 rfl hl (by decide) rfl (fun ls hl => ?_)
  refine lv_iconst (v := 0) hx hb dX8_nextMeritOf_7 (by decide) ?_
  refine lv_istore (lv' := [(4, .int 0), (3, .int 0), (2, .ref t0), (0, .ref x0), (1, .int w)]) hx hb dX8_nextMeritOf_8 hl (by decide) rfl (fun ls hl => ?_)
  refine vz_loop (D := D) (A := A) (H0 := s.heap) (nL := 5) (σ := Nat) (fun xx => 8 - xx) (fun xx => (xx ≤ 8)) (fun xx => [(t0, .inr (7, [.ref t1, .ref t2, .ref t3, .ref t4, .int (zDk F r ft kn 8), .int (zSum (zDg F r ft kn) 8), .int (zSum (zDe F r ft kn) 8)])), (t1, .inl (cI, 9, .inl (zDf F r ft kn))), (t2, .inl (cI, 8, .inl (zDh F r ft kn))), (t3, .inl (cI, 8, .inl (zDg F r ft kn))), (t4, .inl (cI, 8, .inl (zDe F r ft kn)))]) (fun xx => [(0, .ref x0), (1, .int w), (2, .ref t0), (3, .int (zGs (zDg F r ft kn) r w xx)), (4, .int (nI xx))]) (fun xx => []) ?_ 0 (Nat.zero_le _) (hP.sub [0, 1, 2, 3, 4] rfl) (hD.sub [0, 1, 2, 3, 4] (by decide) rfl) hS (lv_sub hl [3, 4, 2, 1, 0] rfl)
  rintro k hI ih_10 H locs ls hP hD hS hl
  have hk := hI
  have hk : k ≤ 8 := hk
  have hP : va_P D vwCl [(t0, .inr (7, [.ref t1, .ref t2, .ref t3, .ref t4, .int (zDk F r ft kn 8), .int (zSum (zDg F r ft kn) 8), .int (zSum (zDe F r ft kn) 8)])), (t1, .inl (cI, 9, .inl (zDf F r ft kn))), (t2, .inl (cI, 8, .inl (zDh F r ft kn))), (t3, .inl (cI, 8, .inl (zDg F r ft kn))), (t4, .inl (cI, 8, .inl (zDe F r ft kn)))] H := hP
  have hD : va_D A [(t0, .inr (7, [.ref t1, .ref t2, .ref t3, .ref t4, .int (zDk F r ft kn 8), .int (zSum (zDg F r ft kn) 8), .int (zSum (zDe F r ft kn) 8)])), (t1, .inl (cI, 9, .inl (zDf F r ft kn))), (t2, .inl (cI, 8, .inl (zDh F r ft kn))), (t3, .inl (cI, 8, .inl (zDg F r ft kn))), (t4, .inl (cI, 8, .inl (zDe F r ft kn)))] := hD
  have hQ : va_P D vwCl ([(t0, .inr (7, [.ref t1, .ref t2, .ref t3, .ref t4, .int (zDk F r ft kn 8), .int (zSum (zDg F r ft kn) 8), .int (zSum (zDe F r ft kn) 8)])), (t1, .inl (cI, 9, .inl (zDf F r ft kn))), (t2, .inl (cI, 8, .inl (zDh F r ft kn))), (t3, .inl (cI, 8, .inl (zDg F r ft kn))), (t4, .inl (cI, 8, .inl (zDe F r ft kn)))] ++ ([(x0, .inr (8, [.ref pg0, .ref fr, .ref nw, .ref kp, .ref t0, .ref pn, .ref bw, .ref ta, .int bm, .int (nI n), .int cv, .int bd, .int hi])), (nw, .inr (3, [.ref n1, .ref n2, .ref n3, .ref n4, .ref n5, .int (nI fd), .int ft, .int kn, .int dy])), (fr, .inl (cF, 4, .inr (.inr (.inr (.inr (zG n B)))))), (n1, .inl (cI, 8, .inl r))] ++ (zPo n B F))) H := va_P.app hP (hR.at hS).P
  have hl : lv_has ls 5 [(0, .ref x0), (1, .int w), (2, .ref t0), (3, .int (zGs (zDg F r ft kn) r w k)), (4, .int (nI k))] := hl
  show W _ _ _ _ _ _ _ _ _ _ _ _ _ _ _ (F0 m 10 ls [])
  refine lv_iload hx hb dX8_nextMeritOf_10 (lv_at hl 4 rfl) ?_
  refine lv_bipush (v := 8) hx hb dX8_nextMeritOf_12 (by decide) ?_
  refine lv_icmp_ge (tgt := 51) hx hb dX8_nextMeritOf_14 (by decide) (fun c_14 => ?_) (fun c_14 => ?_)
  · have hge_14 : 8 ≤ k := (nI_zle (a := 8) (b := k) (by omega) (by omega)).mp c_14
    refine lv_iload_n hx hb dX8_nextMeritOf_51 rfl (lv_at hl 3 rfl) ?_
    refine vz_si (zGs (zDg F r ft kn) r w 8) (by rw [show k = 8 by omega]) ?_
    have hP9 := hP.sub (ws' := [(t0, .inr (7, [.ref t1, .ref t2, .ref t3, .ref t4, .int (zDk F r ft kn 8), .int (zSum (zDg F r ft kn) 8), .int (zSum (zDe F r ft kn) 8)])), (t1, .inl (cI, 9, .inl (zDf F r ft kn))), (t2, .inl (cI, 8, .inl (zDh F r ft kn))), (t3, .inl (cI, 8, .inl (zDg F r ft kn))), (t4, .inl (cI, 8, .inl (zDe F r ft kn)))]) [0, 1, 2, 3, 4] rfl
    have hD9 := hD.sub (ws' := [(t0, .inr (7, [.ref t1, .ref t2, .ref t3, .ref t4, .int (zDk F r ft kn 8), .int (zSum (zDg F r ft kn) 8), .int (zSum (zDe F r ft kn) 8)])), (t1, .inl (cI, 9, .inl (zDf F r ft kn))), (t2, .inl (cI, 8, .inl (zDh F r ft kn))), (t3, .inl (cI, 8, .inl (zDg F r ft kn))), (t4, .inl (cI, 8, .inl (zDe F r ft kn)))]) [0, 1, 2, 3, 4] (by decide) rfl
    exact W.iret hx hb hr (fun t ht hW => ⟨⟨(), rfl, trivial, by rw [ht]; exact hP9, hD9⟩, hS.F ht⟩) hS.2.2 dX8_nextMeritOf_52
  · have hlt_14 : k < 8 := Nat.lt_of_not_le fun q => c_14 ((nI_zle (a := 8) (b := k) (by omega) (by omega)).mpr q)
    refine lv_aload_n hx hb dX8_nextMeritOf_17 rfl (lv_at hl 0 rfl) ?_
    refine va_get (D := D) (cl := vwCl) (tys := zT cI cB cF) (ci := 8) (v := .ref nw) (C := RX8) (T := TX8) (N := 13) hx hb hts iw_X8_nextMeritOf_X8 hown hK.1 hQ 5 rfl rfl 2 (by decide) (hts _ hw_X8_nextMeritOf_1) (fun _ h9 => h9) rfl dX8_nextMeritOf_18 ?_
    refine va_get (D := D) (cl := vwCl) (tys := zT cI cB cF) (ci := 3) (v := .ref n1) (C := RX3) (T := TX3) (N := 9) hx hb hts iw_X8_nextMeritOf_X3 hown hK.1 hQ 6 rfl rfl 0 (by decide) (hts _ hw_X8_nextMeritOf_2) (fun _ h9 => h9) rfl dX8_nextMeritOf_21 ?_
    refine lv_iload hx hb dX8_nextMeritOf_24 (lv_at hl 4 rfl) ?_
    refine vz_rd (va_runS (As := [.ref n1, .int (nI k)]) (rest := []) FX (c_X8_at l D cI cB cF n1 8 r (nI k) (by decide)) (va_cwS 2 hts gX8_nextMeritOf_X8_at rfl rfl rfl hd_X8_at ⟨Nat.le_of_ble_eq_true rfl, Nat.le_of_ble_eq_true rfl⟩) (preP_S (hQ.sub (ws' := [(n1, .inl (cI, 8, .inl r))]) [8] rfl) hK) rfl rfl hl.1 rfl (lv_room (Nat.le_of_ble_eq_true rfl)) dX8_nextMeritOf_26 ⟨Nat.le_of_ble_eq_true rfl, Nat.le_of_ble_eq_true rfl⟩) ?_
    refine vz_si (r k) (zAt_nI (by omega) (by decide)) ?_
    refine lv_iload_n hx hb dX8_nextMeritOf_29 rfl (lv_at hl 1 rfl) ?_
    refine lv_icmp_ne (tgt := 45) hx hb dX8_nextMeritOf_30 (by decide) (fun c_30 => ?_) (fun c_30 => ?_)
    · have hl : lv_has ls 5 [(0, .ref x0), (1, .int w), (2, .ref t0), (3, .int (zGs (zDg F r ft kn) r w (k + 1))), (4, .int (nI k))] := by have hz := hl; rw [show (zGs (zDg F r ft kn) r w k) = (zGs (zDg F r ft kn) r w (k + 1)) from (by show _ = if r k = w then _ else _; rw [if_neg c_30])] at hz; exact hz
      refine lv_iinc (v := (nI (k + 1))) (lv' := [(4, .int (nI (k + 1))), (0, .ref x0), (1, .int w), (2, .ref t0), (3, .int (zGs (zDg F r ft kn) r w (k + 1)))]) hx hb dX8_nextMeritOf_45 hl (k := 4) rfl ((nI_succ k).symm) (by decide) rfl (fun ls hl => ?_)
      refine lv_goto (tgt := 10) hx hb dX8_nextMeritOf_48 (by decide) ?_
      exact ih_10 (k + 1) (by (try dsimp only); omega) (hlt_14) H _ ls (hP.sub [0, 1, 2, 3, 4] rfl) (hD.sub [0, 1, 2, 3, 4] (by decide) rfl) hS (lv_sub hl [1, 2, 3, 4, 0] rfl)
    · refine lv_iload_n hx hb dX8_nextMeritOf_33 rfl (lv_at hl 3 rfl) ?_
      refine lv_aload_n hx hb dX8_nextMeritOf_34 rfl (lv_at hl 2 rfl) ?_
      refine va_get (D := D) (cl := vwCl) (tys := zT cI cB cF) (ci := 7) (v := .ref t3) (C := RX7) (T := TX7) (N := 7) hx hb hts iw_X8_nextMeritOf_X7 hown hK.1 hQ 0 rfl rfl 2 (by decide) (hts _ hw_X8_nextMeritOf_3) (fun _ h9 => h9) rfl dX8_nextMeritOf_35 ?_
      refine lv_iload hx hb dX8_nextMeritOf_38 (lv_at hl 4 rfl) ?_
      refine vz_rd (va_runS (As := [.ref t3, .int (nI k)]) (rest := [.int (zGs (zDg F r ft kn) r w k)]) FX (c_X8_at l D cI cB cF t3 8 (zDg F r ft kn) (nI k) (by decide)) (va_cwS 2 hts gX8_nextMeritOf_X8_at rfl rfl rfl hd_X8_at ⟨Nat.le_of_ble_eq_true rfl, Nat.le_of_ble_eq_true rfl⟩) (preP_S (hQ.sub (ws' := [(t3, .inl (cI, 8, .inl (zDg F r ft kn)))]) [3] rfl) hK) rfl rfl hl.1 rfl (lv_room (Nat.le_of_ble_eq_true rfl)) dX8_nextMeritOf_40 ⟨Nat.le_of_ble_eq_true rfl, Nat.le_of_ble_eq_true rfl⟩) ?_
      refine vz_si (zDg F r ft kn k) (zAt_nI (by omega) (by decide)) ?_
      refine lv_iadd hx hb dX8_nextMeritOf_43 ?_
      refine vz_si (zGs (zDg F r ft kn) r w (k + 1)) (by show _ = if r k = w then _ else _; rw [if_pos c_30]) ?_
      refine lv_istore_n (lv' := [(3, .int (zGs (zDg F r ft kn) r w (k + 1))), (0, .ref x0), (1, .int w), (2, .ref t0), (4, .int (nI k))]) hx hb dX8_nextMeritOf_44 rfl hl (by decide) rfl (fun ls hl => ?_)
      refine lv_iinc (v := (nI (k + 1))) (lv' := [(4, .int (nI (k + 1))), (3, .int (zGs (zDg F r ft kn) r w (k + 1))), (0, .ref x0), (1, .int w), (2, .ref t0)]) hx hb dX8_nextMeritOf_45 hl (k := 4) rfl ((nI_succ k).symm) (by decide) rfl (fun ls hl => ?_)
      refine lv_goto (tgt := 10) hx hb dX8_nextMeritOf_48 (by decide) ?_
      exact ih_10 (k + 1) (by (try dsimp only); omega) (hlt_14) H _ ls (hP.sub [0, 1, 2, 3, 4] rfl) (hD.sub [0, 1, 2, 3, 4] (by decide) rfl) hS (lv_sub hl [2, 3, 4, 1, 0] rfl)
