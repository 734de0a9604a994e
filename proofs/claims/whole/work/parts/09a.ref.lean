set_option maxRecDepth 100000 in
theorem hd_X9_within : yX9_within.cls ≠ "java/lang/invoke/MethodHandle" ∧ yX9_within.cls ≠ "java/lang/invoke/VarHandle" ∧ (parseMethodDescriptor yX9_within.desc).map (fun d => d.parameters.length) = some 3 := by decide +kernel
set_option maxHeartbeats 4000000 in
set_option maxRecDepth 100000 in
theorem c_X9_within (l : Launch) (D : va_G) (cI cB cF : ClassId) (v : Int32) (lo : Int32) (hi : Int32)  : Met l yX9_within wsX9_within ({ frames := 0, cells := 0, slots := 0, locals := 0 } : Room) (PcP D cI cB cF [.int v, .int lo, .int hi] []) (QcV (.int (zb (zIn v lo hi)))) 0 0 (fun _ => False) := by
  refine Met.ofW (cc := cX9_within) (maxL := 3) (ret := (some .boolean)) (by decide) rfl ?_
  intro p e s m args below meth c s₁ Bd hml hv
  rw [show (headSpec wsX9_within ({ frames := 0, cells := 0, slots := 0, locals := 0 } : Room)).room = ({ frames := 0, cells := 0, slots := 0, locals := 0 } : Room) from rfl]
  obtain ⟨rfl, hQ, hK⟩ := hv
  have hx := Bd.exec
  have hb := Bd.bytes
  have hr := Bd.returns
  have hts := atoms_spec (ws := wsX9_within) Bd.pre
  have hown : s.vm.findClass RX9 = some m.cls := findClass_of_methodNamed Bd.named
  have hlocks := Bd.notSynchronized
  have FX : CallFix p m c cX9_within 3 s _ wsX9_within RX9 := ⟨hx, hb, hml, hown, hts⟩
  have hQ : va_P D vwCl [] s.heap := hQ
  have hl := lv_entry ([.int v, .int lo, .int hi]) (n := 3) (Nat.le_of_ble_eq_true rfl)
  rw [lg_entry_eq]
  generalize (lg_sl ([.int v, .int lo, .int hi]) ++ List.replicate (3 - (lg_sl ([.int v, .int lo, .int hi])).length) Slot.unset).toArray = ls at hl ⊢
  have hl : lv_has ls 3 [(0, .int v), (1, .int lo), (2, .int hi)] := hl
  refine lv_iload_n hx hb dX9_within_0 rfl (lv_at hl 0 rfl) ?_
  refine lv_iload_n hx hb dX9_within_1 rfl (lv_at hl 1 rfl) ?_
  refine lv_icmp_lt (tgt := 14) hx hb dX9_within_2 (by decide) (fun c_2 => ?_) (fun c_2 => ?_)
  · refine lv_iconst (v := 0) hx hb dX9_within_14 (by decide) ?_
    refine vz_si (zb (zIn v lo hi)) (by unfold zIn; first | (rw [decide_eq_true c_2]; rfl) | (rw [decide_eq_false c_2, decide_eq_true c_7]; rfl) | (rw [decide_eq_false c_2, decide_eq_false c_7]; rfl)) ?_
    exact W.zret hx hb hr (zb_nar _) (fun t ht hW => ⟨rfl, ht⟩) (fun q h => by cases h) dX9_within_15
  · refine lv_iload_n hx hb dX9_within_5 rfl (lv_at hl 0 rfl) ?_
    refine lv_iload_n hx hb dX9_within_6 rfl (lv_at hl 2 rfl) ?_
    refine lv_icmp_gt (tgt := 14) hx hb dX9_within_7 (by decide) (fun c_7 => ?_) (fun c_7 => ?_)
    · refine lv_iconst (v := 0) hx hb dX9_within_14 (by decide) ?_
      refine vz_si (zb (zIn v lo hi)) (by unfold zIn; first | (rw [decide_eq_true c_2]; rfl) | (rw [decide_eq_false c_2, decide_eq_true c_7]; rfl) | (rw [decide_eq_false c_2, decide_eq_false c_7]; rfl)) ?_
      exact W.zret hx hb hr (zb_nar _) (fun t ht hW => ⟨rfl, ht⟩) (fun q h => by cases h) dX9_within_15
    · refine lv_iconst (v := 1) hx hb dX9_within_10 (by decide) ?_
      refine lv_goto (tgt := 15) hx hb dX9_within_11 (by decide) ?_
      refine vz_si (zb (zIn v lo hi)) (by unfold zIn; first | (rw [decide_eq_true c_2]; rfl) | (rw [decide_eq_false c_2, decide_eq_true c_7]; rfl) | (rw [decide_eq_false c_2, decide_eq_false c_7]; rfl)) ?_
      exact W.zret hx hb hr (zb_nar _) (fun t ht hW => ⟨rfl, ht⟩) (fun q h => by cases h) dX9_within_15
set_option maxRecDepth 100000 in
theorem hd_X9_isIn : yX9_isIn.cls ≠ "java/lang/invoke/MethodHandle" ∧ yX9_isIn.cls ≠ "java/lang/invoke/VarHandle" ∧ (parseMethodDescriptor yX9_isIn.desc).map (fun d => d.parameters.length) = some 2 := by decide +kernel
set_option maxHeartbeats 4000000 in
set_option maxRecDepth 100000 in
theorem c_X9_isIn (l : Launch) (D : va_G) (cI cB cF : ClassId) (v : Int32) (k : Int32)  : Met l yX9_isIn wsX9_isIn ({ frames := 0, cells := 0, slots := 0, locals := 0 } : Room) (PcP D cI cB cF [.int v, .int k] []) (QcV (.int (zb (zIi v k)))) 0 0 (fun _ => False) := by
  refine Met.ofW (cc := cX9_isIn) (maxL := 2) (ret := (some .boolean)) (by decide) rfl ?_
  intro p e s m args below meth c s₁ Bd hml hv
  rw [show (headSpec wsX9_isIn ({ frames := 0, cells := 0, slots := 0, locals := 0 } : Room)).room = ({ frames := 0, cells := 0, slots := 0, locals := 0 } : Room) from rfl]
  obtain ⟨rfl, hQ, hK⟩ := hv
  have hx := Bd.exec
  have hb := Bd.bytes
  have hr := Bd.returns
  have hts := atoms_spec (ws := wsX9_isIn) Bd.pre
  have hown : s.vm.findClass RX9 = some m.cls := findClass_of_methodNamed Bd.named
  have hlocks := Bd.notSynchronized
  have FX : CallFix p m c cX9_isIn 2 s _ wsX9_isIn RX9 := ⟨hx, hb, hml, hown, hts⟩
  have hQ : va_P D vwCl [] s.heap := hQ
  have hl := lv_entry ([.int v, .int k]) (n := 2) (Nat.le_of_ble_eq_true rfl)
  rw [lg_entry_eq]
  generalize (lg_sl ([.int v, .int k]) ++ List.replicate (2 - (lg_sl ([.int v, .int k])).length) Slot.unset).toArray = ls at hl ⊢
  have hl : lv_has ls 2 [(0, .int v), (1, .int k)] := hl
  refine lv_iload_n hx hb dX9_isIn_0 rfl (lv_at hl 0 rfl) ?_
  refine lv_iload_n hx hb dX9_isIn_1 rfl (lv_at hl 1 rfl) ?_
  refine lv_ishr hx hb dX9_isIn_2 ?_
  refine lv_iconst (v := 1) hx hb dX9_isIn_3 (by decide) ?_
  refine lv_iand hx hb dX9_isIn_4 ?_
  refine lv_iconst (v := 1) hx hb dX9_isIn_5 (by decide) ?_
  refine lv_icmp_ne (tgt := 13) hx hb dX9_isIn_6 (by decide) (fun c_6 => ?_) (fun c_6 => ?_)
  · refine lv_iconst (v := 0) hx hb dX9_isIn_13 (by decide) ?_
    refine vz_si (zb (zIi v k)) (by unfold zIi; first | (rw [decide_eq_true c_6]; rfl) | (rw [decide_eq_false c_6]; rfl)) ?_
    exact W.zret hx hb hr (zb_nar _) (fun t ht hW => ⟨rfl, ht⟩) (fun q h => by cases h) dX9_isIn_14
  · refine lv_iconst (v := 1) hx hb dX9_isIn_9 (by decide) ?_
    refine lv_goto (tgt := 14) hx hb dX9_isIn_10 (by decide) ?_
    refine vz_si (zb (zIi v k)) (by unfold zIi; first | (rw [decide_eq_true c_6]; rfl) | (rw [decide_eq_false c_6]; rfl)) ?_
    exact W.zret hx hb hr (zb_nar _) (fun t ht hW => ⟨rfl, ht⟩) (fun q h => by cases h) dX9_isIn_14
set_option maxRecDepth 100000 in
theorem hd_X9_size : yX9_size.cls ≠ "java/lang/invoke/MethodHandle" ∧ yX9_size.cls ≠ "java/lang/invoke/VarHandle" ∧ (parseMethodDescriptor yX9_size.desc).map (fun d => d.parameters.length) = some 1 := by decide +kernel
set_option maxHeartbeats 4000000 in
set_option maxRecDepth 100000 in
theorem c_X9_size (l : Launch) (D : va_G) (cI cB cF : ClassId) (v : Int32)  : Met l yX9_size wsX9_size ({ frames := 0, cells := 0, slots := 0, locals := 0 } : Room) (PcP D cI cB cF [.int v] []) (QcV (.int (zSz v 6))) 0 0 (fun _ => False) := by
  refine Met.ofW (cc := cX9_size) (maxL := 3) (ret := (some .int)) (by decide) rfl ?_
  intro p e s m args below meth c s₁ Bd hml hv
  rw [show (headSpec wsX9_size ({ frames := 0, cells := 0, slots := 0, locals := 0 } : Room)).room = ({ frames := 0, cells := 0, slots := 0, locals := 0 } : Room) from rfl]
  obtain ⟨rfl, hQ, hK⟩ := hv
  have hx := Bd.exec
  have hb := Bd.bytes
  have hr := Bd.returns
  have hts := atoms_spec (ws := wsX9_size) Bd.pre
  have hown : s.vm.findClass RX9 = some m.cls := findClass_of_methodNamed Bd.named
  have hlocks := Bd.notSynchronized
  have FX : CallFix p m c cX9_size 3 s _ wsX9_size RX9 := ⟨hx, hb, hml, hown, hts⟩
  have hQ : va_P D vwCl [] s.heap := hQ
  have hl := lv_entry ([.int v]) (n := 3) (Nat.le_of_ble_eq_true rfl)
  rw [lg_entry_eq]
  generalize (lg_sl ([.int v]) ++ List.replicate (3 - (lg_sl ([.int v])).length) Slot.unset).toArray = ls at hl ⊢
  have hl : lv_has ls 3 [(0, .int v)] := hl
  refine lv_iconst (v := 0) hx hb dX9_size_0 (by decide) ?_
  refine lv_istore_n (lv' := [(1, .int 0), (0, .int v)]) hx hb dX9_size_1 rfl hl (by decide) rfl (fun ls hl => ?_)
  refine lv_iconst (v := 0) hx hb dX9_size_2 (by decide) ?_
  refine lv_istore_n (lv' := [(2, .int 0), (1, .int 0), (0, .int v)]) hx hb dX9_size_3 rfl hl (by decide) rfl (fun ls hl => ?_)
  refine vz_loopP (nL := 3) (σ := Nat) (fun xx => 6 - xx) (fun xx => (xx ≤ 6)) (fun xx => [(0, .int v), (1, .int (zSz v xx)), (2, .int (nI xx))]) (fun xx => []) ?_ 0 (Nat.zero_le _) (lv_sub hl [2, 1, 0] rfl)
  rintro k hI ih_4 ls hl
  have hk := hI
  have hk : k ≤ 6 := hk
  have hl : lv_has ls 3 [(0, .int v), (1, .int (zSz v k)), (2, .int (nI k))] := hl
  show W _ _ _ _ _ _ _ _ _ _ _ _ _ _ _ (F0 m 4 ls [])
  refine lv_iload_n hx hb dX9_size_4 rfl (lv_at hl 2 rfl) ?_
  refine lv_bipush (v := 6) hx hb dX9_size_5 (by decide) ?_
  refine lv_icmp_ge (tgt := 24) hx hb dX9_size_7 (by decide) (fun c_7 => ?_) (fun c_7 => ?_)
  · have hge_7 : 6 ≤ k := (nI_zle (a := 6) (b := k) (by omega) (by omega)).mp c_7
    refine lv_iload_n hx hb dX9_size_24 rfl (lv_at hl 1 rfl) ?_
    refine vz_si (zSz v 6) (by rw [show k = 6 by omega]) ?_
    exact W.iret hx hb hr (fun t ht hW => ⟨rfl, ht⟩) (fun q h => by cases h) dX9_size_25
  · have hlt_7 : k < 6 := Nat.lt_of_not_le fun q => c_7 ((nI_zle (a := 6) (b := k) (by omega) (by omega)).mpr q)
    refine lv_iload_n hx hb dX9_size_10 rfl (lv_at hl 1 rfl) ?_
    refine lv_iload_n hx hb dX9_size_11 rfl (lv_at hl 0 rfl) ?_
    refine lv_iload_n hx hb dX9_size_12 rfl (lv_at hl 2 rfl) ?_
    refine lv_ishr hx hb dX9_size_13 ?_
    refine lv_iconst (v := 1) hx hb dX9_size_14 (by decide) ?_
    refine lv_iand hx hb dX9_size_15 ?_
    refine lv_iadd hx hb dX9_size_16 ?_
    refine vz_si (zSz v (k + 1)) (rfl) ?_
    refine lv_istore_n (lv' := [(1, .int (zSz v (k + 1))), (0, .int v), (2, .int (nI k))]) hx hb dX9_size_17 rfl hl (by decide) rfl (fun ls hl => ?_)
    refine lv_iinc (v := (nI (k + 1))) (lv' := [(2, .int (nI (k + 1))), (1, .int (zSz v (k + 1))), (0, .int v)]) hx hb dX9_size_18 hl (k := 2) rfl ((nI_succ k).symm) (by decide) rfl (fun ls hl => ?_)
    refine lv_goto (tgt := 4) hx hb dX9_size_21 (by decide) ?_
    exact ih_4 (k + 1) (by (try dsimp only); omega) (hlt_7) ls (lv_sub hl [2, 1, 0] rfl)
set_option maxRecDepth 100000 in
theorem hd_X9_kindBy : yX9_kindBy.cls ≠ "java/lang/invoke/MethodHandle" ∧ yX9_kindBy.cls ≠ "java/lang/invoke/VarHandle" ∧ (parseMethodDescriptor yX9_kindBy.desc).map (fun d => d.parameters.length) = some 1 := by decide +kernel
set_option maxHeartbeats 4000000 in
set_option maxRecDepth 100000 in
theorem c_X9_kindBy (l : Launch) (D : va_G) (cI cB cF : ClassId) (cd : Int32)  : Met l yX9_kindBy wsX9_kindBy ({ frames := 0, cells := 0, slots := 0, locals := 0 } : Room) (PcP D cI cB cF [.int cd] []) (QcV (.int (zKy cd))) 0 0 (fun _ => False) := by
  refine Met.ofW (cc := cX9_kindBy) (maxL := 1) (ret := (some .int)) (by decide) rfl ?_
  intro p e s m args below meth c s₁ Bd hml hv
  rw [show (headSpec wsX9_kindBy ({ frames := 0, cells := 0, slots := 0, locals := 0 } : Room)).room = ({ frames := 0, cells := 0, slots := 0, locals := 0 } : Room) from rfl]
  obtain ⟨rfl, hQ, hK⟩ := hv
  have hx := Bd.exec
  have hb := Bd.bytes
  have hr := Bd.returns
  have hts := atoms_spec (ws := wsX9_kindBy) Bd.pre
  have hown : s.vm.findClass RX9 = some m.cls := findClass_of_methodNamed Bd.named
  have hlocks := Bd.notSynchronized
  have FX : CallFix p m c cX9_kindBy 1 s _ wsX9_kindBy RX9 := ⟨hx, hb, hml, hown, hts⟩
  have hQ : va_P D vwCl [] s.heap := hQ
  have hl := lv_entry ([.int cd]) (n := 1) (Nat.le_of_ble_eq_true rfl)
  rw [lg_entry_eq]
  generalize (lg_sl ([.int cd]) ++ List.replicate (1 - (lg_sl ([.int cd])).length) Slot.unset).toArray = ls at hl ⊢
  have hl : lv_has ls 1 [(0, .int cd)] := hl
  refine lv_iload_n hx hb dX9_kindBy_0 rfl (lv_at hl 0 rfl) ?_
  by_cases q_1_97 : cd = 97
  · refine vz_si 97 q_1_97 ?_
    refine lv_lookup (off := 59) (tgt := 60) hx hb dX9_kindBy_1 (by decide) (by decide) (by decide) ?_
    refine lv_iconst (v := 4) hx hb dX9_kindBy_60 (by decide) ?_
    refine vz_si (zKy cd) (by unfold zKy; rw [if_pos q_1_97]) ?_
    exact W.iret hx hb hr (fun t ht hW => ⟨rfl, ht⟩) (fun q h => by cases h) dX9_kindBy_61
  · skip
    by_cases q_1_99 : cd = 99
    · refine vz_si 99 q_1_99 ?_
      refine lv_lookup (off := 53) (tgt := 54) hx hb dX9_kindBy_1 (by decide) (by decide) (by decide) ?_
      refine lv_iconst (v := 1) hx hb dX9_kindBy_54 (by decide) ?_
      refine vz_si (zKy cd) (by unfold zKy; rw [if_neg q_1_97, if_pos q_1_99]) ?_
      exact W.iret hx hb hr (fun t ht hW => ⟨rfl, ht⟩) (fun q h => by cases h) dX9_kindBy_55
    · skip
      by_cases q_1_102 : cd = 102
      · refine vz_si 102 q_1_102 ?_
        refine lv_lookup (off := 51) (tgt := 52) hx hb dX9_kindBy_1 (by decide) (by decide) (by decide) ?_
        refine lv_iconst (v := 0) hx hb dX9_kindBy_52 (by decide) ?_
        refine vz_si (zKy cd) (by unfold zKy; rw [if_neg q_1_97, if_neg q_1_99, if_pos q_1_102]) ?_
        exact W.iret hx hb hr (fun t ht hW => ⟨rfl, ht⟩) (fun q h => by cases h) dX9_kindBy_53
      · skip
        by_cases q_1_112 : cd = 112
        · refine vz_si 112 q_1_112 ?_
          refine lv_lookup (off := 57) (tgt := 58) hx hb dX9_kindBy_1 (by decide) (by decide) (by decide) ?_
          refine lv_iconst (v := 3) hx hb dX9_kindBy_58 (by decide) ?_
          refine vz_si (zKy cd) (by unfold zKy; rw [if_neg q_1_97, if_neg q_1_99, if_neg q_1_102, if_pos q_1_112]) ?_
          exact W.iret hx hb hr (fun t ht hW => ⟨rfl, ht⟩) (fun q h => by cases h) dX9_kindBy_59
        · skip
          by_cases q_1_115 : cd = 115
          · refine vz_si 115 q_1_115 ?_
            refine lv_lookup (off := 55) (tgt := 56) hx hb dX9_kindBy_1 (by decide) (by decide) (by decide) ?_
            refine lv_iconst (v := 2) hx hb dX9_kindBy_56 (by decide) ?_
            refine vz_si (zKy cd) (by unfold zKy; rw [if_neg q_1_97, if_neg q_1_99, if_neg q_1_102, if_neg q_1_112, if_pos q_1_115]) ?_
            exact W.iret hx hb hr (fun t ht hW => ⟨rfl, ht⟩) (fun q h => by cases h) dX9_kindBy_57
          · skip
            refine lv_lookup (off := 61) (tgt := 62) hx hb dX9_kindBy_1 (by decide) ((lv_osw q_1_97 rfl).trans ((lv_osw q_1_99 rfl).trans ((lv_osw q_1_102 rfl).trans ((lv_osw q_1_112 rfl).trans ((lv_osw q_1_115 rfl).trans rfl))))) (by decide) ?_
            refine lv_iconst (v := (-1)) hx hb dX9_kindBy_62 (by decide) ?_
            refine vz_si (zKy cd) (by unfold zKy; rw [if_neg q_1_97, if_neg q_1_99, if_neg q_1_102, if_neg q_1_112, if_neg q_1_115]) ?_
            exact W.iret hx hb hr (fun t ht hW => ⟨rfl, ht⟩) (fun q h => by cases h) dX9_kindBy_63
set_option maxRecDepth 100000 in
theorem hd_X9_atMost : yX9_atMost.cls ≠ "java/lang/invoke/MethodHandle" ∧ yX9_atMost.cls ≠ "java/lang/invoke/VarHandle" ∧ (parseMethodDescriptor yX9_atMost.desc).map (fun d => d.parameters.length) = some 1 := by decide +kernel
set_option maxHeartbeats 4000000 in
set_option maxRecDepth 100000 in
theorem c_X9_atMost (l : Launch) (D : va_G) (cI cB cF : ClassId) (v : Int32)  : Met l yX9_atMost wsX9_atMost ({ frames := 0, cells := 0, slots := 0, locals := 0 } : Room) (PcP D cI cB cF [.int v] []) (QcV (.int (zCl v))) 0 0 (fun _ => False) := by
  refine Met.ofW (cc := cX9_atMost) (maxL := 1) (ret := (some .int)) (by decide) rfl ?_
  intro p e s m args below meth c s₁ Bd hml hv
  rw [show (headSpec wsX9_atMost ({ frames := 0, cells := 0, slots := 0, locals := 0 } : Room)).room = ({ frames := 0, cells := 0, slots := 0, locals := 0 } : Room) from rfl]
  obtain ⟨rfl, hQ, hK⟩ := hv
  have hx := Bd.exec
  have hb := Bd.bytes
  have hr := Bd.returns
  have hts := atoms_spec (ws := wsX9_atMost) Bd.pre
  have hown : s.vm.findClass RX9 = some m.cls := findClass_of_methodNamed Bd.named
  have hlocks := Bd.notSynchronized
  have FX : CallFix p m c cX9_atMost 1 s _ wsX9_atMost RX9 := ⟨hx, hb, hml, hown, hts⟩
  have hQ : va_P D vwCl [] s.heap := hQ
  have hl := lv_entry ([.int v]) (n := 1) (Nat.le_of_ble_eq_true rfl)
  rw [lg_entry_eq]
  generalize (lg_sl ([.int v]) ++ List.replicate (1 - (lg_sl ([.int v])).length) Slot.unset).toArray = ls at hl ⊢
  have hl : lv_has ls 1 [(0, .int v)] := hl
  refine lv_iload_n hx hb dX9_atMost_0 rfl (lv_at hl 0 rfl) ?_
  refine lv_bipush (v := 9) hx hb dX9_atMost_1 (by decide) ?_
  refine lv_icmp_le (tgt := 11) hx hb dX9_atMost_3 (by decide) (fun c_3 => ?_) (fun c_3 => ?_)
  · refine lv_iload_n hx hb dX9_atMost_11 rfl (lv_at hl 0 rfl) ?_
    refine lv_if_ge (tgt := 19) hx hb dX9_atMost_12 (by decide) (fun c_12 => ?_) (fun c_12 => ?_)
    · refine lv_iload_n hx hb dX9_atMost_19 rfl (lv_at hl 0 rfl) ?_
      refine vz_si (zCl v) (by unfold zCl; first | rw [if_pos (Int32.not_le.mp c_3)] | rw [if_neg (Int32.not_lt.mpr c_3), if_neg (Int32.not_lt.mpr c_12)] | rw [if_neg (Int32.not_lt.mpr c_3), if_pos (Int32.not_le.mp c_12)]) ?_
      exact W.iret hx hb hr (fun t ht hW => ⟨rfl, ht⟩) (fun q h => by cases h) dX9_atMost_20
    · refine lv_iconst (v := 0) hx hb dX9_atMost_15 (by decide) ?_
      refine lv_goto (tgt := 20) hx hb dX9_atMost_16 (by decide) ?_
      refine vz_si (zCl v) (by unfold zCl; first | rw [if_pos (Int32.not_le.mp c_3)] | rw [if_neg (Int32.not_lt.mpr c_3), if_neg (Int32.not_lt.mpr c_12)] | rw [if_neg (Int32.not_lt.mpr c_3), if_pos (Int32.not_le.mp c_12)]) ?_
      exact W.iret hx hb hr (fun t ht hW => ⟨rfl, ht⟩) (fun q h => by cases h) dX9_atMost_20
  · refine lv_bipush (v := 9) hx hb dX9_atMost_6 (by decide) ?_
    refine lv_goto (tgt := 20) hx hb dX9_atMost_8 (by decide) ?_
    refine vz_si (zCl v) (by unfold zCl; first | rw [if_pos (Int32.not_le.mp c_3)] | rw [if_neg (Int32.not_lt.mpr c_3), if_neg (Int32.not_lt.mpr c_12)] | rw [if_neg (Int32.not_lt.mpr c_3), if_pos (Int32.not_le.mp c_12)]) ?_
    exact W.iret hx hb hr (fun t ht hW => ⟨rfl, ht⟩) (fun q h => by cases h) dX9_atMost_20
set_option maxRecDepth 100000 in
theorem iw_X9_isFather_X9 : ∀ w ∈ u_ws RX9 TX9 41, w ∈ wsX9_isFather := fun w h => List.mem_cons_of_mem _ (List.mem_append_right _ h)
set_option maxRecDepth 100000 in
theorem hw_X9_isFather_1 : (.fieldLink RX9 100 "RotaFathersModel" "fathers" "I" : Cond) ∈ wsX9_isFather := List.mem_of_getElem? (i := 1) rfl
set_option maxRecDepth 100000 in
theorem hd_X9_isFather : yX9_isFather.cls ≠ "java/lang/invoke/MethodHandle" ∧ yX9_isFather.cls ≠ "java/lang/invoke/VarHandle" ∧ (parseMethodDescriptor yX9_isFather.desc).map (fun d => d.parameters.length) = some 1 := by decide +kernel
set_option maxHeartbeats 4000000 in
set_option maxRecDepth 100000 in
theorem c_X9_isFather (l : Launch) (D : va_G) (cI cB cF : ClassId) (M : Nat → Nat) (ca : Int32) (ft : Int32) (kn : Int32) (dy : Int32) (fd : Int32) (ak : Int32) (pl : Int32) (iw : Int32) (nm : Int32) (fi : Int32) (nf : Int32) (nk : Int32) (sd : Int64) (ik : Int32) (kc : Int32) (kf : Int32) (kk : Int32) (kd : Int32) (ko : Int32) (hh : Int64) (n : Nat) (i : Int32)  : Met l yX9_isFather wsX9_isFather ({ frames := 1, cells := 0, slots := 0, locals := 22 } : Room) (PcP D cI cB cF [.ref (M 0), .int i] [(M 0, mO M ca (nI n) ft kn dy fd ak pl iw nm fi nf nk sd ik kc kf kk kd ko hh)]) (QcV (.int (zb (zIn i 0 (nI n - 1))))) 0 0 (fun _ => False) := by
  refine Met.ofW (cc := cX9_isFather) (maxL := 2) (ret := (some .boolean)) (by decide) rfl ?_
  intro p e s m args below meth c s₁ Bd hml hv
  rw [show (headSpec wsX9_isFather ({ frames := 1, cells := 0, slots := 0, locals := 22 } : Room)).room = ({ frames := 1, cells := 0, slots := 0, locals := 22 } : Room) from rfl]
  obtain ⟨rfl, hQ, hK⟩ := hv
  have hx := Bd.exec
  have hb := Bd.bytes
  have hr := Bd.returns
  have hts := atoms_spec (ws := wsX9_isFather) Bd.pre
  have hown : s.vm.findClass RX9 = some m.cls := findClass_of_methodNamed Bd.named
  have hlocks := Bd.notSynchronized
  have FX : CallFix p m c cX9_isFather 2 s _ wsX9_isFather RX9 := ⟨hx, hb, hml, hown, hts⟩
  have hQ : va_P D vwCl [(M 0, mO M ca (nI n) ft kn dy fd ak pl iw nm fi nf nk sd ik kc kf kk kd ko hh)] s.heap := hQ
  have hl := lv_entry ([.ref (M 0), .int i]) (n := 2) (Nat.le_of_ble_eq_true rfl)
  rw [lg_entry_eq]
  generalize (lg_sl ([.ref (M 0), .int i]) ++ List.replicate (2 - (lg_sl ([.ref (M 0), .int i])).length) Slot.unset).toArray = ls at hl ⊢
  have hl : lv_has ls 2 [(0, .ref (M 0)), (1, .int i)] := hl
  refine lv_iload_n hx hb dX9_isFather_0 rfl (lv_at hl 1 rfl) ?_
  refine lv_iconst (v := 0) hx hb dX9_isFather_1 (by decide) ?_
  refine lv_aload_n hx hb dX9_isFather_2 rfl (lv_at hl 0 rfl) ?_
  refine va_get (D := D) (cl := vwCl) (tys := zT cI cB cF) (ci := 9) (v := .int (nI n)) (C := RX9) (T := TX9) (N := 41) hx hb hts iw_X9_isFather_X9 hown hK.1 hQ 0 rfl rfl 1 (by decide) (hts _ hw_X9_isFather_1) (fun _ h9 => h9) rfl dX9_isFather_3 ?_
  refine lv_iconst (v := 1) hx hb dX9_isFather_6 (by decide) ?_
  refine lv_isub hx hb dX9_isFather_7 ?_
  refine vz_rd (va_runS (As := [.int i, .int 0, .int ((nI n) - 1)]) (rest := []) FX (c_X9_within l D cI cB cF i 0 ((nI n) - 1) ) (va_cwS 3 hts gX9_isFather_X9_within rfl rfl rfl hd_X9_within ⟨Nat.le_of_ble_eq_true rfl, Nat.le_of_ble_eq_true rfl⟩) (preP_S (hQ.sub (ws' := []) [] rfl) hK) rfl rfl hl.1 rfl (lv_room (Nat.le_of_ble_eq_true rfl)) dX9_isFather_8 ⟨Nat.le_of_ble_eq_true rfl, Nat.le_of_ble_eq_true rfl⟩) ?_
  refine vz_si (zb (zIn i 0 (nI n - 1))) (rfl) ?_
  exact W.zret hx hb hr (zb_nar _) (fun t ht hW => ⟨rfl, ht⟩) (fun q h => by cases h) dX9_isFather_11
set_option maxRecDepth 100000 in
theorem iw_X9_isShift_X9 : ∀ w ∈ u_ws RX9 TX9 41, w ∈ wsX9_isShift := fun w h => List.mem_cons_of_mem _ (List.mem_append_right _ h)
set_option maxRecDepth 100000 in
theorem hw_X9_isShift_1 : (.fieldLink RX9 100 "RotaFathersModel" "fathers" "I" : Cond) ∈ wsX9_isShift := List.mem_of_getElem? (i := 1) rfl
set_option maxRecDepth 100000 in
theorem hd_X9_isShift : yX9_isShift.cls ≠ "java/lang/invoke/MethodHandle" ∧ yX9_isShift.cls ≠ "java/lang/invoke/VarHandle" ∧ (parseMethodDescriptor yX9_isShift.desc).map (fun d => d.parameters.length) = some 1 := by decide +kernel
set_option maxHeartbeats 4000000 in
set_option maxRecDepth 100000 in
theorem c_X9_isShift (l : Launch) (D : va_G) (cI cB cF : ClassId) (M : Nat → Nat) (ca : Int32) (ft : Int32) (kn : Int32) (dy : Int32) (fd : Int32) (ak : Int32) (pl : Int32) (iw : Int32) (nm : Int32) (fi : Int32) (nf : Int32) (nk : Int32) (sd : Int64) (ik : Int32) (kc : Int32) (kf : Int32) (kk : Int32) (kd : Int32) (ko : Int32) (hh : Int64) (n : Nat) (i : Int32) (hn : n ≤ 4) : Met l yX9_isShift wsX9_isShift ({ frames := 1, cells := 0, slots := 0, locals := 22 } : Room) (PcP D cI cB cF [.ref (M 0), .int i] [(M 0, mO M ca (nI n) ft kn dy fd ak pl iw nm fi nf nk sd ik kc kf kk kd ko hh)]) (QcV (.int (zb (decide (0 < n) && zIn i 0 7)))) 0 0 (fun _ => False) := by
  refine Met.ofW (cc := cX9_isShift) (maxL := 2) (ret := (some .boolean)) (by decide) rfl ?_
  intro p e s m args below meth c s₁ Bd hml hv
  rw [show (headSpec wsX9_isShift ({ frames := 1, cells := 0, slots := 0, locals := 22 } : Room)).room = ({ frames := 1, cells := 0, slots := 0, locals := 22 } : Room) from rfl]
  obtain ⟨rfl, hQ, hK⟩ := hv
  have hx := Bd.exec
  have hb := Bd.bytes
  have hr := Bd.returns
  have hts := atoms_spec (ws := wsX9_isShift) Bd.pre
  have hown : s.vm.findClass RX9 = some m.cls := findClass_of_methodNamed Bd.named
  have hlocks := Bd.notSynchronized
  have FX : CallFix p m c cX9_isShift 2 s _ wsX9_isShift RX9 := ⟨hx, hb, hml, hown, hts⟩
  have hQ : va_P D vwCl [(M 0, mO M ca (nI n) ft kn dy fd ak pl iw nm fi nf nk sd ik kc kf kk kd ko hh)] s.heap := hQ
  have hl := lv_entry ([.ref (M 0), .int i]) (n := 2) (Nat.le_of_ble_eq_true rfl)
  rw [lg_entry_eq]
  generalize (lg_sl ([.ref (M 0), .int i]) ++ List.replicate (2 - (lg_sl ([.ref (M 0), .int i])).length) Slot.unset).toArray = ls at hl ⊢
  have hl : lv_has ls 2 [(0, .ref (M 0)), (1, .int i)] := hl
  refine lv_aload_n hx hb dX9_isShift_0 rfl (lv_at hl 0 rfl) ?_
  refine va_get (D := D) (cl := vwCl) (tys := zT cI cB cF) (ci := 9) (v := .int (nI n)) (C := RX9) (T := TX9) (N := 41) hx hb hts iw_X9_isShift_X9 hown hK.1 hQ 0 rfl rfl 1 (by decide) (hts _ hw_X9_isShift_1) (fun _ h9 => h9) rfl dX9_isShift_1 ?_
  refine lv_if_le (tgt := 21) hx hb dX9_isShift_4 (by decide) (fun c_4 => ?_) (fun c_4 => ?_)
  · refine lv_iconst (v := 0) hx hb dX9_isShift_21 (by decide) ?_
    refine vz_si (zb (decide (0 < n) && zIn i 0 7)) (by first | (rw [show decide (0 < n) = true from decide_eq_true (by rcases Nat.eq_zero_or_pos n with h | h; exact absurd (by rw [h]; decide) c_4; exact h)]; rw [b_14]; rfl) | (rw [show decide (0 < n) = false from decide_eq_false (fun h => absurd c_4 (nI_nle h (by omega)))]; rfl)) ?_
    exact W.zret hx hb hr (zb_nar _) (fun t ht hW => ⟨rfl, ht⟩) (fun q h => by cases h) dX9_isShift_22
  · refine lv_iload_n hx hb dX9_isShift_7 rfl (lv_at hl 1 rfl) ?_
    refine lv_iconst (v := 0) hx hb dX9_isShift_8 (by decide) ?_
    refine lv_bipush (v := 7) hx hb dX9_isShift_9 (by decide) ?_
    refine vz_rd (va_runS (As := [.int i, .int 0, .int 7]) (rest := []) FX (c_X9_within l D cI cB cF i 0 7 ) (va_cwS 3 hts gX9_isShift_X9_within rfl rfl rfl hd_X9_within ⟨Nat.le_of_ble_eq_true rfl, Nat.le_of_ble_eq_true rfl⟩) (preP_S (hQ.sub (ws' := []) [] rfl) hK) rfl rfl hl.1 rfl (lv_room (Nat.le_of_ble_eq_true rfl)) dX9_isShift_11 ⟨Nat.le_of_ble_eq_true rfl, Nat.le_of_ble_eq_true rfl⟩) ?_
    refine lv_if_eq (tgt := 21) hx hb dX9_isShift_14 (by decide) (fun c_14 => ?_) (fun c_14 => ?_)
    · have b_14 : (zIn i 0 7) = false := zb_f c_14
      refine lv_iconst (v := 0) hx hb dX9_isShift_21 (by decide) ?_
      refine vz_si (zb (decide (0 < n) && zIn i 0 7)) (by first | (rw [show decide (0 < n) = true from decide_eq_true (by rcases Nat.eq_zero_or_pos n with h | h; exact absurd (by rw [h]; decide) c_4; exact h)]; rw [b_14]; rfl) | (rw [show decide (0 < n) = false from decide_eq_false (fun h => absurd c_4 (nI_nle h (by omega)))]; rfl)) ?_
      exact W.zret hx hb hr (zb_nar _) (fun t ht hW => ⟨rfl, ht⟩) (fun q h => by cases h) dX9_isShift_22
    · have b_14 : (zIn i 0 7) = true := zb_t c_14
      refine lv_iconst (v := 1) hx hb dX9_isShift_17 (by decide) ?_
      refine lv_goto (tgt := 22) hx hb dX9_isShift_18 (by decide) ?_
      refine vz_si (zb (decide (0 < n) && zIn i 0 7)) (by first | (rw [show decide (0 < n) = true from decide_eq_true (by rcases Nat.eq_zero_or_pos n with h | h; exact absurd (by rw [h]; decide) c_4; exact h)]; rw [b_14]; rfl) | (rw [show decide (0 < n) = false from decide_eq_false (fun h => absurd c_4 (nI_nle h (by omega)))]; rfl)) ?_
      exact W.zret hx hb hr (zb_nar _) (fun t ht hW => ⟨rfl, ht⟩) (fun q h => by cases h) dX9_isShift_22
set_option maxRecDepth 100000 in
theorem iw_X9_isEnough_X9 : ∀ w ∈ u_ws RX9 TX9 41, w ∈ wsX9_isEnough := fun w h => List.mem_cons_of_mem _ (List.mem_append_right _ h)
set_option maxRecDepth 100000 in
theorem hw_X9_isEnough_1 : (.fieldLink RX9 7 "RotaFathersModel" "kindOf" "[I" : Cond) ∈ wsX9_isEnough := List.mem_of_getElem? (i := 1) rfl
set_option maxRecDepth 100000 in
theorem hw_X9_isEnough_2 : (.fieldLink RX9 16 "RotaFathersModel" "strengthOf" "[I" : Cond) ∈ wsX9_isEnough := List.mem_of_getElem? (i := 2) rfl
set_option maxRecDepth 100000 in
theorem hd_X9_isEnough : yX9_isEnough.cls ≠ "java/lang/invoke/MethodHandle" ∧ yX9_isEnough.cls ≠ "java/lang/invoke/VarHandle" ∧ (parseMethodDescriptor yX9_isEnough.desc).map (fun d => d.parameters.length) = some 3 := by decide +kernel
set_option maxHeartbeats 4000000 in
set_option maxRecDepth 100000 in
theorem c_X9_isEnough (l : Launch) (D : va_G) (cI cB cF : ClassId) (M : Nat → Nat) (ca : Int32) (nn : Int32) (ft : Int32) (kn : Int32) (dy : Int32) (fd : Int32) (ak : Int32) (pl : Int32) (iw : Int32) (nm : Int32) (fi : Int32) (nf : Int32) (nk : Int32) (sd : Int64) (ik : Int32) (kc : Int32) (kf : Int32) (kk : Int32) (kd : Int32) (ko : Int32) (hh : Int64) (F : zF) (f : Nat) (s1 : Nat) (hv : Int32) (hf : f < 4) (hs : s1 < 8) (hk : F.1 f < 5) : Met l yX9_isEnough wsX9_isEnough ({ frames := 0, cells := 0, slots := 0, locals := 0 } : Room) (PcP D cI cB cF [.ref (M 0), .int (nI f), .int (nI s1), .int hv] [(M 0, mO M ca nn ft kn dy fd ak pl iw nm fi nf nk sd ik kc kf kk kd ko hh), (M 2, .inl (cI, 4, .inl (fun f => nI (F.1 f)))), (M 3, .inl (cI, 4, .inl F.2.1)), (M 4, .inl (cI, 4, .inl F.2.2))]) (QcV (.int (zb (decide (hv ≤ zBr (F.1 f) (F.2.2 f) (nI s1)))))) 0 0 (fun _ => False) := by
  refine Met.ofW (cc := cX9_isEnough) (maxL := 5) (ret := (some .boolean)) (by decide) rfl ?_
  intro p e s m args below meth c s₁ Bd hml hv
  rw [show (headSpec wsX9_isEnough ({ frames := 0, cells := 0, slots := 0, locals := 0 } : Room)).room = ({ frames := 0, cells := 0, slots := 0, locals := 0 } : Room) from rfl]
  obtain ⟨rfl, hQ, hK⟩ := hv
  have hx := Bd.exec
  have hb := Bd.bytes
  have hr := Bd.returns
  have hts := atoms_spec (ws := wsX9_isEnough) Bd.pre
  have hown : s.vm.findClass RX9 = some m.cls := findClass_of_methodNamed Bd.named
  have hlocks := Bd.notSynchronized
  have FX : CallFix p m c cX9_isEnough 5 s _ wsX9_isEnough RX9 := ⟨hx, hb, hml, hown, hts⟩
  have hQ : va_P D vwCl [(M 0, mO M ca nn ft kn dy fd ak pl iw nm fi nf nk sd ik kc kf kk kd ko hh), (M 2, .inl (cI, 4, .inl (fun f => nI (F.1 f)))), (M 3, .inl (cI, 4, .inl F.2.1)), (M 4, .inl (cI, 4, .inl F.2.2))] s.heap := hQ
  have hl := lv_entry ([.ref (M 0), .int (nI f), .int (nI s1), .int hv]) (n := 5) (Nat.le_of_ble_eq_true rfl)
  rw [lg_entry_eq]
  generalize (lg_sl ([.ref (M 0), .int (nI f), .int (nI s1), .int hv]) ++ List.replicate (5 - (lg_sl ([.ref (M 0), .int (nI f), .int (nI s1), .int hv])).length) Slot.unset).toArray = ls at hl ⊢
  have hl : lv_has ls 5 [(0, .ref (M 0)), (1, .int (nI f)), (2, .int (nI s1)), (3, .int hv)] := hl
  refine lv_aload_n hx hb dX9_isEnough_0 rfl (lv_at hl 0 rfl) ?_
  refine va_get (D := D) (cl := vwCl) (tys := zT cI cB cF) (ci := 9) (v := .ref (M 2)) (C := RX9) (T := TX9) (N := 41) hx hb hts iw_X9_isEnough_X9 hown hK.1 hQ 0 rfl rfl 2 (by decide) (hts _ hw_X9_isEnough_1) (fun _ h9 => h9) rfl dX9_isEnough_1 ?_
  refine lv_iload_n hx hb dX9_isEnough_4 rfl (lv_at hl 1 rfl) ?_
  refine va_iald (D := D) (cl := vwCl) (tys := zT cI cB cF) (f := (fun f => nI (F.1 f))) hx hb hK.1 hQ 1 0 rfl rfl (vp_in_nI (by omega) (by omega)) dX9_isEnough_5 ?_
  refine vz_si (nI (F.1 f)) (by rw [nI_clamp (n := f) (by omega)]) ?_
  refine lv_iconst (v := 4) hx hb dX9_isEnough_6 (by decide) ?_
  refine lv_icmp_eq (tgt := 25) hx hb dX9_isEnough_7 (by decide) (fun c_7 => ?_) (fun c_7 => ?_)
  · have hk4 : F.1 f = 4 := (nI_eq (by omega) (by decide)).mp c_7
    refine lv_iconst (v := 1) hx hb dX9_isEnough_25 (by decide) ?_
    refine lv_goto (tgt := 30) hx hb dX9_isEnough_26 (by decide) ?_
    refine lv_istore (lv' := [(4, .int 1), (0, .ref (M 0)), (1, .int (nI f)), (2, .int (nI s1)), (3, .int hv)]) hx hb dX9_isEnough_30 hl (by decide) rfl (fun ls hl => ?_)
    refine lv_iload_n hx hb dX9_isEnough_32 rfl (lv_at hl 4 rfl) ?_
    refine lv_aload_n hx hb dX9_isEnough_33 rfl (lv_at hl 1 rfl) ?_
    refine va_get (D := D) (cl := vwCl) (tys := zT cI cB cF) (ci := 9) (v := .ref (M 4)) (C := RX9) (T := TX9) (N := 41) hx hb hts iw_X9_isEnough_X9 hown hK.1 hQ 0 rfl rfl 4 (by decide) (hts _ hw_X9_isEnough_2) (fun _ h9 => h9) rfl dX9_isEnough_34 ?_
    refine lv_iload_n hx hb dX9_isEnough_37 rfl (lv_at hl 2 rfl) ?_
    refine va_iald (D := D) (cl := vwCl) (tys := zT cI cB cF) (f := F.2.2) hx hb hK.1 hQ 3 0 rfl rfl (vp_in_nI (by omega) (by omega)) dX9_isEnough_38 ?_
    refine vz_si (F.2.2 f) (by rw [nI_clamp (n := f) (by omega)]) ?_
    refine lv_iload hx hb dX9_isEnough_39 (lv_at hl 0 rfl) ?_
    refine lv_if_eq (tgt := 48) hx hb dX9_isEnough_41 (by decide) (fun c_41 => False.elim (by exact absurd c_41 (by decide))) (fun c_41 => ?_)
    refine lv_iconst (v := 2) hx hb dX9_isEnough_44 (by decide) ?_
    refine lv_goto (tgt := 49) hx hb dX9_isEnough_45 (by decide) ?_
    refine lv_iadd hx hb dX9_isEnough_49 ?_
    refine vz_si (zBr (F.1 f) (F.2.2 f) (nI s1)) (by unfold zBr; first | rw [if_pos hk4] | rw [if_neg hk4, if_neg hk1, Int32.add_zero] | rw [if_neg hk4, if_pos hk1, if_pos h3, Int32.add_zero] | rw [if_neg hk4, if_pos hk1, if_neg h3]) ?_
    refine lv_icmp_gt (tgt := 57) hx hb dX9_isEnough_50 (by decide) (fun c_50 => ?_) (fun c_50 => ?_)
    · refine lv_iconst (v := 0) hx hb dX9_isEnough_57 (by decide) ?_
      refine vz_si (zb (decide (hv ≤ zBr (F.1 f) (F.2.2 f) (nI s1)))) (by first | (rw [decide_eq_false (Int32.not_le.mpr c_50)]; rfl) | (rw [decide_eq_true (Int32.not_lt.mp c_50)]; rfl)) ?_
      exact W.zret hx hb hr (zb_nar _) (fun t ht hW => ⟨rfl, ht⟩) (fun q h => by cases h) dX9_isEnough_58
    · refine lv_iconst (v := 1) hx hb dX9_isEnough_53 (by decide) ?_
      refine lv_goto (tgt := 58) hx hb dX9_isEnough_54 (by decide) ?_
      refine vz_si (zb (decide (hv ≤ zBr (F.1 f) (F.2.2 f) (nI s1)))) (by first | (rw [decide_eq_false (Int32.not_le.mpr c_50)]; rfl) | (rw [decide_eq_true (Int32.not_lt.mp c_50)]; rfl)) ?_
      exact W.zret hx hb hr (zb_nar _) (fun t ht hW => ⟨rfl, ht⟩) (fun q h => by cases h) dX9_isEnough_58
  · have hk4 : ¬ F.1 f = 4 := fun q => c_7 (by rw [q]; rfl)
    refine lv_aload_n hx hb dX9_isEnough_10 rfl (lv_at hl 0 rfl) ?_
    refine va_get (D := D) (cl := vwCl) (tys := zT cI cB cF) (ci := 9) (v := .ref (M 2)) (C := RX9) (T := TX9) (N := 41) hx hb hts iw_X9_isEnough_X9 hown hK.1 hQ 0 rfl rfl 2 (by decide) (hts _ hw_X9_isEnough_1) (fun _ h9 => h9) rfl dX9_isEnough_11 ?_
    refine lv_iload_n hx hb dX9_isEnough_14 rfl (lv_at hl 1 rfl) ?_
    refine va_iald (D := D) (cl := vwCl) (tys := zT cI cB cF) (f := (fun f => nI (F.1 f))) hx hb hK.1 hQ 1 0 rfl rfl (vp_in_nI (by omega) (by omega)) dX9_isEnough_15 ?_
    refine vz_si (nI (F.1 f)) (by rw [nI_clamp (n := f) (by omega)]) ?_
    refine lv_iconst (v := 1) hx hb dX9_isEnough_16 (by decide) ?_
    refine lv_icmp_ne (tgt := 29) hx hb dX9_isEnough_17 (by decide) (fun c_17 => ?_) (fun c_17 => ?_)
    · have hk1 : ¬ F.1 f = 1 := fun q => c_17 (by rw [q]; rfl)
      refine lv_iconst (v := 0) hx hb dX9_isEnough_29 (by decide) ?_
      refine lv_istore (lv' := [(4, .int 0), (0, .ref (M 0)), (1, .int (nI f)), (2, .int (nI s1)), (3, .int hv)]) hx hb dX9_isEnough_30 hl (by decide) rfl (fun ls hl => ?_)
      refine lv_iload_n hx hb dX9_isEnough_32 rfl (lv_at hl 4 rfl) ?_
      refine lv_aload_n hx hb dX9_isEnough_33 rfl (lv_at hl 1 rfl) ?_
      refine va_get (D := D) (cl := vwCl) (tys := zT cI cB cF) (ci := 9) (v := .ref (M 4)) (C := RX9) (T := TX9) (N := 41) hx hb hts iw_X9_isEnough_X9 hown hK.1 hQ 0 rfl rfl 4 (by decide) (hts _ hw_X9_isEnough_2) (fun _ h9 => h9) rfl dX9_isEnough_34 ?_
      refine lv_iload_n hx hb dX9_isEnough_37 rfl (lv_at hl 2 rfl) ?_
      refine va_iald (D := D) (cl := vwCl) (tys := zT cI cB cF) (f := F.2.2) hx hb hK.1 hQ 3 0 rfl rfl (vp_in_nI (by omega) (by omega)) dX9_isEnough_38 ?_
      refine vz_si (F.2.2 f) (by rw [nI_clamp (n := f) (by omega)]) ?_
      refine lv_iload hx hb dX9_isEnough_39 (lv_at hl 0 rfl) ?_
      refine lv_if_eq (tgt := 48) hx hb dX9_isEnough_41 (by decide) (fun c_41 => ?_) (fun c_41 => False.elim (by exact absurd c_41 (by decide)))
      refine lv_iconst (v := 0) hx hb dX9_isEnough_48 (by decide) ?_
      refine lv_iadd hx hb dX9_isEnough_49 ?_
      refine vz_si (zBr (F.1 f) (F.2.2 f) (nI s1)) (by unfold zBr; first | rw [if_pos hk4] | rw [if_neg hk4, if_neg hk1, Int32.add_zero] | rw [if_neg hk4, if_pos hk1, if_pos h3, Int32.add_zero] | rw [if_neg hk4, if_pos hk1, if_neg h3]) ?_
      refine lv_icmp_gt (tgt := 57) hx hb dX9_isEnough_50 (by decide) (fun c_50 => ?_) (fun c_50 => ?_)
      · refine lv_iconst (v := 0) hx hb dX9_isEnough_57 (by decide) ?_
        refine vz_si (zb (decide (hv ≤ zBr (F.1 f) (F.2.2 f) (nI s1)))) (by first | (rw [decide_eq_false (Int32.not_le.mpr c_50)]; rfl) | (rw [decide_eq_true (Int32.not_lt.mp c_50)]; rfl)) ?_
        exact W.zret hx hb hr (zb_nar _) (fun t ht hW => ⟨rfl, ht⟩) (fun q h => by cases h) dX9_isEnough_58
      · refine lv_iconst (v := 1) hx hb dX9_isEnough_53 (by decide) ?_
        refine lv_goto (tgt := 58) hx hb dX9_isEnough_54 (by decide) ?_
        refine vz_si (zb (decide (hv ≤ zBr (F.1 f) (F.2.2 f) (nI s1)))) (by first | (rw [decide_eq_false (Int32.not_le.mpr c_50)]; rfl) | (rw [decide_eq_true (Int32.not_lt.mp c_50)]; rfl)) ?_
        exact W.zret hx hb hr (zb_nar _) (fun t ht hW => ⟨rfl, ht⟩) (fun q h => by cases h) dX9_isEnough_58
    · have hk1 : F.1 f = 1 := (nI_eq (by omega) (by decide)).mp c_17
      refine lv_iload_n hx hb dX9_isEnough_20 rfl (lv_at hl 2 rfl) ?_
      refine lv_iconst (v := 4) hx hb dX9_isEnough_21 (by decide) ?_
      refine lv_icmp_ge (tgt := 29) hx hb dX9_isEnough_22 (by decide) (fun c_22 => ?_) (fun c_22 => ?_)
      · have h3 : 3 < nI s1 := (nI_zlt (a := 3) (by decide) (by omega)).mpr ((nI_zle (a := 4) (by decide) (by omega)).mp c_22)
        refine lv_iconst (v := 0) hx hb dX9_isEnough_29 (by decide) ?_
        refine lv_istore (lv' := [(4, .int 0), (0, .ref (M 0)), (1, .int (nI f)), (2, .int (nI s1)), (3, .int hv)]) hx hb dX9_isEnough_30 hl (by decide) rfl (fun ls hl => ?_)
        refine lv_iload_n hx hb dX9_isEnough_32 rfl (lv_at hl 4 rfl) ?_
        refine lv_aload_n hx hb dX9_isEnough_33 rfl (lv_at hl 1 rfl) ?_
        refine va_get (D := D) (cl := vwCl) (tys := zT cI cB cF) (ci := 9) (v := .ref (M 4)) (C := RX9) (T := TX9) (N := 41) hx hb hts iw_X9_isEnough_X9 hown hK.1 hQ 0 rfl rfl 4 (by decide) (hts _ hw_X9_isEnough_2) (fun _ h9 => h9) rfl dX9_isEnough_34 ?_
        refine lv_iload_n hx hb dX9_isEnough_37 rfl (lv_at hl 2 rfl) ?_
        refine va_iald (D := D) (cl := vwCl) (tys := zT cI cB cF) (f := F.2.2) hx hb hK.1 hQ 3 0 rfl rfl (vp_in_nI (by omega) (by omega)) dX9_isEnough_38 ?_
        refine vz_si (F.2.2 f) (by rw [nI_clamp (n := f) (by omega)]) ?_
        refine lv_iload hx hb dX9_isEnough_39 (lv_at hl 0 rfl) ?_
        refine lv_if_eq (tgt := 48) hx hb dX9_isEnough_41 (by decide) (fun c_41 => ?_) (fun c_41 => False.elim (by exact absurd c_41 (by decide)))
        refine lv_iconst (v := 0) hx hb dX9_isEnough_48 (by decide) ?_
        refine lv_iadd hx hb dX9_isEnough_49 ?_
        refine vz_si (zBr (F.1 f) (F.2.2 f) (nI s1)) (by unfold zBr; first | rw [if_pos hk4] | rw [if_neg hk4, if_neg hk1, Int32.add_zero] | rw [if_neg hk4, if_pos hk1, if_pos h3, Int32.add_zero] | rw [if_neg hk4, if_pos hk1, if_neg h3]) ?_
        refine lv_icmp_gt (tgt := 57) hx hb dX9_isEnough_50 (by decide) (fun c_50 => ?_) (fun c_50 => ?_)
        · refine lv_iconst (v := 0) hx hb dX9_isEnough_57 (by decide) ?_
          refine vz_si (zb (decide (hv ≤ zBr (F.1 f) (F.2.2 f) (nI s1)))) (by first | (rw [decide_eq_false (Int32.not_le.mpr c_50)]; rfl) | (rw [decide_eq_true (Int32.not_lt.mp c_50)]; rfl)) ?_
          exact W.zret hx hb hr (zb_nar _) (fun t ht hW => ⟨rfl, ht⟩) (fun q h => by cases h) dX9_isEnough_58
        · refine lv_iconst (v := 1) hx hb dX9_isEnough_53 (by decide) ?_
          refine lv_goto (tgt := 58) hx hb dX9_isEnough_54 (by decide) ?_
          refine vz_si (zb (decide (hv ≤ zBr (F.1 f) (F.2.2 f) (nI s1)))) (by first | (rw [decide_eq_false (Int32.not_le.mpr c_50)]; rfl) | (rw [decide_eq_true (Int32.not_lt.mp c_50)]; rfl)) ?_
          exact W.zret hx hb hr (zb_nar _) (fun t ht hW => ⟨rfl, ht⟩) (fun q h => by cases h) dX9_isEnough_58
      · have h3 : ¬ 3 < nI s1 := fun q => c_22 ((nI_zle (a := 4) (by decide) (by omega)).mpr ((nI_zlt (a := 3) (by decide) (by omega)).mp q))
        refine lv_iconst (v := 1) hx hb dX9_isEnough_25 (by decide) ?_
        refine lv_goto (tgt := 30) hx hb dX9_isEnough_26 (by decide) ?_
        refine lv_istore (lv' := [(4, .int 1), (0, .ref (M 0)), (1, .int (nI f)), (2, .int (nI s1)), (3, .int hv)]) hx hb dX9_isEnough_30 hl (by decide) rfl (fun ls hl => ?_)
        refine lv_iload_n hx hb dX9_isEnough_32 rfl (lv_at hl 4 rfl) ?_
        refine lv_aload_n hx hb dX9_isEnough_33 rfl (lv_at hl 1 rfl) ?_
        refine va_get (D := D) (cl := vwCl) (tys := zT cI cB cF) (ci := 9) (v := .ref (M 4)) (C := RX9) (T := TX9) (N := 41) hx hb hts iw_X9_isEnough_X9 hown hK.1 hQ 0 rfl rfl 4 (by decide) (hts _ hw_X9_isEnough_2) (fun _ h9 => h9) rfl dX9_isEnough_34 ?_
        refine lv_iload_n hx hb dX9_isEnough_37 rfl (lv_at hl 2 rfl) ?_
        refine va_iald (D := D) (cl := vwCl) (tys := zT cI cB cF) (f := F.2.2) hx hb hK.1 hQ 3 0 rfl rfl (vp_in_nI (by omega) (by omega)) dX9_isEnough_38 ?_
        refine vz_si (F.2.2 f) (by rw [nI_clamp (n := f) (by omega)]) ?_
        refine lv_iload hx hb dX9_isEnough_39 (lv_at hl 0 rfl) ?_
        refine lv_if_eq (tgt := 48) hx hb dX9_isEnough_41 (by decide) (fun c_41 => False.elim (by exact absurd c_41 (by decide))) (fun c_41 => ?_)
        refine lv_iconst (v := 2) hx hb dX9_isEnough_44 (by decide) ?_
        refine lv_goto (tgt := 49) hx hb dX9_isEnough_45 (by decide) ?_
        refine lv_iadd hx hb dX9_isEnough_49 ?_
        refine vz_si (zBr (F.1 f) (F.2.2 f) (nI s1)) (by unfold zBr; first | rw [if_pos hk4] | rw [if_neg hk4, if_neg hk1, Int32.add_zero] | rw [if_neg hk4, if_pos hk1, if_pos h3, Int32.add_zero] | rw [if_neg hk4, if_pos hk1, if_neg h3]) ?_
        refine lv_icmp_gt (tgt := 57) hx hb dX9_isEnough_50 (by decide) (fun c_50 => ?_) (fun c_50 => ?_)
        · refine lv_iconst (v := 0) hx hb dX9_isEnough_57 (by decide) ?_
          refine vz_si (zb (decide (hv ≤ zBr (F.1 f) (F.2.2 f) (nI s1)))) (by first | (rw [decide_eq_false (Int32.not_le.mpr c_50)]; rfl) | (rw [decide_eq_true (Int32.not_lt.mp c_50)]; rfl)) ?_
          exact W.zret hx hb hr (zb_nar _) (fun t ht hW => ⟨rfl, ht⟩) (fun q h => by cases h) dX9_isEnough_58
        · refine lv_iconst (v := 1) hx hb dX9_isEnough_53 (by decide) ?_
          refine lv_goto (tgt := 58) hx hb dX9_isEnough_54 (by decide) ?_
          refine vz_si (zb (decide (hv ≤ zBr (F.1 f) (F.2.2 f) (nI s1)))) (by first | (rw [decide_eq_false (Int32.not_le.mpr c_50)]; rfl) | (rw [decide_eq_true (Int32.not_lt.mp c_50)]; rfl)) ?_
          exact W.zret hx hb hr (zb_nar _) (fun t ht hW => ⟨rfl, ht⟩) (fun q h => by cases h) dX9_isEnough_58
set_option maxRecDepth 100000 in
theorem iw_X9_passShift_X9 : ∀ w ∈ u_ws RX9 TX9 41, w ∈ wsX9_passShift := fun w h => List.mem_cons_of_mem _ (List.mem_append_right _ h)
set_option maxRecDepth 100000 in
theorem hw_X9_passShift_1 : (.fieldLink RX9 25 "RotaFathersModel" "rotaOf" "[I" : Cond) ∈ wsX9_passShift := List.mem_of_getElem? (i := 1) rfl
set_option maxRecDepth 100000 in
theorem hw_X9_passShift_2 : (.fieldLink RX9 38 "RotaFathersModel" "fitAhead" "[I" : Cond) ∈ wsX9_passShift := List.mem_of_getElem? (i := 2) rfl
set_option maxRecDepth 100000 in
theorem hw_X9_passShift_3 : (.fieldLink RX9 118 "RotaFathersModel" "nowFit" "I" : Cond) ∈ wsX9_passShift := List.mem_of_getElem? (i := 3) rfl
set_option maxRecDepth 100000 in
theorem hw_X9_passShift_4 : (.fieldLink RX9 41 "RotaFathersModel" "heavyIn" "[I" : Cond) ∈ wsX9_passShift := List.mem_of_getElem? (i := 4) rfl
set_option maxRecDepth 100000 in
theorem hw_X9_passShift_5 : (.fieldLink RX9 124 "RotaFathersModel" "nowKnows" "I" : Cond) ∈ wsX9_passShift := List.mem_of_getElem? (i := 5) rfl
set_option maxRecDepth 100000 in
theorem hw_X9_passShift_6 : (.fieldLink RX9 13 "RotaFathersModel" "flawOf" "[I" : Cond) ∈ wsX9_passShift := List.mem_of_getElem? (i := 6) rfl
set_option maxRecDepth 100000 in
theorem hw_X9_passShift_7 : (.fieldLink RX9 7 "RotaFathersModel" "kindOf" "[I" : Cond) ∈ wsX9_passShift := List.mem_of_getElem? (i := 7) rfl
set_option maxRecDepth 100000 in
theorem hw_X9_passShift_9 : (.fieldLink RX9 47 "RotaFathersModel" "fallOf" "[I" : Cond) ∈ wsX9_passShift := List.mem_of_getElem? (i := 9) rfl
set_option maxRecDepth 100000 in
theorem hw_X9_passShift_10 : (.fieldLink RX9 134 "RotaFathersModel" "fallsIn" "I" : Cond) ∈ wsX9_passShift := List.mem_of_getElem? (i := 10) rfl
set_option maxRecDepth 100000 in
theorem hw_X9_passShift_8 : (.fieldLink RX9 44 "RotaFathersModel" "gainOf" "[I" : Cond) ∈ wsX9_passShift := List.mem_of_getElem? (i := 8) rfl
set_option maxRecDepth 100000 in
theorem hd_X9_passShift : yX9_passShift.cls ≠ "java/lang/invoke/MethodHandle" ∧ yX9_passShift.cls ≠ "java/lang/invoke/VarHandle" ∧ (parseMethodDescriptor yX9_passShift.desc).map (fun d => d.parameters.length) = some 1 := by decide +kernel
set_option maxHeartbeats 4000000 in
set_option maxRecDepth 100000 in
theorem c_X9_passShift (l : Launch) (D : va_G) (cI cB cF : ClassId) (sz : Nat) (M : Nat → Nat) (ca : Int32) (nn : Int32) (ft : Int32) (kn : Int32) (dy : Int32) (fd : Int32) (ak : Int32) (pl : Int32) (iw : Int32) (nm : Int32) (fi : Int32) (nf : Int32) (nk : Int32) (sd : Int64) (ik : Int32) (kc : Int32) (kf : Int32) (kk : Int32) (kd : Int32) (ko : Int32) (hh : Int64) (g1 : Nat → Int32) (g2 : Nat → Int32) (ga : Nat → Int32) (fb : Nat → Int32) (F : zF) (r : Nat → Int32) (n : Nat) (s1 : Nat) (hn : n ≤ 4) (hF : zFo n F) (hro : zRo n r) (hs : s1 < 8) (hkn : zKb nk) : Met l yX9_passShift wsX9_passShift ({ frames := 1, cells := 0, slots := 0, locals := 24 } : Room) (PcW D cI cB cF [.ref (M 0), .int (nI s1)] sz [(M 0, mO M ca nn ft kn dy fd ak pl iw nm fi nf nk sd ik kc kf kk kd ko hh), (M 19, .inl (cI, 9, .inl g1)), (M 20, .inl (cI, 8, .inl g2)), (M 21, .inl (cI, 4, .inl ga)), (M 22, .inl (cI, 4, .inl fb))] [(M 2, .inl (cI, 4, .inl (fun f => nI (F.1 f)))), (M 3, .inl (cI, 4, .inl F.2.1)), (M 4, .inl (cI, 4, .inl F.2.2)), (M 7, .inl (cI, 8, .inl r))]) (Qw D (S := Unit) (fun xx => none) (fun xx => True) (fun xx => [(M 0, mO M ca nn ft kn dy fd ak pl iw nm (zFi fi (zEw F (r s1) (nI s1) (nf, nk)) s1) (zCl (nf + zMw F (r s1) (nI s1) (nf, nk))) (zKw F (r s1) (nf, nk)) sd ik kc kf kk kd ko hh), (M 19, .inl (cI, 9, .inl (upd g1 s1 nf))), (M 20, .inl (cI, 8, .inl (upd g2 s1 (zHw F (r s1) (nf, nk))))), (M 21, .inl (cI, 4, .inl (fun j => if r s1 = nI j then ga j + zGw F (r s1) (nI s1) (nf, nk) else ga j))), (M 22, .inl (cI, 4, .inl (fun j => if r s1 = nI j then fb j + zEw F (r s1) (nI s1) (nf, nk) else fb j)))]) (va_A [(M 0, mO M ca nn ft kn dy fd ak pl iw nm fi nf nk sd ik kc kf kk kd ko hh), (M 19, .inl (cI, 9, .inl g1)), (M 20, .inl (cI, 8, .inl g2)), (M 21, .inl (cI, 4, .inl ga)), (M 22, .inl (cI, 4, .inl fb))] sz)) 0 0 (va_A [(M 0, mO M ca nn ft kn dy fd ak pl iw nm fi nf nk sd ik kc kf kk kd ko hh), (M 19, .inl (cI, 9, .inl g1)), (M 20, .inl (cI, 8, .inl g2)), (M 21, .inl (cI, 4, .inl ga)), (M 22, .inl (cI, 4, .inl fb))] sz) := by
  refine Met.ofW (cc := cX9_passShift) (maxL := 3) (ret := none) (by decide) rfl ?_
  intro p e s m args below meth c s₁ Bd hml hv
  rw [show (headSpec wsX9_passShift ({ frames := 1, cells := 0, slots := 0, locals := 24 } : Room)).room = ({ frames := 1, cells := 0, slots := 0, locals := 24 } : Room) from rfl]
  obtain ⟨rfl, hsz, hP, hK, hD0, hR⟩ := hv
  have hx := Bd.exec
  have hb := Bd.bytes
  have hr := Bd.returns
  have hts := atoms_spec (ws := wsX9_passShift) Bd.pre
  have hown : s.vm.findClass RX9 = some m.cls := findClass_of_methodNamed Bd.named
  have hlocks := Bd.notSynchronized
  have FX : CallFix p m c cX9_passShift 3 s _ wsX9_passShift RX9 := ⟨hx, hb, hml, hown, hts⟩
  subst hsz
  have hD := hD0.self (sz := s.heap.size)
  generalize hAe : va_A [(M 0, mO M ca nn ft kn dy fd ak pl iw nm fi nf nk sd ik kc kf kk kd ko hh), (M 19, .inl (cI, 9, .inl g1)), (M 20, .inl (cI, 8, .inl g2)), (M 21, .inl (cI, 4, .inl ga)), (M 22, .inl (cI, 4, .inl fb))] s.heap.size = A at hD hR ⊢
  have hA : ∀ q : Nat, s.heap.size ≤ q → A q := fun q h => by rw [← hAe]; exact Or.inr h
  have hS : va_S A s.heap s.heap [] := va_S.rf
  have hP : va_P D vwCl [(M 0, mO M ca nn ft kn dy fd ak pl iw nm fi nf nk sd ik kc kf kk kd ko hh), (M 19, .inl (cI, 9, .inl g1)), (M 20, .inl (cI, 8, .inl g2)), (M 21, .inl (cI, 4, .inl ga)), (M 22, .inl (cI, 4, .inl fb))] s.heap := hP
  have hQ : va_P D vwCl ([(M 0, mO M ca nn ft kn dy fd ak pl iw nm fi nf nk sd ik kc kf kk kd ko hh), (M 19, .inl (cI, 9, .inl g1)), (M 20, .inl (cI, 8, .inl g2)), (M 21, .inl (cI, 4, .inl ga)), (M 22, .inl (cI, 4, .inl fb))] ++ [(M 2, .inl (cI, 4, .inl (fun f => nI (F.1 f)))), (M 3, .inl (cI, 4, .inl F.2.1)), (M 4, .inl (cI, 4, .inl F.2.2)), (M 7, .inl (cI, 8, .inl r))]) s.heap := va_P.app hP (hR.at hS).P
  have hl := lv_entry ([.ref (M 0), .int (nI s1)]) (n := 3) (Nat.le_of_ble_eq_true rfl)
  rw [lg_entry_eq]
  generalize (lg_sl ([.ref (M 0), .int (nI s1)]) ++ List.replicate (3 - (lg_sl ([.ref (M 0), .int (nI s1)])).length) Slot.unset).toArray = ls at hl ⊢
  have hl : lv_has ls 3 [(0, .ref (M 0)), (1, .int (nI s1))] := hl
  refine lv_aload_n hx hb dX9_passShift_0 rfl (lv_at hl 0 rfl) ?_
  refine va_get (D := D) (cl := vwCl) (tys := zT cI cB cF) (ci := 9) (v := .ref (M 7)) (C := RX9) (T := TX9) (N := 41) hx hb hts iw_X9_passShift_X9 hown hK.1 hQ 0 rfl rfl 7 (by decide) (hts _ hw_X9_passShift_1) (fun _ h9 => h9) rfl dX9_passShift_1 ?_
  refine lv_iload_n hx hb dX9_passShift_4 rfl (lv_at hl 1 rfl) ?_
  refine va_iald (D := D) (cl := vwCl) (tys := zT cI cB cF) (f := r) hx hb hK.1 hQ 8 0 rfl rfl (vp_in_nI (by omega) (by omega)) dX9_passShift_5 ?_
  refine vz_si (r s1) (by rw [nI_clamp (n := s1) (by omega)]) ?_
  refine lv_istore_n (lv' := [(2, .int (r s1)), (0, .ref (M 0)), (1, .int (nI s1))]) hx hb dX9_passShift_6 rfl hl (by decide) rfl (fun ls hl => ?_)
  rcases hro s1 hs with hm | ⟨f, hf, hm⟩
  · refine lv_aload_n hx hb dX9_passShift_7 rfl (lv_at hl 1 rfl) ?_
    refine va_get (D := D) (cl := vwCl) (tys := zT cI cB cF) (ci := 9) (v := .ref (M 19)) (C := RX9) (T := TX9) (N := 41) hx hb hts iw_X9_passShift_X9 hown hK.1 hQ 0 rfl rfl 19 (by decide) (hts _ hw_X9_passShift_2) (fun _ h9 => h9) rfl dX9_passShift_8 ?_
    refine lv_iload_n hx hb dX9_passShift_11 rfl (lv_at hl 2 rfl) ?_
    refine lv_aload_n hx hb dX9_passShift_12 rfl (lv_at hl 1 rfl) ?_
    refine va_get (D := D) (cl := vwCl) (tys := zT cI cB cF) (ci := 9) (v := .int nf) (C := RX9) (T := TX9) (N := 41) hx hb hts iw_X9_passShift_X9 hown hK.1 hQ 0 rfl rfl 24 (by decide) (hts _ hw_X9_passShift_3) (fun _ h9 => h9) rfl dX9_passShift_13 ?_
    refine va_iast (D := D) (cl := vwCl) (tys := zT cI cB cF) (f := g1) hx hb hK.1 hP hD hS 1 0 rfl rfl (vp_in_nI (by omega) (by omega)) dX9_passShift_16 (fun H locs hP hD hS => ?_)
    rw [nI_clamp (n := s1) (by omega)] at hP hD
    have hP : va_P D vwCl [(M 0, mO M ca nn ft kn dy fd ak pl iw nm fi nf nk sd ik kc kf kk kd ko hh), (M 19, .inl (cI, 9, .inl (upd g1 s1 nf))), (M 20, .inl (cI, 8, .inl g2)), (M 21, .inl (cI, 4, .inl ga)), (M 22, .inl (cI, 4, .inl fb))] H := hP
    have hD : va_D A [(M 0, mO M ca nn ft kn dy fd ak pl iw nm fi nf nk sd ik kc kf kk kd ko hh), (M 19, .inl (cI, 9, .inl (upd g1 s1 nf))), (M 20, .inl (cI, 8, .inl g2)), (M 21, .inl (cI, 4, .inl ga)), (M 22, .inl (cI, 4, .inl fb))] := hD
    have hQ : va_P D vwCl ([(M 0, mO M ca nn ft kn dy fd ak pl iw nm fi nf nk sd ik kc kf kk kd ko hh), (M 19, .inl (cI, 9, .inl (upd g1 s1 nf))), (M 20, .inl (cI, 8, .inl g2)), (M 21, .inl (cI, 4, .inl ga)), (M 22, .inl (cI, 4, .inl fb))] ++ [(M 2, .inl (cI, 4, .inl (fun f => nI (F.1 f)))), (M 3, .inl (cI, 4, .inl F.2.1)), (M 4, .inl (cI, 4, .inl F.2.2)), (M 7, .inl (cI, 8, .inl r))]) H := va_P.app hP (hR.at hS).P
    refine lv_aload_n hx hb dX9_passShift_17 rfl (lv_at hl 1 rfl) ?_
    refine va_get (D := D) (cl := vwCl) (tys := zT cI cB cF) (ci := 9) (v := .ref (M 20)) (C := RX9) (T := TX9) (N := 41) hx hb hts iw_X9_passShift_X9 hown hK.1 hQ 0 rfl rfl 20 (by decide) (hts _ hw_X9_passShift_4) (fun _ h9 => h9) rfl dX9_passShift_18 ?_
    refine lv_iload_n hx hb dX9_passShift_21 rfl (lv_at hl 2 rfl) ?_
    refine lv_iconst (v := 0) hx hb dX9_passShift_22 (by decide) ?_
    refine va_iast (D := D) (cl := vwCl) (tys := zT cI cB cF) (f := g2) hx hb hK.1 hP hD hS 2 0 rfl rfl (vp_in_nI (by omega) (by omega)) dX9_passShift_23 (fun H locs hP hD hS => ?_)
    rw [nI_clamp (n := s1) (by omega)] at hP hD
    have hP : va_P D vwCl [(M 0, mO M ca nn ft kn dy fd ak pl iw nm fi nf nk sd ik kc kf kk kd ko hh), (M 19, .inl (cI, 9, .inl (upd g1 s1 nf))), (M 20, .inl (cI, 8, .inl (upd g2 s1 0))), (M 21, .inl (cI, 4, .inl ga)), (M 22, .inl (cI, 4, .inl fb))] H := hP
    have hD : va_D A [(M 0, mO M ca nn ft kn dy fd ak pl iw nm fi nf nk sd ik kc kf kk kd ko hh), (M 19, .inl (cI, 9, .inl (upd g1 s1 nf))), (M 20, .inl (cI, 8, .inl (upd g2 s1 0))), (M 21, .inl (cI, 4, .inl ga)), (M 22, .inl (cI, 4, .inl fb))] := hD
    have hQ : va_P D vwCl ([(M 0, mO M ca nn ft kn dy fd ak pl iw nm fi nf nk sd ik kc kf kk kd ko hh), (M 19, .inl (cI, 9, .inl (upd g1 s1 nf))), (M 20, .inl (cI, 8, .inl (upd g2 s1 0))), (M 21, .inl (cI, 4, .inl ga)), (M 22, .inl (cI, 4, .inl fb))] ++ [(M 2, .inl (cI, 4, .inl (fun f => nI (F.1 f)))), (M 3, .inl (cI, 4, .inl F.2.1)), (M 4, .inl (cI, 4, .inl F.2.2)), (M 7, .inl (cI, 8, .inl r))]) H := va_P.app hP (hR.at hS).P
    refine lv_iload_n hx hb dX9_passShift_24 rfl (lv_at hl 0 rfl) ?_
    refine lv_iconst (v := (-1)) hx hb dX9_passShift_25 (by decide) ?_
    refine lv_icmp_ne (tgt := 43) hx hb dX9_passShift_26 (by decide) (fun c_26 => False.elim (by exact absurd hm c_26)) (fun c_26 => ?_)
    refine lv_aload_n hx hb dX9_passShift_29 rfl (lv_at hl 1 rfl) ?_
    refine lv_aload_n hx hb dX9_passShift_30 rfl (lv_at hl 1 rfl) ?_
    refine va_get (D := D) (cl := vwCl) (tys := zT cI cB cF) (ci := 9) (v := .int nf) (C := RX9) (T := TX9) (N := 41) hx hb hts iw_X9_passShift_X9 hown hK.1 hQ 0 rfl rfl 24 (by decide) (hts _ hw_X9_passShift_3) (fun _ h9 => h9) rfl dX9_passShift_31 ?_
    refine lv_iconst (v := 2) hx hb dX9_passShift_34 (by decide) ?_
    refine lv_iadd hx hb dX9_passShift_35 ?_
    refine vz_rd (va_runS (As := [.int (nf + 2)]) (rest := [.ref (M 0)]) FX (c_X9_atMost l D cI cB cF (nf + 2) ) (va_cwS 1 hts gX9_passShift_X9_atMost rfl rfl rfl hd_X9_atMost ⟨Nat.le_of_ble_eq_true rfl, Nat.le_of_ble_eq_true rfl⟩) (preP_S (hQ.sub (ws' := []) [] rfl) hK) rfl rfl hl.1 rfl (lv_room (Nat.le_of_ble_eq_true rfl)) dX9_passShift_36 ⟨Nat.le_of_ble_eq_true rfl, Nat.le_of_ble_eq_true rfl⟩) ?_
    refine vz_si (zCl (nf + zMw F (r s1) (nI s1) (nf, nk))) (by rw [zMw, if_pos hm]) ?_
    refine va_put (D := D) (cl := vwCl) (tys := zT cI cB cF) (ci := 9) (v := .int (zCl (nf + zMw F (r s1) (nI s1) (nf, nk)))) (ty := .int) (C := RX9) (T := TX9) (N := 41) hx hb hts iw_X9_passShift_X9 tyX9 tyX9_ok nmX9 hown hK.1 hP hD hS 0 rfl rfl 24 (by decide) (hts _ hw_X9_passShift_3) (fun _ h9 => h9) rfl (tyX9_ok 24 (by decide)) (rfl) (rfl) (Nat.le_of_ble_eq_true rfl) dX9_passShift_39 (fun H locs hP hD hS => ?_)
    have hP : va_P D vwCl [(M 0, mO M ca nn ft kn dy fd ak pl iw nm fi (zCl (nf + zMw F (r s1) (nI s1) (nf, nk))) nk sd ik kc kf kk kd ko hh), (M 19, .inl (cI, 9, .inl (upd g1 s1 nf))), (M 20, .inl (cI, 8, .inl (upd g2 s1 0))), (M 21, .inl (cI, 4, .inl ga)), (M 22, .inl (cI, 4, .inl fb))] H := hP
    have hD : va_D A [(M 0, mO M ca nn ft kn dy fd ak pl iw nm fi (zCl (nf + zMw F (r s1) (nI s1) (nf, nk))) nk sd ik kc kf kk kd ko hh), (M 19, .inl (cI, 9, .inl (upd g1 s1 nf))), (M 20, .inl (cI, 8, .inl (upd g2 s1 0))), (M 21, .inl (cI, 4, .inl ga)), (M 22, .inl (cI, 4, .inl fb))] := hD
    have hQ : va_P D vwCl ([(M 0, mO M ca nn ft kn dy fd ak pl iw nm fi (zCl (nf + zMw F (r s1) (nI s1) (nf, nk))) nk sd ik kc kf kk kd ko hh), (M 19, .inl (cI, 9, .inl (upd g1 s1 nf))), (M 20, .inl (cI, 8, .inl (upd g2 s1 0))), (M 21, .inl (cI, 4, .inl ga)), (M 22, .inl (cI, 4, .inl fb))] ++ [(M 2, .inl (cI, 4, .inl (fun f => nI (F.1 f)))), (M 3, .inl (cI, 4, .inl F.2.1)), (M 4, .inl (cI, 4, .inl F.2.2)), (M 7, .inl (cI, 8, .inl r))]) H := va_P.app hP (hR.at hS).P
    have hP : va_P D vwCl [(M 0, mO M ca nn ft kn dy fd ak pl iw nm fi (zCl (nf + zMw F (r s1) (nI s1) (nf, nk))) (zKw F (r s1) (nf, nk)) sd ik kc kf kk kd ko hh), (M 19, .inl (cI, 9, .inl (upd g1 s1 nf))), (M 20, .inl (cI, 8, .inl (upd g2 s1 0))), (M 21, .inl (cI, 4, .inl ga)), (M 22, .inl (cI, 4, .inl fb))] H := by rw [← (show nk = zKw F (r s1) (nf, nk) from by rw [zKw, if_pos hm])]; exact hP
    have hD : va_D A [(M 0, mO M ca nn ft kn dy fd ak pl iw nm fi (zCl (nf + zMw F (r s1) (nI s1) (nf, nk))) (zKw F (r s1) (nf, nk)) sd ik kc kf kk kd ko hh), (M 19, .inl (cI, 9, .inl (upd g1 s1 nf))), (M 20, .inl (cI, 8, .inl (upd g2 s1 0))), (M 21, .inl (cI, 4, .inl ga)), (M 22, .inl (cI, 4, .inl fb))] := by rw [← (show nk = zKw F (r s1) (nf, nk) from by rw [zKw, if_pos hm])]; exact hD
    have hQ : va_P D vwCl ([(M 0, mO M ca nn ft kn dy fd ak pl iw nm fi (zCl (nf + zMw F (r s1) (nI s1) (nf, nk))) (zKw F (r s1) (nf, nk)) sd ik kc kf kk kd ko hh), (M 19, .inl (cI, 9, .inl (upd g1 s1 nf))), (M 20, .inl (cI, 8, .inl (upd g2 s1 0))), (M 21, .inl (cI, 4, .inl ga)), (M 22, .inl (cI, 4, .inl fb))] ++ [(M 2, .inl (cI, 4, .inl (fun f => nI (F.1 f)))), (M 3, .inl (cI, 4, .inl F.2.1)), (M 4, .inl (cI, 4, .inl F.2.2)), (M 7, .inl (cI, 8, .inl r))]) H := va_P.app hP (hR.at hS).P
    have hP : va_P D vwCl [(M 0, mO M ca nn ft kn dy fd ak pl iw nm (zFi fi (zEw F (r s1) (nI s1) (nf, nk)) s1) (zCl (nf + zMw F (r s1) (nI s1) (nf, nk))) (zKw F (r s1) (nf, nk)) sd ik kc kf kk kd ko hh), (M 19, .inl (cI, 9, .inl (upd g1 s1 nf))), (M 20, .inl (cI, 8, .inl (upd g2 s1 0))), (M 21, .inl (cI, 4, .inl ga)), (M 22, .inl (cI, 4, .inl fb))] H := by rw [← (show fi = zFi fi (zEw F (r s1) (nI s1) (nf, nk)) s1 from by rw [zFi, if_pos (by rw [zEw, if_pos hm])])]; exact hP
    have hD : va_D A [(M 0, mO M ca nn ft kn dy fd ak pl iw nm (zFi fi (zEw F (r s1) (nI s1) (nf, nk)) s1) (zCl (nf + zMw F (r s1) (nI s1) (nf, nk))) (zKw F (r s1) (nf, nk)) sd ik kc kf kk kd ko hh), (M 19, .inl (cI, 9, .inl (upd g1 s1 nf))), (M 20, .inl (cI, 8, .inl (upd g2 s1 0))), (M 21, .inl (cI, 4, .inl ga)), (M 22, .inl (cI, 4, .inl fb))] := by rw [← (show fi = zFi fi (zEw F (r s1) (nI s1) (nf, nk)) s1 from by rw [zFi, if_pos (by rw [zEw, if_pos hm])])]; exact hD
    have hQ : va_P D vwCl ([(M 0, mO M ca nn ft kn dy fd ak pl iw nm (zFi fi (zEw F (r s1) (nI s1) (nf, nk)) s1) (zCl (nf + zMw F (r s1) (nI s1) (nf, nk))) (zKw F (r s1) (nf, nk)) sd ik kc kf kk kd ko hh), (M 19, .inl (cI, 9, .inl (upd g1 s1 nf))), (M 20, .inl (cI, 8, .inl (upd g2 s1 0))), (M 21, .inl (cI, 4, .inl ga)), (M 22, .inl (cI, 4, .inl fb))] ++ [(M 2, .inl (cI, 4, .inl (fun f => nI (F.1 f)))), (M 3, .inl (cI, 4, .inl F.2.1)), (M 4, .inl (cI, 4, .inl F.2.2)), (M 7, .inl (cI, 8, .inl r))]) H := va_P.app hP (hR.at hS).P
    have hP : va_P D vwCl [(M 0, mO M ca nn ft kn dy fd ak pl iw nm (zFi fi (zEw F (r s1) (nI s1) (nf, nk)) s1) (zCl (nf + zMw F (r s1) (nI s1) (nf, nk))) (zKw F (r s1) (nf, nk)) sd ik kc kf kk kd ko hh), (M 19, .inl (cI, 9, .inl (upd g1 s1 nf))), (M 20, .inl (cI, 8, .inl (upd g2 s1 (zHw F (r s1) (nf, nk))))), (M 21, .inl (cI, 4, .inl ga)), (M 22, .inl (cI, 4, .inl fb))] H := vz_arr (g := upd g2 s1 (zHw F (r s1) (nf, nk))) hP 2 rfl (fun j _ => by rw [zHw, if_pos hm])
    have hD : va_D A [(M 0, mO M ca nn ft kn dy fd ak pl iw nm (zFi fi (zEw F (r s1) (nI s1) (nf, nk)) s1) (zCl (nf + zMw F (r s1) (nI s1) (nf, nk))) (zKw F (r s1) (nf, nk)) sd ik kc kf kk kd ko hh), (M 19, .inl (cI, 9, .inl (upd g1 s1 nf))), (M 20, .inl (cI, 8, .inl (upd g2 s1 (zHw F (r s1) (nf, nk))))), (M 21, .inl (cI, 4, .inl ga)), (M 22, .inl (cI, 4, .inl fb))] := vz_arrD hD 2 rfl
    have hQ : va_P D vwCl ([(M 0, mO M ca nn ft kn dy fd ak pl iw nm (zFi fi (zEw F (r s1) (nI s1) (nf, nk)) s1) (zCl (nf + zMw F (r s1) (nI s1) (nf, nk))) (zKw F (r s1) (nf, nk)) sd ik kc kf kk kd ko hh), (M 19, .inl (cI, 9, .inl (upd g1 s1 nf))), (M 20, .inl (cI, 8, .inl (upd g2 s1 (zHw F (r s1) (nf, nk))))), (M 21, .inl (cI, 4, .inl ga)), (M 22, .inl (cI, 4, .inl fb))] ++ [(M 2, .inl (cI, 4, .inl (fun f => nI (F.1 f)))), (M 3, .inl (cI, 4, .inl F.2.1)), (M 4, .inl (cI, 4, .inl F.2.2)), (M 7, .inl (cI, 8, .inl r))]) H := va_P.app hP (hR.at hS).P
    have hP : va_P D vwCl [(M 0, mO M ca nn ft kn dy fd ak pl iw nm (zFi fi (zEw F (r s1) (nI s1) (nf, nk)) s1) (zCl (nf + zMw F (r s1) (nI s1) (nf, nk))) (zKw F (r s1) (nf, nk)) sd ik kc kf kk kd ko hh), (M 19, .inl (cI, 9, .inl (upd g1 s1 nf))), (M 20, .inl (cI, 8, .inl (upd g2 s1 (zHw F (r s1) (nf, nk))))), (M 21, .inl (cI, 4, .inl (fun j => if r s1 = nI j then ga j + zGw F (r s1) (nI s1) (nf, nk) else ga j))), (M 22, .inl (cI, 4, .inl fb))] H := vz_arr (g := fun j => if r s1 = nI j then ga j + zGw F (r s1) (nI s1) (nf, nk) else ga j) hP 3 rfl (fun j hj => z_un hm hj)
    have hD : va_D A [(M 0, mO M ca nn ft kn dy fd ak pl iw nm (zFi fi (zEw F (r s1) (nI s1) (nf, nk)) s1) (zCl (nf + zMw F (r s1) (nI s1) (nf, nk))) (zKw F (r s1) (nf, nk)) sd ik kc kf kk kd ko hh), (M 19, .inl (cI, 9, .inl (upd g1 s1 nf))), (M 20, .inl (cI, 8, .inl (upd g2 s1 (zHw F (r s1) (nf, nk))))), (M 21, .inl (cI, 4, .inl (fun j => if r s1 = nI j then ga j + zGw F (r s1) (nI s1) (nf, nk) else ga j))), (M 22, .inl (cI, 4, .inl fb))] := vz_arrD hD 3 rfl
    have hQ : va_P D vwCl ([(M 0, mO M ca nn ft kn dy fd ak pl iw nm (zFi fi (zEw F (r s1) (nI s1) (nf, nk)) s1) (zCl (nf + zMw F (r s1) (nI s1) (nf, nk))) (zKw F (r s1) (nf, nk)) sd ik kc kf kk kd ko hh), (M 19, .inl (cI, 9, .inl (upd g1 s1 nf))), (M 20, .inl (cI, 8, .inl (upd g2 s1 (zHw F (r s1) (nf, nk))))), (M 21, .inl (cI, 4, .inl (fun j => if r s1 = nI j then ga j + zGw F (r s1) (nI s1) (nf, nk) else ga j))), (M 22, .inl (cI, 4, .inl fb))] ++ [(M 2, .inl (cI, 4, .inl (fun f => nI (F.1 f)))), (M 3, .inl (cI, 4, .inl F.2.1)), (M 4, .inl (cI, 4, .inl F.2.2)), (M 7, .inl (cI, 8, .inl r))]) H := va_P.app hP (hR.at hS).P
    have hP : va_P D vwCl [(M 0, mO M ca nn ft kn dy fd ak pl iw nm (zFi fi (zEw F (r s1) (nI s1) (nf, nk)) s1) (zCl (nf + zMw F (r s1) (nI s1) (nf, nk))) (zKw F (r s1) (nf, nk)) sd ik kc kf kk kd ko hh), (M 19, .inl (cI, 9, .inl (upd g1 s1 nf))), (M 20, .inl (cI, 8, .inl (upd g2 s1 (zHw F (r s1) (nf, nk))))), (M 21, .inl (cI, 4, .inl (fun j => if r s1 = nI j then ga j + zGw F (r s1) (nI s1) (nf, nk) else ga j))), (M 22, .inl (cI, 4, .inl (fun j => if r s1 = nI j then fb j + zEw F (r s1) (nI s1) (nf, nk) else fb j)))] H := vz_arr (g := fun j => if r s1 = nI j then fb j + zEw F (r s1) (nI s1) (nf, nk) else fb j) hP 4 rfl (fun j hj => z_un hm hj)
    have hD : va_D A [(M 0, mO M ca nn ft kn dy fd ak pl iw nm (zFi fi (zEw F (r s1) (nI s1) (nf, nk)) s1) (zCl (nf + zMw F (r s1) (nI s1) (nf, nk))) (zKw F (r s1) (nf, nk)) sd ik kc kf kk kd ko hh), (M 19, .inl (cI, 9, .inl (upd g1 s1 nf))), (M 20, .inl (cI, 8, .inl (upd g2 s1 (zHw F (r s1) (nf, nk))))), (M 21, .inl (cI, 4, .inl (fun j => if r s1 = nI j then ga j + zGw F (r s1) (nI s1) (nf, nk) else ga j))), (M 22, .inl (cI, 4, .inl (fun j => if r s1 = nI j then fb j + zEw F (r s1) (nI s1) (nf, nk) else fb j)))] := vz_arrD hD 4 rfl
    have hQ : va_P D vwCl ([(M 0, mO M ca nn ft kn dy fd ak pl iw nm (zFi fi (zEw F (r s1) (nI s1) (nf, nk)) s1) (zCl (nf + zMw F (r s1) (nI s1) (nf, nk))) (zKw F (r s1) (nf, nk)) sd ik kc kf kk kd ko hh), (M 19, .inl (cI, 9, .inl (upd g1 s1 nf))), (M 20, .inl (cI, 8, .inl (upd g2 s1 (zHw F (r s1) (nf, nk))))), (M 21, .inl (cI, 4, .inl (fun j => if r s1 = nI j then ga j + zGw F (r s1) (nI s1) (nf, nk) else ga j))), (M 22, .inl (cI, 4, .inl (fun j => if r s1 = nI j then fb j + zEw F (r s1) (nI s1) (nf, nk) else fb j)))] ++ [(M 2, .inl (cI, 4, .inl (fun f => nI (F.1 f)))), (M 3, .inl (cI, 4, .inl F.2.1)), (M 4, .inl (cI, 4, .inl F.2.2)), (M 7, .inl (cI, 8, .inl r))]) H := va_P.app hP (hR.at hS).P
    have hP9 := hP.sub (ws' := [(M 0, mO M ca nn ft kn dy fd ak pl iw nm (zFi fi (zEw F (r s1) (nI s1) (nf, nk)) s1) (zCl (nf + zMw F (r s1) (nI s1) (nf, nk))) (zKw F (r s1) (nf, nk)) sd ik kc kf kk kd ko hh), (M 19, .inl (cI, 9, .inl (upd g1 s1 nf))), (M 20, .inl (cI, 8, .inl (upd g2 s1 (zHw F (r s1) (nf, nk))))), (M 21, .inl (cI, 4, .inl (fun j => if r s1 = nI j then ga j + zGw F (r s1) (nI s1) (nf, nk) else ga j))), (M 22, .inl (cI, 4, .inl (fun j => if r s1 = nI j then fb j + zEw F (r s1) (nI s1) (nf, nk) else fb j)))]) [0, 1, 2, 3, 4] rfl
    have hD9 := hD.sub (ws' := [(M 0, mO M ca nn ft kn dy fd ak pl iw nm (zFi fi (zEw F (r s1) (nI s1) (nf, nk)) s1) (zCl (nf + zMw F (r s1) (nI s1) (nf, nk))) (zKw F (r s1) (nf, nk)) sd ik kc kf kk kd ko hh), (M 19, .inl (cI, 9, .inl (upd g1 s1 nf))), (M 20, .inl (cI, 8, .inl (upd g2 s1 (zHw F (r s1) (nf, nk))))), (M 21, .inl (cI, 4, .inl (fun j => if r s1 = nI j then ga j + zGw F (r s1) (nI s1) (nf, nk) else ga j))), (M 22, .inl (cI, 4, .inl (fun j => if r s1 = nI j then fb j + zEw F (r s1) (nI s1) (nf, nk) else fb j)))]) [0, 1, 2, 3, 4] (by decide) rfl
    exact W.vret hx hb hr (fun t ht hW => ⟨⟨(), rfl, trivial, by rw [ht]; exact hP9, hD9⟩, hS.F ht⟩) hS.2.2 dX9_passShift_42
  · obtain ⟨hk5, hfl⟩ := hF f hf
    have hfb : f < 2147483648 := by omega
    have hl : lv_has ls 3 [(2, .int (nI f)), (0, .ref (M 0)), (1, .int (nI s1))] := by have hz := hl; rw [show (r s1) = (nI f) from by rw [hm]] at hz; exact hz
    refine lv_aload_n hx hb dX9_passShift_7 rfl (lv_at hl 1 rfl) ?_
    refine va_get (D := D) (cl := vwCl) (tys := zT cI cB cF) (ci := 9) (v := .ref (M 19)) (C := RX9) (T := TX9) (N := 41) hx hb hts iw_X9_passShift_X9 hown hK.1 hQ 0 rfl rfl 19 (by decide) (hts _ hw_X9_passShift_2) (fun _ h9 => h9) rfl dX9_passShift_8 ?_
    refine lv_iload_n hx hb dX9_passShift_11 rfl (lv_at hl 2 rfl) ?_
    refine lv_aload_n hx hb dX9_passShift_12 rfl (lv_at hl 1 rfl) ?_
    refine va_get (D := D) (cl := vwCl) (tys := zT cI cB cF) (ci := 9) (v := .int nf) (C := RX9) (T := TX9) (N := 41) hx hb hts iw_X9_passShift_X9 hown hK.1 hQ 0 rfl rfl 24 (by decide) (hts _ hw_X9_passShift_3) (fun _ h9 => h9) rfl dX9_passShift_13 ?_
    refine va_iast (D := D) (cl := vwCl) (tys := zT cI cB cF) (f := g1) hx hb hK.1 hP hD hS 1 0 rfl rfl (vp_in_nI (by omega) (by omega)) dX9_passShift_16 (fun H locs hP hD hS => ?_)
    rw [nI_clamp (n := s1) (by omega)] at hP hD
    have hP : va_P D vwCl [(M 0, mO M ca nn ft kn dy fd ak pl iw nm fi nf nk sd ik kc kf kk kd ko hh), (M 19, .inl (cI, 9, .inl (upd g1 s1 nf))), (M 20, .inl (cI, 8, .inl g2)), (M 21, .inl (cI, 4, .inl ga)), (M 22, .inl (cI, 4, .inl fb))] H := hP
    have hD : va_D A [(M 0, mO M ca nn ft kn dy fd ak pl iw nm fi nf nk sd ik kc kf kk kd ko hh), (M 19, .inl (cI, 9, .inl (upd g1 s1 nf))), (M 20, .inl (cI, 8, .inl g2)), (M 21, .inl (cI, 4, .inl ga)), (M 22, .inl (cI, 4, .inl fb))] := hD
    have hQ : va_P D vwCl ([(M 0, mO M ca nn ft kn dy fd ak pl iw nm fi nf nk sd ik kc kf kk kd ko hh), (M 19, .inl (cI, 9, .inl (upd g1 s1 nf))), (M 20, .inl (cI, 8, .inl g2)), (M 21, .inl (cI, 4, .inl ga)), (M 22, .inl (cI, 4, .inl fb))] ++ [(M 2, .inl (cI, 4, .inl (fun f => nI (F.1 f)))), (M 3, .inl (cI, 4, .inl F.2.1)), (M 4, .inl (cI, 4, .inl F.2.2)), (M 7, .inl (cI, 8, .inl r))]) H := va_P.app hP (hR.at hS).P
    refine lv_aload_n hx hb dX9_passShift_17 rfl (lv_at hl 1 rfl) ?_
    refine va_get (D := D) (cl := vwCl) (tys := zT cI cB cF) (ci := 9) (v := .ref (M 20)) (C := RX9) (T := TX9) (N := 41) hx hb hts iw_X9_passShift_X9 hown hK.1 hQ 0 rfl rfl 20 (by decide) (hts _ hw_X9_passShift_4) (fun _ h9 => h9) rfl dX9_passShift_18 ?_
    refine lv_iload_n hx hb dX9_passShift_21 rfl (lv_at hl 2 rfl) ?_
    refine lv_iconst (v := 0) hx hb dX9_passShift_22 (by decide) ?_
    refine va_iast (D := D) (cl := vwCl) (tys := zT cI cB cF) (f := g2) hx hb hK.1 hP hD hS 2 0 rfl rfl (vp_in_nI (by omega) (by omega)) dX9_passShift_23 (fun H locs hP hD hS => ?_)
    rw [nI_clamp (n := s1) (by omega)] at hP hD
    have hP : va_P D vwCl [(M 0, mO M ca nn ft kn dy fd ak pl iw nm fi nf nk sd ik kc kf kk kd ko hh), (M 19, .inl (cI, 9, .inl (upd g1 s1 nf))), (M 20, .inl (cI, 8, .inl (upd g2 s1 0))), (M 21, .inl (cI, 4, .inl ga)), (M 22, .inl (cI, 4, .inl fb))] H := hP
    have hD : va_D A [(M 0, mO M ca nn ft kn dy fd ak pl iw nm fi nf nk sd ik kc kf kk kd ko hh), (M 19, .inl (cI, 9, .inl (upd g1 s1 nf))), (M 20, .inl (cI, 8, .inl (upd g2 s1 0))), (M 21, .inl (cI, 4, .inl ga)), (M 22, .inl (cI, 4, .inl fb))] := hD
    have hQ : va_P D vwCl ([(M 0, mO M ca nn ft kn dy fd ak pl iw nm fi nf nk sd ik kc kf kk kd ko hh), (M 19, .inl (cI, 9, .inl (upd g1 s1 nf))), (M 20, .inl (cI, 8, .inl (upd g2 s1 0))), (M 21, .inl (cI, 4, .inl ga)), (M 22, .inl (cI, 4, .inl fb))] ++ [(M 2, .inl (cI, 4, .inl (fun f => nI (F.1 f)))), (M 3, .inl (cI, 4, .inl F.2.1)), (M 4, .inl (cI, 4, .inl F.2.2)), (M 7, .inl (cI, 8, .inl r))]) H := va_P.app hP (hR.at hS).P
    refine lv_iload_n hx hb dX9_passShift_24 rfl (lv_at hl 0 rfl) ?_
    refine lv_iconst (v := (-1)) hx hb dX9_passShift_25 (by decide) ?_
    refine lv_icmp_ne (tgt := 43) hx hb dX9_passShift_26 (by decide) (fun c_26 => ?_) (fun c_26 => False.elim (by exact nI_nm1 hfb c_26))
    refine lv_aload_n hx hb dX9_passShift_43 rfl (lv_at hl 1 rfl) ?_
    refine va_get (D := D) (cl := vwCl) (tys := zT cI cB cF) (ci := 9) (v := .ref (M 20)) (C := RX9) (T := TX9) (N := 41) hx hb hts iw_X9_passShift_X9 hown hK.1 hQ 0 rfl rfl 20 (by decide) (hts _ hw_X9_passShift_4) (fun _ h9 => h9) rfl dX9_passShift_44 ?_
    refine lv_iload_n hx hb dX9_passShift_47 rfl (lv_at hl 2 rfl) ?_
    refine lv_aload_n hx hb dX9_passShift_48 rfl (lv_at hl 1 rfl) ?_
    refine va_get (D := D) (cl := vwCl) (tys := zT cI cB cF) (ci := 9) (v := .int nf) (C := RX9) (T := TX9) (N := 41) hx hb hts iw_X9_passShift_X9 hown hK.1 hQ 0 rfl rfl 24 (by decide) (hts _ hw_X9_passShift_3) (fun _ h9 => h9) rfl dX9_passShift_49 ?_
    refine lv_aload_n hx hb dX9_passShift_52 rfl (lv_at hl 1 rfl) ?_
    refine va_get (D := D) (cl := vwCl) (tys := zT cI cB cF) (ci := 9) (v := .int nk) (C := RX9) (T := TX9) (N := 41) hx hb hts iw_X9_passShift_X9 hown hK.1 hQ 0 rfl rfl 25 (by decide) (hts _ hw_X9_passShift_5) (fun _ h9 => h9) rfl dX9_passShift_53 ?_
    refine lv_aload_n hx hb dX9_passShift_56 rfl (lv_at hl 1 rfl) ?_
    refine va_get (D := D) (cl := vwCl) (tys := zT cI cB cF) (ci := 9) (v := .ref (M 3)) (C := RX9) (T := TX9) (N := 41) hx hb hts iw_X9_passShift_X9 hown hK.1 hQ 0 rfl rfl 3 (by decide) (hts _ hw_X9_passShift_6) (fun _ h9 => h9) rfl dX9_passShift_57 ?_
    refine lv_iload_n hx hb dX9_passShift_60 rfl (lv_at hl 0 rfl) ?_
    refine va_iald (D := D) (cl := vwCl) (tys := zT cI cB cF) (f := F.2.1) hx hb hK.1 hQ 6 0 rfl rfl (vp_in_nI (by omega) (by omega)) dX9_passShift_61 ?_
    refine vz_si (F.2.1 f) (by rw [nI_clamp (n := f) (by omega)]) ?_
    refine vz_rd (va_runS (As := [.int nk, .int (F.2.1 f)]) (rest := [.int nf, .int (nI s1), .ref (M 20)]) FX (c_X9_isIn l D cI cB cF nk (F.2.1 f) ) (va_cwS 2 hts gX9_passShift_X9_isIn rfl rfl rfl hd_X9_isIn ⟨Nat.le_of_ble_eq_true rfl, Nat.le_of_ble_eq_true rfl⟩) (preP_S (hQ.sub (ws' := []) [] rfl) hK) rfl rfl hl.1 rfl (lv_room (Nat.le_of_ble_eq_true rfl)) dX9_passShift_62 ⟨Nat.le_of_ble_eq_true rfl, Nat.le_of_ble_eq_true rfl⟩) ?_
    refine lv_if_eq (tgt := 72) hx hb dX9_passShift_65 (by decide) (fun c_65 => ?_) (fun c_65 => ?_)
    · have b_65 : (zIi nk (F.2.1 f)) = false := zb_f c_65
      refine lv_iconst (v := 0) hx hb dX9_passShift_72 (by decide) ?_
      have hin : zIi nk (F.2.1 f) = zKn nk (F.2.1 f) := zIk hkn hfl
      refine lv_iadd hx hb dX9_passShift_73 ?_
      refine vz_si (zHv nk (F.2.1 f) nf) (by unfold zHv; rw [← zIk hkn hfl, if_neg (by rw [b_65]; decide), Int32.add_zero]) ?_
      refine va_iast (D := D) (cl := vwCl) (tys := zT cI cB cF) (f := (upd g2 s1 0)) hx hb hK.1 hP hD hS 2 0 rfl rfl (vp_in_nI (by omega) (by omega)) dX9_passShift_74 (fun H locs hP hD hS => ?_)
      rw [nI_clamp (n := s1) (by omega)] at hP hD
      have hP : va_P D vwCl [(M 0, mO M ca nn ft kn dy fd ak pl iw nm fi nf nk sd ik kc kf kk kd ko hh), (M 19, .inl (cI, 9, .inl (upd g1 s1 nf))), (M 20, .inl (cI, 8, .inl (upd (upd g2 s1 0) s1 (zHv nk (F.2.1 f) nf)))), (M 21, .inl (cI, 4, .inl ga)), (M 22, .inl (cI, 4, .inl fb))] H := hP
      have hD : va_D A [(M 0, mO M ca nn ft kn dy fd ak pl iw nm fi nf nk sd ik kc kf kk kd ko hh), (M 19, .inl (cI, 9, .inl (upd g1 s1 nf))), (M 20, .inl (cI, 8, .inl (upd (upd g2 s1 0) s1 (zHv nk (F.2.1 f) nf)))), (M 21, .inl (cI, 4, .inl ga)), (M 22, .inl (cI, 4, .inl fb))] := hD
      have hQ : va_P D vwCl ([(M 0, mO M ca nn ft kn dy fd ak pl iw nm fi nf nk sd ik kc kf kk kd ko hh), (M 19, .inl (cI, 9, .inl (upd g1 s1 nf))), (M 20, .inl (cI, 8, .inl (upd (upd g2 s1 0) s1 (zHv nk (F.2.1 f) nf)))), (M 21, .inl (cI, 4, .inl ga)), (M 22, .inl (cI, 4, .inl fb))] ++ [(M 2, .inl (cI, 4, .inl (fun f => nI (F.1 f)))), (M 3, .inl (cI, 4, .inl F.2.1)), (M 4, .inl (cI, 4, .inl F.2.2)), (M 7, .inl (cI, 8, .inl r))]) H := va_P.app hP (hR.at hS).P
      have hP : va_P D vwCl [(M 0, mO M ca nn ft kn dy fd ak pl iw nm fi nf nk sd ik kc kf kk kd ko hh), (M 19, .inl (cI, 9, .inl (upd g1 s1 nf))), (M 20, .inl (cI, 8, .inl (upd g2 s1 (zHv nk (F.2.1 f) nf)))), (M 21, .inl (cI, 4, .inl ga)), (M 22, .inl (cI, 4, .inl fb))] H := vz_arr (g := upd g2 s1 (zHv nk (F.2.1 f) nf)) hP 2 rfl (fun j _ => by by_cases h : j = s1 <;> simp [upd, h])
      have hD : va_D A [(M 0, mO M ca nn ft kn dy fd ak pl iw nm fi nf nk sd ik kc kf kk kd ko hh), (M 19, .inl (cI, 9, .inl (upd g1 s1 nf))), (M 20, .inl (cI, 8, .inl (upd g2 s1 (zHv nk (F.2.1 f) nf)))), (M 21, .inl (cI, 4, .inl ga)), (M 22, .inl (cI, 4, .inl fb))] := vz_arrD hD 2 rfl
      have hQ : va_P D vwCl ([(M 0, mO M ca nn ft kn dy fd ak pl iw nm fi nf nk sd ik kc kf kk kd ko hh), (M 19, .inl (cI, 9, .inl (upd g1 s1 nf))), (M 20, .inl (cI, 8, .inl (upd g2 s1 (zHv nk (F.2.1 f) nf)))), (M 21, .inl (cI, 4, .inl ga)), (M 22, .inl (cI, 4, .inl fb))] ++ [(M 2, .inl (cI, 4, .inl (fun f => nI (F.1 f)))), (M 3, .inl (cI, 4, .inl F.2.1)), (M 4, .inl (cI, 4, .inl F.2.2)), (M 7, .inl (cI, 8, .inl r))]) H := va_P.app hP (hR.at hS).P
      refine lv_aload_n hx hb dX9_passShift_75 rfl (lv_at hl 1 rfl) ?_
      refine lv_dup hx hb dX9_passShift_76 rfl ?_
      refine va_get (D := D) (cl := vwCl) (tys := zT cI cB cF) (ci := 9) (v := .int nk) (C := RX9) (T := TX9) (N := 41) hx hb hts iw_X9_passShift_X9 hown hK.1 hQ 0 rfl rfl 25 (by decide) (hts _ hw_X9_passShift_5) (fun _ h9 => h9) rfl dX9_passShift_77 ?_
      refine lv_iconst (v := 1) hx hb dX9_passShift_80 (by decide) ?_
      refine lv_aload_n hx hb dX9_passShift_81 rfl (lv_at hl 1 rfl) ?_
      refine va_get (D := D) (cl := vwCl) (tys := zT cI cB cF) (ci := 9) (v := .ref (M 3)) (C := RX9) (T := TX9) (N := 41) hx hb hts iw_X9_passShift_X9 hown hK.1 hQ 0 rfl rfl 3 (by decide) (hts _ hw_X9_passShift_6) (fun _ h9 => h9) rfl dX9_passShift_82 ?_
      refine lv_iload_n hx hb dX9_passShift_85 rfl (lv_at hl 0 rfl) ?_
      refine va_iald (D := D) (cl := vwCl) (tys := zT cI cB cF) (f := F.2.1) hx hb hK.1 hQ 6 0 rfl rfl (vp_in_nI (by omega) (by omega)) dX9_passShift_86 ?_
      refine vz_si (F.2.1 f) (by rw [nI_clamp (n := f) (by omega)]) ?_
      refine lv_ishl hx hb dX9_passShift_87 ?_
      refine lv_ior hx hb dX9_passShift_88 ?_
      refine vz_si (zKp nk (F.2.1 f)) (rfl) ?_
      refine va_put (D := D) (cl := vwCl) (tys := zT cI cB cF) (ci := 9) (v := .int (zKp nk (F.2.1 f))) (ty := .int) (C := RX9) (T := TX9) (N := 41) hx hb hts iw_X9_passShift_X9 tyX9 tyX9_ok nmX9 hown hK.1 hP hD hS 0 rfl rfl 25 (by decide) (hts _ hw_X9_passShift_5) (fun _ h9 => h9) rfl (tyX9_ok 25 (by decide)) (rfl) (rfl) (Nat.le_of_ble_eq_true rfl) dX9_passShift_89 (fun H locs hP hD hS => ?_)
      have hP : va_P D vwCl [(M 0, mO M ca nn ft kn dy fd ak pl iw nm fi nf (zKp nk (F.2.1 f)) sd ik kc kf kk kd ko hh), (M 19, .inl (cI, 9, .inl (upd g1 s1 nf))), (M 20, .inl (cI, 8, .inl (upd g2 s1 (zHv nk (F.2.1 f) nf)))), (M 21, .inl (cI, 4, .inl ga)), (M 22, .inl (cI, 4, .inl fb))] H := hP
      have hD : va_D A [(M 0, mO M ca nn ft kn dy fd ak pl iw nm fi nf (zKp nk (F.2.1 f)) sd ik kc kf kk kd ko hh), (M 19, .inl (cI, 9, .inl (upd g1 s1 nf))), (M 20, .inl (cI, 8, .inl (upd g2 s1 (zHv nk (F.2.1 f) nf)))), (M 21, .inl (cI, 4, .inl ga)), (M 22, .inl (cI, 4, .inl fb))] := hD
      have hQ : va_P D vwCl ([(M 0, mO M ca nn ft kn dy fd ak pl iw nm fi nf (zKp nk (F.2.1 f)) sd ik kc kf kk kd ko hh), (M 19, .inl (cI, 9, .inl (upd g1 s1 nf))), (M 20, .inl (cI, 8, .inl (upd g2 s1 (zHv nk (F.2.1 f) nf)))), (M 21, .inl (cI, 4, .inl ga)), (M 22, .inl (cI, 4, .inl fb))] ++ [(M 2, .inl (cI, 4, .inl (fun f => nI (F.1 f)))), (M 3, .inl (cI, 4, .inl F.2.1)), (M 4, .inl (cI, 4, .inl F.2.2)), (M 7, .inl (cI, 8, .inl r))]) H := va_P.app hP (hR.at hS).P
      refine lv_aload_n hx hb dX9_passShift_92 rfl (lv_at hl 1 rfl) ?_
      refine va_get (D := D) (cl := vwCl) (tys := zT cI cB cF) (ci := 9) (v := .ref (M 2)) (C := RX9) (T := TX9) (N := 41) hx hb hts iw_X9_passShift_X9 hown hK.1 hQ 0 rfl rfl 2 (by decide) (hts _ hw_X9_passShift_7) (fun _ h9 => h9) rfl dX9_passShift_93 ?_
      refine lv_iload_n hx hb dX9_passShift_96 rfl (lv_at hl 0 rfl) ?_
      refine va_iald (D := D) (cl := vwCl) (tys := zT cI cB cF) (f := (fun f => nI (F.1 f))) hx hb hK.1 hQ 5 0 rfl rfl (vp_in_nI (by omega) (by omega)) dX9_passShift_97 ?_
      refine vz_si (nI (F.1 f)) (by rw [nI_clamp (n := f) (by omega)]) ?_
      refine lv_iconst (v := 2) hx hb dX9_passShift_98 (by decide) ?_
      refine lv_icmp_ne (tgt := 118) hx hb dX9_passShift_99 (by decide) (fun c_99 => ?_) (fun c_99 => ?_)
      · have hk2 : ¬ F.1 f = 2 := fun q => c_99 (by rw [q]; rfl)
        refine lv_aload_n hx hb dX9_passShift_118 rfl (lv_at hl 1 rfl) ?_
        refine lv_iload_n hx hb dX9_passShift_119 rfl (lv_at hl 0 rfl) ?_
        refine lv_iload_n hx hb dX9_passShift_120 rfl (lv_at hl 2 rfl) ?_
        refine lv_aload_n hx hb dX9_passShift_121 rfl (lv_at hl 1 rfl) ?_
        refine va_get (D := D) (cl := vwCl) (tys := zT cI cB cF) (ci := 9) (v := .ref (M 20)) (C := RX9) (T := TX9) (N := 41) hx hb hts iw_X9_passShift_X9 hown hK.1 hQ 0 rfl rfl 20 (by decide) (hts _ hw_X9_passShift_4) (fun _ h9 => h9) rfl dX9_passShift_122 ?_
        refine lv_iload_n hx hb dX9_passShift_125 rfl (lv_at hl 2 rfl) ?_
        refine va_iald (D := D) (cl := vwCl) (tys := zT cI cB cF) (f := (upd g2 s1 (zHv nk (F.2.1 f) nf))) hx hb hK.1 hQ 2 0 rfl rfl (vp_in_nI (by omega) (by omega)) dX9_passShift_126 ?_
        refine vz_si ((upd g2 s1 (zHv nk (F.2.1 f) nf)) s1) (by rw [nI_clamp (n := s1) (by omega)]) ?_
        refine vz_si (zHv nk (F.2.1 f) nf) (pk_us) ?_
        refine vz_rd (va_runV (As := [.int (nI f), .int (nI s1), .int (zHv nk (F.2.1 f) nf)]) (rest := []) FX (c_X9_isEnough l D cI cB cF M ca nn ft kn dy fd ak pl iw nm fi nf (zKp nk (F.2.1 f)) sd ik kc kf kk kd ko hh F f s1 (zHv nk (F.2.1 f) nf) (by omega) (by first | assumption | omega | decide) hk5) (cwV 3 hts gX9_passShift_X9_isEnough rfl rfl rfl ⟨rfl, hd_X9_isEnough⟩ ⟨Nat.le_of_ble_eq_true rfl, Nat.le_of_ble_eq_true rfl⟩) (preP_V hQ 0 rfl rfl (hQ.sub (ws' := [(M 0, mO M ca nn ft kn dy fd ak pl iw nm fi nf (zKp nk (F.2.1 f)) sd ik kc kf kk kd ko hh), (M 2, .inl (cI, 4, .inl (fun f => nI (F.1 f)))), (M 3, .inl (cI, 4, .inl F.2.1)), (M 4, .inl (cI, 4, .inl F.2.2))]) [0, 5, 6, 7] rfl) hK) rfl rfl hl.1 rfl (lv_room (Nat.le_of_ble_eq_true rfl)) dX9_passShift_127 ⟨Nat.le_of_ble_eq_true rfl, Nat.le_of_ble_eq_true rfl⟩) ?_
        refine lv_if_eq (tgt := 183) hx hb dX9_passShift_130 (by decide) (fun c_130 => ?_) (fun c_130 => ?_)
        · have b_130 : (decide ((zHv nk (F.2.1 f) nf) ≤ zBr (F.1 f) (F.2.2 f) (nI s1))) = false := zb_f c_130
          have hen : ¬ zHv nk (F.2.1 f) nf ≤ zBr (F.1 f) (F.2.2 f) (nI s1) := of_decide_eq_false b_130
          refine lv_aload_n hx hb dX9_passShift_183 rfl (lv_at hl 1 rfl) ?_
          refine va_get (D := D) (cl := vwCl) (tys := zT cI cB cF) (ci := 9) (v := .ref (M 22)) (C := RX9) (T := TX9) (N := 41) hx hb hts iw_X9_passShift_X9 hown hK.1 hQ 0 rfl rfl 22 (by decide) (hts _ hw_X9_passShift_9) (fun _ h9 => h9) rfl dX9_passShift_184 ?_
          refine lv_iload_n hx hb dX9_passShift_187 rfl (lv_at hl 0 rfl) ?_
          refine lv_dup2_11 hx hb dX9_passShift_188 rfl rfl ?_
          refine va_iald (D := D) (cl := vwCl) (tys := zT cI cB cF) (f := fb) hx hb hK.1 hQ 4 0 rfl rfl (vp_in_nI (by omega) (by omega)) dX9_passShift_189 ?_
          refine vz_si (fb f) (by rw [nI_clamp (n := f) (by omega)]) ?_
          refine lv_iconst (v := 1) hx hb dX9_passShift_190 (by decide) ?_
          refine lv_iadd hx hb dX9_passShift_191 ?_
          refine va_iast (D := D) (cl := vwCl) (tys := zT cI cB cF) (f := fb) hx hb hK.1 hP hD hS 4 0 rfl rfl (vp_in_nI (by omega) (by omega)) dX9_passShift_192 (fun H locs hP hD hS => ?_)
          rw [nI_clamp (n := f) (by omega)] at hP hD
          have hP : va_P D vwCl [(M 0, mO M ca nn ft kn dy fd ak pl iw nm fi nf (zKp nk (F.2.1 f)) sd ik kc kf kk kd ko hh), (M 19, .inl (cI, 9, .inl (upd g1 s1 nf))), (M 20, .inl (cI, 8, .inl (upd g2 s1 (zHv nk (F.2.1 f) nf)))), (M 21, .inl (cI, 4, .inl ga)), (M 22, .inl (cI, 4, .inl (upd fb f ((fb f) + 1))))] H := hP
          have hD : va_D A [(M 0, mO M ca nn ft kn dy fd ak pl iw nm fi nf (zKp nk (F.2.1 f)) sd ik kc kf kk kd ko hh), (M 19, .inl (cI, 9, .inl (upd g1 s1 nf))), (M 20, .inl (cI, 8, .inl (upd g2 s1 (zHv nk (F.2.1 f) nf)))), (M 21, .inl (cI, 4, .inl ga)), (M 22, .inl (cI, 4, .inl (upd fb f ((fb f) + 1))))] := hD
          have hQ : va_P D vwCl ([(M 0, mO M ca nn ft kn dy fd ak pl iw nm fi nf (zKp nk (F.2.1 f)) sd ik kc kf kk kd ko hh), (M 19, .inl (cI, 9, .inl (upd g1 s1 nf))), (M 20, .inl (cI, 8, .inl (upd g2 s1 (zHv nk (F.2.1 f) nf)))), (M 21, .inl (cI, 4, .inl ga)), (M 22, .inl (cI, 4, .inl (upd fb f ((fb f) + 1))))] ++ [(M 2, .inl (cI, 4, .inl (fun f => nI (F.1 f)))), (M 3, .inl (cI, 4, .inl F.2.1)), (M 4, .inl (cI, 4, .inl F.2.2)), (M 7, .inl (cI, 8, .inl r))]) H := va_P.app hP (hR.at hS).P
          refine lv_aload_n hx hb dX9_passShift_193 rfl (lv_at hl 1 rfl) ?_
          refine lv_dup hx hb dX9_passShift_194 rfl ?_
          refine va_get (D := D) (cl := vwCl) (tys := zT cI cB cF) (ci := 9) (v := .int fi) (C := RX9) (T := TX9) (N := 41) hx hb hts iw_X9_passShift_X9 hown hK.1 hQ 0 rfl rfl 23 (by decide) (hts _ hw_X9_passShift_10) (fun _ h9 => h9) rfl dX9_passShift_195 ?_
          refine lv_iconst (v := 1) hx hb dX9_passShift_198 (by decide) ?_
          refine lv_iload_n hx hb dX9_passShift_199 rfl (lv_at hl 2 rfl) ?_
          refine lv_ishl hx hb dX9_passShift_200 ?_
          refine lv_ior hx hb dX9_passShift_201 ?_
          refine vz_si (zFi fi (zEw F (r s1) (nI s1) (nf, nk)) s1) (by rw [zFi, if_neg (by rw [hm, zEw_f hfb, zFe, if_neg hk2, if_neg hen]; decide)]) ?_
          refine va_put (D := D) (cl := vwCl) (tys := zT cI cB cF) (ci := 9) (v := .int (zFi fi (zEw F (r s1) (nI s1) (nf, nk)) s1)) (ty := .int) (C := RX9) (T := TX9) (N := 41) hx hb hts iw_X9_passShift_X9 tyX9 tyX9_ok nmX9 hown hK.1 hP hD hS 0 rfl rfl 23 (by decide) (hts _ hw_X9_passShift_10) (fun _ h9 => h9) rfl (tyX9_ok 23 (by decide)) (rfl) (rfl) (Nat.le_of_ble_eq_true rfl) dX9_passShift_202 (fun H locs hP hD hS => ?_)
          have hP : va_P D vwCl [(M 0, mO M ca nn ft kn dy fd ak pl iw nm (zFi fi (zEw F (r s1) (nI s1) (nf, nk)) s1) nf (zKp nk (F.2.1 f)) sd ik kc kf kk kd ko hh), (M 19, .inl (cI, 9, .inl (upd g1 s1 nf))), (M 20, .inl (cI, 8, .inl (upd g2 s1 (zHv nk (F.2.1 f) nf)))), (M 21, .inl (cI, 4, .inl ga)), (M 22, .inl (cI, 4, .inl (upd fb f ((fb f) + 1))))] H := hP
          have hD : va_D A [(M 0, mO M ca nn ft kn dy fd ak pl iw nm (zFi fi (zEw F (r s1) (nI s1) (nf, nk)) s1) nf (zKp nk (F.2.1 f)) sd ik kc kf kk kd ko hh), (M 19, .inl (cI, 9, .inl (upd g1 s1 nf))), (M 20, .inl (cI, 8, .inl (upd g2 s1 (zHv nk (F.2.1 f) nf)))), (M 21, .inl (cI, 4, .inl ga)), (M 22, .inl (cI, 4, .inl (upd fb f ((fb f) + 1))))] := hD
          have hQ : va_P D vwCl ([(M 0, mO M ca nn ft kn dy fd ak pl iw nm (zFi fi (zEw F (r s1) (nI s1) (nf, nk)) s1) nf (zKp nk (F.2.1 f)) sd ik kc kf kk kd ko hh), (M 19, .inl (cI, 9, .inl (upd g1 s1 nf))), (M 20, .inl (cI, 8, .inl (upd g2 s1 (zHv nk (F.2.1 f) nf)))), (M 21, .inl (cI, 4, .inl ga)), (M 22, .inl (cI, 4, .inl (upd fb f ((fb f) + 1))))] ++ [(M 2, .inl (cI, 4, .inl (fun f => nI (F.1 f)))), (M 3, .inl (cI, 4, .inl F.2.1)), (M 4, .inl (cI, 4, .inl F.2.2)), (M 7, .inl (cI, 8, .inl r))]) H := va_P.app hP (hR.at hS).P
          refine lv_aload_n hx hb dX9_passShift_205 rfl (lv_at hl 1 rfl) ?_
          refine lv_aload_n hx hb dX9_passShift_206 rfl (lv_at hl 1 rfl) ?_
          refine va_get (D := D) (cl := vwCl) (tys := zT cI cB cF) (ci := 9) (v := .int nf) (C := RX9) (T := TX9) (N := 41) hx hb hts iw_X9_passShift_X9 hown hK.1 hQ 0 rfl rfl 24 (by decide) (hts _ hw_X9_passShift_3) (fun _ h9 => h9) rfl dX9_passShift_207 ?_
          refine lv_iconst (v := 1) hx hb dX9_passShift_210 (by decide) ?_
          refine lv_iadd hx hb dX9_passShift_211 ?_
          refine vz_rd (va_runS (As := [.int (nf + 1)]) (rest := [.ref (M 0)]) FX (c_X9_atMost l D cI cB cF (nf + 1) ) (va_cwS 1 hts gX9_passShift_X9_atMost rfl rfl rfl hd_X9_atMost ⟨Nat.le_of_ble_eq_true rfl, Nat.le_of_ble_eq_true rfl⟩) (preP_S (hQ.sub (ws' := []) [] rfl) hK) rfl rfl hl.1 rfl (lv_room (Nat.le_of_ble_eq_true rfl)) dX9_passShift_212 ⟨Nat.le_of_ble_eq_true rfl, Nat.le_of_ble_eq_true rfl⟩) ?_
          refine vz_si (zCl (nf + zMw F (r s1) (nI s1) (nf, nk))) (by rw [hm, zMw_f hfb, zMo, if_neg hk2, if_neg hen]) ?_
          refine va_put (D := D) (cl := vwCl) (tys := zT cI cB cF) (ci := 9) (v := .int (zCl (nf + zMw F (r s1) (nI s1) (nf, nk)))) (ty := .int) (C := RX9) (T := TX9) (N := 41) hx hb hts iw_X9_passShift_X9 tyX9 tyX9_ok nmX9 hown hK.1 hP hD hS 0 rfl rfl 24 (by decide) (hts _ hw_X9_passShift_3) (fun _ h9 => h9) rfl (tyX9_ok 24 (by decide)) (rfl) (rfl) (Nat.le_of_ble_eq_true rfl) dX9_passShift_215 (fun H locs hP hD hS => ?_)
          have hP : va_P D vwCl [(M 0, mO M ca nn ft kn dy fd ak pl iw nm (zFi fi (zEw F (r s1) (nI s1) (nf, nk)) s1) (zCl (nf + zMw F (r s1) (nI s1) (nf, nk))) (zKp nk (F.2.1 f)) sd ik kc kf kk kd ko hh), (M 19, .inl (cI, 9, .inl (upd g1 s1 nf))), (M 20, .inl (cI, 8, .inl (upd g2 s1 (zHv nk (F.2.1 f) nf)))), (M 21, .inl (cI, 4, .inl ga)), (M 22, .inl (cI, 4, .inl (upd fb f ((fb f) + 1))))] H := hP
          have hD : va_D A [(M 0, mO M ca nn ft kn dy fd ak pl iw nm (zFi fi (zEw F (r s1) (nI s1) (nf, nk)) s1) (zCl (nf + zMw F (r s1) (nI s1) (nf, nk))) (zKp nk (F.2.1 f)) sd ik kc kf kk kd ko hh), (M 19, .inl (cI, 9, .inl (upd g1 s1 nf))), (M 20, .inl (cI, 8, .inl (upd g2 s1 (zHv nk (F.2.1 f) nf)))), (M 21, .inl (cI, 4, .inl ga)), (M 22, .inl (cI, 4, .inl (upd fb f ((fb f) + 1))))] := hD
          have hQ : va_P D vwCl ([(M 0, mO M ca nn ft kn dy fd ak pl iw nm (zFi fi (zEw F (r s1) (nI s1) (nf, nk)) s1) (zCl (nf + zMw F (r s1) (nI s1) (nf, nk))) (zKp nk (F.2.1 f)) sd ik kc kf kk kd ko hh), (M 19, .inl (cI, 9, .inl (upd g1 s1 nf))), (M 20, .inl (cI, 8, .inl (upd g2 s1 (zHv nk (F.2.1 f) nf)))), (M 21, .inl (cI, 4, .inl ga)), (M 22, .inl (cI, 4, .inl (upd fb f ((fb f) + 1))))] ++ [(M 2, .inl (cI, 4, .inl (fun f => nI (F.1 f)))), (M 3, .inl (cI, 4, .inl F.2.1)), (M 4, .inl (cI, 4, .inl F.2.2)), (M 7, .inl (cI, 8, .inl r))]) H := va_P.app hP (hR.at hS).P
          have hP : va_P D vwCl [(M 0, mO M ca nn ft kn dy fd ak pl iw nm (zFi fi (zEw F (r s1) (nI s1) (nf, nk)) s1) (zCl (nf + zMw F (r s1) (nI s1) (nf, nk))) (zKw F (r s1) (nf, nk)) sd ik kc kf kk kd ko hh), (M 19, .inl (cI, 9, .inl (upd g1 s1 nf))), (M 20, .inl (cI, 8, .inl (upd g2 s1 (zHv nk (F.2.1 f) nf)))), (M 21, .inl (cI, 4, .inl ga)), (M 22, .inl (cI, 4, .inl (upd fb f ((fb f) + 1))))] H := by rw [← (show zKp nk (F.2.1 f) = zKw F (r s1) (nf, nk) from by rw [hm, zKw_f hfb])]; exact hP
          have hD : va_D A [(M 0, mO M ca nn ft kn dy fd ak pl iw nm (zFi fi (zEw F (r s1) (nI s1) (nf, nk)) s1) (zCl (nf + zMw F (r s1) (nI s1) (nf, nk))) (zKw F (r s1) (nf, nk)) sd ik kc kf kk kd ko hh), (M 19, .inl (cI, 9, .inl (upd g1 s1 nf))), (M 20, .inl (cI, 8, .inl (upd g2 s1 (zHv nk (F.2.1 f) nf)))), (M 21, .inl (cI, 4, .inl ga)), (M 22, .inl (cI, 4, .inl (upd fb f ((fb f) + 1))))] := by rw [← (show zKp nk (F.2.1 f) = zKw F (r s1) (nf, nk) from by rw [hm, zKw_f hfb])]; exact hD
          have hQ : va_P D vwCl ([(M 0, mO M ca nn ft kn dy fd ak pl iw nm (zFi fi (zEw F (r s1) (nI s1) (nf, nk)) s1) (zCl (nf + zMw F (r s1) (nI s1) (nf, nk))) (zKw F (r s1) (nf, nk)) sd ik kc kf kk kd ko hh), (M 19, .inl (cI, 9, .inl (upd g1 s1 nf))), (M 20, .inl (cI, 8, .inl (upd g2 s1 (zHv nk (F.2.1 f) nf)))), (M 21, .inl (cI, 4, .inl ga)), (M 22, .inl (cI, 4, .inl (upd fb f ((fb f) + 1))))] ++ [(M 2, .inl (cI, 4, .inl (fun f => nI (F.1 f)))), (M 3, .inl (cI, 4, .inl F.2.1)), (M 4, .inl (cI, 4, .inl F.2.2)), (M 7, .inl (cI, 8, .inl r))]) H := va_P.app hP (hR.at hS).P
          have hP : va_P D vwCl [(M 0, mO M ca nn ft kn dy fd ak pl iw nm (zFi fi (zEw F (r s1) (nI s1) (nf, nk)) s1) (zCl (nf + zMw F (r s1) (nI s1) (nf, nk))) (zKw F (r s1) (nf, nk)) sd ik kc kf kk kd ko hh), (M 19, .inl (cI, 9, .inl (upd g1 s1 nf))), (M 20, .inl (cI, 8, .inl (upd g2 s1 (zHw F (r s1) (nf, nk))))), (M 21, .inl (cI, 4, .inl ga)), (M 22, .inl (cI, 4, .inl (upd fb f ((fb f) + 1))))] H := vz_arr (g := upd g2 s1 (zHw F (r s1) (nf, nk))) hP 2 rfl (fun j _ => by rw [hm, zHw_f hfb])
          have hD : va_D A [(M 0, mO M ca nn ft kn dy fd ak pl iw nm (zFi fi (zEw F (r s1) (nI s1) (nf, nk)) s1) (zCl (nf + zMw F (r s1) (nI s1) (nf, nk))) (zKw F (r s1) (nf, nk)) sd ik kc kf kk kd ko hh), (M 19, .inl (cI, 9, .inl (upd g1 s1 nf))), (M 20, .inl (cI, 8, .inl (upd g2 s1 (zHw F (r s1) (nf, nk))))), (M 21, .inl (cI, 4, .inl ga)), (M 22, .inl (cI, 4, .inl (upd fb f ((fb f) + 1))))] := vz_arrD hD 2 rfl
          have hQ : va_P D vwCl ([(M 0, mO M ca nn ft kn dy fd ak pl iw nm (zFi fi (zEw F (r s1) (nI s1) (nf, nk)) s1) (zCl (nf + zMw F (r s1) (nI s1) (nf, nk))) (zKw F (r s1) (nf, nk)) sd ik kc kf kk kd ko hh), (M 19, .inl (cI, 9, .inl (upd g1 s1 nf))), (M 20, .inl (cI, 8, .inl (upd g2 s1 (zHw F (r s1) (nf, nk))))), (M 21, .inl (cI, 4, .inl ga)), (M 22, .inl (cI, 4, .inl (upd fb f ((fb f) + 1))))] ++ [(M 2, .inl (cI, 4, .inl (fun f => nI (F.1 f)))), (M 3, .inl (cI, 4, .inl F.2.1)), (M 4, .inl (cI, 4, .inl F.2.2)), (M 7, .inl (cI, 8, .inl r))]) H := va_P.app hP (hR.at hS).P
          have hP : va_P D vwCl [(M 0, mO M ca nn ft kn dy fd ak pl iw nm (zFi fi (zEw F (r s1) (nI s1) (nf, nk)) s1) (zCl (nf + zMw F (r s1) (nI s1) (nf, nk))) (zKw F (r s1) (nf, nk)) sd ik kc kf kk kd ko hh), (M 19, .inl (cI, 9, .inl (upd g1 s1 nf))), (M 20, .inl (cI, 8, .inl (upd g2 s1 (zHw F (r s1) (nf, nk))))), (M 21, .inl (cI, 4, .inl (fun j => if r s1 = nI j then ga j + zGw F (r s1) (nI s1) (nf, nk) else ga j))), (M 22, .inl (cI, 4, .inl (upd fb f ((fb f) + 1))))] H := vz_arr (g := fun j => if r s1 = nI j then ga j + zGw F (r s1) (nI s1) (nf, nk) else ga j) hP 3 rfl (fun j hj => z_u0 (by rw [hm, zGw_f hfb, zGn, if_neg hk2, if_neg hen]))
          have hD : va_D A [(M 0, mO M ca nn ft kn dy fd ak pl iw nm (zFi fi (zEw F (r s1) (nI s1) (nf, nk)) s1) (zCl (nf + zMw F (r s1) (nI s1) (nf, nk))) (zKw F (r s1) (nf, nk)) sd ik kc kf kk kd ko hh), (M 19, .inl (cI, 9, .inl (upd g1 s1 nf))), (M 20, .inl (cI, 8, .inl (upd g2 s1 (zHw F (r s1) (nf, nk))))), (M 21, .inl (cI, 4, .inl (fun j => if r s1 = nI j then ga j + zGw F (r s1) (nI s1) (nf, nk) else ga j))), (M 22, .inl (cI, 4, .inl (upd fb f ((fb f) + 1))))] := vz_arrD hD 3 rfl
          have hQ : va_P D vwCl ([(M 0, mO M ca nn ft kn dy fd ak pl iw nm (zFi fi (zEw F (r s1) (nI s1) (nf, nk)) s1) (zCl (nf + zMw F (r s1) (nI s1) (nf, nk))) (zKw F (r s1) (nf, nk)) sd ik kc kf kk kd ko hh), (M 19, .inl (cI, 9, .inl (upd g1 s1 nf))), (M 20, .inl (cI, 8, .inl (upd g2 s1 (zHw F (r s1) (nf, nk))))), (M 21, .inl (cI, 4, .inl (fun j => if r s1 = nI j then ga j + zGw F (r s1) (nI s1) (nf, nk) else ga j))), (M 22, .inl (cI, 4, .inl (upd fb f ((fb f) + 1))))] ++ [(M 2, .inl (cI, 4, .inl (fun f => nI (F.1 f)))), (M 3, .inl (cI, 4, .inl F.2.1)), (M 4, .inl (cI, 4, .inl F.2.2)), (M 7, .inl (cI, 8, .inl r))]) H := va_P.app hP (hR.at hS).P
          have hP : va_P D vwCl [(M 0, mO M ca nn ft kn dy fd ak pl iw nm (zFi fi (zEw F (r s1) (nI s1) (nf, nk)) s1) (zCl (nf + zMw F (r s1) (nI s1) (nf, nk))) (zKw F (r s1) (nf, nk)) sd ik kc kf kk kd ko hh), (M 19, .inl (cI, 9, .inl (upd g1 s1 nf))), (M 20, .inl (cI, 8, .inl (upd g2 s1 (zHw F (r s1) (nf, nk))))), (M 21, .inl (cI, 4, .inl (fun j => if r s1 = nI j then ga j + zGw F (r s1) (nI s1) (nf, nk) else ga j))), (M 22, .inl (cI, 4, .inl (fun j => if r s1 = nI j then fb j + zEw F (r s1) (nI s1) (nf, nk) else fb j)))] H := vz_arr (g := fun j => if r s1 = nI j then fb j + zEw F (r s1) (nI s1) (nf, nk) else fb j) hP 4 rfl (fun j hj => z_uf hm (by omega) (by rw [hm, zEw_f hfb, zFe, if_neg hk2, if_neg hen]) hj)
          have hD : va_D A [(M 0, mO M ca nn ft kn dy fd ak pl iw nm (zFi fi (zEw F (r s1) (nI s1) (nf, nk)) s1) (zCl (nf + zMw F (r s1) (nI s1) (nf, nk))) (zKw F (r s1) (nf, nk)) sd ik kc kf kk kd ko hh), (M 19, .inl (cI, 9, .inl (upd g1 s1 nf))), (M 20, .inl (cI, 8, .inl (upd g2 s1 (zHw F (r s1) (nf, nk))))), (M 21, .inl (cI, 4, .inl (fun j => if r s1 = nI j then ga j + zGw F (r s1) (nI s1) (nf, nk) else ga j))), (M 22, .inl (cI, 4, .inl (fun j => if r s1 = nI j then fb j + zEw F (r s1) (nI s1) (nf, nk) else fb j)))] := vz_arrD hD 4 rfl
          have hQ : va_P D vwCl ([(M 0, mO M ca nn ft kn dy fd ak pl iw nm (zFi fi (zEw F (r s1) (nI s1) (nf, nk)) s1) (zCl (nf + zMw F (r s1) (nI s1) (nf, nk))) (zKw F (r s1) (nf, nk)) sd ik kc kf kk kd ko hh), (M 19, .inl (cI, 9, .inl (upd g1 s1 nf))), (M 20, .inl (cI, 8, .inl (upd g2 s1 (zHw F (r s1) (nf, nk))))), (M 21, .inl (cI, 4, .inl (fun j => if r s1 = nI j then ga j + zGw F (r s1) (nI s1) (nf, nk) else ga j))), (M 22, .inl (cI, 4, .inl (fun j => if r s1 = nI j then fb j + zEw F (r s1) (nI s1) (nf, nk) else fb j)))] ++ [(M 2, .inl (cI, 4, .inl (fun f => nI (F.1 f)))), (M 3, .inl (cI, 4, .inl F.2.1)), (M 4, .inl (cI, 4, .inl F.2.2)), (M 7, .inl (cI, 8, .inl r))]) H := va_P.app hP (hR.at hS).P
          have hP9 := hP.sub (ws' := [(M 0, mO M ca nn ft kn dy fd ak pl iw nm (zFi fi (zEw F (r s1) (nI s1) (nf, nk)) s1) (zCl (nf + zMw F (r s1) (nI s1) (nf, nk))) (zKw F (r s1) (nf, nk)) sd ik kc kf kk kd ko hh), (M 19, .inl (cI, 9, .inl (upd g1 s1 nf))), (M 20, .inl (cI, 8, .inl (upd g2 s1 (zHw F (r s1) (nf, nk))))), (M 21, .inl (cI, 4, .inl (fun j => if r s1 = nI j then ga j + zGw F (r s1) (nI s1) (nf, nk) else ga j))), (M 22, .inl (cI, 4, .inl (fun j => if r s1 = nI j then fb j + zEw F (r s1) (nI s1) (nf, nk) else fb j)))]) [0, 1, 2, 3, 4] rfl
          have hD9 := hD.sub (ws' := [(M 0, mO M ca nn ft kn dy fd ak pl iw nm (zFi fi (zEw F (r s1) (nI s1) (nf, nk)) s1) (zCl (nf + zMw F (r s1) (nI s1) (nf, nk))) (zKw F (r s1) (nf, nk)) sd ik kc kf kk kd ko hh), (M 19, .inl (cI, 9, .inl (upd g1 s1 nf))), (M 20, .inl (cI, 8, .inl (upd g2 s1 (zHw F (r s1) (nf, nk))))), (M 21, .inl (cI, 4, .inl (fun j => if r s1 = nI j then ga j + zGw F (r s1) (nI s1) (nf, nk) else ga j))), (M 22, .inl (cI, 4, .inl (fun j => if r s1 = nI j then fb j + zEw F (r s1) (nI s1) (nf, nk) else fb j)))]) [0, 1, 2, 3, 4] (by decide) rfl
          exact W.vret hx hb hr (fun t ht hW => ⟨⟨(), rfl, trivial, by rw [ht]; exact hP9, hD9⟩, hS.F ht⟩) hS.2.2 dX9_passShift_218
        · have b_130 : (decide ((zHv nk (F.2.1 f) nf) ≤ zBr (F.1 f) (F.2.2 f) (nI s1))) = true := zb_t c_130
          have hen : zHv nk (F.2.1 f) nf ≤ zBr (F.1 f) (F.2.2 f) (nI s1) := of_decide_eq_true b_130
          refine lv_aload_n hx hb dX9_passShift_133 rfl (lv_at hl 1 rfl) ?_
          refine va_get (D := D) (cl := vwCl) (tys := zT cI cB cF) (ci := 9) (v := .ref (M 21)) (C := RX9) (T := TX9) (N := 41) hx hb hts iw_X9_passShift_X9 hown hK.1 hQ 0 rfl rfl 21 (by decide) (hts _ hw_X9_passShift_8) (fun _ h9 => h9) rfl dX9_passShift_134 ?_
          refine lv_iload_n hx hb dX9_passShift_137 rfl (lv_at hl 0 rfl) ?_
          refine lv_dup2_11 hx hb dX9_passShift_138 rfl rfl ?_
          refine va_iald (D := D) (cl := vwCl) (tys := zT cI cB cF) (f := ga) hx hb hK.1 hQ 3 0 rfl rfl (vp_in_nI (by omega) (by omega)) dX9_passShift_139 ?_
          refine vz_si (ga f) (by rw [nI_clamp (n := f) (by omega)]) ?_
          refine lv_aload_n hx hb dX9_passShift_140 rfl (lv_at hl 1 rfl) ?_
          refine va_get (D := D) (cl := vwCl) (tys := zT cI cB cF) (ci := 9) (v := .ref (M 20)) (C := RX9) (T := TX9) (N := 41) hx hb hts iw_X9_passShift_X9 hown hK.1 hQ 0 rfl rfl 20 (by decide) (hts _ hw_X9_passShift_4) (fun _ h9 => h9) rfl dX9_passShift_141 ?_
          refine lv_iload_n hx hb dX9_passShift_144 rfl (lv_at hl 2 rfl) ?_
          refine va_iald (D := D) (cl := vwCl) (tys := zT cI cB cF) (f := (upd g2 s1 (zHv nk (F.2.1 f) nf))) hx hb hK.1 hQ 2 0 rfl rfl (vp_in_nI (by omega) (by omega)) dX9_passShift_145 ?_
          refine vz_si ((upd g2 s1 (zHv nk (F.2.1 f) nf)) s1) (by rw [nI_clamp (n := s1) (by omega)]) ?_
          refine vz_si (zHv nk (F.2.1 f) nf) (pk_us) ?_
          refine lv_iadd hx hb dX9_passShift_146 ?_
          refine va_iast (D := D) (cl := vwCl) (tys := zT cI cB cF) (f := ga) hx hb hK.1 hP hD hS 3 0 rfl rfl (vp_in_nI (by omega) (by omega)) dX9_passShift_147 (fun H locs hP hD hS => ?_)
          rw [nI_clamp (n := f) (by omega)] at hP hD
          have hP : va_P D vwCl [(M 0, mO M ca nn ft kn dy fd ak pl iw nm fi nf (zKp nk (F.2.1 f)) sd ik kc kf kk kd ko hh), (M 19, .inl (cI, 9, .inl (upd g1 s1 nf))), (M 20, .inl (cI, 8, .inl (upd g2 s1 (zHv nk (F.2.1 f) nf)))), (M 21, .inl (cI, 4, .inl (upd ga f ((ga f) + (zHv nk (F.2.1 f) nf))))), (M 22, .inl (cI, 4, .inl fb))] H := hP
          have hD : va_D A [(M 0, mO M ca nn ft kn dy fd ak pl iw nm fi nf (zKp nk (F.2.1 f)) sd ik kc kf kk kd ko hh), (M 19, .inl (cI, 9, .inl (upd g1 s1 nf))), (M 20, .inl (cI, 8, .inl (upd g2 s1 (zHv nk (F.2.1 f) nf)))), (M 21, .inl (cI, 4, .inl (upd ga f ((ga f) + (zHv nk (F.2.1 f) nf))))), (M 22, .inl (cI, 4, .inl fb))] := hD
          have hQ : va_P D vwCl ([(M 0, mO M ca nn ft kn dy fd ak pl iw nm fi nf (zKp nk (F.2.1 f)) sd ik kc kf kk kd ko hh), (M 19, .inl (cI, 9, .inl (upd g1 s1 nf))), (M 20, .inl (cI, 8, .inl (upd g2 s1 (zHv nk (F.2.1 f) nf)))), (M 21, .inl (cI, 4, .inl (upd ga f ((ga f) + (zHv nk (F.2.1 f) nf))))), (M 22, .inl (cI, 4, .inl fb))] ++ [(M 2, .inl (cI, 4, .inl (fun f => nI (F.1 f)))), (M 3, .inl (cI, 4, .inl F.2.1)), (M 4, .inl (cI, 4, .inl F.2.2)), (M 7, .inl (cI, 8, .inl r))]) H := va_P.app hP (hR.at hS).P
          refine lv_aload_n hx hb dX9_passShift_148 rfl (lv_at hl 1 rfl) ?_
          refine lv_aload_n hx hb dX9_passShift_149 rfl (lv_at hl 1 rfl) ?_
          refine va_get (D := D) (cl := vwCl) (tys := zT cI cB cF) (ci := 9) (v := .ref (M 2)) (C := RX9) (T := TX9) (N := 41) hx hb hts iw_X9_passShift_X9 hown hK.1 hQ 0 rfl rfl 2 (by decide) (hts _ hw_X9_passShift_7) (fun _ h9 => h9) rfl dX9_passShift_150 ?_
          refine lv_iload_n hx hb dX9_passShift_153 rfl (lv_at hl 0 rfl) ?_
          refine va_iald (D := D) (cl := vwCl) (tys := zT cI cB cF) (f := (fun f => nI (F.1 f))) hx hb hK.1 hQ 5 0 rfl rfl (vp_in_nI (by omega) (by omega)) dX9_passShift_154 ?_
          refine vz_si (nI (F.1 f)) (by rw [nI_clamp (n := f) (by omega)]) ?_
          refine lv_iconst (v := 3) hx hb dX9_passShift_155 (by decide) ?_
          refine lv_icmp_ne (tgt := 168) hx hb dX9_passShift_156 (by decide) (fun c_156 => ?_) (fun c_156 => ?_)
          · have hk3 : ¬ F.1 f = 3 := fun q => c_156 (by rw [q]; rfl)
            refine lv_aload_n hx hb dX9_passShift_168 rfl (lv_at hl 1 rfl) ?_
            refine va_get (D := D) (cl := vwCl) (tys := zT cI cB cF) (ci := 9) (v := .int nf) (C := RX9) (T := TX9) (N := 41) hx hb hts iw_X9_passShift_X9 hown hK.1 hQ 0 rfl rfl 24 (by decide) (hts _ hw_X9_passShift_3) (fun _ h9 => h9) rfl dX9_passShift_169 ?_
            refine lv_iconst (v := 1) hx hb dX9_passShift_172 (by decide) ?_
            refine lv_isub hx hb dX9_passShift_173 ?_
            refine vz_rd (va_runS (As := [.int (nf - 1)]) (rest := [.ref (M 0)]) FX (c_X9_atMost l D cI cB cF (nf - 1) ) (va_cwS 1 hts gX9_passShift_X9_atMost rfl rfl rfl hd_X9_atMost ⟨Nat.le_of_ble_eq_true rfl, Nat.le_of_ble_eq_true rfl⟩) (preP_S (hQ.sub (ws' := []) [] rfl) hK) rfl rfl hl.1 rfl (lv_room (Nat.le_of_ble_eq_true rfl)) dX9_passShift_174 ⟨Nat.le_of_ble_eq_true rfl, Nat.le_of_ble_eq_true rfl⟩) ?_
            refine vz_si (zCl (nf + zMw F (r s1) (nI s1) (nf, nk))) (by rw [hm, zMw_f hfb, zMo, if_neg hk2, if_pos hen, if_neg hk3, ← z_sub1]) ?_
            refine va_put (D := D) (cl := vwCl) (tys := zT cI cB cF) (ci := 9) (v := .int (zCl (nf + zMw F (r s1) (nI s1) (nf, nk)))) (ty := .int) (C := RX9) (T := TX9) (N := 41) hx hb hts iw_X9_passShift_X9 tyX9 tyX9_ok nmX9 hown hK.1 hP hD hS 0 rfl rfl 24 (by decide) (hts _ hw_X9_passShift_3) (fun _ h9 => h9) rfl (tyX9_ok 24 (by decide)) (rfl) (rfl) (Nat.le_of_ble_eq_true rfl) dX9_passShift_177 (fun H locs hP hD hS => ?_)
            have hP : va_P D vwCl [(M 0, mO M ca nn ft kn dy fd ak pl iw nm fi (zCl (nf + zMw F (r s1) (nI s1) (nf, nk))) (zKp nk (F.2.1 f)) sd ik kc kf kk kd ko hh), (M 19, .inl (cI, 9, .inl (upd g1 s1 nf))), (M 20, .inl (cI, 8, .inl (upd g2 s1 (zHv nk (F.2.1 f) nf)))), (M 21, .inl (cI, 4, .inl (upd ga f ((ga f) + (zHv nk (F.2.1 f) nf))))), (M 22, .inl (cI, 4, .inl fb))] H := hP
            have hD : va_D A [(M 0, mO M ca nn ft kn dy fd ak pl iw nm fi (zCl (nf + zMw F (r s1) (nI s1) (nf, nk))) (zKp nk (F.2.1 f)) sd ik kc kf kk kd ko hh), (M 19, .inl (cI, 9, .inl (upd g1 s1 nf))), (M 20, .inl (cI, 8, .inl (upd g2 s1 (zHv nk (F.2.1 f) nf)))), (M 21, .inl (cI, 4, .inl (upd ga f ((ga f) + (zHv nk (F.2.1 f) nf))))), (M 22, .inl (cI, 4, .inl fb))] := hD
            have hQ : va_P D vwCl ([(M 0, mO M ca nn ft kn dy fd ak pl iw nm fi (zCl (nf + zMw F (r s1) (nI s1) (nf, nk))) (zKp nk (F.2.1 f)) sd ik kc kf kk kd ko hh), (M 19, .inl (cI, 9, .inl (upd g1 s1 nf))), (M 20, .inl (cI, 8, .inl (upd g2 s1 (zHv nk (F.2.1 f) nf)))), (M 21, .inl (cI, 4, .inl (upd ga f ((ga f) + (zHv nk (F.2.1 f) nf))))), (M 22, .inl (cI, 4, .inl fb))] ++ [(M 2, .inl (cI, 4, .inl (fun f => nI (F.1 f)))), (M 3, .inl (cI, 4, .inl F.2.1)), (M 4, .inl (cI, 4, .inl F.2.2)), (M 7, .inl (cI, 8, .inl r))]) H := va_P.app hP (hR.at hS).P
            refine lv_goto (tgt := 218) hx hb dX9_passShift_180 (by decide) ?_
            have hP : va_P D vwCl [(M 0, mO M ca nn ft kn dy fd ak pl iw nm fi (zCl (nf + zMw F (r s1) (nI s1) (nf, nk))) (zKw F (r s1) (nf, nk)) sd ik kc kf kk kd ko hh), (M 19, .inl (cI, 9, .inl (upd g1 s1 nf))), (M 20, .inl (cI, 8, .inl (upd g2 s1 (zHv nk (F.2.1 f) nf)))), (M 21, .inl (cI, 4, .inl (upd ga f ((ga f) + (zHv nk (F.2.1 f) nf))))), (M 22, .inl (cI, 4, .inl fb))] H := by rw [← (show zKp nk (F.2.1 f) = zKw F (r s1) (nf, nk) from by rw [hm, zKw_f hfb])]; exact hP
            have hD : va_D A [(M 0, mO M ca nn ft kn dy fd ak pl iw nm fi (zCl (nf + zMw F (r s1) (nI s1) (nf, nk))) (zKw F (r s1) (nf, nk)) sd ik kc kf kk kd ko hh), (M 19, .inl (cI, 9, .inl (upd g1 s1 nf))), (M 20, .inl (cI, 8, .inl (upd g2 s1 (zHv nk (F.2.1 f) nf)))), (M 21, .inl (cI, 4, .inl (upd ga f ((ga f) + (zHv nk (F.2.1 f) nf))))), (M 22, .inl (cI, 4, .inl fb))] := by rw [← (show zKp nk (F.2.1 f) = zKw F (r s1) (nf, nk) from by rw [hm, zKw_f hfb])]; exact hD
            have hQ : va_P D vwCl ([(M 0, mO M ca nn ft kn dy fd ak pl iw nm fi (zCl (nf + zMw F (r s1) (nI s1) (nf, nk))) (zKw F (r s1) (nf, nk)) sd ik kc kf kk kd ko hh), (M 19, .inl (cI, 9, .inl (upd g1 s1 nf))), (M 20, .inl (cI, 8, .inl (upd g2 s1 (zHv nk (F.2.1 f) nf)))), (M 21, .inl (cI, 4, .inl (upd ga f ((ga f) + (zHv nk (F.2.1 f) nf))))), (M 22, .inl (cI, 4, .inl fb))] ++ [(M 2, .inl (cI, 4, .inl (fun f => nI (F.1 f)))), (M 3, .inl (cI, 4, .inl F.2.1)), (M 4, .inl (cI, 4, .inl F.2.2)), (M 7, .inl (cI, 8, .inl r))]) H := va_P.app hP (hR.at hS).P
            have hP : va_P D vwCl [(M 0, mO M ca nn ft kn dy fd ak pl iw nm fi (zCl (nf + zMw F (r s1) (nI s1) (nf, nk))) (zKw F (r s1) (nf, nk)) sd ik kc kf kk kd ko hh), (M 19, .inl (cI, 9, .inl (upd g1 s1 nf))), (M 20, .inl (cI, 8, .inl (upd g2 s1 (zHw F (r s1) (nf, nk))))), (M 21, .inl (cI, 4, .inl (upd ga f ((ga f) + (zHv nk (F.2.1 f) nf))))), (M 22, .inl (cI, 4, .inl fb))] H := vz_arr (g := upd g2 s1 (zHw F (r s1) (nf, nk))) hP 2 rfl (fun j _ => by rw [hm, zHw_f hfb])
            have hD : va_D A [(M 0, mO M ca nn ft kn dy fd ak pl iw nm fi (zCl (nf + zMw F (r s1) (nI s1) (nf, nk))) (zKw F (r s1) (nf, nk)) sd ik kc kf kk kd ko hh), (M 19, .inl (cI, 9, .inl (upd g1 s1 nf))), (M 20, .inl (cI, 8, .inl (upd g2 s1 (zHw F (r s1) (nf, nk))))), (M 21, .inl (cI, 4, .inl (upd ga f ((ga f) + (zHv nk (F.2.1 f) nf))))), (M 22, .inl (cI, 4, .inl fb))] := vz_arrD hD 2 rfl
            have hQ : va_P D vwCl ([(M 0, mO M ca nn ft kn dy fd ak pl iw nm fi (zCl (nf + zMw F (r s1) (nI s1) (nf, nk))) (zKw F (r s1) (nf, nk)) sd ik kc kf kk kd ko hh), (M 19, .inl (cI, 9, .inl (upd g1 s1 nf))), (M 20, .inl (cI, 8, .inl (upd g2 s1 (zHw F (r s1) (nf, nk))))), (M 21, .inl (cI, 4, .inl (upd ga f ((ga f) + (zHv nk (F.2.1 f) nf))))), (M 22, .inl (cI, 4, .inl fb))] ++ [(M 2, .inl (cI, 4, .inl (fun f => nI (F.1 f)))), (M 3, .inl (cI, 4, .inl F.2.1)), (M 4, .inl (cI, 4, .inl F.2.2)), (M 7, .inl (cI, 8, .inl r))]) H := va_P.app hP (hR.at hS).P
            have hP : va_P D vwCl [(M 0, mO M ca nn ft kn dy fd ak pl iw nm (zFi fi (zEw F (r s1) (nI s1) (nf, nk)) s1) (zCl (nf + zMw F (r s1) (nI s1) (nf, nk))) (zKw F (r s1) (nf, nk)) sd ik kc kf kk kd ko hh), (M 19, .inl (cI, 9, .inl (upd g1 s1 nf))), (M 20, .inl (cI, 8, .inl (upd g2 s1 (zHw F (r s1) (nf, nk))))), (M 21, .inl (cI, 4, .inl (upd ga f ((ga f) + (zHv nk (F.2.1 f) nf))))), (M 22, .inl (cI, 4, .inl fb))] H := by rw [← (show fi = zFi fi (zEw F (r s1) (nI s1) (nf, nk)) s1 from by rw [zFi, if_pos (by rw [hm, zEw_f hfb, zFe, if_neg hk2, if_pos hen])])]; exact hP
            have hD : va_D A [(M 0, mO M ca nn ft kn dy fd ak pl iw nm (zFi fi (zEw F (r s1) (nI s1) (nf, nk)) s1) (zCl (nf + zMw F (r s1) (nI s1) (nf, nk))) (zKw F (r s1) (nf, nk)) sd ik kc kf kk kd ko hh), (M 19, .inl (cI, 9, .inl (upd g1 s1 nf))), (M 20, .inl (cI, 8, .inl (upd g2 s1 (zHw F (r s1) (nf, nk))))), (M 21, .inl (cI, 4, .inl (upd ga f ((ga f) + (zHv nk (F.2.1 f) nf))))), (M 22, .inl (cI, 4, .inl fb))] := by rw [← (show fi = zFi fi (zEw F (r s1) (nI s1) (nf, nk)) s1 from by rw [zFi, if_pos (by rw [hm, zEw_f hfb, zFe, if_neg hk2, if_pos hen])])]; exact hD
            have hQ : va_P D vwCl ([(M 0, mO M ca nn ft kn dy fd ak pl iw nm (zFi fi (zEw F (r s1) (nI s1) (nf, nk)) s1) (zCl (nf + zMw F (r s1) (nI s1) (nf, nk))) (zKw F (r s1) (nf, nk)) sd ik kc kf kk kd ko hh), (M 19, .inl (cI, 9, .inl (upd g1 s1 nf))), (M 20, .inl (cI, 8, .inl (upd g2 s1 (zHw F (r s1) (nf, nk))))), (M 21, .inl (cI, 4, .inl (upd ga f ((ga f) + (zHv nk (F.2.1 f) nf))))), (M 22, .inl (cI, 4, .inl fb))] ++ [(M 2, .inl (cI, 4, .inl (fun f => nI (F.1 f)))), (M 3, .inl (cI, 4, .inl F.2.1)), (M 4, .inl (cI, 4, .inl F.2.2)), (M 7, .inl (cI, 8, .inl r))]) H := va_P.app hP (hR.at hS).P
            have hP : va_P D vwCl [(M 0, mO M ca nn ft kn dy fd ak pl iw nm (zFi fi (zEw F (r s1) (nI s1) (nf, nk)) s1) (zCl (nf + zMw F (r s1) (nI s1) (nf, nk))) (zKw F (r s1) (nf, nk)) sd ik kc kf kk kd ko hh), (M 19, .inl (cI, 9, .inl (upd g1 s1 nf))), (M 20, .inl (cI, 8, .inl (upd g2 s1 (zHw F (r s1) (nf, nk))))), (M 21, .inl (cI, 4, .inl (fun j => if r s1 = nI j then ga j + zGw F (r s1) (nI s1) (nf, nk) else ga j))), (M 22, .inl (cI, 4, .inl fb))] H := vz_arr (g := fun j => if r s1 = nI j then ga j + zGw F (r s1) (nI s1) (nf, nk) else ga j) hP 3 rfl (fun j hj => z_uf hm (by omega) (by rw [hm, zGw_f hfb, zGn, if_neg hk2, if_pos hen]) hj)
            have hD : va_D A [(M 0, mO M ca nn ft kn dy fd ak pl iw nm (zFi fi (zEw F (r s1) (nI s1) (nf, nk)) s1) (zCl (nf + zMw F (r s1) (nI s1) (nf, nk))) (zKw F (r s1) (nf, nk)) sd ik kc kf kk kd ko hh), (M 19, .inl (cI, 9, .inl (upd g1 s1 nf))), (M 20, .inl (cI, 8, .inl (upd g2 s1 (zHw F (r s1) (nf, nk))))), (M 21, .inl (cI, 4, .inl (fun j => if r s1 = nI j then ga j + zGw F (r s1) (nI s1) (nf, nk) else ga j))), (M 22, .inl (cI, 4, .inl fb))] := vz_arrD hD 3 rfl
            have hQ : va_P D vwCl ([(M 0, mO M ca nn ft kn dy fd ak pl iw nm (zFi fi (zEw F (r s1) (nI s1) (nf, nk)) s1) (zCl (nf + zMw F (r s1) (nI s1) (nf, nk))) (zKw F (r s1) (nf, nk)) sd ik kc kf kk kd ko hh), (M 19, .inl (cI, 9, .inl (upd g1 s1 nf))), (M 20, .inl (cI, 8, .inl (upd g2 s1 (zHw F (r s1) (nf, nk))))), (M 21, .inl (cI, 4, .inl (fun j => if r s1 = nI j then ga j + zGw F (r s1) (nI s1) (nf, nk) else ga j))), (M 22, .inl (cI, 4, .inl fb))] ++ [(M 2, .inl (cI, 4, .inl (fun f => nI (F.1 f)))), (M 3, .inl (cI, 4, .inl F.2.1)), (M 4, .inl (cI, 4, .inl F.2.2)), (M 7, .inl (cI, 8, .inl r))]) H := va_P.app hP (hR.at hS).P
            have hP : va_P D vwCl [(M 0, mO M ca nn ft kn dy fd ak pl iw nm (zFi fi (zEw F (r s1) (nI s1) (nf, nk)) s1) (zCl (nf + zMw F (r s1) (nI s1) (nf, nk))) (zKw F (r s1) (nf, nk)) sd ik kc kf kk kd ko hh), (M 19, .inl (cI, 9, .inl (upd g1 s1 nf))), (M 20, .inl (cI, 8, .inl (upd g2 s1 (zHw F (r s1) (nf, nk))))), (M 21, .inl (cI, 4, .inl (fun j => if r s1 = nI j then ga j + zGw F (r s1) (nI s1) (nf, nk) else ga j))), (M 22, .inl (cI, 4, .inl (fun j => if r s1 = nI j then fb j + zEw F (r s1) (nI s1) (nf, nk) else fb j)))] H := vz_arr (g := fun j => if r s1 = nI j then fb j + zEw F (r s1) (nI s1) (nf, nk) else fb j) hP 4 rfl (fun j hj => z_u0 (by rw [hm, zEw_f hfb, zFe, if_neg hk2, if_pos hen]))
            have hD : va_D A [(M 0, mO M ca nn ft kn dy fd ak pl iw nm (zFi fi (zEw F (r s1) (nI s1) (nf, nk)) s1) (zCl (nf + zMw F (r s1) (nI s1) (nf, nk))) (zKw F (r s1) (nf, nk)) sd ik kc kf kk kd ko hh), (M 19, .inl (cI, 9, .inl (upd g1 s1 nf))), (M 20, .inl (cI, 8, .inl (upd g2 s1 (zHw F (r s1) (nf, nk))))), (M 21, .inl (cI, 4, .inl (fun j => if r s1 = nI j then ga j + zGw F (r s1) (nI s1) (nf, nk) else ga j))), (M 22, .inl (cI, 4, .inl (fun j => if r s1 = nI j then fb j + zEw F (r s1) (nI s1) (nf, nk) else fb j)))] := vz_arrD hD 4 rfl
            have hQ : va_P D vwCl ([(M 0, mO M ca nn ft kn dy fd ak pl iw nm (zFi fi (zEw F (r s1) (nI s1) (nf, nk)) s1) (zCl (nf + zMw F (r s1) (nI s1) (nf, nk))) (zKw F (r s1) (nf, nk)) sd ik kc kf kk kd ko hh), (M 19, .inl (cI, 9, .inl (upd g1 s1 nf))), (M 20, .inl (cI, 8, .inl (upd g2 s1 (zHw F (r s1) (nf, nk))))), (M 21, .inl (cI, 4, .inl (fun j => if r s1 = nI j then ga j + zGw F (r s1) (nI s1) (nf, nk) else ga j))), (M 22, .inl (cI, 4, .inl (fun j => if r s1 = nI j then fb j + zEw F (r s1) (nI s1) (nf, nk) else fb j)))] ++ [(M 2, .inl (cI, 4, .inl (fun f => nI (F.1 f)))), (M 3, .inl (cI, 4, .inl F.2.1)), (M 4, .inl (cI, 4, .inl F.2.2)), (M 7, .inl (cI, 8, .inl r))]) H := va_P.app hP (hR.at hS).P
            have hP9 := hP.sub (ws' := [(M 0, mO M ca nn ft kn dy fd ak pl iw nm (zFi fi (zEw F (r s1) (nI s1) (nf, nk)) s1) (zCl (nf + zMw F (r s1) (nI s1) (nf, nk))) (zKw F (r s1) (nf, nk)) sd ik kc kf kk kd ko hh), (M 19, .inl (cI, 9, .inl (upd g1 s1 nf))), (M 20, .inl (cI, 8, .inl (upd g2 s1 (zHw F (r s1) (nf, nk))))), (M 21, .inl (cI, 4, .inl (fun j => if r s1 = nI j then ga j + zGw F (r s1) (nI s1) (nf, nk) else ga j))), (M 22, .inl (cI, 4, .inl (fun j => if r s1 = nI j then fb j + zEw F (r s1) (nI s1) (nf, nk) else fb j)))]) [0, 1, 2, 3, 4] rfl
            have hD9 := hD.sub (ws' := [(M 0, mO M ca nn ft kn dy fd ak pl iw nm (zFi fi (zEw F (r s1) (nI s1) (nf, nk)) s1) (zCl (nf + zMw F (r s1) (nI s1) (nf, nk))) (zKw F (r s1) (nf, nk)) sd ik kc kf kk kd ko hh), (M 19, .inl (cI, 9, .inl (upd g1 s1 nf))), (M 20, .inl (cI, 8, .inl (upd g2 s1 (zHw F (r s1) (nf, nk))))), (M 21, .inl (cI, 4, .inl (fun j => if r s1 = nI j then ga j + zGw F (r s1) (nI s1) (nf, nk) else ga j))), (M 22, .inl (cI, 4, .inl (fun j => if r s1 = nI j then fb j + zEw F (r s1) (nI s1) (nf, nk) else fb j)))]) [0, 1, 2, 3, 4] (by decide) rfl
            exact W.vret hx hb hr (fun t ht hW => ⟨⟨(), rfl, trivial, by rw [ht]; exact hP9, hD9⟩, hS.F ht⟩) hS.2.2 dX9_passShift_218
          · have hk3 : F.1 f = 3 := (nI_eq (by omega) (by decide)).mp c_156
            refine lv_aload_n hx hb dX9_passShift_159 rfl (lv_at hl 1 rfl) ?_
            refine va_get (D := D) (cl := vwCl) (tys := zT cI cB cF) (ci := 9) (v := .int nf) (C := RX9) (T := TX9) (N := 41) hx hb hts iw_X9_passShift_X9 hown hK.1 hQ 0 rfl rfl 24 (by decide) (hts _ hw_X9_passShift_3) (fun _ h9 => h9) rfl dX9_passShift_160 ?_
            refine lv_iconst (v := 1) hx hb dX9_passShift_163 (by decide) ?_
            refine lv_iadd hx hb dX9_passShift_164 ?_
            refine lv_goto (tgt := 174) hx hb dX9_passShift_165 (by decide) ?_
            refine vz_rd (va_runS (As := [.int (nf + 1)]) (rest := [.ref (M 0)]) FX (c_X9_atMost l D cI cB cF (nf + 1) ) (va_cwS 1 hts gX9_passShift_X9_atMost rfl rfl rfl hd_X9_atMost ⟨Nat.le_of_ble_eq_true rfl, Nat.le_of_ble_eq_true rfl⟩) (preP_S (hQ.sub (ws' := []) [] rfl) hK) rfl rfl hl.1 rfl (lv_room (Nat.le_of_ble_eq_true rfl)) dX9_passShift_174 ⟨Nat.le_of_ble_eq_true rfl, Nat.le_of_ble_eq_true rfl⟩) ?_
            refine vz_si (zCl (nf + zMw F (r s1) (nI s1) (nf, nk))) (by rw [hm, zMw_f hfb, zMo, if_neg hk2, if_pos hen, if_pos hk3]) ?_
            refine va_put (D := D) (cl := vwCl) (tys := zT cI cB cF) (ci := 9) (v := .int (zCl (nf + zMw F (r s1) (nI s1) (nf, nk)))) (ty := .int) (C := RX9) (T := TX9) (N := 41) hx hb hts iw_X9_passShift_X9 tyX9 tyX9_ok nmX9 hown hK.1 hP hD hS 0 rfl rfl 24 (by decide) (hts _ hw_X9_passShift_3) (fun _ h9 => h9) rfl (tyX9_ok 24 (by decide)) (rfl) (rfl) (Nat.le_of_ble_eq_true rfl) dX9_passShift_177 (fun H locs hP hD hS => ?_)
            have hP : va_P D vwCl [(M 0, mO M ca nn ft kn dy fd ak pl iw nm fi (zCl (nf + zMw F (r s1) (nI s1) (nf, nk))) (zKp nk (F.2.1 f)) sd ik kc kf kk kd ko hh), (M 19, .inl (cI, 9, .inl (upd g1 s1 nf))), (M 20, .inl (cI, 8, .inl (upd g2 s1 (zHv nk (F.2.1 f) nf)))), (M 21, .inl (cI, 4, .inl (upd ga f ((ga f) + (zHv nk (F.2.1 f) nf))))), (M 22, .inl (cI, 4, .inl fb))] H := hP
            have hD : va_D A [(M 0, mO M ca nn ft kn dy fd ak pl iw nm fi (zCl (nf + zMw F (r s1) (nI s1) (nf, nk))) (zKp nk (F.2.1 f)) sd ik kc kf kk kd ko hh), (M 19, .inl (cI, 9, .inl (upd g1 s1 nf))), (M 20, .inl (cI, 8, .inl (upd g2 s1 (zHv nk (F.2.1 f) nf)))), (M 21, .inl (cI, 4, .inl (upd ga f ((ga f) + (zHv nk (F.2.1 f) nf))))), (M 22, .inl (cI, 4, .inl fb))] := hD
            have hQ : va_P D vwCl ([(M 0, mO M ca nn ft kn dy fd ak pl iw nm fi (zCl (nf + zMw F (r s1) (nI s1) (nf, nk))) (zKp nk (F.2.1 f)) sd ik kc kf kk kd ko hh), (M 19, .inl (cI, 9, .inl (upd g1 s1 nf))), (M 20, .inl (cI, 8, .inl (upd g2 s1 (zHv nk (F.2.1 f) nf)))), (M 21, .inl (cI, 4, .inl (upd ga f ((ga f) + (zHv nk (F.2.1 f) nf))))), (M 22, .inl (cI, 4, .inl fb))] ++ [(M 2, .inl (cI, 4, .inl (fun f => nI (F.1 f)))), (M 3, .inl (cI, 4, .inl F.2.1)), (M 4, .inl (cI, 4, .inl F.2.2)), (M 7, .inl (cI, 8, .inl r))]) H := va_P.app hP (hR.at hS).P
            refine lv_goto (tgt := 218) hx hb dX9_passShift_180 (by decide) ?_
            have hP : va_P D vwCl [(M 0, mO M ca nn ft kn dy fd ak pl iw nm fi (zCl (nf + zMw F (r s1) (nI s1) (nf, nk))) (zKw F (r s1) (nf, nk)) sd ik kc kf kk kd ko hh), (M 19, .inl (cI, 9, .inl (upd g1 s1 nf))), (M 20, .inl (cI, 8, .inl (upd g2 s1 (zHv nk (F.2.1 f) nf)))), (M 21, .inl (cI, 4, .inl (upd ga f ((ga f) + (zHv nk (F.2.1 f) nf))))), (M 22, .inl (cI, 4, .inl fb))] H := by rw [← (show zKp nk (F.2.1 f) = zKw F (r s1) (nf, nk) from by rw [hm, zKw_f hfb])]; exact hP
            have hD : va_D A [(M 0, mO M ca nn ft kn dy fd ak pl iw nm fi (zCl (nf + zMw F (r s1) (nI s1) (nf, nk))) (zKw F (r s1) (nf, nk)) sd ik kc kf kk kd ko hh), (M 19, .inl (cI, 9, .inl (upd g1 s1 nf))), (M 20, .inl (cI, 8, .inl (upd g2 s1 (zHv nk (F.2.1 f) nf)))), (M 21, .inl (cI, 4, .inl (upd ga f ((ga f) + (zHv nk (F.2.1 f) nf))))), (M 22, .inl (cI, 4, .inl fb))] := by rw [← (show zKp nk (F.2.1 f) = zKw F (r s1) (nf, nk) from by rw [hm, zKw_f hfb])]; exact hD
            have hQ : va_P D vwCl ([(M 0, mO M ca nn ft kn dy fd ak pl iw nm fi (zCl (nf + zMw F (r s1) (nI s1) (nf, nk))) (zKw F (r s1) (nf, nk)) sd ik kc kf kk kd ko hh), (M 19, .inl (cI, 9, .inl (upd g1 s1 nf))), (M 20, .inl (cI, 8, .inl (upd g2 s1 (zHv nk (F.2.1 f) nf)))), (M 21, .inl (cI, 4, .inl (upd ga f ((ga f) + (zHv nk (F.2.1 f) nf))))), (M 22, .inl (cI, 4, .inl fb))] ++ [(M 2, .inl (cI, 4, .inl (fun f => nI (F.1 f)))), (M 3, .inl (cI, 4, .inl F.2.1)), (M 4, .inl (cI, 4, .inl F.2.2)), (M 7, .inl (cI, 8, .inl r))]) H := va_P.app hP (hR.at hS).P
            have hP : va_P D vwCl [(M 0, mO M ca nn ft kn dy fd ak pl iw nm fi (zCl (nf + zMw F (r s1) (nI s1) (nf, nk))) (zKw F (r s1) (nf, nk)) sd ik kc kf kk kd ko hh), (M 19, .inl (cI, 9, .inl (upd g1 s1 nf))), (M 20, .inl (cI, 8, .inl (upd g2 s1 (zHw F (r s1) (nf, nk))))), (M 21, .inl (cI, 4, .inl (upd ga f ((ga f) + (zHv nk (F.2.1 f) nf))))), (M 22, .inl (cI, 4, .inl fb))] H := vz_arr (g := upd g2 s1 (zHw F (r s1) (nf, nk))) hP 2 rfl (fun j _ => by rw [hm, zHw_f hfb])
            have hD : va_D A [(M 0, mO M ca nn ft kn dy fd ak pl iw nm fi (zCl (nf + zMw F (r s1) (nI s1) (nf, nk))) (zKw F (r s1) (nf, nk)) sd ik kc kf kk kd ko hh), (M 19, .inl (cI, 9, .inl (upd g1 s1 nf))), (M 20, .inl (cI, 8, .inl (upd g2 s1 (zHw F (r s1) (nf, nk))))), (M 21, .inl (cI, 4, .inl (upd ga f ((ga f) + (zHv nk (F.2.1 f) nf))))), (M 22, .inl (cI, 4, .inl fb))] := vz_arrD hD 2 rfl
            have hQ : va_P D vwCl ([(M 0, mO M ca nn ft kn dy fd ak pl iw nm fi (zCl (nf + zMw F (r s1) (nI s1) (nf, nk))) (zKw F (r s1) (nf, nk)) sd ik kc kf kk kd ko hh), (M 19, .inl (cI, 9, .inl (upd g1 s1 nf))), (M 20, .inl (cI, 8, .inl (upd g2 s1 (zHw F (r s1) (nf, nk))))), (M 21, .inl (cI, 4, .inl (upd ga f ((ga f) + (zHv nk (F.2.1 f) nf))))), (M 22, .inl (cI, 4, .inl fb))] ++ [(M 2, .inl (cI, 4, .inl (fun f => nI (F.1 f)))), (M 3, .inl (cI, 4, .inl F.2.1)), (M 4, .inl (cI, 4, .inl F.2.2)), (M 7, .inl (cI, 8, .inl r))]) H := va_P.app hP (hR.at hS).P
            have hP : va_P D vwCl [(M 0, mO M ca nn ft kn dy fd ak pl iw nm (zFi fi (zEw F (r s1) (nI s1) (nf, nk)) s1) (zCl (nf + zMw F (r s1) (nI s1) (nf, nk))) (zKw F (r s1) (nf, nk)) sd ik kc kf kk kd ko hh), (M 19, .inl (cI, 9, .inl (upd g1 s1 nf))), (M 20, .inl (cI, 8, .inl (upd g2 s1 (zHw F (r s1) (nf, nk))))), (M 21, .inl (cI, 4, .inl (upd ga f ((ga f) + (zHv nk (F.2.1 f) nf))))), (M 22, .inl (cI, 4, .inl fb))] H := by rw [← (show fi = zFi fi (zEw F (r s1) (nI s1) (nf, nk)) s1 from by rw [zFi, if_pos (by rw [hm, zEw_f hfb, zFe, if_neg hk2, if_pos hen])])]; exact hP
            have hD : va_D A [(M 0, mO M ca nn ft kn dy fd ak pl iw nm (zFi fi (zEw F (r s1) (nI s1) (nf, nk)) s1) (zCl (nf + zMw F (r s1) (nI s1) (nf, nk))) (zKw F (r s1) (nf, nk)) sd ik kc kf kk kd ko hh), (M 19, .inl (cI, 9, .inl (upd g1 s1 nf))), (M 20, .inl (cI, 8, .inl (upd g2 s1 (zHw F (r s1) (nf, nk))))), (M 21, .inl (cI, 4, .inl (upd ga f ((ga f) + (zHv nk (F.2.1 f) nf))))), (M 22, .inl (cI, 4, .inl fb))] := by rw [← (show fi = zFi fi (zEw F (r s1) (nI s1) (nf, nk)) s1 from by rw [zFi, if_pos (by rw [hm, zEw_f hfb, zFe, if_neg hk2, if_pos hen])])]; exact hD
            have hQ : va_P D vwCl ([(M 0, mO M ca nn ft kn dy fd ak pl iw nm (zFi fi (zEw F (r s1) (nI s1) (nf, nk)) s1) (zCl (nf + zMw F (r s1) (nI s1) (nf, nk))) (zKw F (r s1) (nf, nk)) sd ik kc kf kk kd ko hh), (M 19, .inl (cI, 9, .inl (upd g1 s1 nf))), (M 20, .inl (cI, 8, .inl (upd g2 s1 (zHw F (r s1) (nf, nk))))), (M 21, .inl (cI, 4, .inl (upd ga f ((ga f) + (zHv nk (F.2.1 f) nf))))), (M 22, .inl (cI, 4, .inl fb))] ++ [(M 2, .inl (cI, 4, .inl (fun f => nI (F.1 f)))), (M 3, .inl (cI, 4, .inl F.2.1)), (M 4, .inl (cI, 4, .inl F.2.2)), (M 7, .inl (cI, 8, .inl r))]) H := va_P.app hP (hR.at hS).P
            have hP : va_P D vwCl [(M 0, mO M ca nn ft kn dy fd ak pl iw nm (zFi fi (zEw F (r s1) (nI s1) (nf, nk)) s1) (zCl (nf + zMw F (r s1) (nI s1) (nf, nk))) (zKw F (r s1) (nf, nk)) sd ik kc kf kk kd ko hh), (M 19, .inl (cI, 9, .inl (upd g1 s1 nf))), (M 20, .inl (cI, 8, .inl (upd g2 s1 (zHw F (r s1) (nf, nk))))), (M 21, .inl (cI, 4, .inl (fun j => if r s1 = nI j then ga j + zGw F (r s1) (nI s1) (nf, nk) else ga j))), (M 22, .inl (cI, 4, .inl fb))] H := vz_arr (g := fun j => if r s1 = nI j then ga j + zGw F (r s1) (nI s1) (nf, nk) else ga j) hP 3 rfl (fun j hj => z_uf hm (by omega) (by rw [hm, zGw_f hfb, zGn, if_neg hk2, if_pos hen]) hj)
            have hD : va_D A [(M 0, mO M ca nn ft kn dy fd ak pl iw nm (zFi fi (zEw F (r s1) (nI s1) (nf, nk)) s1) (zCl (nf + zMw F (r s1) (nI s1) (nf, nk))) (zKw F (r s1) (nf, nk)) sd ik kc kf kk kd ko hh), (M 19, .inl (cI, 9, .inl (upd g1 s1 nf))), (M 20, .inl (cI, 8, .inl (upd g2 s1 (zHw F (r s1) (nf, nk))))), (M 21, .inl (cI, 4, .inl (fun j => if r s1 = nI j then ga j + zGw F (r s1) (nI s1) (nf, nk) else ga j))), (M 22, .inl (cI, 4, .inl fb))] := vz_arrD hD 3 rfl
            have hQ : va_P D vwCl ([(M 0, mO M ca nn ft kn dy fd ak pl iw nm (zFi fi (zEw F (r s1) (nI s1) (nf, nk)) s1) (zCl (nf + zMw F (r s1) (nI s1) (nf, nk))) (zKw F (r s1) (nf, nk)) sd ik kc kf kk kd ko hh), (M 19, .inl (cI, 9, .inl (upd g1 s1 nf))), (M 20, .inl (cI, 8, .inl (upd g2 s1 (zHw F (r s1) (nf, nk))))), (M 21, .inl (cI, 4, .inl (fun j => if r s1 = nI j then ga j + zGw F (r s1) (nI s1) (nf, nk) else ga j))), (M 22, .inl (cI, 4, .inl fb))] ++ [(M 2, .inl (cI, 4, .inl (fun f => nI (F.1 f)))), (M 3, .inl (cI, 4, .inl F.2.1)), (M 4, .inl (cI, 4, .inl F.2.2)), (M 7, .inl (cI, 8, .inl r))]) H := va_P.app hP (hR.at hS).P
            have hP : va_P D vwCl [(M 0, mO M ca nn ft kn dy fd ak pl iw nm (zFi fi (zEw F (r s1) (nI s1) (nf, nk)) s1) (zCl (nf + zMw F (r s1) (nI s1) (nf, nk))) (zKw F (r s1) (nf, nk)) sd ik kc kf kk kd ko hh), (M 19, .inl (cI, 9, .inl (upd g1 s1 nf))), (M 20, .inl (cI, 8, .inl (upd g2 s1 (zHw F (r s1) (nf, nk))))), (M 21, .inl (cI, 4, .inl (fun j => if r s1 = nI j then ga j + zGw F (r s1) (nI s1) (nf, nk) else ga j))), (M 22, .inl (cI, 4, .inl (fun j => if r s1 = nI j then fb j + zEw F (r s1) (nI s1) (nf, nk) else fb j)))] H := vz_arr (g := fun j => if r s1 = nI j then fb j + zEw F (r s1) (nI s1) (nf, nk) else fb j) hP 4 rfl (fun j hj => z_u0 (by rw [hm, zEw_f hfb, zFe, if_neg hk2, if_pos hen]))
            have hD : va_D A [(M 0, mO M ca nn ft kn dy fd ak pl iw nm (zFi fi (zEw F (r s1) (nI s1) (nf, nk)) s1) (zCl (nf + zMw F (r s1) (nI s1) (nf, nk))) (zKw F (r s1) (nf, nk)) sd ik kc kf kk kd ko hh), (M 19, .inl (cI, 9, .inl (upd g1 s1 nf))), (M 20, .inl (cI, 8, .inl (upd g2 s1 (zHw F (r s1) (nf, nk))))), (M 21, .inl (cI, 4, .inl (fun j => if r s1 = nI j then ga j + zGw F (r s1) (nI s1) (nf, nk) else ga j))), (M 22, .inl (cI, 4, .inl (fun j => if r s1 = nI j then fb j + zEw F (r s1) (nI s1) (nf, nk) else fb j)))] := vz_arrD hD 4 rfl
            have hQ : va_P D vwCl ([(M 0, mO M ca nn ft kn dy fd ak pl iw nm (zFi fi (zEw F (r s1) (nI s1) (nf, nk)) s1) (zCl (nf + zMw F (r s1) (nI s1) (nf, nk))) (zKw F (r s1) (nf, nk)) sd ik kc kf kk kd ko hh), (M 19, .inl (cI, 9, .inl (upd g1 s1 nf))), (M 20, .inl (cI, 8, .inl (upd g2 s1 (zHw F (r s1) (nf, nk))))), (M 21, .inl (cI, 4, .inl (fun j => if r s1 = nI j then ga j + zGw F (r s1) (nI s1) (nf, nk) else ga j))), (M 22, .inl (cI, 4, .inl (fun j => if r s1 = nI j then fb j + zEw F (r s1) (nI s1) (nf, nk) else fb j)))] ++ [(M 2, .inl (cI, 4, .inl (fun f => nI (F.1 f)))), (M 3, .inl (cI, 4, .inl F.2.1)), (M 4, .inl (cI, 4, .inl F.2.2)), (M 7, .inl (cI, 8, .inl r))]) H := va_P.app hP (hR.at hS).P
            have hP9 := hP.sub (ws' := [(M 0, mO M ca nn ft kn dy fd ak pl iw nm (zFi fi (zEw F (r s1) (nI s1) (nf, nk)) s1) (zCl (nf + zMw F (r s1) (nI s1) (nf, nk))) (zKw F (r s1) (nf, nk)) sd ik kc kf kk kd ko hh), (M 19, .inl (cI, 9, .inl (upd g1 s1 nf))), (M 20, .inl (cI, 8, .inl (upd g2 s1 (zHw F (r s1) (nf, nk))))), (M 21, .inl (cI, 4, .inl (fun j => if r s1 = nI j then ga j + zGw F (r s1) (nI s1) (nf, nk) else ga j))), (M 22, .inl (cI, 4, .inl (fun j => if r s1 = nI j then fb j + zEw F (r s1) (nI s1) (nf, nk) else fb j)))]) [0, 1, 2, 3, 4] rfl
            have hD9 := hD.sub (ws' := [(M 0, mO M ca nn ft kn dy fd ak pl iw nm (zFi fi (zEw F (r s1) (nI s1) (nf, nk)) s1) (zCl (nf + zMw F (r s1) (nI s1) (nf, nk))) (zKw F (r s1) (nf, nk)) sd ik kc kf kk kd ko hh), (M 19, .inl (cI, 9, .inl (upd g1 s1 nf))), (M 20, .inl (cI, 8, .inl (upd g2 s1 (zHw F (r s1) (nf, nk))))), (M 21, .inl (cI, 4, .inl (fun j => if r s1 = nI j then ga j + zGw F (r s1) (nI s1) (nf, nk) else ga j))), (M 22, .inl (cI, 4, .inl (fun j => if r s1 = nI j then fb j + zEw F (r s1) (nI s1) (nf, nk) else fb j)))]) [0, 1, 2, 3, 4] (by decide) rfl
            exact W.vret hx hb hr (fun t ht hW => ⟨⟨(), rfl, trivial, by rw [ht]; exact hP9, hD9⟩, hS.F ht⟩) hS.2.2 dX9_passShift_218
      · have hk2 : F.1 f = 2 := (nI_eq (by omega) (by decide)).mp c_99
        refine lv_aload_n hx hb dX9_passShift_102 rfl (lv_at hl 1 rfl) ?_
        refine lv_aload_n hx hb dX9_passShift_103 rfl (lv_at hl 1 rfl) ?_
        refine va_get (D := D) (cl := vwCl) (tys := zT cI cB cF) (ci := 9) (v := .int nf) (C := RX9) (T := TX9) (N := 41) hx hb hts iw_X9_passShift_X9 hown hK.1 hQ 0 rfl rfl 24 (by decide) (hts _ hw_X9_passShift_3) (fun _ h9 => h9) rfl dX9_passShift_104 ?_
        refine lv_iconst (v := 2) hx hb dX9_passShift_107 (by decide) ?_
        refine lv_iadd hx hb dX9_passShift_108 ?_
        refine vz_rd (va_runS (As := [.int (nf + 2)]) (rest := [.ref (M 0)]) FX (c_X9_atMost l D cI cB cF (nf + 2) ) (va_cwS 1 hts gX9_passShift_X9_atMost rfl rfl rfl hd_X9_atMost ⟨Nat.le_of_ble_eq_true rfl, Nat.le_of_ble_eq_true rfl⟩) (preP_S (hQ.sub (ws' := []) [] rfl) hK) rfl rfl hl.1 rfl (lv_room (Nat.le_of_ble_eq_true rfl)) dX9_passShift_109 ⟨Nat.le_of_ble_eq_true rfl, Nat.le_of_ble_eq_true rfl⟩) ?_
        refine vz_si (zCl (nf + zMw F (r s1) (nI s1) (nf, nk))) (by rw [hm, zMw_f hfb, zMo, if_pos hk2]) ?_
        refine va_put (D := D) (cl := vwCl) (tys := zT cI cB cF) (ci := 9) (v := .int (zCl (nf + zMw F (r s1) (nI s1) (nf, nk)))) (ty := .int) (C := RX9) (T := TX9) (N := 41) hx hb hts iw_X9_passShift_X9 tyX9 tyX9_ok nmX9 hown hK.1 hP hD hS 0 rfl rfl 24 (by decide) (hts _ hw_X9_passShift_3) (fun _ h9 => h9) rfl (tyX9_ok 24 (by decide)) (rfl) (rfl) (Nat.le_of_ble_eq_true rfl) dX9_passShift_112 (fun H locs hP hD hS => ?_)
        have hP : va_P D vwCl [(M 0, mO M ca nn ft kn dy fd ak pl iw nm fi (zCl (nf + zMw F (r s1) (nI s1) (nf, nk))) (zKp nk (F.2.1 f)) sd ik kc kf kk kd ko hh), (M 19, .inl (cI, 9, .inl (upd g1 s1 nf))), (M 20, .inl (cI, 8, .inl (upd g2 s1 (zHv nk (F.2.1 f) nf)))), (M 21, .inl (cI, 4, .inl ga)), (M 22, .inl (cI, 4, .inl fb))] H := hP
        have hD : va_D A [(M 0, mO M ca nn ft kn dy fd ak pl iw nm fi (zCl (nf + zMw F (r s1) (nI s1) (nf, nk))) (zKp nk (F.2.1 f)) sd ik kc kf kk kd ko hh), (M 19, .inl (cI, 9, .inl (upd g1 s1 nf))), (M 20, .inl (cI, 8, .inl (upd g2 s1 (zHv nk (F.2.1 f) nf)))), (M 21, .inl (cI, 4, .inl ga)), (M 22, .inl (cI, 4, .inl fb))] := hD
        have hQ : va_P D vwCl ([(M 0, mO M ca nn ft kn dy fd ak pl iw nm fi (zCl (nf + zMw F (r s1) (nI s1) (nf, nk))) (zKp nk (F.2.1 f)) sd ik kc kf kk kd ko hh), (M 19, .inl (cI, 9, .inl (upd g1 s1 nf))), (M 20, .inl (cI, 8, .inl (upd g2 s1 (zHv nk (F.2.1 f) nf)))), (M 21, .inl (cI, 4, .inl ga)), (M 22, .inl (cI, 4, .inl fb))] ++ [(M 2, .inl (cI, 4, .inl (fun f => nI (F.1 f)))), (M 3, .inl (cI, 4, .inl F.2.1)), (M 4, .inl (cI, 4, .inl F.2.2)), (M 7, .inl (cI, 8, .inl r))]) H := va_P.app hP (hR.at hS).P
        refine lv_goto (tgt := 218) hx hb dX9_passShift_115 (by decide) ?_
        have hP : va_P D vwCl [(M 0, mO M ca nn ft kn dy fd ak pl iw nm fi (zCl (nf + zMw F (r s1) (nI s1) (nf, nk))) (zKw F (r s1) (nf, nk)) sd ik kc kf kk kd ko hh), (M 19, .inl (cI, 9, .inl (upd g1 s1 nf))), (M 20, .inl (cI, 8, .inl (upd g2 s1 (zHv nk (F.2.1 f) nf)))), (M 21, .inl (cI, 4, .inl ga)), (M 22, .inl (cI, 4, .inl fb))] H := by rw [← (show zKp nk (F.2.1 f) = zKw F (r s1) (nf, nk) from by rw [hm, zKw_f hfb])]; exact hP
        have hD : va_D A [(M 0, mO M ca nn ft kn dy fd ak pl iw nm fi (zCl (nf + zMw F (r s1) (nI s1) (nf, nk))) (zKw F (r s1) (nf, nk)) sd ik kc kf kk kd ko hh), (M 19, .inl (cI, 9, .inl (upd g1 s1 nf))), (M 20, .inl (cI, 8, .inl (upd g2 s1 (zHv nk (F.2.1 f) nf)))), (M 21, .inl (cI, 4, .inl ga)), (M 22, .inl (cI, 4, .inl fb))] := by rw [← (show zKp nk (F.2.1 f) = zKw F (r s1) (nf, nk) from by rw [hm, zKw_f hfb])]; exact hD
        have hQ : va_P D vwCl ([(M 0, mO M ca nn ft kn dy fd ak pl iw nm fi (zCl (nf + zMw F (r s1) (nI s1) (nf, nk))) (zKw F (r s1) (nf, nk)) sd ik kc kf kk kd ko hh), (M 19, .inl (cI, 9, .inl (upd g1 s1 nf))), (M 20, .inl (cI, 8, .inl (upd g2 s1 (zHv nk (F.2.1 f) nf)))), (M 21, .inl (cI, 4, .inl ga)), (M 22, .inl (cI, 4, .inl fb))] ++ [(M 2, .inl (cI, 4, .inl (fun f => nI (F.1 f)))), (M 3, .inl (cI, 4, .inl F.2.1)), (M 4, .inl (cI, 4, .inl F.2.2)), (M 7, .inl (cI, 8, .inl r))]) H := va_P.app hP (hR.at hS).P
        have hP : va_P D vwCl [(M 0, mO M ca nn ft kn dy fd ak pl iw nm fi (zCl (nf + zMw F (r s1) (nI s1) (nf, nk))) (zKw F (r s1) (nf, nk)) sd ik kc kf kk kd ko hh), (M 19, .inl (cI, 9, .inl (upd g1 s1 nf))), (M 20, .inl (cI, 8, .inl (upd g2 s1 (zHw F (r s1) (nf, nk))))), (M 21, .inl (cI, 4, .inl ga)), (M 22, .inl (cI, 4, .inl fb))] H := vz_arr (g := upd g2 s1 (zHw F (r s1) (nf, nk))) hP 2 rfl (fun j _ => by rw [hm, zHw_f hfb])
        have hD : va_D A [(M 0, mO M ca nn ft kn dy fd ak pl iw nm fi (zCl (nf + zMw F (r s1) (nI s1) (nf, nk))) (zKw F (r s1) (nf, nk)) sd ik kc kf kk kd ko hh), (M 19, .inl (cI, 9, .inl (upd g1 s1 nf))), (M 20, .inl (cI, 8, .inl (upd g2 s1 (zHw F (r s1) (nf, nk))))), (M 21, .inl (cI, 4, .inl ga)), (M 22, .inl (cI, 4, .inl fb))] := vz_arrD hD 2 rfl
        have hQ : va_P D vwCl ([(M 0, mO M ca nn ft kn dy fd ak pl iw nm fi (zCl (nf + zMw F (r s1) (nI s1) (nf, nk))) (zKw F (r s1) (nf, nk)) sd ik kc kf kk kd ko hh), (M 19, .inl (cI, 9, .inl (upd g1 s1 nf))), (M 20, .inl (cI, 8, .inl (upd g2 s1 (zHw F (r s1) (nf, nk))))), (M 21, .inl (cI, 4, .inl ga)), (M 22, .inl (cI, 4, .inl fb))] ++ [(M 2, .inl (cI, 4, .inl (fun f => nI (F.1 f)))), (M 3, .inl (cI, 4, .inl F.2.1)), (M 4, .inl (cI, 4, .inl F.2.2)), (M 7, .inl (cI, 8, .inl r))]) H := va_P.app hP (hR.at hS).P
        have hP : va_P D vwCl [(M 0, mO M ca nn ft kn dy fd ak pl iw nm (zFi fi (zEw F (r s1) (nI s1) (nf, nk)) s1) (zCl (nf + zMw F (r s1) (nI s1) (nf, nk))) (zKw F (r s1) (nf, nk)) sd ik kc kf kk kd ko hh), (M 19, .inl (cI, 9, .inl (upd g1 s1 nf))), (M 20, .inl (cI, 8, .inl (upd g2 s1 (zHw F (r s1) (nf, nk))))), (M 21, .inl (cI, 4, .inl ga)), (M 22, .inl (cI, 4, .inl fb))] H := by rw [← (show fi = zFi fi (zEw F (r s1) (nI s1) (nf, nk)) s1 from by rw [zFi, if_pos (by rw [hm, zEw_f hfb, zFe, if_pos hk2])])]; exact hP
        have hD : va_D A [(M 0, mO M ca nn ft kn dy fd ak pl iw nm (zFi fi (zEw F (r s1) (nI s1) (nf, nk)) s1) (zCl (nf + zMw F (r s1) (nI s1) (nf, nk))) (zKw F (r s1) (nf, nk)) sd ik kc kf kk kd ko hh), (M 19, .inl (cI, 9, .inl (upd g1 s1 nf))), (M 20, .inl (cI, 8, .inl (upd g2 s1 (zHw F (r s1) (nf, nk))))), (M 21, .inl (cI, 4, .inl ga)), (M 22, .inl (cI, 4, .inl fb))] := by rw [← (show fi = zFi fi (zEw F (r s1) (nI s1) (nf, nk)) s1 from by rw [zFi, if_pos (by rw [hm, zEw_f hfb, zFe, if_pos hk2])])]; exact hD
        have hQ : va_P D vwCl ([(M 0, mO M ca nn ft kn dy fd ak pl iw nm (zFi fi (zEw F (r s1) (nI s1) (nf, nk)) s1) (zCl (nf + zMw F (r s1) (nI s1) (nf, nk))) (zKw F (r s1) (nf, nk)) sd ik kc kf kk kd ko hh), (M 19, .inl (cI, 9, .inl (upd g1 s1 nf))), (M 20, .inl (cI, 8, .inl (upd g2 s1 (zHw F (r s1) (nf, nk))))), (M 21, .inl (cI, 4, .inl ga)), (M 22, .inl (cI, 4, .inl fb))] ++ [(M 2, .inl (cI, 4, .inl (fun f => nI (F.1 f)))), (M 3, .inl (cI, 4, .inl F.2.1)), (M 4, .inl (cI, 4, .inl F.2.2)), (M 7, .inl (cI, 8, .inl r))]) H := va_P.app hP (hR.at hS).P
        have hP : va_P D vwCl [(M 0, mO M ca nn ft kn dy fd ak pl iw nm (zFi fi (zEw F (r s1) (nI s1) (nf, nk)) s1) (zCl (nf + zMw F (r s1) (nI s1) (nf, nk))) (zKw F (r s1) (nf, nk)) sd ik kc kf kk kd ko hh), (M 19, .inl (cI, 9, .inl (upd g1 s1 nf))), (M 20, .inl (cI, 8, .inl (upd g2 s1 (zHw F (r s1) (nf, nk))))), (M 21, .inl (cI, 4, .inl (fun j => if r s1 = nI j then ga j + zGw F (r s1) (nI s1) (nf, nk) else ga j))), (M 22, .inl (cI, 4, .inl fb))] H := vz_arr (g := fun j => if r s1 = nI j then ga j + zGw F (r s1) (nI s1) (nf, nk) else ga j) hP 3 rfl (fun j hj => z_u0 (by rw [hm, zGw_f hfb, zGn, if_pos hk2]))
        have hD : va_D A [(M 0, mO M ca nn ft kn dy fd ak pl iw nm (zFi fi (zEw F (r s1) (nI s1) (nf, nk)) s1) (zCl (nf + zMw F (r s1) (nI s1) (nf, nk))) (zKw F (r s1) (nf, nk)) sd ik kc kf kk kd ko hh), (M 19, .inl (cI, 9, .inl (upd g1 s1 nf))), (M 20, .inl (cI, 8, .inl (upd g2 s1 (zHw F (r s1) (nf, nk))))), (M 21, .inl (cI, 4, .inl (fun j => if r s1 = nI j then ga j + zGw F (r s1) (nI s1) (nf, nk) else ga j))), (M 22, .inl (cI, 4, .inl fb))] := vz_arrD hD 3 rfl
        have hQ : va_P D vwCl ([(M 0, mO M ca nn ft kn dy fd ak pl iw nm (zFi fi (zEw F (r s1) (nI s1) (nf, nk)) s1) (zCl (nf + zMw F (r s1) (nI s1) (nf, nk))) (zKw F (r s1) (nf, nk)) sd ik kc kf kk kd ko hh), (M 19, .inl (cI, 9, .inl (upd g1 s1 nf))), (M 20, .inl (cI, 8, .inl (upd g2 s1 (zHw F (r s1) (nf, nk))))), (M 21, .inl (cI, 4, .inl (fun j => if r s1 = nI j then ga j + zGw F (r s1) (nI s1) (nf, nk) else ga j))), (M 22, .inl (cI, 4, .inl fb))] ++ [(M 2, .inl (cI, 4, .inl (fun f => nI (F.1 f)))), (M 3, .inl (cI, 4, .inl F.2.1)), (M 4, .inl (cI, 4, .inl F.2.2)), (M 7, .inl (cI, 8, .inl r))]) H := va_P.app hP (hR.at hS).P
        have hP : va_P D vwCl [(M 0, mO M ca nn ft kn dy fd ak pl iw nm (zFi fi (zEw F (r s1) (nI s1) (nf, nk)) s1) (zCl (nf + zMw F (r s1) (nI s1) (nf, nk))) (zKw F (r s1) (nf, nk)) sd ik kc kf kk kd ko hh), (M 19, .inl (cI, 9, .inl (upd g1 s1 nf))), (M 20, .inl (cI, 8, .inl (upd g2 s1 (zHw F (r s1) (nf, nk))))), (M 21, .inl (cI, 4, .inl (fun j => if r s1 = nI j then ga j + zGw F (r s1) (nI s1) (nf, nk) else ga j))), (M 22, .inl (cI, 4, .inl (fun j => if r s1 = nI j then fb j + zEw F (r s1) (nI s1) (nf, nk) else fb j)))] H := vz_arr (g := fun j => if r s1 = nI j then fb j + zEw F (r s1) (nI s1) (nf, nk) else fb j) hP 4 rfl (fun j hj => z_u0 (by rw [hm, zEw_f hfb, zFe, if_pos hk2]))
        have hD : va_D A [(M 0, mO M ca nn ft kn dy fd ak pl iw nm (zFi fi (zEw F (r s1) (nI s1) (nf, nk)) s1) (zCl (nf + zMw F (r s1) (nI s1) (nf, nk))) (zKw F (r s1) (nf, nk)) sd ik kc kf kk kd ko hh), (M 19, .inl (cI, 9, .inl (upd g1 s1 nf))), (M 20, .inl (cI, 8, .inl (upd g2 s1 (zHw F (r s1) (nf, nk))))), (M 21, .inl (cI, 4, .inl (fun j => if r s1 = nI j then ga j + zGw F (r s1) (nI s1) (nf, nk) else ga j))), (M 22, .inl (cI, 4, .inl (fun j => if r s1 = nI j then fb j + zEw F (r s1) (nI s1) (nf, nk) else fb j)))] := vz_arrD hD 4 rfl
        have hQ : va_P D vwCl ([(M 0, mO M ca nn ft kn dy fd ak pl iw nm (zFi fi (zEw F (r s1) (nI s1) (nf, nk)) s1) (zCl (nf + zMw F (r s1) (nI s1) (nf, nk))) (zKw F (r s1) (nf, nk)) sd ik kc kf kk kd ko hh), (M 19, .inl (cI, 9, .inl (upd g1 s1 nf))), (M 20, .inl (cI, 8, .inl (upd g2 s1 (zHw F (r s1) (nf, nk))))), (M 21, .inl (cI, 4, .inl (fun j => if r s1 = nI j then ga j + zGw F (r s1) (nI s1) (nf, nk) else ga j))), (M 22, .inl (cI, 4, .inl (fun j => if r s1 = nI j then fb j + zEw F (r s1) (nI s1) (nf, nk) else fb j)))] ++ [(M 2, .inl (cI, 4, .inl (fun f => nI (F.1 f)))), (M 3, .inl (cI, 4, .inl F.2.1)), (M 4, .inl (cI, 4, .inl F.2.2)), (M 7, .inl (cI, 8, .inl r))]) H := va_P.app hP (hR.at hS).P
        have hP9 := hP.sub (ws' := [(M 0, mO M ca nn ft kn dy fd ak pl iw nm (zFi fi (zEw F (r s1) (nI s1) (nf, nk)) s1) (zCl (nf + zMw F (r s1) (nI s1) (nf, nk))) (zKw F (r s1) (nf, nk)) sd ik kc kf kk kd ko hh), (M 19, .inl (cI, 9, .inl (upd g1 s1 nf))), (M 20, .inl (cI, 8, .inl (upd g2 s1 (zHw F (r s1) (nf, nk))))), (M 21, .inl (cI, 4, .inl (fun j => if r s1 = nI j then ga j + zGw F (r s1) (nI s1) (nf, nk) else ga j))), (M 22, .inl (cI, 4, .inl (fun j => if r s1 = nI j then fb j + zEw F (r s1) (nI s1) (nf, nk) else fb j)))]) [0, 1, 2, 3, 4] rfl
        have hD9 := hD.sub (ws' := [(M 0, mO M ca nn ft kn dy fd ak pl iw nm (zFi fi (zEw F (r s1) (nI s1) (nf, nk)) s1) (zCl (nf + zMw F (r s1) (nI s1) (nf, nk))) (zKw F (r s1) (nf, nk)) sd ik kc kf kk kd ko hh), (M 19, .inl (cI, 9, .inl (upd g1 s1 nf))), (M 20, .inl (cI, 8, .inl (upd g2 s1 (zHw F (r s1) (nf, nk))))), (M 21, .inl (cI, 4, .inl (fun j => if r s1 = nI j then ga j + zGw F (r s1) (nI s1) (nf, nk) else ga j))), (M 22, .inl (cI, 4, .inl (fun j => if r s1 = nI j then fb j + zEw F (r s1) (nI s1) (nf, nk) else fb j)))]) [0, 1, 2, 3, 4] (by decide) rfl
        exact W.vret hx hb hr (fun t ht hW => ⟨⟨(), rfl, trivial, by rw [ht]; exact hP9, hD9⟩, hS.F ht⟩) hS.2.2 dX9_passShift_218
    · have b_65 : (zIi nk (F.2.1 f)) = true := zb_t c_65
      refine lv_iconst (v := 2) hx hb dX9_passShift_68 (by decide) ?_
      refine lv_goto (tgt := 73) hx hb dX9_passShift_69 (by decide) ?_
      have hin : zIi nk (F.2.1 f) = zKn nk (F.2.1 f) := zIk hkn hfl
      refine lv_iadd hx hb dX9_passShift_73 ?_
      refine vz_si (zHv nk (F.2.1 f) nf) (by unfold zHv; rw [← zIk hkn hfl, if_pos b_65]) ?_
      refine va_iast (D := D) (cl := vwCl) (tys := zT cI cB cF) (f := (upd g2 s1 0)) hx hb hK.1 hP hD hS 2 0 rfl rfl (vp_in_nI (by omega) (by omega)) dX9_passShift_74 (fun H locs hP hD hS => ?_)
      rw [nI_clamp (n := s1) (by omega)] at hP hD
      have hP : va_P D vwCl [(M 0, mO M ca nn ft kn dy fd ak pl iw nm fi nf nk sd ik kc kf kk kd ko hh), (M 19, .inl (cI, 9, .inl (upd g1 s1 nf))), (M 20, .inl (cI, 8, .inl (upd (upd g2 s1 0) s1 (zHv nk (F.2.1 f) nf)))), (M 21, .inl (cI, 4, .inl ga)), (M 22, .inl (cI, 4, .inl fb))] H := hP
      have hD : va_D A [(M 0, mO M ca nn ft kn dy fd ak pl iw nm fi nf nk sd ik kc kf kk kd ko hh), (M 19, .inl (cI, 9, .inl (upd g1 s1 nf))), (M 20, .inl (cI, 8, .inl (upd (upd g2 s1 0) s1 (zHv nk (F.2.1 f) nf)))), (M 21, .inl (cI, 4, .inl ga)), (M 22, .inl (cI, 4, .inl fb))] := hD
      have hQ : va_P D vwCl ([(M 0, mO M ca nn ft kn dy fd ak pl iw nm fi nf nk sd ik kc kf kk kd ko hh), (M 19, .inl (cI, 9, .inl (upd g1 s1 nf))), (M 20, .inl (cI, 8, .inl (upd (upd g2 s1 0) s1 (zHv nk (F.2.1 f) nf)))), (M 21, .inl (cI, 4, .inl ga)), (M 22, .inl (cI, 4, .inl fb))] ++ [(M 2, .inl (cI, 4, .inl (fun f => nI (F.1 f)))), (M 3, .inl (cI, 4, .inl F.2.1)), (M 4, .inl (cI, 4, .inl F.2.2)), (M 7, .inl (cI, 8, .inl r))]) H := va_P.app hP (hR.at hS).P
      have hP : va_P D vwCl [(M 0, mO M ca nn ft kn dy fd ak pl iw nm fi nf nk sd ik kc kf kk kd ko hh), (M 19, .inl (cI, 9, .inl (upd g1 s1 nf))), (M 20, .inl (cI, 8, .inl (upd g2 s1 (zHv nk (F.2.1 f) nf)))), (M 21, .inl (cI, 4, .inl ga)), (M 22, .inl (cI, 4, .inl fb))] H := vz_arr (g := upd g2 s1 (zHv nk (F.2.1 f) nf)) hP 2 rfl (fun j _ => by by_cases h : j = s1 <;> simp [upd, h])
      have hD : va_D A [(M 0, mO M ca nn ft kn dy fd ak pl iw nm fi nf nk sd ik kc kf kk kd ko hh), (M 19, .inl (cI, 9, .inl (upd g1 s1 nf))), (M 20, .inl (cI, 8, .inl (upd g2 s1 (zHv nk (F.2.1 f) nf)))), (M 21, .inl (cI, 4, .inl ga)), (M 22, .inl (cI, 4, .inl fb))] := vz_arrD hD 2 rfl
      have hQ : va_P D vwCl ([(M 0, mO M ca nn ft kn dy fd ak pl iw nm fi nf nk sd ik kc kf kk kd ko hh), (M 19, .inl (cI, 9, .inl (upd g1 s1 nf))), (M 20, .inl (cI, 8, .inl (upd g2 s1 (zHv nk (F.2.1 f) nf)))), (M 21, .inl (cI, 4, .inl ga)), (M 22, .inl (cI, 4, .inl fb))] ++ [(M 2, .inl (cI, 4, .inl (fun f => nI (F.1 f)))), (M 3, .inl (cI, 4, .inl F.2.1)), (M 4, .inl (cI, 4, .inl F.2.2)), (M 7, .inl (cI, 8, .inl r))]) H := va_P.app hP (hR.at hS).P
      refine lv_aload_n hx hb dX9_passShift_75 rfl (lv_at hl 1 rfl) ?_
      refine lv_dup hx hb dX9_passShift_76 rfl ?_
      refine va_get (D := D) (cl := vwCl) (tys := zT cI cB cF) (ci := 9) (v := .int nk) (C := RX9) (T := TX9) (N := 41) hx hb hts iw_X9_passShift_X9 hown hK.1 hQ 0 rfl rfl 25 (by decide) (hts _ hw_X9_passShift_5) (fun _ h9 => h9) rfl dX9_passShift_77 ?_
      refine lv_iconst (v := 1) hx hb dX9_passShift_80 (by decide) ?_
      refine lv_aload_n hx hb dX9_passShift_81 rfl (lv_at hl 1 rfl) ?_
      refine va_get (D := D) (cl := vwCl) (tys := zT cI cB cF) (ci := 9) (v := .ref (M 3)) (C := RX9) (T := TX9) (N := 41) hx hb hts iw_X9_passShift_X9 hown hK.1 hQ 0 rfl rfl 3 (by decide) (hts _ hw_X9_passShift_6) (fun _ h9 => h9) rfl dX9_passShift_82 ?_
      refine lv_iload_n hx hb dX9_passShift_85 rfl (lv_at hl 0 rfl) ?_
      refine va_iald (D := D) (cl := vwCl) (tys := zT cI cB cF) (f := F.2.1) hx hb hK.1 hQ 6 0 rfl rfl (vp_in_nI (by omega) (by omega)) dX9_passShift_86 ?_
      refine vz_si (F.2.1 f) (by rw [nI_clamp (n := f) (by omega)]) ?_
      refine lv_ishl hx hb dX9_passShift_87 ?_
      refine lv_ior hx hb dX9_passShift_88 ?_
      refine vz_si (zKp nk (F.2.1 f)) (rfl) ?_
      refine va_put (D := D) (cl := vwCl) (tys := zT cI cB cF) (ci := 9) (v := .int (zKp nk (F.2.1 f))) (ty := .int) (C := RX9) (T := TX9) (N := 41) hx hb hts iw_X9_passShift_X9 tyX9 tyX9_ok nmX9 hown hK.1 hP hD hS 0 rfl rfl 25 (by decide) (hts _ hw_X9_passShift_5) (fun _ h9 => h9) rfl (tyX9_ok 25 (by decide)) (rfl) (rfl) (Nat.le_of_ble_eq_true rfl) dX9_passShift_89 (fun H locs hP hD hS => ?_)
      have hP : va_P D vwCl [(M 0, mO M ca nn ft kn dy fd ak pl iw nm fi nf (zKp nk (F.2.1 f)) sd ik kc kf kk kd ko hh), (M 19, .inl (cI, 9, .inl (upd g1 s1 nf))), (M 20, .inl (cI, 8, .inl (upd g2 s1 (zHv nk (F.2.1 f) nf)))), (M 21, .inl (cI, 4, .inl ga)), (M 22, .inl (cI, 4, .inl fb))] H := hP
      have hD : va_D A [(M 0, mO M ca nn ft kn dy fd ak pl iw nm fi nf (zKp nk (F.2.1 f)) sd ik kc kf kk kd ko hh), (M 19, .inl (cI, 9, .inl (upd g1 s1 nf))), (M 20, .inl (cI, 8, .inl (upd g2 s1 (zHv nk (F.2.1 f) nf)))), (M 21, .inl (cI, 4, .inl ga)), (M 22, .inl (cI, 4, .inl fb))] := hD
      have hQ : va_P D vwCl ([(M 0, mO M ca nn ft kn dy fd ak pl iw nm fi nf (zKp nk (F.2.1 f)) sd ik kc kf kk kd ko hh), (M 19, .inl (cI, 9, .inl (upd g1 s1 nf))), (M 20, .inl (cI, 8, .inl (upd g2 s1 (zHv nk (F.2.1 f) nf)))), (M 21, .inl (cI, 4, .inl ga)), (M 22, .inl (cI, 4, .inl fb))] ++ [(M 2, .inl (cI, 4, .inl (fun f => nI (F.1 f)))), (M 3, .inl (cI, 4, .inl F.2.1)), (M 4, .inl (cI, 4, .inl F.2.2)), (M 7, .inl (cI, 8, .inl r))]) H := va_P.app hP (hR.at hS).P
      refine lv_aload_n hx hb dX9_passShift_92 rfl (lv_at hl 1 rfl) ?_
      refine va_get (D := D) (cl := vwCl) (tys := zT cI cB cF) (ci := 9) (v := .ref (M 2)) (C := RX9) (T := TX9) (N := 41) hx hb hts iw_X9_passShift_X9 hown hK.1 hQ 0 rfl rfl 2 (by decide) (hts _ hw_X9_passShift_7) (fun _ h9 => h9) rfl dX9_passShift_93 ?_
      refine lv_iload_n hx hb dX9_passShift_96 rfl (lv_at hl 0 rfl) ?_
      refine va_iald (D := D) (cl := vwCl) (tys := zT cI cB cF) (f := (fun f => nI (F.1 f))) hx hb hK.1 hQ 5 0 rfl rfl (vp_in_nI (by omega) (by omega)) dX9_passShift_97 ?_
      refine vz_si (nI (F.1 f)) (by rw [nI_clamp (n := f) (by omega)]) ?_
      refine lv_iconst (v := 2) hx hb dX9_passShift_98 (by decide) ?_
      refine lv_icmp_ne (tgt := 118) hx hb dX9_passShift_99 (by decide) (fun c_99 => ?_) (fun c_99 => ?_)
      · have hk2 : ¬ F.1 f = 2 := fun q => c_99 (by rw [q]; rfl)
        refine lv_aload_n hx hb dX9_passShift_118 rfl (lv_at hl 1 rfl) ?_
        refine lv_iload_n hx hb dX9_passShift_119 rfl (lv_at hl 0 rfl) ?_
        refine lv_iload_n hx hb dX9_passShift_120 rfl (lv_at hl 2 rfl) ?_
        refine lv_aload_n hx hb dX9_passShift_121 rfl (lv_at hl 1 rfl) ?_
        refine va_get (D := D) (cl := vwCl) (tys := zT cI cB cF) (ci := 9) (v := .ref (M 20)) (C := RX9) (T := TX9) (N := 41) hx hb hts iw_X9_passShift_X9 hown hK.1 hQ 0 rfl rfl 20 (by decide) (hts _ hw_X9_passShift_4) (fun _ h9 => h9) rfl dX9_passShift_122 ?_
        refine lv_iload_n hx hb dX9_passShift_125 rfl (lv_at hl 2 rfl) ?_
        refine va_iald (D := D) (cl := vwCl) (tys := zT cI cB cF) (f := (upd g2 s1 (zHv nk (F.2.1 f) nf))) hx hb hK.1 hQ 2 0 rfl rfl (vp_in_nI (by omega) (by omega)) dX9_passShift_126 ?_
        refine vz_si ((upd g2 s1 (zHv nk (F.2.1 f) nf)) s1) (by rw [nI_clamp (n := s1) (by omega)]) ?_
        refine vz_si (zHv nk (F.2.1 f) nf) (pk_us) ?_
        refine vz_rd (va_runV (As := [.int (nI f), .int (nI s1), .int (zHv nk (F.2.1 f) nf)]) (rest := []) FX (c_X9_isEnough l D cI cB cF M ca nn ft kn dy fd ak pl iw nm fi nf (zKp nk (F.2.1 f)) sd ik kc kf kk kd ko hh F f s1 (zHv nk (F.2.1 f) nf) (by omega) (by first | assumption | omega | decide) hk5) (cwV 3 hts gX9_passShift_X9_isEnough rfl rfl rfl ⟨rfl, hd_X9_isEnough⟩ ⟨Nat.le_of_ble_eq_true rfl, Nat.le_of_ble_eq_true rfl⟩) (preP_V hQ 0 rfl rfl (hQ.sub (ws' := [(M 0, mO M ca nn ft kn dy fd ak pl iw nm fi nf (zKp nk (F.2.1 f)) sd ik kc kf kk kd ko hh), (M 2, .inl (cI, 4, .inl (fun f => nI (F.1 f)))), (M 3, .inl (cI, 4, .inl F.2.1)), (M 4, .inl (cI, 4, .inl F.2.2))]) [0, 5, 6, 7] rfl) hK) rfl rfl hl.1 rfl (lv_room (Nat.le_of_ble_eq_true rfl)) dX9_passShift_127 ⟨Nat.le_of_ble_eq_true rfl, Nat.le_of_ble_eq_true rfl⟩) ?_
        refine lv_if_eq (tgt := 183) hx hb dX9_passShift_130 (by decide) (fun c_130 => ?_) (fun c_130 => ?_)
        · have b_130 : (decide ((zHv nk (F.2.1 f) nf) ≤ zBr (F.1 f) (F.2.2 f) (nI s1))) = false := zb_f c_130
          have hen : ¬ zHv nk (F.2.1 f) nf ≤ zBr (F.1 f) (F.2.2 f) (nI s1) := of_decide_eq_false b_130
          refine lv_aload_n hx hb dX9_passShift_183 rfl (lv_at hl 1 rfl) ?_
          refine va_get (D := D) (cl := vwCl) (tys := zT cI cB cF) (ci := 9) (v := .ref (M 22)) (C := RX9) (T := TX9) (N := 41) hx hb hts iw_X9_passShift_X9 hown hK.1 hQ 0 rfl rfl 22 (by decide) (hts _ hw_X9_passShift_9) (fun _ h9 => h9) rfl dX9_passShift_184 ?_
          refine lv_iload_n hx hb dX9_passShift_187 rfl (lv_at hl 0 rfl) ?_
          refine lv_dup2_11 hx hb dX9_passShift_188 rfl rfl ?_
          refine va_iald (D := D) (cl := vwCl) (tys := zT cI cB cF) (f := fb) hx hb hK.1 hQ 4 0 rfl rfl (vp_in_nI (by omega) (by omega)) dX9_passShift_189 ?_
          refine vz_si (fb f) (by rw [nI_clamp (n := f) (by omega)]) ?_
          refine lv_iconst (v := 1) hx hb dX9_passShift_190 (by decide) ?_
          refine lv_iadd hx hb dX9_passShift_191 ?_
          refine va_iast (D := D) (cl := vwCl) (tys := zT cI cB cF) (f := fb) hx hb hK.1 hP hD hS 4 0 rfl rfl (vp_in_nI (by omega) (by omega)) dX9_passShift_192 (fun H locs hP hD hS => ?_)
          rw [nI_clamp (n := f) (by omega)] at hP hD
          have hP : va_P D vwCl [(M 0, mO M ca nn ft kn dy fd ak pl iw nm fi nf (zKp nk (F.2.1 f)) sd ik kc kf kk kd ko hh), (M 19, .inl (cI, 9, .inl (upd g1 s1 nf))), (M 20, .inl (cI, 8, .inl (upd g2 s1 (zHv nk (F.2.1 f) nf)))), (M 21, .inl (cI, 4, .inl ga)), (M 22, .inl (cI, 4, .inl (upd fb f ((fb f) + 1))))] H := hP
          have hD : va_D A [(M 0, mO M ca nn ft kn dy fd ak pl iw nm fi nf (zKp nk (F.2.1 f)) sd ik kc kf kk kd ko hh), (M 19, .inl (cI, 9, .inl (upd g1 s1 nf))), (M 20, .inl (cI, 8, .inl (upd g2 s1 (zHv nk (F.2.1 f) nf)))), (M 21, .inl (cI, 4, .inl ga)), (M 22, .inl (cI, 4, .inl (upd fb f ((fb f) + 1))))] := hD
          have hQ : va_P D vwCl ([(M 0, mO M ca nn ft kn dy fd ak pl iw nm fi nf (zKp nk (F.2.1 f)) sd ik kc kf kk kd ko hh), (M 19, .inl (cI, 9, .inl (upd g1 s1 nf))), (M 20, .inl (cI, 8, .inl (upd g2 s1 (zHv nk (F.2.1 f) nf)))), (M 21, .inl (cI, 4, .inl ga)), (M 22, .inl (cI, 4, .inl (upd fb f ((fb f) + 1))))] ++ [(M 2, .inl (cI, 4, .inl (fun f => nI (F.1 f)))), (M 3, .inl (cI, 4, .inl F.2.1)), (M 4, .inl (cI, 4, .inl F.2.2)), (M 7, .inl (cI, 8, .inl r))]) H := va_P.app hP (hR.at hS).P
          refine lv_aload_n hx hb dX9_passShift_193 rfl (lv_at hl 1 rfl) ?_
          refine lv_dup hx hb dX9_passShift_194 rfl ?_
          refine va_get (D := D) (cl := vwCl) (tys := zT cI cB cF) (ci := 9) (v := .int fi) (C := RX9) (T := TX9) (N := 41) hx hb hts iw_X9_passShift_X9 hown hK.1 hQ 0 rfl rfl 23 (by decide) (hts _ hw_X9_passShift_10) (fun _ h9 => h9) rfl dX9_passShift_195 ?_
          refine lv_iconst (v := 1) hx hb dX9_passShift_198 (by decide) ?_
          refine lv_iload_n hx hb dX9_passShift_199 rfl (lv_at hl 2 rfl) ?_
          refine lv_ishl hx hb dX9_passShift_200 ?_
          refine lv_ior hx hb dX9_passShift_201 ?_
          refine vz_si (zFi fi (zEw F (r s1) (nI s1) (nf, nk)) s1) (by rw [zFi, if_neg (by rw [hm, zEw_f hfb, zFe, if_neg hk2, if_neg hen]; decide)]) ?_
          refine va_put (D := D) (cl := vwCl) (tys := zT cI cB cF) (ci := 9) (v := .int (zFi fi (zEw F (r s1) (nI s1) (nf, nk)) s1)) (ty := .int) (C := RX9) (T := TX9) (N := 41) hx hb hts iw_X9_passShift_X9 tyX9 tyX9_ok nmX9 hown hK.1 hP hD hS 0 rfl rfl 23 (by decide) (hts _ hw_X9_passShift_10) (fun _ h9 => h9) rfl (tyX9_ok 23 (by decide)) (rfl) (rfl) (Nat.le_of_ble_eq_true rfl) dX9_passShift_202 (fun H locs hP hD hS => ?_)
          have hP : va_P D vwCl [(M 0, mO M ca nn ft kn dy fd ak pl iw nm (zFi fi (zEw F (r s1) (nI s1) (nf, nk)) s1) nf (zKp nk (F.2.1 f)) sd ik kc kf kk kd ko hh), (M 19, .inl (cI, 9, .inl (upd g1 s1 nf))), (M 20, .inl (cI, 8, .inl (upd g2 s1 (zHv nk (F.2.1 f) nf)))), (M 21, .inl (cI, 4, .inl ga)), (M 22, .inl (cI, 4, .inl (upd fb f ((fb f) + 1))))] H := hP
          have hD : va_D A [(M 0, mO M ca nn ft kn dy fd ak pl iw nm (zFi fi (zEw F (r s1) (nI s1) (nf, nk)) s1) nf (zKp nk (F.2.1 f)) sd ik kc kf kk kd ko hh), (M 19, .inl (cI, 9, .inl (upd g1 s1 nf))), (M 20, .inl (cI, 8, .inl (upd g2 s1 (zHv nk (F.2.1 f) nf)))), (M 21, .inl (cI, 4, .inl ga)), (M 22, .inl (cI, 4, .inl (upd fb f ((fb f) + 1))))] := hD
          have hQ : va_P D vwCl ([(M 0, mO M ca nn ft kn dy fd ak pl iw nm (zFi fi (zEw F (r s1) (nI s1) (nf, nk)) s1) nf (zKp nk (F.2.1 f)) sd ik kc kf kk kd ko hh), (M 19, .inl (cI, 9, .inl (upd g1 s1 nf))), (M 20, .inl (cI, 8, .inl (upd g2 s1 (zHv nk (F.2.1 f) nf)))), (M 21, .inl (cI, 4, .inl ga)), (M 22, .inl (cI, 4, .inl (upd fb f ((fb f) + 1))))] ++ [(M 2, .inl (cI, 4, .inl (fun f => nI (F.1 f)))), (M 3, .inl (cI, 4, .inl F.2.1)), (M 4, .inl (cI, 4, .inl F.2.2)), (M 7, .inl (cI, 8, .inl r))]) H := va_P.app hP (hR.at hS).P
          refine lv_aload_n hx hb dX9_passShift_205 rfl (lv_at hl 1 rfl) ?_
          refine lv_aload_n hx hb dX9_passShift_206 rfl (lv_at hl 1 rfl) ?_
          refine va_get (D := D) (cl := vwCl) (tys := zT cI cB cF) (ci := 9) (v := .int nf) (C := RX9) (T := TX9) (N := 41) hx hb hts iw_X9_passShift_X9 hown hK.1 hQ 0 rfl rfl 24 (by decide) (hts _ hw_X9_passShift_3) (fun _ h9 => h9) rfl dX9_passShift_207 ?_
          refine lv_iconst (v := 1) hx hb dX9_passShift_210 (by decide) ?_
          refine lv_iadd hx hb dX9_passShift_211 ?_
          refine vz_rd (va_runS (As := [.int (nf + 1)]) (rest := [.ref (M 0)]) FX (c_X9_atMost l D cI cB cF (nf + 1) ) (va_cwS 1 hts gX9_passShift_X9_atMost rfl rfl rfl hd_X9_atMost ⟨Nat.le_of_ble_eq_true rfl, Nat.le_of_ble_eq_true rfl⟩) (preP_S (hQ.sub (ws' := []) [] rfl) hK) rfl rfl hl.1 rfl (lv_room (Nat.le_of_ble_eq_true rfl)) dX9_passShift_212 ⟨Nat.le_of_ble_eq_true rfl, Nat.le_of_ble_eq_true rfl⟩) ?_
          refine vz_si (zCl (nf + zMw F (r s1) (nI s1) (nf, nk))) (by rw [hm, zMw_f hfb, zMo, if_neg hk2, if_neg hen]) ?_
          refine va_put (D := D) (cl := vwCl) (tys := zT cI cB cF) (ci := 9) (v := .int (zCl (nf + zMw F (r s1) (nI s1) (nf, nk)))) (ty := .int) (C := RX9) (T := TX9) (N := 41) hx hb hts iw_X9_passShift_X9 tyX9 tyX9_ok nmX9 hown hK.1 hP hD hS 0 rfl rfl 24 (by decide) (hts _ hw_X9_passShift_3) (fun _ h9 => h9) rfl (tyX9_ok 24 (by decide)) (rfl) (rfl) (Nat.le_of_ble_eq_true rfl) dX9_passShift_215 (fun H locs hP hD hS => ?_)
          have hP : va_P D vwCl [(M 0, mO M ca nn ft kn dy fd ak pl iw nm (zFi fi (zEw F (r s1) (nI s1) (nf, nk)) s1) (zCl (nf + zMw F (r s1) (nI s1) (nf, nk))) (zKp nk (F.2.1 f)) sd ik kc kf kk kd ko hh), (M 19, .inl (cI, 9, .inl (upd g1 s1 nf))), (M 20, .inl (cI, 8, .inl (upd g2 s1 (zHv nk (F.2.1 f) nf)))), (M 21, .inl (cI, 4, .inl ga)), (M 22, .inl (cI, 4, .inl (upd fb f ((fb f) + 1))))] H := hP
          have hD : va_D A [(M 0, mO M ca nn ft kn dy fd ak pl iw nm (zFi fi (zEw F (r s1) (nI s1) (nf, nk)) s1) (zCl (nf + zMw F (r s1) (nI s1) (nf, nk))) (zKp nk (F.2.1 f)) sd ik kc kf kk kd ko hh), (M 19, .inl (cI, 9, .inl (upd g1 s1 nf))), (M 20, .inl (cI, 8, .inl (upd g2 s1 (zHv nk (F.2.1 f) nf)))), (M 21, .inl (cI, 4, .inl ga)), (M 22, .inl (cI, 4, .inl (upd fb f ((fb f) + 1))))] := hD
          have hQ : va_P D vwCl ([(M 0, mO M ca nn ft kn dy fd ak pl iw nm (zFi fi (zEw F (r s1) (nI s1) (nf, nk)) s1) (zCl (nf + zMw F (r s1) (nI s1) (nf, nk))) (zKp nk (F.2.1 f)) sd ik kc kf kk kd ko hh), (M 19, .inl (cI, 9, .inl (upd g1 s1 nf))), (M 20, .inl (cI, 8, .inl (upd g2 s1 (zHv nk (F.2.1 f) nf)))), (M 21, .inl (cI, 4, .inl ga)), (M 22, .inl (cI, 4, .inl (upd fb f ((fb f) + 1))))] ++ [(M 2, .inl (cI, 4, .inl (fun f => nI (F.1 f)))), (M 3, .inl (cI, 4, .inl F.2.1)), (M 4, .inl (cI, 4, .inl F.2.2)), (M 7, .inl (cI, 8, .inl r))]) H := va_P.app hP (hR.at hS).P
          have hP : va_P D vwCl [(M 0, mO M ca nn ft kn dy fd ak pl iw nm (zFi fi (zEw F (r s1) (nI s1) (nf, nk)) s1) (zCl (nf + zMw F (r s1) (nI s1) (nf, nk))) (zKw F (r s1) (nf, nk)) sd ik kc kf kk kd ko hh), (M 19, .inl (cI, 9, .inl (upd g1 s1 nf))), (M 20, .inl (cI, 8, .inl (upd g2 s1 (zHv nk (F.2.1 f) nf)))), (M 21, .inl (cI, 4, .inl ga)), (M 22, .inl (cI, 4, .inl (upd fb f ((fb f) + 1))))] H := by rw [← (show zKp nk (F.2.1 f) = zKw F (r s1) (nf, nk) from by rw [hm, zKw_f hfb])]; exact hP
          have hD : va_D A [(M 0, mO M ca nn ft kn dy fd ak pl iw nm (zFi fi (zEw F (r s1) (nI s1) (nf, nk)) s1) (zCl (nf + zMw F (r s1) (nI s1) (nf, nk))) (zKw F (r s1) (nf, nk)) sd ik kc kf kk kd ko hh), (M 19, .inl (cI, 9, .inl (upd g1 s1 nf))), (M 20, .inl (cI, 8, .inl (upd g2 s1 (zHv nk (F.2.1 f) nf)))), (M 21, .inl (cI, 4, .inl ga)), (M 22, .inl (cI, 4, .inl (upd fb f ((fb f) + 1))))] := by rw [← (show zKp nk (F.2.1 f) = zKw F (r s1) (nf, nk) from by rw [hm, zKw_f hfb])]; exact hD
          have hQ : va_P D vwCl ([(M 0, mO M ca nn ft kn dy fd ak pl iw nm (zFi fi (zEw F (r s1) (nI s1) (nf, nk)) s1) (zCl (nf + zMw F (r s1) (nI s1) (nf, nk))) (zKw F (r s1) (nf, nk)) sd ik kc kf kk kd ko hh), (M 19, .inl (cI, 9, .inl (upd g1 s1 nf))), (M 20, .inl (cI, 8, .inl (upd g2 s1 (zHv nk (F.2.1 f) nf)))), (M 21, .inl (cI, 4, .inl ga)), (M 22, .inl (cI, 4, .inl (upd fb f ((fb f) + 1))))] ++ [(M 2, .inl (cI, 4, .inl (fun f => nI (F.1 f)))), (M 3, .inl (cI, 4, .inl F.2.1)), (M 4, .inl (cI, 4, .inl F.2.2)), (M 7, .inl (cI, 8, .inl r))]) H := va_P.app hP (hR.at hS).P
          have hP : va_P D vwCl [(M 0, mO M ca nn ft kn dy fd ak pl iw nm (zFi fi (zEw F (r s1) (nI s1) (nf, nk)) s1) (zCl (nf + zMw F (r s1) (nI s1) (nf, nk))) (zKw F (r s1) (nf, nk)) sd ik kc kf kk kd ko hh), (M 19, .inl (cI, 9, .inl (upd g1 s1 nf))), (M 20, .inl (cI, 8, .inl (upd g2 s1 (zHw F (r s1) (nf, nk))))), (M 21, .inl (cI, 4, .inl ga)), (M 22, .inl (cI, 4, .inl (upd fb f ((fb f) + 1))))] H := vz_arr (g := upd g2 s1 (zHw F (r s1) (nf, nk))) hP 2 rfl (fun j _ => by rw [hm, zHw_f hfb])
          have hD : va_D A [(M 0, mO M ca nn ft kn dy fd ak pl iw nm (zFi fi (zEw F (r s1) (nI s1) (nf, nk)) s1) (zCl (nf + zMw F (r s1) (nI s1) (nf, nk))) (zKw F (r s1) (nf, nk)) sd ik kc kf kk kd ko hh), (M 19, .inl (cI, 9, .inl (upd g1 s1 nf))), (M 20, .inl (cI, 8, .inl (upd g2 s1 (zHw F (r s1) (nf, nk))))), (M 21, .inl (cI, 4, .inl ga)), (M 22, .inl (cI, 4, .inl (upd fb f ((fb f) + 1))))] := vz_arrD hD 2 rfl
          have hQ : va_P D vwCl ([(M 0, mO M ca nn ft kn dy fd ak pl iw nm (zFi fi (zEw F (r s1) (nI s1) (nf, nk)) s1) (zCl (nf + zMw F (r s1) (nI s1) (nf, nk))) (zKw F (r s1) (nf, nk)) sd ik kc kf kk kd ko hh), (M 19, .inl (cI, 9, .inl (upd g1 s1 nf))), (M 20, .inl (cI, 8, .inl (upd g2 s1 (zHw F (r s1) (nf, nk))))), (M 21, .inl (cI, 4, .inl ga)), (M 22, .inl (cI, 4, .inl (upd fb f ((fb f) + 1))))] ++ [(M 2, .inl (cI, 4, .inl (fun f => nI (F.1 f)))), (M 3, .inl (cI, 4, .inl F.2.1)), (M 4, .inl (cI, 4, .inl F.2.2)), (M 7, .inl (cI, 8, .inl r))]) H := va_P.app hP (hR.at hS).P
          have hP : va_P D vwCl [(M 0, mO M ca nn ft kn dy fd ak pl iw nm (zFi fi (zEw F (r s1) (nI s1) (nf, nk)) s1) (zCl (nf + zMw F (r s1) (nI s1) (nf, nk))) (zKw F (r s1) (nf, nk)) sd ik kc kf kk kd ko hh), (M 19, .inl (cI, 9, .inl (upd g1 s1 nf))), (M 20, .inl (cI, 8, .inl (upd g2 s1 (zHw F (r s1) (nf, nk))))), (M 21, .inl (cI, 4, .inl (fun j => if r s1 = nI j then ga j + zGw F (r s1) (nI s1) (nf, nk) else ga j))), (M 22, .inl (cI, 4, .inl (upd fb f ((fb f) + 1))))] H := vz_arr (g := fun j => if r s1 = nI j then ga j + zGw F (r s1) (nI s1) (nf, nk) else ga j) hP 3 rfl (fun j hj => z_u0 (by rw [hm, zGw_f hfb, zGn, if_neg hk2, if_neg hen]))
          have hD : va_D A [(M 0, mO M ca nn ft kn dy fd ak pl iw nm (zFi fi (zEw F (r s1) (nI s1) (nf, nk)) s1) (zCl (nf + zMw F (r s1) (nI s1) (nf, nk))) (zKw F (r s1) (nf, nk)) sd ik kc kf kk kd ko hh), (M 19, .inl (cI, 9, .inl (upd g1 s1 nf))), (M 20, .inl (cI, 8, .inl (upd g2 s1 (zHw F (r s1) (nf, nk))))), (M 21, .inl (cI, 4, .inl (fun j => if r s1 = nI j then ga j + zGw F (r s1) (nI s1) (nf, nk) else ga j))), (M 22, .inl (cI, 4, .inl (upd fb f ((fb f) + 1))))] := vz_arrD hD 3 rfl
          have hQ : va_P D vwCl ([(M 0, mO M ca nn ft kn dy fd ak pl iw nm (zFi fi (zEw F (r s1) (nI s1) (nf, nk)) s1) (zCl (nf + zMw F (r s1) (nI s1) (nf, nk))) (zKw F (r s1) (nf, nk)) sd ik kc kf kk kd ko hh), (M 19, .inl (cI, 9, .inl (upd g1 s1 nf))), (M 20, .inl (cI, 8, .inl (upd g2 s1 (zHw F (r s1) (nf, nk))))), (M 21, .inl (cI, 4, .inl (fun j => if r s1 = nI j then ga j + zGw F (r s1) (nI s1) (nf, nk) else ga j))), (M 22, .inl (cI, 4, .inl (upd fb f ((fb f) + 1))))] ++ [(M 2, .inl (cI, 4, .inl (fun f => nI (F.1 f)))), (M 3, .inl (cI, 4, .inl F.2.1)), (M 4, .inl (cI, 4, .inl F.2.2)), (M 7, .inl (cI, 8, .inl r))]) H := va_P.app hP (hR.at hS).P
          have hP : va_P D vwCl [(M 0, mO M ca nn ft kn dy fd ak pl iw nm (zFi fi (zEw F (r s1) (nI s1) (nf, nk)) s1) (zCl (nf + zMw F (r s1) (nI s1) (nf, nk))) (zKw F (r s1) (nf, nk)) sd ik kc kf kk kd ko hh), (M 19, .inl (cI, 9, .inl (upd g1 s1 nf))), (M 20, .inl (cI, 8, .inl (upd g2 s1 (zHw F (r s1) (nf, nk))))), (M 21, .inl (cI, 4, .inl (fun j => if r s1 = nI j then ga j + zGw F (r s1) (nI s1) (nf, nk) else ga j))), (M 22, .inl (cI, 4, .inl (fun j => if r s1 = nI j then fb j + zEw F (r s1) (nI s1) (nf, nk) else fb j)))] H := vz_arr (g := fun j => if r s1 = nI j then fb j + zEw F (r s1) (nI s1) (nf, nk) else fb j) hP 4 rfl (fun j hj => z_uf hm (by omega) (by rw [hm, zEw_f hfb, zFe, if_neg hk2, if_neg hen]) hj)
          have hD : va_D A [(M 0, mO M ca nn ft kn dy fd ak pl iw nm (zFi fi (zEw F (r s1) (nI s1) (nf, nk)) s1) (zCl (nf + zMw F (r s1) (nI s1) (nf, nk))) (zKw F (r s1) (nf, nk)) sd ik kc kf kk kd ko hh), (M 19, .inl (cI, 9, .inl (upd g1 s1 nf))), (M 20, .inl (cI, 8, .inl (upd g2 s1 (zHw F (r s1) (nf, nk))))), (M 21, .inl (cI, 4, .inl (fun j => if r s1 = nI j then ga j + zGw F (r s1) (nI s1) (nf, nk) else ga j))), (M 22, .inl (cI, 4, .inl (fun j => if r s1 = nI j then fb j + zEw F (r s1) (nI s1) (nf, nk) else fb j)))] := vz_arrD hD 4 rfl
          have hQ : va_P D vwCl ([(M 0, mO M ca nn ft kn dy fd ak pl iw nm (zFi fi (zEw F (r s1) (nI s1) (nf, nk)) s1) (zCl (nf + zMw F (r s1) (nI s1) (nf, nk))) (zKw F (r s1) (nf, nk)) sd ik kc kf kk kd ko hh), (M 19, .inl (cI, 9, .inl (upd g1 s1 nf))), (M 20, .inl (cI, 8, .inl (upd g2 s1 (zHw F (r s1) (nf, nk))))), (M 21, .inl (cI, 4, .inl (fun j => if r s1 = nI j then ga j + zGw F (r s1) (nI s1) (nf, nk) else ga j))), (M 22, .inl (cI, 4, .inl (fun j => if r s1 = nI j then fb j + zEw F (r s1) (nI s1) (nf, nk) else fb j)))] ++ [(M 2, .inl (cI, 4, .inl (fun f => nI (F.1 f)))), (M 3, .inl (cI, 4, .inl F.2.1)), (M 4, .inl (cI, 4, .inl F.2.2)), (M 7, .inl (cI, 8, .inl r))]) H := va_P.app hP (hR.at hS).P
          have hP9 := hP.sub (ws' := [(M 0, mO M ca nn ft kn dy fd ak pl iw nm (zFi fi (zEw F (r s1) (nI s1) (nf, nk)) s1) (zCl (nf + zMw F (r s1) (nI s1) (nf, nk))) (zKw F (r s1) (nf, nk)) sd ik kc kf kk kd ko hh), (M 19, .inl (cI, 9, .inl (upd g1 s1 nf))), (M 20, .inl (cI, 8, .inl (upd g2 s1 (zHw F (r s1) (nf, nk))))), (M 21, .inl (cI, 4, .inl (fun j => if r s1 = nI j then ga j + zGw F (r s1) (nI s1) (nf, nk) else ga j))), (M 22, .inl (cI, 4, .inl (fun j => if r s1 = nI j then fb j + zEw F (r s1) (nI s1) (nf, nk) else fb j)))]) [0, 1, 2, 3, 4] rfl
          have hD9 := hD.sub (ws' := [(M 0, mO M ca nn ft kn dy fd ak pl iw nm (zFi fi (zEw F (r s1) (nI s1) (nf, nk)) s1) (zCl (nf + zMw F (r s1) (nI s1) (nf, nk))) (zKw F (r s1) (nf, nk)) sd ik kc kf kk kd ko hh), (M 19, .inl (cI, 9, .inl (upd g1 s1 nf))), (M 20, .inl (cI, 8, .inl (upd g2 s1 (zHw F (r s1) (nf, nk))))), (M 21, .inl (cI, 4, .inl (fun j => if r s1 = nI j then ga j + zGw F (r s1) (nI s1) (nf, nk) else ga j))), (M 22, .inl (cI, 4, .inl (fun j => if r s1 = nI j then fb j + zEw F (r s1) (nI s1) (nf, nk) else fb j)))]) [0, 1, 2, 3, 4] (by decide) rfl
          exact W.vret hx hb hr (fun t ht hW => ⟨⟨(), rfl, trivial, by rw [ht]; exact hP9, hD9⟩, hS.F ht⟩) hS.2.2 dX9_passShift_218
        · have b_130 : (decide ((zHv nk (F.2.1 f) nf) ≤ zBr (F.1 f) (F.2.2 f) (nI s1))) = true := zb_t c_130
          have hen : zHv nk (F.2.1 f) nf ≤ zBr (F.1 f) (F.2.2 f) (nI s1) := of_decide_eq_true b_130
          refine lv_aload_n hx hb dX9_passShift_133 rfl (lv_at hl 1 rfl) ?_
          refine va_get (D := D) (cl := vwCl) (tys := zT cI cB cF) (ci := 9) (v := .ref (M 21)) (C := RX9) (T := TX9) (N := 41) hx hb hts iw_X9_passShift_X9 hown hK.1 hQ 0 rfl rfl 21 (by decide) (hts _ hw_X9_passShift_8) (fun _ h9 => h9) rfl dX9_passShift_134 ?_
          refine lv_iload_n hx hb dX9_passShift_137 rfl (lv_at hl 0 rfl) ?_
          refine lv_dup2_11 hx hb dX9_passShift_138 rfl rfl ?_
          refine va_iald (D := D) (cl := vwCl) (tys := zT cI cB cF) (f := ga) hx hb hK.1 hQ 3 0 rfl rfl (vp_in_nI (by omega) (by omega)) dX9_passShift_139 ?_
          refine vz_si (ga f) (by rw [nI_clamp (n := f) (by omega)]) ?_
          refine lv_aload_n hx hb dX9_passShift_140 rfl (lv_at hl 1 rfl) ?_
          refine va_get (D := D) (cl := vwCl) (tys := zT cI cB cF) (ci := 9) (v := .ref (M 20)) (C := RX9) (T := TX9) (N := 41) hx hb hts iw_X9_passShift_X9 hown hK.1 hQ 0 rfl rfl 20 (by decide) (hts _ hw_X9_passShift_4) (fun _ h9 => h9) rfl dX9_passShift_141 ?_
          refine lv_iload_n hx hb dX9_passShift_144 rfl (lv_at hl 2 rfl) ?_
          refine va_iald (D := D) (cl := vwCl) (tys := zT cI cB cF) (f := (upd g2 s1 (zHv nk (F.2.1 f) nf))) hx hb hK.1 hQ 2 0 rfl rfl (vp_in_nI (by omega) (by omega)) dX9_passShift_145 ?_
          refine vz_si ((upd g2 s1 (zHv nk (F.2.1 f) nf)) s1) (by rw [nI_clamp (n := s1) (by omega)]) ?_
          refine vz_si (zHv nk (F.2.1 f) nf) (pk_us) ?_
          refine lv_iadd hx hb dX9_passShift_146 ?_
          refine va_iast (D := D) (cl := vwCl) (tys := zT cI cB cF) (f := ga) hx hb hK.1 hP hD hS 3 0 rfl rfl (vp_in_nI (by omega) (by omega)) dX9_passShift_147 (fun H locs hP hD hS => ?_)
          rw [nI_clamp (n := f) (by omega)] at hP hD
          have hP : va_P D vwCl [(M 0, mO M ca nn ft kn dy fd ak pl iw nm fi nf (zKp nk (F.2.1 f)) sd ik kc kf kk kd ko hh), (M 19, .inl (cI, 9, .inl (upd g1 s1 nf))), (M 20, .inl (cI, 8, .inl (upd g2 s1 (zHv nk (F.2.1 f) nf)))), (M 21, .inl (cI, 4, .inl (upd ga f ((ga f) + (zHv nk (F.2.1 f) nf))))), (M 22, .inl (cI, 4, .inl fb))] H := hP
          have hD : va_D A [(M 0, mO M ca nn ft kn dy fd ak pl iw nm fi nf (zKp nk (F.2.1 f)) sd ik kc kf kk kd ko hh), (M 19, .inl (cI, 9, .inl (upd g1 s1 nf))), (M 20, .inl (cI, 8, .inl (upd g2 s1 (zHv nk (F.2.1 f) nf)))), (M 21, .inl (cI, 4, .inl (upd ga f ((ga f) + (zHv nk (F.2.1 f) nf))))), (M 22, .inl (cI, 4, .inl fb))] := hD
          have hQ : va_P D vwCl ([(M 0, mO M ca nn ft kn dy fd ak pl iw nm fi nf (zKp nk (F.2.1 f)) sd ik kc kf kk kd ko hh), (M 19, .inl (cI, 9, .inl (upd g1 s1 nf))), (M 20, .inl (cI, 8, .inl (upd g2 s1 (zHv nk (F.2.1 f) nf)))), (M 21, .inl (cI, 4, .inl (upd ga f ((ga f) + (zHv nk (F.2.1 f) nf))))), (M 22, .inl (cI, 4, .inl fb))] ++ [(M 2, .inl (cI, 4, .inl (fun f => nI (F.1 f)))), (M 3, .inl (cI, 4, .inl F.2.1)), (M 4, .inl (cI, 4, .inl F.2.2)), (M 7, .inl (cI, 8, .inl r))]) H := va_P.app hP (hR.at hS).P
          refine lv_aload_n hx hb dX9_passShift_148 rfl (lv_at hl 1 rfl) ?_
          refine lv_aload_n hx hb dX9_passShift_149 rfl (lv_at hl 1 rfl) ?_
          refine va_get (D := D) (cl := vwCl) (tys := zT cI cB cF) (ci := 9) (v := .ref (M 2)) (C := RX9) (T := TX9) (N := 41) hx hb hts iw_X9_passShift_X9 hown hK.1 hQ 0 rfl rfl 2 (by decide) (hts _ hw_X9_passShift_7) (fun _ h9 => h9) rfl dX9_passShift_150 ?_
          refine lv_iload_n hx hb dX9_passShift_153 rfl (lv_at hl 0 rfl) ?_
          refine va_iald (D := D) (cl := vwCl) (tys := zT cI cB cF) (f := (fun f => nI (F.1 f))) hx hb hK.1 hQ 5 0 rfl rfl (vp_in_nI (by omega) (by omega)) dX9_passShift_154 ?_
          refine vz_si (nI (F.1 f)) (by rw [nI_clamp (n := f) (by omega)]) ?_
          refine lv_iconst (v := 3) hx hb dX9_passShift_155 (by decide) ?_
          refine lv_icmp_ne (tgt := 168) hx hb dX9_passShift_156 (by decide) (fun c_156 => ?_) (fun c_156 => ?_)
          · have hk3 : ¬ F.1 f = 3 := fun q => c_156 (by rw [q]; rfl)
            refine lv_aload_n hx hb dX9_passShift_168 rfl (lv_at hl 1 rfl) ?_
            refine va_get (D := D) (cl := vwCl) (tys := zT cI cB cF) (ci := 9) (v := .int nf) (C := RX9) (T := TX9) (N := 41) hx hb hts iw_X9_passShift_X9 hown hK.1 hQ 0 rfl rfl 24 (by decide) (hts _ hw_X9_passShift_3) (fun _ h9 => h9) rfl dX9_passShift_169 ?_
            refine lv_iconst (v := 1) hx hb dX9_passShift_172 (by decide) ?_
            refine lv_isub hx hb dX9_passShift_173 ?_
            refine vz_rd (va_runS (As := [.int (nf - 1)]) (rest := [.ref (M 0)]) FX (c_X9_atMost l D cI cB cF (nf - 1) ) (va_cwS 1 hts gX9_passShift_X9_atMost rfl rfl rfl hd_X9_atMost ⟨Nat.le_of_ble_eq_true rfl, Nat.le_of_ble_eq_true rfl⟩) (preP_S (hQ.sub (ws' := []) [] rfl) hK) rfl rfl hl.1 rfl (lv_room (Nat.le_of_ble_eq_true rfl)) dX9_passShift_174 ⟨Nat.le_of_ble_eq_true rfl, Nat.le_of_ble_eq_true rfl⟩) ?_
            refine vz_si (zCl (nf + zMw F (r s1) (nI s1) (nf, nk))) (by rw [hm, zMw_f hfb, zMo, if_neg hk2, if_pos hen, if_neg hk3, ← z_sub1]) ?_
            refine va_put (D := D) (cl := vwCl) (tys := zT cI cB cF) (ci := 9) (v := .int (zCl (nf + zMw F (r s1) (nI s1) (nf, nk)))) (ty := .int) (C := RX9) (T := TX9) (N := 41) hx hb hts iw_X9_passShift_X9 tyX9 tyX9_ok nmX9 hown hK.1 hP hD hS 0 rfl rfl 24 (by decide) (hts _ hw_X9_passShift_3) (fun _ h9 => h9) rfl (tyX9_ok 24 (by decide)) (rfl) (rfl) (Nat.le_of_ble_eq_true rfl) dX9_passShift_177 (fun H locs hP hD hS => ?_)
            have hP : va_P D vwCl [(M 0, mO M ca nn ft kn dy fd ak pl iw nm fi (zCl (nf + zMw F (r s1) (nI s1) (nf, nk))) (zKp nk (F.2.1 f)) sd ik kc kf kk kd ko hh), (M 19, .inl (cI, 9, .inl (upd g1 s1 nf))), (M 20, .inl (cI, 8, .inl (upd g2 s1 (zHv nk (F.2.1 f) nf)))), (M 21, .inl (cI, 4, .inl (upd ga f ((ga f) + (zHv nk (F.2.1 f) nf))))), (M 22, .inl (cI, 4, .inl fb))] H := hP
            have hD : va_D A [(M 0, mO M ca nn ft kn dy fd ak pl iw nm fi (zCl (nf + zMw F (r s1) (nI s1) (nf, nk))) (zKp nk (F.2.1 f)) sd ik kc kf kk kd ko hh), (M 19, .inl (cI, 9, .inl (upd g1 s1 nf))), (M 20, .inl (cI, 8, .inl (upd g2 s1 (zHv nk (F.2.1 f) nf)))), (M 21, .inl (cI, 4, .inl (upd ga f ((ga f) + (zHv nk (F.2.1 f) nf))))), (M 22, .inl (cI, 4, .inl fb))] := hD
            have hQ : va_P D vwCl ([(M 0, mO M ca nn ft kn dy fd ak pl iw nm fi (zCl (nf + zMw F (r s1) (nI s1) (nf, nk))) (zKp nk (F.2.1 f)) sd ik kc kf kk kd ko hh), (M 19, .inl (cI, 9, .inl (upd g1 s1 nf))), (M 20, .inl (cI, 8, .inl (upd g2 s1 (zHv nk (F.2.1 f) nf)))), (M 21, .inl (cI, 4, .inl (upd ga f ((ga f) + (zHv nk (F.2.1 f) nf))))), (M 22, .inl (cI, 4, .inl fb))] ++ [(M 2, .inl (cI, 4, .inl (fun f => nI (F.1 f)))), (M 3, .inl (cI, 4, .inl F.2.1)), (M 4, .inl (cI, 4, .inl F.2.2)), (M 7, .inl (cI, 8, .inl r))]) H := va_P.app hP (hR.at hS).P
            refine lv_goto (tgt := 218) hx hb dX9_passShift_180 (by decide) ?_
            have hP : va_P D vwCl [(M 0, mO M ca nn ft kn dy fd ak pl iw nm fi (zCl (nf + zMw F (r s1) (nI s1) (nf, nk))) (zKw F (r s1) (nf, nk)) sd ik kc kf kk kd ko hh), (M 19, .inl (cI, 9, .inl (upd g1 s1 nf))), (M 20, .inl (cI, 8, .inl (upd g2 s1 (zHv nk (F.2.1 f) nf)))), (M 21, .inl (cI, 4, .inl (upd ga f ((ga f) + (zHv nk (F.2.1 f) nf))))), (M 22, .inl (cI, 4, .inl fb))] H := by rw [← (show zKp nk (F.2.1 f) = zKw F (r s1) (nf, nk) from by rw [hm, zKw_f hfb])]; exact hP
            have hD : va_D A [(M 0, mO M ca nn ft kn dy fd ak pl iw nm fi (zCl (nf + zMw F (r s1) (nI s1) (nf, nk))) (zKw F (r s1) (nf, nk)) sd ik kc kf kk kd ko hh), (M 19, .inl (cI, 9, .inl (upd g1 s1 nf))), (M 20, .inl (cI, 8, .inl (upd g2 s1 (zHv nk (F.2.1 f) nf)))), (M 21, .inl (cI, 4, .inl (upd ga f ((ga f) + (zHv nk (F.2.1 f) nf))))), (M 22, .inl (cI, 4, .inl fb))] := by rw [← (show zKp nk (F.2.1 f) = zKw F (r s1) (nf, nk) from by rw [hm, zKw_f hfb])]; exact hD
            have hQ : va_P D vwCl ([(M 0, mO M ca nn ft kn dy fd ak pl iw nm fi (zCl (nf + zMw F (r s1) (nI s1) (nf, nk))) (zKw F (r s1) (nf, nk)) sd ik kc kf kk kd ko hh), (M 19, .inl (cI, 9, .inl (upd g1 s1 nf))), (M 20, .inl (cI, 8, .inl (upd g2 s1 (zHv nk (F.2.1 f) nf)))), (M 21, .inl (cI, 4, .inl (upd ga f ((ga f) + (zHv nk (F.2.1 f) nf))))), (M 22, .inl (cI, 4, .inl fb))] ++ [(M 2, .inl (cI, 4, .inl (fun f => nI (F.1 f)))), (M 3, .inl (cI, 4, .inl F.2.1)), (M 4, .inl (cI, 4, .inl F.2.2)), (M 7, .inl (cI, 8, .inl r))]) H := va_P.app hP (hR.at hS).P
            have hP : va_P D vwCl [(M 0, mO M ca nn ft kn dy fd ak pl iw nm fi (zCl (nf + zMw F (r s1) (nI s1) (nf, nk))) (zKw F (r s1) (nf, nk)) sd ik kc kf kk kd ko hh), (M 19, .inl (cI, 9, .inl (upd g1 s1 nf))), (M 20, .inl (cI, 8, .inl (upd g2 s1 (zHw F (r s1) (nf, nk))))), (M 21, .inl (cI, 4, .inl (upd ga f ((ga f) + (zHv nk (F.2.1 f) nf))))), (M 22, .inl (cI, 4, .inl fb))] H := vz_arr (g := upd g2 s1 (zHw F (r s1) (nf, nk))) hP 2 rfl (fun j _ => by rw [hm, zHw_f hfb])
            have hD : va_D A [(M 0, mO M ca nn ft kn dy fd ak pl iw nm fi (zCl (nf + zMw F (r s1) (nI s1) (nf, nk))) (zKw F (r s1) (nf, nk)) sd ik kc kf kk kd ko hh), (M 19, .inl (cI, 9, .inl (upd g1 s1 nf))), (M 20, .inl (cI, 8, .inl (upd g2 s1 (zHw F (r s1) (nf, nk))))), (M 21, .inl (cI, 4, .inl (upd ga f ((ga f) + (zHv nk (F.2.1 f) nf))))), (M 22, .inl (cI, 4, .inl fb))] := vz_arrD hD 2 rfl
            have hQ : va_P D vwCl ([(M 0, mO M ca nn ft kn dy fd ak pl iw nm fi (zCl (nf + zMw F (r s1) (nI s1) (nf, nk))) (zKw F (r s1) (nf, nk)) sd ik kc kf kk kd ko hh), (M 19, .inl (cI, 9, .inl (upd g1 s1 nf))), (M 20, .inl (cI, 8, .inl (upd g2 s1 (zHw F (r s1) (nf, nk))))), (M 21, .inl (cI, 4, .inl (upd ga f ((ga f) + (zHv nk (F.2.1 f) nf))))), (M 22, .inl (cI, 4, .inl fb))] ++ [(M 2, .inl (cI, 4, .inl (fun f => nI (F.1 f)))), (M 3, .inl (cI, 4, .inl F.2.1)), (M 4, .inl (cI, 4, .inl F.2.2)), (M 7, .inl (cI, 8, .inl r))]) H := va_P.app hP (hR.at hS).P
            have hP : va_P D vwCl [(M 0, mO M ca nn ft kn dy fd ak pl iw nm (zFi fi (zEw F (r s1) (nI s1) (nf, nk)) s1) (zCl (nf + zMw F (r s1) (nI s1) (nf, nk))) (zKw F (r s1) (nf, nk)) sd ik kc kf kk kd ko hh), (M 19, .inl (cI, 9, .inl (upd g1 s1 nf))), (M 20, .inl (cI, 8, .inl (upd g2 s1 (zHw F (r s1) (nf, nk))))), (M 21, .inl (cI, 4, .inl (upd ga f ((ga f) + (zHv nk (F.2.1 f) nf))))), (M 22, .inl (cI, 4, .inl fb))] H := by rw [← (show fi = zFi fi (zEw F (r s1) (nI s1) (nf, nk)) s1 from by rw [zFi, if_pos (by rw [hm, zEw_f hfb, zFe, if_neg hk2, if_pos hen])])]; exact hP
            have hD : va_D A [(M 0, mO M ca nn ft kn dy fd ak pl iw nm (zFi fi (zEw F (r s1) (nI s1) (nf, nk)) s1) (zCl (nf + zMw F (r s1) (nI s1) (nf, nk))) (zKw F (r s1) (nf, nk)) sd ik kc kf kk kd ko hh), (M 19, .inl (cI, 9, .inl (upd g1 s1 nf))), (M 20, .inl (cI, 8, .inl (upd g2 s1 (zHw F (r s1) (nf, nk))))), (M 21, .inl (cI, 4, .inl (upd ga f ((ga f) + (zHv nk (F.2.1 f) nf))))), (M 22, .inl (cI, 4, .inl fb))] := by rw [← (show fi = zFi fi (zEw F (r s1) (nI s1) (nf, nk)) s1 from by rw [zFi, if_pos (by rw [hm, zEw_f hfb, zFe, if_neg hk2, if_pos hen])])]; exact hD
            have hQ : va_P D vwCl ([(M 0, mO M ca nn ft kn dy fd ak pl iw nm (zFi fi (zEw F (r s1) (nI s1) (nf, nk)) s1) (zCl (nf + zMw F (r s1) (nI s1) (nf, nk))) (zKw F (r s1) (nf, nk)) sd ik kc kf kk kd ko hh), (M 19, .inl (cI, 9, .inl (upd g1 s1 nf))), (M 20, .inl (cI, 8, .inl (upd g2 s1 (zHw F (r s1) (nf, nk))))), (M 21, .inl (cI, 4, .inl (upd ga f ((ga f) + (zHv nk (F.2.1 f) nf))))), (M 22, .inl (cI, 4, .inl fb))] ++ [(M 2, .inl (cI, 4, .inl (fun f => nI (F.1 f)))), (M 3, .inl (cI, 4, .inl F.2.1)), (M 4, .inl (cI, 4, .inl F.2.2)), (M 7, .inl (cI, 8, .inl r))]) H := va_P.app hP (hR.at hS).P
            have hP : va_P D vwCl [(M 0, mO M ca nn ft kn dy fd ak pl iw nm (zFi fi (zEw F (r s1) (nI s1) (nf, nk)) s1) (zCl (nf + zMw F (r s1) (nI s1) (nf, nk))) (zKw F (r s1) (nf, nk)) sd ik kc kf kk kd ko hh), (M 19, .inl (cI, 9, .inl (upd g1 s1 nf))), (M 20, .inl (cI, 8, .inl (upd g2 s1 (zHw F (r s1) (nf, nk))))), (M 21, .inl (cI, 4, .inl (fun j => if r s1 = nI j then ga j + zGw F (r s1) (nI s1) (nf, nk) else ga j))), (M 22, .inl (cI, 4, .inl fb))] H := vz_arr (g := fun j => if r s1 = nI j then ga j + zGw F (r s1) (nI s1) (nf, nk) else ga j) hP 3 rfl (fun j hj => z_uf hm (by omega) (by rw [hm, zGw_f hfb, zGn, if_neg hk2, if_pos hen]) hj)
            have hD : va_D A [(M 0, mO M ca nn ft kn dy fd ak pl iw nm (zFi fi (zEw F (r s1) (nI s1) (nf, nk)) s1) (zCl (nf + zMw F (r s1) (nI s1) (nf, nk))) (zKw F (r s1) (nf, nk)) sd ik kc kf kk kd ko hh), (M 19, .inl (cI, 9, .inl (upd g1 s1 nf))), (M 20, .inl (cI, 8, .inl (upd g2 s1 (zHw F (r s1) (nf, nk))))), (M 21, .inl (cI, 4, .inl (fun j => if r s1 = nI j then ga j + zGw F (r s1) (nI s1) (nf, nk) else ga j))), (M 22, .inl (cI, 4, .inl fb))] := vz_arrD hD 3 rfl
            have hQ : va_P D vwCl ([(M 0, mO M ca nn ft kn dy fd ak pl iw nm (zFi fi (zEw F (r s1) (nI s1) (nf, nk)) s1) (zCl (nf + zMw F (r s1) (nI s1) (nf, nk))) (zKw F (r s1) (nf, nk)) sd ik kc kf kk kd ko hh), (M 19, .inl (cI, 9, .inl (upd g1 s1 nf))), (M 20, .inl (cI, 8, .inl (upd g2 s1 (zHw F (r s1) (nf, nk))))), (M 21, .inl (cI, 4, .inl (fun j => if r s1 = nI j then ga j + zGw F (r s1) (nI s1) (nf, nk) else ga j))), (M 22, .inl (cI, 4, .inl fb))] ++ [(M 2, .inl (cI, 4, .inl (fun f => nI (F.1 f)))), (M 3, .inl (cI, 4, .inl F.2.1)), (M 4, .inl (cI, 4, .inl F.2.2)), (M 7, .inl (cI, 8, .inl r))]) H := va_P.app hP (hR.at hS).P
            have hP : va_P D vwCl [(M 0, mO M ca nn ft kn dy fd ak pl iw nm (zFi fi (zEw F (r s1) (nI s1) (nf, nk)) s1) (zCl (nf + zMw F (r s1) (nI s1) (nf, nk))) (zKw F (r s1) (nf, nk)) sd ik kc kf kk kd ko hh), (M 19, .inl (cI, 9, .inl (upd g1 s1 nf))), (M 20, .inl (cI, 8, .inl (upd g2 s1 (zHw F (r s1) (nf, nk))))), (M 21, .inl (cI, 4, .inl (fun j => if r s1 = nI j then ga j + zGw F (r s1) (nI s1) (nf, nk) else ga j))), (M 22, .inl (cI, 4, .inl (fun j => if r s1 = nI j then fb j + zEw F (r s1) (nI s1) (nf, nk) else fb j)))] H := vz_arr (g := fun j => if r s1 = nI j then fb j + zEw F (r s1) (nI s1) (nf, nk) else fb j) hP 4 rfl (fun j hj => z_u0 (by rw [hm, zEw_f hfb, zFe, if_neg hk2, if_pos hen]))
            have hD : va_D A [(M 0, mO M ca nn ft kn dy fd ak pl iw nm (zFi fi (zEw F (r s1) (nI s1) (nf, nk)) s1) (zCl (nf + zMw F (r s1) (nI s1) (nf, nk))) (zKw F (r s1) (nf, nk)) sd ik kc kf kk kd ko hh), (M 19, .inl (cI, 9, .inl (upd g1 s1 nf))), (M 20, .inl (cI, 8, .inl (upd g2 s1 (zHw F (r s1) (nf, nk))))), (M 21, .inl (cI, 4, .inl (fun j => if r s1 = nI j then ga j + zGw F (r s1) (nI s1) (nf, nk) else ga j))), (M 22, .inl (cI, 4, .inl (fun j => if r s1 = nI j then fb j + zEw F (r s1) (nI s1) (nf, nk) else fb j)))] := vz_arrD hD 4 rfl
            have hQ : va_P D vwCl ([(M 0, mO M ca nn ft kn dy fd ak pl iw nm (zFi fi (zEw F (r s1) (nI s1) (nf, nk)) s1) (zCl (nf + zMw F (r s1) (nI s1) (nf, nk))) (zKw F (r s1) (nf, nk)) sd ik kc kf kk kd ko hh), (M 19, .inl (cI, 9, .inl (upd g1 s1 nf))), (M 20, .inl (cI, 8, .inl (upd g2 s1 (zHw F (r s1) (nf, nk))))), (M 21, .inl (cI, 4, .inl (fun j => if r s1 = nI j then ga j + zGw F (r s1) (nI s1) (nf, nk) else ga j))), (M 22, .inl (cI, 4, .inl (fun j => if r s1 = nI j then fb j + zEw F (r s1) (nI s1) (nf, nk) else fb j)))] ++ [(M 2, .inl (cI, 4, .inl (fun f => nI (F.1 f)))), (M 3, .inl (cI, 4, .inl F.2.1)), (M 4, .inl (cI, 4, .inl F.2.2)), (M 7, .inl (cI, 8, .inl r))]) H := va_P.app hP (hR.at hS).P
            have hP9 := hP.sub (ws' := [(M 0, mO M ca nn ft kn dy fd ak pl iw nm (zFi fi (zEw F (r s1) (nI s1) (nf, nk)) s1) (zCl (nf + zMw F (r s1) (nI s1) (nf, nk))) (zKw F (r s1) (nf, nk)) sd ik kc kf kk kd ko hh), (M 19, .inl (cI, 9, .inl (upd g1 s1 nf))), (M 20, .inl (cI, 8, .inl (upd g2 s1 (zHw F (r s1) (nf, nk))))), (M 21, .inl (cI, 4, .inl (fun j => if r s1 = nI j then ga j + zGw F (r s1) (nI s1) (nf, nk) else ga j))), (M 22, .inl (cI, 4, .inl (fun j => if r s1 = nI j then fb j + zEw F (r s1) (nI s1) (nf, nk) else fb j)))]) [0, 1, 2, 3, 4] rfl
            have hD9 := hD.sub (ws' := [(M 0, mO M ca nn ft kn dy fd ak pl iw nm (zFi fi (zEw F (r s1) (nI s1) (nf, nk)) s1) (zCl (nf + zMw F (r s1) (nI s1) (nf, nk))) (zKw F (r s1) (nf, nk)) sd ik kc kf kk kd ko hh), (M 19, .inl (cI, 9, .inl (upd g1 s1 nf))), (M 20, .inl (cI, 8, .inl (upd g2 s1 (zHw F (r s1) (nf, nk))))), (M 21, .inl (cI, 4, .inl (fun j => if r s1 = nI j then ga j + zGw F (r s1) (nI s1) (nf, nk) else ga j))), (M 22, .inl (cI, 4, .inl (fun j => if r s1 = nI j then fb j + zEw F (r s1) (nI s1) (nf, nk) else fb j)))]) [0, 1, 2, 3, 4] (by decide) rfl
            exact W.vret hx hb hr (fun t ht hW => ⟨⟨(), rfl, trivial, by rw [ht]; exact hP9, hD9⟩, hS.F ht⟩) hS.2.2 dX9_passShift_218
          · have hk3 : F.1 f = 3 := (nI_eq (by omega) (by decide)).mp c_156
            refine lv_aload_n hx hb dX9_passShift_159 rfl (lv_at hl 1 rfl) ?_
            refine va_get (D := D) (cl := vwCl) (tys := zT cI cB cF) (ci := 9) (v := .int nf) (C := RX9) (T := TX9) (N := 41) hx hb hts iw_X9_passShift_X9 hown hK.1 hQ 0 rfl rfl 24 (by decide) (hts _ hw_X9_passShift_3) (fun _ h9 => h9) rfl dX9_passShift_160 ?_
            refine lv_iconst (v := 1) hx hb dX9_passShift_163 (by decide) ?_
            refine lv_iadd hx hb dX9_passShift_164 ?_
            refine lv_goto (tgt := 174) hx hb dX9_passShift_165 (by decide) ?_
            refine vz_rd (va_runS (As := [.int (nf + 1)]) (rest := [.ref (M 0)]) FX (c_X9_atMost l D cI cB cF (nf + 1) ) (va_cwS 1 hts gX9_passShift_X9_atMost rfl rfl rfl hd_X9_atMost ⟨Nat.le_of_ble_eq_true rfl, Nat.le_of_ble_eq_true rfl⟩) (preP_S (hQ.sub (ws' := []) [] rfl) hK) rfl rfl hl.1 rfl (lv_room (Nat.le_of_ble_eq_true rfl)) dX9_passShift_174 ⟨Nat.le_of_ble_eq_true rfl, Nat.le_of_ble_eq_true rfl⟩) ?_
            refine vz_si (zCl (nf + zMw F (r s1) (nI s1) (nf, nk))) (by rw [hm, zMw_f hfb, zMo, if_neg hk2, if_pos hen, if_pos hk3]) ?_
            refine va_put (D := D) (cl := vwCl) (tys := zT cI cB cF) (ci := 9) (v := .int (zCl (nf + zMw F (r s1) (nI s1) (nf, nk)))) (ty := .int) (C := RX9) (T := TX9) (N := 41) hx hb hts iw_X9_passShift_X9 tyX9 tyX9_ok nmX9 hown hK.1 hP hD hS 0 rfl rfl 24 (by decide) (hts _ hw_X9_passShift_3) (fun _ h9 => h9) rfl (tyX9_ok 24 (by decide)) (rfl) (rfl) (Nat.le_of_ble_eq_true rfl) dX9_passShift_177 (fun H locs hP hD hS => ?_)
            have hP : va_P D vwCl [(M 0, mO M ca nn ft kn dy fd ak pl iw nm fi (zCl (nf + zMw F (r s1) (nI s1) (nf, nk))) (zKp nk (F.2.1 f)) sd ik kc kf kk kd ko hh), (M 19, .inl (cI, 9, .inl (upd g1 s1 nf))), (M 20, .inl (cI, 8, .inl (upd g2 s1 (zHv nk (F.2.1 f) nf)))), (M 21, .inl (cI, 4, .inl (upd ga f ((ga f) + (zHv nk (F.2.1 f) nf))))), (M 22, .inl (cI, 4, .inl fb))] H := hP
            have hD : va_D A [(M 0, mO M ca nn ft kn dy fd ak pl iw nm fi (zCl (nf + zMw F (r s1) (nI s1) (nf, nk))) (zKp nk (F.2.1 f)) sd ik kc kf kk kd ko hh), (M 19, .inl (cI, 9, .inl (upd g1 s1 nf))), (M 20, .inl (cI, 8, .inl (upd g2 s1 (zHv nk (F.2.1 f) nf)))), (M 21, .inl (cI, 4, .inl (upd ga f ((ga f) + (zHv nk (F.2.1 f) nf))))), (M 22, .inl (cI, 4, .inl fb))] := hD
            have hQ : va_P D vwCl ([(M 0, mO M ca nn ft kn dy fd ak pl iw nm fi (zCl (nf + zMw F (r s1) (nI s1) (nf, nk))) (zKp nk (F.2.1 f)) sd ik kc kf kk kd ko hh), (M 19, .inl (cI, 9, .inl (upd g1 s1 nf))), (M 20, .inl (cI, 8, .inl (upd g2 s1 (zHv nk (F.2.1 f) nf)))), (M 21, .inl (cI, 4, .inl (upd ga f ((ga f) + (zHv nk (F.2.1 f) nf))))), (M 22, .inl (cI, 4, .inl fb))] ++ [(M 2, .inl (cI, 4, .inl (fun f => nI (F.1 f)))), (M 3, .inl (cI, 4, .inl F.2.1)), (M 4, .inl (cI, 4, .inl F.2.2)), (M 7, .inl (cI, 8, .inl r))]) H := va_P.app hP (hR.at hS).P
            refine lv_goto (tgt := 218) hx hb dX9_passShift_180 (by decide) ?_
            have hP : va_P D vwCl [(M 0, mO M ca nn ft kn dy fd ak pl iw nm fi (zCl (nf + zMw F (r s1) (nI s1) (nf, nk))) (zKw F (r s1) (nf, nk)) sd ik kc kf kk kd ko hh), (M 19, .inl (cI, 9, .inl (upd g1 s1 nf))), (M 20, .inl (cI, 8, .inl (upd g2 s1 (zHv nk (F.2.1 f) nf)))), (M 21, .inl (cI, 4, .inl (upd ga f ((ga f) + (zHv nk (F.2.1 f) nf))))), (M 22, .inl (cI, 4, .inl fb))] H := by rw [← (show zKp nk (F.2.1 f) = zKw F (r s1) (nf, nk) from by rw [hm, zKw_f hfb])]; exact hP
            have hD : va_D A [(M 0, mO M ca nn ft kn dy fd ak pl iw nm fi (zCl (nf + zMw F (r s1) (nI s1) (nf, nk))) (zKw F (r s1) (nf, nk)) sd ik kc kf kk kd ko hh), (M 19, .inl (cI, 9, .inl (upd g1 s1 nf))), (M 20, .inl (cI, 8, .inl (upd g2 s1 (zHv nk (F.2.1 f) nf)))), (M 21, .inl (cI, 4, .inl (upd ga f ((ga f) + (zHv nk (F.2.1 f) nf))))), (M 22, .inl (cI, 4, .inl fb))] := by rw [← (show zKp nk (F.2.1 f) = zKw F (r s1) (nf, nk) from by rw [hm, zKw_f hfb])]; exact hD
            have hQ : va_P D vwCl ([(M 0, mO M ca nn ft kn dy fd ak pl iw nm fi (zCl (nf + zMw F (r s1) (nI s1) (nf, nk))) (zKw F (r s1) (nf, nk)) sd ik kc kf kk kd ko hh), (M 19, .inl (cI, 9, .inl (upd g1 s1 nf))), (M 20, .inl (cI, 8, .inl (upd g2 s1 (zHv nk (F.2.1 f) nf)))), (M 21, .inl (cI, 4, .inl (upd ga f ((ga f) + (zHv nk (F.2.1 f) nf))))), (M 22, .inl (cI, 4, .inl fb))] ++ [(M 2, .inl (cI, 4, .inl (fun f => nI (F.1 f)))), (M 3, .inl (cI, 4, .inl F.2.1)), (M 4, .inl (cI, 4, .inl F.2.2)), (M 7, .inl (cI, 8, .inl r))]) H := va_P.app hP (hR.at hS).P
            have hP : va_P D vwCl [(M 0, mO M ca nn ft kn dy fd ak pl iw nm fi (zCl (nf + zMw F (r s1) (nI s1) (nf, nk))) (zKw F (r s1) (nf, nk)) sd ik kc kf kk kd ko hh), (M 19, .inl (cI, 9, .inl (upd g1 s1 nf))), (M 20, .inl (cI, 8, .inl (upd g2 s1 (zHw F (r s1) (nf, nk))))), (M 21, .inl (cI, 4, .inl (upd ga f ((ga f) + (zHv nk (F.2.1 f) nf))))), (M 22, .inl (cI, 4, .inl fb))] H := vz_arr (g := upd g2 s1 (zHw F (r s1) (nf, nk))) hP 2 rfl (fun j _ => by rw [hm, zHw_f hfb])
            have hD : va_D A [(M 0, mO M ca nn ft kn dy fd ak pl iw nm fi (zCl (nf + zMw F (r s1) (nI s1) (nf, nk))) (zKw F (r s1) (nf, nk)) sd ik kc kf kk kd ko hh), (M 19, .inl (cI, 9, .inl (upd g1 s1 nf))), (M 20, .inl (cI, 8, .inl (upd g2 s1 (zHw F (r s1) (nf, nk))))), (M 21, .inl (cI, 4, .inl (upd ga f ((ga f) + (zHv nk (F.2.1 f) nf))))), (M 22, .inl (cI, 4, .inl fb))] := vz_arrD hD 2 rfl
            have hQ : va_P D vwCl ([(M 0, mO M ca nn ft kn dy fd ak pl iw nm fi (zCl (nf + zMw F (r s1) (nI s1) (nf, nk))) (zKw F (r s1) (nf, nk)) sd ik kc kf kk kd ko hh), (M 19, .inl (cI, 9, .inl (upd g1 s1 nf))), (M 20, .inl (cI, 8, .inl (upd g2 s1 (zHw F (r s1) (nf, nk))))), (M 21, .inl (cI, 4, .inl (upd ga f ((ga f) + (zHv nk (F.2.1 f) nf))))), (M 22, .inl (cI, 4, .inl fb))] ++ [(M 2, .inl (cI, 4, .inl (fun f => nI (F.1 f)))), (M 3, .inl (cI, 4, .inl F.2.1)), (M 4, .inl (cI, 4, .inl F.2.2)), (M 7, .inl (cI, 8, .inl r))]) H := va_P.app hP (hR.at hS).P
            have hP : va_P D vwCl [(M 0, mO M ca nn ft kn dy fd ak pl iw nm (zFi fi (zEw F (r s1) (nI s1) (nf, nk)) s1) (zCl (nf + zMw F (r s1) (nI s1) (nf, nk))) (zKw F (r s1) (nf, nk)) sd ik kc kf kk kd ko hh), (M 19, .inl (cI, 9, .inl (upd g1 s1 nf))), (M 20, .inl (cI, 8, .inl (upd g2 s1 (zHw F (r s1) (nf, nk))))), (M 21, .inl (cI, 4, .inl (upd ga f ((ga f) + (zHv nk (F.2.1 f) nf))))), (M 22, .inl (cI, 4, .inl fb))] H := by rw [← (show fi = zFi fi (zEw F (r s1) (nI s1) (nf, nk)) s1 from by rw [zFi, if_pos (by rw [hm, zEw_f hfb, zFe, if_neg hk2, if_pos hen])])]; exact hP
            have hD : va_D A [(M 0, mO M ca nn ft kn dy fd ak pl iw nm (zFi fi (zEw F (r s1) (nI s1) (nf, nk)) s1) (zCl (nf + zMw F (r s1) (nI s1) (nf, nk))) (zKw F (r s1) (nf, nk)) sd ik kc kf kk kd ko hh), (M 19, .inl (cI, 9, .inl (upd g1 s1 nf))), (M 20, .inl (cI, 8, .inl (upd g2 s1 (zHw F (r s1) (nf, nk))))), (M 21, .inl (cI, 4, .inl (upd ga f ((ga f) + (zHv nk (F.2.1 f) nf))))), (M 22, .inl (cI, 4, .inl fb))] := by rw [← (show fi = zFi fi (zEw F (r s1) (nI s1) (nf, nk)) s1 from by rw [zFi, if_pos (by rw [hm, zEw_f hfb, zFe, if_neg hk2, if_pos hen])])]; exact hD
            have hQ : va_P D vwCl ([(M 0, mO M ca nn ft kn dy fd ak pl iw nm (zFi fi (zEw F (r s1) (nI s1) (nf, nk)) s1) (zCl (nf + zMw F (r s1) (nI s1) (nf, nk))) (zKw F (r s1) (nf, nk)) sd ik kc kf kk kd ko hh), (M 19, .inl (cI, 9, .inl (upd g1 s1 nf))), (M 20, .inl (cI, 8, .inl (upd g2 s1 (zHw F (r s1) (nf, nk))))), (M 21, .inl (cI, 4, .inl (upd ga f ((ga f) + (zHv nk (F.2.1 f) nf))))), (M 22, .inl (cI, 4, .inl fb))] ++ [(M 2, .inl (cI, 4, .inl (fun f => nI (F.1 f)))), (M 3, .inl (cI, 4, .inl F.2.1)), (M 4, .inl (cI, 4, .inl F.2.2)), (M 7, .inl (cI, 8, .inl r))]) H := va_P.app hP (hR.at hS).P
            have hP : va_P D vwCl [(M 0, mO M ca nn ft kn dy fd ak pl iw nm (zFi fi (zEw F (r s1) (nI s1) (nf, nk)) s1) (zCl (nf + zMw F (r s1) (nI s1) (nf, nk))) (zKw F (r s1) (nf, nk)) sd ik kc kf kk kd ko hh), (M 19, .inl (cI, 9, .inl (upd g1 s1 nf))), (M 20, .inl (cI, 8, .inl (upd g2 s1 (zHw F (r s1) (nf, nk))))), (M 21, .inl (cI, 4, .inl (fun j => if r s1 = nI j then ga j + zGw F (r s1) (nI s1) (nf, nk) else ga j))), (M 22, .inl (cI, 4, .inl fb))] H := vz_arr (g := fun j => if r s1 = nI j then ga j + zGw F (r s1) (nI s1) (nf, nk) else ga j) hP 3 rfl (fun j hj => z_uf hm (by omega) (by rw [hm, zGw_f hfb, zGn, if_neg hk2, if_pos hen]) hj)
            have hD : va_D A [(M 0, mO M ca nn ft kn dy fd ak pl iw nm (zFi fi (zEw F (r s1) (nI s1) (nf, nk)) s1) (zCl (nf + zMw F (r s1) (nI s1) (nf, nk))) (zKw F (r s1) (nf, nk)) sd ik kc kf kk kd ko hh), (M 19, .inl (cI, 9, .inl (upd g1 s1 nf))), (M 20, .inl (cI, 8, .inl (upd g2 s1 (zHw F (r s1) (nf, nk))))), (M 21, .inl (cI, 4, .inl (fun j => if r s1 = nI j then ga j + zGw F (r s1) (nI s1) (nf, nk) else ga j))), (M 22, .inl (cI, 4, .inl fb))] := vz_arrD hD 3 rfl
            have hQ : va_P D vwCl ([(M 0, mO M ca nn ft kn dy fd ak pl iw nm (zFi fi (zEw F (r s1) (nI s1) (nf, nk)) s1) (zCl (nf + zMw F (r s1) (nI s1) (nf, nk))) (zKw F (r s1) (nf, nk)) sd ik kc kf kk kd ko hh), (M 19, .inl (cI, 9, .inl (upd g1 s1 nf))), (M 20, .inl (cI, 8, .inl (upd g2 s1 (zHw F (r s1) (nf, nk))))), (M 21, .inl (cI, 4, .inl (fun j => if r s1 = nI j then ga j + zGw F (r s1) (nI s1) (nf, nk) else ga j))), (M 22, .inl (cI, 4, .inl fb))] ++ [(M 2, .inl (cI, 4, .inl (fun f => nI (F.1 f)))), (M 3, .inl (cI, 4, .inl F.2.1)), (M 4, .inl (cI, 4, .inl F.2.2)), (M 7, .inl (cI, 8, .inl r))]) H := va_P.app hP (hR.at hS).P
            have hP : va_P D vwCl [(M 0, mO M ca nn ft kn dy fd ak pl iw nm (zFi fi (zEw F (r s1) (nI s1) (nf, nk)) s1) (zCl (nf + zMw F (r s1) (nI s1) (nf, nk))) (zKw F (r s1) (nf, nk)) sd ik kc kf kk kd ko hh), (M 19, .inl (cI, 9, .inl (upd g1 s1 nf))), (M 20, .inl (cI, 8, .inl (upd g2 s1 (zHw F (r s1) (nf, nk))))), (M 21, .inl (cI, 4, .inl (fun j => if r s1 = nI j then ga j + zGw F (r s1) (nI s1) (nf, nk) else ga j))), (M 22, .inl (cI, 4, .inl (fun j => if r s1 = nI j then fb j + zEw F (r s1) (nI s1) (nf, nk) else fb j)))] H := vz_arr (g := fun j => if r s1 = nI j then fb j + zEw F (r s1) (nI s1) (nf, nk) else fb j) hP 4 rfl (fun j hj => z_u0 (by rw [hm, zEw_f hfb, zFe, if_neg hk2, if_pos hen]))
            have hD : va_D A [(M 0, mO M ca nn ft kn dy fd ak pl iw nm (zFi fi (zEw F (r s1) (nI s1) (nf, nk)) s1) (zCl (nf + zMw F (r s1) (nI s1) (nf, nk))) (zKw F (r s1) (nf, nk)) sd ik kc kf kk kd ko hh), (M 19, .inl (cI, 9, .inl (upd g1 s1 nf))), (M 20, .inl (cI, 8, .inl (upd g2 s1 (zHw F (r s1) (nf, nk))))), (M 21, .inl (cI, 4, .inl (fun j => if r s1 = nI j then ga j + zGw F (r s1) (nI s1) (nf, nk) else ga j))), (M 22, .inl (cI, 4, .inl (fun j => if r s1 = nI j then fb j + zEw F (r s1) (nI s1) (nf, nk) else fb j)))] := vz_arrD hD 4 rfl
            have hQ : va_P D vwCl ([(M 0, mO M ca nn ft kn dy fd ak pl iw nm (zFi fi (zEw F (r s1) (nI s1) (nf, nk)) s1) (zCl (nf + zMw F (r s1) (nI s1) (nf, nk))) (zKw F (r s1) (nf, nk)) sd ik kc kf kk kd ko hh), (M 19, .inl (cI, 9, .inl (upd g1 s1 nf))), (M 20, .inl (cI, 8, .inl (upd g2 s1 (zHw F (r s1) (nf, nk))))), (M 21, .inl (cI, 4, .inl (fun j => if r s1 = nI j then ga j + zGw F (r s1) (nI s1) (nf, nk) else ga j))), (M 22, .inl (cI, 4, .inl (fun j => if r s1 = nI j then fb j + zEw F (r s1) (nI s1) (nf, nk) else fb j)))] ++ [(M 2, .inl (cI, 4, .inl (fun f => nI (F.1 f)))), (M 3, .inl (cI, 4, .inl F.2.1)), (M 4, .inl (cI, 4, .inl F.2.2)), (M 7, .inl (cI, 8, .inl r))]) H := va_P.app hP (hR.at hS).P
            have hP9 := hP.sub (ws' := [(M 0, mO M ca nn ft kn dy fd ak pl iw nm (zFi fi (zEw F (r s1) (nI s1) (nf, nk)) s1) (zCl (nf + zMw F (r s1) (nI s1) (nf, nk))) (zKw F (r s1) (nf, nk)) sd ik kc kf kk kd ko hh), (M 19, .inl (cI, 9, .inl (upd g1 s1 nf))), (M 20, .inl (cI, 8, .inl (upd g2 s1 (zHw F (r s1) (nf, nk))))), (M 21, .inl (cI, 4, .inl (fun j => if r s1 = nI j then ga j + zGw F (r s1) (nI s1) (nf, nk) else ga j))), (M 22, .inl (cI, 4, .inl (fun j => if r s1 = nI j then fb j + zEw F (r s1) (nI s1) (nf, nk) else fb j)))]) [0, 1, 2, 3, 4] rfl
            have hD9 := hD.sub (ws' := [(M 0, mO M ca nn ft kn dy fd ak pl iw nm (zFi fi (zEw F (r s1) (nI s1) (nf, nk)) s1) (zCl (nf + zMw F (r s1) (nI s1) (nf, nk))) (zKw F (r s1) (nf, nk)) sd ik kc kf kk kd ko hh), (M 19, .inl (cI, 9, .inl (upd g1 s1 nf))), (M 20, .inl (cI, 8, .inl (upd g2 s1 (zHw F (r s1) (nf, nk))))), (M 21, .inl (cI, 4, .inl (fun j => if r s1 = nI j then ga j + zGw F (r s1) (nI s1) (nf, nk) else ga j))), (M 22, .inl (cI, 4, .inl (fun j => if r s1 = nI j then fb j + zEw F (r s1) (nI s1) (nf, nk) else fb j)))]) [0, 1, 2, 3, 4] (by decide) rfl
            exact W.vret hx hb hr (fun t ht hW => ⟨⟨(), rfl, trivial, by rw [ht]; exact hP9, hD9⟩, hS.F ht⟩) hS.2.2 dX9_passShift_218
      · have hk2 : F.1 f = 2 := (nI_eq (by omega) (by decide)).mp c_99
        refine lv_aload_n hx hb dX9_passShift_102 rfl (lv_at hl 1 rfl) ?_
        refine lv_aload_n hx hb dX9_passShift_103 rfl (lv_at hl 1 rfl) ?_
        refine va_get (D := D) (cl := vwCl) (tys := zT cI cB cF) (ci := 9) (v := .int nf) (C := RX9) (T := TX9) (N := 41) hx hb hts iw_X9_passShift_X9 hown hK.1 hQ 0 rfl rfl 24 (by decide) (hts _ hw_X9_passShift_3) (fun _ h9 => h9) rfl dX9_passShift_104 ?_
        refine lv_iconst (v := 2) hx hb dX9_passShift_107 (by decide) ?_
        refine lv_iadd hx hb dX9_passShift_108 ?_
        refine vz_rd (va_runS (As := [.int (nf + 2)]) (rest := [.ref (M 0)]) FX (c_X9_atMost l D cI cB cF (nf + 2) ) (va_cwS 1 hts gX9_passShift_X9_atMost rfl rfl rfl hd_X9_atMost ⟨Nat.le_of_ble_eq_true rfl, Nat.le_of_ble_eq_true rfl⟩) (preP_S (hQ.sub (ws' := []) [] rfl) hK) rfl rfl hl.1 rfl (lv_room (Nat.le_of_ble_eq_true rfl)) dX9_passShift_109 ⟨Nat.le_of_ble_eq_true rfl, Nat.le_of_ble_eq_true rfl⟩) ?_
        refine vz_si (zCl (nf + zMw F (r s1) (nI s1) (nf, nk))) (by rw [hm, zMw_f hfb, zMo, if_pos hk2]) ?_
        refine va_put (D := D) (cl := vwCl) (tys := zT cI cB cF) (ci := 9) (v := .int (zCl (nf + zMw F (r s1) (nI s1) (nf, nk)))) (ty := .int) (C := RX9) (T := TX9) (N := 41) hx hb hts iw_X9_passShift_X9 tyX9 tyX9_ok nmX9 hown hK.1 hP hD hS 0 rfl rfl 24 (by decide) (hts _ hw_X9_passShift_3) (fun _ h9 => h9) rfl (tyX9_ok 24 (by decide)) (rfl) (rfl) (Nat.le_of_ble_eq_true rfl) dX9_passShift_112 (fun H locs hP hD hS => ?_)
        have hP : va_P D vwCl [(M 0, mO M ca nn ft kn dy fd ak pl iw nm fi (zCl (nf + zMw F (r s1) (nI s1) (nf, nk))) (zKp nk (F.2.1 f)) sd ik kc kf kk kd ko hh), (M 19, .inl (cI, 9, .inl (upd g1 s1 nf))), (M 20, .inl (cI, 8, .inl (upd g2 s1 (zHv nk (F.2.1 f) nf)))), (M 21, .inl (cI, 4, .inl ga)), (M 22, .inl (cI, 4, .inl fb))] H := hP
        have hD : va_D A [(M 0, mO M ca nn ft kn dy fd ak pl iw nm fi (zCl (nf + zMw F (r s1) (nI s1) (nf, nk))) (zKp nk (F.2.1 f)) sd ik kc kf kk kd ko hh), (M 19, .inl (cI, 9, .inl (upd g1 s1 nf))), (M 20, .inl (cI, 8, .inl (upd g2 s1 (zHv nk (F.2.1 f) nf)))), (M 21, .inl (cI, 4, .inl ga)), (M 22, .inl (cI, 4, .inl fb))] := hD
        have hQ : va_P D vwCl ([(M 0, mO M ca nn ft kn dy fd ak pl iw nm fi (zCl (nf + zMw F (r s1) (nI s1) (nf, nk))) (zKp nk (F.2.1 f)) sd ik kc kf kk kd ko hh), (M 19, .inl (cI, 9, .inl (upd g1 s1 nf))), (M 20, .inl (cI, 8, .inl (upd g2 s1 (zHv nk (F.2.1 f) nf)))), (M 21, .inl (cI, 4, .inl ga)), (M 22, .inl (cI, 4, .inl fb))] ++ [(M 2, .inl (cI, 4, .inl (fun f => nI (F.1 f)))), (M 3, .inl (cI, 4, .inl F.2.1)), (M 4, .inl (cI, 4, .inl F.2.2)), (M 7, .inl (cI, 8, .inl r))]) H := va_P.app hP (hR.at hS).P
        refine lv_goto (tgt := 218) hx hb dX9_passShift_115 (by decide) ?_
        have hP : va_P D vwCl [(M 0, mO M ca nn ft kn dy fd ak pl iw nm fi (zCl (nf + zMw F (r s1) (nI s1) (nf, nk))) (zKw F (r s1) (nf, nk)) sd ik kc kf kk kd ko hh), (M 19, .inl (cI, 9, .inl (upd g1 s1 nf))), (M 20, .inl (cI, 8, .inl (upd g2 s1 (zHv nk (F.2.1 f) nf)))), (M 21, .inl (cI, 4, .inl ga)), (M 22, .inl (cI, 4, .inl fb))] H := by rw [← (show zKp nk (F.2.1 f) = zKw F (r s1) (nf, nk) from by rw [hm, zKw_f hfb])]; exact hP
        have hD : va_D A [(M 0, mO M ca nn ft kn dy fd ak pl iw nm fi (zCl (nf + zMw F (r s1) (nI s1) (nf, nk))) (zKw F (r s1) (nf, nk)) sd ik kc kf kk kd ko hh), (M 19, .inl (cI, 9, .inl (upd g1 s1 nf))), (M 20, .inl (cI, 8, .inl (upd g2 s1 (zHv nk (F.2.1 f) nf)))), (M 21, .inl (cI, 4, .inl ga)), (M 22, .inl (cI, 4, .inl fb))] := by rw [← (show zKp nk (F.2.1 f) = zKw F (r s1) (nf, nk) from by rw [hm, zKw_f hfb])]; exact hD
        have hQ : va_P D vwCl ([(M 0, mO M ca nn ft kn dy fd ak pl iw nm fi (zCl (nf + zMw F (r s1) (nI s1) (nf, nk))) (zKw F (r s1) (nf, nk)) sd ik kc kf kk kd ko hh), (M 19, .inl (cI, 9, .inl (upd g1 s1 nf))), (M 20, .inl (cI, 8, .inl (upd g2 s1 (zHv nk (F.2.1 f) nf)))), (M 21, .inl (cI, 4, .inl ga)), (M 22, .inl (cI, 4, .inl fb))] ++ [(M 2, .inl (cI, 4, .inl (fun f => nI (F.1 f)))), (M 3, .inl (cI, 4, .inl F.2.1)), (M 4, .inl (cI, 4, .inl F.2.2)), (M 7, .inl (cI, 8, .inl r))]) H := va_P.app hP (hR.at hS).P
        have hP : va_P D vwCl [(M 0, mO M ca nn ft kn dy fd ak pl iw nm fi (zCl (nf + zMw F (r s1) (nI s1) (nf, nk))) (zKw F (r s1) (nf, nk)) sd ik kc kf kk kd ko hh), (M 19, .inl (cI, 9, .inl (upd g1 s1 nf))), (M 20, .inl (cI, 8, .inl (upd g2 s1 (zHw F (r s1) (nf, nk))))), (M 21, .inl (cI, 4, .inl ga)), (M 22, .inl (cI, 4, .inl fb))] H := vz_arr (g := upd g2 s1 (zHw F (r s1) (nf, nk))) hP 2 rfl (fun j _ => by rw [hm, zHw_f hfb])
        have hD : va_D A [(M 0, mO M ca nn ft kn dy fd ak pl iw nm fi (zCl (nf + zMw F (r s1) (nI s1) (nf, nk))) (zKw F (r s1) (nf, nk)) sd ik kc kf kk kd ko hh), (M 19, .inl (cI, 9, .inl (upd g1 s1 nf))), (M 20, .inl (cI, 8, .inl (upd g2 s1 (zHw F (r s1) (nf, nk))))), (M 21, .inl (cI, 4, .inl ga)), (M 22, .inl (cI, 4, .inl fb))] := vz_arrD hD 2 rfl
        have hQ : va_P D vwCl ([(M 0, mO M ca nn ft kn dy fd ak pl iw nm fi (zCl (nf + zMw F (r s1) (nI s1) (nf, nk))) (zKw F (r s1) (nf, nk)) sd ik kc kf kk kd ko hh), (M 19, .inl (cI, 9, .inl (upd g1 s1 nf))), (M 20, .inl (cI, 8, .inl (upd g2 s1 (zHw F (r s1) (nf, nk))))), (M 21, .inl (cI, 4, .inl ga)), (M 22, .inl (cI, 4, .inl fb))] ++ [(M 2, .inl (cI, 4, .inl (fun f => nI (F.1 f)))), (M 3, .inl (cI, 4, .inl F.2.1)), (M 4, .inl (cI, 4, .inl F.2.2)), (M 7, .inl (cI, 8, .inl r))]) H := va_P.app hP (hR.at hS).P
        have hP : va_P D vwCl [(M 0, mO M ca nn ft kn dy fd ak pl iw nm (zFi fi (zEw F (r s1) (nI s1) (nf, nk)) s1) (zCl (nf + zMw F (r s1) (nI s1) (nf, nk))) (zKw F (r s1) (nf, nk)) sd ik kc kf kk kd ko hh), (M 19, .inl (cI, 9, .inl (upd g1 s1 nf))), (M 20, .inl (cI, 8, .inl (upd g2 s1 (zHw F (r s1) (nf, nk))))), (M 21, .inl (cI, 4, .inl ga)), (M 22, .inl (cI, 4, .inl fb))] H := by rw [← (show fi = zFi fi (zEw F (r s1) (nI s1) (nf, nk)) s1 from by rw [zFi, if_pos (by rw [hm, zEw_f hfb, zFe, if_pos hk2])])]; exact hP
        have hD : va_D A [(M 0, mO M ca nn ft kn dy fd ak pl iw nm (zFi fi (zEw F (r s1) (nI s1) (nf, nk)) s1) (zCl (nf + zMw F (r s1) (nI s1) (nf, nk))) (zKw F (r s1) (nf, nk)) sd ik kc kf kk kd ko hh), (M 19, .inl (cI, 9, .inl (upd g1 s1 nf))), (M 20, .inl (cI, 8, .inl (upd g2 s1 (zHw F (r s1) (nf, nk))))), (M 21, .inl (cI, 4, .inl ga)), (M 22, .inl (cI, 4, .inl fb))] := by rw [← (show fi = zFi fi (zEw F (r s1) (nI s1) (nf, nk)) s1 from by rw [zFi, if_pos (by rw [hm, zEw_f hfb, zFe, if_pos hk2])])]; exact hD
        have hQ : va_P D vwCl ([(M 0, mO M ca nn ft kn dy fd ak pl iw nm (zFi fi (zEw F (r s1) (nI s1) (nf, nk)) s1) (zCl (nf + zMw F (r s1) (nI s1) (nf, nk))) (zKw F (r s1) (nf, nk)) sd ik kc kf kk kd ko hh), (M 19, .inl (cI, 9, .inl (upd g1 s1 nf))), (M 20, .inl (cI, 8, .inl (upd g2 s1 (zHw F (r s1) (nf, nk))))), (M 21, .inl (cI, 4, .inl ga)), (M 22, .inl (cI, 4, .inl fb))] ++ [(M 2, .inl (cI, 4, .inl (fun f => nI (F.1 f)))), (M 3, .inl (cI, 4, .inl F.2.1)), (M 4, .inl (cI, 4, .inl F.2.2)), (M 7, .inl (cI, 8, .inl r))]) H := va_P.app hP (hR.at hS).P
        have hP : va_P D vwCl [(M 0, mO M ca nn ft kn dy fd ak pl iw nm (zFi fi (zEw F (r s1) (nI s1) (nf, nk)) s1) (zCl (nf + zMw F (r s1) (nI s1) (nf, nk))) (zKw F (r s1) (nf, nk)) sd ik kc kf kk kd ko hh), (M 19, .inl (cI, 9, .inl (upd g1 s1 nf))), (M 20, .inl (cI, 8, .inl (upd g2 s1 (zHw F (r s1) (nf, nk))))), (M 21, .inl (cI, 4, .inl (fun j => if r s1 = nI j then ga j + zGw F (r s1) (nI s1) (nf, nk) else ga j))), (M 22, .inl (cI, 4, .inl fb))] H := vz_arr (g := fun j => if r s1 = nI j then ga j + zGw F (r s1) (nI s1) (nf, nk) else ga j) hP 3 rfl (fun j hj => z_u0 (by rw [hm, zGw_f hfb, zGn, if_pos hk2]))
        have hD : va_D A [(M 0, mO M ca nn ft kn dy fd ak pl iw nm (zFi fi (zEw F (r s1) (nI s1) (nf, nk)) s1) (zCl (nf + zMw F (r s1) (nI s1) (nf, nk))) (zKw F (r s1) (nf, nk)) sd ik kc kf kk kd ko hh), (M 19, .inl (cI, 9, .inl (upd g1 s1 nf))), (M 20, .inl (cI, 8, .inl (upd g2 s1 (zHw F (r s1) (nf, nk))))), (M 21, .inl (cI, 4, .inl (fun j => if r s1 = nI j then ga j + zGw F (r s1) (nI s1) (nf, nk) else ga j))), (M 22, .inl (cI, 4, .inl fb))] := vz_arrD hD 3 rfl
        have hQ : va_P D vwCl ([(M 0, mO M ca nn ft kn dy fd ak pl iw nm (zFi fi (zEw F (r s1) (nI s1) (nf, nk)) s1) (zCl (nf + zMw F (r s1) (nI s1) (nf, nk))) (zKw F (r s1) (nf, nk)) sd ik kc kf kk kd ko hh), (M 19, .inl (cI, 9, .inl (upd g1 s1 nf))), (M 20, .inl (cI, 8, .inl (upd g2 s1 (zHw F (r s1) (nf, nk))))), (M 21, .inl (cI, 4, .inl (fun j => if r s1 = nI j then ga j + zGw F (r s1) (nI s1) (nf, nk) else ga j))), (M 22, .inl (cI, 4, .inl fb))] ++ [(M 2, .inl (cI, 4, .inl (fun f => nI (F.1 f)))), (M 3, .inl (cI, 4, .inl F.2.1)), (M 4, .inl (cI, 4, .inl F.2.2)), (M 7, .inl (cI, 8, .inl r))]) H := va_P.app hP (hR.at hS).P
        have hP : va_P D vwCl [(M 0, mO M ca nn ft kn dy fd ak pl iw nm (zFi fi (zEw F (r s1) (nI s1) (nf, nk)) s1) (zCl (nf + zMw F (r s1) (nI s1) (nf, nk))) (zKw F (r s1) (nf, nk)) sd ik kc kf kk kd ko hh), (M 19, .inl (cI, 9, .inl (upd g1 s1 nf))), (M 20, .inl (cI, 8, .inl (upd g2 s1 (zHw F (r s1) (nf, nk))))), (M 21, .inl (cI, 4, .inl (fun j => if r s1 = nI j then ga j + zGw F (r s1) (nI s1) (nf, nk) else ga j))), (M 22, .inl (cI, 4, .inl (fun j => if r s1 = nI j then fb j + zEw F (r s1) (nI s1) (nf, nk) else fb j)))] H := vz_arr (g := fun j => if r s1 = nI j then fb j + zEw F (r s1) (nI s1) (nf, nk) else fb j) hP 4 rfl (fun j hj => z_u0 (by rw [hm, zEw_f hfb, zFe, if_pos hk2]))
        have hD : va_D A [(M 0, mO M ca nn ft kn dy fd ak pl iw nm (zFi fi (zEw F (r s1) (nI s1) (nf, nk)) s1) (zCl (nf + zMw F (r s1) (nI s1) (nf, nk))) (zKw F (r s1) (nf, nk)) sd ik kc kf kk kd ko hh), (M 19, .inl (cI, 9, .inl (upd g1 s1 nf))), (M 20, .inl (cI, 8, .inl (upd g2 s1 (zHw F (r s1) (nf, nk))))), (M 21, .inl (cI, 4, .inl (fun j => if r s1 = nI j then ga j + zGw F (r s1) (nI s1) (nf, nk) else ga j))), (M 22, .inl (cI, 4, .inl (fun j => if r s1 = nI j then fb j + zEw F (r s1) (nI s1) (nf, nk) else fb j)))] := vz_arrD hD 4 rfl
        have hQ : va_P D vwCl ([(M 0, mO M ca nn ft kn dy fd ak pl iw nm (zFi fi (zEw F (r s1) (nI s1) (nf, nk)) s1) (zCl (nf + zMw F (r s1) (nI s1) (nf, nk))) (zKw F (r s1) (nf, nk)) sd ik kc kf kk kd ko hh), (M 19, .inl (cI, 9, .inl (upd g1 s1 nf))), (M 20, .inl (cI, 8, .inl (upd g2 s1 (zHw F (r s1) (nf, nk))))), (M 21, .inl (cI, 4, .inl (fun j => if r s1 = nI j then ga j + zGw F (r s1) (nI s1) (nf, nk) else ga j))), (M 22, .inl (cI, 4, .inl (fun j => if r s1 = nI j then fb j + zEw F (r s1) (nI s1) (nf, nk) else fb j)))] ++ [(M 2, .inl (cI, 4, .inl (fun f => nI (F.1 f)))), (M 3, .inl (cI, 4, .inl F.2.1)), (M 4, .inl (cI, 4, .inl F.2.2)), (M 7, .inl (cI, 8, .inl r))]) H := va_P.app hP (hR.at hS).P
        have hP9 := hP.sub (ws' := [(M 0, mO M ca nn ft kn dy fd ak pl iw nm (zFi fi (zEw F (r s1) (nI s1) (nf, nk)) s1) (zCl (nf + zMw F (r s1) (nI s1) (nf, nk))) (zKw F (r s1) (nf, nk)) sd ik kc kf kk kd ko hh), (M 19, .inl (cI, 9, .inl (upd g1 s1 nf))), (M 20, .inl (cI, 8, .inl (upd g2 s1 (zHw F (r s1) (nf, nk))))), (M 21, .inl (cI, 4, .inl (fun j => if r s1 = nI j then ga j + zGw F (r s1) (nI s1) (nf, nk) else ga j))), (M 22, .inl (cI, 4, .inl (fun j => if r s1 = nI j then fb j + zEw F (r s1) (nI s1) (nf, nk) else fb j)))]) [0, 1, 2, 3, 4] rfl
        have hD9 := hD.sub (ws' := [(M 0, mO M ca nn ft kn dy fd ak pl iw nm (zFi fi (zEw F (r s1) (nI s1) (nf, nk)) s1) (zCl (nf + zMw F (r s1) (nI s1) (nf, nk))) (zKw F (r s1) (nf, nk)) sd ik kc kf kk kd ko hh), (M 19, .inl (cI, 9, .inl (upd g1 s1 nf))), (M 20, .inl (cI, 8, .inl (upd g2 s1 (zHw F (r s1) (nf, nk))))), (M 21, .inl (cI, 4, .inl (fun j => if r s1 = nI j then ga j + zGw F (r s1) (nI s1) (nf, nk) else ga j))), (M 22, .inl (cI, 4, .inl (fun j => if r s1 = nI j then fb j + zEw F (r s1) (nI s1) (nf, nk) else fb j)))]) [0, 1, 2, 3, 4] (by decide) rfl
        exact W.vret hx hb hr (fun t ht hW => ⟨⟨(), rfl, trivial, by rw [ht]; exact hP9, hD9⟩, hS.F ht⟩) hS.2.2 dX9_passShift_218
