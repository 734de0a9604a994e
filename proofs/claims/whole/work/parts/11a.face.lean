set_option maxRecDepth 100000 in
theorem hw_J6_bitCount_0f7a4_1 : (.constant RJ6 265 (1431655765) : Cond) ∈ wsJ6_bitCount_0f7a4 := List.mem_of_getElem? (i := 1) rfl
set_option maxRecDepth 100000 in
theorem hw_J6_bitCount_0f7a4_2 : (.constant RJ6 266 (858993459) : Cond) ∈ wsJ6_bitCount_0f7a4 := List.mem_of_getElem? (i := 2) rfl
set_option maxRecDepth 100000 in
theorem hw_J6_bitCount_0f7a4_3 : (.constant RJ6 267 (252645135) : Cond) ∈ wsJ6_bitCount_0f7a4 := List.mem_of_getElem? (i := 3) rfl
set_option maxRecDepth 100000 in
theorem hd_J6_bitCount_0f7a4 : yJ6_bitCount_0f7a4.cls ≠ "java/lang/invoke/MethodHandle" ∧ yJ6_bitCount_0f7a4.cls ≠ "java/lang/invoke/VarHandle" ∧ (parseMethodDescriptor yJ6_bitCount_0f7a4.desc).map (fun d => d.parameters.length) = some 1 := by decide +kernel
set_option maxHeartbeats 4000000 in
set_option maxRecDepth 100000 in
theorem c_J6_bitCount_0f7a4 (l : Launch) (D : va_G) (cI cB cF : ClassId) (v : Int32)  : Met l yJ6_bitCount_0f7a4 wsJ6_bitCount_0f7a4 ({ frames := 0, cells := 0, slots := 0, locals := 0 } : Room) (PcP D cI cB cF [.int v] []) (QcV (.int (zBc v))) 0 0 (fun _ => False) := by
  refine Met.ofW (cc := cJ6_bitCount_0f7a4) (maxL := 1) (ret := (some .int)) (by decide) rfl ?_
  intro p e s m args below meth c s₁ Bd hml hv
  rw [show (headSpec wsJ6_bitCount_0f7a4 ({ frames := 0, cells := 0, slots := 0, locals := 0 } : Room)).room = ({ frames := 0, cells := 0, slots := 0, locals := 0 } : Room) from rfl]
  obtain ⟨rfl, hQ, hK⟩ := hv
  have hx := Bd.exec
  have hb := Bd.bytes
  have hr := Bd.returns
  have hts := atoms_spec (ws := wsJ6_bitCount_0f7a4) Bd.pre
  have hown : s.vm.findClass RJ6 = some m.cls := findClass_of_methodNamed Bd.named
  have hlocks := Bd.notSynchronized
  have FX : CallFix p m c cJ6_bitCount_0f7a4 1 s _ wsJ6_bitCount_0f7a4 RJ6 := ⟨hx, hb, hml, hown, hts⟩
  have hQ : va_P D vwCl [] s.heap := hQ
  have hl := lv_entry ([.int v]) (n := 1) (Nat.le_of_ble_eq_true rfl)
  rw [lg_entry_eq]
  generalize (lg_sl ([.int v]) ++ List.replicate (1 - (lg_sl ([.int v])).length) Slot.unset).toArray = ls at hl ⊢
  have hl : lv_has ls 1 [(0, .int v)] := hl
  refine lv_iload_n hx hb dJ6_bitCount_0f7a4_0 rfl (lv_at hl 0 rfl) ?_
  refine lv_iload_n hx hb dJ6_bitCount_0f7a4_1 rfl (lv_at hl 0 rfl) ?_
  refine lv_iconst (v := 1) hx hb dJ6_bitCount_0f7a4_2 (by decide) ?_
  refine lv_iushr (v := (v.toUInt32 >>> ((1 : Int32).toUInt32 &&& Int32.toUInt32 31)).toInt32) hx hb dJ6_bitCount_0f7a4_3 rfl ?_
  refine lv_ldcw (v := 1431655765) hx hb hown (hts _ hw_J6_bitCount_0f7a4_1) dJ6_bitCount_0f7a4_4 ?_
  refine lv_iand hx hb dJ6_bitCount_0f7a4_7 ?_
  refine lv_isub hx hb dJ6_bitCount_0f7a4_8 ?_
  refine lv_istore_n (lv' := [(0, .int (v - (((v.toUInt32 >>> ((1 : Int32).toUInt32 &&& Int32.toUInt32 31)).toInt32) &&& 1431655765)))]) hx hb dJ6_bitCount_0f7a4_9 rfl hl (by decide) rfl (fun ls hl => ?_)
  refine lv_iload_n hx hb dJ6_bitCount_0f7a4_10 rfl (lv_at hl 0 rfl) ?_
  refine lv_ldcw (v := 858993459) hx hb hown (hts _ hw_J6_bitCount_0f7a4_2) dJ6_bitCount_0f7a4_11 ?_
  refine lv_iand hx hb dJ6_bitCount_0f7a4_14 ?_
  refine lv_iload_n hx hb dJ6_bitCount_0f7a4_15 rfl (lv_at hl 0 rfl) ?_
  refine lv_iconst (v := 2) hx hb dJ6_bitCount_0f7a4_16 (by decide) ?_
  refine lv_iushr (v := ((v - (((v.toUInt32 >>> ((1 : Int32).toUInt32 &&& Int32.toUInt32 31)).toInt32) &&& 1431655765)).toUInt32 >>> ((2 : Int32).toUInt32 &&& Int32.toUInt32 31)).toInt32) hx hb dJ6_bitCount_0f7a4_17 rfl ?_
  refine lv_ldcw (v := 858993459) hx hb hown (hts _ hw_J6_bitCount_0f7a4_2) dJ6_bitCount_0f7a4_18 ?_
  refine lv_iand hx hb dJ6_bitCount_0f7a4_21 ?_
  refine lv_iadd hx hb dJ6_bitCount_0f7a4_22 ?_
  refine lv_istore_n (lv' := [(0, .int (((v - (((v.toUInt32 >>> ((1 : Int32).toUInt32 &&& Int32.toUInt32 31)).toInt32) &&& 1431655765)) &&& 858993459) + ((((v - (((v.toUInt32 >>> ((1 : Int32).toUInt32 &&& Int32.toUInt32 31)).toInt32) &&& 1431655765)).toUInt32 >>> ((2 : Int32).toUInt32 &&& Int32.toUInt32 31)).toInt32) &&& 858993459)))]) hx hb dJ6_bitCount_0f7a4_23 rfl hl (by decide) rfl (fun ls hl => ?_)
  refine lv_iload_n hx hb dJ6_bitCount_0f7a4_24 rfl (lv_at hl 0 rfl) ?_
  refine lv_iload_n hx hb dJ6_bitCount_0f7a4_25 rfl (lv_at hl 0 rfl) ?_
  refine lv_iconst (v := 4) hx hb dJ6_bitCount_0f7a4_26 (by decide) ?_
  refine lv_iushr (v := ((((v - (((v.toUInt32 >>> ((1 : Int32).toUInt32 &&& Int32.toUInt32 31)).toInt32) &&& 1431655765)) &&& 858993459) + ((((v - (((v.toUInt32 >>> ((1 : Int32).toUInt32 &&& Int32.toUInt32 31)).toInt32) &&& 1431655765)).toUInt32 >>> ((2 : Int32).toUInt32 &&& Int32.toUInt32 31)).toInt32) &&& 858993459)).toUInt32 >>> ((4 : Int32).toUInt32 &&& Int32.toUInt32 31)).toInt32) hx hb dJ6_bitCount_0f7a4_27 rfl ?_
  refine lv_iadd hx hb dJ6_bitCount_0f7a4_28 ?_
  refine lv_ldcw (v := 252645135) hx hb hown (hts _ hw_J6_bitCount_0f7a4_3) dJ6_bitCount_0f7a4_29 ?_
  refine lv_iand hx hb dJ6_bitCount_0f7a4_32 ?_
  refine lv_istore_n (lv' := [(0, .int (((((v - (((v.toUInt32 >>> ((1 : Int32).toUInt32 &&& Int32.toUInt32 31)).toInt32) &&& 1431655765)) &&& 858993459) + ((((v - (((v.toUInt32 >>> ((1 : Int32).toUInt32 &&& Int32.toUInt32 31)).toInt32) &&& 1431655765)).toUInt32 >>> ((2 : Int32).toUInt32 &&& Int32.toUInt32 31)).toInt32) &&& 858993459)) + (((((v - (((v.toUInt32 >>> ((1 : Int32).toUInt32 &&& Int32.toUInt32 31)).toInt32) &&& 1431655765)) &&& 858993459) + ((((v - (((v.toUInt32 >>> ((1 : Int32).toUInt32 &&& Int32.toUInt32 31)).toInt32) &&& 1431655765)).toUInt32 >>> ((2 : Int32).toUInt32 &&& Int32.toUInt32 31)).toInt32) &&& 858993459)).toUInt32 >>> ((4 : Int32).toUInt32 &&& Int32.toUInt32 31)).toInt32)) &&& 252645135))]) hx hb dJ6_bitCount_0f7a4_33 rfl hl (by decide) rfl (fun ls hl => ?_)
  refine lv_iload_n hx hb dJ6_bitCount_0f7a4_34 rfl (lv_at hl 0 rfl) ?_
  refine lv_iload_n hx hb dJ6_bitCount_0f7a4_35 rfl (lv_at hl 0 rfl) ?_
  refine lv_bipush (v := 8) hx hb dJ6_bitCount_0f7a4_36 (by decide) ?_
  refine lv_iushr (v := ((((((v - (((v.toUInt32 >>> ((1 : Int32).toUInt32 &&& Int32.toUInt32 31)).toInt32) &&& 1431655765)) &&& 858993459) + ((((v - (((v.toUInt32 >>> ((1 : Int32).toUInt32 &&& Int32.toUInt32 31)).toInt32) &&& 1431655765)).toUInt32 >>> ((2 : Int32).toUInt32 &&& Int32.toUInt32 31)).toInt32) &&& 858993459)) + (((((v - (((v.toUInt32 >>> ((1 : Int32).toUInt32 &&& Int32.toUInt32 31)).toInt32) &&& 1431655765)) &&& 858993459) + ((((v - (((v.toUInt32 >>> ((1 : Int32).toUInt32 &&& Int32.toUInt32 31)).toInt32) &&& 1431655765)).toUInt32 >>> ((2 : Int32).toUInt32 &&& Int32.toUInt32 31)).toInt32) &&& 858993459)).toUInt32 >>> ((4 : Int32).toUInt32 &&& Int32.toUInt32 31)).toInt32)) &&& 252645135).toUInt32 >>> ((8 : Int32).toUInt32 &&& Int32.toUInt32 31)).toInt32) hx hb dJ6_bitCount_0f7a4_38 rfl ?_
  refine lv_iadd hx hb dJ6_bitCount_0f7a4_39 ?_
  refine lv_istore_n (lv' := [(0, .int ((((((v - (((v.toUInt32 >>> ((1 : Int32).toUInt32 &&& Int32.toUInt32 31)).toInt32) &&& 1431655765)) &&& 858993459) + ((((v - (((v.toUInt32 >>> ((1 : Int32).toUInt32 &&& Int32.toUInt32 31)).toInt32) &&& 1431655765)).toUInt32 >>> ((2 : Int32).toUInt32 &&& Int32.toUInt32 31)).toInt32) &&& 858993459)) + (((((v - (((v.toUInt32 >>> ((1 : Int32).toUInt32 &&& Int32.toUInt32 31)).toInt32) &&& 1431655765)) &&& 858993459) + ((((v - (((v.toUInt32 >>> ((1 : Int32).toUInt32 &&& Int32.toUInt32 31)).toInt32) &&& 1431655765)).toUInt32 >>> ((2 : Int32).toUInt32 &&& Int32.toUInt32 31)).toInt32) &&& 858993459)).toUInt32 >>> ((4 : Int32).toUInt32 &&& Int32.toUInt32 31)).toInt32)) &&& 252645135) + (((((((v - (((v.toUInt32 >>> ((1 : Int32).toUInt32 &&& Int32.toUInt32 31)).toInt32) &&& 1431655765)) &&& 858993459) + ((((v - (((v.toUInt32 >>> ((1 : Int32).toUInt32 &&& Int32.toUInt32 31)).toInt32) &&& 1431655765)).toUInt32 >>> ((2 : Int32).toUInt32 &&& Int32.toUInt32 31)).toInt32) &&& 858993459)) + (((((v - (((v.toUInt32 >>> ((1 : Int32).toUInt32 &&& Int32.toUInt32 31)).toInt32) &&& 1431655765)) &&& 858993459) + ((((v - (((v.toUInt32 >>> ((1 : Int32).toUInt32 &&& Int32.toUInt32 31)).toInt32) &&& 1431655765)).toUInt32 >>> ((2 : Int32).toUInt32 &&& Int32.toUInt32 31)).toInt32) &&& 858993459)).toUInt32 >>> ((4 : Int32).toUInt32 &&& Int32.toUInt32 31)).toInt32)) &&& 252645135).toUInt32 >>> ((8 : Int32).toUInt32 &&& Int32.toUInt32 31)).toInt32)))]) hx hb dJ6_bitCount_0f7a4_40 rfl hl (by decide) rfl (fun ls hl => ?_)
  refine lv_iload_n hx hb dJ6_bitCount_0f7a4_41 rfl (lv_at hl 0 rfl) ?_
  refine lv_iload_n hx hb dJ6_bitCount_0f7a4_42 rfl (lv_at hl 0 rfl) ?_
  refine lv_bipush (v := 16) hx hb dJ6_bitCount_0f7a4_43 (by decide) ?_
  refine lv_iushr (v := (((((((v - (((v.toUInt32 >>> ((1 : Int32).toUInt32 &&& Int32.toUInt32 31)).toInt32) &&& 1431655765)) &&& 858993459) + ((((v - (((v.toUInt32 >>> ((1 : Int32).toUInt32 &&& Int32.toUInt32 31)).toInt32) &&& 1431655765)).toUInt32 >>> ((2 : Int32).toUInt32 &&& Int32.toUInt32 31)).toInt32) &&& 858993459)) + (((((v - (((v.toUInt32 >>> ((1 : Int32).toUInt32 &&& Int32.toUInt32 31)).toInt32) &&& 1431655765)) &&& 858993459) + ((((v - (((v.toUInt32 >>> ((1 : Int32).toUInt32 &&& Int32.toUInt32 31)).toInt32) &&& 1431655765)).toUInt32 >>> ((2 : Int32).toUInt32 &&& Int32.toUInt32 31)).toInt32) &&& 858993459)).toUInt32 >>> ((4 : Int32).toUInt32 &&& Int32.toUInt32 31)).toInt32)) &&& 252645135) + (((((((v - (((v.toUInt32 >>> ((1 : Int32).toUInt32 &&& Int32.toUInt32 31)).toInt32) &&& 1431655765)) &&& 858993459) + ((((v - (((v.toUInt32 >>> ((1 : Int32).toUInt32 &&& Int32.toUInt32 31)).toInt32) &&& 1431655765)).toUInt32 >>> ((2 : Int32).toUInt32 &&& Int32.toUInt32 31)).toInt32) &&& 858993459)) + (((((v - (((v.toUInt32 >>> ((1 : Int32).toUInt32 &&& Int32.toUInt32 31)).toInt32) &&& 1431655765)) &&& 858993459) + ((((v - (((v.toUInt32 >>> ((1 : Int32).toUInt32 &&& Int32.toUInt32 31)).toInt32) &&& 1431655765)).toUInt32 >>> ((2 : Int32).toUInt32 &&& Int32.toUInt32 31)).toInt32) &&& 858993459)).toUInt32 >>> ((4 : Int32).toUInt32 &&& Int32.toUInt32 31)).toInt32)) &&& 252645135).toUInt32 >>> ((8 : Int32).toUInt32 &&& Int32.toUInt32 31)).toInt32)).toUInt32 >>> ((16 : Int32).toUInt32 &&& Int32.toUInt32 31)).toInt32) hx hb dJ6_bitCount_0f7a4_45 rfl ?_
  refine lv_iadd hx hb dJ6_bitCount_0f7a4_46 ?_
  refine lv_istore_n (lv' := [(0, .int (((((((v - (((v.toUInt32 >>> ((1 : Int32).toUInt32 &&& Int32.toUInt32 31)).toInt32) &&& 1431655765)) &&& 858993459) + ((((v - (((v.toUInt32 >>> ((1 : Int32).toUInt32 &&& Int32.toUInt32 31)).toInt32) &&& 1431655765)).toUInt32 >>> ((2 : Int32).toUInt32 &&& Int32.toUInt32 31)).toInt32) &&& 858993459)) + (((((v - (((v.toUInt32 >>> ((1 : Int32).toUInt32 &&& Int32.toUInt32 31)).toInt32) &&& 1431655765)) &&& 858993459) + ((((v - (((v.toUInt32 >>> ((1 : Int32).toUInt32 &&& Int32.toUInt32 31)).toInt32) &&& 1431655765)).toUInt32 >>> ((2 : Int32).toUInt32 &&& Int32.toUInt32 31)).toInt32) &&& 858993459)).toUInt32 >>> ((4 : Int32).toUInt32 &&& Int32.toUInt32 31)).toInt32)) &&& 252645135) + (((((((v - (((v.toUInt32 >>> ((1 : Int32).toUInt32 &&& Int32.toUInt32 31)).toInt32) &&& 1431655765)) &&& 858993459) + ((((v - (((v.toUInt32 >>> ((1 : Int32).toUInt32 &&& Int32.toUInt32 31)).toInt32) &&& 1431655765)).toUInt32 >>> ((2 : Int32).toUInt32 &&& Int32.toUInt32 31)).toInt32) &&& 858993459)) + (((((v - (((v.toUInt32 >>> ((1 : Int32).toUInt32 &&& Int32.toUInt32 31)).toInt32) &&& 1431655765)) &&& 858993459) + ((((v - (((v.toUInt32 >>> ((1 : Int32).toUInt32 &&& Int32.toUInt32 31)).toInt32) &&& 1431655765)).toUInt32 >>> ((2 : Int32).toUInt32 &&& Int32.toUInt32 31)).toInt32) &&& 858993459)).toUInt32 >>> ((4 : Int32).toUInt32 &&& Int32.toUInt32 31)).toInt32)) &&& 252645135).toUInt32 >>> ((8 : Int32).toUInt32 &&& Int32.toUInt32 31)).toInt32)) + ((((((((v - (((v.toUInt32 >>> ((1 : Int32).toUInt32 &&& Int32.toUInt32 31)).toInt32) &&& 1431655765)) &&& 858993459) + ((((v - (((v.toUInt32 >>> ((1 : Int32).toUInt32 &&& Int32.toUInt32 31)).toInt32) &&& 1431655765)).toUInt32 >>> ((2 : Int32).toUInt32 &&& Int32.toUInt32 31)).toInt32) &&& 858993459)) + (((((v - (((v.toUInt32 >>> ((1 : Int32).toUInt32 &&& Int32.toUInt32 31)).toInt32) &&& 1431655765)) &&& 858993459) + ((((v - (((v.toUInt32 >>> ((1 : Int32).toUInt32 &&& Int32.toUInt32 31)).toInt32) &&& 1431655765)).toUInt32 >>> ((2 : Int32).toUInt32 &&& Int32.toUInt32 31)).toInt32) &&& 858993459)).toUInt32 >>> ((4 : Int32).toUInt32 &&& Int32.toUInt32 31)).toInt32)) &&& 252645135) + (((((((v - (((v.toUInt32 >>> ((1 : Int32).toUInt32 &&& Int32.toUInt32 31)).toInt32) &&& 1431655765)) &&& 858993459) + ((((v - (((v.toUInt32 >>> ((1 : Int32).toUInt32 &&& Int32.toUInt32 31)).toInt32) &&& 1431655765)).toUInt32 >>> ((2 : Int32).toUInt32 &&& Int32.toUInt32 31)).toInt32) &&& 858993459)) + (((((v - (((v.toUInt32 >>> ((1 : Int32).toUInt32 &&& Int32.toUInt32 31)).toInt32) &&& 1431655765)) &&& 858993459) + ((((v - (((v.toUInt32 >>> ((1 : Int32).toUInt32 &&& Int32.toUInt32 31)).toInt32) &&& 1431655765)).toUInt32 >>> ((2 : Int32).toUInt32 &&& Int32.toUInt32 31)).toInt32) &&& 858993459)).toUInt32 >>> ((4 : Int32).toUInt32 &&& Int32.toUInt32 31)).toInt32)) &&& 252645135).toUInt32 >>> ((8 : Int32).toUInt32 &&& Int32.toUInt32 31)).toInt32)).toUInt32 >>> ((16 : Int32).toUInt32 &&& Int32.toUInt32 31)).toInt32)))]) hx hb dJ6_bitCount_0f7a4_47 rfl hl (by decide) rfl (fun ls hl => ?_)
  refine lv_iload_n hx hb dJ6_bitCount_0f7a4_48 rfl (lv_at hl 0 rfl) ?_
  refine lv_bipush (v := 63) hx hb dJ6_bitCount_0f7a4_49 (by decide) ?_
  refine lv_iand hx hb dJ6_bitCount_0f7a4_51 ?_
  refine vz_si (zBc v) (rfl) ?_
  exact W.iret hx hb hr (fun t ht hW => ⟨rfl, ht⟩) (fun q h => by cases h) dJ6_bitCount_0f7a4_52
set_option maxRecDepth 100000 in
theorem iw_X8_letter_X8 : ∀ w ∈ u_ws RX8 TX8 13, w ∈ wsX8_letter := fun w h => List.mem_cons_of_mem _ (List.mem_append_left _ (List.mem_append_right _ h))
set_option maxRecDepth 100000 in
theorem hw_X8_letter_1 : (.fieldLink RX8 12 "RotaFathers" "page" "LRotaFathers$Page;" : Cond) ∈ wsX8_letter := List.mem_of_getElem? (i := 1) rfl
set_option maxRecDepth 100000 in
theorem iw_X8_letter_X4 : ∀ w ∈ u_ws RX4 TX4 2, w ∈ wsX8_letter := fun w h => List.mem_cons_of_mem _ (List.mem_append_right _ h)
set_option maxRecDepth 100000 in
theorem hw_X8_letter_2 : (.fieldLink RX8 49 "RotaFathers$Page" "length" "I" : Cond) ∈ wsX8_letter := List.mem_of_getElem? (i := 2) rfl
set_option maxRecDepth 100000 in
theorem hd_X8_letter : yX8_letter.cls ≠ "java/lang/invoke/MethodHandle" ∧ yX8_letter.cls ≠ "java/lang/invoke/VarHandle" ∧ (parseMethodDescriptor yX8_letter.desc).map (fun d => d.parameters.length) = some 1 := by decide +kernel
set_option maxHeartbeats 4000000 in
set_option maxRecDepth 100000 in
theorem c_X8_letter (l : Launch) (D : va_G) (cI cB cF : ClassId) (sz : Nat) (x0 : Nat) (pg0 : Nat) (fr : Nat) (nw : Nat) (kp : Nat) (t0 : Nat) (pn : Nat) (bw : Nat) (ta : Nat) (bm : Int32) (n : Nat) (cv : Int32) (bd : Int32) (hi : Int32) (co : Nat) (ln : Nat) (pg : Nat → Int32) (cd : Int32) (hln : ln ≤ 18) : Met l yX8_letter wsX8_letter ({ frames := 2, cells := 0, slots := 0, locals := 43 } : Room) (PcW D cI cB cF [.ref x0, .int cd] sz [(pg0, .inr (4, [.ref co, .int (nI ln)])), (co, .inl (cI, 18, .inl pg))] [(x0, .inr (8, [.ref pg0, .ref fr, .ref nw, .ref kp, .ref t0, .ref pn, .ref bw, .ref ta, .int bm, .int (nI n), .int cv, .int bd, .int hi]))]) (Qw D (S := Unit) (fun xx => some (.int (zLe ln cd))) (fun xx => True) (fun xx => [(pg0, .inr (4, [.ref co, .int (nI (zLn ln cd))])), (co, .inl (cI, 18, .inl (zLp pg ln cd)))]) (va_A [(pg0, .inr (4, [.ref co, .int (nI ln)])), (co, .inl (cI, 18, .inl pg))] sz)) 0 0 (va_A [(pg0, .inr (4, [.ref co, .int (nI ln)])), (co, .inl (cI, 18, .inl pg))] sz) := by
  refine Met.ofW (cc := cX8_letter) (maxL := 2) (ret := (some .int)) (by decide) rfl ?_
  intro p e s m args below meth c s₁ Bd hml hv
  rw [show (headSpec wsX8_letter ({ frames := 2, cells := 0, slots := 0, locals := 43 } : Room)).room = ({ frames := 2, cells := 0, slots := 0, locals := 43 } : Room) from rfl]
  obtain ⟨rfl, hsz, hP, hK, hD0, hR⟩ := hv
  have hx := Bd.exec
  have hb := Bd.bytes
  have hr := Bd.returns
  have hts := atoms_spec (ws := wsX8_letter) Bd.pre
  have hown : s.vm.findClass RX8 = some m.cls := findClass_of_methodNamed Bd.named
  have hlocks := Bd.notSynchronized
  have FX : CallFix p m c cX8_letter 2 s _ wsX8_letter RX8 := ⟨hx, hb, hml, hown, hts⟩
  subst hsz
  have hD := hD0.self (sz := s.heap.size)
  generalize hAe : va_A [(pg0, .inr (4, [.ref co, .int (nI ln)])), (co, .inl (cI, 18, .inl pg))] s.heap.size = A at hD hR ⊢
  have hA : ∀ q : Nat, s.heap.size ≤ q → A q := fun q h => by rw [← hAe]; exact Or.inr h
  have hS : va_S A s.heap s.heap [] := va_S.rf
  have hP : va_P D vwCl [(pg0, .inr (4, [.ref co, .int (nI ln)])), (co, .inl (cI, 18, .inl pg))] s.heap := hP
  have hQ : va_P D vwCl ([(pg0, .inr (4, [.ref co, .int (nI ln)])), (co, .inl (cI, 18, .inl pg))] ++ [(x0, .inr (8, [.ref pg0, .ref fr, .ref nw, .ref kp, .ref t0, .ref pn, .ref bw, .ref ta, .int bm, .int (nI n), .int cv, .int bd, .int hi]))]) s.heap := va_P.app hP (hR.at hS).P
  have hl := lv_entry ([.ref x0, .int cd]) (n := 2) (Nat.le_of_ble_eq_true rfl)
  rw [lg_entry_eq]
  generalize (lg_sl ([.ref x0, .int cd]) ++ List.replicate (2 - (lg_sl ([.ref x0, .int cd])).length) Slot.unset).toArray = ls at hl ⊢
  have hl : lv_has ls 2 [(0, .ref x0), (1, .int cd)] := hl
  refine lv_iload_n hx hb dX8_letter_0 rfl (lv_at hl 1 rfl) ?_
  refine lv_bipush (v := 32) hx hb dX8_letter_1 (by decide) ?_
  refine lv_icmp_lt (tgt := 12) hx hb dX8_letter_3 (by decide) (fun c_3 => ?_) (fun c_3 => ?_)
  · refine lv_bipush (v := (-102)) hx hb dX8_letter_12 (by decide) ?_
    have hP : va_P D vwCl [(pg0, .inr (4, [.ref co, .int (nI (zLn ln cd))])), (co, .inl (cI, 18, .inl pg))] s.heap := by rw [← (show nI ln = nI (zLn ln cd) from by rw [zLn, if_neg (by first | (rw [zIn_lo c_3]; exact Bool.false_ne_true) | (rw [zIn_hi (Int32.not_le.mp c_9)]; exact Bool.false_ne_true))])]; exact hP
    have hD : va_D A [(pg0, .inr (4, [.ref co, .int (nI (zLn ln cd))])), (co, .inl (cI, 18, .inl pg))] := by rw [← (show nI ln = nI (zLn ln cd) from by rw [zLn, if_neg (by first | (rw [zIn_lo c_3]; exact Bool.false_ne_true) | (rw [zIn_hi (Int32.not_le.mp c_9)]; exact Bool.false_ne_true))])]; exact hD
    have hQ : va_P D vwCl ([(pg0, .inr (4, [.ref co, .int (nI (zLn ln cd))])), (co, .inl (cI, 18, .inl pg))] ++ [(x0, .inr (8, [.ref pg0, .ref fr, .ref nw, .ref kp, .ref t0, .ref pn, .ref bw, .ref ta, .int bm, .int (nI n), .int cv, .int bd, .int hi]))]) s.heap := va_P.app hP (hR.at hS).P
    have hP : va_P D vwCl [(pg0, .inr (4, [.ref co, .int (nI (zLn ln cd))])), (co, .inl (cI, 18, .inl (zLp pg ln cd)))] s.heap := vz_arr (g := zLp pg ln cd) hP 1 rfl (fun j _ => by rw [zLp, if_neg (by first | (rw [zIn_lo c_3]; exact Bool.false_ne_true) | (rw [zIn_hi (Int32.not_le.mp c_9)]; exact Bool.false_ne_true))])
    have hD : va_D A [(pg0, .inr (4, [.ref co, .int (nI (zLn ln cd))])), (co, .inl (cI, 18, .inl (zLp pg ln cd)))] := vz_arrD hD 1 rfl
    have hQ : va_P D vwCl ([(pg0, .inr (4, [.ref co, .int (nI (zLn ln cd))])), (co, .inl (cI, 18, .inl (zLp pg ln cd)))] ++ [(x0, .inr (8, [.ref pg0, .ref fr, .ref nw, .ref kp, .ref t0, .ref pn, .ref bw, .ref ta, .int bm, .int (nI n), .int cv, .int bd, .int hi]))]) s.heap := va_P.app hP (hR.at hS).P
    refine vz_si (zLe ln cd) (by rw [zLe, if_neg (by first | (rw [zIn_lo c_3]; decide) | (rw [zIn_hi (Int32.not_le.mp c_9)]; decide))]) ?_
    have hP9 := hP.sub (ws' := [(pg0, .inr (4, [.ref co, .int (nI (zLn ln cd))])), (co, .inl (cI, 18, .inl (zLp pg ln cd)))]) [0, 1] rfl
    have hD9 := hD.sub (ws' := [(pg0, .inr (4, [.ref co, .int (nI (zLn ln cd))])), (co, .inl (cI, 18, .inl (zLp pg ln cd)))]) [0, 1] (by decide) rfl
    exact W.iret hx hb hr (fun t ht hW => ⟨⟨(), rfl, trivial, by rw [ht]; exact hP9, hD9⟩, hS.F ht⟩) hS.2.2 dX8_letter_14
  · refine lv_iload_n hx hb dX8_letter_6 rfl (lv_at hl 1 rfl) ?_
    refine lv_bipush (v := 126) hx hb dX8_letter_7 (by decide) ?_
    refine lv_icmp_le (tgt := 15) hx hb dX8_letter_9 (by decide) (fun c_9 => ?_) (fun c_9 => ?_)
    · refine lv_aload_n hx hb dX8_letter_15 rfl (lv_at hl 0 rfl) ?_
      refine va_get (D := D) (cl := vwCl) (tys := zT cI cB cF) (ci := 8) (v := .ref pg0) (C := RX8) (T := TX8) (N := 13) hx hb hts iw_X8_letter_X8 hown hK.1 hQ 2 rfl rfl 0 (by decide) (hts _ hw_X8_letter_1) (fun _ h9 => h9) rfl dX8_letter_16 ?_
      refine va_get (D := D) (cl := vwCl) (tys := zT cI cB cF) (ci := 4) (v := .int (nI ln)) (C := RX4) (T := TX4) (N := 2) hx hb hts iw_X8_letter_X4 hown hK.1 hQ 0 rfl rfl 1 (by decide) (hts _ hw_X8_letter_2) (fun _ h9 => h9) rfl dX8_letter_19 ?_
      refine lv_bipush (v := 18) hx hb dX8_letter_22 (by decide) ?_
      refine lv_icmp_lt (tgt := 30) hx hb dX8_letter_24 (by decide) (fun c_24 => ?_) (fun c_24 => ?_)
      · have hl18 : ln < 18 := (nI_zlt (a := ln) (b := 18) (by omega) (by decide)).mp c_24
        refine lv_aload_n hx hb dX8_letter_30 rfl (lv_at hl 0 rfl) ?_
        refine va_get (D := D) (cl := vwCl) (tys := zT cI cB cF) (ci := 8) (v := .ref pg0) (C := RX8) (T := TX8) (N := 13) hx hb hts iw_X8_letter_X8 hown hK.1 hQ 2 rfl rfl 0 (by decide) (hts _ hw_X8_letter_1) (fun _ h9 => h9) rfl dX8_letter_31 ?_
        refine lv_iload_n hx hb dX8_letter_34 rfl (lv_at hl 1 rfl) ?_
        have hFc := va_free (wc := [(pg0, .inr (4, [.ref co, .int (nI ln)])), (co, .inl (cI, 18, .inl pg))]) hD hS hA [0, 1] rfl
        refine vz_cw [] [0, 1] [] (va_runV (As := [.int cd]) (rest := []) FX (c_X4_add l D cI cB cF s.heap.size pg0 co ln pg cd hl18) (cwV 1 hts gX8_letter_X4_add rfl rfl rfl ⟨rfl, hd_X4_add⟩ ⟨Nat.le_of_ble_eq_true rfl, Nat.le_of_ble_eq_true rfl⟩) (preW_V hQ 0 rfl rfl (hP.sub (ws' := [(pg0, .inr (4, [.ref co, .int (nI ln)])), (co, .inl (cI, 18, .inl pg))]) [0, 1] rfl) (hD.sub (ws' := [(pg0, .inr (4, [.ref co, .int (nI ln)])), (co, .inl (cI, 18, .inl pg))]) [0, 1] (by decide) rfl) hK (show vz_R D [] _ _ from vz_R.nil)) rfl rfl hl.1 rfl (lv_room (Nat.le_of_ble_eq_true rfl)) dX8_letter_35 ⟨Nat.le_of_ble_eq_true rfl, Nat.le_of_ble_eq_true rfl⟩) hP hD hS hA rfl rfl rfl (by decide) (fun u H locs hu hP hD hS hz9 hk9 => ?_)
        have hP : va_P D vwCl [(pg0, .inr (4, [.ref co, .int (nI (ln + 1))])), (co, .inl (cI, 18, .inl (upd pg ln cd)))] H := hP
        have hD : va_D A [(pg0, .inr (4, [.ref co, .int (nI (ln + 1))])), (co, .inl (cI, 18, .inl (upd pg ln cd)))] := hD
        have hQ : va_P D vwCl ([(pg0, .inr (4, [.ref co, .int (nI (ln + 1))])), (co, .inl (cI, 18, .inl (upd pg ln cd)))] ++ [(x0, .inr (8, [.ref pg0, .ref fr, .ref nw, .ref kp, .ref t0, .ref pn, .ref bw, .ref ta, .int bm, .int (nI n), .int cv, .int bd, .int hi]))]) H := va_P.app hP (hR.at hS).P
        show W _ _ _ _ _ _ _ _ _ _ _ _ _ _ _ (F0 m 38 ls [])
        refine lv_aload_n hx hb dX8_letter_38 rfl (lv_at hl 0 rfl) ?_
        refine va_get (D := D) (cl := vwCl) (tys := zT cI cB cF) (ci := 8) (v := .ref pg0) (C := RX8) (T := TX8) (N := 13) hx hb hts iw_X8_letter_X8 hown hK.1 hQ 2 rfl rfl 0 (by decide) (hts _ hw_X8_letter_1) (fun _ h9 => h9) rfl dX8_letter_39 ?_
        refine va_get (D := D) (cl := vwCl) (tys := zT cI cB cF) (ci := 4) (v := .int (nI (ln + 1))) (C := RX4) (T := TX4) (N := 2) hx hb hts iw_X8_letter_X4 hown hK.1 hQ 0 rfl rfl 1 (by decide) (hts _ hw_X8_letter_2) (fun _ h9 => h9) rfl dX8_letter_42 ?_
        have hP : va_P D vwCl [(pg0, .inr (4, [.ref co, .int (nI (zLn ln cd))])), (co, .inl (cI, 18, .inl (upd pg ln cd)))] H := by rw [← (show nI (ln + 1) = nI (zLn ln cd) from by rw [zLn, if_pos (by rw [zIn_ok c_3 c_9, decide_eq_true hl18]; rfl)])]; exact hP
        have hD : va_D A [(pg0, .inr (4, [.ref co, .int (nI (zLn ln cd))])), (co, .inl (cI, 18, .inl (upd pg ln cd)))] := by rw [← (show nI (ln + 1) = nI (zLn ln cd) from by rw [zLn, if_pos (by rw [zIn_ok c_3 c_9, decide_eq_true hl18]; rfl)])]; exact hD
        have hQ : va_P D vwCl ([(pg0, .inr (4, [.ref co, .int (nI (zLn ln cd))])), (co, .inl (cI, 18, .inl (upd pg ln cd)))] ++ [(x0, .inr (8, [.ref pg0, .ref fr, .ref nw, .ref kp, .ref t0, .ref pn, .ref bw, .ref ta, .int bm, .int (nI n), .int cv, .int bd, .int hi]))]) H := va_P.app hP (hR.at hS).P
        have hP : va_P D vwCl [(pg0, .inr (4, [.ref co, .int (nI (zLn ln cd))])), (co, .inl (cI, 18, .inl (zLp pg ln cd)))] H := vz_arr (g := zLp pg ln cd) hP 1 rfl (fun j _ => by rw [zLp, if_pos (by rw [zIn_ok c_3 c_9, decide_eq_true hl18]; rfl)])
        have hD : va_D A [(pg0, .inr (4, [.ref co, .int (nI (zLn ln cd))])), (co, .inl (cI, 18, .inl (zLp pg ln cd)))] := vz_arrD hD 1 rfl
        have hQ : va_P D vwCl ([(pg0, .inr (4, [.ref co, .int (nI (zLn ln cd))])), (co, .inl (cI, 18, .inl (zLp pg ln cd)))] ++ [(x0, .inr (8, [.ref pg0, .ref fr, .ref nw, .ref kp, .ref t0, .ref pn, .ref bw, .ref ta, .int bm, .int (nI n), .int cv, .int bd, .int hi]))]) H := va_P.app hP (hR.at hS).P
        refine vz_si (zLe ln cd) (by rw [zLe, if_pos (zIn_ok c_3 c_9), if_pos hl18]) ?_
        have hP9 := hP.sub (ws' := [(pg0, .inr (4, [.ref co, .int (nI (zLn ln cd))])), (co, .inl (cI, 18, .inl (zLp pg ln cd)))]) [0, 1] rfl
        have hD9 := hD.sub (ws' := [(pg0, .inr (4, [.ref co, .int (nI (zLn ln cd))])), (co, .inl (cI, 18, .inl (zLp pg ln cd)))]) [0, 1] (by decide) rfl
        exact W.iret hx hb hr (fun t ht hW => ⟨⟨(), rfl, trivial, by rw [ht]; exact hP9, hD9⟩, hS.F ht⟩) hS.2.2 dX8_letter_45
      · have hl18 : ¬ ln < 18 := fun q => c_24 ((nI_zlt (a := ln) (b := 18) (by omega) (by decide)).mpr q)
        refine lv_bipush (v := (-104)) hx hb dX8_letter_27 (by decide) ?_
        have hP : va_P D vwCl [(pg0, .inr (4, [.ref co, .int (nI (zLn ln cd))])), (co, .inl (cI, 18, .inl pg))] s.heap := by rw [← (show nI ln = nI (zLn ln cd) from by rw [zLn, if_neg (by rw [decide_eq_false hl18, Bool.and_false]; decide)])]; exact hP
        have hD : va_D A [(pg0, .inr (4, [.ref co, .int (nI (zLn ln cd))])), (co, .inl (cI, 18, .inl pg))] := by rw [← (show nI ln = nI (zLn ln cd) from by rw [zLn, if_neg (by rw [decide_eq_false hl18, Bool.and_false]; decide)])]; exact hD
        have hQ : va_P D vwCl ([(pg0, .inr (4, [.ref co, .int (nI (zLn ln cd))])), (co, .inl (cI, 18, .inl pg))] ++ [(x0, .inr (8, [.ref pg0, .ref fr, .ref nw, .ref kp, .ref t0, .ref pn, .ref bw, .ref ta, .int bm, .int (nI n), .int cv, .int bd, .int hi]))]) s.heap := va_P.app hP (hR.at hS).P
        have hP : va_P D vwCl [(pg0, .inr (4, [.ref co, .int (nI (zLn ln cd))])), (co, .inl (cI, 18, .inl (zLp pg ln cd)))] s.heap := vz_arr (g := zLp pg ln cd) hP 1 rfl (fun j _ => by rw [zLp, if_neg (by rw [decide_eq_false hl18, Bool.and_false]; decide)])
        have hD : va_D A [(pg0, .inr (4, [.ref co, .int (nI (zLn ln cd))])), (co, .inl (cI, 18, .inl (zLp pg ln cd)))] := vz_arrD hD 1 rfl
        have hQ : va_P D vwCl ([(pg0, .inr (4, [.ref co, .int (nI (zLn ln cd))])), (co, .inl (cI, 18, .inl (zLp pg ln cd)))] ++ [(x0, .inr (8, [.ref pg0, .ref fr, .ref nw, .ref kp, .ref t0, .ref pn, .ref bw, .ref ta, .int bm, .int (nI n), .int cv, .int bd, .int hi]))]) s.heap := va_P.app hP (hR.at hS).P
        refine vz_si (zLe ln cd) (by rw [zLe, if_pos (zIn_ok c_3 c_9), if_neg hl18]) ?_
        have hP9 := hP.sub (ws' := [(pg0, .inr (4, [.ref co, .int (nI (zLn ln cd))])), (co, .inl (cI, 18, .inl (zLp pg ln cd)))]) [0, 1] rfl
        have hD9 := hD.sub (ws' := [(pg0, .inr (4, [.ref co, .int (nI (zLn ln cd))])), (co, .inl (cI, 18, .inl (zLp pg ln cd)))]) [0, 1] (by decide) rfl
        exact W.iret hx hb hr (fun t ht hW => ⟨⟨(), rfl, trivial, by rw [ht]; exact hP9, hD9⟩, hS.F ht⟩) hS.2.2 dX8_letter_29
    · refine lv_bipush (v := (-102)) hx hb dX8_letter_12 (by decide) ?_
      have hP : va_P D vwCl [(pg0, .inr (4, [.ref co, .int (nI (zLn ln cd))])), (co, .inl (cI, 18, .inl pg))] s.heap := by rw [← (show nI ln = nI (zLn ln cd) from by rw [zLn, if_neg (by first | (rw [zIn_lo c_3]; exact Bool.false_ne_true) | (rw [zIn_hi (Int32.not_le.mp c_9)]; exact Bool.false_ne_true))])]; exact hP
      have hD : va_D A [(pg0, .inr (4, [.ref co, .int (nI (zLn ln cd))])), (co, .inl (cI, 18, .inl pg))] := by rw [← (show nI ln = nI (zLn ln cd) from by rw [zLn, if_neg (by first | (rw [zIn_lo c_3]; exact Bool.false_ne_true) | (rw [zIn_hi (Int32.not_le.mp c_9)]; exact Bool.false_ne_true))])]; exact hD
      have hQ : va_P D vwCl ([(pg0, .inr (4, [.ref co, .int (nI (zLn ln cd))])), (co, .inl (cI, 18, .inl pg))] ++ [(x0, .inr (8, [.ref pg0, .ref fr, .ref nw, .ref kp, .ref t0, .ref pn, .ref bw, .ref ta, .int bm, .int (nI n), .int cv, .int bd, .int hi]))]) s.heap := va_P.app hP (hR.at hS).P
      have hP : va_P D vwCl [(pg0, .inr (4, [.ref co, .int (nI (zLn ln cd))])), (co, .inl (cI, 18, .inl (zLp pg ln cd)))] s.heap := vz_arr (g := zLp pg ln cd) hP 1 rfl (fun j _ => by rw [zLp, if_neg (by first | (rw [zIn_lo c_3]; exact Bool.false_ne_true) | (rw [zIn_hi (Int32.not_le.mp c_9)]; exact Bool.false_ne_true))])
      have hD : va_D A [(pg0, .inr (4, [.ref co, .int (nI (zLn ln cd))])), (co, .inl (cI, 18, .inl (zLp pg ln cd)))] := vz_arrD hD 1 rfl
      have hQ : va_P D vwCl ([(pg0, .inr (4, [.ref co, .int (nI (zLn ln cd))])), (co, .inl (cI, 18, .inl (zLp pg ln cd)))] ++ [(x0, .inr (8, [.ref pg0, .ref fr, .ref nw, .ref kp, .ref t0, .ref pn, .ref bw, .ref ta, .int bm, .int (nI n), .int cv, .int bd, .int hi]))]) s.heap := va_P.app hP (hR.at hS).P
      refine vz_si (zLe ln cd) (by rw [zLe, if_neg (by first | (rw [zIn_lo c_3]; decide) | (rw [zIn_hi (Int32.not_le.mp c_9)]; decide))]) ?_
      have hP9 := hP.sub (ws' := [(pg0, .inr (4, [.ref co, .int (nI (zLn ln cd))])), (co, .inl (cI, 18, .inl (zLp pg ln cd)))]) [0, 1] rfl
      have hD9 := hD.sub (ws' := [(pg0, .inr (4, [.ref co, .int (nI (zLn ln cd))])), (co, .inl (cI, 18, .inl (zLp pg ln cd)))]) [0, 1] (by decide) rfl
      exact W.iret hx hb hr (fun t ht hW => ⟨⟨(), rfl, trivial, by rw [ht]; exact hP9, hD9⟩, hS.F ht⟩) hS.2.2 dX8_letter_14
set_option maxRecDepth 100000 in
theorem iw_X8_blank_X8 : ∀ w ∈ u_ws RX8 TX8 13, w ∈ wsX8_blank := fun w h => List.mem_cons_of_mem _ (List.mem_append_left _ (List.mem_append_right _ h))
set_option maxRecDepth 100000 in
theorem hw_X8_blank_1 : (.fieldLink RX8 12 "RotaFathers" "page" "LRotaFathers$Page;" : Cond) ∈ wsX8_blank := List.mem_of_getElem? (i := 1) rfl
set_option maxRecDepth 100000 in
theorem iw_X8_blank_X4 : ∀ w ∈ u_ws RX4 TX4 2, w ∈ wsX8_blank := fun w h => List.mem_cons_of_mem _ (List.mem_append_right _ h)
set_option maxRecDepth 100000 in
theorem hw_X8_blank_2 : (.fieldLink RX8 49 "RotaFathers$Page" "length" "I" : Cond) ∈ wsX8_blank := List.mem_of_getElem? (i := 2) rfl
set_option maxRecDepth 100000 in
theorem hd_X8_blank : yX8_blank.cls ≠ "java/lang/invoke/MethodHandle" ∧ yX8_blank.cls ≠ "java/lang/invoke/VarHandle" ∧ (parseMethodDescriptor yX8_blank.desc).map (fun d => d.parameters.length) = some 0 := by decide +kernel
set_option maxHeartbeats 4000000 in
set_option maxRecDepth 100000 in
theorem c_X8_blank (l : Launch) (D : va_G) (cI cB cF : ClassId) (sz : Nat) (x0 : Nat) (pg0 : Nat) (fr : Nat) (nw : Nat) (kp : Nat) (t0 : Nat) (pn : Nat) (bw : Nat) (ta : Nat) (bm : Int32) (n : Nat) (cv : Int32) (bd : Int32) (hi : Int32) (co : Nat) (ln : Nat)  : Met l yX8_blank wsX8_blank ({ frames := 1, cells := 0, slots := 0, locals := 20 } : Room) (PcW D cI cB cF [.ref x0] sz [(pg0, .inr (4, [.ref co, .int (nI ln)]))] [(x0, .inr (8, [.ref pg0, .ref fr, .ref nw, .ref kp, .ref t0, .ref pn, .ref bw, .ref ta, .int bm, .int (nI n), .int cv, .int bd, .int hi]))]) (Qw D (S := Unit) (fun xx => some (.int (nI ln))) (fun xx => True) (fun xx => [(pg0, .inr (4, [.ref co, .int 0]))]) (va_A [(pg0, .inr (4, [.ref co, .int (nI ln)]))] sz)) 0 0 (va_A [(pg0, .inr (4, [.ref co, .int (nI ln)]))] sz) := by
  refine Met.ofW (cc := cX8_blank) (maxL := 2) (ret := (some .int)) (by decide) rfl ?_
  intro p e s m args below meth c s₁ Bd hml hv
  rw [show (headSpec wsX8_blank ({ frames := 1, cells := 0, slots := 0, locals := 20 } : Room)).room = ({ frames := 1, cells := 0, slots := 0, locals := 20 } : Room) from rfl]
  obtain ⟨rfl, hsz, hP, hK, hD0, hR⟩ := hv
  have hx := Bd.exec
  have hb := Bd.bytes
  have hr := Bd.returns
  have hts := atoms_spec (ws := wsX8_blank) Bd.pre
  have hown : s.vm.findClass RX8 = some m.cls := findClass_of_methodNamed Bd.named
  have hlocks := Bd.notSynchronized
  have FX : CallFix p m c cX8_blank 2 s _ wsX8_blank RX8 := ⟨hx, hb, hml, hown, hts⟩
  subst hsz
  have hD := hD0.self (sz := s.heap.size)
  generalize hAe : va_A [(pg0, .inr (4, [.ref co, .int (nI ln)]))] s.heap.size = A at hD hR ⊢
  have hA : ∀ q : Nat, s.heap.size ≤ q → A q := fun q h => by rw [← hAe]; exact Or.inr h
  have hS : va_S A s.heap s.heap [] := va_S.rf
  have hP : va_P D vwCl [(pg0, .inr (4, [.ref co, .int (nI ln)]))] s.heap := hP
  have hQ : va_P D vwCl ([(pg0, .inr (4, [.ref co, .int (nI ln)]))] ++ [(x0, .inr (8, [.ref pg0, .ref fr, .ref nw, .ref kp, .ref t0, .ref pn, .ref bw, .ref ta, .int bm, .int (nI n), .int cv, .int bd, .int hi]))]) s.heap := va_P.app hP (hR.at hS).P
  have hl := lv_entry ([.ref x0]) (n := 2) (Nat.le_of_ble_eq_true rfl)
  rw [lg_entry_eq]
  generalize (lg_sl ([.ref x0]) ++ List.replicate (2 - (lg_sl ([.ref x0])).length) Slot.unset).toArray = ls at hl ⊢
  have hl : lv_has ls 2 [(0, .ref x0)] := hl
  refine lv_aload_n hx hb dX8_blank_0 rfl (lv_at hl 0 rfl) ?_
  refine va_get (D := D) (cl := vwCl) (tys := zT cI cB cF) (ci := 8) (v := .ref pg0) (C := RX8) (T := TX8) (N := 13) hx hb hts iw_X8_blank_X8 hown hK.1 hQ 1 rfl rfl 0 (by decide) (hts _ hw_X8_blank_1) (fun _ h9 => h9) rfl dX8_blank_1 ?_
  refine va_get (D := D) (cl := vwCl) (tys := zT cI cB cF) (ci := 4) (v := .int (nI ln)) (C := RX4) (T := TX4) (N := 2) hx hb hts iw_X8_blank_X4 hown hK.1 hQ 0 rfl rfl 1 (by decide) (hts _ hw_X8_blank_2) (fun _ h9 => h9) rfl dX8_blank_4 ?_
  refine lv_istore_n (lv' := [(1, .int (nI ln)), (0, .ref x0)]) hx hb dX8_blank_7 rfl hl (by decide) rfl (fun ls hl => ?_)
  refine lv_aload_n hx hb dX8_blank_8 rfl (lv_at hl 1 rfl) ?_
  refine va_get (D := D) (cl := vwCl) (tys := zT cI cB cF) (ci := 8) (v := .ref pg0) (C := RX8) (T := TX8) (N := 13) hx hb hts iw_X8_blank_X8 hown hK.1 hQ 1 rfl rfl 0 (by decide) (hts _ hw_X8_blank_1) (fun _ h9 => h9) rfl dX8_blank_9 ?_
  have hFc := va_free (wc := [(pg0, .inr (4, [.ref co, .int (nI ln)]))]) hD hS hA [0] rfl
  refine vz_cw [] [0] [] (va_runV (As := []) (rest := []) FX (c_X4_clear l D cI cB cF s.heap.size pg0 co ln ) (cwV 0 hts gX8_blank_X4_clear rfl rfl rfl ⟨rfl, hd_X4_clear⟩ ⟨Nat.le_of_ble_eq_true rfl, Nat.le_of_ble_eq_true rfl⟩) (preW_V hQ 0 rfl rfl (hP.sub (ws' := [(pg0, .inr (4, [.ref co, .int (nI ln)]))]) [0] rfl) (hD.sub (ws' := [(pg0, .inr (4, [.ref co, .int (nI ln)]))]) [0] (by decide) rfl) hK (show vz_R D [] _ _ from vz_R.nil)) rfl rfl hl.1 rfl (lv_room (Nat.le_of_ble_eq_true rfl)) dX8_blank_12 ⟨Nat.le_of_ble_eq_true rfl, Nat.le_of_ble_eq_true rfl⟩) hP hD hS hA rfl rfl rfl (by decide) (fun u H locs hu hP hD hS hz9 hk9 => ?_)
  have hP : va_P D vwCl [(pg0, .inr (4, [.ref co, .int 0]))] H := hP
  have hD : va_D A [(pg0, .inr (4, [.ref co, .int 0]))] := hD
  have hQ : va_P D vwCl ([(pg0, .inr (4, [.ref co, .int 0]))] ++ [(x0, .inr (8, [.ref pg0, .ref fr, .ref nw, .ref kp, .ref t0, .ref pn, .ref bw, .ref ta, .int bm, .int (nI n), .int cv, .int bd, .int hi]))]) H := va_P.app hP (hR.at hS).P
  show W _ _ _ _ _ _ _ _ _ _ _ _ _ _ _ (F0 m 15 ls [])
  refine lv_iload_n hx hb dX8_blank_15 rfl (lv_at hl 0 rfl) ?_
  refine vz_si (nI ln) (rfl) ?_
  have hP9 := hP.sub (ws' := [(pg0, .inr (4, [.ref co, .int 0]))]) [0] rfl
  have hD9 := hD.sub (ws' := [(pg0, .inr (4, [.ref co, .int 0]))]) [0] (by decide) rfl
  exact W.iret hx hb hr (fun t ht hW => ⟨⟨(), rfl, trivial, by rw [ht]; exact hP9, hD9⟩, hS.F ht⟩) hS.2.2 dX8_blank_16
set_option maxRecDepth 100000 in
theorem iw_X8_fault_X8 : ∀ w ∈ u_ws RX8 TX8 13, w ∈ wsX8_fault := fun w h => List.mem_cons_of_mem _ (List.mem_append_left _ (List.mem_append_right _ h))
set_option maxRecDepth 100000 in
theorem hw_X8_fault_1 : (.fieldLink RX8 12 "RotaFathers" "page" "LRotaFathers$Page;" : Cond) ∈ wsX8_fault := List.mem_of_getElem? (i := 1) rfl
set_option maxRecDepth 100000 in
theorem hd_X8_fault : yX8_fault.cls ≠ "java/lang/invoke/MethodHandle" ∧ yX8_fault.cls ≠ "java/lang/invoke/VarHandle" ∧ (parseMethodDescriptor yX8_fault.desc).map (fun d => d.parameters.length) = some 0 := by decide +kernel
set_option maxHeartbeats 4000000 in
set_option maxRecDepth 100000 in
theorem c_X8_fault (l : Launch) (D : va_G) (cI cB cF : ClassId) (x0 : Nat) (pg0 : Nat) (fr : Nat) (nw : Nat) (kp : Nat) (t0 : Nat) (pn : Nat) (bw : Nat) (ta : Nat) (bm : Int32) (n : Nat) (cv : Int32) (bd : Int32) (hi : Int32) (co : Nat) (ln : Nat) (pg : Nat → Int32) (hln : ln ≤ 18) : Met l yX8_fault wsX8_fault ({ frames := 5, cells := 0, slots := 0, locals := 110 } : Room) (PcP D cI cB cF [.ref x0] [(x0, .inr (8, [.ref pg0, .ref fr, .ref nw, .ref kp, .ref t0, .ref pn, .ref bw, .ref ta, .int bm, .int (nI n), .int cv, .int bd, .int hi])), (pg0, .inr (4, [.ref co, .int (nI ln)])), (co, .inl (cI, 18, .inl pg))]) (QcV (.int (nI (zRl pg (zCg pg ln) ln)))) 0 0 (fun _ => False) := by
  refine Met.ofW (cc := cX8_fault) (maxL := 1) (ret := (some .int)) (by decide) rfl ?_
  intro p e s m args below meth c s₁ Bd hml hv
  rw [show (headSpec wsX8_fault ({ frames := 5, cells := 0, slots := 0, locals := 110 } : Room)).room = ({ frames := 5, cells := 0, slots := 0, locals := 110 } : Room) from rfl]
  obtain ⟨rfl, hQ, hK⟩ := hv
  have hx := Bd.exec
  have hb := Bd.bytes
  have hr := Bd.returns
  have hts := atoms_spec (ws := wsX8_fault) Bd.pre
  have hown : s.vm.findClass RX8 = some m.cls := findClass_of_methodNamed Bd.named
  have hlocks := Bd.notSynchronized
  have FX : CallFix p m c cX8_fault 1 s _ wsX8_fault RX8 := ⟨hx, hb, hml, hown, hts⟩
  have hQ : va_P D vwCl [(x0, .inr (8, [.ref pg0, .ref fr, .ref nw, .ref kp, .ref t0, .ref pn, .ref bw, .ref ta, .int bm, .int (nI n), .int cv, .int bd, .int hi])), (pg0, .inr (4, [.ref co, .int (nI ln)])), (co, .inl (cI, 18, .inl pg))] s.heap := hQ
  have hl := lv_entry ([.ref x0]) (n := 1) (Nat.le_of_ble_eq_true rfl)
  rw [lg_entry_eq]
  generalize (lg_sl ([.ref x0]) ++ List.replicate (1 - (lg_sl ([.ref x0])).length) Slot.unset).toArray = ls at hl ⊢
  have hl : lv_has ls 1 [(0, .ref x0)] := hl
  refine lv_aload_n hx hb dX8_fault_0 rfl (lv_at hl 0 rfl) ?_
  refine va_get (D := D) (cl := vwCl) (tys := zT cI cB cF) (ci := 8) (v := .ref pg0) (C := RX8) (T := TX8) (N := 13) hx hb hts iw_X8_fault_X8 hown hK.1 hQ 0 rfl rfl 0 (by decide) (hts _ hw_X8_fault_1) (fun _ h9 => h9) rfl dX8_fault_1 ?_
  refine vz_rd (va_runV (As := []) (rest := []) FX (c_X4_rightLetters l D cI cB cF pg0 co ln pg (by first | assumption | omega | decide)) (cwV 0 hts gX8_fault_X4_rightLetters rfl rfl rfl ⟨rfl, hd_X4_rightLetters⟩ ⟨Nat.le_of_ble_eq_true rfl, Nat.le_of_ble_eq_true rfl⟩) (preP_V hQ 1 rfl rfl (hQ.sub (ws' := [(pg0, .inr (4, [.ref co, .int (nI ln)])), (co, .inl (cI, 18, .inl pg))]) [1, 2] rfl) hK) rfl rfl hl.1 rfl (lv_room (Nat.le_of_ble_eq_true rfl)) dX8_fault_4 ⟨Nat.le_of_ble_eq_true rfl, Nat.le_of_ble_eq_true rfl⟩) ?_
  exact W.iret hx hb hr (fun t ht hW => ⟨rfl, ht⟩) (fun q h => by cases h) dX8_fault_7
set_option maxRecDepth 100000 in
theorem iw_X8_about_X8 : ∀ w ∈ u_ws RX8 TX8 13, w ∈ wsX8_about := fun w h => List.mem_cons_of_mem _ (List.mem_append_left _ (List.mem_append_left _ (List.mem_append_left _ (List.mem_append_left _ (List.mem_append_left _ (List.mem_append_left _ (List.mem_append_left _ (List.mem_append_right _ h))))))))
set_option maxRecDepth 100000 in
theorem hw_X8_about_1 : (.fieldLink RX8 18 "RotaFathers" "fathers" "[LRotaFathers$Father;" : Cond) ∈ wsX8_about := List.mem_of_getElem? (i := 1) rfl
set_option maxRecDepth 100000 in
theorem iw_X8_about_X2 : ∀ w ∈ u_ws RX2 TX2 2, w ∈ wsX8_about := fun w h => List.mem_cons_of_mem _ (List.mem_append_left _ (List.mem_append_left _ (List.mem_append_left _ (List.mem_append_left _ (List.mem_append_right _ h)))))
set_option maxRecDepth 100000 in
theorem iw_X8_about_X1 : ∀ w ∈ u_ws RX1 TX1 2, w ∈ wsX8_about := fun w h => List.mem_cons_of_mem _ (List.mem_append_left _ (List.mem_append_left _ (List.mem_append_left _ (List.mem_append_left _ (List.mem_append_left _ (List.mem_append_right _ h))))))
set_option maxRecDepth 100000 in
theorem iw_X8_about_X6 : ∀ w ∈ u_ws RX6 TX6 2, w ∈ wsX8_about := fun w h => List.mem_cons_of_mem _ (List.mem_append_left _ (List.mem_append_left _ (List.mem_append_right _ h)))
set_option maxRecDepth 100000 in
theorem iw_X8_about_X5 : ∀ w ∈ u_ws RX5 TX5 2, w ∈ wsX8_about := fun w h => List.mem_cons_of_mem _ (List.mem_append_left _ (List.mem_append_left _ (List.mem_append_left _ (List.mem_append_right _ h))))
set_option maxRecDepth 100000 in
theorem iw_X8_about_X0 : ∀ w ∈ u_ws RX0 TX0 2, w ∈ wsX8_about := fun w h => List.mem_cons_of_mem _ (List.mem_append_left _ (List.mem_append_left _ (List.mem_append_left _ (List.mem_append_left _ (List.mem_append_left _ (List.mem_append_left _ (List.mem_append_right _ h)))))))
set_option maxRecDepth 100000 in
theorem hw_X8_about_2 : (.fieldLink RX8 94 "RotaFathers$Father" "flaw" "I" : Cond) ∈ wsX8_about := List.mem_of_getElem? (i := 2) rfl
set_option maxRecDepth 100000 in
theorem hw_X8_about_3 : (.fieldLink RX8 97 "RotaFathers$Father" "strength" "I" : Cond) ∈ wsX8_about := List.mem_of_getElem? (i := 3) rfl
set_option maxRecDepth 100000 in
theorem hw_X8_about_4 : (.fieldLink RX8 25 "RotaFathers" "now" "LRotaFathers$Lived;" : Cond) ∈ wsX8_about := List.mem_of_getElem? (i := 4) rfl
set_option maxRecDepth 100000 in
theorem iw_X8_about_X3 : ∀ w ∈ u_ws RX3 TX3 9, w ∈ wsX8_about := fun w h => List.mem_cons_of_mem _ (List.mem_append_left _ (List.mem_append_right _ h))
set_option maxRecDepth 100000 in
theorem hw_X8_about_5 : (.fieldLink RX8 100 "RotaFathers$Lived" "merits" "[I" : Cond) ∈ wsX8_about := List.mem_of_getElem? (i := 5) rfl
set_option maxRecDepth 100000 in
theorem hw_X8_about_6 : (.fieldLink RX8 107 "RotaFathers$Lived" "falls" "[I" : Cond) ∈ wsX8_about := List.mem_of_getElem? (i := 6) rfl
set_option maxRecDepth 100000 in
theorem hw_X8_about_7 : (.fieldLink RX8 114 "RotaFathers$Lived" "known" "I" : Cond) ∈ wsX8_about := List.mem_of_getElem? (i := 7) rfl
set_option maxRecDepth 100000 in
theorem hd_X8_about : yX8_about.cls ≠ "java/lang/invoke/MethodHandle" ∧ yX8_about.cls ≠ "java/lang/invoke/VarHandle" ∧ (parseMethodDescriptor yX8_about.desc).map (fun d => d.parameters.length) = some 2 := by decide +kernel
set_option maxHeartbeats 4000000 in
set_option maxRecDepth 100000 in
theorem c_X8_about (l : Launch) (D : va_G) (cI cB cF : ClassId) (sz : Nat) (x0 : Nat) (pg0 : Nat) (fr : Nat) (nw : Nat) (kp : Nat) (t0 : Nat) (pn : Nat) (bw : Nat) (ta : Nat) (t1 : Nat) (t2 : Nat) (t3 : Nat) (t4 : Nat) (n1 : Nat) (n2 : Nat) (n3 : Nat) (n4 : Nat) (n5 : Nat) (fd : Nat) (ft : Int32) (kn : Int32) (dy : Int32) (bm : Int32) (n : Nat) (cv : Int32) (bd : Int32) (hi : Int32) (kn0 : Int32) (me0 : Int32) (fa0 : Int32) (f1 : Nat → Int32) (f2 : Nat → Int32) (f3 : Nat → Int32) (f4 : Nat → Int32) (B : Nat → Nat) (F : zF) (r : Nat → Int32) (me : Nat → Int32) (fe : Nat → Int32) (i : Int32) (w : Int32) (hn : n ≤ 4) (hF : zFo n F) (hro0 : 0 < n → zRo n r) : Met l yX8_about wsX8_about ({ frames := 5, cells := 0, slots := 0, locals := 117 } : Room) (PcW D cI cB cF [.ref x0, .int i, .int w] sz [(t0, .inr (7, [.ref t1, .ref t2, .ref t3, .ref t4, .int kn0, .int me0, .int fa0])), (t1, .inl (cI, 9, .inl f1)), (t2, .inl (cI, 8, .inl f2)), (t3, .inl (cI, 8, .inl f3)), (t4, .inl (cI, 8, .inl f4))] ([(x0, .inr (8, [.ref pg0, .ref fr, .ref nw, .ref kp, .ref t0, .ref pn, .ref bw, .ref ta, .int bm, .int (nI n), .int cv, .int bd, .int hi])), (nw, .inr (3, [.ref n1, .ref n2, .ref n3, .ref n4, .ref n5, .int (nI fd), .int ft, .int kn, .int dy])), (fr, .inl (cF, 4, .inr (.inr (.inr (.inr (zG n B)))))), (n1, .inl (cI, 8, .inl r)), (n2, .inl (cI, 4, .inl me)), (n3, .inl (cI, 4, .inl fe))] ++ (zPo n B F))) (Qw D (S := Int32 × Int32 × Int32 × (Nat → Int32) × (Nat → Int32) × (Nat → Int32) × (Nat → Int32)) (fun xx => some (.int (zAbo n F r me fe ft kn i w))) (fun xx => True) (fun xx => [(t0, .inr (7, [.ref t1, .ref t2, .ref t3, .ref t4, .int xx.1, .int xx.2.1, .int xx.2.2.1])), (t1, .inl (cI, 9, .inl xx.2.2.2.1)), (t2, .inl (cI, 8, .inl xx.2.2.2.2.1)), (t3, .inl (cI, 8, .inl xx.2.2.2.2.2.1)), (t4, .inl (cI, 8, .inl xx.2.2.2.2.2.2))]) (va_A [(t0, .inr (7, [.ref t1, .ref t2, .ref t3, .ref t4, .int kn0, .int me0, .int fa0])), (t1, .inl (cI, 9, .inl f1)), (t2, .inl (cI, 8, .inl f2)), (t3, .inl (cI, 8, .inl f3)), (t4, .inl (cI, 8, .inl f4))] sz)) 0 0 (va_A [(t0, .inr (7, [.ref t1, .ref t2, .ref t3, .ref t4, .int kn0, .int me0, .int fa0])), (t1, .inl (cI, 9, .inl f1)), (t2, .inl (cI, 8, .inl f2)), (t3, .inl (cI, 8, .inl f3)), (t4, .inl (cI, 8, .inl f4))] sz) := by
  refine Met.ofW (cc := cX8_about) (maxL := 4) (ret := (some .int)) (by decide) rfl ?_
  intro p e s m args below meth c s₁ Bd hml hv
  rw [show (headSpec wsX8_about ({ frames := 5, cells := 0, slots := 0, locals := 117 } : Room)).room = ({ frames := 5, cells := 0, slots := 0, locals := 117 } : Room) from rfl]
  obtain ⟨rfl, hsz, hP, hK, hD0, hR⟩ := hv
  have hx := Bd.exec
  have hb := Bd.bytes
  have hr := Bd.returns
  have hts := atoms_spec (ws := wsX8_about) Bd.pre
  have hown : s.vm.findClass RX8 = some m.cls := findClass_of_methodNamed Bd.named
  have hlocks := Bd.notSynchronized
  have FX : CallFix p m c cX8_about 4 s _ wsX8_about RX8 := ⟨hx, hb, hml, hown, hts⟩
  subst hsz
  have hD := hD0.self (sz := s.heap.size)
  generalize hAe : va_A [(t0, .inr (7, [.ref t1, .ref t2, .ref t3, .ref t4, .int kn0, .int me0, .int fa0])), (t1, .inl (cI, 9, .inl f1)), (t2, .inl (cI, 8, .inl f2)), (t3, .inl (cI, 8, .inl f3)), (t4, .inl (cI, 8, .inl f4))] s.heap.size = A at hD hR ⊢
  have hA : ∀ q : Nat, s.heap.size ≤ q → A q := fun q h => by rw [← hAe]; exact Or.inr h
  have hS : va_S A s.heap s.heap [] := va_S.rf
  have hP : va_P D vwCl [(t0, .inr (7, [.ref t1, .ref t2, .ref t3, .ref t4, .int kn0, .int me0, .int fa0])), (t1, .inl (cI, 9, .inl f1)), (t2, .inl (cI, 8, .inl f2)), (t3, .inl (cI, 8, .inl f3)), (t4, .inl (cI, 8, .inl f4))] s.heap := hP
  have hQ : va_P D vwCl ([(t0, .inr (7, [.ref t1, .ref t2, .ref t3, .ref t4, .int kn0, .int me0, .int fa0])), (t1, .inl (cI, 9, .inl f1)), (t2, .inl (cI, 8, .inl f2)), (t3, .inl (cI, 8, .inl f3)), (t4, .inl (cI, 8, .inl f4))] ++ ([(x0, .inr (8, [.ref pg0, .ref fr, .ref nw, .ref kp, .ref t0, .ref pn, .ref bw, .ref ta, .int bm, .int (nI n), .int cv, .int bd, .int hi])), (nw, .inr (3, [.ref n1, .ref n2, .ref n3, .ref n4, .ref n5, .int (nI fd), .int ft, .int kn, .int dy])), (fr, .inl (cF, 4, .inr (.inr (.inr (.inr (zG n B)))))), (n1, .inl (cI, 8, .inl r)), (n2, .inl (cI, 4, .inl me)), (n3, .inl (cI, 4, .inl fe))] ++ (zPo n B F))) s.heap := va_P.app hP (hR.at hS).P
  have hl := lv_entry ([.ref x0, .int i, .int w]) (n := 4) (Nat.le_of_ble_eq_true rfl)
  rw [lg_entry_eq]
  generalize (lg_sl ([.ref x0, .int i, .int w]) ++ List.replicate (4 - (lg_sl ([.ref x0, .int i, .int w])).length) Slot.unset).toArray = ls at hl ⊢
  have hl : lv_has ls 4 [(0, .ref x0), (1, .int i), (2, .int w)] := hl
  refine lv_aload_n hx hb dX8_about_0 rfl (lv_at hl 0 rfl) ?_
  refine va_get (D := D) (cl := vwCl) (tys := zT cI cB cF) (ci := 8) (v := .ref fr) (C := RX8) (T := TX8) (N := 13) hx hb hts iw_X8_about_X8 hown hK.1 hQ 5 rfl rfl 1 (by decide) (hts _ hw_X8_about_1) (fun _ h9 => h9) rfl dX8_about_1 ?_
  refine lv_iload_n hx hb dX8_about_4 rfl (lv_at hl 1 rfl) ?_
  refine vz_rd (va_runS (As := [.ref fr, .int i]) (rest := []) FX (c_X8_fatherAt l D cI cB cF fr 4 (zG n B) i (by decide)) (va_cwS 2 hts gX8_about_X8_fatherAt rfl rfl rfl hd_X8_fatherAt ⟨Nat.le_of_ble_eq_true rfl, Nat.le_of_ble_eq_true rfl⟩) (preP_S (hQ.sub (ws' := [(fr, .inl (cF, 4, .inr (.inr (.inr (.inr (zG n B))))))]) [7] rfl) hK) rfl rfl hl.1 rfl (lv_room (Nat.le_of_ble_eq_true rfl)) dX8_about_5 ⟨Nat.le_of_ble_eq_true rfl, Nat.le_of_ble_eq_true rfl⟩) ?_
  rcases z_fa (B := B) i hn with ⟨f, hf, rfl⟩ | ⟨hno, hni⟩
  · have hpos : 0 < n := by omega
    have hro := hro0 hpos
    have hk := (hF f hf).1
    refine vz_sv (.ref (B f)) (by rw [zFa_nI (by omega) (by decide), zG_s hf]; rfl) ?_
    refine lv_astore_n (lv' := [(3, .ref (B f)), (0, .ref x0), (1, .int (nI f)), (2, .int w)]) hx hb dX8_about_8 rfl hl (by decide) rfl (fun ls hl => ?_)
    refine lv_aload_n hx hb dX8_about_9 rfl (lv_at hl 0 rfl) ?_
    refine lv_ifnonnull (tgt := 16) hx hb dX8_about_10 (by decide) ?_
    refine lv_iload_n hx hb dX8_about_16 rfl (lv_at hl 3 rfl) ?_
    by_cases q_17_0 : w = 0
    · refine vz_si 0 q_17_0 ?_
      refine lv_tableIn (off := 47) (tgt := 64) hx hb dX8_about_17 (by decide) (by decide) (by decide) (by decide) ?_
      refine lv_aload_n hx hb dX8_about_64 rfl (lv_at hl 0 rfl) ?_
      refine ab_kind (Nat.le_of_ble_eq_true rfl) (Nat.le_of_ble_eq_true rfl) (Nat.le_of_ble_eq_true rfl) (Nat.le_of_ble_eq_true rfl) FX hK (va_at.P ((hR.at hS) _ (List.mem_append_right _ (zPo_mem hf))).1) 0 hk rfl hl.1 (Nat.le_of_ble_eq_true rfl) ?_
      refine vz_si (zAbo n F r me fe ft kn (nI f) w) (by rw [zAbo, if_pos (z_inf hf hn), nI_clamp (by omega)]; unfold zAb1; rw [if_pos q_17_0]) ?_
      have hP9 := hP.sub (ws' := [(t0, .inr (7, [.ref t1, .ref t2, .ref t3, .ref t4, .int kn0, .int me0, .int fa0])), (t1, .inl (cI, 9, .inl f1)), (t2, .inl (cI, 8, .inl f2)), (t3, .inl (cI, 8, .inl f3)), (t4, .inl (cI, 8, .inl f4))]) [0, 1, 2, 3, 4] rfl
      have hD9 := hD.sub (ws' := [(t0, .inr (7, [.ref t1, .ref t2, .ref t3, .ref t4, .int kn0, .int me0, .int fa0])), (t1, .inl (cI, 9, .inl f1)), (t2, .inl (cI, 8, .inl f2)), (t3, .inl (cI, 8, .inl f3)), (t4, .inl (cI, 8, .inl f4))]) [0, 1, 2, 3, 4] (by decide) rfl
      exact W.iret hx hb hr (fun t ht hW => ⟨⟨(kn0, me0, fa0, f1, f2, f3, f4), rfl, trivial, by rw [ht]; exact hP9, hD9⟩, hS.F ht⟩) hS.2.2 dX8_about_68
    · skip
      by_cases q_17_1 : w = 1
      · refine vz_si 1 q_17_1 ?_
        refine lv_tableIn (off := 52) (tgt := 69) hx hb dX8_about_17 (by decide) (by decide) (by decide) (by decide) ?_
        refine lv_aload_n hx hb dX8_about_69 rfl (lv_at hl 0 rfl) ?_
        refine vz_flaw hx hb hts iw_X8_about_X2 iw_X8_about_X1 iw_X8_about_X6 iw_X8_about_X5 iw_X8_about_X0 hown hK (va_at.P ((hR.at hS) _ (List.mem_append_right _ (zPo_mem hf))).1) 0 hk rfl (hts _ hw_X8_about_2) dX8_about_70 ?_
        refine vz_si (zAbo n F r me fe ft kn (nI f) w) (by rw [zAbo, if_pos (z_inf hf hn), nI_clamp (by omega)]; unfold zAb1; rw [if_neg (by rw [q_17_1]; decide), if_pos q_17_1]) ?_
        have hP9 := hP.sub (ws' := [(t0, .inr (7, [.ref t1, .ref t2, .ref t3, .ref t4, .int kn0, .int me0, .int fa0])), (t1, .inl (cI, 9, .inl f1)), (t2, .inl (cI, 8, .inl f2)), (t3, .inl (cI, 8, .inl f3)), (t4, .inl (cI, 8, .inl f4))]) [0, 1, 2, 3, 4] rfl
        have hD9 := hD.sub (ws' := [(t0, .inr (7, [.ref t1, .ref t2, .ref t3, .ref t4, .int kn0, .int me0, .int fa0])), (t1, .inl (cI, 9, .inl f1)), (t2, .inl (cI, 8, .inl f2)), (t3, .inl (cI, 8, .inl f3)), (t4, .inl (cI, 8, .inl f4))]) [0, 1, 2, 3, 4] (by decide) rfl
        exact W.iret hx hb hr (fun t ht hW => ⟨⟨(kn0, me0, fa0, f1, f2, f3, f4), rfl, trivial, by rw [ht]; exact hP9, hD9⟩, hS.F ht⟩) hS.2.2 dX8_about_73
      · skip
        by_cases q_17_2 : w = 2
        · refine vz_si 2 q_17_2 ?_
          refine lv_tableIn (off := 57) (tgt := 74) hx hb dX8_about_17 (by decide) (by decide) (by decide) (by decide) ?_
          refine lv_aload_n hx hb dX8_about_74 rfl (lv_at hl 0 rfl) ?_
          refine vz_strength hx hb hts iw_X8_about_X2 iw_X8_about_X1 iw_X8_about_X6 iw_X8_about_X5 iw_X8_about_X0 hown hK (va_at.P ((hR.at hS) _ (List.mem_append_right _ (zPo_mem hf))).1) 0 hk rfl (hts _ hw_X8_about_3) dX8_about_75 ?_
          refine vz_si (zAbo n F r me fe ft kn (nI f) w) (by rw [zAbo, if_pos (z_inf hf hn), nI_clamp (by omega)]; unfold zAb1; rw [if_neg (by rw [q_17_2]; decide), if_neg (by rw [q_17_2]; decide), if_pos q_17_2]) ?_
          have hP9 := hP.sub (ws' := [(t0, .inr (7, [.ref t1, .ref t2, .ref t3, .ref t4, .int kn0, .int me0, .int fa0])), (t1, .inl (cI, 9, .inl f1)), (t2, .inl (cI, 8, .inl f2)), (t3, .inl (cI, 8, .inl f3)), (t4, .inl (cI, 8, .inl f4))]) [0, 1, 2, 3, 4] rfl
          have hD9 := hD.sub (ws' := [(t0, .inr (7, [.ref t1, .ref t2, .ref t3, .ref t4, .int kn0, .int me0, .int fa0])), (t1, .inl (cI, 9, .inl f1)), (t2, .inl (cI, 8, .inl f2)), (t3, .inl (cI, 8, .inl f3)), (t4, .inl (cI, 8, .inl f4))]) [0, 1, 2, 3, 4] (by decide) rfl
          exact W.iret hx hb hr (fun t ht hW => ⟨⟨(kn0, me0, fa0, f1, f2, f3, f4), rfl, trivial, by rw [ht]; exact hP9, hD9⟩, hS.F ht⟩) hS.2.2 dX8_about_78
        · skip
          by_cases q_17_3 : w = 3
          · refine vz_si 3 q_17_3 ?_
            refine lv_tableIn (off := 62) (tgt := 79) hx hb dX8_about_17 (by decide) (by decide) (by decide) (by decide) ?_
            refine lv_aload_n hx hb dX8_about_79 rfl (lv_at hl 1 rfl) ?_
            refine va_get (D := D) (cl := vwCl) (tys := zT cI cB cF) (ci := 8) (v := .ref nw) (C := RX8) (T := TX8) (N := 13) hx hb hts iw_X8_about_X8 hown hK.1 hQ 5 rfl rfl 2 (by decide) (hts _ hw_X8_about_4) (fun _ h9 => h9) rfl dX8_about_80 ?_
            refine va_get (D := D) (cl := vwCl) (tys := zT cI cB cF) (ci := 3) (v := .ref n2) (C := RX3) (T := TX3) (N := 9) hx hb hts iw_X8_about_X3 hown hK.1 hQ 6 rfl rfl 1 (by decide) (hts _ hw_X8_about_5) (fun _ h9 => h9) rfl dX8_about_83 ?_
            refine lv_iload_n hx hb dX8_about_86 rfl (lv_at hl 2 rfl) ?_
            refine vz_rd (va_runS (As := [.ref n2, .int (nI f)]) (rest := []) FX (c_X8_at l D cI cB cF n2 4 me (nI f) (by decide)) (va_cwS 2 hts gX8_about_X8_at rfl rfl rfl hd_X8_at ⟨Nat.le_of_ble_eq_true rfl, Nat.le_of_ble_eq_true rfl⟩) (preP_S (hQ.sub (ws' := [(n2, .inl (cI, 4, .inl me))]) [9] rfl) hK) rfl rfl hl.1 rfl (lv_room (Nat.le_of_ble_eq_true rfl)) dX8_about_87 ⟨Nat.le_of_ble_eq_true rfl, Nat.le_of_ble_eq_true rfl⟩) ?_
            refine vz_si (zAbo n F r me fe ft kn (nI f) w) (by rw [zAt_nI (by omega) (by decide)]; rw [zAbo, if_pos (z_inf hf hn), nI_clamp (by omega)]; unfold zAb1; rw [if_neg (by rw [q_17_3]; decide), if_neg (by rw [q_17_3]; decide), if_neg (by rw [q_17_3]; decide), if_pos q_17_3]) ?_
            have hP9 := hP.sub (ws' := [(t0, .inr (7, [.ref t1, .ref t2, .ref t3, .ref t4, .int kn0, .int me0, .int fa0])), (t1, .inl (cI, 9, .inl f1)), (t2, .inl (cI, 8, .inl f2)), (t3, .inl (cI, 8, .inl f3)), (t4, .inl (cI, 8, .inl f4))]) [0, 1, 2, 3, 4] rfl
            have hD9 := hD.sub (ws' := [(t0, .inr (7, [.ref t1, .ref t2, .ref t3, .ref t4, .int kn0, .int me0, .int fa0])), (t1, .inl (cI, 9, .inl f1)), (t2, .inl (cI, 8, .inl f2)), (t3, .inl (cI, 8, .inl f3)), (t4, .inl (cI, 8, .inl f4))]) [0, 1, 2, 3, 4] (by decide) rfl
            exact W.iret hx hb hr (fun t ht hW => ⟨⟨(kn0, me0, fa0, f1, f2, f3, f4), rfl, trivial, by rw [ht]; exact hP9, hD9⟩, hS.F ht⟩) hS.2.2 dX8_about_90
          · skip
            by_cases q_17_4 : w = 4
            · refine vz_si 4 q_17_4 ?_
              refine lv_tableIn (off := 74) (tgt := 91) hx hb dX8_about_17 (by decide) (by decide) (by decide) (by decide) ?_
              refine lv_aload_n hx hb dX8_about_91 rfl (lv_at hl 1 rfl) ?_
              refine va_get (D := D) (cl := vwCl) (tys := zT cI cB cF) (ci := 8) (v := .ref nw) (C := RX8) (T := TX8) (N := 13) hx hb hts iw_X8_about_X8 hown hK.1 hQ 5 rfl rfl 2 (by decide) (hts _ hw_X8_about_4) (fun _ h9 => h9) rfl dX8_about_92 ?_
              refine va_get (D := D) (cl := vwCl) (tys := zT cI cB cF) (ci := 3) (v := .ref n3) (C := RX3) (T := TX3) (N := 9) hx hb hts iw_X8_about_X3 hown hK.1 hQ 6 rfl rfl 2 (by decide) (hts _ hw_X8_about_6) (fun _ h9 => h9) rfl dX8_about_95 ?_
              refine lv_iload_n hx hb dX8_about_98 rfl (lv_at hl 2 rfl) ?_
              refine vz_rd (va_runS (As := [.ref n3, .int (nI f)]) (rest := []) FX (c_X8_at l D cI cB cF n3 4 fe (nI f) (by decide)) (va_cwS 2 hts gX8_about_X8_at rfl rfl rfl hd_X8_at ⟨Nat.le_of_ble_eq_true rfl, Nat.le_of_ble_eq_true rfl⟩) (preP_S (hQ.sub (ws' := [(n3, .inl (cI, 4, .inl fe))]) [10] rfl) hK) rfl rfl hl.1 rfl (lv_room (Nat.le_of_ble_eq_true rfl)) dX8_about_99 ⟨Nat.le_of_ble_eq_true rfl, Nat.le_of_ble_eq_true rfl⟩) ?_
              refine vz_si (zAbo n F r me fe ft kn (nI f) w) (by rw [zAt_nI (by omega) (by decide)]; rw [zAbo, if_pos (z_inf hf hn), nI_clamp (by omega)]; unfold zAb1; rw [if_neg (by rw [q_17_4]; decide), if_neg (by rw [q_17_4]; decide), if_neg (by rw [q_17_4]; decide), if_neg (by rw [q_17_4]; decide), if_pos q_17_4]) ?_
              have hP9 := hP.sub (ws' := [(t0, .inr (7, [.ref t1, .ref t2, .ref t3, .ref t4, .int kn0, .int me0, .int fa0])), (t1, .inl (cI, 9, .inl f1)), (t2, .inl (cI, 8, .inl f2)), (t3, .inl (cI, 8, .inl f3)), (t4, .inl (cI, 8, .inl f4))]) [0, 1, 2, 3, 4] rfl
              have hD9 := hD.sub (ws' := [(t0, .inr (7, [.ref t1, .ref t2, .ref t3, .ref t4, .int kn0, .int me0, .int fa0])), (t1, .inl (cI, 9, .inl f1)), (t2, .inl (cI, 8, .inl f2)), (t3, .inl (cI, 8, .inl f3)), (t4, .inl (cI, 8, .inl f4))]) [0, 1, 2, 3, 4] (by decide) rfl
              exact W.iret hx hb hr (fun t ht hW => ⟨⟨(kn0, me0, fa0, f1, f2, f3, f4), rfl, trivial, by rw [ht]; exact hP9, hD9⟩, hS.F ht⟩) hS.2.2 dX8_about_102
            · skip
              by_cases q_17_5 : w = 5
              · refine vz_si 5 q_17_5 ?_
                refine lv_tableIn (off := 86) (tgt := 103) hx hb dX8_about_17 (by decide) (by decide) (by decide) (by decide) ?_
                refine lv_aload_n hx hb dX8_about_103 rfl (lv_at hl 1 rfl) ?_
                refine lv_iload_n hx hb dX8_about_104 rfl (lv_at hl 2 rfl) ?_
                refine vz_rd (va_runV (As := [.int (nI f)]) (rest := []) FX (c_X8_shiftsOf l D cI cB cF x0 pg0 fr nw kp t0 pn bw ta n1 n2 n3 n4 n5 fd ft kn dy bm n cv bd hi r (nI f) ) (cwV 1 hts gX8_about_X8_shiftsOf rfl rfl rfl ⟨rfl, hd_X8_shiftsOf⟩ ⟨Nat.le_of_ble_eq_true rfl, Nat.le_of_ble_eq_true rfl⟩) (preP_V hQ 5 rfl rfl (hQ.sub (ws' := [(x0, .inr (8, [.ref pg0, .ref fr, .ref nw, .ref kp, .ref t0, .ref pn, .ref bw, .ref ta, .int bm, .int (nI n), .int cv, .int bd, .int hi])), (nw, .inr (3, [.ref n1, .ref n2, .ref n3, .ref n4, .ref n5, .int (nI fd), .int ft, .int kn, .int dy])), (n1, .inl (cI, 8, .inl r))]) [5, 6, 8] rfl) hK) rfl rfl hl.1 rfl (lv_room (Nat.le_of_ble_eq_true rfl)) dX8_about_105 ⟨Nat.le_of_ble_eq_true rfl, Nat.le_of_ble_eq_true rfl⟩) ?_
                refine vz_si (zAbo n F r me fe ft kn (nI f) w) (by rw [zAbo, if_pos (z_inf hf hn), nI_clamp (by omega)]; unfold zAb1; rw [if_neg (by rw [q_17_5]; decide), if_neg (by rw [q_17_5]; decide), if_neg (by rw [q_17_5]; decide), if_neg (by rw [q_17_5]; decide), if_neg (by rw [q_17_5]; decide), if_pos q_17_5]) ?_
                have hP9 := hP.sub (ws' := [(t0, .inr (7, [.ref t1, .ref t2, .ref t3, .ref t4, .int kn0, .int me0, .int fa0])), (t1, .inl (cI, 9, .inl f1)), (t2, .inl (cI, 8, .inl f2)), (t3, .inl (cI, 8, .inl f3)), (t4, .inl (cI, 8, .inl f4))]) [0, 1, 2, 3, 4] rfl
                have hD9 := hD.sub (ws' := [(t0, .inr (7, [.ref t1, .ref t2, .ref t3, .ref t4, .int kn0, .int me0, .int fa0])), (t1, .inl (cI, 9, .inl f1)), (t2, .inl (cI, 8, .inl f2)), (t3, .inl (cI, 8, .inl f3)), (t4, .inl (cI, 8, .inl f4))]) [0, 1, 2, 3, 4] (by decide) rfl
                exact W.iret hx hb hr (fun t ht hW => ⟨⟨(kn0, me0, fa0, f1, f2, f3, f4), rfl, trivial, by rw [ht]; exact hP9, hD9⟩, hS.F ht⟩) hS.2.2 dX8_about_108
              · skip
                by_cases q_17_6 : w = 6
                · refine vz_si 6 q_17_6 ?_
                  refine lv_tableIn (off := 92) (tgt := 109) hx hb dX8_about_17 (by decide) (by decide) (by decide) (by decide) ?_
                  refine lv_aload_n hx hb dX8_about_109 rfl (lv_at hl 1 rfl) ?_
                  refine va_get (D := D) (cl := vwCl) (tys := zT cI cB cF) (ci := 8) (v := .ref nw) (C := RX8) (T := TX8) (N := 13) hx hb hts iw_X8_about_X8 hown hK.1 hQ 5 rfl rfl 2 (by decide) (hts _ hw_X8_about_4) (fun _ h9 => h9) rfl dX8_about_110 ?_
                  refine va_get (D := D) (cl := vwCl) (tys := zT cI cB cF) (ci := 3) (v := .int kn) (C := RX3) (T := TX3) (N := 9) hx hb hts iw_X8_about_X3 hown hK.1 hQ 6 rfl rfl 7 (by decide) (hts _ hw_X8_about_7) (fun _ h9 => h9) rfl dX8_about_113 ?_
                  refine lv_aload_n hx hb dX8_about_116 rfl (lv_at hl 0 rfl) ?_
                  refine vz_flaw hx hb hts iw_X8_about_X2 iw_X8_about_X1 iw_X8_about_X6 iw_X8_about_X5 iw_X8_about_X0 hown hK (va_at.P ((hR.at hS) _ (List.mem_append_right _ (zPo_mem hf))).1) 0 hk rfl (hts _ hw_X8_about_2) dX8_about_117 ?_
                  refine vz_rd (va_runS (As := [.int kn, .int (F.2.1 f)]) (rest := []) FX (c_X8_knows l D cI cB cF kn (F.2.1 f) ) (va_cwS 2 hts gX8_about_X8_knows rfl rfl rfl hd_X8_knows ⟨Nat.le_of_ble_eq_true rfl, Nat.le_of_ble_eq_true rfl⟩) (preP_S (hQ.sub (ws' := []) [] rfl) hK) rfl rfl hl.1 rfl (lv_room (Nat.le_of_ble_eq_true rfl)) dX8_about_120 ⟨Nat.le_of_ble_eq_true rfl, Nat.le_of_ble_eq_true rfl⟩) ?_
                  refine lv_if_eq (tgt := 130) hx hb dX8_about_123 (by decide) (fun c_123 => ?_) (fun c_123 => ?_)
                  · have b_123 : (zKn kn (F.2.1 f)) = false := zb_f c_123
                    refine lv_iconst (v := 0) hx hb dX8_about_130 (by decide) ?_
                    refine vz_si (zAbo n F r me fe ft kn (nI f) w) (by rw [zAbo, if_pos (z_inf hf hn), nI_clamp (by omega)]; unfold zAb1; rw [if_neg (by rw [q_17_6]; decide), if_neg (by rw [q_17_6]; decide), if_neg (by rw [q_17_6]; decide), if_neg (by rw [q_17_6]; decide), if_neg (by rw [q_17_6]; decide), if_neg (by rw [q_17_6]; decide), if_pos q_17_6]; first | rw [b_123]; rfl | rw [zb_1 b_123] | rw [zb_0 b_123]) ?_
                    have hP9 := hP.sub (ws' := [(t0, .inr (7, [.ref t1, .ref t2, .ref t3, .ref t4, .int kn0, .int me0, .int fa0])), (t1, .inl (cI, 9, .inl f1)), (t2, .inl (cI, 8, .inl f2)), (t3, .inl (cI, 8, .inl f3)), (t4, .inl (cI, 8, .inl f4))]) [0, 1, 2, 3, 4] rfl
                    have hD9 := hD.sub (ws' := [(t0, .inr (7, [.ref t1, .ref t2, .ref t3, .ref t4, .int kn0, .int me0, .int fa0])), (t1, .inl (cI, 9, .inl f1)), (t2, .inl (cI, 8, .inl f2)), (t3, .inl (cI, 8, .inl f3)), (t4, .inl (cI, 8, .inl f4))]) [0, 1, 2, 3, 4] (by decide) rfl
                    exact W.iret hx hb hr (fun t ht hW => ⟨⟨(kn0, me0, fa0, f1, f2, f3, f4), rfl, trivial, by rw [ht]; exact hP9, hD9⟩, hS.F ht⟩) hS.2.2 dX8_about_131
                  · have b_123 : (zKn kn (F.2.1 f)) = true := zb_t c_123
                    refine lv_iconst (v := 1) hx hb dX8_about_126 (by decide) ?_
                    refine lv_goto (tgt := 131) hx hb dX8_about_127 (by decide) ?_
                    refine vz_si (zAbo n F r me fe ft kn (nI f) w) (by rw [zAbo, if_pos (z_inf hf hn), nI_clamp (by omega)]; unfold zAb1; rw [if_neg (by rw [q_17_6]; decide), if_neg (by rw [q_17_6]; decide), if_neg (by rw [q_17_6]; decide), if_neg (by rw [q_17_6]; decide), if_neg (by rw [q_17_6]; decide), if_neg (by rw [q_17_6]; decide), if_pos q_17_6]; first | rw [b_123]; rfl | rw [zb_1 b_123] | rw [zb_0 b_123]) ?_
                    have hP9 := hP.sub (ws' := [(t0, .inr (7, [.ref t1, .ref t2, .ref t3, .ref t4, .int kn0, .int me0, .int fa0])), (t1, .inl (cI, 9, .inl f1)), (t2, .inl (cI, 8, .inl f2)), (t3, .inl (cI, 8, .inl f3)), (t4, .inl (cI, 8, .inl f4))]) [0, 1, 2, 3, 4] rfl
                    have hD9 := hD.sub (ws' := [(t0, .inr (7, [.ref t1, .ref t2, .ref t3, .ref t4, .int kn0, .int me0, .int fa0])), (t1, .inl (cI, 9, .inl f1)), (t2, .inl (cI, 8, .inl f2)), (t3, .inl (cI, 8, .inl f3)), (t4, .inl (cI, 8, .inl f4))]) [0, 1, 2, 3, 4] (by decide) rfl
                    exact W.iret hx hb hr (fun t ht hW => ⟨⟨(kn0, me0, fa0, f1, f2, f3, f4), rfl, trivial, by rw [ht]; exact hP9, hD9⟩, hS.F ht⟩) hS.2.2 dX8_about_131
                · skip
                  by_cases q_17_7 : w = 7
                  · refine vz_si 7 q_17_7 ?_
                    refine lv_tableIn (off := 115) (tgt := 132) hx hb dX8_about_17 (by decide) (by decide) (by decide) (by decide) ?_
                    refine lv_aload_n hx hb dX8_about_132 rfl (lv_at hl 1 rfl) ?_
                    refine lv_iload_n hx hb dX8_about_133 rfl (lv_at hl 2 rfl) ?_
                    have hFc := va_free (wc := [(t0, .inr (7, [.ref t1, .ref t2, .ref t3, .ref t4, .int kn0, .int me0, .int fa0])), (t1, .inl (cI, 9, .inl f1)), (t2, .inl (cI, 8, .inl f2)), (t3, .inl (cI, 8, .inl f3)), (t4, .inl (cI, 8, .inl f4))]) hD hS hA [0, 1, 2, 3, 4] rfl
                    refine vz_cw [] [0, 1, 2, 3, 4] [] (va_runV (As := [.int (nI f)]) (rest := []) FX (c_X8_nextMeritOf l D cI cB cF s.heap.size x0 pg0 fr nw kp t0 pn bw ta t1 t2 t3 t4 n1 n2 n3 n4 n5 fd ft kn dy bm n cv bd hi kn0 me0 fa0 f1 f2 f3 f4 B F r (nI f) (by first | assumption | omega | decide) (fun f h => (hF f h).1) (by first | assumption | omega | decide)) (cwV 1 hts gX8_about_X8_nextMeritOf rfl rfl rfl ⟨rfl, hd_X8_nextMeritOf⟩ ⟨Nat.le_of_ble_eq_true rfl, Nat.le_of_ble_eq_true rfl⟩) (preW_V hQ 5 rfl rfl (hP.sub (ws' := [(t0, .inr (7, [.ref t1, .ref t2, .ref t3, .ref t4, .int kn0, .int me0, .int fa0])), (t1, .inl (cI, 9, .inl f1)), (t2, .inl (cI, 8, .inl f2)), (t3, .inl (cI, 8, .inl f3)), (t4, .inl (cI, 8, .inl f4))]) [0, 1, 2, 3, 4] rfl) (hD.sub (ws' := [(t0, .inr (7, [.ref t1, .ref t2, .ref t3, .ref t4, .int kn0, .int me0, .int fa0])), (t1, .inl (cI, 9, .inl f1)), (t2, .inl (cI, 8, .inl f2)), (t3, .inl (cI, 8, .inl f3)), (t4, .inl (cI, 8, .inl f4))]) [0, 1, 2, 3, 4] (by decide) rfl) hK (show vz_R D ([(x0, .inr (8, [.ref pg0, .ref fr, .ref nw, .ref kp, .ref t0, .ref pn, .ref bw, .ref ta, .int bm, .int (nI n), .int cv, .int bd, .int hi])), (nw, .inr (3, [.ref n1, .ref n2, .ref n3, .ref n4, .ref n5, .int (nI fd), .int ft, .int kn, .int dy])), (fr, .inl (cF, 4, .inr (.inr (.inr (.inr (zG n B)))))), (n1, .inl (cI, 8, .inl r))] ++ (zPo n B F)) _ _ from (vz_R.cons ((hR.at hS).one hFc (List.mem_of_getElem? (i := 0) rfl)) (vz_R.cons ((hR.at hS).one hFc (List.mem_of_getElem? (i := 1) rfl)) (vz_R.cons ((hR.at hS).one hFc (List.mem_of_getElem? (i := 2) rfl)) (vz_R.cons ((hR.at hS).one hFc (List.mem_of_getElem? (i := 3) rfl)) ((hR.at hS).sub hFc (fun q h => List.mem_append_right _ h)))))))) rfl rfl hl.1 rfl (lv_room (Nat.le_of_ble_eq_true rfl)) dX8_about_134 ⟨Nat.le_of_ble_eq_true rfl, Nat.le_of_ble_eq_true rfl⟩) hP hD hS hA rfl rfl rfl (by decide) (fun u H locs hu hP hD hS hz9 hk9 => ?_)
                    have hP : va_P D vwCl [(t0, .inr (7, [.ref t1, .ref t2, .ref t3, .ref t4, .int (zDk F r ft kn 8), .int (zSum (zDg F r ft kn) 8), .int (zSum (zDe F r ft kn) 8)])), (t1, .inl (cI, 9, .inl (zDf F r ft kn))), (t2, .inl (cI, 8, .inl (zDh F r ft kn))), (t3, .inl (cI, 8, .inl (zDg F r ft kn))), (t4, .inl (cI, 8, .inl (zDe F r ft kn)))] H := hP
                    have hD : va_D A [(t0, .inr (7, [.ref t1, .ref t2, .ref t3, .ref t4, .int (zDk F r ft kn 8), .int (zSum (zDg F r ft kn) 8), .int (zSum (zDe F r ft kn) 8)])), (t1, .inl (cI, 9, .inl (zDf F r ft kn))), (t2, .inl (cI, 8, .inl (zDh F r ft kn))), (t3, .inl (cI, 8, .inl (zDg F r ft kn))), (t4, .inl (cI, 8, .inl (zDe F r ft kn)))] := hD
                    have hQ : va_P D vwCl ([(t0, .inr (7, [.ref t1, .ref t2, .ref t3, .ref t4, .int (zDk F r ft kn 8), .int (zSum (zDg F r ft kn) 8), .int (zSum (zDe F r ft kn) 8)])), (t1, .inl (cI, 9, .inl (zDf F r ft kn))), (t2, .inl (cI, 8, .inl (zDh F r ft kn))), (t3, .inl (cI, 8, .inl (zDg F r ft kn))), (t4, .inl (cI, 8, .inl (zDe F r ft kn)))] ++ ([(x0, .inr (8, [.ref pg0, .ref fr, .ref nw, .ref kp, .ref t0, .ref pn, .ref bw, .ref ta, .int bm, .int (nI n), .int cv, .int bd, .int hi])), (nw, .inr (3, [.ref n1, .ref n2, .ref n3, .ref n4, .ref n5, .int (nI fd), .int ft, .int kn, .int dy])), (fr, .inl (cF, 4, .inr (.inr (.inr (.inr (zG n B)))))), (n1, .inl (cI, 8, .inl r)), (n2, .inl (cI, 4, .inl me)), (n3, .inl (cI, 4, .inl fe))] ++ (zPo n B F))) H := va_P.app hP (hR.at hS).P
                    show W _ _ _ _ _ _ _ _ _ _ _ _ _ _ _ (F0 m 137 ls [.int (zGs (zDg F r ft kn) r (nI f) 8)])
                    refine vz_si (zAbo n F r me fe ft kn (nI f) w) (by rw [zAbo, if_pos (z_inf hf hn), nI_clamp (by omega)]; unfold zAb1; rw [if_neg (by rw [q_17_7]; decide), if_neg (by rw [q_17_7]; decide), if_neg (by rw [q_17_7]; decide), if_neg (by rw [q_17_7]; decide), if_neg (by rw [q_17_7]; decide), if_neg (by rw [q_17_7]; decide), if_neg (by rw [q_17_7]; decide), if_pos q_17_7]) ?_
                    have hP9 := hP.sub (ws' := [(t0, .inr (7, [.ref t1, .ref t2, .ref t3, .ref t4, .int (zDk F r ft kn 8), .int (zSum (zDg F r ft kn) 8), .int (zSum (zDe F r ft kn) 8)])), (t1, .inl (cI, 9, .inl (zDf F r ft kn))), (t2, .inl (cI, 8, .inl (zDh F r ft kn))), (t3, .inl (cI, 8, .inl (zDg F r ft kn))), (t4, .inl (cI, 8, .inl (zDe F r ft kn)))]) [0, 1, 2, 3, 4] rfl
                    have hD9 := hD.sub (ws' := [(t0, .inr (7, [.ref t1, .ref t2, .ref t3, .ref t4, .int (zDk F r ft kn 8), .int (zSum (zDg F r ft kn) 8), .int (zSum (zDe F r ft kn) 8)])), (t1, .inl (cI, 9, .inl (zDf F r ft kn))), (t2, .inl (cI, 8, .inl (zDh F r ft kn))), (t3, .inl (cI, 8, .inl (zDg F r ft kn))), (t4, .inl (cI, 8, .inl (zDe F r ft kn)))]) [0, 1, 2, 3, 4] (by decide) rfl
                    exact W.iret hx hb hr (fun t ht hW => ⟨⟨(zDk F r ft kn 8, zSum (zDg F r ft kn) 8, zSum (zDe F r ft kn) 8, zDf F r ft kn, zDh F r ft kn, zDg F r ft kn, zDe F r ft kn), rfl, trivial, by rw [ht]; exact hP9, hD9⟩, hS.F ht⟩) hS.2.2 dX8_about_137
                  · skip
                    refine lv_tableOut (tgt := 138) hx hb dX8_about_17 (by have w_0 := lv_neT (a := 0) q_17_0 rfl; have w_1 := lv_neT (a := 1) q_17_1 rfl; have w_2 := lv_neT (a := 2) q_17_2 rfl; have w_3 := lv_neT (a := 3) q_17_3 rfl; have w_4 := lv_neT (a := 4) q_17_4 rfl; have w_5 := lv_neT (a := 5) q_17_5 rfl; have w_6 := lv_neT (a := 6) q_17_6 rfl; have w_7 := lv_neT (a := 7) q_17_7 rfl; omega) (by decide) ?_
                    refine lv_bipush (v := (-102)) hx hb dX8_about_138 (by decide) ?_
                    refine vz_si (zAbo n F r me fe ft kn (nI f) w) (by rw [zAbo, if_pos (z_inf hf hn), nI_clamp (by omega)]; unfold zAb1; rw [if_neg q_17_0, if_neg q_17_1, if_neg q_17_2, if_neg q_17_3, if_neg q_17_4, if_neg q_17_5, if_neg q_17_6, if_neg q_17_7]) ?_
                    have hP9 := hP.sub (ws' := [(t0, .inr (7, [.ref t1, .ref t2, .ref t3, .ref t4, .int kn0, .int me0, .int fa0])), (t1, .inl (cI, 9, .inl f1)), (t2, .inl (cI, 8, .inl f2)), (t3, .inl (cI, 8, .inl f3)), (t4, .inl (cI, 8, .inl f4))]) [0, 1, 2, 3, 4] rfl
                    have hD9 := hD.sub (ws' := [(t0, .inr (7, [.ref t1, .ref t2, .ref t3, .ref t4, .int kn0, .int me0, .int fa0])), (t1, .inl (cI, 9, .inl f1)), (t2, .inl (cI, 8, .inl f2)), (t3, .inl (cI, 8, .inl f3)), (t4, .inl (cI, 8, .inl f4))]) [0, 1, 2, 3, 4] (by decide) rfl
                    exact W.iret hx hb hr (fun t ht hW => ⟨⟨(kn0, me0, fa0, f1, f2, f3, f4), rfl, trivial, by rw [ht]; exact hP9, hD9⟩, hS.F ht⟩) hS.2.2 dX8_about_140
  · refine vz_sv (.null) (by rw [hno]; rfl) ?_
    refine lv_astore_nN (lv' := [(3, .null), (0, .ref x0), (1, .int i), (2, .int w)]) hx hb dX8_about_8 rfl hl (by decide) rfl (fun ls hl => ?_)
    refine lv_aload_nN hx hb dX8_about_9 rfl (lv_at hl 0 rfl) ?_
    refine lv_ifnonnullN hx hb dX8_about_10 ?_
    refine lv_bipush (v := (-101)) hx hb dX8_about_13 (by decide) ?_
    refine vz_si (zAbo n F r me fe ft kn i w) (by rw [zAbo, if_neg (by rw [hni]; decide)]) ?_
    have hP9 := hP.sub (ws' := [(t0, .inr (7, [.ref t1, .ref t2, .ref t3, .ref t4, .int kn0, .int me0, .int fa0])), (t1, .inl (cI, 9, .inl f1)), (t2, .inl (cI, 8, .inl f2)), (t3, .inl (cI, 8, .inl f3)), (t4, .inl (cI, 8, .inl f4))]) [0, 1, 2, 3, 4] rfl
    have hD9 := hD.sub (ws' := [(t0, .inr (7, [.ref t1, .ref t2, .ref t3, .ref t4, .int kn0, .int me0, .int fa0])), (t1, .inl (cI, 9, .inl f1)), (t2, .inl (cI, 8, .inl f2)), (t3, .inl (cI, 8, .inl f3)), (t4, .inl (cI, 8, .inl f4))]) [0, 1, 2, 3, 4] (by decide) rfl
    exact W.iret hx hb hr (fun t ht hW => ⟨⟨(kn0, me0, fa0, f1, f2, f3, f4), rfl, trivial, by rw [ht]; exact hP9, hD9⟩, hS.F ht⟩) hS.2.2 dX8_about_15
set_option maxRecDepth 100000 in
theorem iw_X8_as_X8 : ∀ w ∈ u_ws RX8 TX8 13, w ∈ wsX8_as := fun w h => List.mem_cons_of_mem _ (List.mem_append_right _ h)
set_option maxRecDepth 100000 in
theorem hw_X8_as_1 : (.fieldLink RX8 18 "RotaFathers" "fathers" "[LRotaFathers$Father;" : Cond) ∈ wsX8_as := List.mem_of_getElem? (i := 1) rfl
set_option maxRecDepth 100000 in
theorem hd_X8_as : yX8_as.cls ≠ "java/lang/invoke/MethodHandle" ∧ yX8_as.cls ≠ "java/lang/invoke/VarHandle" ∧ (parseMethodDescriptor yX8_as.desc).map (fun d => d.parameters.length) = some 2 := by decide +kernel
set_option maxHeartbeats 4000000 in
set_option maxRecDepth 100000 in
theorem c_X8_as (l : Launch) (D : va_G) (cI cB cF : ClassId) (x0 : Nat) (pg0 : Nat) (fr : Nat) (nw : Nat) (kp : Nat) (t0 : Nat) (pn : Nat) (bw : Nat) (ta : Nat) (bm : Int32) (n : Nat) (cv : Int32) (bd : Int32) (hi : Int32) (B : Nat → Nat) (F : zF) (i : Int32) (kd : Int32) (hn : n ≤ 4) (hF : zFo n F) : Met l yX8_as wsX8_as ({ frames := 1, cells := 0, slots := 0, locals := 21 } : Room) (PcP D cI cB cF [.ref x0, .int i, .int kd] ([(x0, .inr (8, [.ref pg0, .ref fr, .ref nw, .ref kp, .ref t0, .ref pn, .ref bw, .ref ta, .int bm, .int (nI n), .int cv, .int bd, .int hi])), (fr, .inl (cF, 4, .inr (.inr (.inr (.inr (zG n B))))))] ++ (zPo n B F))) (QcV (.int (zAs n F i kd))) 0 0 (fun _ => False) := by
  refine Met.ofW (cc := cX8_as) (maxL := 4) (ret := (some .int)) (by decide) rfl ?_
  intro p e s m args below meth c s₁ Bd hml hv
  rw [show (headSpec wsX8_as ({ frames := 1, cells := 0, slots := 0, locals := 21 } : Room)).room = ({ frames := 1, cells := 0, slots := 0, locals := 21 } : Room) from rfl]
  obtain ⟨rfl, hQ, hK⟩ := hv
  have hx := Bd.exec
  have hb := Bd.bytes
  have hr := Bd.returns
  have hts := atoms_spec (ws := wsX8_as) Bd.pre
  have hown : s.vm.findClass RX8 = some m.cls := findClass_of_methodNamed Bd.named
  have hlocks := Bd.notSynchronized
  have FX : CallFix p m c cX8_as 4 s _ wsX8_as RX8 := ⟨hx, hb, hml, hown, hts⟩
  have hQ : va_P D vwCl ([(x0, .inr (8, [.ref pg0, .ref fr, .ref nw, .ref kp, .ref t0, .ref pn, .ref bw, .ref ta, .int bm, .int (nI n), .int cv, .int bd, .int hi])), (fr, .inl (cF, 4, .inr (.inr (.inr (.inr (zG n B))))))] ++ (zPo n B F)) s.heap := hQ
  have hl := lv_entry ([.ref x0, .int i, .int kd]) (n := 4) (Nat.le_of_ble_eq_true rfl)
  rw [lg_entry_eq]
  generalize (lg_sl ([.ref x0, .int i, .int kd]) ++ List.replicate (4 - (lg_sl ([.ref x0, .int i, .int kd])).length) Slot.unset).toArray = ls at hl ⊢
  have hl : lv_has ls 4 [(0, .ref x0), (1, .int i), (2, .int kd)] := hl
  refine lv_aload_n hx hb dX8_as_0 rfl (lv_at hl 0 rfl) ?_
  refine va_get (D := D) (cl := vwCl) (tys := zT cI cB cF) (ci := 8) (v := .ref fr) (C := RX8) (T := TX8) (N := 13) hx hb hts iw_X8_as_X8 hown hK.1 hQ 0 rfl rfl 1 (by decide) (hts _ hw_X8_as_1) (fun _ h9 => h9) rfl dX8_as_1 ?_
  refine lv_iload_n hx hb dX8_as_4 rfl (lv_at hl 1 rfl) ?_
  refine vz_rd (va_runS (As := [.ref fr, .int i]) (rest := []) FX (c_X8_fatherAt l D cI cB cF fr 4 (zG n B) i (by decide)) (va_cwS 2 hts gX8_as_X8_fatherAt rfl rfl rfl hd_X8_fatherAt ⟨Nat.le_of_ble_eq_true rfl, Nat.le_of_ble_eq_true rfl⟩) (preP_S (hQ.sub (ws' := [(fr, .inl (cF, 4, .inr (.inr (.inr (.inr (zG n B))))))]) [1] rfl) hK) rfl rfl hl.1 rfl (lv_room (Nat.le_of_ble_eq_true rfl)) dX8_as_5 ⟨Nat.le_of_ble_eq_true rfl, Nat.le_of_ble_eq_true rfl⟩) ?_
  rcases z_fa (B := B) i hn with ⟨f, hf, rfl⟩ | ⟨hno, hni⟩
  · have hk := (hF f hf).1
    refine vz_sv (.ref (B f)) (by rw [zFa_nI (by omega) (by decide), zG_s hf]; rfl) ?_
    refine lv_astore_n (lv' := [(3, .ref (B f)), (0, .ref x0), (1, .int (nI f)), (2, .int kd)]) hx hb dX8_as_8 rfl hl (by decide) rfl (fun ls hl => ?_)
    refine lv_aload_n hx hb dX8_as_9 rfl (lv_at hl 0 rfl) ?_
    refine lv_ifnonnull (tgt := 16) hx hb dX8_as_10 (by decide) ?_
    refine lv_iload_n hx hb dX8_as_16 rfl (lv_at hl 3 rfl) ?_
    refine lv_if_lt (tgt := 25) hx hb dX8_as_17 (by decide) (fun c_17 => ?_) (fun c_17 => ?_)
    · refine lv_bipush (v := (-102)) hx hb dX8_as_25 (by decide) ?_
      refine vz_si (zAs n F (nI f) kd) (by rw [zAs, if_pos (z_inf hf hn), if_neg (by first | (rw [zIn_lo c_17]; decide) | (rw [zIn_hi (Int32.not_le.mp c_22)]; decide))]) ?_
      exact W.iret hx hb hr (fun t ht hW => ⟨rfl, ht⟩) (fun q h => by cases h) dX8_as_27
    · refine lv_iload_n hx hb dX8_as_20 rfl (lv_at hl 3 rfl) ?_
      refine lv_iconst (v := 4) hx hb dX8_as_21 (by decide) ?_
      refine lv_icmp_le (tgt := 28) hx hb dX8_as_22 (by decide) (fun c_22 => ?_) (fun c_22 => ?_)
      · refine lv_aload_n hx hb dX8_as_28 rfl (lv_at hl 0 rfl) ?_
        refine lv_iload_n hx hb dX8_as_29 rfl (lv_at hl 3 rfl) ?_
        refine vz_rd (va_runS (As := [.ref (B f), .int kd]) (rest := []) FX (c_X8_isOfKind l D cI cB cF (B f) (F.1 f) (F.2.1 f) (F.2.2 f) kd hk) (va_cwS 2 hts gX8_as_X8_isOfKind rfl rfl rfl hd_X8_isOfKind ⟨Nat.le_of_ble_eq_true rfl, Nat.le_of_ble_eq_true rfl⟩) (preP_S (va_at.P (va_P.mem hQ (List.mem_append_right _ (zPo_mem hf)))) hK) rfl rfl hl.1 rfl (lv_room (Nat.le_of_ble_eq_true rfl)) dX8_as_30 ⟨Nat.le_of_ble_eq_true rfl, Nat.le_of_ble_eq_true rfl⟩) ?_
        refine lv_if_eq (tgt := 40) hx hb dX8_as_33 (by decide) (fun c_33 => ?_) (fun c_33 => ?_)
        · have b_33 : (zIs (F.1 f) kd) = false := zb_f c_33
          refine lv_iconst (v := (-1)) hx hb dX8_as_40 (by decide) ?_
          refine vz_si (zAs n F (nI f) kd) (by rw [zAs, if_pos (z_inf hf hn), if_pos (zIn_ok c_17 c_22), nI_clamp (by omega)]; first | rw [if_pos b_33] | rw [if_neg (by rw [b_33]; decide)]) ?_
          exact W.iret hx hb hr (fun t ht hW => ⟨rfl, ht⟩) (fun q h => by cases h) dX8_as_41
        · have b_33 : (zIs (F.1 f) kd) = true := zb_t c_33
          refine lv_iload_n hx hb dX8_as_36 rfl (lv_at hl 2 rfl) ?_
          refine lv_goto (tgt := 41) hx hb dX8_as_37 (by decide) ?_
          refine vz_si (zAs n F (nI f) kd) (by rw [zAs, if_pos (z_inf hf hn), if_pos (zIn_ok c_17 c_22), nI_clamp (by omega)]; first | rw [if_pos b_33] | rw [if_neg (by rw [b_33]; decide)]) ?_
          exact W.iret hx hb hr (fun t ht hW => ⟨rfl, ht⟩) (fun q h => by cases h) dX8_as_41
      · refine lv_bipush (v := (-102)) hx hb dX8_as_25 (by decide) ?_
        refine vz_si (zAs n F (nI f) kd) (by rw [zAs, if_pos (z_inf hf hn), if_neg (by first | (rw [zIn_lo c_17]; decide) | (rw [zIn_hi (Int32.not_le.mp c_22)]; decide))]) ?_
        exact W.iret hx hb hr (fun t ht hW => ⟨rfl, ht⟩) (fun q h => by cases h) dX8_as_27
  · refine vz_sv (.null) (by rw [hno]; rfl) ?_
    refine lv_astore_nN (lv' := [(3, .null), (0, .ref x0), (1, .int i), (2, .int kd)]) hx hb dX8_as_8 rfl hl (by decide) rfl (fun ls hl => ?_)
    refine lv_aload_nN hx hb dX8_as_9 rfl (lv_at hl 0 rfl) ?_
    refine lv_ifnonnullN hx hb dX8_as_10 ?_
    refine lv_bipush (v := (-101)) hx hb dX8_as_13 (by decide) ?_
    refine vz_si (zAs n F i kd) (by rw [zAs, if_neg (by rw [hni]; decide)]) ?_
    exact W.iret hx hb hr (fun t ht hW => ⟨rfl, ht⟩) (fun q h => by cases h) dX8_as_15
set_option maxRecDepth 100000 in
theorem iw_X8_rota_X8 : ∀ w ∈ u_ws RX8 TX8 13, w ∈ wsX8_rota := fun w h => List.mem_cons_of_mem _ (List.mem_append_left _ (List.mem_append_right _ h))
set_option maxRecDepth 100000 in
theorem hw_X8_rota_2 : (.fieldLink RX8 25 "RotaFathers" "now" "LRotaFathers$Lived;" : Cond) ∈ wsX8_rota := List.mem_of_getElem? (i := 2) rfl
set_option maxRecDepth 100000 in
theorem iw_X8_rota_X3 : ∀ w ∈ u_ws RX3 TX3 9, w ∈ wsX8_rota := fun w h => List.mem_cons_of_mem _ (List.mem_append_right _ h)
set_option maxRecDepth 100000 in
theorem hw_X8_rota_3 : (.fieldLink RX8 132 "RotaFathers$Lived" "rota" "[I" : Cond) ∈ wsX8_rota := List.mem_of_getElem? (i := 3) rfl
set_option maxRecDepth 100000 in
theorem hw_X8_rota_1 : (.fieldLink RX8 18 "RotaFathers" "fathers" "[LRotaFathers$Father;" : Cond) ∈ wsX8_rota := List.mem_of_getElem? (i := 1) rfl
set_option maxRecDepth 100000 in
theorem hd_X8_rota : yX8_rota.cls ≠ "java/lang/invoke/MethodHandle" ∧ yX8_rota.cls ≠ "java/lang/invoke/VarHandle" ∧ (parseMethodDescriptor yX8_rota.desc).map (fun d => d.parameters.length) = some 2 := by decide +kernel
set_option maxHeartbeats 4000000 in
set_option maxRecDepth 100000 in
theorem c_X8_rota (l : Launch) (D : va_G) (cI cB cF : ClassId) (sz : Nat) (x0 : Nat) (pg0 : Nat) (fr : Nat) (nw : Nat) (kp : Nat) (t0 : Nat) (pn : Nat) (bw : Nat) (ta : Nat) (n1 : Nat) (n2 : Nat) (n3 : Nat) (n4 : Nat) (n5 : Nat) (fd : Nat) (ft : Int32) (kn : Int32) (dy : Int32) (bm : Int32) (n : Nat) (cv : Int32) (bd : Int32) (hi : Int32) (B : Nat → Nat) (F : zF) (r : Nat → Int32) (s0 : Int32) (i : Int32) (hn : n ≤ 4) : Met l yX8_rota wsX8_rota ({ frames := 2, cells := 0, slots := 0, locals := 41 } : Room) (PcW D cI cB cF [.ref x0, .int s0, .int i] sz [(n1, .inl (cI, 8, .inl r))] [(x0, .inr (8, [.ref pg0, .ref fr, .ref nw, .ref kp, .ref t0, .ref pn, .ref bw, .ref ta, .int bm, .int (nI n), .int cv, .int bd, .int hi])), (nw, .inr (3, [.ref n1, .ref n2, .ref n3, .ref n4, .ref n5, .int (nI fd), .int ft, .int kn, .int dy])), (fr, .inl (cF, 4, .inr (.inr (.inr (.inr (zG n B))))))]) (Qw D (S := Unit) (fun xx => some (.int (zRa n r s0 i))) (fun xx => True) (fun xx => [(n1, .inl (cI, 8, .inl (zRr n r s0 i)))]) (va_A [(n1, .inl (cI, 8, .inl r))] sz)) 0 0 (va_A [(n1, .inl (cI, 8, .inl r))] sz) := by
  refine Met.ofW (cc := cX8_rota) (maxL := 4) (ret := (some .int)) (by decide) rfl ?_
  intro p e s m args below meth c s₁ Bd hml hv
  rw [show (headSpec wsX8_rota ({ frames := 2, cells := 0, slots := 0, locals := 41 } : Room)).room = ({ frames := 2, cells := 0, slots := 0, locals := 41 } : Room) from rfl]
  obtain ⟨rfl, hsz, hP, hK, hD0, hR⟩ := hv
  have hx := Bd.exec
  have hb := Bd.bytes
  have hr := Bd.returns
  have hts := atoms_spec (ws := wsX8_rota) Bd.pre
  have hown : s.vm.findClass RX8 = some m.cls := findClass_of_methodNamed Bd.named
  have hlocks := Bd.notSynchronized
  have FX : CallFix p m c cX8_rota 4 s _ wsX8_rota RX8 := ⟨hx, hb, hml, hown, hts⟩
  subst hsz
  have hD := hD0.self (sz := s.heap.size)
  generalize hAe : va_A [(n1, .inl (cI, 8, .inl r))] s.heap.size = A at hD hR ⊢
  have hA : ∀ q : Nat, s.heap.size ≤ q → A q := fun q h => by rw [← hAe]; exact Or.inr h
  have hS : va_S A s.heap s.heap [] := va_S.rf
  have hP : va_P D vwCl [(n1, .inl (cI, 8, .inl r))] s.heap := hP
  have hQ : va_P D vwCl ([(n1, .inl (cI, 8, .inl r))] ++ [(x0, .inr (8, [.ref pg0, .ref fr, .ref nw, .ref kp, .ref t0, .ref pn, .ref bw, .ref ta, .int bm, .int (nI n), .int cv, .int bd, .int hi])), (nw, .inr (3, [.ref n1, .ref n2, .ref n3, .ref n4, .ref n5, .int (nI fd), .int ft, .int kn, .int dy])), (fr, .inl (cF, 4, .inr (.inr (.inr (.inr (zG n B))))))]) s.heap := va_P.app hP (hR.at hS).P
  have hl := lv_entry ([.ref x0, .int s0, .int i]) (n := 4) (Nat.le_of_ble_eq_true rfl)
  rw [lg_entry_eq]
  generalize (lg_sl ([.ref x0, .int s0, .int i]) ++ List.replicate (4 - (lg_sl ([.ref x0, .int s0, .int i])).length) Slot.unset).toArray = ls at hl ⊢
  have hl : lv_has ls 4 [(0, .ref x0), (1, .int s0), (2, .int i)] := hl
  refine lv_aload_n hx hb dX8_rota_0 rfl (lv_at hl 0 rfl) ?_
  refine lv_iload_n hx hb dX8_rota_1 rfl (lv_at hl 1 rfl) ?_
  refine vz_rd (va_runV (As := [.int s0]) (rest := []) FX (c_X8_isShift l D cI cB cF x0 pg0 fr nw kp t0 pn bw ta bm n cv bd hi s0 (by first | assumption | omega | decide)) (cwV 1 hts gX8_rota_X8_isShift rfl rfl rfl ⟨rfl, hd_X8_isShift⟩ ⟨Nat.le_of_ble_eq_true rfl, Nat.le_of_ble_eq_true rfl⟩) (preP_V hQ 1 rfl rfl (hQ.sub (ws' := [(x0, .inr (8, [.ref pg0, .ref fr, .ref nw, .ref kp, .ref t0, .ref pn, .ref bw, .ref ta, .int bm, .int (nI n), .int cv, .int bd, .int hi]))]) [1] rfl) hK) rfl rfl hl.1 rfl (lv_room (Nat.le_of_ble_eq_true rfl)) dX8_rota_2 ⟨Nat.le_of_ble_eq_true rfl, Nat.le_of_ble_eq_true rfl⟩) ?_
  refine lv_if_ne (tgt := 11) hx hb dX8_rota_5 (by decide) (fun c_5 => ?_) (fun c_5 => ?_)
  · have b_5 : (decide (0 < n) && zIn s0 0 7) = true := zb_t c_5
    obtain ⟨s1, hs, rfl⟩ := z_s8 (z_and_r b_5)
    have hpos : 0 < n := of_decide_eq_true (z_and_l b_5)
    refine lv_iload_n hx hb dX8_rota_11 rfl (lv_at hl 2 rfl) ?_
    refine lv_iconst (v := (-1)) hx hb dX8_rota_12 (by decide) ?_
    refine lv_icmp_eq (tgt := 30) hx hb dX8_rota_13 (by decide) (fun c_13 => ?_) (fun c_13 => ?_)
    · have hrk : zRk n (nI s1) i = true := by rw [zRk, b_5, decide_eq_true c_13]; rfl
      refine lv_aload_n hx hb dX8_rota_30 rfl (lv_at hl 0 rfl) ?_
      refine va_get (D := D) (cl := vwCl) (tys := zT cI cB cF) (ci := 8) (v := .ref nw) (C := RX8) (T := TX8) (N := 13) hx hb hts iw_X8_rota_X8 hown hK.1 hQ 1 rfl rfl 2 (by decide) (hts _ hw_X8_rota_2) (fun _ h9 => h9) rfl dX8_rota_31 ?_
      refine va_get (D := D) (cl := vwCl) (tys := zT cI cB cF) (ci := 3) (v := .ref n1) (C := RX3) (T := TX3) (N := 9) hx hb hts iw_X8_rota_X3 hown hK.1 hQ 2 rfl rfl 0 (by decide) (hts _ hw_X8_rota_3) (fun _ h9 => h9) rfl dX8_rota_34 ?_
      refine lv_iload_n hx hb dX8_rota_37 rfl (lv_at hl 1 rfl) ?_
      refine vz_rd (va_runS (As := [.ref n1, .int (nI s1)]) (rest := []) FX (c_X8_at l D cI cB cF n1 8 r (nI s1) (by decide)) (va_cwS 2 hts gX8_rota_X8_at rfl rfl rfl hd_X8_at ⟨Nat.le_of_ble_eq_true rfl, Nat.le_of_ble_eq_true rfl⟩) (preP_S (hQ.sub (ws' := [(n1, .inl (cI, 8, .inl r))]) [0] rfl) hK) rfl rfl hl.1 rfl (lv_room (Nat.le_of_ble_eq_true rfl)) dX8_rota_38 ⟨Nat.le_of_ble_eq_true rfl, Nat.le_of_ble_eq_true rfl⟩) ?_
      refine vz_si (r s1) (zAt_nI hs (by decide)) ?_
      refine lv_istore_n (lv' := [(3, .int (r s1)), (0, .ref x0), (1, .int (nI s1)), (2, .int i)]) hx hb dX8_rota_41 rfl hl (by decide) rfl (fun ls hl => ?_)
      refine lv_aload_n hx hb dX8_rota_42 rfl (lv_at hl 1 rfl) ?_
      refine va_get (D := D) (cl := vwCl) (tys := zT cI cB cF) (ci := 8) (v := .ref nw) (C := RX8) (T := TX8) (N := 13) hx hb hts iw_X8_rota_X8 hown hK.1 hQ 1 rfl rfl 2 (by decide) (hts _ hw_X8_rota_2) (fun _ h9 => h9) rfl dX8_rota_43 ?_
      refine va_get (D := D) (cl := vwCl) (tys := zT cI cB cF) (ci := 3) (v := .ref n1) (C := RX3) (T := TX3) (N := 9) hx hb hts iw_X8_rota_X3 hown hK.1 hQ 2 rfl rfl 0 (by decide) (hts _ hw_X8_rota_3) (fun _ h9 => h9) rfl dX8_rota_46 ?_
      refine lv_iload_n hx hb dX8_rota_49 rfl (lv_at hl 2 rfl) ?_
      refine lv_iload_n hx hb dX8_rota_50 rfl (lv_at hl 3 rfl) ?_
      have hFc := va_free (wc := [(n1, .inl (cI, 8, .inl r))]) hD hS hA [0] rfl
      refine vz_cw [] [0] [] (va_runS (As := [.ref n1, .int (nI s1), .int i]) (rest := []) FX (c_X8_put l D cI cB cF s.heap.size n1 8 r (nI s1) i (by decide)) (va_cwS 3 hts gX8_rota_X8_put rfl rfl rfl hd_X8_put ⟨Nat.le_of_ble_eq_true rfl, Nat.le_of_ble_eq_true rfl⟩) (preW_S (hP.sub (ws' := [(n1, .inl (cI, 8, .inl r))]) [0] rfl) (hD.sub (ws' := [(n1, .inl (cI, 8, .inl r))]) [0] (by decide) rfl) hK (show vz_R D [] _ _ from vz_R.nil)) rfl rfl hl.1 rfl (lv_room (Nat.le_of_ble_eq_true rfl)) dX8_rota_51 ⟨Nat.le_of_ble_eq_true rfl, Nat.le_of_ble_eq_true rfl⟩) hP hD hS hA rfl rfl rfl (by decide) (fun u H locs hu hP hD hS hz9 hk9 => ?_)
      have hP : va_P D vwCl [(n1, .inl (cI, 8, .inl (zPut r 8 (nI s1) i)))] H := hP
      have hD : va_D A [(n1, .inl (cI, 8, .inl (zPut r 8 (nI s1) i)))] := hD
      have hQ : va_P D vwCl ([(n1, .inl (cI, 8, .inl (zPut r 8 (nI s1) i)))] ++ [(x0, .inr (8, [.ref pg0, .ref fr, .ref nw, .ref kp, .ref t0, .ref pn, .ref bw, .ref ta, .int bm, .int (nI n), .int cv, .int bd, .int hi])), (nw, .inr (3, [.ref n1, .ref n2, .ref n3, .ref n4, .ref n5, .int (nI fd), .int ft, .int kn, .int dy])), (fr, .inl (cF, 4, .inr (.inr (.inr (.inr (zG n B))))))]) H := va_P.app hP (hR.at hS).P
      show W _ _ _ _ _ _ _ _ _ _ _ _ _ _ _ (F0 m 54 ls [])
      refine lv_iload_n hx hb dX8_rota_54 rfl (lv_at hl 0 rfl) ?_
      have hP : va_P D vwCl [(n1, .inl (cI, 8, .inl (zRr n r (nI s1) i)))] H := vz_arr (g := zRr n r (nI s1) i) hP 0 rfl (fun j _ => by rw [zRr, if_pos hrk, nI_clamp (by omega), zPut_nI (by omega) (by decide)])
      have hD : va_D A [(n1, .inl (cI, 8, .inl (zRr n r (nI s1) i)))] := vz_arrD hD 0 rfl
      have hQ : va_P D vwCl ([(n1, .inl (cI, 8, .inl (zRr n r (nI s1) i)))] ++ [(x0, .inr (8, [.ref pg0, .ref fr, .ref nw, .ref kp, .ref t0, .ref pn, .ref bw, .ref ta, .int bm, .int (nI n), .int cv, .int bd, .int hi])), (nw, .inr (3, [.ref n1, .ref n2, .ref n3, .ref n4, .ref n5, .int (nI fd), .int ft, .int kn, .int dy])), (fr, .inl (cF, 4, .inr (.inr (.inr (.inr (zG n B))))))]) H := va_P.app hP (hR.at hS).P
      refine vz_si (zRa n r (nI s1) i) (by rw [zRa, if_pos hrk, nI_clamp (by omega)]) ?_
      have hP9 := hP.sub (ws' := [(n1, .inl (cI, 8, .inl (zRr n r (nI s1) i)))]) [0] rfl
      have hD9 := hD.sub (ws' := [(n1, .inl (cI, 8, .inl (zRr n r (nI s1) i)))]) [0] (by decide) rfl
      exact W.iret hx hb hr (fun t ht hW => ⟨⟨(), rfl, trivial, by rw [ht]; exact hP9, hD9⟩, hS.F ht⟩) hS.2.2 dX8_rota_55
    · refine lv_aload_n hx hb dX8_rota_16 rfl (lv_at hl 0 rfl) ?_
      refine va_get (D := D) (cl := vwCl) (tys := zT cI cB cF) (ci := 8) (v := .ref fr) (C := RX8) (T := TX8) (N := 13) hx hb hts iw_X8_rota_X8 hown hK.1 hQ 1 rfl rfl 1 (by decide) (hts _ hw_X8_rota_1) (fun _ h9 => h9) rfl dX8_rota_17 ?_
      refine lv_iload_n hx hb dX8_rota_20 rfl (lv_at hl 2 rfl) ?_
      refine vz_rd (va_runS (As := [.ref fr, .int i]) (rest := []) FX (c_X8_fatherAt l D cI cB cF fr 4 (zG n B) i (by decide)) (va_cwS 2 hts gX8_rota_X8_fatherAt rfl rfl rfl hd_X8_fatherAt ⟨Nat.le_of_ble_eq_true rfl, Nat.le_of_ble_eq_true rfl⟩) (preP_S (hQ.sub (ws' := [(fr, .inl (cF, 4, .inr (.inr (.inr (.inr (zG n B))))))]) [3] rfl) hK) rfl rfl hl.1 rfl (lv_room (Nat.le_of_ble_eq_true rfl)) dX8_rota_21 ⟨Nat.le_of_ble_eq_true rfl, Nat.le_of_ble_eq_true rfl⟩) ?_
      rcases z_fa (B := B) i hn with ⟨f, hf, rfl⟩ | ⟨hno, hni⟩
      · have hrk : zRk n (nI s1) (nI f) = true := by rw [zRk, b_5, z_inf hf hn, Bool.or_true]; rfl
        refine vz_sv (.ref (B f)) (by rw [zFa_nI (by omega) (by decide), zG_s hf]; rfl) ?_
        refine lv_ifnonnull (tgt := 30) hx hb dX8_rota_24 (by decide) ?_
        refine lv_aload_n hx hb dX8_rota_30 rfl (lv_at hl 0 rfl) ?_
        refine va_get (D := D) (cl := vwCl) (tys := zT cI cB cF) (ci := 8) (v := .ref nw) (C := RX8) (T := TX8) (N := 13) hx hb hts iw_X8_rota_X8 hown hK.1 hQ 1 rfl rfl 2 (by decide) (hts _ hw_X8_rota_2) (fun _ h9 => h9) rfl dX8_rota_31 ?_
        refine va_get (D := D) (cl := vwCl) (tys := zT cI cB cF) (ci := 3) (v := .ref n1) (C := RX3) (T := TX3) (N := 9) hx hb hts iw_X8_rota_X3 hown hK.1 hQ 2 rfl rfl 0 (by decide) (hts _ hw_X8_rota_3) (fun _ h9 => h9) rfl dX8_rota_34 ?_
        refine lv_iload_n hx hb dX8_rota_37 rfl (lv_at hl 1 rfl) ?_
        refine vz_rd (va_runS (As := [.ref n1, .int (nI s1)]) (rest := []) FX (c_X8_at l D cI cB cF n1 8 r (nI s1) (by decide)) (va_cwS 2 hts gX8_rota_X8_at rfl rfl rfl hd_X8_at ⟨Nat.le_of_ble_eq_true rfl, Nat.le_of_ble_eq_true rfl⟩) (preP_S (hQ.sub (ws' := [(n1, .inl (cI, 8, .inl r))]) [0] rfl) hK) rfl rfl hl.1 rfl (lv_room (Nat.le_of_ble_eq_true rfl)) dX8_rota_38 ⟨Nat.le_of_ble_eq_true rfl, Nat.le_of_ble_eq_true rfl⟩) ?_
        refine vz_si (r s1) (zAt_nI hs (by decide)) ?_
        refine lv_istore_n (lv' := [(3, .int (r s1)), (0, .ref x0), (1, .int (nI s1)), (2, .int (nI f))]) hx hb dX8_rota_41 rfl hl (by decide) rfl (fun ls hl => ?_)
        refine lv_aload_n hx hb dX8_rota_42 rfl (lv_at hl 1 rfl) ?_
        refine va_get (D := D) (cl := vwCl) (tys := zT cI cB cF) (ci := 8) (v := .ref nw) (C := RX8) (T := TX8) (N := 13) hx hb hts iw_X8_rota_X8 hown hK.1 hQ 1 rfl rfl 2 (by decide) (hts _ hw_X8_rota_2) (fun _ h9 => h9) rfl dX8_rota_43 ?_
        refine va_get (D := D) (cl := vwCl) (tys := zT cI cB cF) (ci := 3) (v := .ref n1) (C := RX3) (T := TX3) (N := 9) hx hb hts iw_X8_rota_X3 hown hK.1 hQ 2 rfl rfl 0 (by decide) (hts _ hw_X8_rota_3) (fun _ h9 => h9) rfl dX8_rota_46 ?_
        refine lv_iload_n hx hb dX8_rota_49 rfl (lv_at hl 2 rfl) ?_
        refine lv_iload_n hx hb dX8_rota_50 rfl (lv_at hl 3 rfl) ?_
        have hFc := va_free (wc := [(n1, .inl (cI, 8, .inl r))]) hD hS hA [0] rfl
        refine vz_cw [] [0] [] (va_runS (As := [.ref n1, .int (nI s1), .int (nI f)]) (rest := []) FX (c_X8_put l D cI cB cF s.heap.size n1 8 r (nI s1) (nI f) (by decide)) (va_cwS 3 hts gX8_rota_X8_put rfl rfl rfl hd_X8_put ⟨Nat.le_of_ble_eq_true rfl, Nat.le_of_ble_eq_true rfl⟩) (preW_S (hP.sub (ws' := [(n1, .inl (cI, 8, .inl r))]) [0] rfl) (hD.sub (ws' := [(n1, .inl (cI, 8, .inl r))]) [0] (by decide) rfl) hK (show vz_R D [] _ _ from vz_R.nil)) rfl rfl hl.1 rfl (lv_room (Nat.le_of_ble_eq_true rfl)) dX8_rota_51 ⟨Nat.le_of_ble_eq_true rfl, Nat.le_of_ble_eq_true rfl⟩) hP hD hS hA rfl rfl rfl (by decide) (fun u H locs hu hP hD hS hz9 hk9 => ?_)
        have hP : va_P D vwCl [(n1, .inl (cI, 8, .inl (zPut r 8 (nI s1) (nI f))))] H := hP
        have hD : va_D A [(n1, .inl (cI, 8, .inl (zPut r 8 (nI s1) (nI f))))] := hD
        have hQ : va_P D vwCl ([(n1, .inl (cI, 8, .inl (zPut r 8 (nI s1) (nI f))))] ++ [(x0, .inr (8, [.ref pg0, .ref fr, .ref nw, .ref kp, .ref t0, .ref pn, .ref bw, .ref ta, .int bm, .int (nI n), .int cv, .int bd, .int hi])), (nw, .inr (3, [.ref n1, .ref n2, .ref n3, .ref n4, .ref n5, .int (nI fd), .int ft, .int kn, .int dy])), (fr, .inl (cF, 4, .inr (.inr (.inr (.inr (zG n B))))))]) H := va_P.app hP (hR.at hS).P
        show W _ _ _ _ _ _ _ _ _ _ _ _ _ _ _ (F0 m 54 ls [])
        refine lv_iload_n hx hb dX8_rota_54 rfl (lv_at hl 0 rfl) ?_
        have hP : va_P D vwCl [(n1, .inl (cI, 8, .inl (zRr n r (nI s1) (nI f))))] H := vz_arr (g := zRr n r (nI s1) (nI f)) hP 0 rfl (fun j _ => by rw [zRr, if_pos hrk, nI_clamp (by omega), zPut_nI (by omega) (by decide)])
        have hD : va_D A [(n1, .inl (cI, 8, .inl (zRr n r (nI s1) (nI f))))] := vz_arrD hD 0 rfl
        have hQ : va_P D vwCl ([(n1, .inl (cI, 8, .inl (zRr n r (nI s1) (nI f))))] ++ [(x0, .inr (8, [.ref pg0, .ref fr, .ref nw, .ref kp, .ref t0, .ref pn, .ref bw, .ref ta, .int bm, .int (nI n), .int cv, .int bd, .int hi])), (nw, .inr (3, [.ref n1, .ref n2, .ref n3, .ref n4, .ref n5, .int (nI fd), .int ft, .int kn, .int dy])), (fr, .inl (cF, 4, .inr (.inr (.inr (.inr (zG n B))))))]) H := va_P.app hP (hR.at hS).P
        refine vz_si (zRa n r (nI s1) (nI f)) (by rw [zRa, if_pos hrk, nI_clamp (by omega)]) ?_
        have hP9 := hP.sub (ws' := [(n1, .inl (cI, 8, .inl (zRr n r (nI s1) (nI f))))]) [0] rfl
        have hD9 := hD.sub (ws' := [(n1, .inl (cI, 8, .inl (zRr n r (nI s1) (nI f))))]) [0] (by decide) rfl
        exact W.iret hx hb hr (fun t ht hW => ⟨⟨(), rfl, trivial, by rw [ht]; exact hP9, hD9⟩, hS.F ht⟩) hS.2.2 dX8_rota_55
      · have hrk : zRk n (nI s1) i = false := by rw [zRk, b_5, decide_eq_false c_13, hni]; rfl
        refine vz_sv (.null) (by rw [hno]; rfl) ?_
        refine lv_ifnonnullN hx hb dX8_rota_24 ?_
        refine lv_bipush (v := (-101)) hx hb dX8_rota_27 (by decide) ?_
        have hP : va_P D vwCl [(n1, .inl (cI, 8, .inl (zRr n r (nI s1) i)))] s.heap := vz_arr (g := zRr n r (nI s1) i) hP 0 rfl (fun j _ => by rw [zRr, if_neg (by rw [hrk]; decide)])
        have hD : va_D A [(n1, .inl (cI, 8, .inl (zRr n r (nI s1) i)))] := vz_arrD hD 0 rfl
        have hQ : va_P D vwCl ([(n1, .inl (cI, 8, .inl (zRr n r (nI s1) i)))] ++ [(x0, .inr (8, [.ref pg0, .ref fr, .ref nw, .ref kp, .ref t0, .ref pn, .ref bw, .ref ta, .int bm, .int (nI n), .int cv, .int bd, .int hi])), (nw, .inr (3, [.ref n1, .ref n2, .ref n3, .ref n4, .ref n5, .int (nI fd), .int ft, .int kn, .int dy])), (fr, .inl (cF, 4, .inr (.inr (.inr (.inr (zG n B))))))]) s.heap := va_P.app hP (hR.at hS).P
        refine vz_si (zRa n r (nI s1) i) (by rw [zRa, if_neg (by rw [hrk]; decide)]) ?_
        have hP9 := hP.sub (ws' := [(n1, .inl (cI, 8, .inl (zRr n r (nI s1) i)))]) [0] rfl
        have hD9 := hD.sub (ws' := [(n1, .inl (cI, 8, .inl (zRr n r (nI s1) i)))]) [0] (by decide) rfl
        exact W.iret hx hb hr (fun t ht hW => ⟨⟨(), rfl, trivial, by rw [ht]; exact hP9, hD9⟩, hS.F ht⟩) hS.2.2 dX8_rota_29
  · have b_5 : (decide (0 < n) && zIn s0 0 7) = false := zb_f c_5
    have hrk : zRk n s0 i = false := by rw [zRk, b_5]; rfl
    refine lv_bipush (v := (-101)) hx hb dX8_rota_8 (by decide) ?_
    have hP : va_P D vwCl [(n1, .inl (cI, 8, .inl (zRr n r s0 i)))] s.heap := vz_arr (g := zRr n r s0 i) hP 0 rfl (fun j _ => by rw [zRr, if_neg (by rw [hrk]; decide)])
    have hD : va_D A [(n1, .inl (cI, 8, .inl (zRr n r s0 i)))] := vz_arrD hD 0 rfl
    have hQ : va_P D vwCl ([(n1, .inl (cI, 8, .inl (zRr n r s0 i)))] ++ [(x0, .inr (8, [.ref pg0, .ref fr, .ref nw, .ref kp, .ref t0, .ref pn, .ref bw, .ref ta, .int bm, .int (nI n), .int cv, .int bd, .int hi])), (nw, .inr (3, [.ref n1, .ref n2, .ref n3, .ref n4, .ref n5, .int (nI fd), .int ft, .int kn, .int dy])), (fr, .inl (cF, 4, .inr (.inr (.inr (.inr (zG n B))))))]) s.heap := va_P.app hP (hR.at hS).P
    refine vz_si (zRa n r s0 i) (by rw [zRa, if_neg (by rw [hrk]; decide)]) ?_
    have hP9 := hP.sub (ws' := [(n1, .inl (cI, 8, .inl (zRr n r s0 i)))]) [0] rfl
    have hD9 := hD.sub (ws' := [(n1, .inl (cI, 8, .inl (zRr n r s0 i)))]) [0] (by decide) rfl
    exact W.iret hx hb hr (fun t ht hW => ⟨⟨(), rfl, trivial, by rw [ht]; exact hP9, hD9⟩, hS.F ht⟩) hS.2.2 dX8_rota_10
