theorem z_lc {L i : Nat} (hL : L ≤ 2048) (hi : i < 100000) : nI L - 4 < nI i ↔ L < i + 4 := by
  have e : (nI L - 4).toInt = (L : Int) - 4 := z_lcK L (by omega)
  rw [Int32.lt_iff_toInt_lt, e, nI_toInt (by omega)]
  omega
set_option maxHeartbeats 4000000 in
theorem law_loop {p : Program} {l : Launch} {e : Env} {s : State} {m : MethodId} {below : List Frame} {meth : Method} {c : Code} {b L : Nat} {xs : Nat → Int32} {D : va_G} {cI cB cF : ClassId} {X M : Nat → Nat} {A : Nat → Prop} (hr : meth.sig.returnType = ret) (hlocks : meth.locks = false) (hAs : ∀ q, A q → s.heap.size ≤ q) (h0 : zLw p s m c b L xs D cI cB cF A) : ∀ (j k9 : Nat), L < 4 * k9 + 4 * j → 4 * k9 ≤ L ∨ k9 = 0 → ∀ (H : Heap) (locs : List Loc) (ls : Array Slot), zInv D cI cB cF X M k9 A s.heap H locs → lv_has ls 4 [(0, .ref b), (1, .ref (X 0)), (2, .ref (M 0)), (3, .int (nI (4 * k9)))] → W p l e room_1 s m #[Value.ref b] below meth c H locs (100 + 4 * k9) (1000 + 8 * k9) (lw_Z below #[Value.ref b] s) (F0 m 18 ls []) := by
  obtain ⟨hx, hb, hml, hown, hts, hX, hbl, hK, hA, hbA, hL⟩ := id h0
  intro j
  induction j with
  | zero => intro k9 h1 h2; exact absurd h1 (by omega)
  | succ j ih =>
    intro k9 h1 h2 H locs ls hI hl
    have hS := zInv_S hI
    refine lv_iload_n hx hb dL_law_18 rfl (lv_at hl 3 rfl) ?_
    refine lv_aload_n hx hb dL_law_19 rfl (lv_at hl 0 rfl) ?_
    refine va_slen hx hb hX hbl hbA hS dL_law_20 ?_
    refine vz_si (nI L) rfl ?_
    refine lv_iconst (v := 4) hx hb dL_law_21 (by decide) ?_
    refine lv_isub hx hb dL_law_22 ?_
    refine lv_icmp_gt (tgt := 541) hx hb dL_law_23 (by decide) (fun c_23 => ?_) (fun c_23 => ?_)
    · refine lv_iconst (v := 1) hx hb dL_law_541 (by decide) ?_
      refine va_forget (fun q hq => hAs _ (hS.2.2 q hq)) ?_
      refine W.widen (k := 600000) (n := 7302250) (by omega) (by omega) ?_
      exact lw_ret hx hb hr hlocks dL_law_542
    · have hi9 : 4 * k9 + 4 ≤ L := by
        rcases Nat.lt_or_ge L (4 * k9 + 4) with q | q
        · exact absurd ((z_lc hL (by omega)).mpr q) c_23
        · exact q
      refine law_step h0 hi9 (by omega) (by omega) (by omega) (fun H locs ls hI hl => ?_) hI hl
      refine lv_iinc (v := nI (4 * k9 + 4)) (lv' := [(3, .int (nI (4 * k9 + 4))), (0, .ref b), (1, .ref (X 0)), (2, .ref (M 0))]) hx hb dL_law_535 hl (k := 3) rfl (nI_add (4 * k9) 4) (by decide) rfl (fun ls hl => ?_)
      refine lv_goto (tgt := 18) hx hb dL_law_538 (by decide) ?_
      have h9 := ih (k9 + 1) (by omega) (Or.inl (by omega)) H locs ls hI (lv_sub hl [1, 2, 3, 0] rfl)
      rw [show 100 + 4 * (k9 + 1) = 100 + 4 * k9 + 4 by omega, show 1000 + 8 * (k9 + 1) = 1000 + 8 * k9 + 8 by omega] at h9
      exact h9
