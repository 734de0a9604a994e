theorem zInv_up {D : va_G} {cI cB cF : ClassId} {X M : Nat → Nat} {k9 : Nat} {A : Nat → Prop} {H0 H : Heap} {locs : List Loc} (h : zInv D cI cB cF X M k9 A H0 H locs) : zInv D cI cB cF X M (k9 + 1) A H0 H locs := fun P9 z9 => h P9 (fun c9 n fd ln bdn kfd rko B F r me fe fs ff mM fM pg kr km kv ks kg rkr rkm rkg rks rkh f1 f2 f3 f4 pp wh tl g1 g2 ga fb u26 u27 ft kn dy kft kkn kdy rkc rkf rkk rkd bm kn0 me0 fa0 iw nm fi nf nk sd hh hb0 ikb hcv hn hF hro0 hft hkn hfd hfs hln hbd hme hfe hme0 hfe0 hik hkc hkq hP hD hS hB => z9 c9 n fd ln bdn kfd rko B F r me fe fs ff mM fM pg kr km kv ks kg rkr rkm rkg rks rkh f1 f2 f3 f4 pp wh tl g1 g2 ga fb u26 u27 ft kn dy kft kkn kdy rkc rkf rkk rkd bm kn0 me0 fa0 iw nm fi nf nk sd hh hb0 ikb (Nat.le_succ_of_le hcv) hn hF hro0 hft hkn hfd hfs hln hbd hme hfe hme0 hfe0 hik hkc hkq hP hD hS hB)
theorem zInv_S {D : va_G} {cI cB cF : ClassId} {X M : Nat → Nat} {k9 : Nat} {A : Nat → Prop} {H0 H : Heap} {locs : List Loc} (h : zInv D cI cB cF X M k9 A H0 H locs) : va_S A H0 H locs := h _ (fun c9 n fd ln bdn kfd rko B F r me fe fs ff mM fM pg kr km kv ks kg rkr rkm rkg rks rkh f1 f2 f3 f4 pp wh tl g1 g2 ga fb u26 u27 ft kn dy kft kkn kdy rkc rkf rkk rkd bm kn0 me0 fa0 iw nm fi nf nk sd hh hb0 ikb hcv hn hF hro0 hft hkn hfd hfs hln hbd hme hfe hme0 hfe0 hik hkc hkq hP hD hS hB => hS)
set_option maxHeartbeats 4000000 in
set_option maxRecDepth 100000 in
theorem law_step {p : Program} {l : Launch} {e : Env} {s : State} {m : MethodId} {below : List Frame} {meth : Method} {c : Code} {b L : Nat} {xs : Nat → Int32} {Q : State → Prop} {D : va_G} {cI cB cF : ClassId} {X M : Nat → Nat} {A : Nat → Prop} {cc9 ss9 k9 i9 : Nat} (h0 : zLw p s m c b L xs D cI cB cF A) (hi9 : i9 + 4 ≤ L) (hcc : cc9 + 4 ≤ 600000) (hss : ss9 + 8 ≤ 7302250) (hk9 : k9 ≤ 512) (kk : ∀ (H : Heap) (locs : List Loc) (ls : Array Slot), zInv D cI cB cF X M (k9 + 1) A s.heap H locs → lv_has ls 4 [(0, .ref b), (1, .ref (X 0)), (2, .ref (M 0)), (3, .int (nI i9))] → W p l e room_1 s m #[Value.ref b] below meth c H locs (cc9 + 4) (ss9 + 8) Q (F0 m 535 ls [])) {H : Heap} {locs : List Loc} {ls : Array Slot} (hI : zInv D cI cB cF X M k9 A s.heap H locs) (hl : lv_has ls 4 [(0, .ref b), (1, .ref (X 0)), (2, .ref (M 0)), (3, .int (nI i9))]) : W p l e room_1 s m #[Value.ref b] below meth c H locs cc9 ss9 Q (F0 m 26 ls []) := by
  obtain ⟨hx, hb, hml, hown, hts, hX, hbl, hK, hA, hbA, hL⟩ := id h0
  have hS := zInv_S hI
  refine lv_aload_n hx hb dL_law_26 rfl (lv_at hl 0 rfl) ?_
  refine lv_iload_n hx hb dL_law_27 rfl (lv_at hl 3 rfl) ?_
  refine va_sld hx hb hX hbl hbA hS (vp_in_nI (by omega) (by omega)) dL_law_28 ?_
  refine lv_bipush (v := 31) hx hb dL_law_29 (by decide) ?_
  refine lv_iand hx hb dL_law_31 ?_
  refine lv_topi (fun w9 ew9 => ?_)
  by_cases q_0 : w9 = 0
  · rw [q_0]
    refine lv_tableIn (off := 88) (tgt := 120) hx hb dL_law_32 (by decide) (by decide) (by decide) (by decide) ?_
    exact law_0 h0 hi9 hcc hss hk9 kk hI hl
  by_cases q_1 : w9 = 1
  · rw [q_1]
    refine lv_tableIn (off := 111) (tgt := 143) hx hb dL_law_32 (by decide) (by decide) (by decide) (by decide) ?_
    exact law_1 h0 hi9 hcc hss hk9 kk hI hl
  by_cases q_2 : w9 = 2
  · rw [q_2]
    refine lv_tableIn (off := 124) (tgt := 156) hx hb dL_law_32 (by decide) (by decide) (by decide) (by decide) ?_
    exact law_2 h0 hi9 hcc hss hk9 kk hI hl
  by_cases q_3 : w9 = 3
  · rw [q_3]
    refine lv_tableIn (off := 137) (tgt := 169) hx hb dL_law_32 (by decide) (by decide) (by decide) (by decide) ?_
    exact law_3 h0 hi9 hcc hss hk9 kk hI hl
  by_cases q_4 : w9 = 4
  · rw [q_4]
    refine lv_tableIn (off := 150) (tgt := 182) hx hb dL_law_32 (by decide) (by decide) (by decide) (by decide) ?_
    exact law_4 h0 hi9 hcc hss hk9 kk hI hl
  by_cases q_5 : w9 = 5
  · rw [q_5]
    refine lv_tableIn (off := 183) (tgt := 215) hx hb dL_law_32 (by decide) (by decide) (by decide) (by decide) ?_
    exact law_5 h0 hi9 hcc hss hk9 kk hI hl
  by_cases q_6 : w9 = 6
  · rw [q_6]
    refine lv_tableIn (off := 216) (tgt := 248) hx hb dL_law_32 (by decide) (by decide) (by decide) (by decide) ?_
    exact law_6 h0 hi9 hcc hss hk9 kk hI hl
  by_cases q_7 : w9 = 7
  · rw [q_7]
    refine lv_tableIn (off := 249) (tgt := 281) hx hb dL_law_32 (by decide) (by decide) (by decide) (by decide) ?_
    exact law_7 h0 hi9 hcc hss hk9 kk hI hl
  by_cases q_8 : w9 = 8
  · rw [q_8]
    refine lv_tableIn (off := 282) (tgt := 314) hx hb dL_law_32 (by decide) (by decide) (by decide) (by decide) ?_
    exact law_8 h0 hi9 hcc hss hk9 kk hI hl
  by_cases q_9 : w9 = 9
  · rw [q_9]
    refine lv_tableIn (off := 295) (tgt := 327) hx hb dL_law_32 (by decide) (by decide) (by decide) (by decide) ?_
    exact law_9 h0 hi9 hcc hss hk9 kk hI hl
  by_cases q_10 : w9 = 10
  · rw [q_10]
    refine lv_tableIn (off := 338) (tgt := 370) hx hb dL_law_32 (by decide) (by decide) (by decide) (by decide) ?_
    exact law_10 h0 hi9 hcc hss hk9 kk hI hl
  by_cases q_11 : w9 = 11
  · rw [q_11]
    refine lv_tableIn (off := 351) (tgt := 383) hx hb dL_law_32 (by decide) (by decide) (by decide) (by decide) ?_
    exact law_11 h0 hi9 hcc hss hk9 kk hI hl
  by_cases q_12 : w9 = 12
  · rw [q_12]
    refine lv_tableIn (off := 384) (tgt := 416) hx hb dL_law_32 (by decide) (by decide) (by decide) (by decide) ?_
    exact law_12 h0 hi9 hcc hss hk9 kk hI hl
  by_cases q_13 : w9 = 13
  · rw [q_13]
    refine lv_tableIn (off := 397) (tgt := 429) hx hb dL_law_32 (by decide) (by decide) (by decide) (by decide) ?_
    exact law_13 h0 hi9 hcc hss hk9 kk hI hl
  by_cases q_14 : w9 = 14
  · rw [q_14]
    refine lv_tableIn (off := 440) (tgt := 472) hx hb dL_law_32 (by decide) (by decide) (by decide) (by decide) ?_
    exact law_14 h0 hi9 hcc hss hk9 kk hI hl
  by_cases q_15 : w9 = 15
  · rw [q_15]
    refine lv_tableIn (off := 453) (tgt := 485) hx hb dL_law_32 (by decide) (by decide) (by decide) (by decide) ?_
    exact law_15 h0 hi9 hcc hss hk9 kk hI hl
  by_cases q_16 : w9 = 16
  · rw [q_16]
    refine lv_tableIn (off := 466) (tgt := 498) hx hb dL_law_32 (by decide) (by decide) (by decide) (by decide) ?_
    exact law_16 h0 hi9 hcc hss hk9 kk hI hl
  by_cases q_17 : w9 = 17
  · rw [q_17]
    refine lv_tableIn (off := 489) (tgt := 521) hx hb dL_law_32 (by decide) (by decide) (by decide) (by decide) ?_
    exact law_17 h0 hi9 hcc hss hk9 kk hI hl
  refine lv_tableOut (tgt := 535) hx hb dL_law_32 (by have w_0 := lv_neT (a := 0) q_0 rfl; have w_1 := lv_neT (a := 1) q_1 rfl; have w_2 := lv_neT (a := 2) q_2 rfl; have w_3 := lv_neT (a := 3) q_3 rfl; have w_4 := lv_neT (a := 4) q_4 rfl; have w_5 := lv_neT (a := 5) q_5 rfl; have w_6 := lv_neT (a := 6) q_6 rfl; have w_7 := lv_neT (a := 7) q_7 rfl; have w_8 := lv_neT (a := 8) q_8 rfl; have w_9 := lv_neT (a := 9) q_9 rfl; have w_10 := lv_neT (a := 10) q_10 rfl; have w_11 := lv_neT (a := 11) q_11 rfl; have w_12 := lv_neT (a := 12) q_12 rfl; have w_13 := lv_neT (a := 13) q_13 rfl; have w_14 := lv_neT (a := 14) q_14 rfl; have w_15 := lv_neT (a := 15) q_15 rfl; have w_16 := lv_neT (a := 16) q_16 rfl; have w_17 := lv_neT (a := 17) q_17 rfl; omega) (by decide) ?_
  refine W.widen (k := cc9 + 4) (n := ss9 + 8) (by omega) (by omega) ?_
  exact kk H locs ls (zInv_up hI) hl
