/-! THE FRAME: how this proof speaks of a method: what it may write (ws), what it only reads (wr), what it answers -/
abbrev zT (cI cB cF : ClassId) : List (ClassId × FieldType) := [(cI, .int), (cB, .byte), (cF, .object "RotaFathers$Father")]
/-- the nest mates' calls, the casts, the casts that fail: facts of the tables -/
def zNl : List (String × Nat × MethodName × String) := [(RX8, 11, yX4_init, RX8), (RX8, 24, yX3_init, RX8), (RX8, 34, yX7_init, RX8), (RX3, 27, yX8_clear, RX8), (RX3, 44, yX8_copy, RX8), (RX3, 48, yX8_put, RX8), (RX3, 52, yX8_at, RX8), (RX4, 19, yX8_put, RX8), (RX4, 23, yX8_at, RX8), (RX7, 34, yX8_put, RX8), (RX7, 38, yX8_at, RX8), (RX7, 42, yX8_fatherAt, RX8), (RX7, 64, yX8_knows, RX8)]
def zCs : List (String × String) := [(RX0, RX2), (RX1, RX2), (RX5, RX2), (RX6, RX2), (RX0, RX1)]
def zDl : List (String × String) := [(RX2, RX0), (RX2, RX1), (RX2, RX5), (RX2, RX6), (RX1, RX0), (RX1, RX5), (RX1, RX6), (RX5, RX0), (RX5, RX1), (RX5, RX6), (RX6, RX0), (RX6, RX1), (RX6, RX5), (RX0, RX5), (RX0, RX6)]
def zN (U : State) : Prop := (∀ q ∈ zNl, va_Nw (.methodLinkNest q.1 q.2.1 q.2.2.1 q.2.2.2) U) ∧ (∀ q ∈ zCs, va_Nw (.castable q.1 q.2) U) ∧ (∀ q ∈ zDl, va_Nc q.1 q.2 U)
theorem zN.warm {s U : State} (hW : s.WarmedH U.vm) (h : zN s) : zN U := ⟨fun q hq => va_Nw.warmM hW (h.1 q hq), fun q hq => va_Nw.warmC hW (h.2.1 q hq), fun q hq => va_Nc.moved hW.alike (h.2.2 q hq)⟩
theorem zN.same {u U : State} (hv : u.vm = U.vm) (h : zN u) : zN U := ⟨fun q hq => va_Nw.same rfl hv (h.1 q hq), fun q hq => va_Nw.same rfl hv (h.2.1 q hq), fun q hq => va_Nc.moved (by rw [hv]; exact Vm.Alike.refl U.vm) (h.2.2 q hq)⟩
theorem zn_X8_11 {U : State} (h : zN U) : va_Nw (.methodLinkNest RX8 11 yX4_init RX8) U := h.1 (RX8, 11, yX4_init, RX8) (List.mem_of_getElem? (i := 0) rfl)
theorem zn_X8_24 {U : State} (h : zN U) : va_Nw (.methodLinkNest RX8 24 yX3_init RX8) U := h.1 (RX8, 24, yX3_init, RX8) (List.mem_of_getElem? (i := 1) rfl)
theorem zn_X8_34 {U : State} (h : zN U) : va_Nw (.methodLinkNest RX8 34 yX7_init RX8) U := h.1 (RX8, 34, yX7_init, RX8) (List.mem_of_getElem? (i := 2) rfl)
theorem zn_X3_27 {U : State} (h : zN U) : va_Nw (.methodLinkNest RX3 27 yX8_clear RX8) U := h.1 (RX3, 27, yX8_clear, RX8) (List.mem_of_getElem? (i := 3) rfl)
theorem zn_X3_44 {U : State} (h : zN U) : va_Nw (.methodLinkNest RX3 44 yX8_copy RX8) U := h.1 (RX3, 44, yX8_copy, RX8) (List.mem_of_getElem? (i := 4) rfl)
theorem zn_X3_48 {U : State} (h : zN U) : va_Nw (.methodLinkNest RX3 48 yX8_put RX8) U := h.1 (RX3, 48, yX8_put, RX8) (List.mem_of_getElem? (i := 5) rfl)
theorem zn_X3_52 {U : State} (h : zN U) : va_Nw (.methodLinkNest RX3 52 yX8_at RX8) U := h.1 (RX3, 52, yX8_at, RX8) (List.mem_of_getElem? (i := 6) rfl)
theorem zn_X4_19 {U : State} (h : zN U) : va_Nw (.methodLinkNest RX4 19 yX8_put RX8) U := h.1 (RX4, 19, yX8_put, RX8) (List.mem_of_getElem? (i := 7) rfl)
theorem zn_X4_23 {U : State} (h : zN U) : va_Nw (.methodLinkNest RX4 23 yX8_at RX8) U := h.1 (RX4, 23, yX8_at, RX8) (List.mem_of_getElem? (i := 8) rfl)
theorem zn_X7_34 {U : State} (h : zN U) : va_Nw (.methodLinkNest RX7 34 yX8_put RX8) U := h.1 (RX7, 34, yX8_put, RX8) (List.mem_of_getElem? (i := 9) rfl)
theorem zn_X7_38 {U : State} (h : zN U) : va_Nw (.methodLinkNest RX7 38 yX8_at RX8) U := h.1 (RX7, 38, yX8_at, RX8) (List.mem_of_getElem? (i := 10) rfl)
theorem zn_X7_42 {U : State} (h : zN U) : va_Nw (.methodLinkNest RX7 42 yX8_fatherAt RX8) U := h.1 (RX7, 42, yX8_fatherAt, RX8) (List.mem_of_getElem? (i := 11) rfl)
theorem zn_X7_64 {U : State} (h : zN U) : va_Nw (.methodLinkNest RX7 64 yX8_knows RX8) U := h.1 (RX7, 64, yX8_knows, RX8) (List.mem_of_getElem? (i := 12) rfl)
/-- all that is said of the tables at a method's start: classes, arrays, nest mates -/
def zK (D : va_G) (cI cB cF : ClassId) (U : State) : Prop := va_K D vwCl (zT cI cB cF) U ∧ zN U
theorem zK.warm {D : va_G} {cI cB cF : ClassId} {s U : State} (hW : s.WarmedH U.vm) (h : zK D cI cB cF s) : zK D cI cB cF U := ⟨va_K.moved hW.alike h.1, h.2.warm hW⟩
theorem zK.same {D : va_G} {cI cB cF : ClassId} {u U : State} (hv : u.vm = U.vm) (h : zK D cI cB cF u) : zK D cI cB cF U := ⟨va_K.moved (by rw [hv]; exact Vm.Alike.refl U.vm) h.1, h.2.same hv⟩
/-- cells that a method reads and may not write -/
def vz_R (D : va_G) (wr : va_W) (A : Nat → Prop) (H : Heap) : Prop := ∀ q ∈ wr, va_at D vwCl q H ∧ ¬ A q.1
theorem vz_R.nil {D : va_G} {A : Nat → Prop} {H : Heap} : vz_R D [] A H := fun _ h => absurd h List.not_mem_nil
theorem vz_R.cons {D : va_G} {A : Nat → Prop} {H : Heap} {q : Nat × va_E} {wr : va_W} (h : va_at D vwCl q H ∧ ¬ A q.1) (t : vz_R D wr A H) : vz_R D (q :: wr) A H := fun x hx => by
  rcases List.mem_cons.mp hx with rfl | hx
  · exact h
  · exact t x hx
theorem vz_R.at {D : va_G} {A : Nat → Prop} {H0 H : Heap} {locs : List Loc} {wr : va_W} (h : vz_R D wr A H0) (hS : va_S A H0 H locs) : vz_R D wr A H := fun q hq => ⟨(h q hq).1.kept (hS.2.1 q.1 (h q hq).1.lt (h q hq).2), (h q hq).2⟩
theorem vz_R.P {D : va_G} {A : Nat → Prop} {H : Heap} {wr : va_W} (h : vz_R D wr A H) : va_P D vwCl wr H := fun _ q hk => (h q (List.mem_of_getElem? hk)).1
theorem vz_R.sub {D : va_G} {A A' : Nat → Prop} {H : Heap} {wr wr' : va_W} (h : vz_R D wr A H) (hA : ∀ q, A' q → A q) (hs : ∀ q ∈ wr', q ∈ wr) : vz_R D wr' A' H := fun q hq => ⟨(h q (hs q hq)).1, fun z => (h q (hs q hq)).2 (hA _ z)⟩
theorem vz_R.one {D : va_G} {A A' : Nat → Prop} {H : Heap} {wr : va_W} {q : Nat × va_E} (h : vz_R D wr A H) (hA : ∀ q, A' q → A q) (hs : q ∈ wr) : va_at D vwCl q H ∧ ¬ A' q.1 := ⟨(h q hs).1, fun z => (h q hs).2 (hA _ z)⟩
/-- a cell of the world that the callee may not write -/
theorem vz_w1 {D : va_G} {A0 : Nat → Prop} {ws wc : va_W} {H : Heap} (hP : va_P D vwCl ws H) (hD : va_D A0 ws) (isC : List Nat) (hC : isC.map (fun i => ws[i]?) = wc.map some) (i : Nat) {q : Nat × va_E} (hq : ws[i]? = some q) (hdis : i ∉ isC) : va_at D vwCl q H ∧ ¬ va_A wc H.size q.1 := by
  refine ⟨hP i q hq, fun h => ?_⟩
  rcases h with ⟨k, e, h⟩ | h
  · have h1 : (isC.map (fun i => ws[i]?))[k]? = some (some (q.1, e)) := by rw [hC, List.getElem?_map, h]; rfl
    rw [List.getElem?_map] at h1
    cases hi : isC[k]? with
    | none => rw [hi] at h1; cases h1
    | some j =>
      rw [hi] at h1
      have hij := hD.1 i j q (q.1, e) hq (Option.some.inj h1) rfl
      subst hij
      exact hdis (List.mem_of_getElem? hi)
  · have := (hP i q hq).lt
    omega
theorem va_at.P {D : va_G} {q : Nat × va_E} {H : Heap} (h : va_at D vwCl q H) : va_P D vwCl [q] H := fun k x hk => by
  match k, hk with
  | 0, hk => cases hk; exact h
/-- an array's contents in other words -/
theorem vz_arr {D : va_G} {cl : List vw_C} {ws : va_W} {H : Heap} (hP : va_P D cl ws H) (p : Nat) {a : Nat} {c : ClassId} {N : Nat} {f g : Nat → Int32} (h : ws[p]? = some (a, .inl (c, N, .inl f))) (hg : ∀ j, j < N → f j = g j) : va_P D cl (ws.set p (a, .inl (c, N, .inl g))) H := by
  intro k q hk
  by_cases hkp : k = p
  · subst hkp
    have hlt : k < ws.length := (List.getElem?_eq_some_iff.mp h).1
    rw [List.getElem?_set_self hlt] at hk
    cases hk
    have h1 : H[a]? = some (vp_cell c (N, .inl f)) := hP k _ h
    show H[a]? = some (vp_cell c (N, .inl g))
    rw [h1, vp_cell_i, vp_cell_i]
    congr 1
    unfold arrV
    congr 1
    apply Array.ext
    · simp
    · intro i h2 h3
      simp only [Array.getElem_ofFn]
      rw [hg i (by simpa using h2)]
  · rw [List.getElem?_set_ne (fun e => hkp e.symm)] at hk
    exact hP k q hk
theorem vz_arrD {A : Nat → Prop} {ws : va_W} (hD : va_D A ws) (p : Nat) {a : Nat} {e e' : va_E} (h : ws[p]? = some (a, e)) : va_D A (ws.set p (a, e')) := hD.set h
/-- a method that reads alone: its answer, no cell changed -/
def QcV (v : Value) : Array Value → State → Outcome → State → Prop := fun _ st o t => o = .returned (some v) ∧ t.heap = st.heap
/-- a method that writes its own cells -/
def Qw (D : va_G) {S : Type} (v : S → Option Value) (post : S → Prop) (w : S → va_W) (A : Nat → Prop) : Array Value → State → Outcome → State → Prop := fun _ st oc t => (∃ u : S, oc = .returned (v u) ∧ post u ∧ va_P D vwCl (w u) t.heap ∧ va_D A (w u)) ∧ va_F A st t
/-- a start, of a method that reads alone -/
def PcP (D : va_G) (cI cB cF : ClassId) (av : List Value) (wr : va_W) : Array Value → State → Prop := va_Pc av (fun U => va_P D vwCl wr U.heap ∧ zK D cI cB cF U)
/-- a start, of a method that writes -/
def PcW (D : va_G) (cI cB cF : ClassId) (av : List Value) (sz : Nat) (ws wr : va_W) : Array Value → State → Prop := va_Pc av (fun U => U.heap.size = sz ∧ va_P D vwCl ws U.heap ∧ zK D cI cB cF U ∧ va_D (fun _ => True) ws ∧ vz_R D wr (va_A ws sz) U.heap)
theorem blindP {D : va_G} {cI cB cF : ClassId} {av : List Value} {wr : va_W} : FrameBlind (PcP D cI cB cF av wr) := fun a U g mk q => by
  obtain ⟨q0, qP, qK⟩ := q
  exact ⟨q0, qP, qK.same (u := U) (U := U.calling g mk a) rfl⟩
theorem blindW {D : va_G} {cI cB cF : ClassId} {av : List Value} {sz : Nat} {ws wr : va_W} : FrameBlind (PcW D cI cB cF av sz ws wr) := fun a U g mk q => by
  obtain ⟨q0, q1, qP, qK, qD, qR⟩ := q
  exact ⟨q0, q1, qP, qK.same (u := U) (U := U.calling g mk a) rfl, qD, qR⟩
theorem preP_S {D : va_G} {cI cB cF : ClassId} {s : State} {H : Heap} {As : List Value} {wr : va_W} (hP : va_P D vwCl wr H) (hK : zK D cI cB cF s) : PreS s H (PcP D cI cB cF As wr) As := ⟨blindP, fun U hU hW => ⟨rfl, by rw [hU]; exact hP, hK.warm hW⟩⟩
theorem preP_V {D : va_G} {cI cB cF : ClassId} {s : State} {H : Heap} {As : List Value} {wr : va_W} {b : Nat} {q : vw_C} {ci : Nat} {fs : List Value} {ws : va_W} (hQ : va_P D vwCl ws H) (q0 : Nat) (he : ws[q0]? = some (b, .inr (ci, fs))) (hc : vwCl[ci]? = some q) (hP : va_P D vwCl wr H) (hK : zK D cI cB cF s) : PreV s H q.1 b (PcP D cI cB cF (.ref b :: As) wr) As := ⟨blindP, va_recv hK.1 hQ hc he, fun U hU hW => ⟨rfl, by rw [hU]; exact hP, hK.warm hW⟩⟩
theorem preW_S {D : va_G} {cI cB cF : ClassId} {s : State} {H : Heap} {As : List Value} {wc wr : va_W} {A : Nat → Prop} (hP : va_P D vwCl wc H) (hD : va_D A wc) (hK : zK D cI cB cF s) (hR : vz_R D wr (va_A wc H.size) H) : PreS s H (PcW D cI cB cF As H.size wc wr) As := ⟨blindW, fun U hU hW => ⟨rfl, by rw [hU], by rw [hU]; exact hP, hK.warm hW, hD.weaken (fun _ _ _ _ => trivial), by rw [hU]; exact hR⟩⟩
theorem preW_V {D : va_G} {cI cB cF : ClassId} {s : State} {H : Heap} {As : List Value} {wc wr : va_W} {A : Nat → Prop} {b : Nat} {q : vw_C} {ci : Nat} {fs : List Value} {ws : va_W} (hQ : va_P D vwCl ws H) (q0 : Nat) (he : ws[q0]? = some (b, .inr (ci, fs))) (hc : vwCl[ci]? = some q) (hP : va_P D vwCl wc H) (hD : va_D A wc) (hK : zK D cI cB cF s) (hR : vz_R D wr (va_A wc H.size) H) : PreV s H q.1 b (PcW D cI cB cF (.ref b :: As) H.size wc wr) As := ⟨blindW, va_recv hK.1 hQ hc he, fun U hU hW => ⟨rfl, by rw [hU], by rw [hU]; exact hP, hK.warm hW, hD.weaken (fun _ _ _ _ => trivial), by rw [hU]; exact hR⟩⟩
theorem preW_I {D : va_G} {cI cB cF : ClassId} {s : State} {H : Heap} {As : List Value} {wc wr : va_W} {A : Nat → Prop} {b : Nat} (hP : va_P D vwCl wc H) (hD : va_D A wc) (hK : zK D cI cB cF s) (hR : vz_R D wr (va_A wc H.size) H) : PreS s H (PcW D cI cB cF (.ref b :: As) H.size wc wr) (.ref b :: As) := preW_S hP hD hK hR
section VZ
variable {p : Program} {l : Launch} {e : Env} {R : Room} {s : State} {m : MethodId} {args : Array Value} {below : List Frame} {meth : Method} {c : Code} {H : Heap} {locs : List Loc} {cells slots : Nat} {Q : State → Prop}
variable {pc : Nat} {ls : Array Slot} {rest st0 : List Value} {a : Array Value}
/-- a call of a method that reads alone -/
theorem vz_rd {v : Value} (hr : va_Run p l e R s m args below meth c H locs cells slots 0 0 (F0 m pc ls st0) rest (QcV v a) (fun _ => False))
    (kk : W p l e R s m args below meth c H locs cells slots Q (F0 m (pc + 3) ls (v :: rest))) : W p l e R s m args below meth c H locs cells slots Q (F0 m pc ls st0) := by
  intro T hT X
  obtain ⟨v', st₀, t, T', L, h0, X', hL, e1, -, ⟨hv, hh⟩, st⟩ := hr T hT X
  cases hv
  obtain ⟨t2, a1, b1⟩ := kk T' (by rw [e1, hh, h0]) (Stand.forget X' (fun q h => (hL q h).elim))
  exact ⟨t2, st t2 a1, b1⟩
/-- a call of a method that writes: its cells come back behind the others, which are unchanged -/
theorem vz_cw {D : va_G} {S : Type} {v : S → Option Value} {post : S → Prop} {w : S → va_W} {A0 : Nat → Prop} {H0 : Heap} {mc ms : Nat} {ws wc : va_W} (wr : va_W)
    (isC isR : List Nat) (hr : va_Run p l e R s m args below meth c H locs cells slots mc ms (F0 m pc ls st0) rest (Qw D v post w (va_A wc H.size) a) (va_A wc H.size))
    (hP : va_P D vwCl ws H) (hD : va_D A0 ws) (hS : va_S A0 H0 H locs) (hA : ∀ q, H0.size ≤ q → A0 q)
    (hC : isC.map (fun i => ws[i]?) = wc.map some) (hR : isR.map (fun i => ws[i]?) = wr.map some) (hn : va_nd isR = true) (hdis : ∀ i ∈ isR, i ∉ isC)
    (kk : ∀ (u : S) (H1 : Heap) (locs1 : List Loc), post u → va_P D vwCl (wr ++ w u) H1 → va_D A0 (wr ++ w u) → va_S A0 H0 H1 locs1 → H.size ≤ H1.size → (∀ q : Nat, q < H.size → ¬ va_A wc H.size q → H1[q]? = H[q]?) → W p l e R s m args below meth c H1 locs1 (cells + mc) (slots + ms) Q (F0 m (pc + 3) ls ((v u).toList ++ rest))) : W p l e R s m args below meth c H locs cells slots Q (F0 m pc ls st0) := by
  have hF := va_free hD hS hA isC hC
  intro T hT X
  obtain ⟨v', st₀, t, T', L, h0, X', hL, e1, e2, ⟨⟨u, hv, hp, hP1, hD1⟩, hz, hk⟩, st⟩ := hr T hT X
  cases hv
  rw [h0] at hz hk
  rw [← e1] at hP1 hz hk
  obtain ⟨hP2, hD2⟩ := va_join hP hD isC isR hC hR hn hdis hk hF hP1 hD1
  obtain ⟨t2, a1, b1⟩ := kk u T'.heap (locs ++ L) hp hP2 hD2 ⟨Nat.le_trans hS.1 hz, fun q h1 h2 => by rw [hk q (Nat.lt_of_lt_of_le h1 hS.1) (fun z => h2 (hF q z))]; exact hS.2.1 q h1 h2, fun q hq => by
      rcases List.mem_append.mp hq with h | h
      · exact hS.2.2 q h
      · exact hF _ (hL q h)⟩ hz hk T' rfl X'
  exact ⟨t2, st t2 a1, b1⟩
/-- the top of the stack in other words -/
theorem vz_si {x : Int32} (y : Int32) (h : x = y) (k : W p l e R s m args below meth c H locs cells slots Q (F0 m pc ls (.int y :: rest))) : W p l e R s m args below meth c H locs cells slots Q (F0 m pc ls (.int x :: rest)) := by rw [h]; exact k
theorem vz_sl {x : Int64} (y : Int64) (h : x = y) (k : W p l e R s m args below meth c H locs cells slots Q (F0 m pc ls (.long y :: rest))) : W p l e R s m args below meth c H locs cells slots Q (F0 m pc ls (.long x :: rest)) := by rw [h]; exact k
theorem vz_sv {x : Value} (y : Value) (h : x = y) (k : W p l e R s m args below meth c H locs cells slots Q (F0 m pc ls (y :: rest))) : W p l e R s m args below meth c H locs cells slots Q (F0 m pc ls (x :: rest)) := by rw [h]; exact k
/-- a loop: what holds at its head, by a measure that falls -/
theorem vz_loop {D : va_G} {A : Nat → Prop} {H0 : Heap} {nL : Nat} {σ : Type} (μ : σ → Nat) (I : σ → Prop) (WS : σ → va_W) (LS : σ → List (Nat × Value)) (ST : σ → List Value)
    (step : ∀ x, I x → (∀ y, μ y < μ x → I y → ∀ (H : Heap) (locs : List Loc) (ls : Array Slot), va_P D vwCl (WS y) H → va_D A (WS y) → va_S A H0 H locs → lv_has ls nL (LS y) → W p l e R s m args below meth c H locs cells slots Q (F0 m pc ls (ST y))) → ∀ (H : Heap) (locs : List Loc) (ls : Array Slot), va_P D vwCl (WS x) H → va_D A (WS x) → va_S A H0 H locs → lv_has ls nL (LS x) → W p l e R s m args below meth c H locs cells slots Q (F0 m pc ls (ST x)))
    (x0 : σ) (h0 : I x0) (hP : va_P D vwCl (WS x0) H) (hD : va_D A (WS x0)) (hS : va_S A H0 H locs) (hl : lv_has ls nL (LS x0)) : W p l e R s m args below meth c H locs cells slots Q (F0 m pc ls (ST x0)) := by
  have G : ∀ (n : Nat) (x : σ), μ x < n → I x → ∀ (H : Heap) (locs : List Loc) (ls : Array Slot), va_P D vwCl (WS x) H → va_D A (WS x) → va_S A H0 H locs → lv_has ls nL (LS x) → W p l e R s m args below meth c H locs cells slots Q (F0 m pc ls (ST x)) := by
    intro n
    induction n with
    | zero => intro x h; exact absurd h (Nat.not_lt_zero _)
    | succ n ih =>
      intro x hx hI
      exact step x hI (fun y hy hIy => ih y (by omega) hIy)
  exact G (μ x0 + 1) x0 (Nat.lt_succ_self _) h0 H locs ls hP hD hS hl
/-- a place where roads meet: what holds there -/
theorem vz_cut {D : va_G} {A : Nat → Prop} {H0 : Heap} {nL : Nat} {σ : Type} (pcj : Nat) (I : σ → Prop) (WS : σ → va_W) (LS : σ → List (Nat × Value)) (ST : σ → List Value) {g : JFrame}
    (join : ∀ x, I x → ∀ (H : Heap) (locs : List Loc) (ls : Array Slot), va_P D vwCl (WS x) H → va_D A (WS x) → va_S A H0 H locs → lv_has ls nL (LS x) → W p l e R s m args below meth c H locs cells slots Q (F0 m pcj ls (ST x)))
    (main : (∀ x, I x → ∀ (H : Heap) (locs : List Loc) (ls : Array Slot), va_P D vwCl (WS x) H → va_D A (WS x) → va_S A H0 H locs → lv_has ls nL (LS x) → W p l e R s m args below meth c H locs cells slots Q (F0 m pcj ls (ST x))) → W p l e R s m args below meth c H locs cells slots Q g) : W p l e R s m args below meth c H locs cells slots Q g := main join
end VZ
section VZP
variable {p : Program} {l : Launch} {e : Env} {R : Room} {s : State} {m : MethodId} {args : Array Value} {below : List Frame} {meth : Method} {c : Code} {H : Heap} {locs : List Loc} {cells slots : Nat} {Q : State → Prop}
variable {pc : Nat} {ls : Array Slot} {rest st0 : List Value} {a : Array Value}
theorem vz_loopP {nL : Nat} {σ : Type} (μ : σ → Nat) (I : σ → Prop) (LS : σ → List (Nat × Value)) (ST : σ → List Value)
    (step : ∀ x, I x → (∀ y, μ y < μ x → I y → ∀ (ls : Array Slot), lv_has ls nL (LS y) → W p l e R s m args below meth c H locs cells slots Q (F0 m pc ls (ST y))) → ∀ (ls : Array Slot), lv_has ls nL (LS x) → W p l e R s m args below meth c H locs cells slots Q (F0 m pc ls (ST x)))
    (x0 : σ) (h0 : I x0) (hl : lv_has ls nL (LS x0)) : W p l e R s m args below meth c H locs cells slots Q (F0 m pc ls (ST x0)) := by
  have G : ∀ (n : Nat) (x : σ), μ x < n → I x → ∀ (ls : Array Slot), lv_has ls nL (LS x) → W p l e R s m args below meth c H locs cells slots Q (F0 m pc ls (ST x)) := by
    intro n
    induction n with
    | zero => intro x h; exact absurd h (Nat.not_lt_zero _)
    | succ n ih =>
      intro x hx hI
      exact step x hI (fun y hy hIy => ih y (by omega) hIy)
  exact G (μ x0 + 1) x0 (Nat.lt_succ_self _) h0 ls hl
theorem vz_cutP {nL : Nat} {σ : Type} (pcj : Nat) (I : σ → Prop) (LS : σ → List (Nat × Value)) (ST : σ → List Value) {g : JFrame}
    (join : ∀ x, I x → ∀ (ls : Array Slot), lv_has ls nL (LS x) → W p l e R s m args below meth c H locs cells slots Q (F0 m pcj ls (ST x)))
    (main : (∀ x, I x → ∀ (ls : Array Slot), lv_has ls nL (LS x) → W p l e R s m args below meth c H locs cells slots Q (F0 m pcj ls (ST x))) → W p l e R s m args below meth c H locs cells slots Q g) : W p l e R s m args below meth c H locs cells slots Q g := main join
end VZP
/-- a truth value as the machine holds it -/
def zb (b : Bool) : Int32 := if b then 1 else 0
theorem zb_nar (b : Bool) : narrow .boolean (.int (zb b)) = .int (zb b) := by cases b <;> rfl
theorem zb_fit (b : Bool) : fits .boolean (.int (zb b)) = true := by cases b <;> rfl
theorem zb_f {b : Bool} (h : zb b = 0) : b = false := by cases b; rfl; exact absurd h (by decide)
theorem zb_t {b : Bool} (h : ¬ zb b = 0) : b = true := by cases b; exact absurd rfl h; rfl
theorem zb_1 {b : Bool} (h : b = true) : zb b = 1 := by rw [h]; rfl
theorem zb_0 {b : Bool} (h : b = false) : zb b = 0 := by rw [h]; rfl
/-- fathers: kind, flaw, strength -/
def zk (k : Nat) : Nat := match k with
  | 0 => 2
  | 1 => 1
  | 2 => 6
  | 3 => 5
  | _ => 0
def zO (k : Nat) (fl st : Int32) : va_E := .inr (zk k, [.int fl, .int st])
theorem z5 {k : Nat} (h : k < 5) : k = 0 ∨ k = 1 ∨ k = 2 ∨ k = 3 ∨ k = 4 := by omega
theorem z_in {i : Int32} {N : Nat} (h0 : ¬ i < 0) (h1 : ¬ nI N ≤ i) (hN : N < 2147483648) : vp_in i N := by
  rcases pk_ix i (n := N) hN with h | h | ⟨j, hj, rfl⟩
  · exact absurd h h0
  · exact absurd h h1
  · exact vp_in_nI hj hN
theorem nI_zle {a b : Nat} (ha : a < 2147483648) (hb : b < 2147483648) : nI a ≤ nI b ↔ a ≤ b := nI_leI ha hb
