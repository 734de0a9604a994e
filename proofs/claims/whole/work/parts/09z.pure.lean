set_option maxHeartbeats 4000000 in
theorem vz_inst_C {p : Program} {l : Launch} {e : Env} {R : Room} {s : State} {m : MethodId} {args : Array Value} {below : List Frame} {meth : Method} {c : Code} {H : Heap} {locs : List Loc} {cells slots : Nat} {Q : State → Prop} {ls : Array Slot} {rest : List Value} {D : va_G} {cI cB cF : ClassId} {ws : va_W} {a k : Nat} {fl st : Int32} {cc : ByteArray} {pc : Nat} {own : String} {index : Nat} (hx : p.tables.exec = Jvm.exec) (hb : c.code = cc) (hown : s.vm.findClass own = some m.cls) (hlink : (Cond.classLink own index "RotaFathers$Copt").before args s = true) (hK : zK D cI cB cF s) (hQ : va_P D vwCl ws H) (q0 : Nat) (hk : k < 5) (he : ws[q0]? = some (a, zO k fl st)) (hdg : decode cc pc = .ok (.instanceof index, 3)) (kk : W p l e R s m args below meth c H locs cells slots Q (F0 m (pc + 3) ls (.int (zb (decide (k = 1) || decide (k = 4))) :: rest))) : W p l e R s m args below meth c H locs cells slots Q (F0 m pc ls (.ref a :: rest)) := by
  rcases z5 hk with rfl | rfl | rfl | rfl | rfl
  · exact va_instNo (C := RX2) hx hb hown hlink (hK.2.2.2 (RX2, RX1) (List.mem_of_getElem? (i := 1) rfl)) (va_recv (q := (RX2, TX2, 2)) hK.1 hQ rfl he) hdg kk
  · exact va_instS hx hb hown hlink (⟨(hK.1.1 1 _ rfl).2.1, (hK.1.1 1 _ rfl).2.2⟩ : ClassAt s RX1 (D.1 1)) (va_recv (q := (RX1, TX1, 2)) hK.1 hQ rfl he) hdg kk
  · exact va_instNo (C := RX6) hx hb hown hlink (hK.2.2.2 (RX6, RX1) (List.mem_of_getElem? (i := 11) rfl)) (va_recv (q := (RX6, TX6, 2)) hK.1 hQ rfl he) hdg kk
  · exact va_instNo (C := RX5) hx hb hown hlink (hK.2.2.2 (RX5, RX1) (List.mem_of_getElem? (i := 8) rfl)) (va_recv (q := (RX5, TX5, 2)) hK.1 hQ rfl he) hdg kk
  · exact va_instY (C := RX0) hx hb hown hlink (hK.2.2.1 (RX0, RX1) (List.mem_of_getElem? (i := 4) rfl)) (va_recv (q := (RX0, TX0, 2)) hK.1 hQ rfl he) hdg kk
set_option maxHeartbeats 4000000 in
theorem vz_inst_S {p : Program} {l : Launch} {e : Env} {R : Room} {s : State} {m : MethodId} {args : Array Value} {below : List Frame} {meth : Method} {c : Code} {H : Heap} {locs : List Loc} {cells slots : Nat} {Q : State → Prop} {ls : Array Slot} {rest : List Value} {D : va_G} {cI cB cF : ClassId} {ws : va_W} {a k : Nat} {fl st : Int32} {cc : ByteArray} {pc : Nat} {own : String} {index : Nat} (hx : p.tables.exec = Jvm.exec) (hb : c.code = cc) (hown : s.vm.findClass own = some m.cls) (hlink : (Cond.classLink own index "RotaFathers$Syrian").before args s = true) (hK : zK D cI cB cF s) (hQ : va_P D vwCl ws H) (q0 : Nat) (hk : k < 5) (he : ws[q0]? = some (a, zO k fl st)) (hdg : decode cc pc = .ok (.instanceof index, 3)) (kk : W p l e R s m args below meth c H locs cells slots Q (F0 m (pc + 3) ls (.int (zb (decide (k = 2))) :: rest))) : W p l e R s m args below meth c H locs cells slots Q (F0 m pc ls (.ref a :: rest)) := by
  rcases z5 hk with rfl | rfl | rfl | rfl | rfl
  · exact va_instNo (C := RX2) hx hb hown hlink (hK.2.2.2 (RX2, RX6) (List.mem_of_getElem? (i := 3) rfl)) (va_recv (q := (RX2, TX2, 2)) hK.1 hQ rfl he) hdg kk
  · exact va_instNo (C := RX1) hx hb hown hlink (hK.2.2.2 (RX1, RX6) (List.mem_of_getElem? (i := 6) rfl)) (va_recv (q := (RX1, TX1, 2)) hK.1 hQ rfl he) hdg kk
  · exact va_instS hx hb hown hlink (⟨(hK.1.1 6 _ rfl).2.1, (hK.1.1 6 _ rfl).2.2⟩ : ClassAt s RX6 (D.1 6)) (va_recv (q := (RX6, TX6, 2)) hK.1 hQ rfl he) hdg kk
  · exact va_instNo (C := RX5) hx hb hown hlink (hK.2.2.2 (RX5, RX6) (List.mem_of_getElem? (i := 9) rfl)) (va_recv (q := (RX5, TX5, 2)) hK.1 hQ rfl he) hdg kk
  · exact va_instNo (C := RX0) hx hb hown hlink (hK.2.2.2 (RX0, RX6) (List.mem_of_getElem? (i := 14) rfl)) (va_recv (q := (RX0, TX0, 2)) hK.1 hQ rfl he) hdg kk
set_option maxHeartbeats 4000000 in
theorem vz_inst_P {p : Program} {l : Launch} {e : Env} {R : Room} {s : State} {m : MethodId} {args : Array Value} {below : List Frame} {meth : Method} {c : Code} {H : Heap} {locs : List Loc} {cells slots : Nat} {Q : State → Prop} {ls : Array Slot} {rest : List Value} {D : va_G} {cI cB cF : ClassId} {ws : va_W} {a k : Nat} {fl st : Int32} {cc : ByteArray} {pc : Nat} {own : String} {index : Nat} (hx : p.tables.exec = Jvm.exec) (hb : c.code = cc) (hown : s.vm.findClass own = some m.cls) (hlink : (Cond.classLink own index "RotaFathers$Spoiler").before args s = true) (hK : zK D cI cB cF s) (hQ : va_P D vwCl ws H) (q0 : Nat) (hk : k < 5) (he : ws[q0]? = some (a, zO k fl st)) (hdg : decode cc pc = .ok (.instanceof index, 3)) (kk : W p l e R s m args below meth c H locs cells slots Q (F0 m (pc + 3) ls (.int (zb (decide (k = 3))) :: rest))) : W p l e R s m args below meth c H locs cells slots Q (F0 m pc ls (.ref a :: rest)) := by
  rcases z5 hk with rfl | rfl | rfl | rfl | rfl
  · exact va_instNo (C := RX2) hx hb hown hlink (hK.2.2.2 (RX2, RX5) (List.mem_of_getElem? (i := 2) rfl)) (va_recv (q := (RX2, TX2, 2)) hK.1 hQ rfl he) hdg kk
  · exact va_instNo (C := RX1) hx hb hown hlink (hK.2.2.2 (RX1, RX5) (List.mem_of_getElem? (i := 5) rfl)) (va_recv (q := (RX1, TX1, 2)) hK.1 hQ rfl he) hdg kk
  · exact va_instNo (C := RX6) hx hb hown hlink (hK.2.2.2 (RX6, RX5) (List.mem_of_getElem? (i := 12) rfl)) (va_recv (q := (RX6, TX6, 2)) hK.1 hQ rfl he) hdg kk
  · exact va_instS hx hb hown hlink (⟨(hK.1.1 5 _ rfl).2.1, (hK.1.1 5 _ rfl).2.2⟩ : ClassAt s RX5 (D.1 5)) (va_recv (q := (RX5, TX5, 2)) hK.1 hQ rfl he) hdg kk
  · exact va_instNo (C := RX0) hx hb hown hlink (hK.2.2.2 (RX0, RX5) (List.mem_of_getElem? (i := 13) rfl)) (va_recv (q := (RX0, TX0, 2)) hK.1 hQ rfl he) hdg kk
set_option maxHeartbeats 4000000 in
theorem vz_inst_A {p : Program} {l : Launch} {e : Env} {R : Room} {s : State} {m : MethodId} {args : Array Value} {below : List Frame} {meth : Method} {c : Code} {H : Heap} {locs : List Loc} {cells slots : Nat} {Q : State → Prop} {ls : Array Slot} {rest : List Value} {D : va_G} {cI cB cF : ClassId} {ws : va_W} {a k : Nat} {fl st : Int32} {cc : ByteArray} {pc : Nat} {own : String} {index : Nat} (hx : p.tables.exec = Jvm.exec) (hb : c.code = cc) (hown : s.vm.findClass own = some m.cls) (hlink : (Cond.classLink own index "RotaFathers$Abbot").before args s = true) (hK : zK D cI cB cF s) (hQ : va_P D vwCl ws H) (q0 : Nat) (hk : k < 5) (he : ws[q0]? = some (a, zO k fl st)) (hdg : decode cc pc = .ok (.instanceof index, 3)) (kk : W p l e R s m args below meth c H locs cells slots Q (F0 m (pc + 3) ls (.int (zb (decide (k = 4))) :: rest))) : W p l e R s m args below meth c H locs cells slots Q (F0 m pc ls (.ref a :: rest)) := by
  rcases z5 hk with rfl | rfl | rfl | rfl | rfl
  · exact va_instNo (C := RX2) hx hb hown hlink (hK.2.2.2 (RX2, RX0) (List.mem_of_getElem? (i := 0) rfl)) (va_recv (q := (RX2, TX2, 2)) hK.1 hQ rfl he) hdg kk
  · exact va_instNo (C := RX1) hx hb hown hlink (hK.2.2.2 (RX1, RX0) (List.mem_of_getElem? (i := 4) rfl)) (va_recv (q := (RX1, TX1, 2)) hK.1 hQ rfl he) hdg kk
  · exact va_instNo (C := RX6) hx hb hown hlink (hK.2.2.2 (RX6, RX0) (List.mem_of_getElem? (i := 10) rfl)) (va_recv (q := (RX6, TX6, 2)) hK.1 hQ rfl he) hdg kk
  · exact va_instNo (C := RX5) hx hb hown hlink (hK.2.2.2 (RX5, RX0) (List.mem_of_getElem? (i := 7) rfl)) (va_recv (q := (RX5, TX5, 2)) hK.1 hQ rfl he) hdg kk
  · exact va_instS hx hb hown hlink (⟨(hK.1.1 0 _ rfl).2.1, (hK.1.1 0 _ rfl).2.2⟩ : ClassAt s RX0 (D.1 0)) (va_recv (q := (RX0, TX0, 2)) hK.1 hQ rfl he) hdg kk
def zIs (k : Nat) (kd : Int32) : Bool := if kd = 0 then true else if kd = 1 then decide (k = 1) || decide (k = 4) else if kd = 2 then decide (k = 2) else if kd = 3 then decide (k = 3) else if kd = 4 then decide (k = 4) else false
def zWc (F : zF) (p : Nat → Int32) (ft kn fi bm : Int32) : Bool := !decide (zDf F p ft kn 8 < fi) && !decide (zSum (zDg F p ft kn) 8 ≤ bm)
section ZWC
variable {F : zF} {p : Nat → Int32} {ft kn fi bm : Int32}
theorem zWc_t (h1 : ¬ zDf F p ft kn 8 < fi) (h2 : bm < zSum (zDg F p ft kn) 8) : zWc F p ft kn fi bm = true := by
  unfold zWc
  rw [decide_eq_false h1, decide_eq_false (Int32.not_le.mpr h2)]
  rfl
theorem zWc_f1 (h1 : zDf F p ft kn 8 < fi) : zWc F p ft kn fi bm = false := by
  unfold zWc
  rw [decide_eq_true h1]
  rfl
theorem zWc_f2 (h2 : ¬ bm < zSum (zDg F p ft kn) 8) : zWc F p ft kn fi bm = false := by
  unfold zWc
  rw [decide_eq_true (Int32.not_lt.mp h2)]
  exact Bool.and_false _
end ZWC
theorem z_le8 (i : Int32) : 8 ≤ i ↔ 7 < i := by
  rw [Int32.le_iff_toInt_le, Int32.lt_iff_toInt_lt]
  have e8 : (8 : Int32).toInt = 8 := rfl
  have e7 : (7 : Int32).toInt = 7 := rfl
  omega
theorem zRo_sw {n a b : Nat} {p : Nat → Int32} (h : zRo n p) (ha : a < 8) (hb : b < 8) : zRo n (upd (upd p a (p b)) b (p a)) := by
  intro j hj
  unfold upd
  by_cases h1 : j = b
  · rw [if_pos h1]; exact h a ha
  · rw [if_neg h1]
    by_cases h2 : j = a
    · rw [if_pos h2]; exact h b hb
    · rw [if_neg h2]; exact h j hj
theorem zRo_up {n s k : Nat} {r : Nat → Int32} (h : zRo n r) (hk : k ≤ n) : zRo n (upd r s (zWh k)) := by
  intro j hj
  unfold upd
  by_cases h1 : j = s
  · rw [if_pos h1]
    cases k with
    | zero => exact Or.inl rfl
    | succ k => exact Or.inr ⟨k, by omega, rfl⟩
  · rw [if_neg h1]; exact h j hj
theorem zMax1 {n : Nat} (h : n < 2147483647) : (if 1 < nI (n + 1) then nI (n + 1) else 1) = nI (n + 1) := by
  cases n with
  | zero => rfl
  | succ n =>
    have e : (1 : Int32) < nI (n + 1 + 1) := (nI_zlt (a := 1) (b := n + 1 + 1) (by decide) (by omega)).mpr (by omega)
    rw [if_pos e]
/-- WHO can be there: the k-th of 'nobody, 0, 1, ..'; the day that it would be -/
def zOkR (F : zF) (r : Nat → Int32) (s1 : Nat) (ft kn : Int32) (fs ff : Nat → Int32) (fd : Nat) : Nat → Bool := fun k => zOk (zDf F (upd r s1 (zWh k)) ft kn) fs ff fd
def zDDr (F : zF) (r : Nat → Int32) (s1 : Nat) (ft kn : Int32) : Nat → Nat → Int32 := fun k => zDf F (upd r s1 (zWh k)) ft kn
theorem zOkR_k {F : zF} {r : Nat → Int32} {s1 : Nat} {ft kn : Int32} {fs ff : Nat → Int32} {fd k : Nat} : zOk (zDf F (upd (zPk r s1 k) s1 (zWh k)) ft kn) fs ff fd = zOkR F r s1 ft kn fs ff fd k := by
  rw [zPk_s]
  rfl
theorem zDDr_k {F : zF} {r : Nat → Int32} {s1 : Nat} {ft kn : Int32} {k : Nat} : zDf F (upd (zPk r s1 k) s1 (zWh k)) ft kn = zDDr F r s1 ft kn k := by
  rw [zPk_s]
  rfl
