/-! CAVES READ, DIGEST -/
set_option maxHeartbeats 4000000 in
theorem vz_astF {p : Program} {l : Launch} {e : Env} {R : Room} {s : State} {m : MethodId} {args : Array Value} {below : List Frame} {meth : Method} {c : Code} {H : Heap} {locs : List Loc} {cells slots : Nat} {Q : State → Prop} {ls : Array Slot} {rest : List Value} {D : va_G} {cI cB cF : ClassId} {ws : va_W} {a v k n pc : Nat} {fl st : Int32} {A : Nat → Prop} {H0 : Heap} {cc : ByteArray} {f : Nat → Option Nat} {i : Int32} (hx : p.tables.exec = Jvm.exec) (hb : c.code = cc) (hK : zK D cI cB cF s) (hP : va_P D vwCl ws H) (hD : va_D A ws) (hS : va_S A H0 H locs) (q0 qk : Nat) (ha : ws[q0]? = some (a, .inl (cF, n, .inr (.inr (.inr (.inr f)))))) (hv : ws[qk]? = some (v, zO k fl st)) (hk : k < 5) (hin : vp_in i n) (hdg : decode cc pc = .ok (.aastore, 1))
    (kk : ∀ (H1 : Heap) (locs1 : List Loc), va_P D vwCl (ws.set q0 (a, .inl (cF, n, .inr (.inr (.inr (.inr (va_up f i.toNatClampNeg (some v)))))))) H1 → va_D A (ws.set q0 (a, .inl (cF, n, .inr (.inr (.inr (.inr (va_up f i.toNatClampNeg (some v)))))))) → va_S A H0 H1 locs1 → W p l e R s m args below meth c H1 locs1 cells slots Q (F0 m (pc + 1) ls rest)) : W p l e R s m args below meth c H locs cells slots Q (F0 m pc ls (.ref v :: .int i :: .ref a :: rest)) := by
  rcases z5 hk with rfl | rfl | rfl | rfl | rfl
  · exact va_astq (r := (RX2, TX2, 2)) (ci := 2) hx hb hK.1 hP hD hS q0 2 qk ha rfl hv rfl hin hdg kk
  · exact va_astqO (E := "RotaFathers$Father") (r := (RX1, TX1, 2)) (ci := 1) hx hb hK.1 hP hD hS q0 2 qk ha rfl (hK.2.2.1 (RX1, RX2) (List.mem_of_getElem? (i := 1) rfl)) hv rfl hin hdg kk
  · exact va_astqO (E := "RotaFathers$Father") (r := (RX6, TX6, 2)) (ci := 6) hx hb hK.1 hP hD hS q0 2 qk ha rfl (hK.2.2.1 (RX6, RX2) (List.mem_of_getElem? (i := 3) rfl)) hv rfl hin hdg kk
  · exact va_astqO (E := "RotaFathers$Father") (r := (RX5, TX5, 2)) (ci := 5) hx hb hK.1 hP hD hS q0 2 qk ha rfl (hK.2.2.1 (RX5, RX2) (List.mem_of_getElem? (i := 2) rfl)) hv rfl hin hdg kk
  · exact va_astqO (E := "RotaFathers$Father") (r := (RX0, TX0, 2)) (ci := 0) hx hb hK.1 hP hD hS q0 2 qk ha rfl (hK.2.2.1 (RX0, RX2) (List.mem_of_getElem? (i := 0) rfl)) hv rfl hin hdg kk
theorem zKc_lt (c : Int32) : zKc c < 5 := by
  unfold zKc
  split
  · decide
  · split
    · decide
    · split
      · decide
      · split <;> decide
/-- the fathers that a page tells -/
def zPf (pg : Nat → Int32) : zF := (fun f => zKc (zAt pg 18 (nI (4 * f))), fun f => zDg1 pg (4 * f + 1), fun f => zDg1 pg (4 * f + 2))
def zH (h : Int64) (v : Int32) : Int64 := 31 * h + v.toInt64
def zHa (x : Nat → Int32) (h : Int64) : Nat → Int64
  | 0 => h
  | k + 1 => zH (zHa x h k) (x k)
def zHf (x : Nat → Nat → Int32) (m : Nat) (h : Int64) : Nat → Int64
  | 0 => h
  | k + 1 => zHa (x k) (zHf x m h k) m
def zDa (n : Nat) (F : zF) (r me fe : Nat → Int32) (ft kn : Int32) : Nat → Nat → Int32 := fun f w => zAbo n F r me fe ft kn (nI f) (nI w)
def zDs (n : Nat) (F : zF) (r : Nat → Int32) (ft kn : Int32) (fs ff : Nat → Int32) (fd : Nat) : Nat → Nat → Int32 := fun s w => zSho n F r ft kn fs ff fd (nI s) (nI w)
def zDp (pg : Nat → Int32) : Nat → Int32 := fun j => zAt pg 18 (nI j)
def zDc (n : Nat) (ft kn sm sf dy : Int32) (fd ln : Nat) (cv bd ef : Int32) : Nat → Int32 := fun w => zCt n ft kn sm sf dy fd ln cv bd ef (nI w)
def zEn (n : Nat) (F : zF) (r : Nat → Int32) (ft kn : Int32) : Int32 := if 0 < n then zDf F r ft kn 8 else 0
def zDi (n : Nat) (F : zF) (r : Nat → Int32) (ft kn : Int32) (h : Int64) (fs ff : Nat → Int32) (fd : Nat) : Int64 := if 0 < n then zH (zHf (zDs n F r ft kn fs ff fd) 6 h 8) (zSo (zSc F r ft kn) 8) else h
