/-! WHAT THE PUBLIC METHODS ANSWER -/
def zUs (x y : Int32) : Int32 := (x.toUInt32 >>> (y.toUInt32 &&& Int32.toUInt32 31)).toInt32
def zBc1 (v : Int32) : Int32 := v - (zUs v 1 &&& 1431655765)
def zBc2 (v : Int32) : Int32 := (zBc1 v &&& 858993459) + (zUs (zBc1 v) 2 &&& 858993459)
def zBc3 (v : Int32) : Int32 := (zBc2 v + zUs (zBc2 v) 4) &&& 252645135
def zBc4 (v : Int32) : Int32 := zBc3 v + zUs (zBc3 v) 8
def zBc (v : Int32) : Int32 := (zBc4 v + zUs (zBc4 v) 16) &&& 63
set_option maxRecDepth 100000 in
theorem zBcK : ∀ a, a < 64 → zBc (nI a) = zSz (nI a) 6 := by decide +kernel
theorem vz_arrQ {D : va_G} {cl : List vw_C} {ws : va_W} {H : Heap} (hP : va_P D cl ws H) (p : Nat) {a : Nat} {c : ClassId} {N : Nat} {f g : Nat → Option Nat} (h : ws[p]? = some (a, .inl (c, N, .inr (.inr (.inr (.inr f)))))) (hg : ∀ j, j < N → f j = g j) : va_P D cl (ws.set p (a, .inl (c, N, .inr (.inr (.inr (.inr g)))))) H := by
  intro k q hk
  by_cases hkp : k = p
  · subst hkp
    have hlt : k < ws.length := (List.getElem?_eq_some_iff.mp h).1
    rw [List.getElem?_set_self hlt] at hk
    cases hk
    have h1 : H[a]? = some (vp_cell c (N, .inr (.inr (.inr (.inr f))))) := hP k _ h
    show H[a]? = some (vp_cell c (N, .inr (.inr (.inr (.inr g)))))
    rw [h1]
    congr 1
    show arrV c N (fun j => va_rf (f j)) = arrV c N (fun j => va_rf (g j))
    unfold arrV
    congr 1
    apply Array.ext
    · simp
    · intro i h2 h3
      simp only [Array.getElem_ofFn]
      rw [hg i (by simpa using h2)]
  · rw [List.getElem?_set_ne (fun e => hkp e.symm)] at hk
    exact hP k q hk
/-- a number of a father, or none -/
theorem z_fa {n : Nat} {B : Nat → Nat} (i : Int32) (hn : n ≤ 4) : (∃ f, f < n ∧ i = nI f) ∨ (zFa (zG n B) 4 i = none ∧ zIn i 0 (nI n - 1) = false) := by
  have hm : (nI n - 1).toInt = (n : Int) - 1 := by
    cases n with
    | zero => rfl
    | succ n => rw [nI_pred, nI_toInt (by omega)]; omega
  rcases pk_ix i (n := n) (by omega) with h | h | ⟨j, hj, rfl⟩
  · refine Or.inr ⟨by unfold zFa; rw [if_pos h], ?_⟩
    unfold zIn
    rw [decide_eq_true h]
    rfl
  · refine Or.inr ⟨?_, ?_⟩
    · unfold zFa
      by_cases h0 : i < 0
      · rw [if_pos h0]
      · rw [if_neg h0]
        by_cases h4 : nI 4 ≤ i
        · rw [if_pos h4]
        · rw [if_neg h4]
          obtain ⟨j, hj, rfl⟩ := vp_in_of (z_in h0 h4 (by decide)) (by decide)
          rw [nI_clamp (by omega)]
          exact zG_n (fun q => by have := (nI_zle (a := n) (b := j) (by omega) (by omega)).mp h; omega)
    · unfold zIn
      rw [show decide (nI n - 1 < i) = true from decide_eq_true (by
        rw [Int32.lt_iff_toInt_lt, hm]
        rw [Int32.le_iff_toInt_le, nI_toInt (by omega)] at h
        omega)]
      exact Bool.and_false _
  · exact Or.inl ⟨j, hj, rfl⟩
theorem z_inf {n f : Nat} (h : f < n) (hn : n ≤ 4) : zIn (nI f) 0 (nI n - 1) = true := by
  obtain ⟨m, rfl⟩ : ∃ m, n = m + 1 := ⟨n - 1, by omega⟩
  unfold zIn
  rw [nI_pred, decide_eq_false (nI_pos (by omega)), decide_eq_false (nI_nlt (by omega) (by omega))]
  rfl
def zAb1 (F : zF) (r me fe : Nat → Int32) (ft kn : Int32) (f : Nat) (w : Int32) : Int32 :=
  if w = 0 then nI (F.1 f) else if w = 1 then F.2.1 f else if w = 2 then F.2.2 f else if w = 3 then me f else if w = 4 then fe f else if w = 5 then zBits r (nI f) 8 else if w = 6 then zb (zKn kn (F.2.1 f)) else if w = 7 then zGs (zDg F r ft kn) r (nI f) 8 else -102
def zAbo (n : Nat) (F : zF) (r me fe : Nat → Int32) (ft kn i w : Int32) : Int32 := if zIn i 0 (nI n - 1) = true then zAb1 F r me fe ft kn i.toNatClampNeg w else -101
def zAs (n : Nat) (F : zF) (i kd : Int32) : Int32 := if zIn i 0 (nI n - 1) = true then (if zIn kd 0 4 = true then (if zIs (F.1 i.toNatClampNeg) kd = true then i else -1) else -102) else -101
def zRk (n : Nat) (s f : Int32) : Bool := decide (0 < n) && zIn s 0 7 && (decide (f = -1) || zIn f 0 (nI n - 1))
def zRr (n : Nat) (r : Nat → Int32) (s f : Int32) : Nat → Int32 := if zRk n s f = true then upd r s.toNatClampNeg f else r
def zRa (n : Nat) (r : Nat → Int32) (s f : Int32) : Int32 := if zRk n s f = true then r s.toNatClampNeg else -101
def zLk (F : zF) (r : Nat → Int32) (n s1 : Nat) (ft kn : Int32) (fs ff : Nat → Int32) (fd : Nat) : Int32 := if zAny (zOkR F r s1 ft kn fs ff fd) (n + 1) = true then (zLs (zTl (zOkR F r s1 ft kn fs ff fd) (zDDr F r s1 ft kn) (n + 1)) 9).1 else -1
def zSh1 (n : Nat) (F : zF) (r : Nat → Int32) (ft kn : Int32) (fs ff : Nat → Int32) (fd s1 : Nat) (w : Int32) : Int32 :=
  if w = 0 then r s1 else if w = 1 then zDf F r ft kn s1 else if w = 2 then zDh F r ft kn s1 else if w = 3 then zDe F r ft kn s1 else if w = 4 then zWb (zOkR F r s1 ft kn fs ff fd) (n + 1) else if w = 5 then zLk F r n s1 ft kn fs ff fd else -102
def zSho (n : Nat) (F : zF) (r : Nat → Int32) (ft kn : Int32) (fs ff : Nat → Int32) (fd : Nat) (s w : Int32) : Int32 := if (decide (0 < n) && zIn s 0 7) = true then zSh1 n F r ft kn fs ff fd s.toNatClampNeg w else -101
theorem z_s8 {s : Int32} (h : zIn s 0 7 = true) : ∃ j, j < 8 ∧ s = nI j := by
  unfold zIn at h
  rw [Bool.and_eq_true] at h
  have h0 : ¬ s < 0 := fun q => by rw [decide_eq_true q] at h; exact absurd h.1 (by decide)
  have h1 : ¬ 7 < s := fun q => by rw [decide_eq_true q] at h; exact absurd h.2 (by decide)
  obtain ⟨j, hj, rfl⟩ := nI_of2 (M := 7) (n := 7) rfl h0 (Int32.not_lt.mp h1)
  exact ⟨j, by omega, rfl⟩
theorem z_and_l {a b : Bool} (h : (a && b) = true) : a = true := (Bool.and_eq_true _ _ ▸ h).1
theorem z_and_r {a b : Bool} (h : (a && b) = true) : b = true := (Bool.and_eq_true _ _ ▸ h).2
theorem va_P.mem {D : va_G} {cl : List vw_C} {ws : va_W} {H : Heap} (h : va_P D cl ws H) {q : Nat × va_E} (hq : q ∈ ws) : va_at D cl q H := by
  obtain ⟨k, hk⟩ := List.getElem?_of_mem hq
  exact h k q hk
theorem z_pa {U : Nat → Int32} {w x : Int32} {n j : Nat} (hn : n ≤ 4) (hw : w = -1 ∨ ∃ f, f < n ∧ w = nI f) (hj : j < 4) : zPut U 4 w (zAt U 4 w + x) j = if w = nI j then U j + x else U j := by
  rcases hw with rfl | ⟨f, hf, rfl⟩
  · rw [zPut_m1, if_neg (fun h => nI_nm1 (f := j) (by omega) h.symm)]
  · rw [zPut_nI (by omega) (by decide), zAt_nI (by omega) (by decide)]
    unfold upd
    by_cases h : j = f
    · rw [if_pos h, if_pos (by rw [h]), h]
    · rw [if_neg h, if_neg (fun q => h ((nI_eq (by omega) (by omega)).mp q).symm)]
theorem z_ms {me g r : Nat → Int32} {j k : Nat} : (if r k = nI j then (me j + zGs g r (nI j) k) + g k else me j + zGs g r (nI j) k) = me j + zGs g r (nI j) (k + 1) := by
  show _ = me j + (if r k = nI j then zGs g r (nI j) k + g k else zGs g r (nI j) k)
  by_cases h : r k = nI j
  · rw [if_pos h, if_pos h, Int32.add_assoc]
  · rw [if_neg h, if_neg h]
/-- BEST -/
def zP3 (r : Nat → Int32) (s1 n c : Nat) : Nat → Int32 := upd (upd (upd r s1 (zWh (c / ((n + 1) * (n + 1))))) (s1 + 1) (zWh (c / (n + 1) % (n + 1)))) (s1 + 2) (zWh (c % (n + 1)))
def zBs (F : zF) (r : Nat → Int32) (s1 n : Nat) (ft kn fi : Int32) : Nat → Int32 × (Nat → Int32)
  | 0 => (-1, fun _ => -1)
  | c + 1 => if zWc F (zP3 r s1 n c) ft kn fi (zBs F r s1 n ft kn fi c).1 = true then (zSum (zDg F (zP3 r s1 n c) ft kn) 8, fun i => zP3 r s1 n c (s1 + i)) else zBs F r s1 n ft kn fi c
theorem zP3_ro {r : Nat → Int32} {s1 n c : Nat} (h : zRo n r) (hn : n ≤ 4) (hc : c < (n + 1) * (n + 1) * (n + 1)) : zRo n (zP3 r s1 n c) := by
  have h1 : c / ((n + 1) * (n + 1)) ≤ n := Nat.le_of_lt_succ (Nat.div_lt_of_lt_mul (by rw [Nat.mul_assoc] at hc; rw [Nat.mul_assoc]; exact hc))
  have h2 : c / (n + 1) % (n + 1) ≤ n := Nat.le_of_lt_succ (Nat.mod_lt _ (Nat.succ_pos n))
  have h3 : c % (n + 1) ≤ n := Nat.le_of_lt_succ (Nat.mod_lt _ (Nat.succ_pos n))
  exact zRo_up (zRo_up (zRo_up h h1) h2) h3
/-- the plan in the three loops -/
def zQ3 (r u : Nat → Int32) (s1 : Nat) : Prop := ∀ j, j ≠ s1 → j ≠ s1 + 1 → j ≠ s1 + 2 → u j = r j
theorem zQ3_e {r u : Nat → Int32} {s1 n a b t : Nat} (h : zQ3 r u s1) (ha : u s1 = zWh a) (hb : u (s1 + 1) = zWh b) (hb2 : b ≤ n) (ht : t ≤ n) (j : Nat) : upd u (s1 + 2) (zWh t) j = zP3 r s1 n ((a * (n + 1) + b) * (n + 1) + t) j := by
  have e1 : ((a * (n + 1) + b) * (n + 1) + t) % (n + 1) = t := by rw [Nat.mul_comm, Nat.mul_add_mod]; exact Nat.mod_eq_of_lt (by omega)
  have e2 : ((a * (n + 1) + b) * (n + 1) + t) / (n + 1) = a * (n + 1) + b := by rw [Nat.mul_comm, Nat.mul_add_div (Nat.succ_pos n), Nat.div_eq_of_lt (by omega)]; omega
  have e3 : (a * (n + 1) + b) % (n + 1) = b := by rw [Nat.mul_comm, Nat.mul_add_mod]; exact Nat.mod_eq_of_lt (by omega)
  have e4 : (a * (n + 1) + b) / (n + 1) = a := by rw [Nat.mul_comm, Nat.mul_add_div (Nat.succ_pos n), Nat.div_eq_of_lt (by omega)]; omega
  unfold zP3
  rw [← Nat.div_div_eq_div_mul, e1, e2, e3, e4]
  unfold upd
  by_cases h2 : j = s1 + 2
  · rw [if_pos h2, if_pos h2]
  · rw [if_neg h2, if_neg h2]
    by_cases h1 : j = s1 + 1
    · rw [if_pos h1, h1, hb]
    · rw [if_neg h1]
      by_cases h0 : j = s1
      · rw [if_pos h0, h0, ha]
      · rw [if_neg h0]; exact h j h0 h1 h2
/-- SWAPS -/
def zSc (F : zF) (r : Nat → Int32) (ft kn : Int32) (a b : Nat) : Bool := decide (zSum (zDg F r ft kn) 8 < zSum (zDg F (upd (upd r a (r b)) b (r a)) ft kn) 8)
def zSi (c : Nat → Nat → Bool) (a : Nat) : Nat → Int32
  | 0 => 0
  | b + 1 => if a < b ∧ c a b = true then zSi c a b + 1 else zSi c a b
def zSo (c : Nat → Nat → Bool) : Nat → Int32
  | 0 => 0
  | a + 1 => zSo c a + zSi c a 8
theorem zSi_0 {c : Nat → Nat → Bool} {a : Nat} : ∀ b, b ≤ a + 1 → zSi c a b = 0 := by
  intro b
  induction b with
  | zero => intro _; rfl
  | succ b ih =>
    intro hb
    show (if a < b ∧ c a b = true then zSi c a b + 1 else zSi c a b) = 0
    rw [if_neg (fun h => absurd h.1 (by omega)), ih (by omega)]
theorem zSi_t {c : Nat → Nat → Bool} {a b : Nat} (h : a < b) (hc : c a b = true) {x : Int32} : x + zSi c a b + 1 = x + zSi c a (b + 1) := by
  show _ = x + (if a < b ∧ c a b = true then zSi c a b + 1 else zSi c a b)
  rw [if_pos ⟨h, hc⟩, Int32.add_assoc]
theorem zSi_f {c : Nat → Nat → Bool} {a b : Nat} (hc : c a b = false) {x : Int32} : x + zSi c a b = x + zSi c a (b + 1) := by
  show _ = x + (if a < b ∧ c a b = true then zSi c a b + 1 else zSi c a b)
  rw [if_neg (fun h => by rw [hc] at h; exact absurd h.2 (by decide))]
/-- MONTHS -/
def zMd (sd : Nat) : Nat → Nat
  | 0 => sd
  | k + 1 => zSd (zMd sd k) 8
def zMq (F : zF) (n sd : Nat) (ft kn : Int32) : Nat → Int32 × Int32 × Int32 × Int32
  | 0 => (0, 0, ft, kn)
  | k + 1 => ((zMq F n sd ft kn k).1 + zSum (zDg F (zDw n (zMd sd k)) (zMq F n sd ft kn k).2.2.1 (zMq F n sd ft kn k).2.2.2) 8,
      (zMq F n sd ft kn k).2.1 + zSum (zDe F (zDw n (zMd sd k)) (zMq F n sd ft kn k).2.2.1 (zMq F n sd ft kn k).2.2.2) 8,
      zDf F (zDw n (zMd sd k)) (zMq F n sd ft kn k).2.2.1 (zMq F n sd ft kn k).2.2.2 8,
      zDk F (zDw n (zMd sd k)) (zMq F n sd ft kn k).2.2.1 (zMq F n sd ft kn k).2.2.2 8)
theorem zDw_ro (n k : Nat) : zRo n (zDw n k) := by
  intro j _
  unfold zDw
  by_cases h : zSd k (j + 1) / 65536 % (n + 1) = n
  · rw [if_pos h]; exact Or.inl rfl
  · rw [if_neg h]
    exact Or.inr ⟨_, Nat.lt_of_le_of_ne (Nat.le_of_lt_succ (Nat.mod_lt (zSd k (j + 1) / 65536) (Nat.succ_pos n))) h, rfl⟩
theorem zMd_lt {sd : Nat} (h : sd < 2147483648) (k : Nat) : zMd sd k < 2147483648 := by
  induction k with
  | zero => exact h
  | succ k ih => exact zSd_lt ih 8
/-- the answers of 'how many' -/
def zCt (n : Nat) (ft kn sm sf dy : Int32) (fd ln : Nat) (cv bd ef w : Int32) : Int32 :=
  if w = 0 then nI n else if w = 1 then ft else if w = 2 then zSz kn 6 else if w = 3 then sm else if w = 4 then sf else if w = 5 then dy else if w = 6 then nI fd else if w = 7 then nI ln else if w = 8 then cv else if w = 9 then bd else if w = 10 then ef else -102
theorem zIn_lo {v lo hi : Int32} (h : v < lo) : zIn v lo hi = false := by
  rw [zIn, decide_eq_true h]
  rfl
theorem zIn_hi {v lo hi : Int32} (h : hi < v) : zIn v lo hi = false := by
  rw [zIn, decide_eq_true h]
  exact Bool.and_false _
theorem zIn_ok {v lo hi : Int32} (h0 : ¬ v < lo) (h1 : v ≤ hi) : zIn v lo hi = true := by
  rw [zIn, decide_eq_false h0, decide_eq_false (Int32.not_lt.mpr h1)]
  rfl
def zLe (ln : Nat) (c : Int32) : Int32 := if zIn c 32 126 = true then (if ln < 18 then nI (ln + 1) else -104) else -102
def zLn (ln : Nat) (c : Int32) : Nat := if (zIn c 32 126 && decide (ln < 18)) = true then ln + 1 else ln
def zLp (pg : Nat → Int32) (ln : Nat) (c : Int32) : Nat → Int32 := if (zIn c 32 126 && decide (ln < 18)) = true then upd pg ln c else pg
def zFk (n fd : Nat) (s f : Int32) : Bool := decide (0 < n) && zIn s 0 8 && zIn f 0 9 && decide (fd < 6)
def zFd (n fd : Nat) (s f : Int32) : Nat := if zFk n fd s f = true then fd + 1 else fd
def zFs (n : Nat) (fs : Nat → Int32) (fd : Nat) (s f x : Int32) : Nat → Int32 := if zFk n fd s f = true then upd fs fd x else fs
def zFn (n fd : Nat) (s f : Int32) : Int32 := if (decide (0 < n) && zIn s 0 8) = true then (if zIn f 0 9 = true then (if fd < 6 then nI (fd + 1) else -104) else -102) else -101
