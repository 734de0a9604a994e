/-! WHAT THE METHODS COMPUTE, in numbers alone -/
theorem z_ext {g1 F : Nat → Int32} {k : Nat} {x : Int32} (h : ∀ j, j < k → g1 j = F j) (hx : x = F k) : ∀ j, j < k + 1 → upd g1 k x j = F j := by
  intro j hj
  rcases Nat.lt_succ_iff_lt_or_eq.mp hj with h1 | h1
  · rw [pk_un (by omega)]
    exact h j h1
  · rw [h1, pk_us]
    exact hx
def zAt (f : Nat → Int32) (N : Nat) (i : Int32) : Int32 := if i < 0 then 0 else if nI N ≤ i then 0 else f i.toNatClampNeg
def zPut (f : Nat → Int32) (N : Nat) (i v : Int32) : Nat → Int32 := if i < 0 then f else if nI N ≤ i then f else upd f i.toNatClampNeg v
def zFa (g : Nat → Option Nat) (N : Nat) (i : Int32) : Option Nat := if i < 0 then none else if nI N ≤ i then none else g i.toNatClampNeg
def zSum (f : Nat → Int32) : Nat → Int32
  | 0 => 0
  | k + 1 => zSum f k + f k
def zKn (kn fl : Int32) : Bool := !decide (kn &&& (1 <<< (fl &&& 31)) = 0)
def zIn (v lo hi : Int32) : Bool := !decide (v < lo) && !decide (hi < v)
def zNx (k : Nat) : Nat := (1103515245 * k + 12345) % 2147483648
theorem zAt_nI {f : Nat → Int32} {N k : Nat} (h : k < N) (hN : N < 2147483648) : zAt f N (nI k) = f k := by
  unfold zAt
  rw [if_neg (nI_pos (by omega)), if_neg (nI_ge h hN), nI_clamp (by omega)]
theorem zAt_m1 {f : Nat → Int32} {N : Nat} : zAt f N (-1) = 0 := by
  unfold zAt
  rw [if_pos (by decide)]
theorem zPut_nI {f : Nat → Int32} {N k : Nat} {v : Int32} (h : k < N) (hN : N < 2147483648) : zPut f N (nI k) v = upd f k v := by
  unfold zPut
  rw [if_neg (nI_pos (by omega)), if_neg (nI_ge h hN), nI_clamp (by omega)]
theorem zPut_m1 {f : Nat → Int32} {N : Nat} {v : Int32} : zPut f N (-1) v = f := by
  unfold zPut
  rw [if_pos (by decide)]
theorem zFa_nI {g : Nat → Option Nat} {N k : Nat} (h : k < N) (hN : N < 2147483648) : zFa g N (nI k) = g k := by
  unfold zFa
  rw [if_neg (nI_pos (by omega)), if_neg (nI_ge h hN), nI_clamp (by omega)]
theorem zFa_m1 {g : Nat → Option Nat} {N : Nat} : zFa g N (-1) = none := by
  unfold zFa
  rw [if_pos (by decide)]
theorem vz_rv (r : Option Nat) : va_rf r = .null ∨ ∃ a, va_rf r = .ref a := by
  cases r with
  | none => exact Or.inl rfl
  | some x => exact Or.inr ⟨x, rfl⟩
theorem z_and31 (n : Nat) : lN n &&& 2147483647 = lN (n % 2147483648) := by
  apply Int64.toBitVec_inj.mp
  apply BitVec.eq_of_toNat_eq
  show ((lN n).toBitVec &&& (2147483647 : Int64).toBitVec).toNat = (lN (n % 2147483648)).toBitVec.toNat
  rw [BitVec.toNat_and]
  show (BitVec.ofNat 64 n).toNat &&& 2147483647 = (BitVec.ofNat 64 (n % 2147483648)).toNat
  rw [BitVec.toNat_ofNat, BitVec.toNat_ofNat]
  rw [show (2147483647 : Nat) = 2 ^ 31 - 1 from rfl, Nat.and_two_pow_sub_one_eq_mod]
  omega
theorem z_nextL (k : Nat) : 1103515245 * lN k + 12345 &&& 2147483647 = lN (zNx k) := by
  rw [show (1103515245 : Int64) = lN 1103515245 from rfl, show (12345 : Int64) = lN 12345 from rfl, lN_mul, lN_add, z_and31]
  rfl
theorem z_next {k : Nat} (h : k < 2147483648) : (1103515245 * (nI k).toInt64 + 12345 &&& 2147483647).toInt32 = nI (zNx k) := by
  rw [nI_l h, z_nextL, lN_i]
theorem zNx_lt (k : Nat) : zNx k < 2147483648 := Nat.mod_lt _ (by decide)
/-- a father's ways -/
def zBr (k : Nat) (st i : Int32) : Int32 := if k = 4 then st + 2 else if k = 1 then (if 3 < i then st else st + 2) else st
def zHv (kn fl ft : Int32) : Int32 := if zKn kn fl = true then ft + 2 else ft
def zKp (kn fl : Int32) : Int32 := kn ||| (1 <<< (fl &&& 31))
def zGn (k : Nat) (st i hv : Int32) : Int32 := if k = 2 then 0 else if hv ≤ zBr k st i then hv else 0
def zFe (k : Nat) (st i hv : Int32) : Int32 := if k = 2 then 0 else if hv ≤ zBr k st i then 0 else 1
def zMo (k : Nat) (st i hv : Int32) : Int32 := if k = 2 then 2 else if hv ≤ zBr k st i then (if k = 3 then 1 else -1) else 1
/-- within 0 and 9 -/
def zCl (v : Int32) : Int32 := if 9 < v then 9 else if v < 0 then 0 else v
theorem zCl_mm (v : Int32) : (if 0 < (if v < 9 then v else 9) then (if v < 9 then v else 9) else 0) = zCl v := by
  unfold zCl
  simp only [Int32.lt_iff_toInt_lt]
  have e9 : (9 : Int32).toInt = 9 := rfl
  have e0 : (0 : Int32).toInt = 0 := rfl
  rw [e9, e0]
  by_cases h1 : v.toInt < 9
  · rw [if_pos h1, if_neg (show ¬ (9 : Int) < v.toInt by omega)]
    by_cases h2 : (0 : Int) < v.toInt
    · rw [if_pos h2, if_neg (by omega)]
    · rw [if_neg h2]
      by_cases h3 : v.toInt < 0
      · rw [if_pos h3]
      · rw [if_neg h3]
        exact (Int32.toInt_inj.mp (by rw [e0]; omega)).symm
  · rw [if_neg h1, e9, if_pos (by decide)]
    by_cases h2 : (9 : Int) < v.toInt
    · rw [if_pos h2]
    · rw [if_neg h2, if_neg (by omega)]
      exact (Int32.toInt_inj.mp (by rw [e9]; omega)).symm
/-- the fathers: kinds, flaws, strengths -/
abbrev zF : Type := (Nat → Nat) × (Nat → Int32) × (Nat → Int32)
def zHw (F : zF) (w : Int32) (q : Int32 × Int32) : Int32 := if w = -1 then 0 else zHv q.2 (F.2.1 w.toNatClampNeg) q.1
def zKw (F : zF) (w : Int32) (q : Int32 × Int32) : Int32 := if w = -1 then q.2 else zKp q.2 (F.2.1 w.toNatClampNeg)
def zGw (F : zF) (w i : Int32) (q : Int32 × Int32) : Int32 := if w = -1 then 0 else zGn (F.1 w.toNatClampNeg) (F.2.2 w.toNatClampNeg) i (zHw F w q)
def zEw (F : zF) (w i : Int32) (q : Int32 × Int32) : Int32 := if w = -1 then 0 else zFe (F.1 w.toNatClampNeg) (F.2.2 w.toNatClampNeg) i (zHw F w q)
def zMw (F : zF) (w i : Int32) (q : Int32 × Int32) : Int32 := if w = -1 then 2 else zMo (F.1 w.toNatClampNeg) (F.2.2 w.toNatClampNeg) i (zHw F w q)
/-- a day by the rota r, from fit ft, known kn: how fit, what is known ahead of a shift -/
def zD (F : zF) (r : Nat → Int32) (ft kn : Int32) : Nat → Int32 × Int32
  | 0 => (ft, kn)
  | s + 1 => (zCl ((zD F r ft kn s).1 + zMw F (r s) (nI s) (zD F r ft kn s)), zKw F (r s) (zD F r ft kn s))
def zDf (F : zF) (r : Nat → Int32) (ft kn : Int32) (s : Nat) : Int32 := (zD F r ft kn s).1
def zDk (F : zF) (r : Nat → Int32) (ft kn : Int32) (s : Nat) : Int32 := (zD F r ft kn s).2
def zDh (F : zF) (r : Nat → Int32) (ft kn : Int32) (s : Nat) : Int32 := zHw F (r s) (zD F r ft kn s)
def zDg (F : zF) (r : Nat → Int32) (ft kn : Int32) (s : Nat) : Int32 := zGw F (r s) (nI s) (zD F r ft kn s)
def zDe (F : zF) (r : Nat → Int32) (ft kn : Int32) (s : Nat) : Int32 := zEw F (r s) (nI s) (zD F r ft kn s)
/-- the fathers' row, and where they lie -/
def zG (n : Nat) (B : Nat → Nat) : Nat → Option Nat := fun f => if f < n then some (B f) else none
def zPo (n : Nat) (B : Nat → Nat) (F : zF) : va_W := (List.range n).map (fun f => (B f, zO (F.1 f) (F.2.1 f) (F.2.2 f)))
theorem zPo_mem {n f : Nat} {B : Nat → Nat} {F : zF} (h : f < n) : (B f, zO (F.1 f) (F.2.1 f) (F.2.2 f)) ∈ zPo n B F := List.mem_map.mpr ⟨f, List.mem_range.mpr h, rfl⟩
theorem zG_s {n f : Nat} {B : Nat → Nat} (h : f < n) : zG n B f = some (B f) := if_pos h
theorem zG_n {n f : Nat} {B : Nat → Nat} (h : ¬ f < n) : zG n B f = none := if_neg h
/-- a rota of nobody (-1) and of fathers -/
def zRo (n : Nat) (r : Nat → Int32) : Prop := ∀ j, j < 8 → r j = -1 ∨ ∃ f, f < n ∧ r j = nI f
theorem zSum_0 {g : Nat → Int32} {k : Nat} (h : 0 = g k) : zSum g k = zSum g (k + 1) := by
  show _ = zSum g k + g k
  rw [← h, Int32.add_zero]
section ZDL
variable {F : zF} {r : Nat → Int32} {ft kn : Int32} {k f : Nat}
theorem zDk_n (h : r k = -1) : zDk F r ft kn k = zDk F r ft kn (k + 1) := by
  show _ = zKw F (r k) (zD F r ft kn k)
  rw [h, zKw, if_pos rfl]
  rfl
theorem zDh_n (h : r k = -1) : 0 = zDh F r ft kn k := by
  show _ = zHw F (r k) (zD F r ft kn k)
  rw [h, zHw, if_pos rfl]
theorem zDg_n (h : r k = -1) : 0 = zDg F r ft kn k := by
  show _ = zGw F (r k) (nI k) (zD F r ft kn k)
  rw [h, zGw, if_pos rfl]
theorem zDe_n (h : r k = -1) : 0 = zDe F r ft kn k := by
  show _ = zEw F (r k) (nI k) (zD F r ft kn k)
  rw [h, zEw, if_pos rfl]
theorem zDf_n (h : r k = -1) : zCl (zDf F r ft kn k + 2) = zDf F r ft kn (k + 1) := by
  show _ = zCl ((zD F r ft kn k).1 + zMw F (r k) (nI k) (zD F r ft kn k))
  rw [h, zMw, if_pos rfl]
  rfl
theorem nI_nm1 (hf : f < 2147483648) : ¬ nI f = -1 := fun h => by
  have h1 : ¬ nI f < 0 := nI_pos hf
  rw [h] at h1
  exact h1 (by decide)
theorem zHw_f {q : Int32 × Int32} (hf : f < 2147483648) : zHw F (nI f) q = zHv q.2 (F.2.1 f) q.1 := by
  rw [zHw, if_neg (nI_nm1 hf), nI_clamp hf]
theorem zDk_f (h : r k = nI f) (hf : f < 2147483648) : zKp (zDk F r ft kn k) (F.2.1 f) = zDk F r ft kn (k + 1) := by
  show _ = zKw F (r k) (zD F r ft kn k)
  rw [h, zKw, if_neg (nI_nm1 hf), nI_clamp hf]
  rfl
theorem zDh_f (h : r k = nI f) (hf : f < 2147483648) : zHv (zDk F r ft kn k) (F.2.1 f) (zDf F r ft kn k) = zDh F r ft kn k := by
  show _ = zHw F (r k) (zD F r ft kn k)
  rw [h, zHw_f hf]
  rfl
theorem zDg_f (h : r k = nI f) (hf : f < 2147483648) : zGn (F.1 f) (F.2.2 f) (nI k) (zHv (zDk F r ft kn k) (F.2.1 f) (zDf F r ft kn k)) = zDg F r ft kn k := by
  show _ = zGw F (r k) (nI k) (zD F r ft kn k)
  rw [h, zGw, if_neg (nI_nm1 hf), nI_clamp hf, zHw_f hf]
  rfl
theorem zDe_f (h : r k = nI f) (hf : f < 2147483648) : zFe (F.1 f) (F.2.2 f) (nI k) (zHv (zDk F r ft kn k) (F.2.1 f) (zDf F r ft kn k)) = zDe F r ft kn k := by
  show _ = zEw F (r k) (nI k) (zD F r ft kn k)
  rw [h, zEw, if_neg (nI_nm1 hf), nI_clamp hf, zHw_f hf]
  rfl
theorem zDf_f (h : r k = nI f) (hf : f < 2147483648) : zCl (zDf F r ft kn k + zMo (F.1 f) (F.2.2 f) (nI k) (zHv (zDk F r ft kn k) (F.2.1 f) (zDf F r ft kn k))) = zDf F r ft kn (k + 1) := by
  show _ = zCl ((zD F r ft kn k).1 + zMw F (r k) (nI k) (zD F r ft kn k))
  rw [h, zMw, if_neg (nI_nm1 hf), nI_clamp hf, zHw_f hf]
  rfl
end ZDL
