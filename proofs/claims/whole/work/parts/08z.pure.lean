/-! THE REFERENCE: its object, and what its methods compute -/
abbrev mO (M : Nat → Nat) (ca nn ft kn dy fd ak pl iw nm fi nf nk : Int32) (sd : Int64) (ik kc kf kk kd ko : Int32) (hh : Int64) : va_E := .inr (9, [.int ca, .int nn, .ref (M 2), .ref (M 3), .ref (M 4), .ref (M 5), .ref (M 6), .ref (M 7), .int ft, .int kn, .int dy, .int fd, .ref (M 12), .ref (M 13), .int ak, .int pl, .ref (M 16), .int iw, .int nm, .ref (M 19), .ref (M 20), .ref (M 21), .ref (M 22), .int fi, .int nf, .int nk, .ref (M 26), .ref (M 27), .long sd, .int ik, .int kc, .int kf, .int kk, .int kd, .int ko, .ref (M 35), .ref (M 36), .ref (M 37), .ref (M 38), .ref (M 39), .long hh])
def zIi (v k : Int32) : Bool := decide ((v >>> (k &&& 31)) &&& 1 = 1)
set_option maxRecDepth 100000 in
theorem zIK : ∀ a, a < 64 → ∀ j, j < 6 → zIi (nI a) (nI j) = zKn (nI a) (nI j) := by decide +kernel
def zKb (v : Int32) : Prop := ∃ a, a < 64 ∧ v = nI a
def zFb1 (v : Int32) : Prop := ∃ j, j < 6 ∧ v = nI j
theorem zIk {v k : Int32} (hv : zKb v) (hk : zFb1 k) : zIi v k = zKn v k := by
  obtain ⟨a, ha, rfl⟩ := hv
  obtain ⟨j, hj, rfl⟩ := hk
  exact zIK a ha j hj
set_option maxRecDepth 100000 in
theorem zKpK : ∀ a, a < 64 → ∀ j, j < 6 → ∃ b, b < 64 ∧ zKp (nI a) (nI j) = nI b := by decide +kernel
theorem zKp_b {v k : Int32} (hv : zKb v) (hk : zFb1 k) : zKb (zKp v k) := by
  obtain ⟨a, ha, rfl⟩ := hv
  obtain ⟨j, hj, rfl⟩ := hk
  exact zKpK a ha j hj
/-- the fathers' kinds and flaws are such -/
def zFo (n : Nat) (F : zF) : Prop := ∀ f, f < n → F.1 f < 5 ∧ zFb1 (F.2.1 f)
theorem zDk_b {n : Nat} {F : zF} {r : Nat → Int32} {ft kn : Int32} (hn : n ≤ 4) (hF : zFo n F) (hro : zRo n r) (hk : zKb kn) : ∀ s, s ≤ 8 → zKb (zDk F r ft kn s) := by
  intro s
  induction s with
  | zero => intro _; exact hk
  | succ s ih =>
    intro hs
    rcases hro s (by omega) with hm | ⟨f, hf, hm⟩
    · rw [← zDk_n hm]; exact ih (by omega)
    · rw [← zDk_f hm (by omega)]; exact zKp_b (ih (by omega)) (hF f hf).2
section ZW
variable {F : zF} {f : Nat} {i : Int32} {q : Int32 × Int32}
theorem zKw_f (hf : f < 2147483648) : zKw F (nI f) q = zKp q.2 (F.2.1 f) := by rw [zKw, if_neg (nI_nm1 hf), nI_clamp hf]
theorem zGw_f (hf : f < 2147483648) : zGw F (nI f) i q = zGn (F.1 f) (F.2.2 f) i (zHv q.2 (F.2.1 f) q.1) := by rw [zGw, if_neg (nI_nm1 hf), nI_clamp hf, zHw_f hf]
theorem zEw_f (hf : f < 2147483648) : zEw F (nI f) i q = zFe (F.1 f) (F.2.2 f) i (zHv q.2 (F.2.1 f) q.1) := by rw [zEw, if_neg (nI_nm1 hf), nI_clamp hf, zHw_f hf]
theorem zMw_f (hf : f < 2147483648) : zMw F (nI f) i q = zMo (F.1 f) (F.2.2 f) i (zHv q.2 (F.2.1 f) q.1) := by rw [zMw, if_neg (nI_nm1 hf), nI_clamp hf, zHw_f hf]
end ZW
def zFi (fi e : Int32) (s : Nat) : Int32 := if e = 0 then fi else fi ||| (1 <<< (nI s &&& 31))
def zFb (F : zF) (r : Nat → Int32) (ft kn : Int32) : Nat → Int32
  | 0 => 0
  | k + 1 => zFi (zFb F r ft kn k) (zDe F r ft kn k) k
theorem z_uf {w x y : Int32} {ga : Nat → Int32} {f j : Nat} (hm : w = nI f) (hf : f < 4) (e : x = y) (hj : j < 4) : upd ga f (ga f + x) j = if w = nI j then ga j + y else ga j := by
  rw [hm]
  unfold upd
  by_cases h : j = f
  · rw [if_pos h, if_pos (by rw [h]), h, e]
  · rw [if_neg h, if_neg (fun q => h ((nI_eq (by omega) (by omega)).mp q).symm)]
theorem z_u0 {w y : Int32} {ga : Nat → Int32} {j : Nat} (e : 0 = y) : ga j = if w = nI j then ga j + y else ga j := by
  rw [← e, Int32.add_zero, ite_self]
theorem z_un {w y : Int32} {ga : Nat → Int32} {j : Nat} (hm : w = -1) (hj : j < 4) : ga j = if w = nI j then ga j + y else ga j := by
  rw [hm, if_neg (fun h => nI_nm1 (f := j) (by omega) h.symm)]
def zNt (k : Nat) : Int32 := nI k
def zSz (v : Int32) : Nat → Int32
  | 0 => 0
  | k + 1 => zSz v k + ((v >>> (nI k &&& 31)) &&& 1)
def zKy (c : Int32) : Int32 := if c = 97 then 4 else if c = 99 then 1 else if c = 102 then 0 else if c = 112 then 3 else if c = 115 then 2 else -1
theorem z_sub1 {x : Int32} : x - 1 = x + -1 := by rw [Int32.sub_eq_add_neg]
