/-! WHAT THE METHODS OVER A DAY COMPUTE -/
def zBits (r : Nat → Int32) (w : Int32) : Nat → Int32
  | 0 => 0
  | k + 1 => if r k = w then zBits r w k ||| (1 <<< (nI k &&& 31)) else zBits r w k
def zGs (g r : Nat → Int32) (w : Int32) : Nat → Int32
  | 0 => 0
  | k + 1 => if r k = w then zGs g r w k + g k else zGs g r w k
/-- who stands at place k of 'nobody, 0, 1, ..' -/
def zWh : Nat → Int32
  | 0 => -1
  | k + 1 => nI k
theorem zWh_s (k : Nat) : zWh k + 1 = zWh (k + 1) := by
  cases k with
  | zero => rfl
  | succ k => exact (nI_succ k).symm
theorem zWh_toInt {k : Nat} (h : k < 2147483648) : (zWh k).toInt = (k : Int) - 1 := by
  cases k with
  | zero => rfl
  | succ k =>
    show (nI k).toInt = _
    rw [nI_toInt (by omega)]
    omega
theorem zWh_ge {n k : Nat} (hn : n < 2147483647) (hk : k < 2147483648) : nI n ≤ zWh k ↔ n + 1 ≤ k := by
  rw [Int32.le_iff_toInt_le, nI_toInt (by omega), zWh_toInt hk]
  omega
theorem zWh_inj {j k : Nat} (hj : j < 2147483648) (hk : k < 2147483648) (h : zWh j = zWh k) : j = k := by
  have h1 := zWh_toInt hj
  rw [h, zWh_toInt hk] at h1
  omega
/-- what is found is so -/
def zOk (d fs ff : Nat → Int32) : Nat → Bool
  | 0 => true
  | k + 1 => zOk d fs ff k && decide (zAt d 9 (fs k) = ff k)
theorem zOk_false {d fs ff : Nat → Int32} {k : Nat} (h : ¬ zAt d 9 (fs k) = ff k) : ∀ n, k < n → zOk d fs ff n = false := by
  intro n
  induction n with
  | zero => intro h; omega
  | succ n ih =>
    intro hk
    show (zOk d fs ff n && decide (zAt d 9 (fs n) = ff n)) = false
    rcases Nat.lt_succ_iff_lt_or_eq.mp hk with h1 | h1
    · rw [ih h1]; rfl
    · subst h1
      rw [decide_eq_false h, Bool.and_false]
theorem zOk_true {d fs ff : Nat → Int32} {k : Nat} (h0 : zOk d fs ff k = true) (h : zAt d 9 (fs k) = ff k) : zOk d fs ff (k + 1) = true := by
  show (zOk d fs ff k && decide (zAt d 9 (fs k) = ff k)) = true
  rw [h0, decide_eq_true h]
  rfl
def zPk (r : Nat → Int32) (s : Nat) : Nat → (Nat → Int32)
  | 0 => r
  | k + 1 => upd r s (zWh k)
theorem zPk_s (r : Nat → Int32) (s k : Nat) : upd (zPk r s k) s (zWh k) = zPk r s (k + 1) := by
  cases k with
  | zero => rfl
  | succ k =>
    funext j
    show upd (upd r s (zWh k)) s (zWh (k + 1)) j = upd r s (zWh (k + 1)) j
    unfold upd
    by_cases h : j = s
    · rw [if_pos h, if_pos h]
    · rw [if_neg h, if_neg h, if_neg h]
/-- WHO, as bits, over the first k of 'nobody, 0, 1, ..' -/
def zWb (ok : Nat → Bool) : Nat → Int32
  | 0 => 0
  | k + 1 => if ok k = true then zWb ok k ||| (if k = 0 then (16 : Int32) else 1 <<< (zWh k &&& 31)) else zWb ok k
def zAny (ok : Nat → Bool) : Nat → Bool
  | 0 => false
  | k + 1 => zAny ok k || ok k
/-- the tally: one more for the fit of each place of a day -/
def zTt (d t : Nat → Int32) : Nat → (Nat → Int32)
  | 0 => t
  | p + 1 => zPut (zTt d t p) 90 (nI p * 10 + d p) (zAt (zTt d t p) 90 (nI p * 10 + d p) + 1)
def zTl (ok : Nat → Bool) (d : Nat → Nat → Int32) : Nat → (Nat → Int32)
  | 0 => fun _ => 0
  | k + 1 => if ok k = true then zTt (d k) (zTl ok d k) 9 else zTl ok d k
def zMx (a b : Int32) : Int32 := if a < b then b else a
def zWo (t : Nat → Int32) (p : Nat) : Nat → Int32
  | 0 => 0
  | v + 1 => zMx (zWo t p v) (zAt t 90 (nI p * 10 + nI v))
def zLs (t : Nat → Int32) : Nat → Int32 × Int32
  | 0 => (-1, 6)
  | p + 1 => if zWo t p 10 < (zLs t p).2 then (nI p, zWo t p 10) else zLs t p
/-- draws -/
def zSd (k : Nat) : Nat → Nat
  | 0 => k
  | s + 1 => zNx (zSd k s)
theorem zSd_lt {k : Nat} (hk : k < 2147483648) (s : Nat) : zSd k s < 2147483648 := by
  cases s with
  | zero => exact hk
  | succ s => exact zNx_lt _
def zDw (n k s : Nat) : Int32 := if zSd k (s + 1) / 65536 % (n + 1) = n then -1 else nI (zSd k (s + 1) / 65536 % (n + 1))
theorem upd_back {p : Nat → Int32} {a b : Nat} {x y : Int32} (ha : x = p a) (hb : y = p b) (j : Nat) : upd (upd (upd (upd p a y) b x) a x) b y j = p j := by
  unfold upd
  by_cases h1 : j = b
  · rw [if_pos h1, h1, hb]
  · rw [if_neg h1]
    by_cases h2 : j = a
    · rw [if_pos h2, h2, ha]
    · rw [if_neg h2, if_neg h1, if_neg h2]
theorem nI_zlt {a b : Nat} (ha : a < 2147483648) (hb : b < 2147483648) : nI a < nI b ↔ a < b := nI_ltI ha hb
/-- bounds of a day -/
theorem nI_lit (a : Nat) (h : a ≤ 9) : a < 2147483648 := by omega
theorem zCl_b (v : Int32) : ∃ j, j ≤ 9 ∧ zCl v = nI j := by
  unfold zCl
  by_cases h : 9 < v
  · exact ⟨9, Nat.le_refl _, by rw [if_pos h]; rfl⟩
  · rw [if_neg h]
    by_cases h2 : v < 0
    · exact ⟨0, by decide, by rw [if_pos h2]; rfl⟩
    · rw [if_neg h2]
      obtain ⟨j, hj, rfl⟩ := nI_of2 (M := 9) (n := 9) rfl h2 (Int32.not_lt.mp h)
      exact ⟨j, hj, rfl⟩
theorem zDf_b {F : zF} {r : Nat → Int32} {ft kn : Int32} (h : ∃ j, j ≤ 9 ∧ ft = nI j) (s : Nat) : ∃ j, j ≤ 9 ∧ zDf F r ft kn s = nI j := by
  cases s with
  | zero => exact h
  | succ s => exact zCl_b _
