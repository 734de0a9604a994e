/-! WHO AND LOOK, BY THE REFERENCE: the day of each man at a shift -/
def zNm (n k : Nat) : Int32 := if k = n then -1 else nI k
def zR1 (r : Nat → Int32) (s1 n k : Nat) : Nat → Int32 := upd r s1 (zNm n k)
def zFt (F : zF) (r : Nat → Int32) (s1 n : Nat) (ft kn : Int32) (j : Nat) : Int32 := zDf F (zR1 r s1 n (j / 9)) ft kn (j % 9)
theorem zR1_u {r u : Nat → Int32} {s1 n k : Nat} {x : Int32} (h : ∀ j, j ≠ s1 → u j = r j) (hx : x = zNm n k) (j : Nat) : upd u s1 x j = zR1 r s1 n k j := by
  subst hx
  unfold zR1 upd
  by_cases e : j = s1
  · rw [if_pos e, if_pos e]
  · rw [if_neg e, if_neg e, h j e]
theorem zR1_ne {r : Nat → Int32} {s1 n k : Nat} (j : Nat) (hj : j ≠ s1) : zR1 r s1 n k j = r j := if_neg hj
theorem zR1_b {r u : Nat → Int32} {s1 : Nat} (h : ∀ j, j ≠ s1 → u j = r j) (j : Nat) : upd u s1 (r s1) j = r j := by
  unfold upd
  by_cases e : j = s1
  · rw [if_pos e, e]
  · rw [if_neg e, h j e]
theorem zFt_9 {F : zF} {r : Nat → Int32} {s1 n k i : Nat} {ft kn : Int32} (h : i < 9) : zDf F (zR1 r s1 n k) ft kn i = zFt F r s1 n ft kn (9 * k + i) := by
  unfold zFt
  rw [Nat.mul_add_div (by decide), Nat.mul_add_mod, Nat.div_eq_of_lt h, Nat.mod_eq_of_lt h, Nat.add_zero]
/-- the same man, counted as the class counts him -/
def zPn (n k : Nat) : Nat := if k = n then 0 else k + 1
theorem zNm_w (n k : Nat) : zNm n k = zWh (zPn n k) := by
  unfold zNm zPn
  by_cases h : k = n
  · rw [if_pos h, if_pos h]; rfl
  · rw [if_neg h, if_neg h]; rfl
theorem zPn_le {n k : Nat} (hk : k ≤ n) : zPn n k ≤ n := by
  unfold zPn
  by_cases h : k = n
  · rw [if_pos h]; exact Nat.zero_le _
  · rw [if_neg h]; omega
theorem zR1_ro {n s k : Nat} {r : Nat → Int32} (h : zRo n r) (hk : k ≤ n) : zRo n (zR1 r s n k) := by
  unfold zR1
  rw [zNm_w]
  exact zRo_up h (zPn_le hk)
