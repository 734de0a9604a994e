/-! THE PAGE -/
def zCg (pg : Nat → Int32) : Nat → Nat
  | 0 => 0
  | n + 1 => if zCg pg n < n then zCg pg n else if pg n = 59 then n else n + 1
theorem zCg_le (pg : Nat → Int32) (n : Nat) : zCg pg n ≤ n := by
  induction n with
  | zero => exact Nat.le_refl _
  | succ n ih =>
    show (if zCg pg n < n then zCg pg n else if pg n = 59 then n else n + 1) ≤ n + 1
    split
    · omega
    · split <;> omega
theorem zCg_u {pg : Nat → Int32} {n : Nat} : ∀ {k : Nat}, k ≤ n → (∀ j, j < k → ¬ pg j = 59) → (k < n → pg k = 59) → zCg pg n = k := by
  induction n with
  | zero => intro k h1 _ _; exact (Nat.le_zero.mp h1).symm
  | succ n ih =>
    intro k h1 h2 h3
    show (if zCg pg n < n then zCg pg n else if pg n = 59 then n else n + 1) = k
    by_cases hk : k < n
    · rw [ih (by omega) h2 (fun _ => h3 (by omega)), if_pos hk]
    · have e := ih (k := n) (Nat.le_refl _) (fun j hj => h2 j (by omega)) (fun h => absurd h (Nat.lt_irrefl _))
      rw [e, if_neg (Nat.lt_irrefl _)]
      by_cases hk2 : k = n
      · rw [if_pos (by rw [← hk2]; exact h3 (by omega)), hk2]
      · rw [if_neg (h2 n (by omega))]; omega
theorem zCg_no {pg : Nat → Int32} {n j : Nat} (h : j < zCg pg n) : ¬ pg j = 59 := by
  induction n with
  | zero => exact absurd h (Nat.not_lt_zero _)
  | succ n ih =>
    have e : zCg pg (n + 1) = (if zCg pg n < n then zCg pg n else if pg n = 59 then n else n + 1) := rfl
    rw [e] at h
    by_cases h1 : zCg pg n < n
    · rw [if_pos h1] at h; exact ih h
    · have h4 := zCg_le pg n
      rw [if_neg h1] at h
      by_cases h2 : pg n = 59
      · rw [if_pos h2] at h; exact ih (by omega)
      · rw [if_neg h2] at h
        by_cases h3 : j = n
        · rw [h3]; exact h2
        · exact ih (by omega)
theorem zCg_at {pg : Nat → Int32} {n : Nat} (h : zCg pg n < n) : pg (zCg pg n) = 59 := by
  induction n with
  | zero => exact absurd h (Nat.not_lt_zero _)
  | succ n ih =>
    have e : zCg pg (n + 1) = (if zCg pg n < n then zCg pg n else if pg n = 59 then n else n + 1) := rfl
    by_cases h1 : zCg pg n < n
    · rw [e, if_pos h1]; exact ih h1
    · rw [e, if_neg h1] at h ⊢
      by_cases h2 : pg n = 59
      · rw [if_pos h2]; exact h2
      · rw [if_neg h2] at h; omega
def zKd (c : Int32) : Bool := decide (c = 102) || decide (c = 99) || decide (c = 115) || decide (c = 112) || decide (c = 97)
def zEf (c m : Int32) : Bool := if c = 59 then !decide (m < 2) else decide (c = 44) && !decide (4 ≤ m)
def zDg1 (pg : Nat → Int32) (j : Nat) : Int32 := zAt pg 18 (nI j) - 48
def zRt (pg : Nat → Int32) (cg j : Nat) : Bool :=
  if cg < j then decide (j = cg + 1) && zIn (zDg1 pg j) 0 9
  else if j % 4 = 0 then zKd (zAt pg 18 (nI j))
  else if j % 4 = 1 then zIn (zDg1 pg j) 0 5
  else if j % 4 = 2 then zIn (zDg1 pg j) 1 9
  else zEf (zAt pg 18 (nI j)) (nI (j / 4 + 1))
def zRl (pg : Nat → Int32) (cg : Nat) : Nat → Nat
  | 0 => 0
  | n + 1 => if zRl pg cg n < n then zRl pg cg n else if zRt pg cg n = true then n + 1 else n
theorem zRl_u {pg : Nat → Int32} {cg n : Nat} : ∀ {k : Nat}, k ≤ n → (∀ j, j < k → zRt pg cg j = true) → (k < n → ¬ zRt pg cg k = true) → zRl pg cg n = k := by
  induction n with
  | zero => intro k h1 _ _; exact (Nat.le_zero.mp h1).symm
  | succ n ih =>
    intro k h1 h2 h3
    show (if zRl pg cg n < n then zRl pg cg n else if zRt pg cg n = true then n + 1 else n) = k
    by_cases hk : k < n
    · rw [ih (by omega) h2 (fun _ => h3 (by omega)), if_pos hk]
    · have e := ih (k := n) (Nat.le_refl _) (fun j hj => h2 j (by omega)) (fun h => absurd h (Nat.lt_irrefl _))
      rw [e, if_neg (Nat.lt_irrefl _)]
      by_cases hk2 : k = n
      · rw [if_neg (by rw [← hk2]; exact h3 (by omega)), hk2]
      · rw [if_pos (h2 n (by omega))]; omega
def zWhole (pg : Nat → Int32) (ln : Nat) : Bool := decide (ln = zCg pg ln + 2) && decide (zRl pg (zCg pg ln) ln = ln)
def zKc (c : Int32) : Nat := if c = 97 then 4 else if c = 99 then 1 else if c = 112 then 3 else if c = 115 then 2 else 0
def zFm (a : Nat) : Nat := if 4 < a then 4 else a
theorem zRl_le (pg : Nat → Int32) (cg n : Nat) : zRl pg cg n ≤ n := by
  induction n with
  | zero => exact Nat.le_refl _
  | succ n ih =>
    show (if zRl pg cg n < n then zRl pg cg n else if zRt pg cg n = true then n + 1 else n) ≤ n + 1
    split
    · omega
    · split <;> omega
theorem zj4 {j m : Nat} (h : nI (j % 4) = nI m) (hm : m < 2147483648 := by decide) : j % 4 = m := (nI_eq (by omega) hm).mp h
theorem zFm_i {a : Nat} (h : a < 2147483648) : (if 4 < nI a then 4 else nI a) = nI (zFm a) := by
  have e : ((4 : Int32) < nI a) ↔ 4 < a := nI_zlt (a := 4) (by decide) h
  unfold zFm
  by_cases h4 : 4 < a
  · rw [if_pos h4, if_pos (e.mpr h4)]
    rfl
  · rw [if_neg h4, if_neg (fun q => h4 (e.mp q))]
