theorem zMq_kb {n : Nat} {F : zF} {sd : Nat} {ft kn : Int32} (hn : n ≤ 4) (hF : zFo n F) (hk : zKb kn) : ∀ k, zKb (zMq F n sd ft kn k).2.2.2 := by
  intro k
  induction k with
  | zero => exact hk
  | succ k ih => exact zDk_b hn hF (zDw_ro _ _) ih 8 (Nat.le_refl _)
theorem z_dr {q d : Nat} (hq : q < 2147483648) (hd : 0 < d) (hd2 : d < 2147483648) : (lN q / 65536 - lN q / 65536 / lN d * lN d).toInt32 = nI (q / 65536 % d) := by
  rw [show (65536 : Int64) = lN 65536 from rfl, pk_lDiv (by omega) (by decide) (by decide), pk_lRem (by omega) hd (by omega), lN_i]
def zSi2 (b : Bool) : Int32 := if b = true then 1 else 0
/-- the reference's count of swaps, by pairs -/
theorem zSc_def {F : zF} {r : Nat → Int32} {ft kn : Int32} {a b : Nat} (h : zSum (zDg F r ft kn) 8 < zSum (zDg F (upd (upd r a (r b)) b (r a)) ft kn) 8) : zSc F r ft kn a b = true := decide_eq_true h
theorem zSc_ndef {F : zF} {r : Nat → Int32} {ft kn : Int32} {a b : Nat} (h : ¬ zSum (zDg F r ft kn) 8 < zSum (zDg F (upd (upd r a (r b)) b (r a)) ft kn) 8) : zSc F r ft kn a b = false := decide_eq_false h
