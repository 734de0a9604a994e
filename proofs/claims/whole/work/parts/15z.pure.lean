theorem zWh_p (k : Nat) : nI k - 1 = zWh k := by
  cases k with
  | zero => rfl
  | succ k => exact nI_pred k
def zBq (F : zF) (r : Nat → Int32) (s1 n : Nat) (ft kn fi : Int32) : Nat → Int32
  | 0 => -1
  | c + 1 => if zWc F (zP3 r s1 n c) ft kn fi (zBs F r s1 n ft kn fi c).1 = true then nI c else zBq F r s1 n ft kn fi c
theorem zBq_c {F : zF} {r : Nat → Int32} {s1 n : Nat} {ft kn fi : Int32} : ∀ C, (zBq F r s1 n ft kn fi C = -1 ∧ (zBs F r s1 n ft kn fi C).1 = -1 ∧ ∀ i, (zBs F r s1 n ft kn fi C).2 i = -1) ∨ ∃ q, q < C ∧ zBq F r s1 n ft kn fi C = nI q ∧ ∀ i, (zBs F r s1 n ft kn fi C).2 i = zP3 r s1 n q (s1 + i) := by
  intro C
  induction C with
  | zero => exact Or.inl ⟨rfl, rfl, fun _ => rfl⟩
  | succ C ih =>
    have e1 : zBq F r s1 n ft kn fi (C + 1) = if zWc F (zP3 r s1 n C) ft kn fi (zBs F r s1 n ft kn fi C).1 = true then nI C else zBq F r s1 n ft kn fi C := rfl
    by_cases h : zWc F (zP3 r s1 n C) ft kn fi (zBs F r s1 n ft kn fi C).1 = true
    · refine Or.inr ⟨C, Nat.lt_succ_self _, by rw [e1, if_pos h], fun i => ?_⟩
      rw [← zBs_2, if_pos h]
    · rw [e1, if_neg h, ← zBs_1, if_neg h, ← zBs_2, if_neg h]
      rcases ih with ih | ⟨q, h1, h2, h3⟩
      · exact Or.inl ih
      · exact Or.inr ⟨q, by omega, h2, h3⟩
theorem zQ3_e3 {r u : Nat → Int32} {s1 : Nat} {x y z : Int32} (h : zQ3 r u s1) (j : Nat) : upd (upd (upd u s1 x) (s1 + 1) y) (s1 + 2) z j = upd (upd (upd r s1 x) (s1 + 1) y) (s1 + 2) z j := by
  unfold upd
  by_cases h2 : j = s1 + 2
  · rw [if_pos h2, if_pos h2]
  · rw [if_neg h2, if_neg h2]
    by_cases h1 : j = s1 + 1
    · rw [if_pos h1, if_pos h1]
    · rw [if_neg h1, if_neg h1]
      by_cases h0 : j = s1
      · rw [if_pos h0, if_pos h0]
      · rw [if_neg h0, if_neg h0]; exact h j h0 h1 h2
theorem zP3_0 {r : Nat → Int32} {s1 n c : Nat} : zP3 r s1 n c (s1 + 0) = zWh (c / ((n + 1) * (n + 1))) := by
  unfold zP3
  rw [pk_un (by omega), pk_un (by omega)]
  exact pk_us
theorem zP3_1 {r : Nat → Int32} {s1 n c : Nat} : zP3 r s1 n c (s1 + 1) = zWh (c / (n + 1) % (n + 1)) := by
  unfold zP3
  rw [pk_un (by omega), pk_us]
theorem zP3_2 {r : Nat → Int32} {s1 n c : Nat} : zP3 r s1 n c (s1 + 2) = zWh (c % (n + 1)) := by
  unfold zP3
  rw [pk_us]
theorem zC3_b {n : Nat} (h : n ≤ 4) : (n + 1) * (n + 1) * (n + 1) ≤ 125 ∧ (n + 1) * (n + 1) ≤ 25 := by
  rcases (show n = 0 ∨ n = 1 ∨ n = 2 ∨ n = 3 ∨ n = 4 by omega) with rfl | rfl | rfl | rfl | rfl <;> decide
theorem z_w12 {w : Int32} (h : zIn w 10 12 = true) (h0 : ¬ w = 10) (h1 : ¬ w = 11) : w = 12 := by
  have a0 : ¬ w < 10 := fun q => by rw [zIn_lo q] at h; exact absurd h (by decide)
  have a1 : ¬ 12 < w := fun q => by rw [zIn_hi q] at h; exact absurd h (by decide)
  rw [Int32.lt_iff_toInt_lt] at a0 a1
  have e10 : (10 : Int32).toInt = 10 := rfl
  have e11 : (11 : Int32).toInt = 11 := rfl
  have e12 : (12 : Int32).toInt = 12 := rfl
  have b0 : ¬ w.toInt = 10 := fun q => h0 (Int32.toInt_inj.mp (by rw [q]; rfl))
  have b1 : ¬ w.toInt = 11 := fun q => h1 (Int32.toInt_inj.mp (by rw [q]; rfl))
  exact Int32.toInt_inj.mp (by omega)
