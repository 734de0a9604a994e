theorem zBs_1 {F : zF} {r : Nat → Int32} {s1 n : Nat} {ft kn fi : Int32} {c : Nat} : (if zWc F (zP3 r s1 n c) ft kn fi (zBs F r s1 n ft kn fi c).1 = true then zSum (zDg F (zP3 r s1 n c) ft kn) 8 else (zBs F r s1 n ft kn fi c).1) = (zBs F r s1 n ft kn fi (c + 1)).1 := by
  have e : zBs F r s1 n ft kn fi (c + 1) = if zWc F (zP3 r s1 n c) ft kn fi (zBs F r s1 n ft kn fi c).1 = true then (zSum (zDg F (zP3 r s1 n c) ft kn) 8, fun i => zP3 r s1 n c (s1 + i)) else zBs F r s1 n ft kn fi c := rfl
  rw [e]
  by_cases h : zWc F (zP3 r s1 n c) ft kn fi (zBs F r s1 n ft kn fi c).1 = true
  · rw [if_pos h, if_pos h]
  · rw [if_neg h, if_neg h]
theorem zBs_2 {F : zF} {r : Nat → Int32} {s1 n : Nat} {ft kn fi : Int32} {c : Nat} : (if zWc F (zP3 r s1 n c) ft kn fi (zBs F r s1 n ft kn fi c).1 = true then (fun i => zP3 r s1 n c (s1 + i)) else (zBs F r s1 n ft kn fi c).2) = (zBs F r s1 n ft kn fi (c + 1)).2 := by
  have e : zBs F r s1 n ft kn fi (c + 1) = if zWc F (zP3 r s1 n c) ft kn fi (zBs F r s1 n ft kn fi c).1 = true then (zSum (zDg F (zP3 r s1 n c) ft kn) 8, fun i => zP3 r s1 n c (s1 + i)) else zBs F r s1 n ft kn fi c := rfl
  rw [e]
  by_cases h : zWc F (zP3 r s1 n c) ft kn fi (zBs F r s1 n ft kn fi c).1 = true
  · rw [if_pos h, if_pos h]
  · rw [if_neg h, if_neg h]
theorem zQ3_0 {r u : Nat → Int32} {s1 i : Nat} {x : Int32} (h : zQ3 r u s1) (hi : i = s1 ∨ i = s1 + 1 ∨ i = s1 + 2) : zQ3 r (upd u i x) s1 := fun j h0 h1 h2 => by
  rw [pk_un (by omega)]
  exact h j h0 h1 h2
theorem zP3_q {r : Nat → Int32} {s1 n c : Nat} : zQ3 r (zP3 r s1 n c) s1 := zQ3_0 (zQ3_0 (zQ3_0 (fun _ _ _ _ => rfl) (Or.inl rfl)) (Or.inr (Or.inl rfl))) (Or.inr (Or.inr rfl))
theorem zP3_a {r u : Nat → Int32} {s1 n a b t : Nat} (h : zQ3 r u s1) (ha : u s1 = zWh a) (hb : u (s1 + 1) = zWh b) (hb2 : b ≤ n) (ht : t ≤ n) : zP3 r s1 n ((a * (n + 1) + b) * (n + 1) + t) s1 = zWh a := by
  rw [← zQ3_e h ha hb hb2 ht, pk_un (by omega), ha]
theorem zP3_b {r u : Nat → Int32} {s1 n a b t : Nat} (h : zQ3 r u s1) (ha : u s1 = zWh a) (hb : u (s1 + 1) = zWh b) (hb2 : b ≤ n) (ht : t ≤ n) : zP3 r s1 n ((a * (n + 1) + b) * (n + 1) + t) (s1 + 1) = zWh b := by
  rw [← zQ3_e h ha hb hb2 ht, pk_un (by omega), hb]
theorem zIx_lt {n a b t : Nat} (ha : a ≤ n) (hb : b ≤ n) (ht : t ≤ n) : (a * (n + 1) + b) * (n + 1) + t < (n + 1) * (n + 1) * (n + 1) := by
  have h1 : a * (n + 1) + b + 1 ≤ (n + 1) * (n + 1) := by
    have := Nat.mul_le_mul_right (n + 1) ha
    rw [Nat.succ_mul n (n + 1)]
    omega
  have h2 := Nat.mul_le_mul_right (n + 1) h1
  rw [Nat.succ_mul] at h2
  omega
theorem zIx_b {n a b : Nat} : (a * (n + 1) + b) * (n + 1) + (n + 1) = (a * (n + 1) + (b + 1)) * (n + 1) := (Nat.succ_mul (a * (n + 1) + b) (n + 1)).symm
theorem zIx_a {n a : Nat} : (a * (n + 1) + (n + 1)) * (n + 1) = (a + 1) * (n + 1) * (n + 1) := by rw [Nat.succ_mul a (n + 1)]
def zBk (n : Nat) (s fi w : Int32) : Bool := decide (0 < n) && zIn s 0 5 && (zIn fi 0 9 && (decide (w = 0) || zIn w 10 12))
def zBd (n bd : Nat) (s fi w : Int32) : Nat := if (zBk n s fi w && decide (bd < 30)) = true then bd + 1 else bd
def zBa (F : zF) (r : Nat → Int32) (n : Nat) (ft kn s fi w : Int32) : Int32 := if w = 0 then (zBs F r s.toNatClampNeg n ft kn fi ((n + 1) * (n + 1) * (n + 1))).1 else (zBs F r s.toNatClampNeg n ft kn fi ((n + 1) * (n + 1) * (n + 1))).2 (w - 10).toNatClampNeg
def zBe (F : zF) (r : Nat → Int32) (n bd : Nat) (ft kn s fi w : Int32) : Int32 := if (decide (0 < n) && zIn s 0 5) = true then (if (zIn fi 0 9 && (decide (w = 0) || zIn w 10 12)) = true then (if bd < 30 then zBa F r n ft kn s fi w else -103) else -102) else -101
theorem z_s5 {s : Int32} (h0 : ¬ s < 0) (h1 : s ≤ 5) : ∃ j, j < 6 ∧ s = nI j := by
  obtain ⟨j, hj, rfl⟩ := nI_of2 (M := 5) (n := 5) rfl h0 h1
  exact ⟨j, by omega, rfl⟩
theorem z_w10 {w : Int32} (h0 : ¬ w < 10) (h1 : w < 13) : ∃ j, j < 3 ∧ w - 10 = nI j ∧ zIn w 10 12 = true := by
  rw [Int32.lt_iff_toInt_lt] at h0 h1
  have e10 : (10 : Int32).toInt = 10 := rfl
  have e13 : (13 : Int32).toInt = 13 := rfl
  have e12 : (12 : Int32).toInt = 12 := rfl
  refine ⟨w.toInt.toNat - 10, by omega, ?_, ?_⟩
  · have hw : w = nI w.toInt.toNat := Int32.toInt_inj.mp (by rw [nI_toInt (by omega)]; omega)
    have e : w - 10 = nI w.toInt.toNat - nI 10 := by rw [← hw]; rfl
    rw [e, pk_sub (by omega)]
  · exact zIn_ok (by rw [Int32.lt_iff_toInt_lt]; omega) (by rw [Int32.le_iff_toInt_le]; omega)
theorem z_w10f {w : Int32} (h : w < 10 ∨ ¬ w < 13) : zIn w 10 12 = false := by
  rcases h with h | h
  · exact zIn_lo h
  · refine zIn_hi ?_
    rw [Int32.lt_iff_toInt_lt] at h ⊢
    have e13 : (13 : Int32).toInt = 13 := rfl
    have e12 : (12 : Int32).toInt = 12 := rfl
    omega
/-- merit is not below 0 -/
theorem zDg_b {F : zF} {r : Nat → Int32} {ft kn : Int32} (h : ∃ j, j ≤ 9 ∧ ft = nI j) (s : Nat) : ∃ m, m ≤ 11 ∧ zDg F r ft kn s = nI m := by
  have hz : ∃ m, m ≤ 11 ∧ (0 : Int32) = nI m := ⟨0, by decide, rfl⟩
  show ∃ m, m ≤ 11 ∧ zGw F (r s) (nI s) (zD F r ft kn s) = nI m
  unfold zGw
  by_cases h1 : r s = -1
  · rw [if_pos h1]; exact hz
  · rw [if_neg h1]
    unfold zGn
    split
    · exact hz
    · split
      · rw [zHw, if_neg h1]
        obtain ⟨j, hj, e⟩ := zDf_b (F := F) (r := r) (kn := kn) h s
        have e : (zD F r ft kn s).1 = nI j := e
        unfold zHv
        rw [e]
        split
        · exact ⟨j + 2, by omega, nI_add j 2⟩
        · exact ⟨j, by omega, rfl⟩
      · exact hz
theorem zSg_b {F : zF} {r : Nat → Int32} {ft kn : Int32} (h : ∃ j, j ≤ 9 ∧ ft = nI j) : ∀ k, ∃ m, m ≤ 11 * k ∧ zSum (zDg F r ft kn) k = nI m := by
  intro k
  induction k with
  | zero => exact ⟨0, Nat.le_refl _, rfl⟩
  | succ k ih =>
    obtain ⟨m, hm, e⟩ := ih
    obtain ⟨x, hx, ex⟩ := zDg_b (F := F) (r := r) (kn := kn) h k
    exact ⟨m + x, by omega, by show zSum _ k + _ = _; rw [e, ex, nI_add]⟩
theorem zSw_same {r : Nat → Int32} {a b : Nat} (h : r a = r b) : upd (upd r a (r b)) b (r a) = r := by
  funext j
  unfold upd
  by_cases h1 : j = b
  · rw [if_pos h1, h1, h]
  · rw [if_neg h1]
    by_cases h2 : j = a
    · rw [if_pos h2, h2, h]
    · rw [if_neg h2]
theorem zSw_f {F : zF} {r : Nat → Int32} {ft kn : Int32} {a b : Nat} (h : (if r a = r b then -1 else zSum (zDg F (upd (upd r a (r b)) b (r a)) ft kn) 8) ≤ zSum (zDg F r ft kn) 8) : zSc F r ft kn a b = false := by
  unfold zSc
  by_cases e : r a = r b
  · rw [zSw_same e]
    exact decide_eq_false (fun h => Int32.lt_irrefl h)
  · rw [if_neg e] at h
    exact decide_eq_false (Int32.not_lt.mpr h)
theorem zSw_t {F : zF} {r : Nat → Int32} {ft kn : Int32} {a b : Nat} (hft : ∃ j, j ≤ 9 ∧ ft = nI j) (h : ¬ (if r a = r b then -1 else zSum (zDg F (upd (upd r a (r b)) b (r a)) ft kn) 8) ≤ zSum (zDg F r ft kn) 8) : zSc F r ft kn a b = true := by
  unfold zSc
  by_cases e : r a = r b
  · exfalso
    rw [if_pos e] at h
    obtain ⟨m, hm, em⟩ := zSg_b (F := F) (r := r) (kn := kn) hft 8
    rw [em] at h
    apply h
    rw [Int32.le_iff_toInt_le, nI_toInt (by omega)]
    have : (-1 : Int32).toInt = -1 := rfl
    omega
  · rw [if_neg e] at h
    exact decide_eq_true (Int32.not_le.mp h)
def zMk (d sd w : Int32) : Bool := zIn d 1 30 && !decide (sd < 0) && zIn w 0 2
def zMa (F : zF) (n : Nat) (ft kn d sd w : Int32) : Int32 := if zMk d sd w = true then (if 0 < n then (if w = 0 then (zMq F n sd.toNatClampNeg ft kn d.toNatClampNeg).1 else if w = 1 then (zMq F n sd.toNatClampNeg ft kn d.toNatClampNeg).2.1 else nI (zMd sd.toNatClampNeg d.toNatClampNeg)) else -103) else -102
theorem z_d30 {d : Int32} (h0 : ¬ d < 1) (h1 : ¬ 30 < d) : ∃ j, j ≤ 30 ∧ d = nI j := nI_of2 (M := 30) (n := 30) rfl (fun q => h0 (by
  rw [Int32.lt_iff_toInt_lt] at q ⊢
  have e0 : (0 : Int32).toInt = 0 := rfl
  have e1 : (1 : Int32).toInt = 1 := rfl
  omega)) (Int32.not_lt.mp h1)
theorem zMk_ok {d sd w : Int32} (h0 : ¬ d < 1) (h1 : ¬ 30 < d) (h2 : ¬ sd < 0) (h3 : ¬ w < 0) (h4 : w ≤ 2) : zMk d sd w = true := by
  rw [zMk, zIn_ok h0 (Int32.not_lt.mp h1), decide_eq_false h2, zIn_ok h3 h4]
  rfl
theorem zMk_1 {d sd w : Int32} (h : d < 1) : ¬ zMk d sd w = true := by rw [zMk, zIn_lo h, Bool.false_and, Bool.false_and]; decide
theorem zMk_2 {d sd w : Int32} (h : 30 < d) : ¬ zMk d sd w = true := by rw [zMk, zIn_hi h, Bool.false_and, Bool.false_and]; decide
theorem zMk_3 {d sd w : Int32} (h : sd < 0) : ¬ zMk d sd w = true := by rw [zMk, decide_eq_true h, Bool.not_true, Bool.and_false, Bool.false_and]; decide
theorem zMk_4 {d sd w : Int32} (h : w < 0) : ¬ zMk d sd w = true := by rw [zMk, zIn_lo h, Bool.and_false]; decide
theorem zMk_5 {d sd w : Int32} (h : ¬ w ≤ 2) : ¬ zMk d sd w = true := by rw [zMk, zIn_hi (Int32.not_le.mp h), Bool.and_false]; decide
