/-! THE REFERENCE'S METHODS: bridges -/
theorem z_byte {c : Int32} (h : zIn c 32 126 = true) : c.toInt8.toInt32 = c := by
  have h0 : ¬ c < 32 := fun q => by rw [zIn_lo q] at h; exact absurd h (by decide)
  have h1 : ¬ 126 < c := fun q => by rw [zIn_hi q] at h; exact absurd h (by decide)
  obtain ⟨j, hj, rfl⟩ := nI_of2 (x := c) (M := 126) (n := 126) rfl (fun q => h0 (by
    rw [Int32.lt_iff_toInt_lt] at q ⊢
    have e0 : (0 : Int32).toInt = 0 := rfl
    have e1 : (32 : Int32).toInt = 32 := rfl
    omega)) (Int32.not_lt.mp h1)
  exact (show ∀ j, j ≤ 126 → (nI j).toInt8.toInt32 = nI j by decide +kernel) j hj
set_option maxRecDepth 100000 in
theorem zK6 : ∀ a, a < 64 → ∀ j, j < 6 → (nI a >>> (nI j &&& 31)) &&& 1 = zb (zKn (nI a) (nI j)) := by decide +kernel
theorem zK6b {v k : Int32} (hv : zKb v) (hk : zFb1 k) : (v >>> (k &&& 31)) &&& 1 = zb (zKn v k) := by
  obtain ⟨a, ha, rfl⟩ := hv
  obtain ⟨j, hj, rfl⟩ := hk
  exact zK6 a ha j hj
theorem z_w7 {w : Int32} (h : zIn w 0 7 = true) (h0 : ¬ w = 0) (h1 : ¬ w = 1) (h2 : ¬ w = 2) (h3 : ¬ w = 3) (h4 : ¬ w = 4) (h5 : ¬ w = 5) (h6 : ¬ w = 6) : w = 7 := by
  obtain ⟨j, hj, rfl⟩ := z_s8 h
  rcases (show j = 0 ∨ j = 1 ∨ j = 2 ∨ j = 3 ∨ j = 4 ∨ j = 5 ∨ j = 6 ∨ j = 7 by omega) with rfl | rfl | rfl | rfl | rfl | rfl | rfl | rfl
  · exact absurd rfl h0
  · exact absurd rfl h1
  · exact absurd rfl h2
  · exact absurd rfl h3
  · exact absurd rfl h4
  · exact absurd rfl h5
  · exact absurd rfl h6
  · rfl
theorem zAb1_out {F : zF} {r me fe : Nat → Int32} {ft kn w : Int32} {f : Nat} (h : zIn w 0 7 = false) : zAb1 F r me fe ft kn f w = -102 := by
  have hk : ∀ j, j < 8 → ¬ w = nI j := fun j hj e => by
    have h2 : zIn (nI j) 0 7 = true := zIn_ok (nI_pos (by omega)) (show nI j ≤ nI 7 from (nI_zle (by omega) (by decide)).mpr (by omega))
    rw [e, h2] at h
    exact absurd h (by decide)
  unfold zAb1
  rw [if_neg (show ¬ w = 0 from hk 0 (by decide)), if_neg (show ¬ w = 1 from hk 1 (by decide)), if_neg (show ¬ w = 2 from hk 2 (by decide)), if_neg (show ¬ w = 3 from hk 3 (by decide)), if_neg (show ¬ w = 4 from hk 4 (by decide)), if_neg (show ¬ w = 5 from hk 5 (by decide)), if_neg (show ¬ w = 6 from hk 6 (by decide)), if_neg (show ¬ w = 7 from hk 7 (by decide))]
theorem z_f8 {n : Nat} {i : Int32} (hn : n ≤ 4) (h : zIn i 0 (nI n - 1) = true) : ∃ f, f < n ∧ i = nI f := by
  rcases z_fa (B := fun _ => 0) i hn with h1 | ⟨_, h2⟩
  · exact h1
  · rw [h2] at h; exact absurd h (by decide)
/-- merit by fathers and by shifts: the same -/
theorem zSum_add {a b : Nat → Int32} : ∀ n, zSum (fun f => a f + b f) n = zSum a n + zSum b n := by
  intro n
  induction n with
  | zero => rfl
  | succ n ih =>
    show zSum (fun f => a f + b f) n + (a n + b n) = (zSum a n + a n) + (zSum b n + b n)
    rw [ih, Int32.add_assoc, Int32.add_assoc, ← Int32.add_assoc (zSum b n), Int32.add_comm (zSum b n), Int32.add_assoc (a n)]
theorem zSum_ite {w x : Int32} {n : Nat} (hn : n ≤ 4) : ∀ f, f < n → w = nI f → zSum (fun j => if w = nI j then x else 0) n = x := by
  intro f hf hw
  subst hw
  have H : ∀ m, m ≤ 4 → zSum (fun j => if nI f = nI j then x else 0) m = if f < m then x else 0 := by
    intro m
    induction m with
    | zero => intro _; rfl
    | succ m ih =>
      intro hm
      show zSum (fun j => if nI f = nI j then x else 0) m + (if nI f = nI m then x else 0) = _
      rw [ih (by omega)]
      by_cases h1 : f < m
      · rw [if_pos h1, if_neg (fun q => by have := (nI_eq (by omega) (by omega)).mp q; omega), if_pos (by omega), Int32.add_zero]
      · by_cases h2 : f = m
        · rw [if_neg h1, if_pos (by rw [h2]), if_pos (by omega), Int32.zero_add]
        · rw [if_neg h1, if_neg (fun q => h2 ((nI_eq (by omega) (by omega)).mp q)), if_neg (by omega), Int32.add_zero]
  rw [H n hn, if_pos hf]
theorem zSum_cg {a b : Nat → Int32} : ∀ n, (∀ j, j < n → a j = b j) → zSum a n = zSum b n := by
  intro n
  induction n with
  | zero => intro _; rfl
  | succ n ih =>
    intro h
    show zSum a n + a n = zSum b n + b n
    rw [ih (fun j hj => h j (by omega)), h n (by omega)]
theorem zSum_0s : ∀ n, zSum (fun _ => 0) n = 0 := by
  intro n
  induction n with
  | zero => rfl
  | succ n ih => show zSum (fun _ => 0) n + 0 = 0; rw [ih]; rfl
theorem zGs_sum {g r : Nat → Int32} {n : Nat} (hn : n ≤ 4) (hro : zRo n r) (h0 : ∀ k, k < 8 → r k = -1 → g k = 0) : ∀ k, k ≤ 8 → zSum (fun f => zGs g r (nI f) k) n = zSum g k := by
  intro k
  induction k with
  | zero => intro _; exact zSum_0s n
  | succ k ih =>
    intro hk
    have e : ∀ j, j < n → zGs g r (nI j) (k + 1) = zGs g r (nI j) k + (if r k = nI j then g k else 0) := fun j _ => by
      show (if r k = nI j then zGs g r (nI j) k + g k else zGs g r (nI j) k) = _
      by_cases h : r k = nI j
      · rw [if_pos h, if_pos h]
      · rw [if_neg h, if_neg h, Int32.add_zero]
    rw [zSum_cg n e, zSum_add, ih (by omega)]
    show _ = zSum g k + g k
    rcases hro k (by omega) with hm | ⟨f, hf, hm⟩
    · rw [h0 k (by omega) hm, zSum_cg (b := fun _ => 0) n (fun j hj => ite_self 0), zSum_0s]
    · rw [zSum_ite hn f hf hm]
theorem zDg_sum {F : zF} {r : Nat → Int32} {ft kn : Int32} {n : Nat} (hn : n ≤ 4) (hro : zRo n r) : zSum (fun f => zGs (zDg F r ft kn) r (nI f) 8) n = zSum (zDg F r ft kn) 8 := zGs_sum hn hro (fun k _ h => (zDg_n h).symm) 8 (Nat.le_refl _)
theorem zDe_sum {F : zF} {r : Nat → Int32} {ft kn : Int32} {n : Nat} (hn : n ≤ 4) (hro : zRo n r) : zSum (fun f => zGs (zDe F r ft kn) r (nI f) 8) n = zSum (zDe F r ft kn) 8 := zGs_sum hn hro (fun k _ h => (zDe_n h).symm) 8 (Nat.le_refl _)
theorem z_updk {m x : Nat → Int32} {k : Nat} (j : Nat) : upd (fun f => if f < k then m f + x f else m f) k (m k + x k) j = if j < k + 1 then m j + x j else m j := by
  unfold upd
  by_cases h : j = k
  · rw [if_pos h, if_pos (by omega), h]
  · rw [if_neg h]
    show (if j < k then m j + x j else m j) = _
    by_cases h2 : j < k
    · rw [if_pos h2, if_pos (by omega)]
    · rw [if_neg h2, if_neg (by omega)]
theorem z_npos {n : Nat} (hn : n ≤ 4) (h : ¬ nI n = 0) : 0 < n := by
  rcases Nat.eq_zero_or_pos n with q | q
  · exact absurd (by rw [q]; rfl) h
  · exact q
theorem z_nneg {n : Nat} (hn : n ≤ 4) (h : nI n = 0) : ¬ 0 < n := fun q => nI_ne0 q (by omega) h
theorem zIs_ref {k : Nat} {kd : Int32} (hk : k < 5) (hd : zIn kd 0 4 = true) : zIs k kd = (decide (kd = 0) || (decide (nI k = kd) || (decide (kd = 1) && decide (nI k = 4)))) := by
  have h0 : ¬ kd < 0 := fun q => by rw [zIn_lo q] at hd; exact absurd hd (by decide)
  have h1 : ¬ 4 < kd := fun q => by rw [zIn_hi q] at hd; exact absurd hd (by decide)
  obtain ⟨j, hj, rfl⟩ := nI_of2 (x := kd) (M := 4) (n := 4) rfl h0 (Int32.not_lt.mp h1)
  exact (show ∀ k, k < 5 → ∀ j, j ≤ 4 → zIs k (nI j) = (decide (nI j = 0) || (decide (nI k = nI j) || (decide (nI j = 1) && decide (nI k = 4)))) by decide +kernel) k hk j hj
