/-! THE PAGE, BY THE REFERENCE -/
def zR0 (pg : Nat → Int32) (j : Nat) : Bool := if j % 4 = 0 then zKd (pg j) else if j % 4 = 1 then zIn (pg j - 48) 0 5 else if j % 4 = 2 then zIn (pg j - 48) 1 9 else zEf (pg j) (nI (j / 4 + 1))
def zFg (pg : Nat → Int32) (ln j : Nat) (lo hi : Int32) : Bool := decide (j < ln) && zIn (pg j - 48) lo hi
def zHp (pg : Nat → Int32) (ln p : Nat) : Prop := p ≤ ln ∧ ∀ j, j < p → zR0 pg j = true ∧ ¬ pg j = 59
def zOn (pg : Nat → Int32) (ln a : Nat) : Nat := if a = ln then a else if zKy (pg a) = -1 then a else if zFg pg ln (a + 1) 0 5 = true then (if zFg pg ln (a + 2) 1 9 = true then a + 3 else a + 2) else a + 1
section ZPG
variable {pg : Nat → Int32} {ln cg j p a : Nat}
theorem zRt_lo (h : j ≤ cg) (hj : j < 18) : zRt pg cg j = zR0 pg j := by
  unfold zRt zR0 zDg1
  rw [if_neg (by omega), zAt_nI hj (by decide)]
theorem zRt_h1 (hj : cg + 1 < 18) : zRt pg cg (cg + 1) = zIn (pg (cg + 1) - 48) 0 9 := by
  unfold zRt zDg1
  rw [if_pos (Nat.lt_succ_self cg), zAt_nI hj (by decide), decide_eq_true rfl, Bool.true_and]
theorem zRt_h2 : zRt pg cg (cg + 2) = false := by
  unfold zRt
  rw [if_pos (by omega), decide_eq_false (by omega), Bool.false_and]
theorem zHp_cg (h : zHp pg ln p) : p ≤ zCg pg ln := by
  rcases Nat.lt_or_ge (zCg pg ln) p with h1 | h1
  · exact absurd (zCg_at (Nat.lt_of_lt_of_le h1 h.1)) (h.2 _ h1).2
  · exact h1
theorem zE_stop (hln : ln ≤ 18) (h : zHp pg ln p) (hs : p = ln ∨ zR0 pg p = false) : zRl pg (zCg pg ln) ln = p ∧ zWhole pg ln = false := by
  have hcg := zHp_cg h
  have hle := zCg_le pg ln
  have e : zRl pg (zCg pg ln) ln = p := zRl_u h.1 (fun j hj => by rw [zRt_lo (by omega) (by have := h.1; omega)]; exact (h.2 j hj).1) (fun hp => by
    rw [zRt_lo hcg (by omega)]
    rcases hs with q | q
    · omega
    · rw [q]; decide)
  refine ⟨e, ?_⟩
  unfold zWhole
  rw [e]
  by_cases q : p = ln
  · rw [decide_eq_false (show ¬ ln = zCg pg ln + 2 by omega), Bool.false_and]
  · rw [decide_eq_false q, Bool.and_false]
theorem zE_59 (h : zHp pg ln p) (h59 : pg p = 59) : zCg pg ln = p := zCg_u h.1 (fun j hj => (h.2 j hj).2) (fun _ => h59)
theorem zE_no (hln : ln ≤ 18) (h : zHp pg ln p) (hp : p < ln) (h59 : pg p = 59) (hR : zR0 pg p = true) (hd : zFg pg ln (p + 1) 0 9 = false) : zRl pg (zCg pg ln) ln = p + 1 ∧ zWhole pg ln = false := by
  have hcg := zE_59 h h59
  have e : zRl pg p ln = p + 1 := zRl_u hp (fun j hj => by
    rw [zRt_lo (by omega) (by omega)]
    rcases Nat.lt_succ_iff_lt_or_eq.mp hj with q | q
    · exact (h.2 j q).1
    · rw [q]; exact hR) (fun q => by
    rw [zRt_h1 (by omega)]
    unfold zFg at hd
    rw [decide_eq_true q, Bool.true_and] at hd
    rw [hd]
    decide)
  rw [hcg]
  refine ⟨e, ?_⟩
  unfold zWhole
  rw [hcg, e]
  by_cases q : p + 1 = ln
  · rw [decide_eq_false (show ¬ ln = p + 2 by omega), Bool.false_and]
  · rw [decide_eq_false q, Bool.and_false]
theorem zE_yes (hln : ln ≤ 18) (h : zHp pg ln p) (hp : p < ln) (h59 : pg p = 59) (hR : zR0 pg p = true) (hd : zFg pg ln (p + 1) 0 9 = true) : zRl pg (zCg pg ln) ln = p + 2 ∧ zWhole pg ln = decide (p + 2 = ln) := by
  have hcg := zE_59 h h59
  unfold zFg at hd
  have h1 : p + 1 < ln := of_decide_eq_true (z_and_l hd)
  have e : zRl pg p ln = p + 2 := zRl_u h1 (fun j hj => by
    rcases (show j < p ∨ j = p ∨ j = p + 1 by omega) with q | q | q
    · rw [zRt_lo (by omega) (by omega)]; exact (h.2 j q).1
    · rw [q, zRt_lo (Nat.le_refl _) (by omega)]; exact hR
    · rw [q, zRt_h1 (by omega)]; exact z_and_r hd) (fun _ => by rw [zRt_h2]; decide)
  rw [hcg]
  refine ⟨e, ?_⟩
  unfold zWhole
  rw [hcg, e]
  by_cases q : p + 2 = ln
  · rw [decide_eq_true q, decide_eq_true q.symm]; rfl
  · rw [decide_eq_false q, Bool.and_false]
theorem zKy_t {c : Int32} (h : zKy c = -1) : zKd c = false := by
  unfold zKy at h
  unfold zKd
  by_cases h1 : c = 97
  · rw [if_pos h1] at h; exact absurd h (by decide)
  · by_cases h2 : c = 99
    · rw [if_neg h1, if_pos h2] at h; exact absurd h (by decide)
    · by_cases h3 : c = 102
      · rw [if_neg h1, if_neg h2, if_pos h3] at h; exact absurd h (by decide)
      · by_cases h4 : c = 112
        · rw [if_neg h1, if_neg h2, if_neg h3, if_pos h4] at h; exact absurd h (by decide)
        · by_cases h5 : c = 115
          · rw [if_neg h1, if_neg h2, if_neg h3, if_neg h4, if_pos h5] at h; exact absurd h (by decide)
          · rw [decide_eq_false h1, decide_eq_false h2, decide_eq_false h3, decide_eq_false h4, decide_eq_false h5]; rfl
theorem zKd_c {c : Int32} (h : zKd c = true) : c = 102 ∨ c = 99 ∨ c = 115 ∨ c = 112 ∨ c = 97 := by
  unfold zKd at h
  by_cases h1 : c = 102
  · exact Or.inl h1
  · by_cases h2 : c = 99
    · exact Or.inr (Or.inl h2)
    · by_cases h3 : c = 115
      · exact Or.inr (Or.inr (Or.inl h3))
      · by_cases h4 : c = 112
        · exact Or.inr (Or.inr (Or.inr (Or.inl h4)))
        · rw [decide_eq_false h1, decide_eq_false h2, decide_eq_false h3, decide_eq_false h4] at h
          exact Or.inr (Or.inr (Or.inr (Or.inr (of_decide_eq_true h))))
theorem zKy_k {c : Int32} (h : zKd c = true) : zKy c = nI (zKc c) := by
  rcases zKd_c h with rfl | rfl | rfl | rfl | rfl <;> rfl
theorem zKy_f {c : Int32} (h : ¬ zKy c = -1) : zKd c = true := by
  unfold zKy at h
  unfold zKd
  by_cases h1 : c = 97
  · rw [h1]; decide
  · by_cases h2 : c = 99
    · rw [h2]; decide
    · by_cases h3 : c = 102
      · rw [h3]; decide
      · by_cases h4 : c = 112
        · rw [h4]; decide
        · by_cases h5 : c = 115
          · rw [h5]; decide
          · rw [if_neg h1, if_neg h2, if_neg h3, if_neg h4, if_neg h5] at h; exact absurd rfl h
theorem zR0_0 (h : a % 4 = 0) : zR0 pg a = zKd (pg a) := by unfold zR0; rw [if_pos h]
theorem zR0_1 (h : a % 4 = 0) : zR0 pg (a + 1) = zIn (pg (a + 1) - 48) 0 5 := by unfold zR0; rw [if_neg (by omega), if_pos (by omega)]
theorem zR0_2 (h : a % 4 = 0) : zR0 pg (a + 2) = zIn (pg (a + 2) - 48) 1 9 := by unfold zR0; rw [if_neg (by omega), if_neg (by omega), if_pos (by omega)]
theorem zR0_3 (m : Nat) : zR0 pg (4 * m + 3) = zEf (pg (4 * m + 3)) (nI (m + 1)) := by
  unfold zR0
  rw [if_neg (by omega), if_neg (by omega), if_neg (by omega), show (4 * m + 3) / 4 = m by omega]
theorem zHp_s (h : zHp pg ln p) (hp : p < ln) (hR : zR0 pg p = true) (hn : ¬ pg p = 59) : zHp pg ln (p + 1) := ⟨hp, fun j hj => by
  rcases Nat.lt_succ_iff_lt_or_eq.mp hj with q | q
  · exact h.2 j q
  · rw [q]; exact ⟨hR, hn⟩⟩
theorem zKd_59 {c : Int32} (h : zKd c = true) : ¬ c = 59 := fun q => by rw [q] at h; exact absurd h (by decide)
theorem zIn_59a {c : Int32} (h : zIn (c - 48) 0 5 = true) : ¬ c = 59 := fun q => by rw [q] at h; exact absurd h (by decide)
theorem zIn_59b {c : Int32} (h : zIn (c - 48) 1 9 = true) : ¬ c = 59 := fun q => by rw [q] at h; exact absurd h (by decide)
theorem zOn_le : zOn pg ln a ≤ a + 3 := by
  unfold zOn
  split
  · omega
  · split
    · omega
    · split
      · split <;> omega
      · omega
theorem zOn_c (hm : a % 4 = 0) (h : zHp pg ln a) : (zOn pg ln a = a + 3 ∧ zHp pg ln (a + 3)) ∨ (¬ zOn pg ln a = a + 3 ∧ zHp pg ln (zOn pg ln a) ∧ (zOn pg ln a = ln ∨ zR0 pg (zOn pg ln a) = false)) := by
  unfold zOn
  by_cases h1 : a = ln
  · rw [if_pos h1]
    exact Or.inr ⟨by omega, h, Or.inl h1⟩
  · have hlt : a < ln := Nat.lt_of_le_of_ne h.1 h1
    rw [if_neg h1]
    by_cases h2 : zKy (pg a) = -1
    · rw [if_pos h2]
      exact Or.inr ⟨by omega, h, Or.inr (by rw [zR0_0 hm]; exact zKy_t h2)⟩
    · rw [if_neg h2]
      have k0 := zKy_f h2
      have H1 := zHp_s h hlt (by rw [zR0_0 hm]; exact k0) (zKd_59 k0)
      by_cases h3 : zFg pg ln (a + 1) 0 5 = true
      · rw [if_pos h3]
        have l1 : a + 1 < ln := of_decide_eq_true (z_and_l h3)
        have H2 := zHp_s H1 l1 (by rw [zR0_1 hm]; exact z_and_r h3) (zIn_59a (z_and_r h3))
        by_cases h4 : zFg pg ln (a + 2) 1 9 = true
        · rw [if_pos h4]
          have l2 : a + 2 < ln := of_decide_eq_true (z_and_l h4)
          exact Or.inl ⟨rfl, zHp_s H2 l2 (by rw [zR0_2 hm]; exact z_and_r h4) (zIn_59b (z_and_r h4))⟩
        · rw [if_neg h4]
          refine Or.inr ⟨by omega, H2, ?_⟩
          by_cases q : a + 2 = ln
          · exact Or.inl q
          · refine Or.inr ?_
            have l2 : a + 2 < ln := Nat.lt_of_le_of_ne H2.1 q
            unfold zFg at h4
            rw [decide_eq_true l2, Bool.true_and] at h4
            rw [zR0_2 hm]
            exact Bool.eq_false_iff.mpr h4
      · rw [if_neg h3]
        refine Or.inr ⟨by omega, H1, ?_⟩
        by_cases q : a + 1 = ln
        · exact Or.inl q
        · refine Or.inr ?_
          have l1 : a + 1 < ln := Nat.lt_of_le_of_ne H1.1 q
          unfold zFg at h3
          rw [decide_eq_true l1, Bool.true_and] at h3
          rw [zR0_1 hm]
          exact Bool.eq_false_iff.mpr h3
theorem zEf_59 {m : Nat} (h : 1 ≤ m) (hm : m < 100) : zEf 59 (nI (m + 1)) = true := by
  unfold zEf
  rw [if_pos rfl, decide_eq_false (fun q => by have := (nI_zlt (a := m + 1) (b := 2) (by omega) (by decide)).mp q; omega)]
  rfl
theorem zEf_59f {m : Nat} (h : m < 1) : zEf 59 (nI (m + 1)) = false := by
  unfold zEf
  rw [if_pos rfl, decide_eq_true (show nI (m + 1) < (2 : Int32) from (nI_zlt (a := m + 1) (b := 2) (by omega) (by decide)).mpr (by omega))]
  rfl
theorem zEf_44 {m : Nat} (h : m < 3) : zEf 44 (nI (m + 1)) = true := by
  unfold zEf
  rw [if_neg (by decide), show decide ((44 : Int32) = 44) = true from rfl, decide_eq_false (p := (4 : Int32) ≤ nI (m + 1)) (fun q => by have := (nI_zle (a := 4) (b := m + 1) (by decide) (by omega)).mp q; omega)]
  rfl
theorem zEf_o {m : Nat} {c : Int32} (h59 : ¬ c = 59) (h : m = 3 ∨ ¬ c = 44) : zEf c (nI (m + 1)) = false := by
  unfold zEf
  rw [if_neg h59]
  rcases h with h | h
  · rw [h, show decide (4 ≤ nI (3 + 1)) = true from rfl]
    exact Bool.and_false _
  · rw [decide_eq_false h, Bool.false_and]
theorem zRl_tr {n : Nat} : ∀ j, j < zRl pg cg n → zRt pg cg j = true := by
  induction n with
  | zero => intro j h; exact absurd h (Nat.not_lt_zero _)
  | succ n ih =>
    intro j h
    have e : zRl pg cg (n + 1) = (if zRl pg cg n < n then zRl pg cg n else if zRt pg cg n = true then n + 1 else n) := rfl
    rw [e] at h
    have hle := zRl_le pg cg n
    by_cases h1 : zRl pg cg n < n
    · rw [if_pos h1] at h; exact ih j h
    · rw [if_neg h1] at h
      by_cases h2 : zRt pg cg n = true
      · rw [if_pos h2] at h
        by_cases h3 : j = n
        · rw [h3]; exact h2
        · exact ih j (by omega)
      · rw [if_neg h2] at h
        exact ih j (by omega)
/-- a page that is whole: so many fathers -/
theorem zWh_N (hln : ln ≤ 18) (h : zWhole pg ln = true) : ∃ N, 2 ≤ N ∧ N ≤ 4 ∧ zCg pg ln + 1 = 4 * N ∧ ln = 4 * N + 1 ∧ (∀ j, j + 1 < 4 * N → zR0 pg j = true) ∧ zIn (pg (4 * N) - 48) 0 9 = true ∧ zRl pg (zCg pg ln) ln = ln := by
  unfold zWhole at h
  have h1 : ln = zCg pg ln + 2 := of_decide_eq_true (z_and_l h)
  have h2 : zRl pg (zCg pg ln) ln = ln := of_decide_eq_true (z_and_r h)
  have hR : ∀ j, j < ln → zRt pg (zCg pg ln) j = true := fun j hj => zRl_tr j (by rw [h2]; exact hj)
  have h59 := zCg_at (pg := pg) (n := ln) (by omega)
  generalize zCg pg ln = cg at *
  have hc := hR cg (by omega)
  rw [zRt_lo (Nat.le_refl _) (by omega)] at hc
  unfold zR0 at hc
  rw [h59] at hc
  have hm : cg % 4 = 3 := by
    by_cases q0 : cg % 4 = 0
    · rw [if_pos q0] at hc; exact absurd hc (by decide)
    · by_cases q1 : cg % 4 = 1
      · rw [if_neg q0, if_pos q1] at hc; exact absurd hc (by decide)
      · by_cases q2 : cg % 4 = 2
        · rw [if_neg q0, if_neg q1, if_pos q2] at hc; exact absurd hc (by decide)
        · omega
  rw [if_neg (by omega), if_neg (by omega), if_neg (by omega)] at hc
  have hge : 1 ≤ cg / 4 := by
    rcases Nat.lt_or_ge (cg / 4) 1 with q | q
    · rw [zEf_59f q] at hc; exact absurd hc (by decide)
    · exact q
  refine ⟨(cg + 1) / 4, by omega, by omega, by omega, by omega, fun j hj => ?_, ?_, h2⟩
  · have := hR j (by omega)
    rw [zRt_lo (by omega) (by omega)] at this
    exact this
  · have := hR (cg + 1) (by omega)
    rw [zRt_h1 (by omega)] at this
    rw [show 4 * ((cg + 1) / 4) = cg + 1 by omega]
    exact this
end ZPG
/-- the fathers told so far -/
def zFj (k : Nat) (pg : Nat → Int32) (F : zF) : zF := (fun f => if f < k then (zPf pg).1 f else F.1 f, fun f => if f < k then (zPf pg).2.1 f else F.2.1 f, fun f => if f < k then (zPf pg).2.2 f else F.2.2 f)
section ZFJ
variable {k : Nat} {pg : Nat → Int32} {F : zF} {x : Int32}
theorem z_updf {α : Type} {g a : Nat → α} (φ : α → Int32) (hx : x = φ (g k)) (j : Nat) : upd (fun f => φ (if f < k then g f else a f)) k x j = φ (if j < k + 1 then g j else a j) := by
  unfold upd
  by_cases h : j = k
  · rw [if_pos h, if_pos (by omega), h, hx]
  · rw [if_neg h]
    show φ (if j < k then g j else a j) = _
    by_cases h2 : j < k
    · rw [if_pos h2, if_pos (by omega)]
    · rw [if_neg h2, if_neg (by omega)]
theorem zFj_1 (hx : x = nI ((zPf pg).1 k)) (j : Nat) : upd (fun f => nI ((zFj k pg F).1 f)) k x j = nI ((zFj (k + 1) pg F).1 j) := z_updf (g := (zPf pg).1) (a := F.1) nI hx j
theorem zFj_2 (hx : x = (zPf pg).2.1 k) (j : Nat) : upd ((zFj k pg F).2.1) k x j = (zFj (k + 1) pg F).2.1 j := z_updf (g := (zPf pg).2.1) (a := F.2.1) (fun y => y) hx j
theorem zFj_3 (hx : x = (zPf pg).2.2 k) (j : Nat) : upd ((zFj k pg F).2.2) k x j = (zFj (k + 1) pg F).2.2 j := z_updf (g := (zPf pg).2.2) (a := F.2.2) (fun y => y) hx j
theorem zFj_m {m : Nat → Int32} (j : Nat) : upd (fun f => if f < k then 0 else m f) k 0 j = if j < k + 1 then 0 else m j := z_updf (g := fun _ => (0 : Int32)) (a := m) (fun y => y) rfl j
end ZFJ
theorem zFj_o {N : Nat} {pg : Nat → Int32} {F : zF} (hN : N ≤ 4) (hR : ∀ j, j + 1 < 4 * N → zR0 pg j = true) : zFo N (zFj N pg F) := by
  intro f hf
  have e1 : (zFj N pg F).1 f = zKc (zAt pg 18 (nI (4 * f))) := if_pos hf
  have e2 : (zFj N pg F).2.1 f = zDg1 pg (4 * f + 1) := if_pos hf
  rw [e1, e2]
  refine ⟨zKc_lt _, ?_⟩
  have h := hR (4 * f + 1) (by omega)
  rw [zR0_1 (by omega)] at h
  unfold zDg1
  rw [zAt_nI (by omega) (by decide)]
  have a0 : ¬ pg (4 * f + 1) - 48 < 0 := fun q => by rw [zIn_lo q] at h; exact absurd h (by decide)
  have a1 : ¬ 5 < pg (4 * f + 1) - 48 := fun q => by rw [zIn_hi q] at h; exact absurd h (by decide)
  obtain ⟨j, hj, e⟩ := nI_of2 (M := 5) (n := 5) rfl a0 (Int32.not_lt.mp a1)
  exact ⟨j, by omega, e⟩
theorem zDg1_b {pg : Nat → Int32} {j : Nat} (hj : j < 18) (h : zIn (pg j - 48) 0 9 = true) : ∃ i, i ≤ 9 ∧ zDg1 pg j = nI i := by
  unfold zDg1
  rw [zAt_nI hj (by decide)]
  have a0 : ¬ pg j - 48 < 0 := fun q => by rw [zIn_lo q] at h; exact absurd h (by decide)
  have a1 : ¬ 9 < pg j - 48 := fun q => by rw [zIn_hi q] at h; exact absurd h (by decide)
  exact nI_of2 (M := 9) (n := 9) rfl a0 (Int32.not_lt.mp a1)
