/-! WHO AND LOOK, BY THE REFERENCE: bits and counts -/
def zRw (ok : Nat → Bool) : Nat → Int32
  | 0 => 0
  | k + 1 => zRw ok k ||| (if ok k = true then 1 <<< (nI k &&& 31) else 0)
theorem zRw_t {ok : Nat → Bool} {k : Nat} (h : ok k = true) : zRw ok k ||| (1 <<< (nI k &&& 31)) = zRw ok (k + 1) := by
  show _ = zRw ok k ||| (if ok k = true then 1 <<< (nI k &&& 31) else 0)
  rw [if_pos h]
theorem zRw_f {ok : Nat → Bool} {k : Nat} (h : ok k = false) : zRw ok k ||| 0 = zRw ok (k + 1) := by
  show _ = zRw ok k ||| (if ok k = true then 1 <<< (nI k &&& 31) else 0)
  rw [if_neg (by rw [h]; decide)]
theorem zRw_c {a b : Nat → Bool} : ∀ m, (∀ k, k < m → a k = b k) → zRw a m = zRw b m := by
  intro m
  induction m with
  | zero => intro _; rfl
  | succ m ih =>
    intro h
    show zRw a m ||| _ = zRw b m ||| _
    rw [ih (fun k hk => h k (by omega)), h m (by omega)]
def zW9 (w : Nat → Int32) (k : Nat) : Nat → Int32 := fun j => w (9 * k + j)
def zOj (w fs ff : Nat → Int32) (fd k : Nat) : Bool := zOk (zW9 w k) fs ff fd
section ZOJ
variable {w fs ff : Nat → Int32} {k i j : Nat}
theorem zOj_t (h0 : zOk (zW9 w k) fs ff i = true) (e : fs i = nI j) (hj : j < 9) (h : w (9 * k + j) = ff i) : (1 : Int32) = zb (zOk (zW9 w k) fs ff (i + 1)) := by
  rw [zOk_true h0 (by rw [e, zAt_nI hj (by decide)]; exact h)]
  rfl
theorem zOj_f (e : fs i = nI j) (hj : j < 9) (h : ¬ w (9 * k + j) = ff i) : (0 : Int32) = zb (zOk (zW9 w k) fs ff (i + 1)) := by
  rw [zOk_false (k := i) (by rw [e, zAt_nI hj (by decide)]; exact h) (i + 1) (Nat.lt_succ_self i)]
  rfl
theorem zOj_0 (h0 : zOk (zW9 w k) fs ff i = false) : (0 : Int32) = zb (zOk (zW9 w k) fs ff (i + 1)) := by
  show _ = zb (zOk (zW9 w k) fs ff i && _)
  rw [h0]
  rfl
end ZOJ
theorem zOk_cg {d d' fs ff : Nat → Int32} (h : ∀ j, j < 9 → d j = d' j) : ∀ m, (∀ i, i < m → ∃ j, j < 9 ∧ fs i = nI j) → zOk d fs ff m = zOk d' fs ff m := by
  intro m
  induction m with
  | zero => intro _; rfl
  | succ m ih =>
    intro hf
    show (zOk d fs ff m && decide (zAt d 9 (fs m) = ff m)) = (zOk d' fs ff m && decide (zAt d' 9 (fs m) = ff m))
    obtain ⟨j, hj, e⟩ := hf m (by omega)
    rw [ih (fun i hi => hf i (by omega)), e, zAt_nI hj (by decide), zAt_nI hj (by decide), h j hj]
theorem zFt_w {F : zF} {r w : Nat → Int32} {s1 n k : Nat} {ft kn : Int32} (hw : ∀ j, j < 9 * (n + 1) → w j = zFt F r s1 n ft kn j) (hk : k ≤ n) : ∀ j, j < 9 → zW9 w k j = zDDr F r s1 ft kn (zPn n k) j := by
  intro j hj
  show w (9 * k + j) = zDf F (upd r s1 (zWh (zPn n k))) ft kn j
  rw [hw _ (by omega), ← zFt_9 hj, zR1, zNm_w]
theorem zOj_e {F : zF} {r w fs ff : Nat → Int32} {s1 n k fd : Nat} {ft kn : Int32} (hw : ∀ j, j < 9 * (n + 1) → w j = zFt F r s1 n ft kn j) (hfs : ∀ i, i < fd → ∃ j, j < 9 ∧ fs i = nI j) (hk : k ≤ n) : zOj w fs ff fd k = zOkR F r s1 ft kn fs ff fd (zPn n k) := zOk_cg (zFt_w hw hk) fd hfs
/-- five truths -/
def zT5 (a b c d e : Bool) : Nat → Bool
  | 0 => a
  | 1 => b
  | 2 => c
  | 3 => d
  | _ => e
theorem zT5_e (ok : Nat → Bool) {k : Nat} (h : k ≤ 4) : ok k = zT5 (ok 0) (ok 1) (ok 2) (ok 3) (ok 4) k := by
  rcases (show k = 0 ∨ k = 1 ∨ k = 2 ∨ k = 3 ∨ k = 4 by omega) with rfl | rfl | rfl | rfl | rfl <;> rfl
theorem zWb_c {a b : Nat → Bool} : ∀ m, (∀ k, k < m → a k = b k) → zWb a m = zWb b m := by
  intro m
  induction m with
  | zero => intro _; rfl
  | succ m ih =>
    intro h
    show (if a m = true then zWb a m ||| _ else zWb a m) = (if b m = true then zWb b m ||| _ else zWb b m)
    rw [ih (fun k hk => h k (by omega)), h m (by omega)]
theorem zAny_c {a b : Nat → Bool} : ∀ m, (∀ k, k < m → a k = b k) → zAny a m = zAny b m := by
  intro m
  induction m with
  | zero => intro _; rfl
  | succ m ih =>
    intro h
    show (zAny a m || a m) = (zAny b m || b m)
    rw [ih (fun k hk => h k (by omega)), h m (by omega)]
set_option maxRecDepth 100000 in
theorem zRwK : ∀ n, n < 5 → ∀ a b c d e : Bool, (if zIi (zRw (fun k => zT5 a b c d e (zPn n k)) (n + 1)) (nI n) = true then (zRw (fun k => zT5 a b c d e (zPn n k)) (n + 1) &&& ((1 <<< (nI n &&& 31)) - 1)) ||| 16 else zRw (fun k => zT5 a b c d e (zPn n k)) (n + 1) &&& ((1 <<< (nI n &&& 31)) - 1)) = zWb (zT5 a b c d e) (n + 1) := by decide +kernel
set_option maxRecDepth 100000 in
theorem zRwA : ∀ n, n < 5 → ∀ a b c d e : Bool, decide (zRw (fun k => zT5 a b c d e (zPn n k)) (n + 1) = 0) = !zAny (zT5 a b c d e) (n + 1) := by decide +kernel
set_option maxRecDepth 100000 in
theorem zRwI : ∀ n, n < 5 → ∀ k, k < n + 1 → ∀ a b c d e : Bool, zIi (zRw (zT5 a b c d e) (n + 1)) (nI k) = zT5 a b c d e k := by decide +kernel
theorem zRw_i {ok : Nat → Bool} {n k : Nat} (hn : n ≤ 4) (hk : k ≤ n) : zIi (zRw ok (n + 1)) (nI k) = ok k := by
  rw [zRw_c (b := zT5 (ok 0) (ok 1) (ok 2) (ok 3) (ok 4)) (n + 1) (fun k hk => zT5_e ok (by omega)), zRwI n (by omega) k (by omega)]
  exact (zT5_e ok (by omega)).symm
theorem zRw_e {a ok : Nat → Bool} {n : Nat} (hn : n ≤ 4) (h : ∀ k, k ≤ n → a k = ok (zPn n k)) : zRw a (n + 1) = zRw (fun k => zT5 (ok 0) (ok 1) (ok 2) (ok 3) (ok 4) (zPn n k)) (n + 1) :=
  zRw_c (n + 1) (fun k hk => (h k (by omega)).trans (zT5_e ok (by have := zPn_le (n := n) (k := k) (by omega); omega)))
theorem zRw_w {a ok : Nat → Bool} {n : Nat} (hn : n ≤ 4) (h : ∀ k, k ≤ n → a k = ok (zPn n k)) : (if zIi (zRw a (n + 1)) (nI n) = true then (zRw a (n + 1) &&& ((1 <<< (nI n &&& 31)) - 1)) ||| 16 else zRw a (n + 1) &&& ((1 <<< (nI n &&& 31)) - 1)) = zWb ok (n + 1) := by
  rw [zRw_e hn h, zRwK n (by omega)]
  exact (zWb_c (n + 1) (fun k hk => zT5_e ok (by omega))).symm
theorem zRw_0 {a ok : Nat → Bool} {n : Nat} (hn : n ≤ 4) (h : ∀ k, k ≤ n → a k = ok (zPn n k)) : decide (zRw a (n + 1) = 0) = !zAny ok (n + 1) := by
  rw [zRw_e hn h, zRwA n (by omega)]
  exact congrArg not (zAny_c (n + 1) (fun k hk => zT5_e ok (by omega))).symm
/-- counts -/
def zCu (ok : Nat → Bool) (w : Nat → Int32) (q : Nat) (v : Int32) (k : Nat) : Int32 := if (ok k && decide (w (9 * k + q) = v)) = true then 1 else 0
theorem zCu_t {ok : Nat → Bool} {w : Nat → Int32} {q k : Nat} {v : Int32} (h0 : ok k = true) (h : w (9 * k + q) = v) : zSum (zCu ok w q v) k + 1 = zSum (zCu ok w q v) (k + 1) := by
  show _ = _ + (if (ok k && decide (w (9 * k + q) = v)) = true then 1 else 0)
  rw [if_pos (by rw [h0, decide_eq_true h]; rfl)]
theorem zCu_f {ok : Nat → Bool} {w : Nat → Int32} {q k : Nat} {v : Int32} (h : ok k = false ∨ ¬ w (9 * k + q) = v) : zSum (zCu ok w q v) k + 0 = zSum (zCu ok w q v) (k + 1) := by
  show _ = _ + (if (ok k && decide (w (9 * k + q) = v)) = true then 1 else 0)
  rcases h with h | h
  · rw [if_neg (by rw [h, Bool.false_and]; decide)]
  · rw [if_neg (by rw [decide_eq_false h, Bool.and_false]; decide)]
def zMv (ok : Nat → Bool) (w : Nat → Int32) (q m : Nat) : Nat → Int32
  | 0 => 0
  | v + 1 => zMx (zMv ok w q m v) (zSum (zCu ok w q (nI v)) m)
def zLo (ok : Nat → Bool) (w : Nat → Int32) (m : Nat) : Nat → Int32 × Int32
  | 0 => (-1, 268435456)
  | q + 1 => if zMv ok w q m 10 < (zLo ok w m q).2 then (nI q, zMv ok w q m 10) else zLo ok w m q
theorem zCu_b {ok : Nat → Bool} {w : Nat → Int32} {q : Nat} {v : Int32} : ∀ m, ∃ x, x ≤ m ∧ zSum (zCu ok w q v) m = nI x := by
  intro m
  induction m with
  | zero => exact ⟨0, Nat.le_refl _, rfl⟩
  | succ m ih =>
    obtain ⟨x, hx, e⟩ := ih
    show ∃ x, x ≤ m + 1 ∧ zSum (zCu ok w q v) m + zCu ok w q v m = nI x
    rw [e]
    unfold zCu
    by_cases h : (ok m && decide (w (9 * m + q) = v)) = true
    · rw [if_pos h]
      exact ⟨x + 1, by omega, nI_add x 1⟩
    · rw [if_neg h, Int32.add_zero]
      exact ⟨x, by omega, rfl⟩
theorem zMv_b {ok : Nat → Bool} {w : Nat → Int32} {q m : Nat} : ∀ v, ∃ x, x ≤ m ∧ zMv ok w q m v = nI x := by
  intro v
  induction v with
  | zero => exact ⟨0, Nat.zero_le _, rfl⟩
  | succ v ih =>
    show ∃ x, x ≤ m ∧ zMx (zMv ok w q m v) (zSum (zCu ok w q (nI v)) m) = nI x
    unfold zMx
    by_cases h : zMv ok w q m v < zSum (zCu ok w q (nI v)) m
    · rw [if_pos h]; exact zCu_b m
    · rw [if_neg h]; exact ih
/-- the tally by counts -/
theorem zTt_c {d t : Nat → Int32} {p v : Nat} (hd : ∀ p, p < 9 → ∃ j, j ≤ 9 ∧ d p = nI j) (hp : p < 9) (hv : v < 10) : ∀ P, P ≤ 9 → zTt d t P (p * 10 + v) = if p < P ∧ d p = nI v then t (p * 10 + v) + 1 else t (p * 10 + v) := by
  intro P
  induction P with
  | zero => intro _; rw [if_neg (fun h => absurd h.1 (Nat.not_lt_zero _))]; rfl
  | succ P ih =>
    intro hP
    obtain ⟨j, hj, e⟩ := hd P (by omega)
    have ei : nI P * 10 + d P = nI (P * 10 + j) := by rw [e, show nI P * 10 = nI (P * 10) from pk_mul P 10, nI_add]
    show zPut (zTt d t P) 90 (nI P * 10 + d P) (zAt (zTt d t P) 90 (nI P * 10 + d P) + 1) (p * 10 + v) = _
    rw [ei, zPut_nI (by omega) (by decide), zAt_nI (by omega) (by decide)]
    unfold upd
    by_cases h : p * 10 + v = P * 10 + j
    · have h1 : p = P := by omega
      have h2 : v = j := by omega
      subst h1
      subst h2
      rw [if_pos h, ih (by omega), if_neg (fun q => absurd q.1 (Nat.lt_irrefl _)), if_pos ⟨Nat.lt_succ_self _, e⟩]
    · rw [if_neg h, ih (by omega)]
      by_cases hpP : p = P
      · subst hpP
        have hne : ¬ d p = nI v := fun q => by
          have := (nI_eq (a := j) (b := v) (by omega) (by omega)).mp (e.symm.trans q)
          omega
        rw [if_neg (fun q => hne q.2), if_neg (fun q => hne q.2)]
      · by_cases hd : p < P ∧ d p = nI v
        · rw [if_pos hd, if_pos ⟨by omega, hd.2⟩]
        · rw [if_neg hd, if_neg (fun q => hd ⟨by omega, q.2⟩)]
theorem zTl_c {ok : Nat → Bool} {d : Nat → Nat → Int32} {p v : Nat} (hd : ∀ k p, p < 9 → ∃ j, j ≤ 9 ∧ d k p = nI j) (hp : p < 9) (hv : v < 10) : ∀ m, zTl ok d m (p * 10 + v) = zSum (fun k => if (ok k && decide (d k p = nI v)) = true then 1 else 0) m := by
  intro m
  induction m with
  | zero => rfl
  | succ m ih =>
    show (if ok m = true then zTt (d m) (zTl ok d m) 9 else zTl ok d m) (p * 10 + v) = zSum (fun k => if (ok k && decide (d k p = nI v)) = true then 1 else 0) m + (if (ok m && decide (d m p = nI v)) = true then 1 else 0)
    by_cases h : ok m = true
    · rw [if_pos h, zTt_c (hd m) hp hv 9 (Nat.le_refl _), ih, h]
      by_cases h2 : d m p = nI v
      · rw [if_pos ⟨hp, h2⟩, if_pos (by rw [decide_eq_true h2]; rfl)]
      · rw [if_neg (fun q => h2 q.2), if_neg (by rw [decide_eq_false h2]; decide), Int32.add_zero]
    · rw [if_neg h, ih, if_neg (fun q => h (z_and_l q)), Int32.add_zero]
theorem zSum_s (f : Nat → Int32) : ∀ n, zSum f (n + 1) = f 0 + zSum (fun k => f (k + 1)) n := by
  intro n
  induction n with
  | zero => show 0 + f 0 = f 0 + 0; rw [Int32.zero_add, Int32.add_zero]
  | succ n ih =>
    show zSum f (n + 1) + f (n + 1) = f 0 + (zSum (fun k => f (k + 1)) n + f (n + 1))
    rw [ih, Int32.add_assoc]
theorem zSum_r (f : Nat → Int32) (n : Nat) : zSum (fun k => f (zPn n k)) (n + 1) = zSum f (n + 1) := by
  rw [zSum_s f]
  show zSum (fun k => f (zPn n k)) n + f (zPn n n) = _
  rw [zSum_cg (b := fun k => f (k + 1)) n (fun j hj => by show f (zPn n j) = _; unfold zPn; rw [if_neg (by omega)]), Int32.add_comm]
  unfold zPn
  rw [if_pos rfl]
section ZLO
variable {F : zF} {r w fs ff : Nat → Int32} {s1 n fd : Nat} {ft kn : Int32}
theorem zCu_e (hft : ∃ j, j ≤ 9 ∧ ft = nI j) (hfs : ∀ i, i < fd → ∃ j, j < 9 ∧ fs i = nI j) (hw : ∀ j, j < 9 * (n + 1) → w j = zFt F r s1 n ft kn j) {p v : Nat} (hp : p < 9) (hv : v < 10) : zAt (zTl (zOkR F r s1 ft kn fs ff fd) (zDDr F r s1 ft kn) (n + 1)) 90 (nI p * 10 + nI v) = zSum (zCu (zOj w fs ff fd) w p (nI v)) (n + 1) := by
  rw [show nI p * 10 = nI (p * 10) from pk_mul p 10, nI_add, zAt_nI (by omega) (by decide), zTl_c (d := zDDr F r s1 ft kn) (fun k p _ => zDf_b hft p) hp hv, ← zSum_r]
  refine zSum_cg (n + 1) (fun k hk => ?_)
  have e1 := zOj_e (ff := ff) hw hfs (k := k) (by omega)
  have e2 := zFt_w hw (k := k) (by omega) p hp
  have e2 : w (9 * k + p) = zDDr F r s1 ft kn (zPn n k) p := e2
  show (if (zOkR F r s1 ft kn fs ff fd (zPn n k) && decide (zDDr F r s1 ft kn (zPn n k) p = nI v)) = true then (1 : Int32) else 0) = if (zOj w fs ff fd k && decide (w (9 * k + p) = nI v)) = true then 1 else 0
  rw [e1, e2]
theorem zMv_e (hft : ∃ j, j ≤ 9 ∧ ft = nI j) (hfs : ∀ i, i < fd → ∃ j, j < 9 ∧ fs i = nI j) (hw : ∀ j, j < 9 * (n + 1) → w j = zFt F r s1 n ft kn j) {p : Nat} (hp : p < 9) : ∀ v, v ≤ 10 → zWo (zTl (zOkR F r s1 ft kn fs ff fd) (zDDr F r s1 ft kn) (n + 1)) p v = zMv (zOj w fs ff fd) w p (n + 1) v := by
  intro v
  induction v with
  | zero => intro _; rfl
  | succ v ih =>
    intro hv
    show zMx (zWo _ p v) (zAt _ 90 (nI p * 10 + nI v)) = zMx (zMv _ w p (n + 1) v) _
    rw [ih (by omega), zCu_e hft hfs hw hp (by omega)]
theorem zLo_e (hn : n ≤ 4) (hft : ∃ j, j ≤ 9 ∧ ft = nI j) (hfs : ∀ i, i < fd → ∃ j, j < 9 ∧ fs i = nI j) (hw : ∀ j, j < 9 * (n + 1) → w j = zFt F r s1 n ft kn j) : ∀ q, q < 9 → zLs (zTl (zOkR F r s1 ft kn fs ff fd) (zDDr F r s1 ft kn) (n + 1)) (q + 1) = zLo (zOj w fs ff fd) w (n + 1) (q + 1) := by
  intro q
  induction q with
  | zero =>
    intro _
    show (if zWo _ 0 10 < (6 : Int32) then (nI 0, zWo _ 0 10) else (-1, 6)) = (if zMv _ w 0 (n + 1) 10 < (268435456 : Int32) then (nI 0, zMv _ w 0 (n + 1) 10) else (-1, 268435456))
    rw [zMv_e hft hfs hw (by decide) 10 (Nat.le_refl _)]
    obtain ⟨x, hx, e⟩ := zMv_b (ok := zOj w fs ff fd) (w := w) (q := 0) (m := n + 1) 10
    rw [e, if_pos (show nI x < (6 : Int32) from (nI_zlt (a := x) (b := 6) (by omega) (by decide)).mpr (by omega)), if_pos (show nI x < (268435456 : Int32) from (nI_zlt (a := x) (b := 268435456) (by omega) (by decide)).mpr (by omega))]
  | succ q ih =>
    intro hq
    show (if zWo _ (q + 1) 10 < (zLs _ (q + 1)).2 then (nI (q + 1), zWo _ (q + 1) 10) else zLs _ (q + 1)) = (if zMv _ w (q + 1) (n + 1) 10 < (zLo _ w (n + 1) (q + 1)).2 then (nI (q + 1), zMv _ w (q + 1) (n + 1) 10) else zLo _ w (n + 1) (q + 1))
    rw [zMv_e hft hfs hw (by omega) 10 (Nat.le_refl _), ih (by omega)]
theorem zLk_0 (hn : n ≤ 4) (hfs : ∀ i, i < fd → ∃ j, j < 9 ∧ fs i = nI j) (hw : ∀ j, j < 9 * (n + 1) → w j = zFt F r s1 n ft kn j) (h : zRw (zOj w fs ff fd) (n + 1) = 0) : zLk F r n s1 ft kn fs ff fd = -1 := by
  have e := zRw_0 hn (a := zOj w fs ff fd) (fun k hk => zOj_e (ff := ff) hw hfs hk)
  rw [decide_eq_true h] at e
  unfold zLk
  rw [if_neg (fun q => by rw [q] at e; exact absurd e (by decide))]
theorem zLk_1 (hn : n ≤ 4) (hft : ∃ j, j ≤ 9 ∧ ft = nI j) (hfs : ∀ i, i < fd → ∃ j, j < 9 ∧ fs i = nI j) (hw : ∀ j, j < 9 * (n + 1) → w j = zFt F r s1 n ft kn j) (h : ¬ zRw (zOj w fs ff fd) (n + 1) = 0) : zLk F r n s1 ft kn fs ff fd = (zLo (zOj w fs ff fd) w (n + 1) 9).1 := by
  have e := zRw_0 hn (a := zOj w fs ff fd) (fun k hk => zOj_e (ff := ff) hw hfs hk)
  rw [decide_eq_false h] at e
  unfold zLk
  rw [if_pos (by cases q : zAny (zOkR F r s1 ft kn fs ff fd) (n + 1) with | true => rfl | false => rw [q] at e; exact absurd e (by decide)), zLo_e hn hft hfs hw 8 (by decide)]
end ZLO
/-- who falls, as bits -/
def zFc (b : Nat → Bool) : Nat → Int32
  | 0 => 0
  | k + 1 => if b k = true then zFc b k ||| (1 <<< (nI k &&& 31)) else zFc b k
def zT8 (a b c d e f g h : Bool) : Nat → Bool
  | 0 => a
  | 1 => b
  | 2 => c
  | 3 => d
  | 4 => e
  | 5 => f
  | 6 => g
  | _ => h
set_option maxRecDepth 100000 in
theorem zFcK : ∀ s, s < 8 → ∀ a b c d e f g h : Bool, (zFc (zT8 a b c d e f g h) 8 >>> (nI s &&& 31)) &&& 1 = if zT8 a b c d e f g h s = true then 1 else 0 := by decide +kernel
theorem zT8_e (ok : Nat → Bool) {k : Nat} (h : k < 8) : ok k = zT8 (ok 0) (ok 1) (ok 2) (ok 3) (ok 4) (ok 5) (ok 6) (ok 7) k := by
  rcases (show k = 0 ∨ k = 1 ∨ k = 2 ∨ k = 3 ∨ k = 4 ∨ k = 5 ∨ k = 6 ∨ k = 7 by omega) with rfl | rfl | rfl | rfl | rfl | rfl | rfl | rfl <;> rfl
theorem zFc_c {a b : Nat → Bool} : ∀ m, (∀ k, k < m → a k = b k) → zFc a m = zFc b m := by
  intro m
  induction m with
  | zero => intro _; rfl
  | succ m ih =>
    intro h
    show (if a m = true then zFc a m ||| _ else zFc a m) = (if b m = true then zFc b m ||| _ else zFc b m)
    rw [ih (fun k hk => h k (by omega)), h m (by omega)]
theorem zDe_01 {F : zF} {r : Nat → Int32} {ft kn : Int32} (s : Nat) : zDe F r ft kn s = 0 ∨ zDe F r ft kn s = 1 := by
  show zEw F (r s) (nI s) (zD F r ft kn s) = 0 ∨ zEw F (r s) (nI s) (zD F r ft kn s) = 1
  unfold zEw
  by_cases h1 : r s = -1
  · rw [if_pos h1]; exact Or.inl rfl
  · rw [if_neg h1]
    unfold zFe
    split
    · exact Or.inl rfl
    · split
      · exact Or.inl rfl
      · exact Or.inr rfl
theorem zFb_c {F : zF} {r : Nat → Int32} {ft kn : Int32} : ∀ m, zFb F r ft kn m = zFc (fun k => !decide (zDe F r ft kn k = 0)) m := by
  intro m
  induction m with
  | zero => rfl
  | succ m ih =>
    show zFi (zFb F r ft kn m) (zDe F r ft kn m) m = (if (!decide (zDe F r ft kn m = 0)) = true then zFc (fun k => !decide (zDe F r ft kn k = 0)) m ||| (1 <<< (nI m &&& 31)) else zFc (fun k => !decide (zDe F r ft kn k = 0)) m)
    unfold zFi
    rw [ih]
    by_cases h : zDe F r ft kn m = 0
    · rw [if_pos h, if_neg (by rw [decide_eq_true h]; decide)]
    · rw [if_neg h, if_pos (by rw [decide_eq_false h]; rfl)]
theorem zFb_e {F : zF} {r : Nat → Int32} {ft kn : Int32} {s : Nat} (hs : s < 8) : (zFb F r ft kn 8 >>> (nI s &&& 31)) &&& 1 = zDe F r ft kn s := by
  rw [zFb_c, zFc_c 8 (fun k hk => zT8_e (fun k => !decide (zDe F r ft kn k = 0)) hk), zFcK s hs, ← zT8_e (fun k => !decide (zDe F r ft kn k = 0)) hs]
  rcases zDe_01 (F := F) (r := r) (ft := ft) (kn := kn) s with h | h
  · rw [h]; rfl
  · rw [h]; rfl
theorem z_w5 {w : Int32} (h : zIn w 0 5 = true) (h0 : ¬ w = 0) (h1 : ¬ w = 1) (h2 : ¬ w = 2) (h3 : ¬ w = 3) (h4 : ¬ w = 4) : w = 5 := by
  have a0 : ¬ w < 0 := fun q => by rw [zIn_lo q] at h; exact absurd h (by decide)
  have a1 : ¬ 5 < w := fun q => by rw [zIn_hi q] at h; exact absurd h (by decide)
  obtain ⟨j, hj, rfl⟩ := nI_of2 (M := 5) (n := 5) rfl a0 (Int32.not_lt.mp a1)
  rcases (show j = 0 ∨ j = 1 ∨ j = 2 ∨ j = 3 ∨ j = 4 ∨ j = 5 by omega) with rfl | rfl | rfl | rfl | rfl | rfl
  · exact absurd rfl h0
  · exact absurd rfl h1
  · exact absurd rfl h2
  · exact absurd rfl h3
  · exact absurd rfl h4
  · rfl
theorem zSh1_out {n : Nat} {F : zF} {r : Nat → Int32} {ft kn : Int32} {fs ff : Nat → Int32} {fd s1 : Nat} {w : Int32} (h : zIn w 0 5 = false) : zSh1 n F r ft kn fs ff fd s1 w = -102 := by
  unfold zSh1
  have hx : ∀ j, j ≤ 5 → ¬ w = nI j := fun j hj q => by
    rw [q, show zIn (nI j) 0 5 = true from zIn_ok (nI_pos (by omega)) ((nI_zle (a := j) (b := 5) (by omega) (by decide)).mpr hj)] at h
    exact absurd h (by decide)
  rw [if_neg (show ¬ w = 0 from hx 0 (by decide)), if_neg (show ¬ w = 1 from hx 1 (by decide)), if_neg (show ¬ w = 2 from hx 2 (by decide)), if_neg (show ¬ w = 3 from hx 3 (by decide)), if_neg (show ¬ w = 4 from hx 4 (by decide)), if_neg (show ¬ w = 5 from hx 5 (by decide))]
theorem zMx_n {a b : Int32} (h : ¬ a < b) : a = zMx a b := (if_neg h).symm
theorem zMx_y {a b : Int32} (h : a < b) : b = zMx a b := (if_pos h).symm
section ZLOS
variable {ok : Nat → Bool} {w : Nat → Int32} {m q : Nat}
theorem zLo_t1 (h : zMv ok w q m 10 < (zLo ok w m q).2) : nI q = (zLo ok w m (q + 1)).1 := by
  show _ = (if zMv ok w q m 10 < (zLo ok w m q).2 then (nI q, zMv ok w q m 10) else zLo ok w m q).1
  rw [if_pos h]
theorem zLo_t2 (h : zMv ok w q m 10 < (zLo ok w m q).2) : zMv ok w q m 10 = (zLo ok w m (q + 1)).2 := by
  show _ = (if zMv ok w q m 10 < (zLo ok w m q).2 then (nI q, zMv ok w q m 10) else zLo ok w m q).2
  rw [if_pos h]
theorem zLo_f1 (h : ¬ zMv ok w q m 10 < (zLo ok w m q).2) : (zLo ok w m q).1 = (zLo ok w m (q + 1)).1 := by
  show _ = (if zMv ok w q m 10 < (zLo ok w m q).2 then (nI q, zMv ok w q m 10) else zLo ok w m q).1
  rw [if_neg h]
theorem zLo_f2 (h : ¬ zMv ok w q m 10 < (zLo ok w m q).2) : (zLo ok w m q).2 = (zLo ok w m (q + 1)).2 := by
  show _ = (if zMv ok w q m 10 < (zLo ok w m q).2 then (nI q, zMv ok w q m 10) else zLo ok w m q).2
  rw [if_neg h]
end ZLOS
/-- digest's terms -/
theorem zDa_e {n : Nat} {F : zF} {r me fe : Nat → Int32} {ft kn : Int32} {f w : Nat} (hn : n ≤ 4) (hf : f < n) : zAb1 F r me fe ft kn f (nI w) = zDa n F r me fe ft kn f w := by
  show _ = zAbo n F r me fe ft kn (nI f) (nI w)
  rw [zAbo, if_pos (z_inf hf hn), nI_clamp (by omega)]
theorem z_ink {w M : Nat} (h : w ≤ M) (hM : M < 2147483648) : zIn (nI w) 0 (nI M) = true := zIn_ok (nI_pos (by omega)) ((nI_zle (a := w) (b := M) (by omega) hM).mpr h)
theorem zDs_e {n : Nat} {F : zF} {r : Nat → Int32} {ft kn : Int32} {fs ff : Nat → Int32} {fd s w : Nat} (hpos : 0 < n) (hs : s < 8) : zSh1 n F r ft kn fs ff fd s (nI w) = zDs n F r ft kn fs ff fd s w := by
  show _ = zSho n F r ft kn fs ff fd (nI s) (nI w)
  rw [zSho, if_pos (by rw [decide_eq_true hpos, show zIn (nI s) 0 7 = true from z_ink (M := 7) (by omega) (by decide)]; rfl), nI_clamp (by omega)]
