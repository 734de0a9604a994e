/-! THE LAW: class and reference side by side -/
theorem zAd_of {wc : va_W} {al : List Nat} (ps : List Nat) (h : wc.map Prod.fst = ps.filterMap (fun i => al[i]?)) : ∀ q : Nat × va_E, q ∈ wc → q.1 ∈ al := by
  intro q hq
  have h1 : q.1 ∈ wc.map Prod.fst := List.mem_map.mpr ⟨q, hq, rfl⟩
  rw [h] at h1
  obtain ⟨i, -, hi⟩ := List.mem_filterMap.mp h1
  exact List.mem_of_getElem? hi
theorem zB_call {D : va_G} {pool wc : va_W} {al : List Nat} {H : Heap} (hB : vz_R D pool (fun q => q ∈ al) H) (hw : ∀ q : Nat × va_E, q ∈ wc → q.1 ∈ al) : vz_R D pool (va_A wc H.size) H := fun q hq => ⟨(hB q hq).1, fun h => by
  rcases h with ⟨k, e, h⟩ | h
  · exact (hB q hq).2 (hw (q.1, e) (List.mem_of_getElem? h))
  · have := (hB q hq).1.lt
    omega⟩
theorem zB_keep {D : va_G} {pool wc : va_W} {al : List Nat} {H H1 : Heap} (hB : vz_R D pool (fun q => q ∈ al) H) (hw : ∀ q : Nat × va_E, q ∈ wc → q.1 ∈ al) (hk : ∀ q : Nat, q < H.size → ¬ va_A wc H.size q → H1[q]? = H[q]?) : vz_R D pool (fun q => q ∈ al) H1 := fun q hq => ⟨(hB q hq).1.kept (hk q.1 (hB q hq).1.lt (zB_call hB hw q hq).2), (hB q hq).2⟩
theorem zB_new {D : va_G} {ws tail : va_W} {al ps : List Nat} {A : Nat → Prop} {H : Heap} (hP : va_P D vwCl (ws ++ tail) H) (hD : va_D A (ws ++ tail)) (hal : al.map some = ps.map (fun i => (ws[i]?).map Prod.fst)) : vz_R D tail (fun q => q ∈ al) H := by
  intro q hq
  obtain ⟨j, hj⟩ := List.getElem?_of_mem hq
  have hj2 : (ws ++ tail)[ws.length + j]? = some q := by
    rw [List.getElem?_append_right (Nat.le_add_right _ _), Nat.add_sub_cancel_left]
    exact hj
  refine ⟨hP _ _ hj2, fun h => ?_⟩
  have h1 : some q.1 ∈ al.map some := List.mem_map.mpr ⟨q.1, h, rfl⟩
  rw [hal] at h1
  obtain ⟨i, -, hi⟩ := List.mem_map.mp h1
  cases hw : ws[i]? with
  | none => rw [hw] at hi; cases hi
  | some x =>
    rw [hw] at hi
    have hx : x.1 = q.1 := Option.some.inj hi
    have hlt : i < ws.length := (List.getElem?_eq_some_iff.mp hw).1
    have hi2 : (ws ++ tail)[i]? = some x := by rw [List.getElem?_append_left hlt]; exact hw
    have := hD.1 i (ws.length + j) x q hi2 hj2 hx
    omega
theorem zPo_c {n : Nat} {B : Nat → Nat} {F F' : zF} (h : ∀ f, f < n → F.1 f = F'.1 f ∧ F.2.1 f = F'.2.1 f ∧ F.2.2 f = F'.2.2 f) : zPo n B F = zPo n B F' := by
  unfold zPo
  apply List.map_congr_left
  intro f hf
  obtain ⟨h1, h2, h3⟩ := h f (List.mem_range.mp hf)
  rw [h1, h2, h3]
theorem zPo_j {n : Nat} {B : Nat → Nat} {pg : Nat → Int32} {F : zF} : zPo n B (zPf pg) = zPo n B (zFj n pg F) := zPo_c (fun _ h => ⟨(if_pos h).symm, (if_pos h).symm, (if_pos h).symm⟩)
def zAl (X M : Nat → Nat) : List Nat := [X 0, X 1, X 2, X 3, X 4, X 5, X 6, X 7, X 8, X 9, X 10, X 11, X 12, X 13, X 14, X 15, X 16, X 17, X 18, X 19, X 20, X 21, X 22, X 23, M 0, M 2, M 3, M 4, M 5, M 6, M 7, M 12, M 13, M 16, M 19, M 20, M 21, M 22, M 26, M 27, M 35, M 36, M 37, M 38, M 39]
/-- what is kept of an image is the same on both sides -/
def zKq (n kfd rko : Nat) (kft kkn kdy rkf rkk rkd : Int32) (kr km kv ks kg rkr rkm rkg rks rkh : Nat → Int32) : Prop := rkf = kft ∧ rkk = kkn ∧ rkd = kdy ∧ rko = kfd ∧ rkr = kr ∧ rks = ks ∧ rkh = kg ∧ (∀ f, f < n → rkm f = km f) ∧ (∀ f, f < n → rkg f = kv f) ∧ (∀ f, n ≤ f → f < 4 → km f = 0) ∧ (∀ f, n ≤ f → f < 4 → kv f = 0) ∧ (0 < n → zRo n kr) ∧ (∃ j, j ≤ 9 ∧ kft = nI j) ∧ zKb kkn ∧ kfd ≤ 6 ∧ (∀ i, i < kfd → ∃ j, j < 9 ∧ ks i = nI j)
theorem zSm_c {a b : Nat → Int32} {n : Nat} (hn : n ≤ 4) (h : ∀ f, f < n → a f = b f) (h0 : ∀ f, n ≤ f → f < 4 → b f = 0) : zSum a n = zSum b 4 := by
  rw [zSum_cg n h]
  have G : ∀ m, n ≤ m → m ≤ 4 → zSum b n = zSum b m := by
    intro m
    induction m with
    | zero => intro h1 _; rw [Nat.le_zero.mp h1]
    | succ m ih =>
      intro h1 h2
      rcases Nat.lt_or_ge n (m + 1) with q | q
      · rw [ih (by omega) (by omega)]
        exact zSum_0 (h0 m (by omega) (by omega)).symm
      · rw [show n = m + 1 by omega]
  exact G 4 hn (Nat.le_refl _)
theorem zLn_b {ln : Nat} {cd : Int32} (h : ln ≤ 18) : zLn ln cd ≤ 18 := by
  unfold zLn
  by_cases q : (zIn cd 32 126 && decide (ln < 18)) = true
  · rw [if_pos q]; exact of_decide_eq_true (z_and_r q)
  · rw [if_neg q]; exact h
theorem zRr_ro {n : Nat} {r : Nat → Int32} {s f : Int32} (hn : n ≤ 4) (h : 0 < n → zRo n r) : 0 < n → zRo n (zRr n r s f) := by
  intro hp
  unfold zRr
  by_cases q : zRk n s f = true
  · rw [if_pos q]
    intro j hj
    unfold upd
    by_cases e : j = s.toNatClampNeg
    · rw [if_pos e]
      unfold zRk at q
      have q2 := z_and_r q
      by_cases hf : f = -1
      · exact Or.inl hf
      · rw [decide_eq_false hf, Bool.false_or] at q2
        exact Or.inr (z_f8 hn q2)
    · rw [if_neg e]; exact h hp j hj
  · rw [if_neg q]; exact h hp
theorem zBd_b {n bd : Nat} {s f w : Int32} (h : bd ≤ 30) : zBd n bd s f w ≤ 30 := by
  unfold zBd
  by_cases q : (zBk n s f w && decide (bd < 30)) = true
  · rw [if_pos q]; exact of_decide_eq_true (z_and_r q)
  · rw [if_neg q]; exact h
theorem zFd_b {n fd : Nat} {s f : Int32} (h : fd ≤ 6) : zFd n fd s f ≤ 6 := by
  unfold zFd
  by_cases q : zFk n fd s f = true
  · rw [if_pos q]
    unfold zFk at q
    exact of_decide_eq_true (z_and_r q)
  · rw [if_neg q]; exact h
theorem zFs_b {n fd : Nat} {fs : Nat → Int32} {s f : Int32} (h : ∀ i, i < fd → ∃ j, j < 9 ∧ fs i = nI j) : ∀ i, i < zFd n fd s f → ∃ j, j < 9 ∧ zFs n fs fd s f s i = nI j := by
  unfold zFd zFs
  by_cases q : zFk n fd s f = true
  · rw [if_pos q, if_pos q]
    intro i hi
    unfold upd
    by_cases e : i = fd
    · rw [if_pos e]
      unfold zFk at q
      have q2 := z_and_r (z_and_l (z_and_l q))
      have a0 : ¬ s < 0 := fun u => by rw [zIn_lo u] at q2; exact absurd q2 (by decide)
      have a1 : ¬ 8 < s := fun u => by rw [zIn_hi u] at q2; exact absurd q2 (by decide)
      obtain ⟨j, hj, e2⟩ := nI_of2 (x := s) (M := 8) (n := 8) rfl a0 (Int32.not_lt.mp a1)
      exact ⟨j, by omega, e2⟩
    · rw [if_neg e]; exact h i (by omega)
  · rw [if_neg q, if_neg q]; exact h
theorem zGs_z {g r : Nat → Int32} {n f : Nat} (hro : zRo n r) (h : n ≤ f) (h4 : f < 4) : ∀ k, k ≤ 8 → zGs g r (nI f) k = 0 := by
  intro k
  induction k with
  | zero => intro _; rfl
  | succ k ih =>
    intro hk
    show (if r k = nI f then zGs g r (nI f) k + g k else zGs g r (nI f) k) = 0
    rw [if_neg (fun q => by
      rcases hro k (by omega) with e | ⟨j, hj, e⟩
      · rw [e] at q; exact nI_nm1 (f := f) (by omega) q.symm
      · rw [e] at q
        have := (nI_eq (a := j) (b := f) (by omega) (by omega)).mp q
        omega), ih (by omega)]
section ZDY
variable {F : zF} {r me mM : Nat → Int32} {ft kn : Int32} {n : Nat} {g : Nat → Int32}
theorem zDy_m (h : ∀ f, f < n → mM f = me f) : ∀ f, f < n → (if f < n then mM f + zGs g r (nI f) 8 else mM f) = (if 0 < n then (fun f => me f + zGs g r (nI f) 8) else me) f := by
  intro f hf
  rw [if_pos hf, if_pos (by omega), h f hf]
theorem zDy_0 (hro0 : 0 < n → zRo n r) (h : ∀ f, n ≤ f → f < 4 → me f = 0) : ∀ f, n ≤ f → f < 4 → (if 0 < n then (fun f => me f + zGs g r (nI f) 8) else me) f = 0 := by
  intro f h1 h2
  by_cases hp : 0 < n
  · rw [if_pos hp, h f h1 h2, zGs_z (hro0 hp) h1 h2 8 (Nat.le_refl _)]
    rfl
  · rw [if_neg hp, h f h1 h2]
theorem zDy_f (h : ∃ j, j ≤ 9 ∧ ft = nI j) : ∃ j, j ≤ 9 ∧ (if 0 < n then zDf F r ft kn 8 else ft) = nI j := by
  by_cases hp : 0 < n
  · rw [if_pos hp]; exact zDf_b h 8
  · rw [if_neg hp]; exact h
theorem zDy_k (hn : n ≤ 4) (hF : zFo n F) (hro0 : 0 < n → zRo n r) (h : zKb kn) : zKb (if 0 < n then zDk F r ft kn 8 else kn) := by
  by_cases hp : 0 < n
  · rw [if_pos hp]; exact zDk_b hn hF (hro0 hp) h 8 (Nat.le_refl _)
  · rw [if_neg hp]; exact h
end ZDY
theorem zIm_i {n c9 : Nat} {hb0 ikb : Bool} {rkc : Int32} (h : hb0 = (ikb && decide (rkc = nI c9))) : (decide (0 < n) || hb0) = ((decide (0 < n) || ikb) && decide ((if 0 < n then nI c9 else rkc) = nI c9)) := by
  by_cases hp : 0 < n
  · rw [decide_eq_true hp, if_pos hp, decide_eq_true rfl]; rfl
  · rw [decide_eq_false hp, if_neg hp, Bool.false_or, Bool.false_or]; exact h
theorem zIm_k {n c9 : Nat} {ikb : Bool} {rkc : Int32} (h : ikb = true → ∃ q, q ≤ c9 ∧ rkc = nI q) : (decide (0 < n) || ikb) = true → ∃ q, q ≤ c9 ∧ (if 0 < n then nI c9 else rkc) = nI q := by
  intro hk
  by_cases hp : 0 < n
  · rw [if_pos hp]; exact ⟨c9, Nat.le_refl _, rfl⟩
  · rw [decide_eq_false hp, Bool.false_or] at hk
    rw [if_neg hp]; exact h hk
section ZRS
variable {n kfd rko fd : Nat} {kft kkn kdy rkf rkk rkd ft kn dy : Int32} {kr km kv ks kg rkr rkm rkg rks rkh r me fe fs ff mM fM : Nat → Int32} {hb0 : Bool}
theorem zIm_q (hkq : hb0 = true → zKq n kfd rko kft kkn kdy rkf rkk rkd kr km kv ks kg rkr rkm rkg rks rkh) (hro0 : 0 < n → zRo n r) (hft : ∃ j, j ≤ 9 ∧ ft = nI j) (hkn : zKb kn) (hfd : fd ≤ 6) (hfs : ∀ i, i < fd → ∃ j, j < 9 ∧ fs i = nI j) (hme : ∀ f, f < n → mM f = me f) (hfe : ∀ f, f < n → fM f = fe f) (hme0 : ∀ f, n ≤ f → f < 4 → me f = 0) (hfe0 : ∀ f, n ≤ f → f < 4 → fe f = 0) :
    (decide (0 < n) || hb0) = true → zKq n (if 0 < n then fd else kfd) (if 0 < n then fd else rko) (if 0 < n then ft else kft) (if 0 < n then kn else kkn) (if 0 < n then dy else kdy) (if 0 < n then ft else rkf) (if 0 < n then kn else rkk) (if 0 < n then dy else rkd) (if 0 < n then r else kr) (if 0 < n then me else km) (if 0 < n then fe else kv) (if 0 < n then fs else ks) (if 0 < n then ff else kg) (if 0 < n then r else rkr) (if 0 < n then mM else rkm) (if 0 < n then fM else rkg) (if 0 < n then fs else rks) (if 0 < n then ff else rkh) := by
  intro hk
  by_cases hp : 0 < n
  · simp only [if_pos hp]
    exact ⟨rfl, rfl, rfl, rfl, rfl, rfl, rfl, hme, hfe, hme0, hfe0, hro0, hft, hkn, hfd, hfs⟩
  · rw [decide_eq_false hp, Bool.false_or] at hk
    simp only [if_neg hp]
    exact hkq hk
theorem zRs_e {α : Type} {b : Bool} {x x' y : α} (h : b = hb0) (e : hb0 = true → x' = x) : (if b = true then x' else y) = (if hb0 = true then x else y) := by
  subst h
  by_cases q : b = true
  · rw [if_pos q, if_pos q, e q]
  · rw [if_neg q, if_neg q]
theorem zRs_p {P : Int32 → Prop} {x y : Int32} (h1 : hb0 = true → P x) (h2 : P y) : P (if hb0 = true then x else y) := by
  by_cases q : hb0 = true
  · rw [if_pos q]; exact h1 q
  · rw [if_neg q]; exact h2
theorem zRs_P {α : Type} (P : α → Prop) {x y : α} (h1 : hb0 = true → P x) (h2 : P y) : P (if hb0 = true then x else y) := by
  by_cases q : hb0 = true
  · rw [if_pos q]; exact h1 q
  · rw [if_neg q]; exact h2
theorem zRs_2 {α β : Type} (P : α → β → Prop) {x y : α} {x' y' : β} (h1 : hb0 = true → P x x') (h2 : P y y') : P (if hb0 = true then x else y) (if hb0 = true then x' else y') := by
  by_cases q : hb0 = true
  · rw [if_pos q, if_pos q]; exact h1 q
  · rw [if_neg q, if_neg q]; exact h2
end ZRS
theorem z_cmp (x : Int64) : lg_cmp x x = 0 := by simp [lg_cmp]
theorem zCv_c {pg : Nat → Int32} {ln : Nat} (hln : ln ≤ 18) : zWhole pg ln = false ∨ (zWhole pg ln = true ∧ zCg pg ln + 1 = 4 * 2 ∧ ln = 4 * 2 + 1 ∧ (∀ j, j + 1 < 4 * 2 → zR0 pg j = true) ∧ zIn (pg (4 * 2) - 48) 0 9 = true ∧ zRl pg (zCg pg ln) ln = ln) ∨ (zWhole pg ln = true ∧ zCg pg ln + 1 = 4 * 3 ∧ ln = 4 * 3 + 1 ∧ (∀ j, j + 1 < 4 * 3 → zR0 pg j = true) ∧ zIn (pg (4 * 3) - 48) 0 9 = true ∧ zRl pg (zCg pg ln) ln = ln) ∨ (zWhole pg ln = true ∧ zCg pg ln + 1 = 4 * 4 ∧ ln = 4 * 4 + 1 ∧ (∀ j, j + 1 < 4 * 4 → zR0 pg j = true) ∧ zIn (pg (4 * 4) - 48) 0 9 = true ∧ zRl pg (zCg pg ln) ln = ln) := by
  by_cases h : zWhole pg ln = true
  · obtain ⟨N, h1, h2, h3, h4, h5, h6, h7⟩ := zWh_N hln h
    rcases (show N = 2 ∨ N = 3 ∨ N = 4 by omega) with rfl | rfl | rfl
    · exact Or.inr (Or.inl ⟨h, h3, h4, h5, h6, h7⟩)
    · exact Or.inr (Or.inr (Or.inl ⟨h, h3, h4, h5, h6, h7⟩))
    · exact Or.inr (Or.inr (Or.inr ⟨h, h3, h4, h5, h6, h7⟩))
  · exact Or.inl (Bool.eq_false_iff.mpr h)
theorem zCv_i {ikb : Bool} {rkc : Int32} {c9 : Nat} (hkc : ikb = true → ∃ q, q ≤ c9 ∧ rkc = nI q) (hc : c9 ≤ 512) : false = (ikb && decide (rkc = nI (c9 + 1))) := by
  cases h : ikb with
  | false => rfl
  | true =>
    obtain ⟨q, h1, h2⟩ := hkc h
    rw [decide_eq_false (fun e => by
      rw [h2] at e
      have := (nI_eq (a := q) (b := c9 + 1) (by omega) (by omega)).mp e
      omega)]
    rfl
