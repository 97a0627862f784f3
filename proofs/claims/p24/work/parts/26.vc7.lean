/-! ===== the sharing's numbers ===== -/
theorem q_mat_cg {X Y : q_X} (h0 : X 0 0 1 = Y 0 0 1) (h10 : ∀ k, X 10 k 3 = Y 10 k 3) (h11 : ∀ k s, X 11 k s = Y 11 k s) (lo i j : Int) : q_mat X lo i j = q_mat Y lo i j := by
  unfold q_mat
  rw [h0]
  exact q_sum_cg _ (fun k _ _ => by rw [h10, h11, h11])
theorem q_cof_cg {X Y : q_X} (h0 : X 0 0 1 = Y 0 0 1) (h10 : ∀ k, X 10 k 3 = Y 10 k 3) (h11 : ∀ k s, X 11 k s = Y 11 k s) (lo i j : Int) : q_cof X lo i j = q_cof Y lo i j := by
  unfold q_cof
  simp only [q_mat_cg h0 h10 h11]
theorem q_det_cg {X Y : q_X} (h0 : X 0 0 1 = Y 0 0 1) (h10 : ∀ k, X 10 k 3 = Y 10 k 3) (h11 : ∀ k s, X 11 k s = Y 11 k s) (lo : Int) : q_det X lo = q_det Y lo := by
  unfold q_det
  simp only [q_mat_cg h0 h10 h11, q_cof_cg h0 h10 h11]
theorem q_mat_bd {X : q_X} (hn : 0 ≤ X 0 0 1 ∧ X 0 0 1 ≤ 6) (hw : ∀ k, q_in k 6 → ∀ i, q_in i 3 → -9 ≤ X 11 k i ∧ X 11 k i ≤ 9) (lo : Int) {i j : Int} (hi : q_in i 3) (hj : q_in j 3) : -486 ≤ q_mat X lo i j ∧ q_mat X lo i j ≤ 486 := by
  have h := q_sum_bd (f := fun k => if ¬ k = lo ∧ X 10 k 3 = 0 then X 11 k i * X 11 k j else 0) (B := 81) (X 0 0 1).toNat (fun k h0 h1 => by
    have hk : q_in k 6 := ⟨h0, by omega⟩
    have := q_mul_bd (A := 9) (B := 9) (hw k hk i hi) (hw k hk j hj)
    by_cases q : ¬ k = lo ∧ X 10 k 3 = 0
    · simp only [if_pos q]
      omega
    · simp only [if_neg q]
      omega)
  have e : (((X 0 0 1).toNat : Nat) : Int) = X 0 0 1 := Int.toNat_of_nonneg hn.1
  unfold q_mat
  rw [e] at h
  omega
theorem q_cof_bd {X : q_X} (hn : 0 ≤ X 0 0 1 ∧ X 0 0 1 ≤ 6) (hw : ∀ k, q_in k 6 → ∀ i, q_in i 3 → -9 ≤ X 11 k i ∧ X 11 k i ≤ 9) (lo i j : Int) : -472392 ≤ q_cof X lo i j ∧ q_cof X lo i j ≤ 472392 := by
  have m : ∀ a b : Int, -486 ≤ q_mat X lo (a % 3) (b % 3) ∧ q_mat X lo (a % 3) (b % 3) ≤ 486 := fun a b => q_mat_bd hn hw lo ⟨by omega, by omega⟩ ⟨by omega, by omega⟩
  have h1 := q_mul_bd (A := 486) (B := 486) (m (i + 1) (j + 1)) (m (i + 2) (j + 2))
  have h2 := q_mul_bd (A := 486) (B := 486) (m (i + 1) (j + 2)) (m (i + 2) (j + 1))
  unfold q_cof
  omega
theorem q_det_bd {X : q_X} (hn : 0 ≤ X 0 0 1 ∧ X 0 0 1 ≤ 6) (hw : ∀ k, q_in k 6 → ∀ i, q_in i 3 → -9 ≤ X 11 k i ∧ X 11 k i ≤ 9) (lo : Int) : -700000000 ≤ q_det X lo ∧ q_det X lo ≤ 700000000 := by
  have h0 : q_in 0 3 := ⟨by decide, by decide⟩
  have h1 : q_in 1 3 := ⟨by decide, by decide⟩
  have h2 : q_in 2 3 := ⟨by decide, by decide⟩
  have a := q_mul_bd (A := 486) (B := 472392) (q_mat_bd hn hw lo h0 h0) (q_cof_bd hn hw lo 0 0)
  have b := q_mul_bd (A := 486) (B := 472392) (q_mat_bd hn hw lo h0 h1) (q_cof_bd hn hw lo 0 1)
  have c := q_mul_bd (A := 486) (B := 472392) (q_mat_bd hn hw lo h0 h2) (q_cof_bd hn hw lo 0 2)
  unfold q_det
  omega
theorem q_Inv.dir {n : Int} {X : q_X} (h : q_Inv n X) : ∀ k, q_in k 6 → ∀ i, q_in i 3 → -9 ≤ X 11 k i ∧ X 11 k i ≤ 9 := fun k hk i hi => (h.whl hk).1 i hi
/-- what is summed to a wish -/
theorem q_wsum_bd {d0 d1 d2 a0 a1 a2 : Int} (h0 : -9 ≤ d0 ∧ d0 ≤ 9) (h1 : -9 ≤ d1 ∧ d1 ≤ 9) (h2 : -9 ≤ d2 ∧ d2 ≤ 9) (g0 : -142000000000 ≤ a0 ∧ a0 ≤ 142000000000) (g1 : -142000000000 ≤ a1 ∧ a1 ≤ 142000000000) (g2 : -142000000000 ≤ a2 ∧ a2 ≤ 142000000000) : -4000000000000 ≤ d0 * a0 + d1 * a1 + d2 * a2 ∧ d0 * a0 + d1 * a1 + d2 * a2 ≤ 4000000000000 := by
  have a := q_mul_bd (A := 9) (B := 142000000000) h0 g0
  have b := q_mul_bd (A := 9) (B := 142000000000) h1 g1
  have c := q_mul_bd (A := 9) (B := 142000000000) h2 g2
  omega
theorem q_asum_bd {c0 c1 c2 t0 t1 t2 : Int} (h0 : -472392 ≤ c0 ∧ c0 ≤ 472392) (h1 : -472392 ≤ c1 ∧ c1 ≤ 472392) (h2 : -472392 ≤ c2 ∧ c2 ≤ 472392) (g0 : -100000 ≤ t0 ∧ t0 ≤ 100000) (g1 : -100000 ≤ t1 ∧ t1 ≤ 100000) (g2 : -100000 ≤ t2 ∧ t2 ≤ 100000) : -142000000000 ≤ c0 * t0 + c1 * t1 + c2 * t2 ∧ c0 * t0 + c1 * t1 + c2 * t2 ≤ 142000000000 := by
  have a := q_mul_bd (A := 472392) (B := 100000) h0 g0
  have b := q_mul_bd (A := 472392) (B := 100000) h1 g1
  have c := q_mul_bd (A := 472392) (B := 100000) h2 g2
  omega
theorem q_div_bd {v d B : Int} (h : -B ≤ v ∧ v ≤ B) (hd : 1 ≤ d) : -B ≤ v / d ∧ v / d ≤ B := by
  have := q_quo_bd h hd
  unfold q_quo at this
  rw [if_pos (by omega)] at this
  exact this
/-- what a turn of a wheel leaves -/
theorem q_gv_same {X : q_X} {k w : Int} {p : Nat} {k' s : Int} (h : (p = 0 ∧ s ≤ 1) ∨ (1 ≤ p ∧ p ≤ 4) ∨ (6 ≤ p ∧ p ≤ 8) ∨ (p = 10 ∧ 1 ≤ s ∧ s ≤ 3) ∨ p = 11 ∨ (p = 10 ∧ ¬ k' = k)) : q_gv X k w p k' s = X p k' s := by
  unfold q_gv
  (try simp only)
  split
  · unfold q_tl
    rw [if_neg (by omega), if_neg (by omega), if_neg (by omega), if_neg (by omega)]
    dsimp only
    rw [if_neg (by omega), if_neg (by omega), if_neg (by omega)]
  · dsimp only
    rw [if_neg (by omega), if_neg (by omega), if_neg (by omega)]
theorem q_gvs_same {W : q_X} {p : Nat} {k' s : Int} (h : (p = 0 ∧ s ≤ 1) ∨ (1 ≤ p ∧ p ≤ 4) ∨ (6 ≤ p ∧ p ≤ 8) ∨ (p = 10 ∧ 1 ≤ s ∧ s ≤ 3) ∨ p = 11) (X : q_X) : ∀ n : Nat, q_gvs W n X p k' s = X p k' s := by
  intro n
  induction n with
  | zero => rfl
  | succ n ih =>
    unfold q_gvs
    (try simp only)
    split
    · rw [q_gv_same (by omega)]
      exact ih
    · exact ih
/-- a wheel whose turn is still to come stands as it did -/
theorem q_gvs_wh {W X : q_X} {k s : Int} : ∀ n : Nat, n ≤ k → q_gvs W n X 10 k s = X 10 k s := by
  intro n
  induction n with
  | zero => intro _; rfl
  | succ n ih =>
    intro hn
    unfold q_gvs
    (try simp only)
    split
    · rw [q_gv_same (by omega)]
      exact ih (by omega)
    · exact ih (by omega)
/-- the reasons stay reasons -/
theorem q_gv_rs {X : q_X} {k w : Int} (hk : q_in k 6) (h : ∀ i, q_in i 3 → -100 ≤ X 9 0 i ∧ X 9 0 i ≤ 100) : ∀ i, q_in i 3 → -100 ≤ q_gv X k w 9 0 i ∧ q_gv X k w 9 0 i ≤ 100 := by
  intro i hi
  have h1 := h i hi
  simp only [q_in] at hk
  unfold q_gv
  (try simp only)
  split
  · unfold q_tl
    split
    · omega
    · split
      · omega
      · split
        · split <;> omega
        · rw [if_neg (by omega)]
          dsimp only
          rw [if_neg (by omega), if_neg (by omega), if_neg (by omega)]
          exact h1
  · dsimp only
    rw [if_neg (by omega), if_neg (by omega), if_neg (by omega)]
    exact h1
theorem q_gvs_rs {W X : q_X} (h : ∀ i, q_in i 3 → -100 ≤ X 9 0 i ∧ X 9 0 i ≤ 100) : ∀ n : Nat, n ≤ 6 → ∀ i, q_in i 3 → -100 ≤ q_gvs W n X 9 0 i ∧ q_gvs W n X 9 0 i ≤ 100 := by
  intro n
  induction n with
  | zero => intro _; exact h
  | succ n ih =>
    intro hn
    unfold q_gvs
    (try simp only)
    split
    · exact q_gv_rs ⟨by omega, by omega⟩ (ih (by omega))
    · exact ih (by omega)
