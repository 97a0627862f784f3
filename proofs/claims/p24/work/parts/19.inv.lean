/-! ===== the bounds, by name ===== -/
theorem q_sum_bd {f : Int → Int} {B : Int} : ∀ (n : Nat), (∀ k : Int, 0 ≤ k → k < n → -B ≤ f k ∧ f k ≤ B) → -(n * B) ≤ q_sum f n ∧ q_sum f n ≤ n * B := by
  intro n
  induction n with
  | zero => intro _; simp [q_sum]
  | succ n ih =>
    intro h
    obtain ⟨a, b⟩ := ih (fun k h0 h1 => h k h0 (by omega))
    obtain ⟨c, d⟩ := h n (by omega) (by omega)
    have e : ((n + 1 : Nat) : Int) * B = n * B + B := by rw [Int.natCast_succ, Int.add_mul, Int.one_mul]
    show -(((n + 1 : Nat) : Int) * B) ≤ q_sum f n + f n ∧ q_sum f n + f n ≤ ((n + 1 : Nat) : Int) * B
    rw [e]
    omega
theorem q_sum_cg {f g : Int → Int} : ∀ (n : Nat), (∀ k : Int, 0 ≤ k → k < n → f k = g k) → q_sum f n = q_sum g n := by
  intro n
  induction n with
  | zero => intro _; rfl
  | succ n ih =>
    intro h
    show q_sum f n + f n = q_sum g n + g n
    rw [ih (fun k h0 h1 => h k h0 (by omega)), h n (by omega) (by omega)]
theorem q_mul_bd {a b A B : Int} (ha : -A ≤ a ∧ a ≤ A) (hb : -B ≤ b ∧ b ≤ B) : -(A * B) ≤ a * b ∧ a * b ≤ A * B := by
  have h1 : a.natAbs ≤ A.natAbs := by omega
  have h2 : b.natAbs ≤ B.natAbs := by omega
  have h3 : (a * b).natAbs ≤ (A * B).natAbs := by
    rw [Int.natAbs_mul, Int.natAbs_mul]
    exact Nat.mul_le_mul h1 h2
  have h4 : 0 ≤ A * B := Int.mul_nonneg (by omega) (by omega)
  omega
theorem q_Inv.n {n : Int} {X : q_X} (h : q_Inv n X) : 0 ≤ n ∧ n ≤ 512 := h.1
theorem q_Inv.now {n : Int} {X : q_X} (h : q_Inv n X) : 0 ≤ X 0 0 0 ∧ X 0 0 0 ≤ 50700 := h.2.1
theorem q_Inv.cnt {n : Int} {X : q_X} (h : q_Inv n X) : 0 ≤ X 0 0 1 ∧ X 0 0 1 ≤ 6 := h.2.2.1
theorem q_Inv.rc {n : Int} {X : q_X} (h : q_Inv n X) : 1 ≤ X 0 0 2 ∧ X 0 0 2 ≤ 3 := h.2.2.2.1
theorem q_Inv.set {n : Int} {X : q_X} (h : q_Inv n X) : (0 ≤ X 1 0 0 ∧ X 1 0 0 ≤ 1000) ∧ (0 ≤ X 1 0 1 ∧ X 1 0 1 ≤ 1000) ∧ (1 ≤ X 1 0 2 ∧ X 1 0 2 ≤ 10000) ∧ (1 ≤ X 1 0 3 ∧ X 1 0 3 ≤ 100000) ∧ (0 ≤ X 1 0 4 ∧ X 1 0 4 ≤ 10000) := h.2.2.2.2.1
theorem q_Inv.giv {n : Int} {X : q_X} (h : q_Inv n X) {i : Int} (hi : q_in i 3) : (1 ≤ X 3 0 i ∧ X 3 0 i ≤ 1000) ∧ (-1000000 ≤ X 3 1 i ∧ X 3 1 i ≤ 1000000) ∧ (-100 ≤ X 3 2 i ∧ X 3 2 i ≤ 100) ∧ (-1000 ≤ X 3 3 i ∧ X 3 3 i ≤ 1000) := h.2.2.2.2.2.1 i hi
theorem q_Inv.axs {n : Int} {X : q_X} (h : q_Inv n X) {i : Int} (hi : q_in i 3) : (-(100000 * n + 21000 * X 0 0 0) ≤ X 6 0 i ∧ X 6 0 i ≤ 100000 * n + 21000 * X 0 0 0) ∧ X 5 0 i + q_wmom X i = X 6 0 i ∧ (-(2000000000 * X 0 0 0) ≤ X 4 0 i ∧ X 4 0 i ≤ 2000000000 * X 0 0 0) ∧ (-100000 ≤ X 7 0 i ∧ X 7 0 i ≤ 100000) := h.2.2.2.2.2.2.1 i hi
theorem q_Inv.whl {n : Int} {X : q_X} (h : q_Inv n X) {k : Int} (hk : q_in k 6) : (∀ i, q_in i 3 → -9 ≤ X 11 k i ∧ X 11 k i ≤ 9) ∧ (-1000000 ≤ X 10 k 0 ∧ X 10 k 0 ≤ 1000000) ∧ (0 ≤ X 10 k 1 ∧ X 10 k 1 ≤ 1000000) ∧ (0 ≤ X 10 k 2 ∧ X 10 k 2 ≤ 100000) ∧ (X 10 k 3 = 0 ∨ X 10 k 3 = 1) ∧ (-100000 ≤ X 10 k 4 ∧ X 10 k 4 ≤ 100000) ∧ (k < X 0 0 1 → 1 ≤ X 10 k 1 ∧ 1 ≤ X 10 k 2) := h.2.2.2.2.2.2.2.1 k hk
theorem q_Inv.rs {n : Int} {X : q_X} (h : q_Inv n X) {i : Int} (hi : q_in i 3) : -100 ≤ X 9 0 i ∧ X 9 0 i ≤ 100 := h.2.2.2.2.2.2.2.2 i hi
theorem q_wmom_bd {X : q_X} {i : Int} (hn : 0 ≤ X 0 0 1 ∧ X 0 0 1 ≤ 6) (hw : ∀ k, q_in k 6 → (-9 ≤ X 11 k i ∧ X 11 k i ≤ 9) ∧ (-1000000 ≤ X 10 k 0 ∧ X 10 k 0 ≤ 1000000)) : -54000000 ≤ q_wmom X i ∧ q_wmom X i ≤ 54000000 := by
  have h := q_sum_bd (f := fun k => X 11 k i * X 10 k 0) (B := 9000000) (X 0 0 1).toNat (fun k h0 h1 => by
    obtain ⟨a, b⟩ := hw k ⟨h0, by omega⟩
    exact q_mul_bd (A := 9) (B := 1000000) a b)
  have e : (((X 0 0 1).toNat : Nat) : Int) = X 0 0 1 := Int.toNat_of_nonneg hn.1
  unfold q_wmom
  rw [e] at h
  omega
theorem q_Inv.wm {n : Int} {X : q_X} (h : q_Inv n X) {i : Int} (hi : q_in i 3) : -54000000 ≤ q_wmom X i ∧ q_wmom X i ≤ 54000000 :=
  q_wmom_bd h.cnt (fun k hk => ⟨(h.whl hk).1 i hi, (h.whl hk).2.1⟩)
theorem q_Inv.mom {n : Int} {X : q_X} (h : q_Inv n X) {i : Int} (hi : q_in i 3) : -1300000000 ≤ X 5 0 i ∧ X 5 0 i ≤ 1300000000 := by
  have a := h.axs hi
  have b := h.wm hi
  have c := h.n
  have d := h.now
  omega
theorem q_quo_bd {v d B : Int} (h : -B ≤ v ∧ v ≤ B) (hd : 1 ≤ d) : -B ≤ q_quo v d ∧ q_quo v d ≤ B := by
  unfold q_quo
  rw [if_pos (by omega)]
  refine ⟨?_, ?_⟩
  · rw [Int.le_ediv_iff_mul_le (by omega)]
    have : -B * d ≤ -B * 1 := Int.mul_le_mul_of_nonpos_left (by omega) (by omega)
    omega
  · by_cases q : 0 ≤ v
    · exact Int.le_trans (Int.ediv_le_self d q) h.2
    · have : v / d < 0 := Int.ediv_neg_of_neg_of_pos (by omega) (by omega)
      omega
theorem q_Inv.rate {n : Int} {X : q_X} (h : q_Inv n X) {i : Int} (hi : q_in i 3) : -1300000000 ≤ q_rate X i ∧ q_rate X i ≤ 1300000000 := q_quo_bd (h.mom hi) (h.giv hi).1.1
theorem q_Inv.ang {n : Int} {X : q_X} (h : q_Inv n X) {i : Int} (hi : q_in i 3) : -102000000000000 ≤ X 4 0 i ∧ X 4 0 i ≤ 102000000000000 := by
  have a := h.axs hi
  have d := h.now
  omega
theorem q_Inv.fl {n : Int} {X : q_X} (h : q_Inv n X) : q_Fl X := fun k hk => (h.whl hk).2.2.2.2.1
theorem q_lim_bd {v a b : Int} (h : a ≤ b) : a ≤ q_lim v a b ∧ q_lim v a b ≤ b := by
  unfold q_lim
  split
  · omega
  · split <;> omega
theorem q_ab_bd {v B : Int} (h : -B ≤ v ∧ v ≤ B) : 0 ≤ q_ab v ∧ q_ab v ≤ B := by
  unfold q_ab
  split <;> omega
