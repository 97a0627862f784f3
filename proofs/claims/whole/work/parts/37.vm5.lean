/-! ===== the determinant is never below 0 ===== -/
theorem qd_all (u : Int → Int → Int) : ∀ n : Nat, (∀ x y z : Int, 0 ≤ q_sum (fun k => u k 0 * u k 0) n * (x * x) + q_sum (fun k => u k 1 * u k 1) n * (y * y) + q_sum (fun k => u k 2 * u k 2) n * (z * z) + 2 * (q_sum (fun k => u k 0 * u k 1) n * (x * y)) + 2 * (q_sum (fun k => u k 0 * u k 2) n * (x * z)) + 2 * (q_sum (fun k => u k 1 * u k 2) n * (y * z))) ∧
    (∀ x y z : Int, 0 ≤ (q_sum (fun k => u k 1 * u k 1) n * q_sum (fun k => u k 2 * u k 2) n - q_sum (fun k => u k 1 * u k 2) n * q_sum (fun k => u k 1 * u k 2) n) * (x * x) + (q_sum (fun k => u k 0 * u k 0) n * q_sum (fun k => u k 2 * u k 2) n - q_sum (fun k => u k 0 * u k 2) n * q_sum (fun k => u k 0 * u k 2) n) * (y * y) + (q_sum (fun k => u k 0 * u k 0) n * q_sum (fun k => u k 1 * u k 1) n - q_sum (fun k => u k 0 * u k 1) n * q_sum (fun k => u k 0 * u k 1) n) * (z * z) + 2 * ((q_sum (fun k => u k 0 * u k 2) n * q_sum (fun k => u k 1 * u k 2) n - q_sum (fun k => u k 0 * u k 1) n * q_sum (fun k => u k 2 * u k 2) n) * (x * y)) + 2 * ((q_sum (fun k => u k 0 * u k 1) n * q_sum (fun k => u k 1 * u k 2) n - q_sum (fun k => u k 0 * u k 2) n * q_sum (fun k => u k 1 * u k 1) n) * (x * z)) + 2 * ((q_sum (fun k => u k 0 * u k 1) n * q_sum (fun k => u k 0 * u k 2) n - q_sum (fun k => u k 1 * u k 2) n * q_sum (fun k => u k 0 * u k 0) n) * (y * z))) ∧
    0 ≤ q_sum (fun k => u k 0 * u k 0) n * (q_sum (fun k => u k 1 * u k 1) n * q_sum (fun k => u k 2 * u k 2) n - q_sum (fun k => u k 1 * u k 2) n * q_sum (fun k => u k 1 * u k 2) n) + q_sum (fun k => u k 0 * u k 1) n * (q_sum (fun k => u k 1 * u k 2) n * q_sum (fun k => u k 0 * u k 2) n - q_sum (fun k => u k 0 * u k 1) n * q_sum (fun k => u k 2 * u k 2) n) + q_sum (fun k => u k 0 * u k 2) n * (q_sum (fun k => u k 0 * u k 1) n * q_sum (fun k => u k 1 * u k 2) n - q_sum (fun k => u k 1 * u k 1) n * q_sum (fun k => u k 0 * u k 2) n) := by
  intro n
  induction n with
  | zero => simp [q_sum]
  | succ n ih =>
    obtain ⟨h1, h2, h3⟩ := ih
    have s : ∀ f : Int → Int, q_sum f (n + 1) = q_sum f n + f n := fun _ => rfl
    simp only [s]
    generalize q_sum (fun k => u k 0 * u k 0) n = a at *
    generalize q_sum (fun k => u k 1 * u k 1) n = b at *
    generalize q_sum (fun k => u k 2 * u k 2) n = c at *
    generalize q_sum (fun k => u k 0 * u k 1) n = f at *
    generalize q_sum (fun k => u k 0 * u k 2) n = g at *
    generalize q_sum (fun k => u k 1 * u k 2) n = e at *
    generalize u n 0 = p
    generalize u n 1 = q
    generalize u n 2 = r
    refine ⟨fun x y z => ?_, fun x y z => ?_, ?_⟩
    · have hh := h1 x y z
      have sq : 0 ≤ (p * x + q * y + r * z) * (p * x + q * y + r * z) := by
        rcases Int.le_total 0 (p * x + q * y + r * z) with w | w
        · exact Int.mul_nonneg w w
        · exact Int.mul_nonneg_of_nonpos_of_nonpos w w
      have id : (a + p * p) * (x * x) + (b + q * q) * (y * y) + (c + r * r) * (z * z) + 2 * ((f + p * q) * (x * y)) + 2 * ((g + p * r) * (x * z)) + 2 * ((e + q * r) * (y * z)) = (a * (x * x) + b * (y * y) + c * (z * z) + 2 * (f * (x * y)) + 2 * (g * (x * z)) + 2 * (e * (y * z))) + (p * x + q * y + r * z) * (p * x + q * y + r * z) := by grind
      rw [id]
      exact Int.add_nonneg hh sq
    · have hh := h2 x y z
      have hq := h1 (q * z - r * y) (r * x - p * z) (p * y - q * x)
      have id : ((b + q * q) * (c + r * r) - (e + q * r) * (e + q * r)) * (x * x) + ((a + p * p) * (c + r * r) - (g + p * r) * (g + p * r)) * (y * y) + ((a + p * p) * (b + q * q) - (f + p * q) * (f + p * q)) * (z * z) + 2 * (((g + p * r) * (e + q * r) - (f + p * q) * (c + r * r)) * (x * y)) + 2 * (((f + p * q) * (e + q * r) - (g + p * r) * (b + q * q)) * (x * z)) + 2 * (((f + p * q) * (g + p * r) - (e + q * r) * (a + p * p)) * (y * z)) = ((b * c - e * e) * (x * x) + (a * c - g * g) * (y * y) + (a * b - f * f) * (z * z) + 2 * ((g * e - f * c) * (x * y)) + 2 * ((f * e - g * b) * (x * z)) + 2 * ((f * g - e * a) * (y * z))) + (a * ((q * z - r * y) * (q * z - r * y)) + b * ((r * x - p * z) * (r * x - p * z)) + c * ((p * y - q * x) * (p * y - q * x)) + 2 * (f * ((q * z - r * y) * (r * x - p * z))) + 2 * (g * ((q * z - r * y) * (p * y - q * x))) + 2 * (e * ((r * x - p * z) * (p * y - q * x)))) := by grind
      rw [id]
      exact Int.add_nonneg hh hq
    · have hq := h2 p q r
      have id : (a + p * p) * ((b + q * q) * (c + r * r) - (e + q * r) * (e + q * r)) + (f + p * q) * ((e + q * r) * (g + p * r) - (f + p * q) * (c + r * r)) + (g + p * r) * ((f + p * q) * (e + q * r) - (b + q * q) * (g + p * r)) = (a * (b * c - e * e) + f * (e * g - f * c) + g * (f * e - b * g)) + ((b * c - e * e) * (p * p) + (a * c - g * g) * (q * q) + (a * b - f * f) * (r * r) + 2 * ((g * e - f * c) * (p * q)) + 2 * ((f * e - g * b) * (p * r)) + 2 * ((f * g - e * a) * (q * r))) := by grind
      rw [id]
      exact Int.add_nonneg h3 hq
theorem q_det_nn (Y : q_X) (lo : Int) : 0 ≤ q_det Y lo := by
  have h := (qd_all (fun k i => if ¬ k = lo ∧ Y 10 k 3 = 0 then Y 11 k i else 0) (Y 0 0 1).toNat).2.2
  have e : ∀ i j, q_mat Y lo i j = q_sum (fun k => (if ¬ k = lo ∧ Y 10 k 3 = 0 then Y 11 k i else 0) * (if ¬ k = lo ∧ Y 10 k 3 = 0 then Y 11 k j else 0)) (Y 0 0 1).toNat := fun i j => q_sum_cg _ (fun k _ _ => by
    (try dsimp only)
    split
    · rfl
    · exact (Int.mul_zero 0).symm)
  have sy : ∀ i j, q_mat Y lo i j = q_mat Y lo j i := fun i j => q_sum_cg _ (fun k _ _ => by
    (try dsimp only)
    rw [Int.mul_comm])
  rw [← e, ← e, ← e, ← e, ← e, ← e] at h
  have hd : q_det Y lo = q_mat Y lo 0 0 * (q_mat Y lo 1 1 * q_mat Y lo 2 2 - q_mat Y lo 1 2 * q_mat Y lo 2 1) + q_mat Y lo 0 1 * (q_mat Y lo 1 2 * q_mat Y lo 2 0 - q_mat Y lo 1 0 * q_mat Y lo 2 2) + q_mat Y lo 0 2 * (q_mat Y lo 1 0 * q_mat Y lo 2 1 - q_mat Y lo 1 1 * q_mat Y lo 2 0) := rfl
  rw [hd, sy 2 1, sy 2 0, sy 1 0]
  exact h
theorem q_ff_spec (Y : q_X) : ∀ n : Nat, (q_ff Y n = -1 ∧ ∀ k : Int, 0 ≤ k → k < n → Y 10 k 3 = 0) ∨ (0 ≤ q_ff Y n ∧ q_ff Y n < n ∧ ¬ Y 10 (q_ff Y n) 3 = 0 ∧ ∀ k : Int, 0 ≤ k → k < q_ff Y n → Y 10 k 3 = 0) := by
  intro n
  induction n with
  | zero => exact Or.inl ⟨rfl, fun k h0 h1 => absurd h1 (by omega)⟩
  | succ n ih =>
    unfold q_ff
    rcases ih with ⟨a, b⟩ | ⟨a, b, c, d⟩
    · rw [if_neg (by omega)]
      by_cases z : Y 10 n 3 = 0
      · rw [if_pos z]
        refine Or.inl ⟨rfl, fun k h0 h1 => ?_⟩
        by_cases y : k = n
        · rw [y]; exact z
        · exact b k h0 (by omega)
      · rw [if_neg z]
        exact Or.inr ⟨by omega, by omega, z, b⟩
    · rw [if_pos a]
      exact Or.inr ⟨a, by omega, c, d⟩
