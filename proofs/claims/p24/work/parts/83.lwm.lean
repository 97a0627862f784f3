/-! ===== wishes add up to the torques, but for what is rounded ===== -/
def ql_u (Y : q_X) (k i : Int) : Int := if Y 10 k 3 = 0 then Y 11 k i else 0
/-- what the first n wheels' wishes come to at an axis; how many of them work -/
def ql_s (Y : q_X) (t0 t1 t2 a : Int) (n : Nat) : Int := q_sum (fun k => if Y 10 k 3 = 0 then Y 11 k a * q_wsh Y k t0 t1 t2 else 0) n
def ql_m (Y : q_X) (n : Nat) : Int := q_sum (fun k => if Y 10 k 3 = 0 then 1 else 0) n
def ql_a (Y : q_X) (t0 t1 t2 i : Int) : Int := q_cof Y (-2000009) i 0 * t0 + q_cof Y (-2000009) i 1 * t1 + q_cof Y (-2000009) i 2 * t2
theorem ql_mat (Y : q_X) (i j : Int) : q_mat Y (-2000009) i j = q_sum (fun k => ql_u Y k i * ql_u Y k j) (Y 0 0 1).toNat := q_sum_cg _ (fun k h0 _ => by
  unfold ql_u
  (try dsimp only)
  by_cases z : Y 10 k 3 = 0
  · rw [if_pos ⟨by omega, z⟩, if_pos z, if_pos z]
  · rw [if_neg (fun q => z q.2), if_neg z, if_neg z]
    rfl)
theorem ql_sym (Y : q_X) (i j : Int) : q_mat Y (-2000009) i j = q_mat Y (-2000009) j i := q_sum_cg _ (fun k _ _ => by
  (try dsimp only)
  rw [Int.mul_comm])
theorem ql_lin (f : Int → Int) (u : Int → Int → Int) (x0 x1 x2 : Int) : ∀ n : Nat, q_sum (fun k => f k * (u k 0 * x0 + u k 1 * x1 + u k 2 * x2)) n = q_sum (fun k => f k * u k 0) n * x0 + q_sum (fun k => f k * u k 1) n * x1 + q_sum (fun k => f k * u k 2) n * x2 := by
  intro n
  induction n with
  | zero => simp [q_sum]
  | succ n ih =>
    show q_sum (fun k => f k * (u k 0 * x0 + u k 1 * x1 + u k 2 * x2)) n + f n * (u n 0 * x0 + u n 1 * x1 + u n 2 * x2) = (q_sum (fun k => f k * u k 0) n + f n * u n 0) * x0 + (q_sum (fun k => f k * u k 1) n + f n * u n 1) * x1 + (q_sum (fun k => f k * u k 2) n + f n * u n 2) * x2
    rw [ih]
    grind
/-- the matrix by its cofactors -/
theorem ql_inv (Y : q_X) (t0 t1 t2 : Int) : (q_mat Y (-2000009) 0 0 * ql_a Y t0 t1 t2 0 + q_mat Y (-2000009) 0 1 * ql_a Y t0 t1 t2 1 + q_mat Y (-2000009) 0 2 * ql_a Y t0 t1 t2 2 = q_det Y (-2000009) * t0) ∧ (q_mat Y (-2000009) 1 0 * ql_a Y t0 t1 t2 0 + q_mat Y (-2000009) 1 1 * ql_a Y t0 t1 t2 1 + q_mat Y (-2000009) 1 2 * ql_a Y t0 t1 t2 2 = q_det Y (-2000009) * t1) ∧ (q_mat Y (-2000009) 2 0 * ql_a Y t0 t1 t2 0 + q_mat Y (-2000009) 2 1 * ql_a Y t0 t1 t2 1 + q_mat Y (-2000009) 2 2 * ql_a Y t0 t1 t2 2 = q_det Y (-2000009) * t2) := by
  have c : ∀ i j : Int, q_cof Y (-2000009) i j = q_mat Y (-2000009) ((i + 1) % 3) ((j + 1) % 3) * q_mat Y (-2000009) ((i + 2) % 3) ((j + 2) % 3) - q_mat Y (-2000009) ((i + 1) % 3) ((j + 2) % 3) * q_mat Y (-2000009) ((i + 2) % 3) ((j + 1) % 3) := fun _ _ => rfl
  have hd : q_det Y (-2000009) = q_mat Y (-2000009) 0 0 * q_cof Y (-2000009) 0 0 + q_mat Y (-2000009) 0 1 * q_cof Y (-2000009) 0 1 + q_mat Y (-2000009) 0 2 * q_cof Y (-2000009) 0 2 := rfl
  have c00 := c 0 0
  have c01 := c 0 1
  have c02 := c 0 2
  have c10 := c 1 0
  have c11 := c 1 1
  have c12 := c 1 2
  have c20 := c 2 0
  have c21 := c 2 1
  have c22 := c 2 2
  simp only [Int.reduceAdd, Int.reduceMod] at c00 c01 c02 c10 c11 c12 c20 c21 c22
  rw [ql_sym Y 1 0, ql_sym Y 2 0, ql_sym Y 2 1] at *
  unfold ql_a
  rw [hd, c00, c01, c02, c10, c11, c12, c20, c21, c22]
  generalize q_mat Y (-2000009) 0 0 = a
  generalize q_mat Y (-2000009) 0 1 = b
  generalize q_mat Y (-2000009) 0 2 = d
  generalize q_mat Y (-2000009) 1 1 = e
  generalize q_mat Y (-2000009) 1 2 = f
  generalize q_mat Y (-2000009) 2 2 = g
  refine ⟨by grind, by grind, by grind⟩
theorem ql_sd (Y : q_X) (t0 t1 t2 : Int) : ∀ a : Int, (a = 0 ∨ a = 1 ∨ a = 2) → q_sum (fun k => ql_u Y k a * (ql_u Y k 0 * ql_a Y t0 t1 t2 0 + ql_u Y k 1 * ql_a Y t0 t1 t2 1 + ql_u Y k 2 * ql_a Y t0 t1 t2 2)) (Y 0 0 1).toNat = q_det Y (-2000009) * (if a = 0 then t0 else if a = 1 then t1 else t2) := by
  intro a ha
  rw [ql_lin (fun k => ql_u Y k a) (ql_u Y), ← ql_mat, ← ql_mat, ← ql_mat]
  obtain ⟨h0, h1, h2⟩ := ql_inv Y t0 t1 t2
  rcases ha with rfl | rfl | rfl
  · exact h0
  · exact h1
  · exact h2
/-- a wish is rounded by less than one half -/
theorem ql_w (Y : q_X) (k t0 t1 t2 : Int) (hD : 0 < q_det Y (-2000009)) : -(q_det Y (-2000009)) ≤ 2 * (q_det Y (-2000009) * q_wsh Y k t0 t1 t2) + 2 * (Y 11 k 0 * ql_a Y t0 t1 t2 0 + Y 11 k 1 * ql_a Y t0 t1 t2 1 + Y 11 k 2 * ql_a Y t0 t1 t2 2) ∧ 2 * (q_det Y (-2000009) * q_wsh Y k t0 t1 t2) + 2 * (Y 11 k 0 * ql_a Y t0 t1 t2 0 + Y 11 k 1 * ql_a Y t0 t1 t2 1 + Y 11 k 2 * ql_a Y t0 t1 t2 2) ≤ q_det Y (-2000009) := by
  have e : q_wsh Y k t0 t1 t2 = (q_det Y (-2000009) - 2 * (Y 11 k 0 * ql_a Y t0 t1 t2 0 + Y 11 k 1 * ql_a Y t0 t1 t2 1 + Y 11 k 2 * ql_a Y t0 t1 t2 2)) / (2 * q_det Y (-2000009)) := rfl
  rw [e]
  generalize q_det Y (-2000009) = D at *
  generalize Y 11 k 0 * ql_a Y t0 t1 t2 0 + Y 11 k 1 * ql_a Y t0 t1 t2 1 + Y 11 k 2 * ql_a Y t0 t1 t2 2 = s
  have e1 := Int.mul_ediv_add_emod (D - 2 * s) (2 * D)
  have e2 := Int.emod_nonneg (D - 2 * s) (b := 2 * D) (by omega)
  have e3 := Int.emod_lt_of_pos (D - 2 * s) (b := 2 * D) (by omega)
  rw [Int.mul_assoc] at e1
  generalize D * ((D - 2 * s) / (2 * D)) = z at *
  omega
theorem ql_err {n : Int} {Y : q_X} (hI : q_Inv n Y) (t0 t1 t2 : Int) (hD : 0 < q_det Y (-2000009)) {a : Int} (ha : q_in a 3) : ∀ w : Nat, (w : Int) ≤ 6 → -(9 * (q_det Y (-2000009) * ql_m Y w)) ≤ 2 * (q_det Y (-2000009) * ql_s Y t0 t1 t2 a w) + 2 * q_sum (fun k => ql_u Y k a * (ql_u Y k 0 * ql_a Y t0 t1 t2 0 + ql_u Y k 1 * ql_a Y t0 t1 t2 1 + ql_u Y k 2 * ql_a Y t0 t1 t2 2)) w ∧ 2 * (q_det Y (-2000009) * ql_s Y t0 t1 t2 a w) + 2 * q_sum (fun k => ql_u Y k a * (ql_u Y k 0 * ql_a Y t0 t1 t2 0 + ql_u Y k 1 * ql_a Y t0 t1 t2 1 + ql_u Y k 2 * ql_a Y t0 t1 t2 2)) w ≤ 9 * (q_det Y (-2000009) * ql_m Y w) := by
  intro w
  induction w with
  | zero => intro _; simp [ql_m, ql_s, q_sum]
  | succ w ih =>
    intro hw
    have g := ih (by omega)
    have em : ql_m Y (w + 1) = ql_m Y w + (if Y 10 w 3 = 0 then 1 else 0) := rfl
    have es : ql_s Y t0 t1 t2 a (w + 1) = ql_s Y t0 t1 t2 a w + (if Y 10 w 3 = 0 then Y 11 w a * q_wsh Y w t0 t1 t2 else 0) := rfl
    rw [em, es, show ∀ f : Int → Int, q_sum f (w + 1) = q_sum f w + f w from fun _ => rfl, Int.mul_add (q_det Y (-2000009)) (ql_m Y w), Int.mul_add (q_det Y (-2000009)) (ql_s Y t0 t1 t2 a w)]
    (try dsimp only)
    by_cases z : Y 10 w 3 = 0
    · have u : ∀ i, ql_u Y w i = Y 11 w i := fun i => if_pos z
      rw [if_pos z, if_pos z, u, u, u, u]
      have hd := (hI.whl (k := w) ⟨by omega, by omega⟩).1 a ha
      have hw := ql_w Y w t0 t1 t2 hD
      have hm := q_mul_bd (A := 9) (B := q_det Y (-2000009)) hd hw
      have id : Y 11 w a * (2 * (q_det Y (-2000009) * q_wsh Y w t0 t1 t2) + 2 * (Y 11 w 0 * ql_a Y t0 t1 t2 0 + Y 11 w 1 * ql_a Y t0 t1 t2 1 + Y 11 w 2 * ql_a Y t0 t1 t2 2)) = 2 * (q_det Y (-2000009) * (Y 11 w a * q_wsh Y w t0 t1 t2)) + 2 * (Y 11 w a * (Y 11 w 0 * ql_a Y t0 t1 t2 0 + Y 11 w 1 * ql_a Y t0 t1 t2 1 + Y 11 w 2 * ql_a Y t0 t1 t2 2)) := by grind
      rw [id] at hm
      rw [Int.mul_one]
      generalize q_det Y (-2000009) * (Y 11 w a * q_wsh Y w t0 t1 t2) = z1 at *
      generalize Y 11 w a * (Y 11 w 0 * ql_a Y t0 t1 t2 0 + Y 11 w 1 * ql_a Y t0 t1 t2 1 + Y 11 w 2 * ql_a Y t0 t1 t2 2) = z2 at *
      generalize q_det Y (-2000009) * ql_m Y w = z3 at *
      generalize q_det Y (-2000009) * ql_s Y t0 t1 t2 a w = z4 at *
      generalize q_sum (fun k => ql_u Y k a * (ql_u Y k 0 * ql_a Y t0 t1 t2 0 + ql_u Y k 1 * ql_a Y t0 t1 t2 1 + ql_u Y k 2 * ql_a Y t0 t1 t2 2)) w = z5 at *
      omega
    · have u : ∀ i, ql_u Y w i = 0 := fun i => if_neg z
      rw [if_neg z, if_neg z, u, Int.zero_mul, Int.mul_zero]
      omega
theorem ql_m_bd (Y : q_X) : ∀ w : Nat, 0 ≤ ql_m Y w ∧ ql_m Y w ≤ w := by
  intro w
  induction w with
  | zero => exact ⟨Int.le_refl 0, Int.le_refl 0⟩
  | succ w ih =>
    have em : ql_m Y (w + 1) = ql_m Y w + (if Y 10 w 3 = 0 then 1 else 0) := rfl
    rw [em]
    split <;> omega
theorem ql_wsh_bd {n : Int} {Y : q_X} (hI : q_Inv n Y) {k t0 t1 t2 : Int} (hk : q_in k 6) (h0 : -10000 ≤ t0 ∧ t0 ≤ 10000) (h1 : -10000 ≤ t1 ∧ t1 ≤ 10000) (h2 : -10000 ≤ t2 ∧ t2 ≤ 10000) (hD : 0 < q_det Y (-2000009)) : -9000000000000 ≤ q_wsh Y k t0 t1 t2 ∧ q_wsh Y k t0 t1 t2 ≤ 9000000000000 := by
  have hd := hI.dir k hk
  have hb : ∀ i, -142000000000 ≤ ql_a Y t0 t1 t2 i ∧ ql_a Y t0 t1 t2 i ≤ 142000000000 := fun i => q_asum_bd (q_cof_bd hI.cnt hI.dir _ _ _) (q_cof_bd hI.cnt hI.dir _ _ _) (q_cof_bd hI.cnt hI.dir _ _ _) (by omega) (by omega) (by omega)
  have hs := q_wsum_bd (hd 0 ⟨by decide, by decide⟩) (hd 1 ⟨by decide, by decide⟩) (hd 2 ⟨by decide, by decide⟩) (hb 0) (hb 1) (hb 2)
  have hdb := q_det_bd hI.cnt hI.dir (-2000009)
  have e : q_wsh Y k t0 t1 t2 = (q_det Y (-2000009) - 2 * (Y 11 k 0 * ql_a Y t0 t1 t2 0 + Y 11 k 1 * ql_a Y t0 t1 t2 1 + Y 11 k 2 * ql_a Y t0 t1 t2 2)) / (2 * q_det Y (-2000009)) := rfl
  rw [e]
  exact q_div_bd (B := 9000000000000) (by omega) (by omega)
theorem ql_s_bd {n : Int} {Y : q_X} (hI : q_Inv n Y) {t0 t1 t2 a : Int} (ha : q_in a 3) (h0 : -10000 ≤ t0 ∧ t0 ≤ 10000) (h1 : -10000 ≤ t1 ∧ t1 ≤ 10000) (h2 : -10000 ≤ t2 ∧ t2 ≤ 10000) (hD : 0 < q_det Y (-2000009)) {w : Nat} (hw : (w : Int) ≤ 6) : -600000000000000 ≤ ql_s Y t0 t1 t2 a w ∧ ql_s Y t0 t1 t2 a w ≤ 600000000000000 := by
  have h := q_sum_bd (f := fun k => if Y 10 k 3 = 0 then Y 11 k a * q_wsh Y k t0 t1 t2 else 0) (B := 81000000000000) w (fun k k0 k1 => by
    have hk : q_in k 6 := ⟨k0, by omega⟩
    have b := q_mul_bd (A := 9) (B := 9000000000000) (hI.dir k hk a ha) (ql_wsh_bd hI hk h0 h1 h2 hD)
    (try dsimp only)
    split <;> omega)
  unfold ql_s
  omega
theorem ql_wishes {n : Int} {Y : q_X} (hI : q_Inv n Y) {t0 t1 t2 : Int} (hD : 0 < q_det Y (-2000009)) {a : Int} (ha : a = 0 ∨ a = 1 ∨ a = 2) : q_ab (-(ql_s Y t0 t1 t2 a (Y 0 0 1).toNat) - (if a = 0 then t0 else if a = 1 then t1 else t2)) ≤ 5 * ql_m Y (Y 0 0 1).toNat := by
  have hc := hI.cnt
  have e := ql_err hI t0 t1 t2 hD (a := a) ⟨by omega, by omega⟩ (Y 0 0 1).toNat (by omega)
  rw [ql_sd Y t0 t1 t2 a ha] at e
  have hm := ql_m_bd Y (Y 0 0 1).toNat
  generalize (if a = 0 then t0 else if a = 1 then t1 else t2) = t at *
  generalize ql_m Y (Y 0 0 1).toNat = m at *
  generalize ql_s Y t0 t1 t2 a (Y 0 0 1).toNat = s at *
  generalize q_det Y (-2000009) = D at *
  have e1 : D * (-(9 * m)) ≤ D * (2 * (s + t)) := by
    have i1 : D * (-(9 * m)) = -(9 * (D * m)) := by grind
    have i2 : D * (2 * (s + t)) = 2 * (D * s) + 2 * (D * t) := by grind
    rw [i1, i2]
    exact e.1
  have e2 : D * (2 * (s + t)) ≤ D * (9 * m) := by
    have i1 : D * (9 * m) = 9 * (D * m) := by grind
    have i2 : D * (2 * (s + t)) = 2 * (D * s) + 2 * (D * t) := by grind
    rw [i1, i2]
    exact e.2
  have f1 := Int.le_of_mul_le_mul_left e1 hD
  have f2 := Int.le_of_mul_le_mul_left e2 hD
  unfold q_ab
  split <;> omega
