/-! ===== numbers of the law's checks ===== -/
theorem qd_all (u : Int → Int → Int) : ∀ n : Nat, (∀ x y z : Int, 0 ≤ q_sum (fun k => u k 0 * u k 0) n * (x * x) + q_sum (fun k => u k 1 * u k 1) n * (y * y) + q_sum (fun k => u k 2 * u k 2) n * (z * z) + 2 * (q_sum (fun k => u k 0 * u k 1) n * (x * y)) + 2 * (q_sum (fun k => u k 0 * u k 2) n * (x * z)) + 2 * (q_sum (fun k => u k 1 * u k 2) n * (y * z))) ∧
    (∀ x y z : Int, 0 ≤ (q_sum (fun k => u k 1 * u k 1) n * q_sum (fun k => u k 2 * u k 2) n - q_sum (fun k => u k 1 * u k 2) n * q_sum (fun k => u k 1 * u k 2) n) * (x * x) + (q_sum (fun k => u k 0 * u k 0) n * q_sum (fun k => u k 2 * u k 2) n - q_sum (fun k => u k 0 * u k 2) n * q_sum (fun k => u k 0 * u k 2) n) * (y * y) + (q_sum (fun k => u k 0 * u k 0) n * q_sum (fun k => u k 1 * u k 1) n - q_sum (fun k => u k 0 * u k 1) n * q_sum (fun k => u k 0 * u k 1) n) * (z * z) + 2 * ((q_sum (fun k => u k 0 * u k 2) n * q_sum (fun k => u k 1 * u k 2) n - q_sum (fun k => u k 0 * u k 1) n * q_sum (fun k => u k 2 * u k 2) n) * (x * y)) + 2 * ((q_sum (fun k => u k 0 * u k 1) n * q_sum (fun k => u k 1 * u k 2) n - q_sum (fun k => u k 0 * u k 2) n * q_sum (fun k => u k 1 * u k 1) n) * (x * z)) + 2 * ((q_sum (fun k => u k 0 * u k 1) n * q_sum (fun k => u k 0 * u k 2) n - q_sum (fun k => u k 1 * u k 2) n * q_sum (fun k => u k 0 * u k 0) n) * (y * z))) ∧
    0 ≤ q_sum (fun k => u k 0 * u k 0) n * (q_sum (fun k => u k 1 * u k 1) n * q_sum (fun k => u k 2 * u k 2) n - q_sum (fun k => u k 1 * u k 2) n * q_sum (fun k => u k 1 * u k 2) n) + q_sum (fun k => u k 0 * u k 1) n * (q_sum (fun k => u k 1 * u k 2) n * q_sum (fun k => u k 0 * u k 2) n - q_sum (fun k => u k 0 * u k 1) n * q_sum (fun k => u k 2 * u k 2) n) + q_sum (fun k => u k 0 * u k 2) n * (q_sum (fun k => u k 0 * u k 1) n * q_sum (fun k => u k 1 * u k 2) n - q_sum (fun k => u k 1 * u k 1) n * q_sum (fun k => u k 0 * u k 2) n) := by
  intro n
  induction n with
  | zero => simp [q_sum]
  | succ n ih =>
    obtain ⟨h1, h2, h3⟩ := ih
    have s : ∀ f : Int → Int, q_sum f (n + 1) = q_sum f n + f n := fun _ => rfl
    simp only [s]
    generalize q_sum (fun k => u k 0 * u k 0) n = a at *
    generalize q_sum (fun k => u k 1 * u k 1) n = b at *
    generalize q_sum (fun k => u k 2 * u k 2) n = c at *
    generalize q_sum (fun k => u k 0 * u k 1) n = f at *
    generalize q_sum (fun k => u k 0 * u k 2) n = g at *
    generalize q_sum (fun k => u k 1 * u k 2) n = e at *
    generalize u n 0 = p
    generalize u n 1 = q
    generalize u n 2 = r
    refine ⟨fun x y z => ?_, fun x y z => ?_, ?_⟩
    · have hh := h1 x y z
      have sq : 0 ≤ (p * x + q * y + r * z) * (p * x + q * y + r * z) := by
        rcases Int.le_total 0 (p * x + q * y + r * z) with w | w
        · exact Int.mul_nonneg w w
        · exact Int.mul_nonneg_of_nonpos_of_nonpos w w
      have id : (a + p * p) * (x * x) + (b + q * q) * (y * y) + (c + r * r) * (z * z) + 2 * ((f + p * q) * (x * y)) + 2 * ((g + p * r) * (x * z)) + 2 * ((e + q * r) * (y * z)) = (a * (x * x) + b * (y * y) + c * (z * z) + 2 * (f * (x * y)) + 2 * (g * (x * z)) + 2 * (e * (y * z))) + (p * x + q * y + r * z) * (p * x + q * y + r * z) := by grind
      rw [id]
      exact Int.add_nonneg hh sq
    · have hh := h2 x y z
      have hq := h1 (q * z - r * y) (r * x - p * z) (p * y - q * x)
      have id : ((b + q * q) * (c + r * r) - (e + q * r) * (e + q * r)) * (x * x) + ((a + p * p) * (c + r * r) - (g + p * r) * (g + p * r)) * (y * y) + ((a + p * p) * (b + q * q) - (f + p * q) * (f + p * q)) * (z * z) + 2 * (((g + p * r) * (e + q * r) - (f + p * q) * (c + r * r)) * (x * y)) + 2 * (((f + p * q) * (e + q * r) - (g + p * r) * (b + q * q)) * (x * z)) + 2 * (((f + p * q) * (g + p * r) - (e + q * r) * (a + p * p)) * (y * z)) = ((b * c - e * e) * (x * x) + (a * c - g * g) * (y * y) + (a * b - f * f) * (z * z) + 2 * ((g * e - f * c) * (x * y)) + 2 * ((f * e - g * b) * (x * z)) + 2 * ((f * g - e * a) * (y * z))) + (a * ((q * z - r * y) * (q * z - r * y)) + b * ((r * x - p * z) * (r * x - p * z)) + c * ((p * y - q * x) * (p * y - q * x)) + 2 * (f * ((q * z - r * y) * (r * x - p * z))) + 2 * (g * ((q * z - r * y) * (p * y - q * x))) + 2 * (e * ((r * x - p * z) * (p * y - q * x)))) := by grind
      rw [id]
      exact Int.add_nonneg hh hq
    · have hq := h2 p q r
      have id : (a + p * p) * ((b + q * q) * (c + r * r) - (e + q * r) * (e + q * r)) + (f + p * q) * ((e + q * r) * (g + p * r) - (f + p * q) * (c + r * r)) + (g + p * r) * ((f + p * q) * (e + q * r) - (b + q * q) * (g + p * r)) = (a * (b * c - e * e) + f * (e * g - f * c) + g * (f * e - b * g)) + ((b * c - e * e) * (p * p) + (a * c - g * g) * (q * q) + (a * b - f * f) * (r * r) + 2 * ((g * e - f * c) * (p * q)) + 2 * ((f * e - g * b) * (p * r)) + 2 * ((f * g - e * a) * (q * r))) := by grind
      rw [id]
      exact Int.add_nonneg h3 hq
theorem q_det_nn (Y : q_X) (lo : Int) : 0 ≤ q_det Y lo := by
  have h := (qd_all (fun k i => if ¬ k = lo ∧ Y 10 k 3 = 0 then Y 11 k i else 0) (Y 0 0 1).toNat).2.2
  have e : ∀ i j, q_mat Y lo i j = q_sum (fun k => (if ¬ k = lo ∧ Y 10 k 3 = 0 then Y 11 k i else 0) * (if ¬ k = lo ∧ Y 10 k 3 = 0 then Y 11 k j else 0)) (Y 0 0 1).toNat := fun i j => q_sum_cg _ (fun k _ _ => by
    (try dsimp only)
    split
    · rfl
    · exact (Int.mul_zero 0).symm)
  have sy : ∀ i j, q_mat Y lo i j = q_mat Y lo j i := fun i j => q_sum_cg _ (fun k _ _ => by
    (try dsimp only)
    rw [Int.mul_comm])
  rw [← e, ← e, ← e, ← e, ← e, ← e] at h
  have hd : q_det Y lo = q_mat Y lo 0 0 * (q_mat Y lo 1 1 * q_mat Y lo 2 2 - q_mat Y lo 1 2 * q_mat Y lo 2 1) + q_mat Y lo 0 1 * (q_mat Y lo 1 2 * q_mat Y lo 2 0 - q_mat Y lo 1 0 * q_mat Y lo 2 2) + q_mat Y lo 0 2 * (q_mat Y lo 1 0 * q_mat Y lo 2 1 - q_mat Y lo 1 1 * q_mat Y lo 2 0) := rfl
  rw [hd, sy 2 1, sy 2 0, sy 1 0]
  exact h
theorem q_arr_stay {X : q_X} {b : Int} {j : Nat} (h : 0 ≤ q_arr X b j) : ∀ m : Nat, q_arr X b (j + m) = q_arr X b j := by
  intro m
  induction m with
  | zero => rfl
  | succ m ih =>
    show (if 0 ≤ q_arr X b (j + m) then q_arr X b (j + m) else _) = _
    rw [if_pos (by omega), ih]
theorem q_arr_bd (X : q_X) (b : Int) : ∀ j : Nat, q_arr X b j = -2000009 ∨ (0 ≤ q_arr X b j ∧ q_arr X b j < j) := by
  intro j
  induction j with
  | zero => exact Or.inl rfl
  | succ j ih =>
    unfold q_arr
    split
    · exact Or.inr ⟨by assumption, by omega⟩
    · split
      · exact Or.inr ⟨by omega, by omega⟩
      · exact Or.inl rfl
theorem q_Inv.mono {n m : Int} {X : q_X} (h : q_Inv n X) (hm : n ≤ m ∧ m ≤ 512) : q_Inv m X := by
  have hn := h.n
  refine ⟨⟨by omega, hm.2⟩, h.now, h.cnt, h.rc, h.set, fun i hi => h.giv hi, fun i hi => ?_, fun k hk => h.whl hk, fun i hi => h.rs hi⟩
  have a := h.axs hi
  exact ⟨⟨by omega, by omega⟩, a.2⟩
theorem q_act_n {σ : q_M} {X : q_X} (h : ¬ 4 ≤ σ 0 21 0 0) : q_act σ X = q_put (q_wr (q_put σ (σ 0 22 0 (σ 0 21 0 0)) (σ 0)) 0 21 0 0 (σ 0 21 0 0 + 1)) 0 X := by
  unfold q_act q_keep
  (try dsimp only)
  rw [if_neg h]
theorem q_act_y {σ : q_M} {X : q_X} (h : 4 ≤ σ 0 21 0 0) : q_act σ X = q_put (q_wr (q_put (q_rot σ) (σ 0 22 0 0) (q_rot σ 0)) 0 21 0 0 4) 0 X := by
  unfold q_act q_keep
  (try dsimp only)
  rw [if_pos h]
  rfl
theorem q_Inv.wl1 {n : Int} {X : q_X} (h : q_Inv n X) {k v : Int} (hv : 1 ≤ v ∧ v ≤ 1000000) : q_Inv n (q_p1 X 10 k 1 v) := by
  have ew : ∀ i, q_wmom (q_p1 X 10 k 1 v) i = q_wmom X i := fun i => q_wmom_cg (X := q_p1 X 10 k 1 v) (Y := X) rfl (fun j => if_neg (by omega)) (fun _ _ => rfl) i
  refine ⟨h.n, h.now, h.cnt, h.rc, h.set, fun i hi => h.giv hi, fun i hi => ?_, fun j hj => ?_, fun i hi => h.rs hi⟩
  · rw [ew]
    exact h.axs hi
  · obtain ⟨a, b, c, d, e, f, g⟩ := h.whl hj
    refine ⟨a, ?_, ?_, ?_, ?_, ?_, ?_⟩ <;> (unfold q_p1; repeat' split) <;> omega
theorem q_Inv.wl2 {n : Int} {X : q_X} (h : q_Inv n X) {k v : Int} (hv : 1 ≤ v ∧ v ≤ 100000) : q_Inv n (q_p1 X 10 k 2 v) := by
  have ew : ∀ i, q_wmom (q_p1 X 10 k 2 v) i = q_wmom X i := fun i => q_wmom_cg (X := q_p1 X 10 k 2 v) (Y := X) rfl (fun j => if_neg (by omega)) (fun _ _ => rfl) i
  refine ⟨h.n, h.now, h.cnt, h.rc, h.set, fun i hi => h.giv hi, fun i hi => ?_, fun j hj => ?_, fun i hi => h.rs hi⟩
  · rw [ew]
    exact h.axs hi
  · obtain ⟨a, b, c, d, e, f, g⟩ := h.whl hj
    refine ⟨a, ?_, ?_, ?_, ?_, ?_, ?_⟩ <;> (unfold q_p1; repeat' split) <;> omega
theorem q_Inv.wl3 {n : Int} {X : q_X} (h : q_Inv n X) {k v : Int} (hv : v = 0 ∨ v = 1) : q_Inv n (q_p1 X 10 k 3 v) := by
  have ew : ∀ i, q_wmom (q_p1 X 10 k 3 v) i = q_wmom X i := fun i => q_wmom_cg (X := q_p1 X 10 k 3 v) (Y := X) rfl (fun j => if_neg (by omega)) (fun _ _ => rfl) i
  refine ⟨h.n, h.now, h.cnt, h.rc, h.set, fun i hi => h.giv hi, fun i hi => ?_, fun j hj => ?_, fun i hi => h.rs hi⟩
  · rw [ew]
    exact h.axs hi
  · obtain ⟨a, b, c, d, e, f, g⟩ := h.whl hj
    refine ⟨a, ?_, ?_, ?_, ?_, ?_, ?_⟩ <;> (unfold q_p1; repeat' split) <;> omega
theorem q_Inv.axn {n : Int} {X : q_X} (h : q_Inv n X) {w a v : Int} (hw : 0 ≤ w ∧ w ≤ 3) (hv : q_tbl 34 w ≤ v ∧ v ≤ q_tbl 35 w) : q_Inv n (q_p1 X 3 w a v) := by
  have ew : ∀ i, q_wmom (q_p1 X 3 w a v) i = q_wmom X i := fun i => q_wmom_cg (X := q_p1 X 3 w a v) (Y := X) rfl (fun j => rfl) (fun _ _ => rfl) i
  refine ⟨h.n, h.now, h.cnt, h.rc, h.set, fun i hi => ?_, fun i hi => ?_, fun j hj => h.whl hj, fun i hi => h.rs hi⟩
  · obtain ⟨b, c, d, e⟩ := h.giv hi
    have hc : w = 0 ∨ w = 1 ∨ w = 2 ∨ w = 3 := by omega
    rcases hc with rfl | rfl | rfl | rfl
    · have hv' : 1 ≤ v ∧ v ≤ 1000 := hv
      refine ⟨?_, ?_, ?_, ?_⟩ <;> (unfold q_p1; repeat' split) <;> omega
    · have hv' : -1000000 ≤ v ∧ v ≤ 1000000 := hv
      refine ⟨?_, ?_, ?_, ?_⟩ <;> (unfold q_p1; repeat' split) <;> omega
    · have hv' : -100 ≤ v ∧ v ≤ 100 := hv
      refine ⟨?_, ?_, ?_, ?_⟩ <;> (unfold q_p1; repeat' split) <;> omega
    · have hv' : -1000 ≤ v ∧ v ≤ 1000 := hv
      refine ⟨?_, ?_, ?_, ?_⟩ <;> (unfold q_p1; repeat' split) <;> omega
  · rw [ew]
    exact h.axs hi
theorem q_Inv.stn {n : Int} {X : q_X} (h : q_Inv n X) {w v : Int} (hw : 0 ≤ w ∧ w ≤ 4) (hv : q_tbl 36 w ≤ v ∧ v ≤ q_tbl 37 w) : q_Inv n (q_p1 X 1 0 w v) := by
  have ew : ∀ i, q_wmom (q_p1 X 1 0 w v) i = q_wmom X i := fun i => q_wmom_cg (X := q_p1 X 1 0 w v) (Y := X) rfl (fun j => rfl) (fun _ _ => rfl) i
  refine ⟨h.n, h.now, h.cnt, h.rc, ?_, fun i hi => h.giv hi, fun i hi => ?_, fun j hj => h.whl hj, fun i hi => h.rs hi⟩
  · obtain ⟨b, c, d, e, f⟩ := h.set
    have hc : w = 0 ∨ w = 1 ∨ w = 2 ∨ w = 3 ∨ w = 4 := by omega
    rcases hc with rfl | rfl | rfl | rfl | rfl
    · have hv' : 0 ≤ v ∧ v ≤ 1000 := hv
      refine ⟨?_, ?_, ?_, ?_, ?_⟩ <;> (unfold q_p1; repeat' split) <;> omega
    · have hv' : 0 ≤ v ∧ v ≤ 1000 := hv
      refine ⟨?_, ?_, ?_, ?_, ?_⟩ <;> (unfold q_p1; repeat' split) <;> omega
    · have hv' : 1 ≤ v ∧ v ≤ 10000 := hv
      refine ⟨?_, ?_, ?_, ?_, ?_⟩ <;> (unfold q_p1; repeat' split) <;> omega
    · have hv' : 1 ≤ v ∧ v ≤ 100000 := hv
      refine ⟨?_, ?_, ?_, ?_, ?_⟩ <;> (unfold q_p1; repeat' split) <;> omega
    · have hv' : 0 ≤ v ∧ v ≤ 10000 := hv
      refine ⟨?_, ?_, ?_, ?_, ?_⟩ <;> (unfold q_p1; repeat' split) <;> omega
  · rw [ew]
    exact h.axs hi
theorem q_Inv.psh {n : Int} {X : q_X} (h : q_Inv n X) (hn : n < 512) {a x : Int} (hx : -100000 ≤ x ∧ x ≤ 100000) : q_Inv (n + 1) (q_psh X a x) := by
  have ew : ∀ i, q_wmom (q_psh X a x) i = q_wmom X i := fun i => q_wmom_cg (X := q_psh X a x) (Y := X) rfl (fun j => rfl) (fun _ _ => rfl) i
  have h0 := h.n
  refine ⟨⟨by omega, by omega⟩, h.now, h.cnt, h.rc, h.set, fun i hi => h.giv hi, fun i hi => ?_, fun j hj => h.whl hj, fun i hi => h.rs hi⟩
  obtain ⟨⟨b, b'⟩, c, d, e⟩ := h.axs hi
  have e5 : q_psh X a x 5 0 i = if i = a then X 5 0 i + x else X 5 0 i := by
    unfold q_psh
    by_cases z : i = a
    · rw [if_pos ⟨Or.inl rfl, rfl, z⟩, if_pos z]
    · rw [if_neg (fun q => z q.2.2), if_neg z]
  have e6 : q_psh X a x 6 0 i = if i = a then X 6 0 i + x else X 6 0 i := by
    unfold q_psh
    by_cases z : i = a
    · rw [if_pos ⟨Or.inr rfl, rfl, z⟩, if_pos z]
    · rw [if_neg (fun q => z q.2.2), if_neg z]
  rw [ew, e5, e6]
  have e0 : q_psh X a x 0 0 0 = X 0 0 0 := rfl
  rw [e0]
  refine ⟨?_, ?_, d, e⟩
  · split <;> omega
  · split <;> omega
theorem q_Inv.adw {n : Int} {X : q_X} (h : q_Inv n X) {x y z m t : Int} (hw : q_wok x y z m t) (hc : X 0 0 1 < 6) : q_Inv n (q_add X x y z m t) := by
  obtain ⟨⟨⟨hx, hy, hz⟩, -⟩, hm, ht⟩ := hw
  have hcnt := h.cnt
  have e01 : q_add X x y z m t 0 0 1 = X 0 0 1 + 1 := by simp [q_add]
  have eo : ∀ (p : Nat) (k s : Int), ¬ (p = 0 ∧ s = 1) → ¬ ((p = 10 ∨ p = 11) ∧ k = X 0 0 1) → q_add X x y z m t p k s = X p k s := fun p k s h1 h2 => by
    unfold q_add
    rw [if_neg (by omega), if_neg (by omega), if_neg (by omega)]
  have n11 : ∀ s, q_add X x y z m t 11 (X 0 0 1) s = if s = 0 then x else if s = 1 then y else if s = 2 then z else X 11 (X 0 0 1) s := fun s => by
    unfold q_add
    rw [if_pos ⟨rfl, rfl⟩]
  have n10 : ∀ s, q_add X x y z m t 10 (X 0 0 1) s = if s = 0 then 0 else if s = 1 then m else if s = 2 then t else if s = 3 then 0 else if s = 4 then 0 else X 10 (X 0 0 1) s := fun s => by
    unfold q_add
    rw [if_neg (by omega), if_pos ⟨rfl, rfl⟩]
  have ew : ∀ i, q_wmom (q_add X x y z m t) i = q_wmom X i := fun i => by
    unfold q_wmom
    rw [e01, show (X 0 0 1 + 1).toNat = (X 0 0 1).toNat + 1 by omega]
    show q_sum _ _ + q_add X x y z m t 11 ((X 0 0 1).toNat : Int) i * q_add X x y z m t 10 ((X 0 0 1).toNat : Int) 0 = _
    rw [show (((X 0 0 1).toNat : Nat) : Int) = X 0 0 1 by omega, n10 0, if_pos rfl, Int.mul_zero, Int.add_zero]
    exact q_sum_cg _ (fun k k0 k1 => by
      (try dsimp only)
      rw [eo 11 k i (by omega) (by omega), eo 10 k 0 (by omega) (by omega)])
  refine ⟨h.n, h.now, by rw [e01]; omega, h.rc, h.set, fun i hi => h.giv hi, fun i hi => ?_, fun j hj => ?_, fun i hi => h.rs hi⟩
  · rw [ew]
    exact h.axs hi
  · obtain ⟨a, b, c, d, e, f, g⟩ := h.whl hj
    rw [e01]
    by_cases q : j = X 0 0 1
    · subst q
      rw [n10 0, n10 1, n10 2, n10 3, n10 4]
      refine ⟨fun i hi => ?_, ?_, ?_, ?_, ?_, ?_, ?_⟩
      · have hi' : 0 ≤ i ∧ i < 3 := hi
        rw [n11]
        repeat' split
        all_goals omega
      · simp
      · simp
        omega
      · simp
        omega
      · simp
      · simp
      · simp
        omega
    · rw [eo 10 j 0 (by omega) (by omega), eo 10 j 1 (by omega) (by omega), eo 10 j 2 (by omega) (by omega), eo 10 j 3 (by omega) (by omega), eo 10 j 4 (by omega) (by omega)]
      exact ⟨fun i hi => by rw [eo 11 j i (by omega) (by omega)]; exact a i hi, b, c, d, e, f, fun z => g (by omega)⟩

theorem q_fpr_c11 {X Y : q_X} (e : q_c11 X Y) : q_fpr X = q_fpr Y := by
  rw [show q_fpr X = q_fpr (q_cut X) from rfl, q_cut_eq e]
  rfl
theorem q_cnum_c11 {X Y : q_X} (e : q_c11 X Y) (a w : Int) : q_cnum X a w = q_cnum Y a w := by
  rw [show q_cnum X a w = q_cnum (q_cut X) a w from rfl, q_cut_eq e]
  rfl
theorem q_wnum_c11 {X Y : q_X} (e : q_c11 X Y) (k w : Int) : q_wnum X k w = q_wnum Y k w := by
  rw [show q_wnum X k w = q_wnum (q_cut X) k w from rfl, q_cut_eq e]
  rfl
theorem q_spr_c11 {X Y : q_X} (e : q_c11 X Y) : ∀ n : Nat, q_spr X n = q_spr Y n := by
  intro n
  induction n with
  | zero => rfl
  | succ n ih =>
    unfold q_spr
    rw [ih, e 10 n 3 (by decide), q_det_cg (e 0 0 1 (by decide)) (fun k => e 10 k 3 (by decide)) (fun k s => e 11 k s (by decide))]
theorem q_mets_c11 {X Y : q_X} (e : q_c11 X Y) : ∀ n : Nat, q_mets X n = q_mets Y n := by
  intro n
  induction n with
  | zero => rfl
  | succ n ih =>
    show q_mets X n + q_b (q_it (n + 1) X 9 0 0 = 0) = q_mets Y n + q_b (q_it (n + 1) Y 9 0 0 = 0)
    rw [ih, q_b_c (by rw [q_it_c11 e (n + 1) 9 0 0 (by decide)])]
theorem q_arr_c11 {X Y : q_X} (e : q_c11 X Y) (b : Int) : ∀ n : Nat, q_arr X b n = q_arr Y b n := by
  intro n
  induction n with
  | zero => rfl
  | succ n ih =>
    show (if 0 ≤ q_arr X b n then q_arr X b n else if q_oni (q_it n X) b = 1 then (n : Int) else -2000009) = (if 0 ≤ q_arr Y b n then q_arr Y b n else if q_oni (q_it n Y) b = 1 then (n : Int) else -2000009)
    rw [ih, q_oni_c11 (q_it_c11 e n)]
theorem q_grv_c11 {X Y : q_X} (e : q_c11 X Y) (t : Nat) : ∀ n : Nat, q_grv X t n = q_grv Y t n := by
  intro n
  induction n with
  | zero => rfl
  | succ n ih =>
    show (if X 10 n 3 = 0 ∧ ((q_grv X t n).1 = -2000009 ∨ (q_grv X t n).2 < q_off (q_it t (q_fl X n))) then ((n : Int), q_off (q_it t (q_fl X n))) else q_grv X t n) = (if Y 10 n 3 = 0 ∧ ((q_grv Y t n).1 = -2000009 ∨ (q_grv Y t n).2 < q_off (q_it t (q_fl Y n))) then ((n : Int), q_off (q_it t (q_fl Y n))) else q_grv Y t n)
    rw [ih, e 10 n 3 (by decide), q_off_c11 (q_it_c11 (q_fl_c11 e n) t)]
theorem q_b_bd (P : Prop) [Decidable P] : 0 ≤ q_b P ∧ q_b P ≤ 1 := by unfold q_b; split <;> omega
theorem q_mets_bd (X : q_X) : ∀ t : Nat, 0 ≤ q_mets X t ∧ q_mets X t ≤ t := by
  intro t
  induction t with
  | zero => exact ⟨Int.le_refl 0, Int.le_refl 0⟩
  | succ t ih =>
    have b := q_b_bd (q_it (t + 1) X 9 0 0 = 0)
    show 0 ≤ q_mets X t + q_b (q_it (t + 1) X 9 0 0 = 0) ∧ q_mets X t + q_b (q_it (t + 1) X 9 0 0 = 0) ≤ ((t + 1 : Nat) : Int)
    omega
theorem q_grv_ok (X : q_X) (t : Nat) : ∀ n : Nat, (q_grv X t n).1 = -2000009 ∨ (0 ≤ (q_grv X t n).1 ∧ (q_grv X t n).1 < n ∧ X 10 (q_grv X t n).1 3 = 0) := by
  intro n
  induction n with
  | zero => exact Or.inl rfl
  | succ n ih =>
    by_cases z : X 10 n 3 = 0 ∧ ((q_grv X t n).1 = -2000009 ∨ (q_grv X t n).2 < q_off (q_it t (q_fl X n)))
    · have e : q_grv X t (n + 1) = ((n : Int), q_off (q_it t (q_fl X n))) := if_pos z
      rw [e]
      exact Or.inr ⟨by show (0 : Int) ≤ (n : Int); omega, by show (n : Int) < ((n + 1 : Nat) : Int); omega, z.1⟩
    · have e : q_grv X t (n + 1) = q_grv X t n := if_neg z
      rw [e]
      rcases ih with h | ⟨a, b, c⟩
      · exact Or.inl h
      · exact Or.inr ⟨a, by omega, c⟩
theorem q_arr_is (X : q_X) (b : Int) : ∀ n : Nat, 0 ≤ q_arr X b n → q_oni (q_it (q_arr X b n).toNat X) b = 1 := by
  intro n
  induction n with
  | zero => intro h; exact absurd h (show ¬ (0 : Int) ≤ -2000009 by decide)
  | succ n ih =>
    intro h
    by_cases h0 : 0 ≤ q_arr X b n
    · have e : q_arr X b (n + 1) = q_arr X b n := if_pos h0
      rw [e]
      exact ih h0
    · by_cases ho : q_oni (q_it n X) b = 1
      · have e : q_arr X b (n + 1) = n := (if_neg h0).trans (if_pos ho)
        rw [e, Int.toNat_natCast]
        exact ho
      · have e : q_arr X b (n + 1) = -2000009 := (if_neg h0).trans (if_neg ho)
        omega
theorem q_arr_le (X : q_X) (b : Int) (m : Nat) (hm : q_oni (q_it m X) b = 1) : ∀ n : Nat, m < n → 0 ≤ q_arr X b n ∧ q_arr X b n ≤ m := by
  intro n
  induction n with
  | zero => intro h; omega
  | succ n ih =>
    intro h
    by_cases h0 : 0 ≤ q_arr X b n
    · have e : q_arr X b (n + 1) = q_arr X b n := if_pos h0
      rw [e]
      by_cases hmn : m < n
      · exact ih hmn
      · have := q_arr_bd X b n
        omega
    · by_cases hmn : m < n
      · exact absurd (ih hmn).1 h0
      · obtain rfl : m = n := by omega
        have e : q_arr X b (m + 1) = m := (if_neg h0).trans (if_pos hm)
        rw [e]
        omega
/-- a rate fits its momentum -/
theorem q_rate_ok {n : Int} {X : q_X} (h : q_Inv n X) {i : Int} (hi : q_in i 3) : (q_rate X i * X 3 0 i ≤ X 5 0 i ∧ X 5 0 i < (q_rate X i + 1) * X 3 0 i) ∧ (-1400000000 ≤ q_rate X i * X 3 0 i ∧ (q_rate X i + 1) * X 3 0 i ≤ 1400000000) := by
  have d := (h.giv hi).1
  have m := h.mom hi
  have e : q_rate X i = X 5 0 i / X 3 0 i := if_pos (by omega)
  have e1 := Int.mul_ediv_add_emod (X 5 0 i) (X 3 0 i)
  have e2 := Int.emod_nonneg (X 5 0 i) (b := X 3 0 i) (by omega)
  have e3 := Int.emod_lt_of_pos (X 5 0 i) (b := X 3 0 i) (by omega)
  rw [e, Int.add_mul, Int.one_mul, Int.mul_comm (X 5 0 i / X 3 0 i)]
  generalize X 3 0 i * (X 5 0 i / X 3 0 i) = z at *
  omega
/-! reasons, and what the wheels got -/
def q_gk (Z : q_X) (N : Int) : Prop := ((Z 9 0 0 = 0 ∧ Z 0 0 2 = 1) ∨ (Z 9 0 0 = 2 ∧ Z 0 0 2 = 3 ∧ (20 ≤ Z 9 0 1 ∧ Z 9 0 1 < 20 + N) ∧ (Z 9 0 2 = 3 ∨ Z 9 0 2 = 4))) ∧ ∀ k, 0 ≤ k → k < N → (-(Z 10 k 2) ≤ Z 10 k 4 ∧ Z 10 k 4 ≤ Z 10 k 2) ∧ (¬ Z 10 k 3 = 0 → Z 10 k 4 = 0)
theorem q_gv_104 {X : q_X} {k w j : Int} : q_gv X k w 10 j 4 = if j = k then q_tq X k w else X 10 j 4 := by
  unfold q_gv
  (try dsimp only)
  split
  · unfold q_tl
    simp
  · simp
theorem q_gv_y {X : q_X} {k w : Int} (z : ¬ q_tq X k w = w ∧ X 9 0 0 = 0) : q_gv X k w 9 0 0 = 2 ∧ q_gv X k w 0 0 2 = 3 ∧ q_gv X k w 9 0 1 = 20 + k ∧ (q_gv X k w 9 0 2 = 3 ∨ q_gv X k w 9 0 2 = 4) := by
  unfold q_gv
  (try dsimp only)
  rw [if_pos z]
  refine ⟨rfl, rfl, rfl, ?_⟩
  by_cases y : q_b (q_tq X k w = q_alw X k w) = 0
  · exact Or.inl (if_pos y)
  · exact Or.inr (if_neg y)
theorem q_gv_n {X : q_X} {k w : Int} (z : ¬ (¬ q_tq X k w = w ∧ X 9 0 0 = 0)) : (∀ s, q_gv X k w 9 0 s = X 9 0 s) ∧ q_gv X k w 0 0 2 = X 0 0 2 := by
  unfold q_gv
  (try dsimp only)
  rw [if_neg z]
  exact ⟨fun _ => rfl, rfl⟩
theorem q_gv_k {Z : q_X} {N k w : Int} (hk : 0 ≤ k ∧ k < N) (h2 : 0 ≤ Z 10 k 2) (hf : Z 10 k 3 = 0) (h : q_gk Z N) : q_gk (q_gv Z k w) N := by
  obtain ⟨h1, hg⟩ := h
  refine ⟨?_, fun j j0 j1 => ?_⟩
  · by_cases z : ¬ q_tq Z k w = w ∧ Z 9 0 0 = 0
    · obtain ⟨a, b, c, d⟩ := q_gv_y z
      exact Or.inr ⟨a, b, by omega, d⟩
    · obtain ⟨a, b⟩ := q_gv_n z
      rw [a, a, a, b]
      exact h1
  · have e2 : q_gv Z k w 10 j 2 = Z 10 j 2 := q_gv_same (by omega)
    have e3 : q_gv Z k w 10 j 3 = Z 10 j 3 := q_gv_same (by omega)
    rw [e2, e3, q_gv_104]
    by_cases q : j = k
    · subst q
      rw [if_pos rfl]
      have t := q_tq_bd (X := Z) (k := j) (w := w) h2
      exact ⟨⟨t.1, t.2.1⟩, fun y => absurd hf y⟩
    · rw [if_neg q]
      exact hg j j0 j1
theorem q_gvs_k {W X : q_X} {N : Int} (h2 : ∀ j, 0 ≤ j → j < N → 0 ≤ X 10 j 2) (h : q_gk X N) : ∀ w : Nat, (w : Int) ≤ N → q_gk (q_gvs W w X) N := by
  intro w
  induction w with
  | zero => intro _; exact h
  | succ w ih =>
    intro hw
    have g := ih (by omega)
    unfold q_gvs
    (try dsimp only)
    split
    · next hf => exact q_gv_k ⟨by omega, by omega⟩ (by rw [q_gvs_same (by omega)]; exact h2 w (by omega) (by omega)) (by rw [q_gvs_same (by omega)]; exact hf) g
    · exact g
theorem q_sh_k {Y : q_X} (hc : 0 ≤ Y 0 0 1) (h2 : ∀ j, 0 ≤ j → j < Y 0 0 1 → 0 ≤ Y 10 j 2) : q_rsn (q_sh Y) (Y 0 0 1) ∧ ∀ k, 0 ≤ k → k < Y 0 0 1 → (-(q_sh Y 10 k 2) ≤ q_sh Y 10 k 4 ∧ q_sh Y 10 k 4 ≤ q_sh Y 10 k 2) ∧ (¬ q_sh Y 10 k 3 = 0 → q_sh Y 10 k 4 = 0) ∧ (q_sh Y 9 0 0 = 1 → q_sh Y 10 k 4 = 0) := by
  have g04 : ∀ k, 0 ≤ k → k < Y 0 0 1 → q_g0 Y 10 k 4 = 0 := fun k a b => if_pos ⟨rfl, rfl, a, b⟩
  have g02 : ∀ k, q_g0 Y 10 k 2 = Y 10 k 2 := fun k => if_neg (by omega)
  unfold q_sh
  by_cases hd : 0 < q_det Y (-2000009)
  · rw [if_pos hd]
    have base : q_gk (q_tm (q_g0 Y)) (Y 0 0 1) := ⟨Or.inl ⟨rfl, rfl⟩, fun k a b => by
      have e4 : q_tm (q_g0 Y) 10 k 4 = 0 := g04 k a b
      have e2 : q_tm (q_g0 Y) 10 k 2 = Y 10 k 2 := g02 k
      have := h2 k a b
      rw [e4, e2]
      exact ⟨by omega, fun _ => rfl⟩⟩
    have g := q_gvs_k (W := q_tm (q_g0 Y)) (X := q_tm (q_g0 Y)) (N := Y 0 0 1) (fun j a b => by
      have e2 : q_tm (q_g0 Y) 10 j 2 = Y 10 j 2 := g02 j
      rw [e2]
      exact h2 j a b) base (Y 0 0 1).toNat (by omega)
    obtain ⟨g1, g2⟩ := g
    refine ⟨?_, fun k a b => ⟨(g2 k a b).1, (g2 k a b).2, fun z => ?_⟩⟩
    · rcases g1 with ⟨x, y⟩ | ⟨x, y, z, w⟩
      · exact Or.inl ⟨x, y⟩
      · exact Or.inr (Or.inr (Or.inr ⟨x, y, z, w⟩))
    · rcases g1 with ⟨x, y⟩ | ⟨x, y, z, w⟩
      · exact absurd (x.symm.trans z) (by decide)
      · omega
  · rw [if_neg hd]
    have ff := q_ff_lt (q_g0 Y) (q_g0 Y 0 0 1).toNat
    have ec : q_g0 Y 0 0 1 = Y 0 0 1 := rfl
    have e0 : q_tn (q_g0 Y) 9 0 0 = 1 := rfl
    have e1 : 0 ≤ q_ff (q_g0 Y) (q_g0 Y 0 0 1).toNat → q_tn (q_g0 Y) 9 0 1 = 10 + q_ff (q_g0 Y) (q_g0 Y 0 0 1).toNat := fun q => by
      unfold q_tn
      rw [if_neg (by omega), if_pos ⟨rfl, rfl, q⟩]
    have e02 : q_tn (q_g0 Y) 0 0 2 = if 0 ≤ q_ff (q_g0 Y) (q_g0 Y 0 0 1).toNat then 2 else 1 := by simp [q_tn]
    have et : ∀ k s, q_tn (q_g0 Y) 10 k s = q_g0 Y 10 k s := fun k s => by simp [q_tn]
    refine ⟨?_, fun k a b => ?_⟩
    · by_cases q : 0 ≤ q_ff (q_g0 Y) (q_g0 Y 0 0 1).toNat
      · rw [if_pos q] at e02
        have := e1 q
        exact Or.inr (Or.inr (Or.inl ⟨e0, e02, by omega, by omega⟩))
      · rw [if_neg q] at e02
        exact Or.inr (Or.inl ⟨e0, e02⟩)
    · rw [et, et, et, g04 k a b, g02]
      have := h2 k a b
      exact ⟨by omega, fun _ => rfl, fun _ => rfl⟩
theorem q_it_same {X : q_X} {p : Nat} {k s : Int} (h : (p = 0 ∧ s = 1) ∨ (1 ≤ p ∧ p ≤ 3) ∨ p = 8 ∨ (p = 10 ∧ 1 ≤ s ∧ s ≤ 3) ∨ p = 11) : ∀ n : Nat, q_it n X p k s = X p k s := by
  intro n
  induction n with
  | zero => rfl
  | succ n ih => exact (q_step_same h).trans ih
/-- behind some ticks -/
theorem q_it_k {n : Int} {X : q_X} (hI : q_Inv n X) {t : Nat} (ht : 1 ≤ t) (hn : X 0 0 0 + t ≤ 50601) : q_rsn (q_it t X) (X 0 0 1) ∧ ∀ k, 0 ≤ k → k < X 0 0 1 → (-(X 10 k 2) ≤ q_it t X 10 k 4 ∧ q_it t X 10 k 4 ≤ X 10 k 2) ∧ (¬ X 10 k 3 = 0 → q_it t X 10 k 4 = 0) ∧ (q_it t X 9 0 0 = 1 → q_it t X 10 k 4 = 0) := by
  obtain ⟨j, rfl⟩ : ∃ j, t = j + 1 := ⟨t - 1, by omega⟩
  have I := (hI.it j (by omega)).1
  generalize hZ : q_fw (q_now (q_it j X)) = Z
  have ez : ∀ (p : Nat) (k s : Int), ¬ p = 7 → ¬ (p = 0 ∧ s = 0) → Z p k s = q_it j X p k s := fun p k s h7 h0 => by
    rw [← hZ]
    unfold q_fw q_now
    rw [if_neg h7, if_neg (by omega)]
  have ec : Z 0 0 1 = X 0 0 1 := (ez 0 0 1 (by decide) (by decide)).trans (q_it_same (by omega) j)
  have e2 : ∀ k, Z 10 k 2 = X 10 k 2 := fun k => (ez 10 k 2 (by decide) (by decide)).trans (q_it_same (by omega) j)
  have e3 : ∀ k, Z 10 k 3 = X 10 k 3 := fun k => (ez 10 k 3 (by decide) (by decide)).trans (q_it_same (by omega) j)
  have hcnt := hI.cnt
  have s := q_sh_k (Y := Z) (by omega) (fun k a b => by
    rw [e2]
    exact (hI.whl (k := k) ⟨a, by omega⟩).2.2.2.1.1)
  rw [ec] at s
  have f9 : ∀ s, q_it (j + 1) X 9 0 s = q_sh Z 9 0 s := fun s => by rw [← hZ]; rfl
  have f0 : q_it (j + 1) X 0 0 2 = q_sh Z 0 0 2 := by rw [← hZ]; rfl
  have f4 : ∀ k, q_it (j + 1) X 10 k 4 = q_sh Z 10 k 4 := fun k => by rw [← hZ]; rfl
  have g2 : ∀ k, q_sh Z 10 k 2 = X 10 k 2 := fun k => (q_sh_same (by omega)).trans (e2 k)
  have g3 : ∀ k, q_sh Z 10 k 3 = X 10 k 3 := fun k => (q_sh_same (by omega)).trans (e3 k)
  refine ⟨?_, fun k a b => ?_⟩
  · unfold q_rsn
    rw [f9, f9, f9, f0]
    exact s.1
  · rw [f9, f4]
    have := s.2 k a b
    rw [g2, g3] at this
    exact this
