/-! ===== a tick keeps the bounds ===== -/
theorem q_sum_up {f g : Int → Int} {k : Nat} {e : Int} (hk : g k = f k + e) (ho : ∀ j : Int, ¬ j = k → g j = f j) : ∀ n : Nat, q_sum g n = q_sum f n + (if k < n then e else 0) := by
  intro n
  induction n with
  | zero => simp [q_sum]
  | succ n ih =>
    show q_sum g n + g n = q_sum f n + f n + _
    rw [ih]
    by_cases q : n = k
    · subst q
      rw [hk, if_neg (by omega), if_pos (by omega)]
      omega
    · rw [ho n (by omega)]
      by_cases z : k < n
      · rw [if_pos z, if_pos (by omega)]
        omega
      · rw [if_neg z, if_neg (by omega)]
        omega
theorem q_wmom_cg {X Y : q_X} (h0 : X 0 0 1 = Y 0 0 1) (h10 : ∀ k, X 10 k 0 = Y 10 k 0) (h11 : ∀ k s, X 11 k s = Y 11 k s) (i : Int) : q_wmom X i = q_wmom Y i := by
  unfold q_wmom
  rw [h0]
  exact q_sum_cg _ (fun k _ _ => by rw [h10, h11])
/-- the bounds of a craft whose parts are another's but for the time, the angles, momenta, sums, wishes, gots and reasons -/
theorem q_Inv.mk {n : Int} {X Y : q_X} (h : q_Inv n X) (h1 : ∀ s, Y 1 0 s = X 1 0 s) (h3 : ∀ k s, Y 3 k s = X 3 k s) (hc : Y 0 0 1 = X 0 0 1) (hnow : 0 ≤ Y 0 0 0 ∧ Y 0 0 0 ≤ 50700) (hrc : 1 ≤ Y 0 0 2 ∧ Y 0 0 2 ≤ 3)
    (hax : ∀ i, q_in i 3 → (-(100000 * n + 21000 * Y 0 0 0) ≤ Y 6 0 i ∧ Y 6 0 i ≤ 100000 * n + 21000 * Y 0 0 0) ∧ Y 5 0 i + q_wmom Y i = Y 6 0 i ∧ (-(2000000000 * Y 0 0 0) ≤ Y 4 0 i ∧ Y 4 0 i ≤ 2000000000 * Y 0 0 0) ∧ (-100000 ≤ Y 7 0 i ∧ Y 7 0 i ≤ 100000))
    (h11 : ∀ k s, Y 11 k s = X 11 k s) (h10 : ∀ k s, 1 ≤ s → s ≤ 3 → Y 10 k s = X 10 k s) (hm : ∀ k, q_in k 6 → (-1000000 ≤ Y 10 k 0 ∧ Y 10 k 0 ≤ 1000000) ∧ (-100000 ≤ Y 10 k 4 ∧ Y 10 k 4 ≤ 100000)) (hr : ∀ i, q_in i 3 → -100 ≤ Y 9 0 i ∧ Y 9 0 i ≤ 100) : q_Inv n Y := by
  refine ⟨h.n, hnow, by rw [hc]; exact h.cnt, hrc, by rw [h1, h1, h1, h1, h1]; exact h.set, fun i hi => by rw [h3, h3, h3, h3]; exact h.giv hi, hax, fun k hk => ?_, hr⟩
  obtain ⟨a, b, c, d, e, f, g⟩ := h.whl hk
  rw [h10 k 1 (by decide) (by decide), h10 k 2 (by decide) (by decide), h10 k 3 (by decide) (by decide), hc]
  exact ⟨fun i hi => by rw [h11]; exact a i hi, (hm k hk).1, c, d, e, (hm k hk).2, g⟩
theorem q_Inv.got {n : Int} {X : q_X} (h : q_Inv n X) : ∀ k, q_in k 6 → (-1000000 ≤ X 10 k 0 ∧ X 10 k 0 ≤ 1000000) ∧ (-100000 ≤ X 10 k 4 ∧ X 10 k 4 ≤ 100000) := fun k hk => ⟨(h.whl hk).2.1, (h.whl hk).2.2.2.2.2.1⟩
theorem q_Inv.now1 {n : Int} {X : q_X} (h : q_Inv n X) (hn : X 0 0 0 ≤ 50600) : q_Inv n (q_now X) := by
  have hw := h.now
  have e0 : q_now X 0 0 0 = X 0 0 0 + 1 := rfl
  have ew : ∀ i, q_wmom (q_now X) i = q_wmom X i := fun i => q_wmom_cg rfl (fun _ => rfl) (fun _ _ => rfl) i
  refine h.mk (fun _ => rfl) (fun _ _ => rfl) rfl (by rw [e0]; omega) h.rc (fun i hi => ?_) (fun _ _ => rfl) (fun _ _ _ _ => rfl) h.got (fun i hi => h.rs hi)
  have a := h.axs hi
  rw [e0, ew]
  refine ⟨⟨?_, ?_⟩, a.2.1, ⟨?_, ?_⟩, a.2.2.2⟩
  · show _ ≤ X 6 0 i; omega
  · show X 6 0 i ≤ _; omega
  · show _ ≤ X 4 0 i; omega
  · show X 4 0 i ≤ _; omega
theorem q_Inv.fw {n : Int} {X : q_X} (h : q_Inv n X) : q_Inv n (q_fw X) := by
  have ew : ∀ i, q_wmom (q_fw X) i = q_wmom X i := fun i => q_wmom_cg rfl (fun _ => rfl) (fun _ _ => rfl) i
  refine h.mk (fun _ => rfl) (fun _ _ => rfl) rfl h.now h.rc (fun i hi => ?_) (fun _ _ => rfl) (fun _ _ _ _ => rfl) h.got (fun i hi => h.rs hi)
  have a := h.axs hi
  have s := h.set
  rw [ew]
  refine ⟨a.1, a.2.1, a.2.2.1, ?_⟩
  have b := q_lim_bd (v := X 1 0 1 * (q_lim (q_quo (X 1 0 0 * (X 3 1 i - X 4 0 i)) 100) (-(X 1 0 2)) (X 1 0 2) - q_rate X i)) (a := -(X 1 0 3)) (b := X 1 0 3) (by omega)
  change -100000 ≤ q_wis X i ∧ q_wis X i ≤ 100000
  unfold q_wis
  omega
theorem q_Inv.tm {n : Int} {X : q_X} (h : q_Inv n X) : q_Inv n (q_tm X) := by
  have ew : ∀ i, q_wmom (q_tm X) i = q_wmom X i := fun i => q_wmom_cg rfl (fun _ => rfl) (fun _ _ => rfl) i
  refine h.mk (fun _ => rfl) (fun _ _ => rfl) rfl h.now ⟨by show (1 : Int) ≤ 1; decide, by show (1 : Int) ≤ 3; decide⟩ (fun i hi => ?_) (fun _ _ => rfl) (fun _ _ _ _ => rfl) h.got (fun i hi => ?_)
  · rw [ew]
    exact h.axs hi
  · have := h.rs hi
    unfold q_tm
    split
    · omega
    · rw [if_neg (by omega)]
      exact this
theorem q_Inv.g0 {n : Int} {X : q_X} (h : q_Inv n X) : q_Inv n (q_g0 X) := by
  have e10 : ∀ k s, s ≤ 3 → q_g0 X 10 k s = X 10 k s := fun k s hs => if_neg (by omega)
  have ew : ∀ i, q_wmom (q_g0 X) i = q_wmom X i := fun i => q_wmom_cg rfl (fun k => e10 k 0 (by decide)) (fun _ _ => rfl) i
  refine h.mk (fun _ => rfl) (fun _ _ => rfl) rfl h.now h.rc (fun i hi => by rw [ew]; exact h.axs hi) (fun _ _ => rfl) (fun k s _ b => e10 k s b) (fun k hk => ?_) (fun i hi => h.rs hi)
  have g := h.got k hk
  rw [e10 k 0 (by decide)]
  refine ⟨g.1, ?_⟩
  unfold q_g0
  split
  · omega
  · exact g.2
theorem q_Inv.tn {n : Int} {X : q_X} (h : q_Inv n X) : q_Inv n (q_tn X) := by
  have hc := h.cnt
  have hf := q_ff_lt X (X 0 0 1).toNat
  have ew : ∀ i, q_wmom (q_tn X) i = q_wmom X i := fun i => q_wmom_cg rfl (fun _ => rfl) (fun _ _ => rfl) i
  have e02 : q_tn X 0 0 2 = if 0 ≤ q_ff X (X 0 0 1).toNat then 2 else 1 := by simp [q_tn]
  refine h.mk (fun _ => by simp [q_tn]) (fun _ _ => by simp [q_tn]) (by simp [q_tn]) (by simpa [q_tn] using h.now) (by rw [e02]; split <;> omega) (fun i hi => ?_) (fun _ _ => by simp [q_tn]) (fun _ _ _ _ => by simp [q_tn]) (fun k hk => by simpa [q_tn] using h.got k hk) (fun i hi => ?_)
  · rw [ew]
    simpa [q_tn] using h.axs hi
  · have := h.rs hi
    unfold q_tn
    split
    · omega
    · split
      · omega
      · rw [if_neg (by omega)]
        exact this
/-- a wheel's torque -/
theorem q_tq_bd {X : q_X} {k w : Int} (h2 : 0 ≤ X 10 k 2) : -(X 10 k 2) ≤ q_tq X k w ∧ q_tq X k w ≤ X 10 k 2 ∧ q_dn X k ≤ q_tq X k w ∧ q_tq X k w ≤ q_up X k ∧ q_dn X k ≤ 0 ∧ 0 ≤ q_up X k := by
  have a := q_lim_bd (v := w) (a := -(X 10 k 2)) (b := X 10 k 2) (by omega)
  change -(X 10 k 2) ≤ q_alw X k w ∧ q_alw X k w ≤ X 10 k 2 at a
  have hd : q_dn X k ≤ 0 := by unfold q_dn; split <;> omega
  have hu : 0 ≤ q_up X k := by unfold q_up; split <;> omega
  unfold q_tq q_lim
  split
  · omega
  · split <;> omega
theorem q_Inv.gv {n : Int} {X : q_X} (h : q_Inv n X) {k : Nat} (hk : (k : Int) < X 0 0 1) (w : Int) : q_Inv n (q_gv X k w) := by
  have hc := h.cnt
  have hk6 : q_in (k : Int) 6 := ⟨by omega, by omega⟩
  obtain ⟨hd, hm, h1, h2, h3, h4, h5⟩ := h.whl hk6
  have t := q_tq_bd (X := X) (k := k) (w := w) h2.1
  have e5 : ∀ s, q_gv X k w 5 0 s = X 5 0 s - X 11 k s * q_tq X k w := fun s => by
    unfold q_gv
    (try dsimp only)
    split
    · unfold q_tl
      rw [if_neg (by omega), if_neg (by omega), if_neg (by omega), if_neg (by omega)]
      rfl
    · rfl
  have e100 : ∀ j, q_gv X k w 10 j 0 = if j = k then X 10 k 0 + q_tq X k w else X 10 j 0 := fun j => by
    unfold q_gv
    (try dsimp only)
    split
    · unfold q_tl
      simp
    · simp
  have e104 : ∀ j, q_gv X k w 10 j 4 = if j = k then q_tq X k w else X 10 j 4 := fun j => by
    unfold q_gv
    (try dsimp only)
    split
    · unfold q_tl
      simp
    · simp
  have e00 : q_gv X k w 0 0 0 = X 0 0 0 := q_gv_same (by omega)
  have e01 : q_gv X k w 0 0 1 = X 0 0 1 := q_gv_same (by omega)
  have e02 : 1 ≤ q_gv X k w 0 0 2 ∧ q_gv X k w 0 0 2 ≤ 3 := by
    have := h.rc
    unfold q_gv
    (try dsimp only)
    split
    · unfold q_tl
      simp
    · simpa using this
  have ew : ∀ i, q_wmom (q_gv X k w) i = q_wmom X i + X 11 k i * q_tq X k w := fun i => by
    unfold q_wmom
    rw [e01]
    have := q_sum_up (f := fun k => X 11 k i * X 10 k 0) (g := fun j => q_gv X k w 11 j i * q_gv X k w 10 j 0) (k := k) (e := X 11 k i * q_tq X k w) (by
      show q_gv X k w 11 k i * q_gv X k w 10 k 0 = _
      rw [q_gv_same (by omega), e100, if_pos rfl, Int.mul_add]) (fun j hj => by
      show q_gv X k w 11 j i * q_gv X k w 10 j 0 = _
      rw [q_gv_same (by omega), e100, if_neg hj]) (X 0 0 1).toNat
    rw [this, if_pos (by omega)]
  refine h.mk (fun _ => q_gv_same (by omega)) (fun _ _ => q_gv_same (by omega)) e01 (by rw [e00]; exact h.now) e02 (fun i hi => ?_) (fun _ _ => q_gv_same (by omega)) (fun _ _ _ _ => q_gv_same (by omega)) (fun j hj => ?_) (q_gv_rs hk6 (fun i hi => h.rs hi))
  · have a := h.axs hi
    rw [e00, e5, ew, q_gv_same (p := 6) (by omega), q_gv_same (p := 4) (by omega), q_gv_same (p := 7) (by omega)]
    exact ⟨a.1, by omega, a.2.2.1, a.2.2.2⟩
  · have g := h.got j hj
    rw [e100, e104]
    by_cases q : j = k
    · subst q
      rw [if_pos rfl, if_pos rfl]
      unfold q_dn q_up at t
      refine ⟨?_, by omega⟩
      by_cases z1 : -(X 10 k 1) - X 10 k 0 < 0
      · rw [if_pos z1] at t
        by_cases z2 : 0 < X 10 k 1 - X 10 k 0
        · rw [if_pos z2] at t
          omega
        · rw [if_neg z2] at t
          omega
      · rw [if_neg z1] at t
        by_cases z2 : 0 < X 10 k 1 - X 10 k 0
        · rw [if_pos z2] at t
          omega
        · rw [if_neg z2] at t
          omega
    · rw [if_neg q, if_neg q]
      exact g
theorem q_Inv.gvs {n : Int} {W X : q_X} (h : q_Inv n X) : ∀ w : Nat, (w : Int) ≤ X 0 0 1 → q_Inv n (q_gvs W w X) := by
  intro w
  induction w with
  | zero => intro _; exact h
  | succ w ih =>
    intro hw
    have g := ih (by omega)
    unfold q_gvs
    (try dsimp only)
    split
    · exact g.gv (by rw [q_gvs_same (by omega)]; omega) _
    · exact g
theorem q_Inv.sh {n : Int} {X : q_X} (h : q_Inv n X) : q_Inv n (q_sh X) := by
  have hc := h.cnt
  unfold q_sh
  split
  · refine h.g0.tm.gvs _ ?_
    show (((X 0 0 1).toNat : Nat) : Int) ≤ X 0 0 1
    omega
  · exact h.g0.tn
/-- what sharing leaves -/
theorem q_sh_same {X : q_X} {p : Nat} {k s : Int} (h : (p = 0 ∧ s ≤ 1) ∨ (1 ≤ p ∧ p ≤ 4) ∨ (6 ≤ p ∧ p ≤ 8) ∨ (p = 10 ∧ 1 ≤ s ∧ s ≤ 3) ∨ p = 11) : q_sh X p k s = X p k s := by
  have e1 : q_g0 X p k s = X p k s := if_neg (by omega)
  unfold q_sh
  split
  · rw [q_gvs_same h]
    unfold q_tm
    rw [if_neg (by omega), if_neg (by omega)]
    exact e1
  · unfold q_tn
    rw [if_neg (by omega), if_neg (by omega), if_neg (by omega)]
    exact e1
theorem q_mt_bd {n : Int} {X : q_X} (h : q_Inv n X) (i : Int) : -20000 ≤ q_mt X i ∧ q_mt X i ≤ 20000 := by
  have s := h.set
  have m : ∀ j : Int, -10000 ≤ q_mo X j ∧ q_mo X j ≤ 10000 := fun j => by
    have := q_lim_bd (v := q_quo (q_cr (q_wmom X) (X 3 2) j) 1000) (a := -(X 1 0 4)) (b := X 1 0 4) (by omega)
    unfold q_mo
    omega
  have f : ∀ j : Int, -100 ≤ X 3 2 (j % 3) ∧ X 3 2 (j % 3) ≤ 100 := fun j => (h.giv (i := j % 3) ⟨by omega, by omega⟩).2.2.1
  have a := q_mul_bd (A := 10000) (B := 100) (m ((i + 1) % 3)) (f (i + 2))
  have b := q_mul_bd (A := 10000) (B := 100) (m ((i + 2) % 3)) (f (i + 1))
  have c := q_quo_bd (v := q_cr (q_mo X) (X 3 2) i) (d := 100) (B := 2000000) (by unfold q_cr; omega) (by decide)
  unfold q_mt
  have hc : q_quo (q_cr (q_mo X) (X 3 2) i) 100 = q_cr (q_mo X) (X 3 2) i / 100 := if_pos (by decide)
  rw [hc]
  have hb : -2000000 ≤ q_cr (q_mo X) (X 3 2) i ∧ q_cr (q_mo X) (X 3 2) i ≤ 2000000 := by unfold q_cr; omega
  omega
/-- the rest of a tick: slack in the bounds before -/
theorem q_Inv.rest {n : Int} {X : q_X} (h : q_Inv n X) (hn : 1 ≤ X 0 0 0) (h6 : ∀ i, q_in i 3 → -(100000 * n + 21000 * (X 0 0 0 - 1)) ≤ X 6 0 i ∧ X 6 0 i ≤ 100000 * n + 21000 * (X 0 0 0 - 1)) (h4 : ∀ i, q_in i 3 → -(2000000000 * (X 0 0 0 - 1)) ≤ X 4 0 i ∧ X 4 0 i ≤ 2000000000 * (X 0 0 0 - 1)) : q_Inv n (q_tur (q_dis (q_lgo X))) := by
  have e5 : ∀ i, q_dis (q_lgo X) 5 0 i = X 5 0 i + q_mt X i + X 3 3 i := fun _ => rfl
  have e6 : ∀ i, q_tur (q_dis (q_lgo X)) 6 0 i = X 6 0 i + q_mt X i + X 3 3 i := fun _ => rfl
  have e4 : ∀ i, q_tur (q_dis (q_lgo X)) 4 0 i = X 4 0 i + q_rate (q_dis (q_lgo X)) i := fun _ => rfl
  have ew : ∀ i, q_wmom (q_tur (q_dis (q_lgo X))) i = q_wmom X i := fun i => q_wmom_cg rfl (fun _ => rfl) (fun _ _ => rfl) i
  refine h.mk (fun _ => rfl) (fun _ _ => rfl) rfl h.now h.rc (fun i hi => ?_) (fun _ _ => rfl) (fun _ _ _ _ => rfl) h.got (fun i hi => h.rs hi)
  have a := h.axs hi
  have hg := h.giv hi
  have ht := q_mt_bd h i
  have hm := h.mom hi
  have s6 := h6 i hi
  have s4 := h4 i hi
  have hr : -1300021000 ≤ q_rate (q_dis (q_lgo X)) i ∧ q_rate (q_dis (q_lgo X)) i ≤ 1300021000 := q_quo_bd (by rw [e5]; omega) hg.1.1
  have hnow := h.now
  change (-(100000 * n + 21000 * X 0 0 0) ≤ q_tur (q_dis (q_lgo X)) 6 0 i ∧ q_tur (q_dis (q_lgo X)) 6 0 i ≤ 100000 * n + 21000 * X 0 0 0) ∧ q_dis (q_lgo X) 5 0 i + q_wmom (q_tur (q_dis (q_lgo X))) i = q_tur (q_dis (q_lgo X)) 6 0 i ∧ (-(2000000000 * X 0 0 0) ≤ q_tur (q_dis (q_lgo X)) 4 0 i ∧ q_tur (q_dis (q_lgo X)) 4 0 i ≤ 2000000000 * X 0 0 0) ∧ _
  rw [e5, e6, e4, ew]
  refine ⟨⟨by omega, by omega⟩, by omega, ⟨by omega, by omega⟩, a.2.2.2⟩
theorem q_Inv.step {n : Int} {X : q_X} (h : q_Inv n X) (hn : X 0 0 0 ≤ 50600) : q_Inv n (q_step X) := by
  have h1 := (h.now1 hn).fw.sh
  have e0 : q_sh (q_fw (q_now X)) 0 0 0 = X 0 0 0 + 1 := q_sh_same (by omega)
  have hw := h.now
  unfold q_step
  refine h1.rest (by omega) (fun i hi => ?_) (fun i hi => ?_)
  · have e6 : q_sh (q_fw (q_now X)) 6 0 i = X 6 0 i := q_sh_same (by omega)
    have a := h.axs hi
    rw [e0, e6]
    omega
  · have e4 : q_sh (q_fw (q_now X)) 4 0 i = X 4 0 i := q_sh_same (by omega)
    have a := h.axs hi
    rw [e0, e4]
    omega
theorem q_step_now (X : q_X) : q_step X 0 0 0 = X 0 0 0 + 1 := by
  show q_sh (q_fw (q_now X)) 0 0 0 = _
  exact q_sh_same (by omega)
