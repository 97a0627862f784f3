/-! ===== the desk's calls, by where the desk stands ===== -/
theorem q_st.agp {Y : q_X} {τ τ' : q_M} (h : q_st Y τ) (g : q_agp τ' τ) : q_st Y τ' := by
  obtain ⟨a, ⟨b, c⟩, d⟩ := h
  have f21 : τ' 0 21 0 0 = τ 0 21 0 0 := g 0 21 0 0 (by decide) (by decide) (by decide) (by decide) (by decide) (by decide) (by decide)
  have f22 : ∀ j, τ' 0 22 0 j = τ 0 22 0 j := fun j => g 0 22 0 j (by decide) (by decide) (by decide) (by decide) (by decide) (by decide) (by decide)
  have fc : ∀ (c : Int) (p : Nat) (k s : Int), ¬ c = 1 → p ≤ 11 → τ' c p k s = τ c p k s := fun c p k s hc hp => g c p k s (by omega) (by omega) (by omega) (by omega) (by omega) (by omega) (fun q => hc q.1)
  refine ⟨fun p k s hp => (fc 0 p k s (by decide) hp).trans (a p k s hp), ⟨by rw [f21]; exact b, fun j hj => by rw [f22]; exact c j hj⟩, fun j hj k hk => ?_⟩
  rw [f22, fc _ 10 k 3 (by have := c j hj; omega) (by decide)]
  exact d j hj k hk
theorem q_ud.agp {Y Z : q_X} {τ τ' : q_M} (h : q_ud Y τ) (s : q_st Z τ) (g : q_agp τ' τ) : q_ud Y τ' := by
  obtain ⟨-, ⟨b, c⟩, -⟩ := s
  obtain ⟨u, v⟩ := h
  have f21 : τ' 0 21 0 0 = τ 0 21 0 0 := g 0 21 0 0 (by decide) (by decide) (by decide) (by decide) (by decide) (by decide) (by decide)
  have f22 : ∀ j, τ' 0 22 0 j = τ 0 22 0 j := fun j => g 0 22 0 j (by decide) (by decide) (by decide) (by decide) (by decide) (by decide) (by decide)
  have r := c (τ 0 21 0 0 - 1) ⟨by omega, by omega⟩
  refine ⟨by rw [f21]; exact u, fun p k s hp => ?_⟩
  rw [f21, f22]
  exact (g _ p k s (by omega) (by omega) (by omega) (by omega) (by omega) (by omega) (by omega)).trans (v p k s hp)
theorem q_st.cg {Y Z : q_X} {τ : q_M} (h : q_st Y τ) (e : q_c11 Y Z) : q_st Z τ := ⟨h.1.tr e, h.2⟩
theorem q_ud.cg {Y Z : q_X} {τ : q_M} (h : q_ud Y τ) (e : q_c11 Y Z) : q_ud Z τ := ⟨h.1, h.2.tr e⟩
theorem q_st.fin {Y X : q_X} {τ ρ : q_M} {K : Int} {r : Int → Int} (h : q_st Y τ) (hF : q_Fl Y) (hK : 0 ≤ K ∧ K < 4) (g0 : q_c11 (ρ 0) X) (g21 : ρ 0 21 0 0 = K + 1) (g22 : ∀ j, ρ 0 22 0 j = r j) (gc : ∀ (c : Int) (p : Nat) (k s : Int), 2 ≤ c → p ≤ 11 → ρ c p k s = if c = r K then τ 0 p k s else τ c p k s) (gr : ∀ j, q_in j 4 → ∃ i, q_in i 4 ∧ r j = τ 0 22 0 i) : q_st X ρ ∧ q_ud Y ρ := by
  obtain ⟨a, ⟨b, c⟩, d⟩ := h
  have r2 : ∀ j, q_in j 4 → 2 ≤ r j ∧ r j < 6 := fun j hj => by
    obtain ⟨i, hi, e⟩ := gr j hj
    rw [e]
    exact c i hi
  have rK := r2 K ⟨hK.1, hK.2⟩
  refine ⟨⟨g0, ⟨by rw [g21]; omega, fun j hj => by rw [g22]; exact r2 j hj⟩, fun j hj k hk => ?_⟩, by rw [g21]; omega, fun p k s hp => ?_⟩
  · rw [g22, gc _ _ _ _ (r2 j hj).1 (by decide)]
    split
    · rw [a 10 k 3 (by decide)]
      exact hF k hk
    · obtain ⟨i, hi, e⟩ := gr j hj
      rw [e]
      exact d i hi k hk
  · rw [g21, g22, show K + 1 - 1 = K by omega, gc _ _ _ _ rK.1 hp, if_pos rfl]
    exact a p k s hp
theorem q_st.act {n : Int} {Y X : q_X} {τ τ' : q_M} (h : q_st Y τ) (I : q_Inv n Y) (g : q_agp τ' (q_act τ X)) : q_st X τ' ∧ q_ud Y τ' := by
  have key : q_st X (q_act τ X) ∧ q_ud Y (q_act τ X) := by
    have hs := h
    obtain ⟨a, ⟨b, c⟩, d⟩ := hs
    have g0 : q_c11 (q_act τ X 0) X := fun p k s hp => q_put_in hp
    by_cases h4 : 4 ≤ τ 0 21 0 0
    · refine h.fin (K := 3) (r := fun j => if j = 3 then τ 0 22 0 0 else τ 0 22 0 (j + 1)) I.fl ⟨by decide, by decide⟩ g0 ?_ (fun j => ?_) (fun c p k s hc hp => ?_) (fun j hj => ?_)
      · rw [q_act_y h4, q_put_hi (by decide)]
        exact q_wr_eq
      · rw [q_act_y h4, q_put_hi (by decide), q_wr_ne (by omega), q_put_hi (by decide)]
        rfl
      · rw [q_act_y h4]
        have e1 : ∀ (Z : q_M), q_put Z 0 X c p k s = Z c p k s := fun Z => if_neg (by omega)
        rw [e1, q_wr_ne (by omega)]
        have e2 : ∀ c, q_rot τ c p k s = τ c p k s := fun c => by
          unfold q_rot
          rw [if_neg (by omega), if_neg (by omega)]
        show (if c = τ 0 22 0 0 ∧ p ≤ 11 then q_rot τ 0 p k s else q_rot τ c p k s) = if c = (if (3 : Int) = 3 then τ 0 22 0 0 else τ 0 22 0 (3 + 1)) then τ 0 p k s else τ c p k s
        rw [e2, e2, if_pos (c := (3 : Int) = 3) rfl]
        by_cases z : c = τ 0 22 0 0
        · rw [if_pos ⟨z, hp⟩, if_pos z]
        · rw [if_neg (fun q => z q.1), if_neg z]
      · have hj' : 0 ≤ j ∧ j < 4 := hj
        by_cases z : j = 3
        · exact ⟨0, ⟨by decide, by decide⟩, if_pos z⟩
        · exact ⟨j + 1, ⟨by omega, by omega⟩, if_neg z⟩
    · refine h.fin (K := τ 0 21 0 0) (r := fun j => τ 0 22 0 j) I.fl ⟨by omega, by omega⟩ g0 ?_ (fun j => ?_) (fun c p k s hc hp => ?_) (fun j hj => ⟨j, hj, rfl⟩)
      · rw [q_act_n h4, q_put_hi (by decide)]
        exact q_wr_eq
      · rw [q_act_n h4, q_put_hi (by decide), q_wr_ne (by omega), q_put_hi (by decide)]
      · rw [q_act_n h4]
        have e1 : ∀ (Z : q_M), q_put Z 0 X c p k s = Z c p k s := fun Z => if_neg (by omega)
        rw [e1, q_wr_ne (by omega)]
        show (if c = τ 0 22 0 (τ 0 21 0 0) ∧ p ≤ 11 then τ 0 p k s else τ c p k s) = if c = τ 0 22 0 (τ 0 21 0 0) then τ 0 p k s else τ c p k s
        by_cases z : c = τ 0 22 0 (τ 0 21 0 0)
        · rw [if_pos ⟨z, hp⟩, if_pos z]
        · rw [if_neg (fun q => z q.1), if_neg z]
  exact ⟨key.1.agp g, key.2.agp key.1 g⟩
theorem q_st.und {Y Z : q_X} {τ : q_M} (h : q_st Y τ) (u : q_ud Z τ) : q_st Z (q_put (q_wr τ 0 21 0 0 (τ 0 21 0 0 - 1)) 0 (τ (τ 0 22 0 (τ 0 21 0 0 - 1)))) := by
  obtain ⟨a, ⟨b, c⟩, d⟩ := h
  obtain ⟨u, v⟩ := u
  refine ⟨fun p k s hp => (q_put_in hp).trans (v p k s hp), ⟨?_, fun j hj => ?_⟩, fun j hj k hk => ?_⟩
  · rw [q_put_hi (by decide), q_wr_eq]
    omega
  · rw [q_put_hi (by decide), q_wr_ne (by omega)]
    exact c j hj
  · have e22 : q_put (q_wr τ 0 21 0 0 (τ 0 21 0 0 - 1)) 0 (τ (τ 0 22 0 (τ 0 21 0 0 - 1))) 0 22 0 j = τ 0 22 0 j := by
      rw [q_put_hi (by decide), q_wr_ne (by omega)]
    have r := c j hj
    have e : q_put (q_wr τ 0 21 0 0 (τ 0 21 0 0 - 1)) 0 (τ (τ 0 22 0 (τ 0 21 0 0 - 1))) (τ 0 22 0 j) 10 k 3 = τ (τ 0 22 0 j) 10 k 3 := by
      show (if _ then _ else q_wr _ _ _ _ _ _ _ _ _ _) = _
      rw [if_neg (by omega), q_wr_ne (by omega)]
    rw [e22, e]
    exact d j hj k hk
theorem q_p1_c11 {X Y : q_X} (e : q_c11 X Y) (p0 : Nat) (k0 s0 x : Int) : q_c11 (q_p1 X p0 k0 s0 x) (q_p1 Y p0 k0 s0 x) := by
  intro p k s hp
  unfold q_p1
  rw [e p k s hp]
theorem q_add_c11 {X Y : q_X} (e : q_c11 X Y) (x y z m t : Int) : q_c11 (q_add X x y z m t) (q_add Y x y z m t) := by
  intro p k s hp
  unfold q_add
  rw [e p k s hp, e 0 0 1 (by decide)]
theorem q_psh_c11 {X Y : q_X} (e : q_c11 X Y) (i x : Int) : q_c11 (q_psh X i x) (q_psh Y i x) := by
  intro p k s hp
  unfold q_psh
  rw [e p k s hp]
theorem q_rate_c11 {X Y : q_X} (e : q_c11 X Y) (i : Int) : q_rate X i = q_rate Y i := by
  rw [← q_rate_cut, q_cut_eq e, q_rate_cut]
theorem q_det_c11 {X Y : q_X} (e : q_c11 X Y) (lo : Int) : q_det X lo = q_det Y lo := q_det_cg (e 0 0 1 (by decide)) (fun k => e 10 k 3 (by decide)) (fun k s => e 11 k s (by decide)) lo
section QRUL
variable {n : Int} {Y : q_X} {τ : q_M} {Q : Option q_V → q_M → Prop}
theorem h_fp (I : q_Inv n Y) (h : q_st Y τ) (k : ∀ τ', q_agp τ' τ → Q (some (zL (q_fpr Y))) τ') : S_X5_fingerprint τ [zR 0 23 0] Q := by
  rw [s_X5_fingerprint, q_fpr_c11 h.1]
  exact ⟨⟨n, I.c11 h.1⟩, k⟩
theorem h_span (I : q_Inv n Y) (h : q_st Y τ) (k : ∀ τ', q_agp τ' τ → Q (some (zL (q_det Y (-2000009)))) τ') : S_X5_span τ [zR 0 23 0] Q := by
  rw [s_X5_span, q_det_c11 h.1]
  exact ⟨⟨n, I.c11 h.1⟩, k⟩
theorem h_spare (I : q_Inv n Y) (h : q_st Y τ) (k : ∀ τ', q_agp τ' τ → Q (some (zI (q_spr Y (Y 0 0 1).toNat))) τ') : S_X5_spare τ [zR 0 23 0] Q := by
  rw [s_X5_spare, q_spr_c11 h.1, h.1 0 0 1 (by decide)]
  exact ⟨⟨n, I.c11 h.1⟩, k⟩
theorem h_arr (I : q_Inv n Y) (h : q_st Y τ) (hn : Y 0 0 0 ≤ 50000) {b : Int} (hb : q_i32 b) (k : ∀ τ', q_agp τ' τ → Q (some (zI (if 0 ≤ b ∧ b ≤ 1000000 then q_arr Y b 501 else -2000001))) τ') : S_X5_arrives τ [zR 0 23 0, zI b] Q := by
  rw [s_X5_arrives, q_arr_c11 h.1, h.1 0 0 0 (by decide)]
  exact ⟨⟨hb, ⟨n, I.c11 h.1⟩, hn⟩, k⟩
theorem h_grv (I : q_Inv n Y) (h : q_st Y τ) (hn : Y 0 0 0 ≤ 50000) {t : Int} (ht : q_i32 t) (k : ∀ τ', q_agp τ' τ → Q (some (zI (if 1 ≤ t ∧ t ≤ 100 then (q_grv Y t.toNat (Y 0 0 1).toNat).1 else -2000001))) τ') : S_X5_gravest τ [zR 0 23 0, zI t] Q := by
  rw [s_X5_gravest, q_grv_c11 h.1, h.1 0 0 0 (by decide), h.1 0 0 1 (by decide)]
  exact ⟨⟨ht, ⟨n, I.c11 h.1⟩, hn⟩, k⟩
theorem h_wish (I : q_Inv n Y) (h : q_st Y τ) {w t0 t1 t2 : Int} (i : q_i32 w ∧ q_i32 t0 ∧ q_i32 t1 ∧ q_i32 t2) (k : ∀ τ', q_agp τ' τ → Q (some (zL (if ((0 ≤ w ∧ w ≤ Y 0 0 1 - 1) ∧ (-100000 ≤ t0 ∧ t0 ≤ 100000) ∧ (-100000 ≤ t1 ∧ t1 ≤ 100000) ∧ (-100000 ≤ t2 ∧ t2 ≤ 100000)) ∧ Y 10 w 3 = 0 ∧ 0 < q_det Y (-2000009) then q_wsh Y w t0 t1 t2 else -4611686018427387905))) τ') : S_X5_wish τ [zR 0 23 0, zI w, zI t0, zI t1, zI t2] Q := by
  rw [s_X5_wish, q_det_c11 h.1, q_wsh_c11 h.1, h.1 0 0 1 (by decide), h.1 10 w 3 (by decide)]
  exact ⟨⟨i, n, I.c11 h.1⟩, k⟩
theorem h_tick (I : q_Inv n Y) (h : q_st Y τ) {t : Int} (ht : 1 ≤ t ∧ t ≤ 200) (hn : Y 0 0 0 + t ≤ 50000) (k : ∀ τ', q_st (q_it t.toNat Y) τ' → q_ud Y τ' → Q (some (zI (q_mets Y t.toNat))) τ') : S_X5_tick τ [zR 0 23 0, zI t] Q := by
  rw [s_X5_tick, h.1 0 0 0 (by decide), q_mets_c11 h.1]
  refine ⟨⟨⟨by omega, by omega⟩, h.2.1, n, I.c11 h.1⟩, fun q => absurd ht q, fun _ q => absurd q (by omega), fun _ _ τ' g => ?_⟩
  obtain ⟨a, b⟩ := h.act I g
  exact k τ' (a.cg (q_it_c11 h.1 _)) b
theorem h_undo {Z : q_X} (h : q_st Y τ) (u : q_ud Z τ) (k : ∀ (r : Int) (τ' : q_M), 0 ≤ r → r < 4 → q_st Z τ' → Q (some (zI r)) τ') : S_X5_undo τ [zR 0 23 0] Q := by
  rw [s_X5_undo]
  have hk := h.2.1.1
  have u0 := u.1
  exact ⟨⟨h.2.1, h.2.2⟩, fun q => absurd q (by omega), fun _ => k _ _ (by omega) (by omega) (h.und u)⟩
theorem e_undo0 (h : q_st Y τ) (z : τ 0 21 0 0 = 0) : S_X5_undo τ [zR 0 23 0] Q = Q (some (zI (-2000009))) τ := by
  rw [s_X5_undo]
  exact propext ⟨fun q => q.2.1 (by omega), fun q => ⟨⟨h.2.1, h.2.2⟩, fun _ => q, fun c => absurd c (by omega)⟩⟩
theorem e_axis (I : q_Inv n Y) (h : q_st Y τ) {a w : Int} (ha : 0 ≤ a ∧ a ≤ 2) (hw : 0 ≤ w ∧ w ≤ 9) : S_X5_axis τ [zR 0 23 0, zI a, zI w] Q = Q (some (zL (q_cnum Y a w))) τ := by
  rw [s_X5_axis, if_pos ⟨ha, hw⟩, q_cnum_c11 h.1]
  exact propext ⟨fun q => q.2, fun q => ⟨⟨⟨⟨by omega, by omega⟩, by omega, by omega⟩, n, I.c11 h.1⟩, q⟩⟩
theorem b_axis (I : q_Inv n Y) (h : q_st Y τ) {a w : Int} (i : q_i32 a ∧ q_i32 w) (b : ¬ ((0 ≤ a ∧ a ≤ 2) ∧ 0 ≤ w ∧ w ≤ 9)) : S_X5_axis τ [zR 0 23 0, zI a, zI w] Q = Q (some (zL (-4611686018427387905))) τ := by
  rw [s_X5_axis, if_neg b]
  exact propext ⟨fun q => q.2, fun q => ⟨⟨i, n, I.c11 h.1⟩, q⟩⟩
theorem e_wheel (I : q_Inv n Y) (h : q_st Y τ) {k w : Int} (hk : 0 ≤ k ∧ k < Y 0 0 1) (hw : 0 ≤ w ∧ w ≤ 7) : S_X5_wheel τ [zR 0 23 0, zI k, zI w] Q = Q (some (zI (q_wnum Y k w))) τ := by
  have hc := I.cnt
  rw [s_X5_wheel, q_wnum_c11 h.1, h.1 0 0 1 (by decide)]
  exact propext ⟨fun q => q.2.2 ⟨⟨hk.1, by omega⟩, hw⟩, fun q => ⟨⟨⟨⟨by omega, by omega⟩, by omega, by omega⟩, n, I.c11 h.1⟩, fun c => absurd (show (0 ≤ k ∧ k ≤ Y 0 0 1 - 1) ∧ 0 ≤ w ∧ w ≤ 7 by omega) c, fun _ => q⟩⟩
theorem b_wheel (I : q_Inv n Y) (h : q_st Y τ) {k w : Int} (i : q_i32 k ∧ q_i32 w) (b : ¬ ((0 ≤ k ∧ k ≤ Y 0 0 1 - 1) ∧ 0 ≤ w ∧ w ≤ 7)) : S_X5_wheel τ [zR 0 23 0, zI k, zI w] Q = Q (some (zI (-2000001))) τ := by
  rw [s_X5_wheel, q_wnum_c11 h.1, h.1 0 0 1 (by decide)]
  exact propext ⟨fun q => q.2.1 b, fun q => ⟨⟨i, n, I.c11 h.1⟩, fun _ => q, fun c => absurd c b⟩⟩
theorem e_why (I : q_Inv n Y) (h : q_st Y τ) {d : Int} (i : q_i32 d) : S_X5_why τ [zR 0 23 0, zI d] Q = Q (some (zI (if d < 0 then -2000001 else if d < Y 0 0 2 then Y 9 0 d else -2000009))) τ := by
  rw [s_X5_why, h.1 0 0 2 (by decide), h.1 9 0 d (by decide)]
  exact propext ⟨fun q => q.2, fun q => ⟨⟨i, n, I.c11 h.1⟩, q⟩⟩
theorem e_time (h : q_st Y τ) : S_X5_time τ [zR 0 23 0] Q = Q (some (zI (Y 0 0 0))) τ := by
  rw [s_X5_time, h.1 0 0 0 (by decide)]
theorem e_wheels (h : q_st Y τ) : S_X5_wheels τ [zR 0 23 0] Q = Q (some (zI (Y 0 0 1))) τ := by
  rw [s_X5_wheels, h.1 0 0 1 (by decide)]
theorem e_setting (h : q_st Y τ) {w : Int} (hw : 0 ≤ w ∧ w ≤ 4) : S_X5_setting τ [zR 0 23 0, zI w] Q = Q (some (zI (Y 1 0 w))) τ := by
  rw [s_X5_setting, if_pos hw, h.1 1 0 w (by decide)]
  exact propext ⟨fun q => q.2, fun q => ⟨⟨by omega, by omega⟩, q⟩⟩
theorem b_setting {w : Int} (i : q_i32 w) (b : ¬ (0 ≤ w ∧ w ≤ 4)) : S_X5_setting τ [zR 0 23 0, zI w] Q = Q (some (zI (-2000001))) τ := by
  rw [s_X5_setting, if_neg b]
  exact propext ⟨fun q => q.2, fun q => ⟨i, q⟩⟩
theorem b_add (I : q_Inv n Y) (h : q_st Y τ) {x y z m t : Int} (i : q_i32 x ∧ q_i32 y ∧ q_i32 z ∧ q_i32 m ∧ q_i32 t) (b : ¬ q_wok x y z m t) : S_X5_addWheel τ [zR 0 23 0, zI x, zI y, zI z, zI m, zI t] Q = Q (some (zI (-2000001))) τ := by
  rw [s_X5_addWheel]
  exact propext ⟨fun q => q.2.1 b, fun q => ⟨⟨i, h.2.1, n, I.c11 h.1⟩, fun _ => q, fun c => absurd c b, fun c => absurd c b⟩⟩
theorem h_add (I : q_Inv n Y) (h : q_st Y τ) {x y z m t : Int} (w : q_wok x y z m t) (hc : Y 0 0 1 < 6) (k : ∀ τ', q_st (q_add Y x y z m t) τ' → Q (some (zI (Y 0 0 1))) τ') : S_X5_addWheel τ [zR 0 23 0, zI x, zI y, zI z, zI m, zI t] Q := by
  rw [s_X5_addWheel, h.1 0 0 1 (by decide)]
  have w' := w
  obtain ⟨⟨⟨hx, hy, hz⟩, -⟩, hm, ht⟩ := w'
  exact ⟨⟨⟨⟨by omega, by omega⟩, ⟨by omega, by omega⟩, ⟨by omega, by omega⟩, ⟨by omega, by omega⟩, by omega, by omega⟩, h.2.1, n, I.c11 h.1⟩, fun c => absurd w c, fun _ c => absurd c (by omega), fun _ _ => k _ ((h.act I (q_agp.rf _)).1.cg (q_add_c11 h.1 _ _ _ _ _))⟩
theorem b_fail (I : q_Inv n Y) (h : q_st Y τ) {k b : Int} (i : q_i32 k) (hb : b = 0 ∨ b = 1) (z : ¬ (0 ≤ k ∧ k ≤ Y 0 0 1 - 1)) : S_X5_fail τ [zR 0 23 0, zI k, zI b] Q = Q (some (zI (-2000001))) τ := by
  rw [s_X5_fail, h.1 0 0 1 (by decide)]
  exact propext ⟨fun q => q.2.1 z, fun q => ⟨⟨i, hb, h.2.1, n, I.c11 h.1⟩, fun _ => q, fun c => absurd c z⟩⟩
theorem h_fail (I : q_Inv n Y) (h : q_st Y τ) {k b : Int} (hk : 0 ≤ k ∧ k < Y 0 0 1) (hb : b = 0 ∨ b = 1) (kk : ∀ τ', q_st (q_p1 Y 10 k 3 b) τ' → Q (some (zI (Y 10 k 3))) τ') : S_X5_fail τ [zR 0 23 0, zI k, zI b] Q := by
  have hc := I.cnt
  rw [s_X5_fail, h.1 0 0 1 (by decide), h.1 10 k 3 (by decide)]
  exact ⟨⟨⟨by omega, by omega⟩, hb, h.2.1, n, I.c11 h.1⟩, fun c => absurd (show 0 ≤ k ∧ k ≤ Y 0 0 1 - 1 by omega) c, fun _ => kk _ ((h.act I (q_agp.rf _)).1.cg (q_p1_c11 h.1 _ _ _ _))⟩
theorem b_setMost (I : q_Inv n Y) (h : q_st Y τ) {k b v : Int} (i : q_i32 k ∧ q_i32 v) (hb : b = 0 ∨ b = 1) (z : ¬ ((0 ≤ k ∧ k ≤ Y 0 0 1 - 1) ∧ 1 ≤ v ∧ v ≤ (if b = 0 then 1000000 else 100000))) : S_X5_setMost τ [zR 0 23 0, zI k, zI b, zI v] Q = Q (some (zI (-2000001))) τ := by
  rw [s_X5_setMost, h.1 0 0 1 (by decide)]
  exact propext ⟨fun q => q.2.1 z, fun q => ⟨⟨i, hb, h.2.1, n, I.c11 h.1⟩, fun _ => q, fun c => absurd c z⟩⟩
theorem h_setMost (I : q_Inv n Y) (h : q_st Y τ) {k b v : Int} (hk : 0 ≤ k ∧ k < Y 0 0 1) (hb : b = 0 ∨ b = 1) (hv : 1 ≤ v ∧ v ≤ 100000) (kk : ∀ τ', q_st (q_p1 Y 10 k (if b = 0 then 1 else 2) v) τ' → Q (some (zI (if b = 0 then Y 10 k 1 else Y 10 k 2))) τ') : S_X5_setMost τ [zR 0 23 0, zI k, zI b, zI v] Q := by
  have hc := I.cnt
  rw [s_X5_setMost, h.1 0 0 1 (by decide), h.1 10 k 1 (by decide), h.1 10 k 2 (by decide)]
  have ok : (0 ≤ k ∧ k ≤ Y 0 0 1 - 1) ∧ 1 ≤ v ∧ v ≤ (if b = 0 then 1000000 else 100000) := ⟨by omega, by omega, by split <;> omega⟩
  exact ⟨⟨⟨⟨by omega, by omega⟩, by omega, by omega⟩, hb, h.2.1, n, I.c11 h.1⟩, fun c => absurd ok c, fun _ => kk _ ((h.act I (q_agp.rf _)).1.cg (q_p1_c11 h.1 _ _ _ _))⟩
theorem b_setAxis (I : q_Inv n Y) (h : q_st Y τ) {a w v : Int} (i : q_i32 a ∧ q_i32 w ∧ q_i32 v) (z : ¬ ((0 ≤ a ∧ a ≤ 2) ∧ (0 ≤ w ∧ w ≤ 3) ∧ q_tbl 34 w ≤ v ∧ v ≤ q_tbl 35 w)) : S_X5_setAxis τ [zR 0 23 0, zI a, zI w, zI v] Q = Q (some (zI (-2000001))) τ := by
  rw [s_X5_setAxis]
  exact propext ⟨fun q => q.2.1 z, fun q => ⟨⟨i, h.2.1, n, I.c11 h.1⟩, fun _ => q, fun c => absurd c z⟩⟩
theorem h_setAxis (I : q_Inv n Y) (h : q_st Y τ) {a w v : Int} (i : q_i32 v) (z : (0 ≤ a ∧ a ≤ 2) ∧ (0 ≤ w ∧ w ≤ 3) ∧ q_tbl 34 w ≤ v ∧ v ≤ q_tbl 35 w) (kk : ∀ τ', q_st (q_p1 Y 3 w a v) τ' → Q (some (zI (Y 3 w a))) τ') : S_X5_setAxis τ [zR 0 23 0, zI a, zI w, zI v] Q := by
  rw [s_X5_setAxis, h.1 3 w a (by decide)]
  exact ⟨⟨⟨⟨by omega, by omega⟩, ⟨by omega, by omega⟩, i⟩, h.2.1, n, I.c11 h.1⟩, fun c => absurd z c, fun _ => kk _ ((h.act I (q_agp.rf _)).1.cg (q_p1_c11 h.1 _ _ _ _))⟩
theorem b_set (I : q_Inv n Y) (h : q_st Y τ) {w v : Int} (i : q_i32 w ∧ q_i32 v) (z : ¬ ((0 ≤ w ∧ w ≤ 4) ∧ q_tbl 36 w ≤ v ∧ v ≤ q_tbl 37 w)) : S_X5_set τ [zR 0 23 0, zI w, zI v] Q = Q (some (zI (-2000001))) τ := by
  rw [s_X5_set]
  exact propext ⟨fun q => q.2.1 z, fun q => ⟨⟨i, h.2.1, n, I.c11 h.1⟩, fun _ => q, fun c => absurd c z⟩⟩
theorem h_set (I : q_Inv n Y) (h : q_st Y τ) {w v : Int} (i : q_i32 v) (z : (0 ≤ w ∧ w ≤ 4) ∧ q_tbl 36 w ≤ v ∧ v ≤ q_tbl 37 w) (kk : ∀ τ', q_st (q_p1 Y 1 0 w v) τ' → Q (some (zI (Y 1 0 w))) τ') : S_X5_set τ [zR 0 23 0, zI w, zI v] Q := by
  rw [s_X5_set, h.1 1 0 w (by decide)]
  exact ⟨⟨⟨⟨by omega, by omega⟩, i⟩, h.2.1, n, I.c11 h.1⟩, fun c => absurd z c, fun _ => kk _ ((h.act I (q_agp.rf _)).1.cg (q_p1_c11 h.1 _ _ _ _))⟩
theorem b_strike (I : q_Inv n Y) (h : q_st Y τ) {a x : Int} (i : q_i32 a ∧ q_i32 x) (z : ¬ ((0 ≤ a ∧ a ≤ 2) ∧ -100000 ≤ x ∧ x ≤ 100000)) : S_X5_strike τ [zR 0 23 0, zI a, zI x] Q = Q (some (zL (-4611686018427387905))) τ := by
  rw [s_X5_strike]
  exact propext ⟨fun q => q.2.1 z, fun q => ⟨⟨i, h.2.1, n, I.c11 h.1⟩, fun _ => q, fun c => absurd c z⟩⟩
theorem h_strike (I : q_Inv n Y) (h : q_st Y τ) {a x : Int} (z : (0 ≤ a ∧ a ≤ 2) ∧ -100000 ≤ x ∧ x ≤ 100000) (kk : ∀ τ', q_st (q_psh Y a x) τ' → Q (some (zL (q_rate (q_psh Y a x) a))) τ') : S_X5_strike τ [zR 0 23 0, zI a, zI x] Q := by
  rw [s_X5_strike, q_rate_c11 (q_psh_c11 h.1 a x)]
  exact ⟨⟨⟨⟨by omega, by omega⟩, by omega, by omega⟩, h.2.1, n, I.c11 h.1⟩, fun c => absurd z c, fun _ => kk _ ((h.act I (q_agp.rf _)).1.cg (q_psh_c11 h.1 _ _))⟩
theorem b_tick (I : q_Inv n Y) (h : q_st Y τ) {t : Int} (i : q_i32 t) (z : ¬ (1 ≤ t ∧ t ≤ 200)) : S_X5_tick τ [zR 0 23 0, zI t] Q = Q (some (zI (-2000001))) τ := by
  rw [s_X5_tick]
  exact propext ⟨fun q => q.2.1 z, fun q => ⟨⟨i, h.2.1, n, I.c11 h.1⟩, fun _ => q, fun c => absurd c z, fun c => absurd c z⟩⟩
end QRUL
theorem q_cmp_self (x : Int) : q_cmp x x = 0 := by unfold q_cmp; rw [if_neg (by omega), if_pos rfl]
