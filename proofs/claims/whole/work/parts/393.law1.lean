/-! ===== the law's state: the desk and the model say the same, so do their histories ===== -/
theorem q_enc.cv {v w : Int → Int} {X : q_X} (h : q_enc v X) (e : ∀ s, 0 ≤ s → s < 100 → w s = v s) : q_enc w X := by
  obtain ⟨h1, h2, h3, ⟨h4, h5, h6⟩, h7, h8⟩ := h
  refine ⟨fun s hs => ?_, ?_, ?_, ⟨?_, ?_, ?_⟩, fun a z ha hz => ?_, fun k z hk hz => ?_⟩
  · have hs' : 0 ≤ s ∧ s < 5 := hs
    rw [e s (by omega) (by omega)]
    exact h1 s hs
  · rw [e 5 (by decide) (by decide)]
    exact h2
  · rw [e 6 (by decide) (by decide)]
    exact h3
  · rw [e 8 (by decide) (by decide)]
    exact h4
  · rw [e 9 (by decide) (by decide)]
    exact h5
  · rw [e 10 (by decide) (by decide)]
    exact h6
  · have ha' : 0 ≤ a ∧ a < 3 := ha
    have hz' : 0 ≤ z ∧ z < 8 := hz
    rw [e _ (by omega) (by omega)]
    exact h7 a z ha hz
  · have hk' : 0 ≤ k ∧ k < 6 := hk
    have hz' : 0 ≤ z ∧ z < 8 := hz
    rw [e _ (by omega) (by omega)]
    exact h8 k z hk hz
theorem q_c11.xeq {X Y : q_X} (h : q_c11 X Y) : q_xeq X Y := fun p k s hp _ _ _ _ => h p k s hp
theorem q_Inv.mono {n m : Int} {X : q_X} (h : q_Inv n X) (hm : n ≤ m ∧ m ≤ 512) : q_Inv m X := by
  have hn := h.n
  refine ⟨⟨by omega, hm.2⟩, h.now, h.cnt, h.rc, h.set, fun i hi => h.giv hi, fun i hi => ?_, fun k hk => h.whl hk, fun i hi => h.rs hi⟩
  have a := h.axs hi
  exact ⟨⟨by omega, by omega⟩, a.2⟩
def q_LH (n : Int) (v : Int → Int) (X : q_X) : Prop := q_Inv n X ∧ X 0 0 0 ≤ 50000 ∧ q_enc v X
theorem q_LH.cg {n m : Int} {v w : Int → Int} {X Y : q_X} (h : q_LH n v X) (hm : n ≤ m ∧ m ≤ 512) (e : q_c11 Y X) (ev : ∀ s, 0 ≤ s → s < 100 → w s = v s) : q_LH m w Y := by
  obtain ⟨a, b, d⟩ := h
  refine ⟨(a.mono hm).c11 e, ?_, (d.cv ev).cg e.sm.xeq⟩
  rw [e 0 0 0 (by decide)]
  exact b
def q_LI (n : Int) (σ : q_M) : Prop := q_LH n (σ 0 25 0) (σ 0) ∧ q_Hs σ ∧ (∀ i j, q_in i 4 → q_in j 4 → σ 0 22 0 i = σ 0 22 0 j → i = j) ∧ σ 0 24 0 0 = σ 0 21 0 0 ∧ (∀ j, q_in j 4 → q_Fl (σ (σ 0 22 0 j))) ∧ (∀ j, 0 ≤ j → j < σ 0 21 0 0 → q_LH n (fun s => σ 0 27 0 (100 * j + s)) (σ (σ 0 22 0 j)))
/-- calls that are no acts -/
theorem q_LI.same {n m : Int} {σ τ1 τ2 : q_M} (h : q_LI n σ) (hm : n ≤ m ∧ m ≤ 512) (h1 : q_agp τ1 σ) (h2 : q_agw τ2 τ1) (h3 : q_enc (τ2 0 25 0) (σ 0)) : q_LI m τ2 := by
  obtain ⟨hL, ⟨hk, hr⟩, hinj, h24, hfl, hh⟩ := h
  have f : ∀ (c : Int) (p : Nat) (k s : Int), p ≠ 12 → p ≠ 15 → p ≠ 16 → p ≠ 17 → p ≠ 19 → p ≠ 20 → ¬ (c = 1 ∧ p ≤ 11) → p ≠ 25 → p ≠ 26 → p < 28 → ¬ (p = 24 ∧ s = 1) → τ2 c p k s = σ c p k s := fun c p k s a1 a2 a3 a4 a5 a6 a7 a8 a9 a10 a11 => (h2 c p k s a8 a9 (Or.inl a10) a11).trans (h1 c p k s a1 a2 a3 a4 a5 a6 a7)
  have f0 : ∀ c, ¬ c = 1 → q_c11 (τ2 c) (σ c) := fun c hc p k s hp => f c p k s (by omega) (by omega) (by omega) (by omega) (by omega) (by omega) (fun q => hc q.1) (by omega) (by omega) (by omega) (by omega)
  have f21 : τ2 0 21 0 0 = σ 0 21 0 0 := f 0 21 0 0 (by decide) (by decide) (by decide) (by decide) (by decide) (by decide) (by decide) (by decide) (by decide) (by decide) (by decide)
  have f22 : ∀ j, τ2 0 22 0 j = σ 0 22 0 j := fun j => f 0 22 0 j (by decide) (by decide) (by decide) (by decide) (by decide) (by decide) (by decide) (by decide) (by decide) (by decide) (by omega)
  have f24 : τ2 0 24 0 0 = σ 0 24 0 0 := f 0 24 0 0 (by decide) (by decide) (by decide) (by decide) (by decide) (by decide) (by decide) (by decide) (by decide) (by decide) (by decide)
  have f27 : ∀ j, τ2 0 27 0 j = σ 0 27 0 j := fun j => f 0 27 0 j (by decide) (by decide) (by decide) (by decide) (by decide) (by decide) (by decide) (by decide) (by decide) (by decide) (by omega)
  refine ⟨?_, ⟨by rw [f21]; exact hk, fun j hj => by rw [f22]; exact hr j hj⟩, fun i j hi hj e => hinj i j hi hj (by rw [← f22, ← f22]; exact e), by rw [f24, f21]; exact h24, fun j hj => ?_, fun j h0 hj => ?_⟩
  · refine ⟨(hL.1.mono hm).c11 (f0 0 (by decide)), ?_, h3.cg (f0 0 (by decide)).sm.xeq⟩
    rw [f0 0 (by decide) 0 0 0 (by decide)]
    exact hL.2.1
  · have hc := hr j hj
    rw [f22]
    intro k hk6
    rw [f0 _ (by omega) 10 k 3 (by decide)]
    exact hfl j hj k hk6
  · rw [f21] at hj
    have hc := hr j ⟨h0, by omega⟩
    rw [f22]
    exact (hh j h0 hj).cg hm (f0 _ (by omega)) (fun s _ _ => f27 _)
theorem q_act_n {σ : q_M} {X : q_X} (h : ¬ 4 ≤ σ 0 21 0 0) : q_act σ X = q_put (q_wr (q_put σ (σ 0 22 0 (σ 0 21 0 0)) (σ 0)) 0 21 0 0 (σ 0 21 0 0 + 1)) 0 X := by
  unfold q_act q_keep
  (try dsimp only)
  rw [if_neg h]
theorem q_act_y {σ : q_M} {X : q_X} (h : 4 ≤ σ 0 21 0 0) : q_act σ X = q_put (q_wr (q_put (q_rot σ) (σ 0 22 0 0) (q_rot σ 0)) 0 21 0 0 4) 0 X := by
  unfold q_act q_keep
  (try dsimp only)
  rw [if_pos h]
  rfl
theorem q_LI.fin {n m : Int} {σ τ : q_M} {X : q_X} {K : Int} {r : Int → Int} (h : q_LI n σ) (hm : n ≤ m ∧ m ≤ 512) (hX : q_LH m (τ 0 25 0) X) (hK : 0 ≤ K ∧ K < 4) (g0 : q_c11 (τ 0) X) (g21 : τ 0 21 0 0 = K + 1) (g24 : τ 0 24 0 0 = K + 1) (g22 : ∀ j, τ 0 22 0 j = r j)
    (gc : ∀ (c : Int) (p : Nat) (k s : Int), 2 ≤ c → p ≤ 11 → τ c p k s = if c = r K then σ 0 p k s else σ c p k s) (gr : ∀ j, q_in j 4 → ∃ i, q_in i 4 ∧ r j = σ 0 22 0 i) (ginj : ∀ i j, q_in i 4 → q_in j 4 → r i = r j → i = j)
    (gK : ∀ s, 0 ≤ s → s < 100 → τ 0 27 0 (100 * K + s) = σ 0 25 0 s) (go : ∀ j, 0 ≤ j → j < K → ∃ i, (0 ≤ i ∧ i < σ 0 21 0 0) ∧ r j = σ 0 22 0 i ∧ ∀ s, 0 ≤ s → s < 100 → τ 0 27 0 (100 * j + s) = σ 0 27 0 (100 * i + s)) : q_LI m τ := by
  obtain ⟨hL, ⟨hk, hr⟩, hinj, h24, hfl, hh⟩ := h
  have r2 : ∀ j, q_in j 4 → 2 ≤ r j ∧ r j < 6 := fun j hj => by
    obtain ⟨i, hi, e⟩ := gr j hj
    rw [e]
    exact hr i hi
  refine ⟨⟨hX.1.c11 g0, by rw [g0 0 0 0 (by decide)]; exact hX.2.1, hX.2.2.cg g0.sm.xeq⟩, ⟨by rw [g21]; omega, fun j hj => by rw [g22]; exact r2 j hj⟩, fun i j hi hj e => ginj i j hi hj (by rw [← g22, ← g22]; exact e), by rw [g24, g21], fun j hj => ?_, fun j h0 hj => ?_⟩
  · rw [g22]
    intro k hk6
    rw [gc _ _ _ _ (r2 j hj).1 (by decide)]
    split
    · exact hL.1.fl k hk6
    · obtain ⟨i, hi, e⟩ := gr j hj
      rw [e]
      exact hfl i hi k hk6
  · rw [g21] at hj
    rw [g22]
    by_cases z : j = K
    · subst z
      refine hL.cg hm (fun p k s hp => ?_) gK
      rw [gc _ _ _ _ (r2 j ⟨h0, by omega⟩).1 hp, if_pos rfl]
    · obtain ⟨i, hi, e1, e2⟩ := go j h0 (by omega)
      have hne : ¬ r j = r K := fun q => z (ginj j K ⟨h0, by omega⟩ ⟨hK.1, hK.2⟩ q)
      have g := (hh i hi.1 hi.2).cg (w := fun s => τ 0 27 0 (100 * j + s)) (Y := τ (r j)) hm (fun p k s hp => by
        rw [gc _ _ _ _ (r2 j ⟨h0, by omega⟩).1 hp, if_neg hne, e1]) e2
      exact g
/-- acts -/
theorem q_LI.act {n m : Int} {σ τ1 τ2 : q_M} {X : q_X} (h : q_LI n σ) (hm : n ≤ m ∧ m ≤ 512) (hX : q_Inv m X) (hn : X 0 0 0 ≤ 50000) (h1 : q_agp τ1 (q_act σ X)) (h2 : q_agv τ2 (q_mact τ1)) (h3 : q_enc (τ2 0 25 0) X) : q_LI m τ2 := by
  have h' := h
  obtain ⟨hL, ⟨hk, hr⟩, hinj, h24, hfl, hh⟩ := h'
  have f : ∀ (c : Int) (p : Nat) (k s : Int), p ≠ 12 → p ≠ 15 → p ≠ 16 → p ≠ 17 → p ≠ 19 → p ≠ 20 → ¬ (c = 1 ∧ p ≤ 11) → p ≠ 25 → p < 28 → p ≠ 24 → p ≠ 27 → τ2 c p k s = q_act σ X c p k s := fun c p k s a1 a2 a3 a4 a5 a6 a7 a8 a9 a10 a11 => by
    rw [h2 c p k s a8 (Or.inl a9) (fun q => a10 q.1)]
    unfold q_mact
    rw [if_neg a11, if_neg (fun q => a10 q.1)]
    exact h1 c p k s a1 a2 a3 a4 a5 a6 a7
  have fc : ∀ (c : Int) (p : Nat) (k s : Int), ¬ c = 1 → p ≤ 11 → τ2 c p k s = q_act σ X c p k s := fun c p k s hc hp => f c p k s (by omega) (by omega) (by omega) (by omega) (by omega) (by omega) (fun q => hc q.1) (by omega) (by omega) (by omega) (by omega)
  have f21 : τ2 0 21 0 0 = q_act σ X 0 21 0 0 := f 0 21 0 0 (by decide) (by decide) (by decide) (by decide) (by decide) (by decide) (by decide) (by decide) (by decide) (by decide) (by decide)
  have f22 : ∀ j, τ2 0 22 0 j = q_act σ X 0 22 0 j := fun j => f 0 22 0 j (by decide) (by decide) (by decide) (by decide) (by decide) (by decide) (by decide) (by decide) (by decide) (by decide) (by decide)
  have a24 : q_act σ X 0 24 0 0 = σ 0 24 0 0 := by
    show q_put _ _ _ _ _ _ _ = _
    rw [q_put_hi (by decide), q_keep_hi (by decide) (by decide) (by decide)]
  have a25 : ∀ s, q_act σ X 0 25 0 s = σ 0 25 0 s := fun s => by
    show q_put _ _ _ _ _ _ _ = _
    rw [q_put_hi (by decide), q_keep_hi (by decide) (by decide) (by decide)]
  have a27 : ∀ s, q_act σ X 0 27 0 s = σ 0 27 0 s := fun s => by
    show q_put _ _ _ _ _ _ _ = _
    rw [q_put_hi (by decide), q_keep_hi (by decide) (by decide) (by decide)]
  have b24 : τ1 0 24 0 0 = σ 0 21 0 0 := by
    rw [h1 0 24 0 0 (by decide) (by decide) (by decide) (by decide) (by decide) (by decide) (by decide), a24, h24]
  have b25 : ∀ s, τ1 0 25 0 s = σ 0 25 0 s := fun s => by
    rw [h1 0 25 0 s (by decide) (by decide) (by decide) (by decide) (by decide) (by decide) (by decide), a25]
  have b27 : ∀ s, τ1 0 27 0 s = σ 0 27 0 s := fun s => by
    rw [h1 0 27 0 s (by decide) (by decide) (by decide) (by decide) (by decide) (by decide) (by decide), a27]
  have epm : q_pm τ1 = (if σ 0 21 0 0 = 4 then 3 else σ 0 21 0 0) + 1 := by
    unfold q_pm
    rw [b24]
  have g24 : τ2 0 24 0 0 = q_pm τ1 := by
    rw [h2 0 24 0 0 (by decide) (by decide) (by decide)]
    unfold q_mact
    rw [if_neg (by decide), if_pos ⟨rfl, rfl⟩]
  have g27 : ∀ s, τ2 0 27 0 s = q_pst τ1 s := fun s => by
    rw [h2 0 27 0 s (by decide) (by decide) (by omega)]
    unfold q_mact
    rw [if_pos rfl]
  have g0 : q_c11 (τ2 0) X := fun p k s hp => by
    rw [fc 0 p k s (by decide) hp]
    exact q_put_in hp
  by_cases h4 : 4 ≤ σ 0 21 0 0
  · have e4 : σ 0 21 0 0 = 4 := by omega
    rw [if_pos e4] at epm
    refine h.fin (K := 3) (r := fun j => if j = 3 then σ 0 22 0 0 else σ 0 22 0 (j + 1)) hm ⟨hX, hn, h3⟩ ⟨by decide, by decide⟩ g0 ?_ ?_ (fun j => ?_) (fun c p k s hc hp => ?_) (fun j hj => ?_) (fun i j hi hj e => ?_) (fun s s0 s1 => ?_) (fun j j0 j1 => ⟨j + 1, ⟨by omega, by omega⟩, if_neg (by omega), fun s s0 s1 => ?_⟩)
    · rw [f21, q_act_y h4, q_put_hi (by decide)]
      exact q_wr_eq
    · rw [g24, epm]
    · rw [f22, q_act_y h4, q_put_hi (by decide), q_wr_ne (by omega), q_put_hi (by decide)]
      rfl
    · rw [fc c p k s (by omega) hp, q_act_y h4]
      have e1 : ∀ (Z : q_M), q_put Z 0 X c p k s = Z c p k s := fun Z => if_neg (by omega)
      rw [e1, q_wr_ne (by omega)]
      have e2 : ∀ c, q_rot σ c p k s = σ c p k s := fun c => by
        unfold q_rot
        rw [if_neg (by omega), if_neg (by omega)]
      show (if c = σ 0 22 0 0 ∧ p ≤ 11 then q_rot σ 0 p k s else q_rot σ c p k s) = if c = (if (3 : Int) = 3 then σ 0 22 0 0 else σ 0 22 0 (3 + 1)) then σ 0 p k s else σ c p k s
      rw [e2, e2, if_pos (c := (3 : Int) = 3) rfl]
      by_cases z : c = σ 0 22 0 0
      · rw [if_pos ⟨z, hp⟩, if_pos z]
      · rw [if_neg (fun q => z q.1), if_neg z]
    · have hj' : 0 ≤ j ∧ j < 4 := hj
      by_cases z : j = 3
      · exact ⟨0, ⟨by decide, by decide⟩, if_pos z⟩
      · exact ⟨j + 1, ⟨by omega, by omega⟩, if_neg z⟩
    · have hi' : 0 ≤ i ∧ i < 4 := hi
      have hj' : 0 ≤ j ∧ j < 4 := hj
      (try dsimp only at e)
      by_cases z : i = 3
      · by_cases y : j = 3
        · omega
        · rw [if_pos z, if_neg y] at e
          have := hinj 0 (j + 1) ⟨by decide, by decide⟩ ⟨by omega, by omega⟩ e
          omega
      · by_cases y : j = 3
        · rw [if_neg z, if_pos y] at e
          have := hinj (i + 1) 0 ⟨by omega, by omega⟩ ⟨by decide, by decide⟩ e
          omega
        · rw [if_neg z, if_neg y] at e
          have := hinj (i + 1) (j + 1) ⟨by omega, by omega⟩ ⟨by omega, by omega⟩ e
          omega
    · rw [g27]
      unfold q_pst
      rw [epm, if_pos (by omega), b25]
      congr 1
      omega
    · rw [g27]
      unfold q_pst
      rw [epm, if_neg (by omega), if_pos ⟨by omega, by omega⟩, b27]
      congr 1
      omega
  · rw [if_neg (by omega)] at epm
    refine h.fin (K := σ 0 21 0 0) (r := fun j => σ 0 22 0 j) hm ⟨hX, hn, h3⟩ ⟨by omega, by omega⟩ g0 ?_ ?_ (fun j => ?_) (fun c p k s hc hp => ?_) (fun j hj => ⟨j, hj, rfl⟩) (fun i j hi hj e => hinj i j hi hj e) (fun s s0 s1 => ?_) (fun j j0 j1 => ⟨j, ⟨j0, j1⟩, rfl, fun s s0 s1 => ?_⟩)
    · rw [f21, q_act_n h4, q_put_hi (by decide)]
      exact q_wr_eq
    · rw [g24, epm]
    · rw [f22, q_act_n h4, q_put_hi (by decide), q_wr_ne (by omega), q_put_hi (by decide)]
    · rw [fc c p k s (by omega) hp, q_act_n h4]
      have e1 : ∀ (Z : q_M), q_put Z 0 X c p k s = Z c p k s := fun Z => if_neg (by omega)
      rw [e1, q_wr_ne (by omega)]
      show (if c = σ 0 22 0 (σ 0 21 0 0) ∧ p ≤ 11 then σ 0 p k s else σ c p k s) = if c = σ 0 22 0 (σ 0 21 0 0) then σ 0 p k s else σ c p k s
      by_cases z : c = σ 0 22 0 (σ 0 21 0 0)
      · rw [if_pos ⟨z, hp⟩, if_pos z]
      · rw [if_neg (fun q => z q.1), if_neg z]
    · rw [g27]
      unfold q_pst
      rw [epm, if_pos (by omega), b25]
      congr 1
      omega
    · rw [g27]
      unfold q_pst
      rw [epm, if_neg (by omega), b24, if_neg (by omega), b27]
/-- undo -/
theorem q_und_o {σ : q_M} {c : Int} {p : Nat} {k s : Int} (h1 : ¬ p = 25) (h2 : ¬ p = 24) : q_und σ c p k s = σ c p k s := by
  unfold q_und
  rw [if_neg h1, if_neg (fun q => h2 q.1)]
theorem q_und_25 {σ : q_M} {c k s : Int} : q_und σ c 25 k s = σ 0 27 0 (100 * (σ 0 24 0 0 - 1) + s) := if_pos rfl
theorem q_und_24 {σ : q_M} {c k : Int} : q_und σ c 24 k 0 = σ 0 24 0 0 - 1 := by
  unfold q_und
  rw [if_neg (by decide), if_pos ⟨rfl, rfl⟩]
theorem q_LI.und {n m : Int} {σ : q_M} (h : q_LI n σ) (hm : n ≤ m ∧ m ≤ 512) (hp : 0 < σ 0 21 0 0) : q_LI m (q_und (q_put (q_wr σ 0 21 0 0 (σ 0 21 0 0 - 1)) 0 (σ (σ 0 22 0 (σ 0 21 0 0 - 1))))) := by
  obtain ⟨hL, ⟨hk, hr⟩, hinj, h24, hfl, hh⟩ := h
  generalize hτ : q_und (q_put (q_wr σ 0 21 0 0 (σ 0 21 0 0 - 1)) 0 (σ (σ 0 22 0 (σ 0 21 0 0 - 1)))) = τ
  have e24 : q_put (q_wr σ 0 21 0 0 (σ 0 21 0 0 - 1)) 0 (σ (σ 0 22 0 (σ 0 21 0 0 - 1))) 0 24 0 0 = σ 0 21 0 0 := by
    rw [q_put_hi (by decide), q_wr_ne (by omega), h24]
  have f24 : τ 0 24 0 0 = σ 0 21 0 0 - 1 := by
    rw [← hτ, q_und_24, e24]
  have f21 : τ 0 21 0 0 = σ 0 21 0 0 - 1 := by
    rw [← hτ, q_und_o (by decide) (by decide), q_put_hi (by decide)]
    exact q_wr_eq
  have f22 : ∀ j, τ 0 22 0 j = σ 0 22 0 j := fun j => by
    rw [← hτ, q_und_o (by decide) (by decide), q_put_hi (by decide), q_wr_ne (by omega)]
  have f27 : ∀ s, τ 0 27 0 s = σ 0 27 0 s := fun s => by
    rw [← hτ, q_und_o (by decide) (by decide), q_put_hi (by decide), q_wr_ne (by omega)]
  have f25 : ∀ s, τ 0 25 0 s = σ 0 27 0 (100 * (σ 0 21 0 0 - 1) + s) := fun s => by
    rw [← hτ, q_und_25, e24, q_put_hi (by decide), q_wr_ne (by omega)]
  have fc : ∀ (c : Int) (p : Nat) (k s : Int), p ≤ 11 → τ c p k s = if c = 0 then σ (σ 0 22 0 (σ 0 21 0 0 - 1)) p k s else σ c p k s := fun c p k s hp => by
    rw [← hτ, q_und_o (by omega) (by omega)]
    show (if c = 0 ∧ p ≤ 11 then _ else q_wr _ _ _ _ _ _ _ _ _ _) = _
    rw [q_wr_ne (by omega)]
    by_cases z : c = 0
    · rw [if_pos ⟨z, hp⟩, if_pos z]
    · rw [if_neg (fun q => z q.1), if_neg z]
  have g0 : q_c11 (τ 0) (σ (σ 0 22 0 (σ 0 21 0 0 - 1))) := fun p k s hp => by
    rw [fc 0 p k s hp, if_pos rfl]
  have gc : ∀ c, ¬ c = 0 → q_c11 (τ c) (σ c) := fun c hc p k s hp => by
    rw [fc c p k s hp, if_neg hc]
  refine ⟨(hh (σ 0 21 0 0 - 1) (by omega) (by omega)).cg hm g0 (fun s _ _ => f25 s), ⟨by rw [f21]; omega, fun j hj => by rw [f22]; exact hr j hj⟩, fun i j hi hj e => hinj i j hi hj (by rw [← f22, ← f22]; exact e), by rw [f24, f21], fun j hj => ?_, fun j h0 hj => ?_⟩
  · have hc := hr j hj
    rw [f22]
    intro k hk6
    rw [gc _ (by omega) 10 k 3 (by decide)]
    exact hfl j hj k hk6
  · rw [f21] at hj
    have hc := hr j ⟨h0, by omega⟩
    rw [f22]
    exact (hh j h0 (by omega)).cg hm (gc _ (by omega)) (fun s _ _ => f27 _)
/-! ===== the acts keep the bounds ===== -/
theorem q_Inv.wl1 {n : Int} {X : q_X} (h : q_Inv n X) {k v : Int} (hv : 1 ≤ v ∧ v ≤ 1000000) : q_Inv n (q_p1 X 10 k 1 v) := by
  have ew : ∀ i, q_wmom (q_p1 X 10 k 1 v) i = q_wmom X i := fun i => q_wmom_cg (X := q_p1 X 10 k 1 v) (Y := X) rfl (fun j => if_neg (by omega)) (fun _ _ => rfl) i
  refine ⟨h.n, h.now, h.cnt, h.rc, h.set, fun i hi => h.giv hi, fun i hi => ?_, fun j hj => ?_, fun i hi => h.rs hi⟩
  · rw [ew]
    exact h.axs hi
  · obtain ⟨a, b, c, d, e, f, g⟩ := h.whl hj
    refine ⟨a, ?_, ?_, ?_, ?_, ?_, ?_⟩ <;> (unfold q_p1; repeat' split) <;> omega
theorem q_Inv.wl2 {n : Int} {X : q_X} (h : q_Inv n X) {k v : Int} (hv : 1 ≤ v ∧ v ≤ 100000) : q_Inv n (q_p1 X 10 k 2 v) := by
  have ew : ∀ i, q_wmom (q_p1 X 10 k 2 v) i = q_wmom X i := fun i => q_wmom_cg (X := q_p1 X 10 k 2 v) (Y := X) rfl (fun j => if_neg (by omega)) (fun _ _ => rfl) i
  refine ⟨h.n, h.now, h.cnt, h.rc, h.set, fun i hi => h.giv hi, fun i hi => ?_, fun j hj => ?_, fun i hi => h.rs hi⟩
  · rw [ew]
    exact h.axs hi
  · obtain ⟨a, b, c, d, e, f, g⟩ := h.whl hj
    refine ⟨a, ?_, ?_, ?_, ?_, ?_, ?_⟩ <;> (unfold q_p1; repeat' split) <;> omega
theorem q_Inv.wl3 {n : Int} {X : q_X} (h : q_Inv n X) {k v : Int} (hv : v = 0 ∨ v = 1) : q_Inv n (q_p1 X 10 k 3 v) := by
  have ew : ∀ i, q_wmom (q_p1 X 10 k 3 v) i = q_wmom X i := fun i => q_wmom_cg (X := q_p1 X 10 k 3 v) (Y := X) rfl (fun j => if_neg (by omega)) (fun _ _ => rfl) i
  refine ⟨h.n, h.now, h.cnt, h.rc, h.set, fun i hi => h.giv hi, fun i hi => ?_, fun j hj => ?_, fun i hi => h.rs hi⟩
  · rw [ew]
    exact h.axs hi
  · obtain ⟨a, b, c, d, e, f, g⟩ := h.whl hj
    refine ⟨a, ?_, ?_, ?_, ?_, ?_, ?_⟩ <;> (unfold q_p1; repeat' split) <;> omega
theorem q_Inv.axn {n : Int} {X : q_X} (h : q_Inv n X) {w a v : Int} (hw : 0 ≤ w ∧ w ≤ 3) (hv : q_tbl 34 w ≤ v ∧ v ≤ q_tbl 35 w) : q_Inv n (q_p1 X 3 w a v) := by
  have ew : ∀ i, q_wmom (q_p1 X 3 w a v) i = q_wmom X i := fun i => q_wmom_cg (X := q_p1 X 3 w a v) (Y := X) rfl (fun j => rfl) (fun _ _ => rfl) i
  refine ⟨h.n, h.now, h.cnt, h.rc, h.set, fun i hi => ?_, fun i hi => ?_, fun j hj => h.whl hj, fun i hi => h.rs hi⟩
  · obtain ⟨b, c, d, e⟩ := h.giv hi
    have hc : w = 0 ∨ w = 1 ∨ w = 2 ∨ w = 3 := by omega
    rcases hc with rfl | rfl | rfl | rfl
    · have hv' : 1 ≤ v ∧ v ≤ 1000 := hv
      refine ⟨?_, ?_, ?_, ?_⟩ <;> (unfold q_p1; repeat' split) <;> omega
    · have hv' : -1000000 ≤ v ∧ v ≤ 1000000 := hv
      refine ⟨?_, ?_, ?_, ?_⟩ <;> (unfold q_p1; repeat' split) <;> omega
    · have hv' : -100 ≤ v ∧ v ≤ 100 := hv
      refine ⟨?_, ?_, ?_, ?_⟩ <;> (unfold q_p1; repeat' split) <;> omega
    · have hv' : -1000 ≤ v ∧ v ≤ 1000 := hv
      refine ⟨?_, ?_, ?_, ?_⟩ <;> (unfold q_p1; repeat' split) <;> omega
  · rw [ew]
    exact h.axs hi
theorem q_Inv.stn {n : Int} {X : q_X} (h : q_Inv n X) {w v : Int} (hw : 0 ≤ w ∧ w ≤ 4) (hv : q_tbl 36 w ≤ v ∧ v ≤ q_tbl 37 w) : q_Inv n (q_p1 X 1 0 w v) := by
  have ew : ∀ i, q_wmom (q_p1 X 1 0 w v) i = q_wmom X i := fun i => q_wmom_cg (X := q_p1 X 1 0 w v) (Y := X) rfl (fun j => rfl) (fun _ _ => rfl) i
  refine ⟨h.n, h.now, h.cnt, h.rc, ?_, fun i hi => h.giv hi, fun i hi => ?_, fun j hj => h.whl hj, fun i hi => h.rs hi⟩
  · obtain ⟨b, c, d, e, f⟩ := h.set
    have hc : w = 0 ∨ w = 1 ∨ w = 2 ∨ w = 3 ∨ w = 4 := by omega
    rcases hc with rfl | rfl | rfl | rfl | rfl
    · have hv' : 0 ≤ v ∧ v ≤ 1000 := hv
      refine ⟨?_, ?_, ?_, ?_, ?_⟩ <;> (unfold q_p1; repeat' split) <;> omega
    · have hv' : 0 ≤ v ∧ v ≤ 1000 := hv
      refine ⟨?_, ?_, ?_, ?_, ?_⟩ <;> (unfold q_p1; repeat' split) <;> omega
    · have hv' : 1 ≤ v ∧ v ≤ 10000 := hv
      refine ⟨?_, ?_, ?_, ?_, ?_⟩ <;> (unfold q_p1; repeat' split) <;> omega
    · have hv' : 1 ≤ v ∧ v ≤ 100000 := hv
      refine ⟨?_, ?_, ?_, ?_, ?_⟩ <;> (unfold q_p1; repeat' split) <;> omega
    · have hv' : 0 ≤ v ∧ v ≤ 10000 := hv
      refine ⟨?_, ?_, ?_, ?_, ?_⟩ <;> (unfold q_p1; repeat' split) <;> omega
  · rw [ew]
    exact h.axs hi
theorem q_Inv.psh {n : Int} {X : q_X} (h : q_Inv n X) (hn : n < 512) {a x : Int} (hx : -100000 ≤ x ∧ x ≤ 100000) : q_Inv (n + 1) (q_psh X a x) := by
  have ew : ∀ i, q_wmom (q_psh X a x) i = q_wmom X i := fun i => q_wmom_cg (X := q_psh X a x) (Y := X) rfl (fun j => rfl) (fun _ _ => rfl) i
  have h0 := h.n
  refine ⟨⟨by omega, by omega⟩, h.now, h.cnt, h.rc, h.set, fun i hi => h.giv hi, fun i hi => ?_, fun j hj => h.whl hj, fun i hi => h.rs hi⟩
  obtain ⟨⟨b, b'⟩, c, d, e⟩ := h.axs hi
  have e5 : q_psh X a x 5 0 i = if i = a then X 5 0 i + x else X 5 0 i := by
    unfold q_psh
    by_cases z : i = a
    · rw [if_pos ⟨Or.inl rfl, rfl, z⟩, if_pos z]
    · rw [if_neg (fun q => z q.2.2), if_neg z]
  have e6 : q_psh X a x 6 0 i = if i = a then X 6 0 i + x else X 6 0 i := by
    unfold q_psh
    by_cases z : i = a
    · rw [if_pos ⟨Or.inr rfl, rfl, z⟩, if_pos z]
    · rw [if_neg (fun q => z q.2.2), if_neg z]
  rw [ew, e5, e6]
  have e0 : q_psh X a x 0 0 0 = X 0 0 0 := rfl
  rw [e0]
  refine ⟨?_, ?_, d, e⟩
  · split <;> omega
  · split <;> omega
theorem q_Inv.adw {n : Int} {X : q_X} (h : q_Inv n X) {x y z m t : Int} (hw : q_wok x y z m t) (hc : X 0 0 1 < 6) : q_Inv n (q_add X x y z m t) := by
  obtain ⟨⟨⟨hx, hy, hz⟩, -⟩, hm, ht⟩ := hw
  have hcnt := h.cnt
  have e01 : q_add X x y z m t 0 0 1 = X 0 0 1 + 1 := by simp [q_add]
  have eo : ∀ (p : Nat) (k s : Int), ¬ (p = 0 ∧ s = 1) → ¬ ((p = 10 ∨ p = 11) ∧ k = X 0 0 1) → q_add X x y z m t p k s = X p k s := fun p k s h1 h2 => by
    unfold q_add
    rw [if_neg (by omega), if_neg (by omega), if_neg (by omega)]
  have n11 : ∀ s, q_add X x y z m t 11 (X 0 0 1) s = if s = 0 then x else if s = 1 then y else if s = 2 then z else X 11 (X 0 0 1) s := fun s => by
    unfold q_add
    rw [if_pos ⟨rfl, rfl⟩]
  have n10 : ∀ s, q_add X x y z m t 10 (X 0 0 1) s = if s = 0 then 0 else if s = 1 then m else if s = 2 then t else if s = 3 then 0 else if s = 4 then 0 else X 10 (X 0 0 1) s := fun s => by
    unfold q_add
    rw [if_neg (by omega), if_pos ⟨rfl, rfl⟩]
  have ew : ∀ i, q_wmom (q_add X x y z m t) i = q_wmom X i := fun i => by
    unfold q_wmom
    rw [e01, show (X 0 0 1 + 1).toNat = (X 0 0 1).toNat + 1 by omega]
    show q_sum _ _ + q_add X x y z m t 11 ((X 0 0 1).toNat : Int) i * q_add X x y z m t 10 ((X 0 0 1).toNat : Int) 0 = _
    rw [show (((X 0 0 1).toNat : Nat) : Int) = X 0 0 1 by omega, n10 0, if_pos rfl, Int.mul_zero, Int.add_zero]
    exact q_sum_cg _ (fun k k0 k1 => by
      (try dsimp only)
      rw [eo 11 k i (by omega) (by omega), eo 10 k 0 (by omega) (by omega)])
  refine ⟨h.n, h.now, by rw [e01]; omega, h.rc, h.set, fun i hi => h.giv hi, fun i hi => ?_, fun j hj => ?_, fun i hi => h.rs hi⟩
  · rw [ew]
    exact h.axs hi
  · obtain ⟨a, b, c, d, e, f, g⟩ := h.whl hj
    rw [e01]
    by_cases q : j = X 0 0 1
    · subst q
      rw [n10 0, n10 1, n10 2, n10 3, n10 4]
      refine ⟨fun i hi => ?_, ?_, ?_, ?_, ?_, ?_, ?_⟩
      · have hi' : 0 ≤ i ∧ i < 3 := hi
        rw [n11]
        repeat' split
        all_goals omega
      · simp
      · simp
        omega
      · simp
        omega
      · simp
      · simp
      · simp
        omega
    · rw [eo 10 j 0 (by omega) (by omega), eo 10 j 1 (by omega) (by omega), eo 10 j 2 (by omega) (by omega), eo 10 j 3 (by omega) (by omega), eo 10 j 4 (by omega) (by omega)]
      exact ⟨fun i hi => by rw [eo 11 j i (by omega) (by omega)]; exact a i hi, b, c, d, e, f, fun z => g (by omega)⟩
