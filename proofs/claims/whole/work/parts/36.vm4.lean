/-! ===== the model's row written ===== -/
def q_u (v : Int → Int) (i x : Int) : Int → Int := fun s => if s = i then x else v s
theorem q_u_wr (σ : q_M) (i x : Int) : q_wr σ 0 25 0 i x 0 25 0 = q_u (σ 0 25 0) i x := by
  funext s
  unfold q_wr q_u
  by_cases z : s = i
  · rw [if_pos ⟨rfl, rfl, rfl, z⟩, if_pos z]
  · rw [if_neg (fun q => z q.2.2.2), if_neg z]
/-- two crafts that agree on all that the model's row tells -/
def q_xeq (X Y : q_X) : Prop := ∀ (p : Nat) (k s : Int), p ≤ 11 → 0 ≤ k → k < q_nk p → 0 ≤ s → s < q_sz p → X p k s = Y p k s
theorem q_enc.cg {v : Int → Int} {X Y : q_X} (h : q_enc v X) (e : q_xeq X Y) : q_enc v Y := by
  obtain ⟨h1, h2, h3, ⟨h4, h5, h6⟩, h7, h8⟩ := h
  refine ⟨fun s hs => ?_, ?_, ?_, ⟨?_, ?_, ?_⟩, fun a w ha hw => ?_, fun k w hk hw => ?_⟩
  · rw [h1 s hs]; exact e 1 0 s (by decide) (by decide) (by decide) hs.1 hs.2
  · rw [h2]; exact e 0 0 0 (by decide) (by decide) (by decide) (by decide) (by decide)
  · rw [h3]; exact e 0 0 1 (by decide) (by decide) (by decide) (by decide) (by decide)
  · rw [h4]; exact e 9 0 0 (by decide) (by decide) (by decide) (by decide) (by decide)
  · rw [h5, e 0 0 2 (by decide) (by decide) (by decide) (by decide) (by decide), e 9 0 1 (by decide) (by decide) (by decide) (by decide) (by decide)]
  · rw [h6, e 0 0 2 (by decide) (by decide) (by decide) (by decide) (by decide), e 9 0 2 (by decide) (by decide) (by decide) (by decide) (by decide)]
  · rw [h7 a w ha hw]
    unfold q_av
    rw [e 4 0 a (by decide) (by decide) (by decide) ha.1 ha.2, e 5 0 a (by decide) (by decide) (by decide) ha.1 ha.2, e 3 0 a (by decide) (by decide) (by decide) ha.1 ha.2, e 3 1 a (by decide) (by decide) (by decide) ha.1 ha.2, e 3 2 a (by decide) (by decide) (by decide) ha.1 ha.2, e 3 3 a (by decide) (by decide) (by decide) ha.1 ha.2, e 6 0 a (by decide) (by decide) (by decide) ha.1 ha.2, e 7 0 a (by decide) (by decide) (by decide) ha.1 ha.2]
  · rw [h8 k w hk hw]
    unfold q_kv
    split
    · next q => exact e 11 k w (by decide) hk.1 hk.2 hw.1 (by have := hw.1; show w < 3; omega)
    · rw [e 10 k 0 (by decide) hk.1 hk.2 (by decide) (by decide), e 10 k 1 (by decide) hk.1 hk.2 (by decide) (by decide), e 10 k 2 (by decide) hk.1 hk.2 (by decide) (by decide), e 10 k 3 (by decide) hk.1 hk.2 (by decide) (by decide), e 10 k 4 (by decide) hk.1 hk.2 (by decide) (by decide)]
theorem q_enc.us {v : Int → Int} {X : q_X} (h : q_enc v X) {i x : Int} (hi : q_in i 5) : q_enc (q_u v i x) (q_p1 X 1 0 i x) := by
  obtain ⟨h1, h2, h3, ⟨h4, h5, h6⟩, h7, h8⟩ := h
  simp only [q_in] at hi
  refine ⟨fun s hs => ?_, ?_, ?_, ⟨?_, ?_, ?_⟩, fun a w ha hw => ?_, fun k w hk hw => ?_⟩
  · have := h1 s hs
    simp only [q_u, q_p1]
    grind
  · simp only [q_u, q_p1]; grind
  · simp only [q_u, q_p1]; grind
  · simp only [q_u, q_p1]; grind
  · simp only [q_u, q_p1]; grind
  · simp only [q_u, q_p1]; grind
  · have := h7 a w ha hw
    simp only [q_in] at ha hw
    simp only [q_u, q_av, q_p1] at *
    grind
  · have := h8 k w hk hw
    simp only [q_in] at hk hw
    simp only [q_u, q_kv, q_p1] at *
    grind
theorem q_enc.un {v : Int → Int} {X : q_X} (h : q_enc v X) {x : Int} : q_enc (q_u v 5 x) (q_p1 X 0 0 0 x) ∧ q_enc (q_u v 6 x) (q_p1 X 0 0 1 x) := by
  obtain ⟨h1, h2, h3, ⟨h4, h5, h6⟩, h7, h8⟩ := h
  refine ⟨⟨fun s hs => ?_, ?_, ?_, ⟨?_, ?_, ?_⟩, fun a w ha hw => ?_, fun k w hk hw => ?_⟩, ⟨fun s hs => ?_, ?_, ?_, ⟨?_, ?_, ?_⟩, fun a w ha hw => ?_, fun k w hk hw => ?_⟩⟩
  all_goals (first
    | (have := h1 s hs; simp only [q_in] at hs; simp only [q_u, q_p1]; grind)
    | (have := h7 a w ha hw; simp only [q_in] at ha hw; simp only [q_u, q_av, q_p1] at *; grind)
    | (have := h8 k w hk hw; simp only [q_in] at hk hw; simp only [q_u, q_kv, q_p1] at *; grind)
    | (simp only [q_u, q_p1]; grind))
/-- a wheel's number -/
theorem q_enc.uk {v : Int → Int} {X : q_X} (h : q_enc v X) {k w x : Int} (hk : q_in k 6) (hw : q_in w 8) : q_enc (q_u v (40 + 8 * k + w) x) (q_p1 X (if w ≤ 2 then 11 else 10) k (if w ≤ 2 then w else w - 3) x) := by
  obtain ⟨h1, h2, h3, ⟨h4, h5, h6⟩, h7, h8⟩ := h
  simp only [q_in] at hk hw
  refine ⟨fun s hs => ?_, ?_, ?_, ⟨?_, ?_, ?_⟩, fun a w' ha hw' => ?_, fun k' w' hk' hw' => ?_⟩
  · have := h1 s hs
    simp only [q_in] at hs
    simp only [q_u, q_p1]
    grind
  · simp only [q_u, q_p1]; grind
  · simp only [q_u, q_p1]; grind
  · simp only [q_u, q_p1]; grind
  · simp only [q_u, q_p1]; grind
  · simp only [q_u, q_p1]; grind
  · have := h7 a w' ha hw'
    simp only [q_in] at ha hw'
    simp only [q_u, q_av, q_p1] at *
    rw [if_neg (by omega), this]
    grind
  · have := h8 k' w' hk' hw'
    simp only [q_in] at hk' hw'
    unfold q_u
    by_cases z : k' = k ∧ w' = w
    · obtain ⟨rfl, rfl⟩ := z
      rw [if_pos rfl]
      simp only [q_kv, q_p1]
      grind
    · rw [if_neg (by omega), this]
      simp only [q_kv, q_p1]
      grind
/-- an axis's number -/
def q_ap (w : Int) : Nat := if w = 0 then 4 else if w = 1 then 5 else if w = 6 then 6 else if w = 7 then 7 else 3
def q_ak (w : Int) : Int := if 2 ≤ w ∧ w ≤ 5 then w - 2 else 0
theorem q_av_eq (X : q_X) (a : Int) {w : Int} (hw : q_in w 8) : q_av X a w = X (q_ap w) (q_ak w) a := by
  have hw' : 0 ≤ w ∧ w < 8 := hw
  have hc : w = 0 ∨ w = 1 ∨ w = 2 ∨ w = 3 ∨ w = 4 ∨ w = 5 ∨ w = 6 ∨ w = 7 := by omega
  rcases hc with rfl | rfl | rfl | rfl | rfl | rfl | rfl | rfl <;> rfl
theorem q_ap_inj {w w' : Int} (hw : q_in w 8) (hw' : q_in w' 8) (h1 : q_ap w' = q_ap w) (h2 : q_ak w' = q_ak w) : w' = w := by
  have key : ∀ i j : Fin 8, q_ap ((i : Nat) : Int) = q_ap ((j : Nat) : Int) → q_ak ((i : Nat) : Int) = q_ak ((j : Nat) : Int) → i = j := by decide
  obtain ⟨a, b⟩ := hw
  obtain ⟨c, d⟩ := hw'
  obtain ⟨m, rfl⟩ := Int.eq_ofNat_of_zero_le a
  obtain ⟨m', rfl⟩ := Int.eq_ofNat_of_zero_le c
  have := key ⟨m', by omega⟩ ⟨m, by omega⟩ h1 h2
  have := congrArg Fin.val this
  simp only at this
  omega
theorem q_ap_le (w : Int) : 3 ≤ q_ap w ∧ q_ap w ≤ 7 := by
  unfold q_ap
  repeat' split
  all_goals decide
theorem q_enc.ua {v : Int → Int} {X : q_X} (h : q_enc v X) {a w x : Int} (ha : q_in a 3) (hw : q_in w 8) : q_enc (q_u v (12 + 8 * a + w) x) (q_p1 X (q_ap w) (q_ak w) a x) := by
  obtain ⟨h1, h2, h3, ⟨h4, h5, h6⟩, h7, h8⟩ := h
  have hp := q_ap_le w
  have ha' : 0 ≤ a ∧ a < 3 := ha
  have hw' : 0 ≤ w ∧ w < 8 := hw
  have ne : ∀ (p : Nat) (k s : Int), ¬ (3 ≤ p ∧ p ≤ 7) → q_p1 X (q_ap w) (q_ak w) a x p k s = X p k s := fun p k s hn => if_neg (by omega)
  refine ⟨fun s hs => ?_, ?_, ?_, ⟨?_, ?_, ?_⟩, fun b z hb hz => ?_, fun k' z hk' hz => ?_⟩
  · have := h1 s hs
    simp only [q_in] at hs
    rw [ne _ _ _ (by decide), ← this]
    exact if_neg (by omega)
  · rw [ne _ _ _ (by decide), ← h2]; exact if_neg (by omega)
  · rw [ne _ _ _ (by decide), ← h3]; exact if_neg (by omega)
  · rw [ne _ _ _ (by decide), ← h4]; exact if_neg (by omega)
  · rw [ne _ _ _ (by decide), ne _ _ _ (by decide), ← h5]; exact if_neg (by omega)
  · rw [ne _ _ _ (by decide), ne _ _ _ (by decide), ← h6]; exact if_neg (by omega)
  · have := h7 b z hb hz
    rw [q_av_eq _ _ hz] at this ⊢
    unfold q_u q_p1
    have hb' : 0 ≤ b ∧ b < 3 := hb
    have hz' : 0 ≤ z ∧ z < 8 := hz
    by_cases y : b = a ∧ z = w
    · obtain ⟨rfl, rfl⟩ := y
      rw [if_pos rfl, if_pos ⟨rfl, rfl, rfl⟩]
    · rw [if_neg (by omega), if_neg (fun q => y ⟨q.2.2, q_ap_inj hw hz q.1 q.2.1⟩), this]
  · have := h8 k' z hk' hz
    have hk2 : 0 ≤ k' ∧ k' < 6 := hk'
    have hz' : 0 ≤ z ∧ z < 8 := hz
    unfold q_u
    rw [if_neg (by omega), this]
    unfold q_kv
    rw [ne _ _ _ (by decide), ne _ _ _ (by decide), ne _ _ _ (by decide), ne _ _ _ (by decide), ne _ _ _ (by decide), ne _ _ _ (by decide)]
/-- the reasons -/
theorem q_enc.ur {v : Int → Int} {X Y : q_X} (h : q_enc v X) {x y z : Int} (hx : x = Y 9 0 0) (hy : y = if 2 ≤ Y 0 0 2 then Y 9 0 1 else -2000009) (hz : z = if 3 ≤ Y 0 0 2 then Y 9 0 2 else -2000009) (e : ∀ p k s, ¬ (p = 9) → ¬ (p = 0 ∧ s = 2) → Y p k s = X p k s) : q_enc (q_u (q_u (q_u v 8 x) 9 y) 10 z) Y := by
  obtain ⟨h1, h2, h3, _, h7, h8⟩ := h
  refine ⟨fun s hs => ?_, ?_, ?_, ⟨?_, ?_, ?_⟩, fun a w ha hw => ?_, fun k w hk hw => ?_⟩
  · have := h1 s hs
    simp only [q_in] at hs
    unfold q_u
    rw [if_neg (by omega), if_neg (by omega), if_neg (by omega), this, e _ _ _ (by decide) (by omega)]
  · rw [e _ _ _ (by decide) (by omega)]; exact h2
  · rw [e _ _ _ (by decide) (by omega)]; exact h3
  · exact hx
  · exact hy
  · exact hz
  · have := h7 a w ha hw
    simp only [q_in] at ha hw
    unfold q_u
    rw [if_neg (by omega), if_neg (by omega), if_neg (by omega), this]
    unfold q_av
    rw [e 4 _ _ (by decide) (by omega), e 5 _ _ (by decide) (by omega), e 3 _ _ (by decide) (by omega), e 3 _ _ (by decide) (by omega), e 3 _ _ (by decide) (by omega), e 3 _ _ (by decide) (by omega), e 6 _ _ (by decide) (by omega), e 7 _ _ (by decide) (by omega)]
  · have := h8 k w hk hw
    simp only [q_in] at hk hw
    unfold q_u
    rw [if_neg (by omega), if_neg (by omega), if_neg (by omega), this]
    unfold q_kv
    rw [e 11 _ _ (by decide) (by omega), e 10 _ _ (by decide) (by omega), e 10 _ _ (by decide) (by omega), e 10 _ _ (by decide) (by omega), e 10 _ _ (by decide) (by omega), e 10 _ _ (by decide) (by omega)]
