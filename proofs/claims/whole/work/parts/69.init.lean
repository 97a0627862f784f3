/-! ===== the first state keeps the law's invariant ===== -/
set_option maxRecDepth 20000 in
theorem z_LI : q_LI 0 z_s0 := by
  refine ⟨⟨⟨⟨by decide, by decide⟩, ⟨by decide, by decide⟩, ⟨by decide, by decide⟩, ⟨by decide, by decide⟩, ⟨⟨by decide, by decide⟩, ⟨by decide, by decide⟩, ⟨by decide, by decide⟩, ⟨by decide, by decide⟩, ⟨by decide, by decide⟩⟩, fun i hi => ?_, fun i hi => ?_, fun k hk => ?_, fun i hi => ?_⟩, by decide, ?_⟩, ⟨⟨by decide, by decide⟩, fun j hj => ?_⟩, fun i j _ _ e => ?_, rfl, fun j _ k _ => Or.inl rfl, fun j h0 h1 => ?_⟩
  · have e0 : z_s0 0 3 0 i = 100 := rfl
    have e1 : z_s0 0 3 1 i = 0 := rfl
    have e2 : z_s0 0 3 2 i = 0 := rfl
    have e3 : z_s0 0 3 3 i = 0 := rfl
    rw [e0, e1, e2, e3]
    decide
  · have e0 : z_s0 0 0 0 0 = 0 := rfl
    have e4 : z_s0 0 4 0 i = 0 := rfl
    have e5 : z_s0 0 5 0 i = 0 := rfl
    have e6 : z_s0 0 6 0 i = 0 := rfl
    have e7 : z_s0 0 7 0 i = 0 := rfl
    have ew : q_wmom (z_s0 0) i = 0 := rfl
    rw [e0, e4, e5, e6, e7, ew]
    decide
  · have a0 : ∀ s, z_s0 0 11 k s = 0 := fun _ => rfl
    have b0 : ∀ s, z_s0 0 10 k s = 0 := fun _ => rfl
    refine ⟨fun i _ => by rw [a0]; decide, by rw [b0]; decide, by rw [b0]; decide, by rw [b0]; decide, Or.inl (b0 3), by rw [b0]; decide, fun h => ?_⟩
    have h : k < 0 := h
    have h2 : 0 ≤ k ∧ k < 6 := hk
    omega
  · have e9 : z_s0 0 9 0 i = 0 := rfl
    rw [e9]
    decide
  · refine ⟨fun s hs => ?_, rfl, rfl, ⟨rfl, rfl, rfl⟩, fun a w ha hw => ?_, fun k w hk hw => ?_⟩
    · have hs : 0 ≤ s ∧ s < 5 := hs
      rcases (show s = 0 ∨ s = 1 ∨ s = 2 ∨ s = 3 ∨ s = 4 by omega) with rfl | rfl | rfl | rfl | rfl <;> rfl
    · have ha : 0 ≤ a ∧ a < 3 := ha
      have hw : 0 ≤ w ∧ w < 8 := hw
      rcases (show a = 0 ∨ a = 1 ∨ a = 2 by omega) with rfl | rfl | rfl <;> rcases (show w = 0 ∨ w = 1 ∨ w = 2 ∨ w = 3 ∨ w = 4 ∨ w = 5 ∨ w = 6 ∨ w = 7 by omega) with rfl | rfl | rfl | rfl | rfl | rfl | rfl | rfl <;> rfl
    · have hk : 0 ≤ k ∧ k < 6 := hk
      have hw : 0 ≤ w ∧ w < 8 := hw
      have e1 : z_s0 0 25 0 (40 + 8 * k + w) = 0 := by
        show z_v0 _ = _
        unfold z_v0
        rw [if_neg (by omega), if_neg (by omega), if_neg (by omega), if_neg (by omega), if_neg (by omega), if_neg (by omega), if_neg (by omega), if_neg (by omega), if_neg (by omega), if_neg (by omega)]
      have a0 : ∀ s, z_s0 0 11 k s = 0 := fun _ => rfl
      have b0 : ∀ s, z_s0 0 10 k s = 0 := fun _ => rfl
      rw [e1]
      unfold q_kv
      simp only [a0, b0, ite_self]
  · have hj : 0 ≤ j ∧ j < 4 := hj
    show 2 ≤ j + 2 ∧ j + 2 < 6
    omega
  · have e : i + 2 = j + 2 := e
    omega
  · have h1 : j < 0 := h1
    omega
