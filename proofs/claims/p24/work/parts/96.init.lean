/-! ===== the first state ===== -/
theorem z_st : q_st (z_s0 0) z_s0 := by
  refine ⟨q_c11.rf _, ⟨⟨by decide, by decide⟩, fun j hj => ?_⟩, fun j _ k _ => Or.inl rfl⟩
  have hj : 0 ≤ j ∧ j < 4 := hj
  show 2 ≤ j + 2 ∧ j + 2 < 6
  omega
set_option maxRecDepth 20000 in
theorem z_Inv : q_Inv 0 (z_s0 0) := by
  refine ⟨⟨by decide, by decide⟩, ⟨by decide, by decide⟩, ⟨by decide, by decide⟩, ⟨by decide, by decide⟩, ⟨⟨by decide, by decide⟩, ⟨by decide, by decide⟩, ⟨by decide, by decide⟩, ⟨by decide, by decide⟩, ⟨by decide, by decide⟩⟩, fun i hi => ?_, fun i hi => ?_, fun k hk => ?_, fun i hi => ?_⟩
  · have e0 : z_s0 0 3 0 i = 100 := rfl
    have e1 : z_s0 0 3 1 i = 0 := rfl
    have e2 : z_s0 0 3 2 i = 0 := rfl
    have e3 : z_s0 0 3 3 i = 0 := rfl
    rw [e0, e1, e2, e3]
    decide
  · have e0 : z_s0 0 0 0 0 = 0 := rfl
    have e4 : z_s0 0 4 0 i = 0 := rfl
    have e5 : z_s0 0 5 0 i = 0 := rfl
    have e6 : z_s0 0 6 0 i = 0 := rfl
    have e7 : z_s0 0 7 0 i = 0 := rfl
    have ew : q_wmom (z_s0 0) i = 0 := rfl
    rw [e0, e4, e5, e6, e7, ew]
    decide
  · have a0 : ∀ s, z_s0 0 11 k s = 0 := fun _ => rfl
    have b0 : ∀ s, z_s0 0 10 k s = 0 := fun _ => rfl
    refine ⟨fun i _ => by rw [a0]; decide, by rw [b0]; decide, by rw [b0]; decide, by rw [b0]; decide, Or.inl (b0 3), by rw [b0]; decide, fun h => ?_⟩
    have h : k < 0 := h
    have h2 : 0 ≤ k ∧ k < 6 := hk
    omega
  · have e9 : z_s0 0 9 0 i = 0 := rfl
    rw [e9]
    decide
theorem z_on : q_oni (z_s0 0) 0 = 1 := by decide +kernel
