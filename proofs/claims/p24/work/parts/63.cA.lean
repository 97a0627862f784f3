set_option maxHeartbeats 4000000 in
set_option maxRecDepth 100000 in
theorem c_X4_init (l : Launch) (D : va_G) (cy : Nat → ClassId) (h0 sz : Nat) : Met l yX4_init wsX4_init ({ frames := 1, cells := 1, slots := 3, locals := 12 }) (va_Pc [.ref h0] (z_B D cy sz [(h0, .inr (4, [.null, .int (iO 0), .int (iO 0), .int (iO 0), .int (iO 0), .int (iO 0)]))])) (va_Qv (fun _ : Nat => True) (fun u t => True ∧ va_P D vwCl [(h0, .inr (4, [.ref u, .int (iO 0), .int (iO 0), .int (iO 0), .int (iO 0), .int (iO 0)])), (u, .inl (cy 0, 3, .inl (fun _ => iO 0)))] t.heap ∧ va_D (va_A [(h0, .inr (4, [.null, .int (iO 0), .int (iO 0), .int (iO 0), .int (iO 0), .int (iO 0)]))] sz) [(h0, .inr (4, [.ref u, .int (iO 0), .int (iO 0), .int (iO 0), .int (iO 0), .int (iO 0)])), (u, .inl (cy 0, 3, .inl (fun _ => iO 0)))]) (va_A [(h0, .inr (4, [.null, .int (iO 0), .int (iO 0), .int (iO 0), .int (iO 0), .int (iO 0)]))] sz)) 1 3 (va_A [(h0, .inr (4, [.null, .int (iO 0), .int (iO 0), .int (iO 0), .int (iO 0), .int (iO 0)]))] sz) := by
  refine Met.ofW (cc := cX4_init) (maxL := 1) (ret := none) (by decide) rfl ?_
  intro p e s m args below meth c0 s₁ B hml hv
  obtain ⟨rfl, hsz, hP, hK, hD0, hN, hO⟩ := hv
  have hx := B.exec
  have hb := B.bytes
  have hr := B.returns
  have hts := atoms_spec (ws := wsX4_init) B.pre
  have hown : s.vm.findClass RX4 = some m.cls := findClass_of_methodNamed B.named
  have hlocks := B.notSynchronized
  have hin : meth.name = "<init>" := (name_of_methodNamed B.named B.method).1
  have hinF : ∀ w ∈ u_ws RX4 TX4 6, w ∈ wsX4_init := by decide +kernel
  subst hsz
  have hD := hD0.self (sz := s.heap.size)
  generalize hAe : va_A [(h0, .inr (4, [.null, .int (iO 0), .int (iO 0), .int (iO 0), .int (iO 0), .int (iO 0)]))] s.heap.size = A at hD ⊢
  have hA : ∀ q : Nat, s.heap.size ≤ q → A q := fun q h => by rw [← hAe]; exact Or.inr h
  have hS : va_S A s.heap s.heap [] := va_S.rf
  have hP : va_P D vwCl [(h0, .inr (4, [.null, .int (iO 0), .int (iO 0), .int (iO 0), .int (iO 0), .int (iO 0)]))] s.heap := hP
  have hl := lv_entry ([.ref h0]) (n := 1) (Nat.le_of_ble_eq_true rfl)
  rw [lg_entry_eq]
  generalize (lg_sl ([.ref h0]) ++ List.replicate (1 - (lg_sl ([.ref h0])).length) Slot.unset).toArray = ls at hl ⊢
  have hl : lv_has ls 1 [(0, .ref h0)] := hl
  refine lv_aload_n hx hb dX4_init_0 rfl (lv_at hl 0 rfl) ?_
  refine W.objInit hx hb hown (hts (.methodLink RX4 3 objectInit) (by decide +kernel)) (hts (.instanceMethod objectInit) (by decide +kernel)) (hts _ (List.mem_of_getElem? (i := 3) rfl)) rfl (by rw [hml]; exact hl.1) rfl dX4_init_1 (Nat.le_of_ble_eq_true rfl) (Nat.le_of_ble_eq_true rfl) ?_
  refine W.eq (g2 := F0 m 4 ls []) rfl ?_
  refine lv_aload_n hx hb dX4_init_4 rfl (lv_at hl 0 rfl) ?_
  refine lv_iconst (v := iO 3) hx hb dX4_init_5 rfl ?_
  refine z_newa (atype := .int) (ty := .int) (N' := 3) (a0 := (3, .inl (fun _ => iO 0))) hx hb (hts (.arrayClass .int) (by decide +kernel)) rfl hK 0 rfl hP hD hS hA (fun _ => rfl) (by decide) (by decide) (Nat.le_of_ble_eq_true rfl) (Nat.le_of_ble_eq_true rfl) (Nat.le_of_ble_eq_true rfl) dX4_init_6 (fun q6 H hP hD hS => ?_)
  have hP : va_P D vwCl ([(h0, .inr (4, [.null, .int (iO 0), .int (iO 0), .int (iO 0), .int (iO 0), .int (iO 0)])), (q6, .inl (cy 0, 3, .inl (fun _ => iO 0)))]) H := hP
  have hD : va_D A ([(h0, .inr (4, [.null, .int (iO 0), .int (iO 0), .int (iO 0), .int (iO 0), .int (iO 0)])), (q6, .inl (cy 0, 3, .inl (fun _ => iO 0)))]) := hD
  refine va_putF (D := D) (ci := 4) (v := .ref q6) (ty := .array .int) (C := RX4) (T := TX4) (N := 6) hx hb hts hinF tyX4 tyX4_ok nmX4 hown hK hP hD hS 0 rfl rfl 0 (by decide) (hts (.fieldLink RX4 9 "WheelDesk$Wheel" "direction" "[I") (by decide +kernel)) (fun _ h9 => h9) rfl hin rfl (by decide +kernel) rfl rfl (Nat.le_of_ble_eq_true rfl) dX4_init_8 (fun H locs hP hD hS => ?_)
  have hP : va_P D vwCl ([(h0, .inr (4, [.ref q6, .int (iO 0), .int (iO 0), .int (iO 0), .int (iO 0), .int (iO 0)])), (q6, .inl (cy 0, 3, .inl (fun _ => iO 0)))]) H := hP
  have hD : va_D A ([(h0, .inr (4, [.ref q6, .int (iO 0), .int (iO 0), .int (iO 0), .int (iO 0), .int (iO 0)])), (q6, .inl (cy 0, 3, .inl (fun _ => iO 0)))]) := hD
  refine W.widen (k := 1) (n := 3) (Nat.le_of_ble_eq_true rfl) (Nat.le_of_ble_eq_true rfl) ?_
  exact W.vret hx hb hr (fun t ht hW => ⟨⟨q6, rfl, trivial, trivial, by rw [ht]; exact hP, hD⟩, hS.F ht⟩) hS.2.2 dX4_init_11
