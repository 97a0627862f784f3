set_option maxRecDepth 100000 in
set_option maxHeartbeats 4000000 in
theorem ze_X3 {D : va_G} {cy : Nat → ClassId} {A : Nat → Prop} {H : Heap} {h0 q7 q17 q26 : Nat} {r7 r17 : Nat → Nat} (hP : va_P D vwCl ([(h0, .inr (3, [.ref q7, .ref q17, .ref q26, .long (lO 0)])), (q7, .inl (cy 3, 3, .inr (.inr (.inr (.inr (fun i => if i < 3 then some (r7 i) else none)))))), (r7 0, .inl (cy 1, 3, .inr (.inl (fun _ => lO 0)))), (r7 1, .inl (cy 1, 3, .inr (.inl (fun _ => lO 0)))), (r7 2, .inl (cy 1, 3, .inr (.inl (fun _ => lO 0)))), (q17, .inl (cy 3, 3, .inr (.inr (.inr (.inr (fun i => if i < 3 then some (r17 i) else none)))))), (r17 0, .inl (cy 1, 3, .inr (.inl (fun _ => lO 0)))), (r17 1, .inl (cy 1, 3, .inr (.inl (fun _ => lO 0)))), (r17 2, .inl (cy 1, 3, .inr (.inl (fun _ => lO 0)))), (q26, .inl (cy 1, 3, .inr (.inl (fun _ => lO 0))))]) H) (hD : va_D A ([(h0, .inr (3, [.ref q7, .ref q17, .ref q26, .long (lO 0)])), (q7, .inl (cy 3, 3, .inr (.inr (.inr (.inr (fun i => if i < 3 then some (r7 i) else none)))))), (r7 0, .inl (cy 1, 3, .inr (.inl (fun _ => lO 0)))), (r7 1, .inl (cy 1, 3, .inr (.inl (fun _ => lO 0)))), (r7 2, .inl (cy 1, 3, .inr (.inl (fun _ => lO 0)))), (q17, .inl (cy 3, 3, .inr (.inr (.inr (.inr (fun i => if i < 3 then some (r17 i) else none)))))), (r17 0, .inl (cy 1, 3, .inr (.inl (fun _ => lO 0)))), (r17 1, .inl (cy 1, 3, .inr (.inl (fun _ => lO 0)))), (r17 2, .inl (cy 1, 3, .inr (.inl (fun _ => lO 0)))), (q26, .inl (cy 1, 3, .inr (.inl (fun _ => lO 0))))])) : ∃ u : q_A, u 0 12 0 = h0 ∧ va_P D vwCl (zz_W cy u zs_RL) H ∧ va_D A (zz_W cy u zs_RL) := by
  refine ⟨(fun (_ : Int) (p : Nat) (k : Int) => if p = 12 then h0 else if p = 13 then q7 else if p = 14 then q17 else if p = 15 then r7 k.toNat else if p = 16 then r17 k.toNat else if p = 17 then q26 else 0), rfl, ?hp, z_Dsame ?hd hD⟩
  case hd => rfl
  intro k x hx
  match k, hx with
  | 0, hx =>
    have e9 := Option.some.inj hx
    subst e9
    exact hP 0 _ rfl
  | 1, hx =>
    have e9 : ((q7, .inl (cy 3, 3, .inr (.inr (.inr (.inr (fun i : Nat => some (r7 i))))))) : Nat × va_E) = x := Option.some.inj hx
    subst e9
    show H[_]? = some (vp_cell _ _)
    refine Eq.trans (show H[_]? = some (vp_cell _ _) from hP 1 _ rfl) (congrArg some ?_)
    exact z_arr_q (fun j hj => if_pos hj)
  | 2, hx =>
    have e9 : ((r7 0, .inl (cy 1, 3, .inr (.inl (fun i : Nat => lO (z_s0 0 15 0 (i : Int)))))) : Nat × va_E) = x := Option.some.inj hx
    subst e9
    show H[_]? = some (vp_cell _ _)
    refine Eq.trans (show H[_]? = some (vp_cell _ _) from hP 2 _ rfl) (congrArg some ?_)
    exact z_arr_l (fun j _ => rfl)
  | 3, hx =>
    have e9 : ((r7 1, .inl (cy 1, 3, .inr (.inl (fun i : Nat => lO (z_s0 0 15 1 (i : Int)))))) : Nat × va_E) = x := Option.some.inj hx
    subst e9
    show H[_]? = some (vp_cell _ _)
    refine Eq.trans (show H[_]? = some (vp_cell _ _) from hP 3 _ rfl) (congrArg some ?_)
    exact z_arr_l (fun j _ => rfl)
  | 4, hx =>
    have e9 : ((r7 2, .inl (cy 1, 3, .inr (.inl (fun i : Nat => lO (z_s0 0 15 2 (i : Int)))))) : Nat × va_E) = x := Option.some.inj hx
    subst e9
    show H[_]? = some (vp_cell _ _)
    refine Eq.trans (show H[_]? = some (vp_cell _ _) from hP 4 _ rfl) (congrArg some ?_)
    exact z_arr_l (fun j _ => rfl)
  | 5, hx =>
    have e9 : ((q17, .inl (cy 3, 3, .inr (.inr (.inr (.inr (fun i : Nat => some (r17 i))))))) : Nat × va_E) = x := Option.some.inj hx
    subst e9
    show H[_]? = some (vp_cell _ _)
    refine Eq.trans (show H[_]? = some (vp_cell _ _) from hP 5 _ rfl) (congrArg some ?_)
    exact z_arr_q (fun j hj => if_pos hj)
  | 6, hx =>
    have e9 : ((r17 0, .inl (cy 1, 3, .inr (.inl (fun i : Nat => lO (z_s0 0 16 0 (i : Int)))))) : Nat × va_E) = x := Option.some.inj hx
    subst e9
    show H[_]? = some (vp_cell _ _)
    refine Eq.trans (show H[_]? = some (vp_cell _ _) from hP 6 _ rfl) (congrArg some ?_)
    exact z_arr_l (fun j _ => rfl)
  | 7, hx =>
    have e9 : ((r17 1, .inl (cy 1, 3, .inr (.inl (fun i : Nat => lO (z_s0 0 16 1 (i : Int)))))) : Nat × va_E) = x := Option.some.inj hx
    subst e9
    show H[_]? = some (vp_cell _ _)
    refine Eq.trans (show H[_]? = some (vp_cell _ _) from hP 7 _ rfl) (congrArg some ?_)
    exact z_arr_l (fun j _ => rfl)
  | 8, hx =>
    have e9 : ((r17 2, .inl (cy 1, 3, .inr (.inl (fun i : Nat => lO (z_s0 0 16 2 (i : Int)))))) : Nat × va_E) = x := Option.some.inj hx
    subst e9
    show H[_]? = some (vp_cell _ _)
    refine Eq.trans (show H[_]? = some (vp_cell _ _) from hP 8 _ rfl) (congrArg some ?_)
    exact z_arr_l (fun j _ => rfl)
  | 9, hx =>
    have e9 : ((q26, .inl (cy 1, 3, .inr (.inl (fun i : Nat => lO (z_s0 0 17 0 (i : Int)))))) : Nat × va_E) = x := Option.some.inj hx
    subst e9
    show H[_]? = some (vp_cell _ _)
    refine Eq.trans (show H[_]? = some (vp_cell _ _) from hP 9 _ rfl) (congrArg some ?_)
    exact z_arr_l (fun j _ => rfl)
  | k + 10, hx => exact absurd (List.getElem?_eq_some_iff.mp hx).1 (by show ¬ k + 10 < 10; omega)
set_option maxHeartbeats 4000000 in
set_option maxRecDepth 100000 in
theorem c_X3_init (l : Launch) (D : va_G) (cy : Nat → ClassId) (h0 sz : Nat) : Met l yX3_init wsX3_init ({ frames := 1, cells := 9, slots := 27, locals := 12 }) (va_Pc [.ref h0] (z_B D cy sz [(h0, .inr (3, [.null, .null, .null, .long (lO 0)]))])) (va_Qv (fun _ : q_A => True) (fun u t => u 0 12 0 = h0 ∧ va_P D vwCl (zz_W cy u zs_RL) t.heap ∧ va_D (va_A [(h0, .inr (3, [.null, .null, .null, .long (lO 0)]))] sz) (zz_W cy u zs_RL)) (va_A [(h0, .inr (3, [.null, .null, .null, .long (lO 0)]))] sz)) 9 27 (va_A [(h0, .inr (3, [.null, .null, .null, .long (lO 0)]))] sz) := by
  refine Met.ofW (cc := cX3_init) (maxL := 1) (ret := none) (by decide) rfl ?_
  intro p e s m args below meth c0 s₁ B hml hv
  obtain ⟨rfl, hsz, hP, hK, hD0, hN, hO⟩ := hv
  have hx := B.exec
  have hb := B.bytes
  have hr := B.returns
  have hts := atoms_spec (ws := wsX3_init) B.pre
  have hown : s.vm.findClass RX3 = some m.cls := findClass_of_methodNamed B.named
  have hlocks := B.notSynchronized
  have hin : meth.name = "<init>" := (name_of_methodNamed B.named B.method).1
  have hinF : ∀ w ∈ u_ws RX3 TX3 4, w ∈ wsX3_init := by decide +kernel
  subst hsz
  have hD := hD0.self (sz := s.heap.size)
  generalize hAe : va_A [(h0, .inr (3, [.null, .null, .null, .long (lO 0)]))] s.heap.size = A at hD ⊢
  have hA : ∀ q : Nat, s.heap.size ≤ q → A q := fun q h => by rw [← hAe]; exact Or.inr h
  have hS : va_S A s.heap s.heap [] := va_S.rf
  have hP : va_P D vwCl [(h0, .inr (3, [.null, .null, .null, .long (lO 0)]))] s.heap := hP
  have hl := lv_entry ([.ref h0]) (n := 1) (Nat.le_of_ble_eq_true rfl)
  rw [lg_entry_eq]
  generalize (lg_sl ([.ref h0]) ++ List.replicate (1 - (lg_sl ([.ref h0])).length) Slot.unset).toArray = ls at hl ⊢
  have hl : lv_has ls 1 [(0, .ref h0)] := hl
  refine lv_aload_n hx hb dX3_init_0 rfl (lv_at hl 0 rfl) ?_
  refine W.objInit hx hb hown (hts (.methodLink RX3 3 objectInit) (by decide +kernel)) (hts (.instanceMethod objectInit) (by decide +kernel)) (hts _ (List.mem_of_getElem? (i := 3) rfl)) rfl (by rw [hml]; exact hl.1) rfl dX3_init_1 (Nat.le_of_ble_eq_true rfl) (Nat.le_of_ble_eq_true rfl) ?_
  refine W.eq (g2 := F0 m 4 ls []) rfl ?_
  refine lv_aload_n hx hb dX3_init_4 rfl (lv_at hl 0 rfl) ?_
  refine lv_iconst (v := iO 3) hx hb dX3_init_5 rfl ?_
  refine lv_iconst (v := iO 3) hx hb dX3_init_6 rfl ?_
  refine z_mna (ty := .long) (N := 3) (M := 3) (z := (3, .inr (.inl (fun _ => lO 0)))) hx hb hown (hts _ (show Cond.classLink RX3 9 ("[" ++ (FieldType.array .long).toString) ∈ wsX3_init by decide +kernel)) hO.2.2.2 (hts (.arrayClass .long) (by decide +kernel)) hK 3 1 rfl rfl (fun h => h) hP hD hS hA (by decide) (by decide) (by decide) (by decide) (Nat.le_of_ble_eq_true rfl) (Nat.le_of_ble_eq_true rfl) (Nat.le_of_ble_eq_true rfl) rfl (Nat.le_of_ble_eq_true rfl) (Nat.le_of_ble_eq_true rfl) (fun _ => rfl) dX3_init_7 (fun q7 r7 H hP hD hS => ?_)
  have hP : va_P D vwCl ([(h0, .inr (3, [.null, .null, .null, .long (lO 0)])), (q7, .inl (cy 3, 3, .inr (.inr (.inr (.inr (fun i => if i < 3 then some (r7 i) else none)))))), (r7 0, .inl (cy 1, 3, .inr (.inl (fun _ => lO 0)))), (r7 1, .inl (cy 1, 3, .inr (.inl (fun _ => lO 0)))), (r7 2, .inl (cy 1, 3, .inr (.inl (fun _ => lO 0))))]) H := hP
  have hD : va_D A ([(h0, .inr (3, [.null, .null, .null, .long (lO 0)])), (q7, .inl (cy 3, 3, .inr (.inr (.inr (.inr (fun i => if i < 3 then some (r7 i) else none)))))), (r7 0, .inl (cy 1, 3, .inr (.inl (fun _ => lO 0)))), (r7 1, .inl (cy 1, 3, .inr (.inl (fun _ => lO 0)))), (r7 2, .inl (cy 1, 3, .inr (.inl (fun _ => lO 0))))]) := hD
  refine va_putF (D := D) (ci := 3) (v := .ref q7) (ty := .array (.array .long)) (C := RX3) (T := TX3) (N := 4) hx hb hts hinF tyX3 tyX3_ok nmX3 hown hK hP hD hS 0 rfl rfl 0 (by decide) (hts (.fieldLink RX3 11 "WheelDesk$Sharing" "matrix" "[[J") (by decide +kernel)) (fun _ h9 => h9) rfl hin rfl (by decide +kernel) rfl rfl (Nat.le_of_ble_eq_true rfl) dX3_init_11 (fun H locs hP hD hS => ?_)
  have hP : va_P D vwCl ([(h0, .inr (3, [.ref q7, .null, .null, .long (lO 0)])), (q7, .inl (cy 3, 3, .inr (.inr (.inr (.inr (fun i => if i < 3 then some (r7 i) else none)))))), (r7 0, .inl (cy 1, 3, .inr (.inl (fun _ => lO 0)))), (r7 1, .inl (cy 1, 3, .inr (.inl (fun _ => lO 0)))), (r7 2, .inl (cy 1, 3, .inr (.inl (fun _ => lO 0))))]) H := hP
  have hD : va_D A ([(h0, .inr (3, [.ref q7, .null, .null, .long (lO 0)])), (q7, .inl (cy 3, 3, .inr (.inr (.inr (.inr (fun i => if i < 3 then some (r7 i) else none)))))), (r7 0, .inl (cy 1, 3, .inr (.inl (fun _ => lO 0)))), (r7 1, .inl (cy 1, 3, .inr (.inl (fun _ => lO 0)))), (r7 2, .inl (cy 1, 3, .inr (.inl (fun _ => lO 0))))]) := hD
  refine lv_aload_n hx hb dX3_init_14 rfl (lv_at hl 0 rfl) ?_
  refine lv_iconst (v := iO 3) hx hb dX3_init_15 rfl ?_
  refine lv_iconst (v := iO 3) hx hb dX3_init_16 rfl ?_
  refine z_mna (ty := .long) (N := 3) (M := 3) (z := (3, .inr (.inl (fun _ => lO 0)))) hx hb hown (hts _ (show Cond.classLink RX3 9 ("[" ++ (FieldType.array .long).toString) ∈ wsX3_init by decide +kernel)) hO.2.2.2 (hts (.arrayClass .long) (by decide +kernel)) hK 3 1 rfl rfl (fun h => h) hP hD hS hA (by decide) (by decide) (by decide) (by decide) (Nat.le_of_ble_eq_true rfl) (Nat.le_of_ble_eq_true rfl) (Nat.le_of_ble_eq_true rfl) rfl (Nat.le_of_ble_eq_true rfl) (Nat.le_of_ble_eq_true rfl) (fun _ => rfl) dX3_init_17 (fun q17 r17 H hP hD hS => ?_)
  have hP : va_P D vwCl ([(h0, .inr (3, [.ref q7, .null, .null, .long (lO 0)])), (q7, .inl (cy 3, 3, .inr (.inr (.inr (.inr (fun i => if i < 3 then some (r7 i) else none)))))), (r7 0, .inl (cy 1, 3, .inr (.inl (fun _ => lO 0)))), (r7 1, .inl (cy 1, 3, .inr (.inl (fun _ => lO 0)))), (r7 2, .inl (cy 1, 3, .inr (.inl (fun _ => lO 0)))), (q17, .inl (cy 3, 3, .inr (.inr (.inr (.inr (fun i => if i < 3 then some (r17 i) else none)))))), (r17 0, .inl (cy 1, 3, .inr (.inl (fun _ => lO 0)))), (r17 1, .inl (cy 1, 3, .inr (.inl (fun _ => lO 0)))), (r17 2, .inl (cy 1, 3, .inr (.inl (fun _ => lO 0))))]) H := hP
  have hD : va_D A ([(h0, .inr (3, [.ref q7, .null, .null, .long (lO 0)])), (q7, .inl (cy 3, 3, .inr (.inr (.inr (.inr (fun i => if i < 3 then some (r7 i) else none)))))), (r7 0, .inl (cy 1, 3, .inr (.inl (fun _ => lO 0)))), (r7 1, .inl (cy 1, 3, .inr (.inl (fun _ => lO 0)))), (r7 2, .inl (cy 1, 3, .inr (.inl (fun _ => lO 0)))), (q17, .inl (cy 3, 3, .inr (.inr (.inr (.inr (fun i => if i < 3 then some (r17 i) else none)))))), (r17 0, .inl (cy 1, 3, .inr (.inl (fun _ => lO 0)))), (r17 1, .inl (cy 1, 3, .inr (.inl (fun _ => lO 0)))), (r17 2, .inl (cy 1, 3, .inr (.inl (fun _ => lO 0))))]) := hD
  refine va_putF (D := D) (ci := 3) (v := .ref q17) (ty := .array (.array .long)) (C := RX3) (T := TX3) (N := 4) hx hb hts hinF tyX3 tyX3_ok nmX3 hown hK hP hD hS 0 rfl rfl 1 (by decide) (hts (.fieldLink RX3 16 "WheelDesk$Sharing" "cofactor" "[[J") (by decide +kernel)) (fun _ h9 => h9) rfl hin rfl (by decide +kernel) rfl rfl (Nat.le_of_ble_eq_true rfl) dX3_init_21 (fun H locs hP hD hS => ?_)
  have hP : va_P D vwCl ([(h0, .inr (3, [.ref q7, .ref q17, .null, .long (lO 0)])), (q7, .inl (cy 3, 3, .inr (.inr (.inr (.inr (fun i => if i < 3 then some (r7 i) else none)))))), (r7 0, .inl (cy 1, 3, .inr (.inl (fun _ => lO 0)))), (r7 1, .inl (cy 1, 3, .inr (.inl (fun _ => lO 0)))), (r7 2, .inl (cy 1, 3, .inr (.inl (fun _ => lO 0)))), (q17, .inl (cy 3, 3, .inr (.inr (.inr (.inr (fun i => if i < 3 then some (r17 i) else none)))))), (r17 0, .inl (cy 1, 3, .inr (.inl (fun _ => lO 0)))), (r17 1, .inl (cy 1, 3, .inr (.inl (fun _ => lO 0)))), (r17 2, .inl (cy 1, 3, .inr (.inl (fun _ => lO 0))))]) H := hP
  have hD : va_D A ([(h0, .inr (3, [.ref q7, .ref q17, .null, .long (lO 0)])), (q7, .inl (cy 3, 3, .inr (.inr (.inr (.inr (fun i => if i < 3 then some (r7 i) else none)))))), (r7 0, .inl (cy 1, 3, .inr (.inl (fun _ => lO 0)))), (r7 1, .inl (cy 1, 3, .inr (.inl (fun _ => lO 0)))), (r7 2, .inl (cy 1, 3, .inr (.inl (fun _ => lO 0)))), (q17, .inl (cy 3, 3, .inr (.inr (.inr (.inr (fun i => if i < 3 then some (r17 i) else none)))))), (r17 0, .inl (cy 1, 3, .inr (.inl (fun _ => lO 0)))), (r17 1, .inl (cy 1, 3, .inr (.inl (fun _ => lO 0)))), (r17 2, .inl (cy 1, 3, .inr (.inl (fun _ => lO 0))))]) := hD
  refine lv_aload_n hx hb dX3_init_24 rfl (lv_at hl 0 rfl) ?_
  refine lv_iconst (v := iO 3) hx hb dX3_init_25 rfl ?_
  refine z_newa (atype := .long) (ty := .long) (N' := 3) (a0 := (3, .inr (.inl (fun _ => lO 0)))) hx hb (hts (.arrayClass .long) (by decide +kernel)) rfl hK 1 rfl hP hD hS hA (fun _ => rfl) (by decide) (by decide) (Nat.le_of_ble_eq_true rfl) (Nat.le_of_ble_eq_true rfl) (Nat.le_of_ble_eq_true rfl) dX3_init_26 (fun q26 H hP hD hS => ?_)
  have hP : va_P D vwCl ([(h0, .inr (3, [.ref q7, .ref q17, .null, .long (lO 0)])), (q7, .inl (cy 3, 3, .inr (.inr (.inr (.inr (fun i => if i < 3 then some (r7 i) else none)))))), (r7 0, .inl (cy 1, 3, .inr (.inl (fun _ => lO 0)))), (r7 1, .inl (cy 1, 3, .inr (.inl (fun _ => lO 0)))), (r7 2, .inl (cy 1, 3, .inr (.inl (fun _ => lO 0)))), (q17, .inl (cy 3, 3, .inr (.inr (.inr (.inr (fun i => if i < 3 then some (r17 i) else none)))))), (r17 0, .inl (cy 1, 3, .inr (.inl (fun _ => lO 0)))), (r17 1, .inl (cy 1, 3, .inr (.inl (fun _ => lO 0)))), (r17 2, .inl (cy 1, 3, .inr (.inl (fun _ => lO 0)))), (q26, .inl (cy 1, 3, .inr (.inl (fun _ => lO 0))))]) H := hP
  have hD : va_D A ([(h0, .inr (3, [.ref q7, .ref q17, .null, .long (lO 0)])), (q7, .inl (cy 3, 3, .inr (.inr (.inr (.inr (fun i => if i < 3 then some (r7 i) else none)))))), (r7 0, .inl (cy 1, 3, .inr (.inl (fun _ => lO 0)))), (r7 1, .inl (cy 1, 3, .inr (.inl (fun _ => lO 0)))), (r7 2, .inl (cy 1, 3, .inr (.inl (fun _ => lO 0)))), (q17, .inl (cy 3, 3, .inr (.inr (.inr (.inr (fun i => if i < 3 then some (r17 i) else none)))))), (r17 0, .inl (cy 1, 3, .inr (.inl (fun _ => lO 0)))), (r17 1, .inl (cy 1, 3, .inr (.inl (fun _ => lO 0)))), (r17 2, .inl (cy 1, 3, .inr (.inl (fun _ => lO 0)))), (q26, .inl (cy 1, 3, .inr (.inl (fun _ => lO 0))))]) := hD
  refine va_putF (D := D) (ci := 3) (v := .ref q26) (ty := .array .long) (C := RX3) (T := TX3) (N := 4) hx hb hts hinF tyX3 tyX3_ok nmX3 hown hK hP hD hS 0 rfl rfl 2 (by decide) (hts (.fieldLink RX3 19 "WheelDesk$Sharing" "aimed" "[J") (by decide +kernel)) (fun _ h9 => h9) rfl hin rfl (by decide +kernel) rfl rfl (Nat.le_of_ble_eq_true rfl) dX3_init_28 (fun H locs hP hD hS => ?_)
  have hP : va_P D vwCl ([(h0, .inr (3, [.ref q7, .ref q17, .ref q26, .long (lO 0)])), (q7, .inl (cy 3, 3, .inr (.inr (.inr (.inr (fun i => if i < 3 then some (r7 i) else none)))))), (r7 0, .inl (cy 1, 3, .inr (.inl (fun _ => lO 0)))), (r7 1, .inl (cy 1, 3, .inr (.inl (fun _ => lO 0)))), (r7 2, .inl (cy 1, 3, .inr (.inl (fun _ => lO 0)))), (q17, .inl (cy 3, 3, .inr (.inr (.inr (.inr (fun i => if i < 3 then some (r17 i) else none)))))), (r17 0, .inl (cy 1, 3, .inr (.inl (fun _ => lO 0)))), (r17 1, .inl (cy 1, 3, .inr (.inl (fun _ => lO 0)))), (r17 2, .inl (cy 1, 3, .inr (.inl (fun _ => lO 0)))), (q26, .inl (cy 1, 3, .inr (.inl (fun _ => lO 0))))]) H := hP
  have hD : va_D A ([(h0, .inr (3, [.ref q7, .ref q17, .ref q26, .long (lO 0)])), (q7, .inl (cy 3, 3, .inr (.inr (.inr (.inr (fun i => if i < 3 then some (r7 i) else none)))))), (r7 0, .inl (cy 1, 3, .inr (.inl (fun _ => lO 0)))), (r7 1, .inl (cy 1, 3, .inr (.inl (fun _ => lO 0)))), (r7 2, .inl (cy 1, 3, .inr (.inl (fun _ => lO 0)))), (q17, .inl (cy 3, 3, .inr (.inr (.inr (.inr (fun i => if i < 3 then some (r17 i) else none)))))), (r17 0, .inl (cy 1, 3, .inr (.inl (fun _ => lO 0)))), (r17 1, .inl (cy 1, 3, .inr (.inl (fun _ => lO 0)))), (r17 2, .inl (cy 1, 3, .inr (.inl (fun _ => lO 0)))), (q26, .inl (cy 1, 3, .inr (.inl (fun _ => lO 0))))]) := hD
  refine W.widen (k := 9) (n := 27) (Nat.le_of_ble_eq_true rfl) (Nat.le_of_ble_eq_true rfl) ?_
  have key := ze_X3 hP hD
  obtain ⟨u, hu, hP9, hD9⟩ := key
  exact W.vret hx hb hr (fun t ht hW => ⟨⟨u, rfl, trivial, hu, by rw [ht]; exact hP9, hD9⟩, hS.F ht⟩) hS.2.2 dX3_init_31

set_option maxRecDepth 100000 in
set_option maxHeartbeats 4000000 in
theorem ze_X2 {D : va_G} {cy : Nat → ClassId} {A : Nat → Prop} {H : Heap} {h0 q6 q13 : Nat} (hP : va_P D vwCl ([(h0, .inr (2, [.ref q6, .ref q13])), (q6, .inl (cy 1, 3, .inr (.inl (fun _ => lO 0)))), (q13, .inl (cy 1, 3, .inr (.inl (fun _ => lO 0))))]) H) (hD : va_D A ([(h0, .inr (2, [.ref q6, .ref q13])), (q6, .inl (cy 1, 3, .inr (.inl (fun _ => lO 0)))), (q13, .inl (cy 1, 3, .inr (.inl (fun _ => lO 0))))])) : ∃ u : q_A, u 0 18 0 = h0 ∧ va_P D vwCl (zz_W cy u zg_RL) H ∧ va_D A (zz_W cy u zg_RL) := by
  refine ⟨(fun (_ : Int) (p : Nat) (k : Int) => if p = 18 then h0 else if p = 19 then q6 else if p = 20 then q13 else 0), rfl, ?hp, z_Dsame ?hd hD⟩
  case hd => rfl
  intro k x hx
  match k, hx with
  | 0, hx =>
    have e9 := Option.some.inj hx
    subst e9
    exact hP 0 _ rfl
  | 1, hx =>
    have e9 : ((q6, .inl (cy 1, 3, .inr (.inl (fun i : Nat => lO (z_s0 0 19 0 (i : Int)))))) : Nat × va_E) = x := Option.some.inj hx
    subst e9
    show H[_]? = some (vp_cell _ _)
    refine Eq.trans (show H[_]? = some (vp_cell _ _) from hP 1 _ rfl) (congrArg some ?_)
    exact z_arr_l (fun j _ => rfl)
  | 2, hx =>
    have e9 : ((q13, .inl (cy 1, 3, .inr (.inl (fun i : Nat => lO (z_s0 0 20 0 (i : Int)))))) : Nat × va_E) = x := Option.some.inj hx
    subst e9
    show H[_]? = some (vp_cell _ _)
    refine Eq.trans (show H[_]? = some (vp_cell _ _) from hP 2 _ rfl) (congrArg some ?_)
    exact z_arr_l (fun j _ => rfl)
  | k + 3, hx => exact absurd (List.getElem?_eq_some_iff.mp hx).1 (by show ¬ k + 3 < 3; omega)
set_option maxHeartbeats 4000000 in
set_option maxRecDepth 100000 in
theorem c_X2_init (l : Launch) (D : va_G) (cy : Nat → ClassId) (h0 sz : Nat) : Met l yX2_init wsX2_init ({ frames := 1, cells := 2, slots := 6, locals := 12 }) (va_Pc [.ref h0] (z_B D cy sz [(h0, .inr (2, [.null, .null]))])) (va_Qv (fun _ : q_A => True) (fun u t => u 0 18 0 = h0 ∧ va_P D vwCl (zz_W cy u zg_RL) t.heap ∧ va_D (va_A [(h0, .inr (2, [.null, .null]))] sz) (zz_W cy u zg_RL)) (va_A [(h0, .inr (2, [.null, .null]))] sz)) 2 6 (va_A [(h0, .inr (2, [.null, .null]))] sz) := by
  refine Met.ofW (cc := cX2_init) (maxL := 1) (ret := none) (by decide) rfl ?_
  intro p e s m args below meth c0 s₁ B hml hv
  obtain ⟨rfl, hsz, hP, hK, hD0, hN, hO⟩ := hv
  have hx := B.exec
  have hb := B.bytes
  have hr := B.returns
  have hts := atoms_spec (ws := wsX2_init) B.pre
  have hown : s.vm.findClass RX2 = some m.cls := findClass_of_methodNamed B.named
  have hlocks := B.notSynchronized
  have hin : meth.name = "<init>" := (name_of_methodNamed B.named B.method).1
  have hinF : ∀ w ∈ u_ws RX2 TX2 2, w ∈ wsX2_init := by decide +kernel
  subst hsz
  have hD := hD0.self (sz := s.heap.size)
  generalize hAe : va_A [(h0, .inr (2, [.null, .null]))] s.heap.size = A at hD ⊢
  have hA : ∀ q : Nat, s.heap.size ≤ q → A q := fun q h => by rw [← hAe]; exact Or.inr h
  have hS : va_S A s.heap s.heap [] := va_S.rf
  have hP : va_P D vwCl [(h0, .inr (2, [.null, .null]))] s.heap := hP
  have hl := lv_entry ([.ref h0]) (n := 1) (Nat.le_of_ble_eq_true rfl)
  rw [lg_entry_eq]
  generalize (lg_sl ([.ref h0]) ++ List.replicate (1 - (lg_sl ([.ref h0])).length) Slot.unset).toArray = ls at hl ⊢
  have hl : lv_has ls 1 [(0, .ref h0)] := hl
  refine lv_aload_n hx hb dX2_init_0 rfl (lv_at hl 0 rfl) ?_
  refine W.objInit hx hb hown (hts (.methodLink RX2 3 objectInit) (by decide +kernel)) (hts (.instanceMethod objectInit) (by decide +kernel)) (hts _ (List.mem_of_getElem? (i := 3) rfl)) rfl (by rw [hml]; exact hl.1) rfl dX2_init_1 (Nat.le_of_ble_eq_true rfl) (Nat.le_of_ble_eq_true rfl) ?_
  refine W.eq (g2 := F0 m 4 ls []) rfl ?_
  refine lv_aload_n hx hb dX2_init_4 rfl (lv_at hl 0 rfl) ?_
  refine lv_iconst (v := iO 3) hx hb dX2_init_5 rfl ?_
  refine z_newa (atype := .long) (ty := .long) (N' := 3) (a0 := (3, .inr (.inl (fun _ => lO 0)))) hx hb (hts (.arrayClass .long) (by decide +kernel)) rfl hK 1 rfl hP hD hS hA (fun _ => rfl) (by decide) (by decide) (Nat.le_of_ble_eq_true rfl) (Nat.le_of_ble_eq_true rfl) (Nat.le_of_ble_eq_true rfl) dX2_init_6 (fun q6 H hP hD hS => ?_)
  have hP : va_P D vwCl ([(h0, .inr (2, [.null, .null])), (q6, .inl (cy 1, 3, .inr (.inl (fun _ => lO 0))))]) H := hP
  have hD : va_D A ([(h0, .inr (2, [.null, .null])), (q6, .inl (cy 1, 3, .inr (.inl (fun _ => lO 0))))]) := hD
  refine va_putF (D := D) (ci := 2) (v := .ref q6) (ty := .array .long) (C := RX2) (T := TX2) (N := 2) hx hb hts hinF tyX2 tyX2_ok nmX2 hown hK hP hD hS 0 rfl rfl 0 (by decide) (hts (.fieldLink RX2 9 "WheelDesk$Magnets" "held" "[J") (by decide +kernel)) (fun _ h9 => h9) rfl hin rfl (by decide +kernel) rfl rfl (Nat.le_of_ble_eq_true rfl) dX2_init_8 (fun H locs hP hD hS => ?_)
  have hP : va_P D vwCl ([(h0, .inr (2, [.ref q6, .null])), (q6, .inl (cy 1, 3, .inr (.inl (fun _ => lO 0))))]) H := hP
  have hD : va_D A ([(h0, .inr (2, [.ref q6, .null])), (q6, .inl (cy 1, 3, .inr (.inl (fun _ => lO 0))))]) := hD
  refine lv_aload_n hx hb dX2_init_11 rfl (lv_at hl 0 rfl) ?_
  refine lv_iconst (v := iO 3) hx hb dX2_init_12 rfl ?_
  refine z_newa (atype := .long) (ty := .long) (N' := 3) (a0 := (3, .inr (.inl (fun _ => lO 0)))) hx hb (hts (.arrayClass .long) (by decide +kernel)) rfl hK 1 rfl hP hD hS hA (fun _ => rfl) (by decide) (by decide) (Nat.le_of_ble_eq_true rfl) (Nat.le_of_ble_eq_true rfl) (Nat.le_of_ble_eq_true rfl) dX2_init_13 (fun q13 H hP hD hS => ?_)
  have hP : va_P D vwCl ([(h0, .inr (2, [.ref q6, .null])), (q6, .inl (cy 1, 3, .inr (.inl (fun _ => lO 0)))), (q13, .inl (cy 1, 3, .inr (.inl (fun _ => lO 0))))]) H := hP
  have hD : va_D A ([(h0, .inr (2, [.ref q6, .null])), (q6, .inl (cy 1, 3, .inr (.inl (fun _ => lO 0)))), (q13, .inl (cy 1, 3, .inr (.inl (fun _ => lO 0))))]) := hD
  refine va_putF (D := D) (ci := 2) (v := .ref q13) (ty := .array .long) (C := RX2) (T := TX2) (N := 2) hx hb hts hinF tyX2 tyX2_ok nmX2 hown hK hP hD hS 0 rfl rfl 1 (by decide) (hts (.fieldLink RX2 15 "WheelDesk$Magnets" "moment" "[J") (by decide +kernel)) (fun _ h9 => h9) rfl hin rfl (by decide +kernel) rfl rfl (Nat.le_of_ble_eq_true rfl) dX2_init_15 (fun H locs hP hD hS => ?_)
  have hP : va_P D vwCl ([(h0, .inr (2, [.ref q6, .ref q13])), (q6, .inl (cy 1, 3, .inr (.inl (fun _ => lO 0)))), (q13, .inl (cy 1, 3, .inr (.inl (fun _ => lO 0))))]) H := hP
  have hD : va_D A ([(h0, .inr (2, [.ref q6, .ref q13])), (q6, .inl (cy 1, 3, .inr (.inl (fun _ => lO 0)))), (q13, .inl (cy 1, 3, .inr (.inl (fun _ => lO 0))))]) := hD
  refine W.widen (k := 2) (n := 6) (Nat.le_of_ble_eq_true rfl) (Nat.le_of_ble_eq_true rfl) ?_
  have key := ze_X2 hP hD
  obtain ⟨u, hu, hP9, hD9⟩ := key
  exact W.vret hx hb hr (fun t ht hW => ⟨⟨u, rfl, trivial, hu, by rw [ht]; exact hP9, hD9⟩, hS.F ht⟩) hS.2.2 dX2_init_18
