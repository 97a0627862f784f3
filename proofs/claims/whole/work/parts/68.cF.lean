set_option maxRecDepth 100000 in
set_option maxHeartbeats 4000000 in
theorem ze_X6 {D : va_G} {cy : Nat → ClassId} {A : Nat → Prop} {H : Heap} {q15 q24 q32 q40 q47 q54 q61 q68 h0 q7 : Nat} (hP : va_P D vwCl ([(q15, .inl (cy 1, 100, .inr (.inl (fun _ => lO 0)))), (q24, .inl (cy 1, 400, .inr (.inl (fun _ => lO 0)))), (q32, .inl (cy 1, 9, .inr (.inl (fun _ => lO 0)))), (q40, .inl (cy 1, 9, .inr (.inl (fun _ => lO 0)))), (q47, .inl (cy 1, 3, .inr (.inl (fun _ => lO 0)))), (q54, .inl (cy 1, 3, .inr (.inl (fun _ => lO 0)))), (q61, .inl (cy 1, 3, .inr (.inl (fun _ => lO 0)))), (q68, .inl (cy 1, 3, .inr (.inl (fun _ => lO 0)))), (h0, .inr (6, [.ref q7, .ref q15, .ref q24, .int (iO 0), .ref q32, .ref q40, .long (lO 0), .ref q47, .ref q54, .ref q61, .ref q68])), (q7, .inl (cy 1, 100, .inr (.inl (vp_updL (vp_updL (vp_updL (vp_updL (vp_updL (vp_updL (vp_updL (vp_updL (vp_updL (vp_updL (fun _ => lO 0) 0 ((lO 10))) 1 ((lO 60))) 2 ((lO 500))) 3 ((lO 2000))) 14 ((lO 100))) 22 ((lO 100))) 30 ((lO 100))) 8 (lO 0)) 9 (lO (-2000009))) 10 (lO (-2000009))))))]) H) (hD : va_D A ([(q15, .inl (cy 1, 100, .inr (.inl (fun _ => lO 0)))), (q24, .inl (cy 1, 400, .inr (.inl (fun _ => lO 0)))), (q32, .inl (cy 1, 9, .inr (.inl (fun _ => lO 0)))), (q40, .inl (cy 1, 9, .inr (.inl (fun _ => lO 0)))), (q47, .inl (cy 1, 3, .inr (.inl (fun _ => lO 0)))), (q54, .inl (cy 1, 3, .inr (.inl (fun _ => lO 0)))), (q61, .inl (cy 1, 3, .inr (.inl (fun _ => lO 0)))), (q68, .inl (cy 1, 3, .inr (.inl (fun _ => lO 0)))), (h0, .inr (6, [.ref q7, .ref q15, .ref q24, .int (iO 0), .ref q32, .ref q40, .long (lO 0), .ref q47, .ref q54, .ref q61, .ref q68])), (q7, .inl (cy 1, 100, .inr (.inl (vp_updL (vp_updL (vp_updL (vp_updL (vp_updL (vp_updL (vp_updL (vp_updL (vp_updL (vp_updL (fun _ => lO 0) 0 ((lO 10))) 1 ((lO 60))) 2 ((lO 500))) 3 ((lO 2000))) 14 ((lO 100))) 22 ((lO 100))) 30 ((lO 100))) 8 (lO 0)) 9 (lO (-2000009))) 10 (lO (-2000009))))))])) : ∃ u : q_A, u 0 24 0 = h0 ∧ va_P D vwCl (zz_W cy u zm_RL) H ∧ va_D A (zz_W cy u zm_RL) := by
  refine ⟨(fun (_ : Int) (p : Nat) (k : Int) => if p = 24 then h0 else if p = 25 then q7 else if p = 26 then q15 else if p = 27 then q24 else if p = 28 then q32 else if p = 29 then q40 else if p = 30 then q47 else if p = 31 then q54 else if p = 32 then q61 else if p = 33 then q68 else 0), rfl, ?hp, z_Dsame ?hd hD⟩
  case hd => rfl
  intro k x hx
  match k, hx with
  | 0, hx =>
    have e9 : ((q15, .inl (cy 1, 100, .inr (.inl (fun i : Nat => lO (z_s0 0 26 0 (i : Int)))))) : Nat × va_E) = x := Option.some.inj hx
    subst e9
    show H[_]? = some (vp_cell _ _)
    refine Eq.trans (show H[_]? = some (vp_cell _ _) from hP 0 _ rfl) (congrArg some ?_)
    exact z_arr_l (fun j _ => rfl)
  | 1, hx =>
    have e9 : ((q24, .inl (cy 1, 400, .inr (.inl (fun i : Nat => lO (z_s0 0 27 0 (i : Int)))))) : Nat × va_E) = x := Option.some.inj hx
    subst e9
    show H[_]? = some (vp_cell _ _)
    refine Eq.trans (show H[_]? = some (vp_cell _ _) from hP 1 _ rfl) (congrArg some ?_)
    exact z_arr_l (fun j _ => rfl)
  | 2, hx =>
    have e9 : ((q32, .inl (cy 1, 9, .inr (.inl (fun i : Nat => lO (z_s0 0 28 0 (i : Int)))))) : Nat × va_E) = x := Option.some.inj hx
    subst e9
    show H[_]? = some (vp_cell _ _)
    refine Eq.trans (show H[_]? = some (vp_cell _ _) from hP 2 _ rfl) (congrArg some ?_)
    exact z_arr_l (fun j _ => rfl)
  | 3, hx =>
    have e9 : ((q40, .inl (cy 1, 9, .inr (.inl (fun i : Nat => lO (z_s0 0 29 0 (i : Int)))))) : Nat × va_E) = x := Option.some.inj hx
    subst e9
    show H[_]? = some (vp_cell _ _)
    refine Eq.trans (show H[_]? = some (vp_cell _ _) from hP 3 _ rfl) (congrArg some ?_)
    exact z_arr_l (fun j _ => rfl)
  | 4, hx =>
    have e9 : ((q47, .inl (cy 1, 3, .inr (.inl (fun i : Nat => lO (z_s0 0 30 0 (i : Int)))))) : Nat × va_E) = x := Option.some.inj hx
    subst e9
    show H[_]? = some (vp_cell _ _)
    refine Eq.trans (show H[_]? = some (vp_cell _ _) from hP 4 _ rfl) (congrArg some ?_)
    exact z_arr_l (fun j _ => rfl)
  | 5, hx =>
    have e9 : ((q54, .inl (cy 1, 3, .inr (.inl (fun i : Nat => lO (z_s0 0 31 0 (i : Int)))))) : Nat × va_E) = x := Option.some.inj hx
    subst e9
    show H[_]? = some (vp_cell _ _)
    refine Eq.trans (show H[_]? = some (vp_cell _ _) from hP 5 _ rfl) (congrArg some ?_)
    exact z_arr_l (fun j _ => rfl)
  | 6, hx =>
    have e9 : ((q61, .inl (cy 1, 3, .inr (.inl (fun i : Nat => lO (z_s0 0 32 0 (i : Int)))))) : Nat × va_E) = x := Option.some.inj hx
    subst e9
    show H[_]? = some (vp_cell _ _)
    refine Eq.trans (show H[_]? = some (vp_cell _ _) from hP 6 _ rfl) (congrArg some ?_)
    exact z_arr_l (fun j _ => rfl)
  | 7, hx =>
    have e9 : ((q68, .inl (cy 1, 3, .inr (.inl (fun i : Nat => lO (z_s0 0 33 0 (i : Int)))))) : Nat × va_E) = x := Option.some.inj hx
    subst e9
    show H[_]? = some (vp_cell _ _)
    refine Eq.trans (show H[_]? = some (vp_cell _ _) from hP 7 _ rfl) (congrArg some ?_)
    exact z_arr_l (fun j _ => rfl)
  | 8, hx =>
    have e9 := Option.some.inj hx
    subst e9
    exact hP 8 _ rfl
  | 9, hx =>
    have e9 : ((q7, .inl (cy 1, 100, .inr (.inl (fun i : Nat => lO (z_s0 0 25 0 (i : Int)))))) : Nat × va_E) = x := Option.some.inj hx
    subst e9
    show H[_]? = some (vp_cell _ _)
    refine Eq.trans (show H[_]? = some (vp_cell _ _) from hP 9 _ rfl) (congrArg some ?_)
    refine z_arr_l (fun j hj => ?_)
    by_cases h10 : j = 10
    · subst h10; rfl
    by_cases h9 : j = 9
    · subst h9; rfl
    by_cases h8 : j = 8
    · subst h8; rfl
    by_cases h30 : j = 30
    · subst h30; rfl
    by_cases h22 : j = 22
    · subst h22; rfl
    by_cases h14 : j = 14
    · subst h14; rfl
    by_cases h3 : j = 3
    · subst h3; rfl
    by_cases h2 : j = 2
    · subst h2; rfl
    by_cases h1 : j = 1
    · subst h1; rfl
    by_cases h0 : j = 0
    · subst h0; rfl
    have e8 : z_s0 0 25 0 (j : Int) = 0 := by
      show z_v0 _ = _
      unfold z_v0
      rw [if_neg (by omega), if_neg (by omega), if_neg (by omega), if_neg (by omega), if_neg (by omega), if_neg (by omega), if_neg (by omega), if_neg (by omega), if_neg (by omega), if_neg (by omega)]
    rw [e8]
    unfold vp_updL
    rw [if_neg h10, if_neg h9, if_neg h8, if_neg h30, if_neg h22, if_neg h14, if_neg h3, if_neg h2, if_neg h1, if_neg h0]
  | k + 10, hx => exact absurd (List.getElem?_eq_some_iff.mp hx).1 (by show ¬ k + 10 < 10; omega)
set_option maxHeartbeats 4000000 in
set_option maxRecDepth 100000 in
theorem c_X6_init (l : Launch) (D : va_G) (cy : Nat → ClassId) (h0 sz : Nat) : Met l yX6_init wsX6_init ({ frames := 1, cells := 9, slots := 630, locals := 26 }) (va_Pc [.ref h0] (z_B D cy sz [(h0, .inr (6, [.null, .null, .null, .int (iO 0), .null, .null, .long (lO 0), .null, .null, .null, .null]))])) (va_Qv (fun _ : q_A => True) (fun u t => u 0 24 0 = h0 ∧ va_P D vwCl (zz_W cy u zm_RL) t.heap ∧ va_D (va_A [(h0, .inr (6, [.null, .null, .null, .int (iO 0), .null, .null, .long (lO 0), .null, .null, .null, .null]))] sz) (zz_W cy u zm_RL)) (va_A [(h0, .inr (6, [.null, .null, .null, .int (iO 0), .null, .null, .long (lO 0), .null, .null, .null, .null]))] sz)) 9 630 (va_A [(h0, .inr (6, [.null, .null, .null, .int (iO 0), .null, .null, .long (lO 0), .null, .null, .null, .null]))] sz) := by
  refine Met.ofW (cc := cX6_init) (maxL := 2) (ret := none) (by decide) rfl ?_
  intro p e s m args below meth c0 s₁ B hml hv
  obtain ⟨rfl, hsz, hP, hK, hD0, hN, hO⟩ := hv
  have hx := B.exec
  have hb := B.bytes
  have hr := B.returns
  have hts := atoms_spec (ws := wsX6_init) B.pre
  have hown : s.vm.findClass RX6 = some m.cls := findClass_of_methodNamed B.named
  have hlocks := B.notSynchronized
  have hin : meth.name = "<init>" := (name_of_methodNamed B.named B.method).1
  have hinF : ∀ w ∈ u_ws RX6 TX6 11, w ∈ wsX6_init := by decide +kernel
  subst hsz
  have hD := hD0.self (sz := s.heap.size)
  generalize hAe : va_A [(h0, .inr (6, [.null, .null, .null, .int (iO 0), .null, .null, .long (lO 0), .null, .null, .null, .null]))] s.heap.size = A at hD ⊢
  have hA : ∀ q : Nat, s.heap.size ≤ q → A q := fun q h => by rw [← hAe]; exact Or.inr h
  have hS : va_S A s.heap s.heap [] := va_S.rf
  have hP : va_P D vwCl [(h0, .inr (6, [.null, .null, .null, .int (iO 0), .null, .null, .long (lO 0), .null, .null, .null, .null]))] s.heap := hP
  have hl := lv_entry ([.ref h0]) (n := 2) (Nat.le_of_ble_eq_true rfl)
  rw [lg_entry_eq]
  generalize (lg_sl ([.ref h0]) ++ List.replicate (2 - (lg_sl ([.ref h0])).length) Slot.unset).toArray = ls at hl ⊢
  have hl : lv_has ls 2 [(0, .ref h0)] := hl
  refine lv_aload_n hx hb dX6_init_0 rfl (lv_at hl 0 rfl) ?_
  refine W.objInit hx hb hown (hts (.methodLink RX6 1 objectInit) (by decide +kernel)) (hts (.instanceMethod objectInit) (by decide +kernel)) (hts _ (List.mem_of_getElem? (i := 3) rfl)) rfl (by rw [hml]; exact hl.1) rfl dX6_init_1 (Nat.le_of_ble_eq_true rfl) (Nat.le_of_ble_eq_true rfl) ?_
  refine W.eq (g2 := F0 m 4 ls []) rfl ?_
  refine lv_aload_n hx hb dX6_init_4 rfl (lv_at hl 0 rfl) ?_
  refine lv_bipush (v := iO 100) hx hb dX6_init_5 rfl ?_
  refine z_newa (atype := .long) (ty := .long) (N' := 100) (a0 := (100, .inr (.inl (fun _ => lO 0)))) hx hb (hts (.arrayClass .long) (by decide +kernel)) rfl hK 1 rfl hP hD hS hA (fun _ => rfl) (by decide) (by decide) (Nat.le_of_ble_eq_true rfl) (Nat.le_of_ble_eq_true rfl) (Nat.le_of_ble_eq_true rfl) dX6_init_7 (fun q7 H hP hD hS => ?_)
  have hP : va_P D vwCl ([(h0, .inr (6, [.null, .null, .null, .int (iO 0), .null, .null, .long (lO 0), .null, .null, .null, .null])), (q7, .inl (cy 1, 100, .inr (.inl (fun _ => lO 0))))]) H := hP
  have hD : va_D A ([(h0, .inr (6, [.null, .null, .null, .int (iO 0), .null, .null, .long (lO 0), .null, .null, .null, .null])), (q7, .inl (cy 1, 100, .inr (.inl (fun _ => lO 0))))]) := hD
  refine va_putF (D := D) (ci := 6) (v := .ref q7) (ty := .array .long) (C := RX6) (T := TX6) (N := 11) hx hb hts hinF tyX6 tyX6_ok nmX6 hown hK hP hD hS 0 rfl rfl 0 (by decide) (hts (.fieldLink RX6 7 "WheelDeskModel" "v" "[J") (by decide +kernel)) (fun _ h9 => h9) rfl hin rfl (by decide +kernel) rfl rfl (Nat.le_of_ble_eq_true rfl) dX6_init_9 (fun H locs hP hD hS => ?_)
  have hP : va_P D vwCl ([(h0, .inr (6, [.ref q7, .null, .null, .int (iO 0), .null, .null, .long (lO 0), .null, .null, .null, .null])), (q7, .inl (cy 1, 100, .inr (.inl (fun _ => lO 0))))]) H := hP
  have hD : va_D A ([(h0, .inr (6, [.ref q7, .null, .null, .int (iO 0), .null, .null, .long (lO 0), .null, .null, .null, .null])), (q7, .inl (cy 1, 100, .inr (.inl (fun _ => lO 0))))]) := hD
  refine lv_aload_n hx hb dX6_init_12 rfl (lv_at hl 0 rfl) ?_
  refine lv_bipush (v := iO 100) hx hb dX6_init_13 rfl ?_
  refine z_newa (atype := .long) (ty := .long) (N' := 100) (a0 := (100, .inr (.inl (fun _ => lO 0)))) hx hb (hts (.arrayClass .long) (by decide +kernel)) rfl hK 1 rfl hP hD hS hA (fun _ => rfl) (by decide) (by decide) (Nat.le_of_ble_eq_true rfl) (Nat.le_of_ble_eq_true rfl) (Nat.le_of_ble_eq_true rfl) dX6_init_15 (fun q15 H hP hD hS => ?_)
  have hP : va_P D vwCl ([(h0, .inr (6, [.ref q7, .null, .null, .int (iO 0), .null, .null, .long (lO 0), .null, .null, .null, .null])), (q7, .inl (cy 1, 100, .inr (.inl (fun _ => lO 0)))), (q15, .inl (cy 1, 100, .inr (.inl (fun _ => lO 0))))]) H := hP
  have hD : va_D A ([(h0, .inr (6, [.ref q7, .null, .null, .int (iO 0), .null, .null, .long (lO 0), .null, .null, .null, .null])), (q7, .inl (cy 1, 100, .inr (.inl (fun _ => lO 0)))), (q15, .inl (cy 1, 100, .inr (.inl (fun _ => lO 0))))]) := hD
  refine va_putF (D := D) (ci := 6) (v := .ref q15) (ty := .array .long) (C := RX6) (T := TX6) (N := 11) hx hb hts hinF tyX6 tyX6_ok nmX6 hown hK hP hD hS 0 rfl rfl 1 (by decide) (hts (.fieldLink RX6 13 "WheelDeskModel" "aside" "[J") (by decide +kernel)) (fun _ h9 => h9) rfl hin rfl (by decide +kernel) rfl rfl (Nat.le_of_ble_eq_true rfl) dX6_init_17 (fun H locs hP hD hS => ?_)
  have hP : va_P D vwCl ([(h0, .inr (6, [.ref q7, .ref q15, .null, .int (iO 0), .null, .null, .long (lO 0), .null, .null, .null, .null])), (q7, .inl (cy 1, 100, .inr (.inl (fun _ => lO 0)))), (q15, .inl (cy 1, 100, .inr (.inl (fun _ => lO 0))))]) H := hP
  have hD : va_D A ([(h0, .inr (6, [.ref q7, .ref q15, .null, .int (iO 0), .null, .null, .long (lO 0), .null, .null, .null, .null])), (q7, .inl (cy 1, 100, .inr (.inl (fun _ => lO 0)))), (q15, .inl (cy 1, 100, .inr (.inl (fun _ => lO 0))))]) := hD
  refine lv_aload_n hx hb dX6_init_20 rfl (lv_at hl 0 rfl) ?_
  refine lv_sipush (v := iO 400) hx hb dX6_init_21 rfl ?_
  refine z_newa (atype := .long) (ty := .long) (N' := 400) (a0 := (400, .inr (.inl (fun _ => lO 0)))) hx hb (hts (.arrayClass .long) (by decide +kernel)) rfl hK 1 rfl hP hD hS hA (fun _ => rfl) (by decide) (by decide) (Nat.le_of_ble_eq_true rfl) (Nat.le_of_ble_eq_true rfl) (Nat.le_of_ble_eq_true rfl) dX6_init_24 (fun q24 H hP hD hS => ?_)
  have hP : va_P D vwCl ([(h0, .inr (6, [.ref q7, .ref q15, .null, .int (iO 0), .null, .null, .long (lO 0), .null, .null, .null, .null])), (q7, .inl (cy 1, 100, .inr (.inl (fun _ => lO 0)))), (q15, .inl (cy 1, 100, .inr (.inl (fun _ => lO 0)))), (q24, .inl (cy 1, 400, .inr (.inl (fun _ => lO 0))))]) H := hP
  have hD : va_D A ([(h0, .inr (6, [.ref q7, .ref q15, .null, .int (iO 0), .null, .null, .long (lO 0), .null, .null, .null, .null])), (q7, .inl (cy 1, 100, .inr (.inl (fun _ => lO 0)))), (q15, .inl (cy 1, 100, .inr (.inl (fun _ => lO 0)))), (q24, .inl (cy 1, 400, .inr (.inl (fun _ => lO 0))))]) := hD
  refine va_putF (D := D) (ci := 6) (v := .ref q24) (ty := .array .long) (C := RX6) (T := TX6) (N := 11) hx hb hts hinF tyX6 tyX6_ok nmX6 hown hK hP hD hS 0 rfl rfl 2 (by decide) (hts (.fieldLink RX6 16 "WheelDeskModel" "past" "[J") (by decide +kernel)) (fun _ h9 => h9) rfl hin rfl (by decide +kernel) rfl rfl (Nat.le_of_ble_eq_true rfl) dX6_init_26 (fun H locs hP hD hS => ?_)
  have hP : va_P D vwCl ([(h0, .inr (6, [.ref q7, .ref q15, .ref q24, .int (iO 0), .null, .null, .long (lO 0), .null, .null, .null, .null])), (q7, .inl (cy 1, 100, .inr (.inl (fun _ => lO 0)))), (q15, .inl (cy 1, 100, .inr (.inl (fun _ => lO 0)))), (q24, .inl (cy 1, 400, .inr (.inl (fun _ => lO 0))))]) H := hP
  have hD : va_D A ([(h0, .inr (6, [.ref q7, .ref q15, .ref q24, .int (iO 0), .null, .null, .long (lO 0), .null, .null, .null, .null])), (q7, .inl (cy 1, 100, .inr (.inl (fun _ => lO 0)))), (q15, .inl (cy 1, 100, .inr (.inl (fun _ => lO 0)))), (q24, .inl (cy 1, 400, .inr (.inl (fun _ => lO 0))))]) := hD
  refine lv_aload_n hx hb dX6_init_29 rfl (lv_at hl 0 rfl) ?_
  refine lv_bipush (v := iO 9) hx hb dX6_init_30 rfl ?_
  refine z_newa (atype := .long) (ty := .long) (N' := 9) (a0 := (9, .inr (.inl (fun _ => lO 0)))) hx hb (hts (.arrayClass .long) (by decide +kernel)) rfl hK 1 rfl hP hD hS hA (fun _ => rfl) (by decide) (by decide) (Nat.le_of_ble_eq_true rfl) (Nat.le_of_ble_eq_true rfl) (Nat.le_of_ble_eq_true rfl) dX6_init_32 (fun q32 H hP hD hS => ?_)
  have hP : va_P D vwCl ([(h0, .inr (6, [.ref q7, .ref q15, .ref q24, .int (iO 0), .null, .null, .long (lO 0), .null, .null, .null, .null])), (q7, .inl (cy 1, 100, .inr (.inl (fun _ => lO 0)))), (q15, .inl (cy 1, 100, .inr (.inl (fun _ => lO 0)))), (q24, .inl (cy 1, 400, .inr (.inl (fun _ => lO 0)))), (q32, .inl (cy 1, 9, .inr (.inl (fun _ => lO 0))))]) H := hP
  have hD : va_D A ([(h0, .inr (6, [.ref q7, .ref q15, .ref q24, .int (iO 0), .null, .null, .long (lO 0), .null, .null, .null, .null])), (q7, .inl (cy 1, 100, .inr (.inl (fun _ => lO 0)))), (q15, .inl (cy 1, 100, .inr (.inl (fun _ => lO 0)))), (q24, .inl (cy 1, 400, .inr (.inl (fun _ => lO 0)))), (q32, .inl (cy 1, 9, .inr (.inl (fun _ => lO 0))))]) := hD
  refine va_putF (D := D) (ci := 6) (v := .ref q32) (ty := .array .long) (C := RX6) (T := TX6) (N := 11) hx hb hts hinF tyX6 tyX6_ok nmX6 hown hK hP hD hS 0 rfl rfl 4 (by decide) (hts (.fieldLink RX6 19 "WheelDeskModel" "m" "[J") (by decide +kernel)) (fun _ h9 => h9) rfl hin rfl (by decide +kernel) rfl rfl (Nat.le_of_ble_eq_true rfl) dX6_init_34 (fun H locs hP hD hS => ?_)
  have hP : va_P D vwCl ([(h0, .inr (6, [.ref q7, .ref q15, .ref q24, .int (iO 0), .ref q32, .null, .long (lO 0), .null, .null, .null, .null])), (q7, .inl (cy 1, 100, .inr (.inl (fun _ => lO 0)))), (q15, .inl (cy 1, 100, .inr (.inl (fun _ => lO 0)))), (q24, .inl (cy 1, 400, .inr (.inl (fun _ => lO 0)))), (q32, .inl (cy 1, 9, .inr (.inl (fun _ => lO 0))))]) H := hP
  have hD : va_D A ([(h0, .inr (6, [.ref q7, .ref q15, .ref q24, .int (iO 0), .ref q32, .null, .long (lO 0), .null, .null, .null, .null])), (q7, .inl (cy 1, 100, .inr (.inl (fun _ => lO 0)))), (q15, .inl (cy 1, 100, .inr (.inl (fun _ => lO 0)))), (q24, .inl (cy 1, 400, .inr (.inl (fun _ => lO 0)))), (q32, .inl (cy 1, 9, .inr (.inl (fun _ => lO 0))))]) := hD
  refine lv_aload_n hx hb dX6_init_37 rfl (lv_at hl 0 rfl) ?_
  refine lv_bipush (v := iO 9) hx hb dX6_init_38 rfl ?_
  refine z_newa (atype := .long) (ty := .long) (N' := 9) (a0 := (9, .inr (.inl (fun _ => lO 0)))) hx hb (hts (.arrayClass .long) (by decide +kernel)) rfl hK 1 rfl hP hD hS hA (fun _ => rfl) (by decide) (by decide) (Nat.le_of_ble_eq_true rfl) (Nat.le_of_ble_eq_true rfl) (Nat.le_of_ble_eq_true rfl) dX6_init_40 (fun q40 H hP hD hS => ?_)
  have hP : va_P D vwCl ([(h0, .inr (6, [.ref q7, .ref q15, .ref q24, .int (iO 0), .ref q32, .null, .long (lO 0), .null, .null, .null, .null])), (q7, .inl (cy 1, 100, .inr (.inl (fun _ => lO 0)))), (q15, .inl (cy 1, 100, .inr (.inl (fun _ => lO 0)))), (q24, .inl (cy 1, 400, .inr (.inl (fun _ => lO 0)))), (q32, .inl (cy 1, 9, .inr (.inl (fun _ => lO 0)))), (q40, .inl (cy 1, 9, .inr (.inl (fun _ => lO 0))))]) H := hP
  have hD : va_D A ([(h0, .inr (6, [.ref q7, .ref q15, .ref q24, .int (iO 0), .ref q32, .null, .long (lO 0), .null, .null, .null, .null])), (q7, .inl (cy 1, 100, .inr (.inl (fun _ => lO 0)))), (q15, .inl (cy 1, 100, .inr (.inl (fun _ => lO 0)))), (q24, .inl (cy 1, 400, .inr (.inl (fun _ => lO 0)))), (q32, .inl (cy 1, 9, .inr (.inl (fun _ => lO 0)))), (q40, .inl (cy 1, 9, .inr (.inl (fun _ => lO 0))))]) := hD
  refine va_putF (D := D) (ci := 6) (v := .ref q40) (ty := .array .long) (C := RX6) (T := TX6) (N := 11) hx hb hts hinF tyX6 tyX6_ok nmX6 hown hK hP hD hS 0 rfl rfl 5 (by decide) (hts (.fieldLink RX6 22 "WheelDeskModel" "c" "[J") (by decide +kernel)) (fun _ h9 => h9) rfl hin rfl (by decide +kernel) rfl rfl (Nat.le_of_ble_eq_true rfl) dX6_init_42 (fun H locs hP hD hS => ?_)
  have hP : va_P D vwCl ([(h0, .inr (6, [.ref q7, .ref q15, .ref q24, .int (iO 0), .ref q32, .ref q40, .long (lO 0), .null, .null, .null, .null])), (q7, .inl (cy 1, 100, .inr (.inl (fun _ => lO 0)))), (q15, .inl (cy 1, 100, .inr (.inl (fun _ => lO 0)))), (q24, .inl (cy 1, 400, .inr (.inl (fun _ => lO 0)))), (q32, .inl (cy 1, 9, .inr (.inl (fun _ => lO 0)))), (q40, .inl (cy 1, 9, .inr (.inl (fun _ => lO 0))))]) H := hP
  have hD : va_D A ([(h0, .inr (6, [.ref q7, .ref q15, .ref q24, .int (iO 0), .ref q32, .ref q40, .long (lO 0), .null, .null, .null, .null])), (q7, .inl (cy 1, 100, .inr (.inl (fun _ => lO 0)))), (q15, .inl (cy 1, 100, .inr (.inl (fun _ => lO 0)))), (q24, .inl (cy 1, 400, .inr (.inl (fun _ => lO 0)))), (q32, .inl (cy 1, 9, .inr (.inl (fun _ => lO 0)))), (q40, .inl (cy 1, 9, .inr (.inl (fun _ => lO 0))))]) := hD
  refine lv_aload_n hx hb dX6_init_45 rfl (lv_at hl 0 rfl) ?_
  refine lv_iconst (v := iO 3) hx hb dX6_init_46 rfl ?_
  refine z_newa (atype := .long) (ty := .long) (N' := 3) (a0 := (3, .inr (.inl (fun _ => lO 0)))) hx hb (hts (.arrayClass .long) (by decide +kernel)) rfl hK 1 rfl hP hD hS hA (fun _ => rfl) (by decide) (by decide) (Nat.le_of_ble_eq_true rfl) (Nat.le_of_ble_eq_true rfl) (Nat.le_of_ble_eq_true rfl) dX6_init_47 (fun q47 H hP hD hS => ?_)
  have hP : va_P D vwCl ([(h0, .inr (6, [.ref q7, .ref q15, .ref q24, .int (iO 0), .ref q32, .ref q40, .long (lO 0), .null, .null, .null, .null])), (q7, .inl (cy 1, 100, .inr (.inl (fun _ => lO 0)))), (q15, .inl (cy 1, 100, .inr (.inl (fun _ => lO 0)))), (q24, .inl (cy 1, 400, .inr (.inl (fun _ => lO 0)))), (q32, .inl (cy 1, 9, .inr (.inl (fun _ => lO 0)))), (q40, .inl (cy 1, 9, .inr (.inl (fun _ => lO 0)))), (q47, .inl (cy 1, 3, .inr (.inl (fun _ => lO 0))))]) H := hP
  have hD : va_D A ([(h0, .inr (6, [.ref q7, .ref q15, .ref q24, .int (iO 0), .ref q32, .ref q40, .long (lO 0), .null, .null, .null, .null])), (q7, .inl (cy 1, 100, .inr (.inl (fun _ => lO 0)))), (q15, .inl (cy 1, 100, .inr (.inl (fun _ => lO 0)))), (q24, .inl (cy 1, 400, .inr (.inl (fun _ => lO 0)))), (q32, .inl (cy 1, 9, .inr (.inl (fun _ => lO 0)))), (q40, .inl (cy 1, 9, .inr (.inl (fun _ => lO 0)))), (q47, .inl (cy 1, 3, .inr (.inl (fun _ => lO 0))))]) := hD
  refine va_putF (D := D) (ci := 6) (v := .ref q47) (ty := .array .long) (C := RX6) (T := TX6) (N := 11) hx hb hts hinF tyX6 tyX6_ok nmX6 hown hK hP hD hS 0 rfl rfl 7 (by decide) (hts (.fieldLink RX6 25 "WheelDeskModel" "turn" "[J") (by decide +kernel)) (fun _ h9 => h9) rfl hin rfl (by decide +kernel) rfl rfl (Nat.le_of_ble_eq_true rfl) dX6_init_49 (fun H locs hP hD hS => ?_)
  have hP : va_P D vwCl ([(h0, .inr (6, [.ref q7, .ref q15, .ref q24, .int (iO 0), .ref q32, .ref q40, .long (lO 0), .ref q47, .null, .null, .null])), (q7, .inl (cy 1, 100, .inr (.inl (fun _ => lO 0)))), (q15, .inl (cy 1, 100, .inr (.inl (fun _ => lO 0)))), (q24, .inl (cy 1, 400, .inr (.inl (fun _ => lO 0)))), (q32, .inl (cy 1, 9, .inr (.inl (fun _ => lO 0)))), (q40, .inl (cy 1, 9, .inr (.inl (fun _ => lO 0)))), (q47, .inl (cy 1, 3, .inr (.inl (fun _ => lO 0))))]) H := hP
  have hD : va_D A ([(h0, .inr (6, [.ref q7, .ref q15, .ref q24, .int (iO 0), .ref q32, .ref q40, .long (lO 0), .ref q47, .null, .null, .null])), (q7, .inl (cy 1, 100, .inr (.inl (fun _ => lO 0)))), (q15, .inl (cy 1, 100, .inr (.inl (fun _ => lO 0)))), (q24, .inl (cy 1, 400, .inr (.inl (fun _ => lO 0)))), (q32, .inl (cy 1, 9, .inr (.inl (fun _ => lO 0)))), (q40, .inl (cy 1, 9, .inr (.inl (fun _ => lO 0)))), (q47, .inl (cy 1, 3, .inr (.inl (fun _ => lO 0))))]) := hD
  refine lv_aload_n hx hb dX6_init_52 rfl (lv_at hl 0 rfl) ?_
  refine lv_iconst (v := iO 3) hx hb dX6_init_53 rfl ?_
  refine z_newa (atype := .long) (ty := .long) (N' := 3) (a0 := (3, .inr (.inl (fun _ => lO 0)))) hx hb (hts (.arrayClass .long) (by decide +kernel)) rfl hK 1 rfl hP hD hS hA (fun _ => rfl) (by decide) (by decide) (Nat.le_of_ble_eq_true rfl) (Nat.le_of_ble_eq_true rfl) (Nat.le_of_ble_eq_true rfl) dX6_init_54 (fun q54 H hP hD hS => ?_)
  have hP : va_P D vwCl ([(h0, .inr (6, [.ref q7, .ref q15, .ref q24, .int (iO 0), .ref q32, .ref q40, .long (lO 0), .ref q47, .null, .null, .null])), (q7, .inl (cy 1, 100, .inr (.inl (fun _ => lO 0)))), (q15, .inl (cy 1, 100, .inr (.inl (fun _ => lO 0)))), (q24, .inl (cy 1, 400, .inr (.inl (fun _ => lO 0)))), (q32, .inl (cy 1, 9, .inr (.inl (fun _ => lO 0)))), (q40, .inl (cy 1, 9, .inr (.inl (fun _ => lO 0)))), (q47, .inl (cy 1, 3, .inr (.inl (fun _ => lO 0)))), (q54, .inl (cy 1, 3, .inr (.inl (fun _ => lO 0))))]) H := hP
  have hD : va_D A ([(h0, .inr (6, [.ref q7, .ref q15, .ref q24, .int (iO 0), .ref q32, .ref q40, .long (lO 0), .ref q47, .null, .null, .null])), (q7, .inl (cy 1, 100, .inr (.inl (fun _ => lO 0)))), (q15, .inl (cy 1, 100, .inr (.inl (fun _ => lO 0)))), (q24, .inl (cy 1, 400, .inr (.inl (fun _ => lO 0)))), (q32, .inl (cy 1, 9, .inr (.inl (fun _ => lO 0)))), (q40, .inl (cy 1, 9, .inr (.inl (fun _ => lO 0)))), (q47, .inl (cy 1, 3, .inr (.inl (fun _ => lO 0)))), (q54, .inl (cy 1, 3, .inr (.inl (fun _ => lO 0))))]) := hD
  refine va_putF (D := D) (ci := 6) (v := .ref q54) (ty := .array .long) (C := RX6) (T := TX6) (N := 11) hx hb hts hinF tyX6 tyX6_ok nmX6 hown hK hP hD hS 0 rfl rfl 8 (by decide) (hts (.fieldLink RX6 28 "WheelDeskModel" "h" "[J") (by decide +kernel)) (fun _ h9 => h9) rfl hin rfl (by decide +kernel) rfl rfl (Nat.le_of_ble_eq_true rfl) dX6_init_56 (fun H locs hP hD hS => ?_)
  have hP : va_P D vwCl ([(h0, .inr (6, [.ref q7, .ref q15, .ref q24, .int (iO 0), .ref q32, .ref q40, .long (lO 0), .ref q47, .ref q54, .null, .null])), (q7, .inl (cy 1, 100, .inr (.inl (fun _ => lO 0)))), (q15, .inl (cy 1, 100, .inr (.inl (fun _ => lO 0)))), (q24, .inl (cy 1, 400, .inr (.inl (fun _ => lO 0)))), (q32, .inl (cy 1, 9, .inr (.inl (fun _ => lO 0)))), (q40, .inl (cy 1, 9, .inr (.inl (fun _ => lO 0)))), (q47, .inl (cy 1, 3, .inr (.inl (fun _ => lO 0)))), (q54, .inl (cy 1, 3, .inr (.inl (fun _ => lO 0))))]) H := hP
  have hD : va_D A ([(h0, .inr (6, [.ref q7, .ref q15, .ref q24, .int (iO 0), .ref q32, .ref q40, .long (lO 0), .ref q47, .ref q54, .null, .null])), (q7, .inl (cy 1, 100, .inr (.inl (fun _ => lO 0)))), (q15, .inl (cy 1, 100, .inr (.inl (fun _ => lO 0)))), (q24, .inl (cy 1, 400, .inr (.inl (fun _ => lO 0)))), (q32, .inl (cy 1, 9, .inr (.inl (fun _ => lO 0)))), (q40, .inl (cy 1, 9, .inr (.inl (fun _ => lO 0)))), (q47, .inl (cy 1, 3, .inr (.inl (fun _ => lO 0)))), (q54, .inl (cy 1, 3, .inr (.inl (fun _ => lO 0))))]) := hD
  refine lv_aload_n hx hb dX6_init_59 rfl (lv_at hl 0 rfl) ?_
  refine lv_iconst (v := iO 3) hx hb dX6_init_60 rfl ?_
  refine z_newa (atype := .long) (ty := .long) (N' := 3) (a0 := (3, .inr (.inl (fun _ => lO 0)))) hx hb (hts (.arrayClass .long) (by decide +kernel)) rfl hK 1 rfl hP hD hS hA (fun _ => rfl) (by decide) (by decide) (Nat.le_of_ble_eq_true rfl) (Nat.le_of_ble_eq_true rfl) (Nat.le_of_ble_eq_true rfl) dX6_init_61 (fun q61 H hP hD hS => ?_)
  have hP : va_P D vwCl ([(h0, .inr (6, [.ref q7, .ref q15, .ref q24, .int (iO 0), .ref q32, .ref q40, .long (lO 0), .ref q47, .ref q54, .null, .null])), (q7, .inl (cy 1, 100, .inr (.inl (fun _ => lO 0)))), (q15, .inl (cy 1, 100, .inr (.inl (fun _ => lO 0)))), (q24, .inl (cy 1, 400, .inr (.inl (fun _ => lO 0)))), (q32, .inl (cy 1, 9, .inr (.inl (fun _ => lO 0)))), (q40, .inl (cy 1, 9, .inr (.inl (fun _ => lO 0)))), (q47, .inl (cy 1, 3, .inr (.inl (fun _ => lO 0)))), (q54, .inl (cy 1, 3, .inr (.inl (fun _ => lO 0)))), (q61, .inl (cy 1, 3, .inr (.inl (fun _ => lO 0))))]) H := hP
  have hD : va_D A ([(h0, .inr (6, [.ref q7, .ref q15, .ref q24, .int (iO 0), .ref q32, .ref q40, .long (lO 0), .ref q47, .ref q54, .null, .null])), (q7, .inl (cy 1, 100, .inr (.inl (fun _ => lO 0)))), (q15, .inl (cy 1, 100, .inr (.inl (fun _ => lO 0)))), (q24, .inl (cy 1, 400, .inr (.inl (fun _ => lO 0)))), (q32, .inl (cy 1, 9, .inr (.inl (fun _ => lO 0)))), (q40, .inl (cy 1, 9, .inr (.inl (fun _ => lO 0)))), (q47, .inl (cy 1, 3, .inr (.inl (fun _ => lO 0)))), (q54, .inl (cy 1, 3, .inr (.inl (fun _ => lO 0)))), (q61, .inl (cy 1, 3, .inr (.inl (fun _ => lO 0))))]) := hD
  refine va_putF (D := D) (ci := 6) (v := .ref q61) (ty := .array .long) (C := RX6) (T := TX6) (N := 11) hx hb hts hinF tyX6 tyX6_ok nmX6 hown hK hP hD hS 0 rfl rfl 9 (by decide) (hts (.fieldLink RX6 31 "WheelDeskModel" "b" "[J") (by decide +kernel)) (fun _ h9 => h9) rfl hin rfl (by decide +kernel) rfl rfl (Nat.le_of_ble_eq_true rfl) dX6_init_63 (fun H locs hP hD hS => ?_)
  have hP : va_P D vwCl ([(h0, .inr (6, [.ref q7, .ref q15, .ref q24, .int (iO 0), .ref q32, .ref q40, .long (lO 0), .ref q47, .ref q54, .ref q61, .null])), (q7, .inl (cy 1, 100, .inr (.inl (fun _ => lO 0)))), (q15, .inl (cy 1, 100, .inr (.inl (fun _ => lO 0)))), (q24, .inl (cy 1, 400, .inr (.inl (fun _ => lO 0)))), (q32, .inl (cy 1, 9, .inr (.inl (fun _ => lO 0)))), (q40, .inl (cy 1, 9, .inr (.inl (fun _ => lO 0)))), (q47, .inl (cy 1, 3, .inr (.inl (fun _ => lO 0)))), (q54, .inl (cy 1, 3, .inr (.inl (fun _ => lO 0)))), (q61, .inl (cy 1, 3, .inr (.inl (fun _ => lO 0))))]) H := hP
  have hD : va_D A ([(h0, .inr (6, [.ref q7, .ref q15, .ref q24, .int (iO 0), .ref q32, .ref q40, .long (lO 0), .ref q47, .ref q54, .ref q61, .null])), (q7, .inl (cy 1, 100, .inr (.inl (fun _ => lO 0)))), (q15, .inl (cy 1, 100, .inr (.inl (fun _ => lO 0)))), (q24, .inl (cy 1, 400, .inr (.inl (fun _ => lO 0)))), (q32, .inl (cy 1, 9, .inr (.inl (fun _ => lO 0)))), (q40, .inl (cy 1, 9, .inr (.inl (fun _ => lO 0)))), (q47, .inl (cy 1, 3, .inr (.inl (fun _ => lO 0)))), (q54, .inl (cy 1, 3, .inr (.inl (fun _ => lO 0)))), (q61, .inl (cy 1, 3, .inr (.inl (fun _ => lO 0))))]) := hD
  refine lv_aload_n hx hb dX6_init_66 rfl (lv_at hl 0 rfl) ?_
  refine lv_iconst (v := iO 3) hx hb dX6_init_67 rfl ?_
  refine z_newa (atype := .long) (ty := .long) (N' := 3) (a0 := (3, .inr (.inl (fun _ => lO 0)))) hx hb (hts (.arrayClass .long) (by decide +kernel)) rfl hK 1 rfl hP hD hS hA (fun _ => rfl) (by decide) (by decide) (Nat.le_of_ble_eq_true rfl) (Nat.le_of_ble_eq_true rfl) (Nat.le_of_ble_eq_true rfl) dX6_init_68 (fun q68 H hP hD hS => ?_)
  have hP : va_P D vwCl ([(h0, .inr (6, [.ref q7, .ref q15, .ref q24, .int (iO 0), .ref q32, .ref q40, .long (lO 0), .ref q47, .ref q54, .ref q61, .null])), (q7, .inl (cy 1, 100, .inr (.inl (fun _ => lO 0)))), (q15, .inl (cy 1, 100, .inr (.inl (fun _ => lO 0)))), (q24, .inl (cy 1, 400, .inr (.inl (fun _ => lO 0)))), (q32, .inl (cy 1, 9, .inr (.inl (fun _ => lO 0)))), (q40, .inl (cy 1, 9, .inr (.inl (fun _ => lO 0)))), (q47, .inl (cy 1, 3, .inr (.inl (fun _ => lO 0)))), (q54, .inl (cy 1, 3, .inr (.inl (fun _ => lO 0)))), (q61, .inl (cy 1, 3, .inr (.inl (fun _ => lO 0)))), (q68, .inl (cy 1, 3, .inr (.inl (fun _ => lO 0))))]) H := hP
  have hD : va_D A ([(h0, .inr (6, [.ref q7, .ref q15, .ref q24, .int (iO 0), .ref q32, .ref q40, .long (lO 0), .ref q47, .ref q54, .ref q61, .null])), (q7, .inl (cy 1, 100, .inr (.inl (fun _ => lO 0)))), (q15, .inl (cy 1, 100, .inr (.inl (fun _ => lO 0)))), (q24, .inl (cy 1, 400, .inr (.inl (fun _ => lO 0)))), (q32, .inl (cy 1, 9, .inr (.inl (fun _ => lO 0)))), (q40, .inl (cy 1, 9, .inr (.inl (fun _ => lO 0)))), (q47, .inl (cy 1, 3, .inr (.inl (fun _ => lO 0)))), (q54, .inl (cy 1, 3, .inr (.inl (fun _ => lO 0)))), (q61, .inl (cy 1, 3, .inr (.inl (fun _ => lO 0)))), (q68, .inl (cy 1, 3, .inr (.inl (fun _ => lO 0))))]) := hD
  refine va_putF (D := D) (ci := 6) (v := .ref q68) (ty := .array .long) (C := RX6) (T := TX6) (N := 11) hx hb hts hinF tyX6 tyX6_ok nmX6 hown hK hP hD hS 0 rfl rfl 10 (by decide) (hts (.fieldLink RX6 34 "WheelDeskModel" "moment" "[J") (by decide +kernel)) (fun _ h9 => h9) rfl hin rfl (by decide +kernel) rfl rfl (Nat.le_of_ble_eq_true rfl) dX6_init_70 (fun H locs hP hD hS => ?_)
  have hP : va_P D vwCl ([(h0, .inr (6, [.ref q7, .ref q15, .ref q24, .int (iO 0), .ref q32, .ref q40, .long (lO 0), .ref q47, .ref q54, .ref q61, .ref q68])), (q7, .inl (cy 1, 100, .inr (.inl (fun _ => lO 0)))), (q15, .inl (cy 1, 100, .inr (.inl (fun _ => lO 0)))), (q24, .inl (cy 1, 400, .inr (.inl (fun _ => lO 0)))), (q32, .inl (cy 1, 9, .inr (.inl (fun _ => lO 0)))), (q40, .inl (cy 1, 9, .inr (.inl (fun _ => lO 0)))), (q47, .inl (cy 1, 3, .inr (.inl (fun _ => lO 0)))), (q54, .inl (cy 1, 3, .inr (.inl (fun _ => lO 0)))), (q61, .inl (cy 1, 3, .inr (.inl (fun _ => lO 0)))), (q68, .inl (cy 1, 3, .inr (.inl (fun _ => lO 0))))]) H := hP
  have hD : va_D A ([(h0, .inr (6, [.ref q7, .ref q15, .ref q24, .int (iO 0), .ref q32, .ref q40, .long (lO 0), .ref q47, .ref q54, .ref q61, .ref q68])), (q7, .inl (cy 1, 100, .inr (.inl (fun _ => lO 0)))), (q15, .inl (cy 1, 100, .inr (.inl (fun _ => lO 0)))), (q24, .inl (cy 1, 400, .inr (.inl (fun _ => lO 0)))), (q32, .inl (cy 1, 9, .inr (.inl (fun _ => lO 0)))), (q40, .inl (cy 1, 9, .inr (.inl (fun _ => lO 0)))), (q47, .inl (cy 1, 3, .inr (.inl (fun _ => lO 0)))), (q54, .inl (cy 1, 3, .inr (.inl (fun _ => lO 0)))), (q61, .inl (cy 1, 3, .inr (.inl (fun _ => lO 0)))), (q68, .inl (cy 1, 3, .inr (.inl (fun _ => lO 0))))]) := hD
  refine lv_aload_n hx hb dX6_init_73 rfl (lv_at hl 0 rfl) ?_
  refine va_get (D := D) (ci := 6) (v := .ref q7) (C := RX6) (T := TX6) (N := 11) hx hb hts hinF hown hK hP 0 rfl rfl 0 (by decide) (hts (.fieldLink RX6 7 "WheelDeskModel" "v" "[J") (by decide +kernel)) (fun _ h9 => h9) rfl dX6_init_74 ?_
  refine lv_iconst (v := iO 0) hx hb dX6_init_77 rfl ?_
  refine lv_ldc2 (v := lO (10)) hx hb hown (hts (.constantLong RX6 37 (lO (10))) (by decide +kernel)) dX6_init_78 ?_
  refine va_last hx hb hK hP hD hS 1 1 rfl rfl (z_in (by decide)) dX6_init_81 (fun H locs hP hD hS => ?_)
  have hP : va_P D vwCl ([(h0, .inr (6, [.ref q7, .ref q15, .ref q24, .int (iO 0), .ref q32, .ref q40, .long (lO 0), .ref q47, .ref q54, .ref q61, .ref q68])), (q7, .inl (cy 1, 100, .inr (.inl (vp_updL (fun _ => lO 0) 0 ((lO 10)))))), (q15, .inl (cy 1, 100, .inr (.inl (fun _ => lO 0)))), (q24, .inl (cy 1, 400, .inr (.inl (fun _ => lO 0)))), (q32, .inl (cy 1, 9, .inr (.inl (fun _ => lO 0)))), (q40, .inl (cy 1, 9, .inr (.inl (fun _ => lO 0)))), (q47, .inl (cy 1, 3, .inr (.inl (fun _ => lO 0)))), (q54, .inl (cy 1, 3, .inr (.inl (fun _ => lO 0)))), (q61, .inl (cy 1, 3, .inr (.inl (fun _ => lO 0)))), (q68, .inl (cy 1, 3, .inr (.inl (fun _ => lO 0))))]) H := hP
  have hD : va_D A ([(h0, .inr (6, [.ref q7, .ref q15, .ref q24, .int (iO 0), .ref q32, .ref q40, .long (lO 0), .ref q47, .ref q54, .ref q61, .ref q68])), (q7, .inl (cy 1, 100, .inr (.inl (vp_updL (fun _ => lO 0) 0 ((lO 10)))))), (q15, .inl (cy 1, 100, .inr (.inl (fun _ => lO 0)))), (q24, .inl (cy 1, 400, .inr (.inl (fun _ => lO 0)))), (q32, .inl (cy 1, 9, .inr (.inl (fun _ => lO 0)))), (q40, .inl (cy 1, 9, .inr (.inl (fun _ => lO 0)))), (q47, .inl (cy 1, 3, .inr (.inl (fun _ => lO 0)))), (q54, .inl (cy 1, 3, .inr (.inl (fun _ => lO 0)))), (q61, .inl (cy 1, 3, .inr (.inl (fun _ => lO 0)))), (q68, .inl (cy 1, 3, .inr (.inl (fun _ => lO 0))))]) := hD
  refine lv_aload_n hx hb dX6_init_82 rfl (lv_at hl 0 rfl) ?_
  refine va_get (D := D) (ci := 6) (v := .ref q7) (C := RX6) (T := TX6) (N := 11) hx hb hts hinF hown hK hP 0 rfl rfl 0 (by decide) (hts (.fieldLink RX6 7 "WheelDeskModel" "v" "[J") (by decide +kernel)) (fun _ h9 => h9) rfl dX6_init_83 ?_
  refine lv_iconst (v := iO 1) hx hb dX6_init_86 rfl ?_
  refine lv_ldc2 (v := lO (60)) hx hb hown (hts (.constantLong RX6 39 (lO (60))) (by decide +kernel)) dX6_init_87 ?_
  refine va_last hx hb hK hP hD hS 1 1 rfl rfl (z_in (by decide)) dX6_init_90 (fun H locs hP hD hS => ?_)
  have hP : va_P D vwCl ([(h0, .inr (6, [.ref q7, .ref q15, .ref q24, .int (iO 0), .ref q32, .ref q40, .long (lO 0), .ref q47, .ref q54, .ref q61, .ref q68])), (q7, .inl (cy 1, 100, .inr (.inl (vp_updL (vp_updL (fun _ => lO 0) 0 ((lO 10))) 1 ((lO 60)))))), (q15, .inl (cy 1, 100, .inr (.inl (fun _ => lO 0)))), (q24, .inl (cy 1, 400, .inr (.inl (fun _ => lO 0)))), (q32, .inl (cy 1, 9, .inr (.inl (fun _ => lO 0)))), (q40, .inl (cy 1, 9, .inr (.inl (fun _ => lO 0)))), (q47, .inl (cy 1, 3, .inr (.inl (fun _ => lO 0)))), (q54, .inl (cy 1, 3, .inr (.inl (fun _ => lO 0)))), (q61, .inl (cy 1, 3, .inr (.inl (fun _ => lO 0)))), (q68, .inl (cy 1, 3, .inr (.inl (fun _ => lO 0))))]) H := hP
  have hD : va_D A ([(h0, .inr (6, [.ref q7, .ref q15, .ref q24, .int (iO 0), .ref q32, .ref q40, .long (lO 0), .ref q47, .ref q54, .ref q61, .ref q68])), (q7, .inl (cy 1, 100, .inr (.inl (vp_updL (vp_updL (fun _ => lO 0) 0 ((lO 10))) 1 ((lO 60)))))), (q15, .inl (cy 1, 100, .inr (.inl (fun _ => lO 0)))), (q24, .inl (cy 1, 400, .inr (.inl (fun _ => lO 0)))), (q32, .inl (cy 1, 9, .inr (.inl (fun _ => lO 0)))), (q40, .inl (cy 1, 9, .inr (.inl (fun _ => lO 0)))), (q47, .inl (cy 1, 3, .inr (.inl (fun _ => lO 0)))), (q54, .inl (cy 1, 3, .inr (.inl (fun _ => lO 0)))), (q61, .inl (cy 1, 3, .inr (.inl (fun _ => lO 0)))), (q68, .inl (cy 1, 3, .inr (.inl (fun _ => lO 0))))]) := hD
  refine lv_aload_n hx hb dX6_init_91 rfl (lv_at hl 0 rfl) ?_
  refine va_get (D := D) (ci := 6) (v := .ref q7) (C := RX6) (T := TX6) (N := 11) hx hb hts hinF hown hK hP 0 rfl rfl 0 (by decide) (hts (.fieldLink RX6 7 "WheelDeskModel" "v" "[J") (by decide +kernel)) (fun _ h9 => h9) rfl dX6_init_92 ?_
  refine lv_iconst (v := iO 2) hx hb dX6_init_95 rfl ?_
  refine lv_ldc2 (v := lO (500)) hx hb hown (hts (.constantLong RX6 41 (lO (500))) (by decide +kernel)) dX6_init_96 ?_
  refine va_last hx hb hK hP hD hS 1 1 rfl rfl (z_in (by decide)) dX6_init_99 (fun H locs hP hD hS => ?_)
  have hP : va_P D vwCl ([(h0, .inr (6, [.ref q7, .ref q15, .ref q24, .int (iO 0), .ref q32, .ref q40, .long (lO 0), .ref q47, .ref q54, .ref q61, .ref q68])), (q7, .inl (cy 1, 100, .inr (.inl (vp_updL (vp_updL (vp_updL (fun _ => lO 0) 0 ((lO 10))) 1 ((lO 60))) 2 ((lO 500)))))), (q15, .inl (cy 1, 100, .inr (.inl (fun _ => lO 0)))), (q24, .inl (cy 1, 400, .inr (.inl (fun _ => lO 0)))), (q32, .inl (cy 1, 9, .inr (.inl (fun _ => lO 0)))), (q40, .inl (cy 1, 9, .inr (.inl (fun _ => lO 0)))), (q47, .inl (cy 1, 3, .inr (.inl (fun _ => lO 0)))), (q54, .inl (cy 1, 3, .inr (.inl (fun _ => lO 0)))), (q61, .inl (cy 1, 3, .inr (.inl (fun _ => lO 0)))), (q68, .inl (cy 1, 3, .inr (.inl (fun _ => lO 0))))]) H := hP
  have hD : va_D A ([(h0, .inr (6, [.ref q7, .ref q15, .ref q24, .int (iO 0), .ref q32, .ref q40, .long (lO 0), .ref q47, .ref q54, .ref q61, .ref q68])), (q7, .inl (cy 1, 100, .inr (.inl (vp_updL (vp_updL (vp_updL (fun _ => lO 0) 0 ((lO 10))) 1 ((lO 60))) 2 ((lO 500)))))), (q15, .inl (cy 1, 100, .inr (.inl (fun _ => lO 0)))), (q24, .inl (cy 1, 400, .inr (.inl (fun _ => lO 0)))), (q32, .inl (cy 1, 9, .inr (.inl (fun _ => lO 0)))), (q40, .inl (cy 1, 9, .inr (.inl (fun _ => lO 0)))), (q47, .inl (cy 1, 3, .inr (.inl (fun _ => lO 0)))), (q54, .inl (cy 1, 3, .inr (.inl (fun _ => lO 0)))), (q61, .inl (cy 1, 3, .inr (.inl (fun _ => lO 0)))), (q68, .inl (cy 1, 3, .inr (.inl (fun _ => lO 0))))]) := hD
  refine lv_aload_n hx hb dX6_init_100 rfl (lv_at hl 0 rfl) ?_
  refine va_get (D := D) (ci := 6) (v := .ref q7) (C := RX6) (T := TX6) (N := 11) hx hb hts hinF hown hK hP 0 rfl rfl 0 (by decide) (hts (.fieldLink RX6 7 "WheelDeskModel" "v" "[J") (by decide +kernel)) (fun _ h9 => h9) rfl dX6_init_101 ?_
  refine lv_iconst (v := iO 3) hx hb dX6_init_104 rfl ?_
  refine lv_ldc2 (v := lO (2000)) hx hb hown (hts (.constantLong RX6 43 (lO (2000))) (by decide +kernel)) dX6_init_105 ?_
  refine va_last hx hb hK hP hD hS 1 1 rfl rfl (z_in (by decide)) dX6_init_108 (fun H locs hP hD hS => ?_)
  have hP : va_P D vwCl ([(h0, .inr (6, [.ref q7, .ref q15, .ref q24, .int (iO 0), .ref q32, .ref q40, .long (lO 0), .ref q47, .ref q54, .ref q61, .ref q68])), (q7, .inl (cy 1, 100, .inr (.inl (vp_updL (vp_updL (vp_updL (vp_updL (fun _ => lO 0) 0 ((lO 10))) 1 ((lO 60))) 2 ((lO 500))) 3 ((lO 2000)))))), (q15, .inl (cy 1, 100, .inr (.inl (fun _ => lO 0)))), (q24, .inl (cy 1, 400, .inr (.inl (fun _ => lO 0)))), (q32, .inl (cy 1, 9, .inr (.inl (fun _ => lO 0)))), (q40, .inl (cy 1, 9, .inr (.inl (fun _ => lO 0)))), (q47, .inl (cy 1, 3, .inr (.inl (fun _ => lO 0)))), (q54, .inl (cy 1, 3, .inr (.inl (fun _ => lO 0)))), (q61, .inl (cy 1, 3, .inr (.inl (fun _ => lO 0)))), (q68, .inl (cy 1, 3, .inr (.inl (fun _ => lO 0))))]) H := hP
  have hD : va_D A ([(h0, .inr (6, [.ref q7, .ref q15, .ref q24, .int (iO 0), .ref q32, .ref q40, .long (lO 0), .ref q47, .ref q54, .ref q61, .ref q68])), (q7, .inl (cy 1, 100, .inr (.inl (vp_updL (vp_updL (vp_updL (vp_updL (fun _ => lO 0) 0 ((lO 10))) 1 ((lO 60))) 2 ((lO 500))) 3 ((lO 2000)))))), (q15, .inl (cy 1, 100, .inr (.inl (fun _ => lO 0)))), (q24, .inl (cy 1, 400, .inr (.inl (fun _ => lO 0)))), (q32, .inl (cy 1, 9, .inr (.inl (fun _ => lO 0)))), (q40, .inl (cy 1, 9, .inr (.inl (fun _ => lO 0)))), (q47, .inl (cy 1, 3, .inr (.inl (fun _ => lO 0)))), (q54, .inl (cy 1, 3, .inr (.inl (fun _ => lO 0)))), (q61, .inl (cy 1, 3, .inr (.inl (fun _ => lO 0)))), (q68, .inl (cy 1, 3, .inr (.inl (fun _ => lO 0))))]) := hD
  refine lv_iconst (v := iO 0) hx hb dX6_init_109 rfl ?_
  refine lv_istore_n (lv' := [(1, .int (iO 0)), (0, .ref h0)]) hx hb dX6_init_110 rfl hl (by decide) rfl (fun ls hl => ?_)
  refine lv_iload_n hx hb dX6_init_111 rfl (lv_at hl 0 rfl) ?_
  refine lv_iconst (v := iO 3) hx hb dX6_init_112 rfl ?_
  refine lv_icmp_ge (tgt := 135) hx hb dX6_init_113 (by decide) (fun c9 => absurd c9 (by decide)) (fun _ => ?_)
  refine lv_aload_n hx hb dX6_init_116 rfl (lv_at hl 1 rfl) ?_
  refine va_get (D := D) (ci := 6) (v := .ref q7) (C := RX6) (T := TX6) (N := 11) hx hb hts hinF hown hK hP 0 rfl rfl 0 (by decide) (hts (.fieldLink RX6 7 "WheelDeskModel" "v" "[J") (by decide +kernel)) (fun _ h9 => h9) rfl dX6_init_117 ?_
  refine lv_iload_n hx hb dX6_init_120 rfl (lv_at hl 0 rfl) ?_
  refine lv_iconst (v := iO 2) hx hb dX6_init_121 rfl ?_
  have hFc : ∀ q, va_A [] H.size q → A q := fun q h => by
    rcases h with ⟨k, e9, h⟩ | h
    · cases h
    · exact hA q (Nat.le_trans hS.1 h)
  refine va_calli (va_runS (As := [.int (iO 0), .int (iO 2)]) (rest := [.ref q7]) ⟨hx, hb, hml, hown, hts⟩ (c_axisAt0 l (iO 0) (iO 2) H.size) (va_cwS 2 hts gX6_init_X6_axisAt rfl rfl rfl (by decide +kernel) ⟨(Nat.le_of_ble_eq_true rfl), (Nat.le_of_ble_eq_true rfl)⟩) ⟨fun a9 U g9 mk q => q, fun U hU hW => ⟨rfl, congrArg Array.size hU⟩⟩ rfl rfl hl.1 rfl (lv_room (Nat.le_of_ble_eq_true rfl)) dX6_init_122 ⟨(Nat.le_of_ble_eq_true rfl), (Nat.le_of_ble_eq_true rfl)⟩) hS (fun q _ h => hFc q h) hFc (fun r9 u9 t H1 locs ht hvm hw hB hz1 hk1 hS => ?_)
  have hr9 : r9 = iO 14 := hw.trans (by decide)
  subst hr9
  obtain ⟨hP, hD⟩ := z_join (X := [(h0, .inr (6, [.ref q7, .ref q15, .ref q24, .int (iO 0), .ref q32, .ref q40, .long (lO 0), .ref q47, .ref q54, .ref q61, .ref q68])), (q7, .inl (cy 1, 100, .inr (.inl (vp_updL (vp_updL (vp_updL (vp_updL (fun _ => lO 0) 0 ((lO 10))) 1 ((lO 60))) 2 ((lO 500))) 3 ((lO 2000)))))), (q15, .inl (cy 1, 100, .inr (.inl (fun _ => lO 0)))), (q24, .inl (cy 1, 400, .inr (.inl (fun _ => lO 0)))), (q32, .inl (cy 1, 9, .inr (.inl (fun _ => lO 0)))), (q40, .inl (cy 1, 9, .inr (.inl (fun _ => lO 0)))), (q47, .inl (cy 1, 3, .inr (.inl (fun _ => lO 0)))), (q54, .inl (cy 1, 3, .inr (.inl (fun _ => lO 0)))), (q61, .inl (cy 1, 3, .inr (.inl (fun _ => lO 0)))), (q68, .inl (cy 1, 3, .inr (.inl (fun _ => lO 0))))]) (wc := []) (w1 := []) hP hD hk1 hFc (fun k9 q9 h9 => nomatch h9) ⟨fun i9 j9 p9 q9 h9 => (nomatch h9), fun k9 q9 h9 => nomatch h9⟩
  clear hFc hk1 hz1
  generalize H1 = H at hP hS ⊢
  have hP : va_P D vwCl ([(h0, .inr (6, [.ref q7, .ref q15, .ref q24, .int (iO 0), .ref q32, .ref q40, .long (lO 0), .ref q47, .ref q54, .ref q61, .ref q68])), (q7, .inl (cy 1, 100, .inr (.inl (vp_updL (vp_updL (vp_updL (vp_updL (fun _ => lO 0) 0 ((lO 10))) 1 ((lO 60))) 2 ((lO 500))) 3 ((lO 2000)))))), (q15, .inl (cy 1, 100, .inr (.inl (fun _ => lO 0)))), (q24, .inl (cy 1, 400, .inr (.inl (fun _ => lO 0)))), (q32, .inl (cy 1, 9, .inr (.inl (fun _ => lO 0)))), (q40, .inl (cy 1, 9, .inr (.inl (fun _ => lO 0)))), (q47, .inl (cy 1, 3, .inr (.inl (fun _ => lO 0)))), (q54, .inl (cy 1, 3, .inr (.inl (fun _ => lO 0)))), (q61, .inl (cy 1, 3, .inr (.inl (fun _ => lO 0)))), (q68, .inl (cy 1, 3, .inr (.inl (fun _ => lO 0))))]) H := hP
  have hD : va_D A ([(h0, .inr (6, [.ref q7, .ref q15, .ref q24, .int (iO 0), .ref q32, .ref q40, .long (lO 0), .ref q47, .ref q54, .ref q61, .ref q68])), (q7, .inl (cy 1, 100, .inr (.inl (vp_updL (vp_updL (vp_updL (vp_updL (fun _ => lO 0) 0 ((lO 10))) 1 ((lO 60))) 2 ((lO 500))) 3 ((lO 2000)))))), (q15, .inl (cy 1, 100, .inr (.inl (fun _ => lO 0)))), (q24, .inl (cy 1, 400, .inr (.inl (fun _ => lO 0)))), (q32, .inl (cy 1, 9, .inr (.inl (fun _ => lO 0)))), (q40, .inl (cy 1, 9, .inr (.inl (fun _ => lO 0)))), (q47, .inl (cy 1, 3, .inr (.inl (fun _ => lO 0)))), (q54, .inl (cy 1, 3, .inr (.inl (fun _ => lO 0)))), (q61, .inl (cy 1, 3, .inr (.inl (fun _ => lO 0)))), (q68, .inl (cy 1, 3, .inr (.inl (fun _ => lO 0))))]) := hD
  refine lv_ldc2 (v := lO (100)) hx hb hown (hts (.constantLong RX6 49 (lO (100))) (by decide +kernel)) dX6_init_125 ?_
  refine va_last hx hb hK hP hD hS 1 1 rfl rfl (z_in (by decide)) dX6_init_128 (fun H locs hP hD hS => ?_)
  have hP : va_P D vwCl ([(h0, .inr (6, [.ref q7, .ref q15, .ref q24, .int (iO 0), .ref q32, .ref q40, .long (lO 0), .ref q47, .ref q54, .ref q61, .ref q68])), (q7, .inl (cy 1, 100, .inr (.inl (vp_updL (vp_updL (vp_updL (vp_updL (vp_updL (fun _ => lO 0) 0 ((lO 10))) 1 ((lO 60))) 2 ((lO 500))) 3 ((lO 2000))) 14 ((lO 100)))))), (q15, .inl (cy 1, 100, .inr (.inl (fun _ => lO 0)))), (q24, .inl (cy 1, 400, .inr (.inl (fun _ => lO 0)))), (q32, .inl (cy 1, 9, .inr (.inl (fun _ => lO 0)))), (q40, .inl (cy 1, 9, .inr (.inl (fun _ => lO 0)))), (q47, .inl (cy 1, 3, .inr (.inl (fun _ => lO 0)))), (q54, .inl (cy 1, 3, .inr (.inl (fun _ => lO 0)))), (q61, .inl (cy 1, 3, .inr (.inl (fun _ => lO 0)))), (q68, .inl (cy 1, 3, .inr (.inl (fun _ => lO 0))))]) H := hP
  have hD : va_D A ([(h0, .inr (6, [.ref q7, .ref q15, .ref q24, .int (iO 0), .ref q32, .ref q40, .long (lO 0), .ref q47, .ref q54, .ref q61, .ref q68])), (q7, .inl (cy 1, 100, .inr (.inl (vp_updL (vp_updL (vp_updL (vp_updL (vp_updL (fun _ => lO 0) 0 ((lO 10))) 1 ((lO 60))) 2 ((lO 500))) 3 ((lO 2000))) 14 ((lO 100)))))), (q15, .inl (cy 1, 100, .inr (.inl (fun _ => lO 0)))), (q24, .inl (cy 1, 400, .inr (.inl (fun _ => lO 0)))), (q32, .inl (cy 1, 9, .inr (.inl (fun _ => lO 0)))), (q40, .inl (cy 1, 9, .inr (.inl (fun _ => lO 0)))), (q47, .inl (cy 1, 3, .inr (.inl (fun _ => lO 0)))), (q54, .inl (cy 1, 3, .inr (.inl (fun _ => lO 0)))), (q61, .inl (cy 1, 3, .inr (.inl (fun _ => lO 0)))), (q68, .inl (cy 1, 3, .inr (.inl (fun _ => lO 0))))]) := hD
  refine lv_iinc (v := iO 1) (lv' := [(1, .int (iO 1)), (0, .ref h0)]) hx hb dX6_init_129 hl (k := 0) rfl (by decide) (by decide) rfl (fun ls hl => ?_)
  refine lv_goto (tgt := 111) hx hb dX6_init_132 (by decide) ?_
  refine lv_iload_n hx hb dX6_init_111 rfl (lv_at hl 0 rfl) ?_
  refine lv_iconst (v := iO 3) hx hb dX6_init_112 rfl ?_
  refine lv_icmp_ge (tgt := 135) hx hb dX6_init_113 (by decide) (fun c9 => absurd c9 (by decide)) (fun _ => ?_)
  refine lv_aload_n hx hb dX6_init_116 rfl (lv_at hl 1 rfl) ?_
  refine va_get (D := D) (ci := 6) (v := .ref q7) (C := RX6) (T := TX6) (N := 11) hx hb hts hinF hown hK hP 0 rfl rfl 0 (by decide) (hts (.fieldLink RX6 7 "WheelDeskModel" "v" "[J") (by decide +kernel)) (fun _ h9 => h9) rfl dX6_init_117 ?_
  refine lv_iload_n hx hb dX6_init_120 rfl (lv_at hl 0 rfl) ?_
  refine lv_iconst (v := iO 2) hx hb dX6_init_121 rfl ?_
  have hFc : ∀ q, va_A [] H.size q → A q := fun q h => by
    rcases h with ⟨k, e9, h⟩ | h
    · cases h
    · exact hA q (Nat.le_trans hS.1 h)
  refine va_calli (va_runS (As := [.int (iO 1), .int (iO 2)]) (rest := [.ref q7]) ⟨hx, hb, hml, hown, hts⟩ (c_axisAt0 l (iO 1) (iO 2) H.size) (va_cwS 2 hts gX6_init_X6_axisAt rfl rfl rfl (by decide +kernel) ⟨(Nat.le_of_ble_eq_true rfl), (Nat.le_of_ble_eq_true rfl)⟩) ⟨fun a9 U g9 mk q => q, fun U hU hW => ⟨rfl, congrArg Array.size hU⟩⟩ rfl rfl hl.1 rfl (lv_room (Nat.le_of_ble_eq_true rfl)) dX6_init_122 ⟨(Nat.le_of_ble_eq_true rfl), (Nat.le_of_ble_eq_true rfl)⟩) hS (fun q _ h => hFc q h) hFc (fun r9 u9 t H1 locs ht hvm hw hB hz1 hk1 hS => ?_)
  have hr9 : r9 = iO 22 := hw.trans (by decide)
  subst hr9
  obtain ⟨hP, hD⟩ := z_join (X := [(h0, .inr (6, [.ref q7, .ref q15, .ref q24, .int (iO 0), .ref q32, .ref q40, .long (lO 0), .ref q47, .ref q54, .ref q61, .ref q68])), (q7, .inl (cy 1, 100, .inr (.inl (vp_updL (vp_updL (vp_updL (vp_updL (vp_updL (fun _ => lO 0) 0 ((lO 10))) 1 ((lO 60))) 2 ((lO 500))) 3 ((lO 2000))) 14 ((lO 100)))))), (q15, .inl (cy 1, 100, .inr (.inl (fun _ => lO 0)))), (q24, .inl (cy 1, 400, .inr (.inl (fun _ => lO 0)))), (q32, .inl (cy 1, 9, .inr (.inl (fun _ => lO 0)))), (q40, .inl (cy 1, 9, .inr (.inl (fun _ => lO 0)))), (q47, .inl (cy 1, 3, .inr (.inl (fun _ => lO 0)))), (q54, .inl (cy 1, 3, .inr (.inl (fun _ => lO 0)))), (q61, .inl (cy 1, 3, .inr (.inl (fun _ => lO 0)))), (q68, .inl (cy 1, 3, .inr (.inl (fun _ => lO 0))))]) (wc := []) (w1 := []) hP hD hk1 hFc (fun k9 q9 h9 => nomatch h9) ⟨fun i9 j9 p9 q9 h9 => (nomatch h9), fun k9 q9 h9 => nomatch h9⟩
  clear hFc hk1 hz1
  generalize H1 = H at hP hS ⊢
  have hP : va_P D vwCl ([(h0, .inr (6, [.ref q7, .ref q15, .ref q24, .int (iO 0), .ref q32, .ref q40, .long (lO 0), .ref q47, .ref q54, .ref q61, .ref q68])), (q7, .inl (cy 1, 100, .inr (.inl (vp_updL (vp_updL (vp_updL (vp_updL (vp_updL (fun _ => lO 0) 0 ((lO 10))) 1 ((lO 60))) 2 ((lO 500))) 3 ((lO 2000))) 14 ((lO 100)))))), (q15, .inl (cy 1, 100, .inr (.inl (fun _ => lO 0)))), (q24, .inl (cy 1, 400, .inr (.inl (fun _ => lO 0)))), (q32, .inl (cy 1, 9, .inr (.inl (fun _ => lO 0)))), (q40, .inl (cy 1, 9, .inr (.inl (fun _ => lO 0)))), (q47, .inl (cy 1, 3, .inr (.inl (fun _ => lO 0)))), (q54, .inl (cy 1, 3, .inr (.inl (fun _ => lO 0)))), (q61, .inl (cy 1, 3, .inr (.inl (fun _ => lO 0)))), (q68, .inl (cy 1, 3, .inr (.inl (fun _ => lO 0))))]) H := hP
  have hD : va_D A ([(h0, .inr (6, [.ref q7, .ref q15, .ref q24, .int (iO 0), .ref q32, .ref q40, .long (lO 0), .ref q47, .ref q54, .ref q61, .ref q68])), (q7, .inl (cy 1, 100, .inr (.inl (vp_updL (vp_updL (vp_updL (vp_updL (vp_updL (fun _ => lO 0) 0 ((lO 10))) 1 ((lO 60))) 2 ((lO 500))) 3 ((lO 2000))) 14 ((lO 100)))))), (q15, .inl (cy 1, 100, .inr (.inl (fun _ => lO 0)))), (q24, .inl (cy 1, 400, .inr (.inl (fun _ => lO 0)))), (q32, .inl (cy 1, 9, .inr (.inl (fun _ => lO 0)))), (q40, .inl (cy 1, 9, .inr (.inl (fun _ => lO 0)))), (q47, .inl (cy 1, 3, .inr (.inl (fun _ => lO 0)))), (q54, .inl (cy 1, 3, .inr (.inl (fun _ => lO 0)))), (q61, .inl (cy 1, 3, .inr (.inl (fun _ => lO 0)))), (q68, .inl (cy 1, 3, .inr (.inl (fun _ => lO 0))))]) := hD
  refine lv_ldc2 (v := lO (100)) hx hb hown (hts (.constantLong RX6 49 (lO (100))) (by decide +kernel)) dX6_init_125 ?_
  refine va_last hx hb hK hP hD hS 1 1 rfl rfl (z_in (by decide)) dX6_init_128 (fun H locs hP hD hS => ?_)
  have hP : va_P D vwCl ([(h0, .inr (6, [.ref q7, .ref q15, .ref q24, .int (iO 0), .ref q32, .ref q40, .long (lO 0), .ref q47, .ref q54, .ref q61, .ref q68])), (q7, .inl (cy 1, 100, .inr (.inl (vp_updL (vp_updL (vp_updL (vp_updL (vp_updL (vp_updL (fun _ => lO 0) 0 ((lO 10))) 1 ((lO 60))) 2 ((lO 500))) 3 ((lO 2000))) 14 ((lO 100))) 22 ((lO 100)))))), (q15, .inl (cy 1, 100, .inr (.inl (fun _ => lO 0)))), (q24, .inl (cy 1, 400, .inr (.inl (fun _ => lO 0)))), (q32, .inl (cy 1, 9, .inr (.inl (fun _ => lO 0)))), (q40, .inl (cy 1, 9, .inr (.inl (fun _ => lO 0)))), (q47, .inl (cy 1, 3, .inr (.inl (fun _ => lO 0)))), (q54, .inl (cy 1, 3, .inr (.inl (fun _ => lO 0)))), (q61, .inl (cy 1, 3, .inr (.inl (fun _ => lO 0)))), (q68, .inl (cy 1, 3, .inr (.inl (fun _ => lO 0))))]) H := hP
  have hD : va_D A ([(h0, .inr (6, [.ref q7, .ref q15, .ref q24, .int (iO 0), .ref q32, .ref q40, .long (lO 0), .ref q47, .ref q54, .ref q61, .ref q68])), (q7, .inl (cy 1, 100, .inr (.inl (vp_updL (vp_updL (vp_updL (vp_updL (vp_updL (vp_updL (fun _ => lO 0) 0 ((lO 10))) 1 ((lO 60))) 2 ((lO 500))) 3 ((lO 2000))) 14 ((lO 100))) 22 ((lO 100)))))), (q15, .inl (cy 1, 100, .inr (.inl (fun _ => lO 0)))), (q24, .inl (cy 1, 400, .inr (.inl (fun _ => lO 0)))), (q32, .inl (cy 1, 9, .inr (.inl (fun _ => lO 0)))), (q40, .inl (cy 1, 9, .inr (.inl (fun _ => lO 0)))), (q47, .inl (cy 1, 3, .inr (.inl (fun _ => lO 0)))), (q54, .inl (cy 1, 3, .inr (.inl (fun _ => lO 0)))), (q61, .inl (cy 1, 3, .inr (.inl (fun _ => lO 0)))), (q68, .inl (cy 1, 3, .inr (.inl (fun _ => lO 0))))]) := hD
  refine lv_iinc (v := iO 2) (lv' := [(1, .int (iO 2)), (0, .ref h0)]) hx hb dX6_init_129 hl (k := 0) rfl (by decide) (by decide) rfl (fun ls hl => ?_)
  refine lv_goto (tgt := 111) hx hb dX6_init_132 (by decide) ?_
  refine lv_iload_n hx hb dX6_init_111 rfl (lv_at hl 0 rfl) ?_
  refine lv_iconst (v := iO 3) hx hb dX6_init_112 rfl ?_
  refine lv_icmp_ge (tgt := 135) hx hb dX6_init_113 (by decide) (fun c9 => absurd c9 (by decide)) (fun _ => ?_)
  refine lv_aload_n hx hb dX6_init_116 rfl (lv_at hl 1 rfl) ?_
  refine va_get (D := D) (ci := 6) (v := .ref q7) (C := RX6) (T := TX6) (N := 11) hx hb hts hinF hown hK hP 0 rfl rfl 0 (by decide) (hts (.fieldLink RX6 7 "WheelDeskModel" "v" "[J") (by decide +kernel)) (fun _ h9 => h9) rfl dX6_init_117 ?_
  refine lv_iload_n hx hb dX6_init_120 rfl (lv_at hl 0 rfl) ?_
  refine lv_iconst (v := iO 2) hx hb dX6_init_121 rfl ?_
  have hFc : ∀ q, va_A [] H.size q → A q := fun q h => by
    rcases h with ⟨k, e9, h⟩ | h
    · cases h
    · exact hA q (Nat.le_trans hS.1 h)
  refine va_calli (va_runS (As := [.int (iO 2), .int (iO 2)]) (rest := [.ref q7]) ⟨hx, hb, hml, hown, hts⟩ (c_axisAt0 l (iO 2) (iO 2) H.size) (va_cwS 2 hts gX6_init_X6_axisAt rfl rfl rfl (by decide +kernel) ⟨(Nat.le_of_ble_eq_true rfl), (Nat.le_of_ble_eq_true rfl)⟩) ⟨fun a9 U g9 mk q => q, fun U hU hW => ⟨rfl, congrArg Array.size hU⟩⟩ rfl rfl hl.1 rfl (lv_room (Nat.le_of_ble_eq_true rfl)) dX6_init_122 ⟨(Nat.le_of_ble_eq_true rfl), (Nat.le_of_ble_eq_true rfl)⟩) hS (fun q _ h => hFc q h) hFc (fun r9 u9 t H1 locs ht hvm hw hB hz1 hk1 hS => ?_)
  have hr9 : r9 = iO 30 := hw.trans (by decide)
  subst hr9
  obtain ⟨hP, hD⟩ := z_join (X := [(h0, .inr (6, [.ref q7, .ref q15, .ref q24, .int (iO 0), .ref q32, .ref q40, .long (lO 0), .ref q47, .ref q54, .ref q61, .ref q68])), (q7, .inl (cy 1, 100, .inr (.inl (vp_updL (vp_updL (vp_updL (vp_updL (vp_updL (vp_updL (fun _ => lO 0) 0 ((lO 10))) 1 ((lO 60))) 2 ((lO 500))) 3 ((lO 2000))) 14 ((lO 100))) 22 ((lO 100)))))), (q15, .inl (cy 1, 100, .inr (.inl (fun _ => lO 0)))), (q24, .inl (cy 1, 400, .inr (.inl (fun _ => lO 0)))), (q32, .inl (cy 1, 9, .inr (.inl (fun _ => lO 0)))), (q40, .inl (cy 1, 9, .inr (.inl (fun _ => lO 0)))), (q47, .inl (cy 1, 3, .inr (.inl (fun _ => lO 0)))), (q54, .inl (cy 1, 3, .inr (.inl (fun _ => lO 0)))), (q61, .inl (cy 1, 3, .inr (.inl (fun _ => lO 0)))), (q68, .inl (cy 1, 3, .inr (.inl (fun _ => lO 0))))]) (wc := []) (w1 := []) hP hD hk1 hFc (fun k9 q9 h9 => nomatch h9) ⟨fun i9 j9 p9 q9 h9 => (nomatch h9), fun k9 q9 h9 => nomatch h9⟩
  clear hFc hk1 hz1
  generalize H1 = H at hP hS ⊢
  have hP : va_P D vwCl ([(h0, .inr (6, [.ref q7, .ref q15, .ref q24, .int (iO 0), .ref q32, .ref q40, .long (lO 0), .ref q47, .ref q54, .ref q61, .ref q68])), (q7, .inl (cy 1, 100, .inr (.inl (vp_updL (vp_updL (vp_updL (vp_updL (vp_updL (vp_updL (fun _ => lO 0) 0 ((lO 10))) 1 ((lO 60))) 2 ((lO 500))) 3 ((lO 2000))) 14 ((lO 100))) 22 ((lO 100)))))), (q15, .inl (cy 1, 100, .inr (.inl (fun _ => lO 0)))), (q24, .inl (cy 1, 400, .inr (.inl (fun _ => lO 0)))), (q32, .inl (cy 1, 9, .inr (.inl (fun _ => lO 0)))), (q40, .inl (cy 1, 9, .inr (.inl (fun _ => lO 0)))), (q47, .inl (cy 1, 3, .inr (.inl (fun _ => lO 0)))), (q54, .inl (cy 1, 3, .inr (.inl (fun _ => lO 0)))), (q61, .inl (cy 1, 3, .inr (.inl (fun _ => lO 0)))), (q68, .inl (cy 1, 3, .inr (.inl (fun _ => lO 0))))]) H := hP
  have hD : va_D A ([(h0, .inr (6, [.ref q7, .ref q15, .ref q24, .int (iO 0), .ref q32, .ref q40, .long (lO 0), .ref q47, .ref q54, .ref q61, .ref q68])), (q7, .inl (cy 1, 100, .inr (.inl (vp_updL (vp_updL (vp_updL (vp_updL (vp_updL (vp_updL (fun _ => lO 0) 0 ((lO 10))) 1 ((lO 60))) 2 ((lO 500))) 3 ((lO 2000))) 14 ((lO 100))) 22 ((lO 100)))))), (q15, .inl (cy 1, 100, .inr (.inl (fun _ => lO 0)))), (q24, .inl (cy 1, 400, .inr (.inl (fun _ => lO 0)))), (q32, .inl (cy 1, 9, .inr (.inl (fun _ => lO 0)))), (q40, .inl (cy 1, 9, .inr (.inl (fun _ => lO 0)))), (q47, .inl (cy 1, 3, .inr (.inl (fun _ => lO 0)))), (q54, .inl (cy 1, 3, .inr (.inl (fun _ => lO 0)))), (q61, .inl (cy 1, 3, .inr (.inl (fun _ => lO 0)))), (q68, .inl (cy 1, 3, .inr (.inl (fun _ => lO 0))))]) := hD
  refine lv_ldc2 (v := lO (100)) hx hb hown (hts (.constantLong RX6 49 (lO (100))) (by decide +kernel)) dX6_init_125 ?_
  refine va_last hx hb hK hP hD hS 1 1 rfl rfl (z_in (by decide)) dX6_init_128 (fun H locs hP hD hS => ?_)
  have hP : va_P D vwCl ([(h0, .inr (6, [.ref q7, .ref q15, .ref q24, .int (iO 0), .ref q32, .ref q40, .long (lO 0), .ref q47, .ref q54, .ref q61, .ref q68])), (q7, .inl (cy 1, 100, .inr (.inl (vp_updL (vp_updL (vp_updL (vp_updL (vp_updL (vp_updL (vp_updL (fun _ => lO 0) 0 ((lO 10))) 1 ((lO 60))) 2 ((lO 500))) 3 ((lO 2000))) 14 ((lO 100))) 22 ((lO 100))) 30 ((lO 100)))))), (q15, .inl (cy 1, 100, .inr (.inl (fun _ => lO 0)))), (q24, .inl (cy 1, 400, .inr (.inl (fun _ => lO 0)))), (q32, .inl (cy 1, 9, .inr (.inl (fun _ => lO 0)))), (q40, .inl (cy 1, 9, .inr (.inl (fun _ => lO 0)))), (q47, .inl (cy 1, 3, .inr (.inl (fun _ => lO 0)))), (q54, .inl (cy 1, 3, .inr (.inl (fun _ => lO 0)))), (q61, .inl (cy 1, 3, .inr (.inl (fun _ => lO 0)))), (q68, .inl (cy 1, 3, .inr (.inl (fun _ => lO 0))))]) H := hP
  have hD : va_D A ([(h0, .inr (6, [.ref q7, .ref q15, .ref q24, .int (iO 0), .ref q32, .ref q40, .long (lO 0), .ref q47, .ref q54, .ref q61, .ref q68])), (q7, .inl (cy 1, 100, .inr (.inl (vp_updL (vp_updL (vp_updL (vp_updL (vp_updL (vp_updL (vp_updL (fun _ => lO 0) 0 ((lO 10))) 1 ((lO 60))) 2 ((lO 500))) 3 ((lO 2000))) 14 ((lO 100))) 22 ((lO 100))) 30 ((lO 100)))))), (q15, .inl (cy 1, 100, .inr (.inl (fun _ => lO 0)))), (q24, .inl (cy 1, 400, .inr (.inl (fun _ => lO 0)))), (q32, .inl (cy 1, 9, .inr (.inl (fun _ => lO 0)))), (q40, .inl (cy 1, 9, .inr (.inl (fun _ => lO 0)))), (q47, .inl (cy 1, 3, .inr (.inl (fun _ => lO 0)))), (q54, .inl (cy 1, 3, .inr (.inl (fun _ => lO 0)))), (q61, .inl (cy 1, 3, .inr (.inl (fun _ => lO 0)))), (q68, .inl (cy 1, 3, .inr (.inl (fun _ => lO 0))))]) := hD
  refine lv_iinc (v := iO 3) (lv' := [(1, .int (iO 3)), (0, .ref h0)]) hx hb dX6_init_129 hl (k := 0) rfl (by decide) (by decide) rfl (fun ls hl => ?_)
  refine lv_goto (tgt := 111) hx hb dX6_init_132 (by decide) ?_
  refine lv_iload_n hx hb dX6_init_111 rfl (lv_at hl 0 rfl) ?_
  refine lv_iconst (v := iO 3) hx hb dX6_init_112 rfl ?_
  refine lv_icmp_ge (tgt := 135) hx hb dX6_init_113 (by decide) (fun _ => ?_) (fun c9 => absurd (by decide) c9)
  refine lv_aload_n hx hb dX6_init_135 rfl (lv_at hl 1 rfl) ?_
  refine lv_lconst (v := lO 0) hx hb dX6_init_136 rfl ?_
  refine lv_ldc2 (v := lO (-2000009)) hx hb hown (hts (.constantLong RX6 51 (lO (-2000009))) (by decide +kernel)) dX6_init_137 ?_
  refine lv_ldc2 (v := lO (-2000009)) hx hb hown (hts (.constantLong RX6 51 (lO (-2000009))) (by decide +kernel)) dX6_init_140 ?_
  have hPc : va_P D vwCl [(h0, .inr (6, [.ref q7, .ref q15, .ref q24, .int (iO 0), .ref q32, .ref q40, .long (lO 0), .ref q47, .ref q54, .ref q61, .ref q68])), (q7, .inl (cy 1, 100, .inr (.inl (vp_updL (vp_updL (vp_updL (vp_updL (vp_updL (vp_updL (vp_updL (fun _ => lO 0) 0 ((lO 10))) 1 ((lO 60))) 2 ((lO 500))) 3 ((lO 2000))) 14 ((lO 100))) 22 ((lO 100))) 30 ((lO 100))))))] H := hP.sub [0, 1] rfl
  have hDc : va_D (fun _ => True) [(h0, .inr (6, [.ref q7, .ref q15, .ref q24, .int (iO 0), .ref q32, .ref q40, .long (lO 0), .ref q47, .ref q54, .ref q61, .ref q68])), (q7, .inl (cy 1, 100, .inr (.inl (vp_updL (vp_updL (vp_updL (vp_updL (vp_updL (vp_updL (vp_updL (fun _ => lO 0) 0 ((lO 10))) 1 ((lO 60))) 2 ((lO 500))) 3 ((lO 2000))) 14 ((lO 100))) 22 ((lO 100))) 30 ((lO 100))))))] := (hD.sub (ws' := [(h0, .inr (6, [.ref q7, .ref q15, .ref q24, .int (iO 0), .ref q32, .ref q40, .long (lO 0), .ref q47, .ref q54, .ref q61, .ref q68])), (q7, .inl (cy 1, 100, .inr (.inl (vp_updL (vp_updL (vp_updL (vp_updL (vp_updL (vp_updL (vp_updL (fun _ => lO 0) 0 ((lO 10))) 1 ((lO 60))) 2 ((lO 500))) 3 ((lO 2000))) 14 ((lO 100))) 22 ((lO 100))) 30 ((lO 100))))))]) [0, 1] (by decide) rfl).weaken (fun _ _ _ _ => trivial)
  have hFc := va_free (wc := [(h0, .inr (6, [.ref q7, .ref q15, .ref q24, .int (iO 0), .ref q32, .ref q40, .long (lO 0), .ref q47, .ref q54, .ref q61, .ref q68])), (q7, .inl (cy 1, 100, .inr (.inl (vp_updL (vp_updL (vp_updL (vp_updL (vp_updL (vp_updL (vp_updL (fun _ => lO 0) 0 ((lO 10))) 1 ((lO 60))) 2 ((lO 500))) 3 ((lO 2000))) 14 ((lO 100))) 22 ((lO 100))) 30 ((lO 100))))))]) hD hS hA [0, 1] rfl
  refine va_callv (va_runV (As := [.long (lO 0), .long (lO (-2000009)), .long (lO (-2000009))]) (rest := []) (C := RX6) ⟨hx, hb, hml, hown, hts⟩ (c_reasons0 l D cy h0 q7 [.ref q15, .ref q24, .int (iO 0), .ref q32, .ref q40, .long (lO 0), .ref q47, .ref q54, .ref q61, .ref q68] (vp_updL (vp_updL (vp_updL (vp_updL (vp_updL (vp_updL (vp_updL (fun _ => lO 0) 0 ((lO 10))) 1 ((lO 60))) 2 ((lO 500))) 3 ((lO 2000))) 14 ((lO 100))) 22 ((lO 100))) 30 ((lO 100))) (lO 0) (lO (-2000009)) (lO (-2000009)) H.size) (cwV 3 hts gX6_init_X6_reasons rfl rfl rfl (by decide +kernel) ⟨(Nat.le_of_ble_eq_true rfl), (Nat.le_of_ble_eq_true rfl)⟩) ⟨fun a9 U g9 mk q => by obtain ⟨q0, q1, qP, qK, qD⟩ := q; exact ⟨q0, q1, qP, va_K.moved (u := U) (U := U.calling g9 mk a9) (Vm.Alike.refl U.vm) qK, qD⟩, va_recv hK hPc (ci := 6) (q0 := 0) rfl rfl, fun U hU hW => ⟨rfl, by rw [hU], by rw [hU]; exact hPc, va_K.moved hW.alike hK, hDc⟩⟩ rfl rfl hl.1 rfl (lv_room (Nat.le_of_ble_eq_true rfl)) dX6_init_143 ⟨(Nat.le_of_ble_eq_true rfl), (Nat.le_of_ble_eq_true rfl)⟩) hS (fun q _ h => hFc q h) hFc (fun u9 t H1 locs ht hvm hw hB hz1 hk1 hS => ?_)
  obtain ⟨hP1, hD1⟩ := hB
  rw [ht] at hP1
  obtain ⟨hP, hD⟩ := va_join (wr := [(q15, .inl (cy 1, 100, .inr (.inl (fun _ => lO 0)))), (q24, .inl (cy 1, 400, .inr (.inl (fun _ => lO 0)))), (q32, .inl (cy 1, 9, .inr (.inl (fun _ => lO 0)))), (q40, .inl (cy 1, 9, .inr (.inl (fun _ => lO 0)))), (q47, .inl (cy 1, 3, .inr (.inl (fun _ => lO 0)))), (q54, .inl (cy 1, 3, .inr (.inl (fun _ => lO 0)))), (q61, .inl (cy 1, 3, .inr (.inl (fun _ => lO 0)))), (q68, .inl (cy 1, 3, .inr (.inl (fun _ => lO 0))))]) hP hD [0, 1] [2, 3, 4, 5, 6, 7, 8, 9] rfl rfl (by decide) (by decide) hk1 hFc hP1 hD1
  clear hPc hDc hFc hP1 hD1 hk1 hz1
  generalize H1 = H at hP hS ⊢
  have hP : va_P D vwCl ([(q15, .inl (cy 1, 100, .inr (.inl (fun _ => lO 0)))), (q24, .inl (cy 1, 400, .inr (.inl (fun _ => lO 0)))), (q32, .inl (cy 1, 9, .inr (.inl (fun _ => lO 0)))), (q40, .inl (cy 1, 9, .inr (.inl (fun _ => lO 0)))), (q47, .inl (cy 1, 3, .inr (.inl (fun _ => lO 0)))), (q54, .inl (cy 1, 3, .inr (.inl (fun _ => lO 0)))), (q61, .inl (cy 1, 3, .inr (.inl (fun _ => lO 0)))), (q68, .inl (cy 1, 3, .inr (.inl (fun _ => lO 0)))), (h0, .inr (6, [.ref q7, .ref q15, .ref q24, .int (iO 0), .ref q32, .ref q40, .long (lO 0), .ref q47, .ref q54, .ref q61, .ref q68])), (q7, .inl (cy 1, 100, .inr (.inl (vp_updL (vp_updL (vp_updL (vp_updL (vp_updL (vp_updL (vp_updL (vp_updL (vp_updL (vp_updL (fun _ => lO 0) 0 ((lO 10))) 1 ((lO 60))) 2 ((lO 500))) 3 ((lO 2000))) 14 ((lO 100))) 22 ((lO 100))) 30 ((lO 100))) 8 (lO 0)) 9 (lO (-2000009))) 10 (lO (-2000009))))))]) H := hP
  have hD : va_D A ([(q15, .inl (cy 1, 100, .inr (.inl (fun _ => lO 0)))), (q24, .inl (cy 1, 400, .inr (.inl (fun _ => lO 0)))), (q32, .inl (cy 1, 9, .inr (.inl (fun _ => lO 0)))), (q40, .inl (cy 1, 9, .inr (.inl (fun _ => lO 0)))), (q47, .inl (cy 1, 3, .inr (.inl (fun _ => lO 0)))), (q54, .inl (cy 1, 3, .inr (.inl (fun _ => lO 0)))), (q61, .inl (cy 1, 3, .inr (.inl (fun _ => lO 0)))), (q68, .inl (cy 1, 3, .inr (.inl (fun _ => lO 0)))), (h0, .inr (6, [.ref q7, .ref q15, .ref q24, .int (iO 0), .ref q32, .ref q40, .long (lO 0), .ref q47, .ref q54, .ref q61, .ref q68])), (q7, .inl (cy 1, 100, .inr (.inl (vp_updL (vp_updL (vp_updL (vp_updL (vp_updL (vp_updL (vp_updL (vp_updL (vp_updL (vp_updL (fun _ => lO 0) 0 ((lO 10))) 1 ((lO 60))) 2 ((lO 500))) 3 ((lO 2000))) 14 ((lO 100))) 22 ((lO 100))) 30 ((lO 100))) 8 (lO 0)) 9 (lO (-2000009))) 10 (lO (-2000009))))))]) := hD
  refine W.widen (k := 9) (n := 630) (Nat.le_of_ble_eq_true rfl) (Nat.le_of_ble_eq_true rfl) ?_
  have key := ze_X6 hP hD
  obtain ⟨u, hu, hP9, hD9⟩ := key
  exact W.vret hx hb hr (fun t ht hW => ⟨⟨u, rfl, trivial, hu, by rw [ht]; exact hP9, hD9⟩, hS.F ht⟩) hS.2.2 dX6_init_146
