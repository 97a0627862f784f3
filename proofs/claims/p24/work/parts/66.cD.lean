set_option maxRecDepth 100000 in
set_option maxHeartbeats 4000000 in
theorem ze_X1 {D : va_G} {cy : Nat → ClassId} {A : Nat → Prop} {H : Heap} {h0 q6 : Nat} {u24_1 u24_2 u24_3 u24_4 : q_A} (hP : va_P D vwCl ((h0, .inr (1, [.ref q6, .int (iO 0)])) :: (q6, .inl (cy 4, 4, .inr (.inr (.inr (.inr (va_up (va_up (va_up (va_up (fun _ => none) 0 (some (u24_1 2 0 0))) 1 (some (u24_2 3 0 0))) 2 (some (u24_3 4 0 0))) 3 (some (u24_4 5 0 0)))))))) :: ((((zz_W cy u24_1 (zc_RL 2)) ++ zz_W cy u24_2 (zc_RL 3)) ++ zz_W cy u24_3 (zc_RL 4)) ++ zz_W cy u24_4 (zc_RL 5))) H) (hD : va_D A ((h0, .inr (1, [.ref q6, .int (iO 0)])) :: (q6, .inl (cy 4, 4, .inr (.inr (.inr (.inr (va_up (va_up (va_up (va_up (fun _ => none) 0 (some (u24_1 2 0 0))) 1 (some (u24_2 3 0 0))) 2 (some (u24_3 4 0 0))) 3 (some (u24_4 5 0 0)))))))) :: ((((zz_W cy u24_1 (zc_RL 2)) ++ zz_W cy u24_2 (zc_RL 3)) ++ zz_W cy u24_3 (zc_RL 4)) ++ zz_W cy u24_4 (zc_RL 5)))) : ∃ u : q_A, u 0 21 0 = h0 ∧ va_P D vwCl (zz_W cy u zh_RL) H ∧ va_D A (zz_W cy u zh_RL) := by
  obtain ⟨u, hu⟩ : ∃ u : q_A, u = (fun (c : Int) (p : Nat) (k : Int) => if p ≤ 11 then (if c = 2 then u24_1 c p k else if c = 3 then u24_2 c p k else if c = 4 then u24_3 c p k else u24_4 c p k) else if p = 21 then h0 else q6) := ⟨_, rfl⟩
  have e2 : zz_W cy u (zc_RL 2) = zz_W cy u24_1 (zc_RL 2) := zz_cg (fun p k hp => by
    rw [hu]
    (try dsimp only)
    rw [if_pos hp, if_pos rfl])
  have e3 : zz_W cy u (zc_RL 3) = zz_W cy u24_2 (zc_RL 3) := zz_cg (fun p k hp => by
    rw [hu]
    (try dsimp only)
    rw [if_pos hp, if_neg (by decide), if_pos rfl])
  have e4 : zz_W cy u (zc_RL 4) = zz_W cy u24_3 (zc_RL 4) := zz_cg (fun p k hp => by
    rw [hu]
    (try dsimp only)
    rw [if_pos hp, if_neg (by decide), if_neg (by decide), if_pos rfl])
  have e5 : zz_W cy u (zc_RL 5) = zz_W cy u24_4 (zc_RL 5) := zz_cg (fun p k hp => by
    rw [hu]
    (try dsimp only)
    rw [if_pos hp, if_neg (by decide), if_neg (by decide), if_neg (by decide)])
  have eb : zz_W cy u (((zc_RL 2 ++ zc_RL 3) ++ zc_RL 4) ++ zc_RL 5) = (((zz_W cy u24_1 (zc_RL 2)) ++ zz_W cy u24_2 (zc_RL 3)) ++ zz_W cy u24_3 (zc_RL 4)) ++ zz_W cy u24_4 (zc_RL 5) := by rw [zz_app, zz_app, zz_app, e2, e3, e4, e5]
  have eW : zz_W cy u zh_RL = (u 0 21 0, q_shp cy u (0, 21, 0) (z_s0 0 21 0)) :: (u 0 22 0, q_shp cy u (0, 22, 0) (z_s0 0 22 0)) :: ((((zz_W cy u24_1 (zc_RL 2)) ++ zz_W cy u24_2 (zc_RL 3)) ++ zz_W cy u24_3 (zc_RL 4)) ++ zz_W cy u24_4 (zc_RL 5)) := by
    rw [← eb]
    rfl
  refine ⟨u, by rw [hu]; rfl, ?_, ?_⟩
  · rw [eW]
    intro k x hx
    match k, hx with
    | 0, hx =>
      have e9 := Option.some.inj hx
      subst e9
      rw [hu]
      exact hP 0 _ rfl
    | 1, hx =>
      have e9 := Option.some.inj hx
      subst e9
      rw [hu]
      show H[_]? = some (vp_cell _ _)
      refine Eq.trans (show H[_]? = some (vp_cell _ _) from hP 1 _ rfl) (congrArg some ?_)
      exact z_arr_q (fun j hj => by
        match j, hj with
        | 0, _ => rfl
        | 1, _ => rfl
        | 2, _ => rfl
        | 3, _ => rfl)
    | k + 2, hx => exact hP (k + 2) x hx
  · rw [eW]
    refine z_Dsame ?_ hD
    rw [hu]
    rfl
set_option maxHeartbeats 4000000 in
set_option maxRecDepth 100000 in
theorem c_X1_init (l : Launch) (D : va_G) (cy : Nat → ClassId) (h0 sz : Nat) : Met l yX1_init wsX1_init ({ frames := 3, cells := 101, slots := 432, locals := 53 }) (va_Pc [.ref h0] (z_B D cy sz [(h0, .inr (1, [.null, .int (iO 0)]))])) (va_Qv (fun _ : q_A => True) (fun u t => u 0 21 0 = h0 ∧ va_P D vwCl (zz_W cy u zh_RL) t.heap ∧ va_D (va_A [(h0, .inr (1, [.null, .int (iO 0)]))] sz) (zz_W cy u zh_RL)) (va_A [(h0, .inr (1, [.null, .int (iO 0)]))] sz)) 101 432 (va_A [(h0, .inr (1, [.null, .int (iO 0)]))] sz) := by
  refine Met.ofW (cc := cX1_init) (maxL := 2) (ret := none) (by decide) rfl ?_
  intro p e s m args below meth c0 s₁ B hml hv
  obtain ⟨rfl, hsz, hP, hK, hD0, hN, hO⟩ := hv
  have hx := B.exec
  have hb := B.bytes
  have hr := B.returns
  have hts := atoms_spec (ws := wsX1_init) B.pre
  have hown : s.vm.findClass RX1 = some m.cls := findClass_of_methodNamed B.named
  have hlocks := B.notSynchronized
  have hin : meth.name = "<init>" := (name_of_methodNamed B.named B.method).1
  have hinF : ∀ w ∈ u_ws RX1 TX1 2, w ∈ wsX1_init := by decide +kernel
  have hinX0 : ∀ w ∈ u_ws RX0 TX0 11, w ∈ wsX1_init := by decide +kernel
  subst hsz
  have hD := hD0.self (sz := s.heap.size)
  generalize hAe : va_A [(h0, .inr (1, [.null, .int (iO 0)]))] s.heap.size = A at hD ⊢
  have hA : ∀ q : Nat, s.heap.size ≤ q → A q := fun q h => by rw [← hAe]; exact Or.inr h
  have hS : va_S A s.heap s.heap [] := va_S.rf
  have hP : va_P D vwCl [(h0, .inr (1, [.null, .int (iO 0)]))] s.heap := hP
  have hl := lv_entry ([.ref h0]) (n := 2) (Nat.le_of_ble_eq_true rfl)
  rw [lg_entry_eq]
  generalize (lg_sl ([.ref h0]) ++ List.replicate (2 - (lg_sl ([.ref h0])).length) Slot.unset).toArray = ls at hl ⊢
  have hl : lv_has ls 2 [(0, .ref h0)] := hl
  refine lv_aload_n hx hb dX1_init_0 rfl (lv_at hl 0 rfl) ?_
  refine W.objInit hx hb hown (hts (.methodLink RX1 3 objectInit) (by decide +kernel)) (hts (.instanceMethod objectInit) (by decide +kernel)) (hts _ (List.mem_of_getElem? (i := 3) rfl)) rfl (by rw [hml]; exact hl.1) rfl dX1_init_1 (Nat.le_of_ble_eq_true rfl) (Nat.le_of_ble_eq_true rfl) ?_
  refine W.eq (g2 := F0 m 4 ls []) rfl ?_
  refine lv_aload_n hx hb dX1_init_4 rfl (lv_at hl 0 rfl) ?_
  refine lv_iconst (v := iO 4) hx hb dX1_init_5 rfl ?_
  refine z_newq (N' := 4) hx hb hown (hts (.classLink RX1 9 RX0) (by decide +kernel)) hO.2.1 hK 4 rfl hP hD hS hA (by decide) (by decide) (Nat.le_of_ble_eq_true rfl) (Nat.le_of_ble_eq_true rfl) (Nat.le_of_ble_eq_true rfl) dX1_init_6 (fun q6 H hP hD hS => ?_)
  have hP : va_P D vwCl ([(h0, .inr (1, [.null, .int (iO 0)])), (q6, .inl (cy 4, 4, .inr (.inr (.inr (.inr (fun _ => none))))))]) H := hP
  have hD : va_D A ([(h0, .inr (1, [.null, .int (iO 0)])), (q6, .inl (cy 4, 4, .inr (.inr (.inr (.inr (fun _ => none))))))]) := hD
  refine va_putF (D := D) (ci := 1) (v := .ref q6) (ty := .array (.object "WheelDesk$Craft")) (C := RX1) (T := TX1) (N := 2) hx hb hts hinF tyX1 tyX1_ok nmX1 hown hK hP hD hS 0 rfl rfl 0 (by decide) (hts (.fieldLink RX1 11 "WheelDesk$History" "states" "[LWheelDesk$Craft;") (by decide +kernel)) (fun _ h9 => h9) rfl hin rfl (by decide +kernel) rfl rfl (Nat.le_of_ble_eq_true rfl) dX1_init_9 (fun H locs hP hD hS => ?_)
  have hP : va_P D vwCl ([(h0, .inr (1, [.ref q6, .int (iO 0)])), (q6, .inl (cy 4, 4, .inr (.inr (.inr (.inr (fun _ => none))))))]) H := hP
  have hD : va_D A ([(h0, .inr (1, [.ref q6, .int (iO 0)])), (q6, .inl (cy 4, 4, .inr (.inr (.inr (.inr (fun _ => none))))))]) := hD
  refine lv_iconst (v := iO 0) hx hb dX1_init_12 rfl ?_
  refine lv_istore_n (lv' := [(1, .int (iO 0)), (0, .ref h0)]) hx hb dX1_init_13 rfl hl (by decide) rfl (fun ls hl => ?_)
  refine lv_iload_n hx hb dX1_init_14 rfl (lv_at hl 0 rfl) ?_
  refine lv_iconst (v := iO 4) hx hb dX1_init_15 rfl ?_
  refine lv_icmp_ge (tgt := 38) hx hb dX1_init_16 (by decide) (fun c9 => absurd c9 (by decide)) (fun _ => ?_)
  refine lv_aload_n hx hb dX1_init_19 rfl (lv_at hl 1 rfl) ?_
  refine va_get (D := D) (ci := 1) (v := .ref q6) (C := RX1) (T := TX1) (N := 2) hx hb hts hinF hown hK hP 0 rfl rfl 0 (by decide) (hts (.fieldLink RX1 11 "WheelDesk$History" "states" "[LWheelDesk$Craft;") (by decide +kernel)) (fun _ h9 => h9) rfl dX1_init_20 ?_
  refine lv_iload_n hx hb dX1_init_23 rfl (lv_at hl 0 rfl) ?_
  refine va_new (ci := 0) (fs := [.int (iO 0), .null, .null, .null, .null, .null, .null, .null, .int (iO 0), .null, .int (iO 0)]) (C := RX0) (T := TX0) (N := 11) hx hb hts hinX0 tyX0 tyX0_ok hown (hts (.classLink RX1 9 RX0) (by decide +kernel)) (hts (.instantiable RX0 11) (by decide +kernel)) (hts (.initialized RX0) (by decide +kernel)) hK hP hD hS hA rfl (fun j hj => by rcases (show j = 0 ∨ j = 1 ∨ j = 2 ∨ j = 3 ∨ j = 4 ∨ j = 5 ∨ j = 6 ∨ j = 7 ∨ j = 8 ∨ j = 9 ∨ j = 10 by omega) with rfl | rfl | rfl | rfl | rfl | rfl | rfl | rfl | rfl | rfl | rfl <;> rfl) (Nat.le_of_ble_eq_true rfl) (Nat.le_of_ble_eq_true rfl) dX1_init_24 (fun q24_1 H hP hD hS => ?_)
  have hP : va_P D vwCl (([(h0, .inr (1, [.ref q6, .int (iO 0)])), (q6, .inl (cy 4, 4, .inr (.inr (.inr (.inr (fun _ => none))))))]) ++ [(q24_1, .inr (0, [.int (iO 0), .null, .null, .null, .null, .null, .null, .null, .int (iO 0), .null, .int (iO 0)]))]) H := hP
  have hD : va_D A (([(h0, .inr (1, [.ref q6, .int (iO 0)])), (q6, .inl (cy 4, 4, .inr (.inr (.inr (.inr (fun _ => none))))))]) ++ [(q24_1, .inr (0, [.int (iO 0), .null, .null, .null, .null, .null, .null, .null, .int (iO 0), .null, .int (iO 0)]))]) := hD
  refine lv_dup hx hb dX1_init_27 rfl ?_
  have hPc : va_P D vwCl [(q24_1, .inr (0, [.int (iO 0), .null, .null, .null, .null, .null, .null, .null, .int (iO 0), .null, .int (iO 0)]))] H := z_cut (X := [(h0, .inr (1, [.ref q6, .int (iO 0)])), (q6, .inl (cy 4, 4, .inr (.inr (.inr (.inr (fun _ => none))))))]) hP
  have hDc : va_D (fun _ => True) [(q24_1, .inr (0, [.int (iO 0), .null, .null, .null, .null, .null, .null, .null, .int (iO 0), .null, .int (iO 0)]))] := (z_cutD (X := [(h0, .inr (1, [.ref q6, .int (iO 0)])), (q6, .inl (cy 4, 4, .inr (.inr (.inr (.inr (fun _ => none))))))]) hD).weaken (fun _ _ _ _ => trivial)
  have hFc := z_free (X := [(h0, .inr (1, [.ref q6, .int (iO 0)])), (q6, .inl (cy 4, 4, .inr (.inr (.inr (.inr (fun _ => none))))))]) (wc := [(q24_1, .inr (0, [.int (iO 0), .null, .null, .null, .null, .null, .null, .null, .int (iO 0), .null, .int (iO 0)]))]) hD hS hA
  refine va_callv (va_runI (As := []) (rest := [.ref q24_1, .int (iO 0), .ref q6]) ⟨hx, hb, hml, hown, hts⟩ (c_X0_init l D cy 2 q24_1 H.size) (cwI 0 hts gX1_init_X0_init rfl rfl rfl (hts (.initialized RX0) (by decide +kernel)) (hts (.methodLink RX1 17 yX0_init) (by decide +kernel)) (hts (.instanceMethod yX0_init) (by decide +kernel)) rfl (by decide +kernel) ⟨(Nat.le_of_ble_eq_true rfl), (Nat.le_of_ble_eq_true rfl)⟩) ⟨z_blind, fun U hU hW => ⟨rfl, by rw [hU], by rw [hU]; exact hPc, va_K.moved hW.alike hK, hDc, q_N.warm hW hN, hO.moved hW.alike⟩⟩ rfl rfl hl.1 rfl (lv_room (Nat.le_of_ble_eq_true rfl)) dX1_init_28 ⟨(Nat.le_of_ble_eq_true rfl), (Nat.le_of_ble_eq_true rfl)⟩) hS (fun q _ h => hFc q h) hFc (fun u24_1 t H1 locs ht hvm hw hB hz1 hk1 hS => ?_)
  obtain ⟨he1, hP1, hD1⟩ := hB
  rw [ht] at hP1
  obtain ⟨hPz, hDz⟩ := z_join (X := [(h0, .inr (1, [.ref q6, .int (iO 0)])), (q6, .inl (cy 4, 4, .inr (.inr (.inr (.inr (fun _ => none))))))]) (wc := [(q24_1, .inr (0, [.int (iO 0), .null, .null, .null, .null, .null, .null, .null, .int (iO 0), .null, .int (iO 0)]))]) (w1 := zz_W cy u24_1 (zc_RL 2)) hP hD hk1 hFc hP1 hD1
  clear hPc hDc hFc hP1 hD1 hk1 hz1
  generalize H1 = H at hPz hS ⊢
  subst he1
  have hP := hPz
  have hD := hDz
  have hP : va_P D vwCl ((h0, .inr (1, [.ref q6, .int (iO 0)])) :: (q6, .inl (cy 4, 4, .inr (.inr (.inr (.inr (fun _ => none)))))) :: (zz_W cy u24_1 (zc_RL 2))) H := hP
  have hD : va_D A ((h0, .inr (1, [.ref q6, .int (iO 0)])) :: (q6, .inl (cy 4, 4, .inr (.inr (.inr (.inr (fun _ => none)))))) :: (zz_W cy u24_1 (zc_RL 2))) := hD
  refine va_astq (r := (RX0, TX0, 11)) hx hb hK hP hD hS 1 4 2 0 rfl rfl rfl rfl (z_in (by decide)) dX1_init_31 (fun H locs hP hD hS => ?_)
  have hP : va_P D vwCl ((h0, .inr (1, [.ref q6, .int (iO 0)])) :: (q6, .inl (cy 4, 4, .inr (.inr (.inr (.inr (va_up (fun _ => none) 0 (some (u24_1 2 0 0)))))))) :: (zz_W cy u24_1 (zc_RL 2))) H := hP
  have hD : va_D A ((h0, .inr (1, [.ref q6, .int (iO 0)])) :: (q6, .inl (cy 4, 4, .inr (.inr (.inr (.inr (va_up (fun _ => none) 0 (some (u24_1 2 0 0)))))))) :: (zz_W cy u24_1 (zc_RL 2))) := hD
  refine lv_iinc (v := iO 1) (lv' := [(1, .int (iO 1)), (0, .ref h0)]) hx hb dX1_init_32 hl (k := 0) rfl (by decide) (by decide) rfl (fun ls hl => ?_)
  refine lv_goto (tgt := 14) hx hb dX1_init_35 (by decide) ?_
  refine lv_iload_n hx hb dX1_init_14 rfl (lv_at hl 0 rfl) ?_
  refine lv_iconst (v := iO 4) hx hb dX1_init_15 rfl ?_
  refine lv_icmp_ge (tgt := 38) hx hb dX1_init_16 (by decide) (fun c9 => absurd c9 (by decide)) (fun _ => ?_)
  refine lv_aload_n hx hb dX1_init_19 rfl (lv_at hl 1 rfl) ?_
  refine va_get (D := D) (ci := 1) (v := .ref q6) (C := RX1) (T := TX1) (N := 2) hx hb hts hinF hown hK hP 0 rfl rfl 0 (by decide) (hts (.fieldLink RX1 11 "WheelDesk$History" "states" "[LWheelDesk$Craft;") (by decide +kernel)) (fun _ h9 => h9) rfl dX1_init_20 ?_
  refine lv_iload_n hx hb dX1_init_23 rfl (lv_at hl 0 rfl) ?_
  refine va_new (ci := 0) (fs := [.int (iO 0), .null, .null, .null, .null, .null, .null, .null, .int (iO 0), .null, .int (iO 0)]) (C := RX0) (T := TX0) (N := 11) hx hb hts hinX0 tyX0 tyX0_ok hown (hts (.classLink RX1 9 RX0) (by decide +kernel)) (hts (.instantiable RX0 11) (by decide +kernel)) (hts (.initialized RX0) (by decide +kernel)) hK hP hD hS hA rfl (fun j hj => by rcases (show j = 0 ∨ j = 1 ∨ j = 2 ∨ j = 3 ∨ j = 4 ∨ j = 5 ∨ j = 6 ∨ j = 7 ∨ j = 8 ∨ j = 9 ∨ j = 10 by omega) with rfl | rfl | rfl | rfl | rfl | rfl | rfl | rfl | rfl | rfl | rfl <;> rfl) (Nat.le_of_ble_eq_true rfl) (Nat.le_of_ble_eq_true rfl) dX1_init_24 (fun q24_2 H hP hD hS => ?_)
  have hP : va_P D vwCl (((h0, .inr (1, [.ref q6, .int (iO 0)])) :: (q6, .inl (cy 4, 4, .inr (.inr (.inr (.inr (va_up (fun _ => none) 0 (some (u24_1 2 0 0)))))))) :: (zz_W cy u24_1 (zc_RL 2))) ++ [(q24_2, .inr (0, [.int (iO 0), .null, .null, .null, .null, .null, .null, .null, .int (iO 0), .null, .int (iO 0)]))]) H := hP
  have hD : va_D A (((h0, .inr (1, [.ref q6, .int (iO 0)])) :: (q6, .inl (cy 4, 4, .inr (.inr (.inr (.inr (va_up (fun _ => none) 0 (some (u24_1 2 0 0)))))))) :: (zz_W cy u24_1 (zc_RL 2))) ++ [(q24_2, .inr (0, [.int (iO 0), .null, .null, .null, .null, .null, .null, .null, .int (iO 0), .null, .int (iO 0)]))]) := hD
  refine lv_dup hx hb dX1_init_27 rfl ?_
  have hPc : va_P D vwCl [(q24_2, .inr (0, [.int (iO 0), .null, .null, .null, .null, .null, .null, .null, .int (iO 0), .null, .int (iO 0)]))] H := z_cut (X := (h0, .inr (1, [.ref q6, .int (iO 0)])) :: (q6, .inl (cy 4, 4, .inr (.inr (.inr (.inr (va_up (fun _ => none) 0 (some (u24_1 2 0 0)))))))) :: (zz_W cy u24_1 (zc_RL 2))) hP
  have hDc : va_D (fun _ => True) [(q24_2, .inr (0, [.int (iO 0), .null, .null, .null, .null, .null, .null, .null, .int (iO 0), .null, .int (iO 0)]))] := (z_cutD (X := (h0, .inr (1, [.ref q6, .int (iO 0)])) :: (q6, .inl (cy 4, 4, .inr (.inr (.inr (.inr (va_up (fun _ => none) 0 (some (u24_1 2 0 0)))))))) :: (zz_W cy u24_1 (zc_RL 2))) hD).weaken (fun _ _ _ _ => trivial)
  have hFc := z_free (X := (h0, .inr (1, [.ref q6, .int (iO 0)])) :: (q6, .inl (cy 4, 4, .inr (.inr (.inr (.inr (va_up (fun _ => none) 0 (some (u24_1 2 0 0)))))))) :: (zz_W cy u24_1 (zc_RL 2))) (wc := [(q24_2, .inr (0, [.int (iO 0), .null, .null, .null, .null, .null, .null, .null, .int (iO 0), .null, .int (iO 0)]))]) hD hS hA
  refine va_callv (va_runI (As := []) (rest := [.ref q24_2, .int (iO 1), .ref q6]) ⟨hx, hb, hml, hown, hts⟩ (c_X0_init l D cy 3 q24_2 H.size) (cwI 0 hts gX1_init_X0_init rfl rfl rfl (hts (.initialized RX0) (by decide +kernel)) (hts (.methodLink RX1 17 yX0_init) (by decide +kernel)) (hts (.instanceMethod yX0_init) (by decide +kernel)) rfl (by decide +kernel) ⟨(Nat.le_of_ble_eq_true rfl), (Nat.le_of_ble_eq_true rfl)⟩) ⟨z_blind, fun U hU hW => ⟨rfl, by rw [hU], by rw [hU]; exact hPc, va_K.moved hW.alike hK, hDc, q_N.warm hW hN, hO.moved hW.alike⟩⟩ rfl rfl hl.1 rfl (lv_room (Nat.le_of_ble_eq_true rfl)) dX1_init_28 ⟨(Nat.le_of_ble_eq_true rfl), (Nat.le_of_ble_eq_true rfl)⟩) hS (fun q _ h => hFc q h) hFc (fun u24_2 t H1 locs ht hvm hw hB hz1 hk1 hS => ?_)
  obtain ⟨he1, hP1, hD1⟩ := hB
  rw [ht] at hP1
  obtain ⟨hPz, hDz⟩ := z_join (X := (h0, .inr (1, [.ref q6, .int (iO 0)])) :: (q6, .inl (cy 4, 4, .inr (.inr (.inr (.inr (va_up (fun _ => none) 0 (some (u24_1 2 0 0)))))))) :: (zz_W cy u24_1 (zc_RL 2))) (wc := [(q24_2, .inr (0, [.int (iO 0), .null, .null, .null, .null, .null, .null, .null, .int (iO 0), .null, .int (iO 0)]))]) (w1 := zz_W cy u24_2 (zc_RL 3)) hP hD hk1 hFc hP1 hD1
  clear hPc hDc hFc hP1 hD1 hk1 hz1
  generalize H1 = H at hPz hS ⊢
  subst he1
  have hP := hPz
  have hD := hDz
  have hP : va_P D vwCl ((h0, .inr (1, [.ref q6, .int (iO 0)])) :: (q6, .inl (cy 4, 4, .inr (.inr (.inr (.inr (va_up (fun _ => none) 0 (some (u24_1 2 0 0)))))))) :: ((zz_W cy u24_1 (zc_RL 2)) ++ zz_W cy u24_2 (zc_RL 3))) H := hP
  have hD : va_D A ((h0, .inr (1, [.ref q6, .int (iO 0)])) :: (q6, .inl (cy 4, 4, .inr (.inr (.inr (.inr (va_up (fun _ => none) 0 (some (u24_1 2 0 0)))))))) :: ((zz_W cy u24_1 (zc_RL 2)) ++ zz_W cy u24_2 (zc_RL 3))) := hD
  refine va_astq (r := (RX0, TX0, 11)) hx hb hK hP hD hS 1 4 27 0 rfl rfl rfl rfl (z_in (by decide)) dX1_init_31 (fun H locs hP hD hS => ?_)
  have hP : va_P D vwCl ((h0, .inr (1, [.ref q6, .int (iO 0)])) :: (q6, .inl (cy 4, 4, .inr (.inr (.inr (.inr (va_up (va_up (fun _ => none) 0 (some (u24_1 2 0 0))) 1 (some (u24_2 3 0 0)))))))) :: ((zz_W cy u24_1 (zc_RL 2)) ++ zz_W cy u24_2 (zc_RL 3))) H := hP
  have hD : va_D A ((h0, .inr (1, [.ref q6, .int (iO 0)])) :: (q6, .inl (cy 4, 4, .inr (.inr (.inr (.inr (va_up (va_up (fun _ => none) 0 (some (u24_1 2 0 0))) 1 (some (u24_2 3 0 0)))))))) :: ((zz_W cy u24_1 (zc_RL 2)) ++ zz_W cy u24_2 (zc_RL 3))) := hD
  refine lv_iinc (v := iO 2) (lv' := [(1, .int (iO 2)), (0, .ref h0)]) hx hb dX1_init_32 hl (k := 0) rfl (by decide) (by decide) rfl (fun ls hl => ?_)
  refine lv_goto (tgt := 14) hx hb dX1_init_35 (by decide) ?_
  refine lv_iload_n hx hb dX1_init_14 rfl (lv_at hl 0 rfl) ?_
  refine lv_iconst (v := iO 4) hx hb dX1_init_15 rfl ?_
  refine lv_icmp_ge (tgt := 38) hx hb dX1_init_16 (by decide) (fun c9 => absurd c9 (by decide)) (fun _ => ?_)
  refine lv_aload_n hx hb dX1_init_19 rfl (lv_at hl 1 rfl) ?_
  refine va_get (D := D) (ci := 1) (v := .ref q6) (C := RX1) (T := TX1) (N := 2) hx hb hts hinF hown hK hP 0 rfl rfl 0 (by decide) (hts (.fieldLink RX1 11 "WheelDesk$History" "states" "[LWheelDesk$Craft;") (by decide +kernel)) (fun _ h9 => h9) rfl dX1_init_20 ?_
  refine lv_iload_n hx hb dX1_init_23 rfl (lv_at hl 0 rfl) ?_
  refine va_new (ci := 0) (fs := [.int (iO 0), .null, .null, .null, .null, .null, .null, .null, .int (iO 0), .null, .int (iO 0)]) (C := RX0) (T := TX0) (N := 11) hx hb hts hinX0 tyX0 tyX0_ok hown (hts (.classLink RX1 9 RX0) (by decide +kernel)) (hts (.instantiable RX0 11) (by decide +kernel)) (hts (.initialized RX0) (by decide +kernel)) hK hP hD hS hA rfl (fun j hj => by rcases (show j = 0 ∨ j = 1 ∨ j = 2 ∨ j = 3 ∨ j = 4 ∨ j = 5 ∨ j = 6 ∨ j = 7 ∨ j = 8 ∨ j = 9 ∨ j = 10 by omega) with rfl | rfl | rfl | rfl | rfl | rfl | rfl | rfl | rfl | rfl | rfl <;> rfl) (Nat.le_of_ble_eq_true rfl) (Nat.le_of_ble_eq_true rfl) dX1_init_24 (fun q24_3 H hP hD hS => ?_)
  have hP : va_P D vwCl (((h0, .inr (1, [.ref q6, .int (iO 0)])) :: (q6, .inl (cy 4, 4, .inr (.inr (.inr (.inr (va_up (va_up (fun _ => none) 0 (some (u24_1 2 0 0))) 1 (some (u24_2 3 0 0)))))))) :: ((zz_W cy u24_1 (zc_RL 2)) ++ zz_W cy u24_2 (zc_RL 3))) ++ [(q24_3, .inr (0, [.int (iO 0), .null, .null, .null, .null, .null, .null, .null, .int (iO 0), .null, .int (iO 0)]))]) H := hP
  have hD : va_D A (((h0, .inr (1, [.ref q6, .int (iO 0)])) :: (q6, .inl (cy 4, 4, .inr (.inr (.inr (.inr (va_up (va_up (fun _ => none) 0 (some (u24_1 2 0 0))) 1 (some (u24_2 3 0 0)))))))) :: ((zz_W cy u24_1 (zc_RL 2)) ++ zz_W cy u24_2 (zc_RL 3))) ++ [(q24_3, .inr (0, [.int (iO 0), .null, .null, .null, .null, .null, .null, .null, .int (iO 0), .null, .int (iO 0)]))]) := hD
  refine lv_dup hx hb dX1_init_27 rfl ?_
  have hPc : va_P D vwCl [(q24_3, .inr (0, [.int (iO 0), .null, .null, .null, .null, .null, .null, .null, .int (iO 0), .null, .int (iO 0)]))] H := z_cut (X := (h0, .inr (1, [.ref q6, .int (iO 0)])) :: (q6, .inl (cy 4, 4, .inr (.inr (.inr (.inr (va_up (va_up (fun _ => none) 0 (some (u24_1 2 0 0))) 1 (some (u24_2 3 0 0)))))))) :: ((zz_W cy u24_1 (zc_RL 2)) ++ zz_W cy u24_2 (zc_RL 3))) hP
  have hDc : va_D (fun _ => True) [(q24_3, .inr (0, [.int (iO 0), .null, .null, .null, .null, .null, .null, .null, .int (iO 0), .null, .int (iO 0)]))] := (z_cutD (X := (h0, .inr (1, [.ref q6, .int (iO 0)])) :: (q6, .inl (cy 4, 4, .inr (.inr (.inr (.inr (va_up (va_up (fun _ => none) 0 (some (u24_1 2 0 0))) 1 (some (u24_2 3 0 0)))))))) :: ((zz_W cy u24_1 (zc_RL 2)) ++ zz_W cy u24_2 (zc_RL 3))) hD).weaken (fun _ _ _ _ => trivial)
  have hFc := z_free (X := (h0, .inr (1, [.ref q6, .int (iO 0)])) :: (q6, .inl (cy 4, 4, .inr (.inr (.inr (.inr (va_up (va_up (fun _ => none) 0 (some (u24_1 2 0 0))) 1 (some (u24_2 3 0 0)))))))) :: ((zz_W cy u24_1 (zc_RL 2)) ++ zz_W cy u24_2 (zc_RL 3))) (wc := [(q24_3, .inr (0, [.int (iO 0), .null, .null, .null, .null, .null, .null, .null, .int (iO 0), .null, .int (iO 0)]))]) hD hS hA
  refine va_callv (va_runI (As := []) (rest := [.ref q24_3, .int (iO 2), .ref q6]) ⟨hx, hb, hml, hown, hts⟩ (c_X0_init l D cy 4 q24_3 H.size) (cwI 0 hts gX1_init_X0_init rfl rfl rfl (hts (.initialized RX0) (by decide +kernel)) (hts (.methodLink RX1 17 yX0_init) (by decide +kernel)) (hts (.instanceMethod yX0_init) (by decide +kernel)) rfl (by decide +kernel) ⟨(Nat.le_of_ble_eq_true rfl), (Nat.le_of_ble_eq_true rfl)⟩) ⟨z_blind, fun U hU hW => ⟨rfl, by rw [hU], by rw [hU]; exact hPc, va_K.moved hW.alike hK, hDc, q_N.warm hW hN, hO.moved hW.alike⟩⟩ rfl rfl hl.1 rfl (lv_room (Nat.le_of_ble_eq_true rfl)) dX1_init_28 ⟨(Nat.le_of_ble_eq_true rfl), (Nat.le_of_ble_eq_true rfl)⟩) hS (fun q _ h => hFc q h) hFc (fun u24_3 t H1 locs ht hvm hw hB hz1 hk1 hS => ?_)
  obtain ⟨he1, hP1, hD1⟩ := hB
  rw [ht] at hP1
  obtain ⟨hPz, hDz⟩ := z_join (X := (h0, .inr (1, [.ref q6, .int (iO 0)])) :: (q6, .inl (cy 4, 4, .inr (.inr (.inr (.inr (va_up (va_up (fun _ => none) 0 (some (u24_1 2 0 0))) 1 (some (u24_2 3 0 0)))))))) :: ((zz_W cy u24_1 (zc_RL 2)) ++ zz_W cy u24_2 (zc_RL 3))) (wc := [(q24_3, .inr (0, [.int (iO 0), .null, .null, .null, .null, .null, .null, .null, .int (iO 0), .null, .int (iO 0)]))]) (w1 := zz_W cy u24_3 (zc_RL 4)) hP hD hk1 hFc hP1 hD1
  clear hPc hDc hFc hP1 hD1 hk1 hz1
  generalize H1 = H at hPz hS ⊢
  subst he1
  have hP := hPz
  have hD := hDz
  have hP : va_P D vwCl ((h0, .inr (1, [.ref q6, .int (iO 0)])) :: (q6, .inl (cy 4, 4, .inr (.inr (.inr (.inr (va_up (va_up (fun _ => none) 0 (some (u24_1 2 0 0))) 1 (some (u24_2 3 0 0)))))))) :: (((zz_W cy u24_1 (zc_RL 2)) ++ zz_W cy u24_2 (zc_RL 3)) ++ zz_W cy u24_3 (zc_RL 4))) H := hP
  have hD : va_D A ((h0, .inr (1, [.ref q6, .int (iO 0)])) :: (q6, .inl (cy 4, 4, .inr (.inr (.inr (.inr (va_up (va_up (fun _ => none) 0 (some (u24_1 2 0 0))) 1 (some (u24_2 3 0 0)))))))) :: (((zz_W cy u24_1 (zc_RL 2)) ++ zz_W cy u24_2 (zc_RL 3)) ++ zz_W cy u24_3 (zc_RL 4))) := hD
  refine va_astq (r := (RX0, TX0, 11)) hx hb hK hP hD hS 1 4 52 0 rfl rfl rfl rfl (z_in (by decide)) dX1_init_31 (fun H locs hP hD hS => ?_)
  have hP : va_P D vwCl ((h0, .inr (1, [.ref q6, .int (iO 0)])) :: (q6, .inl (cy 4, 4, .inr (.inr (.inr (.inr (va_up (va_up (va_up (fun _ => none) 0 (some (u24_1 2 0 0))) 1 (some (u24_2 3 0 0))) 2 (some (u24_3 4 0 0)))))))) :: (((zz_W cy u24_1 (zc_RL 2)) ++ zz_W cy u24_2 (zc_RL 3)) ++ zz_W cy u24_3 (zc_RL 4))) H := hP
  have hD : va_D A ((h0, .inr (1, [.ref q6, .int (iO 0)])) :: (q6, .inl (cy 4, 4, .inr (.inr (.inr (.inr (va_up (va_up (va_up (fun _ => none) 0 (some (u24_1 2 0 0))) 1 (some (u24_2 3 0 0))) 2 (some (u24_3 4 0 0)))))))) :: (((zz_W cy u24_1 (zc_RL 2)) ++ zz_W cy u24_2 (zc_RL 3)) ++ zz_W cy u24_3 (zc_RL 4))) := hD
  refine lv_iinc (v := iO 3) (lv' := [(1, .int (iO 3)), (0, .ref h0)]) hx hb dX1_init_32 hl (k := 0) rfl (by decide) (by decide) rfl (fun ls hl => ?_)
  refine lv_goto (tgt := 14) hx hb dX1_init_35 (by decide) ?_
  refine lv_iload_n hx hb dX1_init_14 rfl (lv_at hl 0 rfl) ?_
  refine lv_iconst (v := iO 4) hx hb dX1_init_15 rfl ?_
  refine lv_icmp_ge (tgt := 38) hx hb dX1_init_16 (by decide) (fun c9 => absurd c9 (by decide)) (fun _ => ?_)
  refine lv_aload_n hx hb dX1_init_19 rfl (lv_at hl 1 rfl) ?_
  refine va_get (D := D) (ci := 1) (v := .ref q6) (C := RX1) (T := TX1) (N := 2) hx hb hts hinF hown hK hP 0 rfl rfl 0 (by decide) (hts (.fieldLink RX1 11 "WheelDesk$History" "states" "[LWheelDesk$Craft;") (by decide +kernel)) (fun _ h9 => h9) rfl dX1_init_20 ?_
  refine lv_iload_n hx hb dX1_init_23 rfl (lv_at hl 0 rfl) ?_
  refine va_new (ci := 0) (fs := [.int (iO 0), .null, .null, .null, .null, .null, .null, .null, .int (iO 0), .null, .int (iO 0)]) (C := RX0) (T := TX0) (N := 11) hx hb hts hinX0 tyX0 tyX0_ok hown (hts (.classLink RX1 9 RX0) (by decide +kernel)) (hts (.instantiable RX0 11) (by decide +kernel)) (hts (.initialized RX0) (by decide +kernel)) hK hP hD hS hA rfl (fun j hj => by rcases (show j = 0 ∨ j = 1 ∨ j = 2 ∨ j = 3 ∨ j = 4 ∨ j = 5 ∨ j = 6 ∨ j = 7 ∨ j = 8 ∨ j = 9 ∨ j = 10 by omega) with rfl | rfl | rfl | rfl | rfl | rfl | rfl | rfl | rfl | rfl | rfl <;> rfl) (Nat.le_of_ble_eq_true rfl) (Nat.le_of_ble_eq_true rfl) dX1_init_24 (fun q24_4 H hP hD hS => ?_)
  have hP : va_P D vwCl (((h0, .inr (1, [.ref q6, .int (iO 0)])) :: (q6, .inl (cy 4, 4, .inr (.inr (.inr (.inr (va_up (va_up (va_up (fun _ => none) 0 (some (u24_1 2 0 0))) 1 (some (u24_2 3 0 0))) 2 (some (u24_3 4 0 0)))))))) :: (((zz_W cy u24_1 (zc_RL 2)) ++ zz_W cy u24_2 (zc_RL 3)) ++ zz_W cy u24_3 (zc_RL 4))) ++ [(q24_4, .inr (0, [.int (iO 0), .null, .null, .null, .null, .null, .null, .null, .int (iO 0), .null, .int (iO 0)]))]) H := hP
  have hD : va_D A (((h0, .inr (1, [.ref q6, .int (iO 0)])) :: (q6, .inl (cy 4, 4, .inr (.inr (.inr (.inr (va_up (va_up (va_up (fun _ => none) 0 (some (u24_1 2 0 0))) 1 (some (u24_2 3 0 0))) 2 (some (u24_3 4 0 0)))))))) :: (((zz_W cy u24_1 (zc_RL 2)) ++ zz_W cy u24_2 (zc_RL 3)) ++ zz_W cy u24_3 (zc_RL 4))) ++ [(q24_4, .inr (0, [.int (iO 0), .null, .null, .null, .null, .null, .null, .null, .int (iO 0), .null, .int (iO 0)]))]) := hD
  refine lv_dup hx hb dX1_init_27 rfl ?_
  have hPc : va_P D vwCl [(q24_4, .inr (0, [.int (iO 0), .null, .null, .null, .null, .null, .null, .null, .int (iO 0), .null, .int (iO 0)]))] H := z_cut (X := (h0, .inr (1, [.ref q6, .int (iO 0)])) :: (q6, .inl (cy 4, 4, .inr (.inr (.inr (.inr (va_up (va_up (va_up (fun _ => none) 0 (some (u24_1 2 0 0))) 1 (some (u24_2 3 0 0))) 2 (some (u24_3 4 0 0)))))))) :: (((zz_W cy u24_1 (zc_RL 2)) ++ zz_W cy u24_2 (zc_RL 3)) ++ zz_W cy u24_3 (zc_RL 4))) hP
  have hDc : va_D (fun _ => True) [(q24_4, .inr (0, [.int (iO 0), .null, .null, .null, .null, .null, .null, .null, .int (iO 0), .null, .int (iO 0)]))] := (z_cutD (X := (h0, .inr (1, [.ref q6, .int (iO 0)])) :: (q6, .inl (cy 4, 4, .inr (.inr (.inr (.inr (va_up (va_up (va_up (fun _ => none) 0 (some (u24_1 2 0 0))) 1 (some (u24_2 3 0 0))) 2 (some (u24_3 4 0 0)))))))) :: (((zz_W cy u24_1 (zc_RL 2)) ++ zz_W cy u24_2 (zc_RL 3)) ++ zz_W cy u24_3 (zc_RL 4))) hD).weaken (fun _ _ _ _ => trivial)
  have hFc := z_free (X := (h0, .inr (1, [.ref q6, .int (iO 0)])) :: (q6, .inl (cy 4, 4, .inr (.inr (.inr (.inr (va_up (va_up (va_up (fun _ => none) 0 (some (u24_1 2 0 0))) 1 (some (u24_2 3 0 0))) 2 (some (u24_3 4 0 0)))))))) :: (((zz_W cy u24_1 (zc_RL 2)) ++ zz_W cy u24_2 (zc_RL 3)) ++ zz_W cy u24_3 (zc_RL 4))) (wc := [(q24_4, .inr (0, [.int (iO 0), .null, .null, .null, .null, .null, .null, .null, .int (iO 0), .null, .int (iO 0)]))]) hD hS hA
  refine va_callv (va_runI (As := []) (rest := [.ref q24_4, .int (iO 3), .ref q6]) ⟨hx, hb, hml, hown, hts⟩ (c_X0_init l D cy 5 q24_4 H.size) (cwI 0 hts gX1_init_X0_init rfl rfl rfl (hts (.initialized RX0) (by decide +kernel)) (hts (.methodLink RX1 17 yX0_init) (by decide +kernel)) (hts (.instanceMethod yX0_init) (by decide +kernel)) rfl (by decide +kernel) ⟨(Nat.le_of_ble_eq_true rfl), (Nat.le_of_ble_eq_true rfl)⟩) ⟨z_blind, fun U hU hW => ⟨rfl, by rw [hU], by rw [hU]; exact hPc, va_K.moved hW.alike hK, hDc, q_N.warm hW hN, hO.moved hW.alike⟩⟩ rfl rfl hl.1 rfl (lv_room (Nat.le_of_ble_eq_true rfl)) dX1_init_28 ⟨(Nat.le_of_ble_eq_true rfl), (Nat.le_of_ble_eq_true rfl)⟩) hS (fun q _ h => hFc q h) hFc (fun u24_4 t H1 locs ht hvm hw hB hz1 hk1 hS => ?_)
  obtain ⟨he1, hP1, hD1⟩ := hB
  rw [ht] at hP1
  obtain ⟨hPz, hDz⟩ := z_join (X := (h0, .inr (1, [.ref q6, .int (iO 0)])) :: (q6, .inl (cy 4, 4, .inr (.inr (.inr (.inr (va_up (va_up (va_up (fun _ => none) 0 (some (u24_1 2 0 0))) 1 (some (u24_2 3 0 0))) 2 (some (u24_3 4 0 0)))))))) :: (((zz_W cy u24_1 (zc_RL 2)) ++ zz_W cy u24_2 (zc_RL 3)) ++ zz_W cy u24_3 (zc_RL 4))) (wc := [(q24_4, .inr (0, [.int (iO 0), .null, .null, .null, .null, .null, .null, .null, .int (iO 0), .null, .int (iO 0)]))]) (w1 := zz_W cy u24_4 (zc_RL 5)) hP hD hk1 hFc hP1 hD1
  clear hPc hDc hFc hP1 hD1 hk1 hz1
  generalize H1 = H at hPz hS ⊢
  subst he1
  have hP := hPz
  have hD := hDz
  have hP : va_P D vwCl ((h0, .inr (1, [.ref q6, .int (iO 0)])) :: (q6, .inl (cy 4, 4, .inr (.inr (.inr (.inr (va_up (va_up (va_up (fun _ => none) 0 (some (u24_1 2 0 0))) 1 (some (u24_2 3 0 0))) 2 (some (u24_3 4 0 0)))))))) :: ((((zz_W cy u24_1 (zc_RL 2)) ++ zz_W cy u24_2 (zc_RL 3)) ++ zz_W cy u24_3 (zc_RL 4)) ++ zz_W cy u24_4 (zc_RL 5))) H := hP
  have hD : va_D A ((h0, .inr (1, [.ref q6, .int (iO 0)])) :: (q6, .inl (cy 4, 4, .inr (.inr (.inr (.inr (va_up (va_up (va_up (fun _ => none) 0 (some (u24_1 2 0 0))) 1 (some (u24_2 3 0 0))) 2 (some (u24_3 4 0 0)))))))) :: ((((zz_W cy u24_1 (zc_RL 2)) ++ zz_W cy u24_2 (zc_RL 3)) ++ zz_W cy u24_3 (zc_RL 4)) ++ zz_W cy u24_4 (zc_RL 5))) := hD
  refine va_astq (r := (RX0, TX0, 11)) hx hb hK hP hD hS 1 4 77 0 rfl rfl rfl rfl (z_in (by decide)) dX1_init_31 (fun H locs hP hD hS => ?_)
  have hP : va_P D vwCl ((h0, .inr (1, [.ref q6, .int (iO 0)])) :: (q6, .inl (cy 4, 4, .inr (.inr (.inr (.inr (va_up (va_up (va_up (va_up (fun _ => none) 0 (some (u24_1 2 0 0))) 1 (some (u24_2 3 0 0))) 2 (some (u24_3 4 0 0))) 3 (some (u24_4 5 0 0)))))))) :: ((((zz_W cy u24_1 (zc_RL 2)) ++ zz_W cy u24_2 (zc_RL 3)) ++ zz_W cy u24_3 (zc_RL 4)) ++ zz_W cy u24_4 (zc_RL 5))) H := hP
  have hD : va_D A ((h0, .inr (1, [.ref q6, .int (iO 0)])) :: (q6, .inl (cy 4, 4, .inr (.inr (.inr (.inr (va_up (va_up (va_up (va_up (fun _ => none) 0 (some (u24_1 2 0 0))) 1 (some (u24_2 3 0 0))) 2 (some (u24_3 4 0 0))) 3 (some (u24_4 5 0 0)))))))) :: ((((zz_W cy u24_1 (zc_RL 2)) ++ zz_W cy u24_2 (zc_RL 3)) ++ zz_W cy u24_3 (zc_RL 4)) ++ zz_W cy u24_4 (zc_RL 5))) := hD
  refine lv_iinc (v := iO 4) (lv' := [(1, .int (iO 4)), (0, .ref h0)]) hx hb dX1_init_32 hl (k := 0) rfl (by decide) (by decide) rfl (fun ls hl => ?_)
  refine lv_goto (tgt := 14) hx hb dX1_init_35 (by decide) ?_
  refine lv_iload_n hx hb dX1_init_14 rfl (lv_at hl 0 rfl) ?_
  refine lv_iconst (v := iO 4) hx hb dX1_init_15 rfl ?_
  refine lv_icmp_ge (tgt := 38) hx hb dX1_init_16 (by decide) (fun _ => ?_) (fun c9 => absurd (by decide) c9)
  refine W.widen (k := 101) (n := 432) (Nat.le_of_ble_eq_true rfl) (Nat.le_of_ble_eq_true rfl) ?_
  have key := ze_X1 hP hD
  obtain ⟨u, hu, hP9, hD9⟩ := key
  exact W.vret hx hb hr (fun t ht hW => ⟨⟨u, rfl, trivial, hu, by rw [ht]; exact hP9, hD9⟩, hS.F ht⟩) hS.2.2 dX1_init_38
