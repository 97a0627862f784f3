set_option maxRecDepth 100000 in
set_option maxHeartbeats 4000000 in
theorem ze_X5 {D : va_G} {cy : Nat → ClassId} {A : Nat → Prop} {H : Heap} {h0 : Nat} {u5_1 u16_2 u27_3 u38_4 u49_5 : q_A} (hP : va_P D vwCl ((h0, .inr (5, [.ref (u5_1 0 0 0), .ref (u16_2 1 0 0), .ref (u27_3 0 12 0), .ref (u38_4 0 18 0), .ref (u49_5 0 21 0)])) :: (((((zz_W cy u5_1 (zc_RL 0)) ++ zz_W cy u16_2 (zc_RL 1)) ++ zz_W cy u27_3 zs_RL) ++ zz_W cy u38_4 zg_RL) ++ zz_W cy u49_5 zh_RL)) H) (hD : va_D A ((h0, .inr (5, [.ref (u5_1 0 0 0), .ref (u16_2 1 0 0), .ref (u27_3 0 12 0), .ref (u38_4 0 18 0), .ref (u49_5 0 21 0)])) :: (((((zz_W cy u5_1 (zc_RL 0)) ++ zz_W cy u16_2 (zc_RL 1)) ++ zz_W cy u27_3 zs_RL) ++ zz_W cy u38_4 zg_RL) ++ zz_W cy u49_5 zh_RL))) : ∃ u : q_A, u 0 23 0 = h0 ∧ va_P D vwCl (zz_W cy u zd_RL) H ∧ va_D A (zz_W cy u zd_RL) := by
  obtain ⟨u, hu⟩ : ∃ u : q_A, u = (fun (c : Int) (p : Nat) (k : Int) => if p ≤ 11 then (if c = 0 then u5_1 c p k else if c = 1 then u16_2 c p k else u49_5 c p k) else if p ≤ 17 then u27_3 c p k else if p ≤ 20 then u38_4 c p k else if p ≤ 22 then u49_5 c p k else h0) := ⟨_, rfl⟩
  have e0 : zz_W cy u (zc_RL 0) = zz_W cy u5_1 (zc_RL 0) := zz_cg (fun p k hp => by
    rw [hu]
    (try dsimp only)
    rw [if_pos hp, if_pos rfl])
  have e1 : zz_W cy u (zc_RL 1) = zz_W cy u16_2 (zc_RL 1) := zz_cg (fun p k hp => by
    rw [hu]
    (try dsimp only)
    rw [if_pos hp, if_neg (by decide), if_pos rfl])
  have e2 : zz_W cy u (zc_RL 2) = zz_W cy u49_5 (zc_RL 2) := zz_cg (fun p k hp => by
    rw [hu]
    (try dsimp only)
    rw [if_pos hp, if_neg (by decide), if_neg (by decide)])
  have e3 : zz_W cy u (zc_RL 3) = zz_W cy u49_5 (zc_RL 3) := zz_cg (fun p k hp => by
    rw [hu]
    (try dsimp only)
    rw [if_pos hp, if_neg (by decide), if_neg (by decide)])
  have e4 : zz_W cy u (zc_RL 4) = zz_W cy u49_5 (zc_RL 4) := zz_cg (fun p k hp => by
    rw [hu]
    (try dsimp only)
    rw [if_pos hp, if_neg (by decide), if_neg (by decide)])
  have e5 : zz_W cy u (zc_RL 5) = zz_W cy u49_5 (zc_RL 5) := zz_cg (fun p k hp => by
    rw [hu]
    (try dsimp only)
    rw [if_pos hp, if_neg (by decide), if_neg (by decide)])
  have es : zz_W cy u zs_RL = zz_W cy u27_3 zs_RL := by
    rw [hu]
    rfl
  have eg : zz_W cy u zg_RL = zz_W cy u38_4 zg_RL := by
    rw [hu]
    rfl
  have e21 : (u 0 21 0, q_shp cy u (0, 21, 0) (z_s0 0 21 0)) = (u49_5 0 21 0, q_shp cy u49_5 (0, 21, 0) (z_s0 0 21 0)) := by
    rw [hu]
    rfl
  have f22 : ∀ i : Nat, u ((i : Int) + 2) 0 0 = u49_5 ((i : Int) + 2) 0 0 := fun i => by
    rw [hu]
    (try dsimp only)
    rw [if_pos (by decide), if_neg (by omega), if_neg (by omega)]
  have a22 : u 0 22 0 = u49_5 0 22 0 := by
    rw [hu]
    rfl
  have e22 : (u 0 22 0, q_shp cy u (0, 22, 0) (z_s0 0 22 0)) = (u49_5 0 22 0, q_shp cy u49_5 (0, 22, 0) (z_s0 0 22 0)) := by
    rw [a22]
    have s22 : ∀ w : q_A, q_shp cy w (0, 22, 0) (z_s0 0 22 0) = .inl (cy 4, 4, .inr (.inr (.inr (.inr (fun i : Nat => some (w ((i : Int) + 2) 0 0)))))) := fun w => rfl
    rw [s22, s22]
    simp only [f22]
  have eh : zz_W cy u zh_RL = zz_W cy u49_5 zh_RL := by
    have hs : ∀ w : q_A, zz_W cy w zh_RL = (w 0 21 0, q_shp cy w (0, 21, 0) (z_s0 0 21 0)) :: (w 0 22 0, q_shp cy w (0, 22, 0) (z_s0 0 22 0)) :: (((zz_W cy w (zc_RL 2) ++ zz_W cy w (zc_RL 3)) ++ zz_W cy w (zc_RL 4)) ++ zz_W cy w (zc_RL 5)) := fun w => by
      rw [← zz_app, ← zz_app, ← zz_app]
      rfl
    rw [hs u, hs u49_5, e21, e22, e2, e3, e4, e5]
  have eW : zz_W cy u zd_RL = (u 0 23 0, q_shp cy u (0, 23, 0) (z_s0 0 23 0)) :: (((((zz_W cy u5_1 (zc_RL 0)) ++ zz_W cy u16_2 (zc_RL 1)) ++ zz_W cy u27_3 zs_RL) ++ zz_W cy u38_4 zg_RL) ++ zz_W cy u49_5 zh_RL) := by
    rw [← e0, ← e1, ← es, ← eg, ← eh, ← zz_app, ← zz_app, ← zz_app, ← zz_app]
    rfl
  have a23 : (u 0 23 0, q_shp cy u (0, 23, 0) (z_s0 0 23 0)) = (h0, .inr (5, [.ref (u5_1 0 0 0), .ref (u16_2 1 0 0), .ref (u27_3 0 12 0), .ref (u38_4 0 18 0), .ref (u49_5 0 21 0)])) := by
    rw [hu]
    rfl
  rw [a23] at eW
  exact ⟨u, by rw [hu]; rfl, by rw [eW]; exact hP, by rw [eW]; exact hD⟩
set_option maxHeartbeats 4000000 in
set_option maxRecDepth 100000 in
theorem c_X5_init (l : Launch) (D : va_G) (cy : Nat → ClassId) (h0 sz : Nat) : Met l yX5_init wsX5_init ({ frames := 4, cells := 165, slots := 687, locals := 74 }) (va_Pc [.ref h0] (z_B D cy sz [(h0, .inr (5, [.null, .null, .null, .null, .null]))])) (va_Qv (fun _ : q_A => True) (fun u t => u 0 23 0 = h0 ∧ va_P D vwCl (zz_W cy u zd_RL) t.heap ∧ va_D (va_A [(h0, .inr (5, [.null, .null, .null, .null, .null]))] sz) (zz_W cy u zd_RL)) (va_A [(h0, .inr (5, [.null, .null, .null, .null, .null]))] sz)) 165 687 (va_A [(h0, .inr (5, [.null, .null, .null, .null, .null]))] sz) := by
  refine Met.ofW (cc := cX5_init) (maxL := 1) (ret := none) (by decide) rfl ?_
  intro p e s m args below meth c0 s₁ B hml hv
  obtain ⟨rfl, hsz, hP, hK, hD0, hN, hO⟩ := hv
  have hx := B.exec
  have hb := B.bytes
  have hr := B.returns
  have hts := atoms_spec (ws := wsX5_init) B.pre
  have hown : s.vm.findClass RX5 = some m.cls := findClass_of_methodNamed B.named
  have hlocks := B.notSynchronized
  have hin : meth.name = "<init>" := (name_of_methodNamed B.named B.method).1
  have hinF : ∀ w ∈ u_ws RX5 TX5 5, w ∈ wsX5_init := by decide +kernel
  have hinX0 : ∀ w ∈ u_ws RX0 TX0 11, w ∈ wsX5_init := by decide +kernel
  have hinX3 : ∀ w ∈ u_ws RX3 TX3 4, w ∈ wsX5_init := by decide +kernel
  have hinX2 : ∀ w ∈ u_ws RX2 TX2 2, w ∈ wsX5_init := by decide +kernel
  have hinX1 : ∀ w ∈ u_ws RX1 TX1 2, w ∈ wsX5_init := by decide +kernel
  subst hsz
  have hD := hD0.self (sz := s.heap.size)
  generalize hAe : va_A [(h0, .inr (5, [.null, .null, .null, .null, .null]))] s.heap.size = A at hD ⊢
  have hA : ∀ q : Nat, s.heap.size ≤ q → A q := fun q h => by rw [← hAe]; exact Or.inr h
  have hS : va_S A s.heap s.heap [] := va_S.rf
  have hP : va_P D vwCl [(h0, .inr (5, [.null, .null, .null, .null, .null]))] s.heap := hP
  have hl := lv_entry ([.ref h0]) (n := 1) (Nat.le_of_ble_eq_true rfl)
  rw [lg_entry_eq]
  generalize (lg_sl ([.ref h0]) ++ List.replicate (1 - (lg_sl ([.ref h0])).length) Slot.unset).toArray = ls at hl ⊢
  have hl : lv_has ls 1 [(0, .ref h0)] := hl
  refine lv_aload_n hx hb dX5_init_0 rfl (lv_at hl 0 rfl) ?_
  refine W.objInit hx hb hown (hts (.methodLink RX5 1 objectInit) (by decide +kernel)) (hts (.instanceMethod objectInit) (by decide +kernel)) (hts _ (List.mem_of_getElem? (i := 3) rfl)) rfl (by rw [hml]; exact hl.1) rfl dX5_init_1 (Nat.le_of_ble_eq_true rfl) (Nat.le_of_ble_eq_true rfl) ?_
  refine W.eq (g2 := F0 m 4 ls []) rfl ?_
  refine lv_aload_n hx hb dX5_init_4 rfl (lv_at hl 0 rfl) ?_
  refine va_new (ci := 0) (fs := [.int (iO 0), .null, .null, .null, .null, .null, .null, .null, .int (iO 0), .null, .int (iO 0)]) (C := RX0) (T := TX0) (N := 11) hx hb hts hinX0 tyX0 tyX0_ok hown (hts (.classLink RX5 7 RX0) (by decide +kernel)) (hts (.instantiable RX0 11) (by decide +kernel)) (hts (.initialized RX0) (by decide +kernel)) hK hP hD hS hA rfl (fun j hj => by rcases (show j = 0 ∨ j = 1 ∨ j = 2 ∨ j = 3 ∨ j = 4 ∨ j = 5 ∨ j = 6 ∨ j = 7 ∨ j = 8 ∨ j = 9 ∨ j = 10 by omega) with rfl | rfl | rfl | rfl | rfl | rfl | rfl | rfl | rfl | rfl | rfl <;> rfl) (Nat.le_of_ble_eq_true rfl) (Nat.le_of_ble_eq_true rfl) dX5_init_5 (fun q5_1 H hP hD hS => ?_)
  have hP : va_P D vwCl (([(h0, .inr (5, [.null, .null, .null, .null, .null]))]) ++ [(q5_1, .inr (0, [.int (iO 0), .null, .null, .null, .null, .null, .null, .null, .int (iO 0), .null, .int (iO 0)]))]) H := hP
  have hD : va_D A (([(h0, .inr (5, [.null, .null, .null, .null, .null]))]) ++ [(q5_1, .inr (0, [.int (iO 0), .null, .null, .null, .null, .null, .null, .null, .int (iO 0), .null, .int (iO 0)]))]) := hD
  refine lv_dup hx hb dX5_init_8 rfl ?_
  have hPc : va_P D vwCl [(q5_1, .inr (0, [.int (iO 0), .null, .null, .null, .null, .null, .null, .null, .int (iO 0), .null, .int (iO 0)]))] H := z_cut (X := [(h0, .inr (5, [.null, .null, .null, .null, .null]))]) hP
  have hDc : va_D (fun _ => True) [(q5_1, .inr (0, [.int (iO 0), .null, .null, .null, .null, .null, .null, .null, .int (iO 0), .null, .int (iO 0)]))] := (z_cutD (X := [(h0, .inr (5, [.null, .null, .null, .null, .null]))]) hD).weaken (fun _ _ _ _ => trivial)
  have hFc := z_free (X := [(h0, .inr (5, [.null, .null, .null, .null, .null]))]) (wc := [(q5_1, .inr (0, [.int (iO 0), .null, .null, .null, .null, .null, .null, .null, .int (iO 0), .null, .int (iO 0)]))]) hD hS hA
  refine va_callv (va_runI (As := []) (rest := [.ref q5_1, .ref h0]) ⟨hx, hb, hml, hown, hts⟩ (c_X0_init l D cy 0 q5_1 H.size) (cwI 0 hts gX5_init_X0_init rfl rfl rfl (hts (.initialized RX0) (by decide +kernel)) (hts (.methodLink RX5 9 yX0_init) (by decide +kernel)) (hts (.instanceMethod yX0_init) (by decide +kernel)) rfl (by decide +kernel) ⟨(Nat.le_of_ble_eq_true rfl), (Nat.le_of_ble_eq_true rfl)⟩) ⟨z_blind, fun U hU hW => ⟨rfl, by rw [hU], by rw [hU]; exact hPc, va_K.moved hW.alike hK, hDc, q_N.warm hW hN, hO.moved hW.alike⟩⟩ rfl rfl hl.1 rfl (lv_room (Nat.le_of_ble_eq_true rfl)) dX5_init_9 ⟨(Nat.le_of_ble_eq_true rfl), (Nat.le_of_ble_eq_true rfl)⟩) hS (fun q _ h => hFc q h) hFc (fun u5_1 t H1 locs ht hvm hw hB hz1 hk1 hS => ?_)
  obtain ⟨he1, hP1, hD1⟩ := hB
  rw [ht] at hP1
  obtain ⟨hPz, hDz⟩ := z_join (X := [(h0, .inr (5, [.null, .null, .null, .null, .null]))]) (wc := [(q5_1, .inr (0, [.int (iO 0), .null, .null, .null, .null, .null, .null, .null, .int (iO 0), .null, .int (iO 0)]))]) (w1 := zz_W cy u5_1 (zc_RL 0)) hP hD hk1 hFc hP1 hD1
  clear hPc hDc hFc hP1 hD1 hk1 hz1
  generalize H1 = H at hPz hS ⊢
  subst he1
  have hP := hPz
  have hD := hDz
  have hP : va_P D vwCl ((h0, .inr (5, [.null, .null, .null, .null, .null])) :: (zz_W cy u5_1 (zc_RL 0))) H := hP
  have hD : va_D A ((h0, .inr (5, [.null, .null, .null, .null, .null])) :: (zz_W cy u5_1 (zc_RL 0))) := hD
  refine va_putF (D := D) (ci := 5) (v := .ref (u5_1 0 0 0)) (ty := .object "WheelDesk$Craft") (C := RX5) (T := TX5) (N := 5) hx hb hts hinF tyX5 tyX5_ok nmX5 hown hK hP hD hS 0 rfl rfl 0 (by decide) (hts (.fieldLink RX5 10 "WheelDesk" "craft" "LWheelDesk$Craft;") (by decide +kernel)) (fun _ h9 => h9) rfl hin rfl (by decide +kernel) rfl rfl (Nat.le_of_ble_eq_true rfl) dX5_init_12 (fun H locs hP hD hS => ?_)
  have hP : va_P D vwCl ((h0, .inr (5, [.ref (u5_1 0 0 0), .null, .null, .null, .null])) :: (zz_W cy u5_1 (zc_RL 0))) H := hP
  have hD : va_D A ((h0, .inr (5, [.ref (u5_1 0 0 0), .null, .null, .null, .null])) :: (zz_W cy u5_1 (zc_RL 0))) := hD
  refine lv_aload_n hx hb dX5_init_15 rfl (lv_at hl 0 rfl) ?_
  refine va_new (ci := 0) (fs := [.int (iO 0), .null, .null, .null, .null, .null, .null, .null, .int (iO 0), .null, .int (iO 0)]) (C := RX0) (T := TX0) (N := 11) hx hb hts hinX0 tyX0 tyX0_ok hown (hts (.classLink RX5 7 RX0) (by decide +kernel)) (hts (.instantiable RX0 11) (by decide +kernel)) (hts (.initialized RX0) (by decide +kernel)) hK hP hD hS hA rfl (fun j hj => by rcases (show j = 0 ∨ j = 1 ∨ j = 2 ∨ j = 3 ∨ j = 4 ∨ j = 5 ∨ j = 6 ∨ j = 7 ∨ j = 8 ∨ j = 9 ∨ j = 10 by omega) with rfl | rfl | rfl | rfl | rfl | rfl | rfl | rfl | rfl | rfl | rfl <;> rfl) (Nat.le_of_ble_eq_true rfl) (Nat.le_of_ble_eq_true rfl) dX5_init_16 (fun q16_2 H hP hD hS => ?_)
  have hP : va_P D vwCl (((h0, .inr (5, [.ref (u5_1 0 0 0), .null, .null, .null, .null])) :: (zz_W cy u5_1 (zc_RL 0))) ++ [(q16_2, .inr (0, [.int (iO 0), .null, .null, .null, .null, .null, .null, .null, .int (iO 0), .null, .int (iO 0)]))]) H := hP
  have hD : va_D A (((h0, .inr (5, [.ref (u5_1 0 0 0), .null, .null, .null, .null])) :: (zz_W cy u5_1 (zc_RL 0))) ++ [(q16_2, .inr (0, [.int (iO 0), .null, .null, .null, .null, .null, .null, .null, .int (iO 0), .null, .int (iO 0)]))]) := hD
  refine lv_dup hx hb dX5_init_19 rfl ?_
  have hPc : va_P D vwCl [(q16_2, .inr (0, [.int (iO 0), .null, .null, .null, .null, .null, .null, .null, .int (iO 0), .null, .int (iO 0)]))] H := z_cut (X := (h0, .inr (5, [.ref (u5_1 0 0 0), .null, .null, .null, .null])) :: (zz_W cy u5_1 (zc_RL 0))) hP
  have hDc : va_D (fun _ => True) [(q16_2, .inr (0, [.int (iO 0), .null, .null, .null, .null, .null, .null, .null, .int (iO 0), .null, .int (iO 0)]))] := (z_cutD (X := (h0, .inr (5, [.ref (u5_1 0 0 0), .null, .null, .null, .null])) :: (zz_W cy u5_1 (zc_RL 0))) hD).weaken (fun _ _ _ _ => trivial)
  have hFc := z_free (X := (h0, .inr (5, [.ref (u5_1 0 0 0), .null, .null, .null, .null])) :: (zz_W cy u5_1 (zc_RL 0))) (wc := [(q16_2, .inr (0, [.int (iO 0), .null, .null, .null, .null, .null, .null, .null, .int (iO 0), .null, .int (iO 0)]))]) hD hS hA
  refine va_callv (va_runI (As := []) (rest := [.ref q16_2, .ref h0]) ⟨hx, hb, hml, hown, hts⟩ (c_X0_init l D cy 1 q16_2 H.size) (cwI 0 hts gX5_init_X0_init rfl rfl rfl (hts (.initialized RX0) (by decide +kernel)) (hts (.methodLink RX5 9 yX0_init) (by decide +kernel)) (hts (.instanceMethod yX0_init) (by decide +kernel)) rfl (by decide +kernel) ⟨(Nat.le_of_ble_eq_true rfl), (Nat.le_of_ble_eq_true rfl)⟩) ⟨z_blind, fun U hU hW => ⟨rfl, by rw [hU], by rw [hU]; exact hPc, va_K.moved hW.alike hK, hDc, q_N.warm hW hN, hO.moved hW.alike⟩⟩ rfl rfl hl.1 rfl (lv_room (Nat.le_of_ble_eq_true rfl)) dX5_init_20 ⟨(Nat.le_of_ble_eq_true rfl), (Nat.le_of_ble_eq_true rfl)⟩) hS (fun q _ h => hFc q h) hFc (fun u16_2 t H1 locs ht hvm hw hB hz1 hk1 hS => ?_)
  obtain ⟨he1, hP1, hD1⟩ := hB
  rw [ht] at hP1
  obtain ⟨hPz, hDz⟩ := z_join (X := (h0, .inr (5, [.ref (u5_1 0 0 0), .null, .null, .null, .null])) :: (zz_W cy u5_1 (zc_RL 0))) (wc := [(q16_2, .inr (0, [.int (iO 0), .null, .null, .null, .null, .null, .null, .null, .int (iO 0), .null, .int (iO 0)]))]) (w1 := zz_W cy u16_2 (zc_RL 1)) hP hD hk1 hFc hP1 hD1
  clear hPc hDc hFc hP1 hD1 hk1 hz1
  generalize H1 = H at hPz hS ⊢
  subst he1
  have hP := hPz
  have hD := hDz
  have hP : va_P D vwCl ((h0, .inr (5, [.ref (u5_1 0 0 0), .null, .null, .null, .null])) :: ((zz_W cy u5_1 (zc_RL 0)) ++ zz_W cy u16_2 (zc_RL 1))) H := hP
  have hD : va_D A ((h0, .inr (5, [.ref (u5_1 0 0 0), .null, .null, .null, .null])) :: ((zz_W cy u5_1 (zc_RL 0)) ++ zz_W cy u16_2 (zc_RL 1))) := hD
  refine va_putF (D := D) (ci := 5) (v := .ref (u16_2 1 0 0)) (ty := .object "WheelDesk$Craft") (C := RX5) (T := TX5) (N := 5) hx hb hts hinF tyX5 tyX5_ok nmX5 hown hK hP hD hS 0 rfl rfl 1 (by decide) (hts (.fieldLink RX5 16 "WheelDesk" "trial" "LWheelDesk$Craft;") (by decide +kernel)) (fun _ h9 => h9) rfl hin rfl (by decide +kernel) rfl rfl (Nat.le_of_ble_eq_true rfl) dX5_init_23 (fun H locs hP hD hS => ?_)
  have hP : va_P D vwCl ((h0, .inr (5, [.ref (u5_1 0 0 0), .ref (u16_2 1 0 0), .null, .null, .null])) :: ((zz_W cy u5_1 (zc_RL 0)) ++ zz_W cy u16_2 (zc_RL 1))) H := hP
  have hD : va_D A ((h0, .inr (5, [.ref (u5_1 0 0 0), .ref (u16_2 1 0 0), .null, .null, .null])) :: ((zz_W cy u5_1 (zc_RL 0)) ++ zz_W cy u16_2 (zc_RL 1))) := hD
  refine lv_aload_n hx hb dX5_init_26 rfl (lv_at hl 0 rfl) ?_
  refine va_new (ci := 3) (fs := [.null, .null, .null, .long (lO 0)]) (C := RX3) (T := TX3) (N := 4) hx hb hts hinX3 tyX3 tyX3_ok hown (hts (.classLink RX5 19 RX3) (by decide +kernel)) (hts (.instantiable RX3 4) (by decide +kernel)) (hts (.initialized RX3) (by decide +kernel)) hK hP hD hS hA rfl (fun j hj => by rcases (show j = 0 ∨ j = 1 ∨ j = 2 ∨ j = 3 by omega) with rfl | rfl | rfl | rfl <;> rfl) (Nat.le_of_ble_eq_true rfl) (Nat.le_of_ble_eq_true rfl) dX5_init_27 (fun q27_3 H hP hD hS => ?_)
  have hP : va_P D vwCl (((h0, .inr (5, [.ref (u5_1 0 0 0), .ref (u16_2 1 0 0), .null, .null, .null])) :: ((zz_W cy u5_1 (zc_RL 0)) ++ zz_W cy u16_2 (zc_RL 1))) ++ [(q27_3, .inr (3, [.null, .null, .null, .long (lO 0)]))]) H := hP
  have hD : va_D A (((h0, .inr (5, [.ref (u5_1 0 0 0), .ref (u16_2 1 0 0), .null, .null, .null])) :: ((zz_W cy u5_1 (zc_RL 0)) ++ zz_W cy u16_2 (zc_RL 1))) ++ [(q27_3, .inr (3, [.null, .null, .null, .long (lO 0)]))]) := hD
  refine lv_dup hx hb dX5_init_30 rfl ?_
  have hPc : va_P D vwCl [(q27_3, .inr (3, [.null, .null, .null, .long (lO 0)]))] H := z_cut (X := (h0, .inr (5, [.ref (u5_1 0 0 0), .ref (u16_2 1 0 0), .null, .null, .null])) :: ((zz_W cy u5_1 (zc_RL 0)) ++ zz_W cy u16_2 (zc_RL 1))) hP
  have hDc : va_D (fun _ => True) [(q27_3, .inr (3, [.null, .null, .null, .long (lO 0)]))] := (z_cutD (X := (h0, .inr (5, [.ref (u5_1 0 0 0), .ref (u16_2 1 0 0), .null, .null, .null])) :: ((zz_W cy u5_1 (zc_RL 0)) ++ zz_W cy u16_2 (zc_RL 1))) hD).weaken (fun _ _ _ _ => trivial)
  have hFc := z_free (X := (h0, .inr (5, [.ref (u5_1 0 0 0), .ref (u16_2 1 0 0), .null, .null, .null])) :: ((zz_W cy u5_1 (zc_RL 0)) ++ zz_W cy u16_2 (zc_RL 1))) (wc := [(q27_3, .inr (3, [.null, .null, .null, .long (lO 0)]))]) hD hS hA
  refine va_callv (va_runIN (As := []) (rest := [.ref q27_3, .ref h0]) ⟨hx, hb, hml, hown, hts⟩ (c_X3_init l D cy q27_3 H.size) ⟨va_cnB 0 hts gX5_init_X3_init_n21 rfl rfl rfl (hN (RX5, 21, yX3_init, "WheelDesk") (by decide +kernel)) (hts (.initialized RX3) (by decide +kernel)) (by decide +kernel) ⟨(Nat.le_of_ble_eq_true rfl), (Nat.le_of_ble_eq_true rfl)⟩, rfl, hts (.instanceMethod yX3_init) (by decide +kernel)⟩ ⟨z_blind, fun U hU hW => ⟨rfl, by rw [hU], by rw [hU]; exact hPc, va_K.moved hW.alike hK, hDc, q_N.warm hW hN, hO.moved hW.alike⟩⟩ rfl rfl hl.1 rfl (lv_room (Nat.le_of_ble_eq_true rfl)) dX5_init_31 ⟨(Nat.le_of_ble_eq_true rfl), (Nat.le_of_ble_eq_true rfl)⟩) hS (fun q _ h => hFc q h) hFc (fun u27_3 t H1 locs ht hvm hw hB hz1 hk1 hS => ?_)
  obtain ⟨he1, hP1, hD1⟩ := hB
  rw [ht] at hP1
  obtain ⟨hPz, hDz⟩ := z_join (X := (h0, .inr (5, [.ref (u5_1 0 0 0), .ref (u16_2 1 0 0), .null, .null, .null])) :: ((zz_W cy u5_1 (zc_RL 0)) ++ zz_W cy u16_2 (zc_RL 1))) (wc := [(q27_3, .inr (3, [.null, .null, .null, .long (lO 0)]))]) (w1 := zz_W cy u27_3 zs_RL) hP hD hk1 hFc hP1 hD1
  clear hPc hDc hFc hP1 hD1 hk1 hz1
  generalize H1 = H at hPz hS ⊢
  subst he1
  have hP := hPz
  have hD := hDz
  have hP : va_P D vwCl ((h0, .inr (5, [.ref (u5_1 0 0 0), .ref (u16_2 1 0 0), .null, .null, .null])) :: (((zz_W cy u5_1 (zc_RL 0)) ++ zz_W cy u16_2 (zc_RL 1)) ++ zz_W cy u27_3 zs_RL)) H := hP
  have hD : va_D A ((h0, .inr (5, [.ref (u5_1 0 0 0), .ref (u16_2 1 0 0), .null, .null, .null])) :: (((zz_W cy u5_1 (zc_RL 0)) ++ zz_W cy u16_2 (zc_RL 1)) ++ zz_W cy u27_3 zs_RL)) := hD
  refine va_putF (D := D) (ci := 5) (v := .ref (u27_3 0 12 0)) (ty := .object "WheelDesk$Sharing") (C := RX5) (T := TX5) (N := 5) hx hb hts hinF tyX5 tyX5_ok nmX5 hown hK hP hD hS 0 rfl rfl 2 (by decide) (hts (.fieldLink RX5 22 "WheelDesk" "sharing" "LWheelDesk$Sharing;") (by decide +kernel)) (fun _ h9 => h9) rfl hin rfl (by decide +kernel) rfl rfl (Nat.le_of_ble_eq_true rfl) dX5_init_34 (fun H locs hP hD hS => ?_)
  have hP : va_P D vwCl ((h0, .inr (5, [.ref (u5_1 0 0 0), .ref (u16_2 1 0 0), .ref (u27_3 0 12 0), .null, .null])) :: (((zz_W cy u5_1 (zc_RL 0)) ++ zz_W cy u16_2 (zc_RL 1)) ++ zz_W cy u27_3 zs_RL)) H := hP
  have hD : va_D A ((h0, .inr (5, [.ref (u5_1 0 0 0), .ref (u16_2 1 0 0), .ref (u27_3 0 12 0), .null, .null])) :: (((zz_W cy u5_1 (zc_RL 0)) ++ zz_W cy u16_2 (zc_RL 1)) ++ zz_W cy u27_3 zs_RL)) := hD
  refine lv_aload_n hx hb dX5_init_37 rfl (lv_at hl 0 rfl) ?_
  refine va_new (ci := 2) (fs := [.null, .null]) (C := RX2) (T := TX2) (N := 2) hx hb hts hinX2 tyX2 tyX2_ok hown (hts (.classLink RX5 26 RX2) (by decide +kernel)) (hts (.instantiable RX2 2) (by decide +kernel)) (hts (.initialized RX2) (by decide +kernel)) hK hP hD hS hA rfl (fun j hj => by rcases (show j = 0 ∨ j = 1 by omega) with rfl | rfl <;> rfl) (Nat.le_of_ble_eq_true rfl) (Nat.le_of_ble_eq_true rfl) dX5_init_38 (fun q38_4 H hP hD hS => ?_)
  have hP : va_P D vwCl (((h0, .inr (5, [.ref (u5_1 0 0 0), .ref (u16_2 1 0 0), .ref (u27_3 0 12 0), .null, .null])) :: (((zz_W cy u5_1 (zc_RL 0)) ++ zz_W cy u16_2 (zc_RL 1)) ++ zz_W cy u27_3 zs_RL)) ++ [(q38_4, .inr (2, [.null, .null]))]) H := hP
  have hD : va_D A (((h0, .inr (5, [.ref (u5_1 0 0 0), .ref (u16_2 1 0 0), .ref (u27_3 0 12 0), .null, .null])) :: (((zz_W cy u5_1 (zc_RL 0)) ++ zz_W cy u16_2 (zc_RL 1)) ++ zz_W cy u27_3 zs_RL)) ++ [(q38_4, .inr (2, [.null, .null]))]) := hD
  refine lv_dup hx hb dX5_init_41 rfl ?_
  have hPc : va_P D vwCl [(q38_4, .inr (2, [.null, .null]))] H := z_cut (X := (h0, .inr (5, [.ref (u5_1 0 0 0), .ref (u16_2 1 0 0), .ref (u27_3 0 12 0), .null, .null])) :: (((zz_W cy u5_1 (zc_RL 0)) ++ zz_W cy u16_2 (zc_RL 1)) ++ zz_W cy u27_3 zs_RL)) hP
  have hDc : va_D (fun _ => True) [(q38_4, .inr (2, [.null, .null]))] := (z_cutD (X := (h0, .inr (5, [.ref (u5_1 0 0 0), .ref (u16_2 1 0 0), .ref (u27_3 0 12 0), .null, .null])) :: (((zz_W cy u5_1 (zc_RL 0)) ++ zz_W cy u16_2 (zc_RL 1)) ++ zz_W cy u27_3 zs_RL)) hD).weaken (fun _ _ _ _ => trivial)
  have hFc := z_free (X := (h0, .inr (5, [.ref (u5_1 0 0 0), .ref (u16_2 1 0 0), .ref (u27_3 0 12 0), .null, .null])) :: (((zz_W cy u5_1 (zc_RL 0)) ++ zz_W cy u16_2 (zc_RL 1)) ++ zz_W cy u27_3 zs_RL)) (wc := [(q38_4, .inr (2, [.null, .null]))]) hD hS hA
  refine va_callv (va_runIN (As := []) (rest := [.ref q38_4, .ref h0]) ⟨hx, hb, hml, hown, hts⟩ (c_X2_init l D cy q38_4 H.size) ⟨va_cnB 0 hts gX5_init_X2_init_n28 rfl rfl rfl (hN (RX5, 28, yX2_init, "WheelDesk") (by decide +kernel)) (hts (.initialized RX2) (by decide +kernel)) (by decide +kernel) ⟨(Nat.le_of_ble_eq_true rfl), (Nat.le_of_ble_eq_true rfl)⟩, rfl, hts (.instanceMethod yX2_init) (by decide +kernel)⟩ ⟨z_blind, fun U hU hW => ⟨rfl, by rw [hU], by rw [hU]; exact hPc, va_K.moved hW.alike hK, hDc, q_N.warm hW hN, hO.moved hW.alike⟩⟩ rfl rfl hl.1 rfl (lv_room (Nat.le_of_ble_eq_true rfl)) dX5_init_42 ⟨(Nat.le_of_ble_eq_true rfl), (Nat.le_of_ble_eq_true rfl)⟩) hS (fun q _ h => hFc q h) hFc (fun u38_4 t H1 locs ht hvm hw hB hz1 hk1 hS => ?_)
  obtain ⟨he1, hP1, hD1⟩ := hB
  rw [ht] at hP1
  obtain ⟨hPz, hDz⟩ := z_join (X := (h0, .inr (5, [.ref (u5_1 0 0 0), .ref (u16_2 1 0 0), .ref (u27_3 0 12 0), .null, .null])) :: (((zz_W cy u5_1 (zc_RL 0)) ++ zz_W cy u16_2 (zc_RL 1)) ++ zz_W cy u27_3 zs_RL)) (wc := [(q38_4, .inr (2, [.null, .null]))]) (w1 := zz_W cy u38_4 zg_RL) hP hD hk1 hFc hP1 hD1
  clear hPc hDc hFc hP1 hD1 hk1 hz1
  generalize H1 = H at hPz hS ⊢
  subst he1
  have hP := hPz
  have hD := hDz
  have hP : va_P D vwCl ((h0, .inr (5, [.ref (u5_1 0 0 0), .ref (u16_2 1 0 0), .ref (u27_3 0 12 0), .null, .null])) :: ((((zz_W cy u5_1 (zc_RL 0)) ++ zz_W cy u16_2 (zc_RL 1)) ++ zz_W cy u27_3 zs_RL) ++ zz_W cy u38_4 zg_RL)) H := hP
  have hD : va_D A ((h0, .inr (5, [.ref (u5_1 0 0 0), .ref (u16_2 1 0 0), .ref (u27_3 0 12 0), .null, .null])) :: ((((zz_W cy u5_1 (zc_RL 0)) ++ zz_W cy u16_2 (zc_RL 1)) ++ zz_W cy u27_3 zs_RL) ++ zz_W cy u38_4 zg_RL)) := hD
  refine va_putF (D := D) (ci := 5) (v := .ref (u38_4 0 18 0)) (ty := .object "WheelDesk$Magnets") (C := RX5) (T := TX5) (N := 5) hx hb hts hinF tyX5 tyX5_ok nmX5 hown hK hP hD hS 0 rfl rfl 3 (by decide) (hts (.fieldLink RX5 29 "WheelDesk" "magnets" "LWheelDesk$Magnets;") (by decide +kernel)) (fun _ h9 => h9) rfl hin rfl (by decide +kernel) rfl rfl (Nat.le_of_ble_eq_true rfl) dX5_init_45 (fun H locs hP hD hS => ?_)
  have hP : va_P D vwCl ((h0, .inr (5, [.ref (u5_1 0 0 0), .ref (u16_2 1 0 0), .ref (u27_3 0 12 0), .ref (u38_4 0 18 0), .null])) :: ((((zz_W cy u5_1 (zc_RL 0)) ++ zz_W cy u16_2 (zc_RL 1)) ++ zz_W cy u27_3 zs_RL) ++ zz_W cy u38_4 zg_RL)) H := hP
  have hD : va_D A ((h0, .inr (5, [.ref (u5_1 0 0 0), .ref (u16_2 1 0 0), .ref (u27_3 0 12 0), .ref (u38_4 0 18 0), .null])) :: ((((zz_W cy u5_1 (zc_RL 0)) ++ zz_W cy u16_2 (zc_RL 1)) ++ zz_W cy u27_3 zs_RL) ++ zz_W cy u38_4 zg_RL)) := hD
  refine lv_aload_n hx hb dX5_init_48 rfl (lv_at hl 0 rfl) ?_
  refine va_new (ci := 1) (fs := [.null, .int (iO 0)]) (C := RX1) (T := TX1) (N := 2) hx hb hts hinX1 tyX1 tyX1_ok hown (hts (.classLink RX5 33 RX1) (by decide +kernel)) (hts (.instantiable RX1 2) (by decide +kernel)) (hts (.initialized RX1) (by decide +kernel)) hK hP hD hS hA rfl (fun j hj => by rcases (show j = 0 ∨ j = 1 by omega) with rfl | rfl <;> rfl) (Nat.le_of_ble_eq_true rfl) (Nat.le_of_ble_eq_true rfl) dX5_init_49 (fun q49_5 H hP hD hS => ?_)
  have hP : va_P D vwCl (((h0, .inr (5, [.ref (u5_1 0 0 0), .ref (u16_2 1 0 0), .ref (u27_3 0 12 0), .ref (u38_4 0 18 0), .null])) :: ((((zz_W cy u5_1 (zc_RL 0)) ++ zz_W cy u16_2 (zc_RL 1)) ++ zz_W cy u27_3 zs_RL) ++ zz_W cy u38_4 zg_RL)) ++ [(q49_5, .inr (1, [.null, .int (iO 0)]))]) H := hP
  have hD : va_D A (((h0, .inr (5, [.ref (u5_1 0 0 0), .ref (u16_2 1 0 0), .ref (u27_3 0 12 0), .ref (u38_4 0 18 0), .null])) :: ((((zz_W cy u5_1 (zc_RL 0)) ++ zz_W cy u16_2 (zc_RL 1)) ++ zz_W cy u27_3 zs_RL) ++ zz_W cy u38_4 zg_RL)) ++ [(q49_5, .inr (1, [.null, .int (iO 0)]))]) := hD
  refine lv_dup hx hb dX5_init_52 rfl ?_
  have hPc : va_P D vwCl [(q49_5, .inr (1, [.null, .int (iO 0)]))] H := z_cut (X := (h0, .inr (5, [.ref (u5_1 0 0 0), .ref (u16_2 1 0 0), .ref (u27_3 0 12 0), .ref (u38_4 0 18 0), .null])) :: ((((zz_W cy u5_1 (zc_RL 0)) ++ zz_W cy u16_2 (zc_RL 1)) ++ zz_W cy u27_3 zs_RL) ++ zz_W cy u38_4 zg_RL)) hP
  have hDc : va_D (fun _ => True) [(q49_5, .inr (1, [.null, .int (iO 0)]))] := (z_cutD (X := (h0, .inr (5, [.ref (u5_1 0 0 0), .ref (u16_2 1 0 0), .ref (u27_3 0 12 0), .ref (u38_4 0 18 0), .null])) :: ((((zz_W cy u5_1 (zc_RL 0)) ++ zz_W cy u16_2 (zc_RL 1)) ++ zz_W cy u27_3 zs_RL) ++ zz_W cy u38_4 zg_RL)) hD).weaken (fun _ _ _ _ => trivial)
  have hFc := z_free (X := (h0, .inr (5, [.ref (u5_1 0 0 0), .ref (u16_2 1 0 0), .ref (u27_3 0 12 0), .ref (u38_4 0 18 0), .null])) :: ((((zz_W cy u5_1 (zc_RL 0)) ++ zz_W cy u16_2 (zc_RL 1)) ++ zz_W cy u27_3 zs_RL) ++ zz_W cy u38_4 zg_RL)) (wc := [(q49_5, .inr (1, [.null, .int (iO 0)]))]) hD hS hA
  refine va_callv (va_runI (As := []) (rest := [.ref q49_5, .ref h0]) ⟨hx, hb, hml, hown, hts⟩ (c_X1_init l D cy q49_5 H.size) (cwI 0 hts gX5_init_X1_init rfl rfl rfl (hts (.initialized RX1) (by decide +kernel)) (hts (.methodLink RX5 35 yX1_init) (by decide +kernel)) (hts (.instanceMethod yX1_init) (by decide +kernel)) rfl (by decide +kernel) ⟨(Nat.le_of_ble_eq_true rfl), (Nat.le_of_ble_eq_true rfl)⟩) ⟨z_blind, fun U hU hW => ⟨rfl, by rw [hU], by rw [hU]; exact hPc, va_K.moved hW.alike hK, hDc, q_N.warm hW hN, hO.moved hW.alike⟩⟩ rfl rfl hl.1 rfl (lv_room (Nat.le_of_ble_eq_true rfl)) dX5_init_53 ⟨(Nat.le_of_ble_eq_true rfl), (Nat.le_of_ble_eq_true rfl)⟩) hS (fun q _ h => hFc q h) hFc (fun u49_5 t H1 locs ht hvm hw hB hz1 hk1 hS => ?_)
  obtain ⟨he1, hP1, hD1⟩ := hB
  rw [ht] at hP1
  obtain ⟨hPz, hDz⟩ := z_join (X := (h0, .inr (5, [.ref (u5_1 0 0 0), .ref (u16_2 1 0 0), .ref (u27_3 0 12 0), .ref (u38_4 0 18 0), .null])) :: ((((zz_W cy u5_1 (zc_RL 0)) ++ zz_W cy u16_2 (zc_RL 1)) ++ zz_W cy u27_3 zs_RL) ++ zz_W cy u38_4 zg_RL)) (wc := [(q49_5, .inr (1, [.null, .int (iO 0)]))]) (w1 := zz_W cy u49_5 zh_RL) hP hD hk1 hFc hP1 hD1
  clear hPc hDc hFc hP1 hD1 hk1 hz1
  generalize H1 = H at hPz hS ⊢
  subst he1
  have hP := hPz
  have hD := hDz
  have hP : va_P D vwCl ((h0, .inr (5, [.ref (u5_1 0 0 0), .ref (u16_2 1 0 0), .ref (u27_3 0 12 0), .ref (u38_4 0 18 0), .null])) :: (((((zz_W cy u5_1 (zc_RL 0)) ++ zz_W cy u16_2 (zc_RL 1)) ++ zz_W cy u27_3 zs_RL) ++ zz_W cy u38_4 zg_RL) ++ zz_W cy u49_5 zh_RL)) H := hP
  have hD : va_D A ((h0, .inr (5, [.ref (u5_1 0 0 0), .ref (u16_2 1 0 0), .ref (u27_3 0 12 0), .ref (u38_4 0 18 0), .null])) :: (((((zz_W cy u5_1 (zc_RL 0)) ++ zz_W cy u16_2 (zc_RL 1)) ++ zz_W cy u27_3 zs_RL) ++ zz_W cy u38_4 zg_RL) ++ zz_W cy u49_5 zh_RL)) := hD
  refine va_putF (D := D) (ci := 5) (v := .ref (u49_5 0 21 0)) (ty := .object "WheelDesk$History") (C := RX5) (T := TX5) (N := 5) hx hb hts hinF tyX5 tyX5_ok nmX5 hown hK hP hD hS 0 rfl rfl 4 (by decide) (hts (.fieldLink RX5 36 "WheelDesk" "history" "LWheelDesk$History;") (by decide +kernel)) (fun _ h9 => h9) rfl hin rfl (by decide +kernel) rfl rfl (Nat.le_of_ble_eq_true rfl) dX5_init_56 (fun H locs hP hD hS => ?_)
  have hP : va_P D vwCl ((h0, .inr (5, [.ref (u5_1 0 0 0), .ref (u16_2 1 0 0), .ref (u27_3 0 12 0), .ref (u38_4 0 18 0), .ref (u49_5 0 21 0)])) :: (((((zz_W cy u5_1 (zc_RL 0)) ++ zz_W cy u16_2 (zc_RL 1)) ++ zz_W cy u27_3 zs_RL) ++ zz_W cy u38_4 zg_RL) ++ zz_W cy u49_5 zh_RL)) H := hP
  have hD : va_D A ((h0, .inr (5, [.ref (u5_1 0 0 0), .ref (u16_2 1 0 0), .ref (u27_3 0 12 0), .ref (u38_4 0 18 0), .ref (u49_5 0 21 0)])) :: (((((zz_W cy u5_1 (zc_RL 0)) ++ zz_W cy u16_2 (zc_RL 1)) ++ zz_W cy u27_3 zs_RL) ++ zz_W cy u38_4 zg_RL) ++ zz_W cy u49_5 zh_RL)) := hD
  refine W.widen (k := 165) (n := 687) (Nat.le_of_ble_eq_true rfl) (Nat.le_of_ble_eq_true rfl) ?_
  have key := ze_X5 hP hD
  obtain ⟨u, hu, hP9, hD9⟩ := key
  exact W.vret hx hb hr (fun t ht hW => ⟨⟨u, rfl, trivial, hu, by rw [ht]; exact hP9, hD9⟩, hS.F ht⟩) hS.2.2 dX5_init_59
