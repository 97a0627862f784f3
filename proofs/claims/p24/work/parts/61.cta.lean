/-! ===== for the constructors: cells made, in a row ===== -/
def z_AOA (t : FieldType) (U : State) : Prop := (Cond.arrayOver (.array t)).before #[] U = true
theorem z_AOA.use {t : FieldType} {A : Array Value} {U : State} (h : z_AOA t U) : (Cond.arrayOver (.array t)).before A U = true := h
theorem z_AOA.of {t : FieldType} {A : Array Value} {U : State} (h : (Cond.arrayOver (.array t)).before A U = true) : z_AOA t U := h
theorem z_AOA.moved {t : FieldType} {u U : State} (hvm : u.vm.Alike U.vm) (h : z_AOA t u) : z_AOA t U := by
  obtain ⟨comp, c, k, h1, h2, h3, h4, h5⟩ := arrayOverA_spec h
  obtain ⟨k', hk', he⟩ := hvm.2.2 _ _ h3
  have hb : U.vm.bare = u.vm.bare := by first | exact hvm.bare_eq | exact hvm.bare_eq.symm
  have hi : (U.vm.classes.findIdx? fun (x : Class) => match x.kind with | .array component _ => component == comp | _ => false) = some c := (va_idx_bare U.vm comp).symm.trans ((congrArg (fun v : Vm => v.classes.findIdx? fun (x : Class) => match x.kind with | .array component _ => component == comp | _ => false) hb).trans ((va_idx_bare u.vm comp).trans h2))
  have hkind : k'.kind = .array comp (.array t) := by rw [he]; exact h4
  have f1 : U.vm.findClass (FieldType.array t).toString = some comp := by rw [hvm.findClass]; exact h1
  have f2 : U.vm.findClass ("[" ++ (FieldType.array t).toString) = some c := by rw [hvm.findClass]; exact h5
  unfold z_AOA Cond.before Cond.holds
  simp only [Cond.value]
  rw [f1, Option.bind_some]
  refine (congrArg (fun o : Option Nat => (o.bind (fun c => (U.vm.classes[c]?).map fun (k : Class) => match k.kind with | .array _ ty => decide (ty = FieldType.array t) && decide (U.vm.findClass ("[" ++ (FieldType.array t).toString) = some c) | _ => false) == some true)) hi).trans ?_
  simp [hk', hkind, f2]
/-- the classes of arrays that the constructors ask for -/
def z_O (U : State) : Prop := va_AO RX4 U ∧ va_AO RX0 U ∧ z_AOA .int U ∧ z_AOA .long U
theorem z_O.moved {u U : State} (hvm : u.vm.Alike U.vm) (h : z_O u) : z_O U := ⟨h.1.moved hvm, h.2.1.moved hvm, h.2.2.1.moved hvm, h.2.2.2.moved hvm⟩
theorem z_ra {U : State} {ty : FieldType} {a b : ClassId} (h : va_RA U a ty) (h' : va_RA U b ty) : b = a := by
  cases ty with
  | object C =>
    obtain ⟨-, -, -, -, -, h4⟩ := h
    obtain ⟨-, -, -, -, -, h4'⟩ := h'
    exact Option.some.inj (h4'.symm.trans h4)
  | _ => exact Option.some.inj (Eq.trans (Eq.symm h') h)
def z_B (D : va_G) (cy : Nat → ClassId) (sz : Nat) (ws : va_W) (U : State) : Prop := U.heap.size = sz ∧ va_P D vwCl ws U.heap ∧ va_K D vwCl (q_ty cy) U ∧ va_D (fun _ => True) ws ∧ q_N U ∧ z_O U
theorem z_blind {D : va_G} {cy : Nat → ClassId} {ws : va_W} {vs : List Value} {sz : Nat} : FrameBlind (va_Pc vs (z_B D cy sz ws)) := fun a U g mk q => by
  obtain ⟨q0, q1, qP, qK, qD, qN, qO⟩ := q
  exact ⟨q0, q1, qP, va_K.moved (u := U) (U := U.calling g mk a) (Vm.Alike.refl U.vm) qK, qD, q_N.same (u := U) rfl qN, qO.moved (u := U) (U := U.calling g mk a) (Vm.Alike.refl U.vm)⟩
theorem z_arr_i {c : ClassId} {n : Nat} {f g : Nat → Int32} (h : ∀ j : Nat, j < n → f j = g j) : vp_cell c (n, .inl f) = vp_cell c (n, .inl g) := by
  rw [vp_cell_i, vp_cell_i]
  exact q_arrV fun j hj => by rw [h j hj]
theorem z_arr_l {c : ClassId} {n : Nat} {f g : Nat → Int64} (h : ∀ j : Nat, j < n → f j = g j) : vp_cell c (n, .inr (.inl f)) = vp_cell c (n, .inr (.inl g)) := by
  rw [vp_cell_l, vp_cell_l]
  exact q_arrV fun j hj => by rw [h j hj]
theorem z_arr_q {c : ClassId} {n : Nat} {f g : Nat → Option Nat} (h : ∀ j : Nat, j < n → f j = g j) : vp_cell c (n, .inr (.inr (.inr (.inr f)))) = vp_cell c (n, .inr (.inr (.inr (.inr g)))) := by
  rw [vp_cell_q, vp_cell_q]
  exact q_arrV fun j hj => by rw [h j hj]
theorem z_in {i : Int32} {n : Nat} (h : ¬ (i < 0 ∨ n ≤ i.toNatClampNeg)) : vp_in i n := h
/-! a list of cells, cut in two -/
theorem z_cut {D : va_G} {cl : List vw_C} {X wc : va_W} {H : Heap} (hP : va_P D cl (X ++ wc) H) : va_P D cl wc H := fun k q hk => hP (X.length + k) q (by rw [List.getElem?_append_right (Nat.le_add_right _ _), Nat.add_sub_cancel_left]; exact hk)
theorem z_left {D : va_G} {cl : List vw_C} {X wc : va_W} {H : Heap} (hP : va_P D cl (X ++ wc) H) : va_P D cl X H := fun k q hk => hP k q (by rw [List.getElem?_append_left (List.getElem?_eq_some_iff.mp hk).1]; exact hk)
theorem z_cutD {A : Nat → Prop} {X wc : va_W} (hD : va_D A (X ++ wc)) : va_D A wc := by
  have h : ∀ (k : Nat) (q : Nat × va_E), wc[k]? = some q → (X ++ wc)[X.length + k]? = some q := fun k q hk => by
    rw [List.getElem?_append_right (Nat.le_add_right _ _), Nat.add_sub_cancel_left]
    exact hk
  refine ⟨fun i j p q hi hj e => ?_, fun k q hk => hD.2 _ q (h k q hk)⟩
  have := hD.1 _ _ p q (h i p hi) (h j q hj) e
  omega
theorem z_free {A0 : Nat → Prop} {X wc : va_W} {H0 H : Heap} {locs : List Loc} (hD : va_D A0 (X ++ wc)) (hS : va_S A0 H0 H locs) (hA : ∀ q, H0.size ≤ q → A0 q) : ∀ q, va_A wc H.size q → A0 q := by
  intro q h
  rcases h with ⟨k, e, h⟩ | h
  · exact (z_cutD hD).2 k (q, e) h
  · exact hA q (Nat.le_trans hS.1 h)
theorem z_join {A0 : Nat → Prop} {D : va_G} {cl : List vw_C} {X wc w1 : va_W} {H H1 : Heap} (hP : va_P D cl (X ++ wc) H) (hD : va_D A0 (X ++ wc)) (hk : ∀ q : Nat, q < H.size → ¬ va_A wc H.size q → H1[q]? = H[q]?) (hF : ∀ q, va_A wc H.size q → A0 q) (hP1 : va_P D cl w1 H1) (hD1 : va_D (va_A wc H.size) w1) : va_P D cl (X ++ w1) H1 ∧ va_D A0 (X ++ w1) := by
  have hl : ∀ (k : Nat) (q : Nat × va_E), X[k]? = some q → (X ++ wc)[k]? = some q := fun k q hk => by
    rw [List.getElem?_append_left (List.getElem?_eq_some_iff.mp hk).1]
    exact hk
  have ap : ∀ (k : Nat) (q : Nat × va_E), X[k]? = some q → q.1 < H.size ∧ ¬ va_A wc H.size q.1 := fun k q hq => by
    have lt := (hP k q (hl k q hq)).lt
    refine ⟨lt, fun z => ?_⟩
    rcases z with ⟨i, e, hi⟩ | z
    · have hi2 : (X ++ wc)[X.length + i]? = some (q.1, e) := by
        rw [List.getElem?_append_right (Nat.le_add_right _ _), Nat.add_sub_cancel_left]
        exact hi
      have := hD.1 _ _ _ _ (hl k q hq) hi2 rfl
      have := (List.getElem?_eq_some_iff.mp hq).1
      omega
    · omega
  refine ⟨va_P.app (fun k q hq => (hP k q (hl k q hq)).kept (hk q.1 (ap k q hq).1 (ap k q hq).2)) hP1, va_D.app ⟨fun i j p q hi hj e => hD.1 i j p q (hl i p hi) (hl j q hj) e, fun k q hq => hD.2 k q (hl k q hq)⟩ ⟨hD1.1, fun k q hq => hF _ (hD1.2 k q hq)⟩ (fun i j p q hp hq e => ?_)⟩
  exact (ap i p hp).2 (by rw [e]; exact hD1.2 j q hq)
section ZCT
variable {p : Program} {l : Launch} {e : Env} {R : Room} {s : State} {m : MethodId} {args : Array Value} {below : List Frame} {meth : Method} {c : Code} {H : Heap} {locs : List Loc} {cells slots : Nat} {Q : State → Prop}
variable {cc : ByteArray} {pc : Nat} {ls : Array Slot} {rest : List Value} {D : va_G} {cl : List vw_C} {A : Nat → Prop} {a : Nat} {tys : List (ClassId × FieldType)} {ws : va_W} {H0 : Heap}
theorem z_newa (hexec : p.tables.exec = Jvm.exec) (hb : c.code = cc) {atype : ArrayType} (harr : (Cond.arrayClass (newarray.typeOf atype)).before args s = true) {ty : FieldType} (hty : newarray.typeOf atype = ty) (hK : va_K D cl tys s) (t0 : Nat) {cA : ClassId} (ht : tys[t0]? = some (cA, ty)) (hP : va_P D cl ws H) (hD : va_D A ws) (hS : va_S A H0 H locs) (hA : ∀ q, H0.size ≤ q → A q)
    {n : Int32} {N' : Nat} {a0 : vp_A} (ha : ∀ cA : ClassId, vp_cell cA a0 = arrV cA N' (fun _ => defaultValue ty)) (hn : ¬ n < 0) (hN : n.toNatClampNeg = N') (hbytes : N' * componentBytes ty ≤ 536870912) (hcells : cells + 1 ≤ R.cells) (hslots : slots + N' ≤ R.slots) (hdg : decode cc pc = .ok (.newarray atype, 2))
    (kk : ∀ (q : Nat) (H1 : Heap), va_P D cl (ws ++ [(q, .inl (cA, a0))]) H1 → va_D A (ws ++ [(q, .inl (cA, a0))]) → va_S A H0 H1 locs → W p l e R s m args below meth c H1 locs (cells + 1) (slots + N') Q (F0 m (pc + 2) ls (.ref q :: rest))) : W p l e R s m args below meth c H locs cells slots Q (F0 m pc ls (.int n :: rest)) := by
  refine va_newa hexec hb harr hty hK hP hD hS hA ha hn hN hbytes hcells hslots hdg (fun q cB H1 hK1 hP1 hD1 hS1 => ?_)
  have e : cB = cA := z_ra (hK.2 t0 _ ht).2 (hK1.2 tys.length (cB, ty) (by simp)).2
  subst e
  exact kk q H1 hP1 hD1 hS1
theorem z_newq (hexec : p.tables.exec = Jvm.exec) (hb : c.code = cc) {own C : String} {index : Nat} (hown : s.vm.findClass own = some m.cls) (hclink : (Cond.classLink own index C).before args s = true) (hover : va_AO C s) (hK : va_K D cl tys s) (t0 : Nat) {cA : ClassId} (ht : tys[t0]? = some (cA, .object C)) (hP : va_P D cl ws H) (hD : va_D A ws) (hS : va_S A H0 H locs) (hA : ∀ q, H0.size ≤ q → A q)
    {n : Int32} {N' : Nat} (hn : ¬ n < 0) (hN : n.toNatClampNeg = N') (hbytes : N' * 4 ≤ 536870912) (hcells : cells + 1 ≤ R.cells) (hslots : slots + N' ≤ R.slots) (hdg : decode cc pc = .ok (.anewarray index, 3))
    (kk : ∀ (q : Nat) (H1 : Heap), va_P D cl (ws ++ [(q, .inl (cA, N', .inr (.inr (.inr (.inr (fun _ => none))))))]) H1 → va_D A (ws ++ [(q, .inl (cA, N', .inr (.inr (.inr (.inr (fun _ => none))))))]) → va_S A H0 H1 locs → W p l e R s m args below meth c H1 locs (cells + 1) (slots + N') Q (F0 m (pc + 3) ls (.ref q :: rest))) : W p l e R s m args below meth c H locs cells slots Q (F0 m pc ls (.int n :: rest)) := by
  refine va_newq hexec hb hown hclink hover hK hP hD hS hA hn hN hbytes hcells hslots hdg (fun q cB H1 hK1 hP1 hD1 hS1 => ?_)
  have e : cB = cA := z_ra (hK.2 t0 _ ht).2 (hK1.2 tys.length (cB, .object C) (by simp)).2
  subst e
  exact kk q H1 hP1 hD1 hS1
theorem z_ald (hexec : p.tables.exec = Jvm.exec) (hb : c.code = cc) (hK : va_K D cl tys s) (hP : va_P D cl ws H) (q0 t0 : Nat) {cA : ClassId} {ty : FieldType} {n : Nat} {f : Nat → Option Nat} (ha : ws[q0]? = some (a, .inl (cA, n, .inr (.inr (.inr (.inr f)))))) (ht : tys[t0]? = some (cA, ty)) (href : ty.isReference = true) {i : Int32} (hin : vp_in i n) (hdg : decode cc pc = .ok (.aaload, 1))
    (kk : W p l e R s m args below meth c H locs cells slots Q (F0 m (pc + 1) ls (va_rf (f i.toNatClampNeg) :: rest))) : W p l e R s m args below meth c H locs cells slots Q (F0 m pc ls (.int i :: .ref a :: rest)) := by
  have hlt : i.toNatClampNeg < n := Nat.not_le.mp fun q => hin (Or.inr q)
  exact W.aald (v := va_rf (f i.toNatClampNeg)) (ty := ty) hexec hb (hP q0 _ ha) ((hK.2 t0 _ ht).1 n (fun j => va_rf (f j))) href (fun q => by cases q) (by show ¬ (i < 0 ∨ (arrV _ _ _).slots.size ≤ _); rw [arrV_size]; exact hin) (by show (arrV _ _ _).slots[_]? = _; rw [arrV_read _ _ hlt]) rfl rfl hdg kk
theorem z_nth {b N : Nat} {eo e1 : va_E} : ∀ (k : Nat) (x : Nat × va_E), ((b, eo) :: (List.range N).map (fun i => (b + 1 + i, e1)))[k]? = some x → x.1 = b + k ∧ ((k = 0 ∧ x = (b, eo)) ∨ (∃ j, k = j + 1 ∧ j < N ∧ x = (b + 1 + j, e1))) := by
  intro k x hx
  cases k with
  | zero =>
    cases hx
    exact ⟨rfl, Or.inl ⟨rfl, rfl⟩⟩
  | succ j =>
    rw [List.getElem?_cons_succ, List.getElem?_map] at hx
    by_cases hj : j < N
    · rw [List.getElem?_range hj] at hx
      cases hx
      exact ⟨by show b + 1 + j = _; omega, Or.inr ⟨j, rfl, hj, rfl⟩⟩
    · rw [List.getElem?_eq_none (by rw [List.length_range]; omega)] at hx
      cases hx
theorem z_mna (hexec : p.tables.exec = Jvm.exec) (hb : c.code = cc) {own : String} {index : Nat} {ty : FieldType} (hown : s.vm.findClass own = some m.cls) (hclink : (Cond.classLink own index ("[" ++ (FieldType.array ty).toString)).before args s = true) (hover : z_AOA ty s) (harr : (Cond.arrayClass ty).before args s = true)
    (hK : va_K D cl tys s) (t0 t1 : Nat) {cA cB : ClassId} (ht0 : tys[t0]? = some (cA, .array ty)) (ht1 : tys[t1]? = some (cB, ty)) (hprim : va_RA s cB ty → s.vm.findClass (FieldType.array ty).toString = some cB) (hP : va_P D cl ws H) (hD : va_D A ws) (hS : va_S A H0 H locs) (hA : ∀ q, H0.size ≤ q → A q)
    {n k : Int32} {N M : Nat} {z : vp_A} (hn : ¬ n < 0) (hk : ¬ k < 0) (hN : n.toNatClampNeg = N) (hM : k.toNatClampNeg = M) (hb1 : N * 4 ≤ 536870912) (hb2 : M * componentBytes ty ≤ 536870912) (hb3 : M ≤ 536870912) (hdf : fits ty (defaultValue ty) = true) (hcells : cells + (1 + N) ≤ R.cells) (hslots : slots + (N + N * M) ≤ R.slots) (hz : ∀ c : ClassId, vp_cell c z = arrV c M (fun _ => defaultValue ty)) (hdg : decode cc pc = .ok (.multianewarray index 2, 4))
    (kk : ∀ (q : Nat) (r : Nat → Nat) (H1 : Heap), va_P D cl (ws ++ ((q, .inl (cA, N, .inr (.inr (.inr (.inr (fun i => if i < N then some (r i) else none)))))) :: (List.range N).map (fun i => (r i, .inl (cB, z))))) H1 → va_D A (ws ++ ((q, .inl (cA, N, .inr (.inr (.inr (.inr (fun i => if i < N then some (r i) else none)))))) :: (List.range N).map (fun i => (r i, .inl (cB, z))))) → va_S A H0 H1 locs → W p l e R s m args below meth c H1 locs (cells + 1 + N) (slots + N + N * M) Q (F0 m (pc + 4) ls (.ref q :: rest))) : W p l e R s m args below meth c H locs cells slots Q (F0 m pc ls (.int k :: .int n :: rest)) := by
  refine zm_new hexec hb hown hclink hover.use harr hn hk hN hM hb1 hb2 hb3 hdf hcells hslots hdg (fun cA' cB' H1 g1 g2 z1 f2 f3 f4 => ?_)
  have e1 : cA' = cA := Option.some.inj (g1.symm.trans (hK.2 t0 _ ht0).2)
  have e2 : cB' = cB := Option.some.inj (g2.symm.trans (hprim (hK.2 t1 _ ht1).2))
  subst e1
  subst e2
  have hkept : ∀ (i : Nat) (x : Nat × va_E), ws[i]? = some x → H1[x.1]? = H[x.1]? := fun i x hx => f4 x.1 ((hP i x hx).lt)
  refine kk H.size (fun i => H.size + 1 + i) H1 ((hP.kept hkept).app (fun i x hx => ?_)) (va_D.app hD ⟨fun i j x y hi hj hxy => ?_, fun i x hx => ?_⟩ (fun i j x y hx hy hxy => ?_)) ⟨by have := hS.1; omega, fun x h1 h2 => (f4 x (Nat.lt_of_lt_of_le h1 hS.1)).trans (hS.2.1 x h1 h2), hS.2.2⟩
  · obtain ⟨-, ⟨-, rfl⟩ | ⟨j, -, hj, rfl⟩⟩ := z_nth i x hx
    · show H1[H.size]? = some (vp_cell _ _)
      rw [f2, vp_cell_q]
    · show H1[H.size + 1 + j]? = some (vp_cell _ _)
      rw [f3 j hj, hz]
  · have a1 := (z_nth i x hi).1
    have a2 := (z_nth j y hj).1
    omega
  · have a1 := (z_nth i x hx).1
    exact hA _ (by have := hS.1; omega)
  · have a1 := (z_nth j y hy).1
    have a2 := (hP i x hx).lt
    omega
end ZCT
