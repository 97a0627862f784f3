/-! ===== the machine's first state, and lists of roles ===== -/
def z_v0 (s : Int) : Int := if s = 0 then 10 else if s = 1 then 60 else if s = 2 then 500 else if s = 3 then 2000 else if s = 14 then 100 else if s = 22 then 100 else if s = 30 then 100 else if s = 8 then 0 else if s = 9 then -2000009 else if s = 10 then -2000009 else 0
def z_s0 : q_M := fun _ p k s => match p with
  | 0 => if s = 2 then 1 else 0
  | 1 => if s = 0 then 10 else if s = 1 then 60 else if s = 2 then 500 else if s = 3 then 2000 else 0
  | 3 => if k = 0 then 100 else 0
  | 22 => s + 2
  | 25 => z_v0 s
  | _ => 0
def zz_W (cy : Nat → ClassId) (u : q_A) (RL : List q_R) : va_W := RL.map fun r => (u r.1 r.2.1 r.2.2, q_shp cy u r (z_s0 r.1 r.2.1 r.2.2))
def zc_RL (c : Int) : List q_R := [(c, 0, 0), (c, 1, 0), (c, 2, 0), (c, 3, 0), (c, 3, 1), (c, 3, 2), (c, 3, 3), (c, 4, 0), (c, 5, 0), (c, 6, 0), (c, 7, 0), (c, 8, 0), (c, 9, 0), (c, 10, 0), (c, 11, 0), (c, 10, 1), (c, 11, 1), (c, 10, 2), (c, 11, 2), (c, 10, 3), (c, 11, 3), (c, 10, 4), (c, 11, 4), (c, 10, 5), (c, 11, 5)]
def zs_RL : List q_R := [(0, 12, 0), (0, 13, 0), (0, 15, 0), (0, 15, 1), (0, 15, 2), (0, 14, 0), (0, 16, 0), (0, 16, 1), (0, 16, 2), (0, 17, 0)]
def zg_RL : List q_R := [(0, 18, 0), (0, 19, 0), (0, 20, 0)]
def zh_RL : List q_R := (0, 21, 0) :: (0, 22, 0) :: (((zc_RL 2 ++ zc_RL 3) ++ zc_RL 4) ++ zc_RL 5)
def zd_RL : List q_R := (0, 23, 0) :: ((((zc_RL 0 ++ zc_RL 1) ++ zs_RL) ++ zg_RL) ++ zh_RL)
def zm_RL : List q_R := [(0, 26, 0), (0, 27, 0), (0, 28, 0), (0, 29, 0), (0, 30, 0), (0, 31, 0), (0, 32, 0), (0, 33, 0), (0, 24, 0), (0, 25, 0)]
theorem zz_app (cy : Nat → ClassId) (u : q_A) (a b : List q_R) : zz_W cy u (a ++ b) = zz_W cy u a ++ zz_W cy u b := List.map_append
theorem z_Dsame {A : Nat → Prop} {ws ws' : va_W} (h : ws.map Prod.fst = ws'.map Prod.fst) (hD : va_D A ws) : va_D A ws' := by
  have key : ∀ (k : Nat) (x : Nat × va_E), ws'[k]? = some x → ∃ y, ws[k]? = some y ∧ y.1 = x.1 := fun k x hx => by
    have h1 : (ws'.map Prod.fst)[k]? = some x.1 := by rw [List.getElem?_map, hx]; rfl
    rw [← h, List.getElem?_map] at h1
    cases hy : ws[k]? with
    | none => rw [hy] at h1; cases h1
    | some y => rw [hy] at h1; exact ⟨y, rfl, Option.some.inj h1⟩
  refine ⟨fun i j x y hi hj e => ?_, fun k x hx => ?_⟩
  · obtain ⟨x', hx', ex⟩ := key i x hi
    obtain ⟨y', hy', ey⟩ := key j y hj
    exact hD.1 i j x' y' hx' hy' (by rw [ex, ey, e])
  · obtain ⟨x', hx', ex⟩ := key k x hx
    rw [← ex]
    exact hD.2 k x' hx'
theorem zz_shp {cy : Nat → ClassId} {u u' : q_A} {c : Int} (h : ∀ (p : Nat) (k : Int), p ≤ 11 → u c p k = u' c p k) {p : Nat} (hp : p ≤ 11) (k : Int) (f : Int → Int) : q_shp cy u (c, p, k) f = q_shp cy u' (c, p, k) f := by
  have hw : (fun (p : Nat) (k : Int) => if p ≤ 11 then u c p k else 0) = (fun (p : Nat) (k : Int) => if p ≤ 11 then u' c p k else 0) := by
    funext p k
    by_cases q : p ≤ 11
    · rw [if_pos q, if_pos q, h p k q]
    · rw [if_neg q, if_neg q]
  have e : ∀ v : q_A, q_shp cy v (c, p, k) f = q_shp cy (fun _ p k => if p ≤ 11 then v c p k else 0) (c, p, k) f := fun v => by
    have hc : p = 0 ∨ p = 1 ∨ p = 2 ∨ p = 3 ∨ p = 4 ∨ p = 5 ∨ p = 6 ∨ p = 7 ∨ p = 8 ∨ p = 9 ∨ p = 10 ∨ p = 11 := by omega
    rcases hc with rfl | rfl | rfl | rfl | rfl | rfl | rfl | rfl | rfl | rfl | rfl | rfl <;> rfl
  rw [e u, e u']
  exact congrArg (fun w : Nat → Int → Nat => q_shp cy (fun _ => w) (c, p, k) f) hw
theorem zc_mem {c : Int} {r : q_R} (h : r ∈ zc_RL c) : r.1 = c ∧ r.2.1 ≤ 11 := by
  unfold zc_RL at h
  simp only [List.mem_cons, List.not_mem_nil, or_false] at h
  rcases h with rfl | rfl | rfl | rfl | rfl | rfl | rfl | rfl | rfl | rfl | rfl | rfl | rfl | rfl | rfl | rfl | rfl | rfl | rfl | rfl | rfl | rfl | rfl | rfl | rfl <;> exact ⟨rfl, by show (_ : Nat) ≤ 11; exact Nat.le_of_ble_eq_true rfl⟩
theorem zz_cg {cy : Nat → ClassId} {u u' : q_A} {c : Int} (h : ∀ (p : Nat) (k : Int), p ≤ 11 → u c p k = u' c p k) : zz_W cy u (zc_RL c) = zz_W cy u' (zc_RL c) := by
  unfold zz_W
  refine List.map_congr_left fun r hr => ?_
  obtain ⟨c', p, k⟩ := r
  obtain ⟨h1, h2⟩ := zc_mem hr
  (try dsimp only at h1 h2)
  subst h1
  (try dsimp only)
  rw [h p k h2, zz_shp h h2 k]
/-- roles of one list out of another's -/
theorem zz_P {D : va_G} {cl : List vw_C} {cy : Nat → ClassId} {u : q_A} {RL RL' : List q_R} {H : Heap} (h : ∀ r ∈ RL', r ∈ RL) (hP : va_P D cl (zz_W cy u RL) H) : va_P D cl (zz_W cy u RL') H := by
  intro k x hx
  unfold zz_W at hx
  rw [List.getElem?_map] at hx
  cases hr : RL'[k]? with
  | none => rw [hr] at hx; cases hx
  | some r =>
    rw [hr] at hx
    cases hx
    obtain ⟨i, hi⟩ := List.mem_iff_getElem?.mp (h r (List.mem_of_getElem? hr))
    refine hP i _ ?_
    unfold zz_W
    rw [List.getElem?_map, hi]
    rfl
theorem zz_D {A : Nat → Prop} {cy : Nat → ClassId} {u : q_A} {RL RL' : List q_R} (h : ∀ r ∈ RL', r ∈ RL) (hn : RL'.Nodup) (hD : va_D A (zz_W cy u RL)) : va_D A (zz_W cy u RL') := by
  have key : ∀ (k : Nat) (x : Nat × va_E), (zz_W cy u RL')[k]? = some x → ∃ (r : q_R) (i : Nat), RL'[k]? = some r ∧ RL[i]? = some r ∧ (zz_W cy u RL)[i]? = some x := fun k x hx => by
    unfold zz_W at hx
    rw [List.getElem?_map] at hx
    cases hr : RL'[k]? with
    | none => rw [hr] at hx; cases hx
    | some r =>
      rw [hr] at hx
      cases hx
      obtain ⟨i, hi⟩ := List.mem_iff_getElem?.mp (h r (List.mem_of_getElem? hr))
      refine ⟨r, i, rfl, hi, ?_⟩
      unfold zz_W
      rw [List.getElem?_map, hi]
      rfl
  refine ⟨fun i j x y hi hj e => ?_, fun k x hx => ?_⟩
  · obtain ⟨r, a, h1, h2, h3⟩ := key i x hi
    obtain ⟨r', b, g1, g2, g3⟩ := key j y hj
    have hab := hD.1 a b x y h3 g3 e
    subst hab
    have er : r = r' := Option.some.inj (h2.symm.trans g2)
    subst er
    obtain ⟨hi1, hi2⟩ := List.getElem?_eq_some_iff.mp h1
    obtain ⟨hj1, hj2⟩ := List.getElem?_eq_some_iff.mp g1
    have hp := List.pairwise_iff_getElem.mp hn
    rcases Nat.lt_trichotomy i j with q | q | q
    · exact absurd (hi2.trans hj2.symm) (hp i j hi1 hj1 q)
    · exact q
    · exact absurd (hj2.trans hi2.symm) (hp j i hj1 hi1 q)
  · obtain ⟨r, i, h1, h2, h3⟩ := key k x hx
    exact hD.2 i x h3
/-! two small methods of the model, ahead of its heap -/
set_option maxHeartbeats 4000000 in
set_option maxRecDepth 100000 in
theorem c_axisAt0 (l : Launch) (a w : Int32) (sz : Nat) : Met l yX6_axisAt wsX6_axisAt ({ frames := 0, cells := 0, slots := 0, locals := 0 }) (va_Pc [.int a, .int w] (fun U => U.heap.size = sz)) (va_Qi (fun (r : Int32) (_ : Unit) => r = iO 12 + iO 8 * a + w) (fun _ _ => True) (va_A [] sz)) 0 0 (va_A [] sz) := by
  refine Met.ofW (cc := cX6_axisAt) (maxL := 2) (ret := (some .int)) (by decide) rfl ?_
  intro p e s m args below meth c0 s₁ B hml hv
  obtain ⟨rfl, hsz⟩ := hv
  have hx := B.exec
  have hb := B.bytes
  have hr := B.returns
  have hlocks := B.notSynchronized
  subst hsz
  have hS : va_S (va_A [] s.heap.size) s.heap s.heap [] := va_S.rf
  have hl := lv_entry ([.int a, .int w]) (n := 2) (Nat.le_of_ble_eq_true rfl)
  rw [lg_entry_eq]
  generalize (lg_sl ([.int a, .int w]) ++ List.replicate (2 - (lg_sl ([.int a, .int w])).length) Slot.unset).toArray = ls at hl ⊢
  have hl : lv_has ls 2 [(0, .int a), (1, .int w)] := hl
  refine lv_bipush (v := iO 12) hx hb dX6_axisAt_0 rfl ?_
  refine lv_bipush (v := iO 8) hx hb dX6_axisAt_2 rfl ?_
  refine lv_iload_n hx hb dX6_axisAt_4 rfl (lv_at hl 0 rfl) ?_
  refine lv_imul hx hb dX6_axisAt_5 ?_
  refine lv_iadd hx hb dX6_axisAt_6 ?_
  refine lv_iload_n hx hb dX6_axisAt_7 rfl (lv_at hl 1 rfl) ?_
  refine lv_iadd hx hb dX6_axisAt_8 ?_
  exact W.iret hx hb hr (fun t ht hW => ⟨⟨_, (), rfl, rfl, trivial⟩, hS.F ht⟩) hS.2.2 dX6_axisAt_9
set_option maxHeartbeats 4000000 in
set_option maxRecDepth 100000 in
theorem c_reasons0 (l : Launch) (D : va_G) (cy : Nat → ClassId) (h0 v : Nat) (fs : List Value) (f : Nat → Int64) (x y z : Int64) (sz : Nat) : Met l yX6_reasons wsX6_reasons ({ frames := 0, cells := 0, slots := 0, locals := 0 }) (va_Pc [.ref h0, .long x, .long y, .long z] (fun U => U.heap.size = sz ∧ va_P D vwCl [(h0, .inr (6, .ref v :: fs)), (v, .inl (cy 1, 100, .inr (.inl f)))] U.heap ∧ va_K D vwCl (q_ty cy) U ∧ va_D (fun _ => True) [(h0, .inr (6, .ref v :: fs)), (v, .inl (cy 1, 100, .inr (.inl f)))])) (va_Qv (fun _ : Unit => True) (fun _ t => va_P D vwCl [(h0, .inr (6, .ref v :: fs)), (v, .inl (cy 1, 100, .inr (.inl (vp_updL (vp_updL (vp_updL f 8 x) 9 y) 10 z))))] t.heap ∧ va_D (va_A [(h0, .inr (6, .ref v :: fs)), (v, .inl (cy 1, 100, .inr (.inl f)))] sz) [(h0, .inr (6, .ref v :: fs)), (v, .inl (cy 1, 100, .inr (.inl (vp_updL (vp_updL (vp_updL f 8 x) 9 y) 10 z))))]) (va_A [(h0, .inr (6, .ref v :: fs)), (v, .inl (cy 1, 100, .inr (.inl f)))] sz)) 0 0 (va_A [(h0, .inr (6, .ref v :: fs)), (v, .inl (cy 1, 100, .inr (.inl f)))] sz) := by
  refine Met.ofW (cc := cX6_reasons) (maxL := 7) (ret := none) (by decide) rfl ?_
  intro p e s m args below meth c0 s₁ B hml hv
  obtain ⟨rfl, hsz, hP, hK, hD0⟩ := hv
  have hx := B.exec
  have hb := B.bytes
  have hr := B.returns
  have hts := atoms_spec (ws := wsX6_reasons) B.pre
  have hown : s.vm.findClass RX6 = some m.cls := findClass_of_methodNamed B.named
  have hlocks := B.notSynchronized
  have hinF : ∀ w ∈ u_ws RX6 TX6 11, w ∈ wsX6_reasons := by decide +kernel
  subst hsz
  have hD := hD0.self (sz := s.heap.size)
  generalize hAe : va_A [(h0, .inr (6, .ref v :: fs)), (v, .inl (cy 1, 100, .inr (.inl f)))] s.heap.size = A at hD ⊢
  have hA : ∀ q : Nat, s.heap.size ≤ q → A q := fun q h => by rw [← hAe]; exact Or.inr h
  have hS : va_S A s.heap s.heap [] := va_S.rf
  have hP : va_P D vwCl [(h0, .inr (6, .ref v :: fs)), (v, .inl (cy 1, 100, .inr (.inl f)))] s.heap := hP
  have hl := lv_entry ([.ref h0, .long x, .long y, .long z]) (n := 7) (Nat.le_of_ble_eq_true rfl)
  rw [lg_entry_eq]
  generalize (lg_sl ([.ref h0, .long x, .long y, .long z]) ++ List.replicate (7 - (lg_sl ([.ref h0, .long x, .long y, .long z])).length) Slot.unset).toArray = ls at hl ⊢
  have hl : lv_has ls 7 [(0, .ref h0), (1, .long x), (3, .long y), (5, .long z)] := hl
  refine lv_aload_n hx hb dX6_reasons_0 rfl (lv_at hl 0 rfl) ?_
  refine va_get (D := D) (ci := 6) (v := .ref v) (C := RX6) (T := TX6) (N := 11) hx hb hts hinF hown hK hP 0 rfl rfl 0 (by decide) (hts (.fieldLink RX6 7 "WheelDeskModel" "v" "[J") (by decide +kernel)) (fun _ h9 => h9) rfl dX6_reasons_1 ?_
  refine lv_bipush (v := iO 8) hx hb dX6_reasons_4 rfl ?_
  refine lv_lload_n hx hb dX6_reasons_6 rfl (lv_at hl 1 rfl) ?_
  refine va_last hx hb hK hP hD hS 1 1 rfl rfl (z_in (by decide)) dX6_reasons_7 (fun H locs hP hD hS => ?_)
  have hP : va_P D vwCl [(h0, .inr (6, .ref v :: fs)), (v, .inl (cy 1, 100, .inr (.inl (vp_updL f 8 x))))] H := hP
  have hD : va_D A [(h0, .inr (6, .ref v :: fs)), (v, .inl (cy 1, 100, .inr (.inl (vp_updL f 8 x))))] := hD
  refine lv_aload_n hx hb dX6_reasons_8 rfl (lv_at hl 0 rfl) ?_
  refine va_get (D := D) (ci := 6) (v := .ref v) (C := RX6) (T := TX6) (N := 11) hx hb hts hinF hown hK hP 0 rfl rfl 0 (by decide) (hts (.fieldLink RX6 7 "WheelDeskModel" "v" "[J") (by decide +kernel)) (fun _ h9 => h9) rfl dX6_reasons_9 ?_
  refine lv_bipush (v := iO 9) hx hb dX6_reasons_12 rfl ?_
  refine lv_lload_n hx hb dX6_reasons_14 rfl (lv_at hl 2 rfl) ?_
  refine va_last hx hb hK hP hD hS 1 1 rfl rfl (z_in (by decide)) dX6_reasons_15 (fun H locs hP hD hS => ?_)
  have hP : va_P D vwCl [(h0, .inr (6, .ref v :: fs)), (v, .inl (cy 1, 100, .inr (.inl (vp_updL (vp_updL f 8 x) 9 y))))] H := hP
  have hD : va_D A [(h0, .inr (6, .ref v :: fs)), (v, .inl (cy 1, 100, .inr (.inl (vp_updL (vp_updL f 8 x) 9 y))))] := hD
  refine lv_aload_n hx hb dX6_reasons_16 rfl (lv_at hl 0 rfl) ?_
  refine va_get (D := D) (ci := 6) (v := .ref v) (C := RX6) (T := TX6) (N := 11) hx hb hts hinF hown hK hP 0 rfl rfl 0 (by decide) (hts (.fieldLink RX6 7 "WheelDeskModel" "v" "[J") (by decide +kernel)) (fun _ h9 => h9) rfl dX6_reasons_17 ?_
  refine lv_bipush (v := iO 10) hx hb dX6_reasons_20 rfl ?_
  refine lv_lload hx hb dX6_reasons_22 (lv_at hl 3 rfl) ?_
  refine va_last hx hb hK hP hD hS 1 1 rfl rfl (z_in (by decide)) dX6_reasons_24 (fun H locs hP hD hS => ?_)
  have hP : va_P D vwCl [(h0, .inr (6, .ref v :: fs)), (v, .inl (cy 1, 100, .inr (.inl (vp_updL (vp_updL (vp_updL f 8 x) 9 y) 10 z))))] H := hP
  have hD : va_D A [(h0, .inr (6, .ref v :: fs)), (v, .inl (cy 1, 100, .inr (.inl (vp_updL (vp_updL (vp_updL f 8 x) 9 y) 10 z))))] := hD
  exact W.vret hx hb hr (fun t ht hW => ⟨⟨(), rfl, trivial, by rw [ht]; exact hP, hD⟩, hS.F ht⟩) hS.2.2 dX6_reasons_25
