/-! ===== the machine's first state, and lists of roles ===== -/
def z_s0 : q_M := fun _ p k s => match p with
  | 0 => if s = 2 then 1 else 0
  | 1 => if s = 0 then 10 else if s = 1 then 60 else if s = 2 then 500 else if s = 3 then 2000 else 0
  | 3 => if k = 0 then 100 else 0
  | 22 => s + 2
  | _ => 0
def zz_W (cy : Nat → ClassId) (u : q_A) (RL : List q_R) : va_W := RL.map fun r => (u r.1 r.2.1 r.2.2, q_shp cy u r (z_s0 r.1 r.2.1 r.2.2))
def zc_RL (c : Int) : List q_R := [(c, 0, 0), (c, 1, 0), (c, 2, 0), (c, 3, 0), (c, 3, 1), (c, 3, 2), (c, 3, 3), (c, 4, 0), (c, 5, 0), (c, 6, 0), (c, 7, 0), (c, 8, 0), (c, 9, 0), (c, 10, 0), (c, 11, 0), (c, 10, 1), (c, 11, 1), (c, 10, 2), (c, 11, 2), (c, 10, 3), (c, 11, 3), (c, 10, 4), (c, 11, 4), (c, 10, 5), (c, 11, 5)]
def zs_RL : List q_R := [(0, 12, 0), (0, 13, 0), (0, 15, 0), (0, 15, 1), (0, 15, 2), (0, 14, 0), (0, 16, 0), (0, 16, 1), (0, 16, 2), (0, 17, 0)]
def zg_RL : List q_R := [(0, 18, 0), (0, 19, 0), (0, 20, 0)]
def zh_RL : List q_R := (0, 21, 0) :: (0, 22, 0) :: (((zc_RL 2 ++ zc_RL 3) ++ zc_RL 4) ++ zc_RL 5)
def zd_RL : List q_R := (0, 23, 0) :: ((((zc_RL 0 ++ zc_RL 1) ++ zs_RL) ++ zg_RL) ++ zh_RL)
theorem zz_app (cy : Nat → ClassId) (u : q_A) (a b : List q_R) : zz_W cy u (a ++ b) = zz_W cy u a ++ zz_W cy u b := List.map_append
theorem z_Dsame {A : Nat → Prop} {ws ws' : va_W} (h : ws.map Prod.fst = ws'.map Prod.fst) (hD : va_D A ws) : va_D A ws' := by
  have key : ∀ (k : Nat) (x : Nat × va_E), ws'[k]? = some x → ∃ y, ws[k]? = some y ∧ y.1 = x.1 := fun k x hx => by
    have h1 : (ws'.map Prod.fst)[k]? = some x.1 := by rw [List.getElem?_map, hx]; rfl
    rw [← h, List.getElem?_map] at h1
    cases hy : ws[k]? with
    | none => rw [hy] at h1; cases h1
    | some y => rw [hy] at h1; exact ⟨y, rfl, Option.some.inj h1⟩
  refine ⟨fun i j x y hi hj e => ?_, fun k x hx => ?_⟩
  · obtain ⟨x', hx', ex⟩ := key i x hi
    obtain ⟨y', hy', ey⟩ := key j y hj
    exact hD.1 i j x' y' hx' hy' (by rw [ex, ey, e])
  · obtain ⟨x', hx', ex⟩ := key k x hx
    rw [← ex]
    exact hD.2 k x' hx'
theorem zz_shp {cy : Nat → ClassId} {u u' : q_A} {c : Int} (h : ∀ (p : Nat) (k : Int), p ≤ 11 → u c p k = u' c p k) {p : Nat} (hp : p ≤ 11) (k : Int) (f : Int → Int) : q_shp cy u (c, p, k) f = q_shp cy u' (c, p, k) f := by
  have hw : (fun (p : Nat) (k : Int) => if p ≤ 11 then u c p k else 0) = (fun (p : Nat) (k : Int) => if p ≤ 11 then u' c p k else 0) := by
    funext p k
    by_cases q : p ≤ 11
    · rw [if_pos q, if_pos q, h p k q]
    · rw [if_neg q, if_neg q]
  have e : ∀ v : q_A, q_shp cy v (c, p, k) f = q_shp cy (fun _ p k => if p ≤ 11 then v c p k else 0) (c, p, k) f := fun v => by
    have hc : p = 0 ∨ p = 1 ∨ p = 2 ∨ p = 3 ∨ p = 4 ∨ p = 5 ∨ p = 6 ∨ p = 7 ∨ p = 8 ∨ p = 9 ∨ p = 10 ∨ p = 11 := by omega
    rcases hc with rfl | rfl | rfl | rfl | rfl | rfl | rfl | rfl | rfl | rfl | rfl | rfl <;> rfl
  rw [e u, e u']
  exact congrArg (fun w : Nat → Int → Nat => q_shp cy (fun _ => w) (c, p, k) f) hw
theorem zc_mem {c : Int} {r : q_R} (h : r ∈ zc_RL c) : r.1 = c ∧ r.2.1 ≤ 11 := by
  unfold zc_RL at h
  simp only [List.mem_cons, List.not_mem_nil, or_false] at h
  rcases h with rfl | rfl | rfl | rfl | rfl | rfl | rfl | rfl | rfl | rfl | rfl | rfl | rfl | rfl | rfl | rfl | rfl | rfl | rfl | rfl | rfl | rfl | rfl | rfl | rfl <;> exact ⟨rfl, by show (_ : Nat) ≤ 11; exact Nat.le_of_ble_eq_true rfl⟩
theorem zz_cg {cy : Nat → ClassId} {u u' : q_A} {c : Int} (h : ∀ (p : Nat) (k : Int), p ≤ 11 → u c p k = u' c p k) : zz_W cy u (zc_RL c) = zz_W cy u' (zc_RL c) := by
  unfold zz_W
  refine List.map_congr_left fun r hr => ?_
  obtain ⟨c', p, k⟩ := r
  obtain ⟨h1, h2⟩ := zc_mem hr
  (try dsimp only at h1 h2)
  subst h1
  (try dsimp only)
  rw [h p k h2, zz_shp h h2 k]
/-- roles of one list out of another's -/
theorem zz_P {D : va_G} {cl : List vw_C} {cy : Nat → ClassId} {u : q_A} {RL RL' : List q_R} {H : Heap} (h : ∀ r ∈ RL', r ∈ RL) (hP : va_P D cl (zz_W cy u RL) H) : va_P D cl (zz_W cy u RL') H := by
  intro k x hx
  unfold zz_W at hx
  rw [List.getElem?_map] at hx
  cases hr : RL'[k]? with
  | none => rw [hr] at hx; cases hx
  | some r =>
    rw [hr] at hx
    cases hx
    obtain ⟨i, hi⟩ := List.mem_iff_getElem?.mp (h r (List.mem_of_getElem? hr))
    refine hP i _ ?_
    unfold zz_W
    rw [List.getElem?_map, hi]
    rfl
theorem zz_D {A : Nat → Prop} {cy : Nat → ClassId} {u : q_A} {RL RL' : List q_R} (h : ∀ r ∈ RL', r ∈ RL) (hn : RL'.Nodup) (hD : va_D A (zz_W cy u RL)) : va_D A (zz_W cy u RL') := by
  have key : ∀ (k : Nat) (x : Nat × va_E), (zz_W cy u RL')[k]? = some x → ∃ (r : q_R) (i : Nat), RL'[k]? = some r ∧ RL[i]? = some r ∧ (zz_W cy u RL)[i]? = some x := fun k x hx => by
    unfold zz_W at hx
    rw [List.getElem?_map] at hx
    cases hr : RL'[k]? with
    | none => rw [hr] at hx; cases hx
    | some r =>
      rw [hr] at hx
      cases hx
      obtain ⟨i, hi⟩ := List.mem_iff_getElem?.mp (h r (List.mem_of_getElem? hr))
      refine ⟨r, i, rfl, hi, ?_⟩
      unfold zz_W
      rw [List.getElem?_map, hi]
      rfl
  refine ⟨fun i j x y hi hj e => ?_, fun k x hx => ?_⟩
  · obtain ⟨r, a, h1, h2, h3⟩ := key i x hi
    obtain ⟨r', b, g1, g2, g3⟩ := key j y hj
    have hab := hD.1 a b x y h3 g3 e
    subst hab
    have er : r = r' := Option.some.inj (h2.symm.trans g2)
    subst er
    obtain ⟨hi1, hi2⟩ := List.getElem?_eq_some_iff.mp h1
    obtain ⟨hj1, hj2⟩ := List.getElem?_eq_some_iff.mp g1
    have hp := List.pairwise_iff_getElem.mp hn
    rcases Nat.lt_trichotomy i j with q | q | q
    · exact absurd (hi2.trans hj2.symm) (hp i j hi1 hj1 q)
    · exact q
    · exact absurd (hj2.trans hi2.symm) (hp j i hj1 hi1 q)
  · obtain ⟨r, i, h1, h2, h3⟩ := key k x hx
    exact hD.2 i x h3
