/-! ===== the small machine: numbers are whole numbers, references are roles (a number, a part, a number); a state is what each role holds ===== -/
abbrev q_R : Type := Int × Nat × Int
abbrev q_V : Type := q_R ⊕ Int ⊕ Int ⊕ UInt32 ⊕ UInt64
abbrev q_M : Type := Int → Nat → Int → Int → Int
abbrev q_A : Type := Int → Nat → Int → Nat
abbrev q_L : Type := List (Option q_V)
abbrev q_S : Type := List q_V
abbrev q_K : Type := q_M → q_L → q_S → Prop
abbrev q_P : Type := q_M → q_S → (Option q_V → q_M → Prop) → Prop
abbrev zR (c : Int) (p : Nat) (k : Int) : q_V := .inl (c, p, k)
abbrev zI (x : Int) : q_V := .inr (.inl x)
abbrev zL (x : Int) : q_V := .inr (.inr (.inl x))
abbrev zF (x : UInt32) : q_V := .inr (.inr (.inr (.inl x)))
abbrev zD (x : UInt64) : q_V := .inr (.inr (.inr (.inr x)))
def iO (x : Int) : Int32 := Int32.ofInt x
def lO (x : Int) : Int64 := Int64.ofInt x
def q_i32 (x : Int) : Prop := -2147483648 ≤ x ∧ x < 2147483648
def q_i64 (x : Int) : Prop := -9223372036854775808 ≤ x ∧ x < 9223372036854775808
theorem iO_add (x y : Int) : iO x + iO y = iO (x + y) := (Int32.ofInt_add x y).symm
theorem iO_sub (x y : Int) : iO x - iO y = iO (x - y) := (Int32.ofInt_sub x y).symm
theorem iO_mul (x y : Int) : iO x * iO y = iO (x * y) := (Int32.ofInt_mul x y).symm
theorem iO_neg (x : Int) : -iO x = iO (-x) := Int32.neg_ofInt
theorem lO_add (x y : Int) : lO x + lO y = lO (x + y) := (Int64.ofInt_add x y).symm
theorem lO_sub (x y : Int) : lO x - lO y = lO (x - y) := (Int64.ofInt_sub x y).symm
theorem lO_mul (x y : Int) : lO x * lO y = lO (x * y) := (Int64.ofInt_mul x y).symm
theorem lO_neg (x : Int) : -lO x = lO (-x) := Int64.neg_ofInt
theorem iO_toInt {x : Int} (h : q_i32 x) : (iO x).toInt = x := Int32.toInt_ofInt_of_le (by have := h.1; omega) (by have := h.2; omega)
theorem lO_toInt {x : Int} (h : q_i64 x) : (lO x).toInt = x := Int64.toInt_ofInt_of_le (by have := h.1; omega) (by have := h.2; omega)
theorem iO_of (x : Int32) : iO x.toInt = x := Int32.ofInt_toInt x
theorem lO_of (x : Int64) : lO x.toInt = x := Int64.ofInt_toInt x
theorem iO_inj {x y : Int} (hx : q_i32 x) (hy : q_i32 y) : iO x = iO y ↔ x = y := by
  rw [← Int32.toInt_inj, iO_toInt hx, iO_toInt hy]
theorem lO_inj {x y : Int} (hx : q_i64 x) (hy : q_i64 y) : lO x = lO y ↔ x = y := by
  rw [← Int64.toInt_inj, lO_toInt hx, lO_toInt hy]
theorem iO_lt {x y : Int} (hx : q_i32 x) (hy : q_i32 y) : iO x < iO y ↔ x < y := by
  rw [Int32.lt_iff_toInt_lt, iO_toInt hx, iO_toInt hy]
theorem iO_le {x y : Int} (hx : q_i32 x) (hy : q_i32 y) : iO x ≤ iO y ↔ x ≤ y := by
  rw [Int32.le_iff_toInt_le, iO_toInt hx, iO_toInt hy]
theorem lO_lt {x y : Int} (hx : q_i64 x) (hy : q_i64 y) : lO x < lO y ↔ x < y := by
  rw [Int64.lt_iff_toInt_lt, lO_toInt hx, lO_toInt hy]
theorem iO_0 : (0 : Int32) = iO 0 := rfl
theorem lO_0 : (0 : Int64) = lO 0 := rfl
theorem q_i32_0 : q_i32 0 := ⟨by omega, by omega⟩
theorem q_i64_0 : q_i64 0 := ⟨by omega, by omega⟩
theorem iO_clamp {x : Int} (h0 : 0 ≤ x) (h : q_i32 x) : (iO x).toNatClampNeg = x.toNat := Int32.toNatClampNeg_ofInt_of_le (by omega) (by have := h.2; omega)
theorem iO_in {x n : Int} (h0 : 0 ≤ x) (h : x < n) (hn : n ≤ 1000000) : vp_in (iO x) n.toNat := by
  have hx : q_i32 x := ⟨by omega, by omega⟩
  rw [vp_in_iff, iO_toInt hx]
  omega
theorem iO_i2l {x : Int} (h : q_i32 x) : (iO x).toInt64 = lO x := by
  have e1 : Int32.minValue.toInt = -2147483648 := rfl
  have e2 : Int32.maxValue.toInt = 2147483647 := rfl
  obtain ⟨a, b⟩ := h
  exact Int32.toInt64_ofInt (by omega) (by omega)
theorem lO_l2i (x : Int) : (lO x).toInt32 = iO x := Int64.toInt32_ofInt
def q_cmp (x y : Int) : Int := if y < x then 1 else if x = y then 0 else -1
theorem q_cmp_i32 (x y : Int) : q_i32 (q_cmp x y) := by unfold q_cmp q_i32; repeat' split <;> omega
theorem q_cmp_lt (x y : Int) : (q_cmp x y < 0) = (x < y) := by unfold q_cmp; apply propext; repeat' split <;> omega
theorem q_cmp_ge (x y : Int) : (0 ≤ q_cmp x y) = (y ≤ x) := by unfold q_cmp; apply propext; repeat' split <;> omega
theorem q_cmp_gt (x y : Int) : (0 < q_cmp x y) = (y < x) := by unfold q_cmp; apply propext; repeat' split <;> omega
theorem q_cmp_le (x y : Int) : (q_cmp x y ≤ 0) = (x ≤ y) := by unfold q_cmp; apply propext; repeat' split <;> omega
theorem q_cmp_eq (x y : Int) : (q_cmp x y = 0) = (x = y) := by unfold q_cmp; apply propext; repeat' split <;> omega
theorem q_lg {x y : Int} (h : x = y ∨ (q_i64 x ∧ q_i64 y)) : lg_cmp (lO x) (lO y) = iO (q_cmp x y) := by
  rcases h with rfl | ⟨hx, hy⟩
  · unfold lg_cmp q_cmp
    simp [gt_iff_lt, Int64.lt_iff_toInt_lt, iO]
  · unfold lg_cmp q_cmp
    simp only [gt_iff_lt, lO_lt hy hx, lO_inj hx hy]
    by_cases a : y < x
    · rw [if_pos a, if_pos a]
      rfl
    · rw [if_neg a, if_neg a]
      by_cases b : x = y
      · rw [if_pos b, if_pos b]
        rfl
      · rw [if_neg b, if_neg b]
        rfl
def q_b (P : Prop) [Decidable P] : Int := if P then 1 else 0
theorem q_b_i32 (P : Prop) [Decidable P] : q_i32 (q_b P) := by unfold q_b q_i32; split <;> omega
theorem q_b_0 (P : Prop) [Decidable P] : (q_b P = 0) = ¬ P := by unfold q_b; split <;> simp_all
theorem q_b01 {P : Prop} [Decidable P] : (q_b P = 0 ∨ q_b P = 1) = True := by unfold q_b; split <;> simp
theorem q_b_t {P : Prop} [Decidable P] (h : P) : q_b P = 1 := if_pos h
theorem q_b_f {P : Prop} [Decidable P] (h : ¬ P) : q_b P = 0 := if_neg h
theorem q_b_c {P Q : Prop} [Decidable P] [Decidable Q] (h : P ↔ Q) : q_b P = q_b Q := by unfold q_b; by_cases q : P <;> simp [q, h.mp, h] <;> simp_all
/-! roles -/
def q_dims : List (Nat × Nat × Nat) := [(0, 6, 1), (1, 6, 1), (2, 6, 1), (3, 6, 4), (4, 6, 1), (5, 6, 1), (6, 6, 1), (7, 6, 1), (8, 6, 1), (9, 6, 1), (10, 6, 6), (11, 6, 6), (12, 1, 1), (13, 1, 1), (14, 1, 1), (15, 1, 3), (16, 1, 3), (17, 1, 1), (18, 1, 1), (19, 1, 1), (20, 1, 1), (21, 1, 1), (22, 1, 1), (23, 1, 1)]
def q_RL : List q_R := q_dims.flatMap fun d => (List.range d.2.1).flatMap fun (c : Nat) => (List.range d.2.2).map fun (k : Nat) => ((c : Int), d.1, (k : Int))
def q_nc (p : Nat) : Int := if p ≤ 11 then 6 else 1
def q_nk (p : Nat) : Int := if p = 3 then 4 else if p = 10 then 6 else if p = 11 then 6 else if p = 15 then 3 else if p = 16 then 3 else 1
def q_ok (r : q_R) : Prop := r.2.1 < 24 ∧ 0 ≤ r.1 ∧ r.1 < q_nc r.2.1 ∧ 0 ≤ r.2.2 ∧ r.2.2 < q_nk r.2.1
theorem q_RL_fin : ∀ p : Fin 24, ∀ c : Fin 6, ∀ k : Fin 6, (((c : Nat) : Int) < q_nc p ∧ ((k : Nat) : Int) < q_nk p) → (((c : Nat) : Int), (p : Nat), ((k : Nat) : Int)) ∈ q_RL := by decide +kernel
theorem q_nc_le (p : Nat) : q_nc p ≤ 6 := by unfold q_nc; split <;> omega
theorem q_nk_le (p : Nat) : q_nk p ≤ 6 := by unfold q_nk; repeat' split <;> omega
theorem q_RL_mem {r : q_R} (h : q_ok r) : r ∈ q_RL := by
  obtain ⟨c, p, k⟩ := r
  obtain ⟨h1, h2, h3, h4, h5⟩ := h
  have hc := q_nc_le p
  have hk := q_nk_le p
  simp only at h1 h2 h3 h4 h5
  obtain ⟨c', rfl⟩ := Int.eq_ofNat_of_zero_le h2
  obtain ⟨k', rfl⟩ := Int.eq_ofNat_of_zero_le h4
  exact q_RL_fin ⟨p, h1⟩ ⟨c', by omega⟩ ⟨k', by omega⟩ ⟨h3, h5⟩
theorem q_pos {r : q_R} (h : q_ok r) : ∃ j : Nat, q_RL[j]? = some r := List.mem_iff_getElem?.mp (q_RL_mem h)
theorem q_RL_nd : q_RL.Nodup := by decide +kernel
theorem q_RL_inj {i j : Nat} {r : q_R} (hi : q_RL[i]? = some r) (hj : q_RL[j]? = some r) : i = j := by
  obtain ⟨hi1, hi2⟩ := List.getElem?_eq_some_iff.mp hi
  obtain ⟨hj1, hj2⟩ := List.getElem?_eq_some_iff.mp hj
  have hn := List.pairwise_iff_getElem.mp q_RL_nd
  rcases Nat.lt_trichotomy i j with h | h | h
  · exact absurd (hi2.trans hj2.symm) (hn i j hi1 hj1 h)
  · exact h
  · exact absurd (hj2.trans hi2.symm) (hn j i hj1 hi1 h)
def q_tv (ad : q_A) : q_V → Value
  | .inl r => .ref (ad r.1 r.2.1 r.2.2)
  | .inr (.inl x) => .int (iO x)
  | .inr (.inr (.inl x)) => .long (lO x)
  | .inr (.inr (.inr (.inl x))) => .float x
  | .inr (.inr (.inr (.inr x))) => .double x
def q_cat : q_V → Nat
  | .inl _ => 1
  | .inr (.inl _) => 1
  | .inr (.inr (.inl _)) => 2
  | .inr (.inr (.inr (.inl _))) => 1
  | .inr (.inr (.inr (.inr _))) => 2
theorem q_cat_tv (ad : q_A) (v : q_V) : (q_tv ad v).category = q_cat v := by
  rcases v with r | x | x | x | x <;> rfl
def q_cats : q_S → Nat
  | [] => 0
  | v :: st => q_cat v + q_cats st
theorem q_cats_tv (ad : q_A) (st : q_S) : ((st.map (q_tv ad)).map fun v => v.category).sum = q_cats st := by
  induction st with
  | nil => rfl
  | cons v st ih => simp only [List.map_cons, List.sum_cons, ih, q_cat_tv, q_cats]
/-- which parts are arrays of ints, longs, references, and how long -/
def q_kI (p : Nat) : Int := match p with | 1 => 5 | 3 => 3 | 9 => 3 | 11 => 3 | _ => 0
def q_kJ (p : Nat) : Int := match p with | 4 => 3 | 5 => 3 | 6 => 3 | 7 => 3 | 15 => 3 | 16 => 3 | 17 => 3 | 19 => 3 | 20 => 3 | 24 => 3 | _ => 0
def q_kR (p : Nat) : Int := match p with | 2 => 4 | 8 => 6 | 13 => 3 | 14 => 3 | 22 => 4 | _ => 0
def q_ry (p : Nat) : Nat := match p with | 2 => 2 | 8 => 5 | 13 => 3 | 14 => 3 | _ => 4
def q_ci (p : Nat) : Nat := match p with | 0 => 0 | 10 => 4 | 12 => 3 | 18 => 2 | 21 => 1 | 23 => 5 | _ => 6
/-- the role that a place of an array of references names -/
def q_el (r : q_R) (f : Int → Int) (i : Int) : q_R := match r.2.1 with | 2 => (r.1, 3, i) | 8 => (r.1, 10, i) | 13 => (0, 15, i) | 14 => (0, 16, i) | _ => (f i, 0, 0)
/-- an object's fields -/
def q_flds (r : q_R) (f : Int → Int) : List q_V := match r.2.1 with
  | 0 => [zI (f 0), zR r.1 1 0, zR r.1 2 0, zR r.1 4 0, zR r.1 5 0, zR r.1 6 0, zR r.1 7 0, zR r.1 8 0, zI (f 1), zR r.1 9 0, zI (f 2)]
  | 10 => [zR r.1 11 r.2.2, zI (f 0), zI (f 1), zI (f 2), zI (f 3), zI (f 4)]
  | 12 => [zR 0 13 0, zR 0 14 0, zR 0 17 0, zL (f 0)]
  | 18 => [zR 0 19 0, zR 0 20 0]
  | 21 => [zR 0 22 0, zI (f 0)]
  | 23 => [zR 0 0 0, zR 1 0 0, zR 0 12 0, zR 0 18 0, zR 0 21 0]
  | _ => []
def q_shp (cy : Nat → ClassId) (ad : q_A) (r : q_R) (f : Int → Int) : va_E :=
  if 0 < q_kI r.2.1 then .inl (cy 0, (q_kI r.2.1).toNat, .inl (fun i => iO (f (i : Int))))
  else if 0 < q_kJ r.2.1 then .inl (cy 1, (q_kJ r.2.1).toNat, .inr (.inl (fun i => lO (f (i : Int)))))
  else if 0 < q_kR r.2.1 then .inl (cy (q_ry r.2.1), (q_kR r.2.1).toNat, .inr (.inr (.inr (.inr (fun i => some (ad (q_el r f (i : Int)).1 (q_el r f (i : Int)).2.1 (q_el r f (i : Int)).2.2))))))
  else .inr (q_ci r.2.1, (q_flds r f).map (q_tv ad))
/-- a row of three sums, which a method of the law makes: it stands in the world where ad 0 40 0 is 1 -/
def q_fg (ad : q_A) : List q_R := if ad 0 40 0 = 1 then [(0, 24, 0)] else []
def q_RLx (ad : q_A) : List q_R := q_RL ++ q_fg ad
def q_W (cy : Nat → ClassId) (ad : q_A) (σ : q_M) : va_W := (q_RLx ad).map fun r => (ad r.1 r.2.1 r.2.2, q_shp cy ad r (σ r.1 r.2.1 r.2.2))
def q_ty (cy : Nat → ClassId) : List (ClassId × FieldType) := [(cy 0, .int), (cy 1, .long), (cy 2, .array .int), (cy 3, .array .long), (cy 4, .object RX0), (cy 5, .object RX4)]
theorem q_RLx_of {ad : q_A} {r : q_R} {j : Nat} (h : q_RL[j]? = some r) : (q_RLx ad)[j]? = some r := by
  unfold q_RLx
  rw [List.getElem?_append_left (List.getElem?_eq_some_iff.mp h).1]
  exact h
theorem q_RL1_nd : (q_RL ++ [((0 : Int), (24 : Nat), (0 : Int))]).Nodup := by decide +kernel
theorem q_RLx_nd (ad : q_A) : (q_RLx ad).Nodup := by
  unfold q_RLx q_fg
  split
  · exact q_RL1_nd
  · rw [List.append_nil]
    exact q_RL_nd
theorem q_RLx_inj {ad : q_A} {i j : Nat} {r : q_R} (hi : (q_RLx ad)[i]? = some r) (hj : (q_RLx ad)[j]? = some r) : i = j := by
  obtain ⟨hi1, hi2⟩ := List.getElem?_eq_some_iff.mp hi
  obtain ⟨hj1, hj2⟩ := List.getElem?_eq_some_iff.mp hj
  have hn := List.pairwise_iff_getElem.mp (q_RLx_nd ad)
  rcases Nat.lt_trichotomy i j with h | h | h
  · exact absurd (hi2.trans hj2.symm) (hn i j hi1 hj1 h)
  · exact h
  · exact absurd (hj2.trans hi2.symm) (hn j i hj1 hi1 h)
theorem q_atx {cy : Nat → ClassId} {ad : q_A} {r : q_R} {j : Nat} (h : (q_RLx ad)[j]? = some r) (σ : q_M) : (q_W cy ad σ)[j]? = some (ad r.1 r.2.1 r.2.2, q_shp cy ad r (σ r.1 r.2.1 r.2.2)) := by
  unfold q_W
  rw [List.getElem?_map, h]
  rfl
theorem q_at {cy : Nat → ClassId} {ad : q_A} {r : q_R} {j : Nat} (h : q_RL[j]? = some r) (σ : q_M) : (q_W cy ad σ)[j]? = some (ad r.1 r.2.1 r.2.2, q_shp cy ad r (σ r.1 r.2.1 r.2.2)) := q_atx (q_RLx_of h) σ
/-- the sum row's place -/
theorem q_24 {ad : q_A} (h : ad 0 40 0 = 1) : (q_RLx ad)[q_RL.length]? = some (0, 24, 0) := by
  unfold q_RLx q_fg
  rw [if_pos h, List.getElem?_append_right (Nat.le_refl _), Nat.sub_self]
  rfl
/-- a role's numbers anew -/
def q_set (σ : q_M) (r : q_R) (f : Int → Int) : q_M := fun c p k s => if c = r.1 ∧ p = r.2.1 ∧ k = r.2.2 then f s else σ c p k s
theorem q_set_Wx {cy : Nat → ClassId} {ad : q_A} {r : q_R} {j : Nat} (h : (q_RLx ad)[j]? = some r) (σ : q_M) (f : Int → Int) : (q_W cy ad σ).set j (ad r.1 r.2.1 r.2.2, q_shp cy ad r f) = q_W cy ad (q_set σ r f) := by
  apply List.ext_getElem?
  intro i
  by_cases hij : i = j
  · subst hij
    have h1 := q_atx (cy := cy) (ad := ad) h σ
    have hlt := (List.getElem?_eq_some_iff.mp h1).1
    rw [List.getElem?_set_self hlt, q_atx h]
    have e : q_set σ r f r.1 r.2.1 r.2.2 = f := funext fun s => if_pos ⟨rfl, rfl, rfl⟩
    rw [e]
  · rw [List.getElem?_set_ne (fun q => hij q.symm)]
    cases hr : (q_RLx ad)[i]? with
    | none =>
      unfold q_W
      rw [List.getElem?_map, List.getElem?_map, hr]
      rfl
    | some r' =>
      rw [q_atx hr, q_atx hr]
      have hne : r' ≠ r := fun q => hij (q_RLx_inj hr (q ▸ h))
      have e : q_set σ r f r'.1 r'.2.1 r'.2.2 = σ r'.1 r'.2.1 r'.2.2 := funext fun s => if_neg fun q => hne (Prod.ext q.1 (Prod.ext q.2.1 q.2.2))
      rw [e]
theorem q_set_W {cy : Nat → ClassId} {ad : q_A} {r : q_R} {j : Nat} (h : q_RL[j]? = some r) (σ : q_M) (f : Int → Int) : (q_W cy ad σ).set j (ad r.1 r.2.1 r.2.2, q_shp cy ad r f) = q_W cy ad (q_set σ r f) := q_set_Wx (q_RLx_of h) σ f
/-- one number anew -/
def q_wr (σ : q_M) (c : Int) (p : Nat) (k i x : Int) : q_M := fun c' p' k' s => if c' = c ∧ p' = p ∧ k' = k ∧ s = i then x else σ c' p' k' s
theorem q_wr_set (σ : q_M) (r : q_R) (i x : Int) : q_set σ r (fun s => if s = i then x else σ r.1 r.2.1 r.2.2 s) = q_wr σ r.1 r.2.1 r.2.2 i x := by
  funext c p k s
  unfold q_set q_wr
  by_cases h : c = r.1 ∧ p = r.2.1 ∧ k = r.2.2
  · obtain ⟨rfl, rfl, rfl⟩ := h
    simp
  · rw [if_neg h, if_neg (fun q => h ⟨q.1, q.2.1, q.2.2.1⟩)]
/-- a stretch of an array into another -/
def q_cp (σ : q_M) (d r : q_R) (sp dp n : Int) : q_M := fun c p k s => if (c = d.1 ∧ p = d.2.1 ∧ k = d.2.2) ∧ dp ≤ s ∧ s < dp + n then σ r.1 r.2.1 r.2.2 (sp + (s - dp)) else σ c p k s
theorem q_cp_set (σ : q_M) (d r : q_R) (sp dp n : Int) : q_set σ d (fun s => if dp ≤ s ∧ s < dp + n then σ r.1 r.2.1 r.2.2 (sp + (s - dp)) else σ d.1 d.2.1 d.2.2 s) = q_cp σ d r sp dp n := by
  funext c p k s
  unfold q_set q_cp
  by_cases h : c = d.1 ∧ p = d.2.1 ∧ k = d.2.2
  · obtain ⟨rfl, rfl, rfl⟩ := h
    simp
  · rw [if_neg h, if_neg (fun q => h q.1)]
/-! locals -/
def q_lp (ad : q_A) : Nat → q_L → List (Nat × Value)
  | _, [] => []
  | n, none :: lv => q_lp ad (n + 1) lv
  | n, some v :: lv => (n, q_tv ad v) :: q_lp ad (n + 1) lv
theorem q_lp_mem {ad : q_A} {lv : q_L} : ∀ {n j : Nat} {w : Value}, (j, w) ∈ q_lp ad n lv ↔ ∃ (t : Nat) (v : q_V), j = n + t ∧ lv[t]? = some (some v) ∧ w = q_tv ad v := by
  induction lv with
  | nil =>
    intro n j w
    constructor
    · intro h
      cases h
    · rintro ⟨t, v, -, h, -⟩
      simp at h
  | cons a lv ih =>
    intro n j w
    have key : (j, w) ∈ q_lp ad (n + 1) lv ↔ ∃ (t : Nat) (v : q_V), j = n + (t + 1) ∧ (a :: lv)[t + 1]? = some (some v) ∧ w = q_tv ad v := by
      rw [ih]
      constructor
      · rintro ⟨t, v, h1, h2, h3⟩
        exact ⟨t, v, by omega, by simpa using h2, h3⟩
      · rintro ⟨t, v, h1, h2, h3⟩
        exact ⟨t, v, by omega, by simpa using h2, h3⟩
    cases a with
    | none =>
      show (j, w) ∈ q_lp ad (n + 1) lv ↔ _
      rw [key]
      constructor
      · rintro ⟨t, v, h⟩
        exact ⟨t + 1, v, h⟩
      · rintro ⟨t, v, h1, h2, h3⟩
        cases t with
        | zero => simp at h2
        | succ t => exact ⟨t, v, h1, h2, h3⟩
    | some v0 =>
      show (j, w) ∈ (n, q_tv ad v0) :: q_lp ad (n + 1) lv ↔ _
      rw [List.mem_cons, key]
      constructor
      · rintro (h | ⟨t, v, h⟩)
        · cases h
          exact ⟨0, v0, rfl, rfl, rfl⟩
        · exact ⟨t + 1, v, h⟩
      · rintro ⟨t, v, h1, h2, h3⟩
        cases t with
        | zero =>
          simp at h2
          subst h2
          left
          rw [h1, h3]
          rfl
        | succ t => exact Or.inr ⟨t, v, h1, h2, h3⟩
def q_lh (ad : q_A) (nL : Nat) (ls : Array Slot) (lv : q_L) : Prop := lv_has ls nL (q_lp ad 0 lv)
theorem q_lh_at {ad : q_A} {nL : Nat} {ls : Array Slot} {lv : q_L} {i : Nat} {v : q_V} (h : q_lh ad nL ls lv) (hv : lv[i]? = some (some v)) : ls[i]? = some (.val (q_tv ad v)) :=
  h.2.2 (i, q_tv ad v) (q_lp_mem.mpr ⟨i, v, (Nat.zero_add i).symm, hv, rfl⟩)
theorem q_lh_sub {ad : q_A} {nL : Nat} {ls : Array Slot} {lv lv' : q_L} (h : q_lh ad nL ls lv) (hs : ∀ (i : Nat) (v : q_V), lv'[i]? = some (some v) → lv[i]? = some (some v)) : q_lh ad nL ls lv' := by
  refine ⟨h.1, h.2.1, fun q hq => ?_⟩
  obtain ⟨t, v, h1, h2, h3⟩ := q_lp_mem.mp (show (q.1, q.2) ∈ q_lp ad 0 lv' from hq)
  refine h.2.2 q ?_
  exact q_lp_mem.mpr ⟨t, v, h1, hs t v h2, h3⟩
def q_two : Option q_V → Bool
  | some (.inr (.inr (.inl _))) => true
  | some (.inr (.inr (.inr (.inr _)))) => true
  | _ => false
theorem q_two_cat {ad : q_A} {v : q_V} (h : q_two (some v) = false) : ((q_tv ad v).category == 2) = false := by
  rcases v with r | x | x | x | x <;> first | rfl | cases h
def q_kill : Nat → q_L → q_L
  | 0, lv => lv
  | _, [] => []
  | 1, a :: lv => (match q_two a with | true => none | false => a) :: lv
  | i + 2, a :: lv => a :: q_kill (i + 1) lv
theorem q_kill_at : ∀ (i : Nat) (lv : q_L) (j : Nat) (v : q_V), (q_kill i lv)[j]? = some (some v) → lv[j]? = some (some v) ∧ (j + 1 = i → q_two (some v) = false) := by
  intro i
  induction i with
  | zero =>
    intro lv j v h
    exact ⟨h, fun q => by omega⟩
  | succ i ih =>
    intro lv j v h
    cases lv with
    | nil =>
      have e : q_kill (i + 1) [] = [] := by cases i <;> rfl
      rw [e] at h
      simp at h
    | cons a lv =>
      cases i with
      | zero =>
        have e : q_kill 1 (a :: lv) = (match q_two a with | true => none | false => a) :: lv := rfl
        rw [e] at h
        cases j with
        | zero =>
          rw [List.getElem?_cons_zero] at h
          have h1 := Option.some.inj h
          cases ht : q_two a with
          | true =>
            rw [ht] at h1
            cases h1
          | false =>
            rw [ht] at h1
            have h2 : a = some v := h1
            subst h2
            exact ⟨rfl, fun _ => ht⟩
        | succ j =>
          rw [List.getElem?_cons_succ] at h
          exact ⟨by rw [List.getElem?_cons_succ]; exact h, fun q => by omega⟩
      | succ i =>
        have e : q_kill (i + 2) (a :: lv) = a :: q_kill (i + 1) lv := rfl
        rw [e] at h
        cases j with
        | zero =>
          rw [List.getElem?_cons_zero] at h
          exact ⟨by rw [List.getElem?_cons_zero]; exact h, fun q => by omega⟩
        | succ j =>
          rw [List.getElem?_cons_succ] at h
          obtain ⟨h1, h2⟩ := ih lv j v h
          exact ⟨by rw [List.getElem?_cons_succ]; exact h1, fun q => h2 (by omega)⟩
def q_set1 (i : Nat) (v : q_V) (lv : q_L) : q_L := (q_kill i lv).set i (some v)
def q_set2 (i : Nat) (v : q_V) (lv : q_L) : q_L := ((q_kill i lv).set i (some v)).set (i + 1) none
theorem q_set1_ok {ad : q_A} {nL i : Nat} {ls : Array Slot} {v : q_V} {lv : q_L} (h : lv_has ls nL ((i, q_tv ad v) :: (q_lp ad 0 lv).filter (fun q => !(q.1 == i) && !(q.1 + 1 == i && q.2.category == 2)))) : q_lh ad nL ls (q_set1 i v lv) := by
  refine ⟨h.1, h.2.1, fun q hq => h.2.2 q ?_⟩
  obtain ⟨t, v', h1, h2, h3⟩ := q_lp_mem.mp (show (q.1, q.2) ∈ q_lp ad 0 (q_set1 i v lv) from hq)
  rw [Nat.zero_add] at h1
  obtain ⟨j, w⟩ := q
  simp only at h1 h3
  subst h1
  subst h3
  unfold q_set1 at h2
  by_cases hj : j = i
  · subst hj
    have hlt : j < (q_kill j lv).length := by
      have := (List.getElem?_eq_some_iff.mp h2).1
      simpa using this
    rw [List.getElem?_set_self hlt] at h2
    cases h2
    exact List.mem_cons_self
  · rw [List.getElem?_set_ne (fun q => hj q.symm)] at h2
    obtain ⟨a1, a2⟩ := q_kill_at i lv j v' h2
    refine List.mem_cons_of_mem _ (List.mem_filter.mpr ⟨q_lp_mem.mpr ⟨j, v', (Nat.zero_add j).symm, a1, rfl⟩, ?_⟩)
    by_cases hji : j + 1 = i
    · simp [hj, q_two_cat (a2 hji)]
    · simp [hj, hji]
theorem q_set2_ok {ad : q_A} {nL i : Nat} {ls : Array Slot} {v : q_V} {lv : q_L} (h : lv_has ls nL ((i, q_tv ad v) :: (q_lp ad 0 lv).filter (fun q => !(q.1 == i) && (!(q.1 == i + 1) && !(q.1 + 1 == i && q.2.category == 2))))) : q_lh ad nL ls (q_set2 i v lv) := by
  refine ⟨h.1, h.2.1, fun q hq => h.2.2 q ?_⟩
  obtain ⟨t, v', h1, h2, h3⟩ := q_lp_mem.mp (show (q.1, q.2) ∈ q_lp ad 0 (q_set2 i v lv) from hq)
  rw [Nat.zero_add] at h1
  obtain ⟨j, w⟩ := q
  simp only at h1 h3
  subst h1
  subst h3
  unfold q_set2 at h2
  have hj1 : j ≠ i + 1 := by
    intro e
    subst e
    have hlt := (List.getElem?_eq_some_iff.mp h2).1
    rw [List.length_set] at hlt
    rw [List.getElem?_set_self hlt] at h2
    cases h2
  rw [List.getElem?_set_ne (fun q => hj1 q.symm)] at h2
  by_cases hj : j = i
  · subst hj
    have hlt : j < (q_kill j lv).length := by
      have := (List.getElem?_eq_some_iff.mp h2).1
      simpa using this
    rw [List.getElem?_set_self hlt] at h2
    cases h2
    exact List.mem_cons_self
  · rw [List.getElem?_set_ne (fun q => hj q.symm)] at h2
    obtain ⟨a1, a2⟩ := q_kill_at i lv j v' h2
    refine List.mem_cons_of_mem _ (List.mem_filter.mpr ⟨q_lp_mem.mpr ⟨j, v', (Nat.zero_add j).symm, a1, rfl⟩, ?_⟩)
    by_cases hji : j + 1 = i
    · simp [hj, hj1, q_two_cat (a2 hji)]
    · simp [hj, hj1, hji]
/-- the locals at a method's entry -/
def q_lv0 : q_S → q_L
  | [] => []
  | v :: vs => if q_cat v = 2 then some v :: none :: q_lv0 vs else some v :: q_lv0 vs
theorem q_lv0_args (ad : q_A) : ∀ (vs : q_S) (n : Nat), q_lp ad n (q_lv0 vs) = lv_args n (vs.map (q_tv ad)) := by
  intro vs
  induction vs with
  | nil => intro n; rfl
  | cons v vs ih =>
    intro n
    show q_lp ad n (if q_cat v = 2 then some v :: none :: q_lv0 vs else some v :: q_lv0 vs) = (n, q_tv ad v) :: lv_args (if (q_tv ad v).category = 2 then n + 2 else n + 1) (vs.map (q_tv ad))
    rw [q_cat_tv]
    by_cases h : q_cat v = 2
    · rw [if_pos h, if_pos h, ← ih]
      rfl
    · rw [if_neg h, if_neg h, ← ih]
      rfl
theorem q_lp_pad (ad : q_A) (k : Nat) : ∀ (lv : q_L) (n : Nat), q_lp ad n (lv ++ List.replicate k none) = q_lp ad n lv := by
  have h0 : ∀ (k n : Nat), q_lp ad n (List.replicate k none) = [] := by
    intro k
    induction k with
    | zero => intro n; rfl
    | succ k ih => intro n; exact ih (n + 1)
  intro lv
  induction lv with
  | nil => intro n; exact h0 k n
  | cons a lv ih =>
    intro n
    cases a with
    | none => exact ih (n + 1)
    | some v => exact congrArg ((n, q_tv ad v) :: ·) (ih (n + 1))
def q_len : q_S → Nat
  | [] => 0
  | v :: vs => q_cat v + q_len vs
theorem q_len_sl (ad : q_A) (vs : q_S) : (lg_sl (vs.map (q_tv ad))).length = q_len vs := by
  induction vs with
  | nil => rfl
  | cons v vs ih =>
    unfold lg_sl at ih ⊢
    rw [List.map_cons, List.flatMap_cons, List.length_append, ih, q_cat_tv]
    rcases v with r | x | x | x | x <;> rfl
/-! the words on nest mates, which ride with each contract -/
def q_nw : List (String × Nat × MethodName × String) := [(RX0, 42, yX4_init, "WheelDesk"), (RX5, 21, yX3_init, "WheelDesk"), (RX5, 28, yX2_init, "WheelDesk"), (RX0, 72, yX5_quotient, "WheelDesk"), (RX3, 54, yX5_axisAfter, "WheelDesk"), (RX0, 92, yX5_limited, "WheelDesk"), (RX4, 38, yX5_limited, "WheelDesk"), (RX2, 52, yX5_axisAfter, "WheelDesk"), (RX2, 38, yX5_quotient, "WheelDesk"), (RX2, 42, yX5_limited, "WheelDesk")]
def q_N (U : State) : Prop := ∀ w ∈ q_nw, va_Nw (.methodLinkNest w.1 w.2.1 w.2.2.1 w.2.2.2) U
theorem q_N.warm {s U : State} (hW : s.WarmedH U.vm) (h : q_N s) : q_N U := fun w hw => va_Nw.warmM hW (h w hw)
theorem q_N.same {u U : State} (e : u.vm = U.vm) (h : q_N u) : q_N U := fun w hw => va_Nw.same rfl e (h w hw)
/-! the static arrays, which nobody writes; they too have addresses in ad -/
def q_tbl (p : Nat) (i : Int) : Int := match p with
  | 34 => if i = 0 then 1 else if i = 1 then -1000000 else if i = 2 then -100 else -1000
  | 35 => if i = 0 then 1000 else if i = 1 then 1000000 else if i = 2 then 100 else 1000
  | 36 => if i = 2 then 1 else if i = 3 then 1 else 0
  | _ => if i = 0 then 1000 else if i = 1 then 1000 else if i = 2 then 10000 else if i = 3 then 100000 else 10000
def q_sn (p : Nat) : Int := match p with | 34 => 4 | 35 => 4 | 36 => 5 | 37 => 5 | _ => 0
def q_snm (p : Nat) : String := match p with | 34 => "LEAST_GIVEN" | 35 => "GREATEST_GIVEN" | 36 => "LEAST_SETTING" | _ => "GREATEST_SETTING"
/-- the script, which nobody writes -/
def q_Zx (ad : q_A) (A : Nat → Prop) (U : State) (H : Heap) : Prop := ∃ (n : Nat) (xs : Nat → Int32), n ≤ 3072 ∧ va_X (ad 0 38 0) n xs U H ∧ ad 0 38 0 < H.size ∧ ¬ A (ad 0 38 0)
def q_Z (ad : q_A) (A : Nat → Prop) (U : State) (H : Heap) : Prop := (∀ p : Nat, 0 < q_sn p → va_Z "WheelDesk" (q_snm p) "[I" (.ref (ad 0 p 0)) A U H ∧ va_T .int (ad 0 p 0) (q_sn p).toNat (fun j => .int (iO (q_tbl p (j : Int)))) A U H) ∧ q_Zx ad A U H
theorem q_Z.go {ad : q_A} {A B : Nat → Prop} {s U : State} {H : Heap} {locs : List Loc} (h : q_Z ad A s s.heap) (hv : s.vm.Alike U.vm) (hU : U.heap = H) (hS : va_S A s.heap H locs) (hAB : ∀ q, B q → A q) : q_Z ad B U U.heap := by
  rw [hU]
  obtain ⟨h, n, xs, hn, hx, hl, hA⟩ := h
  refine ⟨fun p hp => ?_, n, xs, hn, (hx.kept (hS.2.1 _ hl hA)).moved hv, Nat.lt_of_lt_of_le hl hS.1, fun q => hA (hAB _ q)⟩
  obtain ⟨h1, h2⟩ := h p hp
  exact ⟨((h1.kept hS.2.1).narrow hAB).moved hv, ((h2.kept hS.2.1).narrow hAB).moved hv⟩
theorem q_Z.alike {ad : q_A} {A : Nat → Prop} {s U : State} {H : Heap} (h : q_Z ad A s H) (hv : s.vm.Alike U.vm) : q_Z ad A U H := by
  obtain ⟨h, n, xs, hn, hx, hl, hA⟩ := h
  exact ⟨fun p hp => ⟨(h p hp).1.moved hv, (h p hp).2.moved hv⟩, n, xs, hn, hx.moved hv, hl, hA⟩
/-! two states that agree on all that a cell shows -/
def q_sz (p : Nat) : Int := match p with | 0 => 3 | 1 => 5 | 3 => 3 | 4 => 3 | 5 => 3 | 6 => 3 | 7 => 3 | 9 => 3 | 10 => 5 | 11 => 3 | 12 => 1 | 15 => 3 | 16 => 3 | 17 => 3 | 19 => 3 | 20 => 3 | 21 => 1 | 22 => 4 | 24 => 3 | _ => 0
/-- a role that can stand in the world -/
def q_okl (r : q_R) : Prop := r.2.1 < 25 ∧ 0 ≤ r.1 ∧ r.1 < q_nc r.2.1 ∧ 0 ≤ r.2.2 ∧ r.2.2 < q_nk r.2.1
def q_leq (σ σ' : q_M) : Prop := ∀ (c : Int) (p : Nat) (k s : Int), q_okl (c, p, k) → 0 ≤ s → s < q_sz p → σ c p k s = σ' c p k s
theorem q_leq.rf (σ : q_M) : q_leq σ σ := fun _ _ _ _ _ _ _ => rfl
theorem q_leq.tr {σ σ' σ'' : q_M} (h : q_leq σ σ') (h' : q_leq σ' σ'') : q_leq σ σ'' := fun c p k s a b d => (h c p k s a b d).trans (h' c p k s a b d)
theorem q_leq.sm {σ σ' : q_M} (h : q_leq σ σ') : q_leq σ' σ := fun c p k s a b d => (h c p k s a b d).symm
theorem q_arrV {c : ClassId} {n : Nat} {f g : Nat → Value} (h : ∀ j : Nat, j < n → f j = g j) : arrV c n f = arrV c n g := by
  unfold arrV
  congr 1
  apply congrArg
  funext j
  exact h j.1 j.2
theorem q_sz_I (p : Nat) (h : 0 < q_kI p) : q_sz p = q_kI p := by
  unfold q_kI at h ⊢
  split at h <;> first | rfl | omega
theorem q_sz_J (p : Nat) (h : 0 < q_kJ p) : q_sz p = q_kJ p := by
  unfold q_kJ at h ⊢
  split at h <;> first | rfl | omega
theorem q_flds_c {r : q_R} {f g : Int → Int} (h : ∀ s : Int, 0 ≤ s → s < q_sz r.2.1 → f s = g s) (ho : q_kI r.2.1 = 0 ∧ q_kJ r.2.1 = 0 ∧ q_kR r.2.1 = 0) (hp : r.2.1 < 25) : q_flds r f = q_flds r g := by
  obtain ⟨c, p, k⟩ := r
  simp only at h ho hp
  unfold q_flds
  simp only
  split
  · rw [h 0 (by omega) (by decide), h 1 (by omega) (by decide), h 2 (by omega) (by decide)]
  · rw [h 0 (by omega) (by decide), h 1 (by omega) (by decide), h 2 (by omega) (by decide), h 3 (by omega) (by decide), h 4 (by omega) (by decide)]
  · rw [h 0 (by omega) (by decide)]
  · rfl
  · rw [h 0 (by omega) (by decide)]
  · rfl
  · rfl
theorem q_RLx_ok (ad : q_A) : ∀ r ∈ q_RLx ad, q_okl r := by
  have key : (q_RL ++ [((0 : Int), (24 : Nat), (0 : Int))]).all (fun r => decide (r.2.1 < 25 ∧ 0 ≤ r.1 ∧ r.1 < q_nc r.2.1 ∧ 0 ≤ r.2.2 ∧ r.2.2 < q_nk r.2.1)) = true := by decide +kernel
  intro r hr
  have h := List.all_eq_true.mp key r (by
    unfold q_RLx q_fg at hr
    split at hr
    · exact hr
    · rw [List.append_nil] at hr
      exact List.mem_append_left _ hr)
  simp only [decide_eq_true_eq] at h
  exact h
theorem q_el_c {r : q_R} {f g : Int → Int} (h : ∀ s : Int, 0 ≤ s → s < q_sz r.2.1 → f s = g s) {i : Int} (h0 : 0 ≤ i) (h1 : i < q_kR r.2.1) : q_el r f i = q_el r g i := by
  obtain ⟨c, p, k⟩ := r
  simp only at h h1
  unfold q_el
  simp only
  split
  · rfl
  · rfl
  · rfl
  · rfl
  · unfold q_kR at h1
    split at h1
    · exact absurd rfl (by assumption)
    · exact absurd rfl (by assumption)
    · exact absurd rfl (by assumption)
    · exact absurd rfl (by assumption)
    · rw [h i h0 h1]
    · omega
theorem q_P_leq {D : va_G} {cy : Nat → ClassId} {ad : q_A} {σ σ' : q_M} {H : Heap} (h : q_leq σ σ') (hP : va_P D vwCl (q_W cy ad σ) H) : va_P D vwCl (q_W cy ad σ') H := by
  intro k x hx
  cases hr : (q_RLx ad)[k]? with
  | none =>
    unfold q_W at hx
    rw [List.getElem?_map, hr] at hx
    cases hx
  | some r =>
    rw [q_atx hr] at hx
    cases hx
    have h1 := hP k _ (q_atx hr σ)
    have hok := q_RLx_ok ad r (List.mem_of_getElem? hr)
    have hs : ∀ s : Int, 0 ≤ s → s < q_sz r.2.1 → σ r.1 r.2.1 r.2.2 s = σ' r.1 r.2.1 r.2.2 s := fun s a b => h r.1 r.2.1 r.2.2 s hok a b
    unfold q_shp at h1 ⊢
    by_cases a : 0 < q_kI r.2.1
    · rw [if_pos a] at h1 ⊢
      have e : vp_cell (cy 0) ((q_kI r.2.1).toNat, .inl (fun i => iO (σ r.1 r.2.1 r.2.2 (i : Int)))) = vp_cell (cy 0) ((q_kI r.2.1).toNat, .inl (fun i => iO (σ' r.1 r.2.1 r.2.2 (i : Int)))) := by
        rw [vp_cell_i, vp_cell_i]
        exact q_arrV fun j hj => by rw [hs j (by omega) (by rw [q_sz_I _ a]; omega)]
      exact h1.trans (congrArg some e)
    · rw [if_neg a] at h1 ⊢
      by_cases b : 0 < q_kJ r.2.1
      · rw [if_pos b] at h1 ⊢
        have e : vp_cell (cy 1) ((q_kJ r.2.1).toNat, .inr (.inl (fun i => lO (σ r.1 r.2.1 r.2.2 (i : Int))))) = vp_cell (cy 1) ((q_kJ r.2.1).toNat, .inr (.inl (fun i => lO (σ' r.1 r.2.1 r.2.2 (i : Int))))) := by
          rw [vp_cell_l, vp_cell_l]
          exact q_arrV fun j hj => by rw [hs j (by omega) (by rw [q_sz_J _ b]; omega)]
        exact h1.trans (congrArg some e)
      · rw [if_neg b] at h1 ⊢
        by_cases d : 0 < q_kR r.2.1
        · rw [if_pos d] at h1 ⊢
          refine Eq.trans h1 (congrArg some ?_)
          rw [vp_cell_q, vp_cell_q]
          exact q_arrV fun j hj => by
            rw [q_el_c hs (by omega : (0 : Int) ≤ (j : Int)) (by omega)]
        · rw [if_neg d] at h1 ⊢
          have ho : q_kI r.2.1 = 0 ∧ q_kJ r.2.1 = 0 ∧ q_kR r.2.1 = 0 := by
            refine ⟨?_, ?_, ?_⟩
            · have : 0 ≤ q_kI r.2.1 := by unfold q_kI; split <;> omega
              omega
            · have : 0 ≤ q_kJ r.2.1 := by unfold q_kJ; split <;> omega
              omega
            · have : 0 ≤ q_kR r.2.1 := by unfold q_kR; split <;> omega
              omega
          rw [← q_flds_c hs ho hok.1]
          exact h1
def q_sub (lv' lv : q_L) : Prop := ∀ (i : Nat) (v : q_V), lv'[i]? = some (some v) → lv[i]? = some (some v)
def q_C (X : Nat → q_K) : Prop := ∀ (t : Nat) (σ σ' : q_M) (lv lv' : q_L) (st : q_S), q_leq σ σ' → q_sub lv' lv → X t σ' lv' st → X t σ lv st
def q_out (Qp : Option q_V → q_M → Prop) (rv : Option q_V) (σ : q_M) : Prop := ∃ σ' : q_M, q_leq σ σ' ∧ Qp rv σ'
theorem q_out.i {Qp : Option q_V → q_M → Prop} {rv : Option q_V} {σ : q_M} (h : Qp rv σ) : q_out Qp rv σ := ⟨σ, q_leq.rf σ, h⟩
theorem q_out.l {Qp : Option q_V → q_M → Prop} {rv : Option q_V} {σ : q_M} (σ' : q_M) (e : q_leq σ σ') (h : Qp rv σ') : q_out Qp rv σ := ⟨σ', e, h⟩
/-! the judgement, its surroundings, a contract -/
def q_J (p : Program) (l : Launch) (e : Env) (R : Room) (s : State) (m : MethodId) (args : Array Value) (below : List Frame) (meth : Method) (c : Code) (nL : Nat) (D : va_G) (cy : Nat → ClassId) (A : Nat → Prop) (ad : q_A) (cells slots : Nat) (Q : State → Prop) (pc : Nat) : q_K := fun σ lv st =>
  ∀ (H : Heap) (locs : List Loc) (ls : Array Slot), va_P D vwCl (q_W cy ad σ) H → va_S A s.heap H locs → q_lh ad nL ls lv → W p l e R s m args below meth c H locs cells slots Q (F0 m pc ls (st.map (q_tv ad)))
def q_E (J : Nat → q_K) (cc : ByteArray) (own : String) (Ts : List Cond) (nL : Nat) (l : Launch) (R : Room) : Prop :=
  ∃ (p : Program) (e : Env) (s : State) (m : MethodId) (args : Array Value) (below : List Frame) (meth : Method) (c : Code) (D : va_G) (cy : Nat → ClassId) (A : Nat → Prop) (ad : q_A) (cells slots : Nat) (Q : State → Prop),
    J = q_J p l e R s m args below meth c nL D cy A ad cells slots Q ∧ CallFix p m c cc nL s args Ts own ∧ va_K D vwCl (q_ty cy) s ∧ (∀ σ : q_M, va_D A (q_W cy ad σ)) ∧ (∀ q : Nat, s.heap.size ≤ q → A q) ∧ q_N s ∧ q_Z ad A s s.heap ∧ cells ≤ R.cells ∧ slots ≤ R.slots
def q_T (J : Nat → q_K) (cc : ByteArray) (ret : Option FieldType) (Qp : Option q_V → q_M → Prop) : Prop :=
  (∀ pc σ lv x, ret = some .int → decode cc pc = .ok (.ireturn, 1) → q_out Qp (some (zI x)) σ → J pc σ lv [zI x]) ∧
  (∀ pc σ lv x, ret = some .boolean → decode cc pc = .ok (.ireturn, 1) → (x = 0 ∨ x = 1) → q_out Qp (some (zI x)) σ → J pc σ lv [zI x]) ∧
  (∀ pc σ lv x, ret = some .long → decode cc pc = .ok (.lreturn, 1) → q_out Qp (some (zL x)) σ → J pc σ lv [zL x]) ∧
  (∀ pc σ lv x, ret = some .float → decode cc pc = .ok (.freturn, 1) → q_out Qp (some (zF x)) σ → J pc σ lv [zF x]) ∧
  (∀ pc σ lv, ret = none → decode cc pc = .ok (.return_, 1) → q_out Qp none σ → J pc σ lv [])
def q_B (D : va_G) (cy : Nat → ClassId) (ad : q_A) (sz : Nat) (σ : q_M) (U : State) : Prop := U.heap.size = sz ∧ va_P D vwCl (q_W cy ad σ) U.heap ∧ va_K D vwCl (q_ty cy) U ∧ va_D (fun _ => True) (q_W cy ad σ) ∧ q_N U ∧ q_Z ad (va_A (q_W cy ad σ) sz) U U.heap
def q_Q (D : va_G) (cy : Nat → ClassId) (ad : q_A) (Qp : Option q_V → q_M → Prop) (A : Nat → Prop) : Array Value → State → Outcome → State → Prop := fun _ st oc t =>
  (∃ (rv : Option q_V) (σ' : q_M), oc = .returned (rv.map (q_tv ad)) ∧ Qp rv σ' ∧ va_P D vwCl (q_W cy ad σ') t.heap) ∧ va_F A st t
def q_Ct (y : MethodName) (ws : List Cond) (rm : Room) (Sp : q_P) : Prop :=
  ∀ (l : Launch) (D : va_G) (cy : Nat → ClassId) (ad : q_A) (σ : q_M) (vs : q_S) (Qp : Option q_V → q_M → Prop), Sp σ vs Qp → ∀ sz : Nat,
    Met l y ws rm (va_Pc (vs.map (q_tv ad)) (q_B D cy ad sz σ)) (q_Q D cy ad Qp (va_A (q_W cy ad σ) sz)) 0 0 (va_A (q_W cy ad σ) sz)
theorem q_W_ad {cy : Nat → ClassId} {ad : q_A} (σ σ' : q_M) (k : Nat) (x : Nat × va_E) (h : (q_W cy ad σ)[k]? = some x) : ∃ e, (q_W cy ad σ')[k]? = some (x.1, e) := by
  unfold q_W at h ⊢
  rw [List.getElem?_map] at h ⊢
  cases hr : (q_RLx ad)[k]? with
  | none =>
    rw [hr] at h
    cases h
  | some r =>
    rw [hr] at h
    cases h
    exact ⟨_, rfl⟩
theorem q_D_any {cy : Nat → ClassId} {ad : q_A} {A : Nat → Prop} {σ : q_M} (h : va_D A (q_W cy ad σ)) (σ' : q_M) : va_D A (q_W cy ad σ') := by
  refine ⟨fun i j x y hx hy hxy => ?_, fun k x hx => ?_⟩
  · obtain ⟨e1, h1⟩ := q_W_ad σ' σ i x hx
    obtain ⟨e2, h2⟩ := q_W_ad σ' σ j y hy
    exact h.1 i j _ _ h1 h2 hxy
  · obtain ⟨e1, h1⟩ := q_W_ad σ' σ k x hx
    exact h.2 k (_, e1) h1
theorem q_A_any {cy : Nat → ClassId} {ad : q_A} (σ σ' : q_M) (sz q : Nat) (h : va_A (q_W cy ad σ) sz q) : va_A (q_W cy ad σ') sz q := by
  rcases h with ⟨k, e, h⟩ | h
  · obtain ⟨e2, h2⟩ := q_W_ad σ σ' k _ h
    exact Or.inl ⟨k, e2, h2⟩
  · exact Or.inr h
theorem q_ofW {l : Launch} {y : MethodName} {ws ws' : List Cond} {rm : Room} {Pc : Array Value → State → Prop} {Qc : Array Value → State → Outcome → State → Prop} {mc ms : Nat} {free : Addr → Prop} {cc : ByteArray} {maxL : Nat} {ret : Option FieldType} (hy : plainFor y = true) (hw : ws = Cond.code y cc maxL ret :: ws')
    (body : ∀ p e s m args below meth c s₁, BodyLoose p l y (headSpec ws rm) cc maxL ret e s m args below meth c s₁ → c.maxLocals = maxL → Pc args s →
      W p l e (headSpec ws rm).room s m args below meth c s.heap [] 0 0 (MQ below Qc args s mc ms free) (entryFrame m args maxL)) : Met l y ws rm Pc Qc mc ms free := by
  refine MetFree.of_bodySF (code := cc) (maxLocals := maxL) (ret := ret) hy ?_ ?_
  · intro args s m h hn
    obtain ⟨meth, c, h1, h2, h3, h4, h5, h6, -, -⟩ := Cond.code_spec hn (atoms_spec (ws := ws) h _ (by rw [hw]; exact List.mem_cons_self))
    exact ⟨meth, c, h1, h2, h3, h4, h5, h6⟩
  · intro p e s m args below meth c s₁ B hml hP _
    have hh0 : s₁.heap = s.heap := by rw [B.state]; rfl
    obtain ⟨t, a1, o, b1, b2, b3⟩ := body p e s m args below meth c s₁ B hml hP s₁ hh0 (Stand.of_body B)
    exact ⟨t, o, a1, b1, b2, ⟨b3.1, b3.2⟩⟩
theorem q_met {y : MethodName} {ws ws' : List Cond} {rm : Room} {cc : ByteArray} {maxL : Nat} {ret : Option FieldType} {Sp : q_P} {own : String} (hy : plainFor y = true) (hw : ws = Cond.code y cc maxL ret :: ws') (ho : y.cls = own)
    (hlen : ∀ (σ : q_M) (vs : q_S) (Qp : Option q_V → q_M → Prop), Sp σ vs Qp → q_len vs ≤ maxL)
    (body : ∀ (l : Launch) (J : Nat → q_K) (σ : q_M) (vs : q_S) (Qp : Option q_V → q_M → Prop), q_E J cc own ws maxL l rm → q_T J cc ret Qp → Sp σ vs Qp → J 0 σ (q_lv0 vs ++ List.replicate (maxL - q_len vs) none) []) : q_Ct y ws rm Sp := by
  intro l D cy ad σ vs Qp hSp sz
  refine q_ofW (cc := cc) (maxL := maxL) (ret := ret) hy hw ?_
  intro p e s m args below meth c s₁ B hml hv
  obtain ⟨rfl, hsz, hP, hK, hD0, hN, hZ⟩ := hv
  subst hsz
  have hlocks := B.notSynchronized
  have hr := B.returns
  have hS : va_S (va_A (q_W cy ad σ) s.heap.size) s.heap s.heap [] := va_S.rf
  have hl := lv_entry (vs.map (q_tv ad)) (n := maxL) (by rw [q_len_sl]; exact hlen σ vs Qp hSp)
  rw [lg_entry_eq]
  generalize hJ : q_J p l e (headSpec ws rm).room s m (vs.map (q_tv ad)).toArray below meth c maxL D cy (va_A (q_W cy ad σ) s.heap.size) ad 0 0 (MQ below (q_Q D cy ad Qp (va_A (q_W cy ad σ) s.heap.size)) (vs.map (q_tv ad)).toArray s 0 0 (va_A (q_W cy ad σ) s.heap.size)) = J
  have hE : q_E J cc own ws maxL l rm := ⟨p, e, s, m, _, below, meth, c, D, cy, _, ad, 0, 0, _, hJ.symm, ⟨B.exec, B.bytes, hml, by rw [← ho]; exact findClass_of_methodNamed B.named, atoms_spec (ws := ws) B.pre⟩, hK, fun σ' => q_D_any (hD0.self) σ', fun q h => Or.inr h, hN, hZ, Nat.zero_le _, Nat.zero_le _⟩
  have hT : q_T J cc ret Qp := by
    subst hJ
    refine ⟨?_, ?_, ?_, ?_, ?_⟩
    · intro pc σ' lv x hret hd ⟨σ2, hleq, hq⟩ H locs ls hP' hS' hl'
      exact W.iret (v := iO x) B.exec B.bytes (by rw [hr]; exact hret) (fun t ht hW => ⟨⟨some (zI x), σ2, rfl, hq, by rw [ht]; exact q_P_leq hleq hP'⟩, hS'.F ht⟩) hS'.2.2 hd
    · intro pc σ' lv x hret hd hx01 ⟨σ2, hleq, hq⟩ H locs ls hP' hS' hl'
      exact W.zret (v := iO x) (ty := .boolean) B.exec B.bytes (by rw [hr]; exact hret) (by rcases hx01 with rfl | rfl <;> rfl) (fun t ht hW => ⟨⟨some (zI x), σ2, rfl, hq, by rw [ht]; exact q_P_leq hleq hP'⟩, hS'.F ht⟩) hS'.2.2 hd
    · intro pc σ' lv x hret hd ⟨σ2, hleq, hq⟩ H locs ls hP' hS' hl'
      exact W.lret (v := lO x) B.exec B.bytes (by rw [hr]; exact hret) (fun t ht hW => ⟨⟨some (zL x), σ2, rfl, hq, by rw [ht]; exact q_P_leq hleq hP'⟩, hS'.F ht⟩) hS'.2.2 hd
    · intro pc σ' lv x hret hd ⟨σ2, hleq, hq⟩ H locs ls hP' hS' hl'
      exact W.fret (v := x) B.exec B.bytes (by rw [hr]; exact hret) (fun t ht hW => ⟨⟨some (zF x), σ2, rfl, hq, by rw [ht]; exact q_P_leq hleq hP'⟩, hS'.F ht⟩) hS'.2.2 hd
    · intro pc σ' lv hret hd ⟨σ2, hleq, hq⟩ H locs ls hP' hS' hl'
      exact W.vret B.exec B.bytes (by rw [hr]; exact hret) (fun t ht hW => ⟨⟨none, σ2, rfl, hq, by rw [ht]; exact q_P_leq hleq hP'⟩, hS'.F ht⟩) hS'.2.2 hd
  have g := body l J σ vs Qp hE hT hSp
  subst hJ
  refine g s.heap [] _ hP hS ?_
  unfold q_lh
  rw [q_lp_pad, q_lv0_args]
  exact hl

