/-! ===== the small machine's cells, arrays and calls ===== -/
theorem q_shp_o {cy : Nat → ClassId} {ad : q_A} {r : q_R} {f : Int → Int} (h : q_kI r.2.1 = 0 ∧ q_kJ r.2.1 = 0 ∧ q_kR r.2.1 = 0) : q_shp cy ad r f = .inr (q_ci r.2.1, (q_flds r f).map (q_tv ad)) := by
  unfold q_shp
  rw [if_neg (by omega), if_neg (by omega), if_neg (by omega)]
theorem q_shp_I {cy : Nat → ClassId} {ad : q_A} {r : q_R} {f : Int → Int} (h : 0 < q_kI r.2.1) : q_shp cy ad r f = .inl (cy 0, (q_kI r.2.1).toNat, .inl (fun i => iO (f (i : Int)))) := by
  unfold q_shp
  rw [if_pos h]
theorem q_kIJ (p : Nat) : 0 < q_kJ p → ¬ 0 < q_kI p := by
  unfold q_kJ q_kI
  split <;> simp
theorem q_kIR (p : Nat) : 0 < q_kR p → ¬ 0 < q_kI p ∧ ¬ 0 < q_kJ p := by
  unfold q_kR q_kI q_kJ
  split <;> simp
theorem q_kI_le (p : Nat) : q_kI p ≤ 400 := by
  unfold q_kI
  split <;> omega
theorem q_kJ_le (p : Nat) : q_kJ p ≤ 400 := by
  unfold q_kJ
  split <;> omega
theorem q_kR_le (p : Nat) : q_kR p ≤ 400 := by
  unfold q_kR
  split <;> omega
theorem q_shp_J {cy : Nat → ClassId} {ad : q_A} {r : q_R} {f : Int → Int} (h : 0 < q_kJ r.2.1) : q_shp cy ad r f = .inl (cy 1, (q_kJ r.2.1).toNat, .inr (.inl (fun i => lO (f (i : Int))))) := by
  unfold q_shp
  rw [if_neg (q_kIJ _ h), if_pos h]
theorem q_shp_R {cy : Nat → ClassId} {ad : q_A} {r : q_R} {f : Int → Int} (h : 0 < q_kR r.2.1) : q_shp cy ad r f = .inl (cy (q_ry r.2.1), (q_kR r.2.1).toNat, .inr (.inr (.inr (.inr (fun i => some (ad (q_el r f (i : Int)).1 (q_el r f (i : Int)).2.1 (q_el r f (i : Int)).2.2)))))) := by
  unfold q_shp
  rw [if_neg (q_kIR _ h).1, if_neg (q_kIR _ h).2, if_pos h]
theorem q_ryT (p : Nat) (h : 0 < q_kR p) (cy : Nat → ClassId) : ∃ ty : FieldType, (q_ty cy)[q_ry p]? = some (cy (q_ry p), ty) ∧ ty.isReference = true := by
  unfold q_kR at h
  split at h
  · exact ⟨_, rfl, rfl⟩
  · exact ⟨_, rfl, rfl⟩
  · exact ⟨_, rfl, rfl⟩
  · exact ⟨_, rfl, rfl⟩
  · exact ⟨_, rfl, rfl⟩
  · omega
theorem q_nat {x : Int} (h : 0 ≤ x) : ((x.toNat : Nat) : Int) = x := Int.toNat_of_nonneg h
def q_fld (us : List q_V) (fi : Nat) (σ : q_M) (lv : q_L) (st : q_S) (K : q_K) : Prop := match us[fi]? with
  | some u => K σ lv (u :: st)
  | none => False
def o_get (pp fi : Nat) (σ : q_M) (lv : q_L) (st : q_S) (K : q_K) : Prop := match st with
  | .inl r :: st => r.2.1 = pp ∧ q_ok r ∧ q_fld (q_flds r (σ r.1 r.2.1 r.2.2)) fi σ lv st K
  | _ => False
def o_puti (pp : Nat) (sl : Int) (σ : q_M) (lv : q_L) (st : q_S) (K : q_K) : Prop := match st with
  | .inr (.inl x) :: .inl r :: st => r.2.1 = pp ∧ q_ok r ∧ K (q_wr σ r.1 r.2.1 r.2.2 sl x) lv st
  | _ => False
def o_putz (pp : Nat) (sl : Int) (σ : q_M) (lv : q_L) (st : q_S) (K : q_K) : Prop := match st with
  | .inr (.inl x) :: .inl r :: st => r.2.1 = pp ∧ q_ok r ∧ (x = 0 ∨ x = 1) ∧ K (q_wr σ r.1 r.2.1 r.2.2 sl x) lv st
  | _ => False
def o_putl (pp : Nat) (sl : Int) (σ : q_M) (lv : q_L) (st : q_S) (K : q_K) : Prop := match st with
  | .inr (.inr (.inl x)) :: .inl r :: st => r.2.1 = pp ∧ q_ok r ∧ K (q_wr σ r.1 r.2.1 r.2.2 sl x) lv st
  | _ => False
def o_iald (σ : q_M) (lv : q_L) (st : q_S) (K : q_K) : Prop := match st with
  | .inr (.inl i) :: .inl r :: st => q_ok r ∧ 0 ≤ i ∧ i < q_kI r.2.1 ∧ K σ lv (zI (σ r.1 r.2.1 r.2.2 i) :: st)
  | _ => False
def o_lald (σ : q_M) (lv : q_L) (st : q_S) (K : q_K) : Prop := match st with
  | .inr (.inl i) :: .inl r :: st => q_ok r ∧ 0 ≤ i ∧ i < q_kJ r.2.1 ∧ K σ lv (zL (σ r.1 r.2.1 r.2.2 i) :: st)
  | _ => False
def o_aald (σ : q_M) (lv : q_L) (st : q_S) (K : q_K) : Prop := match st with
  | .inr (.inl i) :: .inl r :: st => q_ok r ∧ 0 ≤ i ∧ i < q_kR r.2.1 ∧ K σ lv (.inl (q_el r (σ r.1 r.2.1 r.2.2) i) :: st)
  | _ => False
def o_iast (σ : q_M) (lv : q_L) (st : q_S) (K : q_K) : Prop := match st with
  | .inr (.inl x) :: .inr (.inl i) :: .inl r :: st => q_ok r ∧ 0 ≤ i ∧ i < q_kI r.2.1 ∧ K (q_wr σ r.1 r.2.1 r.2.2 i x) lv st
  | _ => False
def o_last (σ : q_M) (lv : q_L) (st : q_S) (K : q_K) : Prop := match st with
  | .inr (.inr (.inl x)) :: .inr (.inl i) :: .inl r :: st => q_ok r ∧ 0 ≤ i ∧ i < q_kJ r.2.1 ∧ K (q_wr σ r.1 r.2.1 r.2.2 i x) lv st
  | _ => False
def o_aast (σ : q_M) (lv : q_L) (st : q_S) (K : q_K) : Prop := match st with
  | .inl v :: .inr (.inl i) :: .inl r :: st => q_ok r ∧ r.2.1 = 22 ∧ q_ok v ∧ v.2.1 = 0 ∧ 0 ≤ i ∧ i < 4 ∧ K (q_wr σ r.1 r.2.1 r.2.2 i v.1) lv st
  | _ => False
def o_acpi (σ : q_M) (lv : q_L) (st : q_S) (K : q_K) : Prop := match st with
  | .inr (.inl n) :: .inr (.inl dp) :: .inl d :: .inr (.inl sp) :: .inl r :: st => q_ok d ∧ q_ok r ∧ 0 < n ∧ 0 ≤ dp ∧ 0 ≤ sp ∧ sp + n ≤ q_kI r.2.1 ∧ dp + n ≤ q_kI d.2.1 ∧ q_cats st ≤ 8 ∧ K (q_cp σ d r sp dp n) lv st
  | _ => False
def o_acpl (σ : q_M) (lv : q_L) (st : q_S) (K : q_K) : Prop := match st with
  | .inr (.inl n) :: .inr (.inl dp) :: .inl d :: .inr (.inl sp) :: .inl r :: st => q_ok d ∧ q_ok r ∧ 0 < n ∧ 0 ≤ dp ∧ 0 ≤ sp ∧ sp + n ≤ q_kJ r.2.1 ∧ dp + n ≤ q_kJ d.2.1 ∧ q_cats st ≤ 8 ∧ K (q_cp σ d r sp dp n) lv st
  | _ => False
def o_mabs (σ : q_M) (lv : q_L) (st : q_S) (K : q_K) : Prop := match st with
  | .inr (.inl x) :: st => q_i32 x ∧ q_cats st ≤ 8 ∧ K σ lv (zI (if 0 ≤ x then x else -x) :: st)
  | _ => False
def o_mabsl (σ : q_M) (lv : q_L) (st : q_S) (K : q_K) : Prop := match st with
  | .inr (.inr (.inl x)) :: st => q_i64 x ∧ q_cats st ≤ 8 ∧ K σ lv (zL (if 0 < x then x else -x) :: st)
  | _ => False
def o_mmin (σ : q_M) (lv : q_L) (st : q_S) (K : q_K) : Prop := match st with
  | .inr (.inl y) :: .inr (.inl x) :: st => q_i32 x ∧ q_i32 y ∧ q_cats st ≤ 8 ∧ K σ lv (zI (if y < x then y else x) :: st)
  | _ => False
def o_mmax (σ : q_M) (lv : q_L) (st : q_S) (K : q_K) : Prop := match st with
  | .inr (.inl y) :: .inr (.inl x) :: st => q_i32 x ∧ q_i32 y ∧ q_cats st ≤ 8 ∧ K σ lv (zI (if x < y then y else x) :: st)
  | _ => False
def o_callV (n pp : Nat) (Sp : q_P) (σ : q_M) (lv : q_L) (st : q_S) (K : q_K) : Prop := match st.drop n with
  | .inl r :: st' => r.2.1 = pp ∧ q_ok r ∧ (st.take n).length = n ∧ q_cats st' ≤ 8 ∧ Sp σ (.inl r :: (st.take n).reverse) (fun rv σ' => K σ' lv (rv.toList ++ st'))
  | _ => False
def o_callS (n : Nat) (Sp : q_P) (σ : q_M) (lv : q_L) (st : q_S) (K : q_K) : Prop :=
  (st.take n).length = n ∧ q_cats (st.drop n) ≤ 8 ∧ Sp σ (st.take n).reverse (fun rv σ' => K σ' lv (rv.toList ++ st.drop n))
section QHEAP
variable {J : Nat → q_K} {cc : ByteArray} {own : String} {Ts : List Cond} {nL : Nat} {l : Launch} {R : Room} {pc : Nat} {σ : q_M} {lv : q_L} {st : q_S} {K : q_K}
theorem so_get (E : q_E J cc own Ts nL l R) {pp fi N idx : Nat} {C ref : String} {T : u_T} (ho : q_kI pp = 0 ∧ q_kJ pp = 0 ∧ q_kR pp = 0) (hcl : vwCl[q_ci pp]? = some (C, T, N)) (hin : ∀ w ∈ u_ws C T N, w ∈ Ts) (hk : fi < N) (href : (T fi).1 = ref) (hlink : Cond.fieldLink own idx ref (T fi).2.1 (T fi).2.2.1 ∈ Ts) (hd : decode cc pc = .ok (.getfield idx, 3)) (h : o_get pp fi σ lv st K) (k : ∀ σ lv st, K σ lv st → J (pc + 3) σ lv st) : J pc σ lv st := by
  obtain ⟨p, e, s, m, args, below, meth, c, D, cy, A, ad, cells, slots, Q, rfl, ⟨hx, hb, hml, hown, hts⟩, hK, hD, hA, hN, hZ, hc1, hs1⟩ := E
  unfold o_get at h
  split at h
  · next r st =>
    obtain ⟨hp, hok, h⟩ := h
    obtain ⟨c0, p0, k0⟩ := r
    simp only at hp
    subst hp
    unfold q_fld at h
    split at h
    · next u hu =>
      intro H locs ls hP hS hl
      obtain ⟨j, hj⟩ := q_pos hok
      have hat := q_at (cy := cy) (ad := ad) hj σ
      rw [q_shp_o ho] at hat
      exact va_get (D := D) (v := q_tv ad u) hx hb hts hin hown hK hP j hat hcl fi hk (hts _ hlink) (by rw [href]; exact fun _ h9 => h9) (by rw [List.getElem?_map, hu]; rfl) hd (k _ _ _ h H locs ls hP hS hl)
    · exact h.elim
  · exact h.elim
theorem so_puti (E : q_E J cc own Ts nL l R) {pp fi N idx : Nat} {sl : Int} {C ref : String} {T : u_T} (ho : q_kI pp = 0 ∧ q_kJ pp = 0 ∧ q_kR pp = 0) (hcl : vwCl[q_ci pp]? = some (C, T, N)) (hin : ∀ w ∈ u_ws C T N, w ∈ Ts) (ty0 : Nat → FieldType) (hty : ∀ k, k < N → parseFieldDescriptor (T k).2.2.1 = some (ty0 k)) (hnm : ∀ a, a < N → ∀ b, b < N → a ≠ b → (T a).2.1 ≠ (T b).2.1) (hk : fi < N) (href : (T fi).1 = ref) (hfin : (T fi).2.2.2 = false) (hdf : parseFieldDescriptor (T fi).2.2.1 = some .int) (hset : ∀ (r : q_R) (f : Int → Int) (x : Int), r.2.1 = pp → fi < (q_flds r f).length ∧ (q_flds r f).set fi (zI x) = q_flds r (fun s => if s = sl then x else f s)) (hlink : Cond.fieldLink own idx ref (T fi).2.1 (T fi).2.2.1 ∈ Ts) (hd : decode cc pc = .ok (.putfield idx, 3)) (h : o_puti pp sl σ lv st K) (k : ∀ σ lv st, K σ lv st → J (pc + 3) σ lv st) : J pc σ lv st := by
  obtain ⟨p, e, s, m, args, below, meth, c, D, cy, A, ad, cells, slots, Q, rfl, ⟨hx, hb, hml, hown, hts⟩, hK, hD, hA, hN, hZ, hc1, hs1⟩ := E
  unfold o_puti at h
  split at h
  · next x r st =>
    obtain ⟨hp, hok, h⟩ := h
    intro H locs ls hP hS hl
    obtain ⟨j, hj⟩ := q_pos hok
    have hat := q_at (cy := cy) (ad := ad) hj σ
    have hat0 := hat
    rw [q_shp_o (by rw [hp]; exact ho), hp] at hat
    obtain ⟨hl9, hs9⟩ := hset r (σ r.1 r.2.1 r.2.2) x hp
    change W p l e R s m args below meth c H locs cells slots Q (F0 m pc ls (.int (iO x) :: .ref (ad r.1 r.2.1 r.2.2) :: st.map (q_tv ad)))
    rw [hp]
    rw [hp] at hl9 hs9
    refine va_put (D := D) (ci := q_ci pp) (ty := .int) hx hb hts hin ty0 hty hnm hown hK hP (hD σ) hS j hat hcl fi hk (hts _ hlink) (by rw [href]; exact fun _ h9 => h9) hfin hdf rfl (rfl) (by rw [List.length_map]; exact hl9) hd (fun H1 locs1 hP1 hD1 hS1 => ?_)
    have hw := q_set_W (cy := cy) (ad := ad) hj σ (fun s => if s = sl then x else σ r.1 r.2.1 r.2.2 s)
    rw [q_wr_set, q_shp_o (by rw [hp]; exact ho)] at hw
    rw [hp, ← hs9, List.map_set] at hw
    have hP2 : va_P D vwCl (q_W cy ad (q_wr σ r.1 pp r.2.2 sl x)) H1 := by
      rw [← hw]
      exact hP1
    rw [hp] at h
    exact k _ _ _ h H1 locs1 ls hP2 hS1 hl
  · exact h.elim
theorem so_putz (E : q_E J cc own Ts nL l R) {pp fi N idx : Nat} {sl : Int} {C ref : String} {T : u_T} (ho : q_kI pp = 0 ∧ q_kJ pp = 0 ∧ q_kR pp = 0) (hcl : vwCl[q_ci pp]? = some (C, T, N)) (hin : ∀ w ∈ u_ws C T N, w ∈ Ts) (ty0 : Nat → FieldType) (hty : ∀ k, k < N → parseFieldDescriptor (T k).2.2.1 = some (ty0 k)) (hnm : ∀ a, a < N → ∀ b, b < N → a ≠ b → (T a).2.1 ≠ (T b).2.1) (hk : fi < N) (href : (T fi).1 = ref) (hfin : (T fi).2.2.2 = false) (hdf : parseFieldDescriptor (T fi).2.2.1 = some .boolean) (hset : ∀ (r : q_R) (f : Int → Int) (x : Int), r.2.1 = pp → fi < (q_flds r f).length ∧ (q_flds r f).set fi (zI x) = q_flds r (fun s => if s = sl then x else f s)) (hlink : Cond.fieldLink own idx ref (T fi).2.1 (T fi).2.2.1 ∈ Ts) (hd : decode cc pc = .ok (.putfield idx, 3)) (h : o_putz pp sl σ lv st K) (k : ∀ σ lv st, K σ lv st → J (pc + 3) σ lv st) : J pc σ lv st := by
  obtain ⟨p, e, s, m, args, below, meth, c, D, cy, A, ad, cells, slots, Q, rfl, ⟨hx, hb, hml, hown, hts⟩, hK, hD, hA, hN, hZ, hc1, hs1⟩ := E
  unfold o_putz at h
  split at h
  · next x r st =>
    obtain ⟨hp, hok, hz, h⟩ := h
    intro H locs ls hP hS hl
    obtain ⟨j, hj⟩ := q_pos hok
    have hat := q_at (cy := cy) (ad := ad) hj σ
    have hat0 := hat
    rw [q_shp_o (by rw [hp]; exact ho), hp] at hat
    obtain ⟨hl9, hs9⟩ := hset r (σ r.1 r.2.1 r.2.2) x hp
    change W p l e R s m args below meth c H locs cells slots Q (F0 m pc ls (.int (iO x) :: .ref (ad r.1 r.2.1 r.2.2) :: st.map (q_tv ad)))
    rw [hp]
    rw [hp] at hl9 hs9
    refine va_put (D := D) (ci := q_ci pp) (ty := .boolean) hx hb hts hin ty0 hty hnm hown hK hP (hD σ) hS j hat hcl fi hk (hts _ hlink) (by rw [href]; exact fun _ h9 => h9) hfin hdf (by rcases hz with rfl | rfl <;> rfl) (by rcases hz with rfl | rfl <;> rfl) (by rw [List.length_map]; exact hl9) hd (fun H1 locs1 hP1 hD1 hS1 => ?_)
    have hw := q_set_W (cy := cy) (ad := ad) hj σ (fun s => if s = sl then x else σ r.1 r.2.1 r.2.2 s)
    rw [q_wr_set, q_shp_o (by rw [hp]; exact ho)] at hw
    rw [hp, ← hs9, List.map_set] at hw
    have hP2 : va_P D vwCl (q_W cy ad (q_wr σ r.1 pp r.2.2 sl x)) H1 := by
      rw [← hw]
      exact hP1
    rw [hp] at h
    exact k _ _ _ h H1 locs1 ls hP2 hS1 hl
  · exact h.elim
theorem so_putl (E : q_E J cc own Ts nL l R) {pp fi N idx : Nat} {sl : Int} {C ref : String} {T : u_T} (ho : q_kI pp = 0 ∧ q_kJ pp = 0 ∧ q_kR pp = 0) (hcl : vwCl[q_ci pp]? = some (C, T, N)) (hin : ∀ w ∈ u_ws C T N, w ∈ Ts) (ty0 : Nat → FieldType) (hty : ∀ k, k < N → parseFieldDescriptor (T k).2.2.1 = some (ty0 k)) (hnm : ∀ a, a < N → ∀ b, b < N → a ≠ b → (T a).2.1 ≠ (T b).2.1) (hk : fi < N) (href : (T fi).1 = ref) (hfin : (T fi).2.2.2 = false) (hdf : parseFieldDescriptor (T fi).2.2.1 = some .long) (hset : ∀ (r : q_R) (f : Int → Int) (x : Int), r.2.1 = pp → fi < (q_flds r f).length ∧ (q_flds r f).set fi (zL x) = q_flds r (fun s => if s = sl then x else f s)) (hlink : Cond.fieldLink own idx ref (T fi).2.1 (T fi).2.2.1 ∈ Ts) (hd : decode cc pc = .ok (.putfield idx, 3)) (h : o_putl pp sl σ lv st K) (k : ∀ σ lv st, K σ lv st → J (pc + 3) σ lv st) : J pc σ lv st := by
  obtain ⟨p, e, s, m, args, below, meth, c, D, cy, A, ad, cells, slots, Q, rfl, ⟨hx, hb, hml, hown, hts⟩, hK, hD, hA, hN, hZ, hc1, hs1⟩ := E
  unfold o_putl at h
  split at h
  · next x r st =>
    obtain ⟨hp, hok, h⟩ := h
    intro H locs ls hP hS hl
    obtain ⟨j, hj⟩ := q_pos hok
    have hat := q_at (cy := cy) (ad := ad) hj σ
    have hat0 := hat
    rw [q_shp_o (by rw [hp]; exact ho), hp] at hat
    obtain ⟨hl9, hs9⟩ := hset r (σ r.1 r.2.1 r.2.2) x hp
    change W p l e R s m args below meth c H locs cells slots Q (F0 m pc ls (.long (lO x) :: .ref (ad r.1 r.2.1 r.2.2) :: st.map (q_tv ad)))
    rw [hp]
    rw [hp] at hl9 hs9
    refine va_put (D := D) (ci := q_ci pp) (ty := .long) hx hb hts hin ty0 hty hnm hown hK hP (hD σ) hS j hat hcl fi hk (hts _ hlink) (by rw [href]; exact fun _ h9 => h9) hfin hdf rfl (rfl) (by rw [List.length_map]; exact hl9) hd (fun H1 locs1 hP1 hD1 hS1 => ?_)
    have hw := q_set_W (cy := cy) (ad := ad) hj σ (fun s => if s = sl then x else σ r.1 r.2.1 r.2.2 s)
    rw [q_wr_set, q_shp_o (by rw [hp]; exact ho)] at hw
    rw [hp, ← hs9, List.map_set] at hw
    have hP2 : va_P D vwCl (q_W cy ad (q_wr σ r.1 pp r.2.2 sl x)) H1 := by
      rw [← hw]
      exact hP1
    rw [hp] at h
    exact k _ _ _ h H1 locs1 ls hP2 hS1 hl
  · exact h.elim
theorem so_iald (E : q_E J cc own Ts nL l R) (hd : decode cc pc = .ok (.iaload, 1)) (h : o_iald σ lv st K) (k : ∀ σ lv st, K σ lv st → J (pc + 1) σ lv st) : J pc σ lv st := by
  obtain ⟨p, e, s, m, args, below, meth, c, D, cy, A, ad, cells, slots, Q, rfl, ⟨hx, hb, hml, hown, hts⟩, hK, hD, hA, hN, hZ, hc1, hs1⟩ := E
  unfold o_iald at h
  split at h
  · next i r st =>
    obtain ⟨hok, h0, h1, h⟩ := h
    intro H locs ls hP hS hl
    obtain ⟨j, hj⟩ := q_pos hok
    have hat := q_at (cy := cy) (ad := ad) hj σ
    have hle := q_kI_le r.2.1
    rw [q_shp_I (by omega)] at hat
    change W p l e R s m args below meth c H locs cells slots Q (F0 m pc ls (.int (iO i) :: .ref (ad r.1 r.2.1 r.2.2) :: st.map (q_tv ad)))
    refine va_iald hx hb hK hP j 0 hat rfl (iO_in h0 h1 (by omega)) hd ?_
    rw [iO_clamp h0 ⟨by omega, by omega⟩]
    have g := k _ _ _ h H locs ls hP hS hl
    change W p l e R s m args below meth c H locs cells slots Q (F0 m (pc + 1) ls (.int (iO (σ r.1 r.2.1 r.2.2 i)) :: st.map (q_tv ad))) at g
    rw [q_nat h0]
    exact g
  · exact h.elim
theorem so_lald (E : q_E J cc own Ts nL l R) (hd : decode cc pc = .ok (.laload, 1)) (h : o_lald σ lv st K) (k : ∀ σ lv st, K σ lv st → J (pc + 1) σ lv st) : J pc σ lv st := by
  obtain ⟨p, e, s, m, args, below, meth, c, D, cy, A, ad, cells, slots, Q, rfl, ⟨hx, hb, hml, hown, hts⟩, hK, hD, hA, hN, hZ, hc1, hs1⟩ := E
  unfold o_lald at h
  split at h
  · next i r st =>
    obtain ⟨hok, h0, h1, h⟩ := h
    intro H locs ls hP hS hl
    obtain ⟨j, hj⟩ := q_pos hok
    have hat := q_at (cy := cy) (ad := ad) hj σ
    have hle := q_kJ_le r.2.1
    rw [q_shp_J (by omega)] at hat
    change W p l e R s m args below meth c H locs cells slots Q (F0 m pc ls (.int (iO i) :: .ref (ad r.1 r.2.1 r.2.2) :: st.map (q_tv ad)))
    refine va_lald hx hb hK hP j 1 hat rfl (iO_in h0 h1 (by omega)) hd ?_
    rw [iO_clamp h0 ⟨by omega, by omega⟩]
    have g := k _ _ _ h H locs ls hP hS hl
    change W p l e R s m args below meth c H locs cells slots Q (F0 m (pc + 1) ls (.long (lO (σ r.1 r.2.1 r.2.2 i)) :: st.map (q_tv ad))) at g
    rw [q_nat h0]
    exact g
  · exact h.elim
theorem so_aald (E : q_E J cc own Ts nL l R) (hd : decode cc pc = .ok (.aaload, 1)) (h : o_aald σ lv st K) (k : ∀ σ lv st, K σ lv st → J (pc + 1) σ lv st) : J pc σ lv st := by
  obtain ⟨p, e, s, m, args, below, meth, c, D, cy, A, ad, cells, slots, Q, rfl, ⟨hx, hb, hml, hown, hts⟩, hK, hD, hA, hN, hZ, hc1, hs1⟩ := E
  unfold o_aald at h
  split at h
  · next i r st =>
    obtain ⟨hok, h0, h1, h⟩ := h
    intro H locs ls hP hS hl
    obtain ⟨j, hj⟩ := q_pos hok
    have hat := q_at (cy := cy) (ad := ad) hj σ
    have hle := q_kR_le r.2.1
    rw [q_shp_R (by omega)] at hat
    obtain ⟨ty, hty, href⟩ := q_ryT r.2.1 (by omega) cy
    have hin := iO_in h0 h1 (by omega)
    have hlt : (iO i).toNatClampNeg < (q_kR r.2.1).toNat := Nat.not_le.mp fun q => hin (Or.inr q)
    have g := k _ _ _ h H locs ls hP hS hl
    change W p l e R s m args below meth c H locs cells slots Q (F0 m (pc + 1) ls (.ref (ad (q_el r (σ r.1 r.2.1 r.2.2) i).1 (q_el r (σ r.1 r.2.1 r.2.2) i).2.1 (q_el r (σ r.1 r.2.1 r.2.2) i).2.2) :: st.map (q_tv ad))) at g
    have hcell := hP j _ hat
    generalize hF : (fun i : Nat => some (ad (q_el r (σ r.1 r.2.1 r.2.2) (i : Int)).1 (q_el r (σ r.1 r.2.1 r.2.2) (i : Int)).2.1 (q_el r (σ r.1 r.2.1 r.2.2) (i : Int)).2.2)) = F at hcell
    have hv : va_rf (F (iO i).toNatClampNeg) = .ref (ad (q_el r (σ r.1 r.2.1 r.2.2) i).1 (q_el r (σ r.1 r.2.1 r.2.2) i).2.1 (q_el r (σ r.1 r.2.1 r.2.2) i).2.2) := by
      rw [← hF, iO_clamp h0 ⟨by omega, by omega⟩]
      show va_rf (some _) = _
      rw [q_nat h0]
      rfl
    rw [← hv] at g
    exact W.aald (v := va_rf (F (iO i).toNatClampNeg)) (ty := ty) hx hb hcell ((hK.2 _ _ hty).1 (q_kR r.2.1).toNat (fun j => va_rf (F j))) href (fun q => by cases q) (by show ¬ (iO i < 0 ∨ (arrV _ _ _).slots.size ≤ _); rw [arrV_size]; exact hin) (by show (arrV _ _ _).slots[_]? = _; rw [arrV_read _ _ hlt]) rfl rfl hd g
  · exact h.elim
theorem so_iast (E : q_E J cc own Ts nL l R) (hd : decode cc pc = .ok (.iastore, 1)) (h : o_iast σ lv st K) (k : ∀ σ lv st, K σ lv st → J (pc + 1) σ lv st) : J pc σ lv st := by
  obtain ⟨p, e, s, m, args, below, meth, c, D, cy, A, ad, cells, slots, Q, rfl, ⟨hx, hb, hml, hown, hts⟩, hK, hD, hA, hN, hZ, hc1, hs1⟩ := E
  unfold o_iast at h
  split at h
  · next x i r st =>
    obtain ⟨hok, h0, h1, h⟩ := h
    intro H locs ls hP hS hl
    obtain ⟨j, hj⟩ := q_pos hok
    have hat := q_at (cy := cy) (ad := ad) hj σ
    have hle := q_kI_le r.2.1
    rw [q_shp_I (by omega)] at hat
    change W p l e R s m args below meth c H locs cells slots Q (F0 m pc ls (.int (iO x) :: .int (iO i) :: .ref (ad r.1 r.2.1 r.2.2) :: st.map (q_tv ad)))
    refine va_iast hx hb hK hP (hD σ) hS j 0 hat rfl (iO_in h0 h1 (by omega)) hd (fun H1 locs1 hP1 hD1 hS1 => ?_)
    have hw := q_set_W (cy := cy) (ad := ad) hj σ (fun s => if s = i then x else σ r.1 r.2.1 r.2.2 s)
    rw [q_wr_set, q_shp_I (by omega)] at hw
    rw [iO_clamp h0 ⟨by omega, by omega⟩] at hP1
    have hf : upd (fun i : Nat => iO (σ r.1 r.2.1 r.2.2 (i : Int))) i.toNat (iO x) = fun a : Nat => iO (if (a : Int) = i then x else σ r.1 r.2.1 r.2.2 (a : Int)) := by
      funext a
      unfold upd
      by_cases q : a = i.toNat
      · rw [if_pos q, if_pos (by omega)]
      · rw [if_neg q, if_neg (by omega)]
    rw [hf, hw] at hP1
    exact k _ _ _ h H1 locs1 ls hP1 hS1 hl
  · exact h.elim
theorem so_last (E : q_E J cc own Ts nL l R) (hd : decode cc pc = .ok (.lastore, 1)) (h : o_last σ lv st K) (k : ∀ σ lv st, K σ lv st → J (pc + 1) σ lv st) : J pc σ lv st := by
  obtain ⟨p, e, s, m, args, below, meth, c, D, cy, A, ad, cells, slots, Q, rfl, ⟨hx, hb, hml, hown, hts⟩, hK, hD, hA, hN, hZ, hc1, hs1⟩ := E
  unfold o_last at h
  split at h
  · next x i r st =>
    obtain ⟨hok, h0, h1, h⟩ := h
    intro H locs ls hP hS hl
    obtain ⟨j, hj⟩ := q_pos hok
    have hat := q_at (cy := cy) (ad := ad) hj σ
    have hle := q_kJ_le r.2.1
    rw [q_shp_J (by omega)] at hat
    change W p l e R s m args below meth c H locs cells slots Q (F0 m pc ls (.long (lO x) :: .int (iO i) :: .ref (ad r.1 r.2.1 r.2.2) :: st.map (q_tv ad)))
    refine va_last hx hb hK hP (hD σ) hS j 1 hat rfl (iO_in h0 h1 (by omega)) hd (fun H1 locs1 hP1 hD1 hS1 => ?_)
    have hw := q_set_W (cy := cy) (ad := ad) hj σ (fun s => if s = i then x else σ r.1 r.2.1 r.2.2 s)
    rw [q_wr_set, q_shp_J (by omega)] at hw
    rw [iO_clamp h0 ⟨by omega, by omega⟩] at hP1
    have hf : vp_updL (fun i : Nat => lO (σ r.1 r.2.1 r.2.2 (i : Int))) i.toNat (lO x) = fun a : Nat => lO (if (a : Int) = i then x else σ r.1 r.2.1 r.2.2 (a : Int)) := by
      funext a
      unfold vp_updL
      by_cases q : a = i.toNat
      · rw [if_pos q, if_pos (by omega)]
      · rw [if_neg q, if_neg (by omega)]
    rw [hf, hw] at hP1
    exact k _ _ _ h H1 locs1 ls hP1 hS1 hl
  · exact h.elim
theorem so_aast (E : q_E J cc own Ts nL l R) (hd : decode cc pc = .ok (.aastore, 1)) (h : o_aast σ lv st K) (k : ∀ σ lv st, K σ lv st → J (pc + 1) σ lv st) : J pc σ lv st := by
  obtain ⟨p, e, s, m, args, below, meth, c, D, cy, A, ad, cells, slots, Q, rfl, ⟨hx, hb, hml, hown, hts⟩, hK, hD, hA, hN, hZ, hc1, hs1⟩ := E
  unfold o_aast at h
  split at h
  · next v i r st =>
    obtain ⟨hok, hp, hokv, hpv, h0, h1, h⟩ := h
    intro H locs ls hP hS hl
    obtain ⟨c0, p0, k0⟩ := r
    obtain ⟨c9, p9, k9⟩ := v
    simp only at hp hpv h
    subst hp
    subst hpv
    have hk9 : k9 = 0 := by
      have h4 := hokv.2.2.2.1
      have h5 := hokv.2.2.2.2
      simp only [q_nk] at h4 h5
      omega
    subst hk9
    obtain ⟨j, hj⟩ := q_pos hok
    obtain ⟨j9, hj9⟩ := q_pos hokv
    have hat := q_at (cy := cy) (ad := ad) hj σ
    have hat9 := q_at (cy := cy) (ad := ad) hj9 σ
    rw [q_shp_R (r := (c0, 22, k0)) (by show (0 : Int) < 4; omega)] at hat
    rw [q_shp_o (r := (c9, 0, 0)) ⟨rfl, rfl, rfl⟩] at hat9
    change W p l e R s m args below meth c H locs cells slots Q (F0 m pc ls (.ref (ad c9 0 0) :: .int (iO i) :: .ref (ad c0 22 k0) :: st.map (q_tv ad)))
    refine va_astq hx hb hK hP (hD σ) hS j 4 j9 0 (r := (RX0, TX0, 11)) hat rfl hat9 rfl (iO_in (n := 4) h0 h1 (by omega)) hd (fun H1 locs1 hP1 hD1 hS1 => ?_)
    have hw := q_set_W (cy := cy) (ad := ad) hj σ (fun s => if s = i then c9 else σ c0 22 k0 s)
    rw [q_wr_set, q_shp_R (r := (c0, 22, k0)) (by show (0 : Int) < 4; omega)] at hw
    rw [iO_clamp h0 ⟨by omega, by omega⟩] at hP1
    have hf : va_up (fun i : Nat => some (ad (q_el (c0, 22, k0) (σ c0 22 k0) (i : Int)).1 (q_el (c0, 22, k0) (σ c0 22 k0) (i : Int)).2.1 (q_el (c0, 22, k0) (σ c0 22 k0) (i : Int)).2.2)) i.toNat (some (ad c9 0 0)) = fun a : Nat => some (ad (q_el (c0, 22, k0) (fun s => if s = i then c9 else σ c0 22 k0 s) (a : Int)).1 (q_el (c0, 22, k0) (fun s => if s = i then c9 else σ c0 22 k0 s) (a : Int)).2.1 (q_el (c0, 22, k0) (fun s => if s = i then c9 else σ c0 22 k0 s) (a : Int)).2.2) := by
      funext a
      unfold va_up q_el
      by_cases q : a = i.toNat
      · rw [if_pos q]
        simp only
        rw [if_pos (by omega)]
      · rw [if_neg q]
        simp only
        rw [if_neg (by omega)]
    have hP2 : va_P D vwCl (q_W cy ad (q_wr σ c0 22 k0 i c9)) H1 := by
      rw [← hw, ← hf]
      exact hP1
    exact k _ _ _ h H1 locs1 ls hP2 hS1 hl
  · exact h.elim
theorem so_acpi (E : q_E J cc own Ts nL l R) {idx : Nat} (w1 : Cond.methodLink own idx arraycopyName ∈ Ts) (w2 : Cond.native arraycopyName ∈ Ts) (w3 : Cond.static arraycopyName ∈ Ts) (w4 : Cond.initialized "java/lang/System" ∈ Ts) (hfr : 1 ≤ R.frames) (hlo : 8 + (nativeFrameWords "java/lang/System" "arraycopy" 5 + 11) ≤ R.locals) (hd : decode cc pc = .ok (.invokestatic idx, 3)) (h : o_acpi σ lv st K) (k : ∀ σ lv st, K σ lv st → J (pc + 3) σ lv st) : J pc σ lv st := by
  obtain ⟨p, e, s, m, args, below, meth, c, D, cy, A, ad, cells, slots, Q, rfl, ⟨hx, hb, hml, hown, hts⟩, hK, hD, hA, hN, hZ, hc1, hs1⟩ := E
  unfold o_acpi at h
  split at h
  · next n dp d sp r st =>
    obtain ⟨hokd, hokr, hn0, hd0, hs0, h1, h2, hcat, h⟩ := h
    intro H locs ls hP hS hl
    obtain ⟨j, hj⟩ := q_pos hokd
    obtain ⟨j9, hj9⟩ := q_pos hokr
    have hat := q_at (cy := cy) (ad := ad) hj σ
    have hat9 := q_at (cy := cy) (ad := ad) hj9 σ
    have hle := q_kI_le r.2.1
    have hle2 := q_kI_le d.2.1
    rw [q_shp_I (by omega)] at hat
    rw [q_shp_I (by omega)] at hat9
    have e1 := iO_clamp hs0 (x := sp) ⟨by omega, by omega⟩
    have e2 := iO_clamp hd0 (x := dp) ⟨by omega, by omega⟩
    have e3 := iO_clamp (x := n) (by omega) ⟨by omega, by omega⟩
    have g0 : ∀ x : Int, 0 ≤ x → x ≤ 400 → ¬ iO x < 0 := fun x a b => by
      rw [iO_0, iO_lt ⟨by omega, by omega⟩ q_i32_0]
      omega
    change W p l e R s m args below meth c H locs cells slots Q (F0 m pc ls (.int (iO n) :: .int (iO dp) :: .ref (ad d.1 d.2.1 d.2.2) :: .int (iO sp) :: .ref (ad r.1 r.2.1 r.2.2) :: st.map (q_tv ad)))
    refine va_copyi (ty := .int) hx hb (hml.trans hl.1.symm) hown (hts _ w1) (hts _ w2) (hts _ w3) (hts _ w4) hK hP (hD σ) hS j9 j 0 0 hat9 hat rfl rfl rfl (g0 sp hs0 (by omega)) (g0 dp hd0 (by omega)) (g0 n (by omega) (by omega)) (by rw [e1, e3]; omega) (by rw [e2, e3]; omega) (fun _ _ => rfl) hfr (by rw [q_cats_tv]; omega) hd (fun H1 locs1 hP1 hD1 hS1 => ?_)
    have hw := q_set_W (cy := cy) (ad := ad) hj σ (fun s => if dp ≤ s ∧ s < dp + n then σ r.1 r.2.1 r.2.2 (sp + (s - dp)) else σ d.1 d.2.1 d.2.2 s)
    rw [q_cp_set, q_shp_I (by omega)] at hw
    rw [e1, e2, e3] at hP1
    have hf : va_cpy (fun i : Nat => iO (σ r.1 r.2.1 r.2.2 (i : Int))) (fun i : Nat => iO (σ d.1 d.2.1 d.2.2 (i : Int))) sp.toNat dp.toNat n.toNat = fun a : Nat => iO (if dp ≤ (a : Int) ∧ (a : Int) < dp + n then σ r.1 r.2.1 r.2.2 (sp + ((a : Int) - dp)) else σ d.1 d.2.1 d.2.2 (a : Int)) := by
      funext a
      unfold va_cpy
      by_cases q : dp.toNat ≤ a ∧ a < dp.toNat + n.toNat
      · rw [if_pos q, if_pos (by omega)]
        have e9 : ((sp.toNat + (a - dp.toNat) : Nat) : Int) = sp + ((a : Int) - dp) := by omega
        show iO (σ r.1 r.2.1 r.2.2 ((sp.toNat + (a - dp.toNat) : Nat) : Int)) = _
        rw [e9]
      · rw [if_neg q, if_neg (by omega)]
    rw [hf, hw] at hP1
    exact k _ _ _ h H1 locs1 ls hP1 hS1 hl
  · exact h.elim
theorem so_acpl (E : q_E J cc own Ts nL l R) {idx : Nat} (w1 : Cond.methodLink own idx arraycopyName ∈ Ts) (w2 : Cond.native arraycopyName ∈ Ts) (w3 : Cond.static arraycopyName ∈ Ts) (w4 : Cond.initialized "java/lang/System" ∈ Ts) (hfr : 1 ≤ R.frames) (hlo : 8 + (nativeFrameWords "java/lang/System" "arraycopy" 5 + 11) ≤ R.locals) (hd : decode cc pc = .ok (.invokestatic idx, 3)) (h : o_acpl σ lv st K) (k : ∀ σ lv st, K σ lv st → J (pc + 3) σ lv st) : J pc σ lv st := by
  obtain ⟨p, e, s, m, args, below, meth, c, D, cy, A, ad, cells, slots, Q, rfl, ⟨hx, hb, hml, hown, hts⟩, hK, hD, hA, hN, hZ, hc1, hs1⟩ := E
  unfold o_acpl at h
  split at h
  · next n dp d sp r st =>
    obtain ⟨hokd, hokr, hn0, hd0, hs0, h1, h2, hcat, h⟩ := h
    intro H locs ls hP hS hl
    obtain ⟨j, hj⟩ := q_pos hokd
    obtain ⟨j9, hj9⟩ := q_pos hokr
    have hat := q_at (cy := cy) (ad := ad) hj σ
    have hat9 := q_at (cy := cy) (ad := ad) hj9 σ
    have hle := q_kJ_le r.2.1
    have hle2 := q_kJ_le d.2.1
    rw [q_shp_J (by omega)] at hat
    rw [q_shp_J (by omega)] at hat9
    have e1 := iO_clamp hs0 (x := sp) ⟨by omega, by omega⟩
    have e2 := iO_clamp hd0 (x := dp) ⟨by omega, by omega⟩
    have e3 := iO_clamp (x := n) (by omega) ⟨by omega, by omega⟩
    have g0 : ∀ x : Int, 0 ≤ x → x ≤ 400 → ¬ iO x < 0 := fun x a b => by
      rw [iO_0, iO_lt ⟨by omega, by omega⟩ q_i32_0]
      omega
    change W p l e R s m args below meth c H locs cells slots Q (F0 m pc ls (.int (iO n) :: .int (iO dp) :: .ref (ad d.1 d.2.1 d.2.2) :: .int (iO sp) :: .ref (ad r.1 r.2.1 r.2.2) :: st.map (q_tv ad)))
    refine va_copyl (ty := .long) hx hb (hml.trans hl.1.symm) hown (hts _ w1) (hts _ w2) (hts _ w3) (hts _ w4) hK hP (hD σ) hS j9 j 1 1 hat9 hat rfl rfl rfl (g0 sp hs0 (by omega)) (g0 dp hd0 (by omega)) (g0 n (by omega) (by omega)) (by rw [e1, e3]; omega) (by rw [e2, e3]; omega) (fun _ _ => rfl) hfr (by rw [q_cats_tv]; omega) hd (fun H1 locs1 hP1 hD1 hS1 => ?_)
    have hw := q_set_W (cy := cy) (ad := ad) hj σ (fun s => if dp ≤ s ∧ s < dp + n then σ r.1 r.2.1 r.2.2 (sp + (s - dp)) else σ d.1 d.2.1 d.2.2 s)
    rw [q_cp_set, q_shp_J (by omega)] at hw
    rw [e1, e2, e3] at hP1
    have hf : va_cpy (fun i : Nat => lO (σ r.1 r.2.1 r.2.2 (i : Int))) (fun i : Nat => lO (σ d.1 d.2.1 d.2.2 (i : Int))) sp.toNat dp.toNat n.toNat = fun a : Nat => lO (if dp ≤ (a : Int) ∧ (a : Int) < dp + n then σ r.1 r.2.1 r.2.2 (sp + ((a : Int) - dp)) else σ d.1 d.2.1 d.2.2 (a : Int)) := by
      funext a
      unfold va_cpy
      by_cases q : dp.toNat ≤ a ∧ a < dp.toNat + n.toNat
      · rw [if_pos q, if_pos (by omega)]
        have e9 : ((sp.toNat + (a - dp.toNat) : Nat) : Int) = sp + ((a : Int) - dp) := by omega
        show lO (σ r.1 r.2.1 r.2.2 ((sp.toNat + (a - dp.toNat) : Nat) : Int)) = _
        rw [e9]
      · rw [if_neg q, if_neg (by omega)]
    rw [hf, hw] at hP1
    exact k _ _ _ h H1 locs1 ls hP1 hS1 hl
  · exact h.elim
theorem so_mabs (E : q_E J cc own Ts nL l R) {idx : Nat} (w1 : Cond.methodLink own idx Lib.Math.abs.name ∈ Ts) (w2 : Cond.static Lib.Math.abs.name ∈ Ts) (w3 : Cond.initialized "java/lang/Math" ∈ Ts) (w4 : Cond.code Lib.Math.abs.name Lib.Math.abs.code 1 (some .int) ∈ Ts) (hfr : 1 ≤ R.frames) (hlo : 21 ≤ R.locals) (hd : decode cc pc = .ok (.invokestatic idx, 3)) (h : o_mabs σ lv st K) (k : ∀ σ lv st, K σ lv st → J (pc + 3) σ lv st) : J pc σ lv st := by
  obtain ⟨p, e, s, m, args, below, meth, c, D, cy, A, ad, cells, slots, Q, rfl, ⟨hx, hb, hml, hown, hts⟩, hK, hD, hA, hN, hZ, hc1, hs1⟩ := E
  unfold o_mabs at h
  split at h
  · next x st =>
    obtain ⟨hi, hcat, h⟩ := h
    intro H locs ls hP hS hl
    have g := k _ _ _ h H locs ls hP hS hl
    change W p l e R s m args below meth c H locs cells slots Q (F0 m pc ls (.int (iO x) :: st.map (q_tv ad)))
    refine va_mabs hx hb (hml.trans hl.1.symm) hown (hts _ w1) (hts _ w2) (hts _ w3) (hts _ w4) hfr (by rw [q_cats_tv]; omega) hc1 hs1 hd ?_
    have e9 : (if 0 ≤ iO x then iO x else 0 - iO x) = iO (if 0 ≤ x then x else -x) := by
      have : (0 ≤ iO x) ↔ 0 ≤ x := by rw [iO_0]; exact iO_le q_i32_0 hi
      by_cases q : 0 ≤ x
      · rw [if_pos (this.mpr q), if_pos q]
      · rw [if_neg (fun z => q (this.mp z)), if_neg q, iO_0, iO_sub]
        congr 1
        omega
    rw [e9]
    exact g
  · exact h.elim
theorem so_mabsl (E : q_E J cc own Ts nL l R) {idx : Nat} (w1 : Cond.methodLink own idx Lib.MathLoose.abs_long.x ∈ Ts) (w2 : Cond.static Lib.MathLoose.abs_long.x ∈ Ts) (w3 : Cond.initialized "java/lang/Math" ∈ Ts) (w4 : Cond.code Lib.MathLoose.abs_long.x Lib.MathLoose.abs_long.code 2 (some .long) ∈ Ts) (hfr : 1 ≤ R.frames) (hlo : 21 ≤ R.locals) (hd : decode cc pc = .ok (.invokestatic idx, 3)) (h : o_mabsl σ lv st K) (k : ∀ σ lv st, K σ lv st → J (pc + 3) σ lv st) : J pc σ lv st := by
  obtain ⟨p, e, s, m, args, below, meth, c, D, cy, A, ad, cells, slots, Q, rfl, ⟨hx, hb, hml, hown, hts⟩, hK, hD, hA, hN, hZ, hc1, hs1⟩ := E
  unfold o_mabsl at h
  split at h
  · next x st =>
    obtain ⟨hi, hcat, h⟩ := h
    intro H locs ls hP hS hl
    have g := k _ _ _ h H locs ls hP hS hl
    change W p l e R s m args below meth c H locs cells slots Q (F0 m pc ls (.long (lO x) :: st.map (q_tv ad)))
    refine va_mabs_long hx hb (hml.trans hl.1.symm) hown (hts _ w1) (hts _ w2) (hts _ w3) (hts _ w4) hfr (by rw [q_cats_tv]; omega) hc1 hs1 hd ?_
    have e9 : (if 0 < lO x then lO x else -lO x) = lO (if 0 < x then x else -x) := by
      have : (0 < lO x) ↔ 0 < x := by rw [lO_0]; exact lO_lt q_i64_0 hi
      by_cases q : 0 < x
      · rw [if_pos (this.mpr q), if_pos q]
      · rw [if_neg (fun z => q (this.mp z)), if_neg q, lO_neg]
    rw [e9]
    exact g
  · exact h.elim
theorem so_mmin (E : q_E J cc own Ts nL l R) {idx : Nat} (w1 : Cond.methodLink own idx Lib.Math.min.name ∈ Ts) (w2 : Cond.static Lib.Math.min.name ∈ Ts) (w3 : Cond.initialized "java/lang/Math" ∈ Ts) (w4 : Cond.code Lib.Math.min.name Lib.Math.min.code 2 (some .int) ∈ Ts) (hfr : 1 ≤ R.frames) (hlo : 21 ≤ R.locals) (hd : decode cc pc = .ok (.invokestatic idx, 3)) (h : o_mmin σ lv st K) (k : ∀ σ lv st, K σ lv st → J (pc + 3) σ lv st) : J pc σ lv st := by
  obtain ⟨p, e, s, m, args, below, meth, c, D, cy, A, ad, cells, slots, Q, rfl, ⟨hx, hb, hml, hown, hts⟩, hK, hD, hA, hN, hZ, hc1, hs1⟩ := E
  unfold o_mmin at h
  split at h
  · next y x st =>
    obtain ⟨hi, hj, hcat, h⟩ := h
    intro H locs ls hP hS hl
    have g := k _ _ _ h H locs ls hP hS hl
    change W p l e R s m args below meth c H locs cells slots Q (F0 m pc ls (.int (iO y) :: .int (iO x) :: st.map (q_tv ad)))
    refine va_mmin hx hb (hml.trans hl.1.symm) hown (hts _ w1) (hts _ w2) (hts _ w3) (hts _ w4) hfr (by rw [q_cats_tv]; omega) hc1 hs1 hd ?_
    have e9 : (if iO y < iO x then iO y else iO x) = iO (if y < x then y else x) := by
      by_cases q : y < x
      · rw [if_pos ((iO_lt hj hi).mpr q), if_pos q]
      · rw [if_neg (fun z => q ((iO_lt hj hi).mp z)), if_neg q]
    rw [e9]
    exact g
  · exact h.elim
theorem so_mmax (E : q_E J cc own Ts nL l R) {idx : Nat} (w1 : Cond.methodLink own idx Lib.Math.max.name ∈ Ts) (w2 : Cond.static Lib.Math.max.name ∈ Ts) (w3 : Cond.initialized "java/lang/Math" ∈ Ts) (w4 : Cond.code Lib.Math.max.name Lib.Math.max.code 2 (some .int) ∈ Ts) (hfr : 1 ≤ R.frames) (hlo : 21 ≤ R.locals) (hd : decode cc pc = .ok (.invokestatic idx, 3)) (h : o_mmax σ lv st K) (k : ∀ σ lv st, K σ lv st → J (pc + 3) σ lv st) : J pc σ lv st := by
  obtain ⟨p, e, s, m, args, below, meth, c, D, cy, A, ad, cells, slots, Q, rfl, ⟨hx, hb, hml, hown, hts⟩, hK, hD, hA, hN, hZ, hc1, hs1⟩ := E
  unfold o_mmax at h
  split at h
  · next y x st =>
    obtain ⟨hi, hj, hcat, h⟩ := h
    intro H locs ls hP hS hl
    have g := k _ _ _ h H locs ls hP hS hl
    change W p l e R s m args below meth c H locs cells slots Q (F0 m pc ls (.int (iO y) :: .int (iO x) :: st.map (q_tv ad)))
    refine va_mmax hx hb (hml.trans hl.1.symm) hown (hts _ w1) (hts _ w2) (hts _ w3) (hts _ w4) hfr (by rw [q_cats_tv]; omega) hc1 hs1 hd ?_
    have e9 : (if iO x < iO y then iO y else iO x) = iO (if x < y then y else x) := by
      by_cases q : x < y
      · rw [if_pos ((iO_lt hi hj).mpr q), if_pos q]
      · rw [if_neg (fun z => q ((iO_lt hi hj).mp z)), if_neg q]
    rw [e9]
    exact g
  · exact h.elim
theorem q_run {p : Program} {l : Launch} {e : Env} {R : Room} {s : State} {m : MethodId} {args : Array Value} {below : List Frame} {meth : Method} {c : Code} {H : Heap} {locs : List Loc} {cells slots : Nat} {Q : State → Prop} {pc : Nat} {ls : Array Slot} {rest st0 : List Value} {a : Array Value} {A0 A1 : Nat → Prop} {H0 : Heap} {free : Addr → Prop} {D : va_G} {cy : Nat → ClassId} {ad : q_A} {Qp : Option q_V → q_M → Prop} (hr : va_Run p l e R s m args below meth c H locs cells slots 0 0 (F0 m pc ls st0) rest (q_Q D cy ad Qp A1 a) free) (hS : va_S A0 H0 H locs) (hA : ∀ q, q < H.size → A1 q → A0 q) (hf : ∀ q, free q → A0 q)
    (kk : ∀ (rv : Option q_V) (σ' : q_M) (H1 : Heap) (locs1 : List Loc), Qp rv σ' → va_P D vwCl (q_W cy ad σ') H1 → va_S A0 H0 H1 locs1 → W p l e R s m args below meth c H1 locs1 cells slots Q (F0 m (pc + 3) ls ((rv.map (q_tv ad)).toList ++ rest))) : W p l e R s m args below meth c H locs cells slots Q (F0 m pc ls st0) := by
  intro T hT X
  obtain ⟨v, st₀, t, T', L, h0, X', hL, e1, e2, ⟨⟨rv, σ', hv, hp, hb⟩, hz, hk⟩, st⟩ := hr T hT X
  have hv : v = rv.map (q_tv ad) := Outcome.returned.inj hv
  subst hv
  rw [h0] at hz hk
  obtain ⟨t2, a1, b1⟩ := kk rv σ' T'.heap (locs ++ L) hp (by rw [e1]; exact hb)
    ⟨Nat.le_trans hS.1 (by rw [e1]; exact hz), fun q h1 h2 => by rw [e1, hk q (Nat.lt_of_lt_of_le h1 hS.1) (fun z => h2 (hA q (Nat.lt_of_lt_of_le h1 hS.1) z))]; exact hS.2.1 q h1 h2, fun q hq => by
      rcases List.mem_append.mp hq with h | h
      · exact hS.2.2 q h
      · exact hf _ (hL q h)⟩ T' rfl X'
  exact ⟨t2, st t2 a1, b1⟩
theorem q_blind {D : va_G} {cy : Nat → ClassId} {ad : q_A} {σ : q_M} {vs : List Value} {sz : Nat} : FrameBlind (va_Pc vs (q_B D cy ad sz σ)) := fun a U g mk q => by
  obtain ⟨q0, q1, qP, qK, qD, qN, qZ⟩ := q
  exact ⟨q0, q1, qP, va_K.moved (u := U) (U := U.calling g mk a) (Vm.Alike.refl U.vm) qK, qD, q_N.same (u := U) rfl qN, q_Z.alike (s := U) (U := U.calling g mk a) qZ (Vm.Alike.refl U.vm)⟩
theorem q_mapL (ad : q_A) (rv : Option q_V) (st : q_S) : (rv.toList ++ st).map (q_tv ad) = (rv.map (q_tv ad)).toList ++ st.map (q_tv ad) := by
  cases rv <;> rfl
theorem so_callV (E : q_E J cc own Ts nL l R) {n pp N idx maxL : Nat} {C : String} {T : u_T} {y : MethodName} {ws ws' : List Cond} {bytes : ByteArray} {ret : Option FieldType} {rm : Room} {Sp : q_P} (hM : q_Ct y ws rm Sp) (ho : q_kI pp = 0 ∧ q_kJ pp = 0 ∧ q_kR pp = 0) (hcl : vwCl[q_ci pp]? = some (C, T, N)) (hG : GoodIn Ts (wsV own idx C y ws)) (hw : ws = Cond.code y bytes maxL ret :: ws') (hrm : rm.cells = 0 ∧ rm.slots = 0) (hdy : y.cls = C ∧ y.cls ≠ "java/lang/invoke/MethodHandle" ∧ y.cls ≠ "java/lang/invoke/VarHandle" ∧ (parseMethodDescriptor y.desc).map (fun d => d.parameters.length) = some n) (hR : rm.frames + 1 ≤ R.frames ∧ 8 + (maxL + 11) + rm.locals ≤ R.locals) (hd : decode cc pc = .ok (.invokevirtual idx, 3)) (h : o_callV n pp Sp σ lv st K) (k : ∀ σ lv st, K σ lv st → J (pc + 3) σ lv st) : J pc σ lv st := by
  obtain ⟨p, e, s, m, args, below, meth, c, D, cy, A, ad, cells, slots, Q, rfl, ⟨hx, hb, hml, hown, hts⟩, hK, hD, hA, hN, hZ, hc1, hs1⟩ := E
  unfold o_callV at h
  split at h
  · next r st' hdr =>
    obtain ⟨hp, hok, hlen, hcat, h⟩ := h
    intro H locs ls hP hS hl
    obtain ⟨j, hj⟩ := q_pos hok
    have hat := q_at (cy := cy) (ad := ad) hj σ
    rw [q_shp_o (by rw [hp]; exact ho), hp] at hat
    have hst : st.map (q_tv ad) = (((st.take n).reverse).map (q_tv ad)).reverse ++ .ref (ad r.1 r.2.1 r.2.2) :: st'.map (q_tv ad) := by
      conv => lhs; rw [← List.take_append_drop n st, hdr]
      rw [List.map_append, List.map_reverse, List.reverse_reverse]
      rfl
    rw [hst]
    have hfr : ∀ q, va_A (q_W cy ad σ) H.size q → A q := fun q hq => by
      rcases hq with ⟨k9, e9, h9⟩ | h9
      · exact (hD σ).2 k9 _ h9
      · exact hA q (Nat.le_trans hS.1 h9)
    refine q_run (va_runV (As := ((st.take n).reverse).map (q_tv ad)) (rest := st'.map (q_tv ad)) (C := C) ⟨hx, hb, hml, hown, hts⟩ (hM l D cy ad σ _ _ h H.size) (cwV n hts hG hw hrm.1 hrm.2 hdy hR) ⟨q_blind, va_recv hK hP hcl (by rw [hp]; exact hat), fun U hU hW => ⟨rfl, by rw [hU], by rw [hU]; exact hP, va_K.moved hW.alike hK, (hD σ).weaken (fun _ _ _ _ => trivial), q_N.warm hW hN, hZ.go hW.alike (by rw [hU]) hS hfr⟩⟩ rfl (by rw [List.length_map, List.length_reverse]; exact hlen) hl.1 rfl (lv_room (by rw [q_cats_tv]; exact hcat)) hd ⟨hc1, hs1⟩) hS (fun q _ hq => hfr q hq) hfr (fun rv σ' H1 locs1 hq hP1 hS1 => ?_)
    rw [← q_mapL]
    exact k _ _ _ hq H1 locs1 ls hP1 hS1 hl
  · exact h.elim
theorem so_callS (E : q_E J cc own Ts nL l R) {n idx maxL : Nat} {y : MethodName} {ws ws' : List Cond} {bytes : ByteArray} {ret : Option FieldType} {rm : Room} {Sp : q_P} (hM : q_Ct y ws rm Sp) (hG : GoodIn Ts (wsS own idx y ws)) (hw : ws = Cond.code y bytes maxL ret :: ws') (hrm : rm.cells = 0 ∧ rm.slots = 0) (hdy : y.cls = own ∧ y.cls ≠ "java/lang/invoke/MethodHandle" ∧ y.cls ≠ "java/lang/invoke/VarHandle" ∧ (parseMethodDescriptor y.desc).map (fun d => d.parameters.length) = some n) (hR : rm.frames + 1 ≤ R.frames ∧ 8 + (maxL + 11) + rm.locals ≤ R.locals) (hd : decode cc pc = .ok (.invokestatic idx, 3)) (h : o_callS n Sp σ lv st K) (k : ∀ σ lv st, K σ lv st → J (pc + 3) σ lv st) : J pc σ lv st := by
  obtain ⟨p, e, s, m, args, below, meth, c, D, cy, A, ad, cells, slots, Q, rfl, ⟨hx, hb, hml, hown, hts⟩, hK, hD, hA, hN, hZ, hc1, hs1⟩ := E
  obtain ⟨hlen, hcat, h⟩ := h
  intro H locs ls hP hS hl
  have hst : st.map (q_tv ad) = (((st.take n).reverse).map (q_tv ad)).reverse ++ (st.drop n).map (q_tv ad) := by
    conv => lhs; rw [← List.take_append_drop n st]
    rw [List.map_append, List.map_reverse, List.reverse_reverse]
  rw [hst]
  have hfr : ∀ q, va_A (q_W cy ad σ) H.size q → A q := fun q hq => by
    rcases hq with ⟨k9, e9, h9⟩ | h9
    · exact (hD σ).2 k9 _ h9
    · exact hA q (Nat.le_trans hS.1 h9)
  refine q_run (va_runS (As := ((st.take n).reverse).map (q_tv ad)) (rest := (st.drop n).map (q_tv ad)) ⟨hx, hb, hml, hown, hts⟩ (hM l D cy ad σ _ _ h H.size) (cwS n hts hG hw hrm.1 hrm.2 hdy hR) ⟨q_blind, fun U hU hW => ⟨rfl, by rw [hU], by rw [hU]; exact hP, va_K.moved hW.alike hK, (hD σ).weaken (fun _ _ _ _ => trivial), q_N.warm hW hN, hZ.go hW.alike (by rw [hU]) hS hfr⟩⟩ rfl (by rw [List.length_map, List.length_reverse]; exact hlen) hl.1 rfl (lv_room (by rw [q_cats_tv]; exact hcat)) hd ⟨hc1, hs1⟩) hS (fun q _ hq => hfr q hq) hfr (fun rv σ' H1 locs1 hq hP1 hS1 => ?_)
  rw [← q_mapL]
  exact k _ _ _ hq H1 locs1 ls hP1 hS1 hl
/-- a static method of another class that the tables link (the JDK's, say) -/
theorem so_callT (E : q_E J cc own Ts nL l R) {n idx maxL : Nat} {y : MethodName} {ws ws' : List Cond} {bytes : ByteArray} {ret : Option FieldType} {rm : Room} {Sp : q_P} (hM : q_Ct y ws rm Sp) (hG : GoodIn Ts (va_wsS own idx y ws)) (hw : ws = Cond.code y bytes maxL ret :: ws') (hrm : rm.cells = 0 ∧ rm.slots = 0) (hdy : y.cls ≠ "java/lang/invoke/MethodHandle" ∧ y.cls ≠ "java/lang/invoke/VarHandle" ∧ (parseMethodDescriptor y.desc).map (fun d => d.parameters.length) = some n) (hR : rm.frames + 1 ≤ R.frames ∧ 8 + (maxL + 11) + rm.locals ≤ R.locals) (hd : decode cc pc = .ok (.invokestatic idx, 3)) (h : o_callS n Sp σ lv st K) (k : ∀ σ lv st, K σ lv st → J (pc + 3) σ lv st) : J pc σ lv st := by
  obtain ⟨p, e, s, m, args, below, meth, c, D, cy, A, ad, cells, slots, Q, rfl, ⟨hx, hb, hml, hown, hts⟩, hK, hD, hA, hN, hZ, hc1, hs1⟩ := E
  obtain ⟨hlen, hcat, h⟩ := h
  intro H locs ls hP hS hl
  have hst : st.map (q_tv ad) = (((st.take n).reverse).map (q_tv ad)).reverse ++ (st.drop n).map (q_tv ad) := by
    conv => lhs; rw [← List.take_append_drop n st]
    rw [List.map_append, List.map_reverse, List.reverse_reverse]
  rw [hst]
  have hfr : ∀ q, va_A (q_W cy ad σ) H.size q → A q := fun q hq => by
    rcases hq with ⟨k9, e9, h9⟩ | h9
    · exact (hD σ).2 k9 _ h9
    · exact hA q (Nat.le_trans hS.1 h9)
  have ok : ∀ w ∈ va_wsS own idx y ws, w.before args s = true := fun w h => hts w (hG w h).1
  have cw : CallB R s args own idx y bytes maxL ret ws rm 0 0 n ∧ (Cond.static y).before args s = true := ⟨callB_of n hts (fun w h => hG w (by unfold va_wsS; exact List.mem_append_right _ h)) hw hrm.1 hrm.2 (ok _ (by simp [va_wsS])) (ok _ (by simp [va_wsS])) hdy hR, ok _ (by simp [va_wsS])⟩
  refine q_run (va_runS (As := ((st.take n).reverse).map (q_tv ad)) (rest := (st.drop n).map (q_tv ad)) ⟨hx, hb, hml, hown, hts⟩ (hM l D cy ad σ _ _ h H.size) cw ⟨q_blind, fun U hU hW => ⟨rfl, by rw [hU], by rw [hU]; exact hP, va_K.moved hW.alike hK, (hD σ).weaken (fun _ _ _ _ => trivial), q_N.warm hW hN, hZ.go hW.alike (by rw [hU]) hS hfr⟩⟩ rfl (by rw [List.length_map, List.length_reverse]; exact hlen) hl.1 rfl (lv_room (by rw [q_cats_tv]; exact hcat)) hd ⟨hc1, hs1⟩) hS (fun q _ hq => hfr q hq) hfr (fun rv σ' H1 locs1 hq hP1 hS1 => ?_)
  rw [← q_mapL]
  exact k _ _ _ hq H1 locs1 ls hP1 hS1 hl
/-- a private static method of a nest mate -/
theorem so_callN (E : q_E J cc own Ts nL l R) {n idx maxL : Nat} {y : MethodName} {ws ws' : List Cond} {bytes : ByteArray} {ret : Option FieldType} {rm : Room} {Sp : q_P} (hM : q_Ct y ws rm Sp) (hG : GoodIn Ts ws) (hw : ws = Cond.code y bytes maxL ret :: ws') (hrm : rm.cells = 0 ∧ rm.slots = 0) (hnw : (own, idx, y, "WheelDesk") ∈ q_nw) (w1 : Cond.static y ∈ Ts) (w2 : Cond.initialized y.cls ∈ Ts) (hdy : y.cls ≠ "java/lang/invoke/MethodHandle" ∧ y.cls ≠ "java/lang/invoke/VarHandle" ∧ (parseMethodDescriptor y.desc).map (fun d => d.parameters.length) = some n) (hR : rm.frames + 1 ≤ R.frames ∧ 8 + (maxL + 11) + rm.locals ≤ R.locals) (hd : decode cc pc = .ok (.invokestatic idx, 3)) (h : o_callS n Sp σ lv st K) (k : ∀ σ lv st, K σ lv st → J (pc + 3) σ lv st) : J pc σ lv st := by
  obtain ⟨p, e, s, m, args, below, meth, c, D, cy, A, ad, cells, slots, Q, rfl, ⟨hx, hb, hml, hown, hts⟩, hK, hD, hA, hN, hZ, hc1, hs1⟩ := E
  obtain ⟨hlen, hcat, h⟩ := h
  intro H locs ls hP hS hl
  have hst : st.map (q_tv ad) = (((st.take n).reverse).map (q_tv ad)).reverse ++ (st.drop n).map (q_tv ad) := by
    conv => lhs; rw [← List.take_append_drop n st]
    rw [List.map_append, List.map_reverse, List.reverse_reverse]
  rw [hst]
  have hfr : ∀ q, va_A (q_W cy ad σ) H.size q → A q := fun q hq => by
    rcases hq with ⟨k9, e9, h9⟩ | h9
    · exact (hD σ).2 k9 _ h9
    · exact hA q (Nat.le_trans hS.1 h9)
  refine q_run (va_runSN (As := ((st.take n).reverse).map (q_tv ad)) (rest := (st.drop n).map (q_tv ad)) ⟨hx, hb, hml, hown, hts⟩ (hM l D cy ad σ _ _ h H.size) ⟨va_cnB n hts hG hw hrm.1 hrm.2 (hN _ hnw) (hts _ w2) hdy hR, hts _ w1, trivial⟩ ⟨q_blind, fun U hU hW => ⟨rfl, by rw [hU], by rw [hU]; exact hP, va_K.moved hW.alike hK, (hD σ).weaken (fun _ _ _ _ => trivial), q_N.warm hW hN, hZ.go hW.alike (by rw [hU]) hS hfr⟩⟩ rfl (by rw [List.length_map, List.length_reverse]; exact hlen) hl.1 rfl (lv_room (by rw [q_cats_tv]; exact hcat)) hd ⟨hc1, hs1⟩) hS (fun q _ hq => hfr q hq) hfr (fun rv σ' H1 locs1 hq hP1 hS1 => ?_)
  rw [← q_mapL]
  exact k _ _ _ hq H1 locs1 ls hP1 hS1 hl
end QHEAP
theorem q_fs_0_0 : ∀ (r : q_R) (f : Int → Int) (x : Int), r.2.1 = 0 → 0 < (q_flds r f).length ∧ (q_flds r f).set 0 (zI x) = q_flds r (fun s => if s = 0 then x else f s) := by
  rintro ⟨c, p, k⟩ f x h
  simp only at h
  subst h
  exact ⟨by simp [q_flds], rfl⟩
theorem q_fs_0_8 : ∀ (r : q_R) (f : Int → Int) (x : Int), r.2.1 = 0 → 8 < (q_flds r f).length ∧ (q_flds r f).set 8 (zI x) = q_flds r (fun s => if s = 1 then x else f s) := by
  rintro ⟨c, p, k⟩ f x h
  simp only at h
  subst h
  exact ⟨by simp [q_flds], rfl⟩
theorem q_fs_0_10 : ∀ (r : q_R) (f : Int → Int) (x : Int), r.2.1 = 0 → 10 < (q_flds r f).length ∧ (q_flds r f).set 10 (zI x) = q_flds r (fun s => if s = 2 then x else f s) := by
  rintro ⟨c, p, k⟩ f x h
  simp only at h
  subst h
  exact ⟨by simp [q_flds], rfl⟩
theorem q_fs_10_1 : ∀ (r : q_R) (f : Int → Int) (x : Int), r.2.1 = 10 → 1 < (q_flds r f).length ∧ (q_flds r f).set 1 (zI x) = q_flds r (fun s => if s = 0 then x else f s) := by
  rintro ⟨c, p, k⟩ f x h
  simp only at h
  subst h
  exact ⟨by simp [q_flds], rfl⟩
theorem q_fs_10_2 : ∀ (r : q_R) (f : Int → Int) (x : Int), r.2.1 = 10 → 2 < (q_flds r f).length ∧ (q_flds r f).set 2 (zI x) = q_flds r (fun s => if s = 1 then x else f s) := by
  rintro ⟨c, p, k⟩ f x h
  simp only at h
  subst h
  exact ⟨by simp [q_flds], rfl⟩
theorem q_fs_10_3 : ∀ (r : q_R) (f : Int → Int) (x : Int), r.2.1 = 10 → 3 < (q_flds r f).length ∧ (q_flds r f).set 3 (zI x) = q_flds r (fun s => if s = 2 then x else f s) := by
  rintro ⟨c, p, k⟩ f x h
  simp only at h
  subst h
  exact ⟨by simp [q_flds], rfl⟩
theorem q_fs_10_4 : ∀ (r : q_R) (f : Int → Int) (x : Int), r.2.1 = 10 → 4 < (q_flds r f).length ∧ (q_flds r f).set 4 (zI x) = q_flds r (fun s => if s = 3 then x else f s) := by
  rintro ⟨c, p, k⟩ f x h
  simp only at h
  subst h
  exact ⟨by simp [q_flds], rfl⟩
theorem q_fs_10_5 : ∀ (r : q_R) (f : Int → Int) (x : Int), r.2.1 = 10 → 5 < (q_flds r f).length ∧ (q_flds r f).set 5 (zI x) = q_flds r (fun s => if s = 4 then x else f s) := by
  rintro ⟨c, p, k⟩ f x h
  simp only at h
  subst h
  exact ⟨by simp [q_flds], rfl⟩
theorem q_fs_12_3 : ∀ (r : q_R) (f : Int → Int) (x : Int), r.2.1 = 12 → 3 < (q_flds r f).length ∧ (q_flds r f).set 3 (zL x) = q_flds r (fun s => if s = 0 then x else f s) := by
  rintro ⟨c, p, k⟩ f x h
  simp only at h
  subst h
  exact ⟨by simp [q_flds], rfl⟩
theorem q_fs_21_1 : ∀ (r : q_R) (f : Int → Int) (x : Int), r.2.1 = 21 → 1 < (q_flds r f).length ∧ (q_flds r f).set 1 (zI x) = q_flds r (fun s => if s = 0 then x else f s) := by
  rintro ⟨c, p, k⟩ f x h
  simp only at h
  subst h
  exact ⟨by simp [q_flds], rfl⟩
