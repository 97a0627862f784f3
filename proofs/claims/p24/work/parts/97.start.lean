/-! ===== what the law's start gives ===== -/
theorem z_ar {s : State} {A : Array Value} {t : FieldType} (h : (Cond.arrayClass t).before A s = true) (hp : ∀ c : ClassId, s.vm.findClass ("[" ++ t.toString) = some c → va_RA s c t) : ∃ c : ClassId, ArrOfT s c t ∧ va_RA s c t := by
  obtain ⟨c, k, comp, h1, h2, h3⟩ := Cond.arrayClass_spec h
  exact ⟨c, fun n z => ⟨fun k h => (by cases h), k, h2, comp, h3⟩, hp c h1⟩
theorem z_aq {s : State} {A : Array Value} {C : String} (h : (Cond.arrayOver (.object C)).before A s = true) : ∃ c : ClassId, ArrOfT s c (.object C) ∧ va_RA s c (.object C) := by
  obtain ⟨comp, c, k, h1, h2, h3, h4, h5⟩ := Cond.arrayOver_spec h
  exact ⟨c, fun n z => ⟨fun k h => (by cases h), k, h3, comp, h4⟩, k, comp, h3, h4, h1, h5⟩
theorem z_aa {s : State} {A : Array Value} {t : FieldType} (h : (Cond.arrayOver (.array t)).before A s = true) : ∃ c : ClassId, ArrOfT s c (.array t) ∧ va_RA s c (.array t) := by
  obtain ⟨comp, c, k, h1, h2, h3, h4, h5⟩ := arrayOverA_spec h
  exact ⟨c, fun n z => ⟨fun k h => (by cases h), k, h3, comp, h4⟩, h5⟩
theorem z_K {s : State} {A : Array Value} (hts : ∀ w ∈ lw_tbl, w.before A s = true) : ∃ (D : va_G) (cy : Nat → ClassId), va_K D vwCl (q_ty cy) s := by
  have f : ∀ w ∈ wsL_law, w.before A s = true := fun w h => hts w (wsL_law_in w h)
  obtain ⟨c0, i0, k0⟩ := u_known (C := RX0) (T := TX0) (N := 11) (n := 11) f (by decide +kernel) (f (.instantiable RX0 11) (by decide +kernel))
  obtain ⟨c1, i1, k1⟩ := u_known (C := RX1) (T := TX1) (N := 2) (n := 2) f (by decide +kernel) (f (.instantiable RX1 2) (by decide +kernel))
  obtain ⟨c2, i2, k2⟩ := u_known (C := RX2) (T := TX2) (N := 2) (n := 2) f (by decide +kernel) (f (.instantiable RX2 2) (by decide +kernel))
  obtain ⟨c3, i3, k3⟩ := u_known (C := RX3) (T := TX3) (N := 4) (n := 4) f (by decide +kernel) (f (.instantiable RX3 4) (by decide +kernel))
  obtain ⟨c4, i4, k4⟩ := u_known (C := RX4) (T := TX4) (N := 6) (n := 6) f (by decide +kernel) (f (.instantiable RX4 6) (by decide +kernel))
  obtain ⟨c5, i5, k5⟩ := u_known (C := RX5) (T := TX5) (N := 5) (n := 5) f (by decide +kernel) (f (.instantiable RX5 5) (by decide +kernel))
  obtain ⟨y0, a0⟩ := z_ar (t := .int) (hts (.arrayClass .int) (by decide +kernel)) (fun c h => h)
  obtain ⟨y1, a1⟩ := z_ar (t := .long) (hts (.arrayClass .long) (by decide +kernel)) (fun c h => h)
  obtain ⟨y2, a2⟩ := z_aa (t := .int) (hts (.arrayOver (.array .int)) (by decide +kernel))
  obtain ⟨y3, a3⟩ := z_aa (t := .long) (hts (.arrayOver (.array .long)) (by decide +kernel))
  obtain ⟨y4, a4⟩ := z_aq (C := RX0) (hts (.arrayOver (.object RX0)) (by decide +kernel))
  obtain ⟨y5, a5⟩ := z_aq (C := RX4) (hts (.arrayOver (.object RX4)) (by decide +kernel))
  refine ⟨(fun c => match c with | 0 => c0 | 1 => c1 | 2 => c2 | 3 => c3 | 4 => c4 | _ => c5, fun c => match c with | 0 => i0 | 1 => i1 | 2 => i2 | 3 => i3 | 4 => i4 | _ => i5), fun k => match k with | 0 => y0 | 1 => y1 | 2 => y2 | 3 => y3 | 4 => y4 | _ => y5, fun c q hq => ?_, fun k q hk => ?_⟩
  · match c, hq with
    | 0, hq => cases hq; exact k0
    | 1, hq => cases hq; exact k1
    | 2, hq => cases hq; exact k2
    | 3, hq => cases hq; exact k3
    | 4, hq => cases hq; exact k4
    | 5, hq => cases hq; exact k5
    | n + 6, hq => cases hq
  · match k, hk with
    | 0, hk => cases hk; exact a0
    | 1, hk => cases hk; exact a1
    | 2, hk => cases hk; exact a2
    | 3, hk => cases hk; exact a3
    | 4, hk => cases hk; exact a4
    | 5, hk => cases hk; exact a5
    | n + 6, hk => cases hk
theorem z_Os {s : State} {A : Array Value} (hts : ∀ w ∈ lw_tbl, w.before A s = true) : z_O s := ⟨va_AO.of (hts (.arrayOver (.object RX4)) (by decide +kernel)), va_AO.of (hts (.arrayOver (.object RX0)) (by decide +kernel)), z_AOA.of (hts (.arrayOver (.array .int)) (by decide +kernel)), z_AOA.of (hts (.arrayOver (.array .long)) (by decide +kernel))⟩
theorem z_nwin : ∀ w ∈ q_nw, (Cond.methodLinkNest w.1 w.2.1 w.2.2.1 w.2.2.2) ∈ lw_tbl := by decide +kernel
theorem z_Ns {s : State} {A : Array Value} (hts : ∀ w ∈ lw_tbl, w.before A s = true) : q_N s := fun w hw => va_Nw.of rfl (hts _ (z_nwin w hw))
/-- a static table, out of the start's words -/
theorem z_tb {s : State} {b N : Nat} {nm : String} {g : Int → Int} {B : Nat → Prop} (hB : ∀ a : Nat, a < s.heap.size → ¬ B a) (hN : N < 2 ^ 31) (hs : ∀ w ∈ flatC (Jvm.Cond.and given_1 narrow_1), w.before #[Value.ref b] s = true) (hl : (Cond.laysStatic "WheelDesk" nm "[I").before #[Value.ref b] s = true) (hini : (Cond.initialized "WheelDesk").before #[Value.ref b] s = true)
    (h1 : (Cond.arrayOf (.static "WheelDesk" nm "[I") .int) ∈ flatC (Jvm.Cond.and given_1 narrow_1)) (h2 : (Cond.eq (.length (.static "WheelDesk" nm "[I")) (.int (Int32.ofNat N))) ∈ flatC (Jvm.Cond.and given_1 narrow_1)) (h3 : ∀ j : Nat, j < N → (Cond.eq (.elem (.static "WheelDesk" nm "[I") (.int (Int32.ofNat j))) (.int (iO (g (j : Int))))) ∈ flatC (Jvm.Cond.and given_1 narrow_1)) :
    ∃ t : Nat, va_Z "WheelDesk" nm "[I" (.ref t) B s s.heap ∧ va_T .int t N (fun j => .int (iO (g (j : Int)))) B s s.heap := by
  obtain ⟨t, ht, hT⟩ := va_Tof (tm := .static "WheelDesk" nm "[I") (f := fun j => .int (iO (g (j : Int)))) (A := B) hN (hs _ h1) (va_eqt (hs _ h2)) (fun j hj => va_eqt (hs _ (h3 j hj))) hB
  exact ⟨t, va_Zref hl hini ht hB, hT⟩
theorem z_Zs {s : State} {b L : Nat} {xs : Nat → Int32} {B : Nat → Prop} (hL : L ≤ 3072) (hX : va_X b L xs s s.heap) (hbl : b < s.heap.size) (hB : ∀ a : Nat, a < s.heap.size → ¬ B a) (hts : ∀ w ∈ lw_tbl, w.before #[Value.ref b] s = true) (hgv : (Jvm.Cond.and given_1 narrow_1).before #[Value.ref b] s = true) : ∃ t4 t5 t6 t7 : Nat, ∀ ad : q_A, ad 0 34 0 = t4 → ad 0 35 0 = t5 → ad 0 36 0 = t6 → ad 0 37 0 = t7 → ad 0 38 0 = b → q_Z ad B s s.heap := by
  have hs := flat_of_before _ hgv
  have hini := hts (.initialized "WheelDesk") (by decide +kernel)
  obtain ⟨t4, p4⟩ := z_tb (N := 4) (nm := "LEAST_GIVEN") (g := q_tbl 34) hB (by decide) hs (hts (.laysStatic "WheelDesk" "LEAST_GIVEN" "[I") (by decide +kernel)) hini (by decide +kernel) (by decide +kernel) (by decide +kernel)
  obtain ⟨t5, p5⟩ := z_tb (N := 4) (nm := "GREATEST_GIVEN") (g := q_tbl 35) hB (by decide) hs (hts (.laysStatic "WheelDesk" "GREATEST_GIVEN" "[I") (by decide +kernel)) hini (by decide +kernel) (by decide +kernel) (by decide +kernel)
  obtain ⟨t6, p6⟩ := z_tb (N := 5) (nm := "LEAST_SETTING") (g := q_tbl 36) hB (by decide) hs (hts (.laysStatic "WheelDesk" "LEAST_SETTING" "[I") (by decide +kernel)) hini (by decide +kernel) (by decide +kernel) (by decide +kernel)
  obtain ⟨t7, p7⟩ := z_tb (N := 5) (nm := "GREATEST_SETTING") (g := q_tbl 37) hB (by decide) hs (hts (.laysStatic "WheelDesk" "GREATEST_SETTING" "[I") (by decide +kernel)) hini (by decide +kernel) (by decide +kernel) (by decide +kernel)
  refine ⟨t4, t5, t6, t7, fun ad e4 e5 e6 e7 e8 => ⟨fun p hp => ?_, L, xs, hL, by rw [e8]; exact hX, by rw [e8]; exact hbl, by rw [e8]; exact hB b hbl⟩⟩
  have hc : p = 34 ∨ p = 35 ∨ p = 36 ∨ p = 37 := by
    by_cases h4 : p = 34
    · exact Or.inl h4
    by_cases h5 : p = 35
    · exact Or.inr (Or.inl h5)
    by_cases h6 : p = 36
    · exact Or.inr (Or.inr (Or.inl h6))
    by_cases h7 : p = 37
    · exact Or.inr (Or.inr (Or.inr h7))
    have e : q_sn p = 0 := by
      unfold q_sn
      split <;> first | rfl | omega
    rw [e] at hp
    exact absurd hp (by decide)
  rcases hc with rfl | rfl | rfl | rfl
  · rw [e4]; exact p4
  · rw [e5]; exact p5
  · rw [e6]; exact p6
  · rw [e7]; exact p7
/-- all roles out of the desk's -/
theorem z_full {D : va_G} {cy : Nat → ClassId} {A : Nat → Prop} {H : Heap} {u5 : q_A} (b t4 t5 t6 t7 : Nat) (hP : va_P D vwCl (zz_W cy u5 zd_RL) H) (hD : va_D A (zz_W cy u5 zd_RL)) :
    ∃ u : q_A, u 0 23 0 = u5 0 23 0 ∧ u 0 34 0 = t4 ∧ u 0 35 0 = t5 ∧ u 0 36 0 = t6 ∧ u 0 37 0 = t7 ∧ u 0 38 0 = b ∧ u 0 40 0 = 0 ∧ va_P D vwCl (q_W cy u z_s0) H ∧ va_D A (q_W cy u z_s0) := by
  obtain ⟨u, hu⟩ : ∃ u : q_A, u = (fun (c : Int) (p : Nat) (k : Int) => if p ≤ 23 then u5 c p k else if p = 34 then t4 else if p = 35 then t5 else if p = 36 then t6 else if p = 37 then t7 else if p = 38 then b else 0) := ⟨_, rfl⟩
  have h5 : ∀ (c : Int) (p : Nat) (k : Int), p ≤ 23 → u c p k = u5 c p k := fun c p k hp => by
    rw [hu]
    exact if_pos hp
  have ed : zz_W cy u zd_RL = zz_W cy u5 zd_RL := by
    have f22 : ∀ i : Nat, u ((i : Int) + 2) 0 0 = u5 ((i : Int) + 2) 0 0 := fun i => h5 _ _ _ (by decide)
    have e23 : (u 0 23 0, q_shp cy u (0, 23, 0) (z_s0 0 23 0)) = (u5 0 23 0, q_shp cy u5 (0, 23, 0) (z_s0 0 23 0)) := by
      rw [hu]
      rfl
    have e21 : (u 0 21 0, q_shp cy u (0, 21, 0) (z_s0 0 21 0)) = (u5 0 21 0, q_shp cy u5 (0, 21, 0) (z_s0 0 21 0)) := by
      rw [hu]
      rfl
    have e22 : (u 0 22 0, q_shp cy u (0, 22, 0) (z_s0 0 22 0)) = (u5 0 22 0, q_shp cy u5 (0, 22, 0) (z_s0 0 22 0)) := by
      have s22 : ∀ w : q_A, q_shp cy w (0, 22, 0) (z_s0 0 22 0) = .inl (cy 4, 4, .inr (.inr (.inr (.inr (fun i : Nat => some (w ((i : Int) + 2) 0 0)))))) := fun w => rfl
      rw [s22, s22, h5 0 22 0 (by decide)]
      simp only [f22]
    have ec : ∀ c : Int, zz_W cy u (zc_RL c) = zz_W cy u5 (zc_RL c) := fun c => zz_cg (fun p k hp => h5 c p k (by omega))
    have es : zz_W cy u zs_RL = zz_W cy u5 zs_RL := by
      rw [hu]
      rfl
    have eg : zz_W cy u zg_RL = zz_W cy u5 zg_RL := by
      rw [hu]
      rfl
    have hs : ∀ w : q_A, zz_W cy w zd_RL = (w 0 23 0, q_shp cy w (0, 23, 0) (z_s0 0 23 0)) :: ((((zz_W cy w (zc_RL 0) ++ zz_W cy w (zc_RL 1)) ++ zz_W cy w zs_RL) ++ zz_W cy w zg_RL) ++ ((w 0 21 0, q_shp cy w (0, 21, 0) (z_s0 0 21 0)) :: (w 0 22 0, q_shp cy w (0, 22, 0) (z_s0 0 22 0)) :: (((zz_W cy w (zc_RL 2) ++ zz_W cy w (zc_RL 3)) ++ zz_W cy w (zc_RL 4)) ++ zz_W cy w (zc_RL 5)))) := fun w => by
      simp only [← zz_app]
      rfl
    rw [hs u, hs u5, e23, e21, e22, es, eg]
    simp only [ec]
  have hm : ∀ r ∈ q_RL, r ∈ zd_RL := by decide +kernel
  have h40 : u 0 40 0 = 0 := by rw [hu]; rfl
  have eq : q_W cy u z_s0 = zz_W cy u q_RL := by
    unfold q_W q_RLx q_fg
    rw [if_neg (by omega), List.append_nil]
    rfl
  refine ⟨u, h5 _ _ _ (by decide), by rw [hu]; rfl, by rw [hu]; rfl, by rw [hu]; rfl, by rw [hu]; rfl, by rw [hu]; rfl, h40, by rw [eq]; exact zz_P (RL := zd_RL) (RL' := q_RL) hm (by rw [ed]; exact hP), by rw [eq]; exact zz_D (RL := zd_RL) (RL' := q_RL) hm q_RL_nd (by rw [ed]; exact hD)⟩
