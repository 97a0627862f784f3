/-! ===== the small machine's operations, and that each is sound over the kit's rows ===== -/
section QOPS
variable {J : Nat → q_K} {cc : ByteArray} {own : String} {Ts : List Cond} {nL : Nat} {l : Launch} {R : Room} {pc : Nat} {σ : q_M} {lv : q_L} {st : q_S} {K : q_K}

def o_iadd (σ : q_M) (lv : q_L) (st : q_S) (K : q_K) : Prop := match st with
  | .inr (.inl y) :: .inr (.inl x) :: st => K σ lv (zI (x + y) :: st)
  | _ => False
theorem so_iadd (E : q_E J cc own Ts nL l R) (hd : decode cc pc = .ok (.iadd, 1)) (h : o_iadd σ lv st K) (k : ∀ σ lv st, K σ lv st → J (pc + 1) σ lv st) : J pc σ lv st := by
  obtain ⟨p, e, s, m, args, below, meth, c, D, cy, A, ad, cells, slots, Q, rfl, ⟨hx, hb, hml, hown, hts⟩, hK, hD, hA, hN, hZ, hc1, hs1⟩ := E
  unfold o_iadd at h
  split at h
  · next y x st =>
    intro H locs ls hP hS hl
    skip
    have g := k _ _ _ h H locs ls hP hS hl
    change W p l e R s m args below meth c H locs cells slots Q (F0 m pc ls (.int (iO y) :: .int (iO x) :: st.map (q_tv ad)))
    refine lv_iadd hx hb hd ?_
    rw [iO_add]
    exact g
  · exact h.elim
def o_isub (σ : q_M) (lv : q_L) (st : q_S) (K : q_K) : Prop := match st with
  | .inr (.inl y) :: .inr (.inl x) :: st => K σ lv (zI (x - y) :: st)
  | _ => False
theorem so_isub (E : q_E J cc own Ts nL l R) (hd : decode cc pc = .ok (.isub, 1)) (h : o_isub σ lv st K) (k : ∀ σ lv st, K σ lv st → J (pc + 1) σ lv st) : J pc σ lv st := by
  obtain ⟨p, e, s, m, args, below, meth, c, D, cy, A, ad, cells, slots, Q, rfl, ⟨hx, hb, hml, hown, hts⟩, hK, hD, hA, hN, hZ, hc1, hs1⟩ := E
  unfold o_isub at h
  split at h
  · next y x st =>
    intro H locs ls hP hS hl
    skip
    have g := k _ _ _ h H locs ls hP hS hl
    change W p l e R s m args below meth c H locs cells slots Q (F0 m pc ls (.int (iO y) :: .int (iO x) :: st.map (q_tv ad)))
    refine lv_isub hx hb hd ?_
    rw [iO_sub]
    exact g
  · exact h.elim
def o_imul (σ : q_M) (lv : q_L) (st : q_S) (K : q_K) : Prop := match st with
  | .inr (.inl y) :: .inr (.inl x) :: st => K σ lv (zI (x * y) :: st)
  | _ => False
theorem so_imul (E : q_E J cc own Ts nL l R) (hd : decode cc pc = .ok (.imul, 1)) (h : o_imul σ lv st K) (k : ∀ σ lv st, K σ lv st → J (pc + 1) σ lv st) : J pc σ lv st := by
  obtain ⟨p, e, s, m, args, below, meth, c, D, cy, A, ad, cells, slots, Q, rfl, ⟨hx, hb, hml, hown, hts⟩, hK, hD, hA, hN, hZ, hc1, hs1⟩ := E
  unfold o_imul at h
  split at h
  · next y x st =>
    intro H locs ls hP hS hl
    skip
    have g := k _ _ _ h H locs ls hP hS hl
    change W p l e R s m args below meth c H locs cells slots Q (F0 m pc ls (.int (iO y) :: .int (iO x) :: st.map (q_tv ad)))
    refine lv_imul hx hb hd ?_
    rw [iO_mul]
    exact g
  · exact h.elim
def o_ladd (σ : q_M) (lv : q_L) (st : q_S) (K : q_K) : Prop := match st with
  | .inr (.inr (.inl y)) :: .inr (.inr (.inl x)) :: st => K σ lv (zL (x + y) :: st)
  | _ => False
theorem so_ladd (E : q_E J cc own Ts nL l R) (hd : decode cc pc = .ok (.ladd, 1)) (h : o_ladd σ lv st K) (k : ∀ σ lv st, K σ lv st → J (pc + 1) σ lv st) : J pc σ lv st := by
  obtain ⟨p, e, s, m, args, below, meth, c, D, cy, A, ad, cells, slots, Q, rfl, ⟨hx, hb, hml, hown, hts⟩, hK, hD, hA, hN, hZ, hc1, hs1⟩ := E
  unfold o_ladd at h
  split at h
  · next y x st =>
    intro H locs ls hP hS hl
    skip
    have g := k _ _ _ h H locs ls hP hS hl
    change W p l e R s m args below meth c H locs cells slots Q (F0 m pc ls (.long (lO y) :: .long (lO x) :: st.map (q_tv ad)))
    refine lv_ladd hx hb hd ?_
    rw [lO_add]
    exact g
  · exact h.elim
def o_lsub (σ : q_M) (lv : q_L) (st : q_S) (K : q_K) : Prop := match st with
  | .inr (.inr (.inl y)) :: .inr (.inr (.inl x)) :: st => K σ lv (zL (x - y) :: st)
  | _ => False
theorem so_lsub (E : q_E J cc own Ts nL l R) (hd : decode cc pc = .ok (.lsub, 1)) (h : o_lsub σ lv st K) (k : ∀ σ lv st, K σ lv st → J (pc + 1) σ lv st) : J pc σ lv st := by
  obtain ⟨p, e, s, m, args, below, meth, c, D, cy, A, ad, cells, slots, Q, rfl, ⟨hx, hb, hml, hown, hts⟩, hK, hD, hA, hN, hZ, hc1, hs1⟩ := E
  unfold o_lsub at h
  split at h
  · next y x st =>
    intro H locs ls hP hS hl
    skip
    have g := k _ _ _ h H locs ls hP hS hl
    change W p l e R s m args below meth c H locs cells slots Q (F0 m pc ls (.long (lO y) :: .long (lO x) :: st.map (q_tv ad)))
    refine lv_lsub hx hb hd ?_
    rw [lO_sub]
    exact g
  · exact h.elim
def o_lmul (σ : q_M) (lv : q_L) (st : q_S) (K : q_K) : Prop := match st with
  | .inr (.inr (.inl y)) :: .inr (.inr (.inl x)) :: st => K σ lv (zL (x * y) :: st)
  | _ => False
theorem so_lmul (E : q_E J cc own Ts nL l R) (hd : decode cc pc = .ok (.lmul, 1)) (h : o_lmul σ lv st K) (k : ∀ σ lv st, K σ lv st → J (pc + 1) σ lv st) : J pc σ lv st := by
  obtain ⟨p, e, s, m, args, below, meth, c, D, cy, A, ad, cells, slots, Q, rfl, ⟨hx, hb, hml, hown, hts⟩, hK, hD, hA, hN, hZ, hc1, hs1⟩ := E
  unfold o_lmul at h
  split at h
  · next y x st =>
    intro H locs ls hP hS hl
    skip
    have g := k _ _ _ h H locs ls hP hS hl
    change W p l e R s m args below meth c H locs cells slots Q (F0 m pc ls (.long (lO y) :: .long (lO x) :: st.map (q_tv ad)))
    refine lv_lmul hx hb hd ?_
    rw [lO_mul]
    exact g
  · exact h.elim
def o_ineg (σ : q_M) (lv : q_L) (st : q_S) (K : q_K) : Prop := match st with
  | .inr (.inl x) :: st => K σ lv (zI (-x) :: st)
  | _ => False
theorem so_ineg (E : q_E J cc own Ts nL l R) (hd : decode cc pc = .ok (.ineg, 1)) (h : o_ineg σ lv st K) (k : ∀ σ lv st, K σ lv st → J (pc + 1) σ lv st) : J pc σ lv st := by
  obtain ⟨p, e, s, m, args, below, meth, c, D, cy, A, ad, cells, slots, Q, rfl, ⟨hx, hb, hml, hown, hts⟩, hK, hD, hA, hN, hZ, hc1, hs1⟩ := E
  unfold o_ineg at h
  split at h
  · next x st =>
    intro H locs ls hP hS hl
    skip
    have g := k _ _ _ h H locs ls hP hS hl
    change W p l e R s m args below meth c H locs cells slots Q (F0 m pc ls (.int (iO x) :: st.map (q_tv ad)))
    refine lv_ineg hx hb hd ?_
    rw [iO_neg]
    exact g
  · exact h.elim
def o_lneg (σ : q_M) (lv : q_L) (st : q_S) (K : q_K) : Prop := match st with
  | .inr (.inr (.inl x)) :: st => K σ lv (zL (-x) :: st)
  | _ => False
theorem so_lneg (E : q_E J cc own Ts nL l R) (hd : decode cc pc = .ok (.lneg, 1)) (h : o_lneg σ lv st K) (k : ∀ σ lv st, K σ lv st → J (pc + 1) σ lv st) : J pc σ lv st := by
  obtain ⟨p, e, s, m, args, below, meth, c, D, cy, A, ad, cells, slots, Q, rfl, ⟨hx, hb, hml, hown, hts⟩, hK, hD, hA, hN, hZ, hc1, hs1⟩ := E
  unfold o_lneg at h
  split at h
  · next x st =>
    intro H locs ls hP hS hl
    skip
    have g := k _ _ _ h H locs ls hP hS hl
    change W p l e R s m args below meth c H locs cells slots Q (F0 m pc ls (.long (lO x) :: st.map (q_tv ad)))
    refine lv_lneg hx hb hd ?_
    rw [lO_neg]
    exact g
  · exact h.elim
def o_i2l (σ : q_M) (lv : q_L) (st : q_S) (K : q_K) : Prop := match st with
  | .inr (.inl x) :: st => q_i32 x ∧ K σ lv (zL x :: st)
  | _ => False
theorem so_i2l (E : q_E J cc own Ts nL l R) (hd : decode cc pc = .ok (.i2l, 1)) (h : o_i2l σ lv st K) (k : ∀ σ lv st, K σ lv st → J (pc + 1) σ lv st) : J pc σ lv st := by
  obtain ⟨p, e, s, m, args, below, meth, c, D, cy, A, ad, cells, slots, Q, rfl, ⟨hx, hb, hml, hown, hts⟩, hK, hD, hA, hN, hZ, hc1, hs1⟩ := E
  unfold o_i2l at h
  split at h
  · next x st =>
    intro H locs ls hP hS hl
    obtain ⟨hside, h⟩ := h
    have g := k _ _ _ h H locs ls hP hS hl
    change W p l e R s m args below meth c H locs cells slots Q (F0 m pc ls (.int (iO x) :: st.map (q_tv ad)))
    refine lv_i2l hx hb hd (iO_i2l hside) ?_
    skip
    exact g
  · exact h.elim
def o_l2i (σ : q_M) (lv : q_L) (st : q_S) (K : q_K) : Prop := match st with
  | .inr (.inr (.inl x)) :: st => K σ lv (zI x :: st)
  | _ => False
theorem so_l2i (E : q_E J cc own Ts nL l R) (hd : decode cc pc = .ok (.l2i, 1)) (h : o_l2i σ lv st K) (k : ∀ σ lv st, K σ lv st → J (pc + 1) σ lv st) : J pc σ lv st := by
  obtain ⟨p, e, s, m, args, below, meth, c, D, cy, A, ad, cells, slots, Q, rfl, ⟨hx, hb, hml, hown, hts⟩, hK, hD, hA, hN, hZ, hc1, hs1⟩ := E
  unfold o_l2i at h
  split at h
  · next x st =>
    intro H locs ls hP hS hl
    skip
    have g := k _ _ _ h H locs ls hP hS hl
    change W p l e R s m args below meth c H locs cells slots Q (F0 m pc ls (.long (lO x) :: st.map (q_tv ad)))
    refine lv_l2i hx hb hd (lO_l2i x) ?_
    skip
    exact g
  · exact h.elim
def o_lcmp (σ : q_M) (lv : q_L) (st : q_S) (K : q_K) : Prop := match st with
  | .inr (.inr (.inl y)) :: .inr (.inr (.inl x)) :: st => (x = y ∨ (q_i64 x ∧ q_i64 y)) ∧ K σ lv (zI (q_cmp x y) :: st)
  | _ => False
theorem so_lcmp (E : q_E J cc own Ts nL l R) (hd : decode cc pc = .ok (.lcmp, 1)) (h : o_lcmp σ lv st K) (k : ∀ σ lv st, K σ lv st → J (pc + 1) σ lv st) : J pc σ lv st := by
  obtain ⟨p, e, s, m, args, below, meth, c, D, cy, A, ad, cells, slots, Q, rfl, ⟨hx, hb, hml, hown, hts⟩, hK, hD, hA, hN, hZ, hc1, hs1⟩ := E
  unfold o_lcmp at h
  split at h
  · next y x st =>
    intro H locs ls hP hS hl
    obtain ⟨hside, h⟩ := h
    have g := k _ _ _ h H locs ls hP hS hl
    change W p l e R s m args below meth c H locs cells slots Q (F0 m pc ls (.long (lO y) :: .long (lO x) :: st.map (q_tv ad)))
    refine W.lcmp hx hb hd ?_
    rw [q_lg hside]
    exact g
  · exact h.elim
def o_i2f (σ : q_M) (lv : q_L) (st : q_S) (K : q_K) : Prop := match st with
  | .inr (.inl x) :: st => K σ lv (zF (FP.i2f (iO x)) :: st)
  | _ => False
theorem so_i2f (E : q_E J cc own Ts nL l R) (hd : decode cc pc = .ok (.i2f, 1)) (h : o_i2f σ lv st K) (k : ∀ σ lv st, K σ lv st → J (pc + 1) σ lv st) : J pc σ lv st := by
  obtain ⟨p, e, s, m, args, below, meth, c, D, cy, A, ad, cells, slots, Q, rfl, ⟨hx, hb, hml, hown, hts⟩, hK, hD, hA, hN, hZ, hc1, hs1⟩ := E
  unfold o_i2f at h
  split at h
  · next x st =>
    intro H locs ls hP hS hl
    skip
    have g := k _ _ _ h H locs ls hP hS hl
    change W p l e R s m args below meth c H locs cells slots Q (F0 m pc ls (.int (iO x) :: st.map (q_tv ad)))
    refine lv_i2f hx hb hd ?_
    skip
    exact g
  · exact h.elim
def o_l2f (σ : q_M) (lv : q_L) (st : q_S) (K : q_K) : Prop := match st with
  | .inr (.inr (.inl x)) :: st => K σ lv (zF (FP.l2f (lO x)) :: st)
  | _ => False
theorem so_l2f (E : q_E J cc own Ts nL l R) (hd : decode cc pc = .ok (.l2f, 1)) (h : o_l2f σ lv st K) (k : ∀ σ lv st, K σ lv st → J (pc + 1) σ lv st) : J pc σ lv st := by
  obtain ⟨p, e, s, m, args, below, meth, c, D, cy, A, ad, cells, slots, Q, rfl, ⟨hx, hb, hml, hown, hts⟩, hK, hD, hA, hN, hZ, hc1, hs1⟩ := E
  unfold o_l2f at h
  split at h
  · next x st =>
    intro H locs ls hP hS hl
    skip
    have g := k _ _ _ h H locs ls hP hS hl
    change W p l e R s m args below meth c H locs cells slots Q (F0 m pc ls (.long (lO x) :: st.map (q_tv ad)))
    refine lv_l2f hx hb hd ?_
    skip
    exact g
  · exact h.elim
def o_fdiv (σ : q_M) (lv : q_L) (st : q_S) (K : q_K) : Prop := match st with
  | .inr (.inr (.inr (.inl y))) :: .inr (.inr (.inr (.inl x))) :: st => vf_n32 (FP.fdiv x y) ∧ K σ lv (zF (FP.fdiv x y) :: st)
  | _ => False
theorem so_fdiv (E : q_E J cc own Ts nL l R) (hd : decode cc pc = .ok (.fdiv, 1)) (h : o_fdiv σ lv st K) (k : ∀ σ lv st, K σ lv st → J (pc + 1) σ lv st) : J pc σ lv st := by
  obtain ⟨p, e, s, m, args, below, meth, c, D, cy, A, ad, cells, slots, Q, rfl, ⟨hx, hb, hml, hown, hts⟩, hK, hD, hA, hN, hZ, hc1, hs1⟩ := E
  unfold o_fdiv at h
  split at h
  · next y x st =>
    intro H locs ls hP hS hl
    obtain ⟨hside, h⟩ := h
    have g := k _ _ _ h H locs ls hP hS hl
    change W p l e R s m args below meth c H locs cells slots Q (F0 m pc ls (.float y :: .float x :: st.map (q_tv ad)))
    refine lv_fdiv hx hb hd hside ?_
    skip
    exact g
  · exact h.elim
def o_f2d (σ : q_M) (lv : q_L) (st : q_S) (K : q_K) : Prop := match st with
  | .inr (.inr (.inr (.inl x))) :: st => vf_n64 (FP.f2d x) ∧ K σ lv (zD (FP.f2d x) :: st)
  | _ => False
theorem so_f2d (E : q_E J cc own Ts nL l R) (hd : decode cc pc = .ok (.f2d, 1)) (h : o_f2d σ lv st K) (k : ∀ σ lv st, K σ lv st → J (pc + 1) σ lv st) : J pc σ lv st := by
  obtain ⟨p, e, s, m, args, below, meth, c, D, cy, A, ad, cells, slots, Q, rfl, ⟨hx, hb, hml, hown, hts⟩, hK, hD, hA, hN, hZ, hc1, hs1⟩ := E
  unfold o_f2d at h
  split at h
  · next x st =>
    intro H locs ls hP hS hl
    obtain ⟨hside, h⟩ := h
    have g := k _ _ _ h H locs ls hP hS hl
    change W p l e R s m args below meth c H locs cells slots Q (F0 m pc ls (.float x :: st.map (q_tv ad)))
    refine lv_f2d hx hb hd hside ?_
    skip
    exact g
  · exact h.elim
def o_fcmpl (σ : q_M) (lv : q_L) (st : q_S) (K : q_K) : Prop := match st with
  | .inr (.inr (.inr (.inl y))) :: .inr (.inr (.inr (.inl x))) :: st => K σ lv (zI (Op.cmpValue (FP.fcmp x y) .l).toInt :: st)
  | _ => False
theorem so_fcmpl (E : q_E J cc own Ts nL l R) (hd : decode cc pc = .ok (.fcmp .l, 1)) (h : o_fcmpl σ lv st K) (k : ∀ σ lv st, K σ lv st → J (pc + 1) σ lv st) : J pc σ lv st := by
  obtain ⟨p, e, s, m, args, below, meth, c, D, cy, A, ad, cells, slots, Q, rfl, ⟨hx, hb, hml, hown, hts⟩, hK, hD, hA, hN, hZ, hc1, hs1⟩ := E
  unfold o_fcmpl at h
  split at h
  · next y x st =>
    intro H locs ls hP hS hl
    skip
    have g := k _ _ _ h H locs ls hP hS hl
    change W p l e R s m args below meth c H locs cells slots Q (F0 m pc ls (.float y :: .float x :: st.map (q_tv ad)))
    refine lv_fcmp hx hb hd ?_
    rw [← iO_of (Op.cmpValue (FP.fcmp x y) .l)]
    exact g
  · exact h.elim
def o_dcmpl (σ : q_M) (lv : q_L) (st : q_S) (K : q_K) : Prop := match st with
  | .inr (.inr (.inr (.inr y))) :: .inr (.inr (.inr (.inr x))) :: st => K σ lv (zI (Op.cmpValue (FP.dcmp x y) .l).toInt :: st)
  | _ => False
theorem so_dcmpl (E : q_E J cc own Ts nL l R) (hd : decode cc pc = .ok (.dcmp .l, 1)) (h : o_dcmpl σ lv st K) (k : ∀ σ lv st, K σ lv st → J (pc + 1) σ lv st) : J pc σ lv st := by
  obtain ⟨p, e, s, m, args, below, meth, c, D, cy, A, ad, cells, slots, Q, rfl, ⟨hx, hb, hml, hown, hts⟩, hK, hD, hA, hN, hZ, hc1, hs1⟩ := E
  unfold o_dcmpl at h
  split at h
  · next y x st =>
    intro H locs ls hP hS hl
    skip
    have g := k _ _ _ h H locs ls hP hS hl
    change W p l e R s m args below meth c H locs cells slots Q (F0 m pc ls (.double y :: .double x :: st.map (q_tv ad)))
    refine lv_dcmp hx hb hd ?_
    rw [← iO_of (Op.cmpValue (FP.dcmp x y) .l)]
    exact g
  · exact h.elim
theorem q_ldiv {x y : Int} (hx : q_i64 x) (h1 : 1 ≤ y) (h2 : y < 9223372036854775808) : ¬ lO y = 0 ∧ lO x / lO y = lO (x.tdiv y) ∧ lO x - lO x / lO y * lO y = lO (x.tmod y) := by
  have hy : q_i64 y := ⟨by omega, h2⟩
  have h0 : ¬ lO y = 0 := by
    rw [lO_0, lO_inj hy q_i64_0]
    omega
  have hd : lO x / lO y = lO (x.tdiv y) := by
    rw [← Int64.toInt_inj, Int64.toInt_div_of_ne_right _ _ (fun q => by
      have := congrArg Int64.toInt q
      rw [lO_toInt hy] at this
      have e : (-1 : Int64).toInt = -1 := rfl
      omega), lO_toInt hx, lO_toInt hy, lO_toInt]
    have hb := Int.natAbs_tdiv_le_natAbs x y
    have hs : 0 ≤ x → 0 ≤ x.tdiv y := fun q => Int.tdiv_nonneg q (by omega)
    obtain ⟨a, b⟩ := hx
    refine ⟨?_, ?_⟩
    · omega
    · by_cases q : 0 ≤ x
      · omega
      · have := Int.tdiv_nonneg (a := -x) (b := y) (by omega) (by omega)
        rw [Int.neg_tdiv] at this
        omega
  refine ⟨h0, hd, ?_⟩
  rw [hd, lO_mul, lO_sub]
  congr 1
  have := Int.tmod_add_tdiv_mul x y
  omega
theorem q_idiv {x y : Int} (h0 : 0 ≤ x) (hx : x < 2147483648) (h1 : 1 ≤ y) (h2 : y < 2147483648) : ¬ iO y = 0 ∧ iO x / iO y = iO (x / y) ∧ iO x - iO x / iO y * iO y = iO (x % y) := by
  have hy : q_i32 y := ⟨by omega, h2⟩
  have hxi : q_i32 x := ⟨by omega, hx⟩
  have h9 : ¬ iO y = 0 := by
    rw [iO_0, iO_inj hy q_i32_0]
    omega
  have hd : iO x / iO y = iO (x / y) := by
    have hq := Int.ediv_le_self y h0
    have hq0 := Int.ediv_nonneg h0 (show 0 ≤ y by omega)
    rw [← Int32.toInt_inj, Int32.toInt_div_of_ne_right _ _ (fun q => by
      have := congrArg Int32.toInt q
      rw [iO_toInt hy] at this
      have e : (-1 : Int32).toInt = -1 := rfl
      omega), iO_toInt hxi, iO_toInt hy, iO_toInt ⟨by omega, by omega⟩]
    exact Int.tdiv_eq_ediv_of_nonneg h0
  refine ⟨h9, hd, ?_⟩
  rw [hd, iO_mul, iO_sub]
  congr 1
  have := Int.emod_def x y
  rw [this, Int.mul_comm]
def o_ldiv (σ : q_M) (lv : q_L) (st : q_S) (K : q_K) : Prop := match st with
  | .inr (.inr (.inl y)) :: .inr (.inr (.inl x)) :: st => (q_i64 x ∧ 1 ≤ y ∧ y < 9223372036854775808) ∧ K σ lv (zL (x.tdiv y) :: st)
  | _ => False
theorem so_ldiv (E : q_E J cc own Ts nL l R) (hd : decode cc pc = .ok (.ldiv, 1)) (h : o_ldiv σ lv st K) (k : ∀ σ lv st, K σ lv st → J (pc + 1) σ lv st) : J pc σ lv st := by
  obtain ⟨p, e, s, m, args, below, meth, c, D, cy, A, ad, cells, slots, Q, rfl, ⟨hx, hb, hml, hown, hts⟩, hK, hD, hA, hN, hZ, hc1, hs1⟩ := E
  unfold o_ldiv at h
  split at h
  · next y x st =>
    intro H locs ls hP hS hl
    obtain ⟨hside, h⟩ := h
    have g := k _ _ _ h H locs ls hP hS hl
    change W p l e R s m args below meth c H locs cells slots Q (F0 m pc ls (.long (lO y) :: .long (lO x) :: st.map (q_tv ad)))
    refine lv_ldiv hx hb hd (q_ldiv hside.1 hside.2.1 hside.2.2).1 ?_
    rw [(q_ldiv hside.1 hside.2.1 hside.2.2).2.1]
    exact g
  · exact h.elim
def o_lrem (σ : q_M) (lv : q_L) (st : q_S) (K : q_K) : Prop := match st with
  | .inr (.inr (.inl y)) :: .inr (.inr (.inl x)) :: st => (q_i64 x ∧ 1 ≤ y ∧ y < 9223372036854775808) ∧ K σ lv (zL (x.tmod y) :: st)
  | _ => False
theorem so_lrem (E : q_E J cc own Ts nL l R) (hd : decode cc pc = .ok (.lrem, 1)) (h : o_lrem σ lv st K) (k : ∀ σ lv st, K σ lv st → J (pc + 1) σ lv st) : J pc σ lv st := by
  obtain ⟨p, e, s, m, args, below, meth, c, D, cy, A, ad, cells, slots, Q, rfl, ⟨hx, hb, hml, hown, hts⟩, hK, hD, hA, hN, hZ, hc1, hs1⟩ := E
  unfold o_lrem at h
  split at h
  · next y x st =>
    intro H locs ls hP hS hl
    obtain ⟨hside, h⟩ := h
    have g := k _ _ _ h H locs ls hP hS hl
    change W p l e R s m args below meth c H locs cells slots Q (F0 m pc ls (.long (lO y) :: .long (lO x) :: st.map (q_tv ad)))
    refine lv_lrem hx hb hd (q_ldiv hside.1 hside.2.1 hside.2.2).1 ?_
    rw [(q_ldiv hside.1 hside.2.1 hside.2.2).2.2]
    exact g
  · exact h.elim
def o_idiv (σ : q_M) (lv : q_L) (st : q_S) (K : q_K) : Prop := match st with
  | .inr (.inl y) :: .inr (.inl x) :: st => (0 ≤ x ∧ x < 2147483648 ∧ 1 ≤ y ∧ y < 2147483648) ∧ K σ lv (zI (x / y) :: st)
  | _ => False
theorem so_idiv (E : q_E J cc own Ts nL l R) (hd : decode cc pc = .ok (.idiv, 1)) (h : o_idiv σ lv st K) (k : ∀ σ lv st, K σ lv st → J (pc + 1) σ lv st) : J pc σ lv st := by
  obtain ⟨p, e, s, m, args, below, meth, c, D, cy, A, ad, cells, slots, Q, rfl, ⟨hx, hb, hml, hown, hts⟩, hK, hD, hA, hN, hZ, hc1, hs1⟩ := E
  unfold o_idiv at h
  split at h
  · next y x st =>
    intro H locs ls hP hS hl
    obtain ⟨hside, h⟩ := h
    have g := k _ _ _ h H locs ls hP hS hl
    change W p l e R s m args below meth c H locs cells slots Q (F0 m pc ls (.int (iO y) :: .int (iO x) :: st.map (q_tv ad)))
    refine lv_idiv hx hb hd (q_idiv hside.1 hside.2.1 hside.2.2.1 hside.2.2.2).1 ?_
    rw [(q_idiv hside.1 hside.2.1 hside.2.2.1 hside.2.2.2).2.1]
    exact g
  · exact h.elim
def o_irem (σ : q_M) (lv : q_L) (st : q_S) (K : q_K) : Prop := match st with
  | .inr (.inl y) :: .inr (.inl x) :: st => (0 ≤ x ∧ x < 2147483648 ∧ 1 ≤ y ∧ y < 2147483648) ∧ K σ lv (zI (x % y) :: st)
  | _ => False
theorem so_irem (E : q_E J cc own Ts nL l R) (hd : decode cc pc = .ok (.irem, 1)) (h : o_irem σ lv st K) (k : ∀ σ lv st, K σ lv st → J (pc + 1) σ lv st) : J pc σ lv st := by
  obtain ⟨p, e, s, m, args, below, meth, c, D, cy, A, ad, cells, slots, Q, rfl, ⟨hx, hb, hml, hown, hts⟩, hK, hD, hA, hN, hZ, hc1, hs1⟩ := E
  unfold o_irem at h
  split at h
  · next y x st =>
    intro H locs ls hP hS hl
    obtain ⟨hside, h⟩ := h
    have g := k _ _ _ h H locs ls hP hS hl
    change W p l e R s m args below meth c H locs cells slots Q (F0 m pc ls (.int (iO y) :: .int (iO x) :: st.map (q_tv ad)))
    refine lv_irem hx hb hd (q_idiv hside.1 hside.2.1 hside.2.2.1 hside.2.2.2).1 ?_
    rw [(q_idiv hside.1 hside.2.1 hside.2.2.1 hside.2.2.2).2.2]
    exact g
  · exact h.elim
theorem q_lxor {x y : Int} (hx : q_i64 x) (hy : q_i64 y) : (lO x ^^^ lO y).toInt < 0 ↔ ¬ (x < 0 ↔ y < 0) := by
  have e : ∀ z : Int64, z.toInt < 0 ↔ z.toBitVec.msb = true := fun z => by
    rw [show z.toInt = z.toBitVec.toInt from rfl, BitVec.msb_eq_toInt]
    simp
  rw [e, show (lO x ^^^ lO y).toBitVec = (lO x).toBitVec ^^^ (lO y).toBitVec from rfl, BitVec.msb_xor]
  have h1 := e (lO x)
  have h2 := e (lO y)
  rw [lO_toInt hx] at h1
  rw [lO_toInt hy] at h2
  rw [h1, h2]
  cases (lO x).toBitVec.msb <;> cases (lO y).toBitVec.msb <;> simp
theorem lO_i64 (z : Int64) : q_i64 z.toInt := ⟨by have := z.le_toInt; omega, by have := z.toInt_lt; omega⟩
theorem iO_i32 (z : Int32) : q_i32 z.toInt := ⟨by have := z.le_toInt; omega, by have := z.toInt_lt; omega⟩
def o_lxor (σ : q_M) (lv : q_L) (st : q_S) (K : q_K) : Prop := match st with
  | .inr (.inr (.inl y)) :: .inr (.inr (.inl x)) :: st => q_i64 x ∧ q_i64 y ∧ ∀ r : Int, q_i64 r → (r < 0 ↔ ¬ (x < 0 ↔ y < 0)) → K σ lv (zL r :: st)
  | _ => False
theorem so_lxor (E : q_E J cc own Ts nL l R) (hd : decode cc pc = .ok (.lxor, 1)) (h : o_lxor σ lv st K) (k : ∀ σ lv st, K σ lv st → J (pc + 1) σ lv st) : J pc σ lv st := by
  obtain ⟨p, e, s, m, args, below, meth, c, D, cy, A, ad, cells, slots, Q, rfl, ⟨hx, hb, hml, hown, hts⟩, hK, hD, hA, hN, hZ, hc1, hs1⟩ := E
  unfold o_lxor at h
  split at h
  · next y x st =>
    intro H locs ls hP hS hl
    obtain ⟨hx1, hy1, h⟩ := h
    have g := k _ _ _ (h _ (lO_i64 _) (q_lxor hx1 hy1)) H locs ls hP hS hl
    change W p l e R s m args below meth c H locs cells slots Q (F0 m pc ls (.long (lO y) :: .long (lO x) :: st.map (q_tv ad)))
    refine lv_lxor hx hb hd ?_
    rw [← lO_of (lO x ^^^ lO y)]
    exact g
  · exact h.elim
theorem q_ishl {y : Int} (h0 : 0 ≤ y) (h1 : y < 31) : iO 1 <<< (iO y &&& 31) = iO (2 ^ y.toNat) := by
  obtain ⟨n, rfl⟩ := Int.eq_ofNat_of_zero_le h0
  have hn : n < 31 := by omega
  have key : ∀ n : Fin 31, iO 1 <<< (iO ((n : Nat) : Int) &&& 31) = iO (2 ^ (((n : Nat) : Int)).toNat) := by decide +kernel
  exact key ⟨n, hn⟩
theorem q_ior {x y : Int} (hx0 : 0 ≤ x) (hx : x < 64) (hy0 : 0 ≤ y) (hy : y < 64) : iO x ||| iO y = iO ((x.toNat ||| y.toNat : Nat) : Int) := by
  obtain ⟨a, rfl⟩ := Int.eq_ofNat_of_zero_le hx0
  obtain ⟨b, rfl⟩ := Int.eq_ofNat_of_zero_le hy0
  have key : ∀ a b : Fin 64, iO ((a : Nat) : Int) ||| iO ((b : Nat) : Int) = iO ((((((a : Nat) : Int)).toNat ||| (((b : Nat) : Int)).toNat : Nat) : Int)) := by decide +kernel
  exact key ⟨a, by omega⟩ ⟨b, by omega⟩
theorem q_iand (x : Int) : iO x &&& iO 31 = iO (x % 32) := by
  have h := pk_and (iO x) (m := iO 31) 5 (by decide +kernel)
  rw [h]
  have e : (((iO x).toBitVec.toNat % 2 ^ 5 : Nat) : Int) = x % 32 := by
    have h1 : (iO x).toBitVec = BitVec.ofInt 32 x := rfl
    rw [h1, BitVec.toNat_ofInt]
    omega
  rw [← e]
  exact (Int32.ofInt_eq_ofNat).symm
def o_ishl (σ : q_M) (lv : q_L) (st : q_S) (K : q_K) : Prop := match st with
  | .inr (.inl y) :: .inr (.inl x) :: st => (x = 1 ∧ 0 ≤ y ∧ y < 31) ∧ K σ lv (zI (2 ^ y.toNat) :: st)
  | _ => False
theorem so_ishl (E : q_E J cc own Ts nL l R) (hd : decode cc pc = .ok (.ishl, 1)) (h : o_ishl σ lv st K) (k : ∀ σ lv st, K σ lv st → J (pc + 1) σ lv st) : J pc σ lv st := by
  obtain ⟨p, e, s, m, args, below, meth, c, D, cy, A, ad, cells, slots, Q, rfl, ⟨hx, hb, hml, hown, hts⟩, hK, hD, hA, hN, hZ, hc1, hs1⟩ := E
  unfold o_ishl at h
  split at h
  · next y x st =>
    intro H locs ls hP hS hl
    obtain ⟨hside, h⟩ := h
    have g := k _ _ _ h H locs ls hP hS hl
    change W p l e R s m args below meth c H locs cells slots Q (F0 m pc ls (.int (iO y) :: .int (iO x) :: st.map (q_tv ad)))
    refine lv_ishl hx hb hd ?_
    obtain ⟨rfl, h0, h1⟩ := hside
    rw [show iO 1 <<< (iO y &&& 31) = iO (2 ^ y.toNat) from q_ishl h0 h1]
    exact g
  · exact h.elim
def o_ior (σ : q_M) (lv : q_L) (st : q_S) (K : q_K) : Prop := match st with
  | .inr (.inl y) :: .inr (.inl x) :: st => (0 ≤ x ∧ x < 64 ∧ 0 ≤ y ∧ y < 64) ∧ K σ lv (zI ((x.toNat ||| y.toNat : Nat) : Int) :: st)
  | _ => False
theorem so_ior (E : q_E J cc own Ts nL l R) (hd : decode cc pc = .ok (.ior, 1)) (h : o_ior σ lv st K) (k : ∀ σ lv st, K σ lv st → J (pc + 1) σ lv st) : J pc σ lv st := by
  obtain ⟨p, e, s, m, args, below, meth, c, D, cy, A, ad, cells, slots, Q, rfl, ⟨hx, hb, hml, hown, hts⟩, hK, hD, hA, hN, hZ, hc1, hs1⟩ := E
  unfold o_ior at h
  split at h
  · next y x st =>
    intro H locs ls hP hS hl
    obtain ⟨hside, h⟩ := h
    have g := k _ _ _ h H locs ls hP hS hl
    change W p l e R s m args below meth c H locs cells slots Q (F0 m pc ls (.int (iO y) :: .int (iO x) :: st.map (q_tv ad)))
    refine lv_ior hx hb hd ?_
    rw [q_ior hside.1 hside.2.1 hside.2.2.1 hside.2.2.2]
    exact g
  · exact h.elim
def q_and (x y : Int) : Int := (iO x &&& iO y).toInt
def q_shr (x y : Int) : Int := (iO x >>> (iO y &&& 31)).toInt
def o_iand (σ : q_M) (lv : q_L) (st : q_S) (K : q_K) : Prop := match st with
  | .inr (.inl y) :: .inr (.inl x) :: st => K σ lv (zI (q_and x y) :: st)
  | _ => False
theorem so_iand (E : q_E J cc own Ts nL l R) (hd : decode cc pc = .ok (.iand, 1)) (h : o_iand σ lv st K) (k : ∀ σ lv st, K σ lv st → J (pc + 1) σ lv st) : J pc σ lv st := by
  obtain ⟨p, e, s, m, args, below, meth, c, D, cy, A, ad, cells, slots, Q, rfl, ⟨hx, hb, hml, hown, hts⟩, hK, hD, hA, hN, hZ, hc1, hs1⟩ := E
  unfold o_iand at h
  split at h
  · next y x st =>
    intro H locs ls hP hS hl
    have g := k _ _ _ h H locs ls hP hS hl
    change W p l e R s m args below meth c H locs cells slots Q (F0 m pc ls (.int (iO y) :: .int (iO x) :: st.map (q_tv ad)))
    refine lv_iand hx hb hd ?_
    rw [← iO_of (iO x &&& iO y)]
    exact g
  · exact h.elim
def o_ishr (σ : q_M) (lv : q_L) (st : q_S) (K : q_K) : Prop := match st with
  | .inr (.inl y) :: .inr (.inl x) :: st => K σ lv (zI (q_shr x y) :: st)
  | _ => False
theorem so_ishr (E : q_E J cc own Ts nL l R) (hd : decode cc pc = .ok (.ishr, 1)) (h : o_ishr σ lv st K) (k : ∀ σ lv st, K σ lv st → J (pc + 1) σ lv st) : J pc σ lv st := by
  obtain ⟨p, e, s, m, args, below, meth, c, D, cy, A, ad, cells, slots, Q, rfl, ⟨hx, hb, hml, hown, hts⟩, hK, hD, hA, hN, hZ, hc1, hs1⟩ := E
  unfold o_ishr at h
  split at h
  · next y x st =>
    intro H locs ls hP hS hl
    have g := k _ _ _ h H locs ls hP hS hl
    change W p l e R s m args below meth c H locs cells slots Q (F0 m pc ls (.int (iO y) :: .int (iO x) :: st.map (q_tv ad)))
    refine lv_ishr hx hb hd ?_
    rw [← iO_of (iO x >>> (iO y &&& 31))]
    exact g
  · exact h.elim
theorem q_and_i32 (x y : Int) : q_i32 (q_and x y) := iO_i32 _
theorem q_shr_i32 (x y : Int) : q_i32 (q_shr x y) := iO_i32 _
theorem q_and_nn (x : Int) : 0 ≤ q_and x 2147483647 ∧ q_and x 2147483647 < 2147483648 := by
  have h := pk_and (iO x) (m := iO 2147483647) 31 (by decide +kernel)
  unfold q_and
  rw [h]
  have hb : (iO x).toBitVec.toNat % 2 ^ 31 < 2147483648 := Nat.mod_lt _ (by decide)
  generalize (iO x).toBitVec.toNat % 2 ^ 31 = w at hb
  have e : (Int32.ofNat w).toInt = (w : Int) := by
    rw [show Int32.ofNat w = iO (w : Int) from Int32.ofInt_eq_ofNat.symm]
    exact iO_toInt ⟨by omega, by omega⟩
  show 0 ≤ (Int32.ofNat w).toInt ∧ (Int32.ofNat w).toInt < 2147483648
  rw [e]
  omega
theorem q_shr_0 {x n : Int} (h0 : 0 ≤ x) (hn0 : 0 ≤ n) (hn : n ≤ 6) (h : x < 2 ^ n.toNat) : q_shr x n = 0 := by
  obtain ⟨b, rfl⟩ := Int.eq_ofNat_of_zero_le hn0
  obtain ⟨a, rfl⟩ := Int.eq_ofNat_of_zero_le h0
  have hb7 : b < 7 := by omega
  have hp : (2 : Int) ^ (b : Int).toNat = ((2 ^ b : Nat) : Int) := by simp
  have ha : a < 2 ^ b := by
    rw [hp] at h
    exact Int.ofNat_lt.mp h
  have hc : (2 : Nat) ^ b ≤ 64 := by
    have : (2 : Nat) ^ b ≤ 2 ^ 6 := Nat.pow_le_pow_right (by decide) (by omega)
    omega
  have key : ∀ a : Fin 64, ∀ b : Fin 7, (a : Nat) < 2 ^ (b : Nat) → q_shr ((a : Nat) : Int) ((b : Nat) : Int) = 0 := by decide +kernel
  exact key ⟨a, by omega⟩ ⟨b, hb7⟩ ha
def o_ic (x : Int) (σ : q_M) (lv : q_L) (st : q_S) (K : q_K) : Prop := K σ lv (zI x :: st)
def o_lc (x : Int) (σ : q_M) (lv : q_L) (st : q_S) (K : q_K) : Prop := K σ lv (zL x :: st)
def o_fc (x : UInt32) (σ : q_M) (lv : q_L) (st : q_S) (K : q_K) : Prop := K σ lv (zF x :: st)
theorem so_iconst (E : q_E J cc own Ts nL l R) {x : Int} (hd : decode cc pc = .ok (.iconst x, 1)) (h : o_ic x σ lv st K) (k : ∀ σ lv st, K σ lv st → J (pc + 1) σ lv st) : J pc σ lv st := by
  obtain ⟨p, e, s, m, args, below, meth, c, D, cy, A, ad, cells, slots, Q, rfl, ⟨hx, hb, hml, hown, hts⟩, hK, hD, hA, hN, hZ, hc1, hs1⟩ := E
  intro H locs ls hP hS hl
  have g := k _ _ _ h H locs ls hP hS hl
  exact lv_iconst (v := iO x) hx hb hd rfl g
theorem so_bipush (E : q_E J cc own Ts nL l R) {x : Int} (hv : (Int8.ofInt x).toInt32 = iO x) (hd : decode cc pc = .ok (.bipush x, 2)) (h : o_ic x σ lv st K) (k : ∀ σ lv st, K σ lv st → J (pc + 2) σ lv st) : J pc σ lv st := by
  obtain ⟨p, e, s, m, args, below, meth, c, D, cy, A, ad, cells, slots, Q, rfl, ⟨hx, hb, hml, hown, hts⟩, hK, hD, hA, hN, hZ, hc1, hs1⟩ := E
  intro H locs ls hP hS hl
  have g := k _ _ _ h H locs ls hP hS hl
  exact lv_bipush (v := iO x) hx hb hd hv g
theorem so_sipush (E : q_E J cc own Ts nL l R) {x : Int} (hv : (Int16.ofInt x).toInt32 = iO x) (hd : decode cc pc = .ok (.sipush x, 3)) (h : o_ic x σ lv st K) (k : ∀ σ lv st, K σ lv st → J (pc + 3) σ lv st) : J pc σ lv st := by
  obtain ⟨p, e, s, m, args, below, meth, c, D, cy, A, ad, cells, slots, Q, rfl, ⟨hx, hb, hml, hown, hts⟩, hK, hD, hA, hN, hZ, hc1, hs1⟩ := E
  intro H locs ls hP hS hl
  have g := k _ _ _ h H locs ls hP hS hl
  exact lv_sipush (v := iO x) hx hb hd hv g
theorem so_ldc (E : q_E J cc own Ts nL l R) {x : Int} {idx : Nat} {v : Int32} (hw : Cond.constant own idx v ∈ Ts) (hv : v = iO x) (hd : decode cc pc = .ok (.ldc idx, 2)) (h : o_ic x σ lv st K) (k : ∀ σ lv st, K σ lv st → J (pc + 2) σ lv st) : J pc σ lv st := by
  obtain ⟨p, e, s, m, args, below, meth, c, D, cy, A, ad, cells, slots, Q, rfl, ⟨hx, hb, hml, hown, hts⟩, hK, hD, hA, hN, hZ, hc1, hs1⟩ := E
  intro H locs ls hP hS hl
  have g := k _ _ _ h H locs ls hP hS hl
  exact lv_ldc (v := iO x) hx hb hown (by rw [← hv]; exact hts _ hw) hd g
theorem so_ldc2 (E : q_E J cc own Ts nL l R) {x : Int} {idx : Nat} {v : Int64} (hw : Cond.constantLong own idx v ∈ Ts) (hv : v = lO x) (hd : decode cc pc = .ok (.ldc2_w idx, 3)) (h : o_lc x σ lv st K) (k : ∀ σ lv st, K σ lv st → J (pc + 3) σ lv st) : J pc σ lv st := by
  obtain ⟨p, e, s, m, args, below, meth, c, D, cy, A, ad, cells, slots, Q, rfl, ⟨hx, hb, hml, hown, hts⟩, hK, hD, hA, hN, hZ, hc1, hs1⟩ := E
  intro H locs ls hP hS hl
  have g := k _ _ _ h H locs ls hP hS hl
  exact lv_ldc2 (v := lO x) hx hb hown (by rw [← hv]; exact hts _ hw) hd g
theorem so_lconst (E : q_E J cc own Ts nL l R) {x : Int} {n : Fin 2} (hv : Int64.ofNat (n : Nat) = lO x) (hd : decode cc pc = .ok (.lconst n, 1)) (h : o_lc x σ lv st K) (k : ∀ σ lv st, K σ lv st → J (pc + 1) σ lv st) : J pc σ lv st := by
  obtain ⟨p, e, s, m, args, below, meth, c, D, cy, A, ad, cells, slots, Q, rfl, ⟨hx, hb, hml, hown, hts⟩, hK, hD, hA, hN, hZ, hc1, hs1⟩ := E
  intro H locs ls hP hS hl
  have g := k _ _ _ h H locs ls hP hS hl
  exact lv_lconst (v := lO x) hx hb hd hv g
theorem so_fconst0 (E : q_E J cc own Ts nL l R) (hd : decode cc pc = .ok (.fconst 0, 1)) (h : o_fc FP.fconst0 σ lv st K) (k : ∀ σ lv st, K σ lv st → J (pc + 1) σ lv st) : J pc σ lv st := by
  obtain ⟨p, e, s, m, args, below, meth, c, D, cy, A, ad, cells, slots, Q, rfl, ⟨hx, hb, hml, hown, hts⟩, hK, hD, hA, hN, hZ, hc1, hs1⟩ := E
  intro H locs ls hP hS hl
  exact lv_fconst0 hx hb hd (k _ _ _ h H locs ls hP hS hl)
theorem so_fconst1 (E : q_E J cc own Ts nL l R) (hd : decode cc pc = .ok (.fconst 1, 1)) (h : o_fc FP.fconst1 σ lv st K) (k : ∀ σ lv st, K σ lv st → J (pc + 1) σ lv st) : J pc σ lv st := by
  obtain ⟨p, e, s, m, args, below, meth, c, D, cy, A, ad, cells, slots, Q, rfl, ⟨hx, hb, hml, hown, hts⟩, hK, hD, hA, hN, hZ, hc1, hs1⟩ := E
  intro H locs ls hP hS hl
  exact lv_fconst1 hx hb hd (k _ _ _ h H locs ls hP hS hl)
def o_iload (i : Nat) (σ : q_M) (lv : q_L) (st : q_S) (K : q_K) : Prop := match lv[i]? with
  | some (some (.inr (.inl x))) => K σ lv (zI x :: st)
  | _ => False
theorem so_iload_n (E : q_E J cc own Ts nL l R) {i : Nat} {n : Fin 4} (hi : (n : Nat) = i) (hd : decode cc pc = .ok (.iload_n n, 1)) (h : o_iload i σ lv st K) (k : ∀ σ lv st, K σ lv st → J (pc + 1) σ lv st) : J pc σ lv st := by
  obtain ⟨p, e, s, m, args, below, meth, c, D, cy, A, ad, cells, slots, Q, rfl, ⟨hx, hb, hml, hown, hts⟩, hK, hD, hA, hN, hZ, hc1, hs1⟩ := E
  unfold o_iload at h
  split at h
  · next x hi9 =>
    intro H locs ls hP hS hl
    exact lv_iload_n hx hb hd hi (q_lh_at hl hi9) (k _ _ _ h H locs ls hP hS hl)
  · exact h.elim
theorem so_iload (E : q_E J cc own Ts nL l R) {i : Nat} (hd : decode cc pc = .ok (.iload i, 2)) (h : o_iload i σ lv st K) (k : ∀ σ lv st, K σ lv st → J (pc + 2) σ lv st) : J pc σ lv st := by
  obtain ⟨p, e, s, m, args, below, meth, c, D, cy, A, ad, cells, slots, Q, rfl, ⟨hx, hb, hml, hown, hts⟩, hK, hD, hA, hN, hZ, hc1, hs1⟩ := E
  unfold o_iload at h
  split at h
  · next x hi9 =>
    intro H locs ls hP hS hl
    exact lv_iload hx hb hd (q_lh_at hl hi9) (k _ _ _ h H locs ls hP hS hl)
  · exact h.elim
def o_istore (i : Nat) (σ : q_M) (lv : q_L) (st : q_S) (K : q_K) : Prop := match st with
  | .inr (.inl x) :: st => K σ (q_set1 i (zI x) lv) st
  | _ => False
theorem so_istore_n (E : q_E J cc own Ts nL l R) {i : Nat} {n : Fin 4} (hi : (n : Nat) = i) (hn : i < nL) (hd : decode cc pc = .ok (.istore_n n, 1)) (h : o_istore i σ lv st K) (k : ∀ σ lv st, K σ lv st → J (pc + 1) σ lv st) : J pc σ lv st := by
  obtain ⟨p, e, s, m, args, below, meth, c, D, cy, A, ad, cells, slots, Q, rfl, ⟨hx, hb, hml, hown, hts⟩, hK, hD, hA, hN, hZ, hc1, hs1⟩ := E
  unfold o_istore at h
  split at h
  · next x st =>
    intro H locs ls hP hS hl
    change W p l e R s m args below meth c H locs cells slots Q (F0 m pc ls (.int (iO x) :: st.map (q_tv ad)))
    refine lv_istore_n (nL := nL) (lv := q_lp ad 0 lv) hx hb hd hi hl hn rfl (fun ls1 hl1 => ?_)
    exact k _ _ _ h H locs ls1 hP hS (q_set1_ok (v := zI x) hl1)
  · exact h.elim
theorem so_istore (E : q_E J cc own Ts nL l R) {i : Nat} (hn : i < nL) (hd : decode cc pc = .ok (.istore i, 2)) (h : o_istore i σ lv st K) (k : ∀ σ lv st, K σ lv st → J (pc + 2) σ lv st) : J pc σ lv st := by
  obtain ⟨p, e, s, m, args, below, meth, c, D, cy, A, ad, cells, slots, Q, rfl, ⟨hx, hb, hml, hown, hts⟩, hK, hD, hA, hN, hZ, hc1, hs1⟩ := E
  unfold o_istore at h
  split at h
  · next x st =>
    intro H locs ls hP hS hl
    change W p l e R s m args below meth c H locs cells slots Q (F0 m pc ls (.int (iO x) :: st.map (q_tv ad)))
    refine lv_istore (nL := nL) (lv := q_lp ad 0 lv) hx hb hd hl hn rfl (fun ls1 hl1 => ?_)
    exact k _ _ _ h H locs ls1 hP hS (q_set1_ok (v := zI x) hl1)
  · exact h.elim
def o_lload (i : Nat) (σ : q_M) (lv : q_L) (st : q_S) (K : q_K) : Prop := match lv[i]? with
  | some (some (.inr (.inr (.inl x)))) => K σ lv (zL x :: st)
  | _ => False
theorem so_lload_n (E : q_E J cc own Ts nL l R) {i : Nat} {n : Fin 4} (hi : (n : Nat) = i) (hd : decode cc pc = .ok (.lload_n n, 1)) (h : o_lload i σ lv st K) (k : ∀ σ lv st, K σ lv st → J (pc + 1) σ lv st) : J pc σ lv st := by
  obtain ⟨p, e, s, m, args, below, meth, c, D, cy, A, ad, cells, slots, Q, rfl, ⟨hx, hb, hml, hown, hts⟩, hK, hD, hA, hN, hZ, hc1, hs1⟩ := E
  unfold o_lload at h
  split at h
  · next x hi9 =>
    intro H locs ls hP hS hl
    exact lv_lload_n hx hb hd hi (q_lh_at hl hi9) (k _ _ _ h H locs ls hP hS hl)
  · exact h.elim
theorem so_lload (E : q_E J cc own Ts nL l R) {i : Nat} (hd : decode cc pc = .ok (.lload i, 2)) (h : o_lload i σ lv st K) (k : ∀ σ lv st, K σ lv st → J (pc + 2) σ lv st) : J pc σ lv st := by
  obtain ⟨p, e, s, m, args, below, meth, c, D, cy, A, ad, cells, slots, Q, rfl, ⟨hx, hb, hml, hown, hts⟩, hK, hD, hA, hN, hZ, hc1, hs1⟩ := E
  unfold o_lload at h
  split at h
  · next x hi9 =>
    intro H locs ls hP hS hl
    exact lv_lload hx hb hd (q_lh_at hl hi9) (k _ _ _ h H locs ls hP hS hl)
  · exact h.elim
def o_lstore (i : Nat) (σ : q_M) (lv : q_L) (st : q_S) (K : q_K) : Prop := match st with
  | .inr (.inr (.inl x)) :: st => K σ (q_set2 i (zL x) lv) st
  | _ => False
theorem so_lstore_n (E : q_E J cc own Ts nL l R) {i : Nat} {n : Fin 4} (hi : (n : Nat) = i) (hn : i + 1 < nL) (hd : decode cc pc = .ok (.lstore_n n, 1)) (h : o_lstore i σ lv st K) (k : ∀ σ lv st, K σ lv st → J (pc + 1) σ lv st) : J pc σ lv st := by
  obtain ⟨p, e, s, m, args, below, meth, c, D, cy, A, ad, cells, slots, Q, rfl, ⟨hx, hb, hml, hown, hts⟩, hK, hD, hA, hN, hZ, hc1, hs1⟩ := E
  unfold o_lstore at h
  split at h
  · next x st =>
    intro H locs ls hP hS hl
    change W p l e R s m args below meth c H locs cells slots Q (F0 m pc ls (.long (lO x) :: st.map (q_tv ad)))
    refine lv_lstore_n (nL := nL) (lv := q_lp ad 0 lv) hx hb hd hi hl hn rfl (fun ls1 hl1 => ?_)
    exact k _ _ _ h H locs ls1 hP hS (q_set2_ok (v := zL x) hl1)
  · exact h.elim
theorem so_lstore (E : q_E J cc own Ts nL l R) {i : Nat} (hn : i + 1 < nL) (hd : decode cc pc = .ok (.lstore i, 2)) (h : o_lstore i σ lv st K) (k : ∀ σ lv st, K σ lv st → J (pc + 2) σ lv st) : J pc σ lv st := by
  obtain ⟨p, e, s, m, args, below, meth, c, D, cy, A, ad, cells, slots, Q, rfl, ⟨hx, hb, hml, hown, hts⟩, hK, hD, hA, hN, hZ, hc1, hs1⟩ := E
  unfold o_lstore at h
  split at h
  · next x st =>
    intro H locs ls hP hS hl
    change W p l e R s m args below meth c H locs cells slots Q (F0 m pc ls (.long (lO x) :: st.map (q_tv ad)))
    refine lv_lstore (nL := nL) (lv := q_lp ad 0 lv) hx hb hd hl hn rfl (fun ls1 hl1 => ?_)
    exact k _ _ _ h H locs ls1 hP hS (q_set2_ok (v := zL x) hl1)
  · exact h.elim
def o_fload (i : Nat) (σ : q_M) (lv : q_L) (st : q_S) (K : q_K) : Prop := match lv[i]? with
  | some (some (.inr (.inr (.inr (.inl x))))) => K σ lv (zF x :: st)
  | _ => False
theorem so_fload_n (E : q_E J cc own Ts nL l R) {i : Nat} {n : Fin 4} (hi : (n : Nat) = i) (hd : decode cc pc = .ok (.fload_n n, 1)) (h : o_fload i σ lv st K) (k : ∀ σ lv st, K σ lv st → J (pc + 1) σ lv st) : J pc σ lv st := by
  obtain ⟨p, e, s, m, args, below, meth, c, D, cy, A, ad, cells, slots, Q, rfl, ⟨hx, hb, hml, hown, hts⟩, hK, hD, hA, hN, hZ, hc1, hs1⟩ := E
  unfold o_fload at h
  split at h
  · next x hi9 =>
    intro H locs ls hP hS hl
    exact lv_fload_n hx hb hd hi (q_lh_at hl hi9) (k _ _ _ h H locs ls hP hS hl)
  · exact h.elim
theorem so_fload (E : q_E J cc own Ts nL l R) {i : Nat} (hd : decode cc pc = .ok (.fload i, 2)) (h : o_fload i σ lv st K) (k : ∀ σ lv st, K σ lv st → J (pc + 2) σ lv st) : J pc σ lv st := by
  obtain ⟨p, e, s, m, args, below, meth, c, D, cy, A, ad, cells, slots, Q, rfl, ⟨hx, hb, hml, hown, hts⟩, hK, hD, hA, hN, hZ, hc1, hs1⟩ := E
  unfold o_fload at h
  split at h
  · next x hi9 =>
    intro H locs ls hP hS hl
    exact lv_fload hx hb hd (q_lh_at hl hi9) (k _ _ _ h H locs ls hP hS hl)
  · exact h.elim
def o_fstore (i : Nat) (σ : q_M) (lv : q_L) (st : q_S) (K : q_K) : Prop := match st with
  | .inr (.inr (.inr (.inl x))) :: st => K σ (q_set1 i (zF x) lv) st
  | _ => False
theorem so_fstore_n (E : q_E J cc own Ts nL l R) {i : Nat} {n : Fin 4} (hi : (n : Nat) = i) (hn : i < nL) (hd : decode cc pc = .ok (.fstore_n n, 1)) (h : o_fstore i σ lv st K) (k : ∀ σ lv st, K σ lv st → J (pc + 1) σ lv st) : J pc σ lv st := by
  obtain ⟨p, e, s, m, args, below, meth, c, D, cy, A, ad, cells, slots, Q, rfl, ⟨hx, hb, hml, hown, hts⟩, hK, hD, hA, hN, hZ, hc1, hs1⟩ := E
  unfold o_fstore at h
  split at h
  · next x st =>
    intro H locs ls hP hS hl
    change W p l e R s m args below meth c H locs cells slots Q (F0 m pc ls (.float x :: st.map (q_tv ad)))
    refine lv_fstore_n (nL := nL) (lv := q_lp ad 0 lv) hx hb hd hi hl hn rfl (fun ls1 hl1 => ?_)
    exact k _ _ _ h H locs ls1 hP hS (q_set1_ok (v := zF x) hl1)
  · exact h.elim
theorem so_fstore (E : q_E J cc own Ts nL l R) {i : Nat} (hn : i < nL) (hd : decode cc pc = .ok (.fstore i, 2)) (h : o_fstore i σ lv st K) (k : ∀ σ lv st, K σ lv st → J (pc + 2) σ lv st) : J pc σ lv st := by
  obtain ⟨p, e, s, m, args, below, meth, c, D, cy, A, ad, cells, slots, Q, rfl, ⟨hx, hb, hml, hown, hts⟩, hK, hD, hA, hN, hZ, hc1, hs1⟩ := E
  unfold o_fstore at h
  split at h
  · next x st =>
    intro H locs ls hP hS hl
    change W p l e R s m args below meth c H locs cells slots Q (F0 m pc ls (.float x :: st.map (q_tv ad)))
    refine lv_fstore (nL := nL) (lv := q_lp ad 0 lv) hx hb hd hl hn rfl (fun ls1 hl1 => ?_)
    exact k _ _ _ h H locs ls1 hP hS (q_set1_ok (v := zF x) hl1)
  · exact h.elim
def o_dload (i : Nat) (σ : q_M) (lv : q_L) (st : q_S) (K : q_K) : Prop := match lv[i]? with
  | some (some (.inr (.inr (.inr (.inr x))))) => K σ lv (zD x :: st)
  | _ => False
theorem so_dload (E : q_E J cc own Ts nL l R) {i : Nat} (hd : decode cc pc = .ok (.dload i, 2)) (h : o_dload i σ lv st K) (k : ∀ σ lv st, K σ lv st → J (pc + 2) σ lv st) : J pc σ lv st := by
  obtain ⟨p, e, s, m, args, below, meth, c, D, cy, A, ad, cells, slots, Q, rfl, ⟨hx, hb, hml, hown, hts⟩, hK, hD, hA, hN, hZ, hc1, hs1⟩ := E
  unfold o_dload at h
  split at h
  · next x hi9 =>
    intro H locs ls hP hS hl
    exact lv_dload hx hb hd (q_lh_at hl hi9) (k _ _ _ h H locs ls hP hS hl)
  · exact h.elim
def o_dstore (i : Nat) (σ : q_M) (lv : q_L) (st : q_S) (K : q_K) : Prop := match st with
  | .inr (.inr (.inr (.inr x))) :: st => K σ (q_set2 i (zD x) lv) st
  | _ => False
theorem so_dstore (E : q_E J cc own Ts nL l R) {i : Nat} (hn : i + 1 < nL) (hd : decode cc pc = .ok (.dstore i, 2)) (h : o_dstore i σ lv st K) (k : ∀ σ lv st, K σ lv st → J (pc + 2) σ lv st) : J pc σ lv st := by
  obtain ⟨p, e, s, m, args, below, meth, c, D, cy, A, ad, cells, slots, Q, rfl, ⟨hx, hb, hml, hown, hts⟩, hK, hD, hA, hN, hZ, hc1, hs1⟩ := E
  unfold o_dstore at h
  split at h
  · next x st =>
    intro H locs ls hP hS hl
    change W p l e R s m args below meth c H locs cells slots Q (F0 m pc ls (.double x :: st.map (q_tv ad)))
    refine lv_dstore (nL := nL) (lv := q_lp ad 0 lv) hx hb hd hl hn rfl (fun ls1 hl1 => ?_)
    exact k _ _ _ h H locs ls1 hP hS (q_set2_ok (v := zD x) hl1)
  · exact h.elim
def o_aload (i : Nat) (σ : q_M) (lv : q_L) (st : q_S) (K : q_K) : Prop := match lv[i]? with
  | some (some (.inl x)) => K σ lv (.inl x :: st)
  | _ => False
theorem so_aload_n (E : q_E J cc own Ts nL l R) {i : Nat} {n : Fin 4} (hi : (n : Nat) = i) (hd : decode cc pc = .ok (.aload_n n, 1)) (h : o_aload i σ lv st K) (k : ∀ σ lv st, K σ lv st → J (pc + 1) σ lv st) : J pc σ lv st := by
  obtain ⟨p, e, s, m, args, below, meth, c, D, cy, A, ad, cells, slots, Q, rfl, ⟨hx, hb, hml, hown, hts⟩, hK, hD, hA, hN, hZ, hc1, hs1⟩ := E
  unfold o_aload at h
  split at h
  · next x hi9 =>
    intro H locs ls hP hS hl
    exact lv_aload_n hx hb hd hi (q_lh_at hl hi9) (k _ _ _ h H locs ls hP hS hl)
  · exact h.elim
theorem so_aload (E : q_E J cc own Ts nL l R) {i : Nat} (hd : decode cc pc = .ok (.aload i, 2)) (h : o_aload i σ lv st K) (k : ∀ σ lv st, K σ lv st → J (pc + 2) σ lv st) : J pc σ lv st := by
  obtain ⟨p, e, s, m, args, below, meth, c, D, cy, A, ad, cells, slots, Q, rfl, ⟨hx, hb, hml, hown, hts⟩, hK, hD, hA, hN, hZ, hc1, hs1⟩ := E
  unfold o_aload at h
  split at h
  · next x hi9 =>
    intro H locs ls hP hS hl
    exact lv_aload hx hb hd (q_lh_at hl hi9) (k _ _ _ h H locs ls hP hS hl)
  · exact h.elim
def o_astore (i : Nat) (σ : q_M) (lv : q_L) (st : q_S) (K : q_K) : Prop := match st with
  | .inl x :: st => K σ (q_set1 i (.inl x) lv) st
  | _ => False
theorem so_astore_n (E : q_E J cc own Ts nL l R) {i : Nat} {n : Fin 4} (hi : (n : Nat) = i) (hn : i < nL) (hd : decode cc pc = .ok (.astore_n n, 1)) (h : o_astore i σ lv st K) (k : ∀ σ lv st, K σ lv st → J (pc + 1) σ lv st) : J pc σ lv st := by
  obtain ⟨p, e, s, m, args, below, meth, c, D, cy, A, ad, cells, slots, Q, rfl, ⟨hx, hb, hml, hown, hts⟩, hK, hD, hA, hN, hZ, hc1, hs1⟩ := E
  unfold o_astore at h
  split at h
  · next x st =>
    intro H locs ls hP hS hl
    change W p l e R s m args below meth c H locs cells slots Q (F0 m pc ls (.ref (ad x.1 x.2.1 x.2.2) :: st.map (q_tv ad)))
    refine lv_astore_n (nL := nL) (lv := q_lp ad 0 lv) hx hb hd hi hl hn rfl (fun ls1 hl1 => ?_)
    exact k _ _ _ h H locs ls1 hP hS (q_set1_ok (v := .inl x) hl1)
  · exact h.elim
theorem so_astore (E : q_E J cc own Ts nL l R) {i : Nat} (hn : i < nL) (hd : decode cc pc = .ok (.astore i, 2)) (h : o_astore i σ lv st K) (k : ∀ σ lv st, K σ lv st → J (pc + 2) σ lv st) : J pc σ lv st := by
  obtain ⟨p, e, s, m, args, below, meth, c, D, cy, A, ad, cells, slots, Q, rfl, ⟨hx, hb, hml, hown, hts⟩, hK, hD, hA, hN, hZ, hc1, hs1⟩ := E
  unfold o_astore at h
  split at h
  · next x st =>
    intro H locs ls hP hS hl
    change W p l e R s m args below meth c H locs cells slots Q (F0 m pc ls (.ref (ad x.1 x.2.1 x.2.2) :: st.map (q_tv ad)))
    refine lv_astore (nL := nL) (lv := q_lp ad 0 lv) hx hb hd hl hn rfl (fun ls1 hl1 => ?_)
    exact k _ _ _ h H locs ls1 hP hS (q_set1_ok (v := .inl x) hl1)
  · exact h.elim
def o_iinc (i : Nat) (n : Int) (σ : q_M) (lv : q_L) (st : q_S) (K : q_K) : Prop := match lv[i]? with
  | some (some (.inr (.inl x))) => K σ (q_set1 i (zI (x + n)) lv) st
  | _ => False
theorem so_iinc (E : q_E J cc own Ts nL l R) {i : Nat} {n : Int} (hn : i < nL) (hd : decode cc pc = .ok (.iinc i n, 3)) (h : o_iinc i n σ lv st K) (k : ∀ σ lv st, K σ lv st → J (pc + 3) σ lv st) : J pc σ lv st := by
  obtain ⟨p, e, s, m, args, below, meth, c, D, cy, A, ad, cells, slots, Q, rfl, ⟨hx, hb, hml, hown, hts⟩, hK, hD, hA, hN, hZ, hc1, hs1⟩ := E
  unfold o_iinc at h
  split at h
  · next x hi9 =>
    intro H locs ls hP hS hl
    have hm : (i, Value.int (iO x)) ∈ q_lp ad 0 lv := q_lp_mem.mpr ⟨i, zI x, (Nat.zero_add i).symm, hi9, rfl⟩
    obtain ⟨k9, hk9⟩ := List.mem_iff_getElem?.mp hm
    refine lv_iinc (nL := nL) (v := iO (x + n)) (lv := q_lp ad 0 lv) hx hb hd hl hk9 (iO_add x n) hn rfl (fun ls1 hl1 => ?_)
    exact k _ _ _ h H locs ls1 hP hS (q_set1_ok (v := zI (x + n)) hl1)
  · exact h.elim
def o_gets (p : Nat) (σ : q_M) (lv : q_L) (st : q_S) (K : q_K) : Prop := K σ lv (zR 0 p 0 :: st)
theorem so_gets (E : q_E J cc own Ts nL l R) {p idx : Nat} (hp : 0 < q_sn p) (hlink : Cond.fieldLink own idx "WheelDesk" (q_snm p) "[I" ∈ Ts) (hd : decode cc pc = .ok (.getstatic idx, 3)) (h : o_gets p σ lv st K) (k : ∀ σ lv st, K σ lv st → J (pc + 3) σ lv st) : J pc σ lv st := by
  obtain ⟨p, e, s, m, args, below, meth, c, D, cy, A, ad, cells, slots, Q, rfl, ⟨hx, hb, hml, hown, hts⟩, hK, hD, hA, hN, hZ, hc1, hs1⟩ := E
  intro H locs ls hP hS hl
  exact va_gets hx hb (hZ.1 _ hp).1 hS hown (hts _ hlink) (fun _ h9 => h9) hd (k _ _ _ h H locs ls hP hS hl)
def o_sald (σ : q_M) (lv : q_L) (st : q_S) (K : q_K) : Prop := match st with
  | .inr (.inl i) :: .inl r :: st => (r.1 = 0 ∧ r.2.2 = 0 ∧ 0 ≤ i ∧ i < q_sn r.2.1) ∧ K σ lv (zI (q_tbl r.2.1 i) :: st)
  | _ => False
theorem so_sald (E : q_E J cc own Ts nL l R) (hd : decode cc pc = .ok (.iaload, 1)) (h : o_sald σ lv st K) (k : ∀ σ lv st, K σ lv st → J (pc + 1) σ lv st) : J pc σ lv st := by
  obtain ⟨p, e, s, m, args, below, meth, c, D, cy, A, ad, cells, slots, Q, rfl, ⟨hx, hb, hml, hown, hts⟩, hK, hD, hA, hN, hZ, hc1, hs1⟩ := E
  unfold o_sald at h
  split at h
  · next i r st =>
    obtain ⟨⟨h0, h1, h2, h3⟩, h⟩ := h
    intro H locs ls hP hS hl
    obtain ⟨c0, p0, k0⟩ := r
    simp only at h0 h1 h3 h
    subst h0
    subst h1
    have hb5 : q_sn p0 ≤ 5 := by
      unfold q_sn
      split <;> decide
    refine va_ti hx hb (hZ.1 p0 (by omega)).2 hS (iO_in h2 h3 (by omega)) ?_ hd (k _ _ _ h H locs ls hP hS hl)
    rw [iO_clamp h2 ⟨by omega, by omega⟩, Int.toNat_of_nonneg h2]
    rfl
  · exact h.elim
def o_dup (σ : q_M) (lv : q_L) (st : q_S) (K : q_K) : Prop := match st with
  | v :: st => q_cat v = 1 ∧ K σ lv (v :: v :: st)
  | _ => False
theorem so_dup (E : q_E J cc own Ts nL l R) (hd : decode cc pc = .ok (.dup, 1)) (h : o_dup σ lv st K) (k : ∀ σ lv st, K σ lv st → J (pc + 1) σ lv st) : J pc σ lv st := by
  obtain ⟨p, e, s, m, args, below, meth, c, D, cy, A, ad, cells, slots, Q, rfl, ⟨hx, hb, hml, hown, hts⟩, hK, hD, hA, hN, hZ, hc1, hs1⟩ := E
  unfold o_dup at h
  split at h
  · next v st =>
    intro H locs ls hP hS hl
    exact lv_dup hx hb hd (by rw [q_cat_tv]; exact h.1) (k _ _ _ h.2 H locs ls hP hS hl)
  · exact h.elim
def o_dup2 (σ : q_M) (lv : q_L) (st : q_S) (K : q_K) : Prop := match st with
  | v :: u :: st => q_cat v = 1 ∧ q_cat u = 1 ∧ K σ lv (v :: u :: v :: u :: st)
  | _ => False
theorem so_dup2 (E : q_E J cc own Ts nL l R) (hd : decode cc pc = .ok (.dup2, 1)) (h : o_dup2 σ lv st K) (k : ∀ σ lv st, K σ lv st → J (pc + 1) σ lv st) : J pc σ lv st := by
  obtain ⟨p, e, s, m, args, below, meth, c, D, cy, A, ad, cells, slots, Q, rfl, ⟨hx, hb, hml, hown, hts⟩, hK, hD, hA, hN, hZ, hc1, hs1⟩ := E
  unfold o_dup2 at h
  split at h
  · next v u st =>
    intro H locs ls hP hS hl
    exact lv_dup2_11 hx hb hd (by rw [q_cat_tv]; exact h.1) (by rw [q_cat_tv]; exact h.2.1) (k _ _ _ h.2.2 H locs ls hP hS hl)
  · exact h.elim
def o_dup2l (σ : q_M) (lv : q_L) (st : q_S) (K : q_K) : Prop := match st with
  | v :: st => q_cat v = 2 ∧ K σ lv (v :: v :: st)
  | _ => False
theorem so_dup2l (E : q_E J cc own Ts nL l R) (hd : decode cc pc = .ok (.dup2, 1)) (h : o_dup2l σ lv st K) (k : ∀ σ lv st, K σ lv st → J (pc + 1) σ lv st) : J pc σ lv st := by
  obtain ⟨p, e, s, m, args, below, meth, c, D, cy, A, ad, cells, slots, Q, rfl, ⟨hx, hb, hml, hown, hts⟩, hK, hD, hA, hN, hZ, hc1, hs1⟩ := E
  unfold o_dup2l at h
  split at h
  · next v st =>
    intro H locs ls hP hS hl
    exact lv_dup2_2 hx hb hd (by rw [q_cat_tv]; exact h.1) (k _ _ _ h.2 H locs ls hP hS hl)
  · exact h.elim
def o_ifeq (Kt : q_K) (σ : q_M) (lv : q_L) (st : q_S) (K : q_K) : Prop := match st with
  | .inr (.inl x) :: st => q_i32 x ∧ (x = 0 → Kt σ lv st) ∧ (¬ (x = 0) → K σ lv st)
  | _ => False
theorem so_ifeq (E : q_E J cc own Ts nL l R) {Kt : q_K} {off : Int} (tgt : Nat) (ht : (pc : Int) + off = (tgt : Int)) (hd : decode cc pc = .ok (.ifCond .eq off, 3)) (kt : ∀ σ lv st, Kt σ lv st → J tgt σ lv st) (h : o_ifeq Kt σ lv st K) (k : ∀ σ lv st, K σ lv st → J (pc + 3) σ lv st) : J pc σ lv st := by
  obtain ⟨p, e, s, m, args, below, meth, c, D, cy, A, ad, cells, slots, Q, rfl, ⟨hx, hb, hml, hown, hts⟩, hK, hD, hA, hN, hZ, hc1, hs1⟩ := E
  unfold o_ifeq at h
  split at h
  · next x st =>
    intro H locs ls hP hS hl
    have hc : iO x = 0 ↔ x = 0 := (by rw [iO_0]; exact iO_inj h.1 q_i32_0)
    exact lv_if_eq (tgt := tgt) hx hb hd ht (fun q => kt _ _ _ (h.2.1 (hc.mp q)) H locs ls hP hS hl) (fun q => k _ _ _ (h.2.2 (fun z => q (hc.mpr z))) H locs ls hP hS hl)
  · exact h.elim
def o_icmpeq (Kt : q_K) (σ : q_M) (lv : q_L) (st : q_S) (K : q_K) : Prop := match st with
  | .inr (.inl y) :: .inr (.inl x) :: st => (x = y ∨ (q_i32 x ∧ q_i32 y)) ∧ (x = y → Kt σ lv st) ∧ (¬ (x = y) → K σ lv st)
  | _ => False
theorem so_icmpeq (E : q_E J cc own Ts nL l R) {Kt : q_K} {off : Int} (tgt : Nat) (ht : (pc : Int) + off = (tgt : Int)) (hd : decode cc pc = .ok (.if_icmp .eq off, 3)) (kt : ∀ σ lv st, Kt σ lv st → J tgt σ lv st) (h : o_icmpeq Kt σ lv st K) (k : ∀ σ lv st, K σ lv st → J (pc + 3) σ lv st) : J pc σ lv st := by
  obtain ⟨p, e, s, m, args, below, meth, c, D, cy, A, ad, cells, slots, Q, rfl, ⟨hx, hb, hml, hown, hts⟩, hK, hD, hA, hN, hZ, hc1, hs1⟩ := E
  unfold o_icmpeq at h
  split at h
  · next y x st =>
    intro H locs ls hP hS hl
    have hc : iO x = iO y ↔ x = y := by
      rcases h.1 with rfl | z
      · simp
      · exact iO_inj z.1 z.2
    exact lv_icmp_eq (tgt := tgt) hx hb hd ht (fun q => kt _ _ _ (h.2.1 (hc.mp q)) H locs ls hP hS hl) (fun q => k _ _ _ (h.2.2 (fun z => q (hc.mpr z))) H locs ls hP hS hl)
  · exact h.elim
def o_ifne (Kt : q_K) (σ : q_M) (lv : q_L) (st : q_S) (K : q_K) : Prop := match st with
  | .inr (.inl x) :: st => q_i32 x ∧ (¬ x = 0 → Kt σ lv st) ∧ (x = 0 → K σ lv st)
  | _ => False
theorem so_ifne (E : q_E J cc own Ts nL l R) {Kt : q_K} {off : Int} (tgt : Nat) (ht : (pc : Int) + off = (tgt : Int)) (hd : decode cc pc = .ok (.ifCond .ne off, 3)) (kt : ∀ σ lv st, Kt σ lv st → J tgt σ lv st) (h : o_ifne Kt σ lv st K) (k : ∀ σ lv st, K σ lv st → J (pc + 3) σ lv st) : J pc σ lv st := by
  obtain ⟨p, e, s, m, args, below, meth, c, D, cy, A, ad, cells, slots, Q, rfl, ⟨hx, hb, hml, hown, hts⟩, hK, hD, hA, hN, hZ, hc1, hs1⟩ := E
  unfold o_ifne at h
  split at h
  · next x st =>
    intro H locs ls hP hS hl
    have hc : ¬ iO x = 0 ↔ ¬ x = 0 := (not_congr (by rw [iO_0]; exact iO_inj h.1 q_i32_0))
    exact lv_if_ne (tgt := tgt) hx hb hd ht (fun q => kt _ _ _ (h.2.1 (hc.mp q)) H locs ls hP hS hl) (fun q => k _ _ _ (h.2.2 (Decidable.not_not.mp (fun z => (hc.mpr z) q))) H locs ls hP hS hl)
  · exact h.elim
def o_icmpne (Kt : q_K) (σ : q_M) (lv : q_L) (st : q_S) (K : q_K) : Prop := match st with
  | .inr (.inl y) :: .inr (.inl x) :: st => (x = y ∨ (q_i32 x ∧ q_i32 y)) ∧ (¬ x = y → Kt σ lv st) ∧ (x = y → K σ lv st)
  | _ => False
theorem so_icmpne (E : q_E J cc own Ts nL l R) {Kt : q_K} {off : Int} (tgt : Nat) (ht : (pc : Int) + off = (tgt : Int)) (hd : decode cc pc = .ok (.if_icmp .ne off, 3)) (kt : ∀ σ lv st, Kt σ lv st → J tgt σ lv st) (h : o_icmpne Kt σ lv st K) (k : ∀ σ lv st, K σ lv st → J (pc + 3) σ lv st) : J pc σ lv st := by
  obtain ⟨p, e, s, m, args, below, meth, c, D, cy, A, ad, cells, slots, Q, rfl, ⟨hx, hb, hml, hown, hts⟩, hK, hD, hA, hN, hZ, hc1, hs1⟩ := E
  unfold o_icmpne at h
  split at h
  · next y x st =>
    intro H locs ls hP hS hl
    have hc : ¬ iO x = iO y ↔ ¬ x = y := by
      rcases h.1 with rfl | z
      · simp
      · exact not_congr (iO_inj z.1 z.2)
    exact lv_icmp_ne (tgt := tgt) hx hb hd ht (fun q => kt _ _ _ (h.2.1 (hc.mp q)) H locs ls hP hS hl) (fun q => k _ _ _ (h.2.2 (Decidable.not_not.mp (fun z => (hc.mpr z) q))) H locs ls hP hS hl)
  · exact h.elim
def o_iflt (Kt : q_K) (σ : q_M) (lv : q_L) (st : q_S) (K : q_K) : Prop := match st with
  | .inr (.inl x) :: st => q_i32 x ∧ (x < 0 → Kt σ lv st) ∧ (¬ (x < 0) → K σ lv st)
  | _ => False
theorem so_iflt (E : q_E J cc own Ts nL l R) {Kt : q_K} {off : Int} (tgt : Nat) (ht : (pc : Int) + off = (tgt : Int)) (hd : decode cc pc = .ok (.ifCond .lt off, 3)) (kt : ∀ σ lv st, Kt σ lv st → J tgt σ lv st) (h : o_iflt Kt σ lv st K) (k : ∀ σ lv st, K σ lv st → J (pc + 3) σ lv st) : J pc σ lv st := by
  obtain ⟨p, e, s, m, args, below, meth, c, D, cy, A, ad, cells, slots, Q, rfl, ⟨hx, hb, hml, hown, hts⟩, hK, hD, hA, hN, hZ, hc1, hs1⟩ := E
  unfold o_iflt at h
  split at h
  · next x st =>
    intro H locs ls hP hS hl
    have hc : iO x < 0 ↔ x < 0 := (by rw [iO_0]; exact iO_lt h.1 q_i32_0)
    exact lv_if_lt (tgt := tgt) hx hb hd ht (fun q => kt _ _ _ (h.2.1 (hc.mp q)) H locs ls hP hS hl) (fun q => k _ _ _ (h.2.2 (fun z => q (hc.mpr z))) H locs ls hP hS hl)
  · exact h.elim
def o_icmplt (Kt : q_K) (σ : q_M) (lv : q_L) (st : q_S) (K : q_K) : Prop := match st with
  | .inr (.inl y) :: .inr (.inl x) :: st => (x = y ∨ (q_i32 x ∧ q_i32 y)) ∧ (x < y → Kt σ lv st) ∧ (¬ (x < y) → K σ lv st)
  | _ => False
theorem so_icmplt (E : q_E J cc own Ts nL l R) {Kt : q_K} {off : Int} (tgt : Nat) (ht : (pc : Int) + off = (tgt : Int)) (hd : decode cc pc = .ok (.if_icmp .lt off, 3)) (kt : ∀ σ lv st, Kt σ lv st → J tgt σ lv st) (h : o_icmplt Kt σ lv st K) (k : ∀ σ lv st, K σ lv st → J (pc + 3) σ lv st) : J pc σ lv st := by
  obtain ⟨p, e, s, m, args, below, meth, c, D, cy, A, ad, cells, slots, Q, rfl, ⟨hx, hb, hml, hown, hts⟩, hK, hD, hA, hN, hZ, hc1, hs1⟩ := E
  unfold o_icmplt at h
  split at h
  · next y x st =>
    intro H locs ls hP hS hl
    have hc : iO x < iO y ↔ x < y := by
      rcases h.1 with rfl | z
      · simp
      · exact iO_lt z.1 z.2
    exact lv_icmp_lt (tgt := tgt) hx hb hd ht (fun q => kt _ _ _ (h.2.1 (hc.mp q)) H locs ls hP hS hl) (fun q => k _ _ _ (h.2.2 (fun z => q (hc.mpr z))) H locs ls hP hS hl)
  · exact h.elim
def o_ifge (Kt : q_K) (σ : q_M) (lv : q_L) (st : q_S) (K : q_K) : Prop := match st with
  | .inr (.inl x) :: st => q_i32 x ∧ (0 ≤ x → Kt σ lv st) ∧ (¬ (0 ≤ x) → K σ lv st)
  | _ => False
theorem so_ifge (E : q_E J cc own Ts nL l R) {Kt : q_K} {off : Int} (tgt : Nat) (ht : (pc : Int) + off = (tgt : Int)) (hd : decode cc pc = .ok (.ifCond .ge off, 3)) (kt : ∀ σ lv st, Kt σ lv st → J tgt σ lv st) (h : o_ifge Kt σ lv st K) (k : ∀ σ lv st, K σ lv st → J (pc + 3) σ lv st) : J pc σ lv st := by
  obtain ⟨p, e, s, m, args, below, meth, c, D, cy, A, ad, cells, slots, Q, rfl, ⟨hx, hb, hml, hown, hts⟩, hK, hD, hA, hN, hZ, hc1, hs1⟩ := E
  unfold o_ifge at h
  split at h
  · next x st =>
    intro H locs ls hP hS hl
    have hc : 0 ≤ iO x ↔ 0 ≤ x := (by rw [iO_0]; exact iO_le q_i32_0 h.1)
    exact lv_if_ge (tgt := tgt) hx hb hd ht (fun q => kt _ _ _ (h.2.1 (hc.mp q)) H locs ls hP hS hl) (fun q => k _ _ _ (h.2.2 (fun z => q (hc.mpr z))) H locs ls hP hS hl)
  · exact h.elim
def o_icmpge (Kt : q_K) (σ : q_M) (lv : q_L) (st : q_S) (K : q_K) : Prop := match st with
  | .inr (.inl y) :: .inr (.inl x) :: st => (x = y ∨ (q_i32 x ∧ q_i32 y)) ∧ (y ≤ x → Kt σ lv st) ∧ (¬ (y ≤ x) → K σ lv st)
  | _ => False
theorem so_icmpge (E : q_E J cc own Ts nL l R) {Kt : q_K} {off : Int} (tgt : Nat) (ht : (pc : Int) + off = (tgt : Int)) (hd : decode cc pc = .ok (.if_icmp .ge off, 3)) (kt : ∀ σ lv st, Kt σ lv st → J tgt σ lv st) (h : o_icmpge Kt σ lv st K) (k : ∀ σ lv st, K σ lv st → J (pc + 3) σ lv st) : J pc σ lv st := by
  obtain ⟨p, e, s, m, args, below, meth, c, D, cy, A, ad, cells, slots, Q, rfl, ⟨hx, hb, hml, hown, hts⟩, hK, hD, hA, hN, hZ, hc1, hs1⟩ := E
  unfold o_icmpge at h
  split at h
  · next y x st =>
    intro H locs ls hP hS hl
    have hc : iO y ≤ iO x ↔ y ≤ x := by
      rcases h.1 with rfl | z
      · simp
      · exact iO_le z.2 z.1
    exact lv_icmp_ge (tgt := tgt) hx hb hd ht (fun q => kt _ _ _ (h.2.1 (hc.mp q)) H locs ls hP hS hl) (fun q => k _ _ _ (h.2.2 (fun z => q (hc.mpr z))) H locs ls hP hS hl)
  · exact h.elim
def o_ifgt (Kt : q_K) (σ : q_M) (lv : q_L) (st : q_S) (K : q_K) : Prop := match st with
  | .inr (.inl x) :: st => q_i32 x ∧ (0 < x → Kt σ lv st) ∧ (¬ (0 < x) → K σ lv st)
  | _ => False
theorem so_ifgt (E : q_E J cc own Ts nL l R) {Kt : q_K} {off : Int} (tgt : Nat) (ht : (pc : Int) + off = (tgt : Int)) (hd : decode cc pc = .ok (.ifCond .gt off, 3)) (kt : ∀ σ lv st, Kt σ lv st → J tgt σ lv st) (h : o_ifgt Kt σ lv st K) (k : ∀ σ lv st, K σ lv st → J (pc + 3) σ lv st) : J pc σ lv st := by
  obtain ⟨p, e, s, m, args, below, meth, c, D, cy, A, ad, cells, slots, Q, rfl, ⟨hx, hb, hml, hown, hts⟩, hK, hD, hA, hN, hZ, hc1, hs1⟩ := E
  unfold o_ifgt at h
  split at h
  · next x st =>
    intro H locs ls hP hS hl
    have hc : 0 < iO x ↔ 0 < x := (by rw [iO_0]; exact iO_lt q_i32_0 h.1)
    exact lv_if_gt (tgt := tgt) hx hb hd ht (fun q => kt _ _ _ (h.2.1 (hc.mp q)) H locs ls hP hS hl) (fun q => k _ _ _ (h.2.2 (fun z => q (hc.mpr z))) H locs ls hP hS hl)
  · exact h.elim
def o_icmpgt (Kt : q_K) (σ : q_M) (lv : q_L) (st : q_S) (K : q_K) : Prop := match st with
  | .inr (.inl y) :: .inr (.inl x) :: st => (x = y ∨ (q_i32 x ∧ q_i32 y)) ∧ (y < x → Kt σ lv st) ∧ (¬ (y < x) → K σ lv st)
  | _ => False
theorem so_icmpgt (E : q_E J cc own Ts nL l R) {Kt : q_K} {off : Int} (tgt : Nat) (ht : (pc : Int) + off = (tgt : Int)) (hd : decode cc pc = .ok (.if_icmp .gt off, 3)) (kt : ∀ σ lv st, Kt σ lv st → J tgt σ lv st) (h : o_icmpgt Kt σ lv st K) (k : ∀ σ lv st, K σ lv st → J (pc + 3) σ lv st) : J pc σ lv st := by
  obtain ⟨p, e, s, m, args, below, meth, c, D, cy, A, ad, cells, slots, Q, rfl, ⟨hx, hb, hml, hown, hts⟩, hK, hD, hA, hN, hZ, hc1, hs1⟩ := E
  unfold o_icmpgt at h
  split at h
  · next y x st =>
    intro H locs ls hP hS hl
    have hc : iO y < iO x ↔ y < x := by
      rcases h.1 with rfl | z
      · simp
      · exact iO_lt z.2 z.1
    exact lv_icmp_gt (tgt := tgt) hx hb hd ht (fun q => kt _ _ _ (h.2.1 (hc.mp q)) H locs ls hP hS hl) (fun q => k _ _ _ (h.2.2 (fun z => q (hc.mpr z))) H locs ls hP hS hl)
  · exact h.elim
def o_ifle (Kt : q_K) (σ : q_M) (lv : q_L) (st : q_S) (K : q_K) : Prop := match st with
  | .inr (.inl x) :: st => q_i32 x ∧ (x ≤ 0 → Kt σ lv st) ∧ (¬ (x ≤ 0) → K σ lv st)
  | _ => False
theorem so_ifle (E : q_E J cc own Ts nL l R) {Kt : q_K} {off : Int} (tgt : Nat) (ht : (pc : Int) + off = (tgt : Int)) (hd : decode cc pc = .ok (.ifCond .le off, 3)) (kt : ∀ σ lv st, Kt σ lv st → J tgt σ lv st) (h : o_ifle Kt σ lv st K) (k : ∀ σ lv st, K σ lv st → J (pc + 3) σ lv st) : J pc σ lv st := by
  obtain ⟨p, e, s, m, args, below, meth, c, D, cy, A, ad, cells, slots, Q, rfl, ⟨hx, hb, hml, hown, hts⟩, hK, hD, hA, hN, hZ, hc1, hs1⟩ := E
  unfold o_ifle at h
  split at h
  · next x st =>
    intro H locs ls hP hS hl
    have hc : iO x ≤ 0 ↔ x ≤ 0 := (by rw [iO_0]; exact iO_le h.1 q_i32_0)
    exact lv_if_le (tgt := tgt) hx hb hd ht (fun q => kt _ _ _ (h.2.1 (hc.mp q)) H locs ls hP hS hl) (fun q => k _ _ _ (h.2.2 (fun z => q (hc.mpr z))) H locs ls hP hS hl)
  · exact h.elim
def o_icmple (Kt : q_K) (σ : q_M) (lv : q_L) (st : q_S) (K : q_K) : Prop := match st with
  | .inr (.inl y) :: .inr (.inl x) :: st => (x = y ∨ (q_i32 x ∧ q_i32 y)) ∧ (x ≤ y → Kt σ lv st) ∧ (¬ (x ≤ y) → K σ lv st)
  | _ => False
theorem so_icmple (E : q_E J cc own Ts nL l R) {Kt : q_K} {off : Int} (tgt : Nat) (ht : (pc : Int) + off = (tgt : Int)) (hd : decode cc pc = .ok (.if_icmp .le off, 3)) (kt : ∀ σ lv st, Kt σ lv st → J tgt σ lv st) (h : o_icmple Kt σ lv st K) (k : ∀ σ lv st, K σ lv st → J (pc + 3) σ lv st) : J pc σ lv st := by
  obtain ⟨p, e, s, m, args, below, meth, c, D, cy, A, ad, cells, slots, Q, rfl, ⟨hx, hb, hml, hown, hts⟩, hK, hD, hA, hN, hZ, hc1, hs1⟩ := E
  unfold o_icmple at h
  split at h
  · next y x st =>
    intro H locs ls hP hS hl
    have hc : iO x ≤ iO y ↔ x ≤ y := by
      rcases h.1 with rfl | z
      · simp
      · exact iO_le z.1 z.2
    exact lv_icmp_le (tgt := tgt) hx hb hd ht (fun q => kt _ _ _ (h.2.1 (hc.mp q)) H locs ls hP hS hl) (fun q => k _ _ _ (h.2.2 (fun z => q (hc.mpr z))) H locs ls hP hS hl)
  · exact h.elim
def o_goto (Kt : q_K) (σ : q_M) (lv : q_L) (st : q_S) : Prop := Kt σ lv st
theorem so_goto (E : q_E J cc own Ts nL l R) {Kt : q_K} {off : Int} (tgt : Nat) (ht : (pc : Int) + off = (tgt : Int)) (hd : decode cc pc = .ok (.goto off, 3)) (kt : ∀ σ lv st, Kt σ lv st → J tgt σ lv st) (h : o_goto Kt σ lv st) : J pc σ lv st := by
  obtain ⟨p, e, s, m, args, below, meth, c, D, cy, A, ad, cells, slots, Q, rfl, ⟨hx, hb, hml, hown, hts⟩, hK, hD, hA, hN, hZ, hc1, hs1⟩ := E
  intro H locs ls hP hS hl
  exact lv_goto (tgt := tgt) hx hb hd ht (kt _ _ _ h H locs ls hP hS hl)
def q_case : Int → Int → List q_K → q_K
  | _, _, [] => fun _ _ _ => True
  | x, n, Kt :: Ks => fun σ lv st => (x = n → Kt σ lv st) ∧ q_case x (n + 1) Ks σ lv st
def q_all (J : Nat → q_K) : List q_K → List Nat → Prop
  | [], [] => True
  | Kt :: Ks, t :: ts => (∀ σ lv st, Kt σ lv st → J t σ lv st) ∧ q_all J Ks ts
  | _, _ => False
theorem q_case_at {J : Nat → q_K} {x : Int} : ∀ {Ks : List q_K} {ts : List Nat} {n : Int}, q_case x n Ks σ lv st → q_all J Ks ts → ∀ i : Nat, x = n + i → i < ts.length → ∃ t, ts[i]? = some t ∧ J t σ lv st := by
  intro Ks
  induction Ks with
  | nil =>
    intro ts n _ ha i _ hi
    cases ts with
    | nil => exact absurd hi (Nat.not_lt_zero _)
    | cons t ts => exact ha.elim
  | cons Kt Ks ih =>
    intro ts n hc ha i hx hi
    cases ts with
    | nil => exact absurd hi (Nat.not_lt_zero _)
    | cons t ts =>
      cases i with
      | zero => exact ⟨t, rfl, ha.1 _ _ _ (hc.1 (by omega))⟩
      | succ i =>
        obtain ⟨t', h1, h2⟩ := ih hc.2 ha.2 i (by omega) (by simpa using hi)
        exact ⟨t', h1, h2⟩
def o_tsw (lo hi : Int) (Kd : q_K) (Ks : List q_K) (σ : q_M) (lv : q_L) (st : q_S) : Prop := match st with
  | .inr (.inl x) :: st => q_i32 x ∧ (x < lo ∨ hi < x → Kd σ lv st) ∧ q_case x lo Ks σ lv st
  | _ => False
theorem so_tsw (E : q_E J cc own Ts nL l R) {Kd : q_K} {Ks : List q_K} {dflt lo hi : Int} {offs : Array Int} {len : Nat} (dt : Nat) (ts : List Nat) (hdt : (pc : Int) + dflt = (dt : Int)) (hlen : hi = lo + ts.length - 1) (hto : ∀ (i t : Nat), ts[i]? = some t → ∃ off, offs[i]? = some off ∧ (pc : Int) + off = (t : Int)) (hd : decode cc pc = .ok (.tableswitch dflt lo hi offs, len)) (kd : ∀ σ lv st, Kd σ lv st → J dt σ lv st) (ka : q_all J Ks ts) (h : o_tsw lo hi Kd Ks σ lv st) : J pc σ lv st := by
  obtain ⟨p, e, s, m, args, below, meth, c, D, cy, A, ad, cells, slots, Q, rfl, ⟨hx, hb, hml, hown, hts⟩, hK, hD, hA, hN, hZ, hc1, hs1⟩ := E
  unfold o_tsw at h
  split at h
  · next x st =>
    intro H locs ls hP hS hl
    obtain ⟨h1, h2, h3⟩ := h
    by_cases q : x < lo ∨ hi < x
    · exact lv_tableOut (tgt := dt) hx hb hd (by rw [iO_toInt h1]; exact q) hdt (kd _ _ _ (h2 q) H locs ls hP hS hl)
    · obtain ⟨t, ht, g⟩ := q_case_at h3 ka (x - lo).toNat (by omega) (by omega)
      obtain ⟨off, ho, ht2⟩ := hto _ _ ht
      exact lv_tableIn (tgt := t) (off := off) hx hb hd (by rw [iO_toInt h1]; omega) (by rw [iO_toInt h1]; omega) (by rw [iO_toInt h1]; exact ho) ht2 (g H locs ls hP hS hl)
  · exact h.elim
def o_iret (Qp : Option q_V → q_M → Prop) (σ : q_M) (lv : q_L) (st : q_S) : Prop := match st with
  | [.inr (.inl x)] => q_out Qp (some (zI x)) σ
  | _ => False
theorem so_iret {Qp : Option q_V → q_M → Prop} (T : q_T J cc (some .int) Qp) (hd : decode cc pc = .ok (.ireturn, 1)) (h : o_iret Qp σ lv st) : J pc σ lv st := by
  unfold o_iret at h
  split at h
  · exact T.1 _ _ _ _ rfl hd h
  · exact h.elim
def o_zret (Qp : Option q_V → q_M → Prop) (σ : q_M) (lv : q_L) (st : q_S) : Prop := match st with
  | [.inr (.inl x)] => (x = 0 ∨ x = 1) ∧ q_out Qp (some (zI x)) σ
  | _ => False
theorem so_zret {Qp : Option q_V → q_M → Prop} (T : q_T J cc (some .boolean) Qp) (hd : decode cc pc = .ok (.ireturn, 1)) (h : o_zret Qp σ lv st) : J pc σ lv st := by
  unfold o_zret at h
  split at h
  · exact T.2.1 _ _ _ _ rfl hd h.1 h.2
  · exact h.elim
def o_lret (Qp : Option q_V → q_M → Prop) (σ : q_M) (lv : q_L) (st : q_S) : Prop := match st with
  | [.inr (.inr (.inl x))] => q_out Qp (some (zL x)) σ
  | _ => False
theorem so_lret {Qp : Option q_V → q_M → Prop} (T : q_T J cc (some .long) Qp) (hd : decode cc pc = .ok (.lreturn, 1)) (h : o_lret Qp σ lv st) : J pc σ lv st := by
  unfold o_lret at h
  split at h
  · exact T.2.2.1 _ _ _ _ rfl hd h
  · exact h.elim
def o_fret (Qp : Option q_V → q_M → Prop) (σ : q_M) (lv : q_L) (st : q_S) : Prop := match st with
  | [.inr (.inr (.inr (.inl x)))] => q_out Qp (some (zF x)) σ
  | _ => False
theorem so_fret {Qp : Option q_V → q_M → Prop} (T : q_T J cc (some .float) Qp) (hd : decode cc pc = .ok (.freturn, 1)) (h : o_fret Qp σ lv st) : J pc σ lv st := by
  unfold o_fret at h
  split at h
  · exact T.2.2.2.1 _ _ _ _ rfl hd h
  · exact h.elim
def o_vret (Qp : Option q_V → q_M → Prop) (σ : q_M) (lv : q_L) (st : q_S) : Prop := st = [] ∧ q_out Qp none σ
theorem so_vret {Qp : Option q_V → q_M → Prop} (T : q_T J cc none Qp) (hd : decode cc pc = .ok (.return_, 1)) (h : o_vret Qp σ lv st) : J pc σ lv st := by
  obtain ⟨rfl, h⟩ := h
  exact T.2.2.2.2 _ _ _ rfl hd h
theorem so_C (E : q_E J cc own Ts nL l R) : q_C J := by
  obtain ⟨p, e, s, m, args, below, meth, c, D, cy, A, ad, cells, slots, Q, rfl, ⟨hx, hb, hml, hown, hts⟩, hK, hD, hA, hN, hZ, hc1, hs1⟩ := E
  intro t σ σ' lv lv' st h1 h2 h3 H locs ls hP hS hl
  exact h3 H locs ls (q_P_leq h1 hP) hS (q_lh_sub hl h2)
end QOPS
