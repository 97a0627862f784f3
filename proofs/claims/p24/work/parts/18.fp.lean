/-! ===== floats and doubles that are numbers ===== -/
theorem q_c32 : FP.Core.Fmt.tails FP.Core.b32 = 8388608 ∧ FP.Core.Fmt.exps FP.Core.b32 = 256 ∧ FP.Core.Fmt.qmin FP.Core.b32 = -149 ∧ FP.Core.Fmt.qmax FP.Core.b32 = 104 ∧ 2 ^ (FP.Core.b32).p = 16777216 := by decide +kernel
/-- an encoding that is no NaN -/
def q_ok32 (n : Nat) : Prop := ∃ s e t : Nat, s ≤ 1 ∧ t < 8388608 ∧ (e < 255 ∨ (e = 255 ∧ t = 0)) ∧ n = (s * 256 + e) * 8388608 + t
theorem q_ok32_n {n : Nat} (h : q_ok32 n) : vf_n32 (UInt32.ofNat n) := by
  obtain ⟨s, e, t, hs, ht, he, rfl⟩ := h
  unfold vf_n32
  rw [UInt32.le_iff_toNat_le, UInt32.toNat_and, UInt32.toNat_ofNat']
  have e1 : (2147483647 : UInt32).toNat = 2 ^ 31 - 1 := by decide +kernel
  have e2 : (2139095040 : UInt32).toNat = 2139095040 := by decide +kernel
  rw [e1, e2, Nat.and_two_pow_sub_one_eq_mod]
  have hs2 : s = 0 ∨ s = 1 := by omega
  rcases hs2 with rfl | rfl <;> omega
theorem q_asm32 (s : Bool) (e t : Nat) (ht : t < 8388608) (he : e < 255 ∨ (e = 255 ∧ t = 0)) : q_ok32 (FP.Core.assemble FP.Core.b32 s e t) := by
  refine ⟨s.toNat, e, t, by cases s <;> decide, ht, he, ?_⟩
  unfold FP.Core.assemble
  rw [q_c32.1, q_c32.2.1]
theorem q_enc32_inf (s : Bool) : q_ok32 (FP.Core.encode FP.Core.b32 (.inf s)) := by
  unfold FP.Core.encode
  (try dsimp only)
  rw [q_c32.2.1]
  exact q_asm32 _ _ _ (by decide) (Or.inr ⟨rfl, rfl⟩)
theorem q_enc32_fin (s : Bool) (c : Nat) (q : Int) (hc : c < 16777216) (hq : q ≤ 104) : q_ok32 (FP.Core.encode FP.Core.b32 (.fin s c q)) := by
  unfold FP.Core.encode
  (try dsimp only)
  rw [q_c32.1, q_c32.2.2.1]
  split
  · next h => exact q_asm32 _ _ _ h (Or.inl (by decide))
  · next h => exact q_asm32 _ _ _ (by omega) (Or.inl (by omega))
theorem q_set32 (s : Bool) (c : Nat) (q : Int) : q_ok32 (FP.Core.encode FP.Core.b32 (FP.Core.settle FP.Core.b32 s c q)) := by
  unfold FP.Core.settle
  rw [q_c32.2.2.2.2]
  split
  · next h =>
    unfold FP.Core.bound
    rw [q_c32.2.2.2.1]
    split
    · next h2 => exact q_enc32_fin _ _ _ h h2
    · exact q_enc32_inf _
  · unfold FP.Core.bound
    rw [q_c32.2.2.2.1, q_c32.1]
    split
    · next h2 => exact q_enc32_fin _ _ _ (by decide) h2
    · exact q_enc32_inf _
theorem q_rr32 (s : Bool) (num den : Nat) (e : Int) : q_ok32 (FP.Core.encode FP.Core.b32 (FP.Core.roundRatio FP.Core.b32 s num den e)) := by
  unfold FP.Core.roundRatio
  split
  · rw [q_c32.2.2.1]
    exact q_enc32_fin _ _ _ (by decide) (by decide)
  · exact q_set32 _ _ _
theorem q_flds32 {s e t : Nat} (hs : s ≤ 1) (ht : t < 8388608) (he : e < 256) : FP.Core.fieldE FP.Core.b32 ((s * 256 + e) * 8388608 + t) = e ∧ FP.Core.fieldT FP.Core.b32 ((s * 256 + e) * 8388608 + t) = t := by
  unfold FP.Core.fieldE FP.Core.fieldT
  rw [q_c32.1, q_c32.2.1]
  have hs2 : s = 0 ∨ s = 1 := by omega
  rcases hs2 with rfl | rfl <;> omega
theorem q_dec32 {n : Nat} (h : q_ok32 n) : ¬ FP.Core.decode FP.Core.b32 n = .nan := by
  obtain ⟨s, e, t, hs, ht, he, rfl⟩ := h
  obtain ⟨h1, h2⟩ := q_flds32 hs ht (show e < 256 by omega)
  unfold FP.Core.decode
  rw [h1, h2, q_c32.2.1]
  split
  · rw [if_pos (by omega)]
    intro q
    cases q
  · split <;> (intro q; cases q)
theorem q_lt32 {n : Nat} (h : q_ok32 n) : (UInt32.ofNat n).toNat = n := by
  obtain ⟨s, e, t, hs, ht, he, rfl⟩ := h
  rw [UInt32.toNat_ofNat']
  have hs2 : s = 0 ∨ s = 1 := by omega
  rcases hs2 with rfl | rfl <;> omega
theorem q_c64 : FP.Core.Fmt.tails FP.Core.b64 = 4503599627370496 ∧ FP.Core.Fmt.exps FP.Core.b64 = 2048 ∧ FP.Core.Fmt.qmin FP.Core.b64 = -1074 ∧ FP.Core.Fmt.qmax FP.Core.b64 = 971 ∧ 2 ^ (FP.Core.b64).p = 9007199254740992 := by decide +kernel
/-- an encoding that is no NaN -/
def q_ok64 (n : Nat) : Prop := ∃ s e t : Nat, s ≤ 1 ∧ t < 4503599627370496 ∧ (e < 2047 ∨ (e = 2047 ∧ t = 0)) ∧ n = (s * 2048 + e) * 4503599627370496 + t
theorem q_ok64_n {n : Nat} (h : q_ok64 n) : vf_n64 (UInt64.ofNat n) := by
  obtain ⟨s, e, t, hs, ht, he, rfl⟩ := h
  unfold vf_n64
  rw [UInt64.le_iff_toNat_le, UInt64.toNat_and, UInt64.toNat_ofNat']
  have e1 : (9223372036854775807 : UInt64).toNat = 2 ^ 63 - 1 := by decide +kernel
  have e2 : (9218868437227405312 : UInt64).toNat = 9218868437227405312 := by decide +kernel
  rw [e1, e2, Nat.and_two_pow_sub_one_eq_mod]
  have hs2 : s = 0 ∨ s = 1 := by omega
  rcases hs2 with rfl | rfl <;> omega
theorem q_asm64 (s : Bool) (e t : Nat) (ht : t < 4503599627370496) (he : e < 2047 ∨ (e = 2047 ∧ t = 0)) : q_ok64 (FP.Core.assemble FP.Core.b64 s e t) := by
  refine ⟨s.toNat, e, t, by cases s <;> decide, ht, he, ?_⟩
  unfold FP.Core.assemble
  rw [q_c64.1, q_c64.2.1]
theorem q_enc64_inf (s : Bool) : q_ok64 (FP.Core.encode FP.Core.b64 (.inf s)) := by
  unfold FP.Core.encode
  (try dsimp only)
  rw [q_c64.2.1]
  exact q_asm64 _ _ _ (by decide) (Or.inr ⟨rfl, rfl⟩)
theorem q_enc64_fin (s : Bool) (c : Nat) (q : Int) (hc : c < 9007199254740992) (hq : q ≤ 971) : q_ok64 (FP.Core.encode FP.Core.b64 (.fin s c q)) := by
  unfold FP.Core.encode
  (try dsimp only)
  rw [q_c64.1, q_c64.2.2.1]
  split
  · next h => exact q_asm64 _ _ _ h (Or.inl (by decide))
  · next h => exact q_asm64 _ _ _ (by omega) (Or.inl (by omega))
theorem q_set64 (s : Bool) (c : Nat) (q : Int) : q_ok64 (FP.Core.encode FP.Core.b64 (FP.Core.settle FP.Core.b64 s c q)) := by
  unfold FP.Core.settle
  rw [q_c64.2.2.2.2]
  split
  · next h =>
    unfold FP.Core.bound
    rw [q_c64.2.2.2.1]
    split
    · next h2 => exact q_enc64_fin _ _ _ h h2
    · exact q_enc64_inf _
  · unfold FP.Core.bound
    rw [q_c64.2.2.2.1, q_c64.1]
    split
    · next h2 => exact q_enc64_fin _ _ _ (by decide) h2
    · exact q_enc64_inf _
theorem q_rr64 (s : Bool) (num den : Nat) (e : Int) : q_ok64 (FP.Core.encode FP.Core.b64 (FP.Core.roundRatio FP.Core.b64 s num den e)) := by
  unfold FP.Core.roundRatio
  split
  · rw [q_c64.2.2.1]
    exact q_enc64_fin _ _ _ (by decide) (by decide)
  · exact q_set64 _ _ _
theorem q_flds64 {s e t : Nat} (hs : s ≤ 1) (ht : t < 4503599627370496) (he : e < 2048) : FP.Core.fieldE FP.Core.b64 ((s * 2048 + e) * 4503599627370496 + t) = e ∧ FP.Core.fieldT FP.Core.b64 ((s * 2048 + e) * 4503599627370496 + t) = t := by
  unfold FP.Core.fieldE FP.Core.fieldT
  rw [q_c64.1, q_c64.2.1]
  have hs2 : s = 0 ∨ s = 1 := by omega
  rcases hs2 with rfl | rfl <;> omega
theorem q_dec64 {n : Nat} (h : q_ok64 n) : ¬ FP.Core.decode FP.Core.b64 n = .nan := by
  obtain ⟨s, e, t, hs, ht, he, rfl⟩ := h
  obtain ⟨h1, h2⟩ := q_flds64 hs ht (show e < 2048 by omega)
  unfold FP.Core.decode
  rw [h1, h2, q_c64.2.1]
  split
  · rw [if_pos (by omega)]
    intro q
    cases q
  · split <;> (intro q; cases q)
theorem q_lt64 {n : Nat} (h : q_ok64 n) : (UInt64.ofNat n).toNat = n := by
  obtain ⟨s, e, t, hs, ht, he, rfl⟩ := h
  rw [UInt64.toNat_ofNat']
  have hs2 : s = 0 ∨ s = 1 := by omega
  rcases hs2 with rfl | rfl <;> omega
/-- a float that is a number -/
def q_num (x : UInt32) : Prop := ¬ FP.Core.decode FP.Core.b32 x.toNat = .nan
theorem q_num_of {n : Nat} (h : q_ok32 n) : q_num (UInt32.ofNat n) := by
  unfold q_num
  rw [q_lt32 h]
  exact q_dec32 h
theorem q_quot {x y : FP.Core.Datum} (hx : ∃ s c q, x = .fin s c q) (hy : ∃ s c q, y = .fin s c q ∧ c ≠ 0) : q_ok32 (FP.Core.encode FP.Core.b32 (FP.Core.quotient FP.Core.b32 x y)) := by
  obtain ⟨s, c, q, rfl⟩ := hx
  obtain ⟨t, d, r, rfl, hd⟩ := hy
  unfold FP.Core.quotient
  (try dsimp only)
  rw [if_neg hd]
  exact q_rr32 _ _ _ _
theorem q_decfin {n : Nat} {s e t : Nat} (hs : s ≤ 1) (ht : t < 8388608) (he : e < 255) (hn : n = (s * 256 + e) * 8388608 + t) : ∃ s' c q, FP.Core.decode FP.Core.b32 n = .fin s' c q ∧ (e ≠ 0 → c ≠ 0) := by
  subst hn
  obtain ⟨h1, h2⟩ := q_flds32 hs ht (show e < 256 by omega)
  unfold FP.Core.decode
  rw [h1, h2, q_c32.2.1, if_neg (by omega)]
  by_cases z : e = 0
  · rw [if_pos z]
    exact ⟨_, _, _, rfl, fun q => absurd z q⟩
  · rw [if_neg z, q_c32.1]
    exact ⟨_, _, _, rfl, fun _ => by omega⟩
theorem q_fromInt {a : Int} (h : -1000000 ≤ a ∧ a ≤ 1000000) : q_ok32 (FP.Core.fromInt FP.Core.b32 a) ∧ ∃ s c q, FP.Core.decode FP.Core.b32 (FP.Core.fromInt FP.Core.b32 a) = .fin s c q ∧ (a ≠ 0 → c ≠ 0) := by
  refine ⟨?_, ?_⟩
  · unfold FP.Core.fromInt FP.Core.round FP.Core.ofInt
    exact q_rr32 _ _ _ _
  unfold FP.Core.fromInt FP.Core.round FP.Core.ofInt FP.Core.roundRatio
  (try dsimp only)
  by_cases z : a = 0
  · subst z
    exact ⟨false, 0, -149, by decide +kernel, fun q => absurd rfl q⟩
  · rw [if_neg (by omega)]
    generalize hn : a.natAbs = n
    have hn0 : 0 < n := by omega
    have hn1 : n ≤ 1000000 := by omega
    generalize hk : n.log2 = k
    have hk1 : 2 ^ k ≤ n := by rw [← hk]; exact Nat.log2_self_le (by omega)
    have hk2 : n < 2 ^ (k + 1) := by rw [← hk]; exact Nat.lt_log2_self
    have hk20 : k < 20 := by
      refine Nat.not_le.mp fun q => ?_
      have : 2 ^ 20 ≤ 2 ^ k := Nat.pow_le_pow_right (by decide) q
      omega
    have hl : FP.Core.leading n 1 = (k : Int) := by
      unfold FP.Core.leading
      have e1 : Nat.log2 1 = 0 := by decide +kernel
      (try dsimp only)
      rw [hk, e1]
      have e2 : ((k : Int) - ((0 : Nat) : Int)).toNat = k := by omega
      have e3 : (-((k : Int) - ((0 : Nat) : Int))).toNat = 0 := by omega
      rw [e2, e3, if_pos (by omega)]
      omega
    have hq : FP.Core.quantum FP.Core.b32 n 1 0 = (k : Int) - 23 := by
      unfold FP.Core.quantum
      rw [hl, q_c32.2.2.1]
      have : ((FP.Core.b32.p : Nat) : Int) = 24 := rfl
      rw [this]
      omega
    rw [hq]
    unfold FP.Core.roundAt
    have hu : FP.Core.unitsNum n 0 ((k : Int) - 23) = n * 2 ^ (23 - k) := by
      unfold FP.Core.unitsNum
      congr 2
      omega
    have hd : FP.Core.unitsDen 1 0 ((k : Int) - 23) = 1 := by
      unfold FP.Core.unitsDen
      have : (((k : Int) - 23) - 0).toNat = 0 := by omega
      rw [this]
    rw [hu, hd]
    have hne : FP.Core.nearest (n * 2 ^ (23 - k)) 1 = n * 2 ^ (23 - k) := by
      unfold FP.Core.nearest
      rw [Nat.mod_one, if_pos (by omega), Nat.div_one]
    rw [hne]
    generalize hc : n * 2 ^ (23 - k) = c
    have hpw : 2 ^ k * 2 ^ (23 - k) = 8388608 := by
      rw [← Nat.pow_add, show k + (23 - k) = 23 by omega]
    have hc1 : 8388608 ≤ c := by
      rw [← hc, ← hpw]
      exact Nat.mul_le_mul_right _ hk1
    have hc2 : c < 16777216 := by
      have e : 2 ^ (k + 1) * 2 ^ (23 - k) = 16777216 := by
        rw [← Nat.pow_add, show k + 1 + (23 - k) = 24 by omega]
      rw [← hc, ← e]
      exact Nat.mul_lt_mul_of_pos_right hk2 (Nat.two_pow_pos _)
    unfold FP.Core.settle FP.Core.bound
    rw [q_c32.2.2.2.2, q_c32.2.2.2.1, if_pos hc2, if_pos (by omega)]
    unfold FP.Core.encode FP.Core.assemble
    (try dsimp only)
    rw [q_c32.1, q_c32.2.1, q_c32.2.2.1, if_neg (by omega)]
    obtain ⟨s', c', q', h1, h2⟩ := q_decfin (n := ((decide (a < 0)).toNat * 256 + (((k : Int) - 23 - -149).toNat + 1)) * 8388608 + (c - 8388608)) (s := (decide (a < 0)).toNat) (e := ((k : Int) - 23 - -149).toNat + 1) (t := c - 8388608) (by cases (decide (a < 0)) <;> decide) (by omega) (by omega) rfl
    exact ⟨s', c', q', h1, fun _ => h2 (by omega)⟩
theorem q_i2f {a : Int} (h : -1000000 ≤ a ∧ a ≤ 1000000) : ∃ s c q, FP.Core.decode FP.Core.b32 (FP.i2f (iO a)).toNat = .fin s c q ∧ (a ≠ 0 → c ≠ 0) := by
  obtain ⟨h1, h2⟩ := q_fromInt h
  have e : FP.i2f (iO a) = UInt32.ofNat (FP.Core.fromInt FP.Core.b32 a) := by
    show UInt32.ofNat (FP.Core.fromInt FP.Core.b32 (iO a).toInt) = _
    rw [iO_toInt ⟨by omega, by omega⟩]
  rw [e, q_lt32 h1]
  exact h2
theorem q_l2f {a : Int} (h : -1000000 ≤ a ∧ a ≤ 1000000) : FP.l2f (lO a) = FP.i2f (iO a) := by
  show UInt32.ofNat (FP.Core.fromInt FP.Core.b32 (lO a).toInt) = UInt32.ofNat (FP.Core.fromInt FP.Core.b32 (iO a).toInt)
  rw [iO_toInt ⟨by omega, by omega⟩, lO_toInt ⟨by omega, by omega⟩]
theorem q_fdiv {a b : Int} (ha : -1000000 ≤ a ∧ a ≤ 1000000) (hb : -1000000 ≤ b ∧ b ≤ 1000000) (h0 : b ≠ 0) : vf_n32 (FP.fdiv (FP.i2f (iO a)) (FP.i2f (iO b))) ∧ q_num (FP.fdiv (FP.i2f (iO a)) (FP.i2f (iO b))) := by
  obtain ⟨s, c, q, h1, _⟩ := q_i2f ha
  obtain ⟨t, d, r, h2, h3⟩ := q_i2f hb
  have h := q_quot (x := FP.Core.decode FP.Core.b32 (FP.i2f (iO a)).toNat) (y := FP.Core.decode FP.Core.b32 (FP.i2f (iO b)).toNat) ⟨s, c, q, h1⟩ ⟨t, d, r, h2, h3 h0⟩
  exact ⟨q_ok32_n h, q_num_of h⟩
theorem q_num0 : q_num FP.fconst0 := by
  unfold q_num
  decide +kernel
theorem q_f2d {x : UInt32} (h : q_num x) : vf_n64 (FP.f2d x) ∧ FP.dcmp (FP.f2d x) (FP.f2d x) = some .eq := by
  have e : FP.f2d x = UInt64.ofNat (FP.Core.convert FP.Core.b32 FP.Core.b64 x.toNat) := by
    unfold FP.f2d
    rw [if_neg]
    · rfl
    · unfold FP.Core.fIsNaN FP.Core.isNaN
      unfold q_num at h
      simpa using h
  have ok : q_ok64 (FP.Core.convert FP.Core.b32 FP.Core.b64 x.toNat) := by
    unfold FP.Core.convert
    unfold q_num at h
    generalize hd : FP.Core.decode FP.Core.b32 x.toNat = d at h
    unfold FP.Core.round
    cases d with
    | nan => exact absurd rfl h
    | inf s => exact q_enc64_inf s
    | fin s c q => exact q_rr64 _ _ _ _
  rw [e]
  refine ⟨q_ok64_n ok, ?_⟩
  show FP.Core.order (FP.Core.decode FP.Core.b64 _) (FP.Core.decode FP.Core.b64 _) = _
  rw [q_lt64 ok]
  have hn := q_dec64 ok
  generalize FP.Core.decode FP.Core.b64 (FP.Core.convert FP.Core.b32 FP.Core.b64 x.toNat) = d at hn
  cases d with
  | nan => exact absurd rfl hn
  | inf s => exact congrArg some Std.ReflCmp.compare_self
  | fin s c q => exact congrArg some Std.ReflCmp.compare_self
