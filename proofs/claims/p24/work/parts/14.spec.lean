/-! ===== the numbers that the methods tell ===== -/
def q_lim (v a b : Int) : Int := if v < a then a else if b < v then b else v
def q_quo (v d : Int) : Int := if 0 < d then v / d else 0
def q_ab (v : Int) : Int := if 0 < v then v else -v
def q_sum (f : Int → Int) : Nat → Int
  | 0 => 0
  | n + 1 => q_sum f n + f (n : Int)
/-- craft c of a state -/
abbrev q_X : Type := Nat → Int → Int → Int
/-- a state with another craft c -/
def q_put (σ : q_M) (c : Int) (X : q_X) : q_M := fun c' p k s => if c' = c ∧ p ≤ 11 then X p k s else σ c' p k s
/-- two states but for what is written anew at each use: the sharing's wish and the magnets' rows; the sharing too; the trial too -/
def q_ag1 (τ σ : q_M) : Prop := ∀ (c : Int) (p : Nat) (k s : Int), p ≠ 17 → p ≠ 19 → p ≠ 20 → τ c p k s = σ c p k s
def q_agp (τ σ : q_M) : Prop := ∀ (c : Int) (p : Nat) (k s : Int), p ≠ 12 → p ≠ 15 → p ≠ 16 → p ≠ 17 → p ≠ 19 → p ≠ 20 → ¬ (c = 1 ∧ p ≤ 11) → τ c p k s = σ c p k s
def q_rate (X : q_X) (i : Int) : Int := q_quo (X 5 0 i) (X 3 0 i)
def q_wmom (X : q_X) (i : Int) : Int := q_sum (fun k => X 11 k i * X 10 k 0) (X 0 0 1).toNat
def q_wcp (σ : q_M) (c k c2 k2 : Int) : q_M := fun c' p k' s => if (c' = c ∧ k' = k) ∧ (p = 10 ∨ p = 11) then σ c2 p k2 s else σ c' p k' s
def q_rot (σ : q_M) : q_M := fun c p k s => if p = 22 then (if s = 3 then σ c 22 k 0 else σ c 22 k (s + 1)) else if p = 21 then 3 else σ c p k s
def q_keep (σ : q_M) (c : Int) : q_M :=
  let τ := if 4 ≤ σ 0 21 0 0 then q_rot σ else σ
  q_wr (q_put τ (τ 0 22 0 (τ 0 21 0 0)) (τ c)) 0 21 0 0 (τ 0 21 0 0 + 1)
def q_wnum (X : q_X) (k w : Int) : Int := if 0 ≤ w ∧ w ≤ 2 then X 11 k w else if w = 3 then X 10 k 0 else if w = 4 then X 10 k 1 else if w = 5 then X 10 k 2 else if w = 6 then q_b (¬ X 10 k 3 = 0) else X 10 k 4
def q_dn (X : q_X) (k : Int) : Int := if -(X 10 k 1) - X 10 k 0 < 0 then -(X 10 k 1) - X 10 k 0 else 0
def q_up (X : q_X) (k : Int) : Int := if 0 < X 10 k 1 - X 10 k 0 then X 10 k 1 - X 10 k 0 else 0
def q_full (X : q_X) (k : Int) : UInt32 := FP.fdiv (FP.i2f (iO (if 0 ≤ X 10 k 0 then X 10 k 0 else -(X 10 k 0)))) (if 0 < X 10 k 1 then FP.i2f (iO (X 10 k 1)) else FP.fconst1)
def q_cnum (X : q_X) (i w : Int) : Int := if w = 0 then X 4 0 i else if w = 1 then X 5 0 i else if w = 2 then q_rate X i else if w = 3 then X 5 0 i + q_wmom X i else if w = 4 then X 6 0 i else if w = 9 then X 7 0 i else if 5 ≤ w ∧ w < 9 then X 3 (w - 5) i else -4611686018427387905
def q_as (X : q_X) (i : Int) : Int := q_ab (X 3 1 i - X 4 0 i)
def q_off (X : q_X) : Int := q_as X 0 + q_as X 1 + q_as X 2
def q_on1 (X : q_X) (b i : Int) : Prop := q_as X i ≤ b ∧ q_ab (q_rate X i) ≤ 1
def q_ont (X : q_X) (b : Int) : Prop := q_on1 X b 0 ∧ q_on1 X b 1 ∧ q_on1 X b 2
def q_wis (X : q_X) (i : Int) : Int := q_lim (X 1 0 1 * (q_lim (q_quo (X 1 0 0 * (X 3 1 i - X 4 0 i)) 100) (-(X 1 0 2)) (X 1 0 2) - q_rate X i)) (-(X 1 0 3)) (X 1 0 3)
def q_fw (X : q_X) : q_X := fun p k s => if p = 7 then q_wis X s else X p k s
def q_dis (X : q_X) : q_X := fun p k s => if p = 5 then X p k s + X 3 3 s else if p = 6 then X p k s + X 3 3 s else X p k s
def q_tur (X : q_X) : q_X := fun p k s => if p = 4 then X p k s + q_rate X s else X p k s
def q_tm (X : q_X) : q_X := fun p k s => if p = 9 ∧ s = 0 then 0 else if p = 0 ∧ s = 2 then 1 else X p k s
/-- the first failed one of the first wheels, or -1 -/
def q_ff (X : q_X) : Nat → Int
  | 0 => -1
  | n + 1 => if 0 ≤ q_ff X n then q_ff X n else if X 10 n 3 = 0 then -1 else (n : Int)
def q_tn (X : q_X) : q_X := fun p k s => if p = 9 ∧ s = 0 then 1 else if p = 9 ∧ s = 1 ∧ 0 ≤ q_ff X (X 0 0 1).toNat then 10 + q_ff X (X 0 0 1).toNat else if p = 0 ∧ s = 2 then (if 0 ≤ q_ff X (X 0 0 1).toNat then 2 else 1) else X p k s
def q_tl (X : q_X) (w b : Int) : q_X := fun p k s => if p = 9 ∧ s = 0 then 2 else if p = 9 ∧ s = 1 then 20 + w else if p = 9 ∧ s = 2 then (if b = 0 then 3 else 4) else if p = 0 ∧ s = 2 then 3 else X p k s
def q_mat (X : q_X) (lo i j : Int) : Int := q_sum (fun k => if ¬ k = lo ∧ X 10 k 3 = 0 then X 11 k i * X 11 k j else 0) (X 0 0 1).toNat
def q_cof (X : q_X) (lo i j : Int) : Int := q_mat X lo ((i + 1) % 3) ((j + 1) % 3) * q_mat X lo ((i + 2) % 3) ((j + 2) % 3) - q_mat X lo ((i + 1) % 3) ((j + 2) % 3) * q_mat X lo ((i + 2) % 3) ((j + 1) % 3)
def q_det (X : q_X) (lo : Int) : Int := q_mat X lo 0 0 * q_cof X lo 0 0 + q_mat X lo 0 1 * q_cof X lo 0 1 + q_mat X lo 0 2 * q_cof X lo 0 2
def q_ms (σ : q_M) (X : q_X) (lo : Int) : q_M := fun c p k s => if p = 15 then q_mat X lo k s else if p = 16 then q_cof X lo k s else if p = 12 then q_det X lo else σ c p k s
def q_aim (σ : q_M) (t0 t1 t2 : Int) : q_M := fun c p k s => if p = 17 then σ 0 16 s 0 * t0 + σ 0 16 s 1 * t1 + σ 0 16 s 2 * t2 else σ c p k s
/-- what a wheel wishes, out of the sharing's rows -/
def q_wo (σ : q_M) (c k : Int) : Int := if 0 < σ 0 12 0 0 then (σ 0 12 0 0 - 2 * (σ c 11 k 0 * σ 0 17 0 0 + σ c 11 k 1 * σ 0 17 0 1 + σ c 11 k 2 * σ 0 17 0 2)) / (2 * σ 0 12 0 0) else 0
/-- what a wheel wishes for torques at the axes, out of the craft alone -/
def q_wsh (X : q_X) (k t0 t1 t2 : Int) : Int :=
  let a := fun i => q_cof X (-2000009) i 0 * t0 + q_cof X (-2000009) i 1 * t1 + q_cof X (-2000009) i 2 * t2
  (q_det X (-2000009) - 2 * (X 11 k 0 * a 0 + X 11 k 1 * a 1 + X 11 k 2 * a 2)) / (2 * q_det X (-2000009))
def q_alw (X : q_X) (k w : Int) : Int := q_lim w (-(X 10 k 2)) (X 10 k 2)
def q_tq (X : q_X) (k w : Int) : Int := q_lim (q_alw X k w) (q_dn X k) (q_up X k)
/-- a wheel gets of its wish what it may -/
def q_gv (X : q_X) (k w : Int) : q_X :=
  let Y : q_X := fun p k' s => if p = 10 ∧ k' = k ∧ s = 4 then q_tq X k w else if p = 10 ∧ k' = k ∧ s = 0 then X 10 k 0 + q_tq X k w else if p = 5 then X 5 k' s - X 11 k s * q_tq X k w else X p k' s
  if ¬ q_tq X k w = w ∧ X 9 0 0 = 0 then q_tl Y k (q_b (q_tq X k w = q_alw X k w)) else Y
/-- the first wheels' turns, with the wishes of W -/
def q_gvs (W : q_X) : Nat → q_X → q_X
  | 0, X => X
  | n + 1, X => let Y := q_gvs W n X; if X 10 n 3 = 0 then q_gv Y n (q_wsh W n (W 7 0 0) (W 7 0 1) (W 7 0 2)) else Y
def q_g0 (X : q_X) : q_X := fun p k s => if p = 10 ∧ s = 4 ∧ 0 ≤ k ∧ k < X 0 0 1 then 0 else X p k s
def q_sh (X : q_X) : q_X := if 0 < q_det X (-2000009) then q_gvs (q_tm (q_g0 X)) (X 0 0 1).toNat (q_tm (q_g0 X)) else q_tn (q_g0 X)
def q_cr (f g : Int → Int) (i : Int) : Int := f ((i + 1) % 3) * g ((i + 2) % 3) - f ((i + 2) % 3) * g ((i + 1) % 3)
def q_mo (X : q_X) (i : Int) : Int := q_lim (q_quo (q_cr (q_wmom X) (X 3 2) i) 1000) (-(X 1 0 4)) (X 1 0 4)
def q_mt (X : q_X) (i : Int) : Int := q_quo (q_cr (q_mo X) (X 3 2) i) 100
def q_lgo (X : q_X) : q_X := fun p k s => if p = 5 then X p k s + q_mt X s else if p = 6 then X p k s + q_mt X s else X p k s
def q_now (X : q_X) : q_X := fun p k s => if p = 0 ∧ k = 0 ∧ s = 0 then X p k s + 1 else X p k s
def q_step (X : q_X) : q_X := q_tur (q_dis (q_lgo (q_sh (q_fw (q_now X)))))
def q_it : Nat → q_X → q_X
  | 0, X => X
  | n + 1, X => q_step (q_it n X)
def q_mets (X : q_X) : Nat → Int
  | 0 => 0
  | n + 1 => q_mets X n + q_b (q_it (n + 1) X 9 0 0 = 0)
/-- a wheel fails -/
def q_fl (X : q_X) (k : Int) : q_X := fun p k' s => if p = 10 ∧ k' = k ∧ s = 3 then 1 else X p k' s
/-- the sharing's rows hold what the craft's wheels make -/
def q_Me (σ : q_M) (X : q_X) : Prop := σ 0 12 0 0 = q_det X (-2000009) ∧ ∀ i j, q_in i 3 → q_in j 3 → σ 0 16 i j = q_cof X (-2000009) i j
/-- the bounds of a craft, n calls after it was made -/
def q_Inv (n : Int) (X : q_X) : Prop :=
  (0 ≤ n ∧ n ≤ 512) ∧ (0 ≤ X 0 0 0 ∧ X 0 0 0 ≤ 50700) ∧ (0 ≤ X 0 0 1 ∧ X 0 0 1 ≤ 6) ∧ (1 ≤ X 0 0 2 ∧ X 0 0 2 ≤ 3) ∧
  ((0 ≤ X 1 0 0 ∧ X 1 0 0 ≤ 1000) ∧ (0 ≤ X 1 0 1 ∧ X 1 0 1 ≤ 1000) ∧ (1 ≤ X 1 0 2 ∧ X 1 0 2 ≤ 10000) ∧ (1 ≤ X 1 0 3 ∧ X 1 0 3 ≤ 100000) ∧ (0 ≤ X 1 0 4 ∧ X 1 0 4 ≤ 10000)) ∧
  (∀ i, q_in i 3 → (1 ≤ X 3 0 i ∧ X 3 0 i ≤ 1000) ∧ (-1000000 ≤ X 3 1 i ∧ X 3 1 i ≤ 1000000) ∧ (-100 ≤ X 3 2 i ∧ X 3 2 i ≤ 100) ∧ (-1000 ≤ X 3 3 i ∧ X 3 3 i ≤ 1000)) ∧
  (∀ i, q_in i 3 → (-(100000 * n + 21000 * X 0 0 0) ≤ X 6 0 i ∧ X 6 0 i ≤ 100000 * n + 21000 * X 0 0 0) ∧ X 5 0 i + q_wmom X i = X 6 0 i ∧ (-(2000000000 * X 0 0 0) ≤ X 4 0 i ∧ X 4 0 i ≤ 2000000000 * X 0 0 0) ∧ (-100000 ≤ X 7 0 i ∧ X 7 0 i ≤ 100000)) ∧
  (∀ k, q_in k 6 → (∀ i, q_in i 3 → -9 ≤ X 11 k i ∧ X 11 k i ≤ 9) ∧ (-1000000 ≤ X 10 k 0 ∧ X 10 k 0 ≤ 1000000) ∧ (0 ≤ X 10 k 1 ∧ X 10 k 1 ≤ 1000000) ∧ (0 ≤ X 10 k 2 ∧ X 10 k 2 ≤ 100000) ∧ (X 10 k 3 = 0 ∨ X 10 k 3 = 1) ∧ (-100000 ≤ X 10 k 4 ∧ X 10 k 4 ≤ 100000) ∧ (k < X 0 0 1 → 1 ≤ X 10 k 1 ∧ 1 ≤ X 10 k 2)) ∧
  (∀ i, q_in i 3 → -100 ≤ X 9 0 i ∧ X 9 0 i ≤ 100)
/-- the history's rows name crafts -/
def q_Hs (σ : q_M) : Prop := (0 ≤ σ 0 21 0 0 ∧ σ 0 21 0 0 ≤ 4) ∧ ∀ j, q_in j 4 → 2 ≤ σ 0 22 0 j ∧ σ 0 22 0 j < 6
/-- flags are flags -/
def q_Fl (X : q_X) : Prop := ∀ k, q_in k 6 → X 10 k 3 = 0 ∨ X 10 k 3 = 1
/-- a wheel is added -/
def q_add (X : q_X) (x y z m t : Int) : q_X := fun p k s => if p = 11 ∧ k = X 0 0 1 then (if s = 0 then x else if s = 1 then y else if s = 2 then z else X p k s) else if p = 10 ∧ k = X 0 0 1 then (if s = 0 then 0 else if s = 1 then m else if s = 2 then t else if s = 3 then 0 else if s = 4 then 0 else X p k s) else if p = 0 ∧ k = 0 ∧ s = 1 then X 0 0 1 + 1 else X p k s
def q_p1 (X : q_X) (p0 : Nat) (k0 s0 x : Int) : q_X := fun p k s => if p = p0 ∧ k = k0 ∧ s = s0 then x else X p k s
def q_psh (X : q_X) (i x : Int) : q_X := fun p k s => if (p = 5 ∨ p = 6) ∧ k = 0 ∧ s = i then X p k s + x else X p k s
def q_wok (x y z m t : Int) : Prop := (((-9 ≤ x ∧ x ≤ 9) ∧ (-9 ≤ y ∧ y ≤ 9) ∧ (-9 ≤ z ∧ z ≤ 9)) ∧ ¬ (x = 0 ∧ y = 0 ∧ z = 0)) ∧ (1 ≤ m ∧ m ≤ 1000000) ∧ (1 ≤ t ∧ t ≤ 100000)
def q_act (σ : q_M) (X : q_X) : q_M := q_put (q_keep σ 0) 0 X
def q_fmx (X : q_X) : Nat → UInt32
  | 0 => FP.fconst0
  | n + 1 => if 0 < (Op.cmpValue (FP.fcmp (q_full X n) (q_fmx X n)) .l).toInt then q_full X n else q_fmx X n
def q_oni (X : q_X) (b : Int) : Int := if ((q_as X 0 ≤ b ∧ q_ab (q_rate X 0) ≤ 1) ∧ (q_as X 1 ≤ b ∧ q_ab (q_rate X 1) ≤ 1)) ∧ (q_as X 2 ≤ b ∧ q_ab (q_rate X 2) ≤ 1) then 1 else 0
/-- the first of the first n ticks at which it stands on its target -/
def q_arr (X : q_X) (b : Int) : Nat → Int
  | 0 => -2000009
  | n + 1 => if 0 ≤ q_arr X b n then q_arr X b n else if q_oni (q_it n X) b = 1 then (n : Int) else -2000009
def q_spr (X : q_X) : Nat → Int
  | 0 => 0
  | n + 1 => if X 10 n 3 = 0 ∧ 0 < q_det X n then (((q_spr X n).toNat ||| ((2 : Int) ^ n).toNat : Nat) : Int) else q_spr X n
def q_grv (X : q_X) (t : Nat) : Nat → Int × Int
  | 0 => (-2000009, 0)
  | n + 1 => if X 10 n 3 = 0 ∧ ((q_grv X t n).1 = -2000009 ∨ (q_grv X t n).2 < q_off (q_it t (q_fl X n))) then ((n : Int), q_off (q_it t (q_fl X n))) else q_grv X t n
def q_itr (f : Int → Int → Int) : Nat → Int → Int
  | 0, p => p
  | n + 1, p => f (n : Int) (q_itr f n p)
def q_mix (p x : Int) : Int := 31 * p + x
def q_fpr (X : q_X) : Int :=
  let p0 := q_mix 173 (X 0 0 0)
  let p1 := q_itr (fun w p => q_mix p (X 1 0 w)) 5 p0
  let p2 := q_itr (fun a p => q_itr (fun w p => q_mix p (q_cnum X a w)) 10 p) 3 p1
  let p3 := q_mix p2 (X 0 0 1)
  let p4 := q_itr (fun k p => q_itr (fun w p => q_mix p (q_wnum X k w)) 8 p) (X 0 0 1).toNat p3
  let p5 := q_mix p4 (q_det X (-2000009))
  q_itr (fun d p => q_mix p (X 9 0 d)) (X 0 0 2).toNat p5

def S_X5_isWithin : q_P := fun σ vs Q => match vs with
  | [.inr (.inl v), .inr (.inl a), .inr (.inl b)] => ((q_i32 v ∧ q_i32 a ∧ q_i32 b) ∧ Q (some (zI (q_b (a ≤ v ∧ v ≤ b)))) σ)
  | _ => False
theorem s_X5_isWithin {σ : q_M} {v a b : Int} {Q : Option q_V → q_M → Prop} : S_X5_isWithin σ [zI v, zI a, zI b] Q = ((q_i32 v ∧ q_i32 a ∧ q_i32 b) ∧ Q (some (zI (q_b (a ≤ v ∧ v ≤ b)))) σ) := rfl
def S_X5_isDirection : q_P := fun σ vs Q => match vs with
  | [.inr (.inl x), .inr (.inl y), .inr (.inl z)] => ((q_i32 x ∧ q_i32 y ∧ q_i32 z) ∧ Q (some (zI (q_b (((-9 ≤ x ∧ x ≤ 9) ∧ (-9 ≤ y ∧ y ≤ 9) ∧ (-9 ≤ z ∧ z ≤ 9)) ∧ ¬ (x = 0 ∧ y = 0 ∧ z = 0))))) σ)
  | _ => False
theorem s_X5_isDirection {σ : q_M} {x y z : Int} {Q : Option q_V → q_M → Prop} : S_X5_isDirection σ [zI x, zI y, zI z] Q = ((q_i32 x ∧ q_i32 y ∧ q_i32 z) ∧ Q (some (zI (q_b (((-9 ≤ x ∧ x ≤ 9) ∧ (-9 ≤ y ∧ y ≤ 9) ∧ (-9 ≤ z ∧ z ≤ 9)) ∧ ¬ (x = 0 ∧ y = 0 ∧ z = 0))))) σ) := rfl
def S_X1_dropOldest : q_P := fun σ vs Q => match vs with
  | [.inl (c0, p0, k0)] => c0 = 0 ∧ p0 = 21 ∧ k0 = 0 ∧ (q_Hs σ ∧ Q none (q_rot σ))
  | _ => False
theorem s_X1_dropOldest {σ : q_M}  {Q : Option q_V → q_M → Prop} : S_X1_dropOldest σ [zR 0 21 0] Q = (q_Hs σ ∧ Q none (q_rot σ)) := propext ⟨fun h => h.2.2.2, fun h => ⟨rfl, rfl, rfl, h⟩⟩
def S_X4_become : q_P := fun σ vs Q => match vs with
  | [.inl (c, p0, k), .inl (c2, p1, k2)] => p0 = 10 ∧ p1 = 10 ∧ ((q_c6 c ∧ q_in k 6 ∧ q_c6 c2 ∧ q_in k2 6 ∧ ¬ c = c2 ∧ (σ c2 10 k2 3 = 0 ∨ σ c2 10 k2 3 = 1)) ∧ Q none (q_wcp σ c k c2 k2))
  | _ => False
theorem s_X4_become {σ : q_M} {c k c2 k2 : Int} {Q : Option q_V → q_M → Prop} : S_X4_become σ [zR c 10 k, zR c2 10 k2] Q = ((q_c6 c ∧ q_in k 6 ∧ q_c6 c2 ∧ q_in k2 6 ∧ ¬ c = c2 ∧ (σ c2 10 k2 3 = 0 ∨ σ c2 10 k2 3 = 1)) ∧ Q none (q_wcp σ c k c2 k2)) := propext ⟨fun h => h.2.2, fun h => ⟨rfl, rfl, h⟩⟩
def S_X0_become : q_P := fun σ vs Q => match vs with
  | [.inl (c, p0, k0), .inl (o, p1, k1)] => p0 = 0 ∧ k0 = 0 ∧ p1 = 0 ∧ k1 = 0 ∧ ((q_c6 c ∧ q_c6 o ∧ ¬ c = o ∧ q_Fl (σ o)) ∧ Q none (q_put σ c (σ o)))
  | _ => False
theorem s_X0_become {σ : q_M} {c o : Int} {Q : Option q_V → q_M → Prop} : S_X0_become σ [zR c 0 0, zR o 0 0] Q = ((q_c6 c ∧ q_c6 o ∧ ¬ c = o ∧ q_Fl (σ o)) ∧ Q none (q_put σ c (σ o))) := propext ⟨fun h => h.2.2.2.2, fun h => ⟨rfl, rfl, rfl, rfl, h⟩⟩
def S_X1_keep : q_P := fun σ vs Q => match vs with
  | [.inl (c0, p0, k0), .inl (c, p1, k1)] => c0 = 0 ∧ p0 = 21 ∧ k0 = 0 ∧ p1 = 0 ∧ k1 = 0 ∧ ((q_Hs σ ∧ (c = 0 ∨ c = 1) ∧ q_Fl (σ c)) ∧ Q none (q_keep σ c))
  | _ => False
theorem s_X1_keep {σ : q_M} {c : Int} {Q : Option q_V → q_M → Prop} : S_X1_keep σ [zR 0 21 0, zR c 0 0] Q = ((q_Hs σ ∧ (c = 0 ∨ c = 1) ∧ q_Fl (σ c)) ∧ Q none (q_keep σ c)) := propext ⟨fun h => h.2.2.2.2.2, fun h => ⟨rfl, rfl, rfl, rfl, rfl, h⟩⟩
def S_X4_start : q_P := fun σ vs Q => match vs with
  | [.inl (c, p0, k), .inr (.inl x), .inr (.inl y), .inr (.inl z), .inr (.inl m), .inr (.inl t)] => p0 = 10 ∧ ((q_c6 c ∧ q_in k 6) ∧ Q none (q_wr (q_wr (q_wr (q_wr (q_wr (q_wr (q_wr (q_wr σ c 11 k 0 x) c 11 k 1 y) c 11 k 2 z) c 10 k 0 0) c 10 k 1 m) c 10 k 2 t) c 10 k 3 0) c 10 k 4 0))
  | _ => False
theorem s_X4_start {σ : q_M} {c k x y z m t : Int} {Q : Option q_V → q_M → Prop} : S_X4_start σ [zR c 10 k, zI x, zI y, zI z, zI m, zI t] Q = ((q_c6 c ∧ q_in k 6) ∧ Q none (q_wr (q_wr (q_wr (q_wr (q_wr (q_wr (q_wr (q_wr σ c 11 k 0 x) c 11 k 1 y) c 11 k 2 z) c 10 k 0 0) c 10 k 1 m) c 10 k 2 t) c 10 k 3 0) c 10 k 4 0)) := propext ⟨fun h => h.2, fun h => ⟨rfl, h⟩⟩
def S_X5_addWheel : q_P := fun σ vs Q => match vs with
  | [.inl (c0, p0, k0), .inr (.inl x), .inr (.inl y), .inr (.inl z), .inr (.inl m), .inr (.inl t)] => c0 = 0 ∧ p0 = 23 ∧ k0 = 0 ∧ (((q_i32 x ∧ q_i32 y ∧ q_i32 z ∧ q_i32 m ∧ q_i32 t) ∧ q_Hs σ ∧ ∃ n, q_Inv n (σ 0)) ∧ (¬ q_wok x y z m t → Q (some (zI (-2000001))) σ) ∧ (q_wok x y z m t → 6 ≤ σ 0 0 0 1 → Q (some (zI (-2000003))) σ) ∧ (q_wok x y z m t → σ 0 0 0 1 < 6 → Q (some (zI (σ 0 0 0 1))) (q_act σ (q_add (σ 0) x y z m t))))
  | _ => False
theorem s_X5_addWheel {σ : q_M} {x y z m t : Int} {Q : Option q_V → q_M → Prop} : S_X5_addWheel σ [zR 0 23 0, zI x, zI y, zI z, zI m, zI t] Q = (((q_i32 x ∧ q_i32 y ∧ q_i32 z ∧ q_i32 m ∧ q_i32 t) ∧ q_Hs σ ∧ ∃ n, q_Inv n (σ 0)) ∧ (¬ q_wok x y z m t → Q (some (zI (-2000001))) σ) ∧ (q_wok x y z m t → 6 ≤ σ 0 0 0 1 → Q (some (zI (-2000003))) σ) ∧ (q_wok x y z m t → σ 0 0 0 1 < 6 → Q (some (zI (σ 0 0 0 1))) (q_act σ (q_add (σ 0) x y z m t)))) := propext ⟨fun h => h.2.2.2, fun h => ⟨rfl, rfl, rfl, h⟩⟩
def S_X5_isWheel : q_P := fun σ vs Q => match vs with
  | [.inl (c0, p0, k0), .inr (.inl k)] => c0 = 0 ∧ p0 = 23 ∧ k0 = 0 ∧ ((q_i32 k ∧ q_i32 (σ 0 0 0 1 - 1)) ∧ Q (some (zI (q_b (0 ≤ k ∧ k ≤ σ 0 0 0 1 - 1)))) σ)
  | _ => False
theorem s_X5_isWheel {σ : q_M} {k : Int} {Q : Option q_V → q_M → Prop} : S_X5_isWheel σ [zR 0 23 0, zI k] Q = ((q_i32 k ∧ q_i32 (σ 0 0 0 1 - 1)) ∧ Q (some (zI (q_b (0 ≤ k ∧ k ≤ σ 0 0 0 1 - 1)))) σ) := propext ⟨fun h => h.2.2.2, fun h => ⟨rfl, rfl, rfl, h⟩⟩
def S_X5_fail : q_P := fun σ vs Q => match vs with
  | [.inl (c0, p0, k0), .inr (.inl k), .inr (.inl b)] => c0 = 0 ∧ p0 = 23 ∧ k0 = 0 ∧ ((q_i32 k ∧ (b = 0 ∨ b = 1) ∧ q_Hs σ ∧ ∃ n, q_Inv n (σ 0)) ∧ (¬ (0 ≤ k ∧ k ≤ σ 0 0 0 1 - 1) → Q (some (zI (-2000001))) σ) ∧ ((0 ≤ k ∧ k ≤ σ 0 0 0 1 - 1) → Q (some (zI (σ 0 10 k 3))) (q_act σ (q_p1 (σ 0) 10 k 3 b))))
  | _ => False
theorem s_X5_fail {σ : q_M} {k b : Int} {Q : Option q_V → q_M → Prop} : S_X5_fail σ [zR 0 23 0, zI k, zI b] Q = ((q_i32 k ∧ (b = 0 ∨ b = 1) ∧ q_Hs σ ∧ ∃ n, q_Inv n (σ 0)) ∧ (¬ (0 ≤ k ∧ k ≤ σ 0 0 0 1 - 1) → Q (some (zI (-2000001))) σ) ∧ ((0 ≤ k ∧ k ≤ σ 0 0 0 1 - 1) → Q (some (zI (σ 0 10 k 3))) (q_act σ (q_p1 (σ 0) 10 k 3 b)))) := propext ⟨fun h => h.2.2.2, fun h => ⟨rfl, rfl, rfl, h⟩⟩
def S_X5_setMost : q_P := fun σ vs Q => match vs with
  | [.inl (c0, p0, k0), .inr (.inl k), .inr (.inl b), .inr (.inl v)] => c0 = 0 ∧ p0 = 23 ∧ k0 = 0 ∧ (((q_i32 k ∧ q_i32 v) ∧ (b = 0 ∨ b = 1) ∧ q_Hs σ ∧ ∃ n, q_Inv n (σ 0)) ∧ (¬ ((0 ≤ k ∧ k ≤ σ 0 0 0 1 - 1) ∧ 1 ≤ v ∧ v ≤ (if b = 0 then 1000000 else 100000)) → Q (some (zI (-2000001))) σ) ∧ (((0 ≤ k ∧ k ≤ σ 0 0 0 1 - 1) ∧ 1 ≤ v ∧ v ≤ (if b = 0 then 1000000 else 100000)) → Q (some (zI (if b = 0 then σ 0 10 k 1 else σ 0 10 k 2))) (q_act σ (q_p1 (σ 0) 10 k (if b = 0 then 1 else 2) v))))
  | _ => False
theorem s_X5_setMost {σ : q_M} {k b v : Int} {Q : Option q_V → q_M → Prop} : S_X5_setMost σ [zR 0 23 0, zI k, zI b, zI v] Q = (((q_i32 k ∧ q_i32 v) ∧ (b = 0 ∨ b = 1) ∧ q_Hs σ ∧ ∃ n, q_Inv n (σ 0)) ∧ (¬ ((0 ≤ k ∧ k ≤ σ 0 0 0 1 - 1) ∧ 1 ≤ v ∧ v ≤ (if b = 0 then 1000000 else 100000)) → Q (some (zI (-2000001))) σ) ∧ (((0 ≤ k ∧ k ≤ σ 0 0 0 1 - 1) ∧ 1 ≤ v ∧ v ≤ (if b = 0 then 1000000 else 100000)) → Q (some (zI (if b = 0 then σ 0 10 k 1 else σ 0 10 k 2))) (q_act σ (q_p1 (σ 0) 10 k (if b = 0 then 1 else 2) v)))) := propext ⟨fun h => h.2.2.2, fun h => ⟨rfl, rfl, rfl, h⟩⟩
def S_X4_number : q_P := fun σ vs Q => match vs with
  | [.inl (c, p0, k), .inr (.inl w)] => p0 = 10 ∧ ((q_c6 c ∧ q_in k 6 ∧ q_i32 w ∧ q_i32 (σ c 10 k 3)) ∧ Q (some (zI (q_wnum (σ c) k w))) σ)
  | _ => False
theorem s_X4_number {σ : q_M} {c k w : Int} {Q : Option q_V → q_M → Prop} : S_X4_number σ [zR c 10 k, zI w] Q = ((q_c6 c ∧ q_in k 6 ∧ q_i32 w ∧ q_i32 (σ c 10 k 3)) ∧ Q (some (zI (q_wnum (σ c) k w))) σ) := propext ⟨fun h => h.2, fun h => ⟨rfl, h⟩⟩
def S_X5_wheel : q_P := fun σ vs Q => match vs with
  | [.inl (c0, p0, k0), .inr (.inl k), .inr (.inl w)] => c0 = 0 ∧ p0 = 23 ∧ k0 = 0 ∧ (((q_i32 k ∧ q_i32 w) ∧ ∃ n, q_Inv n (σ 0)) ∧ (¬ ((0 ≤ k ∧ k ≤ σ 0 0 0 1 - 1) ∧ 0 ≤ w ∧ w ≤ 7) → Q (some (zI (-2000001))) σ) ∧ (((0 ≤ k ∧ k ≤ σ 0 0 0 1 - 1) ∧ 0 ≤ w ∧ w ≤ 7) → Q (some (zI (q_wnum (σ 0) k w))) σ))
  | _ => False
theorem s_X5_wheel {σ : q_M} {k w : Int} {Q : Option q_V → q_M → Prop} : S_X5_wheel σ [zR 0 23 0, zI k, zI w] Q = (((q_i32 k ∧ q_i32 w) ∧ ∃ n, q_Inv n (σ 0)) ∧ (¬ ((0 ≤ k ∧ k ≤ σ 0 0 0 1 - 1) ∧ 0 ≤ w ∧ w ≤ 7) → Q (some (zI (-2000001))) σ) ∧ (((0 ≤ k ∧ k ≤ σ 0 0 0 1 - 1) ∧ 0 ≤ w ∧ w ≤ 7) → Q (some (zI (q_wnum (σ 0) k w))) σ)) := propext ⟨fun h => h.2.2.2, fun h => ⟨rfl, rfl, rfl, h⟩⟩
def S_X5_wheels : q_P := fun σ vs Q => match vs with
  | [.inl (c0, p0, k0)] => c0 = 0 ∧ p0 = 23 ∧ k0 = 0 ∧ (Q (some (zI (σ 0 0 0 1))) σ)
  | _ => False
theorem s_X5_wheels {σ : q_M}  {Q : Option q_V → q_M → Prop} : S_X5_wheels σ [zR 0 23 0] Q = (Q (some (zI (σ 0 0 0 1))) σ) := propext ⟨fun h => h.2.2.2, fun h => ⟨rfl, rfl, rfl, h⟩⟩
def S_X5_isAxis : q_P := fun σ vs Q => match vs with
  | [.inr (.inl v)] => ((q_i32 v) ∧ Q (some (zI (q_b (0 ≤ v ∧ v ≤ 2)))) σ)
  | _ => False
theorem s_X5_isAxis {σ : q_M} {v : Int} {Q : Option q_V → q_M → Prop} : S_X5_isAxis σ [zI v] Q = ((q_i32 v) ∧ Q (some (zI (q_b (0 ≤ v ∧ v ≤ 2)))) σ) := rfl
def S_X5_setAxis : q_P := fun σ vs Q => match vs with
  | [.inl (c0, p0, k0), .inr (.inl a), .inr (.inl w), .inr (.inl v)] => c0 = 0 ∧ p0 = 23 ∧ k0 = 0 ∧ (((q_i32 a ∧ q_i32 w ∧ q_i32 v) ∧ q_Hs σ ∧ ∃ n, q_Inv n (σ 0)) ∧ (¬ ((0 ≤ a ∧ a ≤ 2) ∧ (0 ≤ w ∧ w ≤ 3) ∧ q_tbl 34 w ≤ v ∧ v ≤ q_tbl 35 w) → Q (some (zI (-2000001))) σ) ∧ (((0 ≤ a ∧ a ≤ 2) ∧ (0 ≤ w ∧ w ≤ 3) ∧ q_tbl 34 w ≤ v ∧ v ≤ q_tbl 35 w) → Q (some (zI (σ 0 3 w a))) (q_act σ (q_p1 (σ 0) 3 w a v))))
  | _ => False
theorem s_X5_setAxis {σ : q_M} {a w v : Int} {Q : Option q_V → q_M → Prop} : S_X5_setAxis σ [zR 0 23 0, zI a, zI w, zI v] Q = (((q_i32 a ∧ q_i32 w ∧ q_i32 v) ∧ q_Hs σ ∧ ∃ n, q_Inv n (σ 0)) ∧ (¬ ((0 ≤ a ∧ a ≤ 2) ∧ (0 ≤ w ∧ w ≤ 3) ∧ q_tbl 34 w ≤ v ∧ v ≤ q_tbl 35 w) → Q (some (zI (-2000001))) σ) ∧ (((0 ≤ a ∧ a ≤ 2) ∧ (0 ≤ w ∧ w ≤ 3) ∧ q_tbl 34 w ≤ v ∧ v ≤ q_tbl 35 w) → Q (some (zI (σ 0 3 w a))) (q_act σ (q_p1 (σ 0) 3 w a v)))) := propext ⟨fun h => h.2.2.2, fun h => ⟨rfl, rfl, rfl, h⟩⟩
def S_X5_set : q_P := fun σ vs Q => match vs with
  | [.inl (c0, p0, k0), .inr (.inl w), .inr (.inl v)] => c0 = 0 ∧ p0 = 23 ∧ k0 = 0 ∧ (((q_i32 w ∧ q_i32 v) ∧ q_Hs σ ∧ ∃ n, q_Inv n (σ 0)) ∧ (¬ ((0 ≤ w ∧ w ≤ 4) ∧ q_tbl 36 w ≤ v ∧ v ≤ q_tbl 37 w) → Q (some (zI (-2000001))) σ) ∧ (((0 ≤ w ∧ w ≤ 4) ∧ q_tbl 36 w ≤ v ∧ v ≤ q_tbl 37 w) → Q (some (zI (σ 0 1 0 w))) (q_act σ (q_p1 (σ 0) 1 0 w v))))
  | _ => False
theorem s_X5_set {σ : q_M} {w v : Int} {Q : Option q_V → q_M → Prop} : S_X5_set σ [zR 0 23 0, zI w, zI v] Q = (((q_i32 w ∧ q_i32 v) ∧ q_Hs σ ∧ ∃ n, q_Inv n (σ 0)) ∧ (¬ ((0 ≤ w ∧ w ≤ 4) ∧ q_tbl 36 w ≤ v ∧ v ≤ q_tbl 37 w) → Q (some (zI (-2000001))) σ) ∧ (((0 ≤ w ∧ w ≤ 4) ∧ q_tbl 36 w ≤ v ∧ v ≤ q_tbl 37 w) → Q (some (zI (σ 0 1 0 w))) (q_act σ (q_p1 (σ 0) 1 0 w v)))) := propext ⟨fun h => h.2.2.2, fun h => ⟨rfl, rfl, rfl, h⟩⟩
def S_X5_setting : q_P := fun σ vs Q => match vs with
  | [.inl (c0, p0, k0), .inr (.inl w)] => c0 = 0 ∧ p0 = 23 ∧ k0 = 0 ∧ ((q_i32 w) ∧ Q (some (zI (if 0 ≤ w ∧ w ≤ 4 then σ 0 1 0 w else -2000001))) σ)
  | _ => False
theorem s_X5_setting {σ : q_M} {w : Int} {Q : Option q_V → q_M → Prop} : S_X5_setting σ [zR 0 23 0, zI w] Q = ((q_i32 w) ∧ Q (some (zI (if 0 ≤ w ∧ w ≤ 4 then σ 0 1 0 w else -2000001))) σ) := propext ⟨fun h => h.2.2.2, fun h => ⟨rfl, rfl, rfl, h⟩⟩
def S_X0_pushFromOutside : q_P := fun σ vs Q => match vs with
  | [.inl (c, p0, k0), .inr (.inl i), .inr (.inr (.inl x))] => p0 = 0 ∧ k0 = 0 ∧ ((q_c6 c ∧ q_in i 3) ∧ Q none (q_wr (q_wr σ c 5 0 i (σ c 5 0 i + x)) c 6 0 i (σ c 6 0 i + x)))
  | _ => False
theorem s_X0_pushFromOutside {σ : q_M} {c i x : Int} {Q : Option q_V → q_M → Prop} : S_X0_pushFromOutside σ [zR c 0 0, zI i, zL x] Q = ((q_c6 c ∧ q_in i 3) ∧ Q none (q_wr (q_wr σ c 5 0 i (σ c 5 0 i + x)) c 6 0 i (σ c 6 0 i + x))) := propext ⟨fun h => h.2.2, fun h => ⟨rfl, rfl, h⟩⟩
def S_J9_floorDiv_f86c9 : q_P := fun σ vs Q => match vs with
  | [.inr (.inr (.inl x)), .inr (.inr (.inl y))] => ((q_i64 x ∧ 1 ≤ y ∧ y < 9223372036854775808) ∧ Q (some (zL (x / y))) σ)
  | _ => False
theorem s_J9_floorDiv_f86c9 {σ : q_M} {x y : Int} {Q : Option q_V → q_M → Prop} : S_J9_floorDiv_f86c9 σ [zL x, zL y] Q = ((q_i64 x ∧ 1 ≤ y ∧ y < 9223372036854775808) ∧ Q (some (zL (x / y))) σ) := rfl
def S_X5_quotient : q_P := fun σ vs Q => match vs with
  | [.inr (.inr (.inl v)), .inr (.inr (.inl d))] => ((q_i64 v ∧ q_i64 d) ∧ Q (some (zL (q_quo v d))) σ)
  | _ => False
theorem s_X5_quotient {σ : q_M} {v d : Int} {Q : Option q_V → q_M → Prop} : S_X5_quotient σ [zL v, zL d] Q = ((q_i64 v ∧ q_i64 d) ∧ Q (some (zL (q_quo v d))) σ) := rfl
def S_X0_rate : q_P := fun σ vs Q => match vs with
  | [.inl (c, p0, k0), .inr (.inl i)] => p0 = 0 ∧ k0 = 0 ∧ ((q_c6 c ∧ q_in i 3 ∧ q_i64 (σ c 5 0 i) ∧ q_i32 (σ c 3 0 i)) ∧ Q (some (zL (q_rate (σ c) i))) σ)
  | _ => False
theorem s_X0_rate {σ : q_M} {c i : Int} {Q : Option q_V → q_M → Prop} : S_X0_rate σ [zR c 0 0, zI i] Q = ((q_c6 c ∧ q_in i 3 ∧ q_i64 (σ c 5 0 i) ∧ q_i32 (σ c 3 0 i)) ∧ Q (some (zL (q_rate (σ c) i))) σ) := propext ⟨fun h => h.2.2, fun h => ⟨rfl, rfl, h⟩⟩
def S_X5_strike : q_P := fun σ vs Q => match vs with
  | [.inl (c0, p0, k0), .inr (.inl a), .inr (.inl x)] => c0 = 0 ∧ p0 = 23 ∧ k0 = 0 ∧ (((q_i32 a ∧ q_i32 x) ∧ q_Hs σ ∧ ∃ n, q_Inv n (σ 0)) ∧ (¬ ((0 ≤ a ∧ a ≤ 2) ∧ -100000 ≤ x ∧ x ≤ 100000) → Q (some (zL (-4611686018427387905))) σ) ∧ (((0 ≤ a ∧ a ≤ 2) ∧ -100000 ≤ x ∧ x ≤ 100000) → Q (some (zL (q_rate (q_psh (σ 0) a x) a))) (q_act σ (q_psh (σ 0) a x))))
  | _ => False
theorem s_X5_strike {σ : q_M} {a x : Int} {Q : Option q_V → q_M → Prop} : S_X5_strike σ [zR 0 23 0, zI a, zI x] Q = (((q_i32 a ∧ q_i32 x) ∧ q_Hs σ ∧ ∃ n, q_Inv n (σ 0)) ∧ (¬ ((0 ≤ a ∧ a ≤ 2) ∧ -100000 ≤ x ∧ x ≤ 100000) → Q (some (zL (-4611686018427387905))) σ) ∧ (((0 ≤ a ∧ a ≤ 2) ∧ -100000 ≤ x ∧ x ≤ 100000) → Q (some (zL (q_rate (q_psh (σ 0) a x) a))) (q_act σ (q_psh (σ 0) a x)))) := propext ⟨fun h => h.2.2.2, fun h => ⟨rfl, rfl, rfl, h⟩⟩
def S_X3_addProducts : q_P := fun σ vs Q => match vs with
  | [.inl (c0, p0, k0), .inl (c, p1, k)] => c0 = 0 ∧ p0 = 12 ∧ k0 = 0 ∧ p1 = 11 ∧ ((q_c6 c ∧ q_in k 6 ∧ ∀ i, q_in i 3 → -9 ≤ σ c 11 k i ∧ σ c 11 k i ≤ 9) ∧ Q none (fun c' p i j => if p = 15 then σ 0 15 i j + σ c 11 k i * σ c 11 k j else σ c' p i j))
  | _ => False
theorem s_X3_addProducts {σ : q_M} {c k : Int} {Q : Option q_V → q_M → Prop} : S_X3_addProducts σ [zR 0 12 0, zR c 11 k] Q = ((q_c6 c ∧ q_in k 6 ∧ ∀ i, q_in i 3 → -9 ≤ σ c 11 k i ∧ σ c 11 k i ≤ 9) ∧ Q none (fun c' p i j => if p = 15 then σ 0 15 i j + σ c 11 k i * σ c 11 k j else σ c' p i j)) := propext ⟨fun h => h.2.2.2.2, fun h => ⟨rfl, rfl, rfl, rfl, h⟩⟩
def S_X5_axisAfter : q_P := fun σ vs Q => match vs with
  | [.inr (.inl a), .inr (.inl s)] => ((0 ≤ a + s ∧ a + s < 2147483648) ∧ Q (some (zI ((a + s) % 3))) σ)
  | _ => False
theorem s_X5_axisAfter {σ : q_M} {a s : Int} {Q : Option q_V → q_M → Prop} : S_X5_axisAfter σ [zI a, zI s] Q = ((0 ≤ a + s ∧ a + s < 2147483648) ∧ Q (some (zI ((a + s) % 3))) σ) := rfl
def S_X3_findCofactors : q_P := fun σ vs Q => match vs with
  | [.inl (c0, p0, k0)] => c0 = 0 ∧ p0 = 12 ∧ k0 = 0 ∧ (Q none (fun c p i j => if p = 16 then σ 0 15 ((i + 1) % 3) ((j + 1) % 3) * σ 0 15 ((i + 2) % 3) ((j + 2) % 3) - σ 0 15 ((i + 1) % 3) ((j + 2) % 3) * σ 0 15 ((i + 2) % 3) ((j + 1) % 3) else σ c p i j))
  | _ => False
theorem s_X3_findCofactors {σ : q_M}  {Q : Option q_V → q_M → Prop} : S_X3_findCofactors σ [zR 0 12 0] Q = (Q none (fun c p i j => if p = 16 then σ 0 15 ((i + 1) % 3) ((j + 1) % 3) * σ 0 15 ((i + 2) % 3) ((j + 2) % 3) - σ 0 15 ((i + 1) % 3) ((j + 2) % 3) * σ 0 15 ((i + 2) % 3) ((j + 1) % 3) else σ c p i j)) := propext ⟨fun h => h.2.2.2, fun h => ⟨rfl, rfl, rfl, h⟩⟩
def S_X3_measure : q_P := fun σ vs Q => match vs with
  | [.inl (c0, p0, k0), .inl (c, p1, k1), .inr (.inl lo)] => c0 = 0 ∧ p0 = 12 ∧ k0 = 0 ∧ p1 = 0 ∧ k1 = 0 ∧ ((q_c6 c ∧ q_i32 lo ∧ q_in (σ c 0 0 1) 7 ∧ ∀ k, q_in k 6 → q_i32 (σ c 10 k 3) ∧ ∀ i, q_in i 3 → -9 ≤ σ c 11 k i ∧ σ c 11 k i ≤ 9) ∧ Q none (q_ms σ (σ c) lo))
  | _ => False
theorem s_X3_measure {σ : q_M} {c lo : Int} {Q : Option q_V → q_M → Prop} : S_X3_measure σ [zR 0 12 0, zR c 0 0, zI lo] Q = ((q_c6 c ∧ q_i32 lo ∧ q_in (σ c 0 0 1) 7 ∧ ∀ k, q_in k 6 → q_i32 (σ c 10 k 3) ∧ ∀ i, q_in i 3 → -9 ≤ σ c 11 k i ∧ σ c 11 k i ≤ 9) ∧ Q none (q_ms σ (σ c) lo)) := propext ⟨fun h => h.2.2.2.2.2, fun h => ⟨rfl, rfl, rfl, rfl, rfl, h⟩⟩
def S_X5_limited : q_P := fun σ vs Q => match vs with
  | [.inr (.inr (.inl v)), .inr (.inr (.inl a)), .inr (.inr (.inl b))] => ((q_i64 v ∧ q_i64 a ∧ q_i64 b) ∧ Q (some (zL (q_lim v a b))) σ)
  | _ => False
theorem s_X5_limited {σ : q_M} {v a b : Int} {Q : Option q_V → q_M → Prop} : S_X5_limited σ [zL v, zL a, zL b] Q = ((q_i64 v ∧ q_i64 a ∧ q_i64 b) ∧ Q (some (zL (q_lim v a b))) σ) := rfl
def S_X0_findWish : q_P := fun σ vs Q => match vs with
  | [.inl (c, p0, k0)] => p0 = 0 ∧ k0 = 0 ∧ ((q_c6 c ∧ ∃ n, q_Inv n (σ c)) ∧ Q none (q_put σ c (q_fw (σ c))))
  | _ => False
theorem s_X0_findWish {σ : q_M} {c : Int} {Q : Option q_V → q_M → Prop} : S_X0_findWish σ [zR c 0 0] Q = ((q_c6 c ∧ ∃ n, q_Inv n (σ c)) ∧ Q none (q_put σ c (q_fw (σ c)))) := propext ⟨fun h => h.2.2, fun h => ⟨rfl, rfl, h⟩⟩
def S_X3_spans : q_P := fun σ vs Q => match vs with
  | [.inl (c0, p0, k0)] => c0 = 0 ∧ p0 = 12 ∧ k0 = 0 ∧ (q_i64 (σ 0 12 0 0) ∧ Q (some (zI (q_b (0 < σ 0 12 0 0)))) σ)
  | _ => False
theorem s_X3_spans {σ : q_M}  {Q : Option q_V → q_M → Prop} : S_X3_spans σ [zR 0 12 0] Q = (q_i64 (σ 0 12 0 0) ∧ Q (some (zI (q_b (0 < σ 0 12 0 0)))) σ) := propext ⟨fun h => h.2.2.2, fun h => ⟨rfl, rfl, rfl, h⟩⟩
def S_X0_tellNoSpan : q_P := fun σ vs Q => match vs with
  | [.inl (c, p0, k0)] => p0 = 0 ∧ k0 = 0 ∧ ((q_c6 c ∧ q_in (σ c 0 0 1) 7 ∧ ∀ k, q_in k 6 → q_i32 (σ c 10 k 3)) ∧ Q none (q_put σ c (q_tn (σ c))))
  | _ => False
theorem s_X0_tellNoSpan {σ : q_M} {c : Int} {Q : Option q_V → q_M → Prop} : S_X0_tellNoSpan σ [zR c 0 0] Q = ((q_c6 c ∧ q_in (σ c 0 0 1) 7 ∧ ∀ k, q_in k 6 → q_i32 (σ c 10 k 3)) ∧ Q none (q_put σ c (q_tn (σ c)))) := propext ⟨fun h => h.2.2, fun h => ⟨rfl, rfl, h⟩⟩
def S_X0_tellMet : q_P := fun σ vs Q => match vs with
  | [.inl (c, p0, k0)] => p0 = 0 ∧ k0 = 0 ∧ (q_c6 c ∧ Q none (q_put σ c (q_tm (σ c))))
  | _ => False
theorem s_X0_tellMet {σ : q_M} {c : Int} {Q : Option q_V → q_M → Prop} : S_X0_tellMet σ [zR c 0 0] Q = (q_c6 c ∧ Q none (q_put σ c (q_tm (σ c)))) := propext ⟨fun h => h.2.2, fun h => ⟨rfl, rfl, h⟩⟩
def S_X3_aim : q_P := fun σ vs Q => match vs with
  | [.inl (c0, p0, k0), .inr (.inr (.inl t0)), .inr (.inr (.inl t1)), .inr (.inr (.inl t2))] => c0 = 0 ∧ p0 = 12 ∧ k0 = 0 ∧ (Q none (q_aim σ t0 t1 t2))
  | _ => False
theorem s_X3_aim {σ : q_M} {t0 t1 t2 : Int} {Q : Option q_V → q_M → Prop} : S_X3_aim σ [zR 0 12 0, zL t0, zL t1, zL t2] Q = (Q none (q_aim σ t0 t1 t2)) := propext ⟨fun h => h.2.2.2, fun h => ⟨rfl, rfl, rfl, h⟩⟩
def S_X3_wishOf : q_P := fun σ vs Q => match vs with
  | [.inl (c0, p0, k0), .inl (c, p1, k)] => c0 = 0 ∧ p0 = 12 ∧ k0 = 0 ∧ p1 = 10 ∧ ((q_c6 c ∧ q_in k 6 ∧ (∀ i, q_in i 3 → q_i32 (σ c 11 k i)) ∧ q_i64 (2 * σ 0 12 0 0) ∧ q_i64 (σ 0 12 0 0 - 2 * (σ c 11 k 0 * σ 0 17 0 0 + σ c 11 k 1 * σ 0 17 0 1 + σ c 11 k 2 * σ 0 17 0 2))) ∧ Q (some (zL (q_wo σ c k))) σ)
  | _ => False
theorem s_X3_wishOf {σ : q_M} {c k : Int} {Q : Option q_V → q_M → Prop} : S_X3_wishOf σ [zR 0 12 0, zR c 10 k] Q = ((q_c6 c ∧ q_in k 6 ∧ (∀ i, q_in i 3 → q_i32 (σ c 11 k i)) ∧ q_i64 (2 * σ 0 12 0 0) ∧ q_i64 (σ 0 12 0 0 - 2 * (σ c 11 k 0 * σ 0 17 0 0 + σ c 11 k 1 * σ 0 17 0 1 + σ c 11 k 2 * σ 0 17 0 2))) ∧ Q (some (zL (q_wo σ c k))) σ) := propext ⟨fun h => h.2.2.2.2, fun h => ⟨rfl, rfl, rfl, rfl, h⟩⟩
def S_X4_allowedByTorque : q_P := fun σ vs Q => match vs with
  | [.inl (c, p0, k), .inr (.inr (.inl w))] => p0 = 10 ∧ ((q_c6 c ∧ q_in k 6 ∧ q_i64 w ∧ q_i32 (σ c 10 k 2) ∧ q_i32 (-(σ c 10 k 2))) ∧ Q (some (zL (q_alw (σ c) k w))) σ)
  | _ => False
theorem s_X4_allowedByTorque {σ : q_M} {c k w : Int} {Q : Option q_V → q_M → Prop} : S_X4_allowedByTorque σ [zR c 10 k, zL w] Q = ((q_c6 c ∧ q_in k 6 ∧ q_i64 w ∧ q_i32 (σ c 10 k 2) ∧ q_i32 (-(σ c 10 k 2))) ∧ Q (some (zL (q_alw (σ c) k w))) σ) := propext ⟨fun h => h.2, fun h => ⟨rfl, h⟩⟩
def S_X4_allowedByMomentum : q_P := fun σ vs Q => match vs with
  | [.inl (c, p0, k), .inr (.inr (.inl w))] => p0 = 10 ∧ ((q_c6 c ∧ q_in k 6 ∧ q_i64 w ∧ q_i32 (-(σ c 10 k 1) - σ c 10 k 0) ∧ q_i32 (σ c 10 k 1 - σ c 10 k 0)) ∧ Q (some (zL (q_lim w (q_dn (σ c) k) (q_up (σ c) k)))) σ)
  | _ => False
theorem s_X4_allowedByMomentum {σ : q_M} {c k w : Int} {Q : Option q_V → q_M → Prop} : S_X4_allowedByMomentum σ [zR c 10 k, zL w] Q = ((q_c6 c ∧ q_in k 6 ∧ q_i64 w ∧ q_i32 (-(σ c 10 k 1) - σ c 10 k 0) ∧ q_i32 (σ c 10 k 1 - σ c 10 k 0)) ∧ Q (some (zL (q_lim w (q_dn (σ c) k) (q_up (σ c) k)))) σ) := propext ⟨fun h => h.2, fun h => ⟨rfl, h⟩⟩
def S_X0_isMet : q_P := fun σ vs Q => match vs with
  | [.inl (c, p0, k0)] => p0 = 0 ∧ k0 = 0 ∧ ((q_c6 c ∧ q_i32 (σ c 9 0 0)) ∧ Q (some (zI (q_b (σ c 9 0 0 = 0)))) σ)
  | _ => False
theorem s_X0_isMet {σ : q_M} {c : Int} {Q : Option q_V → q_M → Prop} : S_X0_isMet σ [zR c 0 0] Q = ((q_c6 c ∧ q_i32 (σ c 9 0 0)) ∧ Q (some (zI (q_b (σ c 9 0 0 = 0)))) σ) := propext ⟨fun h => h.2.2, fun h => ⟨rfl, rfl, h⟩⟩
def S_X0_tellLimited : q_P := fun σ vs Q => match vs with
  | [.inl (c, p0, k0), .inr (.inl w), .inr (.inl b)] => p0 = 0 ∧ k0 = 0 ∧ ((q_c6 c ∧ q_i32 b) ∧ Q none (q_put σ c (q_tl (σ c) w b)))
  | _ => False
theorem s_X0_tellLimited {σ : q_M} {c w b : Int} {Q : Option q_V → q_M → Prop} : S_X0_tellLimited σ [zR c 0 0, zI w, zI b] Q = ((q_c6 c ∧ q_i32 b) ∧ Q none (q_put σ c (q_tl (σ c) w b))) := propext ⟨fun h => h.2.2, fun h => ⟨rfl, rfl, h⟩⟩
def S_X3_give : q_P := fun σ vs Q => match vs with
  | [.inl (c0, p0, k0), .inl (c, p1, k1), .inr (.inl k)] => c0 = 0 ∧ p0 = 12 ∧ k0 = 0 ∧ p1 = 0 ∧ k1 = 0 ∧ ((q_c6 c ∧ q_in k 6 ∧ q_i64 (q_wo σ c k) ∧ q_i64 (2 * σ 0 12 0 0) ∧ q_i64 (σ 0 12 0 0 - 2 * (σ c 11 k 0 * σ 0 17 0 0 + σ c 11 k 1 * σ 0 17 0 1 + σ c 11 k 2 * σ 0 17 0 2)) ∧ (∀ i, q_in i 3 → -9 ≤ σ c 11 k i ∧ σ c 11 k i ≤ 9) ∧ (-1000000 ≤ σ c 10 k 0 ∧ σ c 10 k 0 ≤ 1000000) ∧ (0 ≤ σ c 10 k 1 ∧ σ c 10 k 1 ≤ 1000000) ∧ (0 ≤ σ c 10 k 2 ∧ σ c 10 k 2 ≤ 100000) ∧ q_i32 (σ c 9 0 0)) ∧ Q none (q_put σ c (q_gv (σ c) k (q_wo σ c k))))
  | _ => False
theorem s_X3_give {σ : q_M} {c k : Int} {Q : Option q_V → q_M → Prop} : S_X3_give σ [zR 0 12 0, zR c 0 0, zI k] Q = ((q_c6 c ∧ q_in k 6 ∧ q_i64 (q_wo σ c k) ∧ q_i64 (2 * σ 0 12 0 0) ∧ q_i64 (σ 0 12 0 0 - 2 * (σ c 11 k 0 * σ 0 17 0 0 + σ c 11 k 1 * σ 0 17 0 1 + σ c 11 k 2 * σ 0 17 0 2)) ∧ (∀ i, q_in i 3 → -9 ≤ σ c 11 k i ∧ σ c 11 k i ≤ 9) ∧ (-1000000 ≤ σ c 10 k 0 ∧ σ c 10 k 0 ≤ 1000000) ∧ (0 ≤ σ c 10 k 1 ∧ σ c 10 k 1 ≤ 1000000) ∧ (0 ≤ σ c 10 k 2 ∧ σ c 10 k 2 ≤ 100000) ∧ q_i32 (σ c 9 0 0)) ∧ Q none (q_put σ c (q_gv (σ c) k (q_wo σ c k)))) := propext ⟨fun h => h.2.2.2.2.2, fun h => ⟨rfl, rfl, rfl, rfl, rfl, h⟩⟩
def S_X3_share : q_P := fun σ vs Q => match vs with
  | [.inl (c0, p0, k0), .inl (c, p1, k1)] => c0 = 0 ∧ p0 = 12 ∧ k0 = 0 ∧ p1 = 0 ∧ k1 = 0 ∧ ((q_c6 c ∧ q_Me σ (σ c) ∧ ∃ n, q_Inv n (σ c)) ∧ ∀ τ, q_ag1 τ (q_put σ c (q_sh (σ c))) → Q none τ)
  | _ => False
theorem s_X3_share {σ : q_M} {c : Int} {Q : Option q_V → q_M → Prop} : S_X3_share σ [zR 0 12 0, zR c 0 0] Q = ((q_c6 c ∧ q_Me σ (σ c) ∧ ∃ n, q_Inv n (σ c)) ∧ ∀ τ, q_ag1 τ (q_put σ c (q_sh (σ c))) → Q none τ) := propext ⟨fun h => h.2.2.2.2.2, fun h => ⟨rfl, rfl, rfl, rfl, rfl, h⟩⟩
def S_X0_wheelMomentum : q_P := fun σ vs Q => match vs with
  | [.inl (c, p0, k0), .inr (.inl i)] => p0 = 0 ∧ k0 = 0 ∧ ((q_c6 c ∧ q_in i 3 ∧ q_in (σ c 0 0 1) 7 ∧ ∀ k, q_in k 6 → q_i32 (σ c 11 k i) ∧ q_i32 (σ c 10 k 0)) ∧ Q (some (zL (q_wmom (σ c) i))) σ)
  | _ => False
theorem s_X0_wheelMomentum {σ : q_M} {c i : Int} {Q : Option q_V → q_M → Prop} : S_X0_wheelMomentum σ [zR c 0 0, zI i] Q = ((q_c6 c ∧ q_in i 3 ∧ q_in (σ c 0 0 1) 7 ∧ ∀ k, q_in k 6 → q_i32 (σ c 11 k i) ∧ q_i32 (σ c 10 k 0)) ∧ Q (some (zL (q_wmom (σ c) i))) σ) := propext ⟨fun h => h.2.2, fun h => ⟨rfl, rfl, h⟩⟩
def S_X2_crossed : q_P := fun σ vs Q => match vs with
  | [.inl (c0, pl, k0), .inl (c, p1, w), .inr (.inl i)] => c0 = 0 ∧ k0 = 0 ∧ p1 = 3 ∧ (((pl = 19 ∨ pl = 20) ∧ q_c6 c ∧ q_in w 4 ∧ q_in i 3 ∧ ∀ j, q_in j 3 → q_i32 (σ c 3 w j)) ∧ Q (some (zL (q_cr (σ 0 pl 0) (σ c 3 w) i))) σ)
  | _ => False
theorem s_X2_crossed {σ : q_M} {pl : Nat} {c w i : Int} {Q : Option q_V → q_M → Prop} : S_X2_crossed σ [zR 0 pl 0, zR c 3 w, zI i] Q = (((pl = 19 ∨ pl = 20) ∧ q_c6 c ∧ q_in w 4 ∧ q_in i 3 ∧ ∀ j, q_in j 3 → q_i32 (σ c 3 w j)) ∧ Q (some (zL (q_cr (σ 0 pl 0) (σ c 3 w) i))) σ) := propext ⟨fun h => h.2.2.2, fun h => ⟨rfl, rfl, rfl, h⟩⟩
def S_X2_letGo : q_P := fun σ vs Q => match vs with
  | [.inl (c0, p0, k0), .inl (c, p1, k1)] => c0 = 0 ∧ p0 = 18 ∧ k0 = 0 ∧ p1 = 0 ∧ k1 = 0 ∧ ((q_c6 c ∧ ∃ n, q_Inv n (σ c)) ∧ ∀ τ, q_ag1 τ (q_put σ c (q_lgo (σ c))) → Q none τ)
  | _ => False
theorem s_X2_letGo {σ : q_M} {c : Int} {Q : Option q_V → q_M → Prop} : S_X2_letGo σ [zR 0 18 0, zR c 0 0] Q = ((q_c6 c ∧ ∃ n, q_Inv n (σ c)) ∧ ∀ τ, q_ag1 τ (q_put σ c (q_lgo (σ c))) → Q none τ) := propext ⟨fun h => h.2.2.2.2.2, fun h => ⟨rfl, rfl, rfl, rfl, rfl, h⟩⟩
def S_X0_disturb : q_P := fun σ vs Q => match vs with
  | [.inl (c, p0, k0)] => p0 = 0 ∧ k0 = 0 ∧ ((q_c6 c ∧ ∀ i, q_in i 3 → q_i32 (σ c 3 3 i)) ∧ Q none (q_put σ c (q_dis (σ c))))
  | _ => False
theorem s_X0_disturb {σ : q_M} {c : Int} {Q : Option q_V → q_M → Prop} : S_X0_disturb σ [zR c 0 0] Q = ((q_c6 c ∧ ∀ i, q_in i 3 → q_i32 (σ c 3 3 i)) ∧ Q none (q_put σ c (q_dis (σ c)))) := propext ⟨fun h => h.2.2, fun h => ⟨rfl, rfl, h⟩⟩
def S_X0_turn : q_P := fun σ vs Q => match vs with
  | [.inl (c, p0, k0)] => p0 = 0 ∧ k0 = 0 ∧ ((q_c6 c ∧ ∀ i, q_in i 3 → q_i64 (σ c 5 0 i) ∧ q_i32 (σ c 3 0 i)) ∧ Q none (q_put σ c (q_tur (σ c))))
  | _ => False
theorem s_X0_turn {σ : q_M} {c : Int} {Q : Option q_V → q_M → Prop} : S_X0_turn σ [zR c 0 0] Q = ((q_c6 c ∧ ∀ i, q_in i 3 → q_i64 (σ c 5 0 i) ∧ q_i32 (σ c 3 0 i)) ∧ Q none (q_put σ c (q_tur (σ c)))) := propext ⟨fun h => h.2.2, fun h => ⟨rfl, rfl, h⟩⟩
def S_X5_passOne : q_P := fun σ vs Q => match vs with
  | [.inl (c0, p0, k0), .inl (c, p1, k1)] => c0 = 0 ∧ p0 = 23 ∧ k0 = 0 ∧ p1 = 0 ∧ k1 = 0 ∧ ((q_c6 c ∧ q_Me σ (σ c) ∧ (∃ n, q_Inv n (σ c)) ∧ σ c 0 0 0 ≤ 50600) ∧ ∀ τ, q_ag1 τ (q_put σ c (q_step (σ c))) → Q none τ)
  | _ => False
theorem s_X5_passOne {σ : q_M} {c : Int} {Q : Option q_V → q_M → Prop} : S_X5_passOne σ [zR 0 23 0, zR c 0 0] Q = ((q_c6 c ∧ q_Me σ (σ c) ∧ (∃ n, q_Inv n (σ c)) ∧ σ c 0 0 0 ≤ 50600) ∧ ∀ τ, q_ag1 τ (q_put σ c (q_step (σ c))) → Q none τ) := propext ⟨fun h => h.2.2.2.2.2, fun h => ⟨rfl, rfl, rfl, rfl, rfl, h⟩⟩
def S_X5_tick : q_P := fun σ vs Q => match vs with
  | [.inl (c0, p0, k0), .inr (.inl t)] => c0 = 0 ∧ p0 = 23 ∧ k0 = 0 ∧ (((q_i32 t) ∧ q_Hs σ ∧ ∃ n, q_Inv n (σ 0)) ∧ (¬ (1 ≤ t ∧ t ≤ 200) → Q (some (zI (-2000001))) σ) ∧ ((1 ≤ t ∧ t ≤ 200) → 50000 < σ 0 0 0 0 + t → Q (some (zI (-2000002))) σ) ∧ ((1 ≤ t ∧ t ≤ 200) → σ 0 0 0 0 + t ≤ 50000 → ∀ τ, q_agp τ (q_act σ (q_it t.toNat (σ 0))) → Q (some (zI (q_mets (σ 0) t.toNat))) τ))
  | _ => False
theorem s_X5_tick {σ : q_M} {t : Int} {Q : Option q_V → q_M → Prop} : S_X5_tick σ [zR 0 23 0, zI t] Q = (((q_i32 t) ∧ q_Hs σ ∧ ∃ n, q_Inv n (σ 0)) ∧ (¬ (1 ≤ t ∧ t ≤ 200) → Q (some (zI (-2000001))) σ) ∧ ((1 ≤ t ∧ t ≤ 200) → 50000 < σ 0 0 0 0 + t → Q (some (zI (-2000002))) σ) ∧ ((1 ≤ t ∧ t ≤ 200) → σ 0 0 0 0 + t ≤ 50000 → ∀ τ, q_agp τ (q_act σ (q_it t.toNat (σ 0))) → Q (some (zI (q_mets (σ 0) t.toNat))) τ)) := propext ⟨fun h => h.2.2.2, fun h => ⟨rfl, rfl, rfl, h⟩⟩
def S_X5_time : q_P := fun σ vs Q => match vs with
  | [.inl (c0, p0, k0)] => c0 = 0 ∧ p0 = 23 ∧ k0 = 0 ∧ (Q (some (zI (σ 0 0 0 0))) σ)
  | _ => False
theorem s_X5_time {σ : q_M}  {Q : Option q_V → q_M → Prop} : S_X5_time σ [zR 0 23 0] Q = (Q (some (zI (σ 0 0 0 0))) σ) := propext ⟨fun h => h.2.2.2, fun h => ⟨rfl, rfl, rfl, h⟩⟩
def S_X0_number : q_P := fun σ vs Q => match vs with
  | [.inl (c, p0, k0), .inr (.inl i), .inr (.inl w)] => p0 = 0 ∧ k0 = 0 ∧ ((q_c6 c ∧ q_in i 3 ∧ q_i32 w ∧ ∃ n, q_Inv n (σ c)) ∧ Q (some (zL (q_cnum (σ c) i w))) σ)
  | _ => False
theorem s_X0_number {σ : q_M} {c i w : Int} {Q : Option q_V → q_M → Prop} : S_X0_number σ [zR c 0 0, zI i, zI w] Q = ((q_c6 c ∧ q_in i 3 ∧ q_i32 w ∧ ∃ n, q_Inv n (σ c)) ∧ Q (some (zL (q_cnum (σ c) i w))) σ) := propext ⟨fun h => h.2.2, fun h => ⟨rfl, rfl, h⟩⟩
def S_X5_axis : q_P := fun σ vs Q => match vs with
  | [.inl (c0, p0, k0), .inr (.inl a), .inr (.inl w)] => c0 = 0 ∧ p0 = 23 ∧ k0 = 0 ∧ (((q_i32 a ∧ q_i32 w) ∧ ∃ n, q_Inv n (σ 0)) ∧ Q (some (zL (if ((0 ≤ a ∧ a ≤ 2) ∧ 0 ≤ w ∧ w ≤ 9) then q_cnum (σ 0) a w else -4611686018427387905))) σ)
  | _ => False
theorem s_X5_axis {σ : q_M} {a w : Int} {Q : Option q_V → q_M → Prop} : S_X5_axis σ [zR 0 23 0, zI a, zI w] Q = (((q_i32 a ∧ q_i32 w) ∧ ∃ n, q_Inv n (σ 0)) ∧ Q (some (zL (if ((0 ≤ a ∧ a ≤ 2) ∧ 0 ≤ w ∧ w ≤ 9) then q_cnum (σ 0) a w else -4611686018427387905))) σ) := propext ⟨fun h => h.2.2.2, fun h => ⟨rfl, rfl, rfl, h⟩⟩
def S_X5_span : q_P := fun σ vs Q => match vs with
  | [.inl (c0, p0, k0)] => c0 = 0 ∧ p0 = 23 ∧ k0 = 0 ∧ ((∃ n, q_Inv n (σ 0)) ∧ ∀ τ, q_agp τ σ → Q (some (zL (q_det (σ 0) (-2000009)))) τ)
  | _ => False
theorem s_X5_span {σ : q_M}  {Q : Option q_V → q_M → Prop} : S_X5_span σ [zR 0 23 0] Q = ((∃ n, q_Inv n (σ 0)) ∧ ∀ τ, q_agp τ σ → Q (some (zL (q_det (σ 0) (-2000009)))) τ) := propext ⟨fun h => h.2.2.2, fun h => ⟨rfl, rfl, rfl, h⟩⟩
def S_X5_isTorque : q_P := fun σ vs Q => match vs with
  | [.inr (.inl v)] => ((q_i32 v) ∧ Q (some (zI (q_b (-100000 ≤ v ∧ v ≤ 100000)))) σ)
  | _ => False
theorem s_X5_isTorque {σ : q_M} {v : Int} {Q : Option q_V → q_M → Prop} : S_X5_isTorque σ [zI v] Q = ((q_i32 v) ∧ Q (some (zI (q_b (-100000 ≤ v ∧ v ≤ 100000)))) σ) := rfl
def S_X5_wish : q_P := fun σ vs Q => match vs with
  | [.inl (c0, p0, k0), .inr (.inl k), .inr (.inl t0), .inr (.inl t1), .inr (.inl t2)] => c0 = 0 ∧ p0 = 23 ∧ k0 = 0 ∧ (((q_i32 k ∧ q_i32 t0 ∧ q_i32 t1 ∧ q_i32 t2) ∧ ∃ n, q_Inv n (σ 0)) ∧ ∀ τ, q_agp τ σ → Q (some (zL (if ((0 ≤ k ∧ k ≤ σ 0 0 0 1 - 1) ∧ (-100000 ≤ t0 ∧ t0 ≤ 100000) ∧ (-100000 ≤ t1 ∧ t1 ≤ 100000) ∧ (-100000 ≤ t2 ∧ t2 ≤ 100000)) ∧ σ 0 10 k 3 = 0 ∧ 0 < q_det (σ 0) (-2000009) then q_wsh (σ 0) k t0 t1 t2 else -4611686018427387905))) τ)
  | _ => False
theorem s_X5_wish {σ : q_M} {k t0 t1 t2 : Int} {Q : Option q_V → q_M → Prop} : S_X5_wish σ [zR 0 23 0, zI k, zI t0, zI t1, zI t2] Q = (((q_i32 k ∧ q_i32 t0 ∧ q_i32 t1 ∧ q_i32 t2) ∧ ∃ n, q_Inv n (σ 0)) ∧ ∀ τ, q_agp τ σ → Q (some (zL (if ((0 ≤ k ∧ k ≤ σ 0 0 0 1 - 1) ∧ (-100000 ≤ t0 ∧ t0 ≤ 100000) ∧ (-100000 ≤ t1 ∧ t1 ≤ 100000) ∧ (-100000 ≤ t2 ∧ t2 ≤ 100000)) ∧ σ 0 10 k 3 = 0 ∧ 0 < q_det (σ 0) (-2000009) then q_wsh (σ 0) k t0 t1 t2 else -4611686018427387905))) τ) := propext ⟨fun h => h.2.2.2, fun h => ⟨rfl, rfl, rfl, h⟩⟩
def S_X5_why : q_P := fun σ vs Q => match vs with
  | [.inl (c0, p0, k0), .inr (.inl d)] => c0 = 0 ∧ p0 = 23 ∧ k0 = 0 ∧ (((q_i32 d) ∧ ∃ n, q_Inv n (σ 0)) ∧ Q (some (zI (if d < 0 then -2000001 else if d < σ 0 0 0 2 then σ 0 9 0 d else -2000009))) σ)
  | _ => False
theorem s_X5_why {σ : q_M} {d : Int} {Q : Option q_V → q_M → Prop} : S_X5_why σ [zR 0 23 0, zI d] Q = (((q_i32 d) ∧ ∃ n, q_Inv n (σ 0)) ∧ Q (some (zI (if d < 0 then -2000001 else if d < σ 0 0 0 2 then σ 0 9 0 d else -2000009))) σ) := propext ⟨fun h => h.2.2.2, fun h => ⟨rfl, rfl, rfl, h⟩⟩
def S_X4_fullPart : q_P := fun σ vs Q => match vs with
  | [.inl (c, p0, k)] => p0 = 10 ∧ ((q_c6 c ∧ q_in k 6 ∧ q_i32 (σ c 10 k 0) ∧ q_i32 (σ c 10 k 1) ∧ vf_n32 (q_full (σ c) k)) ∧ Q (some (zF (q_full (σ c) k))) σ)
  | _ => False
theorem s_X4_fullPart {σ : q_M} {c k : Int} {Q : Option q_V → q_M → Prop} : S_X4_fullPart σ [zR c 10 k] Q = ((q_c6 c ∧ q_in k 6 ∧ q_i32 (σ c 10 k 0) ∧ q_i32 (σ c 10 k 1) ∧ vf_n32 (q_full (σ c) k)) ∧ Q (some (zF (q_full (σ c) k))) σ) := propext ⟨fun h => h.2, fun h => ⟨rfl, h⟩⟩
def S_X5_fullness : q_P := fun σ vs Q => match vs with
  | [.inl (c0, p0, k0)] => c0 = 0 ∧ p0 = 23 ∧ k0 = 0 ∧ ((∃ n, q_Inv n (σ 0)) ∧ Q (some (zF (q_fmx (σ 0) (σ 0 0 0 1).toNat))) σ)
  | _ => False
theorem s_X5_fullness {σ : q_M}  {Q : Option q_V → q_M → Prop} : S_X5_fullness σ [zR 0 23 0] Q = ((∃ n, q_Inv n (σ 0)) ∧ Q (some (zF (q_fmx (σ 0) (σ 0 0 0 1).toNat))) σ) := propext ⟨fun h => h.2.2.2, fun h => ⟨rfl, rfl, rfl, h⟩⟩
def S_X0_aside : q_P := fun σ vs Q => match vs with
  | [.inl (c, p0, k0), .inr (.inl i)] => p0 = 0 ∧ k0 = 0 ∧ ((q_c6 c ∧ q_in i 3 ∧ q_i32 (σ c 3 1 i) ∧ q_i64 (σ c 3 1 i - σ c 4 0 i)) ∧ Q (some (zL (q_as (σ c) i))) σ)
  | _ => False
theorem s_X0_aside {σ : q_M} {c i : Int} {Q : Option q_V → q_M → Prop} : S_X0_aside σ [zR c 0 0, zI i] Q = ((q_c6 c ∧ q_in i 3 ∧ q_i32 (σ c 3 1 i) ∧ q_i64 (σ c 3 1 i - σ c 4 0 i)) ∧ Q (some (zL (q_as (σ c) i))) σ) := propext ⟨fun h => h.2.2, fun h => ⟨rfl, rfl, h⟩⟩
def S_X0_isOnTarget : q_P := fun σ vs Q => match vs with
  | [.inl (c, p0, k0), .inr (.inl b)] => p0 = 0 ∧ k0 = 0 ∧ ((q_c6 c ∧ q_i32 b ∧ ∃ n, q_Inv n (σ c)) ∧ (q_ont (σ c) b → Q (some (zI 1)) σ) ∧ (¬ q_ont (σ c) b → Q (some (zI 0)) σ))
  | _ => False
theorem s_X0_isOnTarget {σ : q_M} {c b : Int} {Q : Option q_V → q_M → Prop} : S_X0_isOnTarget σ [zR c 0 0, zI b] Q = ((q_c6 c ∧ q_i32 b ∧ ∃ n, q_Inv n (σ c)) ∧ (q_ont (σ c) b → Q (some (zI 1)) σ) ∧ (¬ q_ont (σ c) b → Q (some (zI 0)) σ)) := propext ⟨fun h => h.2.2, fun h => ⟨rfl, rfl, h⟩⟩
def S_X5_arrives : q_P := fun σ vs Q => match vs with
  | [.inl (c0, p0, k0), .inr (.inl b)] => c0 = 0 ∧ p0 = 23 ∧ k0 = 0 ∧ (((q_i32 b) ∧ (∃ n, q_Inv n (σ 0)) ∧ σ 0 0 0 0 ≤ 50000) ∧ ∀ τ, q_agp τ σ → Q (some (zI (if 0 ≤ b ∧ b ≤ 1000000 then q_arr (σ 0) b 501 else -2000001))) τ)
  | _ => False
theorem s_X5_arrives {σ : q_M} {b : Int} {Q : Option q_V → q_M → Prop} : S_X5_arrives σ [zR 0 23 0, zI b] Q = (((q_i32 b) ∧ (∃ n, q_Inv n (σ 0)) ∧ σ 0 0 0 0 ≤ 50000) ∧ ∀ τ, q_agp τ σ → Q (some (zI (if 0 ≤ b ∧ b ≤ 1000000 then q_arr (σ 0) b 501 else -2000001))) τ) := propext ⟨fun h => h.2.2.2, fun h => ⟨rfl, rfl, rfl, h⟩⟩
def S_X5_spare : q_P := fun σ vs Q => match vs with
  | [.inl (c0, p0, k0)] => c0 = 0 ∧ p0 = 23 ∧ k0 = 0 ∧ ((∃ n, q_Inv n (σ 0)) ∧ ∀ τ, q_agp τ σ → Q (some (zI (q_spr (σ 0) (σ 0 0 0 1).toNat))) τ)
  | _ => False
theorem s_X5_spare {σ : q_M}  {Q : Option q_V → q_M → Prop} : S_X5_spare σ [zR 0 23 0] Q = ((∃ n, q_Inv n (σ 0)) ∧ ∀ τ, q_agp τ σ → Q (some (zI (q_spr (σ 0) (σ 0 0 0 1).toNat))) τ) := propext ⟨fun h => h.2.2.2, fun h => ⟨rfl, rfl, rfl, h⟩⟩
def S_X0_offTarget : q_P := fun σ vs Q => match vs with
  | [.inl (c, p0, k0)] => p0 = 0 ∧ k0 = 0 ∧ ((q_c6 c ∧ ∃ n, q_Inv n (σ c)) ∧ Q (some (zL (q_off (σ c)))) σ)
  | _ => False
theorem s_X0_offTarget {σ : q_M} {c : Int} {Q : Option q_V → q_M → Prop} : S_X0_offTarget σ [zR c 0 0] Q = ((q_c6 c ∧ ∃ n, q_Inv n (σ c)) ∧ Q (some (zL (q_off (σ c)))) σ) := propext ⟨fun h => h.2.2, fun h => ⟨rfl, rfl, h⟩⟩
def S_X5_offWithout : q_P := fun σ vs Q => match vs with
  | [.inl (c0, p0, k0), .inr (.inl k), .inr (.inl t)] => c0 = 0 ∧ p0 = 23 ∧ k0 = 0 ∧ ((q_in k 6 ∧ q_in t 201 ∧ (∃ n, q_Inv n (σ 0)) ∧ σ 0 0 0 0 ≤ 50000) ∧ ∀ τ, q_agp τ σ → Q (some (zL (q_off (q_it t.toNat (q_fl (σ 0) k))))) τ)
  | _ => False
theorem s_X5_offWithout {σ : q_M} {k t : Int} {Q : Option q_V → q_M → Prop} : S_X5_offWithout σ [zR 0 23 0, zI k, zI t] Q = ((q_in k 6 ∧ q_in t 201 ∧ (∃ n, q_Inv n (σ 0)) ∧ σ 0 0 0 0 ≤ 50000) ∧ ∀ τ, q_agp τ σ → Q (some (zL (q_off (q_it t.toNat (q_fl (σ 0) k))))) τ) := propext ⟨fun h => h.2.2.2, fun h => ⟨rfl, rfl, rfl, h⟩⟩
def S_X5_gravest : q_P := fun σ vs Q => match vs with
  | [.inl (c0, p0, k0), .inr (.inl t)] => c0 = 0 ∧ p0 = 23 ∧ k0 = 0 ∧ (((q_i32 t) ∧ (∃ n, q_Inv n (σ 0)) ∧ σ 0 0 0 0 ≤ 50000) ∧ ∀ τ, q_agp τ σ → Q (some (zI (if 1 ≤ t ∧ t ≤ 100 then (q_grv (σ 0) t.toNat (σ 0 0 0 1).toNat).1 else -2000001))) τ)
  | _ => False
theorem s_X5_gravest {σ : q_M} {t : Int} {Q : Option q_V → q_M → Prop} : S_X5_gravest σ [zR 0 23 0, zI t] Q = (((q_i32 t) ∧ (∃ n, q_Inv n (σ 0)) ∧ σ 0 0 0 0 ≤ 50000) ∧ ∀ τ, q_agp τ σ → Q (some (zI (if 1 ≤ t ∧ t ≤ 100 then (q_grv (σ 0) t.toNat (σ 0 0 0 1).toNat).1 else -2000001))) τ) := propext ⟨fun h => h.2.2.2, fun h => ⟨rfl, rfl, rfl, h⟩⟩
def S_X1_giveBack : q_P := fun σ vs Q => match vs with
  | [.inl (c0, p0, k0), .inl (c, p1, k1)] => c0 = 0 ∧ p0 = 21 ∧ k0 = 0 ∧ p1 = 0 ∧ k1 = 0 ∧ ((q_Hs σ ∧ (c = 0 ∨ c = 1) ∧ ∀ j, q_in j 4 → q_Fl (σ (σ 0 22 0 j))) ∧ (σ 0 21 0 0 ≤ 0 → Q (some (zI (-2000009))) σ) ∧ (0 < σ 0 21 0 0 → Q (some (zI (σ 0 21 0 0 - 1))) (q_put (q_wr σ 0 21 0 0 (σ 0 21 0 0 - 1)) c (σ (σ 0 22 0 (σ 0 21 0 0 - 1))))))
  | _ => False
theorem s_X1_giveBack {σ : q_M} {c : Int} {Q : Option q_V → q_M → Prop} : S_X1_giveBack σ [zR 0 21 0, zR c 0 0] Q = ((q_Hs σ ∧ (c = 0 ∨ c = 1) ∧ ∀ j, q_in j 4 → q_Fl (σ (σ 0 22 0 j))) ∧ (σ 0 21 0 0 ≤ 0 → Q (some (zI (-2000009))) σ) ∧ (0 < σ 0 21 0 0 → Q (some (zI (σ 0 21 0 0 - 1))) (q_put (q_wr σ 0 21 0 0 (σ 0 21 0 0 - 1)) c (σ (σ 0 22 0 (σ 0 21 0 0 - 1)))))) := propext ⟨fun h => h.2.2.2.2.2, fun h => ⟨rfl, rfl, rfl, rfl, rfl, h⟩⟩
def S_X5_undo : q_P := fun σ vs Q => match vs with
  | [.inl (c0, p0, k0)] => c0 = 0 ∧ p0 = 23 ∧ k0 = 0 ∧ ((q_Hs σ ∧ ∀ j, q_in j 4 → q_Fl (σ (σ 0 22 0 j))) ∧ (σ 0 21 0 0 ≤ 0 → Q (some (zI (-2000009))) σ) ∧ (0 < σ 0 21 0 0 → Q (some (zI (σ 0 21 0 0 - 1))) (q_put (q_wr σ 0 21 0 0 (σ 0 21 0 0 - 1)) 0 (σ (σ 0 22 0 (σ 0 21 0 0 - 1))))))
  | _ => False
theorem s_X5_undo {σ : q_M}  {Q : Option q_V → q_M → Prop} : S_X5_undo σ [zR 0 23 0] Q = ((q_Hs σ ∧ ∀ j, q_in j 4 → q_Fl (σ (σ 0 22 0 j))) ∧ (σ 0 21 0 0 ≤ 0 → Q (some (zI (-2000009))) σ) ∧ (0 < σ 0 21 0 0 → Q (some (zI (σ 0 21 0 0 - 1))) (q_put (q_wr σ 0 21 0 0 (σ 0 21 0 0 - 1)) 0 (σ (σ 0 22 0 (σ 0 21 0 0 - 1)))))) := propext ⟨fun h => h.2.2.2, fun h => ⟨rfl, rfl, rfl, h⟩⟩
def S_X5_mixed : q_P := fun σ vs Q => match vs with
  | [.inr (.inr (.inl x)), .inr (.inr (.inl y))] => (Q (some (zL (31 * x + y))) σ)
  | _ => False
theorem s_X5_mixed {σ : q_M} {x y : Int} {Q : Option q_V → q_M → Prop} : S_X5_mixed σ [zL x, zL y] Q = (Q (some (zL (31 * x + y))) σ) := rfl
def S_X5_fingerprint : q_P := fun σ vs Q => match vs with
  | [.inl (c0, p0, k0)] => c0 = 0 ∧ p0 = 23 ∧ k0 = 0 ∧ ((∃ n, q_Inv n (σ 0)) ∧ ∀ τ, q_agp τ σ → Q (some (zL (q_fpr (σ 0)))) τ)
  | _ => False
theorem s_X5_fingerprint {σ : q_M}  {Q : Option q_V → q_M → Prop} : S_X5_fingerprint σ [zR 0 23 0] Q = ((∃ n, q_Inv n (σ 0)) ∧ ∀ τ, q_agp τ σ → Q (some (zL (q_fpr (σ 0)))) τ) := propext ⟨fun h => h.2.2.2, fun h => ⟨rfl, rfl, rfl, h⟩⟩
