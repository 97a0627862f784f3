/-! ===== the model's row of numbers, as a craft tells it ===== -/
def q_av (X : q_X) (a w : Int) : Int := if w = 0 then X 4 0 a else if w = 1 then X 5 0 a else if w = 2 then X 3 0 a else if w = 3 then X 3 1 a else if w = 4 then X 3 2 a else if w = 5 then X 3 3 a else if w = 6 then X 6 0 a else X 7 0 a
def q_kv (X : q_X) (k w : Int) : Int := if w ≤ 2 then X 11 k w else if w = 3 then X 10 k 0 else if w = 4 then X 10 k 1 else if w = 5 then X 10 k 2 else if w = 6 then X 10 k 3 else X 10 k 4
def q_enc (v : Int → Int) (X : q_X) : Prop := (∀ s, q_in s 5 → v s = X 1 0 s) ∧ v 5 = X 0 0 0 ∧ v 6 = X 0 0 1 ∧ (v 8 = X 9 0 0 ∧ v 9 = (if 2 ≤ X 0 0 2 then X 9 0 1 else -2000009) ∧ v 10 = (if 3 ≤ X 0 0 2 then X 9 0 2 else -2000009)) ∧ (∀ a w, q_in a 3 → q_in w 8 → v (12 + 8 * a + w) = q_av X a w) ∧ (∀ k w, q_in k 6 → q_in w 8 → v (40 + 8 * k + w) = q_kv X k w)
/-- how many acts are kept behind an act, and which -/
def q_pm (σ : q_M) : Int := (if σ 0 24 0 0 = 4 then 3 else σ 0 24 0 0) + 1
def q_pst (σ : q_M) (s : Int) : Int := if 100 * (q_pm σ - 1) ≤ s ∧ s < 100 * (q_pm σ - 1) + 100 then σ 0 25 0 (s - 100 * (q_pm σ - 1)) else if σ 0 24 0 0 = 4 ∧ s < 300 then σ 0 27 0 (s + 100) else σ 0 27 0 s
def q_mact (σ : q_M) : q_M := fun c p k s => if p = 27 then q_pst σ s else if p = 24 ∧ s = 0 then q_pm σ else σ c p k s
def q_cpv (σ : q_M) (pf pt : Nat) : q_M := fun c p k s => if p = pt then σ 0 pf 0 s else σ c p k s
def q_v (σ : q_M) (f : Int → Int) : q_M := fun c p k s => if p = 25 then f s else σ c p k s
def q_und (σ : q_M) : q_M := fun c p k s => if p = 25 then σ 0 27 0 (100 * (σ 0 24 0 0 - 1) + s) else if p = 24 ∧ s = 0 then σ 0 24 0 0 - 1 else σ c p k s
/-- a wheel gets a torque -/
def q_vg (v : Int → Int) (k w : Int) : Int → Int := fun s => if s = 40 + 8 * k + 3 then v s + w else if s = 40 + 8 * k + 7 then w else if s = 13 then v s - v (40 + 8 * k + 0) * w else if s = 21 then v s - v (40 + 8 * k + 1) * w else if s = 29 then v s - v (40 + 8 * k + 2) * w else v s
/-- states that agree but for what the model writes anew at each use (s); and its row (v); and the row set aside (w); and all but the row (h) -/
def q_ags (τ σ : q_M) : Prop := ∀ (c : Int) (p : Nat) (k s : Int), (p < 28 ∨ 33 < p) → ¬ (p = 24 ∧ s = 1) → τ c p k s = σ c p k s
def q_ag2 (τ σ : q_M) : Prop := ∀ (c : Int) (p : Nat) (k s : Int), p ≠ 28 → p ≠ 29 → ¬ (p = 24 ∧ s = 1) → τ c p k s = σ c p k s
def q_agv (τ σ : q_M) : Prop := ∀ (c : Int) (p : Nat) (k s : Int), p ≠ 25 → (p < 28 ∨ 33 < p) → ¬ (p = 24 ∧ s = 1) → τ c p k s = σ c p k s
def q_agw (τ σ : q_M) : Prop := ∀ (c : Int) (p : Nat) (k s : Int), p ≠ 25 → p ≠ 26 → (p < 28 ∨ 33 < p) → ¬ (p = 24 ∧ s = 1) → τ c p k s = σ c p k s
def q_agh (τ σ : q_M) : Prop := ∀ (c : Int) (p : Nat) (k s : Int), p ≠ 25 → τ c p k s = σ c p k s
def q_wsm (σ : q_M) (k t0 t1 t2 : Int) : Int := σ 0 25 0 (40 + 8 * k + 0) * (σ 0 29 0 0 * t0 + σ 0 29 0 1 * t1 + σ 0 29 0 2 * t2) + σ 0 25 0 (40 + 8 * k + 1) * (σ 0 29 0 3 * t0 + σ 0 29 0 4 * t1 + σ 0 29 0 5 * t2) + σ 0 25 0 (40 + 8 * k + 2) * (σ 0 29 0 6 * t0 + σ 0 29 0 7 * t1 + σ 0 29 0 8 * t2)

def S_X6_in : q_P := fun σ vs Q => match vs with
  | [.inr (.inl v), .inr (.inl a), .inr (.inl b)] => ((q_i32 v ∧ q_i32 a ∧ q_i32 b) ∧ Q (some (zI (q_b (a ≤ v ∧ v ≤ b)))) σ)
  | _ => False
theorem s_X6_in {σ : q_M} {v a b : Int} {Q : Option q_V → q_M → Prop} : S_X6_in σ [zI v, zI a, zI b] Q = ((q_i32 v ∧ q_i32 a ∧ q_i32 b) ∧ Q (some (zI (q_b (a ≤ v ∧ v ≤ b)))) σ) := rfl
def S_X6_act : q_P := fun σ vs Q => match vs with
  | [.inl (c0, p0, k0)] => c0 = 0 ∧ p0 = 24 ∧ k0 = 0 ∧ ((0 ≤ σ 0 24 0 0 ∧ σ 0 24 0 0 ≤ 4) ∧ Q none (q_mact σ))
  | _ => False
theorem s_X6_act {σ : q_M}  {Q : Option q_V → q_M → Prop} : S_X6_act σ [zR 0 24 0] Q = ((0 ≤ σ 0 24 0 0 ∧ σ 0 24 0 0 ≤ 4) ∧ Q none (q_mact σ)) := propext ⟨fun h => h.2.2.2, fun h => ⟨rfl, rfl, rfl, h⟩⟩
def S_X6_copies : q_P := fun σ vs Q => match vs with
  | [.inl (c0, pf, k0), .inl (c1, pt, k1)] => c0 = 0 ∧ k0 = 0 ∧ c1 = 0 ∧ k1 = 0 ∧ (((pf = 25 ∧ pt = 26) ∨ (pf = 26 ∧ pt = 25)) ∧ Q none (q_cpv σ pf pt))
  | _ => False
theorem s_X6_copies {σ : q_M} {pf pt : Nat} {Q : Option q_V → q_M → Prop} : S_X6_copies σ [zR 0 pf 0, zR 0 pt 0] Q = (((pf = 25 ∧ pt = 26) ∨ (pf = 26 ∧ pt = 25)) ∧ Q none (q_cpv σ pf pt)) := propext ⟨fun h => h.2.2.2.2, fun h => ⟨rfl, rfl, rfl, rfl, h⟩⟩
def S_X6_div : q_P := fun σ vs Q => match vs with
  | [.inr (.inr (.inl a)), .inr (.inr (.inl b))] => (((-4611686018427387904 ≤ a ∧ a < 4611686018427387904) ∧ (1 ≤ b ∧ b < 4611686018427387904)) ∧ Q (some (zL (a / b))) σ)
  | _ => False
theorem s_X6_div {σ : q_M} {a b : Int} {Q : Option q_V → q_M → Prop} : S_X6_div σ [zL a, zL b] Q = (((-4611686018427387904 ≤ a ∧ a < 4611686018427387904) ∧ (1 ≤ b ∧ b < 4611686018427387904)) ∧ Q (some (zL (a / b))) σ) := rfl
def S_X6_nearest : q_P := fun σ vs Q => match vs with
  | [.inr (.inr (.inl a)), .inr (.inr (.inl b))] => (((-4611686018427387904 ≤ (2 * a + b) ∧ (2 * a + b) < 4611686018427387904) ∧ (1 ≤ (2 * b) ∧ (2 * b) < 4611686018427387904)) ∧ Q (some (zL ((2 * a + b) / (2 * b)))) σ)
  | _ => False
theorem s_X6_nearest {σ : q_M} {a b : Int} {Q : Option q_V → q_M → Prop} : S_X6_nearest σ [zL a, zL b] Q = (((-4611686018427387904 ≤ (2 * a + b) ∧ (2 * a + b) < 4611686018427387904) ∧ (1 ≤ (2 * b) ∧ (2 * b) < 4611686018427387904)) ∧ Q (some (zL ((2 * a + b) / (2 * b)))) σ) := rfl
def S_X6_held : q_P := fun σ vs Q => match vs with
  | [.inr (.inr (.inl x)), .inr (.inr (.inl m))] => ((q_i64 x ∧ 0 ≤ m ∧ m < 4611686018427387904) ∧ Q (some (zL (q_lim x (-m) m))) σ)
  | _ => False
theorem s_X6_held {σ : q_M} {x m : Int} {Q : Option q_V → q_M → Prop} : S_X6_held σ [zL x, zL m] Q = ((q_i64 x ∧ 0 ≤ m ∧ m < 4611686018427387904) ∧ Q (some (zL (q_lim x (-m) m))) σ) := rfl
def S_X6_size : q_P := fun σ vs Q => match vs with
  | [.inr (.inr (.inl x))] => (q_i64 x ∧ Q (some (zL (q_ab x))) σ)
  | _ => False
theorem s_X6_size {σ : q_M} {x : Int} {Q : Option q_V → q_M → Prop} : S_X6_size σ [zL x] Q = (q_i64 x ∧ Q (some (zL (q_ab x))) σ) := rfl
def S_X6_axisAt : q_P := fun σ vs Q => match vs with
  | [.inr (.inl a), .inr (.inl w)] => (Q (some (zI (12 + 8 * a + w))) σ)
  | _ => False
theorem s_X6_axisAt {σ : q_M} {a w : Int} {Q : Option q_V → q_M → Prop} : S_X6_axisAt σ [zI a, zI w] Q = (Q (some (zI (12 + 8 * a + w))) σ) := rfl
def S_X6_wheelAt : q_P := fun σ vs Q => match vs with
  | [.inr (.inl a), .inr (.inl w)] => (Q (some (zI (40 + 8 * a + w))) σ)
  | _ => False
theorem s_X6_wheelAt {σ : q_M} {a w : Int} {Q : Option q_V → q_M → Prop} : S_X6_wheelAt σ [zI a, zI w] Q = (Q (some (zI (40 + 8 * a + w))) σ) := rfl
def S_X6_isWheel : q_P := fun σ vs Q => match vs with
  | [.inl (c0, p0, k0), .inr (.inl k)] => c0 = 0 ∧ p0 = 24 ∧ k0 = 0 ∧ ((q_i32 k ∧ 0 ≤ σ 0 25 0 6 ∧ σ 0 25 0 6 ≤ 6) ∧ Q (some (zI (q_b (0 ≤ k ∧ k ≤ σ 0 25 0 6 - 1)))) σ)
  | _ => False
theorem s_X6_isWheel {σ : q_M} {k : Int} {Q : Option q_V → q_M → Prop} : S_X6_isWheel σ [zR 0 24 0, zI k] Q = ((q_i32 k ∧ 0 ≤ σ 0 25 0 6 ∧ σ 0 25 0 6 ≤ 6) ∧ Q (some (zI (q_b (0 ≤ k ∧ k ≤ σ 0 25 0 6 - 1)))) σ) := propext ⟨fun h => h.2.2.2, fun h => ⟨rfl, rfl, rfl, h⟩⟩
def S_X6_works : q_P := fun σ vs Q => match vs with
  | [.inl (c0, p0, k0), .inr (.inl k)] => c0 = 0 ∧ p0 = 24 ∧ k0 = 0 ∧ ((q_in k 6 ∧ q_i64 (σ 0 25 0 (40 + 8 * k + 6))) ∧ Q (some (zI (q_b (σ 0 25 0 (40 + 8 * k + 6) = 0)))) σ)
  | _ => False
theorem s_X6_works {σ : q_M} {k : Int} {Q : Option q_V → q_M → Prop} : S_X6_works σ [zR 0 24 0, zI k] Q = ((q_in k 6 ∧ q_i64 (σ 0 25 0 (40 + 8 * k + 6))) ∧ Q (some (zI (q_b (σ 0 25 0 (40 + 8 * k + 6) = 0)))) σ) := propext ⟨fun h => h.2.2.2, fun h => ⟨rfl, rfl, rfl, h⟩⟩
def S_X6_reasons : q_P := fun σ vs Q => match vs with
  | [.inl (c0, p0, k0), .inr (.inr (.inl x)), .inr (.inr (.inl y)), .inr (.inr (.inl z))] => c0 = 0 ∧ p0 = 24 ∧ k0 = 0 ∧ (Q none (q_wr (q_wr (q_wr σ 0 25 0 8 x) 0 25 0 9 y) 0 25 0 10 z))
  | _ => False
theorem s_X6_reasons {σ : q_M} {x y z : Int} {Q : Option q_V → q_M → Prop} : S_X6_reasons σ [zR 0 24 0, zL x, zL y, zL z] Q = (Q none (q_wr (q_wr (q_wr σ 0 25 0 8 x) 0 25 0 9 y) 0 25 0 10 z)) := propext ⟨fun h => h.2.2.2, fun h => ⟨rfl, rfl, rfl, h⟩⟩
def S_X6_isPart : q_P := fun σ vs Q => match vs with
  | [.inr (.inl x)] => (q_i32 x ∧ Q (some (zI (q_b (-9 ≤ x ∧ x ≤ 9)))) σ)
  | _ => False
theorem s_X6_isPart {σ : q_M} {x : Int} {Q : Option q_V → q_M → Prop} : S_X6_isPart σ [zI x] Q = (q_i32 x ∧ Q (some (zI (q_b (-9 ≤ x ∧ x ≤ 9)))) σ) := rfl
def S_X6_addWheel : q_P := fun σ vs Q => match vs with
  | [.inl (c0, p0, k0), .inr (.inl x), .inr (.inl y), .inr (.inl z), .inr (.inl m), .inr (.inl t)] => c0 = 0 ∧ p0 = 24 ∧ k0 = 0 ∧ (∃ X, ((q_i32 x ∧ q_i32 y ∧ q_i32 z ∧ q_i32 m ∧ q_i32 t) ∧ (∃ n, q_Inv n X) ∧ q_enc (σ 0 25 0) X ∧ (0 ≤ σ 0 24 0 0 ∧ σ 0 24 0 0 ≤ 4)) ∧ (¬ q_wok x y z m t → Q (some (zI (-2000001))) σ) ∧ (q_wok x y z m t → 6 ≤ X 0 0 1 → Q (some (zI (-2000003))) σ) ∧ (q_wok x y z m t → X 0 0 1 < 6 → ∀ τ, q_agh τ (q_mact σ) → q_enc (τ 0 25 0) (q_add X x y z m t) → Q (some (zI (X 0 0 1))) τ))
  | _ => False
theorem s_X6_addWheel {σ : q_M} {x y z m t : Int} {Q : Option q_V → q_M → Prop} : S_X6_addWheel σ [zR 0 24 0, zI x, zI y, zI z, zI m, zI t] Q = (∃ X, ((q_i32 x ∧ q_i32 y ∧ q_i32 z ∧ q_i32 m ∧ q_i32 t) ∧ (∃ n, q_Inv n X) ∧ q_enc (σ 0 25 0) X ∧ (0 ≤ σ 0 24 0 0 ∧ σ 0 24 0 0 ≤ 4)) ∧ (¬ q_wok x y z m t → Q (some (zI (-2000001))) σ) ∧ (q_wok x y z m t → 6 ≤ X 0 0 1 → Q (some (zI (-2000003))) σ) ∧ (q_wok x y z m t → X 0 0 1 < 6 → ∀ τ, q_agh τ (q_mact σ) → q_enc (τ 0 25 0) (q_add X x y z m t) → Q (some (zI (X 0 0 1))) τ)) := propext ⟨fun h => h.2.2.2, fun h => ⟨rfl, rfl, rfl, h⟩⟩
def S_X6_sets : q_P := fun σ vs Q => match vs with
  | [.inl (c0, p0, k0), .inr (.inl i), .inr (.inl x)] => c0 = 0 ∧ p0 = 24 ∧ k0 = 0 ∧ ((q_in i 100 ∧ q_i32 x ∧ (0 ≤ σ 0 24 0 0 ∧ σ 0 24 0 0 ≤ 4)) ∧ Q (some (zI (σ 0 25 0 i))) (q_wr (q_mact σ) 0 25 0 i x))
  | _ => False
theorem s_X6_sets {σ : q_M} {i x : Int} {Q : Option q_V → q_M → Prop} : S_X6_sets σ [zR 0 24 0, zI i, zI x] Q = ((q_in i 100 ∧ q_i32 x ∧ (0 ≤ σ 0 24 0 0 ∧ σ 0 24 0 0 ≤ 4)) ∧ Q (some (zI (σ 0 25 0 i))) (q_wr (q_mact σ) 0 25 0 i x)) := propext ⟨fun h => h.2.2.2, fun h => ⟨rfl, rfl, rfl, h⟩⟩
def S_X6_fail : q_P := fun σ vs Q => match vs with
  | [.inl (c0, p0, k0), .inr (.inl k), .inr (.inl b)] => c0 = 0 ∧ p0 = 24 ∧ k0 = 0 ∧ (∃ X, (q_i32 k ∧ (b = 0 ∨ b = 1) ∧ (∃ n, q_Inv n X) ∧ q_enc (σ 0 25 0) X ∧ (0 ≤ σ 0 24 0 0 ∧ σ 0 24 0 0 ≤ 4)) ∧ (¬ (0 ≤ k ∧ k ≤ X 0 0 1 - 1) → Q (some (zI (-2000001))) σ) ∧ ((0 ≤ k ∧ k ≤ X 0 0 1 - 1) → ∀ τ, q_agh τ (q_mact σ) → q_enc (τ 0 25 0) (q_p1 X 10 k 3 b) → Q (some (zI (X 10 k 3))) τ))
  | _ => False
theorem s_X6_fail {σ : q_M} {k b : Int} {Q : Option q_V → q_M → Prop} : S_X6_fail σ [zR 0 24 0, zI k, zI b] Q = (∃ X, (q_i32 k ∧ (b = 0 ∨ b = 1) ∧ (∃ n, q_Inv n X) ∧ q_enc (σ 0 25 0) X ∧ (0 ≤ σ 0 24 0 0 ∧ σ 0 24 0 0 ≤ 4)) ∧ (¬ (0 ≤ k ∧ k ≤ X 0 0 1 - 1) → Q (some (zI (-2000001))) σ) ∧ ((0 ≤ k ∧ k ≤ X 0 0 1 - 1) → ∀ τ, q_agh τ (q_mact σ) → q_enc (τ 0 25 0) (q_p1 X 10 k 3 b) → Q (some (zI (X 10 k 3))) τ)) := propext ⟨fun h => h.2.2.2, fun h => ⟨rfl, rfl, rfl, h⟩⟩
def S_X6_setMost : q_P := fun σ vs Q => match vs with
  | [.inl (c0, p0, k0), .inr (.inl k), .inr (.inl b), .inr (.inl v)] => c0 = 0 ∧ p0 = 24 ∧ k0 = 0 ∧ (∃ X, ((q_i32 k ∧ q_i32 v) ∧ (b = 0 ∨ b = 1) ∧ (∃ n, q_Inv n X) ∧ q_enc (σ 0 25 0) X ∧ (0 ≤ σ 0 24 0 0 ∧ σ 0 24 0 0 ≤ 4)) ∧ (¬ ((0 ≤ k ∧ k ≤ X 0 0 1 - 1) ∧ 1 ≤ v ∧ v ≤ (if b = 0 then 1000000 else 100000)) → Q (some (zI (-2000001))) σ) ∧ (((0 ≤ k ∧ k ≤ X 0 0 1 - 1) ∧ 1 ≤ v ∧ v ≤ (if b = 0 then 1000000 else 100000)) → ∀ τ, q_agh τ (q_mact σ) → q_enc (τ 0 25 0) (q_p1 X 10 k (if b = 0 then 1 else 2) v) → Q (some (zI (if b = 0 then X 10 k 1 else X 10 k 2))) τ))
  | _ => False
theorem s_X6_setMost {σ : q_M} {k b v : Int} {Q : Option q_V → q_M → Prop} : S_X6_setMost σ [zR 0 24 0, zI k, zI b, zI v] Q = (∃ X, ((q_i32 k ∧ q_i32 v) ∧ (b = 0 ∨ b = 1) ∧ (∃ n, q_Inv n X) ∧ q_enc (σ 0 25 0) X ∧ (0 ≤ σ 0 24 0 0 ∧ σ 0 24 0 0 ≤ 4)) ∧ (¬ ((0 ≤ k ∧ k ≤ X 0 0 1 - 1) ∧ 1 ≤ v ∧ v ≤ (if b = 0 then 1000000 else 100000)) → Q (some (zI (-2000001))) σ) ∧ (((0 ≤ k ∧ k ≤ X 0 0 1 - 1) ∧ 1 ≤ v ∧ v ≤ (if b = 0 then 1000000 else 100000)) → ∀ τ, q_agh τ (q_mact σ) → q_enc (τ 0 25 0) (q_p1 X 10 k (if b = 0 then 1 else 2) v) → Q (some (zI (if b = 0 then X 10 k 1 else X 10 k 2))) τ)) := propext ⟨fun h => h.2.2.2, fun h => ⟨rfl, rfl, rfl, h⟩⟩
def S_X6_wheel : q_P := fun σ vs Q => match vs with
  | [.inl (c0, p0, k0), .inr (.inl k), .inr (.inl w)] => c0 = 0 ∧ p0 = 24 ∧ k0 = 0 ∧ (∃ X, ((q_i32 k ∧ q_i32 w) ∧ (∃ n, q_Inv n X) ∧ q_enc (σ 0 25 0) X) ∧ (¬ ((0 ≤ k ∧ k ≤ X 0 0 1 - 1) ∧ 0 ≤ w ∧ w ≤ 7) → Q (some (zI (-2000001))) σ) ∧ (((0 ≤ k ∧ k ≤ X 0 0 1 - 1) ∧ 0 ≤ w ∧ w ≤ 7) → Q (some (zI (q_wnum X k w))) σ))
  | _ => False
theorem s_X6_wheel {σ : q_M} {k w : Int} {Q : Option q_V → q_M → Prop} : S_X6_wheel σ [zR 0 24 0, zI k, zI w] Q = (∃ X, ((q_i32 k ∧ q_i32 w) ∧ (∃ n, q_Inv n X) ∧ q_enc (σ 0 25 0) X) ∧ (¬ ((0 ≤ k ∧ k ≤ X 0 0 1 - 1) ∧ 0 ≤ w ∧ w ≤ 7) → Q (some (zI (-2000001))) σ) ∧ (((0 ≤ k ∧ k ≤ X 0 0 1 - 1) ∧ 0 ≤ w ∧ w ≤ 7) → Q (some (zI (q_wnum X k w))) σ)) := propext ⟨fun h => h.2.2.2, fun h => ⟨rfl, rfl, rfl, h⟩⟩
def S_X6_wheels : q_P := fun σ vs Q => match vs with
  | [.inl (c0, p0, k0)] => c0 = 0 ∧ p0 = 24 ∧ k0 = 0 ∧ (∃ X, q_enc (σ 0 25 0) X ∧ Q (some (zI (X 0 0 1))) σ)
  | _ => False
theorem s_X6_wheels {σ : q_M}  {Q : Option q_V → q_M → Prop} : S_X6_wheels σ [zR 0 24 0] Q = (∃ X, q_enc (σ 0 25 0) X ∧ Q (some (zI (X 0 0 1))) σ) := propext ⟨fun h => h.2.2.2, fun h => ⟨rfl, rfl, rfl, h⟩⟩
def S_X6_isAxis : q_P := fun σ vs Q => match vs with
  | [.inr (.inl x)] => (q_i32 x ∧ Q (some (zI (q_b (0 ≤ x ∧ x ≤ 2)))) σ)
  | _ => False
theorem s_X6_isAxis {σ : q_M} {x : Int} {Q : Option q_V → q_M → Prop} : S_X6_isAxis σ [zI x] Q = (q_i32 x ∧ Q (some (zI (q_b (0 ≤ x ∧ x ≤ 2)))) σ) := rfl
def S_X6_setAxis : q_P := fun σ vs Q => match vs with
  | [.inl (c0, p0, k0), .inr (.inl a), .inr (.inl w), .inr (.inl v)] => c0 = 0 ∧ p0 = 24 ∧ k0 = 0 ∧ (∃ X, ((q_i32 a ∧ q_i32 w ∧ q_i32 v) ∧ (∃ n, q_Inv n X) ∧ q_enc (σ 0 25 0) X ∧ (0 ≤ σ 0 24 0 0 ∧ σ 0 24 0 0 ≤ 4)) ∧ (¬ ((0 ≤ a ∧ a ≤ 2) ∧ (0 ≤ w ∧ w ≤ 3) ∧ q_tbl 34 w ≤ v ∧ v ≤ q_tbl 35 w) → Q (some (zI (-2000001))) σ) ∧ (((0 ≤ a ∧ a ≤ 2) ∧ (0 ≤ w ∧ w ≤ 3) ∧ q_tbl 34 w ≤ v ∧ v ≤ q_tbl 35 w) → ∀ τ, q_agh τ (q_mact σ) → q_enc (τ 0 25 0) (q_p1 X 3 w a v) → Q (some (zI (X 3 w a))) τ))
  | _ => False
theorem s_X6_setAxis {σ : q_M} {a w v : Int} {Q : Option q_V → q_M → Prop} : S_X6_setAxis σ [zR 0 24 0, zI a, zI w, zI v] Q = (∃ X, ((q_i32 a ∧ q_i32 w ∧ q_i32 v) ∧ (∃ n, q_Inv n X) ∧ q_enc (σ 0 25 0) X ∧ (0 ≤ σ 0 24 0 0 ∧ σ 0 24 0 0 ≤ 4)) ∧ (¬ ((0 ≤ a ∧ a ≤ 2) ∧ (0 ≤ w ∧ w ≤ 3) ∧ q_tbl 34 w ≤ v ∧ v ≤ q_tbl 35 w) → Q (some (zI (-2000001))) σ) ∧ (((0 ≤ a ∧ a ≤ 2) ∧ (0 ≤ w ∧ w ≤ 3) ∧ q_tbl 34 w ≤ v ∧ v ≤ q_tbl 35 w) → ∀ τ, q_agh τ (q_mact σ) → q_enc (τ 0 25 0) (q_p1 X 3 w a v) → Q (some (zI (X 3 w a))) τ)) := propext ⟨fun h => h.2.2.2, fun h => ⟨rfl, rfl, rfl, h⟩⟩
def S_X6_set : q_P := fun σ vs Q => match vs with
  | [.inl (c0, p0, k0), .inr (.inl w), .inr (.inl v)] => c0 = 0 ∧ p0 = 24 ∧ k0 = 0 ∧ (∃ X, ((q_i32 w ∧ q_i32 v) ∧ (∃ n, q_Inv n X) ∧ q_enc (σ 0 25 0) X ∧ (0 ≤ σ 0 24 0 0 ∧ σ 0 24 0 0 ≤ 4)) ∧ (¬ ((0 ≤ w ∧ w ≤ 4) ∧ q_tbl 36 w ≤ v ∧ v ≤ q_tbl 37 w) → Q (some (zI (-2000001))) σ) ∧ (((0 ≤ w ∧ w ≤ 4) ∧ q_tbl 36 w ≤ v ∧ v ≤ q_tbl 37 w) → ∀ τ, q_agh τ (q_mact σ) → q_enc (τ 0 25 0) (q_p1 X 1 0 w v) → Q (some (zI (X 1 0 w))) τ))
  | _ => False
theorem s_X6_set {σ : q_M} {w v : Int} {Q : Option q_V → q_M → Prop} : S_X6_set σ [zR 0 24 0, zI w, zI v] Q = (∃ X, ((q_i32 w ∧ q_i32 v) ∧ (∃ n, q_Inv n X) ∧ q_enc (σ 0 25 0) X ∧ (0 ≤ σ 0 24 0 0 ∧ σ 0 24 0 0 ≤ 4)) ∧ (¬ ((0 ≤ w ∧ w ≤ 4) ∧ q_tbl 36 w ≤ v ∧ v ≤ q_tbl 37 w) → Q (some (zI (-2000001))) σ) ∧ (((0 ≤ w ∧ w ≤ 4) ∧ q_tbl 36 w ≤ v ∧ v ≤ q_tbl 37 w) → ∀ τ, q_agh τ (q_mact σ) → q_enc (τ 0 25 0) (q_p1 X 1 0 w v) → Q (some (zI (X 1 0 w))) τ)) := propext ⟨fun h => h.2.2.2, fun h => ⟨rfl, rfl, rfl, h⟩⟩
def S_X6_setting : q_P := fun σ vs Q => match vs with
  | [.inl (c0, p0, k0), .inr (.inl w)] => c0 = 0 ∧ p0 = 24 ∧ k0 = 0 ∧ (∃ X, (q_i32 w ∧ q_enc (σ 0 25 0) X) ∧ Q (some (zI (if 0 ≤ w ∧ w ≤ 4 then X 1 0 w else -2000001))) σ)
  | _ => False
theorem s_X6_setting {σ : q_M} {w : Int} {Q : Option q_V → q_M → Prop} : S_X6_setting σ [zR 0 24 0, zI w] Q = (∃ X, (q_i32 w ∧ q_enc (σ 0 25 0) X) ∧ Q (some (zI (if 0 ≤ w ∧ w ≤ 4 then X 1 0 w else -2000001))) σ) := propext ⟨fun h => h.2.2.2, fun h => ⟨rfl, rfl, rfl, h⟩⟩
def S_X6_rate : q_P := fun σ vs Q => match vs with
  | [.inl (c0, p0, k0), .inr (.inl a)] => c0 = 0 ∧ p0 = 24 ∧ k0 = 0 ∧ ((q_in a 3 ∧ (-4611686018427387904 ≤ σ 0 25 0 (12 + 8 * a + 1) ∧ σ 0 25 0 (12 + 8 * a + 1) < 4611686018427387904) ∧ (1 ≤ σ 0 25 0 (12 + 8 * a + 2) ∧ σ 0 25 0 (12 + 8 * a + 2) < 4611686018427387904)) ∧ Q (some (zL (σ 0 25 0 (12 + 8 * a + 1) / σ 0 25 0 (12 + 8 * a + 2)))) σ)
  | _ => False
theorem s_X6_rate {σ : q_M} {a : Int} {Q : Option q_V → q_M → Prop} : S_X6_rate σ [zR 0 24 0, zI a] Q = ((q_in a 3 ∧ (-4611686018427387904 ≤ σ 0 25 0 (12 + 8 * a + 1) ∧ σ 0 25 0 (12 + 8 * a + 1) < 4611686018427387904) ∧ (1 ≤ σ 0 25 0 (12 + 8 * a + 2) ∧ σ 0 25 0 (12 + 8 * a + 2) < 4611686018427387904)) ∧ Q (some (zL (σ 0 25 0 (12 + 8 * a + 1) / σ 0 25 0 (12 + 8 * a + 2)))) σ) := propext ⟨fun h => h.2.2.2, fun h => ⟨rfl, rfl, rfl, h⟩⟩
def S_X6_pushes : q_P := fun σ vs Q => match vs with
  | [.inl (c0, p0, k0), .inr (.inl a), .inr (.inr (.inl x))] => c0 = 0 ∧ p0 = 24 ∧ k0 = 0 ∧ (q_in a 3 ∧ Q none (q_wr (q_wr σ 0 25 0 (12 + 8 * a + 1) (σ 0 25 0 (12 + 8 * a + 1) + x)) 0 25 0 (12 + 8 * a + 6) (σ 0 25 0 (12 + 8 * a + 6) + x)))
  | _ => False
theorem s_X6_pushes {σ : q_M} {a x : Int} {Q : Option q_V → q_M → Prop} : S_X6_pushes σ [zR 0 24 0, zI a, zL x] Q = (q_in a 3 ∧ Q none (q_wr (q_wr σ 0 25 0 (12 + 8 * a + 1) (σ 0 25 0 (12 + 8 * a + 1) + x)) 0 25 0 (12 + 8 * a + 6) (σ 0 25 0 (12 + 8 * a + 6) + x))) := propext ⟨fun h => h.2.2.2, fun h => ⟨rfl, rfl, rfl, h⟩⟩
def S_X6_strike : q_P := fun σ vs Q => match vs with
  | [.inl (c0, p0, k0), .inr (.inl a), .inr (.inl x)] => c0 = 0 ∧ p0 = 24 ∧ k0 = 0 ∧ (∃ X, ((q_i32 a ∧ q_i32 x) ∧ (∃ n, q_Inv n X) ∧ q_enc (σ 0 25 0) X ∧ (0 ≤ σ 0 24 0 0 ∧ σ 0 24 0 0 ≤ 4)) ∧ (¬ ((0 ≤ a ∧ a ≤ 2) ∧ -100000 ≤ x ∧ x ≤ 100000) → Q (some (zL (-4611686018427387905))) σ) ∧ (((0 ≤ a ∧ a ≤ 2) ∧ -100000 ≤ x ∧ x ≤ 100000) → ∀ τ, q_agh τ (q_mact σ) → q_enc (τ 0 25 0) (q_psh X a x) → Q (some (zL (q_rate (q_psh X a x) a))) τ))
  | _ => False
theorem s_X6_strike {σ : q_M} {a x : Int} {Q : Option q_V → q_M → Prop} : S_X6_strike σ [zR 0 24 0, zI a, zI x] Q = (∃ X, ((q_i32 a ∧ q_i32 x) ∧ (∃ n, q_Inv n X) ∧ q_enc (σ 0 25 0) X ∧ (0 ≤ σ 0 24 0 0 ∧ σ 0 24 0 0 ≤ 4)) ∧ (¬ ((0 ≤ a ∧ a ≤ 2) ∧ -100000 ≤ x ∧ x ≤ 100000) → Q (some (zL (-4611686018427387905))) σ) ∧ (((0 ≤ a ∧ a ≤ 2) ∧ -100000 ≤ x ∧ x ≤ 100000) → ∀ τ, q_agh τ (q_mact σ) → q_enc (τ 0 25 0) (q_psh X a x) → Q (some (zL (q_rate (q_psh X a x) a))) τ)) := propext ⟨fun h => h.2.2.2, fun h => ⟨rfl, rfl, rfl, h⟩⟩
def S_X6_other : q_P := fun σ vs Q => match vs with
  | [.inr (.inl a), .inr (.inl s)] => ((0 ≤ a + s ∧ a + s < 2147483648) ∧ Q (some (zI ((a + s) % 3))) σ)
  | _ => False
theorem s_X6_other {σ : q_M} {a s : Int} {Q : Option q_V → q_M → Prop} : S_X6_other σ [zI a, zI s] Q = ((0 ≤ a + s ∧ a + s < 2147483648) ∧ Q (some (zI ((a + s) % 3))) σ) := rfl
def S_X6_spans : q_P := fun σ vs Q => match vs with
  | [.inl (c0, p0, k0), .inr (.inl lo)] => c0 = 0 ∧ p0 = 24 ∧ k0 = 0 ∧ (∃ X, ((∃ n, q_Inv n X) ∧ q_enc (σ 0 25 0) X ∧ q_i32 lo) ∧ ∀ τ, q_ag2 τ σ → τ 0 24 0 1 = q_det X lo → (∀ i j, q_in i 3 → q_in j 3 → τ 0 29 0 (3 * i + j) = q_cof X lo i j) → Q none τ)
  | _ => False
theorem s_X6_spans {σ : q_M} {lo : Int} {Q : Option q_V → q_M → Prop} : S_X6_spans σ [zR 0 24 0, zI lo] Q = (∃ X, ((∃ n, q_Inv n X) ∧ q_enc (σ 0 25 0) X ∧ q_i32 lo) ∧ ∀ τ, q_ag2 τ σ → τ 0 24 0 1 = q_det X lo → (∀ i j, q_in i 3 → q_in j 3 → τ 0 29 0 (3 * i + j) = q_cof X lo i j) → Q none τ) := propext ⟨fun h => h.2.2.2, fun h => ⟨rfl, rfl, rfl, h⟩⟩
def S_X6_wishOf : q_P := fun σ vs Q => match vs with
  | [.inl (c0, p0, k0), .inr (.inl k), .inr (.inr (.inl t0)), .inr (.inr (.inl t1)), .inr (.inr (.inl t2))] => c0 = 0 ∧ p0 = 24 ∧ k0 = 0 ∧ ((q_in k 6 ∧ (-4611686018427387904 ≤ (2 * -(q_wsm σ k t0 t1 t2) + σ 0 24 0 1) ∧ (2 * -(q_wsm σ k t0 t1 t2) + σ 0 24 0 1) < 4611686018427387904) ∧ (1 ≤ (2 * σ 0 24 0 1) ∧ (2 * σ 0 24 0 1) < 4611686018427387904)) ∧ Q (some (zL ((2 * -(q_wsm σ k t0 t1 t2) + σ 0 24 0 1) / (2 * σ 0 24 0 1)))) σ)
  | _ => False
theorem s_X6_wishOf {σ : q_M} {k t0 t1 t2 : Int} {Q : Option q_V → q_M → Prop} : S_X6_wishOf σ [zR 0 24 0, zI k, zL t0, zL t1, zL t2] Q = ((q_in k 6 ∧ (-4611686018427387904 ≤ (2 * -(q_wsm σ k t0 t1 t2) + σ 0 24 0 1) ∧ (2 * -(q_wsm σ k t0 t1 t2) + σ 0 24 0 1) < 4611686018427387904) ∧ (1 ≤ (2 * σ 0 24 0 1) ∧ (2 * σ 0 24 0 1) < 4611686018427387904)) ∧ Q (some (zL ((2 * -(q_wsm σ k t0 t1 t2) + σ 0 24 0 1) / (2 * σ 0 24 0 1)))) σ) := propext ⟨fun h => h.2.2.2, fun h => ⟨rfl, rfl, rfl, h⟩⟩
def S_X6_room : q_P := fun σ vs Q => match vs with
  | [.inl (c0, p0, k0), .inr (.inl k), .inr (.inr (.inl w))] => c0 = 0 ∧ p0 = 24 ∧ k0 = 0 ∧ (∃ X, ((∃ n, q_Inv n X) ∧ q_enc (σ 0 25 0) X ∧ q_in k 6 ∧ q_i64 w) ∧ Q (some (zL (q_lim w (q_dn X k) (q_up X k)))) σ)
  | _ => False
theorem s_X6_room {σ : q_M} {k w : Int} {Q : Option q_V → q_M → Prop} : S_X6_room σ [zR 0 24 0, zI k, zL w] Q = (∃ X, ((∃ n, q_Inv n X) ∧ q_enc (σ 0 25 0) X ∧ q_in k 6 ∧ q_i64 w) ∧ Q (some (zL (q_lim w (q_dn X k) (q_up X k)))) σ) := propext ⟨fun h => h.2.2.2, fun h => ⟨rfl, rfl, rfl, h⟩⟩
def S_X6_gives : q_P := fun σ vs Q => match vs with
  | [.inl (c0, p0, k0), .inr (.inl k), .inr (.inr (.inl w))] => c0 = 0 ∧ p0 = 24 ∧ k0 = 0 ∧ (q_in k 6 ∧ Q none (q_v σ (q_vg (σ 0 25 0) k w)))
  | _ => False
theorem s_X6_gives {σ : q_M} {k w : Int} {Q : Option q_V → q_M → Prop} : S_X6_gives σ [zR 0 24 0, zI k, zL w] Q = (q_in k 6 ∧ Q none (q_v σ (q_vg (σ 0 25 0) k w))) := propext ⟨fun h => h.2.2.2, fun h => ⟨rfl, rfl, rfl, h⟩⟩
def S_X6_shares : q_P := fun σ vs Q => match vs with
  | [.inl (c0, p0, k0)] => c0 = 0 ∧ p0 = 24 ∧ k0 = 0 ∧ (∃ X, ((∃ n, q_Inv n X) ∧ q_enc (σ 0 25 0) X ∧ (∀ i, q_in i 3 → σ 0 30 0 i = X 7 0 i)) ∧ ∀ τ, q_agv τ σ → q_enc (τ 0 25 0) (q_sh X) → Q (some (zI (q_b (q_sh X 9 0 0 = 0)))) τ)
  | _ => False
theorem s_X6_shares {σ : q_M}  {Q : Option q_V → q_M → Prop} : S_X6_shares σ [zR 0 24 0] Q = (∃ X, ((∃ n, q_Inv n X) ∧ q_enc (σ 0 25 0) X ∧ (∀ i, q_in i 3 → σ 0 30 0 i = X 7 0 i)) ∧ ∀ τ, q_agv τ σ → q_enc (τ 0 25 0) (q_sh X) → Q (some (zI (q_b (q_sh X 9 0 0 = 0)))) τ) := propext ⟨fun h => h.2.2.2, fun h => ⟨rfl, rfl, rfl, h⟩⟩
def S_X6_product : q_P := fun σ vs Q => match vs with
  | [.inl (c0, px, k0), .inl (c1, py, k1), .inr (.inl i)] => c0 = 0 ∧ k0 = 0 ∧ c1 = 0 ∧ k1 = 0 ∧ (((px = 31 ∨ px = 33) ∧ py = 32 ∧ q_in i 3) ∧ Q (some (zL (q_cr (σ 0 px 0) (σ 0 py 0) i))) σ)
  | _ => False
theorem s_X6_product {σ : q_M} {px py : Nat} {i : Int} {Q : Option q_V → q_M → Prop} : S_X6_product σ [zR 0 px 0, zR 0 py 0, zI i] Q = (((px = 31 ∨ px = 33) ∧ py = 32 ∧ q_in i 3) ∧ Q (some (zL (q_cr (σ 0 px 0) (σ 0 py 0) i))) σ) := propext ⟨fun h => h.2.2.2.2, fun h => ⟨rfl, rfl, rfl, rfl, h⟩⟩
def S_X6_drops : q_P := fun σ vs Q => match vs with
  | [.inl (c0, p0, k0)] => c0 = 0 ∧ p0 = 24 ∧ k0 = 0 ∧ (∃ X, ((∃ n, q_Inv n X) ∧ q_enc (σ 0 25 0) X) ∧ ∀ τ, q_agv τ σ → q_enc (τ 0 25 0) (q_dis (q_lgo X)) → Q none τ)
  | _ => False
theorem s_X6_drops {σ : q_M}  {Q : Option q_V → q_M → Prop} : S_X6_drops σ [zR 0 24 0] Q = (∃ X, ((∃ n, q_Inv n X) ∧ q_enc (σ 0 25 0) X) ∧ ∀ τ, q_agv τ σ → q_enc (τ 0 25 0) (q_dis (q_lgo X)) → Q none τ) := propext ⟨fun h => h.2.2.2, fun h => ⟨rfl, rfl, rfl, h⟩⟩
def S_X6_passes : q_P := fun σ vs Q => match vs with
  | [.inl (c0, p0, k0)] => c0 = 0 ∧ p0 = 24 ∧ k0 = 0 ∧ (∃ X, ((∃ n, q_Inv n X) ∧ q_enc (σ 0 25 0) X ∧ X 0 0 0 ≤ 50600) ∧ ∀ τ, q_agv τ σ → q_enc (τ 0 25 0) (q_step X) → Q (some (zI (q_b (q_step X 9 0 0 = 0)))) τ)
  | _ => False
theorem s_X6_passes {σ : q_M}  {Q : Option q_V → q_M → Prop} : S_X6_passes σ [zR 0 24 0] Q = (∃ X, ((∃ n, q_Inv n X) ∧ q_enc (σ 0 25 0) X ∧ X 0 0 0 ≤ 50600) ∧ ∀ τ, q_agv τ σ → q_enc (τ 0 25 0) (q_step X) → Q (some (zI (q_b (q_step X 9 0 0 = 0)))) τ) := propext ⟨fun h => h.2.2.2, fun h => ⟨rfl, rfl, rfl, h⟩⟩
def S_X6_tick : q_P := fun σ vs Q => match vs with
  | [.inl (c0, p0, k0), .inr (.inl t)] => c0 = 0 ∧ p0 = 24 ∧ k0 = 0 ∧ (∃ X, (q_i32 t ∧ (∃ n, q_Inv n X) ∧ q_enc (σ 0 25 0) X ∧ (0 ≤ σ 0 24 0 0 ∧ σ 0 24 0 0 ≤ 4)) ∧ (¬ (1 ≤ t ∧ t ≤ 200) → Q (some (zI (-2000001))) σ) ∧ ((1 ≤ t ∧ t ≤ 200) → 50000 < X 0 0 0 + t → Q (some (zI (-2000002))) σ) ∧ ((1 ≤ t ∧ t ≤ 200) → X 0 0 0 + t ≤ 50000 → ∀ τ, q_agv τ (q_mact σ) → q_enc (τ 0 25 0) (q_it t.toNat X) → Q (some (zI (q_mets X t.toNat))) τ))
  | _ => False
theorem s_X6_tick {σ : q_M} {t : Int} {Q : Option q_V → q_M → Prop} : S_X6_tick σ [zR 0 24 0, zI t] Q = (∃ X, (q_i32 t ∧ (∃ n, q_Inv n X) ∧ q_enc (σ 0 25 0) X ∧ (0 ≤ σ 0 24 0 0 ∧ σ 0 24 0 0 ≤ 4)) ∧ (¬ (1 ≤ t ∧ t ≤ 200) → Q (some (zI (-2000001))) σ) ∧ ((1 ≤ t ∧ t ≤ 200) → 50000 < X 0 0 0 + t → Q (some (zI (-2000002))) σ) ∧ ((1 ≤ t ∧ t ≤ 200) → X 0 0 0 + t ≤ 50000 → ∀ τ, q_agv τ (q_mact σ) → q_enc (τ 0 25 0) (q_it t.toNat X) → Q (some (zI (q_mets X t.toNat))) τ)) := propext ⟨fun h => h.2.2.2, fun h => ⟨rfl, rfl, rfl, h⟩⟩
def S_X6_time : q_P := fun σ vs Q => match vs with
  | [.inl (c0, p0, k0)] => c0 = 0 ∧ p0 = 24 ∧ k0 = 0 ∧ (∃ X, q_enc (σ 0 25 0) X ∧ Q (some (zI (X 0 0 0))) σ)
  | _ => False
theorem s_X6_time {σ : q_M}  {Q : Option q_V → q_M → Prop} : S_X6_time σ [zR 0 24 0] Q = (∃ X, q_enc (σ 0 25 0) X ∧ Q (some (zI (X 0 0 0))) σ) := propext ⟨fun h => h.2.2.2, fun h => ⟨rfl, rfl, rfl, h⟩⟩
def S_X6_whole : q_P := fun σ vs Q => match vs with
  | [.inl (c0, p0, k0), .inr (.inl a)] => c0 = 0 ∧ p0 = 24 ∧ k0 = 0 ∧ (∃ X, ((∃ n, q_Inv n X) ∧ q_enc (σ 0 25 0) X ∧ q_in a 3) ∧ Q (some (zL (X 5 0 a + q_wmom X a))) σ)
  | _ => False
theorem s_X6_whole {σ : q_M} {a : Int} {Q : Option q_V → q_M → Prop} : S_X6_whole σ [zR 0 24 0, zI a] Q = (∃ X, ((∃ n, q_Inv n X) ∧ q_enc (σ 0 25 0) X ∧ q_in a 3) ∧ Q (some (zL (X 5 0 a + q_wmom X a))) σ) := propext ⟨fun h => h.2.2.2, fun h => ⟨rfl, rfl, rfl, h⟩⟩
def S_X6_told : q_P := fun σ vs Q => match vs with
  | [.inl (c0, p0, k0), .inr (.inl a), .inr (.inl w)] => c0 = 0 ∧ p0 = 24 ∧ k0 = 0 ∧ (∃ X, ((∃ n, q_Inv n X) ∧ q_enc (σ 0 25 0) X ∧ q_in a 3 ∧ q_in w 10) ∧ Q (some (zL (q_cnum X a w))) σ)
  | _ => False
theorem s_X6_told {σ : q_M} {a w : Int} {Q : Option q_V → q_M → Prop} : S_X6_told σ [zR 0 24 0, zI a, zI w] Q = (∃ X, ((∃ n, q_Inv n X) ∧ q_enc (σ 0 25 0) X ∧ q_in a 3 ∧ q_in w 10) ∧ Q (some (zL (q_cnum X a w))) σ) := propext ⟨fun h => h.2.2.2, fun h => ⟨rfl, rfl, rfl, h⟩⟩
def S_X6_axis : q_P := fun σ vs Q => match vs with
  | [.inl (c0, p0, k0), .inr (.inl a), .inr (.inl w)] => c0 = 0 ∧ p0 = 24 ∧ k0 = 0 ∧ (∃ X, ((q_i32 a ∧ q_i32 w) ∧ (∃ n, q_Inv n X) ∧ q_enc (σ 0 25 0) X) ∧ Q (some (zL (if ((0 ≤ a ∧ a ≤ 2) ∧ 0 ≤ w ∧ w ≤ 9) then q_cnum X a w else -4611686018427387905))) σ)
  | _ => False
theorem s_X6_axis {σ : q_M} {a w : Int} {Q : Option q_V → q_M → Prop} : S_X6_axis σ [zR 0 24 0, zI a, zI w] Q = (∃ X, ((q_i32 a ∧ q_i32 w) ∧ (∃ n, q_Inv n X) ∧ q_enc (σ 0 25 0) X) ∧ Q (some (zL (if ((0 ≤ a ∧ a ≤ 2) ∧ 0 ≤ w ∧ w ≤ 9) then q_cnum X a w else -4611686018427387905))) σ) := propext ⟨fun h => h.2.2.2, fun h => ⟨rfl, rfl, rfl, h⟩⟩
def S_X6_span : q_P := fun σ vs Q => match vs with
  | [.inl (c0, p0, k0)] => c0 = 0 ∧ p0 = 24 ∧ k0 = 0 ∧ (∃ X, ((∃ n, q_Inv n X) ∧ q_enc (σ 0 25 0) X) ∧ ∀ τ, q_ags τ σ → Q (some (zL (q_det X (-2000009)))) τ)
  | _ => False
theorem s_X6_span {σ : q_M}  {Q : Option q_V → q_M → Prop} : S_X6_span σ [zR 0 24 0] Q = (∃ X, ((∃ n, q_Inv n X) ∧ q_enc (σ 0 25 0) X) ∧ ∀ τ, q_ags τ σ → Q (some (zL (q_det X (-2000009)))) τ) := propext ⟨fun h => h.2.2.2, fun h => ⟨rfl, rfl, rfl, h⟩⟩
def S_X6_isTorque : q_P := fun σ vs Q => match vs with
  | [.inr (.inl x)] => (q_i32 x ∧ Q (some (zI (q_b (-100000 ≤ x ∧ x ≤ 100000)))) σ)
  | _ => False
theorem s_X6_isTorque {σ : q_M} {x : Int} {Q : Option q_V → q_M → Prop} : S_X6_isTorque σ [zI x] Q = (q_i32 x ∧ Q (some (zI (q_b (-100000 ≤ x ∧ x ≤ 100000)))) σ) := rfl
def S_X6_wish : q_P := fun σ vs Q => match vs with
  | [.inl (c0, p0, k0), .inr (.inl k), .inr (.inl t0), .inr (.inl t1), .inr (.inl t2)] => c0 = 0 ∧ p0 = 24 ∧ k0 = 0 ∧ (∃ X, ((q_i32 k ∧ q_i32 t0 ∧ q_i32 t1 ∧ q_i32 t2) ∧ (∃ n, q_Inv n X) ∧ q_enc (σ 0 25 0) X) ∧ ∀ τ, q_ags τ σ → Q (some (zL (if ((0 ≤ k ∧ k ≤ X 0 0 1 - 1) ∧ (-100000 ≤ t0 ∧ t0 ≤ 100000) ∧ (-100000 ≤ t1 ∧ t1 ≤ 100000) ∧ (-100000 ≤ t2 ∧ t2 ≤ 100000)) ∧ X 10 k 3 = 0 ∧ 0 < q_det X (-2000009) then q_wsh X k t0 t1 t2 else -4611686018427387905))) τ)
  | _ => False
theorem s_X6_wish {σ : q_M} {k t0 t1 t2 : Int} {Q : Option q_V → q_M → Prop} : S_X6_wish σ [zR 0 24 0, zI k, zI t0, zI t1, zI t2] Q = (∃ X, ((q_i32 k ∧ q_i32 t0 ∧ q_i32 t1 ∧ q_i32 t2) ∧ (∃ n, q_Inv n X) ∧ q_enc (σ 0 25 0) X) ∧ ∀ τ, q_ags τ σ → Q (some (zL (if ((0 ≤ k ∧ k ≤ X 0 0 1 - 1) ∧ (-100000 ≤ t0 ∧ t0 ≤ 100000) ∧ (-100000 ≤ t1 ∧ t1 ≤ 100000) ∧ (-100000 ≤ t2 ∧ t2 ≤ 100000)) ∧ X 10 k 3 = 0 ∧ 0 < q_det X (-2000009) then q_wsh X k t0 t1 t2 else -4611686018427387905))) τ) := propext ⟨fun h => h.2.2.2, fun h => ⟨rfl, rfl, rfl, h⟩⟩
def S_X6_why : q_P := fun σ vs Q => match vs with
  | [.inl (c0, p0, k0), .inr (.inl d)] => c0 = 0 ∧ p0 = 24 ∧ k0 = 0 ∧ (∃ X, (q_i32 d ∧ (∃ n, q_Inv n X) ∧ q_enc (σ 0 25 0) X) ∧ Q (some (zI (if d < 0 then -2000001 else if d < X 0 0 2 then X 9 0 d else -2000009))) σ)
  | _ => False
theorem s_X6_why {σ : q_M} {d : Int} {Q : Option q_V → q_M → Prop} : S_X6_why σ [zR 0 24 0, zI d] Q = (∃ X, (q_i32 d ∧ (∃ n, q_Inv n X) ∧ q_enc (σ 0 25 0) X) ∧ Q (some (zI (if d < 0 then -2000001 else if d < X 0 0 2 then X 9 0 d else -2000009))) σ) := propext ⟨fun h => h.2.2.2, fun h => ⟨rfl, rfl, rfl, h⟩⟩
def S_X6_fullness : q_P := fun σ vs Q => match vs with
  | [.inl (c0, p0, k0)] => c0 = 0 ∧ p0 = 24 ∧ k0 = 0 ∧ (∃ X, ((∃ n, q_Inv n X) ∧ q_enc (σ 0 25 0) X) ∧ Q (some (zF (q_fmx X (X 0 0 1).toNat))) σ)
  | _ => False
theorem s_X6_fullness {σ : q_M}  {Q : Option q_V → q_M → Prop} : S_X6_fullness σ [zR 0 24 0] Q = (∃ X, ((∃ n, q_Inv n X) ∧ q_enc (σ 0 25 0) X) ∧ Q (some (zF (q_fmx X (X 0 0 1).toNat))) σ) := propext ⟨fun h => h.2.2.2, fun h => ⟨rfl, rfl, rfl, h⟩⟩
def S_X6_isThere : q_P := fun σ vs Q => match vs with
  | [.inl (c0, p0, k0), .inr (.inl b)] => c0 = 0 ∧ p0 = 24 ∧ k0 = 0 ∧ (∃ X, ((∃ n, q_Inv n X) ∧ q_enc (σ 0 25 0) X ∧ q_i32 b) ∧ Q (some (zI (q_oni X b))) σ)
  | _ => False
theorem s_X6_isThere {σ : q_M} {b : Int} {Q : Option q_V → q_M → Prop} : S_X6_isThere σ [zR 0 24 0, zI b] Q = (∃ X, ((∃ n, q_Inv n X) ∧ q_enc (σ 0 25 0) X ∧ q_i32 b) ∧ Q (some (zI (q_oni X b))) σ) := propext ⟨fun h => h.2.2.2, fun h => ⟨rfl, rfl, rfl, h⟩⟩
def S_X6_arrives : q_P := fun σ vs Q => match vs with
  | [.inl (c0, p0, k0), .inr (.inl b)] => c0 = 0 ∧ p0 = 24 ∧ k0 = 0 ∧ (∃ X, (q_i32 b ∧ (∃ n, q_Inv n X) ∧ q_enc (σ 0 25 0) X ∧ X 0 0 0 ≤ 50000) ∧ ∀ τ, q_agw τ σ → q_enc (τ 0 25 0) X → Q (some (zI (if 0 ≤ b ∧ b ≤ 1000000 then q_arr X b 501 else -2000001))) τ)
  | _ => False
theorem s_X6_arrives {σ : q_M} {b : Int} {Q : Option q_V → q_M → Prop} : S_X6_arrives σ [zR 0 24 0, zI b] Q = (∃ X, (q_i32 b ∧ (∃ n, q_Inv n X) ∧ q_enc (σ 0 25 0) X ∧ X 0 0 0 ≤ 50000) ∧ ∀ τ, q_agw τ σ → q_enc (τ 0 25 0) X → Q (some (zI (if 0 ≤ b ∧ b ≤ 1000000 then q_arr X b 501 else -2000001))) τ) := propext ⟨fun h => h.2.2.2, fun h => ⟨rfl, rfl, rfl, h⟩⟩
def S_X6_spare : q_P := fun σ vs Q => match vs with
  | [.inl (c0, p0, k0)] => c0 = 0 ∧ p0 = 24 ∧ k0 = 0 ∧ (∃ X, ((∃ n, q_Inv n X) ∧ q_enc (σ 0 25 0) X) ∧ ∀ τ, q_ags τ σ → Q (some (zI (q_spr X (X 0 0 1).toNat))) τ)
  | _ => False
theorem s_X6_spare {σ : q_M}  {Q : Option q_V → q_M → Prop} : S_X6_spare σ [zR 0 24 0] Q = (∃ X, ((∃ n, q_Inv n X) ∧ q_enc (σ 0 25 0) X) ∧ ∀ τ, q_ags τ σ → Q (some (zI (q_spr X (X 0 0 1).toNat))) τ) := propext ⟨fun h => h.2.2.2, fun h => ⟨rfl, rfl, rfl, h⟩⟩
def S_X6_gravest : q_P := fun σ vs Q => match vs with
  | [.inl (c0, p0, k0), .inr (.inl t)] => c0 = 0 ∧ p0 = 24 ∧ k0 = 0 ∧ (∃ X, (q_i32 t ∧ (∃ n, q_Inv n X) ∧ q_enc (σ 0 25 0) X ∧ X 0 0 0 ≤ 50000) ∧ ∀ τ, q_agw τ σ → q_enc (τ 0 25 0) X → Q (some (zI (if 1 ≤ t ∧ t ≤ 100 then (q_grv X t.toNat (X 0 0 1).toNat).1 else -2000001))) τ)
  | _ => False
theorem s_X6_gravest {σ : q_M} {t : Int} {Q : Option q_V → q_M → Prop} : S_X6_gravest σ [zR 0 24 0, zI t] Q = (∃ X, (q_i32 t ∧ (∃ n, q_Inv n X) ∧ q_enc (σ 0 25 0) X ∧ X 0 0 0 ≤ 50000) ∧ ∀ τ, q_agw τ σ → q_enc (τ 0 25 0) X → Q (some (zI (if 1 ≤ t ∧ t ≤ 100 then (q_grv X t.toNat (X 0 0 1).toNat).1 else -2000001))) τ) := propext ⟨fun h => h.2.2.2, fun h => ⟨rfl, rfl, rfl, h⟩⟩
def S_X6_undo : q_P := fun σ vs Q => match vs with
  | [.inl (c0, p0, k0)] => c0 = 0 ∧ p0 = 24 ∧ k0 = 0 ∧ ((0 ≤ σ 0 24 0 0 ∧ σ 0 24 0 0 ≤ 4) ∧ (σ 0 24 0 0 = 0 → Q (some (zI (-2000009))) σ) ∧ (¬ σ 0 24 0 0 = 0 → Q (some (zI (σ 0 24 0 0 - 1))) (q_und σ)))
  | _ => False
theorem s_X6_undo {σ : q_M}  {Q : Option q_V → q_M → Prop} : S_X6_undo σ [zR 0 24 0] Q = ((0 ≤ σ 0 24 0 0 ∧ σ 0 24 0 0 ≤ 4) ∧ (σ 0 24 0 0 = 0 → Q (some (zI (-2000009))) σ) ∧ (¬ σ 0 24 0 0 = 0 → Q (some (zI (σ 0 24 0 0 - 1))) (q_und σ))) := propext ⟨fun h => h.2.2.2, fun h => ⟨rfl, rfl, rfl, h⟩⟩
def S_X6_fingerprint : q_P := fun σ vs Q => match vs with
  | [.inl (c0, p0, k0)] => c0 = 0 ∧ p0 = 24 ∧ k0 = 0 ∧ (∃ X, ((∃ n, q_Inv n X) ∧ q_enc (σ 0 25 0) X) ∧ ∀ τ, q_ags τ σ → Q (some (zL (q_fpr X))) τ)
  | _ => False
theorem s_X6_fingerprint {σ : q_M}  {Q : Option q_V → q_M → Prop} : S_X6_fingerprint σ [zR 0 24 0] Q = (∃ X, ((∃ n, q_Inv n X) ∧ q_enc (σ 0 25 0) X) ∧ ∀ τ, q_ags τ σ → Q (some (zL (q_fpr X))) τ) := propext ⟨fun h => h.2.2.2, fun h => ⟨rfl, rfl, rfl, h⟩⟩
