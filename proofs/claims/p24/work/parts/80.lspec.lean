/-! ===== what the law's methods ask of the desk's state ===== -/
def q_fls (τ : q_M) : Prop := ∀ j, q_in j 4 → q_Fl (τ (τ 0 22 0 j))
/-- the desk stands at Y -/
def q_st (Y : q_X) (τ : q_M) : Prop := q_c11 (τ 0) Y ∧ q_Hs τ ∧ q_fls τ
/-- the history's newest row is Y -/
def q_ud (Y : q_X) (τ : q_M) : Prop := 0 < τ 0 21 0 0 ∧ q_c11 (τ (τ 0 22 0 (τ 0 21 0 0 - 1))) Y
/-- reasons that are told behind a tick, with n wheels -/
def q_rsn (X : q_X) (n : Int) : Prop := (X 9 0 0 = 0 ∧ X 0 0 2 = 1) ∨ (X 9 0 0 = 1 ∧ X 0 0 2 = 1) ∨ (X 9 0 0 = 1 ∧ X 0 0 2 = 2 ∧ 10 ≤ X 9 0 1 ∧ X 9 0 1 < 10 + n) ∨ (X 9 0 0 = 2 ∧ X 0 0 2 = 3 ∧ (20 ≤ X 9 0 1 ∧ X 9 0 1 < 20 + n) ∧ (X 9 0 2 = 3 ∨ X 9 0 2 = 4))
/-! ===== the law's own arrays: the script, the row of sums ===== -/
def o_alen (L : Int) (σ : q_M) (lv : q_L) (st : q_S) (K : q_K) : Prop := match st with
  | .inl r :: st => r = (0, 38, 0) ∧ K σ lv (zI L :: st)
  | _ => False
def o_sld (F : Int → Int) (L : Int) (σ : q_M) (lv : q_L) (st : q_S) (K : q_K) : Prop := match st with
  | .inr (.inl i) :: .inl r :: st => r = (0, 38, 0) ∧ 0 ≤ i ∧ i < L ∧ K σ lv (zI (F i) :: st)
  | _ => False
def o_xld (σ : q_M) (lv : q_L) (st : q_S) (K : q_K) : Prop := match st with
  | .inr (.inl i) :: .inl r :: st => r = (0, 24, 0) ∧ 0 ≤ i ∧ i < 3 ∧ K σ lv (zL (σ 0 24 0 i) :: st)
  | _ => False
def o_xst (σ : q_M) (lv : q_L) (st : q_S) (K : q_K) : Prop := match st with
  | .inr (.inr (.inl x)) :: .inr (.inl i) :: .inl r :: st => r = (0, 24, 0) ∧ 0 ≤ i ∧ i < 3 ∧ K (q_wr σ 0 24 0 i x) lv st
  | _ => False
theorem e_alen {L : Int} {σ : q_M} {lv : q_L} {st : q_S} {K : q_K} : (o_alen L σ lv (.inl (0, 38, 0) :: st) K) = (K σ lv (zI L :: st)) := propext ⟨fun h => h.2, fun h => ⟨rfl, h⟩⟩
theorem e_sldS {F : Int → Int} {L i : Int} {σ : q_M} {lv : q_L} {st : q_S} {K : q_K} : (o_sld F L σ lv (zI i :: .inl (0, 38, 0) :: st) K) = (q_in i L ∧ K σ lv (zI (F i) :: st)) := propext ⟨fun h => ⟨⟨h.2.1, h.2.2.1⟩, h.2.2.2⟩, fun h => ⟨rfl, h.1.1, h.1.2, h.2⟩⟩
theorem e_xld {i : Int} {σ : q_M} {lv : q_L} {st : q_S} {K : q_K} : (o_xld σ lv (zI i :: .inl (0, 24, 0) :: st) K) = (q_in i 3 ∧ K σ lv (zL (σ 0 24 0 i) :: st)) := propext ⟨fun h => ⟨⟨h.2.1, h.2.2.1⟩, h.2.2.2⟩, fun h => ⟨rfl, h.1.1, h.1.2, h.2⟩⟩
theorem e_xst {i x : Int} {σ : q_M} {lv : q_L} {st : q_S} {K : q_K} : (o_xst σ lv (zL x :: zI i :: .inl (0, 24, 0) :: st) K) = (q_in i 3 ∧ K (q_wr σ 0 24 0 i x) lv st) := propext ⟨fun h => ⟨⟨h.2.1, h.2.2.1⟩, h.2.2.2⟩, fun h => ⟨rfl, h.1.1, h.1.2, h.2⟩⟩

def S_L_cell : q_P := fun σ vs Q => match vs with
  | [.inl (c0, p0, k0), .inr (.inl k)] => c0 = 0 ∧ p0 = 38 ∧ k0 = 0 ∧ ((0 ≤ k ∧ k < 1000) ∧ ∀ x, Q (some (zI x)) σ)
  | _ => False
theorem s_L_cell {σ : q_M} {k : Int} {Q : Option q_V → q_M → Prop} : S_L_cell σ [zR 0 38 0, zI k] Q = ((0 ≤ k ∧ k < 1000) ∧ ∀ x, Q (some (zI x)) σ) := propext ⟨fun h => h.2.2.2, fun h => ⟨rfl, rfl, rfl, h⟩⟩
def S_L_up : q_P := fun σ vs Q => match vs with
  | [.inr (.inl x), .inr (.inl m)] => ((1 ≤ m ∧ m < 2147483648) ∧ ∀ y, 0 ≤ y → y < m → Q (some (zI y)) σ)
  | _ => False
theorem s_L_up {σ : q_M} {x m : Int} {Q : Option q_V → q_M → Prop} : S_L_up σ [zI x, zI m] Q = ((1 ≤ m ∧ m < 2147483648) ∧ ∀ y, 0 ≤ y → y < m → Q (some (zI y)) σ) := rfl
def S_L_fails : q_P := fun σ vs Q => match vs with
  | [.inl (c0, p0, k0), .inr (.inl n)] => c0 = 0 ∧ p0 = 23 ∧ k0 = 0 ∧ (∃ Y, (((∃ n, q_Inv n Y) ∧ q_st Y σ) ∧ Y 0 0 0 ≤ 50000 ∧ n = Y 0 0 1) ∧ ∀ τ, q_st Y τ → Q (some (zI 1)) τ)
  | _ => False
theorem s_L_fails {σ : q_M} {n : Int} {Q : Option q_V → q_M → Prop} : S_L_fails σ [zR 0 23 0, zI n] Q = (∃ Y, (((∃ n, q_Inv n Y) ∧ q_st Y σ) ∧ Y 0 0 0 ≤ 50000 ∧ n = Y 0 0 1) ∧ ∀ τ, q_st Y τ → Q (some (zI 1)) τ) := propext ⟨fun h => h.2.2.2, fun h => ⟨rfl, rfl, rfl, h⟩⟩
def S_L_keeps : q_P := fun σ vs Q => match vs with
  | [.inl (c0, p0, k0), .inr (.inl n)] => c0 = 0 ∧ p0 = 23 ∧ k0 = 0 ∧ (∃ Y, (((∃ n, q_Inv n Y) ∧ q_st Y σ) ∧ n = Y 0 0 1) ∧ Q (some (zI 1)) σ)
  | _ => False
theorem s_L_keeps {σ : q_M} {n : Int} {Q : Option q_V → q_M → Prop} : S_L_keeps σ [zR 0 23 0, zI n] Q = (∃ Y, (((∃ n, q_Inv n Y) ∧ q_st Y σ) ∧ n = Y 0 0 1) ∧ Q (some (zI 1)) σ) := propext ⟨fun h => h.2.2.2, fun h => ⟨rfl, rfl, rfl, h⟩⟩
def S_L_reasons : q_P := fun σ vs Q => match vs with
  | [.inl (c0, p0, k0), .inr (.inl n)] => c0 = 0 ∧ p0 = 23 ∧ k0 = 0 ∧ (∃ Y, (((∃ n, q_Inv n Y) ∧ q_st Y σ) ∧ q_rsn Y n ∧ (0 ≤ n ∧ n ≤ 6)) ∧ Q (some (zI 1)) σ)
  | _ => False
theorem s_L_reasons {σ : q_M} {n : Int} {Q : Option q_V → q_M → Prop} : S_L_reasons σ [zR 0 23 0, zI n] Q = (∃ Y, (((∃ n, q_Inv n Y) ∧ q_st Y σ) ∧ q_rsn Y n ∧ (0 ≤ n ∧ n ≤ 6)) ∧ Q (some (zI 1)) σ) := propext ⟨fun h => h.2.2.2, fun h => ⟨rfl, rfl, rfl, h⟩⟩
def S_L_size : q_P := fun σ vs Q => match vs with
  | [.inr (.inr (.inl x))] => (q_i64 x ∧ Q (some (zL (q_ab x))) σ)
  | _ => False
theorem s_L_size {σ : q_M} {x : Int} {Q : Option q_V → q_M → Prop} : S_L_size σ [zL x] Q = (q_i64 x ∧ Q (some (zL (q_ab x))) σ) := rfl
def S_L_wishes : q_P := fun σ vs Q => match vs with
  | [.inl (c0, p0, k0), .inr (.inl n), .inr (.inl t0), .inr (.inl t1), .inr (.inl t2)] => c0 = 0 ∧ p0 = 23 ∧ k0 = 0 ∧ (∃ Y, (((∃ n, q_Inv n Y) ∧ q_st Y σ) ∧ n = Y 0 0 1 ∧ (-10000 ≤ t0 ∧ t0 ≤ 10000) ∧ (-10000 ≤ t1 ∧ t1 ≤ 10000) ∧ (-10000 ≤ t2 ∧ t2 ≤ 10000)) ∧ ∀ τ, q_st Y τ → Q (some (zI 1)) τ)
  | _ => False
theorem s_L_wishes {σ : q_M} {n t0 t1 t2 : Int} {Q : Option q_V → q_M → Prop} : S_L_wishes σ [zR 0 23 0, zI n, zI t0, zI t1, zI t2] Q = (∃ Y, (((∃ n, q_Inv n Y) ∧ q_st Y σ) ∧ n = Y 0 0 1 ∧ (-10000 ≤ t0 ∧ t0 ≤ 10000) ∧ (-10000 ≤ t1 ∧ t1 ≤ 10000) ∧ (-10000 ≤ t2 ∧ t2 ≤ 10000)) ∧ ∀ τ, q_st Y τ → Q (some (zI 1)) τ) := propext ⟨fun h => h.2.2.2, fun h => ⟨rfl, rfl, rfl, h⟩⟩
def S_L_ticks : q_P := fun σ vs Q => match vs with
  | [.inl (c0, p0, k0), .inr (.inl n), .inr (.inl m), .inr (.inl b)] => c0 = 0 ∧ p0 = 23 ∧ k0 = 0 ∧ (∃ Y, (((∃ n, q_Inv n Y) ∧ q_st Y σ) ∧ Y 0 0 0 ≤ 49000 ∧ n = Y 0 0 1 ∧ (1 ≤ m ∧ m ≤ 60) ∧ (0 ≤ b ∧ b ≤ 3000)) ∧ ∀ τ, q_st (q_it m.toNat Y) τ → Q (some (zI 1)) τ)
  | _ => False
theorem s_L_ticks {σ : q_M} {n m b : Int} {Q : Option q_V → q_M → Prop} : S_L_ticks σ [zR 0 23 0, zI n, zI m, zI b] Q = (∃ Y, (((∃ n, q_Inv n Y) ∧ q_st Y σ) ∧ Y 0 0 0 ≤ 49000 ∧ n = Y 0 0 1 ∧ (1 ≤ m ∧ m ≤ 60) ∧ (0 ≤ b ∧ b ≤ 3000)) ∧ ∀ τ, q_st (q_it m.toNat Y) τ → Q (some (zI 1)) τ) := propext ⟨fun h => h.2.2.2, fun h => ⟨rfl, rfl, rfl, h⟩⟩
