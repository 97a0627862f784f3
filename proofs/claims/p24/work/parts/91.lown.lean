/-! ===== the law's own arrays: surroundings, soundness ===== -/
def q_EL (J : Nat → q_K) (F : Int → Int) (L : Int) (cc : ByteArray) (own : String) (Ts : List Cond) (nL : Nat) (l : Launch) (R : Room) : Prop :=
  ∃ (p : Program) (e : Env) (s : State) (m : MethodId) (args : Array Value) (below : List Frame) (meth : Method) (c : Code) (D : va_G) (cy : Nat → ClassId) (A : Nat → Prop) (ad : q_A) (cells slots : Nat) (Q : State → Prop),
    (J = q_J p l e R s m args below meth c nL D cy A ad cells slots Q ∧ CallFix p m c cc nL s args Ts own ∧ va_K D vwCl (q_ty cy) s ∧ (∀ σ : q_M, va_D A (q_W cy ad σ)) ∧ (∀ q : Nat, s.heap.size ≤ q → A q) ∧ q_N s ∧ q_Z ad A s s.heap ∧ cells ≤ R.cells ∧ slots ≤ R.slots) ∧
    ∃ (n : Nat) (xs : Nat → Int32), L = (n : Int) ∧ n ≤ 3072 ∧ (∀ i : Int, F i = (xs i.toNat).toInt) ∧ va_X (ad 0 38 0) n xs s s.heap ∧ ad 0 38 0 < s.heap.size ∧ ¬ A (ad 0 38 0)
theorem q_EL.q {J : Nat → q_K} {F : Int → Int} {L : Int} {cc : ByteArray} {own : String} {Ts : List Cond} {nL : Nat} {l : Launch} {R : Room} (E : q_EL J F L cc own Ts nL l R) : q_E J cc own Ts nL l R := by
  obtain ⟨p, e, s, m, args, below, meth, c, D, cy, A, ad, cells, slots, Q, h, -⟩ := E
  exact ⟨p, e, s, m, args, below, meth, c, D, cy, A, ad, cells, slots, Q, h⟩
theorem q_E.EL {J : Nat → q_K} {cc : ByteArray} {own : String} {Ts : List Cond} {nL : Nat} {l : Launch} {R : Room} (E : q_E J cc own Ts nL l R) : ∃ (F : Int → Int) (L : Int), (0 ≤ L ∧ L ≤ 3072) ∧ q_EL J F L cc own Ts nL l R := by
  obtain ⟨p, e, s, m, args, below, meth, c, D, cy, A, ad, cells, slots, Q, h⟩ := E
  obtain ⟨n, xs, hn, hx, hl, hA⟩ := h.2.2.2.2.2.2.1.2
  exact ⟨fun i => (xs i.toNat).toInt, (n : Int), ⟨by omega, by omega⟩, p, e, s, m, args, below, meth, c, D, cy, A, ad, cells, slots, Q, h, n, xs, rfl, hn, fun _ => rfl, hx, hl, hA⟩
/-- the surroundings where the row of sums stands in the world -/
def q_E2 (J : Nat → q_K) (cc : ByteArray) (own : String) (Ts : List Cond) (nL : Nat) (l : Launch) (R : Room) : Prop :=
  ∃ (p : Program) (e : Env) (s : State) (m : MethodId) (args : Array Value) (below : List Frame) (meth : Method) (c : Code) (D : va_G) (cy : Nat → ClassId) (A : Nat → Prop) (ad : q_A) (cells slots : Nat) (Q : State → Prop),
    (J = q_J p l e R s m args below meth c nL D cy A ad cells slots Q ∧ CallFix p m c cc nL s args Ts own ∧ va_K D vwCl (q_ty cy) s ∧ (∀ σ : q_M, va_D A (q_W cy ad σ)) ∧ (∀ q : Nat, s.heap.size ≤ q → A q) ∧ q_N s ∧ q_Z ad A s s.heap ∧ cells ≤ R.cells ∧ slots ≤ R.slots) ∧ ad 0 40 0 = 1
theorem q_E2.q {J : Nat → q_K} {cc : ByteArray} {own : String} {Ts : List Cond} {nL : Nat} {l : Launch} {R : Room} (E : q_E2 J cc own Ts nL l R) : q_E J cc own Ts nL l R := by
  obtain ⟨p, e, s, m, args, below, meth, c, D, cy, A, ad, cells, slots, Q, h, -⟩ := E
  exact ⟨p, e, s, m, args, below, meth, c, D, cy, A, ad, cells, slots, Q, h⟩
/-- two surroundings, the second one with a row more made -/
def q_E1 (J J' : Nat → q_K) (cc : ByteArray) (own : String) (Ts : List Cond) (nL : Nat) (l : Launch) (R : Room) : Prop :=
  ∃ (p : Program) (e : Env) (s : State) (m : MethodId) (args : Array Value) (below : List Frame) (meth : Method) (c : Code) (D : va_G) (cy : Nat → ClassId) (A : Nat → Prop) (ad : q_A) (cells slots : Nat) (Q : State → Prop),
    (J = q_J p l e R s m args below meth c nL D cy A ad cells slots Q ∧ CallFix p m c cc nL s args Ts own ∧ va_K D vwCl (q_ty cy) s ∧ (∀ σ : q_M, va_D A (q_W cy ad σ)) ∧ (∀ q : Nat, s.heap.size ≤ q → A q) ∧ q_N s ∧ q_Z ad A s s.heap ∧ cells + 1 ≤ R.cells ∧ slots + 3 ≤ R.slots) ∧ ad 0 40 0 = 0 ∧ J' = q_J p l e R s m args below meth c nL D cy A ad (cells + 1) (slots + 3) Q
theorem q_E1.q {J J' : Nat → q_K} {cc : ByteArray} {own : String} {Ts : List Cond} {nL : Nat} {l : Launch} {R : Room} (E : q_E1 J J' cc own Ts nL l R) : q_E J cc own Ts nL l R := by
  obtain ⟨p, e, s, m, args, below, meth, c, D, cy, A, ad, cells, slots, Q, ⟨h1, h2, h3, h4, h5, h6, h7, h8, h9⟩, -, -⟩ := E
  exact ⟨p, e, s, m, args, below, meth, c, D, cy, A, ad, cells, slots, Q, h1, h2, h3, h4, h5, h6, h7, Nat.le_of_succ_le h8, Nat.le_trans (Nat.le_add_right _ 3) h9⟩
theorem q_E1.r {J J' : Nat → q_K} {cc : ByteArray} {own : String} {Ts : List Cond} {nL : Nat} {l : Launch} {R : Room} (E : q_E1 J J' cc own Ts nL l R) : q_E J' cc own Ts nL l R := by
  obtain ⟨p, e, s, m, args, below, meth, c, D, cy, A, ad, cells, slots, Q, ⟨h1, h2, h3, h4, h5, h6, h7, h8, h9⟩, -, h10⟩ := E
  exact ⟨p, e, s, m, args, below, meth, c, D, cy, A, ad, cells + 1, slots + 3, Q, h10, h2, h3, h4, h5, h6, h7, h8, h9⟩
/-- a contract that makes the row of sums, whose world is forgotten behind it -/
def q_Ct1 (y : MethodName) (ws : List Cond) (rm : Room) (Sp : q_P) : Prop :=
  ∀ (l : Launch) (D : va_G) (cy : Nat → ClassId) (ad : q_A) (σ : q_M) (vs : q_S) (Qp : Option q_V → q_M → Prop), ad 0 40 0 = 0 → Sp σ vs Qp → ∀ sz : Nat,
    Met l y ws rm (va_Pc (vs.map (q_tv ad)) (q_B D cy ad sz σ)) (q_Q D cy ad Qp (va_A (q_W cy ad σ) sz)) 1 3 (va_A (q_W cy ad σ) sz)
theorem q_runM {p : Program} {l : Launch} {e : Env} {R : Room} {s : State} {m : MethodId} {args : Array Value} {below : List Frame} {meth : Method} {c : Code} {H : Heap} {locs : List Loc} {cells slots mc ms : Nat} {Q : State → Prop} {pc : Nat} {ls : Array Slot} {rest st0 : List Value} {a : Array Value} {A0 A1 : Nat → Prop} {H0 : Heap} {free : Addr → Prop} {D : va_G} {cy : Nat → ClassId} {ad : q_A} {Qp : Option q_V → q_M → Prop} (hr : va_Run p l e R s m args below meth c H locs cells slots mc ms (F0 m pc ls st0) rest (q_Q D cy ad Qp A1 a) free) (hS : va_S A0 H0 H locs) (hA : ∀ q, q < H.size → A1 q → A0 q) (hf : ∀ q, free q → A0 q)
    (kk : ∀ (rv : Option q_V) (σ' : q_M) (H1 : Heap) (locs1 : List Loc), Qp rv σ' → va_P D vwCl (q_W cy ad σ') H1 → va_S A0 H0 H1 locs1 → W p l e R s m args below meth c H1 locs1 (cells + mc) (slots + ms) Q (F0 m (pc + 3) ls ((rv.map (q_tv ad)).toList ++ rest))) : W p l e R s m args below meth c H locs cells slots Q (F0 m pc ls st0) := by
  intro T hT X
  obtain ⟨v, st₀, t, T', L, h0, X', hL, e1, e2, ⟨⟨rv, σ', hv, hp, hb⟩, hz, hk⟩, st⟩ := hr T hT X
  have hv : v = rv.map (q_tv ad) := Outcome.returned.inj hv
  subst hv
  rw [h0] at hz hk
  obtain ⟨t2, a1, b1⟩ := kk rv σ' T'.heap (locs ++ L) hp (by rw [e1]; exact hb)
    ⟨Nat.le_trans hS.1 (by rw [e1]; exact hz), fun q h1 h2 => by rw [e1, hk q (Nat.lt_of_lt_of_le h1 hS.1) (fun z => h2 (hA q (Nat.lt_of_lt_of_le h1 hS.1) z))]; exact hS.2.1 q h1 h2, fun q hq => by
      rcases List.mem_append.mp hq with h | h
      · exact hS.2.2 q h
      · exact hf _ (hL q h)⟩ T' rfl X'
  exact ⟨t2, st t2 a1, b1⟩
section QLAW
variable {J : Nat → q_K} {F : Int → Int} {L : Int} {cc : ByteArray} {own : String} {Ts : List Cond} {nL : Nat} {l : Launch} {R : Room} {pc : Nat} {σ : q_M} {lv : q_L} {st : q_S} {K : q_K}
theorem so_alen (E : q_EL J F L cc own Ts nL l R) (hd : decode cc pc = .ok (.arraylength, 1)) (h : o_alen L σ lv st K) (k : ∀ σ lv st, K σ lv st → J (pc + 1) σ lv st) : J pc σ lv st := by
  obtain ⟨p, e, s, m, args, below, meth, c, D, cy, A, ad, cells, slots, Q, ⟨rfl, ⟨hx, hb, hml, hown, hts⟩, hK, hD, hA, hN, hZ, hc1, hs1⟩, n, xs, rfl, hn, hF, hX, hbl, hbA⟩ := E
  unfold o_alen at h
  split at h
  · next r st =>
    obtain ⟨rfl, h⟩ := h
    intro H locs ls hP hS hl
    have g := k _ _ _ h H locs ls hP hS hl
    change W p l e R s m args below meth c H locs cells slots Q (F0 m pc ls (.ref (ad 0 38 0) :: st.map (q_tv ad)))
    exact va_slen hx hb hX hbl hbA hS hd g
  · exact h.elim
theorem so_sld (E : q_EL J F L cc own Ts nL l R) (hd : decode cc pc = .ok (.iaload, 1)) (h : o_sld F L σ lv st K) (k : ∀ σ lv st, K σ lv st → J (pc + 1) σ lv st) : J pc σ lv st := by
  obtain ⟨p, e, s, m, args, below, meth, c, D, cy, A, ad, cells, slots, Q, ⟨rfl, ⟨hx, hb, hml, hown, hts⟩, hK, hD, hA, hN, hZ, hc1, hs1⟩, n, xs, rfl, hn, hF, hX, hbl, hbA⟩ := E
  unfold o_sld at h
  split at h
  · next i r st =>
    obtain ⟨rfl, h0, h1, h⟩ := h
    intro H locs ls hP hS hl
    have g := k _ _ _ h H locs ls hP hS hl
    change W p l e R s m args below meth c H locs cells slots Q (F0 m pc ls (.int (iO i) :: .ref (ad 0 38 0) :: st.map (q_tv ad)))
    refine va_sld hx hb hX hbl hbA hS (iO_in h0 h1 (by omega)) hd ?_
    rw [iO_clamp h0 ⟨by omega, by omega⟩]
    have eF : iO (F i) = xs i.toNat := by
      rw [hF]
      exact iO_of _
    rw [← eF]
    exact g
  · exact h.elim
theorem so_xld (E : q_E2 J cc own Ts nL l R) (hd : decode cc pc = .ok (.laload, 1)) (h : o_xld σ lv st K) (k : ∀ σ lv st, K σ lv st → J (pc + 1) σ lv st) : J pc σ lv st := by
  obtain ⟨p, e, s, m, args, below, meth, c, D, cy, A, ad, cells, slots, Q, ⟨rfl, ⟨hx, hb, hml, hown, hts⟩, hK, hD, hA, hN, hZ, hc1, hs1⟩, h40⟩ := E
  unfold o_xld at h
  split at h
  · next i r st =>
    obtain ⟨rfl, h0, h1, h⟩ := h
    intro H locs ls hP hS hl
    have hat := q_atx (cy := cy) (q_24 h40) σ
    rw [q_shp_J (by decide)] at hat
    change W p l e R s m args below meth c H locs cells slots Q (F0 m pc ls (.int (iO i) :: .ref (ad 0 24 0) :: st.map (q_tv ad)))
    refine va_lald hx hb hK hP _ 1 hat rfl (iO_in (n := 3) h0 h1 (by decide)) hd ?_
    rw [iO_clamp h0 ⟨by omega, by omega⟩]
    have g := k _ _ _ h H locs ls hP hS hl
    change W p l e R s m args below meth c H locs cells slots Q (F0 m (pc + 1) ls (.long (lO (σ 0 24 0 i)) :: st.map (q_tv ad))) at g
    rw [q_nat h0]
    exact g
  · exact h.elim
theorem so_xst (E : q_E2 J cc own Ts nL l R) (hd : decode cc pc = .ok (.lastore, 1)) (h : o_xst σ lv st K) (k : ∀ σ lv st, K σ lv st → J (pc + 1) σ lv st) : J pc σ lv st := by
  obtain ⟨p, e, s, m, args, below, meth, c, D, cy, A, ad, cells, slots, Q, ⟨rfl, ⟨hx, hb, hml, hown, hts⟩, hK, hD, hA, hN, hZ, hc1, hs1⟩, h40⟩ := E
  unfold o_xst at h
  split at h
  · next x i r st =>
    obtain ⟨rfl, h0, h1, h⟩ := h
    intro H locs ls hP hS hl
    have hat := q_atx (cy := cy) (q_24 h40) σ
    rw [q_shp_J (by decide)] at hat
    change W p l e R s m args below meth c H locs cells slots Q (F0 m pc ls (.long (lO x) :: .int (iO i) :: .ref (ad 0 24 0) :: st.map (q_tv ad)))
    refine va_last hx hb hK hP (hD σ) hS _ 1 hat rfl (iO_in (n := 3) h0 h1 (by decide)) hd (fun H1 locs1 hP1 hD1 hS1 => ?_)
    have hw := q_set_Wx (cy := cy) (q_24 h40) σ (fun s => if s = i then x else σ 0 24 0 s)
    rw [show q_set σ (0, 24, 0) (fun s => if s = i then x else σ 0 24 0 s) = q_wr σ 0 24 0 i x from q_wr_set σ (0, 24, 0) i x, q_shp_J (by decide)] at hw
    rw [iO_clamp h0 ⟨by omega, by omega⟩] at hP1
    have hf : vp_updL (fun i : Nat => lO (σ 0 24 0 (i : Int))) i.toNat (lO x) = fun a : Nat => lO (if (a : Int) = i then x else σ 0 24 0 (a : Int)) := by
      funext a
      unfold vp_updL
      by_cases q : a = i.toNat
      · rw [if_pos q, if_pos (by omega)]
      · rw [if_neg q, if_neg (by omega)]
    (try dsimp only at hP1 hw)
    rw [hf, hw] at hP1
    exact k _ _ _ h H1 locs1 ls hP1 hS1 hl
  · exact h.elim
theorem so_callW {J' : Nat → q_K} (E : q_E1 J J' cc own Ts nL l R) {n idx maxL : Nat} {y : MethodName} {ws ws' : List Cond} {bytes : ByteArray} {ret : Option FieldType} {rm : Room} {Sp : q_P} (hM : q_Ct1 y ws rm Sp) (hG : GoodIn Ts (va_wsS own idx y ws)) (hw : ws = Cond.code y bytes maxL ret :: ws') (hrm : rm.cells = 1 ∧ rm.slots = 3) (hdy : y.cls ≠ "java/lang/invoke/MethodHandle" ∧ y.cls ≠ "java/lang/invoke/VarHandle" ∧ (parseMethodDescriptor y.desc).map (fun d => d.parameters.length) = some n) (hR : rm.frames + 1 ≤ R.frames ∧ 8 + (maxL + 11) + rm.locals ≤ R.locals) (hd : decode cc pc = .ok (.invokestatic idx, 3)) (h : o_callS n Sp σ lv st K) (k : ∀ σ lv st, K σ lv st → J' (pc + 3) σ lv st) : J pc σ lv st := by
  obtain ⟨p, e, s, m, args, below, meth, c, D, cy, A, ad, cells, slots, Q, ⟨rfl, ⟨hx, hb, hml, hown, hts⟩, hK, hD, hA, hN, hZ, hc1, hs1⟩, h40, rfl⟩ := E
  obtain ⟨hlen, hcat, h⟩ := h
  intro H locs ls hP hS hl
  have hst : st.map (q_tv ad) = (((st.take n).reverse).map (q_tv ad)).reverse ++ (st.drop n).map (q_tv ad) := by
    conv => lhs; rw [← List.take_append_drop n st]
    rw [List.map_append, List.map_reverse, List.reverse_reverse]
  rw [hst]
  have hfr : ∀ q, va_A (q_W cy ad σ) H.size q → A q := fun q hq => by
    rcases hq with ⟨k9, e9, h9⟩ | h9
    · exact (hD σ).2 k9 _ h9
    · exact hA q (Nat.le_trans hS.1 h9)
  refine q_runM (va_runS (As := ((st.take n).reverse).map (q_tv ad)) (rest := (st.drop n).map (q_tv ad)) ⟨hx, hb, hml, hown, hts⟩ (hM l D cy ad σ _ _ h40 h H.size) (va_cwS n hts hG hw hrm.1 hrm.2 hdy hR) ⟨q_blind, fun U hU hW => ⟨rfl, by rw [hU], by rw [hU]; exact hP, va_K.moved hW.alike hK, (hD σ).weaken (fun _ _ _ _ => trivial), q_N.warm hW hN, hZ.go hW.alike (by rw [hU]) hS hfr⟩⟩ rfl (by rw [List.length_map, List.length_reverse]; exact hlen) hl.1 rfl (lv_room (by rw [q_cats_tv]; exact hcat)) hd ⟨hc1, hs1⟩) hS (fun q _ hq => hfr q hq) hfr (fun rv σ' H1 locs1 hq hP1 hS1 => ?_)
  rw [← q_mapL]
  exact k _ _ _ hq H1 locs1 ls hP1 hS1 hl
end QLAW

def rm_L_cell : Room := { frames := 0, cells := 0, slots := 0, locals := 0 }
set_option maxRecDepth 20000 in
theorem sb_L_cell_0 {J : Nat → q_K} {l : Launch} {F : Int → Int} {L : Int} {Qp : Option q_V → q_M → Prop} (F0 : q_EL J F L cL_cell RL wsL_cell 2 l rm_L_cell) (T : q_T J cL_cell (some .int) Qp) : ∀ (σ : q_M) (lv : q_L) (st : q_S), k_L_cell_0 F L Qp J σ lv st → J 0 σ lv st := have E := F0.q; fun σ lv st h =>
    so_iload_n E (i := 1) rfl dL_cell_0 h fun σ lv st h =>
    so_aload_n E (i := 0) rfl dL_cell_1 h fun σ lv st h =>
    so_alen F0 dL_cell_2 h fun σ lv st h =>
    so_icmpge E 12 (by decide) dL_cell_3 (fun _ _ _ h => h) h fun σ lv st h =>
    so_aload_n E (i := 0) rfl dL_cell_6 h fun σ lv st h =>
    so_iload_n E (i := 1) rfl dL_cell_7 h fun σ lv st h =>
    so_sld F0 dL_cell_8 h fun σ lv st h =>
    so_goto E 18 (by decide) dL_cell_9 (fun _ _ _ h => h) h
set_option maxRecDepth 20000 in
theorem sb_L_cell_12 {J : Nat → q_K} {l : Launch} {F : Int → Int} {L : Int} {Qp : Option q_V → q_M → Prop} (F0 : q_EL J F L cL_cell RL wsL_cell 2 l rm_L_cell) (T : q_T J cL_cell (some .int) Qp) : ∀ (σ : q_M) (lv : q_L) (st : q_S), k_L_cell_12 F L Qp J σ lv st → J 12 σ lv st := have E := F0.q; fun σ lv st h =>
    so_ldc E (x := 763049417) (idx := 7) (v := 763049417) (List.mem_of_getElem? (i := 1) rfl) rfl dL_cell_12 h fun σ lv st h =>
    so_iload_n E (i := 1) rfl dL_cell_14 h fun σ lv st h =>
    so_iconst E (x := 3) dL_cell_15 h fun σ lv st h =>
    so_iadd E dL_cell_16 h fun σ lv st h =>
    so_imul E dL_cell_17 h fun σ lv st h =>
    h
set_option maxRecDepth 20000 in
theorem sb_L_cell_18 {J : Nat → q_K} {l : Launch} {F : Int → Int} {L : Int} {Qp : Option q_V → q_M → Prop} (F0 : q_EL J F L cL_cell RL wsL_cell 2 l rm_L_cell) (T : q_T J cL_cell (some .int) Qp) : ∀ (σ : q_M) (lv : q_L) (st : q_S), k_L_cell_18 F L Qp J σ lv st → J 18 σ lv st := have E := F0.q; fun σ lv st h =>
    so_iret T dL_cell_18 h
theorem cc_L_cell : q_Ct yL_cell wsL_cell rm_L_cell S_L_cell := by
  refine q_met (cc := cL_cell) (maxL := 2) (ret := (some .int)) (own := RL) (by decide +kernel) rfl rfl (fun σ vs Qp h => ?_) (fun l J σ vs Qp E T h => ?_)
  · unfold S_L_cell at h
    split at h
    · exact Nat.le_of_ble_eq_true rfl
    · exact h.elim
  · unfold S_L_cell at h
    split at h
    · next c0 p0 k0 k =>
      obtain ⟨rfl, rfl, rfl, h⟩ := h
      obtain ⟨F, L, hL, EL⟩ := E.EL
      exact v_L_cell hL (sb_L_cell_0 EL T) (sb_L_cell_12 EL T) (sb_L_cell_18 EL T) h
    · exact h.elim

def rm_L_wishes : Room := { frames := 4, cells := 1, slots := 3, locals := 96 }
set_option maxRecDepth 20000 in
theorem sb_L_wishes_3 {J : Nat → q_K} {l : Launch} {Qp : Option q_V → q_M → Prop} (F0 : q_E2 J cL_wishes RL wsL_wishes 12 l rm_L_wishes) (T : q_T J cL_wishes (some .boolean) Qp) (h_X5_wish : q_Ct yX5_wish wsX5_wish rm_X5_wish S_X5_wish) (h_X5_wheel : q_Ct yX5_wheel wsX5_wheel rm_X5_wheel S_X5_wheel) (h_X5_span : q_Ct yX5_span wsX5_span rm_X5_span S_X5_span) (h_L_size : q_Ct yL_size wsL_size rm_L_size S_L_size) (h_X5_spare : q_Ct yX5_spare wsX5_spare rm_X5_spare S_X5_spare) : ∀ (σ : q_M) (lv : q_L) (st : q_S), k_L_wishes_3 Qp J σ lv st → J 3 σ lv st := have E := F0.q; fun σ lv st h =>
    so_astore E (i := 5) (by decide) dL_wishes_3 h fun σ lv st h =>
    so_iconst E (x := 0) dL_wishes_5 h fun σ lv st h =>
    so_istore E (i := 6) (by decide) dL_wishes_6 h fun σ lv st h =>
    so_iconst E (x := 0) dL_wishes_8 h fun σ lv st h =>
    so_istore E (i := 7) (by decide) dL_wishes_9 h fun σ lv st h =>
    h
set_option maxRecDepth 20000 in
theorem sb_L_wishes_11 {J : Nat → q_K} {l : Launch} {Qp : Option q_V → q_M → Prop} (F0 : q_E2 J cL_wishes RL wsL_wishes 12 l rm_L_wishes) (T : q_T J cL_wishes (some .boolean) Qp) (h_X5_wish : q_Ct yX5_wish wsX5_wish rm_X5_wish S_X5_wish) (h_X5_wheel : q_Ct yX5_wheel wsX5_wheel rm_X5_wheel S_X5_wheel) (h_X5_span : q_Ct yX5_span wsX5_span rm_X5_span S_X5_span) (h_L_size : q_Ct yL_size wsL_size rm_L_size S_L_size) (h_X5_spare : q_Ct yX5_spare wsX5_spare rm_X5_spare S_X5_spare) : ∀ (σ : q_M) (lv : q_L) (st : q_S), k_L_wishes_11 Qp J σ lv st → J 11 σ lv st := have E := F0.q; fun σ lv st h =>
    so_iload E (i := 7) dL_wishes_11 h fun σ lv st h =>
    so_iload_n E (i := 1) rfl dL_wishes_13 h fun σ lv st h =>
    so_icmpge E 138 (by decide) dL_wishes_14 (fun _ _ _ h => h) h fun σ lv st h =>
    so_aload_n E (i := 0) rfl dL_wishes_17 h fun σ lv st h =>
    so_iload E (i := 7) dL_wishes_18 h fun σ lv st h =>
    so_iload_n E (i := 2) rfl dL_wishes_20 h fun σ lv st h =>
    so_iload_n E (i := 3) rfl dL_wishes_21 h fun σ lv st h =>
    so_iload E (i := 4) dL_wishes_22 h fun σ lv st h =>
    so_callV E (n := 4) (pp := 23) (C := RX5) (T := TX5) (N := 5) (idx := 59) (maxL := 6) (ret := (some .long)) h_X5_wish ⟨rfl, rfl, rfl⟩ rfl gL_wishes_X5_wish rfl ⟨rfl, rfl⟩ (by decide +kernel) (by decide) dL_wishes_24 h fun σ lv st h =>
    so_lstore E (i := 8) (by decide) dL_wishes_27 h fun σ lv st h =>
    so_aload_n E (i := 0) rfl dL_wishes_29 h fun σ lv st h =>
    so_iload E (i := 7) dL_wishes_30 h fun σ lv st h =>
    so_bipush E (x := 6) rfl dL_wishes_32 h fun σ lv st h =>
    so_callV E (n := 2) (pp := 23) (C := RX5) (T := TX5) (N := 5) (idx := 31) (maxL := 3) (ret := (some .int)) h_X5_wheel ⟨rfl, rfl, rfl⟩ rfl gL_wishes_X5_wheel rfl ⟨rfl, rfl⟩ (by decide +kernel) (by decide) dL_wishes_34 h fun σ lv st h =>
    so_ifne E 53 (by decide) dL_wishes_37 (fun _ _ _ h => h) h fun σ lv st h =>
    so_aload_n E (i := 0) rfl dL_wishes_40 h fun σ lv st h =>
    so_callV E (n := 0) (pp := 23) (C := RX5) (T := TX5) (N := 5) (idx := 73) (maxL := 1) (ret := (some .long)) h_X5_span ⟨rfl, rfl, rfl⟩ rfl gL_wishes_X5_span rfl ⟨rfl, rfl⟩ (by decide +kernel) (by decide) dL_wishes_41 h fun σ lv st h =>
    so_lconst E (x := 0) rfl dL_wishes_44 h fun σ lv st h =>
    so_lcmp E dL_wishes_45 h fun σ lv st h =>
    so_ifeq E 53 (by decide) dL_wishes_46 (fun _ _ _ h => h) h fun σ lv st h =>
    so_iconst E (x := 1) dL_wishes_49 h fun σ lv st h =>
    so_goto E 54 (by decide) dL_wishes_50 (fun _ _ _ h => h) h
set_option maxRecDepth 20000 in
theorem sb_L_wishes_53 {J : Nat → q_K} {l : Launch} {Qp : Option q_V → q_M → Prop} (F0 : q_E2 J cL_wishes RL wsL_wishes 12 l rm_L_wishes) (T : q_T J cL_wishes (some .boolean) Qp) (h_X5_wish : q_Ct yX5_wish wsX5_wish rm_X5_wish S_X5_wish) (h_X5_wheel : q_Ct yX5_wheel wsX5_wheel rm_X5_wheel S_X5_wheel) (h_X5_span : q_Ct yX5_span wsX5_span rm_X5_span S_X5_span) (h_L_size : q_Ct yL_size wsL_size rm_L_size S_L_size) (h_X5_spare : q_Ct yX5_spare wsX5_spare rm_X5_spare S_X5_spare) : ∀ (σ : q_M) (lv : q_L) (st : q_S), k_L_wishes_53 Qp J σ lv st → J 53 σ lv st := have E := F0.q; fun σ lv st h =>
    so_iconst E (x := 0) dL_wishes_53 h fun σ lv st h =>
    h
set_option maxRecDepth 20000 in
theorem sb_L_wishes_54 {J : Nat → q_K} {l : Launch} {Qp : Option q_V → q_M → Prop} (F0 : q_E2 J cL_wishes RL wsL_wishes 12 l rm_L_wishes) (T : q_T J cL_wishes (some .boolean) Qp) (h_X5_wish : q_Ct yX5_wish wsX5_wish rm_X5_wish S_X5_wish) (h_X5_wheel : q_Ct yX5_wheel wsX5_wheel rm_X5_wheel S_X5_wheel) (h_X5_span : q_Ct yX5_span wsX5_span rm_X5_span S_X5_span) (h_L_size : q_Ct yL_size wsL_size rm_L_size S_L_size) (h_X5_spare : q_Ct yX5_spare wsX5_spare rm_X5_spare S_X5_spare) : ∀ (σ : q_M) (lv : q_L) (st : q_S), k_L_wishes_54 Qp J σ lv st → J 54 σ lv st := have E := F0.q; fun σ lv st h =>
    so_istore E (i := 10) (by decide) dL_wishes_54 h fun σ lv st h =>
    so_iload E (i := 10) dL_wishes_56 h fun σ lv st h =>
    so_lload E (i := 8) dL_wishes_58 h fun σ lv st h =>
    so_ldc2 E (x := -4611686018427387905) (idx := 51) (v := -4611686018427387905) (List.mem_of_getElem? (i := 2) rfl) rfl dL_wishes_60 h fun σ lv st h =>
    so_lcmp E dL_wishes_63 h fun σ lv st h =>
    so_ifne E 71 (by decide) dL_wishes_64 (fun _ _ _ h => h) h fun σ lv st h =>
    so_iconst E (x := 1) dL_wishes_67 h fun σ lv st h =>
    so_goto E 72 (by decide) dL_wishes_68 (fun _ _ _ h => h) h
set_option maxRecDepth 20000 in
theorem sb_L_wishes_71 {J : Nat → q_K} {l : Launch} {Qp : Option q_V → q_M → Prop} (F0 : q_E2 J cL_wishes RL wsL_wishes 12 l rm_L_wishes) (T : q_T J cL_wishes (some .boolean) Qp) (h_X5_wish : q_Ct yX5_wish wsX5_wish rm_X5_wish S_X5_wish) (h_X5_wheel : q_Ct yX5_wheel wsX5_wheel rm_X5_wheel S_X5_wheel) (h_X5_span : q_Ct yX5_span wsX5_span rm_X5_span S_X5_span) (h_L_size : q_Ct yL_size wsL_size rm_L_size S_L_size) (h_X5_spare : q_Ct yX5_spare wsX5_spare rm_X5_spare S_X5_spare) : ∀ (σ : q_M) (lv : q_L) (st : q_S), k_L_wishes_71 Qp J σ lv st → J 71 σ lv st := have E := F0.q; fun σ lv st h =>
    so_iconst E (x := 0) dL_wishes_71 h fun σ lv st h =>
    h
set_option maxRecDepth 20000 in
theorem sb_L_wishes_72 {J : Nat → q_K} {l : Launch} {Qp : Option q_V → q_M → Prop} (F0 : q_E2 J cL_wishes RL wsL_wishes 12 l rm_L_wishes) (T : q_T J cL_wishes (some .boolean) Qp) (h_X5_wish : q_Ct yX5_wish wsX5_wish rm_X5_wish S_X5_wish) (h_X5_wheel : q_Ct yX5_wheel wsX5_wheel rm_X5_wheel S_X5_wheel) (h_X5_span : q_Ct yX5_span wsX5_span rm_X5_span S_X5_span) (h_L_size : q_Ct yL_size wsL_size rm_L_size S_L_size) (h_X5_spare : q_Ct yX5_spare wsX5_spare rm_X5_spare S_X5_spare) : ∀ (σ : q_M) (lv : q_L) (st : q_S), k_L_wishes_72 Qp J σ lv st → J 72 σ lv st := have E := F0.q; fun σ lv st h =>
    so_icmpne E 77 (by decide) dL_wishes_72 (fun _ _ _ h => h) h fun σ lv st h =>
    so_iconst E (x := 0) dL_wishes_75 h fun σ lv st h =>
    so_zret T dL_wishes_76 h
set_option maxRecDepth 20000 in
theorem sb_L_wishes_77 {J : Nat → q_K} {l : Launch} {Qp : Option q_V → q_M → Prop} (F0 : q_E2 J cL_wishes RL wsL_wishes 12 l rm_L_wishes) (T : q_T J cL_wishes (some .boolean) Qp) (h_X5_wish : q_Ct yX5_wish wsX5_wish rm_X5_wish S_X5_wish) (h_X5_wheel : q_Ct yX5_wheel wsX5_wheel rm_X5_wheel S_X5_wheel) (h_X5_span : q_Ct yX5_span wsX5_span rm_X5_span S_X5_span) (h_L_size : q_Ct yL_size wsL_size rm_L_size S_L_size) (h_X5_spare : q_Ct yX5_spare wsX5_spare rm_X5_spare S_X5_spare) : ∀ (σ : q_M) (lv : q_L) (st : q_S), k_L_wishes_77 Qp J σ lv st → J 77 σ lv st := have E := F0.q; fun σ lv st h =>
    so_iload E (i := 6) dL_wishes_77 h fun σ lv st h =>
    so_iload E (i := 10) dL_wishes_79 h fun σ lv st h =>
    so_ifeq E 88 (by decide) dL_wishes_81 (fun _ _ _ h => h) h fun σ lv st h =>
    so_iconst E (x := 1) dL_wishes_84 h fun σ lv st h =>
    so_goto E 89 (by decide) dL_wishes_85 (fun _ _ _ h => h) h
set_option maxRecDepth 20000 in
theorem sb_L_wishes_88 {J : Nat → q_K} {l : Launch} {Qp : Option q_V → q_M → Prop} (F0 : q_E2 J cL_wishes RL wsL_wishes 12 l rm_L_wishes) (T : q_T J cL_wishes (some .boolean) Qp) (h_X5_wish : q_Ct yX5_wish wsX5_wish rm_X5_wish S_X5_wish) (h_X5_wheel : q_Ct yX5_wheel wsX5_wheel rm_X5_wheel S_X5_wheel) (h_X5_span : q_Ct yX5_span wsX5_span rm_X5_span S_X5_span) (h_L_size : q_Ct yL_size wsL_size rm_L_size S_L_size) (h_X5_spare : q_Ct yX5_spare wsX5_spare rm_X5_spare S_X5_spare) : ∀ (σ : q_M) (lv : q_L) (st : q_S), k_L_wishes_88 Qp J σ lv st → J 88 σ lv st := have E := F0.q; fun σ lv st h =>
    so_iconst E (x := 0) dL_wishes_88 h fun σ lv st h =>
    h
set_option maxRecDepth 20000 in
theorem sb_L_wishes_89 {J : Nat → q_K} {l : Launch} {Qp : Option q_V → q_M → Prop} (F0 : q_E2 J cL_wishes RL wsL_wishes 12 l rm_L_wishes) (T : q_T J cL_wishes (some .boolean) Qp) (h_X5_wish : q_Ct yX5_wish wsX5_wish rm_X5_wish S_X5_wish) (h_X5_wheel : q_Ct yX5_wheel wsX5_wheel rm_X5_wheel S_X5_wheel) (h_X5_span : q_Ct yX5_span wsX5_span rm_X5_span S_X5_span) (h_L_size : q_Ct yL_size wsL_size rm_L_size S_L_size) (h_X5_spare : q_Ct yX5_spare wsX5_spare rm_X5_spare S_X5_spare) : ∀ (σ : q_M) (lv : q_L) (st : q_S), k_L_wishes_89 Qp J σ lv st → J 89 σ lv st := have E := F0.q; fun σ lv st h =>
    so_iadd E dL_wishes_89 h fun σ lv st h =>
    so_istore E (i := 6) (by decide) dL_wishes_90 h fun σ lv st h =>
    so_iconst E (x := 0) dL_wishes_92 h fun σ lv st h =>
    so_istore E (i := 11) (by decide) dL_wishes_93 h fun σ lv st h =>
    h
set_option maxRecDepth 20000 in
theorem sb_L_wishes_95 {J : Nat → q_K} {l : Launch} {Qp : Option q_V → q_M → Prop} (F0 : q_E2 J cL_wishes RL wsL_wishes 12 l rm_L_wishes) (T : q_T J cL_wishes (some .boolean) Qp) (h_X5_wish : q_Ct yX5_wish wsX5_wish rm_X5_wish S_X5_wish) (h_X5_wheel : q_Ct yX5_wheel wsX5_wheel rm_X5_wheel S_X5_wheel) (h_X5_span : q_Ct yX5_span wsX5_span rm_X5_span S_X5_span) (h_L_size : q_Ct yL_size wsL_size rm_L_size S_L_size) (h_X5_spare : q_Ct yX5_spare wsX5_spare rm_X5_spare S_X5_spare) : ∀ (σ : q_M) (lv : q_L) (st : q_S), k_L_wishes_95 Qp J σ lv st → J 95 σ lv st := have E := F0.q; fun σ lv st h =>
    so_iload E (i := 11) dL_wishes_95 h fun σ lv st h =>
    so_iconst E (x := 3) dL_wishes_97 h fun σ lv st h =>
    so_icmpge E 132 (by decide) dL_wishes_98 (fun _ _ _ h => h) h fun σ lv st h =>
    so_iload E (i := 10) dL_wishes_101 h fun σ lv st h =>
    so_ifeq E 132 (by decide) dL_wishes_103 (fun _ _ _ h => h) h fun σ lv st h =>
    so_aload E (i := 5) dL_wishes_106 h fun σ lv st h =>
    so_iload E (i := 11) dL_wishes_108 h fun σ lv st h =>
    so_dup2 E dL_wishes_110 h fun σ lv st h =>
    so_xld F0 dL_wishes_111 h fun σ lv st h =>
    so_aload_n E (i := 0) rfl dL_wishes_112 h fun σ lv st h =>
    so_iload E (i := 7) dL_wishes_113 h fun σ lv st h =>
    so_iload E (i := 11) dL_wishes_115 h fun σ lv st h =>
    so_callV E (n := 2) (pp := 23) (C := RX5) (T := TX5) (N := 5) (idx := 31) (maxL := 3) (ret := (some .int)) h_X5_wheel ⟨rfl, rfl, rfl⟩ rfl gL_wishes_X5_wheel rfl ⟨rfl, rfl⟩ (by decide +kernel) (by decide) dL_wishes_117 h fun σ lv st h =>
    so_i2l E dL_wishes_120 h fun σ lv st h =>
    so_lload E (i := 8) dL_wishes_121 h fun σ lv st h =>
    so_lmul E dL_wishes_123 h fun σ lv st h =>
    so_lsub E dL_wishes_124 h fun σ lv st h =>
    so_xst F0 dL_wishes_125 h fun σ lv st h =>
    so_iinc E (i := 11) (n := 1) (by decide) dL_wishes_126 h fun σ lv st h =>
    so_goto E 95 (by decide) dL_wishes_129 (fun _ _ _ h => h) h
set_option maxRecDepth 20000 in
theorem sb_L_wishes_132 {J : Nat → q_K} {l : Launch} {Qp : Option q_V → q_M → Prop} (F0 : q_E2 J cL_wishes RL wsL_wishes 12 l rm_L_wishes) (T : q_T J cL_wishes (some .boolean) Qp) (h_X5_wish : q_Ct yX5_wish wsX5_wish rm_X5_wish S_X5_wish) (h_X5_wheel : q_Ct yX5_wheel wsX5_wheel rm_X5_wheel S_X5_wheel) (h_X5_span : q_Ct yX5_span wsX5_span rm_X5_span S_X5_span) (h_L_size : q_Ct yL_size wsL_size rm_L_size S_L_size) (h_X5_spare : q_Ct yX5_spare wsX5_spare rm_X5_spare S_X5_spare) : ∀ (σ : q_M) (lv : q_L) (st : q_S), k_L_wishes_132 Qp J σ lv st → J 132 σ lv st := have E := F0.q; fun σ lv st h =>
    so_iinc E (i := 7) (n := 1) (by decide) dL_wishes_132 h fun σ lv st h =>
    so_goto E 11 (by decide) dL_wishes_135 (fun _ _ _ h => h) h
set_option maxRecDepth 20000 in
theorem sb_L_wishes_138 {J : Nat → q_K} {l : Launch} {Qp : Option q_V → q_M → Prop} (F0 : q_E2 J cL_wishes RL wsL_wishes 12 l rm_L_wishes) (T : q_T J cL_wishes (some .boolean) Qp) (h_X5_wish : q_Ct yX5_wish wsX5_wish rm_X5_wish S_X5_wish) (h_X5_wheel : q_Ct yX5_wheel wsX5_wheel rm_X5_wheel S_X5_wheel) (h_X5_span : q_Ct yX5_span wsX5_span rm_X5_span S_X5_span) (h_L_size : q_Ct yL_size wsL_size rm_L_size S_L_size) (h_X5_spare : q_Ct yX5_spare wsX5_spare rm_X5_spare S_X5_spare) : ∀ (σ : q_M) (lv : q_L) (st : q_S), k_L_wishes_138 Qp J σ lv st → J 138 σ lv st := have E := F0.q; fun σ lv st h =>
    so_aload_n E (i := 0) rfl dL_wishes_138 h fun σ lv st h =>
    so_callV E (n := 0) (pp := 23) (C := RX5) (T := TX5) (N := 5) (idx := 73) (maxL := 1) (ret := (some .long)) h_X5_span ⟨rfl, rfl, rfl⟩ rfl gL_wishes_X5_span rfl ⟨rfl, rfl⟩ (by decide +kernel) (by decide) dL_wishes_139 h fun σ lv st h =>
    so_lconst E (x := 0) rfl dL_wishes_142 h fun σ lv st h =>
    so_lcmp E dL_wishes_143 h fun σ lv st h =>
    so_iflt E 223 (by decide) dL_wishes_144 (fun _ _ _ h => h) h fun σ lv st h =>
    so_iload E (i := 6) dL_wishes_147 h fun σ lv st h =>
    so_ifeq E 210 (by decide) dL_wishes_149 (fun _ _ _ h => h) h fun σ lv st h =>
    so_aload E (i := 5) dL_wishes_152 h fun σ lv st h =>
    so_iconst E (x := 0) dL_wishes_154 h fun σ lv st h =>
    so_xld F0 dL_wishes_155 h fun σ lv st h =>
    so_iload_n E (i := 2) rfl dL_wishes_156 h fun σ lv st h =>
    so_i2l E dL_wishes_157 h fun σ lv st h =>
    so_lsub E dL_wishes_158 h fun σ lv st h =>
    so_callT E (n := 1) (idx := 76) (maxL := 2) (ret := (some .long)) h_L_size gL_wishes_L_size rfl ⟨rfl, rfl⟩ (by decide +kernel) (by decide) dL_wishes_159 h fun σ lv st h =>
    so_iconst E (x := 5) dL_wishes_162 h fun σ lv st h =>
    so_iload E (i := 6) dL_wishes_163 h fun σ lv st h =>
    so_imul E dL_wishes_165 h fun σ lv st h =>
    so_i2l E dL_wishes_166 h fun σ lv st h =>
    so_lcmp E dL_wishes_167 h fun σ lv st h =>
    so_ifgt E 223 (by decide) dL_wishes_168 (fun _ _ _ h => h) h fun σ lv st h =>
    so_aload E (i := 5) dL_wishes_171 h fun σ lv st h =>
    so_iconst E (x := 1) dL_wishes_173 h fun σ lv st h =>
    so_xld F0 dL_wishes_174 h fun σ lv st h =>
    so_iload_n E (i := 3) rfl dL_wishes_175 h fun σ lv st h =>
    so_i2l E dL_wishes_176 h fun σ lv st h =>
    so_lsub E dL_wishes_177 h fun σ lv st h =>
    so_callT E (n := 1) (idx := 76) (maxL := 2) (ret := (some .long)) h_L_size gL_wishes_L_size rfl ⟨rfl, rfl⟩ (by decide +kernel) (by decide) dL_wishes_178 h fun σ lv st h =>
    so_iconst E (x := 5) dL_wishes_181 h fun σ lv st h =>
    so_iload E (i := 6) dL_wishes_182 h fun σ lv st h =>
    so_imul E dL_wishes_184 h fun σ lv st h =>
    so_i2l E dL_wishes_185 h fun σ lv st h =>
    so_lcmp E dL_wishes_186 h fun σ lv st h =>
    so_ifgt E 223 (by decide) dL_wishes_187 (fun _ _ _ h => h) h fun σ lv st h =>
    so_aload E (i := 5) dL_wishes_190 h fun σ lv st h =>
    so_iconst E (x := 2) dL_wishes_192 h fun σ lv st h =>
    so_xld F0 dL_wishes_193 h fun σ lv st h =>
    so_iload E (i := 4) dL_wishes_194 h fun σ lv st h =>
    so_i2l E dL_wishes_196 h fun σ lv st h =>
    so_lsub E dL_wishes_197 h fun σ lv st h =>
    so_callT E (n := 1) (idx := 76) (maxL := 2) (ret := (some .long)) h_L_size gL_wishes_L_size rfl ⟨rfl, rfl⟩ (by decide +kernel) (by decide) dL_wishes_198 h fun σ lv st h =>
    so_iconst E (x := 5) dL_wishes_201 h fun σ lv st h =>
    so_iload E (i := 6) dL_wishes_202 h fun σ lv st h =>
    so_imul E dL_wishes_204 h fun σ lv st h =>
    so_i2l E dL_wishes_205 h fun σ lv st h =>
    so_lcmp E dL_wishes_206 h fun σ lv st h =>
    so_ifgt E 223 (by decide) dL_wishes_207 (fun _ _ _ h => h) h fun σ lv st h =>
    h
set_option maxRecDepth 20000 in
theorem sb_L_wishes_210 {J : Nat → q_K} {l : Launch} {Qp : Option q_V → q_M → Prop} (F0 : q_E2 J cL_wishes RL wsL_wishes 12 l rm_L_wishes) (T : q_T J cL_wishes (some .boolean) Qp) (h_X5_wish : q_Ct yX5_wish wsX5_wish rm_X5_wish S_X5_wish) (h_X5_wheel : q_Ct yX5_wheel wsX5_wheel rm_X5_wheel S_X5_wheel) (h_X5_span : q_Ct yX5_span wsX5_span rm_X5_span S_X5_span) (h_L_size : q_Ct yL_size wsL_size rm_L_size S_L_size) (h_X5_spare : q_Ct yX5_spare wsX5_spare rm_X5_spare S_X5_spare) : ∀ (σ : q_M) (lv : q_L) (st : q_S), k_L_wishes_210 Qp J σ lv st → J 210 σ lv st := have E := F0.q; fun σ lv st h =>
    so_aload_n E (i := 0) rfl dL_wishes_210 h fun σ lv st h =>
    so_callV E (n := 0) (pp := 23) (C := RX5) (T := TX5) (N := 5) (idx := 80) (maxL := 3) (ret := (some .int)) h_X5_spare ⟨rfl, rfl, rfl⟩ rfl gL_wishes_X5_spare rfl ⟨rfl, rfl⟩ (by decide +kernel) (by decide) dL_wishes_211 h fun σ lv st h =>
    so_iload_n E (i := 1) rfl dL_wishes_214 h fun σ lv st h =>
    so_ishr E dL_wishes_215 h fun σ lv st h =>
    so_ifne E 223 (by decide) dL_wishes_216 (fun _ _ _ h => h) h fun σ lv st h =>
    so_iconst E (x := 1) dL_wishes_219 h fun σ lv st h =>
    so_goto E 224 (by decide) dL_wishes_220 (fun _ _ _ h => h) h
set_option maxRecDepth 20000 in
theorem sb_L_wishes_223 {J : Nat → q_K} {l : Launch} {Qp : Option q_V → q_M → Prop} (F0 : q_E2 J cL_wishes RL wsL_wishes 12 l rm_L_wishes) (T : q_T J cL_wishes (some .boolean) Qp) (h_X5_wish : q_Ct yX5_wish wsX5_wish rm_X5_wish S_X5_wish) (h_X5_wheel : q_Ct yX5_wheel wsX5_wheel rm_X5_wheel S_X5_wheel) (h_X5_span : q_Ct yX5_span wsX5_span rm_X5_span S_X5_span) (h_L_size : q_Ct yL_size wsL_size rm_L_size S_L_size) (h_X5_spare : q_Ct yX5_spare wsX5_spare rm_X5_spare S_X5_spare) : ∀ (σ : q_M) (lv : q_L) (st : q_S), k_L_wishes_223 Qp J σ lv st → J 223 σ lv st := have E := F0.q; fun σ lv st h =>
    so_iconst E (x := 0) dL_wishes_223 h fun σ lv st h =>
    h
set_option maxRecDepth 20000 in
theorem sb_L_wishes_224 {J : Nat → q_K} {l : Launch} {Qp : Option q_V → q_M → Prop} (F0 : q_E2 J cL_wishes RL wsL_wishes 12 l rm_L_wishes) (T : q_T J cL_wishes (some .boolean) Qp) (h_X5_wish : q_Ct yX5_wish wsX5_wish rm_X5_wish S_X5_wish) (h_X5_wheel : q_Ct yX5_wheel wsX5_wheel rm_X5_wheel S_X5_wheel) (h_X5_span : q_Ct yX5_span wsX5_span rm_X5_span S_X5_span) (h_L_size : q_Ct yL_size wsL_size rm_L_size S_L_size) (h_X5_spare : q_Ct yX5_spare wsX5_spare rm_X5_spare S_X5_spare) : ∀ (σ : q_M) (lv : q_L) (st : q_S), k_L_wishes_224 Qp J σ lv st → J 224 σ lv st := have E := F0.q; fun σ lv st h =>
    so_zret T dL_wishes_224 h
theorem zw_shp {cy : Nat → ClassId} {u ad : q_A} (ho : ∀ (c : Int) (p : Nat) (k : Int), ¬ p = 24 → ¬ p = 40 → u c p k = ad c p k) {c k : Int} {p : Nat} (hp : p < 24) (f : Int → Int) : q_shp cy u (c, p, k) f = q_shp cy ad (c, p, k) f := by
  have hw : (fun (c : Int) (p : Nat) (k : Int) => if p < 24 then u c p k else 0) = (fun (c : Int) (p : Nat) (k : Int) => if p < 24 then ad c p k else 0) := by
    funext c p k
    by_cases q : p < 24
    · rw [if_pos q, if_pos q, ho c p k (by omega) (by omega)]
    · rw [if_neg q, if_neg q]
  have e : ∀ v : q_A, q_shp cy v (c, p, k) f = q_shp cy (fun c p k => if p < 24 then v c p k else 0) (c, p, k) f := fun v => by
    have hc : p = 0 ∨ p = 1 ∨ p = 2 ∨ p = 3 ∨ p = 4 ∨ p = 5 ∨ p = 6 ∨ p = 7 ∨ p = 8 ∨ p = 9 ∨ p = 10 ∨ p = 11 ∨ p = 12 ∨ p = 13 ∨ p = 14 ∨ p = 15 ∨ p = 16 ∨ p = 17 ∨ p = 18 ∨ p = 19 ∨ p = 20 ∨ p = 21 ∨ p = 22 ∨ p = 23 := by omega
    rcases hc with rfl | rfl | rfl | rfl | rfl | rfl | rfl | rfl | rfl | rfl | rfl | rfl | rfl | rfl | rfl | rfl | rfl | rfl | rfl | rfl | rfl | rfl | rfl | rfl <;> rfl
  rw [e u, e ad, hw]
theorem zw_lt : ∀ r ∈ q_RL, r.2.1 < 24 := by
  have key : q_RL.all (fun r => decide (r.2.1 < 24)) = true := by decide +kernel
  intro r hr
  exact of_decide_eq_true (List.all_eq_true.mp key r hr)
/-- the world with the row of sums is the world and the row -/
theorem zw_W {cy : Nat → ClassId} {u ad : q_A} (h0 : ad 0 40 0 = 0) (h40 : u 0 40 0 = 1) (ho : ∀ (c : Int) (p : Nat) (k : Int), ¬ p = 24 → ¬ p = 40 → u c p k = ad c p k) {τ τ' : q_M} (ht : ∀ (c : Int) (p : Nat) (k : Int), p < 24 → τ c p k = τ' c p k) : q_W cy u τ = q_W cy ad τ' ++ [(u 0 24 0, .inl (cy 1, 3, .inr (.inl (fun i => lO (τ 0 24 0 (i : Int))))))] := by
  unfold q_W q_RLx q_fg
  rw [if_pos h40, if_neg (by omega), List.append_nil, List.map_append]
  congr 1
  refine List.map_congr_left fun r hr => ?_
  obtain ⟨c, p, k⟩ := r
  have hp := zw_lt _ hr
  (try dsimp only at hp)
  (try dsimp only)
  rw [ho c p k (by omega) (by omega), zw_shp ho hp, ht c p k hp]
theorem q_st.c24 {Y : q_X} {τ τ' : q_M} (h : q_st Y τ) (e : ∀ (c : Int) (p : Nat) (k : Int), ¬ p = 24 → τ' c p k = τ c p k) : q_st Y τ' := by
  obtain ⟨a, ⟨b, c⟩, d⟩ := h
  refine ⟨fun p k s hp => by rw [e 0 p k (by omega)]; exact a p k s hp, ⟨by rw [e 0 21 0 (by decide)]; exact b, fun j hj => by rw [e 0 22 0 (by decide)]; exact c j hj⟩, fun j hj k hk => ?_⟩
  rw [e 0 22 0 (by decide), e _ 10 k (by decide)]
  exact d j hj k hk
set_option maxHeartbeats 4000000 in
set_option maxRecDepth 100000 in
theorem cc_L_wishes : q_Ct1 yL_wishes wsL_wishes rm_L_wishes S_L_wishes := by
  intro l D cy ad σ vs Qp h0 hSp sz
  unfold S_L_wishes at hSp
  split at hSp
  · next c0 p0 k0 n t0 t1 t2 =>
    obtain ⟨rfl, rfl, rfl, hSp⟩ := hSp
    refine q_ofW (cc := cL_wishes) (maxL := 12) (ret := (some .boolean)) (by decide +kernel) rfl ?_
    intro p e s m args below meth c s₁ B hml hv
    obtain ⟨rfl, hsz, hP, hK, hD0, hN, hZ⟩ := hv
    subst hsz
    have hx := B.exec
    have hb := B.bytes
    have hr := B.returns
    have hlocks := B.notSynchronized
    have hts := atoms_spec (ws := wsL_wishes) B.pre
    have hown : s.vm.findClass RL = some m.cls := findClass_of_methodNamed B.named
    obtain ⟨A, hAe⟩ : ∃ A, A = va_A (q_W cy ad σ) s.heap.size := ⟨_, rfl⟩
    rw [← hAe] at hZ ⊢
    have hD : va_D A (q_W cy ad σ) := by rw [hAe]; exact hD0.self
    have hA : ∀ q : Nat, s.heap.size ≤ q → A q := fun q h => by rw [hAe]; exact Or.inr h
    have hS : va_S A s.heap s.heap [] := va_S.rf
    have hl := lv_entry ([.ref (ad 0 23 0), .int (iO n), .int (iO t0), .int (iO t1), .int (iO t2)]) (n := 12) (Nat.le_of_ble_eq_true rfl)
    rw [lg_entry_eq]
    have ev : ([Sum.inl (0, 23, 0), zI n, zI t0, zI t1, zI t2] : q_S).map (q_tv ad) = [.ref (ad 0 23 0), .int (iO n), .int (iO t0), .int (iO t1), .int (iO t2)] := rfl
    rw [ev]
    generalize (lg_sl ([.ref (ad 0 23 0), .int (iO n), .int (iO t0), .int (iO t1), .int (iO t2)]) ++ List.replicate (12 - (lg_sl ([.ref (ad 0 23 0), .int (iO n), .int (iO t0), .int (iO t1), .int (iO t2)])).length) Slot.unset).toArray = ls at hl ⊢
    have hl : lv_has ls 12 [(0, .ref (ad 0 23 0)), (1, .int (iO n)), (2, .int (iO t0)), (3, .int (iO t1)), (4, .int (iO t2))] := hl
    refine lv_iconst (v := iO 3) hx hb dL_wishes_0 rfl ?_
    refine z_newa (atype := .long) (ty := .long) (N' := 3) (a0 := (3, .inr (.inl (fun _ => lO 0)))) hx hb (hts (.arrayClass .long) (by decide +kernel)) rfl hK 1 rfl hP hD hS hA (fun _ => rfl) (by decide) (by decide) (Nat.le_of_ble_eq_true rfl) (Nat.le_of_ble_eq_true rfl) (Nat.le_of_ble_eq_true rfl) dL_wishes_1 (fun q H hP hD hS => ?_)
    obtain ⟨u, hu⟩ : ∃ u : q_A, u = (fun (c : Int) (p : Nat) (k : Int) => if p = 24 then q else if p = 40 then 1 else ad c p k) := ⟨_, rfl⟩
    have u24 : u 0 24 0 = q := by rw [hu]; rfl
    have u40 : u 0 40 0 = 1 := by rw [hu]; rfl
    have ho : ∀ (c : Int) (p : Nat) (k : Int), ¬ p = 24 → ¬ p = 40 → u c p k = ad c p k := fun c p k h1 h2 => by rw [hu]; exact (if_neg h1).trans (if_neg h2)
    obtain ⟨σ1, hσ1⟩ : ∃ σ1 : q_M, σ1 = q_set σ (0, 24, 0) (fun _ => 0) := ⟨_, rfl⟩
    have e1 : ∀ (c : Int) (p : Nat) (k : Int), ¬ p = 24 → σ1 c p k = σ c p k := fun c p k hp => by
      rw [hσ1]
      exact funext fun s => if_neg (fun z => hp z.2.1)
    have e24 : ∀ s, σ1 0 24 0 s = 0 := fun s => by rw [hσ1]; exact if_pos ⟨rfl, rfl, rfl⟩
    have eW : q_W cy u σ1 = q_W cy ad σ ++ [(q, .inl (cy 1, 3, .inr (.inl (fun _ => lO 0))))] := by
      rw [zw_W h0 u40 ho (τ := σ1) (τ' := σ) (fun c p k hp => e1 c p k (by omega)), u24]
      simp only [e24]
    rw [← eW] at hP hD
    have hZu : q_Z u A s s.heap := by
      obtain ⟨hz1, n1, xs, hn1, hx1, hl1, hA1⟩ := hZ
      refine ⟨fun p hp => ?_, n1, xs, hn1, by rw [ho 0 38 0 (by decide) (by decide)]; exact hx1, by rw [ho 0 38 0 (by decide) (by decide)]; exact hl1, by rw [ho 0 38 0 (by decide) (by decide)]; exact hA1⟩
      have hp1 : ¬ p = 24 := fun z => by subst z; exact absurd hp (by decide)
      have hp2 : ¬ p = 40 := fun z => by subst z; exact absurd hp (by decide)
      rw [ho 0 p 0 hp1 hp2]
      exact hz1 p hp
    have E2 : q_E2 (q_J p l e (headSpec wsL_wishes rm_L_wishes).room s m ([.ref (ad 0 23 0), .int (iO n), .int (iO t0), .int (iO t1), .int (iO t2)] : List Value).toArray below meth c 12 D cy A u 1 3 (MQ below (q_Q D cy ad Qp A) ([.ref (ad 0 23 0), .int (iO n), .int (iO t0), .int (iO t1), .int (iO t2)] : List Value).toArray s 1 3 A)) cL_wishes RL wsL_wishes 12 l rm_L_wishes := ⟨p, e, s, m, _, below, meth, c, D, cy, A, u, 1, 3, _, ⟨rfl, ⟨hx, hb, hml, hown, hts⟩, hK, fun τ => q_D_any hD τ, hA, hN, hZu, Nat.le_of_ble_eq_true rfl, Nat.le_of_ble_eq_true rfl⟩, u40⟩
    have T : q_T (q_J p l e (headSpec wsL_wishes rm_L_wishes).room s m ([.ref (ad 0 23 0), .int (iO n), .int (iO t0), .int (iO t1), .int (iO t2)] : List Value).toArray below meth c 12 D cy A u 1 3 (MQ below (q_Q D cy ad Qp A) ([.ref (ad 0 23 0), .int (iO n), .int (iO t0), .int (iO t1), .int (iO t2)] : List Value).toArray s 1 3 A)) cL_wishes (some .boolean) Qp := by
      refine ⟨fun pc σ' lv x h => (by cases h), ?_, fun pc σ' lv x h => (by cases h), fun pc σ' lv x h => (by cases h), fun pc σ' lv h => (by cases h)⟩
      intro pc σ' lv x hret hd hx01 ⟨σ2, hleq, hq⟩ H locs ls hP' hS' hl'
      have hP2 := q_P_leq hleq hP'
      rw [zw_W h0 u40 ho (τ := σ2) (τ' := σ2) (fun _ _ _ _ => rfl)] at hP2
      exact W.zret (v := iO x) (ty := .boolean) hx hb (by rw [hr]) (by rcases hx01 with rfl | rfl <;> rfl) (fun t ht hW => ⟨⟨some (zI x), σ2, rfl, hq, by rw [ht]; exact z_left hP2⟩, hS'.F ht⟩) hS'.2.2 hd
    obtain ⟨Y, ⟨⟨hI, hst⟩, hpre⟩, hk⟩ := hSp
    have g := v_L_wishes (so_C E2.q) (sb_L_wishes_3 E2 T cc_X5_wish cc_X5_wheel cc_X5_span cc_L_size cc_X5_spare) (sb_L_wishes_11 E2 T cc_X5_wish cc_X5_wheel cc_X5_span cc_L_size cc_X5_spare) (sb_L_wishes_53 E2 T cc_X5_wish cc_X5_wheel cc_X5_span cc_L_size cc_X5_spare) (sb_L_wishes_54 E2 T cc_X5_wish cc_X5_wheel cc_X5_span cc_L_size cc_X5_spare) (sb_L_wishes_71 E2 T cc_X5_wish cc_X5_wheel cc_X5_span cc_L_size cc_X5_spare) (sb_L_wishes_72 E2 T cc_X5_wish cc_X5_wheel cc_X5_span cc_L_size cc_X5_spare) (sb_L_wishes_77 E2 T cc_X5_wish cc_X5_wheel cc_X5_span cc_L_size cc_X5_spare) (sb_L_wishes_88 E2 T cc_X5_wish cc_X5_wheel cc_X5_span cc_L_size cc_X5_spare) (sb_L_wishes_89 E2 T cc_X5_wish cc_X5_wheel cc_X5_span cc_L_size cc_X5_spare) (sb_L_wishes_95 E2 T cc_X5_wish cc_X5_wheel cc_X5_span cc_L_size cc_X5_spare) (sb_L_wishes_132 E2 T cc_X5_wish cc_X5_wheel cc_X5_span cc_L_size cc_X5_spare) (sb_L_wishes_138 E2 T cc_X5_wish cc_X5_wheel cc_X5_span cc_L_size cc_X5_spare) (sb_L_wishes_210 E2 T cc_X5_wish cc_X5_wheel cc_X5_span cc_L_size cc_X5_spare) (sb_L_wishes_223 E2 T cc_X5_wish cc_X5_wheel cc_X5_span cc_L_size cc_X5_spare) (sb_L_wishes_224 E2 T cc_X5_wish cc_X5_wheel cc_X5_span cc_L_size cc_X5_spare) (σ := σ1) (n := n) (t0 := t0) (t1 := t1) (t2 := t2) ⟨Y, ⟨⟨hI, hst.c24 e1⟩, hpre⟩, hk⟩ (fun i _ => e24 i)
    have hlu : q_lh u 12 ls [some (zR 0 23 0), some (zI n), some (zI t0), some (zI t1), some (zI t2), none, none, none, none, none, none, none] := by
      refine ⟨hl.1, hl.2.1, fun x hx => ?_⟩
      have hx : x ∈ [(0, Value.ref (u 0 23 0)), (1, .int (iO n)), (2, .int (iO t0)), (3, .int (iO t1)), (4, .int (iO t2))] := hx
      rw [ho 0 23 0 (by decide) (by decide)] at hx
      exact hl.2.2 x hx
    have g2 := g H [] ls hP hS hlu
    change W p l e _ s m _ below meth c H [] 1 3 _ (F0 m 3 ls [.ref (u 0 24 0)]) at g2
    rw [u24] at g2
    exact g2
  · exact hSp.elim

