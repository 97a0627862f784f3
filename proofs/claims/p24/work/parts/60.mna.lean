/-! ===== new T[n][m]: an array of rows and its rows, at once ===== -/
/-- the state behind i of the rows -/
def zm_st (s : State) (cA cB : ClassId) (N M : Nat) (v : Value) : Nat → State
  | 0 => s.pushCell (arrV cA N (fun _ => .null))
  | i + 1 => ((zm_st s cA cB N M v i).pushCell (arrV cB M (fun _ => v))).setCell s.heap.size (arrV cA N (fun j => va_rf (if j < i + 1 then some (s.heap.size + 1 + j) else none)))
theorem zm_nul (cA : ClassId) (N b : Nat) : arrV cA N (fun _ => Value.null) = arrV cA N (fun j => va_rf (if j < 0 then some (b + 1 + j) else none)) :=
  congrArg (arrV cA N) (funext fun j => by rw [if_neg (Nat.not_lt_zero j)]; rfl)
theorem zm_set (cA : ClassId) (N b i : Nat) : (arrV cA N (fun j => va_rf (if j < i then some (b + 1 + j) else none))).setSlot i (.ref (b + 1 + i)) = arrV cA N (fun j => va_rf (if j < i + 1 then some (b + 1 + j) else none)) := by
  rw [arrV_store]
  refine congrArg (arrV cA N) (funext fun j => ?_)
  show (if j = i then Value.ref (b + 1 + i) else va_rf (if j < i then some (b + 1 + j) else none)) = va_rf (if j < i + 1 then some (b + 1 + j) else none)
  by_cases h : j = i
  · rw [if_pos h, if_pos (by omega), h]
    rfl
  · rw [if_neg h]
    by_cases h2 : j < i
    · rw [if_pos h2, if_pos (by omega)]
    · rw [if_neg h2, if_neg (by omega)]
theorem zm_facts (s : State) (cA cB : ClassId) (N M : Nat) (v : Value) : ∀ i : Nat, (zm_st s cA cB N M v i).heap.size = s.heap.size + 1 + i ∧ (zm_st s cA cB N M v i).heap[s.heap.size]? = some (arrV cA N (fun j => va_rf (if j < i then some (s.heap.size + 1 + j) else none))) ∧ (zm_st s cA cB N M v i).vm = s.vm ∧ (zm_st s cA cB N M v i).slotsUsed = s.slotsUsed + N + i * M ∧
    (∀ a : Nat, a < s.heap.size → (zm_st s cA cB N M v i).heap[a]? = s.heap[a]?) ∧ (∀ j : Nat, j < i → (zm_st s cA cB N M v i).heap[s.heap.size + 1 + j]? = some (arrV cB M (fun _ => v))) := by
  intro i
  induction i with
  | zero =>
    refine ⟨?_, ?_, rfl, ?_, fun a ha => State.heap_pushCell_of_lt _ _ ha, fun j h => absurd h (Nat.not_lt_zero j)⟩
    · simp [zm_st]
    · rw [← zm_nul]
      exact State.heap_pushCell_size _ _
    · simp [zm_st, arrV_size]
  | succ i ih =>
    obtain ⟨a, b, c, d, e, f⟩ := ih
    have hlt : s.heap.size < (zm_st s cA cB N M v i).heap.size := by omega
    have hb : ((zm_st s cA cB N M v i).pushCell (arrV cB M (fun _ => v))).heap[s.heap.size]? = some (arrV cA N (fun j => va_rf (if j < i then some (s.heap.size + 1 + j) else none))) := by
      rw [State.heap_pushCell_of_lt _ _ hlt]
      exact b
    refine ⟨?_, State.heap_setCell_self hb, ?_, ?_, fun x hx => ?_, fun j hj => ?_⟩
    · simp [zm_st, State.setCell, a]
      omega
    · simp [zm_st, c]
    · simp [zm_st, d, arrV_size, Nat.succ_mul]
      omega
    · show (((zm_st s cA cB N M v i).pushCell (arrV cB M (fun _ => v))).setCell s.heap.size _).heap[x]? = _
      rw [State.heap_setCell_other (show s.heap.size ≠ x by omega), State.heap_pushCell_of_lt _ _ (show x < (zm_st s cA cB N M v i).heap.size by omega)]
      exact e x hx
    · show (((zm_st s cA cB N M v i).pushCell (arrV cB M (fun _ => v))).setCell s.heap.size _).heap[s.heap.size + 1 + j]? = _
      rw [State.heap_setCell_other (show s.heap.size ≠ s.heap.size + 1 + j by omega)]
      by_cases h : j < i
      · rw [State.heap_pushCell_of_lt _ _ (show s.heap.size + 1 + j < (zm_st s cA cB N M v i).heap.size by omega)]
        exact f j h
      · have hj' : j = i := by omega
        subst hj'
        rw [← a]
        exact State.heap_pushCell_size _ _
theorem zm_setTop (s : State) (g : JFrame) (cA cB : ClassId) (N M : Nat) (v : Value) : ∀ i : Nat, zm_st (s.setTop g) cA cB N M v i = (zm_st s cA cB N M v i).setTop g := by
  intro i
  induction i with
  | zero => rfl
  | succ i ih => simp only [zm_st, ih, State.heap_setTop, State.pushCell_setTop, State.setCell_setTop]
section ZMW
variable {E : CtlPost} {e : Env} {d : Bool} {acts : List Action} {s : State}
theorem zm_make1 {cB cc : ClassId} {kc : Class} {ty : FieldType} {k : Int32} (hkc : s.vm.classes[cB]? = some kc) (hkind : kc.kind = .array cc ty) (hk : ¬ k < 0) (hl : ¬ k.toNatClampNeg > e.platform.arrayLengthLimit) (hh : ¬ k.toNatClampNeg * componentBytes ty > e.platform.maxHeapBytes) (hdf : fits ty (defaultValue ty) = true) (h1 : s.heap.size < e.platform.maxCells) (h2 : s.slotsUsed + k.toNatClampNeg ≤ e.platform.maxSlots) {Q : Addr → Pre} (hq : ∀ acts', Q s.heap.size d acts' (s.pushCell (arrV cB k.toNatClampNeg (fun _ => defaultValue ty)))) : wp (Op.multianewarray.make cB [k]) Q E e d acts s := by
  rw [Op.multianewarray.make]
  simp only [wp_bind', W.ite, hk, if_false, wp_pure', W.theClass, hkc, hkind, Option.some.injEq, exists_eq_left']
  refine W.newArray_of hkc hkind hl hh h1 h2 hdf (fun acts' => ?_)
  have := hq acts'
  rw [← arrV_new] at this
  exact this
theorem zm_make2 {cA cB cc : ClassId} {ka kc : Class} {t0 ty : FieldType} {n k : Int32} (hka : s.vm.classes[cA]? = some ka) (hkA : ka.kind = .array cB t0) (href : t0.isReference = true) (hkc : s.vm.classes[cB]? = some kc) (hkC : kc.kind = .array cc ty) (hn : ¬ n < 0) (hk : ¬ k < 0)
    (hl1 : ¬ n.toNatClampNeg > e.platform.arrayLengthLimit) (hh1 : ¬ n.toNatClampNeg * componentBytes t0 > e.platform.maxHeapBytes) (hl2 : ¬ k.toNatClampNeg > e.platform.arrayLengthLimit) (hh2 : ¬ k.toNatClampNeg * componentBytes ty > e.platform.maxHeapBytes) (hdf : fits ty (defaultValue ty) = true)
    (hc : s.heap.size + 1 + n.toNatClampNeg ≤ e.platform.maxCells) (hs : s.slotsUsed + n.toNatClampNeg + n.toNatClampNeg * k.toNatClampNeg ≤ e.platform.maxSlots) {Q : Addr → Pre} (hq : ∀ d' acts', Q s.heap.size d' acts' (zm_st s cA cB n.toNatClampNeg k.toNatClampNeg (defaultValue ty) n.toNatClampNeg)) : wp (Op.multianewarray.make cA [n, k]) Q E e d acts s := by
  have hfind : ([k].find? (· < 0)) = none := by simp [hk]
  have hrf : ∀ w : Value, (w = .null ∨ ∃ a, w = .ref a) → fits t0 w = true := fun w hw => by
    rcases hw with rfl | ⟨a, rfl⟩ <;> cases t0 <;> simp [FieldType.isReference] at href <;> rfl
  rw [Op.multianewarray.make]
  simp only [wp_bind', W.ite, hn, if_false, wp_pure', W.theClass, hka, hkA, Option.some.injEq, exists_eq_left']
  refine W.newArray_of hka hkA hl1 hh1 (by omega) (by omega) (hrf _ (Or.inl rfl)) (fun acts1 => ?_)
  simp only [hfind]
  rw [ite_self, wp_bind', Std.Legacy.Range.forIn_eq_forIn_range']
  have hsz : ([:n.toNatClampNeg] : Std.Legacy.Range).size = n.toNatClampNeg := by simp [Std.Legacy.Range.size]
  rw [hsz]
  refine wp_forIn_inv (fun rest s' => ∃ i : Nat, i ≤ n.toNatClampNeg ∧ rest = List.range' i (n.toNatClampNeg - i) ∧ s' = zm_st s cA cB n.toNatClampNeg k.toNatClampNeg (defaultValue ty) i) _ _ ⟨0, Nat.zero_le _, rfl, ?_⟩ ?_ ?_
  · show _ = s.pushCell (arrV _ _ _)
    rw [← arrV_new]
  · rintro x rest s' d' acts' Q' ⟨i, hi, hl, rfl⟩ hnext
    have hlt : i < n.toNatClampNeg := by
      rcases Nat.lt_or_ge i n.toNatClampNeg with h | h
      · exact h
      · rw [show n.toNatClampNeg - i = 0 from by omega] at hl
        cases hl
    rw [show n.toNatClampNeg - i = (n.toNatClampNeg - (i + 1)) + 1 from by omega, List.range'_succ] at hl
    obtain ⟨rfl, hrest⟩ := List.cons.inj hl
    obtain ⟨f1, f2, f3, f4, -, -⟩ := zm_facts s cA cB n.toNatClampNeg k.toNatClampNeg (defaultValue ty) x
    have hmul : x * k.toNatClampNeg + k.toNatClampNeg ≤ n.toNatClampNeg * k.toNatClampNeg := by
      have h9 := Nat.mul_le_mul_right k.toNatClampNeg (show x + 1 ≤ n.toNatClampNeg from hlt)
      rw [Nat.succ_mul] at h9
      exact h9
    simp only [wp_bind']
    refine zm_make1 (by rw [f3]; exact hkc) hkC hk hl2 hh2 hdf (by rw [f1]; omega) (by rw [f4]; omega) (fun acts2 => ?_)
    have hlt0 : s.heap.size < (zm_st s cA cB n.toNatClampNeg k.toNatClampNeg (defaultValue ty) x).heap.size := by rw [f1]; omega
    simp only [wp_bind', W.writeLoc, wp_pure']
    refine ⟨_, by rw [State.heap_pushCell_of_lt _ _ hlt0]; exact f2, (fun q => by cases q), by rw [arrV_size]; exact hlt, ?_, hnext _ _ _ ⟨x + 1, hlt, hrest, ?_⟩⟩
    · show State.fitsSlot _ cA _ _ _ = true
      simp [State.fitsSlot, State.slotType?, f3, hka, hkA, hrf _ (Or.inr ⟨_, rfl⟩), arrV]
    · rw [f1, zm_set]
      rfl
  · rintro s' d' acts' ⟨i, hi, hl, rfl⟩
    have hiN : i = n.toNatClampNeg := by
      rcases Nat.lt_or_ge i n.toNatClampNeg with h | h
      · rw [show n.toNatClampNeg - i = (n.toNatClampNeg - (i + 1)) + 1 from by omega, List.range'_succ] at hl
        cases hl
      · omega
    subst hiN
    simp only [wp_pure']
    exact hq _ _
end ZMW
section ZMS
variable {p : Program} {l : Launch} {e : Env} {R : Room} {s : State} {m : MethodId} {args : Array Value} {below : List Frame} {meth : Method} {c : Code} {T : State} {locs : List Loc} {cells slots : Nat}
theorem zm_stand (X : Stand p l e R s m args below meth c T locs cells slots) (cA cB : ClassId) (N M : Nat) (v : Value) : ∀ i : Nat, Stand p l e R s m args below meth c (zm_st T cA cB N M v i) locs (cells + 1 + i) (slots + N + i * M) := by
  intro i
  induction i with
  | zero =>
    have h := X.pushed (arrV cA N (fun _ => Value.null))
    rw [arrV_size] at h
    rw [Nat.zero_mul]
    exact h
  | succ i ih =>
    obtain ⟨f1, f2, f3, f4, -, -⟩ := zm_facts T cA cB N M v i
    have hlt0 : T.heap.size < (zm_st T cA cB N M v i).heap.size := by rw [f1]; omega
    have hcell : ((zm_st T cA cB N M v i).pushCell (arrV cB M (fun _ => v))).heap[T.heap.size]? = some (arrV cA N (fun j => va_rf (if j < i then some (T.heap.size + 1 + j) else none))) := by
      rw [State.heap_pushCell_of_lt _ _ hlt0]
      exact f2
    have h := (ih.pushed (arrV cB M (fun _ => v))).stored hcell i (.ref (T.heap.size + 1 + i))
    rw [arrV_size, zm_set] at h
    have h2 := h.dropFresh (fun x hx => by
      cases List.mem_singleton.mp hx
      exact X.heapGrown)
    have e1 : slots + N + (i + 1) * M = slots + N + i * M + M := by
      rw [Nat.succ_mul]
      omega
    rw [e1]
    exact h2
end ZMS
section ZMV
variable {p : Program} {l : Launch} {e : Env} {R : Room} {s : State} {m : MethodId} {args : Array Value} {below : List Frame} {meth : Method} {c : Code} {H : Heap} {locs : List Loc} {cells slots : Nat} {Q : State → Prop} {cc : ByteArray} {pc : Nat} {ls : Array Slot} {rest : List Value}
theorem zm_new (hexec : p.tables.exec = Jvm.exec) (hb : c.code = cc) {own : String} {index : Nat} {ty : FieldType} (hown : s.vm.findClass own = some m.cls) (hclink : (Cond.classLink own index ("[" ++ (FieldType.array ty).toString)).before args s = true) (hover : (Cond.arrayOver (.array ty)).before args s = true) (harr : (Cond.arrayClass ty).before args s = true)
    {n k : Int32} {N M : Nat} (hn : ¬ n < 0) (hk : ¬ k < 0) (hN : n.toNatClampNeg = N) (hM : k.toNatClampNeg = M) (hb1 : N * 4 ≤ 536870912) (hb2 : M * componentBytes ty ≤ 536870912) (hb3 : M ≤ 536870912) (hdf : fits ty (defaultValue ty) = true) (hcells : cells + (1 + N) ≤ R.cells) (hslots : slots + (N + N * M) ≤ R.slots) (hdg : decode cc pc = .ok (.multianewarray index 2, 4))
    (kk : ∀ (cA cB : ClassId) (H1 : Heap), s.vm.findClass ("[" ++ (FieldType.array ty).toString) = some cA → s.vm.findClass (FieldType.array ty).toString = some cB → H1.size = H.size + 1 + N → H1[H.size]? = some (arrV cA N (fun j => va_rf (if j < N then some (H.size + 1 + j) else none))) → (∀ j : Nat, j < N → H1[H.size + 1 + j]? = some (arrV cB M (fun _ => defaultValue ty))) → (∀ a : Nat, a < H.size → H1[a]? = H[a]?) →
      W p l e R s m args below meth c H1 locs (cells + 1 + N) (slots + N + N * M) Q (F0 m (pc + 4) ls (.ref H.size :: rest))) : W p l e R s m args below meth c H locs cells slots Q (F0 m pc ls (.int k :: .int n :: rest)) := by
  subst hN
  subst hM
  intro T hT X
  subst hT
  have hpl : e.platform.magicAccessors = ({} : Platform).magicAccessors := by rw [X.admits.platform]
  obtain ⟨cB, cA, kA, hfB, -, hkA, hkindA, hfA⟩ := arrayOverA_spec hover
  obtain ⟨cC, kC, cc', hfC, hkC, hkindC⟩ := Cond.arrayClass_spec harr
  have eC : cC = cB := Option.some.inj (hfC.symm.trans hfB)
  subst eC
  obtain ⟨c0, hfc0, hcl⟩ := Cond.classLink_spec hown hclink e.platform hpl
  cases hfA.symm.trans hfc0
  obtain ⟨hg1, hw1, -⟩ := State.classEntry (e := e) X.warmed hcl
  generalize T.vm.noted m.cls index (.cls cA) = vm1 at hg1 hw1
  have hal : s.vm.Alike vm1 := hw1.alike
  obtain ⟨kA1, hkA1, heA⟩ := hal.2.2 _ _ hkA
  obtain ⟨kC1, hkC1, heC⟩ := hal.2.2 _ _ hkC
  have hkindA1 : kA1.kind = .array cC (.array ty) := by rw [heA]; exact hkindA
  have hkindC1 : kC1.kind = .array cc' ty := by rw [heC]; exact hkindC
  have X1 := X.noted hw1
  obtain ⟨hr1, hr2⟩ := X.roomAbove hcells hslots
  have XF := zm_stand X1 cA cC n.toNatClampNeg k.toNatClampNeg (defaultValue ty) n.toNatClampNeg
  obtain ⟨f1, f2, -, -, f5, f6⟩ := zm_facts (T.setVm vm1) cA cC n.toNatClampNeg k.toNatClampNeg (defaultValue ty) n.toNatClampNeg
  obtain ⟨t, a1, b1⟩ := kk cA cC _ hfA hfB f1 f2 f6 f5 (zm_st (T.setVm vm1) cA cC n.toNatClampNeg k.toNatClampNeg (defaultValue ty) n.toNatClampNeg) rfl XF
  refine ⟨t, ?_, b1⟩
  have hl1 : ¬ n.toNatClampNeg > e.platform.arrayLengthLimit := by rw [Launch.admits_arrayLengthLimit X.admits]; omega
  have hh1 : ¬ n.toNatClampNeg * componentBytes (.array ty) > e.platform.maxHeapBytes := by
    rw [Launch.admits_maxHeapBytes X.admits]
    show ¬ n.toNatClampNeg * 4 > 536870912
    omega
  have hl2 : ¬ k.toNatClampNeg > e.platform.arrayLengthLimit := by rw [Launch.admits_arrayLengthLimit X.admits]; omega
  have hh2 : ¬ k.toNatClampNeg * componentBytes ty > e.platform.maxHeapBytes := by rw [Launch.admits_maxHeapBytes X.admits]; omega
  jvm_step X.here [hexec, hb, hdg]
  simp only [Op.multianewarray.sem, wp_bind', W.resolveClassAt_links (State.method?_setTop (F0 m pc ls (.int k :: .int n :: rest)) X.here.top) hg1]
  rw [W.popN, if_neg (by decide)]
  refine ⟨F0 m pc ls (.int k :: .int n :: rest), State.topJava?_setTop' (s := T.setVm vm1) _ X.here.top, [.int n, .int k], rest, rfl, rfl, ?_⟩
  simp only [List.mapM_cons, List.mapM_nil, wp_bind', wp_pure']
  refine zm_make2 (ka := kA1) (kc := kC1) (cB := cC) (cc := cc') (t0 := .array ty) (ty := ty) hkA1 hkindA1 rfl hkC1 hkindC1 hn hk hl1 hh1 hl2 hh2 hdf (by show T.heap.size + 1 + _ ≤ _; omega) (by show T.slotsUsed + _ + _ ≤ _; omega) (fun d' acts' => ?_)
  have eS : ∀ g g2 : JFrame, ((T.setTop g).setVm vm1).setTop g2 = (T.setVm vm1).setTop g2 := fun g g2 => by
    show ((T.setVm vm1).setTop g).setTop _ = _
    rw [State.setTop_setTop]
  rw [eS, zm_setTop]
  simp only [wp_bind', W.mark, W.pushRef, State.topJava?_setTop' _ XF.here.top, Option.some.injEq, exists_eq_left', State.setTop_setTop, State.heap_setTop]
  intro acts
  simp [jvm, XF.here.top]
  exact a1
end ZMV
