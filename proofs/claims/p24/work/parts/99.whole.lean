/-! THE CLAIM OUT OF ONE WALK OF THE LAW'S BODY. Your part is whole_start (and what it stands on); all else here is the same for every law, but numbers. -/
def R_law : String := "WheelDeskLaw"
def lw_P (b : Addr) (xs : List Int32) (args : Array Value) (s : State) : Prop := args = #[.ref b] ∧ s.IntsAt b xs ∧ xs.length ≤ 260 ∧ (Jvm.Cond.and given_1 narrow_1).before args s = true
/-- what a walk over the start with the record d0 says of its end, said of the start itself -/
theorem lw_closed {s t : State} {o : Outcome} {d0 : Drawn} {L : List Loc} {k n : Nat} (hd0 : s.drawn.sameBut d0 lw_cs) (hv : ∃ v, o = .returned v) (hW : (s.setDrawn d0).WarmedH t.vm) (hs : (s.setDrawn d0).sameButNew ({ t with vm := s.vm } : State) L k n) : State.butDraws s t lw_cs (fun t1 => Framed s o t1 L k n) := by
  have h2 : t.drawn = d0 := congrArg State.drawn hs.1
  refine ⟨⟨hv, hW, State.sameButNew.setDrawn hs s.drawn⟩, ?_, by decide⟩
  rw [h2]
  exact hd0
def lw_Q (_ : Array Value) (s : State) (o : Outcome) (t : State) : Prop := o = .returned (some (.int 1)) ∧ State.butDraws s t lw_cs (fun t1 => Framed s o t1 [] 817489 6649780)
def lw_Z (below : List Frame) (a : Array Value) (s : State) : State → Prop := fun t => ∃ o, t.status = .running ∧ Ended t below o ∧ lw_Q a s o t
/-- the law's own end, with 1 on the stack, nothing written that was there before, its room as the claim has it; d0: the record of draws at this point (at the entry s.drawn: begin with 'refine W.base ?_' and 'have hd0 := Drawn.sameBut.refl s.drawn lw_cs') -/
theorem lw_ret {p : Program} {l : Launch} {e : Env} {s : State} {m : MethodId} {below : List Frame} {meth : Method} {c : Code} {b : Nat} {d0 : Drawn} (hd0 : s.drawn.sameBut d0 lw_cs) (hx : p.tables.exec = Jvm.exec) (hb : c.code = code) (hr : meth.sig.returnType = ret) (hlocks : meth.locks = false) {pc : Nat} {H : Heap} {ls : Array Slot} (hdg : decode code pc = .ok (.ireturn, 1)) : W p l e room_1 (s.setDrawn d0) m #[Value.ref b] below meth c H [] 817489 6649780 (lw_Z below #[Value.ref b] s) (F0 m pc ls [.int 1]) := by
  intro T hT X
  obtain ⟨fs, hret, hrun, hended, hW, hframe⟩ := X.leave (v := some (.int 1)) (hlocks := hlocks) (fun h => by rw [hr] at h; cases h)
  have hmeth' : T.vm.method? m = some meth := X.method'
  refine ⟨T.setFrames fs, ?_, .returned (some (.int 1)), hrun, hended, rfl, lw_closed hd0 ⟨_, rfl⟩ hW hframe⟩
  jvm_step X.here [X.here.top, hx, hb, hdg, hmeth', hr, ret, narrow_b1]
  (try refine ⟨rfl, ?_⟩); (try refine ⟨rfl, ?_⟩)
  first | (intro acts; rw [hret _ acts rfl rfl rfl]) | rw [hret _ _ rfl rfl rfl]
  exact Steps.refl _
/-- what holds at the law's entry: the machine, the code, the tables' words (any of lw_tbl by 'hts w (by decide +kernel)'), the script of L ints xs at the cell b, what the Statement gives of the start (any of its parts by flat_of_before) -/
def lw_At (p : Program) (s : State) (m : MethodId) (meth : Method) (c : Code) (b L : Nat) (xs : Nat → Int32) : Prop :=
  p.tables.exec = Jvm.exec ∧ c.code = code ∧ meth.sig.returnType = ret ∧ c.maxLocals = 13 ∧ s.vm.findClass R_law = some m.cls ∧ (∀ w ∈ lw_tbl, w.before #[Value.ref b] s = true) ∧ va_X b L xs s s.heap ∧ b < s.heap.size ∧ meth.locks = false ∧ (Jvm.Cond.and given_1 narrow_1).before #[Value.ref b] s = true
set_option maxHeartbeats 4000000 in
set_option maxRecDepth 100000 in
/-- from the entry: the desk is made, then the checks of a new one, then the loop -/
theorem whole_start {p : Program} {e : Env} {s : State} {m : MethodId} {below : List Frame} {meth : Method} {c : Code} (l : Launch) (hflags : l.flags = flags0) {b L : Nat} {xs : Nat → Int32} (hL : L ≤ 260) (C0 : lw_At p s m meth c b L xs) : W p l e room_1 s m #[Value.ref b] below meth c s.heap [] 0 0 (lw_Z below #[Value.ref b] s) (entryFrame m ([Value.ref b] : List Value).toArray 13) := by
  obtain ⟨hx, hb, hr, hml, hown0, hts0, hX, hbl, hlocks, hgv⟩ := id C0
  have hown : s.vm.findClass RL = some m.cls := hown0
  have hts : ∀ w ∈ wsL_law, w.before #[Value.ref b] s = true := fun w h => hts0 w (wsL_law_in w h)
  obtain ⟨D, cy, hK⟩ := z_K hts0
  have hO := z_Os hts0
  have hN := z_Ns hts0
  obtain ⟨A, hAd⟩ : ∃ A : Nat → Prop, A = fun q => s.heap.size ≤ q := ⟨_, rfl⟩
  have hA : ∀ q : Nat, s.heap.size ≤ q → A q := fun q h => by rw [hAd]; exact h
  have hnA : ∀ q : Nat, q < s.heap.size → ¬ A q := fun q h => by rw [hAd]; exact Nat.not_le.mpr h
  obtain ⟨t4, t5, t6, t7, hZ⟩ := z_Zs (L := L) (xs := xs) (by omega) hX hbl hnA hts0 hgv
  have hinX5 : ∀ w ∈ u_ws RX5 TX5 5, w ∈ wsL_law := by decide +kernel
  have hS : va_S A s.heap s.heap [] := va_S.rf
  have hP : va_P D vwCl [] s.heap := fun k q h => by cases h
  have hD : va_D A [] := ⟨fun i j p q hi => (by cases hi), fun k q h => (by cases h)⟩
  have hl := lv_entry ([.ref b]) (n := 13) (Nat.le_of_ble_eq_true rfl)
  rw [lg_entry_eq]
  generalize (lg_sl ([.ref b]) ++ List.replicate (13 - (lg_sl ([.ref b])).length) Slot.unset).toArray = ls at hl ⊢
  have hl : lv_has ls 13 [(0, .ref b)] := hl
  refine va_new (ci := 5) (fs := [.null, .null, .null, .null, .null]) (C := RX5) (T := TX5) (N := 5) hx hb hts hinX5 tyX5 tyX5_ok hown (hts (.classLink RL 10 RX5) (by decide +kernel)) (hts (.instantiable RX5 5) (by decide +kernel)) (hts (.initialized RX5) (by decide +kernel)) hK hP hD hS hA rfl (fun j hj => by rcases (show j = 0 ∨ j = 1 ∨ j = 2 ∨ j = 3 ∨ j = 4 by omega) with rfl | rfl | rfl | rfl | rfl <;> rfl) (Nat.le_of_ble_eq_true rfl) (Nat.le_of_ble_eq_true rfl) dL_law_0 (fun q0 H hP hD hS => ?_)
  have hP : va_P D vwCl ((([] : va_W)) ++ [(q0, .inr (5, [.null, .null, .null, .null, .null]))]) H := hP
  have hD : va_D A ((([] : va_W)) ++ [(q0, .inr (5, [.null, .null, .null, .null, .null]))]) := hD
  refine lv_dup hx hb dL_law_3 rfl ?_
  have hPc : va_P D vwCl [(q0, .inr (5, [.null, .null, .null, .null, .null]))] H := z_cut (X := ([] : va_W)) hP
  have hDc : va_D (fun _ => True) [(q0, .inr (5, [.null, .null, .null, .null, .null]))] := (z_cutD (X := ([] : va_W)) hD).weaken (fun _ _ _ _ => trivial)
  have hFc := z_free (X := ([] : va_W)) (wc := [(q0, .inr (5, [.null, .null, .null, .null, .null]))]) hD hS hA
  refine va_callv (va_runI (As := []) (rest := [.ref q0]) ⟨hx, hb, hml, hown, hts⟩ (c_X5_init l D cy q0 H.size) (cwI 0 hts gL_law_X5_init rfl rfl rfl (hts (.initialized RX5) (by decide +kernel)) (hts (.methodLink RL 94 yX5_init) (by decide +kernel)) (hts (.instanceMethod yX5_init) (by decide +kernel)) rfl (by decide +kernel) ⟨(Nat.le_of_ble_eq_true rfl), (Nat.le_of_ble_eq_true rfl)⟩) ⟨z_blind, fun U hU hW => ⟨rfl, by rw [hU], by rw [hU]; exact hPc, va_K.moved hW.alike hK, hDc, q_N.warm hW hN, hO.moved hW.alike⟩⟩ rfl rfl hl.1 rfl (lv_room (Nat.le_of_ble_eq_true rfl)) dL_law_4 ⟨(Nat.le_of_ble_eq_true rfl), (Nat.le_of_ble_eq_true rfl)⟩) hS (fun q _ h => hFc q h) hFc (fun u5 t H1 locs ht hvm hw hB hz1 hk1 hS => ?_)
  obtain ⟨he1, hP1, hD1⟩ := hB
  rw [ht] at hP1
  obtain ⟨hPz, hDz⟩ := z_join (X := ([] : va_W)) (wc := [(q0, .inr (5, [.null, .null, .null, .null, .null]))]) (w1 := zz_W cy u5 zd_RL) hP hD hk1 hFc hP1 hD1
  clear hPc hDc hFc hP1 hD1 hk1 hz1
  generalize H1 = H at hPz hS ⊢
  subst he1
  have hP : va_P D vwCl (zz_W cy u5 zd_RL) H := hPz
  have hD : va_D A (zz_W cy u5 zd_RL) := hDz
  refine lv_astore_n (lv' := [(1, .ref (u5 0 23 0)), (0, .ref b)]) hx hb dL_law_7 rfl hl (by decide) rfl (fun ls hl => ?_)
  obtain ⟨u, eu5, e4, e5, e6, e7, e8, e40, hPu, hDu⟩ := z_full b t4 t5 t6 t7 hP hD
  refine W.widen (k := 817471) (n := 6649726) (Nat.le_of_ble_eq_true rfl) (Nat.le_of_ble_eq_true rfl) ?_
  have hZu := hZ u e4 e5 e6 e7 e8
  have hcz : room_1.cells = 817489 := rfl
  have hsz : room_1.slots = 6649780 := rfl
  obtain ⟨J, hJ⟩ : ∃ J : Nat → Nat → q_K, J = fun j => q_J p l e room_1 s m #[Value.ref b] below meth c 13 D cy A u (817471 + j) (6649726 + 3 * j) (lw_Z below #[Value.ref b] s) := ⟨_, rfl⟩
  have E : ∀ j : Nat, j ≤ 18 → q_E (J j) cL_law RL wsL_law 13 l room_1 := fun j hj => ⟨p, e, s, m, _, below, meth, c, D, cy, A, u, 817471 + j, 6649726 + 3 * j, _, by rw [hJ], ⟨hx, hb, hml, hown, hts⟩, hK, fun σ => q_D_any hDu σ, hA, hN, hZu, by rw [hcz]; omega, by rw [hsz]; omega⟩
  have E1 : ∀ j : Nat, j < 18 → q_E1 (J j) (J (j + 1)) cL_law RL wsL_law 13 l room_1 := fun j hj => ⟨p, e, s, m, _, below, meth, c, D, cy, A, u, 817471 + j, 6649726 + 3 * j, _, ⟨by rw [hJ], ⟨hx, hb, hml, hown, hts⟩, hK, fun σ => q_D_any hDu σ, hA, hN, hZu, by rw [hcz]; omega, by rw [hsz]; omega⟩, e40, by rw [hJ]; (try dsimp only); rw [show 817471 + (j + 1) = 817471 + j + 1 by omega, show 6649726 + 3 * (j + 1) = 6649726 + 3 * j + 3 by omega]⟩
  have T : ∀ j : Nat, j ≤ 18 → q_T (J j) cL_law (some .boolean) (fun rv _ => rv = some (zI 1)) := fun j hj => by
    rw [hJ]
    refine ⟨fun pc σ lv x h => (by cases h), fun pc σ lv x _ hd _ ho => ?_, fun pc σ lv x h => (by cases h), fun pc σ lv x h => (by cases h), fun pc σ lv h => (by cases h)⟩
    obtain ⟨σ1, -, hQ⟩ := ho
    cases hQ
    intro H locs ls hP hS hl
    change W p l e room_1 s m #[Value.ref b] below meth c H locs (817471 + j) (6649726 + 3 * j) (lw_Z below #[Value.ref b] s) (F0 m pc ls [.int 1])
    refine W.widen (k := 817489) (n := 6649780) (by omega) (by omega) ?_
    refine va_forget (fun q hq => by have h9 := hS.2.2 q hq; rw [hAd] at h9; exact h9) ?_
    refine W.base ?_
    exact lw_ret (Drawn.sameBut.refl s.drawn lw_cs) hx hb hr hlocks hd
  have mono : ∀ (j t : Nat) (σ : q_M) (lv : q_L) (st : q_S), j < 18 → J (j + 1) t σ lv st → J j t σ lv st := fun j t σ lv st _ h => by
    rw [hJ] at h ⊢
    intro H locs ls hP hS hl
    exact W.widen (by omega) (by omega) (h H locs ls hP hS hl)
  have loop := v_L_loop (X := J) (fun j hj => so_C (E j hj)) mono (fun j hj => sb_L_law_99 (E j hj) (T j hj)) (fun j hj => sb_L_law_130 (E j hj) (T j hj)) (fun j hj => sb_L_law_137 (E j hj) (T j hj)) (fun j hj => sb_L_law_249 (E j hj) (T j hj)) (fun j hj => sb_L_law_250 (E j hj) (T j hj)) (fun j hj => sb_L_law_257 (E j hj) (T j hj)) (fun j hj => sb_L_law_258 (E j hj) (T j hj)) (fun j hj => sb_L_law_270 (E j hj) (T j hj)) (fun j hj => sb_L_law_271 (E j hj) (T j hj)) (fun j hj => sb_L_law_276 (E j hj) (T j hj)) (fun j hj => sb_L_law_297 (E j hj) (T j hj)) (fun j hj => sb_L_law_299 (E j hj) (T j hj)) (fun j hj => sb_L_law_322 (E j hj) (T j hj)) (fun j hj => sb_L_law_366 (E j hj) (T j hj)) (fun j hj => sb_L_law_389 (E j hj) (T j hj)) (fun j hj => sb_L_law_411 (E j hj) (T j hj)) (fun j hj => sb_L_law_424 (E j hj) (T j hj)) (fun j hj => sb_L_law_476 (E j hj) (T j hj)) (fun j hj => sb_L_law_477 (E j hj) (T j hj)) (fun j hj => sb_L_law_482 (E j hj) (T j hj)) (fun j hj => sb_L_law_524 (E j hj) (T j hj)) (fun j hj => sb_L_law_545 (E j hj) (T j hj)) (fun j hj => sb_L_law_566 (E j hj) (T j hj)) (fun j hj => sb_L_law_576 (E j hj) (T j hj)) (fun j hj => sb_L_law_606 (E j hj) (T j hj)) (fun j hj => sb_L_law_607 (E j hj) (T j hj)) (fun j hj => sb_L_law_612 (E j hj) (T j hj)) (fun j hj => sb_L_law_692 (E j hj) (T j hj)) (fun j hj => sb_L_law_693 (E j hj) (T j hj)) (fun j hj => sb_L_law_698 (E j hj) (T j hj)) (fun j hj => sb_L_law_742 (E j hj) (T j hj)) (fun j hj => sb_L_law_743 (E j hj) (T j hj)) (fun j hj => sb_L_law_771 (E j hj) (T j hj)) (fun j hj => sb_L_law_772 (E j hj) (T j hj)) (fun j hj => sb_L_law_779 (E j hj) (T j hj)) (fun j hj => sb_L_law_780 (E j hj) (T j hj)) (fun j hj => sb_L_law_785 (E j hj) (T j hj)) (fun j hj => sb_L_law_816 (E j hj) (T j hj)) (fun j hj => sb_L_law_817 (E j hj) (T j hj)) (fun j hj => sb_L_law_831 (E j hj) (T j hj)) (fun j hj => sb_L_law_832 (E j hj) (T j hj)) (fun j hj => sb_L_law_867 (E j hj) (T j hj)) (fun j hj => sb_L_law_868 (E j hj) (T j hj)) (fun j hj => sb_L_law_921 (E j hj) (T j hj)) (fun j hj => sb_L_law_936 (E j hj) (T j hj)) (fun j hj => sb_L_law_942 (E j hj) (T j hj)) (fun j hj => sb_L_law_873 (E1 j hj)) (fun σ => rfl) 18 0 rfl
  have hv := v_L_start (X := J 0) (sb_L_law_8 (E 0 (by decide)) (T 0 (by decide))) (sb_L_law_95 (E 0 (by decide)) (T 0 (by decide))) z_st z_Inv rfl rfl rfl rfl rfl z_on (fun τ hτ => loop τ (z_s0 0) hτ z_Inv (by decide))
  rw [hJ] at hv
  refine hv H locs ls hPu hS ⟨hl.1, hl.2.1, fun q hq => ?_⟩
  have hq : q ∈ [(0, Value.ref (u 0 38 0)), (1, Value.ref (u 0 23 0))] := hq
  rw [e8, eu5] at hq
  simp only [List.mem_cons, List.not_mem_nil, or_false] at hq
  rcases hq with rfl | rfl
  · exact lv_at hl 1 rfl
  · exact lv_at hl 0 rfl
set_option maxHeartbeats 4000000 in
theorem lw_walk (l : Launch) (hflags : l.flags = flags0) (b : Addr) (xs : List Int32) : MetFree l x (headSpec (Jvm.Cond.code x code maxLocals ret :: tables_1) room_1) (lw_P b xs) (fun _ _ _ _ _ => True) lw_Q := by
  refine MetFree.of_bodyS (code := code) (maxLocals := maxLocals) (ret := ret) (by decide) ?_ ?_
  · intro args s m h hn
    obtain ⟨meth, c, h1, h2, h3, h4, h5, h6, -, -⟩ := Cond.code_spec hn (atoms_spec (ws := Jvm.Cond.code x code maxLocals ret :: tables_1) h _ List.mem_cons_self)
    exact ⟨meth, c, h1, h2, h3, h4, h5, h6⟩
  · intro p e s m args below meth c s₁ B hml0 hP _
    obtain ⟨rfl, hx, hbd, hgv⟩ := hP
    obtain ⟨scr, harrAt, hlist, hof, hsmall⟩ := hx
    obtain ⟨hcb, hkn, -, -⟩ := State.arrayAt?_spec harrAt
    have hown : s.vm.findClass R_law = some m.cls := findClass_of_methodNamed B.named
    have hts0 : ∀ c ∈ (Jvm.Cond.code x code maxLocals ret :: tables_1), c.before #[Value.ref b] s = true := atoms_spec (ws := Jvm.Cond.code x code maxLocals ret :: tables_1) B.pre
    have hts : ∀ w ∈ lw_tbl, w.before #[Value.ref b] s = true := k2_hts_sels lw_privs (fun w hw => hts0 w (List.mem_cons_of_mem _ hw)) lw_privs_ok
    have hml : c.maxLocals = 13 := B.maxLocals_eq (hts0 _ List.mem_cons_self)
    have X₀ : Stand p l e room_1 s m #[Value.ref b] below meth c s₁ [] 0 0 := Stand.of_body B
    have hh0 : s₁.heap = s.heap := by rw [B.state]; rfl
    have hsz : scr.slots.size = xs.length := by rw [← Array.length_toList, hlist, List.length_map]
    have hval : ∀ j : Nat, j < xs.length → scr.slots[j]? = some (.int (xs.getD j 0)) := fun j hj => by
      rw [← Array.getElem?_toList, hlist]
      simp [hj]
    have hbl : b < s.heap.size := (Array.getElem?_eq_some_iff.mp hcb).1
    have hX : va_X b xs.length (fun j => xs.getD j 0) s s.heap := ⟨scr, hcb, hof, hkn, hsz, hval⟩
    have K : W p l e room_1 s m #[Value.ref b] below meth c s₁.heap [] 0 0 (lw_Z below #[Value.ref b] s) (entryFrame m ([Value.ref b] : List Value).toArray 13) := by
      rw [hh0]
      exact whole_start l hflags hbd ⟨B.exec, B.bytes, B.returns, hml, hown, hts, hX, hbl, B.notSynchronized, hgv⟩
    obtain ⟨t, a1, o, b1, b2, b3⟩ := K s₁ rfl X₀
    exact ⟨t, o, a1, b1, b2, b3⟩
theorem lw_pre_spec {args : Array Value} {s : State} (h : (Jvm.Cond.and given_1 narrow_1).before args s = true) (hr : rest_1_c.before args s = true) : ∃ (b : Addr) (xs : List Int32), lw_P b xs args s := by
  have hs := flat_of_before _ h
  have hq := flat_of_before _ hr
  have hc : (Cond.count 1).before args s = true := hs _ (by decide +kernel)
  have harr : (Cond.arrayOf (.arg 0) .int).before args s = true := hs _ (by decide +kernel)
  have hle : (Cond.le (.length (.arg 0)) (.int 260)).before args s = true := hs _ (by decide +kernel)
  have hlen : (Cond.isInt (.length (.arg 0))).before args s = true := hq _ (by decide +kernel)
  have hall : (Cond.all (.arg 0) (.isInt (.elem (.arg 0) (.index 0)))).before args s = true := hq _ (by decide +kernel)
  obtain ⟨b, xs, hb, hx⟩ := State.ints_of_pre rfl harr hlen hall
  have hsm : xs.length < 2 ^ 31 := hx.choose_spec.2.2.2
  have hev : (Term.length (.arg 0)).eval args s none [] s = some (.int xs.length.toInt32) := hx.length_eval hb
  have hv := Cond.le_ints hev (show (Term.int 260).eval args s none [] s = some (.int 260) from rfl)
  have hd : xs.length.toInt32 ≤ 260 := by
    simpa [Cond.before, Cond.holds, hv] using hle
  have hN : xs.length ≤ 260 := (Int32.ofNat_le_ofNat hsm (by decide)).mp (show Int32.ofNat xs.length ≤ Int32.ofNat 260 from hd)
  exact ⟨b, xs, Cond.one_arg hc (show args[0]? = some (.ref b) from hb), hx, hN, h⟩
theorem lw_comes (l : Launch) (hflags : l.flags = flags0) : Comes l x (Jvm.Cond.code x code maxLocals ret :: tables_1) room_1 (fun tb e args s => Calls_1 tb e args s ∧ rest_1 tb e args s ∧ Pre_1 tb e args s)
    (fun _ _ args s o t => lw_Q args s o t) := by
  intro p e ha hc hk s m args below hf hfit hheap happ hpre
  obtain ⟨b, xs, hP⟩ := lw_pre_spec hpre.2.2 hpre.2.1
  obtain ⟨k, o, h1, h2, h3, hQ⟩ := lw_walk l hflags b xs p e ha hc hk s m args below hf ((Spec.applies_iff_loose hf).mp happ).1 hP trivial
  exact ⟨k, o, h1, h2, h3, hQ⟩
theorem lw_frame {s t : State} {o : Outcome} {args : Array Value} (h : State.butDraws s t lw_cs (fun t1 => Framed s o t1 [] 817489 6649780)) :
    State.butDraws s t [Jvm.Choice.named "NaN.bits"] (fun t1 => Framed s o t1 (fieldLocs frame_1_writes args s ++ arrayLocs frame_1_arrays args s ++ staticLocs frame_1_statics s) 817489 6649780) := h
theorem lw_limb (L : Cond) (hL : ∀ (args : Array Value) (s t : State), L.after args s (.returned (some (.int 1))) t = true) :
    ArmFor flags0 classFile x code maxLocals ret World_1 tables_1 room_1 Calls_1 rest_1 Pre_1
      (fun tb e a s o t => postC L tb e a s o t ∧ State.butDraws s t [Jvm.Choice.named "NaN.bits"] (fun t1 => Framed s o t1 (fieldLocs frame_1_writes a s ++ arrayLocs frame_1_arrays a s ++ staticLocs frame_1_statics s) 817489 6649780)) := by
  intro l hflags _ _ p e ha hc hk s m args below hf hfit hheap happ hpre
  obtain ⟨k, o, h1, h2, h3, rfl, hF⟩ := lw_comes l hflags p e ha hc hk s m args below hf hfit hheap happ hpre
  exact ⟨k, _, h1, h2, h3, hL args s _, lw_frame hF⟩
theorem i_vc : Claimed_1_1 ∧ Claimed_1_2 := ⟨lw_limb limb_1_1 (fun args s t => by simp [limb_1_1, Cond.after, Cond.holds, Cond.value]), lw_limb limb_1_2 (fun args s t => Cond.after_iff.mpr (by
  first | (rw [show limb_1_2 = Cond.eq .result (.int 1) from rfl, Cond.eq_ints (x := 1) (y := 1) rfl rfl]; simp; done) | (simp [limb_1_2, Cond.value, Term.eval]; done)))⟩
