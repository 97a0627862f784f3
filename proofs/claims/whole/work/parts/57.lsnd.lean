/-- the law's surroundings -/
def q_EL (J : Nat → q_K) (F : Int → Int) (L : Int) (cc : ByteArray) (own : String) (Ts : List Cond) (nL : Nat) (l : Launch) (R : Room) : Prop :=
  ∃ (p : Program) (e : Env) (s : State) (m : MethodId) (args : Array Value) (below : List Frame) (meth : Method) (c : Code) (D : va_G) (cy : Nat → ClassId) (A : Nat → Prop) (ad : q_A) (cells slots : Nat) (Q : State → Prop),
    (J = q_J p l e R s m args below meth c nL D cy A ad cells slots Q ∧ CallFix p m c cc nL s args Ts own ∧ va_K D vwCl (q_ty cy) s ∧ (∀ σ : q_M, va_D A (q_W cy ad σ)) ∧ (∀ q : Nat, s.heap.size ≤ q → A q) ∧ q_N s ∧ q_Z ad A s s.heap ∧ cells ≤ R.cells ∧ slots ≤ R.slots) ∧
    ∃ (n : Nat) (xs : Nat → Int32), L = (n : Int) ∧ n ≤ 3072 ∧ (∀ i : Int, F i = (xs i.toNat).toInt) ∧ va_X (ad 0 38 0) n xs s s.heap ∧ ad 0 38 0 < s.heap.size ∧ ¬ A (ad 0 38 0)
theorem q_EL.q {J : Nat → q_K} {F : Int → Int} {L : Int} {cc : ByteArray} {own : String} {Ts : List Cond} {nL : Nat} {l : Launch} {R : Room} (E : q_EL J F L cc own Ts nL l R) : q_E J cc own Ts nL l R := by
  obtain ⟨p, e, s, m, args, below, meth, c, D, cy, A, ad, cells, slots, Q, h, -⟩ := E
  exact ⟨p, e, s, m, args, below, meth, c, D, cy, A, ad, cells, slots, Q, h⟩
section QLAW
variable {J : Nat → q_K} {F : Int → Int} {L : Int} {cc : ByteArray} {own : String} {Ts : List Cond} {nL : Nat} {l : Launch} {R : Room} {pc : Nat} {σ : q_M} {lv : q_L} {st : q_S} {K : q_K}
theorem so_alen (E : q_EL J F L cc own Ts nL l R) (hd : decode cc pc = .ok (.arraylength, 1)) (h : o_alen L σ lv st K) (k : ∀ σ lv st, K σ lv st → J (pc + 1) σ lv st) : J pc σ lv st := by
  obtain ⟨p, e, s, m, args, below, meth, c, D, cy, A, ad, cells, slots, Q, ⟨rfl, ⟨hx, hb, hml, hown, hts⟩, hK, hD, hA, hN, hZ, hc1, hs1⟩, n, xs, rfl, hn, hF, hX, hbl, hbA⟩ := E
  unfold o_alen at h
  split at h
  · next r st =>
    obtain ⟨rfl, h⟩ := h
    intro H locs ls hP hS hl
    have g := k _ _ _ h H locs ls hP hS hl
    change W p l e R s m args below meth c H locs cells slots Q (F0 m pc ls (.ref (ad 0 38 0) :: st.map (q_tv ad)))
    exact va_slen hx hb hX hbl hbA hS hd g
  · exact h.elim
theorem so_sld (E : q_EL J F L cc own Ts nL l R) (hd : decode cc pc = .ok (.iaload, 1)) (h : o_sld F L σ lv st K) (k : ∀ σ lv st, K σ lv st → J (pc + 1) σ lv st) : J pc σ lv st := by
  obtain ⟨p, e, s, m, args, below, meth, c, D, cy, A, ad, cells, slots, Q, ⟨rfl, ⟨hx, hb, hml, hown, hts⟩, hK, hD, hA, hN, hZ, hc1, hs1⟩, n, xs, rfl, hn, hF, hX, hbl, hbA⟩ := E
  unfold o_sld at h
  split at h
  · next i r st =>
    obtain ⟨rfl, h0, h1, h⟩ := h
    intro H locs ls hP hS hl
    have g := k _ _ _ h H locs ls hP hS hl
    change W p l e R s m args below meth c H locs cells slots Q (F0 m pc ls (.int (iO i) :: .ref (ad 0 38 0) :: st.map (q_tv ad)))
    refine va_sld hx hb hX hbl hbA hS (iO_in h0 h1 (by omega)) hd ?_
    rw [iO_clamp h0 ⟨by omega, by omega⟩]
    have eF : iO (F i) = xs i.toNat := by
      rw [hF]
      exact iO_of _
    rw [← eF]
    exact g
  · exact h.elim
end QLAW
set_option maxRecDepth 20000 in
theorem sb_L_law_778 {J : Nat → q_K} {l : Launch} {F : Int → Int} {L : Int} {Qp : Option q_V → q_M → Prop} (E : q_EL J F L cL_law RL wsL_law 8 l room_1) (T : q_T J cL_law (some .boolean) Qp) : ∀ (σ : q_M) (lv : q_L) (st : q_S), k_L_law_778 F L Qp J σ lv st → J 778 σ lv st := fun σ lv st h =>
    so_iconst E.q (x := 1) dL_law_778 h fun σ lv st h =>
    so_zret T dL_law_779 h
set_option maxRecDepth 20000 in
theorem sb_L_law_772 {J : Nat → q_K} {l : Launch} {F : Int → Int} {L : Int} {Qp : Option q_V → q_M → Prop} (E : q_EL J F L cL_law RL wsL_law 8 l room_1) (T : q_T J cL_law (some .boolean) Qp) : ∀ (σ : q_M) (lv : q_L) (st : q_S), k_L_law_772 F L Qp J σ lv st → J 772 σ lv st := fun σ lv st h =>
    so_iinc E.q (i := 3) (n := 6) (by decide) dL_law_772 h fun σ lv st h =>
    so_goto E.q 18 (by decide) dL_law_775 (fun _ _ _ h => h) h
set_option maxRecDepth 20000 in
theorem sb_L_law_132 {J : Nat → q_K} {l : Launch} {F : Int → Int} {L : Int} {Qp : Option q_V → q_M → Prop} (E : q_EL J F L cL_law RL wsL_law 8 l room_1) (T : q_T J cL_law (some .boolean) Qp) : ∀ (σ : q_M) (lv : q_L) (st : q_S), k_L_law_132 F L Qp J σ lv st → J 132 σ lv st := fun σ lv st h =>
    so_aload_n E.q (i := 1) rfl dL_law_132 h fun σ lv st h =>
    so_aload_n E.q (i := 0) rfl dL_law_133 h fun σ lv st h =>
    so_iload_n E.q (i := 3) rfl dL_law_134 h fun σ lv st h =>
    so_iconst E.q (x := 1) dL_law_135 h fun σ lv st h =>
    so_iadd E.q dL_law_136 h fun σ lv st h =>
    so_sld E dL_law_137 h fun σ lv st h =>
    so_aload_n E.q (i := 0) rfl dL_law_138 h fun σ lv st h =>
    so_iload_n E.q (i := 3) rfl dL_law_139 h fun σ lv st h =>
    so_iconst E.q (x := 2) dL_law_140 h fun σ lv st h =>
    so_iadd E.q dL_law_141 h fun σ lv st h =>
    so_sld E dL_law_142 h fun σ lv st h =>
    so_aload_n E.q (i := 0) rfl dL_law_143 h fun σ lv st h =>
    so_iload_n E.q (i := 3) rfl dL_law_144 h fun σ lv st h =>
    so_iconst E.q (x := 3) dL_law_145 h fun σ lv st h =>
    so_iadd E.q dL_law_146 h fun σ lv st h =>
    so_sld E dL_law_147 h fun σ lv st h =>
    so_aload_n E.q (i := 0) rfl dL_law_148 h fun σ lv st h =>
    so_iload_n E.q (i := 3) rfl dL_law_149 h fun σ lv st h =>
    so_iconst E.q (x := 4) dL_law_150 h fun σ lv st h =>
    so_iadd E.q dL_law_151 h fun σ lv st h =>
    so_sld E dL_law_152 h fun σ lv st h =>
    so_aload_n E.q (i := 0) rfl dL_law_153 h fun σ lv st h =>
    so_iload_n E.q (i := 3) rfl dL_law_154 h fun σ lv st h =>
    so_iconst E.q (x := 5) dL_law_155 h fun σ lv st h =>
    so_iadd E.q dL_law_156 h fun σ lv st h =>
    so_sld E dL_law_157 h fun σ lv st h =>
    so_callV E.q (n := 5) (pp := 23) (C := RX5) (T := TX5) (N := 5) (idx := 13) (maxL := 7) (ret := (some .int)) cc_X5_addWheel ⟨rfl, rfl, rfl⟩ rfl gL_law_X5_addWheel rfl ⟨rfl, rfl⟩ (by decide +kernel) (by decide) dL_law_158 h fun σ lv st h =>
    so_aload_n E.q (i := 2) rfl dL_law_161 h fun σ lv st h =>
    so_aload_n E.q (i := 0) rfl dL_law_162 h fun σ lv st h =>
    so_iload_n E.q (i := 3) rfl dL_law_163 h fun σ lv st h =>
    so_iconst E.q (x := 1) dL_law_164 h fun σ lv st h =>
    so_iadd E.q dL_law_165 h fun σ lv st h =>
    so_sld E dL_law_166 h fun σ lv st h =>
    so_aload_n E.q (i := 0) rfl dL_law_167 h fun σ lv st h =>
    so_iload_n E.q (i := 3) rfl dL_law_168 h fun σ lv st h =>
    so_iconst E.q (x := 2) dL_law_169 h fun σ lv st h =>
    so_iadd E.q dL_law_170 h fun σ lv st h =>
    so_sld E dL_law_171 h fun σ lv st h =>
    so_aload_n E.q (i := 0) rfl dL_law_172 h fun σ lv st h =>
    so_iload_n E.q (i := 3) rfl dL_law_173 h fun σ lv st h =>
    so_iconst E.q (x := 3) dL_law_174 h fun σ lv st h =>
    so_iadd E.q dL_law_175 h fun σ lv st h =>
    so_sld E dL_law_176 h fun σ lv st h =>
    so_aload_n E.q (i := 0) rfl dL_law_177 h fun σ lv st h =>
    so_iload_n E.q (i := 3) rfl dL_law_178 h fun σ lv st h =>
    so_iconst E.q (x := 4) dL_law_179 h fun σ lv st h =>
    so_iadd E.q dL_law_180 h fun σ lv st h =>
    so_sld E dL_law_181 h fun σ lv st h =>
    so_aload_n E.q (i := 0) rfl dL_law_182 h fun σ lv st h =>
    so_iload_n E.q (i := 3) rfl dL_law_183 h fun σ lv st h =>
    so_iconst E.q (x := 5) dL_law_184 h fun σ lv st h =>
    so_iadd E.q dL_law_185 h fun σ lv st h =>
    so_sld E dL_law_186 h fun σ lv st h =>
    so_callV E.q (n := 5) (pp := 24) (C := RX6) (T := TX6) (N := 11) (idx := 17) (maxL := 7) (ret := (some .int)) cc_X6_addWheel ⟨rfl, rfl, rfl⟩ rfl gL_law_X6_addWheel rfl ⟨rfl, rfl⟩ (by decide +kernel) (by decide) dL_law_187 h fun σ lv st h =>
    so_icmpeq E.q 772 (by decide) dL_law_190 (sb_L_law_772 E T) h fun σ lv st h =>
    so_iconst E.q (x := 0) dL_law_193 h fun σ lv st h =>
    so_zret T dL_law_194 h
set_option maxRecDepth 20000 in
theorem sb_L_law_236 {J : Nat → q_K} {l : Launch} {F : Int → Int} {L : Int} {Qp : Option q_V → q_M → Prop} (E : q_EL J F L cL_law RL wsL_law 8 l room_1) (T : q_T J cL_law (some .boolean) Qp) : ∀ (σ : q_M) (lv : q_L) (st : q_S), k_L_law_236 F L Qp J σ lv st → J 236 σ lv st := fun σ lv st h =>
    so_callV E.q (n := 2) (pp := 24) (C := RX6) (T := TX6) (N := 11) (idx := 22) (maxL := 3) (ret := (some .int)) cc_X6_fail ⟨rfl, rfl, rfl⟩ rfl gL_law_X6_fail rfl ⟨rfl, rfl⟩ (by decide +kernel) (by decide) dL_law_236 h fun σ lv st h =>
    so_icmpeq E.q 772 (by decide) dL_law_239 (sb_L_law_772 E T) h fun σ lv st h =>
    so_iconst E.q (x := 0) dL_law_242 h fun σ lv st h =>
    so_zret T dL_law_243 h
set_option maxRecDepth 20000 in
theorem sb_L_law_235 {J : Nat → q_K} {l : Launch} {F : Int → Int} {L : Int} {Qp : Option q_V → q_M → Prop} (E : q_EL J F L cL_law RL wsL_law 8 l room_1) (T : q_T J cL_law (some .boolean) Qp) : ∀ (σ : q_M) (lv : q_L) (st : q_S), k_L_law_235 F L Qp J σ lv st → J 235 σ lv st := fun σ lv st h =>
    so_iconst E.q (x := 0) dL_law_235 h fun σ lv st h =>
    (sb_L_law_236 E T) σ lv st h
set_option maxRecDepth 20000 in
theorem sb_L_law_214 {J : Nat → q_K} {l : Launch} {F : Int → Int} {L : Int} {Qp : Option q_V → q_M → Prop} (E : q_EL J F L cL_law RL wsL_law 8 l room_1) (T : q_T J cL_law (some .boolean) Qp) : ∀ (σ : q_M) (lv : q_L) (st : q_S), k_L_law_214 F L Qp J σ lv st → J 214 σ lv st := fun σ lv st h =>
    so_callV E.q (n := 2) (pp := 23) (C := RX5) (T := TX5) (N := 5) (idx := 18) (maxL := 5) (ret := (some .int)) cc_X5_fail ⟨rfl, rfl, rfl⟩ rfl gL_law_X5_fail rfl ⟨rfl, rfl⟩ (by decide +kernel) (by decide) dL_law_214 h fun σ lv st h =>
    so_aload_n E.q (i := 2) rfl dL_law_217 h fun σ lv st h =>
    so_aload_n E.q (i := 0) rfl dL_law_218 h fun σ lv st h =>
    so_iload_n E.q (i := 3) rfl dL_law_219 h fun σ lv st h =>
    so_iconst E.q (x := 1) dL_law_220 h fun σ lv st h =>
    so_iadd E.q dL_law_221 h fun σ lv st h =>
    so_sld E dL_law_222 h fun σ lv st h =>
    so_aload_n E.q (i := 0) rfl dL_law_223 h fun σ lv st h =>
    so_iload_n E.q (i := 3) rfl dL_law_224 h fun σ lv st h =>
    so_iconst E.q (x := 2) dL_law_225 h fun σ lv st h =>
    so_iadd E.q dL_law_226 h fun σ lv st h =>
    so_sld E dL_law_227 h fun σ lv st h =>
    so_ifeq E.q 235 (by decide) dL_law_228 (sb_L_law_235 E T) h fun σ lv st h =>
    so_iconst E.q (x := 1) dL_law_231 h fun σ lv st h =>
    so_goto E.q 236 (by decide) dL_law_232 (sb_L_law_236 E T) h
set_option maxRecDepth 20000 in
theorem sb_L_law_213 {J : Nat → q_K} {l : Launch} {F : Int → Int} {L : Int} {Qp : Option q_V → q_M → Prop} (E : q_EL J F L cL_law RL wsL_law 8 l room_1) (T : q_T J cL_law (some .boolean) Qp) : ∀ (σ : q_M) (lv : q_L) (st : q_S), k_L_law_213 F L Qp J σ lv st → J 213 σ lv st := fun σ lv st h =>
    so_iconst E.q (x := 0) dL_law_213 h fun σ lv st h =>
    (sb_L_law_214 E T) σ lv st h
set_option maxRecDepth 20000 in
theorem sb_L_law_195 {J : Nat → q_K} {l : Launch} {F : Int → Int} {L : Int} {Qp : Option q_V → q_M → Prop} (E : q_EL J F L cL_law RL wsL_law 8 l room_1) (T : q_T J cL_law (some .boolean) Qp) : ∀ (σ : q_M) (lv : q_L) (st : q_S), k_L_law_195 F L Qp J σ lv st → J 195 σ lv st := fun σ lv st h =>
    so_aload_n E.q (i := 1) rfl dL_law_195 h fun σ lv st h =>
    so_aload_n E.q (i := 0) rfl dL_law_196 h fun σ lv st h =>
    so_iload_n E.q (i := 3) rfl dL_law_197 h fun σ lv st h =>
    so_iconst E.q (x := 1) dL_law_198 h fun σ lv st h =>
    so_iadd E.q dL_law_199 h fun σ lv st h =>
    so_sld E dL_law_200 h fun σ lv st h =>
    so_aload_n E.q (i := 0) rfl dL_law_201 h fun σ lv st h =>
    so_iload_n E.q (i := 3) rfl dL_law_202 h fun σ lv st h =>
    so_iconst E.q (x := 2) dL_law_203 h fun σ lv st h =>
    so_iadd E.q dL_law_204 h fun σ lv st h =>
    so_sld E dL_law_205 h fun σ lv st h =>
    so_ifeq E.q 213 (by decide) dL_law_206 (sb_L_law_213 E T) h fun σ lv st h =>
    so_iconst E.q (x := 1) dL_law_209 h fun σ lv st h =>
    so_goto E.q 214 (by decide) dL_law_210 (sb_L_law_214 E T) h
set_option maxRecDepth 20000 in
theorem sb_L_law_290 {J : Nat → q_K} {l : Launch} {F : Int → Int} {L : Int} {Qp : Option q_V → q_M → Prop} (E : q_EL J F L cL_law RL wsL_law 8 l room_1) (T : q_T J cL_law (some .boolean) Qp) : ∀ (σ : q_M) (lv : q_L) (st : q_S), k_L_law_290 F L Qp J σ lv st → J 290 σ lv st := fun σ lv st h =>
    so_aload_n E.q (i := 0) rfl dL_law_290 h fun σ lv st h =>
    so_iload_n E.q (i := 3) rfl dL_law_291 h fun σ lv st h =>
    so_iconst E.q (x := 3) dL_law_292 h fun σ lv st h =>
    so_iadd E.q dL_law_293 h fun σ lv st h =>
    so_sld E dL_law_294 h fun σ lv st h =>
    so_callV E.q (n := 3) (pp := 24) (C := RX6) (T := TX6) (N := 11) (idx := 27) (maxL := 4) (ret := (some .int)) cc_X6_setMost ⟨rfl, rfl, rfl⟩ rfl gL_law_X6_setMost rfl ⟨rfl, rfl⟩ (by decide +kernel) (by decide) dL_law_295 h fun σ lv st h =>
    so_icmpeq E.q 772 (by decide) dL_law_298 (sb_L_law_772 E T) h fun σ lv st h =>
    so_iconst E.q (x := 0) dL_law_301 h fun σ lv st h =>
    so_zret T dL_law_302 h
set_option maxRecDepth 20000 in
theorem sb_L_law_289 {J : Nat → q_K} {l : Launch} {F : Int → Int} {L : Int} {Qp : Option q_V → q_M → Prop} (E : q_EL J F L cL_law RL wsL_law 8 l room_1) (T : q_T J cL_law (some .boolean) Qp) : ∀ (σ : q_M) (lv : q_L) (st : q_S), k_L_law_289 F L Qp J σ lv st → J 289 σ lv st := fun σ lv st h =>
    so_iconst E.q (x := 0) dL_law_289 h fun σ lv st h =>
    (sb_L_law_290 E T) σ lv st h
set_option maxRecDepth 20000 in
theorem sb_L_law_263 {J : Nat → q_K} {l : Launch} {F : Int → Int} {L : Int} {Qp : Option q_V → q_M → Prop} (E : q_EL J F L cL_law RL wsL_law 8 l room_1) (T : q_T J cL_law (some .boolean) Qp) : ∀ (σ : q_M) (lv : q_L) (st : q_S), k_L_law_263 F L Qp J σ lv st → J 263 σ lv st := fun σ lv st h =>
    so_aload_n E.q (i := 0) rfl dL_law_263 h fun σ lv st h =>
    so_iload_n E.q (i := 3) rfl dL_law_264 h fun σ lv st h =>
    so_iconst E.q (x := 3) dL_law_265 h fun σ lv st h =>
    so_iadd E.q dL_law_266 h fun σ lv st h =>
    so_sld E dL_law_267 h fun σ lv st h =>
    so_callV E.q (n := 3) (pp := 23) (C := RX5) (T := TX5) (N := 5) (idx := 23) (maxL := 6) (ret := (some .int)) cc_X5_setMost ⟨rfl, rfl, rfl⟩ rfl gL_law_X5_setMost rfl ⟨rfl, rfl⟩ (by decide +kernel) (by decide) dL_law_268 h fun σ lv st h =>
    so_aload_n E.q (i := 2) rfl dL_law_271 h fun σ lv st h =>
    so_aload_n E.q (i := 0) rfl dL_law_272 h fun σ lv st h =>
    so_iload_n E.q (i := 3) rfl dL_law_273 h fun σ lv st h =>
    so_iconst E.q (x := 1) dL_law_274 h fun σ lv st h =>
    so_iadd E.q dL_law_275 h fun σ lv st h =>
    so_sld E dL_law_276 h fun σ lv st h =>
    so_aload_n E.q (i := 0) rfl dL_law_277 h fun σ lv st h =>
    so_iload_n E.q (i := 3) rfl dL_law_278 h fun σ lv st h =>
    so_iconst E.q (x := 2) dL_law_279 h fun σ lv st h =>
    so_iadd E.q dL_law_280 h fun σ lv st h =>
    so_sld E dL_law_281 h fun σ lv st h =>
    so_ifeq E.q 289 (by decide) dL_law_282 (sb_L_law_289 E T) h fun σ lv st h =>
    so_iconst E.q (x := 1) dL_law_285 h fun σ lv st h =>
    so_goto E.q 290 (by decide) dL_law_286 (sb_L_law_290 E T) h
set_option maxRecDepth 20000 in
theorem sb_L_law_262 {J : Nat → q_K} {l : Launch} {F : Int → Int} {L : Int} {Qp : Option q_V → q_M → Prop} (E : q_EL J F L cL_law RL wsL_law 8 l room_1) (T : q_T J cL_law (some .boolean) Qp) : ∀ (σ : q_M) (lv : q_L) (st : q_S), k_L_law_262 F L Qp J σ lv st → J 262 σ lv st := fun σ lv st h =>
    so_iconst E.q (x := 0) dL_law_262 h fun σ lv st h =>
    (sb_L_law_263 E T) σ lv st h
set_option maxRecDepth 20000 in
theorem sb_L_law_244 {J : Nat → q_K} {l : Launch} {F : Int → Int} {L : Int} {Qp : Option q_V → q_M → Prop} (E : q_EL J F L cL_law RL wsL_law 8 l room_1) (T : q_T J cL_law (some .boolean) Qp) : ∀ (σ : q_M) (lv : q_L) (st : q_S), k_L_law_244 F L Qp J σ lv st → J 244 σ lv st := fun σ lv st h =>
    so_aload_n E.q (i := 1) rfl dL_law_244 h fun σ lv st h =>
    so_aload_n E.q (i := 0) rfl dL_law_245 h fun σ lv st h =>
    so_iload_n E.q (i := 3) rfl dL_law_246 h fun σ lv st h =>
    so_iconst E.q (x := 1) dL_law_247 h fun σ lv st h =>
    so_iadd E.q dL_law_248 h fun σ lv st h =>
    so_sld E dL_law_249 h fun σ lv st h =>
    so_aload_n E.q (i := 0) rfl dL_law_250 h fun σ lv st h =>
    so_iload_n E.q (i := 3) rfl dL_law_251 h fun σ lv st h =>
    so_iconst E.q (x := 2) dL_law_252 h fun σ lv st h =>
    so_iadd E.q dL_law_253 h fun σ lv st h =>
    so_sld E dL_law_254 h fun σ lv st h =>
    so_ifeq E.q 262 (by decide) dL_law_255 (sb_L_law_262 E T) h fun σ lv st h =>
    so_iconst E.q (x := 1) dL_law_258 h fun σ lv st h =>
    so_goto E.q 263 (by decide) dL_law_259 (sb_L_law_263 E T) h
set_option maxRecDepth 20000 in
theorem sb_L_law_303 {J : Nat → q_K} {l : Launch} {F : Int → Int} {L : Int} {Qp : Option q_V → q_M → Prop} (E : q_EL J F L cL_law RL wsL_law 8 l room_1) (T : q_T J cL_law (some .boolean) Qp) : ∀ (σ : q_M) (lv : q_L) (st : q_S), k_L_law_303 F L Qp J σ lv st → J 303 σ lv st := fun σ lv st h =>
    so_aload_n E.q (i := 1) rfl dL_law_303 h fun σ lv st h =>
    so_aload_n E.q (i := 0) rfl dL_law_304 h fun σ lv st h =>
    so_iload_n E.q (i := 3) rfl dL_law_305 h fun σ lv st h =>
    so_iconst E.q (x := 1) dL_law_306 h fun σ lv st h =>
    so_iadd E.q dL_law_307 h fun σ lv st h =>
    so_sld E dL_law_308 h fun σ lv st h =>
    so_aload_n E.q (i := 0) rfl dL_law_309 h fun σ lv st h =>
    so_iload_n E.q (i := 3) rfl dL_law_310 h fun σ lv st h =>
    so_iconst E.q (x := 2) dL_law_311 h fun σ lv st h =>
    so_iadd E.q dL_law_312 h fun σ lv st h =>
    so_sld E dL_law_313 h fun σ lv st h =>
    so_callV E.q (n := 2) (pp := 23) (C := RX5) (T := TX5) (N := 5) (idx := 28) (maxL := 3) (ret := (some .int)) cc_X5_wheel ⟨rfl, rfl, rfl⟩ rfl gL_law_X5_wheel rfl ⟨rfl, rfl⟩ (by decide +kernel) (by decide) dL_law_314 h fun σ lv st h =>
    so_aload_n E.q (i := 2) rfl dL_law_317 h fun σ lv st h =>
    so_aload_n E.q (i := 0) rfl dL_law_318 h fun σ lv st h =>
    so_iload_n E.q (i := 3) rfl dL_law_319 h fun σ lv st h =>
    so_iconst E.q (x := 1) dL_law_320 h fun σ lv st h =>
    so_iadd E.q dL_law_321 h fun σ lv st h =>
    so_sld E dL_law_322 h fun σ lv st h =>
    so_aload_n E.q (i := 0) rfl dL_law_323 h fun σ lv st h =>
    so_iload_n E.q (i := 3) rfl dL_law_324 h fun σ lv st h =>
    so_iconst E.q (x := 2) dL_law_325 h fun σ lv st h =>
    so_iadd E.q dL_law_326 h fun σ lv st h =>
    so_sld E dL_law_327 h fun σ lv st h =>
    so_callV E.q (n := 2) (pp := 24) (C := RX6) (T := TX6) (N := 11) (idx := 32) (maxL := 3) (ret := (some .int)) cc_X6_wheel ⟨rfl, rfl, rfl⟩ rfl gL_law_X6_wheel rfl ⟨rfl, rfl⟩ (by decide +kernel) (by decide) dL_law_328 h fun σ lv st h =>
    so_icmpeq E.q 772 (by decide) dL_law_331 (sb_L_law_772 E T) h fun σ lv st h =>
    so_iconst E.q (x := 0) dL_law_334 h fun σ lv st h =>
    so_zret T dL_law_335 h
set_option maxRecDepth 20000 in
theorem sb_L_law_336 {J : Nat → q_K} {l : Launch} {F : Int → Int} {L : Int} {Qp : Option q_V → q_M → Prop} (E : q_EL J F L cL_law RL wsL_law 8 l room_1) (T : q_T J cL_law (some .boolean) Qp) : ∀ (σ : q_M) (lv : q_L) (st : q_S), k_L_law_336 F L Qp J σ lv st → J 336 σ lv st := fun σ lv st h =>
    so_aload_n E.q (i := 1) rfl dL_law_336 h fun σ lv st h =>
    so_callV E.q (n := 0) (pp := 23) (C := RX5) (T := TX5) (N := 5) (idx := 33) (maxL := 1) (ret := (some .int)) cc_X5_wheels ⟨rfl, rfl, rfl⟩ rfl gL_law_X5_wheels rfl ⟨rfl, rfl⟩ (by decide +kernel) (by decide) dL_law_337 h fun σ lv st h =>
    so_aload_n E.q (i := 2) rfl dL_law_340 h fun σ lv st h =>
    so_callV E.q (n := 0) (pp := 24) (C := RX6) (T := TX6) (N := 11) (idx := 37) (maxL := 1) (ret := (some .int)) cc_X6_wheels ⟨rfl, rfl, rfl⟩ rfl gL_law_X6_wheels rfl ⟨rfl, rfl⟩ (by decide +kernel) (by decide) dL_law_341 h fun σ lv st h =>
    so_icmpeq E.q 772 (by decide) dL_law_344 (sb_L_law_772 E T) h fun σ lv st h =>
    so_iconst E.q (x := 0) dL_law_347 h fun σ lv st h =>
    so_zret T dL_law_348 h
set_option maxRecDepth 20000 in
theorem sb_L_law_349 {J : Nat → q_K} {l : Launch} {F : Int → Int} {L : Int} {Qp : Option q_V → q_M → Prop} (E : q_EL J F L cL_law RL wsL_law 8 l room_1) (T : q_T J cL_law (some .boolean) Qp) : ∀ (σ : q_M) (lv : q_L) (st : q_S), k_L_law_349 F L Qp J σ lv st → J 349 σ lv st := fun σ lv st h =>
    so_aload_n E.q (i := 1) rfl dL_law_349 h fun σ lv st h =>
    so_aload_n E.q (i := 0) rfl dL_law_350 h fun σ lv st h =>
    so_iload_n E.q (i := 3) rfl dL_law_351 h fun σ lv st h =>
    so_iconst E.q (x := 1) dL_law_352 h fun σ lv st h =>
    so_iadd E.q dL_law_353 h fun σ lv st h =>
    so_sld E dL_law_354 h fun σ lv st h =>
    so_aload_n E.q (i := 0) rfl dL_law_355 h fun σ lv st h =>
    so_iload_n E.q (i := 3) rfl dL_law_356 h fun σ lv st h =>
    so_iconst E.q (x := 2) dL_law_357 h fun σ lv st h =>
    so_iadd E.q dL_law_358 h fun σ lv st h =>
    so_sld E dL_law_359 h fun σ lv st h =>
    so_aload_n E.q (i := 0) rfl dL_law_360 h fun σ lv st h =>
    so_iload_n E.q (i := 3) rfl dL_law_361 h fun σ lv st h =>
    so_iconst E.q (x := 3) dL_law_362 h fun σ lv st h =>
    so_iadd E.q dL_law_363 h fun σ lv st h =>
    so_sld E dL_law_364 h fun σ lv st h =>
    so_callV E.q (n := 3) (pp := 23) (C := RX5) (T := TX5) (N := 5) (idx := 38) (maxL := 5) (ret := (some .int)) cc_X5_setAxis ⟨rfl, rfl, rfl⟩ rfl gL_law_X5_setAxis rfl ⟨rfl, rfl⟩ (by decide +kernel) (by decide) dL_law_365 h fun σ lv st h =>
    so_aload_n E.q (i := 2) rfl dL_law_368 h fun σ lv st h =>
    so_aload_n E.q (i := 0) rfl dL_law_369 h fun σ lv st h =>
    so_iload_n E.q (i := 3) rfl dL_law_370 h fun σ lv st h =>
    so_iconst E.q (x := 1) dL_law_371 h fun σ lv st h =>
    so_iadd E.q dL_law_372 h fun σ lv st h =>
    so_sld E dL_law_373 h fun σ lv st h =>
    so_aload_n E.q (i := 0) rfl dL_law_374 h fun σ lv st h =>
    so_iload_n E.q (i := 3) rfl dL_law_375 h fun σ lv st h =>
    so_iconst E.q (x := 2) dL_law_376 h fun σ lv st h =>
    so_iadd E.q dL_law_377 h fun σ lv st h =>
    so_sld E dL_law_378 h fun σ lv st h =>
    so_aload_n E.q (i := 0) rfl dL_law_379 h fun σ lv st h =>
    so_iload_n E.q (i := 3) rfl dL_law_380 h fun σ lv st h =>
    so_iconst E.q (x := 3) dL_law_381 h fun σ lv st h =>
    so_iadd E.q dL_law_382 h fun σ lv st h =>
    so_sld E dL_law_383 h fun σ lv st h =>
    so_callV E.q (n := 3) (pp := 24) (C := RX6) (T := TX6) (N := 11) (idx := 42) (maxL := 5) (ret := (some .int)) cc_X6_setAxis ⟨rfl, rfl, rfl⟩ rfl gL_law_X6_setAxis rfl ⟨rfl, rfl⟩ (by decide +kernel) (by decide) dL_law_384 h fun σ lv st h =>
    so_icmpeq E.q 772 (by decide) dL_law_387 (sb_L_law_772 E T) h fun σ lv st h =>
    so_iconst E.q (x := 0) dL_law_390 h fun σ lv st h =>
    so_zret T dL_law_391 h
set_option maxRecDepth 20000 in
theorem sb_L_law_392 {J : Nat → q_K} {l : Launch} {F : Int → Int} {L : Int} {Qp : Option q_V → q_M → Prop} (E : q_EL J F L cL_law RL wsL_law 8 l room_1) (T : q_T J cL_law (some .boolean) Qp) : ∀ (σ : q_M) (lv : q_L) (st : q_S), k_L_law_392 F L Qp J σ lv st → J 392 σ lv st := fun σ lv st h =>
    so_aload_n E.q (i := 1) rfl dL_law_392 h fun σ lv st h =>
    so_aload_n E.q (i := 0) rfl dL_law_393 h fun σ lv st h =>
    so_iload_n E.q (i := 3) rfl dL_law_394 h fun σ lv st h =>
    so_iconst E.q (x := 1) dL_law_395 h fun σ lv st h =>
    so_iadd E.q dL_law_396 h fun σ lv st h =>
    so_sld E dL_law_397 h fun σ lv st h =>
    so_aload_n E.q (i := 0) rfl dL_law_398 h fun σ lv st h =>
    so_iload_n E.q (i := 3) rfl dL_law_399 h fun σ lv st h =>
    so_iconst E.q (x := 2) dL_law_400 h fun σ lv st h =>
    so_iadd E.q dL_law_401 h fun σ lv st h =>
    so_sld E dL_law_402 h fun σ lv st h =>
    so_callV E.q (n := 2) (pp := 23) (C := RX5) (T := TX5) (N := 5) (idx := 43) (maxL := 4) (ret := (some .int)) cc_X5_set ⟨rfl, rfl, rfl⟩ rfl gL_law_X5_set rfl ⟨rfl, rfl⟩ (by decide +kernel) (by decide) dL_law_403 h fun σ lv st h =>
    so_aload_n E.q (i := 2) rfl dL_law_406 h fun σ lv st h =>
    so_aload_n E.q (i := 0) rfl dL_law_407 h fun σ lv st h =>
    so_iload_n E.q (i := 3) rfl dL_law_408 h fun σ lv st h =>
    so_iconst E.q (x := 1) dL_law_409 h fun σ lv st h =>
    so_iadd E.q dL_law_410 h fun σ lv st h =>
    so_sld E dL_law_411 h fun σ lv st h =>
    so_aload_n E.q (i := 0) rfl dL_law_412 h fun σ lv st h =>
    so_iload_n E.q (i := 3) rfl dL_law_413 h fun σ lv st h =>
    so_iconst E.q (x := 2) dL_law_414 h fun σ lv st h =>
    so_iadd E.q dL_law_415 h fun σ lv st h =>
    so_sld E dL_law_416 h fun σ lv st h =>
    so_callV E.q (n := 2) (pp := 24) (C := RX6) (T := TX6) (N := 11) (idx := 46) (maxL := 5) (ret := (some .int)) cc_X6_set ⟨rfl, rfl, rfl⟩ rfl gL_law_X6_set rfl ⟨rfl, rfl⟩ (by decide +kernel) (by decide) dL_law_417 h fun σ lv st h =>
    so_icmpeq E.q 772 (by decide) dL_law_420 (sb_L_law_772 E T) h fun σ lv st h =>
    so_iconst E.q (x := 0) dL_law_423 h fun σ lv st h =>
    so_zret T dL_law_424 h
set_option maxRecDepth 20000 in
theorem sb_L_law_425 {J : Nat → q_K} {l : Launch} {F : Int → Int} {L : Int} {Qp : Option q_V → q_M → Prop} (E : q_EL J F L cL_law RL wsL_law 8 l room_1) (T : q_T J cL_law (some .boolean) Qp) : ∀ (σ : q_M) (lv : q_L) (st : q_S), k_L_law_425 F L Qp J σ lv st → J 425 σ lv st := fun σ lv st h =>
    so_aload_n E.q (i := 1) rfl dL_law_425 h fun σ lv st h =>
    so_aload_n E.q (i := 0) rfl dL_law_426 h fun σ lv st h =>
    so_iload_n E.q (i := 3) rfl dL_law_427 h fun σ lv st h =>
    so_iconst E.q (x := 1) dL_law_428 h fun σ lv st h =>
    so_iadd E.q dL_law_429 h fun σ lv st h =>
    so_sld E dL_law_430 h fun σ lv st h =>
    so_callV E.q (n := 1) (pp := 23) (C := RX5) (T := TX5) (N := 5) (idx := 47) (maxL := 2) (ret := (some .int)) cc_X5_setting ⟨rfl, rfl, rfl⟩ rfl gL_law_X5_setting rfl ⟨rfl, rfl⟩ (by decide +kernel) (by decide) dL_law_431 h fun σ lv st h =>
    so_aload_n E.q (i := 2) rfl dL_law_434 h fun σ lv st h =>
    so_aload_n E.q (i := 0) rfl dL_law_435 h fun σ lv st h =>
    so_iload_n E.q (i := 3) rfl dL_law_436 h fun σ lv st h =>
    so_iconst E.q (x := 1) dL_law_437 h fun σ lv st h =>
    so_iadd E.q dL_law_438 h fun σ lv st h =>
    so_sld E dL_law_439 h fun σ lv st h =>
    so_callV E.q (n := 1) (pp := 24) (C := RX6) (T := TX6) (N := 11) (idx := 51) (maxL := 2) (ret := (some .int)) cc_X6_setting ⟨rfl, rfl, rfl⟩ rfl gL_law_X6_setting rfl ⟨rfl, rfl⟩ (by decide +kernel) (by decide) dL_law_440 h fun σ lv st h =>
    so_icmpeq E.q 772 (by decide) dL_law_443 (sb_L_law_772 E T) h fun σ lv st h =>
    so_iconst E.q (x := 0) dL_law_446 h fun σ lv st h =>
    so_zret T dL_law_447 h
set_option maxRecDepth 20000 in
theorem sb_L_law_448 {J : Nat → q_K} {l : Launch} {F : Int → Int} {L : Int} {Qp : Option q_V → q_M → Prop} (E : q_EL J F L cL_law RL wsL_law 8 l room_1) (T : q_T J cL_law (some .boolean) Qp) : ∀ (σ : q_M) (lv : q_L) (st : q_S), k_L_law_448 F L Qp J σ lv st → J 448 σ lv st := fun σ lv st h =>
    so_aload_n E.q (i := 1) rfl dL_law_448 h fun σ lv st h =>
    so_aload_n E.q (i := 0) rfl dL_law_449 h fun σ lv st h =>
    so_iload_n E.q (i := 3) rfl dL_law_450 h fun σ lv st h =>
    so_iconst E.q (x := 1) dL_law_451 h fun σ lv st h =>
    so_iadd E.q dL_law_452 h fun σ lv st h =>
    so_sld E dL_law_453 h fun σ lv st h =>
    so_aload_n E.q (i := 0) rfl dL_law_454 h fun σ lv st h =>
    so_iload_n E.q (i := 3) rfl dL_law_455 h fun σ lv st h =>
    so_iconst E.q (x := 2) dL_law_456 h fun σ lv st h =>
    so_iadd E.q dL_law_457 h fun σ lv st h =>
    so_sld E dL_law_458 h fun σ lv st h =>
    so_callV E.q (n := 2) (pp := 23) (C := RX5) (T := TX5) (N := 5) (idx := 52) (maxL := 3) (ret := (some .long)) cc_X5_strike ⟨rfl, rfl, rfl⟩ rfl gL_law_X5_strike rfl ⟨rfl, rfl⟩ (by decide +kernel) (by decide) dL_law_459 h fun σ lv st h =>
    so_aload_n E.q (i := 2) rfl dL_law_462 h fun σ lv st h =>
    so_aload_n E.q (i := 0) rfl dL_law_463 h fun σ lv st h =>
    so_iload_n E.q (i := 3) rfl dL_law_464 h fun σ lv st h =>
    so_iconst E.q (x := 1) dL_law_465 h fun σ lv st h =>
    so_iadd E.q dL_law_466 h fun σ lv st h =>
    so_sld E dL_law_467 h fun σ lv st h =>
    so_aload_n E.q (i := 0) rfl dL_law_468 h fun σ lv st h =>
    so_iload_n E.q (i := 3) rfl dL_law_469 h fun σ lv st h =>
    so_iconst E.q (x := 2) dL_law_470 h fun σ lv st h =>
    so_iadd E.q dL_law_471 h fun σ lv st h =>
    so_sld E dL_law_472 h fun σ lv st h =>
    so_callV E.q (n := 2) (pp := 24) (C := RX6) (T := TX6) (N := 11) (idx := 56) (maxL := 3) (ret := (some .long)) cc_X6_strike ⟨rfl, rfl, rfl⟩ rfl gL_law_X6_strike rfl ⟨rfl, rfl⟩ (by decide +kernel) (by decide) dL_law_473 h fun σ lv st h =>
    so_lcmp E.q dL_law_476 h fun σ lv st h =>
    so_ifeq E.q 772 (by decide) dL_law_477 (sb_L_law_772 E T) h fun σ lv st h =>
    so_iconst E.q (x := 0) dL_law_480 h fun σ lv st h =>
    so_zret T dL_law_481 h
set_option maxRecDepth 20000 in
theorem sb_L_law_482 {J : Nat → q_K} {l : Launch} {F : Int → Int} {L : Int} {Qp : Option q_V → q_M → Prop} (E : q_EL J F L cL_law RL wsL_law 8 l room_1) (T : q_T J cL_law (some .boolean) Qp) : ∀ (σ : q_M) (lv : q_L) (st : q_S), k_L_law_482 F L Qp J σ lv st → J 482 σ lv st := fun σ lv st h =>
    so_aload_n E.q (i := 1) rfl dL_law_482 h fun σ lv st h =>
    so_aload_n E.q (i := 0) rfl dL_law_483 h fun σ lv st h =>
    so_iload_n E.q (i := 3) rfl dL_law_484 h fun σ lv st h =>
    so_iconst E.q (x := 1) dL_law_485 h fun σ lv st h =>
    so_iadd E.q dL_law_486 h fun σ lv st h =>
    so_sld E dL_law_487 h fun σ lv st h =>
    so_callV E.q (n := 1) (pp := 23) (C := RX5) (T := TX5) (N := 5) (idx := 57) (maxL := 4) (ret := (some .int)) cc_X5_tick ⟨rfl, rfl, rfl⟩ rfl gL_law_X5_tick rfl ⟨rfl, rfl⟩ (by decide +kernel) (by decide) dL_law_488 h fun σ lv st h =>
    so_aload_n E.q (i := 2) rfl dL_law_491 h fun σ lv st h =>
    so_aload_n E.q (i := 0) rfl dL_law_492 h fun σ lv st h =>
    so_iload_n E.q (i := 3) rfl dL_law_493 h fun σ lv st h =>
    so_iconst E.q (x := 1) dL_law_494 h fun σ lv st h =>
    so_iadd E.q dL_law_495 h fun σ lv st h =>
    so_sld E dL_law_496 h fun σ lv st h =>
    so_callV E.q (n := 1) (pp := 24) (C := RX6) (T := TX6) (N := 11) (idx := 60) (maxL := 4) (ret := (some .int)) cc_X6_tick ⟨rfl, rfl, rfl⟩ rfl gL_law_X6_tick rfl ⟨rfl, rfl⟩ (by decide +kernel) (by decide) dL_law_497 h fun σ lv st h =>
    so_icmpeq E.q 772 (by decide) dL_law_500 (sb_L_law_772 E T) h fun σ lv st h =>
    so_iconst E.q (x := 0) dL_law_503 h fun σ lv st h =>
    so_zret T dL_law_504 h
set_option maxRecDepth 20000 in
theorem sb_L_law_505 {J : Nat → q_K} {l : Launch} {F : Int → Int} {L : Int} {Qp : Option q_V → q_M → Prop} (E : q_EL J F L cL_law RL wsL_law 8 l room_1) (T : q_T J cL_law (some .boolean) Qp) : ∀ (σ : q_M) (lv : q_L) (st : q_S), k_L_law_505 F L Qp J σ lv st → J 505 σ lv st := fun σ lv st h =>
    so_aload_n E.q (i := 1) rfl dL_law_505 h fun σ lv st h =>
    so_callV E.q (n := 0) (pp := 23) (C := RX5) (T := TX5) (N := 5) (idx := 61) (maxL := 1) (ret := (some .int)) cc_X5_time ⟨rfl, rfl, rfl⟩ rfl gL_law_X5_time rfl ⟨rfl, rfl⟩ (by decide +kernel) (by decide) dL_law_506 h fun σ lv st h =>
    so_aload_n E.q (i := 2) rfl dL_law_509 h fun σ lv st h =>
    so_callV E.q (n := 0) (pp := 24) (C := RX6) (T := TX6) (N := 11) (idx := 64) (maxL := 1) (ret := (some .int)) cc_X6_time ⟨rfl, rfl, rfl⟩ rfl gL_law_X6_time rfl ⟨rfl, rfl⟩ (by decide +kernel) (by decide) dL_law_510 h fun σ lv st h =>
    so_icmpeq E.q 772 (by decide) dL_law_513 (sb_L_law_772 E T) h fun σ lv st h =>
    so_iconst E.q (x := 0) dL_law_516 h fun σ lv st h =>
    so_zret T dL_law_517 h
set_option maxRecDepth 20000 in
theorem sb_L_law_518 {J : Nat → q_K} {l : Launch} {F : Int → Int} {L : Int} {Qp : Option q_V → q_M → Prop} (E : q_EL J F L cL_law RL wsL_law 8 l room_1) (T : q_T J cL_law (some .boolean) Qp) : ∀ (σ : q_M) (lv : q_L) (st : q_S), k_L_law_518 F L Qp J σ lv st → J 518 σ lv st := fun σ lv st h =>
    so_aload_n E.q (i := 1) rfl dL_law_518 h fun σ lv st h =>
    so_aload_n E.q (i := 0) rfl dL_law_519 h fun σ lv st h =>
    so_iload_n E.q (i := 3) rfl dL_law_520 h fun σ lv st h =>
    so_iconst E.q (x := 1) dL_law_521 h fun σ lv st h =>
    so_iadd E.q dL_law_522 h fun σ lv st h =>
    so_sld E dL_law_523 h fun σ lv st h =>
    so_aload_n E.q (i := 0) rfl dL_law_524 h fun σ lv st h =>
    so_iload_n E.q (i := 3) rfl dL_law_525 h fun σ lv st h =>
    so_iconst E.q (x := 2) dL_law_526 h fun σ lv st h =>
    so_iadd E.q dL_law_527 h fun σ lv st h =>
    so_sld E dL_law_528 h fun σ lv st h =>
    so_callV E.q (n := 2) (pp := 23) (C := RX5) (T := TX5) (N := 5) (idx := 65) (maxL := 3) (ret := (some .long)) cc_X5_axis ⟨rfl, rfl, rfl⟩ rfl gL_law_X5_axis rfl ⟨rfl, rfl⟩ (by decide +kernel) (by decide) dL_law_529 h fun σ lv st h =>
    so_aload_n E.q (i := 2) rfl dL_law_532 h fun σ lv st h =>
    so_aload_n E.q (i := 0) rfl dL_law_533 h fun σ lv st h =>
    so_iload_n E.q (i := 3) rfl dL_law_534 h fun σ lv st h =>
    so_iconst E.q (x := 1) dL_law_535 h fun σ lv st h =>
    so_iadd E.q dL_law_536 h fun σ lv st h =>
    so_sld E dL_law_537 h fun σ lv st h =>
    so_aload_n E.q (i := 0) rfl dL_law_538 h fun σ lv st h =>
    so_iload_n E.q (i := 3) rfl dL_law_539 h fun σ lv st h =>
    so_iconst E.q (x := 2) dL_law_540 h fun σ lv st h =>
    so_iadd E.q dL_law_541 h fun σ lv st h =>
    so_sld E dL_law_542 h fun σ lv st h =>
    so_callV E.q (n := 2) (pp := 24) (C := RX6) (T := TX6) (N := 11) (idx := 68) (maxL := 3) (ret := (some .long)) cc_X6_axis ⟨rfl, rfl, rfl⟩ rfl gL_law_X6_axis rfl ⟨rfl, rfl⟩ (by decide +kernel) (by decide) dL_law_543 h fun σ lv st h =>
    so_lcmp E.q dL_law_546 h fun σ lv st h =>
    so_ifeq E.q 772 (by decide) dL_law_547 (sb_L_law_772 E T) h fun σ lv st h =>
    so_iconst E.q (x := 0) dL_law_550 h fun σ lv st h =>
    so_zret T dL_law_551 h
set_option maxRecDepth 20000 in
theorem sb_L_law_552 {J : Nat → q_K} {l : Launch} {F : Int → Int} {L : Int} {Qp : Option q_V → q_M → Prop} (E : q_EL J F L cL_law RL wsL_law 8 l room_1) (T : q_T J cL_law (some .boolean) Qp) : ∀ (σ : q_M) (lv : q_L) (st : q_S), k_L_law_552 F L Qp J σ lv st → J 552 σ lv st := fun σ lv st h =>
    so_aload_n E.q (i := 1) rfl dL_law_552 h fun σ lv st h =>
    so_callV E.q (n := 0) (pp := 23) (C := RX5) (T := TX5) (N := 5) (idx := 69) (maxL := 1) (ret := (some .long)) cc_X5_span ⟨rfl, rfl, rfl⟩ rfl gL_law_X5_span rfl ⟨rfl, rfl⟩ (by decide +kernel) (by decide) dL_law_553 h fun σ lv st h =>
    so_aload_n E.q (i := 2) rfl dL_law_556 h fun σ lv st h =>
    so_callV E.q (n := 0) (pp := 24) (C := RX6) (T := TX6) (N := 11) (idx := 73) (maxL := 1) (ret := (some .long)) cc_X6_span ⟨rfl, rfl, rfl⟩ rfl gL_law_X6_span rfl ⟨rfl, rfl⟩ (by decide +kernel) (by decide) dL_law_557 h fun σ lv st h =>
    so_lcmp E.q dL_law_560 h fun σ lv st h =>
    so_ifeq E.q 772 (by decide) dL_law_561 (sb_L_law_772 E T) h fun σ lv st h =>
    so_iconst E.q (x := 0) dL_law_564 h fun σ lv st h =>
    so_zret T dL_law_565 h
set_option maxRecDepth 20000 in
theorem sb_L_law_566 {J : Nat → q_K} {l : Launch} {F : Int → Int} {L : Int} {Qp : Option q_V → q_M → Prop} (E : q_EL J F L cL_law RL wsL_law 8 l room_1) (T : q_T J cL_law (some .boolean) Qp) : ∀ (σ : q_M) (lv : q_L) (st : q_S), k_L_law_566 F L Qp J σ lv st → J 566 σ lv st := fun σ lv st h =>
    so_aload_n E.q (i := 1) rfl dL_law_566 h fun σ lv st h =>
    so_aload_n E.q (i := 0) rfl dL_law_567 h fun σ lv st h =>
    so_iload_n E.q (i := 3) rfl dL_law_568 h fun σ lv st h =>
    so_iconst E.q (x := 1) dL_law_569 h fun σ lv st h =>
    so_iadd E.q dL_law_570 h fun σ lv st h =>
    so_sld E dL_law_571 h fun σ lv st h =>
    so_aload_n E.q (i := 0) rfl dL_law_572 h fun σ lv st h =>
    so_iload_n E.q (i := 3) rfl dL_law_573 h fun σ lv st h =>
    so_iconst E.q (x := 2) dL_law_574 h fun σ lv st h =>
    so_iadd E.q dL_law_575 h fun σ lv st h =>
    so_sld E dL_law_576 h fun σ lv st h =>
    so_aload_n E.q (i := 0) rfl dL_law_577 h fun σ lv st h =>
    so_iload_n E.q (i := 3) rfl dL_law_578 h fun σ lv st h =>
    so_iconst E.q (x := 3) dL_law_579 h fun σ lv st h =>
    so_iadd E.q dL_law_580 h fun σ lv st h =>
    so_sld E dL_law_581 h fun σ lv st h =>
    so_aload_n E.q (i := 0) rfl dL_law_582 h fun σ lv st h =>
    so_iload_n E.q (i := 3) rfl dL_law_583 h fun σ lv st h =>
    so_iconst E.q (x := 4) dL_law_584 h fun σ lv st h =>
    so_iadd E.q dL_law_585 h fun σ lv st h =>
    so_sld E dL_law_586 h fun σ lv st h =>
    so_callV E.q (n := 4) (pp := 23) (C := RX5) (T := TX5) (N := 5) (idx := 74) (maxL := 6) (ret := (some .long)) cc_X5_wish ⟨rfl, rfl, rfl⟩ rfl gL_law_X5_wish rfl ⟨rfl, rfl⟩ (by decide +kernel) (by decide) dL_law_587 h fun σ lv st h =>
    so_aload_n E.q (i := 2) rfl dL_law_590 h fun σ lv st h =>
    so_aload_n E.q (i := 0) rfl dL_law_591 h fun σ lv st h =>
    so_iload_n E.q (i := 3) rfl dL_law_592 h fun σ lv st h =>
    so_iconst E.q (x := 1) dL_law_593 h fun σ lv st h =>
    so_iadd E.q dL_law_594 h fun σ lv st h =>
    so_sld E dL_law_595 h fun σ lv st h =>
    so_aload_n E.q (i := 0) rfl dL_law_596 h fun σ lv st h =>
    so_iload_n E.q (i := 3) rfl dL_law_597 h fun σ lv st h =>
    so_iconst E.q (x := 2) dL_law_598 h fun σ lv st h =>
    so_iadd E.q dL_law_599 h fun σ lv st h =>
    so_sld E dL_law_600 h fun σ lv st h =>
    so_aload_n E.q (i := 0) rfl dL_law_601 h fun σ lv st h =>
    so_iload_n E.q (i := 3) rfl dL_law_602 h fun σ lv st h =>
    so_iconst E.q (x := 3) dL_law_603 h fun σ lv st h =>
    so_iadd E.q dL_law_604 h fun σ lv st h =>
    so_sld E dL_law_605 h fun σ lv st h =>
    so_aload_n E.q (i := 0) rfl dL_law_606 h fun σ lv st h =>
    so_iload_n E.q (i := 3) rfl dL_law_607 h fun σ lv st h =>
    so_iconst E.q (x := 4) dL_law_608 h fun σ lv st h =>
    so_iadd E.q dL_law_609 h fun σ lv st h =>
    so_sld E dL_law_610 h fun σ lv st h =>
    so_callV E.q (n := 4) (pp := 24) (C := RX6) (T := TX6) (N := 11) (idx := 78) (maxL := 5) (ret := (some .long)) cc_X6_wish ⟨rfl, rfl, rfl⟩ rfl gL_law_X6_wish rfl ⟨rfl, rfl⟩ (by decide +kernel) (by decide) dL_law_611 h fun σ lv st h =>
    so_lcmp E.q dL_law_614 h fun σ lv st h =>
    so_ifeq E.q 772 (by decide) dL_law_615 (sb_L_law_772 E T) h fun σ lv st h =>
    so_iconst E.q (x := 0) dL_law_618 h fun σ lv st h =>
    so_zret T dL_law_619 h
set_option maxRecDepth 20000 in
theorem sb_L_law_620 {J : Nat → q_K} {l : Launch} {F : Int → Int} {L : Int} {Qp : Option q_V → q_M → Prop} (E : q_EL J F L cL_law RL wsL_law 8 l room_1) (T : q_T J cL_law (some .boolean) Qp) : ∀ (σ : q_M) (lv : q_L) (st : q_S), k_L_law_620 F L Qp J σ lv st → J 620 σ lv st := fun σ lv st h =>
    so_aload_n E.q (i := 1) rfl dL_law_620 h fun σ lv st h =>
    so_aload_n E.q (i := 0) rfl dL_law_621 h fun σ lv st h =>
    so_iload_n E.q (i := 3) rfl dL_law_622 h fun σ lv st h =>
    so_iconst E.q (x := 1) dL_law_623 h fun σ lv st h =>
    so_iadd E.q dL_law_624 h fun σ lv st h =>
    so_sld E dL_law_625 h fun σ lv st h =>
    so_callV E.q (n := 1) (pp := 23) (C := RX5) (T := TX5) (N := 5) (idx := 79) (maxL := 2) (ret := (some .int)) cc_X5_why ⟨rfl, rfl, rfl⟩ rfl gL_law_X5_why rfl ⟨rfl, rfl⟩ (by decide +kernel) (by decide) dL_law_626 h fun σ lv st h =>
    so_aload_n E.q (i := 2) rfl dL_law_629 h fun σ lv st h =>
    so_aload_n E.q (i := 0) rfl dL_law_630 h fun σ lv st h =>
    so_iload_n E.q (i := 3) rfl dL_law_631 h fun σ lv st h =>
    so_iconst E.q (x := 1) dL_law_632 h fun σ lv st h =>
    so_iadd E.q dL_law_633 h fun σ lv st h =>
    so_sld E dL_law_634 h fun σ lv st h =>
    so_callV E.q (n := 1) (pp := 24) (C := RX6) (T := TX6) (N := 11) (idx := 82) (maxL := 2) (ret := (some .int)) cc_X6_why ⟨rfl, rfl, rfl⟩ rfl gL_law_X6_why rfl ⟨rfl, rfl⟩ (by decide +kernel) (by decide) dL_law_635 h fun σ lv st h =>
    so_icmpeq E.q 772 (by decide) dL_law_638 (sb_L_law_772 E T) h fun σ lv st h =>
    so_iconst E.q (x := 0) dL_law_641 h fun σ lv st h =>
    so_zret T dL_law_642 h
set_option maxRecDepth 20000 in
theorem sb_L_law_683 {J : Nat → q_K} {l : Launch} {F : Int → Int} {L : Int} {Qp : Option q_V → q_M → Prop} (E : q_EL J F L cL_law RL wsL_law 8 l room_1) (T : q_T J cL_law (some .boolean) Qp) : ∀ (σ : q_M) (lv : q_L) (st : q_S), k_L_law_683 F L Qp J σ lv st → J 683 σ lv st := fun σ lv st h =>
    so_goto E.q 772 (by decide) dL_law_683 (sb_L_law_772 E T) h
set_option maxRecDepth 20000 in
theorem sb_L_law_681 {J : Nat → q_K} {l : Launch} {F : Int → Int} {L : Int} {Qp : Option q_V → q_M → Prop} (E : q_EL J F L cL_law RL wsL_law 8 l room_1) (T : q_T J cL_law (some .boolean) Qp) : ∀ (σ : q_M) (lv : q_L) (st : q_S), k_L_law_681 F L Qp J σ lv st → J 681 σ lv st := fun σ lv st h =>
    so_iconst E.q (x := 0) dL_law_681 h fun σ lv st h =>
    so_zret T dL_law_682 h
set_option maxRecDepth 20000 in
theorem sb_L_law_643 {J : Nat → q_K} {l : Launch} {F : Int → Int} {L : Int} {Qp : Option q_V → q_M → Prop} (E : q_EL J F L cL_law RL wsL_law 8 l room_1) (T : q_T J cL_law (some .boolean) Qp) : ∀ (σ : q_M) (lv : q_L) (st : q_S), k_L_law_643 F L Qp J σ lv st → J 643 σ lv st := fun σ lv st h =>
    so_aload_n E.q (i := 1) rfl dL_law_643 h fun σ lv st h =>
    so_callV E.q (n := 0) (pp := 23) (C := RX5) (T := TX5) (N := 5) (idx := 83) (maxL := 4) (ret := (some .float)) cc_X5_fullness ⟨rfl, rfl, rfl⟩ rfl gL_law_X5_fullness rfl ⟨rfl, rfl⟩ (by decide +kernel) (by decide) dL_law_644 h fun σ lv st h =>
    so_f2d E.q dL_law_647 h fun σ lv st h =>
    so_dstore E.q (i := 4) (by decide) dL_law_648 h fun σ lv st h =>
    so_aload_n E.q (i := 2) rfl dL_law_650 h fun σ lv st h =>
    so_callV E.q (n := 0) (pp := 24) (C := RX6) (T := TX6) (N := 11) (idx := 87) (maxL := 4) (ret := (some .float)) cc_X6_fullness ⟨rfl, rfl, rfl⟩ rfl gL_law_X6_fullness rfl ⟨rfl, rfl⟩ (by decide +kernel) (by decide) dL_law_651 h fun σ lv st h =>
    so_f2d E.q dL_law_654 h fun σ lv st h =>
    so_dstore E.q (i := 6) (by decide) dL_law_655 h fun σ lv st h =>
    so_dload E.q (i := 4) dL_law_657 h fun σ lv st h =>
    so_dload E.q (i := 6) dL_law_659 h fun σ lv st h =>
    so_dcmpl E.q dL_law_661 h fun σ lv st h =>
    so_ifeq E.q 683 (by decide) dL_law_662 (sb_L_law_683 E T) h fun σ lv st h =>
    so_dload E.q (i := 4) dL_law_665 h fun σ lv st h =>
    so_dload E.q (i := 4) dL_law_667 h fun σ lv st h =>
    so_dcmpl E.q dL_law_669 h fun σ lv st h =>
    so_ifeq E.q 681 (by decide) dL_law_670 (sb_L_law_681 E T) h fun σ lv st h =>
    so_dload E.q (i := 6) dL_law_673 h fun σ lv st h =>
    so_dload E.q (i := 6) dL_law_675 h fun σ lv st h =>
    so_dcmpl E.q dL_law_677 h fun σ lv st h =>
    so_ifne E.q 683 (by decide) dL_law_678 (sb_L_law_683 E T) h fun σ lv st h =>
    (sb_L_law_681 E T) σ lv st h
set_option maxRecDepth 20000 in
theorem sb_L_law_686 {J : Nat → q_K} {l : Launch} {F : Int → Int} {L : Int} {Qp : Option q_V → q_M → Prop} (E : q_EL J F L cL_law RL wsL_law 8 l room_1) (T : q_T J cL_law (some .boolean) Qp) : ∀ (σ : q_M) (lv : q_L) (st : q_S), k_L_law_686 F L Qp J σ lv st → J 686 σ lv st := fun σ lv st h =>
    so_aload_n E.q (i := 1) rfl dL_law_686 h fun σ lv st h =>
    so_aload_n E.q (i := 0) rfl dL_law_687 h fun σ lv st h =>
    so_iload_n E.q (i := 3) rfl dL_law_688 h fun σ lv st h =>
    so_iconst E.q (x := 1) dL_law_689 h fun σ lv st h =>
    so_iadd E.q dL_law_690 h fun σ lv st h =>
    so_sld E dL_law_691 h fun σ lv st h =>
    so_callV E.q (n := 1) (pp := 23) (C := RX5) (T := TX5) (N := 5) (idx := 88) (maxL := 3) (ret := (some .int)) cc_X5_arrives ⟨rfl, rfl, rfl⟩ rfl gL_law_X5_arrives rfl ⟨rfl, rfl⟩ (by decide +kernel) (by decide) dL_law_692 h fun σ lv st h =>
    so_aload_n E.q (i := 2) rfl dL_law_695 h fun σ lv st h =>
    so_aload_n E.q (i := 0) rfl dL_law_696 h fun σ lv st h =>
    so_iload_n E.q (i := 3) rfl dL_law_697 h fun σ lv st h =>
    so_iconst E.q (x := 1) dL_law_698 h fun σ lv st h =>
    so_iadd E.q dL_law_699 h fun σ lv st h =>
    so_sld E dL_law_700 h fun σ lv st h =>
    so_callV E.q (n := 1) (pp := 24) (C := RX6) (T := TX6) (N := 11) (idx := 91) (maxL := 5) (ret := (some .int)) cc_X6_arrives ⟨rfl, rfl, rfl⟩ rfl gL_law_X6_arrives rfl ⟨rfl, rfl⟩ (by decide +kernel) (by decide) dL_law_701 h fun σ lv st h =>
    so_icmpeq E.q 772 (by decide) dL_law_704 (sb_L_law_772 E T) h fun σ lv st h =>
    so_iconst E.q (x := 0) dL_law_707 h fun σ lv st h =>
    so_zret T dL_law_708 h
set_option maxRecDepth 20000 in
theorem sb_L_law_709 {J : Nat → q_K} {l : Launch} {F : Int → Int} {L : Int} {Qp : Option q_V → q_M → Prop} (E : q_EL J F L cL_law RL wsL_law 8 l room_1) (T : q_T J cL_law (some .boolean) Qp) : ∀ (σ : q_M) (lv : q_L) (st : q_S), k_L_law_709 F L Qp J σ lv st → J 709 σ lv st := fun σ lv st h =>
    so_aload_n E.q (i := 1) rfl dL_law_709 h fun σ lv st h =>
    so_callV E.q (n := 0) (pp := 23) (C := RX5) (T := TX5) (N := 5) (idx := 92) (maxL := 3) (ret := (some .int)) cc_X5_spare ⟨rfl, rfl, rfl⟩ rfl gL_law_X5_spare rfl ⟨rfl, rfl⟩ (by decide +kernel) (by decide) dL_law_710 h fun σ lv st h =>
    so_aload_n E.q (i := 2) rfl dL_law_713 h fun σ lv st h =>
    so_callV E.q (n := 0) (pp := 24) (C := RX6) (T := TX6) (N := 11) (idx := 95) (maxL := 3) (ret := (some .int)) cc_X6_spare ⟨rfl, rfl, rfl⟩ rfl gL_law_X6_spare rfl ⟨rfl, rfl⟩ (by decide +kernel) (by decide) dL_law_714 h fun σ lv st h =>
    so_icmpeq E.q 772 (by decide) dL_law_717 (sb_L_law_772 E T) h fun σ lv st h =>
    so_iconst E.q (x := 0) dL_law_720 h fun σ lv st h =>
    so_zret T dL_law_721 h
set_option maxRecDepth 20000 in
theorem sb_L_law_722 {J : Nat → q_K} {l : Launch} {F : Int → Int} {L : Int} {Qp : Option q_V → q_M → Prop} (E : q_EL J F L cL_law RL wsL_law 8 l room_1) (T : q_T J cL_law (some .boolean) Qp) : ∀ (σ : q_M) (lv : q_L) (st : q_S), k_L_law_722 F L Qp J σ lv st → J 722 σ lv st := fun σ lv st h =>
    so_aload_n E.q (i := 1) rfl dL_law_722 h fun σ lv st h =>
    so_aload_n E.q (i := 0) rfl dL_law_723 h fun σ lv st h =>
    so_iload_n E.q (i := 3) rfl dL_law_724 h fun σ lv st h =>
    so_iconst E.q (x := 1) dL_law_725 h fun σ lv st h =>
    so_iadd E.q dL_law_726 h fun σ lv st h =>
    so_sld E dL_law_727 h fun σ lv st h =>
    so_callV E.q (n := 1) (pp := 23) (C := RX5) (T := TX5) (N := 5) (idx := 96) (maxL := 8) (ret := (some .int)) cc_X5_gravest ⟨rfl, rfl, rfl⟩ rfl gL_law_X5_gravest rfl ⟨rfl, rfl⟩ (by decide +kernel) (by decide) dL_law_728 h fun σ lv st h =>
    so_aload_n E.q (i := 2) rfl dL_law_731 h fun σ lv st h =>
    so_aload_n E.q (i := 0) rfl dL_law_732 h fun σ lv st h =>
    so_iload_n E.q (i := 3) rfl dL_law_733 h fun σ lv st h =>
    so_iconst E.q (x := 1) dL_law_734 h fun σ lv st h =>
    so_iadd E.q dL_law_735 h fun σ lv st h =>
    so_sld E dL_law_736 h fun σ lv st h =>
    so_callV E.q (n := 1) (pp := 24) (C := RX6) (T := TX6) (N := 11) (idx := 99) (maxL := 9) (ret := (some .int)) cc_X6_gravest ⟨rfl, rfl, rfl⟩ rfl gL_law_X6_gravest rfl ⟨rfl, rfl⟩ (by decide +kernel) (by decide) dL_law_737 h fun σ lv st h =>
    so_icmpeq E.q 772 (by decide) dL_law_740 (sb_L_law_772 E T) h fun σ lv st h =>
    so_iconst E.q (x := 0) dL_law_743 h fun σ lv st h =>
    so_zret T dL_law_744 h
set_option maxRecDepth 20000 in
theorem sb_L_law_745 {J : Nat → q_K} {l : Launch} {F : Int → Int} {L : Int} {Qp : Option q_V → q_M → Prop} (E : q_EL J F L cL_law RL wsL_law 8 l room_1) (T : q_T J cL_law (some .boolean) Qp) : ∀ (σ : q_M) (lv : q_L) (st : q_S), k_L_law_745 F L Qp J σ lv st → J 745 σ lv st := fun σ lv st h =>
    so_aload_n E.q (i := 1) rfl dL_law_745 h fun σ lv st h =>
    so_callV E.q (n := 0) (pp := 23) (C := RX5) (T := TX5) (N := 5) (idx := 100) (maxL := 1) (ret := (some .int)) cc_X5_undo ⟨rfl, rfl, rfl⟩ rfl gL_law_X5_undo rfl ⟨rfl, rfl⟩ (by decide +kernel) (by decide) dL_law_746 h fun σ lv st h =>
    so_aload_n E.q (i := 2) rfl dL_law_749 h fun σ lv st h =>
    so_callV E.q (n := 0) (pp := 24) (C := RX6) (T := TX6) (N := 11) (idx := 103) (maxL := 2) (ret := (some .int)) cc_X6_undo ⟨rfl, rfl, rfl⟩ rfl gL_law_X6_undo rfl ⟨rfl, rfl⟩ (by decide +kernel) (by decide) dL_law_750 h fun σ lv st h =>
    so_icmpeq E.q 772 (by decide) dL_law_753 (sb_L_law_772 E T) h fun σ lv st h =>
    so_iconst E.q (x := 0) dL_law_756 h fun σ lv st h =>
    so_zret T dL_law_757 h
set_option maxRecDepth 20000 in
theorem sb_L_law_758 {J : Nat → q_K} {l : Launch} {F : Int → Int} {L : Int} {Qp : Option q_V → q_M → Prop} (E : q_EL J F L cL_law RL wsL_law 8 l room_1) (T : q_T J cL_law (some .boolean) Qp) : ∀ (σ : q_M) (lv : q_L) (st : q_S), k_L_law_758 F L Qp J σ lv st → J 758 σ lv st := fun σ lv st h =>
    so_aload_n E.q (i := 1) rfl dL_law_758 h fun σ lv st h =>
    so_callV E.q (n := 0) (pp := 23) (C := RX5) (T := TX5) (N := 5) (idx := 104) (maxL := 5) (ret := (some .long)) cc_X5_fingerprint ⟨rfl, rfl, rfl⟩ rfl gL_law_X5_fingerprint rfl ⟨rfl, rfl⟩ (by decide +kernel) (by decide) dL_law_759 h fun σ lv st h =>
    so_aload_n E.q (i := 2) rfl dL_law_762 h fun σ lv st h =>
    so_callV E.q (n := 0) (pp := 24) (C := RX6) (T := TX6) (N := 11) (idx := 107) (maxL := 5) (ret := (some .long)) cc_X6_fingerprint ⟨rfl, rfl, rfl⟩ rfl gL_law_X6_fingerprint rfl ⟨rfl, rfl⟩ (by decide +kernel) (by decide) dL_law_763 h fun σ lv st h =>
    so_lcmp E.q dL_law_766 h fun σ lv st h =>
    so_ifeq E.q 772 (by decide) dL_law_767 (sb_L_law_772 E T) h fun σ lv st h =>
    so_iconst E.q (x := 0) dL_law_770 h fun σ lv st h =>
    so_zret T dL_law_771 h
set_option maxRecDepth 20000 in
theorem sb_L_law_18 {J : Nat → q_K} {l : Launch} {F : Int → Int} {L : Int} {Qp : Option q_V → q_M → Prop} (E : q_EL J F L cL_law RL wsL_law 8 l room_1) (T : q_T J cL_law (some .boolean) Qp) : ∀ (σ : q_M) (lv : q_L) (st : q_S), k_L_law_18 F L Qp J σ lv st → J 18 σ lv st := fun σ lv st h =>
    so_iload_n E.q (i := 3) rfl dL_law_18 h fun σ lv st h =>
    so_aload_n E.q (i := 0) rfl dL_law_19 h fun σ lv st h =>
    so_alen E dL_law_20 h fun σ lv st h =>
    so_bipush E.q (x := 6) rfl dL_law_21 h fun σ lv st h =>
    so_isub E.q dL_law_23 h fun σ lv st h =>
    so_icmpgt E.q 778 (by decide) dL_law_24 (sb_L_law_778 E T) h fun σ lv st h =>
    so_aload_n E.q (i := 0) rfl dL_law_27 h fun σ lv st h =>
    so_iload_n E.q (i := 3) rfl dL_law_28 h fun σ lv st h =>
    so_sld E dL_law_29 h fun σ lv st h =>
    so_bipush E.q (x := 31) rfl dL_law_30 h fun σ lv st h =>
    so_iand E.q dL_law_32 h fun σ lv st h =>
    so_tsw E.q (Ks := [k_L_law_132 F L Qp J, k_L_law_195 F L Qp J, k_L_law_244 F L Qp J, k_L_law_303 F L Qp J, k_L_law_336 F L Qp J, k_L_law_349 F L Qp J, k_L_law_392 F L Qp J, k_L_law_425 F L Qp J, k_L_law_448 F L Qp J, k_L_law_482 F L Qp J, k_L_law_505 F L Qp J, k_L_law_518 F L Qp J, k_L_law_552 F L Qp J, k_L_law_566 F L Qp J, k_L_law_620 F L Qp J, k_L_law_643 F L Qp J, k_L_law_686 F L Qp J, k_L_law_709 F L Qp J, k_L_law_722 F L Qp J, k_L_law_745 F L Qp J, k_L_law_758 F L Qp J]) 772 [132, 195, 244, 303, 336, 349, 392, 425, 448, 482, 505, 518, 552, 566, 620, 643, 686, 709, 722, 745, 758] (by decide) (by decide) (fun i t h9 => by
    have hi : i < 21 := (List.getElem?_eq_some_iff.mp h9).1
    match i, hi with
    | 0, _ => cases h9; exact ⟨_, rfl, by decide⟩
    | 1, _ => cases h9; exact ⟨_, rfl, by decide⟩
    | 2, _ => cases h9; exact ⟨_, rfl, by decide⟩
    | 3, _ => cases h9; exact ⟨_, rfl, by decide⟩
    | 4, _ => cases h9; exact ⟨_, rfl, by decide⟩
    | 5, _ => cases h9; exact ⟨_, rfl, by decide⟩
    | 6, _ => cases h9; exact ⟨_, rfl, by decide⟩
    | 7, _ => cases h9; exact ⟨_, rfl, by decide⟩
    | 8, _ => cases h9; exact ⟨_, rfl, by decide⟩
    | 9, _ => cases h9; exact ⟨_, rfl, by decide⟩
    | 10, _ => cases h9; exact ⟨_, rfl, by decide⟩
    | 11, _ => cases h9; exact ⟨_, rfl, by decide⟩
    | 12, _ => cases h9; exact ⟨_, rfl, by decide⟩
    | 13, _ => cases h9; exact ⟨_, rfl, by decide⟩
    | 14, _ => cases h9; exact ⟨_, rfl, by decide⟩
    | 15, _ => cases h9; exact ⟨_, rfl, by decide⟩
    | 16, _ => cases h9; exact ⟨_, rfl, by decide⟩
    | 17, _ => cases h9; exact ⟨_, rfl, by decide⟩
    | 18, _ => cases h9; exact ⟨_, rfl, by decide⟩
    | 19, _ => cases h9; exact ⟨_, rfl, by decide⟩
    | 20, _ => cases h9; exact ⟨_, rfl, by decide⟩) dL_law_33 (sb_L_law_772 E T) (⟨(sb_L_law_132 E T), ⟨(sb_L_law_195 E T), ⟨(sb_L_law_244 E T), ⟨(sb_L_law_303 E T), ⟨(sb_L_law_336 E T), ⟨(sb_L_law_349 E T), ⟨(sb_L_law_392 E T), ⟨(sb_L_law_425 E T), ⟨(sb_L_law_448 E T), ⟨(sb_L_law_482 E T), ⟨(sb_L_law_505 E T), ⟨(sb_L_law_518 E T), ⟨(sb_L_law_552 E T), ⟨(sb_L_law_566 E T), ⟨(sb_L_law_620 E T), ⟨(sb_L_law_643 E T), ⟨(sb_L_law_686 E T), ⟨(sb_L_law_709 E T), ⟨(sb_L_law_722 E T), ⟨(sb_L_law_745 E T), ⟨(sb_L_law_758 E T), trivial⟩⟩⟩⟩⟩⟩⟩⟩⟩⟩⟩⟩⟩⟩⟩⟩⟩⟩⟩⟩⟩) h
