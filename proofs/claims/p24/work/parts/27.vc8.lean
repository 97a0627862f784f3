/-! ===== a tick of the class ===== -/
theorem q_put_in {σ : q_M} {c : Int} {G : q_X} {p : Nat} {k s : Int} (h : p ≤ 11) : q_put σ c G c p k s = G p k s := if_pos ⟨rfl, h⟩
theorem q_put_out {σ : q_M} {c c' : Int} {G : q_X} {p : Nat} {k s : Int} (h : ¬ c' = c) : q_put σ c G c' p k s = σ c' p k s := if_neg (fun z => h z.1)
theorem q_put_self {σ : q_M} {c : Int} {G : q_X} (h : ∀ p k s, 11 < p → G p k s = σ c p k s) : q_put σ c G c = G := by
  funext p k s
  by_cases q : p ≤ 11
  · exact q_put_in q
  · rw [q_put_hi (by omega), h p k s (by omega)]
theorem q_put_put (σ : q_M) (c : Int) (G H : q_X) : q_put (q_put σ c G) c H = q_put σ c H := by
  funext c' p k s
  unfold q_put
  by_cases q : c' = c ∧ p ≤ 11
  · rw [if_pos q, if_pos q]
  · rw [if_neg q, if_neg q, if_neg q]
theorem q_gv_c11 {X X' : q_X} {n w : Int} (h : ∀ p k s, p ≤ 11 → X p k s = X' p k s) (p : Nat) (k s : Int) (hp : p ≤ 11) : q_gv X n w p k s = q_gv X' n w p k s := by
  have e1 : q_tq X n w = q_tq X' n w := by unfold q_tq q_alw q_dn q_up; simp only [h 10 _ _ (by decide)]
  have e2 : q_alw X n w = q_alw X' n w := by unfold q_alw; simp only [h 10 _ _ (by decide)]
  unfold q_gv
  (try dsimp only)
  rw [e1, e2, h 9 0 0 (by decide)]
  split
  · unfold q_tl
    simp only [h 10 _ _ (by decide), h 5 _ _ (by decide), h 11 _ _ (by decide), h p _ _ hp]
  · simp only [h 10 _ _ (by decide), h 5 _ _ (by decide), h 11 _ _ (by decide), h p _ _ hp]
theorem q_gv_hi {X : q_X} {n w : Int} {p : Nat} {k s : Int} (h : 11 < p) : q_gv X n w p k s = X p k s := by
  unfold q_gv
  (try dsimp only)
  split
  · unfold q_tl
    rw [if_neg (by omega), if_neg (by omega), if_neg (by omega), if_neg (by omega)]
    (try dsimp only)
    rw [if_neg (by omega), if_neg (by omega), if_neg (by omega)]
  · dsimp only
    rw [if_neg (by omega), if_neg (by omega), if_neg (by omega)]
theorem q_gvs_hi {W X : q_X} {p : Nat} {k s : Int} (h : 11 < p) : ∀ n : Nat, q_gvs W n X p k s = X p k s := by
  intro n
  induction n with
  | zero => rfl
  | succ n ih =>
    unfold q_gvs
    (try dsimp only)
    split
    · rw [q_gv_hi h]
      exact ih
    · exact ih
theorem q_g0_hi {X : q_X} {p : Nat} {k s : Int} (h : 11 < p) : q_g0 X p k s = X p k s := if_neg (by omega)
theorem q_tm_hi {X : q_X} {p : Nat} {k s : Int} (h : 11 < p) : q_tm X p k s = X p k s := by
  unfold q_tm
  rw [if_neg (by omega), if_neg (by omega)]
theorem q_tn_hi {X : q_X} {p : Nat} {k s : Int} (h : 11 < p) : q_tn X p k s = X p k s := by
  unfold q_tn
  rw [if_neg (by omega), if_neg (by omega), if_neg (by omega)]
theorem q_sh_hi {X : q_X} {p : Nat} {k s : Int} (h : 11 < p) : q_sh X p k s = X p k s := by
  unfold q_sh
  split
  · rw [q_gvs_hi h, q_tm_hi h, q_g0_hi h]
  · rw [q_tn_hi h, q_g0_hi h]
theorem q_fw_hi {X : q_X} {p : Nat} {k s : Int} (h : 11 < p) : q_fw X p k s = X p k s := if_neg (by omega)
theorem q_now_hi {X : q_X} {p : Nat} {k s : Int} (h : 11 < p) : q_now X p k s = X p k s := if_neg (by omega)
theorem q_lgo_hi {X : q_X} {p : Nat} {k s : Int} (h : 11 < p) : q_lgo X p k s = X p k s := by
  unfold q_lgo
  rw [if_neg (by omega), if_neg (by omega)]
theorem q_dis_hi {X : q_X} {p : Nat} {k s : Int} (h : 11 < p) : q_dis X p k s = X p k s := by
  unfold q_dis
  rw [if_neg (by omega), if_neg (by omega)]
theorem q_tur_hi {X : q_X} {p : Nat} {k s : Int} (h : 11 < p) : q_tur X p k s = X p k s := if_neg (by omega)
theorem q_step_hi {X : q_X} {p : Nat} {k s : Int} (h : 11 < p) : q_step X p k s = X p k s := by
  unfold q_step
  rw [q_tur_hi h, q_dis_hi h, q_lgo_hi h, q_sh_hi h, q_fw_hi h, q_now_hi h]
def q_h1 (σ : q_M) (c w : Int) : q_M := fun c' p k s => if c' = c ∧ p = 10 ∧ s = 4 ∧ 0 ≤ k ∧ k < w then 0 else σ c' p k s
def q_sT (σ : q_M) (c : Int) (A : Int → Int) (Z : q_X) : q_M := fun c' p k s => if p = 17 then A s else q_put σ c Z c' p k s
theorem v_X3_share {Qp : Option q_V → q_M → Prop} {X : Nat → q_K} (hC : q_C X) (h0 : ∀ (σ : q_M) (lv : q_L) (st : q_S), k_X3_share_0 Qp X σ lv st → X 0 σ lv st) (h2 : ∀ (σ : q_M) (lv : q_L) (st : q_S), k_X3_share_2 Qp X σ lv st → X 2 σ lv st) (h66 : ∀ (σ : q_M) (lv : q_L) (st : q_S), k_X3_share_66 Qp X σ lv st → X 66 σ lv st) {σ : q_M} {c : Int} (h : (q_c6 c ∧ q_Me σ (σ c) ∧ ∃ n, q_Inv n (σ c)) ∧ ∀ τ, q_ag1 τ (q_put σ c (q_sh (σ c))) → Qp none τ) : X 0 σ [some (zR 0 12 0), some (zR c 0 0), none] [] := by
  obtain ⟨⟨hc, hM, n, hI⟩, h⟩ := h
  obtain ⟨hM1, hM2⟩ := hM
  have hcnt := hI.cnt
  have hdb := q_det_bd hI.cnt hI.dir (-2000009)
  generalize hW : q_tm (q_g0 (σ c)) = W
  have hWI : q_Inv n W := by rw [← hW]; exact hI.g0.tm
  have w001 : W 0 0 1 = σ c 0 0 1 := by rw [← hW]; rfl
  have w103 : ∀ k, W 10 k 3 = σ c 10 k 3 := fun k => by rw [← hW]; exact if_neg (by omega)
  have w11 : ∀ k s, W 11 k s = σ c 11 k s := fun k s => by rw [← hW]; rfl
  have w7 : ∀ s, W 7 0 s = σ c 7 0 s := fun s => by rw [← hW]; rfl
  have ecof : ∀ i j, q_cof W (-2000009) i j = q_cof (σ c) (-2000009) i j := q_cof_cg w001 w103 w11 _
  have edet : q_det W (-2000009) = q_det (σ c) (-2000009) := q_det_cg w001 w103 w11 _
  have l66 : 0 < σ 0 12 0 0 → ∀ (d w : Nat), w + d = (σ c 0 0 1).toNat → X 66 (q_sT σ c (fun s => σ 0 16 s 0 * σ c 7 0 0 + σ 0 16 s 1 * σ c 7 0 1 + σ 0 16 s 2 * σ c 7 0 2) (q_gvs W w W)) [some (zR 0 12 0), some (zR c 0 0), some (zI w)] [] := by
    intro hpos d
    induction d with
    | zero =>
      intro w hw
      apply h66
      simp only [↓k_X3_share_0, ↓k_X3_share_38, ↓k_X3_share_26, ↓k_X3_share_2, ↓k_X3_share_98, ↓k_X3_share_92, ↓k_X3_share_66, ↓e_iadd, ↓e_isub, ↓e_imul, ↓e_ladd, ↓e_lsub, ↓e_lmul, ↓e_ineg, ↓e_lneg, ↓e_i2l, ↓e_l2i, ↓e_lcmp, ↓e_i2f, ↓e_l2f, ↓e_fdiv, ↓e_f2d, ↓e_fcmpl, ↓e_dcmpl, ↓e_ldiv, ↓e_lrem, ↓e_idiv, ↓e_irem, ↓e_lxor, ↓e_ishl, ↓e_ior, ↓e_iand, ↓e_ishr, ↓e_ic, ↓e_lc, ↓e_fc, ↓e_kl_i, ↓e_kl_r, ↓e_kl_f, ↓e_kl_n, ↓e_kl_l, ↓e_kl_d, ↓e_ild0, ↓e_ist0, ↓e_ild1, ↓e_ist1, ↓e_ild2, ↓e_ist2, ↓e_ild3, ↓e_ist3, ↓e_ild4, ↓e_ist4, ↓e_ild5, ↓e_ist5, ↓e_ild6, ↓e_ist6, ↓e_ild7, ↓e_ist7, ↓e_ild8, ↓e_ist8, ↓e_ild9, ↓e_ist9, ↓e_ild10, ↓e_ist10, ↓e_ild11, ↓e_ist11, ↓e_ild12, ↓e_ist12, ↓e_inc0, ↓e_inc1, ↓e_inc2, ↓e_inc3, ↓e_inc4, ↓e_inc5, ↓e_inc6, ↓e_inc7, ↓e_inc8, ↓e_inc9, ↓e_inc10, ↓e_inc11, ↓e_inc12, ↓e_lld0, ↓e_lst0, ↓e_lld1, ↓e_lst1, ↓e_lld2, ↓e_lst2, ↓e_lld3, ↓e_lst3, ↓e_lld4, ↓e_lst4, ↓e_lld5, ↓e_lst5, ↓e_lld6, ↓e_lst6, ↓e_lld7, ↓e_lst7, ↓e_lld8, ↓e_lst8, ↓e_lld9, ↓e_lst9, ↓e_lld10, ↓e_lst10, ↓e_lld11, ↓e_lst11, ↓e_lld12, ↓e_lst12, ↓e_fld0, ↓e_fst0, ↓e_fld1, ↓e_fst1, ↓e_fld2, ↓e_fst2, ↓e_fld3, ↓e_fst3, ↓e_fld4, ↓e_fst4, ↓e_fld5, ↓e_fst5, ↓e_fld6, ↓e_fst6, ↓e_fld7, ↓e_fst7, ↓e_fld8, ↓e_fst8, ↓e_fld9, ↓e_fst9, ↓e_fld10, ↓e_fst10, ↓e_fld11, ↓e_fst11, ↓e_fld12, ↓e_fst12, ↓e_dld0, ↓e_dst0, ↓e_dld1, ↓e_dst1, ↓e_dld2, ↓e_dst2, ↓e_dld3, ↓e_dst3, ↓e_dld4, ↓e_dst4, ↓e_dld5, ↓e_dst5, ↓e_dld6, ↓e_dst6, ↓e_dld7, ↓e_dst7, ↓e_dld8, ↓e_dst8, ↓e_dld9, ↓e_dst9, ↓e_dld10, ↓e_dst10, ↓e_dld11, ↓e_dst11, ↓e_dld12, ↓e_dst12, ↓e_ald0, ↓e_ast0, ↓e_ald1, ↓e_ast1, ↓e_ald2, ↓e_ast2, ↓e_ald3, ↓e_ast3, ↓e_ald4, ↓e_ast4, ↓e_ald5, ↓e_ast5, ↓e_ald6, ↓e_ast6, ↓e_ald7, ↓e_ast7, ↓e_ald8, ↓e_ast8, ↓e_ald9, ↓e_ast9, ↓e_ald10, ↓e_ast10, ↓e_ald11, ↓e_ast11, ↓e_ald12, ↓e_ast12, ↓e_dupr, ↓e_dupi, ↓e_dup2, ↓e_dup2l, ↓e_ifeq, ↓e_icmpeq, ↓e_ifne, ↓e_icmpne, ↓e_iflt, ↓e_icmplt, ↓e_ifge, ↓e_icmpge, ↓e_ifgt, ↓e_icmpgt, ↓e_ifle, ↓e_icmple, ↓e_goto, ↓e_tsw, ↓e_case0, ↓e_case1, ↓e_iret, ↓e_zret, ↓e_lret, ↓e_fret, ↓e_vret, ↓e_ok0, ↓e_ok1, ↓e_ok2, ↓e_ok4, ↓e_ok5, ↓e_ok6, ↓e_ok7, ↓e_ok8, ↓e_ok9, ↓e_ok3, ↓e_ok10, ↓e_ok11, ↓e_ok15, ↓e_ok16, ↓e_ok12, ↓e_ok13, ↓e_ok14, ↓e_ok17, ↓e_ok18, ↓e_ok19, ↓e_ok20, ↓e_ok21, ↓e_ok22, ↓e_ok23, ↓e_get_0_0, ↓e_get_0_1, ↓e_get_0_2, ↓e_get_0_3, ↓e_get_0_4, ↓e_get_0_5, ↓e_get_0_6, ↓e_get_0_7, ↓e_get_0_8, ↓e_get_0_9, ↓e_get_0_10, ↓e_puti_0, ↓e_putz_0, ↓e_putl_0, ↓e_get_10_0, ↓e_get_10_1, ↓e_get_10_2, ↓e_get_10_3, ↓e_get_10_4, ↓e_get_10_5, ↓e_puti_10, ↓e_putz_10, ↓e_putl_10, ↓e_get_12_0, ↓e_get_12_1, ↓e_get_12_2, ↓e_get_12_3, ↓e_puti_12, ↓e_putz_12, ↓e_putl_12, ↓e_get_18_0, ↓e_get_18_1, ↓e_puti_18, ↓e_putz_18, ↓e_putl_18, ↓e_get_21_0, ↓e_get_21_1, ↓e_puti_21, ↓e_putz_21, ↓e_putl_21, ↓e_get_23_0, ↓e_get_23_1, ↓e_get_23_2, ↓e_get_23_3, ↓e_get_23_4, ↓e_puti_23, ↓e_putz_23, ↓e_putl_23, ↓e_iald_1, ↓e_iast_1, ↓e_iald_3, ↓e_iast_3, ↓e_iald_9, ↓e_iast_9, ↓e_iald_11, ↓e_iast_11, ↓e_lald_4, ↓e_last_4, ↓e_lald_5, ↓e_last_5, ↓e_lald_6, ↓e_last_6, ↓e_lald_7, ↓e_last_7, ↓e_lald_15, ↓e_last_15, ↓e_lald_16, ↓e_last_16, ↓e_lald_17, ↓e_last_17, ↓e_lald_19, ↓e_last_19, ↓e_lald_20, ↓e_last_20, ↓e_aald_2, ↓e_aald_8, ↓e_aald_13, ↓e_aald_14, ↓e_aald_22, ↓e_aast, ↓e_acpi, ↓e_acpl, ↓e_mabs, ↓e_mabsl, ↓e_mmin, ↓e_mmax, ↓e_gets34, ↓e_sald34, ↓e_gets35, ↓e_sald35, ↓e_gets36, ↓e_sald36, ↓e_gets37, ↓e_sald37, ↓e_cats0, ↓e_cats_i, ↓e_cats_l, ↓e_cats_f, ↓e_cats_d, ↓e_cats_a, ↓e_callS0, ↓e_callV0, ↓e_callS1, ↓e_callV1, ↓e_callS2, ↓e_callV2, ↓e_callS3, ↓e_callV3, ↓e_callS4, ↓e_callV4, ↓e_callS5, ↓e_callV5, ↓e_callS6, ↓e_callV6, ↓e_tl1, ↓e_tl0, ↓zi_0_3, ↓zi_1_3, ↓zi_2_3, ↓zi_0_4, ↓zi_1_4, ↓zi_2_4, ↓zi_3_4, ↓zi_0_5, ↓zi_1_5, ↓zi_2_5, ↓zi_3_5, ↓zi_4_5, ↓zi_0_6, ↓zi_1_6, ↓zi_2_6, ↓zi_3_6, ↓zi_4_6, ↓zi_5_6, ↓zi_0_7, ↓zi_1_7, ↓zi_2_7, ↓zi_3_7, ↓zi_4_7, ↓zi_5_7, ↓zi_0_8, ↓zi_1_8, ↓zi_2_8, ↓zi_3_8, ↓zi_4_8, ↓zi_5_8, ↓zi_0_9, ↓zi_1_9, ↓zi_2_9, ↓zi_3_9, ↓zi_4_9, ↓zi_5_9, ↓zi_0_10, ↓zi_1_10, ↓zi_2_10, ↓zi_3_10, ↓zi_4_10, ↓zi_5_10, ↓zc_0, ↓zc_1, ↓s_X3_spans, ↓s_X0_tellNoSpan, ↓s_X0_tellMet, ↓s_X3_aim, ↓s_X3_give, q_cmp_lt, q_cmp_ge, q_cmp_gt, q_cmp_le, q_cmp_eq, q_cmp_i32, q_b_i32, q_b_0, ↓q_b01, true_and, and_true, true_implies, Nat.reduceAdd, Nat.reduceLeDiff, Int.reduceNeg, eq_self, or_true, true_or, implies_true]
      have e1 : q_sT σ c (fun s => σ 0 16 s 0 * σ c 7 0 0 + σ 0 16 s 1 * σ c 7 0 1 + σ 0 16 s 2 * σ c 7 0 2) (q_gvs W w W) c 0 0 1 = σ c 0 0 1 := by
        show q_put _ _ _ _ _ _ _ = _
        rw [q_put_in (by decide), q_gvs_same (by omega), w001]
      simp only [hc, true_and, e1]
      refine ⟨Or.inl (by omega), fun _ => ?_, fun q => absurd q (by omega)⟩
      refine q_out.i (h _ ?_)
      have es : q_sh (σ c) = q_gvs W w W := by
        unfold q_sh
        rw [if_pos (by omega), hW, ← hw]
        rfl
      rw [es]
      intro c' p k s h1 h2 h3
      exact if_neg h1
    | succ d ih =>
      intro w hw
      have g := ih (w + 1) (by omega)
      have hk : q_in (w : Int) 6 := ⟨by omega, by omega⟩
      apply h66
      simp only [↓k_X3_share_0, ↓k_X3_share_38, ↓k_X3_share_26, ↓k_X3_share_2, ↓k_X3_share_98, ↓k_X3_share_92, ↓k_X3_share_66, ↓e_iadd, ↓e_isub, ↓e_imul, ↓e_ladd, ↓e_lsub, ↓e_lmul, ↓e_ineg, ↓e_lneg, ↓e_i2l, ↓e_l2i, ↓e_lcmp, ↓e_i2f, ↓e_l2f, ↓e_fdiv, ↓e_f2d, ↓e_fcmpl, ↓e_dcmpl, ↓e_ldiv, ↓e_lrem, ↓e_idiv, ↓e_irem, ↓e_lxor, ↓e_ishl, ↓e_ior, ↓e_iand, ↓e_ishr, ↓e_ic, ↓e_lc, ↓e_fc, ↓e_kl_i, ↓e_kl_r, ↓e_kl_f, ↓e_kl_n, ↓e_kl_l, ↓e_kl_d, ↓e_ild0, ↓e_ist0, ↓e_ild1, ↓e_ist1, ↓e_ild2, ↓e_ist2, ↓e_ild3, ↓e_ist3, ↓e_ild4, ↓e_ist4, ↓e_ild5, ↓e_ist5, ↓e_ild6, ↓e_ist6, ↓e_ild7, ↓e_ist7, ↓e_ild8, ↓e_ist8, ↓e_ild9, ↓e_ist9, ↓e_ild10, ↓e_ist10, ↓e_ild11, ↓e_ist11, ↓e_ild12, ↓e_ist12, ↓e_inc0, ↓e_inc1, ↓e_inc2, ↓e_inc3, ↓e_inc4, ↓e_inc5, ↓e_inc6, ↓e_inc7, ↓e_inc8, ↓e_inc9, ↓e_inc10, ↓e_inc11, ↓e_inc12, ↓e_lld0, ↓e_lst0, ↓e_lld1, ↓e_lst1, ↓e_lld2, ↓e_lst2, ↓e_lld3, ↓e_lst3, ↓e_lld4, ↓e_lst4, ↓e_lld5, ↓e_lst5, ↓e_lld6, ↓e_lst6, ↓e_lld7, ↓e_lst7, ↓e_lld8, ↓e_lst8, ↓e_lld9, ↓e_lst9, ↓e_lld10, ↓e_lst10, ↓e_lld11, ↓e_lst11, ↓e_lld12, ↓e_lst12, ↓e_fld0, ↓e_fst0, ↓e_fld1, ↓e_fst1, ↓e_fld2, ↓e_fst2, ↓e_fld3, ↓e_fst3, ↓e_fld4, ↓e_fst4, ↓e_fld5, ↓e_fst5, ↓e_fld6, ↓e_fst6, ↓e_fld7, ↓e_fst7, ↓e_fld8, ↓e_fst8, ↓e_fld9, ↓e_fst9, ↓e_fld10, ↓e_fst10, ↓e_fld11, ↓e_fst11, ↓e_fld12, ↓e_fst12, ↓e_dld0, ↓e_dst0, ↓e_dld1, ↓e_dst1, ↓e_dld2, ↓e_dst2, ↓e_dld3, ↓e_dst3, ↓e_dld4, ↓e_dst4, ↓e_dld5, ↓e_dst5, ↓e_dld6, ↓e_dst6, ↓e_dld7, ↓e_dst7, ↓e_dld8, ↓e_dst8, ↓e_dld9, ↓e_dst9, ↓e_dld10, ↓e_dst10, ↓e_dld11, ↓e_dst11, ↓e_dld12, ↓e_dst12, ↓e_ald0, ↓e_ast0, ↓e_ald1, ↓e_ast1, ↓e_ald2, ↓e_ast2, ↓e_ald3, ↓e_ast3, ↓e_ald4, ↓e_ast4, ↓e_ald5, ↓e_ast5, ↓e_ald6, ↓e_ast6, ↓e_ald7, ↓e_ast7, ↓e_ald8, ↓e_ast8, ↓e_ald9, ↓e_ast9, ↓e_ald10, ↓e_ast10, ↓e_ald11, ↓e_ast11, ↓e_ald12, ↓e_ast12, ↓e_dupr, ↓e_dupi, ↓e_dup2, ↓e_dup2l, ↓e_ifeq, ↓e_icmpeq, ↓e_ifne, ↓e_icmpne, ↓e_iflt, ↓e_icmplt, ↓e_ifge, ↓e_icmpge, ↓e_ifgt, ↓e_icmpgt, ↓e_ifle, ↓e_icmple, ↓e_goto, ↓e_tsw, ↓e_case0, ↓e_case1, ↓e_iret, ↓e_zret, ↓e_lret, ↓e_fret, ↓e_vret, ↓e_ok0, ↓e_ok1, ↓e_ok2, ↓e_ok4, ↓e_ok5, ↓e_ok6, ↓e_ok7, ↓e_ok8, ↓e_ok9, ↓e_ok3, ↓e_ok10, ↓e_ok11, ↓e_ok15, ↓e_ok16, ↓e_ok12, ↓e_ok13, ↓e_ok14, ↓e_ok17, ↓e_ok18, ↓e_ok19, ↓e_ok20, ↓e_ok21, ↓e_ok22, ↓e_ok23, ↓e_get_0_0, ↓e_get_0_1, ↓e_get_0_2, ↓e_get_0_3, ↓e_get_0_4, ↓e_get_0_5, ↓e_get_0_6, ↓e_get_0_7, ↓e_get_0_8, ↓e_get_0_9, ↓e_get_0_10, ↓e_puti_0, ↓e_putz_0, ↓e_putl_0, ↓e_get_10_0, ↓e_get_10_1, ↓e_get_10_2, ↓e_get_10_3, ↓e_get_10_4, ↓e_get_10_5, ↓e_puti_10, ↓e_putz_10, ↓e_putl_10, ↓e_get_12_0, ↓e_get_12_1, ↓e_get_12_2, ↓e_get_12_3, ↓e_puti_12, ↓e_putz_12, ↓e_putl_12, ↓e_get_18_0, ↓e_get_18_1, ↓e_puti_18, ↓e_putz_18, ↓e_putl_18, ↓e_get_21_0, ↓e_get_21_1, ↓e_puti_21, ↓e_putz_21, ↓e_putl_21, ↓e_get_23_0, ↓e_get_23_1, ↓e_get_23_2, ↓e_get_23_3, ↓e_get_23_4, ↓e_puti_23, ↓e_putz_23, ↓e_putl_23, ↓e_iald_1, ↓e_iast_1, ↓e_iald_3, ↓e_iast_3, ↓e_iald_9, ↓e_iast_9, ↓e_iald_11, ↓e_iast_11, ↓e_lald_4, ↓e_last_4, ↓e_lald_5, ↓e_last_5, ↓e_lald_6, ↓e_last_6, ↓e_lald_7, ↓e_last_7, ↓e_lald_15, ↓e_last_15, ↓e_lald_16, ↓e_last_16, ↓e_lald_17, ↓e_last_17, ↓e_lald_19, ↓e_last_19, ↓e_lald_20, ↓e_last_20, ↓e_aald_2, ↓e_aald_8, ↓e_aald_13, ↓e_aald_14, ↓e_aald_22, ↓e_aast, ↓e_acpi, ↓e_acpl, ↓e_mabs, ↓e_mabsl, ↓e_mmin, ↓e_mmax, ↓e_gets34, ↓e_sald34, ↓e_gets35, ↓e_sald35, ↓e_gets36, ↓e_sald36, ↓e_gets37, ↓e_sald37, ↓e_cats0, ↓e_cats_i, ↓e_cats_l, ↓e_cats_f, ↓e_cats_d, ↓e_cats_a, ↓e_callS0, ↓e_callV0, ↓e_callS1, ↓e_callV1, ↓e_callS2, ↓e_callV2, ↓e_callS3, ↓e_callV3, ↓e_callS4, ↓e_callV4, ↓e_callS5, ↓e_callV5, ↓e_callS6, ↓e_callV6, ↓e_tl1, ↓e_tl0, ↓zi_0_3, ↓zi_1_3, ↓zi_2_3, ↓zi_0_4, ↓zi_1_4, ↓zi_2_4, ↓zi_3_4, ↓zi_0_5, ↓zi_1_5, ↓zi_2_5, ↓zi_3_5, ↓zi_4_5, ↓zi_0_6, ↓zi_1_6, ↓zi_2_6, ↓zi_3_6, ↓zi_4_6, ↓zi_5_6, ↓zi_0_7, ↓zi_1_7, ↓zi_2_7, ↓zi_3_7, ↓zi_4_7, ↓zi_5_7, ↓zi_0_8, ↓zi_1_8, ↓zi_2_8, ↓zi_3_8, ↓zi_4_8, ↓zi_5_8, ↓zi_0_9, ↓zi_1_9, ↓zi_2_9, ↓zi_3_9, ↓zi_4_9, ↓zi_5_9, ↓zi_0_10, ↓zi_1_10, ↓zi_2_10, ↓zi_3_10, ↓zi_4_10, ↓zi_5_10, ↓zc_0, ↓zc_1, ↓s_X3_spans, ↓s_X0_tellNoSpan, ↓s_X0_tellMet, ↓s_X3_aim, ↓s_X3_give, q_cmp_lt, q_cmp_ge, q_cmp_gt, q_cmp_le, q_cmp_eq, q_cmp_i32, q_b_i32, q_b_0, ↓q_b01, true_and, and_true, true_implies, Nat.reduceAdd, Nat.reduceLeDiff, Int.reduceNeg, eq_self, or_true, true_or, implies_true]
      generalize hT : q_sT σ c (fun s => σ 0 16 s 0 * σ c 7 0 0 + σ 0 16 s 1 * σ c 7 0 1 + σ 0 16 s 2 * σ c 7 0 2) (q_gvs W w W) = T
      have eT : ∀ p k s, p ≤ 11 → T c p k s = q_gvs W w W p k s := fun p k s hp => by
        rw [← hT]
        show (if p = 17 then _ else _) = _
        rw [if_neg (by omega), q_put_in hp]
      have t001 : T c 0 0 1 = σ c 0 0 1 := by rw [eT _ _ _ (by decide), q_gvs_same (by omega), w001]
      have t103 : T c 10 w 3 = σ c 10 w 3 := by rw [eT _ _ _ (by decide), q_gvs_same (by omega), w103]
      have t11 : ∀ k s, T c 11 k s = σ c 11 k s := fun k s => by rw [eT _ _ _ (by decide), q_gvs_same (by omega), w11]
      have t12 : T 0 12 0 0 = q_det (σ c) (-2000009) := by rw [← hT, ← hM1]; show q_put _ _ _ _ _ _ _ = _; exact q_put_hi (by decide)
      have t17 : ∀ i, q_in i 3 → T 0 17 0 i = q_cof (σ c) (-2000009) i 0 * σ c 7 0 0 + q_cof (σ c) (-2000009) i 1 * σ c 7 0 1 + q_cof (σ c) (-2000009) i 2 * σ c 7 0 2 := fun i hi => by
        rw [← hT]
        show σ 0 16 i 0 * _ + σ 0 16 i 1 * _ + σ 0 16 i 2 * _ = _
        rw [hM2 i 0 hi ⟨by decide, by decide⟩, hM2 i 1 hi ⟨by decide, by decide⟩, hM2 i 2 hi ⟨by decide, by decide⟩]
      have i0 : q_in 0 3 := ⟨by decide, by decide⟩
      have i1 : q_in 1 3 := ⟨by decide, by decide⟩
      have i2 : q_in 2 3 := ⟨by decide, by decide⟩
      have gI : q_Inv n (q_gvs W w W) := hWI.gvs w (by omega)
      have tI := gI.whl hk
      have hax : ∀ i, q_in i 3 → -100000 ≤ σ c 7 0 i ∧ σ c 7 0 i ≤ 100000 := fun i hi => (hI.axs hi).2.2.2
      have hab : ∀ i, q_in i 3 → -142000000000 ≤ T 0 17 0 i ∧ T 0 17 0 i ≤ 142000000000 := fun i hi => by
        rw [t17 i hi]
        exact q_asum_bd (q_cof_bd hI.cnt hI.dir _ _ _) (q_cof_bd hI.cnt hI.dir _ _ _) (q_cof_bd hI.cnt hI.dir _ _ _) (hax 0 i0) (hax 1 i1) (hax 2 i2)
      have hdw : ∀ i, q_in i 3 → -9 ≤ T c 11 w i ∧ T c 11 w i ≤ 9 := fun i hi => by rw [t11]; exact hI.dir w hk i hi
      have hsb := q_wsum_bd (hdw 0 i0) (hdw 1 i1) (hdw 2 i2) (hab 0 i0) (hab 1 i1) (hab 2 i2)
      have hpos' : 0 < q_det (σ c) (-2000009) := by omega
      have ewo : q_wo T c w = q_wsh W w (W 7 0 0) (W 7 0 1) (W 7 0 2) := by
        unfold q_wo q_wsh
        dsimp only
        rw [t12, if_pos hpos', edet, t11, t11, t11, t17 0 i0, t17 1 i1, t17 2 i2, w11, w11, w11, w7, w7, w7]
        simp only [ecof]
      have hwb : -9000000000000 ≤ q_wo T c w ∧ q_wo T c w ≤ 9000000000000 := by
        unfold q_wo
        rw [t12, if_pos hpos']
        exact q_div_bd ⟨by omega, by omega⟩ (by omega)
      have t10 : ∀ s, T c 10 w s = q_gvs W w W 10 w s := fun s => eT _ _ _ (by decide)
      have t9 : T c 9 0 0 = q_gvs W w W 9 0 0 := eT _ _ _ (by decide)
      have h9 := gI.rs i0
      have hfl : σ c 10 w 3 = 0 ∨ σ c 10 w 3 = 1 := hI.fl w hk
      simp only [hc, hk, true_and, t001, t103]
      refine ⟨Or.inr ⟨⟨by omega, by omega⟩, ⟨by omega, by omega⟩⟩, fun q => absurd q (by omega), fun _ => ⟨⟨by omega, by omega⟩, fun q => ?_, fun q => ⟨⟨⟨by omega, by omega⟩, ⟨by rw [t12]; omega, by rw [t12]; omega⟩, ⟨by rw [t12]; omega, by rw [t12]; omega⟩, hdw, by rw [t10]; exact tI.2.1, by rw [t10]; exact tI.2.2.1, by rw [t10]; exact tI.2.2.2.1, ⟨by rw [t9]; omega, by rw [t9]; omega⟩⟩, ?_⟩⟩⟩
      · have e : q_gvs W (w + 1) W = q_gvs W w W := by
          show (if W 10 w 3 = 0 then _ else _) = _
          rw [w103, if_neg q]
        rw [e, hT] at g
        exact g
      · refine hC _ _ _ _ _ _ ?_ (q_sub.rf _) g
        have e : q_gvs W (w + 1) W = q_gv (q_gvs W w W) w (q_wsh W w (W 7 0 0) (W 7 0 1) (W 7 0 2)) := by
          show (if W 10 w 3 = 0 then _ else _) = _
          rw [w103, if_pos q]
        rw [e, ewo]
        intro c' p k s _ _ _
        by_cases z : c' = c ∧ p ≤ 11
        · obtain ⟨rfl, z⟩ := z
          rw [q_put_in z]
          show _ = (if p = 17 then _ else _)
          rw [if_neg (by omega), q_put_in z]
          exact q_gv_c11 (fun p k s hp => eT p k s hp) p k s z
        · show (if _ then _ else _) = (if p = 17 then _ else (if _ then _ else _))
          rw [if_neg z, if_neg z, ← hT]
          show (if p = 17 then _ else (if _ then _ else _)) = _
          rw [if_neg z]
  have l2 : ∀ (d w : Nat), w + d = (σ c 0 0 1).toNat → X 2 (q_h1 σ c w) [some (zR 0 12 0), some (zR c 0 0), some (zI w)] [] := by
    intro d
    induction d with
    | zero =>
      intro w hw
      have e1 : q_h1 σ c w = q_put σ c (q_g0 (σ c)) := by
        funext c' p k s
        unfold q_h1 q_put q_g0
        by_cases z : c' = c ∧ p ≤ 11
        · rw [if_pos z]
          obtain ⟨rfl, z⟩ := z
          by_cases y : p = 10 ∧ s = 4 ∧ 0 ≤ k ∧ k < σ c' 0 0 1
          · rw [if_pos y, if_pos (by omega)]
          · rw [if_neg y, if_neg (by omega)]
        · rw [if_neg z, if_neg (by omega)]
      rw [e1]
      apply h2
      simp only [↓k_X3_share_0, ↓k_X3_share_38, ↓k_X3_share_26, ↓k_X3_share_2, ↓k_X3_share_98, ↓k_X3_share_92, ↓k_X3_share_66, ↓e_iadd, ↓e_isub, ↓e_imul, ↓e_ladd, ↓e_lsub, ↓e_lmul, ↓e_ineg, ↓e_lneg, ↓e_i2l, ↓e_l2i, ↓e_lcmp, ↓e_i2f, ↓e_l2f, ↓e_fdiv, ↓e_f2d, ↓e_fcmpl, ↓e_dcmpl, ↓e_ldiv, ↓e_lrem, ↓e_idiv, ↓e_irem, ↓e_lxor, ↓e_ishl, ↓e_ior, ↓e_iand, ↓e_ishr, ↓e_ic, ↓e_lc, ↓e_fc, ↓e_kl_i, ↓e_kl_r, ↓e_kl_f, ↓e_kl_n, ↓e_kl_l, ↓e_kl_d, ↓e_ild0, ↓e_ist0, ↓e_ild1, ↓e_ist1, ↓e_ild2, ↓e_ist2, ↓e_ild3, ↓e_ist3, ↓e_ild4, ↓e_ist4, ↓e_ild5, ↓e_ist5, ↓e_ild6, ↓e_ist6, ↓e_ild7, ↓e_ist7, ↓e_ild8, ↓e_ist8, ↓e_ild9, ↓e_ist9, ↓e_ild10, ↓e_ist10, ↓e_ild11, ↓e_ist11, ↓e_ild12, ↓e_ist12, ↓e_inc0, ↓e_inc1, ↓e_inc2, ↓e_inc3, ↓e_inc4, ↓e_inc5, ↓e_inc6, ↓e_inc7, ↓e_inc8, ↓e_inc9, ↓e_inc10, ↓e_inc11, ↓e_inc12, ↓e_lld0, ↓e_lst0, ↓e_lld1, ↓e_lst1, ↓e_lld2, ↓e_lst2, ↓e_lld3, ↓e_lst3, ↓e_lld4, ↓e_lst4, ↓e_lld5, ↓e_lst5, ↓e_lld6, ↓e_lst6, ↓e_lld7, ↓e_lst7, ↓e_lld8, ↓e_lst8, ↓e_lld9, ↓e_lst9, ↓e_lld10, ↓e_lst10, ↓e_lld11, ↓e_lst11, ↓e_lld12, ↓e_lst12, ↓e_fld0, ↓e_fst0, ↓e_fld1, ↓e_fst1, ↓e_fld2, ↓e_fst2, ↓e_fld3, ↓e_fst3, ↓e_fld4, ↓e_fst4, ↓e_fld5, ↓e_fst5, ↓e_fld6, ↓e_fst6, ↓e_fld7, ↓e_fst7, ↓e_fld8, ↓e_fst8, ↓e_fld9, ↓e_fst9, ↓e_fld10, ↓e_fst10, ↓e_fld11, ↓e_fst11, ↓e_fld12, ↓e_fst12, ↓e_dld0, ↓e_dst0, ↓e_dld1, ↓e_dst1, ↓e_dld2, ↓e_dst2, ↓e_dld3, ↓e_dst3, ↓e_dld4, ↓e_dst4, ↓e_dld5, ↓e_dst5, ↓e_dld6, ↓e_dst6, ↓e_dld7, ↓e_dst7, ↓e_dld8, ↓e_dst8, ↓e_dld9, ↓e_dst9, ↓e_dld10, ↓e_dst10, ↓e_dld11, ↓e_dst11, ↓e_dld12, ↓e_dst12, ↓e_ald0, ↓e_ast0, ↓e_ald1, ↓e_ast1, ↓e_ald2, ↓e_ast2, ↓e_ald3, ↓e_ast3, ↓e_ald4, ↓e_ast4, ↓e_ald5, ↓e_ast5, ↓e_ald6, ↓e_ast6, ↓e_ald7, ↓e_ast7, ↓e_ald8, ↓e_ast8, ↓e_ald9, ↓e_ast9, ↓e_ald10, ↓e_ast10, ↓e_ald11, ↓e_ast11, ↓e_ald12, ↓e_ast12, ↓e_dupr, ↓e_dupi, ↓e_dup2, ↓e_dup2l, ↓e_ifeq, ↓e_icmpeq, ↓e_ifne, ↓e_icmpne, ↓e_iflt, ↓e_icmplt, ↓e_ifge, ↓e_icmpge, ↓e_ifgt, ↓e_icmpgt, ↓e_ifle, ↓e_icmple, ↓e_goto, ↓e_tsw, ↓e_case0, ↓e_case1, ↓e_iret, ↓e_zret, ↓e_lret, ↓e_fret, ↓e_vret, ↓e_ok0, ↓e_ok1, ↓e_ok2, ↓e_ok4, ↓e_ok5, ↓e_ok6, ↓e_ok7, ↓e_ok8, ↓e_ok9, ↓e_ok3, ↓e_ok10, ↓e_ok11, ↓e_ok15, ↓e_ok16, ↓e_ok12, ↓e_ok13, ↓e_ok14, ↓e_ok17, ↓e_ok18, ↓e_ok19, ↓e_ok20, ↓e_ok21, ↓e_ok22, ↓e_ok23, ↓e_get_0_0, ↓e_get_0_1, ↓e_get_0_2, ↓e_get_0_3, ↓e_get_0_4, ↓e_get_0_5, ↓e_get_0_6, ↓e_get_0_7, ↓e_get_0_8, ↓e_get_0_9, ↓e_get_0_10, ↓e_puti_0, ↓e_putz_0, ↓e_putl_0, ↓e_get_10_0, ↓e_get_10_1, ↓e_get_10_2, ↓e_get_10_3, ↓e_get_10_4, ↓e_get_10_5, ↓e_puti_10, ↓e_putz_10, ↓e_putl_10, ↓e_get_12_0, ↓e_get_12_1, ↓e_get_12_2, ↓e_get_12_3, ↓e_puti_12, ↓e_putz_12, ↓e_putl_12, ↓e_get_18_0, ↓e_get_18_1, ↓e_puti_18, ↓e_putz_18, ↓e_putl_18, ↓e_get_21_0, ↓e_get_21_1, ↓e_puti_21, ↓e_putz_21, ↓e_putl_21, ↓e_get_23_0, ↓e_get_23_1, ↓e_get_23_2, ↓e_get_23_3, ↓e_get_23_4, ↓e_puti_23, ↓e_putz_23, ↓e_putl_23, ↓e_iald_1, ↓e_iast_1, ↓e_iald_3, ↓e_iast_3, ↓e_iald_9, ↓e_iast_9, ↓e_iald_11, ↓e_iast_11, ↓e_lald_4, ↓e_last_4, ↓e_lald_5, ↓e_last_5, ↓e_lald_6, ↓e_last_6, ↓e_lald_7, ↓e_last_7, ↓e_lald_15, ↓e_last_15, ↓e_lald_16, ↓e_last_16, ↓e_lald_17, ↓e_last_17, ↓e_lald_19, ↓e_last_19, ↓e_lald_20, ↓e_last_20, ↓e_aald_2, ↓e_aald_8, ↓e_aald_13, ↓e_aald_14, ↓e_aald_22, ↓e_aast, ↓e_acpi, ↓e_acpl, ↓e_mabs, ↓e_mabsl, ↓e_mmin, ↓e_mmax, ↓e_gets34, ↓e_sald34, ↓e_gets35, ↓e_sald35, ↓e_gets36, ↓e_sald36, ↓e_gets37, ↓e_sald37, ↓e_cats0, ↓e_cats_i, ↓e_cats_l, ↓e_cats_f, ↓e_cats_d, ↓e_cats_a, ↓e_callS0, ↓e_callV0, ↓e_callS1, ↓e_callV1, ↓e_callS2, ↓e_callV2, ↓e_callS3, ↓e_callV3, ↓e_callS4, ↓e_callV4, ↓e_callS5, ↓e_callV5, ↓e_callS6, ↓e_callV6, ↓e_tl1, ↓e_tl0, ↓zi_0_3, ↓zi_1_3, ↓zi_2_3, ↓zi_0_4, ↓zi_1_4, ↓zi_2_4, ↓zi_3_4, ↓zi_0_5, ↓zi_1_5, ↓zi_2_5, ↓zi_3_5, ↓zi_4_5, ↓zi_0_6, ↓zi_1_6, ↓zi_2_6, ↓zi_3_6, ↓zi_4_6, ↓zi_5_6, ↓zi_0_7, ↓zi_1_7, ↓zi_2_7, ↓zi_3_7, ↓zi_4_7, ↓zi_5_7, ↓zi_0_8, ↓zi_1_8, ↓zi_2_8, ↓zi_3_8, ↓zi_4_8, ↓zi_5_8, ↓zi_0_9, ↓zi_1_9, ↓zi_2_9, ↓zi_3_9, ↓zi_4_9, ↓zi_5_9, ↓zi_0_10, ↓zi_1_10, ↓zi_2_10, ↓zi_3_10, ↓zi_4_10, ↓zi_5_10, ↓zc_0, ↓zc_1, ↓s_X3_spans, ↓s_X0_tellNoSpan, ↓s_X0_tellMet, ↓s_X3_aim, ↓s_X3_give, q_cmp_lt, q_cmp_ge, q_cmp_gt, q_cmp_le, q_cmp_eq, q_cmp_i32, q_b_i32, q_b_0, ↓q_b01, true_and, and_true, true_implies, Nat.reduceAdd, Nat.reduceLeDiff, Int.reduceNeg, eq_self, or_true, true_or, implies_true]
      have es : q_put σ c (q_g0 (σ c)) c = q_g0 (σ c) := q_put_self (fun p k s hp => q_g0_hi hp)
      have e12 : q_put σ c (q_g0 (σ c)) 0 12 0 0 = σ 0 12 0 0 := q_put_hi (by decide)
      rw [es, e12, q_put_put, q_put_put, hW]
      have ec : q_g0 (σ c) 0 0 1 = σ c 0 0 1 := rfl
      rw [ec, hM1]
      rw [hM1] at l66
      have gI := hI.g0
      simp only [hc, true_and]
      refine ⟨Or.inl (by omega), fun _ => ⟨⟨by omega, by omega⟩, fun q => ?_, fun q => ⟨⟨⟨by omega, by omega⟩, fun k hk => ?_⟩, ?_⟩⟩, fun q => absurd q (by omega)⟩
      · have hp := Decidable.not_not.mp q
        have g := l66 hp _ 0 (Nat.zero_add _)
        refine hC _ _ _ _ _ _ ?_ (q_sub.rf _) g
        rw [q_put_in (by decide), q_put_in (by decide), q_put_in (by decide), w7, w7, w7]
        intro c' p k s _ _ _
        unfold q_aim q_sT
        by_cases z : p = 17
        · rw [if_pos z, if_pos z, q_put_hi (by decide), q_put_hi (by decide), q_put_hi (by decide)]
        · rw [if_neg z, if_neg z]
          rfl
      · have := gI.fl k hk
        exact ⟨by omega, by omega⟩
      · refine q_out.i (h _ ?_)
        have e : q_sh (σ c) = q_tn (q_g0 (σ c)) := by
          unfold q_sh
          rw [if_neg q]
        rw [e]
        intro c' p k s _ _ _
        rfl
    | succ d ih =>
      intro w hw
      have g := ih (w + 1) (by omega)
      have hk : q_in (w : Int) 6 := ⟨by omega, by omega⟩
      apply h2
      simp only [↓k_X3_share_0, ↓k_X3_share_38, ↓k_X3_share_26, ↓k_X3_share_2, ↓k_X3_share_98, ↓k_X3_share_92, ↓k_X3_share_66, ↓e_iadd, ↓e_isub, ↓e_imul, ↓e_ladd, ↓e_lsub, ↓e_lmul, ↓e_ineg, ↓e_lneg, ↓e_i2l, ↓e_l2i, ↓e_lcmp, ↓e_i2f, ↓e_l2f, ↓e_fdiv, ↓e_f2d, ↓e_fcmpl, ↓e_dcmpl, ↓e_ldiv, ↓e_lrem, ↓e_idiv, ↓e_irem, ↓e_lxor, ↓e_ishl, ↓e_ior, ↓e_iand, ↓e_ishr, ↓e_ic, ↓e_lc, ↓e_fc, ↓e_kl_i, ↓e_kl_r, ↓e_kl_f, ↓e_kl_n, ↓e_kl_l, ↓e_kl_d, ↓e_ild0, ↓e_ist0, ↓e_ild1, ↓e_ist1, ↓e_ild2, ↓e_ist2, ↓e_ild3, ↓e_ist3, ↓e_ild4, ↓e_ist4, ↓e_ild5, ↓e_ist5, ↓e_ild6, ↓e_ist6, ↓e_ild7, ↓e_ist7, ↓e_ild8, ↓e_ist8, ↓e_ild9, ↓e_ist9, ↓e_ild10, ↓e_ist10, ↓e_ild11, ↓e_ist11, ↓e_ild12, ↓e_ist12, ↓e_inc0, ↓e_inc1, ↓e_inc2, ↓e_inc3, ↓e_inc4, ↓e_inc5, ↓e_inc6, ↓e_inc7, ↓e_inc8, ↓e_inc9, ↓e_inc10, ↓e_inc11, ↓e_inc12, ↓e_lld0, ↓e_lst0, ↓e_lld1, ↓e_lst1, ↓e_lld2, ↓e_lst2, ↓e_lld3, ↓e_lst3, ↓e_lld4, ↓e_lst4, ↓e_lld5, ↓e_lst5, ↓e_lld6, ↓e_lst6, ↓e_lld7, ↓e_lst7, ↓e_lld8, ↓e_lst8, ↓e_lld9, ↓e_lst9, ↓e_lld10, ↓e_lst10, ↓e_lld11, ↓e_lst11, ↓e_lld12, ↓e_lst12, ↓e_fld0, ↓e_fst0, ↓e_fld1, ↓e_fst1, ↓e_fld2, ↓e_fst2, ↓e_fld3, ↓e_fst3, ↓e_fld4, ↓e_fst4, ↓e_fld5, ↓e_fst5, ↓e_fld6, ↓e_fst6, ↓e_fld7, ↓e_fst7, ↓e_fld8, ↓e_fst8, ↓e_fld9, ↓e_fst9, ↓e_fld10, ↓e_fst10, ↓e_fld11, ↓e_fst11, ↓e_fld12, ↓e_fst12, ↓e_dld0, ↓e_dst0, ↓e_dld1, ↓e_dst1, ↓e_dld2, ↓e_dst2, ↓e_dld3, ↓e_dst3, ↓e_dld4, ↓e_dst4, ↓e_dld5, ↓e_dst5, ↓e_dld6, ↓e_dst6, ↓e_dld7, ↓e_dst7, ↓e_dld8, ↓e_dst8, ↓e_dld9, ↓e_dst9, ↓e_dld10, ↓e_dst10, ↓e_dld11, ↓e_dst11, ↓e_dld12, ↓e_dst12, ↓e_ald0, ↓e_ast0, ↓e_ald1, ↓e_ast1, ↓e_ald2, ↓e_ast2, ↓e_ald3, ↓e_ast3, ↓e_ald4, ↓e_ast4, ↓e_ald5, ↓e_ast5, ↓e_ald6, ↓e_ast6, ↓e_ald7, ↓e_ast7, ↓e_ald8, ↓e_ast8, ↓e_ald9, ↓e_ast9, ↓e_ald10, ↓e_ast10, ↓e_ald11, ↓e_ast11, ↓e_ald12, ↓e_ast12, ↓e_dupr, ↓e_dupi, ↓e_dup2, ↓e_dup2l, ↓e_ifeq, ↓e_icmpeq, ↓e_ifne, ↓e_icmpne, ↓e_iflt, ↓e_icmplt, ↓e_ifge, ↓e_icmpge, ↓e_ifgt, ↓e_icmpgt, ↓e_ifle, ↓e_icmple, ↓e_goto, ↓e_tsw, ↓e_case0, ↓e_case1, ↓e_iret, ↓e_zret, ↓e_lret, ↓e_fret, ↓e_vret, ↓e_ok0, ↓e_ok1, ↓e_ok2, ↓e_ok4, ↓e_ok5, ↓e_ok6, ↓e_ok7, ↓e_ok8, ↓e_ok9, ↓e_ok3, ↓e_ok10, ↓e_ok11, ↓e_ok15, ↓e_ok16, ↓e_ok12, ↓e_ok13, ↓e_ok14, ↓e_ok17, ↓e_ok18, ↓e_ok19, ↓e_ok20, ↓e_ok21, ↓e_ok22, ↓e_ok23, ↓e_get_0_0, ↓e_get_0_1, ↓e_get_0_2, ↓e_get_0_3, ↓e_get_0_4, ↓e_get_0_5, ↓e_get_0_6, ↓e_get_0_7, ↓e_get_0_8, ↓e_get_0_9, ↓e_get_0_10, ↓e_puti_0, ↓e_putz_0, ↓e_putl_0, ↓e_get_10_0, ↓e_get_10_1, ↓e_get_10_2, ↓e_get_10_3, ↓e_get_10_4, ↓e_get_10_5, ↓e_puti_10, ↓e_putz_10, ↓e_putl_10, ↓e_get_12_0, ↓e_get_12_1, ↓e_get_12_2, ↓e_get_12_3, ↓e_puti_12, ↓e_putz_12, ↓e_putl_12, ↓e_get_18_0, ↓e_get_18_1, ↓e_puti_18, ↓e_putz_18, ↓e_putl_18, ↓e_get_21_0, ↓e_get_21_1, ↓e_puti_21, ↓e_putz_21, ↓e_putl_21, ↓e_get_23_0, ↓e_get_23_1, ↓e_get_23_2, ↓e_get_23_3, ↓e_get_23_4, ↓e_puti_23, ↓e_putz_23, ↓e_putl_23, ↓e_iald_1, ↓e_iast_1, ↓e_iald_3, ↓e_iast_3, ↓e_iald_9, ↓e_iast_9, ↓e_iald_11, ↓e_iast_11, ↓e_lald_4, ↓e_last_4, ↓e_lald_5, ↓e_last_5, ↓e_lald_6, ↓e_last_6, ↓e_lald_7, ↓e_last_7, ↓e_lald_15, ↓e_last_15, ↓e_lald_16, ↓e_last_16, ↓e_lald_17, ↓e_last_17, ↓e_lald_19, ↓e_last_19, ↓e_lald_20, ↓e_last_20, ↓e_aald_2, ↓e_aald_8, ↓e_aald_13, ↓e_aald_14, ↓e_aald_22, ↓e_aast, ↓e_acpi, ↓e_acpl, ↓e_mabs, ↓e_mabsl, ↓e_mmin, ↓e_mmax, ↓e_gets34, ↓e_sald34, ↓e_gets35, ↓e_sald35, ↓e_gets36, ↓e_sald36, ↓e_gets37, ↓e_sald37, ↓e_cats0, ↓e_cats_i, ↓e_cats_l, ↓e_cats_f, ↓e_cats_d, ↓e_cats_a, ↓e_callS0, ↓e_callV0, ↓e_callS1, ↓e_callV1, ↓e_callS2, ↓e_callV2, ↓e_callS3, ↓e_callV3, ↓e_callS4, ↓e_callV4, ↓e_callS5, ↓e_callV5, ↓e_callS6, ↓e_callV6, ↓e_tl1, ↓e_tl0, ↓zi_0_3, ↓zi_1_3, ↓zi_2_3, ↓zi_0_4, ↓zi_1_4, ↓zi_2_4, ↓zi_3_4, ↓zi_0_5, ↓zi_1_5, ↓zi_2_5, ↓zi_3_5, ↓zi_4_5, ↓zi_0_6, ↓zi_1_6, ↓zi_2_6, ↓zi_3_6, ↓zi_4_6, ↓zi_5_6, ↓zi_0_7, ↓zi_1_7, ↓zi_2_7, ↓zi_3_7, ↓zi_4_7, ↓zi_5_7, ↓zi_0_8, ↓zi_1_8, ↓zi_2_8, ↓zi_3_8, ↓zi_4_8, ↓zi_5_8, ↓zi_0_9, ↓zi_1_9, ↓zi_2_9, ↓zi_3_9, ↓zi_4_9, ↓zi_5_9, ↓zi_0_10, ↓zi_1_10, ↓zi_2_10, ↓zi_3_10, ↓zi_4_10, ↓zi_5_10, ↓zc_0, ↓zc_1, ↓s_X3_spans, ↓s_X0_tellNoSpan, ↓s_X0_tellMet, ↓s_X3_aim, ↓s_X3_give, q_cmp_lt, q_cmp_ge, q_cmp_gt, q_cmp_le, q_cmp_eq, q_cmp_i32, q_b_i32, q_b_0, ↓q_b01, true_and, and_true, true_implies, Nat.reduceAdd, Nat.reduceLeDiff, Int.reduceNeg, eq_self, or_true, true_or, implies_true]
      have e1 : q_h1 σ c w c 0 0 1 = σ c 0 0 1 := by simp [q_h1]
      simp only [hc, hk, true_and, e1]
      refine ⟨Or.inr ⟨⟨by omega, by omega⟩, ⟨by omega, by omega⟩⟩, fun q => absurd q (by omega), fun _ => ?_⟩
      refine hC _ _ _ _ _ _ ?_ (q_sub.rf _) g
      (intro c' p' k' s' hok' hs0' hs1'; obtain ⟨lc0, lc1, lk0, ls0, hl'⟩ := q_live hok' hs0' hs1'; clear hok' hs0' hs1'; rcases hl' with hl' | hl' | hl' | hl' | hl' | hl' | hl' | hl' | hl' | hl' | hl' | hl' | hl' | hl' | hl' | hl' | hl' | hl' | hl'; all_goals (obtain ⟨rfl, hl'⟩ := hl'; (try simp only [q_wr, q_h1]); (try grind)))
  apply h0
  simp only [↓k_X3_share_0, ↓k_X3_share_38, ↓k_X3_share_26, ↓k_X3_share_2, ↓k_X3_share_98, ↓k_X3_share_92, ↓k_X3_share_66, ↓e_iadd, ↓e_isub, ↓e_imul, ↓e_ladd, ↓e_lsub, ↓e_lmul, ↓e_ineg, ↓e_lneg, ↓e_i2l, ↓e_l2i, ↓e_lcmp, ↓e_i2f, ↓e_l2f, ↓e_fdiv, ↓e_f2d, ↓e_fcmpl, ↓e_dcmpl, ↓e_ldiv, ↓e_lrem, ↓e_idiv, ↓e_irem, ↓e_lxor, ↓e_ishl, ↓e_ior, ↓e_iand, ↓e_ishr, ↓e_ic, ↓e_lc, ↓e_fc, ↓e_kl_i, ↓e_kl_r, ↓e_kl_f, ↓e_kl_n, ↓e_kl_l, ↓e_kl_d, ↓e_ild0, ↓e_ist0, ↓e_ild1, ↓e_ist1, ↓e_ild2, ↓e_ist2, ↓e_ild3, ↓e_ist3, ↓e_ild4, ↓e_ist4, ↓e_ild5, ↓e_ist5, ↓e_ild6, ↓e_ist6, ↓e_ild7, ↓e_ist7, ↓e_ild8, ↓e_ist8, ↓e_ild9, ↓e_ist9, ↓e_ild10, ↓e_ist10, ↓e_ild11, ↓e_ist11, ↓e_ild12, ↓e_ist12, ↓e_inc0, ↓e_inc1, ↓e_inc2, ↓e_inc3, ↓e_inc4, ↓e_inc5, ↓e_inc6, ↓e_inc7, ↓e_inc8, ↓e_inc9, ↓e_inc10, ↓e_inc11, ↓e_inc12, ↓e_lld0, ↓e_lst0, ↓e_lld1, ↓e_lst1, ↓e_lld2, ↓e_lst2, ↓e_lld3, ↓e_lst3, ↓e_lld4, ↓e_lst4, ↓e_lld5, ↓e_lst5, ↓e_lld6, ↓e_lst6, ↓e_lld7, ↓e_lst7, ↓e_lld8, ↓e_lst8, ↓e_lld9, ↓e_lst9, ↓e_lld10, ↓e_lst10, ↓e_lld11, ↓e_lst11, ↓e_lld12, ↓e_lst12, ↓e_fld0, ↓e_fst0, ↓e_fld1, ↓e_fst1, ↓e_fld2, ↓e_fst2, ↓e_fld3, ↓e_fst3, ↓e_fld4, ↓e_fst4, ↓e_fld5, ↓e_fst5, ↓e_fld6, ↓e_fst6, ↓e_fld7, ↓e_fst7, ↓e_fld8, ↓e_fst8, ↓e_fld9, ↓e_fst9, ↓e_fld10, ↓e_fst10, ↓e_fld11, ↓e_fst11, ↓e_fld12, ↓e_fst12, ↓e_dld0, ↓e_dst0, ↓e_dld1, ↓e_dst1, ↓e_dld2, ↓e_dst2, ↓e_dld3, ↓e_dst3, ↓e_dld4, ↓e_dst4, ↓e_dld5, ↓e_dst5, ↓e_dld6, ↓e_dst6, ↓e_dld7, ↓e_dst7, ↓e_dld8, ↓e_dst8, ↓e_dld9, ↓e_dst9, ↓e_dld10, ↓e_dst10, ↓e_dld11, ↓e_dst11, ↓e_dld12, ↓e_dst12, ↓e_ald0, ↓e_ast0, ↓e_ald1, ↓e_ast1, ↓e_ald2, ↓e_ast2, ↓e_ald3, ↓e_ast3, ↓e_ald4, ↓e_ast4, ↓e_ald5, ↓e_ast5, ↓e_ald6, ↓e_ast6, ↓e_ald7, ↓e_ast7, ↓e_ald8, ↓e_ast8, ↓e_ald9, ↓e_ast9, ↓e_ald10, ↓e_ast10, ↓e_ald11, ↓e_ast11, ↓e_ald12, ↓e_ast12, ↓e_dupr, ↓e_dupi, ↓e_dup2, ↓e_dup2l, ↓e_ifeq, ↓e_icmpeq, ↓e_ifne, ↓e_icmpne, ↓e_iflt, ↓e_icmplt, ↓e_ifge, ↓e_icmpge, ↓e_ifgt, ↓e_icmpgt, ↓e_ifle, ↓e_icmple, ↓e_goto, ↓e_tsw, ↓e_case0, ↓e_case1, ↓e_iret, ↓e_zret, ↓e_lret, ↓e_fret, ↓e_vret, ↓e_ok0, ↓e_ok1, ↓e_ok2, ↓e_ok4, ↓e_ok5, ↓e_ok6, ↓e_ok7, ↓e_ok8, ↓e_ok9, ↓e_ok3, ↓e_ok10, ↓e_ok11, ↓e_ok15, ↓e_ok16, ↓e_ok12, ↓e_ok13, ↓e_ok14, ↓e_ok17, ↓e_ok18, ↓e_ok19, ↓e_ok20, ↓e_ok21, ↓e_ok22, ↓e_ok23, ↓e_get_0_0, ↓e_get_0_1, ↓e_get_0_2, ↓e_get_0_3, ↓e_get_0_4, ↓e_get_0_5, ↓e_get_0_6, ↓e_get_0_7, ↓e_get_0_8, ↓e_get_0_9, ↓e_get_0_10, ↓e_puti_0, ↓e_putz_0, ↓e_putl_0, ↓e_get_10_0, ↓e_get_10_1, ↓e_get_10_2, ↓e_get_10_3, ↓e_get_10_4, ↓e_get_10_5, ↓e_puti_10, ↓e_putz_10, ↓e_putl_10, ↓e_get_12_0, ↓e_get_12_1, ↓e_get_12_2, ↓e_get_12_3, ↓e_puti_12, ↓e_putz_12, ↓e_putl_12, ↓e_get_18_0, ↓e_get_18_1, ↓e_puti_18, ↓e_putz_18, ↓e_putl_18, ↓e_get_21_0, ↓e_get_21_1, ↓e_puti_21, ↓e_putz_21, ↓e_putl_21, ↓e_get_23_0, ↓e_get_23_1, ↓e_get_23_2, ↓e_get_23_3, ↓e_get_23_4, ↓e_puti_23, ↓e_putz_23, ↓e_putl_23, ↓e_iald_1, ↓e_iast_1, ↓e_iald_3, ↓e_iast_3, ↓e_iald_9, ↓e_iast_9, ↓e_iald_11, ↓e_iast_11, ↓e_lald_4, ↓e_last_4, ↓e_lald_5, ↓e_last_5, ↓e_lald_6, ↓e_last_6, ↓e_lald_7, ↓e_last_7, ↓e_lald_15, ↓e_last_15, ↓e_lald_16, ↓e_last_16, ↓e_lald_17, ↓e_last_17, ↓e_lald_19, ↓e_last_19, ↓e_lald_20, ↓e_last_20, ↓e_aald_2, ↓e_aald_8, ↓e_aald_13, ↓e_aald_14, ↓e_aald_22, ↓e_aast, ↓e_acpi, ↓e_acpl, ↓e_mabs, ↓e_mabsl, ↓e_mmin, ↓e_mmax, ↓e_gets34, ↓e_sald34, ↓e_gets35, ↓e_sald35, ↓e_gets36, ↓e_sald36, ↓e_gets37, ↓e_sald37, ↓e_cats0, ↓e_cats_i, ↓e_cats_l, ↓e_cats_f, ↓e_cats_d, ↓e_cats_a, ↓e_callS0, ↓e_callV0, ↓e_callS1, ↓e_callV1, ↓e_callS2, ↓e_callV2, ↓e_callS3, ↓e_callV3, ↓e_callS4, ↓e_callV4, ↓e_callS5, ↓e_callV5, ↓e_callS6, ↓e_callV6, ↓e_tl1, ↓e_tl0, ↓zi_0_3, ↓zi_1_3, ↓zi_2_3, ↓zi_0_4, ↓zi_1_4, ↓zi_2_4, ↓zi_3_4, ↓zi_0_5, ↓zi_1_5, ↓zi_2_5, ↓zi_3_5, ↓zi_4_5, ↓zi_0_6, ↓zi_1_6, ↓zi_2_6, ↓zi_3_6, ↓zi_4_6, ↓zi_5_6, ↓zi_0_7, ↓zi_1_7, ↓zi_2_7, ↓zi_3_7, ↓zi_4_7, ↓zi_5_7, ↓zi_0_8, ↓zi_1_8, ↓zi_2_8, ↓zi_3_8, ↓zi_4_8, ↓zi_5_8, ↓zi_0_9, ↓zi_1_9, ↓zi_2_9, ↓zi_3_9, ↓zi_4_9, ↓zi_5_9, ↓zi_0_10, ↓zi_1_10, ↓zi_2_10, ↓zi_3_10, ↓zi_4_10, ↓zi_5_10, ↓zc_0, ↓zc_1, ↓s_X3_spans, ↓s_X0_tellNoSpan, ↓s_X0_tellMet, ↓s_X3_aim, ↓s_X3_give, q_cmp_lt, q_cmp_ge, q_cmp_gt, q_cmp_le, q_cmp_eq, q_cmp_i32, q_b_i32, q_b_0, ↓q_b01, true_and, and_true, true_implies, Nat.reduceAdd, Nat.reduceLeDiff, Int.reduceNeg, eq_self, or_true, true_or, implies_true]
  refine hC _ _ (q_h1 σ c 0) _ _ _ ?_ (q_sub.rf _) (l2 _ 0 (Nat.zero_add _))
  (intro c' p' k' s' hok' hs0' hs1'; obtain ⟨lc0, lc1, lk0, ls0, hl'⟩ := q_live hok' hs0' hs1'; clear hok' hs0' hs1'; rcases hl' with hl' | hl' | hl' | hl' | hl' | hl' | hl' | hl' | hl' | hl' | hl' | hl' | hl' | hl' | hl' | hl' | hl' | hl' | hl'; all_goals (obtain ⟨rfl, hl'⟩ := hl'; (try simp only [q_h1]); (try grind)))
theorem v_X2_crossed {Qp : Option q_V → q_M → Prop} {X : Nat → q_K} (hC : q_C X) (h0 : ∀ (σ : q_M) (lv : q_L) (st : q_S), k_X2_crossed_0 Qp X σ lv st → X 0 σ lv st) {σ : q_M} {pl : Nat} {c w i : Int} (h : ((pl = 19 ∨ pl = 20) ∧ q_c6 c ∧ q_in w 4 ∧ q_in i 3 ∧ ∀ j, q_in j 3 → q_i32 (σ c 3 w j)) ∧ Qp (some (zL (q_cr (σ 0 pl 0) (σ c 3 w) i))) σ) : X 0 σ [some (zR 0 pl 0), some (zR c 3 w), some (zI i), none, none] [] := by
  obtain ⟨⟨hp, hc, hw, hi, hj⟩, h⟩ := h
  apply h0
  have i1 : q_in ((i + 1) % 3) 3 := ⟨by omega, by omega⟩
  have i2 : q_in ((i + 2) % 3) 3 := ⟨by omega, by omega⟩
  simp only [q_in] at hi
  rcases hp with rfl | rfl
  · simp only [↓k_X2_crossed_0, ↓e_iadd, ↓e_isub, ↓e_imul, ↓e_ladd, ↓e_lsub, ↓e_lmul, ↓e_ineg, ↓e_lneg, ↓e_i2l, ↓e_l2i, ↓e_lcmp, ↓e_i2f, ↓e_l2f, ↓e_fdiv, ↓e_f2d, ↓e_fcmpl, ↓e_dcmpl, ↓e_ldiv, ↓e_lrem, ↓e_idiv, ↓e_irem, ↓e_lxor, ↓e_ishl, ↓e_ior, ↓e_iand, ↓e_ishr, ↓e_ic, ↓e_lc, ↓e_fc, ↓e_kl_i, ↓e_kl_r, ↓e_kl_f, ↓e_kl_n, ↓e_kl_l, ↓e_kl_d, ↓e_ild0, ↓e_ist0, ↓e_ild1, ↓e_ist1, ↓e_ild2, ↓e_ist2, ↓e_ild3, ↓e_ist3, ↓e_ild4, ↓e_ist4, ↓e_ild5, ↓e_ist5, ↓e_ild6, ↓e_ist6, ↓e_ild7, ↓e_ist7, ↓e_ild8, ↓e_ist8, ↓e_ild9, ↓e_ist9, ↓e_ild10, ↓e_ist10, ↓e_ild11, ↓e_ist11, ↓e_ild12, ↓e_ist12, ↓e_inc0, ↓e_inc1, ↓e_inc2, ↓e_inc3, ↓e_inc4, ↓e_inc5, ↓e_inc6, ↓e_inc7, ↓e_inc8, ↓e_inc9, ↓e_inc10, ↓e_inc11, ↓e_inc12, ↓e_lld0, ↓e_lst0, ↓e_lld1, ↓e_lst1, ↓e_lld2, ↓e_lst2, ↓e_lld3, ↓e_lst3, ↓e_lld4, ↓e_lst4, ↓e_lld5, ↓e_lst5, ↓e_lld6, ↓e_lst6, ↓e_lld7, ↓e_lst7, ↓e_lld8, ↓e_lst8, ↓e_lld9, ↓e_lst9, ↓e_lld10, ↓e_lst10, ↓e_lld11, ↓e_lst11, ↓e_lld12, ↓e_lst12, ↓e_fld0, ↓e_fst0, ↓e_fld1, ↓e_fst1, ↓e_fld2, ↓e_fst2, ↓e_fld3, ↓e_fst3, ↓e_fld4, ↓e_fst4, ↓e_fld5, ↓e_fst5, ↓e_fld6, ↓e_fst6, ↓e_fld7, ↓e_fst7, ↓e_fld8, ↓e_fst8, ↓e_fld9, ↓e_fst9, ↓e_fld10, ↓e_fst10, ↓e_fld11, ↓e_fst11, ↓e_fld12, ↓e_fst12, ↓e_dld0, ↓e_dst0, ↓e_dld1, ↓e_dst1, ↓e_dld2, ↓e_dst2, ↓e_dld3, ↓e_dst3, ↓e_dld4, ↓e_dst4, ↓e_dld5, ↓e_dst5, ↓e_dld6, ↓e_dst6, ↓e_dld7, ↓e_dst7, ↓e_dld8, ↓e_dst8, ↓e_dld9, ↓e_dst9, ↓e_dld10, ↓e_dst10, ↓e_dld11, ↓e_dst11, ↓e_dld12, ↓e_dst12, ↓e_ald0, ↓e_ast0, ↓e_ald1, ↓e_ast1, ↓e_ald2, ↓e_ast2, ↓e_ald3, ↓e_ast3, ↓e_ald4, ↓e_ast4, ↓e_ald5, ↓e_ast5, ↓e_ald6, ↓e_ast6, ↓e_ald7, ↓e_ast7, ↓e_ald8, ↓e_ast8, ↓e_ald9, ↓e_ast9, ↓e_ald10, ↓e_ast10, ↓e_ald11, ↓e_ast11, ↓e_ald12, ↓e_ast12, ↓e_dupr, ↓e_dupi, ↓e_dup2, ↓e_dup2l, ↓e_ifeq, ↓e_icmpeq, ↓e_ifne, ↓e_icmpne, ↓e_iflt, ↓e_icmplt, ↓e_ifge, ↓e_icmpge, ↓e_ifgt, ↓e_icmpgt, ↓e_ifle, ↓e_icmple, ↓e_goto, ↓e_tsw, ↓e_case0, ↓e_case1, ↓e_iret, ↓e_zret, ↓e_lret, ↓e_fret, ↓e_vret, ↓e_ok0, ↓e_ok1, ↓e_ok2, ↓e_ok4, ↓e_ok5, ↓e_ok6, ↓e_ok7, ↓e_ok8, ↓e_ok9, ↓e_ok3, ↓e_ok10, ↓e_ok11, ↓e_ok15, ↓e_ok16, ↓e_ok12, ↓e_ok13, ↓e_ok14, ↓e_ok17, ↓e_ok18, ↓e_ok19, ↓e_ok20, ↓e_ok21, ↓e_ok22, ↓e_ok23, ↓e_get_0_0, ↓e_get_0_1, ↓e_get_0_2, ↓e_get_0_3, ↓e_get_0_4, ↓e_get_0_5, ↓e_get_0_6, ↓e_get_0_7, ↓e_get_0_8, ↓e_get_0_9, ↓e_get_0_10, ↓e_puti_0, ↓e_putz_0, ↓e_putl_0, ↓e_get_10_0, ↓e_get_10_1, ↓e_get_10_2, ↓e_get_10_3, ↓e_get_10_4, ↓e_get_10_5, ↓e_puti_10, ↓e_putz_10, ↓e_putl_10, ↓e_get_12_0, ↓e_get_12_1, ↓e_get_12_2, ↓e_get_12_3, ↓e_puti_12, ↓e_putz_12, ↓e_putl_12, ↓e_get_18_0, ↓e_get_18_1, ↓e_puti_18, ↓e_putz_18, ↓e_putl_18, ↓e_get_21_0, ↓e_get_21_1, ↓e_puti_21, ↓e_putz_21, ↓e_putl_21, ↓e_get_23_0, ↓e_get_23_1, ↓e_get_23_2, ↓e_get_23_3, ↓e_get_23_4, ↓e_puti_23, ↓e_putz_23, ↓e_putl_23, ↓e_iald_1, ↓e_iast_1, ↓e_iald_3, ↓e_iast_3, ↓e_iald_9, ↓e_iast_9, ↓e_iald_11, ↓e_iast_11, ↓e_lald_4, ↓e_last_4, ↓e_lald_5, ↓e_last_5, ↓e_lald_6, ↓e_last_6, ↓e_lald_7, ↓e_last_7, ↓e_lald_15, ↓e_last_15, ↓e_lald_16, ↓e_last_16, ↓e_lald_17, ↓e_last_17, ↓e_lald_19, ↓e_last_19, ↓e_lald_20, ↓e_last_20, ↓e_aald_2, ↓e_aald_8, ↓e_aald_13, ↓e_aald_14, ↓e_aald_22, ↓e_aast, ↓e_acpi, ↓e_acpl, ↓e_mabs, ↓e_mabsl, ↓e_mmin, ↓e_mmax, ↓e_gets34, ↓e_sald34, ↓e_gets35, ↓e_sald35, ↓e_gets36, ↓e_sald36, ↓e_gets37, ↓e_sald37, ↓e_cats0, ↓e_cats_i, ↓e_cats_l, ↓e_cats_f, ↓e_cats_d, ↓e_cats_a, ↓e_callS0, ↓e_callV0, ↓e_callS1, ↓e_callV1, ↓e_callS2, ↓e_callV2, ↓e_callS3, ↓e_callV3, ↓e_callS4, ↓e_callV4, ↓e_callS5, ↓e_callV5, ↓e_callS6, ↓e_callV6, ↓e_tl1, ↓e_tl0, ↓zi_0_3, ↓zi_1_3, ↓zi_2_3, ↓zi_0_4, ↓zi_1_4, ↓zi_2_4, ↓zi_3_4, ↓zi_0_5, ↓zi_1_5, ↓zi_2_5, ↓zi_3_5, ↓zi_4_5, ↓zi_0_6, ↓zi_1_6, ↓zi_2_6, ↓zi_3_6, ↓zi_4_6, ↓zi_5_6, ↓zi_0_7, ↓zi_1_7, ↓zi_2_7, ↓zi_3_7, ↓zi_4_7, ↓zi_5_7, ↓zi_0_8, ↓zi_1_8, ↓zi_2_8, ↓zi_3_8, ↓zi_4_8, ↓zi_5_8, ↓zi_0_9, ↓zi_1_9, ↓zi_2_9, ↓zi_3_9, ↓zi_4_9, ↓zi_5_9, ↓zi_0_10, ↓zi_1_10, ↓zi_2_10, ↓zi_3_10, ↓zi_4_10, ↓zi_5_10, ↓zc_0, ↓zc_1, ↓s_X5_axisAfter, q_cmp_lt, q_cmp_ge, q_cmp_gt, q_cmp_le, q_cmp_eq, q_cmp_i32, q_b_i32, q_b_0, ↓q_b01, true_and, and_true, true_implies, Nat.reduceAdd, Nat.reduceLeDiff, Int.reduceNeg, eq_self, or_true, true_or, implies_true]
    exact ⟨⟨by omega, by omega⟩, ⟨by omega, by omega⟩, i1, ⟨hc, hw⟩, i2, hj _ i2, i2, ⟨hc, hw⟩, i1, hj _ i1, q_out.i h⟩
  · simp only [↓k_X2_crossed_0, ↓e_iadd, ↓e_isub, ↓e_imul, ↓e_ladd, ↓e_lsub, ↓e_lmul, ↓e_ineg, ↓e_lneg, ↓e_i2l, ↓e_l2i, ↓e_lcmp, ↓e_i2f, ↓e_l2f, ↓e_fdiv, ↓e_f2d, ↓e_fcmpl, ↓e_dcmpl, ↓e_ldiv, ↓e_lrem, ↓e_idiv, ↓e_irem, ↓e_lxor, ↓e_ishl, ↓e_ior, ↓e_iand, ↓e_ishr, ↓e_ic, ↓e_lc, ↓e_fc, ↓e_kl_i, ↓e_kl_r, ↓e_kl_f, ↓e_kl_n, ↓e_kl_l, ↓e_kl_d, ↓e_ild0, ↓e_ist0, ↓e_ild1, ↓e_ist1, ↓e_ild2, ↓e_ist2, ↓e_ild3, ↓e_ist3, ↓e_ild4, ↓e_ist4, ↓e_ild5, ↓e_ist5, ↓e_ild6, ↓e_ist6, ↓e_ild7, ↓e_ist7, ↓e_ild8, ↓e_ist8, ↓e_ild9, ↓e_ist9, ↓e_ild10, ↓e_ist10, ↓e_ild11, ↓e_ist11, ↓e_ild12, ↓e_ist12, ↓e_inc0, ↓e_inc1, ↓e_inc2, ↓e_inc3, ↓e_inc4, ↓e_inc5, ↓e_inc6, ↓e_inc7, ↓e_inc8, ↓e_inc9, ↓e_inc10, ↓e_inc11, ↓e_inc12, ↓e_lld0, ↓e_lst0, ↓e_lld1, ↓e_lst1, ↓e_lld2, ↓e_lst2, ↓e_lld3, ↓e_lst3, ↓e_lld4, ↓e_lst4, ↓e_lld5, ↓e_lst5, ↓e_lld6, ↓e_lst6, ↓e_lld7, ↓e_lst7, ↓e_lld8, ↓e_lst8, ↓e_lld9, ↓e_lst9, ↓e_lld10, ↓e_lst10, ↓e_lld11, ↓e_lst11, ↓e_lld12, ↓e_lst12, ↓e_fld0, ↓e_fst0, ↓e_fld1, ↓e_fst1, ↓e_fld2, ↓e_fst2, ↓e_fld3, ↓e_fst3, ↓e_fld4, ↓e_fst4, ↓e_fld5, ↓e_fst5, ↓e_fld6, ↓e_fst6, ↓e_fld7, ↓e_fst7, ↓e_fld8, ↓e_fst8, ↓e_fld9, ↓e_fst9, ↓e_fld10, ↓e_fst10, ↓e_fld11, ↓e_fst11, ↓e_fld12, ↓e_fst12, ↓e_dld0, ↓e_dst0, ↓e_dld1, ↓e_dst1, ↓e_dld2, ↓e_dst2, ↓e_dld3, ↓e_dst3, ↓e_dld4, ↓e_dst4, ↓e_dld5, ↓e_dst5, ↓e_dld6, ↓e_dst6, ↓e_dld7, ↓e_dst7, ↓e_dld8, ↓e_dst8, ↓e_dld9, ↓e_dst9, ↓e_dld10, ↓e_dst10, ↓e_dld11, ↓e_dst11, ↓e_dld12, ↓e_dst12, ↓e_ald0, ↓e_ast0, ↓e_ald1, ↓e_ast1, ↓e_ald2, ↓e_ast2, ↓e_ald3, ↓e_ast3, ↓e_ald4, ↓e_ast4, ↓e_ald5, ↓e_ast5, ↓e_ald6, ↓e_ast6, ↓e_ald7, ↓e_ast7, ↓e_ald8, ↓e_ast8, ↓e_ald9, ↓e_ast9, ↓e_ald10, ↓e_ast10, ↓e_ald11, ↓e_ast11, ↓e_ald12, ↓e_ast12, ↓e_dupr, ↓e_dupi, ↓e_dup2, ↓e_dup2l, ↓e_ifeq, ↓e_icmpeq, ↓e_ifne, ↓e_icmpne, ↓e_iflt, ↓e_icmplt, ↓e_ifge, ↓e_icmpge, ↓e_ifgt, ↓e_icmpgt, ↓e_ifle, ↓e_icmple, ↓e_goto, ↓e_tsw, ↓e_case0, ↓e_case1, ↓e_iret, ↓e_zret, ↓e_lret, ↓e_fret, ↓e_vret, ↓e_ok0, ↓e_ok1, ↓e_ok2, ↓e_ok4, ↓e_ok5, ↓e_ok6, ↓e_ok7, ↓e_ok8, ↓e_ok9, ↓e_ok3, ↓e_ok10, ↓e_ok11, ↓e_ok15, ↓e_ok16, ↓e_ok12, ↓e_ok13, ↓e_ok14, ↓e_ok17, ↓e_ok18, ↓e_ok19, ↓e_ok20, ↓e_ok21, ↓e_ok22, ↓e_ok23, ↓e_get_0_0, ↓e_get_0_1, ↓e_get_0_2, ↓e_get_0_3, ↓e_get_0_4, ↓e_get_0_5, ↓e_get_0_6, ↓e_get_0_7, ↓e_get_0_8, ↓e_get_0_9, ↓e_get_0_10, ↓e_puti_0, ↓e_putz_0, ↓e_putl_0, ↓e_get_10_0, ↓e_get_10_1, ↓e_get_10_2, ↓e_get_10_3, ↓e_get_10_4, ↓e_get_10_5, ↓e_puti_10, ↓e_putz_10, ↓e_putl_10, ↓e_get_12_0, ↓e_get_12_1, ↓e_get_12_2, ↓e_get_12_3, ↓e_puti_12, ↓e_putz_12, ↓e_putl_12, ↓e_get_18_0, ↓e_get_18_1, ↓e_puti_18, ↓e_putz_18, ↓e_putl_18, ↓e_get_21_0, ↓e_get_21_1, ↓e_puti_21, ↓e_putz_21, ↓e_putl_21, ↓e_get_23_0, ↓e_get_23_1, ↓e_get_23_2, ↓e_get_23_3, ↓e_get_23_4, ↓e_puti_23, ↓e_putz_23, ↓e_putl_23, ↓e_iald_1, ↓e_iast_1, ↓e_iald_3, ↓e_iast_3, ↓e_iald_9, ↓e_iast_9, ↓e_iald_11, ↓e_iast_11, ↓e_lald_4, ↓e_last_4, ↓e_lald_5, ↓e_last_5, ↓e_lald_6, ↓e_last_6, ↓e_lald_7, ↓e_last_7, ↓e_lald_15, ↓e_last_15, ↓e_lald_16, ↓e_last_16, ↓e_lald_17, ↓e_last_17, ↓e_lald_19, ↓e_last_19, ↓e_lald_20, ↓e_last_20, ↓e_aald_2, ↓e_aald_8, ↓e_aald_13, ↓e_aald_14, ↓e_aald_22, ↓e_aast, ↓e_acpi, ↓e_acpl, ↓e_mabs, ↓e_mabsl, ↓e_mmin, ↓e_mmax, ↓e_gets34, ↓e_sald34, ↓e_gets35, ↓e_sald35, ↓e_gets36, ↓e_sald36, ↓e_gets37, ↓e_sald37, ↓e_cats0, ↓e_cats_i, ↓e_cats_l, ↓e_cats_f, ↓e_cats_d, ↓e_cats_a, ↓e_callS0, ↓e_callV0, ↓e_callS1, ↓e_callV1, ↓e_callS2, ↓e_callV2, ↓e_callS3, ↓e_callV3, ↓e_callS4, ↓e_callV4, ↓e_callS5, ↓e_callV5, ↓e_callS6, ↓e_callV6, ↓e_tl1, ↓e_tl0, ↓zi_0_3, ↓zi_1_3, ↓zi_2_3, ↓zi_0_4, ↓zi_1_4, ↓zi_2_4, ↓zi_3_4, ↓zi_0_5, ↓zi_1_5, ↓zi_2_5, ↓zi_3_5, ↓zi_4_5, ↓zi_0_6, ↓zi_1_6, ↓zi_2_6, ↓zi_3_6, ↓zi_4_6, ↓zi_5_6, ↓zi_0_7, ↓zi_1_7, ↓zi_2_7, ↓zi_3_7, ↓zi_4_7, ↓zi_5_7, ↓zi_0_8, ↓zi_1_8, ↓zi_2_8, ↓zi_3_8, ↓zi_4_8, ↓zi_5_8, ↓zi_0_9, ↓zi_1_9, ↓zi_2_9, ↓zi_3_9, ↓zi_4_9, ↓zi_5_9, ↓zi_0_10, ↓zi_1_10, ↓zi_2_10, ↓zi_3_10, ↓zi_4_10, ↓zi_5_10, ↓zc_0, ↓zc_1, ↓s_X5_axisAfter, q_cmp_lt, q_cmp_ge, q_cmp_gt, q_cmp_le, q_cmp_eq, q_cmp_i32, q_b_i32, q_b_0, ↓q_b01, true_and, and_true, true_implies, Nat.reduceAdd, Nat.reduceLeDiff, Int.reduceNeg, eq_self, or_true, true_or, implies_true]
    exact ⟨⟨by omega, by omega⟩, ⟨by omega, by omega⟩, i1, ⟨hc, hw⟩, i2, hj _ i2, i2, ⟨hc, hw⟩, i1, hj _ i1, q_out.i h⟩
