/-! ===== the model shares a wish ===== -/
/-- a wheel has got a torque; no reason is told -/
def qm_gy (Z : q_X) (k t : Int) : q_X := fun p k' s => if p = 10 ∧ k' = k ∧ s = 4 then t else if p = 10 ∧ k' = k ∧ s = 0 then Z 10 k 0 + t else if p = 5 then Z 5 k' s - Z 11 k s * t else Z p k' s
theorem qm_vg {v : Int → Int} {Z : q_X} (h : q_enc v Z) {k t : Int} (hk : q_in k 6) : q_enc (q_vg v k t) (qm_gy Z k t) := by
  have hk' : 0 ≤ k ∧ k < 6 := hk
  have i0 : q_in 0 3 := ⟨by decide, by decide⟩
  have i1 : q_in 1 3 := ⟨by decide, by decide⟩
  have i2 : q_in 2 3 := ⟨by decide, by decide⟩
  have w3 : q_in 3 8 := ⟨by decide, by decide⟩
  have w7 : q_in 7 8 := ⟨by decide, by decide⟩
  have w1 : q_in 1 8 := ⟨by decide, by decide⟩
  have g := ((((h.uk (x := Z 10 k 0 + t) hk w3).uk (x := t) hk w7).ua (x := Z 5 0 0 - Z 11 k 0 * t) i0 w1).ua (x := Z 5 0 1 - Z 11 k 1 * t) i1 w1).ua (x := Z 5 0 2 - Z 11 k 2 * t) i2 w1
  have e : q_u (q_u (q_u (q_u (q_u v (40 + 8 * k + 3) (Z 10 k 0 + t)) (40 + 8 * k + 7) t) (12 + 8 * 0 + 1) (Z 5 0 0 - Z 11 k 0 * t)) (12 + 8 * 1 + 1) (Z 5 0 1 - Z 11 k 1 * t)) (12 + 8 * 2 + 1) (Z 5 0 2 - Z 11 k 2 * t) = q_vg v k t := by
    have a0 : v 13 = Z 5 0 0 := h.a1 i0
    have a1 : v 21 = Z 5 0 1 := h.a1 i1
    have a2 : v 29 = Z 5 0 2 := h.a1 i2
    have s3 := h.k3 hk
    funext s
    unfold q_u q_vg
    rw [h.kd hk i0, h.kd hk i1, h.kd hk i2]
    by_cases z0 : s = 13
    · subst z0
      rw [if_neg (by omega), if_neg (by omega), if_pos (by omega), if_neg (by omega), if_neg (by omega), if_pos rfl, a0]
    · by_cases z1 : s = 21
      · subst z1
        rw [if_neg (by omega), if_pos (by omega), if_neg (by omega), if_neg (by omega), if_neg (by omega), if_pos rfl, a1]
      · by_cases z2 : s = 29
        · subst z2
          rw [if_pos (by omega), if_neg (by omega), if_neg (by omega), if_neg (by omega), if_neg (by omega), if_pos rfl, a2]
        · rw [if_neg (by omega), if_neg (by omega), if_neg (by omega)]
          by_cases y : s = 40 + 8 * k + 7
          · rw [if_pos y, if_neg (by omega), if_pos y]
          · rw [if_neg y]
            by_cases x : s = 40 + 8 * k + 3
            · rw [if_pos x, if_pos x, x, s3]
            · rw [if_neg x, if_neg x, if_neg y, if_neg z0, if_neg z1, if_neg z2]
  rw [← e]
  refine g.cg ?_
  intro p k' s hp h1 h2 h3 h4
  have ap1 : q_ap 1 = 5 := rfl
  have ak1 : q_ak 1 = 0 := rfl
  simp only [q_p1, qm_gy, ap1, ak1, show ¬ (3 : Int) ≤ 2 by decide, show ¬ (7 : Int) ≤ 2 by decide, if_false, show (3 : Int) - 3 = 0 by decide, show (7 : Int) - 3 = 4 by decide]
  by_cases p5 : p = 5
  · subst p5
    have hk0 : k' = 0 := by simp only [q_nk] at h2; omega
    have hs3 : s = 0 ∨ s = 1 ∨ s = 2 := by simp only [q_sz] at h4; omega
    subst hk0
    rcases hs3 with rfl | rfl | rfl <;> simp
  · by_cases p10 : p = 10
    · subst p10
      simp only [show ¬ ((10 : Nat) = 5) by decide, false_and, if_false, true_and]
    · simp only [p5, p10, false_and, if_false]
theorem qm_gv {v : Int → Int} {Z : q_X} (h : q_enc v Z) {k w : Int} (hk : q_in k 6) :
    (¬ (¬ q_tq Z k w = w ∧ Z 9 0 0 = 0) → q_enc (q_vg v k (q_tq Z k w)) (q_gv Z k w)) ∧
    ((¬ q_tq Z k w = w ∧ Z 9 0 0 = 0) → q_enc (q_vg (q_u (q_u (q_u v 8 2) 9 (20 + k)) 10 (if q_tq Z k w = q_alw Z k w then 4 else 3)) k (q_tq Z k w)) (q_gv Z k w)) := by
  refine ⟨fun c => ?_, fun c => ?_⟩
  · have g := qm_vg h (t := q_tq Z k w) hk
    unfold q_gv
    (try dsimp only)
    rw [if_neg c]
    exact g
  · have r := h.ur (Y := q_tl Z k (q_b (q_tq Z k w = q_alw Z k w))) (x := 2) (y := 20 + k) (z := if q_tq Z k w = q_alw Z k w then 4 else 3) (by simp [q_tl]) (by simp [q_tl]) (by
      simp only [q_tl, q_b]
      by_cases z : q_tq Z k w = q_alw Z k w
      · simp [z]
      · simp [z]) (fun p k' s h1 h2 => by
        unfold q_tl
        rw [if_neg (by omega), if_neg (by omega), if_neg (by omega), if_neg h2])
    have g := qm_vg r (t := q_tq Z k w) hk
    refine g.cg ?_
    intro p k' s hp h1 h2 h3 h4
    unfold q_gv
    (try dsimp only)
    rw [if_pos c]
    unfold q_tl qm_gy
    by_cases p9 : p = 9
    · subst p9
      simp only [show ¬ ((9 : Nat) = 5) by decide, show ¬ ((9 : Nat) = 10) by decide, false_and, if_false]
    · by_cases p0 : p = 0
      · subst p0
        simp
      · simp only [p9, p0, false_and, if_false]
        simp
def qm_B (σ : q_M) (Y : q_X) (τ : q_M) (Z : q_X) : Prop := q_agv τ σ ∧ τ 0 24 0 1 = q_det Y (-2000009) ∧ (∀ i j, q_in i 3 → q_in j 3 → τ 0 29 0 (3 * i + j) = q_cof Y (-2000009) i j) ∧ (∀ i, q_in i 3 → τ 0 30 0 i = Y 7 0 i) ∧ q_enc (τ 0 25 0) Z
theorem qm_B.v {σ τ τ' : q_M} {Y Z Z' : q_X} (h : qm_B σ Y τ Z) (e : ∀ (c : Int) (p : Nat) (k s : Int), p ≠ 25 → τ' c p k s = τ c p k s) (hE : q_enc (τ' 0 25 0) Z') : qm_B σ Y τ' Z' := by
  obtain ⟨h1, h2, h3, h4, _⟩ := h
  refine ⟨fun c p k s a b d => ?_, ?_, fun i j hi hj => ?_, fun i hi => ?_, hE⟩
  · rw [e c p k s a]; exact h1 c p k s a b d
  · rw [e _ _ _ _ (by decide)]; exact h2
  · rw [e _ _ _ _ (by decide)]; exact h3 i j hi hj
  · rw [e _ _ _ _ (by decide)]; exact h4 i hi
theorem qm_ne {τ : q_M} {i x : Int} : ∀ (c : Int) (p : Nat) (k s : Int), p ≠ 25 → q_wr τ 0 25 0 i x c p k s = τ c p k s := fun c p k s h => if_neg (fun q => h q.2.1)
def qm_h (Y : q_X) (w : Int) : q_X := fun p k s => if p = 10 ∧ s = 4 ∧ 0 ≤ k ∧ k < w then 0 else Y p k s
theorem v_X6_shares {Qp : Option q_V → q_M → Prop} {X : Nat → q_K} (hC : q_C X) (h0 : ∀ (σ : q_M) (lv : q_L) (st : q_S), k_X6_shares_0 Qp X σ lv st → X 0 σ lv st) (h8 : ∀ (σ : q_M) (lv : q_L) (st : q_S), k_X6_shares_8 Qp X σ lv st → X 8 σ lv st) (h70 : ∀ (σ : q_M) (lv : q_L) (st : q_S), k_X6_shares_70 Qp X σ lv st → X 70 σ lv st) (h126 : ∀ (σ : q_M) (lv : q_L) (st : q_S), k_X6_shares_126 Qp X σ lv st → X 126 σ lv st) {σ : q_M}  (h : ∃ X, ((∃ n, q_Inv n X) ∧ q_enc (σ 0 25 0) X ∧ (∀ i, q_in i 3 → σ 0 30 0 i = X 7 0 i)) ∧ ∀ τ, q_agv τ σ → q_enc (τ 0 25 0) (q_sh X) → Qp (some (zI (q_b (q_sh X 9 0 0 = 0)))) τ) : X 0 σ [some (zR 0 24 0), none, none, none, none, none, none, none] [] := by
  obtain ⟨Y, ⟨⟨n, hI⟩, hE, hT⟩, h⟩ := h
  have hcnt := hI.cnt
  have hnn := q_det_nn Y (-2000009)
  have hdb := q_det_bd hI.cnt hI.dir (-2000009)
  generalize hW : q_tm (q_g0 Y) = W
  have hWI : q_Inv n W := by rw [← hW]; exact hI.g0.tm
  have w001 : W 0 0 1 = Y 0 0 1 := by rw [← hW]; rfl
  have w103 : ∀ k, W 10 k 3 = Y 10 k 3 := fun k => by rw [← hW]; exact if_neg (by omega)
  have w11 : ∀ k s, W 11 k s = Y 11 k s := fun k s => by rw [← hW]; rfl
  have w7 : ∀ s, W 7 0 s = Y 7 0 s := fun s => by rw [← hW]; rfl
  have ecof : ∀ i j, q_cof W (-2000009) i j = q_cof Y (-2000009) i j := q_cof_cg w001 w103 w11 _
  have edet : q_det W (-2000009) = q_det Y (-2000009) := q_det_cg w001 w103 w11 _
  have i0 : q_in 0 3 := ⟨by decide, by decide⟩
  have i1 : q_in 1 3 := ⟨by decide, by decide⟩
  have i2 : q_in 2 3 := ⟨by decide, by decide⟩
  have l126 : 0 < q_det Y (-2000009) → ∀ (d w : Nat) (τ : q_M), w + d = (Y 0 0 1).toNat → qm_B σ Y τ (q_gvs W w W) → X 126 τ [some (zR 0 24 0), some (zI w), none, none, none, none, none, none] [] := by
    intro hpos d
    have es : q_sh Y = q_gvs W (Y 0 0 1).toNat W := by
      unfold q_sh
      rw [if_pos hpos, hW]
    induction d with
    | zero =>
      intro w τ hw hB
      obtain rfl : w = (Y 0 0 1).toNat := by omega
      have hZ := hB.2.2.2.2
      rw [← es] at hZ
      have gI : q_Inv n (q_sh Y) := hI.sh
      have g := q_bc (h τ hB.1 hZ)
      have r := gI.rs i0
      have c1 : q_sh Y 0 0 1 = Y 0 0 1 := q_sh_same (by omega)
      apply h126
      simp only [↓k_X6_shares_0, ↓k_X6_shares_113, ↓k_X6_shares_39, ↓k_X6_shares_8, ↓k_X6_shares_111, ↓k_X6_shares_104, ↓k_X6_shares_98, ↓k_X6_shares_70, ↓k_X6_shares_275, ↓k_X6_shares_274, ↓k_X6_shares_258, ↓k_X6_shares_252, ↓k_X6_shares_245, ↓k_X6_shares_242, ↓k_X6_shares_239, ↓k_X6_shares_126, ↓e_iadd, ↓e_isub, ↓e_imul, ↓e_ladd, ↓e_lsub, ↓e_lmul, ↓e_ineg, ↓e_lneg, ↓e_i2l, ↓e_l2i, ↓e_lcmp, ↓e_i2f, ↓e_l2f, ↓e_fdiv, ↓e_f2d, ↓e_fcmpl, ↓e_dcmpl, ↓e_ldiv, ↓e_lrem, ↓e_idiv, ↓e_irem, ↓e_lxor, ↓e_ishl, ↓e_ior, ↓e_iand, ↓e_ic, ↓e_lc, ↓e_fc, ↓e_kl_i, ↓e_kl_r, ↓e_kl_f, ↓e_kl_n, ↓e_kl_l, ↓e_kl_d, ↓e_ild0, ↓e_ist0, ↓e_ild1, ↓e_ist1, ↓e_ild2, ↓e_ist2, ↓e_ild3, ↓e_ist3, ↓e_ild4, ↓e_ist4, ↓e_ild5, ↓e_ist5, ↓e_ild6, ↓e_ist6, ↓e_ild7, ↓e_ist7, ↓e_ild8, ↓e_ist8, ↓e_ild9, ↓e_ist9, ↓e_ild10, ↓e_ist10, ↓e_ild11, ↓e_ist11, ↓e_inc0, ↓e_inc1, ↓e_inc2, ↓e_inc3, ↓e_inc4, ↓e_inc5, ↓e_inc6, ↓e_inc7, ↓e_inc8, ↓e_inc9, ↓e_inc10, ↓e_inc11, ↓e_lld0, ↓e_lst0, ↓e_lld1, ↓e_lst1, ↓e_lld2, ↓e_lst2, ↓e_lld3, ↓e_lst3, ↓e_lld4, ↓e_lst4, ↓e_lld5, ↓e_lst5, ↓e_lld6, ↓e_lst6, ↓e_lld7, ↓e_lst7, ↓e_lld8, ↓e_lst8, ↓e_lld9, ↓e_lst9, ↓e_lld10, ↓e_lst10, ↓e_lld11, ↓e_lst11, ↓e_fld0, ↓e_fst0, ↓e_fld1, ↓e_fst1, ↓e_fld2, ↓e_fst2, ↓e_fld3, ↓e_fst3, ↓e_fld4, ↓e_fst4, ↓e_fld5, ↓e_fst5, ↓e_fld6, ↓e_fst6, ↓e_fld7, ↓e_fst7, ↓e_fld8, ↓e_fst8, ↓e_fld9, ↓e_fst9, ↓e_fld10, ↓e_fst10, ↓e_fld11, ↓e_fst11, ↓e_dld0, ↓e_dst0, ↓e_dld1, ↓e_dst1, ↓e_dld2, ↓e_dst2, ↓e_dld3, ↓e_dst3, ↓e_dld4, ↓e_dst4, ↓e_dld5, ↓e_dst5, ↓e_dld6, ↓e_dst6, ↓e_dld7, ↓e_dst7, ↓e_dld8, ↓e_dst8, ↓e_dld9, ↓e_dst9, ↓e_dld10, ↓e_dst10, ↓e_dld11, ↓e_dst11, ↓e_ald0, ↓e_ast0, ↓e_ald1, ↓e_ast1, ↓e_ald2, ↓e_ast2, ↓e_ald3, ↓e_ast3, ↓e_ald4, ↓e_ast4, ↓e_ald5, ↓e_ast5, ↓e_ald6, ↓e_ast6, ↓e_ald7, ↓e_ast7, ↓e_ald8, ↓e_ast8, ↓e_ald9, ↓e_ast9, ↓e_ald10, ↓e_ast10, ↓e_ald11, ↓e_ast11, ↓e_dupr, ↓e_dupi, ↓e_dup2, ↓e_dup2l, ↓e_ifeq, ↓e_icmpeq, ↓e_ifne, ↓e_icmpne, ↓e_iflt, ↓e_icmplt, ↓e_ifge, ↓e_icmpge, ↓e_ifgt, ↓e_icmpgt, ↓e_ifle, ↓e_icmple, ↓e_goto, ↓e_tsw, ↓e_case0, ↓e_case1, ↓e_iret, ↓e_zret, ↓e_lret, ↓e_fret, ↓e_vret, ↓e_ok0, ↓e_ok1, ↓e_ok2, ↓e_ok4, ↓e_ok5, ↓e_ok6, ↓e_ok7, ↓e_ok8, ↓e_ok9, ↓e_ok3, ↓e_ok10, ↓e_ok11, ↓e_ok15, ↓e_ok16, ↓e_ok12, ↓e_ok13, ↓e_ok14, ↓e_ok17, ↓e_ok18, ↓e_ok19, ↓e_ok20, ↓e_ok21, ↓e_ok22, ↓e_ok23, ↓e_ok24, ↓e_ok25, ↓e_ok26, ↓e_ok27, ↓e_ok28, ↓e_ok29, ↓e_ok30, ↓e_ok31, ↓e_ok32, ↓e_ok33, ↓e_get_0_0, ↓e_get_0_1, ↓e_get_0_2, ↓e_get_0_3, ↓e_get_0_4, ↓e_get_0_5, ↓e_get_0_6, ↓e_get_0_7, ↓e_get_0_8, ↓e_get_0_9, ↓e_get_0_10, ↓e_puti_0, ↓e_putz_0, ↓e_putl_0, ↓e_get_10_0, ↓e_get_10_1, ↓e_get_10_2, ↓e_get_10_3, ↓e_get_10_4, ↓e_get_10_5, ↓e_puti_10, ↓e_putz_10, ↓e_putl_10, ↓e_get_12_0, ↓e_get_12_1, ↓e_get_12_2, ↓e_get_12_3, ↓e_puti_12, ↓e_putz_12, ↓e_putl_12, ↓e_get_18_0, ↓e_get_18_1, ↓e_puti_18, ↓e_putz_18, ↓e_putl_18, ↓e_get_21_0, ↓e_get_21_1, ↓e_puti_21, ↓e_putz_21, ↓e_putl_21, ↓e_get_23_0, ↓e_get_23_1, ↓e_get_23_2, ↓e_get_23_3, ↓e_get_23_4, ↓e_puti_23, ↓e_putz_23, ↓e_putl_23, ↓e_get_24_0, ↓e_get_24_1, ↓e_get_24_2, ↓e_get_24_3, ↓e_get_24_4, ↓e_get_24_5, ↓e_get_24_6, ↓e_get_24_7, ↓e_get_24_8, ↓e_get_24_9, ↓e_get_24_10, ↓e_puti_24, ↓e_putz_24, ↓e_putl_24, ↓e_iald_1, ↓e_iast_1, ↓e_iald_3, ↓e_iast_3, ↓e_iald_9, ↓e_iast_9, ↓e_iald_11, ↓e_iast_11, ↓e_lald_4, ↓e_last_4, ↓e_lald_5, ↓e_last_5, ↓e_lald_6, ↓e_last_6, ↓e_lald_7, ↓e_last_7, ↓e_lald_15, ↓e_last_15, ↓e_lald_16, ↓e_last_16, ↓e_lald_17, ↓e_last_17, ↓e_lald_19, ↓e_last_19, ↓e_lald_20, ↓e_last_20, ↓e_lald_25, ↓e_last_25, ↓e_lald_26, ↓e_last_26, ↓e_lald_27, ↓e_last_27, ↓e_lald_28, ↓e_last_28, ↓e_lald_29, ↓e_last_29, ↓e_lald_30, ↓e_last_30, ↓e_lald_31, ↓e_last_31, ↓e_lald_32, ↓e_last_32, ↓e_lald_33, ↓e_last_33, ↓e_aald_2, ↓e_aald_8, ↓e_aald_13, ↓e_aald_14, ↓e_aald_22, ↓e_aast, ↓e_acpi, ↓e_acpl, ↓e_mabs, ↓e_mabsl, ↓e_mmin, ↓e_mmax, ↓e_gets34, ↓e_sald34, ↓e_gets35, ↓e_sald35, ↓e_gets36, ↓e_sald36, ↓e_gets37, ↓e_sald37, ↓e_cats0, ↓e_cats_i, ↓e_cats_l, ↓e_cats_f, ↓e_cats_d, ↓e_cats_a, ↓e_callS0, ↓e_callV0, ↓e_callS1, ↓e_callV1, ↓e_callS2, ↓e_callV2, ↓e_callS3, ↓e_callV3, ↓e_callS4, ↓e_callV4, ↓e_callS5, ↓e_callV5, ↓e_callS6, ↓e_callV6, ↓e_tl1, ↓e_tl0, ↓zi_0_3, ↓zi_1_3, ↓zi_2_3, ↓zi_0_4, ↓zi_1_4, ↓zi_2_4, ↓zi_3_4, ↓zi_0_5, ↓zi_1_5, ↓zi_2_5, ↓zi_3_5, ↓zi_4_5, ↓zi_0_6, ↓zi_1_6, ↓zi_2_6, ↓zi_3_6, ↓zi_4_6, ↓zi_5_6, ↓zi_0_7, ↓zi_1_7, ↓zi_2_7, ↓zi_3_7, ↓zi_4_7, ↓zi_5_7, ↓zi_0_9, ↓zi_1_9, ↓zi_2_9, ↓zi_3_9, ↓zi_4_9, ↓zi_5_9, ↓zi_0_100, ↓zi_1_100, ↓zi_2_100, ↓zi_3_100, ↓zi_4_100, ↓zi_5_100, ↓zi_0_400, ↓zi_1_400, ↓zi_2_400, ↓zi_3_400, ↓zi_4_400, ↓zi_5_400, ↓zc_0, ↓zc_1, ↓s_X6_spans, ↓s_X6_wheelAt, ↓s_X6_reasons, ↓s_X6_works, ↓s_X6_wishOf, ↓s_X6_held, ↓s_X6_room, ↓s_X6_gives, q_cmp_lt, q_cmp_ge, q_cmp_gt, q_cmp_le, q_cmp_eq, q_cmp_i32, q_b_i32, q_b_0, ↓q_b01, true_and, and_true, true_implies, Nat.reduceAdd, Nat.reduceLeDiff, Int.reduceNeg, eq_self, or_true, true_or, implies_true]
      rw [hZ.cnt, hZ.why.1, c1]
      exact ⟨⟨by omega, by omega⟩, ⟨by decide, by decide⟩, Or.inl (by omega), fun _ => ⟨⟨by decide, by decide⟩, Or.inr ⟨⟨by omega, by omega⟩, ⟨by decide, by decide⟩⟩, fun q => q_out.i (g.2 q), fun q => q_out.i (g.1 q)⟩, fun q => absurd q (by omega)⟩
    | succ d ih =>
      intro w τ hw hB
      have hk : q_in (w : Int) 6 := ⟨by omega, by omega⟩
      have hk' : 0 ≤ (w : Int) ∧ (w : Int) < 6 := hk
      generalize hZd : q_gvs W w W = Z at hB
      have gI : q_Inv n Z := by rw [← hZd]; exact hWI.gvs w (by omega)
      have zsame : ∀ {p : Nat} {k s : Int}, ((p = 0 ∧ s ≤ 1) ∨ (1 ≤ p ∧ p ≤ 4) ∨ (6 ≤ p ∧ p ≤ 8) ∨ (p = 10 ∧ 1 ≤ s ∧ s ≤ 3) ∨ p = 11) → Z p k s = W p k s := fun hh => by rw [← hZd]; exact q_gvs_same hh _ _
      have z001 : Z 0 0 1 = Y 0 0 1 := by rw [zsame (by omega), w001]
      have z103 : Z 10 w 3 = Y 10 w 3 := by rw [zsame (by omega), w103]
      have z11 : ∀ k s, Z 11 k s = Y 11 k s := fun k s => by rw [zsame (by omega), w11]
      have hZ := hB.2.2.2.2
      obtain ⟨hdir, zm0, zm1, zm2, zf, zg, zp⟩ := gI.whl hk
      have r := gI.rs i0
      -- the wish
      have hax : ∀ i, q_in i 3 → -100000 ≤ Y 7 0 i ∧ Y 7 0 i ≤ 100000 := fun i hi => (hI.axs hi).2.2.2
      have hab : ∀ i, q_in i 3 → -142000000000 ≤ q_cof Y (-2000009) i 0 * Y 7 0 0 + q_cof Y (-2000009) i 1 * Y 7 0 1 + q_cof Y (-2000009) i 2 * Y 7 0 2 ∧ q_cof Y (-2000009) i 0 * Y 7 0 0 + q_cof Y (-2000009) i 1 * Y 7 0 1 + q_cof Y (-2000009) i 2 * Y 7 0 2 ≤ 142000000000 := fun i hi =>
        q_asum_bd (q_cof_bd hI.cnt hI.dir _ _ _) (q_cof_bd hI.cnt hI.dir _ _ _) (q_cof_bd hI.cnt hI.dir _ _ _) (hax 0 i0) (hax 1 i1) (hax 2 i2)
      have hdw : ∀ i, q_in i 3 → -9 ≤ Y 11 w i ∧ Y 11 w i ≤ 9 := fun i hi => hI.dir w hk i hi
      have hsb := q_wsum_bd (hdw 0 i0) (hdw 1 i1) (hdw 2 i2) (hab 0 i0) (hab 1 i1) (hab 2 i2)
      have eT : ∀ i, q_in i 3 → τ 0 30 0 i = Y 7 0 i := hB.2.2.2.1
      have hcf := hB.2.2.1
      have c0 := hcf 0 0 i0 i0
      have c1 := hcf 0 1 i0 i1
      have c2 := hcf 0 2 i0 i2
      have c3 := hcf 1 0 i1 i0
      have c4 := hcf 1 1 i1 i1
      have c5 := hcf 1 2 i1 i2
      have c6 := hcf 2 0 i2 i0
      have c7 := hcf 2 1 i2 i1
      have c8 := hcf 2 2 i2 i2
      simp only [Int.mul_zero, Int.zero_add, Int.add_zero, Int.mul_one, show (3 : Int) + 1 = 4 by decide, show (3 : Int) + 2 = 5 by decide, show (3 : Int) * 2 = 6 by decide, show (6 : Int) + 1 = 7 by decide, show (6 : Int) + 2 = 8 by decide] at c0 c1 c2 c3 c4 c5 c6 c7 c8
      have ewsm : q_wsm τ w (Y 7 0 0) (Y 7 0 1) (Y 7 0 2) = Y 11 w 0 * (q_cof Y (-2000009) 0 0 * Y 7 0 0 + q_cof Y (-2000009) 0 1 * Y 7 0 1 + q_cof Y (-2000009) 0 2 * Y 7 0 2) + Y 11 w 1 * (q_cof Y (-2000009) 1 0 * Y 7 0 0 + q_cof Y (-2000009) 1 1 * Y 7 0 1 + q_cof Y (-2000009) 1 2 * Y 7 0 2) + Y 11 w 2 * (q_cof Y (-2000009) 2 0 * Y 7 0 0 + q_cof Y (-2000009) 2 1 * Y 7 0 1 + q_cof Y (-2000009) 2 2 * Y 7 0 2) := by
        unfold q_wsm
        rw [hZ.kd hk i0, hZ.kd hk i1, hZ.kd hk i2, z11, z11, z11, c0, c1, c2, c3, c4, c5, c6, c7, c8]
      generalize hS : Y 11 w 0 * (q_cof Y (-2000009) 0 0 * Y 7 0 0 + q_cof Y (-2000009) 0 1 * Y 7 0 1 + q_cof Y (-2000009) 0 2 * Y 7 0 2) + Y 11 w 1 * (q_cof Y (-2000009) 1 0 * Y 7 0 0 + q_cof Y (-2000009) 1 1 * Y 7 0 1 + q_cof Y (-2000009) 1 2 * Y 7 0 2) + Y 11 w 2 * (q_cof Y (-2000009) 2 0 * Y 7 0 0 + q_cof Y (-2000009) 2 1 * Y 7 0 1 + q_cof Y (-2000009) 2 2 * Y 7 0 2) = S at ewsm hsb
      have ewsh : q_wsh W w (W 7 0 0) (W 7 0 1) (W 7 0 2) = (2 * -S + q_det Y (-2000009)) / (2 * q_det Y (-2000009)) := by
        unfold q_wsh
        (try dsimp only)
        rw [edet, w11, w11, w11, w7, w7, w7]
        simp only [ecof]
        rw [hS]
        congr 1
        omega
      generalize hwd : (2 * -S + q_det Y (-2000009)) / (2 * q_det Y (-2000009)) = ws at ewsh
      have hwb : -9000000000000 ≤ ws ∧ ws ≤ 9000000000000 := by
        rw [← hwd]
        exact q_div_bd ⟨by omega, by omega⟩ (by omega)
      have halb := q_lim_bd (v := ws) (a := -(Z 10 w 2)) (b := Z 10 w 2) (by omega)
      have htq := q_tq_bd (X := Z) (k := w) (w := ws) zm2.1
      have G := qm_gv hZ (w := ws) hk
      have eal : q_lim ws (-(Z 10 w 2)) (Z 10 w 2) = q_alw Z w ws := rfl
      have etq : q_lim (q_alw Z w ws) (q_dn Z w) (q_up Z w) = q_tq Z w ws := rfl
      rw [eal] at halb
      apply h126
      simp only [↓k_X6_shares_0, ↓k_X6_shares_113, ↓k_X6_shares_39, ↓k_X6_shares_8, ↓k_X6_shares_111, ↓k_X6_shares_104, ↓k_X6_shares_98, ↓k_X6_shares_70, ↓k_X6_shares_275, ↓k_X6_shares_274, ↓k_X6_shares_258, ↓k_X6_shares_252, ↓k_X6_shares_245, ↓k_X6_shares_242, ↓k_X6_shares_239, ↓k_X6_shares_126, ↓e_iadd, ↓e_isub, ↓e_imul, ↓e_ladd, ↓e_lsub, ↓e_lmul, ↓e_ineg, ↓e_lneg, ↓e_i2l, ↓e_l2i, ↓e_lcmp, ↓e_i2f, ↓e_l2f, ↓e_fdiv, ↓e_f2d, ↓e_fcmpl, ↓e_dcmpl, ↓e_ldiv, ↓e_lrem, ↓e_idiv, ↓e_irem, ↓e_lxor, ↓e_ishl, ↓e_ior, ↓e_iand, ↓e_ic, ↓e_lc, ↓e_fc, ↓e_kl_i, ↓e_kl_r, ↓e_kl_f, ↓e_kl_n, ↓e_kl_l, ↓e_kl_d, ↓e_ild0, ↓e_ist0, ↓e_ild1, ↓e_ist1, ↓e_ild2, ↓e_ist2, ↓e_ild3, ↓e_ist3, ↓e_ild4, ↓e_ist4, ↓e_ild5, ↓e_ist5, ↓e_ild6, ↓e_ist6, ↓e_ild7, ↓e_ist7, ↓e_ild8, ↓e_ist8, ↓e_ild9, ↓e_ist9, ↓e_ild10, ↓e_ist10, ↓e_ild11, ↓e_ist11, ↓e_inc0, ↓e_inc1, ↓e_inc2, ↓e_inc3, ↓e_inc4, ↓e_inc5, ↓e_inc6, ↓e_inc7, ↓e_inc8, ↓e_inc9, ↓e_inc10, ↓e_inc11, ↓e_lld0, ↓e_lst0, ↓e_lld1, ↓e_lst1, ↓e_lld2, ↓e_lst2, ↓e_lld3, ↓e_lst3, ↓e_lld4, ↓e_lst4, ↓e_lld5, ↓e_lst5, ↓e_lld6, ↓e_lst6, ↓e_lld7, ↓e_lst7, ↓e_lld8, ↓e_lst8, ↓e_lld9, ↓e_lst9, ↓e_lld10, ↓e_lst10, ↓e_lld11, ↓e_lst11, ↓e_fld0, ↓e_fst0, ↓e_fld1, ↓e_fst1, ↓e_fld2, ↓e_fst2, ↓e_fld3, ↓e_fst3, ↓e_fld4, ↓e_fst4, ↓e_fld5, ↓e_fst5, ↓e_fld6, ↓e_fst6, ↓e_fld7, ↓e_fst7, ↓e_fld8, ↓e_fst8, ↓e_fld9, ↓e_fst9, ↓e_fld10, ↓e_fst10, ↓e_fld11, ↓e_fst11, ↓e_dld0, ↓e_dst0, ↓e_dld1, ↓e_dst1, ↓e_dld2, ↓e_dst2, ↓e_dld3, ↓e_dst3, ↓e_dld4, ↓e_dst4, ↓e_dld5, ↓e_dst5, ↓e_dld6, ↓e_dst6, ↓e_dld7, ↓e_dst7, ↓e_dld8, ↓e_dst8, ↓e_dld9, ↓e_dst9, ↓e_dld10, ↓e_dst10, ↓e_dld11, ↓e_dst11, ↓e_ald0, ↓e_ast0, ↓e_ald1, ↓e_ast1, ↓e_ald2, ↓e_ast2, ↓e_ald3, ↓e_ast3, ↓e_ald4, ↓e_ast4, ↓e_ald5, ↓e_ast5, ↓e_ald6, ↓e_ast6, ↓e_ald7, ↓e_ast7, ↓e_ald8, ↓e_ast8, ↓e_ald9, ↓e_ast9, ↓e_ald10, ↓e_ast10, ↓e_ald11, ↓e_ast11, ↓e_dupr, ↓e_dupi, ↓e_dup2, ↓e_dup2l, ↓e_ifeq, ↓e_icmpeq, ↓e_ifne, ↓e_icmpne, ↓e_iflt, ↓e_icmplt, ↓e_ifge, ↓e_icmpge, ↓e_ifgt, ↓e_icmpgt, ↓e_ifle, ↓e_icmple, ↓e_goto, ↓e_tsw, ↓e_case0, ↓e_case1, ↓e_iret, ↓e_zret, ↓e_lret, ↓e_fret, ↓e_vret, ↓e_ok0, ↓e_ok1, ↓e_ok2, ↓e_ok4, ↓e_ok5, ↓e_ok6, ↓e_ok7, ↓e_ok8, ↓e_ok9, ↓e_ok3, ↓e_ok10, ↓e_ok11, ↓e_ok15, ↓e_ok16, ↓e_ok12, ↓e_ok13, ↓e_ok14, ↓e_ok17, ↓e_ok18, ↓e_ok19, ↓e_ok20, ↓e_ok21, ↓e_ok22, ↓e_ok23, ↓e_ok24, ↓e_ok25, ↓e_ok26, ↓e_ok27, ↓e_ok28, ↓e_ok29, ↓e_ok30, ↓e_ok31, ↓e_ok32, ↓e_ok33, ↓e_get_0_0, ↓e_get_0_1, ↓e_get_0_2, ↓e_get_0_3, ↓e_get_0_4, ↓e_get_0_5, ↓e_get_0_6, ↓e_get_0_7, ↓e_get_0_8, ↓e_get_0_9, ↓e_get_0_10, ↓e_puti_0, ↓e_putz_0, ↓e_putl_0, ↓e_get_10_0, ↓e_get_10_1, ↓e_get_10_2, ↓e_get_10_3, ↓e_get_10_4, ↓e_get_10_5, ↓e_puti_10, ↓e_putz_10, ↓e_putl_10, ↓e_get_12_0, ↓e_get_12_1, ↓e_get_12_2, ↓e_get_12_3, ↓e_puti_12, ↓e_putz_12, ↓e_putl_12, ↓e_get_18_0, ↓e_get_18_1, ↓e_puti_18, ↓e_putz_18, ↓e_putl_18, ↓e_get_21_0, ↓e_get_21_1, ↓e_puti_21, ↓e_putz_21, ↓e_putl_21, ↓e_get_23_0, ↓e_get_23_1, ↓e_get_23_2, ↓e_get_23_3, ↓e_get_23_4, ↓e_puti_23, ↓e_putz_23, ↓e_putl_23, ↓e_get_24_0, ↓e_get_24_1, ↓e_get_24_2, ↓e_get_24_3, ↓e_get_24_4, ↓e_get_24_5, ↓e_get_24_6, ↓e_get_24_7, ↓e_get_24_8, ↓e_get_24_9, ↓e_get_24_10, ↓e_puti_24, ↓e_putz_24, ↓e_putl_24, ↓e_iald_1, ↓e_iast_1, ↓e_iald_3, ↓e_iast_3, ↓e_iald_9, ↓e_iast_9, ↓e_iald_11, ↓e_iast_11, ↓e_lald_4, ↓e_last_4, ↓e_lald_5, ↓e_last_5, ↓e_lald_6, ↓e_last_6, ↓e_lald_7, ↓e_last_7, ↓e_lald_15, ↓e_last_15, ↓e_lald_16, ↓e_last_16, ↓e_lald_17, ↓e_last_17, ↓e_lald_19, ↓e_last_19, ↓e_lald_20, ↓e_last_20, ↓e_lald_25, ↓e_last_25, ↓e_lald_26, ↓e_last_26, ↓e_lald_27, ↓e_last_27, ↓e_lald_28, ↓e_last_28, ↓e_lald_29, ↓e_last_29, ↓e_lald_30, ↓e_last_30, ↓e_lald_31, ↓e_last_31, ↓e_lald_32, ↓e_last_32, ↓e_lald_33, ↓e_last_33, ↓e_aald_2, ↓e_aald_8, ↓e_aald_13, ↓e_aald_14, ↓e_aald_22, ↓e_aast, ↓e_acpi, ↓e_acpl, ↓e_mabs, ↓e_mabsl, ↓e_mmin, ↓e_mmax, ↓e_gets34, ↓e_sald34, ↓e_gets35, ↓e_sald35, ↓e_gets36, ↓e_sald36, ↓e_gets37, ↓e_sald37, ↓e_cats0, ↓e_cats_i, ↓e_cats_l, ↓e_cats_f, ↓e_cats_d, ↓e_cats_a, ↓e_callS0, ↓e_callV0, ↓e_callS1, ↓e_callV1, ↓e_callS2, ↓e_callV2, ↓e_callS3, ↓e_callV3, ↓e_callS4, ↓e_callV4, ↓e_callS5, ↓e_callV5, ↓e_callS6, ↓e_callV6, ↓e_tl1, ↓e_tl0, ↓zi_0_3, ↓zi_1_3, ↓zi_2_3, ↓zi_0_4, ↓zi_1_4, ↓zi_2_4, ↓zi_3_4, ↓zi_0_5, ↓zi_1_5, ↓zi_2_5, ↓zi_3_5, ↓zi_4_5, ↓zi_0_6, ↓zi_1_6, ↓zi_2_6, ↓zi_3_6, ↓zi_4_6, ↓zi_5_6, ↓zi_0_7, ↓zi_1_7, ↓zi_2_7, ↓zi_3_7, ↓zi_4_7, ↓zi_5_7, ↓zi_0_9, ↓zi_1_9, ↓zi_2_9, ↓zi_3_9, ↓zi_4_9, ↓zi_5_9, ↓zi_0_100, ↓zi_1_100, ↓zi_2_100, ↓zi_3_100, ↓zi_4_100, ↓zi_5_100, ↓zi_0_400, ↓zi_1_400, ↓zi_2_400, ↓zi_3_400, ↓zi_4_400, ↓zi_5_400, ↓zc_0, ↓zc_1, ↓s_X6_spans, ↓s_X6_wheelAt, ↓s_X6_reasons, ↓s_X6_works, ↓s_X6_wishOf, ↓s_X6_held, ↓s_X6_room, ↓s_X6_gives, q_cmp_lt, q_cmp_ge, q_cmp_gt, q_cmp_le, q_cmp_eq, q_cmp_i32, q_b_i32, q_b_0, ↓q_b01, true_and, and_true, true_implies, Nat.reduceAdd, Nat.reduceLeDiff, Int.reduceNeg, eq_self, or_true, true_or, implies_true]
      rw [hZ.cnt, z001, hZ.k6 hk, z103, eT 0 i0, eT 1 i1, eT 2 i2, hB.2.1, ewsm, hwd, hZ.k5 hk, eal]
      have g := fun (τ' : q_M) (e : ∀ (c : Int) (p : Nat) (k s : Int), p ≠ 25 → τ' c p k s = τ c p k s) (hE' : q_enc (τ' 0 25 0) (q_gvs W (w + 1) W)) => ih (w + 1) τ' (by omega) (hB.v e hE')
      have nx : Y 10 w 3 = 0 → q_gvs W (w + 1) W = q_gv Z w ws := fun q => by
        show (if W 10 w 3 = 0 then _ else _) = _
        rw [w103, if_pos q, hZd, ewsh]
      have nx0 : ¬ Y 10 w 3 = 0 → q_gvs W (w + 1) W = Z := fun q => by
        show (if W 10 w 3 = 0 then _ else _) = _
        rw [w103, if_neg q, hZd]
      have fy := hI.fl w hk
      refine ⟨⟨by omega, by omega⟩, ⟨by decide, by decide⟩, Or.inr ⟨⟨by omega, by omega⟩, ⟨by omega, by omega⟩⟩, fun q => absurd q (by omega), fun _ => ⟨⟨hk, ⟨by omega, by omega⟩⟩, fun q => ?_, fun q => ⟨⟨hk, ⟨by omega, by omega⟩, by omega, by omega⟩, ⟨by omega, by omega⟩, ⟨⟨by omega, by omega⟩, by omega, by omega⟩, Z, ⟨⟨n, gI⟩, hZ, hk, ⟨by omega, by omega⟩⟩, ?_⟩⟩⟩
      · exact g τ (fun _ _ _ _ _ => rfl) (by rw [nx0 q]; exact hZ)
      · rw [etq]
        have q' := Decidable.not_not.mp q
        rw [nx q'] at g
        have w8 := hZ.why.1
        have hv : ∀ (τ' : q_M) (f : Int → Int), (∀ (c : Int) (p : Nat) (k s : Int), p ≠ 25 → τ' c p k s = τ c p k s) → q_enc f (q_gv Z w ws) → X 126 (q_v τ' f) [some (zR 0 24 0), some (zI (w + 1 : Nat)), none, none, none, none, none, none] [] := fun τ' f e hE' => g (q_v τ' f) (fun c p k s hp => by
          show (if p = 25 then _ else _) = _
          rw [if_neg hp]
          exact e c p k s hp) hE'
        refine ⟨Or.inr ⟨⟨by omega, by omega⟩, ⟨by omega, by omega⟩⟩, fun z => ⟨hk, ?_⟩, fun z => ⟨⟨by decide, by decide⟩, Or.inr ⟨⟨by omega, by omega⟩, ⟨by decide, by decide⟩⟩, fun y => ⟨hk, ?_⟩, fun y => ⟨⟨by omega, by omega⟩, Or.inr ⟨⟨by omega, by omega⟩, ⟨by omega, by omega⟩⟩, fun x => ⟨hk, ?_⟩, fun x => ⟨hk, ?_⟩⟩⟩⟩
        · refine hC _ _ _ _ _ _ (q_leq.rf _) ?_ (hv τ _ (fun _ _ _ _ _ => rfl) (G.1 (fun c => c.1 z)))
          (repeat (first | exact q_sub_nil _ | apply q_sub_none | apply q_sub_some))
        · refine hC _ _ _ _ _ _ (q_leq.rf _) ?_ (hv τ _ (fun _ _ _ _ _ => rfl) (G.1 (fun c => y (w8.trans c.2))))
          (repeat (first | exact q_sub_nil _ | apply q_sub_none | apply q_sub_some))
        · have gg := G.2 ⟨z, by omega⟩
          rw [if_neg x, ← q_u_wr, ← q_u_wr, ← q_u_wr] at gg
          refine hC _ _ _ _ _ _ (q_leq.rf _) ?_ (hv _ _ (fun c p k s hp => by rw [qm_ne c p k s hp, qm_ne c p k s hp, qm_ne c p k s hp]) gg)
          (repeat (first | exact q_sub_nil _ | apply q_sub_none | apply q_sub_some))
        · have gg := G.2 ⟨z, by omega⟩
          rw [if_pos x, ← q_u_wr, ← q_u_wr, ← q_u_wr] at gg
          refine hC _ _ _ _ _ _ (q_leq.rf _) ?_ (hv _ _ (fun c p k s hp => by rw [qm_ne c p k s hp, qm_ne c p k s hp, qm_ne c p k s hp]) gg)
          (repeat (first | exact q_sub_nil _ | apply q_sub_none | apply q_sub_some))
  -- no span: the reasons, from the last wheel to the first
  generalize hV : q_g0 Y = V
  have v001 : V 0 0 1 = Y 0 0 1 := by rw [← hV]; rfl
  have v103 : ∀ k, V 10 k 3 = Y 10 k 3 := fun k => by rw [← hV]; exact if_neg (by omega)
  have hVI : q_Inv n V := by rw [← hV]; exact hI.g0
  have ffs := q_ff_spec V (Y 0 0 1).toNat
  have e3 : ∀ (f : Int → Int) (r : Int) (τ : q_M), τ 0 25 0 = q_u (q_u (q_u f 8 1) 9 r) 10 (-2000009) → ∀ k, q_in k 6 → τ 0 25 0 (40 + 8 * k + 6) = f (40 + 8 * k + 6) := fun f r τ e k hk => by
    have hk' : 0 ≤ k ∧ k < 6 := hk
    rw [e]
    unfold q_u
    rw [if_neg (by omega), if_neg (by omega), if_neg (by omega)]
  have l70 : ¬ 0 < q_det Y (-2000009) → ∀ (f : Int → Int), q_enc f V → ∀ (d : Nat) (r : Int) (τ : q_M), (d : Int) ≤ Y 0 0 1 → q_agv τ σ → τ 0 25 0 = q_u (q_u (q_u f 8 1) 9 r) 10 (-2000009) → ((r = -2000009 ∧ ∀ k : Int, (d : Int) ≤ k → k < Y 0 0 1 → V 10 k 3 = 0) ∨ (∃ k0 : Int, (d : Int) ≤ k0 ∧ k0 < Y 0 0 1 ∧ ¬ V 10 k0 3 = 0 ∧ (∀ k : Int, (d : Int) ≤ k → k < k0 → V 10 k 3 = 0) ∧ r = 10 + k0)) → X 70 τ [some (zR 0 24 0), some (zI ((d : Int) - 1)), none, none, none, none, none, none] [] := by
    intro hnp f hf d
    have es : q_sh Y = q_tn V := by
      unfold q_sh
      rw [if_neg hnp, hV]
    have eb : q_b (q_sh Y 9 0 0 = 0) = 0 := by
      rw [es]
      have e1 : q_tn V 9 0 0 = 1 := by simp [q_tn]
      rw [e1]
      exact q_b_f (by decide)
    rw [eb] at h
    induction d with
    | zero =>
      intro r τ hd hA he hr
      apply h70
      simp only [↓k_X6_shares_0, ↓k_X6_shares_113, ↓k_X6_shares_39, ↓k_X6_shares_8, ↓k_X6_shares_111, ↓k_X6_shares_104, ↓k_X6_shares_98, ↓k_X6_shares_70, ↓k_X6_shares_275, ↓k_X6_shares_274, ↓k_X6_shares_258, ↓k_X6_shares_252, ↓k_X6_shares_245, ↓k_X6_shares_242, ↓k_X6_shares_239, ↓k_X6_shares_126, ↓e_iadd, ↓e_isub, ↓e_imul, ↓e_ladd, ↓e_lsub, ↓e_lmul, ↓e_ineg, ↓e_lneg, ↓e_i2l, ↓e_l2i, ↓e_lcmp, ↓e_i2f, ↓e_l2f, ↓e_fdiv, ↓e_f2d, ↓e_fcmpl, ↓e_dcmpl, ↓e_ldiv, ↓e_lrem, ↓e_idiv, ↓e_irem, ↓e_lxor, ↓e_ishl, ↓e_ior, ↓e_iand, ↓e_ic, ↓e_lc, ↓e_fc, ↓e_kl_i, ↓e_kl_r, ↓e_kl_f, ↓e_kl_n, ↓e_kl_l, ↓e_kl_d, ↓e_ild0, ↓e_ist0, ↓e_ild1, ↓e_ist1, ↓e_ild2, ↓e_ist2, ↓e_ild3, ↓e_ist3, ↓e_ild4, ↓e_ist4, ↓e_ild5, ↓e_ist5, ↓e_ild6, ↓e_ist6, ↓e_ild7, ↓e_ist7, ↓e_ild8, ↓e_ist8, ↓e_ild9, ↓e_ist9, ↓e_ild10, ↓e_ist10, ↓e_ild11, ↓e_ist11, ↓e_inc0, ↓e_inc1, ↓e_inc2, ↓e_inc3, ↓e_inc4, ↓e_inc5, ↓e_inc6, ↓e_inc7, ↓e_inc8, ↓e_inc9, ↓e_inc10, ↓e_inc11, ↓e_lld0, ↓e_lst0, ↓e_lld1, ↓e_lst1, ↓e_lld2, ↓e_lst2, ↓e_lld3, ↓e_lst3, ↓e_lld4, ↓e_lst4, ↓e_lld5, ↓e_lst5, ↓e_lld6, ↓e_lst6, ↓e_lld7, ↓e_lst7, ↓e_lld8, ↓e_lst8, ↓e_lld9, ↓e_lst9, ↓e_lld10, ↓e_lst10, ↓e_lld11, ↓e_lst11, ↓e_fld0, ↓e_fst0, ↓e_fld1, ↓e_fst1, ↓e_fld2, ↓e_fst2, ↓e_fld3, ↓e_fst3, ↓e_fld4, ↓e_fst4, ↓e_fld5, ↓e_fst5, ↓e_fld6, ↓e_fst6, ↓e_fld7, ↓e_fst7, ↓e_fld8, ↓e_fst8, ↓e_fld9, ↓e_fst9, ↓e_fld10, ↓e_fst10, ↓e_fld11, ↓e_fst11, ↓e_dld0, ↓e_dst0, ↓e_dld1, ↓e_dst1, ↓e_dld2, ↓e_dst2, ↓e_dld3, ↓e_dst3, ↓e_dld4, ↓e_dst4, ↓e_dld5, ↓e_dst5, ↓e_dld6, ↓e_dst6, ↓e_dld7, ↓e_dst7, ↓e_dld8, ↓e_dst8, ↓e_dld9, ↓e_dst9, ↓e_dld10, ↓e_dst10, ↓e_dld11, ↓e_dst11, ↓e_ald0, ↓e_ast0, ↓e_ald1, ↓e_ast1, ↓e_ald2, ↓e_ast2, ↓e_ald3, ↓e_ast3, ↓e_ald4, ↓e_ast4, ↓e_ald5, ↓e_ast5, ↓e_ald6, ↓e_ast6, ↓e_ald7, ↓e_ast7, ↓e_ald8, ↓e_ast8, ↓e_ald9, ↓e_ast9, ↓e_ald10, ↓e_ast10, ↓e_ald11, ↓e_ast11, ↓e_dupr, ↓e_dupi, ↓e_dup2, ↓e_dup2l, ↓e_ifeq, ↓e_icmpeq, ↓e_ifne, ↓e_icmpne, ↓e_iflt, ↓e_icmplt, ↓e_ifge, ↓e_icmpge, ↓e_ifgt, ↓e_icmpgt, ↓e_ifle, ↓e_icmple, ↓e_goto, ↓e_tsw, ↓e_case0, ↓e_case1, ↓e_iret, ↓e_zret, ↓e_lret, ↓e_fret, ↓e_vret, ↓e_ok0, ↓e_ok1, ↓e_ok2, ↓e_ok4, ↓e_ok5, ↓e_ok6, ↓e_ok7, ↓e_ok8, ↓e_ok9, ↓e_ok3, ↓e_ok10, ↓e_ok11, ↓e_ok15, ↓e_ok16, ↓e_ok12, ↓e_ok13, ↓e_ok14, ↓e_ok17, ↓e_ok18, ↓e_ok19, ↓e_ok20, ↓e_ok21, ↓e_ok22, ↓e_ok23, ↓e_ok24, ↓e_ok25, ↓e_ok26, ↓e_ok27, ↓e_ok28, ↓e_ok29, ↓e_ok30, ↓e_ok31, ↓e_ok32, ↓e_ok33, ↓e_get_0_0, ↓e_get_0_1, ↓e_get_0_2, ↓e_get_0_3, ↓e_get_0_4, ↓e_get_0_5, ↓e_get_0_6, ↓e_get_0_7, ↓e_get_0_8, ↓e_get_0_9, ↓e_get_0_10, ↓e_puti_0, ↓e_putz_0, ↓e_putl_0, ↓e_get_10_0, ↓e_get_10_1, ↓e_get_10_2, ↓e_get_10_3, ↓e_get_10_4, ↓e_get_10_5, ↓e_puti_10, ↓e_putz_10, ↓e_putl_10, ↓e_get_12_0, ↓e_get_12_1, ↓e_get_12_2, ↓e_get_12_3, ↓e_puti_12, ↓e_putz_12, ↓e_putl_12, ↓e_get_18_0, ↓e_get_18_1, ↓e_puti_18, ↓e_putz_18, ↓e_putl_18, ↓e_get_21_0, ↓e_get_21_1, ↓e_puti_21, ↓e_putz_21, ↓e_putl_21, ↓e_get_23_0, ↓e_get_23_1, ↓e_get_23_2, ↓e_get_23_3, ↓e_get_23_4, ↓e_puti_23, ↓e_putz_23, ↓e_putl_23, ↓e_get_24_0, ↓e_get_24_1, ↓e_get_24_2, ↓e_get_24_3, ↓e_get_24_4, ↓e_get_24_5, ↓e_get_24_6, ↓e_get_24_7, ↓e_get_24_8, ↓e_get_24_9, ↓e_get_24_10, ↓e_puti_24, ↓e_putz_24, ↓e_putl_24, ↓e_iald_1, ↓e_iast_1, ↓e_iald_3, ↓e_iast_3, ↓e_iald_9, ↓e_iast_9, ↓e_iald_11, ↓e_iast_11, ↓e_lald_4, ↓e_last_4, ↓e_lald_5, ↓e_last_5, ↓e_lald_6, ↓e_last_6, ↓e_lald_7, ↓e_last_7, ↓e_lald_15, ↓e_last_15, ↓e_lald_16, ↓e_last_16, ↓e_lald_17, ↓e_last_17, ↓e_lald_19, ↓e_last_19, ↓e_lald_20, ↓e_last_20, ↓e_lald_25, ↓e_last_25, ↓e_lald_26, ↓e_last_26, ↓e_lald_27, ↓e_last_27, ↓e_lald_28, ↓e_last_28, ↓e_lald_29, ↓e_last_29, ↓e_lald_30, ↓e_last_30, ↓e_lald_31, ↓e_last_31, ↓e_lald_32, ↓e_last_32, ↓e_lald_33, ↓e_last_33, ↓e_aald_2, ↓e_aald_8, ↓e_aald_13, ↓e_aald_14, ↓e_aald_22, ↓e_aast, ↓e_acpi, ↓e_acpl, ↓e_mabs, ↓e_mabsl, ↓e_mmin, ↓e_mmax, ↓e_gets34, ↓e_sald34, ↓e_gets35, ↓e_sald35, ↓e_gets36, ↓e_sald36, ↓e_gets37, ↓e_sald37, ↓e_cats0, ↓e_cats_i, ↓e_cats_l, ↓e_cats_f, ↓e_cats_d, ↓e_cats_a, ↓e_callS0, ↓e_callV0, ↓e_callS1, ↓e_callV1, ↓e_callS2, ↓e_callV2, ↓e_callS3, ↓e_callV3, ↓e_callS4, ↓e_callV4, ↓e_callS5, ↓e_callV5, ↓e_callS6, ↓e_callV6, ↓e_tl1, ↓e_tl0, ↓zi_0_3, ↓zi_1_3, ↓zi_2_3, ↓zi_0_4, ↓zi_1_4, ↓zi_2_4, ↓zi_3_4, ↓zi_0_5, ↓zi_1_5, ↓zi_2_5, ↓zi_3_5, ↓zi_4_5, ↓zi_0_6, ↓zi_1_6, ↓zi_2_6, ↓zi_3_6, ↓zi_4_6, ↓zi_5_6, ↓zi_0_7, ↓zi_1_7, ↓zi_2_7, ↓zi_3_7, ↓zi_4_7, ↓zi_5_7, ↓zi_0_9, ↓zi_1_9, ↓zi_2_9, ↓zi_3_9, ↓zi_4_9, ↓zi_5_9, ↓zi_0_100, ↓zi_1_100, ↓zi_2_100, ↓zi_3_100, ↓zi_4_100, ↓zi_5_100, ↓zi_0_400, ↓zi_1_400, ↓zi_2_400, ↓zi_3_400, ↓zi_4_400, ↓zi_5_400, ↓zc_0, ↓zc_1, ↓s_X6_spans, ↓s_X6_wheelAt, ↓s_X6_reasons, ↓s_X6_works, ↓s_X6_wishOf, ↓s_X6_held, ↓s_X6_room, ↓s_X6_gives, q_cmp_lt, q_cmp_ge, q_cmp_gt, q_cmp_le, q_cmp_eq, q_cmp_i32, q_b_i32, q_b_0, ↓q_b01, true_and, and_true, true_implies, Nat.reduceAdd, Nat.reduceLeDiff, Int.reduceNeg, eq_self, or_true, true_or, implies_true]
      refine ⟨⟨by decide, by decide⟩, fun _ => q_out.i (h τ hA ?_), fun q => absurd (by decide) q⟩
      rw [es, he]
      refine hf.ur (Y := q_tn V) (by simp [q_tn]) ?_ ?_ (fun p k s h1 h2 => ?_)
      · unfold q_tn
        rw [v001]
        rcases ffs with ⟨a, b⟩ | ⟨a, b, c, e⟩
        · rcases hr with ⟨c, e⟩ | ⟨k0, c, e, g1, g2, g3⟩
          · simp [a, c]
          · exact absurd (b k0 (by omega) (by omega)) g1
        · rcases hr with ⟨g1, g2⟩ | ⟨k0, c', e', g1, g2, g3⟩
          · exact absurd (g2 _ (by omega) (by omega)) c
          · have hk0 : k0 = q_ff V (Y 0 0 1).toNat := by
              rcases Int.lt_trichotomy k0 (q_ff V (Y 0 0 1).toNat) with lt | eq | gt
              · exact absurd (e k0 (by omega) lt) g1
              · exact eq
              · exact absurd (g2 _ (by omega) gt) c
            simp [a, g3, hk0]
      · unfold q_tn
        rw [v001]
        rcases ffs with ⟨a, b⟩ | ⟨a, b, c, e⟩
        · simp [a]
        · simp [a]
      · unfold q_tn
        rw [if_neg (by omega), if_neg (by omega), if_neg h2]
    | succ d ih =>
      intro r τ hd hA he hr
      have hk : q_in (d : Int) 6 := ⟨by omega, by omega⟩
      have ek : τ 0 25 0 (40 + 8 * d + 6) = V 10 d 3 := by rw [e3 f r τ he d hk]; exact hf.k6 hk
      have fl := hVI.fl d hk
      have e9 : τ 0 25 0 9 = r := by rw [he]; simp [q_u]
      have un : ∀ r', q_wr τ 0 25 0 9 r' 0 25 0 = q_u (q_u (q_u f 8 1) 9 r') 10 (-2000009) := fun r' => by
        rw [q_u_wr, he]
        funext s
        unfold q_u
        by_cases z : s = 9
        · rw [if_pos z, if_neg (by omega), if_pos z]
        · rw [if_neg z]
          by_cases y : s = 10
          · rw [if_pos y, if_pos y]
          · rw [if_neg y, if_neg z, if_neg y, if_neg z]
      have hA' : ∀ r', q_agv (q_wr τ 0 25 0 9 r') σ := fun r' c p k s h1 h2 h3 => by rw [qm_ne c p k s h1]; exact hA c p k s h1 h2 h3
      have gy := fun r' hr' => ih r' (q_wr τ 0 25 0 9 r') (by omega) (hA' r') (un r') hr'
      have ed : ((d + 1 : Nat) : Int) - 1 = d := by omega
      rw [ed]
      apply h70
      simp only [↓k_X6_shares_0, ↓k_X6_shares_113, ↓k_X6_shares_39, ↓k_X6_shares_8, ↓k_X6_shares_111, ↓k_X6_shares_104, ↓k_X6_shares_98, ↓k_X6_shares_70, ↓k_X6_shares_275, ↓k_X6_shares_274, ↓k_X6_shares_258, ↓k_X6_shares_252, ↓k_X6_shares_245, ↓k_X6_shares_242, ↓k_X6_shares_239, ↓k_X6_shares_126, ↓e_iadd, ↓e_isub, ↓e_imul, ↓e_ladd, ↓e_lsub, ↓e_lmul, ↓e_ineg, ↓e_lneg, ↓e_i2l, ↓e_l2i, ↓e_lcmp, ↓e_i2f, ↓e_l2f, ↓e_fdiv, ↓e_f2d, ↓e_fcmpl, ↓e_dcmpl, ↓e_ldiv, ↓e_lrem, ↓e_idiv, ↓e_irem, ↓e_lxor, ↓e_ishl, ↓e_ior, ↓e_iand, ↓e_ic, ↓e_lc, ↓e_fc, ↓e_kl_i, ↓e_kl_r, ↓e_kl_f, ↓e_kl_n, ↓e_kl_l, ↓e_kl_d, ↓e_ild0, ↓e_ist0, ↓e_ild1, ↓e_ist1, ↓e_ild2, ↓e_ist2, ↓e_ild3, ↓e_ist3, ↓e_ild4, ↓e_ist4, ↓e_ild5, ↓e_ist5, ↓e_ild6, ↓e_ist6, ↓e_ild7, ↓e_ist7, ↓e_ild8, ↓e_ist8, ↓e_ild9, ↓e_ist9, ↓e_ild10, ↓e_ist10, ↓e_ild11, ↓e_ist11, ↓e_inc0, ↓e_inc1, ↓e_inc2, ↓e_inc3, ↓e_inc4, ↓e_inc5, ↓e_inc6, ↓e_inc7, ↓e_inc8, ↓e_inc9, ↓e_inc10, ↓e_inc11, ↓e_lld0, ↓e_lst0, ↓e_lld1, ↓e_lst1, ↓e_lld2, ↓e_lst2, ↓e_lld3, ↓e_lst3, ↓e_lld4, ↓e_lst4, ↓e_lld5, ↓e_lst5, ↓e_lld6, ↓e_lst6, ↓e_lld7, ↓e_lst7, ↓e_lld8, ↓e_lst8, ↓e_lld9, ↓e_lst9, ↓e_lld10, ↓e_lst10, ↓e_lld11, ↓e_lst11, ↓e_fld0, ↓e_fst0, ↓e_fld1, ↓e_fst1, ↓e_fld2, ↓e_fst2, ↓e_fld3, ↓e_fst3, ↓e_fld4, ↓e_fst4, ↓e_fld5, ↓e_fst5, ↓e_fld6, ↓e_fst6, ↓e_fld7, ↓e_fst7, ↓e_fld8, ↓e_fst8, ↓e_fld9, ↓e_fst9, ↓e_fld10, ↓e_fst10, ↓e_fld11, ↓e_fst11, ↓e_dld0, ↓e_dst0, ↓e_dld1, ↓e_dst1, ↓e_dld2, ↓e_dst2, ↓e_dld3, ↓e_dst3, ↓e_dld4, ↓e_dst4, ↓e_dld5, ↓e_dst5, ↓e_dld6, ↓e_dst6, ↓e_dld7, ↓e_dst7, ↓e_dld8, ↓e_dst8, ↓e_dld9, ↓e_dst9, ↓e_dld10, ↓e_dst10, ↓e_dld11, ↓e_dst11, ↓e_ald0, ↓e_ast0, ↓e_ald1, ↓e_ast1, ↓e_ald2, ↓e_ast2, ↓e_ald3, ↓e_ast3, ↓e_ald4, ↓e_ast4, ↓e_ald5, ↓e_ast5, ↓e_ald6, ↓e_ast6, ↓e_ald7, ↓e_ast7, ↓e_ald8, ↓e_ast8, ↓e_ald9, ↓e_ast9, ↓e_ald10, ↓e_ast10, ↓e_ald11, ↓e_ast11, ↓e_dupr, ↓e_dupi, ↓e_dup2, ↓e_dup2l, ↓e_ifeq, ↓e_icmpeq, ↓e_ifne, ↓e_icmpne, ↓e_iflt, ↓e_icmplt, ↓e_ifge, ↓e_icmpge, ↓e_ifgt, ↓e_icmpgt, ↓e_ifle, ↓e_icmple, ↓e_goto, ↓e_tsw, ↓e_case0, ↓e_case1, ↓e_iret, ↓e_zret, ↓e_lret, ↓e_fret, ↓e_vret, ↓e_ok0, ↓e_ok1, ↓e_ok2, ↓e_ok4, ↓e_ok5, ↓e_ok6, ↓e_ok7, ↓e_ok8, ↓e_ok9, ↓e_ok3, ↓e_ok10, ↓e_ok11, ↓e_ok15, ↓e_ok16, ↓e_ok12, ↓e_ok13, ↓e_ok14, ↓e_ok17, ↓e_ok18, ↓e_ok19, ↓e_ok20, ↓e_ok21, ↓e_ok22, ↓e_ok23, ↓e_ok24, ↓e_ok25, ↓e_ok26, ↓e_ok27, ↓e_ok28, ↓e_ok29, ↓e_ok30, ↓e_ok31, ↓e_ok32, ↓e_ok33, ↓e_get_0_0, ↓e_get_0_1, ↓e_get_0_2, ↓e_get_0_3, ↓e_get_0_4, ↓e_get_0_5, ↓e_get_0_6, ↓e_get_0_7, ↓e_get_0_8, ↓e_get_0_9, ↓e_get_0_10, ↓e_puti_0, ↓e_putz_0, ↓e_putl_0, ↓e_get_10_0, ↓e_get_10_1, ↓e_get_10_2, ↓e_get_10_3, ↓e_get_10_4, ↓e_get_10_5, ↓e_puti_10, ↓e_putz_10, ↓e_putl_10, ↓e_get_12_0, ↓e_get_12_1, ↓e_get_12_2, ↓e_get_12_3, ↓e_puti_12, ↓e_putz_12, ↓e_putl_12, ↓e_get_18_0, ↓e_get_18_1, ↓e_puti_18, ↓e_putz_18, ↓e_putl_18, ↓e_get_21_0, ↓e_get_21_1, ↓e_puti_21, ↓e_putz_21, ↓e_putl_21, ↓e_get_23_0, ↓e_get_23_1, ↓e_get_23_2, ↓e_get_23_3, ↓e_get_23_4, ↓e_puti_23, ↓e_putz_23, ↓e_putl_23, ↓e_get_24_0, ↓e_get_24_1, ↓e_get_24_2, ↓e_get_24_3, ↓e_get_24_4, ↓e_get_24_5, ↓e_get_24_6, ↓e_get_24_7, ↓e_get_24_8, ↓e_get_24_9, ↓e_get_24_10, ↓e_puti_24, ↓e_putz_24, ↓e_putl_24, ↓e_iald_1, ↓e_iast_1, ↓e_iald_3, ↓e_iast_3, ↓e_iald_9, ↓e_iast_9, ↓e_iald_11, ↓e_iast_11, ↓e_lald_4, ↓e_last_4, ↓e_lald_5, ↓e_last_5, ↓e_lald_6, ↓e_last_6, ↓e_lald_7, ↓e_last_7, ↓e_lald_15, ↓e_last_15, ↓e_lald_16, ↓e_last_16, ↓e_lald_17, ↓e_last_17, ↓e_lald_19, ↓e_last_19, ↓e_lald_20, ↓e_last_20, ↓e_lald_25, ↓e_last_25, ↓e_lald_26, ↓e_last_26, ↓e_lald_27, ↓e_last_27, ↓e_lald_28, ↓e_last_28, ↓e_lald_29, ↓e_last_29, ↓e_lald_30, ↓e_last_30, ↓e_lald_31, ↓e_last_31, ↓e_lald_32, ↓e_last_32, ↓e_lald_33, ↓e_last_33, ↓e_aald_2, ↓e_aald_8, ↓e_aald_13, ↓e_aald_14, ↓e_aald_22, ↓e_aast, ↓e_acpi, ↓e_acpl, ↓e_mabs, ↓e_mabsl, ↓e_mmin, ↓e_mmax, ↓e_gets34, ↓e_sald34, ↓e_gets35, ↓e_sald35, ↓e_gets36, ↓e_sald36, ↓e_gets37, ↓e_sald37, ↓e_cats0, ↓e_cats_i, ↓e_cats_l, ↓e_cats_f, ↓e_cats_d, ↓e_cats_a, ↓e_callS0, ↓e_callV0, ↓e_callS1, ↓e_callV1, ↓e_callS2, ↓e_callV2, ↓e_callS3, ↓e_callV3, ↓e_callS4, ↓e_callV4, ↓e_callS5, ↓e_callV5, ↓e_callS6, ↓e_callV6, ↓e_tl1, ↓e_tl0, ↓zi_0_3, ↓zi_1_3, ↓zi_2_3, ↓zi_0_4, ↓zi_1_4, ↓zi_2_4, ↓zi_3_4, ↓zi_0_5, ↓zi_1_5, ↓zi_2_5, ↓zi_3_5, ↓zi_4_5, ↓zi_0_6, ↓zi_1_6, ↓zi_2_6, ↓zi_3_6, ↓zi_4_6, ↓zi_5_6, ↓zi_0_7, ↓zi_1_7, ↓zi_2_7, ↓zi_3_7, ↓zi_4_7, ↓zi_5_7, ↓zi_0_9, ↓zi_1_9, ↓zi_2_9, ↓zi_3_9, ↓zi_4_9, ↓zi_5_9, ↓zi_0_100, ↓zi_1_100, ↓zi_2_100, ↓zi_3_100, ↓zi_4_100, ↓zi_5_100, ↓zi_0_400, ↓zi_1_400, ↓zi_2_400, ↓zi_3_400, ↓zi_4_400, ↓zi_5_400, ↓zc_0, ↓zc_1, ↓s_X6_spans, ↓s_X6_wheelAt, ↓s_X6_reasons, ↓s_X6_works, ↓s_X6_wishOf, ↓s_X6_held, ↓s_X6_room, ↓s_X6_gives, q_cmp_lt, q_cmp_ge, q_cmp_gt, q_cmp_le, q_cmp_eq, q_cmp_i32, q_b_i32, q_b_0, ↓q_b01, true_and, and_true, true_implies, Nat.reduceAdd, Nat.reduceLeDiff, Int.reduceNeg, eq_self, or_true, true_or, implies_true]
      have ed2 : (d : Int) + -1 = d - 1 := by omega
      rw [ek, e9, ed2]
      refine ⟨⟨by omega, by omega⟩, fun q => absurd q (by omega), fun _ => ⟨⟨hk, ⟨by omega, by omega⟩⟩, fun z => ⟨⟨by omega, by omega⟩, ⟨by decide, by decide⟩, gy _ (Or.inr ⟨d, Int.le_refl _, by omega, z, fun k h1 h2 => absurd h1 (by omega), rfl⟩)⟩, fun z => ⟨⟨by decide, by decide⟩, ⟨by decide, by decide⟩, gy _ ?_⟩⟩⟩
      have z' := Decidable.not_not.mp z
      rcases hr with ⟨c, e⟩ | ⟨k0, c, e, g1, g2, g3⟩
      · refine Or.inl ⟨c, fun k h1 h2 => ?_⟩
        by_cases y : k = d
        · rw [y]; exact z'
        · exact e k (by omega) h2
      · refine Or.inr ⟨k0, by omega, e, g1, fun k h1 h2 => ?_, g3⟩
        by_cases y : k = d
        · rw [y]; exact z'
        · exact g2 k (by omega) h2
  apply h0
  simp only [↓k_X6_shares_0, ↓k_X6_shares_113, ↓k_X6_shares_39, ↓k_X6_shares_8, ↓k_X6_shares_111, ↓k_X6_shares_104, ↓k_X6_shares_98, ↓k_X6_shares_70, ↓k_X6_shares_275, ↓k_X6_shares_274, ↓k_X6_shares_258, ↓k_X6_shares_252, ↓k_X6_shares_245, ↓k_X6_shares_242, ↓k_X6_shares_239, ↓k_X6_shares_126, ↓e_iadd, ↓e_isub, ↓e_imul, ↓e_ladd, ↓e_lsub, ↓e_lmul, ↓e_ineg, ↓e_lneg, ↓e_i2l, ↓e_l2i, ↓e_lcmp, ↓e_i2f, ↓e_l2f, ↓e_fdiv, ↓e_f2d, ↓e_fcmpl, ↓e_dcmpl, ↓e_ldiv, ↓e_lrem, ↓e_idiv, ↓e_irem, ↓e_lxor, ↓e_ishl, ↓e_ior, ↓e_iand, ↓e_ic, ↓e_lc, ↓e_fc, ↓e_kl_i, ↓e_kl_r, ↓e_kl_f, ↓e_kl_n, ↓e_kl_l, ↓e_kl_d, ↓e_ild0, ↓e_ist0, ↓e_ild1, ↓e_ist1, ↓e_ild2, ↓e_ist2, ↓e_ild3, ↓e_ist3, ↓e_ild4, ↓e_ist4, ↓e_ild5, ↓e_ist5, ↓e_ild6, ↓e_ist6, ↓e_ild7, ↓e_ist7, ↓e_ild8, ↓e_ist8, ↓e_ild9, ↓e_ist9, ↓e_ild10, ↓e_ist10, ↓e_ild11, ↓e_ist11, ↓e_inc0, ↓e_inc1, ↓e_inc2, ↓e_inc3, ↓e_inc4, ↓e_inc5, ↓e_inc6, ↓e_inc7, ↓e_inc8, ↓e_inc9, ↓e_inc10, ↓e_inc11, ↓e_lld0, ↓e_lst0, ↓e_lld1, ↓e_lst1, ↓e_lld2, ↓e_lst2, ↓e_lld3, ↓e_lst3, ↓e_lld4, ↓e_lst4, ↓e_lld5, ↓e_lst5, ↓e_lld6, ↓e_lst6, ↓e_lld7, ↓e_lst7, ↓e_lld8, ↓e_lst8, ↓e_lld9, ↓e_lst9, ↓e_lld10, ↓e_lst10, ↓e_lld11, ↓e_lst11, ↓e_fld0, ↓e_fst0, ↓e_fld1, ↓e_fst1, ↓e_fld2, ↓e_fst2, ↓e_fld3, ↓e_fst3, ↓e_fld4, ↓e_fst4, ↓e_fld5, ↓e_fst5, ↓e_fld6, ↓e_fst6, ↓e_fld7, ↓e_fst7, ↓e_fld8, ↓e_fst8, ↓e_fld9, ↓e_fst9, ↓e_fld10, ↓e_fst10, ↓e_fld11, ↓e_fst11, ↓e_dld0, ↓e_dst0, ↓e_dld1, ↓e_dst1, ↓e_dld2, ↓e_dst2, ↓e_dld3, ↓e_dst3, ↓e_dld4, ↓e_dst4, ↓e_dld5, ↓e_dst5, ↓e_dld6, ↓e_dst6, ↓e_dld7, ↓e_dst7, ↓e_dld8, ↓e_dst8, ↓e_dld9, ↓e_dst9, ↓e_dld10, ↓e_dst10, ↓e_dld11, ↓e_dst11, ↓e_ald0, ↓e_ast0, ↓e_ald1, ↓e_ast1, ↓e_ald2, ↓e_ast2, ↓e_ald3, ↓e_ast3, ↓e_ald4, ↓e_ast4, ↓e_ald5, ↓e_ast5, ↓e_ald6, ↓e_ast6, ↓e_ald7, ↓e_ast7, ↓e_ald8, ↓e_ast8, ↓e_ald9, ↓e_ast9, ↓e_ald10, ↓e_ast10, ↓e_ald11, ↓e_ast11, ↓e_dupr, ↓e_dupi, ↓e_dup2, ↓e_dup2l, ↓e_ifeq, ↓e_icmpeq, ↓e_ifne, ↓e_icmpne, ↓e_iflt, ↓e_icmplt, ↓e_ifge, ↓e_icmpge, ↓e_ifgt, ↓e_icmpgt, ↓e_ifle, ↓e_icmple, ↓e_goto, ↓e_tsw, ↓e_case0, ↓e_case1, ↓e_iret, ↓e_zret, ↓e_lret, ↓e_fret, ↓e_vret, ↓e_ok0, ↓e_ok1, ↓e_ok2, ↓e_ok4, ↓e_ok5, ↓e_ok6, ↓e_ok7, ↓e_ok8, ↓e_ok9, ↓e_ok3, ↓e_ok10, ↓e_ok11, ↓e_ok15, ↓e_ok16, ↓e_ok12, ↓e_ok13, ↓e_ok14, ↓e_ok17, ↓e_ok18, ↓e_ok19, ↓e_ok20, ↓e_ok21, ↓e_ok22, ↓e_ok23, ↓e_ok24, ↓e_ok25, ↓e_ok26, ↓e_ok27, ↓e_ok28, ↓e_ok29, ↓e_ok30, ↓e_ok31, ↓e_ok32, ↓e_ok33, ↓e_get_0_0, ↓e_get_0_1, ↓e_get_0_2, ↓e_get_0_3, ↓e_get_0_4, ↓e_get_0_5, ↓e_get_0_6, ↓e_get_0_7, ↓e_get_0_8, ↓e_get_0_9, ↓e_get_0_10, ↓e_puti_0, ↓e_putz_0, ↓e_putl_0, ↓e_get_10_0, ↓e_get_10_1, ↓e_get_10_2, ↓e_get_10_3, ↓e_get_10_4, ↓e_get_10_5, ↓e_puti_10, ↓e_putz_10, ↓e_putl_10, ↓e_get_12_0, ↓e_get_12_1, ↓e_get_12_2, ↓e_get_12_3, ↓e_puti_12, ↓e_putz_12, ↓e_putl_12, ↓e_get_18_0, ↓e_get_18_1, ↓e_puti_18, ↓e_putz_18, ↓e_putl_18, ↓e_get_21_0, ↓e_get_21_1, ↓e_puti_21, ↓e_putz_21, ↓e_putl_21, ↓e_get_23_0, ↓e_get_23_1, ↓e_get_23_2, ↓e_get_23_3, ↓e_get_23_4, ↓e_puti_23, ↓e_putz_23, ↓e_putl_23, ↓e_get_24_0, ↓e_get_24_1, ↓e_get_24_2, ↓e_get_24_3, ↓e_get_24_4, ↓e_get_24_5, ↓e_get_24_6, ↓e_get_24_7, ↓e_get_24_8, ↓e_get_24_9, ↓e_get_24_10, ↓e_puti_24, ↓e_putz_24, ↓e_putl_24, ↓e_iald_1, ↓e_iast_1, ↓e_iald_3, ↓e_iast_3, ↓e_iald_9, ↓e_iast_9, ↓e_iald_11, ↓e_iast_11, ↓e_lald_4, ↓e_last_4, ↓e_lald_5, ↓e_last_5, ↓e_lald_6, ↓e_last_6, ↓e_lald_7, ↓e_last_7, ↓e_lald_15, ↓e_last_15, ↓e_lald_16, ↓e_last_16, ↓e_lald_17, ↓e_last_17, ↓e_lald_19, ↓e_last_19, ↓e_lald_20, ↓e_last_20, ↓e_lald_25, ↓e_last_25, ↓e_lald_26, ↓e_last_26, ↓e_lald_27, ↓e_last_27, ↓e_lald_28, ↓e_last_28, ↓e_lald_29, ↓e_last_29, ↓e_lald_30, ↓e_last_30, ↓e_lald_31, ↓e_last_31, ↓e_lald_32, ↓e_last_32, ↓e_lald_33, ↓e_last_33, ↓e_aald_2, ↓e_aald_8, ↓e_aald_13, ↓e_aald_14, ↓e_aald_22, ↓e_aast, ↓e_acpi, ↓e_acpl, ↓e_mabs, ↓e_mabsl, ↓e_mmin, ↓e_mmax, ↓e_gets34, ↓e_sald34, ↓e_gets35, ↓e_sald35, ↓e_gets36, ↓e_sald36, ↓e_gets37, ↓e_sald37, ↓e_cats0, ↓e_cats_i, ↓e_cats_l, ↓e_cats_f, ↓e_cats_d, ↓e_cats_a, ↓e_callS0, ↓e_callV0, ↓e_callS1, ↓e_callV1, ↓e_callS2, ↓e_callV2, ↓e_callS3, ↓e_callV3, ↓e_callS4, ↓e_callV4, ↓e_callS5, ↓e_callV5, ↓e_callS6, ↓e_callV6, ↓e_tl1, ↓e_tl0, ↓zi_0_3, ↓zi_1_3, ↓zi_2_3, ↓zi_0_4, ↓zi_1_4, ↓zi_2_4, ↓zi_3_4, ↓zi_0_5, ↓zi_1_5, ↓zi_2_5, ↓zi_3_5, ↓zi_4_5, ↓zi_0_6, ↓zi_1_6, ↓zi_2_6, ↓zi_3_6, ↓zi_4_6, ↓zi_5_6, ↓zi_0_7, ↓zi_1_7, ↓zi_2_7, ↓zi_3_7, ↓zi_4_7, ↓zi_5_7, ↓zi_0_9, ↓zi_1_9, ↓zi_2_9, ↓zi_3_9, ↓zi_4_9, ↓zi_5_9, ↓zi_0_100, ↓zi_1_100, ↓zi_2_100, ↓zi_3_100, ↓zi_4_100, ↓zi_5_100, ↓zi_0_400, ↓zi_1_400, ↓zi_2_400, ↓zi_3_400, ↓zi_4_400, ↓zi_5_400, ↓zc_0, ↓zc_1, ↓s_X6_spans, ↓s_X6_wheelAt, ↓s_X6_reasons, ↓s_X6_works, ↓s_X6_wishOf, ↓s_X6_held, ↓s_X6_room, ↓s_X6_gives, q_cmp_lt, q_cmp_ge, q_cmp_gt, q_cmp_le, q_cmp_eq, q_cmp_i32, q_b_i32, q_b_0, ↓q_b01, true_and, and_true, true_implies, Nat.reduceAdd, Nat.reduceLeDiff, Int.reduceNeg, eq_self, or_true, true_or, implies_true]
  refine ⟨Y, ⟨⟨n, hI⟩, hE, ⟨by decide, by decide⟩⟩, fun τ0 ht hd hc => ?_⟩
  have B0 : qm_B σ Y τ0 Y := ⟨fun c p k s a b d => ht c p k s (by omega) (by omega) d, hd, hc, fun i hi => by rw [ht 0 30 0 i (by decide) (by decide) (by omega)]; exact hT i hi, by rw [show τ0 0 25 0 = σ 0 25 0 from funext fun s => ht 0 25 0 s (by decide) (by decide) (by omega)]; exact hE⟩
  have l8 : ∀ (d w : Nat) (τ : q_M), w + d = (Y 0 0 1).toNat → qm_B σ Y τ (qm_h Y w) → X 8 τ [some (zR 0 24 0), some (zI w), none, none, none, none, none, none] [] := by
    intro d
    induction d with
    | zero =>
      intro w τ hw hB
      obtain rfl : w = (Y 0 0 1).toNat := by omega
      have hZ := hB.2.2.2.2
      have eV : qm_h Y ((Y 0 0 1).toNat : Nat) = V := by
        rw [← hV, show (((Y 0 0 1).toNat : Nat) : Int) = Y 0 0 1 by omega]
        rfl
      rw [eV] at hZ hB
      apply h8
      simp only [↓k_X6_shares_0, ↓k_X6_shares_113, ↓k_X6_shares_39, ↓k_X6_shares_8, ↓k_X6_shares_111, ↓k_X6_shares_104, ↓k_X6_shares_98, ↓k_X6_shares_70, ↓k_X6_shares_275, ↓k_X6_shares_274, ↓k_X6_shares_258, ↓k_X6_shares_252, ↓k_X6_shares_245, ↓k_X6_shares_242, ↓k_X6_shares_239, ↓k_X6_shares_126, ↓e_iadd, ↓e_isub, ↓e_imul, ↓e_ladd, ↓e_lsub, ↓e_lmul, ↓e_ineg, ↓e_lneg, ↓e_i2l, ↓e_l2i, ↓e_lcmp, ↓e_i2f, ↓e_l2f, ↓e_fdiv, ↓e_f2d, ↓e_fcmpl, ↓e_dcmpl, ↓e_ldiv, ↓e_lrem, ↓e_idiv, ↓e_irem, ↓e_lxor, ↓e_ishl, ↓e_ior, ↓e_iand, ↓e_ic, ↓e_lc, ↓e_fc, ↓e_kl_i, ↓e_kl_r, ↓e_kl_f, ↓e_kl_n, ↓e_kl_l, ↓e_kl_d, ↓e_ild0, ↓e_ist0, ↓e_ild1, ↓e_ist1, ↓e_ild2, ↓e_ist2, ↓e_ild3, ↓e_ist3, ↓e_ild4, ↓e_ist4, ↓e_ild5, ↓e_ist5, ↓e_ild6, ↓e_ist6, ↓e_ild7, ↓e_ist7, ↓e_ild8, ↓e_ist8, ↓e_ild9, ↓e_ist9, ↓e_ild10, ↓e_ist10, ↓e_ild11, ↓e_ist11, ↓e_inc0, ↓e_inc1, ↓e_inc2, ↓e_inc3, ↓e_inc4, ↓e_inc5, ↓e_inc6, ↓e_inc7, ↓e_inc8, ↓e_inc9, ↓e_inc10, ↓e_inc11, ↓e_lld0, ↓e_lst0, ↓e_lld1, ↓e_lst1, ↓e_lld2, ↓e_lst2, ↓e_lld3, ↓e_lst3, ↓e_lld4, ↓e_lst4, ↓e_lld5, ↓e_lst5, ↓e_lld6, ↓e_lst6, ↓e_lld7, ↓e_lst7, ↓e_lld8, ↓e_lst8, ↓e_lld9, ↓e_lst9, ↓e_lld10, ↓e_lst10, ↓e_lld11, ↓e_lst11, ↓e_fld0, ↓e_fst0, ↓e_fld1, ↓e_fst1, ↓e_fld2, ↓e_fst2, ↓e_fld3, ↓e_fst3, ↓e_fld4, ↓e_fst4, ↓e_fld5, ↓e_fst5, ↓e_fld6, ↓e_fst6, ↓e_fld7, ↓e_fst7, ↓e_fld8, ↓e_fst8, ↓e_fld9, ↓e_fst9, ↓e_fld10, ↓e_fst10, ↓e_fld11, ↓e_fst11, ↓e_dld0, ↓e_dst0, ↓e_dld1, ↓e_dst1, ↓e_dld2, ↓e_dst2, ↓e_dld3, ↓e_dst3, ↓e_dld4, ↓e_dst4, ↓e_dld5, ↓e_dst5, ↓e_dld6, ↓e_dst6, ↓e_dld7, ↓e_dst7, ↓e_dld8, ↓e_dst8, ↓e_dld9, ↓e_dst9, ↓e_dld10, ↓e_dst10, ↓e_dld11, ↓e_dst11, ↓e_ald0, ↓e_ast0, ↓e_ald1, ↓e_ast1, ↓e_ald2, ↓e_ast2, ↓e_ald3, ↓e_ast3, ↓e_ald4, ↓e_ast4, ↓e_ald5, ↓e_ast5, ↓e_ald6, ↓e_ast6, ↓e_ald7, ↓e_ast7, ↓e_ald8, ↓e_ast8, ↓e_ald9, ↓e_ast9, ↓e_ald10, ↓e_ast10, ↓e_ald11, ↓e_ast11, ↓e_dupr, ↓e_dupi, ↓e_dup2, ↓e_dup2l, ↓e_ifeq, ↓e_icmpeq, ↓e_ifne, ↓e_icmpne, ↓e_iflt, ↓e_icmplt, ↓e_ifge, ↓e_icmpge, ↓e_ifgt, ↓e_icmpgt, ↓e_ifle, ↓e_icmple, ↓e_goto, ↓e_tsw, ↓e_case0, ↓e_case1, ↓e_iret, ↓e_zret, ↓e_lret, ↓e_fret, ↓e_vret, ↓e_ok0, ↓e_ok1, ↓e_ok2, ↓e_ok4, ↓e_ok5, ↓e_ok6, ↓e_ok7, ↓e_ok8, ↓e_ok9, ↓e_ok3, ↓e_ok10, ↓e_ok11, ↓e_ok15, ↓e_ok16, ↓e_ok12, ↓e_ok13, ↓e_ok14, ↓e_ok17, ↓e_ok18, ↓e_ok19, ↓e_ok20, ↓e_ok21, ↓e_ok22, ↓e_ok23, ↓e_ok24, ↓e_ok25, ↓e_ok26, ↓e_ok27, ↓e_ok28, ↓e_ok29, ↓e_ok30, ↓e_ok31, ↓e_ok32, ↓e_ok33, ↓e_get_0_0, ↓e_get_0_1, ↓e_get_0_2, ↓e_get_0_3, ↓e_get_0_4, ↓e_get_0_5, ↓e_get_0_6, ↓e_get_0_7, ↓e_get_0_8, ↓e_get_0_9, ↓e_get_0_10, ↓e_puti_0, ↓e_putz_0, ↓e_putl_0, ↓e_get_10_0, ↓e_get_10_1, ↓e_get_10_2, ↓e_get_10_3, ↓e_get_10_4, ↓e_get_10_5, ↓e_puti_10, ↓e_putz_10, ↓e_putl_10, ↓e_get_12_0, ↓e_get_12_1, ↓e_get_12_2, ↓e_get_12_3, ↓e_puti_12, ↓e_putz_12, ↓e_putl_12, ↓e_get_18_0, ↓e_get_18_1, ↓e_puti_18, ↓e_putz_18, ↓e_putl_18, ↓e_get_21_0, ↓e_get_21_1, ↓e_puti_21, ↓e_putz_21, ↓e_putl_21, ↓e_get_23_0, ↓e_get_23_1, ↓e_get_23_2, ↓e_get_23_3, ↓e_get_23_4, ↓e_puti_23, ↓e_putz_23, ↓e_putl_23, ↓e_get_24_0, ↓e_get_24_1, ↓e_get_24_2, ↓e_get_24_3, ↓e_get_24_4, ↓e_get_24_5, ↓e_get_24_6, ↓e_get_24_7, ↓e_get_24_8, ↓e_get_24_9, ↓e_get_24_10, ↓e_puti_24, ↓e_putz_24, ↓e_putl_24, ↓e_iald_1, ↓e_iast_1, ↓e_iald_3, ↓e_iast_3, ↓e_iald_9, ↓e_iast_9, ↓e_iald_11, ↓e_iast_11, ↓e_lald_4, ↓e_last_4, ↓e_lald_5, ↓e_last_5, ↓e_lald_6, ↓e_last_6, ↓e_lald_7, ↓e_last_7, ↓e_lald_15, ↓e_last_15, ↓e_lald_16, ↓e_last_16, ↓e_lald_17, ↓e_last_17, ↓e_lald_19, ↓e_last_19, ↓e_lald_20, ↓e_last_20, ↓e_lald_25, ↓e_last_25, ↓e_lald_26, ↓e_last_26, ↓e_lald_27, ↓e_last_27, ↓e_lald_28, ↓e_last_28, ↓e_lald_29, ↓e_last_29, ↓e_lald_30, ↓e_last_30, ↓e_lald_31, ↓e_last_31, ↓e_lald_32, ↓e_last_32, ↓e_lald_33, ↓e_last_33, ↓e_aald_2, ↓e_aald_8, ↓e_aald_13, ↓e_aald_14, ↓e_aald_22, ↓e_aast, ↓e_acpi, ↓e_acpl, ↓e_mabs, ↓e_mabsl, ↓e_mmin, ↓e_mmax, ↓e_gets34, ↓e_sald34, ↓e_gets35, ↓e_sald35, ↓e_gets36, ↓e_sald36, ↓e_gets37, ↓e_sald37, ↓e_cats0, ↓e_cats_i, ↓e_cats_l, ↓e_cats_f, ↓e_cats_d, ↓e_cats_a, ↓e_callS0, ↓e_callV0, ↓e_callS1, ↓e_callV1, ↓e_callS2, ↓e_callV2, ↓e_callS3, ↓e_callV3, ↓e_callS4, ↓e_callV4, ↓e_callS5, ↓e_callV5, ↓e_callS6, ↓e_callV6, ↓e_tl1, ↓e_tl0, ↓zi_0_3, ↓zi_1_3, ↓zi_2_3, ↓zi_0_4, ↓zi_1_4, ↓zi_2_4, ↓zi_3_4, ↓zi_0_5, ↓zi_1_5, ↓zi_2_5, ↓zi_3_5, ↓zi_4_5, ↓zi_0_6, ↓zi_1_6, ↓zi_2_6, ↓zi_3_6, ↓zi_4_6, ↓zi_5_6, ↓zi_0_7, ↓zi_1_7, ↓zi_2_7, ↓zi_3_7, ↓zi_4_7, ↓zi_5_7, ↓zi_0_9, ↓zi_1_9, ↓zi_2_9, ↓zi_3_9, ↓zi_4_9, ↓zi_5_9, ↓zi_0_100, ↓zi_1_100, ↓zi_2_100, ↓zi_3_100, ↓zi_4_100, ↓zi_5_100, ↓zi_0_400, ↓zi_1_400, ↓zi_2_400, ↓zi_3_400, ↓zi_4_400, ↓zi_5_400, ↓zc_0, ↓zc_1, ↓s_X6_spans, ↓s_X6_wheelAt, ↓s_X6_reasons, ↓s_X6_works, ↓s_X6_wishOf, ↓s_X6_held, ↓s_X6_room, ↓s_X6_gives, q_cmp_lt, q_cmp_ge, q_cmp_gt, q_cmp_le, q_cmp_eq, q_cmp_i32, q_b_i32, q_b_0, ↓q_b01, true_and, and_true, true_implies, Nat.reduceAdd, Nat.reduceLeDiff, Int.reduceNeg, eq_self, or_true, true_or, implies_true]
      rw [hZ.cnt, v001, hB.2.1]
      refine ⟨⟨by omega, by omega⟩, ⟨by decide, by decide⟩, Or.inl (by omega), fun _ => ⟨Or.inr ⟨⟨by omega, by omega⟩, ⟨by decide, by decide⟩⟩, fun z => ?_, fun z => ⟨⟨by decide, by decide⟩, ?_⟩⟩, fun q => absurd q (by omega)⟩
      · refine l126 (by omega) _ 0 _ (Nat.zero_add _) (hB.v (fun c p k s hp => by rw [qm_ne c p k s hp, qm_ne c p k s hp, qm_ne c p k s hp]) ?_)
        rw [q_u_wr, q_u_wr, q_u_wr]
        show q_enc _ W
        rw [← hW, hV]
        exact hZ.ur (Y := q_tm V) (by simp [q_tm]) (by simp [q_tm]) (by simp [q_tm]) (fun p k s h1 h2 => by
          unfold q_tm
          rw [if_neg (by omega), if_neg h2])
      · have e6 : q_wr (q_wr (q_wr τ 0 25 0 8 1) 0 25 0 9 (-2000009)) 0 25 0 10 (-2000009) 0 25 0 6 = Y 0 0 1 := by
          rw [q_u_wr, q_u_wr, q_u_wr, ← v001, ← hZ.cnt]
          simp [q_u]
        rw [e6]
        have g := l70 (by omega) (τ 0 25 0) hZ (Y 0 0 1).toNat (-2000009) (q_wr (q_wr (q_wr τ 0 25 0 8 1) 0 25 0 9 (-2000009)) 0 25 0 10 (-2000009)) (by omega) (fun c p k s h1 h2 h3 => by
          rw [qm_ne c p k s h1, qm_ne c p k s h1, qm_ne c p k s h1]
          exact hB.1 c p k s h1 h2 h3) (by rw [q_u_wr, q_u_wr, q_u_wr]) (Or.inl ⟨rfl, fun k h1 h2 => absurd h1 (by omega)⟩)
        rw [show (((Y 0 0 1).toNat : Nat) : Int) = Y 0 0 1 by omega] at g
        exact g
    | succ d ih =>
      intro w τ hw hB
      have hk : q_in (w : Int) 6 := ⟨by omega, by omega⟩
      have hZ := hB.2.2.2.2
      have c1 : qm_h Y w 0 0 1 = Y 0 0 1 := rfl
      have w7' : q_in 7 8 := ⟨by decide, by decide⟩
      have g := ih (w + 1) (q_wr τ 0 25 0 (40 + 8 * w + 7) 0) (by omega) (hB.v qm_ne (by
        rw [q_u_wr]
        refine (hZ.uk (x := 0) hk w7').cg ?_
        intro p k s hp h1 h2 h3 h4
        simp only [q_p1, qm_h, show ¬ (7 : Int) ≤ 2 by decide, if_false, show (7 : Int) - 3 = 4 by decide]
        grind))
      apply h8
      simp only [↓k_X6_shares_0, ↓k_X6_shares_113, ↓k_X6_shares_39, ↓k_X6_shares_8, ↓k_X6_shares_111, ↓k_X6_shares_104, ↓k_X6_shares_98, ↓k_X6_shares_70, ↓k_X6_shares_275, ↓k_X6_shares_274, ↓k_X6_shares_258, ↓k_X6_shares_252, ↓k_X6_shares_245, ↓k_X6_shares_242, ↓k_X6_shares_239, ↓k_X6_shares_126, ↓e_iadd, ↓e_isub, ↓e_imul, ↓e_ladd, ↓e_lsub, ↓e_lmul, ↓e_ineg, ↓e_lneg, ↓e_i2l, ↓e_l2i, ↓e_lcmp, ↓e_i2f, ↓e_l2f, ↓e_fdiv, ↓e_f2d, ↓e_fcmpl, ↓e_dcmpl, ↓e_ldiv, ↓e_lrem, ↓e_idiv, ↓e_irem, ↓e_lxor, ↓e_ishl, ↓e_ior, ↓e_iand, ↓e_ic, ↓e_lc, ↓e_fc, ↓e_kl_i, ↓e_kl_r, ↓e_kl_f, ↓e_kl_n, ↓e_kl_l, ↓e_kl_d, ↓e_ild0, ↓e_ist0, ↓e_ild1, ↓e_ist1, ↓e_ild2, ↓e_ist2, ↓e_ild3, ↓e_ist3, ↓e_ild4, ↓e_ist4, ↓e_ild5, ↓e_ist5, ↓e_ild6, ↓e_ist6, ↓e_ild7, ↓e_ist7, ↓e_ild8, ↓e_ist8, ↓e_ild9, ↓e_ist9, ↓e_ild10, ↓e_ist10, ↓e_ild11, ↓e_ist11, ↓e_inc0, ↓e_inc1, ↓e_inc2, ↓e_inc3, ↓e_inc4, ↓e_inc5, ↓e_inc6, ↓e_inc7, ↓e_inc8, ↓e_inc9, ↓e_inc10, ↓e_inc11, ↓e_lld0, ↓e_lst0, ↓e_lld1, ↓e_lst1, ↓e_lld2, ↓e_lst2, ↓e_lld3, ↓e_lst3, ↓e_lld4, ↓e_lst4, ↓e_lld5, ↓e_lst5, ↓e_lld6, ↓e_lst6, ↓e_lld7, ↓e_lst7, ↓e_lld8, ↓e_lst8, ↓e_lld9, ↓e_lst9, ↓e_lld10, ↓e_lst10, ↓e_lld11, ↓e_lst11, ↓e_fld0, ↓e_fst0, ↓e_fld1, ↓e_fst1, ↓e_fld2, ↓e_fst2, ↓e_fld3, ↓e_fst3, ↓e_fld4, ↓e_fst4, ↓e_fld5, ↓e_fst5, ↓e_fld6, ↓e_fst6, ↓e_fld7, ↓e_fst7, ↓e_fld8, ↓e_fst8, ↓e_fld9, ↓e_fst9, ↓e_fld10, ↓e_fst10, ↓e_fld11, ↓e_fst11, ↓e_dld0, ↓e_dst0, ↓e_dld1, ↓e_dst1, ↓e_dld2, ↓e_dst2, ↓e_dld3, ↓e_dst3, ↓e_dld4, ↓e_dst4, ↓e_dld5, ↓e_dst5, ↓e_dld6, ↓e_dst6, ↓e_dld7, ↓e_dst7, ↓e_dld8, ↓e_dst8, ↓e_dld9, ↓e_dst9, ↓e_dld10, ↓e_dst10, ↓e_dld11, ↓e_dst11, ↓e_ald0, ↓e_ast0, ↓e_ald1, ↓e_ast1, ↓e_ald2, ↓e_ast2, ↓e_ald3, ↓e_ast3, ↓e_ald4, ↓e_ast4, ↓e_ald5, ↓e_ast5, ↓e_ald6, ↓e_ast6, ↓e_ald7, ↓e_ast7, ↓e_ald8, ↓e_ast8, ↓e_ald9, ↓e_ast9, ↓e_ald10, ↓e_ast10, ↓e_ald11, ↓e_ast11, ↓e_dupr, ↓e_dupi, ↓e_dup2, ↓e_dup2l, ↓e_ifeq, ↓e_icmpeq, ↓e_ifne, ↓e_icmpne, ↓e_iflt, ↓e_icmplt, ↓e_ifge, ↓e_icmpge, ↓e_ifgt, ↓e_icmpgt, ↓e_ifle, ↓e_icmple, ↓e_goto, ↓e_tsw, ↓e_case0, ↓e_case1, ↓e_iret, ↓e_zret, ↓e_lret, ↓e_fret, ↓e_vret, ↓e_ok0, ↓e_ok1, ↓e_ok2, ↓e_ok4, ↓e_ok5, ↓e_ok6, ↓e_ok7, ↓e_ok8, ↓e_ok9, ↓e_ok3, ↓e_ok10, ↓e_ok11, ↓e_ok15, ↓e_ok16, ↓e_ok12, ↓e_ok13, ↓e_ok14, ↓e_ok17, ↓e_ok18, ↓e_ok19, ↓e_ok20, ↓e_ok21, ↓e_ok22, ↓e_ok23, ↓e_ok24, ↓e_ok25, ↓e_ok26, ↓e_ok27, ↓e_ok28, ↓e_ok29, ↓e_ok30, ↓e_ok31, ↓e_ok32, ↓e_ok33, ↓e_get_0_0, ↓e_get_0_1, ↓e_get_0_2, ↓e_get_0_3, ↓e_get_0_4, ↓e_get_0_5, ↓e_get_0_6, ↓e_get_0_7, ↓e_get_0_8, ↓e_get_0_9, ↓e_get_0_10, ↓e_puti_0, ↓e_putz_0, ↓e_putl_0, ↓e_get_10_0, ↓e_get_10_1, ↓e_get_10_2, ↓e_get_10_3, ↓e_get_10_4, ↓e_get_10_5, ↓e_puti_10, ↓e_putz_10, ↓e_putl_10, ↓e_get_12_0, ↓e_get_12_1, ↓e_get_12_2, ↓e_get_12_3, ↓e_puti_12, ↓e_putz_12, ↓e_putl_12, ↓e_get_18_0, ↓e_get_18_1, ↓e_puti_18, ↓e_putz_18, ↓e_putl_18, ↓e_get_21_0, ↓e_get_21_1, ↓e_puti_21, ↓e_putz_21, ↓e_putl_21, ↓e_get_23_0, ↓e_get_23_1, ↓e_get_23_2, ↓e_get_23_3, ↓e_get_23_4, ↓e_puti_23, ↓e_putz_23, ↓e_putl_23, ↓e_get_24_0, ↓e_get_24_1, ↓e_get_24_2, ↓e_get_24_3, ↓e_get_24_4, ↓e_get_24_5, ↓e_get_24_6, ↓e_get_24_7, ↓e_get_24_8, ↓e_get_24_9, ↓e_get_24_10, ↓e_puti_24, ↓e_putz_24, ↓e_putl_24, ↓e_iald_1, ↓e_iast_1, ↓e_iald_3, ↓e_iast_3, ↓e_iald_9, ↓e_iast_9, ↓e_iald_11, ↓e_iast_11, ↓e_lald_4, ↓e_last_4, ↓e_lald_5, ↓e_last_5, ↓e_lald_6, ↓e_last_6, ↓e_lald_7, ↓e_last_7, ↓e_lald_15, ↓e_last_15, ↓e_lald_16, ↓e_last_16, ↓e_lald_17, ↓e_last_17, ↓e_lald_19, ↓e_last_19, ↓e_lald_20, ↓e_last_20, ↓e_lald_25, ↓e_last_25, ↓e_lald_26, ↓e_last_26, ↓e_lald_27, ↓e_last_27, ↓e_lald_28, ↓e_last_28, ↓e_lald_29, ↓e_last_29, ↓e_lald_30, ↓e_last_30, ↓e_lald_31, ↓e_last_31, ↓e_lald_32, ↓e_last_32, ↓e_lald_33, ↓e_last_33, ↓e_aald_2, ↓e_aald_8, ↓e_aald_13, ↓e_aald_14, ↓e_aald_22, ↓e_aast, ↓e_acpi, ↓e_acpl, ↓e_mabs, ↓e_mabsl, ↓e_mmin, ↓e_mmax, ↓e_gets34, ↓e_sald34, ↓e_gets35, ↓e_sald35, ↓e_gets36, ↓e_sald36, ↓e_gets37, ↓e_sald37, ↓e_cats0, ↓e_cats_i, ↓e_cats_l, ↓e_cats_f, ↓e_cats_d, ↓e_cats_a, ↓e_callS0, ↓e_callV0, ↓e_callS1, ↓e_callV1, ↓e_callS2, ↓e_callV2, ↓e_callS3, ↓e_callV3, ↓e_callS4, ↓e_callV4, ↓e_callS5, ↓e_callV5, ↓e_callS6, ↓e_callV6, ↓e_tl1, ↓e_tl0, ↓zi_0_3, ↓zi_1_3, ↓zi_2_3, ↓zi_0_4, ↓zi_1_4, ↓zi_2_4, ↓zi_3_4, ↓zi_0_5, ↓zi_1_5, ↓zi_2_5, ↓zi_3_5, ↓zi_4_5, ↓zi_0_6, ↓zi_1_6, ↓zi_2_6, ↓zi_3_6, ↓zi_4_6, ↓zi_5_6, ↓zi_0_7, ↓zi_1_7, ↓zi_2_7, ↓zi_3_7, ↓zi_4_7, ↓zi_5_7, ↓zi_0_9, ↓zi_1_9, ↓zi_2_9, ↓zi_3_9, ↓zi_4_9, ↓zi_5_9, ↓zi_0_100, ↓zi_1_100, ↓zi_2_100, ↓zi_3_100, ↓zi_4_100, ↓zi_5_100, ↓zi_0_400, ↓zi_1_400, ↓zi_2_400, ↓zi_3_400, ↓zi_4_400, ↓zi_5_400, ↓zc_0, ↓zc_1, ↓s_X6_spans, ↓s_X6_wheelAt, ↓s_X6_reasons, ↓s_X6_works, ↓s_X6_wishOf, ↓s_X6_held, ↓s_X6_room, ↓s_X6_gives, q_cmp_lt, q_cmp_ge, q_cmp_gt, q_cmp_le, q_cmp_eq, q_cmp_i32, q_b_i32, q_b_0, ↓q_b01, true_and, and_true, true_implies, Nat.reduceAdd, Nat.reduceLeDiff, Int.reduceNeg, eq_self, or_true, true_or, implies_true]
      rw [hZ.cnt, c1]
      exact ⟨⟨by omega, by omega⟩, ⟨by decide, by decide⟩, Or.inr ⟨⟨by omega, by omega⟩, ⟨by omega, by omega⟩⟩, fun q => absurd q (by omega), fun _ => ⟨⟨by omega, by omega⟩, g⟩⟩
  refine l8 _ 0 τ0 (Nat.zero_add _) ?_
  have e0 : qm_h Y (0 : Nat) = Y := by
    funext p k s
    unfold qm_h
    rw [if_neg (by omega)]
  rw [e0]
  exact B0
