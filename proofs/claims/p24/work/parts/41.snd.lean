def rm_X3_addProducts : Room := { frames := 0, cells := 0, slots := 0, locals := 0 }
theorem fi_X3_addProducts_X3 : ∀ w ∈ u_ws RX3 TX3 4, w ∈ wsX3_addProducts := fun w h => List.mem_cons_of_mem _ (List.mem_append_right _ h)
set_option maxRecDepth 20000 in
theorem sb_X3_addProducts_0 {J : Nat → q_K} {l : Launch} {Qp : Option q_V → q_M → Prop} (E : q_E J cX3_addProducts RX3 wsX3_addProducts 4 l rm_X3_addProducts) (T : q_T J cX3_addProducts none Qp) : ∀ (σ : q_M) (lv : q_L) (st : q_S), k_X3_addProducts_0 Qp J σ lv st → J 0 σ lv st := fun σ lv st h =>
    so_iconst E (x := 0) dX3_addProducts_0 h fun σ lv st h =>
    so_istore_n E (i := 2) rfl (by decide) dX3_addProducts_1 h fun σ lv st h =>
    h
set_option maxRecDepth 20000 in
theorem sb_X3_addProducts_45 {J : Nat → q_K} {l : Launch} {Qp : Option q_V → q_M → Prop} (E : q_E J cX3_addProducts RX3 wsX3_addProducts 4 l rm_X3_addProducts) (T : q_T J cX3_addProducts none Qp) : ∀ (σ : q_M) (lv : q_L) (st : q_S), k_X3_addProducts_45 Qp J σ lv st → J 45 σ lv st := fun σ lv st h =>
    so_vret T dX3_addProducts_45 h
set_option maxRecDepth 20000 in
theorem sb_X3_addProducts_2 {J : Nat → q_K} {l : Launch} {Qp : Option q_V → q_M → Prop} (E : q_E J cX3_addProducts RX3 wsX3_addProducts 4 l rm_X3_addProducts) (T : q_T J cX3_addProducts none Qp) : ∀ (σ : q_M) (lv : q_L) (st : q_S), k_X3_addProducts_2 Qp J σ lv st → J 2 σ lv st := fun σ lv st h =>
    so_iload_n E (i := 2) rfl dX3_addProducts_2 h fun σ lv st h =>
    so_iconst E (x := 3) dX3_addProducts_3 h fun σ lv st h =>
    so_icmpge E 45 (by decide) dX3_addProducts_4 (sb_X3_addProducts_45 E T) h fun σ lv st h =>
    so_iconst E (x := 0) dX3_addProducts_7 h fun σ lv st h =>
    so_istore_n E (i := 3) rfl (by decide) dX3_addProducts_8 h fun σ lv st h =>
    h
set_option maxRecDepth 20000 in
theorem sb_X3_addProducts_39 {J : Nat → q_K} {l : Launch} {Qp : Option q_V → q_M → Prop} (E : q_E J cX3_addProducts RX3 wsX3_addProducts 4 l rm_X3_addProducts) (T : q_T J cX3_addProducts none Qp) : ∀ (σ : q_M) (lv : q_L) (st : q_S), k_X3_addProducts_39 Qp J σ lv st → J 39 σ lv st := fun σ lv st h =>
    so_iinc E (i := 2) (n := 1) (by decide) dX3_addProducts_39 h fun σ lv st h =>
    so_goto E 2 (by decide) dX3_addProducts_42 (fun _ _ _ h => h) h
set_option maxRecDepth 20000 in
theorem sb_X3_addProducts_9 {J : Nat → q_K} {l : Launch} {Qp : Option q_V → q_M → Prop} (E : q_E J cX3_addProducts RX3 wsX3_addProducts 4 l rm_X3_addProducts) (T : q_T J cX3_addProducts none Qp) : ∀ (σ : q_M) (lv : q_L) (st : q_S), k_X3_addProducts_9 Qp J σ lv st → J 9 σ lv st := fun σ lv st h =>
    so_iload_n E (i := 3) rfl dX3_addProducts_9 h fun σ lv st h =>
    so_iconst E (x := 3) dX3_addProducts_10 h fun σ lv st h =>
    so_icmpge E 39 (by decide) dX3_addProducts_11 (sb_X3_addProducts_39 E T) h fun σ lv st h =>
    so_aload_n E (i := 0) rfl dX3_addProducts_14 h fun σ lv st h =>
    so_get E (pp := 12) (fi := 0) (C := RX3) (T := TX3) (N := 4) (ref := "WheelDesk$Sharing") ⟨rfl, rfl, rfl⟩ rfl fi_X3_addProducts_X3 (by decide) rfl (List.mem_of_getElem? (i := 1) rfl) dX3_addProducts_15 h fun σ lv st h =>
    so_iload_n E (i := 2) rfl dX3_addProducts_18 h fun σ lv st h =>
    so_aald E dX3_addProducts_19 h fun σ lv st h =>
    so_iload_n E (i := 3) rfl dX3_addProducts_20 h fun σ lv st h =>
    so_dup2 E dX3_addProducts_21 h fun σ lv st h =>
    so_lald E dX3_addProducts_22 h fun σ lv st h =>
    so_aload_n E (i := 1) rfl dX3_addProducts_23 h fun σ lv st h =>
    so_iload_n E (i := 2) rfl dX3_addProducts_24 h fun σ lv st h =>
    so_iald E dX3_addProducts_25 h fun σ lv st h =>
    so_aload_n E (i := 1) rfl dX3_addProducts_26 h fun σ lv st h =>
    so_iload_n E (i := 3) rfl dX3_addProducts_27 h fun σ lv st h =>
    so_iald E dX3_addProducts_28 h fun σ lv st h =>
    so_imul E dX3_addProducts_29 h fun σ lv st h =>
    so_i2l E dX3_addProducts_30 h fun σ lv st h =>
    so_ladd E dX3_addProducts_31 h fun σ lv st h =>
    so_last E dX3_addProducts_32 h fun σ lv st h =>
    so_iinc E (i := 3) (n := 1) (by decide) dX3_addProducts_33 h fun σ lv st h =>
    so_goto E 9 (by decide) dX3_addProducts_36 (fun _ _ _ h => h) h
theorem c_X3_addProducts : q_Ct yX3_addProducts wsX3_addProducts rm_X3_addProducts S_X3_addProducts := by
  refine q_met (cc := cX3_addProducts) (maxL := 4) (ret := none) (own := RX3) (by decide +kernel) rfl rfl (fun σ vs Qp h => ?_) (fun l J σ vs Qp E T h => ?_)
  · unfold S_X3_addProducts at h
    split at h
    · exact Nat.le_of_ble_eq_true rfl
    · exact h.elim
  · unfold S_X3_addProducts at h
    split at h
    · next c0 p0 k0 c p1 k =>
      obtain ⟨rfl, rfl, rfl, rfl, h⟩ := h
      exact v_X3_addProducts (so_C E) (sb_X3_addProducts_0 E T) (sb_X3_addProducts_2 E T) (sb_X3_addProducts_9 E T) h
    · exact h.elim
theorem cc_X3_addProducts : q_Ct yX3_addProducts wsX3_addProducts rm_X3_addProducts S_X3_addProducts := c_X3_addProducts

def rm_X5_axisAfter : Room := { frames := 0, cells := 0, slots := 0, locals := 0 }
set_option maxRecDepth 20000 in
theorem sb_X5_axisAfter_0 {J : Nat → q_K} {l : Launch} {Qp : Option q_V → q_M → Prop} (E : q_E J cX5_axisAfter RX5 wsX5_axisAfter 2 l rm_X5_axisAfter) (T : q_T J cX5_axisAfter (some .int) Qp) : ∀ (σ : q_M) (lv : q_L) (st : q_S), k_X5_axisAfter_0 Qp J σ lv st → J 0 σ lv st := fun σ lv st h =>
    so_iload_n E (i := 0) rfl dX5_axisAfter_0 h fun σ lv st h =>
    so_iload_n E (i := 1) rfl dX5_axisAfter_1 h fun σ lv st h =>
    so_iadd E dX5_axisAfter_2 h fun σ lv st h =>
    so_iconst E (x := 3) dX5_axisAfter_3 h fun σ lv st h =>
    so_irem E dX5_axisAfter_4 h fun σ lv st h =>
    so_iret T dX5_axisAfter_5 h
theorem c_X5_axisAfter : q_Ct yX5_axisAfter wsX5_axisAfter rm_X5_axisAfter S_X5_axisAfter := by
  refine q_met (cc := cX5_axisAfter) (maxL := 2) (ret := (some .int)) (own := RX5) (by decide +kernel) rfl rfl (fun σ vs Qp h => ?_) (fun l J σ vs Qp E T h => ?_)
  · unfold S_X5_axisAfter at h
    split at h
    · exact Nat.le_of_ble_eq_true rfl
    · exact h.elim
  · unfold S_X5_axisAfter at h
    split at h
    · next a s =>
      exact v_X5_axisAfter (so_C E) (sb_X5_axisAfter_0 E T) h
    · exact h.elim
theorem cc_X5_axisAfter : q_Ct yX5_axisAfter wsX5_axisAfter rm_X5_axisAfter S_X5_axisAfter := c_X5_axisAfter

def rm_X3_findCofactors : Room := { frames := 1, cells := 0, slots := 0, locals := 21 }
theorem fi_X3_findCofactors_X3 : ∀ w ∈ u_ws RX3 TX3 4, w ∈ wsX3_findCofactors := fun w h => List.mem_cons_of_mem _ (List.mem_append_right _ h)
set_option maxRecDepth 20000 in
theorem sb_X3_findCofactors_0 {J : Nat → q_K} {l : Launch} {Qp : Option q_V → q_M → Prop} (E : q_E J cX3_findCofactors RX3 wsX3_findCofactors 7 l rm_X3_findCofactors) (T : q_T J cX3_findCofactors none Qp) (h_X5_axisAfter : q_Ct yX5_axisAfter wsX5_axisAfter rm_X5_axisAfter S_X5_axisAfter) : ∀ (σ : q_M) (lv : q_L) (st : q_S), k_X3_findCofactors_0 Qp J σ lv st → J 0 σ lv st := fun σ lv st h =>
    so_iconst E (x := 0) dX3_findCofactors_0 h fun σ lv st h =>
    so_istore_n E (i := 1) rfl (by decide) dX3_findCofactors_1 h fun σ lv st h =>
    h
set_option maxRecDepth 20000 in
theorem sb_X3_findCofactors_104 {J : Nat → q_K} {l : Launch} {Qp : Option q_V → q_M → Prop} (E : q_E J cX3_findCofactors RX3 wsX3_findCofactors 7 l rm_X3_findCofactors) (T : q_T J cX3_findCofactors none Qp) (h_X5_axisAfter : q_Ct yX5_axisAfter wsX5_axisAfter rm_X5_axisAfter S_X5_axisAfter) : ∀ (σ : q_M) (lv : q_L) (st : q_S), k_X3_findCofactors_104 Qp J σ lv st → J 104 σ lv st := fun σ lv st h =>
    so_vret T dX3_findCofactors_104 h
set_option maxRecDepth 20000 in
theorem sb_X3_findCofactors_2 {J : Nat → q_K} {l : Launch} {Qp : Option q_V → q_M → Prop} (E : q_E J cX3_findCofactors RX3 wsX3_findCofactors 7 l rm_X3_findCofactors) (T : q_T J cX3_findCofactors none Qp) (h_X5_axisAfter : q_Ct yX5_axisAfter wsX5_axisAfter rm_X5_axisAfter S_X5_axisAfter) : ∀ (σ : q_M) (lv : q_L) (st : q_S), k_X3_findCofactors_2 Qp J σ lv st → J 2 σ lv st := fun σ lv st h =>
    so_iload_n E (i := 1) rfl dX3_findCofactors_2 h fun σ lv st h =>
    so_iconst E (x := 3) dX3_findCofactors_3 h fun σ lv st h =>
    so_icmpge E 104 (by decide) dX3_findCofactors_4 (sb_X3_findCofactors_104 E T h_X5_axisAfter) h fun σ lv st h =>
    so_iload_n E (i := 1) rfl dX3_findCofactors_7 h fun σ lv st h =>
    so_iconst E (x := 1) dX3_findCofactors_8 h fun σ lv st h =>
    so_callN E (n := 2) (idx := 54) (maxL := 2) (ret := (some .int)) h_X5_axisAfter gX3_findCofactors_X5_axisAfter_n54 rfl ⟨rfl, rfl⟩ (by decide +kernel) (List.mem_of_getElem? (i := 3) rfl) (List.mem_of_getElem? (i := 4) rfl) (by decide +kernel) (by decide) dX3_findCofactors_9 h fun σ lv st h =>
    so_istore_n E (i := 2) rfl (by decide) dX3_findCofactors_12 h fun σ lv st h =>
    so_iload_n E (i := 1) rfl dX3_findCofactors_13 h fun σ lv st h =>
    so_iconst E (x := 2) dX3_findCofactors_14 h fun σ lv st h =>
    so_callN E (n := 2) (idx := 54) (maxL := 2) (ret := (some .int)) h_X5_axisAfter gX3_findCofactors_X5_axisAfter_n54 rfl ⟨rfl, rfl⟩ (by decide +kernel) (List.mem_of_getElem? (i := 3) rfl) (List.mem_of_getElem? (i := 4) rfl) (by decide +kernel) (by decide) dX3_findCofactors_15 h fun σ lv st h =>
    so_istore_n E (i := 3) rfl (by decide) dX3_findCofactors_18 h fun σ lv st h =>
    so_iconst E (x := 0) dX3_findCofactors_19 h fun σ lv st h =>
    so_istore E (i := 4) (by decide) dX3_findCofactors_20 h fun σ lv st h =>
    h
set_option maxRecDepth 20000 in
theorem sb_X3_findCofactors_98 {J : Nat → q_K} {l : Launch} {Qp : Option q_V → q_M → Prop} (E : q_E J cX3_findCofactors RX3 wsX3_findCofactors 7 l rm_X3_findCofactors) (T : q_T J cX3_findCofactors none Qp) (h_X5_axisAfter : q_Ct yX5_axisAfter wsX5_axisAfter rm_X5_axisAfter S_X5_axisAfter) : ∀ (σ : q_M) (lv : q_L) (st : q_S), k_X3_findCofactors_98 Qp J σ lv st → J 98 σ lv st := fun σ lv st h =>
    so_iinc E (i := 1) (n := 1) (by decide) dX3_findCofactors_98 h fun σ lv st h =>
    so_goto E 2 (by decide) dX3_findCofactors_101 (fun _ _ _ h => h) h
set_option maxRecDepth 20000 in
theorem sb_X3_findCofactors_22 {J : Nat → q_K} {l : Launch} {Qp : Option q_V → q_M → Prop} (E : q_E J cX3_findCofactors RX3 wsX3_findCofactors 7 l rm_X3_findCofactors) (T : q_T J cX3_findCofactors none Qp) (h_X5_axisAfter : q_Ct yX5_axisAfter wsX5_axisAfter rm_X5_axisAfter S_X5_axisAfter) : ∀ (σ : q_M) (lv : q_L) (st : q_S), k_X3_findCofactors_22 Qp J σ lv st → J 22 σ lv st := fun σ lv st h =>
    so_iload E (i := 4) dX3_findCofactors_22 h fun σ lv st h =>
    so_iconst E (x := 3) dX3_findCofactors_24 h fun σ lv st h =>
    so_icmpge E 98 (by decide) dX3_findCofactors_25 (sb_X3_findCofactors_98 E T h_X5_axisAfter) h fun σ lv st h =>
    so_iload E (i := 4) dX3_findCofactors_28 h fun σ lv st h =>
    so_iconst E (x := 1) dX3_findCofactors_30 h fun σ lv st h =>
    so_callN E (n := 2) (idx := 54) (maxL := 2) (ret := (some .int)) h_X5_axisAfter gX3_findCofactors_X5_axisAfter_n54 rfl ⟨rfl, rfl⟩ (by decide +kernel) (List.mem_of_getElem? (i := 3) rfl) (List.mem_of_getElem? (i := 4) rfl) (by decide +kernel) (by decide) dX3_findCofactors_31 h fun σ lv st h =>
    so_istore E (i := 5) (by decide) dX3_findCofactors_34 h fun σ lv st h =>
    so_iload E (i := 4) dX3_findCofactors_36 h fun σ lv st h =>
    so_iconst E (x := 2) dX3_findCofactors_38 h fun σ lv st h =>
    so_callN E (n := 2) (idx := 54) (maxL := 2) (ret := (some .int)) h_X5_axisAfter gX3_findCofactors_X5_axisAfter_n54 rfl ⟨rfl, rfl⟩ (by decide +kernel) (List.mem_of_getElem? (i := 3) rfl) (List.mem_of_getElem? (i := 4) rfl) (by decide +kernel) (by decide) dX3_findCofactors_39 h fun σ lv st h =>
    so_istore E (i := 6) (by decide) dX3_findCofactors_42 h fun σ lv st h =>
    so_aload_n E (i := 0) rfl dX3_findCofactors_44 h fun σ lv st h =>
    so_get E (pp := 12) (fi := 1) (C := RX3) (T := TX3) (N := 4) (ref := "WheelDesk$Sharing") ⟨rfl, rfl, rfl⟩ rfl fi_X3_findCofactors_X3 (by decide) rfl (List.mem_of_getElem? (i := 1) rfl) dX3_findCofactors_45 h fun σ lv st h =>
    so_iload_n E (i := 1) rfl dX3_findCofactors_48 h fun σ lv st h =>
    so_aald E dX3_findCofactors_49 h fun σ lv st h =>
    so_iload E (i := 4) dX3_findCofactors_50 h fun σ lv st h =>
    so_aload_n E (i := 0) rfl dX3_findCofactors_52 h fun σ lv st h =>
    so_get E (pp := 12) (fi := 0) (C := RX3) (T := TX3) (N := 4) (ref := "WheelDesk$Sharing") ⟨rfl, rfl, rfl⟩ rfl fi_X3_findCofactors_X3 (by decide) rfl (List.mem_of_getElem? (i := 2) rfl) dX3_findCofactors_53 h fun σ lv st h =>
    so_iload_n E (i := 2) rfl dX3_findCofactors_56 h fun σ lv st h =>
    so_aald E dX3_findCofactors_57 h fun σ lv st h =>
    so_iload E (i := 5) dX3_findCofactors_58 h fun σ lv st h =>
    so_lald E dX3_findCofactors_60 h fun σ lv st h =>
    so_aload_n E (i := 0) rfl dX3_findCofactors_61 h fun σ lv st h =>
    so_get E (pp := 12) (fi := 0) (C := RX3) (T := TX3) (N := 4) (ref := "WheelDesk$Sharing") ⟨rfl, rfl, rfl⟩ rfl fi_X3_findCofactors_X3 (by decide) rfl (List.mem_of_getElem? (i := 2) rfl) dX3_findCofactors_62 h fun σ lv st h =>
    so_iload_n E (i := 3) rfl dX3_findCofactors_65 h fun σ lv st h =>
    so_aald E dX3_findCofactors_66 h fun σ lv st h =>
    so_iload E (i := 6) dX3_findCofactors_67 h fun σ lv st h =>
    so_lald E dX3_findCofactors_69 h fun σ lv st h =>
    so_lmul E dX3_findCofactors_70 h fun σ lv st h =>
    so_aload_n E (i := 0) rfl dX3_findCofactors_71 h fun σ lv st h =>
    so_get E (pp := 12) (fi := 0) (C := RX3) (T := TX3) (N := 4) (ref := "WheelDesk$Sharing") ⟨rfl, rfl, rfl⟩ rfl fi_X3_findCofactors_X3 (by decide) rfl (List.mem_of_getElem? (i := 2) rfl) dX3_findCofactors_72 h fun σ lv st h =>
    so_iload_n E (i := 2) rfl dX3_findCofactors_75 h fun σ lv st h =>
    so_aald E dX3_findCofactors_76 h fun σ lv st h =>
    so_iload E (i := 6) dX3_findCofactors_77 h fun σ lv st h =>
    so_lald E dX3_findCofactors_79 h fun σ lv st h =>
    so_aload_n E (i := 0) rfl dX3_findCofactors_80 h fun σ lv st h =>
    so_get E (pp := 12) (fi := 0) (C := RX3) (T := TX3) (N := 4) (ref := "WheelDesk$Sharing") ⟨rfl, rfl, rfl⟩ rfl fi_X3_findCofactors_X3 (by decide) rfl (List.mem_of_getElem? (i := 2) rfl) dX3_findCofactors_81 h fun σ lv st h =>
    so_iload_n E (i := 3) rfl dX3_findCofactors_84 h fun σ lv st h =>
    so_aald E dX3_findCofactors_85 h fun σ lv st h =>
    so_iload E (i := 5) dX3_findCofactors_86 h fun σ lv st h =>
    so_lald E dX3_findCofactors_88 h fun σ lv st h =>
    so_lmul E dX3_findCofactors_89 h fun σ lv st h =>
    so_lsub E dX3_findCofactors_90 h fun σ lv st h =>
    so_last E dX3_findCofactors_91 h fun σ lv st h =>
    so_iinc E (i := 4) (n := 1) (by decide) dX3_findCofactors_92 h fun σ lv st h =>
    so_goto E 22 (by decide) dX3_findCofactors_95 (fun _ _ _ h => h) h
theorem c_X3_findCofactors (h_X5_axisAfter : q_Ct yX5_axisAfter wsX5_axisAfter rm_X5_axisAfter S_X5_axisAfter) : q_Ct yX3_findCofactors wsX3_findCofactors rm_X3_findCofactors S_X3_findCofactors := by
  refine q_met (cc := cX3_findCofactors) (maxL := 7) (ret := none) (own := RX3) (by decide +kernel) rfl rfl (fun σ vs Qp h => ?_) (fun l J σ vs Qp E T h => ?_)
  · unfold S_X3_findCofactors at h
    split at h
    · exact Nat.le_of_ble_eq_true rfl
    · exact h.elim
  · unfold S_X3_findCofactors at h
    split at h
    · next c0 p0 k0 =>
      obtain ⟨rfl, rfl, rfl, h⟩ := h
      exact v_X3_findCofactors (so_C E) (sb_X3_findCofactors_0 E T h_X5_axisAfter) (sb_X3_findCofactors_2 E T h_X5_axisAfter) (sb_X3_findCofactors_22 E T h_X5_axisAfter) h
    · exact h.elim
theorem cc_X3_findCofactors : q_Ct yX3_findCofactors wsX3_findCofactors rm_X3_findCofactors S_X3_findCofactors := c_X3_findCofactors cc_X5_axisAfter

def rm_X3_measure : Room := { frames := 2, cells := 0, slots := 0, locals := 47 }
theorem fi_X3_measure_X3 : ∀ w ∈ u_ws RX3 TX3 4, w ∈ wsX3_measure := fun w h => List.mem_cons_of_mem _ (List.mem_append_left _ (List.mem_append_left _ (List.mem_append_right _ h)))
theorem fi_X3_measure_X0 : ∀ w ∈ u_ws RX0 TX0 11, w ∈ wsX3_measure := fun w h => List.mem_cons_of_mem _ (List.mem_append_left _ (List.mem_append_right _ h))
theorem fi_X3_measure_X4 : ∀ w ∈ u_ws RX4 TX4 6, w ∈ wsX3_measure := fun w h => List.mem_cons_of_mem _ (List.mem_append_right _ h)
set_option maxRecDepth 20000 in
theorem sb_X3_measure_0 {J : Nat → q_K} {l : Launch} {Qp : Option q_V → q_M → Prop} (E : q_E J cX3_measure RX3 wsX3_measure 5 l rm_X3_measure) (T : q_T J cX3_measure none Qp) (h_X3_addProducts : q_Ct yX3_addProducts wsX3_addProducts rm_X3_addProducts S_X3_addProducts) (h_X3_findCofactors : q_Ct yX3_findCofactors wsX3_findCofactors rm_X3_findCofactors S_X3_findCofactors) : ∀ (σ : q_M) (lv : q_L) (st : q_S), k_X3_measure_0 Qp J σ lv st → J 0 σ lv st := fun σ lv st h =>
    so_iconst E (x := 0) dX3_measure_0 h fun σ lv st h =>
    so_istore_n E (i := 3) rfl (by decide) dX3_measure_1 h fun σ lv st h =>
    h
set_option maxRecDepth 20000 in
theorem sb_X3_measure_38 {J : Nat → q_K} {l : Launch} {Qp : Option q_V → q_M → Prop} (E : q_E J cX3_measure RX3 wsX3_measure 5 l rm_X3_measure) (T : q_T J cX3_measure none Qp) (h_X3_addProducts : q_Ct yX3_addProducts wsX3_addProducts rm_X3_addProducts S_X3_addProducts) (h_X3_findCofactors : q_Ct yX3_findCofactors wsX3_findCofactors rm_X3_findCofactors S_X3_findCofactors) : ∀ (σ : q_M) (lv : q_L) (st : q_S), k_X3_measure_38 Qp J σ lv st → J 38 σ lv st := fun σ lv st h =>
    so_iconst E (x := 0) dX3_measure_38 h fun σ lv st h =>
    so_istore_n E (i := 3) rfl (by decide) dX3_measure_39 h fun σ lv st h =>
    h
set_option maxRecDepth 20000 in
theorem sb_X3_measure_2 {J : Nat → q_K} {l : Launch} {Qp : Option q_V → q_M → Prop} (E : q_E J cX3_measure RX3 wsX3_measure 5 l rm_X3_measure) (T : q_T J cX3_measure none Qp) (h_X3_addProducts : q_Ct yX3_addProducts wsX3_addProducts rm_X3_addProducts S_X3_addProducts) (h_X3_findCofactors : q_Ct yX3_findCofactors wsX3_findCofactors rm_X3_findCofactors S_X3_findCofactors) : ∀ (σ : q_M) (lv : q_L) (st : q_S), k_X3_measure_2 Qp J σ lv st → J 2 σ lv st := fun σ lv st h =>
    so_iload_n E (i := 3) rfl dX3_measure_2 h fun σ lv st h =>
    so_iconst E (x := 3) dX3_measure_3 h fun σ lv st h =>
    so_icmpge E 38 (by decide) dX3_measure_4 (sb_X3_measure_38 E T h_X3_addProducts h_X3_findCofactors) h fun σ lv st h =>
    so_iconst E (x := 0) dX3_measure_7 h fun σ lv st h =>
    so_istore E (i := 4) (by decide) dX3_measure_8 h fun σ lv st h =>
    h
set_option maxRecDepth 20000 in
theorem sb_X3_measure_32 {J : Nat → q_K} {l : Launch} {Qp : Option q_V → q_M → Prop} (E : q_E J cX3_measure RX3 wsX3_measure 5 l rm_X3_measure) (T : q_T J cX3_measure none Qp) (h_X3_addProducts : q_Ct yX3_addProducts wsX3_addProducts rm_X3_addProducts S_X3_addProducts) (h_X3_findCofactors : q_Ct yX3_findCofactors wsX3_findCofactors rm_X3_findCofactors S_X3_findCofactors) : ∀ (σ : q_M) (lv : q_L) (st : q_S), k_X3_measure_32 Qp J σ lv st → J 32 σ lv st := fun σ lv st h =>
    so_iinc E (i := 3) (n := 1) (by decide) dX3_measure_32 h fun σ lv st h =>
    so_goto E 2 (by decide) dX3_measure_35 (fun _ _ _ h => h) h
set_option maxRecDepth 20000 in
theorem sb_X3_measure_10 {J : Nat → q_K} {l : Launch} {Qp : Option q_V → q_M → Prop} (E : q_E J cX3_measure RX3 wsX3_measure 5 l rm_X3_measure) (T : q_T J cX3_measure none Qp) (h_X3_addProducts : q_Ct yX3_addProducts wsX3_addProducts rm_X3_addProducts S_X3_addProducts) (h_X3_findCofactors : q_Ct yX3_findCofactors wsX3_findCofactors rm_X3_findCofactors S_X3_findCofactors) : ∀ (σ : q_M) (lv : q_L) (st : q_S), k_X3_measure_10 Qp J σ lv st → J 10 σ lv st := fun σ lv st h =>
    so_iload E (i := 4) dX3_measure_10 h fun σ lv st h =>
    so_iconst E (x := 3) dX3_measure_12 h fun σ lv st h =>
    so_icmpge E 32 (by decide) dX3_measure_13 (sb_X3_measure_32 E T h_X3_addProducts h_X3_findCofactors) h fun σ lv st h =>
    so_aload_n E (i := 0) rfl dX3_measure_16 h fun σ lv st h =>
    so_get E (pp := 12) (fi := 0) (C := RX3) (T := TX3) (N := 4) (ref := "WheelDesk$Sharing") ⟨rfl, rfl, rfl⟩ rfl fi_X3_measure_X3 (by decide) rfl (List.mem_of_getElem? (i := 1) rfl) dX3_measure_17 h fun σ lv st h =>
    so_iload_n E (i := 3) rfl dX3_measure_20 h fun σ lv st h =>
    so_aald E dX3_measure_21 h fun σ lv st h =>
    so_iload E (i := 4) dX3_measure_22 h fun σ lv st h =>
    so_lconst E (x := 0) rfl dX3_measure_24 h fun σ lv st h =>
    so_last E dX3_measure_25 h fun σ lv st h =>
    so_iinc E (i := 4) (n := 1) (by decide) dX3_measure_26 h fun σ lv st h =>
    so_goto E 10 (by decide) dX3_measure_29 (fun _ _ _ h => h) h
set_option maxRecDepth 20000 in
theorem sb_X3_measure_84 {J : Nat → q_K} {l : Launch} {Qp : Option q_V → q_M → Prop} (E : q_E J cX3_measure RX3 wsX3_measure 5 l rm_X3_measure) (T : q_T J cX3_measure none Qp) (h_X3_addProducts : q_Ct yX3_addProducts wsX3_addProducts rm_X3_addProducts S_X3_addProducts) (h_X3_findCofactors : q_Ct yX3_findCofactors wsX3_findCofactors rm_X3_findCofactors S_X3_findCofactors) : ∀ (σ : q_M) (lv : q_L) (st : q_S), k_X3_measure_84 Qp J σ lv st → J 84 σ lv st := fun σ lv st h =>
    so_aload_n E (i := 0) rfl dX3_measure_84 h fun σ lv st h =>
    so_callV E (n := 0) (pp := 12) (C := RX3) (T := TX3) (N := 4) (idx := 47) (maxL := 7) (ret := none) h_X3_findCofactors ⟨rfl, rfl, rfl⟩ rfl gX3_measure_X3_findCofactors rfl ⟨rfl, rfl⟩ (by decide +kernel) (by decide) dX3_measure_85 h fun σ lv st h =>
    so_aload_n E (i := 0) rfl dX3_measure_88 h fun σ lv st h =>
    so_lconst E (x := 0) rfl dX3_measure_89 h fun σ lv st h =>
    so_putl E (pp := 12) (fi := 3) (sl := 0) (C := RX3) (T := TX3) (N := 4) (ref := "WheelDesk$Sharing") ⟨rfl, rfl, rfl⟩ rfl fi_X3_measure_X3 tyX3 tyX3_ok nmX3 (by decide) rfl rfl rfl q_fs_12_3 (List.mem_of_getElem? (i := 6) rfl) dX3_measure_90 h fun σ lv st h =>
    so_iconst E (x := 0) dX3_measure_93 h fun σ lv st h =>
    so_istore_n E (i := 3) rfl (by decide) dX3_measure_94 h fun σ lv st h =>
    h
set_option maxRecDepth 20000 in
theorem sb_X3_measure_78 {J : Nat → q_K} {l : Launch} {Qp : Option q_V → q_M → Prop} (E : q_E J cX3_measure RX3 wsX3_measure 5 l rm_X3_measure) (T : q_T J cX3_measure none Qp) (h_X3_addProducts : q_Ct yX3_addProducts wsX3_addProducts rm_X3_addProducts S_X3_addProducts) (h_X3_findCofactors : q_Ct yX3_findCofactors wsX3_findCofactors rm_X3_findCofactors S_X3_findCofactors) : ∀ (σ : q_M) (lv : q_L) (st : q_S), k_X3_measure_78 Qp J σ lv st → J 78 σ lv st := fun σ lv st h =>
    so_iinc E (i := 3) (n := 1) (by decide) dX3_measure_78 h fun σ lv st h =>
    so_goto E 40 (by decide) dX3_measure_81 (fun _ _ _ h => h) h
set_option maxRecDepth 20000 in
theorem sb_X3_measure_40 {J : Nat → q_K} {l : Launch} {Qp : Option q_V → q_M → Prop} (E : q_E J cX3_measure RX3 wsX3_measure 5 l rm_X3_measure) (T : q_T J cX3_measure none Qp) (h_X3_addProducts : q_Ct yX3_addProducts wsX3_addProducts rm_X3_addProducts S_X3_addProducts) (h_X3_findCofactors : q_Ct yX3_findCofactors wsX3_findCofactors rm_X3_findCofactors S_X3_findCofactors) : ∀ (σ : q_M) (lv : q_L) (st : q_S), k_X3_measure_40 Qp J σ lv st → J 40 σ lv st := fun σ lv st h =>
    so_iload_n E (i := 3) rfl dX3_measure_40 h fun σ lv st h =>
    so_aload_n E (i := 1) rfl dX3_measure_41 h fun σ lv st h =>
    so_get E (pp := 0) (fi := 8) (C := RX0) (T := TX0) (N := 11) (ref := "WheelDesk$Craft") ⟨rfl, rfl, rfl⟩ rfl fi_X3_measure_X0 (by decide) rfl (List.mem_of_getElem? (i := 2) rfl) dX3_measure_42 h fun σ lv st h =>
    so_icmpge E 84 (by decide) dX3_measure_45 (sb_X3_measure_84 E T h_X3_addProducts h_X3_findCofactors) h fun σ lv st h =>
    so_iload_n E (i := 3) rfl dX3_measure_48 h fun σ lv st h =>
    so_iload_n E (i := 2) rfl dX3_measure_49 h fun σ lv st h =>
    so_icmpeq E 78 (by decide) dX3_measure_50 (sb_X3_measure_78 E T h_X3_addProducts h_X3_findCofactors) h fun σ lv st h =>
    so_aload_n E (i := 1) rfl dX3_measure_53 h fun σ lv st h =>
    so_get E (pp := 0) (fi := 7) (C := RX0) (T := TX0) (N := 11) (ref := "WheelDesk$Craft") ⟨rfl, rfl, rfl⟩ rfl fi_X3_measure_X0 (by decide) rfl (List.mem_of_getElem? (i := 3) rfl) dX3_measure_54 h fun σ lv st h =>
    so_iload_n E (i := 3) rfl dX3_measure_57 h fun σ lv st h =>
    so_aald E dX3_measure_58 h fun σ lv st h =>
    so_get E (pp := 10) (fi := 4) (C := RX4) (T := TX4) (N := 6) (ref := "WheelDesk$Wheel") ⟨rfl, rfl, rfl⟩ rfl fi_X3_measure_X4 (by decide) rfl (List.mem_of_getElem? (i := 4) rfl) dX3_measure_59 h fun σ lv st h =>
    so_ifne E 78 (by decide) dX3_measure_62 (sb_X3_measure_78 E T h_X3_addProducts h_X3_findCofactors) h fun σ lv st h =>
    so_aload_n E (i := 0) rfl dX3_measure_65 h fun σ lv st h =>
    so_aload_n E (i := 1) rfl dX3_measure_66 h fun σ lv st h =>
    so_get E (pp := 0) (fi := 7) (C := RX0) (T := TX0) (N := 11) (ref := "WheelDesk$Craft") ⟨rfl, rfl, rfl⟩ rfl fi_X3_measure_X0 (by decide) rfl (List.mem_of_getElem? (i := 3) rfl) dX3_measure_67 h fun σ lv st h =>
    so_iload_n E (i := 3) rfl dX3_measure_70 h fun σ lv st h =>
    so_aald E dX3_measure_71 h fun σ lv st h =>
    so_get E (pp := 10) (fi := 0) (C := RX4) (T := TX4) (N := 6) (ref := "WheelDesk$Wheel") ⟨rfl, rfl, rfl⟩ rfl fi_X3_measure_X4 (by decide) rfl (List.mem_of_getElem? (i := 5) rfl) dX3_measure_72 h fun σ lv st h =>
    so_callV E (n := 1) (pp := 12) (C := RX3) (T := TX3) (N := 4) (idx := 43) (maxL := 4) (ret := none) h_X3_addProducts ⟨rfl, rfl, rfl⟩ rfl gX3_measure_X3_addProducts rfl ⟨rfl, rfl⟩ (by decide +kernel) (by decide) dX3_measure_75 h fun σ lv st h =>
    (sb_X3_measure_78 E T h_X3_addProducts h_X3_findCofactors) σ lv st h
set_option maxRecDepth 20000 in
theorem sb_X3_measure_132 {J : Nat → q_K} {l : Launch} {Qp : Option q_V → q_M → Prop} (E : q_E J cX3_measure RX3 wsX3_measure 5 l rm_X3_measure) (T : q_T J cX3_measure none Qp) (h_X3_addProducts : q_Ct yX3_addProducts wsX3_addProducts rm_X3_addProducts S_X3_addProducts) (h_X3_findCofactors : q_Ct yX3_findCofactors wsX3_findCofactors rm_X3_findCofactors S_X3_findCofactors) : ∀ (σ : q_M) (lv : q_L) (st : q_S), k_X3_measure_132 Qp J σ lv st → J 132 σ lv st := fun σ lv st h =>
    so_vret T dX3_measure_132 h
set_option maxRecDepth 20000 in
theorem sb_X3_measure_95 {J : Nat → q_K} {l : Launch} {Qp : Option q_V → q_M → Prop} (E : q_E J cX3_measure RX3 wsX3_measure 5 l rm_X3_measure) (T : q_T J cX3_measure none Qp) (h_X3_addProducts : q_Ct yX3_addProducts wsX3_addProducts rm_X3_addProducts S_X3_addProducts) (h_X3_findCofactors : q_Ct yX3_findCofactors wsX3_findCofactors rm_X3_findCofactors S_X3_findCofactors) : ∀ (σ : q_M) (lv : q_L) (st : q_S), k_X3_measure_95 Qp J σ lv st → J 95 σ lv st := fun σ lv st h =>
    so_iload_n E (i := 3) rfl dX3_measure_95 h fun σ lv st h =>
    so_iconst E (x := 3) dX3_measure_96 h fun σ lv st h =>
    so_icmpge E 132 (by decide) dX3_measure_97 (sb_X3_measure_132 E T h_X3_addProducts h_X3_findCofactors) h fun σ lv st h =>
    so_aload_n E (i := 0) rfl dX3_measure_100 h fun σ lv st h =>
    so_dup E dX3_measure_101 h fun σ lv st h =>
    so_get E (pp := 12) (fi := 3) (C := RX3) (T := TX3) (N := 4) (ref := "WheelDesk$Sharing") ⟨rfl, rfl, rfl⟩ rfl fi_X3_measure_X3 (by decide) rfl (List.mem_of_getElem? (i := 6) rfl) dX3_measure_102 h fun σ lv st h =>
    so_aload_n E (i := 0) rfl dX3_measure_105 h fun σ lv st h =>
    so_get E (pp := 12) (fi := 0) (C := RX3) (T := TX3) (N := 4) (ref := "WheelDesk$Sharing") ⟨rfl, rfl, rfl⟩ rfl fi_X3_measure_X3 (by decide) rfl (List.mem_of_getElem? (i := 1) rfl) dX3_measure_106 h fun σ lv st h =>
    so_iconst E (x := 0) dX3_measure_109 h fun σ lv st h =>
    so_aald E dX3_measure_110 h fun σ lv st h =>
    so_iload_n E (i := 3) rfl dX3_measure_111 h fun σ lv st h =>
    so_lald E dX3_measure_112 h fun σ lv st h =>
    so_aload_n E (i := 0) rfl dX3_measure_113 h fun σ lv st h =>
    so_get E (pp := 12) (fi := 1) (C := RX3) (T := TX3) (N := 4) (ref := "WheelDesk$Sharing") ⟨rfl, rfl, rfl⟩ rfl fi_X3_measure_X3 (by decide) rfl (List.mem_of_getElem? (i := 7) rfl) dX3_measure_114 h fun σ lv st h =>
    so_iconst E (x := 0) dX3_measure_117 h fun σ lv st h =>
    so_aald E dX3_measure_118 h fun σ lv st h =>
    so_iload_n E (i := 3) rfl dX3_measure_119 h fun σ lv st h =>
    so_lald E dX3_measure_120 h fun σ lv st h =>
    so_lmul E dX3_measure_121 h fun σ lv st h =>
    so_ladd E dX3_measure_122 h fun σ lv st h =>
    so_putl E (pp := 12) (fi := 3) (sl := 0) (C := RX3) (T := TX3) (N := 4) (ref := "WheelDesk$Sharing") ⟨rfl, rfl, rfl⟩ rfl fi_X3_measure_X3 tyX3 tyX3_ok nmX3 (by decide) rfl rfl rfl q_fs_12_3 (List.mem_of_getElem? (i := 6) rfl) dX3_measure_123 h fun σ lv st h =>
    so_iinc E (i := 3) (n := 1) (by decide) dX3_measure_126 h fun σ lv st h =>
    so_goto E 95 (by decide) dX3_measure_129 (fun _ _ _ h => h) h
theorem c_X3_measure (h_X3_addProducts : q_Ct yX3_addProducts wsX3_addProducts rm_X3_addProducts S_X3_addProducts) (h_X3_findCofactors : q_Ct yX3_findCofactors wsX3_findCofactors rm_X3_findCofactors S_X3_findCofactors) : q_Ct yX3_measure wsX3_measure rm_X3_measure S_X3_measure := by
  refine q_met (cc := cX3_measure) (maxL := 5) (ret := none) (own := RX3) (by decide +kernel) rfl rfl (fun σ vs Qp h => ?_) (fun l J σ vs Qp E T h => ?_)
  · unfold S_X3_measure at h
    split at h
    · exact Nat.le_of_ble_eq_true rfl
    · exact h.elim
  · unfold S_X3_measure at h
    split at h
    · next c0 p0 k0 c p1 k1 lo =>
      obtain ⟨rfl, rfl, rfl, rfl, rfl, h⟩ := h
      exact v_X3_measure (so_C E) (sb_X3_measure_0 E T h_X3_addProducts h_X3_findCofactors) (sb_X3_measure_2 E T h_X3_addProducts h_X3_findCofactors) (sb_X3_measure_10 E T h_X3_addProducts h_X3_findCofactors) (sb_X3_measure_40 E T h_X3_addProducts h_X3_findCofactors) (sb_X3_measure_95 E T h_X3_addProducts h_X3_findCofactors) h
    · exact h.elim
theorem cc_X3_measure : q_Ct yX3_measure wsX3_measure rm_X3_measure S_X3_measure := c_X3_measure cc_X3_addProducts cc_X3_findCofactors

def rm_X5_limited : Room := { frames := 0, cells := 0, slots := 0, locals := 0 }
set_option maxRecDepth 20000 in
theorem sb_X5_limited_21 {J : Nat → q_K} {l : Launch} {Qp : Option q_V → q_M → Prop} (E : q_E J cX5_limited RX5 wsX5_limited 6 l rm_X5_limited) (T : q_T J cX5_limited (some .long) Qp) : ∀ (σ : q_M) (lv : q_L) (st : q_S), k_X5_limited_21 Qp J σ lv st → J 21 σ lv st := fun σ lv st h =>
    so_lret T dX5_limited_21 h
set_option maxRecDepth 20000 in
theorem sb_X5_limited_20 {J : Nat → q_K} {l : Launch} {Qp : Option q_V → q_M → Prop} (E : q_E J cX5_limited RX5 wsX5_limited 6 l rm_X5_limited) (T : q_T J cX5_limited (some .long) Qp) : ∀ (σ : q_M) (lv : q_L) (st : q_S), k_X5_limited_20 Qp J σ lv st → J 20 σ lv st := fun σ lv st h =>
    so_lload_n E (i := 0) rfl dX5_limited_20 h fun σ lv st h =>
    (sb_X5_limited_21 E T) σ lv st h
set_option maxRecDepth 20000 in
theorem sb_X5_limited_8 {J : Nat → q_K} {l : Launch} {Qp : Option q_V → q_M → Prop} (E : q_E J cX5_limited RX5 wsX5_limited 6 l rm_X5_limited) (T : q_T J cX5_limited (some .long) Qp) : ∀ (σ : q_M) (lv : q_L) (st : q_S), k_X5_limited_8 Qp J σ lv st → J 8 σ lv st := fun σ lv st h =>
    so_lload_n E (i := 0) rfl dX5_limited_8 h fun σ lv st h =>
    so_lload E (i := 4) dX5_limited_9 h fun σ lv st h =>
    so_lcmp E dX5_limited_11 h fun σ lv st h =>
    so_ifle E 20 (by decide) dX5_limited_12 (sb_X5_limited_20 E T) h fun σ lv st h =>
    so_lload E (i := 4) dX5_limited_15 h fun σ lv st h =>
    so_goto E 21 (by decide) dX5_limited_17 (sb_X5_limited_21 E T) h
set_option maxRecDepth 20000 in
theorem sb_X5_limited_0 {J : Nat → q_K} {l : Launch} {Qp : Option q_V → q_M → Prop} (E : q_E J cX5_limited RX5 wsX5_limited 6 l rm_X5_limited) (T : q_T J cX5_limited (some .long) Qp) : ∀ (σ : q_M) (lv : q_L) (st : q_S), k_X5_limited_0 Qp J σ lv st → J 0 σ lv st := fun σ lv st h =>
    so_lload_n E (i := 0) rfl dX5_limited_0 h fun σ lv st h =>
    so_lload_n E (i := 2) rfl dX5_limited_1 h fun σ lv st h =>
    so_lcmp E dX5_limited_2 h fun σ lv st h =>
    so_ifge E 8 (by decide) dX5_limited_3 (sb_X5_limited_8 E T) h fun σ lv st h =>
    so_lload_n E (i := 2) rfl dX5_limited_6 h fun σ lv st h =>
    so_lret T dX5_limited_7 h
theorem c_X5_limited : q_Ct yX5_limited wsX5_limited rm_X5_limited S_X5_limited := by
  refine q_met (cc := cX5_limited) (maxL := 6) (ret := (some .long)) (own := RX5) (by decide +kernel) rfl rfl (fun σ vs Qp h => ?_) (fun l J σ vs Qp E T h => ?_)
  · unfold S_X5_limited at h
    split at h
    · exact Nat.le_of_ble_eq_true rfl
    · exact h.elim
  · unfold S_X5_limited at h
    split at h
    · next v a b =>
      exact v_X5_limited (so_C E) (sb_X5_limited_0 E T) h
    · exact h.elim
theorem cc_X5_limited : q_Ct yX5_limited wsX5_limited rm_X5_limited S_X5_limited := c_X5_limited

def rm_X0_findWish : Room := { frames := 3, cells := 0, slots := 0, locals := 69 }
theorem fi_X0_findWish_X0 : ∀ w ∈ u_ws RX0 TX0 11, w ∈ wsX0_findWish := fun w h => List.mem_cons_of_mem _ (List.mem_append_right _ h)
set_option maxRecDepth 20000 in
theorem sb_X0_findWish_0 {J : Nat → q_K} {l : Launch} {Qp : Option q_V → q_M → Prop} (E : q_E J cX0_findWish RX0 wsX0_findWish 12 l rm_X0_findWish) (T : q_T J cX0_findWish none Qp) (h_X5_quotient : q_Ct yX5_quotient wsX5_quotient rm_X5_quotient S_X5_quotient) (h_X5_limited : q_Ct yX5_limited wsX5_limited rm_X5_limited S_X5_limited) (h_X0_rate : q_Ct yX0_rate wsX0_rate rm_X0_rate S_X0_rate) : ∀ (σ : q_M) (lv : q_L) (st : q_S), k_X0_findWish_0 Qp J σ lv st → J 0 σ lv st := fun σ lv st h =>
    so_aload_n E (i := 0) rfl dX0_findWish_0 h fun σ lv st h =>
    so_get E (pp := 0) (fi := 1) (C := RX0) (T := TX0) (N := 11) (ref := "WheelDesk$Craft") ⟨rfl, rfl, rfl⟩ rfl fi_X0_findWish_X0 (by decide) rfl (List.mem_of_getElem? (i := 1) rfl) dX0_findWish_1 h fun σ lv st h =>
    so_iconst E (x := 2) dX0_findWish_4 h fun σ lv st h =>
    so_iald E dX0_findWish_5 h fun σ lv st h =>
    so_i2l E dX0_findWish_6 h fun σ lv st h =>
    so_lstore_n E (i := 1) rfl (by decide) dX0_findWish_7 h fun σ lv st h =>
    so_aload_n E (i := 0) rfl dX0_findWish_8 h fun σ lv st h =>
    so_get E (pp := 0) (fi := 1) (C := RX0) (T := TX0) (N := 11) (ref := "WheelDesk$Craft") ⟨rfl, rfl, rfl⟩ rfl fi_X0_findWish_X0 (by decide) rfl (List.mem_of_getElem? (i := 1) rfl) dX0_findWish_9 h fun σ lv st h =>
    so_iconst E (x := 3) dX0_findWish_12 h fun σ lv st h =>
    so_iald E dX0_findWish_13 h fun σ lv st h =>
    so_i2l E dX0_findWish_14 h fun σ lv st h =>
    so_lstore_n E (i := 3) rfl (by decide) dX0_findWish_15 h fun σ lv st h =>
    so_iconst E (x := 0) dX0_findWish_16 h fun σ lv st h =>
    so_istore E (i := 5) (by decide) dX0_findWish_17 h fun σ lv st h =>
    h
set_option maxRecDepth 20000 in
theorem sb_X0_findWish_109 {J : Nat → q_K} {l : Launch} {Qp : Option q_V → q_M → Prop} (E : q_E J cX0_findWish RX0 wsX0_findWish 12 l rm_X0_findWish) (T : q_T J cX0_findWish none Qp) (h_X5_quotient : q_Ct yX5_quotient wsX5_quotient rm_X5_quotient S_X5_quotient) (h_X5_limited : q_Ct yX5_limited wsX5_limited rm_X5_limited S_X5_limited) (h_X0_rate : q_Ct yX0_rate wsX0_rate rm_X0_rate S_X0_rate) : ∀ (σ : q_M) (lv : q_L) (st : q_S), k_X0_findWish_109 Qp J σ lv st → J 109 σ lv st := fun σ lv st h =>
    so_vret T dX0_findWish_109 h
set_option maxRecDepth 20000 in
theorem sb_X0_findWish_19 {J : Nat → q_K} {l : Launch} {Qp : Option q_V → q_M → Prop} (E : q_E J cX0_findWish RX0 wsX0_findWish 12 l rm_X0_findWish) (T : q_T J cX0_findWish none Qp) (h_X5_quotient : q_Ct yX5_quotient wsX5_quotient rm_X5_quotient S_X5_quotient) (h_X5_limited : q_Ct yX5_limited wsX5_limited rm_X5_limited S_X5_limited) (h_X0_rate : q_Ct yX0_rate wsX0_rate rm_X0_rate S_X0_rate) : ∀ (σ : q_M) (lv : q_L) (st : q_S), k_X0_findWish_19 Qp J σ lv st → J 19 σ lv st := fun σ lv st h =>
    so_iload E (i := 5) dX0_findWish_19 h fun σ lv st h =>
    so_iconst E (x := 3) dX0_findWish_21 h fun σ lv st h =>
    so_icmpge E 109 (by decide) dX0_findWish_22 (sb_X0_findWish_109 E T h_X5_quotient h_X5_limited h_X0_rate) h fun σ lv st h =>
    so_aload_n E (i := 0) rfl dX0_findWish_25 h fun σ lv st h =>
    so_get E (pp := 0) (fi := 1) (C := RX0) (T := TX0) (N := 11) (ref := "WheelDesk$Craft") ⟨rfl, rfl, rfl⟩ rfl fi_X0_findWish_X0 (by decide) rfl (List.mem_of_getElem? (i := 1) rfl) dX0_findWish_26 h fun σ lv st h =>
    so_iconst E (x := 0) dX0_findWish_29 h fun σ lv st h =>
    so_iald E dX0_findWish_30 h fun σ lv st h =>
    so_i2l E dX0_findWish_31 h fun σ lv st h =>
    so_aload_n E (i := 0) rfl dX0_findWish_32 h fun σ lv st h =>
    so_get E (pp := 0) (fi := 2) (C := RX0) (T := TX0) (N := 11) (ref := "WheelDesk$Craft") ⟨rfl, rfl, rfl⟩ rfl fi_X0_findWish_X0 (by decide) rfl (List.mem_of_getElem? (i := 2) rfl) dX0_findWish_33 h fun σ lv st h =>
    so_iconst E (x := 1) dX0_findWish_36 h fun σ lv st h =>
    so_aald E dX0_findWish_37 h fun σ lv st h =>
    so_iload E (i := 5) dX0_findWish_38 h fun σ lv st h =>
    so_iald E dX0_findWish_40 h fun σ lv st h =>
    so_i2l E dX0_findWish_41 h fun σ lv st h =>
    so_aload_n E (i := 0) rfl dX0_findWish_42 h fun σ lv st h =>
    so_get E (pp := 0) (fi := 3) (C := RX0) (T := TX0) (N := 11) (ref := "WheelDesk$Craft") ⟨rfl, rfl, rfl⟩ rfl fi_X0_findWish_X0 (by decide) rfl (List.mem_of_getElem? (i := 3) rfl) dX0_findWish_43 h fun σ lv st h =>
    so_iload E (i := 5) dX0_findWish_46 h fun σ lv st h =>
    so_lald E dX0_findWish_48 h fun σ lv st h =>
    so_lsub E dX0_findWish_49 h fun σ lv st h =>
    so_lmul E dX0_findWish_50 h fun σ lv st h =>
    so_lstore E (i := 6) (by decide) dX0_findWish_51 h fun σ lv st h =>
    so_lload E (i := 6) dX0_findWish_53 h fun σ lv st h =>
    so_ldc2 E (x := 100) (idx := 90) (v := 100) (List.mem_of_getElem? (i := 4) rfl) rfl dX0_findWish_55 h fun σ lv st h =>
    so_callN E (n := 2) (idx := 72) (maxL := 4) (ret := (some .long)) h_X5_quotient gX0_findWish_X5_quotient_n72 rfl ⟨rfl, rfl⟩ (by decide +kernel) (List.mem_of_getElem? (i := 6) rfl) (List.mem_of_getElem? (i := 7) rfl) (by decide +kernel) (by decide) dX0_findWish_58 h fun σ lv st h =>
    so_lload_n E (i := 1) rfl dX0_findWish_61 h fun σ lv st h =>
    so_lneg E dX0_findWish_62 h fun σ lv st h =>
    so_lload_n E (i := 1) rfl dX0_findWish_63 h fun σ lv st h =>
    so_callN E (n := 3) (idx := 92) (maxL := 6) (ret := (some .long)) h_X5_limited gX0_findWish_X5_limited_n92 rfl ⟨rfl, rfl⟩ (by decide +kernel) (List.mem_of_getElem? (i := 13) rfl) (List.mem_of_getElem? (i := 7) rfl) (by decide +kernel) (by decide) dX0_findWish_64 h fun σ lv st h =>
    so_lstore E (i := 8) (by decide) dX0_findWish_67 h fun σ lv st h =>
    so_aload_n E (i := 0) rfl dX0_findWish_69 h fun σ lv st h =>
    so_get E (pp := 0) (fi := 1) (C := RX0) (T := TX0) (N := 11) (ref := "WheelDesk$Craft") ⟨rfl, rfl, rfl⟩ rfl fi_X0_findWish_X0 (by decide) rfl (List.mem_of_getElem? (i := 1) rfl) dX0_findWish_70 h fun σ lv st h =>
    so_iconst E (x := 1) dX0_findWish_73 h fun σ lv st h =>
    so_iald E dX0_findWish_74 h fun σ lv st h =>
    so_i2l E dX0_findWish_75 h fun σ lv st h =>
    so_lload E (i := 8) dX0_findWish_76 h fun σ lv st h =>
    so_aload_n E (i := 0) rfl dX0_findWish_78 h fun σ lv st h =>
    so_iload E (i := 5) dX0_findWish_79 h fun σ lv st h =>
    so_callV E (n := 1) (pp := 0) (C := RX0) (T := TX0) (N := 11) (idx := 63) (maxL := 2) (ret := (some .long)) h_X0_rate ⟨rfl, rfl, rfl⟩ rfl gX0_findWish_X0_rate rfl ⟨rfl, rfl⟩ (by decide +kernel) (by decide) dX0_findWish_81 h fun σ lv st h =>
    so_lsub E dX0_findWish_84 h fun σ lv st h =>
    so_lmul E dX0_findWish_85 h fun σ lv st h =>
    so_lstore E (i := 10) (by decide) dX0_findWish_86 h fun σ lv st h =>
    so_aload_n E (i := 0) rfl dX0_findWish_88 h fun σ lv st h =>
    so_get E (pp := 0) (fi := 6) (C := RX0) (T := TX0) (N := 11) (ref := "WheelDesk$Craft") ⟨rfl, rfl, rfl⟩ rfl fi_X0_findWish_X0 (by decide) rfl (List.mem_of_getElem? (i := 5) rfl) dX0_findWish_89 h fun σ lv st h =>
    so_iload E (i := 5) dX0_findWish_92 h fun σ lv st h =>
    so_lload E (i := 10) dX0_findWish_94 h fun σ lv st h =>
    so_lload_n E (i := 3) rfl dX0_findWish_96 h fun σ lv st h =>
    so_lneg E dX0_findWish_97 h fun σ lv st h =>
    so_lload_n E (i := 3) rfl dX0_findWish_98 h fun σ lv st h =>
    so_callN E (n := 3) (idx := 92) (maxL := 6) (ret := (some .long)) h_X5_limited gX0_findWish_X5_limited_n92 rfl ⟨rfl, rfl⟩ (by decide +kernel) (List.mem_of_getElem? (i := 13) rfl) (List.mem_of_getElem? (i := 7) rfl) (by decide +kernel) (by decide) dX0_findWish_99 h fun σ lv st h =>
    so_last E dX0_findWish_102 h fun σ lv st h =>
    so_iinc E (i := 5) (n := 1) (by decide) dX0_findWish_103 h fun σ lv st h =>
    so_goto E 19 (by decide) dX0_findWish_106 (fun _ _ _ h => h) h
theorem c_X0_findWish (h_X5_quotient : q_Ct yX5_quotient wsX5_quotient rm_X5_quotient S_X5_quotient) (h_X5_limited : q_Ct yX5_limited wsX5_limited rm_X5_limited S_X5_limited) (h_X0_rate : q_Ct yX0_rate wsX0_rate rm_X0_rate S_X0_rate) : q_Ct yX0_findWish wsX0_findWish rm_X0_findWish S_X0_findWish := by
  refine q_met (cc := cX0_findWish) (maxL := 12) (ret := none) (own := RX0) (by decide +kernel) rfl rfl (fun σ vs Qp h => ?_) (fun l J σ vs Qp E T h => ?_)
  · unfold S_X0_findWish at h
    split at h
    · exact Nat.le_of_ble_eq_true rfl
    · exact h.elim
  · unfold S_X0_findWish at h
    split at h
    · next c p0 k0 =>
      obtain ⟨rfl, rfl, h⟩ := h
      exact v_X0_findWish (so_C E) (sb_X0_findWish_0 E T h_X5_quotient h_X5_limited h_X0_rate) (sb_X0_findWish_19 E T h_X5_quotient h_X5_limited h_X0_rate) h
    · exact h.elim
theorem cc_X0_findWish : q_Ct yX0_findWish wsX0_findWish rm_X0_findWish S_X0_findWish := c_X0_findWish cc_X5_quotient cc_X5_limited cc_X0_rate

def rm_X3_spans : Room := { frames := 0, cells := 0, slots := 0, locals := 0 }
theorem fi_X3_spans_X3 : ∀ w ∈ u_ws RX3 TX3 4, w ∈ wsX3_spans := fun w h => List.mem_cons_of_mem _ (List.mem_append_right _ h)
set_option maxRecDepth 20000 in
theorem sb_X3_spans_14 {J : Nat → q_K} {l : Launch} {Qp : Option q_V → q_M → Prop} (E : q_E J cX3_spans RX3 wsX3_spans 1 l rm_X3_spans) (T : q_T J cX3_spans (some .boolean) Qp) : ∀ (σ : q_M) (lv : q_L) (st : q_S), k_X3_spans_14 Qp J σ lv st → J 14 σ lv st := fun σ lv st h =>
    so_zret T dX3_spans_14 h
set_option maxRecDepth 20000 in
theorem sb_X3_spans_13 {J : Nat → q_K} {l : Launch} {Qp : Option q_V → q_M → Prop} (E : q_E J cX3_spans RX3 wsX3_spans 1 l rm_X3_spans) (T : q_T J cX3_spans (some .boolean) Qp) : ∀ (σ : q_M) (lv : q_L) (st : q_S), k_X3_spans_13 Qp J σ lv st → J 13 σ lv st := fun σ lv st h =>
    so_iconst E (x := 0) dX3_spans_13 h fun σ lv st h =>
    (sb_X3_spans_14 E T) σ lv st h
set_option maxRecDepth 20000 in
theorem sb_X3_spans_0 {J : Nat → q_K} {l : Launch} {Qp : Option q_V → q_M → Prop} (E : q_E J cX3_spans RX3 wsX3_spans 1 l rm_X3_spans) (T : q_T J cX3_spans (some .boolean) Qp) : ∀ (σ : q_M) (lv : q_L) (st : q_S), k_X3_spans_0 Qp J σ lv st → J 0 σ lv st := fun σ lv st h =>
    so_aload_n E (i := 0) rfl dX3_spans_0 h fun σ lv st h =>
    so_get E (pp := 12) (fi := 3) (C := RX3) (T := TX3) (N := 4) (ref := "WheelDesk$Sharing") ⟨rfl, rfl, rfl⟩ rfl fi_X3_spans_X3 (by decide) rfl (List.mem_of_getElem? (i := 1) rfl) dX3_spans_1 h fun σ lv st h =>
    so_lconst E (x := 0) rfl dX3_spans_4 h fun σ lv st h =>
    so_lcmp E dX3_spans_5 h fun σ lv st h =>
    so_ifle E 13 (by decide) dX3_spans_6 (sb_X3_spans_13 E T) h fun σ lv st h =>
    so_iconst E (x := 1) dX3_spans_9 h fun σ lv st h =>
    so_goto E 14 (by decide) dX3_spans_10 (sb_X3_spans_14 E T) h
theorem c_X3_spans : q_Ct yX3_spans wsX3_spans rm_X3_spans S_X3_spans := by
  refine q_met (cc := cX3_spans) (maxL := 1) (ret := (some .boolean)) (own := RX3) (by decide +kernel) rfl rfl (fun σ vs Qp h => ?_) (fun l J σ vs Qp E T h => ?_)
  · unfold S_X3_spans at h
    split at h
    · exact Nat.le_of_ble_eq_true rfl
    · exact h.elim
  · unfold S_X3_spans at h
    split at h
    · next c0 p0 k0 =>
      obtain ⟨rfl, rfl, rfl, h⟩ := h
      exact v_X3_spans (so_C E) (sb_X3_spans_0 E T) h
    · exact h.elim
theorem cc_X3_spans : q_Ct yX3_spans wsX3_spans rm_X3_spans S_X3_spans := c_X3_spans

def rm_X0_tellNoSpan : Room := { frames := 0, cells := 0, slots := 0, locals := 0 }
theorem fi_X0_tellNoSpan_X0 : ∀ w ∈ u_ws RX0 TX0 11, w ∈ wsX0_tellNoSpan := fun w h => List.mem_cons_of_mem _ (List.mem_append_left _ (List.mem_append_right _ h))
theorem fi_X0_tellNoSpan_X4 : ∀ w ∈ u_ws RX4 TX4 6, w ∈ wsX0_tellNoSpan := fun w h => List.mem_cons_of_mem _ (List.mem_append_right _ h)
set_option maxRecDepth 20000 in
theorem sb_X0_tellNoSpan_0 {J : Nat → q_K} {l : Launch} {Qp : Option q_V → q_M → Prop} (E : q_E J cX0_tellNoSpan RX0 wsX0_tellNoSpan 2 l rm_X0_tellNoSpan) (T : q_T J cX0_tellNoSpan none Qp) : ∀ (σ : q_M) (lv : q_L) (st : q_S), k_X0_tellNoSpan_0 Qp J σ lv st → J 0 σ lv st := fun σ lv st h =>
    so_aload_n E (i := 0) rfl dX0_tellNoSpan_0 h fun σ lv st h =>
    so_get E (pp := 0) (fi := 9) (C := RX0) (T := TX0) (N := 11) (ref := "WheelDesk$Craft") ⟨rfl, rfl, rfl⟩ rfl fi_X0_tellNoSpan_X0 (by decide) rfl (List.mem_of_getElem? (i := 1) rfl) dX0_tellNoSpan_1 h fun σ lv st h =>
    so_iconst E (x := 0) dX0_tellNoSpan_4 h fun σ lv st h =>
    so_iconst E (x := 1) dX0_tellNoSpan_5 h fun σ lv st h =>
    so_iast E dX0_tellNoSpan_6 h fun σ lv st h =>
    so_aload_n E (i := 0) rfl dX0_tellNoSpan_7 h fun σ lv st h =>
    so_iconst E (x := 1) dX0_tellNoSpan_8 h fun σ lv st h =>
    so_puti E (pp := 0) (fi := 10) (sl := 2) (C := RX0) (T := TX0) (N := 11) (ref := "WheelDesk$Craft") ⟨rfl, rfl, rfl⟩ rfl fi_X0_tellNoSpan_X0 tyX0 tyX0_ok nmX0 (by decide) rfl rfl rfl q_fs_0_10 (List.mem_of_getElem? (i := 2) rfl) dX0_tellNoSpan_9 h fun σ lv st h =>
    so_iconst E (x := 0) dX0_tellNoSpan_12 h fun σ lv st h =>
    so_istore_n E (i := 1) rfl (by decide) dX0_tellNoSpan_13 h fun σ lv st h =>
    h
set_option maxRecDepth 20000 in
theorem sb_X0_tellNoSpan_63 {J : Nat → q_K} {l : Launch} {Qp : Option q_V → q_M → Prop} (E : q_E J cX0_tellNoSpan RX0 wsX0_tellNoSpan 2 l rm_X0_tellNoSpan) (T : q_T J cX0_tellNoSpan none Qp) : ∀ (σ : q_M) (lv : q_L) (st : q_S), k_X0_tellNoSpan_63 Qp J σ lv st → J 63 σ lv st := fun σ lv st h =>
    so_vret T dX0_tellNoSpan_63 h
set_option maxRecDepth 20000 in
theorem sb_X0_tellNoSpan_57 {J : Nat → q_K} {l : Launch} {Qp : Option q_V → q_M → Prop} (E : q_E J cX0_tellNoSpan RX0 wsX0_tellNoSpan 2 l rm_X0_tellNoSpan) (T : q_T J cX0_tellNoSpan none Qp) : ∀ (σ : q_M) (lv : q_L) (st : q_S), k_X0_tellNoSpan_57 Qp J σ lv st → J 57 σ lv st := fun σ lv st h =>
    so_iinc E (i := 1) (n := 1) (by decide) dX0_tellNoSpan_57 h fun σ lv st h =>
    so_goto E 14 (by decide) dX0_tellNoSpan_60 (fun _ _ _ h => h) h
set_option maxRecDepth 20000 in
theorem sb_X0_tellNoSpan_14 {J : Nat → q_K} {l : Launch} {Qp : Option q_V → q_M → Prop} (E : q_E J cX0_tellNoSpan RX0 wsX0_tellNoSpan 2 l rm_X0_tellNoSpan) (T : q_T J cX0_tellNoSpan none Qp) : ∀ (σ : q_M) (lv : q_L) (st : q_S), k_X0_tellNoSpan_14 Qp J σ lv st → J 14 σ lv st := fun σ lv st h =>
    so_iload_n E (i := 1) rfl dX0_tellNoSpan_14 h fun σ lv st h =>
    so_aload_n E (i := 0) rfl dX0_tellNoSpan_15 h fun σ lv st h =>
    so_get E (pp := 0) (fi := 8) (C := RX0) (T := TX0) (N := 11) (ref := "WheelDesk$Craft") ⟨rfl, rfl, rfl⟩ rfl fi_X0_tellNoSpan_X0 (by decide) rfl (List.mem_of_getElem? (i := 3) rfl) dX0_tellNoSpan_16 h fun σ lv st h =>
    so_icmpge E 63 (by decide) dX0_tellNoSpan_19 (sb_X0_tellNoSpan_63 E T) h fun σ lv st h =>
    so_aload_n E (i := 0) rfl dX0_tellNoSpan_22 h fun σ lv st h =>
    so_get E (pp := 0) (fi := 10) (C := RX0) (T := TX0) (N := 11) (ref := "WheelDesk$Craft") ⟨rfl, rfl, rfl⟩ rfl fi_X0_tellNoSpan_X0 (by decide) rfl (List.mem_of_getElem? (i := 2) rfl) dX0_tellNoSpan_23 h fun σ lv st h =>
    so_iconst E (x := 1) dX0_tellNoSpan_26 h fun σ lv st h =>
    so_icmpne E 63 (by decide) dX0_tellNoSpan_27 (sb_X0_tellNoSpan_63 E T) h fun σ lv st h =>
    so_aload_n E (i := 0) rfl dX0_tellNoSpan_30 h fun σ lv st h =>
    so_get E (pp := 0) (fi := 7) (C := RX0) (T := TX0) (N := 11) (ref := "WheelDesk$Craft") ⟨rfl, rfl, rfl⟩ rfl fi_X0_tellNoSpan_X0 (by decide) rfl (List.mem_of_getElem? (i := 4) rfl) dX0_tellNoSpan_31 h fun σ lv st h =>
    so_iload_n E (i := 1) rfl dX0_tellNoSpan_34 h fun σ lv st h =>
    so_aald E dX0_tellNoSpan_35 h fun σ lv st h =>
    so_get E (pp := 10) (fi := 4) (C := RX4) (T := TX4) (N := 6) (ref := "WheelDesk$Wheel") ⟨rfl, rfl, rfl⟩ rfl fi_X0_tellNoSpan_X4 (by decide) rfl (List.mem_of_getElem? (i := 5) rfl) dX0_tellNoSpan_36 h fun σ lv st h =>
    so_ifeq E 57 (by decide) dX0_tellNoSpan_39 (sb_X0_tellNoSpan_57 E T) h fun σ lv st h =>
    so_aload_n E (i := 0) rfl dX0_tellNoSpan_42 h fun σ lv st h =>
    so_get E (pp := 0) (fi := 9) (C := RX0) (T := TX0) (N := 11) (ref := "WheelDesk$Craft") ⟨rfl, rfl, rfl⟩ rfl fi_X0_tellNoSpan_X0 (by decide) rfl (List.mem_of_getElem? (i := 1) rfl) dX0_tellNoSpan_43 h fun σ lv st h =>
    so_iconst E (x := 1) dX0_tellNoSpan_46 h fun σ lv st h =>
    so_bipush E (x := 10) rfl dX0_tellNoSpan_47 h fun σ lv st h =>
    so_iload_n E (i := 1) rfl dX0_tellNoSpan_49 h fun σ lv st h =>
    so_iadd E dX0_tellNoSpan_50 h fun σ lv st h =>
    so_iast E dX0_tellNoSpan_51 h fun σ lv st h =>
    so_aload_n E (i := 0) rfl dX0_tellNoSpan_52 h fun σ lv st h =>
    so_iconst E (x := 2) dX0_tellNoSpan_53 h fun σ lv st h =>
    so_puti E (pp := 0) (fi := 10) (sl := 2) (C := RX0) (T := TX0) (N := 11) (ref := "WheelDesk$Craft") ⟨rfl, rfl, rfl⟩ rfl fi_X0_tellNoSpan_X0 tyX0 tyX0_ok nmX0 (by decide) rfl rfl rfl q_fs_0_10 (List.mem_of_getElem? (i := 2) rfl) dX0_tellNoSpan_54 h fun σ lv st h =>
    (sb_X0_tellNoSpan_57 E T) σ lv st h
theorem c_X0_tellNoSpan : q_Ct yX0_tellNoSpan wsX0_tellNoSpan rm_X0_tellNoSpan S_X0_tellNoSpan := by
  refine q_met (cc := cX0_tellNoSpan) (maxL := 2) (ret := none) (own := RX0) (by decide +kernel) rfl rfl (fun σ vs Qp h => ?_) (fun l J σ vs Qp E T h => ?_)
  · unfold S_X0_tellNoSpan at h
    split at h
    · exact Nat.le_of_ble_eq_true rfl
    · exact h.elim
  · unfold S_X0_tellNoSpan at h
    split at h
    · next c p0 k0 =>
      obtain ⟨rfl, rfl, h⟩ := h
      exact v_X0_tellNoSpan (so_C E) (sb_X0_tellNoSpan_0 E T) (sb_X0_tellNoSpan_14 E T) h
    · exact h.elim
theorem cc_X0_tellNoSpan : q_Ct yX0_tellNoSpan wsX0_tellNoSpan rm_X0_tellNoSpan S_X0_tellNoSpan := c_X0_tellNoSpan

def rm_X0_tellMet : Room := { frames := 0, cells := 0, slots := 0, locals := 0 }
theorem fi_X0_tellMet_X0 : ∀ w ∈ u_ws RX0 TX0 11, w ∈ wsX0_tellMet := fun w h => List.mem_cons_of_mem _ (List.mem_append_right _ h)
set_option maxRecDepth 20000 in
theorem sb_X0_tellMet_0 {J : Nat → q_K} {l : Launch} {Qp : Option q_V → q_M → Prop} (E : q_E J cX0_tellMet RX0 wsX0_tellMet 1 l rm_X0_tellMet) (T : q_T J cX0_tellMet none Qp) : ∀ (σ : q_M) (lv : q_L) (st : q_S), k_X0_tellMet_0 Qp J σ lv st → J 0 σ lv st := fun σ lv st h =>
    so_aload_n E (i := 0) rfl dX0_tellMet_0 h fun σ lv st h =>
    so_get E (pp := 0) (fi := 9) (C := RX0) (T := TX0) (N := 11) (ref := "WheelDesk$Craft") ⟨rfl, rfl, rfl⟩ rfl fi_X0_tellMet_X0 (by decide) rfl (List.mem_of_getElem? (i := 1) rfl) dX0_tellMet_1 h fun σ lv st h =>
    so_iconst E (x := 0) dX0_tellMet_4 h fun σ lv st h =>
    so_iconst E (x := 0) dX0_tellMet_5 h fun σ lv st h =>
    so_iast E dX0_tellMet_6 h fun σ lv st h =>
    so_aload_n E (i := 0) rfl dX0_tellMet_7 h fun σ lv st h =>
    so_iconst E (x := 1) dX0_tellMet_8 h fun σ lv st h =>
    so_puti E (pp := 0) (fi := 10) (sl := 2) (C := RX0) (T := TX0) (N := 11) (ref := "WheelDesk$Craft") ⟨rfl, rfl, rfl⟩ rfl fi_X0_tellMet_X0 tyX0 tyX0_ok nmX0 (by decide) rfl rfl rfl q_fs_0_10 (List.mem_of_getElem? (i := 2) rfl) dX0_tellMet_9 h fun σ lv st h =>
    so_vret T dX0_tellMet_12 h
theorem c_X0_tellMet : q_Ct yX0_tellMet wsX0_tellMet rm_X0_tellMet S_X0_tellMet := by
  refine q_met (cc := cX0_tellMet) (maxL := 1) (ret := none) (own := RX0) (by decide +kernel) rfl rfl (fun σ vs Qp h => ?_) (fun l J σ vs Qp E T h => ?_)
  · unfold S_X0_tellMet at h
    split at h
    · exact Nat.le_of_ble_eq_true rfl
    · exact h.elim
  · unfold S_X0_tellMet at h
    split at h
    · next c p0 k0 =>
      obtain ⟨rfl, rfl, h⟩ := h
      exact v_X0_tellMet (so_C E) (sb_X0_tellMet_0 E T) h
    · exact h.elim
theorem cc_X0_tellMet : q_Ct yX0_tellMet wsX0_tellMet rm_X0_tellMet S_X0_tellMet := c_X0_tellMet

def rm_X3_aim : Room := { frames := 0, cells := 0, slots := 0, locals := 0 }
theorem fi_X3_aim_X3 : ∀ w ∈ u_ws RX3 TX3 4, w ∈ wsX3_aim := fun w h => List.mem_cons_of_mem _ (List.mem_append_right _ h)
set_option maxRecDepth 20000 in
theorem sb_X3_aim_0 {J : Nat → q_K} {l : Launch} {Qp : Option q_V → q_M → Prop} (E : q_E J cX3_aim RX3 wsX3_aim 8 l rm_X3_aim) (T : q_T J cX3_aim none Qp) : ∀ (σ : q_M) (lv : q_L) (st : q_S), k_X3_aim_0 Qp J σ lv st → J 0 σ lv st := fun σ lv st h =>
    so_iconst E (x := 0) dX3_aim_0 h fun σ lv st h =>
    so_istore E (i := 7) (by decide) dX3_aim_1 h fun σ lv st h =>
    h
set_option maxRecDepth 20000 in
theorem sb_X3_aim_58 {J : Nat → q_K} {l : Launch} {Qp : Option q_V → q_M → Prop} (E : q_E J cX3_aim RX3 wsX3_aim 8 l rm_X3_aim) (T : q_T J cX3_aim none Qp) : ∀ (σ : q_M) (lv : q_L) (st : q_S), k_X3_aim_58 Qp J σ lv st → J 58 σ lv st := fun σ lv st h =>
    so_vret T dX3_aim_58 h
set_option maxRecDepth 20000 in
theorem sb_X3_aim_3 {J : Nat → q_K} {l : Launch} {Qp : Option q_V → q_M → Prop} (E : q_E J cX3_aim RX3 wsX3_aim 8 l rm_X3_aim) (T : q_T J cX3_aim none Qp) : ∀ (σ : q_M) (lv : q_L) (st : q_S), k_X3_aim_3 Qp J σ lv st → J 3 σ lv st := fun σ lv st h =>
    so_iload E (i := 7) dX3_aim_3 h fun σ lv st h =>
    so_iconst E (x := 3) dX3_aim_5 h fun σ lv st h =>
    so_icmpge E 58 (by decide) dX3_aim_6 (sb_X3_aim_58 E T) h fun σ lv st h =>
    so_aload_n E (i := 0) rfl dX3_aim_9 h fun σ lv st h =>
    so_get E (pp := 12) (fi := 2) (C := RX3) (T := TX3) (N := 4) (ref := "WheelDesk$Sharing") ⟨rfl, rfl, rfl⟩ rfl fi_X3_aim_X3 (by decide) rfl (List.mem_of_getElem? (i := 1) rfl) dX3_aim_10 h fun σ lv st h =>
    so_iload E (i := 7) dX3_aim_13 h fun σ lv st h =>
    so_aload_n E (i := 0) rfl dX3_aim_15 h fun σ lv st h =>
    so_get E (pp := 12) (fi := 1) (C := RX3) (T := TX3) (N := 4) (ref := "WheelDesk$Sharing") ⟨rfl, rfl, rfl⟩ rfl fi_X3_aim_X3 (by decide) rfl (List.mem_of_getElem? (i := 2) rfl) dX3_aim_16 h fun σ lv st h =>
    so_iload E (i := 7) dX3_aim_19 h fun σ lv st h =>
    so_aald E dX3_aim_21 h fun σ lv st h =>
    so_iconst E (x := 0) dX3_aim_22 h fun σ lv st h =>
    so_lald E dX3_aim_23 h fun σ lv st h =>
    so_lload_n E (i := 1) rfl dX3_aim_24 h fun σ lv st h =>
    so_lmul E dX3_aim_25 h fun σ lv st h =>
    so_aload_n E (i := 0) rfl dX3_aim_26 h fun σ lv st h =>
    so_get E (pp := 12) (fi := 1) (C := RX3) (T := TX3) (N := 4) (ref := "WheelDesk$Sharing") ⟨rfl, rfl, rfl⟩ rfl fi_X3_aim_X3 (by decide) rfl (List.mem_of_getElem? (i := 2) rfl) dX3_aim_27 h fun σ lv st h =>
    so_iload E (i := 7) dX3_aim_30 h fun σ lv st h =>
    so_aald E dX3_aim_32 h fun σ lv st h =>
    so_iconst E (x := 1) dX3_aim_33 h fun σ lv st h =>
    so_lald E dX3_aim_34 h fun σ lv st h =>
    so_lload_n E (i := 3) rfl dX3_aim_35 h fun σ lv st h =>
    so_lmul E dX3_aim_36 h fun σ lv st h =>
    so_ladd E dX3_aim_37 h fun σ lv st h =>
    so_aload_n E (i := 0) rfl dX3_aim_38 h fun σ lv st h =>
    so_get E (pp := 12) (fi := 1) (C := RX3) (T := TX3) (N := 4) (ref := "WheelDesk$Sharing") ⟨rfl, rfl, rfl⟩ rfl fi_X3_aim_X3 (by decide) rfl (List.mem_of_getElem? (i := 2) rfl) dX3_aim_39 h fun σ lv st h =>
    so_iload E (i := 7) dX3_aim_42 h fun σ lv st h =>
    so_aald E dX3_aim_44 h fun σ lv st h =>
    so_iconst E (x := 2) dX3_aim_45 h fun σ lv st h =>
    so_lald E dX3_aim_46 h fun σ lv st h =>
    so_lload E (i := 5) dX3_aim_47 h fun σ lv st h =>
    so_lmul E dX3_aim_49 h fun σ lv st h =>
    so_ladd E dX3_aim_50 h fun σ lv st h =>
    so_last E dX3_aim_51 h fun σ lv st h =>
    so_iinc E (i := 7) (n := 1) (by decide) dX3_aim_52 h fun σ lv st h =>
    so_goto E 3 (by decide) dX3_aim_55 (fun _ _ _ h => h) h
theorem c_X3_aim : q_Ct yX3_aim wsX3_aim rm_X3_aim S_X3_aim := by
  refine q_met (cc := cX3_aim) (maxL := 8) (ret := none) (own := RX3) (by decide +kernel) rfl rfl (fun σ vs Qp h => ?_) (fun l J σ vs Qp E T h => ?_)
  · unfold S_X3_aim at h
    split at h
    · exact Nat.le_of_ble_eq_true rfl
    · exact h.elim
  · unfold S_X3_aim at h
    split at h
    · next c0 p0 k0 t0 t1 t2 =>
      obtain ⟨rfl, rfl, rfl, h⟩ := h
      exact v_X3_aim (so_C E) (sb_X3_aim_0 E T) (sb_X3_aim_3 E T) h
    · exact h.elim
theorem cc_X3_aim : q_Ct yX3_aim wsX3_aim rm_X3_aim S_X3_aim := c_X3_aim

def rm_X3_wishOf : Room := { frames := 1, cells := 0, slots := 0, locals := 25 }
theorem fi_X3_wishOf_X4 : ∀ w ∈ u_ws RX4 TX4 6, w ∈ wsX3_wishOf := fun w h => List.mem_cons_of_mem _ (List.mem_append_left _ (List.mem_append_right _ h))
theorem fi_X3_wishOf_X3 : ∀ w ∈ u_ws RX3 TX3 4, w ∈ wsX3_wishOf := fun w h => List.mem_cons_of_mem _ (List.mem_append_right _ h)
set_option maxRecDepth 20000 in
theorem sb_X3_wishOf_0 {J : Nat → q_K} {l : Launch} {Qp : Option q_V → q_M → Prop} (E : q_E J cX3_wishOf RX3 wsX3_wishOf 5 l rm_X3_wishOf) (T : q_T J cX3_wishOf (some .long) Qp) (h_X3_spans : q_Ct yX3_spans wsX3_spans rm_X3_spans S_X3_spans) (h_J9_floorDiv_f86c9 : q_Ct yJ9_floorDiv_f86c9 wsJ9_floorDiv_f86c9 rm_J9_floorDiv_f86c9 S_J9_floorDiv_f86c9) : ∀ (σ : q_M) (lv : q_L) (st : q_S), k_X3_wishOf_0 Qp J σ lv st → J 0 σ lv st := fun σ lv st h =>
    so_lconst E (x := 0) rfl dX3_wishOf_0 h fun σ lv st h =>
    so_lstore_n E (i := 2) rfl (by decide) dX3_wishOf_1 h fun σ lv st h =>
    so_iconst E (x := 0) dX3_wishOf_2 h fun σ lv st h =>
    so_istore E (i := 4) (by decide) dX3_wishOf_3 h fun σ lv st h =>
    h
set_option maxRecDepth 20000 in
theorem sb_X3_wishOf_68 {J : Nat → q_K} {l : Launch} {Qp : Option q_V → q_M → Prop} (E : q_E J cX3_wishOf RX3 wsX3_wishOf 5 l rm_X3_wishOf) (T : q_T J cX3_wishOf (some .long) Qp) (h_X3_spans : q_Ct yX3_spans wsX3_spans rm_X3_spans S_X3_spans) (h_J9_floorDiv_f86c9 : q_Ct yJ9_floorDiv_f86c9 wsJ9_floorDiv_f86c9 rm_J9_floorDiv_f86c9 S_J9_floorDiv_f86c9) : ∀ (σ : q_M) (lv : q_L) (st : q_S), k_X3_wishOf_68 Qp J σ lv st → J 68 σ lv st := fun σ lv st h =>
    so_lret T dX3_wishOf_68 h
set_option maxRecDepth 20000 in
theorem sb_X3_wishOf_67 {J : Nat → q_K} {l : Launch} {Qp : Option q_V → q_M → Prop} (E : q_E J cX3_wishOf RX3 wsX3_wishOf 5 l rm_X3_wishOf) (T : q_T J cX3_wishOf (some .long) Qp) (h_X3_spans : q_Ct yX3_spans wsX3_spans rm_X3_spans S_X3_spans) (h_J9_floorDiv_f86c9 : q_Ct yJ9_floorDiv_f86c9 wsJ9_floorDiv_f86c9 rm_J9_floorDiv_f86c9 S_J9_floorDiv_f86c9) : ∀ (σ : q_M) (lv : q_L) (st : q_S), k_X3_wishOf_67 Qp J σ lv st → J 67 σ lv st := fun σ lv st h =>
    so_lconst E (x := 0) rfl dX3_wishOf_67 h fun σ lv st h =>
    (sb_X3_wishOf_68 E T h_X3_spans h_J9_floorDiv_f86c9) σ lv st h
set_option maxRecDepth 20000 in
theorem sb_X3_wishOf_36 {J : Nat → q_K} {l : Launch} {Qp : Option q_V → q_M → Prop} (E : q_E J cX3_wishOf RX3 wsX3_wishOf 5 l rm_X3_wishOf) (T : q_T J cX3_wishOf (some .long) Qp) (h_X3_spans : q_Ct yX3_spans wsX3_spans rm_X3_spans S_X3_spans) (h_J9_floorDiv_f86c9 : q_Ct yJ9_floorDiv_f86c9 wsJ9_floorDiv_f86c9 rm_J9_floorDiv_f86c9 S_J9_floorDiv_f86c9) : ∀ (σ : q_M) (lv : q_L) (st : q_S), k_X3_wishOf_36 Qp J σ lv st → J 36 σ lv st := fun σ lv st h =>
    so_aload_n E (i := 0) rfl dX3_wishOf_36 h fun σ lv st h =>
    so_callV E (n := 0) (pp := 12) (C := RX3) (T := TX3) (N := 4) (idx := 58) (maxL := 1) (ret := (some .boolean)) h_X3_spans ⟨rfl, rfl, rfl⟩ rfl gX3_wishOf_X3_spans rfl ⟨rfl, rfl⟩ (by decide +kernel) (by decide) dX3_wishOf_37 h fun σ lv st h =>
    so_ifeq E 67 (by decide) dX3_wishOf_40 (sb_X3_wishOf_67 E T h_X3_spans h_J9_floorDiv_f86c9) h fun σ lv st h =>
    so_aload_n E (i := 0) rfl dX3_wishOf_43 h fun σ lv st h =>
    so_get E (pp := 12) (fi := 3) (C := RX3) (T := TX3) (N := 4) (ref := "WheelDesk$Sharing") ⟨rfl, rfl, rfl⟩ rfl fi_X3_wishOf_X3 (by decide) rfl (List.mem_of_getElem? (i := 3) rfl) dX3_wishOf_44 h fun σ lv st h =>
    so_ldc2 E (x := 2) (idx := 62) (v := 2) (List.mem_of_getElem? (i := 4) rfl) rfl dX3_wishOf_47 h fun σ lv st h =>
    so_lload_n E (i := 2) rfl dX3_wishOf_50 h fun σ lv st h =>
    so_lmul E dX3_wishOf_51 h fun σ lv st h =>
    so_lsub E dX3_wishOf_52 h fun σ lv st h =>
    so_ldc2 E (x := 2) (idx := 62) (v := 2) (List.mem_of_getElem? (i := 4) rfl) rfl dX3_wishOf_53 h fun σ lv st h =>
    so_aload_n E (i := 0) rfl dX3_wishOf_56 h fun σ lv st h =>
    so_get E (pp := 12) (fi := 3) (C := RX3) (T := TX3) (N := 4) (ref := "WheelDesk$Sharing") ⟨rfl, rfl, rfl⟩ rfl fi_X3_wishOf_X3 (by decide) rfl (List.mem_of_getElem? (i := 3) rfl) dX3_wishOf_57 h fun σ lv st h =>
    so_lmul E dX3_wishOf_60 h fun σ lv st h =>
    so_callT E (n := 2) (idx := 64) (maxL := 6) (ret := (some .long)) h_J9_floorDiv_f86c9 gX3_wishOf_J9_floorDiv_f86c9 rfl ⟨rfl, rfl⟩ (by decide +kernel) (by decide) dX3_wishOf_61 h fun σ lv st h =>
    so_goto E 68 (by decide) dX3_wishOf_64 (sb_X3_wishOf_68 E T h_X3_spans h_J9_floorDiv_f86c9) h
set_option maxRecDepth 20000 in
theorem sb_X3_wishOf_5 {J : Nat → q_K} {l : Launch} {Qp : Option q_V → q_M → Prop} (E : q_E J cX3_wishOf RX3 wsX3_wishOf 5 l rm_X3_wishOf) (T : q_T J cX3_wishOf (some .long) Qp) (h_X3_spans : q_Ct yX3_spans wsX3_spans rm_X3_spans S_X3_spans) (h_J9_floorDiv_f86c9 : q_Ct yJ9_floorDiv_f86c9 wsJ9_floorDiv_f86c9 rm_J9_floorDiv_f86c9 S_J9_floorDiv_f86c9) : ∀ (σ : q_M) (lv : q_L) (st : q_S), k_X3_wishOf_5 Qp J σ lv st → J 5 σ lv st := fun σ lv st h =>
    so_iload E (i := 4) dX3_wishOf_5 h fun σ lv st h =>
    so_iconst E (x := 3) dX3_wishOf_7 h fun σ lv st h =>
    so_icmpge E 36 (by decide) dX3_wishOf_8 (sb_X3_wishOf_36 E T h_X3_spans h_J9_floorDiv_f86c9) h fun σ lv st h =>
    so_lload_n E (i := 2) rfl dX3_wishOf_11 h fun σ lv st h =>
    so_aload_n E (i := 1) rfl dX3_wishOf_12 h fun σ lv st h =>
    so_get E (pp := 10) (fi := 0) (C := RX4) (T := TX4) (N := 6) (ref := "WheelDesk$Wheel") ⟨rfl, rfl, rfl⟩ rfl fi_X3_wishOf_X4 (by decide) rfl (List.mem_of_getElem? (i := 1) rfl) dX3_wishOf_13 h fun σ lv st h =>
    so_iload E (i := 4) dX3_wishOf_16 h fun σ lv st h =>
    so_iald E dX3_wishOf_18 h fun σ lv st h =>
    so_i2l E dX3_wishOf_19 h fun σ lv st h =>
    so_aload_n E (i := 0) rfl dX3_wishOf_20 h fun σ lv st h =>
    so_get E (pp := 12) (fi := 2) (C := RX3) (T := TX3) (N := 4) (ref := "WheelDesk$Sharing") ⟨rfl, rfl, rfl⟩ rfl fi_X3_wishOf_X3 (by decide) rfl (List.mem_of_getElem? (i := 2) rfl) dX3_wishOf_21 h fun σ lv st h =>
    so_iload E (i := 4) dX3_wishOf_24 h fun σ lv st h =>
    so_lald E dX3_wishOf_26 h fun σ lv st h =>
    so_lmul E dX3_wishOf_27 h fun σ lv st h =>
    so_ladd E dX3_wishOf_28 h fun σ lv st h =>
    so_lstore_n E (i := 2) rfl (by decide) dX3_wishOf_29 h fun σ lv st h =>
    so_iinc E (i := 4) (n := 1) (by decide) dX3_wishOf_30 h fun σ lv st h =>
    so_goto E 5 (by decide) dX3_wishOf_33 (fun _ _ _ h => h) h
theorem c_X3_wishOf (h_X3_spans : q_Ct yX3_spans wsX3_spans rm_X3_spans S_X3_spans) (h_J9_floorDiv_f86c9 : q_Ct yJ9_floorDiv_f86c9 wsJ9_floorDiv_f86c9 rm_J9_floorDiv_f86c9 S_J9_floorDiv_f86c9) : q_Ct yX3_wishOf wsX3_wishOf rm_X3_wishOf S_X3_wishOf := by
  refine q_met (cc := cX3_wishOf) (maxL := 5) (ret := (some .long)) (own := RX3) (by decide +kernel) rfl rfl (fun σ vs Qp h => ?_) (fun l J σ vs Qp E T h => ?_)
  · unfold S_X3_wishOf at h
    split at h
    · exact Nat.le_of_ble_eq_true rfl
    · exact h.elim
  · unfold S_X3_wishOf at h
    split at h
    · next c0 p0 k0 c p1 k =>
      obtain ⟨rfl, rfl, rfl, rfl, h⟩ := h
      exact v_X3_wishOf (so_C E) (sb_X3_wishOf_0 E T h_X3_spans h_J9_floorDiv_f86c9) (sb_X3_wishOf_5 E T h_X3_spans h_J9_floorDiv_f86c9) h
    · exact h.elim
theorem cc_X3_wishOf : q_Ct yX3_wishOf wsX3_wishOf rm_X3_wishOf S_X3_wishOf := c_X3_wishOf cc_X3_spans cc_J9_floorDiv_f86c9

def rm_X4_allowedByTorque : Room := { frames := 1, cells := 0, slots := 0, locals := 25 }
theorem fi_X4_allowedByTorque_X4 : ∀ w ∈ u_ws RX4 TX4 6, w ∈ wsX4_allowedByTorque := fun w h => List.mem_cons_of_mem _ (List.mem_append_right _ h)
set_option maxRecDepth 20000 in
theorem sb_X4_allowedByTorque_0 {J : Nat → q_K} {l : Launch} {Qp : Option q_V → q_M → Prop} (E : q_E J cX4_allowedByTorque RX4 wsX4_allowedByTorque 3 l rm_X4_allowedByTorque) (T : q_T J cX4_allowedByTorque (some .long) Qp) (h_X5_limited : q_Ct yX5_limited wsX5_limited rm_X5_limited S_X5_limited) : ∀ (σ : q_M) (lv : q_L) (st : q_S), k_X4_allowedByTorque_0 Qp J σ lv st → J 0 σ lv st := fun σ lv st h =>
    so_lload_n E (i := 1) rfl dX4_allowedByTorque_0 h fun σ lv st h =>
    so_aload_n E (i := 0) rfl dX4_allowedByTorque_1 h fun σ lv st h =>
    so_get E (pp := 10) (fi := 3) (C := RX4) (T := TX4) (N := 6) (ref := "WheelDesk$Wheel") ⟨rfl, rfl, rfl⟩ rfl fi_X4_allowedByTorque_X4 (by decide) rfl (List.mem_of_getElem? (i := 1) rfl) dX4_allowedByTorque_2 h fun σ lv st h =>
    so_ineg E dX4_allowedByTorque_5 h fun σ lv st h =>
    so_i2l E dX4_allowedByTorque_6 h fun σ lv st h =>
    so_aload_n E (i := 0) rfl dX4_allowedByTorque_7 h fun σ lv st h =>
    so_get E (pp := 10) (fi := 3) (C := RX4) (T := TX4) (N := 6) (ref := "WheelDesk$Wheel") ⟨rfl, rfl, rfl⟩ rfl fi_X4_allowedByTorque_X4 (by decide) rfl (List.mem_of_getElem? (i := 1) rfl) dX4_allowedByTorque_8 h fun σ lv st h =>
    so_i2l E dX4_allowedByTorque_11 h fun σ lv st h =>
    so_callN E (n := 3) (idx := 38) (maxL := 6) (ret := (some .long)) h_X5_limited gX4_allowedByTorque_X5_limited_n38 rfl ⟨rfl, rfl⟩ (by decide +kernel) (List.mem_of_getElem? (i := 2) rfl) (List.mem_of_getElem? (i := 3) rfl) (by decide +kernel) (by decide) dX4_allowedByTorque_12 h fun σ lv st h =>
    so_lret T dX4_allowedByTorque_15 h
theorem c_X4_allowedByTorque (h_X5_limited : q_Ct yX5_limited wsX5_limited rm_X5_limited S_X5_limited) : q_Ct yX4_allowedByTorque wsX4_allowedByTorque rm_X4_allowedByTorque S_X4_allowedByTorque := by
  refine q_met (cc := cX4_allowedByTorque) (maxL := 3) (ret := (some .long)) (own := RX4) (by decide +kernel) rfl rfl (fun σ vs Qp h => ?_) (fun l J σ vs Qp E T h => ?_)
  · unfold S_X4_allowedByTorque at h
    split at h
    · exact Nat.le_of_ble_eq_true rfl
    · exact h.elim
  · unfold S_X4_allowedByTorque at h
    split at h
    · next c p0 k w =>
      obtain ⟨rfl, h⟩ := h
      exact v_X4_allowedByTorque (so_C E) (sb_X4_allowedByTorque_0 E T h_X5_limited) h
    · exact h.elim
theorem cc_X4_allowedByTorque : q_Ct yX4_allowedByTorque wsX4_allowedByTorque rm_X4_allowedByTorque S_X4_allowedByTorque := c_X4_allowedByTorque cc_X5_limited

def rm_X4_allowedByMomentum : Room := { frames := 1, cells := 0, slots := 0, locals := 25 }
theorem fi_X4_allowedByMomentum_X4 : ∀ w ∈ u_ws RX4 TX4 6, w ∈ wsX4_allowedByMomentum := fun w h => List.mem_cons_of_mem _ (List.mem_append_right _ h)
set_option maxRecDepth 20000 in
theorem sb_X4_allowedByMomentum_0 {J : Nat → q_K} {l : Launch} {Qp : Option q_V → q_M → Prop} (E : q_E J cX4_allowedByMomentum RX4 wsX4_allowedByMomentum 7 l rm_X4_allowedByMomentum) (T : q_T J cX4_allowedByMomentum (some .long) Qp) (h_X5_limited : q_Ct yX5_limited wsX5_limited rm_X5_limited S_X5_limited) : ∀ (σ : q_M) (lv : q_L) (st : q_S), k_X4_allowedByMomentum_0 Qp J σ lv st → J 0 σ lv st := fun σ lv st h =>
    so_iconst E (x := 0) dX4_allowedByMomentum_0 h fun σ lv st h =>
    so_aload_n E (i := 0) rfl dX4_allowedByMomentum_1 h fun σ lv st h =>
    so_get E (pp := 10) (fi := 2) (C := RX4) (T := TX4) (N := 6) (ref := "WheelDesk$Wheel") ⟨rfl, rfl, rfl⟩ rfl fi_X4_allowedByMomentum_X4 (by decide) rfl (List.mem_of_getElem? (i := 1) rfl) dX4_allowedByMomentum_2 h fun σ lv st h =>
    so_ineg E dX4_allowedByMomentum_5 h fun σ lv st h =>
    so_aload_n E (i := 0) rfl dX4_allowedByMomentum_6 h fun σ lv st h =>
    so_get E (pp := 10) (fi := 1) (C := RX4) (T := TX4) (N := 6) (ref := "WheelDesk$Wheel") ⟨rfl, rfl, rfl⟩ rfl fi_X4_allowedByMomentum_X4 (by decide) rfl (List.mem_of_getElem? (i := 2) rfl) dX4_allowedByMomentum_7 h fun σ lv st h =>
    so_isub E dX4_allowedByMomentum_10 h fun σ lv st h =>
    so_mmin E (idx := 42) (List.mem_of_getElem? (i := 3) rfl) (List.mem_of_getElem? (i := 4) rfl) (List.mem_of_getElem? (i := 5) rfl) (List.mem_of_getElem? (i := 6) rfl) (by decide) (by decide) dX4_allowedByMomentum_11 h fun σ lv st h =>
    so_i2l E dX4_allowedByMomentum_14 h fun σ lv st h =>
    so_lstore_n E (i := 3) rfl (by decide) dX4_allowedByMomentum_15 h fun σ lv st h =>
    so_iconst E (x := 0) dX4_allowedByMomentum_16 h fun σ lv st h =>
    so_aload_n E (i := 0) rfl dX4_allowedByMomentum_17 h fun σ lv st h =>
    so_get E (pp := 10) (fi := 2) (C := RX4) (T := TX4) (N := 6) (ref := "WheelDesk$Wheel") ⟨rfl, rfl, rfl⟩ rfl fi_X4_allowedByMomentum_X4 (by decide) rfl (List.mem_of_getElem? (i := 1) rfl) dX4_allowedByMomentum_18 h fun σ lv st h =>
    so_aload_n E (i := 0) rfl dX4_allowedByMomentum_21 h fun σ lv st h =>
    so_get E (pp := 10) (fi := 1) (C := RX4) (T := TX4) (N := 6) (ref := "WheelDesk$Wheel") ⟨rfl, rfl, rfl⟩ rfl fi_X4_allowedByMomentum_X4 (by decide) rfl (List.mem_of_getElem? (i := 2) rfl) dX4_allowedByMomentum_22 h fun σ lv st h =>
    so_isub E dX4_allowedByMomentum_25 h fun σ lv st h =>
    so_mmax E (idx := 48) (List.mem_of_getElem? (i := 7) rfl) (List.mem_of_getElem? (i := 8) rfl) (List.mem_of_getElem? (i := 5) rfl) (List.mem_of_getElem? (i := 9) rfl) (by decide) (by decide) dX4_allowedByMomentum_26 h fun σ lv st h =>
    so_i2l E dX4_allowedByMomentum_29 h fun σ lv st h =>
    so_lstore E (i := 5) (by decide) dX4_allowedByMomentum_30 h fun σ lv st h =>
    so_lload_n E (i := 1) rfl dX4_allowedByMomentum_32 h fun σ lv st h =>
    so_lload_n E (i := 3) rfl dX4_allowedByMomentum_33 h fun σ lv st h =>
    so_lload E (i := 5) dX4_allowedByMomentum_34 h fun σ lv st h =>
    so_callN E (n := 3) (idx := 38) (maxL := 6) (ret := (some .long)) h_X5_limited gX4_allowedByMomentum_X5_limited_n38 rfl ⟨rfl, rfl⟩ (by decide +kernel) (List.mem_of_getElem? (i := 10) rfl) (List.mem_of_getElem? (i := 11) rfl) (by decide +kernel) (by decide) dX4_allowedByMomentum_36 h fun σ lv st h =>
    so_lret T dX4_allowedByMomentum_39 h
theorem c_X4_allowedByMomentum (h_X5_limited : q_Ct yX5_limited wsX5_limited rm_X5_limited S_X5_limited) : q_Ct yX4_allowedByMomentum wsX4_allowedByMomentum rm_X4_allowedByMomentum S_X4_allowedByMomentum := by
  refine q_met (cc := cX4_allowedByMomentum) (maxL := 7) (ret := (some .long)) (own := RX4) (by decide +kernel) rfl rfl (fun σ vs Qp h => ?_) (fun l J σ vs Qp E T h => ?_)
  · unfold S_X4_allowedByMomentum at h
    split at h
    · exact Nat.le_of_ble_eq_true rfl
    · exact h.elim
  · unfold S_X4_allowedByMomentum at h
    split at h
    · next c p0 k w =>
      obtain ⟨rfl, h⟩ := h
      exact v_X4_allowedByMomentum (so_C E) (sb_X4_allowedByMomentum_0 E T h_X5_limited) h
    · exact h.elim
theorem cc_X4_allowedByMomentum : q_Ct yX4_allowedByMomentum wsX4_allowedByMomentum rm_X4_allowedByMomentum S_X4_allowedByMomentum := c_X4_allowedByMomentum cc_X5_limited

def rm_X0_isMet : Room := { frames := 0, cells := 0, slots := 0, locals := 0 }
theorem fi_X0_isMet_X0 : ∀ w ∈ u_ws RX0 TX0 11, w ∈ wsX0_isMet := fun w h => List.mem_cons_of_mem _ (List.mem_append_right _ h)
set_option maxRecDepth 20000 in
theorem sb_X0_isMet_14 {J : Nat → q_K} {l : Launch} {Qp : Option q_V → q_M → Prop} (E : q_E J cX0_isMet RX0 wsX0_isMet 1 l rm_X0_isMet) (T : q_T J cX0_isMet (some .boolean) Qp) : ∀ (σ : q_M) (lv : q_L) (st : q_S), k_X0_isMet_14 Qp J σ lv st → J 14 σ lv st := fun σ lv st h =>
    so_zret T dX0_isMet_14 h
set_option maxRecDepth 20000 in
theorem sb_X0_isMet_13 {J : Nat → q_K} {l : Launch} {Qp : Option q_V → q_M → Prop} (E : q_E J cX0_isMet RX0 wsX0_isMet 1 l rm_X0_isMet) (T : q_T J cX0_isMet (some .boolean) Qp) : ∀ (σ : q_M) (lv : q_L) (st : q_S), k_X0_isMet_13 Qp J σ lv st → J 13 σ lv st := fun σ lv st h =>
    so_iconst E (x := 0) dX0_isMet_13 h fun σ lv st h =>
    (sb_X0_isMet_14 E T) σ lv st h
set_option maxRecDepth 20000 in
theorem sb_X0_isMet_0 {J : Nat → q_K} {l : Launch} {Qp : Option q_V → q_M → Prop} (E : q_E J cX0_isMet RX0 wsX0_isMet 1 l rm_X0_isMet) (T : q_T J cX0_isMet (some .boolean) Qp) : ∀ (σ : q_M) (lv : q_L) (st : q_S), k_X0_isMet_0 Qp J σ lv st → J 0 σ lv st := fun σ lv st h =>
    so_aload_n E (i := 0) rfl dX0_isMet_0 h fun σ lv st h =>
    so_get E (pp := 0) (fi := 9) (C := RX0) (T := TX0) (N := 11) (ref := "WheelDesk$Craft") ⟨rfl, rfl, rfl⟩ rfl fi_X0_isMet_X0 (by decide) rfl (List.mem_of_getElem? (i := 1) rfl) dX0_isMet_1 h fun σ lv st h =>
    so_iconst E (x := 0) dX0_isMet_4 h fun σ lv st h =>
    so_iald E dX0_isMet_5 h fun σ lv st h =>
    so_ifne E 13 (by decide) dX0_isMet_6 (sb_X0_isMet_13 E T) h fun σ lv st h =>
    so_iconst E (x := 1) dX0_isMet_9 h fun σ lv st h =>
    so_goto E 14 (by decide) dX0_isMet_10 (sb_X0_isMet_14 E T) h
theorem c_X0_isMet : q_Ct yX0_isMet wsX0_isMet rm_X0_isMet S_X0_isMet := by
  refine q_met (cc := cX0_isMet) (maxL := 1) (ret := (some .boolean)) (own := RX0) (by decide +kernel) rfl rfl (fun σ vs Qp h => ?_) (fun l J σ vs Qp E T h => ?_)
  · unfold S_X0_isMet at h
    split at h
    · exact Nat.le_of_ble_eq_true rfl
    · exact h.elim
  · unfold S_X0_isMet at h
    split at h
    · next c p0 k0 =>
      obtain ⟨rfl, rfl, h⟩ := h
      exact v_X0_isMet (so_C E) (sb_X0_isMet_0 E T) h
    · exact h.elim
theorem cc_X0_isMet : q_Ct yX0_isMet wsX0_isMet rm_X0_isMet S_X0_isMet := c_X0_isMet

def rm_X0_tellLimited : Room := { frames := 0, cells := 0, slots := 0, locals := 0 }
theorem fi_X0_tellLimited_X0 : ∀ w ∈ u_ws RX0 TX0 11, w ∈ wsX0_tellLimited := fun w h => List.mem_cons_of_mem _ (List.mem_append_right _ h)
set_option maxRecDepth 20000 in
theorem sb_X0_tellLimited_31 {J : Nat → q_K} {l : Launch} {Qp : Option q_V → q_M → Prop} (E : q_E J cX0_tellLimited RX0 wsX0_tellLimited 3 l rm_X0_tellLimited) (T : q_T J cX0_tellLimited none Qp) : ∀ (σ : q_M) (lv : q_L) (st : q_S), k_X0_tellLimited_31 Qp J σ lv st → J 31 σ lv st := fun σ lv st h =>
    so_iast E dX0_tellLimited_31 h fun σ lv st h =>
    so_aload_n E (i := 0) rfl dX0_tellLimited_32 h fun σ lv st h =>
    so_iconst E (x := 3) dX0_tellLimited_33 h fun σ lv st h =>
    so_puti E (pp := 0) (fi := 10) (sl := 2) (C := RX0) (T := TX0) (N := 11) (ref := "WheelDesk$Craft") ⟨rfl, rfl, rfl⟩ rfl fi_X0_tellLimited_X0 tyX0 tyX0_ok nmX0 (by decide) rfl rfl rfl q_fs_0_10 (List.mem_of_getElem? (i := 2) rfl) dX0_tellLimited_34 h fun σ lv st h =>
    so_vret T dX0_tellLimited_37 h
set_option maxRecDepth 20000 in
theorem sb_X0_tellLimited_30 {J : Nat → q_K} {l : Launch} {Qp : Option q_V → q_M → Prop} (E : q_E J cX0_tellLimited RX0 wsX0_tellLimited 3 l rm_X0_tellLimited) (T : q_T J cX0_tellLimited none Qp) : ∀ (σ : q_M) (lv : q_L) (st : q_S), k_X0_tellLimited_30 Qp J σ lv st → J 30 σ lv st := fun σ lv st h =>
    so_iconst E (x := 3) dX0_tellLimited_30 h fun σ lv st h =>
    (sb_X0_tellLimited_31 E T) σ lv st h
set_option maxRecDepth 20000 in
theorem sb_X0_tellLimited_0 {J : Nat → q_K} {l : Launch} {Qp : Option q_V → q_M → Prop} (E : q_E J cX0_tellLimited RX0 wsX0_tellLimited 3 l rm_X0_tellLimited) (T : q_T J cX0_tellLimited none Qp) : ∀ (σ : q_M) (lv : q_L) (st : q_S), k_X0_tellLimited_0 Qp J σ lv st → J 0 σ lv st := fun σ lv st h =>
    so_aload_n E (i := 0) rfl dX0_tellLimited_0 h fun σ lv st h =>
    so_get E (pp := 0) (fi := 9) (C := RX0) (T := TX0) (N := 11) (ref := "WheelDesk$Craft") ⟨rfl, rfl, rfl⟩ rfl fi_X0_tellLimited_X0 (by decide) rfl (List.mem_of_getElem? (i := 1) rfl) dX0_tellLimited_1 h fun σ lv st h =>
    so_iconst E (x := 0) dX0_tellLimited_4 h fun σ lv st h =>
    so_iconst E (x := 2) dX0_tellLimited_5 h fun σ lv st h =>
    so_iast E dX0_tellLimited_6 h fun σ lv st h =>
    so_aload_n E (i := 0) rfl dX0_tellLimited_7 h fun σ lv st h =>
    so_get E (pp := 0) (fi := 9) (C := RX0) (T := TX0) (N := 11) (ref := "WheelDesk$Craft") ⟨rfl, rfl, rfl⟩ rfl fi_X0_tellLimited_X0 (by decide) rfl (List.mem_of_getElem? (i := 1) rfl) dX0_tellLimited_8 h fun σ lv st h =>
    so_iconst E (x := 1) dX0_tellLimited_11 h fun σ lv st h =>
    so_bipush E (x := 20) rfl dX0_tellLimited_12 h fun σ lv st h =>
    so_iload_n E (i := 1) rfl dX0_tellLimited_14 h fun σ lv st h =>
    so_iadd E dX0_tellLimited_15 h fun σ lv st h =>
    so_iast E dX0_tellLimited_16 h fun σ lv st h =>
    so_aload_n E (i := 0) rfl dX0_tellLimited_17 h fun σ lv st h =>
    so_get E (pp := 0) (fi := 9) (C := RX0) (T := TX0) (N := 11) (ref := "WheelDesk$Craft") ⟨rfl, rfl, rfl⟩ rfl fi_X0_tellLimited_X0 (by decide) rfl (List.mem_of_getElem? (i := 1) rfl) dX0_tellLimited_18 h fun σ lv st h =>
    so_iconst E (x := 2) dX0_tellLimited_21 h fun σ lv st h =>
    so_iload_n E (i := 2) rfl dX0_tellLimited_22 h fun σ lv st h =>
    so_ifeq E 30 (by decide) dX0_tellLimited_23 (sb_X0_tellLimited_30 E T) h fun σ lv st h =>
    so_iconst E (x := 4) dX0_tellLimited_26 h fun σ lv st h =>
    so_goto E 31 (by decide) dX0_tellLimited_27 (sb_X0_tellLimited_31 E T) h
theorem c_X0_tellLimited : q_Ct yX0_tellLimited wsX0_tellLimited rm_X0_tellLimited S_X0_tellLimited := by
  refine q_met (cc := cX0_tellLimited) (maxL := 3) (ret := none) (own := RX0) (by decide +kernel) rfl rfl (fun σ vs Qp h => ?_) (fun l J σ vs Qp E T h => ?_)
  · unfold S_X0_tellLimited at h
    split at h
    · exact Nat.le_of_ble_eq_true rfl
    · exact h.elim
  · unfold S_X0_tellLimited at h
    split at h
    · next c p0 k0 w b =>
      obtain ⟨rfl, rfl, h⟩ := h
      exact v_X0_tellLimited (so_C E) (sb_X0_tellLimited_0 E T) h
    · exact h.elim
theorem cc_X0_tellLimited : q_Ct yX0_tellLimited wsX0_tellLimited rm_X0_tellLimited S_X0_tellLimited := c_X0_tellLimited

def rm_X3_give : Room := { frames := 2, cells := 0, slots := 0, locals := 51 }
theorem fi_X3_give_X0 : ∀ w ∈ u_ws RX0 TX0 11, w ∈ wsX3_give := fun w h => List.mem_cons_of_mem _ (List.mem_append_left _ (List.mem_append_left _ (List.mem_append_right _ h)))
theorem fi_X3_give_X4 : ∀ w ∈ u_ws RX4 TX4 6, w ∈ wsX3_give := fun w h => List.mem_cons_of_mem _ (List.mem_append_left _ (List.mem_append_right _ h))
theorem fi_X3_give_X3 : ∀ w ∈ u_ws RX3 TX3 4, w ∈ wsX3_give := fun w h => List.mem_cons_of_mem _ (List.mem_append_right _ h)
set_option maxRecDepth 20000 in
theorem sb_X3_give_0 {J : Nat → q_K} {l : Launch} {Qp : Option q_V → q_M → Prop} (E : q_E J cX3_give RX3 wsX3_give 11 l rm_X3_give) (T : q_T J cX3_give none Qp) (h_X3_wishOf : q_Ct yX3_wishOf wsX3_wishOf rm_X3_wishOf S_X3_wishOf) (h_X4_allowedByTorque : q_Ct yX4_allowedByTorque wsX4_allowedByTorque rm_X4_allowedByTorque S_X4_allowedByTorque) (h_X4_allowedByMomentum : q_Ct yX4_allowedByMomentum wsX4_allowedByMomentum rm_X4_allowedByMomentum S_X4_allowedByMomentum) (h_X0_isMet : q_Ct yX0_isMet wsX0_isMet rm_X0_isMet S_X0_isMet) (h_X0_tellLimited : q_Ct yX0_tellLimited wsX0_tellLimited rm_X0_tellLimited S_X0_tellLimited) : ∀ (σ : q_M) (lv : q_L) (st : q_S), k_X3_give_0 Qp J σ lv st → J 0 σ lv st := fun σ lv st h =>
    so_aload_n E (i := 1) rfl dX3_give_0 h fun σ lv st h =>
    so_get E (pp := 0) (fi := 7) (C := RX0) (T := TX0) (N := 11) (ref := "WheelDesk$Craft") ⟨rfl, rfl, rfl⟩ rfl fi_X3_give_X0 (by decide) rfl (List.mem_of_getElem? (i := 1) rfl) dX3_give_1 h fun σ lv st h =>
    so_iload_n E (i := 2) rfl dX3_give_4 h fun σ lv st h =>
    so_aald E dX3_give_5 h fun σ lv st h =>
    so_astore_n E (i := 3) rfl (by decide) dX3_give_6 h fun σ lv st h =>
    so_aload_n E (i := 0) rfl dX3_give_7 h fun σ lv st h =>
    so_aload_n E (i := 3) rfl dX3_give_8 h fun σ lv st h =>
    so_callV E (n := 1) (pp := 12) (C := RX3) (T := TX3) (N := 4) (idx := 90) (maxL := 5) (ret := (some .long)) h_X3_wishOf ⟨rfl, rfl, rfl⟩ rfl gX3_give_X3_wishOf rfl ⟨rfl, rfl⟩ (by decide +kernel) (by decide) dX3_give_9 h fun σ lv st h =>
    so_lstore E (i := 4) (by decide) dX3_give_12 h fun σ lv st h =>
    so_aload_n E (i := 3) rfl dX3_give_14 h fun σ lv st h =>
    so_lload E (i := 4) dX3_give_15 h fun σ lv st h =>
    so_callV E (n := 1) (pp := 10) (C := RX4) (T := TX4) (N := 6) (idx := 94) (maxL := 3) (ret := (some .long)) h_X4_allowedByTorque ⟨rfl, rfl, rfl⟩ rfl gX3_give_X4_allowedByTorque rfl ⟨rfl, rfl⟩ (by decide +kernel) (by decide) dX3_give_17 h fun σ lv st h =>
    so_lstore E (i := 6) (by decide) dX3_give_20 h fun σ lv st h =>
    so_aload_n E (i := 3) rfl dX3_give_22 h fun σ lv st h =>
    so_lload E (i := 6) dX3_give_23 h fun σ lv st h =>
    so_callV E (n := 1) (pp := 10) (C := RX4) (T := TX4) (N := 6) (idx := 98) (maxL := 7) (ret := (some .long)) h_X4_allowedByMomentum ⟨rfl, rfl, rfl⟩ rfl gX3_give_X4_allowedByMomentum rfl ⟨rfl, rfl⟩ (by decide +kernel) (by decide) dX3_give_25 h fun σ lv st h =>
    so_lstore E (i := 8) (by decide) dX3_give_28 h fun σ lv st h =>
    so_aload_n E (i := 3) rfl dX3_give_30 h fun σ lv st h =>
    so_lload E (i := 8) dX3_give_31 h fun σ lv st h =>
    so_l2i E dX3_give_33 h fun σ lv st h =>
    so_puti E (pp := 10) (fi := 5) (sl := 4) (C := RX4) (T := TX4) (N := 6) (ref := "WheelDesk$Wheel") ⟨rfl, rfl, rfl⟩ rfl fi_X3_give_X4 tyX4 tyX4_ok nmX4 (by decide) rfl rfl rfl q_fs_10_5 (List.mem_of_getElem? (i := 2) rfl) dX3_give_34 h fun σ lv st h =>
    so_aload_n E (i := 3) rfl dX3_give_37 h fun σ lv st h =>
    so_dup E dX3_give_38 h fun σ lv st h =>
    so_get E (pp := 10) (fi := 1) (C := RX4) (T := TX4) (N := 6) (ref := "WheelDesk$Wheel") ⟨rfl, rfl, rfl⟩ rfl fi_X3_give_X4 (by decide) rfl (List.mem_of_getElem? (i := 3) rfl) dX3_give_39 h fun σ lv st h =>
    so_aload_n E (i := 3) rfl dX3_give_42 h fun σ lv st h =>
    so_get E (pp := 10) (fi := 5) (C := RX4) (T := TX4) (N := 6) (ref := "WheelDesk$Wheel") ⟨rfl, rfl, rfl⟩ rfl fi_X3_give_X4 (by decide) rfl (List.mem_of_getElem? (i := 2) rfl) dX3_give_43 h fun σ lv st h =>
    so_iadd E dX3_give_46 h fun σ lv st h =>
    so_puti E (pp := 10) (fi := 1) (sl := 0) (C := RX4) (T := TX4) (N := 6) (ref := "WheelDesk$Wheel") ⟨rfl, rfl, rfl⟩ rfl fi_X3_give_X4 tyX4 tyX4_ok nmX4 (by decide) rfl rfl rfl q_fs_10_1 (List.mem_of_getElem? (i := 3) rfl) dX3_give_47 h fun σ lv st h =>
    so_iconst E (x := 0) dX3_give_50 h fun σ lv st h =>
    so_istore E (i := 10) (by decide) dX3_give_51 h fun σ lv st h =>
    h
set_option maxRecDepth 20000 in
theorem sb_X3_give_119 {J : Nat → q_K} {l : Launch} {Qp : Option q_V → q_M → Prop} (E : q_E J cX3_give RX3 wsX3_give 11 l rm_X3_give) (T : q_T J cX3_give none Qp) (h_X3_wishOf : q_Ct yX3_wishOf wsX3_wishOf rm_X3_wishOf S_X3_wishOf) (h_X4_allowedByTorque : q_Ct yX4_allowedByTorque wsX4_allowedByTorque rm_X4_allowedByTorque S_X4_allowedByTorque) (h_X4_allowedByMomentum : q_Ct yX4_allowedByMomentum wsX4_allowedByMomentum rm_X4_allowedByMomentum S_X4_allowedByMomentum) (h_X0_isMet : q_Ct yX0_isMet wsX0_isMet rm_X0_isMet S_X0_isMet) (h_X0_tellLimited : q_Ct yX0_tellLimited wsX0_tellLimited rm_X0_tellLimited S_X0_tellLimited) : ∀ (σ : q_M) (lv : q_L) (st : q_S), k_X3_give_119 Qp J σ lv st → J 119 σ lv st := fun σ lv st h =>
    so_vret T dX3_give_119 h
set_option maxRecDepth 20000 in
theorem sb_X3_give_116 {J : Nat → q_K} {l : Launch} {Qp : Option q_V → q_M → Prop} (E : q_E J cX3_give RX3 wsX3_give 11 l rm_X3_give) (T : q_T J cX3_give none Qp) (h_X3_wishOf : q_Ct yX3_wishOf wsX3_wishOf rm_X3_wishOf S_X3_wishOf) (h_X4_allowedByTorque : q_Ct yX4_allowedByTorque wsX4_allowedByTorque rm_X4_allowedByTorque S_X4_allowedByTorque) (h_X4_allowedByMomentum : q_Ct yX4_allowedByMomentum wsX4_allowedByMomentum rm_X4_allowedByMomentum S_X4_allowedByMomentum) (h_X0_isMet : q_Ct yX0_isMet wsX0_isMet rm_X0_isMet S_X0_isMet) (h_X0_tellLimited : q_Ct yX0_tellLimited wsX0_tellLimited rm_X0_tellLimited S_X0_tellLimited) : ∀ (σ : q_M) (lv : q_L) (st : q_S), k_X3_give_116 Qp J σ lv st → J 116 σ lv st := fun σ lv st h =>
    so_callV E (n := 2) (pp := 0) (C := RX0) (T := TX0) (N := 11) (idx := 109) (maxL := 3) (ret := none) h_X0_tellLimited ⟨rfl, rfl, rfl⟩ rfl gX3_give_X0_tellLimited rfl ⟨rfl, rfl⟩ (by decide +kernel) (by decide) dX3_give_116 h fun σ lv st h =>
    (sb_X3_give_119 E T h_X3_wishOf h_X4_allowedByTorque h_X4_allowedByMomentum h_X0_isMet h_X0_tellLimited) σ lv st h
set_option maxRecDepth 20000 in
theorem sb_X3_give_115 {J : Nat → q_K} {l : Launch} {Qp : Option q_V → q_M → Prop} (E : q_E J cX3_give RX3 wsX3_give 11 l rm_X3_give) (T : q_T J cX3_give none Qp) (h_X3_wishOf : q_Ct yX3_wishOf wsX3_wishOf rm_X3_wishOf S_X3_wishOf) (h_X4_allowedByTorque : q_Ct yX4_allowedByTorque wsX4_allowedByTorque rm_X4_allowedByTorque S_X4_allowedByTorque) (h_X4_allowedByMomentum : q_Ct yX4_allowedByMomentum wsX4_allowedByMomentum rm_X4_allowedByMomentum S_X4_allowedByMomentum) (h_X0_isMet : q_Ct yX0_isMet wsX0_isMet rm_X0_isMet S_X0_isMet) (h_X0_tellLimited : q_Ct yX0_tellLimited wsX0_tellLimited rm_X0_tellLimited S_X0_tellLimited) : ∀ (σ : q_M) (lv : q_L) (st : q_S), k_X3_give_115 Qp J σ lv st → J 115 σ lv st := fun σ lv st h =>
    so_iconst E (x := 0) dX3_give_115 h fun σ lv st h =>
    (sb_X3_give_116 E T h_X3_wishOf h_X4_allowedByTorque h_X4_allowedByMomentum h_X0_isMet h_X0_tellLimited) σ lv st h
set_option maxRecDepth 20000 in
theorem sb_X3_give_86 {J : Nat → q_K} {l : Launch} {Qp : Option q_V → q_M → Prop} (E : q_E J cX3_give RX3 wsX3_give 11 l rm_X3_give) (T : q_T J cX3_give none Qp) (h_X3_wishOf : q_Ct yX3_wishOf wsX3_wishOf rm_X3_wishOf S_X3_wishOf) (h_X4_allowedByTorque : q_Ct yX4_allowedByTorque wsX4_allowedByTorque rm_X4_allowedByTorque S_X4_allowedByTorque) (h_X4_allowedByMomentum : q_Ct yX4_allowedByMomentum wsX4_allowedByMomentum rm_X4_allowedByMomentum S_X4_allowedByMomentum) (h_X0_isMet : q_Ct yX0_isMet wsX0_isMet rm_X0_isMet S_X0_isMet) (h_X0_tellLimited : q_Ct yX0_tellLimited wsX0_tellLimited rm_X0_tellLimited S_X0_tellLimited) : ∀ (σ : q_M) (lv : q_L) (st : q_S), k_X3_give_86 Qp J σ lv st → J 86 σ lv st := fun σ lv st h =>
    so_lload E (i := 8) dX3_give_86 h fun σ lv st h =>
    so_lload E (i := 4) dX3_give_88 h fun σ lv st h =>
    so_lcmp E dX3_give_90 h fun σ lv st h =>
    so_ifeq E 119 (by decide) dX3_give_91 (sb_X3_give_119 E T h_X3_wishOf h_X4_allowedByTorque h_X4_allowedByMomentum h_X0_isMet h_X0_tellLimited) h fun σ lv st h =>
    so_aload_n E (i := 1) rfl dX3_give_94 h fun σ lv st h =>
    so_callV E (n := 0) (pp := 0) (C := RX0) (T := TX0) (N := 11) (idx := 106) (maxL := 1) (ret := (some .boolean)) h_X0_isMet ⟨rfl, rfl, rfl⟩ rfl gX3_give_X0_isMet rfl ⟨rfl, rfl⟩ (by decide +kernel) (by decide) dX3_give_95 h fun σ lv st h =>
    so_ifeq E 119 (by decide) dX3_give_98 (sb_X3_give_119 E T h_X3_wishOf h_X4_allowedByTorque h_X4_allowedByMomentum h_X0_isMet h_X0_tellLimited) h fun σ lv st h =>
    so_aload_n E (i := 1) rfl dX3_give_101 h fun σ lv st h =>
    so_iload_n E (i := 2) rfl dX3_give_102 h fun σ lv st h =>
    so_lload E (i := 8) dX3_give_103 h fun σ lv st h =>
    so_lload E (i := 6) dX3_give_105 h fun σ lv st h =>
    so_lcmp E dX3_give_107 h fun σ lv st h =>
    so_ifne E 115 (by decide) dX3_give_108 (sb_X3_give_115 E T h_X3_wishOf h_X4_allowedByTorque h_X4_allowedByMomentum h_X0_isMet h_X0_tellLimited) h fun σ lv st h =>
    so_iconst E (x := 1) dX3_give_111 h fun σ lv st h =>
    so_goto E 116 (by decide) dX3_give_112 (sb_X3_give_116 E T h_X3_wishOf h_X4_allowedByTorque h_X4_allowedByMomentum h_X0_isMet h_X0_tellLimited) h
set_option maxRecDepth 20000 in
theorem sb_X3_give_53 {J : Nat → q_K} {l : Launch} {Qp : Option q_V → q_M → Prop} (E : q_E J cX3_give RX3 wsX3_give 11 l rm_X3_give) (T : q_T J cX3_give none Qp) (h_X3_wishOf : q_Ct yX3_wishOf wsX3_wishOf rm_X3_wishOf S_X3_wishOf) (h_X4_allowedByTorque : q_Ct yX4_allowedByTorque wsX4_allowedByTorque rm_X4_allowedByTorque S_X4_allowedByTorque) (h_X4_allowedByMomentum : q_Ct yX4_allowedByMomentum wsX4_allowedByMomentum rm_X4_allowedByMomentum S_X4_allowedByMomentum) (h_X0_isMet : q_Ct yX0_isMet wsX0_isMet rm_X0_isMet S_X0_isMet) (h_X0_tellLimited : q_Ct yX0_tellLimited wsX0_tellLimited rm_X0_tellLimited S_X0_tellLimited) : ∀ (σ : q_M) (lv : q_L) (st : q_S), k_X3_give_53 Qp J σ lv st → J 53 σ lv st := fun σ lv st h =>
    so_iload E (i := 10) dX3_give_53 h fun σ lv st h =>
    so_iconst E (x := 3) dX3_give_55 h fun σ lv st h =>
    so_icmpge E 86 (by decide) dX3_give_56 (sb_X3_give_86 E T h_X3_wishOf h_X4_allowedByTorque h_X4_allowedByMomentum h_X0_isMet h_X0_tellLimited) h fun σ lv st h =>
    so_aload_n E (i := 1) rfl dX3_give_59 h fun σ lv st h =>
    so_get E (pp := 0) (fi := 4) (C := RX0) (T := TX0) (N := 11) (ref := "WheelDesk$Craft") ⟨rfl, rfl, rfl⟩ rfl fi_X3_give_X0 (by decide) rfl (List.mem_of_getElem? (i := 4) rfl) dX3_give_60 h fun σ lv st h =>
    so_iload E (i := 10) dX3_give_63 h fun σ lv st h =>
    so_dup2 E dX3_give_65 h fun σ lv st h =>
    so_lald E dX3_give_66 h fun σ lv st h =>
    so_aload_n E (i := 3) rfl dX3_give_67 h fun σ lv st h =>
    so_get E (pp := 10) (fi := 0) (C := RX4) (T := TX4) (N := 6) (ref := "WheelDesk$Wheel") ⟨rfl, rfl, rfl⟩ rfl fi_X3_give_X4 (by decide) rfl (List.mem_of_getElem? (i := 5) rfl) dX3_give_68 h fun σ lv st h =>
    so_iload E (i := 10) dX3_give_71 h fun σ lv st h =>
    so_iald E dX3_give_73 h fun σ lv st h =>
    so_i2l E dX3_give_74 h fun σ lv st h =>
    so_lload E (i := 8) dX3_give_75 h fun σ lv st h =>
    so_lmul E dX3_give_77 h fun σ lv st h =>
    so_lsub E dX3_give_78 h fun σ lv st h =>
    so_last E dX3_give_79 h fun σ lv st h =>
    so_iinc E (i := 10) (n := 1) (by decide) dX3_give_80 h fun σ lv st h =>
    so_goto E 53 (by decide) dX3_give_83 (fun _ _ _ h => h) h
theorem c_X3_give (h_X3_wishOf : q_Ct yX3_wishOf wsX3_wishOf rm_X3_wishOf S_X3_wishOf) (h_X4_allowedByTorque : q_Ct yX4_allowedByTorque wsX4_allowedByTorque rm_X4_allowedByTorque S_X4_allowedByTorque) (h_X4_allowedByMomentum : q_Ct yX4_allowedByMomentum wsX4_allowedByMomentum rm_X4_allowedByMomentum S_X4_allowedByMomentum) (h_X0_isMet : q_Ct yX0_isMet wsX0_isMet rm_X0_isMet S_X0_isMet) (h_X0_tellLimited : q_Ct yX0_tellLimited wsX0_tellLimited rm_X0_tellLimited S_X0_tellLimited) : q_Ct yX3_give wsX3_give rm_X3_give S_X3_give := by
  refine q_met (cc := cX3_give) (maxL := 11) (ret := none) (own := RX3) (by decide +kernel) rfl rfl (fun σ vs Qp h => ?_) (fun l J σ vs Qp E T h => ?_)
  · unfold S_X3_give at h
    split at h
    · exact Nat.le_of_ble_eq_true rfl
    · exact h.elim
  · unfold S_X3_give at h
    split at h
    · next c0 p0 k0 c p1 k1 k =>
      obtain ⟨rfl, rfl, rfl, rfl, rfl, h⟩ := h
      exact v_X3_give (so_C E) (sb_X3_give_0 E T h_X3_wishOf h_X4_allowedByTorque h_X4_allowedByMomentum h_X0_isMet h_X0_tellLimited) (sb_X3_give_53 E T h_X3_wishOf h_X4_allowedByTorque h_X4_allowedByMomentum h_X0_isMet h_X0_tellLimited) h
    · exact h.elim
theorem cc_X3_give : q_Ct yX3_give wsX3_give rm_X3_give S_X3_give := c_X3_give cc_X3_wishOf cc_X4_allowedByTorque cc_X4_allowedByMomentum cc_X0_isMet cc_X0_tellLimited

def rm_X3_share : Room := { frames := 3, cells := 0, slots := 0, locals := 81 }
theorem fi_X3_share_X0 : ∀ w ∈ u_ws RX0 TX0 11, w ∈ wsX3_share := fun w h => List.mem_cons_of_mem _ (List.mem_append_left _ (List.mem_append_left _ (List.mem_append_right _ h)))
theorem fi_X3_share_X4 : ∀ w ∈ u_ws RX4 TX4 6, w ∈ wsX3_share := fun w h => List.mem_cons_of_mem _ (List.mem_append_left _ (List.mem_append_right _ h))
theorem fi_X3_share_X3 : ∀ w ∈ u_ws RX3 TX3 4, w ∈ wsX3_share := fun w h => List.mem_cons_of_mem _ (List.mem_append_right _ h)
set_option maxRecDepth 20000 in
theorem sb_X3_share_0 {J : Nat → q_K} {l : Launch} {Qp : Option q_V → q_M → Prop} (E : q_E J cX3_share RX3 wsX3_share 3 l rm_X3_share) (T : q_T J cX3_share none Qp) (h_X3_spans : q_Ct yX3_spans wsX3_spans rm_X3_spans S_X3_spans) (h_X0_tellNoSpan : q_Ct yX0_tellNoSpan wsX0_tellNoSpan rm_X0_tellNoSpan S_X0_tellNoSpan) (h_X0_tellMet : q_Ct yX0_tellMet wsX0_tellMet rm_X0_tellMet S_X0_tellMet) (h_X3_aim : q_Ct yX3_aim wsX3_aim rm_X3_aim S_X3_aim) (h_X3_give : q_Ct yX3_give wsX3_give rm_X3_give S_X3_give) : ∀ (σ : q_M) (lv : q_L) (st : q_S), k_X3_share_0 Qp J σ lv st → J 0 σ lv st := fun σ lv st h =>
    so_iconst E (x := 0) dX3_share_0 h fun σ lv st h =>
    so_istore_n E (i := 2) rfl (by decide) dX3_share_1 h fun σ lv st h =>
    h
set_option maxRecDepth 20000 in
theorem sb_X3_share_38 {J : Nat → q_K} {l : Launch} {Qp : Option q_V → q_M → Prop} (E : q_E J cX3_share RX3 wsX3_share 3 l rm_X3_share) (T : q_T J cX3_share none Qp) (h_X3_spans : q_Ct yX3_spans wsX3_spans rm_X3_spans S_X3_spans) (h_X0_tellNoSpan : q_Ct yX0_tellNoSpan wsX0_tellNoSpan rm_X0_tellNoSpan S_X0_tellNoSpan) (h_X0_tellMet : q_Ct yX0_tellMet wsX0_tellMet rm_X0_tellMet S_X0_tellMet) (h_X3_aim : q_Ct yX3_aim wsX3_aim rm_X3_aim S_X3_aim) (h_X3_give : q_Ct yX3_give wsX3_give rm_X3_give S_X3_give) : ∀ (σ : q_M) (lv : q_L) (st : q_S), k_X3_share_38 Qp J σ lv st → J 38 σ lv st := fun σ lv st h =>
    so_aload_n E (i := 1) rfl dX3_share_38 h fun σ lv st h =>
    so_callV E (n := 0) (pp := 0) (C := RX0) (T := TX0) (N := 11) (idx := 76) (maxL := 1) (ret := none) h_X0_tellMet ⟨rfl, rfl, rfl⟩ rfl gX3_share_X0_tellMet rfl ⟨rfl, rfl⟩ (by decide +kernel) (by decide) dX3_share_39 h fun σ lv st h =>
    so_aload_n E (i := 0) rfl dX3_share_42 h fun σ lv st h =>
    so_aload_n E (i := 1) rfl dX3_share_43 h fun σ lv st h =>
    so_get E (pp := 0) (fi := 6) (C := RX0) (T := TX0) (N := 11) (ref := "WheelDesk$Craft") ⟨rfl, rfl, rfl⟩ rfl fi_X3_share_X0 (by decide) rfl (List.mem_of_getElem? (i := 4) rfl) dX3_share_44 h fun σ lv st h =>
    so_iconst E (x := 0) dX3_share_47 h fun σ lv st h =>
    so_lald E dX3_share_48 h fun σ lv st h =>
    so_aload_n E (i := 1) rfl dX3_share_49 h fun σ lv st h =>
    so_get E (pp := 0) (fi := 6) (C := RX0) (T := TX0) (N := 11) (ref := "WheelDesk$Craft") ⟨rfl, rfl, rfl⟩ rfl fi_X3_share_X0 (by decide) rfl (List.mem_of_getElem? (i := 4) rfl) dX3_share_50 h fun σ lv st h =>
    so_iconst E (x := 1) dX3_share_53 h fun σ lv st h =>
    so_lald E dX3_share_54 h fun σ lv st h =>
    so_aload_n E (i := 1) rfl dX3_share_55 h fun σ lv st h =>
    so_get E (pp := 0) (fi := 6) (C := RX0) (T := TX0) (N := 11) (ref := "WheelDesk$Craft") ⟨rfl, rfl, rfl⟩ rfl fi_X3_share_X0 (by decide) rfl (List.mem_of_getElem? (i := 4) rfl) dX3_share_56 h fun σ lv st h =>
    so_iconst E (x := 2) dX3_share_59 h fun σ lv st h =>
    so_lald E dX3_share_60 h fun σ lv st h =>
    so_callV E (n := 3) (pp := 12) (C := RX3) (T := TX3) (N := 4) (idx := 82) (maxL := 8) (ret := none) h_X3_aim ⟨rfl, rfl, rfl⟩ rfl gX3_share_X3_aim rfl ⟨rfl, rfl⟩ (by decide +kernel) (by decide) dX3_share_61 h fun σ lv st h =>
    so_iconst E (x := 0) dX3_share_64 h fun σ lv st h =>
    so_istore_n E (i := 2) rfl (by decide) dX3_share_65 h fun σ lv st h =>
    h
set_option maxRecDepth 20000 in
theorem sb_X3_share_26 {J : Nat → q_K} {l : Launch} {Qp : Option q_V → q_M → Prop} (E : q_E J cX3_share RX3 wsX3_share 3 l rm_X3_share) (T : q_T J cX3_share none Qp) (h_X3_spans : q_Ct yX3_spans wsX3_spans rm_X3_spans S_X3_spans) (h_X0_tellNoSpan : q_Ct yX0_tellNoSpan wsX0_tellNoSpan rm_X0_tellNoSpan S_X0_tellNoSpan) (h_X0_tellMet : q_Ct yX0_tellMet wsX0_tellMet rm_X0_tellMet S_X0_tellMet) (h_X3_aim : q_Ct yX3_aim wsX3_aim rm_X3_aim S_X3_aim) (h_X3_give : q_Ct yX3_give wsX3_give rm_X3_give S_X3_give) : ∀ (σ : q_M) (lv : q_L) (st : q_S), k_X3_share_26 Qp J σ lv st → J 26 σ lv st := fun σ lv st h =>
    so_aload_n E (i := 0) rfl dX3_share_26 h fun σ lv st h =>
    so_callV E (n := 0) (pp := 12) (C := RX3) (T := TX3) (N := 4) (idx := 58) (maxL := 1) (ret := (some .boolean)) h_X3_spans ⟨rfl, rfl, rfl⟩ rfl gX3_share_X3_spans rfl ⟨rfl, rfl⟩ (by decide +kernel) (by decide) dX3_share_27 h fun σ lv st h =>
    so_ifne E 38 (by decide) dX3_share_30 (sb_X3_share_38 E T h_X3_spans h_X0_tellNoSpan h_X0_tellMet h_X3_aim h_X3_give) h fun σ lv st h =>
    so_aload_n E (i := 1) rfl dX3_share_33 h fun σ lv st h =>
    so_callV E (n := 0) (pp := 0) (C := RX0) (T := TX0) (N := 11) (idx := 73) (maxL := 2) (ret := none) h_X0_tellNoSpan ⟨rfl, rfl, rfl⟩ rfl gX3_share_X0_tellNoSpan rfl ⟨rfl, rfl⟩ (by decide +kernel) (by decide) dX3_share_34 h fun σ lv st h =>
    so_vret T dX3_share_37 h
set_option maxRecDepth 20000 in
theorem sb_X3_share_2 {J : Nat → q_K} {l : Launch} {Qp : Option q_V → q_M → Prop} (E : q_E J cX3_share RX3 wsX3_share 3 l rm_X3_share) (T : q_T J cX3_share none Qp) (h_X3_spans : q_Ct yX3_spans wsX3_spans rm_X3_spans S_X3_spans) (h_X0_tellNoSpan : q_Ct yX0_tellNoSpan wsX0_tellNoSpan rm_X0_tellNoSpan S_X0_tellNoSpan) (h_X0_tellMet : q_Ct yX0_tellMet wsX0_tellMet rm_X0_tellMet S_X0_tellMet) (h_X3_aim : q_Ct yX3_aim wsX3_aim rm_X3_aim S_X3_aim) (h_X3_give : q_Ct yX3_give wsX3_give rm_X3_give S_X3_give) : ∀ (σ : q_M) (lv : q_L) (st : q_S), k_X3_share_2 Qp J σ lv st → J 2 σ lv st := fun σ lv st h =>
    so_iload_n E (i := 2) rfl dX3_share_2 h fun σ lv st h =>
    so_aload_n E (i := 1) rfl dX3_share_3 h fun σ lv st h =>
    so_get E (pp := 0) (fi := 8) (C := RX0) (T := TX0) (N := 11) (ref := "WheelDesk$Craft") ⟨rfl, rfl, rfl⟩ rfl fi_X3_share_X0 (by decide) rfl (List.mem_of_getElem? (i := 1) rfl) dX3_share_4 h fun σ lv st h =>
    so_icmpge E 26 (by decide) dX3_share_7 (sb_X3_share_26 E T h_X3_spans h_X0_tellNoSpan h_X0_tellMet h_X3_aim h_X3_give) h fun σ lv st h =>
    so_aload_n E (i := 1) rfl dX3_share_10 h fun σ lv st h =>
    so_get E (pp := 0) (fi := 7) (C := RX0) (T := TX0) (N := 11) (ref := "WheelDesk$Craft") ⟨rfl, rfl, rfl⟩ rfl fi_X3_share_X0 (by decide) rfl (List.mem_of_getElem? (i := 2) rfl) dX3_share_11 h fun σ lv st h =>
    so_iload_n E (i := 2) rfl dX3_share_14 h fun σ lv st h =>
    so_aald E dX3_share_15 h fun σ lv st h =>
    so_iconst E (x := 0) dX3_share_16 h fun σ lv st h =>
    so_puti E (pp := 10) (fi := 5) (sl := 4) (C := RX4) (T := TX4) (N := 6) (ref := "WheelDesk$Wheel") ⟨rfl, rfl, rfl⟩ rfl fi_X3_share_X4 tyX4 tyX4_ok nmX4 (by decide) rfl rfl rfl q_fs_10_5 (List.mem_of_getElem? (i := 3) rfl) dX3_share_17 h fun σ lv st h =>
    so_iinc E (i := 2) (n := 1) (by decide) dX3_share_20 h fun σ lv st h =>
    so_goto E 2 (by decide) dX3_share_23 (fun _ _ _ h => h) h
set_option maxRecDepth 20000 in
theorem sb_X3_share_98 {J : Nat → q_K} {l : Launch} {Qp : Option q_V → q_M → Prop} (E : q_E J cX3_share RX3 wsX3_share 3 l rm_X3_share) (T : q_T J cX3_share none Qp) (h_X3_spans : q_Ct yX3_spans wsX3_spans rm_X3_spans S_X3_spans) (h_X0_tellNoSpan : q_Ct yX0_tellNoSpan wsX0_tellNoSpan rm_X0_tellNoSpan S_X0_tellNoSpan) (h_X0_tellMet : q_Ct yX0_tellMet wsX0_tellMet rm_X0_tellMet S_X0_tellMet) (h_X3_aim : q_Ct yX3_aim wsX3_aim rm_X3_aim S_X3_aim) (h_X3_give : q_Ct yX3_give wsX3_give rm_X3_give S_X3_give) : ∀ (σ : q_M) (lv : q_L) (st : q_S), k_X3_share_98 Qp J σ lv st → J 98 σ lv st := fun σ lv st h =>
    so_vret T dX3_share_98 h
set_option maxRecDepth 20000 in
theorem sb_X3_share_92 {J : Nat → q_K} {l : Launch} {Qp : Option q_V → q_M → Prop} (E : q_E J cX3_share RX3 wsX3_share 3 l rm_X3_share) (T : q_T J cX3_share none Qp) (h_X3_spans : q_Ct yX3_spans wsX3_spans rm_X3_spans S_X3_spans) (h_X0_tellNoSpan : q_Ct yX0_tellNoSpan wsX0_tellNoSpan rm_X0_tellNoSpan S_X0_tellNoSpan) (h_X0_tellMet : q_Ct yX0_tellMet wsX0_tellMet rm_X0_tellMet S_X0_tellMet) (h_X3_aim : q_Ct yX3_aim wsX3_aim rm_X3_aim S_X3_aim) (h_X3_give : q_Ct yX3_give wsX3_give rm_X3_give S_X3_give) : ∀ (σ : q_M) (lv : q_L) (st : q_S), k_X3_share_92 Qp J σ lv st → J 92 σ lv st := fun σ lv st h =>
    so_iinc E (i := 2) (n := 1) (by decide) dX3_share_92 h fun σ lv st h =>
    so_goto E 66 (by decide) dX3_share_95 (fun _ _ _ h => h) h
set_option maxRecDepth 20000 in
theorem sb_X3_share_66 {J : Nat → q_K} {l : Launch} {Qp : Option q_V → q_M → Prop} (E : q_E J cX3_share RX3 wsX3_share 3 l rm_X3_share) (T : q_T J cX3_share none Qp) (h_X3_spans : q_Ct yX3_spans wsX3_spans rm_X3_spans S_X3_spans) (h_X0_tellNoSpan : q_Ct yX0_tellNoSpan wsX0_tellNoSpan rm_X0_tellNoSpan S_X0_tellNoSpan) (h_X0_tellMet : q_Ct yX0_tellMet wsX0_tellMet rm_X0_tellMet S_X0_tellMet) (h_X3_aim : q_Ct yX3_aim wsX3_aim rm_X3_aim S_X3_aim) (h_X3_give : q_Ct yX3_give wsX3_give rm_X3_give S_X3_give) : ∀ (σ : q_M) (lv : q_L) (st : q_S), k_X3_share_66 Qp J σ lv st → J 66 σ lv st := fun σ lv st h =>
    so_iload_n E (i := 2) rfl dX3_share_66 h fun σ lv st h =>
    so_aload_n E (i := 1) rfl dX3_share_67 h fun σ lv st h =>
    so_get E (pp := 0) (fi := 8) (C := RX0) (T := TX0) (N := 11) (ref := "WheelDesk$Craft") ⟨rfl, rfl, rfl⟩ rfl fi_X3_share_X0 (by decide) rfl (List.mem_of_getElem? (i := 1) rfl) dX3_share_68 h fun σ lv st h =>
    so_icmpge E 98 (by decide) dX3_share_71 (sb_X3_share_98 E T h_X3_spans h_X0_tellNoSpan h_X0_tellMet h_X3_aim h_X3_give) h fun σ lv st h =>
    so_aload_n E (i := 1) rfl dX3_share_74 h fun σ lv st h =>
    so_get E (pp := 0) (fi := 7) (C := RX0) (T := TX0) (N := 11) (ref := "WheelDesk$Craft") ⟨rfl, rfl, rfl⟩ rfl fi_X3_share_X0 (by decide) rfl (List.mem_of_getElem? (i := 2) rfl) dX3_share_75 h fun σ lv st h =>
    so_iload_n E (i := 2) rfl dX3_share_78 h fun σ lv st h =>
    so_aald E dX3_share_79 h fun σ lv st h =>
    so_get E (pp := 10) (fi := 4) (C := RX4) (T := TX4) (N := 6) (ref := "WheelDesk$Wheel") ⟨rfl, rfl, rfl⟩ rfl fi_X3_share_X4 (by decide) rfl (List.mem_of_getElem? (i := 5) rfl) dX3_share_80 h fun σ lv st h =>
    so_ifne E 92 (by decide) dX3_share_83 (sb_X3_share_92 E T h_X3_spans h_X0_tellNoSpan h_X0_tellMet h_X3_aim h_X3_give) h fun σ lv st h =>
    so_aload_n E (i := 0) rfl dX3_share_86 h fun σ lv st h =>
    so_aload_n E (i := 1) rfl dX3_share_87 h fun σ lv st h =>
    so_iload_n E (i := 2) rfl dX3_share_88 h fun σ lv st h =>
    so_callV E (n := 2) (pp := 12) (C := RX3) (T := TX3) (N := 4) (idx := 86) (maxL := 11) (ret := none) h_X3_give ⟨rfl, rfl, rfl⟩ rfl gX3_share_X3_give rfl ⟨rfl, rfl⟩ (by decide +kernel) (by decide) dX3_share_89 h fun σ lv st h =>
    (sb_X3_share_92 E T h_X3_spans h_X0_tellNoSpan h_X0_tellMet h_X3_aim h_X3_give) σ lv st h
theorem c_X3_share (h_X3_spans : q_Ct yX3_spans wsX3_spans rm_X3_spans S_X3_spans) (h_X0_tellNoSpan : q_Ct yX0_tellNoSpan wsX0_tellNoSpan rm_X0_tellNoSpan S_X0_tellNoSpan) (h_X0_tellMet : q_Ct yX0_tellMet wsX0_tellMet rm_X0_tellMet S_X0_tellMet) (h_X3_aim : q_Ct yX3_aim wsX3_aim rm_X3_aim S_X3_aim) (h_X3_give : q_Ct yX3_give wsX3_give rm_X3_give S_X3_give) : q_Ct yX3_share wsX3_share rm_X3_share S_X3_share := by
  refine q_met (cc := cX3_share) (maxL := 3) (ret := none) (own := RX3) (by decide +kernel) rfl rfl (fun σ vs Qp h => ?_) (fun l J σ vs Qp E T h => ?_)
  · unfold S_X3_share at h
    split at h
    · exact Nat.le_of_ble_eq_true rfl
    · exact h.elim
  · unfold S_X3_share at h
    split at h
    · next c0 p0 k0 c p1 k1 =>
      obtain ⟨rfl, rfl, rfl, rfl, rfl, h⟩ := h
      exact v_X3_share (so_C E) (sb_X3_share_0 E T h_X3_spans h_X0_tellNoSpan h_X0_tellMet h_X3_aim h_X3_give) (sb_X3_share_2 E T h_X3_spans h_X0_tellNoSpan h_X0_tellMet h_X3_aim h_X3_give) (sb_X3_share_66 E T h_X3_spans h_X0_tellNoSpan h_X0_tellMet h_X3_aim h_X3_give) h
    · exact h.elim
theorem cc_X3_share : q_Ct yX3_share wsX3_share rm_X3_share S_X3_share := c_X3_share cc_X3_spans cc_X0_tellNoSpan cc_X0_tellMet cc_X3_aim cc_X3_give

def rm_X0_wheelMomentum : Room := { frames := 0, cells := 0, slots := 0, locals := 0 }
theorem fi_X0_wheelMomentum_X0 : ∀ w ∈ u_ws RX0 TX0 11, w ∈ wsX0_wheelMomentum := fun w h => List.mem_cons_of_mem _ (List.mem_append_left _ (List.mem_append_right _ h))
theorem fi_X0_wheelMomentum_X4 : ∀ w ∈ u_ws RX4 TX4 6, w ∈ wsX0_wheelMomentum := fun w h => List.mem_cons_of_mem _ (List.mem_append_right _ h)
set_option maxRecDepth 20000 in
theorem sb_X0_wheelMomentum_0 {J : Nat → q_K} {l : Launch} {Qp : Option q_V → q_M → Prop} (E : q_E J cX0_wheelMomentum RX0 wsX0_wheelMomentum 5 l rm_X0_wheelMomentum) (T : q_T J cX0_wheelMomentum (some .long) Qp) : ∀ (σ : q_M) (lv : q_L) (st : q_S), k_X0_wheelMomentum_0 Qp J σ lv st → J 0 σ lv st := fun σ lv st h =>
    so_lconst E (x := 0) rfl dX0_wheelMomentum_0 h fun σ lv st h =>
    so_lstore_n E (i := 2) rfl (by decide) dX0_wheelMomentum_1 h fun σ lv st h =>
    so_iconst E (x := 0) dX0_wheelMomentum_2 h fun σ lv st h =>
    so_istore E (i := 4) (by decide) dX0_wheelMomentum_3 h fun σ lv st h =>
    h
set_option maxRecDepth 20000 in
theorem sb_X0_wheelMomentum_48 {J : Nat → q_K} {l : Launch} {Qp : Option q_V → q_M → Prop} (E : q_E J cX0_wheelMomentum RX0 wsX0_wheelMomentum 5 l rm_X0_wheelMomentum) (T : q_T J cX0_wheelMomentum (some .long) Qp) : ∀ (σ : q_M) (lv : q_L) (st : q_S), k_X0_wheelMomentum_48 Qp J σ lv st → J 48 σ lv st := fun σ lv st h =>
    so_lload_n E (i := 2) rfl dX0_wheelMomentum_48 h fun σ lv st h =>
    so_lret T dX0_wheelMomentum_49 h
set_option maxRecDepth 20000 in
theorem sb_X0_wheelMomentum_5 {J : Nat → q_K} {l : Launch} {Qp : Option q_V → q_M → Prop} (E : q_E J cX0_wheelMomentum RX0 wsX0_wheelMomentum 5 l rm_X0_wheelMomentum) (T : q_T J cX0_wheelMomentum (some .long) Qp) : ∀ (σ : q_M) (lv : q_L) (st : q_S), k_X0_wheelMomentum_5 Qp J σ lv st → J 5 σ lv st := fun σ lv st h =>
    so_iload E (i := 4) dX0_wheelMomentum_5 h fun σ lv st h =>
    so_aload_n E (i := 0) rfl dX0_wheelMomentum_7 h fun σ lv st h =>
    so_get E (pp := 0) (fi := 8) (C := RX0) (T := TX0) (N := 11) (ref := "WheelDesk$Craft") ⟨rfl, rfl, rfl⟩ rfl fi_X0_wheelMomentum_X0 (by decide) rfl (List.mem_of_getElem? (i := 1) rfl) dX0_wheelMomentum_8 h fun σ lv st h =>
    so_icmpge E 48 (by decide) dX0_wheelMomentum_11 (sb_X0_wheelMomentum_48 E T) h fun σ lv st h =>
    so_lload_n E (i := 2) rfl dX0_wheelMomentum_14 h fun σ lv st h =>
    so_aload_n E (i := 0) rfl dX0_wheelMomentum_15 h fun σ lv st h =>
    so_get E (pp := 0) (fi := 7) (C := RX0) (T := TX0) (N := 11) (ref := "WheelDesk$Craft") ⟨rfl, rfl, rfl⟩ rfl fi_X0_wheelMomentum_X0 (by decide) rfl (List.mem_of_getElem? (i := 2) rfl) dX0_wheelMomentum_16 h fun σ lv st h =>
    so_iload E (i := 4) dX0_wheelMomentum_19 h fun σ lv st h =>
    so_aald E dX0_wheelMomentum_21 h fun σ lv st h =>
    so_get E (pp := 10) (fi := 0) (C := RX4) (T := TX4) (N := 6) (ref := "WheelDesk$Wheel") ⟨rfl, rfl, rfl⟩ rfl fi_X0_wheelMomentum_X4 (by decide) rfl (List.mem_of_getElem? (i := 3) rfl) dX0_wheelMomentum_22 h fun σ lv st h =>
    so_iload_n E (i := 1) rfl dX0_wheelMomentum_25 h fun σ lv st h =>
    so_iald E dX0_wheelMomentum_26 h fun σ lv st h =>
    so_i2l E dX0_wheelMomentum_27 h fun σ lv st h =>
    so_aload_n E (i := 0) rfl dX0_wheelMomentum_28 h fun σ lv st h =>
    so_get E (pp := 0) (fi := 7) (C := RX0) (T := TX0) (N := 11) (ref := "WheelDesk$Craft") ⟨rfl, rfl, rfl⟩ rfl fi_X0_wheelMomentum_X0 (by decide) rfl (List.mem_of_getElem? (i := 2) rfl) dX0_wheelMomentum_29 h fun σ lv st h =>
    so_iload E (i := 4) dX0_wheelMomentum_32 h fun σ lv st h =>
    so_aald E dX0_wheelMomentum_34 h fun σ lv st h =>
    so_get E (pp := 10) (fi := 1) (C := RX4) (T := TX4) (N := 6) (ref := "WheelDesk$Wheel") ⟨rfl, rfl, rfl⟩ rfl fi_X0_wheelMomentum_X4 (by decide) rfl (List.mem_of_getElem? (i := 4) rfl) dX0_wheelMomentum_35 h fun σ lv st h =>
    so_i2l E dX0_wheelMomentum_38 h fun σ lv st h =>
    so_lmul E dX0_wheelMomentum_39 h fun σ lv st h =>
    so_ladd E dX0_wheelMomentum_40 h fun σ lv st h =>
    so_lstore_n E (i := 2) rfl (by decide) dX0_wheelMomentum_41 h fun σ lv st h =>
    so_iinc E (i := 4) (n := 1) (by decide) dX0_wheelMomentum_42 h fun σ lv st h =>
    so_goto E 5 (by decide) dX0_wheelMomentum_45 (fun _ _ _ h => h) h
theorem c_X0_wheelMomentum : q_Ct yX0_wheelMomentum wsX0_wheelMomentum rm_X0_wheelMomentum S_X0_wheelMomentum := by
  refine q_met (cc := cX0_wheelMomentum) (maxL := 5) (ret := (some .long)) (own := RX0) (by decide +kernel) rfl rfl (fun σ vs Qp h => ?_) (fun l J σ vs Qp E T h => ?_)
  · unfold S_X0_wheelMomentum at h
    split at h
    · exact Nat.le_of_ble_eq_true rfl
    · exact h.elim
  · unfold S_X0_wheelMomentum at h
    split at h
    · next c p0 k0 i =>
      obtain ⟨rfl, rfl, h⟩ := h
      exact v_X0_wheelMomentum (so_C E) (sb_X0_wheelMomentum_0 E T) (sb_X0_wheelMomentum_5 E T) h
    · exact h.elim
theorem cc_X0_wheelMomentum : q_Ct yX0_wheelMomentum wsX0_wheelMomentum rm_X0_wheelMomentum S_X0_wheelMomentum := c_X0_wheelMomentum

