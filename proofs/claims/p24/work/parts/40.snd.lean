def rm_X5_isWithin : Room := { frames := 0, cells := 0, slots := 0, locals := 0 }
set_option maxRecDepth 20000 in
theorem sb_X5_isWithin_15 {J : Nat → q_K} {l : Launch} {Qp : Option q_V → q_M → Prop} (E : q_E J cX5_isWithin RX5 wsX5_isWithin 3 l rm_X5_isWithin) (T : q_T J cX5_isWithin (some .boolean) Qp) : ∀ (σ : q_M) (lv : q_L) (st : q_S), k_X5_isWithin_15 Qp J σ lv st → J 15 σ lv st := fun σ lv st h =>
    so_zret T dX5_isWithin_15 h
set_option maxRecDepth 20000 in
theorem sb_X5_isWithin_14 {J : Nat → q_K} {l : Launch} {Qp : Option q_V → q_M → Prop} (E : q_E J cX5_isWithin RX5 wsX5_isWithin 3 l rm_X5_isWithin) (T : q_T J cX5_isWithin (some .boolean) Qp) : ∀ (σ : q_M) (lv : q_L) (st : q_S), k_X5_isWithin_14 Qp J σ lv st → J 14 σ lv st := fun σ lv st h =>
    so_iconst E (x := 0) dX5_isWithin_14 h fun σ lv st h =>
    (sb_X5_isWithin_15 E T) σ lv st h
set_option maxRecDepth 20000 in
theorem sb_X5_isWithin_0 {J : Nat → q_K} {l : Launch} {Qp : Option q_V → q_M → Prop} (E : q_E J cX5_isWithin RX5 wsX5_isWithin 3 l rm_X5_isWithin) (T : q_T J cX5_isWithin (some .boolean) Qp) : ∀ (σ : q_M) (lv : q_L) (st : q_S), k_X5_isWithin_0 Qp J σ lv st → J 0 σ lv st := fun σ lv st h =>
    so_iload_n E (i := 0) rfl dX5_isWithin_0 h fun σ lv st h =>
    so_iload_n E (i := 1) rfl dX5_isWithin_1 h fun σ lv st h =>
    so_icmplt E 14 (by decide) dX5_isWithin_2 (sb_X5_isWithin_14 E T) h fun σ lv st h =>
    so_iload_n E (i := 0) rfl dX5_isWithin_5 h fun σ lv st h =>
    so_iload_n E (i := 2) rfl dX5_isWithin_6 h fun σ lv st h =>
    so_icmpgt E 14 (by decide) dX5_isWithin_7 (sb_X5_isWithin_14 E T) h fun σ lv st h =>
    so_iconst E (x := 1) dX5_isWithin_10 h fun σ lv st h =>
    so_goto E 15 (by decide) dX5_isWithin_11 (sb_X5_isWithin_15 E T) h
theorem c_X5_isWithin : q_Ct yX5_isWithin wsX5_isWithin rm_X5_isWithin S_X5_isWithin := by
  refine q_met (cc := cX5_isWithin) (maxL := 3) (ret := (some .boolean)) (own := RX5) (by decide +kernel) rfl rfl (fun σ vs Qp h => ?_) (fun l J σ vs Qp E T h => ?_)
  · unfold S_X5_isWithin at h
    split at h
    · exact Nat.le_of_ble_eq_true rfl
    · exact h.elim
  · unfold S_X5_isWithin at h
    split at h
    · next v a b =>
      exact v_X5_isWithin (so_C E) (sb_X5_isWithin_0 E T) h
    · exact h.elim
theorem cc_X5_isWithin : q_Ct yX5_isWithin wsX5_isWithin rm_X5_isWithin S_X5_isWithin := c_X5_isWithin

def rm_X5_isDirection : Room := { frames := 1, cells := 0, slots := 0, locals := 22 }
set_option maxRecDepth 20000 in
theorem sb_X5_isDirection_50 {J : Nat → q_K} {l : Launch} {Qp : Option q_V → q_M → Prop} (E : q_E J cX5_isDirection RX5 wsX5_isDirection 3 l rm_X5_isDirection) (T : q_T J cX5_isDirection (some .boolean) Qp) (h_X5_isWithin : q_Ct yX5_isWithin wsX5_isWithin rm_X5_isWithin S_X5_isWithin) : ∀ (σ : q_M) (lv : q_L) (st : q_S), k_X5_isDirection_50 Qp J σ lv st → J 50 σ lv st := fun σ lv st h =>
    so_zret T dX5_isDirection_50 h
set_option maxRecDepth 20000 in
theorem sb_X5_isDirection_49 {J : Nat → q_K} {l : Launch} {Qp : Option q_V → q_M → Prop} (E : q_E J cX5_isDirection RX5 wsX5_isDirection 3 l rm_X5_isDirection) (T : q_T J cX5_isDirection (some .boolean) Qp) (h_X5_isWithin : q_Ct yX5_isWithin wsX5_isWithin rm_X5_isWithin S_X5_isWithin) : ∀ (σ : q_M) (lv : q_L) (st : q_S), k_X5_isDirection_49 Qp J σ lv st → J 49 σ lv st := fun σ lv st h =>
    so_iconst E (x := 0) dX5_isDirection_49 h fun σ lv st h =>
    (sb_X5_isDirection_50 E T h_X5_isWithin) σ lv st h
set_option maxRecDepth 20000 in
theorem sb_X5_isDirection_45 {J : Nat → q_K} {l : Launch} {Qp : Option q_V → q_M → Prop} (E : q_E J cX5_isDirection RX5 wsX5_isDirection 3 l rm_X5_isDirection) (T : q_T J cX5_isDirection (some .boolean) Qp) (h_X5_isWithin : q_Ct yX5_isWithin wsX5_isWithin rm_X5_isWithin S_X5_isWithin) : ∀ (σ : q_M) (lv : q_L) (st : q_S), k_X5_isDirection_45 Qp J σ lv st → J 45 σ lv st := fun σ lv st h =>
    so_iconst E (x := 1) dX5_isDirection_45 h fun σ lv st h =>
    so_goto E 50 (by decide) dX5_isDirection_46 (sb_X5_isDirection_50 E T h_X5_isWithin) h
set_option maxRecDepth 20000 in
theorem sb_X5_isDirection_0 {J : Nat → q_K} {l : Launch} {Qp : Option q_V → q_M → Prop} (E : q_E J cX5_isDirection RX5 wsX5_isDirection 3 l rm_X5_isDirection) (T : q_T J cX5_isDirection (some .boolean) Qp) (h_X5_isWithin : q_Ct yX5_isWithin wsX5_isWithin rm_X5_isWithin S_X5_isWithin) : ∀ (σ : q_M) (lv : q_L) (st : q_S), k_X5_isDirection_0 Qp J σ lv st → J 0 σ lv st := fun σ lv st h =>
    so_iload_n E (i := 0) rfl dX5_isDirection_0 h fun σ lv st h =>
    so_bipush E (x := -9) rfl dX5_isDirection_1 h fun σ lv st h =>
    so_bipush E (x := 9) rfl dX5_isDirection_3 h fun σ lv st h =>
    so_callT E (n := 3) (idx := 45) (maxL := 3) (ret := (some .boolean)) h_X5_isWithin gX5_isDirection_X5_isWithin rfl ⟨rfl, rfl⟩ (by decide +kernel) (by decide) dX5_isDirection_5 h fun σ lv st h =>
    so_ifeq E 49 (by decide) dX5_isDirection_8 (sb_X5_isDirection_49 E T h_X5_isWithin) h fun σ lv st h =>
    so_iload_n E (i := 1) rfl dX5_isDirection_11 h fun σ lv st h =>
    so_bipush E (x := -9) rfl dX5_isDirection_12 h fun σ lv st h =>
    so_bipush E (x := 9) rfl dX5_isDirection_14 h fun σ lv st h =>
    so_callT E (n := 3) (idx := 45) (maxL := 3) (ret := (some .boolean)) h_X5_isWithin gX5_isDirection_X5_isWithin rfl ⟨rfl, rfl⟩ (by decide +kernel) (by decide) dX5_isDirection_16 h fun σ lv st h =>
    so_ifeq E 49 (by decide) dX5_isDirection_19 (sb_X5_isDirection_49 E T h_X5_isWithin) h fun σ lv st h =>
    so_iload_n E (i := 2) rfl dX5_isDirection_22 h fun σ lv st h =>
    so_bipush E (x := -9) rfl dX5_isDirection_23 h fun σ lv st h =>
    so_bipush E (x := 9) rfl dX5_isDirection_25 h fun σ lv st h =>
    so_callT E (n := 3) (idx := 45) (maxL := 3) (ret := (some .boolean)) h_X5_isWithin gX5_isDirection_X5_isWithin rfl ⟨rfl, rfl⟩ (by decide +kernel) (by decide) dX5_isDirection_27 h fun σ lv st h =>
    so_ifeq E 49 (by decide) dX5_isDirection_30 (sb_X5_isDirection_49 E T h_X5_isWithin) h fun σ lv st h =>
    so_iload_n E (i := 0) rfl dX5_isDirection_33 h fun σ lv st h =>
    so_ifne E 45 (by decide) dX5_isDirection_34 (sb_X5_isDirection_45 E T h_X5_isWithin) h fun σ lv st h =>
    so_iload_n E (i := 1) rfl dX5_isDirection_37 h fun σ lv st h =>
    so_ifne E 45 (by decide) dX5_isDirection_38 (sb_X5_isDirection_45 E T h_X5_isWithin) h fun σ lv st h =>
    so_iload_n E (i := 2) rfl dX5_isDirection_41 h fun σ lv st h =>
    so_ifeq E 49 (by decide) dX5_isDirection_42 (sb_X5_isDirection_49 E T h_X5_isWithin) h fun σ lv st h =>
    (sb_X5_isDirection_45 E T h_X5_isWithin) σ lv st h
theorem c_X5_isDirection (h_X5_isWithin : q_Ct yX5_isWithin wsX5_isWithin rm_X5_isWithin S_X5_isWithin) : q_Ct yX5_isDirection wsX5_isDirection rm_X5_isDirection S_X5_isDirection := by
  refine q_met (cc := cX5_isDirection) (maxL := 3) (ret := (some .boolean)) (own := RX5) (by decide +kernel) rfl rfl (fun σ vs Qp h => ?_) (fun l J σ vs Qp E T h => ?_)
  · unfold S_X5_isDirection at h
    split at h
    · exact Nat.le_of_ble_eq_true rfl
    · exact h.elim
  · unfold S_X5_isDirection at h
    split at h
    · next x y z =>
      exact v_X5_isDirection (so_C E) (sb_X5_isDirection_0 E T h_X5_isWithin) h
    · exact h.elim
theorem cc_X5_isDirection : q_Ct yX5_isDirection wsX5_isDirection rm_X5_isDirection S_X5_isDirection := c_X5_isDirection cc_X5_isWithin

def rm_X1_dropOldest : Room := { frames := 0, cells := 0, slots := 0, locals := 0 }
theorem fi_X1_dropOldest_X1 : ∀ w ∈ u_ws RX1 TX1 2, w ∈ wsX1_dropOldest := fun w h => List.mem_cons_of_mem _ (List.mem_append_right _ h)
set_option maxRecDepth 20000 in
theorem sb_X1_dropOldest_0 {J : Nat → q_K} {l : Launch} {Qp : Option q_V → q_M → Prop} (E : q_E J cX1_dropOldest RX1 wsX1_dropOldest 3 l rm_X1_dropOldest) (T : q_T J cX1_dropOldest none Qp) : ∀ (σ : q_M) (lv : q_L) (st : q_S), k_X1_dropOldest_0 Qp J σ lv st → J 0 σ lv st := fun σ lv st h =>
    so_aload_n E (i := 0) rfl dX1_dropOldest_0 h fun σ lv st h =>
    so_get E (pp := 21) (fi := 0) (C := RX1) (T := TX1) (N := 2) (ref := "WheelDesk$History") ⟨rfl, rfl, rfl⟩ rfl fi_X1_dropOldest_X1 (by decide) rfl (List.mem_of_getElem? (i := 1) rfl) dX1_dropOldest_1 h fun σ lv st h =>
    so_iconst E (x := 0) dX1_dropOldest_4 h fun σ lv st h =>
    so_aald E dX1_dropOldest_5 h fun σ lv st h =>
    so_astore_n E (i := 1) rfl (by decide) dX1_dropOldest_6 h fun σ lv st h =>
    so_iconst E (x := 1) dX1_dropOldest_7 h fun σ lv st h =>
    so_istore_n E (i := 2) rfl (by decide) dX1_dropOldest_8 h fun σ lv st h =>
    h
set_option maxRecDepth 20000 in
theorem sb_X1_dropOldest_34 {J : Nat → q_K} {l : Launch} {Qp : Option q_V → q_M → Prop} (E : q_E J cX1_dropOldest RX1 wsX1_dropOldest 3 l rm_X1_dropOldest) (T : q_T J cX1_dropOldest none Qp) : ∀ (σ : q_M) (lv : q_L) (st : q_S), k_X1_dropOldest_34 Qp J σ lv st → J 34 σ lv st := fun σ lv st h =>
    so_aload_n E (i := 0) rfl dX1_dropOldest_34 h fun σ lv st h =>
    so_get E (pp := 21) (fi := 0) (C := RX1) (T := TX1) (N := 2) (ref := "WheelDesk$History") ⟨rfl, rfl, rfl⟩ rfl fi_X1_dropOldest_X1 (by decide) rfl (List.mem_of_getElem? (i := 1) rfl) dX1_dropOldest_35 h fun σ lv st h =>
    so_iconst E (x := 3) dX1_dropOldest_38 h fun σ lv st h =>
    so_aload_n E (i := 1) rfl dX1_dropOldest_39 h fun σ lv st h =>
    so_aast E dX1_dropOldest_40 h fun σ lv st h =>
    so_aload_n E (i := 0) rfl dX1_dropOldest_41 h fun σ lv st h =>
    so_iconst E (x := 3) dX1_dropOldest_42 h fun σ lv st h =>
    so_puti E (pp := 21) (fi := 1) (sl := 0) (C := RX1) (T := TX1) (N := 2) (ref := "WheelDesk$History") ⟨rfl, rfl, rfl⟩ rfl fi_X1_dropOldest_X1 tyX1 tyX1_ok nmX1 (by decide) rfl rfl rfl q_fs_21_1 (List.mem_of_getElem? (i := 2) rfl) dX1_dropOldest_43 h fun σ lv st h =>
    so_vret T dX1_dropOldest_46 h
set_option maxRecDepth 20000 in
theorem sb_X1_dropOldest_9 {J : Nat → q_K} {l : Launch} {Qp : Option q_V → q_M → Prop} (E : q_E J cX1_dropOldest RX1 wsX1_dropOldest 3 l rm_X1_dropOldest) (T : q_T J cX1_dropOldest none Qp) : ∀ (σ : q_M) (lv : q_L) (st : q_S), k_X1_dropOldest_9 Qp J σ lv st → J 9 σ lv st := fun σ lv st h =>
    so_iload_n E (i := 2) rfl dX1_dropOldest_9 h fun σ lv st h =>
    so_iconst E (x := 4) dX1_dropOldest_10 h fun σ lv st h =>
    so_icmpge E 34 (by decide) dX1_dropOldest_11 (sb_X1_dropOldest_34 E T) h fun σ lv st h =>
    so_aload_n E (i := 0) rfl dX1_dropOldest_14 h fun σ lv st h =>
    so_get E (pp := 21) (fi := 0) (C := RX1) (T := TX1) (N := 2) (ref := "WheelDesk$History") ⟨rfl, rfl, rfl⟩ rfl fi_X1_dropOldest_X1 (by decide) rfl (List.mem_of_getElem? (i := 1) rfl) dX1_dropOldest_15 h fun σ lv st h =>
    so_iload_n E (i := 2) rfl dX1_dropOldest_18 h fun σ lv st h =>
    so_iconst E (x := 1) dX1_dropOldest_19 h fun σ lv st h =>
    so_isub E dX1_dropOldest_20 h fun σ lv st h =>
    so_aload_n E (i := 0) rfl dX1_dropOldest_21 h fun σ lv st h =>
    so_get E (pp := 21) (fi := 0) (C := RX1) (T := TX1) (N := 2) (ref := "WheelDesk$History") ⟨rfl, rfl, rfl⟩ rfl fi_X1_dropOldest_X1 (by decide) rfl (List.mem_of_getElem? (i := 1) rfl) dX1_dropOldest_22 h fun σ lv st h =>
    so_iload_n E (i := 2) rfl dX1_dropOldest_25 h fun σ lv st h =>
    so_aald E dX1_dropOldest_26 h fun σ lv st h =>
    so_aast E dX1_dropOldest_27 h fun σ lv st h =>
    so_iinc E (i := 2) (n := 1) (by decide) dX1_dropOldest_28 h fun σ lv st h =>
    so_goto E 9 (by decide) dX1_dropOldest_31 (fun _ _ _ h => h) h
theorem c_X1_dropOldest : q_Ct yX1_dropOldest wsX1_dropOldest rm_X1_dropOldest S_X1_dropOldest := by
  refine q_met (cc := cX1_dropOldest) (maxL := 3) (ret := none) (own := RX1) (by decide +kernel) rfl rfl (fun σ vs Qp h => ?_) (fun l J σ vs Qp E T h => ?_)
  · unfold S_X1_dropOldest at h
    split at h
    · exact Nat.le_of_ble_eq_true rfl
    · exact h.elim
  · unfold S_X1_dropOldest at h
    split at h
    · next c0 p0 k0 =>
      obtain ⟨rfl, rfl, rfl, h⟩ := h
      exact v_X1_dropOldest (so_C E) (sb_X1_dropOldest_0 E T) (sb_X1_dropOldest_9 E T) h
    · exact h.elim
theorem cc_X1_dropOldest : q_Ct yX1_dropOldest wsX1_dropOldest rm_X1_dropOldest S_X1_dropOldest := c_X1_dropOldest

def rm_X4_become : Room := { frames := 1, cells := 0, slots := 0, locals := 40 }
theorem fi_X4_become_X4 : ∀ w ∈ u_ws RX4 TX4 6, w ∈ wsX4_become := fun w h => List.mem_cons_of_mem _ (List.mem_append_right _ h)
set_option maxRecDepth 20000 in
theorem sb_X4_become_0 {J : Nat → q_K} {l : Launch} {Qp : Option q_V → q_M → Prop} (E : q_E J cX4_become RX4 wsX4_become 2 l rm_X4_become) (T : q_T J cX4_become none Qp) : ∀ (σ : q_M) (lv : q_L) (st : q_S), k_X4_become_0 Qp J σ lv st → J 0 σ lv st := fun σ lv st h =>
    so_aload_n E (i := 1) rfl dX4_become_0 h fun σ lv st h =>
    so_get E (pp := 10) (fi := 0) (C := RX4) (T := TX4) (N := 6) (ref := "WheelDesk$Wheel") ⟨rfl, rfl, rfl⟩ rfl fi_X4_become_X4 (by decide) rfl (List.mem_of_getElem? (i := 1) rfl) dX4_become_1 h fun σ lv st h =>
    so_iconst E (x := 0) dX4_become_4 h fun σ lv st h =>
    so_aload_n E (i := 0) rfl dX4_become_5 h fun σ lv st h =>
    so_get E (pp := 10) (fi := 0) (C := RX4) (T := TX4) (N := 6) (ref := "WheelDesk$Wheel") ⟨rfl, rfl, rfl⟩ rfl fi_X4_become_X4 (by decide) rfl (List.mem_of_getElem? (i := 1) rfl) dX4_become_6 h fun σ lv st h =>
    so_iconst E (x := 0) dX4_become_9 h fun σ lv st h =>
    so_iconst E (x := 3) dX4_become_10 h fun σ lv st h =>
    so_acpi E (idx := 32) (List.mem_of_getElem? (i := 2) rfl) (List.mem_of_getElem? (i := 3) rfl) (List.mem_of_getElem? (i := 4) rfl) (List.mem_of_getElem? (i := 5) rfl) (by decide) (by decide) dX4_become_11 h fun σ lv st h =>
    so_aload_n E (i := 0) rfl dX4_become_14 h fun σ lv st h =>
    so_aload_n E (i := 1) rfl dX4_become_15 h fun σ lv st h =>
    so_get E (pp := 10) (fi := 1) (C := RX4) (T := TX4) (N := 6) (ref := "WheelDesk$Wheel") ⟨rfl, rfl, rfl⟩ rfl fi_X4_become_X4 (by decide) rfl (List.mem_of_getElem? (i := 6) rfl) dX4_become_16 h fun σ lv st h =>
    so_puti E (pp := 10) (fi := 1) (sl := 0) (C := RX4) (T := TX4) (N := 6) (ref := "WheelDesk$Wheel") ⟨rfl, rfl, rfl⟩ rfl fi_X4_become_X4 tyX4 tyX4_ok nmX4 (by decide) rfl rfl rfl q_fs_10_1 (List.mem_of_getElem? (i := 6) rfl) dX4_become_19 h fun σ lv st h =>
    so_aload_n E (i := 0) rfl dX4_become_22 h fun σ lv st h =>
    so_aload_n E (i := 1) rfl dX4_become_23 h fun σ lv st h =>
    so_get E (pp := 10) (fi := 2) (C := RX4) (T := TX4) (N := 6) (ref := "WheelDesk$Wheel") ⟨rfl, rfl, rfl⟩ rfl fi_X4_become_X4 (by decide) rfl (List.mem_of_getElem? (i := 7) rfl) dX4_become_24 h fun σ lv st h =>
    so_puti E (pp := 10) (fi := 2) (sl := 1) (C := RX4) (T := TX4) (N := 6) (ref := "WheelDesk$Wheel") ⟨rfl, rfl, rfl⟩ rfl fi_X4_become_X4 tyX4 tyX4_ok nmX4 (by decide) rfl rfl rfl q_fs_10_2 (List.mem_of_getElem? (i := 7) rfl) dX4_become_27 h fun σ lv st h =>
    so_aload_n E (i := 0) rfl dX4_become_30 h fun σ lv st h =>
    so_aload_n E (i := 1) rfl dX4_become_31 h fun σ lv st h =>
    so_get E (pp := 10) (fi := 3) (C := RX4) (T := TX4) (N := 6) (ref := "WheelDesk$Wheel") ⟨rfl, rfl, rfl⟩ rfl fi_X4_become_X4 (by decide) rfl (List.mem_of_getElem? (i := 8) rfl) dX4_become_32 h fun σ lv st h =>
    so_puti E (pp := 10) (fi := 3) (sl := 2) (C := RX4) (T := TX4) (N := 6) (ref := "WheelDesk$Wheel") ⟨rfl, rfl, rfl⟩ rfl fi_X4_become_X4 tyX4 tyX4_ok nmX4 (by decide) rfl rfl rfl q_fs_10_3 (List.mem_of_getElem? (i := 8) rfl) dX4_become_35 h fun σ lv st h =>
    so_aload_n E (i := 0) rfl dX4_become_38 h fun σ lv st h =>
    so_aload_n E (i := 1) rfl dX4_become_39 h fun σ lv st h =>
    so_get E (pp := 10) (fi := 4) (C := RX4) (T := TX4) (N := 6) (ref := "WheelDesk$Wheel") ⟨rfl, rfl, rfl⟩ rfl fi_X4_become_X4 (by decide) rfl (List.mem_of_getElem? (i := 9) rfl) dX4_become_40 h fun σ lv st h =>
    so_putz E (pp := 10) (fi := 4) (sl := 3) (C := RX4) (T := TX4) (N := 6) (ref := "WheelDesk$Wheel") ⟨rfl, rfl, rfl⟩ rfl fi_X4_become_X4 tyX4 tyX4_ok nmX4 (by decide) rfl rfl rfl q_fs_10_4 (List.mem_of_getElem? (i := 9) rfl) dX4_become_43 h fun σ lv st h =>
    so_aload_n E (i := 0) rfl dX4_become_46 h fun σ lv st h =>
    so_aload_n E (i := 1) rfl dX4_become_47 h fun σ lv st h =>
    so_get E (pp := 10) (fi := 5) (C := RX4) (T := TX4) (N := 6) (ref := "WheelDesk$Wheel") ⟨rfl, rfl, rfl⟩ rfl fi_X4_become_X4 (by decide) rfl (List.mem_of_getElem? (i := 10) rfl) dX4_become_48 h fun σ lv st h =>
    so_puti E (pp := 10) (fi := 5) (sl := 4) (C := RX4) (T := TX4) (N := 6) (ref := "WheelDesk$Wheel") ⟨rfl, rfl, rfl⟩ rfl fi_X4_become_X4 tyX4 tyX4_ok nmX4 (by decide) rfl rfl rfl q_fs_10_5 (List.mem_of_getElem? (i := 10) rfl) dX4_become_51 h fun σ lv st h =>
    so_vret T dX4_become_54 h
theorem c_X4_become : q_Ct yX4_become wsX4_become rm_X4_become S_X4_become := by
  refine q_met (cc := cX4_become) (maxL := 2) (ret := none) (own := RX4) (by decide +kernel) rfl rfl (fun σ vs Qp h => ?_) (fun l J σ vs Qp E T h => ?_)
  · unfold S_X4_become at h
    split at h
    · exact Nat.le_of_ble_eq_true rfl
    · exact h.elim
  · unfold S_X4_become at h
    split at h
    · next c p0 k c2 p1 k2 =>
      obtain ⟨rfl, rfl, h⟩ := h
      exact v_X4_become (so_C E) (sb_X4_become_0 E T) h
    · exact h.elim
theorem cc_X4_become : q_Ct yX4_become wsX4_become rm_X4_become S_X4_become := c_X4_become

def rm_X0_become : Room := { frames := 2, cells := 0, slots := 0, locals := 61 }
theorem fi_X0_become_X0 : ∀ w ∈ u_ws RX0 TX0 11, w ∈ wsX0_become := fun w h => List.mem_cons_of_mem _ (List.mem_append_left _ (List.mem_append_right _ h))
theorem fi_X0_become_X4 : ∀ w ∈ u_ws RX4 TX4 6, w ∈ wsX0_become := fun w h => List.mem_cons_of_mem _ (List.mem_append_right _ h)
set_option maxRecDepth 20000 in
theorem sb_X0_become_0 {J : Nat → q_K} {l : Launch} {Qp : Option q_V → q_M → Prop} (E : q_E J cX0_become RX0 wsX0_become 3 l rm_X0_become) (T : q_T J cX0_become none Qp) (h_X4_become : q_Ct yX4_become wsX4_become rm_X4_become S_X4_become) : ∀ (σ : q_M) (lv : q_L) (st : q_S), k_X0_become_0 Qp J σ lv st → J 0 σ lv st := fun σ lv st h =>
    so_aload_n E (i := 0) rfl dX0_become_0 h fun σ lv st h =>
    so_aload_n E (i := 1) rfl dX0_become_1 h fun σ lv st h =>
    so_get E (pp := 0) (fi := 0) (C := RX0) (T := TX0) (N := 11) (ref := "WheelDesk$Craft") ⟨rfl, rfl, rfl⟩ rfl fi_X0_become_X0 (by decide) rfl (List.mem_of_getElem? (i := 1) rfl) dX0_become_2 h fun σ lv st h =>
    so_puti E (pp := 0) (fi := 0) (sl := 0) (C := RX0) (T := TX0) (N := 11) (ref := "WheelDesk$Craft") ⟨rfl, rfl, rfl⟩ rfl fi_X0_become_X0 tyX0 tyX0_ok nmX0 (by decide) rfl rfl rfl q_fs_0_0 (List.mem_of_getElem? (i := 1) rfl) dX0_become_5 h fun σ lv st h =>
    so_aload_n E (i := 1) rfl dX0_become_8 h fun σ lv st h =>
    so_get E (pp := 0) (fi := 1) (C := RX0) (T := TX0) (N := 11) (ref := "WheelDesk$Craft") ⟨rfl, rfl, rfl⟩ rfl fi_X0_become_X0 (by decide) rfl (List.mem_of_getElem? (i := 2) rfl) dX0_become_9 h fun σ lv st h =>
    so_iconst E (x := 0) dX0_become_12 h fun σ lv st h =>
    so_aload_n E (i := 0) rfl dX0_become_13 h fun σ lv st h =>
    so_get E (pp := 0) (fi := 1) (C := RX0) (T := TX0) (N := 11) (ref := "WheelDesk$Craft") ⟨rfl, rfl, rfl⟩ rfl fi_X0_become_X0 (by decide) rfl (List.mem_of_getElem? (i := 2) rfl) dX0_become_14 h fun σ lv st h =>
    so_iconst E (x := 0) dX0_become_17 h fun σ lv st h =>
    so_iconst E (x := 5) dX0_become_18 h fun σ lv st h =>
    so_acpi E (idx := 50) (List.mem_of_getElem? (i := 3) rfl) (List.mem_of_getElem? (i := 4) rfl) (List.mem_of_getElem? (i := 5) rfl) (List.mem_of_getElem? (i := 6) rfl) (by decide) (by decide) dX0_become_19 h fun σ lv st h =>
    so_iconst E (x := 0) dX0_become_22 h fun σ lv st h =>
    so_istore_n E (i := 2) rfl (by decide) dX0_become_23 h fun σ lv st h =>
    h
set_option maxRecDepth 20000 in
theorem sb_X0_become_53 {J : Nat → q_K} {l : Launch} {Qp : Option q_V → q_M → Prop} (E : q_E J cX0_become RX0 wsX0_become 3 l rm_X0_become) (T : q_T J cX0_become none Qp) (h_X4_become : q_Ct yX4_become wsX4_become rm_X4_become S_X4_become) : ∀ (σ : q_M) (lv : q_L) (st : q_S), k_X0_become_53 Qp J σ lv st → J 53 σ lv st := fun σ lv st h =>
    so_aload_n E (i := 1) rfl dX0_become_53 h fun σ lv st h =>
    so_get E (pp := 0) (fi := 3) (C := RX0) (T := TX0) (N := 11) (ref := "WheelDesk$Craft") ⟨rfl, rfl, rfl⟩ rfl fi_X0_become_X0 (by decide) rfl (List.mem_of_getElem? (i := 8) rfl) dX0_become_54 h fun σ lv st h =>
    so_iconst E (x := 0) dX0_become_57 h fun σ lv st h =>
    so_aload_n E (i := 0) rfl dX0_become_58 h fun σ lv st h =>
    so_get E (pp := 0) (fi := 3) (C := RX0) (T := TX0) (N := 11) (ref := "WheelDesk$Craft") ⟨rfl, rfl, rfl⟩ rfl fi_X0_become_X0 (by decide) rfl (List.mem_of_getElem? (i := 8) rfl) dX0_become_59 h fun σ lv st h =>
    so_iconst E (x := 0) dX0_become_62 h fun σ lv st h =>
    so_iconst E (x := 3) dX0_become_63 h fun σ lv st h =>
    so_acpl E (idx := 50) (List.mem_of_getElem? (i := 3) rfl) (List.mem_of_getElem? (i := 4) rfl) (List.mem_of_getElem? (i := 5) rfl) (List.mem_of_getElem? (i := 6) rfl) (by decide) (by decide) dX0_become_64 h fun σ lv st h =>
    so_aload_n E (i := 1) rfl dX0_become_67 h fun σ lv st h =>
    so_get E (pp := 0) (fi := 4) (C := RX0) (T := TX0) (N := 11) (ref := "WheelDesk$Craft") ⟨rfl, rfl, rfl⟩ rfl fi_X0_become_X0 (by decide) rfl (List.mem_of_getElem? (i := 9) rfl) dX0_become_68 h fun σ lv st h =>
    so_iconst E (x := 0) dX0_become_71 h fun σ lv st h =>
    so_aload_n E (i := 0) rfl dX0_become_72 h fun σ lv st h =>
    so_get E (pp := 0) (fi := 4) (C := RX0) (T := TX0) (N := 11) (ref := "WheelDesk$Craft") ⟨rfl, rfl, rfl⟩ rfl fi_X0_become_X0 (by decide) rfl (List.mem_of_getElem? (i := 9) rfl) dX0_become_73 h fun σ lv st h =>
    so_iconst E (x := 0) dX0_become_76 h fun σ lv st h =>
    so_iconst E (x := 3) dX0_become_77 h fun σ lv st h =>
    so_acpl E (idx := 50) (List.mem_of_getElem? (i := 3) rfl) (List.mem_of_getElem? (i := 4) rfl) (List.mem_of_getElem? (i := 5) rfl) (List.mem_of_getElem? (i := 6) rfl) (by decide) (by decide) dX0_become_78 h fun σ lv st h =>
    so_aload_n E (i := 1) rfl dX0_become_81 h fun σ lv st h =>
    so_get E (pp := 0) (fi := 5) (C := RX0) (T := TX0) (N := 11) (ref := "WheelDesk$Craft") ⟨rfl, rfl, rfl⟩ rfl fi_X0_become_X0 (by decide) rfl (List.mem_of_getElem? (i := 10) rfl) dX0_become_82 h fun σ lv st h =>
    so_iconst E (x := 0) dX0_become_85 h fun σ lv st h =>
    so_aload_n E (i := 0) rfl dX0_become_86 h fun σ lv st h =>
    so_get E (pp := 0) (fi := 5) (C := RX0) (T := TX0) (N := 11) (ref := "WheelDesk$Craft") ⟨rfl, rfl, rfl⟩ rfl fi_X0_become_X0 (by decide) rfl (List.mem_of_getElem? (i := 10) rfl) dX0_become_87 h fun σ lv st h =>
    so_iconst E (x := 0) dX0_become_90 h fun σ lv st h =>
    so_iconst E (x := 3) dX0_become_91 h fun σ lv st h =>
    so_acpl E (idx := 50) (List.mem_of_getElem? (i := 3) rfl) (List.mem_of_getElem? (i := 4) rfl) (List.mem_of_getElem? (i := 5) rfl) (List.mem_of_getElem? (i := 6) rfl) (by decide) (by decide) dX0_become_92 h fun σ lv st h =>
    so_aload_n E (i := 1) rfl dX0_become_95 h fun σ lv st h =>
    so_get E (pp := 0) (fi := 6) (C := RX0) (T := TX0) (N := 11) (ref := "WheelDesk$Craft") ⟨rfl, rfl, rfl⟩ rfl fi_X0_become_X0 (by decide) rfl (List.mem_of_getElem? (i := 11) rfl) dX0_become_96 h fun σ lv st h =>
    so_iconst E (x := 0) dX0_become_99 h fun σ lv st h =>
    so_aload_n E (i := 0) rfl dX0_become_100 h fun σ lv st h =>
    so_get E (pp := 0) (fi := 6) (C := RX0) (T := TX0) (N := 11) (ref := "WheelDesk$Craft") ⟨rfl, rfl, rfl⟩ rfl fi_X0_become_X0 (by decide) rfl (List.mem_of_getElem? (i := 11) rfl) dX0_become_101 h fun σ lv st h =>
    so_iconst E (x := 0) dX0_become_104 h fun σ lv st h =>
    so_iconst E (x := 3) dX0_become_105 h fun σ lv st h =>
    so_acpl E (idx := 50) (List.mem_of_getElem? (i := 3) rfl) (List.mem_of_getElem? (i := 4) rfl) (List.mem_of_getElem? (i := 5) rfl) (List.mem_of_getElem? (i := 6) rfl) (by decide) (by decide) dX0_become_106 h fun σ lv st h =>
    so_aload_n E (i := 0) rfl dX0_become_109 h fun σ lv st h =>
    so_aload_n E (i := 1) rfl dX0_become_110 h fun σ lv st h =>
    so_get E (pp := 0) (fi := 8) (C := RX0) (T := TX0) (N := 11) (ref := "WheelDesk$Craft") ⟨rfl, rfl, rfl⟩ rfl fi_X0_become_X0 (by decide) rfl (List.mem_of_getElem? (i := 12) rfl) dX0_become_111 h fun σ lv st h =>
    so_puti E (pp := 0) (fi := 8) (sl := 1) (C := RX0) (T := TX0) (N := 11) (ref := "WheelDesk$Craft") ⟨rfl, rfl, rfl⟩ rfl fi_X0_become_X0 tyX0 tyX0_ok nmX0 (by decide) rfl rfl rfl q_fs_0_8 (List.mem_of_getElem? (i := 12) rfl) dX0_become_114 h fun σ lv st h =>
    so_iconst E (x := 0) dX0_become_117 h fun σ lv st h =>
    so_istore_n E (i := 2) rfl (by decide) dX0_become_118 h fun σ lv st h =>
    h
set_option maxRecDepth 20000 in
theorem sb_X0_become_24 {J : Nat → q_K} {l : Launch} {Qp : Option q_V → q_M → Prop} (E : q_E J cX0_become RX0 wsX0_become 3 l rm_X0_become) (T : q_T J cX0_become none Qp) (h_X4_become : q_Ct yX4_become wsX4_become rm_X4_become S_X4_become) : ∀ (σ : q_M) (lv : q_L) (st : q_S), k_X0_become_24 Qp J σ lv st → J 24 σ lv st := fun σ lv st h =>
    so_iload_n E (i := 2) rfl dX0_become_24 h fun σ lv st h =>
    so_iconst E (x := 4) dX0_become_25 h fun σ lv st h =>
    so_icmpge E 53 (by decide) dX0_become_26 (sb_X0_become_53 E T h_X4_become) h fun σ lv st h =>
    so_aload_n E (i := 1) rfl dX0_become_29 h fun σ lv st h =>
    so_get E (pp := 0) (fi := 2) (C := RX0) (T := TX0) (N := 11) (ref := "WheelDesk$Craft") ⟨rfl, rfl, rfl⟩ rfl fi_X0_become_X0 (by decide) rfl (List.mem_of_getElem? (i := 7) rfl) dX0_become_30 h fun σ lv st h =>
    so_iload_n E (i := 2) rfl dX0_become_33 h fun σ lv st h =>
    so_aald E dX0_become_34 h fun σ lv st h =>
    so_iconst E (x := 0) dX0_become_35 h fun σ lv st h =>
    so_aload_n E (i := 0) rfl dX0_become_36 h fun σ lv st h =>
    so_get E (pp := 0) (fi := 2) (C := RX0) (T := TX0) (N := 11) (ref := "WheelDesk$Craft") ⟨rfl, rfl, rfl⟩ rfl fi_X0_become_X0 (by decide) rfl (List.mem_of_getElem? (i := 7) rfl) dX0_become_37 h fun σ lv st h =>
    so_iload_n E (i := 2) rfl dX0_become_40 h fun σ lv st h =>
    so_aald E dX0_become_41 h fun σ lv st h =>
    so_iconst E (x := 0) dX0_become_42 h fun σ lv st h =>
    so_iconst E (x := 3) dX0_become_43 h fun σ lv st h =>
    so_acpi E (idx := 50) (List.mem_of_getElem? (i := 3) rfl) (List.mem_of_getElem? (i := 4) rfl) (List.mem_of_getElem? (i := 5) rfl) (List.mem_of_getElem? (i := 6) rfl) (by decide) (by decide) dX0_become_44 h fun σ lv st h =>
    so_iinc E (i := 2) (n := 1) (by decide) dX0_become_47 h fun σ lv st h =>
    so_goto E 24 (by decide) dX0_become_50 (fun _ _ _ h => h) h
set_option maxRecDepth 20000 in
theorem sb_X0_become_146 {J : Nat → q_K} {l : Launch} {Qp : Option q_V → q_M → Prop} (E : q_E J cX0_become RX0 wsX0_become 3 l rm_X0_become) (T : q_T J cX0_become none Qp) (h_X4_become : q_Ct yX4_become wsX4_become rm_X4_become S_X4_become) : ∀ (σ : q_M) (lv : q_L) (st : q_S), k_X0_become_146 Qp J σ lv st → J 146 σ lv st := fun σ lv st h =>
    so_aload_n E (i := 1) rfl dX0_become_146 h fun σ lv st h =>
    so_get E (pp := 0) (fi := 9) (C := RX0) (T := TX0) (N := 11) (ref := "WheelDesk$Craft") ⟨rfl, rfl, rfl⟩ rfl fi_X0_become_X0 (by decide) rfl (List.mem_of_getElem? (i := 14) rfl) dX0_become_147 h fun σ lv st h =>
    so_iconst E (x := 0) dX0_become_150 h fun σ lv st h =>
    so_aload_n E (i := 0) rfl dX0_become_151 h fun σ lv st h =>
    so_get E (pp := 0) (fi := 9) (C := RX0) (T := TX0) (N := 11) (ref := "WheelDesk$Craft") ⟨rfl, rfl, rfl⟩ rfl fi_X0_become_X0 (by decide) rfl (List.mem_of_getElem? (i := 14) rfl) dX0_become_152 h fun σ lv st h =>
    so_iconst E (x := 0) dX0_become_155 h fun σ lv st h =>
    so_iconst E (x := 3) dX0_become_156 h fun σ lv st h =>
    so_acpi E (idx := 50) (List.mem_of_getElem? (i := 3) rfl) (List.mem_of_getElem? (i := 4) rfl) (List.mem_of_getElem? (i := 5) rfl) (List.mem_of_getElem? (i := 6) rfl) (by decide) (by decide) dX0_become_157 h fun σ lv st h =>
    so_aload_n E (i := 0) rfl dX0_become_160 h fun σ lv st h =>
    so_aload_n E (i := 1) rfl dX0_become_161 h fun σ lv st h =>
    so_get E (pp := 0) (fi := 10) (C := RX0) (T := TX0) (N := 11) (ref := "WheelDesk$Craft") ⟨rfl, rfl, rfl⟩ rfl fi_X0_become_X0 (by decide) rfl (List.mem_of_getElem? (i := 15) rfl) dX0_become_162 h fun σ lv st h =>
    so_puti E (pp := 0) (fi := 10) (sl := 2) (C := RX0) (T := TX0) (N := 11) (ref := "WheelDesk$Craft") ⟨rfl, rfl, rfl⟩ rfl fi_X0_become_X0 tyX0 tyX0_ok nmX0 (by decide) rfl rfl rfl q_fs_0_10 (List.mem_of_getElem? (i := 15) rfl) dX0_become_165 h fun σ lv st h =>
    so_vret T dX0_become_168 h
set_option maxRecDepth 20000 in
theorem sb_X0_become_119 {J : Nat → q_K} {l : Launch} {Qp : Option q_V → q_M → Prop} (E : q_E J cX0_become RX0 wsX0_become 3 l rm_X0_become) (T : q_T J cX0_become none Qp) (h_X4_become : q_Ct yX4_become wsX4_become rm_X4_become S_X4_become) : ∀ (σ : q_M) (lv : q_L) (st : q_S), k_X0_become_119 Qp J σ lv st → J 119 σ lv st := fun σ lv st h =>
    so_iload_n E (i := 2) rfl dX0_become_119 h fun σ lv st h =>
    so_bipush E (x := 6) rfl dX0_become_120 h fun σ lv st h =>
    so_icmpge E 146 (by decide) dX0_become_122 (sb_X0_become_146 E T h_X4_become) h fun σ lv st h =>
    so_aload_n E (i := 0) rfl dX0_become_125 h fun σ lv st h =>
    so_get E (pp := 0) (fi := 7) (C := RX0) (T := TX0) (N := 11) (ref := "WheelDesk$Craft") ⟨rfl, rfl, rfl⟩ rfl fi_X0_become_X0 (by decide) rfl (List.mem_of_getElem? (i := 13) rfl) dX0_become_126 h fun σ lv st h =>
    so_iload_n E (i := 2) rfl dX0_become_129 h fun σ lv st h =>
    so_aald E dX0_become_130 h fun σ lv st h =>
    so_aload_n E (i := 1) rfl dX0_become_131 h fun σ lv st h =>
    so_get E (pp := 0) (fi := 7) (C := RX0) (T := TX0) (N := 11) (ref := "WheelDesk$Craft") ⟨rfl, rfl, rfl⟩ rfl fi_X0_become_X0 (by decide) rfl (List.mem_of_getElem? (i := 13) rfl) dX0_become_132 h fun σ lv st h =>
    so_iload_n E (i := 2) rfl dX0_become_135 h fun σ lv st h =>
    so_aald E dX0_become_136 h fun σ lv st h =>
    so_callV E (n := 1) (pp := 10) (C := RX4) (T := TX4) (N := 6) (idx := 59) (maxL := 2) (ret := none) h_X4_become ⟨rfl, rfl, rfl⟩ rfl gX0_become_X4_become rfl ⟨rfl, rfl⟩ (by decide +kernel) (by decide) dX0_become_137 h fun σ lv st h =>
    so_iinc E (i := 2) (n := 1) (by decide) dX0_become_140 h fun σ lv st h =>
    so_goto E 119 (by decide) dX0_become_143 (fun _ _ _ h => h) h
theorem c_X0_become (h_X4_become : q_Ct yX4_become wsX4_become rm_X4_become S_X4_become) : q_Ct yX0_become wsX0_become rm_X0_become S_X0_become := by
  refine q_met (cc := cX0_become) (maxL := 3) (ret := none) (own := RX0) (by decide +kernel) rfl rfl (fun σ vs Qp h => ?_) (fun l J σ vs Qp E T h => ?_)
  · unfold S_X0_become at h
    split at h
    · exact Nat.le_of_ble_eq_true rfl
    · exact h.elim
  · unfold S_X0_become at h
    split at h
    · next c p0 k0 o p1 k1 =>
      obtain ⟨rfl, rfl, rfl, rfl, h⟩ := h
      exact v_X0_become (so_C E) (sb_X0_become_0 E T h_X4_become) (sb_X0_become_24 E T h_X4_become) (sb_X0_become_119 E T h_X4_become) h
    · exact h.elim
theorem cc_X0_become : q_Ct yX0_become wsX0_become rm_X0_become S_X0_become := c_X0_become cc_X4_become

def rm_X1_keep : Room := { frames := 3, cells := 0, slots := 0, locals := 83 }
theorem fi_X1_keep_X1 : ∀ w ∈ u_ws RX1 TX1 2, w ∈ wsX1_keep := fun w h => List.mem_cons_of_mem _ (List.mem_append_left _ (List.mem_append_left _ (List.mem_append_right _ h)))
theorem fi_X1_keep_X0 : ∀ w ∈ u_ws RX0 TX0 11, w ∈ wsX1_keep := fun w h => List.mem_cons_of_mem _ (List.mem_append_left _ (List.mem_append_right _ h))
theorem fi_X1_keep_X4 : ∀ w ∈ u_ws RX4 TX4 6, w ∈ wsX1_keep := fun w h => List.mem_cons_of_mem _ (List.mem_append_right _ h)
set_option maxRecDepth 20000 in
theorem sb_X1_keep_12 {J : Nat → q_K} {l : Launch} {Qp : Option q_V → q_M → Prop} (E : q_E J cX1_keep RX1 wsX1_keep 2 l rm_X1_keep) (T : q_T J cX1_keep none Qp) (h_X1_dropOldest : q_Ct yX1_dropOldest wsX1_dropOldest rm_X1_dropOldest S_X1_dropOldest) (h_X0_become : q_Ct yX0_become wsX0_become rm_X0_become S_X0_become) : ∀ (σ : q_M) (lv : q_L) (st : q_S), k_X1_keep_12 Qp J σ lv st → J 12 σ lv st := fun σ lv st h =>
    so_aload_n E (i := 0) rfl dX1_keep_12 h fun σ lv st h =>
    so_get E (pp := 21) (fi := 0) (C := RX1) (T := TX1) (N := 2) (ref := "WheelDesk$History") ⟨rfl, rfl, rfl⟩ rfl fi_X1_keep_X1 (by decide) rfl (List.mem_of_getElem? (i := 2) rfl) dX1_keep_13 h fun σ lv st h =>
    so_aload_n E (i := 0) rfl dX1_keep_16 h fun σ lv st h =>
    so_get E (pp := 21) (fi := 1) (C := RX1) (T := TX1) (N := 2) (ref := "WheelDesk$History") ⟨rfl, rfl, rfl⟩ rfl fi_X1_keep_X1 (by decide) rfl (List.mem_of_getElem? (i := 1) rfl) dX1_keep_17 h fun σ lv st h =>
    so_aald E dX1_keep_20 h fun σ lv st h =>
    so_aload_n E (i := 1) rfl dX1_keep_21 h fun σ lv st h =>
    so_callV E (n := 1) (pp := 0) (C := RX0) (T := TX0) (N := 11) (idx := 25) (maxL := 3) (ret := none) h_X0_become ⟨rfl, rfl, rfl⟩ rfl gX1_keep_X0_become rfl ⟨rfl, rfl⟩ (by decide +kernel) (by decide) dX1_keep_22 h fun σ lv st h =>
    so_aload_n E (i := 0) rfl dX1_keep_25 h fun σ lv st h =>
    so_dup E dX1_keep_26 h fun σ lv st h =>
    so_get E (pp := 21) (fi := 1) (C := RX1) (T := TX1) (N := 2) (ref := "WheelDesk$History") ⟨rfl, rfl, rfl⟩ rfl fi_X1_keep_X1 (by decide) rfl (List.mem_of_getElem? (i := 1) rfl) dX1_keep_27 h fun σ lv st h =>
    so_iconst E (x := 1) dX1_keep_30 h fun σ lv st h =>
    so_iadd E dX1_keep_31 h fun σ lv st h =>
    so_puti E (pp := 21) (fi := 1) (sl := 0) (C := RX1) (T := TX1) (N := 2) (ref := "WheelDesk$History") ⟨rfl, rfl, rfl⟩ rfl fi_X1_keep_X1 tyX1 tyX1_ok nmX1 (by decide) rfl rfl rfl q_fs_21_1 (List.mem_of_getElem? (i := 1) rfl) dX1_keep_32 h fun σ lv st h =>
    so_vret T dX1_keep_35 h
set_option maxRecDepth 20000 in
theorem sb_X1_keep_0 {J : Nat → q_K} {l : Launch} {Qp : Option q_V → q_M → Prop} (E : q_E J cX1_keep RX1 wsX1_keep 2 l rm_X1_keep) (T : q_T J cX1_keep none Qp) (h_X1_dropOldest : q_Ct yX1_dropOldest wsX1_dropOldest rm_X1_dropOldest S_X1_dropOldest) (h_X0_become : q_Ct yX0_become wsX0_become rm_X0_become S_X0_become) : ∀ (σ : q_M) (lv : q_L) (st : q_S), k_X1_keep_0 Qp J σ lv st → J 0 σ lv st := fun σ lv st h =>
    so_aload_n E (i := 0) rfl dX1_keep_0 h fun σ lv st h =>
    so_get E (pp := 21) (fi := 1) (C := RX1) (T := TX1) (N := 2) (ref := "WheelDesk$History") ⟨rfl, rfl, rfl⟩ rfl fi_X1_keep_X1 (by decide) rfl (List.mem_of_getElem? (i := 1) rfl) dX1_keep_1 h fun σ lv st h =>
    so_iconst E (x := 4) dX1_keep_4 h fun σ lv st h =>
    so_icmplt E 12 (by decide) dX1_keep_5 (sb_X1_keep_12 E T h_X1_dropOldest h_X0_become) h fun σ lv st h =>
    so_aload_n E (i := 0) rfl dX1_keep_8 h fun σ lv st h =>
    so_callV E (n := 0) (pp := 21) (C := RX1) (T := TX1) (N := 2) (idx := 22) (maxL := 3) (ret := none) h_X1_dropOldest ⟨rfl, rfl, rfl⟩ rfl gX1_keep_X1_dropOldest rfl ⟨rfl, rfl⟩ (by decide +kernel) (by decide) dX1_keep_9 h fun σ lv st h =>
    (sb_X1_keep_12 E T h_X1_dropOldest h_X0_become) σ lv st h
theorem c_X1_keep (h_X1_dropOldest : q_Ct yX1_dropOldest wsX1_dropOldest rm_X1_dropOldest S_X1_dropOldest) (h_X0_become : q_Ct yX0_become wsX0_become rm_X0_become S_X0_become) : q_Ct yX1_keep wsX1_keep rm_X1_keep S_X1_keep := by
  refine q_met (cc := cX1_keep) (maxL := 2) (ret := none) (own := RX1) (by decide +kernel) rfl rfl (fun σ vs Qp h => ?_) (fun l J σ vs Qp E T h => ?_)
  · unfold S_X1_keep at h
    split at h
    · exact Nat.le_of_ble_eq_true rfl
    · exact h.elim
  · unfold S_X1_keep at h
    split at h
    · next c0 p0 k0 c p1 k1 =>
      obtain ⟨rfl, rfl, rfl, rfl, rfl, h⟩ := h
      exact v_X1_keep (so_C E) (sb_X1_keep_0 E T h_X1_dropOldest h_X0_become) h
    · exact h.elim
theorem cc_X1_keep : q_Ct yX1_keep wsX1_keep rm_X1_keep S_X1_keep := c_X1_keep cc_X1_dropOldest cc_X0_become

def rm_X4_start : Room := { frames := 0, cells := 0, slots := 0, locals := 0 }
theorem fi_X4_start_X4 : ∀ w ∈ u_ws RX4 TX4 6, w ∈ wsX4_start := fun w h => List.mem_cons_of_mem _ (List.mem_append_right _ h)
set_option maxRecDepth 20000 in
theorem sb_X4_start_0 {J : Nat → q_K} {l : Launch} {Qp : Option q_V → q_M → Prop} (E : q_E J cX4_start RX4 wsX4_start 6 l rm_X4_start) (T : q_T J cX4_start none Qp) : ∀ (σ : q_M) (lv : q_L) (st : q_S), k_X4_start_0 Qp J σ lv st → J 0 σ lv st := fun σ lv st h =>
    so_aload_n E (i := 0) rfl dX4_start_0 h fun σ lv st h =>
    so_get E (pp := 10) (fi := 0) (C := RX4) (T := TX4) (N := 6) (ref := "WheelDesk$Wheel") ⟨rfl, rfl, rfl⟩ rfl fi_X4_start_X4 (by decide) rfl (List.mem_of_getElem? (i := 1) rfl) dX4_start_1 h fun σ lv st h =>
    so_iconst E (x := 0) dX4_start_4 h fun σ lv st h =>
    so_iload_n E (i := 1) rfl dX4_start_5 h fun σ lv st h =>
    so_iast E dX4_start_6 h fun σ lv st h =>
    so_aload_n E (i := 0) rfl dX4_start_7 h fun σ lv st h =>
    so_get E (pp := 10) (fi := 0) (C := RX4) (T := TX4) (N := 6) (ref := "WheelDesk$Wheel") ⟨rfl, rfl, rfl⟩ rfl fi_X4_start_X4 (by decide) rfl (List.mem_of_getElem? (i := 1) rfl) dX4_start_8 h fun σ lv st h =>
    so_iconst E (x := 1) dX4_start_11 h fun σ lv st h =>
    so_iload_n E (i := 2) rfl dX4_start_12 h fun σ lv st h =>
    so_iast E dX4_start_13 h fun σ lv st h =>
    so_aload_n E (i := 0) rfl dX4_start_14 h fun σ lv st h =>
    so_get E (pp := 10) (fi := 0) (C := RX4) (T := TX4) (N := 6) (ref := "WheelDesk$Wheel") ⟨rfl, rfl, rfl⟩ rfl fi_X4_start_X4 (by decide) rfl (List.mem_of_getElem? (i := 1) rfl) dX4_start_15 h fun σ lv st h =>
    so_iconst E (x := 2) dX4_start_18 h fun σ lv st h =>
    so_iload_n E (i := 3) rfl dX4_start_19 h fun σ lv st h =>
    so_iast E dX4_start_20 h fun σ lv st h =>
    so_aload_n E (i := 0) rfl dX4_start_21 h fun σ lv st h =>
    so_iconst E (x := 0) dX4_start_22 h fun σ lv st h =>
    so_puti E (pp := 10) (fi := 1) (sl := 0) (C := RX4) (T := TX4) (N := 6) (ref := "WheelDesk$Wheel") ⟨rfl, rfl, rfl⟩ rfl fi_X4_start_X4 tyX4 tyX4_ok nmX4 (by decide) rfl rfl rfl q_fs_10_1 (List.mem_of_getElem? (i := 2) rfl) dX4_start_23 h fun σ lv st h =>
    so_aload_n E (i := 0) rfl dX4_start_26 h fun σ lv st h =>
    so_iload E (i := 4) dX4_start_27 h fun σ lv st h =>
    so_puti E (pp := 10) (fi := 2) (sl := 1) (C := RX4) (T := TX4) (N := 6) (ref := "WheelDesk$Wheel") ⟨rfl, rfl, rfl⟩ rfl fi_X4_start_X4 tyX4 tyX4_ok nmX4 (by decide) rfl rfl rfl q_fs_10_2 (List.mem_of_getElem? (i := 3) rfl) dX4_start_29 h fun σ lv st h =>
    so_aload_n E (i := 0) rfl dX4_start_32 h fun σ lv st h =>
    so_iload E (i := 5) dX4_start_33 h fun σ lv st h =>
    so_puti E (pp := 10) (fi := 3) (sl := 2) (C := RX4) (T := TX4) (N := 6) (ref := "WheelDesk$Wheel") ⟨rfl, rfl, rfl⟩ rfl fi_X4_start_X4 tyX4 tyX4_ok nmX4 (by decide) rfl rfl rfl q_fs_10_3 (List.mem_of_getElem? (i := 4) rfl) dX4_start_35 h fun σ lv st h =>
    so_aload_n E (i := 0) rfl dX4_start_38 h fun σ lv st h =>
    so_iconst E (x := 0) dX4_start_39 h fun σ lv st h =>
    so_putz E (pp := 10) (fi := 4) (sl := 3) (C := RX4) (T := TX4) (N := 6) (ref := "WheelDesk$Wheel") ⟨rfl, rfl, rfl⟩ rfl fi_X4_start_X4 tyX4 tyX4_ok nmX4 (by decide) rfl rfl rfl q_fs_10_4 (List.mem_of_getElem? (i := 5) rfl) dX4_start_40 h fun σ lv st h =>
    so_aload_n E (i := 0) rfl dX4_start_43 h fun σ lv st h =>
    so_iconst E (x := 0) dX4_start_44 h fun σ lv st h =>
    so_puti E (pp := 10) (fi := 5) (sl := 4) (C := RX4) (T := TX4) (N := 6) (ref := "WheelDesk$Wheel") ⟨rfl, rfl, rfl⟩ rfl fi_X4_start_X4 tyX4 tyX4_ok nmX4 (by decide) rfl rfl rfl q_fs_10_5 (List.mem_of_getElem? (i := 6) rfl) dX4_start_45 h fun σ lv st h =>
    so_vret T dX4_start_48 h
theorem c_X4_start : q_Ct yX4_start wsX4_start rm_X4_start S_X4_start := by
  refine q_met (cc := cX4_start) (maxL := 6) (ret := none) (own := RX4) (by decide +kernel) rfl rfl (fun σ vs Qp h => ?_) (fun l J σ vs Qp E T h => ?_)
  · unfold S_X4_start at h
    split at h
    · exact Nat.le_of_ble_eq_true rfl
    · exact h.elim
  · unfold S_X4_start at h
    split at h
    · next c p0 k x y z m t =>
      obtain ⟨rfl, h⟩ := h
      exact v_X4_start (so_C E) (sb_X4_start_0 E T) h
    · exact h.elim
theorem cc_X4_start : q_Ct yX4_start wsX4_start rm_X4_start S_X4_start := c_X4_start

def rm_X5_addWheel : Room := { frames := 4, cells := 0, slots := 0, locals := 104 }
theorem fi_X5_addWheel_X5 : ∀ w ∈ u_ws RX5 TX5 5, w ∈ wsX5_addWheel := fun w h => List.mem_cons_of_mem _ (List.mem_append_left _ (List.mem_append_left _ (List.mem_append_left _ (List.mem_append_right _ h))))
theorem fi_X5_addWheel_X0 : ∀ w ∈ u_ws RX0 TX0 11, w ∈ wsX5_addWheel := fun w h => List.mem_cons_of_mem _ (List.mem_append_left _ (List.mem_append_left _ (List.mem_append_right _ h)))
theorem fi_X5_addWheel_X1 : ∀ w ∈ u_ws RX1 TX1 2, w ∈ wsX5_addWheel := fun w h => List.mem_cons_of_mem _ (List.mem_append_left _ (List.mem_append_right _ h))
theorem fi_X5_addWheel_X4 : ∀ w ∈ u_ws RX4 TX4 6, w ∈ wsX5_addWheel := fun w h => List.mem_cons_of_mem _ (List.mem_append_right _ h)
set_option maxRecDepth 20000 in
theorem sb_X5_addWheel_31 {J : Nat → q_K} {l : Launch} {Qp : Option q_V → q_M → Prop} (E : q_E J cX5_addWheel RX5 wsX5_addWheel 7 l rm_X5_addWheel) (T : q_T J cX5_addWheel (some .int) Qp) (h_X5_isDirection : q_Ct yX5_isDirection wsX5_isDirection rm_X5_isDirection S_X5_isDirection) (h_X5_isWithin : q_Ct yX5_isWithin wsX5_isWithin rm_X5_isWithin S_X5_isWithin) (h_X1_keep : q_Ct yX1_keep wsX1_keep rm_X1_keep S_X1_keep) (h_X4_start : q_Ct yX4_start wsX4_start rm_X4_start S_X4_start) : ∀ (σ : q_M) (lv : q_L) (st : q_S), k_X5_addWheel_31 Qp J σ lv st → J 31 σ lv st := fun σ lv st h =>
    so_ldc E (x := -2000001) (idx := 49) (v := -2000001) (List.mem_of_getElem? (i := 3) rfl) rfl dX5_addWheel_31 h fun σ lv st h =>
    so_iret T dX5_addWheel_33 h
set_option maxRecDepth 20000 in
theorem sb_X5_addWheel_53 {J : Nat → q_K} {l : Launch} {Qp : Option q_V → q_M → Prop} (E : q_E J cX5_addWheel RX5 wsX5_addWheel 7 l rm_X5_addWheel) (T : q_T J cX5_addWheel (some .int) Qp) (h_X5_isDirection : q_Ct yX5_isDirection wsX5_isDirection rm_X5_isDirection S_X5_isDirection) (h_X5_isWithin : q_Ct yX5_isWithin wsX5_isWithin rm_X5_isWithin S_X5_isWithin) (h_X1_keep : q_Ct yX1_keep wsX1_keep rm_X1_keep S_X1_keep) (h_X4_start : q_Ct yX4_start wsX4_start rm_X4_start S_X4_start) : ∀ (σ : q_M) (lv : q_L) (st : q_S), k_X5_addWheel_53 Qp J σ lv st → J 53 σ lv st := fun σ lv st h =>
    so_aload_n E (i := 0) rfl dX5_addWheel_53 h fun σ lv st h =>
    so_get E (pp := 23) (fi := 4) (C := RX5) (T := TX5) (N := 5) (ref := "WheelDesk") ⟨rfl, rfl, rfl⟩ rfl fi_X5_addWheel_X5 (by decide) rfl (List.mem_of_getElem? (i := 7) rfl) dX5_addWheel_54 h fun σ lv st h =>
    so_aload_n E (i := 0) rfl dX5_addWheel_57 h fun σ lv st h =>
    so_get E (pp := 23) (fi := 0) (C := RX5) (T := TX5) (N := 5) (ref := "WheelDesk") ⟨rfl, rfl, rfl⟩ rfl fi_X5_addWheel_X5 (by decide) rfl (List.mem_of_getElem? (i := 4) rfl) dX5_addWheel_58 h fun σ lv st h =>
    so_callV E (n := 1) (pp := 21) (C := RX1) (T := TX1) (N := 2) (idx := 55) (maxL := 2) (ret := none) h_X1_keep ⟨rfl, rfl, rfl⟩ rfl gX5_addWheel_X1_keep rfl ⟨rfl, rfl⟩ (by decide +kernel) (by decide) dX5_addWheel_61 h fun σ lv st h =>
    so_aload_n E (i := 0) rfl dX5_addWheel_64 h fun σ lv st h =>
    so_get E (pp := 23) (fi := 0) (C := RX5) (T := TX5) (N := 5) (ref := "WheelDesk") ⟨rfl, rfl, rfl⟩ rfl fi_X5_addWheel_X5 (by decide) rfl (List.mem_of_getElem? (i := 4) rfl) dX5_addWheel_65 h fun σ lv st h =>
    so_get E (pp := 0) (fi := 7) (C := RX0) (T := TX0) (N := 11) (ref := "WheelDesk$Craft") ⟨rfl, rfl, rfl⟩ rfl fi_X5_addWheel_X0 (by decide) rfl (List.mem_of_getElem? (i := 8) rfl) dX5_addWheel_68 h fun σ lv st h =>
    so_iload E (i := 6) dX5_addWheel_71 h fun σ lv st h =>
    so_aald E dX5_addWheel_73 h fun σ lv st h =>
    so_iload_n E (i := 1) rfl dX5_addWheel_74 h fun σ lv st h =>
    so_iload_n E (i := 2) rfl dX5_addWheel_75 h fun σ lv st h =>
    so_iload_n E (i := 3) rfl dX5_addWheel_76 h fun σ lv st h =>
    so_iload E (i := 4) dX5_addWheel_77 h fun σ lv st h =>
    so_iload E (i := 5) dX5_addWheel_79 h fun σ lv st h =>
    so_callV E (n := 5) (pp := 10) (C := RX4) (T := TX4) (N := 6) (idx := 63) (maxL := 6) (ret := none) h_X4_start ⟨rfl, rfl, rfl⟩ rfl gX5_addWheel_X4_start rfl ⟨rfl, rfl⟩ (by decide +kernel) (by decide) dX5_addWheel_81 h fun σ lv st h =>
    so_aload_n E (i := 0) rfl dX5_addWheel_84 h fun σ lv st h =>
    so_get E (pp := 23) (fi := 0) (C := RX5) (T := TX5) (N := 5) (ref := "WheelDesk") ⟨rfl, rfl, rfl⟩ rfl fi_X5_addWheel_X5 (by decide) rfl (List.mem_of_getElem? (i := 4) rfl) dX5_addWheel_85 h fun σ lv st h =>
    so_iload E (i := 6) dX5_addWheel_88 h fun σ lv st h =>
    so_iconst E (x := 1) dX5_addWheel_90 h fun σ lv st h =>
    so_iadd E dX5_addWheel_91 h fun σ lv st h =>
    so_puti E (pp := 0) (fi := 8) (sl := 1) (C := RX0) (T := TX0) (N := 11) (ref := "WheelDesk$Craft") ⟨rfl, rfl, rfl⟩ rfl fi_X5_addWheel_X0 tyX0 tyX0_ok nmX0 (by decide) rfl rfl rfl q_fs_0_8 (List.mem_of_getElem? (i := 5) rfl) dX5_addWheel_92 h fun σ lv st h =>
    so_iload E (i := 6) dX5_addWheel_95 h fun σ lv st h =>
    so_iret T dX5_addWheel_97 h
set_option maxRecDepth 20000 in
theorem sb_X5_addWheel_34 {J : Nat → q_K} {l : Launch} {Qp : Option q_V → q_M → Prop} (E : q_E J cX5_addWheel RX5 wsX5_addWheel 7 l rm_X5_addWheel) (T : q_T J cX5_addWheel (some .int) Qp) (h_X5_isDirection : q_Ct yX5_isDirection wsX5_isDirection rm_X5_isDirection S_X5_isDirection) (h_X5_isWithin : q_Ct yX5_isWithin wsX5_isWithin rm_X5_isWithin S_X5_isWithin) (h_X1_keep : q_Ct yX1_keep wsX1_keep rm_X1_keep S_X1_keep) (h_X4_start : q_Ct yX4_start wsX4_start rm_X4_start S_X4_start) : ∀ (σ : q_M) (lv : q_L) (st : q_S), k_X5_addWheel_34 Qp J σ lv st → J 34 σ lv st := fun σ lv st h =>
    so_aload_n E (i := 0) rfl dX5_addWheel_34 h fun σ lv st h =>
    so_get E (pp := 23) (fi := 0) (C := RX5) (T := TX5) (N := 5) (ref := "WheelDesk") ⟨rfl, rfl, rfl⟩ rfl fi_X5_addWheel_X5 (by decide) rfl (List.mem_of_getElem? (i := 4) rfl) dX5_addWheel_35 h fun σ lv st h =>
    so_get E (pp := 0) (fi := 8) (C := RX0) (T := TX0) (N := 11) (ref := "WheelDesk$Craft") ⟨rfl, rfl, rfl⟩ rfl fi_X5_addWheel_X0 (by decide) rfl (List.mem_of_getElem? (i := 5) rfl) dX5_addWheel_38 h fun σ lv st h =>
    so_istore E (i := 6) (by decide) dX5_addWheel_41 h fun σ lv st h =>
    so_iload E (i := 6) dX5_addWheel_43 h fun σ lv st h =>
    so_bipush E (x := 6) rfl dX5_addWheel_45 h fun σ lv st h =>
    so_icmplt E 53 (by decide) dX5_addWheel_47 (sb_X5_addWheel_53 E T h_X5_isDirection h_X5_isWithin h_X1_keep h_X4_start) h fun σ lv st h =>
    so_ldc E (x := -2000003) (idx := 54) (v := -2000003) (List.mem_of_getElem? (i := 6) rfl) rfl dX5_addWheel_50 h fun σ lv st h =>
    so_iret T dX5_addWheel_52 h
set_option maxRecDepth 20000 in
theorem sb_X5_addWheel_0 {J : Nat → q_K} {l : Launch} {Qp : Option q_V → q_M → Prop} (E : q_E J cX5_addWheel RX5 wsX5_addWheel 7 l rm_X5_addWheel) (T : q_T J cX5_addWheel (some .int) Qp) (h_X5_isDirection : q_Ct yX5_isDirection wsX5_isDirection rm_X5_isDirection S_X5_isDirection) (h_X5_isWithin : q_Ct yX5_isWithin wsX5_isWithin rm_X5_isWithin S_X5_isWithin) (h_X1_keep : q_Ct yX1_keep wsX1_keep rm_X1_keep S_X1_keep) (h_X4_start : q_Ct yX4_start wsX4_start rm_X4_start S_X4_start) : ∀ (σ : q_M) (lv : q_L) (st : q_S), k_X5_addWheel_0 Qp J σ lv st → J 0 σ lv st := fun σ lv st h =>
    so_iload_n E (i := 1) rfl dX5_addWheel_0 h fun σ lv st h =>
    so_iload_n E (i := 2) rfl dX5_addWheel_1 h fun σ lv st h =>
    so_iload_n E (i := 3) rfl dX5_addWheel_2 h fun σ lv st h =>
    so_callT E (n := 3) (idx := 40) (maxL := 3) (ret := (some .boolean)) h_X5_isDirection gX5_addWheel_X5_isDirection rfl ⟨rfl, rfl⟩ (by decide +kernel) (by decide) dX5_addWheel_3 h fun σ lv st h =>
    so_ifeq E 31 (by decide) dX5_addWheel_6 (sb_X5_addWheel_31 E T h_X5_isDirection h_X5_isWithin h_X1_keep h_X4_start) h fun σ lv st h =>
    so_iload E (i := 4) dX5_addWheel_9 h fun σ lv st h =>
    so_iconst E (x := 1) dX5_addWheel_11 h fun σ lv st h =>
    so_ldc E (x := 1000000) (idx := 44) (v := 1000000) (List.mem_of_getElem? (i := 1) rfl) rfl dX5_addWheel_12 h fun σ lv st h =>
    so_callT E (n := 3) (idx := 45) (maxL := 3) (ret := (some .boolean)) h_X5_isWithin gX5_addWheel_X5_isWithin rfl ⟨rfl, rfl⟩ (by decide +kernel) (by decide) dX5_addWheel_14 h fun σ lv st h =>
    so_ifeq E 31 (by decide) dX5_addWheel_17 (sb_X5_addWheel_31 E T h_X5_isDirection h_X5_isWithin h_X1_keep h_X4_start) h fun σ lv st h =>
    so_iload E (i := 5) dX5_addWheel_20 h fun σ lv st h =>
    so_iconst E (x := 1) dX5_addWheel_22 h fun σ lv st h =>
    so_ldc E (x := 100000) (idx := 48) (v := 100000) (List.mem_of_getElem? (i := 2) rfl) rfl dX5_addWheel_23 h fun σ lv st h =>
    so_callT E (n := 3) (idx := 45) (maxL := 3) (ret := (some .boolean)) h_X5_isWithin gX5_addWheel_X5_isWithin rfl ⟨rfl, rfl⟩ (by decide +kernel) (by decide) dX5_addWheel_25 h fun σ lv st h =>
    so_ifne E 34 (by decide) dX5_addWheel_28 (sb_X5_addWheel_34 E T h_X5_isDirection h_X5_isWithin h_X1_keep h_X4_start) h fun σ lv st h =>
    (sb_X5_addWheel_31 E T h_X5_isDirection h_X5_isWithin h_X1_keep h_X4_start) σ lv st h
theorem c_X5_addWheel (h_X5_isDirection : q_Ct yX5_isDirection wsX5_isDirection rm_X5_isDirection S_X5_isDirection) (h_X5_isWithin : q_Ct yX5_isWithin wsX5_isWithin rm_X5_isWithin S_X5_isWithin) (h_X1_keep : q_Ct yX1_keep wsX1_keep rm_X1_keep S_X1_keep) (h_X4_start : q_Ct yX4_start wsX4_start rm_X4_start S_X4_start) : q_Ct yX5_addWheel wsX5_addWheel rm_X5_addWheel S_X5_addWheel := by
  refine q_met (cc := cX5_addWheel) (maxL := 7) (ret := (some .int)) (own := RX5) (by decide +kernel) rfl rfl (fun σ vs Qp h => ?_) (fun l J σ vs Qp E T h => ?_)
  · unfold S_X5_addWheel at h
    split at h
    · exact Nat.le_of_ble_eq_true rfl
    · exact h.elim
  · unfold S_X5_addWheel at h
    split at h
    · next c0 p0 k0 x y z m t =>
      obtain ⟨rfl, rfl, rfl, h⟩ := h
      exact v_X5_addWheel (so_C E) (sb_X5_addWheel_0 E T h_X5_isDirection h_X5_isWithin h_X1_keep h_X4_start) h
    · exact h.elim
theorem cc_X5_addWheel : q_Ct yX5_addWheel wsX5_addWheel rm_X5_addWheel S_X5_addWheel := c_X5_addWheel cc_X5_isDirection cc_X5_isWithin cc_X1_keep cc_X4_start

def rm_X5_isWheel : Room := { frames := 1, cells := 0, slots := 0, locals := 22 }
theorem fi_X5_isWheel_X5 : ∀ w ∈ u_ws RX5 TX5 5, w ∈ wsX5_isWheel := fun w h => List.mem_cons_of_mem _ (List.mem_append_left _ (List.mem_append_right _ h))
theorem fi_X5_isWheel_X0 : ∀ w ∈ u_ws RX0 TX0 11, w ∈ wsX5_isWheel := fun w h => List.mem_cons_of_mem _ (List.mem_append_right _ h)
set_option maxRecDepth 20000 in
theorem sb_X5_isWheel_0 {J : Nat → q_K} {l : Launch} {Qp : Option q_V → q_M → Prop} (E : q_E J cX5_isWheel RX5 wsX5_isWheel 2 l rm_X5_isWheel) (T : q_T J cX5_isWheel (some .boolean) Qp) (h_X5_isWithin : q_Ct yX5_isWithin wsX5_isWithin rm_X5_isWithin S_X5_isWithin) : ∀ (σ : q_M) (lv : q_L) (st : q_S), k_X5_isWheel_0 Qp J σ lv st → J 0 σ lv st := fun σ lv st h =>
    so_iload_n E (i := 1) rfl dX5_isWheel_0 h fun σ lv st h =>
    so_iconst E (x := 0) dX5_isWheel_1 h fun σ lv st h =>
    so_aload_n E (i := 0) rfl dX5_isWheel_2 h fun σ lv st h =>
    so_get E (pp := 23) (fi := 0) (C := RX5) (T := TX5) (N := 5) (ref := "WheelDesk") ⟨rfl, rfl, rfl⟩ rfl fi_X5_isWheel_X5 (by decide) rfl (List.mem_of_getElem? (i := 1) rfl) dX5_isWheel_3 h fun σ lv st h =>
    so_get E (pp := 0) (fi := 8) (C := RX0) (T := TX0) (N := 11) (ref := "WheelDesk$Craft") ⟨rfl, rfl, rfl⟩ rfl fi_X5_isWheel_X0 (by decide) rfl (List.mem_of_getElem? (i := 2) rfl) dX5_isWheel_6 h fun σ lv st h =>
    so_iconst E (x := 1) dX5_isWheel_9 h fun σ lv st h =>
    so_isub E dX5_isWheel_10 h fun σ lv st h =>
    so_callT E (n := 3) (idx := 45) (maxL := 3) (ret := (some .boolean)) h_X5_isWithin gX5_isWheel_X5_isWithin rfl ⟨rfl, rfl⟩ (by decide +kernel) (by decide) dX5_isWheel_11 h fun σ lv st h =>
    so_zret T dX5_isWheel_14 h
theorem c_X5_isWheel (h_X5_isWithin : q_Ct yX5_isWithin wsX5_isWithin rm_X5_isWithin S_X5_isWithin) : q_Ct yX5_isWheel wsX5_isWheel rm_X5_isWheel S_X5_isWheel := by
  refine q_met (cc := cX5_isWheel) (maxL := 2) (ret := (some .boolean)) (own := RX5) (by decide +kernel) rfl rfl (fun σ vs Qp h => ?_) (fun l J σ vs Qp E T h => ?_)
  · unfold S_X5_isWheel at h
    split at h
    · exact Nat.le_of_ble_eq_true rfl
    · exact h.elim
  · unfold S_X5_isWheel at h
    split at h
    · next c0 p0 k0 k =>
      obtain ⟨rfl, rfl, rfl, h⟩ := h
      exact v_X5_isWheel (so_C E) (sb_X5_isWheel_0 E T h_X5_isWithin) h
    · exact h.elim
theorem cc_X5_isWheel : q_Ct yX5_isWheel wsX5_isWheel rm_X5_isWheel S_X5_isWheel := c_X5_isWheel cc_X5_isWithin

def rm_X5_fail : Room := { frames := 4, cells := 0, slots := 0, locals := 104 }
theorem fi_X5_fail_X5 : ∀ w ∈ u_ws RX5 TX5 5, w ∈ wsX5_fail := fun w h => List.mem_cons_of_mem _ (List.mem_append_left _ (List.mem_append_left _ (List.mem_append_left _ (List.mem_append_right _ h))))
theorem fi_X5_fail_X0 : ∀ w ∈ u_ws RX0 TX0 11, w ∈ wsX5_fail := fun w h => List.mem_cons_of_mem _ (List.mem_append_left _ (List.mem_append_left _ (List.mem_append_right _ h)))
theorem fi_X5_fail_X4 : ∀ w ∈ u_ws RX4 TX4 6, w ∈ wsX5_fail := fun w h => List.mem_cons_of_mem _ (List.mem_append_left _ (List.mem_append_right _ h))
theorem fi_X5_fail_X1 : ∀ w ∈ u_ws RX1 TX1 2, w ∈ wsX5_fail := fun w h => List.mem_cons_of_mem _ (List.mem_append_right _ h)
set_option maxRecDepth 20000 in
theorem sb_X5_fail_44 {J : Nat → q_K} {l : Launch} {Qp : Option q_V → q_M → Prop} (E : q_E J cX5_fail RX5 wsX5_fail 5 l rm_X5_fail) (T : q_T J cX5_fail (some .int) Qp) (h_X5_isWheel : q_Ct yX5_isWheel wsX5_isWheel rm_X5_isWheel S_X5_isWheel) (h_X1_keep : q_Ct yX1_keep wsX1_keep rm_X1_keep S_X1_keep) : ∀ (σ : q_M) (lv : q_L) (st : q_S), k_X5_fail_44 Qp J σ lv st → J 44 σ lv st := fun σ lv st h =>
    so_istore E (i := 4) (by decide) dX5_fail_44 h fun σ lv st h =>
    so_aload_n E (i := 3) rfl dX5_fail_46 h fun σ lv st h =>
    so_iload_n E (i := 2) rfl dX5_fail_47 h fun σ lv st h =>
    so_putz E (pp := 10) (fi := 4) (sl := 3) (C := RX4) (T := TX4) (N := 6) (ref := "WheelDesk$Wheel") ⟨rfl, rfl, rfl⟩ rfl fi_X5_fail_X4 tyX4 tyX4_ok nmX4 (by decide) rfl rfl rfl q_fs_10_4 (List.mem_of_getElem? (i := 5) rfl) dX5_fail_48 h fun σ lv st h =>
    so_iload E (i := 4) dX5_fail_51 h fun σ lv st h =>
    so_iret T dX5_fail_53 h
set_option maxRecDepth 20000 in
theorem sb_X5_fail_43 {J : Nat → q_K} {l : Launch} {Qp : Option q_V → q_M → Prop} (E : q_E J cX5_fail RX5 wsX5_fail 5 l rm_X5_fail) (T : q_T J cX5_fail (some .int) Qp) (h_X5_isWheel : q_Ct yX5_isWheel wsX5_isWheel rm_X5_isWheel S_X5_isWheel) (h_X1_keep : q_Ct yX1_keep wsX1_keep rm_X1_keep S_X1_keep) : ∀ (σ : q_M) (lv : q_L) (st : q_S), k_X5_fail_43 Qp J σ lv st → J 43 σ lv st := fun σ lv st h =>
    so_iconst E (x := 0) dX5_fail_43 h fun σ lv st h =>
    (sb_X5_fail_44 E T h_X5_isWheel h_X1_keep) σ lv st h
set_option maxRecDepth 20000 in
theorem sb_X5_fail_11 {J : Nat → q_K} {l : Launch} {Qp : Option q_V → q_M → Prop} (E : q_E J cX5_fail RX5 wsX5_fail 5 l rm_X5_fail) (T : q_T J cX5_fail (some .int) Qp) (h_X5_isWheel : q_Ct yX5_isWheel wsX5_isWheel rm_X5_isWheel S_X5_isWheel) (h_X1_keep : q_Ct yX1_keep wsX1_keep rm_X1_keep S_X1_keep) : ∀ (σ : q_M) (lv : q_L) (st : q_S), k_X5_fail_11 Qp J σ lv st → J 11 σ lv st := fun σ lv st h =>
    so_aload_n E (i := 0) rfl dX5_fail_11 h fun σ lv st h =>
    so_get E (pp := 23) (fi := 4) (C := RX5) (T := TX5) (N := 5) (ref := "WheelDesk") ⟨rfl, rfl, rfl⟩ rfl fi_X5_fail_X5 (by decide) rfl (List.mem_of_getElem? (i := 2) rfl) dX5_fail_12 h fun σ lv st h =>
    so_aload_n E (i := 0) rfl dX5_fail_15 h fun σ lv st h =>
    so_get E (pp := 23) (fi := 0) (C := RX5) (T := TX5) (N := 5) (ref := "WheelDesk") ⟨rfl, rfl, rfl⟩ rfl fi_X5_fail_X5 (by decide) rfl (List.mem_of_getElem? (i := 3) rfl) dX5_fail_16 h fun σ lv st h =>
    so_callV E (n := 1) (pp := 21) (C := RX1) (T := TX1) (N := 2) (idx := 55) (maxL := 2) (ret := none) h_X1_keep ⟨rfl, rfl, rfl⟩ rfl gX5_fail_X1_keep rfl ⟨rfl, rfl⟩ (by decide +kernel) (by decide) dX5_fail_19 h fun σ lv st h =>
    so_aload_n E (i := 0) rfl dX5_fail_22 h fun σ lv st h =>
    so_get E (pp := 23) (fi := 0) (C := RX5) (T := TX5) (N := 5) (ref := "WheelDesk") ⟨rfl, rfl, rfl⟩ rfl fi_X5_fail_X5 (by decide) rfl (List.mem_of_getElem? (i := 3) rfl) dX5_fail_23 h fun σ lv st h =>
    so_get E (pp := 0) (fi := 7) (C := RX0) (T := TX0) (N := 11) (ref := "WheelDesk$Craft") ⟨rfl, rfl, rfl⟩ rfl fi_X5_fail_X0 (by decide) rfl (List.mem_of_getElem? (i := 4) rfl) dX5_fail_26 h fun σ lv st h =>
    so_iload_n E (i := 1) rfl dX5_fail_29 h fun σ lv st h =>
    so_aald E dX5_fail_30 h fun σ lv st h =>
    so_astore_n E (i := 3) rfl (by decide) dX5_fail_31 h fun σ lv st h =>
    so_aload_n E (i := 3) rfl dX5_fail_32 h fun σ lv st h =>
    so_get E (pp := 10) (fi := 4) (C := RX4) (T := TX4) (N := 6) (ref := "WheelDesk$Wheel") ⟨rfl, rfl, rfl⟩ rfl fi_X5_fail_X4 (by decide) rfl (List.mem_of_getElem? (i := 5) rfl) dX5_fail_33 h fun σ lv st h =>
    so_ifeq E 43 (by decide) dX5_fail_36 (sb_X5_fail_43 E T h_X5_isWheel h_X1_keep) h fun σ lv st h =>
    so_iconst E (x := 1) dX5_fail_39 h fun σ lv st h =>
    so_goto E 44 (by decide) dX5_fail_40 (sb_X5_fail_44 E T h_X5_isWheel h_X1_keep) h
set_option maxRecDepth 20000 in
theorem sb_X5_fail_0 {J : Nat → q_K} {l : Launch} {Qp : Option q_V → q_M → Prop} (E : q_E J cX5_fail RX5 wsX5_fail 5 l rm_X5_fail) (T : q_T J cX5_fail (some .int) Qp) (h_X5_isWheel : q_Ct yX5_isWheel wsX5_isWheel rm_X5_isWheel S_X5_isWheel) (h_X1_keep : q_Ct yX1_keep wsX1_keep rm_X1_keep S_X1_keep) : ∀ (σ : q_M) (lv : q_L) (st : q_S), k_X5_fail_0 Qp J σ lv st → J 0 σ lv st := fun σ lv st h =>
    so_aload_n E (i := 0) rfl dX5_fail_0 h fun σ lv st h =>
    so_iload_n E (i := 1) rfl dX5_fail_1 h fun σ lv st h =>
    so_callV E (n := 1) (pp := 23) (C := RX5) (T := TX5) (N := 5) (idx := 69) (maxL := 2) (ret := (some .boolean)) h_X5_isWheel ⟨rfl, rfl, rfl⟩ rfl gX5_fail_X5_isWheel rfl ⟨rfl, rfl⟩ (by decide +kernel) (by decide) dX5_fail_2 h fun σ lv st h =>
    so_ifne E 11 (by decide) dX5_fail_5 (sb_X5_fail_11 E T h_X5_isWheel h_X1_keep) h fun σ lv st h =>
    so_ldc E (x := -2000001) (idx := 49) (v := -2000001) (List.mem_of_getElem? (i := 1) rfl) rfl dX5_fail_8 h fun σ lv st h =>
    so_iret T dX5_fail_10 h
theorem c_X5_fail (h_X5_isWheel : q_Ct yX5_isWheel wsX5_isWheel rm_X5_isWheel S_X5_isWheel) (h_X1_keep : q_Ct yX1_keep wsX1_keep rm_X1_keep S_X1_keep) : q_Ct yX5_fail wsX5_fail rm_X5_fail S_X5_fail := by
  refine q_met (cc := cX5_fail) (maxL := 5) (ret := (some .int)) (own := RX5) (by decide +kernel) rfl rfl (fun σ vs Qp h => ?_) (fun l J σ vs Qp E T h => ?_)
  · unfold S_X5_fail at h
    split at h
    · exact Nat.le_of_ble_eq_true rfl
    · exact h.elim
  · unfold S_X5_fail at h
    split at h
    · next c0 p0 k0 k b =>
      obtain ⟨rfl, rfl, rfl, h⟩ := h
      exact v_X5_fail (so_C E) (sb_X5_fail_0 E T h_X5_isWheel h_X1_keep) h
    · exact h.elim
theorem cc_X5_fail : q_Ct yX5_fail wsX5_fail rm_X5_fail S_X5_fail := c_X5_fail cc_X5_isWheel cc_X1_keep

def rm_X5_setMost : Room := { frames := 4, cells := 0, slots := 0, locals := 104 }
theorem fi_X5_setMost_X5 : ∀ w ∈ u_ws RX5 TX5 5, w ∈ wsX5_setMost := fun w h => List.mem_cons_of_mem _ (List.mem_append_left _ (List.mem_append_left _ (List.mem_append_left _ (List.mem_append_right _ h))))
theorem fi_X5_setMost_X0 : ∀ w ∈ u_ws RX0 TX0 11, w ∈ wsX5_setMost := fun w h => List.mem_cons_of_mem _ (List.mem_append_left _ (List.mem_append_left _ (List.mem_append_right _ h)))
theorem fi_X5_setMost_X4 : ∀ w ∈ u_ws RX4 TX4 6, w ∈ wsX5_setMost := fun w h => List.mem_cons_of_mem _ (List.mem_append_left _ (List.mem_append_right _ h))
theorem fi_X5_setMost_X1 : ∀ w ∈ u_ws RX1 TX1 2, w ∈ wsX5_setMost := fun w h => List.mem_cons_of_mem _ (List.mem_append_right _ h)
set_option maxRecDepth 20000 in
theorem sb_X5_setMost_27 {J : Nat → q_K} {l : Launch} {Qp : Option q_V → q_M → Prop} (E : q_E J cX5_setMost RX5 wsX5_setMost 6 l rm_X5_setMost) (T : q_T J cX5_setMost (some .int) Qp) (h_X5_isWheel : q_Ct yX5_isWheel wsX5_isWheel rm_X5_isWheel S_X5_isWheel) (h_X5_isWithin : q_Ct yX5_isWithin wsX5_isWithin rm_X5_isWithin S_X5_isWithin) (h_X1_keep : q_Ct yX1_keep wsX1_keep rm_X1_keep S_X1_keep) : ∀ (σ : q_M) (lv : q_L) (st : q_S), k_X5_setMost_27 Qp J σ lv st → J 27 σ lv st := fun σ lv st h =>
    so_ldc E (x := -2000001) (idx := 49) (v := -2000001) (List.mem_of_getElem? (i := 3) rfl) rfl dX5_setMost_27 h fun σ lv st h =>
    so_iret T dX5_setMost_29 h
set_option maxRecDepth 20000 in
theorem sb_X5_setMost_90 {J : Nat → q_K} {l : Launch} {Qp : Option q_V → q_M → Prop} (E : q_E J cX5_setMost RX5 wsX5_setMost 6 l rm_X5_setMost) (T : q_T J cX5_setMost (some .int) Qp) (h_X5_isWheel : q_Ct yX5_isWheel wsX5_isWheel rm_X5_isWheel S_X5_isWheel) (h_X5_isWithin : q_Ct yX5_isWithin wsX5_isWithin rm_X5_isWithin S_X5_isWithin) (h_X1_keep : q_Ct yX1_keep wsX1_keep rm_X1_keep S_X1_keep) : ∀ (σ : q_M) (lv : q_L) (st : q_S), k_X5_setMost_90 Qp J σ lv st → J 90 σ lv st := fun σ lv st h =>
    so_iload E (i := 5) dX5_setMost_90 h fun σ lv st h =>
    so_iret T dX5_setMost_92 h
set_option maxRecDepth 20000 in
theorem sb_X5_setMost_84 {J : Nat → q_K} {l : Launch} {Qp : Option q_V → q_M → Prop} (E : q_E J cX5_setMost RX5 wsX5_setMost 6 l rm_X5_setMost) (T : q_T J cX5_setMost (some .int) Qp) (h_X5_isWheel : q_Ct yX5_isWheel wsX5_isWheel rm_X5_isWheel S_X5_isWheel) (h_X5_isWithin : q_Ct yX5_isWithin wsX5_isWithin rm_X5_isWithin S_X5_isWithin) (h_X1_keep : q_Ct yX1_keep wsX1_keep rm_X1_keep S_X1_keep) : ∀ (σ : q_M) (lv : q_L) (st : q_S), k_X5_setMost_84 Qp J σ lv st → J 84 σ lv st := fun σ lv st h =>
    so_aload E (i := 4) dX5_setMost_84 h fun σ lv st h =>
    so_iload_n E (i := 3) rfl dX5_setMost_86 h fun σ lv st h =>
    so_puti E (pp := 10) (fi := 2) (sl := 1) (C := RX4) (T := TX4) (N := 6) (ref := "WheelDesk$Wheel") ⟨rfl, rfl, rfl⟩ rfl fi_X5_setMost_X4 tyX4 tyX4_ok nmX4 (by decide) rfl rfl rfl q_fs_10_2 (List.mem_of_getElem? (i := 8) rfl) dX5_setMost_87 h fun σ lv st h =>
    (sb_X5_setMost_90 E T h_X5_isWheel h_X5_isWithin h_X1_keep) σ lv st h
set_option maxRecDepth 20000 in
theorem sb_X5_setMost_69 {J : Nat → q_K} {l : Launch} {Qp : Option q_V → q_M → Prop} (E : q_E J cX5_setMost RX5 wsX5_setMost 6 l rm_X5_setMost) (T : q_T J cX5_setMost (some .int) Qp) (h_X5_isWheel : q_Ct yX5_isWheel wsX5_isWheel rm_X5_isWheel S_X5_isWheel) (h_X5_isWithin : q_Ct yX5_isWithin wsX5_isWithin rm_X5_isWithin S_X5_isWithin) (h_X1_keep : q_Ct yX1_keep wsX1_keep rm_X1_keep S_X1_keep) : ∀ (σ : q_M) (lv : q_L) (st : q_S), k_X5_setMost_69 Qp J σ lv st → J 69 σ lv st := fun σ lv st h =>
    so_istore E (i := 5) (by decide) dX5_setMost_69 h fun σ lv st h =>
    so_iload_n E (i := 2) rfl dX5_setMost_71 h fun σ lv st h =>
    so_ifeq E 84 (by decide) dX5_setMost_72 (sb_X5_setMost_84 E T h_X5_isWheel h_X5_isWithin h_X1_keep) h fun σ lv st h =>
    so_aload E (i := 4) dX5_setMost_75 h fun σ lv st h =>
    so_iload_n E (i := 3) rfl dX5_setMost_77 h fun σ lv st h =>
    so_puti E (pp := 10) (fi := 3) (sl := 2) (C := RX4) (T := TX4) (N := 6) (ref := "WheelDesk$Wheel") ⟨rfl, rfl, rfl⟩ rfl fi_X5_setMost_X4 tyX4 tyX4_ok nmX4 (by decide) rfl rfl rfl q_fs_10_3 (List.mem_of_getElem? (i := 7) rfl) dX5_setMost_78 h fun σ lv st h =>
    so_goto E 90 (by decide) dX5_setMost_81 (sb_X5_setMost_90 E T h_X5_isWheel h_X5_isWithin h_X1_keep) h
set_option maxRecDepth 20000 in
theorem sb_X5_setMost_64 {J : Nat → q_K} {l : Launch} {Qp : Option q_V → q_M → Prop} (E : q_E J cX5_setMost RX5 wsX5_setMost 6 l rm_X5_setMost) (T : q_T J cX5_setMost (some .int) Qp) (h_X5_isWheel : q_Ct yX5_isWheel wsX5_isWheel rm_X5_isWheel S_X5_isWheel) (h_X5_isWithin : q_Ct yX5_isWithin wsX5_isWithin rm_X5_isWithin S_X5_isWithin) (h_X1_keep : q_Ct yX1_keep wsX1_keep rm_X1_keep S_X1_keep) : ∀ (σ : q_M) (lv : q_L) (st : q_S), k_X5_setMost_64 Qp J σ lv st → J 64 σ lv st := fun σ lv st h =>
    so_aload E (i := 4) dX5_setMost_64 h fun σ lv st h =>
    so_get E (pp := 10) (fi := 2) (C := RX4) (T := TX4) (N := 6) (ref := "WheelDesk$Wheel") ⟨rfl, rfl, rfl⟩ rfl fi_X5_setMost_X4 (by decide) rfl (List.mem_of_getElem? (i := 8) rfl) dX5_setMost_66 h fun σ lv st h =>
    (sb_X5_setMost_69 E T h_X5_isWheel h_X5_isWithin h_X1_keep) σ lv st h
set_option maxRecDepth 20000 in
theorem sb_X5_setMost_30 {J : Nat → q_K} {l : Launch} {Qp : Option q_V → q_M → Prop} (E : q_E J cX5_setMost RX5 wsX5_setMost 6 l rm_X5_setMost) (T : q_T J cX5_setMost (some .int) Qp) (h_X5_isWheel : q_Ct yX5_isWheel wsX5_isWheel rm_X5_isWheel S_X5_isWheel) (h_X5_isWithin : q_Ct yX5_isWithin wsX5_isWithin rm_X5_isWithin S_X5_isWithin) (h_X1_keep : q_Ct yX1_keep wsX1_keep rm_X1_keep S_X1_keep) : ∀ (σ : q_M) (lv : q_L) (st : q_S), k_X5_setMost_30 Qp J σ lv st → J 30 σ lv st := fun σ lv st h =>
    so_aload_n E (i := 0) rfl dX5_setMost_30 h fun σ lv st h =>
    so_get E (pp := 23) (fi := 4) (C := RX5) (T := TX5) (N := 5) (ref := "WheelDesk") ⟨rfl, rfl, rfl⟩ rfl fi_X5_setMost_X5 (by decide) rfl (List.mem_of_getElem? (i := 4) rfl) dX5_setMost_31 h fun σ lv st h =>
    so_aload_n E (i := 0) rfl dX5_setMost_34 h fun σ lv st h =>
    so_get E (pp := 23) (fi := 0) (C := RX5) (T := TX5) (N := 5) (ref := "WheelDesk") ⟨rfl, rfl, rfl⟩ rfl fi_X5_setMost_X5 (by decide) rfl (List.mem_of_getElem? (i := 5) rfl) dX5_setMost_35 h fun σ lv st h =>
    so_callV E (n := 1) (pp := 21) (C := RX1) (T := TX1) (N := 2) (idx := 55) (maxL := 2) (ret := none) h_X1_keep ⟨rfl, rfl, rfl⟩ rfl gX5_setMost_X1_keep rfl ⟨rfl, rfl⟩ (by decide +kernel) (by decide) dX5_setMost_38 h fun σ lv st h =>
    so_aload_n E (i := 0) rfl dX5_setMost_41 h fun σ lv st h =>
    so_get E (pp := 23) (fi := 0) (C := RX5) (T := TX5) (N := 5) (ref := "WheelDesk") ⟨rfl, rfl, rfl⟩ rfl fi_X5_setMost_X5 (by decide) rfl (List.mem_of_getElem? (i := 5) rfl) dX5_setMost_42 h fun σ lv st h =>
    so_get E (pp := 0) (fi := 7) (C := RX0) (T := TX0) (N := 11) (ref := "WheelDesk$Craft") ⟨rfl, rfl, rfl⟩ rfl fi_X5_setMost_X0 (by decide) rfl (List.mem_of_getElem? (i := 6) rfl) dX5_setMost_45 h fun σ lv st h =>
    so_iload_n E (i := 1) rfl dX5_setMost_48 h fun σ lv st h =>
    so_aald E dX5_setMost_49 h fun σ lv st h =>
    so_astore E (i := 4) (by decide) dX5_setMost_50 h fun σ lv st h =>
    so_iload_n E (i := 2) rfl dX5_setMost_52 h fun σ lv st h =>
    so_ifeq E 64 (by decide) dX5_setMost_53 (sb_X5_setMost_64 E T h_X5_isWheel h_X5_isWithin h_X1_keep) h fun σ lv st h =>
    so_aload E (i := 4) dX5_setMost_56 h fun σ lv st h =>
    so_get E (pp := 10) (fi := 3) (C := RX4) (T := TX4) (N := 6) (ref := "WheelDesk$Wheel") ⟨rfl, rfl, rfl⟩ rfl fi_X5_setMost_X4 (by decide) rfl (List.mem_of_getElem? (i := 7) rfl) dX5_setMost_58 h fun σ lv st h =>
    so_goto E 69 (by decide) dX5_setMost_61 (sb_X5_setMost_69 E T h_X5_isWheel h_X5_isWithin h_X1_keep) h
set_option maxRecDepth 20000 in
theorem sb_X5_setMost_21 {J : Nat → q_K} {l : Launch} {Qp : Option q_V → q_M → Prop} (E : q_E J cX5_setMost RX5 wsX5_setMost 6 l rm_X5_setMost) (T : q_T J cX5_setMost (some .int) Qp) (h_X5_isWheel : q_Ct yX5_isWheel wsX5_isWheel rm_X5_isWheel S_X5_isWheel) (h_X5_isWithin : q_Ct yX5_isWithin wsX5_isWithin rm_X5_isWithin S_X5_isWithin) (h_X1_keep : q_Ct yX1_keep wsX1_keep rm_X1_keep S_X1_keep) : ∀ (σ : q_M) (lv : q_L) (st : q_S), k_X5_setMost_21 Qp J σ lv st → J 21 σ lv st := fun σ lv st h =>
    so_callT E (n := 3) (idx := 45) (maxL := 3) (ret := (some .boolean)) h_X5_isWithin gX5_setMost_X5_isWithin rfl ⟨rfl, rfl⟩ (by decide +kernel) (by decide) dX5_setMost_21 h fun σ lv st h =>
    so_ifne E 30 (by decide) dX5_setMost_24 (sb_X5_setMost_30 E T h_X5_isWheel h_X5_isWithin h_X1_keep) h fun σ lv st h =>
    (sb_X5_setMost_27 E T h_X5_isWheel h_X5_isWithin h_X1_keep) σ lv st h
set_option maxRecDepth 20000 in
theorem sb_X5_setMost_19 {J : Nat → q_K} {l : Launch} {Qp : Option q_V → q_M → Prop} (E : q_E J cX5_setMost RX5 wsX5_setMost 6 l rm_X5_setMost) (T : q_T J cX5_setMost (some .int) Qp) (h_X5_isWheel : q_Ct yX5_isWheel wsX5_isWheel rm_X5_isWheel S_X5_isWheel) (h_X5_isWithin : q_Ct yX5_isWithin wsX5_isWithin rm_X5_isWithin S_X5_isWithin) (h_X1_keep : q_Ct yX1_keep wsX1_keep rm_X1_keep S_X1_keep) : ∀ (σ : q_M) (lv : q_L) (st : q_S), k_X5_setMost_19 Qp J σ lv st → J 19 σ lv st := fun σ lv st h =>
    so_ldc E (x := 1000000) (idx := 44) (v := 1000000) (List.mem_of_getElem? (i := 2) rfl) rfl dX5_setMost_19 h fun σ lv st h =>
    (sb_X5_setMost_21 E T h_X5_isWheel h_X5_isWithin h_X1_keep) σ lv st h
set_option maxRecDepth 20000 in
theorem sb_X5_setMost_0 {J : Nat → q_K} {l : Launch} {Qp : Option q_V → q_M → Prop} (E : q_E J cX5_setMost RX5 wsX5_setMost 6 l rm_X5_setMost) (T : q_T J cX5_setMost (some .int) Qp) (h_X5_isWheel : q_Ct yX5_isWheel wsX5_isWheel rm_X5_isWheel S_X5_isWheel) (h_X5_isWithin : q_Ct yX5_isWithin wsX5_isWithin rm_X5_isWithin S_X5_isWithin) (h_X1_keep : q_Ct yX1_keep wsX1_keep rm_X1_keep S_X1_keep) : ∀ (σ : q_M) (lv : q_L) (st : q_S), k_X5_setMost_0 Qp J σ lv st → J 0 σ lv st := fun σ lv st h =>
    so_aload_n E (i := 0) rfl dX5_setMost_0 h fun σ lv st h =>
    so_iload_n E (i := 1) rfl dX5_setMost_1 h fun σ lv st h =>
    so_callV E (n := 1) (pp := 23) (C := RX5) (T := TX5) (N := 5) (idx := 69) (maxL := 2) (ret := (some .boolean)) h_X5_isWheel ⟨rfl, rfl, rfl⟩ rfl gX5_setMost_X5_isWheel rfl ⟨rfl, rfl⟩ (by decide +kernel) (by decide) dX5_setMost_2 h fun σ lv st h =>
    so_ifeq E 27 (by decide) dX5_setMost_5 (sb_X5_setMost_27 E T h_X5_isWheel h_X5_isWithin h_X1_keep) h fun σ lv st h =>
    so_iload_n E (i := 3) rfl dX5_setMost_8 h fun σ lv st h =>
    so_iconst E (x := 1) dX5_setMost_9 h fun σ lv st h =>
    so_iload_n E (i := 2) rfl dX5_setMost_10 h fun σ lv st h =>
    so_ifeq E 19 (by decide) dX5_setMost_11 (sb_X5_setMost_19 E T h_X5_isWheel h_X5_isWithin h_X1_keep) h fun σ lv st h =>
    so_ldc E (x := 100000) (idx := 48) (v := 100000) (List.mem_of_getElem? (i := 1) rfl) rfl dX5_setMost_14 h fun σ lv st h =>
    so_goto E 21 (by decide) dX5_setMost_16 (sb_X5_setMost_21 E T h_X5_isWheel h_X5_isWithin h_X1_keep) h
theorem c_X5_setMost (h_X5_isWheel : q_Ct yX5_isWheel wsX5_isWheel rm_X5_isWheel S_X5_isWheel) (h_X5_isWithin : q_Ct yX5_isWithin wsX5_isWithin rm_X5_isWithin S_X5_isWithin) (h_X1_keep : q_Ct yX1_keep wsX1_keep rm_X1_keep S_X1_keep) : q_Ct yX5_setMost wsX5_setMost rm_X5_setMost S_X5_setMost := by
  refine q_met (cc := cX5_setMost) (maxL := 6) (ret := (some .int)) (own := RX5) (by decide +kernel) rfl rfl (fun σ vs Qp h => ?_) (fun l J σ vs Qp E T h => ?_)
  · unfold S_X5_setMost at h
    split at h
    · exact Nat.le_of_ble_eq_true rfl
    · exact h.elim
  · unfold S_X5_setMost at h
    split at h
    · next c0 p0 k0 k b v =>
      obtain ⟨rfl, rfl, rfl, h⟩ := h
      exact v_X5_setMost (so_C E) (sb_X5_setMost_0 E T h_X5_isWheel h_X5_isWithin h_X1_keep) h
    · exact h.elim
theorem cc_X5_setMost : q_Ct yX5_setMost wsX5_setMost rm_X5_setMost S_X5_setMost := c_X5_setMost cc_X5_isWheel cc_X5_isWithin cc_X1_keep

def rm_X4_number : Room := { frames := 0, cells := 0, slots := 0, locals := 0 }
theorem fi_X4_number_X4 : ∀ w ∈ u_ws RX4 TX4 6, w ∈ wsX4_number := fun w h => List.mem_cons_of_mem _ (List.mem_append_right _ h)
set_option maxRecDepth 20000 in
theorem sb_X4_number_44 {J : Nat → q_K} {l : Launch} {Qp : Option q_V → q_M → Prop} (E : q_E J cX4_number RX4 wsX4_number 2 l rm_X4_number) (T : q_T J cX4_number (some .int) Qp) : ∀ (σ : q_M) (lv : q_L) (st : q_S), k_X4_number_44 Qp J σ lv st → J 44 σ lv st := fun σ lv st h =>
    so_aload_n E (i := 0) rfl dX4_number_44 h fun σ lv st h =>
    so_get E (pp := 10) (fi := 0) (C := RX4) (T := TX4) (N := 6) (ref := "WheelDesk$Wheel") ⟨rfl, rfl, rfl⟩ rfl fi_X4_number_X4 (by decide) rfl (List.mem_of_getElem? (i := 1) rfl) dX4_number_45 h fun σ lv st h =>
    so_iload_n E (i := 1) rfl dX4_number_48 h fun σ lv st h =>
    so_iald E dX4_number_49 h fun σ lv st h =>
    so_iret T dX4_number_50 h
set_option maxRecDepth 20000 in
theorem sb_X4_number_51 {J : Nat → q_K} {l : Launch} {Qp : Option q_V → q_M → Prop} (E : q_E J cX4_number RX4 wsX4_number 2 l rm_X4_number) (T : q_T J cX4_number (some .int) Qp) : ∀ (σ : q_M) (lv : q_L) (st : q_S), k_X4_number_51 Qp J σ lv st → J 51 σ lv st := fun σ lv st h =>
    so_aload_n E (i := 0) rfl dX4_number_51 h fun σ lv st h =>
    so_get E (pp := 10) (fi := 1) (C := RX4) (T := TX4) (N := 6) (ref := "WheelDesk$Wheel") ⟨rfl, rfl, rfl⟩ rfl fi_X4_number_X4 (by decide) rfl (List.mem_of_getElem? (i := 2) rfl) dX4_number_52 h fun σ lv st h =>
    so_iret T dX4_number_55 h
set_option maxRecDepth 20000 in
theorem sb_X4_number_56 {J : Nat → q_K} {l : Launch} {Qp : Option q_V → q_M → Prop} (E : q_E J cX4_number RX4 wsX4_number 2 l rm_X4_number) (T : q_T J cX4_number (some .int) Qp) : ∀ (σ : q_M) (lv : q_L) (st : q_S), k_X4_number_56 Qp J σ lv st → J 56 σ lv st := fun σ lv st h =>
    so_aload_n E (i := 0) rfl dX4_number_56 h fun σ lv st h =>
    so_get E (pp := 10) (fi := 2) (C := RX4) (T := TX4) (N := 6) (ref := "WheelDesk$Wheel") ⟨rfl, rfl, rfl⟩ rfl fi_X4_number_X4 (by decide) rfl (List.mem_of_getElem? (i := 3) rfl) dX4_number_57 h fun σ lv st h =>
    so_iret T dX4_number_60 h
set_option maxRecDepth 20000 in
theorem sb_X4_number_61 {J : Nat → q_K} {l : Launch} {Qp : Option q_V → q_M → Prop} (E : q_E J cX4_number RX4 wsX4_number 2 l rm_X4_number) (T : q_T J cX4_number (some .int) Qp) : ∀ (σ : q_M) (lv : q_L) (st : q_S), k_X4_number_61 Qp J σ lv st → J 61 σ lv st := fun σ lv st h =>
    so_aload_n E (i := 0) rfl dX4_number_61 h fun σ lv st h =>
    so_get E (pp := 10) (fi := 3) (C := RX4) (T := TX4) (N := 6) (ref := "WheelDesk$Wheel") ⟨rfl, rfl, rfl⟩ rfl fi_X4_number_X4 (by decide) rfl (List.mem_of_getElem? (i := 4) rfl) dX4_number_62 h fun σ lv st h =>
    so_iret T dX4_number_65 h
set_option maxRecDepth 20000 in
theorem sb_X4_number_78 {J : Nat → q_K} {l : Launch} {Qp : Option q_V → q_M → Prop} (E : q_E J cX4_number RX4 wsX4_number 2 l rm_X4_number) (T : q_T J cX4_number (some .int) Qp) : ∀ (σ : q_M) (lv : q_L) (st : q_S), k_X4_number_78 Qp J σ lv st → J 78 σ lv st := fun σ lv st h =>
    so_iret T dX4_number_78 h
set_option maxRecDepth 20000 in
theorem sb_X4_number_77 {J : Nat → q_K} {l : Launch} {Qp : Option q_V → q_M → Prop} (E : q_E J cX4_number RX4 wsX4_number 2 l rm_X4_number) (T : q_T J cX4_number (some .int) Qp) : ∀ (σ : q_M) (lv : q_L) (st : q_S), k_X4_number_77 Qp J σ lv st → J 77 σ lv st := fun σ lv st h =>
    so_iconst E (x := 0) dX4_number_77 h fun σ lv st h =>
    (sb_X4_number_78 E T) σ lv st h
set_option maxRecDepth 20000 in
theorem sb_X4_number_66 {J : Nat → q_K} {l : Launch} {Qp : Option q_V → q_M → Prop} (E : q_E J cX4_number RX4 wsX4_number 2 l rm_X4_number) (T : q_T J cX4_number (some .int) Qp) : ∀ (σ : q_M) (lv : q_L) (st : q_S), k_X4_number_66 Qp J σ lv st → J 66 σ lv st := fun σ lv st h =>
    so_aload_n E (i := 0) rfl dX4_number_66 h fun σ lv st h =>
    so_get E (pp := 10) (fi := 4) (C := RX4) (T := TX4) (N := 6) (ref := "WheelDesk$Wheel") ⟨rfl, rfl, rfl⟩ rfl fi_X4_number_X4 (by decide) rfl (List.mem_of_getElem? (i := 5) rfl) dX4_number_67 h fun σ lv st h =>
    so_ifeq E 77 (by decide) dX4_number_70 (sb_X4_number_77 E T) h fun σ lv st h =>
    so_iconst E (x := 1) dX4_number_73 h fun σ lv st h =>
    so_goto E 78 (by decide) dX4_number_74 (sb_X4_number_78 E T) h
set_option maxRecDepth 20000 in
theorem sb_X4_number_79 {J : Nat → q_K} {l : Launch} {Qp : Option q_V → q_M → Prop} (E : q_E J cX4_number RX4 wsX4_number 2 l rm_X4_number) (T : q_T J cX4_number (some .int) Qp) : ∀ (σ : q_M) (lv : q_L) (st : q_S), k_X4_number_79 Qp J σ lv st → J 79 σ lv st := fun σ lv st h =>
    so_aload_n E (i := 0) rfl dX4_number_79 h fun σ lv st h =>
    so_get E (pp := 10) (fi := 5) (C := RX4) (T := TX4) (N := 6) (ref := "WheelDesk$Wheel") ⟨rfl, rfl, rfl⟩ rfl fi_X4_number_X4 (by decide) rfl (List.mem_of_getElem? (i := 6) rfl) dX4_number_80 h fun σ lv st h =>
    so_iret T dX4_number_83 h
set_option maxRecDepth 20000 in
theorem sb_X4_number_0 {J : Nat → q_K} {l : Launch} {Qp : Option q_V → q_M → Prop} (E : q_E J cX4_number RX4 wsX4_number 2 l rm_X4_number) (T : q_T J cX4_number (some .int) Qp) : ∀ (σ : q_M) (lv : q_L) (st : q_S), k_X4_number_0 Qp J σ lv st → J 0 σ lv st := fun σ lv st h =>
    so_iload_n E (i := 1) rfl dX4_number_0 h fun σ lv st h =>
    so_tsw E (Ks := [k_X4_number_44 Qp J, k_X4_number_44 Qp J, k_X4_number_44 Qp J, k_X4_number_51 Qp J, k_X4_number_56 Qp J, k_X4_number_61 Qp J, k_X4_number_66 Qp J]) 79 [44, 44, 44, 51, 56, 61, 66] (by decide) (by decide) (fun i t h9 => by
    have hi : i < 7 := (List.getElem?_eq_some_iff.mp h9).1
    match i, hi with
    | 0, _ => cases h9; exact ⟨_, rfl, by decide⟩
    | 1, _ => cases h9; exact ⟨_, rfl, by decide⟩
    | 2, _ => cases h9; exact ⟨_, rfl, by decide⟩
    | 3, _ => cases h9; exact ⟨_, rfl, by decide⟩
    | 4, _ => cases h9; exact ⟨_, rfl, by decide⟩
    | 5, _ => cases h9; exact ⟨_, rfl, by decide⟩
    | 6, _ => cases h9; exact ⟨_, rfl, by decide⟩) dX4_number_1 (sb_X4_number_79 E T) (⟨(sb_X4_number_44 E T), ⟨(sb_X4_number_44 E T), ⟨(sb_X4_number_44 E T), ⟨(sb_X4_number_51 E T), ⟨(sb_X4_number_56 E T), ⟨(sb_X4_number_61 E T), ⟨(sb_X4_number_66 E T), trivial⟩⟩⟩⟩⟩⟩⟩) h
theorem c_X4_number : q_Ct yX4_number wsX4_number rm_X4_number S_X4_number := by
  refine q_met (cc := cX4_number) (maxL := 2) (ret := (some .int)) (own := RX4) (by decide +kernel) rfl rfl (fun σ vs Qp h => ?_) (fun l J σ vs Qp E T h => ?_)
  · unfold S_X4_number at h
    split at h
    · exact Nat.le_of_ble_eq_true rfl
    · exact h.elim
  · unfold S_X4_number at h
    split at h
    · next c p0 k w =>
      obtain ⟨rfl, h⟩ := h
      exact v_X4_number (so_C E) (sb_X4_number_0 E T) h
    · exact h.elim
theorem cc_X4_number : q_Ct yX4_number wsX4_number rm_X4_number S_X4_number := c_X4_number

def rm_X5_wheel : Room := { frames := 2, cells := 0, slots := 0, locals := 43 }
theorem fi_X5_wheel_X5 : ∀ w ∈ u_ws RX5 TX5 5, w ∈ wsX5_wheel := fun w h => List.mem_cons_of_mem _ (List.mem_append_left _ (List.mem_append_left _ (List.mem_append_right _ h)))
theorem fi_X5_wheel_X0 : ∀ w ∈ u_ws RX0 TX0 11, w ∈ wsX5_wheel := fun w h => List.mem_cons_of_mem _ (List.mem_append_left _ (List.mem_append_right _ h))
theorem fi_X5_wheel_X4 : ∀ w ∈ u_ws RX4 TX4 6, w ∈ wsX5_wheel := fun w h => List.mem_cons_of_mem _ (List.mem_append_right _ h)
set_option maxRecDepth 20000 in
theorem sb_X5_wheel_18 {J : Nat → q_K} {l : Launch} {Qp : Option q_V → q_M → Prop} (E : q_E J cX5_wheel RX5 wsX5_wheel 3 l rm_X5_wheel) (T : q_T J cX5_wheel (some .int) Qp) (h_X5_isWheel : q_Ct yX5_isWheel wsX5_isWheel rm_X5_isWheel S_X5_isWheel) (h_X5_isWithin : q_Ct yX5_isWithin wsX5_isWithin rm_X5_isWithin S_X5_isWithin) (h_X4_number : q_Ct yX4_number wsX4_number rm_X4_number S_X4_number) : ∀ (σ : q_M) (lv : q_L) (st : q_S), k_X5_wheel_18 Qp J σ lv st → J 18 σ lv st := fun σ lv st h =>
    so_ldc E (x := -2000001) (idx := 49) (v := -2000001) (List.mem_of_getElem? (i := 1) rfl) rfl dX5_wheel_18 h fun σ lv st h =>
    so_iret T dX5_wheel_20 h
set_option maxRecDepth 20000 in
theorem sb_X5_wheel_21 {J : Nat → q_K} {l : Launch} {Qp : Option q_V → q_M → Prop} (E : q_E J cX5_wheel RX5 wsX5_wheel 3 l rm_X5_wheel) (T : q_T J cX5_wheel (some .int) Qp) (h_X5_isWheel : q_Ct yX5_isWheel wsX5_isWheel rm_X5_isWheel S_X5_isWheel) (h_X5_isWithin : q_Ct yX5_isWithin wsX5_isWithin rm_X5_isWithin S_X5_isWithin) (h_X4_number : q_Ct yX4_number wsX4_number rm_X4_number S_X4_number) : ∀ (σ : q_M) (lv : q_L) (st : q_S), k_X5_wheel_21 Qp J σ lv st → J 21 σ lv st := fun σ lv st h =>
    so_aload_n E (i := 0) rfl dX5_wheel_21 h fun σ lv st h =>
    so_get E (pp := 23) (fi := 0) (C := RX5) (T := TX5) (N := 5) (ref := "WheelDesk") ⟨rfl, rfl, rfl⟩ rfl fi_X5_wheel_X5 (by decide) rfl (List.mem_of_getElem? (i := 2) rfl) dX5_wheel_22 h fun σ lv st h =>
    so_get E (pp := 0) (fi := 7) (C := RX0) (T := TX0) (N := 11) (ref := "WheelDesk$Craft") ⟨rfl, rfl, rfl⟩ rfl fi_X5_wheel_X0 (by decide) rfl (List.mem_of_getElem? (i := 3) rfl) dX5_wheel_25 h fun σ lv st h =>
    so_iload_n E (i := 1) rfl dX5_wheel_28 h fun σ lv st h =>
    so_aald E dX5_wheel_29 h fun σ lv st h =>
    so_iload_n E (i := 2) rfl dX5_wheel_30 h fun σ lv st h =>
    so_callV E (n := 1) (pp := 10) (C := RX4) (T := TX4) (N := 6) (idx := 83) (maxL := 2) (ret := (some .int)) h_X4_number ⟨rfl, rfl, rfl⟩ rfl gX5_wheel_X4_number rfl ⟨rfl, rfl⟩ (by decide +kernel) (by decide) dX5_wheel_31 h fun σ lv st h =>
    so_iret T dX5_wheel_34 h
set_option maxRecDepth 20000 in
theorem sb_X5_wheel_0 {J : Nat → q_K} {l : Launch} {Qp : Option q_V → q_M → Prop} (E : q_E J cX5_wheel RX5 wsX5_wheel 3 l rm_X5_wheel) (T : q_T J cX5_wheel (some .int) Qp) (h_X5_isWheel : q_Ct yX5_isWheel wsX5_isWheel rm_X5_isWheel S_X5_isWheel) (h_X5_isWithin : q_Ct yX5_isWithin wsX5_isWithin rm_X5_isWithin S_X5_isWithin) (h_X4_number : q_Ct yX4_number wsX4_number rm_X4_number S_X4_number) : ∀ (σ : q_M) (lv : q_L) (st : q_S), k_X5_wheel_0 Qp J σ lv st → J 0 σ lv st := fun σ lv st h =>
    so_aload_n E (i := 0) rfl dX5_wheel_0 h fun σ lv st h =>
    so_iload_n E (i := 1) rfl dX5_wheel_1 h fun σ lv st h =>
    so_callV E (n := 1) (pp := 23) (C := RX5) (T := TX5) (N := 5) (idx := 69) (maxL := 2) (ret := (some .boolean)) h_X5_isWheel ⟨rfl, rfl, rfl⟩ rfl gX5_wheel_X5_isWheel rfl ⟨rfl, rfl⟩ (by decide +kernel) (by decide) dX5_wheel_2 h fun σ lv st h =>
    so_ifeq E 18 (by decide) dX5_wheel_5 (sb_X5_wheel_18 E T h_X5_isWheel h_X5_isWithin h_X4_number) h fun σ lv st h =>
    so_iload_n E (i := 2) rfl dX5_wheel_8 h fun σ lv st h =>
    so_iconst E (x := 0) dX5_wheel_9 h fun σ lv st h =>
    so_bipush E (x := 7) rfl dX5_wheel_10 h fun σ lv st h =>
    so_callT E (n := 3) (idx := 45) (maxL := 3) (ret := (some .boolean)) h_X5_isWithin gX5_wheel_X5_isWithin rfl ⟨rfl, rfl⟩ (by decide +kernel) (by decide) dX5_wheel_12 h fun σ lv st h =>
    so_ifne E 21 (by decide) dX5_wheel_15 (sb_X5_wheel_21 E T h_X5_isWheel h_X5_isWithin h_X4_number) h fun σ lv st h =>
    (sb_X5_wheel_18 E T h_X5_isWheel h_X5_isWithin h_X4_number) σ lv st h
theorem c_X5_wheel (h_X5_isWheel : q_Ct yX5_isWheel wsX5_isWheel rm_X5_isWheel S_X5_isWheel) (h_X5_isWithin : q_Ct yX5_isWithin wsX5_isWithin rm_X5_isWithin S_X5_isWithin) (h_X4_number : q_Ct yX4_number wsX4_number rm_X4_number S_X4_number) : q_Ct yX5_wheel wsX5_wheel rm_X5_wheel S_X5_wheel := by
  refine q_met (cc := cX5_wheel) (maxL := 3) (ret := (some .int)) (own := RX5) (by decide +kernel) rfl rfl (fun σ vs Qp h => ?_) (fun l J σ vs Qp E T h => ?_)
  · unfold S_X5_wheel at h
    split at h
    · exact Nat.le_of_ble_eq_true rfl
    · exact h.elim
  · unfold S_X5_wheel at h
    split at h
    · next c0 p0 k0 k w =>
      obtain ⟨rfl, rfl, rfl, h⟩ := h
      exact v_X5_wheel (so_C E) (sb_X5_wheel_0 E T h_X5_isWheel h_X5_isWithin h_X4_number) h
    · exact h.elim
theorem cc_X5_wheel : q_Ct yX5_wheel wsX5_wheel rm_X5_wheel S_X5_wheel := c_X5_wheel cc_X5_isWheel cc_X5_isWithin cc_X4_number

def rm_X5_wheels : Room := { frames := 0, cells := 0, slots := 0, locals := 0 }
theorem fi_X5_wheels_X5 : ∀ w ∈ u_ws RX5 TX5 5, w ∈ wsX5_wheels := fun w h => List.mem_cons_of_mem _ (List.mem_append_left _ (List.mem_append_right _ h))
theorem fi_X5_wheels_X0 : ∀ w ∈ u_ws RX0 TX0 11, w ∈ wsX5_wheels := fun w h => List.mem_cons_of_mem _ (List.mem_append_right _ h)
set_option maxRecDepth 20000 in
theorem sb_X5_wheels_0 {J : Nat → q_K} {l : Launch} {Qp : Option q_V → q_M → Prop} (E : q_E J cX5_wheels RX5 wsX5_wheels 1 l rm_X5_wheels) (T : q_T J cX5_wheels (some .int) Qp) : ∀ (σ : q_M) (lv : q_L) (st : q_S), k_X5_wheels_0 Qp J σ lv st → J 0 σ lv st := fun σ lv st h =>
    so_aload_n E (i := 0) rfl dX5_wheels_0 h fun σ lv st h =>
    so_get E (pp := 23) (fi := 0) (C := RX5) (T := TX5) (N := 5) (ref := "WheelDesk") ⟨rfl, rfl, rfl⟩ rfl fi_X5_wheels_X5 (by decide) rfl (List.mem_of_getElem? (i := 1) rfl) dX5_wheels_1 h fun σ lv st h =>
    so_get E (pp := 0) (fi := 8) (C := RX0) (T := TX0) (N := 11) (ref := "WheelDesk$Craft") ⟨rfl, rfl, rfl⟩ rfl fi_X5_wheels_X0 (by decide) rfl (List.mem_of_getElem? (i := 2) rfl) dX5_wheels_4 h fun σ lv st h =>
    so_iret T dX5_wheels_7 h
theorem c_X5_wheels : q_Ct yX5_wheels wsX5_wheels rm_X5_wheels S_X5_wheels := by
  refine q_met (cc := cX5_wheels) (maxL := 1) (ret := (some .int)) (own := RX5) (by decide +kernel) rfl rfl (fun σ vs Qp h => ?_) (fun l J σ vs Qp E T h => ?_)
  · unfold S_X5_wheels at h
    split at h
    · exact Nat.le_of_ble_eq_true rfl
    · exact h.elim
  · unfold S_X5_wheels at h
    split at h
    · next c0 p0 k0 =>
      obtain ⟨rfl, rfl, rfl, h⟩ := h
      exact v_X5_wheels (so_C E) (sb_X5_wheels_0 E T) h
    · exact h.elim
theorem cc_X5_wheels : q_Ct yX5_wheels wsX5_wheels rm_X5_wheels S_X5_wheels := c_X5_wheels

def rm_X5_isAxis : Room := { frames := 1, cells := 0, slots := 0, locals := 22 }
set_option maxRecDepth 20000 in
theorem sb_X5_isAxis_0 {J : Nat → q_K} {l : Launch} {Qp : Option q_V → q_M → Prop} (E : q_E J cX5_isAxis RX5 wsX5_isAxis 1 l rm_X5_isAxis) (T : q_T J cX5_isAxis (some .boolean) Qp) (h_X5_isWithin : q_Ct yX5_isWithin wsX5_isWithin rm_X5_isWithin S_X5_isWithin) : ∀ (σ : q_M) (lv : q_L) (st : q_S), k_X5_isAxis_0 Qp J σ lv st → J 0 σ lv st := fun σ lv st h =>
    so_iload_n E (i := 0) rfl dX5_isAxis_0 h fun σ lv st h =>
    so_iconst E (x := 0) dX5_isAxis_1 h fun σ lv st h =>
    so_iconst E (x := 2) dX5_isAxis_2 h fun σ lv st h =>
    so_callT E (n := 3) (idx := 45) (maxL := 3) (ret := (some .boolean)) h_X5_isWithin gX5_isAxis_X5_isWithin rfl ⟨rfl, rfl⟩ (by decide +kernel) (by decide) dX5_isAxis_3 h fun σ lv st h =>
    so_zret T dX5_isAxis_6 h
theorem c_X5_isAxis (h_X5_isWithin : q_Ct yX5_isWithin wsX5_isWithin rm_X5_isWithin S_X5_isWithin) : q_Ct yX5_isAxis wsX5_isAxis rm_X5_isAxis S_X5_isAxis := by
  refine q_met (cc := cX5_isAxis) (maxL := 1) (ret := (some .boolean)) (own := RX5) (by decide +kernel) rfl rfl (fun σ vs Qp h => ?_) (fun l J σ vs Qp E T h => ?_)
  · unfold S_X5_isAxis at h
    split at h
    · exact Nat.le_of_ble_eq_true rfl
    · exact h.elim
  · unfold S_X5_isAxis at h
    split at h
    · next v =>
      exact v_X5_isAxis (so_C E) (sb_X5_isAxis_0 E T h_X5_isWithin) h
    · exact h.elim
theorem cc_X5_isAxis : q_Ct yX5_isAxis wsX5_isAxis rm_X5_isAxis S_X5_isAxis := c_X5_isAxis cc_X5_isWithin

def rm_X5_setAxis : Room := { frames := 4, cells := 0, slots := 0, locals := 104 }
theorem fi_X5_setAxis_X5 : ∀ w ∈ u_ws RX5 TX5 5, w ∈ wsX5_setAxis := fun w h => List.mem_cons_of_mem _ (List.mem_append_left _ (List.mem_append_left _ (List.mem_append_left _ (List.mem_append_right _ h))))
theorem fi_X5_setAxis_X0 : ∀ w ∈ u_ws RX0 TX0 11, w ∈ wsX5_setAxis := fun w h => List.mem_cons_of_mem _ (List.mem_append_left _ (List.mem_append_left _ (List.mem_append_right _ h)))
theorem fi_X5_setAxis_X1 : ∀ w ∈ u_ws RX1 TX1 2, w ∈ wsX5_setAxis := fun w h => List.mem_cons_of_mem _ (List.mem_append_left _ (List.mem_append_right _ h))
theorem fi_X5_setAxis_X4 : ∀ w ∈ u_ws RX4 TX4 6, w ∈ wsX5_setAxis := fun w h => List.mem_cons_of_mem _ (List.mem_append_right _ h)
set_option maxRecDepth 20000 in
theorem sb_X5_setAxis_33 {J : Nat → q_K} {l : Launch} {Qp : Option q_V → q_M → Prop} (E : q_E J cX5_setAxis RX5 wsX5_setAxis 5 l rm_X5_setAxis) (T : q_T J cX5_setAxis (some .int) Qp) (h_X5_isAxis : q_Ct yX5_isAxis wsX5_isAxis rm_X5_isAxis S_X5_isAxis) (h_X5_isWithin : q_Ct yX5_isWithin wsX5_isWithin rm_X5_isWithin S_X5_isWithin) (h_X1_keep : q_Ct yX1_keep wsX1_keep rm_X1_keep S_X1_keep) : ∀ (σ : q_M) (lv : q_L) (st : q_S), k_X5_setAxis_33 Qp J σ lv st → J 33 σ lv st := fun σ lv st h =>
    so_ldc E (x := -2000001) (idx := 49) (v := -2000001) (List.mem_of_getElem? (i := 3) rfl) rfl dX5_setAxis_33 h fun σ lv st h =>
    so_iret T dX5_setAxis_35 h
set_option maxRecDepth 20000 in
theorem sb_X5_setAxis_36 {J : Nat → q_K} {l : Launch} {Qp : Option q_V → q_M → Prop} (E : q_E J cX5_setAxis RX5 wsX5_setAxis 5 l rm_X5_setAxis) (T : q_T J cX5_setAxis (some .int) Qp) (h_X5_isAxis : q_Ct yX5_isAxis wsX5_isAxis rm_X5_isAxis S_X5_isAxis) (h_X5_isWithin : q_Ct yX5_isWithin wsX5_isWithin rm_X5_isWithin S_X5_isWithin) (h_X1_keep : q_Ct yX1_keep wsX1_keep rm_X1_keep S_X1_keep) : ∀ (σ : q_M) (lv : q_L) (st : q_S), k_X5_setAxis_36 Qp J σ lv st → J 36 σ lv st := fun σ lv st h =>
    so_aload_n E (i := 0) rfl dX5_setAxis_36 h fun σ lv st h =>
    so_get E (pp := 23) (fi := 4) (C := RX5) (T := TX5) (N := 5) (ref := "WheelDesk") ⟨rfl, rfl, rfl⟩ rfl fi_X5_setAxis_X5 (by decide) rfl (List.mem_of_getElem? (i := 4) rfl) dX5_setAxis_37 h fun σ lv st h =>
    so_aload_n E (i := 0) rfl dX5_setAxis_40 h fun σ lv st h =>
    so_get E (pp := 23) (fi := 0) (C := RX5) (T := TX5) (N := 5) (ref := "WheelDesk") ⟨rfl, rfl, rfl⟩ rfl fi_X5_setAxis_X5 (by decide) rfl (List.mem_of_getElem? (i := 5) rfl) dX5_setAxis_41 h fun σ lv st h =>
    so_callV E (n := 1) (pp := 21) (C := RX1) (T := TX1) (N := 2) (idx := 55) (maxL := 2) (ret := none) h_X1_keep ⟨rfl, rfl, rfl⟩ rfl gX5_setAxis_X1_keep rfl ⟨rfl, rfl⟩ (by decide +kernel) (by decide) dX5_setAxis_44 h fun σ lv st h =>
    so_aload_n E (i := 0) rfl dX5_setAxis_47 h fun σ lv st h =>
    so_get E (pp := 23) (fi := 0) (C := RX5) (T := TX5) (N := 5) (ref := "WheelDesk") ⟨rfl, rfl, rfl⟩ rfl fi_X5_setAxis_X5 (by decide) rfl (List.mem_of_getElem? (i := 5) rfl) dX5_setAxis_48 h fun σ lv st h =>
    so_get E (pp := 0) (fi := 2) (C := RX0) (T := TX0) (N := 11) (ref := "WheelDesk$Craft") ⟨rfl, rfl, rfl⟩ rfl fi_X5_setAxis_X0 (by decide) rfl (List.mem_of_getElem? (i := 6) rfl) dX5_setAxis_51 h fun σ lv st h =>
    so_iload_n E (i := 2) rfl dX5_setAxis_54 h fun σ lv st h =>
    so_aald E dX5_setAxis_55 h fun σ lv st h =>
    so_iload_n E (i := 1) rfl dX5_setAxis_56 h fun σ lv st h =>
    so_iald E dX5_setAxis_57 h fun σ lv st h =>
    so_istore E (i := 4) (by decide) dX5_setAxis_58 h fun σ lv st h =>
    so_aload_n E (i := 0) rfl dX5_setAxis_60 h fun σ lv st h =>
    so_get E (pp := 23) (fi := 0) (C := RX5) (T := TX5) (N := 5) (ref := "WheelDesk") ⟨rfl, rfl, rfl⟩ rfl fi_X5_setAxis_X5 (by decide) rfl (List.mem_of_getElem? (i := 5) rfl) dX5_setAxis_61 h fun σ lv st h =>
    so_get E (pp := 0) (fi := 2) (C := RX0) (T := TX0) (N := 11) (ref := "WheelDesk$Craft") ⟨rfl, rfl, rfl⟩ rfl fi_X5_setAxis_X0 (by decide) rfl (List.mem_of_getElem? (i := 6) rfl) dX5_setAxis_64 h fun σ lv st h =>
    so_iload_n E (i := 2) rfl dX5_setAxis_67 h fun σ lv st h =>
    so_aald E dX5_setAxis_68 h fun σ lv st h =>
    so_iload_n E (i := 1) rfl dX5_setAxis_69 h fun σ lv st h =>
    so_iload_n E (i := 3) rfl dX5_setAxis_70 h fun σ lv st h =>
    so_iast E dX5_setAxis_71 h fun σ lv st h =>
    so_iload E (i := 4) dX5_setAxis_72 h fun σ lv st h =>
    so_iret T dX5_setAxis_74 h
set_option maxRecDepth 20000 in
theorem sb_X5_setAxis_0 {J : Nat → q_K} {l : Launch} {Qp : Option q_V → q_M → Prop} (E : q_E J cX5_setAxis RX5 wsX5_setAxis 5 l rm_X5_setAxis) (T : q_T J cX5_setAxis (some .int) Qp) (h_X5_isAxis : q_Ct yX5_isAxis wsX5_isAxis rm_X5_isAxis S_X5_isAxis) (h_X5_isWithin : q_Ct yX5_isWithin wsX5_isWithin rm_X5_isWithin S_X5_isWithin) (h_X1_keep : q_Ct yX1_keep wsX1_keep rm_X1_keep S_X1_keep) : ∀ (σ : q_M) (lv : q_L) (st : q_S), k_X5_setAxis_0 Qp J σ lv st → J 0 σ lv st := fun σ lv st h =>
    so_iload_n E (i := 1) rfl dX5_setAxis_0 h fun σ lv st h =>
    so_callT E (n := 1) (idx := 87) (maxL := 1) (ret := (some .boolean)) h_X5_isAxis gX5_setAxis_X5_isAxis rfl ⟨rfl, rfl⟩ (by decide +kernel) (by decide) dX5_setAxis_1 h fun σ lv st h =>
    so_ifeq E 33 (by decide) dX5_setAxis_4 (sb_X5_setAxis_33 E T h_X5_isAxis h_X5_isWithin h_X1_keep) h fun σ lv st h =>
    so_iload_n E (i := 2) rfl dX5_setAxis_7 h fun σ lv st h =>
    so_iconst E (x := 0) dX5_setAxis_8 h fun σ lv st h =>
    so_iconst E (x := 3) dX5_setAxis_9 h fun σ lv st h =>
    so_callT E (n := 3) (idx := 45) (maxL := 3) (ret := (some .boolean)) h_X5_isWithin gX5_setAxis_X5_isWithin rfl ⟨rfl, rfl⟩ (by decide +kernel) (by decide) dX5_setAxis_10 h fun σ lv st h =>
    so_ifeq E 33 (by decide) dX5_setAxis_13 (sb_X5_setAxis_33 E T h_X5_isAxis h_X5_isWithin h_X1_keep) h fun σ lv st h =>
    so_iload_n E (i := 3) rfl dX5_setAxis_16 h fun σ lv st h =>
    so_gets E (p := 34) (idx := 90) (by decide) (List.mem_of_getElem? (i := 1) rfl) dX5_setAxis_17 h fun σ lv st h =>
    so_iload_n E (i := 2) rfl dX5_setAxis_20 h fun σ lv st h =>
    so_sald E dX5_setAxis_21 h fun σ lv st h =>
    so_gets E (p := 35) (idx := 94) (by decide) (List.mem_of_getElem? (i := 2) rfl) dX5_setAxis_22 h fun σ lv st h =>
    so_iload_n E (i := 2) rfl dX5_setAxis_25 h fun σ lv st h =>
    so_sald E dX5_setAxis_26 h fun σ lv st h =>
    so_callT E (n := 3) (idx := 45) (maxL := 3) (ret := (some .boolean)) h_X5_isWithin gX5_setAxis_X5_isWithin rfl ⟨rfl, rfl⟩ (by decide +kernel) (by decide) dX5_setAxis_27 h fun σ lv st h =>
    so_ifne E 36 (by decide) dX5_setAxis_30 (sb_X5_setAxis_36 E T h_X5_isAxis h_X5_isWithin h_X1_keep) h fun σ lv st h =>
    (sb_X5_setAxis_33 E T h_X5_isAxis h_X5_isWithin h_X1_keep) σ lv st h
theorem c_X5_setAxis (h_X5_isAxis : q_Ct yX5_isAxis wsX5_isAxis rm_X5_isAxis S_X5_isAxis) (h_X5_isWithin : q_Ct yX5_isWithin wsX5_isWithin rm_X5_isWithin S_X5_isWithin) (h_X1_keep : q_Ct yX1_keep wsX1_keep rm_X1_keep S_X1_keep) : q_Ct yX5_setAxis wsX5_setAxis rm_X5_setAxis S_X5_setAxis := by
  refine q_met (cc := cX5_setAxis) (maxL := 5) (ret := (some .int)) (own := RX5) (by decide +kernel) rfl rfl (fun σ vs Qp h => ?_) (fun l J σ vs Qp E T h => ?_)
  · unfold S_X5_setAxis at h
    split at h
    · exact Nat.le_of_ble_eq_true rfl
    · exact h.elim
  · unfold S_X5_setAxis at h
    split at h
    · next c0 p0 k0 a w v =>
      obtain ⟨rfl, rfl, rfl, h⟩ := h
      exact v_X5_setAxis (so_C E) (sb_X5_setAxis_0 E T h_X5_isAxis h_X5_isWithin h_X1_keep) h
    · exact h.elim
theorem cc_X5_setAxis : q_Ct yX5_setAxis wsX5_setAxis rm_X5_setAxis S_X5_setAxis := c_X5_setAxis cc_X5_isAxis cc_X5_isWithin cc_X1_keep

def rm_X5_set : Room := { frames := 4, cells := 0, slots := 0, locals := 104 }
theorem fi_X5_set_X5 : ∀ w ∈ u_ws RX5 TX5 5, w ∈ wsX5_set := fun w h => List.mem_cons_of_mem _ (List.mem_append_left _ (List.mem_append_left _ (List.mem_append_left _ (List.mem_append_right _ h))))
theorem fi_X5_set_X0 : ∀ w ∈ u_ws RX0 TX0 11, w ∈ wsX5_set := fun w h => List.mem_cons_of_mem _ (List.mem_append_left _ (List.mem_append_left _ (List.mem_append_right _ h)))
theorem fi_X5_set_X1 : ∀ w ∈ u_ws RX1 TX1 2, w ∈ wsX5_set := fun w h => List.mem_cons_of_mem _ (List.mem_append_left _ (List.mem_append_right _ h))
theorem fi_X5_set_X4 : ∀ w ∈ u_ws RX4 TX4 6, w ∈ wsX5_set := fun w h => List.mem_cons_of_mem _ (List.mem_append_right _ h)
set_option maxRecDepth 20000 in
theorem sb_X5_set_26 {J : Nat → q_K} {l : Launch} {Qp : Option q_V → q_M → Prop} (E : q_E J cX5_set RX5 wsX5_set 4 l rm_X5_set) (T : q_T J cX5_set (some .int) Qp) (h_X5_isWithin : q_Ct yX5_isWithin wsX5_isWithin rm_X5_isWithin S_X5_isWithin) (h_X1_keep : q_Ct yX1_keep wsX1_keep rm_X1_keep S_X1_keep) : ∀ (σ : q_M) (lv : q_L) (st : q_S), k_X5_set_26 Qp J σ lv st → J 26 σ lv st := fun σ lv st h =>
    so_ldc E (x := -2000001) (idx := 49) (v := -2000001) (List.mem_of_getElem? (i := 3) rfl) rfl dX5_set_26 h fun σ lv st h =>
    so_iret T dX5_set_28 h
set_option maxRecDepth 20000 in
theorem sb_X5_set_29 {J : Nat → q_K} {l : Launch} {Qp : Option q_V → q_M → Prop} (E : q_E J cX5_set RX5 wsX5_set 4 l rm_X5_set) (T : q_T J cX5_set (some .int) Qp) (h_X5_isWithin : q_Ct yX5_isWithin wsX5_isWithin rm_X5_isWithin S_X5_isWithin) (h_X1_keep : q_Ct yX1_keep wsX1_keep rm_X1_keep S_X1_keep) : ∀ (σ : q_M) (lv : q_L) (st : q_S), k_X5_set_29 Qp J σ lv st → J 29 σ lv st := fun σ lv st h =>
    so_aload_n E (i := 0) rfl dX5_set_29 h fun σ lv st h =>
    so_get E (pp := 23) (fi := 4) (C := RX5) (T := TX5) (N := 5) (ref := "WheelDesk") ⟨rfl, rfl, rfl⟩ rfl fi_X5_set_X5 (by decide) rfl (List.mem_of_getElem? (i := 4) rfl) dX5_set_30 h fun σ lv st h =>
    so_aload_n E (i := 0) rfl dX5_set_33 h fun σ lv st h =>
    so_get E (pp := 23) (fi := 0) (C := RX5) (T := TX5) (N := 5) (ref := "WheelDesk") ⟨rfl, rfl, rfl⟩ rfl fi_X5_set_X5 (by decide) rfl (List.mem_of_getElem? (i := 5) rfl) dX5_set_34 h fun σ lv st h =>
    so_callV E (n := 1) (pp := 21) (C := RX1) (T := TX1) (N := 2) (idx := 55) (maxL := 2) (ret := none) h_X1_keep ⟨rfl, rfl, rfl⟩ rfl gX5_set_X1_keep rfl ⟨rfl, rfl⟩ (by decide +kernel) (by decide) dX5_set_37 h fun σ lv st h =>
    so_aload_n E (i := 0) rfl dX5_set_40 h fun σ lv st h =>
    so_get E (pp := 23) (fi := 0) (C := RX5) (T := TX5) (N := 5) (ref := "WheelDesk") ⟨rfl, rfl, rfl⟩ rfl fi_X5_set_X5 (by decide) rfl (List.mem_of_getElem? (i := 5) rfl) dX5_set_41 h fun σ lv st h =>
    so_get E (pp := 0) (fi := 1) (C := RX0) (T := TX0) (N := 11) (ref := "WheelDesk$Craft") ⟨rfl, rfl, rfl⟩ rfl fi_X5_set_X0 (by decide) rfl (List.mem_of_getElem? (i := 6) rfl) dX5_set_44 h fun σ lv st h =>
    so_iload_n E (i := 1) rfl dX5_set_47 h fun σ lv st h =>
    so_iald E dX5_set_48 h fun σ lv st h =>
    so_istore_n E (i := 3) rfl (by decide) dX5_set_49 h fun σ lv st h =>
    so_aload_n E (i := 0) rfl dX5_set_50 h fun σ lv st h =>
    so_get E (pp := 23) (fi := 0) (C := RX5) (T := TX5) (N := 5) (ref := "WheelDesk") ⟨rfl, rfl, rfl⟩ rfl fi_X5_set_X5 (by decide) rfl (List.mem_of_getElem? (i := 5) rfl) dX5_set_51 h fun σ lv st h =>
    so_get E (pp := 0) (fi := 1) (C := RX0) (T := TX0) (N := 11) (ref := "WheelDesk$Craft") ⟨rfl, rfl, rfl⟩ rfl fi_X5_set_X0 (by decide) rfl (List.mem_of_getElem? (i := 6) rfl) dX5_set_54 h fun σ lv st h =>
    so_iload_n E (i := 1) rfl dX5_set_57 h fun σ lv st h =>
    so_iload_n E (i := 2) rfl dX5_set_58 h fun σ lv st h =>
    so_iast E dX5_set_59 h fun σ lv st h =>
    so_iload_n E (i := 3) rfl dX5_set_60 h fun σ lv st h =>
    so_iret T dX5_set_61 h
set_option maxRecDepth 20000 in
theorem sb_X5_set_0 {J : Nat → q_K} {l : Launch} {Qp : Option q_V → q_M → Prop} (E : q_E J cX5_set RX5 wsX5_set 4 l rm_X5_set) (T : q_T J cX5_set (some .int) Qp) (h_X5_isWithin : q_Ct yX5_isWithin wsX5_isWithin rm_X5_isWithin S_X5_isWithin) (h_X1_keep : q_Ct yX1_keep wsX1_keep rm_X1_keep S_X1_keep) : ∀ (σ : q_M) (lv : q_L) (st : q_S), k_X5_set_0 Qp J σ lv st → J 0 σ lv st := fun σ lv st h =>
    so_iload_n E (i := 1) rfl dX5_set_0 h fun σ lv st h =>
    so_iconst E (x := 0) dX5_set_1 h fun σ lv st h =>
    so_iconst E (x := 4) dX5_set_2 h fun σ lv st h =>
    so_callT E (n := 3) (idx := 45) (maxL := 3) (ret := (some .boolean)) h_X5_isWithin gX5_set_X5_isWithin rfl ⟨rfl, rfl⟩ (by decide +kernel) (by decide) dX5_set_3 h fun σ lv st h =>
    so_ifeq E 26 (by decide) dX5_set_6 (sb_X5_set_26 E T h_X5_isWithin h_X1_keep) h fun σ lv st h =>
    so_iload_n E (i := 2) rfl dX5_set_9 h fun σ lv st h =>
    so_gets E (p := 36) (idx := 101) (by decide) (List.mem_of_getElem? (i := 1) rfl) dX5_set_10 h fun σ lv st h =>
    so_iload_n E (i := 1) rfl dX5_set_13 h fun σ lv st h =>
    so_sald E dX5_set_14 h fun σ lv st h =>
    so_gets E (p := 37) (idx := 104) (by decide) (List.mem_of_getElem? (i := 2) rfl) dX5_set_15 h fun σ lv st h =>
    so_iload_n E (i := 1) rfl dX5_set_18 h fun σ lv st h =>
    so_sald E dX5_set_19 h fun σ lv st h =>
    so_callT E (n := 3) (idx := 45) (maxL := 3) (ret := (some .boolean)) h_X5_isWithin gX5_set_X5_isWithin rfl ⟨rfl, rfl⟩ (by decide +kernel) (by decide) dX5_set_20 h fun σ lv st h =>
    so_ifne E 29 (by decide) dX5_set_23 (sb_X5_set_29 E T h_X5_isWithin h_X1_keep) h fun σ lv st h =>
    (sb_X5_set_26 E T h_X5_isWithin h_X1_keep) σ lv st h
theorem c_X5_set (h_X5_isWithin : q_Ct yX5_isWithin wsX5_isWithin rm_X5_isWithin S_X5_isWithin) (h_X1_keep : q_Ct yX1_keep wsX1_keep rm_X1_keep S_X1_keep) : q_Ct yX5_set wsX5_set rm_X5_set S_X5_set := by
  refine q_met (cc := cX5_set) (maxL := 4) (ret := (some .int)) (own := RX5) (by decide +kernel) rfl rfl (fun σ vs Qp h => ?_) (fun l J σ vs Qp E T h => ?_)
  · unfold S_X5_set at h
    split at h
    · exact Nat.le_of_ble_eq_true rfl
    · exact h.elim
  · unfold S_X5_set at h
    split at h
    · next c0 p0 k0 w v =>
      obtain ⟨rfl, rfl, rfl, h⟩ := h
      exact v_X5_set (so_C E) (sb_X5_set_0 E T h_X5_isWithin h_X1_keep) h
    · exact h.elim
theorem cc_X5_set : q_Ct yX5_set wsX5_set rm_X5_set S_X5_set := c_X5_set cc_X5_isWithin cc_X1_keep

def rm_X5_setting : Room := { frames := 1, cells := 0, slots := 0, locals := 22 }
theorem fi_X5_setting_X5 : ∀ w ∈ u_ws RX5 TX5 5, w ∈ wsX5_setting := fun w h => List.mem_cons_of_mem _ (List.mem_append_left _ (List.mem_append_right _ h))
theorem fi_X5_setting_X0 : ∀ w ∈ u_ws RX0 TX0 11, w ∈ wsX5_setting := fun w h => List.mem_cons_of_mem _ (List.mem_append_right _ h)
set_option maxRecDepth 20000 in
theorem sb_X5_setting_23 {J : Nat → q_K} {l : Launch} {Qp : Option q_V → q_M → Prop} (E : q_E J cX5_setting RX5 wsX5_setting 2 l rm_X5_setting) (T : q_T J cX5_setting (some .int) Qp) (h_X5_isWithin : q_Ct yX5_isWithin wsX5_isWithin rm_X5_isWithin S_X5_isWithin) : ∀ (σ : q_M) (lv : q_L) (st : q_S), k_X5_setting_23 Qp J σ lv st → J 23 σ lv st := fun σ lv st h =>
    so_iret T dX5_setting_23 h
set_option maxRecDepth 20000 in
theorem sb_X5_setting_21 {J : Nat → q_K} {l : Launch} {Qp : Option q_V → q_M → Prop} (E : q_E J cX5_setting RX5 wsX5_setting 2 l rm_X5_setting) (T : q_T J cX5_setting (some .int) Qp) (h_X5_isWithin : q_Ct yX5_isWithin wsX5_isWithin rm_X5_isWithin S_X5_isWithin) : ∀ (σ : q_M) (lv : q_L) (st : q_S), k_X5_setting_21 Qp J σ lv st → J 21 σ lv st := fun σ lv st h =>
    so_ldc E (x := -2000001) (idx := 49) (v := -2000001) (List.mem_of_getElem? (i := 3) rfl) rfl dX5_setting_21 h fun σ lv st h =>
    (sb_X5_setting_23 E T h_X5_isWithin) σ lv st h
set_option maxRecDepth 20000 in
theorem sb_X5_setting_0 {J : Nat → q_K} {l : Launch} {Qp : Option q_V → q_M → Prop} (E : q_E J cX5_setting RX5 wsX5_setting 2 l rm_X5_setting) (T : q_T J cX5_setting (some .int) Qp) (h_X5_isWithin : q_Ct yX5_isWithin wsX5_isWithin rm_X5_isWithin S_X5_isWithin) : ∀ (σ : q_M) (lv : q_L) (st : q_S), k_X5_setting_0 Qp J σ lv st → J 0 σ lv st := fun σ lv st h =>
    so_iload_n E (i := 1) rfl dX5_setting_0 h fun σ lv st h =>
    so_iconst E (x := 0) dX5_setting_1 h fun σ lv st h =>
    so_iconst E (x := 4) dX5_setting_2 h fun σ lv st h =>
    so_callT E (n := 3) (idx := 45) (maxL := 3) (ret := (some .boolean)) h_X5_isWithin gX5_setting_X5_isWithin rfl ⟨rfl, rfl⟩ (by decide +kernel) (by decide) dX5_setting_3 h fun σ lv st h =>
    so_ifeq E 21 (by decide) dX5_setting_6 (sb_X5_setting_21 E T h_X5_isWithin) h fun σ lv st h =>
    so_aload_n E (i := 0) rfl dX5_setting_9 h fun σ lv st h =>
    so_get E (pp := 23) (fi := 0) (C := RX5) (T := TX5) (N := 5) (ref := "WheelDesk") ⟨rfl, rfl, rfl⟩ rfl fi_X5_setting_X5 (by decide) rfl (List.mem_of_getElem? (i := 1) rfl) dX5_setting_10 h fun σ lv st h =>
    so_get E (pp := 0) (fi := 1) (C := RX0) (T := TX0) (N := 11) (ref := "WheelDesk$Craft") ⟨rfl, rfl, rfl⟩ rfl fi_X5_setting_X0 (by decide) rfl (List.mem_of_getElem? (i := 2) rfl) dX5_setting_13 h fun σ lv st h =>
    so_iload_n E (i := 1) rfl dX5_setting_16 h fun σ lv st h =>
    so_iald E dX5_setting_17 h fun σ lv st h =>
    so_goto E 23 (by decide) dX5_setting_18 (sb_X5_setting_23 E T h_X5_isWithin) h
theorem c_X5_setting (h_X5_isWithin : q_Ct yX5_isWithin wsX5_isWithin rm_X5_isWithin S_X5_isWithin) : q_Ct yX5_setting wsX5_setting rm_X5_setting S_X5_setting := by
  refine q_met (cc := cX5_setting) (maxL := 2) (ret := (some .int)) (own := RX5) (by decide +kernel) rfl rfl (fun σ vs Qp h => ?_) (fun l J σ vs Qp E T h => ?_)
  · unfold S_X5_setting at h
    split at h
    · exact Nat.le_of_ble_eq_true rfl
    · exact h.elim
  · unfold S_X5_setting at h
    split at h
    · next c0 p0 k0 w =>
      obtain ⟨rfl, rfl, rfl, h⟩ := h
      exact v_X5_setting (so_C E) (sb_X5_setting_0 E T h_X5_isWithin) h
    · exact h.elim
theorem cc_X5_setting : q_Ct yX5_setting wsX5_setting rm_X5_setting S_X5_setting := c_X5_setting cc_X5_isWithin

def rm_X0_pushFromOutside : Room := { frames := 0, cells := 0, slots := 0, locals := 0 }
theorem fi_X0_pushFromOutside_X0 : ∀ w ∈ u_ws RX0 TX0 11, w ∈ wsX0_pushFromOutside := fun w h => List.mem_cons_of_mem _ (List.mem_append_right _ h)
set_option maxRecDepth 20000 in
theorem sb_X0_pushFromOutside_0 {J : Nat → q_K} {l : Launch} {Qp : Option q_V → q_M → Prop} (E : q_E J cX0_pushFromOutside RX0 wsX0_pushFromOutside 4 l rm_X0_pushFromOutside) (T : q_T J cX0_pushFromOutside none Qp) : ∀ (σ : q_M) (lv : q_L) (st : q_S), k_X0_pushFromOutside_0 Qp J σ lv st → J 0 σ lv st := fun σ lv st h =>
    so_aload_n E (i := 0) rfl dX0_pushFromOutside_0 h fun σ lv st h =>
    so_get E (pp := 0) (fi := 4) (C := RX0) (T := TX0) (N := 11) (ref := "WheelDesk$Craft") ⟨rfl, rfl, rfl⟩ rfl fi_X0_pushFromOutside_X0 (by decide) rfl (List.mem_of_getElem? (i := 1) rfl) dX0_pushFromOutside_1 h fun σ lv st h =>
    so_iload_n E (i := 1) rfl dX0_pushFromOutside_4 h fun σ lv st h =>
    so_dup2 E dX0_pushFromOutside_5 h fun σ lv st h =>
    so_lald E dX0_pushFromOutside_6 h fun σ lv st h =>
    so_lload_n E (i := 2) rfl dX0_pushFromOutside_7 h fun σ lv st h =>
    so_ladd E dX0_pushFromOutside_8 h fun σ lv st h =>
    so_last E dX0_pushFromOutside_9 h fun σ lv st h =>
    so_aload_n E (i := 0) rfl dX0_pushFromOutside_10 h fun σ lv st h =>
    so_get E (pp := 0) (fi := 5) (C := RX0) (T := TX0) (N := 11) (ref := "WheelDesk$Craft") ⟨rfl, rfl, rfl⟩ rfl fi_X0_pushFromOutside_X0 (by decide) rfl (List.mem_of_getElem? (i := 2) rfl) dX0_pushFromOutside_11 h fun σ lv st h =>
    so_iload_n E (i := 1) rfl dX0_pushFromOutside_14 h fun σ lv st h =>
    so_dup2 E dX0_pushFromOutside_15 h fun σ lv st h =>
    so_lald E dX0_pushFromOutside_16 h fun σ lv st h =>
    so_lload_n E (i := 2) rfl dX0_pushFromOutside_17 h fun σ lv st h =>
    so_ladd E dX0_pushFromOutside_18 h fun σ lv st h =>
    so_last E dX0_pushFromOutside_19 h fun σ lv st h =>
    so_vret T dX0_pushFromOutside_20 h
theorem c_X0_pushFromOutside : q_Ct yX0_pushFromOutside wsX0_pushFromOutside rm_X0_pushFromOutside S_X0_pushFromOutside := by
  refine q_met (cc := cX0_pushFromOutside) (maxL := 4) (ret := none) (own := RX0) (by decide +kernel) rfl rfl (fun σ vs Qp h => ?_) (fun l J σ vs Qp E T h => ?_)
  · unfold S_X0_pushFromOutside at h
    split at h
    · exact Nat.le_of_ble_eq_true rfl
    · exact h.elim
  · unfold S_X0_pushFromOutside at h
    split at h
    · next c p0 k0 i x =>
      obtain ⟨rfl, rfl, h⟩ := h
      exact v_X0_pushFromOutside (so_C E) (sb_X0_pushFromOutside_0 E T) h
    · exact h.elim
theorem cc_X0_pushFromOutside : q_Ct yX0_pushFromOutside wsX0_pushFromOutside rm_X0_pushFromOutside S_X0_pushFromOutside := c_X0_pushFromOutside

def rm_J9_floorDiv_f86c9 : Room := { frames := 0, cells := 0, slots := 0, locals := 0 }
set_option maxRecDepth 20000 in
theorem sb_J9_floorDiv_f86c9_27 {J : Nat → q_K} {l : Launch} {Qp : Option q_V → q_M → Prop} (E : q_E J cJ9_floorDiv_f86c9 RJ9 wsJ9_floorDiv_f86c9 6 l rm_J9_floorDiv_f86c9) (T : q_T J cJ9_floorDiv_f86c9 (some .long) Qp) : ∀ (σ : q_M) (lv : q_L) (st : q_S), k_J9_floorDiv_f86c9_27 Qp J σ lv st → J 27 σ lv st := fun σ lv st h =>
    so_lload E (i := 4) dJ9_floorDiv_f86c9_27 h fun σ lv st h =>
    so_lret T dJ9_floorDiv_f86c9_29 h
set_option maxRecDepth 20000 in
theorem sb_J9_floorDiv_f86c9_0 {J : Nat → q_K} {l : Launch} {Qp : Option q_V → q_M → Prop} (E : q_E J cJ9_floorDiv_f86c9 RJ9 wsJ9_floorDiv_f86c9 6 l rm_J9_floorDiv_f86c9) (T : q_T J cJ9_floorDiv_f86c9 (some .long) Qp) : ∀ (σ : q_M) (lv : q_L) (st : q_S), k_J9_floorDiv_f86c9_0 Qp J σ lv st → J 0 σ lv st := fun σ lv st h =>
    so_lload_n E (i := 0) rfl dJ9_floorDiv_f86c9_0 h fun σ lv st h =>
    so_lload_n E (i := 2) rfl dJ9_floorDiv_f86c9_1 h fun σ lv st h =>
    so_ldiv E dJ9_floorDiv_f86c9_2 h fun σ lv st h =>
    so_lstore E (i := 4) (by decide) dJ9_floorDiv_f86c9_3 h fun σ lv st h =>
    so_lload_n E (i := 0) rfl dJ9_floorDiv_f86c9_5 h fun σ lv st h =>
    so_lload_n E (i := 2) rfl dJ9_floorDiv_f86c9_6 h fun σ lv st h =>
    so_lxor E dJ9_floorDiv_f86c9_7 h fun σ lv st h =>
    so_lconst E (x := 0) rfl dJ9_floorDiv_f86c9_8 h fun σ lv st h =>
    so_lcmp E dJ9_floorDiv_f86c9_9 h fun σ lv st h =>
    so_ifge E 27 (by decide) dJ9_floorDiv_f86c9_10 (sb_J9_floorDiv_f86c9_27 E T) h fun σ lv st h =>
    so_lload E (i := 4) dJ9_floorDiv_f86c9_13 h fun σ lv st h =>
    so_lload_n E (i := 2) rfl dJ9_floorDiv_f86c9_15 h fun σ lv st h =>
    so_lmul E dJ9_floorDiv_f86c9_16 h fun σ lv st h =>
    so_lload_n E (i := 0) rfl dJ9_floorDiv_f86c9_17 h fun σ lv st h =>
    so_lcmp E dJ9_floorDiv_f86c9_18 h fun σ lv st h =>
    so_ifeq E 27 (by decide) dJ9_floorDiv_f86c9_19 (sb_J9_floorDiv_f86c9_27 E T) h fun σ lv st h =>
    so_lload E (i := 4) dJ9_floorDiv_f86c9_22 h fun σ lv st h =>
    so_lconst E (x := 1) rfl dJ9_floorDiv_f86c9_24 h fun σ lv st h =>
    so_lsub E dJ9_floorDiv_f86c9_25 h fun σ lv st h =>
    so_lret T dJ9_floorDiv_f86c9_26 h
theorem c_J9_floorDiv_f86c9 : q_Ct yJ9_floorDiv_f86c9 wsJ9_floorDiv_f86c9 rm_J9_floorDiv_f86c9 S_J9_floorDiv_f86c9 := by
  refine q_met (cc := cJ9_floorDiv_f86c9) (maxL := 6) (ret := (some .long)) (own := RJ9) (by decide +kernel) rfl rfl (fun σ vs Qp h => ?_) (fun l J σ vs Qp E T h => ?_)
  · unfold S_J9_floorDiv_f86c9 at h
    split at h
    · exact Nat.le_of_ble_eq_true rfl
    · exact h.elim
  · unfold S_J9_floorDiv_f86c9 at h
    split at h
    · next x y =>
      exact v_J9_floorDiv_f86c9 (so_C E) (sb_J9_floorDiv_f86c9_0 E T) h
    · exact h.elim
theorem cc_J9_floorDiv_f86c9 : q_Ct yJ9_floorDiv_f86c9 wsJ9_floorDiv_f86c9 rm_J9_floorDiv_f86c9 S_J9_floorDiv_f86c9 := c_J9_floorDiv_f86c9

def rm_X5_quotient : Room := { frames := 1, cells := 0, slots := 0, locals := 25 }
set_option maxRecDepth 20000 in
theorem sb_X5_quotient_15 {J : Nat → q_K} {l : Launch} {Qp : Option q_V → q_M → Prop} (E : q_E J cX5_quotient RX5 wsX5_quotient 4 l rm_X5_quotient) (T : q_T J cX5_quotient (some .long) Qp) (h_J9_floorDiv_f86c9 : q_Ct yJ9_floorDiv_f86c9 wsJ9_floorDiv_f86c9 rm_J9_floorDiv_f86c9 S_J9_floorDiv_f86c9) : ∀ (σ : q_M) (lv : q_L) (st : q_S), k_X5_quotient_15 Qp J σ lv st → J 15 σ lv st := fun σ lv st h =>
    so_lret T dX5_quotient_15 h
set_option maxRecDepth 20000 in
theorem sb_X5_quotient_14 {J : Nat → q_K} {l : Launch} {Qp : Option q_V → q_M → Prop} (E : q_E J cX5_quotient RX5 wsX5_quotient 4 l rm_X5_quotient) (T : q_T J cX5_quotient (some .long) Qp) (h_J9_floorDiv_f86c9 : q_Ct yJ9_floorDiv_f86c9 wsJ9_floorDiv_f86c9 rm_J9_floorDiv_f86c9 S_J9_floorDiv_f86c9) : ∀ (σ : q_M) (lv : q_L) (st : q_S), k_X5_quotient_14 Qp J σ lv st → J 14 σ lv st := fun σ lv st h =>
    so_lconst E (x := 0) rfl dX5_quotient_14 h fun σ lv st h =>
    (sb_X5_quotient_15 E T h_J9_floorDiv_f86c9) σ lv st h
set_option maxRecDepth 20000 in
theorem sb_X5_quotient_0 {J : Nat → q_K} {l : Launch} {Qp : Option q_V → q_M → Prop} (E : q_E J cX5_quotient RX5 wsX5_quotient 4 l rm_X5_quotient) (T : q_T J cX5_quotient (some .long) Qp) (h_J9_floorDiv_f86c9 : q_Ct yJ9_floorDiv_f86c9 wsJ9_floorDiv_f86c9 rm_J9_floorDiv_f86c9 S_J9_floorDiv_f86c9) : ∀ (σ : q_M) (lv : q_L) (st : q_S), k_X5_quotient_0 Qp J σ lv st → J 0 σ lv st := fun σ lv st h =>
    so_lload_n E (i := 2) rfl dX5_quotient_0 h fun σ lv st h =>
    so_lconst E (x := 0) rfl dX5_quotient_1 h fun σ lv st h =>
    so_lcmp E dX5_quotient_2 h fun σ lv st h =>
    so_ifle E 14 (by decide) dX5_quotient_3 (sb_X5_quotient_14 E T h_J9_floorDiv_f86c9) h fun σ lv st h =>
    so_lload_n E (i := 0) rfl dX5_quotient_6 h fun σ lv st h =>
    so_lload_n E (i := 2) rfl dX5_quotient_7 h fun σ lv st h =>
    so_callT E (n := 2) (idx := 214) (maxL := 6) (ret := (some .long)) h_J9_floorDiv_f86c9 gX5_quotient_J9_floorDiv_f86c9 rfl ⟨rfl, rfl⟩ (by decide +kernel) (by decide) dX5_quotient_8 h fun σ lv st h =>
    so_goto E 15 (by decide) dX5_quotient_11 (sb_X5_quotient_15 E T h_J9_floorDiv_f86c9) h
theorem c_X5_quotient (h_J9_floorDiv_f86c9 : q_Ct yJ9_floorDiv_f86c9 wsJ9_floorDiv_f86c9 rm_J9_floorDiv_f86c9 S_J9_floorDiv_f86c9) : q_Ct yX5_quotient wsX5_quotient rm_X5_quotient S_X5_quotient := by
  refine q_met (cc := cX5_quotient) (maxL := 4) (ret := (some .long)) (own := RX5) (by decide +kernel) rfl rfl (fun σ vs Qp h => ?_) (fun l J σ vs Qp E T h => ?_)
  · unfold S_X5_quotient at h
    split at h
    · exact Nat.le_of_ble_eq_true rfl
    · exact h.elim
  · unfold S_X5_quotient at h
    split at h
    · next v d =>
      exact v_X5_quotient (so_C E) (sb_X5_quotient_0 E T h_J9_floorDiv_f86c9) h
    · exact h.elim
theorem cc_X5_quotient : q_Ct yX5_quotient wsX5_quotient rm_X5_quotient S_X5_quotient := c_X5_quotient cc_J9_floorDiv_f86c9

def rm_X0_rate : Room := { frames := 2, cells := 0, slots := 0, locals := 48 }
theorem fi_X0_rate_X0 : ∀ w ∈ u_ws RX0 TX0 11, w ∈ wsX0_rate := fun w h => List.mem_cons_of_mem _ (List.mem_append_right _ h)
set_option maxRecDepth 20000 in
theorem sb_X0_rate_0 {J : Nat → q_K} {l : Launch} {Qp : Option q_V → q_M → Prop} (E : q_E J cX0_rate RX0 wsX0_rate 2 l rm_X0_rate) (T : q_T J cX0_rate (some .long) Qp) (h_X5_quotient : q_Ct yX5_quotient wsX5_quotient rm_X5_quotient S_X5_quotient) : ∀ (σ : q_M) (lv : q_L) (st : q_S), k_X0_rate_0 Qp J σ lv st → J 0 σ lv st := fun σ lv st h =>
    so_aload_n E (i := 0) rfl dX0_rate_0 h fun σ lv st h =>
    so_get E (pp := 0) (fi := 4) (C := RX0) (T := TX0) (N := 11) (ref := "WheelDesk$Craft") ⟨rfl, rfl, rfl⟩ rfl fi_X0_rate_X0 (by decide) rfl (List.mem_of_getElem? (i := 1) rfl) dX0_rate_1 h fun σ lv st h =>
    so_iload_n E (i := 1) rfl dX0_rate_4 h fun σ lv st h =>
    so_lald E dX0_rate_5 h fun σ lv st h =>
    so_aload_n E (i := 0) rfl dX0_rate_6 h fun σ lv st h =>
    so_get E (pp := 0) (fi := 2) (C := RX0) (T := TX0) (N := 11) (ref := "WheelDesk$Craft") ⟨rfl, rfl, rfl⟩ rfl fi_X0_rate_X0 (by decide) rfl (List.mem_of_getElem? (i := 2) rfl) dX0_rate_7 h fun σ lv st h =>
    so_iconst E (x := 0) dX0_rate_10 h fun σ lv st h =>
    so_aald E dX0_rate_11 h fun σ lv st h =>
    so_iload_n E (i := 1) rfl dX0_rate_12 h fun σ lv st h =>
    so_iald E dX0_rate_13 h fun σ lv st h =>
    so_i2l E dX0_rate_14 h fun σ lv st h =>
    so_callN E (n := 2) (idx := 72) (maxL := 4) (ret := (some .long)) h_X5_quotient gX0_rate_X5_quotient_n72 rfl ⟨rfl, rfl⟩ (by decide +kernel) (List.mem_of_getElem? (i := 3) rfl) (List.mem_of_getElem? (i := 4) rfl) (by decide +kernel) (by decide) dX0_rate_15 h fun σ lv st h =>
    so_lret T dX0_rate_18 h
theorem c_X0_rate (h_X5_quotient : q_Ct yX5_quotient wsX5_quotient rm_X5_quotient S_X5_quotient) : q_Ct yX0_rate wsX0_rate rm_X0_rate S_X0_rate := by
  refine q_met (cc := cX0_rate) (maxL := 2) (ret := (some .long)) (own := RX0) (by decide +kernel) rfl rfl (fun σ vs Qp h => ?_) (fun l J σ vs Qp E T h => ?_)
  · unfold S_X0_rate at h
    split at h
    · exact Nat.le_of_ble_eq_true rfl
    · exact h.elim
  · unfold S_X0_rate at h
    split at h
    · next c p0 k0 i =>
      obtain ⟨rfl, rfl, h⟩ := h
      exact v_X0_rate (so_C E) (sb_X0_rate_0 E T h_X5_quotient) h
    · exact h.elim
theorem cc_X0_rate : q_Ct yX0_rate wsX0_rate rm_X0_rate S_X0_rate := c_X0_rate cc_X5_quotient

def rm_X5_strike : Room := { frames := 4, cells := 0, slots := 0, locals := 104 }
theorem fi_X5_strike_X5 : ∀ w ∈ u_ws RX5 TX5 5, w ∈ wsX5_strike := fun w h => List.mem_cons_of_mem _ (List.mem_append_left _ (List.mem_append_left _ (List.mem_append_left _ (List.mem_append_right _ h))))
theorem fi_X5_strike_X1 : ∀ w ∈ u_ws RX1 TX1 2, w ∈ wsX5_strike := fun w h => List.mem_cons_of_mem _ (List.mem_append_left _ (List.mem_append_left _ (List.mem_append_right _ h)))
theorem fi_X5_strike_X0 : ∀ w ∈ u_ws RX0 TX0 11, w ∈ wsX5_strike := fun w h => List.mem_cons_of_mem _ (List.mem_append_left _ (List.mem_append_right _ h))
theorem fi_X5_strike_X4 : ∀ w ∈ u_ws RX4 TX4 6, w ∈ wsX5_strike := fun w h => List.mem_cons_of_mem _ (List.mem_append_right _ h)
set_option maxRecDepth 20000 in
theorem sb_X5_strike_18 {J : Nat → q_K} {l : Launch} {Qp : Option q_V → q_M → Prop} (E : q_E J cX5_strike RX5 wsX5_strike 3 l rm_X5_strike) (T : q_T J cX5_strike (some .long) Qp) (h_X5_isAxis : q_Ct yX5_isAxis wsX5_isAxis rm_X5_isAxis S_X5_isAxis) (h_X5_isWithin : q_Ct yX5_isWithin wsX5_isWithin rm_X5_isWithin S_X5_isWithin) (h_X1_keep : q_Ct yX1_keep wsX1_keep rm_X1_keep S_X1_keep) (h_X0_pushFromOutside : q_Ct yX0_pushFromOutside wsX0_pushFromOutside rm_X0_pushFromOutside S_X0_pushFromOutside) (h_X0_rate : q_Ct yX0_rate wsX0_rate rm_X0_rate S_X0_rate) : ∀ (σ : q_M) (lv : q_L) (st : q_S), k_X5_strike_18 Qp J σ lv st → J 18 σ lv st := fun σ lv st h =>
    so_ldc2 E (x := -4611686018427387905) (idx := 111) (v := -4611686018427387905) (List.mem_of_getElem? (i := 3) rfl) rfl dX5_strike_18 h fun σ lv st h =>
    so_lret T dX5_strike_21 h
set_option maxRecDepth 20000 in
theorem sb_X5_strike_22 {J : Nat → q_K} {l : Launch} {Qp : Option q_V → q_M → Prop} (E : q_E J cX5_strike RX5 wsX5_strike 3 l rm_X5_strike) (T : q_T J cX5_strike (some .long) Qp) (h_X5_isAxis : q_Ct yX5_isAxis wsX5_isAxis rm_X5_isAxis S_X5_isAxis) (h_X5_isWithin : q_Ct yX5_isWithin wsX5_isWithin rm_X5_isWithin S_X5_isWithin) (h_X1_keep : q_Ct yX1_keep wsX1_keep rm_X1_keep S_X1_keep) (h_X0_pushFromOutside : q_Ct yX0_pushFromOutside wsX0_pushFromOutside rm_X0_pushFromOutside S_X0_pushFromOutside) (h_X0_rate : q_Ct yX0_rate wsX0_rate rm_X0_rate S_X0_rate) : ∀ (σ : q_M) (lv : q_L) (st : q_S), k_X5_strike_22 Qp J σ lv st → J 22 σ lv st := fun σ lv st h =>
    so_aload_n E (i := 0) rfl dX5_strike_22 h fun σ lv st h =>
    so_get E (pp := 23) (fi := 4) (C := RX5) (T := TX5) (N := 5) (ref := "WheelDesk") ⟨rfl, rfl, rfl⟩ rfl fi_X5_strike_X5 (by decide) rfl (List.mem_of_getElem? (i := 4) rfl) dX5_strike_23 h fun σ lv st h =>
    so_aload_n E (i := 0) rfl dX5_strike_26 h fun σ lv st h =>
    so_get E (pp := 23) (fi := 0) (C := RX5) (T := TX5) (N := 5) (ref := "WheelDesk") ⟨rfl, rfl, rfl⟩ rfl fi_X5_strike_X5 (by decide) rfl (List.mem_of_getElem? (i := 5) rfl) dX5_strike_27 h fun σ lv st h =>
    so_callV E (n := 1) (pp := 21) (C := RX1) (T := TX1) (N := 2) (idx := 55) (maxL := 2) (ret := none) h_X1_keep ⟨rfl, rfl, rfl⟩ rfl gX5_strike_X1_keep rfl ⟨rfl, rfl⟩ (by decide +kernel) (by decide) dX5_strike_30 h fun σ lv st h =>
    so_aload_n E (i := 0) rfl dX5_strike_33 h fun σ lv st h =>
    so_get E (pp := 23) (fi := 0) (C := RX5) (T := TX5) (N := 5) (ref := "WheelDesk") ⟨rfl, rfl, rfl⟩ rfl fi_X5_strike_X5 (by decide) rfl (List.mem_of_getElem? (i := 5) rfl) dX5_strike_34 h fun σ lv st h =>
    so_iload_n E (i := 1) rfl dX5_strike_37 h fun σ lv st h =>
    so_iload_n E (i := 2) rfl dX5_strike_38 h fun σ lv st h =>
    so_i2l E dX5_strike_39 h fun σ lv st h =>
    so_callV E (n := 2) (pp := 0) (C := RX0) (T := TX0) (N := 11) (idx := 113) (maxL := 4) (ret := none) h_X0_pushFromOutside ⟨rfl, rfl, rfl⟩ rfl gX5_strike_X0_pushFromOutside rfl ⟨rfl, rfl⟩ (by decide +kernel) (by decide) dX5_strike_40 h fun σ lv st h =>
    so_aload_n E (i := 0) rfl dX5_strike_43 h fun σ lv st h =>
    so_get E (pp := 23) (fi := 0) (C := RX5) (T := TX5) (N := 5) (ref := "WheelDesk") ⟨rfl, rfl, rfl⟩ rfl fi_X5_strike_X5 (by decide) rfl (List.mem_of_getElem? (i := 5) rfl) dX5_strike_44 h fun σ lv st h =>
    so_iload_n E (i := 1) rfl dX5_strike_47 h fun σ lv st h =>
    so_callV E (n := 1) (pp := 0) (C := RX0) (T := TX0) (N := 11) (idx := 117) (maxL := 2) (ret := (some .long)) h_X0_rate ⟨rfl, rfl, rfl⟩ rfl gX5_strike_X0_rate rfl ⟨rfl, rfl⟩ (by decide +kernel) (by decide) dX5_strike_48 h fun σ lv st h =>
    so_lret T dX5_strike_51 h
set_option maxRecDepth 20000 in
theorem sb_X5_strike_0 {J : Nat → q_K} {l : Launch} {Qp : Option q_V → q_M → Prop} (E : q_E J cX5_strike RX5 wsX5_strike 3 l rm_X5_strike) (T : q_T J cX5_strike (some .long) Qp) (h_X5_isAxis : q_Ct yX5_isAxis wsX5_isAxis rm_X5_isAxis S_X5_isAxis) (h_X5_isWithin : q_Ct yX5_isWithin wsX5_isWithin rm_X5_isWithin S_X5_isWithin) (h_X1_keep : q_Ct yX1_keep wsX1_keep rm_X1_keep S_X1_keep) (h_X0_pushFromOutside : q_Ct yX0_pushFromOutside wsX0_pushFromOutside rm_X0_pushFromOutside S_X0_pushFromOutside) (h_X0_rate : q_Ct yX0_rate wsX0_rate rm_X0_rate S_X0_rate) : ∀ (σ : q_M) (lv : q_L) (st : q_S), k_X5_strike_0 Qp J σ lv st → J 0 σ lv st := fun σ lv st h =>
    so_iload_n E (i := 1) rfl dX5_strike_0 h fun σ lv st h =>
    so_callT E (n := 1) (idx := 87) (maxL := 1) (ret := (some .boolean)) h_X5_isAxis gX5_strike_X5_isAxis rfl ⟨rfl, rfl⟩ (by decide +kernel) (by decide) dX5_strike_1 h fun σ lv st h =>
    so_ifeq E 18 (by decide) dX5_strike_4 (sb_X5_strike_18 E T h_X5_isAxis h_X5_isWithin h_X1_keep h_X0_pushFromOutside h_X0_rate) h fun σ lv st h =>
    so_iload_n E (i := 2) rfl dX5_strike_7 h fun σ lv st h =>
    so_ldc E (x := -100000) (idx := 110) (v := -100000) (List.mem_of_getElem? (i := 1) rfl) rfl dX5_strike_8 h fun σ lv st h =>
    so_ldc E (x := 100000) (idx := 48) (v := 100000) (List.mem_of_getElem? (i := 2) rfl) rfl dX5_strike_10 h fun σ lv st h =>
    so_callT E (n := 3) (idx := 45) (maxL := 3) (ret := (some .boolean)) h_X5_isWithin gX5_strike_X5_isWithin rfl ⟨rfl, rfl⟩ (by decide +kernel) (by decide) dX5_strike_12 h fun σ lv st h =>
    so_ifne E 22 (by decide) dX5_strike_15 (sb_X5_strike_22 E T h_X5_isAxis h_X5_isWithin h_X1_keep h_X0_pushFromOutside h_X0_rate) h fun σ lv st h =>
    (sb_X5_strike_18 E T h_X5_isAxis h_X5_isWithin h_X1_keep h_X0_pushFromOutside h_X0_rate) σ lv st h
theorem c_X5_strike (h_X5_isAxis : q_Ct yX5_isAxis wsX5_isAxis rm_X5_isAxis S_X5_isAxis) (h_X5_isWithin : q_Ct yX5_isWithin wsX5_isWithin rm_X5_isWithin S_X5_isWithin) (h_X1_keep : q_Ct yX1_keep wsX1_keep rm_X1_keep S_X1_keep) (h_X0_pushFromOutside : q_Ct yX0_pushFromOutside wsX0_pushFromOutside rm_X0_pushFromOutside S_X0_pushFromOutside) (h_X0_rate : q_Ct yX0_rate wsX0_rate rm_X0_rate S_X0_rate) : q_Ct yX5_strike wsX5_strike rm_X5_strike S_X5_strike := by
  refine q_met (cc := cX5_strike) (maxL := 3) (ret := (some .long)) (own := RX5) (by decide +kernel) rfl rfl (fun σ vs Qp h => ?_) (fun l J σ vs Qp E T h => ?_)
  · unfold S_X5_strike at h
    split at h
    · exact Nat.le_of_ble_eq_true rfl
    · exact h.elim
  · unfold S_X5_strike at h
    split at h
    · next c0 p0 k0 a x =>
      obtain ⟨rfl, rfl, rfl, h⟩ := h
      exact v_X5_strike (so_C E) (sb_X5_strike_0 E T h_X5_isAxis h_X5_isWithin h_X1_keep h_X0_pushFromOutside h_X0_rate) h
    · exact h.elim
theorem cc_X5_strike : q_Ct yX5_strike wsX5_strike rm_X5_strike S_X5_strike := c_X5_strike cc_X5_isAxis cc_X5_isWithin cc_X1_keep cc_X0_pushFromOutside cc_X0_rate

