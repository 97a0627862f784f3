def rm_X6_setting : Room := { frames := 1, cells := 0, slots := 0, locals := 22 }
theorem fi_X6_setting_X6 : ∀ w ∈ u_ws RX6 TX6 11, w ∈ wsX6_setting := fun w h => List.mem_cons_of_mem _ (List.mem_append_right _ h)
set_option maxRecDepth 20000 in
theorem sb_X6_setting_21 {J : Nat → q_K} {l : Launch} {Qp : Option q_V → q_M → Prop} (E : q_E J cX6_setting RX6 wsX6_setting 2 l rm_X6_setting) (T : q_T J cX6_setting (some .int) Qp) (h_X6_in : q_Ct yX6_in wsX6_in rm_X6_in S_X6_in) : ∀ (σ : q_M) (lv : q_L) (st : q_S), k_X6_setting_21 Qp J σ lv st → J 21 σ lv st := fun σ lv st h =>
    so_iret T dX6_setting_21 h
set_option maxRecDepth 20000 in
theorem sb_X6_setting_19 {J : Nat → q_K} {l : Launch} {Qp : Option q_V → q_M → Prop} (E : q_E J cX6_setting RX6 wsX6_setting 2 l rm_X6_setting) (T : q_T J cX6_setting (some .int) Qp) (h_X6_in : q_Ct yX6_in wsX6_in rm_X6_in S_X6_in) : ∀ (σ : q_M) (lv : q_L) (st : q_S), k_X6_setting_19 Qp J σ lv st → J 19 σ lv st := fun σ lv st h =>
    so_ldc E (x := -2000001) (idx := 80) (v := -2000001) (List.mem_of_getElem? (i := 2) rfl) rfl dX6_setting_19 h fun σ lv st h =>
    (sb_X6_setting_21 E T h_X6_in) σ lv st h
set_option maxRecDepth 20000 in
theorem sb_X6_setting_0 {J : Nat → q_K} {l : Launch} {Qp : Option q_V → q_M → Prop} (E : q_E J cX6_setting RX6 wsX6_setting 2 l rm_X6_setting) (T : q_T J cX6_setting (some .int) Qp) (h_X6_in : q_Ct yX6_in wsX6_in rm_X6_in S_X6_in) : ∀ (σ : q_M) (lv : q_L) (st : q_S), k_X6_setting_0 Qp J σ lv st → J 0 σ lv st := fun σ lv st h =>
    so_iload_n E (i := 1) rfl dX6_setting_0 h fun σ lv st h =>
    so_iconst E (x := 0) dX6_setting_1 h fun σ lv st h =>
    so_iconst E (x := 4) dX6_setting_2 h fun σ lv st h =>
    so_callT E (n := 3) (idx := 67) (maxL := 3) (ret := (some .boolean)) h_X6_in gX6_setting_X6_in rfl ⟨rfl, rfl⟩ (by decide +kernel) (by decide) dX6_setting_3 h fun σ lv st h =>
    so_ifeq E 19 (by decide) dX6_setting_6 (sb_X6_setting_19 E T h_X6_in) h fun σ lv st h =>
    so_aload_n E (i := 0) rfl dX6_setting_9 h fun σ lv st h =>
    so_get E (pp := 24) (fi := 0) (C := RX6) (T := TX6) (N := 11) (ref := "WheelDeskModel") ⟨rfl, rfl, rfl⟩ rfl fi_X6_setting_X6 (by decide) rfl (List.mem_of_getElem? (i := 1) rfl) dX6_setting_10 h fun σ lv st h =>
    so_iload_n E (i := 1) rfl dX6_setting_13 h fun σ lv st h =>
    so_lald E dX6_setting_14 h fun σ lv st h =>
    so_l2i E dX6_setting_15 h fun σ lv st h =>
    so_goto E 21 (by decide) dX6_setting_16 (sb_X6_setting_21 E T h_X6_in) h
theorem c_X6_setting (h_X6_in : q_Ct yX6_in wsX6_in rm_X6_in S_X6_in) : q_Ct yX6_setting wsX6_setting rm_X6_setting S_X6_setting := by
  refine q_met (cc := cX6_setting) (maxL := 2) (ret := (some .int)) (own := RX6) (by decide +kernel) rfl rfl (fun σ vs Qp h => ?_) (fun l J σ vs Qp E T h => ?_)
  · unfold S_X6_setting at h
    split at h
    · exact Nat.le_of_ble_eq_true rfl
    · exact h.elim
  · unfold S_X6_setting at h
    split at h
    · next c0 p0 k0 w =>
      obtain ⟨rfl, rfl, rfl, h⟩ := h
      exact v_X6_setting (so_C E) (sb_X6_setting_0 E T h_X6_in) h
    · exact h.elim
theorem cc_X6_setting : q_Ct yX6_setting wsX6_setting rm_X6_setting S_X6_setting := c_X6_setting cc_X6_in

def rm_X6_rate : Room := { frames := 1, cells := 0, slots := 0, locals := 25 }
theorem fi_X6_rate_X6 : ∀ w ∈ u_ws RX6 TX6 11, w ∈ wsX6_rate := fun w h => List.mem_cons_of_mem _ (List.mem_append_right _ h)
set_option maxRecDepth 20000 in
theorem sb_X6_rate_0 {J : Nat → q_K} {l : Launch} {Qp : Option q_V → q_M → Prop} (E : q_E J cX6_rate RX6 wsX6_rate 2 l rm_X6_rate) (T : q_T J cX6_rate (some .long) Qp) (h_X6_axisAt : q_Ct yX6_axisAt wsX6_axisAt rm_X6_axisAt S_X6_axisAt) (h_X6_div : q_Ct yX6_div wsX6_div rm_X6_div S_X6_div) : ∀ (σ : q_M) (lv : q_L) (st : q_S), k_X6_rate_0 Qp J σ lv st → J 0 σ lv st := fun σ lv st h =>
    so_aload_n E (i := 0) rfl dX6_rate_0 h fun σ lv st h =>
    so_get E (pp := 24) (fi := 0) (C := RX6) (T := TX6) (N := 11) (ref := "WheelDeskModel") ⟨rfl, rfl, rfl⟩ rfl fi_X6_rate_X6 (by decide) rfl (List.mem_of_getElem? (i := 1) rfl) dX6_rate_1 h fun σ lv st h =>
    so_iload_n E (i := 1) rfl dX6_rate_4 h fun σ lv st h =>
    so_iconst E (x := 1) dX6_rate_5 h fun σ lv st h =>
    so_callT E (n := 2) (idx := 45) (maxL := 2) (ret := (some .int)) h_X6_axisAt gX6_rate_X6_axisAt rfl ⟨rfl, rfl⟩ (by decide +kernel) (by decide) dX6_rate_6 h fun σ lv st h =>
    so_lald E dX6_rate_9 h fun σ lv st h =>
    so_aload_n E (i := 0) rfl dX6_rate_10 h fun σ lv st h =>
    so_get E (pp := 24) (fi := 0) (C := RX6) (T := TX6) (N := 11) (ref := "WheelDeskModel") ⟨rfl, rfl, rfl⟩ rfl fi_X6_rate_X6 (by decide) rfl (List.mem_of_getElem? (i := 1) rfl) dX6_rate_11 h fun σ lv st h =>
    so_iload_n E (i := 1) rfl dX6_rate_14 h fun σ lv st h =>
    so_iconst E (x := 2) dX6_rate_15 h fun σ lv st h =>
    so_callT E (n := 2) (idx := 45) (maxL := 2) (ret := (some .int)) h_X6_axisAt gX6_rate_X6_axisAt rfl ⟨rfl, rfl⟩ (by decide +kernel) (by decide) dX6_rate_16 h fun σ lv st h =>
    so_lald E dX6_rate_19 h fun σ lv st h =>
    so_callT E (n := 2) (idx := 63) (maxL := 6) (ret := (some .long)) h_X6_div gX6_rate_X6_div rfl ⟨rfl, rfl⟩ (by decide +kernel) (by decide) dX6_rate_20 h fun σ lv st h =>
    so_lret T dX6_rate_23 h
theorem c_X6_rate (h_X6_axisAt : q_Ct yX6_axisAt wsX6_axisAt rm_X6_axisAt S_X6_axisAt) (h_X6_div : q_Ct yX6_div wsX6_div rm_X6_div S_X6_div) : q_Ct yX6_rate wsX6_rate rm_X6_rate S_X6_rate := by
  refine q_met (cc := cX6_rate) (maxL := 2) (ret := (some .long)) (own := RX6) (by decide +kernel) rfl rfl (fun σ vs Qp h => ?_) (fun l J σ vs Qp E T h => ?_)
  · unfold S_X6_rate at h
    split at h
    · exact Nat.le_of_ble_eq_true rfl
    · exact h.elim
  · unfold S_X6_rate at h
    split at h
    · next c0 p0 k0 a =>
      obtain ⟨rfl, rfl, rfl, h⟩ := h
      exact v_X6_rate (so_C E) (sb_X6_rate_0 E T h_X6_axisAt h_X6_div) h
    · exact h.elim
theorem cc_X6_rate : q_Ct yX6_rate wsX6_rate rm_X6_rate S_X6_rate := c_X6_rate cc_X6_axisAt cc_X6_div

def rm_X6_pushes : Room := { frames := 1, cells := 0, slots := 0, locals := 21 }
theorem fi_X6_pushes_X6 : ∀ w ∈ u_ws RX6 TX6 11, w ∈ wsX6_pushes := fun w h => List.mem_cons_of_mem _ (List.mem_append_right _ h)
set_option maxRecDepth 20000 in
theorem sb_X6_pushes_0 {J : Nat → q_K} {l : Launch} {Qp : Option q_V → q_M → Prop} (E : q_E J cX6_pushes RX6 wsX6_pushes 4 l rm_X6_pushes) (T : q_T J cX6_pushes none Qp) (h_X6_axisAt : q_Ct yX6_axisAt wsX6_axisAt rm_X6_axisAt S_X6_axisAt) : ∀ (σ : q_M) (lv : q_L) (st : q_S), k_X6_pushes_0 Qp J σ lv st → J 0 σ lv st := fun σ lv st h =>
    so_aload_n E (i := 0) rfl dX6_pushes_0 h fun σ lv st h =>
    so_get E (pp := 24) (fi := 0) (C := RX6) (T := TX6) (N := 11) (ref := "WheelDeskModel") ⟨rfl, rfl, rfl⟩ rfl fi_X6_pushes_X6 (by decide) rfl (List.mem_of_getElem? (i := 1) rfl) dX6_pushes_1 h fun σ lv st h =>
    so_iload_n E (i := 1) rfl dX6_pushes_4 h fun σ lv st h =>
    so_iconst E (x := 1) dX6_pushes_5 h fun σ lv st h =>
    so_callT E (n := 2) (idx := 45) (maxL := 2) (ret := (some .int)) h_X6_axisAt gX6_pushes_X6_axisAt rfl ⟨rfl, rfl⟩ (by decide +kernel) (by decide) dX6_pushes_6 h fun σ lv st h =>
    so_dup2 E dX6_pushes_9 h fun σ lv st h =>
    so_lald E dX6_pushes_10 h fun σ lv st h =>
    so_lload_n E (i := 2) rfl dX6_pushes_11 h fun σ lv st h =>
    so_ladd E dX6_pushes_12 h fun σ lv st h =>
    so_last E dX6_pushes_13 h fun σ lv st h =>
    so_aload_n E (i := 0) rfl dX6_pushes_14 h fun σ lv st h =>
    so_get E (pp := 24) (fi := 0) (C := RX6) (T := TX6) (N := 11) (ref := "WheelDeskModel") ⟨rfl, rfl, rfl⟩ rfl fi_X6_pushes_X6 (by decide) rfl (List.mem_of_getElem? (i := 1) rfl) dX6_pushes_15 h fun σ lv st h =>
    so_iload_n E (i := 1) rfl dX6_pushes_18 h fun σ lv st h =>
    so_bipush E (x := 6) rfl dX6_pushes_19 h fun σ lv st h =>
    so_callT E (n := 2) (idx := 45) (maxL := 2) (ret := (some .int)) h_X6_axisAt gX6_pushes_X6_axisAt rfl ⟨rfl, rfl⟩ (by decide +kernel) (by decide) dX6_pushes_21 h fun σ lv st h =>
    so_dup2 E dX6_pushes_24 h fun σ lv st h =>
    so_lald E dX6_pushes_25 h fun σ lv st h =>
    so_lload_n E (i := 2) rfl dX6_pushes_26 h fun σ lv st h =>
    so_ladd E dX6_pushes_27 h fun σ lv st h =>
    so_last E dX6_pushes_28 h fun σ lv st h =>
    so_vret T dX6_pushes_29 h
theorem c_X6_pushes (h_X6_axisAt : q_Ct yX6_axisAt wsX6_axisAt rm_X6_axisAt S_X6_axisAt) : q_Ct yX6_pushes wsX6_pushes rm_X6_pushes S_X6_pushes := by
  refine q_met (cc := cX6_pushes) (maxL := 4) (ret := none) (own := RX6) (by decide +kernel) rfl rfl (fun σ vs Qp h => ?_) (fun l J σ vs Qp E T h => ?_)
  · unfold S_X6_pushes at h
    split at h
    · exact Nat.le_of_ble_eq_true rfl
    · exact h.elim
  · unfold S_X6_pushes at h
    split at h
    · next c0 p0 k0 a x =>
      obtain ⟨rfl, rfl, rfl, h⟩ := h
      exact v_X6_pushes (so_C E) (sb_X6_pushes_0 E T h_X6_axisAt) h
    · exact h.elim
theorem cc_X6_pushes : q_Ct yX6_pushes wsX6_pushes rm_X6_pushes S_X6_pushes := c_X6_pushes cc_X6_axisAt

def rm_X6_strike : Room := { frames := 2, cells := 0, slots := 0, locals := 46 }
theorem fi_X6_strike_X6 : ∀ w ∈ u_ws RX6 TX6 11, w ∈ wsX6_strike := fun w h => List.mem_cons_of_mem _ (List.mem_append_right _ h)
set_option maxRecDepth 20000 in
theorem sb_X6_strike_18 {J : Nat → q_K} {l : Launch} {Qp : Option q_V → q_M → Prop} (E : q_E J cX6_strike RX6 wsX6_strike 3 l rm_X6_strike) (T : q_T J cX6_strike (some .long) Qp) (h_X6_isAxis : q_Ct yX6_isAxis wsX6_isAxis rm_X6_isAxis S_X6_isAxis) (h_X6_in : q_Ct yX6_in wsX6_in rm_X6_in S_X6_in) (h_X6_act : q_Ct yX6_act wsX6_act rm_X6_act S_X6_act) (h_X6_pushes : q_Ct yX6_pushes wsX6_pushes rm_X6_pushes S_X6_pushes) (h_X6_rate : q_Ct yX6_rate wsX6_rate rm_X6_rate S_X6_rate) : ∀ (σ : q_M) (lv : q_L) (st : q_S), k_X6_strike_18 Qp J σ lv st → J 18 σ lv st := fun σ lv st h =>
    so_ldc2 E (x := -4611686018427387905) (idx := 98) (v := -4611686018427387905) (List.mem_of_getElem? (i := 3) rfl) rfl dX6_strike_18 h fun σ lv st h =>
    so_lret T dX6_strike_21 h
set_option maxRecDepth 20000 in
theorem sb_X6_strike_22 {J : Nat → q_K} {l : Launch} {Qp : Option q_V → q_M → Prop} (E : q_E J cX6_strike RX6 wsX6_strike 3 l rm_X6_strike) (T : q_T J cX6_strike (some .long) Qp) (h_X6_isAxis : q_Ct yX6_isAxis wsX6_isAxis rm_X6_isAxis S_X6_isAxis) (h_X6_in : q_Ct yX6_in wsX6_in rm_X6_in S_X6_in) (h_X6_act : q_Ct yX6_act wsX6_act rm_X6_act S_X6_act) (h_X6_pushes : q_Ct yX6_pushes wsX6_pushes rm_X6_pushes S_X6_pushes) (h_X6_rate : q_Ct yX6_rate wsX6_rate rm_X6_rate S_X6_rate) : ∀ (σ : q_M) (lv : q_L) (st : q_S), k_X6_strike_22 Qp J σ lv st → J 22 σ lv st := fun σ lv st h =>
    so_aload_n E (i := 0) rfl dX6_strike_22 h fun σ lv st h =>
    so_callV E (n := 0) (pp := 24) (C := RX6) (T := TX6) (N := 11) (idx := 84) (maxL := 2) (ret := none) h_X6_act ⟨rfl, rfl, rfl⟩ rfl gX6_strike_X6_act rfl ⟨rfl, rfl⟩ (by decide +kernel) (by decide) dX6_strike_23 h fun σ lv st h =>
    so_aload_n E (i := 0) rfl dX6_strike_26 h fun σ lv st h =>
    so_iload_n E (i := 1) rfl dX6_strike_27 h fun σ lv st h =>
    so_iload_n E (i := 2) rfl dX6_strike_28 h fun σ lv st h =>
    so_i2l E dX6_strike_29 h fun σ lv st h =>
    so_callV E (n := 2) (pp := 24) (C := RX6) (T := TX6) (N := 11) (idx := 100) (maxL := 4) (ret := none) h_X6_pushes ⟨rfl, rfl, rfl⟩ rfl gX6_strike_X6_pushes rfl ⟨rfl, rfl⟩ (by decide +kernel) (by decide) dX6_strike_30 h fun σ lv st h =>
    so_aload_n E (i := 0) rfl dX6_strike_33 h fun σ lv st h =>
    so_iload_n E (i := 1) rfl dX6_strike_34 h fun σ lv st h =>
    so_callV E (n := 1) (pp := 24) (C := RX6) (T := TX6) (N := 11) (idx := 104) (maxL := 2) (ret := (some .long)) h_X6_rate ⟨rfl, rfl, rfl⟩ rfl gX6_strike_X6_rate rfl ⟨rfl, rfl⟩ (by decide +kernel) (by decide) dX6_strike_35 h fun σ lv st h =>
    so_lret T dX6_strike_38 h
set_option maxRecDepth 20000 in
theorem sb_X6_strike_0 {J : Nat → q_K} {l : Launch} {Qp : Option q_V → q_M → Prop} (E : q_E J cX6_strike RX6 wsX6_strike 3 l rm_X6_strike) (T : q_T J cX6_strike (some .long) Qp) (h_X6_isAxis : q_Ct yX6_isAxis wsX6_isAxis rm_X6_isAxis S_X6_isAxis) (h_X6_in : q_Ct yX6_in wsX6_in rm_X6_in S_X6_in) (h_X6_act : q_Ct yX6_act wsX6_act rm_X6_act S_X6_act) (h_X6_pushes : q_Ct yX6_pushes wsX6_pushes rm_X6_pushes S_X6_pushes) (h_X6_rate : q_Ct yX6_rate wsX6_rate rm_X6_rate S_X6_rate) : ∀ (σ : q_M) (lv : q_L) (st : q_S), k_X6_strike_0 Qp J σ lv st → J 0 σ lv st := fun σ lv st h =>
    so_iload_n E (i := 1) rfl dX6_strike_0 h fun σ lv st h =>
    so_callT E (n := 1) (idx := 94) (maxL := 1) (ret := (some .boolean)) h_X6_isAxis gX6_strike_X6_isAxis rfl ⟨rfl, rfl⟩ (by decide +kernel) (by decide) dX6_strike_1 h fun σ lv st h =>
    so_ifeq E 18 (by decide) dX6_strike_4 (sb_X6_strike_18 E T h_X6_isAxis h_X6_in h_X6_act h_X6_pushes h_X6_rate) h fun σ lv st h =>
    so_iload_n E (i := 2) rfl dX6_strike_7 h fun σ lv st h =>
    so_ldc E (x := -100000) (idx := 97) (v := -100000) (List.mem_of_getElem? (i := 1) rfl) rfl dX6_strike_8 h fun σ lv st h =>
    so_ldc E (x := 100000) (idx := 79) (v := 100000) (List.mem_of_getElem? (i := 2) rfl) rfl dX6_strike_10 h fun σ lv st h =>
    so_callT E (n := 3) (idx := 67) (maxL := 3) (ret := (some .boolean)) h_X6_in gX6_strike_X6_in rfl ⟨rfl, rfl⟩ (by decide +kernel) (by decide) dX6_strike_12 h fun σ lv st h =>
    so_ifne E 22 (by decide) dX6_strike_15 (sb_X6_strike_22 E T h_X6_isAxis h_X6_in h_X6_act h_X6_pushes h_X6_rate) h fun σ lv st h =>
    (sb_X6_strike_18 E T h_X6_isAxis h_X6_in h_X6_act h_X6_pushes h_X6_rate) σ lv st h
theorem c_X6_strike (h_X6_isAxis : q_Ct yX6_isAxis wsX6_isAxis rm_X6_isAxis S_X6_isAxis) (h_X6_in : q_Ct yX6_in wsX6_in rm_X6_in S_X6_in) (h_X6_act : q_Ct yX6_act wsX6_act rm_X6_act S_X6_act) (h_X6_pushes : q_Ct yX6_pushes wsX6_pushes rm_X6_pushes S_X6_pushes) (h_X6_rate : q_Ct yX6_rate wsX6_rate rm_X6_rate S_X6_rate) : q_Ct yX6_strike wsX6_strike rm_X6_strike S_X6_strike := by
  refine q_met (cc := cX6_strike) (maxL := 3) (ret := (some .long)) (own := RX6) (by decide +kernel) rfl rfl (fun σ vs Qp h => ?_) (fun l J σ vs Qp E T h => ?_)
  · unfold S_X6_strike at h
    split at h
    · exact Nat.le_of_ble_eq_true rfl
    · exact h.elim
  · unfold S_X6_strike at h
    split at h
    · next c0 p0 k0 a x =>
      obtain ⟨rfl, rfl, rfl, h⟩ := h
      exact v_X6_strike (so_C E) (sb_X6_strike_0 E T h_X6_isAxis h_X6_in h_X6_act h_X6_pushes h_X6_rate) h
    · exact h.elim
theorem cc_X6_strike : q_Ct yX6_strike wsX6_strike rm_X6_strike S_X6_strike := c_X6_strike cc_X6_isAxis cc_X6_in cc_X6_act cc_X6_pushes cc_X6_rate

def rm_X6_other : Room := { frames := 0, cells := 0, slots := 0, locals := 0 }
set_option maxRecDepth 20000 in
theorem sb_X6_other_0 {J : Nat → q_K} {l : Launch} {Qp : Option q_V → q_M → Prop} (E : q_E J cX6_other RX6 wsX6_other 2 l rm_X6_other) (T : q_T J cX6_other (some .int) Qp) : ∀ (σ : q_M) (lv : q_L) (st : q_S), k_X6_other_0 Qp J σ lv st → J 0 σ lv st := fun σ lv st h =>
    so_iload_n E (i := 0) rfl dX6_other_0 h fun σ lv st h =>
    so_iload_n E (i := 1) rfl dX6_other_1 h fun σ lv st h =>
    so_iadd E dX6_other_2 h fun σ lv st h =>
    so_iconst E (x := 3) dX6_other_3 h fun σ lv st h =>
    so_irem E dX6_other_4 h fun σ lv st h =>
    so_iret T dX6_other_5 h
theorem c_X6_other : q_Ct yX6_other wsX6_other rm_X6_other S_X6_other := by
  refine q_met (cc := cX6_other) (maxL := 2) (ret := (some .int)) (own := RX6) (by decide +kernel) rfl rfl (fun σ vs Qp h => ?_) (fun l J σ vs Qp E T h => ?_)
  · unfold S_X6_other at h
    split at h
    · exact Nat.le_of_ble_eq_true rfl
    · exact h.elim
  · unfold S_X6_other at h
    split at h
    · next a s =>
      exact v_X6_other (so_C E) (sb_X6_other_0 E T) h
    · exact h.elim
theorem cc_X6_other : q_Ct yX6_other wsX6_other rm_X6_other S_X6_other := c_X6_other

def rm_X6_spans : Room := { frames := 2, cells := 0, slots := 0, locals := 42 }
theorem fi_X6_spans_X6 : ∀ w ∈ u_ws RX6 TX6 11, w ∈ wsX6_spans := fun w h => List.mem_cons_of_mem _ (List.mem_append_right _ h)
set_option maxRecDepth 20000 in
theorem sb_X6_spans_0 {J : Nat → q_K} {l : Launch} {Qp : Option q_V → q_M → Prop} (E : q_E J cX6_spans RX6 wsX6_spans 6 l rm_X6_spans) (T : q_T J cX6_spans none Qp) (h_X6_works : q_Ct yX6_works wsX6_works rm_X6_works S_X6_works) (h_X6_wheelAt : q_Ct yX6_wheelAt wsX6_wheelAt rm_X6_wheelAt S_X6_wheelAt) (h_X6_other : q_Ct yX6_other wsX6_other rm_X6_other S_X6_other) : ∀ (σ : q_M) (lv : q_L) (st : q_S), k_X6_spans_0 Qp J σ lv st → J 0 σ lv st := fun σ lv st h =>
    so_iconst E (x := 0) dX6_spans_0 h fun σ lv st h =>
    so_istore_n E (i := 2) rfl (by decide) dX6_spans_1 h fun σ lv st h =>
    h
set_option maxRecDepth 20000 in
theorem sb_X6_spans_21 {J : Nat → q_K} {l : Launch} {Qp : Option q_V → q_M → Prop} (E : q_E J cX6_spans RX6 wsX6_spans 6 l rm_X6_spans) (T : q_T J cX6_spans none Qp) (h_X6_works : q_Ct yX6_works wsX6_works rm_X6_works S_X6_works) (h_X6_wheelAt : q_Ct yX6_wheelAt wsX6_wheelAt rm_X6_wheelAt S_X6_wheelAt) (h_X6_other : q_Ct yX6_other wsX6_other rm_X6_other S_X6_other) : ∀ (σ : q_M) (lv : q_L) (st : q_S), k_X6_spans_21 Qp J σ lv st → J 21 σ lv st := fun σ lv st h =>
    so_iconst E (x := 0) dX6_spans_21 h fun σ lv st h =>
    so_istore_n E (i := 2) rfl (by decide) dX6_spans_22 h fun σ lv st h =>
    h
set_option maxRecDepth 20000 in
theorem sb_X6_spans_2 {J : Nat → q_K} {l : Launch} {Qp : Option q_V → q_M → Prop} (E : q_E J cX6_spans RX6 wsX6_spans 6 l rm_X6_spans) (T : q_T J cX6_spans none Qp) (h_X6_works : q_Ct yX6_works wsX6_works rm_X6_works S_X6_works) (h_X6_wheelAt : q_Ct yX6_wheelAt wsX6_wheelAt rm_X6_wheelAt S_X6_wheelAt) (h_X6_other : q_Ct yX6_other wsX6_other rm_X6_other S_X6_other) : ∀ (σ : q_M) (lv : q_L) (st : q_S), k_X6_spans_2 Qp J σ lv st → J 2 σ lv st := fun σ lv st h =>
    so_iload_n E (i := 2) rfl dX6_spans_2 h fun σ lv st h =>
    so_bipush E (x := 9) rfl dX6_spans_3 h fun σ lv st h =>
    so_icmpge E 21 (by decide) dX6_spans_5 (sb_X6_spans_21 E T h_X6_works h_X6_wheelAt h_X6_other) h fun σ lv st h =>
    so_aload_n E (i := 0) rfl dX6_spans_8 h fun σ lv st h =>
    so_get E (pp := 24) (fi := 4) (C := RX6) (T := TX6) (N := 11) (ref := "WheelDeskModel") ⟨rfl, rfl, rfl⟩ rfl fi_X6_spans_X6 (by decide) rfl (List.mem_of_getElem? (i := 1) rfl) dX6_spans_9 h fun σ lv st h =>
    so_iload_n E (i := 2) rfl dX6_spans_12 h fun σ lv st h =>
    so_lconst E (x := 0) rfl dX6_spans_13 h fun σ lv st h =>
    so_last E dX6_spans_14 h fun σ lv st h =>
    so_iinc E (i := 2) (n := 1) (by decide) dX6_spans_15 h fun σ lv st h =>
    so_goto E 2 (by decide) dX6_spans_18 (fun _ _ _ h => h) h
set_option maxRecDepth 20000 in
theorem sb_X6_spans_103 {J : Nat → q_K} {l : Launch} {Qp : Option q_V → q_M → Prop} (E : q_E J cX6_spans RX6 wsX6_spans 6 l rm_X6_spans) (T : q_T J cX6_spans none Qp) (h_X6_works : q_Ct yX6_works wsX6_works rm_X6_works S_X6_works) (h_X6_wheelAt : q_Ct yX6_wheelAt wsX6_wheelAt rm_X6_wheelAt S_X6_wheelAt) (h_X6_other : q_Ct yX6_other wsX6_other rm_X6_other S_X6_other) : ∀ (σ : q_M) (lv : q_L) (st : q_S), k_X6_spans_103 Qp J σ lv st → J 103 σ lv st := fun σ lv st h =>
    so_iconst E (x := 0) dX6_spans_103 h fun σ lv st h =>
    so_istore_n E (i := 2) rfl (by decide) dX6_spans_104 h fun σ lv st h =>
    h
set_option maxRecDepth 20000 in
theorem sb_X6_spans_23 {J : Nat → q_K} {l : Launch} {Qp : Option q_V → q_M → Prop} (E : q_E J cX6_spans RX6 wsX6_spans 6 l rm_X6_spans) (T : q_T J cX6_spans none Qp) (h_X6_works : q_Ct yX6_works wsX6_works rm_X6_works S_X6_works) (h_X6_wheelAt : q_Ct yX6_wheelAt wsX6_wheelAt rm_X6_wheelAt S_X6_wheelAt) (h_X6_other : q_Ct yX6_other wsX6_other rm_X6_other S_X6_other) : ∀ (σ : q_M) (lv : q_L) (st : q_S), k_X6_spans_23 Qp J σ lv st → J 23 σ lv st := fun σ lv st h =>
    so_iload_n E (i := 2) rfl dX6_spans_23 h fun σ lv st h =>
    so_i2l E dX6_spans_24 h fun σ lv st h =>
    so_aload_n E (i := 0) rfl dX6_spans_25 h fun σ lv st h =>
    so_get E (pp := 24) (fi := 0) (C := RX6) (T := TX6) (N := 11) (ref := "WheelDeskModel") ⟨rfl, rfl, rfl⟩ rfl fi_X6_spans_X6 (by decide) rfl (List.mem_of_getElem? (i := 2) rfl) dX6_spans_26 h fun σ lv st h =>
    so_bipush E (x := 6) rfl dX6_spans_29 h fun σ lv st h =>
    so_lald E dX6_spans_31 h fun σ lv st h =>
    so_lcmp E dX6_spans_32 h fun σ lv st h =>
    so_ifge E 103 (by decide) dX6_spans_33 (sb_X6_spans_103 E T h_X6_works h_X6_wheelAt h_X6_other) h fun σ lv st h =>
    so_iconst E (x := 0) dX6_spans_36 h fun σ lv st h =>
    so_istore_n E (i := 3) rfl (by decide) dX6_spans_37 h fun σ lv st h =>
    h
set_option maxRecDepth 20000 in
theorem sb_X6_spans_97 {J : Nat → q_K} {l : Launch} {Qp : Option q_V → q_M → Prop} (E : q_E J cX6_spans RX6 wsX6_spans 6 l rm_X6_spans) (T : q_T J cX6_spans none Qp) (h_X6_works : q_Ct yX6_works wsX6_works rm_X6_works S_X6_works) (h_X6_wheelAt : q_Ct yX6_wheelAt wsX6_wheelAt rm_X6_wheelAt S_X6_wheelAt) (h_X6_other : q_Ct yX6_other wsX6_other rm_X6_other S_X6_other) : ∀ (σ : q_M) (lv : q_L) (st : q_S), k_X6_spans_97 Qp J σ lv st → J 97 σ lv st := fun σ lv st h =>
    so_iinc E (i := 2) (n := 1) (by decide) dX6_spans_97 h fun σ lv st h =>
    so_goto E 23 (by decide) dX6_spans_100 (fun _ _ _ h => h) h
set_option maxRecDepth 20000 in
theorem sb_X6_spans_38 {J : Nat → q_K} {l : Launch} {Qp : Option q_V → q_M → Prop} (E : q_E J cX6_spans RX6 wsX6_spans 6 l rm_X6_spans) (T : q_T J cX6_spans none Qp) (h_X6_works : q_Ct yX6_works wsX6_works rm_X6_works S_X6_works) (h_X6_wheelAt : q_Ct yX6_wheelAt wsX6_wheelAt rm_X6_wheelAt S_X6_wheelAt) (h_X6_other : q_Ct yX6_other wsX6_other rm_X6_other S_X6_other) : ∀ (σ : q_M) (lv : q_L) (st : q_S), k_X6_spans_38 Qp J σ lv st → J 38 σ lv st := fun σ lv st h =>
    so_iload_n E (i := 3) rfl dX6_spans_38 h fun σ lv st h =>
    so_bipush E (x := 9) rfl dX6_spans_39 h fun σ lv st h =>
    so_icmpge E 97 (by decide) dX6_spans_41 (sb_X6_spans_97 E T h_X6_works h_X6_wheelAt h_X6_other) h fun σ lv st h =>
    so_aload_n E (i := 0) rfl dX6_spans_44 h fun σ lv st h =>
    so_iload_n E (i := 2) rfl dX6_spans_45 h fun σ lv st h =>
    so_callV E (n := 1) (pp := 24) (C := RX6) (T := TX6) (N := 11) (idx := 108) (maxL := 2) (ret := (some .boolean)) h_X6_works ⟨rfl, rfl, rfl⟩ rfl gX6_spans_X6_works rfl ⟨rfl, rfl⟩ (by decide +kernel) (by decide) dX6_spans_46 h fun σ lv st h =>
    so_ifeq E 97 (by decide) dX6_spans_49 (sb_X6_spans_97 E T h_X6_works h_X6_wheelAt h_X6_other) h fun σ lv st h =>
    so_iload_n E (i := 2) rfl dX6_spans_52 h fun σ lv st h =>
    so_iload_n E (i := 1) rfl dX6_spans_53 h fun σ lv st h =>
    so_icmpeq E 97 (by decide) dX6_spans_54 (sb_X6_spans_97 E T h_X6_works h_X6_wheelAt h_X6_other) h fun σ lv st h =>
    so_aload_n E (i := 0) rfl dX6_spans_57 h fun σ lv st h =>
    so_get E (pp := 24) (fi := 4) (C := RX6) (T := TX6) (N := 11) (ref := "WheelDeskModel") ⟨rfl, rfl, rfl⟩ rfl fi_X6_spans_X6 (by decide) rfl (List.mem_of_getElem? (i := 1) rfl) dX6_spans_58 h fun σ lv st h =>
    so_iload_n E (i := 3) rfl dX6_spans_61 h fun σ lv st h =>
    so_dup2 E dX6_spans_62 h fun σ lv st h =>
    so_lald E dX6_spans_63 h fun σ lv st h =>
    so_aload_n E (i := 0) rfl dX6_spans_64 h fun σ lv st h =>
    so_get E (pp := 24) (fi := 0) (C := RX6) (T := TX6) (N := 11) (ref := "WheelDeskModel") ⟨rfl, rfl, rfl⟩ rfl fi_X6_spans_X6 (by decide) rfl (List.mem_of_getElem? (i := 2) rfl) dX6_spans_65 h fun σ lv st h =>
    so_iload_n E (i := 2) rfl dX6_spans_68 h fun σ lv st h =>
    so_iload_n E (i := 3) rfl dX6_spans_69 h fun σ lv st h =>
    so_iconst E (x := 3) dX6_spans_70 h fun σ lv st h =>
    so_idiv E dX6_spans_71 h fun σ lv st h =>
    so_callT E (n := 2) (idx := 71) (maxL := 2) (ret := (some .int)) h_X6_wheelAt gX6_spans_X6_wheelAt rfl ⟨rfl, rfl⟩ (by decide +kernel) (by decide) dX6_spans_72 h fun σ lv st h =>
    so_lald E dX6_spans_75 h fun σ lv st h =>
    so_aload_n E (i := 0) rfl dX6_spans_76 h fun σ lv st h =>
    so_get E (pp := 24) (fi := 0) (C := RX6) (T := TX6) (N := 11) (ref := "WheelDeskModel") ⟨rfl, rfl, rfl⟩ rfl fi_X6_spans_X6 (by decide) rfl (List.mem_of_getElem? (i := 2) rfl) dX6_spans_77 h fun σ lv st h =>
    so_iload_n E (i := 2) rfl dX6_spans_80 h fun σ lv st h =>
    so_iload_n E (i := 3) rfl dX6_spans_81 h fun σ lv st h =>
    so_iconst E (x := 3) dX6_spans_82 h fun σ lv st h =>
    so_irem E dX6_spans_83 h fun σ lv st h =>
    so_callT E (n := 2) (idx := 71) (maxL := 2) (ret := (some .int)) h_X6_wheelAt gX6_spans_X6_wheelAt rfl ⟨rfl, rfl⟩ (by decide +kernel) (by decide) dX6_spans_84 h fun σ lv st h =>
    so_lald E dX6_spans_87 h fun σ lv st h =>
    so_lmul E dX6_spans_88 h fun σ lv st h =>
    so_ladd E dX6_spans_89 h fun σ lv st h =>
    so_last E dX6_spans_90 h fun σ lv st h =>
    so_iinc E (i := 3) (n := 1) (by decide) dX6_spans_91 h fun σ lv st h =>
    so_goto E 38 (by decide) dX6_spans_94 (fun _ _ _ h => h) h
set_option maxRecDepth 20000 in
theorem sb_X6_spans_212 {J : Nat → q_K} {l : Launch} {Qp : Option q_V → q_M → Prop} (E : q_E J cX6_spans RX6 wsX6_spans 6 l rm_X6_spans) (T : q_T J cX6_spans none Qp) (h_X6_works : q_Ct yX6_works wsX6_works rm_X6_works S_X6_works) (h_X6_wheelAt : q_Ct yX6_wheelAt wsX6_wheelAt rm_X6_wheelAt S_X6_wheelAt) (h_X6_other : q_Ct yX6_other wsX6_other rm_X6_other S_X6_other) : ∀ (σ : q_M) (lv : q_L) (st : q_S), k_X6_spans_212 Qp J σ lv st → J 212 σ lv st := fun σ lv st h =>
    so_aload_n E (i := 0) rfl dX6_spans_212 h fun σ lv st h =>
    so_aload_n E (i := 0) rfl dX6_spans_213 h fun σ lv st h =>
    so_get E (pp := 24) (fi := 4) (C := RX6) (T := TX6) (N := 11) (ref := "WheelDeskModel") ⟨rfl, rfl, rfl⟩ rfl fi_X6_spans_X6 (by decide) rfl (List.mem_of_getElem? (i := 1) rfl) dX6_spans_214 h fun σ lv st h =>
    so_iconst E (x := 0) dX6_spans_217 h fun σ lv st h =>
    so_lald E dX6_spans_218 h fun σ lv st h =>
    so_aload_n E (i := 0) rfl dX6_spans_219 h fun σ lv st h =>
    so_get E (pp := 24) (fi := 5) (C := RX6) (T := TX6) (N := 11) (ref := "WheelDeskModel") ⟨rfl, rfl, rfl⟩ rfl fi_X6_spans_X6 (by decide) rfl (List.mem_of_getElem? (i := 3) rfl) dX6_spans_220 h fun σ lv st h =>
    so_iconst E (x := 0) dX6_spans_223 h fun σ lv st h =>
    so_lald E dX6_spans_224 h fun σ lv st h =>
    so_lmul E dX6_spans_225 h fun σ lv st h =>
    so_aload_n E (i := 0) rfl dX6_spans_226 h fun σ lv st h =>
    so_get E (pp := 24) (fi := 4) (C := RX6) (T := TX6) (N := 11) (ref := "WheelDeskModel") ⟨rfl, rfl, rfl⟩ rfl fi_X6_spans_X6 (by decide) rfl (List.mem_of_getElem? (i := 1) rfl) dX6_spans_227 h fun σ lv st h =>
    so_iconst E (x := 1) dX6_spans_230 h fun σ lv st h =>
    so_lald E dX6_spans_231 h fun σ lv st h =>
    so_aload_n E (i := 0) rfl dX6_spans_232 h fun σ lv st h =>
    so_get E (pp := 24) (fi := 5) (C := RX6) (T := TX6) (N := 11) (ref := "WheelDeskModel") ⟨rfl, rfl, rfl⟩ rfl fi_X6_spans_X6 (by decide) rfl (List.mem_of_getElem? (i := 3) rfl) dX6_spans_233 h fun σ lv st h =>
    so_iconst E (x := 1) dX6_spans_236 h fun σ lv st h =>
    so_lald E dX6_spans_237 h fun σ lv st h =>
    so_lmul E dX6_spans_238 h fun σ lv st h =>
    so_ladd E dX6_spans_239 h fun σ lv st h =>
    so_aload_n E (i := 0) rfl dX6_spans_240 h fun σ lv st h =>
    so_get E (pp := 24) (fi := 4) (C := RX6) (T := TX6) (N := 11) (ref := "WheelDeskModel") ⟨rfl, rfl, rfl⟩ rfl fi_X6_spans_X6 (by decide) rfl (List.mem_of_getElem? (i := 1) rfl) dX6_spans_241 h fun σ lv st h =>
    so_iconst E (x := 2) dX6_spans_244 h fun σ lv st h =>
    so_lald E dX6_spans_245 h fun σ lv st h =>
    so_aload_n E (i := 0) rfl dX6_spans_246 h fun σ lv st h =>
    so_get E (pp := 24) (fi := 5) (C := RX6) (T := TX6) (N := 11) (ref := "WheelDeskModel") ⟨rfl, rfl, rfl⟩ rfl fi_X6_spans_X6 (by decide) rfl (List.mem_of_getElem? (i := 3) rfl) dX6_spans_247 h fun σ lv st h =>
    so_iconst E (x := 2) dX6_spans_250 h fun σ lv st h =>
    so_lald E dX6_spans_251 h fun σ lv st h =>
    so_lmul E dX6_spans_252 h fun σ lv st h =>
    so_ladd E dX6_spans_253 h fun σ lv st h =>
    so_putl E (pp := 24) (fi := 6) (sl := 1) (C := RX6) (T := TX6) (N := 11) (ref := "WheelDeskModel") ⟨rfl, rfl, rfl⟩ rfl fi_X6_spans_X6 tyX6 tyX6_ok nmX6 (by decide) rfl rfl rfl q_fs_24_6 (List.mem_of_getElem? (i := 4) rfl) dX6_spans_254 h fun σ lv st h =>
    so_vret T dX6_spans_257 h
set_option maxRecDepth 20000 in
theorem sb_X6_spans_105 {J : Nat → q_K} {l : Launch} {Qp : Option q_V → q_M → Prop} (E : q_E J cX6_spans RX6 wsX6_spans 6 l rm_X6_spans) (T : q_T J cX6_spans none Qp) (h_X6_works : q_Ct yX6_works wsX6_works rm_X6_works S_X6_works) (h_X6_wheelAt : q_Ct yX6_wheelAt wsX6_wheelAt rm_X6_wheelAt S_X6_wheelAt) (h_X6_other : q_Ct yX6_other wsX6_other rm_X6_other S_X6_other) : ∀ (σ : q_M) (lv : q_L) (st : q_S), k_X6_spans_105 Qp J σ lv st → J 105 σ lv st := fun σ lv st h =>
    so_iload_n E (i := 2) rfl dX6_spans_105 h fun σ lv st h =>
    so_iconst E (x := 3) dX6_spans_106 h fun σ lv st h =>
    so_icmpge E 212 (by decide) dX6_spans_107 (sb_X6_spans_212 E T h_X6_works h_X6_wheelAt h_X6_other) h fun σ lv st h =>
    so_iconst E (x := 0) dX6_spans_110 h fun σ lv st h =>
    so_istore_n E (i := 3) rfl (by decide) dX6_spans_111 h fun σ lv st h =>
    h
set_option maxRecDepth 20000 in
theorem sb_X6_spans_206 {J : Nat → q_K} {l : Launch} {Qp : Option q_V → q_M → Prop} (E : q_E J cX6_spans RX6 wsX6_spans 6 l rm_X6_spans) (T : q_T J cX6_spans none Qp) (h_X6_works : q_Ct yX6_works wsX6_works rm_X6_works S_X6_works) (h_X6_wheelAt : q_Ct yX6_wheelAt wsX6_wheelAt rm_X6_wheelAt S_X6_wheelAt) (h_X6_other : q_Ct yX6_other wsX6_other rm_X6_other S_X6_other) : ∀ (σ : q_M) (lv : q_L) (st : q_S), k_X6_spans_206 Qp J σ lv st → J 206 σ lv st := fun σ lv st h =>
    so_iinc E (i := 2) (n := 1) (by decide) dX6_spans_206 h fun σ lv st h =>
    so_goto E 105 (by decide) dX6_spans_209 (fun _ _ _ h => h) h
set_option maxRecDepth 20000 in
theorem sb_X6_spans_112 {J : Nat → q_K} {l : Launch} {Qp : Option q_V → q_M → Prop} (E : q_E J cX6_spans RX6 wsX6_spans 6 l rm_X6_spans) (T : q_T J cX6_spans none Qp) (h_X6_works : q_Ct yX6_works wsX6_works rm_X6_works S_X6_works) (h_X6_wheelAt : q_Ct yX6_wheelAt wsX6_wheelAt rm_X6_wheelAt S_X6_wheelAt) (h_X6_other : q_Ct yX6_other wsX6_other rm_X6_other S_X6_other) : ∀ (σ : q_M) (lv : q_L) (st : q_S), k_X6_spans_112 Qp J σ lv st → J 112 σ lv st := fun σ lv st h =>
    so_iload_n E (i := 3) rfl dX6_spans_112 h fun σ lv st h =>
    so_iconst E (x := 3) dX6_spans_113 h fun σ lv st h =>
    so_icmpge E 206 (by decide) dX6_spans_114 (sb_X6_spans_206 E T h_X6_works h_X6_wheelAt h_X6_other) h fun σ lv st h =>
    so_iconst E (x := 3) dX6_spans_117 h fun σ lv st h =>
    so_iload_n E (i := 2) rfl dX6_spans_118 h fun σ lv st h =>
    so_iconst E (x := 1) dX6_spans_119 h fun σ lv st h =>
    so_callT E (n := 2) (idx := 111) (maxL := 2) (ret := (some .int)) h_X6_other gX6_spans_X6_other rfl ⟨rfl, rfl⟩ (by decide +kernel) (by decide) dX6_spans_120 h fun σ lv st h =>
    so_imul E dX6_spans_123 h fun σ lv st h =>
    so_istore E (i := 4) (by decide) dX6_spans_124 h fun σ lv st h =>
    so_iconst E (x := 3) dX6_spans_126 h fun σ lv st h =>
    so_iload_n E (i := 2) rfl dX6_spans_127 h fun σ lv st h =>
    so_iconst E (x := 2) dX6_spans_128 h fun σ lv st h =>
    so_callT E (n := 2) (idx := 111) (maxL := 2) (ret := (some .int)) h_X6_other gX6_spans_X6_other rfl ⟨rfl, rfl⟩ (by decide +kernel) (by decide) dX6_spans_129 h fun σ lv st h =>
    so_imul E dX6_spans_132 h fun σ lv st h =>
    so_istore E (i := 5) (by decide) dX6_spans_133 h fun σ lv st h =>
    so_aload_n E (i := 0) rfl dX6_spans_135 h fun σ lv st h =>
    so_get E (pp := 24) (fi := 5) (C := RX6) (T := TX6) (N := 11) (ref := "WheelDeskModel") ⟨rfl, rfl, rfl⟩ rfl fi_X6_spans_X6 (by decide) rfl (List.mem_of_getElem? (i := 3) rfl) dX6_spans_136 h fun σ lv st h =>
    so_iconst E (x := 3) dX6_spans_139 h fun σ lv st h =>
    so_iload_n E (i := 2) rfl dX6_spans_140 h fun σ lv st h =>
    so_imul E dX6_spans_141 h fun σ lv st h =>
    so_iload_n E (i := 3) rfl dX6_spans_142 h fun σ lv st h =>
    so_iadd E dX6_spans_143 h fun σ lv st h =>
    so_aload_n E (i := 0) rfl dX6_spans_144 h fun σ lv st h =>
    so_get E (pp := 24) (fi := 4) (C := RX6) (T := TX6) (N := 11) (ref := "WheelDeskModel") ⟨rfl, rfl, rfl⟩ rfl fi_X6_spans_X6 (by decide) rfl (List.mem_of_getElem? (i := 1) rfl) dX6_spans_145 h fun σ lv st h =>
    so_iload E (i := 4) dX6_spans_148 h fun σ lv st h =>
    so_iload_n E (i := 3) rfl dX6_spans_150 h fun σ lv st h =>
    so_iconst E (x := 1) dX6_spans_151 h fun σ lv st h =>
    so_callT E (n := 2) (idx := 111) (maxL := 2) (ret := (some .int)) h_X6_other gX6_spans_X6_other rfl ⟨rfl, rfl⟩ (by decide +kernel) (by decide) dX6_spans_152 h fun σ lv st h =>
    so_iadd E dX6_spans_155 h fun σ lv st h =>
    so_lald E dX6_spans_156 h fun σ lv st h =>
    so_aload_n E (i := 0) rfl dX6_spans_157 h fun σ lv st h =>
    so_get E (pp := 24) (fi := 4) (C := RX6) (T := TX6) (N := 11) (ref := "WheelDeskModel") ⟨rfl, rfl, rfl⟩ rfl fi_X6_spans_X6 (by decide) rfl (List.mem_of_getElem? (i := 1) rfl) dX6_spans_158 h fun σ lv st h =>
    so_iload E (i := 5) dX6_spans_161 h fun σ lv st h =>
    so_iload_n E (i := 3) rfl dX6_spans_163 h fun σ lv st h =>
    so_iconst E (x := 2) dX6_spans_164 h fun σ lv st h =>
    so_callT E (n := 2) (idx := 111) (maxL := 2) (ret := (some .int)) h_X6_other gX6_spans_X6_other rfl ⟨rfl, rfl⟩ (by decide +kernel) (by decide) dX6_spans_165 h fun σ lv st h =>
    so_iadd E dX6_spans_168 h fun σ lv st h =>
    so_lald E dX6_spans_169 h fun σ lv st h =>
    so_lmul E dX6_spans_170 h fun σ lv st h =>
    so_aload_n E (i := 0) rfl dX6_spans_171 h fun σ lv st h =>
    so_get E (pp := 24) (fi := 4) (C := RX6) (T := TX6) (N := 11) (ref := "WheelDeskModel") ⟨rfl, rfl, rfl⟩ rfl fi_X6_spans_X6 (by decide) rfl (List.mem_of_getElem? (i := 1) rfl) dX6_spans_172 h fun σ lv st h =>
    so_iload E (i := 4) dX6_spans_175 h fun σ lv st h =>
    so_iload_n E (i := 3) rfl dX6_spans_177 h fun σ lv st h =>
    so_iconst E (x := 2) dX6_spans_178 h fun σ lv st h =>
    so_callT E (n := 2) (idx := 111) (maxL := 2) (ret := (some .int)) h_X6_other gX6_spans_X6_other rfl ⟨rfl, rfl⟩ (by decide +kernel) (by decide) dX6_spans_179 h fun σ lv st h =>
    so_iadd E dX6_spans_182 h fun σ lv st h =>
    so_lald E dX6_spans_183 h fun σ lv st h =>
    so_aload_n E (i := 0) rfl dX6_spans_184 h fun σ lv st h =>
    so_get E (pp := 24) (fi := 4) (C := RX6) (T := TX6) (N := 11) (ref := "WheelDeskModel") ⟨rfl, rfl, rfl⟩ rfl fi_X6_spans_X6 (by decide) rfl (List.mem_of_getElem? (i := 1) rfl) dX6_spans_185 h fun σ lv st h =>
    so_iload E (i := 5) dX6_spans_188 h fun σ lv st h =>
    so_iload_n E (i := 3) rfl dX6_spans_190 h fun σ lv st h =>
    so_iconst E (x := 1) dX6_spans_191 h fun σ lv st h =>
    so_callT E (n := 2) (idx := 111) (maxL := 2) (ret := (some .int)) h_X6_other gX6_spans_X6_other rfl ⟨rfl, rfl⟩ (by decide +kernel) (by decide) dX6_spans_192 h fun σ lv st h =>
    so_iadd E dX6_spans_195 h fun σ lv st h =>
    so_lald E dX6_spans_196 h fun σ lv st h =>
    so_lmul E dX6_spans_197 h fun σ lv st h =>
    so_lsub E dX6_spans_198 h fun σ lv st h =>
    so_last E dX6_spans_199 h fun σ lv st h =>
    so_iinc E (i := 3) (n := 1) (by decide) dX6_spans_200 h fun σ lv st h =>
    so_goto E 112 (by decide) dX6_spans_203 (fun _ _ _ h => h) h
theorem c_X6_spans (h_X6_works : q_Ct yX6_works wsX6_works rm_X6_works S_X6_works) (h_X6_wheelAt : q_Ct yX6_wheelAt wsX6_wheelAt rm_X6_wheelAt S_X6_wheelAt) (h_X6_other : q_Ct yX6_other wsX6_other rm_X6_other S_X6_other) : q_Ct yX6_spans wsX6_spans rm_X6_spans S_X6_spans := by
  refine q_met (cc := cX6_spans) (maxL := 6) (ret := none) (own := RX6) (by decide +kernel) rfl rfl (fun σ vs Qp h => ?_) (fun l J σ vs Qp E T h => ?_)
  · unfold S_X6_spans at h
    split at h
    · exact Nat.le_of_ble_eq_true rfl
    · exact h.elim
  · unfold S_X6_spans at h
    split at h
    · next c0 p0 k0 lo =>
      obtain ⟨rfl, rfl, rfl, h⟩ := h
      exact v_X6_spans (so_C E) (sb_X6_spans_0 E T h_X6_works h_X6_wheelAt h_X6_other) (sb_X6_spans_2 E T h_X6_works h_X6_wheelAt h_X6_other) (sb_X6_spans_23 E T h_X6_works h_X6_wheelAt h_X6_other) (sb_X6_spans_38 E T h_X6_works h_X6_wheelAt h_X6_other) (sb_X6_spans_105 E T h_X6_works h_X6_wheelAt h_X6_other) (sb_X6_spans_112 E T h_X6_works h_X6_wheelAt h_X6_other) h
    · exact h.elim
theorem cc_X6_spans : q_Ct yX6_spans wsX6_spans rm_X6_spans S_X6_spans := c_X6_spans cc_X6_works cc_X6_wheelAt cc_X6_other

def rm_X6_wishOf : Room := { frames := 2, cells := 0, slots := 0, locals := 48 }
theorem fi_X6_wishOf_X6 : ∀ w ∈ u_ws RX6 TX6 11, w ∈ wsX6_wishOf := fun w h => List.mem_cons_of_mem _ (List.mem_append_right _ h)
set_option maxRecDepth 20000 in
theorem sb_X6_wishOf_0 {J : Nat → q_K} {l : Launch} {Qp : Option q_V → q_M → Prop} (E : q_E J cX6_wishOf RX6 wsX6_wishOf 11 l rm_X6_wishOf) (T : q_T J cX6_wishOf (some .long) Qp) (h_X6_wheelAt : q_Ct yX6_wheelAt wsX6_wheelAt rm_X6_wheelAt S_X6_wheelAt) (h_X6_nearest : q_Ct yX6_nearest wsX6_nearest rm_X6_nearest S_X6_nearest) : ∀ (σ : q_M) (lv : q_L) (st : q_S), k_X6_wishOf_0 Qp J σ lv st → J 0 σ lv st := fun σ lv st h =>
    so_lconst E (x := 0) rfl dX6_wishOf_0 h fun σ lv st h =>
    so_lstore E (i := 8) (by decide) dX6_wishOf_1 h fun σ lv st h =>
    so_iconst E (x := 0) dX6_wishOf_3 h fun σ lv st h =>
    so_istore E (i := 10) (by decide) dX6_wishOf_4 h fun σ lv st h =>
    h
set_option maxRecDepth 20000 in
theorem sb_X6_wishOf_76 {J : Nat → q_K} {l : Launch} {Qp : Option q_V → q_M → Prop} (E : q_E J cX6_wishOf RX6 wsX6_wishOf 11 l rm_X6_wishOf) (T : q_T J cX6_wishOf (some .long) Qp) (h_X6_wheelAt : q_Ct yX6_wheelAt wsX6_wheelAt rm_X6_wheelAt S_X6_wheelAt) (h_X6_nearest : q_Ct yX6_nearest wsX6_nearest rm_X6_nearest S_X6_nearest) : ∀ (σ : q_M) (lv : q_L) (st : q_S), k_X6_wishOf_76 Qp J σ lv st → J 76 σ lv st := fun σ lv st h =>
    so_lload E (i := 8) dX6_wishOf_76 h fun σ lv st h =>
    so_lneg E dX6_wishOf_78 h fun σ lv st h =>
    so_aload_n E (i := 0) rfl dX6_wishOf_79 h fun σ lv st h =>
    so_get E (pp := 24) (fi := 6) (C := RX6) (T := TX6) (N := 11) (ref := "WheelDeskModel") ⟨rfl, rfl, rfl⟩ rfl fi_X6_wishOf_X6 (by decide) rfl (List.mem_of_getElem? (i := 3) rfl) dX6_wishOf_80 h fun σ lv st h =>
    so_callT E (n := 2) (idx := 118) (maxL := 4) (ret := (some .long)) h_X6_nearest gX6_wishOf_X6_nearest rfl ⟨rfl, rfl⟩ (by decide +kernel) (by decide) dX6_wishOf_83 h fun σ lv st h =>
    so_lret T dX6_wishOf_86 h
set_option maxRecDepth 20000 in
theorem sb_X6_wishOf_6 {J : Nat → q_K} {l : Launch} {Qp : Option q_V → q_M → Prop} (E : q_E J cX6_wishOf RX6 wsX6_wishOf 11 l rm_X6_wishOf) (T : q_T J cX6_wishOf (some .long) Qp) (h_X6_wheelAt : q_Ct yX6_wheelAt wsX6_wheelAt rm_X6_wheelAt S_X6_wheelAt) (h_X6_nearest : q_Ct yX6_nearest wsX6_nearest rm_X6_nearest S_X6_nearest) : ∀ (σ : q_M) (lv : q_L) (st : q_S), k_X6_wishOf_6 Qp J σ lv st → J 6 σ lv st := fun σ lv st h =>
    so_iload E (i := 10) dX6_wishOf_6 h fun σ lv st h =>
    so_iconst E (x := 3) dX6_wishOf_8 h fun σ lv st h =>
    so_icmpge E 76 (by decide) dX6_wishOf_9 (sb_X6_wishOf_76 E T h_X6_wheelAt h_X6_nearest) h fun σ lv st h =>
    so_lload E (i := 8) dX6_wishOf_12 h fun σ lv st h =>
    so_aload_n E (i := 0) rfl dX6_wishOf_14 h fun σ lv st h =>
    so_get E (pp := 24) (fi := 0) (C := RX6) (T := TX6) (N := 11) (ref := "WheelDeskModel") ⟨rfl, rfl, rfl⟩ rfl fi_X6_wishOf_X6 (by decide) rfl (List.mem_of_getElem? (i := 1) rfl) dX6_wishOf_15 h fun σ lv st h =>
    so_iload_n E (i := 1) rfl dX6_wishOf_18 h fun σ lv st h =>
    so_iload E (i := 10) dX6_wishOf_19 h fun σ lv st h =>
    so_callT E (n := 2) (idx := 71) (maxL := 2) (ret := (some .int)) h_X6_wheelAt gX6_wishOf_X6_wheelAt rfl ⟨rfl, rfl⟩ (by decide +kernel) (by decide) dX6_wishOf_21 h fun σ lv st h =>
    so_lald E dX6_wishOf_24 h fun σ lv st h =>
    so_aload_n E (i := 0) rfl dX6_wishOf_25 h fun σ lv st h =>
    so_get E (pp := 24) (fi := 5) (C := RX6) (T := TX6) (N := 11) (ref := "WheelDeskModel") ⟨rfl, rfl, rfl⟩ rfl fi_X6_wishOf_X6 (by decide) rfl (List.mem_of_getElem? (i := 2) rfl) dX6_wishOf_26 h fun σ lv st h =>
    so_iconst E (x := 3) dX6_wishOf_29 h fun σ lv st h =>
    so_iload E (i := 10) dX6_wishOf_30 h fun σ lv st h =>
    so_imul E dX6_wishOf_32 h fun σ lv st h =>
    so_lald E dX6_wishOf_33 h fun σ lv st h =>
    so_lload_n E (i := 2) rfl dX6_wishOf_34 h fun σ lv st h =>
    so_lmul E dX6_wishOf_35 h fun σ lv st h =>
    so_aload_n E (i := 0) rfl dX6_wishOf_36 h fun σ lv st h =>
    so_get E (pp := 24) (fi := 5) (C := RX6) (T := TX6) (N := 11) (ref := "WheelDeskModel") ⟨rfl, rfl, rfl⟩ rfl fi_X6_wishOf_X6 (by decide) rfl (List.mem_of_getElem? (i := 2) rfl) dX6_wishOf_37 h fun σ lv st h =>
    so_iconst E (x := 3) dX6_wishOf_40 h fun σ lv st h =>
    so_iload E (i := 10) dX6_wishOf_41 h fun σ lv st h =>
    so_imul E dX6_wishOf_43 h fun σ lv st h =>
    so_iconst E (x := 1) dX6_wishOf_44 h fun σ lv st h =>
    so_iadd E dX6_wishOf_45 h fun σ lv st h =>
    so_lald E dX6_wishOf_46 h fun σ lv st h =>
    so_lload E (i := 4) dX6_wishOf_47 h fun σ lv st h =>
    so_lmul E dX6_wishOf_49 h fun σ lv st h =>
    so_ladd E dX6_wishOf_50 h fun σ lv st h =>
    so_aload_n E (i := 0) rfl dX6_wishOf_51 h fun σ lv st h =>
    so_get E (pp := 24) (fi := 5) (C := RX6) (T := TX6) (N := 11) (ref := "WheelDeskModel") ⟨rfl, rfl, rfl⟩ rfl fi_X6_wishOf_X6 (by decide) rfl (List.mem_of_getElem? (i := 2) rfl) dX6_wishOf_52 h fun σ lv st h =>
    so_iconst E (x := 3) dX6_wishOf_55 h fun σ lv st h =>
    so_iload E (i := 10) dX6_wishOf_56 h fun σ lv st h =>
    so_imul E dX6_wishOf_58 h fun σ lv st h =>
    so_iconst E (x := 2) dX6_wishOf_59 h fun σ lv st h =>
    so_iadd E dX6_wishOf_60 h fun σ lv st h =>
    so_lald E dX6_wishOf_61 h fun σ lv st h =>
    so_lload E (i := 6) dX6_wishOf_62 h fun σ lv st h =>
    so_lmul E dX6_wishOf_64 h fun σ lv st h =>
    so_ladd E dX6_wishOf_65 h fun σ lv st h =>
    so_lmul E dX6_wishOf_66 h fun σ lv st h =>
    so_ladd E dX6_wishOf_67 h fun σ lv st h =>
    so_lstore E (i := 8) (by decide) dX6_wishOf_68 h fun σ lv st h =>
    so_iinc E (i := 10) (n := 1) (by decide) dX6_wishOf_70 h fun σ lv st h =>
    so_goto E 6 (by decide) dX6_wishOf_73 (fun _ _ _ h => h) h
theorem c_X6_wishOf (h_X6_wheelAt : q_Ct yX6_wheelAt wsX6_wheelAt rm_X6_wheelAt S_X6_wheelAt) (h_X6_nearest : q_Ct yX6_nearest wsX6_nearest rm_X6_nearest S_X6_nearest) : q_Ct yX6_wishOf wsX6_wishOf rm_X6_wishOf S_X6_wishOf := by
  refine q_met (cc := cX6_wishOf) (maxL := 11) (ret := (some .long)) (own := RX6) (by decide +kernel) rfl rfl (fun σ vs Qp h => ?_) (fun l J σ vs Qp E T h => ?_)
  · unfold S_X6_wishOf at h
    split at h
    · exact Nat.le_of_ble_eq_true rfl
    · exact h.elim
  · unfold S_X6_wishOf at h
    split at h
    · next c0 p0 k0 k t0 t1 t2 =>
      obtain ⟨rfl, rfl, rfl, h⟩ := h
      exact v_X6_wishOf (so_C E) (sb_X6_wishOf_0 E T h_X6_wheelAt h_X6_nearest) (sb_X6_wishOf_6 E T h_X6_wheelAt h_X6_nearest) h
    · exact h.elim
theorem cc_X6_wishOf : q_Ct yX6_wishOf wsX6_wishOf rm_X6_wishOf S_X6_wishOf := c_X6_wishOf cc_X6_wheelAt cc_X6_nearest

def rm_X6_room : Room := { frames := 1, cells := 0, slots := 0, locals := 21 }
theorem fi_X6_room_X6 : ∀ w ∈ u_ws RX6 TX6 11, w ∈ wsX6_room := fun w h => List.mem_cons_of_mem _ (List.mem_append_right _ h)
set_option maxRecDepth 20000 in
theorem sb_X6_room_102 {J : Nat → q_K} {l : Launch} {Qp : Option q_V → q_M → Prop} (E : q_E J cX6_room RX6 wsX6_room 8 l rm_X6_room) (T : q_T J cX6_room (some .long) Qp) (h_X6_wheelAt : q_Ct yX6_wheelAt wsX6_wheelAt rm_X6_wheelAt S_X6_wheelAt) : ∀ (σ : q_M) (lv : q_L) (st : q_S), k_X6_room_102 Qp J σ lv st → J 102 σ lv st := fun σ lv st h =>
    so_lret T dX6_room_102 h
set_option maxRecDepth 20000 in
theorem sb_X6_room_100 {J : Nat → q_K} {l : Launch} {Qp : Option q_V → q_M → Prop} (E : q_E J cX6_room RX6 wsX6_room 8 l rm_X6_room) (T : q_T J cX6_room (some .long) Qp) (h_X6_wheelAt : q_Ct yX6_wheelAt wsX6_wheelAt rm_X6_wheelAt S_X6_wheelAt) : ∀ (σ : q_M) (lv : q_L) (st : q_S), k_X6_room_100 Qp J σ lv st → J 100 σ lv st := fun σ lv st h =>
    so_lload E (i := 6) dX6_room_100 h fun σ lv st h =>
    (sb_X6_room_102 E T h_X6_wheelAt) σ lv st h
set_option maxRecDepth 20000 in
theorem sb_X6_room_89 {J : Nat → q_K} {l : Launch} {Qp : Option q_V → q_M → Prop} (E : q_E J cX6_room RX6 wsX6_room 8 l rm_X6_room) (T : q_T J cX6_room (some .long) Qp) (h_X6_wheelAt : q_Ct yX6_wheelAt wsX6_wheelAt rm_X6_wheelAt S_X6_wheelAt) : ∀ (σ : q_M) (lv : q_L) (st : q_S), k_X6_room_89 Qp J σ lv st → J 89 σ lv st := fun σ lv st h =>
    so_lload_n E (i := 2) rfl dX6_room_89 h fun σ lv st h =>
    so_lload E (i := 6) dX6_room_90 h fun σ lv st h =>
    so_lcmp E dX6_room_92 h fun σ lv st h =>
    so_ifle E 100 (by decide) dX6_room_93 (sb_X6_room_100 E T h_X6_wheelAt) h fun σ lv st h =>
    so_lload_n E (i := 2) rfl dX6_room_96 h fun σ lv st h =>
    so_goto E 102 (by decide) dX6_room_97 (sb_X6_room_102 E T h_X6_wheelAt) h
set_option maxRecDepth 20000 in
theorem sb_X6_room_78 {J : Nat → q_K} {l : Launch} {Qp : Option q_V → q_M → Prop} (E : q_E J cX6_room RX6 wsX6_room 8 l rm_X6_room) (T : q_T J cX6_room (some .long) Qp) (h_X6_wheelAt : q_Ct yX6_wheelAt wsX6_wheelAt rm_X6_wheelAt S_X6_wheelAt) : ∀ (σ : q_M) (lv : q_L) (st : q_S), k_X6_room_78 Qp J σ lv st → J 78 σ lv st := fun σ lv st h =>
    so_lload E (i := 6) dX6_room_78 h fun σ lv st h =>
    so_lconst E (x := 0) rfl dX6_room_80 h fun σ lv st h =>
    so_lcmp E dX6_room_81 h fun σ lv st h =>
    so_ifle E 89 (by decide) dX6_room_82 (sb_X6_room_89 E T h_X6_wheelAt) h fun σ lv st h =>
    so_lconst E (x := 0) rfl dX6_room_85 h fun σ lv st h =>
    so_goto E 102 (by decide) dX6_room_86 (sb_X6_room_102 E T h_X6_wheelAt) h
set_option maxRecDepth 20000 in
theorem sb_X6_room_77 {J : Nat → q_K} {l : Launch} {Qp : Option q_V → q_M → Prop} (E : q_E J cX6_room RX6 wsX6_room 8 l rm_X6_room) (T : q_T J cX6_room (some .long) Qp) (h_X6_wheelAt : q_Ct yX6_wheelAt wsX6_wheelAt rm_X6_wheelAt S_X6_wheelAt) : ∀ (σ : q_M) (lv : q_L) (st : q_S), k_X6_room_77 Qp J σ lv st → J 77 σ lv st := fun σ lv st h =>
    so_lret T dX6_room_77 h
set_option maxRecDepth 20000 in
theorem sb_X6_room_75 {J : Nat → q_K} {l : Launch} {Qp : Option q_V → q_M → Prop} (E : q_E J cX6_room RX6 wsX6_room 8 l rm_X6_room) (T : q_T J cX6_room (some .long) Qp) (h_X6_wheelAt : q_Ct yX6_wheelAt wsX6_wheelAt rm_X6_wheelAt S_X6_wheelAt) : ∀ (σ : q_M) (lv : q_L) (st : q_S), k_X6_room_75 Qp J σ lv st → J 75 σ lv st := fun σ lv st h =>
    so_lload E (i := 4) dX6_room_75 h fun σ lv st h =>
    (sb_X6_room_77 E T h_X6_wheelAt) σ lv st h
set_option maxRecDepth 20000 in
theorem sb_X6_room_64 {J : Nat → q_K} {l : Launch} {Qp : Option q_V → q_M → Prop} (E : q_E J cX6_room RX6 wsX6_room 8 l rm_X6_room) (T : q_T J cX6_room (some .long) Qp) (h_X6_wheelAt : q_Ct yX6_wheelAt wsX6_wheelAt rm_X6_wheelAt S_X6_wheelAt) : ∀ (σ : q_M) (lv : q_L) (st : q_S), k_X6_room_64 Qp J σ lv st → J 64 σ lv st := fun σ lv st h =>
    so_lload_n E (i := 2) rfl dX6_room_64 h fun σ lv st h =>
    so_lload E (i := 4) dX6_room_65 h fun σ lv st h =>
    so_lcmp E dX6_room_67 h fun σ lv st h =>
    so_ifge E 75 (by decide) dX6_room_68 (sb_X6_room_75 E T h_X6_wheelAt) h fun σ lv st h =>
    so_lload_n E (i := 2) rfl dX6_room_71 h fun σ lv st h =>
    so_goto E 77 (by decide) dX6_room_72 (sb_X6_room_77 E T h_X6_wheelAt) h
set_option maxRecDepth 20000 in
theorem sb_X6_room_0 {J : Nat → q_K} {l : Launch} {Qp : Option q_V → q_M → Prop} (E : q_E J cX6_room RX6 wsX6_room 8 l rm_X6_room) (T : q_T J cX6_room (some .long) Qp) (h_X6_wheelAt : q_Ct yX6_wheelAt wsX6_wheelAt rm_X6_wheelAt S_X6_wheelAt) : ∀ (σ : q_M) (lv : q_L) (st : q_S), k_X6_room_0 Qp J σ lv st → J 0 σ lv st := fun σ lv st h =>
    so_aload_n E (i := 0) rfl dX6_room_0 h fun σ lv st h =>
    so_get E (pp := 24) (fi := 0) (C := RX6) (T := TX6) (N := 11) (ref := "WheelDeskModel") ⟨rfl, rfl, rfl⟩ rfl fi_X6_room_X6 (by decide) rfl (List.mem_of_getElem? (i := 1) rfl) dX6_room_1 h fun σ lv st h =>
    so_iload_n E (i := 1) rfl dX6_room_4 h fun σ lv st h =>
    so_iconst E (x := 4) dX6_room_5 h fun σ lv st h =>
    so_callT E (n := 2) (idx := 71) (maxL := 2) (ret := (some .int)) h_X6_wheelAt gX6_room_X6_wheelAt rfl ⟨rfl, rfl⟩ (by decide +kernel) (by decide) dX6_room_6 h fun σ lv st h =>
    so_lald E dX6_room_9 h fun σ lv st h =>
    so_aload_n E (i := 0) rfl dX6_room_10 h fun σ lv st h =>
    so_get E (pp := 24) (fi := 0) (C := RX6) (T := TX6) (N := 11) (ref := "WheelDeskModel") ⟨rfl, rfl, rfl⟩ rfl fi_X6_room_X6 (by decide) rfl (List.mem_of_getElem? (i := 1) rfl) dX6_room_11 h fun σ lv st h =>
    so_iload_n E (i := 1) rfl dX6_room_14 h fun σ lv st h =>
    so_iconst E (x := 3) dX6_room_15 h fun σ lv st h =>
    so_callT E (n := 2) (idx := 71) (maxL := 2) (ret := (some .int)) h_X6_wheelAt gX6_room_X6_wheelAt rfl ⟨rfl, rfl⟩ (by decide +kernel) (by decide) dX6_room_16 h fun σ lv st h =>
    so_lald E dX6_room_19 h fun σ lv st h =>
    so_lsub E dX6_room_20 h fun σ lv st h =>
    so_lstore E (i := 4) (by decide) dX6_room_21 h fun σ lv st h =>
    so_aload_n E (i := 0) rfl dX6_room_23 h fun σ lv st h =>
    so_get E (pp := 24) (fi := 0) (C := RX6) (T := TX6) (N := 11) (ref := "WheelDeskModel") ⟨rfl, rfl, rfl⟩ rfl fi_X6_room_X6 (by decide) rfl (List.mem_of_getElem? (i := 1) rfl) dX6_room_24 h fun σ lv st h =>
    so_iload_n E (i := 1) rfl dX6_room_27 h fun σ lv st h =>
    so_iconst E (x := 4) dX6_room_28 h fun σ lv st h =>
    so_callT E (n := 2) (idx := 71) (maxL := 2) (ret := (some .int)) h_X6_wheelAt gX6_room_X6_wheelAt rfl ⟨rfl, rfl⟩ (by decide +kernel) (by decide) dX6_room_29 h fun σ lv st h =>
    so_lald E dX6_room_32 h fun σ lv st h =>
    so_lneg E dX6_room_33 h fun σ lv st h =>
    so_aload_n E (i := 0) rfl dX6_room_34 h fun σ lv st h =>
    so_get E (pp := 24) (fi := 0) (C := RX6) (T := TX6) (N := 11) (ref := "WheelDeskModel") ⟨rfl, rfl, rfl⟩ rfl fi_X6_room_X6 (by decide) rfl (List.mem_of_getElem? (i := 1) rfl) dX6_room_35 h fun σ lv st h =>
    so_iload_n E (i := 1) rfl dX6_room_38 h fun σ lv st h =>
    so_iconst E (x := 3) dX6_room_39 h fun σ lv st h =>
    so_callT E (n := 2) (idx := 71) (maxL := 2) (ret := (some .int)) h_X6_wheelAt gX6_room_X6_wheelAt rfl ⟨rfl, rfl⟩ (by decide +kernel) (by decide) dX6_room_40 h fun σ lv st h =>
    so_lald E dX6_room_43 h fun σ lv st h =>
    so_lsub E dX6_room_44 h fun σ lv st h =>
    so_lstore E (i := 6) (by decide) dX6_room_45 h fun σ lv st h =>
    so_lload_n E (i := 2) rfl dX6_room_47 h fun σ lv st h =>
    so_lconst E (x := 0) rfl dX6_room_48 h fun σ lv st h =>
    so_lcmp E dX6_room_49 h fun σ lv st h =>
    so_ifle E 78 (by decide) dX6_room_50 (sb_X6_room_78 E T h_X6_wheelAt) h fun σ lv st h =>
    so_lload E (i := 4) dX6_room_53 h fun σ lv st h =>
    so_lconst E (x := 0) rfl dX6_room_55 h fun σ lv st h =>
    so_lcmp E dX6_room_56 h fun σ lv st h =>
    so_ifge E 64 (by decide) dX6_room_57 (sb_X6_room_64 E T h_X6_wheelAt) h fun σ lv st h =>
    so_lconst E (x := 0) rfl dX6_room_60 h fun σ lv st h =>
    so_goto E 77 (by decide) dX6_room_61 (sb_X6_room_77 E T h_X6_wheelAt) h
theorem c_X6_room (h_X6_wheelAt : q_Ct yX6_wheelAt wsX6_wheelAt rm_X6_wheelAt S_X6_wheelAt) : q_Ct yX6_room wsX6_room rm_X6_room S_X6_room := by
  refine q_met (cc := cX6_room) (maxL := 8) (ret := (some .long)) (own := RX6) (by decide +kernel) rfl rfl (fun σ vs Qp h => ?_) (fun l J σ vs Qp E T h => ?_)
  · unfold S_X6_room at h
    split at h
    · exact Nat.le_of_ble_eq_true rfl
    · exact h.elim
  · unfold S_X6_room at h
    split at h
    · next c0 p0 k0 k w =>
      obtain ⟨rfl, rfl, rfl, h⟩ := h
      exact v_X6_room (so_C E) (sb_X6_room_0 E T h_X6_wheelAt) h
    · exact h.elim
theorem cc_X6_room : q_Ct yX6_room wsX6_room rm_X6_room S_X6_room := c_X6_room cc_X6_wheelAt

def rm_X6_gives : Room := { frames := 1, cells := 0, slots := 0, locals := 21 }
theorem fi_X6_gives_X6 : ∀ w ∈ u_ws RX6 TX6 11, w ∈ wsX6_gives := fun w h => List.mem_cons_of_mem _ (List.mem_append_right _ h)
set_option maxRecDepth 20000 in
theorem sb_X6_gives_0 {J : Nat → q_K} {l : Launch} {Qp : Option q_V → q_M → Prop} (E : q_E J cX6_gives RX6 wsX6_gives 5 l rm_X6_gives) (T : q_T J cX6_gives none Qp) (h_X6_wheelAt : q_Ct yX6_wheelAt wsX6_wheelAt rm_X6_wheelAt S_X6_wheelAt) (h_X6_axisAt : q_Ct yX6_axisAt wsX6_axisAt rm_X6_axisAt S_X6_axisAt) : ∀ (σ : q_M) (lv : q_L) (st : q_S), k_X6_gives_0 Qp J σ lv st → J 0 σ lv st := fun σ lv st h =>
    so_aload_n E (i := 0) rfl dX6_gives_0 h fun σ lv st h =>
    so_get E (pp := 24) (fi := 0) (C := RX6) (T := TX6) (N := 11) (ref := "WheelDeskModel") ⟨rfl, rfl, rfl⟩ rfl fi_X6_gives_X6 (by decide) rfl (List.mem_of_getElem? (i := 1) rfl) dX6_gives_1 h fun σ lv st h =>
    so_iload_n E (i := 1) rfl dX6_gives_4 h fun σ lv st h =>
    so_iconst E (x := 3) dX6_gives_5 h fun σ lv st h =>
    so_callT E (n := 2) (idx := 71) (maxL := 2) (ret := (some .int)) h_X6_wheelAt gX6_gives_X6_wheelAt rfl ⟨rfl, rfl⟩ (by decide +kernel) (by decide) dX6_gives_6 h fun σ lv st h =>
    so_dup2 E dX6_gives_9 h fun σ lv st h =>
    so_lald E dX6_gives_10 h fun σ lv st h =>
    so_lload_n E (i := 2) rfl dX6_gives_11 h fun σ lv st h =>
    so_ladd E dX6_gives_12 h fun σ lv st h =>
    so_last E dX6_gives_13 h fun σ lv st h =>
    so_aload_n E (i := 0) rfl dX6_gives_14 h fun σ lv st h =>
    so_get E (pp := 24) (fi := 0) (C := RX6) (T := TX6) (N := 11) (ref := "WheelDeskModel") ⟨rfl, rfl, rfl⟩ rfl fi_X6_gives_X6 (by decide) rfl (List.mem_of_getElem? (i := 1) rfl) dX6_gives_15 h fun σ lv st h =>
    so_iload_n E (i := 1) rfl dX6_gives_18 h fun σ lv st h =>
    so_bipush E (x := 7) rfl dX6_gives_19 h fun σ lv st h =>
    so_callT E (n := 2) (idx := 71) (maxL := 2) (ret := (some .int)) h_X6_wheelAt gX6_gives_X6_wheelAt rfl ⟨rfl, rfl⟩ (by decide +kernel) (by decide) dX6_gives_21 h fun σ lv st h =>
    so_lload_n E (i := 2) rfl dX6_gives_24 h fun σ lv st h =>
    so_last E dX6_gives_25 h fun σ lv st h =>
    so_iconst E (x := 0) dX6_gives_26 h fun σ lv st h =>
    so_istore E (i := 4) (by decide) dX6_gives_27 h fun σ lv st h =>
    h
set_option maxRecDepth 20000 in
theorem sb_X6_gives_68 {J : Nat → q_K} {l : Launch} {Qp : Option q_V → q_M → Prop} (E : q_E J cX6_gives RX6 wsX6_gives 5 l rm_X6_gives) (T : q_T J cX6_gives none Qp) (h_X6_wheelAt : q_Ct yX6_wheelAt wsX6_wheelAt rm_X6_wheelAt S_X6_wheelAt) (h_X6_axisAt : q_Ct yX6_axisAt wsX6_axisAt rm_X6_axisAt S_X6_axisAt) : ∀ (σ : q_M) (lv : q_L) (st : q_S), k_X6_gives_68 Qp J σ lv st → J 68 σ lv st := fun σ lv st h =>
    so_vret T dX6_gives_68 h
set_option maxRecDepth 20000 in
theorem sb_X6_gives_29 {J : Nat → q_K} {l : Launch} {Qp : Option q_V → q_M → Prop} (E : q_E J cX6_gives RX6 wsX6_gives 5 l rm_X6_gives) (T : q_T J cX6_gives none Qp) (h_X6_wheelAt : q_Ct yX6_wheelAt wsX6_wheelAt rm_X6_wheelAt S_X6_wheelAt) (h_X6_axisAt : q_Ct yX6_axisAt wsX6_axisAt rm_X6_axisAt S_X6_axisAt) : ∀ (σ : q_M) (lv : q_L) (st : q_S), k_X6_gives_29 Qp J σ lv st → J 29 σ lv st := fun σ lv st h =>
    so_iload E (i := 4) dX6_gives_29 h fun σ lv st h =>
    so_iconst E (x := 3) dX6_gives_31 h fun σ lv st h =>
    so_icmpge E 68 (by decide) dX6_gives_32 (sb_X6_gives_68 E T h_X6_wheelAt h_X6_axisAt) h fun σ lv st h =>
    so_aload_n E (i := 0) rfl dX6_gives_35 h fun σ lv st h =>
    so_get E (pp := 24) (fi := 0) (C := RX6) (T := TX6) (N := 11) (ref := "WheelDeskModel") ⟨rfl, rfl, rfl⟩ rfl fi_X6_gives_X6 (by decide) rfl (List.mem_of_getElem? (i := 1) rfl) dX6_gives_36 h fun σ lv st h =>
    so_iload E (i := 4) dX6_gives_39 h fun σ lv st h =>
    so_iconst E (x := 1) dX6_gives_41 h fun σ lv st h =>
    so_callT E (n := 2) (idx := 45) (maxL := 2) (ret := (some .int)) h_X6_axisAt gX6_gives_X6_axisAt rfl ⟨rfl, rfl⟩ (by decide +kernel) (by decide) dX6_gives_42 h fun σ lv st h =>
    so_dup2 E dX6_gives_45 h fun σ lv st h =>
    so_lald E dX6_gives_46 h fun σ lv st h =>
    so_aload_n E (i := 0) rfl dX6_gives_47 h fun σ lv st h =>
    so_get E (pp := 24) (fi := 0) (C := RX6) (T := TX6) (N := 11) (ref := "WheelDeskModel") ⟨rfl, rfl, rfl⟩ rfl fi_X6_gives_X6 (by decide) rfl (List.mem_of_getElem? (i := 1) rfl) dX6_gives_48 h fun σ lv st h =>
    so_iload_n E (i := 1) rfl dX6_gives_51 h fun σ lv st h =>
    so_iload E (i := 4) dX6_gives_52 h fun σ lv st h =>
    so_callT E (n := 2) (idx := 71) (maxL := 2) (ret := (some .int)) h_X6_wheelAt gX6_gives_X6_wheelAt rfl ⟨rfl, rfl⟩ (by decide +kernel) (by decide) dX6_gives_54 h fun σ lv st h =>
    so_lald E dX6_gives_57 h fun σ lv st h =>
    so_lload_n E (i := 2) rfl dX6_gives_58 h fun σ lv st h =>
    so_lmul E dX6_gives_59 h fun σ lv st h =>
    so_lsub E dX6_gives_60 h fun σ lv st h =>
    so_last E dX6_gives_61 h fun σ lv st h =>
    so_iinc E (i := 4) (n := 1) (by decide) dX6_gives_62 h fun σ lv st h =>
    so_goto E 29 (by decide) dX6_gives_65 (fun _ _ _ h => h) h
theorem c_X6_gives (h_X6_wheelAt : q_Ct yX6_wheelAt wsX6_wheelAt rm_X6_wheelAt S_X6_wheelAt) (h_X6_axisAt : q_Ct yX6_axisAt wsX6_axisAt rm_X6_axisAt S_X6_axisAt) : q_Ct yX6_gives wsX6_gives rm_X6_gives S_X6_gives := by
  refine q_met (cc := cX6_gives) (maxL := 5) (ret := none) (own := RX6) (by decide +kernel) rfl rfl (fun σ vs Qp h => ?_) (fun l J σ vs Qp E T h => ?_)
  · unfold S_X6_gives at h
    split at h
    · exact Nat.le_of_ble_eq_true rfl
    · exact h.elim
  · unfold S_X6_gives at h
    split at h
    · next c0 p0 k0 k w =>
      obtain ⟨rfl, rfl, rfl, h⟩ := h
      exact v_X6_gives (so_C E) (sb_X6_gives_0 E T h_X6_wheelAt h_X6_axisAt) (sb_X6_gives_29 E T h_X6_wheelAt h_X6_axisAt) h
    · exact h.elim
theorem cc_X6_gives : q_Ct yX6_gives wsX6_gives rm_X6_gives S_X6_gives := c_X6_gives cc_X6_wheelAt cc_X6_axisAt

def rm_X6_shares : Room := { frames := 3, cells := 0, slots := 0, locals := 78 }
theorem fi_X6_shares_X6 : ∀ w ∈ u_ws RX6 TX6 11, w ∈ wsX6_shares := fun w h => List.mem_cons_of_mem _ (List.mem_append_right _ h)
set_option maxRecDepth 20000 in
theorem sb_X6_shares_0 {J : Nat → q_K} {l : Launch} {Qp : Option q_V → q_M → Prop} (E : q_E J cX6_shares RX6 wsX6_shares 8 l rm_X6_shares) (T : q_T J cX6_shares (some .boolean) Qp) (h_X6_spans : q_Ct yX6_spans wsX6_spans rm_X6_spans S_X6_spans) (h_X6_wheelAt : q_Ct yX6_wheelAt wsX6_wheelAt rm_X6_wheelAt S_X6_wheelAt) (h_X6_reasons : q_Ct yX6_reasons wsX6_reasons rm_X6_reasons S_X6_reasons) (h_X6_works : q_Ct yX6_works wsX6_works rm_X6_works S_X6_works) (h_X6_wishOf : q_Ct yX6_wishOf wsX6_wishOf rm_X6_wishOf S_X6_wishOf) (h_X6_held : q_Ct yX6_held wsX6_held rm_X6_held S_X6_held) (h_X6_room : q_Ct yX6_room wsX6_room rm_X6_room S_X6_room) (h_X6_gives : q_Ct yX6_gives wsX6_gives rm_X6_gives S_X6_gives) : ∀ (σ : q_M) (lv : q_L) (st : q_S), k_X6_shares_0 Qp J σ lv st → J 0 σ lv st := fun σ lv st h =>
    so_aload_n E (i := 0) rfl dX6_shares_0 h fun σ lv st h =>
    so_ldc E (x := -2000009) (idx := 121) (v := -2000009) (List.mem_of_getElem? (i := 1) rfl) rfl dX6_shares_1 h fun σ lv st h =>
    so_callV E (n := 1) (pp := 24) (C := RX6) (T := TX6) (N := 11) (idx := 122) (maxL := 6) (ret := none) h_X6_spans ⟨rfl, rfl, rfl⟩ rfl gX6_shares_X6_spans rfl ⟨rfl, rfl⟩ (by decide +kernel) (by decide) dX6_shares_3 h fun σ lv st h =>
    so_iconst E (x := 0) dX6_shares_6 h fun σ lv st h =>
    so_istore_n E (i := 1) rfl (by decide) dX6_shares_7 h fun σ lv st h =>
    h
set_option maxRecDepth 20000 in
theorem sb_X6_shares_113 {J : Nat → q_K} {l : Launch} {Qp : Option q_V → q_M → Prop} (E : q_E J cX6_shares RX6 wsX6_shares 8 l rm_X6_shares) (T : q_T J cX6_shares (some .boolean) Qp) (h_X6_spans : q_Ct yX6_spans wsX6_spans rm_X6_spans S_X6_spans) (h_X6_wheelAt : q_Ct yX6_wheelAt wsX6_wheelAt rm_X6_wheelAt S_X6_wheelAt) (h_X6_reasons : q_Ct yX6_reasons wsX6_reasons rm_X6_reasons S_X6_reasons) (h_X6_works : q_Ct yX6_works wsX6_works rm_X6_works S_X6_works) (h_X6_wishOf : q_Ct yX6_wishOf wsX6_wishOf rm_X6_wishOf S_X6_wishOf) (h_X6_held : q_Ct yX6_held wsX6_held rm_X6_held S_X6_held) (h_X6_room : q_Ct yX6_room wsX6_room rm_X6_room S_X6_room) (h_X6_gives : q_Ct yX6_gives wsX6_gives rm_X6_gives S_X6_gives) : ∀ (σ : q_M) (lv : q_L) (st : q_S), k_X6_shares_113 Qp J σ lv st → J 113 σ lv st := fun σ lv st h =>
    so_aload_n E (i := 0) rfl dX6_shares_113 h fun σ lv st h =>
    so_lconst E (x := 0) rfl dX6_shares_114 h fun σ lv st h =>
    so_ldc2 E (x := -2000009) (idx := 51) (v := -2000009) (List.mem_of_getElem? (i := 4) rfl) rfl dX6_shares_115 h fun σ lv st h =>
    so_ldc2 E (x := -2000009) (idx := 51) (v := -2000009) (List.mem_of_getElem? (i := 4) rfl) rfl dX6_shares_118 h fun σ lv st h =>
    so_callV E (n := 3) (pp := 24) (C := RX6) (T := TX6) (N := 11) (idx := 53) (maxL := 7) (ret := none) h_X6_reasons ⟨rfl, rfl, rfl⟩ rfl gX6_shares_X6_reasons rfl ⟨rfl, rfl⟩ (by decide +kernel) (by decide) dX6_shares_121 h fun σ lv st h =>
    so_iconst E (x := 0) dX6_shares_124 h fun σ lv st h =>
    so_istore_n E (i := 1) rfl (by decide) dX6_shares_125 h fun σ lv st h =>
    h
set_option maxRecDepth 20000 in
theorem sb_X6_shares_39 {J : Nat → q_K} {l : Launch} {Qp : Option q_V → q_M → Prop} (E : q_E J cX6_shares RX6 wsX6_shares 8 l rm_X6_shares) (T : q_T J cX6_shares (some .boolean) Qp) (h_X6_spans : q_Ct yX6_spans wsX6_spans rm_X6_spans S_X6_spans) (h_X6_wheelAt : q_Ct yX6_wheelAt wsX6_wheelAt rm_X6_wheelAt S_X6_wheelAt) (h_X6_reasons : q_Ct yX6_reasons wsX6_reasons rm_X6_reasons S_X6_reasons) (h_X6_works : q_Ct yX6_works wsX6_works rm_X6_works S_X6_works) (h_X6_wishOf : q_Ct yX6_wishOf wsX6_wishOf rm_X6_wishOf S_X6_wishOf) (h_X6_held : q_Ct yX6_held wsX6_held rm_X6_held S_X6_held) (h_X6_room : q_Ct yX6_room wsX6_room rm_X6_room S_X6_room) (h_X6_gives : q_Ct yX6_gives wsX6_gives rm_X6_gives S_X6_gives) : ∀ (σ : q_M) (lv : q_L) (st : q_S), k_X6_shares_39 Qp J σ lv st → J 39 σ lv st := fun σ lv st h =>
    so_aload_n E (i := 0) rfl dX6_shares_39 h fun σ lv st h =>
    so_get E (pp := 24) (fi := 6) (C := RX6) (T := TX6) (N := 11) (ref := "WheelDeskModel") ⟨rfl, rfl, rfl⟩ rfl fi_X6_shares_X6 (by decide) rfl (List.mem_of_getElem? (i := 3) rfl) dX6_shares_40 h fun σ lv st h =>
    so_lconst E (x := 0) rfl dX6_shares_43 h fun σ lv st h =>
    so_lcmp E dX6_shares_44 h fun σ lv st h =>
    so_ifne E 113 (by decide) dX6_shares_45 (sb_X6_shares_113 E T h_X6_spans h_X6_wheelAt h_X6_reasons h_X6_works h_X6_wishOf h_X6_held h_X6_room h_X6_gives) h fun σ lv st h =>
    so_aload_n E (i := 0) rfl dX6_shares_48 h fun σ lv st h =>
    so_lconst E (x := 1) rfl dX6_shares_49 h fun σ lv st h =>
    so_ldc2 E (x := -2000009) (idx := 51) (v := -2000009) (List.mem_of_getElem? (i := 4) rfl) rfl dX6_shares_50 h fun σ lv st h =>
    so_ldc2 E (x := -2000009) (idx := 51) (v := -2000009) (List.mem_of_getElem? (i := 4) rfl) rfl dX6_shares_53 h fun σ lv st h =>
    so_callV E (n := 3) (pp := 24) (C := RX6) (T := TX6) (N := 11) (idx := 53) (maxL := 7) (ret := none) h_X6_reasons ⟨rfl, rfl, rfl⟩ rfl gX6_shares_X6_reasons rfl ⟨rfl, rfl⟩ (by decide +kernel) (by decide) dX6_shares_56 h fun σ lv st h =>
    so_aload_n E (i := 0) rfl dX6_shares_59 h fun σ lv st h =>
    so_get E (pp := 24) (fi := 0) (C := RX6) (T := TX6) (N := 11) (ref := "WheelDeskModel") ⟨rfl, rfl, rfl⟩ rfl fi_X6_shares_X6 (by decide) rfl (List.mem_of_getElem? (i := 2) rfl) dX6_shares_60 h fun σ lv st h =>
    so_bipush E (x := 6) rfl dX6_shares_63 h fun σ lv st h =>
    so_lald E dX6_shares_65 h fun σ lv st h =>
    so_l2i E dX6_shares_66 h fun σ lv st h =>
    so_iconst E (x := 1) dX6_shares_67 h fun σ lv st h =>
    so_isub E dX6_shares_68 h fun σ lv st h =>
    so_istore_n E (i := 1) rfl (by decide) dX6_shares_69 h fun σ lv st h =>
    h
set_option maxRecDepth 20000 in
theorem sb_X6_shares_8 {J : Nat → q_K} {l : Launch} {Qp : Option q_V → q_M → Prop} (E : q_E J cX6_shares RX6 wsX6_shares 8 l rm_X6_shares) (T : q_T J cX6_shares (some .boolean) Qp) (h_X6_spans : q_Ct yX6_spans wsX6_spans rm_X6_spans S_X6_spans) (h_X6_wheelAt : q_Ct yX6_wheelAt wsX6_wheelAt rm_X6_wheelAt S_X6_wheelAt) (h_X6_reasons : q_Ct yX6_reasons wsX6_reasons rm_X6_reasons S_X6_reasons) (h_X6_works : q_Ct yX6_works wsX6_works rm_X6_works S_X6_works) (h_X6_wishOf : q_Ct yX6_wishOf wsX6_wishOf rm_X6_wishOf S_X6_wishOf) (h_X6_held : q_Ct yX6_held wsX6_held rm_X6_held S_X6_held) (h_X6_room : q_Ct yX6_room wsX6_room rm_X6_room S_X6_room) (h_X6_gives : q_Ct yX6_gives wsX6_gives rm_X6_gives S_X6_gives) : ∀ (σ : q_M) (lv : q_L) (st : q_S), k_X6_shares_8 Qp J σ lv st → J 8 σ lv st := fun σ lv st h =>
    so_iload_n E (i := 1) rfl dX6_shares_8 h fun σ lv st h =>
    so_i2l E dX6_shares_9 h fun σ lv st h =>
    so_aload_n E (i := 0) rfl dX6_shares_10 h fun σ lv st h =>
    so_get E (pp := 24) (fi := 0) (C := RX6) (T := TX6) (N := 11) (ref := "WheelDeskModel") ⟨rfl, rfl, rfl⟩ rfl fi_X6_shares_X6 (by decide) rfl (List.mem_of_getElem? (i := 2) rfl) dX6_shares_11 h fun σ lv st h =>
    so_bipush E (x := 6) rfl dX6_shares_14 h fun σ lv st h =>
    so_lald E dX6_shares_16 h fun σ lv st h =>
    so_lcmp E dX6_shares_17 h fun σ lv st h =>
    so_ifge E 39 (by decide) dX6_shares_18 (sb_X6_shares_39 E T h_X6_spans h_X6_wheelAt h_X6_reasons h_X6_works h_X6_wishOf h_X6_held h_X6_room h_X6_gives) h fun σ lv st h =>
    so_aload_n E (i := 0) rfl dX6_shares_21 h fun σ lv st h =>
    so_get E (pp := 24) (fi := 0) (C := RX6) (T := TX6) (N := 11) (ref := "WheelDeskModel") ⟨rfl, rfl, rfl⟩ rfl fi_X6_shares_X6 (by decide) rfl (List.mem_of_getElem? (i := 2) rfl) dX6_shares_22 h fun σ lv st h =>
    so_iload_n E (i := 1) rfl dX6_shares_25 h fun σ lv st h =>
    so_bipush E (x := 7) rfl dX6_shares_26 h fun σ lv st h =>
    so_callT E (n := 2) (idx := 71) (maxL := 2) (ret := (some .int)) h_X6_wheelAt gX6_shares_X6_wheelAt rfl ⟨rfl, rfl⟩ (by decide +kernel) (by decide) dX6_shares_28 h fun σ lv st h =>
    so_lconst E (x := 0) rfl dX6_shares_31 h fun σ lv st h =>
    so_last E dX6_shares_32 h fun σ lv st h =>
    so_iinc E (i := 1) (n := 1) (by decide) dX6_shares_33 h fun σ lv st h =>
    so_goto E 8 (by decide) dX6_shares_36 (fun _ _ _ h => h) h
set_option maxRecDepth 20000 in
theorem sb_X6_shares_111 {J : Nat → q_K} {l : Launch} {Qp : Option q_V → q_M → Prop} (E : q_E J cX6_shares RX6 wsX6_shares 8 l rm_X6_shares) (T : q_T J cX6_shares (some .boolean) Qp) (h_X6_spans : q_Ct yX6_spans wsX6_spans rm_X6_spans S_X6_spans) (h_X6_wheelAt : q_Ct yX6_wheelAt wsX6_wheelAt rm_X6_wheelAt S_X6_wheelAt) (h_X6_reasons : q_Ct yX6_reasons wsX6_reasons rm_X6_reasons S_X6_reasons) (h_X6_works : q_Ct yX6_works wsX6_works rm_X6_works S_X6_works) (h_X6_wishOf : q_Ct yX6_wishOf wsX6_wishOf rm_X6_wishOf S_X6_wishOf) (h_X6_held : q_Ct yX6_held wsX6_held rm_X6_held S_X6_held) (h_X6_room : q_Ct yX6_room wsX6_room rm_X6_room S_X6_room) (h_X6_gives : q_Ct yX6_gives wsX6_gives rm_X6_gives S_X6_gives) : ∀ (σ : q_M) (lv : q_L) (st : q_S), k_X6_shares_111 Qp J σ lv st → J 111 σ lv st := fun σ lv st h =>
    so_iconst E (x := 0) dX6_shares_111 h fun σ lv st h =>
    so_zret T dX6_shares_112 h
set_option maxRecDepth 20000 in
theorem sb_X6_shares_104 {J : Nat → q_K} {l : Launch} {Qp : Option q_V → q_M → Prop} (E : q_E J cX6_shares RX6 wsX6_shares 8 l rm_X6_shares) (T : q_T J cX6_shares (some .boolean) Qp) (h_X6_spans : q_Ct yX6_spans wsX6_spans rm_X6_spans S_X6_spans) (h_X6_wheelAt : q_Ct yX6_wheelAt wsX6_wheelAt rm_X6_wheelAt S_X6_wheelAt) (h_X6_reasons : q_Ct yX6_reasons wsX6_reasons rm_X6_reasons S_X6_reasons) (h_X6_works : q_Ct yX6_works wsX6_works rm_X6_works S_X6_works) (h_X6_wishOf : q_Ct yX6_wishOf wsX6_wishOf rm_X6_wishOf S_X6_wishOf) (h_X6_held : q_Ct yX6_held wsX6_held rm_X6_held S_X6_held) (h_X6_room : q_Ct yX6_room wsX6_room rm_X6_room S_X6_room) (h_X6_gives : q_Ct yX6_gives wsX6_gives rm_X6_gives S_X6_gives) : ∀ (σ : q_M) (lv : q_L) (st : q_S), k_X6_shares_104 Qp J σ lv st → J 104 σ lv st := fun σ lv st h =>
    so_last E dX6_shares_104 h fun σ lv st h =>
    so_iinc E (i := 1) (n := -1) (by decide) dX6_shares_105 h fun σ lv st h =>
    so_goto E 70 (by decide) dX6_shares_108 (fun _ _ _ h => h) h
set_option maxRecDepth 20000 in
theorem sb_X6_shares_98 {J : Nat → q_K} {l : Launch} {Qp : Option q_V → q_M → Prop} (E : q_E J cX6_shares RX6 wsX6_shares 8 l rm_X6_shares) (T : q_T J cX6_shares (some .boolean) Qp) (h_X6_spans : q_Ct yX6_spans wsX6_spans rm_X6_spans S_X6_spans) (h_X6_wheelAt : q_Ct yX6_wheelAt wsX6_wheelAt rm_X6_wheelAt S_X6_wheelAt) (h_X6_reasons : q_Ct yX6_reasons wsX6_reasons rm_X6_reasons S_X6_reasons) (h_X6_works : q_Ct yX6_works wsX6_works rm_X6_works S_X6_works) (h_X6_wishOf : q_Ct yX6_wishOf wsX6_wishOf rm_X6_wishOf S_X6_wishOf) (h_X6_held : q_Ct yX6_held wsX6_held rm_X6_held S_X6_held) (h_X6_room : q_Ct yX6_room wsX6_room rm_X6_room S_X6_room) (h_X6_gives : q_Ct yX6_gives wsX6_gives rm_X6_gives S_X6_gives) : ∀ (σ : q_M) (lv : q_L) (st : q_S), k_X6_shares_98 Qp J σ lv st → J 98 σ lv st := fun σ lv st h =>
    so_ldc2 E (x := 10) (idx := 37) (v := 10) (List.mem_of_getElem? (i := 5) rfl) rfl dX6_shares_98 h fun σ lv st h =>
    so_iload_n E (i := 1) rfl dX6_shares_101 h fun σ lv st h =>
    so_i2l E dX6_shares_102 h fun σ lv st h =>
    so_ladd E dX6_shares_103 h fun σ lv st h =>
    (sb_X6_shares_104 E T h_X6_spans h_X6_wheelAt h_X6_reasons h_X6_works h_X6_wishOf h_X6_held h_X6_room h_X6_gives) σ lv st h
set_option maxRecDepth 20000 in
theorem sb_X6_shares_70 {J : Nat → q_K} {l : Launch} {Qp : Option q_V → q_M → Prop} (E : q_E J cX6_shares RX6 wsX6_shares 8 l rm_X6_shares) (T : q_T J cX6_shares (some .boolean) Qp) (h_X6_spans : q_Ct yX6_spans wsX6_spans rm_X6_spans S_X6_spans) (h_X6_wheelAt : q_Ct yX6_wheelAt wsX6_wheelAt rm_X6_wheelAt S_X6_wheelAt) (h_X6_reasons : q_Ct yX6_reasons wsX6_reasons rm_X6_reasons S_X6_reasons) (h_X6_works : q_Ct yX6_works wsX6_works rm_X6_works S_X6_works) (h_X6_wishOf : q_Ct yX6_wishOf wsX6_wishOf rm_X6_wishOf S_X6_wishOf) (h_X6_held : q_Ct yX6_held wsX6_held rm_X6_held S_X6_held) (h_X6_room : q_Ct yX6_room wsX6_room rm_X6_room S_X6_room) (h_X6_gives : q_Ct yX6_gives wsX6_gives rm_X6_gives S_X6_gives) : ∀ (σ : q_M) (lv : q_L) (st : q_S), k_X6_shares_70 Qp J σ lv st → J 70 σ lv st := fun σ lv st h =>
    so_iload_n E (i := 1) rfl dX6_shares_70 h fun σ lv st h =>
    so_iflt E 111 (by decide) dX6_shares_71 (sb_X6_shares_111 E T h_X6_spans h_X6_wheelAt h_X6_reasons h_X6_works h_X6_wishOf h_X6_held h_X6_room h_X6_gives) h fun σ lv st h =>
    so_aload_n E (i := 0) rfl dX6_shares_74 h fun σ lv st h =>
    so_get E (pp := 24) (fi := 0) (C := RX6) (T := TX6) (N := 11) (ref := "WheelDeskModel") ⟨rfl, rfl, rfl⟩ rfl fi_X6_shares_X6 (by decide) rfl (List.mem_of_getElem? (i := 2) rfl) dX6_shares_75 h fun σ lv st h =>
    so_bipush E (x := 9) rfl dX6_shares_78 h fun σ lv st h =>
    so_aload_n E (i := 0) rfl dX6_shares_80 h fun σ lv st h =>
    so_iload_n E (i := 1) rfl dX6_shares_81 h fun σ lv st h =>
    so_callV E (n := 1) (pp := 24) (C := RX6) (T := TX6) (N := 11) (idx := 108) (maxL := 2) (ret := (some .boolean)) h_X6_works ⟨rfl, rfl, rfl⟩ rfl gX6_shares_X6_works rfl ⟨rfl, rfl⟩ (by decide +kernel) (by decide) dX6_shares_82 h fun σ lv st h =>
    so_ifeq E 98 (by decide) dX6_shares_85 (sb_X6_shares_98 E T h_X6_spans h_X6_wheelAt h_X6_reasons h_X6_works h_X6_wishOf h_X6_held h_X6_room h_X6_gives) h fun σ lv st h =>
    so_aload_n E (i := 0) rfl dX6_shares_88 h fun σ lv st h =>
    so_get E (pp := 24) (fi := 0) (C := RX6) (T := TX6) (N := 11) (ref := "WheelDeskModel") ⟨rfl, rfl, rfl⟩ rfl fi_X6_shares_X6 (by decide) rfl (List.mem_of_getElem? (i := 2) rfl) dX6_shares_89 h fun σ lv st h =>
    so_bipush E (x := 9) rfl dX6_shares_92 h fun σ lv st h =>
    so_lald E dX6_shares_94 h fun σ lv st h =>
    so_goto E 104 (by decide) dX6_shares_95 (sb_X6_shares_104 E T h_X6_spans h_X6_wheelAt h_X6_reasons h_X6_works h_X6_wishOf h_X6_held h_X6_room h_X6_gives) h
set_option maxRecDepth 20000 in
theorem sb_X6_shares_275 {J : Nat → q_K} {l : Launch} {Qp : Option q_V → q_M → Prop} (E : q_E J cX6_shares RX6 wsX6_shares 8 l rm_X6_shares) (T : q_T J cX6_shares (some .boolean) Qp) (h_X6_spans : q_Ct yX6_spans wsX6_spans rm_X6_spans S_X6_spans) (h_X6_wheelAt : q_Ct yX6_wheelAt wsX6_wheelAt rm_X6_wheelAt S_X6_wheelAt) (h_X6_reasons : q_Ct yX6_reasons wsX6_reasons rm_X6_reasons S_X6_reasons) (h_X6_works : q_Ct yX6_works wsX6_works rm_X6_works S_X6_works) (h_X6_wishOf : q_Ct yX6_wishOf wsX6_wishOf rm_X6_wishOf S_X6_wishOf) (h_X6_held : q_Ct yX6_held wsX6_held rm_X6_held S_X6_held) (h_X6_room : q_Ct yX6_room wsX6_room rm_X6_room S_X6_room) (h_X6_gives : q_Ct yX6_gives wsX6_gives rm_X6_gives S_X6_gives) : ∀ (σ : q_M) (lv : q_L) (st : q_S), k_X6_shares_275 Qp J σ lv st → J 275 σ lv st := fun σ lv st h =>
    so_zret T dX6_shares_275 h
set_option maxRecDepth 20000 in
theorem sb_X6_shares_274 {J : Nat → q_K} {l : Launch} {Qp : Option q_V → q_M → Prop} (E : q_E J cX6_shares RX6 wsX6_shares 8 l rm_X6_shares) (T : q_T J cX6_shares (some .boolean) Qp) (h_X6_spans : q_Ct yX6_spans wsX6_spans rm_X6_spans S_X6_spans) (h_X6_wheelAt : q_Ct yX6_wheelAt wsX6_wheelAt rm_X6_wheelAt S_X6_wheelAt) (h_X6_reasons : q_Ct yX6_reasons wsX6_reasons rm_X6_reasons S_X6_reasons) (h_X6_works : q_Ct yX6_works wsX6_works rm_X6_works S_X6_works) (h_X6_wishOf : q_Ct yX6_wishOf wsX6_wishOf rm_X6_wishOf S_X6_wishOf) (h_X6_held : q_Ct yX6_held wsX6_held rm_X6_held S_X6_held) (h_X6_room : q_Ct yX6_room wsX6_room rm_X6_room S_X6_room) (h_X6_gives : q_Ct yX6_gives wsX6_gives rm_X6_gives S_X6_gives) : ∀ (σ : q_M) (lv : q_L) (st : q_S), k_X6_shares_274 Qp J σ lv st → J 274 σ lv st := fun σ lv st h =>
    so_iconst E (x := 0) dX6_shares_274 h fun σ lv st h =>
    (sb_X6_shares_275 E T h_X6_spans h_X6_wheelAt h_X6_reasons h_X6_works h_X6_wishOf h_X6_held h_X6_room h_X6_gives) σ lv st h
set_option maxRecDepth 20000 in
theorem sb_X6_shares_258 {J : Nat → q_K} {l : Launch} {Qp : Option q_V → q_M → Prop} (E : q_E J cX6_shares RX6 wsX6_shares 8 l rm_X6_shares) (T : q_T J cX6_shares (some .boolean) Qp) (h_X6_spans : q_Ct yX6_spans wsX6_spans rm_X6_spans S_X6_spans) (h_X6_wheelAt : q_Ct yX6_wheelAt wsX6_wheelAt rm_X6_wheelAt S_X6_wheelAt) (h_X6_reasons : q_Ct yX6_reasons wsX6_reasons rm_X6_reasons S_X6_reasons) (h_X6_works : q_Ct yX6_works wsX6_works rm_X6_works S_X6_works) (h_X6_wishOf : q_Ct yX6_wishOf wsX6_wishOf rm_X6_wishOf S_X6_wishOf) (h_X6_held : q_Ct yX6_held wsX6_held rm_X6_held S_X6_held) (h_X6_room : q_Ct yX6_room wsX6_room rm_X6_room S_X6_room) (h_X6_gives : q_Ct yX6_gives wsX6_gives rm_X6_gives S_X6_gives) : ∀ (σ : q_M) (lv : q_L) (st : q_S), k_X6_shares_258 Qp J σ lv st → J 258 σ lv st := fun σ lv st h =>
    so_aload_n E (i := 0) rfl dX6_shares_258 h fun σ lv st h =>
    so_get E (pp := 24) (fi := 0) (C := RX6) (T := TX6) (N := 11) (ref := "WheelDeskModel") ⟨rfl, rfl, rfl⟩ rfl fi_X6_shares_X6 (by decide) rfl (List.mem_of_getElem? (i := 2) rfl) dX6_shares_259 h fun σ lv st h =>
    so_bipush E (x := 8) rfl dX6_shares_262 h fun σ lv st h =>
    so_lald E dX6_shares_264 h fun σ lv st h =>
    so_lconst E (x := 0) rfl dX6_shares_265 h fun σ lv st h =>
    so_lcmp E dX6_shares_266 h fun σ lv st h =>
    so_ifne E 274 (by decide) dX6_shares_267 (sb_X6_shares_274 E T h_X6_spans h_X6_wheelAt h_X6_reasons h_X6_works h_X6_wishOf h_X6_held h_X6_room h_X6_gives) h fun σ lv st h =>
    so_iconst E (x := 1) dX6_shares_270 h fun σ lv st h =>
    so_goto E 275 (by decide) dX6_shares_271 (sb_X6_shares_275 E T h_X6_spans h_X6_wheelAt h_X6_reasons h_X6_works h_X6_wishOf h_X6_held h_X6_room h_X6_gives) h
set_option maxRecDepth 20000 in
theorem sb_X6_shares_252 {J : Nat → q_K} {l : Launch} {Qp : Option q_V → q_M → Prop} (E : q_E J cX6_shares RX6 wsX6_shares 8 l rm_X6_shares) (T : q_T J cX6_shares (some .boolean) Qp) (h_X6_spans : q_Ct yX6_spans wsX6_spans rm_X6_spans S_X6_spans) (h_X6_wheelAt : q_Ct yX6_wheelAt wsX6_wheelAt rm_X6_wheelAt S_X6_wheelAt) (h_X6_reasons : q_Ct yX6_reasons wsX6_reasons rm_X6_reasons S_X6_reasons) (h_X6_works : q_Ct yX6_works wsX6_works rm_X6_works S_X6_works) (h_X6_wishOf : q_Ct yX6_wishOf wsX6_wishOf rm_X6_wishOf S_X6_wishOf) (h_X6_held : q_Ct yX6_held wsX6_held rm_X6_held S_X6_held) (h_X6_room : q_Ct yX6_room wsX6_room rm_X6_room S_X6_room) (h_X6_gives : q_Ct yX6_gives wsX6_gives rm_X6_gives S_X6_gives) : ∀ (σ : q_M) (lv : q_L) (st : q_S), k_X6_shares_252 Qp J σ lv st → J 252 σ lv st := fun σ lv st h =>
    so_iinc E (i := 1) (n := 1) (by decide) dX6_shares_252 h fun σ lv st h =>
    so_goto E 126 (by decide) dX6_shares_255 (fun _ _ _ h => h) h
set_option maxRecDepth 20000 in
theorem sb_X6_shares_245 {J : Nat → q_K} {l : Launch} {Qp : Option q_V → q_M → Prop} (E : q_E J cX6_shares RX6 wsX6_shares 8 l rm_X6_shares) (T : q_T J cX6_shares (some .boolean) Qp) (h_X6_spans : q_Ct yX6_spans wsX6_spans rm_X6_spans S_X6_spans) (h_X6_wheelAt : q_Ct yX6_wheelAt wsX6_wheelAt rm_X6_wheelAt S_X6_wheelAt) (h_X6_reasons : q_Ct yX6_reasons wsX6_reasons rm_X6_reasons S_X6_reasons) (h_X6_works : q_Ct yX6_works wsX6_works rm_X6_works S_X6_works) (h_X6_wishOf : q_Ct yX6_wishOf wsX6_wishOf rm_X6_wishOf S_X6_wishOf) (h_X6_held : q_Ct yX6_held wsX6_held rm_X6_held S_X6_held) (h_X6_room : q_Ct yX6_room wsX6_room rm_X6_room S_X6_room) (h_X6_gives : q_Ct yX6_gives wsX6_gives rm_X6_gives S_X6_gives) : ∀ (σ : q_M) (lv : q_L) (st : q_S), k_X6_shares_245 Qp J σ lv st → J 245 σ lv st := fun σ lv st h =>
    so_aload_n E (i := 0) rfl dX6_shares_245 h fun σ lv st h =>
    so_iload_n E (i := 1) rfl dX6_shares_246 h fun σ lv st h =>
    so_lload E (i := 6) dX6_shares_247 h fun σ lv st h =>
    so_callV E (n := 2) (pp := 24) (C := RX6) (T := TX6) (N := 11) (idx := 143) (maxL := 5) (ret := none) h_X6_gives ⟨rfl, rfl, rfl⟩ rfl gX6_shares_X6_gives rfl ⟨rfl, rfl⟩ (by decide +kernel) (by decide) dX6_shares_249 h fun σ lv st h =>
    (sb_X6_shares_252 E T h_X6_spans h_X6_wheelAt h_X6_reasons h_X6_works h_X6_wishOf h_X6_held h_X6_room h_X6_gives) σ lv st h
set_option maxRecDepth 20000 in
theorem sb_X6_shares_242 {J : Nat → q_K} {l : Launch} {Qp : Option q_V → q_M → Prop} (E : q_E J cX6_shares RX6 wsX6_shares 8 l rm_X6_shares) (T : q_T J cX6_shares (some .boolean) Qp) (h_X6_spans : q_Ct yX6_spans wsX6_spans rm_X6_spans S_X6_spans) (h_X6_wheelAt : q_Ct yX6_wheelAt wsX6_wheelAt rm_X6_wheelAt S_X6_wheelAt) (h_X6_reasons : q_Ct yX6_reasons wsX6_reasons rm_X6_reasons S_X6_reasons) (h_X6_works : q_Ct yX6_works wsX6_works rm_X6_works S_X6_works) (h_X6_wishOf : q_Ct yX6_wishOf wsX6_wishOf rm_X6_wishOf S_X6_wishOf) (h_X6_held : q_Ct yX6_held wsX6_held rm_X6_held S_X6_held) (h_X6_room : q_Ct yX6_room wsX6_room rm_X6_room S_X6_room) (h_X6_gives : q_Ct yX6_gives wsX6_gives rm_X6_gives S_X6_gives) : ∀ (σ : q_M) (lv : q_L) (st : q_S), k_X6_shares_242 Qp J σ lv st → J 242 σ lv st := fun σ lv st h =>
    so_callV E (n := 3) (pp := 24) (C := RX6) (T := TX6) (N := 11) (idx := 53) (maxL := 7) (ret := none) h_X6_reasons ⟨rfl, rfl, rfl⟩ rfl gX6_shares_X6_reasons rfl ⟨rfl, rfl⟩ (by decide +kernel) (by decide) dX6_shares_242 h fun σ lv st h =>
    (sb_X6_shares_245 E T h_X6_spans h_X6_wheelAt h_X6_reasons h_X6_works h_X6_wishOf h_X6_held h_X6_room h_X6_gives) σ lv st h
set_option maxRecDepth 20000 in
theorem sb_X6_shares_239 {J : Nat → q_K} {l : Launch} {Qp : Option q_V → q_M → Prop} (E : q_E J cX6_shares RX6 wsX6_shares 8 l rm_X6_shares) (T : q_T J cX6_shares (some .boolean) Qp) (h_X6_spans : q_Ct yX6_spans wsX6_spans rm_X6_spans S_X6_spans) (h_X6_wheelAt : q_Ct yX6_wheelAt wsX6_wheelAt rm_X6_wheelAt S_X6_wheelAt) (h_X6_reasons : q_Ct yX6_reasons wsX6_reasons rm_X6_reasons S_X6_reasons) (h_X6_works : q_Ct yX6_works wsX6_works rm_X6_works S_X6_works) (h_X6_wishOf : q_Ct yX6_wishOf wsX6_wishOf rm_X6_wishOf S_X6_wishOf) (h_X6_held : q_Ct yX6_held wsX6_held rm_X6_held S_X6_held) (h_X6_room : q_Ct yX6_room wsX6_room rm_X6_room S_X6_room) (h_X6_gives : q_Ct yX6_gives wsX6_gives rm_X6_gives S_X6_gives) : ∀ (σ : q_M) (lv : q_L) (st : q_S), k_X6_shares_239 Qp J σ lv st → J 239 σ lv st := fun σ lv st h =>
    so_ldc2 E (x := 3) (idx := 141) (v := 3) (List.mem_of_getElem? (i := 10) rfl) rfl dX6_shares_239 h fun σ lv st h =>
    (sb_X6_shares_242 E T h_X6_spans h_X6_wheelAt h_X6_reasons h_X6_works h_X6_wishOf h_X6_held h_X6_room h_X6_gives) σ lv st h
set_option maxRecDepth 20000 in
theorem sb_X6_shares_126 {J : Nat → q_K} {l : Launch} {Qp : Option q_V → q_M → Prop} (E : q_E J cX6_shares RX6 wsX6_shares 8 l rm_X6_shares) (T : q_T J cX6_shares (some .boolean) Qp) (h_X6_spans : q_Ct yX6_spans wsX6_spans rm_X6_spans S_X6_spans) (h_X6_wheelAt : q_Ct yX6_wheelAt wsX6_wheelAt rm_X6_wheelAt S_X6_wheelAt) (h_X6_reasons : q_Ct yX6_reasons wsX6_reasons rm_X6_reasons S_X6_reasons) (h_X6_works : q_Ct yX6_works wsX6_works rm_X6_works S_X6_works) (h_X6_wishOf : q_Ct yX6_wishOf wsX6_wishOf rm_X6_wishOf S_X6_wishOf) (h_X6_held : q_Ct yX6_held wsX6_held rm_X6_held S_X6_held) (h_X6_room : q_Ct yX6_room wsX6_room rm_X6_room S_X6_room) (h_X6_gives : q_Ct yX6_gives wsX6_gives rm_X6_gives S_X6_gives) : ∀ (σ : q_M) (lv : q_L) (st : q_S), k_X6_shares_126 Qp J σ lv st → J 126 σ lv st := fun σ lv st h =>
    so_iload_n E (i := 1) rfl dX6_shares_126 h fun σ lv st h =>
    so_i2l E dX6_shares_127 h fun σ lv st h =>
    so_aload_n E (i := 0) rfl dX6_shares_128 h fun σ lv st h =>
    so_get E (pp := 24) (fi := 0) (C := RX6) (T := TX6) (N := 11) (ref := "WheelDeskModel") ⟨rfl, rfl, rfl⟩ rfl fi_X6_shares_X6 (by decide) rfl (List.mem_of_getElem? (i := 2) rfl) dX6_shares_129 h fun σ lv st h =>
    so_bipush E (x := 6) rfl dX6_shares_132 h fun σ lv st h =>
    so_lald E dX6_shares_134 h fun σ lv st h =>
    so_lcmp E dX6_shares_135 h fun σ lv st h =>
    so_ifge E 258 (by decide) dX6_shares_136 (sb_X6_shares_258 E T h_X6_spans h_X6_wheelAt h_X6_reasons h_X6_works h_X6_wishOf h_X6_held h_X6_room h_X6_gives) h fun σ lv st h =>
    so_aload_n E (i := 0) rfl dX6_shares_139 h fun σ lv st h =>
    so_iload_n E (i := 1) rfl dX6_shares_140 h fun σ lv st h =>
    so_callV E (n := 1) (pp := 24) (C := RX6) (T := TX6) (N := 11) (idx := 108) (maxL := 2) (ret := (some .boolean)) h_X6_works ⟨rfl, rfl, rfl⟩ rfl gX6_shares_X6_works rfl ⟨rfl, rfl⟩ (by decide +kernel) (by decide) dX6_shares_141 h fun σ lv st h =>
    so_ifeq E 252 (by decide) dX6_shares_144 (sb_X6_shares_252 E T h_X6_spans h_X6_wheelAt h_X6_reasons h_X6_works h_X6_wishOf h_X6_held h_X6_room h_X6_gives) h fun σ lv st h =>
    so_aload_n E (i := 0) rfl dX6_shares_147 h fun σ lv st h =>
    so_iload_n E (i := 1) rfl dX6_shares_148 h fun σ lv st h =>
    so_aload_n E (i := 0) rfl dX6_shares_149 h fun σ lv st h =>
    so_get E (pp := 24) (fi := 7) (C := RX6) (T := TX6) (N := 11) (ref := "WheelDeskModel") ⟨rfl, rfl, rfl⟩ rfl fi_X6_shares_X6 (by decide) rfl (List.mem_of_getElem? (i := 6) rfl) dX6_shares_150 h fun σ lv st h =>
    so_iconst E (x := 0) dX6_shares_153 h fun σ lv st h =>
    so_lald E dX6_shares_154 h fun σ lv st h =>
    so_aload_n E (i := 0) rfl dX6_shares_155 h fun σ lv st h =>
    so_get E (pp := 24) (fi := 7) (C := RX6) (T := TX6) (N := 11) (ref := "WheelDeskModel") ⟨rfl, rfl, rfl⟩ rfl fi_X6_shares_X6 (by decide) rfl (List.mem_of_getElem? (i := 6) rfl) dX6_shares_156 h fun σ lv st h =>
    so_iconst E (x := 1) dX6_shares_159 h fun σ lv st h =>
    so_lald E dX6_shares_160 h fun σ lv st h =>
    so_aload_n E (i := 0) rfl dX6_shares_161 h fun σ lv st h =>
    so_get E (pp := 24) (fi := 7) (C := RX6) (T := TX6) (N := 11) (ref := "WheelDeskModel") ⟨rfl, rfl, rfl⟩ rfl fi_X6_shares_X6 (by decide) rfl (List.mem_of_getElem? (i := 6) rfl) dX6_shares_162 h fun σ lv st h =>
    so_iconst E (x := 2) dX6_shares_165 h fun σ lv st h =>
    so_lald E dX6_shares_166 h fun σ lv st h =>
    so_callV E (n := 4) (pp := 24) (C := RX6) (T := TX6) (N := 11) (idx := 126) (maxL := 11) (ret := (some .long)) h_X6_wishOf ⟨rfl, rfl, rfl⟩ rfl gX6_shares_X6_wishOf rfl ⟨rfl, rfl⟩ (by decide +kernel) (by decide) dX6_shares_167 h fun σ lv st h =>
    so_lstore_n E (i := 2) rfl (by decide) dX6_shares_170 h fun σ lv st h =>
    so_lload_n E (i := 2) rfl dX6_shares_171 h fun σ lv st h =>
    so_aload_n E (i := 0) rfl dX6_shares_172 h fun σ lv st h =>
    so_get E (pp := 24) (fi := 0) (C := RX6) (T := TX6) (N := 11) (ref := "WheelDeskModel") ⟨rfl, rfl, rfl⟩ rfl fi_X6_shares_X6 (by decide) rfl (List.mem_of_getElem? (i := 2) rfl) dX6_shares_173 h fun σ lv st h =>
    so_iload_n E (i := 1) rfl dX6_shares_176 h fun σ lv st h =>
    so_iconst E (x := 5) dX6_shares_177 h fun σ lv st h =>
    so_callT E (n := 2) (idx := 71) (maxL := 2) (ret := (some .int)) h_X6_wheelAt gX6_shares_X6_wheelAt rfl ⟨rfl, rfl⟩ (by decide +kernel) (by decide) dX6_shares_178 h fun σ lv st h =>
    so_lald E dX6_shares_181 h fun σ lv st h =>
    so_callT E (n := 2) (idx := 130) (maxL := 4) (ret := (some .long)) h_X6_held gX6_shares_X6_held rfl ⟨rfl, rfl⟩ (by decide +kernel) (by decide) dX6_shares_182 h fun σ lv st h =>
    so_lstore E (i := 4) (by decide) dX6_shares_185 h fun σ lv st h =>
    so_aload_n E (i := 0) rfl dX6_shares_187 h fun σ lv st h =>
    so_iload_n E (i := 1) rfl dX6_shares_188 h fun σ lv st h =>
    so_lload E (i := 4) dX6_shares_189 h fun σ lv st h =>
    so_callV E (n := 2) (pp := 24) (C := RX6) (T := TX6) (N := 11) (idx := 133) (maxL := 8) (ret := (some .long)) h_X6_room ⟨rfl, rfl, rfl⟩ rfl gX6_shares_X6_room rfl ⟨rfl, rfl⟩ (by decide +kernel) (by decide) dX6_shares_191 h fun σ lv st h =>
    so_lstore E (i := 6) (by decide) dX6_shares_194 h fun σ lv st h =>
    so_lload E (i := 6) dX6_shares_196 h fun σ lv st h =>
    so_lload_n E (i := 2) rfl dX6_shares_198 h fun σ lv st h =>
    so_lcmp E dX6_shares_199 h fun σ lv st h =>
    so_ifeq E 245 (by decide) dX6_shares_200 (sb_X6_shares_245 E T h_X6_spans h_X6_wheelAt h_X6_reasons h_X6_works h_X6_wishOf h_X6_held h_X6_room h_X6_gives) h fun σ lv st h =>
    so_aload_n E (i := 0) rfl dX6_shares_203 h fun σ lv st h =>
    so_get E (pp := 24) (fi := 0) (C := RX6) (T := TX6) (N := 11) (ref := "WheelDeskModel") ⟨rfl, rfl, rfl⟩ rfl fi_X6_shares_X6 (by decide) rfl (List.mem_of_getElem? (i := 2) rfl) dX6_shares_204 h fun σ lv st h =>
    so_bipush E (x := 8) rfl dX6_shares_207 h fun σ lv st h =>
    so_lald E dX6_shares_209 h fun σ lv st h =>
    so_lconst E (x := 0) rfl dX6_shares_210 h fun σ lv st h =>
    so_lcmp E dX6_shares_211 h fun σ lv st h =>
    so_ifne E 245 (by decide) dX6_shares_212 (sb_X6_shares_245 E T h_X6_spans h_X6_wheelAt h_X6_reasons h_X6_works h_X6_wishOf h_X6_held h_X6_room h_X6_gives) h fun σ lv st h =>
    so_aload_n E (i := 0) rfl dX6_shares_215 h fun σ lv st h =>
    so_ldc2 E (x := 2) (idx := 61) (v := 2) (List.mem_of_getElem? (i := 7) rfl) rfl dX6_shares_216 h fun σ lv st h =>
    so_ldc2 E (x := 20) (idx := 137) (v := 20) (List.mem_of_getElem? (i := 8) rfl) rfl dX6_shares_219 h fun σ lv st h =>
    so_iload_n E (i := 1) rfl dX6_shares_222 h fun σ lv st h =>
    so_i2l E dX6_shares_223 h fun σ lv st h =>
    so_ladd E dX6_shares_224 h fun σ lv st h =>
    so_lload E (i := 6) dX6_shares_225 h fun σ lv st h =>
    so_lload E (i := 4) dX6_shares_227 h fun σ lv st h =>
    so_lcmp E dX6_shares_229 h fun σ lv st h =>
    so_ifne E 239 (by decide) dX6_shares_230 (sb_X6_shares_239 E T h_X6_spans h_X6_wheelAt h_X6_reasons h_X6_works h_X6_wishOf h_X6_held h_X6_room h_X6_gives) h fun σ lv st h =>
    so_ldc2 E (x := 4) (idx := 139) (v := 4) (List.mem_of_getElem? (i := 9) rfl) rfl dX6_shares_233 h fun σ lv st h =>
    so_goto E 242 (by decide) dX6_shares_236 (sb_X6_shares_242 E T h_X6_spans h_X6_wheelAt h_X6_reasons h_X6_works h_X6_wishOf h_X6_held h_X6_room h_X6_gives) h
theorem c_X6_shares (h_X6_spans : q_Ct yX6_spans wsX6_spans rm_X6_spans S_X6_spans) (h_X6_wheelAt : q_Ct yX6_wheelAt wsX6_wheelAt rm_X6_wheelAt S_X6_wheelAt) (h_X6_reasons : q_Ct yX6_reasons wsX6_reasons rm_X6_reasons S_X6_reasons) (h_X6_works : q_Ct yX6_works wsX6_works rm_X6_works S_X6_works) (h_X6_wishOf : q_Ct yX6_wishOf wsX6_wishOf rm_X6_wishOf S_X6_wishOf) (h_X6_held : q_Ct yX6_held wsX6_held rm_X6_held S_X6_held) (h_X6_room : q_Ct yX6_room wsX6_room rm_X6_room S_X6_room) (h_X6_gives : q_Ct yX6_gives wsX6_gives rm_X6_gives S_X6_gives) : q_Ct yX6_shares wsX6_shares rm_X6_shares S_X6_shares := by
  refine q_met (cc := cX6_shares) (maxL := 8) (ret := (some .boolean)) (own := RX6) (by decide +kernel) rfl rfl (fun σ vs Qp h => ?_) (fun l J σ vs Qp E T h => ?_)
  · unfold S_X6_shares at h
    split at h
    · exact Nat.le_of_ble_eq_true rfl
    · exact h.elim
  · unfold S_X6_shares at h
    split at h
    · next c0 p0 k0 =>
      obtain ⟨rfl, rfl, rfl, h⟩ := h
      exact v_X6_shares (so_C E) (sb_X6_shares_0 E T h_X6_spans h_X6_wheelAt h_X6_reasons h_X6_works h_X6_wishOf h_X6_held h_X6_room h_X6_gives) (sb_X6_shares_8 E T h_X6_spans h_X6_wheelAt h_X6_reasons h_X6_works h_X6_wishOf h_X6_held h_X6_room h_X6_gives) (sb_X6_shares_70 E T h_X6_spans h_X6_wheelAt h_X6_reasons h_X6_works h_X6_wishOf h_X6_held h_X6_room h_X6_gives) (sb_X6_shares_126 E T h_X6_spans h_X6_wheelAt h_X6_reasons h_X6_works h_X6_wishOf h_X6_held h_X6_room h_X6_gives) h
    · exact h.elim
theorem cc_X6_shares : q_Ct yX6_shares wsX6_shares rm_X6_shares S_X6_shares := c_X6_shares cc_X6_spans cc_X6_wheelAt cc_X6_reasons cc_X6_works cc_X6_wishOf cc_X6_held cc_X6_room cc_X6_gives

def rm_X6_product : Room := { frames := 1, cells := 0, slots := 0, locals := 21 }
set_option maxRecDepth 20000 in
theorem sb_X6_product_0 {J : Nat → q_K} {l : Launch} {Qp : Option q_V → q_M → Prop} (E : q_E J cX6_product RX6 wsX6_product 3 l rm_X6_product) (T : q_T J cX6_product (some .long) Qp) (h_X6_other : q_Ct yX6_other wsX6_other rm_X6_other S_X6_other) : ∀ (σ : q_M) (lv : q_L) (st : q_S), k_X6_product_0 Qp J σ lv st → J 0 σ lv st := fun σ lv st h =>
    so_aload_n E (i := 0) rfl dX6_product_0 h fun σ lv st h =>
    so_iload_n E (i := 2) rfl dX6_product_1 h fun σ lv st h =>
    so_iconst E (x := 1) dX6_product_2 h fun σ lv st h =>
    so_callT E (n := 2) (idx := 111) (maxL := 2) (ret := (some .int)) h_X6_other gX6_product_X6_other rfl ⟨rfl, rfl⟩ (by decide +kernel) (by decide) dX6_product_3 h fun σ lv st h =>
    so_lald E dX6_product_6 h fun σ lv st h =>
    so_aload_n E (i := 1) rfl dX6_product_7 h fun σ lv st h =>
    so_iload_n E (i := 2) rfl dX6_product_8 h fun σ lv st h =>
    so_iconst E (x := 2) dX6_product_9 h fun σ lv st h =>
    so_callT E (n := 2) (idx := 111) (maxL := 2) (ret := (some .int)) h_X6_other gX6_product_X6_other rfl ⟨rfl, rfl⟩ (by decide +kernel) (by decide) dX6_product_10 h fun σ lv st h =>
    so_lald E dX6_product_13 h fun σ lv st h =>
    so_lmul E dX6_product_14 h fun σ lv st h =>
    so_aload_n E (i := 0) rfl dX6_product_15 h fun σ lv st h =>
    so_iload_n E (i := 2) rfl dX6_product_16 h fun σ lv st h =>
    so_iconst E (x := 2) dX6_product_17 h fun σ lv st h =>
    so_callT E (n := 2) (idx := 111) (maxL := 2) (ret := (some .int)) h_X6_other gX6_product_X6_other rfl ⟨rfl, rfl⟩ (by decide +kernel) (by decide) dX6_product_18 h fun σ lv st h =>
    so_lald E dX6_product_21 h fun σ lv st h =>
    so_aload_n E (i := 1) rfl dX6_product_22 h fun σ lv st h =>
    so_iload_n E (i := 2) rfl dX6_product_23 h fun σ lv st h =>
    so_iconst E (x := 1) dX6_product_24 h fun σ lv st h =>
    so_callT E (n := 2) (idx := 111) (maxL := 2) (ret := (some .int)) h_X6_other gX6_product_X6_other rfl ⟨rfl, rfl⟩ (by decide +kernel) (by decide) dX6_product_25 h fun σ lv st h =>
    so_lald E dX6_product_28 h fun σ lv st h =>
    so_lmul E dX6_product_29 h fun σ lv st h =>
    so_lsub E dX6_product_30 h fun σ lv st h =>
    so_lret T dX6_product_31 h
theorem c_X6_product (h_X6_other : q_Ct yX6_other wsX6_other rm_X6_other S_X6_other) : q_Ct yX6_product wsX6_product rm_X6_product S_X6_product := by
  refine q_met (cc := cX6_product) (maxL := 3) (ret := (some .long)) (own := RX6) (by decide +kernel) rfl rfl (fun σ vs Qp h => ?_) (fun l J σ vs Qp E T h => ?_)
  · unfold S_X6_product at h
    split at h
    · exact Nat.le_of_ble_eq_true rfl
    · exact h.elim
  · unfold S_X6_product at h
    split at h
    · next c0 px k0 c1 py k1 i =>
      obtain ⟨rfl, rfl, rfl, rfl, h⟩ := h
      exact v_X6_product (so_C E) (sb_X6_product_0 E T h_X6_other) h
    · exact h.elim
theorem cc_X6_product : q_Ct yX6_product wsX6_product rm_X6_product S_X6_product := c_X6_product cc_X6_other

def rm_X6_drops : Room := { frames := 2, cells := 0, slots := 0, locals := 44 }
theorem fi_X6_drops_X6 : ∀ w ∈ u_ws RX6 TX6 11, w ∈ wsX6_drops := fun w h => List.mem_cons_of_mem _ (List.mem_append_right _ h)
set_option maxRecDepth 20000 in
theorem sb_X6_drops_0 {J : Nat → q_K} {l : Launch} {Qp : Option q_V → q_M → Prop} (E : q_E J cX6_drops RX6 wsX6_drops 3 l rm_X6_drops) (T : q_T J cX6_drops none Qp) (h_X6_axisAt : q_Ct yX6_axisAt wsX6_axisAt rm_X6_axisAt S_X6_axisAt) (h_X6_wheelAt : q_Ct yX6_wheelAt wsX6_wheelAt rm_X6_wheelAt S_X6_wheelAt) (h_X6_product : q_Ct yX6_product wsX6_product rm_X6_product S_X6_product) (h_X6_div : q_Ct yX6_div wsX6_div rm_X6_div S_X6_div) (h_X6_held : q_Ct yX6_held wsX6_held rm_X6_held S_X6_held) (h_X6_pushes : q_Ct yX6_pushes wsX6_pushes rm_X6_pushes S_X6_pushes) : ∀ (σ : q_M) (lv : q_L) (st : q_S), k_X6_drops_0 Qp J σ lv st → J 0 σ lv st := fun σ lv st h =>
    so_iconst E (x := 0) dX6_drops_0 h fun σ lv st h =>
    so_istore_n E (i := 1) rfl (by decide) dX6_drops_1 h fun σ lv st h =>
    h
set_option maxRecDepth 20000 in
theorem sb_X6_drops_87 {J : Nat → q_K} {l : Launch} {Qp : Option q_V → q_M → Prop} (E : q_E J cX6_drops RX6 wsX6_drops 3 l rm_X6_drops) (T : q_T J cX6_drops none Qp) (h_X6_axisAt : q_Ct yX6_axisAt wsX6_axisAt rm_X6_axisAt S_X6_axisAt) (h_X6_wheelAt : q_Ct yX6_wheelAt wsX6_wheelAt rm_X6_wheelAt S_X6_wheelAt) (h_X6_product : q_Ct yX6_product wsX6_product rm_X6_product S_X6_product) (h_X6_div : q_Ct yX6_div wsX6_div rm_X6_div S_X6_div) (h_X6_held : q_Ct yX6_held wsX6_held rm_X6_held S_X6_held) (h_X6_pushes : q_Ct yX6_pushes wsX6_pushes rm_X6_pushes S_X6_pushes) : ∀ (σ : q_M) (lv : q_L) (st : q_S), k_X6_drops_87 Qp J σ lv st → J 87 σ lv st := fun σ lv st h =>
    so_iconst E (x := 0) dX6_drops_87 h fun σ lv st h =>
    so_istore_n E (i := 1) rfl (by decide) dX6_drops_88 h fun σ lv st h =>
    h
set_option maxRecDepth 20000 in
theorem sb_X6_drops_2 {J : Nat → q_K} {l : Launch} {Qp : Option q_V → q_M → Prop} (E : q_E J cX6_drops RX6 wsX6_drops 3 l rm_X6_drops) (T : q_T J cX6_drops none Qp) (h_X6_axisAt : q_Ct yX6_axisAt wsX6_axisAt rm_X6_axisAt S_X6_axisAt) (h_X6_wheelAt : q_Ct yX6_wheelAt wsX6_wheelAt rm_X6_wheelAt S_X6_wheelAt) (h_X6_product : q_Ct yX6_product wsX6_product rm_X6_product S_X6_product) (h_X6_div : q_Ct yX6_div wsX6_div rm_X6_div S_X6_div) (h_X6_held : q_Ct yX6_held wsX6_held rm_X6_held S_X6_held) (h_X6_pushes : q_Ct yX6_pushes wsX6_pushes rm_X6_pushes S_X6_pushes) : ∀ (σ : q_M) (lv : q_L) (st : q_S), k_X6_drops_2 Qp J σ lv st → J 2 σ lv st := fun σ lv st h =>
    so_iload_n E (i := 1) rfl dX6_drops_2 h fun σ lv st h =>
    so_iconst E (x := 3) dX6_drops_3 h fun σ lv st h =>
    so_icmpge E 87 (by decide) dX6_drops_4 (sb_X6_drops_87 E T h_X6_axisAt h_X6_wheelAt h_X6_product h_X6_div h_X6_held h_X6_pushes) h fun σ lv st h =>
    so_aload_n E (i := 0) rfl dX6_drops_7 h fun σ lv st h =>
    so_get E (pp := 24) (fi := 9) (C := RX6) (T := TX6) (N := 11) (ref := "WheelDeskModel") ⟨rfl, rfl, rfl⟩ rfl fi_X6_drops_X6 (by decide) rfl (List.mem_of_getElem? (i := 1) rfl) dX6_drops_8 h fun σ lv st h =>
    so_iload_n E (i := 1) rfl dX6_drops_11 h fun σ lv st h =>
    so_aload_n E (i := 0) rfl dX6_drops_12 h fun σ lv st h =>
    so_get E (pp := 24) (fi := 0) (C := RX6) (T := TX6) (N := 11) (ref := "WheelDeskModel") ⟨rfl, rfl, rfl⟩ rfl fi_X6_drops_X6 (by decide) rfl (List.mem_of_getElem? (i := 2) rfl) dX6_drops_13 h fun σ lv st h =>
    so_iload_n E (i := 1) rfl dX6_drops_16 h fun σ lv st h =>
    so_iconst E (x := 4) dX6_drops_17 h fun σ lv st h =>
    so_callT E (n := 2) (idx := 45) (maxL := 2) (ret := (some .int)) h_X6_axisAt gX6_drops_X6_axisAt rfl ⟨rfl, rfl⟩ (by decide +kernel) (by decide) dX6_drops_18 h fun σ lv st h =>
    so_lald E dX6_drops_21 h fun σ lv st h =>
    so_last E dX6_drops_22 h fun σ lv st h =>
    so_aload_n E (i := 0) rfl dX6_drops_23 h fun σ lv st h =>
    so_get E (pp := 24) (fi := 8) (C := RX6) (T := TX6) (N := 11) (ref := "WheelDeskModel") ⟨rfl, rfl, rfl⟩ rfl fi_X6_drops_X6 (by decide) rfl (List.mem_of_getElem? (i := 3) rfl) dX6_drops_24 h fun σ lv st h =>
    so_iload_n E (i := 1) rfl dX6_drops_27 h fun σ lv st h =>
    so_lconst E (x := 0) rfl dX6_drops_28 h fun σ lv st h =>
    so_last E dX6_drops_29 h fun σ lv st h =>
    so_iconst E (x := 0) dX6_drops_30 h fun σ lv st h =>
    so_istore_n E (i := 2) rfl (by decide) dX6_drops_31 h fun σ lv st h =>
    h
set_option maxRecDepth 20000 in
theorem sb_X6_drops_81 {J : Nat → q_K} {l : Launch} {Qp : Option q_V → q_M → Prop} (E : q_E J cX6_drops RX6 wsX6_drops 3 l rm_X6_drops) (T : q_T J cX6_drops none Qp) (h_X6_axisAt : q_Ct yX6_axisAt wsX6_axisAt rm_X6_axisAt S_X6_axisAt) (h_X6_wheelAt : q_Ct yX6_wheelAt wsX6_wheelAt rm_X6_wheelAt S_X6_wheelAt) (h_X6_product : q_Ct yX6_product wsX6_product rm_X6_product S_X6_product) (h_X6_div : q_Ct yX6_div wsX6_div rm_X6_div S_X6_div) (h_X6_held : q_Ct yX6_held wsX6_held rm_X6_held S_X6_held) (h_X6_pushes : q_Ct yX6_pushes wsX6_pushes rm_X6_pushes S_X6_pushes) : ∀ (σ : q_M) (lv : q_L) (st : q_S), k_X6_drops_81 Qp J σ lv st → J 81 σ lv st := fun σ lv st h =>
    so_iinc E (i := 1) (n := 1) (by decide) dX6_drops_81 h fun σ lv st h =>
    so_goto E 2 (by decide) dX6_drops_84 (fun _ _ _ h => h) h
set_option maxRecDepth 20000 in
theorem sb_X6_drops_32 {J : Nat → q_K} {l : Launch} {Qp : Option q_V → q_M → Prop} (E : q_E J cX6_drops RX6 wsX6_drops 3 l rm_X6_drops) (T : q_T J cX6_drops none Qp) (h_X6_axisAt : q_Ct yX6_axisAt wsX6_axisAt rm_X6_axisAt S_X6_axisAt) (h_X6_wheelAt : q_Ct yX6_wheelAt wsX6_wheelAt rm_X6_wheelAt S_X6_wheelAt) (h_X6_product : q_Ct yX6_product wsX6_product rm_X6_product S_X6_product) (h_X6_div : q_Ct yX6_div wsX6_div rm_X6_div S_X6_div) (h_X6_held : q_Ct yX6_held wsX6_held rm_X6_held S_X6_held) (h_X6_pushes : q_Ct yX6_pushes wsX6_pushes rm_X6_pushes S_X6_pushes) : ∀ (σ : q_M) (lv : q_L) (st : q_S), k_X6_drops_32 Qp J σ lv st → J 32 σ lv st := fun σ lv st h =>
    so_iload_n E (i := 2) rfl dX6_drops_32 h fun σ lv st h =>
    so_i2l E dX6_drops_33 h fun σ lv st h =>
    so_aload_n E (i := 0) rfl dX6_drops_34 h fun σ lv st h =>
    so_get E (pp := 24) (fi := 0) (C := RX6) (T := TX6) (N := 11) (ref := "WheelDeskModel") ⟨rfl, rfl, rfl⟩ rfl fi_X6_drops_X6 (by decide) rfl (List.mem_of_getElem? (i := 2) rfl) dX6_drops_35 h fun σ lv st h =>
    so_bipush E (x := 6) rfl dX6_drops_38 h fun σ lv st h =>
    so_lald E dX6_drops_40 h fun σ lv st h =>
    so_lcmp E dX6_drops_41 h fun σ lv st h =>
    so_ifge E 81 (by decide) dX6_drops_42 (sb_X6_drops_81 E T h_X6_axisAt h_X6_wheelAt h_X6_product h_X6_div h_X6_held h_X6_pushes) h fun σ lv st h =>
    so_aload_n E (i := 0) rfl dX6_drops_45 h fun σ lv st h =>
    so_get E (pp := 24) (fi := 8) (C := RX6) (T := TX6) (N := 11) (ref := "WheelDeskModel") ⟨rfl, rfl, rfl⟩ rfl fi_X6_drops_X6 (by decide) rfl (List.mem_of_getElem? (i := 3) rfl) dX6_drops_46 h fun σ lv st h =>
    so_iload_n E (i := 1) rfl dX6_drops_49 h fun σ lv st h =>
    so_dup2 E dX6_drops_50 h fun σ lv st h =>
    so_lald E dX6_drops_51 h fun σ lv st h =>
    so_aload_n E (i := 0) rfl dX6_drops_52 h fun σ lv st h =>
    so_get E (pp := 24) (fi := 0) (C := RX6) (T := TX6) (N := 11) (ref := "WheelDeskModel") ⟨rfl, rfl, rfl⟩ rfl fi_X6_drops_X6 (by decide) rfl (List.mem_of_getElem? (i := 2) rfl) dX6_drops_53 h fun σ lv st h =>
    so_iload_n E (i := 2) rfl dX6_drops_56 h fun σ lv st h =>
    so_iload_n E (i := 1) rfl dX6_drops_57 h fun σ lv st h =>
    so_callT E (n := 2) (idx := 71) (maxL := 2) (ret := (some .int)) h_X6_wheelAt gX6_drops_X6_wheelAt rfl ⟨rfl, rfl⟩ (by decide +kernel) (by decide) dX6_drops_58 h fun σ lv st h =>
    so_lald E dX6_drops_61 h fun σ lv st h =>
    so_aload_n E (i := 0) rfl dX6_drops_62 h fun σ lv st h =>
    so_get E (pp := 24) (fi := 0) (C := RX6) (T := TX6) (N := 11) (ref := "WheelDeskModel") ⟨rfl, rfl, rfl⟩ rfl fi_X6_drops_X6 (by decide) rfl (List.mem_of_getElem? (i := 2) rfl) dX6_drops_63 h fun σ lv st h =>
    so_iload_n E (i := 2) rfl dX6_drops_66 h fun σ lv st h =>
    so_iconst E (x := 3) dX6_drops_67 h fun σ lv st h =>
    so_callT E (n := 2) (idx := 71) (maxL := 2) (ret := (some .int)) h_X6_wheelAt gX6_drops_X6_wheelAt rfl ⟨rfl, rfl⟩ (by decide +kernel) (by decide) dX6_drops_68 h fun σ lv st h =>
    so_lald E dX6_drops_71 h fun σ lv st h =>
    so_lmul E dX6_drops_72 h fun σ lv st h =>
    so_ladd E dX6_drops_73 h fun σ lv st h =>
    so_last E dX6_drops_74 h fun σ lv st h =>
    so_iinc E (i := 2) (n := 1) (by decide) dX6_drops_75 h fun σ lv st h =>
    so_goto E 32 (by decide) dX6_drops_78 (fun _ _ _ h => h) h
set_option maxRecDepth 20000 in
theorem sb_X6_drops_133 {J : Nat → q_K} {l : Launch} {Qp : Option q_V → q_M → Prop} (E : q_E J cX6_drops RX6 wsX6_drops 3 l rm_X6_drops) (T : q_T J cX6_drops none Qp) (h_X6_axisAt : q_Ct yX6_axisAt wsX6_axisAt rm_X6_axisAt S_X6_axisAt) (h_X6_wheelAt : q_Ct yX6_wheelAt wsX6_wheelAt rm_X6_wheelAt S_X6_wheelAt) (h_X6_product : q_Ct yX6_product wsX6_product rm_X6_product S_X6_product) (h_X6_div : q_Ct yX6_div wsX6_div rm_X6_div S_X6_div) (h_X6_held : q_Ct yX6_held wsX6_held rm_X6_held S_X6_held) (h_X6_pushes : q_Ct yX6_pushes wsX6_pushes rm_X6_pushes S_X6_pushes) : ∀ (σ : q_M) (lv : q_L) (st : q_S), k_X6_drops_133 Qp J σ lv st → J 133 σ lv st := fun σ lv st h =>
    so_iconst E (x := 0) dX6_drops_133 h fun σ lv st h =>
    so_istore_n E (i := 1) rfl (by decide) dX6_drops_134 h fun σ lv st h =>
    h
set_option maxRecDepth 20000 in
theorem sb_X6_drops_89 {J : Nat → q_K} {l : Launch} {Qp : Option q_V → q_M → Prop} (E : q_E J cX6_drops RX6 wsX6_drops 3 l rm_X6_drops) (T : q_T J cX6_drops none Qp) (h_X6_axisAt : q_Ct yX6_axisAt wsX6_axisAt rm_X6_axisAt S_X6_axisAt) (h_X6_wheelAt : q_Ct yX6_wheelAt wsX6_wheelAt rm_X6_wheelAt S_X6_wheelAt) (h_X6_product : q_Ct yX6_product wsX6_product rm_X6_product S_X6_product) (h_X6_div : q_Ct yX6_div wsX6_div rm_X6_div S_X6_div) (h_X6_held : q_Ct yX6_held wsX6_held rm_X6_held S_X6_held) (h_X6_pushes : q_Ct yX6_pushes wsX6_pushes rm_X6_pushes S_X6_pushes) : ∀ (σ : q_M) (lv : q_L) (st : q_S), k_X6_drops_89 Qp J σ lv st → J 89 σ lv st := fun σ lv st h =>
    so_iload_n E (i := 1) rfl dX6_drops_89 h fun σ lv st h =>
    so_iconst E (x := 3) dX6_drops_90 h fun σ lv st h =>
    so_icmpge E 133 (by decide) dX6_drops_91 (sb_X6_drops_133 E T h_X6_axisAt h_X6_wheelAt h_X6_product h_X6_div h_X6_held h_X6_pushes) h fun σ lv st h =>
    so_aload_n E (i := 0) rfl dX6_drops_94 h fun σ lv st h =>
    so_get E (pp := 24) (fi := 10) (C := RX6) (T := TX6) (N := 11) (ref := "WheelDeskModel") ⟨rfl, rfl, rfl⟩ rfl fi_X6_drops_X6 (by decide) rfl (List.mem_of_getElem? (i := 4) rfl) dX6_drops_95 h fun σ lv st h =>
    so_iload_n E (i := 1) rfl dX6_drops_98 h fun σ lv st h =>
    so_aload_n E (i := 0) rfl dX6_drops_99 h fun σ lv st h =>
    so_get E (pp := 24) (fi := 8) (C := RX6) (T := TX6) (N := 11) (ref := "WheelDeskModel") ⟨rfl, rfl, rfl⟩ rfl fi_X6_drops_X6 (by decide) rfl (List.mem_of_getElem? (i := 3) rfl) dX6_drops_100 h fun σ lv st h =>
    so_aload_n E (i := 0) rfl dX6_drops_103 h fun σ lv st h =>
    so_get E (pp := 24) (fi := 9) (C := RX6) (T := TX6) (N := 11) (ref := "WheelDeskModel") ⟨rfl, rfl, rfl⟩ rfl fi_X6_drops_X6 (by decide) rfl (List.mem_of_getElem? (i := 1) rfl) dX6_drops_104 h fun σ lv st h =>
    so_iload_n E (i := 1) rfl dX6_drops_107 h fun σ lv st h =>
    so_callT E (n := 3) (idx := 146) (maxL := 3) (ret := (some .long)) h_X6_product gX6_drops_X6_product rfl ⟨rfl, rfl⟩ (by decide +kernel) (by decide) dX6_drops_108 h fun σ lv st h =>
    so_ldc2 E (x := 1000) (idx := 150) (v := 1000) (List.mem_of_getElem? (i := 5) rfl) rfl dX6_drops_111 h fun σ lv st h =>
    so_callT E (n := 2) (idx := 63) (maxL := 6) (ret := (some .long)) h_X6_div gX6_drops_X6_div rfl ⟨rfl, rfl⟩ (by decide +kernel) (by decide) dX6_drops_114 h fun σ lv st h =>
    so_aload_n E (i := 0) rfl dX6_drops_117 h fun σ lv st h =>
    so_get E (pp := 24) (fi := 0) (C := RX6) (T := TX6) (N := 11) (ref := "WheelDeskModel") ⟨rfl, rfl, rfl⟩ rfl fi_X6_drops_X6 (by decide) rfl (List.mem_of_getElem? (i := 2) rfl) dX6_drops_118 h fun σ lv st h =>
    so_iconst E (x := 4) dX6_drops_121 h fun σ lv st h =>
    so_lald E dX6_drops_122 h fun σ lv st h =>
    so_callT E (n := 2) (idx := 130) (maxL := 4) (ret := (some .long)) h_X6_held gX6_drops_X6_held rfl ⟨rfl, rfl⟩ (by decide +kernel) (by decide) dX6_drops_123 h fun σ lv st h =>
    so_last E dX6_drops_126 h fun σ lv st h =>
    so_iinc E (i := 1) (n := 1) (by decide) dX6_drops_127 h fun σ lv st h =>
    so_goto E 89 (by decide) dX6_drops_130 (fun _ _ _ h => h) h
set_option maxRecDepth 20000 in
theorem sb_X6_drops_180 {J : Nat → q_K} {l : Launch} {Qp : Option q_V → q_M → Prop} (E : q_E J cX6_drops RX6 wsX6_drops 3 l rm_X6_drops) (T : q_T J cX6_drops none Qp) (h_X6_axisAt : q_Ct yX6_axisAt wsX6_axisAt rm_X6_axisAt S_X6_axisAt) (h_X6_wheelAt : q_Ct yX6_wheelAt wsX6_wheelAt rm_X6_wheelAt S_X6_wheelAt) (h_X6_product : q_Ct yX6_product wsX6_product rm_X6_product S_X6_product) (h_X6_div : q_Ct yX6_div wsX6_div rm_X6_div S_X6_div) (h_X6_held : q_Ct yX6_held wsX6_held rm_X6_held S_X6_held) (h_X6_pushes : q_Ct yX6_pushes wsX6_pushes rm_X6_pushes S_X6_pushes) : ∀ (σ : q_M) (lv : q_L) (st : q_S), k_X6_drops_180 Qp J σ lv st → J 180 σ lv st := fun σ lv st h =>
    so_vret T dX6_drops_180 h
set_option maxRecDepth 20000 in
theorem sb_X6_drops_135 {J : Nat → q_K} {l : Launch} {Qp : Option q_V → q_M → Prop} (E : q_E J cX6_drops RX6 wsX6_drops 3 l rm_X6_drops) (T : q_T J cX6_drops none Qp) (h_X6_axisAt : q_Ct yX6_axisAt wsX6_axisAt rm_X6_axisAt S_X6_axisAt) (h_X6_wheelAt : q_Ct yX6_wheelAt wsX6_wheelAt rm_X6_wheelAt S_X6_wheelAt) (h_X6_product : q_Ct yX6_product wsX6_product rm_X6_product S_X6_product) (h_X6_div : q_Ct yX6_div wsX6_div rm_X6_div S_X6_div) (h_X6_held : q_Ct yX6_held wsX6_held rm_X6_held S_X6_held) (h_X6_pushes : q_Ct yX6_pushes wsX6_pushes rm_X6_pushes S_X6_pushes) : ∀ (σ : q_M) (lv : q_L) (st : q_S), k_X6_drops_135 Qp J σ lv st → J 135 σ lv st := fun σ lv st h =>
    so_iload_n E (i := 1) rfl dX6_drops_135 h fun σ lv st h =>
    so_iconst E (x := 3) dX6_drops_136 h fun σ lv st h =>
    so_icmpge E 180 (by decide) dX6_drops_137 (sb_X6_drops_180 E T h_X6_axisAt h_X6_wheelAt h_X6_product h_X6_div h_X6_held h_X6_pushes) h fun σ lv st h =>
    so_aload_n E (i := 0) rfl dX6_drops_140 h fun σ lv st h =>
    so_iload_n E (i := 1) rfl dX6_drops_141 h fun σ lv st h =>
    so_aload_n E (i := 0) rfl dX6_drops_142 h fun σ lv st h =>
    so_get E (pp := 24) (fi := 10) (C := RX6) (T := TX6) (N := 11) (ref := "WheelDeskModel") ⟨rfl, rfl, rfl⟩ rfl fi_X6_drops_X6 (by decide) rfl (List.mem_of_getElem? (i := 4) rfl) dX6_drops_143 h fun σ lv st h =>
    so_aload_n E (i := 0) rfl dX6_drops_146 h fun σ lv st h =>
    so_get E (pp := 24) (fi := 9) (C := RX6) (T := TX6) (N := 11) (ref := "WheelDeskModel") ⟨rfl, rfl, rfl⟩ rfl fi_X6_drops_X6 (by decide) rfl (List.mem_of_getElem? (i := 1) rfl) dX6_drops_147 h fun σ lv st h =>
    so_iload_n E (i := 1) rfl dX6_drops_150 h fun σ lv st h =>
    so_callT E (n := 3) (idx := 146) (maxL := 3) (ret := (some .long)) h_X6_product gX6_drops_X6_product rfl ⟨rfl, rfl⟩ (by decide +kernel) (by decide) dX6_drops_151 h fun σ lv st h =>
    so_ldc2 E (x := 100) (idx := 49) (v := 100) (List.mem_of_getElem? (i := 6) rfl) rfl dX6_drops_154 h fun σ lv st h =>
    so_callT E (n := 2) (idx := 63) (maxL := 6) (ret := (some .long)) h_X6_div gX6_drops_X6_div rfl ⟨rfl, rfl⟩ (by decide +kernel) (by decide) dX6_drops_157 h fun σ lv st h =>
    so_aload_n E (i := 0) rfl dX6_drops_160 h fun σ lv st h =>
    so_get E (pp := 24) (fi := 0) (C := RX6) (T := TX6) (N := 11) (ref := "WheelDeskModel") ⟨rfl, rfl, rfl⟩ rfl fi_X6_drops_X6 (by decide) rfl (List.mem_of_getElem? (i := 2) rfl) dX6_drops_161 h fun σ lv st h =>
    so_iload_n E (i := 1) rfl dX6_drops_164 h fun σ lv st h =>
    so_iconst E (x := 5) dX6_drops_165 h fun σ lv st h =>
    so_callT E (n := 2) (idx := 45) (maxL := 2) (ret := (some .int)) h_X6_axisAt gX6_drops_X6_axisAt rfl ⟨rfl, rfl⟩ (by decide +kernel) (by decide) dX6_drops_166 h fun σ lv st h =>
    so_lald E dX6_drops_169 h fun σ lv st h =>
    so_ladd E dX6_drops_170 h fun σ lv st h =>
    so_callV E (n := 2) (pp := 24) (C := RX6) (T := TX6) (N := 11) (idx := 100) (maxL := 4) (ret := none) h_X6_pushes ⟨rfl, rfl, rfl⟩ rfl gX6_drops_X6_pushes rfl ⟨rfl, rfl⟩ (by decide +kernel) (by decide) dX6_drops_171 h fun σ lv st h =>
    so_iinc E (i := 1) (n := 1) (by decide) dX6_drops_174 h fun σ lv st h =>
    so_goto E 135 (by decide) dX6_drops_177 (fun _ _ _ h => h) h
theorem c_X6_drops (h_X6_axisAt : q_Ct yX6_axisAt wsX6_axisAt rm_X6_axisAt S_X6_axisAt) (h_X6_wheelAt : q_Ct yX6_wheelAt wsX6_wheelAt rm_X6_wheelAt S_X6_wheelAt) (h_X6_product : q_Ct yX6_product wsX6_product rm_X6_product S_X6_product) (h_X6_div : q_Ct yX6_div wsX6_div rm_X6_div S_X6_div) (h_X6_held : q_Ct yX6_held wsX6_held rm_X6_held S_X6_held) (h_X6_pushes : q_Ct yX6_pushes wsX6_pushes rm_X6_pushes S_X6_pushes) : q_Ct yX6_drops wsX6_drops rm_X6_drops S_X6_drops := by
  refine q_met (cc := cX6_drops) (maxL := 3) (ret := none) (own := RX6) (by decide +kernel) rfl rfl (fun σ vs Qp h => ?_) (fun l J σ vs Qp E T h => ?_)
  · unfold S_X6_drops at h
    split at h
    · exact Nat.le_of_ble_eq_true rfl
    · exact h.elim
  · unfold S_X6_drops at h
    split at h
    · next c0 p0 k0 =>
      obtain ⟨rfl, rfl, rfl, h⟩ := h
      exact v_X6_drops (so_C E) (sb_X6_drops_0 E T h_X6_axisAt h_X6_wheelAt h_X6_product h_X6_div h_X6_held h_X6_pushes) (sb_X6_drops_2 E T h_X6_axisAt h_X6_wheelAt h_X6_product h_X6_div h_X6_held h_X6_pushes) (sb_X6_drops_32 E T h_X6_axisAt h_X6_wheelAt h_X6_product h_X6_div h_X6_held h_X6_pushes) (sb_X6_drops_89 E T h_X6_axisAt h_X6_wheelAt h_X6_product h_X6_div h_X6_held h_X6_pushes) (sb_X6_drops_135 E T h_X6_axisAt h_X6_wheelAt h_X6_product h_X6_div h_X6_held h_X6_pushes) h
    · exact h.elim
theorem cc_X6_drops : q_Ct yX6_drops wsX6_drops rm_X6_drops S_X6_drops := c_X6_drops cc_X6_axisAt cc_X6_wheelAt cc_X6_product cc_X6_div cc_X6_held cc_X6_pushes

