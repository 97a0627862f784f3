def rm_X6_passes : Room := { frames := 4, cells := 0, slots := 0, locals := 105 }
theorem fi_X6_passes_X6 : ∀ w ∈ u_ws RX6 TX6 11, w ∈ wsX6_passes := fun w h => List.mem_cons_of_mem _ (List.mem_append_right _ h)
set_option maxRecDepth 20000 in
theorem sb_X6_passes_0 {J : Nat → q_K} {l : Launch} {Qp : Option q_V → q_M → Prop} (E : q_E J cX6_passes RX6 wsX6_passes 4 l rm_X6_passes) (T : q_T J cX6_passes (some .boolean) Qp) (h_X6_axisAt : q_Ct yX6_axisAt wsX6_axisAt rm_X6_axisAt S_X6_axisAt) (h_X6_div : q_Ct yX6_div wsX6_div rm_X6_div S_X6_div) (h_X6_held : q_Ct yX6_held wsX6_held rm_X6_held S_X6_held) (h_X6_rate : q_Ct yX6_rate wsX6_rate rm_X6_rate S_X6_rate) (h_X6_shares : q_Ct yX6_shares wsX6_shares rm_X6_shares S_X6_shares) (h_X6_drops : q_Ct yX6_drops wsX6_drops rm_X6_drops S_X6_drops) : ∀ (σ : q_M) (lv : q_L) (st : q_S), k_X6_passes_0 Qp J σ lv st → J 0 σ lv st := fun σ lv st h =>
    so_aload_n E (i := 0) rfl dX6_passes_0 h fun σ lv st h =>
    so_get E (pp := 24) (fi := 0) (C := RX6) (T := TX6) (N := 11) (ref := "WheelDeskModel") ⟨rfl, rfl, rfl⟩ rfl fi_X6_passes_X6 (by decide) rfl (List.mem_of_getElem? (i := 1) rfl) dX6_passes_1 h fun σ lv st h =>
    so_iconst E (x := 5) dX6_passes_4 h fun σ lv st h =>
    so_dup2 E dX6_passes_5 h fun σ lv st h =>
    so_lald E dX6_passes_6 h fun σ lv st h =>
    so_lconst E (x := 1) rfl dX6_passes_7 h fun σ lv st h =>
    so_ladd E dX6_passes_8 h fun σ lv st h =>
    so_last E dX6_passes_9 h fun σ lv st h =>
    so_iconst E (x := 0) dX6_passes_10 h fun σ lv st h =>
    so_istore_n E (i := 1) rfl (by decide) dX6_passes_11 h fun σ lv st h =>
    h
set_option maxRecDepth 20000 in
theorem sb_X6_passes_113 {J : Nat → q_K} {l : Launch} {Qp : Option q_V → q_M → Prop} (E : q_E J cX6_passes RX6 wsX6_passes 4 l rm_X6_passes) (T : q_T J cX6_passes (some .boolean) Qp) (h_X6_axisAt : q_Ct yX6_axisAt wsX6_axisAt rm_X6_axisAt S_X6_axisAt) (h_X6_div : q_Ct yX6_div wsX6_div rm_X6_div S_X6_div) (h_X6_held : q_Ct yX6_held wsX6_held rm_X6_held S_X6_held) (h_X6_rate : q_Ct yX6_rate wsX6_rate rm_X6_rate S_X6_rate) (h_X6_shares : q_Ct yX6_shares wsX6_shares rm_X6_shares S_X6_shares) (h_X6_drops : q_Ct yX6_drops wsX6_drops rm_X6_drops S_X6_drops) : ∀ (σ : q_M) (lv : q_L) (st : q_S), k_X6_passes_113 Qp J σ lv st → J 113 σ lv st := fun σ lv st h =>
    so_aload_n E (i := 0) rfl dX6_passes_113 h fun σ lv st h =>
    so_callV E (n := 0) (pp := 24) (C := RX6) (T := TX6) (N := 11) (idx := 152) (maxL := 8) (ret := (some .boolean)) h_X6_shares ⟨rfl, rfl, rfl⟩ rfl gX6_passes_X6_shares rfl ⟨rfl, rfl⟩ (by decide +kernel) (by decide) dX6_passes_114 h fun σ lv st h =>
    so_istore_n E (i := 1) rfl (by decide) dX6_passes_117 h fun σ lv st h =>
    so_aload_n E (i := 0) rfl dX6_passes_118 h fun σ lv st h =>
    so_callV E (n := 0) (pp := 24) (C := RX6) (T := TX6) (N := 11) (idx := 156) (maxL := 3) (ret := none) h_X6_drops ⟨rfl, rfl, rfl⟩ rfl gX6_passes_X6_drops rfl ⟨rfl, rfl⟩ (by decide +kernel) (by decide) dX6_passes_119 h fun σ lv st h =>
    so_iconst E (x := 0) dX6_passes_122 h fun σ lv st h =>
    so_istore_n E (i := 2) rfl (by decide) dX6_passes_123 h fun σ lv st h =>
    h
set_option maxRecDepth 20000 in
theorem sb_X6_passes_12 {J : Nat → q_K} {l : Launch} {Qp : Option q_V → q_M → Prop} (E : q_E J cX6_passes RX6 wsX6_passes 4 l rm_X6_passes) (T : q_T J cX6_passes (some .boolean) Qp) (h_X6_axisAt : q_Ct yX6_axisAt wsX6_axisAt rm_X6_axisAt S_X6_axisAt) (h_X6_div : q_Ct yX6_div wsX6_div rm_X6_div S_X6_div) (h_X6_held : q_Ct yX6_held wsX6_held rm_X6_held S_X6_held) (h_X6_rate : q_Ct yX6_rate wsX6_rate rm_X6_rate S_X6_rate) (h_X6_shares : q_Ct yX6_shares wsX6_shares rm_X6_shares S_X6_shares) (h_X6_drops : q_Ct yX6_drops wsX6_drops rm_X6_drops S_X6_drops) : ∀ (σ : q_M) (lv : q_L) (st : q_S), k_X6_passes_12 Qp J σ lv st → J 12 σ lv st := fun σ lv st h =>
    so_iload_n E (i := 1) rfl dX6_passes_12 h fun σ lv st h =>
    so_iconst E (x := 3) dX6_passes_13 h fun σ lv st h =>
    so_icmpge E 113 (by decide) dX6_passes_14 (sb_X6_passes_113 E T h_X6_axisAt h_X6_div h_X6_held h_X6_rate h_X6_shares h_X6_drops) h fun σ lv st h =>
    so_aload_n E (i := 0) rfl dX6_passes_17 h fun σ lv st h =>
    so_get E (pp := 24) (fi := 0) (C := RX6) (T := TX6) (N := 11) (ref := "WheelDeskModel") ⟨rfl, rfl, rfl⟩ rfl fi_X6_passes_X6 (by decide) rfl (List.mem_of_getElem? (i := 1) rfl) dX6_passes_18 h fun σ lv st h =>
    so_iconst E (x := 0) dX6_passes_21 h fun σ lv st h =>
    so_lald E dX6_passes_22 h fun σ lv st h =>
    so_aload_n E (i := 0) rfl dX6_passes_23 h fun σ lv st h =>
    so_get E (pp := 24) (fi := 0) (C := RX6) (T := TX6) (N := 11) (ref := "WheelDeskModel") ⟨rfl, rfl, rfl⟩ rfl fi_X6_passes_X6 (by decide) rfl (List.mem_of_getElem? (i := 1) rfl) dX6_passes_24 h fun σ lv st h =>
    so_iload_n E (i := 1) rfl dX6_passes_27 h fun σ lv st h =>
    so_iconst E (x := 3) dX6_passes_28 h fun σ lv st h =>
    so_callT E (n := 2) (idx := 45) (maxL := 2) (ret := (some .int)) h_X6_axisAt gX6_passes_X6_axisAt rfl ⟨rfl, rfl⟩ (by decide +kernel) (by decide) dX6_passes_29 h fun σ lv st h =>
    so_lald E dX6_passes_32 h fun σ lv st h =>
    so_aload_n E (i := 0) rfl dX6_passes_33 h fun σ lv st h =>
    so_get E (pp := 24) (fi := 0) (C := RX6) (T := TX6) (N := 11) (ref := "WheelDeskModel") ⟨rfl, rfl, rfl⟩ rfl fi_X6_passes_X6 (by decide) rfl (List.mem_of_getElem? (i := 1) rfl) dX6_passes_34 h fun σ lv st h =>
    so_iload_n E (i := 1) rfl dX6_passes_37 h fun σ lv st h =>
    so_iconst E (x := 0) dX6_passes_38 h fun σ lv st h =>
    so_callT E (n := 2) (idx := 45) (maxL := 2) (ret := (some .int)) h_X6_axisAt gX6_passes_X6_axisAt rfl ⟨rfl, rfl⟩ (by decide +kernel) (by decide) dX6_passes_39 h fun σ lv st h =>
    so_lald E dX6_passes_42 h fun σ lv st h =>
    so_lsub E dX6_passes_43 h fun σ lv st h =>
    so_lmul E dX6_passes_44 h fun σ lv st h =>
    so_ldc2 E (x := 100) (idx := 49) (v := 100) (List.mem_of_getElem? (i := 2) rfl) rfl dX6_passes_45 h fun σ lv st h =>
    so_callT E (n := 2) (idx := 63) (maxL := 6) (ret := (some .long)) h_X6_div gX6_passes_X6_div rfl ⟨rfl, rfl⟩ (by decide +kernel) (by decide) dX6_passes_48 h fun σ lv st h =>
    so_aload_n E (i := 0) rfl dX6_passes_51 h fun σ lv st h =>
    so_get E (pp := 24) (fi := 0) (C := RX6) (T := TX6) (N := 11) (ref := "WheelDeskModel") ⟨rfl, rfl, rfl⟩ rfl fi_X6_passes_X6 (by decide) rfl (List.mem_of_getElem? (i := 1) rfl) dX6_passes_52 h fun σ lv st h =>
    so_iconst E (x := 2) dX6_passes_55 h fun σ lv st h =>
    so_lald E dX6_passes_56 h fun σ lv st h =>
    so_callT E (n := 2) (idx := 130) (maxL := 4) (ret := (some .long)) h_X6_held gX6_passes_X6_held rfl ⟨rfl, rfl⟩ (by decide +kernel) (by decide) dX6_passes_57 h fun σ lv st h =>
    so_lstore_n E (i := 2) rfl (by decide) dX6_passes_60 h fun σ lv st h =>
    so_aload_n E (i := 0) rfl dX6_passes_61 h fun σ lv st h =>
    so_get E (pp := 24) (fi := 7) (C := RX6) (T := TX6) (N := 11) (ref := "WheelDeskModel") ⟨rfl, rfl, rfl⟩ rfl fi_X6_passes_X6 (by decide) rfl (List.mem_of_getElem? (i := 3) rfl) dX6_passes_62 h fun σ lv st h =>
    so_iload_n E (i := 1) rfl dX6_passes_65 h fun σ lv st h =>
    so_aload_n E (i := 0) rfl dX6_passes_66 h fun σ lv st h =>
    so_get E (pp := 24) (fi := 0) (C := RX6) (T := TX6) (N := 11) (ref := "WheelDeskModel") ⟨rfl, rfl, rfl⟩ rfl fi_X6_passes_X6 (by decide) rfl (List.mem_of_getElem? (i := 1) rfl) dX6_passes_67 h fun σ lv st h =>
    so_iconst E (x := 1) dX6_passes_70 h fun σ lv st h =>
    so_lald E dX6_passes_71 h fun σ lv st h =>
    so_lload_n E (i := 2) rfl dX6_passes_72 h fun σ lv st h =>
    so_aload_n E (i := 0) rfl dX6_passes_73 h fun σ lv st h =>
    so_iload_n E (i := 1) rfl dX6_passes_74 h fun σ lv st h =>
    so_callV E (n := 1) (pp := 24) (C := RX6) (T := TX6) (N := 11) (idx := 104) (maxL := 2) (ret := (some .long)) h_X6_rate ⟨rfl, rfl, rfl⟩ rfl gX6_passes_X6_rate rfl ⟨rfl, rfl⟩ (by decide +kernel) (by decide) dX6_passes_75 h fun σ lv st h =>
    so_lsub E dX6_passes_78 h fun σ lv st h =>
    so_lmul E dX6_passes_79 h fun σ lv st h =>
    so_aload_n E (i := 0) rfl dX6_passes_80 h fun σ lv st h =>
    so_get E (pp := 24) (fi := 0) (C := RX6) (T := TX6) (N := 11) (ref := "WheelDeskModel") ⟨rfl, rfl, rfl⟩ rfl fi_X6_passes_X6 (by decide) rfl (List.mem_of_getElem? (i := 1) rfl) dX6_passes_81 h fun σ lv st h =>
    so_iconst E (x := 3) dX6_passes_84 h fun σ lv st h =>
    so_lald E dX6_passes_85 h fun σ lv st h =>
    so_callT E (n := 2) (idx := 130) (maxL := 4) (ret := (some .long)) h_X6_held gX6_passes_X6_held rfl ⟨rfl, rfl⟩ (by decide +kernel) (by decide) dX6_passes_86 h fun σ lv st h =>
    so_last E dX6_passes_89 h fun σ lv st h =>
    so_aload_n E (i := 0) rfl dX6_passes_90 h fun σ lv st h =>
    so_get E (pp := 24) (fi := 0) (C := RX6) (T := TX6) (N := 11) (ref := "WheelDeskModel") ⟨rfl, rfl, rfl⟩ rfl fi_X6_passes_X6 (by decide) rfl (List.mem_of_getElem? (i := 1) rfl) dX6_passes_91 h fun σ lv st h =>
    so_iload_n E (i := 1) rfl dX6_passes_94 h fun σ lv st h =>
    so_bipush E (x := 7) rfl dX6_passes_95 h fun σ lv st h =>
    so_callT E (n := 2) (idx := 45) (maxL := 2) (ret := (some .int)) h_X6_axisAt gX6_passes_X6_axisAt rfl ⟨rfl, rfl⟩ (by decide +kernel) (by decide) dX6_passes_97 h fun σ lv st h =>
    so_aload_n E (i := 0) rfl dX6_passes_100 h fun σ lv st h =>
    so_get E (pp := 24) (fi := 7) (C := RX6) (T := TX6) (N := 11) (ref := "WheelDeskModel") ⟨rfl, rfl, rfl⟩ rfl fi_X6_passes_X6 (by decide) rfl (List.mem_of_getElem? (i := 3) rfl) dX6_passes_101 h fun σ lv st h =>
    so_iload_n E (i := 1) rfl dX6_passes_104 h fun σ lv st h =>
    so_lald E dX6_passes_105 h fun σ lv st h =>
    so_last E dX6_passes_106 h fun σ lv st h =>
    so_iinc E (i := 1) (n := 1) (by decide) dX6_passes_107 h fun σ lv st h =>
    so_goto E 12 (by decide) dX6_passes_110 (fun _ _ _ h => h) h
set_option maxRecDepth 20000 in
theorem sb_X6_passes_153 {J : Nat → q_K} {l : Launch} {Qp : Option q_V → q_M → Prop} (E : q_E J cX6_passes RX6 wsX6_passes 4 l rm_X6_passes) (T : q_T J cX6_passes (some .boolean) Qp) (h_X6_axisAt : q_Ct yX6_axisAt wsX6_axisAt rm_X6_axisAt S_X6_axisAt) (h_X6_div : q_Ct yX6_div wsX6_div rm_X6_div S_X6_div) (h_X6_held : q_Ct yX6_held wsX6_held rm_X6_held S_X6_held) (h_X6_rate : q_Ct yX6_rate wsX6_rate rm_X6_rate S_X6_rate) (h_X6_shares : q_Ct yX6_shares wsX6_shares rm_X6_shares S_X6_shares) (h_X6_drops : q_Ct yX6_drops wsX6_drops rm_X6_drops S_X6_drops) : ∀ (σ : q_M) (lv : q_L) (st : q_S), k_X6_passes_153 Qp J σ lv st → J 153 σ lv st := fun σ lv st h =>
    so_iload_n E (i := 1) rfl dX6_passes_153 h fun σ lv st h =>
    so_zret T dX6_passes_154 h
set_option maxRecDepth 20000 in
theorem sb_X6_passes_124 {J : Nat → q_K} {l : Launch} {Qp : Option q_V → q_M → Prop} (E : q_E J cX6_passes RX6 wsX6_passes 4 l rm_X6_passes) (T : q_T J cX6_passes (some .boolean) Qp) (h_X6_axisAt : q_Ct yX6_axisAt wsX6_axisAt rm_X6_axisAt S_X6_axisAt) (h_X6_div : q_Ct yX6_div wsX6_div rm_X6_div S_X6_div) (h_X6_held : q_Ct yX6_held wsX6_held rm_X6_held S_X6_held) (h_X6_rate : q_Ct yX6_rate wsX6_rate rm_X6_rate S_X6_rate) (h_X6_shares : q_Ct yX6_shares wsX6_shares rm_X6_shares S_X6_shares) (h_X6_drops : q_Ct yX6_drops wsX6_drops rm_X6_drops S_X6_drops) : ∀ (σ : q_M) (lv : q_L) (st : q_S), k_X6_passes_124 Qp J σ lv st → J 124 σ lv st := fun σ lv st h =>
    so_iload_n E (i := 2) rfl dX6_passes_124 h fun σ lv st h =>
    so_iconst E (x := 3) dX6_passes_125 h fun σ lv st h =>
    so_icmpge E 153 (by decide) dX6_passes_126 (sb_X6_passes_153 E T h_X6_axisAt h_X6_div h_X6_held h_X6_rate h_X6_shares h_X6_drops) h fun σ lv st h =>
    so_aload_n E (i := 0) rfl dX6_passes_129 h fun σ lv st h =>
    so_get E (pp := 24) (fi := 0) (C := RX6) (T := TX6) (N := 11) (ref := "WheelDeskModel") ⟨rfl, rfl, rfl⟩ rfl fi_X6_passes_X6 (by decide) rfl (List.mem_of_getElem? (i := 1) rfl) dX6_passes_130 h fun σ lv st h =>
    so_iload_n E (i := 2) rfl dX6_passes_133 h fun σ lv st h =>
    so_iconst E (x := 0) dX6_passes_134 h fun σ lv st h =>
    so_callT E (n := 2) (idx := 45) (maxL := 2) (ret := (some .int)) h_X6_axisAt gX6_passes_X6_axisAt rfl ⟨rfl, rfl⟩ (by decide +kernel) (by decide) dX6_passes_135 h fun σ lv st h =>
    so_dup2 E dX6_passes_138 h fun σ lv st h =>
    so_lald E dX6_passes_139 h fun σ lv st h =>
    so_aload_n E (i := 0) rfl dX6_passes_140 h fun σ lv st h =>
    so_iload_n E (i := 2) rfl dX6_passes_141 h fun σ lv st h =>
    so_callV E (n := 1) (pp := 24) (C := RX6) (T := TX6) (N := 11) (idx := 104) (maxL := 2) (ret := (some .long)) h_X6_rate ⟨rfl, rfl, rfl⟩ rfl gX6_passes_X6_rate rfl ⟨rfl, rfl⟩ (by decide +kernel) (by decide) dX6_passes_142 h fun σ lv st h =>
    so_ladd E dX6_passes_145 h fun σ lv st h =>
    so_last E dX6_passes_146 h fun σ lv st h =>
    so_iinc E (i := 2) (n := 1) (by decide) dX6_passes_147 h fun σ lv st h =>
    so_goto E 124 (by decide) dX6_passes_150 (fun _ _ _ h => h) h
theorem c_X6_passes (h_X6_axisAt : q_Ct yX6_axisAt wsX6_axisAt rm_X6_axisAt S_X6_axisAt) (h_X6_div : q_Ct yX6_div wsX6_div rm_X6_div S_X6_div) (h_X6_held : q_Ct yX6_held wsX6_held rm_X6_held S_X6_held) (h_X6_rate : q_Ct yX6_rate wsX6_rate rm_X6_rate S_X6_rate) (h_X6_shares : q_Ct yX6_shares wsX6_shares rm_X6_shares S_X6_shares) (h_X6_drops : q_Ct yX6_drops wsX6_drops rm_X6_drops S_X6_drops) : q_Ct yX6_passes wsX6_passes rm_X6_passes S_X6_passes := by
  refine q_met (cc := cX6_passes) (maxL := 4) (ret := (some .boolean)) (own := RX6) (by decide +kernel) rfl rfl (fun σ vs Qp h => ?_) (fun l J σ vs Qp E T h => ?_)
  · unfold S_X6_passes at h
    split at h
    · exact Nat.le_of_ble_eq_true rfl
    · exact h.elim
  · unfold S_X6_passes at h
    split at h
    · next c0 p0 k0 =>
      obtain ⟨rfl, rfl, rfl, h⟩ := h
      exact v_X6_passes (so_C E) (sb_X6_passes_0 E T h_X6_axisAt h_X6_div h_X6_held h_X6_rate h_X6_shares h_X6_drops) (sb_X6_passes_12 E T h_X6_axisAt h_X6_div h_X6_held h_X6_rate h_X6_shares h_X6_drops) (sb_X6_passes_124 E T h_X6_axisAt h_X6_div h_X6_held h_X6_rate h_X6_shares h_X6_drops) h
    · exact h.elim
theorem cc_X6_passes : q_Ct yX6_passes wsX6_passes rm_X6_passes S_X6_passes := c_X6_passes cc_X6_axisAt cc_X6_div cc_X6_held cc_X6_rate cc_X6_shares cc_X6_drops

def rm_X6_tick : Room := { frames := 5, cells := 0, slots := 0, locals := 128 }
theorem fi_X6_tick_X6 : ∀ w ∈ u_ws RX6 TX6 11, w ∈ wsX6_tick := fun w h => List.mem_cons_of_mem _ (List.mem_append_right _ h)
set_option maxRecDepth 20000 in
theorem sb_X6_tick_33 {J : Nat → q_K} {l : Launch} {Qp : Option q_V → q_M → Prop} (E : q_E J cX6_tick RX6 wsX6_tick 4 l rm_X6_tick) (T : q_T J cX6_tick (some .int) Qp) (h_X6_in : q_Ct yX6_in wsX6_in rm_X6_in S_X6_in) (h_X6_act : q_Ct yX6_act wsX6_act rm_X6_act S_X6_act) (h_X6_passes : q_Ct yX6_passes wsX6_passes rm_X6_passes S_X6_passes) : ∀ (σ : q_M) (lv : q_L) (st : q_S), k_X6_tick_33 Qp J σ lv st → J 33 σ lv st := fun σ lv st h =>
    so_aload_n E (i := 0) rfl dX6_tick_33 h fun σ lv st h =>
    so_callV E (n := 0) (pp := 24) (C := RX6) (T := TX6) (N := 11) (idx := 84) (maxL := 2) (ret := none) h_X6_act ⟨rfl, rfl, rfl⟩ rfl gX6_tick_X6_act rfl ⟨rfl, rfl⟩ (by decide +kernel) (by decide) dX6_tick_34 h fun σ lv st h =>
    so_iconst E (x := 0) dX6_tick_37 h fun σ lv st h =>
    so_istore_n E (i := 2) rfl (by decide) dX6_tick_38 h fun σ lv st h =>
    so_iconst E (x := 0) dX6_tick_39 h fun σ lv st h =>
    so_istore_n E (i := 3) rfl (by decide) dX6_tick_40 h fun σ lv st h =>
    h
set_option maxRecDepth 20000 in
theorem sb_X6_tick_14 {J : Nat → q_K} {l : Launch} {Qp : Option q_V → q_M → Prop} (E : q_E J cX6_tick RX6 wsX6_tick 4 l rm_X6_tick) (T : q_T J cX6_tick (some .int) Qp) (h_X6_in : q_Ct yX6_in wsX6_in rm_X6_in S_X6_in) (h_X6_act : q_Ct yX6_act wsX6_act rm_X6_act S_X6_act) (h_X6_passes : q_Ct yX6_passes wsX6_passes rm_X6_passes S_X6_passes) : ∀ (σ : q_M) (lv : q_L) (st : q_S), k_X6_tick_14 Qp J σ lv st → J 14 σ lv st := fun σ lv st h =>
    so_aload_n E (i := 0) rfl dX6_tick_14 h fun σ lv st h =>
    so_get E (pp := 24) (fi := 0) (C := RX6) (T := TX6) (N := 11) (ref := "WheelDeskModel") ⟨rfl, rfl, rfl⟩ rfl fi_X6_tick_X6 (by decide) rfl (List.mem_of_getElem? (i := 2) rfl) dX6_tick_15 h fun σ lv st h =>
    so_iconst E (x := 5) dX6_tick_18 h fun σ lv st h =>
    so_lald E dX6_tick_19 h fun σ lv st h =>
    so_iload_n E (i := 1) rfl dX6_tick_20 h fun σ lv st h =>
    so_i2l E dX6_tick_21 h fun σ lv st h =>
    so_ladd E dX6_tick_22 h fun σ lv st h =>
    so_ldc2 E (x := 50000) (idx := 159) (v := 50000) (List.mem_of_getElem? (i := 3) rfl) rfl dX6_tick_23 h fun σ lv st h =>
    so_lcmp E dX6_tick_26 h fun σ lv st h =>
    so_ifle E 33 (by decide) dX6_tick_27 (sb_X6_tick_33 E T h_X6_in h_X6_act h_X6_passes) h fun σ lv st h =>
    so_ldc E (x := -2000002) (idx := 161) (v := -2000002) (List.mem_of_getElem? (i := 4) rfl) rfl dX6_tick_30 h fun σ lv st h =>
    so_iret T dX6_tick_32 h
set_option maxRecDepth 20000 in
theorem sb_X6_tick_0 {J : Nat → q_K} {l : Launch} {Qp : Option q_V → q_M → Prop} (E : q_E J cX6_tick RX6 wsX6_tick 4 l rm_X6_tick) (T : q_T J cX6_tick (some .int) Qp) (h_X6_in : q_Ct yX6_in wsX6_in rm_X6_in S_X6_in) (h_X6_act : q_Ct yX6_act wsX6_act rm_X6_act S_X6_act) (h_X6_passes : q_Ct yX6_passes wsX6_passes rm_X6_passes S_X6_passes) : ∀ (σ : q_M) (lv : q_L) (st : q_S), k_X6_tick_0 Qp J σ lv st → J 0 σ lv st := fun σ lv st h =>
    so_iload_n E (i := 1) rfl dX6_tick_0 h fun σ lv st h =>
    so_iconst E (x := 1) dX6_tick_1 h fun σ lv st h =>
    so_sipush E (x := 200) rfl dX6_tick_2 h fun σ lv st h =>
    so_callT E (n := 3) (idx := 67) (maxL := 3) (ret := (some .boolean)) h_X6_in gX6_tick_X6_in rfl ⟨rfl, rfl⟩ (by decide +kernel) (by decide) dX6_tick_5 h fun σ lv st h =>
    so_ifne E 14 (by decide) dX6_tick_8 (sb_X6_tick_14 E T h_X6_in h_X6_act h_X6_passes) h fun σ lv st h =>
    so_ldc E (x := -2000001) (idx := 80) (v := -2000001) (List.mem_of_getElem? (i := 1) rfl) rfl dX6_tick_11 h fun σ lv st h =>
    so_iret T dX6_tick_13 h
set_option maxRecDepth 20000 in
theorem sb_X6_tick_67 {J : Nat → q_K} {l : Launch} {Qp : Option q_V → q_M → Prop} (E : q_E J cX6_tick RX6 wsX6_tick 4 l rm_X6_tick) (T : q_T J cX6_tick (some .int) Qp) (h_X6_in : q_Ct yX6_in wsX6_in rm_X6_in S_X6_in) (h_X6_act : q_Ct yX6_act wsX6_act rm_X6_act S_X6_act) (h_X6_passes : q_Ct yX6_passes wsX6_passes rm_X6_passes S_X6_passes) : ∀ (σ : q_M) (lv : q_L) (st : q_S), k_X6_tick_67 Qp J σ lv st → J 67 σ lv st := fun σ lv st h =>
    so_iload_n E (i := 2) rfl dX6_tick_67 h fun σ lv st h =>
    so_iret T dX6_tick_68 h
set_option maxRecDepth 20000 in
theorem sb_X6_tick_59 {J : Nat → q_K} {l : Launch} {Qp : Option q_V → q_M → Prop} (E : q_E J cX6_tick RX6 wsX6_tick 4 l rm_X6_tick) (T : q_T J cX6_tick (some .int) Qp) (h_X6_in : q_Ct yX6_in wsX6_in rm_X6_in S_X6_in) (h_X6_act : q_Ct yX6_act wsX6_act rm_X6_act S_X6_act) (h_X6_passes : q_Ct yX6_passes wsX6_passes rm_X6_passes S_X6_passes) : ∀ (σ : q_M) (lv : q_L) (st : q_S), k_X6_tick_59 Qp J σ lv st → J 59 σ lv st := fun σ lv st h =>
    so_iadd E dX6_tick_59 h fun σ lv st h =>
    so_istore_n E (i := 2) rfl (by decide) dX6_tick_60 h fun σ lv st h =>
    so_iinc E (i := 3) (n := 1) (by decide) dX6_tick_61 h fun σ lv st h =>
    so_goto E 41 (by decide) dX6_tick_64 (fun _ _ _ h => h) h
set_option maxRecDepth 20000 in
theorem sb_X6_tick_58 {J : Nat → q_K} {l : Launch} {Qp : Option q_V → q_M → Prop} (E : q_E J cX6_tick RX6 wsX6_tick 4 l rm_X6_tick) (T : q_T J cX6_tick (some .int) Qp) (h_X6_in : q_Ct yX6_in wsX6_in rm_X6_in S_X6_in) (h_X6_act : q_Ct yX6_act wsX6_act rm_X6_act S_X6_act) (h_X6_passes : q_Ct yX6_passes wsX6_passes rm_X6_passes S_X6_passes) : ∀ (σ : q_M) (lv : q_L) (st : q_S), k_X6_tick_58 Qp J σ lv st → J 58 σ lv st := fun σ lv st h =>
    so_iconst E (x := 0) dX6_tick_58 h fun σ lv st h =>
    (sb_X6_tick_59 E T h_X6_in h_X6_act h_X6_passes) σ lv st h
set_option maxRecDepth 20000 in
theorem sb_X6_tick_41 {J : Nat → q_K} {l : Launch} {Qp : Option q_V → q_M → Prop} (E : q_E J cX6_tick RX6 wsX6_tick 4 l rm_X6_tick) (T : q_T J cX6_tick (some .int) Qp) (h_X6_in : q_Ct yX6_in wsX6_in rm_X6_in S_X6_in) (h_X6_act : q_Ct yX6_act wsX6_act rm_X6_act S_X6_act) (h_X6_passes : q_Ct yX6_passes wsX6_passes rm_X6_passes S_X6_passes) : ∀ (σ : q_M) (lv : q_L) (st : q_S), k_X6_tick_41 Qp J σ lv st → J 41 σ lv st := fun σ lv st h =>
    so_iload_n E (i := 3) rfl dX6_tick_41 h fun σ lv st h =>
    so_iload_n E (i := 1) rfl dX6_tick_42 h fun σ lv st h =>
    so_icmpge E 67 (by decide) dX6_tick_43 (sb_X6_tick_67 E T h_X6_in h_X6_act h_X6_passes) h fun σ lv st h =>
    so_iload_n E (i := 2) rfl dX6_tick_46 h fun σ lv st h =>
    so_aload_n E (i := 0) rfl dX6_tick_47 h fun σ lv st h =>
    so_callV E (n := 0) (pp := 24) (C := RX6) (T := TX6) (N := 11) (idx := 162) (maxL := 4) (ret := (some .boolean)) h_X6_passes ⟨rfl, rfl, rfl⟩ rfl gX6_tick_X6_passes rfl ⟨rfl, rfl⟩ (by decide +kernel) (by decide) dX6_tick_48 h fun σ lv st h =>
    so_ifeq E 58 (by decide) dX6_tick_51 (sb_X6_tick_58 E T h_X6_in h_X6_act h_X6_passes) h fun σ lv st h =>
    so_iconst E (x := 1) dX6_tick_54 h fun σ lv st h =>
    so_goto E 59 (by decide) dX6_tick_55 (sb_X6_tick_59 E T h_X6_in h_X6_act h_X6_passes) h
theorem c_X6_tick (h_X6_in : q_Ct yX6_in wsX6_in rm_X6_in S_X6_in) (h_X6_act : q_Ct yX6_act wsX6_act rm_X6_act S_X6_act) (h_X6_passes : q_Ct yX6_passes wsX6_passes rm_X6_passes S_X6_passes) : q_Ct yX6_tick wsX6_tick rm_X6_tick S_X6_tick := by
  refine q_met (cc := cX6_tick) (maxL := 4) (ret := (some .int)) (own := RX6) (by decide +kernel) rfl rfl (fun σ vs Qp h => ?_) (fun l J σ vs Qp E T h => ?_)
  · unfold S_X6_tick at h
    split at h
    · exact Nat.le_of_ble_eq_true rfl
    · exact h.elim
  · unfold S_X6_tick at h
    split at h
    · next c0 p0 k0 t =>
      obtain ⟨rfl, rfl, rfl, h⟩ := h
      exact v_X6_tick (so_C E) (sb_X6_tick_0 E T h_X6_in h_X6_act h_X6_passes) (sb_X6_tick_41 E T h_X6_in h_X6_act h_X6_passes) h
    · exact h.elim
theorem cc_X6_tick : q_Ct yX6_tick wsX6_tick rm_X6_tick S_X6_tick := c_X6_tick cc_X6_in cc_X6_act cc_X6_passes

def rm_X6_time : Room := { frames := 0, cells := 0, slots := 0, locals := 0 }
theorem fi_X6_time_X6 : ∀ w ∈ u_ws RX6 TX6 11, w ∈ wsX6_time := fun w h => List.mem_cons_of_mem _ (List.mem_append_right _ h)
set_option maxRecDepth 20000 in
theorem sb_X6_time_0 {J : Nat → q_K} {l : Launch} {Qp : Option q_V → q_M → Prop} (E : q_E J cX6_time RX6 wsX6_time 1 l rm_X6_time) (T : q_T J cX6_time (some .int) Qp) : ∀ (σ : q_M) (lv : q_L) (st : q_S), k_X6_time_0 Qp J σ lv st → J 0 σ lv st := fun σ lv st h =>
    so_aload_n E (i := 0) rfl dX6_time_0 h fun σ lv st h =>
    so_get E (pp := 24) (fi := 0) (C := RX6) (T := TX6) (N := 11) (ref := "WheelDeskModel") ⟨rfl, rfl, rfl⟩ rfl fi_X6_time_X6 (by decide) rfl (List.mem_of_getElem? (i := 1) rfl) dX6_time_1 h fun σ lv st h =>
    so_iconst E (x := 5) dX6_time_4 h fun σ lv st h =>
    so_lald E dX6_time_5 h fun σ lv st h =>
    so_l2i E dX6_time_6 h fun σ lv st h =>
    so_iret T dX6_time_7 h
theorem c_X6_time : q_Ct yX6_time wsX6_time rm_X6_time S_X6_time := by
  refine q_met (cc := cX6_time) (maxL := 1) (ret := (some .int)) (own := RX6) (by decide +kernel) rfl rfl (fun σ vs Qp h => ?_) (fun l J σ vs Qp E T h => ?_)
  · unfold S_X6_time at h
    split at h
    · exact Nat.le_of_ble_eq_true rfl
    · exact h.elim
  · unfold S_X6_time at h
    split at h
    · next c0 p0 k0 =>
      obtain ⟨rfl, rfl, rfl, h⟩ := h
      exact v_X6_time (so_C E) (sb_X6_time_0 E T) h
    · exact h.elim
theorem cc_X6_time : q_Ct yX6_time wsX6_time rm_X6_time S_X6_time := c_X6_time

def rm_X6_whole : Room := { frames := 1, cells := 0, slots := 0, locals := 21 }
theorem fi_X6_whole_X6 : ∀ w ∈ u_ws RX6 TX6 11, w ∈ wsX6_whole := fun w h => List.mem_cons_of_mem _ (List.mem_append_right _ h)
set_option maxRecDepth 20000 in
theorem sb_X6_whole_0 {J : Nat → q_K} {l : Launch} {Qp : Option q_V → q_M → Prop} (E : q_E J cX6_whole RX6 wsX6_whole 5 l rm_X6_whole) (T : q_T J cX6_whole (some .long) Qp) (h_X6_axisAt : q_Ct yX6_axisAt wsX6_axisAt rm_X6_axisAt S_X6_axisAt) (h_X6_wheelAt : q_Ct yX6_wheelAt wsX6_wheelAt rm_X6_wheelAt S_X6_wheelAt) : ∀ (σ : q_M) (lv : q_L) (st : q_S), k_X6_whole_0 Qp J σ lv st → J 0 σ lv st := fun σ lv st h =>
    so_aload_n E (i := 0) rfl dX6_whole_0 h fun σ lv st h =>
    so_get E (pp := 24) (fi := 0) (C := RX6) (T := TX6) (N := 11) (ref := "WheelDeskModel") ⟨rfl, rfl, rfl⟩ rfl fi_X6_whole_X6 (by decide) rfl (List.mem_of_getElem? (i := 1) rfl) dX6_whole_1 h fun σ lv st h =>
    so_iload_n E (i := 1) rfl dX6_whole_4 h fun σ lv st h =>
    so_iconst E (x := 1) dX6_whole_5 h fun σ lv st h =>
    so_callT E (n := 2) (idx := 45) (maxL := 2) (ret := (some .int)) h_X6_axisAt gX6_whole_X6_axisAt rfl ⟨rfl, rfl⟩ (by decide +kernel) (by decide) dX6_whole_6 h fun σ lv st h =>
    so_lald E dX6_whole_9 h fun σ lv st h =>
    so_lstore_n E (i := 2) rfl (by decide) dX6_whole_10 h fun σ lv st h =>
    so_iconst E (x := 0) dX6_whole_11 h fun σ lv st h =>
    so_istore E (i := 4) (by decide) dX6_whole_12 h fun σ lv st h =>
    h
set_option maxRecDepth 20000 in
theorem sb_X6_whole_60 {J : Nat → q_K} {l : Launch} {Qp : Option q_V → q_M → Prop} (E : q_E J cX6_whole RX6 wsX6_whole 5 l rm_X6_whole) (T : q_T J cX6_whole (some .long) Qp) (h_X6_axisAt : q_Ct yX6_axisAt wsX6_axisAt rm_X6_axisAt S_X6_axisAt) (h_X6_wheelAt : q_Ct yX6_wheelAt wsX6_wheelAt rm_X6_wheelAt S_X6_wheelAt) : ∀ (σ : q_M) (lv : q_L) (st : q_S), k_X6_whole_60 Qp J σ lv st → J 60 σ lv st := fun σ lv st h =>
    so_lload_n E (i := 2) rfl dX6_whole_60 h fun σ lv st h =>
    so_lret T dX6_whole_61 h
set_option maxRecDepth 20000 in
theorem sb_X6_whole_14 {J : Nat → q_K} {l : Launch} {Qp : Option q_V → q_M → Prop} (E : q_E J cX6_whole RX6 wsX6_whole 5 l rm_X6_whole) (T : q_T J cX6_whole (some .long) Qp) (h_X6_axisAt : q_Ct yX6_axisAt wsX6_axisAt rm_X6_axisAt S_X6_axisAt) (h_X6_wheelAt : q_Ct yX6_wheelAt wsX6_wheelAt rm_X6_wheelAt S_X6_wheelAt) : ∀ (σ : q_M) (lv : q_L) (st : q_S), k_X6_whole_14 Qp J σ lv st → J 14 σ lv st := fun σ lv st h =>
    so_iload E (i := 4) dX6_whole_14 h fun σ lv st h =>
    so_i2l E dX6_whole_16 h fun σ lv st h =>
    so_aload_n E (i := 0) rfl dX6_whole_17 h fun σ lv st h =>
    so_get E (pp := 24) (fi := 0) (C := RX6) (T := TX6) (N := 11) (ref := "WheelDeskModel") ⟨rfl, rfl, rfl⟩ rfl fi_X6_whole_X6 (by decide) rfl (List.mem_of_getElem? (i := 1) rfl) dX6_whole_18 h fun σ lv st h =>
    so_bipush E (x := 6) rfl dX6_whole_21 h fun σ lv st h =>
    so_lald E dX6_whole_23 h fun σ lv st h =>
    so_lcmp E dX6_whole_24 h fun σ lv st h =>
    so_ifge E 60 (by decide) dX6_whole_25 (sb_X6_whole_60 E T h_X6_axisAt h_X6_wheelAt) h fun σ lv st h =>
    so_lload_n E (i := 2) rfl dX6_whole_28 h fun σ lv st h =>
    so_aload_n E (i := 0) rfl dX6_whole_29 h fun σ lv st h =>
    so_get E (pp := 24) (fi := 0) (C := RX6) (T := TX6) (N := 11) (ref := "WheelDeskModel") ⟨rfl, rfl, rfl⟩ rfl fi_X6_whole_X6 (by decide) rfl (List.mem_of_getElem? (i := 1) rfl) dX6_whole_30 h fun σ lv st h =>
    so_iload E (i := 4) dX6_whole_33 h fun σ lv st h =>
    so_iload_n E (i := 1) rfl dX6_whole_35 h fun σ lv st h =>
    so_callT E (n := 2) (idx := 71) (maxL := 2) (ret := (some .int)) h_X6_wheelAt gX6_whole_X6_wheelAt rfl ⟨rfl, rfl⟩ (by decide +kernel) (by decide) dX6_whole_36 h fun σ lv st h =>
    so_lald E dX6_whole_39 h fun σ lv st h =>
    so_aload_n E (i := 0) rfl dX6_whole_40 h fun σ lv st h =>
    so_get E (pp := 24) (fi := 0) (C := RX6) (T := TX6) (N := 11) (ref := "WheelDeskModel") ⟨rfl, rfl, rfl⟩ rfl fi_X6_whole_X6 (by decide) rfl (List.mem_of_getElem? (i := 1) rfl) dX6_whole_41 h fun σ lv st h =>
    so_iload E (i := 4) dX6_whole_44 h fun σ lv st h =>
    so_iconst E (x := 3) dX6_whole_46 h fun σ lv st h =>
    so_callT E (n := 2) (idx := 71) (maxL := 2) (ret := (some .int)) h_X6_wheelAt gX6_whole_X6_wheelAt rfl ⟨rfl, rfl⟩ (by decide +kernel) (by decide) dX6_whole_47 h fun σ lv st h =>
    so_lald E dX6_whole_50 h fun σ lv st h =>
    so_lmul E dX6_whole_51 h fun σ lv st h =>
    so_ladd E dX6_whole_52 h fun σ lv st h =>
    so_lstore_n E (i := 2) rfl (by decide) dX6_whole_53 h fun σ lv st h =>
    so_iinc E (i := 4) (n := 1) (by decide) dX6_whole_54 h fun σ lv st h =>
    so_goto E 14 (by decide) dX6_whole_57 (fun _ _ _ h => h) h
theorem c_X6_whole (h_X6_axisAt : q_Ct yX6_axisAt wsX6_axisAt rm_X6_axisAt S_X6_axisAt) (h_X6_wheelAt : q_Ct yX6_wheelAt wsX6_wheelAt rm_X6_wheelAt S_X6_wheelAt) : q_Ct yX6_whole wsX6_whole rm_X6_whole S_X6_whole := by
  refine q_met (cc := cX6_whole) (maxL := 5) (ret := (some .long)) (own := RX6) (by decide +kernel) rfl rfl (fun σ vs Qp h => ?_) (fun l J σ vs Qp E T h => ?_)
  · unfold S_X6_whole at h
    split at h
    · exact Nat.le_of_ble_eq_true rfl
    · exact h.elim
  · unfold S_X6_whole at h
    split at h
    · next c0 p0 k0 a =>
      obtain ⟨rfl, rfl, rfl, h⟩ := h
      exact v_X6_whole (so_C E) (sb_X6_whole_0 E T h_X6_axisAt h_X6_wheelAt) (sb_X6_whole_14 E T h_X6_axisAt h_X6_wheelAt) h
    · exact h.elim
theorem cc_X6_whole : q_Ct yX6_whole wsX6_whole rm_X6_whole S_X6_whole := c_X6_whole cc_X6_axisAt cc_X6_wheelAt

def rm_X6_told : Room := { frames := 2, cells := 0, slots := 0, locals := 46 }
theorem fi_X6_told_X6 : ∀ w ∈ u_ws RX6 TX6 11, w ∈ wsX6_told := fun w h => List.mem_cons_of_mem _ (List.mem_append_right _ h)
set_option maxRecDepth 20000 in
theorem sb_X6_told_56 {J : Nat → q_K} {l : Launch} {Qp : Option q_V → q_M → Prop} (E : q_E J cX6_told RX6 wsX6_told 3 l rm_X6_told) (T : q_T J cX6_told (some .long) Qp) (h_X6_axisAt : q_Ct yX6_axisAt wsX6_axisAt rm_X6_axisAt S_X6_axisAt) (h_X6_rate : q_Ct yX6_rate wsX6_rate rm_X6_rate S_X6_rate) (h_X6_whole : q_Ct yX6_whole wsX6_whole rm_X6_whole S_X6_whole) : ∀ (σ : q_M) (lv : q_L) (st : q_S), k_X6_told_56 Qp J σ lv st → J 56 σ lv st := fun σ lv st h =>
    so_aload_n E (i := 0) rfl dX6_told_56 h fun σ lv st h =>
    so_get E (pp := 24) (fi := 0) (C := RX6) (T := TX6) (N := 11) (ref := "WheelDeskModel") ⟨rfl, rfl, rfl⟩ rfl fi_X6_told_X6 (by decide) rfl (List.mem_of_getElem? (i := 1) rfl) dX6_told_57 h fun σ lv st h =>
    so_iload_n E (i := 1) rfl dX6_told_60 h fun σ lv st h =>
    so_iconst E (x := 0) dX6_told_61 h fun σ lv st h =>
    so_callT E (n := 2) (idx := 45) (maxL := 2) (ret := (some .int)) h_X6_axisAt gX6_told_X6_axisAt rfl ⟨rfl, rfl⟩ (by decide +kernel) (by decide) dX6_told_62 h fun σ lv st h =>
    so_lald E dX6_told_65 h fun σ lv st h =>
    so_lret T dX6_told_66 h
set_option maxRecDepth 20000 in
theorem sb_X6_told_67 {J : Nat → q_K} {l : Launch} {Qp : Option q_V → q_M → Prop} (E : q_E J cX6_told RX6 wsX6_told 3 l rm_X6_told) (T : q_T J cX6_told (some .long) Qp) (h_X6_axisAt : q_Ct yX6_axisAt wsX6_axisAt rm_X6_axisAt S_X6_axisAt) (h_X6_rate : q_Ct yX6_rate wsX6_rate rm_X6_rate S_X6_rate) (h_X6_whole : q_Ct yX6_whole wsX6_whole rm_X6_whole S_X6_whole) : ∀ (σ : q_M) (lv : q_L) (st : q_S), k_X6_told_67 Qp J σ lv st → J 67 σ lv st := fun σ lv st h =>
    so_aload_n E (i := 0) rfl dX6_told_67 h fun σ lv st h =>
    so_get E (pp := 24) (fi := 0) (C := RX6) (T := TX6) (N := 11) (ref := "WheelDeskModel") ⟨rfl, rfl, rfl⟩ rfl fi_X6_told_X6 (by decide) rfl (List.mem_of_getElem? (i := 1) rfl) dX6_told_68 h fun σ lv st h =>
    so_iload_n E (i := 1) rfl dX6_told_71 h fun σ lv st h =>
    so_iconst E (x := 1) dX6_told_72 h fun σ lv st h =>
    so_callT E (n := 2) (idx := 45) (maxL := 2) (ret := (some .int)) h_X6_axisAt gX6_told_X6_axisAt rfl ⟨rfl, rfl⟩ (by decide +kernel) (by decide) dX6_told_73 h fun σ lv st h =>
    so_lald E dX6_told_76 h fun σ lv st h =>
    so_lret T dX6_told_77 h
set_option maxRecDepth 20000 in
theorem sb_X6_told_78 {J : Nat → q_K} {l : Launch} {Qp : Option q_V → q_M → Prop} (E : q_E J cX6_told RX6 wsX6_told 3 l rm_X6_told) (T : q_T J cX6_told (some .long) Qp) (h_X6_axisAt : q_Ct yX6_axisAt wsX6_axisAt rm_X6_axisAt S_X6_axisAt) (h_X6_rate : q_Ct yX6_rate wsX6_rate rm_X6_rate S_X6_rate) (h_X6_whole : q_Ct yX6_whole wsX6_whole rm_X6_whole S_X6_whole) : ∀ (σ : q_M) (lv : q_L) (st : q_S), k_X6_told_78 Qp J σ lv st → J 78 σ lv st := fun σ lv st h =>
    so_aload_n E (i := 0) rfl dX6_told_78 h fun σ lv st h =>
    so_iload_n E (i := 1) rfl dX6_told_79 h fun σ lv st h =>
    so_callV E (n := 1) (pp := 24) (C := RX6) (T := TX6) (N := 11) (idx := 104) (maxL := 2) (ret := (some .long)) h_X6_rate ⟨rfl, rfl, rfl⟩ rfl gX6_told_X6_rate rfl ⟨rfl, rfl⟩ (by decide +kernel) (by decide) dX6_told_80 h fun σ lv st h =>
    so_lret T dX6_told_83 h
set_option maxRecDepth 20000 in
theorem sb_X6_told_84 {J : Nat → q_K} {l : Launch} {Qp : Option q_V → q_M → Prop} (E : q_E J cX6_told RX6 wsX6_told 3 l rm_X6_told) (T : q_T J cX6_told (some .long) Qp) (h_X6_axisAt : q_Ct yX6_axisAt wsX6_axisAt rm_X6_axisAt S_X6_axisAt) (h_X6_rate : q_Ct yX6_rate wsX6_rate rm_X6_rate S_X6_rate) (h_X6_whole : q_Ct yX6_whole wsX6_whole rm_X6_whole S_X6_whole) : ∀ (σ : q_M) (lv : q_L) (st : q_S), k_X6_told_84 Qp J σ lv st → J 84 σ lv st := fun σ lv st h =>
    so_aload_n E (i := 0) rfl dX6_told_84 h fun σ lv st h =>
    so_iload_n E (i := 1) rfl dX6_told_85 h fun σ lv st h =>
    so_callV E (n := 1) (pp := 24) (C := RX6) (T := TX6) (N := 11) (idx := 165) (maxL := 5) (ret := (some .long)) h_X6_whole ⟨rfl, rfl, rfl⟩ rfl gX6_told_X6_whole rfl ⟨rfl, rfl⟩ (by decide +kernel) (by decide) dX6_told_86 h fun σ lv st h =>
    so_lret T dX6_told_89 h
set_option maxRecDepth 20000 in
theorem sb_X6_told_90 {J : Nat → q_K} {l : Launch} {Qp : Option q_V → q_M → Prop} (E : q_E J cX6_told RX6 wsX6_told 3 l rm_X6_told) (T : q_T J cX6_told (some .long) Qp) (h_X6_axisAt : q_Ct yX6_axisAt wsX6_axisAt rm_X6_axisAt S_X6_axisAt) (h_X6_rate : q_Ct yX6_rate wsX6_rate rm_X6_rate S_X6_rate) (h_X6_whole : q_Ct yX6_whole wsX6_whole rm_X6_whole S_X6_whole) : ∀ (σ : q_M) (lv : q_L) (st : q_S), k_X6_told_90 Qp J σ lv st → J 90 σ lv st := fun σ lv st h =>
    so_aload_n E (i := 0) rfl dX6_told_90 h fun σ lv st h =>
    so_get E (pp := 24) (fi := 0) (C := RX6) (T := TX6) (N := 11) (ref := "WheelDeskModel") ⟨rfl, rfl, rfl⟩ rfl fi_X6_told_X6 (by decide) rfl (List.mem_of_getElem? (i := 1) rfl) dX6_told_91 h fun σ lv st h =>
    so_iload_n E (i := 1) rfl dX6_told_94 h fun σ lv st h =>
    so_bipush E (x := 6) rfl dX6_told_95 h fun σ lv st h =>
    so_callT E (n := 2) (idx := 45) (maxL := 2) (ret := (some .int)) h_X6_axisAt gX6_told_X6_axisAt rfl ⟨rfl, rfl⟩ (by decide +kernel) (by decide) dX6_told_97 h fun σ lv st h =>
    so_lald E dX6_told_100 h fun σ lv st h =>
    so_lret T dX6_told_101 h
set_option maxRecDepth 20000 in
theorem sb_X6_told_114 {J : Nat → q_K} {l : Launch} {Qp : Option q_V → q_M → Prop} (E : q_E J cX6_told RX6 wsX6_told 3 l rm_X6_told) (T : q_T J cX6_told (some .long) Qp) (h_X6_axisAt : q_Ct yX6_axisAt wsX6_axisAt rm_X6_axisAt S_X6_axisAt) (h_X6_rate : q_Ct yX6_rate wsX6_rate rm_X6_rate S_X6_rate) (h_X6_whole : q_Ct yX6_whole wsX6_whole rm_X6_whole S_X6_whole) : ∀ (σ : q_M) (lv : q_L) (st : q_S), k_X6_told_114 Qp J σ lv st → J 114 σ lv st := fun σ lv st h =>
    so_aload_n E (i := 0) rfl dX6_told_114 h fun σ lv st h =>
    so_get E (pp := 24) (fi := 0) (C := RX6) (T := TX6) (N := 11) (ref := "WheelDeskModel") ⟨rfl, rfl, rfl⟩ rfl fi_X6_told_X6 (by decide) rfl (List.mem_of_getElem? (i := 1) rfl) dX6_told_115 h fun σ lv st h =>
    so_iload_n E (i := 1) rfl dX6_told_118 h fun σ lv st h =>
    so_iconst E (x := 2) dX6_told_119 h fun σ lv st h =>
    so_iload_n E (i := 2) rfl dX6_told_120 h fun σ lv st h =>
    so_iadd E dX6_told_121 h fun σ lv st h =>
    so_iconst E (x := 5) dX6_told_122 h fun σ lv st h =>
    so_isub E dX6_told_123 h fun σ lv st h =>
    so_callT E (n := 2) (idx := 45) (maxL := 2) (ret := (some .int)) h_X6_axisAt gX6_told_X6_axisAt rfl ⟨rfl, rfl⟩ (by decide +kernel) (by decide) dX6_told_124 h fun σ lv st h =>
    so_lald E dX6_told_127 h fun σ lv st h =>
    so_lret T dX6_told_128 h
set_option maxRecDepth 20000 in
theorem sb_X6_told_102 {J : Nat → q_K} {l : Launch} {Qp : Option q_V → q_M → Prop} (E : q_E J cX6_told RX6 wsX6_told 3 l rm_X6_told) (T : q_T J cX6_told (some .long) Qp) (h_X6_axisAt : q_Ct yX6_axisAt wsX6_axisAt rm_X6_axisAt S_X6_axisAt) (h_X6_rate : q_Ct yX6_rate wsX6_rate rm_X6_rate S_X6_rate) (h_X6_whole : q_Ct yX6_whole wsX6_whole rm_X6_whole S_X6_whole) : ∀ (σ : q_M) (lv : q_L) (st : q_S), k_X6_told_102 Qp J σ lv st → J 102 σ lv st := fun σ lv st h =>
    so_aload_n E (i := 0) rfl dX6_told_102 h fun σ lv st h =>
    so_get E (pp := 24) (fi := 0) (C := RX6) (T := TX6) (N := 11) (ref := "WheelDeskModel") ⟨rfl, rfl, rfl⟩ rfl fi_X6_told_X6 (by decide) rfl (List.mem_of_getElem? (i := 1) rfl) dX6_told_103 h fun σ lv st h =>
    so_iload_n E (i := 1) rfl dX6_told_106 h fun σ lv st h =>
    so_bipush E (x := 7) rfl dX6_told_107 h fun σ lv st h =>
    so_callT E (n := 2) (idx := 45) (maxL := 2) (ret := (some .int)) h_X6_axisAt gX6_told_X6_axisAt rfl ⟨rfl, rfl⟩ (by decide +kernel) (by decide) dX6_told_109 h fun σ lv st h =>
    so_lald E dX6_told_112 h fun σ lv st h =>
    so_lret T dX6_told_113 h
set_option maxRecDepth 20000 in
theorem sb_X6_told_0 {J : Nat → q_K} {l : Launch} {Qp : Option q_V → q_M → Prop} (E : q_E J cX6_told RX6 wsX6_told 3 l rm_X6_told) (T : q_T J cX6_told (some .long) Qp) (h_X6_axisAt : q_Ct yX6_axisAt wsX6_axisAt rm_X6_axisAt S_X6_axisAt) (h_X6_rate : q_Ct yX6_rate wsX6_rate rm_X6_rate S_X6_rate) (h_X6_whole : q_Ct yX6_whole wsX6_whole rm_X6_whole S_X6_whole) : ∀ (σ : q_M) (lv : q_L) (st : q_S), k_X6_told_0 Qp J σ lv st → J 0 σ lv st := fun σ lv st h =>
    so_iload_n E (i := 2) rfl dX6_told_0 h fun σ lv st h =>
    so_tsw E (Ks := [k_X6_told_56 Qp J, k_X6_told_67 Qp J, k_X6_told_78 Qp J, k_X6_told_84 Qp J, k_X6_told_90 Qp J, k_X6_told_114 Qp J, k_X6_told_114 Qp J, k_X6_told_114 Qp J, k_X6_told_114 Qp J, k_X6_told_102 Qp J]) 114 [56, 67, 78, 84, 90, 114, 114, 114, 114, 102] (by decide) (by decide) (fun i t h9 => by
    have hi : i < 10 := (List.getElem?_eq_some_iff.mp h9).1
    match i, hi with
    | 0, _ => cases h9; exact ⟨_, rfl, by decide⟩
    | 1, _ => cases h9; exact ⟨_, rfl, by decide⟩
    | 2, _ => cases h9; exact ⟨_, rfl, by decide⟩
    | 3, _ => cases h9; exact ⟨_, rfl, by decide⟩
    | 4, _ => cases h9; exact ⟨_, rfl, by decide⟩
    | 5, _ => cases h9; exact ⟨_, rfl, by decide⟩
    | 6, _ => cases h9; exact ⟨_, rfl, by decide⟩
    | 7, _ => cases h9; exact ⟨_, rfl, by decide⟩
    | 8, _ => cases h9; exact ⟨_, rfl, by decide⟩
    | 9, _ => cases h9; exact ⟨_, rfl, by decide⟩) dX6_told_1 (sb_X6_told_114 E T h_X6_axisAt h_X6_rate h_X6_whole) (⟨(sb_X6_told_56 E T h_X6_axisAt h_X6_rate h_X6_whole), ⟨(sb_X6_told_67 E T h_X6_axisAt h_X6_rate h_X6_whole), ⟨(sb_X6_told_78 E T h_X6_axisAt h_X6_rate h_X6_whole), ⟨(sb_X6_told_84 E T h_X6_axisAt h_X6_rate h_X6_whole), ⟨(sb_X6_told_90 E T h_X6_axisAt h_X6_rate h_X6_whole), ⟨(sb_X6_told_114 E T h_X6_axisAt h_X6_rate h_X6_whole), ⟨(sb_X6_told_114 E T h_X6_axisAt h_X6_rate h_X6_whole), ⟨(sb_X6_told_114 E T h_X6_axisAt h_X6_rate h_X6_whole), ⟨(sb_X6_told_114 E T h_X6_axisAt h_X6_rate h_X6_whole), ⟨(sb_X6_told_102 E T h_X6_axisAt h_X6_rate h_X6_whole), trivial⟩⟩⟩⟩⟩⟩⟩⟩⟩⟩) h
theorem c_X6_told (h_X6_axisAt : q_Ct yX6_axisAt wsX6_axisAt rm_X6_axisAt S_X6_axisAt) (h_X6_rate : q_Ct yX6_rate wsX6_rate rm_X6_rate S_X6_rate) (h_X6_whole : q_Ct yX6_whole wsX6_whole rm_X6_whole S_X6_whole) : q_Ct yX6_told wsX6_told rm_X6_told S_X6_told := by
  refine q_met (cc := cX6_told) (maxL := 3) (ret := (some .long)) (own := RX6) (by decide +kernel) rfl rfl (fun σ vs Qp h => ?_) (fun l J σ vs Qp E T h => ?_)
  · unfold S_X6_told at h
    split at h
    · exact Nat.le_of_ble_eq_true rfl
    · exact h.elim
  · unfold S_X6_told at h
    split at h
    · next c0 p0 k0 a w =>
      obtain ⟨rfl, rfl, rfl, h⟩ := h
      exact v_X6_told (so_C E) (sb_X6_told_0 E T h_X6_axisAt h_X6_rate h_X6_whole) h
    · exact h.elim
theorem cc_X6_told : q_Ct yX6_told wsX6_told rm_X6_told S_X6_told := c_X6_told cc_X6_axisAt cc_X6_rate cc_X6_whole

def rm_X6_axis : Room := { frames := 3, cells := 0, slots := 0, locals := 68 }
theorem fi_X6_axis_X6 : ∀ w ∈ u_ws RX6 TX6 11, w ∈ wsX6_axis := fun w h => List.mem_cons_of_mem _ (List.mem_append_right _ h)
set_option maxRecDepth 20000 in
theorem sb_X6_axis_29 {J : Nat → q_K} {l : Launch} {Qp : Option q_V → q_M → Prop} (E : q_E J cX6_axis RX6 wsX6_axis 3 l rm_X6_axis) (T : q_T J cX6_axis (some .long) Qp) (h_X6_isAxis : q_Ct yX6_isAxis wsX6_isAxis rm_X6_isAxis S_X6_isAxis) (h_X6_in : q_Ct yX6_in wsX6_in rm_X6_in S_X6_in) (h_X6_told : q_Ct yX6_told wsX6_told rm_X6_told S_X6_told) : ∀ (σ : q_M) (lv : q_L) (st : q_S), k_X6_axis_29 Qp J σ lv st → J 29 σ lv st := fun σ lv st h =>
    so_lret T dX6_axis_29 h
set_option maxRecDepth 20000 in
theorem sb_X6_axis_26 {J : Nat → q_K} {l : Launch} {Qp : Option q_V → q_M → Prop} (E : q_E J cX6_axis RX6 wsX6_axis 3 l rm_X6_axis) (T : q_T J cX6_axis (some .long) Qp) (h_X6_isAxis : q_Ct yX6_isAxis wsX6_isAxis rm_X6_isAxis S_X6_isAxis) (h_X6_in : q_Ct yX6_in wsX6_in rm_X6_in S_X6_in) (h_X6_told : q_Ct yX6_told wsX6_told rm_X6_told S_X6_told) : ∀ (σ : q_M) (lv : q_L) (st : q_S), k_X6_axis_26 Qp J σ lv st → J 26 σ lv st := fun σ lv st h =>
    so_ldc2 E (x := -4611686018427387905) (idx := 98) (v := -4611686018427387905) (List.mem_of_getElem? (i := 1) rfl) rfl dX6_axis_26 h fun σ lv st h =>
    (sb_X6_axis_29 E T h_X6_isAxis h_X6_in h_X6_told) σ lv st h
set_option maxRecDepth 20000 in
theorem sb_X6_axis_0 {J : Nat → q_K} {l : Launch} {Qp : Option q_V → q_M → Prop} (E : q_E J cX6_axis RX6 wsX6_axis 3 l rm_X6_axis) (T : q_T J cX6_axis (some .long) Qp) (h_X6_isAxis : q_Ct yX6_isAxis wsX6_isAxis rm_X6_isAxis S_X6_isAxis) (h_X6_in : q_Ct yX6_in wsX6_in rm_X6_in S_X6_in) (h_X6_told : q_Ct yX6_told wsX6_told rm_X6_told S_X6_told) : ∀ (σ : q_M) (lv : q_L) (st : q_S), k_X6_axis_0 Qp J σ lv st → J 0 σ lv st := fun σ lv st h =>
    so_iload_n E (i := 1) rfl dX6_axis_0 h fun σ lv st h =>
    so_callT E (n := 1) (idx := 94) (maxL := 1) (ret := (some .boolean)) h_X6_isAxis gX6_axis_X6_isAxis rfl ⟨rfl, rfl⟩ (by decide +kernel) (by decide) dX6_axis_1 h fun σ lv st h =>
    so_ifeq E 26 (by decide) dX6_axis_4 (sb_X6_axis_26 E T h_X6_isAxis h_X6_in h_X6_told) h fun σ lv st h =>
    so_iload_n E (i := 2) rfl dX6_axis_7 h fun σ lv st h =>
    so_iconst E (x := 0) dX6_axis_8 h fun σ lv st h =>
    so_bipush E (x := 9) rfl dX6_axis_9 h fun σ lv st h =>
    so_callT E (n := 3) (idx := 67) (maxL := 3) (ret := (some .boolean)) h_X6_in gX6_axis_X6_in rfl ⟨rfl, rfl⟩ (by decide +kernel) (by decide) dX6_axis_11 h fun σ lv st h =>
    so_ifeq E 26 (by decide) dX6_axis_14 (sb_X6_axis_26 E T h_X6_isAxis h_X6_in h_X6_told) h fun σ lv st h =>
    so_aload_n E (i := 0) rfl dX6_axis_17 h fun σ lv st h =>
    so_iload_n E (i := 1) rfl dX6_axis_18 h fun σ lv st h =>
    so_iload_n E (i := 2) rfl dX6_axis_19 h fun σ lv st h =>
    so_callV E (n := 2) (pp := 24) (C := RX6) (T := TX6) (N := 11) (idx := 168) (maxL := 3) (ret := (some .long)) h_X6_told ⟨rfl, rfl, rfl⟩ rfl gX6_axis_X6_told rfl ⟨rfl, rfl⟩ (by decide +kernel) (by decide) dX6_axis_20 h fun σ lv st h =>
    so_goto E 29 (by decide) dX6_axis_23 (sb_X6_axis_29 E T h_X6_isAxis h_X6_in h_X6_told) h
theorem c_X6_axis (h_X6_isAxis : q_Ct yX6_isAxis wsX6_isAxis rm_X6_isAxis S_X6_isAxis) (h_X6_in : q_Ct yX6_in wsX6_in rm_X6_in S_X6_in) (h_X6_told : q_Ct yX6_told wsX6_told rm_X6_told S_X6_told) : q_Ct yX6_axis wsX6_axis rm_X6_axis S_X6_axis := by
  refine q_met (cc := cX6_axis) (maxL := 3) (ret := (some .long)) (own := RX6) (by decide +kernel) rfl rfl (fun σ vs Qp h => ?_) (fun l J σ vs Qp E T h => ?_)
  · unfold S_X6_axis at h
    split at h
    · exact Nat.le_of_ble_eq_true rfl
    · exact h.elim
  · unfold S_X6_axis at h
    split at h
    · next c0 p0 k0 a w =>
      obtain ⟨rfl, rfl, rfl, h⟩ := h
      exact v_X6_axis (so_C E) (sb_X6_axis_0 E T h_X6_isAxis h_X6_in h_X6_told) h
    · exact h.elim
theorem cc_X6_axis : q_Ct yX6_axis wsX6_axis rm_X6_axis S_X6_axis := c_X6_axis cc_X6_isAxis cc_X6_in cc_X6_told

def rm_X6_span : Room := { frames := 3, cells := 0, slots := 0, locals := 67 }
theorem fi_X6_span_X6 : ∀ w ∈ u_ws RX6 TX6 11, w ∈ wsX6_span := fun w h => List.mem_cons_of_mem _ (List.mem_append_right _ h)
set_option maxRecDepth 20000 in
theorem sb_X6_span_0 {J : Nat → q_K} {l : Launch} {Qp : Option q_V → q_M → Prop} (E : q_E J cX6_span RX6 wsX6_span 1 l rm_X6_span) (T : q_T J cX6_span (some .long) Qp) (h_X6_spans : q_Ct yX6_spans wsX6_spans rm_X6_spans S_X6_spans) : ∀ (σ : q_M) (lv : q_L) (st : q_S), k_X6_span_0 Qp J σ lv st → J 0 σ lv st := fun σ lv st h =>
    so_aload_n E (i := 0) rfl dX6_span_0 h fun σ lv st h =>
    so_ldc E (x := -2000009) (idx := 121) (v := -2000009) (List.mem_of_getElem? (i := 1) rfl) rfl dX6_span_1 h fun σ lv st h =>
    so_callV E (n := 1) (pp := 24) (C := RX6) (T := TX6) (N := 11) (idx := 122) (maxL := 6) (ret := none) h_X6_spans ⟨rfl, rfl, rfl⟩ rfl gX6_span_X6_spans rfl ⟨rfl, rfl⟩ (by decide +kernel) (by decide) dX6_span_3 h fun σ lv st h =>
    so_aload_n E (i := 0) rfl dX6_span_6 h fun σ lv st h =>
    so_get E (pp := 24) (fi := 6) (C := RX6) (T := TX6) (N := 11) (ref := "WheelDeskModel") ⟨rfl, rfl, rfl⟩ rfl fi_X6_span_X6 (by decide) rfl (List.mem_of_getElem? (i := 2) rfl) dX6_span_7 h fun σ lv st h =>
    so_lret T dX6_span_10 h
theorem c_X6_span (h_X6_spans : q_Ct yX6_spans wsX6_spans rm_X6_spans S_X6_spans) : q_Ct yX6_span wsX6_span rm_X6_span S_X6_span := by
  refine q_met (cc := cX6_span) (maxL := 1) (ret := (some .long)) (own := RX6) (by decide +kernel) rfl rfl (fun σ vs Qp h => ?_) (fun l J σ vs Qp E T h => ?_)
  · unfold S_X6_span at h
    split at h
    · exact Nat.le_of_ble_eq_true rfl
    · exact h.elim
  · unfold S_X6_span at h
    split at h
    · next c0 p0 k0 =>
      obtain ⟨rfl, rfl, rfl, h⟩ := h
      exact v_X6_span (so_C E) (sb_X6_span_0 E T h_X6_spans) h
    · exact h.elim
theorem cc_X6_span : q_Ct yX6_span wsX6_span rm_X6_span S_X6_span := c_X6_span cc_X6_spans

def rm_X6_isTorque : Room := { frames := 1, cells := 0, slots := 0, locals := 22 }
set_option maxRecDepth 20000 in
theorem sb_X6_isTorque_0 {J : Nat → q_K} {l : Launch} {Qp : Option q_V → q_M → Prop} (E : q_E J cX6_isTorque RX6 wsX6_isTorque 1 l rm_X6_isTorque) (T : q_T J cX6_isTorque (some .boolean) Qp) (h_X6_in : q_Ct yX6_in wsX6_in rm_X6_in S_X6_in) : ∀ (σ : q_M) (lv : q_L) (st : q_S), k_X6_isTorque_0 Qp J σ lv st → J 0 σ lv st := fun σ lv st h =>
    so_iload_n E (i := 0) rfl dX6_isTorque_0 h fun σ lv st h =>
    so_ldc E (x := -100000) (idx := 97) (v := -100000) (List.mem_of_getElem? (i := 1) rfl) rfl dX6_isTorque_1 h fun σ lv st h =>
    so_ldc E (x := 100000) (idx := 79) (v := 100000) (List.mem_of_getElem? (i := 2) rfl) rfl dX6_isTorque_3 h fun σ lv st h =>
    so_callT E (n := 3) (idx := 67) (maxL := 3) (ret := (some .boolean)) h_X6_in gX6_isTorque_X6_in rfl ⟨rfl, rfl⟩ (by decide +kernel) (by decide) dX6_isTorque_5 h fun σ lv st h =>
    so_zret T dX6_isTorque_8 h
theorem c_X6_isTorque (h_X6_in : q_Ct yX6_in wsX6_in rm_X6_in S_X6_in) : q_Ct yX6_isTorque wsX6_isTorque rm_X6_isTorque S_X6_isTorque := by
  refine q_met (cc := cX6_isTorque) (maxL := 1) (ret := (some .boolean)) (own := RX6) (by decide +kernel) rfl rfl (fun σ vs Qp h => ?_) (fun l J σ vs Qp E T h => ?_)
  · unfold S_X6_isTorque at h
    split at h
    · exact Nat.le_of_ble_eq_true rfl
    · exact h.elim
  · unfold S_X6_isTorque at h
    split at h
    · next x =>
      exact v_X6_isTorque (so_C E) (sb_X6_isTorque_0 E T h_X6_in) h
    · exact h.elim
theorem cc_X6_isTorque : q_Ct yX6_isTorque wsX6_isTorque rm_X6_isTorque S_X6_isTorque := c_X6_isTorque cc_X6_in

def rm_X6_wish : Room := { frames := 3, cells := 0, slots := 0, locals := 78 }
theorem fi_X6_wish_X6 : ∀ w ∈ u_ws RX6 TX6 11, w ∈ wsX6_wish := fun w h => List.mem_cons_of_mem _ (List.mem_append_right _ h)
set_option maxRecDepth 20000 in
theorem sb_X6_wish_38 {J : Nat → q_K} {l : Launch} {Qp : Option q_V → q_M → Prop} (E : q_E J cX6_wish RX6 wsX6_wish 5 l rm_X6_wish) (T : q_T J cX6_wish (some .long) Qp) (h_X6_isWheel : q_Ct yX6_isWheel wsX6_isWheel rm_X6_isWheel S_X6_isWheel) (h_X6_works : q_Ct yX6_works wsX6_works rm_X6_works S_X6_works) (h_X6_isTorque : q_Ct yX6_isTorque wsX6_isTorque rm_X6_isTorque S_X6_isTorque) (h_X6_spans : q_Ct yX6_spans wsX6_spans rm_X6_spans S_X6_spans) (h_X6_wishOf : q_Ct yX6_wishOf wsX6_wishOf rm_X6_wishOf S_X6_wishOf) : ∀ (σ : q_M) (lv : q_L) (st : q_S), k_X6_wish_38 Qp J σ lv st → J 38 σ lv st := fun σ lv st h =>
    so_ldc2 E (x := -4611686018427387905) (idx := 98) (v := -4611686018427387905) (List.mem_of_getElem? (i := 1) rfl) rfl dX6_wish_38 h fun σ lv st h =>
    so_lret T dX6_wish_41 h
set_option maxRecDepth 20000 in
theorem sb_X6_wish_75 {J : Nat → q_K} {l : Launch} {Qp : Option q_V → q_M → Prop} (E : q_E J cX6_wish RX6 wsX6_wish 5 l rm_X6_wish) (T : q_T J cX6_wish (some .long) Qp) (h_X6_isWheel : q_Ct yX6_isWheel wsX6_isWheel rm_X6_isWheel S_X6_isWheel) (h_X6_works : q_Ct yX6_works wsX6_works rm_X6_works S_X6_works) (h_X6_isTorque : q_Ct yX6_isTorque wsX6_isTorque rm_X6_isTorque S_X6_isTorque) (h_X6_spans : q_Ct yX6_spans wsX6_spans rm_X6_spans S_X6_spans) (h_X6_wishOf : q_Ct yX6_wishOf wsX6_wishOf rm_X6_wishOf S_X6_wishOf) : ∀ (σ : q_M) (lv : q_L) (st : q_S), k_X6_wish_75 Qp J σ lv st → J 75 σ lv st := fun σ lv st h =>
    so_lret T dX6_wish_75 h
set_option maxRecDepth 20000 in
theorem sb_X6_wish_63 {J : Nat → q_K} {l : Launch} {Qp : Option q_V → q_M → Prop} (E : q_E J cX6_wish RX6 wsX6_wish 5 l rm_X6_wish) (T : q_T J cX6_wish (some .long) Qp) (h_X6_isWheel : q_Ct yX6_isWheel wsX6_isWheel rm_X6_isWheel S_X6_isWheel) (h_X6_works : q_Ct yX6_works wsX6_works rm_X6_works S_X6_works) (h_X6_isTorque : q_Ct yX6_isTorque wsX6_isTorque rm_X6_isTorque S_X6_isTorque) (h_X6_spans : q_Ct yX6_spans wsX6_spans rm_X6_spans S_X6_spans) (h_X6_wishOf : q_Ct yX6_wishOf wsX6_wishOf rm_X6_wishOf S_X6_wishOf) : ∀ (σ : q_M) (lv : q_L) (st : q_S), k_X6_wish_63 Qp J σ lv st → J 63 σ lv st := fun σ lv st h =>
    so_aload_n E (i := 0) rfl dX6_wish_63 h fun σ lv st h =>
    so_iload_n E (i := 1) rfl dX6_wish_64 h fun σ lv st h =>
    so_iload_n E (i := 2) rfl dX6_wish_65 h fun σ lv st h =>
    so_i2l E dX6_wish_66 h fun σ lv st h =>
    so_iload_n E (i := 3) rfl dX6_wish_67 h fun σ lv st h =>
    so_i2l E dX6_wish_68 h fun σ lv st h =>
    so_iload E (i := 4) dX6_wish_69 h fun σ lv st h =>
    so_i2l E dX6_wish_71 h fun σ lv st h =>
    so_callV E (n := 4) (pp := 24) (C := RX6) (T := TX6) (N := 11) (idx := 126) (maxL := 11) (ret := (some .long)) h_X6_wishOf ⟨rfl, rfl, rfl⟩ rfl gX6_wish_X6_wishOf rfl ⟨rfl, rfl⟩ (by decide +kernel) (by decide) dX6_wish_72 h fun σ lv st h =>
    (sb_X6_wish_75 E T h_X6_isWheel h_X6_works h_X6_isTorque h_X6_spans h_X6_wishOf) σ lv st h
set_option maxRecDepth 20000 in
theorem sb_X6_wish_42 {J : Nat → q_K} {l : Launch} {Qp : Option q_V → q_M → Prop} (E : q_E J cX6_wish RX6 wsX6_wish 5 l rm_X6_wish) (T : q_T J cX6_wish (some .long) Qp) (h_X6_isWheel : q_Ct yX6_isWheel wsX6_isWheel rm_X6_isWheel S_X6_isWheel) (h_X6_works : q_Ct yX6_works wsX6_works rm_X6_works S_X6_works) (h_X6_isTorque : q_Ct yX6_isTorque wsX6_isTorque rm_X6_isTorque S_X6_isTorque) (h_X6_spans : q_Ct yX6_spans wsX6_spans rm_X6_spans S_X6_spans) (h_X6_wishOf : q_Ct yX6_wishOf wsX6_wishOf rm_X6_wishOf S_X6_wishOf) : ∀ (σ : q_M) (lv : q_L) (st : q_S), k_X6_wish_42 Qp J σ lv st → J 42 σ lv st := fun σ lv st h =>
    so_aload_n E (i := 0) rfl dX6_wish_42 h fun σ lv st h =>
    so_ldc E (x := -2000009) (idx := 121) (v := -2000009) (List.mem_of_getElem? (i := 2) rfl) rfl dX6_wish_43 h fun σ lv st h =>
    so_callV E (n := 1) (pp := 24) (C := RX6) (T := TX6) (N := 11) (idx := 122) (maxL := 6) (ret := none) h_X6_spans ⟨rfl, rfl, rfl⟩ rfl gX6_wish_X6_spans rfl ⟨rfl, rfl⟩ (by decide +kernel) (by decide) dX6_wish_45 h fun σ lv st h =>
    so_aload_n E (i := 0) rfl dX6_wish_48 h fun σ lv st h =>
    so_get E (pp := 24) (fi := 6) (C := RX6) (T := TX6) (N := 11) (ref := "WheelDeskModel") ⟨rfl, rfl, rfl⟩ rfl fi_X6_wish_X6 (by decide) rfl (List.mem_of_getElem? (i := 3) rfl) dX6_wish_49 h fun σ lv st h =>
    so_lconst E (x := 0) rfl dX6_wish_52 h fun σ lv st h =>
    so_lcmp E dX6_wish_53 h fun σ lv st h =>
    so_ifne E 63 (by decide) dX6_wish_54 (sb_X6_wish_63 E T h_X6_isWheel h_X6_works h_X6_isTorque h_X6_spans h_X6_wishOf) h fun σ lv st h =>
    so_ldc2 E (x := -4611686018427387905) (idx := 98) (v := -4611686018427387905) (List.mem_of_getElem? (i := 1) rfl) rfl dX6_wish_57 h fun σ lv st h =>
    so_goto E 75 (by decide) dX6_wish_60 (sb_X6_wish_75 E T h_X6_isWheel h_X6_works h_X6_isTorque h_X6_spans h_X6_wishOf) h
set_option maxRecDepth 20000 in
theorem sb_X6_wish_0 {J : Nat → q_K} {l : Launch} {Qp : Option q_V → q_M → Prop} (E : q_E J cX6_wish RX6 wsX6_wish 5 l rm_X6_wish) (T : q_T J cX6_wish (some .long) Qp) (h_X6_isWheel : q_Ct yX6_isWheel wsX6_isWheel rm_X6_isWheel S_X6_isWheel) (h_X6_works : q_Ct yX6_works wsX6_works rm_X6_works S_X6_works) (h_X6_isTorque : q_Ct yX6_isTorque wsX6_isTorque rm_X6_isTorque S_X6_isTorque) (h_X6_spans : q_Ct yX6_spans wsX6_spans rm_X6_spans S_X6_spans) (h_X6_wishOf : q_Ct yX6_wishOf wsX6_wishOf rm_X6_wishOf S_X6_wishOf) : ∀ (σ : q_M) (lv : q_L) (st : q_S), k_X6_wish_0 Qp J σ lv st → J 0 σ lv st := fun σ lv st h =>
    so_aload_n E (i := 0) rfl dX6_wish_0 h fun σ lv st h =>
    so_iload_n E (i := 1) rfl dX6_wish_1 h fun σ lv st h =>
    so_callV E (n := 1) (pp := 24) (C := RX6) (T := TX6) (N := 11) (idx := 87) (maxL := 2) (ret := (some .boolean)) h_X6_isWheel ⟨rfl, rfl, rfl⟩ rfl gX6_wish_X6_isWheel rfl ⟨rfl, rfl⟩ (by decide +kernel) (by decide) dX6_wish_2 h fun σ lv st h =>
    so_ifeq E 38 (by decide) dX6_wish_5 (sb_X6_wish_38 E T h_X6_isWheel h_X6_works h_X6_isTorque h_X6_spans h_X6_wishOf) h fun σ lv st h =>
    so_aload_n E (i := 0) rfl dX6_wish_8 h fun σ lv st h =>
    so_iload_n E (i := 1) rfl dX6_wish_9 h fun σ lv st h =>
    so_callV E (n := 1) (pp := 24) (C := RX6) (T := TX6) (N := 11) (idx := 108) (maxL := 2) (ret := (some .boolean)) h_X6_works ⟨rfl, rfl, rfl⟩ rfl gX6_wish_X6_works rfl ⟨rfl, rfl⟩ (by decide +kernel) (by decide) dX6_wish_10 h fun σ lv st h =>
    so_ifeq E 38 (by decide) dX6_wish_13 (sb_X6_wish_38 E T h_X6_isWheel h_X6_works h_X6_isTorque h_X6_spans h_X6_wishOf) h fun σ lv st h =>
    so_iload_n E (i := 2) rfl dX6_wish_16 h fun σ lv st h =>
    so_callT E (n := 1) (idx := 172) (maxL := 1) (ret := (some .boolean)) h_X6_isTorque gX6_wish_X6_isTorque rfl ⟨rfl, rfl⟩ (by decide +kernel) (by decide) dX6_wish_17 h fun σ lv st h =>
    so_ifeq E 38 (by decide) dX6_wish_20 (sb_X6_wish_38 E T h_X6_isWheel h_X6_works h_X6_isTorque h_X6_spans h_X6_wishOf) h fun σ lv st h =>
    so_iload_n E (i := 3) rfl dX6_wish_23 h fun σ lv st h =>
    so_callT E (n := 1) (idx := 172) (maxL := 1) (ret := (some .boolean)) h_X6_isTorque gX6_wish_X6_isTorque rfl ⟨rfl, rfl⟩ (by decide +kernel) (by decide) dX6_wish_24 h fun σ lv st h =>
    so_ifeq E 38 (by decide) dX6_wish_27 (sb_X6_wish_38 E T h_X6_isWheel h_X6_works h_X6_isTorque h_X6_spans h_X6_wishOf) h fun σ lv st h =>
    so_iload E (i := 4) dX6_wish_30 h fun σ lv st h =>
    so_callT E (n := 1) (idx := 172) (maxL := 1) (ret := (some .boolean)) h_X6_isTorque gX6_wish_X6_isTorque rfl ⟨rfl, rfl⟩ (by decide +kernel) (by decide) dX6_wish_32 h fun σ lv st h =>
    so_ifne E 42 (by decide) dX6_wish_35 (sb_X6_wish_42 E T h_X6_isWheel h_X6_works h_X6_isTorque h_X6_spans h_X6_wishOf) h fun σ lv st h =>
    (sb_X6_wish_38 E T h_X6_isWheel h_X6_works h_X6_isTorque h_X6_spans h_X6_wishOf) σ lv st h
theorem c_X6_wish (h_X6_isWheel : q_Ct yX6_isWheel wsX6_isWheel rm_X6_isWheel S_X6_isWheel) (h_X6_works : q_Ct yX6_works wsX6_works rm_X6_works S_X6_works) (h_X6_isTorque : q_Ct yX6_isTorque wsX6_isTorque rm_X6_isTorque S_X6_isTorque) (h_X6_spans : q_Ct yX6_spans wsX6_spans rm_X6_spans S_X6_spans) (h_X6_wishOf : q_Ct yX6_wishOf wsX6_wishOf rm_X6_wishOf S_X6_wishOf) : q_Ct yX6_wish wsX6_wish rm_X6_wish S_X6_wish := by
  refine q_met (cc := cX6_wish) (maxL := 5) (ret := (some .long)) (own := RX6) (by decide +kernel) rfl rfl (fun σ vs Qp h => ?_) (fun l J σ vs Qp E T h => ?_)
  · unfold S_X6_wish at h
    split at h
    · exact Nat.le_of_ble_eq_true rfl
    · exact h.elim
  · unfold S_X6_wish at h
    split at h
    · next c0 p0 k0 k t0 t1 t2 =>
      obtain ⟨rfl, rfl, rfl, h⟩ := h
      exact v_X6_wish (so_C E) (sb_X6_wish_0 E T h_X6_isWheel h_X6_works h_X6_isTorque h_X6_spans h_X6_wishOf) h
    · exact h.elim
theorem cc_X6_wish : q_Ct yX6_wish wsX6_wish rm_X6_wish S_X6_wish := c_X6_wish cc_X6_isWheel cc_X6_works cc_X6_isTorque cc_X6_spans cc_X6_wishOf

def rm_X6_why : Room := { frames := 0, cells := 0, slots := 0, locals := 0 }
theorem fi_X6_why_X6 : ∀ w ∈ u_ws RX6 TX6 11, w ∈ wsX6_why := fun w h => List.mem_cons_of_mem _ (List.mem_append_right _ h)
set_option maxRecDepth 20000 in
theorem sb_X6_why_29 {J : Nat → q_K} {l : Launch} {Qp : Option q_V → q_M → Prop} (E : q_E J cX6_why RX6 wsX6_why 2 l rm_X6_why) (T : q_T J cX6_why (some .int) Qp) : ∀ (σ : q_M) (lv : q_L) (st : q_S), k_X6_why_29 Qp J σ lv st → J 29 σ lv st := fun σ lv st h =>
    so_iret T dX6_why_29 h
set_option maxRecDepth 20000 in
theorem sb_X6_why_19 {J : Nat → q_K} {l : Launch} {Qp : Option q_V → q_M → Prop} (E : q_E J cX6_why RX6 wsX6_why 2 l rm_X6_why) (T : q_T J cX6_why (some .int) Qp) : ∀ (σ : q_M) (lv : q_L) (st : q_S), k_X6_why_19 Qp J σ lv st → J 19 σ lv st := fun σ lv st h =>
    so_aload_n E (i := 0) rfl dX6_why_19 h fun σ lv st h =>
    so_get E (pp := 24) (fi := 0) (C := RX6) (T := TX6) (N := 11) (ref := "WheelDeskModel") ⟨rfl, rfl, rfl⟩ rfl fi_X6_why_X6 (by decide) rfl (List.mem_of_getElem? (i := 3) rfl) dX6_why_20 h fun σ lv st h =>
    so_bipush E (x := 8) rfl dX6_why_23 h fun σ lv st h =>
    so_iload_n E (i := 1) rfl dX6_why_25 h fun σ lv st h =>
    so_iadd E dX6_why_26 h fun σ lv st h =>
    so_lald E dX6_why_27 h fun σ lv st h =>
    so_l2i E dX6_why_28 h fun σ lv st h =>
    (sb_X6_why_29 E T) σ lv st h
set_option maxRecDepth 20000 in
theorem sb_X6_why_9 {J : Nat → q_K} {l : Launch} {Qp : Option q_V → q_M → Prop} (E : q_E J cX6_why RX6 wsX6_why 2 l rm_X6_why) (T : q_T J cX6_why (some .int) Qp) : ∀ (σ : q_M) (lv : q_L) (st : q_S), k_X6_why_9 Qp J σ lv st → J 9 σ lv st := fun σ lv st h =>
    so_iload_n E (i := 1) rfl dX6_why_9 h fun σ lv st h =>
    so_iconst E (x := 2) dX6_why_10 h fun σ lv st h =>
    so_icmple E 19 (by decide) dX6_why_11 (sb_X6_why_19 E T) h fun σ lv st h =>
    so_ldc E (x := -2000009) (idx := 121) (v := -2000009) (List.mem_of_getElem? (i := 2) rfl) rfl dX6_why_14 h fun σ lv st h =>
    so_goto E 29 (by decide) dX6_why_16 (sb_X6_why_29 E T) h
set_option maxRecDepth 20000 in
theorem sb_X6_why_0 {J : Nat → q_K} {l : Launch} {Qp : Option q_V → q_M → Prop} (E : q_E J cX6_why RX6 wsX6_why 2 l rm_X6_why) (T : q_T J cX6_why (some .int) Qp) : ∀ (σ : q_M) (lv : q_L) (st : q_S), k_X6_why_0 Qp J σ lv st → J 0 σ lv st := fun σ lv st h =>
    so_iload_n E (i := 1) rfl dX6_why_0 h fun σ lv st h =>
    so_ifge E 9 (by decide) dX6_why_1 (sb_X6_why_9 E T) h fun σ lv st h =>
    so_ldc E (x := -2000001) (idx := 80) (v := -2000001) (List.mem_of_getElem? (i := 1) rfl) rfl dX6_why_4 h fun σ lv st h =>
    so_goto E 29 (by decide) dX6_why_6 (sb_X6_why_29 E T) h
theorem c_X6_why : q_Ct yX6_why wsX6_why rm_X6_why S_X6_why := by
  refine q_met (cc := cX6_why) (maxL := 2) (ret := (some .int)) (own := RX6) (by decide +kernel) rfl rfl (fun σ vs Qp h => ?_) (fun l J σ vs Qp E T h => ?_)
  · unfold S_X6_why at h
    split at h
    · exact Nat.le_of_ble_eq_true rfl
    · exact h.elim
  · unfold S_X6_why at h
    split at h
    · next c0 p0 k0 d =>
      obtain ⟨rfl, rfl, rfl, h⟩ := h
      exact v_X6_why (so_C E) (sb_X6_why_0 E T) h
    · exact h.elim
theorem cc_X6_why : q_Ct yX6_why wsX6_why rm_X6_why S_X6_why := c_X6_why

def rm_X6_fullness : Room := { frames := 1, cells := 0, slots := 0, locals := 21 }
theorem fi_X6_fullness_X6 : ∀ w ∈ u_ws RX6 TX6 11, w ∈ wsX6_fullness := fun w h => List.mem_cons_of_mem _ (List.mem_append_right _ h)
set_option maxRecDepth 20000 in
theorem sb_X6_fullness_0 {J : Nat → q_K} {l : Launch} {Qp : Option q_V → q_M → Prop} (E : q_E J cX6_fullness RX6 wsX6_fullness 4 l rm_X6_fullness) (T : q_T J cX6_fullness (some .float) Qp) (h_X6_wheelAt : q_Ct yX6_wheelAt wsX6_wheelAt rm_X6_wheelAt S_X6_wheelAt) (h_X6_size : q_Ct yX6_size wsX6_size rm_X6_size S_X6_size) : ∀ (σ : q_M) (lv : q_L) (st : q_S), k_X6_fullness_0 Qp J σ lv st → J 0 σ lv st := fun σ lv st h =>
    so_fconst0 E dX6_fullness_0 h fun σ lv st h =>
    so_fstore_n E (i := 1) rfl (by decide) dX6_fullness_1 h fun σ lv st h =>
    so_iconst E (x := 0) dX6_fullness_2 h fun σ lv st h =>
    so_istore_n E (i := 2) rfl (by decide) dX6_fullness_3 h fun σ lv st h =>
    h
set_option maxRecDepth 20000 in
theorem sb_X6_fullness_62 {J : Nat → q_K} {l : Launch} {Qp : Option q_V → q_M → Prop} (E : q_E J cX6_fullness RX6 wsX6_fullness 4 l rm_X6_fullness) (T : q_T J cX6_fullness (some .float) Qp) (h_X6_wheelAt : q_Ct yX6_wheelAt wsX6_wheelAt rm_X6_wheelAt S_X6_wheelAt) (h_X6_size : q_Ct yX6_size wsX6_size rm_X6_size S_X6_size) : ∀ (σ : q_M) (lv : q_L) (st : q_S), k_X6_fullness_62 Qp J σ lv st → J 62 σ lv st := fun σ lv st h =>
    so_fload_n E (i := 1) rfl dX6_fullness_62 h fun σ lv st h =>
    so_fret T dX6_fullness_63 h
set_option maxRecDepth 20000 in
theorem sb_X6_fullness_55 {J : Nat → q_K} {l : Launch} {Qp : Option q_V → q_M → Prop} (E : q_E J cX6_fullness RX6 wsX6_fullness 4 l rm_X6_fullness) (T : q_T J cX6_fullness (some .float) Qp) (h_X6_wheelAt : q_Ct yX6_wheelAt wsX6_wheelAt rm_X6_wheelAt S_X6_wheelAt) (h_X6_size : q_Ct yX6_size wsX6_size rm_X6_size S_X6_size) : ∀ (σ : q_M) (lv : q_L) (st : q_S), k_X6_fullness_55 Qp J σ lv st → J 55 σ lv st := fun σ lv st h =>
    so_fstore_n E (i := 1) rfl (by decide) dX6_fullness_55 h fun σ lv st h =>
    so_iinc E (i := 2) (n := 1) (by decide) dX6_fullness_56 h fun σ lv st h =>
    so_goto E 4 (by decide) dX6_fullness_59 (fun _ _ _ h => h) h
set_option maxRecDepth 20000 in
theorem sb_X6_fullness_54 {J : Nat → q_K} {l : Launch} {Qp : Option q_V → q_M → Prop} (E : q_E J cX6_fullness RX6 wsX6_fullness 4 l rm_X6_fullness) (T : q_T J cX6_fullness (some .float) Qp) (h_X6_wheelAt : q_Ct yX6_wheelAt wsX6_wheelAt rm_X6_wheelAt S_X6_wheelAt) (h_X6_size : q_Ct yX6_size wsX6_size rm_X6_size S_X6_size) : ∀ (σ : q_M) (lv : q_L) (st : q_S), k_X6_fullness_54 Qp J σ lv st → J 54 σ lv st := fun σ lv st h =>
    so_fload_n E (i := 1) rfl dX6_fullness_54 h fun σ lv st h =>
    (sb_X6_fullness_55 E T h_X6_wheelAt h_X6_size) σ lv st h
set_option maxRecDepth 20000 in
theorem sb_X6_fullness_4 {J : Nat → q_K} {l : Launch} {Qp : Option q_V → q_M → Prop} (E : q_E J cX6_fullness RX6 wsX6_fullness 4 l rm_X6_fullness) (T : q_T J cX6_fullness (some .float) Qp) (h_X6_wheelAt : q_Ct yX6_wheelAt wsX6_wheelAt rm_X6_wheelAt S_X6_wheelAt) (h_X6_size : q_Ct yX6_size wsX6_size rm_X6_size S_X6_size) : ∀ (σ : q_M) (lv : q_L) (st : q_S), k_X6_fullness_4 Qp J σ lv st → J 4 σ lv st := fun σ lv st h =>
    so_iload_n E (i := 2) rfl dX6_fullness_4 h fun σ lv st h =>
    so_i2l E dX6_fullness_5 h fun σ lv st h =>
    so_aload_n E (i := 0) rfl dX6_fullness_6 h fun σ lv st h =>
    so_get E (pp := 24) (fi := 0) (C := RX6) (T := TX6) (N := 11) (ref := "WheelDeskModel") ⟨rfl, rfl, rfl⟩ rfl fi_X6_fullness_X6 (by decide) rfl (List.mem_of_getElem? (i := 1) rfl) dX6_fullness_7 h fun σ lv st h =>
    so_bipush E (x := 6) rfl dX6_fullness_10 h fun σ lv st h =>
    so_lald E dX6_fullness_12 h fun σ lv st h =>
    so_lcmp E dX6_fullness_13 h fun σ lv st h =>
    so_ifge E 62 (by decide) dX6_fullness_14 (sb_X6_fullness_62 E T h_X6_wheelAt h_X6_size) h fun σ lv st h =>
    so_aload_n E (i := 0) rfl dX6_fullness_17 h fun σ lv st h =>
    so_get E (pp := 24) (fi := 0) (C := RX6) (T := TX6) (N := 11) (ref := "WheelDeskModel") ⟨rfl, rfl, rfl⟩ rfl fi_X6_fullness_X6 (by decide) rfl (List.mem_of_getElem? (i := 1) rfl) dX6_fullness_18 h fun σ lv st h =>
    so_iload_n E (i := 2) rfl dX6_fullness_21 h fun σ lv st h =>
    so_iconst E (x := 3) dX6_fullness_22 h fun σ lv st h =>
    so_callT E (n := 2) (idx := 71) (maxL := 2) (ret := (some .int)) h_X6_wheelAt gX6_fullness_X6_wheelAt rfl ⟨rfl, rfl⟩ (by decide +kernel) (by decide) dX6_fullness_23 h fun σ lv st h =>
    so_lald E dX6_fullness_26 h fun σ lv st h =>
    so_callT E (n := 1) (idx := 175) (maxL := 2) (ret := (some .long)) h_X6_size gX6_fullness_X6_size rfl ⟨rfl, rfl⟩ (by decide +kernel) (by decide) dX6_fullness_27 h fun σ lv st h =>
    so_l2f E dX6_fullness_30 h fun σ lv st h =>
    so_aload_n E (i := 0) rfl dX6_fullness_31 h fun σ lv st h =>
    so_get E (pp := 24) (fi := 0) (C := RX6) (T := TX6) (N := 11) (ref := "WheelDeskModel") ⟨rfl, rfl, rfl⟩ rfl fi_X6_fullness_X6 (by decide) rfl (List.mem_of_getElem? (i := 1) rfl) dX6_fullness_32 h fun σ lv st h =>
    so_iload_n E (i := 2) rfl dX6_fullness_35 h fun σ lv st h =>
    so_iconst E (x := 4) dX6_fullness_36 h fun σ lv st h =>
    so_callT E (n := 2) (idx := 71) (maxL := 2) (ret := (some .int)) h_X6_wheelAt gX6_fullness_X6_wheelAt rfl ⟨rfl, rfl⟩ (by decide +kernel) (by decide) dX6_fullness_37 h fun σ lv st h =>
    so_lald E dX6_fullness_40 h fun σ lv st h =>
    so_l2f E dX6_fullness_41 h fun σ lv st h =>
    so_fdiv E dX6_fullness_42 h fun σ lv st h =>
    so_fstore_n E (i := 3) rfl (by decide) dX6_fullness_43 h fun σ lv st h =>
    so_fload_n E (i := 3) rfl dX6_fullness_44 h fun σ lv st h =>
    so_fload_n E (i := 1) rfl dX6_fullness_45 h fun σ lv st h =>
    so_fcmpl E dX6_fullness_46 h fun σ lv st h =>
    so_ifle E 54 (by decide) dX6_fullness_47 (sb_X6_fullness_54 E T h_X6_wheelAt h_X6_size) h fun σ lv st h =>
    so_fload_n E (i := 3) rfl dX6_fullness_50 h fun σ lv st h =>
    so_goto E 55 (by decide) dX6_fullness_51 (sb_X6_fullness_55 E T h_X6_wheelAt h_X6_size) h
theorem c_X6_fullness (h_X6_wheelAt : q_Ct yX6_wheelAt wsX6_wheelAt rm_X6_wheelAt S_X6_wheelAt) (h_X6_size : q_Ct yX6_size wsX6_size rm_X6_size S_X6_size) : q_Ct yX6_fullness wsX6_fullness rm_X6_fullness S_X6_fullness := by
  refine q_met (cc := cX6_fullness) (maxL := 4) (ret := (some .float)) (own := RX6) (by decide +kernel) rfl rfl (fun σ vs Qp h => ?_) (fun l J σ vs Qp E T h => ?_)
  · unfold S_X6_fullness at h
    split at h
    · exact Nat.le_of_ble_eq_true rfl
    · exact h.elim
  · unfold S_X6_fullness at h
    split at h
    · next c0 p0 k0 =>
      obtain ⟨rfl, rfl, rfl, h⟩ := h
      exact v_X6_fullness (so_C E) (sb_X6_fullness_0 E T h_X6_wheelAt h_X6_size) (sb_X6_fullness_4 E T h_X6_wheelAt h_X6_size) h
    · exact h.elim
theorem cc_X6_fullness : q_Ct yX6_fullness wsX6_fullness rm_X6_fullness S_X6_fullness := c_X6_fullness cc_X6_wheelAt cc_X6_size

def rm_X6_isThere : Room := { frames := 2, cells := 0, slots := 0, locals := 46 }
theorem fi_X6_isThere_X6 : ∀ w ∈ u_ws RX6 TX6 11, w ∈ wsX6_isThere := fun w h => List.mem_cons_of_mem _ (List.mem_append_right _ h)
set_option maxRecDepth 20000 in
theorem sb_X6_isThere_0 {J : Nat → q_K} {l : Launch} {Qp : Option q_V → q_M → Prop} (E : q_E J cX6_isThere RX6 wsX6_isThere 4 l rm_X6_isThere) (T : q_T J cX6_isThere (some .boolean) Qp) (h_X6_axisAt : q_Ct yX6_axisAt wsX6_axisAt rm_X6_axisAt S_X6_axisAt) (h_X6_size : q_Ct yX6_size wsX6_size rm_X6_size S_X6_size) (h_X6_rate : q_Ct yX6_rate wsX6_rate rm_X6_rate S_X6_rate) : ∀ (σ : q_M) (lv : q_L) (st : q_S), k_X6_isThere_0 Qp J σ lv st → J 0 σ lv st := fun σ lv st h =>
    so_iconst E (x := 1) dX6_isThere_0 h fun σ lv st h =>
    so_istore_n E (i := 2) rfl (by decide) dX6_isThere_1 h fun σ lv st h =>
    so_iconst E (x := 0) dX6_isThere_2 h fun σ lv st h =>
    so_istore_n E (i := 3) rfl (by decide) dX6_isThere_3 h fun σ lv st h =>
    h
set_option maxRecDepth 20000 in
theorem sb_X6_isThere_68 {J : Nat → q_K} {l : Launch} {Qp : Option q_V → q_M → Prop} (E : q_E J cX6_isThere RX6 wsX6_isThere 4 l rm_X6_isThere) (T : q_T J cX6_isThere (some .boolean) Qp) (h_X6_axisAt : q_Ct yX6_axisAt wsX6_axisAt rm_X6_axisAt S_X6_axisAt) (h_X6_size : q_Ct yX6_size wsX6_size rm_X6_size S_X6_size) (h_X6_rate : q_Ct yX6_rate wsX6_rate rm_X6_rate S_X6_rate) : ∀ (σ : q_M) (lv : q_L) (st : q_S), k_X6_isThere_68 Qp J σ lv st → J 68 σ lv st := fun σ lv st h =>
    so_iload_n E (i := 2) rfl dX6_isThere_68 h fun σ lv st h =>
    so_zret T dX6_isThere_69 h
set_option maxRecDepth 20000 in
theorem sb_X6_isThere_61 {J : Nat → q_K} {l : Launch} {Qp : Option q_V → q_M → Prop} (E : q_E J cX6_isThere RX6 wsX6_isThere 4 l rm_X6_isThere) (T : q_T J cX6_isThere (some .boolean) Qp) (h_X6_axisAt : q_Ct yX6_axisAt wsX6_axisAt rm_X6_axisAt S_X6_axisAt) (h_X6_size : q_Ct yX6_size wsX6_size rm_X6_size S_X6_size) (h_X6_rate : q_Ct yX6_rate wsX6_rate rm_X6_rate S_X6_rate) : ∀ (σ : q_M) (lv : q_L) (st : q_S), k_X6_isThere_61 Qp J σ lv st → J 61 σ lv st := fun σ lv st h =>
    so_istore_n E (i := 2) rfl (by decide) dX6_isThere_61 h fun σ lv st h =>
    so_iinc E (i := 3) (n := 1) (by decide) dX6_isThere_62 h fun σ lv st h =>
    so_goto E 4 (by decide) dX6_isThere_65 (fun _ _ _ h => h) h
set_option maxRecDepth 20000 in
theorem sb_X6_isThere_60 {J : Nat → q_K} {l : Launch} {Qp : Option q_V → q_M → Prop} (E : q_E J cX6_isThere RX6 wsX6_isThere 4 l rm_X6_isThere) (T : q_T J cX6_isThere (some .boolean) Qp) (h_X6_axisAt : q_Ct yX6_axisAt wsX6_axisAt rm_X6_axisAt S_X6_axisAt) (h_X6_size : q_Ct yX6_size wsX6_size rm_X6_size S_X6_size) (h_X6_rate : q_Ct yX6_rate wsX6_rate rm_X6_rate S_X6_rate) : ∀ (σ : q_M) (lv : q_L) (st : q_S), k_X6_isThere_60 Qp J σ lv st → J 60 σ lv st := fun σ lv st h =>
    so_iconst E (x := 0) dX6_isThere_60 h fun σ lv st h =>
    (sb_X6_isThere_61 E T h_X6_axisAt h_X6_size h_X6_rate) σ lv st h
set_option maxRecDepth 20000 in
theorem sb_X6_isThere_4 {J : Nat → q_K} {l : Launch} {Qp : Option q_V → q_M → Prop} (E : q_E J cX6_isThere RX6 wsX6_isThere 4 l rm_X6_isThere) (T : q_T J cX6_isThere (some .boolean) Qp) (h_X6_axisAt : q_Ct yX6_axisAt wsX6_axisAt rm_X6_axisAt S_X6_axisAt) (h_X6_size : q_Ct yX6_size wsX6_size rm_X6_size S_X6_size) (h_X6_rate : q_Ct yX6_rate wsX6_rate rm_X6_rate S_X6_rate) : ∀ (σ : q_M) (lv : q_L) (st : q_S), k_X6_isThere_4 Qp J σ lv st → J 4 σ lv st := fun σ lv st h =>
    so_iload_n E (i := 3) rfl dX6_isThere_4 h fun σ lv st h =>
    so_iconst E (x := 3) dX6_isThere_5 h fun σ lv st h =>
    so_icmpge E 68 (by decide) dX6_isThere_6 (sb_X6_isThere_68 E T h_X6_axisAt h_X6_size h_X6_rate) h fun σ lv st h =>
    so_iload_n E (i := 2) rfl dX6_isThere_9 h fun σ lv st h =>
    so_ifeq E 60 (by decide) dX6_isThere_10 (sb_X6_isThere_60 E T h_X6_axisAt h_X6_size h_X6_rate) h fun σ lv st h =>
    so_aload_n E (i := 0) rfl dX6_isThere_13 h fun σ lv st h =>
    so_get E (pp := 24) (fi := 0) (C := RX6) (T := TX6) (N := 11) (ref := "WheelDeskModel") ⟨rfl, rfl, rfl⟩ rfl fi_X6_isThere_X6 (by decide) rfl (List.mem_of_getElem? (i := 1) rfl) dX6_isThere_14 h fun σ lv st h =>
    so_iload_n E (i := 3) rfl dX6_isThere_17 h fun σ lv st h =>
    so_iconst E (x := 0) dX6_isThere_18 h fun σ lv st h =>
    so_callT E (n := 2) (idx := 45) (maxL := 2) (ret := (some .int)) h_X6_axisAt gX6_isThere_X6_axisAt rfl ⟨rfl, rfl⟩ (by decide +kernel) (by decide) dX6_isThere_19 h fun σ lv st h =>
    so_lald E dX6_isThere_22 h fun σ lv st h =>
    so_aload_n E (i := 0) rfl dX6_isThere_23 h fun σ lv st h =>
    so_get E (pp := 24) (fi := 0) (C := RX6) (T := TX6) (N := 11) (ref := "WheelDeskModel") ⟨rfl, rfl, rfl⟩ rfl fi_X6_isThere_X6 (by decide) rfl (List.mem_of_getElem? (i := 1) rfl) dX6_isThere_24 h fun σ lv st h =>
    so_iload_n E (i := 3) rfl dX6_isThere_27 h fun σ lv st h =>
    so_iconst E (x := 3) dX6_isThere_28 h fun σ lv st h =>
    so_callT E (n := 2) (idx := 45) (maxL := 2) (ret := (some .int)) h_X6_axisAt gX6_isThere_X6_axisAt rfl ⟨rfl, rfl⟩ (by decide +kernel) (by decide) dX6_isThere_29 h fun σ lv st h =>
    so_lald E dX6_isThere_32 h fun σ lv st h =>
    so_lsub E dX6_isThere_33 h fun σ lv st h =>
    so_callT E (n := 1) (idx := 175) (maxL := 2) (ret := (some .long)) h_X6_size gX6_isThere_X6_size rfl ⟨rfl, rfl⟩ (by decide +kernel) (by decide) dX6_isThere_34 h fun σ lv st h =>
    so_iload_n E (i := 1) rfl dX6_isThere_37 h fun σ lv st h =>
    so_i2l E dX6_isThere_38 h fun σ lv st h =>
    so_lcmp E dX6_isThere_39 h fun σ lv st h =>
    so_ifgt E 60 (by decide) dX6_isThere_40 (sb_X6_isThere_60 E T h_X6_axisAt h_X6_size h_X6_rate) h fun σ lv st h =>
    so_aload_n E (i := 0) rfl dX6_isThere_43 h fun σ lv st h =>
    so_iload_n E (i := 3) rfl dX6_isThere_44 h fun σ lv st h =>
    so_callV E (n := 1) (pp := 24) (C := RX6) (T := TX6) (N := 11) (idx := 104) (maxL := 2) (ret := (some .long)) h_X6_rate ⟨rfl, rfl, rfl⟩ rfl gX6_isThere_X6_rate rfl ⟨rfl, rfl⟩ (by decide +kernel) (by decide) dX6_isThere_45 h fun σ lv st h =>
    so_callT E (n := 1) (idx := 175) (maxL := 2) (ret := (some .long)) h_X6_size gX6_isThere_X6_size rfl ⟨rfl, rfl⟩ (by decide +kernel) (by decide) dX6_isThere_48 h fun σ lv st h =>
    so_lconst E (x := 1) rfl dX6_isThere_51 h fun σ lv st h =>
    so_lcmp E dX6_isThere_52 h fun σ lv st h =>
    so_ifgt E 60 (by decide) dX6_isThere_53 (sb_X6_isThere_60 E T h_X6_axisAt h_X6_size h_X6_rate) h fun σ lv st h =>
    so_iconst E (x := 1) dX6_isThere_56 h fun σ lv st h =>
    so_goto E 61 (by decide) dX6_isThere_57 (sb_X6_isThere_61 E T h_X6_axisAt h_X6_size h_X6_rate) h
theorem c_X6_isThere (h_X6_axisAt : q_Ct yX6_axisAt wsX6_axisAt rm_X6_axisAt S_X6_axisAt) (h_X6_size : q_Ct yX6_size wsX6_size rm_X6_size S_X6_size) (h_X6_rate : q_Ct yX6_rate wsX6_rate rm_X6_rate S_X6_rate) : q_Ct yX6_isThere wsX6_isThere rm_X6_isThere S_X6_isThere := by
  refine q_met (cc := cX6_isThere) (maxL := 4) (ret := (some .boolean)) (own := RX6) (by decide +kernel) rfl rfl (fun σ vs Qp h => ?_) (fun l J σ vs Qp E T h => ?_)
  · unfold S_X6_isThere at h
    split at h
    · exact Nat.le_of_ble_eq_true rfl
    · exact h.elim
  · unfold S_X6_isThere at h
    split at h
    · next c0 p0 k0 b =>
      obtain ⟨rfl, rfl, rfl, h⟩ := h
      exact v_X6_isThere (so_C E) (sb_X6_isThere_0 E T h_X6_axisAt h_X6_size h_X6_rate) (sb_X6_isThere_4 E T h_X6_axisAt h_X6_size h_X6_rate) h
    · exact h.elim
theorem cc_X6_isThere : q_Ct yX6_isThere wsX6_isThere rm_X6_isThere S_X6_isThere := c_X6_isThere cc_X6_axisAt cc_X6_size cc_X6_rate

def rm_X6_arrives : Room := { frames := 5, cells := 0, slots := 0, locals := 128 }
theorem fi_X6_arrives_X6 : ∀ w ∈ u_ws RX6 TX6 11, w ∈ wsX6_arrives := fun w h => List.mem_cons_of_mem _ (List.mem_append_right _ h)
set_option maxRecDepth 20000 in
theorem sb_X6_arrives_13 {J : Nat → q_K} {l : Launch} {Qp : Option q_V → q_M → Prop} (E : q_E J cX6_arrives RX6 wsX6_arrives 5 l rm_X6_arrives) (T : q_T J cX6_arrives (some .int) Qp) (h_X6_in : q_Ct yX6_in wsX6_in rm_X6_in S_X6_in) (h_X6_copies : q_Ct yX6_copies wsX6_copies rm_X6_copies S_X6_copies) (h_X6_isThere : q_Ct yX6_isThere wsX6_isThere rm_X6_isThere S_X6_isThere) (h_X6_passes : q_Ct yX6_passes wsX6_passes rm_X6_passes S_X6_passes) : ∀ (σ : q_M) (lv : q_L) (st : q_S), k_X6_arrives_13 Qp J σ lv st → J 13 σ lv st := fun σ lv st h =>
    so_aload_n E (i := 0) rfl dX6_arrives_13 h fun σ lv st h =>
    so_get E (pp := 24) (fi := 0) (C := RX6) (T := TX6) (N := 11) (ref := "WheelDeskModel") ⟨rfl, rfl, rfl⟩ rfl fi_X6_arrives_X6 (by decide) rfl (List.mem_of_getElem? (i := 3) rfl) dX6_arrives_14 h fun σ lv st h =>
    so_aload_n E (i := 0) rfl dX6_arrives_17 h fun σ lv st h =>
    so_get E (pp := 24) (fi := 1) (C := RX6) (T := TX6) (N := 11) (ref := "WheelDeskModel") ⟨rfl, rfl, rfl⟩ rfl fi_X6_arrives_X6 (by decide) rfl (List.mem_of_getElem? (i := 4) rfl) dX6_arrives_18 h fun σ lv st h =>
    so_callT E (n := 2) (idx := 179) (maxL := 3) (ret := none) h_X6_copies gX6_arrives_X6_copies rfl ⟨rfl, rfl⟩ (by decide +kernel) (by decide) dX6_arrives_21 h fun σ lv st h =>
    so_ldc E (x := -2000009) (idx := 121) (v := -2000009) (List.mem_of_getElem? (i := 5) rfl) rfl dX6_arrives_24 h fun σ lv st h =>
    so_istore_n E (i := 2) rfl (by decide) dX6_arrives_26 h fun σ lv st h =>
    so_iconst E (x := 0) dX6_arrives_27 h fun σ lv st h =>
    so_istore_n E (i := 3) rfl (by decide) dX6_arrives_28 h fun σ lv st h =>
    h
set_option maxRecDepth 20000 in
theorem sb_X6_arrives_0 {J : Nat → q_K} {l : Launch} {Qp : Option q_V → q_M → Prop} (E : q_E J cX6_arrives RX6 wsX6_arrives 5 l rm_X6_arrives) (T : q_T J cX6_arrives (some .int) Qp) (h_X6_in : q_Ct yX6_in wsX6_in rm_X6_in S_X6_in) (h_X6_copies : q_Ct yX6_copies wsX6_copies rm_X6_copies S_X6_copies) (h_X6_isThere : q_Ct yX6_isThere wsX6_isThere rm_X6_isThere S_X6_isThere) (h_X6_passes : q_Ct yX6_passes wsX6_passes rm_X6_passes S_X6_passes) : ∀ (σ : q_M) (lv : q_L) (st : q_S), k_X6_arrives_0 Qp J σ lv st → J 0 σ lv st := fun σ lv st h =>
    so_iload_n E (i := 1) rfl dX6_arrives_0 h fun σ lv st h =>
    so_iconst E (x := 0) dX6_arrives_1 h fun σ lv st h =>
    so_ldc E (x := 1000000) (idx := 78) (v := 1000000) (List.mem_of_getElem? (i := 1) rfl) rfl dX6_arrives_2 h fun σ lv st h =>
    so_callT E (n := 3) (idx := 67) (maxL := 3) (ret := (some .boolean)) h_X6_in gX6_arrives_X6_in rfl ⟨rfl, rfl⟩ (by decide +kernel) (by decide) dX6_arrives_4 h fun σ lv st h =>
    so_ifne E 13 (by decide) dX6_arrives_7 (sb_X6_arrives_13 E T h_X6_in h_X6_copies h_X6_isThere h_X6_passes) h fun σ lv st h =>
    so_ldc E (x := -2000001) (idx := 80) (v := -2000001) (List.mem_of_getElem? (i := 2) rfl) rfl dX6_arrives_10 h fun σ lv st h =>
    so_iret T dX6_arrives_12 h
set_option maxRecDepth 20000 in
theorem sb_X6_arrives_66 {J : Nat → q_K} {l : Launch} {Qp : Option q_V → q_M → Prop} (E : q_E J cX6_arrives RX6 wsX6_arrives 5 l rm_X6_arrives) (T : q_T J cX6_arrives (some .int) Qp) (h_X6_in : q_Ct yX6_in wsX6_in rm_X6_in S_X6_in) (h_X6_copies : q_Ct yX6_copies wsX6_copies rm_X6_copies S_X6_copies) (h_X6_isThere : q_Ct yX6_isThere wsX6_isThere rm_X6_isThere S_X6_isThere) (h_X6_passes : q_Ct yX6_passes wsX6_passes rm_X6_passes S_X6_passes) : ∀ (σ : q_M) (lv : q_L) (st : q_S), k_X6_arrives_66 Qp J σ lv st → J 66 σ lv st := fun σ lv st h =>
    so_aload_n E (i := 0) rfl dX6_arrives_66 h fun σ lv st h =>
    so_get E (pp := 24) (fi := 1) (C := RX6) (T := TX6) (N := 11) (ref := "WheelDeskModel") ⟨rfl, rfl, rfl⟩ rfl fi_X6_arrives_X6 (by decide) rfl (List.mem_of_getElem? (i := 4) rfl) dX6_arrives_67 h fun σ lv st h =>
    so_aload_n E (i := 0) rfl dX6_arrives_70 h fun σ lv st h =>
    so_get E (pp := 24) (fi := 0) (C := RX6) (T := TX6) (N := 11) (ref := "WheelDeskModel") ⟨rfl, rfl, rfl⟩ rfl fi_X6_arrives_X6 (by decide) rfl (List.mem_of_getElem? (i := 3) rfl) dX6_arrives_71 h fun σ lv st h =>
    so_callT E (n := 2) (idx := 179) (maxL := 3) (ret := none) h_X6_copies gX6_arrives_X6_copies rfl ⟨rfl, rfl⟩ (by decide +kernel) (by decide) dX6_arrives_74 h fun σ lv st h =>
    so_iload_n E (i := 2) rfl dX6_arrives_77 h fun σ lv st h =>
    so_iret T dX6_arrives_78 h
set_option maxRecDepth 20000 in
theorem sb_X6_arrives_53 {J : Nat → q_K} {l : Launch} {Qp : Option q_V → q_M → Prop} (E : q_E J cX6_arrives RX6 wsX6_arrives 5 l rm_X6_arrives) (T : q_T J cX6_arrives (some .int) Qp) (h_X6_in : q_Ct yX6_in wsX6_in rm_X6_in S_X6_in) (h_X6_copies : q_Ct yX6_copies wsX6_copies rm_X6_copies S_X6_copies) (h_X6_isThere : q_Ct yX6_isThere wsX6_isThere rm_X6_isThere S_X6_isThere) (h_X6_passes : q_Ct yX6_passes wsX6_passes rm_X6_passes S_X6_passes) : ∀ (σ : q_M) (lv : q_L) (st : q_S), k_X6_arrives_53 Qp J σ lv st → J 53 σ lv st := fun σ lv st h =>
    so_istore_n E (i := 2) rfl (by decide) dX6_arrives_53 h fun σ lv st h =>
    so_aload_n E (i := 0) rfl dX6_arrives_54 h fun σ lv st h =>
    so_callV E (n := 0) (pp := 24) (C := RX6) (T := TX6) (N := 11) (idx := 162) (maxL := 4) (ret := (some .boolean)) h_X6_passes ⟨rfl, rfl, rfl⟩ rfl gX6_arrives_X6_passes rfl ⟨rfl, rfl⟩ (by decide +kernel) (by decide) dX6_arrives_55 h fun σ lv st h =>
    so_istore E (i := 4) (by decide) dX6_arrives_58 h fun σ lv st h =>
    so_iinc E (i := 3) (n := 1) (by decide) dX6_arrives_60 h fun σ lv st h =>
    so_goto E 29 (by decide) dX6_arrives_63 (fun _ _ _ h => h) h
set_option maxRecDepth 20000 in
theorem sb_X6_arrives_52 {J : Nat → q_K} {l : Launch} {Qp : Option q_V → q_M → Prop} (E : q_E J cX6_arrives RX6 wsX6_arrives 5 l rm_X6_arrives) (T : q_T J cX6_arrives (some .int) Qp) (h_X6_in : q_Ct yX6_in wsX6_in rm_X6_in S_X6_in) (h_X6_copies : q_Ct yX6_copies wsX6_copies rm_X6_copies S_X6_copies) (h_X6_isThere : q_Ct yX6_isThere wsX6_isThere rm_X6_isThere S_X6_isThere) (h_X6_passes : q_Ct yX6_passes wsX6_passes rm_X6_passes S_X6_passes) : ∀ (σ : q_M) (lv : q_L) (st : q_S), k_X6_arrives_52 Qp J σ lv st → J 52 σ lv st := fun σ lv st h =>
    so_iload_n E (i := 2) rfl dX6_arrives_52 h fun σ lv st h =>
    (sb_X6_arrives_53 E T h_X6_in h_X6_copies h_X6_isThere h_X6_passes) σ lv st h
set_option maxRecDepth 20000 in
theorem sb_X6_arrives_29 {J : Nat → q_K} {l : Launch} {Qp : Option q_V → q_M → Prop} (E : q_E J cX6_arrives RX6 wsX6_arrives 5 l rm_X6_arrives) (T : q_T J cX6_arrives (some .int) Qp) (h_X6_in : q_Ct yX6_in wsX6_in rm_X6_in S_X6_in) (h_X6_copies : q_Ct yX6_copies wsX6_copies rm_X6_copies S_X6_copies) (h_X6_isThere : q_Ct yX6_isThere wsX6_isThere rm_X6_isThere S_X6_isThere) (h_X6_passes : q_Ct yX6_passes wsX6_passes rm_X6_passes S_X6_passes) : ∀ (σ : q_M) (lv : q_L) (st : q_S), k_X6_arrives_29 Qp J σ lv st → J 29 σ lv st := fun σ lv st h =>
    so_iload_n E (i := 3) rfl dX6_arrives_29 h fun σ lv st h =>
    so_sipush E (x := 500) rfl dX6_arrives_30 h fun σ lv st h =>
    so_icmpgt E 66 (by decide) dX6_arrives_33 (sb_X6_arrives_66 E T h_X6_in h_X6_copies h_X6_isThere h_X6_passes) h fun σ lv st h =>
    so_iload_n E (i := 2) rfl dX6_arrives_36 h fun σ lv st h =>
    so_ifge E 66 (by decide) dX6_arrives_37 (sb_X6_arrives_66 E T h_X6_in h_X6_copies h_X6_isThere h_X6_passes) h fun σ lv st h =>
    so_aload_n E (i := 0) rfl dX6_arrives_40 h fun σ lv st h =>
    so_iload_n E (i := 1) rfl dX6_arrives_41 h fun σ lv st h =>
    so_callV E (n := 1) (pp := 24) (C := RX6) (T := TX6) (N := 11) (idx := 183) (maxL := 4) (ret := (some .boolean)) h_X6_isThere ⟨rfl, rfl, rfl⟩ rfl gX6_arrives_X6_isThere rfl ⟨rfl, rfl⟩ (by decide +kernel) (by decide) dX6_arrives_42 h fun σ lv st h =>
    so_ifeq E 52 (by decide) dX6_arrives_45 (sb_X6_arrives_52 E T h_X6_in h_X6_copies h_X6_isThere h_X6_passes) h fun σ lv st h =>
    so_iload_n E (i := 3) rfl dX6_arrives_48 h fun σ lv st h =>
    so_goto E 53 (by decide) dX6_arrives_49 (sb_X6_arrives_53 E T h_X6_in h_X6_copies h_X6_isThere h_X6_passes) h
theorem c_X6_arrives (h_X6_in : q_Ct yX6_in wsX6_in rm_X6_in S_X6_in) (h_X6_copies : q_Ct yX6_copies wsX6_copies rm_X6_copies S_X6_copies) (h_X6_isThere : q_Ct yX6_isThere wsX6_isThere rm_X6_isThere S_X6_isThere) (h_X6_passes : q_Ct yX6_passes wsX6_passes rm_X6_passes S_X6_passes) : q_Ct yX6_arrives wsX6_arrives rm_X6_arrives S_X6_arrives := by
  refine q_met (cc := cX6_arrives) (maxL := 5) (ret := (some .int)) (own := RX6) (by decide +kernel) rfl rfl (fun σ vs Qp h => ?_) (fun l J σ vs Qp E T h => ?_)
  · unfold S_X6_arrives at h
    split at h
    · exact Nat.le_of_ble_eq_true rfl
    · exact h.elim
  · unfold S_X6_arrives at h
    split at h
    · next c0 p0 k0 b =>
      obtain ⟨rfl, rfl, rfl, h⟩ := h
      exact v_X6_arrives (so_C E) (sb_X6_arrives_0 E T h_X6_in h_X6_copies h_X6_isThere h_X6_passes) (sb_X6_arrives_29 E T h_X6_in h_X6_copies h_X6_isThere h_X6_passes) h
    · exact h.elim
theorem cc_X6_arrives : q_Ct yX6_arrives wsX6_arrives rm_X6_arrives S_X6_arrives := c_X6_arrives cc_X6_in cc_X6_copies cc_X6_isThere cc_X6_passes

def rm_X6_spare : Room := { frames := 3, cells := 0, slots := 0, locals := 67 }
theorem fi_X6_spare_X6 : ∀ w ∈ u_ws RX6 TX6 11, w ∈ wsX6_spare := fun w h => List.mem_cons_of_mem _ (List.mem_append_right _ h)
set_option maxRecDepth 20000 in
theorem sb_X6_spare_0 {J : Nat → q_K} {l : Launch} {Qp : Option q_V → q_M → Prop} (E : q_E J cX6_spare RX6 wsX6_spare 3 l rm_X6_spare) (T : q_T J cX6_spare (some .int) Qp) (h_X6_spans : q_Ct yX6_spans wsX6_spans rm_X6_spans S_X6_spans) (h_X6_works : q_Ct yX6_works wsX6_works rm_X6_works S_X6_works) : ∀ (σ : q_M) (lv : q_L) (st : q_S), k_X6_spare_0 Qp J σ lv st → J 0 σ lv st := fun σ lv st h =>
    so_iconst E (x := 0) dX6_spare_0 h fun σ lv st h =>
    so_istore_n E (i := 1) rfl (by decide) dX6_spare_1 h fun σ lv st h =>
    so_iconst E (x := 0) dX6_spare_2 h fun σ lv st h =>
    so_istore_n E (i := 2) rfl (by decide) dX6_spare_3 h fun σ lv st h =>
    h
set_option maxRecDepth 20000 in
theorem sb_X6_spare_55 {J : Nat → q_K} {l : Launch} {Qp : Option q_V → q_M → Prop} (E : q_E J cX6_spare RX6 wsX6_spare 3 l rm_X6_spare) (T : q_T J cX6_spare (some .int) Qp) (h_X6_spans : q_Ct yX6_spans wsX6_spans rm_X6_spans S_X6_spans) (h_X6_works : q_Ct yX6_works wsX6_works rm_X6_works S_X6_works) : ∀ (σ : q_M) (lv : q_L) (st : q_S), k_X6_spare_55 Qp J σ lv st → J 55 σ lv st := fun σ lv st h =>
    so_iload_n E (i := 1) rfl dX6_spare_55 h fun σ lv st h =>
    so_iret T dX6_spare_56 h
set_option maxRecDepth 20000 in
theorem sb_X6_spare_47 {J : Nat → q_K} {l : Launch} {Qp : Option q_V → q_M → Prop} (E : q_E J cX6_spare RX6 wsX6_spare 3 l rm_X6_spare) (T : q_T J cX6_spare (some .int) Qp) (h_X6_spans : q_Ct yX6_spans wsX6_spans rm_X6_spans S_X6_spans) (h_X6_works : q_Ct yX6_works wsX6_works rm_X6_works S_X6_works) : ∀ (σ : q_M) (lv : q_L) (st : q_S), k_X6_spare_47 Qp J σ lv st → J 47 σ lv st := fun σ lv st h =>
    so_ior E dX6_spare_47 h fun σ lv st h =>
    so_istore_n E (i := 1) rfl (by decide) dX6_spare_48 h fun σ lv st h =>
    so_iinc E (i := 2) (n := 1) (by decide) dX6_spare_49 h fun σ lv st h =>
    so_goto E 4 (by decide) dX6_spare_52 (fun _ _ _ h => h) h
set_option maxRecDepth 20000 in
theorem sb_X6_spare_46 {J : Nat → q_K} {l : Launch} {Qp : Option q_V → q_M → Prop} (E : q_E J cX6_spare RX6 wsX6_spare 3 l rm_X6_spare) (T : q_T J cX6_spare (some .int) Qp) (h_X6_spans : q_Ct yX6_spans wsX6_spans rm_X6_spans S_X6_spans) (h_X6_works : q_Ct yX6_works wsX6_works rm_X6_works S_X6_works) : ∀ (σ : q_M) (lv : q_L) (st : q_S), k_X6_spare_46 Qp J σ lv st → J 46 σ lv st := fun σ lv st h =>
    so_iconst E (x := 0) dX6_spare_46 h fun σ lv st h =>
    (sb_X6_spare_47 E T h_X6_spans h_X6_works) σ lv st h
set_option maxRecDepth 20000 in
theorem sb_X6_spare_4 {J : Nat → q_K} {l : Launch} {Qp : Option q_V → q_M → Prop} (E : q_E J cX6_spare RX6 wsX6_spare 3 l rm_X6_spare) (T : q_T J cX6_spare (some .int) Qp) (h_X6_spans : q_Ct yX6_spans wsX6_spans rm_X6_spans S_X6_spans) (h_X6_works : q_Ct yX6_works wsX6_works rm_X6_works S_X6_works) : ∀ (σ : q_M) (lv : q_L) (st : q_S), k_X6_spare_4 Qp J σ lv st → J 4 σ lv st := fun σ lv st h =>
    so_iload_n E (i := 2) rfl dX6_spare_4 h fun σ lv st h =>
    so_i2l E dX6_spare_5 h fun σ lv st h =>
    so_aload_n E (i := 0) rfl dX6_spare_6 h fun σ lv st h =>
    so_get E (pp := 24) (fi := 0) (C := RX6) (T := TX6) (N := 11) (ref := "WheelDeskModel") ⟨rfl, rfl, rfl⟩ rfl fi_X6_spare_X6 (by decide) rfl (List.mem_of_getElem? (i := 1) rfl) dX6_spare_7 h fun σ lv st h =>
    so_bipush E (x := 6) rfl dX6_spare_10 h fun σ lv st h =>
    so_lald E dX6_spare_12 h fun σ lv st h =>
    so_lcmp E dX6_spare_13 h fun σ lv st h =>
    so_ifge E 55 (by decide) dX6_spare_14 (sb_X6_spare_55 E T h_X6_spans h_X6_works) h fun σ lv st h =>
    so_aload_n E (i := 0) rfl dX6_spare_17 h fun σ lv st h =>
    so_iload_n E (i := 2) rfl dX6_spare_18 h fun σ lv st h =>
    so_callV E (n := 1) (pp := 24) (C := RX6) (T := TX6) (N := 11) (idx := 122) (maxL := 6) (ret := none) h_X6_spans ⟨rfl, rfl, rfl⟩ rfl gX6_spare_X6_spans rfl ⟨rfl, rfl⟩ (by decide +kernel) (by decide) dX6_spare_19 h fun σ lv st h =>
    so_iload_n E (i := 1) rfl dX6_spare_22 h fun σ lv st h =>
    so_aload_n E (i := 0) rfl dX6_spare_23 h fun σ lv st h =>
    so_iload_n E (i := 2) rfl dX6_spare_24 h fun σ lv st h =>
    so_callV E (n := 1) (pp := 24) (C := RX6) (T := TX6) (N := 11) (idx := 108) (maxL := 2) (ret := (some .boolean)) h_X6_works ⟨rfl, rfl, rfl⟩ rfl gX6_spare_X6_works rfl ⟨rfl, rfl⟩ (by decide +kernel) (by decide) dX6_spare_25 h fun σ lv st h =>
    so_ifeq E 46 (by decide) dX6_spare_28 (sb_X6_spare_46 E T h_X6_spans h_X6_works) h fun σ lv st h =>
    so_aload_n E (i := 0) rfl dX6_spare_31 h fun σ lv st h =>
    so_get E (pp := 24) (fi := 6) (C := RX6) (T := TX6) (N := 11) (ref := "WheelDeskModel") ⟨rfl, rfl, rfl⟩ rfl fi_X6_spare_X6 (by decide) rfl (List.mem_of_getElem? (i := 2) rfl) dX6_spare_32 h fun σ lv st h =>
    so_lconst E (x := 0) rfl dX6_spare_35 h fun σ lv st h =>
    so_lcmp E dX6_spare_36 h fun σ lv st h =>
    so_ifeq E 46 (by decide) dX6_spare_37 (sb_X6_spare_46 E T h_X6_spans h_X6_works) h fun σ lv st h =>
    so_iconst E (x := 1) dX6_spare_40 h fun σ lv st h =>
    so_iload_n E (i := 2) rfl dX6_spare_41 h fun σ lv st h =>
    so_ishl E dX6_spare_42 h fun σ lv st h =>
    so_goto E 47 (by decide) dX6_spare_43 (sb_X6_spare_47 E T h_X6_spans h_X6_works) h
theorem c_X6_spare (h_X6_spans : q_Ct yX6_spans wsX6_spans rm_X6_spans S_X6_spans) (h_X6_works : q_Ct yX6_works wsX6_works rm_X6_works S_X6_works) : q_Ct yX6_spare wsX6_spare rm_X6_spare S_X6_spare := by
  refine q_met (cc := cX6_spare) (maxL := 3) (ret := (some .int)) (own := RX6) (by decide +kernel) rfl rfl (fun σ vs Qp h => ?_) (fun l J σ vs Qp E T h => ?_)
  · unfold S_X6_spare at h
    split at h
    · exact Nat.le_of_ble_eq_true rfl
    · exact h.elim
  · unfold S_X6_spare at h
    split at h
    · next c0 p0 k0 =>
      obtain ⟨rfl, rfl, rfl, h⟩ := h
      exact v_X6_spare (so_C E) (sb_X6_spare_0 E T h_X6_spans h_X6_works) (sb_X6_spare_4 E T h_X6_spans h_X6_works) h
    · exact h.elim
theorem cc_X6_spare : q_Ct yX6_spare wsX6_spare rm_X6_spare S_X6_spare := c_X6_spare cc_X6_spans cc_X6_works

def rm_X6_gravest : Room := { frames := 5, cells := 0, slots := 0, locals := 128 }
theorem fi_X6_gravest_X6 : ∀ w ∈ u_ws RX6 TX6 11, w ∈ wsX6_gravest := fun w h => List.mem_cons_of_mem _ (List.mem_append_right _ h)
set_option maxRecDepth 20000 in
theorem sb_X6_gravest_13 {J : Nat → q_K} {l : Launch} {Qp : Option q_V → q_M → Prop} (E : q_E J cX6_gravest RX6 wsX6_gravest 9 l rm_X6_gravest) (T : q_T J cX6_gravest (some .int) Qp) (h_X6_in : q_Ct yX6_in wsX6_in rm_X6_in S_X6_in) (h_X6_copies : q_Ct yX6_copies wsX6_copies rm_X6_copies S_X6_copies) (h_X6_works : q_Ct yX6_works wsX6_works rm_X6_works S_X6_works) (h_X6_wheelAt : q_Ct yX6_wheelAt wsX6_wheelAt rm_X6_wheelAt S_X6_wheelAt) (h_X6_passes : q_Ct yX6_passes wsX6_passes rm_X6_passes S_X6_passes) (h_X6_axisAt : q_Ct yX6_axisAt wsX6_axisAt rm_X6_axisAt S_X6_axisAt) (h_X6_size : q_Ct yX6_size wsX6_size rm_X6_size S_X6_size) : ∀ (σ : q_M) (lv : q_L) (st : q_S), k_X6_gravest_13 Qp J σ lv st → J 13 σ lv st := fun σ lv st h =>
    so_aload_n E (i := 0) rfl dX6_gravest_13 h fun σ lv st h =>
    so_get E (pp := 24) (fi := 0) (C := RX6) (T := TX6) (N := 11) (ref := "WheelDeskModel") ⟨rfl, rfl, rfl⟩ rfl fi_X6_gravest_X6 (by decide) rfl (List.mem_of_getElem? (i := 2) rfl) dX6_gravest_14 h fun σ lv st h =>
    so_aload_n E (i := 0) rfl dX6_gravest_17 h fun σ lv st h =>
    so_get E (pp := 24) (fi := 1) (C := RX6) (T := TX6) (N := 11) (ref := "WheelDeskModel") ⟨rfl, rfl, rfl⟩ rfl fi_X6_gravest_X6 (by decide) rfl (List.mem_of_getElem? (i := 3) rfl) dX6_gravest_18 h fun σ lv st h =>
    so_callT E (n := 2) (idx := 179) (maxL := 3) (ret := none) h_X6_copies gX6_gravest_X6_copies rfl ⟨rfl, rfl⟩ (by decide +kernel) (by decide) dX6_gravest_21 h fun σ lv st h =>
    so_ldc E (x := -2000009) (idx := 121) (v := -2000009) (List.mem_of_getElem? (i := 4) rfl) rfl dX6_gravest_24 h fun σ lv st h =>
    so_istore_n E (i := 2) rfl (by decide) dX6_gravest_26 h fun σ lv st h =>
    so_ldc2 E (x := -1) (idx := 186) (v := -1) (List.mem_of_getElem? (i := 5) rfl) rfl dX6_gravest_27 h fun σ lv st h =>
    so_lstore_n E (i := 3) rfl (by decide) dX6_gravest_30 h fun σ lv st h =>
    so_iconst E (x := 0) dX6_gravest_31 h fun σ lv st h =>
    so_istore E (i := 5) (by decide) dX6_gravest_32 h fun σ lv st h =>
    h
set_option maxRecDepth 20000 in
theorem sb_X6_gravest_0 {J : Nat → q_K} {l : Launch} {Qp : Option q_V → q_M → Prop} (E : q_E J cX6_gravest RX6 wsX6_gravest 9 l rm_X6_gravest) (T : q_T J cX6_gravest (some .int) Qp) (h_X6_in : q_Ct yX6_in wsX6_in rm_X6_in S_X6_in) (h_X6_copies : q_Ct yX6_copies wsX6_copies rm_X6_copies S_X6_copies) (h_X6_works : q_Ct yX6_works wsX6_works rm_X6_works S_X6_works) (h_X6_wheelAt : q_Ct yX6_wheelAt wsX6_wheelAt rm_X6_wheelAt S_X6_wheelAt) (h_X6_passes : q_Ct yX6_passes wsX6_passes rm_X6_passes S_X6_passes) (h_X6_axisAt : q_Ct yX6_axisAt wsX6_axisAt rm_X6_axisAt S_X6_axisAt) (h_X6_size : q_Ct yX6_size wsX6_size rm_X6_size S_X6_size) : ∀ (σ : q_M) (lv : q_L) (st : q_S), k_X6_gravest_0 Qp J σ lv st → J 0 σ lv st := fun σ lv st h =>
    so_iload_n E (i := 1) rfl dX6_gravest_0 h fun σ lv st h =>
    so_iconst E (x := 1) dX6_gravest_1 h fun σ lv st h =>
    so_bipush E (x := 100) rfl dX6_gravest_2 h fun σ lv st h =>
    so_callT E (n := 3) (idx := 67) (maxL := 3) (ret := (some .boolean)) h_X6_in gX6_gravest_X6_in rfl ⟨rfl, rfl⟩ (by decide +kernel) (by decide) dX6_gravest_4 h fun σ lv st h =>
    so_ifne E 13 (by decide) dX6_gravest_7 (sb_X6_gravest_13 E T h_X6_in h_X6_copies h_X6_works h_X6_wheelAt h_X6_passes h_X6_axisAt h_X6_size) h fun σ lv st h =>
    so_ldc E (x := -2000001) (idx := 80) (v := -2000001) (List.mem_of_getElem? (i := 1) rfl) rfl dX6_gravest_10 h fun σ lv st h =>
    so_iret T dX6_gravest_12 h
set_option maxRecDepth 20000 in
theorem sb_X6_gravest_185 {J : Nat → q_K} {l : Launch} {Qp : Option q_V → q_M → Prop} (E : q_E J cX6_gravest RX6 wsX6_gravest 9 l rm_X6_gravest) (T : q_T J cX6_gravest (some .int) Qp) (h_X6_in : q_Ct yX6_in wsX6_in rm_X6_in S_X6_in) (h_X6_copies : q_Ct yX6_copies wsX6_copies rm_X6_copies S_X6_copies) (h_X6_works : q_Ct yX6_works wsX6_works rm_X6_works S_X6_works) (h_X6_wheelAt : q_Ct yX6_wheelAt wsX6_wheelAt rm_X6_wheelAt S_X6_wheelAt) (h_X6_passes : q_Ct yX6_passes wsX6_passes rm_X6_passes S_X6_passes) (h_X6_axisAt : q_Ct yX6_axisAt wsX6_axisAt rm_X6_axisAt S_X6_axisAt) (h_X6_size : q_Ct yX6_size wsX6_size rm_X6_size S_X6_size) : ∀ (σ : q_M) (lv : q_L) (st : q_S), k_X6_gravest_185 Qp J σ lv st → J 185 σ lv st := fun σ lv st h =>
    so_iload_n E (i := 2) rfl dX6_gravest_185 h fun σ lv st h =>
    so_iret T dX6_gravest_186 h
set_option maxRecDepth 20000 in
theorem sb_X6_gravest_179 {J : Nat → q_K} {l : Launch} {Qp : Option q_V → q_M → Prop} (E : q_E J cX6_gravest RX6 wsX6_gravest 9 l rm_X6_gravest) (T : q_T J cX6_gravest (some .int) Qp) (h_X6_in : q_Ct yX6_in wsX6_in rm_X6_in S_X6_in) (h_X6_copies : q_Ct yX6_copies wsX6_copies rm_X6_copies S_X6_copies) (h_X6_works : q_Ct yX6_works wsX6_works rm_X6_works S_X6_works) (h_X6_wheelAt : q_Ct yX6_wheelAt wsX6_wheelAt rm_X6_wheelAt S_X6_wheelAt) (h_X6_passes : q_Ct yX6_passes wsX6_passes rm_X6_passes S_X6_passes) (h_X6_axisAt : q_Ct yX6_axisAt wsX6_axisAt rm_X6_axisAt S_X6_axisAt) (h_X6_size : q_Ct yX6_size wsX6_size rm_X6_size S_X6_size) : ∀ (σ : q_M) (lv : q_L) (st : q_S), k_X6_gravest_179 Qp J σ lv st → J 179 σ lv st := fun σ lv st h =>
    so_iinc E (i := 5) (n := 1) (by decide) dX6_gravest_179 h fun σ lv st h =>
    so_goto E 34 (by decide) dX6_gravest_182 (fun _ _ _ h => h) h
set_option maxRecDepth 20000 in
theorem sb_X6_gravest_34 {J : Nat → q_K} {l : Launch} {Qp : Option q_V → q_M → Prop} (E : q_E J cX6_gravest RX6 wsX6_gravest 9 l rm_X6_gravest) (T : q_T J cX6_gravest (some .int) Qp) (h_X6_in : q_Ct yX6_in wsX6_in rm_X6_in S_X6_in) (h_X6_copies : q_Ct yX6_copies wsX6_copies rm_X6_copies S_X6_copies) (h_X6_works : q_Ct yX6_works wsX6_works rm_X6_works S_X6_works) (h_X6_wheelAt : q_Ct yX6_wheelAt wsX6_wheelAt rm_X6_wheelAt S_X6_wheelAt) (h_X6_passes : q_Ct yX6_passes wsX6_passes rm_X6_passes S_X6_passes) (h_X6_axisAt : q_Ct yX6_axisAt wsX6_axisAt rm_X6_axisAt S_X6_axisAt) (h_X6_size : q_Ct yX6_size wsX6_size rm_X6_size S_X6_size) : ∀ (σ : q_M) (lv : q_L) (st : q_S), k_X6_gravest_34 Qp J σ lv st → J 34 σ lv st := fun σ lv st h =>
    so_iload E (i := 5) dX6_gravest_34 h fun σ lv st h =>
    so_i2l E dX6_gravest_36 h fun σ lv st h =>
    so_aload_n E (i := 0) rfl dX6_gravest_37 h fun σ lv st h =>
    so_get E (pp := 24) (fi := 1) (C := RX6) (T := TX6) (N := 11) (ref := "WheelDeskModel") ⟨rfl, rfl, rfl⟩ rfl fi_X6_gravest_X6 (by decide) rfl (List.mem_of_getElem? (i := 3) rfl) dX6_gravest_38 h fun σ lv st h =>
    so_bipush E (x := 6) rfl dX6_gravest_41 h fun σ lv st h =>
    so_lald E dX6_gravest_43 h fun σ lv st h =>
    so_lcmp E dX6_gravest_44 h fun σ lv st h =>
    so_ifge E 185 (by decide) dX6_gravest_45 (sb_X6_gravest_185 E T h_X6_in h_X6_copies h_X6_works h_X6_wheelAt h_X6_passes h_X6_axisAt h_X6_size) h fun σ lv st h =>
    so_aload_n E (i := 0) rfl dX6_gravest_48 h fun σ lv st h =>
    so_iload E (i := 5) dX6_gravest_49 h fun σ lv st h =>
    so_callV E (n := 1) (pp := 24) (C := RX6) (T := TX6) (N := 11) (idx := 108) (maxL := 2) (ret := (some .boolean)) h_X6_works ⟨rfl, rfl, rfl⟩ rfl gX6_gravest_X6_works rfl ⟨rfl, rfl⟩ (by decide +kernel) (by decide) dX6_gravest_51 h fun σ lv st h =>
    so_ifeq E 179 (by decide) dX6_gravest_54 (sb_X6_gravest_179 E T h_X6_in h_X6_copies h_X6_works h_X6_wheelAt h_X6_passes h_X6_axisAt h_X6_size) h fun σ lv st h =>
    so_aload_n E (i := 0) rfl dX6_gravest_57 h fun σ lv st h =>
    so_get E (pp := 24) (fi := 0) (C := RX6) (T := TX6) (N := 11) (ref := "WheelDeskModel") ⟨rfl, rfl, rfl⟩ rfl fi_X6_gravest_X6 (by decide) rfl (List.mem_of_getElem? (i := 2) rfl) dX6_gravest_58 h fun σ lv st h =>
    so_iload E (i := 5) dX6_gravest_61 h fun σ lv st h =>
    so_bipush E (x := 6) rfl dX6_gravest_63 h fun σ lv st h =>
    so_callT E (n := 2) (idx := 71) (maxL := 2) (ret := (some .int)) h_X6_wheelAt gX6_gravest_X6_wheelAt rfl ⟨rfl, rfl⟩ (by decide +kernel) (by decide) dX6_gravest_65 h fun σ lv st h =>
    so_lconst E (x := 1) rfl dX6_gravest_68 h fun σ lv st h =>
    so_last E dX6_gravest_69 h fun σ lv st h =>
    so_iconst E (x := 0) dX6_gravest_70 h fun σ lv st h =>
    so_istore E (i := 6) (by decide) dX6_gravest_71 h fun σ lv st h =>
    h
set_option maxRecDepth 20000 in
theorem sb_X6_gravest_91 {J : Nat → q_K} {l : Launch} {Qp : Option q_V → q_M → Prop} (E : q_E J cX6_gravest RX6 wsX6_gravest 9 l rm_X6_gravest) (T : q_T J cX6_gravest (some .int) Qp) (h_X6_in : q_Ct yX6_in wsX6_in rm_X6_in S_X6_in) (h_X6_copies : q_Ct yX6_copies wsX6_copies rm_X6_copies S_X6_copies) (h_X6_works : q_Ct yX6_works wsX6_works rm_X6_works S_X6_works) (h_X6_wheelAt : q_Ct yX6_wheelAt wsX6_wheelAt rm_X6_wheelAt S_X6_wheelAt) (h_X6_passes : q_Ct yX6_passes wsX6_passes rm_X6_passes S_X6_passes) (h_X6_axisAt : q_Ct yX6_axisAt wsX6_axisAt rm_X6_axisAt S_X6_axisAt) (h_X6_size : q_Ct yX6_size wsX6_size rm_X6_size S_X6_size) : ∀ (σ : q_M) (lv : q_L) (st : q_S), k_X6_gravest_91 Qp J σ lv st → J 91 σ lv st := fun σ lv st h =>
    so_lconst E (x := 0) rfl dX6_gravest_91 h fun σ lv st h =>
    so_lstore E (i := 6) (by decide) dX6_gravest_92 h fun σ lv st h =>
    so_iconst E (x := 0) dX6_gravest_94 h fun σ lv st h =>
    so_istore E (i := 8) (by decide) dX6_gravest_95 h fun σ lv st h =>
    h
set_option maxRecDepth 20000 in
theorem sb_X6_gravest_73 {J : Nat → q_K} {l : Launch} {Qp : Option q_V → q_M → Prop} (E : q_E J cX6_gravest RX6 wsX6_gravest 9 l rm_X6_gravest) (T : q_T J cX6_gravest (some .int) Qp) (h_X6_in : q_Ct yX6_in wsX6_in rm_X6_in S_X6_in) (h_X6_copies : q_Ct yX6_copies wsX6_copies rm_X6_copies S_X6_copies) (h_X6_works : q_Ct yX6_works wsX6_works rm_X6_works S_X6_works) (h_X6_wheelAt : q_Ct yX6_wheelAt wsX6_wheelAt rm_X6_wheelAt S_X6_wheelAt) (h_X6_passes : q_Ct yX6_passes wsX6_passes rm_X6_passes S_X6_passes) (h_X6_axisAt : q_Ct yX6_axisAt wsX6_axisAt rm_X6_axisAt S_X6_axisAt) (h_X6_size : q_Ct yX6_size wsX6_size rm_X6_size S_X6_size) : ∀ (σ : q_M) (lv : q_L) (st : q_S), k_X6_gravest_73 Qp J σ lv st → J 73 σ lv st := fun σ lv st h =>
    so_iload E (i := 6) dX6_gravest_73 h fun σ lv st h =>
    so_iload_n E (i := 1) rfl dX6_gravest_75 h fun σ lv st h =>
    so_icmpge E 91 (by decide) dX6_gravest_76 (sb_X6_gravest_91 E T h_X6_in h_X6_copies h_X6_works h_X6_wheelAt h_X6_passes h_X6_axisAt h_X6_size) h fun σ lv st h =>
    so_aload_n E (i := 0) rfl dX6_gravest_79 h fun σ lv st h =>
    so_callV E (n := 0) (pp := 24) (C := RX6) (T := TX6) (N := 11) (idx := 162) (maxL := 4) (ret := (some .boolean)) h_X6_passes ⟨rfl, rfl, rfl⟩ rfl gX6_gravest_X6_passes rfl ⟨rfl, rfl⟩ (by decide +kernel) (by decide) dX6_gravest_80 h fun σ lv st h =>
    so_istore E (i := 7) (by decide) dX6_gravest_83 h fun σ lv st h =>
    so_iinc E (i := 6) (n := 1) (by decide) dX6_gravest_85 h fun σ lv st h =>
    so_goto E 73 (by decide) dX6_gravest_88 (fun _ _ _ h => h) h
set_option maxRecDepth 20000 in
theorem sb_X6_gravest_167 {J : Nat → q_K} {l : Launch} {Qp : Option q_V → q_M → Prop} (E : q_E J cX6_gravest RX6 wsX6_gravest 9 l rm_X6_gravest) (T : q_T J cX6_gravest (some .int) Qp) (h_X6_in : q_Ct yX6_in wsX6_in rm_X6_in S_X6_in) (h_X6_copies : q_Ct yX6_copies wsX6_copies rm_X6_copies S_X6_copies) (h_X6_works : q_Ct yX6_works wsX6_works rm_X6_works S_X6_works) (h_X6_wheelAt : q_Ct yX6_wheelAt wsX6_wheelAt rm_X6_wheelAt S_X6_wheelAt) (h_X6_passes : q_Ct yX6_passes wsX6_passes rm_X6_passes S_X6_passes) (h_X6_axisAt : q_Ct yX6_axisAt wsX6_axisAt rm_X6_axisAt S_X6_axisAt) (h_X6_size : q_Ct yX6_size wsX6_size rm_X6_size S_X6_size) : ∀ (σ : q_M) (lv : q_L) (st : q_S), k_X6_gravest_167 Qp J σ lv st → J 167 σ lv st := fun σ lv st h =>
    so_lstore_n E (i := 3) rfl (by decide) dX6_gravest_167 h fun σ lv st h =>
    so_aload_n E (i := 0) rfl dX6_gravest_168 h fun σ lv st h =>
    so_get E (pp := 24) (fi := 1) (C := RX6) (T := TX6) (N := 11) (ref := "WheelDeskModel") ⟨rfl, rfl, rfl⟩ rfl fi_X6_gravest_X6 (by decide) rfl (List.mem_of_getElem? (i := 3) rfl) dX6_gravest_169 h fun σ lv st h =>
    so_aload_n E (i := 0) rfl dX6_gravest_172 h fun σ lv st h =>
    so_get E (pp := 24) (fi := 0) (C := RX6) (T := TX6) (N := 11) (ref := "WheelDeskModel") ⟨rfl, rfl, rfl⟩ rfl fi_X6_gravest_X6 (by decide) rfl (List.mem_of_getElem? (i := 2) rfl) dX6_gravest_173 h fun σ lv st h =>
    so_callT E (n := 2) (idx := 179) (maxL := 3) (ret := none) h_X6_copies gX6_gravest_X6_copies rfl ⟨rfl, rfl⟩ (by decide +kernel) (by decide) dX6_gravest_176 h fun σ lv st h =>
    (sb_X6_gravest_179 E T h_X6_in h_X6_copies h_X6_works h_X6_wheelAt h_X6_passes h_X6_axisAt h_X6_size) σ lv st h
set_option maxRecDepth 20000 in
theorem sb_X6_gravest_166 {J : Nat → q_K} {l : Launch} {Qp : Option q_V → q_M → Prop} (E : q_E J cX6_gravest RX6 wsX6_gravest 9 l rm_X6_gravest) (T : q_T J cX6_gravest (some .int) Qp) (h_X6_in : q_Ct yX6_in wsX6_in rm_X6_in S_X6_in) (h_X6_copies : q_Ct yX6_copies wsX6_copies rm_X6_copies S_X6_copies) (h_X6_works : q_Ct yX6_works wsX6_works rm_X6_works S_X6_works) (h_X6_wheelAt : q_Ct yX6_wheelAt wsX6_wheelAt rm_X6_wheelAt S_X6_wheelAt) (h_X6_passes : q_Ct yX6_passes wsX6_passes rm_X6_passes S_X6_passes) (h_X6_axisAt : q_Ct yX6_axisAt wsX6_axisAt rm_X6_axisAt S_X6_axisAt) (h_X6_size : q_Ct yX6_size wsX6_size rm_X6_size S_X6_size) : ∀ (σ : q_M) (lv : q_L) (st : q_S), k_X6_gravest_166 Qp J σ lv st → J 166 σ lv st := fun σ lv st h =>
    so_lload_n E (i := 3) rfl dX6_gravest_166 h fun σ lv st h =>
    (sb_X6_gravest_167 E T h_X6_in h_X6_copies h_X6_works h_X6_wheelAt h_X6_passes h_X6_axisAt h_X6_size) σ lv st h
set_option maxRecDepth 20000 in
theorem sb_X6_gravest_153 {J : Nat → q_K} {l : Launch} {Qp : Option q_V → q_M → Prop} (E : q_E J cX6_gravest RX6 wsX6_gravest 9 l rm_X6_gravest) (T : q_T J cX6_gravest (some .int) Qp) (h_X6_in : q_Ct yX6_in wsX6_in rm_X6_in S_X6_in) (h_X6_copies : q_Ct yX6_copies wsX6_copies rm_X6_copies S_X6_copies) (h_X6_works : q_Ct yX6_works wsX6_works rm_X6_works S_X6_works) (h_X6_wheelAt : q_Ct yX6_wheelAt wsX6_wheelAt rm_X6_wheelAt S_X6_wheelAt) (h_X6_passes : q_Ct yX6_passes wsX6_passes rm_X6_passes S_X6_passes) (h_X6_axisAt : q_Ct yX6_axisAt wsX6_axisAt rm_X6_axisAt S_X6_axisAt) (h_X6_size : q_Ct yX6_size wsX6_size rm_X6_size S_X6_size) : ∀ (σ : q_M) (lv : q_L) (st : q_S), k_X6_gravest_153 Qp J σ lv st → J 153 σ lv st := fun σ lv st h =>
    so_istore_n E (i := 2) rfl (by decide) dX6_gravest_153 h fun σ lv st h =>
    so_lload E (i := 6) dX6_gravest_154 h fun σ lv st h =>
    so_lload_n E (i := 3) rfl dX6_gravest_156 h fun σ lv st h =>
    so_lcmp E dX6_gravest_157 h fun σ lv st h =>
    so_ifle E 166 (by decide) dX6_gravest_158 (sb_X6_gravest_166 E T h_X6_in h_X6_copies h_X6_works h_X6_wheelAt h_X6_passes h_X6_axisAt h_X6_size) h fun σ lv st h =>
    so_lload E (i := 6) dX6_gravest_161 h fun σ lv st h =>
    so_goto E 167 (by decide) dX6_gravest_163 (sb_X6_gravest_167 E T h_X6_in h_X6_copies h_X6_works h_X6_wheelAt h_X6_passes h_X6_axisAt h_X6_size) h
set_option maxRecDepth 20000 in
theorem sb_X6_gravest_152 {J : Nat → q_K} {l : Launch} {Qp : Option q_V → q_M → Prop} (E : q_E J cX6_gravest RX6 wsX6_gravest 9 l rm_X6_gravest) (T : q_T J cX6_gravest (some .int) Qp) (h_X6_in : q_Ct yX6_in wsX6_in rm_X6_in S_X6_in) (h_X6_copies : q_Ct yX6_copies wsX6_copies rm_X6_copies S_X6_copies) (h_X6_works : q_Ct yX6_works wsX6_works rm_X6_works S_X6_works) (h_X6_wheelAt : q_Ct yX6_wheelAt wsX6_wheelAt rm_X6_wheelAt S_X6_wheelAt) (h_X6_passes : q_Ct yX6_passes wsX6_passes rm_X6_passes S_X6_passes) (h_X6_axisAt : q_Ct yX6_axisAt wsX6_axisAt rm_X6_axisAt S_X6_axisAt) (h_X6_size : q_Ct yX6_size wsX6_size rm_X6_size S_X6_size) : ∀ (σ : q_M) (lv : q_L) (st : q_S), k_X6_gravest_152 Qp J σ lv st → J 152 σ lv st := fun σ lv st h =>
    so_iload_n E (i := 2) rfl dX6_gravest_152 h fun σ lv st h =>
    (sb_X6_gravest_153 E T h_X6_in h_X6_copies h_X6_works h_X6_wheelAt h_X6_passes h_X6_axisAt h_X6_size) σ lv st h
set_option maxRecDepth 20000 in
theorem sb_X6_gravest_140 {J : Nat → q_K} {l : Launch} {Qp : Option q_V → q_M → Prop} (E : q_E J cX6_gravest RX6 wsX6_gravest 9 l rm_X6_gravest) (T : q_T J cX6_gravest (some .int) Qp) (h_X6_in : q_Ct yX6_in wsX6_in rm_X6_in S_X6_in) (h_X6_copies : q_Ct yX6_copies wsX6_copies rm_X6_copies S_X6_copies) (h_X6_works : q_Ct yX6_works wsX6_works rm_X6_works S_X6_works) (h_X6_wheelAt : q_Ct yX6_wheelAt wsX6_wheelAt rm_X6_wheelAt S_X6_wheelAt) (h_X6_passes : q_Ct yX6_passes wsX6_passes rm_X6_passes S_X6_passes) (h_X6_axisAt : q_Ct yX6_axisAt wsX6_axisAt rm_X6_axisAt S_X6_axisAt) (h_X6_size : q_Ct yX6_size wsX6_size rm_X6_size S_X6_size) : ∀ (σ : q_M) (lv : q_L) (st : q_S), k_X6_gravest_140 Qp J σ lv st → J 140 σ lv st := fun σ lv st h =>
    so_lload E (i := 6) dX6_gravest_140 h fun σ lv st h =>
    so_lload_n E (i := 3) rfl dX6_gravest_142 h fun σ lv st h =>
    so_lcmp E dX6_gravest_143 h fun σ lv st h =>
    so_ifle E 152 (by decide) dX6_gravest_144 (sb_X6_gravest_152 E T h_X6_in h_X6_copies h_X6_works h_X6_wheelAt h_X6_passes h_X6_axisAt h_X6_size) h fun σ lv st h =>
    so_iload E (i := 5) dX6_gravest_147 h fun σ lv st h =>
    so_goto E 153 (by decide) dX6_gravest_149 (sb_X6_gravest_153 E T h_X6_in h_X6_copies h_X6_works h_X6_wheelAt h_X6_passes h_X6_axisAt h_X6_size) h
set_option maxRecDepth 20000 in
theorem sb_X6_gravest_97 {J : Nat → q_K} {l : Launch} {Qp : Option q_V → q_M → Prop} (E : q_E J cX6_gravest RX6 wsX6_gravest 9 l rm_X6_gravest) (T : q_T J cX6_gravest (some .int) Qp) (h_X6_in : q_Ct yX6_in wsX6_in rm_X6_in S_X6_in) (h_X6_copies : q_Ct yX6_copies wsX6_copies rm_X6_copies S_X6_copies) (h_X6_works : q_Ct yX6_works wsX6_works rm_X6_works S_X6_works) (h_X6_wheelAt : q_Ct yX6_wheelAt wsX6_wheelAt rm_X6_wheelAt S_X6_wheelAt) (h_X6_passes : q_Ct yX6_passes wsX6_passes rm_X6_passes S_X6_passes) (h_X6_axisAt : q_Ct yX6_axisAt wsX6_axisAt rm_X6_axisAt S_X6_axisAt) (h_X6_size : q_Ct yX6_size wsX6_size rm_X6_size S_X6_size) : ∀ (σ : q_M) (lv : q_L) (st : q_S), k_X6_gravest_97 Qp J σ lv st → J 97 σ lv st := fun σ lv st h =>
    so_iload E (i := 8) dX6_gravest_97 h fun σ lv st h =>
    so_iconst E (x := 3) dX6_gravest_99 h fun σ lv st h =>
    so_icmpge E 140 (by decide) dX6_gravest_100 (sb_X6_gravest_140 E T h_X6_in h_X6_copies h_X6_works h_X6_wheelAt h_X6_passes h_X6_axisAt h_X6_size) h fun σ lv st h =>
    so_lload E (i := 6) dX6_gravest_103 h fun σ lv st h =>
    so_aload_n E (i := 0) rfl dX6_gravest_105 h fun σ lv st h =>
    so_get E (pp := 24) (fi := 0) (C := RX6) (T := TX6) (N := 11) (ref := "WheelDeskModel") ⟨rfl, rfl, rfl⟩ rfl fi_X6_gravest_X6 (by decide) rfl (List.mem_of_getElem? (i := 2) rfl) dX6_gravest_106 h fun σ lv st h =>
    so_iload E (i := 8) dX6_gravest_109 h fun σ lv st h =>
    so_iconst E (x := 3) dX6_gravest_111 h fun σ lv st h =>
    so_callT E (n := 2) (idx := 45) (maxL := 2) (ret := (some .int)) h_X6_axisAt gX6_gravest_X6_axisAt rfl ⟨rfl, rfl⟩ (by decide +kernel) (by decide) dX6_gravest_112 h fun σ lv st h =>
    so_lald E dX6_gravest_115 h fun σ lv st h =>
    so_aload_n E (i := 0) rfl dX6_gravest_116 h fun σ lv st h =>
    so_get E (pp := 24) (fi := 0) (C := RX6) (T := TX6) (N := 11) (ref := "WheelDeskModel") ⟨rfl, rfl, rfl⟩ rfl fi_X6_gravest_X6 (by decide) rfl (List.mem_of_getElem? (i := 2) rfl) dX6_gravest_117 h fun σ lv st h =>
    so_iload E (i := 8) dX6_gravest_120 h fun σ lv st h =>
    so_iconst E (x := 0) dX6_gravest_122 h fun σ lv st h =>
    so_callT E (n := 2) (idx := 45) (maxL := 2) (ret := (some .int)) h_X6_axisAt gX6_gravest_X6_axisAt rfl ⟨rfl, rfl⟩ (by decide +kernel) (by decide) dX6_gravest_123 h fun σ lv st h =>
    so_lald E dX6_gravest_126 h fun σ lv st h =>
    so_lsub E dX6_gravest_127 h fun σ lv st h =>
    so_callT E (n := 1) (idx := 175) (maxL := 2) (ret := (some .long)) h_X6_size gX6_gravest_X6_size rfl ⟨rfl, rfl⟩ (by decide +kernel) (by decide) dX6_gravest_128 h fun σ lv st h =>
    so_ladd E dX6_gravest_131 h fun σ lv st h =>
    so_lstore E (i := 6) (by decide) dX6_gravest_132 h fun σ lv st h =>
    so_iinc E (i := 8) (n := 1) (by decide) dX6_gravest_134 h fun σ lv st h =>
    so_goto E 97 (by decide) dX6_gravest_137 (fun _ _ _ h => h) h
theorem c_X6_gravest (h_X6_in : q_Ct yX6_in wsX6_in rm_X6_in S_X6_in) (h_X6_copies : q_Ct yX6_copies wsX6_copies rm_X6_copies S_X6_copies) (h_X6_works : q_Ct yX6_works wsX6_works rm_X6_works S_X6_works) (h_X6_wheelAt : q_Ct yX6_wheelAt wsX6_wheelAt rm_X6_wheelAt S_X6_wheelAt) (h_X6_passes : q_Ct yX6_passes wsX6_passes rm_X6_passes S_X6_passes) (h_X6_axisAt : q_Ct yX6_axisAt wsX6_axisAt rm_X6_axisAt S_X6_axisAt) (h_X6_size : q_Ct yX6_size wsX6_size rm_X6_size S_X6_size) : q_Ct yX6_gravest wsX6_gravest rm_X6_gravest S_X6_gravest := by
  refine q_met (cc := cX6_gravest) (maxL := 9) (ret := (some .int)) (own := RX6) (by decide +kernel) rfl rfl (fun σ vs Qp h => ?_) (fun l J σ vs Qp E T h => ?_)
  · unfold S_X6_gravest at h
    split at h
    · exact Nat.le_of_ble_eq_true rfl
    · exact h.elim
  · unfold S_X6_gravest at h
    split at h
    · next c0 p0 k0 t =>
      obtain ⟨rfl, rfl, rfl, h⟩ := h
      exact v_X6_gravest (so_C E) (sb_X6_gravest_0 E T h_X6_in h_X6_copies h_X6_works h_X6_wheelAt h_X6_passes h_X6_axisAt h_X6_size) (sb_X6_gravest_34 E T h_X6_in h_X6_copies h_X6_works h_X6_wheelAt h_X6_passes h_X6_axisAt h_X6_size) (sb_X6_gravest_73 E T h_X6_in h_X6_copies h_X6_works h_X6_wheelAt h_X6_passes h_X6_axisAt h_X6_size) (sb_X6_gravest_97 E T h_X6_in h_X6_copies h_X6_works h_X6_wheelAt h_X6_passes h_X6_axisAt h_X6_size) h
    · exact h.elim
theorem cc_X6_gravest : q_Ct yX6_gravest wsX6_gravest rm_X6_gravest S_X6_gravest := c_X6_gravest cc_X6_in cc_X6_copies cc_X6_works cc_X6_wheelAt cc_X6_passes cc_X6_axisAt cc_X6_size

def rm_X6_undo : Room := { frames := 0, cells := 0, slots := 0, locals := 0 }
theorem fi_X6_undo_X6 : ∀ w ∈ u_ws RX6 TX6 11, w ∈ wsX6_undo := fun w h => List.mem_cons_of_mem _ (List.mem_append_right _ h)
set_option maxRecDepth 20000 in
theorem sb_X6_undo_10 {J : Nat → q_K} {l : Launch} {Qp : Option q_V → q_M → Prop} (E : q_E J cX6_undo RX6 wsX6_undo 2 l rm_X6_undo) (T : q_T J cX6_undo (some .int) Qp) : ∀ (σ : q_M) (lv : q_L) (st : q_S), k_X6_undo_10 Qp J σ lv st → J 10 σ lv st := fun σ lv st h =>
    so_aload_n E (i := 0) rfl dX6_undo_10 h fun σ lv st h =>
    so_dup E dX6_undo_11 h fun σ lv st h =>
    so_get E (pp := 24) (fi := 3) (C := RX6) (T := TX6) (N := 11) (ref := "WheelDeskModel") ⟨rfl, rfl, rfl⟩ rfl fi_X6_undo_X6 (by decide) rfl (List.mem_of_getElem? (i := 1) rfl) dX6_undo_12 h fun σ lv st h =>
    so_iconst E (x := 1) dX6_undo_15 h fun σ lv st h =>
    so_isub E dX6_undo_16 h fun σ lv st h =>
    so_puti E (pp := 24) (fi := 3) (sl := 0) (C := RX6) (T := TX6) (N := 11) (ref := "WheelDeskModel") ⟨rfl, rfl, rfl⟩ rfl fi_X6_undo_X6 tyX6 tyX6_ok nmX6 (by decide) rfl rfl rfl q_fs_24_3 (List.mem_of_getElem? (i := 1) rfl) dX6_undo_17 h fun σ lv st h =>
    so_iconst E (x := 0) dX6_undo_20 h fun σ lv st h =>
    so_istore_n E (i := 1) rfl (by decide) dX6_undo_21 h fun σ lv st h =>
    h
set_option maxRecDepth 20000 in
theorem sb_X6_undo_0 {J : Nat → q_K} {l : Launch} {Qp : Option q_V → q_M → Prop} (E : q_E J cX6_undo RX6 wsX6_undo 2 l rm_X6_undo) (T : q_T J cX6_undo (some .int) Qp) : ∀ (σ : q_M) (lv : q_L) (st : q_S), k_X6_undo_0 Qp J σ lv st → J 0 σ lv st := fun σ lv st h =>
    so_aload_n E (i := 0) rfl dX6_undo_0 h fun σ lv st h =>
    so_get E (pp := 24) (fi := 3) (C := RX6) (T := TX6) (N := 11) (ref := "WheelDeskModel") ⟨rfl, rfl, rfl⟩ rfl fi_X6_undo_X6 (by decide) rfl (List.mem_of_getElem? (i := 1) rfl) dX6_undo_1 h fun σ lv st h =>
    so_ifne E 10 (by decide) dX6_undo_4 (sb_X6_undo_10 E T) h fun σ lv st h =>
    so_ldc E (x := -2000009) (idx := 121) (v := -2000009) (List.mem_of_getElem? (i := 2) rfl) rfl dX6_undo_7 h fun σ lv st h =>
    so_iret T dX6_undo_9 h
set_option maxRecDepth 20000 in
theorem sb_X6_undo_54 {J : Nat → q_K} {l : Launch} {Qp : Option q_V → q_M → Prop} (E : q_E J cX6_undo RX6 wsX6_undo 2 l rm_X6_undo) (T : q_T J cX6_undo (some .int) Qp) : ∀ (σ : q_M) (lv : q_L) (st : q_S), k_X6_undo_54 Qp J σ lv st → J 54 σ lv st := fun σ lv st h =>
    so_aload_n E (i := 0) rfl dX6_undo_54 h fun σ lv st h =>
    so_get E (pp := 24) (fi := 3) (C := RX6) (T := TX6) (N := 11) (ref := "WheelDeskModel") ⟨rfl, rfl, rfl⟩ rfl fi_X6_undo_X6 (by decide) rfl (List.mem_of_getElem? (i := 1) rfl) dX6_undo_55 h fun σ lv st h =>
    so_iret T dX6_undo_58 h
set_option maxRecDepth 20000 in
theorem sb_X6_undo_22 {J : Nat → q_K} {l : Launch} {Qp : Option q_V → q_M → Prop} (E : q_E J cX6_undo RX6 wsX6_undo 2 l rm_X6_undo) (T : q_T J cX6_undo (some .int) Qp) : ∀ (σ : q_M) (lv : q_L) (st : q_S), k_X6_undo_22 Qp J σ lv st → J 22 σ lv st := fun σ lv st h =>
    so_iload_n E (i := 1) rfl dX6_undo_22 h fun σ lv st h =>
    so_bipush E (x := 100) rfl dX6_undo_23 h fun σ lv st h =>
    so_icmpge E 54 (by decide) dX6_undo_25 (sb_X6_undo_54 E T) h fun σ lv st h =>
    so_aload_n E (i := 0) rfl dX6_undo_28 h fun σ lv st h =>
    so_get E (pp := 24) (fi := 0) (C := RX6) (T := TX6) (N := 11) (ref := "WheelDeskModel") ⟨rfl, rfl, rfl⟩ rfl fi_X6_undo_X6 (by decide) rfl (List.mem_of_getElem? (i := 3) rfl) dX6_undo_29 h fun σ lv st h =>
    so_iload_n E (i := 1) rfl dX6_undo_32 h fun σ lv st h =>
    so_aload_n E (i := 0) rfl dX6_undo_33 h fun σ lv st h =>
    so_get E (pp := 24) (fi := 2) (C := RX6) (T := TX6) (N := 11) (ref := "WheelDeskModel") ⟨rfl, rfl, rfl⟩ rfl fi_X6_undo_X6 (by decide) rfl (List.mem_of_getElem? (i := 4) rfl) dX6_undo_34 h fun σ lv st h =>
    so_bipush E (x := 100) rfl dX6_undo_37 h fun σ lv st h =>
    so_aload_n E (i := 0) rfl dX6_undo_39 h fun σ lv st h =>
    so_get E (pp := 24) (fi := 3) (C := RX6) (T := TX6) (N := 11) (ref := "WheelDeskModel") ⟨rfl, rfl, rfl⟩ rfl fi_X6_undo_X6 (by decide) rfl (List.mem_of_getElem? (i := 1) rfl) dX6_undo_40 h fun σ lv st h =>
    so_imul E dX6_undo_43 h fun σ lv st h =>
    so_iload_n E (i := 1) rfl dX6_undo_44 h fun σ lv st h =>
    so_iadd E dX6_undo_45 h fun σ lv st h =>
    so_lald E dX6_undo_46 h fun σ lv st h =>
    so_last E dX6_undo_47 h fun σ lv st h =>
    so_iinc E (i := 1) (n := 1) (by decide) dX6_undo_48 h fun σ lv st h =>
    so_goto E 22 (by decide) dX6_undo_51 (fun _ _ _ h => h) h
theorem c_X6_undo : q_Ct yX6_undo wsX6_undo rm_X6_undo S_X6_undo := by
  refine q_met (cc := cX6_undo) (maxL := 2) (ret := (some .int)) (own := RX6) (by decide +kernel) rfl rfl (fun σ vs Qp h => ?_) (fun l J σ vs Qp E T h => ?_)
  · unfold S_X6_undo at h
    split at h
    · exact Nat.le_of_ble_eq_true rfl
    · exact h.elim
  · unfold S_X6_undo at h
    split at h
    · next c0 p0 k0 =>
      obtain ⟨rfl, rfl, rfl, h⟩ := h
      exact v_X6_undo (so_C E) (sb_X6_undo_0 E T) (sb_X6_undo_22 E T) h
    · exact h.elim
theorem cc_X6_undo : q_Ct yX6_undo wsX6_undo rm_X6_undo S_X6_undo := c_X6_undo

