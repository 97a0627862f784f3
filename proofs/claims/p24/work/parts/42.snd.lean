def rm_X2_crossed : Room := { frames := 1, cells := 0, slots := 0, locals := 21 }
set_option maxRecDepth 20000 in
theorem sb_X2_crossed_0 {J : Nat → q_K} {l : Launch} {Qp : Option q_V → q_M → Prop} (E : q_E J cX2_crossed RX2 wsX2_crossed 5 l rm_X2_crossed) (T : q_T J cX2_crossed (some .long) Qp) (h_X5_axisAfter : q_Ct yX5_axisAfter wsX5_axisAfter rm_X5_axisAfter S_X5_axisAfter) : ∀ (σ : q_M) (lv : q_L) (st : q_S), k_X2_crossed_0 Qp J σ lv st → J 0 σ lv st := fun σ lv st h =>
    so_iload_n E (i := 2) rfl dX2_crossed_0 h fun σ lv st h =>
    so_iconst E (x := 1) dX2_crossed_1 h fun σ lv st h =>
    so_callN E (n := 2) (idx := 52) (maxL := 2) (ret := (some .int)) h_X5_axisAfter gX2_crossed_X5_axisAfter_n52 rfl ⟨rfl, rfl⟩ (by decide +kernel) (List.mem_of_getElem? (i := 1) rfl) (List.mem_of_getElem? (i := 2) rfl) (by decide +kernel) (by decide) dX2_crossed_2 h fun σ lv st h =>
    so_istore_n E (i := 3) rfl (by decide) dX2_crossed_5 h fun σ lv st h =>
    so_iload_n E (i := 2) rfl dX2_crossed_6 h fun σ lv st h =>
    so_iconst E (x := 2) dX2_crossed_7 h fun σ lv st h =>
    so_callN E (n := 2) (idx := 52) (maxL := 2) (ret := (some .int)) h_X5_axisAfter gX2_crossed_X5_axisAfter_n52 rfl ⟨rfl, rfl⟩ (by decide +kernel) (List.mem_of_getElem? (i := 1) rfl) (List.mem_of_getElem? (i := 2) rfl) (by decide +kernel) (by decide) dX2_crossed_8 h fun σ lv st h =>
    so_istore E (i := 4) (by decide) dX2_crossed_11 h fun σ lv st h =>
    so_aload_n E (i := 0) rfl dX2_crossed_13 h fun σ lv st h =>
    so_iload_n E (i := 3) rfl dX2_crossed_14 h fun σ lv st h =>
    so_lald E dX2_crossed_15 h fun σ lv st h =>
    so_aload_n E (i := 1) rfl dX2_crossed_16 h fun σ lv st h =>
    so_iload E (i := 4) dX2_crossed_17 h fun σ lv st h =>
    so_iald E dX2_crossed_19 h fun σ lv st h =>
    so_i2l E dX2_crossed_20 h fun σ lv st h =>
    so_lmul E dX2_crossed_21 h fun σ lv st h =>
    so_aload_n E (i := 0) rfl dX2_crossed_22 h fun σ lv st h =>
    so_iload E (i := 4) dX2_crossed_23 h fun σ lv st h =>
    so_lald E dX2_crossed_25 h fun σ lv st h =>
    so_aload_n E (i := 1) rfl dX2_crossed_26 h fun σ lv st h =>
    so_iload_n E (i := 3) rfl dX2_crossed_27 h fun σ lv st h =>
    so_iald E dX2_crossed_28 h fun σ lv st h =>
    so_i2l E dX2_crossed_29 h fun σ lv st h =>
    so_lmul E dX2_crossed_30 h fun σ lv st h =>
    so_lsub E dX2_crossed_31 h fun σ lv st h =>
    so_lret T dX2_crossed_32 h
theorem c_X2_crossed (h_X5_axisAfter : q_Ct yX5_axisAfter wsX5_axisAfter rm_X5_axisAfter S_X5_axisAfter) : q_Ct yX2_crossed wsX2_crossed rm_X2_crossed S_X2_crossed := by
  refine q_met (cc := cX2_crossed) (maxL := 5) (ret := (some .long)) (own := RX2) (by decide +kernel) rfl rfl (fun σ vs Qp h => ?_) (fun l J σ vs Qp E T h => ?_)
  · unfold S_X2_crossed at h
    split at h
    · exact Nat.le_of_ble_eq_true rfl
    · exact h.elim
  · unfold S_X2_crossed at h
    split at h
    · next c0 pl k0 c p1 w i =>
      obtain ⟨rfl, rfl, rfl, h⟩ := h
      exact v_X2_crossed (so_C E) (sb_X2_crossed_0 E T h_X5_axisAfter) h
    · exact h.elim
theorem cc_X2_crossed : q_Ct yX2_crossed wsX2_crossed rm_X2_crossed S_X2_crossed := c_X2_crossed cc_X5_axisAfter

def rm_X2_letGo : Room := { frames := 2, cells := 0, slots := 0, locals := 48 }
theorem fi_X2_letGo_X0 : ∀ w ∈ u_ws RX0 TX0 11, w ∈ wsX2_letGo := fun w h => List.mem_cons_of_mem _ (List.mem_append_left _ (List.mem_append_left _ (List.mem_append_right _ h)))
theorem fi_X2_letGo_X2 : ∀ w ∈ u_ws RX2 TX2 2, w ∈ wsX2_letGo := fun w h => List.mem_cons_of_mem _ (List.mem_append_left _ (List.mem_append_right _ h))
theorem fi_X2_letGo_X4 : ∀ w ∈ u_ws RX4 TX4 6, w ∈ wsX2_letGo := fun w h => List.mem_cons_of_mem _ (List.mem_append_right _ h)
set_option maxRecDepth 20000 in
theorem sb_X2_letGo_0 {J : Nat → q_K} {l : Launch} {Qp : Option q_V → q_M → Prop} (E : q_E J cX2_letGo RX2 wsX2_letGo 6 l rm_X2_letGo) (T : q_T J cX2_letGo none Qp) (h_X0_wheelMomentum : q_Ct yX0_wheelMomentum wsX0_wheelMomentum rm_X0_wheelMomentum S_X0_wheelMomentum) (h_X2_crossed : q_Ct yX2_crossed wsX2_crossed rm_X2_crossed S_X2_crossed) (h_X5_quotient : q_Ct yX5_quotient wsX5_quotient rm_X5_quotient S_X5_quotient) (h_X5_limited : q_Ct yX5_limited wsX5_limited rm_X5_limited S_X5_limited) (h_X0_pushFromOutside : q_Ct yX0_pushFromOutside wsX0_pushFromOutside rm_X0_pushFromOutside S_X0_pushFromOutside) : ∀ (σ : q_M) (lv : q_L) (st : q_S), k_X2_letGo_0 Qp J σ lv st → J 0 σ lv st := fun σ lv st h =>
    so_aload_n E (i := 1) rfl dX2_letGo_0 h fun σ lv st h =>
    so_get E (pp := 0) (fi := 2) (C := RX0) (T := TX0) (N := 11) (ref := "WheelDesk$Craft") ⟨rfl, rfl, rfl⟩ rfl fi_X2_letGo_X0 (by decide) rfl (List.mem_of_getElem? (i := 1) rfl) dX2_letGo_1 h fun σ lv st h =>
    so_iconst E (x := 2) dX2_letGo_4 h fun σ lv st h =>
    so_aald E dX2_letGo_5 h fun σ lv st h =>
    so_astore_n E (i := 2) rfl (by decide) dX2_letGo_6 h fun σ lv st h =>
    so_aload_n E (i := 1) rfl dX2_letGo_7 h fun σ lv st h =>
    so_get E (pp := 0) (fi := 1) (C := RX0) (T := TX0) (N := 11) (ref := "WheelDesk$Craft") ⟨rfl, rfl, rfl⟩ rfl fi_X2_letGo_X0 (by decide) rfl (List.mem_of_getElem? (i := 2) rfl) dX2_letGo_8 h fun σ lv st h =>
    so_iconst E (x := 4) dX2_letGo_11 h fun σ lv st h =>
    so_iald E dX2_letGo_12 h fun σ lv st h =>
    so_i2l E dX2_letGo_13 h fun σ lv st h =>
    so_lstore_n E (i := 3) rfl (by decide) dX2_letGo_14 h fun σ lv st h =>
    so_iconst E (x := 0) dX2_letGo_15 h fun σ lv st h =>
    so_istore E (i := 5) (by decide) dX2_letGo_16 h fun σ lv st h =>
    h
set_option maxRecDepth 20000 in
theorem sb_X2_letGo_43 {J : Nat → q_K} {l : Launch} {Qp : Option q_V → q_M → Prop} (E : q_E J cX2_letGo RX2 wsX2_letGo 6 l rm_X2_letGo) (T : q_T J cX2_letGo none Qp) (h_X0_wheelMomentum : q_Ct yX0_wheelMomentum wsX0_wheelMomentum rm_X0_wheelMomentum S_X0_wheelMomentum) (h_X2_crossed : q_Ct yX2_crossed wsX2_crossed rm_X2_crossed S_X2_crossed) (h_X5_quotient : q_Ct yX5_quotient wsX5_quotient rm_X5_quotient S_X5_quotient) (h_X5_limited : q_Ct yX5_limited wsX5_limited rm_X5_limited S_X5_limited) (h_X0_pushFromOutside : q_Ct yX0_pushFromOutside wsX0_pushFromOutside rm_X0_pushFromOutside S_X0_pushFromOutside) : ∀ (σ : q_M) (lv : q_L) (st : q_S), k_X2_letGo_43 Qp J σ lv st → J 43 σ lv st := fun σ lv st h =>
    so_iconst E (x := 0) dX2_letGo_43 h fun σ lv st h =>
    so_istore E (i := 5) (by decide) dX2_letGo_44 h fun σ lv st h =>
    h
set_option maxRecDepth 20000 in
theorem sb_X2_letGo_18 {J : Nat → q_K} {l : Launch} {Qp : Option q_V → q_M → Prop} (E : q_E J cX2_letGo RX2 wsX2_letGo 6 l rm_X2_letGo) (T : q_T J cX2_letGo none Qp) (h_X0_wheelMomentum : q_Ct yX0_wheelMomentum wsX0_wheelMomentum rm_X0_wheelMomentum S_X0_wheelMomentum) (h_X2_crossed : q_Ct yX2_crossed wsX2_crossed rm_X2_crossed S_X2_crossed) (h_X5_quotient : q_Ct yX5_quotient wsX5_quotient rm_X5_quotient S_X5_quotient) (h_X5_limited : q_Ct yX5_limited wsX5_limited rm_X5_limited S_X5_limited) (h_X0_pushFromOutside : q_Ct yX0_pushFromOutside wsX0_pushFromOutside rm_X0_pushFromOutside S_X0_pushFromOutside) : ∀ (σ : q_M) (lv : q_L) (st : q_S), k_X2_letGo_18 Qp J σ lv st → J 18 σ lv st := fun σ lv st h =>
    so_iload E (i := 5) dX2_letGo_18 h fun σ lv st h =>
    so_iconst E (x := 3) dX2_letGo_20 h fun σ lv st h =>
    so_icmpge E 43 (by decide) dX2_letGo_21 (sb_X2_letGo_43 E T h_X0_wheelMomentum h_X2_crossed h_X5_quotient h_X5_limited h_X0_pushFromOutside) h fun σ lv st h =>
    so_aload_n E (i := 0) rfl dX2_letGo_24 h fun σ lv st h =>
    so_get E (pp := 18) (fi := 0) (C := RX2) (T := TX2) (N := 2) (ref := "WheelDesk$Magnets") ⟨rfl, rfl, rfl⟩ rfl fi_X2_letGo_X2 (by decide) rfl (List.mem_of_getElem? (i := 3) rfl) dX2_letGo_25 h fun σ lv st h =>
    so_iload E (i := 5) dX2_letGo_28 h fun σ lv st h =>
    so_aload_n E (i := 1) rfl dX2_letGo_30 h fun σ lv st h =>
    so_iload E (i := 5) dX2_letGo_31 h fun σ lv st h =>
    so_callV E (n := 1) (pp := 0) (C := RX0) (T := TX0) (N := 11) (idx := 28) (maxL := 5) (ret := (some .long)) h_X0_wheelMomentum ⟨rfl, rfl, rfl⟩ rfl gX2_letGo_X0_wheelMomentum rfl ⟨rfl, rfl⟩ (by decide +kernel) (by decide) dX2_letGo_33 h fun σ lv st h =>
    so_last E dX2_letGo_36 h fun σ lv st h =>
    so_iinc E (i := 5) (n := 1) (by decide) dX2_letGo_37 h fun σ lv st h =>
    so_goto E 18 (by decide) dX2_letGo_40 (fun _ _ _ h => h) h
set_option maxRecDepth 20000 in
theorem sb_X2_letGo_87 {J : Nat → q_K} {l : Launch} {Qp : Option q_V → q_M → Prop} (E : q_E J cX2_letGo RX2 wsX2_letGo 6 l rm_X2_letGo) (T : q_T J cX2_letGo none Qp) (h_X0_wheelMomentum : q_Ct yX0_wheelMomentum wsX0_wheelMomentum rm_X0_wheelMomentum S_X0_wheelMomentum) (h_X2_crossed : q_Ct yX2_crossed wsX2_crossed rm_X2_crossed S_X2_crossed) (h_X5_quotient : q_Ct yX5_quotient wsX5_quotient rm_X5_quotient S_X5_quotient) (h_X5_limited : q_Ct yX5_limited wsX5_limited rm_X5_limited S_X5_limited) (h_X0_pushFromOutside : q_Ct yX0_pushFromOutside wsX0_pushFromOutside rm_X0_pushFromOutside S_X0_pushFromOutside) : ∀ (σ : q_M) (lv : q_L) (st : q_S), k_X2_letGo_87 Qp J σ lv st → J 87 σ lv st := fun σ lv st h =>
    so_iconst E (x := 0) dX2_letGo_87 h fun σ lv st h =>
    so_istore E (i := 5) (by decide) dX2_letGo_88 h fun σ lv st h =>
    h
set_option maxRecDepth 20000 in
theorem sb_X2_letGo_46 {J : Nat → q_K} {l : Launch} {Qp : Option q_V → q_M → Prop} (E : q_E J cX2_letGo RX2 wsX2_letGo 6 l rm_X2_letGo) (T : q_T J cX2_letGo none Qp) (h_X0_wheelMomentum : q_Ct yX0_wheelMomentum wsX0_wheelMomentum rm_X0_wheelMomentum S_X0_wheelMomentum) (h_X2_crossed : q_Ct yX2_crossed wsX2_crossed rm_X2_crossed S_X2_crossed) (h_X5_quotient : q_Ct yX5_quotient wsX5_quotient rm_X5_quotient S_X5_quotient) (h_X5_limited : q_Ct yX5_limited wsX5_limited rm_X5_limited S_X5_limited) (h_X0_pushFromOutside : q_Ct yX0_pushFromOutside wsX0_pushFromOutside rm_X0_pushFromOutside S_X0_pushFromOutside) : ∀ (σ : q_M) (lv : q_L) (st : q_S), k_X2_letGo_46 Qp J σ lv st → J 46 σ lv st := fun σ lv st h =>
    so_iload E (i := 5) dX2_letGo_46 h fun σ lv st h =>
    so_iconst E (x := 3) dX2_letGo_48 h fun σ lv st h =>
    so_icmpge E 87 (by decide) dX2_letGo_49 (sb_X2_letGo_87 E T h_X0_wheelMomentum h_X2_crossed h_X5_quotient h_X5_limited h_X0_pushFromOutside) h fun σ lv st h =>
    so_aload_n E (i := 0) rfl dX2_letGo_52 h fun σ lv st h =>
    so_get E (pp := 18) (fi := 1) (C := RX2) (T := TX2) (N := 2) (ref := "WheelDesk$Magnets") ⟨rfl, rfl, rfl⟩ rfl fi_X2_letGo_X2 (by decide) rfl (List.mem_of_getElem? (i := 4) rfl) dX2_letGo_53 h fun σ lv st h =>
    so_iload E (i := 5) dX2_letGo_56 h fun σ lv st h =>
    so_aload_n E (i := 0) rfl dX2_letGo_58 h fun σ lv st h =>
    so_get E (pp := 18) (fi := 0) (C := RX2) (T := TX2) (N := 2) (ref := "WheelDesk$Magnets") ⟨rfl, rfl, rfl⟩ rfl fi_X2_letGo_X2 (by decide) rfl (List.mem_of_getElem? (i := 3) rfl) dX2_letGo_59 h fun σ lv st h =>
    so_aload_n E (i := 2) rfl dX2_letGo_62 h fun σ lv st h =>
    so_iload E (i := 5) dX2_letGo_63 h fun σ lv st h =>
    so_callT E (n := 3) (idx := 32) (maxL := 5) (ret := (some .long)) h_X2_crossed gX2_letGo_X2_crossed rfl ⟨rfl, rfl⟩ (by decide +kernel) (by decide) dX2_letGo_65 h fun σ lv st h =>
    so_ldc2 E (x := 1000) (idx := 36) (v := 1000) (List.mem_of_getElem? (i := 5) rfl) rfl dX2_letGo_68 h fun σ lv st h =>
    so_callN E (n := 2) (idx := 38) (maxL := 4) (ret := (some .long)) h_X5_quotient gX2_letGo_X5_quotient_n38 rfl ⟨rfl, rfl⟩ (by decide +kernel) (List.mem_of_getElem? (i := 23) rfl) (List.mem_of_getElem? (i := 21) rfl) (by decide +kernel) (by decide) dX2_letGo_71 h fun σ lv st h =>
    so_lload_n E (i := 3) rfl dX2_letGo_74 h fun σ lv st h =>
    so_lneg E dX2_letGo_75 h fun σ lv st h =>
    so_lload_n E (i := 3) rfl dX2_letGo_76 h fun σ lv st h =>
    so_callN E (n := 3) (idx := 42) (maxL := 6) (ret := (some .long)) h_X5_limited gX2_letGo_X5_limited_n42 rfl ⟨rfl, rfl⟩ (by decide +kernel) (List.mem_of_getElem? (i := 29) rfl) (List.mem_of_getElem? (i := 21) rfl) (by decide +kernel) (by decide) dX2_letGo_77 h fun σ lv st h =>
    so_last E dX2_letGo_80 h fun σ lv st h =>
    so_iinc E (i := 5) (n := 1) (by decide) dX2_letGo_81 h fun σ lv st h =>
    so_goto E 46 (by decide) dX2_letGo_84 (fun _ _ _ h => h) h
set_option maxRecDepth 20000 in
theorem sb_X2_letGo_124 {J : Nat → q_K} {l : Launch} {Qp : Option q_V → q_M → Prop} (E : q_E J cX2_letGo RX2 wsX2_letGo 6 l rm_X2_letGo) (T : q_T J cX2_letGo none Qp) (h_X0_wheelMomentum : q_Ct yX0_wheelMomentum wsX0_wheelMomentum rm_X0_wheelMomentum S_X0_wheelMomentum) (h_X2_crossed : q_Ct yX2_crossed wsX2_crossed rm_X2_crossed S_X2_crossed) (h_X5_quotient : q_Ct yX5_quotient wsX5_quotient rm_X5_quotient S_X5_quotient) (h_X5_limited : q_Ct yX5_limited wsX5_limited rm_X5_limited S_X5_limited) (h_X0_pushFromOutside : q_Ct yX0_pushFromOutside wsX0_pushFromOutside rm_X0_pushFromOutside S_X0_pushFromOutside) : ∀ (σ : q_M) (lv : q_L) (st : q_S), k_X2_letGo_124 Qp J σ lv st → J 124 σ lv st := fun σ lv st h =>
    so_vret T dX2_letGo_124 h
set_option maxRecDepth 20000 in
theorem sb_X2_letGo_90 {J : Nat → q_K} {l : Launch} {Qp : Option q_V → q_M → Prop} (E : q_E J cX2_letGo RX2 wsX2_letGo 6 l rm_X2_letGo) (T : q_T J cX2_letGo none Qp) (h_X0_wheelMomentum : q_Ct yX0_wheelMomentum wsX0_wheelMomentum rm_X0_wheelMomentum S_X0_wheelMomentum) (h_X2_crossed : q_Ct yX2_crossed wsX2_crossed rm_X2_crossed S_X2_crossed) (h_X5_quotient : q_Ct yX5_quotient wsX5_quotient rm_X5_quotient S_X5_quotient) (h_X5_limited : q_Ct yX5_limited wsX5_limited rm_X5_limited S_X5_limited) (h_X0_pushFromOutside : q_Ct yX0_pushFromOutside wsX0_pushFromOutside rm_X0_pushFromOutside S_X0_pushFromOutside) : ∀ (σ : q_M) (lv : q_L) (st : q_S), k_X2_letGo_90 Qp J σ lv st → J 90 σ lv st := fun σ lv st h =>
    so_iload E (i := 5) dX2_letGo_90 h fun σ lv st h =>
    so_iconst E (x := 3) dX2_letGo_92 h fun σ lv st h =>
    so_icmpge E 124 (by decide) dX2_letGo_93 (sb_X2_letGo_124 E T h_X0_wheelMomentum h_X2_crossed h_X5_quotient h_X5_limited h_X0_pushFromOutside) h fun σ lv st h =>
    so_aload_n E (i := 1) rfl dX2_letGo_96 h fun σ lv st h =>
    so_iload E (i := 5) dX2_letGo_97 h fun σ lv st h =>
    so_aload_n E (i := 0) rfl dX2_letGo_99 h fun σ lv st h =>
    so_get E (pp := 18) (fi := 1) (C := RX2) (T := TX2) (N := 2) (ref := "WheelDesk$Magnets") ⟨rfl, rfl, rfl⟩ rfl fi_X2_letGo_X2 (by decide) rfl (List.mem_of_getElem? (i := 4) rfl) dX2_letGo_100 h fun σ lv st h =>
    so_aload_n E (i := 2) rfl dX2_letGo_103 h fun σ lv st h =>
    so_iload E (i := 5) dX2_letGo_104 h fun σ lv st h =>
    so_callT E (n := 3) (idx := 32) (maxL := 5) (ret := (some .long)) h_X2_crossed gX2_letGo_X2_crossed rfl ⟨rfl, rfl⟩ (by decide +kernel) (by decide) dX2_letGo_106 h fun σ lv st h =>
    so_ldc2 E (x := 100) (idx := 46) (v := 100) (List.mem_of_getElem? (i := 6) rfl) rfl dX2_letGo_109 h fun σ lv st h =>
    so_callN E (n := 2) (idx := 38) (maxL := 4) (ret := (some .long)) h_X5_quotient gX2_letGo_X5_quotient_n38 rfl ⟨rfl, rfl⟩ (by decide +kernel) (List.mem_of_getElem? (i := 23) rfl) (List.mem_of_getElem? (i := 21) rfl) (by decide +kernel) (by decide) dX2_letGo_112 h fun σ lv st h =>
    so_callV E (n := 2) (pp := 0) (C := RX0) (T := TX0) (N := 11) (idx := 48) (maxL := 4) (ret := none) h_X0_pushFromOutside ⟨rfl, rfl, rfl⟩ rfl gX2_letGo_X0_pushFromOutside rfl ⟨rfl, rfl⟩ (by decide +kernel) (by decide) dX2_letGo_115 h fun σ lv st h =>
    so_iinc E (i := 5) (n := 1) (by decide) dX2_letGo_118 h fun σ lv st h =>
    so_goto E 90 (by decide) dX2_letGo_121 (fun _ _ _ h => h) h
theorem c_X2_letGo (h_X0_wheelMomentum : q_Ct yX0_wheelMomentum wsX0_wheelMomentum rm_X0_wheelMomentum S_X0_wheelMomentum) (h_X2_crossed : q_Ct yX2_crossed wsX2_crossed rm_X2_crossed S_X2_crossed) (h_X5_quotient : q_Ct yX5_quotient wsX5_quotient rm_X5_quotient S_X5_quotient) (h_X5_limited : q_Ct yX5_limited wsX5_limited rm_X5_limited S_X5_limited) (h_X0_pushFromOutside : q_Ct yX0_pushFromOutside wsX0_pushFromOutside rm_X0_pushFromOutside S_X0_pushFromOutside) : q_Ct yX2_letGo wsX2_letGo rm_X2_letGo S_X2_letGo := by
  refine q_met (cc := cX2_letGo) (maxL := 6) (ret := none) (own := RX2) (by decide +kernel) rfl rfl (fun σ vs Qp h => ?_) (fun l J σ vs Qp E T h => ?_)
  · unfold S_X2_letGo at h
    split at h
    · exact Nat.le_of_ble_eq_true rfl
    · exact h.elim
  · unfold S_X2_letGo at h
    split at h
    · next c0 p0 k0 c p1 k1 =>
      obtain ⟨rfl, rfl, rfl, rfl, rfl, h⟩ := h
      exact v_X2_letGo (so_C E) (sb_X2_letGo_0 E T h_X0_wheelMomentum h_X2_crossed h_X5_quotient h_X5_limited h_X0_pushFromOutside) (sb_X2_letGo_18 E T h_X0_wheelMomentum h_X2_crossed h_X5_quotient h_X5_limited h_X0_pushFromOutside) (sb_X2_letGo_46 E T h_X0_wheelMomentum h_X2_crossed h_X5_quotient h_X5_limited h_X0_pushFromOutside) (sb_X2_letGo_90 E T h_X0_wheelMomentum h_X2_crossed h_X5_quotient h_X5_limited h_X0_pushFromOutside) h
    · exact h.elim
theorem cc_X2_letGo : q_Ct yX2_letGo wsX2_letGo rm_X2_letGo S_X2_letGo := c_X2_letGo cc_X0_wheelMomentum cc_X2_crossed cc_X5_quotient cc_X5_limited cc_X0_pushFromOutside

def rm_X0_disturb : Room := { frames := 1, cells := 0, slots := 0, locals := 23 }
theorem fi_X0_disturb_X0 : ∀ w ∈ u_ws RX0 TX0 11, w ∈ wsX0_disturb := fun w h => List.mem_cons_of_mem _ (List.mem_append_right _ h)
set_option maxRecDepth 20000 in
theorem sb_X0_disturb_0 {J : Nat → q_K} {l : Launch} {Qp : Option q_V → q_M → Prop} (E : q_E J cX0_disturb RX0 wsX0_disturb 2 l rm_X0_disturb) (T : q_T J cX0_disturb none Qp) (h_X0_pushFromOutside : q_Ct yX0_pushFromOutside wsX0_pushFromOutside rm_X0_pushFromOutside S_X0_pushFromOutside) : ∀ (σ : q_M) (lv : q_L) (st : q_S), k_X0_disturb_0 Qp J σ lv st → J 0 σ lv st := fun σ lv st h =>
    so_iconst E (x := 0) dX0_disturb_0 h fun σ lv st h =>
    so_istore_n E (i := 1) rfl (by decide) dX0_disturb_1 h fun σ lv st h =>
    h
set_option maxRecDepth 20000 in
theorem sb_X0_disturb_27 {J : Nat → q_K} {l : Launch} {Qp : Option q_V → q_M → Prop} (E : q_E J cX0_disturb RX0 wsX0_disturb 2 l rm_X0_disturb) (T : q_T J cX0_disturb none Qp) (h_X0_pushFromOutside : q_Ct yX0_pushFromOutside wsX0_pushFromOutside rm_X0_pushFromOutside S_X0_pushFromOutside) : ∀ (σ : q_M) (lv : q_L) (st : q_S), k_X0_disturb_27 Qp J σ lv st → J 27 σ lv st := fun σ lv st h =>
    so_vret T dX0_disturb_27 h
set_option maxRecDepth 20000 in
theorem sb_X0_disturb_2 {J : Nat → q_K} {l : Launch} {Qp : Option q_V → q_M → Prop} (E : q_E J cX0_disturb RX0 wsX0_disturb 2 l rm_X0_disturb) (T : q_T J cX0_disturb none Qp) (h_X0_pushFromOutside : q_Ct yX0_pushFromOutside wsX0_pushFromOutside rm_X0_pushFromOutside S_X0_pushFromOutside) : ∀ (σ : q_M) (lv : q_L) (st : q_S), k_X0_disturb_2 Qp J σ lv st → J 2 σ lv st := fun σ lv st h =>
    so_iload_n E (i := 1) rfl dX0_disturb_2 h fun σ lv st h =>
    so_iconst E (x := 3) dX0_disturb_3 h fun σ lv st h =>
    so_icmpge E 27 (by decide) dX0_disturb_4 (sb_X0_disturb_27 E T h_X0_pushFromOutside) h fun σ lv st h =>
    so_aload_n E (i := 0) rfl dX0_disturb_7 h fun σ lv st h =>
    so_iload_n E (i := 1) rfl dX0_disturb_8 h fun σ lv st h =>
    so_aload_n E (i := 0) rfl dX0_disturb_9 h fun σ lv st h =>
    so_get E (pp := 0) (fi := 2) (C := RX0) (T := TX0) (N := 11) (ref := "WheelDesk$Craft") ⟨rfl, rfl, rfl⟩ rfl fi_X0_disturb_X0 (by decide) rfl (List.mem_of_getElem? (i := 1) rfl) dX0_disturb_10 h fun σ lv st h =>
    so_iconst E (x := 3) dX0_disturb_13 h fun σ lv st h =>
    so_aald E dX0_disturb_14 h fun σ lv st h =>
    so_iload_n E (i := 1) rfl dX0_disturb_15 h fun σ lv st h =>
    so_iald E dX0_disturb_16 h fun σ lv st h =>
    so_i2l E dX0_disturb_17 h fun σ lv st h =>
    so_callV E (n := 2) (pp := 0) (C := RX0) (T := TX0) (N := 11) (idx := 96) (maxL := 4) (ret := none) h_X0_pushFromOutside ⟨rfl, rfl, rfl⟩ rfl gX0_disturb_X0_pushFromOutside rfl ⟨rfl, rfl⟩ (by decide +kernel) (by decide) dX0_disturb_18 h fun σ lv st h =>
    so_iinc E (i := 1) (n := 1) (by decide) dX0_disturb_21 h fun σ lv st h =>
    so_goto E 2 (by decide) dX0_disturb_24 (fun _ _ _ h => h) h
theorem c_X0_disturb (h_X0_pushFromOutside : q_Ct yX0_pushFromOutside wsX0_pushFromOutside rm_X0_pushFromOutside S_X0_pushFromOutside) : q_Ct yX0_disturb wsX0_disturb rm_X0_disturb S_X0_disturb := by
  refine q_met (cc := cX0_disturb) (maxL := 2) (ret := none) (own := RX0) (by decide +kernel) rfl rfl (fun σ vs Qp h => ?_) (fun l J σ vs Qp E T h => ?_)
  · unfold S_X0_disturb at h
    split at h
    · exact Nat.le_of_ble_eq_true rfl
    · exact h.elim
  · unfold S_X0_disturb at h
    split at h
    · next c p0 k0 =>
      obtain ⟨rfl, rfl, h⟩ := h
      exact v_X0_disturb (so_C E) (sb_X0_disturb_0 E T h_X0_pushFromOutside) (sb_X0_disturb_2 E T h_X0_pushFromOutside) h
    · exact h.elim
theorem cc_X0_disturb : q_Ct yX0_disturb wsX0_disturb rm_X0_disturb S_X0_disturb := c_X0_disturb cc_X0_pushFromOutside

def rm_X0_turn : Room := { frames := 3, cells := 0, slots := 0, locals := 69 }
theorem fi_X0_turn_X0 : ∀ w ∈ u_ws RX0 TX0 11, w ∈ wsX0_turn := fun w h => List.mem_cons_of_mem _ (List.mem_append_right _ h)
set_option maxRecDepth 20000 in
theorem sb_X0_turn_0 {J : Nat → q_K} {l : Launch} {Qp : Option q_V → q_M → Prop} (E : q_E J cX0_turn RX0 wsX0_turn 2 l rm_X0_turn) (T : q_T J cX0_turn none Qp) (h_X0_rate : q_Ct yX0_rate wsX0_rate rm_X0_rate S_X0_rate) : ∀ (σ : q_M) (lv : q_L) (st : q_S), k_X0_turn_0 Qp J σ lv st → J 0 σ lv st := fun σ lv st h =>
    so_iconst E (x := 0) dX0_turn_0 h fun σ lv st h =>
    so_istore_n E (i := 1) rfl (by decide) dX0_turn_1 h fun σ lv st h =>
    h
set_option maxRecDepth 20000 in
theorem sb_X0_turn_27 {J : Nat → q_K} {l : Launch} {Qp : Option q_V → q_M → Prop} (E : q_E J cX0_turn RX0 wsX0_turn 2 l rm_X0_turn) (T : q_T J cX0_turn none Qp) (h_X0_rate : q_Ct yX0_rate wsX0_rate rm_X0_rate S_X0_rate) : ∀ (σ : q_M) (lv : q_L) (st : q_S), k_X0_turn_27 Qp J σ lv st → J 27 σ lv st := fun σ lv st h =>
    so_vret T dX0_turn_27 h
set_option maxRecDepth 20000 in
theorem sb_X0_turn_2 {J : Nat → q_K} {l : Launch} {Qp : Option q_V → q_M → Prop} (E : q_E J cX0_turn RX0 wsX0_turn 2 l rm_X0_turn) (T : q_T J cX0_turn none Qp) (h_X0_rate : q_Ct yX0_rate wsX0_rate rm_X0_rate S_X0_rate) : ∀ (σ : q_M) (lv : q_L) (st : q_S), k_X0_turn_2 Qp J σ lv st → J 2 σ lv st := fun σ lv st h =>
    so_iload_n E (i := 1) rfl dX0_turn_2 h fun σ lv st h =>
    so_iconst E (x := 3) dX0_turn_3 h fun σ lv st h =>
    so_icmpge E 27 (by decide) dX0_turn_4 (sb_X0_turn_27 E T h_X0_rate) h fun σ lv st h =>
    so_aload_n E (i := 0) rfl dX0_turn_7 h fun σ lv st h =>
    so_get E (pp := 0) (fi := 3) (C := RX0) (T := TX0) (N := 11) (ref := "WheelDesk$Craft") ⟨rfl, rfl, rfl⟩ rfl fi_X0_turn_X0 (by decide) rfl (List.mem_of_getElem? (i := 1) rfl) dX0_turn_8 h fun σ lv st h =>
    so_iload_n E (i := 1) rfl dX0_turn_11 h fun σ lv st h =>
    so_dup2 E dX0_turn_12 h fun σ lv st h =>
    so_lald E dX0_turn_13 h fun σ lv st h =>
    so_aload_n E (i := 0) rfl dX0_turn_14 h fun σ lv st h =>
    so_iload_n E (i := 1) rfl dX0_turn_15 h fun σ lv st h =>
    so_callV E (n := 1) (pp := 0) (C := RX0) (T := TX0) (N := 11) (idx := 63) (maxL := 2) (ret := (some .long)) h_X0_rate ⟨rfl, rfl, rfl⟩ rfl gX0_turn_X0_rate rfl ⟨rfl, rfl⟩ (by decide +kernel) (by decide) dX0_turn_16 h fun σ lv st h =>
    so_ladd E dX0_turn_19 h fun σ lv st h =>
    so_last E dX0_turn_20 h fun σ lv st h =>
    so_iinc E (i := 1) (n := 1) (by decide) dX0_turn_21 h fun σ lv st h =>
    so_goto E 2 (by decide) dX0_turn_24 (fun _ _ _ h => h) h
theorem c_X0_turn (h_X0_rate : q_Ct yX0_rate wsX0_rate rm_X0_rate S_X0_rate) : q_Ct yX0_turn wsX0_turn rm_X0_turn S_X0_turn := by
  refine q_met (cc := cX0_turn) (maxL := 2) (ret := none) (own := RX0) (by decide +kernel) rfl rfl (fun σ vs Qp h => ?_) (fun l J σ vs Qp E T h => ?_)
  · unfold S_X0_turn at h
    split at h
    · exact Nat.le_of_ble_eq_true rfl
    · exact h.elim
  · unfold S_X0_turn at h
    split at h
    · next c p0 k0 =>
      obtain ⟨rfl, rfl, h⟩ := h
      exact v_X0_turn (so_C E) (sb_X0_turn_0 E T h_X0_rate) (sb_X0_turn_2 E T h_X0_rate) h
    · exact h.elim
theorem cc_X0_turn : q_Ct yX0_turn wsX0_turn rm_X0_turn S_X0_turn := c_X0_turn cc_X0_rate

def rm_X5_passOne : Room := { frames := 4, cells := 0, slots := 0, locals := 103 }
theorem fi_X5_passOne_X0 : ∀ w ∈ u_ws RX0 TX0 11, w ∈ wsX5_passOne := fun w h => List.mem_cons_of_mem _ (List.mem_append_left _ (List.mem_append_left _ (List.mem_append_left _ (List.mem_append_left _ (List.mem_append_right _ h)))))
theorem fi_X5_passOne_X5 : ∀ w ∈ u_ws RX5 TX5 5, w ∈ wsX5_passOne := fun w h => List.mem_cons_of_mem _ (List.mem_append_left _ (List.mem_append_left _ (List.mem_append_left _ (List.mem_append_right _ h))))
theorem fi_X5_passOne_X4 : ∀ w ∈ u_ws RX4 TX4 6, w ∈ wsX5_passOne := fun w h => List.mem_cons_of_mem _ (List.mem_append_left _ (List.mem_append_left _ (List.mem_append_right _ h)))
theorem fi_X5_passOne_X3 : ∀ w ∈ u_ws RX3 TX3 4, w ∈ wsX5_passOne := fun w h => List.mem_cons_of_mem _ (List.mem_append_left _ (List.mem_append_right _ h))
theorem fi_X5_passOne_X2 : ∀ w ∈ u_ws RX2 TX2 2, w ∈ wsX5_passOne := fun w h => List.mem_cons_of_mem _ (List.mem_append_right _ h)
set_option maxRecDepth 20000 in
theorem sb_X5_passOne_0 {J : Nat → q_K} {l : Launch} {Qp : Option q_V → q_M → Prop} (E : q_E J cX5_passOne RX5 wsX5_passOne 2 l rm_X5_passOne) (T : q_T J cX5_passOne none Qp) (h_X0_findWish : q_Ct yX0_findWish wsX0_findWish rm_X0_findWish S_X0_findWish) (h_X3_share : q_Ct yX3_share wsX3_share rm_X3_share S_X3_share) (h_X2_letGo : q_Ct yX2_letGo wsX2_letGo rm_X2_letGo S_X2_letGo) (h_X0_disturb : q_Ct yX0_disturb wsX0_disturb rm_X0_disturb S_X0_disturb) (h_X0_turn : q_Ct yX0_turn wsX0_turn rm_X0_turn S_X0_turn) : ∀ (σ : q_M) (lv : q_L) (st : q_S), k_X5_passOne_0 Qp J σ lv st → J 0 σ lv st := fun σ lv st h =>
    so_aload_n E (i := 1) rfl dX5_passOne_0 h fun σ lv st h =>
    so_dup E dX5_passOne_1 h fun σ lv st h =>
    so_get E (pp := 0) (fi := 0) (C := RX0) (T := TX0) (N := 11) (ref := "WheelDesk$Craft") ⟨rfl, rfl, rfl⟩ rfl fi_X5_passOne_X0 (by decide) rfl (List.mem_of_getElem? (i := 1) rfl) dX5_passOne_2 h fun σ lv st h =>
    so_iconst E (x := 1) dX5_passOne_5 h fun σ lv st h =>
    so_iadd E dX5_passOne_6 h fun σ lv st h =>
    so_puti E (pp := 0) (fi := 0) (sl := 0) (C := RX0) (T := TX0) (N := 11) (ref := "WheelDesk$Craft") ⟨rfl, rfl, rfl⟩ rfl fi_X5_passOne_X0 tyX0 tyX0_ok nmX0 (by decide) rfl rfl rfl q_fs_0_0 (List.mem_of_getElem? (i := 1) rfl) dX5_passOne_7 h fun σ lv st h =>
    so_aload_n E (i := 1) rfl dX5_passOne_10 h fun σ lv st h =>
    so_callV E (n := 0) (pp := 0) (C := RX0) (T := TX0) (N := 11) (idx := 219) (maxL := 12) (ret := none) h_X0_findWish ⟨rfl, rfl, rfl⟩ rfl gX5_passOne_X0_findWish rfl ⟨rfl, rfl⟩ (by decide +kernel) (by decide) dX5_passOne_11 h fun σ lv st h =>
    so_aload_n E (i := 0) rfl dX5_passOne_14 h fun σ lv st h =>
    so_get E (pp := 23) (fi := 2) (C := RX5) (T := TX5) (N := 5) (ref := "WheelDesk") ⟨rfl, rfl, rfl⟩ rfl fi_X5_passOne_X5 (by decide) rfl (List.mem_of_getElem? (i := 2) rfl) dX5_passOne_15 h fun σ lv st h =>
    so_aload_n E (i := 1) rfl dX5_passOne_18 h fun σ lv st h =>
    so_callV E (n := 1) (pp := 12) (C := RX3) (T := TX3) (N := 4) (idx := 222) (maxL := 3) (ret := none) h_X3_share ⟨rfl, rfl, rfl⟩ rfl gX5_passOne_X3_share rfl ⟨rfl, rfl⟩ (by decide +kernel) (by decide) dX5_passOne_19 h fun σ lv st h =>
    so_aload_n E (i := 0) rfl dX5_passOne_22 h fun σ lv st h =>
    so_get E (pp := 23) (fi := 3) (C := RX5) (T := TX5) (N := 5) (ref := "WheelDesk") ⟨rfl, rfl, rfl⟩ rfl fi_X5_passOne_X5 (by decide) rfl (List.mem_of_getElem? (i := 3) rfl) dX5_passOne_23 h fun σ lv st h =>
    so_aload_n E (i := 1) rfl dX5_passOne_26 h fun σ lv st h =>
    so_callV E (n := 1) (pp := 18) (C := RX2) (T := TX2) (N := 2) (idx := 225) (maxL := 6) (ret := none) h_X2_letGo ⟨rfl, rfl, rfl⟩ rfl gX5_passOne_X2_letGo rfl ⟨rfl, rfl⟩ (by decide +kernel) (by decide) dX5_passOne_27 h fun σ lv st h =>
    so_aload_n E (i := 1) rfl dX5_passOne_30 h fun σ lv st h =>
    so_callV E (n := 0) (pp := 0) (C := RX0) (T := TX0) (N := 11) (idx := 228) (maxL := 2) (ret := none) h_X0_disturb ⟨rfl, rfl, rfl⟩ rfl gX5_passOne_X0_disturb rfl ⟨rfl, rfl⟩ (by decide +kernel) (by decide) dX5_passOne_31 h fun σ lv st h =>
    so_aload_n E (i := 1) rfl dX5_passOne_34 h fun σ lv st h =>
    so_callV E (n := 0) (pp := 0) (C := RX0) (T := TX0) (N := 11) (idx := 231) (maxL := 2) (ret := none) h_X0_turn ⟨rfl, rfl, rfl⟩ rfl gX5_passOne_X0_turn rfl ⟨rfl, rfl⟩ (by decide +kernel) (by decide) dX5_passOne_35 h fun σ lv st h =>
    so_vret T dX5_passOne_38 h
theorem c_X5_passOne (h_X0_findWish : q_Ct yX0_findWish wsX0_findWish rm_X0_findWish S_X0_findWish) (h_X3_share : q_Ct yX3_share wsX3_share rm_X3_share S_X3_share) (h_X2_letGo : q_Ct yX2_letGo wsX2_letGo rm_X2_letGo S_X2_letGo) (h_X0_disturb : q_Ct yX0_disturb wsX0_disturb rm_X0_disturb S_X0_disturb) (h_X0_turn : q_Ct yX0_turn wsX0_turn rm_X0_turn S_X0_turn) : q_Ct yX5_passOne wsX5_passOne rm_X5_passOne S_X5_passOne := by
  refine q_met (cc := cX5_passOne) (maxL := 2) (ret := none) (own := RX5) (by decide +kernel) rfl rfl (fun σ vs Qp h => ?_) (fun l J σ vs Qp E T h => ?_)
  · unfold S_X5_passOne at h
    split at h
    · exact Nat.le_of_ble_eq_true rfl
    · exact h.elim
  · unfold S_X5_passOne at h
    split at h
    · next c0 p0 k0 c p1 k1 =>
      obtain ⟨rfl, rfl, rfl, rfl, rfl, h⟩ := h
      exact v_X5_passOne (so_C E) (sb_X5_passOne_0 E T h_X0_findWish h_X3_share h_X2_letGo h_X0_disturb h_X0_turn) h
    · exact h.elim
theorem cc_X5_passOne : q_Ct yX5_passOne wsX5_passOne rm_X5_passOne S_X5_passOne := c_X5_passOne cc_X0_findWish cc_X3_share cc_X2_letGo cc_X0_disturb cc_X0_turn

def rm_X5_tick : Room := { frames := 5, cells := 0, slots := 0, locals := 124 }
theorem fi_X5_tick_X5 : ∀ w ∈ u_ws RX5 TX5 5, w ∈ wsX5_tick := fun w h => List.mem_cons_of_mem _ (List.mem_append_left _ (List.mem_append_left _ (List.mem_append_left _ (List.mem_append_left _ (List.mem_append_left _ (List.mem_append_right _ h))))))
theorem fi_X5_tick_X0 : ∀ w ∈ u_ws RX0 TX0 11, w ∈ wsX5_tick := fun w h => List.mem_cons_of_mem _ (List.mem_append_left _ (List.mem_append_left _ (List.mem_append_left _ (List.mem_append_left _ (List.mem_append_right _ h)))))
theorem fi_X5_tick_X1 : ∀ w ∈ u_ws RX1 TX1 2, w ∈ wsX5_tick := fun w h => List.mem_cons_of_mem _ (List.mem_append_left _ (List.mem_append_left _ (List.mem_append_left _ (List.mem_append_right _ h))))
theorem fi_X5_tick_X4 : ∀ w ∈ u_ws RX4 TX4 6, w ∈ wsX5_tick := fun w h => List.mem_cons_of_mem _ (List.mem_append_left _ (List.mem_append_left _ (List.mem_append_right _ h)))
theorem fi_X5_tick_X3 : ∀ w ∈ u_ws RX3 TX3 4, w ∈ wsX5_tick := fun w h => List.mem_cons_of_mem _ (List.mem_append_left _ (List.mem_append_right _ h))
theorem fi_X5_tick_X2 : ∀ w ∈ u_ws RX2 TX2 2, w ∈ wsX5_tick := fun w h => List.mem_cons_of_mem _ (List.mem_append_right _ h)
set_option maxRecDepth 20000 in
theorem sb_X5_tick_31 {J : Nat → q_K} {l : Launch} {Qp : Option q_V → q_M → Prop} (E : q_E J cX5_tick RX5 wsX5_tick 4 l rm_X5_tick) (T : q_T J cX5_tick (some .int) Qp) (h_X5_isWithin : q_Ct yX5_isWithin wsX5_isWithin rm_X5_isWithin S_X5_isWithin) (h_X1_keep : q_Ct yX1_keep wsX1_keep rm_X1_keep S_X1_keep) (h_X3_measure : q_Ct yX3_measure wsX3_measure rm_X3_measure S_X3_measure) (h_X5_passOne : q_Ct yX5_passOne wsX5_passOne rm_X5_passOne S_X5_passOne) (h_X0_isMet : q_Ct yX0_isMet wsX0_isMet rm_X0_isMet S_X0_isMet) : ∀ (σ : q_M) (lv : q_L) (st : q_S), k_X5_tick_31 Qp J σ lv st → J 31 σ lv st := fun σ lv st h =>
    so_aload_n E (i := 0) rfl dX5_tick_31 h fun σ lv st h =>
    so_get E (pp := 23) (fi := 4) (C := RX5) (T := TX5) (N := 5) (ref := "WheelDesk") ⟨rfl, rfl, rfl⟩ rfl fi_X5_tick_X5 (by decide) rfl (List.mem_of_getElem? (i := 6) rfl) dX5_tick_32 h fun σ lv st h =>
    so_aload_n E (i := 0) rfl dX5_tick_35 h fun σ lv st h =>
    so_get E (pp := 23) (fi := 0) (C := RX5) (T := TX5) (N := 5) (ref := "WheelDesk") ⟨rfl, rfl, rfl⟩ rfl fi_X5_tick_X5 (by decide) rfl (List.mem_of_getElem? (i := 2) rfl) dX5_tick_36 h fun σ lv st h =>
    so_callV E (n := 1) (pp := 21) (C := RX1) (T := TX1) (N := 2) (idx := 55) (maxL := 2) (ret := none) h_X1_keep ⟨rfl, rfl, rfl⟩ rfl gX5_tick_X1_keep rfl ⟨rfl, rfl⟩ (by decide +kernel) (by decide) dX5_tick_39 h fun σ lv st h =>
    so_aload_n E (i := 0) rfl dX5_tick_42 h fun σ lv st h =>
    so_get E (pp := 23) (fi := 2) (C := RX5) (T := TX5) (N := 5) (ref := "WheelDesk") ⟨rfl, rfl, rfl⟩ rfl fi_X5_tick_X5 (by decide) rfl (List.mem_of_getElem? (i := 7) rfl) dX5_tick_43 h fun σ lv st h =>
    so_aload_n E (i := 0) rfl dX5_tick_46 h fun σ lv st h =>
    so_get E (pp := 23) (fi := 0) (C := RX5) (T := TX5) (N := 5) (ref := "WheelDesk") ⟨rfl, rfl, rfl⟩ rfl fi_X5_tick_X5 (by decide) rfl (List.mem_of_getElem? (i := 2) rfl) dX5_tick_47 h fun σ lv st h =>
    so_ldc E (x := -2000009) (idx := 126) (v := -2000009) (List.mem_of_getElem? (i := 8) rfl) rfl dX5_tick_50 h fun σ lv st h =>
    so_callV E (n := 2) (pp := 12) (C := RX3) (T := TX3) (N := 4) (idx := 127) (maxL := 5) (ret := none) h_X3_measure ⟨rfl, rfl, rfl⟩ rfl gX5_tick_X3_measure rfl ⟨rfl, rfl⟩ (by decide +kernel) (by decide) dX5_tick_52 h fun σ lv st h =>
    so_iconst E (x := 0) dX5_tick_55 h fun σ lv st h =>
    so_istore_n E (i := 2) rfl (by decide) dX5_tick_56 h fun σ lv st h =>
    so_iconst E (x := 0) dX5_tick_57 h fun σ lv st h =>
    so_istore_n E (i := 3) rfl (by decide) dX5_tick_58 h fun σ lv st h =>
    h
set_option maxRecDepth 20000 in
theorem sb_X5_tick_14 {J : Nat → q_K} {l : Launch} {Qp : Option q_V → q_M → Prop} (E : q_E J cX5_tick RX5 wsX5_tick 4 l rm_X5_tick) (T : q_T J cX5_tick (some .int) Qp) (h_X5_isWithin : q_Ct yX5_isWithin wsX5_isWithin rm_X5_isWithin S_X5_isWithin) (h_X1_keep : q_Ct yX1_keep wsX1_keep rm_X1_keep S_X1_keep) (h_X3_measure : q_Ct yX3_measure wsX3_measure rm_X3_measure S_X3_measure) (h_X5_passOne : q_Ct yX5_passOne wsX5_passOne rm_X5_passOne S_X5_passOne) (h_X0_isMet : q_Ct yX0_isMet wsX0_isMet rm_X0_isMet S_X0_isMet) : ∀ (σ : q_M) (lv : q_L) (st : q_S), k_X5_tick_14 Qp J σ lv st → J 14 σ lv st := fun σ lv st h =>
    so_aload_n E (i := 0) rfl dX5_tick_14 h fun σ lv st h =>
    so_get E (pp := 23) (fi := 0) (C := RX5) (T := TX5) (N := 5) (ref := "WheelDesk") ⟨rfl, rfl, rfl⟩ rfl fi_X5_tick_X5 (by decide) rfl (List.mem_of_getElem? (i := 2) rfl) dX5_tick_15 h fun σ lv st h =>
    so_get E (pp := 0) (fi := 0) (C := RX0) (T := TX0) (N := 11) (ref := "WheelDesk$Craft") ⟨rfl, rfl, rfl⟩ rfl fi_X5_tick_X0 (by decide) rfl (List.mem_of_getElem? (i := 3) rfl) dX5_tick_18 h fun σ lv st h =>
    so_iload_n E (i := 1) rfl dX5_tick_21 h fun σ lv st h =>
    so_iadd E dX5_tick_22 h fun σ lv st h =>
    so_ldc E (x := 50000) (idx := 124) (v := 50000) (List.mem_of_getElem? (i := 4) rfl) rfl dX5_tick_23 h fun σ lv st h =>
    so_icmple E 31 (by decide) dX5_tick_25 (sb_X5_tick_31 E T h_X5_isWithin h_X1_keep h_X3_measure h_X5_passOne h_X0_isMet) h fun σ lv st h =>
    so_ldc E (x := -2000002) (idx := 125) (v := -2000002) (List.mem_of_getElem? (i := 5) rfl) rfl dX5_tick_28 h fun σ lv st h =>
    so_iret T dX5_tick_30 h
set_option maxRecDepth 20000 in
theorem sb_X5_tick_0 {J : Nat → q_K} {l : Launch} {Qp : Option q_V → q_M → Prop} (E : q_E J cX5_tick RX5 wsX5_tick 4 l rm_X5_tick) (T : q_T J cX5_tick (some .int) Qp) (h_X5_isWithin : q_Ct yX5_isWithin wsX5_isWithin rm_X5_isWithin S_X5_isWithin) (h_X1_keep : q_Ct yX1_keep wsX1_keep rm_X1_keep S_X1_keep) (h_X3_measure : q_Ct yX3_measure wsX3_measure rm_X3_measure S_X3_measure) (h_X5_passOne : q_Ct yX5_passOne wsX5_passOne rm_X5_passOne S_X5_passOne) (h_X0_isMet : q_Ct yX0_isMet wsX0_isMet rm_X0_isMet S_X0_isMet) : ∀ (σ : q_M) (lv : q_L) (st : q_S), k_X5_tick_0 Qp J σ lv st → J 0 σ lv st := fun σ lv st h =>
    so_iload_n E (i := 1) rfl dX5_tick_0 h fun σ lv st h =>
    so_iconst E (x := 1) dX5_tick_1 h fun σ lv st h =>
    so_sipush E (x := 200) rfl dX5_tick_2 h fun σ lv st h =>
    so_callT E (n := 3) (idx := 45) (maxL := 3) (ret := (some .boolean)) h_X5_isWithin gX5_tick_X5_isWithin rfl ⟨rfl, rfl⟩ (by decide +kernel) (by decide) dX5_tick_5 h fun σ lv st h =>
    so_ifne E 14 (by decide) dX5_tick_8 (sb_X5_tick_14 E T h_X5_isWithin h_X1_keep h_X3_measure h_X5_passOne h_X0_isMet) h fun σ lv st h =>
    so_ldc E (x := -2000001) (idx := 49) (v := -2000001) (List.mem_of_getElem? (i := 1) rfl) rfl dX5_tick_11 h fun σ lv st h =>
    so_iret T dX5_tick_13 h
set_option maxRecDepth 20000 in
theorem sb_X5_tick_96 {J : Nat → q_K} {l : Launch} {Qp : Option q_V → q_M → Prop} (E : q_E J cX5_tick RX5 wsX5_tick 4 l rm_X5_tick) (T : q_T J cX5_tick (some .int) Qp) (h_X5_isWithin : q_Ct yX5_isWithin wsX5_isWithin rm_X5_isWithin S_X5_isWithin) (h_X1_keep : q_Ct yX1_keep wsX1_keep rm_X1_keep S_X1_keep) (h_X3_measure : q_Ct yX3_measure wsX3_measure rm_X3_measure S_X3_measure) (h_X5_passOne : q_Ct yX5_passOne wsX5_passOne rm_X5_passOne S_X5_passOne) (h_X0_isMet : q_Ct yX0_isMet wsX0_isMet rm_X0_isMet S_X0_isMet) : ∀ (σ : q_M) (lv : q_L) (st : q_S), k_X5_tick_96 Qp J σ lv st → J 96 σ lv st := fun σ lv st h =>
    so_iload_n E (i := 2) rfl dX5_tick_96 h fun σ lv st h =>
    so_iret T dX5_tick_97 h
set_option maxRecDepth 20000 in
theorem sb_X5_tick_88 {J : Nat → q_K} {l : Launch} {Qp : Option q_V → q_M → Prop} (E : q_E J cX5_tick RX5 wsX5_tick 4 l rm_X5_tick) (T : q_T J cX5_tick (some .int) Qp) (h_X5_isWithin : q_Ct yX5_isWithin wsX5_isWithin rm_X5_isWithin S_X5_isWithin) (h_X1_keep : q_Ct yX1_keep wsX1_keep rm_X1_keep S_X1_keep) (h_X3_measure : q_Ct yX3_measure wsX3_measure rm_X3_measure S_X3_measure) (h_X5_passOne : q_Ct yX5_passOne wsX5_passOne rm_X5_passOne S_X5_passOne) (h_X0_isMet : q_Ct yX0_isMet wsX0_isMet rm_X0_isMet S_X0_isMet) : ∀ (σ : q_M) (lv : q_L) (st : q_S), k_X5_tick_88 Qp J σ lv st → J 88 σ lv st := fun σ lv st h =>
    so_iadd E dX5_tick_88 h fun σ lv st h =>
    so_istore_n E (i := 2) rfl (by decide) dX5_tick_89 h fun σ lv st h =>
    so_iinc E (i := 3) (n := 1) (by decide) dX5_tick_90 h fun σ lv st h =>
    so_goto E 59 (by decide) dX5_tick_93 (fun _ _ _ h => h) h
set_option maxRecDepth 20000 in
theorem sb_X5_tick_87 {J : Nat → q_K} {l : Launch} {Qp : Option q_V → q_M → Prop} (E : q_E J cX5_tick RX5 wsX5_tick 4 l rm_X5_tick) (T : q_T J cX5_tick (some .int) Qp) (h_X5_isWithin : q_Ct yX5_isWithin wsX5_isWithin rm_X5_isWithin S_X5_isWithin) (h_X1_keep : q_Ct yX1_keep wsX1_keep rm_X1_keep S_X1_keep) (h_X3_measure : q_Ct yX3_measure wsX3_measure rm_X3_measure S_X3_measure) (h_X5_passOne : q_Ct yX5_passOne wsX5_passOne rm_X5_passOne S_X5_passOne) (h_X0_isMet : q_Ct yX0_isMet wsX0_isMet rm_X0_isMet S_X0_isMet) : ∀ (σ : q_M) (lv : q_L) (st : q_S), k_X5_tick_87 Qp J σ lv st → J 87 σ lv st := fun σ lv st h =>
    so_iconst E (x := 0) dX5_tick_87 h fun σ lv st h =>
    (sb_X5_tick_88 E T h_X5_isWithin h_X1_keep h_X3_measure h_X5_passOne h_X0_isMet) σ lv st h
set_option maxRecDepth 20000 in
theorem sb_X5_tick_59 {J : Nat → q_K} {l : Launch} {Qp : Option q_V → q_M → Prop} (E : q_E J cX5_tick RX5 wsX5_tick 4 l rm_X5_tick) (T : q_T J cX5_tick (some .int) Qp) (h_X5_isWithin : q_Ct yX5_isWithin wsX5_isWithin rm_X5_isWithin S_X5_isWithin) (h_X1_keep : q_Ct yX1_keep wsX1_keep rm_X1_keep S_X1_keep) (h_X3_measure : q_Ct yX3_measure wsX3_measure rm_X3_measure S_X3_measure) (h_X5_passOne : q_Ct yX5_passOne wsX5_passOne rm_X5_passOne S_X5_passOne) (h_X0_isMet : q_Ct yX0_isMet wsX0_isMet rm_X0_isMet S_X0_isMet) : ∀ (σ : q_M) (lv : q_L) (st : q_S), k_X5_tick_59 Qp J σ lv st → J 59 σ lv st := fun σ lv st h =>
    so_iload_n E (i := 3) rfl dX5_tick_59 h fun σ lv st h =>
    so_iload_n E (i := 1) rfl dX5_tick_60 h fun σ lv st h =>
    so_icmpge E 96 (by decide) dX5_tick_61 (sb_X5_tick_96 E T h_X5_isWithin h_X1_keep h_X3_measure h_X5_passOne h_X0_isMet) h fun σ lv st h =>
    so_aload_n E (i := 0) rfl dX5_tick_64 h fun σ lv st h =>
    so_aload_n E (i := 0) rfl dX5_tick_65 h fun σ lv st h =>
    so_get E (pp := 23) (fi := 0) (C := RX5) (T := TX5) (N := 5) (ref := "WheelDesk") ⟨rfl, rfl, rfl⟩ rfl fi_X5_tick_X5 (by decide) rfl (List.mem_of_getElem? (i := 2) rfl) dX5_tick_66 h fun σ lv st h =>
    so_callV E (n := 1) (pp := 23) (C := RX5) (T := TX5) (N := 5) (idx := 131) (maxL := 2) (ret := none) h_X5_passOne ⟨rfl, rfl, rfl⟩ rfl gX5_tick_X5_passOne rfl ⟨rfl, rfl⟩ (by decide +kernel) (by decide) dX5_tick_69 h fun σ lv st h =>
    so_iload_n E (i := 2) rfl dX5_tick_72 h fun σ lv st h =>
    so_aload_n E (i := 0) rfl dX5_tick_73 h fun σ lv st h =>
    so_get E (pp := 23) (fi := 0) (C := RX5) (T := TX5) (N := 5) (ref := "WheelDesk") ⟨rfl, rfl, rfl⟩ rfl fi_X5_tick_X5 (by decide) rfl (List.mem_of_getElem? (i := 2) rfl) dX5_tick_74 h fun σ lv st h =>
    so_callV E (n := 0) (pp := 0) (C := RX0) (T := TX0) (N := 11) (idx := 134) (maxL := 1) (ret := (some .boolean)) h_X0_isMet ⟨rfl, rfl, rfl⟩ rfl gX5_tick_X0_isMet rfl ⟨rfl, rfl⟩ (by decide +kernel) (by decide) dX5_tick_77 h fun σ lv st h =>
    so_ifeq E 87 (by decide) dX5_tick_80 (sb_X5_tick_87 E T h_X5_isWithin h_X1_keep h_X3_measure h_X5_passOne h_X0_isMet) h fun σ lv st h =>
    so_iconst E (x := 1) dX5_tick_83 h fun σ lv st h =>
    so_goto E 88 (by decide) dX5_tick_84 (sb_X5_tick_88 E T h_X5_isWithin h_X1_keep h_X3_measure h_X5_passOne h_X0_isMet) h
theorem c_X5_tick (h_X5_isWithin : q_Ct yX5_isWithin wsX5_isWithin rm_X5_isWithin S_X5_isWithin) (h_X1_keep : q_Ct yX1_keep wsX1_keep rm_X1_keep S_X1_keep) (h_X3_measure : q_Ct yX3_measure wsX3_measure rm_X3_measure S_X3_measure) (h_X5_passOne : q_Ct yX5_passOne wsX5_passOne rm_X5_passOne S_X5_passOne) (h_X0_isMet : q_Ct yX0_isMet wsX0_isMet rm_X0_isMet S_X0_isMet) : q_Ct yX5_tick wsX5_tick rm_X5_tick S_X5_tick := by
  refine q_met (cc := cX5_tick) (maxL := 4) (ret := (some .int)) (own := RX5) (by decide +kernel) rfl rfl (fun σ vs Qp h => ?_) (fun l J σ vs Qp E T h => ?_)
  · unfold S_X5_tick at h
    split at h
    · exact Nat.le_of_ble_eq_true rfl
    · exact h.elim
  · unfold S_X5_tick at h
    split at h
    · next c0 p0 k0 t =>
      obtain ⟨rfl, rfl, rfl, h⟩ := h
      exact v_X5_tick (so_C E) (sb_X5_tick_0 E T h_X5_isWithin h_X1_keep h_X3_measure h_X5_passOne h_X0_isMet) (sb_X5_tick_59 E T h_X5_isWithin h_X1_keep h_X3_measure h_X5_passOne h_X0_isMet) h
    · exact h.elim
theorem cc_X5_tick : q_Ct yX5_tick wsX5_tick rm_X5_tick S_X5_tick := c_X5_tick cc_X5_isWithin cc_X1_keep cc_X3_measure cc_X5_passOne cc_X0_isMet

def rm_X5_time : Room := { frames := 0, cells := 0, slots := 0, locals := 0 }
theorem fi_X5_time_X5 : ∀ w ∈ u_ws RX5 TX5 5, w ∈ wsX5_time := fun w h => List.mem_cons_of_mem _ (List.mem_append_left _ (List.mem_append_right _ h))
theorem fi_X5_time_X0 : ∀ w ∈ u_ws RX0 TX0 11, w ∈ wsX5_time := fun w h => List.mem_cons_of_mem _ (List.mem_append_right _ h)
set_option maxRecDepth 20000 in
theorem sb_X5_time_0 {J : Nat → q_K} {l : Launch} {Qp : Option q_V → q_M → Prop} (E : q_E J cX5_time RX5 wsX5_time 1 l rm_X5_time) (T : q_T J cX5_time (some .int) Qp) : ∀ (σ : q_M) (lv : q_L) (st : q_S), k_X5_time_0 Qp J σ lv st → J 0 σ lv st := fun σ lv st h =>
    so_aload_n E (i := 0) rfl dX5_time_0 h fun σ lv st h =>
    so_get E (pp := 23) (fi := 0) (C := RX5) (T := TX5) (N := 5) (ref := "WheelDesk") ⟨rfl, rfl, rfl⟩ rfl fi_X5_time_X5 (by decide) rfl (List.mem_of_getElem? (i := 1) rfl) dX5_time_1 h fun σ lv st h =>
    so_get E (pp := 0) (fi := 0) (C := RX0) (T := TX0) (N := 11) (ref := "WheelDesk$Craft") ⟨rfl, rfl, rfl⟩ rfl fi_X5_time_X0 (by decide) rfl (List.mem_of_getElem? (i := 2) rfl) dX5_time_4 h fun σ lv st h =>
    so_iret T dX5_time_7 h
theorem c_X5_time : q_Ct yX5_time wsX5_time rm_X5_time S_X5_time := by
  refine q_met (cc := cX5_time) (maxL := 1) (ret := (some .int)) (own := RX5) (by decide +kernel) rfl rfl (fun σ vs Qp h => ?_) (fun l J σ vs Qp E T h => ?_)
  · unfold S_X5_time at h
    split at h
    · exact Nat.le_of_ble_eq_true rfl
    · exact h.elim
  · unfold S_X5_time at h
    split at h
    · next c0 p0 k0 =>
      obtain ⟨rfl, rfl, rfl, h⟩ := h
      exact v_X5_time (so_C E) (sb_X5_time_0 E T) h
    · exact h.elim
theorem cc_X5_time : q_Ct yX5_time wsX5_time rm_X5_time S_X5_time := c_X5_time

def rm_X0_number : Room := { frames := 3, cells := 0, slots := 0, locals := 69 }
theorem fi_X0_number_X0 : ∀ w ∈ u_ws RX0 TX0 11, w ∈ wsX0_number := fun w h => List.mem_cons_of_mem _ (List.mem_append_left _ (List.mem_append_right _ h))
theorem fi_X0_number_X4 : ∀ w ∈ u_ws RX4 TX4 6, w ∈ wsX0_number := fun w h => List.mem_cons_of_mem _ (List.mem_append_right _ h)
set_option maxRecDepth 20000 in
theorem sb_X0_number_56 {J : Nat → q_K} {l : Launch} {Qp : Option q_V → q_M → Prop} (E : q_E J cX0_number RX0 wsX0_number 3 l rm_X0_number) (T : q_T J cX0_number (some .long) Qp) (h_X0_rate : q_Ct yX0_rate wsX0_rate rm_X0_rate S_X0_rate) (h_X0_wheelMomentum : q_Ct yX0_wheelMomentum wsX0_wheelMomentum rm_X0_wheelMomentum S_X0_wheelMomentum) : ∀ (σ : q_M) (lv : q_L) (st : q_S), k_X0_number_56 Qp J σ lv st → J 56 σ lv st := fun σ lv st h =>
    so_aload_n E (i := 0) rfl dX0_number_56 h fun σ lv st h =>
    so_get E (pp := 0) (fi := 3) (C := RX0) (T := TX0) (N := 11) (ref := "WheelDesk$Craft") ⟨rfl, rfl, rfl⟩ rfl fi_X0_number_X0 (by decide) rfl (List.mem_of_getElem? (i := 1) rfl) dX0_number_57 h fun σ lv st h =>
    so_iload_n E (i := 1) rfl dX0_number_60 h fun σ lv st h =>
    so_lald E dX0_number_61 h fun σ lv st h =>
    so_lret T dX0_number_62 h
set_option maxRecDepth 20000 in
theorem sb_X0_number_63 {J : Nat → q_K} {l : Launch} {Qp : Option q_V → q_M → Prop} (E : q_E J cX0_number RX0 wsX0_number 3 l rm_X0_number) (T : q_T J cX0_number (some .long) Qp) (h_X0_rate : q_Ct yX0_rate wsX0_rate rm_X0_rate S_X0_rate) (h_X0_wheelMomentum : q_Ct yX0_wheelMomentum wsX0_wheelMomentum rm_X0_wheelMomentum S_X0_wheelMomentum) : ∀ (σ : q_M) (lv : q_L) (st : q_S), k_X0_number_63 Qp J σ lv st → J 63 σ lv st := fun σ lv st h =>
    so_aload_n E (i := 0) rfl dX0_number_63 h fun σ lv st h =>
    so_get E (pp := 0) (fi := 4) (C := RX0) (T := TX0) (N := 11) (ref := "WheelDesk$Craft") ⟨rfl, rfl, rfl⟩ rfl fi_X0_number_X0 (by decide) rfl (List.mem_of_getElem? (i := 2) rfl) dX0_number_64 h fun σ lv st h =>
    so_iload_n E (i := 1) rfl dX0_number_67 h fun σ lv st h =>
    so_lald E dX0_number_68 h fun σ lv st h =>
    so_lret T dX0_number_69 h
set_option maxRecDepth 20000 in
theorem sb_X0_number_70 {J : Nat → q_K} {l : Launch} {Qp : Option q_V → q_M → Prop} (E : q_E J cX0_number RX0 wsX0_number 3 l rm_X0_number) (T : q_T J cX0_number (some .long) Qp) (h_X0_rate : q_Ct yX0_rate wsX0_rate rm_X0_rate S_X0_rate) (h_X0_wheelMomentum : q_Ct yX0_wheelMomentum wsX0_wheelMomentum rm_X0_wheelMomentum S_X0_wheelMomentum) : ∀ (σ : q_M) (lv : q_L) (st : q_S), k_X0_number_70 Qp J σ lv st → J 70 σ lv st := fun σ lv st h =>
    so_aload_n E (i := 0) rfl dX0_number_70 h fun σ lv st h =>
    so_iload_n E (i := 1) rfl dX0_number_71 h fun σ lv st h =>
    so_callV E (n := 1) (pp := 0) (C := RX0) (T := TX0) (N := 11) (idx := 63) (maxL := 2) (ret := (some .long)) h_X0_rate ⟨rfl, rfl, rfl⟩ rfl gX0_number_X0_rate rfl ⟨rfl, rfl⟩ (by decide +kernel) (by decide) dX0_number_72 h fun σ lv st h =>
    so_lret T dX0_number_75 h
set_option maxRecDepth 20000 in
theorem sb_X0_number_76 {J : Nat → q_K} {l : Launch} {Qp : Option q_V → q_M → Prop} (E : q_E J cX0_number RX0 wsX0_number 3 l rm_X0_number) (T : q_T J cX0_number (some .long) Qp) (h_X0_rate : q_Ct yX0_rate wsX0_rate rm_X0_rate S_X0_rate) (h_X0_wheelMomentum : q_Ct yX0_wheelMomentum wsX0_wheelMomentum rm_X0_wheelMomentum S_X0_wheelMomentum) : ∀ (σ : q_M) (lv : q_L) (st : q_S), k_X0_number_76 Qp J σ lv st → J 76 σ lv st := fun σ lv st h =>
    so_aload_n E (i := 0) rfl dX0_number_76 h fun σ lv st h =>
    so_get E (pp := 0) (fi := 4) (C := RX0) (T := TX0) (N := 11) (ref := "WheelDesk$Craft") ⟨rfl, rfl, rfl⟩ rfl fi_X0_number_X0 (by decide) rfl (List.mem_of_getElem? (i := 2) rfl) dX0_number_77 h fun σ lv st h =>
    so_iload_n E (i := 1) rfl dX0_number_80 h fun σ lv st h =>
    so_lald E dX0_number_81 h fun σ lv st h =>
    so_aload_n E (i := 0) rfl dX0_number_82 h fun σ lv st h =>
    so_iload_n E (i := 1) rfl dX0_number_83 h fun σ lv st h =>
    so_callV E (n := 1) (pp := 0) (C := RX0) (T := TX0) (N := 11) (idx := 67) (maxL := 5) (ret := (some .long)) h_X0_wheelMomentum ⟨rfl, rfl, rfl⟩ rfl gX0_number_X0_wheelMomentum rfl ⟨rfl, rfl⟩ (by decide +kernel) (by decide) dX0_number_84 h fun σ lv st h =>
    so_ladd E dX0_number_87 h fun σ lv st h =>
    so_lret T dX0_number_88 h
set_option maxRecDepth 20000 in
theorem sb_X0_number_89 {J : Nat → q_K} {l : Launch} {Qp : Option q_V → q_M → Prop} (E : q_E J cX0_number RX0 wsX0_number 3 l rm_X0_number) (T : q_T J cX0_number (some .long) Qp) (h_X0_rate : q_Ct yX0_rate wsX0_rate rm_X0_rate S_X0_rate) (h_X0_wheelMomentum : q_Ct yX0_wheelMomentum wsX0_wheelMomentum rm_X0_wheelMomentum S_X0_wheelMomentum) : ∀ (σ : q_M) (lv : q_L) (st : q_S), k_X0_number_89 Qp J σ lv st → J 89 σ lv st := fun σ lv st h =>
    so_aload_n E (i := 0) rfl dX0_number_89 h fun σ lv st h =>
    so_get E (pp := 0) (fi := 5) (C := RX0) (T := TX0) (N := 11) (ref := "WheelDesk$Craft") ⟨rfl, rfl, rfl⟩ rfl fi_X0_number_X0 (by decide) rfl (List.mem_of_getElem? (i := 3) rfl) dX0_number_90 h fun σ lv st h =>
    so_iload_n E (i := 1) rfl dX0_number_93 h fun σ lv st h =>
    so_lald E dX0_number_94 h fun σ lv st h =>
    so_lret T dX0_number_95 h
set_option maxRecDepth 20000 in
theorem sb_X0_number_131 {J : Nat → q_K} {l : Launch} {Qp : Option q_V → q_M → Prop} (E : q_E J cX0_number RX0 wsX0_number 3 l rm_X0_number) (T : q_T J cX0_number (some .long) Qp) (h_X0_rate : q_Ct yX0_rate wsX0_rate rm_X0_rate S_X0_rate) (h_X0_wheelMomentum : q_Ct yX0_wheelMomentum wsX0_wheelMomentum rm_X0_wheelMomentum S_X0_wheelMomentum) : ∀ (σ : q_M) (lv : q_L) (st : q_S), k_X0_number_131 Qp J σ lv st → J 131 σ lv st := fun σ lv st h =>
    so_lret T dX0_number_131 h
set_option maxRecDepth 20000 in
theorem sb_X0_number_128 {J : Nat → q_K} {l : Launch} {Qp : Option q_V → q_M → Prop} (E : q_E J cX0_number RX0 wsX0_number 3 l rm_X0_number) (T : q_T J cX0_number (some .long) Qp) (h_X0_rate : q_Ct yX0_rate wsX0_rate rm_X0_rate S_X0_rate) (h_X0_wheelMomentum : q_Ct yX0_wheelMomentum wsX0_wheelMomentum rm_X0_wheelMomentum S_X0_wheelMomentum) : ∀ (σ : q_M) (lv : q_L) (st : q_S), k_X0_number_128 Qp J σ lv st → J 128 σ lv st := fun σ lv st h =>
    so_ldc2 E (x := -4611686018427387905) (idx := 70) (v := -4611686018427387905) (List.mem_of_getElem? (i := 6) rfl) rfl dX0_number_128 h fun σ lv st h =>
    (sb_X0_number_131 E T h_X0_rate h_X0_wheelMomentum) σ lv st h
set_option maxRecDepth 20000 in
theorem sb_X0_number_103 {J : Nat → q_K} {l : Launch} {Qp : Option q_V → q_M → Prop} (E : q_E J cX0_number RX0 wsX0_number 3 l rm_X0_number) (T : q_T J cX0_number (some .long) Qp) (h_X0_rate : q_Ct yX0_rate wsX0_rate rm_X0_rate S_X0_rate) (h_X0_wheelMomentum : q_Ct yX0_wheelMomentum wsX0_wheelMomentum rm_X0_wheelMomentum S_X0_wheelMomentum) : ∀ (σ : q_M) (lv : q_L) (st : q_S), k_X0_number_103 Qp J σ lv st → J 103 σ lv st := fun σ lv st h =>
    so_iload_n E (i := 2) rfl dX0_number_103 h fun σ lv st h =>
    so_iconst E (x := 5) dX0_number_104 h fun σ lv st h =>
    so_icmplt E 128 (by decide) dX0_number_105 (sb_X0_number_128 E T h_X0_rate h_X0_wheelMomentum) h fun σ lv st h =>
    so_iload_n E (i := 2) rfl dX0_number_108 h fun σ lv st h =>
    so_bipush E (x := 9) rfl dX0_number_109 h fun σ lv st h =>
    so_icmpge E 128 (by decide) dX0_number_111 (sb_X0_number_128 E T h_X0_rate h_X0_wheelMomentum) h fun σ lv st h =>
    so_aload_n E (i := 0) rfl dX0_number_114 h fun σ lv st h =>
    so_get E (pp := 0) (fi := 2) (C := RX0) (T := TX0) (N := 11) (ref := "WheelDesk$Craft") ⟨rfl, rfl, rfl⟩ rfl fi_X0_number_X0 (by decide) rfl (List.mem_of_getElem? (i := 5) rfl) dX0_number_115 h fun σ lv st h =>
    so_iload_n E (i := 2) rfl dX0_number_118 h fun σ lv st h =>
    so_iconst E (x := 5) dX0_number_119 h fun σ lv st h =>
    so_isub E dX0_number_120 h fun σ lv st h =>
    so_aald E dX0_number_121 h fun σ lv st h =>
    so_iload_n E (i := 1) rfl dX0_number_122 h fun σ lv st h =>
    so_iald E dX0_number_123 h fun σ lv st h =>
    so_i2l E dX0_number_124 h fun σ lv st h =>
    so_goto E 131 (by decide) dX0_number_125 (sb_X0_number_131 E T h_X0_rate h_X0_wheelMomentum) h
set_option maxRecDepth 20000 in
theorem sb_X0_number_96 {J : Nat → q_K} {l : Launch} {Qp : Option q_V → q_M → Prop} (E : q_E J cX0_number RX0 wsX0_number 3 l rm_X0_number) (T : q_T J cX0_number (some .long) Qp) (h_X0_rate : q_Ct yX0_rate wsX0_rate rm_X0_rate S_X0_rate) (h_X0_wheelMomentum : q_Ct yX0_wheelMomentum wsX0_wheelMomentum rm_X0_wheelMomentum S_X0_wheelMomentum) : ∀ (σ : q_M) (lv : q_L) (st : q_S), k_X0_number_96 Qp J σ lv st → J 96 σ lv st := fun σ lv st h =>
    so_aload_n E (i := 0) rfl dX0_number_96 h fun σ lv st h =>
    so_get E (pp := 0) (fi := 6) (C := RX0) (T := TX0) (N := 11) (ref := "WheelDesk$Craft") ⟨rfl, rfl, rfl⟩ rfl fi_X0_number_X0 (by decide) rfl (List.mem_of_getElem? (i := 4) rfl) dX0_number_97 h fun σ lv st h =>
    so_iload_n E (i := 1) rfl dX0_number_100 h fun σ lv st h =>
    so_lald E dX0_number_101 h fun σ lv st h =>
    so_lret T dX0_number_102 h
set_option maxRecDepth 20000 in
theorem sb_X0_number_0 {J : Nat → q_K} {l : Launch} {Qp : Option q_V → q_M → Prop} (E : q_E J cX0_number RX0 wsX0_number 3 l rm_X0_number) (T : q_T J cX0_number (some .long) Qp) (h_X0_rate : q_Ct yX0_rate wsX0_rate rm_X0_rate S_X0_rate) (h_X0_wheelMomentum : q_Ct yX0_wheelMomentum wsX0_wheelMomentum rm_X0_wheelMomentum S_X0_wheelMomentum) : ∀ (σ : q_M) (lv : q_L) (st : q_S), k_X0_number_0 Qp J σ lv st → J 0 σ lv st := fun σ lv st h =>
    so_iload_n E (i := 2) rfl dX0_number_0 h fun σ lv st h =>
    so_tsw E (Ks := [k_X0_number_56 Qp J, k_X0_number_63 Qp J, k_X0_number_70 Qp J, k_X0_number_76 Qp J, k_X0_number_89 Qp J, k_X0_number_103 Qp J, k_X0_number_103 Qp J, k_X0_number_103 Qp J, k_X0_number_103 Qp J, k_X0_number_96 Qp J]) 103 [56, 63, 70, 76, 89, 103, 103, 103, 103, 96] (by decide) (by decide) (fun i t h9 => by
    have hi : i < 10 := (List.getElem?_eq_some_iff.mp h9).1
    match i, hi with
    | 0, _ => cases h9; exact ⟨_, rfl, by decide⟩
    | 1, _ => cases h9; exact ⟨_, rfl, by decide⟩
    | 2, _ => cases h9; exact ⟨_, rfl, by decide⟩
    | 3, _ => cases h9; exact ⟨_, rfl, by decide⟩
    | 4, _ => cases h9; exact ⟨_, rfl, by decide⟩
    | 5, _ => cases h9; exact ⟨_, rfl, by decide⟩
    | 6, _ => cases h9; exact ⟨_, rfl, by decide⟩
    | 7, _ => cases h9; exact ⟨_, rfl, by decide⟩
    | 8, _ => cases h9; exact ⟨_, rfl, by decide⟩
    | 9, _ => cases h9; exact ⟨_, rfl, by decide⟩) dX0_number_1 (sb_X0_number_103 E T h_X0_rate h_X0_wheelMomentum) (⟨(sb_X0_number_56 E T h_X0_rate h_X0_wheelMomentum), ⟨(sb_X0_number_63 E T h_X0_rate h_X0_wheelMomentum), ⟨(sb_X0_number_70 E T h_X0_rate h_X0_wheelMomentum), ⟨(sb_X0_number_76 E T h_X0_rate h_X0_wheelMomentum), ⟨(sb_X0_number_89 E T h_X0_rate h_X0_wheelMomentum), ⟨(sb_X0_number_103 E T h_X0_rate h_X0_wheelMomentum), ⟨(sb_X0_number_103 E T h_X0_rate h_X0_wheelMomentum), ⟨(sb_X0_number_103 E T h_X0_rate h_X0_wheelMomentum), ⟨(sb_X0_number_103 E T h_X0_rate h_X0_wheelMomentum), ⟨(sb_X0_number_96 E T h_X0_rate h_X0_wheelMomentum), trivial⟩⟩⟩⟩⟩⟩⟩⟩⟩⟩) h
theorem c_X0_number (h_X0_rate : q_Ct yX0_rate wsX0_rate rm_X0_rate S_X0_rate) (h_X0_wheelMomentum : q_Ct yX0_wheelMomentum wsX0_wheelMomentum rm_X0_wheelMomentum S_X0_wheelMomentum) : q_Ct yX0_number wsX0_number rm_X0_number S_X0_number := by
  refine q_met (cc := cX0_number) (maxL := 3) (ret := (some .long)) (own := RX0) (by decide +kernel) rfl rfl (fun σ vs Qp h => ?_) (fun l J σ vs Qp E T h => ?_)
  · unfold S_X0_number at h
    split at h
    · exact Nat.le_of_ble_eq_true rfl
    · exact h.elim
  · unfold S_X0_number at h
    split at h
    · next c p0 k0 i w =>
      obtain ⟨rfl, rfl, h⟩ := h
      exact v_X0_number (so_C E) (sb_X0_number_0 E T h_X0_rate h_X0_wheelMomentum) h
    · exact h.elim
theorem cc_X0_number : q_Ct yX0_number wsX0_number rm_X0_number S_X0_number := c_X0_number cc_X0_rate cc_X0_wheelMomentum

def rm_X5_axis : Room := { frames := 4, cells := 0, slots := 0, locals := 91 }
theorem fi_X5_axis_X5 : ∀ w ∈ u_ws RX5 TX5 5, w ∈ wsX5_axis := fun w h => List.mem_cons_of_mem _ (List.mem_append_left _ (List.mem_append_left _ (List.mem_append_right _ h)))
theorem fi_X5_axis_X0 : ∀ w ∈ u_ws RX0 TX0 11, w ∈ wsX5_axis := fun w h => List.mem_cons_of_mem _ (List.mem_append_left _ (List.mem_append_right _ h))
theorem fi_X5_axis_X4 : ∀ w ∈ u_ws RX4 TX4 6, w ∈ wsX5_axis := fun w h => List.mem_cons_of_mem _ (List.mem_append_right _ h)
set_option maxRecDepth 20000 in
theorem sb_X5_axis_17 {J : Nat → q_K} {l : Launch} {Qp : Option q_V → q_M → Prop} (E : q_E J cX5_axis RX5 wsX5_axis 3 l rm_X5_axis) (T : q_T J cX5_axis (some .long) Qp) (h_X5_isAxis : q_Ct yX5_isAxis wsX5_isAxis rm_X5_isAxis S_X5_isAxis) (h_X5_isWithin : q_Ct yX5_isWithin wsX5_isWithin rm_X5_isWithin S_X5_isWithin) (h_X0_number : q_Ct yX0_number wsX0_number rm_X0_number S_X0_number) : ∀ (σ : q_M) (lv : q_L) (st : q_S), k_X5_axis_17 Qp J σ lv st → J 17 σ lv st := fun σ lv st h =>
    so_ldc2 E (x := -4611686018427387905) (idx := 111) (v := -4611686018427387905) (List.mem_of_getElem? (i := 1) rfl) rfl dX5_axis_17 h fun σ lv st h =>
    so_lret T dX5_axis_20 h
set_option maxRecDepth 20000 in
theorem sb_X5_axis_21 {J : Nat → q_K} {l : Launch} {Qp : Option q_V → q_M → Prop} (E : q_E J cX5_axis RX5 wsX5_axis 3 l rm_X5_axis) (T : q_T J cX5_axis (some .long) Qp) (h_X5_isAxis : q_Ct yX5_isAxis wsX5_isAxis rm_X5_isAxis S_X5_isAxis) (h_X5_isWithin : q_Ct yX5_isWithin wsX5_isWithin rm_X5_isWithin S_X5_isWithin) (h_X0_number : q_Ct yX0_number wsX0_number rm_X0_number S_X0_number) : ∀ (σ : q_M) (lv : q_L) (st : q_S), k_X5_axis_21 Qp J σ lv st → J 21 σ lv st := fun σ lv st h =>
    so_aload_n E (i := 0) rfl dX5_axis_21 h fun σ lv st h =>
    so_get E (pp := 23) (fi := 0) (C := RX5) (T := TX5) (N := 5) (ref := "WheelDesk") ⟨rfl, rfl, rfl⟩ rfl fi_X5_axis_X5 (by decide) rfl (List.mem_of_getElem? (i := 2) rfl) dX5_axis_22 h fun σ lv st h =>
    so_iload_n E (i := 1) rfl dX5_axis_25 h fun σ lv st h =>
    so_iload_n E (i := 2) rfl dX5_axis_26 h fun σ lv st h =>
    so_callV E (n := 2) (pp := 0) (C := RX0) (T := TX0) (N := 11) (idx := 138) (maxL := 3) (ret := (some .long)) h_X0_number ⟨rfl, rfl, rfl⟩ rfl gX5_axis_X0_number rfl ⟨rfl, rfl⟩ (by decide +kernel) (by decide) dX5_axis_27 h fun σ lv st h =>
    so_lret T dX5_axis_30 h
set_option maxRecDepth 20000 in
theorem sb_X5_axis_0 {J : Nat → q_K} {l : Launch} {Qp : Option q_V → q_M → Prop} (E : q_E J cX5_axis RX5 wsX5_axis 3 l rm_X5_axis) (T : q_T J cX5_axis (some .long) Qp) (h_X5_isAxis : q_Ct yX5_isAxis wsX5_isAxis rm_X5_isAxis S_X5_isAxis) (h_X5_isWithin : q_Ct yX5_isWithin wsX5_isWithin rm_X5_isWithin S_X5_isWithin) (h_X0_number : q_Ct yX0_number wsX0_number rm_X0_number S_X0_number) : ∀ (σ : q_M) (lv : q_L) (st : q_S), k_X5_axis_0 Qp J σ lv st → J 0 σ lv st := fun σ lv st h =>
    so_iload_n E (i := 1) rfl dX5_axis_0 h fun σ lv st h =>
    so_callT E (n := 1) (idx := 87) (maxL := 1) (ret := (some .boolean)) h_X5_isAxis gX5_axis_X5_isAxis rfl ⟨rfl, rfl⟩ (by decide +kernel) (by decide) dX5_axis_1 h fun σ lv st h =>
    so_ifeq E 17 (by decide) dX5_axis_4 (sb_X5_axis_17 E T h_X5_isAxis h_X5_isWithin h_X0_number) h fun σ lv st h =>
    so_iload_n E (i := 2) rfl dX5_axis_7 h fun σ lv st h =>
    so_iconst E (x := 0) dX5_axis_8 h fun σ lv st h =>
    so_bipush E (x := 9) rfl dX5_axis_9 h fun σ lv st h =>
    so_callT E (n := 3) (idx := 45) (maxL := 3) (ret := (some .boolean)) h_X5_isWithin gX5_axis_X5_isWithin rfl ⟨rfl, rfl⟩ (by decide +kernel) (by decide) dX5_axis_11 h fun σ lv st h =>
    so_ifne E 21 (by decide) dX5_axis_14 (sb_X5_axis_21 E T h_X5_isAxis h_X5_isWithin h_X0_number) h fun σ lv st h =>
    (sb_X5_axis_17 E T h_X5_isAxis h_X5_isWithin h_X0_number) σ lv st h
theorem c_X5_axis (h_X5_isAxis : q_Ct yX5_isAxis wsX5_isAxis rm_X5_isAxis S_X5_isAxis) (h_X5_isWithin : q_Ct yX5_isWithin wsX5_isWithin rm_X5_isWithin S_X5_isWithin) (h_X0_number : q_Ct yX0_number wsX0_number rm_X0_number S_X0_number) : q_Ct yX5_axis wsX5_axis rm_X5_axis S_X5_axis := by
  refine q_met (cc := cX5_axis) (maxL := 3) (ret := (some .long)) (own := RX5) (by decide +kernel) rfl rfl (fun σ vs Qp h => ?_) (fun l J σ vs Qp E T h => ?_)
  · unfold S_X5_axis at h
    split at h
    · exact Nat.le_of_ble_eq_true rfl
    · exact h.elim
  · unfold S_X5_axis at h
    split at h
    · next c0 p0 k0 a w =>
      obtain ⟨rfl, rfl, rfl, h⟩ := h
      exact v_X5_axis (so_C E) (sb_X5_axis_0 E T h_X5_isAxis h_X5_isWithin h_X0_number) h
    · exact h.elim
theorem cc_X5_axis : q_Ct yX5_axis wsX5_axis rm_X5_axis S_X5_axis := c_X5_axis cc_X5_isAxis cc_X5_isWithin cc_X0_number

def rm_X5_span : Room := { frames := 3, cells := 0, slots := 0, locals := 71 }
theorem fi_X5_span_X5 : ∀ w ∈ u_ws RX5 TX5 5, w ∈ wsX5_span := fun w h => List.mem_cons_of_mem _ (List.mem_append_left _ (List.mem_append_left _ (List.mem_append_left _ (List.mem_append_right _ h))))
theorem fi_X5_span_X3 : ∀ w ∈ u_ws RX3 TX3 4, w ∈ wsX5_span := fun w h => List.mem_cons_of_mem _ (List.mem_append_left _ (List.mem_append_left _ (List.mem_append_right _ h)))
theorem fi_X5_span_X0 : ∀ w ∈ u_ws RX0 TX0 11, w ∈ wsX5_span := fun w h => List.mem_cons_of_mem _ (List.mem_append_left _ (List.mem_append_right _ h))
theorem fi_X5_span_X4 : ∀ w ∈ u_ws RX4 TX4 6, w ∈ wsX5_span := fun w h => List.mem_cons_of_mem _ (List.mem_append_right _ h)
set_option maxRecDepth 20000 in
theorem sb_X5_span_0 {J : Nat → q_K} {l : Launch} {Qp : Option q_V → q_M → Prop} (E : q_E J cX5_span RX5 wsX5_span 1 l rm_X5_span) (T : q_T J cX5_span (some .long) Qp) (h_X3_measure : q_Ct yX3_measure wsX3_measure rm_X3_measure S_X3_measure) : ∀ (σ : q_M) (lv : q_L) (st : q_S), k_X5_span_0 Qp J σ lv st → J 0 σ lv st := fun σ lv st h =>
    so_aload_n E (i := 0) rfl dX5_span_0 h fun σ lv st h =>
    so_get E (pp := 23) (fi := 2) (C := RX5) (T := TX5) (N := 5) (ref := "WheelDesk") ⟨rfl, rfl, rfl⟩ rfl fi_X5_span_X5 (by decide) rfl (List.mem_of_getElem? (i := 1) rfl) dX5_span_1 h fun σ lv st h =>
    so_aload_n E (i := 0) rfl dX5_span_4 h fun σ lv st h =>
    so_get E (pp := 23) (fi := 0) (C := RX5) (T := TX5) (N := 5) (ref := "WheelDesk") ⟨rfl, rfl, rfl⟩ rfl fi_X5_span_X5 (by decide) rfl (List.mem_of_getElem? (i := 2) rfl) dX5_span_5 h fun σ lv st h =>
    so_ldc E (x := -2000009) (idx := 126) (v := -2000009) (List.mem_of_getElem? (i := 3) rfl) rfl dX5_span_8 h fun σ lv st h =>
    so_callV E (n := 2) (pp := 12) (C := RX3) (T := TX3) (N := 4) (idx := 127) (maxL := 5) (ret := none) h_X3_measure ⟨rfl, rfl, rfl⟩ rfl gX5_span_X3_measure rfl ⟨rfl, rfl⟩ (by decide +kernel) (by decide) dX5_span_10 h fun σ lv st h =>
    so_aload_n E (i := 0) rfl dX5_span_13 h fun σ lv st h =>
    so_get E (pp := 23) (fi := 2) (C := RX5) (T := TX5) (N := 5) (ref := "WheelDesk") ⟨rfl, rfl, rfl⟩ rfl fi_X5_span_X5 (by decide) rfl (List.mem_of_getElem? (i := 1) rfl) dX5_span_14 h fun σ lv st h =>
    so_get E (pp := 12) (fi := 3) (C := RX3) (T := TX3) (N := 4) (ref := "WheelDesk$Sharing") ⟨rfl, rfl, rfl⟩ rfl fi_X5_span_X3 (by decide) rfl (List.mem_of_getElem? (i := 4) rfl) dX5_span_17 h fun σ lv st h =>
    so_lret T dX5_span_20 h
theorem c_X5_span (h_X3_measure : q_Ct yX3_measure wsX3_measure rm_X3_measure S_X3_measure) : q_Ct yX5_span wsX5_span rm_X5_span S_X5_span := by
  refine q_met (cc := cX5_span) (maxL := 1) (ret := (some .long)) (own := RX5) (by decide +kernel) rfl rfl (fun σ vs Qp h => ?_) (fun l J σ vs Qp E T h => ?_)
  · unfold S_X5_span at h
    split at h
    · exact Nat.le_of_ble_eq_true rfl
    · exact h.elim
  · unfold S_X5_span at h
    split at h
    · next c0 p0 k0 =>
      obtain ⟨rfl, rfl, rfl, h⟩ := h
      exact v_X5_span (so_C E) (sb_X5_span_0 E T h_X3_measure) h
    · exact h.elim
theorem cc_X5_span : q_Ct yX5_span wsX5_span rm_X5_span S_X5_span := c_X5_span cc_X3_measure

def rm_X5_isTorque : Room := { frames := 1, cells := 0, slots := 0, locals := 22 }
set_option maxRecDepth 20000 in
theorem sb_X5_isTorque_0 {J : Nat → q_K} {l : Launch} {Qp : Option q_V → q_M → Prop} (E : q_E J cX5_isTorque RX5 wsX5_isTorque 1 l rm_X5_isTorque) (T : q_T J cX5_isTorque (some .boolean) Qp) (h_X5_isWithin : q_Ct yX5_isWithin wsX5_isWithin rm_X5_isWithin S_X5_isWithin) : ∀ (σ : q_M) (lv : q_L) (st : q_S), k_X5_isTorque_0 Qp J σ lv st → J 0 σ lv st := fun σ lv st h =>
    so_iload_n E (i := 0) rfl dX5_isTorque_0 h fun σ lv st h =>
    so_ldc E (x := -100000) (idx := 110) (v := -100000) (List.mem_of_getElem? (i := 1) rfl) rfl dX5_isTorque_1 h fun σ lv st h =>
    so_ldc E (x := 100000) (idx := 48) (v := 100000) (List.mem_of_getElem? (i := 2) rfl) rfl dX5_isTorque_3 h fun σ lv st h =>
    so_callT E (n := 3) (idx := 45) (maxL := 3) (ret := (some .boolean)) h_X5_isWithin gX5_isTorque_X5_isWithin rfl ⟨rfl, rfl⟩ (by decide +kernel) (by decide) dX5_isTorque_5 h fun σ lv st h =>
    so_zret T dX5_isTorque_8 h
theorem c_X5_isTorque (h_X5_isWithin : q_Ct yX5_isWithin wsX5_isWithin rm_X5_isWithin S_X5_isWithin) : q_Ct yX5_isTorque wsX5_isTorque rm_X5_isTorque S_X5_isTorque := by
  refine q_met (cc := cX5_isTorque) (maxL := 1) (ret := (some .boolean)) (own := RX5) (by decide +kernel) rfl rfl (fun σ vs Qp h => ?_) (fun l J σ vs Qp E T h => ?_)
  · unfold S_X5_isTorque at h
    split at h
    · exact Nat.le_of_ble_eq_true rfl
    · exact h.elim
  · unfold S_X5_isTorque at h
    split at h
    · next v =>
      exact v_X5_isTorque (so_C E) (sb_X5_isTorque_0 E T h_X5_isWithin) h
    · exact h.elim
theorem cc_X5_isTorque : q_Ct yX5_isTorque wsX5_isTorque rm_X5_isTorque S_X5_isTorque := c_X5_isTorque cc_X5_isWithin

def rm_X5_wish : Room := { frames := 3, cells := 0, slots := 0, locals := 71 }
theorem fi_X5_wish_X5 : ∀ w ∈ u_ws RX5 TX5 5, w ∈ wsX5_wish := fun w h => List.mem_cons_of_mem _ (List.mem_append_left _ (List.mem_append_left _ (List.mem_append_left _ (List.mem_append_right _ h))))
theorem fi_X5_wish_X0 : ∀ w ∈ u_ws RX0 TX0 11, w ∈ wsX5_wish := fun w h => List.mem_cons_of_mem _ (List.mem_append_left _ (List.mem_append_left _ (List.mem_append_right _ h)))
theorem fi_X5_wish_X4 : ∀ w ∈ u_ws RX4 TX4 6, w ∈ wsX5_wish := fun w h => List.mem_cons_of_mem _ (List.mem_append_left _ (List.mem_append_right _ h))
theorem fi_X5_wish_X3 : ∀ w ∈ u_ws RX3 TX3 4, w ∈ wsX5_wish := fun w h => List.mem_cons_of_mem _ (List.mem_append_right _ h)
set_option maxRecDepth 20000 in
theorem sb_X5_wish_30 {J : Nat → q_K} {l : Launch} {Qp : Option q_V → q_M → Prop} (E : q_E J cX5_wish RX5 wsX5_wish 6 l rm_X5_wish) (T : q_T J cX5_wish (some .long) Qp) (h_X5_isWheel : q_Ct yX5_isWheel wsX5_isWheel rm_X5_isWheel S_X5_isWheel) (h_X5_isTorque : q_Ct yX5_isTorque wsX5_isTorque rm_X5_isTorque S_X5_isTorque) (h_X3_measure : q_Ct yX3_measure wsX3_measure rm_X3_measure S_X3_measure) (h_X3_spans : q_Ct yX3_spans wsX3_spans rm_X3_spans S_X3_spans) (h_X3_aim : q_Ct yX3_aim wsX3_aim rm_X3_aim S_X3_aim) (h_X3_wishOf : q_Ct yX3_wishOf wsX3_wishOf rm_X3_wishOf S_X3_wishOf) : ∀ (σ : q_M) (lv : q_L) (st : q_S), k_X5_wish_30 Qp J σ lv st → J 30 σ lv st := fun σ lv st h =>
    so_ldc2 E (x := -4611686018427387905) (idx := 111) (v := -4611686018427387905) (List.mem_of_getElem? (i := 1) rfl) rfl dX5_wish_30 h fun σ lv st h =>
    so_lret T dX5_wish_33 h
set_option maxRecDepth 20000 in
theorem sb_X5_wish_76 {J : Nat → q_K} {l : Launch} {Qp : Option q_V → q_M → Prop} (E : q_E J cX5_wish RX5 wsX5_wish 6 l rm_X5_wish) (T : q_T J cX5_wish (some .long) Qp) (h_X5_isWheel : q_Ct yX5_isWheel wsX5_isWheel rm_X5_isWheel S_X5_isWheel) (h_X5_isTorque : q_Ct yX5_isTorque wsX5_isTorque rm_X5_isTorque S_X5_isTorque) (h_X3_measure : q_Ct yX3_measure wsX3_measure rm_X3_measure S_X3_measure) (h_X3_spans : q_Ct yX3_spans wsX3_spans rm_X3_spans S_X3_spans) (h_X3_aim : q_Ct yX3_aim wsX3_aim rm_X3_aim S_X3_aim) (h_X3_wishOf : q_Ct yX3_wishOf wsX3_wishOf rm_X3_wishOf S_X3_wishOf) : ∀ (σ : q_M) (lv : q_L) (st : q_S), k_X5_wish_76 Qp J σ lv st → J 76 σ lv st := fun σ lv st h =>
    so_ldc2 E (x := -4611686018427387905) (idx := 111) (v := -4611686018427387905) (List.mem_of_getElem? (i := 1) rfl) rfl dX5_wish_76 h fun σ lv st h =>
    so_lret T dX5_wish_79 h
set_option maxRecDepth 20000 in
theorem sb_X5_wish_80 {J : Nat → q_K} {l : Launch} {Qp : Option q_V → q_M → Prop} (E : q_E J cX5_wish RX5 wsX5_wish 6 l rm_X5_wish) (T : q_T J cX5_wish (some .long) Qp) (h_X5_isWheel : q_Ct yX5_isWheel wsX5_isWheel rm_X5_isWheel S_X5_isWheel) (h_X5_isTorque : q_Ct yX5_isTorque wsX5_isTorque rm_X5_isTorque S_X5_isTorque) (h_X3_measure : q_Ct yX3_measure wsX3_measure rm_X3_measure S_X3_measure) (h_X3_spans : q_Ct yX3_spans wsX3_spans rm_X3_spans S_X3_spans) (h_X3_aim : q_Ct yX3_aim wsX3_aim rm_X3_aim S_X3_aim) (h_X3_wishOf : q_Ct yX3_wishOf wsX3_wishOf rm_X3_wishOf S_X3_wishOf) : ∀ (σ : q_M) (lv : q_L) (st : q_S), k_X5_wish_80 Qp J σ lv st → J 80 σ lv st := fun σ lv st h =>
    so_aload_n E (i := 0) rfl dX5_wish_80 h fun σ lv st h =>
    so_get E (pp := 23) (fi := 2) (C := RX5) (T := TX5) (N := 5) (ref := "WheelDesk") ⟨rfl, rfl, rfl⟩ rfl fi_X5_wish_X5 (by decide) rfl (List.mem_of_getElem? (i := 4) rfl) dX5_wish_81 h fun σ lv st h =>
    so_iload_n E (i := 2) rfl dX5_wish_84 h fun σ lv st h =>
    so_i2l E dX5_wish_85 h fun σ lv st h =>
    so_iload_n E (i := 3) rfl dX5_wish_86 h fun σ lv st h =>
    so_i2l E dX5_wish_87 h fun σ lv st h =>
    so_iload E (i := 4) dX5_wish_88 h fun σ lv st h =>
    so_i2l E dX5_wish_90 h fun σ lv st h =>
    so_callV E (n := 3) (pp := 12) (C := RX3) (T := TX3) (N := 4) (idx := 151) (maxL := 8) (ret := none) h_X3_aim ⟨rfl, rfl, rfl⟩ rfl gX5_wish_X3_aim rfl ⟨rfl, rfl⟩ (by decide +kernel) (by decide) dX5_wish_91 h fun σ lv st h =>
    so_aload_n E (i := 0) rfl dX5_wish_94 h fun σ lv st h =>
    so_get E (pp := 23) (fi := 2) (C := RX5) (T := TX5) (N := 5) (ref := "WheelDesk") ⟨rfl, rfl, rfl⟩ rfl fi_X5_wish_X5 (by decide) rfl (List.mem_of_getElem? (i := 4) rfl) dX5_wish_95 h fun σ lv st h =>
    so_aload E (i := 5) dX5_wish_98 h fun σ lv st h =>
    so_callV E (n := 1) (pp := 12) (C := RX3) (T := TX3) (N := 4) (idx := 155) (maxL := 5) (ret := (some .long)) h_X3_wishOf ⟨rfl, rfl, rfl⟩ rfl gX5_wish_X3_wishOf rfl ⟨rfl, rfl⟩ (by decide +kernel) (by decide) dX5_wish_100 h fun σ lv st h =>
    so_lret T dX5_wish_103 h
set_option maxRecDepth 20000 in
theorem sb_X5_wish_34 {J : Nat → q_K} {l : Launch} {Qp : Option q_V → q_M → Prop} (E : q_E J cX5_wish RX5 wsX5_wish 6 l rm_X5_wish) (T : q_T J cX5_wish (some .long) Qp) (h_X5_isWheel : q_Ct yX5_isWheel wsX5_isWheel rm_X5_isWheel S_X5_isWheel) (h_X5_isTorque : q_Ct yX5_isTorque wsX5_isTorque rm_X5_isTorque S_X5_isTorque) (h_X3_measure : q_Ct yX3_measure wsX3_measure rm_X3_measure S_X3_measure) (h_X3_spans : q_Ct yX3_spans wsX3_spans rm_X3_spans S_X3_spans) (h_X3_aim : q_Ct yX3_aim wsX3_aim rm_X3_aim S_X3_aim) (h_X3_wishOf : q_Ct yX3_wishOf wsX3_wishOf rm_X3_wishOf S_X3_wishOf) : ∀ (σ : q_M) (lv : q_L) (st : q_S), k_X5_wish_34 Qp J σ lv st → J 34 σ lv st := fun σ lv st h =>
    so_aload_n E (i := 0) rfl dX5_wish_34 h fun σ lv st h =>
    so_get E (pp := 23) (fi := 0) (C := RX5) (T := TX5) (N := 5) (ref := "WheelDesk") ⟨rfl, rfl, rfl⟩ rfl fi_X5_wish_X5 (by decide) rfl (List.mem_of_getElem? (i := 2) rfl) dX5_wish_35 h fun σ lv st h =>
    so_get E (pp := 0) (fi := 7) (C := RX0) (T := TX0) (N := 11) (ref := "WheelDesk$Craft") ⟨rfl, rfl, rfl⟩ rfl fi_X5_wish_X0 (by decide) rfl (List.mem_of_getElem? (i := 3) rfl) dX5_wish_38 h fun σ lv st h =>
    so_iload_n E (i := 1) rfl dX5_wish_41 h fun σ lv st h =>
    so_aald E dX5_wish_42 h fun σ lv st h =>
    so_astore E (i := 5) (by decide) dX5_wish_43 h fun σ lv st h =>
    so_aload_n E (i := 0) rfl dX5_wish_45 h fun σ lv st h =>
    so_get E (pp := 23) (fi := 2) (C := RX5) (T := TX5) (N := 5) (ref := "WheelDesk") ⟨rfl, rfl, rfl⟩ rfl fi_X5_wish_X5 (by decide) rfl (List.mem_of_getElem? (i := 4) rfl) dX5_wish_46 h fun σ lv st h =>
    so_aload_n E (i := 0) rfl dX5_wish_49 h fun σ lv st h =>
    so_get E (pp := 23) (fi := 0) (C := RX5) (T := TX5) (N := 5) (ref := "WheelDesk") ⟨rfl, rfl, rfl⟩ rfl fi_X5_wish_X5 (by decide) rfl (List.mem_of_getElem? (i := 2) rfl) dX5_wish_50 h fun σ lv st h =>
    so_ldc E (x := -2000009) (idx := 126) (v := -2000009) (List.mem_of_getElem? (i := 5) rfl) rfl dX5_wish_53 h fun σ lv st h =>
    so_callV E (n := 2) (pp := 12) (C := RX3) (T := TX3) (N := 4) (idx := 127) (maxL := 5) (ret := none) h_X3_measure ⟨rfl, rfl, rfl⟩ rfl gX5_wish_X3_measure rfl ⟨rfl, rfl⟩ (by decide +kernel) (by decide) dX5_wish_55 h fun σ lv st h =>
    so_aload E (i := 5) dX5_wish_58 h fun σ lv st h =>
    so_get E (pp := 10) (fi := 4) (C := RX4) (T := TX4) (N := 6) (ref := "WheelDesk$Wheel") ⟨rfl, rfl, rfl⟩ rfl fi_X5_wish_X4 (by decide) rfl (List.mem_of_getElem? (i := 6) rfl) dX5_wish_60 h fun σ lv st h =>
    so_ifne E 76 (by decide) dX5_wish_63 (sb_X5_wish_76 E T h_X5_isWheel h_X5_isTorque h_X3_measure h_X3_spans h_X3_aim h_X3_wishOf) h fun σ lv st h =>
    so_aload_n E (i := 0) rfl dX5_wish_66 h fun σ lv st h =>
    so_get E (pp := 23) (fi := 2) (C := RX5) (T := TX5) (N := 5) (ref := "WheelDesk") ⟨rfl, rfl, rfl⟩ rfl fi_X5_wish_X5 (by decide) rfl (List.mem_of_getElem? (i := 4) rfl) dX5_wish_67 h fun σ lv st h =>
    so_callV E (n := 0) (pp := 12) (C := RX3) (T := TX3) (N := 4) (idx := 148) (maxL := 1) (ret := (some .boolean)) h_X3_spans ⟨rfl, rfl, rfl⟩ rfl gX5_wish_X3_spans rfl ⟨rfl, rfl⟩ (by decide +kernel) (by decide) dX5_wish_70 h fun σ lv st h =>
    so_ifne E 80 (by decide) dX5_wish_73 (sb_X5_wish_80 E T h_X5_isWheel h_X5_isTorque h_X3_measure h_X3_spans h_X3_aim h_X3_wishOf) h fun σ lv st h =>
    (sb_X5_wish_76 E T h_X5_isWheel h_X5_isTorque h_X3_measure h_X3_spans h_X3_aim h_X3_wishOf) σ lv st h
set_option maxRecDepth 20000 in
theorem sb_X5_wish_0 {J : Nat → q_K} {l : Launch} {Qp : Option q_V → q_M → Prop} (E : q_E J cX5_wish RX5 wsX5_wish 6 l rm_X5_wish) (T : q_T J cX5_wish (some .long) Qp) (h_X5_isWheel : q_Ct yX5_isWheel wsX5_isWheel rm_X5_isWheel S_X5_isWheel) (h_X5_isTorque : q_Ct yX5_isTorque wsX5_isTorque rm_X5_isTorque S_X5_isTorque) (h_X3_measure : q_Ct yX3_measure wsX3_measure rm_X3_measure S_X3_measure) (h_X3_spans : q_Ct yX3_spans wsX3_spans rm_X3_spans S_X3_spans) (h_X3_aim : q_Ct yX3_aim wsX3_aim rm_X3_aim S_X3_aim) (h_X3_wishOf : q_Ct yX3_wishOf wsX3_wishOf rm_X3_wishOf S_X3_wishOf) : ∀ (σ : q_M) (lv : q_L) (st : q_S), k_X5_wish_0 Qp J σ lv st → J 0 σ lv st := fun σ lv st h =>
    so_aload_n E (i := 0) rfl dX5_wish_0 h fun σ lv st h =>
    so_iload_n E (i := 1) rfl dX5_wish_1 h fun σ lv st h =>
    so_callV E (n := 1) (pp := 23) (C := RX5) (T := TX5) (N := 5) (idx := 69) (maxL := 2) (ret := (some .boolean)) h_X5_isWheel ⟨rfl, rfl, rfl⟩ rfl gX5_wish_X5_isWheel rfl ⟨rfl, rfl⟩ (by decide +kernel) (by decide) dX5_wish_2 h fun σ lv st h =>
    so_ifeq E 30 (by decide) dX5_wish_5 (sb_X5_wish_30 E T h_X5_isWheel h_X5_isTorque h_X3_measure h_X3_spans h_X3_aim h_X3_wishOf) h fun σ lv st h =>
    so_iload_n E (i := 2) rfl dX5_wish_8 h fun σ lv st h =>
    so_callT E (n := 1) (idx := 145) (maxL := 1) (ret := (some .boolean)) h_X5_isTorque gX5_wish_X5_isTorque rfl ⟨rfl, rfl⟩ (by decide +kernel) (by decide) dX5_wish_9 h fun σ lv st h =>
    so_ifeq E 30 (by decide) dX5_wish_12 (sb_X5_wish_30 E T h_X5_isWheel h_X5_isTorque h_X3_measure h_X3_spans h_X3_aim h_X3_wishOf) h fun σ lv st h =>
    so_iload_n E (i := 3) rfl dX5_wish_15 h fun σ lv st h =>
    so_callT E (n := 1) (idx := 145) (maxL := 1) (ret := (some .boolean)) h_X5_isTorque gX5_wish_X5_isTorque rfl ⟨rfl, rfl⟩ (by decide +kernel) (by decide) dX5_wish_16 h fun σ lv st h =>
    so_ifeq E 30 (by decide) dX5_wish_19 (sb_X5_wish_30 E T h_X5_isWheel h_X5_isTorque h_X3_measure h_X3_spans h_X3_aim h_X3_wishOf) h fun σ lv st h =>
    so_iload E (i := 4) dX5_wish_22 h fun σ lv st h =>
    so_callT E (n := 1) (idx := 145) (maxL := 1) (ret := (some .boolean)) h_X5_isTorque gX5_wish_X5_isTorque rfl ⟨rfl, rfl⟩ (by decide +kernel) (by decide) dX5_wish_24 h fun σ lv st h =>
    so_ifne E 34 (by decide) dX5_wish_27 (sb_X5_wish_34 E T h_X5_isWheel h_X5_isTorque h_X3_measure h_X3_spans h_X3_aim h_X3_wishOf) h fun σ lv st h =>
    (sb_X5_wish_30 E T h_X5_isWheel h_X5_isTorque h_X3_measure h_X3_spans h_X3_aim h_X3_wishOf) σ lv st h
theorem c_X5_wish (h_X5_isWheel : q_Ct yX5_isWheel wsX5_isWheel rm_X5_isWheel S_X5_isWheel) (h_X5_isTorque : q_Ct yX5_isTorque wsX5_isTorque rm_X5_isTorque S_X5_isTorque) (h_X3_measure : q_Ct yX3_measure wsX3_measure rm_X3_measure S_X3_measure) (h_X3_spans : q_Ct yX3_spans wsX3_spans rm_X3_spans S_X3_spans) (h_X3_aim : q_Ct yX3_aim wsX3_aim rm_X3_aim S_X3_aim) (h_X3_wishOf : q_Ct yX3_wishOf wsX3_wishOf rm_X3_wishOf S_X3_wishOf) : q_Ct yX5_wish wsX5_wish rm_X5_wish S_X5_wish := by
  refine q_met (cc := cX5_wish) (maxL := 6) (ret := (some .long)) (own := RX5) (by decide +kernel) rfl rfl (fun σ vs Qp h => ?_) (fun l J σ vs Qp E T h => ?_)
  · unfold S_X5_wish at h
    split at h
    · exact Nat.le_of_ble_eq_true rfl
    · exact h.elim
  · unfold S_X5_wish at h
    split at h
    · next c0 p0 k0 k t0 t1 t2 =>
      obtain ⟨rfl, rfl, rfl, h⟩ := h
      exact v_X5_wish (so_C E) (sb_X5_wish_0 E T h_X5_isWheel h_X5_isTorque h_X3_measure h_X3_spans h_X3_aim h_X3_wishOf) h
    · exact h.elim
theorem cc_X5_wish : q_Ct yX5_wish wsX5_wish rm_X5_wish S_X5_wish := c_X5_wish cc_X5_isWheel cc_X5_isTorque cc_X3_measure cc_X3_spans cc_X3_aim cc_X3_wishOf

def rm_X5_why : Room := { frames := 0, cells := 0, slots := 0, locals := 0 }
theorem fi_X5_why_X5 : ∀ w ∈ u_ws RX5 TX5 5, w ∈ wsX5_why := fun w h => List.mem_cons_of_mem _ (List.mem_append_left _ (List.mem_append_right _ h))
theorem fi_X5_why_X0 : ∀ w ∈ u_ws RX0 TX0 11, w ∈ wsX5_why := fun w h => List.mem_cons_of_mem _ (List.mem_append_right _ h)
set_option maxRecDepth 20000 in
theorem sb_X5_why_32 {J : Nat → q_K} {l : Launch} {Qp : Option q_V → q_M → Prop} (E : q_E J cX5_why RX5 wsX5_why 2 l rm_X5_why) (T : q_T J cX5_why (some .int) Qp) : ∀ (σ : q_M) (lv : q_L) (st : q_S), k_X5_why_32 Qp J σ lv st → J 32 σ lv st := fun σ lv st h =>
    so_iret T dX5_why_32 h
set_option maxRecDepth 20000 in
theorem sb_X5_why_30 {J : Nat → q_K} {l : Launch} {Qp : Option q_V → q_M → Prop} (E : q_E J cX5_why RX5 wsX5_why 2 l rm_X5_why) (T : q_T J cX5_why (some .int) Qp) : ∀ (σ : q_M) (lv : q_L) (st : q_S), k_X5_why_30 Qp J σ lv st → J 30 σ lv st := fun σ lv st h =>
    so_ldc E (x := -2000009) (idx := 126) (v := -2000009) (List.mem_of_getElem? (i := 5) rfl) rfl dX5_why_30 h fun σ lv st h =>
    (sb_X5_why_32 E T) σ lv st h
set_option maxRecDepth 20000 in
theorem sb_X5_why_7 {J : Nat → q_K} {l : Launch} {Qp : Option q_V → q_M → Prop} (E : q_E J cX5_why RX5 wsX5_why 2 l rm_X5_why) (T : q_T J cX5_why (some .int) Qp) : ∀ (σ : q_M) (lv : q_L) (st : q_S), k_X5_why_7 Qp J σ lv st → J 7 σ lv st := fun σ lv st h =>
    so_iload_n E (i := 1) rfl dX5_why_7 h fun σ lv st h =>
    so_aload_n E (i := 0) rfl dX5_why_8 h fun σ lv st h =>
    so_get E (pp := 23) (fi := 0) (C := RX5) (T := TX5) (N := 5) (ref := "WheelDesk") ⟨rfl, rfl, rfl⟩ rfl fi_X5_why_X5 (by decide) rfl (List.mem_of_getElem? (i := 2) rfl) dX5_why_9 h fun σ lv st h =>
    so_get E (pp := 0) (fi := 10) (C := RX0) (T := TX0) (N := 11) (ref := "WheelDesk$Craft") ⟨rfl, rfl, rfl⟩ rfl fi_X5_why_X0 (by decide) rfl (List.mem_of_getElem? (i := 3) rfl) dX5_why_12 h fun σ lv st h =>
    so_icmpge E 30 (by decide) dX5_why_15 (sb_X5_why_30 E T) h fun σ lv st h =>
    so_aload_n E (i := 0) rfl dX5_why_18 h fun σ lv st h =>
    so_get E (pp := 23) (fi := 0) (C := RX5) (T := TX5) (N := 5) (ref := "WheelDesk") ⟨rfl, rfl, rfl⟩ rfl fi_X5_why_X5 (by decide) rfl (List.mem_of_getElem? (i := 2) rfl) dX5_why_19 h fun σ lv st h =>
    so_get E (pp := 0) (fi := 9) (C := RX0) (T := TX0) (N := 11) (ref := "WheelDesk$Craft") ⟨rfl, rfl, rfl⟩ rfl fi_X5_why_X0 (by decide) rfl (List.mem_of_getElem? (i := 4) rfl) dX5_why_22 h fun σ lv st h =>
    so_iload_n E (i := 1) rfl dX5_why_25 h fun σ lv st h =>
    so_iald E dX5_why_26 h fun σ lv st h =>
    so_goto E 32 (by decide) dX5_why_27 (sb_X5_why_32 E T) h
set_option maxRecDepth 20000 in
theorem sb_X5_why_0 {J : Nat → q_K} {l : Launch} {Qp : Option q_V → q_M → Prop} (E : q_E J cX5_why RX5 wsX5_why 2 l rm_X5_why) (T : q_T J cX5_why (some .int) Qp) : ∀ (σ : q_M) (lv : q_L) (st : q_S), k_X5_why_0 Qp J σ lv st → J 0 σ lv st := fun σ lv st h =>
    so_iload_n E (i := 1) rfl dX5_why_0 h fun σ lv st h =>
    so_ifge E 7 (by decide) dX5_why_1 (sb_X5_why_7 E T) h fun σ lv st h =>
    so_ldc E (x := -2000001) (idx := 49) (v := -2000001) (List.mem_of_getElem? (i := 1) rfl) rfl dX5_why_4 h fun σ lv st h =>
    so_iret T dX5_why_6 h
theorem c_X5_why : q_Ct yX5_why wsX5_why rm_X5_why S_X5_why := by
  refine q_met (cc := cX5_why) (maxL := 2) (ret := (some .int)) (own := RX5) (by decide +kernel) rfl rfl (fun σ vs Qp h => ?_) (fun l J σ vs Qp E T h => ?_)
  · unfold S_X5_why at h
    split at h
    · exact Nat.le_of_ble_eq_true rfl
    · exact h.elim
  · unfold S_X5_why at h
    split at h
    · next c0 p0 k0 d =>
      obtain ⟨rfl, rfl, rfl, h⟩ := h
      exact v_X5_why (so_C E) (sb_X5_why_0 E T) h
    · exact h.elim
theorem cc_X5_why : q_Ct yX5_why wsX5_why rm_X5_why S_X5_why := c_X5_why

def rm_X4_fullPart : Room := { frames := 1, cells := 0, slots := 0, locals := 21 }
theorem fi_X4_fullPart_X4 : ∀ w ∈ u_ws RX4 TX4 6, w ∈ wsX4_fullPart := fun w h => List.mem_cons_of_mem _ (List.mem_append_right _ h)
set_option maxRecDepth 20000 in
theorem sb_X4_fullPart_16 {J : Nat → q_K} {l : Launch} {Qp : Option q_V → q_M → Prop} (E : q_E J cX4_fullPart RX4 wsX4_fullPart 2 l rm_X4_fullPart) (T : q_T J cX4_fullPart (some .float) Qp) : ∀ (σ : q_M) (lv : q_L) (st : q_S), k_X4_fullPart_16 Qp J σ lv st → J 16 σ lv st := fun σ lv st h =>
    so_fstore_n E (i := 1) rfl (by decide) dX4_fullPart_16 h fun σ lv st h =>
    so_aload_n E (i := 0) rfl dX4_fullPart_17 h fun σ lv st h =>
    so_get E (pp := 10) (fi := 1) (C := RX4) (T := TX4) (N := 6) (ref := "WheelDesk$Wheel") ⟨rfl, rfl, rfl⟩ rfl fi_X4_fullPart_X4 (by decide) rfl (List.mem_of_getElem? (i := 2) rfl) dX4_fullPart_18 h fun σ lv st h =>
    so_mabs E (idx := 51) (List.mem_of_getElem? (i := 3) rfl) (List.mem_of_getElem? (i := 4) rfl) (List.mem_of_getElem? (i := 5) rfl) (List.mem_of_getElem? (i := 6) rfl) (by decide) (by decide) dX4_fullPart_21 h fun σ lv st h =>
    so_i2f E dX4_fullPart_24 h fun σ lv st h =>
    so_fload_n E (i := 1) rfl dX4_fullPart_25 h fun σ lv st h =>
    so_fdiv E dX4_fullPart_26 h fun σ lv st h =>
    so_fret T dX4_fullPart_27 h
set_option maxRecDepth 20000 in
theorem sb_X4_fullPart_15 {J : Nat → q_K} {l : Launch} {Qp : Option q_V → q_M → Prop} (E : q_E J cX4_fullPart RX4 wsX4_fullPart 2 l rm_X4_fullPart) (T : q_T J cX4_fullPart (some .float) Qp) : ∀ (σ : q_M) (lv : q_L) (st : q_S), k_X4_fullPart_15 Qp J σ lv st → J 15 σ lv st := fun σ lv st h =>
    so_fconst1 E dX4_fullPart_15 h fun σ lv st h =>
    (sb_X4_fullPart_16 E T) σ lv st h
set_option maxRecDepth 20000 in
theorem sb_X4_fullPart_0 {J : Nat → q_K} {l : Launch} {Qp : Option q_V → q_M → Prop} (E : q_E J cX4_fullPart RX4 wsX4_fullPart 2 l rm_X4_fullPart) (T : q_T J cX4_fullPart (some .float) Qp) : ∀ (σ : q_M) (lv : q_L) (st : q_S), k_X4_fullPart_0 Qp J σ lv st → J 0 σ lv st := fun σ lv st h =>
    so_aload_n E (i := 0) rfl dX4_fullPart_0 h fun σ lv st h =>
    so_get E (pp := 10) (fi := 2) (C := RX4) (T := TX4) (N := 6) (ref := "WheelDesk$Wheel") ⟨rfl, rfl, rfl⟩ rfl fi_X4_fullPart_X4 (by decide) rfl (List.mem_of_getElem? (i := 1) rfl) dX4_fullPart_1 h fun σ lv st h =>
    so_ifle E 15 (by decide) dX4_fullPart_4 (sb_X4_fullPart_15 E T) h fun σ lv st h =>
    so_aload_n E (i := 0) rfl dX4_fullPart_7 h fun σ lv st h =>
    so_get E (pp := 10) (fi := 2) (C := RX4) (T := TX4) (N := 6) (ref := "WheelDesk$Wheel") ⟨rfl, rfl, rfl⟩ rfl fi_X4_fullPart_X4 (by decide) rfl (List.mem_of_getElem? (i := 1) rfl) dX4_fullPart_8 h fun σ lv st h =>
    so_i2f E dX4_fullPart_11 h fun σ lv st h =>
    so_goto E 16 (by decide) dX4_fullPart_12 (sb_X4_fullPart_16 E T) h
theorem c_X4_fullPart : q_Ct yX4_fullPart wsX4_fullPart rm_X4_fullPart S_X4_fullPart := by
  refine q_met (cc := cX4_fullPart) (maxL := 2) (ret := (some .float)) (own := RX4) (by decide +kernel) rfl rfl (fun σ vs Qp h => ?_) (fun l J σ vs Qp E T h => ?_)
  · unfold S_X4_fullPart at h
    split at h
    · exact Nat.le_of_ble_eq_true rfl
    · exact h.elim
  · unfold S_X4_fullPart at h
    split at h
    · next c p0 k =>
      obtain ⟨rfl, h⟩ := h
      exact v_X4_fullPart (so_C E) (sb_X4_fullPart_0 E T) h
    · exact h.elim
theorem cc_X4_fullPart : q_Ct yX4_fullPart wsX4_fullPart rm_X4_fullPart S_X4_fullPart := c_X4_fullPart

def rm_X5_fullness : Room := { frames := 2, cells := 0, slots := 0, locals := 42 }
theorem fi_X5_fullness_X5 : ∀ w ∈ u_ws RX5 TX5 5, w ∈ wsX5_fullness := fun w h => List.mem_cons_of_mem _ (List.mem_append_left _ (List.mem_append_left _ (List.mem_append_right _ h)))
theorem fi_X5_fullness_X0 : ∀ w ∈ u_ws RX0 TX0 11, w ∈ wsX5_fullness := fun w h => List.mem_cons_of_mem _ (List.mem_append_left _ (List.mem_append_right _ h))
theorem fi_X5_fullness_X4 : ∀ w ∈ u_ws RX4 TX4 6, w ∈ wsX5_fullness := fun w h => List.mem_cons_of_mem _ (List.mem_append_right _ h)
set_option maxRecDepth 20000 in
theorem sb_X5_fullness_0 {J : Nat → q_K} {l : Launch} {Qp : Option q_V → q_M → Prop} (E : q_E J cX5_fullness RX5 wsX5_fullness 4 l rm_X5_fullness) (T : q_T J cX5_fullness (some .float) Qp) (h_X4_fullPart : q_Ct yX4_fullPart wsX4_fullPart rm_X4_fullPart S_X4_fullPart) : ∀ (σ : q_M) (lv : q_L) (st : q_S), k_X5_fullness_0 Qp J σ lv st → J 0 σ lv st := fun σ lv st h =>
    so_fconst0 E dX5_fullness_0 h fun σ lv st h =>
    so_fstore_n E (i := 1) rfl (by decide) dX5_fullness_1 h fun σ lv st h =>
    so_iconst E (x := 0) dX5_fullness_2 h fun σ lv st h =>
    so_istore_n E (i := 2) rfl (by decide) dX5_fullness_3 h fun σ lv st h =>
    h
set_option maxRecDepth 20000 in
theorem sb_X5_fullness_46 {J : Nat → q_K} {l : Launch} {Qp : Option q_V → q_M → Prop} (E : q_E J cX5_fullness RX5 wsX5_fullness 4 l rm_X5_fullness) (T : q_T J cX5_fullness (some .float) Qp) (h_X4_fullPart : q_Ct yX4_fullPart wsX4_fullPart rm_X4_fullPart S_X4_fullPart) : ∀ (σ : q_M) (lv : q_L) (st : q_S), k_X5_fullness_46 Qp J σ lv st → J 46 σ lv st := fun σ lv st h =>
    so_fload_n E (i := 1) rfl dX5_fullness_46 h fun σ lv st h =>
    so_fret T dX5_fullness_47 h
set_option maxRecDepth 20000 in
theorem sb_X5_fullness_39 {J : Nat → q_K} {l : Launch} {Qp : Option q_V → q_M → Prop} (E : q_E J cX5_fullness RX5 wsX5_fullness 4 l rm_X5_fullness) (T : q_T J cX5_fullness (some .float) Qp) (h_X4_fullPart : q_Ct yX4_fullPart wsX4_fullPart rm_X4_fullPart S_X4_fullPart) : ∀ (σ : q_M) (lv : q_L) (st : q_S), k_X5_fullness_39 Qp J σ lv st → J 39 σ lv st := fun σ lv st h =>
    so_fstore_n E (i := 1) rfl (by decide) dX5_fullness_39 h fun σ lv st h =>
    so_iinc E (i := 2) (n := 1) (by decide) dX5_fullness_40 h fun σ lv st h =>
    so_goto E 4 (by decide) dX5_fullness_43 (fun _ _ _ h => h) h
set_option maxRecDepth 20000 in
theorem sb_X5_fullness_38 {J : Nat → q_K} {l : Launch} {Qp : Option q_V → q_M → Prop} (E : q_E J cX5_fullness RX5 wsX5_fullness 4 l rm_X5_fullness) (T : q_T J cX5_fullness (some .float) Qp) (h_X4_fullPart : q_Ct yX4_fullPart wsX4_fullPart rm_X4_fullPart S_X4_fullPart) : ∀ (σ : q_M) (lv : q_L) (st : q_S), k_X5_fullness_38 Qp J σ lv st → J 38 σ lv st := fun σ lv st h =>
    so_fload_n E (i := 1) rfl dX5_fullness_38 h fun σ lv st h =>
    (sb_X5_fullness_39 E T h_X4_fullPart) σ lv st h
set_option maxRecDepth 20000 in
theorem sb_X5_fullness_4 {J : Nat → q_K} {l : Launch} {Qp : Option q_V → q_M → Prop} (E : q_E J cX5_fullness RX5 wsX5_fullness 4 l rm_X5_fullness) (T : q_T J cX5_fullness (some .float) Qp) (h_X4_fullPart : q_Ct yX4_fullPart wsX4_fullPart rm_X4_fullPart S_X4_fullPart) : ∀ (σ : q_M) (lv : q_L) (st : q_S), k_X5_fullness_4 Qp J σ lv st → J 4 σ lv st := fun σ lv st h =>
    so_iload_n E (i := 2) rfl dX5_fullness_4 h fun σ lv st h =>
    so_aload_n E (i := 0) rfl dX5_fullness_5 h fun σ lv st h =>
    so_get E (pp := 23) (fi := 0) (C := RX5) (T := TX5) (N := 5) (ref := "WheelDesk") ⟨rfl, rfl, rfl⟩ rfl fi_X5_fullness_X5 (by decide) rfl (List.mem_of_getElem? (i := 1) rfl) dX5_fullness_6 h fun σ lv st h =>
    so_get E (pp := 0) (fi := 8) (C := RX0) (T := TX0) (N := 11) (ref := "WheelDesk$Craft") ⟨rfl, rfl, rfl⟩ rfl fi_X5_fullness_X0 (by decide) rfl (List.mem_of_getElem? (i := 2) rfl) dX5_fullness_9 h fun σ lv st h =>
    so_icmpge E 46 (by decide) dX5_fullness_12 (sb_X5_fullness_46 E T h_X4_fullPart) h fun σ lv st h =>
    so_aload_n E (i := 0) rfl dX5_fullness_15 h fun σ lv st h =>
    so_get E (pp := 23) (fi := 0) (C := RX5) (T := TX5) (N := 5) (ref := "WheelDesk") ⟨rfl, rfl, rfl⟩ rfl fi_X5_fullness_X5 (by decide) rfl (List.mem_of_getElem? (i := 1) rfl) dX5_fullness_16 h fun σ lv st h =>
    so_get E (pp := 0) (fi := 7) (C := RX0) (T := TX0) (N := 11) (ref := "WheelDesk$Craft") ⟨rfl, rfl, rfl⟩ rfl fi_X5_fullness_X0 (by decide) rfl (List.mem_of_getElem? (i := 3) rfl) dX5_fullness_19 h fun σ lv st h =>
    so_iload_n E (i := 2) rfl dX5_fullness_22 h fun σ lv st h =>
    so_aald E dX5_fullness_23 h fun σ lv st h =>
    so_callV E (n := 0) (pp := 10) (C := RX4) (T := TX4) (N := 6) (idx := 165) (maxL := 2) (ret := (some .float)) h_X4_fullPart ⟨rfl, rfl, rfl⟩ rfl gX5_fullness_X4_fullPart rfl ⟨rfl, rfl⟩ (by decide +kernel) (by decide) dX5_fullness_24 h fun σ lv st h =>
    so_fstore_n E (i := 3) rfl (by decide) dX5_fullness_27 h fun σ lv st h =>
    so_fload_n E (i := 3) rfl dX5_fullness_28 h fun σ lv st h =>
    so_fload_n E (i := 1) rfl dX5_fullness_29 h fun σ lv st h =>
    so_fcmpl E dX5_fullness_30 h fun σ lv st h =>
    so_ifle E 38 (by decide) dX5_fullness_31 (sb_X5_fullness_38 E T h_X4_fullPart) h fun σ lv st h =>
    so_fload_n E (i := 3) rfl dX5_fullness_34 h fun σ lv st h =>
    so_goto E 39 (by decide) dX5_fullness_35 (sb_X5_fullness_39 E T h_X4_fullPart) h
theorem c_X5_fullness (h_X4_fullPart : q_Ct yX4_fullPart wsX4_fullPart rm_X4_fullPart S_X4_fullPart) : q_Ct yX5_fullness wsX5_fullness rm_X5_fullness S_X5_fullness := by
  refine q_met (cc := cX5_fullness) (maxL := 4) (ret := (some .float)) (own := RX5) (by decide +kernel) rfl rfl (fun σ vs Qp h => ?_) (fun l J σ vs Qp E T h => ?_)
  · unfold S_X5_fullness at h
    split at h
    · exact Nat.le_of_ble_eq_true rfl
    · exact h.elim
  · unfold S_X5_fullness at h
    split at h
    · next c0 p0 k0 =>
      obtain ⟨rfl, rfl, rfl, h⟩ := h
      exact v_X5_fullness (so_C E) (sb_X5_fullness_0 E T h_X4_fullPart) (sb_X5_fullness_4 E T h_X4_fullPart) h
    · exact h.elim
theorem cc_X5_fullness : q_Ct yX5_fullness wsX5_fullness rm_X5_fullness S_X5_fullness := c_X5_fullness cc_X4_fullPart

def rm_X0_aside : Room := { frames := 1, cells := 0, slots := 0, locals := 21 }
theorem fi_X0_aside_X0 : ∀ w ∈ u_ws RX0 TX0 11, w ∈ wsX0_aside := fun w h => List.mem_cons_of_mem _ (List.mem_append_right _ h)
set_option maxRecDepth 20000 in
theorem sb_X0_aside_0 {J : Nat → q_K} {l : Launch} {Qp : Option q_V → q_M → Prop} (E : q_E J cX0_aside RX0 wsX0_aside 2 l rm_X0_aside) (T : q_T J cX0_aside (some .long) Qp) : ∀ (σ : q_M) (lv : q_L) (st : q_S), k_X0_aside_0 Qp J σ lv st → J 0 σ lv st := fun σ lv st h =>
    so_aload_n E (i := 0) rfl dX0_aside_0 h fun σ lv st h =>
    so_get E (pp := 0) (fi := 2) (C := RX0) (T := TX0) (N := 11) (ref := "WheelDesk$Craft") ⟨rfl, rfl, rfl⟩ rfl fi_X0_aside_X0 (by decide) rfl (List.mem_of_getElem? (i := 1) rfl) dX0_aside_1 h fun σ lv st h =>
    so_iconst E (x := 1) dX0_aside_4 h fun σ lv st h =>
    so_aald E dX0_aside_5 h fun σ lv st h =>
    so_iload_n E (i := 1) rfl dX0_aside_6 h fun σ lv st h =>
    so_iald E dX0_aside_7 h fun σ lv st h =>
    so_i2l E dX0_aside_8 h fun σ lv st h =>
    so_aload_n E (i := 0) rfl dX0_aside_9 h fun σ lv st h =>
    so_get E (pp := 0) (fi := 3) (C := RX0) (T := TX0) (N := 11) (ref := "WheelDesk$Craft") ⟨rfl, rfl, rfl⟩ rfl fi_X0_aside_X0 (by decide) rfl (List.mem_of_getElem? (i := 2) rfl) dX0_aside_10 h fun σ lv st h =>
    so_iload_n E (i := 1) rfl dX0_aside_13 h fun σ lv st h =>
    so_lald E dX0_aside_14 h fun σ lv st h =>
    so_lsub E dX0_aside_15 h fun σ lv st h =>
    so_mabsl E (idx := 81) (List.mem_of_getElem? (i := 3) rfl) (List.mem_of_getElem? (i := 4) rfl) (List.mem_of_getElem? (i := 5) rfl) (List.mem_of_getElem? (i := 6) rfl) (by decide) (by decide) dX0_aside_16 h fun σ lv st h =>
    so_lret T dX0_aside_19 h
theorem c_X0_aside : q_Ct yX0_aside wsX0_aside rm_X0_aside S_X0_aside := by
  refine q_met (cc := cX0_aside) (maxL := 2) (ret := (some .long)) (own := RX0) (by decide +kernel) rfl rfl (fun σ vs Qp h => ?_) (fun l J σ vs Qp E T h => ?_)
  · unfold S_X0_aside at h
    split at h
    · exact Nat.le_of_ble_eq_true rfl
    · exact h.elim
  · unfold S_X0_aside at h
    split at h
    · next c p0 k0 i =>
      obtain ⟨rfl, rfl, h⟩ := h
      exact v_X0_aside (so_C E) (sb_X0_aside_0 E T) h
    · exact h.elim
theorem cc_X0_aside : q_Ct yX0_aside wsX0_aside rm_X0_aside S_X0_aside := c_X0_aside

def rm_X0_isOnTarget : Room := { frames := 3, cells := 0, slots := 0, locals := 69 }
theorem fi_X0_isOnTarget_X0 : ∀ w ∈ u_ws RX0 TX0 11, w ∈ wsX0_isOnTarget := fun w h => List.mem_cons_of_mem _ (List.mem_append_right _ h)
set_option maxRecDepth 20000 in
theorem sb_X0_isOnTarget_0 {J : Nat → q_K} {l : Launch} {Qp : Option q_V → q_M → Prop} (E : q_E J cX0_isOnTarget RX0 wsX0_isOnTarget 3 l rm_X0_isOnTarget) (T : q_T J cX0_isOnTarget (some .boolean) Qp) (h_X0_aside : q_Ct yX0_aside wsX0_aside rm_X0_aside S_X0_aside) (h_X0_rate : q_Ct yX0_rate wsX0_rate rm_X0_rate S_X0_rate) : ∀ (σ : q_M) (lv : q_L) (st : q_S), k_X0_isOnTarget_0 Qp J σ lv st → J 0 σ lv st := fun σ lv st h =>
    so_iconst E (x := 0) dX0_isOnTarget_0 h fun σ lv st h =>
    so_istore_n E (i := 2) rfl (by decide) dX0_isOnTarget_1 h fun σ lv st h =>
    h
set_option maxRecDepth 20000 in
theorem sb_X0_isOnTarget_39 {J : Nat → q_K} {l : Launch} {Qp : Option q_V → q_M → Prop} (E : q_E J cX0_isOnTarget RX0 wsX0_isOnTarget 3 l rm_X0_isOnTarget) (T : q_T J cX0_isOnTarget (some .boolean) Qp) (h_X0_aside : q_Ct yX0_aside wsX0_aside rm_X0_aside S_X0_aside) (h_X0_rate : q_Ct yX0_rate wsX0_rate rm_X0_rate S_X0_rate) : ∀ (σ : q_M) (lv : q_L) (st : q_S), k_X0_isOnTarget_39 Qp J σ lv st → J 39 σ lv st := fun σ lv st h =>
    so_iconst E (x := 1) dX0_isOnTarget_39 h fun σ lv st h =>
    so_zret T dX0_isOnTarget_40 h
set_option maxRecDepth 20000 in
theorem sb_X0_isOnTarget_31 {J : Nat → q_K} {l : Launch} {Qp : Option q_V → q_M → Prop} (E : q_E J cX0_isOnTarget RX0 wsX0_isOnTarget 3 l rm_X0_isOnTarget) (T : q_T J cX0_isOnTarget (some .boolean) Qp) (h_X0_aside : q_Ct yX0_aside wsX0_aside rm_X0_aside S_X0_aside) (h_X0_rate : q_Ct yX0_rate wsX0_rate rm_X0_rate S_X0_rate) : ∀ (σ : q_M) (lv : q_L) (st : q_S), k_X0_isOnTarget_31 Qp J σ lv st → J 31 σ lv st := fun σ lv st h =>
    so_iconst E (x := 0) dX0_isOnTarget_31 h fun σ lv st h =>
    so_zret T dX0_isOnTarget_32 h
set_option maxRecDepth 20000 in
theorem sb_X0_isOnTarget_33 {J : Nat → q_K} {l : Launch} {Qp : Option q_V → q_M → Prop} (E : q_E J cX0_isOnTarget RX0 wsX0_isOnTarget 3 l rm_X0_isOnTarget) (T : q_T J cX0_isOnTarget (some .boolean) Qp) (h_X0_aside : q_Ct yX0_aside wsX0_aside rm_X0_aside S_X0_aside) (h_X0_rate : q_Ct yX0_rate wsX0_rate rm_X0_rate S_X0_rate) : ∀ (σ : q_M) (lv : q_L) (st : q_S), k_X0_isOnTarget_33 Qp J σ lv st → J 33 σ lv st := fun σ lv st h =>
    so_iinc E (i := 2) (n := 1) (by decide) dX0_isOnTarget_33 h fun σ lv st h =>
    so_goto E 2 (by decide) dX0_isOnTarget_36 (fun _ _ _ h => h) h
set_option maxRecDepth 20000 in
theorem sb_X0_isOnTarget_2 {J : Nat → q_K} {l : Launch} {Qp : Option q_V → q_M → Prop} (E : q_E J cX0_isOnTarget RX0 wsX0_isOnTarget 3 l rm_X0_isOnTarget) (T : q_T J cX0_isOnTarget (some .boolean) Qp) (h_X0_aside : q_Ct yX0_aside wsX0_aside rm_X0_aside S_X0_aside) (h_X0_rate : q_Ct yX0_rate wsX0_rate rm_X0_rate S_X0_rate) : ∀ (σ : q_M) (lv : q_L) (st : q_S), k_X0_isOnTarget_2 Qp J σ lv st → J 2 σ lv st := fun σ lv st h =>
    so_iload_n E (i := 2) rfl dX0_isOnTarget_2 h fun σ lv st h =>
    so_iconst E (x := 3) dX0_isOnTarget_3 h fun σ lv st h =>
    so_icmpge E 39 (by decide) dX0_isOnTarget_4 (sb_X0_isOnTarget_39 E T h_X0_aside h_X0_rate) h fun σ lv st h =>
    so_aload_n E (i := 0) rfl dX0_isOnTarget_7 h fun σ lv st h =>
    so_iload_n E (i := 2) rfl dX0_isOnTarget_8 h fun σ lv st h =>
    so_callV E (n := 1) (pp := 0) (C := RX0) (T := TX0) (N := 11) (idx := 87) (maxL := 2) (ret := (some .long)) h_X0_aside ⟨rfl, rfl, rfl⟩ rfl gX0_isOnTarget_X0_aside rfl ⟨rfl, rfl⟩ (by decide +kernel) (by decide) dX0_isOnTarget_9 h fun σ lv st h =>
    so_iload_n E (i := 1) rfl dX0_isOnTarget_12 h fun σ lv st h =>
    so_i2l E dX0_isOnTarget_13 h fun σ lv st h =>
    so_lcmp E dX0_isOnTarget_14 h fun σ lv st h =>
    so_ifgt E 31 (by decide) dX0_isOnTarget_15 (sb_X0_isOnTarget_31 E T h_X0_aside h_X0_rate) h fun σ lv st h =>
    so_aload_n E (i := 0) rfl dX0_isOnTarget_18 h fun σ lv st h =>
    so_iload_n E (i := 2) rfl dX0_isOnTarget_19 h fun σ lv st h =>
    so_callV E (n := 1) (pp := 0) (C := RX0) (T := TX0) (N := 11) (idx := 63) (maxL := 2) (ret := (some .long)) h_X0_rate ⟨rfl, rfl, rfl⟩ rfl gX0_isOnTarget_X0_rate rfl ⟨rfl, rfl⟩ (by decide +kernel) (by decide) dX0_isOnTarget_20 h fun σ lv st h =>
    so_mabsl E (idx := 81) (List.mem_of_getElem? (i := 1) rfl) (List.mem_of_getElem? (i := 2) rfl) (List.mem_of_getElem? (i := 3) rfl) (List.mem_of_getElem? (i := 4) rfl) (by decide) (by decide) dX0_isOnTarget_23 h fun σ lv st h =>
    so_lconst E (x := 1) rfl dX0_isOnTarget_26 h fun σ lv st h =>
    so_lcmp E dX0_isOnTarget_27 h fun σ lv st h =>
    so_ifle E 33 (by decide) dX0_isOnTarget_28 (sb_X0_isOnTarget_33 E T h_X0_aside h_X0_rate) h fun σ lv st h =>
    (sb_X0_isOnTarget_31 E T h_X0_aside h_X0_rate) σ lv st h
theorem c_X0_isOnTarget (h_X0_aside : q_Ct yX0_aside wsX0_aside rm_X0_aside S_X0_aside) (h_X0_rate : q_Ct yX0_rate wsX0_rate rm_X0_rate S_X0_rate) : q_Ct yX0_isOnTarget wsX0_isOnTarget rm_X0_isOnTarget S_X0_isOnTarget := by
  refine q_met (cc := cX0_isOnTarget) (maxL := 3) (ret := (some .boolean)) (own := RX0) (by decide +kernel) rfl rfl (fun σ vs Qp h => ?_) (fun l J σ vs Qp E T h => ?_)
  · unfold S_X0_isOnTarget at h
    split at h
    · exact Nat.le_of_ble_eq_true rfl
    · exact h.elim
  · unfold S_X0_isOnTarget at h
    split at h
    · next c p0 k0 b =>
      obtain ⟨rfl, rfl, h⟩ := h
      exact v_X0_isOnTarget (so_C E) (sb_X0_isOnTarget_0 E T h_X0_aside h_X0_rate) (sb_X0_isOnTarget_2 E T h_X0_aside h_X0_rate) h
    · exact h.elim
theorem cc_X0_isOnTarget : q_Ct yX0_isOnTarget wsX0_isOnTarget rm_X0_isOnTarget S_X0_isOnTarget := c_X0_isOnTarget cc_X0_aside cc_X0_rate

def rm_X5_arrives : Room := { frames := 5, cells := 0, slots := 0, locals := 124 }
theorem fi_X5_arrives_X5 : ∀ w ∈ u_ws RX5 TX5 5, w ∈ wsX5_arrives := fun w h => List.mem_cons_of_mem _ (List.mem_append_left _ (List.mem_append_left _ (List.mem_append_left _ (List.mem_append_left _ (List.mem_append_right _ h)))))
theorem fi_X5_arrives_X0 : ∀ w ∈ u_ws RX0 TX0 11, w ∈ wsX5_arrives := fun w h => List.mem_cons_of_mem _ (List.mem_append_left _ (List.mem_append_left _ (List.mem_append_left _ (List.mem_append_right _ h))))
theorem fi_X5_arrives_X4 : ∀ w ∈ u_ws RX4 TX4 6, w ∈ wsX5_arrives := fun w h => List.mem_cons_of_mem _ (List.mem_append_left _ (List.mem_append_left _ (List.mem_append_right _ h)))
theorem fi_X5_arrives_X3 : ∀ w ∈ u_ws RX3 TX3 4, w ∈ wsX5_arrives := fun w h => List.mem_cons_of_mem _ (List.mem_append_left _ (List.mem_append_right _ h))
theorem fi_X5_arrives_X2 : ∀ w ∈ u_ws RX2 TX2 2, w ∈ wsX5_arrives := fun w h => List.mem_cons_of_mem _ (List.mem_append_right _ h)
set_option maxRecDepth 20000 in
theorem sb_X5_arrives_13 {J : Nat → q_K} {l : Launch} {Qp : Option q_V → q_M → Prop} (E : q_E J cX5_arrives RX5 wsX5_arrives 3 l rm_X5_arrives) (T : q_T J cX5_arrives (some .int) Qp) (h_X5_isWithin : q_Ct yX5_isWithin wsX5_isWithin rm_X5_isWithin S_X5_isWithin) (h_X0_become : q_Ct yX0_become wsX0_become rm_X0_become S_X0_become) (h_X3_measure : q_Ct yX3_measure wsX3_measure rm_X3_measure S_X3_measure) (h_X0_isOnTarget : q_Ct yX0_isOnTarget wsX0_isOnTarget rm_X0_isOnTarget S_X0_isOnTarget) (h_X5_passOne : q_Ct yX5_passOne wsX5_passOne rm_X5_passOne S_X5_passOne) : ∀ (σ : q_M) (lv : q_L) (st : q_S), k_X5_arrives_13 Qp J σ lv st → J 13 σ lv st := fun σ lv st h =>
    so_aload_n E (i := 0) rfl dX5_arrives_13 h fun σ lv st h =>
    so_get E (pp := 23) (fi := 1) (C := RX5) (T := TX5) (N := 5) (ref := "WheelDesk") ⟨rfl, rfl, rfl⟩ rfl fi_X5_arrives_X5 (by decide) rfl (List.mem_of_getElem? (i := 3) rfl) dX5_arrives_14 h fun σ lv st h =>
    so_aload_n E (i := 0) rfl dX5_arrives_17 h fun σ lv st h =>
    so_get E (pp := 23) (fi := 0) (C := RX5) (T := TX5) (N := 5) (ref := "WheelDesk") ⟨rfl, rfl, rfl⟩ rfl fi_X5_arrives_X5 (by decide) rfl (List.mem_of_getElem? (i := 4) rfl) dX5_arrives_18 h fun σ lv st h =>
    so_callV E (n := 1) (pp := 0) (C := RX0) (T := TX0) (N := 11) (idx := 169) (maxL := 3) (ret := none) h_X0_become ⟨rfl, rfl, rfl⟩ rfl gX5_arrives_X0_become rfl ⟨rfl, rfl⟩ (by decide +kernel) (by decide) dX5_arrives_21 h fun σ lv st h =>
    so_aload_n E (i := 0) rfl dX5_arrives_24 h fun σ lv st h =>
    so_get E (pp := 23) (fi := 2) (C := RX5) (T := TX5) (N := 5) (ref := "WheelDesk") ⟨rfl, rfl, rfl⟩ rfl fi_X5_arrives_X5 (by decide) rfl (List.mem_of_getElem? (i := 5) rfl) dX5_arrives_25 h fun σ lv st h =>
    so_aload_n E (i := 0) rfl dX5_arrives_28 h fun σ lv st h =>
    so_get E (pp := 23) (fi := 1) (C := RX5) (T := TX5) (N := 5) (ref := "WheelDesk") ⟨rfl, rfl, rfl⟩ rfl fi_X5_arrives_X5 (by decide) rfl (List.mem_of_getElem? (i := 3) rfl) dX5_arrives_29 h fun σ lv st h =>
    so_ldc E (x := -2000009) (idx := 126) (v := -2000009) (List.mem_of_getElem? (i := 6) rfl) rfl dX5_arrives_32 h fun σ lv st h =>
    so_callV E (n := 2) (pp := 12) (C := RX3) (T := TX3) (N := 4) (idx := 127) (maxL := 5) (ret := none) h_X3_measure ⟨rfl, rfl, rfl⟩ rfl gX5_arrives_X3_measure rfl ⟨rfl, rfl⟩ (by decide +kernel) (by decide) dX5_arrives_34 h fun σ lv st h =>
    so_iconst E (x := 0) dX5_arrives_37 h fun σ lv st h =>
    so_istore_n E (i := 2) rfl (by decide) dX5_arrives_38 h fun σ lv st h =>
    h
set_option maxRecDepth 20000 in
theorem sb_X5_arrives_0 {J : Nat → q_K} {l : Launch} {Qp : Option q_V → q_M → Prop} (E : q_E J cX5_arrives RX5 wsX5_arrives 3 l rm_X5_arrives) (T : q_T J cX5_arrives (some .int) Qp) (h_X5_isWithin : q_Ct yX5_isWithin wsX5_isWithin rm_X5_isWithin S_X5_isWithin) (h_X0_become : q_Ct yX0_become wsX0_become rm_X0_become S_X0_become) (h_X3_measure : q_Ct yX3_measure wsX3_measure rm_X3_measure S_X3_measure) (h_X0_isOnTarget : q_Ct yX0_isOnTarget wsX0_isOnTarget rm_X0_isOnTarget S_X0_isOnTarget) (h_X5_passOne : q_Ct yX5_passOne wsX5_passOne rm_X5_passOne S_X5_passOne) : ∀ (σ : q_M) (lv : q_L) (st : q_S), k_X5_arrives_0 Qp J σ lv st → J 0 σ lv st := fun σ lv st h =>
    so_iload_n E (i := 1) rfl dX5_arrives_0 h fun σ lv st h =>
    so_iconst E (x := 0) dX5_arrives_1 h fun σ lv st h =>
    so_ldc E (x := 1000000) (idx := 44) (v := 1000000) (List.mem_of_getElem? (i := 1) rfl) rfl dX5_arrives_2 h fun σ lv st h =>
    so_callT E (n := 3) (idx := 45) (maxL := 3) (ret := (some .boolean)) h_X5_isWithin gX5_arrives_X5_isWithin rfl ⟨rfl, rfl⟩ (by decide +kernel) (by decide) dX5_arrives_4 h fun σ lv st h =>
    so_ifne E 13 (by decide) dX5_arrives_7 (sb_X5_arrives_13 E T h_X5_isWithin h_X0_become h_X3_measure h_X0_isOnTarget h_X5_passOne) h fun σ lv st h =>
    so_ldc E (x := -2000001) (idx := 49) (v := -2000001) (List.mem_of_getElem? (i := 2) rfl) rfl dX5_arrives_10 h fun σ lv st h =>
    so_iret T dX5_arrives_12 h
set_option maxRecDepth 20000 in
theorem sb_X5_arrives_73 {J : Nat → q_K} {l : Launch} {Qp : Option q_V → q_M → Prop} (E : q_E J cX5_arrives RX5 wsX5_arrives 3 l rm_X5_arrives) (T : q_T J cX5_arrives (some .int) Qp) (h_X5_isWithin : q_Ct yX5_isWithin wsX5_isWithin rm_X5_isWithin S_X5_isWithin) (h_X0_become : q_Ct yX0_become wsX0_become rm_X0_become S_X0_become) (h_X3_measure : q_Ct yX3_measure wsX3_measure rm_X3_measure S_X3_measure) (h_X0_isOnTarget : q_Ct yX0_isOnTarget wsX0_isOnTarget rm_X0_isOnTarget S_X0_isOnTarget) (h_X5_passOne : q_Ct yX5_passOne wsX5_passOne rm_X5_passOne S_X5_passOne) : ∀ (σ : q_M) (lv : q_L) (st : q_S), k_X5_arrives_73 Qp J σ lv st → J 73 σ lv st := fun σ lv st h =>
    so_ldc E (x := -2000009) (idx := 126) (v := -2000009) (List.mem_of_getElem? (i := 6) rfl) rfl dX5_arrives_73 h fun σ lv st h =>
    so_iret T dX5_arrives_75 h
set_option maxRecDepth 20000 in
theorem sb_X5_arrives_59 {J : Nat → q_K} {l : Launch} {Qp : Option q_V → q_M → Prop} (E : q_E J cX5_arrives RX5 wsX5_arrives 3 l rm_X5_arrives) (T : q_T J cX5_arrives (some .int) Qp) (h_X5_isWithin : q_Ct yX5_isWithin wsX5_isWithin rm_X5_isWithin S_X5_isWithin) (h_X0_become : q_Ct yX0_become wsX0_become rm_X0_become S_X0_become) (h_X3_measure : q_Ct yX3_measure wsX3_measure rm_X3_measure S_X3_measure) (h_X0_isOnTarget : q_Ct yX0_isOnTarget wsX0_isOnTarget rm_X0_isOnTarget S_X0_isOnTarget) (h_X5_passOne : q_Ct yX5_passOne wsX5_passOne rm_X5_passOne S_X5_passOne) : ∀ (σ : q_M) (lv : q_L) (st : q_S), k_X5_arrives_59 Qp J σ lv st → J 59 σ lv st := fun σ lv st h =>
    so_aload_n E (i := 0) rfl dX5_arrives_59 h fun σ lv st h =>
    so_aload_n E (i := 0) rfl dX5_arrives_60 h fun σ lv st h =>
    so_get E (pp := 23) (fi := 1) (C := RX5) (T := TX5) (N := 5) (ref := "WheelDesk") ⟨rfl, rfl, rfl⟩ rfl fi_X5_arrives_X5 (by decide) rfl (List.mem_of_getElem? (i := 3) rfl) dX5_arrives_61 h fun σ lv st h =>
    so_callV E (n := 1) (pp := 23) (C := RX5) (T := TX5) (N := 5) (idx := 131) (maxL := 2) (ret := none) h_X5_passOne ⟨rfl, rfl, rfl⟩ rfl gX5_arrives_X5_passOne rfl ⟨rfl, rfl⟩ (by decide +kernel) (by decide) dX5_arrives_64 h fun σ lv st h =>
    so_iinc E (i := 2) (n := 1) (by decide) dX5_arrives_67 h fun σ lv st h =>
    so_goto E 39 (by decide) dX5_arrives_70 (fun _ _ _ h => h) h
set_option maxRecDepth 20000 in
theorem sb_X5_arrives_39 {J : Nat → q_K} {l : Launch} {Qp : Option q_V → q_M → Prop} (E : q_E J cX5_arrives RX5 wsX5_arrives 3 l rm_X5_arrives) (T : q_T J cX5_arrives (some .int) Qp) (h_X5_isWithin : q_Ct yX5_isWithin wsX5_isWithin rm_X5_isWithin S_X5_isWithin) (h_X0_become : q_Ct yX0_become wsX0_become rm_X0_become S_X0_become) (h_X3_measure : q_Ct yX3_measure wsX3_measure rm_X3_measure S_X3_measure) (h_X0_isOnTarget : q_Ct yX0_isOnTarget wsX0_isOnTarget rm_X0_isOnTarget S_X0_isOnTarget) (h_X5_passOne : q_Ct yX5_passOne wsX5_passOne rm_X5_passOne S_X5_passOne) : ∀ (σ : q_M) (lv : q_L) (st : q_S), k_X5_arrives_39 Qp J σ lv st → J 39 σ lv st := fun σ lv st h =>
    so_iload_n E (i := 2) rfl dX5_arrives_39 h fun σ lv st h =>
    so_sipush E (x := 500) rfl dX5_arrives_40 h fun σ lv st h =>
    so_icmpgt E 73 (by decide) dX5_arrives_43 (sb_X5_arrives_73 E T h_X5_isWithin h_X0_become h_X3_measure h_X0_isOnTarget h_X5_passOne) h fun σ lv st h =>
    so_aload_n E (i := 0) rfl dX5_arrives_46 h fun σ lv st h =>
    so_get E (pp := 23) (fi := 1) (C := RX5) (T := TX5) (N := 5) (ref := "WheelDesk") ⟨rfl, rfl, rfl⟩ rfl fi_X5_arrives_X5 (by decide) rfl (List.mem_of_getElem? (i := 3) rfl) dX5_arrives_47 h fun σ lv st h =>
    so_iload_n E (i := 1) rfl dX5_arrives_50 h fun σ lv st h =>
    so_callV E (n := 1) (pp := 0) (C := RX0) (T := TX0) (N := 11) (idx := 172) (maxL := 3) (ret := (some .boolean)) h_X0_isOnTarget ⟨rfl, rfl, rfl⟩ rfl gX5_arrives_X0_isOnTarget rfl ⟨rfl, rfl⟩ (by decide +kernel) (by decide) dX5_arrives_51 h fun σ lv st h =>
    so_ifeq E 59 (by decide) dX5_arrives_54 (sb_X5_arrives_59 E T h_X5_isWithin h_X0_become h_X3_measure h_X0_isOnTarget h_X5_passOne) h fun σ lv st h =>
    so_iload_n E (i := 2) rfl dX5_arrives_57 h fun σ lv st h =>
    so_iret T dX5_arrives_58 h
theorem c_X5_arrives (h_X5_isWithin : q_Ct yX5_isWithin wsX5_isWithin rm_X5_isWithin S_X5_isWithin) (h_X0_become : q_Ct yX0_become wsX0_become rm_X0_become S_X0_become) (h_X3_measure : q_Ct yX3_measure wsX3_measure rm_X3_measure S_X3_measure) (h_X0_isOnTarget : q_Ct yX0_isOnTarget wsX0_isOnTarget rm_X0_isOnTarget S_X0_isOnTarget) (h_X5_passOne : q_Ct yX5_passOne wsX5_passOne rm_X5_passOne S_X5_passOne) : q_Ct yX5_arrives wsX5_arrives rm_X5_arrives S_X5_arrives := by
  refine q_met (cc := cX5_arrives) (maxL := 3) (ret := (some .int)) (own := RX5) (by decide +kernel) rfl rfl (fun σ vs Qp h => ?_) (fun l J σ vs Qp E T h => ?_)
  · unfold S_X5_arrives at h
    split at h
    · exact Nat.le_of_ble_eq_true rfl
    · exact h.elim
  · unfold S_X5_arrives at h
    split at h
    · next c0 p0 k0 b =>
      obtain ⟨rfl, rfl, rfl, h⟩ := h
      exact v_X5_arrives (so_C E) (sb_X5_arrives_0 E T h_X5_isWithin h_X0_become h_X3_measure h_X0_isOnTarget h_X5_passOne) (sb_X5_arrives_39 E T h_X5_isWithin h_X0_become h_X3_measure h_X0_isOnTarget h_X5_passOne) h
    · exact h.elim
theorem cc_X5_arrives : q_Ct yX5_arrives wsX5_arrives rm_X5_arrives S_X5_arrives := c_X5_arrives cc_X5_isWithin cc_X0_become cc_X3_measure cc_X0_isOnTarget cc_X5_passOne

def rm_X5_spare : Room := { frames := 3, cells := 0, slots := 0, locals := 71 }
theorem fi_X5_spare_X5 : ∀ w ∈ u_ws RX5 TX5 5, w ∈ wsX5_spare := fun w h => List.mem_cons_of_mem _ (List.mem_append_left _ (List.mem_append_left _ (List.mem_append_left _ (List.mem_append_right _ h))))
theorem fi_X5_spare_X0 : ∀ w ∈ u_ws RX0 TX0 11, w ∈ wsX5_spare := fun w h => List.mem_cons_of_mem _ (List.mem_append_left _ (List.mem_append_left _ (List.mem_append_right _ h)))
theorem fi_X5_spare_X4 : ∀ w ∈ u_ws RX4 TX4 6, w ∈ wsX5_spare := fun w h => List.mem_cons_of_mem _ (List.mem_append_left _ (List.mem_append_right _ h))
theorem fi_X5_spare_X3 : ∀ w ∈ u_ws RX3 TX3 4, w ∈ wsX5_spare := fun w h => List.mem_cons_of_mem _ (List.mem_append_right _ h)
set_option maxRecDepth 20000 in
theorem sb_X5_spare_0 {J : Nat → q_K} {l : Launch} {Qp : Option q_V → q_M → Prop} (E : q_E J cX5_spare RX5 wsX5_spare 3 l rm_X5_spare) (T : q_T J cX5_spare (some .int) Qp) (h_X3_measure : q_Ct yX3_measure wsX3_measure rm_X3_measure S_X3_measure) (h_X3_spans : q_Ct yX3_spans wsX3_spans rm_X3_spans S_X3_spans) : ∀ (σ : q_M) (lv : q_L) (st : q_S), k_X5_spare_0 Qp J σ lv st → J 0 σ lv st := fun σ lv st h =>
    so_iconst E (x := 0) dX5_spare_0 h fun σ lv st h =>
    so_istore_n E (i := 1) rfl (by decide) dX5_spare_1 h fun σ lv st h =>
    so_iconst E (x := 0) dX5_spare_2 h fun σ lv st h =>
    so_istore_n E (i := 2) rfl (by decide) dX5_spare_3 h fun σ lv st h =>
    h
set_option maxRecDepth 20000 in
theorem sb_X5_spare_64 {J : Nat → q_K} {l : Launch} {Qp : Option q_V → q_M → Prop} (E : q_E J cX5_spare RX5 wsX5_spare 3 l rm_X5_spare) (T : q_T J cX5_spare (some .int) Qp) (h_X3_measure : q_Ct yX3_measure wsX3_measure rm_X3_measure S_X3_measure) (h_X3_spans : q_Ct yX3_spans wsX3_spans rm_X3_spans S_X3_spans) : ∀ (σ : q_M) (lv : q_L) (st : q_S), k_X5_spare_64 Qp J σ lv st → J 64 σ lv st := fun σ lv st h =>
    so_iload_n E (i := 1) rfl dX5_spare_64 h fun σ lv st h =>
    so_iret T dX5_spare_65 h
set_option maxRecDepth 20000 in
theorem sb_X5_spare_58 {J : Nat → q_K} {l : Launch} {Qp : Option q_V → q_M → Prop} (E : q_E J cX5_spare RX5 wsX5_spare 3 l rm_X5_spare) (T : q_T J cX5_spare (some .int) Qp) (h_X3_measure : q_Ct yX3_measure wsX3_measure rm_X3_measure S_X3_measure) (h_X3_spans : q_Ct yX3_spans wsX3_spans rm_X3_spans S_X3_spans) : ∀ (σ : q_M) (lv : q_L) (st : q_S), k_X5_spare_58 Qp J σ lv st → J 58 σ lv st := fun σ lv st h =>
    so_iinc E (i := 2) (n := 1) (by decide) dX5_spare_58 h fun σ lv st h =>
    so_goto E 4 (by decide) dX5_spare_61 (fun _ _ _ h => h) h
set_option maxRecDepth 20000 in
theorem sb_X5_spare_4 {J : Nat → q_K} {l : Launch} {Qp : Option q_V → q_M → Prop} (E : q_E J cX5_spare RX5 wsX5_spare 3 l rm_X5_spare) (T : q_T J cX5_spare (some .int) Qp) (h_X3_measure : q_Ct yX3_measure wsX3_measure rm_X3_measure S_X3_measure) (h_X3_spans : q_Ct yX3_spans wsX3_spans rm_X3_spans S_X3_spans) : ∀ (σ : q_M) (lv : q_L) (st : q_S), k_X5_spare_4 Qp J σ lv st → J 4 σ lv st := fun σ lv st h =>
    so_iload_n E (i := 2) rfl dX5_spare_4 h fun σ lv st h =>
    so_aload_n E (i := 0) rfl dX5_spare_5 h fun σ lv st h =>
    so_get E (pp := 23) (fi := 0) (C := RX5) (T := TX5) (N := 5) (ref := "WheelDesk") ⟨rfl, rfl, rfl⟩ rfl fi_X5_spare_X5 (by decide) rfl (List.mem_of_getElem? (i := 1) rfl) dX5_spare_6 h fun σ lv st h =>
    so_get E (pp := 0) (fi := 8) (C := RX0) (T := TX0) (N := 11) (ref := "WheelDesk$Craft") ⟨rfl, rfl, rfl⟩ rfl fi_X5_spare_X0 (by decide) rfl (List.mem_of_getElem? (i := 2) rfl) dX5_spare_9 h fun σ lv st h =>
    so_icmpge E 64 (by decide) dX5_spare_12 (sb_X5_spare_64 E T h_X3_measure h_X3_spans) h fun σ lv st h =>
    so_aload_n E (i := 0) rfl dX5_spare_15 h fun σ lv st h =>
    so_get E (pp := 23) (fi := 2) (C := RX5) (T := TX5) (N := 5) (ref := "WheelDesk") ⟨rfl, rfl, rfl⟩ rfl fi_X5_spare_X5 (by decide) rfl (List.mem_of_getElem? (i := 3) rfl) dX5_spare_16 h fun σ lv st h =>
    so_aload_n E (i := 0) rfl dX5_spare_19 h fun σ lv st h =>
    so_get E (pp := 23) (fi := 0) (C := RX5) (T := TX5) (N := 5) (ref := "WheelDesk") ⟨rfl, rfl, rfl⟩ rfl fi_X5_spare_X5 (by decide) rfl (List.mem_of_getElem? (i := 1) rfl) dX5_spare_20 h fun σ lv st h =>
    so_iload_n E (i := 2) rfl dX5_spare_23 h fun σ lv st h =>
    so_callV E (n := 2) (pp := 12) (C := RX3) (T := TX3) (N := 4) (idx := 127) (maxL := 5) (ret := none) h_X3_measure ⟨rfl, rfl, rfl⟩ rfl gX5_spare_X3_measure rfl ⟨rfl, rfl⟩ (by decide +kernel) (by decide) dX5_spare_24 h fun σ lv st h =>
    so_aload_n E (i := 0) rfl dX5_spare_27 h fun σ lv st h =>
    so_get E (pp := 23) (fi := 0) (C := RX5) (T := TX5) (N := 5) (ref := "WheelDesk") ⟨rfl, rfl, rfl⟩ rfl fi_X5_spare_X5 (by decide) rfl (List.mem_of_getElem? (i := 1) rfl) dX5_spare_28 h fun σ lv st h =>
    so_get E (pp := 0) (fi := 7) (C := RX0) (T := TX0) (N := 11) (ref := "WheelDesk$Craft") ⟨rfl, rfl, rfl⟩ rfl fi_X5_spare_X0 (by decide) rfl (List.mem_of_getElem? (i := 4) rfl) dX5_spare_31 h fun σ lv st h =>
    so_iload_n E (i := 2) rfl dX5_spare_34 h fun σ lv st h =>
    so_aald E dX5_spare_35 h fun σ lv st h =>
    so_get E (pp := 10) (fi := 4) (C := RX4) (T := TX4) (N := 6) (ref := "WheelDesk$Wheel") ⟨rfl, rfl, rfl⟩ rfl fi_X5_spare_X4 (by decide) rfl (List.mem_of_getElem? (i := 5) rfl) dX5_spare_36 h fun σ lv st h =>
    so_ifne E 58 (by decide) dX5_spare_39 (sb_X5_spare_58 E T h_X3_measure h_X3_spans) h fun σ lv st h =>
    so_aload_n E (i := 0) rfl dX5_spare_42 h fun σ lv st h =>
    so_get E (pp := 23) (fi := 2) (C := RX5) (T := TX5) (N := 5) (ref := "WheelDesk") ⟨rfl, rfl, rfl⟩ rfl fi_X5_spare_X5 (by decide) rfl (List.mem_of_getElem? (i := 3) rfl) dX5_spare_43 h fun σ lv st h =>
    so_callV E (n := 0) (pp := 12) (C := RX3) (T := TX3) (N := 4) (idx := 148) (maxL := 1) (ret := (some .boolean)) h_X3_spans ⟨rfl, rfl, rfl⟩ rfl gX5_spare_X3_spans rfl ⟨rfl, rfl⟩ (by decide +kernel) (by decide) dX5_spare_46 h fun σ lv st h =>
    so_ifeq E 58 (by decide) dX5_spare_49 (sb_X5_spare_58 E T h_X3_measure h_X3_spans) h fun σ lv st h =>
    so_iload_n E (i := 1) rfl dX5_spare_52 h fun σ lv st h =>
    so_iconst E (x := 1) dX5_spare_53 h fun σ lv st h =>
    so_iload_n E (i := 2) rfl dX5_spare_54 h fun σ lv st h =>
    so_ishl E dX5_spare_55 h fun σ lv st h =>
    so_ior E dX5_spare_56 h fun σ lv st h =>
    so_istore_n E (i := 1) rfl (by decide) dX5_spare_57 h fun σ lv st h =>
    (sb_X5_spare_58 E T h_X3_measure h_X3_spans) σ lv st h
theorem c_X5_spare (h_X3_measure : q_Ct yX3_measure wsX3_measure rm_X3_measure S_X3_measure) (h_X3_spans : q_Ct yX3_spans wsX3_spans rm_X3_spans S_X3_spans) : q_Ct yX5_spare wsX5_spare rm_X5_spare S_X5_spare := by
  refine q_met (cc := cX5_spare) (maxL := 3) (ret := (some .int)) (own := RX5) (by decide +kernel) rfl rfl (fun σ vs Qp h => ?_) (fun l J σ vs Qp E T h => ?_)
  · unfold S_X5_spare at h
    split at h
    · exact Nat.le_of_ble_eq_true rfl
    · exact h.elim
  · unfold S_X5_spare at h
    split at h
    · next c0 p0 k0 =>
      obtain ⟨rfl, rfl, rfl, h⟩ := h
      exact v_X5_spare (so_C E) (sb_X5_spare_0 E T h_X3_measure h_X3_spans) (sb_X5_spare_4 E T h_X3_measure h_X3_spans) h
    · exact h.elim
theorem cc_X5_spare : q_Ct yX5_spare wsX5_spare rm_X5_spare S_X5_spare := c_X5_spare cc_X3_measure cc_X3_spans

def rm_X0_offTarget : Room := { frames := 2, cells := 0, slots := 0, locals := 42 }
theorem fi_X0_offTarget_X0 : ∀ w ∈ u_ws RX0 TX0 11, w ∈ wsX0_offTarget := fun w h => List.mem_cons_of_mem _ (List.mem_append_right _ h)
set_option maxRecDepth 20000 in
theorem sb_X0_offTarget_0 {J : Nat → q_K} {l : Launch} {Qp : Option q_V → q_M → Prop} (E : q_E J cX0_offTarget RX0 wsX0_offTarget 4 l rm_X0_offTarget) (T : q_T J cX0_offTarget (some .long) Qp) (h_X0_aside : q_Ct yX0_aside wsX0_aside rm_X0_aside S_X0_aside) : ∀ (σ : q_M) (lv : q_L) (st : q_S), k_X0_offTarget_0 Qp J σ lv st → J 0 σ lv st := fun σ lv st h =>
    so_lconst E (x := 0) rfl dX0_offTarget_0 h fun σ lv st h =>
    so_lstore_n E (i := 1) rfl (by decide) dX0_offTarget_1 h fun σ lv st h =>
    so_iconst E (x := 0) dX0_offTarget_2 h fun σ lv st h =>
    so_istore_n E (i := 3) rfl (by decide) dX0_offTarget_3 h fun σ lv st h =>
    h
set_option maxRecDepth 20000 in
theorem sb_X0_offTarget_23 {J : Nat → q_K} {l : Launch} {Qp : Option q_V → q_M → Prop} (E : q_E J cX0_offTarget RX0 wsX0_offTarget 4 l rm_X0_offTarget) (T : q_T J cX0_offTarget (some .long) Qp) (h_X0_aside : q_Ct yX0_aside wsX0_aside rm_X0_aside S_X0_aside) : ∀ (σ : q_M) (lv : q_L) (st : q_S), k_X0_offTarget_23 Qp J σ lv st → J 23 σ lv st := fun σ lv st h =>
    so_lload_n E (i := 1) rfl dX0_offTarget_23 h fun σ lv st h =>
    so_lret T dX0_offTarget_24 h
set_option maxRecDepth 20000 in
theorem sb_X0_offTarget_4 {J : Nat → q_K} {l : Launch} {Qp : Option q_V → q_M → Prop} (E : q_E J cX0_offTarget RX0 wsX0_offTarget 4 l rm_X0_offTarget) (T : q_T J cX0_offTarget (some .long) Qp) (h_X0_aside : q_Ct yX0_aside wsX0_aside rm_X0_aside S_X0_aside) : ∀ (σ : q_M) (lv : q_L) (st : q_S), k_X0_offTarget_4 Qp J σ lv st → J 4 σ lv st := fun σ lv st h =>
    so_iload_n E (i := 3) rfl dX0_offTarget_4 h fun σ lv st h =>
    so_iconst E (x := 3) dX0_offTarget_5 h fun σ lv st h =>
    so_icmpge E 23 (by decide) dX0_offTarget_6 (sb_X0_offTarget_23 E T h_X0_aside) h fun σ lv st h =>
    so_lload_n E (i := 1) rfl dX0_offTarget_9 h fun σ lv st h =>
    so_aload_n E (i := 0) rfl dX0_offTarget_10 h fun σ lv st h =>
    so_iload_n E (i := 3) rfl dX0_offTarget_11 h fun σ lv st h =>
    so_callV E (n := 1) (pp := 0) (C := RX0) (T := TX0) (N := 11) (idx := 87) (maxL := 2) (ret := (some .long)) h_X0_aside ⟨rfl, rfl, rfl⟩ rfl gX0_offTarget_X0_aside rfl ⟨rfl, rfl⟩ (by decide +kernel) (by decide) dX0_offTarget_12 h fun σ lv st h =>
    so_ladd E dX0_offTarget_15 h fun σ lv st h =>
    so_lstore_n E (i := 1) rfl (by decide) dX0_offTarget_16 h fun σ lv st h =>
    so_iinc E (i := 3) (n := 1) (by decide) dX0_offTarget_17 h fun σ lv st h =>
    so_goto E 4 (by decide) dX0_offTarget_20 (fun _ _ _ h => h) h
theorem c_X0_offTarget (h_X0_aside : q_Ct yX0_aside wsX0_aside rm_X0_aside S_X0_aside) : q_Ct yX0_offTarget wsX0_offTarget rm_X0_offTarget S_X0_offTarget := by
  refine q_met (cc := cX0_offTarget) (maxL := 4) (ret := (some .long)) (own := RX0) (by decide +kernel) rfl rfl (fun σ vs Qp h => ?_) (fun l J σ vs Qp E T h => ?_)
  · unfold S_X0_offTarget at h
    split at h
    · exact Nat.le_of_ble_eq_true rfl
    · exact h.elim
  · unfold S_X0_offTarget at h
    split at h
    · next c p0 k0 =>
      obtain ⟨rfl, rfl, h⟩ := h
      exact v_X0_offTarget (so_C E) (sb_X0_offTarget_0 E T h_X0_aside) (sb_X0_offTarget_4 E T h_X0_aside) h
    · exact h.elim
theorem cc_X0_offTarget : q_Ct yX0_offTarget wsX0_offTarget rm_X0_offTarget S_X0_offTarget := c_X0_offTarget cc_X0_aside

def rm_X5_offWithout : Room := { frames := 5, cells := 0, slots := 0, locals := 124 }
theorem fi_X5_offWithout_X5 : ∀ w ∈ u_ws RX5 TX5 5, w ∈ wsX5_offWithout := fun w h => List.mem_cons_of_mem _ (List.mem_append_left _ (List.mem_append_left _ (List.mem_append_left _ (List.mem_append_left _ (List.mem_append_right _ h)))))
theorem fi_X5_offWithout_X0 : ∀ w ∈ u_ws RX0 TX0 11, w ∈ wsX5_offWithout := fun w h => List.mem_cons_of_mem _ (List.mem_append_left _ (List.mem_append_left _ (List.mem_append_left _ (List.mem_append_right _ h))))
theorem fi_X5_offWithout_X4 : ∀ w ∈ u_ws RX4 TX4 6, w ∈ wsX5_offWithout := fun w h => List.mem_cons_of_mem _ (List.mem_append_left _ (List.mem_append_left _ (List.mem_append_right _ h)))
theorem fi_X5_offWithout_X3 : ∀ w ∈ u_ws RX3 TX3 4, w ∈ wsX5_offWithout := fun w h => List.mem_cons_of_mem _ (List.mem_append_left _ (List.mem_append_right _ h))
theorem fi_X5_offWithout_X2 : ∀ w ∈ u_ws RX2 TX2 2, w ∈ wsX5_offWithout := fun w h => List.mem_cons_of_mem _ (List.mem_append_right _ h)
set_option maxRecDepth 20000 in
theorem sb_X5_offWithout_0 {J : Nat → q_K} {l : Launch} {Qp : Option q_V → q_M → Prop} (E : q_E J cX5_offWithout RX5 wsX5_offWithout 4 l rm_X5_offWithout) (T : q_T J cX5_offWithout (some .long) Qp) (h_X0_become : q_Ct yX0_become wsX0_become rm_X0_become S_X0_become) (h_X3_measure : q_Ct yX3_measure wsX3_measure rm_X3_measure S_X3_measure) (h_X5_passOne : q_Ct yX5_passOne wsX5_passOne rm_X5_passOne S_X5_passOne) (h_X0_offTarget : q_Ct yX0_offTarget wsX0_offTarget rm_X0_offTarget S_X0_offTarget) : ∀ (σ : q_M) (lv : q_L) (st : q_S), k_X5_offWithout_0 Qp J σ lv st → J 0 σ lv st := fun σ lv st h =>
    so_aload_n E (i := 0) rfl dX5_offWithout_0 h fun σ lv st h =>
    so_get E (pp := 23) (fi := 1) (C := RX5) (T := TX5) (N := 5) (ref := "WheelDesk") ⟨rfl, rfl, rfl⟩ rfl fi_X5_offWithout_X5 (by decide) rfl (List.mem_of_getElem? (i := 1) rfl) dX5_offWithout_1 h fun σ lv st h =>
    so_aload_n E (i := 0) rfl dX5_offWithout_4 h fun σ lv st h =>
    so_get E (pp := 23) (fi := 0) (C := RX5) (T := TX5) (N := 5) (ref := "WheelDesk") ⟨rfl, rfl, rfl⟩ rfl fi_X5_offWithout_X5 (by decide) rfl (List.mem_of_getElem? (i := 2) rfl) dX5_offWithout_5 h fun σ lv st h =>
    so_callV E (n := 1) (pp := 0) (C := RX0) (T := TX0) (N := 11) (idx := 169) (maxL := 3) (ret := none) h_X0_become ⟨rfl, rfl, rfl⟩ rfl gX5_offWithout_X0_become rfl ⟨rfl, rfl⟩ (by decide +kernel) (by decide) dX5_offWithout_8 h fun σ lv st h =>
    so_aload_n E (i := 0) rfl dX5_offWithout_11 h fun σ lv st h =>
    so_get E (pp := 23) (fi := 1) (C := RX5) (T := TX5) (N := 5) (ref := "WheelDesk") ⟨rfl, rfl, rfl⟩ rfl fi_X5_offWithout_X5 (by decide) rfl (List.mem_of_getElem? (i := 1) rfl) dX5_offWithout_12 h fun σ lv st h =>
    so_get E (pp := 0) (fi := 7) (C := RX0) (T := TX0) (N := 11) (ref := "WheelDesk$Craft") ⟨rfl, rfl, rfl⟩ rfl fi_X5_offWithout_X0 (by decide) rfl (List.mem_of_getElem? (i := 3) rfl) dX5_offWithout_15 h fun σ lv st h =>
    so_iload_n E (i := 1) rfl dX5_offWithout_18 h fun σ lv st h =>
    so_aald E dX5_offWithout_19 h fun σ lv st h =>
    so_iconst E (x := 1) dX5_offWithout_20 h fun σ lv st h =>
    so_putz E (pp := 10) (fi := 4) (sl := 3) (C := RX4) (T := TX4) (N := 6) (ref := "WheelDesk$Wheel") ⟨rfl, rfl, rfl⟩ rfl fi_X5_offWithout_X4 tyX4 tyX4_ok nmX4 (by decide) rfl rfl rfl q_fs_10_4 (List.mem_of_getElem? (i := 4) rfl) dX5_offWithout_21 h fun σ lv st h =>
    so_aload_n E (i := 0) rfl dX5_offWithout_24 h fun σ lv st h =>
    so_get E (pp := 23) (fi := 2) (C := RX5) (T := TX5) (N := 5) (ref := "WheelDesk") ⟨rfl, rfl, rfl⟩ rfl fi_X5_offWithout_X5 (by decide) rfl (List.mem_of_getElem? (i := 5) rfl) dX5_offWithout_25 h fun σ lv st h =>
    so_aload_n E (i := 0) rfl dX5_offWithout_28 h fun σ lv st h =>
    so_get E (pp := 23) (fi := 1) (C := RX5) (T := TX5) (N := 5) (ref := "WheelDesk") ⟨rfl, rfl, rfl⟩ rfl fi_X5_offWithout_X5 (by decide) rfl (List.mem_of_getElem? (i := 1) rfl) dX5_offWithout_29 h fun σ lv st h =>
    so_ldc E (x := -2000009) (idx := 126) (v := -2000009) (List.mem_of_getElem? (i := 6) rfl) rfl dX5_offWithout_32 h fun σ lv st h =>
    so_callV E (n := 2) (pp := 12) (C := RX3) (T := TX3) (N := 4) (idx := 127) (maxL := 5) (ret := none) h_X3_measure ⟨rfl, rfl, rfl⟩ rfl gX5_offWithout_X3_measure rfl ⟨rfl, rfl⟩ (by decide +kernel) (by decide) dX5_offWithout_34 h fun σ lv st h =>
    so_iconst E (x := 0) dX5_offWithout_37 h fun σ lv st h =>
    so_istore_n E (i := 3) rfl (by decide) dX5_offWithout_38 h fun σ lv st h =>
    h
set_option maxRecDepth 20000 in
theorem sb_X5_offWithout_58 {J : Nat → q_K} {l : Launch} {Qp : Option q_V → q_M → Prop} (E : q_E J cX5_offWithout RX5 wsX5_offWithout 4 l rm_X5_offWithout) (T : q_T J cX5_offWithout (some .long) Qp) (h_X0_become : q_Ct yX0_become wsX0_become rm_X0_become S_X0_become) (h_X3_measure : q_Ct yX3_measure wsX3_measure rm_X3_measure S_X3_measure) (h_X5_passOne : q_Ct yX5_passOne wsX5_passOne rm_X5_passOne S_X5_passOne) (h_X0_offTarget : q_Ct yX0_offTarget wsX0_offTarget rm_X0_offTarget S_X0_offTarget) : ∀ (σ : q_M) (lv : q_L) (st : q_S), k_X5_offWithout_58 Qp J σ lv st → J 58 σ lv st := fun σ lv st h =>
    so_aload_n E (i := 0) rfl dX5_offWithout_58 h fun σ lv st h =>
    so_get E (pp := 23) (fi := 1) (C := RX5) (T := TX5) (N := 5) (ref := "WheelDesk") ⟨rfl, rfl, rfl⟩ rfl fi_X5_offWithout_X5 (by decide) rfl (List.mem_of_getElem? (i := 1) rfl) dX5_offWithout_59 h fun σ lv st h =>
    so_callV E (n := 0) (pp := 0) (C := RX0) (T := TX0) (N := 11) (idx := 234) (maxL := 4) (ret := (some .long)) h_X0_offTarget ⟨rfl, rfl, rfl⟩ rfl gX5_offWithout_X0_offTarget rfl ⟨rfl, rfl⟩ (by decide +kernel) (by decide) dX5_offWithout_62 h fun σ lv st h =>
    so_lret T dX5_offWithout_65 h
set_option maxRecDepth 20000 in
theorem sb_X5_offWithout_39 {J : Nat → q_K} {l : Launch} {Qp : Option q_V → q_M → Prop} (E : q_E J cX5_offWithout RX5 wsX5_offWithout 4 l rm_X5_offWithout) (T : q_T J cX5_offWithout (some .long) Qp) (h_X0_become : q_Ct yX0_become wsX0_become rm_X0_become S_X0_become) (h_X3_measure : q_Ct yX3_measure wsX3_measure rm_X3_measure S_X3_measure) (h_X5_passOne : q_Ct yX5_passOne wsX5_passOne rm_X5_passOne S_X5_passOne) (h_X0_offTarget : q_Ct yX0_offTarget wsX0_offTarget rm_X0_offTarget S_X0_offTarget) : ∀ (σ : q_M) (lv : q_L) (st : q_S), k_X5_offWithout_39 Qp J σ lv st → J 39 σ lv st := fun σ lv st h =>
    so_iload_n E (i := 3) rfl dX5_offWithout_39 h fun σ lv st h =>
    so_iload_n E (i := 2) rfl dX5_offWithout_40 h fun σ lv st h =>
    so_icmpge E 58 (by decide) dX5_offWithout_41 (sb_X5_offWithout_58 E T h_X0_become h_X3_measure h_X5_passOne h_X0_offTarget) h fun σ lv st h =>
    so_aload_n E (i := 0) rfl dX5_offWithout_44 h fun σ lv st h =>
    so_aload_n E (i := 0) rfl dX5_offWithout_45 h fun σ lv st h =>
    so_get E (pp := 23) (fi := 1) (C := RX5) (T := TX5) (N := 5) (ref := "WheelDesk") ⟨rfl, rfl, rfl⟩ rfl fi_X5_offWithout_X5 (by decide) rfl (List.mem_of_getElem? (i := 1) rfl) dX5_offWithout_46 h fun σ lv st h =>
    so_callV E (n := 1) (pp := 23) (C := RX5) (T := TX5) (N := 5) (idx := 131) (maxL := 2) (ret := none) h_X5_passOne ⟨rfl, rfl, rfl⟩ rfl gX5_offWithout_X5_passOne rfl ⟨rfl, rfl⟩ (by decide +kernel) (by decide) dX5_offWithout_49 h fun σ lv st h =>
    so_iinc E (i := 3) (n := 1) (by decide) dX5_offWithout_52 h fun σ lv st h =>
    so_goto E 39 (by decide) dX5_offWithout_55 (fun _ _ _ h => h) h
theorem c_X5_offWithout (h_X0_become : q_Ct yX0_become wsX0_become rm_X0_become S_X0_become) (h_X3_measure : q_Ct yX3_measure wsX3_measure rm_X3_measure S_X3_measure) (h_X5_passOne : q_Ct yX5_passOne wsX5_passOne rm_X5_passOne S_X5_passOne) (h_X0_offTarget : q_Ct yX0_offTarget wsX0_offTarget rm_X0_offTarget S_X0_offTarget) : q_Ct yX5_offWithout wsX5_offWithout rm_X5_offWithout S_X5_offWithout := by
  refine q_met (cc := cX5_offWithout) (maxL := 4) (ret := (some .long)) (own := RX5) (by decide +kernel) rfl rfl (fun σ vs Qp h => ?_) (fun l J σ vs Qp E T h => ?_)
  · unfold S_X5_offWithout at h
    split at h
    · exact Nat.le_of_ble_eq_true rfl
    · exact h.elim
  · unfold S_X5_offWithout at h
    split at h
    · next c0 p0 k0 k t =>
      obtain ⟨rfl, rfl, rfl, h⟩ := h
      exact v_X5_offWithout (so_C E) (sb_X5_offWithout_0 E T h_X0_become h_X3_measure h_X5_passOne h_X0_offTarget) (sb_X5_offWithout_39 E T h_X0_become h_X3_measure h_X5_passOne h_X0_offTarget) h
    · exact h.elim
theorem cc_X5_offWithout : q_Ct yX5_offWithout wsX5_offWithout rm_X5_offWithout S_X5_offWithout := c_X5_offWithout cc_X0_become cc_X3_measure cc_X5_passOne cc_X0_offTarget

def rm_X5_gravest : Room := { frames := 6, cells := 0, slots := 0, locals := 147 }
theorem fi_X5_gravest_X5 : ∀ w ∈ u_ws RX5 TX5 5, w ∈ wsX5_gravest := fun w h => List.mem_cons_of_mem _ (List.mem_append_left _ (List.mem_append_left _ (List.mem_append_left _ (List.mem_append_left _ (List.mem_append_right _ h)))))
theorem fi_X5_gravest_X0 : ∀ w ∈ u_ws RX0 TX0 11, w ∈ wsX5_gravest := fun w h => List.mem_cons_of_mem _ (List.mem_append_left _ (List.mem_append_left _ (List.mem_append_left _ (List.mem_append_right _ h))))
theorem fi_X5_gravest_X4 : ∀ w ∈ u_ws RX4 TX4 6, w ∈ wsX5_gravest := fun w h => List.mem_cons_of_mem _ (List.mem_append_left _ (List.mem_append_left _ (List.mem_append_right _ h)))
theorem fi_X5_gravest_X3 : ∀ w ∈ u_ws RX3 TX3 4, w ∈ wsX5_gravest := fun w h => List.mem_cons_of_mem _ (List.mem_append_left _ (List.mem_append_right _ h))
theorem fi_X5_gravest_X2 : ∀ w ∈ u_ws RX2 TX2 2, w ∈ wsX5_gravest := fun w h => List.mem_cons_of_mem _ (List.mem_append_right _ h)
set_option maxRecDepth 20000 in
theorem sb_X5_gravest_13 {J : Nat → q_K} {l : Launch} {Qp : Option q_V → q_M → Prop} (E : q_E J cX5_gravest RX5 wsX5_gravest 8 l rm_X5_gravest) (T : q_T J cX5_gravest (some .int) Qp) (h_X5_isWithin : q_Ct yX5_isWithin wsX5_isWithin rm_X5_isWithin S_X5_isWithin) (h_X5_offWithout : q_Ct yX5_offWithout wsX5_offWithout rm_X5_offWithout S_X5_offWithout) : ∀ (σ : q_M) (lv : q_L) (st : q_S), k_X5_gravest_13 Qp J σ lv st → J 13 σ lv st := fun σ lv st h =>
    so_ldc E (x := -2000009) (idx := 126) (v := -2000009) (List.mem_of_getElem? (i := 2) rfl) rfl dX5_gravest_13 h fun σ lv st h =>
    so_istore_n E (i := 2) rfl (by decide) dX5_gravest_15 h fun σ lv st h =>
    so_lconst E (x := 0) rfl dX5_gravest_16 h fun σ lv st h =>
    so_lstore_n E (i := 3) rfl (by decide) dX5_gravest_17 h fun σ lv st h =>
    so_iconst E (x := 0) dX5_gravest_18 h fun σ lv st h =>
    so_istore E (i := 5) (by decide) dX5_gravest_19 h fun σ lv st h =>
    h
set_option maxRecDepth 20000 in
theorem sb_X5_gravest_0 {J : Nat → q_K} {l : Launch} {Qp : Option q_V → q_M → Prop} (E : q_E J cX5_gravest RX5 wsX5_gravest 8 l rm_X5_gravest) (T : q_T J cX5_gravest (some .int) Qp) (h_X5_isWithin : q_Ct yX5_isWithin wsX5_isWithin rm_X5_isWithin S_X5_isWithin) (h_X5_offWithout : q_Ct yX5_offWithout wsX5_offWithout rm_X5_offWithout S_X5_offWithout) : ∀ (σ : q_M) (lv : q_L) (st : q_S), k_X5_gravest_0 Qp J σ lv st → J 0 σ lv st := fun σ lv st h =>
    so_iload_n E (i := 1) rfl dX5_gravest_0 h fun σ lv st h =>
    so_iconst E (x := 1) dX5_gravest_1 h fun σ lv st h =>
    so_bipush E (x := 100) rfl dX5_gravest_2 h fun σ lv st h =>
    so_callT E (n := 3) (idx := 45) (maxL := 3) (ret := (some .boolean)) h_X5_isWithin gX5_gravest_X5_isWithin rfl ⟨rfl, rfl⟩ (by decide +kernel) (by decide) dX5_gravest_4 h fun σ lv st h =>
    so_ifne E 13 (by decide) dX5_gravest_7 (sb_X5_gravest_13 E T h_X5_isWithin h_X5_offWithout) h fun σ lv st h =>
    so_ldc E (x := -2000001) (idx := 49) (v := -2000001) (List.mem_of_getElem? (i := 1) rfl) rfl dX5_gravest_10 h fun σ lv st h =>
    so_iret T dX5_gravest_12 h
set_option maxRecDepth 20000 in
theorem sb_X5_gravest_86 {J : Nat → q_K} {l : Launch} {Qp : Option q_V → q_M → Prop} (E : q_E J cX5_gravest RX5 wsX5_gravest 8 l rm_X5_gravest) (T : q_T J cX5_gravest (some .int) Qp) (h_X5_isWithin : q_Ct yX5_isWithin wsX5_isWithin rm_X5_isWithin S_X5_isWithin) (h_X5_offWithout : q_Ct yX5_offWithout wsX5_offWithout rm_X5_offWithout S_X5_offWithout) : ∀ (σ : q_M) (lv : q_L) (st : q_S), k_X5_gravest_86 Qp J σ lv st → J 86 σ lv st := fun σ lv st h =>
    so_iload_n E (i := 2) rfl dX5_gravest_86 h fun σ lv st h =>
    so_iret T dX5_gravest_87 h
set_option maxRecDepth 20000 in
theorem sb_X5_gravest_80 {J : Nat → q_K} {l : Launch} {Qp : Option q_V → q_M → Prop} (E : q_E J cX5_gravest RX5 wsX5_gravest 8 l rm_X5_gravest) (T : q_T J cX5_gravest (some .int) Qp) (h_X5_isWithin : q_Ct yX5_isWithin wsX5_isWithin rm_X5_isWithin S_X5_isWithin) (h_X5_offWithout : q_Ct yX5_offWithout wsX5_offWithout rm_X5_offWithout S_X5_offWithout) : ∀ (σ : q_M) (lv : q_L) (st : q_S), k_X5_gravest_80 Qp J σ lv st → J 80 σ lv st := fun σ lv st h =>
    so_iinc E (i := 5) (n := 1) (by decide) dX5_gravest_80 h fun σ lv st h =>
    so_goto E 21 (by decide) dX5_gravest_83 (fun _ _ _ h => h) h
set_option maxRecDepth 20000 in
theorem sb_X5_gravest_74 {J : Nat → q_K} {l : Launch} {Qp : Option q_V → q_M → Prop} (E : q_E J cX5_gravest RX5 wsX5_gravest 8 l rm_X5_gravest) (T : q_T J cX5_gravest (some .int) Qp) (h_X5_isWithin : q_Ct yX5_isWithin wsX5_isWithin rm_X5_isWithin S_X5_isWithin) (h_X5_offWithout : q_Ct yX5_offWithout wsX5_offWithout rm_X5_offWithout S_X5_offWithout) : ∀ (σ : q_M) (lv : q_L) (st : q_S), k_X5_gravest_74 Qp J σ lv st → J 74 σ lv st := fun σ lv st h =>
    so_iload E (i := 5) dX5_gravest_74 h fun σ lv st h =>
    so_istore_n E (i := 2) rfl (by decide) dX5_gravest_76 h fun σ lv st h =>
    so_lload E (i := 6) dX5_gravest_77 h fun σ lv st h =>
    so_lstore_n E (i := 3) rfl (by decide) dX5_gravest_79 h fun σ lv st h =>
    (sb_X5_gravest_80 E T h_X5_isWithin h_X5_offWithout) σ lv st h
set_option maxRecDepth 20000 in
theorem sb_X5_gravest_52 {J : Nat → q_K} {l : Launch} {Qp : Option q_V → q_M → Prop} (E : q_E J cX5_gravest RX5 wsX5_gravest 8 l rm_X5_gravest) (T : q_T J cX5_gravest (some .int) Qp) (h_X5_isWithin : q_Ct yX5_isWithin wsX5_isWithin rm_X5_isWithin S_X5_isWithin) (h_X5_offWithout : q_Ct yX5_offWithout wsX5_offWithout rm_X5_offWithout S_X5_offWithout) : ∀ (σ : q_M) (lv : q_L) (st : q_S), k_X5_gravest_52 Qp J σ lv st → J 52 σ lv st := fun σ lv st h =>
    so_aload_n E (i := 0) rfl dX5_gravest_52 h fun σ lv st h =>
    so_iload E (i := 5) dX5_gravest_53 h fun σ lv st h =>
    so_iload_n E (i := 1) rfl dX5_gravest_55 h fun σ lv st h =>
    so_callV E (n := 2) (pp := 23) (C := RX5) (T := TX5) (N := 5) (idx := 175) (maxL := 4) (ret := (some .long)) h_X5_offWithout ⟨rfl, rfl, rfl⟩ rfl gX5_gravest_X5_offWithout rfl ⟨rfl, rfl⟩ (by decide +kernel) (by decide) dX5_gravest_56 h fun σ lv st h =>
    so_lstore E (i := 6) (by decide) dX5_gravest_59 h fun σ lv st h =>
    so_iload_n E (i := 2) rfl dX5_gravest_61 h fun σ lv st h =>
    so_ldc E (x := -2000009) (idx := 126) (v := -2000009) (List.mem_of_getElem? (i := 2) rfl) rfl dX5_gravest_62 h fun σ lv st h =>
    so_icmpeq E 74 (by decide) dX5_gravest_64 (sb_X5_gravest_74 E T h_X5_isWithin h_X5_offWithout) h fun σ lv st h =>
    so_lload E (i := 6) dX5_gravest_67 h fun σ lv st h =>
    so_lload_n E (i := 3) rfl dX5_gravest_69 h fun σ lv st h =>
    so_lcmp E dX5_gravest_70 h fun σ lv st h =>
    so_ifle E 80 (by decide) dX5_gravest_71 (sb_X5_gravest_80 E T h_X5_isWithin h_X5_offWithout) h fun σ lv st h =>
    (sb_X5_gravest_74 E T h_X5_isWithin h_X5_offWithout) σ lv st h
set_option maxRecDepth 20000 in
theorem sb_X5_gravest_21 {J : Nat → q_K} {l : Launch} {Qp : Option q_V → q_M → Prop} (E : q_E J cX5_gravest RX5 wsX5_gravest 8 l rm_X5_gravest) (T : q_T J cX5_gravest (some .int) Qp) (h_X5_isWithin : q_Ct yX5_isWithin wsX5_isWithin rm_X5_isWithin S_X5_isWithin) (h_X5_offWithout : q_Ct yX5_offWithout wsX5_offWithout rm_X5_offWithout S_X5_offWithout) : ∀ (σ : q_M) (lv : q_L) (st : q_S), k_X5_gravest_21 Qp J σ lv st → J 21 σ lv st := fun σ lv st h =>
    so_iload E (i := 5) dX5_gravest_21 h fun σ lv st h =>
    so_aload_n E (i := 0) rfl dX5_gravest_23 h fun σ lv st h =>
    so_get E (pp := 23) (fi := 0) (C := RX5) (T := TX5) (N := 5) (ref := "WheelDesk") ⟨rfl, rfl, rfl⟩ rfl fi_X5_gravest_X5 (by decide) rfl (List.mem_of_getElem? (i := 3) rfl) dX5_gravest_24 h fun σ lv st h =>
    so_get E (pp := 0) (fi := 8) (C := RX0) (T := TX0) (N := 11) (ref := "WheelDesk$Craft") ⟨rfl, rfl, rfl⟩ rfl fi_X5_gravest_X0 (by decide) rfl (List.mem_of_getElem? (i := 4) rfl) dX5_gravest_27 h fun σ lv st h =>
    so_icmpge E 86 (by decide) dX5_gravest_30 (sb_X5_gravest_86 E T h_X5_isWithin h_X5_offWithout) h fun σ lv st h =>
    so_aload_n E (i := 0) rfl dX5_gravest_33 h fun σ lv st h =>
    so_get E (pp := 23) (fi := 0) (C := RX5) (T := TX5) (N := 5) (ref := "WheelDesk") ⟨rfl, rfl, rfl⟩ rfl fi_X5_gravest_X5 (by decide) rfl (List.mem_of_getElem? (i := 3) rfl) dX5_gravest_34 h fun σ lv st h =>
    so_get E (pp := 0) (fi := 7) (C := RX0) (T := TX0) (N := 11) (ref := "WheelDesk$Craft") ⟨rfl, rfl, rfl⟩ rfl fi_X5_gravest_X0 (by decide) rfl (List.mem_of_getElem? (i := 5) rfl) dX5_gravest_37 h fun σ lv st h =>
    so_iload E (i := 5) dX5_gravest_40 h fun σ lv st h =>
    so_aald E dX5_gravest_42 h fun σ lv st h =>
    so_get E (pp := 10) (fi := 4) (C := RX4) (T := TX4) (N := 6) (ref := "WheelDesk$Wheel") ⟨rfl, rfl, rfl⟩ rfl fi_X5_gravest_X4 (by decide) rfl (List.mem_of_getElem? (i := 6) rfl) dX5_gravest_43 h fun σ lv st h =>
    so_ifeq E 52 (by decide) dX5_gravest_46 (sb_X5_gravest_52 E T h_X5_isWithin h_X5_offWithout) h fun σ lv st h =>
    so_goto E 80 (by decide) dX5_gravest_49 (sb_X5_gravest_80 E T h_X5_isWithin h_X5_offWithout) h
theorem c_X5_gravest (h_X5_isWithin : q_Ct yX5_isWithin wsX5_isWithin rm_X5_isWithin S_X5_isWithin) (h_X5_offWithout : q_Ct yX5_offWithout wsX5_offWithout rm_X5_offWithout S_X5_offWithout) : q_Ct yX5_gravest wsX5_gravest rm_X5_gravest S_X5_gravest := by
  refine q_met (cc := cX5_gravest) (maxL := 8) (ret := (some .int)) (own := RX5) (by decide +kernel) rfl rfl (fun σ vs Qp h => ?_) (fun l J σ vs Qp E T h => ?_)
  · unfold S_X5_gravest at h
    split at h
    · exact Nat.le_of_ble_eq_true rfl
    · exact h.elim
  · unfold S_X5_gravest at h
    split at h
    · next c0 p0 k0 t =>
      obtain ⟨rfl, rfl, rfl, h⟩ := h
      exact v_X5_gravest (so_C E) (sb_X5_gravest_0 E T h_X5_isWithin h_X5_offWithout) (sb_X5_gravest_21 E T h_X5_isWithin h_X5_offWithout) h
    · exact h.elim
theorem cc_X5_gravest : q_Ct yX5_gravest wsX5_gravest rm_X5_gravest S_X5_gravest := c_X5_gravest cc_X5_isWithin cc_X5_offWithout

