def rm_X1_giveBack : Room := { frames := 3, cells := 0, slots := 0, locals := 83 }
theorem fi_X1_giveBack_X1 : ∀ w ∈ u_ws RX1 TX1 2, w ∈ wsX1_giveBack := fun w h => List.mem_cons_of_mem _ (List.mem_append_left _ (List.mem_append_left _ (List.mem_append_right _ h)))
theorem fi_X1_giveBack_X0 : ∀ w ∈ u_ws RX0 TX0 11, w ∈ wsX1_giveBack := fun w h => List.mem_cons_of_mem _ (List.mem_append_left _ (List.mem_append_right _ h))
theorem fi_X1_giveBack_X4 : ∀ w ∈ u_ws RX4 TX4 6, w ∈ wsX1_giveBack := fun w h => List.mem_cons_of_mem _ (List.mem_append_right _ h)
set_option maxRecDepth 20000 in
theorem sb_X1_giveBack_10 {J : Nat → q_K} {l : Launch} {Qp : Option q_V → q_M → Prop} (E : q_E J cX1_giveBack RX1 wsX1_giveBack 2 l rm_X1_giveBack) (T : q_T J cX1_giveBack (some .int) Qp) (h_X0_become : q_Ct yX0_become wsX0_become rm_X0_become S_X0_become) : ∀ (σ : q_M) (lv : q_L) (st : q_S), k_X1_giveBack_10 Qp J σ lv st → J 10 σ lv st := fun σ lv st h =>
    so_aload_n E (i := 0) rfl dX1_giveBack_10 h fun σ lv st h =>
    so_dup E dX1_giveBack_11 h fun σ lv st h =>
    so_get E (pp := 21) (fi := 1) (C := RX1) (T := TX1) (N := 2) (ref := "WheelDesk$History") ⟨rfl, rfl, rfl⟩ rfl fi_X1_giveBack_X1 (by decide) rfl (List.mem_of_getElem? (i := 1) rfl) dX1_giveBack_12 h fun σ lv st h =>
    so_iconst E (x := 1) dX1_giveBack_15 h fun σ lv st h =>
    so_isub E dX1_giveBack_16 h fun σ lv st h =>
    so_puti E (pp := 21) (fi := 1) (sl := 0) (C := RX1) (T := TX1) (N := 2) (ref := "WheelDesk$History") ⟨rfl, rfl, rfl⟩ rfl fi_X1_giveBack_X1 tyX1 tyX1_ok nmX1 (by decide) rfl rfl rfl q_fs_21_1 (List.mem_of_getElem? (i := 1) rfl) dX1_giveBack_17 h fun σ lv st h =>
    so_aload_n E (i := 1) rfl dX1_giveBack_20 h fun σ lv st h =>
    so_aload_n E (i := 0) rfl dX1_giveBack_21 h fun σ lv st h =>
    so_get E (pp := 21) (fi := 0) (C := RX1) (T := TX1) (N := 2) (ref := "WheelDesk$History") ⟨rfl, rfl, rfl⟩ rfl fi_X1_giveBack_X1 (by decide) rfl (List.mem_of_getElem? (i := 3) rfl) dX1_giveBack_22 h fun σ lv st h =>
    so_aload_n E (i := 0) rfl dX1_giveBack_25 h fun σ lv st h =>
    so_get E (pp := 21) (fi := 1) (C := RX1) (T := TX1) (N := 2) (ref := "WheelDesk$History") ⟨rfl, rfl, rfl⟩ rfl fi_X1_giveBack_X1 (by decide) rfl (List.mem_of_getElem? (i := 1) rfl) dX1_giveBack_26 h fun σ lv st h =>
    so_aald E dX1_giveBack_29 h fun σ lv st h =>
    so_callV E (n := 1) (pp := 0) (C := RX0) (T := TX0) (N := 11) (idx := 25) (maxL := 3) (ret := none) h_X0_become ⟨rfl, rfl, rfl⟩ rfl gX1_giveBack_X0_become rfl ⟨rfl, rfl⟩ (by decide +kernel) (by decide) dX1_giveBack_30 h fun σ lv st h =>
    so_aload_n E (i := 0) rfl dX1_giveBack_33 h fun σ lv st h =>
    so_get E (pp := 21) (fi := 1) (C := RX1) (T := TX1) (N := 2) (ref := "WheelDesk$History") ⟨rfl, rfl, rfl⟩ rfl fi_X1_giveBack_X1 (by decide) rfl (List.mem_of_getElem? (i := 1) rfl) dX1_giveBack_34 h fun σ lv st h =>
    so_iret T dX1_giveBack_37 h
set_option maxRecDepth 20000 in
theorem sb_X1_giveBack_0 {J : Nat → q_K} {l : Launch} {Qp : Option q_V → q_M → Prop} (E : q_E J cX1_giveBack RX1 wsX1_giveBack 2 l rm_X1_giveBack) (T : q_T J cX1_giveBack (some .int) Qp) (h_X0_become : q_Ct yX0_become wsX0_become rm_X0_become S_X0_become) : ∀ (σ : q_M) (lv : q_L) (st : q_S), k_X1_giveBack_0 Qp J σ lv st → J 0 σ lv st := fun σ lv st h =>
    so_aload_n E (i := 0) rfl dX1_giveBack_0 h fun σ lv st h =>
    so_get E (pp := 21) (fi := 1) (C := RX1) (T := TX1) (N := 2) (ref := "WheelDesk$History") ⟨rfl, rfl, rfl⟩ rfl fi_X1_giveBack_X1 (by decide) rfl (List.mem_of_getElem? (i := 1) rfl) dX1_giveBack_1 h fun σ lv st h =>
    so_ifgt E 10 (by decide) dX1_giveBack_4 (sb_X1_giveBack_10 E T h_X0_become) h fun σ lv st h =>
    so_ldc E (x := -2000009) (idx := 29) (v := -2000009) (List.mem_of_getElem? (i := 2) rfl) rfl dX1_giveBack_7 h fun σ lv st h =>
    so_iret T dX1_giveBack_9 h
theorem c_X1_giveBack (h_X0_become : q_Ct yX0_become wsX0_become rm_X0_become S_X0_become) : q_Ct yX1_giveBack wsX1_giveBack rm_X1_giveBack S_X1_giveBack := by
  refine q_met (cc := cX1_giveBack) (maxL := 2) (ret := (some .int)) (own := RX1) (by decide +kernel) rfl rfl (fun σ vs Qp h => ?_) (fun l J σ vs Qp E T h => ?_)
  · unfold S_X1_giveBack at h
    split at h
    · exact Nat.le_of_ble_eq_true rfl
    · exact h.elim
  · unfold S_X1_giveBack at h
    split at h
    · next c0 p0 k0 c p1 k1 =>
      obtain ⟨rfl, rfl, rfl, rfl, rfl, h⟩ := h
      exact v_X1_giveBack (so_C E) (sb_X1_giveBack_0 E T h_X0_become) h
    · exact h.elim
theorem cc_X1_giveBack : q_Ct yX1_giveBack wsX1_giveBack rm_X1_giveBack S_X1_giveBack := c_X1_giveBack cc_X0_become

def rm_X5_undo : Room := { frames := 4, cells := 0, slots := 0, locals := 104 }
theorem fi_X5_undo_X5 : ∀ w ∈ u_ws RX5 TX5 5, w ∈ wsX5_undo := fun w h => List.mem_cons_of_mem _ (List.mem_append_left _ (List.mem_append_left _ (List.mem_append_left _ (List.mem_append_right _ h))))
theorem fi_X5_undo_X1 : ∀ w ∈ u_ws RX1 TX1 2, w ∈ wsX5_undo := fun w h => List.mem_cons_of_mem _ (List.mem_append_left _ (List.mem_append_left _ (List.mem_append_right _ h)))
theorem fi_X5_undo_X0 : ∀ w ∈ u_ws RX0 TX0 11, w ∈ wsX5_undo := fun w h => List.mem_cons_of_mem _ (List.mem_append_left _ (List.mem_append_right _ h))
theorem fi_X5_undo_X4 : ∀ w ∈ u_ws RX4 TX4 6, w ∈ wsX5_undo := fun w h => List.mem_cons_of_mem _ (List.mem_append_right _ h)
set_option maxRecDepth 20000 in
theorem sb_X5_undo_0 {J : Nat → q_K} {l : Launch} {Qp : Option q_V → q_M → Prop} (E : q_E J cX5_undo RX5 wsX5_undo 1 l rm_X5_undo) (T : q_T J cX5_undo (some .int) Qp) (h_X1_giveBack : q_Ct yX1_giveBack wsX1_giveBack rm_X1_giveBack S_X1_giveBack) : ∀ (σ : q_M) (lv : q_L) (st : q_S), k_X5_undo_0 Qp J σ lv st → J 0 σ lv st := fun σ lv st h =>
    so_aload_n E (i := 0) rfl dX5_undo_0 h fun σ lv st h =>
    so_get E (pp := 23) (fi := 4) (C := RX5) (T := TX5) (N := 5) (ref := "WheelDesk") ⟨rfl, rfl, rfl⟩ rfl fi_X5_undo_X5 (by decide) rfl (List.mem_of_getElem? (i := 1) rfl) dX5_undo_1 h fun σ lv st h =>
    so_aload_n E (i := 0) rfl dX5_undo_4 h fun σ lv st h =>
    so_get E (pp := 23) (fi := 0) (C := RX5) (T := TX5) (N := 5) (ref := "WheelDesk") ⟨rfl, rfl, rfl⟩ rfl fi_X5_undo_X5 (by decide) rfl (List.mem_of_getElem? (i := 2) rfl) dX5_undo_5 h fun σ lv st h =>
    so_callV E (n := 1) (pp := 21) (C := RX1) (T := TX1) (N := 2) (idx := 178) (maxL := 2) (ret := (some .int)) h_X1_giveBack ⟨rfl, rfl, rfl⟩ rfl gX5_undo_X1_giveBack rfl ⟨rfl, rfl⟩ (by decide +kernel) (by decide) dX5_undo_8 h fun σ lv st h =>
    so_iret T dX5_undo_11 h
theorem c_X5_undo (h_X1_giveBack : q_Ct yX1_giveBack wsX1_giveBack rm_X1_giveBack S_X1_giveBack) : q_Ct yX5_undo wsX5_undo rm_X5_undo S_X5_undo := by
  refine q_met (cc := cX5_undo) (maxL := 1) (ret := (some .int)) (own := RX5) (by decide +kernel) rfl rfl (fun σ vs Qp h => ?_) (fun l J σ vs Qp E T h => ?_)
  · unfold S_X5_undo at h
    split at h
    · exact Nat.le_of_ble_eq_true rfl
    · exact h.elim
  · unfold S_X5_undo at h
    split at h
    · next c0 p0 k0 =>
      obtain ⟨rfl, rfl, rfl, h⟩ := h
      exact v_X5_undo (so_C E) (sb_X5_undo_0 E T h_X1_giveBack) h
    · exact h.elim
theorem cc_X5_undo : q_Ct yX5_undo wsX5_undo rm_X5_undo S_X5_undo := c_X5_undo cc_X1_giveBack

def rm_X5_mixed : Room := { frames := 0, cells := 0, slots := 0, locals := 0 }
set_option maxRecDepth 20000 in
theorem sb_X5_mixed_0 {J : Nat → q_K} {l : Launch} {Qp : Option q_V → q_M → Prop} (E : q_E J cX5_mixed RX5 wsX5_mixed 4 l rm_X5_mixed) (T : q_T J cX5_mixed (some .long) Qp) : ∀ (σ : q_M) (lv : q_L) (st : q_S), k_X5_mixed_0 Qp J σ lv st → J 0 σ lv st := fun σ lv st h =>
    so_ldc2 E (x := 31) (idx := 212) (v := 31) (List.mem_of_getElem? (i := 1) rfl) rfl dX5_mixed_0 h fun σ lv st h =>
    so_lload_n E (i := 0) rfl dX5_mixed_3 h fun σ lv st h =>
    so_lmul E dX5_mixed_4 h fun σ lv st h =>
    so_lload_n E (i := 2) rfl dX5_mixed_5 h fun σ lv st h =>
    so_ladd E dX5_mixed_6 h fun σ lv st h =>
    so_lret T dX5_mixed_7 h
theorem c_X5_mixed : q_Ct yX5_mixed wsX5_mixed rm_X5_mixed S_X5_mixed := by
  refine q_met (cc := cX5_mixed) (maxL := 4) (ret := (some .long)) (own := RX5) (by decide +kernel) rfl rfl (fun σ vs Qp h => ?_) (fun l J σ vs Qp E T h => ?_)
  · unfold S_X5_mixed at h
    split at h
    · exact Nat.le_of_ble_eq_true rfl
    · exact h.elim
  · unfold S_X5_mixed at h
    split at h
    · next x y =>
      exact v_X5_mixed (so_C E) (sb_X5_mixed_0 E T) h
    · exact h.elim
theorem cc_X5_mixed : q_Ct yX5_mixed wsX5_mixed rm_X5_mixed S_X5_mixed := c_X5_mixed

def rm_X5_fingerprint : Room := { frames := 5, cells := 0, slots := 0, locals := 113 }
theorem fi_X5_fingerprint_X5 : ∀ w ∈ u_ws RX5 TX5 5, w ∈ wsX5_fingerprint := fun w h => List.mem_cons_of_mem _ (List.mem_append_left _ (List.mem_append_left _ (List.mem_append_left _ (List.mem_append_right _ h))))
theorem fi_X5_fingerprint_X0 : ∀ w ∈ u_ws RX0 TX0 11, w ∈ wsX5_fingerprint := fun w h => List.mem_cons_of_mem _ (List.mem_append_left _ (List.mem_append_left _ (List.mem_append_right _ h)))
theorem fi_X5_fingerprint_X4 : ∀ w ∈ u_ws RX4 TX4 6, w ∈ wsX5_fingerprint := fun w h => List.mem_cons_of_mem _ (List.mem_append_left _ (List.mem_append_right _ h))
theorem fi_X5_fingerprint_X3 : ∀ w ∈ u_ws RX3 TX3 4, w ∈ wsX5_fingerprint := fun w h => List.mem_cons_of_mem _ (List.mem_append_right _ h)
set_option maxRecDepth 20000 in
theorem sb_X5_fingerprint_0 {J : Nat → q_K} {l : Launch} {Qp : Option q_V → q_M → Prop} (E : q_E J cX5_fingerprint RX5 wsX5_fingerprint 5 l rm_X5_fingerprint) (T : q_T J cX5_fingerprint (some .long) Qp) (h_X5_time : q_Ct yX5_time wsX5_time rm_X5_time S_X5_time) (h_X5_mixed : q_Ct yX5_mixed wsX5_mixed rm_X5_mixed S_X5_mixed) (h_X5_setting : q_Ct yX5_setting wsX5_setting rm_X5_setting S_X5_setting) (h_X5_axis : q_Ct yX5_axis wsX5_axis rm_X5_axis S_X5_axis) (h_X5_wheels : q_Ct yX5_wheels wsX5_wheels rm_X5_wheels S_X5_wheels) (h_X5_wheel : q_Ct yX5_wheel wsX5_wheel rm_X5_wheel S_X5_wheel) (h_X5_span : q_Ct yX5_span wsX5_span rm_X5_span S_X5_span) (h_X5_why : q_Ct yX5_why wsX5_why rm_X5_why S_X5_why) : ∀ (σ : q_M) (lv : q_L) (st : q_S), k_X5_fingerprint_0 Qp J σ lv st → J 0 σ lv st := fun σ lv st h =>
    so_ldc2 E (x := 173) (idx := 182) (v := 173) (List.mem_of_getElem? (i := 1) rfl) rfl dX5_fingerprint_0 h fun σ lv st h =>
    so_aload_n E (i := 0) rfl dX5_fingerprint_3 h fun σ lv st h =>
    so_callV E (n := 0) (pp := 23) (C := RX5) (T := TX5) (N := 5) (idx := 184) (maxL := 1) (ret := (some .int)) h_X5_time ⟨rfl, rfl, rfl⟩ rfl gX5_fingerprint_X5_time rfl ⟨rfl, rfl⟩ (by decide +kernel) (by decide) dX5_fingerprint_4 h fun σ lv st h =>
    so_i2l E dX5_fingerprint_7 h fun σ lv st h =>
    so_callT E (n := 2) (idx := 188) (maxL := 4) (ret := (some .long)) h_X5_mixed gX5_fingerprint_X5_mixed rfl ⟨rfl, rfl⟩ (by decide +kernel) (by decide) dX5_fingerprint_8 h fun σ lv st h =>
    so_lstore_n E (i := 1) rfl (by decide) dX5_fingerprint_11 h fun σ lv st h =>
    so_iconst E (x := 0) dX5_fingerprint_12 h fun σ lv st h =>
    so_istore_n E (i := 3) rfl (by decide) dX5_fingerprint_13 h fun σ lv st h =>
    h
set_option maxRecDepth 20000 in
theorem sb_X5_fingerprint_36 {J : Nat → q_K} {l : Launch} {Qp : Option q_V → q_M → Prop} (E : q_E J cX5_fingerprint RX5 wsX5_fingerprint 5 l rm_X5_fingerprint) (T : q_T J cX5_fingerprint (some .long) Qp) (h_X5_time : q_Ct yX5_time wsX5_time rm_X5_time S_X5_time) (h_X5_mixed : q_Ct yX5_mixed wsX5_mixed rm_X5_mixed S_X5_mixed) (h_X5_setting : q_Ct yX5_setting wsX5_setting rm_X5_setting S_X5_setting) (h_X5_axis : q_Ct yX5_axis wsX5_axis rm_X5_axis S_X5_axis) (h_X5_wheels : q_Ct yX5_wheels wsX5_wheels rm_X5_wheels S_X5_wheels) (h_X5_wheel : q_Ct yX5_wheel wsX5_wheel rm_X5_wheel S_X5_wheel) (h_X5_span : q_Ct yX5_span wsX5_span rm_X5_span S_X5_span) (h_X5_why : q_Ct yX5_why wsX5_why rm_X5_why S_X5_why) : ∀ (σ : q_M) (lv : q_L) (st : q_S), k_X5_fingerprint_36 Qp J σ lv st → J 36 σ lv st := fun σ lv st h =>
    so_iconst E (x := 0) dX5_fingerprint_36 h fun σ lv st h =>
    so_istore_n E (i := 3) rfl (by decide) dX5_fingerprint_37 h fun σ lv st h =>
    h
set_option maxRecDepth 20000 in
theorem sb_X5_fingerprint_14 {J : Nat → q_K} {l : Launch} {Qp : Option q_V → q_M → Prop} (E : q_E J cX5_fingerprint RX5 wsX5_fingerprint 5 l rm_X5_fingerprint) (T : q_T J cX5_fingerprint (some .long) Qp) (h_X5_time : q_Ct yX5_time wsX5_time rm_X5_time S_X5_time) (h_X5_mixed : q_Ct yX5_mixed wsX5_mixed rm_X5_mixed S_X5_mixed) (h_X5_setting : q_Ct yX5_setting wsX5_setting rm_X5_setting S_X5_setting) (h_X5_axis : q_Ct yX5_axis wsX5_axis rm_X5_axis S_X5_axis) (h_X5_wheels : q_Ct yX5_wheels wsX5_wheels rm_X5_wheels S_X5_wheels) (h_X5_wheel : q_Ct yX5_wheel wsX5_wheel rm_X5_wheel S_X5_wheel) (h_X5_span : q_Ct yX5_span wsX5_span rm_X5_span S_X5_span) (h_X5_why : q_Ct yX5_why wsX5_why rm_X5_why S_X5_why) : ∀ (σ : q_M) (lv : q_L) (st : q_S), k_X5_fingerprint_14 Qp J σ lv st → J 14 σ lv st := fun σ lv st h =>
    so_iload_n E (i := 3) rfl dX5_fingerprint_14 h fun σ lv st h =>
    so_iconst E (x := 5) dX5_fingerprint_15 h fun σ lv st h =>
    so_icmpge E 36 (by decide) dX5_fingerprint_16 (sb_X5_fingerprint_36 E T h_X5_time h_X5_mixed h_X5_setting h_X5_axis h_X5_wheels h_X5_wheel h_X5_span h_X5_why) h fun σ lv st h =>
    so_lload_n E (i := 1) rfl dX5_fingerprint_19 h fun σ lv st h =>
    so_aload_n E (i := 0) rfl dX5_fingerprint_20 h fun σ lv st h =>
    so_iload_n E (i := 3) rfl dX5_fingerprint_21 h fun σ lv st h =>
    so_callV E (n := 1) (pp := 23) (C := RX5) (T := TX5) (N := 5) (idx := 192) (maxL := 2) (ret := (some .int)) h_X5_setting ⟨rfl, rfl, rfl⟩ rfl gX5_fingerprint_X5_setting rfl ⟨rfl, rfl⟩ (by decide +kernel) (by decide) dX5_fingerprint_22 h fun σ lv st h =>
    so_i2l E dX5_fingerprint_25 h fun σ lv st h =>
    so_callT E (n := 2) (idx := 188) (maxL := 4) (ret := (some .long)) h_X5_mixed gX5_fingerprint_X5_mixed rfl ⟨rfl, rfl⟩ (by decide +kernel) (by decide) dX5_fingerprint_26 h fun σ lv st h =>
    so_lstore_n E (i := 1) rfl (by decide) dX5_fingerprint_29 h fun σ lv st h =>
    so_iinc E (i := 3) (n := 1) (by decide) dX5_fingerprint_30 h fun σ lv st h =>
    so_goto E 14 (by decide) dX5_fingerprint_33 (fun _ _ _ h => h) h
set_option maxRecDepth 20000 in
theorem sb_X5_fingerprint_77 {J : Nat → q_K} {l : Launch} {Qp : Option q_V → q_M → Prop} (E : q_E J cX5_fingerprint RX5 wsX5_fingerprint 5 l rm_X5_fingerprint) (T : q_T J cX5_fingerprint (some .long) Qp) (h_X5_time : q_Ct yX5_time wsX5_time rm_X5_time S_X5_time) (h_X5_mixed : q_Ct yX5_mixed wsX5_mixed rm_X5_mixed S_X5_mixed) (h_X5_setting : q_Ct yX5_setting wsX5_setting rm_X5_setting S_X5_setting) (h_X5_axis : q_Ct yX5_axis wsX5_axis rm_X5_axis S_X5_axis) (h_X5_wheels : q_Ct yX5_wheels wsX5_wheels rm_X5_wheels S_X5_wheels) (h_X5_wheel : q_Ct yX5_wheel wsX5_wheel rm_X5_wheel S_X5_wheel) (h_X5_span : q_Ct yX5_span wsX5_span rm_X5_span S_X5_span) (h_X5_why : q_Ct yX5_why wsX5_why rm_X5_why S_X5_why) : ∀ (σ : q_M) (lv : q_L) (st : q_S), k_X5_fingerprint_77 Qp J σ lv st → J 77 σ lv st := fun σ lv st h =>
    so_lload_n E (i := 1) rfl dX5_fingerprint_77 h fun σ lv st h =>
    so_aload_n E (i := 0) rfl dX5_fingerprint_78 h fun σ lv st h =>
    so_callV E (n := 0) (pp := 23) (C := RX5) (T := TX5) (N := 5) (idx := 198) (maxL := 1) (ret := (some .int)) h_X5_wheels ⟨rfl, rfl, rfl⟩ rfl gX5_fingerprint_X5_wheels rfl ⟨rfl, rfl⟩ (by decide +kernel) (by decide) dX5_fingerprint_79 h fun σ lv st h =>
    so_i2l E dX5_fingerprint_82 h fun σ lv st h =>
    so_callT E (n := 2) (idx := 188) (maxL := 4) (ret := (some .long)) h_X5_mixed gX5_fingerprint_X5_mixed rfl ⟨rfl, rfl⟩ (by decide +kernel) (by decide) dX5_fingerprint_83 h fun σ lv st h =>
    so_lstore_n E (i := 1) rfl (by decide) dX5_fingerprint_86 h fun σ lv st h =>
    so_iconst E (x := 0) dX5_fingerprint_87 h fun σ lv st h =>
    so_istore_n E (i := 3) rfl (by decide) dX5_fingerprint_88 h fun σ lv st h =>
    h
set_option maxRecDepth 20000 in
theorem sb_X5_fingerprint_38 {J : Nat → q_K} {l : Launch} {Qp : Option q_V → q_M → Prop} (E : q_E J cX5_fingerprint RX5 wsX5_fingerprint 5 l rm_X5_fingerprint) (T : q_T J cX5_fingerprint (some .long) Qp) (h_X5_time : q_Ct yX5_time wsX5_time rm_X5_time S_X5_time) (h_X5_mixed : q_Ct yX5_mixed wsX5_mixed rm_X5_mixed S_X5_mixed) (h_X5_setting : q_Ct yX5_setting wsX5_setting rm_X5_setting S_X5_setting) (h_X5_axis : q_Ct yX5_axis wsX5_axis rm_X5_axis S_X5_axis) (h_X5_wheels : q_Ct yX5_wheels wsX5_wheels rm_X5_wheels S_X5_wheels) (h_X5_wheel : q_Ct yX5_wheel wsX5_wheel rm_X5_wheel S_X5_wheel) (h_X5_span : q_Ct yX5_span wsX5_span rm_X5_span S_X5_span) (h_X5_why : q_Ct yX5_why wsX5_why rm_X5_why S_X5_why) : ∀ (σ : q_M) (lv : q_L) (st : q_S), k_X5_fingerprint_38 Qp J σ lv st → J 38 σ lv st := fun σ lv st h =>
    so_iload_n E (i := 3) rfl dX5_fingerprint_38 h fun σ lv st h =>
    so_iconst E (x := 3) dX5_fingerprint_39 h fun σ lv st h =>
    so_icmpge E 77 (by decide) dX5_fingerprint_40 (sb_X5_fingerprint_77 E T h_X5_time h_X5_mixed h_X5_setting h_X5_axis h_X5_wheels h_X5_wheel h_X5_span h_X5_why) h fun σ lv st h =>
    so_iconst E (x := 0) dX5_fingerprint_43 h fun σ lv st h =>
    so_istore E (i := 4) (by decide) dX5_fingerprint_44 h fun σ lv st h =>
    h
set_option maxRecDepth 20000 in
theorem sb_X5_fingerprint_71 {J : Nat → q_K} {l : Launch} {Qp : Option q_V → q_M → Prop} (E : q_E J cX5_fingerprint RX5 wsX5_fingerprint 5 l rm_X5_fingerprint) (T : q_T J cX5_fingerprint (some .long) Qp) (h_X5_time : q_Ct yX5_time wsX5_time rm_X5_time S_X5_time) (h_X5_mixed : q_Ct yX5_mixed wsX5_mixed rm_X5_mixed S_X5_mixed) (h_X5_setting : q_Ct yX5_setting wsX5_setting rm_X5_setting S_X5_setting) (h_X5_axis : q_Ct yX5_axis wsX5_axis rm_X5_axis S_X5_axis) (h_X5_wheels : q_Ct yX5_wheels wsX5_wheels rm_X5_wheels S_X5_wheels) (h_X5_wheel : q_Ct yX5_wheel wsX5_wheel rm_X5_wheel S_X5_wheel) (h_X5_span : q_Ct yX5_span wsX5_span rm_X5_span S_X5_span) (h_X5_why : q_Ct yX5_why wsX5_why rm_X5_why S_X5_why) : ∀ (σ : q_M) (lv : q_L) (st : q_S), k_X5_fingerprint_71 Qp J σ lv st → J 71 σ lv st := fun σ lv st h =>
    so_iinc E (i := 3) (n := 1) (by decide) dX5_fingerprint_71 h fun σ lv st h =>
    so_goto E 38 (by decide) dX5_fingerprint_74 (fun _ _ _ h => h) h
set_option maxRecDepth 20000 in
theorem sb_X5_fingerprint_46 {J : Nat → q_K} {l : Launch} {Qp : Option q_V → q_M → Prop} (E : q_E J cX5_fingerprint RX5 wsX5_fingerprint 5 l rm_X5_fingerprint) (T : q_T J cX5_fingerprint (some .long) Qp) (h_X5_time : q_Ct yX5_time wsX5_time rm_X5_time S_X5_time) (h_X5_mixed : q_Ct yX5_mixed wsX5_mixed rm_X5_mixed S_X5_mixed) (h_X5_setting : q_Ct yX5_setting wsX5_setting rm_X5_setting S_X5_setting) (h_X5_axis : q_Ct yX5_axis wsX5_axis rm_X5_axis S_X5_axis) (h_X5_wheels : q_Ct yX5_wheels wsX5_wheels rm_X5_wheels S_X5_wheels) (h_X5_wheel : q_Ct yX5_wheel wsX5_wheel rm_X5_wheel S_X5_wheel) (h_X5_span : q_Ct yX5_span wsX5_span rm_X5_span S_X5_span) (h_X5_why : q_Ct yX5_why wsX5_why rm_X5_why S_X5_why) : ∀ (σ : q_M) (lv : q_L) (st : q_S), k_X5_fingerprint_46 Qp J σ lv st → J 46 σ lv st := fun σ lv st h =>
    so_iload E (i := 4) dX5_fingerprint_46 h fun σ lv st h =>
    so_bipush E (x := 10) rfl dX5_fingerprint_48 h fun σ lv st h =>
    so_icmpge E 71 (by decide) dX5_fingerprint_50 (sb_X5_fingerprint_71 E T h_X5_time h_X5_mixed h_X5_setting h_X5_axis h_X5_wheels h_X5_wheel h_X5_span h_X5_why) h fun σ lv st h =>
    so_lload_n E (i := 1) rfl dX5_fingerprint_53 h fun σ lv st h =>
    so_aload_n E (i := 0) rfl dX5_fingerprint_54 h fun σ lv st h =>
    so_iload_n E (i := 3) rfl dX5_fingerprint_55 h fun σ lv st h =>
    so_iload E (i := 4) dX5_fingerprint_56 h fun σ lv st h =>
    so_callV E (n := 2) (pp := 23) (C := RX5) (T := TX5) (N := 5) (idx := 195) (maxL := 3) (ret := (some .long)) h_X5_axis ⟨rfl, rfl, rfl⟩ rfl gX5_fingerprint_X5_axis rfl ⟨rfl, rfl⟩ (by decide +kernel) (by decide) dX5_fingerprint_58 h fun σ lv st h =>
    so_callT E (n := 2) (idx := 188) (maxL := 4) (ret := (some .long)) h_X5_mixed gX5_fingerprint_X5_mixed rfl ⟨rfl, rfl⟩ (by decide +kernel) (by decide) dX5_fingerprint_61 h fun σ lv st h =>
    so_lstore_n E (i := 1) rfl (by decide) dX5_fingerprint_64 h fun σ lv st h =>
    so_iinc E (i := 4) (n := 1) (by decide) dX5_fingerprint_65 h fun σ lv st h =>
    so_goto E 46 (by decide) dX5_fingerprint_68 (fun _ _ _ h => h) h
set_option maxRecDepth 20000 in
theorem sb_X5_fingerprint_135 {J : Nat → q_K} {l : Launch} {Qp : Option q_V → q_M → Prop} (E : q_E J cX5_fingerprint RX5 wsX5_fingerprint 5 l rm_X5_fingerprint) (T : q_T J cX5_fingerprint (some .long) Qp) (h_X5_time : q_Ct yX5_time wsX5_time rm_X5_time S_X5_time) (h_X5_mixed : q_Ct yX5_mixed wsX5_mixed rm_X5_mixed S_X5_mixed) (h_X5_setting : q_Ct yX5_setting wsX5_setting rm_X5_setting S_X5_setting) (h_X5_axis : q_Ct yX5_axis wsX5_axis rm_X5_axis S_X5_axis) (h_X5_wheels : q_Ct yX5_wheels wsX5_wheels rm_X5_wheels S_X5_wheels) (h_X5_wheel : q_Ct yX5_wheel wsX5_wheel rm_X5_wheel S_X5_wheel) (h_X5_span : q_Ct yX5_span wsX5_span rm_X5_span S_X5_span) (h_X5_why : q_Ct yX5_why wsX5_why rm_X5_why S_X5_why) : ∀ (σ : q_M) (lv : q_L) (st : q_S), k_X5_fingerprint_135 Qp J σ lv st → J 135 σ lv st := fun σ lv st h =>
    so_lload_n E (i := 1) rfl dX5_fingerprint_135 h fun σ lv st h =>
    so_aload_n E (i := 0) rfl dX5_fingerprint_136 h fun σ lv st h =>
    so_callV E (n := 0) (pp := 23) (C := RX5) (T := TX5) (N := 5) (idx := 205) (maxL := 1) (ret := (some .long)) h_X5_span ⟨rfl, rfl, rfl⟩ rfl gX5_fingerprint_X5_span rfl ⟨rfl, rfl⟩ (by decide +kernel) (by decide) dX5_fingerprint_137 h fun σ lv st h =>
    so_callT E (n := 2) (idx := 188) (maxL := 4) (ret := (some .long)) h_X5_mixed gX5_fingerprint_X5_mixed rfl ⟨rfl, rfl⟩ (by decide +kernel) (by decide) dX5_fingerprint_140 h fun σ lv st h =>
    so_lstore_n E (i := 1) rfl (by decide) dX5_fingerprint_143 h fun σ lv st h =>
    so_iconst E (x := 0) dX5_fingerprint_144 h fun σ lv st h =>
    so_istore_n E (i := 3) rfl (by decide) dX5_fingerprint_145 h fun σ lv st h =>
    h
set_option maxRecDepth 20000 in
theorem sb_X5_fingerprint_89 {J : Nat → q_K} {l : Launch} {Qp : Option q_V → q_M → Prop} (E : q_E J cX5_fingerprint RX5 wsX5_fingerprint 5 l rm_X5_fingerprint) (T : q_T J cX5_fingerprint (some .long) Qp) (h_X5_time : q_Ct yX5_time wsX5_time rm_X5_time S_X5_time) (h_X5_mixed : q_Ct yX5_mixed wsX5_mixed rm_X5_mixed S_X5_mixed) (h_X5_setting : q_Ct yX5_setting wsX5_setting rm_X5_setting S_X5_setting) (h_X5_axis : q_Ct yX5_axis wsX5_axis rm_X5_axis S_X5_axis) (h_X5_wheels : q_Ct yX5_wheels wsX5_wheels rm_X5_wheels S_X5_wheels) (h_X5_wheel : q_Ct yX5_wheel wsX5_wheel rm_X5_wheel S_X5_wheel) (h_X5_span : q_Ct yX5_span wsX5_span rm_X5_span S_X5_span) (h_X5_why : q_Ct yX5_why wsX5_why rm_X5_why S_X5_why) : ∀ (σ : q_M) (lv : q_L) (st : q_S), k_X5_fingerprint_89 Qp J σ lv st → J 89 σ lv st := fun σ lv st h =>
    so_iload_n E (i := 3) rfl dX5_fingerprint_89 h fun σ lv st h =>
    so_aload_n E (i := 0) rfl dX5_fingerprint_90 h fun σ lv st h =>
    so_get E (pp := 23) (fi := 0) (C := RX5) (T := TX5) (N := 5) (ref := "WheelDesk") ⟨rfl, rfl, rfl⟩ rfl fi_X5_fingerprint_X5 (by decide) rfl (List.mem_of_getElem? (i := 2) rfl) dX5_fingerprint_91 h fun σ lv st h =>
    so_get E (pp := 0) (fi := 8) (C := RX0) (T := TX0) (N := 11) (ref := "WheelDesk$Craft") ⟨rfl, rfl, rfl⟩ rfl fi_X5_fingerprint_X0 (by decide) rfl (List.mem_of_getElem? (i := 3) rfl) dX5_fingerprint_94 h fun σ lv st h =>
    so_icmpge E 135 (by decide) dX5_fingerprint_97 (sb_X5_fingerprint_135 E T h_X5_time h_X5_mixed h_X5_setting h_X5_axis h_X5_wheels h_X5_wheel h_X5_span h_X5_why) h fun σ lv st h =>
    so_iconst E (x := 0) dX5_fingerprint_100 h fun σ lv st h =>
    so_istore E (i := 4) (by decide) dX5_fingerprint_101 h fun σ lv st h =>
    h
set_option maxRecDepth 20000 in
theorem sb_X5_fingerprint_129 {J : Nat → q_K} {l : Launch} {Qp : Option q_V → q_M → Prop} (E : q_E J cX5_fingerprint RX5 wsX5_fingerprint 5 l rm_X5_fingerprint) (T : q_T J cX5_fingerprint (some .long) Qp) (h_X5_time : q_Ct yX5_time wsX5_time rm_X5_time S_X5_time) (h_X5_mixed : q_Ct yX5_mixed wsX5_mixed rm_X5_mixed S_X5_mixed) (h_X5_setting : q_Ct yX5_setting wsX5_setting rm_X5_setting S_X5_setting) (h_X5_axis : q_Ct yX5_axis wsX5_axis rm_X5_axis S_X5_axis) (h_X5_wheels : q_Ct yX5_wheels wsX5_wheels rm_X5_wheels S_X5_wheels) (h_X5_wheel : q_Ct yX5_wheel wsX5_wheel rm_X5_wheel S_X5_wheel) (h_X5_span : q_Ct yX5_span wsX5_span rm_X5_span S_X5_span) (h_X5_why : q_Ct yX5_why wsX5_why rm_X5_why S_X5_why) : ∀ (σ : q_M) (lv : q_L) (st : q_S), k_X5_fingerprint_129 Qp J σ lv st → J 129 σ lv st := fun σ lv st h =>
    so_iinc E (i := 3) (n := 1) (by decide) dX5_fingerprint_129 h fun σ lv st h =>
    so_goto E 89 (by decide) dX5_fingerprint_132 (fun _ _ _ h => h) h
set_option maxRecDepth 20000 in
theorem sb_X5_fingerprint_103 {J : Nat → q_K} {l : Launch} {Qp : Option q_V → q_M → Prop} (E : q_E J cX5_fingerprint RX5 wsX5_fingerprint 5 l rm_X5_fingerprint) (T : q_T J cX5_fingerprint (some .long) Qp) (h_X5_time : q_Ct yX5_time wsX5_time rm_X5_time S_X5_time) (h_X5_mixed : q_Ct yX5_mixed wsX5_mixed rm_X5_mixed S_X5_mixed) (h_X5_setting : q_Ct yX5_setting wsX5_setting rm_X5_setting S_X5_setting) (h_X5_axis : q_Ct yX5_axis wsX5_axis rm_X5_axis S_X5_axis) (h_X5_wheels : q_Ct yX5_wheels wsX5_wheels rm_X5_wheels S_X5_wheels) (h_X5_wheel : q_Ct yX5_wheel wsX5_wheel rm_X5_wheel S_X5_wheel) (h_X5_span : q_Ct yX5_span wsX5_span rm_X5_span S_X5_span) (h_X5_why : q_Ct yX5_why wsX5_why rm_X5_why S_X5_why) : ∀ (σ : q_M) (lv : q_L) (st : q_S), k_X5_fingerprint_103 Qp J σ lv st → J 103 σ lv st := fun σ lv st h =>
    so_iload E (i := 4) dX5_fingerprint_103 h fun σ lv st h =>
    so_bipush E (x := 8) rfl dX5_fingerprint_105 h fun σ lv st h =>
    so_icmpge E 129 (by decide) dX5_fingerprint_107 (sb_X5_fingerprint_129 E T h_X5_time h_X5_mixed h_X5_setting h_X5_axis h_X5_wheels h_X5_wheel h_X5_span h_X5_why) h fun σ lv st h =>
    so_lload_n E (i := 1) rfl dX5_fingerprint_110 h fun σ lv st h =>
    so_aload_n E (i := 0) rfl dX5_fingerprint_111 h fun σ lv st h =>
    so_iload_n E (i := 3) rfl dX5_fingerprint_112 h fun σ lv st h =>
    so_iload E (i := 4) dX5_fingerprint_113 h fun σ lv st h =>
    so_callV E (n := 2) (pp := 23) (C := RX5) (T := TX5) (N := 5) (idx := 201) (maxL := 3) (ret := (some .int)) h_X5_wheel ⟨rfl, rfl, rfl⟩ rfl gX5_fingerprint_X5_wheel rfl ⟨rfl, rfl⟩ (by decide +kernel) (by decide) dX5_fingerprint_115 h fun σ lv st h =>
    so_i2l E dX5_fingerprint_118 h fun σ lv st h =>
    so_callT E (n := 2) (idx := 188) (maxL := 4) (ret := (some .long)) h_X5_mixed gX5_fingerprint_X5_mixed rfl ⟨rfl, rfl⟩ (by decide +kernel) (by decide) dX5_fingerprint_119 h fun σ lv st h =>
    so_lstore_n E (i := 1) rfl (by decide) dX5_fingerprint_122 h fun σ lv st h =>
    so_iinc E (i := 4) (n := 1) (by decide) dX5_fingerprint_123 h fun σ lv st h =>
    so_goto E 103 (by decide) dX5_fingerprint_126 (fun _ _ _ h => h) h
set_option maxRecDepth 20000 in
theorem sb_X5_fingerprint_174 {J : Nat → q_K} {l : Launch} {Qp : Option q_V → q_M → Prop} (E : q_E J cX5_fingerprint RX5 wsX5_fingerprint 5 l rm_X5_fingerprint) (T : q_T J cX5_fingerprint (some .long) Qp) (h_X5_time : q_Ct yX5_time wsX5_time rm_X5_time S_X5_time) (h_X5_mixed : q_Ct yX5_mixed wsX5_mixed rm_X5_mixed S_X5_mixed) (h_X5_setting : q_Ct yX5_setting wsX5_setting rm_X5_setting S_X5_setting) (h_X5_axis : q_Ct yX5_axis wsX5_axis rm_X5_axis S_X5_axis) (h_X5_wheels : q_Ct yX5_wheels wsX5_wheels rm_X5_wheels S_X5_wheels) (h_X5_wheel : q_Ct yX5_wheel wsX5_wheel rm_X5_wheel S_X5_wheel) (h_X5_span : q_Ct yX5_span wsX5_span rm_X5_span S_X5_span) (h_X5_why : q_Ct yX5_why wsX5_why rm_X5_why S_X5_why) : ∀ (σ : q_M) (lv : q_L) (st : q_S), k_X5_fingerprint_174 Qp J σ lv st → J 174 σ lv st := fun σ lv st h =>
    so_lload_n E (i := 1) rfl dX5_fingerprint_174 h fun σ lv st h =>
    so_lret T dX5_fingerprint_175 h
set_option maxRecDepth 20000 in
theorem sb_X5_fingerprint_146 {J : Nat → q_K} {l : Launch} {Qp : Option q_V → q_M → Prop} (E : q_E J cX5_fingerprint RX5 wsX5_fingerprint 5 l rm_X5_fingerprint) (T : q_T J cX5_fingerprint (some .long) Qp) (h_X5_time : q_Ct yX5_time wsX5_time rm_X5_time S_X5_time) (h_X5_mixed : q_Ct yX5_mixed wsX5_mixed rm_X5_mixed S_X5_mixed) (h_X5_setting : q_Ct yX5_setting wsX5_setting rm_X5_setting S_X5_setting) (h_X5_axis : q_Ct yX5_axis wsX5_axis rm_X5_axis S_X5_axis) (h_X5_wheels : q_Ct yX5_wheels wsX5_wheels rm_X5_wheels S_X5_wheels) (h_X5_wheel : q_Ct yX5_wheel wsX5_wheel rm_X5_wheel S_X5_wheel) (h_X5_span : q_Ct yX5_span wsX5_span rm_X5_span S_X5_span) (h_X5_why : q_Ct yX5_why wsX5_why rm_X5_why S_X5_why) : ∀ (σ : q_M) (lv : q_L) (st : q_S), k_X5_fingerprint_146 Qp J σ lv st → J 146 σ lv st := fun σ lv st h =>
    so_iload_n E (i := 3) rfl dX5_fingerprint_146 h fun σ lv st h =>
    so_aload_n E (i := 0) rfl dX5_fingerprint_147 h fun σ lv st h =>
    so_get E (pp := 23) (fi := 0) (C := RX5) (T := TX5) (N := 5) (ref := "WheelDesk") ⟨rfl, rfl, rfl⟩ rfl fi_X5_fingerprint_X5 (by decide) rfl (List.mem_of_getElem? (i := 2) rfl) dX5_fingerprint_148 h fun σ lv st h =>
    so_get E (pp := 0) (fi := 10) (C := RX0) (T := TX0) (N := 11) (ref := "WheelDesk$Craft") ⟨rfl, rfl, rfl⟩ rfl fi_X5_fingerprint_X0 (by decide) rfl (List.mem_of_getElem? (i := 4) rfl) dX5_fingerprint_151 h fun σ lv st h =>
    so_icmpge E 174 (by decide) dX5_fingerprint_154 (sb_X5_fingerprint_174 E T h_X5_time h_X5_mixed h_X5_setting h_X5_axis h_X5_wheels h_X5_wheel h_X5_span h_X5_why) h fun σ lv st h =>
    so_lload_n E (i := 1) rfl dX5_fingerprint_157 h fun σ lv st h =>
    so_aload_n E (i := 0) rfl dX5_fingerprint_158 h fun σ lv st h =>
    so_iload_n E (i := 3) rfl dX5_fingerprint_159 h fun σ lv st h =>
    so_callV E (n := 1) (pp := 23) (C := RX5) (T := TX5) (N := 5) (idx := 209) (maxL := 2) (ret := (some .int)) h_X5_why ⟨rfl, rfl, rfl⟩ rfl gX5_fingerprint_X5_why rfl ⟨rfl, rfl⟩ (by decide +kernel) (by decide) dX5_fingerprint_160 h fun σ lv st h =>
    so_i2l E dX5_fingerprint_163 h fun σ lv st h =>
    so_callT E (n := 2) (idx := 188) (maxL := 4) (ret := (some .long)) h_X5_mixed gX5_fingerprint_X5_mixed rfl ⟨rfl, rfl⟩ (by decide +kernel) (by decide) dX5_fingerprint_164 h fun σ lv st h =>
    so_lstore_n E (i := 1) rfl (by decide) dX5_fingerprint_167 h fun σ lv st h =>
    so_iinc E (i := 3) (n := 1) (by decide) dX5_fingerprint_168 h fun σ lv st h =>
    so_goto E 146 (by decide) dX5_fingerprint_171 (fun _ _ _ h => h) h
theorem c_X5_fingerprint (h_X5_time : q_Ct yX5_time wsX5_time rm_X5_time S_X5_time) (h_X5_mixed : q_Ct yX5_mixed wsX5_mixed rm_X5_mixed S_X5_mixed) (h_X5_setting : q_Ct yX5_setting wsX5_setting rm_X5_setting S_X5_setting) (h_X5_axis : q_Ct yX5_axis wsX5_axis rm_X5_axis S_X5_axis) (h_X5_wheels : q_Ct yX5_wheels wsX5_wheels rm_X5_wheels S_X5_wheels) (h_X5_wheel : q_Ct yX5_wheel wsX5_wheel rm_X5_wheel S_X5_wheel) (h_X5_span : q_Ct yX5_span wsX5_span rm_X5_span S_X5_span) (h_X5_why : q_Ct yX5_why wsX5_why rm_X5_why S_X5_why) : q_Ct yX5_fingerprint wsX5_fingerprint rm_X5_fingerprint S_X5_fingerprint := by
  refine q_met (cc := cX5_fingerprint) (maxL := 5) (ret := (some .long)) (own := RX5) (by decide +kernel) rfl rfl (fun σ vs Qp h => ?_) (fun l J σ vs Qp E T h => ?_)
  · unfold S_X5_fingerprint at h
    split at h
    · exact Nat.le_of_ble_eq_true rfl
    · exact h.elim
  · unfold S_X5_fingerprint at h
    split at h
    · next c0 p0 k0 =>
      obtain ⟨rfl, rfl, rfl, h⟩ := h
      exact v_X5_fingerprint (so_C E) (sb_X5_fingerprint_0 E T h_X5_time h_X5_mixed h_X5_setting h_X5_axis h_X5_wheels h_X5_wheel h_X5_span h_X5_why) (sb_X5_fingerprint_14 E T h_X5_time h_X5_mixed h_X5_setting h_X5_axis h_X5_wheels h_X5_wheel h_X5_span h_X5_why) (sb_X5_fingerprint_38 E T h_X5_time h_X5_mixed h_X5_setting h_X5_axis h_X5_wheels h_X5_wheel h_X5_span h_X5_why) (sb_X5_fingerprint_46 E T h_X5_time h_X5_mixed h_X5_setting h_X5_axis h_X5_wheels h_X5_wheel h_X5_span h_X5_why) (sb_X5_fingerprint_89 E T h_X5_time h_X5_mixed h_X5_setting h_X5_axis h_X5_wheels h_X5_wheel h_X5_span h_X5_why) (sb_X5_fingerprint_103 E T h_X5_time h_X5_mixed h_X5_setting h_X5_axis h_X5_wheels h_X5_wheel h_X5_span h_X5_why) (sb_X5_fingerprint_146 E T h_X5_time h_X5_mixed h_X5_setting h_X5_axis h_X5_wheels h_X5_wheel h_X5_span h_X5_why) h
    · exact h.elim
theorem cc_X5_fingerprint : q_Ct yX5_fingerprint wsX5_fingerprint rm_X5_fingerprint S_X5_fingerprint := c_X5_fingerprint cc_X5_time cc_X5_mixed cc_X5_setting cc_X5_axis cc_X5_wheels cc_X5_wheel cc_X5_span cc_X5_why

