def rm_X1_giveBack : Room := { frames := 3, cells := 0, slots := 0, locals := 83 }
theorem fi_X1_giveBack_X1 : ∀ w ∈ u_ws RX1 TX1 2, w ∈ wsX1_giveBack := fun w h => List.mem_cons_of_mem _ (List.mem_append_left _ (List.mem_append_left _ (List.mem_append_right _ h)))
theorem fi_X1_giveBack_X0 : ∀ w ∈ u_ws RX0 TX0 11, w ∈ wsX1_giveBack := fun w h => List.mem_cons_of_mem _ (List.mem_append_left _ (List.mem_append_right _ h))
theorem fi_X1_giveBack_X4 : ∀ w ∈ u_ws RX4 TX4 6, w ∈ wsX1_giveBack := fun w h => List.mem_cons_of_mem _ (List.mem_append_right _ h)
set_option maxRecDepth 20000 in
theorem sb_X1_giveBack_10 {J : Nat → q_K} {l : Launch} {Qp : Option q_V → q_M → Prop} (E : q_E J cX1_giveBack RX1 wsX1_giveBack 2 l rm_X1_giveBack) (T : q_T J cX1_giveBack (some .int) Qp) (h_X0_become : q_Ct yX0_become wsX0_become rm_X0_become S_X0_become) : ∀ (σ : q_M) (lv : q_L) (st : q_S), k_X1_giveBack_10 Qp J σ lv st → J 10 σ lv st := fun σ lv st h =>
    so_aload_n E (i := 0) rfl dX1_giveBack_10 h fun σ lv st h =>
    so_dup E dX1_giveBack_11 h fun σ lv st h =>
    so_get E (pp := 21) (fi := 1) (C := RX1) (T := TX1) (N := 2) (ref := "WheelDesk$History") ⟨rfl, rfl, rfl⟩ rfl fi_X1_giveBack_X1 (by decide) rfl (List.mem_of_getElem? (i := 1) rfl) dX1_giveBack_12 h fun σ lv st h =>
    so_iconst E (x := 1) dX1_giveBack_15 h fun σ lv st h =>
    so_isub E dX1_giveBack_16 h fun σ lv st h =>
    so_puti E (pp := 21) (fi := 1) (sl := 0) (C := RX1) (T := TX1) (N := 2) (ref := "WheelDesk$History") ⟨rfl, rfl, rfl⟩ rfl fi_X1_giveBack_X1 tyX1 tyX1_ok nmX1 (by decide) rfl rfl rfl q_fs_21_1 (List.mem_of_getElem? (i := 1) rfl) dX1_giveBack_17 h fun σ lv st h =>
    so_aload_n E (i := 1) rfl dX1_giveBack_20 h fun σ lv st h =>
    so_aload_n E (i := 0) rfl dX1_giveBack_21 h fun σ lv st h =>
    so_get E (pp := 21) (fi := 0) (C := RX1) (T := TX1) (N := 2) (ref := "WheelDesk$History") ⟨rfl, rfl, rfl⟩ rfl fi_X1_giveBack_X1 (by decide) rfl (List.mem_of_getElem? (i := 3) rfl) dX1_giveBack_22 h fun σ lv st h =>
    so_aload_n E (i := 0) rfl dX1_giveBack_25 h fun σ lv st h =>
    so_get E (pp := 21) (fi := 1) (C := RX1) (T := TX1) (N := 2) (ref := "WheelDesk$History") ⟨rfl, rfl, rfl⟩ rfl fi_X1_giveBack_X1 (by decide) rfl (List.mem_of_getElem? (i := 1) rfl) dX1_giveBack_26 h fun σ lv st h =>
    so_aald E dX1_giveBack_29 h fun σ lv st h =>
    so_callV E (n := 1) (pp := 0) (C := RX0) (T := TX0) (N := 11) (idx := 25) (maxL := 3) (ret := none) h_X0_become ⟨rfl, rfl, rfl⟩ rfl gX1_giveBack_X0_become rfl ⟨rfl, rfl⟩ (by decide +kernel) (by decide) dX1_giveBack_30 h fun σ lv st h =>
    so_aload_n E (i := 0) rfl dX1_giveBack_33 h fun σ lv st h =>
    so_get E (pp := 21) (fi := 1) (C := RX1) (T := TX1) (N := 2) (ref := "WheelDesk$History") ⟨rfl, rfl, rfl⟩ rfl fi_X1_giveBack_X1 (by decide) rfl (List.mem_of_getElem? (i := 1) rfl) dX1_giveBack_34 h fun σ lv st h =>
    so_iret T dX1_giveBack_37 h
set_option maxRecDepth 20000 in
theorem sb_X1_giveBack_0 {J : Nat → q_K} {l : Launch} {Qp : Option q_V → q_M → Prop} (E : q_E J cX1_giveBack RX1 wsX1_giveBack 2 l rm_X1_giveBack) (T : q_T J cX1_giveBack (some .int) Qp) (h_X0_become : q_Ct yX0_become wsX0_become rm_X0_become S_X0_become) : ∀ (σ : q_M) (lv : q_L) (st : q_S), k_X1_giveBack_0 Qp J σ lv st → J 0 σ lv st := fun σ lv st h =>
    so_aload_n E (i := 0) rfl dX1_giveBack_0 h fun σ lv st h =>
    so_get E (pp := 21) (fi := 1) (C := RX1) (T := TX1) (N := 2) (ref := "WheelDesk$History") ⟨rfl, rfl, rfl⟩ rfl fi_X1_giveBack_X1 (by decide) rfl (List.mem_of_getElem? (i := 1) rfl) dX1_giveBack_1 h fun σ lv st h =>
    so_ifgt E 10 (by decide) dX1_giveBack_4 (sb_X1_giveBack_10 E T h_X0_become) h fun σ lv st h =>
    so_ldc E (x := -2000009) (idx := 29) (v := -2000009) (List.mem_of_getElem? (i := 2) rfl) rfl dX1_giveBack_7 h fun σ lv st h =>
    so_iret T dX1_giveBack_9 h
theorem c_X1_giveBack (h_X0_become : q_Ct yX0_become wsX0_become rm_X0_become S_X0_become) : q_Ct yX1_giveBack wsX1_giveBack rm_X1_giveBack S_X1_giveBack := by
  refine q_met (cc := cX1_giveBack) (maxL := 2) (ret := (some .int)) (own := RX1) (by decide +kernel) rfl rfl (fun σ vs Qp h => ?_) (fun l J σ vs Qp E T h => ?_)
  · unfold S_X1_giveBack at h
    split at h
    · exact Nat.le_of_ble_eq_true rfl
    · exact h.elim
  · unfold S_X1_giveBack at h
    split at h
    · next c0 p0 k0 c p1 k1 =>
      obtain ⟨rfl, rfl, rfl, rfl, rfl, h⟩ := h
      exact v_X1_giveBack (so_C E) (sb_X1_giveBack_0 E T h_X0_become) h
    · exact h.elim
theorem cc_X1_giveBack : q_Ct yX1_giveBack wsX1_giveBack rm_X1_giveBack S_X1_giveBack := c_X1_giveBack cc_X0_become

def rm_X5_undo : Room := { frames := 4, cells := 0, slots := 0, locals := 104 }
theorem fi_X5_undo_X5 : ∀ w ∈ u_ws RX5 TX5 5, w ∈ wsX5_undo := fun w h => List.mem_cons_of_mem _ (List.mem_append_left _ (List.mem_append_left _ (List.mem_append_left _ (List.mem_append_right _ h))))
theorem fi_X5_undo_X1 : ∀ w ∈ u_ws RX1 TX1 2, w ∈ wsX5_undo := fun w h => List.mem_cons_of_mem _ (List.mem_append_left _ (List.mem_append_left _ (List.mem_append_right _ h)))
theorem fi_X5_undo_X0 : ∀ w ∈ u_ws RX0 TX0 11, w ∈ wsX5_undo := fun w h => List.mem_cons_of_mem _ (List.mem_append_left _ (List.mem_append_right _ h))
theorem fi_X5_undo_X4 : ∀ w ∈ u_ws RX4 TX4 6, w ∈ wsX5_undo := fun w h => List.mem_cons_of_mem _ (List.mem_append_right _ h)
set_option maxRecDepth 20000 in
theorem sb_X5_undo_0 {J : Nat → q_K} {l : Launch} {Qp : Option q_V → q_M → Prop} (E : q_E J cX5_undo RX5 wsX5_undo 1 l rm_X5_undo) (T : q_T J cX5_undo (some .int) Qp) (h_X1_giveBack : q_Ct yX1_giveBack wsX1_giveBack rm_X1_giveBack S_X1_giveBack) : ∀ (σ : q_M) (lv : q_L) (st : q_S), k_X5_undo_0 Qp J σ lv st → J 0 σ lv st := fun σ lv st h =>
    so_aload_n E (i := 0) rfl dX5_undo_0 h fun σ lv st h =>
    so_get E (pp := 23) (fi := 4) (C := RX5) (T := TX5) (N := 5) (ref := "WheelDesk") ⟨rfl, rfl, rfl⟩ rfl fi_X5_undo_X5 (by decide) rfl (List.mem_of_getElem? (i := 1) rfl) dX5_undo_1 h fun σ lv st h =>
    so_aload_n E (i := 0) rfl dX5_undo_4 h fun σ lv st h =>
    so_get E (pp := 23) (fi := 0) (C := RX5) (T := TX5) (N := 5) (ref := "WheelDesk") ⟨rfl, rfl, rfl⟩ rfl fi_X5_undo_X5 (by decide) rfl (List.mem_of_getElem? (i := 2) rfl) dX5_undo_5 h fun σ lv st h =>
    so_callV E (n := 1) (pp := 21) (C := RX1) (T := TX1) (N := 2) (idx := 178) (maxL := 2) (ret := (some .int)) h_X1_giveBack ⟨rfl, rfl, rfl⟩ rfl gX5_undo_X1_giveBack rfl ⟨rfl, rfl⟩ (by decide +kernel) (by decide) dX5_undo_8 h fun σ lv st h =>
    so_iret T dX5_undo_11 h
theorem c_X5_undo (h_X1_giveBack : q_Ct yX1_giveBack wsX1_giveBack rm_X1_giveBack S_X1_giveBack) : q_Ct yX5_undo wsX5_undo rm_X5_undo S_X5_undo := by
  refine q_met (cc := cX5_undo) (maxL := 1) (ret := (some .int)) (own := RX5) (by decide +kernel) rfl rfl (fun σ vs Qp h => ?_) (fun l J σ vs Qp E T h => ?_)
  · unfold S_X5_undo at h
    split at h
    · exact Nat.le_of_ble_eq_true rfl
    · exact h.elim
  · unfold S_X5_undo at h
    split at h
    · next c0 p0 k0 =>
      obtain ⟨rfl, rfl, rfl, h⟩ := h
      exact v_X5_undo (so_C E) (sb_X5_undo_0 E T h_X1_giveBack) h
    · exact h.elim
theorem cc_X5_undo : q_Ct yX5_undo wsX5_undo rm_X5_undo S_X5_undo := c_X5_undo cc_X1_giveBack

def rm_X5_mixed : Room := { frames := 0, cells := 0, slots := 0, locals := 0 }
set_option maxRecDepth 20000 in
theorem sb_X5_mixed_0 {J : Nat → q_K} {l : Launch} {Qp : Option q_V → q_M → Prop} (E : q_E J cX5_mixed RX5 wsX5_mixed 4 l rm_X5_mixed) (T : q_T J cX5_mixed (some .long) Qp) : ∀ (σ : q_M) (lv : q_L) (st : q_S), k_X5_mixed_0 Qp J σ lv st → J 0 σ lv st := fun σ lv st h =>
    so_ldc2 E (x := 31) (idx := 212) (v := 31) (List.mem_of_getElem? (i := 1) rfl) rfl dX5_mixed_0 h fun σ lv st h =>
    so_lload_n E (i := 0) rfl dX5_mixed_3 h fun σ lv st h =>
    so_lmul E dX5_mixed_4 h fun σ lv st h =>
    so_lload_n E (i := 2) rfl dX5_mixed_5 h fun σ lv st h =>
    so_ladd E dX5_mixed_6 h fun σ lv st h =>
    so_lret T dX5_mixed_7 h
theorem c_X5_mixed : q_Ct yX5_mixed wsX5_mixed rm_X5_mixed S_X5_mixed := by
  refine q_met (cc := cX5_mixed) (maxL := 4) (ret := (some .long)) (own := RX5) (by decide +kernel) rfl rfl (fun σ vs Qp h => ?_) (fun l J σ vs Qp E T h => ?_)
  · unfold S_X5_mixed at h
    split at h
    · exact Nat.le_of_ble_eq_true rfl
    · exact h.elim
  · unfold S_X5_mixed at h
    split at h
    · next x y =>
      exact v_X5_mixed (so_C E) (sb_X5_mixed_0 E T) h
    · exact h.elim
theorem cc_X5_mixed : q_Ct yX5_mixed wsX5_mixed rm_X5_mixed S_X5_mixed := c_X5_mixed

def rm_X5_fingerprint : Room := { frames := 5, cells := 0, slots := 0, locals := 113 }
theorem fi_X5_fingerprint_X5 : ∀ w ∈ u_ws RX5 TX5 5, w ∈ wsX5_fingerprint := fun w h => List.mem_cons_of_mem _ (List.mem_append_left _ (List.mem_append_left _ (List.mem_append_left _ (List.mem_append_right _ h))))
theorem fi_X5_fingerprint_X0 : ∀ w ∈ u_ws RX0 TX0 11, w ∈ wsX5_fingerprint := fun w h => List.mem_cons_of_mem _ (List.mem_append_left _ (List.mem_append_left _ (List.mem_append_right _ h)))
theorem fi_X5_fingerprint_X4 : ∀ w ∈ u_ws RX4 TX4 6, w ∈ wsX5_fingerprint := fun w h => List.mem_cons_of_mem _ (List.mem_append_left _ (List.mem_append_right _ h))
theorem fi_X5_fingerprint_X3 : ∀ w ∈ u_ws RX3 TX3 4, w ∈ wsX5_fingerprint := fun w h => List.mem_cons_of_mem _ (List.mem_append_right _ h)
set_option maxRecDepth 20000 in
theorem sb_X5_fingerprint_0 {J : Nat → q_K} {l : Launch} {Qp : Option q_V → q_M → Prop} (E : q_E J cX5_fingerprint RX5 wsX5_fingerprint 5 l rm_X5_fingerprint) (T : q_T J cX5_fingerprint (some .long) Qp) (h_X5_time : q_Ct yX5_time wsX5_time rm_X5_time S_X5_time) (h_X5_mixed : q_Ct yX5_mixed wsX5_mixed rm_X5_mixed S_X5_mixed) (h_X5_setting : q_Ct yX5_setting wsX5_setting rm_X5_setting S_X5_setting) (h_X5_axis : q_Ct yX5_axis wsX5_axis rm_X5_axis S_X5_axis) (h_X5_wheels : q_Ct yX5_wheels wsX5_wheels rm_X5_wheels S_X5_wheels) (h_X5_wheel : q_Ct yX5_wheel wsX5_wheel rm_X5_wheel S_X5_wheel) (h_X5_span : q_Ct yX5_span wsX5_span rm_X5_span S_X5_span) (h_X5_why : q_Ct yX5_why wsX5_why rm_X5_why S_X5_why) : ∀ (σ : q_M) (lv : q_L) (st : q_S), k_X5_fingerprint_0 Qp J σ lv st → J 0 σ lv st := fun σ lv st h =>
    so_ldc2 E (x := 173) (idx := 182) (v := 173) (List.mem_of_getElem? (i := 1) rfl) rfl dX5_fingerprint_0 h fun σ lv st h =>
    so_aload_n E (i := 0) rfl dX5_fingerprint_3 h fun σ lv st h =>
    so_callV E (n := 0) (pp := 23) (C := RX5) (T := TX5) (N := 5) (idx := 184) (maxL := 1) (ret := (some .int)) h_X5_time ⟨rfl, rfl, rfl⟩ rfl gX5_fingerprint_X5_time rfl ⟨rfl, rfl⟩ (by decide +kernel) (by decide) dX5_fingerprint_4 h fun σ lv st h =>
    so_i2l E dX5_fingerprint_7 h fun σ lv st h =>
    so_callT E (n := 2) (idx := 188) (maxL := 4) (ret := (some .long)) h_X5_mixed gX5_fingerprint_X5_mixed rfl ⟨rfl, rfl⟩ (by decide +kernel) (by decide) dX5_fingerprint_8 h fun σ lv st h =>
    so_lstore_n E (i := 1) rfl (by decide) dX5_fingerprint_11 h fun σ lv st h =>
    so_iconst E (x := 0) dX5_fingerprint_12 h fun σ lv st h =>
    so_istore_n E (i := 3) rfl (by decide) dX5_fingerprint_13 h fun σ lv st h =>
    h
set_option maxRecDepth 20000 in
theorem sb_X5_fingerprint_36 {J : Nat → q_K} {l : Launch} {Qp : Option q_V → q_M → Prop} (E : q_E J cX5_fingerprint RX5 wsX5_fingerprint 5 l rm_X5_fingerprint) (T : q_T J cX5_fingerprint (some .long) Qp) (h_X5_time : q_Ct yX5_time wsX5_time rm_X5_time S_X5_time) (h_X5_mixed : q_Ct yX5_mixed wsX5_mixed rm_X5_mixed S_X5_mixed) (h_X5_setting : q_Ct yX5_setting wsX5_setting rm_X5_setting S_X5_setting) (h_X5_axis : q_Ct yX5_axis wsX5_axis rm_X5_axis S_X5_axis) (h_X5_wheels : q_Ct yX5_wheels wsX5_wheels rm_X5_wheels S_X5_wheels) (h_X5_wheel : q_Ct yX5_wheel wsX5_wheel rm_X5_wheel S_X5_wheel) (h_X5_span : q_Ct yX5_span wsX5_span rm_X5_span S_X5_span) (h_X5_why : q_Ct yX5_why wsX5_why rm_X5_why S_X5_why) : ∀ (σ : q_M) (lv : q_L) (st : q_S), k_X5_fingerprint_36 Qp J σ lv st → J 36 σ lv st := fun σ lv st h =>
    so_iconst E (x := 0) dX5_fingerprint_36 h fun σ lv st h =>
    so_istore_n E (i := 3) rfl (by decide) dX5_fingerprint_37 h fun σ lv st h =>
    h
set_option maxRecDepth 20000 in
theorem sb_X5_fingerprint_14 {J : Nat → q_K} {l : Launch} {Qp : Option q_V → q_M → Prop} (E : q_E J cX5_fingerprint RX5 wsX5_fingerprint 5 l rm_X5_fingerprint) (T : q_T J cX5_fingerprint (some .long) Qp) (h_X5_time : q_Ct yX5_time wsX5_time rm_X5_time S_X5_time) (h_X5_mixed : q_Ct yX5_mixed wsX5_mixed rm_X5_mixed S_X5_mixed) (h_X5_setting : q_Ct yX5_setting wsX5_setting rm_X5_setting S_X5_setting) (h_X5_axis : q_Ct yX5_axis wsX5_axis rm_X5_axis S_X5_axis) (h_X5_wheels : q_Ct yX5_wheels wsX5_wheels rm_X5_wheels S_X5_wheels) (h_X5_wheel : q_Ct yX5_wheel wsX5_wheel rm_X5_wheel S_X5_wheel) (h_X5_span : q_Ct yX5_span wsX5_span rm_X5_span S_X5_span) (h_X5_why : q_Ct yX5_why wsX5_why rm_X5_why S_X5_why) : ∀ (σ : q_M) (lv : q_L) (st : q_S), k_X5_fingerprint_14 Qp J σ lv st → J 14 σ lv st := fun σ lv st h =>
    so_iload_n E (i := 3) rfl dX5_fingerprint_14 h fun σ lv st h =>
    so_iconst E (x := 5) dX5_fingerprint_15 h fun σ lv st h =>
    so_icmpge E 36 (by decide) dX5_fingerprint_16 (sb_X5_fingerprint_36 E T h_X5_time h_X5_mixed h_X5_setting h_X5_axis h_X5_wheels h_X5_wheel h_X5_span h_X5_why) h fun σ lv st h =>
    so_lload_n E (i := 1) rfl dX5_fingerprint_19 h fun σ lv st h =>
    so_aload_n E (i := 0) rfl dX5_fingerprint_20 h fun σ lv st h =>
    so_iload_n E (i := 3) rfl dX5_fingerprint_21 h fun σ lv st h =>
    so_callV E (n := 1) (pp := 23) (C := RX5) (T := TX5) (N := 5) (idx := 192) (maxL := 2) (ret := (some .int)) h_X5_setting ⟨rfl, rfl, rfl⟩ rfl gX5_fingerprint_X5_setting rfl ⟨rfl, rfl⟩ (by decide +kernel) (by decide) dX5_fingerprint_22 h fun σ lv st h =>
    so_i2l E dX5_fingerprint_25 h fun σ lv st h =>
    so_callT E (n := 2) (idx := 188) (maxL := 4) (ret := (some .long)) h_X5_mixed gX5_fingerprint_X5_mixed rfl ⟨rfl, rfl⟩ (by decide +kernel) (by decide) dX5_fingerprint_26 h fun σ lv st h =>
    so_lstore_n E (i := 1) rfl (by decide) dX5_fingerprint_29 h fun σ lv st h =>
    so_iinc E (i := 3) (n := 1) (by decide) dX5_fingerprint_30 h fun σ lv st h =>
    so_goto E 14 (by decide) dX5_fingerprint_33 (fun _ _ _ h => h) h
set_option maxRecDepth 20000 in
theorem sb_X5_fingerprint_77 {J : Nat → q_K} {l : Launch} {Qp : Option q_V → q_M → Prop} (E : q_E J cX5_fingerprint RX5 wsX5_fingerprint 5 l rm_X5_fingerprint) (T : q_T J cX5_fingerprint (some .long) Qp) (h_X5_time : q_Ct yX5_time wsX5_time rm_X5_time S_X5_time) (h_X5_mixed : q_Ct yX5_mixed wsX5_mixed rm_X5_mixed S_X5_mixed) (h_X5_setting : q_Ct yX5_setting wsX5_setting rm_X5_setting S_X5_setting) (h_X5_axis : q_Ct yX5_axis wsX5_axis rm_X5_axis S_X5_axis) (h_X5_wheels : q_Ct yX5_wheels wsX5_wheels rm_X5_wheels S_X5_wheels) (h_X5_wheel : q_Ct yX5_wheel wsX5_wheel rm_X5_wheel S_X5_wheel) (h_X5_span : q_Ct yX5_span wsX5_span rm_X5_span S_X5_span) (h_X5_why : q_Ct yX5_why wsX5_why rm_X5_why S_X5_why) : ∀ (σ : q_M) (lv : q_L) (st : q_S), k_X5_fingerprint_77 Qp J σ lv st → J 77 σ lv st := fun σ lv st h =>
    so_lload_n E (i := 1) rfl dX5_fingerprint_77 h fun σ lv st h =>
    so_aload_n E (i := 0) rfl dX5_fingerprint_78 h fun σ lv st h =>
    so_callV E (n := 0) (pp := 23) (C := RX5) (T := TX5) (N := 5) (idx := 198) (maxL := 1) (ret := (some .int)) h_X5_wheels ⟨rfl, rfl, rfl⟩ rfl gX5_fingerprint_X5_wheels rfl ⟨rfl, rfl⟩ (by decide +kernel) (by decide) dX5_fingerprint_79 h fun σ lv st h =>
    so_i2l E dX5_fingerprint_82 h fun σ lv st h =>
    so_callT E (n := 2) (idx := 188) (maxL := 4) (ret := (some .long)) h_X5_mixed gX5_fingerprint_X5_mixed rfl ⟨rfl, rfl⟩ (by decide +kernel) (by decide) dX5_fingerprint_83 h fun σ lv st h =>
    so_lstore_n E (i := 1) rfl (by decide) dX5_fingerprint_86 h fun σ lv st h =>
    so_iconst E (x := 0) dX5_fingerprint_87 h fun σ lv st h =>
    so_istore_n E (i := 3) rfl (by decide) dX5_fingerprint_88 h fun σ lv st h =>
    h
set_option maxRecDepth 20000 in
theorem sb_X5_fingerprint_38 {J : Nat → q_K} {l : Launch} {Qp : Option q_V → q_M → Prop} (E : q_E J cX5_fingerprint RX5 wsX5_fingerprint 5 l rm_X5_fingerprint) (T : q_T J cX5_fingerprint (some .long) Qp) (h_X5_time : q_Ct yX5_time wsX5_time rm_X5_time S_X5_time) (h_X5_mixed : q_Ct yX5_mixed wsX5_mixed rm_X5_mixed S_X5_mixed) (h_X5_setting : q_Ct yX5_setting wsX5_setting rm_X5_setting S_X5_setting) (h_X5_axis : q_Ct yX5_axis wsX5_axis rm_X5_axis S_X5_axis) (h_X5_wheels : q_Ct yX5_wheels wsX5_wheels rm_X5_wheels S_X5_wheels) (h_X5_wheel : q_Ct yX5_wheel wsX5_wheel rm_X5_wheel S_X5_wheel) (h_X5_span : q_Ct yX5_span wsX5_span rm_X5_span S_X5_span) (h_X5_why : q_Ct yX5_why wsX5_why rm_X5_why S_X5_why) : ∀ (σ : q_M) (lv : q_L) (st : q_S), k_X5_fingerprint_38 Qp J σ lv st → J 38 σ lv st := fun σ lv st h =>
    so_iload_n E (i := 3) rfl dX5_fingerprint_38 h fun σ lv st h =>
    so_iconst E (x := 3) dX5_fingerprint_39 h fun σ lv st h =>
    so_icmpge E 77 (by decide) dX5_fingerprint_40 (sb_X5_fingerprint_77 E T h_X5_time h_X5_mixed h_X5_setting h_X5_axis h_X5_wheels h_X5_wheel h_X5_span h_X5_why) h fun σ lv st h =>
    so_iconst E (x := 0) dX5_fingerprint_43 h fun σ lv st h =>
    so_istore E (i := 4) (by decide) dX5_fingerprint_44 h fun σ lv st h =>
    h
set_option maxRecDepth 20000 in
theorem sb_X5_fingerprint_71 {J : Nat → q_K} {l : Launch} {Qp : Option q_V → q_M → Prop} (E : q_E J cX5_fingerprint RX5 wsX5_fingerprint 5 l rm_X5_fingerprint) (T : q_T J cX5_fingerprint (some .long) Qp) (h_X5_time : q_Ct yX5_time wsX5_time rm_X5_time S_X5_time) (h_X5_mixed : q_Ct yX5_mixed wsX5_mixed rm_X5_mixed S_X5_mixed) (h_X5_setting : q_Ct yX5_setting wsX5_setting rm_X5_setting S_X5_setting) (h_X5_axis : q_Ct yX5_axis wsX5_axis rm_X5_axis S_X5_axis) (h_X5_wheels : q_Ct yX5_wheels wsX5_wheels rm_X5_wheels S_X5_wheels) (h_X5_wheel : q_Ct yX5_wheel wsX5_wheel rm_X5_wheel S_X5_wheel) (h_X5_span : q_Ct yX5_span wsX5_span rm_X5_span S_X5_span) (h_X5_why : q_Ct yX5_why wsX5_why rm_X5_why S_X5_why) : ∀ (σ : q_M) (lv : q_L) (st : q_S), k_X5_fingerprint_71 Qp J σ lv st → J 71 σ lv st := fun σ lv st h =>
    so_iinc E (i := 3) (n := 1) (by decide) dX5_fingerprint_71 h fun σ lv st h =>
    so_goto E 38 (by decide) dX5_fingerprint_74 (fun _ _ _ h => h) h
set_option maxRecDepth 20000 in
theorem sb_X5_fingerprint_46 {J : Nat → q_K} {l : Launch} {Qp : Option q_V → q_M → Prop} (E : q_E J cX5_fingerprint RX5 wsX5_fingerprint 5 l rm_X5_fingerprint) (T : q_T J cX5_fingerprint (some .long) Qp) (h_X5_time : q_Ct yX5_time wsX5_time rm_X5_time S_X5_time) (h_X5_mixed : q_Ct yX5_mixed wsX5_mixed rm_X5_mixed S_X5_mixed) (h_X5_setting : q_Ct yX5_setting wsX5_setting rm_X5_setting S_X5_setting) (h_X5_axis : q_Ct yX5_axis wsX5_axis rm_X5_axis S_X5_axis) (h_X5_wheels : q_Ct yX5_wheels wsX5_wheels rm_X5_wheels S_X5_wheels) (h_X5_wheel : q_Ct yX5_wheel wsX5_wheel rm_X5_wheel S_X5_wheel) (h_X5_span : q_Ct yX5_span wsX5_span rm_X5_span S_X5_span) (h_X5_why : q_Ct yX5_why wsX5_why rm_X5_why S_X5_why) : ∀ (σ : q_M) (lv : q_L) (st : q_S), k_X5_fingerprint_46 Qp J σ lv st → J 46 σ lv st := fun σ lv st h =>
    so_iload E (i := 4) dX5_fingerprint_46 h fun σ lv st h =>
    so_bipush E (x := 10) rfl dX5_fingerprint_48 h fun σ lv st h =>
    so_icmpge E 71 (by decide) dX5_fingerprint_50 (sb_X5_fingerprint_71 E T h_X5_time h_X5_mixed h_X5_setting h_X5_axis h_X5_wheels h_X5_wheel h_X5_span h_X5_why) h fun σ lv st h =>
    so_lload_n E (i := 1) rfl dX5_fingerprint_53 h fun σ lv st h =>
    so_aload_n E (i := 0) rfl dX5_fingerprint_54 h fun σ lv st h =>
    so_iload_n E (i := 3) rfl dX5_fingerprint_55 h fun σ lv st h =>
    so_iload E (i := 4) dX5_fingerprint_56 h fun σ lv st h =>
    so_callV E (n := 2) (pp := 23) (C := RX5) (T := TX5) (N := 5) (idx := 195) (maxL := 3) (ret := (some .long)) h_X5_axis ⟨rfl, rfl, rfl⟩ rfl gX5_fingerprint_X5_axis rfl ⟨rfl, rfl⟩ (by decide +kernel) (by decide) dX5_fingerprint_58 h fun σ lv st h =>
    so_callT E (n := 2) (idx := 188) (maxL := 4) (ret := (some .long)) h_X5_mixed gX5_fingerprint_X5_mixed rfl ⟨rfl, rfl⟩ (by decide +kernel) (by decide) dX5_fingerprint_61 h fun σ lv st h =>
    so_lstore_n E (i := 1) rfl (by decide) dX5_fingerprint_64 h fun σ lv st h =>
    so_iinc E (i := 4) (n := 1) (by decide) dX5_fingerprint_65 h fun σ lv st h =>
    so_goto E 46 (by decide) dX5_fingerprint_68 (fun _ _ _ h => h) h
set_option maxRecDepth 20000 in
theorem sb_X5_fingerprint_135 {J : Nat → q_K} {l : Launch} {Qp : Option q_V → q_M → Prop} (E : q_E J cX5_fingerprint RX5 wsX5_fingerprint 5 l rm_X5_fingerprint) (T : q_T J cX5_fingerprint (some .long) Qp) (h_X5_time : q_Ct yX5_time wsX5_time rm_X5_time S_X5_time) (h_X5_mixed : q_Ct yX5_mixed wsX5_mixed rm_X5_mixed S_X5_mixed) (h_X5_setting : q_Ct yX5_setting wsX5_setting rm_X5_setting S_X5_setting) (h_X5_axis : q_Ct yX5_axis wsX5_axis rm_X5_axis S_X5_axis) (h_X5_wheels : q_Ct yX5_wheels wsX5_wheels rm_X5_wheels S_X5_wheels) (h_X5_wheel : q_Ct yX5_wheel wsX5_wheel rm_X5_wheel S_X5_wheel) (h_X5_span : q_Ct yX5_span wsX5_span rm_X5_span S_X5_span) (h_X5_why : q_Ct yX5_why wsX5_why rm_X5_why S_X5_why) : ∀ (σ : q_M) (lv : q_L) (st : q_S), k_X5_fingerprint_135 Qp J σ lv st → J 135 σ lv st := fun σ lv st h =>
    so_lload_n E (i := 1) rfl dX5_fingerprint_135 h fun σ lv st h =>
    so_aload_n E (i := 0) rfl dX5_fingerprint_136 h fun σ lv st h =>
    so_callV E (n := 0) (pp := 23) (C := RX5) (T := TX5) (N := 5) (idx := 205) (maxL := 1) (ret := (some .long)) h_X5_span ⟨rfl, rfl, rfl⟩ rfl gX5_fingerprint_X5_span rfl ⟨rfl, rfl⟩ (by decide +kernel) (by decide) dX5_fingerprint_137 h fun σ lv st h =>
    so_callT E (n := 2) (idx := 188) (maxL := 4) (ret := (some .long)) h_X5_mixed gX5_fingerprint_X5_mixed rfl ⟨rfl, rfl⟩ (by decide +kernel) (by decide) dX5_fingerprint_140 h fun σ lv st h =>
    so_lstore_n E (i := 1) rfl (by decide) dX5_fingerprint_143 h fun σ lv st h =>
    so_iconst E (x := 0) dX5_fingerprint_144 h fun σ lv st h =>
    so_istore_n E (i := 3) rfl (by decide) dX5_fingerprint_145 h fun σ lv st h =>
    h
set_option maxRecDepth 20000 in
theorem sb_X5_fingerprint_89 {J : Nat → q_K} {l : Launch} {Qp : Option q_V → q_M → Prop} (E : q_E J cX5_fingerprint RX5 wsX5_fingerprint 5 l rm_X5_fingerprint) (T : q_T J cX5_fingerprint (some .long) Qp) (h_X5_time : q_Ct yX5_time wsX5_time rm_X5_time S_X5_time) (h_X5_mixed : q_Ct yX5_mixed wsX5_mixed rm_X5_mixed S_X5_mixed) (h_X5_setting : q_Ct yX5_setting wsX5_setting rm_X5_setting S_X5_setting) (h_X5_axis : q_Ct yX5_axis wsX5_axis rm_X5_axis S_X5_axis) (h_X5_wheels : q_Ct yX5_wheels wsX5_wheels rm_X5_wheels S_X5_wheels) (h_X5_wheel : q_Ct yX5_wheel wsX5_wheel rm_X5_wheel S_X5_wheel) (h_X5_span : q_Ct yX5_span wsX5_span rm_X5_span S_X5_span) (h_X5_why : q_Ct yX5_why wsX5_why rm_X5_why S_X5_why) : ∀ (σ : q_M) (lv : q_L) (st : q_S), k_X5_fingerprint_89 Qp J σ lv st → J 89 σ lv st := fun σ lv st h =>
    so_iload_n E (i := 3) rfl dX5_fingerprint_89 h fun σ lv st h =>
    so_aload_n E (i := 0) rfl dX5_fingerprint_90 h fun σ lv st h =>
    so_get E (pp := 23) (fi := 0) (C := RX5) (T := TX5) (N := 5) (ref := "WheelDesk") ⟨rfl, rfl, rfl⟩ rfl fi_X5_fingerprint_X5 (by decide) rfl (List.mem_of_getElem? (i := 2) rfl) dX5_fingerprint_91 h fun σ lv st h =>
    so_get E (pp := 0) (fi := 8) (C := RX0) (T := TX0) (N := 11) (ref := "WheelDesk$Craft") ⟨rfl, rfl, rfl⟩ rfl fi_X5_fingerprint_X0 (by decide) rfl (List.mem_of_getElem? (i := 3) rfl) dX5_fingerprint_94 h fun σ lv st h =>
    so_icmpge E 135 (by decide) dX5_fingerprint_97 (sb_X5_fingerprint_135 E T h_X5_time h_X5_mixed h_X5_setting h_X5_axis h_X5_wheels h_X5_wheel h_X5_span h_X5_why) h fun σ lv st h =>
    so_iconst E (x := 0) dX5_fingerprint_100 h fun σ lv st h =>
    so_istore E (i := 4) (by decide) dX5_fingerprint_101 h fun σ lv st h =>
    h
set_option maxRecDepth 20000 in
theorem sb_X5_fingerprint_129 {J : Nat → q_K} {l : Launch} {Qp : Option q_V → q_M → Prop} (E : q_E J cX5_fingerprint RX5 wsX5_fingerprint 5 l rm_X5_fingerprint) (T : q_T J cX5_fingerprint (some .long) Qp) (h_X5_time : q_Ct yX5_time wsX5_time rm_X5_time S_X5_time) (h_X5_mixed : q_Ct yX5_mixed wsX5_mixed rm_X5_mixed S_X5_mixed) (h_X5_setting : q_Ct yX5_setting wsX5_setting rm_X5_setting S_X5_setting) (h_X5_axis : q_Ct yX5_axis wsX5_axis rm_X5_axis S_X5_axis) (h_X5_wheels : q_Ct yX5_wheels wsX5_wheels rm_X5_wheels S_X5_wheels) (h_X5_wheel : q_Ct yX5_wheel wsX5_wheel rm_X5_wheel S_X5_wheel) (h_X5_span : q_Ct yX5_span wsX5_span rm_X5_span S_X5_span) (h_X5_why : q_Ct yX5_why wsX5_why rm_X5_why S_X5_why) : ∀ (σ : q_M) (lv : q_L) (st : q_S), k_X5_fingerprint_129 Qp J σ lv st → J 129 σ lv st := fun σ lv st h =>
    so_iinc E (i := 3) (n := 1) (by decide) dX5_fingerprint_129 h fun σ lv st h =>
    so_goto E 89 (by decide) dX5_fingerprint_132 (fun _ _ _ h => h) h
set_option maxRecDepth 20000 in
theorem sb_X5_fingerprint_103 {J : Nat → q_K} {l : Launch} {Qp : Option q_V → q_M → Prop} (E : q_E J cX5_fingerprint RX5 wsX5_fingerprint 5 l rm_X5_fingerprint) (T : q_T J cX5_fingerprint (some .long) Qp) (h_X5_time : q_Ct yX5_time wsX5_time rm_X5_time S_X5_time) (h_X5_mixed : q_Ct yX5_mixed wsX5_mixed rm_X5_mixed S_X5_mixed) (h_X5_setting : q_Ct yX5_setting wsX5_setting rm_X5_setting S_X5_setting) (h_X5_axis : q_Ct yX5_axis wsX5_axis rm_X5_axis S_X5_axis) (h_X5_wheels : q_Ct yX5_wheels wsX5_wheels rm_X5_wheels S_X5_wheels) (h_X5_wheel : q_Ct yX5_wheel wsX5_wheel rm_X5_wheel S_X5_wheel) (h_X5_span : q_Ct yX5_span wsX5_span rm_X5_span S_X5_span) (h_X5_why : q_Ct yX5_why wsX5_why rm_X5_why S_X5_why) : ∀ (σ : q_M) (lv : q_L) (st : q_S), k_X5_fingerprint_103 Qp J σ lv st → J 103 σ lv st := fun σ lv st h =>
    so_iload E (i := 4) dX5_fingerprint_103 h fun σ lv st h =>
    so_bipush E (x := 8) rfl dX5_fingerprint_105 h fun σ lv st h =>
    so_icmpge E 129 (by decide) dX5_fingerprint_107 (sb_X5_fingerprint_129 E T h_X5_time h_X5_mixed h_X5_setting h_X5_axis h_X5_wheels h_X5_wheel h_X5_span h_X5_why) h fun σ lv st h =>
    so_lload_n E (i := 1) rfl dX5_fingerprint_110 h fun σ lv st h =>
    so_aload_n E (i := 0) rfl dX5_fingerprint_111 h fun σ lv st h =>
    so_iload_n E (i := 3) rfl dX5_fingerprint_112 h fun σ lv st h =>
    so_iload E (i := 4) dX5_fingerprint_113 h fun σ lv st h =>
    so_callV E (n := 2) (pp := 23) (C := RX5) (T := TX5) (N := 5) (idx := 201) (maxL := 3) (ret := (some .int)) h_X5_wheel ⟨rfl, rfl, rfl⟩ rfl gX5_fingerprint_X5_wheel rfl ⟨rfl, rfl⟩ (by decide +kernel) (by decide) dX5_fingerprint_115 h fun σ lv st h =>
    so_i2l E dX5_fingerprint_118 h fun σ lv st h =>
    so_callT E (n := 2) (idx := 188) (maxL := 4) (ret := (some .long)) h_X5_mixed gX5_fingerprint_X5_mixed rfl ⟨rfl, rfl⟩ (by decide +kernel) (by decide) dX5_fingerprint_119 h fun σ lv st h =>
    so_lstore_n E (i := 1) rfl (by decide) dX5_fingerprint_122 h fun σ lv st h =>
    so_iinc E (i := 4) (n := 1) (by decide) dX5_fingerprint_123 h fun σ lv st h =>
    so_goto E 103 (by decide) dX5_fingerprint_126 (fun _ _ _ h => h) h
set_option maxRecDepth 20000 in
theorem sb_X5_fingerprint_174 {J : Nat → q_K} {l : Launch} {Qp : Option q_V → q_M → Prop} (E : q_E J cX5_fingerprint RX5 wsX5_fingerprint 5 l rm_X5_fingerprint) (T : q_T J cX5_fingerprint (some .long) Qp) (h_X5_time : q_Ct yX5_time wsX5_time rm_X5_time S_X5_time) (h_X5_mixed : q_Ct yX5_mixed wsX5_mixed rm_X5_mixed S_X5_mixed) (h_X5_setting : q_Ct yX5_setting wsX5_setting rm_X5_setting S_X5_setting) (h_X5_axis : q_Ct yX5_axis wsX5_axis rm_X5_axis S_X5_axis) (h_X5_wheels : q_Ct yX5_wheels wsX5_wheels rm_X5_wheels S_X5_wheels) (h_X5_wheel : q_Ct yX5_wheel wsX5_wheel rm_X5_wheel S_X5_wheel) (h_X5_span : q_Ct yX5_span wsX5_span rm_X5_span S_X5_span) (h_X5_why : q_Ct yX5_why wsX5_why rm_X5_why S_X5_why) : ∀ (σ : q_M) (lv : q_L) (st : q_S), k_X5_fingerprint_174 Qp J σ lv st → J 174 σ lv st := fun σ lv st h =>
    so_lload_n E (i := 1) rfl dX5_fingerprint_174 h fun σ lv st h =>
    so_lret T dX5_fingerprint_175 h
set_option maxRecDepth 20000 in
theorem sb_X5_fingerprint_146 {J : Nat → q_K} {l : Launch} {Qp : Option q_V → q_M → Prop} (E : q_E J cX5_fingerprint RX5 wsX5_fingerprint 5 l rm_X5_fingerprint) (T : q_T J cX5_fingerprint (some .long) Qp) (h_X5_time : q_Ct yX5_time wsX5_time rm_X5_time S_X5_time) (h_X5_mixed : q_Ct yX5_mixed wsX5_mixed rm_X5_mixed S_X5_mixed) (h_X5_setting : q_Ct yX5_setting wsX5_setting rm_X5_setting S_X5_setting) (h_X5_axis : q_Ct yX5_axis wsX5_axis rm_X5_axis S_X5_axis) (h_X5_wheels : q_Ct yX5_wheels wsX5_wheels rm_X5_wheels S_X5_wheels) (h_X5_wheel : q_Ct yX5_wheel wsX5_wheel rm_X5_wheel S_X5_wheel) (h_X5_span : q_Ct yX5_span wsX5_span rm_X5_span S_X5_span) (h_X5_why : q_Ct yX5_why wsX5_why rm_X5_why S_X5_why) : ∀ (σ : q_M) (lv : q_L) (st : q_S), k_X5_fingerprint_146 Qp J σ lv st → J 146 σ lv st := fun σ lv st h =>
    so_iload_n E (i := 3) rfl dX5_fingerprint_146 h fun σ lv st h =>
    so_aload_n E (i := 0) rfl dX5_fingerprint_147 h fun σ lv st h =>
    so_get E (pp := 23) (fi := 0) (C := RX5) (T := TX5) (N := 5) (ref := "WheelDesk") ⟨rfl, rfl, rfl⟩ rfl fi_X5_fingerprint_X5 (by decide) rfl (List.mem_of_getElem? (i := 2) rfl) dX5_fingerprint_148 h fun σ lv st h =>
    so_get E (pp := 0) (fi := 10) (C := RX0) (T := TX0) (N := 11) (ref := "WheelDesk$Craft") ⟨rfl, rfl, rfl⟩ rfl fi_X5_fingerprint_X0 (by decide) rfl (List.mem_of_getElem? (i := 4) rfl) dX5_fingerprint_151 h fun σ lv st h =>
    so_icmpge E 174 (by decide) dX5_fingerprint_154 (sb_X5_fingerprint_174 E T h_X5_time h_X5_mixed h_X5_setting h_X5_axis h_X5_wheels h_X5_wheel h_X5_span h_X5_why) h fun σ lv st h =>
    so_lload_n E (i := 1) rfl dX5_fingerprint_157 h fun σ lv st h =>
    so_aload_n E (i := 0) rfl dX5_fingerprint_158 h fun σ lv st h =>
    so_iload_n E (i := 3) rfl dX5_fingerprint_159 h fun σ lv st h =>
    so_callV E (n := 1) (pp := 23) (C := RX5) (T := TX5) (N := 5) (idx := 209) (maxL := 2) (ret := (some .int)) h_X5_why ⟨rfl, rfl, rfl⟩ rfl gX5_fingerprint_X5_why rfl ⟨rfl, rfl⟩ (by decide +kernel) (by decide) dX5_fingerprint_160 h fun σ lv st h =>
    so_i2l E dX5_fingerprint_163 h fun σ lv st h =>
    so_callT E (n := 2) (idx := 188) (maxL := 4) (ret := (some .long)) h_X5_mixed gX5_fingerprint_X5_mixed rfl ⟨rfl, rfl⟩ (by decide +kernel) (by decide) dX5_fingerprint_164 h fun σ lv st h =>
    so_lstore_n E (i := 1) rfl (by decide) dX5_fingerprint_167 h fun σ lv st h =>
    so_iinc E (i := 3) (n := 1) (by decide) dX5_fingerprint_168 h fun σ lv st h =>
    so_goto E 146 (by decide) dX5_fingerprint_171 (fun _ _ _ h => h) h
theorem c_X5_fingerprint (h_X5_time : q_Ct yX5_time wsX5_time rm_X5_time S_X5_time) (h_X5_mixed : q_Ct yX5_mixed wsX5_mixed rm_X5_mixed S_X5_mixed) (h_X5_setting : q_Ct yX5_setting wsX5_setting rm_X5_setting S_X5_setting) (h_X5_axis : q_Ct yX5_axis wsX5_axis rm_X5_axis S_X5_axis) (h_X5_wheels : q_Ct yX5_wheels wsX5_wheels rm_X5_wheels S_X5_wheels) (h_X5_wheel : q_Ct yX5_wheel wsX5_wheel rm_X5_wheel S_X5_wheel) (h_X5_span : q_Ct yX5_span wsX5_span rm_X5_span S_X5_span) (h_X5_why : q_Ct yX5_why wsX5_why rm_X5_why S_X5_why) : q_Ct yX5_fingerprint wsX5_fingerprint rm_X5_fingerprint S_X5_fingerprint := by
  refine q_met (cc := cX5_fingerprint) (maxL := 5) (ret := (some .long)) (own := RX5) (by decide +kernel) rfl rfl (fun σ vs Qp h => ?_) (fun l J σ vs Qp E T h => ?_)
  · unfold S_X5_fingerprint at h
    split at h
    · exact Nat.le_of_ble_eq_true rfl
    · exact h.elim
  · unfold S_X5_fingerprint at h
    split at h
    · next c0 p0 k0 =>
      obtain ⟨rfl, rfl, rfl, h⟩ := h
      exact v_X5_fingerprint (so_C E) (sb_X5_fingerprint_0 E T h_X5_time h_X5_mixed h_X5_setting h_X5_axis h_X5_wheels h_X5_wheel h_X5_span h_X5_why) (sb_X5_fingerprint_14 E T h_X5_time h_X5_mixed h_X5_setting h_X5_axis h_X5_wheels h_X5_wheel h_X5_span h_X5_why) (sb_X5_fingerprint_38 E T h_X5_time h_X5_mixed h_X5_setting h_X5_axis h_X5_wheels h_X5_wheel h_X5_span h_X5_why) (sb_X5_fingerprint_46 E T h_X5_time h_X5_mixed h_X5_setting h_X5_axis h_X5_wheels h_X5_wheel h_X5_span h_X5_why) (sb_X5_fingerprint_89 E T h_X5_time h_X5_mixed h_X5_setting h_X5_axis h_X5_wheels h_X5_wheel h_X5_span h_X5_why) (sb_X5_fingerprint_103 E T h_X5_time h_X5_mixed h_X5_setting h_X5_axis h_X5_wheels h_X5_wheel h_X5_span h_X5_why) (sb_X5_fingerprint_146 E T h_X5_time h_X5_mixed h_X5_setting h_X5_axis h_X5_wheels h_X5_wheel h_X5_span h_X5_why) h
    · exact h.elim
theorem cc_X5_fingerprint : q_Ct yX5_fingerprint wsX5_fingerprint rm_X5_fingerprint S_X5_fingerprint := c_X5_fingerprint cc_X5_time cc_X5_mixed cc_X5_setting cc_X5_axis cc_X5_wheels cc_X5_wheel cc_X5_span cc_X5_why

def rm_X6_in : Room := { frames := 0, cells := 0, slots := 0, locals := 0 }
set_option maxRecDepth 20000 in
theorem sb_X6_in_15 {J : Nat → q_K} {l : Launch} {Qp : Option q_V → q_M → Prop} (E : q_E J cX6_in RX6 wsX6_in 3 l rm_X6_in) (T : q_T J cX6_in (some .boolean) Qp) : ∀ (σ : q_M) (lv : q_L) (st : q_S), k_X6_in_15 Qp J σ lv st → J 15 σ lv st := fun σ lv st h =>
    so_zret T dX6_in_15 h
set_option maxRecDepth 20000 in
theorem sb_X6_in_14 {J : Nat → q_K} {l : Launch} {Qp : Option q_V → q_M → Prop} (E : q_E J cX6_in RX6 wsX6_in 3 l rm_X6_in) (T : q_T J cX6_in (some .boolean) Qp) : ∀ (σ : q_M) (lv : q_L) (st : q_S), k_X6_in_14 Qp J σ lv st → J 14 σ lv st := fun σ lv st h =>
    so_iconst E (x := 0) dX6_in_14 h fun σ lv st h =>
    (sb_X6_in_15 E T) σ lv st h
set_option maxRecDepth 20000 in
theorem sb_X6_in_0 {J : Nat → q_K} {l : Launch} {Qp : Option q_V → q_M → Prop} (E : q_E J cX6_in RX6 wsX6_in 3 l rm_X6_in) (T : q_T J cX6_in (some .boolean) Qp) : ∀ (σ : q_M) (lv : q_L) (st : q_S), k_X6_in_0 Qp J σ lv st → J 0 σ lv st := fun σ lv st h =>
    so_iload_n E (i := 0) rfl dX6_in_0 h fun σ lv st h =>
    so_iload_n E (i := 1) rfl dX6_in_1 h fun σ lv st h =>
    so_icmplt E 14 (by decide) dX6_in_2 (sb_X6_in_14 E T) h fun σ lv st h =>
    so_iload_n E (i := 0) rfl dX6_in_5 h fun σ lv st h =>
    so_iload_n E (i := 2) rfl dX6_in_6 h fun σ lv st h =>
    so_icmpgt E 14 (by decide) dX6_in_7 (sb_X6_in_14 E T) h fun σ lv st h =>
    so_iconst E (x := 1) dX6_in_10 h fun σ lv st h =>
    so_goto E 15 (by decide) dX6_in_11 (sb_X6_in_15 E T) h
theorem c_X6_in : q_Ct yX6_in wsX6_in rm_X6_in S_X6_in := by
  refine q_met (cc := cX6_in) (maxL := 3) (ret := (some .boolean)) (own := RX6) (by decide +kernel) rfl rfl (fun σ vs Qp h => ?_) (fun l J σ vs Qp E T h => ?_)
  · unfold S_X6_in at h
    split at h
    · exact Nat.le_of_ble_eq_true rfl
    · exact h.elim
  · unfold S_X6_in at h
    split at h
    · next v a b =>
      exact v_X6_in (so_C E) (sb_X6_in_0 E T) h
    · exact h.elim
theorem cc_X6_in : q_Ct yX6_in wsX6_in rm_X6_in S_X6_in := c_X6_in

def rm_X6_act : Room := { frames := 0, cells := 0, slots := 0, locals := 0 }
theorem fi_X6_act_X6 : ∀ w ∈ u_ws RX6 TX6 11, w ∈ wsX6_act := fun w h => List.mem_cons_of_mem _ (List.mem_append_right _ h)
set_option maxRecDepth 20000 in
theorem sb_X6_act_48 {J : Nat → q_K} {l : Launch} {Qp : Option q_V → q_M → Prop} (E : q_E J cX6_act RX6 wsX6_act 2 l rm_X6_act) (T : q_T J cX6_act none Qp) : ∀ (σ : q_M) (lv : q_L) (st : q_S), k_X6_act_48 Qp J σ lv st → J 48 σ lv st := fun σ lv st h =>
    so_iconst E (x := 0) dX6_act_48 h fun σ lv st h =>
    so_istore_n E (i := 1) rfl (by decide) dX6_act_49 h fun σ lv st h =>
    h
set_option maxRecDepth 20000 in
theorem sb_X6_act_0 {J : Nat → q_K} {l : Launch} {Qp : Option q_V → q_M → Prop} (E : q_E J cX6_act RX6 wsX6_act 2 l rm_X6_act) (T : q_T J cX6_act none Qp) : ∀ (σ : q_M) (lv : q_L) (st : q_S), k_X6_act_0 Qp J σ lv st → J 0 σ lv st := fun σ lv st h =>
    so_aload_n E (i := 0) rfl dX6_act_0 h fun σ lv st h =>
    so_get E (pp := 24) (fi := 3) (C := RX6) (T := TX6) (N := 11) (ref := "WheelDeskModel") ⟨rfl, rfl, rfl⟩ rfl fi_X6_act_X6 (by decide) rfl (List.mem_of_getElem? (i := 1) rfl) dX6_act_1 h fun σ lv st h =>
    so_iconst E (x := 4) dX6_act_4 h fun σ lv st h =>
    so_icmpne E 48 (by decide) dX6_act_5 (sb_X6_act_48 E T) h fun σ lv st h =>
    so_iconst E (x := 0) dX6_act_8 h fun σ lv st h =>
    so_istore_n E (i := 1) rfl (by decide) dX6_act_9 h fun σ lv st h =>
    h
set_option maxRecDepth 20000 in
theorem sb_X6_act_38 {J : Nat → q_K} {l : Launch} {Qp : Option q_V → q_M → Prop} (E : q_E J cX6_act RX6 wsX6_act 2 l rm_X6_act) (T : q_T J cX6_act none Qp) : ∀ (σ : q_M) (lv : q_L) (st : q_S), k_X6_act_38 Qp J σ lv st → J 38 σ lv st := fun σ lv st h =>
    so_aload_n E (i := 0) rfl dX6_act_38 h fun σ lv st h =>
    so_dup E dX6_act_39 h fun σ lv st h =>
    so_get E (pp := 24) (fi := 3) (C := RX6) (T := TX6) (N := 11) (ref := "WheelDeskModel") ⟨rfl, rfl, rfl⟩ rfl fi_X6_act_X6 (by decide) rfl (List.mem_of_getElem? (i := 1) rfl) dX6_act_40 h fun σ lv st h =>
    so_iconst E (x := 1) dX6_act_43 h fun σ lv st h =>
    so_isub E dX6_act_44 h fun σ lv st h =>
    so_puti E (pp := 24) (fi := 3) (sl := 0) (C := RX6) (T := TX6) (N := 11) (ref := "WheelDeskModel") ⟨rfl, rfl, rfl⟩ rfl fi_X6_act_X6 tyX6 tyX6_ok nmX6 (by decide) rfl rfl rfl q_fs_24_3 (List.mem_of_getElem? (i := 1) rfl) dX6_act_45 h fun σ lv st h =>
    (sb_X6_act_48 E T) σ lv st h
set_option maxRecDepth 20000 in
theorem sb_X6_act_10 {J : Nat → q_K} {l : Launch} {Qp : Option q_V → q_M → Prop} (E : q_E J cX6_act RX6 wsX6_act 2 l rm_X6_act) (T : q_T J cX6_act none Qp) : ∀ (σ : q_M) (lv : q_L) (st : q_S), k_X6_act_10 Qp J σ lv st → J 10 σ lv st := fun σ lv st h =>
    so_iload_n E (i := 1) rfl dX6_act_10 h fun σ lv st h =>
    so_sipush E (x := 300) rfl dX6_act_11 h fun σ lv st h =>
    so_icmpge E 38 (by decide) dX6_act_14 (sb_X6_act_38 E T) h fun σ lv st h =>
    so_aload_n E (i := 0) rfl dX6_act_17 h fun σ lv st h =>
    so_get E (pp := 24) (fi := 2) (C := RX6) (T := TX6) (N := 11) (ref := "WheelDeskModel") ⟨rfl, rfl, rfl⟩ rfl fi_X6_act_X6 (by decide) rfl (List.mem_of_getElem? (i := 2) rfl) dX6_act_18 h fun σ lv st h =>
    so_iload_n E (i := 1) rfl dX6_act_21 h fun σ lv st h =>
    so_aload_n E (i := 0) rfl dX6_act_22 h fun σ lv st h =>
    so_get E (pp := 24) (fi := 2) (C := RX6) (T := TX6) (N := 11) (ref := "WheelDeskModel") ⟨rfl, rfl, rfl⟩ rfl fi_X6_act_X6 (by decide) rfl (List.mem_of_getElem? (i := 2) rfl) dX6_act_23 h fun σ lv st h =>
    so_iload_n E (i := 1) rfl dX6_act_26 h fun σ lv st h =>
    so_bipush E (x := 100) rfl dX6_act_27 h fun σ lv st h =>
    so_iadd E dX6_act_29 h fun σ lv st h =>
    so_lald E dX6_act_30 h fun σ lv st h =>
    so_last E dX6_act_31 h fun σ lv st h =>
    so_iinc E (i := 1) (n := 1) (by decide) dX6_act_32 h fun σ lv st h =>
    so_goto E 10 (by decide) dX6_act_35 (fun _ _ _ h => h) h
set_option maxRecDepth 20000 in
theorem sb_X6_act_82 {J : Nat → q_K} {l : Launch} {Qp : Option q_V → q_M → Prop} (E : q_E J cX6_act RX6 wsX6_act 2 l rm_X6_act) (T : q_T J cX6_act none Qp) : ∀ (σ : q_M) (lv : q_L) (st : q_S), k_X6_act_82 Qp J σ lv st → J 82 σ lv st := fun σ lv st h =>
    so_aload_n E (i := 0) rfl dX6_act_82 h fun σ lv st h =>
    so_dup E dX6_act_83 h fun σ lv st h =>
    so_get E (pp := 24) (fi := 3) (C := RX6) (T := TX6) (N := 11) (ref := "WheelDeskModel") ⟨rfl, rfl, rfl⟩ rfl fi_X6_act_X6 (by decide) rfl (List.mem_of_getElem? (i := 1) rfl) dX6_act_84 h fun σ lv st h =>
    so_iconst E (x := 1) dX6_act_87 h fun σ lv st h =>
    so_iadd E dX6_act_88 h fun σ lv st h =>
    so_puti E (pp := 24) (fi := 3) (sl := 0) (C := RX6) (T := TX6) (N := 11) (ref := "WheelDeskModel") ⟨rfl, rfl, rfl⟩ rfl fi_X6_act_X6 tyX6 tyX6_ok nmX6 (by decide) rfl rfl rfl q_fs_24_3 (List.mem_of_getElem? (i := 1) rfl) dX6_act_89 h fun σ lv st h =>
    so_vret T dX6_act_92 h
set_option maxRecDepth 20000 in
theorem sb_X6_act_50 {J : Nat → q_K} {l : Launch} {Qp : Option q_V → q_M → Prop} (E : q_E J cX6_act RX6 wsX6_act 2 l rm_X6_act) (T : q_T J cX6_act none Qp) : ∀ (σ : q_M) (lv : q_L) (st : q_S), k_X6_act_50 Qp J σ lv st → J 50 σ lv st := fun σ lv st h =>
    so_iload_n E (i := 1) rfl dX6_act_50 h fun σ lv st h =>
    so_bipush E (x := 100) rfl dX6_act_51 h fun σ lv st h =>
    so_icmpge E 82 (by decide) dX6_act_53 (sb_X6_act_82 E T) h fun σ lv st h =>
    so_aload_n E (i := 0) rfl dX6_act_56 h fun σ lv st h =>
    so_get E (pp := 24) (fi := 2) (C := RX6) (T := TX6) (N := 11) (ref := "WheelDeskModel") ⟨rfl, rfl, rfl⟩ rfl fi_X6_act_X6 (by decide) rfl (List.mem_of_getElem? (i := 2) rfl) dX6_act_57 h fun σ lv st h =>
    so_bipush E (x := 100) rfl dX6_act_60 h fun σ lv st h =>
    so_aload_n E (i := 0) rfl dX6_act_62 h fun σ lv st h =>
    so_get E (pp := 24) (fi := 3) (C := RX6) (T := TX6) (N := 11) (ref := "WheelDeskModel") ⟨rfl, rfl, rfl⟩ rfl fi_X6_act_X6 (by decide) rfl (List.mem_of_getElem? (i := 1) rfl) dX6_act_63 h fun σ lv st h =>
    so_imul E dX6_act_66 h fun σ lv st h =>
    so_iload_n E (i := 1) rfl dX6_act_67 h fun σ lv st h =>
    so_iadd E dX6_act_68 h fun σ lv st h =>
    so_aload_n E (i := 0) rfl dX6_act_69 h fun σ lv st h =>
    so_get E (pp := 24) (fi := 0) (C := RX6) (T := TX6) (N := 11) (ref := "WheelDeskModel") ⟨rfl, rfl, rfl⟩ rfl fi_X6_act_X6 (by decide) rfl (List.mem_of_getElem? (i := 3) rfl) dX6_act_70 h fun σ lv st h =>
    so_iload_n E (i := 1) rfl dX6_act_73 h fun σ lv st h =>
    so_lald E dX6_act_74 h fun σ lv st h =>
    so_last E dX6_act_75 h fun σ lv st h =>
    so_iinc E (i := 1) (n := 1) (by decide) dX6_act_76 h fun σ lv st h =>
    so_goto E 50 (by decide) dX6_act_79 (fun _ _ _ h => h) h
theorem c_X6_act : q_Ct yX6_act wsX6_act rm_X6_act S_X6_act := by
  refine q_met (cc := cX6_act) (maxL := 2) (ret := none) (own := RX6) (by decide +kernel) rfl rfl (fun σ vs Qp h => ?_) (fun l J σ vs Qp E T h => ?_)
  · unfold S_X6_act at h
    split at h
    · exact Nat.le_of_ble_eq_true rfl
    · exact h.elim
  · unfold S_X6_act at h
    split at h
    · next c0 p0 k0 =>
      obtain ⟨rfl, rfl, rfl, h⟩ := h
      exact v_X6_act (so_C E) (sb_X6_act_0 E T) (sb_X6_act_10 E T) (sb_X6_act_50 E T) h
    · exact h.elim
theorem cc_X6_act : q_Ct yX6_act wsX6_act rm_X6_act S_X6_act := c_X6_act

def rm_X6_copies : Room := { frames := 0, cells := 0, slots := 0, locals := 0 }
set_option maxRecDepth 20000 in
theorem sb_X6_copies_0 {J : Nat → q_K} {l : Launch} {Qp : Option q_V → q_M → Prop} (E : q_E J cX6_copies RX6 wsX6_copies 3 l rm_X6_copies) (T : q_T J cX6_copies none Qp) : ∀ (σ : q_M) (lv : q_L) (st : q_S), k_X6_copies_0 Qp J σ lv st → J 0 σ lv st := fun σ lv st h =>
    so_iconst E (x := 0) dX6_copies_0 h fun σ lv st h =>
    so_istore_n E (i := 2) rfl (by decide) dX6_copies_1 h fun σ lv st h =>
    h
set_option maxRecDepth 20000 in
theorem sb_X6_copies_20 {J : Nat → q_K} {l : Launch} {Qp : Option q_V → q_M → Prop} (E : q_E J cX6_copies RX6 wsX6_copies 3 l rm_X6_copies) (T : q_T J cX6_copies none Qp) : ∀ (σ : q_M) (lv : q_L) (st : q_S), k_X6_copies_20 Qp J σ lv st → J 20 σ lv st := fun σ lv st h =>
    so_vret T dX6_copies_20 h
set_option maxRecDepth 20000 in
theorem sb_X6_copies_2 {J : Nat → q_K} {l : Launch} {Qp : Option q_V → q_M → Prop} (E : q_E J cX6_copies RX6 wsX6_copies 3 l rm_X6_copies) (T : q_T J cX6_copies none Qp) : ∀ (σ : q_M) (lv : q_L) (st : q_S), k_X6_copies_2 Qp J σ lv st → J 2 σ lv st := fun σ lv st h =>
    so_iload_n E (i := 2) rfl dX6_copies_2 h fun σ lv st h =>
    so_bipush E (x := 100) rfl dX6_copies_3 h fun σ lv st h =>
    so_icmpge E 20 (by decide) dX6_copies_5 (sb_X6_copies_20 E T) h fun σ lv st h =>
    so_aload_n E (i := 1) rfl dX6_copies_8 h fun σ lv st h =>
    so_iload_n E (i := 2) rfl dX6_copies_9 h fun σ lv st h =>
    so_aload_n E (i := 0) rfl dX6_copies_10 h fun σ lv st h =>
    so_iload_n E (i := 2) rfl dX6_copies_11 h fun σ lv st h =>
    so_lald E dX6_copies_12 h fun σ lv st h =>
    so_last E dX6_copies_13 h fun σ lv st h =>
    so_iinc E (i := 2) (n := 1) (by decide) dX6_copies_14 h fun σ lv st h =>
    so_goto E 2 (by decide) dX6_copies_17 (fun _ _ _ h => h) h
theorem c_X6_copies : q_Ct yX6_copies wsX6_copies rm_X6_copies S_X6_copies := by
  refine q_met (cc := cX6_copies) (maxL := 3) (ret := none) (own := RX6) (by decide +kernel) rfl rfl (fun σ vs Qp h => ?_) (fun l J σ vs Qp E T h => ?_)
  · unfold S_X6_copies at h
    split at h
    · exact Nat.le_of_ble_eq_true rfl
    · exact h.elim
  · unfold S_X6_copies at h
    split at h
    · next c0 pf k0 c1 pt k1 =>
      obtain ⟨rfl, rfl, rfl, rfl, h⟩ := h
      exact v_X6_copies (so_C E) (sb_X6_copies_0 E T) (sb_X6_copies_2 E T) h
    · exact h.elim
theorem cc_X6_copies : q_Ct yX6_copies wsX6_copies rm_X6_copies S_X6_copies := c_X6_copies

def rm_X6_div : Room := { frames := 0, cells := 0, slots := 0, locals := 0 }
set_option maxRecDepth 20000 in
theorem sb_X6_div_22 {J : Nat → q_K} {l : Launch} {Qp : Option q_V → q_M → Prop} (E : q_E J cX6_div RX6 wsX6_div 6 l rm_X6_div) (T : q_T J cX6_div (some .long) Qp) : ∀ (σ : q_M) (lv : q_L) (st : q_S), k_X6_div_22 Qp J σ lv st → J 22 σ lv st := fun σ lv st h =>
    so_lsub E dX6_div_22 h fun σ lv st h =>
    so_lload_n E (i := 2) rfl dX6_div_23 h fun σ lv st h =>
    so_ldiv E dX6_div_24 h fun σ lv st h =>
    so_lret T dX6_div_25 h
set_option maxRecDepth 20000 in
theorem sb_X6_div_20 {J : Nat → q_K} {l : Launch} {Qp : Option q_V → q_M → Prop} (E : q_E J cX6_div RX6 wsX6_div 6 l rm_X6_div) (T : q_T J cX6_div (some .long) Qp) : ∀ (σ : q_M) (lv : q_L) (st : q_S), k_X6_div_20 Qp J σ lv st → J 20 σ lv st := fun σ lv st h =>
    so_lload E (i := 4) dX6_div_20 h fun σ lv st h =>
    (sb_X6_div_22 E T) σ lv st h
set_option maxRecDepth 20000 in
theorem sb_X6_div_0 {J : Nat → q_K} {l : Launch} {Qp : Option q_V → q_M → Prop} (E : q_E J cX6_div RX6 wsX6_div 6 l rm_X6_div) (T : q_T J cX6_div (some .long) Qp) : ∀ (σ : q_M) (lv : q_L) (st : q_S), k_X6_div_0 Qp J σ lv st → J 0 σ lv st := fun σ lv st h =>
    so_lload_n E (i := 0) rfl dX6_div_0 h fun σ lv st h =>
    so_lload_n E (i := 2) rfl dX6_div_1 h fun σ lv st h =>
    so_lrem E dX6_div_2 h fun σ lv st h =>
    so_lstore E (i := 4) (by decide) dX6_div_3 h fun σ lv st h =>
    so_lload_n E (i := 0) rfl dX6_div_5 h fun σ lv st h =>
    so_lload E (i := 4) dX6_div_6 h fun σ lv st h =>
    so_lconst E (x := 0) rfl dX6_div_8 h fun σ lv st h =>
    so_lcmp E dX6_div_9 h fun σ lv st h =>
    so_ifge E 20 (by decide) dX6_div_10 (sb_X6_div_20 E T) h fun σ lv st h =>
    so_lload E (i := 4) dX6_div_13 h fun σ lv st h =>
    so_lload_n E (i := 2) rfl dX6_div_15 h fun σ lv st h =>
    so_ladd E dX6_div_16 h fun σ lv st h =>
    so_goto E 22 (by decide) dX6_div_17 (sb_X6_div_22 E T) h
theorem c_X6_div : q_Ct yX6_div wsX6_div rm_X6_div S_X6_div := by
  refine q_met (cc := cX6_div) (maxL := 6) (ret := (some .long)) (own := RX6) (by decide +kernel) rfl rfl (fun σ vs Qp h => ?_) (fun l J σ vs Qp E T h => ?_)
  · unfold S_X6_div at h
    split at h
    · exact Nat.le_of_ble_eq_true rfl
    · exact h.elim
  · unfold S_X6_div at h
    split at h
    · next a b =>
      exact v_X6_div (so_C E) (sb_X6_div_0 E T) h
    · exact h.elim
theorem cc_X6_div : q_Ct yX6_div wsX6_div rm_X6_div S_X6_div := c_X6_div

def rm_X6_nearest : Room := { frames := 1, cells := 0, slots := 0, locals := 25 }
set_option maxRecDepth 20000 in
theorem sb_X6_nearest_0 {J : Nat → q_K} {l : Launch} {Qp : Option q_V → q_M → Prop} (E : q_E J cX6_nearest RX6 wsX6_nearest 4 l rm_X6_nearest) (T : q_T J cX6_nearest (some .long) Qp) (h_X6_div : q_Ct yX6_div wsX6_div rm_X6_div S_X6_div) : ∀ (σ : q_M) (lv : q_L) (st : q_S), k_X6_nearest_0 Qp J σ lv st → J 0 σ lv st := fun σ lv st h =>
    so_ldc2 E (x := 2) (idx := 61) (v := 2) (List.mem_of_getElem? (i := 1) rfl) rfl dX6_nearest_0 h fun σ lv st h =>
    so_lload_n E (i := 0) rfl dX6_nearest_3 h fun σ lv st h =>
    so_lmul E dX6_nearest_4 h fun σ lv st h =>
    so_lload_n E (i := 2) rfl dX6_nearest_5 h fun σ lv st h =>
    so_ladd E dX6_nearest_6 h fun σ lv st h =>
    so_ldc2 E (x := 2) (idx := 61) (v := 2) (List.mem_of_getElem? (i := 1) rfl) rfl dX6_nearest_7 h fun σ lv st h =>
    so_lload_n E (i := 2) rfl dX6_nearest_10 h fun σ lv st h =>
    so_lmul E dX6_nearest_11 h fun σ lv st h =>
    so_callT E (n := 2) (idx := 63) (maxL := 6) (ret := (some .long)) h_X6_div gX6_nearest_X6_div rfl ⟨rfl, rfl⟩ (by decide +kernel) (by decide) dX6_nearest_12 h fun σ lv st h =>
    so_lret T dX6_nearest_15 h
theorem c_X6_nearest (h_X6_div : q_Ct yX6_div wsX6_div rm_X6_div S_X6_div) : q_Ct yX6_nearest wsX6_nearest rm_X6_nearest S_X6_nearest := by
  refine q_met (cc := cX6_nearest) (maxL := 4) (ret := (some .long)) (own := RX6) (by decide +kernel) rfl rfl (fun σ vs Qp h => ?_) (fun l J σ vs Qp E T h => ?_)
  · unfold S_X6_nearest at h
    split at h
    · exact Nat.le_of_ble_eq_true rfl
    · exact h.elim
  · unfold S_X6_nearest at h
    split at h
    · next a b =>
      exact v_X6_nearest (so_C E) (sb_X6_nearest_0 E T h_X6_div) h
    · exact h.elim
theorem cc_X6_nearest : q_Ct yX6_nearest wsX6_nearest rm_X6_nearest S_X6_nearest := c_X6_nearest cc_X6_div

def rm_X6_held : Room := { frames := 0, cells := 0, slots := 0, locals := 0 }
set_option maxRecDepth 20000 in
theorem sb_X6_held_23 {J : Nat → q_K} {l : Launch} {Qp : Option q_V → q_M → Prop} (E : q_E J cX6_held RX6 wsX6_held 4 l rm_X6_held) (T : q_T J cX6_held (some .long) Qp) : ∀ (σ : q_M) (lv : q_L) (st : q_S), k_X6_held_23 Qp J σ lv st → J 23 σ lv st := fun σ lv st h =>
    so_lret T dX6_held_23 h
set_option maxRecDepth 20000 in
theorem sb_X6_held_22 {J : Nat → q_K} {l : Launch} {Qp : Option q_V → q_M → Prop} (E : q_E J cX6_held RX6 wsX6_held 4 l rm_X6_held) (T : q_T J cX6_held (some .long) Qp) : ∀ (σ : q_M) (lv : q_L) (st : q_S), k_X6_held_22 Qp J σ lv st → J 22 σ lv st := fun σ lv st h =>
    so_lload_n E (i := 0) rfl dX6_held_22 h fun σ lv st h =>
    (sb_X6_held_23 E T) σ lv st h
set_option maxRecDepth 20000 in
theorem sb_X6_held_10 {J : Nat → q_K} {l : Launch} {Qp : Option q_V → q_M → Prop} (E : q_E J cX6_held RX6 wsX6_held 4 l rm_X6_held) (T : q_T J cX6_held (some .long) Qp) : ∀ (σ : q_M) (lv : q_L) (st : q_S), k_X6_held_10 Qp J σ lv st → J 10 σ lv st := fun σ lv st h =>
    so_lload_n E (i := 0) rfl dX6_held_10 h fun σ lv st h =>
    so_lload_n E (i := 2) rfl dX6_held_11 h fun σ lv st h =>
    so_lneg E dX6_held_12 h fun σ lv st h =>
    so_lcmp E dX6_held_13 h fun σ lv st h =>
    so_ifge E 22 (by decide) dX6_held_14 (sb_X6_held_22 E T) h fun σ lv st h =>
    so_lload_n E (i := 2) rfl dX6_held_17 h fun σ lv st h =>
    so_lneg E dX6_held_18 h fun σ lv st h =>
    so_goto E 23 (by decide) dX6_held_19 (sb_X6_held_23 E T) h
set_option maxRecDepth 20000 in
theorem sb_X6_held_0 {J : Nat → q_K} {l : Launch} {Qp : Option q_V → q_M → Prop} (E : q_E J cX6_held RX6 wsX6_held 4 l rm_X6_held) (T : q_T J cX6_held (some .long) Qp) : ∀ (σ : q_M) (lv : q_L) (st : q_S), k_X6_held_0 Qp J σ lv st → J 0 σ lv st := fun σ lv st h =>
    so_lload_n E (i := 0) rfl dX6_held_0 h fun σ lv st h =>
    so_lload_n E (i := 2) rfl dX6_held_1 h fun σ lv st h =>
    so_lcmp E dX6_held_2 h fun σ lv st h =>
    so_ifle E 10 (by decide) dX6_held_3 (sb_X6_held_10 E T) h fun σ lv st h =>
    so_lload_n E (i := 2) rfl dX6_held_6 h fun σ lv st h =>
    so_goto E 23 (by decide) dX6_held_7 (sb_X6_held_23 E T) h
theorem c_X6_held : q_Ct yX6_held wsX6_held rm_X6_held S_X6_held := by
  refine q_met (cc := cX6_held) (maxL := 4) (ret := (some .long)) (own := RX6) (by decide +kernel) rfl rfl (fun σ vs Qp h => ?_) (fun l J σ vs Qp E T h => ?_)
  · unfold S_X6_held at h
    split at h
    · exact Nat.le_of_ble_eq_true rfl
    · exact h.elim
  · unfold S_X6_held at h
    split at h
    · next x m =>
      exact v_X6_held (so_C E) (sb_X6_held_0 E T) h
    · exact h.elim
theorem cc_X6_held : q_Ct yX6_held wsX6_held rm_X6_held S_X6_held := c_X6_held

def rm_X6_size : Room := { frames := 0, cells := 0, slots := 0, locals := 0 }
set_option maxRecDepth 20000 in
theorem sb_X6_size_12 {J : Nat → q_K} {l : Launch} {Qp : Option q_V → q_M → Prop} (E : q_E J cX6_size RX6 wsX6_size 2 l rm_X6_size) (T : q_T J cX6_size (some .long) Qp) : ∀ (σ : q_M) (lv : q_L) (st : q_S), k_X6_size_12 Qp J σ lv st → J 12 σ lv st := fun σ lv st h =>
    so_lret T dX6_size_12 h
set_option maxRecDepth 20000 in
theorem sb_X6_size_11 {J : Nat → q_K} {l : Launch} {Qp : Option q_V → q_M → Prop} (E : q_E J cX6_size RX6 wsX6_size 2 l rm_X6_size) (T : q_T J cX6_size (some .long) Qp) : ∀ (σ : q_M) (lv : q_L) (st : q_S), k_X6_size_11 Qp J σ lv st → J 11 σ lv st := fun σ lv st h =>
    so_lload_n E (i := 0) rfl dX6_size_11 h fun σ lv st h =>
    (sb_X6_size_12 E T) σ lv st h
set_option maxRecDepth 20000 in
theorem sb_X6_size_0 {J : Nat → q_K} {l : Launch} {Qp : Option q_V → q_M → Prop} (E : q_E J cX6_size RX6 wsX6_size 2 l rm_X6_size) (T : q_T J cX6_size (some .long) Qp) : ∀ (σ : q_M) (lv : q_L) (st : q_S), k_X6_size_0 Qp J σ lv st → J 0 σ lv st := fun σ lv st h =>
    so_lload_n E (i := 0) rfl dX6_size_0 h fun σ lv st h =>
    so_lconst E (x := 0) rfl dX6_size_1 h fun σ lv st h =>
    so_lcmp E dX6_size_2 h fun σ lv st h =>
    so_ifge E 11 (by decide) dX6_size_3 (sb_X6_size_11 E T) h fun σ lv st h =>
    so_lload_n E (i := 0) rfl dX6_size_6 h fun σ lv st h =>
    so_lneg E dX6_size_7 h fun σ lv st h =>
    so_goto E 12 (by decide) dX6_size_8 (sb_X6_size_12 E T) h
theorem c_X6_size : q_Ct yX6_size wsX6_size rm_X6_size S_X6_size := by
  refine q_met (cc := cX6_size) (maxL := 2) (ret := (some .long)) (own := RX6) (by decide +kernel) rfl rfl (fun σ vs Qp h => ?_) (fun l J σ vs Qp E T h => ?_)
  · unfold S_X6_size at h
    split at h
    · exact Nat.le_of_ble_eq_true rfl
    · exact h.elim
  · unfold S_X6_size at h
    split at h
    · next x =>
      exact v_X6_size (so_C E) (sb_X6_size_0 E T) h
    · exact h.elim
theorem cc_X6_size : q_Ct yX6_size wsX6_size rm_X6_size S_X6_size := c_X6_size

def rm_X6_axisAt : Room := { frames := 0, cells := 0, slots := 0, locals := 0 }
set_option maxRecDepth 20000 in
theorem sb_X6_axisAt_0 {J : Nat → q_K} {l : Launch} {Qp : Option q_V → q_M → Prop} (E : q_E J cX6_axisAt RX6 wsX6_axisAt 2 l rm_X6_axisAt) (T : q_T J cX6_axisAt (some .int) Qp) : ∀ (σ : q_M) (lv : q_L) (st : q_S), k_X6_axisAt_0 Qp J σ lv st → J 0 σ lv st := fun σ lv st h =>
    so_bipush E (x := 12) rfl dX6_axisAt_0 h fun σ lv st h =>
    so_bipush E (x := 8) rfl dX6_axisAt_2 h fun σ lv st h =>
    so_iload_n E (i := 0) rfl dX6_axisAt_4 h fun σ lv st h =>
    so_imul E dX6_axisAt_5 h fun σ lv st h =>
    so_iadd E dX6_axisAt_6 h fun σ lv st h =>
    so_iload_n E (i := 1) rfl dX6_axisAt_7 h fun σ lv st h =>
    so_iadd E dX6_axisAt_8 h fun σ lv st h =>
    so_iret T dX6_axisAt_9 h
theorem c_X6_axisAt : q_Ct yX6_axisAt wsX6_axisAt rm_X6_axisAt S_X6_axisAt := by
  refine q_met (cc := cX6_axisAt) (maxL := 2) (ret := (some .int)) (own := RX6) (by decide +kernel) rfl rfl (fun σ vs Qp h => ?_) (fun l J σ vs Qp E T h => ?_)
  · unfold S_X6_axisAt at h
    split at h
    · exact Nat.le_of_ble_eq_true rfl
    · exact h.elim
  · unfold S_X6_axisAt at h
    split at h
    · next a w =>
      exact v_X6_axisAt (so_C E) (sb_X6_axisAt_0 E T) h
    · exact h.elim
theorem cc_X6_axisAt : q_Ct yX6_axisAt wsX6_axisAt rm_X6_axisAt S_X6_axisAt := c_X6_axisAt

def rm_X6_wheelAt : Room := { frames := 0, cells := 0, slots := 0, locals := 0 }
set_option maxRecDepth 20000 in
theorem sb_X6_wheelAt_0 {J : Nat → q_K} {l : Launch} {Qp : Option q_V → q_M → Prop} (E : q_E J cX6_wheelAt RX6 wsX6_wheelAt 2 l rm_X6_wheelAt) (T : q_T J cX6_wheelAt (some .int) Qp) : ∀ (σ : q_M) (lv : q_L) (st : q_S), k_X6_wheelAt_0 Qp J σ lv st → J 0 σ lv st := fun σ lv st h =>
    so_bipush E (x := 40) rfl dX6_wheelAt_0 h fun σ lv st h =>
    so_bipush E (x := 8) rfl dX6_wheelAt_2 h fun σ lv st h =>
    so_iload_n E (i := 0) rfl dX6_wheelAt_4 h fun σ lv st h =>
    so_imul E dX6_wheelAt_5 h fun σ lv st h =>
    so_iadd E dX6_wheelAt_6 h fun σ lv st h =>
    so_iload_n E (i := 1) rfl dX6_wheelAt_7 h fun σ lv st h =>
    so_iadd E dX6_wheelAt_8 h fun σ lv st h =>
    so_iret T dX6_wheelAt_9 h
theorem c_X6_wheelAt : q_Ct yX6_wheelAt wsX6_wheelAt rm_X6_wheelAt S_X6_wheelAt := by
  refine q_met (cc := cX6_wheelAt) (maxL := 2) (ret := (some .int)) (own := RX6) (by decide +kernel) rfl rfl (fun σ vs Qp h => ?_) (fun l J σ vs Qp E T h => ?_)
  · unfold S_X6_wheelAt at h
    split at h
    · exact Nat.le_of_ble_eq_true rfl
    · exact h.elim
  · unfold S_X6_wheelAt at h
    split at h
    · next a w =>
      exact v_X6_wheelAt (so_C E) (sb_X6_wheelAt_0 E T) h
    · exact h.elim
theorem cc_X6_wheelAt : q_Ct yX6_wheelAt wsX6_wheelAt rm_X6_wheelAt S_X6_wheelAt := c_X6_wheelAt

def rm_X6_isWheel : Room := { frames := 1, cells := 0, slots := 0, locals := 22 }
theorem fi_X6_isWheel_X6 : ∀ w ∈ u_ws RX6 TX6 11, w ∈ wsX6_isWheel := fun w h => List.mem_cons_of_mem _ (List.mem_append_right _ h)
set_option maxRecDepth 20000 in
theorem sb_X6_isWheel_0 {J : Nat → q_K} {l : Launch} {Qp : Option q_V → q_M → Prop} (E : q_E J cX6_isWheel RX6 wsX6_isWheel 2 l rm_X6_isWheel) (T : q_T J cX6_isWheel (some .boolean) Qp) (h_X6_in : q_Ct yX6_in wsX6_in rm_X6_in S_X6_in) : ∀ (σ : q_M) (lv : q_L) (st : q_S), k_X6_isWheel_0 Qp J σ lv st → J 0 σ lv st := fun σ lv st h =>
    so_iload_n E (i := 1) rfl dX6_isWheel_0 h fun σ lv st h =>
    so_iconst E (x := 0) dX6_isWheel_1 h fun σ lv st h =>
    so_aload_n E (i := 0) rfl dX6_isWheel_2 h fun σ lv st h =>
    so_get E (pp := 24) (fi := 0) (C := RX6) (T := TX6) (N := 11) (ref := "WheelDeskModel") ⟨rfl, rfl, rfl⟩ rfl fi_X6_isWheel_X6 (by decide) rfl (List.mem_of_getElem? (i := 1) rfl) dX6_isWheel_3 h fun σ lv st h =>
    so_bipush E (x := 6) rfl dX6_isWheel_6 h fun σ lv st h =>
    so_lald E dX6_isWheel_8 h fun σ lv st h =>
    so_l2i E dX6_isWheel_9 h fun σ lv st h =>
    so_iconst E (x := 1) dX6_isWheel_10 h fun σ lv st h =>
    so_isub E dX6_isWheel_11 h fun σ lv st h =>
    so_callT E (n := 3) (idx := 67) (maxL := 3) (ret := (some .boolean)) h_X6_in gX6_isWheel_X6_in rfl ⟨rfl, rfl⟩ (by decide +kernel) (by decide) dX6_isWheel_12 h fun σ lv st h =>
    so_zret T dX6_isWheel_15 h
theorem c_X6_isWheel (h_X6_in : q_Ct yX6_in wsX6_in rm_X6_in S_X6_in) : q_Ct yX6_isWheel wsX6_isWheel rm_X6_isWheel S_X6_isWheel := by
  refine q_met (cc := cX6_isWheel) (maxL := 2) (ret := (some .boolean)) (own := RX6) (by decide +kernel) rfl rfl (fun σ vs Qp h => ?_) (fun l J σ vs Qp E T h => ?_)
  · unfold S_X6_isWheel at h
    split at h
    · exact Nat.le_of_ble_eq_true rfl
    · exact h.elim
  · unfold S_X6_isWheel at h
    split at h
    · next c0 p0 k0 k =>
      obtain ⟨rfl, rfl, rfl, h⟩ := h
      exact v_X6_isWheel (so_C E) (sb_X6_isWheel_0 E T h_X6_in) h
    · exact h.elim
theorem cc_X6_isWheel : q_Ct yX6_isWheel wsX6_isWheel rm_X6_isWheel S_X6_isWheel := c_X6_isWheel cc_X6_in

def rm_X6_works : Room := { frames := 1, cells := 0, slots := 0, locals := 21 }
theorem fi_X6_works_X6 : ∀ w ∈ u_ws RX6 TX6 11, w ∈ wsX6_works := fun w h => List.mem_cons_of_mem _ (List.mem_append_right _ h)
set_option maxRecDepth 20000 in
theorem sb_X6_works_21 {J : Nat → q_K} {l : Launch} {Qp : Option q_V → q_M → Prop} (E : q_E J cX6_works RX6 wsX6_works 2 l rm_X6_works) (T : q_T J cX6_works (some .boolean) Qp) (h_X6_wheelAt : q_Ct yX6_wheelAt wsX6_wheelAt rm_X6_wheelAt S_X6_wheelAt) : ∀ (σ : q_M) (lv : q_L) (st : q_S), k_X6_works_21 Qp J σ lv st → J 21 σ lv st := fun σ lv st h =>
    so_zret T dX6_works_21 h
set_option maxRecDepth 20000 in
theorem sb_X6_works_20 {J : Nat → q_K} {l : Launch} {Qp : Option q_V → q_M → Prop} (E : q_E J cX6_works RX6 wsX6_works 2 l rm_X6_works) (T : q_T J cX6_works (some .boolean) Qp) (h_X6_wheelAt : q_Ct yX6_wheelAt wsX6_wheelAt rm_X6_wheelAt S_X6_wheelAt) : ∀ (σ : q_M) (lv : q_L) (st : q_S), k_X6_works_20 Qp J σ lv st → J 20 σ lv st := fun σ lv st h =>
    so_iconst E (x := 0) dX6_works_20 h fun σ lv st h =>
    (sb_X6_works_21 E T h_X6_wheelAt) σ lv st h
set_option maxRecDepth 20000 in
theorem sb_X6_works_0 {J : Nat → q_K} {l : Launch} {Qp : Option q_V → q_M → Prop} (E : q_E J cX6_works RX6 wsX6_works 2 l rm_X6_works) (T : q_T J cX6_works (some .boolean) Qp) (h_X6_wheelAt : q_Ct yX6_wheelAt wsX6_wheelAt rm_X6_wheelAt S_X6_wheelAt) : ∀ (σ : q_M) (lv : q_L) (st : q_S), k_X6_works_0 Qp J σ lv st → J 0 σ lv st := fun σ lv st h =>
    so_aload_n E (i := 0) rfl dX6_works_0 h fun σ lv st h =>
    so_get E (pp := 24) (fi := 0) (C := RX6) (T := TX6) (N := 11) (ref := "WheelDeskModel") ⟨rfl, rfl, rfl⟩ rfl fi_X6_works_X6 (by decide) rfl (List.mem_of_getElem? (i := 1) rfl) dX6_works_1 h fun σ lv st h =>
    so_iload_n E (i := 1) rfl dX6_works_4 h fun σ lv st h =>
    so_bipush E (x := 6) rfl dX6_works_5 h fun σ lv st h =>
    so_callT E (n := 2) (idx := 71) (maxL := 2) (ret := (some .int)) h_X6_wheelAt gX6_works_X6_wheelAt rfl ⟨rfl, rfl⟩ (by decide +kernel) (by decide) dX6_works_7 h fun σ lv st h =>
    so_lald E dX6_works_10 h fun σ lv st h =>
    so_lconst E (x := 0) rfl dX6_works_11 h fun σ lv st h =>
    so_lcmp E dX6_works_12 h fun σ lv st h =>
    so_ifne E 20 (by decide) dX6_works_13 (sb_X6_works_20 E T h_X6_wheelAt) h fun σ lv st h =>
    so_iconst E (x := 1) dX6_works_16 h fun σ lv st h =>
    so_goto E 21 (by decide) dX6_works_17 (sb_X6_works_21 E T h_X6_wheelAt) h
theorem c_X6_works (h_X6_wheelAt : q_Ct yX6_wheelAt wsX6_wheelAt rm_X6_wheelAt S_X6_wheelAt) : q_Ct yX6_works wsX6_works rm_X6_works S_X6_works := by
  refine q_met (cc := cX6_works) (maxL := 2) (ret := (some .boolean)) (own := RX6) (by decide +kernel) rfl rfl (fun σ vs Qp h => ?_) (fun l J σ vs Qp E T h => ?_)
  · unfold S_X6_works at h
    split at h
    · exact Nat.le_of_ble_eq_true rfl
    · exact h.elim
  · unfold S_X6_works at h
    split at h
    · next c0 p0 k0 k =>
      obtain ⟨rfl, rfl, rfl, h⟩ := h
      exact v_X6_works (so_C E) (sb_X6_works_0 E T h_X6_wheelAt) h
    · exact h.elim
theorem cc_X6_works : q_Ct yX6_works wsX6_works rm_X6_works S_X6_works := c_X6_works cc_X6_wheelAt

def rm_X6_reasons : Room := { frames := 0, cells := 0, slots := 0, locals := 0 }
theorem fi_X6_reasons_X6 : ∀ w ∈ u_ws RX6 TX6 11, w ∈ wsX6_reasons := fun w h => List.mem_cons_of_mem _ (List.mem_append_right _ h)
set_option maxRecDepth 20000 in
theorem sb_X6_reasons_0 {J : Nat → q_K} {l : Launch} {Qp : Option q_V → q_M → Prop} (E : q_E J cX6_reasons RX6 wsX6_reasons 7 l rm_X6_reasons) (T : q_T J cX6_reasons none Qp) : ∀ (σ : q_M) (lv : q_L) (st : q_S), k_X6_reasons_0 Qp J σ lv st → J 0 σ lv st := fun σ lv st h =>
    so_aload_n E (i := 0) rfl dX6_reasons_0 h fun σ lv st h =>
    so_get E (pp := 24) (fi := 0) (C := RX6) (T := TX6) (N := 11) (ref := "WheelDeskModel") ⟨rfl, rfl, rfl⟩ rfl fi_X6_reasons_X6 (by decide) rfl (List.mem_of_getElem? (i := 1) rfl) dX6_reasons_1 h fun σ lv st h =>
    so_bipush E (x := 8) rfl dX6_reasons_4 h fun σ lv st h =>
    so_lload_n E (i := 1) rfl dX6_reasons_6 h fun σ lv st h =>
    so_last E dX6_reasons_7 h fun σ lv st h =>
    so_aload_n E (i := 0) rfl dX6_reasons_8 h fun σ lv st h =>
    so_get E (pp := 24) (fi := 0) (C := RX6) (T := TX6) (N := 11) (ref := "WheelDeskModel") ⟨rfl, rfl, rfl⟩ rfl fi_X6_reasons_X6 (by decide) rfl (List.mem_of_getElem? (i := 1) rfl) dX6_reasons_9 h fun σ lv st h =>
    so_bipush E (x := 9) rfl dX6_reasons_12 h fun σ lv st h =>
    so_lload_n E (i := 3) rfl dX6_reasons_14 h fun σ lv st h =>
    so_last E dX6_reasons_15 h fun σ lv st h =>
    so_aload_n E (i := 0) rfl dX6_reasons_16 h fun σ lv st h =>
    so_get E (pp := 24) (fi := 0) (C := RX6) (T := TX6) (N := 11) (ref := "WheelDeskModel") ⟨rfl, rfl, rfl⟩ rfl fi_X6_reasons_X6 (by decide) rfl (List.mem_of_getElem? (i := 1) rfl) dX6_reasons_17 h fun σ lv st h =>
    so_bipush E (x := 10) rfl dX6_reasons_20 h fun σ lv st h =>
    so_lload E (i := 5) dX6_reasons_22 h fun σ lv st h =>
    so_last E dX6_reasons_24 h fun σ lv st h =>
    so_vret T dX6_reasons_25 h
theorem c_X6_reasons : q_Ct yX6_reasons wsX6_reasons rm_X6_reasons S_X6_reasons := by
  refine q_met (cc := cX6_reasons) (maxL := 7) (ret := none) (own := RX6) (by decide +kernel) rfl rfl (fun σ vs Qp h => ?_) (fun l J σ vs Qp E T h => ?_)
  · unfold S_X6_reasons at h
    split at h
    · exact Nat.le_of_ble_eq_true rfl
    · exact h.elim
  · unfold S_X6_reasons at h
    split at h
    · next c0 p0 k0 x y z =>
      obtain ⟨rfl, rfl, rfl, h⟩ := h
      exact v_X6_reasons (so_C E) (sb_X6_reasons_0 E T) h
    · exact h.elim
theorem cc_X6_reasons : q_Ct yX6_reasons wsX6_reasons rm_X6_reasons S_X6_reasons := c_X6_reasons

def rm_X6_isPart : Room := { frames := 1, cells := 0, slots := 0, locals := 22 }
set_option maxRecDepth 20000 in
theorem sb_X6_isPart_0 {J : Nat → q_K} {l : Launch} {Qp : Option q_V → q_M → Prop} (E : q_E J cX6_isPart RX6 wsX6_isPart 1 l rm_X6_isPart) (T : q_T J cX6_isPart (some .boolean) Qp) (h_X6_in : q_Ct yX6_in wsX6_in rm_X6_in S_X6_in) : ∀ (σ : q_M) (lv : q_L) (st : q_S), k_X6_isPart_0 Qp J σ lv st → J 0 σ lv st := fun σ lv st h =>
    so_iload_n E (i := 0) rfl dX6_isPart_0 h fun σ lv st h =>
    so_bipush E (x := -9) rfl dX6_isPart_1 h fun σ lv st h =>
    so_bipush E (x := 9) rfl dX6_isPart_3 h fun σ lv st h =>
    so_callT E (n := 3) (idx := 67) (maxL := 3) (ret := (some .boolean)) h_X6_in gX6_isPart_X6_in rfl ⟨rfl, rfl⟩ (by decide +kernel) (by decide) dX6_isPart_5 h fun σ lv st h =>
    so_zret T dX6_isPart_8 h
theorem c_X6_isPart (h_X6_in : q_Ct yX6_in wsX6_in rm_X6_in S_X6_in) : q_Ct yX6_isPart wsX6_isPart rm_X6_isPart S_X6_isPart := by
  refine q_met (cc := cX6_isPart) (maxL := 1) (ret := (some .boolean)) (own := RX6) (by decide +kernel) rfl rfl (fun σ vs Qp h => ?_) (fun l J σ vs Qp E T h => ?_)
  · unfold S_X6_isPart at h
    split at h
    · exact Nat.le_of_ble_eq_true rfl
    · exact h.elim
  · unfold S_X6_isPart at h
    split at h
    · next x =>
      exact v_X6_isPart (so_C E) (sb_X6_isPart_0 E T h_X6_in) h
    · exact h.elim
theorem cc_X6_isPart : q_Ct yX6_isPart wsX6_isPart rm_X6_isPart S_X6_isPart := c_X6_isPart cc_X6_in

def rm_X6_addWheel : Room := { frames := 2, cells := 0, slots := 0, locals := 42 }
theorem fi_X6_addWheel_X6 : ∀ w ∈ u_ws RX6 TX6 11, w ∈ wsX6_addWheel := fun w h => List.mem_cons_of_mem _ (List.mem_append_right _ h)
set_option maxRecDepth 20000 in
theorem sb_X6_addWheel_55 {J : Nat → q_K} {l : Launch} {Qp : Option q_V → q_M → Prop} (E : q_E J cX6_addWheel RX6 wsX6_addWheel 7 l rm_X6_addWheel) (T : q_T J cX6_addWheel (some .int) Qp) (h_X6_isPart : q_Ct yX6_isPart wsX6_isPart rm_X6_isPart S_X6_isPart) (h_X6_in : q_Ct yX6_in wsX6_in rm_X6_in S_X6_in) (h_X6_act : q_Ct yX6_act wsX6_act rm_X6_act S_X6_act) (h_X6_wheelAt : q_Ct yX6_wheelAt wsX6_wheelAt rm_X6_wheelAt S_X6_wheelAt) : ∀ (σ : q_M) (lv : q_L) (st : q_S), k_X6_addWheel_55 Qp J σ lv st → J 55 σ lv st := fun σ lv st h =>
    so_ldc E (x := -2000001) (idx := 80) (v := -2000001) (List.mem_of_getElem? (i := 3) rfl) rfl dX6_addWheel_55 h fun σ lv st h =>
    so_iret T dX6_addWheel_57 h
set_option maxRecDepth 20000 in
theorem sb_X6_addWheel_75 {J : Nat → q_K} {l : Launch} {Qp : Option q_V → q_M → Prop} (E : q_E J cX6_addWheel RX6 wsX6_addWheel 7 l rm_X6_addWheel) (T : q_T J cX6_addWheel (some .int) Qp) (h_X6_isPart : q_Ct yX6_isPart wsX6_isPart rm_X6_isPart S_X6_isPart) (h_X6_in : q_Ct yX6_in wsX6_in rm_X6_in S_X6_in) (h_X6_act : q_Ct yX6_act wsX6_act rm_X6_act S_X6_act) (h_X6_wheelAt : q_Ct yX6_wheelAt wsX6_wheelAt rm_X6_wheelAt S_X6_wheelAt) : ∀ (σ : q_M) (lv : q_L) (st : q_S), k_X6_addWheel_75 Qp J σ lv st → J 75 σ lv st := fun σ lv st h =>
    so_aload_n E (i := 0) rfl dX6_addWheel_75 h fun σ lv st h =>
    so_callV E (n := 0) (pp := 24) (C := RX6) (T := TX6) (N := 11) (idx := 84) (maxL := 2) (ret := none) h_X6_act ⟨rfl, rfl, rfl⟩ rfl gX6_addWheel_X6_act rfl ⟨rfl, rfl⟩ (by decide +kernel) (by decide) dX6_addWheel_76 h fun σ lv st h =>
    so_aload_n E (i := 0) rfl dX6_addWheel_79 h fun σ lv st h =>
    so_get E (pp := 24) (fi := 0) (C := RX6) (T := TX6) (N := 11) (ref := "WheelDeskModel") ⟨rfl, rfl, rfl⟩ rfl fi_X6_addWheel_X6 (by decide) rfl (List.mem_of_getElem? (i := 4) rfl) dX6_addWheel_80 h fun σ lv st h =>
    so_bipush E (x := 6) rfl dX6_addWheel_83 h fun σ lv st h =>
    so_lald E dX6_addWheel_85 h fun σ lv st h =>
    so_l2i E dX6_addWheel_86 h fun σ lv st h =>
    so_istore E (i := 6) (by decide) dX6_addWheel_87 h fun σ lv st h =>
    so_aload_n E (i := 0) rfl dX6_addWheel_89 h fun σ lv st h =>
    so_get E (pp := 24) (fi := 0) (C := RX6) (T := TX6) (N := 11) (ref := "WheelDeskModel") ⟨rfl, rfl, rfl⟩ rfl fi_X6_addWheel_X6 (by decide) rfl (List.mem_of_getElem? (i := 4) rfl) dX6_addWheel_90 h fun σ lv st h =>
    so_iload E (i := 6) dX6_addWheel_93 h fun σ lv st h =>
    so_iconst E (x := 0) dX6_addWheel_95 h fun σ lv st h =>
    so_callT E (n := 2) (idx := 71) (maxL := 2) (ret := (some .int)) h_X6_wheelAt gX6_addWheel_X6_wheelAt rfl ⟨rfl, rfl⟩ (by decide +kernel) (by decide) dX6_addWheel_96 h fun σ lv st h =>
    so_iload_n E (i := 1) rfl dX6_addWheel_99 h fun σ lv st h =>
    so_i2l E dX6_addWheel_100 h fun σ lv st h =>
    so_last E dX6_addWheel_101 h fun σ lv st h =>
    so_aload_n E (i := 0) rfl dX6_addWheel_102 h fun σ lv st h =>
    so_get E (pp := 24) (fi := 0) (C := RX6) (T := TX6) (N := 11) (ref := "WheelDeskModel") ⟨rfl, rfl, rfl⟩ rfl fi_X6_addWheel_X6 (by decide) rfl (List.mem_of_getElem? (i := 4) rfl) dX6_addWheel_103 h fun σ lv st h =>
    so_iload E (i := 6) dX6_addWheel_106 h fun σ lv st h =>
    so_iconst E (x := 1) dX6_addWheel_108 h fun σ lv st h =>
    so_callT E (n := 2) (idx := 71) (maxL := 2) (ret := (some .int)) h_X6_wheelAt gX6_addWheel_X6_wheelAt rfl ⟨rfl, rfl⟩ (by decide +kernel) (by decide) dX6_addWheel_109 h fun σ lv st h =>
    so_iload_n E (i := 2) rfl dX6_addWheel_112 h fun σ lv st h =>
    so_i2l E dX6_addWheel_113 h fun σ lv st h =>
    so_last E dX6_addWheel_114 h fun σ lv st h =>
    so_aload_n E (i := 0) rfl dX6_addWheel_115 h fun σ lv st h =>
    so_get E (pp := 24) (fi := 0) (C := RX6) (T := TX6) (N := 11) (ref := "WheelDeskModel") ⟨rfl, rfl, rfl⟩ rfl fi_X6_addWheel_X6 (by decide) rfl (List.mem_of_getElem? (i := 4) rfl) dX6_addWheel_116 h fun σ lv st h =>
    so_iload E (i := 6) dX6_addWheel_119 h fun σ lv st h =>
    so_iconst E (x := 2) dX6_addWheel_121 h fun σ lv st h =>
    so_callT E (n := 2) (idx := 71) (maxL := 2) (ret := (some .int)) h_X6_wheelAt gX6_addWheel_X6_wheelAt rfl ⟨rfl, rfl⟩ (by decide +kernel) (by decide) dX6_addWheel_122 h fun σ lv st h =>
    so_iload_n E (i := 3) rfl dX6_addWheel_125 h fun σ lv st h =>
    so_i2l E dX6_addWheel_126 h fun σ lv st h =>
    so_last E dX6_addWheel_127 h fun σ lv st h =>
    so_aload_n E (i := 0) rfl dX6_addWheel_128 h fun σ lv st h =>
    so_get E (pp := 24) (fi := 0) (C := RX6) (T := TX6) (N := 11) (ref := "WheelDeskModel") ⟨rfl, rfl, rfl⟩ rfl fi_X6_addWheel_X6 (by decide) rfl (List.mem_of_getElem? (i := 4) rfl) dX6_addWheel_129 h fun σ lv st h =>
    so_iload E (i := 6) dX6_addWheel_132 h fun σ lv st h =>
    so_iconst E (x := 3) dX6_addWheel_134 h fun σ lv st h =>
    so_callT E (n := 2) (idx := 71) (maxL := 2) (ret := (some .int)) h_X6_wheelAt gX6_addWheel_X6_wheelAt rfl ⟨rfl, rfl⟩ (by decide +kernel) (by decide) dX6_addWheel_135 h fun σ lv st h =>
    so_lconst E (x := 0) rfl dX6_addWheel_138 h fun σ lv st h =>
    so_last E dX6_addWheel_139 h fun σ lv st h =>
    so_aload_n E (i := 0) rfl dX6_addWheel_140 h fun σ lv st h =>
    so_get E (pp := 24) (fi := 0) (C := RX6) (T := TX6) (N := 11) (ref := "WheelDeskModel") ⟨rfl, rfl, rfl⟩ rfl fi_X6_addWheel_X6 (by decide) rfl (List.mem_of_getElem? (i := 4) rfl) dX6_addWheel_141 h fun σ lv st h =>
    so_iload E (i := 6) dX6_addWheel_144 h fun σ lv st h =>
    so_iconst E (x := 4) dX6_addWheel_146 h fun σ lv st h =>
    so_callT E (n := 2) (idx := 71) (maxL := 2) (ret := (some .int)) h_X6_wheelAt gX6_addWheel_X6_wheelAt rfl ⟨rfl, rfl⟩ (by decide +kernel) (by decide) dX6_addWheel_147 h fun σ lv st h =>
    so_iload E (i := 4) dX6_addWheel_150 h fun σ lv st h =>
    so_i2l E dX6_addWheel_152 h fun σ lv st h =>
    so_last E dX6_addWheel_153 h fun σ lv st h =>
    so_aload_n E (i := 0) rfl dX6_addWheel_154 h fun σ lv st h =>
    so_get E (pp := 24) (fi := 0) (C := RX6) (T := TX6) (N := 11) (ref := "WheelDeskModel") ⟨rfl, rfl, rfl⟩ rfl fi_X6_addWheel_X6 (by decide) rfl (List.mem_of_getElem? (i := 4) rfl) dX6_addWheel_155 h fun σ lv st h =>
    so_iload E (i := 6) dX6_addWheel_158 h fun σ lv st h =>
    so_iconst E (x := 5) dX6_addWheel_160 h fun σ lv st h =>
    so_callT E (n := 2) (idx := 71) (maxL := 2) (ret := (some .int)) h_X6_wheelAt gX6_addWheel_X6_wheelAt rfl ⟨rfl, rfl⟩ (by decide +kernel) (by decide) dX6_addWheel_161 h fun σ lv st h =>
    so_iload E (i := 5) dX6_addWheel_164 h fun σ lv st h =>
    so_i2l E dX6_addWheel_166 h fun σ lv st h =>
    so_last E dX6_addWheel_167 h fun σ lv st h =>
    so_aload_n E (i := 0) rfl dX6_addWheel_168 h fun σ lv st h =>
    so_get E (pp := 24) (fi := 0) (C := RX6) (T := TX6) (N := 11) (ref := "WheelDeskModel") ⟨rfl, rfl, rfl⟩ rfl fi_X6_addWheel_X6 (by decide) rfl (List.mem_of_getElem? (i := 4) rfl) dX6_addWheel_169 h fun σ lv st h =>
    so_iload E (i := 6) dX6_addWheel_172 h fun σ lv st h =>
    so_bipush E (x := 6) rfl dX6_addWheel_174 h fun σ lv st h =>
    so_callT E (n := 2) (idx := 71) (maxL := 2) (ret := (some .int)) h_X6_wheelAt gX6_addWheel_X6_wheelAt rfl ⟨rfl, rfl⟩ (by decide +kernel) (by decide) dX6_addWheel_176 h fun σ lv st h =>
    so_lconst E (x := 0) rfl dX6_addWheel_179 h fun σ lv st h =>
    so_last E dX6_addWheel_180 h fun σ lv st h =>
    so_aload_n E (i := 0) rfl dX6_addWheel_181 h fun σ lv st h =>
    so_get E (pp := 24) (fi := 0) (C := RX6) (T := TX6) (N := 11) (ref := "WheelDeskModel") ⟨rfl, rfl, rfl⟩ rfl fi_X6_addWheel_X6 (by decide) rfl (List.mem_of_getElem? (i := 4) rfl) dX6_addWheel_182 h fun σ lv st h =>
    so_iload E (i := 6) dX6_addWheel_185 h fun σ lv st h =>
    so_bipush E (x := 7) rfl dX6_addWheel_187 h fun σ lv st h =>
    so_callT E (n := 2) (idx := 71) (maxL := 2) (ret := (some .int)) h_X6_wheelAt gX6_addWheel_X6_wheelAt rfl ⟨rfl, rfl⟩ (by decide +kernel) (by decide) dX6_addWheel_189 h fun σ lv st h =>
    so_lconst E (x := 0) rfl dX6_addWheel_192 h fun σ lv st h =>
    so_last E dX6_addWheel_193 h fun σ lv st h =>
    so_aload_n E (i := 0) rfl dX6_addWheel_194 h fun σ lv st h =>
    so_get E (pp := 24) (fi := 0) (C := RX6) (T := TX6) (N := 11) (ref := "WheelDeskModel") ⟨rfl, rfl, rfl⟩ rfl fi_X6_addWheel_X6 (by decide) rfl (List.mem_of_getElem? (i := 4) rfl) dX6_addWheel_195 h fun σ lv st h =>
    so_bipush E (x := 6) rfl dX6_addWheel_198 h fun σ lv st h =>
    so_dup2 E dX6_addWheel_200 h fun σ lv st h =>
    so_lald E dX6_addWheel_201 h fun σ lv st h =>
    so_lconst E (x := 1) rfl dX6_addWheel_202 h fun σ lv st h =>
    so_ladd E dX6_addWheel_203 h fun σ lv st h =>
    so_last E dX6_addWheel_204 h fun σ lv st h =>
    so_iload E (i := 6) dX6_addWheel_205 h fun σ lv st h =>
    so_iret T dX6_addWheel_207 h
set_option maxRecDepth 20000 in
theorem sb_X6_addWheel_58 {J : Nat → q_K} {l : Launch} {Qp : Option q_V → q_M → Prop} (E : q_E J cX6_addWheel RX6 wsX6_addWheel 7 l rm_X6_addWheel) (T : q_T J cX6_addWheel (some .int) Qp) (h_X6_isPart : q_Ct yX6_isPart wsX6_isPart rm_X6_isPart S_X6_isPart) (h_X6_in : q_Ct yX6_in wsX6_in rm_X6_in S_X6_in) (h_X6_act : q_Ct yX6_act wsX6_act rm_X6_act S_X6_act) (h_X6_wheelAt : q_Ct yX6_wheelAt wsX6_wheelAt rm_X6_wheelAt S_X6_wheelAt) : ∀ (σ : q_M) (lv : q_L) (st : q_S), k_X6_addWheel_58 Qp J σ lv st → J 58 σ lv st := fun σ lv st h =>
    so_aload_n E (i := 0) rfl dX6_addWheel_58 h fun σ lv st h =>
    so_get E (pp := 24) (fi := 0) (C := RX6) (T := TX6) (N := 11) (ref := "WheelDeskModel") ⟨rfl, rfl, rfl⟩ rfl fi_X6_addWheel_X6 (by decide) rfl (List.mem_of_getElem? (i := 4) rfl) dX6_addWheel_59 h fun σ lv st h =>
    so_bipush E (x := 6) rfl dX6_addWheel_62 h fun σ lv st h =>
    so_lald E dX6_addWheel_64 h fun σ lv st h =>
    so_ldc2 E (x := 6) (idx := 81) (v := 6) (List.mem_of_getElem? (i := 5) rfl) rfl dX6_addWheel_65 h fun σ lv st h =>
    so_lcmp E dX6_addWheel_68 h fun σ lv st h =>
    so_ifne E 75 (by decide) dX6_addWheel_69 (sb_X6_addWheel_75 E T h_X6_isPart h_X6_in h_X6_act h_X6_wheelAt) h fun σ lv st h =>
    so_ldc E (x := -2000003) (idx := 83) (v := -2000003) (List.mem_of_getElem? (i := 6) rfl) rfl dX6_addWheel_72 h fun σ lv st h =>
    so_iret T dX6_addWheel_74 h
set_option maxRecDepth 20000 in
theorem sb_X6_addWheel_33 {J : Nat → q_K} {l : Launch} {Qp : Option q_V → q_M → Prop} (E : q_E J cX6_addWheel RX6 wsX6_addWheel 7 l rm_X6_addWheel) (T : q_T J cX6_addWheel (some .int) Qp) (h_X6_isPart : q_Ct yX6_isPart wsX6_isPart rm_X6_isPart S_X6_isPart) (h_X6_in : q_Ct yX6_in wsX6_in rm_X6_in S_X6_in) (h_X6_act : q_Ct yX6_act wsX6_act rm_X6_act S_X6_act) (h_X6_wheelAt : q_Ct yX6_wheelAt wsX6_wheelAt rm_X6_wheelAt S_X6_wheelAt) : ∀ (σ : q_M) (lv : q_L) (st : q_S), k_X6_addWheel_33 Qp J σ lv st → J 33 σ lv st := fun σ lv st h =>
    so_iload E (i := 4) dX6_addWheel_33 h fun σ lv st h =>
    so_iconst E (x := 1) dX6_addWheel_35 h fun σ lv st h =>
    so_ldc E (x := 1000000) (idx := 78) (v := 1000000) (List.mem_of_getElem? (i := 1) rfl) rfl dX6_addWheel_36 h fun σ lv st h =>
    so_callT E (n := 3) (idx := 67) (maxL := 3) (ret := (some .boolean)) h_X6_in gX6_addWheel_X6_in rfl ⟨rfl, rfl⟩ (by decide +kernel) (by decide) dX6_addWheel_38 h fun σ lv st h =>
    so_ifeq E 55 (by decide) dX6_addWheel_41 (sb_X6_addWheel_55 E T h_X6_isPart h_X6_in h_X6_act h_X6_wheelAt) h fun σ lv st h =>
    so_iload E (i := 5) dX6_addWheel_44 h fun σ lv st h =>
    so_iconst E (x := 1) dX6_addWheel_46 h fun σ lv st h =>
    so_ldc E (x := 100000) (idx := 79) (v := 100000) (List.mem_of_getElem? (i := 2) rfl) rfl dX6_addWheel_47 h fun σ lv st h =>
    so_callT E (n := 3) (idx := 67) (maxL := 3) (ret := (some .boolean)) h_X6_in gX6_addWheel_X6_in rfl ⟨rfl, rfl⟩ (by decide +kernel) (by decide) dX6_addWheel_49 h fun σ lv st h =>
    so_ifne E 58 (by decide) dX6_addWheel_52 (sb_X6_addWheel_58 E T h_X6_isPart h_X6_in h_X6_act h_X6_wheelAt) h fun σ lv st h =>
    (sb_X6_addWheel_55 E T h_X6_isPart h_X6_in h_X6_act h_X6_wheelAt) σ lv st h
set_option maxRecDepth 20000 in
theorem sb_X6_addWheel_0 {J : Nat → q_K} {l : Launch} {Qp : Option q_V → q_M → Prop} (E : q_E J cX6_addWheel RX6 wsX6_addWheel 7 l rm_X6_addWheel) (T : q_T J cX6_addWheel (some .int) Qp) (h_X6_isPart : q_Ct yX6_isPart wsX6_isPart rm_X6_isPart S_X6_isPart) (h_X6_in : q_Ct yX6_in wsX6_in rm_X6_in S_X6_in) (h_X6_act : q_Ct yX6_act wsX6_act rm_X6_act S_X6_act) (h_X6_wheelAt : q_Ct yX6_wheelAt wsX6_wheelAt rm_X6_wheelAt S_X6_wheelAt) : ∀ (σ : q_M) (lv : q_L) (st : q_S), k_X6_addWheel_0 Qp J σ lv st → J 0 σ lv st := fun σ lv st h =>
    so_iload_n E (i := 1) rfl dX6_addWheel_0 h fun σ lv st h =>
    so_callT E (n := 1) (idx := 74) (maxL := 1) (ret := (some .boolean)) h_X6_isPart gX6_addWheel_X6_isPart rfl ⟨rfl, rfl⟩ (by decide +kernel) (by decide) dX6_addWheel_1 h fun σ lv st h =>
    so_ifeq E 55 (by decide) dX6_addWheel_4 (sb_X6_addWheel_55 E T h_X6_isPart h_X6_in h_X6_act h_X6_wheelAt) h fun σ lv st h =>
    so_iload_n E (i := 2) rfl dX6_addWheel_7 h fun σ lv st h =>
    so_callT E (n := 1) (idx := 74) (maxL := 1) (ret := (some .boolean)) h_X6_isPart gX6_addWheel_X6_isPart rfl ⟨rfl, rfl⟩ (by decide +kernel) (by decide) dX6_addWheel_8 h fun σ lv st h =>
    so_ifeq E 55 (by decide) dX6_addWheel_11 (sb_X6_addWheel_55 E T h_X6_isPart h_X6_in h_X6_act h_X6_wheelAt) h fun σ lv st h =>
    so_iload_n E (i := 3) rfl dX6_addWheel_14 h fun σ lv st h =>
    so_callT E (n := 1) (idx := 74) (maxL := 1) (ret := (some .boolean)) h_X6_isPart gX6_addWheel_X6_isPart rfl ⟨rfl, rfl⟩ (by decide +kernel) (by decide) dX6_addWheel_15 h fun σ lv st h =>
    so_ifeq E 55 (by decide) dX6_addWheel_18 (sb_X6_addWheel_55 E T h_X6_isPart h_X6_in h_X6_act h_X6_wheelAt) h fun σ lv st h =>
    so_iload_n E (i := 1) rfl dX6_addWheel_21 h fun σ lv st h =>
    so_ifne E 33 (by decide) dX6_addWheel_22 (sb_X6_addWheel_33 E T h_X6_isPart h_X6_in h_X6_act h_X6_wheelAt) h fun σ lv st h =>
    so_iload_n E (i := 2) rfl dX6_addWheel_25 h fun σ lv st h =>
    so_ifne E 33 (by decide) dX6_addWheel_26 (sb_X6_addWheel_33 E T h_X6_isPart h_X6_in h_X6_act h_X6_wheelAt) h fun σ lv st h =>
    so_iload_n E (i := 3) rfl dX6_addWheel_29 h fun σ lv st h =>
    so_ifeq E 55 (by decide) dX6_addWheel_30 (sb_X6_addWheel_55 E T h_X6_isPart h_X6_in h_X6_act h_X6_wheelAt) h fun σ lv st h =>
    (sb_X6_addWheel_33 E T h_X6_isPart h_X6_in h_X6_act h_X6_wheelAt) σ lv st h
theorem c_X6_addWheel (h_X6_isPart : q_Ct yX6_isPart wsX6_isPart rm_X6_isPart S_X6_isPart) (h_X6_in : q_Ct yX6_in wsX6_in rm_X6_in S_X6_in) (h_X6_act : q_Ct yX6_act wsX6_act rm_X6_act S_X6_act) (h_X6_wheelAt : q_Ct yX6_wheelAt wsX6_wheelAt rm_X6_wheelAt S_X6_wheelAt) : q_Ct yX6_addWheel wsX6_addWheel rm_X6_addWheel S_X6_addWheel := by
  refine q_met (cc := cX6_addWheel) (maxL := 7) (ret := (some .int)) (own := RX6) (by decide +kernel) rfl rfl (fun σ vs Qp h => ?_) (fun l J σ vs Qp E T h => ?_)
  · unfold S_X6_addWheel at h
    split at h
    · exact Nat.le_of_ble_eq_true rfl
    · exact h.elim
  · unfold S_X6_addWheel at h
    split at h
    · next c0 p0 k0 x y z m t =>
      obtain ⟨rfl, rfl, rfl, h⟩ := h
      exact v_X6_addWheel (so_C E) (sb_X6_addWheel_0 E T h_X6_isPart h_X6_in h_X6_act h_X6_wheelAt) h
    · exact h.elim
theorem cc_X6_addWheel : q_Ct yX6_addWheel wsX6_addWheel rm_X6_addWheel S_X6_addWheel := c_X6_addWheel cc_X6_isPart cc_X6_in cc_X6_act cc_X6_wheelAt

def rm_X6_sets : Room := { frames := 1, cells := 0, slots := 0, locals := 21 }
theorem fi_X6_sets_X6 : ∀ w ∈ u_ws RX6 TX6 11, w ∈ wsX6_sets := fun w h => List.mem_cons_of_mem _ (List.mem_append_right _ h)
set_option maxRecDepth 20000 in
theorem sb_X6_sets_0 {J : Nat → q_K} {l : Launch} {Qp : Option q_V → q_M → Prop} (E : q_E J cX6_sets RX6 wsX6_sets 4 l rm_X6_sets) (T : q_T J cX6_sets (some .int) Qp) (h_X6_act : q_Ct yX6_act wsX6_act rm_X6_act S_X6_act) : ∀ (σ : q_M) (lv : q_L) (st : q_S), k_X6_sets_0 Qp J σ lv st → J 0 σ lv st := fun σ lv st h =>
    so_aload_n E (i := 0) rfl dX6_sets_0 h fun σ lv st h =>
    so_callV E (n := 0) (pp := 24) (C := RX6) (T := TX6) (N := 11) (idx := 84) (maxL := 2) (ret := none) h_X6_act ⟨rfl, rfl, rfl⟩ rfl gX6_sets_X6_act rfl ⟨rfl, rfl⟩ (by decide +kernel) (by decide) dX6_sets_1 h fun σ lv st h =>
    so_aload_n E (i := 0) rfl dX6_sets_4 h fun σ lv st h =>
    so_get E (pp := 24) (fi := 0) (C := RX6) (T := TX6) (N := 11) (ref := "WheelDeskModel") ⟨rfl, rfl, rfl⟩ rfl fi_X6_sets_X6 (by decide) rfl (List.mem_of_getElem? (i := 1) rfl) dX6_sets_5 h fun σ lv st h =>
    so_iload_n E (i := 1) rfl dX6_sets_8 h fun σ lv st h =>
    so_lald E dX6_sets_9 h fun σ lv st h =>
    so_l2i E dX6_sets_10 h fun σ lv st h =>
    so_istore_n E (i := 3) rfl (by decide) dX6_sets_11 h fun σ lv st h =>
    so_aload_n E (i := 0) rfl dX6_sets_12 h fun σ lv st h =>
    so_get E (pp := 24) (fi := 0) (C := RX6) (T := TX6) (N := 11) (ref := "WheelDeskModel") ⟨rfl, rfl, rfl⟩ rfl fi_X6_sets_X6 (by decide) rfl (List.mem_of_getElem? (i := 1) rfl) dX6_sets_13 h fun σ lv st h =>
    so_iload_n E (i := 1) rfl dX6_sets_16 h fun σ lv st h =>
    so_iload_n E (i := 2) rfl dX6_sets_17 h fun σ lv st h =>
    so_i2l E dX6_sets_18 h fun σ lv st h =>
    so_last E dX6_sets_19 h fun σ lv st h =>
    so_iload_n E (i := 3) rfl dX6_sets_20 h fun σ lv st h =>
    so_iret T dX6_sets_21 h
theorem c_X6_sets (h_X6_act : q_Ct yX6_act wsX6_act rm_X6_act S_X6_act) : q_Ct yX6_sets wsX6_sets rm_X6_sets S_X6_sets := by
  refine q_met (cc := cX6_sets) (maxL := 4) (ret := (some .int)) (own := RX6) (by decide +kernel) rfl rfl (fun σ vs Qp h => ?_) (fun l J σ vs Qp E T h => ?_)
  · unfold S_X6_sets at h
    split at h
    · exact Nat.le_of_ble_eq_true rfl
    · exact h.elim
  · unfold S_X6_sets at h
    split at h
    · next c0 p0 k0 i x =>
      obtain ⟨rfl, rfl, rfl, h⟩ := h
      exact v_X6_sets (so_C E) (sb_X6_sets_0 E T h_X6_act) h
    · exact h.elim
theorem cc_X6_sets : q_Ct yX6_sets wsX6_sets rm_X6_sets S_X6_sets := c_X6_sets cc_X6_act

def rm_X6_fail : Room := { frames := 2, cells := 0, slots := 0, locals := 44 }
theorem fi_X6_fail_X6 : ∀ w ∈ u_ws RX6 TX6 11, w ∈ wsX6_fail := fun w h => List.mem_cons_of_mem _ (List.mem_append_right _ h)
set_option maxRecDepth 20000 in
theorem sb_X6_fail_32 {J : Nat → q_K} {l : Launch} {Qp : Option q_V → q_M → Prop} (E : q_E J cX6_fail RX6 wsX6_fail 3 l rm_X6_fail) (T : q_T J cX6_fail (some .int) Qp) (h_X6_isWheel : q_Ct yX6_isWheel wsX6_isWheel rm_X6_isWheel S_X6_isWheel) (h_X6_wheelAt : q_Ct yX6_wheelAt wsX6_wheelAt rm_X6_wheelAt S_X6_wheelAt) (h_X6_sets : q_Ct yX6_sets wsX6_sets rm_X6_sets S_X6_sets) : ∀ (σ : q_M) (lv : q_L) (st : q_S), k_X6_fail_32 Qp J σ lv st → J 32 σ lv st := fun σ lv st h =>
    so_iret T dX6_fail_32 h
set_option maxRecDepth 20000 in
theorem sb_X6_fail_30 {J : Nat → q_K} {l : Launch} {Qp : Option q_V → q_M → Prop} (E : q_E J cX6_fail RX6 wsX6_fail 3 l rm_X6_fail) (T : q_T J cX6_fail (some .int) Qp) (h_X6_isWheel : q_Ct yX6_isWheel wsX6_isWheel rm_X6_isWheel S_X6_isWheel) (h_X6_wheelAt : q_Ct yX6_wheelAt wsX6_wheelAt rm_X6_wheelAt S_X6_wheelAt) (h_X6_sets : q_Ct yX6_sets wsX6_sets rm_X6_sets S_X6_sets) : ∀ (σ : q_M) (lv : q_L) (st : q_S), k_X6_fail_30 Qp J σ lv st → J 30 σ lv st := fun σ lv st h =>
    so_ldc E (x := -2000001) (idx := 80) (v := -2000001) (List.mem_of_getElem? (i := 1) rfl) rfl dX6_fail_30 h fun σ lv st h =>
    (sb_X6_fail_32 E T h_X6_isWheel h_X6_wheelAt h_X6_sets) σ lv st h
set_option maxRecDepth 20000 in
theorem sb_X6_fail_24 {J : Nat → q_K} {l : Launch} {Qp : Option q_V → q_M → Prop} (E : q_E J cX6_fail RX6 wsX6_fail 3 l rm_X6_fail) (T : q_T J cX6_fail (some .int) Qp) (h_X6_isWheel : q_Ct yX6_isWheel wsX6_isWheel rm_X6_isWheel S_X6_isWheel) (h_X6_wheelAt : q_Ct yX6_wheelAt wsX6_wheelAt rm_X6_wheelAt S_X6_wheelAt) (h_X6_sets : q_Ct yX6_sets wsX6_sets rm_X6_sets S_X6_sets) : ∀ (σ : q_M) (lv : q_L) (st : q_S), k_X6_fail_24 Qp J σ lv st → J 24 σ lv st := fun σ lv st h =>
    so_callV E (n := 2) (pp := 24) (C := RX6) (T := TX6) (N := 11) (idx := 90) (maxL := 4) (ret := (some .int)) h_X6_sets ⟨rfl, rfl, rfl⟩ rfl gX6_fail_X6_sets rfl ⟨rfl, rfl⟩ (by decide +kernel) (by decide) dX6_fail_24 h fun σ lv st h =>
    so_goto E 32 (by decide) dX6_fail_27 (sb_X6_fail_32 E T h_X6_isWheel h_X6_wheelAt h_X6_sets) h
set_option maxRecDepth 20000 in
theorem sb_X6_fail_23 {J : Nat → q_K} {l : Launch} {Qp : Option q_V → q_M → Prop} (E : q_E J cX6_fail RX6 wsX6_fail 3 l rm_X6_fail) (T : q_T J cX6_fail (some .int) Qp) (h_X6_isWheel : q_Ct yX6_isWheel wsX6_isWheel rm_X6_isWheel S_X6_isWheel) (h_X6_wheelAt : q_Ct yX6_wheelAt wsX6_wheelAt rm_X6_wheelAt S_X6_wheelAt) (h_X6_sets : q_Ct yX6_sets wsX6_sets rm_X6_sets S_X6_sets) : ∀ (σ : q_M) (lv : q_L) (st : q_S), k_X6_fail_23 Qp J σ lv st → J 23 σ lv st := fun σ lv st h =>
    so_iconst E (x := 0) dX6_fail_23 h fun σ lv st h =>
    (sb_X6_fail_24 E T h_X6_isWheel h_X6_wheelAt h_X6_sets) σ lv st h
set_option maxRecDepth 20000 in
theorem sb_X6_fail_0 {J : Nat → q_K} {l : Launch} {Qp : Option q_V → q_M → Prop} (E : q_E J cX6_fail RX6 wsX6_fail 3 l rm_X6_fail) (T : q_T J cX6_fail (some .int) Qp) (h_X6_isWheel : q_Ct yX6_isWheel wsX6_isWheel rm_X6_isWheel S_X6_isWheel) (h_X6_wheelAt : q_Ct yX6_wheelAt wsX6_wheelAt rm_X6_wheelAt S_X6_wheelAt) (h_X6_sets : q_Ct yX6_sets wsX6_sets rm_X6_sets S_X6_sets) : ∀ (σ : q_M) (lv : q_L) (st : q_S), k_X6_fail_0 Qp J σ lv st → J 0 σ lv st := fun σ lv st h =>
    so_aload_n E (i := 0) rfl dX6_fail_0 h fun σ lv st h =>
    so_iload_n E (i := 1) rfl dX6_fail_1 h fun σ lv st h =>
    so_callV E (n := 1) (pp := 24) (C := RX6) (T := TX6) (N := 11) (idx := 87) (maxL := 2) (ret := (some .boolean)) h_X6_isWheel ⟨rfl, rfl, rfl⟩ rfl gX6_fail_X6_isWheel rfl ⟨rfl, rfl⟩ (by decide +kernel) (by decide) dX6_fail_2 h fun σ lv st h =>
    so_ifeq E 30 (by decide) dX6_fail_5 (sb_X6_fail_30 E T h_X6_isWheel h_X6_wheelAt h_X6_sets) h fun σ lv st h =>
    so_aload_n E (i := 0) rfl dX6_fail_8 h fun σ lv st h =>
    so_iload_n E (i := 1) rfl dX6_fail_9 h fun σ lv st h =>
    so_bipush E (x := 6) rfl dX6_fail_10 h fun σ lv st h =>
    so_callT E (n := 2) (idx := 71) (maxL := 2) (ret := (some .int)) h_X6_wheelAt gX6_fail_X6_wheelAt rfl ⟨rfl, rfl⟩ (by decide +kernel) (by decide) dX6_fail_12 h fun σ lv st h =>
    so_iload_n E (i := 2) rfl dX6_fail_15 h fun σ lv st h =>
    so_ifeq E 23 (by decide) dX6_fail_16 (sb_X6_fail_23 E T h_X6_isWheel h_X6_wheelAt h_X6_sets) h fun σ lv st h =>
    so_iconst E (x := 1) dX6_fail_19 h fun σ lv st h =>
    so_goto E 24 (by decide) dX6_fail_20 (sb_X6_fail_24 E T h_X6_isWheel h_X6_wheelAt h_X6_sets) h
theorem c_X6_fail (h_X6_isWheel : q_Ct yX6_isWheel wsX6_isWheel rm_X6_isWheel S_X6_isWheel) (h_X6_wheelAt : q_Ct yX6_wheelAt wsX6_wheelAt rm_X6_wheelAt S_X6_wheelAt) (h_X6_sets : q_Ct yX6_sets wsX6_sets rm_X6_sets S_X6_sets) : q_Ct yX6_fail wsX6_fail rm_X6_fail S_X6_fail := by
  refine q_met (cc := cX6_fail) (maxL := 3) (ret := (some .int)) (own := RX6) (by decide +kernel) rfl rfl (fun σ vs Qp h => ?_) (fun l J σ vs Qp E T h => ?_)
  · unfold S_X6_fail at h
    split at h
    · exact Nat.le_of_ble_eq_true rfl
    · exact h.elim
  · unfold S_X6_fail at h
    split at h
    · next c0 p0 k0 k b =>
      obtain ⟨rfl, rfl, rfl, h⟩ := h
      exact v_X6_fail (so_C E) (sb_X6_fail_0 E T h_X6_isWheel h_X6_wheelAt h_X6_sets) h
    · exact h.elim
theorem cc_X6_fail : q_Ct yX6_fail wsX6_fail rm_X6_fail S_X6_fail := c_X6_fail cc_X6_isWheel cc_X6_wheelAt cc_X6_sets

def rm_X6_setMost : Room := { frames := 2, cells := 0, slots := 0, locals := 44 }
theorem fi_X6_setMost_X6 : ∀ w ∈ u_ws RX6 TX6 11, w ∈ wsX6_setMost := fun w h => List.mem_cons_of_mem _ (List.mem_append_right _ h)
set_option maxRecDepth 20000 in
theorem sb_X6_setMost_50 {J : Nat → q_K} {l : Launch} {Qp : Option q_V → q_M → Prop} (E : q_E J cX6_setMost RX6 wsX6_setMost 4 l rm_X6_setMost) (T : q_T J cX6_setMost (some .int) Qp) (h_X6_isWheel : q_Ct yX6_isWheel wsX6_isWheel rm_X6_isWheel S_X6_isWheel) (h_X6_in : q_Ct yX6_in wsX6_in rm_X6_in S_X6_in) (h_X6_wheelAt : q_Ct yX6_wheelAt wsX6_wheelAt rm_X6_wheelAt S_X6_wheelAt) (h_X6_sets : q_Ct yX6_sets wsX6_sets rm_X6_sets S_X6_sets) : ∀ (σ : q_M) (lv : q_L) (st : q_S), k_X6_setMost_50 Qp J σ lv st → J 50 σ lv st := fun σ lv st h =>
    so_iret T dX6_setMost_50 h
set_option maxRecDepth 20000 in
theorem sb_X6_setMost_48 {J : Nat → q_K} {l : Launch} {Qp : Option q_V → q_M → Prop} (E : q_E J cX6_setMost RX6 wsX6_setMost 4 l rm_X6_setMost) (T : q_T J cX6_setMost (some .int) Qp) (h_X6_isWheel : q_Ct yX6_isWheel wsX6_isWheel rm_X6_isWheel S_X6_isWheel) (h_X6_in : q_Ct yX6_in wsX6_in rm_X6_in S_X6_in) (h_X6_wheelAt : q_Ct yX6_wheelAt wsX6_wheelAt rm_X6_wheelAt S_X6_wheelAt) (h_X6_sets : q_Ct yX6_sets wsX6_sets rm_X6_sets S_X6_sets) : ∀ (σ : q_M) (lv : q_L) (st : q_S), k_X6_setMost_48 Qp J σ lv st → J 48 σ lv st := fun σ lv st h =>
    so_ldc E (x := -2000001) (idx := 80) (v := -2000001) (List.mem_of_getElem? (i := 3) rfl) rfl dX6_setMost_48 h fun σ lv st h =>
    (sb_X6_setMost_50 E T h_X6_isWheel h_X6_in h_X6_wheelAt h_X6_sets) σ lv st h
set_option maxRecDepth 20000 in
theorem sb_X6_setMost_38 {J : Nat → q_K} {l : Launch} {Qp : Option q_V → q_M → Prop} (E : q_E J cX6_setMost RX6 wsX6_setMost 4 l rm_X6_setMost) (T : q_T J cX6_setMost (some .int) Qp) (h_X6_isWheel : q_Ct yX6_isWheel wsX6_isWheel rm_X6_isWheel S_X6_isWheel) (h_X6_in : q_Ct yX6_in wsX6_in rm_X6_in S_X6_in) (h_X6_wheelAt : q_Ct yX6_wheelAt wsX6_wheelAt rm_X6_wheelAt S_X6_wheelAt) (h_X6_sets : q_Ct yX6_sets wsX6_sets rm_X6_sets S_X6_sets) : ∀ (σ : q_M) (lv : q_L) (st : q_S), k_X6_setMost_38 Qp J σ lv st → J 38 σ lv st := fun σ lv st h =>
    so_callT E (n := 2) (idx := 71) (maxL := 2) (ret := (some .int)) h_X6_wheelAt gX6_setMost_X6_wheelAt rfl ⟨rfl, rfl⟩ (by decide +kernel) (by decide) dX6_setMost_38 h fun σ lv st h =>
    so_iload_n E (i := 3) rfl dX6_setMost_41 h fun σ lv st h =>
    so_callV E (n := 2) (pp := 24) (C := RX6) (T := TX6) (N := 11) (idx := 90) (maxL := 4) (ret := (some .int)) h_X6_sets ⟨rfl, rfl, rfl⟩ rfl gX6_setMost_X6_sets rfl ⟨rfl, rfl⟩ (by decide +kernel) (by decide) dX6_setMost_42 h fun σ lv st h =>
    so_goto E 50 (by decide) dX6_setMost_45 (sb_X6_setMost_50 E T h_X6_isWheel h_X6_in h_X6_wheelAt h_X6_sets) h
set_option maxRecDepth 20000 in
theorem sb_X6_setMost_37 {J : Nat → q_K} {l : Launch} {Qp : Option q_V → q_M → Prop} (E : q_E J cX6_setMost RX6 wsX6_setMost 4 l rm_X6_setMost) (T : q_T J cX6_setMost (some .int) Qp) (h_X6_isWheel : q_Ct yX6_isWheel wsX6_isWheel rm_X6_isWheel S_X6_isWheel) (h_X6_in : q_Ct yX6_in wsX6_in rm_X6_in S_X6_in) (h_X6_wheelAt : q_Ct yX6_wheelAt wsX6_wheelAt rm_X6_wheelAt S_X6_wheelAt) (h_X6_sets : q_Ct yX6_sets wsX6_sets rm_X6_sets S_X6_sets) : ∀ (σ : q_M) (lv : q_L) (st : q_S), k_X6_setMost_37 Qp J σ lv st → J 37 σ lv st := fun σ lv st h =>
    so_iconst E (x := 4) dX6_setMost_37 h fun σ lv st h =>
    (sb_X6_setMost_38 E T h_X6_isWheel h_X6_in h_X6_wheelAt h_X6_sets) σ lv st h
set_option maxRecDepth 20000 in
theorem sb_X6_setMost_21 {J : Nat → q_K} {l : Launch} {Qp : Option q_V → q_M → Prop} (E : q_E J cX6_setMost RX6 wsX6_setMost 4 l rm_X6_setMost) (T : q_T J cX6_setMost (some .int) Qp) (h_X6_isWheel : q_Ct yX6_isWheel wsX6_isWheel rm_X6_isWheel S_X6_isWheel) (h_X6_in : q_Ct yX6_in wsX6_in rm_X6_in S_X6_in) (h_X6_wheelAt : q_Ct yX6_wheelAt wsX6_wheelAt rm_X6_wheelAt S_X6_wheelAt) (h_X6_sets : q_Ct yX6_sets wsX6_sets rm_X6_sets S_X6_sets) : ∀ (σ : q_M) (lv : q_L) (st : q_S), k_X6_setMost_21 Qp J σ lv st → J 21 σ lv st := fun σ lv st h =>
    so_callT E (n := 3) (idx := 67) (maxL := 3) (ret := (some .boolean)) h_X6_in gX6_setMost_X6_in rfl ⟨rfl, rfl⟩ (by decide +kernel) (by decide) dX6_setMost_21 h fun σ lv st h =>
    so_ifeq E 48 (by decide) dX6_setMost_24 (sb_X6_setMost_48 E T h_X6_isWheel h_X6_in h_X6_wheelAt h_X6_sets) h fun σ lv st h =>
    so_aload_n E (i := 0) rfl dX6_setMost_27 h fun σ lv st h =>
    so_iload_n E (i := 1) rfl dX6_setMost_28 h fun σ lv st h =>
    so_iload_n E (i := 2) rfl dX6_setMost_29 h fun σ lv st h =>
    so_ifeq E 37 (by decide) dX6_setMost_30 (sb_X6_setMost_37 E T h_X6_isWheel h_X6_in h_X6_wheelAt h_X6_sets) h fun σ lv st h =>
    so_iconst E (x := 5) dX6_setMost_33 h fun σ lv st h =>
    so_goto E 38 (by decide) dX6_setMost_34 (sb_X6_setMost_38 E T h_X6_isWheel h_X6_in h_X6_wheelAt h_X6_sets) h
set_option maxRecDepth 20000 in
theorem sb_X6_setMost_19 {J : Nat → q_K} {l : Launch} {Qp : Option q_V → q_M → Prop} (E : q_E J cX6_setMost RX6 wsX6_setMost 4 l rm_X6_setMost) (T : q_T J cX6_setMost (some .int) Qp) (h_X6_isWheel : q_Ct yX6_isWheel wsX6_isWheel rm_X6_isWheel S_X6_isWheel) (h_X6_in : q_Ct yX6_in wsX6_in rm_X6_in S_X6_in) (h_X6_wheelAt : q_Ct yX6_wheelAt wsX6_wheelAt rm_X6_wheelAt S_X6_wheelAt) (h_X6_sets : q_Ct yX6_sets wsX6_sets rm_X6_sets S_X6_sets) : ∀ (σ : q_M) (lv : q_L) (st : q_S), k_X6_setMost_19 Qp J σ lv st → J 19 σ lv st := fun σ lv st h =>
    so_ldc E (x := 1000000) (idx := 78) (v := 1000000) (List.mem_of_getElem? (i := 2) rfl) rfl dX6_setMost_19 h fun σ lv st h =>
    (sb_X6_setMost_21 E T h_X6_isWheel h_X6_in h_X6_wheelAt h_X6_sets) σ lv st h
set_option maxRecDepth 20000 in
theorem sb_X6_setMost_0 {J : Nat → q_K} {l : Launch} {Qp : Option q_V → q_M → Prop} (E : q_E J cX6_setMost RX6 wsX6_setMost 4 l rm_X6_setMost) (T : q_T J cX6_setMost (some .int) Qp) (h_X6_isWheel : q_Ct yX6_isWheel wsX6_isWheel rm_X6_isWheel S_X6_isWheel) (h_X6_in : q_Ct yX6_in wsX6_in rm_X6_in S_X6_in) (h_X6_wheelAt : q_Ct yX6_wheelAt wsX6_wheelAt rm_X6_wheelAt S_X6_wheelAt) (h_X6_sets : q_Ct yX6_sets wsX6_sets rm_X6_sets S_X6_sets) : ∀ (σ : q_M) (lv : q_L) (st : q_S), k_X6_setMost_0 Qp J σ lv st → J 0 σ lv st := fun σ lv st h =>
    so_aload_n E (i := 0) rfl dX6_setMost_0 h fun σ lv st h =>
    so_iload_n E (i := 1) rfl dX6_setMost_1 h fun σ lv st h =>
    so_callV E (n := 1) (pp := 24) (C := RX6) (T := TX6) (N := 11) (idx := 87) (maxL := 2) (ret := (some .boolean)) h_X6_isWheel ⟨rfl, rfl, rfl⟩ rfl gX6_setMost_X6_isWheel rfl ⟨rfl, rfl⟩ (by decide +kernel) (by decide) dX6_setMost_2 h fun σ lv st h =>
    so_ifeq E 48 (by decide) dX6_setMost_5 (sb_X6_setMost_48 E T h_X6_isWheel h_X6_in h_X6_wheelAt h_X6_sets) h fun σ lv st h =>
    so_iload_n E (i := 3) rfl dX6_setMost_8 h fun σ lv st h =>
    so_iconst E (x := 1) dX6_setMost_9 h fun σ lv st h =>
    so_iload_n E (i := 2) rfl dX6_setMost_10 h fun σ lv st h =>
    so_ifeq E 19 (by decide) dX6_setMost_11 (sb_X6_setMost_19 E T h_X6_isWheel h_X6_in h_X6_wheelAt h_X6_sets) h fun σ lv st h =>
    so_ldc E (x := 100000) (idx := 79) (v := 100000) (List.mem_of_getElem? (i := 1) rfl) rfl dX6_setMost_14 h fun σ lv st h =>
    so_goto E 21 (by decide) dX6_setMost_16 (sb_X6_setMost_21 E T h_X6_isWheel h_X6_in h_X6_wheelAt h_X6_sets) h
theorem c_X6_setMost (h_X6_isWheel : q_Ct yX6_isWheel wsX6_isWheel rm_X6_isWheel S_X6_isWheel) (h_X6_in : q_Ct yX6_in wsX6_in rm_X6_in S_X6_in) (h_X6_wheelAt : q_Ct yX6_wheelAt wsX6_wheelAt rm_X6_wheelAt S_X6_wheelAt) (h_X6_sets : q_Ct yX6_sets wsX6_sets rm_X6_sets S_X6_sets) : q_Ct yX6_setMost wsX6_setMost rm_X6_setMost S_X6_setMost := by
  refine q_met (cc := cX6_setMost) (maxL := 4) (ret := (some .int)) (own := RX6) (by decide +kernel) rfl rfl (fun σ vs Qp h => ?_) (fun l J σ vs Qp E T h => ?_)
  · unfold S_X6_setMost at h
    split at h
    · exact Nat.le_of_ble_eq_true rfl
    · exact h.elim
  · unfold S_X6_setMost at h
    split at h
    · next c0 p0 k0 k b v =>
      obtain ⟨rfl, rfl, rfl, h⟩ := h
      exact v_X6_setMost (so_C E) (sb_X6_setMost_0 E T h_X6_isWheel h_X6_in h_X6_wheelAt h_X6_sets) h
    · exact h.elim
theorem cc_X6_setMost : q_Ct yX6_setMost wsX6_setMost rm_X6_setMost S_X6_setMost := c_X6_setMost cc_X6_isWheel cc_X6_in cc_X6_wheelAt cc_X6_sets

def rm_X6_wheel : Room := { frames := 2, cells := 0, slots := 0, locals := 43 }
theorem fi_X6_wheel_X6 : ∀ w ∈ u_ws RX6 TX6 11, w ∈ wsX6_wheel := fun w h => List.mem_cons_of_mem _ (List.mem_append_right _ h)
set_option maxRecDepth 20000 in
theorem sb_X6_wheel_34 {J : Nat → q_K} {l : Launch} {Qp : Option q_V → q_M → Prop} (E : q_E J cX6_wheel RX6 wsX6_wheel 3 l rm_X6_wheel) (T : q_T J cX6_wheel (some .int) Qp) (h_X6_isWheel : q_Ct yX6_isWheel wsX6_isWheel rm_X6_isWheel S_X6_isWheel) (h_X6_in : q_Ct yX6_in wsX6_in rm_X6_in S_X6_in) (h_X6_wheelAt : q_Ct yX6_wheelAt wsX6_wheelAt rm_X6_wheelAt S_X6_wheelAt) : ∀ (σ : q_M) (lv : q_L) (st : q_S), k_X6_wheel_34 Qp J σ lv st → J 34 σ lv st := fun σ lv st h =>
    so_iret T dX6_wheel_34 h
set_option maxRecDepth 20000 in
theorem sb_X6_wheel_32 {J : Nat → q_K} {l : Launch} {Qp : Option q_V → q_M → Prop} (E : q_E J cX6_wheel RX6 wsX6_wheel 3 l rm_X6_wheel) (T : q_T J cX6_wheel (some .int) Qp) (h_X6_isWheel : q_Ct yX6_isWheel wsX6_isWheel rm_X6_isWheel S_X6_isWheel) (h_X6_in : q_Ct yX6_in wsX6_in rm_X6_in S_X6_in) (h_X6_wheelAt : q_Ct yX6_wheelAt wsX6_wheelAt rm_X6_wheelAt S_X6_wheelAt) : ∀ (σ : q_M) (lv : q_L) (st : q_S), k_X6_wheel_32 Qp J σ lv st → J 32 σ lv st := fun σ lv st h =>
    so_ldc E (x := -2000001) (idx := 80) (v := -2000001) (List.mem_of_getElem? (i := 2) rfl) rfl dX6_wheel_32 h fun σ lv st h =>
    (sb_X6_wheel_34 E T h_X6_isWheel h_X6_in h_X6_wheelAt) σ lv st h
set_option maxRecDepth 20000 in
theorem sb_X6_wheel_0 {J : Nat → q_K} {l : Launch} {Qp : Option q_V → q_M → Prop} (E : q_E J cX6_wheel RX6 wsX6_wheel 3 l rm_X6_wheel) (T : q_T J cX6_wheel (some .int) Qp) (h_X6_isWheel : q_Ct yX6_isWheel wsX6_isWheel rm_X6_isWheel S_X6_isWheel) (h_X6_in : q_Ct yX6_in wsX6_in rm_X6_in S_X6_in) (h_X6_wheelAt : q_Ct yX6_wheelAt wsX6_wheelAt rm_X6_wheelAt S_X6_wheelAt) : ∀ (σ : q_M) (lv : q_L) (st : q_S), k_X6_wheel_0 Qp J σ lv st → J 0 σ lv st := fun σ lv st h =>
    so_aload_n E (i := 0) rfl dX6_wheel_0 h fun σ lv st h =>
    so_iload_n E (i := 1) rfl dX6_wheel_1 h fun σ lv st h =>
    so_callV E (n := 1) (pp := 24) (C := RX6) (T := TX6) (N := 11) (idx := 87) (maxL := 2) (ret := (some .boolean)) h_X6_isWheel ⟨rfl, rfl, rfl⟩ rfl gX6_wheel_X6_isWheel rfl ⟨rfl, rfl⟩ (by decide +kernel) (by decide) dX6_wheel_2 h fun σ lv st h =>
    so_ifeq E 32 (by decide) dX6_wheel_5 (sb_X6_wheel_32 E T h_X6_isWheel h_X6_in h_X6_wheelAt) h fun σ lv st h =>
    so_iload_n E (i := 2) rfl dX6_wheel_8 h fun σ lv st h =>
    so_iconst E (x := 0) dX6_wheel_9 h fun σ lv st h =>
    so_bipush E (x := 7) rfl dX6_wheel_10 h fun σ lv st h =>
    so_callT E (n := 3) (idx := 67) (maxL := 3) (ret := (some .boolean)) h_X6_in gX6_wheel_X6_in rfl ⟨rfl, rfl⟩ (by decide +kernel) (by decide) dX6_wheel_12 h fun σ lv st h =>
    so_ifeq E 32 (by decide) dX6_wheel_15 (sb_X6_wheel_32 E T h_X6_isWheel h_X6_in h_X6_wheelAt) h fun σ lv st h =>
    so_aload_n E (i := 0) rfl dX6_wheel_18 h fun σ lv st h =>
    so_get E (pp := 24) (fi := 0) (C := RX6) (T := TX6) (N := 11) (ref := "WheelDeskModel") ⟨rfl, rfl, rfl⟩ rfl fi_X6_wheel_X6 (by decide) rfl (List.mem_of_getElem? (i := 1) rfl) dX6_wheel_19 h fun σ lv st h =>
    so_iload_n E (i := 1) rfl dX6_wheel_22 h fun σ lv st h =>
    so_iload_n E (i := 2) rfl dX6_wheel_23 h fun σ lv st h =>
    so_callT E (n := 2) (idx := 71) (maxL := 2) (ret := (some .int)) h_X6_wheelAt gX6_wheel_X6_wheelAt rfl ⟨rfl, rfl⟩ (by decide +kernel) (by decide) dX6_wheel_24 h fun σ lv st h =>
    so_lald E dX6_wheel_27 h fun σ lv st h =>
    so_l2i E dX6_wheel_28 h fun σ lv st h =>
    so_goto E 34 (by decide) dX6_wheel_29 (sb_X6_wheel_34 E T h_X6_isWheel h_X6_in h_X6_wheelAt) h
theorem c_X6_wheel (h_X6_isWheel : q_Ct yX6_isWheel wsX6_isWheel rm_X6_isWheel S_X6_isWheel) (h_X6_in : q_Ct yX6_in wsX6_in rm_X6_in S_X6_in) (h_X6_wheelAt : q_Ct yX6_wheelAt wsX6_wheelAt rm_X6_wheelAt S_X6_wheelAt) : q_Ct yX6_wheel wsX6_wheel rm_X6_wheel S_X6_wheel := by
  refine q_met (cc := cX6_wheel) (maxL := 3) (ret := (some .int)) (own := RX6) (by decide +kernel) rfl rfl (fun σ vs Qp h => ?_) (fun l J σ vs Qp E T h => ?_)
  · unfold S_X6_wheel at h
    split at h
    · exact Nat.le_of_ble_eq_true rfl
    · exact h.elim
  · unfold S_X6_wheel at h
    split at h
    · next c0 p0 k0 k w =>
      obtain ⟨rfl, rfl, rfl, h⟩ := h
      exact v_X6_wheel (so_C E) (sb_X6_wheel_0 E T h_X6_isWheel h_X6_in h_X6_wheelAt) h
    · exact h.elim
theorem cc_X6_wheel : q_Ct yX6_wheel wsX6_wheel rm_X6_wheel S_X6_wheel := c_X6_wheel cc_X6_isWheel cc_X6_in cc_X6_wheelAt

def rm_X6_wheels : Room := { frames := 0, cells := 0, slots := 0, locals := 0 }
theorem fi_X6_wheels_X6 : ∀ w ∈ u_ws RX6 TX6 11, w ∈ wsX6_wheels := fun w h => List.mem_cons_of_mem _ (List.mem_append_right _ h)
set_option maxRecDepth 20000 in
theorem sb_X6_wheels_0 {J : Nat → q_K} {l : Launch} {Qp : Option q_V → q_M → Prop} (E : q_E J cX6_wheels RX6 wsX6_wheels 1 l rm_X6_wheels) (T : q_T J cX6_wheels (some .int) Qp) : ∀ (σ : q_M) (lv : q_L) (st : q_S), k_X6_wheels_0 Qp J σ lv st → J 0 σ lv st := fun σ lv st h =>
    so_aload_n E (i := 0) rfl dX6_wheels_0 h fun σ lv st h =>
    so_get E (pp := 24) (fi := 0) (C := RX6) (T := TX6) (N := 11) (ref := "WheelDeskModel") ⟨rfl, rfl, rfl⟩ rfl fi_X6_wheels_X6 (by decide) rfl (List.mem_of_getElem? (i := 1) rfl) dX6_wheels_1 h fun σ lv st h =>
    so_bipush E (x := 6) rfl dX6_wheels_4 h fun σ lv st h =>
    so_lald E dX6_wheels_6 h fun σ lv st h =>
    so_l2i E dX6_wheels_7 h fun σ lv st h =>
    so_iret T dX6_wheels_8 h
theorem c_X6_wheels : q_Ct yX6_wheels wsX6_wheels rm_X6_wheels S_X6_wheels := by
  refine q_met (cc := cX6_wheels) (maxL := 1) (ret := (some .int)) (own := RX6) (by decide +kernel) rfl rfl (fun σ vs Qp h => ?_) (fun l J σ vs Qp E T h => ?_)
  · unfold S_X6_wheels at h
    split at h
    · exact Nat.le_of_ble_eq_true rfl
    · exact h.elim
  · unfold S_X6_wheels at h
    split at h
    · next c0 p0 k0 =>
      obtain ⟨rfl, rfl, rfl, h⟩ := h
      exact v_X6_wheels (so_C E) (sb_X6_wheels_0 E T) h
    · exact h.elim
theorem cc_X6_wheels : q_Ct yX6_wheels wsX6_wheels rm_X6_wheels S_X6_wheels := c_X6_wheels

def rm_X6_isAxis : Room := { frames := 1, cells := 0, slots := 0, locals := 22 }
set_option maxRecDepth 20000 in
theorem sb_X6_isAxis_0 {J : Nat → q_K} {l : Launch} {Qp : Option q_V → q_M → Prop} (E : q_E J cX6_isAxis RX6 wsX6_isAxis 1 l rm_X6_isAxis) (T : q_T J cX6_isAxis (some .boolean) Qp) (h_X6_in : q_Ct yX6_in wsX6_in rm_X6_in S_X6_in) : ∀ (σ : q_M) (lv : q_L) (st : q_S), k_X6_isAxis_0 Qp J σ lv st → J 0 σ lv st := fun σ lv st h =>
    so_iload_n E (i := 0) rfl dX6_isAxis_0 h fun σ lv st h =>
    so_iconst E (x := 0) dX6_isAxis_1 h fun σ lv st h =>
    so_iconst E (x := 2) dX6_isAxis_2 h fun σ lv st h =>
    so_callT E (n := 3) (idx := 67) (maxL := 3) (ret := (some .boolean)) h_X6_in gX6_isAxis_X6_in rfl ⟨rfl, rfl⟩ (by decide +kernel) (by decide) dX6_isAxis_3 h fun σ lv st h =>
    so_zret T dX6_isAxis_6 h
theorem c_X6_isAxis (h_X6_in : q_Ct yX6_in wsX6_in rm_X6_in S_X6_in) : q_Ct yX6_isAxis wsX6_isAxis rm_X6_isAxis S_X6_isAxis := by
  refine q_met (cc := cX6_isAxis) (maxL := 1) (ret := (some .boolean)) (own := RX6) (by decide +kernel) rfl rfl (fun σ vs Qp h => ?_) (fun l J σ vs Qp E T h => ?_)
  · unfold S_X6_isAxis at h
    split at h
    · exact Nat.le_of_ble_eq_true rfl
    · exact h.elim
  · unfold S_X6_isAxis at h
    split at h
    · next x =>
      exact v_X6_isAxis (so_C E) (sb_X6_isAxis_0 E T h_X6_in) h
    · exact h.elim
theorem cc_X6_isAxis : q_Ct yX6_isAxis wsX6_isAxis rm_X6_isAxis S_X6_isAxis := c_X6_isAxis cc_X6_in

def rm_X6_setAxis : Room := { frames := 2, cells := 0, slots := 0, locals := 44 }
theorem fi_X6_setAxis_X6 : ∀ w ∈ u_ws RX6 TX6 11, w ∈ wsX6_setAxis := fun w h => List.mem_cons_of_mem _ (List.mem_append_right _ h)
set_option maxRecDepth 20000 in
theorem sb_X6_setAxis_101 {J : Nat → q_K} {l : Launch} {Qp : Option q_V → q_M → Prop} (E : q_E J cX6_setAxis RX6 wsX6_setAxis 5 l rm_X6_setAxis) (T : q_T J cX6_setAxis (some .int) Qp) (h_X6_in : q_Ct yX6_in wsX6_in rm_X6_in S_X6_in) (h_X6_isAxis : q_Ct yX6_isAxis wsX6_isAxis rm_X6_isAxis S_X6_isAxis) (h_X6_axisAt : q_Ct yX6_axisAt wsX6_axisAt rm_X6_axisAt S_X6_axisAt) (h_X6_sets : q_Ct yX6_sets wsX6_sets rm_X6_sets S_X6_sets) : ∀ (σ : q_M) (lv : q_L) (st : q_S), k_X6_setAxis_101 Qp J σ lv st → J 101 σ lv st := fun σ lv st h =>
    so_iret T dX6_setAxis_101 h
set_option maxRecDepth 20000 in
theorem sb_X6_setAxis_99 {J : Nat → q_K} {l : Launch} {Qp : Option q_V → q_M → Prop} (E : q_E J cX6_setAxis RX6 wsX6_setAxis 5 l rm_X6_setAxis) (T : q_T J cX6_setAxis (some .int) Qp) (h_X6_in : q_Ct yX6_in wsX6_in rm_X6_in S_X6_in) (h_X6_isAxis : q_Ct yX6_isAxis wsX6_isAxis rm_X6_isAxis S_X6_isAxis) (h_X6_axisAt : q_Ct yX6_axisAt wsX6_axisAt rm_X6_axisAt S_X6_axisAt) (h_X6_sets : q_Ct yX6_sets wsX6_sets rm_X6_sets S_X6_sets) : ∀ (σ : q_M) (lv : q_L) (st : q_S), k_X6_setAxis_99 Qp J σ lv st → J 99 σ lv st := fun σ lv st h =>
    so_ldc E (x := -2000001) (idx := 80) (v := -2000001) (List.mem_of_getElem? (i := 3) rfl) rfl dX6_setAxis_99 h fun σ lv st h =>
    (sb_X6_setAxis_101 E T h_X6_in h_X6_isAxis h_X6_axisAt h_X6_sets) σ lv st h
set_option maxRecDepth 20000 in
theorem sb_X6_setAxis_70 {J : Nat → q_K} {l : Launch} {Qp : Option q_V → q_M → Prop} (E : q_E J cX6_setAxis RX6 wsX6_setAxis 5 l rm_X6_setAxis) (T : q_T J cX6_setAxis (some .int) Qp) (h_X6_in : q_Ct yX6_in wsX6_in rm_X6_in S_X6_in) (h_X6_isAxis : q_Ct yX6_isAxis wsX6_isAxis rm_X6_isAxis S_X6_isAxis) (h_X6_axisAt : q_Ct yX6_axisAt wsX6_axisAt rm_X6_axisAt S_X6_axisAt) (h_X6_sets : q_Ct yX6_sets wsX6_sets rm_X6_sets S_X6_sets) : ∀ (σ : q_M) (lv : q_L) (st : q_S), k_X6_setAxis_70 Qp J σ lv st → J 70 σ lv st := fun σ lv st h =>
    so_istore E (i := 4) (by decide) dX6_setAxis_70 h fun σ lv st h =>
    so_iload_n E (i := 1) rfl dX6_setAxis_72 h fun σ lv st h =>
    so_callT E (n := 1) (idx := 94) (maxL := 1) (ret := (some .boolean)) h_X6_isAxis gX6_setAxis_X6_isAxis rfl ⟨rfl, rfl⟩ (by decide +kernel) (by decide) dX6_setAxis_73 h fun σ lv st h =>
    so_ifeq E 99 (by decide) dX6_setAxis_76 (sb_X6_setAxis_99 E T h_X6_in h_X6_isAxis h_X6_axisAt h_X6_sets) h fun σ lv st h =>
    so_iload E (i := 4) dX6_setAxis_79 h fun σ lv st h =>
    so_ifeq E 99 (by decide) dX6_setAxis_81 (sb_X6_setAxis_99 E T h_X6_in h_X6_isAxis h_X6_axisAt h_X6_sets) h fun σ lv st h =>
    so_aload_n E (i := 0) rfl dX6_setAxis_84 h fun σ lv st h =>
    so_iload_n E (i := 1) rfl dX6_setAxis_85 h fun σ lv st h =>
    so_iconst E (x := 2) dX6_setAxis_86 h fun σ lv st h =>
    so_iload_n E (i := 2) rfl dX6_setAxis_87 h fun σ lv st h =>
    so_iadd E dX6_setAxis_88 h fun σ lv st h =>
    so_callT E (n := 2) (idx := 45) (maxL := 2) (ret := (some .int)) h_X6_axisAt gX6_setAxis_X6_axisAt rfl ⟨rfl, rfl⟩ (by decide +kernel) (by decide) dX6_setAxis_89 h fun σ lv st h =>
    so_iload_n E (i := 3) rfl dX6_setAxis_92 h fun σ lv st h =>
    so_callV E (n := 2) (pp := 24) (C := RX6) (T := TX6) (N := 11) (idx := 90) (maxL := 4) (ret := (some .int)) h_X6_sets ⟨rfl, rfl, rfl⟩ rfl gX6_setAxis_X6_sets rfl ⟨rfl, rfl⟩ (by decide +kernel) (by decide) dX6_setAxis_93 h fun σ lv st h =>
    so_goto E 101 (by decide) dX6_setAxis_96 (sb_X6_setAxis_101 E T h_X6_in h_X6_isAxis h_X6_axisAt h_X6_sets) h
set_option maxRecDepth 20000 in
theorem sb_X6_setAxis_69 {J : Nat → q_K} {l : Launch} {Qp : Option q_V → q_M → Prop} (E : q_E J cX6_setAxis RX6 wsX6_setAxis 5 l rm_X6_setAxis) (T : q_T J cX6_setAxis (some .int) Qp) (h_X6_in : q_Ct yX6_in wsX6_in rm_X6_in S_X6_in) (h_X6_isAxis : q_Ct yX6_isAxis wsX6_isAxis rm_X6_isAxis S_X6_isAxis) (h_X6_axisAt : q_Ct yX6_axisAt wsX6_axisAt rm_X6_axisAt S_X6_axisAt) (h_X6_sets : q_Ct yX6_sets wsX6_sets rm_X6_sets S_X6_sets) : ∀ (σ : q_M) (lv : q_L) (st : q_S), k_X6_setAxis_69 Qp J σ lv st → J 69 σ lv st := fun σ lv st h =>
    so_iconst E (x := 0) dX6_setAxis_69 h fun σ lv st h =>
    (sb_X6_setAxis_70 E T h_X6_in h_X6_isAxis h_X6_axisAt h_X6_sets) σ lv st h
set_option maxRecDepth 20000 in
theorem sb_X6_setAxis_47 {J : Nat → q_K} {l : Launch} {Qp : Option q_V → q_M → Prop} (E : q_E J cX6_setAxis RX6 wsX6_setAxis 5 l rm_X6_setAxis) (T : q_T J cX6_setAxis (some .int) Qp) (h_X6_in : q_Ct yX6_in wsX6_in rm_X6_in S_X6_in) (h_X6_isAxis : q_Ct yX6_isAxis wsX6_isAxis rm_X6_isAxis S_X6_isAxis) (h_X6_axisAt : q_Ct yX6_axisAt wsX6_axisAt rm_X6_axisAt S_X6_axisAt) (h_X6_sets : q_Ct yX6_sets wsX6_sets rm_X6_sets S_X6_sets) : ∀ (σ : q_M) (lv : q_L) (st : q_S), k_X6_setAxis_47 Qp J σ lv st → J 47 σ lv st := fun σ lv st h =>
    so_iload_n E (i := 2) rfl dX6_setAxis_47 h fun σ lv st h =>
    so_iconst E (x := 3) dX6_setAxis_48 h fun σ lv st h =>
    so_icmpne E 69 (by decide) dX6_setAxis_49 (sb_X6_setAxis_69 E T h_X6_in h_X6_isAxis h_X6_axisAt h_X6_sets) h fun σ lv st h =>
    so_iload_n E (i := 3) rfl dX6_setAxis_52 h fun σ lv st h =>
    so_sipush E (x := -1000) rfl dX6_setAxis_53 h fun σ lv st h =>
    so_sipush E (x := 1000) rfl dX6_setAxis_56 h fun σ lv st h =>
    so_callT E (n := 3) (idx := 67) (maxL := 3) (ret := (some .boolean)) h_X6_in gX6_setAxis_X6_in rfl ⟨rfl, rfl⟩ (by decide +kernel) (by decide) dX6_setAxis_59 h fun σ lv st h =>
    so_ifeq E 69 (by decide) dX6_setAxis_62 (sb_X6_setAxis_69 E T h_X6_in h_X6_isAxis h_X6_axisAt h_X6_sets) h fun σ lv st h =>
    so_iconst E (x := 1) dX6_setAxis_65 h fun σ lv st h =>
    so_goto E 70 (by decide) dX6_setAxis_66 (sb_X6_setAxis_70 E T h_X6_in h_X6_isAxis h_X6_axisAt h_X6_sets) h
set_option maxRecDepth 20000 in
theorem sb_X6_setAxis_31 {J : Nat → q_K} {l : Launch} {Qp : Option q_V → q_M → Prop} (E : q_E J cX6_setAxis RX6 wsX6_setAxis 5 l rm_X6_setAxis) (T : q_T J cX6_setAxis (some .int) Qp) (h_X6_in : q_Ct yX6_in wsX6_in rm_X6_in S_X6_in) (h_X6_isAxis : q_Ct yX6_isAxis wsX6_isAxis rm_X6_isAxis S_X6_isAxis) (h_X6_axisAt : q_Ct yX6_axisAt wsX6_axisAt rm_X6_axisAt S_X6_axisAt) (h_X6_sets : q_Ct yX6_sets wsX6_sets rm_X6_sets S_X6_sets) : ∀ (σ : q_M) (lv : q_L) (st : q_S), k_X6_setAxis_31 Qp J σ lv st → J 31 σ lv st := fun σ lv st h =>
    so_iload_n E (i := 2) rfl dX6_setAxis_31 h fun σ lv st h =>
    so_iconst E (x := 2) dX6_setAxis_32 h fun σ lv st h =>
    so_icmpne E 47 (by decide) dX6_setAxis_33 (sb_X6_setAxis_47 E T h_X6_in h_X6_isAxis h_X6_axisAt h_X6_sets) h fun σ lv st h =>
    so_iload_n E (i := 3) rfl dX6_setAxis_36 h fun σ lv st h =>
    so_bipush E (x := -100) rfl dX6_setAxis_37 h fun σ lv st h =>
    so_bipush E (x := 100) rfl dX6_setAxis_39 h fun σ lv st h =>
    so_callT E (n := 3) (idx := 67) (maxL := 3) (ret := (some .boolean)) h_X6_in gX6_setAxis_X6_in rfl ⟨rfl, rfl⟩ (by decide +kernel) (by decide) dX6_setAxis_41 h fun σ lv st h =>
    so_goto E 70 (by decide) dX6_setAxis_44 (sb_X6_setAxis_70 E T h_X6_in h_X6_isAxis h_X6_axisAt h_X6_sets) h
set_option maxRecDepth 20000 in
theorem sb_X6_setAxis_15 {J : Nat → q_K} {l : Launch} {Qp : Option q_V → q_M → Prop} (E : q_E J cX6_setAxis RX6 wsX6_setAxis 5 l rm_X6_setAxis) (T : q_T J cX6_setAxis (some .int) Qp) (h_X6_in : q_Ct yX6_in wsX6_in rm_X6_in S_X6_in) (h_X6_isAxis : q_Ct yX6_isAxis wsX6_isAxis rm_X6_isAxis S_X6_isAxis) (h_X6_axisAt : q_Ct yX6_axisAt wsX6_axisAt rm_X6_axisAt S_X6_axisAt) (h_X6_sets : q_Ct yX6_sets wsX6_sets rm_X6_sets S_X6_sets) : ∀ (σ : q_M) (lv : q_L) (st : q_S), k_X6_setAxis_15 Qp J σ lv st → J 15 σ lv st := fun σ lv st h =>
    so_iload_n E (i := 2) rfl dX6_setAxis_15 h fun σ lv st h =>
    so_iconst E (x := 1) dX6_setAxis_16 h fun σ lv st h =>
    so_icmpne E 31 (by decide) dX6_setAxis_17 (sb_X6_setAxis_31 E T h_X6_in h_X6_isAxis h_X6_axisAt h_X6_sets) h fun σ lv st h =>
    so_iload_n E (i := 3) rfl dX6_setAxis_20 h fun σ lv st h =>
    so_ldc E (x := -1000000) (idx := 93) (v := -1000000) (List.mem_of_getElem? (i := 1) rfl) rfl dX6_setAxis_21 h fun σ lv st h =>
    so_ldc E (x := 1000000) (idx := 78) (v := 1000000) (List.mem_of_getElem? (i := 2) rfl) rfl dX6_setAxis_23 h fun σ lv st h =>
    so_callT E (n := 3) (idx := 67) (maxL := 3) (ret := (some .boolean)) h_X6_in gX6_setAxis_X6_in rfl ⟨rfl, rfl⟩ (by decide +kernel) (by decide) dX6_setAxis_25 h fun σ lv st h =>
    so_goto E 70 (by decide) dX6_setAxis_28 (sb_X6_setAxis_70 E T h_X6_in h_X6_isAxis h_X6_axisAt h_X6_sets) h
set_option maxRecDepth 20000 in
theorem sb_X6_setAxis_0 {J : Nat → q_K} {l : Launch} {Qp : Option q_V → q_M → Prop} (E : q_E J cX6_setAxis RX6 wsX6_setAxis 5 l rm_X6_setAxis) (T : q_T J cX6_setAxis (some .int) Qp) (h_X6_in : q_Ct yX6_in wsX6_in rm_X6_in S_X6_in) (h_X6_isAxis : q_Ct yX6_isAxis wsX6_isAxis rm_X6_isAxis S_X6_isAxis) (h_X6_axisAt : q_Ct yX6_axisAt wsX6_axisAt rm_X6_axisAt S_X6_axisAt) (h_X6_sets : q_Ct yX6_sets wsX6_sets rm_X6_sets S_X6_sets) : ∀ (σ : q_M) (lv : q_L) (st : q_S), k_X6_setAxis_0 Qp J σ lv st → J 0 σ lv st := fun σ lv st h =>
    so_iload_n E (i := 2) rfl dX6_setAxis_0 h fun σ lv st h =>
    so_ifne E 15 (by decide) dX6_setAxis_1 (sb_X6_setAxis_15 E T h_X6_in h_X6_isAxis h_X6_axisAt h_X6_sets) h fun σ lv st h =>
    so_iload_n E (i := 3) rfl dX6_setAxis_4 h fun σ lv st h =>
    so_iconst E (x := 1) dX6_setAxis_5 h fun σ lv st h =>
    so_sipush E (x := 1000) rfl dX6_setAxis_6 h fun σ lv st h =>
    so_callT E (n := 3) (idx := 67) (maxL := 3) (ret := (some .boolean)) h_X6_in gX6_setAxis_X6_in rfl ⟨rfl, rfl⟩ (by decide +kernel) (by decide) dX6_setAxis_9 h fun σ lv st h =>
    so_goto E 70 (by decide) dX6_setAxis_12 (sb_X6_setAxis_70 E T h_X6_in h_X6_isAxis h_X6_axisAt h_X6_sets) h
theorem c_X6_setAxis (h_X6_in : q_Ct yX6_in wsX6_in rm_X6_in S_X6_in) (h_X6_isAxis : q_Ct yX6_isAxis wsX6_isAxis rm_X6_isAxis S_X6_isAxis) (h_X6_axisAt : q_Ct yX6_axisAt wsX6_axisAt rm_X6_axisAt S_X6_axisAt) (h_X6_sets : q_Ct yX6_sets wsX6_sets rm_X6_sets S_X6_sets) : q_Ct yX6_setAxis wsX6_setAxis rm_X6_setAxis S_X6_setAxis := by
  refine q_met (cc := cX6_setAxis) (maxL := 5) (ret := (some .int)) (own := RX6) (by decide +kernel) rfl rfl (fun σ vs Qp h => ?_) (fun l J σ vs Qp E T h => ?_)
  · unfold S_X6_setAxis at h
    split at h
    · exact Nat.le_of_ble_eq_true rfl
    · exact h.elim
  · unfold S_X6_setAxis at h
    split at h
    · next c0 p0 k0 a w v =>
      obtain ⟨rfl, rfl, rfl, h⟩ := h
      exact v_X6_setAxis (so_C E) (sb_X6_setAxis_0 E T h_X6_in h_X6_isAxis h_X6_axisAt h_X6_sets) h
    · exact h.elim
theorem cc_X6_setAxis : q_Ct yX6_setAxis wsX6_setAxis rm_X6_setAxis S_X6_setAxis := c_X6_setAxis cc_X6_in cc_X6_isAxis cc_X6_axisAt cc_X6_sets

def rm_X6_set : Room := { frames := 2, cells := 0, slots := 0, locals := 44 }
theorem fi_X6_set_X6 : ∀ w ∈ u_ws RX6 TX6 11, w ∈ wsX6_set := fun w h => List.mem_cons_of_mem _ (List.mem_append_right _ h)
set_option maxRecDepth 20000 in
theorem sb_X6_set_76 {J : Nat → q_K} {l : Launch} {Qp : Option q_V → q_M → Prop} (E : q_E J cX6_set RX6 wsX6_set 5 l rm_X6_set) (T : q_T J cX6_set (some .int) Qp) (h_X6_in : q_Ct yX6_in wsX6_in rm_X6_in S_X6_in) (h_X6_sets : q_Ct yX6_sets wsX6_sets rm_X6_sets S_X6_sets) : ∀ (σ : q_M) (lv : q_L) (st : q_S), k_X6_set_76 Qp J σ lv st → J 76 σ lv st := fun σ lv st h =>
    so_iret T dX6_set_76 h
set_option maxRecDepth 20000 in
theorem sb_X6_set_74 {J : Nat → q_K} {l : Launch} {Qp : Option q_V → q_M → Prop} (E : q_E J cX6_set RX6 wsX6_set 5 l rm_X6_set) (T : q_T J cX6_set (some .int) Qp) (h_X6_in : q_Ct yX6_in wsX6_in rm_X6_in S_X6_in) (h_X6_sets : q_Ct yX6_sets wsX6_sets rm_X6_sets S_X6_sets) : ∀ (σ : q_M) (lv : q_L) (st : q_S), k_X6_set_74 Qp J σ lv st → J 74 σ lv st := fun σ lv st h =>
    so_ldc E (x := -2000001) (idx := 80) (v := -2000001) (List.mem_of_getElem? (i := 2) rfl) rfl dX6_set_74 h fun σ lv st h =>
    (sb_X6_set_76 E T h_X6_in h_X6_sets) σ lv st h
set_option maxRecDepth 20000 in
theorem sb_X6_set_44 {J : Nat → q_K} {l : Launch} {Qp : Option q_V → q_M → Prop} (E : q_E J cX6_set RX6 wsX6_set 5 l rm_X6_set) (T : q_T J cX6_set (some .int) Qp) (h_X6_in : q_Ct yX6_in wsX6_in rm_X6_in S_X6_in) (h_X6_sets : q_Ct yX6_sets wsX6_sets rm_X6_sets S_X6_sets) : ∀ (σ : q_M) (lv : q_L) (st : q_S), k_X6_set_44 Qp J σ lv st → J 44 σ lv st := fun σ lv st h =>
    so_istore E (i := 4) (by decide) dX6_set_44 h fun σ lv st h =>
    so_iload_n E (i := 1) rfl dX6_set_46 h fun σ lv st h =>
    so_iconst E (x := 0) dX6_set_47 h fun σ lv st h =>
    so_iconst E (x := 4) dX6_set_48 h fun σ lv st h =>
    so_callT E (n := 3) (idx := 67) (maxL := 3) (ret := (some .boolean)) h_X6_in gX6_set_X6_in rfl ⟨rfl, rfl⟩ (by decide +kernel) (by decide) dX6_set_49 h fun σ lv st h =>
    so_ifeq E 74 (by decide) dX6_set_52 (sb_X6_set_74 E T h_X6_in h_X6_sets) h fun σ lv st h =>
    so_iload_n E (i := 2) rfl dX6_set_55 h fun σ lv st h =>
    so_iload E (i := 4) dX6_set_56 h fun σ lv st h =>
    so_iload_n E (i := 3) rfl dX6_set_58 h fun σ lv st h =>
    so_callT E (n := 3) (idx := 67) (maxL := 3) (ret := (some .boolean)) h_X6_in gX6_set_X6_in rfl ⟨rfl, rfl⟩ (by decide +kernel) (by decide) dX6_set_59 h fun σ lv st h =>
    so_ifeq E 74 (by decide) dX6_set_62 (sb_X6_set_74 E T h_X6_in h_X6_sets) h fun σ lv st h =>
    so_aload_n E (i := 0) rfl dX6_set_65 h fun σ lv st h =>
    so_iload_n E (i := 1) rfl dX6_set_66 h fun σ lv st h =>
    so_iload_n E (i := 2) rfl dX6_set_67 h fun σ lv st h =>
    so_callV E (n := 2) (pp := 24) (C := RX6) (T := TX6) (N := 11) (idx := 90) (maxL := 4) (ret := (some .int)) h_X6_sets ⟨rfl, rfl, rfl⟩ rfl gX6_set_X6_sets rfl ⟨rfl, rfl⟩ (by decide +kernel) (by decide) dX6_set_68 h fun σ lv st h =>
    so_goto E 76 (by decide) dX6_set_71 (sb_X6_set_76 E T h_X6_in h_X6_sets) h
set_option maxRecDepth 20000 in
theorem sb_X6_set_39 {J : Nat → q_K} {l : Launch} {Qp : Option q_V → q_M → Prop} (E : q_E J cX6_set RX6 wsX6_set 5 l rm_X6_set) (T : q_T J cX6_set (some .int) Qp) (h_X6_in : q_Ct yX6_in wsX6_in rm_X6_in S_X6_in) (h_X6_sets : q_Ct yX6_sets wsX6_sets rm_X6_sets S_X6_sets) : ∀ (σ : q_M) (lv : q_L) (st : q_S), k_X6_set_39 Qp J σ lv st → J 39 σ lv st := fun σ lv st h =>
    so_iconst E (x := 1) dX6_set_39 h fun σ lv st h =>
    so_goto E 44 (by decide) dX6_set_40 (sb_X6_set_44 E T h_X6_in h_X6_sets) h
set_option maxRecDepth 20000 in
theorem sb_X6_set_43 {J : Nat → q_K} {l : Launch} {Qp : Option q_V → q_M → Prop} (E : q_E J cX6_set RX6 wsX6_set 5 l rm_X6_set) (T : q_T J cX6_set (some .int) Qp) (h_X6_in : q_Ct yX6_in wsX6_in rm_X6_in S_X6_in) (h_X6_sets : q_Ct yX6_sets wsX6_sets rm_X6_sets S_X6_sets) : ∀ (σ : q_M) (lv : q_L) (st : q_S), k_X6_set_43 Qp J σ lv st → J 43 σ lv st := fun σ lv st h =>
    so_iconst E (x := 0) dX6_set_43 h fun σ lv st h =>
    (sb_X6_set_44 E T h_X6_in h_X6_sets) σ lv st h
set_option maxRecDepth 20000 in
theorem sb_X6_set_28 {J : Nat → q_K} {l : Launch} {Qp : Option q_V → q_M → Prop} (E : q_E J cX6_set RX6 wsX6_set 5 l rm_X6_set) (T : q_T J cX6_set (some .int) Qp) (h_X6_in : q_Ct yX6_in wsX6_in rm_X6_in S_X6_in) (h_X6_sets : q_Ct yX6_sets wsX6_sets rm_X6_sets S_X6_sets) : ∀ (σ : q_M) (lv : q_L) (st : q_S), k_X6_set_28 Qp J σ lv st → J 28 σ lv st := fun σ lv st h =>
    so_istore_n E (i := 3) rfl (by decide) dX6_set_28 h fun σ lv st h =>
    so_iload_n E (i := 1) rfl dX6_set_29 h fun σ lv st h =>
    so_iconst E (x := 2) dX6_set_30 h fun σ lv st h =>
    so_icmpeq E 39 (by decide) dX6_set_31 (sb_X6_set_39 E T h_X6_in h_X6_sets) h fun σ lv st h =>
    so_iload_n E (i := 1) rfl dX6_set_34 h fun σ lv st h =>
    so_iconst E (x := 3) dX6_set_35 h fun σ lv st h =>
    so_icmpne E 43 (by decide) dX6_set_36 (sb_X6_set_43 E T h_X6_in h_X6_sets) h fun σ lv st h =>
    (sb_X6_set_39 E T h_X6_in h_X6_sets) σ lv st h
set_option maxRecDepth 20000 in
theorem sb_X6_set_9 {J : Nat → q_K} {l : Launch} {Qp : Option q_V → q_M → Prop} (E : q_E J cX6_set RX6 wsX6_set 5 l rm_X6_set) (T : q_T J cX6_set (some .int) Qp) (h_X6_in : q_Ct yX6_in wsX6_in rm_X6_in S_X6_in) (h_X6_sets : q_Ct yX6_sets wsX6_sets rm_X6_sets S_X6_sets) : ∀ (σ : q_M) (lv : q_L) (st : q_S), k_X6_set_9 Qp J σ lv st → J 9 σ lv st := fun σ lv st h =>
    so_sipush E (x := 1000) rfl dX6_set_9 h fun σ lv st h =>
    so_goto E 28 (by decide) dX6_set_12 (sb_X6_set_28 E T h_X6_in h_X6_sets) h
set_option maxRecDepth 20000 in
theorem sb_X6_set_25 {J : Nat → q_K} {l : Launch} {Qp : Option q_V → q_M → Prop} (E : q_E J cX6_set RX6 wsX6_set 5 l rm_X6_set) (T : q_T J cX6_set (some .int) Qp) (h_X6_in : q_Ct yX6_in wsX6_in rm_X6_in S_X6_in) (h_X6_sets : q_Ct yX6_sets wsX6_sets rm_X6_sets S_X6_sets) : ∀ (σ : q_M) (lv : q_L) (st : q_S), k_X6_set_25 Qp J σ lv st → J 25 σ lv st := fun σ lv st h =>
    so_sipush E (x := 10000) rfl dX6_set_25 h fun σ lv st h =>
    (sb_X6_set_28 E T h_X6_in h_X6_sets) σ lv st h
set_option maxRecDepth 20000 in
theorem sb_X6_set_15 {J : Nat → q_K} {l : Launch} {Qp : Option q_V → q_M → Prop} (E : q_E J cX6_set RX6 wsX6_set 5 l rm_X6_set) (T : q_T J cX6_set (some .int) Qp) (h_X6_in : q_Ct yX6_in wsX6_in rm_X6_in S_X6_in) (h_X6_sets : q_Ct yX6_sets wsX6_sets rm_X6_sets S_X6_sets) : ∀ (σ : q_M) (lv : q_L) (st : q_S), k_X6_set_15 Qp J σ lv st → J 15 σ lv st := fun σ lv st h =>
    so_iload_n E (i := 1) rfl dX6_set_15 h fun σ lv st h =>
    so_iconst E (x := 3) dX6_set_16 h fun σ lv st h =>
    so_icmpne E 25 (by decide) dX6_set_17 (sb_X6_set_25 E T h_X6_in h_X6_sets) h fun σ lv st h =>
    so_ldc E (x := 100000) (idx := 79) (v := 100000) (List.mem_of_getElem? (i := 1) rfl) rfl dX6_set_20 h fun σ lv st h =>
    so_goto E 28 (by decide) dX6_set_22 (sb_X6_set_28 E T h_X6_in h_X6_sets) h
set_option maxRecDepth 20000 in
theorem sb_X6_set_0 {J : Nat → q_K} {l : Launch} {Qp : Option q_V → q_M → Prop} (E : q_E J cX6_set RX6 wsX6_set 5 l rm_X6_set) (T : q_T J cX6_set (some .int) Qp) (h_X6_in : q_Ct yX6_in wsX6_in rm_X6_in S_X6_in) (h_X6_sets : q_Ct yX6_sets wsX6_sets rm_X6_sets S_X6_sets) : ∀ (σ : q_M) (lv : q_L) (st : q_S), k_X6_set_0 Qp J σ lv st → J 0 σ lv st := fun σ lv st h =>
    so_iload_n E (i := 1) rfl dX6_set_0 h fun σ lv st h =>
    so_ifeq E 9 (by decide) dX6_set_1 (sb_X6_set_9 E T h_X6_in h_X6_sets) h fun σ lv st h =>
    so_iload_n E (i := 1) rfl dX6_set_4 h fun σ lv st h =>
    so_iconst E (x := 1) dX6_set_5 h fun σ lv st h =>
    so_icmpne E 15 (by decide) dX6_set_6 (sb_X6_set_15 E T h_X6_in h_X6_sets) h fun σ lv st h =>
    (sb_X6_set_9 E T h_X6_in h_X6_sets) σ lv st h
theorem c_X6_set (h_X6_in : q_Ct yX6_in wsX6_in rm_X6_in S_X6_in) (h_X6_sets : q_Ct yX6_sets wsX6_sets rm_X6_sets S_X6_sets) : q_Ct yX6_set wsX6_set rm_X6_set S_X6_set := by
  refine q_met (cc := cX6_set) (maxL := 5) (ret := (some .int)) (own := RX6) (by decide +kernel) rfl rfl (fun σ vs Qp h => ?_) (fun l J σ vs Qp E T h => ?_)
  · unfold S_X6_set at h
    split at h
    · exact Nat.le_of_ble_eq_true rfl
    · exact h.elim
  · unfold S_X6_set at h
    split at h
    · next c0 p0 k0 w v =>
      obtain ⟨rfl, rfl, rfl, h⟩ := h
      exact v_X6_set (so_C E) (sb_X6_set_0 E T h_X6_in h_X6_sets) h
    · exact h.elim
theorem cc_X6_set : q_Ct yX6_set wsX6_set rm_X6_set S_X6_set := c_X6_set cc_X6_in cc_X6_sets

