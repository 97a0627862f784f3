def rm_L_up : Room := { frames := 0, cells := 0, slots := 0, locals := 0 }
set_option maxRecDepth 20000 in
theorem sb_L_up_0 {J : Nat → q_K} {l : Launch} {Qp : Option q_V → q_M → Prop} (E : q_E J cL_up RL wsL_up 2 l rm_L_up) (T : q_T J cL_up (some .int) Qp) : ∀ (σ : q_M) (lv : q_L) (st : q_S), k_L_up_0 Qp J σ lv st → J 0 σ lv st := fun σ lv st h =>
    so_iload_n E (i := 0) rfl dL_up_0 h fun σ lv st h =>
    so_ldc E (x := 2147483647) (idx := 8) (v := 2147483647) (List.mem_of_getElem? (i := 1) rfl) rfl dL_up_1 h fun σ lv st h =>
    so_iand E dL_up_3 h fun σ lv st h =>
    so_iload_n E (i := 1) rfl dL_up_4 h fun σ lv st h =>
    so_irem E dL_up_5 h fun σ lv st h =>
    so_iret T dL_up_6 h
theorem c_L_up : q_Ct yL_up wsL_up rm_L_up S_L_up := by
  refine q_met (cc := cL_up) (maxL := 2) (ret := (some .int)) (own := RL) (by decide +kernel) rfl rfl (fun σ vs Qp h => ?_) (fun l J σ vs Qp E T h => ?_)
  · unfold S_L_up at h
    split at h
    · exact Nat.le_of_ble_eq_true rfl
    · exact h.elim
  · unfold S_L_up at h
    split at h
    · next x m =>
      exact v_L_up (so_C E) (sb_L_up_0 E T) h
    · exact h.elim
theorem cc_L_up : q_Ct yL_up wsL_up rm_L_up S_L_up := c_L_up

def rm_L_fails : Room := { frames := 7, cells := 0, slots := 0, locals := 174 }
set_option maxRecDepth 20000 in
theorem sb_L_fails_0 {J : Nat → q_K} {l : Launch} {Qp : Option q_V → q_M → Prop} (E : q_E J cL_fails RL wsL_fails 5 l rm_L_fails) (T : q_T J cL_fails (some .boolean) Qp) (h_X5_fingerprint : q_Ct yX5_fingerprint wsX5_fingerprint rm_X5_fingerprint S_X5_fingerprint) (h_X5_addWheel : q_Ct yX5_addWheel wsX5_addWheel rm_X5_addWheel S_X5_addWheel) (h_X5_fail : q_Ct yX5_fail wsX5_fail rm_X5_fail S_X5_fail) (h_X5_setMost : q_Ct yX5_setMost wsX5_setMost rm_X5_setMost S_X5_setMost) (h_X5_wheel : q_Ct yX5_wheel wsX5_wheel rm_X5_wheel S_X5_wheel) (h_X5_setAxis : q_Ct yX5_setAxis wsX5_setAxis rm_X5_setAxis S_X5_setAxis) (h_X5_set : q_Ct yX5_set wsX5_set rm_X5_set S_X5_set) (h_X5_setting : q_Ct yX5_setting wsX5_setting rm_X5_setting S_X5_setting) (h_X5_strike : q_Ct yX5_strike wsX5_strike rm_X5_strike S_X5_strike) (h_X5_tick : q_Ct yX5_tick wsX5_tick rm_X5_tick S_X5_tick) (h_X5_axis : q_Ct yX5_axis wsX5_axis rm_X5_axis S_X5_axis) (h_X5_wish : q_Ct yX5_wish wsX5_wish rm_X5_wish S_X5_wish) (h_X5_why : q_Ct yX5_why wsX5_why rm_X5_why S_X5_why) (h_X5_arrives : q_Ct yX5_arrives wsX5_arrives rm_X5_arrives S_X5_arrives) (h_X5_gravest : q_Ct yX5_gravest wsX5_gravest rm_X5_gravest S_X5_gravest) : ∀ (σ : q_M) (lv : q_L) (st : q_S), k_L_fails_0 Qp J σ lv st → J 0 σ lv st := fun σ lv st h =>
    so_aload_n E (i := 0) rfl dL_fails_0 h fun σ lv st h =>
    so_callV E (n := 0) (pp := 23) (C := RX5) (T := TX5) (N := 5) (idx := 9) (maxL := 5) (ret := (some .long)) h_X5_fingerprint ⟨rfl, rfl, rfl⟩ rfl gL_fails_X5_fingerprint rfl ⟨rfl, rfl⟩ (by decide +kernel) (by decide) dL_fails_1 h fun σ lv st h =>
    so_lstore_n E (i := 2) rfl (by decide) dL_fails_4 h fun σ lv st h =>
    so_aload_n E (i := 0) rfl dL_fails_5 h fun σ lv st h =>
    so_bipush E (x := 10) rfl dL_fails_6 h fun σ lv st h =>
    so_iconst E (x := 0) dL_fails_8 h fun σ lv st h =>
    so_iconst E (x := 0) dL_fails_9 h fun σ lv st h =>
    so_iconst E (x := 1) dL_fails_10 h fun σ lv st h =>
    so_iconst E (x := 1) dL_fails_11 h fun σ lv st h =>
    so_callV E (n := 5) (pp := 23) (C := RX5) (T := TX5) (N := 5) (idx := 15) (maxL := 7) (ret := (some .int)) h_X5_addWheel ⟨rfl, rfl, rfl⟩ rfl gL_fails_X5_addWheel rfl ⟨rfl, rfl⟩ (by decide +kernel) (by decide) dL_fails_12 h fun σ lv st h =>
    so_ldc E (x := -2000001) (idx := 21) (v := -2000001) (List.mem_of_getElem? (i := 1) rfl) rfl dL_fails_15 h fun σ lv st h =>
    so_icmpne E 175 (by decide) dL_fails_17 (fun _ _ _ h => h) h fun σ lv st h =>
    so_aload_n E (i := 0) rfl dL_fails_20 h fun σ lv st h =>
    so_iconst E (x := 0) dL_fails_21 h fun σ lv st h =>
    so_iconst E (x := 0) dL_fails_22 h fun σ lv st h =>
    so_iconst E (x := 0) dL_fails_23 h fun σ lv st h =>
    so_iconst E (x := 1) dL_fails_24 h fun σ lv st h =>
    so_iconst E (x := 1) dL_fails_25 h fun σ lv st h =>
    so_callV E (n := 5) (pp := 23) (C := RX5) (T := TX5) (N := 5) (idx := 15) (maxL := 7) (ret := (some .int)) h_X5_addWheel ⟨rfl, rfl, rfl⟩ rfl gL_fails_X5_addWheel rfl ⟨rfl, rfl⟩ (by decide +kernel) (by decide) dL_fails_26 h fun σ lv st h =>
    so_ldc E (x := -2000001) (idx := 21) (v := -2000001) (List.mem_of_getElem? (i := 1) rfl) rfl dL_fails_29 h fun σ lv st h =>
    so_icmpne E 175 (by decide) dL_fails_31 (fun _ _ _ h => h) h fun σ lv st h =>
    so_aload_n E (i := 0) rfl dL_fails_34 h fun σ lv st h =>
    so_iconst E (x := 1) dL_fails_35 h fun σ lv st h =>
    so_iconst E (x := 0) dL_fails_36 h fun σ lv st h =>
    so_iconst E (x := 0) dL_fails_37 h fun σ lv st h =>
    so_iconst E (x := 0) dL_fails_38 h fun σ lv st h =>
    so_iconst E (x := 1) dL_fails_39 h fun σ lv st h =>
    so_callV E (n := 5) (pp := 23) (C := RX5) (T := TX5) (N := 5) (idx := 15) (maxL := 7) (ret := (some .int)) h_X5_addWheel ⟨rfl, rfl, rfl⟩ rfl gL_fails_X5_addWheel rfl ⟨rfl, rfl⟩ (by decide +kernel) (by decide) dL_fails_40 h fun σ lv st h =>
    so_ldc E (x := -2000001) (idx := 21) (v := -2000001) (List.mem_of_getElem? (i := 1) rfl) rfl dL_fails_43 h fun σ lv st h =>
    so_icmpne E 175 (by decide) dL_fails_45 (fun _ _ _ h => h) h fun σ lv st h =>
    so_aload_n E (i := 0) rfl dL_fails_48 h fun σ lv st h =>
    so_iconst E (x := 1) dL_fails_49 h fun σ lv st h =>
    so_iconst E (x := 0) dL_fails_50 h fun σ lv st h =>
    so_iconst E (x := 0) dL_fails_51 h fun σ lv st h =>
    so_iconst E (x := 1) dL_fails_52 h fun σ lv st h =>
    so_ldc E (x := 100001) (idx := 22) (v := 100001) (List.mem_of_getElem? (i := 2) rfl) rfl dL_fails_53 h fun σ lv st h =>
    so_callV E (n := 5) (pp := 23) (C := RX5) (T := TX5) (N := 5) (idx := 15) (maxL := 7) (ret := (some .int)) h_X5_addWheel ⟨rfl, rfl, rfl⟩ rfl gL_fails_X5_addWheel rfl ⟨rfl, rfl⟩ (by decide +kernel) (by decide) dL_fails_55 h fun σ lv st h =>
    so_ldc E (x := -2000001) (idx := 21) (v := -2000001) (List.mem_of_getElem? (i := 1) rfl) rfl dL_fails_58 h fun σ lv st h =>
    so_icmpne E 175 (by decide) dL_fails_60 (fun _ _ _ h => h) h fun σ lv st h =>
    so_aload_n E (i := 0) rfl dL_fails_63 h fun σ lv st h =>
    so_iload_n E (i := 1) rfl dL_fails_64 h fun σ lv st h =>
    so_iconst E (x := 1) dL_fails_65 h fun σ lv st h =>
    so_callV E (n := 2) (pp := 23) (C := RX5) (T := TX5) (N := 5) (idx := 23) (maxL := 5) (ret := (some .int)) h_X5_fail ⟨rfl, rfl, rfl⟩ rfl gL_fails_X5_fail rfl ⟨rfl, rfl⟩ (by decide +kernel) (by decide) dL_fails_66 h fun σ lv st h =>
    so_ldc E (x := -2000001) (idx := 21) (v := -2000001) (List.mem_of_getElem? (i := 1) rfl) rfl dL_fails_69 h fun σ lv st h =>
    so_icmpne E 175 (by decide) dL_fails_71 (fun _ _ _ h => h) h fun σ lv st h =>
    so_aload_n E (i := 0) rfl dL_fails_74 h fun σ lv st h =>
    so_iload_n E (i := 1) rfl dL_fails_75 h fun σ lv st h =>
    so_iconst E (x := 1) dL_fails_76 h fun σ lv st h =>
    so_iconst E (x := 1) dL_fails_77 h fun σ lv st h =>
    so_callV E (n := 3) (pp := 23) (C := RX5) (T := TX5) (N := 5) (idx := 27) (maxL := 6) (ret := (some .int)) h_X5_setMost ⟨rfl, rfl, rfl⟩ rfl gL_fails_X5_setMost rfl ⟨rfl, rfl⟩ (by decide +kernel) (by decide) dL_fails_78 h fun σ lv st h =>
    so_ldc E (x := -2000001) (idx := 21) (v := -2000001) (List.mem_of_getElem? (i := 1) rfl) rfl dL_fails_81 h fun σ lv st h =>
    so_icmpne E 175 (by decide) dL_fails_83 (fun _ _ _ h => h) h fun σ lv st h =>
    so_aload_n E (i := 0) rfl dL_fails_86 h fun σ lv st h =>
    so_iconst E (x := 0) dL_fails_87 h fun σ lv st h =>
    so_iconst E (x := 1) dL_fails_88 h fun σ lv st h =>
    so_iconst E (x := 0) dL_fails_89 h fun σ lv st h =>
    so_callV E (n := 3) (pp := 23) (C := RX5) (T := TX5) (N := 5) (idx := 27) (maxL := 6) (ret := (some .int)) h_X5_setMost ⟨rfl, rfl, rfl⟩ rfl gL_fails_X5_setMost rfl ⟨rfl, rfl⟩ (by decide +kernel) (by decide) dL_fails_90 h fun σ lv st h =>
    so_ldc E (x := -2000001) (idx := 21) (v := -2000001) (List.mem_of_getElem? (i := 1) rfl) rfl dL_fails_93 h fun σ lv st h =>
    so_icmpne E 175 (by decide) dL_fails_95 (fun _ _ _ h => h) h fun σ lv st h =>
    so_aload_n E (i := 0) rfl dL_fails_98 h fun σ lv st h =>
    so_iconst E (x := 0) dL_fails_99 h fun σ lv st h =>
    so_iconst E (x := 1) dL_fails_100 h fun σ lv st h =>
    so_ldc E (x := 100001) (idx := 22) (v := 100001) (List.mem_of_getElem? (i := 2) rfl) rfl dL_fails_101 h fun σ lv st h =>
    so_callV E (n := 3) (pp := 23) (C := RX5) (T := TX5) (N := 5) (idx := 27) (maxL := 6) (ret := (some .int)) h_X5_setMost ⟨rfl, rfl, rfl⟩ rfl gL_fails_X5_setMost rfl ⟨rfl, rfl⟩ (by decide +kernel) (by decide) dL_fails_103 h fun σ lv st h =>
    so_ldc E (x := -2000001) (idx := 21) (v := -2000001) (List.mem_of_getElem? (i := 1) rfl) rfl dL_fails_106 h fun σ lv st h =>
    so_icmpne E 175 (by decide) dL_fails_108 (fun _ _ _ h => h) h fun σ lv st h =>
    so_aload_n E (i := 0) rfl dL_fails_111 h fun σ lv st h =>
    so_iload_n E (i := 1) rfl dL_fails_112 h fun σ lv st h =>
    so_iconst E (x := 0) dL_fails_113 h fun σ lv st h =>
    so_callV E (n := 2) (pp := 23) (C := RX5) (T := TX5) (N := 5) (idx := 31) (maxL := 3) (ret := (some .int)) h_X5_wheel ⟨rfl, rfl, rfl⟩ rfl gL_fails_X5_wheel rfl ⟨rfl, rfl⟩ (by decide +kernel) (by decide) dL_fails_114 h fun σ lv st h =>
    so_ldc E (x := -2000001) (idx := 21) (v := -2000001) (List.mem_of_getElem? (i := 1) rfl) rfl dL_fails_117 h fun σ lv st h =>
    so_icmpne E 175 (by decide) dL_fails_119 (fun _ _ _ h => h) h fun σ lv st h =>
    so_aload_n E (i := 0) rfl dL_fails_122 h fun σ lv st h =>
    so_iconst E (x := 0) dL_fails_123 h fun σ lv st h =>
    so_bipush E (x := 8) rfl dL_fails_124 h fun σ lv st h =>
    so_callV E (n := 2) (pp := 23) (C := RX5) (T := TX5) (N := 5) (idx := 31) (maxL := 3) (ret := (some .int)) h_X5_wheel ⟨rfl, rfl, rfl⟩ rfl gL_fails_X5_wheel rfl ⟨rfl, rfl⟩ (by decide +kernel) (by decide) dL_fails_126 h fun σ lv st h =>
    so_ldc E (x := -2000001) (idx := 21) (v := -2000001) (List.mem_of_getElem? (i := 1) rfl) rfl dL_fails_129 h fun σ lv st h =>
    so_icmpne E 175 (by decide) dL_fails_131 (fun _ _ _ h => h) h fun σ lv st h =>
    so_aload_n E (i := 0) rfl dL_fails_134 h fun σ lv st h =>
    so_iconst E (x := 3) dL_fails_135 h fun σ lv st h =>
    so_iconst E (x := 0) dL_fails_136 h fun σ lv st h =>
    so_iconst E (x := 1) dL_fails_137 h fun σ lv st h =>
    so_callV E (n := 3) (pp := 23) (C := RX5) (T := TX5) (N := 5) (idx := 35) (maxL := 5) (ret := (some .int)) h_X5_setAxis ⟨rfl, rfl, rfl⟩ rfl gL_fails_X5_setAxis rfl ⟨rfl, rfl⟩ (by decide +kernel) (by decide) dL_fails_138 h fun σ lv st h =>
    so_ldc E (x := -2000001) (idx := 21) (v := -2000001) (List.mem_of_getElem? (i := 1) rfl) rfl dL_fails_141 h fun σ lv st h =>
    so_icmpne E 175 (by decide) dL_fails_143 (fun _ _ _ h => h) h fun σ lv st h =>
    so_aload_n E (i := 0) rfl dL_fails_146 h fun σ lv st h =>
    so_iconst E (x := 0) dL_fails_147 h fun σ lv st h =>
    so_iconst E (x := 0) dL_fails_148 h fun σ lv st h =>
    so_iconst E (x := 0) dL_fails_149 h fun σ lv st h =>
    so_callV E (n := 3) (pp := 23) (C := RX5) (T := TX5) (N := 5) (idx := 35) (maxL := 5) (ret := (some .int)) h_X5_setAxis ⟨rfl, rfl, rfl⟩ rfl gL_fails_X5_setAxis rfl ⟨rfl, rfl⟩ (by decide +kernel) (by decide) dL_fails_150 h fun σ lv st h =>
    so_ldc E (x := -2000001) (idx := 21) (v := -2000001) (List.mem_of_getElem? (i := 1) rfl) rfl dL_fails_153 h fun σ lv st h =>
    so_icmpne E 175 (by decide) dL_fails_155 (fun _ _ _ h => h) h fun σ lv st h =>
    so_aload_n E (i := 0) rfl dL_fails_158 h fun σ lv st h =>
    so_iconst E (x := 0) dL_fails_159 h fun σ lv st h =>
    so_iconst E (x := 1) dL_fails_160 h fun σ lv st h =>
    so_ldc E (x := 1000001) (idx := 39) (v := 1000001) (List.mem_of_getElem? (i := 3) rfl) rfl dL_fails_161 h fun σ lv st h =>
    so_callV E (n := 3) (pp := 23) (C := RX5) (T := TX5) (N := 5) (idx := 35) (maxL := 5) (ret := (some .int)) h_X5_setAxis ⟨rfl, rfl, rfl⟩ rfl gL_fails_X5_setAxis rfl ⟨rfl, rfl⟩ (by decide +kernel) (by decide) dL_fails_163 h fun σ lv st h =>
    so_ldc E (x := -2000001) (idx := 21) (v := -2000001) (List.mem_of_getElem? (i := 1) rfl) rfl dL_fails_166 h fun σ lv st h =>
    so_icmpne E 175 (by decide) dL_fails_168 (fun _ _ _ h => h) h fun σ lv st h =>
    so_iconst E (x := 1) dL_fails_171 h fun σ lv st h =>
    so_goto E 176 (by decide) dL_fails_172 (fun _ _ _ h => h) h
set_option maxRecDepth 20000 in
theorem sb_L_fails_175 {J : Nat → q_K} {l : Launch} {Qp : Option q_V → q_M → Prop} (E : q_E J cL_fails RL wsL_fails 5 l rm_L_fails) (T : q_T J cL_fails (some .boolean) Qp) (h_X5_fingerprint : q_Ct yX5_fingerprint wsX5_fingerprint rm_X5_fingerprint S_X5_fingerprint) (h_X5_addWheel : q_Ct yX5_addWheel wsX5_addWheel rm_X5_addWheel S_X5_addWheel) (h_X5_fail : q_Ct yX5_fail wsX5_fail rm_X5_fail S_X5_fail) (h_X5_setMost : q_Ct yX5_setMost wsX5_setMost rm_X5_setMost S_X5_setMost) (h_X5_wheel : q_Ct yX5_wheel wsX5_wheel rm_X5_wheel S_X5_wheel) (h_X5_setAxis : q_Ct yX5_setAxis wsX5_setAxis rm_X5_setAxis S_X5_setAxis) (h_X5_set : q_Ct yX5_set wsX5_set rm_X5_set S_X5_set) (h_X5_setting : q_Ct yX5_setting wsX5_setting rm_X5_setting S_X5_setting) (h_X5_strike : q_Ct yX5_strike wsX5_strike rm_X5_strike S_X5_strike) (h_X5_tick : q_Ct yX5_tick wsX5_tick rm_X5_tick S_X5_tick) (h_X5_axis : q_Ct yX5_axis wsX5_axis rm_X5_axis S_X5_axis) (h_X5_wish : q_Ct yX5_wish wsX5_wish rm_X5_wish S_X5_wish) (h_X5_why : q_Ct yX5_why wsX5_why rm_X5_why S_X5_why) (h_X5_arrives : q_Ct yX5_arrives wsX5_arrives rm_X5_arrives S_X5_arrives) (h_X5_gravest : q_Ct yX5_gravest wsX5_gravest rm_X5_gravest S_X5_gravest) : ∀ (σ : q_M) (lv : q_L) (st : q_S), k_L_fails_175 Qp J σ lv st → J 175 σ lv st := fun σ lv st h =>
    so_iconst E (x := 0) dL_fails_175 h fun σ lv st h =>
    h
set_option maxRecDepth 20000 in
theorem sb_L_fails_176 {J : Nat → q_K} {l : Launch} {Qp : Option q_V → q_M → Prop} (E : q_E J cL_fails RL wsL_fails 5 l rm_L_fails) (T : q_T J cL_fails (some .boolean) Qp) (h_X5_fingerprint : q_Ct yX5_fingerprint wsX5_fingerprint rm_X5_fingerprint S_X5_fingerprint) (h_X5_addWheel : q_Ct yX5_addWheel wsX5_addWheel rm_X5_addWheel S_X5_addWheel) (h_X5_fail : q_Ct yX5_fail wsX5_fail rm_X5_fail S_X5_fail) (h_X5_setMost : q_Ct yX5_setMost wsX5_setMost rm_X5_setMost S_X5_setMost) (h_X5_wheel : q_Ct yX5_wheel wsX5_wheel rm_X5_wheel S_X5_wheel) (h_X5_setAxis : q_Ct yX5_setAxis wsX5_setAxis rm_X5_setAxis S_X5_setAxis) (h_X5_set : q_Ct yX5_set wsX5_set rm_X5_set S_X5_set) (h_X5_setting : q_Ct yX5_setting wsX5_setting rm_X5_setting S_X5_setting) (h_X5_strike : q_Ct yX5_strike wsX5_strike rm_X5_strike S_X5_strike) (h_X5_tick : q_Ct yX5_tick wsX5_tick rm_X5_tick S_X5_tick) (h_X5_axis : q_Ct yX5_axis wsX5_axis rm_X5_axis S_X5_axis) (h_X5_wish : q_Ct yX5_wish wsX5_wish rm_X5_wish S_X5_wish) (h_X5_why : q_Ct yX5_why wsX5_why rm_X5_why S_X5_why) (h_X5_arrives : q_Ct yX5_arrives wsX5_arrives rm_X5_arrives S_X5_arrives) (h_X5_gravest : q_Ct yX5_gravest wsX5_gravest rm_X5_gravest S_X5_gravest) : ∀ (σ : q_M) (lv : q_L) (st : q_S), k_L_fails_176 Qp J σ lv st → J 176 σ lv st := fun σ lv st h =>
    so_istore E (i := 4) (by decide) dL_fails_176 h fun σ lv st h =>
    so_iload E (i := 4) dL_fails_178 h fun σ lv st h =>
    so_ifeq E 372 (by decide) dL_fails_180 (fun _ _ _ h => h) h fun σ lv st h =>
    so_aload_n E (i := 0) rfl dL_fails_183 h fun σ lv st h =>
    so_iconst E (x := 0) dL_fails_184 h fun σ lv st h =>
    so_iconst E (x := 2) dL_fails_185 h fun σ lv st h =>
    so_bipush E (x := 101) rfl dL_fails_186 h fun σ lv st h =>
    so_callV E (n := 3) (pp := 23) (C := RX5) (T := TX5) (N := 5) (idx := 35) (maxL := 5) (ret := (some .int)) h_X5_setAxis ⟨rfl, rfl, rfl⟩ rfl gL_fails_X5_setAxis rfl ⟨rfl, rfl⟩ (by decide +kernel) (by decide) dL_fails_188 h fun σ lv st h =>
    so_ldc E (x := -2000001) (idx := 21) (v := -2000001) (List.mem_of_getElem? (i := 1) rfl) rfl dL_fails_191 h fun σ lv st h =>
    so_icmpne E 372 (by decide) dL_fails_193 (fun _ _ _ h => h) h fun σ lv st h =>
    so_aload_n E (i := 0) rfl dL_fails_196 h fun σ lv st h =>
    so_iconst E (x := 0) dL_fails_197 h fun σ lv st h =>
    so_iconst E (x := 3) dL_fails_198 h fun σ lv st h =>
    so_sipush E (x := -1001) rfl dL_fails_199 h fun σ lv st h =>
    so_callV E (n := 3) (pp := 23) (C := RX5) (T := TX5) (N := 5) (idx := 35) (maxL := 5) (ret := (some .int)) h_X5_setAxis ⟨rfl, rfl, rfl⟩ rfl gL_fails_X5_setAxis rfl ⟨rfl, rfl⟩ (by decide +kernel) (by decide) dL_fails_202 h fun σ lv st h =>
    so_ldc E (x := -2000001) (idx := 21) (v := -2000001) (List.mem_of_getElem? (i := 1) rfl) rfl dL_fails_205 h fun σ lv st h =>
    so_icmpne E 372 (by decide) dL_fails_207 (fun _ _ _ h => h) h fun σ lv st h =>
    so_aload_n E (i := 0) rfl dL_fails_210 h fun σ lv st h =>
    so_iconst E (x := 0) dL_fails_211 h fun σ lv st h =>
    so_iconst E (x := 4) dL_fails_212 h fun σ lv st h =>
    so_iconst E (x := 1) dL_fails_213 h fun σ lv st h =>
    so_callV E (n := 3) (pp := 23) (C := RX5) (T := TX5) (N := 5) (idx := 35) (maxL := 5) (ret := (some .int)) h_X5_setAxis ⟨rfl, rfl, rfl⟩ rfl gL_fails_X5_setAxis rfl ⟨rfl, rfl⟩ (by decide +kernel) (by decide) dL_fails_214 h fun σ lv st h =>
    so_ldc E (x := -2000001) (idx := 21) (v := -2000001) (List.mem_of_getElem? (i := 1) rfl) rfl dL_fails_217 h fun σ lv st h =>
    so_icmpne E 372 (by decide) dL_fails_219 (fun _ _ _ h => h) h fun σ lv st h =>
    so_aload_n E (i := 0) rfl dL_fails_222 h fun σ lv st h =>
    so_iconst E (x := 5) dL_fails_223 h fun σ lv st h =>
    so_iconst E (x := 1) dL_fails_224 h fun σ lv st h =>
    so_callV E (n := 2) (pp := 23) (C := RX5) (T := TX5) (N := 5) (idx := 40) (maxL := 4) (ret := (some .int)) h_X5_set ⟨rfl, rfl, rfl⟩ rfl gL_fails_X5_set rfl ⟨rfl, rfl⟩ (by decide +kernel) (by decide) dL_fails_225 h fun σ lv st h =>
    so_ldc E (x := -2000001) (idx := 21) (v := -2000001) (List.mem_of_getElem? (i := 1) rfl) rfl dL_fails_228 h fun σ lv st h =>
    so_icmpne E 372 (by decide) dL_fails_230 (fun _ _ _ h => h) h fun σ lv st h =>
    so_aload_n E (i := 0) rfl dL_fails_233 h fun σ lv st h =>
    so_iconst E (x := 0) dL_fails_234 h fun σ lv st h =>
    so_sipush E (x := 1001) rfl dL_fails_235 h fun σ lv st h =>
    so_callV E (n := 2) (pp := 23) (C := RX5) (T := TX5) (N := 5) (idx := 40) (maxL := 4) (ret := (some .int)) h_X5_set ⟨rfl, rfl, rfl⟩ rfl gL_fails_X5_set rfl ⟨rfl, rfl⟩ (by decide +kernel) (by decide) dL_fails_238 h fun σ lv st h =>
    so_ldc E (x := -2000001) (idx := 21) (v := -2000001) (List.mem_of_getElem? (i := 1) rfl) rfl dL_fails_241 h fun σ lv st h =>
    so_icmpne E 372 (by decide) dL_fails_243 (fun _ _ _ h => h) h fun σ lv st h =>
    so_aload_n E (i := 0) rfl dL_fails_246 h fun σ lv st h =>
    so_iconst E (x := 2) dL_fails_247 h fun σ lv st h =>
    so_iconst E (x := 0) dL_fails_248 h fun σ lv st h =>
    so_callV E (n := 2) (pp := 23) (C := RX5) (T := TX5) (N := 5) (idx := 40) (maxL := 4) (ret := (some .int)) h_X5_set ⟨rfl, rfl, rfl⟩ rfl gL_fails_X5_set rfl ⟨rfl, rfl⟩ (by decide +kernel) (by decide) dL_fails_249 h fun σ lv st h =>
    so_ldc E (x := -2000001) (idx := 21) (v := -2000001) (List.mem_of_getElem? (i := 1) rfl) rfl dL_fails_252 h fun σ lv st h =>
    so_icmpne E 372 (by decide) dL_fails_254 (fun _ _ _ h => h) h fun σ lv st h =>
    so_aload_n E (i := 0) rfl dL_fails_257 h fun σ lv st h =>
    so_iconst E (x := 3) dL_fails_258 h fun σ lv st h =>
    so_ldc E (x := 100001) (idx := 22) (v := 100001) (List.mem_of_getElem? (i := 2) rfl) rfl dL_fails_259 h fun σ lv st h =>
    so_callV E (n := 2) (pp := 23) (C := RX5) (T := TX5) (N := 5) (idx := 40) (maxL := 4) (ret := (some .int)) h_X5_set ⟨rfl, rfl, rfl⟩ rfl gL_fails_X5_set rfl ⟨rfl, rfl⟩ (by decide +kernel) (by decide) dL_fails_261 h fun σ lv st h =>
    so_ldc E (x := -2000001) (idx := 21) (v := -2000001) (List.mem_of_getElem? (i := 1) rfl) rfl dL_fails_264 h fun σ lv st h =>
    so_icmpne E 372 (by decide) dL_fails_266 (fun _ _ _ h => h) h fun σ lv st h =>
    so_aload_n E (i := 0) rfl dL_fails_269 h fun σ lv st h =>
    so_iconst E (x := 4) dL_fails_270 h fun σ lv st h =>
    so_sipush E (x := 10001) rfl dL_fails_271 h fun σ lv st h =>
    so_callV E (n := 2) (pp := 23) (C := RX5) (T := TX5) (N := 5) (idx := 40) (maxL := 4) (ret := (some .int)) h_X5_set ⟨rfl, rfl, rfl⟩ rfl gL_fails_X5_set rfl ⟨rfl, rfl⟩ (by decide +kernel) (by decide) dL_fails_274 h fun σ lv st h =>
    so_ldc E (x := -2000001) (idx := 21) (v := -2000001) (List.mem_of_getElem? (i := 1) rfl) rfl dL_fails_277 h fun σ lv st h =>
    so_icmpne E 372 (by decide) dL_fails_279 (fun _ _ _ h => h) h fun σ lv st h =>
    so_aload_n E (i := 0) rfl dL_fails_282 h fun σ lv st h =>
    so_iconst E (x := 5) dL_fails_283 h fun σ lv st h =>
    so_callV E (n := 1) (pp := 23) (C := RX5) (T := TX5) (N := 5) (idx := 43) (maxL := 2) (ret := (some .int)) h_X5_setting ⟨rfl, rfl, rfl⟩ rfl gL_fails_X5_setting rfl ⟨rfl, rfl⟩ (by decide +kernel) (by decide) dL_fails_284 h fun σ lv st h =>
    so_ldc E (x := -2000001) (idx := 21) (v := -2000001) (List.mem_of_getElem? (i := 1) rfl) rfl dL_fails_287 h fun σ lv st h =>
    so_icmpne E 372 (by decide) dL_fails_289 (fun _ _ _ h => h) h fun σ lv st h =>
    so_aload_n E (i := 0) rfl dL_fails_292 h fun σ lv st h =>
    so_iconst E (x := 3) dL_fails_293 h fun σ lv st h =>
    so_iconst E (x := 0) dL_fails_294 h fun σ lv st h =>
    so_callV E (n := 2) (pp := 23) (C := RX5) (T := TX5) (N := 5) (idx := 47) (maxL := 3) (ret := (some .long)) h_X5_strike ⟨rfl, rfl, rfl⟩ rfl gL_fails_X5_strike rfl ⟨rfl, rfl⟩ (by decide +kernel) (by decide) dL_fails_295 h fun σ lv st h =>
    so_ldc2 E (x := -4611686018427387905) (idx := 51) (v := -4611686018427387905) (List.mem_of_getElem? (i := 4) rfl) rfl dL_fails_298 h fun σ lv st h =>
    so_lcmp E dL_fails_301 h fun σ lv st h =>
    so_ifne E 372 (by decide) dL_fails_302 (fun _ _ _ h => h) h fun σ lv st h =>
    so_aload_n E (i := 0) rfl dL_fails_305 h fun σ lv st h =>
    so_iconst E (x := 0) dL_fails_306 h fun σ lv st h =>
    so_ldc E (x := 100001) (idx := 22) (v := 100001) (List.mem_of_getElem? (i := 2) rfl) rfl dL_fails_307 h fun σ lv st h =>
    so_callV E (n := 2) (pp := 23) (C := RX5) (T := TX5) (N := 5) (idx := 47) (maxL := 3) (ret := (some .long)) h_X5_strike ⟨rfl, rfl, rfl⟩ rfl gL_fails_X5_strike rfl ⟨rfl, rfl⟩ (by decide +kernel) (by decide) dL_fails_309 h fun σ lv st h =>
    so_ldc2 E (x := -4611686018427387905) (idx := 51) (v := -4611686018427387905) (List.mem_of_getElem? (i := 4) rfl) rfl dL_fails_312 h fun σ lv st h =>
    so_lcmp E dL_fails_315 h fun σ lv st h =>
    so_ifne E 372 (by decide) dL_fails_316 (fun _ _ _ h => h) h fun σ lv st h =>
    so_aload_n E (i := 0) rfl dL_fails_319 h fun σ lv st h =>
    so_iconst E (x := 0) dL_fails_320 h fun σ lv st h =>
    so_callV E (n := 1) (pp := 23) (C := RX5) (T := TX5) (N := 5) (idx := 53) (maxL := 4) (ret := (some .int)) h_X5_tick ⟨rfl, rfl, rfl⟩ rfl gL_fails_X5_tick rfl ⟨rfl, rfl⟩ (by decide +kernel) (by decide) dL_fails_321 h fun σ lv st h =>
    so_ldc E (x := -2000001) (idx := 21) (v := -2000001) (List.mem_of_getElem? (i := 1) rfl) rfl dL_fails_324 h fun σ lv st h =>
    so_icmpne E 372 (by decide) dL_fails_326 (fun _ _ _ h => h) h fun σ lv st h =>
    so_aload_n E (i := 0) rfl dL_fails_329 h fun σ lv st h =>
    so_sipush E (x := 201) rfl dL_fails_330 h fun σ lv st h =>
    so_callV E (n := 1) (pp := 23) (C := RX5) (T := TX5) (N := 5) (idx := 53) (maxL := 4) (ret := (some .int)) h_X5_tick ⟨rfl, rfl, rfl⟩ rfl gL_fails_X5_tick rfl ⟨rfl, rfl⟩ (by decide +kernel) (by decide) dL_fails_333 h fun σ lv st h =>
    so_ldc E (x := -2000001) (idx := 21) (v := -2000001) (List.mem_of_getElem? (i := 1) rfl) rfl dL_fails_336 h fun σ lv st h =>
    so_icmpne E 372 (by decide) dL_fails_338 (fun _ _ _ h => h) h fun σ lv st h =>
    so_aload_n E (i := 0) rfl dL_fails_341 h fun σ lv st h =>
    so_iconst E (x := 3) dL_fails_342 h fun σ lv st h =>
    so_iconst E (x := 0) dL_fails_343 h fun σ lv st h =>
    so_callV E (n := 2) (pp := 23) (C := RX5) (T := TX5) (N := 5) (idx := 56) (maxL := 3) (ret := (some .long)) h_X5_axis ⟨rfl, rfl, rfl⟩ rfl gL_fails_X5_axis rfl ⟨rfl, rfl⟩ (by decide +kernel) (by decide) dL_fails_344 h fun σ lv st h =>
    so_ldc2 E (x := -4611686018427387905) (idx := 51) (v := -4611686018427387905) (List.mem_of_getElem? (i := 4) rfl) rfl dL_fails_347 h fun σ lv st h =>
    so_lcmp E dL_fails_350 h fun σ lv st h =>
    so_ifne E 372 (by decide) dL_fails_351 (fun _ _ _ h => h) h fun σ lv st h =>
    so_aload_n E (i := 0) rfl dL_fails_354 h fun σ lv st h =>
    so_iconst E (x := 0) dL_fails_355 h fun σ lv st h =>
    so_bipush E (x := 10) rfl dL_fails_356 h fun σ lv st h =>
    so_callV E (n := 2) (pp := 23) (C := RX5) (T := TX5) (N := 5) (idx := 56) (maxL := 3) (ret := (some .long)) h_X5_axis ⟨rfl, rfl, rfl⟩ rfl gL_fails_X5_axis rfl ⟨rfl, rfl⟩ (by decide +kernel) (by decide) dL_fails_358 h fun σ lv st h =>
    so_ldc2 E (x := -4611686018427387905) (idx := 51) (v := -4611686018427387905) (List.mem_of_getElem? (i := 4) rfl) rfl dL_fails_361 h fun σ lv st h =>
    so_lcmp E dL_fails_364 h fun σ lv st h =>
    so_ifne E 372 (by decide) dL_fails_365 (fun _ _ _ h => h) h fun σ lv st h =>
    so_iconst E (x := 1) dL_fails_368 h fun σ lv st h =>
    so_goto E 373 (by decide) dL_fails_369 (fun _ _ _ h => h) h
set_option maxRecDepth 20000 in
theorem sb_L_fails_372 {J : Nat → q_K} {l : Launch} {Qp : Option q_V → q_M → Prop} (E : q_E J cL_fails RL wsL_fails 5 l rm_L_fails) (T : q_T J cL_fails (some .boolean) Qp) (h_X5_fingerprint : q_Ct yX5_fingerprint wsX5_fingerprint rm_X5_fingerprint S_X5_fingerprint) (h_X5_addWheel : q_Ct yX5_addWheel wsX5_addWheel rm_X5_addWheel S_X5_addWheel) (h_X5_fail : q_Ct yX5_fail wsX5_fail rm_X5_fail S_X5_fail) (h_X5_setMost : q_Ct yX5_setMost wsX5_setMost rm_X5_setMost S_X5_setMost) (h_X5_wheel : q_Ct yX5_wheel wsX5_wheel rm_X5_wheel S_X5_wheel) (h_X5_setAxis : q_Ct yX5_setAxis wsX5_setAxis rm_X5_setAxis S_X5_setAxis) (h_X5_set : q_Ct yX5_set wsX5_set rm_X5_set S_X5_set) (h_X5_setting : q_Ct yX5_setting wsX5_setting rm_X5_setting S_X5_setting) (h_X5_strike : q_Ct yX5_strike wsX5_strike rm_X5_strike S_X5_strike) (h_X5_tick : q_Ct yX5_tick wsX5_tick rm_X5_tick S_X5_tick) (h_X5_axis : q_Ct yX5_axis wsX5_axis rm_X5_axis S_X5_axis) (h_X5_wish : q_Ct yX5_wish wsX5_wish rm_X5_wish S_X5_wish) (h_X5_why : q_Ct yX5_why wsX5_why rm_X5_why S_X5_why) (h_X5_arrives : q_Ct yX5_arrives wsX5_arrives rm_X5_arrives S_X5_arrives) (h_X5_gravest : q_Ct yX5_gravest wsX5_gravest rm_X5_gravest S_X5_gravest) : ∀ (σ : q_M) (lv : q_L) (st : q_S), k_L_fails_372 Qp J σ lv st → J 372 σ lv st := fun σ lv st h =>
    so_iconst E (x := 0) dL_fails_372 h fun σ lv st h =>
    h
set_option maxRecDepth 20000 in
theorem sb_L_fails_373 {J : Nat → q_K} {l : Launch} {Qp : Option q_V → q_M → Prop} (E : q_E J cL_fails RL wsL_fails 5 l rm_L_fails) (T : q_T J cL_fails (some .boolean) Qp) (h_X5_fingerprint : q_Ct yX5_fingerprint wsX5_fingerprint rm_X5_fingerprint S_X5_fingerprint) (h_X5_addWheel : q_Ct yX5_addWheel wsX5_addWheel rm_X5_addWheel S_X5_addWheel) (h_X5_fail : q_Ct yX5_fail wsX5_fail rm_X5_fail S_X5_fail) (h_X5_setMost : q_Ct yX5_setMost wsX5_setMost rm_X5_setMost S_X5_setMost) (h_X5_wheel : q_Ct yX5_wheel wsX5_wheel rm_X5_wheel S_X5_wheel) (h_X5_setAxis : q_Ct yX5_setAxis wsX5_setAxis rm_X5_setAxis S_X5_setAxis) (h_X5_set : q_Ct yX5_set wsX5_set rm_X5_set S_X5_set) (h_X5_setting : q_Ct yX5_setting wsX5_setting rm_X5_setting S_X5_setting) (h_X5_strike : q_Ct yX5_strike wsX5_strike rm_X5_strike S_X5_strike) (h_X5_tick : q_Ct yX5_tick wsX5_tick rm_X5_tick S_X5_tick) (h_X5_axis : q_Ct yX5_axis wsX5_axis rm_X5_axis S_X5_axis) (h_X5_wish : q_Ct yX5_wish wsX5_wish rm_X5_wish S_X5_wish) (h_X5_why : q_Ct yX5_why wsX5_why rm_X5_why S_X5_why) (h_X5_arrives : q_Ct yX5_arrives wsX5_arrives rm_X5_arrives S_X5_arrives) (h_X5_gravest : q_Ct yX5_gravest wsX5_gravest rm_X5_gravest S_X5_gravest) : ∀ (σ : q_M) (lv : q_L) (st : q_S), k_L_fails_373 Qp J σ lv st → J 373 σ lv st := fun σ lv st h =>
    so_istore E (i := 4) (by decide) dL_fails_373 h fun σ lv st h =>
    so_iload E (i := 4) dL_fails_375 h fun σ lv st h =>
    so_ifeq E 466 (by decide) dL_fails_377 (fun _ _ _ h => h) h fun σ lv st h =>
    so_aload_n E (i := 0) rfl dL_fails_380 h fun σ lv st h =>
    so_iload_n E (i := 1) rfl dL_fails_381 h fun σ lv st h =>
    so_iconst E (x := 0) dL_fails_382 h fun σ lv st h =>
    so_iconst E (x := 0) dL_fails_383 h fun σ lv st h =>
    so_iconst E (x := 0) dL_fails_384 h fun σ lv st h =>
    so_callV E (n := 4) (pp := 23) (C := RX5) (T := TX5) (N := 5) (idx := 59) (maxL := 6) (ret := (some .long)) h_X5_wish ⟨rfl, rfl, rfl⟩ rfl gL_fails_X5_wish rfl ⟨rfl, rfl⟩ (by decide +kernel) (by decide) dL_fails_385 h fun σ lv st h =>
    so_ldc2 E (x := -4611686018427387905) (idx := 51) (v := -4611686018427387905) (List.mem_of_getElem? (i := 4) rfl) rfl dL_fails_388 h fun σ lv st h =>
    so_lcmp E dL_fails_391 h fun σ lv st h =>
    so_ifne E 466 (by decide) dL_fails_392 (fun _ _ _ h => h) h fun σ lv st h =>
    so_aload_n E (i := 0) rfl dL_fails_395 h fun σ lv st h =>
    so_iconst E (x := 0) dL_fails_396 h fun σ lv st h =>
    so_ldc E (x := 100001) (idx := 22) (v := 100001) (List.mem_of_getElem? (i := 2) rfl) rfl dL_fails_397 h fun σ lv st h =>
    so_iconst E (x := 0) dL_fails_399 h fun σ lv st h =>
    so_iconst E (x := 0) dL_fails_400 h fun σ lv st h =>
    so_callV E (n := 4) (pp := 23) (C := RX5) (T := TX5) (N := 5) (idx := 59) (maxL := 6) (ret := (some .long)) h_X5_wish ⟨rfl, rfl, rfl⟩ rfl gL_fails_X5_wish rfl ⟨rfl, rfl⟩ (by decide +kernel) (by decide) dL_fails_401 h fun σ lv st h =>
    so_ldc2 E (x := -4611686018427387905) (idx := 51) (v := -4611686018427387905) (List.mem_of_getElem? (i := 4) rfl) rfl dL_fails_404 h fun σ lv st h =>
    so_lcmp E dL_fails_407 h fun σ lv st h =>
    so_ifne E 466 (by decide) dL_fails_408 (fun _ _ _ h => h) h fun σ lv st h =>
    so_aload_n E (i := 0) rfl dL_fails_411 h fun σ lv st h =>
    so_iconst E (x := -1) dL_fails_412 h fun σ lv st h =>
    so_callV E (n := 1) (pp := 23) (C := RX5) (T := TX5) (N := 5) (idx := 63) (maxL := 2) (ret := (some .int)) h_X5_why ⟨rfl, rfl, rfl⟩ rfl gL_fails_X5_why rfl ⟨rfl, rfl⟩ (by decide +kernel) (by decide) dL_fails_413 h fun σ lv st h =>
    so_ldc E (x := -2000001) (idx := 21) (v := -2000001) (List.mem_of_getElem? (i := 1) rfl) rfl dL_fails_416 h fun σ lv st h =>
    so_icmpne E 466 (by decide) dL_fails_418 (fun _ _ _ h => h) h fun σ lv st h =>
    so_aload_n E (i := 0) rfl dL_fails_421 h fun σ lv st h =>
    so_iconst E (x := 3) dL_fails_422 h fun σ lv st h =>
    so_callV E (n := 1) (pp := 23) (C := RX5) (T := TX5) (N := 5) (idx := 63) (maxL := 2) (ret := (some .int)) h_X5_why ⟨rfl, rfl, rfl⟩ rfl gL_fails_X5_why rfl ⟨rfl, rfl⟩ (by decide +kernel) (by decide) dL_fails_423 h fun σ lv st h =>
    so_ldc E (x := -2000009) (idx := 66) (v := -2000009) (List.mem_of_getElem? (i := 5) rfl) rfl dL_fails_426 h fun σ lv st h =>
    so_icmpne E 466 (by decide) dL_fails_428 (fun _ _ _ h => h) h fun σ lv st h =>
    so_aload_n E (i := 0) rfl dL_fails_431 h fun σ lv st h =>
    so_iconst E (x := -1) dL_fails_432 h fun σ lv st h =>
    so_callV E (n := 1) (pp := 23) (C := RX5) (T := TX5) (N := 5) (idx := 67) (maxL := 3) (ret := (some .int)) h_X5_arrives ⟨rfl, rfl, rfl⟩ rfl gL_fails_X5_arrives rfl ⟨rfl, rfl⟩ (by decide +kernel) (by decide) dL_fails_433 h fun σ lv st h =>
    so_ldc E (x := -2000001) (idx := 21) (v := -2000001) (List.mem_of_getElem? (i := 1) rfl) rfl dL_fails_436 h fun σ lv st h =>
    so_icmpne E 466 (by decide) dL_fails_438 (fun _ _ _ h => h) h fun σ lv st h =>
    so_aload_n E (i := 0) rfl dL_fails_441 h fun σ lv st h =>
    so_iconst E (x := 0) dL_fails_442 h fun σ lv st h =>
    so_callV E (n := 1) (pp := 23) (C := RX5) (T := TX5) (N := 5) (idx := 70) (maxL := 8) (ret := (some .int)) h_X5_gravest ⟨rfl, rfl, rfl⟩ rfl gL_fails_X5_gravest rfl ⟨rfl, rfl⟩ (by decide +kernel) (by decide) dL_fails_443 h fun σ lv st h =>
    so_ldc E (x := -2000001) (idx := 21) (v := -2000001) (List.mem_of_getElem? (i := 1) rfl) rfl dL_fails_446 h fun σ lv st h =>
    so_icmpne E 466 (by decide) dL_fails_448 (fun _ _ _ h => h) h fun σ lv st h =>
    so_aload_n E (i := 0) rfl dL_fails_451 h fun σ lv st h =>
    so_bipush E (x := 101) rfl dL_fails_452 h fun σ lv st h =>
    so_callV E (n := 1) (pp := 23) (C := RX5) (T := TX5) (N := 5) (idx := 70) (maxL := 8) (ret := (some .int)) h_X5_gravest ⟨rfl, rfl, rfl⟩ rfl gL_fails_X5_gravest rfl ⟨rfl, rfl⟩ (by decide +kernel) (by decide) dL_fails_454 h fun σ lv st h =>
    so_ldc E (x := -2000001) (idx := 21) (v := -2000001) (List.mem_of_getElem? (i := 1) rfl) rfl dL_fails_457 h fun σ lv st h =>
    so_icmpne E 466 (by decide) dL_fails_459 (fun _ _ _ h => h) h fun σ lv st h =>
    so_iconst E (x := 1) dL_fails_462 h fun σ lv st h =>
    so_goto E 467 (by decide) dL_fails_463 (fun _ _ _ h => h) h
set_option maxRecDepth 20000 in
theorem sb_L_fails_466 {J : Nat → q_K} {l : Launch} {Qp : Option q_V → q_M → Prop} (E : q_E J cL_fails RL wsL_fails 5 l rm_L_fails) (T : q_T J cL_fails (some .boolean) Qp) (h_X5_fingerprint : q_Ct yX5_fingerprint wsX5_fingerprint rm_X5_fingerprint S_X5_fingerprint) (h_X5_addWheel : q_Ct yX5_addWheel wsX5_addWheel rm_X5_addWheel S_X5_addWheel) (h_X5_fail : q_Ct yX5_fail wsX5_fail rm_X5_fail S_X5_fail) (h_X5_setMost : q_Ct yX5_setMost wsX5_setMost rm_X5_setMost S_X5_setMost) (h_X5_wheel : q_Ct yX5_wheel wsX5_wheel rm_X5_wheel S_X5_wheel) (h_X5_setAxis : q_Ct yX5_setAxis wsX5_setAxis rm_X5_setAxis S_X5_setAxis) (h_X5_set : q_Ct yX5_set wsX5_set rm_X5_set S_X5_set) (h_X5_setting : q_Ct yX5_setting wsX5_setting rm_X5_setting S_X5_setting) (h_X5_strike : q_Ct yX5_strike wsX5_strike rm_X5_strike S_X5_strike) (h_X5_tick : q_Ct yX5_tick wsX5_tick rm_X5_tick S_X5_tick) (h_X5_axis : q_Ct yX5_axis wsX5_axis rm_X5_axis S_X5_axis) (h_X5_wish : q_Ct yX5_wish wsX5_wish rm_X5_wish S_X5_wish) (h_X5_why : q_Ct yX5_why wsX5_why rm_X5_why S_X5_why) (h_X5_arrives : q_Ct yX5_arrives wsX5_arrives rm_X5_arrives S_X5_arrives) (h_X5_gravest : q_Ct yX5_gravest wsX5_gravest rm_X5_gravest S_X5_gravest) : ∀ (σ : q_M) (lv : q_L) (st : q_S), k_L_fails_466 Qp J σ lv st → J 466 σ lv st := fun σ lv st h =>
    so_iconst E (x := 0) dL_fails_466 h fun σ lv st h =>
    h
set_option maxRecDepth 20000 in
theorem sb_L_fails_467 {J : Nat → q_K} {l : Launch} {Qp : Option q_V → q_M → Prop} (E : q_E J cL_fails RL wsL_fails 5 l rm_L_fails) (T : q_T J cL_fails (some .boolean) Qp) (h_X5_fingerprint : q_Ct yX5_fingerprint wsX5_fingerprint rm_X5_fingerprint S_X5_fingerprint) (h_X5_addWheel : q_Ct yX5_addWheel wsX5_addWheel rm_X5_addWheel S_X5_addWheel) (h_X5_fail : q_Ct yX5_fail wsX5_fail rm_X5_fail S_X5_fail) (h_X5_setMost : q_Ct yX5_setMost wsX5_setMost rm_X5_setMost S_X5_setMost) (h_X5_wheel : q_Ct yX5_wheel wsX5_wheel rm_X5_wheel S_X5_wheel) (h_X5_setAxis : q_Ct yX5_setAxis wsX5_setAxis rm_X5_setAxis S_X5_setAxis) (h_X5_set : q_Ct yX5_set wsX5_set rm_X5_set S_X5_set) (h_X5_setting : q_Ct yX5_setting wsX5_setting rm_X5_setting S_X5_setting) (h_X5_strike : q_Ct yX5_strike wsX5_strike rm_X5_strike S_X5_strike) (h_X5_tick : q_Ct yX5_tick wsX5_tick rm_X5_tick S_X5_tick) (h_X5_axis : q_Ct yX5_axis wsX5_axis rm_X5_axis S_X5_axis) (h_X5_wish : q_Ct yX5_wish wsX5_wish rm_X5_wish S_X5_wish) (h_X5_why : q_Ct yX5_why wsX5_why rm_X5_why S_X5_why) (h_X5_arrives : q_Ct yX5_arrives wsX5_arrives rm_X5_arrives S_X5_arrives) (h_X5_gravest : q_Ct yX5_gravest wsX5_gravest rm_X5_gravest S_X5_gravest) : ∀ (σ : q_M) (lv : q_L) (st : q_S), k_L_fails_467 Qp J σ lv st → J 467 σ lv st := fun σ lv st h =>
    so_istore E (i := 4) (by decide) dL_fails_467 h fun σ lv st h =>
    so_iload E (i := 4) dL_fails_469 h fun σ lv st h =>
    so_ifeq E 487 (by decide) dL_fails_471 (fun _ _ _ h => h) h fun σ lv st h =>
    so_aload_n E (i := 0) rfl dL_fails_474 h fun σ lv st h =>
    so_callV E (n := 0) (pp := 23) (C := RX5) (T := TX5) (N := 5) (idx := 9) (maxL := 5) (ret := (some .long)) h_X5_fingerprint ⟨rfl, rfl, rfl⟩ rfl gL_fails_X5_fingerprint rfl ⟨rfl, rfl⟩ (by decide +kernel) (by decide) dL_fails_475 h fun σ lv st h =>
    so_lload_n E (i := 2) rfl dL_fails_478 h fun σ lv st h =>
    so_lcmp E dL_fails_479 h fun σ lv st h =>
    so_ifne E 487 (by decide) dL_fails_480 (fun _ _ _ h => h) h fun σ lv st h =>
    so_iconst E (x := 1) dL_fails_483 h fun σ lv st h =>
    so_goto E 488 (by decide) dL_fails_484 (fun _ _ _ h => h) h
set_option maxRecDepth 20000 in
theorem sb_L_fails_487 {J : Nat → q_K} {l : Launch} {Qp : Option q_V → q_M → Prop} (E : q_E J cL_fails RL wsL_fails 5 l rm_L_fails) (T : q_T J cL_fails (some .boolean) Qp) (h_X5_fingerprint : q_Ct yX5_fingerprint wsX5_fingerprint rm_X5_fingerprint S_X5_fingerprint) (h_X5_addWheel : q_Ct yX5_addWheel wsX5_addWheel rm_X5_addWheel S_X5_addWheel) (h_X5_fail : q_Ct yX5_fail wsX5_fail rm_X5_fail S_X5_fail) (h_X5_setMost : q_Ct yX5_setMost wsX5_setMost rm_X5_setMost S_X5_setMost) (h_X5_wheel : q_Ct yX5_wheel wsX5_wheel rm_X5_wheel S_X5_wheel) (h_X5_setAxis : q_Ct yX5_setAxis wsX5_setAxis rm_X5_setAxis S_X5_setAxis) (h_X5_set : q_Ct yX5_set wsX5_set rm_X5_set S_X5_set) (h_X5_setting : q_Ct yX5_setting wsX5_setting rm_X5_setting S_X5_setting) (h_X5_strike : q_Ct yX5_strike wsX5_strike rm_X5_strike S_X5_strike) (h_X5_tick : q_Ct yX5_tick wsX5_tick rm_X5_tick S_X5_tick) (h_X5_axis : q_Ct yX5_axis wsX5_axis rm_X5_axis S_X5_axis) (h_X5_wish : q_Ct yX5_wish wsX5_wish rm_X5_wish S_X5_wish) (h_X5_why : q_Ct yX5_why wsX5_why rm_X5_why S_X5_why) (h_X5_arrives : q_Ct yX5_arrives wsX5_arrives rm_X5_arrives S_X5_arrives) (h_X5_gravest : q_Ct yX5_gravest wsX5_gravest rm_X5_gravest S_X5_gravest) : ∀ (σ : q_M) (lv : q_L) (st : q_S), k_L_fails_487 Qp J σ lv st → J 487 σ lv st := fun σ lv st h =>
    so_iconst E (x := 0) dL_fails_487 h fun σ lv st h =>
    h
set_option maxRecDepth 20000 in
theorem sb_L_fails_488 {J : Nat → q_K} {l : Launch} {Qp : Option q_V → q_M → Prop} (E : q_E J cL_fails RL wsL_fails 5 l rm_L_fails) (T : q_T J cL_fails (some .boolean) Qp) (h_X5_fingerprint : q_Ct yX5_fingerprint wsX5_fingerprint rm_X5_fingerprint S_X5_fingerprint) (h_X5_addWheel : q_Ct yX5_addWheel wsX5_addWheel rm_X5_addWheel S_X5_addWheel) (h_X5_fail : q_Ct yX5_fail wsX5_fail rm_X5_fail S_X5_fail) (h_X5_setMost : q_Ct yX5_setMost wsX5_setMost rm_X5_setMost S_X5_setMost) (h_X5_wheel : q_Ct yX5_wheel wsX5_wheel rm_X5_wheel S_X5_wheel) (h_X5_setAxis : q_Ct yX5_setAxis wsX5_setAxis rm_X5_setAxis S_X5_setAxis) (h_X5_set : q_Ct yX5_set wsX5_set rm_X5_set S_X5_set) (h_X5_setting : q_Ct yX5_setting wsX5_setting rm_X5_setting S_X5_setting) (h_X5_strike : q_Ct yX5_strike wsX5_strike rm_X5_strike S_X5_strike) (h_X5_tick : q_Ct yX5_tick wsX5_tick rm_X5_tick S_X5_tick) (h_X5_axis : q_Ct yX5_axis wsX5_axis rm_X5_axis S_X5_axis) (h_X5_wish : q_Ct yX5_wish wsX5_wish rm_X5_wish S_X5_wish) (h_X5_why : q_Ct yX5_why wsX5_why rm_X5_why S_X5_why) (h_X5_arrives : q_Ct yX5_arrives wsX5_arrives rm_X5_arrives S_X5_arrives) (h_X5_gravest : q_Ct yX5_gravest wsX5_gravest rm_X5_gravest S_X5_gravest) : ∀ (σ : q_M) (lv : q_L) (st : q_S), k_L_fails_488 Qp J σ lv st → J 488 σ lv st := fun σ lv st h =>
    so_zret T dL_fails_488 h
theorem c_L_fails (h_X5_fingerprint : q_Ct yX5_fingerprint wsX5_fingerprint rm_X5_fingerprint S_X5_fingerprint) (h_X5_addWheel : q_Ct yX5_addWheel wsX5_addWheel rm_X5_addWheel S_X5_addWheel) (h_X5_fail : q_Ct yX5_fail wsX5_fail rm_X5_fail S_X5_fail) (h_X5_setMost : q_Ct yX5_setMost wsX5_setMost rm_X5_setMost S_X5_setMost) (h_X5_wheel : q_Ct yX5_wheel wsX5_wheel rm_X5_wheel S_X5_wheel) (h_X5_setAxis : q_Ct yX5_setAxis wsX5_setAxis rm_X5_setAxis S_X5_setAxis) (h_X5_set : q_Ct yX5_set wsX5_set rm_X5_set S_X5_set) (h_X5_setting : q_Ct yX5_setting wsX5_setting rm_X5_setting S_X5_setting) (h_X5_strike : q_Ct yX5_strike wsX5_strike rm_X5_strike S_X5_strike) (h_X5_tick : q_Ct yX5_tick wsX5_tick rm_X5_tick S_X5_tick) (h_X5_axis : q_Ct yX5_axis wsX5_axis rm_X5_axis S_X5_axis) (h_X5_wish : q_Ct yX5_wish wsX5_wish rm_X5_wish S_X5_wish) (h_X5_why : q_Ct yX5_why wsX5_why rm_X5_why S_X5_why) (h_X5_arrives : q_Ct yX5_arrives wsX5_arrives rm_X5_arrives S_X5_arrives) (h_X5_gravest : q_Ct yX5_gravest wsX5_gravest rm_X5_gravest S_X5_gravest) : q_Ct yL_fails wsL_fails rm_L_fails S_L_fails := by
  refine q_met (cc := cL_fails) (maxL := 5) (ret := (some .boolean)) (own := RL) (by decide +kernel) rfl rfl (fun σ vs Qp h => ?_) (fun l J σ vs Qp E T h => ?_)
  · unfold S_L_fails at h
    split at h
    · exact Nat.le_of_ble_eq_true rfl
    · exact h.elim
  · unfold S_L_fails at h
    split at h
    · next c0 p0 k0 n =>
      obtain ⟨rfl, rfl, rfl, h⟩ := h
      exact v_L_fails (so_C E) (sb_L_fails_0 E T h_X5_fingerprint h_X5_addWheel h_X5_fail h_X5_setMost h_X5_wheel h_X5_setAxis h_X5_set h_X5_setting h_X5_strike h_X5_tick h_X5_axis h_X5_wish h_X5_why h_X5_arrives h_X5_gravest) (sb_L_fails_175 E T h_X5_fingerprint h_X5_addWheel h_X5_fail h_X5_setMost h_X5_wheel h_X5_setAxis h_X5_set h_X5_setting h_X5_strike h_X5_tick h_X5_axis h_X5_wish h_X5_why h_X5_arrives h_X5_gravest) (sb_L_fails_176 E T h_X5_fingerprint h_X5_addWheel h_X5_fail h_X5_setMost h_X5_wheel h_X5_setAxis h_X5_set h_X5_setting h_X5_strike h_X5_tick h_X5_axis h_X5_wish h_X5_why h_X5_arrives h_X5_gravest) (sb_L_fails_372 E T h_X5_fingerprint h_X5_addWheel h_X5_fail h_X5_setMost h_X5_wheel h_X5_setAxis h_X5_set h_X5_setting h_X5_strike h_X5_tick h_X5_axis h_X5_wish h_X5_why h_X5_arrives h_X5_gravest) (sb_L_fails_373 E T h_X5_fingerprint h_X5_addWheel h_X5_fail h_X5_setMost h_X5_wheel h_X5_setAxis h_X5_set h_X5_setting h_X5_strike h_X5_tick h_X5_axis h_X5_wish h_X5_why h_X5_arrives h_X5_gravest) (sb_L_fails_466 E T h_X5_fingerprint h_X5_addWheel h_X5_fail h_X5_setMost h_X5_wheel h_X5_setAxis h_X5_set h_X5_setting h_X5_strike h_X5_tick h_X5_axis h_X5_wish h_X5_why h_X5_arrives h_X5_gravest) (sb_L_fails_467 E T h_X5_fingerprint h_X5_addWheel h_X5_fail h_X5_setMost h_X5_wheel h_X5_setAxis h_X5_set h_X5_setting h_X5_strike h_X5_tick h_X5_axis h_X5_wish h_X5_why h_X5_arrives h_X5_gravest) (sb_L_fails_487 E T h_X5_fingerprint h_X5_addWheel h_X5_fail h_X5_setMost h_X5_wheel h_X5_setAxis h_X5_set h_X5_setting h_X5_strike h_X5_tick h_X5_axis h_X5_wish h_X5_why h_X5_arrives h_X5_gravest) (sb_L_fails_488 E T h_X5_fingerprint h_X5_addWheel h_X5_fail h_X5_setMost h_X5_wheel h_X5_setAxis h_X5_set h_X5_setting h_X5_strike h_X5_tick h_X5_axis h_X5_wish h_X5_why h_X5_arrives h_X5_gravest) h
    · exact h.elim
theorem cc_L_fails : q_Ct yL_fails wsL_fails rm_L_fails S_L_fails := c_L_fails cc_X5_fingerprint cc_X5_addWheel cc_X5_fail cc_X5_setMost cc_X5_wheel cc_X5_setAxis cc_X5_set cc_X5_setting cc_X5_strike cc_X5_tick cc_X5_axis cc_X5_wish cc_X5_why cc_X5_arrives cc_X5_gravest

def rm_L_keeps : Room := { frames := 5, cells := 0, slots := 0, locals := 113 }
set_option maxRecDepth 20000 in
theorem sb_L_keeps_0 {J : Nat → q_K} {l : Launch} {Qp : Option q_V → q_M → Prop} (E : q_E J cL_keeps RL wsL_keeps 9 l rm_L_keeps) (T : q_T J cL_keeps (some .boolean) Qp) (h_X5_axis : q_Ct yX5_axis wsX5_axis rm_X5_axis S_X5_axis) (h_X5_wheel : q_Ct yX5_wheel wsX5_wheel rm_X5_wheel S_X5_wheel) : ∀ (σ : q_M) (lv : q_L) (st : q_S), k_L_keeps_0 Qp J σ lv st → J 0 σ lv st := fun σ lv st h =>
    so_iconst E (x := 0) dL_keeps_0 h fun σ lv st h =>
    so_istore_n E (i := 2) rfl (by decide) dL_keeps_1 h fun σ lv st h =>
    h
set_option maxRecDepth 20000 in
theorem sb_L_keeps_2 {J : Nat → q_K} {l : Launch} {Qp : Option q_V → q_M → Prop} (E : q_E J cL_keeps RL wsL_keeps 9 l rm_L_keeps) (T : q_T J cL_keeps (some .boolean) Qp) (h_X5_axis : q_Ct yX5_axis wsX5_axis rm_X5_axis S_X5_axis) (h_X5_wheel : q_Ct yX5_wheel wsX5_wheel rm_X5_wheel S_X5_wheel) : ∀ (σ : q_M) (lv : q_L) (st : q_S), k_L_keeps_2 Qp J σ lv st → J 2 σ lv st := fun σ lv st h =>
    so_iload_n E (i := 2) rfl dL_keeps_2 h fun σ lv st h =>
    so_iconst E (x := 3) dL_keeps_3 h fun σ lv st h =>
    so_icmpge E 127 (by decide) dL_keeps_4 (fun _ _ _ h => h) h fun σ lv st h =>
    so_aload_n E (i := 0) rfl dL_keeps_7 h fun σ lv st h =>
    so_iload_n E (i := 2) rfl dL_keeps_8 h fun σ lv st h =>
    so_iconst E (x := 1) dL_keeps_9 h fun σ lv st h =>
    so_callV E (n := 2) (pp := 23) (C := RX5) (T := TX5) (N := 5) (idx := 56) (maxL := 3) (ret := (some .long)) h_X5_axis ⟨rfl, rfl, rfl⟩ rfl gL_keeps_X5_axis rfl ⟨rfl, rfl⟩ (by decide +kernel) (by decide) dL_keeps_10 h fun σ lv st h =>
    so_lstore_n E (i := 3) rfl (by decide) dL_keeps_13 h fun σ lv st h =>
    so_iconst E (x := 0) dL_keeps_14 h fun σ lv st h =>
    so_istore E (i := 5) (by decide) dL_keeps_15 h fun σ lv st h =>
    h
set_option maxRecDepth 20000 in
theorem sb_L_keeps_17 {J : Nat → q_K} {l : Launch} {Qp : Option q_V → q_M → Prop} (E : q_E J cL_keeps RL wsL_keeps 9 l rm_L_keeps) (T : q_T J cL_keeps (some .boolean) Qp) (h_X5_axis : q_Ct yX5_axis wsX5_axis rm_X5_axis S_X5_axis) (h_X5_wheel : q_Ct yX5_wheel wsX5_wheel rm_X5_wheel S_X5_wheel) : ∀ (σ : q_M) (lv : q_L) (st : q_S), k_L_keeps_17 Qp J σ lv st → J 17 σ lv st := fun σ lv st h =>
    so_iload E (i := 5) dL_keeps_17 h fun σ lv st h =>
    so_iload_n E (i := 1) rfl dL_keeps_19 h fun σ lv st h =>
    so_icmpge E 49 (by decide) dL_keeps_20 (fun _ _ _ h => h) h fun σ lv st h =>
    so_lload_n E (i := 3) rfl dL_keeps_23 h fun σ lv st h =>
    so_aload_n E (i := 0) rfl dL_keeps_24 h fun σ lv st h =>
    so_iload E (i := 5) dL_keeps_25 h fun σ lv st h =>
    so_iload_n E (i := 2) rfl dL_keeps_27 h fun σ lv st h =>
    so_callV E (n := 2) (pp := 23) (C := RX5) (T := TX5) (N := 5) (idx := 31) (maxL := 3) (ret := (some .int)) h_X5_wheel ⟨rfl, rfl, rfl⟩ rfl gL_keeps_X5_wheel rfl ⟨rfl, rfl⟩ (by decide +kernel) (by decide) dL_keeps_28 h fun σ lv st h =>
    so_i2l E dL_keeps_31 h fun σ lv st h =>
    so_aload_n E (i := 0) rfl dL_keeps_32 h fun σ lv st h =>
    so_iload E (i := 5) dL_keeps_33 h fun σ lv st h =>
    so_iconst E (x := 3) dL_keeps_35 h fun σ lv st h =>
    so_callV E (n := 2) (pp := 23) (C := RX5) (T := TX5) (N := 5) (idx := 31) (maxL := 3) (ret := (some .int)) h_X5_wheel ⟨rfl, rfl, rfl⟩ rfl gL_keeps_X5_wheel rfl ⟨rfl, rfl⟩ (by decide +kernel) (by decide) dL_keeps_36 h fun σ lv st h =>
    so_i2l E dL_keeps_39 h fun σ lv st h =>
    so_lmul E dL_keeps_40 h fun σ lv st h =>
    so_ladd E dL_keeps_41 h fun σ lv st h =>
    so_lstore_n E (i := 3) rfl (by decide) dL_keeps_42 h fun σ lv st h =>
    so_iinc E (i := 5) (n := 1) (by decide) dL_keeps_43 h fun σ lv st h =>
    so_goto E 17 (by decide) dL_keeps_46 (fun _ _ _ h => h) h
set_option maxRecDepth 20000 in
theorem sb_L_keeps_49 {J : Nat → q_K} {l : Launch} {Qp : Option q_V → q_M → Prop} (E : q_E J cL_keeps RL wsL_keeps 9 l rm_L_keeps) (T : q_T J cL_keeps (some .boolean) Qp) (h_X5_axis : q_Ct yX5_axis wsX5_axis rm_X5_axis S_X5_axis) (h_X5_wheel : q_Ct yX5_wheel wsX5_wheel rm_X5_wheel S_X5_wheel) : ∀ (σ : q_M) (lv : q_L) (st : q_S), k_L_keeps_49 Qp J σ lv st → J 49 σ lv st := fun σ lv st h =>
    so_aload_n E (i := 0) rfl dL_keeps_49 h fun σ lv st h =>
    so_iload_n E (i := 2) rfl dL_keeps_50 h fun σ lv st h =>
    so_iconst E (x := 1) dL_keeps_51 h fun σ lv st h =>
    so_callV E (n := 2) (pp := 23) (C := RX5) (T := TX5) (N := 5) (idx := 56) (maxL := 3) (ret := (some .long)) h_X5_axis ⟨rfl, rfl, rfl⟩ rfl gL_keeps_X5_axis rfl ⟨rfl, rfl⟩ (by decide +kernel) (by decide) dL_keeps_52 h fun σ lv st h =>
    so_lstore E (i := 5) (by decide) dL_keeps_55 h fun σ lv st h =>
    so_aload_n E (i := 0) rfl dL_keeps_57 h fun σ lv st h =>
    so_iload_n E (i := 2) rfl dL_keeps_58 h fun σ lv st h =>
    so_iconst E (x := 2) dL_keeps_59 h fun σ lv st h =>
    so_callV E (n := 2) (pp := 23) (C := RX5) (T := TX5) (N := 5) (idx := 56) (maxL := 3) (ret := (some .long)) h_X5_axis ⟨rfl, rfl, rfl⟩ rfl gL_keeps_X5_axis rfl ⟨rfl, rfl⟩ (by decide +kernel) (by decide) dL_keeps_60 h fun σ lv st h =>
    so_lstore E (i := 7) (by decide) dL_keeps_63 h fun σ lv st h =>
    so_aload_n E (i := 0) rfl dL_keeps_65 h fun σ lv st h =>
    so_iload_n E (i := 2) rfl dL_keeps_66 h fun σ lv st h =>
    so_iconst E (x := 3) dL_keeps_67 h fun σ lv st h =>
    so_callV E (n := 2) (pp := 23) (C := RX5) (T := TX5) (N := 5) (idx := 56) (maxL := 3) (ret := (some .long)) h_X5_axis ⟨rfl, rfl, rfl⟩ rfl gL_keeps_X5_axis rfl ⟨rfl, rfl⟩ (by decide +kernel) (by decide) dL_keeps_68 h fun σ lv st h =>
    so_lload_n E (i := 3) rfl dL_keeps_71 h fun σ lv st h =>
    so_lcmp E dL_keeps_72 h fun σ lv st h =>
    so_ifne E 119 (by decide) dL_keeps_73 (fun _ _ _ h => h) h fun σ lv st h =>
    so_aload_n E (i := 0) rfl dL_keeps_76 h fun σ lv st h =>
    so_iload_n E (i := 2) rfl dL_keeps_77 h fun σ lv st h =>
    so_iconst E (x := 4) dL_keeps_78 h fun σ lv st h =>
    so_callV E (n := 2) (pp := 23) (C := RX5) (T := TX5) (N := 5) (idx := 56) (maxL := 3) (ret := (some .long)) h_X5_axis ⟨rfl, rfl, rfl⟩ rfl gL_keeps_X5_axis rfl ⟨rfl, rfl⟩ (by decide +kernel) (by decide) dL_keeps_79 h fun σ lv st h =>
    so_lload_n E (i := 3) rfl dL_keeps_82 h fun σ lv st h =>
    so_lcmp E dL_keeps_83 h fun σ lv st h =>
    so_ifne E 119 (by decide) dL_keeps_84 (fun _ _ _ h => h) h fun σ lv st h =>
    so_lload E (i := 7) dL_keeps_87 h fun σ lv st h =>
    so_aload_n E (i := 0) rfl dL_keeps_89 h fun σ lv st h =>
    so_iload_n E (i := 2) rfl dL_keeps_90 h fun σ lv st h =>
    so_iconst E (x := 5) dL_keeps_91 h fun σ lv st h =>
    so_callV E (n := 2) (pp := 23) (C := RX5) (T := TX5) (N := 5) (idx := 56) (maxL := 3) (ret := (some .long)) h_X5_axis ⟨rfl, rfl, rfl⟩ rfl gL_keeps_X5_axis rfl ⟨rfl, rfl⟩ (by decide +kernel) (by decide) dL_keeps_92 h fun σ lv st h =>
    so_lmul E dL_keeps_95 h fun σ lv st h =>
    so_lload E (i := 5) dL_keeps_96 h fun σ lv st h =>
    so_lcmp E dL_keeps_98 h fun σ lv st h =>
    so_ifgt E 119 (by decide) dL_keeps_99 (fun _ _ _ h => h) h fun σ lv st h =>
    so_lload E (i := 7) dL_keeps_102 h fun σ lv st h =>
    so_lconst E (x := 1) rfl dL_keeps_104 h fun σ lv st h =>
    so_ladd E dL_keeps_105 h fun σ lv st h =>
    so_aload_n E (i := 0) rfl dL_keeps_106 h fun σ lv st h =>
    so_iload_n E (i := 2) rfl dL_keeps_107 h fun σ lv st h =>
    so_iconst E (x := 5) dL_keeps_108 h fun σ lv st h =>
    so_callV E (n := 2) (pp := 23) (C := RX5) (T := TX5) (N := 5) (idx := 56) (maxL := 3) (ret := (some .long)) h_X5_axis ⟨rfl, rfl, rfl⟩ rfl gL_keeps_X5_axis rfl ⟨rfl, rfl⟩ (by decide +kernel) (by decide) dL_keeps_109 h fun σ lv st h =>
    so_lmul E dL_keeps_112 h fun σ lv st h =>
    so_lload E (i := 5) dL_keeps_113 h fun σ lv st h =>
    so_lcmp E dL_keeps_115 h fun σ lv st h =>
    so_ifgt E 121 (by decide) dL_keeps_116 (fun _ _ _ h => h) h fun σ lv st h =>
    h
set_option maxRecDepth 20000 in
theorem sb_L_keeps_119 {J : Nat → q_K} {l : Launch} {Qp : Option q_V → q_M → Prop} (E : q_E J cL_keeps RL wsL_keeps 9 l rm_L_keeps) (T : q_T J cL_keeps (some .boolean) Qp) (h_X5_axis : q_Ct yX5_axis wsX5_axis rm_X5_axis S_X5_axis) (h_X5_wheel : q_Ct yX5_wheel wsX5_wheel rm_X5_wheel S_X5_wheel) : ∀ (σ : q_M) (lv : q_L) (st : q_S), k_L_keeps_119 Qp J σ lv st → J 119 σ lv st := fun σ lv st h =>
    so_iconst E (x := 0) dL_keeps_119 h fun σ lv st h =>
    so_zret T dL_keeps_120 h
set_option maxRecDepth 20000 in
theorem sb_L_keeps_121 {J : Nat → q_K} {l : Launch} {Qp : Option q_V → q_M → Prop} (E : q_E J cL_keeps RL wsL_keeps 9 l rm_L_keeps) (T : q_T J cL_keeps (some .boolean) Qp) (h_X5_axis : q_Ct yX5_axis wsX5_axis rm_X5_axis S_X5_axis) (h_X5_wheel : q_Ct yX5_wheel wsX5_wheel rm_X5_wheel S_X5_wheel) : ∀ (σ : q_M) (lv : q_L) (st : q_S), k_L_keeps_121 Qp J σ lv st → J 121 σ lv st := fun σ lv st h =>
    so_iinc E (i := 2) (n := 1) (by decide) dL_keeps_121 h fun σ lv st h =>
    so_goto E 2 (by decide) dL_keeps_124 (fun _ _ _ h => h) h
set_option maxRecDepth 20000 in
theorem sb_L_keeps_127 {J : Nat → q_K} {l : Launch} {Qp : Option q_V → q_M → Prop} (E : q_E J cL_keeps RL wsL_keeps 9 l rm_L_keeps) (T : q_T J cL_keeps (some .boolean) Qp) (h_X5_axis : q_Ct yX5_axis wsX5_axis rm_X5_axis S_X5_axis) (h_X5_wheel : q_Ct yX5_wheel wsX5_wheel rm_X5_wheel S_X5_wheel) : ∀ (σ : q_M) (lv : q_L) (st : q_S), k_L_keeps_127 Qp J σ lv st → J 127 σ lv st := fun σ lv st h =>
    so_iconst E (x := 1) dL_keeps_127 h fun σ lv st h =>
    so_zret T dL_keeps_128 h
theorem c_L_keeps (h_X5_axis : q_Ct yX5_axis wsX5_axis rm_X5_axis S_X5_axis) (h_X5_wheel : q_Ct yX5_wheel wsX5_wheel rm_X5_wheel S_X5_wheel) : q_Ct yL_keeps wsL_keeps rm_L_keeps S_L_keeps := by
  refine q_met (cc := cL_keeps) (maxL := 9) (ret := (some .boolean)) (own := RL) (by decide +kernel) rfl rfl (fun σ vs Qp h => ?_) (fun l J σ vs Qp E T h => ?_)
  · unfold S_L_keeps at h
    split at h
    · exact Nat.le_of_ble_eq_true rfl
    · exact h.elim
  · unfold S_L_keeps at h
    split at h
    · next c0 p0 k0 n =>
      obtain ⟨rfl, rfl, rfl, h⟩ := h
      exact v_L_keeps (so_C E) (sb_L_keeps_0 E T h_X5_axis h_X5_wheel) (sb_L_keeps_2 E T h_X5_axis h_X5_wheel) (sb_L_keeps_17 E T h_X5_axis h_X5_wheel) (sb_L_keeps_49 E T h_X5_axis h_X5_wheel) (sb_L_keeps_119 E T h_X5_axis h_X5_wheel) (sb_L_keeps_121 E T h_X5_axis h_X5_wheel) (sb_L_keeps_127 E T h_X5_axis h_X5_wheel) h
    · exact h.elim
theorem cc_L_keeps : q_Ct yL_keeps wsL_keeps rm_L_keeps S_L_keeps := c_L_keeps cc_X5_axis cc_X5_wheel

def rm_L_reasons : Room := { frames := 1, cells := 0, slots := 0, locals := 21 }
set_option maxRecDepth 20000 in
theorem sb_L_reasons_0 {J : Nat → q_K} {l : Launch} {Qp : Option q_V → q_M → Prop} (E : q_E J cL_reasons RL wsL_reasons 5 l rm_L_reasons) (T : q_T J cL_reasons (some .boolean) Qp) (h_X5_why : q_Ct yX5_why wsX5_why rm_X5_why S_X5_why) : ∀ (σ : q_M) (lv : q_L) (st : q_S), k_L_reasons_0 Qp J σ lv st → J 0 σ lv st := fun σ lv st h =>
    so_aload_n E (i := 0) rfl dL_reasons_0 h fun σ lv st h =>
    so_iconst E (x := 0) dL_reasons_1 h fun σ lv st h =>
    so_callV E (n := 1) (pp := 23) (C := RX5) (T := TX5) (N := 5) (idx := 63) (maxL := 2) (ret := (some .int)) h_X5_why ⟨rfl, rfl, rfl⟩ rfl gL_reasons_X5_why rfl ⟨rfl, rfl⟩ (by decide +kernel) (by decide) dL_reasons_2 h fun σ lv st h =>
    so_istore_n E (i := 2) rfl (by decide) dL_reasons_5 h fun σ lv st h =>
    so_aload_n E (i := 0) rfl dL_reasons_6 h fun σ lv st h =>
    so_iconst E (x := 1) dL_reasons_7 h fun σ lv st h =>
    so_callV E (n := 1) (pp := 23) (C := RX5) (T := TX5) (N := 5) (idx := 63) (maxL := 2) (ret := (some .int)) h_X5_why ⟨rfl, rfl, rfl⟩ rfl gL_reasons_X5_why rfl ⟨rfl, rfl⟩ (by decide +kernel) (by decide) dL_reasons_8 h fun σ lv st h =>
    so_istore_n E (i := 3) rfl (by decide) dL_reasons_11 h fun σ lv st h =>
    so_iload_n E (i := 2) rfl dL_reasons_12 h fun σ lv st h =>
    so_iflt E 46 (by decide) dL_reasons_13 (fun _ _ _ h => h) h fun σ lv st h =>
    so_iload_n E (i := 2) rfl dL_reasons_16 h fun σ lv st h =>
    so_iconst E (x := 2) dL_reasons_17 h fun σ lv st h =>
    so_icmpgt E 46 (by decide) dL_reasons_18 (fun _ _ _ h => h) h fun σ lv st h =>
    so_iload_n E (i := 2) rfl dL_reasons_21 h fun σ lv st h =>
    so_ifne E 31 (by decide) dL_reasons_22 (fun _ _ _ h => h) h fun σ lv st h =>
    so_iload_n E (i := 3) rfl dL_reasons_25 h fun σ lv st h =>
    so_ldc E (x := -2000009) (idx := 66) (v := -2000009) (List.mem_of_getElem? (i := 1) rfl) rfl dL_reasons_26 h fun σ lv st h =>
    so_icmpne E 46 (by decide) dL_reasons_28 (fun _ _ _ h => h) h fun σ lv st h =>
    h
set_option maxRecDepth 20000 in
theorem sb_L_reasons_31 {J : Nat → q_K} {l : Launch} {Qp : Option q_V → q_M → Prop} (E : q_E J cL_reasons RL wsL_reasons 5 l rm_L_reasons) (T : q_T J cL_reasons (some .boolean) Qp) (h_X5_why : q_Ct yX5_why wsX5_why rm_X5_why S_X5_why) : ∀ (σ : q_M) (lv : q_L) (st : q_S), k_L_reasons_31 Qp J σ lv st → J 31 σ lv st := fun σ lv st h =>
    so_iload_n E (i := 2) rfl dL_reasons_31 h fun σ lv st h =>
    so_iconst E (x := 2) dL_reasons_32 h fun σ lv st h =>
    so_icmpeq E 48 (by decide) dL_reasons_33 (fun _ _ _ h => h) h fun σ lv st h =>
    so_aload_n E (i := 0) rfl dL_reasons_36 h fun σ lv st h =>
    so_iconst E (x := 2) dL_reasons_37 h fun σ lv st h =>
    so_callV E (n := 1) (pp := 23) (C := RX5) (T := TX5) (N := 5) (idx := 63) (maxL := 2) (ret := (some .int)) h_X5_why ⟨rfl, rfl, rfl⟩ rfl gL_reasons_X5_why rfl ⟨rfl, rfl⟩ (by decide +kernel) (by decide) dL_reasons_38 h fun σ lv st h =>
    so_ldc E (x := -2000009) (idx := 66) (v := -2000009) (List.mem_of_getElem? (i := 1) rfl) rfl dL_reasons_41 h fun σ lv st h =>
    so_icmpeq E 48 (by decide) dL_reasons_43 (fun _ _ _ h => h) h fun σ lv st h =>
    h
set_option maxRecDepth 20000 in
theorem sb_L_reasons_46 {J : Nat → q_K} {l : Launch} {Qp : Option q_V → q_M → Prop} (E : q_E J cL_reasons RL wsL_reasons 5 l rm_L_reasons) (T : q_T J cL_reasons (some .boolean) Qp) (h_X5_why : q_Ct yX5_why wsX5_why rm_X5_why S_X5_why) : ∀ (σ : q_M) (lv : q_L) (st : q_S), k_L_reasons_46 Qp J σ lv st → J 46 σ lv st := fun σ lv st h =>
    so_iconst E (x := 0) dL_reasons_46 h fun σ lv st h =>
    so_zret T dL_reasons_47 h
set_option maxRecDepth 20000 in
theorem sb_L_reasons_48 {J : Nat → q_K} {l : Launch} {Qp : Option q_V → q_M → Prop} (E : q_E J cL_reasons RL wsL_reasons 5 l rm_L_reasons) (T : q_T J cL_reasons (some .boolean) Qp) (h_X5_why : q_Ct yX5_why wsX5_why rm_X5_why S_X5_why) : ∀ (σ : q_M) (lv : q_L) (st : q_S), k_L_reasons_48 Qp J σ lv st → J 48 σ lv st := fun σ lv st h =>
    so_iload_n E (i := 2) rfl dL_reasons_48 h fun σ lv st h =>
    so_iconst E (x := 2) dL_reasons_49 h fun σ lv st h =>
    so_icmpne E 94 (by decide) dL_reasons_50 (fun _ _ _ h => h) h fun σ lv st h =>
    so_iload_n E (i := 3) rfl dL_reasons_53 h fun σ lv st h =>
    so_bipush E (x := 20) rfl dL_reasons_54 h fun σ lv st h =>
    so_isub E dL_reasons_56 h fun σ lv st h =>
    so_istore E (i := 4) (by decide) dL_reasons_57 h fun σ lv st h =>
    so_iload E (i := 4) dL_reasons_59 h fun σ lv st h =>
    so_iflt E 92 (by decide) dL_reasons_61 (fun _ _ _ h => h) h fun σ lv st h =>
    so_iload E (i := 4) dL_reasons_64 h fun σ lv st h =>
    so_iload_n E (i := 1) rfl dL_reasons_66 h fun σ lv st h =>
    so_icmpge E 92 (by decide) dL_reasons_67 (fun _ _ _ h => h) h fun σ lv st h =>
    so_aload_n E (i := 0) rfl dL_reasons_70 h fun σ lv st h =>
    so_iconst E (x := 2) dL_reasons_71 h fun σ lv st h =>
    so_callV E (n := 1) (pp := 23) (C := RX5) (T := TX5) (N := 5) (idx := 63) (maxL := 2) (ret := (some .int)) h_X5_why ⟨rfl, rfl, rfl⟩ rfl gL_reasons_X5_why rfl ⟨rfl, rfl⟩ (by decide +kernel) (by decide) dL_reasons_72 h fun σ lv st h =>
    so_iconst E (x := 3) dL_reasons_75 h fun σ lv st h =>
    so_icmpeq E 88 (by decide) dL_reasons_76 (fun _ _ _ h => h) h fun σ lv st h =>
    so_aload_n E (i := 0) rfl dL_reasons_79 h fun σ lv st h =>
    so_iconst E (x := 2) dL_reasons_80 h fun σ lv st h =>
    so_callV E (n := 1) (pp := 23) (C := RX5) (T := TX5) (N := 5) (idx := 63) (maxL := 2) (ret := (some .int)) h_X5_why ⟨rfl, rfl, rfl⟩ rfl gL_reasons_X5_why rfl ⟨rfl, rfl⟩ (by decide +kernel) (by decide) dL_reasons_81 h fun σ lv st h =>
    so_iconst E (x := 4) dL_reasons_84 h fun σ lv st h =>
    so_icmpne E 92 (by decide) dL_reasons_85 (fun _ _ _ h => h) h fun σ lv st h =>
    h
set_option maxRecDepth 20000 in
theorem sb_L_reasons_88 {J : Nat → q_K} {l : Launch} {Qp : Option q_V → q_M → Prop} (E : q_E J cL_reasons RL wsL_reasons 5 l rm_L_reasons) (T : q_T J cL_reasons (some .boolean) Qp) (h_X5_why : q_Ct yX5_why wsX5_why rm_X5_why S_X5_why) : ∀ (σ : q_M) (lv : q_L) (st : q_S), k_L_reasons_88 Qp J σ lv st → J 88 σ lv st := fun σ lv st h =>
    so_iconst E (x := 1) dL_reasons_88 h fun σ lv st h =>
    so_goto E 93 (by decide) dL_reasons_89 (fun _ _ _ h => h) h
set_option maxRecDepth 20000 in
theorem sb_L_reasons_92 {J : Nat → q_K} {l : Launch} {Qp : Option q_V → q_M → Prop} (E : q_E J cL_reasons RL wsL_reasons 5 l rm_L_reasons) (T : q_T J cL_reasons (some .boolean) Qp) (h_X5_why : q_Ct yX5_why wsX5_why rm_X5_why S_X5_why) : ∀ (σ : q_M) (lv : q_L) (st : q_S), k_L_reasons_92 Qp J σ lv st → J 92 σ lv st := fun σ lv st h =>
    so_iconst E (x := 0) dL_reasons_92 h fun σ lv st h =>
    h
set_option maxRecDepth 20000 in
theorem sb_L_reasons_93 {J : Nat → q_K} {l : Launch} {Qp : Option q_V → q_M → Prop} (E : q_E J cL_reasons RL wsL_reasons 5 l rm_L_reasons) (T : q_T J cL_reasons (some .boolean) Qp) (h_X5_why : q_Ct yX5_why wsX5_why rm_X5_why S_X5_why) : ∀ (σ : q_M) (lv : q_L) (st : q_S), k_L_reasons_93 Qp J σ lv st → J 93 σ lv st := fun σ lv st h =>
    so_zret T dL_reasons_93 h
set_option maxRecDepth 20000 in
theorem sb_L_reasons_94 {J : Nat → q_K} {l : Launch} {Qp : Option q_V → q_M → Prop} (E : q_E J cL_reasons RL wsL_reasons 5 l rm_L_reasons) (T : q_T J cL_reasons (some .boolean) Qp) (h_X5_why : q_Ct yX5_why wsX5_why rm_X5_why S_X5_why) : ∀ (σ : q_M) (lv : q_L) (st : q_S), k_L_reasons_94 Qp J σ lv st → J 94 σ lv st := fun σ lv st h =>
    so_iload_n E (i := 2) rfl dL_reasons_94 h fun σ lv st h =>
    so_ifeq E 118 (by decide) dL_reasons_95 (fun _ _ _ h => h) h fun σ lv st h =>
    so_iload_n E (i := 3) rfl dL_reasons_98 h fun σ lv st h =>
    so_ldc E (x := -2000009) (idx := 66) (v := -2000009) (List.mem_of_getElem? (i := 1) rfl) rfl dL_reasons_99 h fun σ lv st h =>
    so_icmpeq E 118 (by decide) dL_reasons_101 (fun _ _ _ h => h) h fun σ lv st h =>
    so_iload_n E (i := 3) rfl dL_reasons_104 h fun σ lv st h =>
    so_bipush E (x := 10) rfl dL_reasons_105 h fun σ lv st h =>
    so_icmplt E 122 (by decide) dL_reasons_107 (fun _ _ _ h => h) h fun σ lv st h =>
    so_iload_n E (i := 3) rfl dL_reasons_110 h fun σ lv st h =>
    so_bipush E (x := 10) rfl dL_reasons_111 h fun σ lv st h =>
    so_iload_n E (i := 1) rfl dL_reasons_113 h fun σ lv st h =>
    so_iadd E dL_reasons_114 h fun σ lv st h =>
    so_icmpge E 122 (by decide) dL_reasons_115 (fun _ _ _ h => h) h fun σ lv st h =>
    h
set_option maxRecDepth 20000 in
theorem sb_L_reasons_118 {J : Nat → q_K} {l : Launch} {Qp : Option q_V → q_M → Prop} (E : q_E J cL_reasons RL wsL_reasons 5 l rm_L_reasons) (T : q_T J cL_reasons (some .boolean) Qp) (h_X5_why : q_Ct yX5_why wsX5_why rm_X5_why S_X5_why) : ∀ (σ : q_M) (lv : q_L) (st : q_S), k_L_reasons_118 Qp J σ lv st → J 118 σ lv st := fun σ lv st h =>
    so_iconst E (x := 1) dL_reasons_118 h fun σ lv st h =>
    so_goto E 123 (by decide) dL_reasons_119 (fun _ _ _ h => h) h
set_option maxRecDepth 20000 in
theorem sb_L_reasons_122 {J : Nat → q_K} {l : Launch} {Qp : Option q_V → q_M → Prop} (E : q_E J cL_reasons RL wsL_reasons 5 l rm_L_reasons) (T : q_T J cL_reasons (some .boolean) Qp) (h_X5_why : q_Ct yX5_why wsX5_why rm_X5_why S_X5_why) : ∀ (σ : q_M) (lv : q_L) (st : q_S), k_L_reasons_122 Qp J σ lv st → J 122 σ lv st := fun σ lv st h =>
    so_iconst E (x := 0) dL_reasons_122 h fun σ lv st h =>
    h
set_option maxRecDepth 20000 in
theorem sb_L_reasons_123 {J : Nat → q_K} {l : Launch} {Qp : Option q_V → q_M → Prop} (E : q_E J cL_reasons RL wsL_reasons 5 l rm_L_reasons) (T : q_T J cL_reasons (some .boolean) Qp) (h_X5_why : q_Ct yX5_why wsX5_why rm_X5_why S_X5_why) : ∀ (σ : q_M) (lv : q_L) (st : q_S), k_L_reasons_123 Qp J σ lv st → J 123 σ lv st := fun σ lv st h =>
    so_zret T dL_reasons_123 h
theorem c_L_reasons (h_X5_why : q_Ct yX5_why wsX5_why rm_X5_why S_X5_why) : q_Ct yL_reasons wsL_reasons rm_L_reasons S_L_reasons := by
  refine q_met (cc := cL_reasons) (maxL := 5) (ret := (some .boolean)) (own := RL) (by decide +kernel) rfl rfl (fun σ vs Qp h => ?_) (fun l J σ vs Qp E T h => ?_)
  · unfold S_L_reasons at h
    split at h
    · exact Nat.le_of_ble_eq_true rfl
    · exact h.elim
  · unfold S_L_reasons at h
    split at h
    · next c0 p0 k0 n =>
      obtain ⟨rfl, rfl, rfl, h⟩ := h
      exact v_L_reasons (so_C E) (sb_L_reasons_0 E T h_X5_why) (sb_L_reasons_31 E T h_X5_why) (sb_L_reasons_46 E T h_X5_why) (sb_L_reasons_48 E T h_X5_why) (sb_L_reasons_88 E T h_X5_why) (sb_L_reasons_92 E T h_X5_why) (sb_L_reasons_93 E T h_X5_why) (sb_L_reasons_94 E T h_X5_why) (sb_L_reasons_118 E T h_X5_why) (sb_L_reasons_122 E T h_X5_why) (sb_L_reasons_123 E T h_X5_why) h
    · exact h.elim
theorem cc_L_reasons : q_Ct yL_reasons wsL_reasons rm_L_reasons S_L_reasons := c_L_reasons cc_X5_why

def rm_L_size : Room := { frames := 0, cells := 0, slots := 0, locals := 0 }
set_option maxRecDepth 20000 in
theorem sb_L_size_0 {J : Nat → q_K} {l : Launch} {Qp : Option q_V → q_M → Prop} (E : q_E J cL_size RL wsL_size 2 l rm_L_size) (T : q_T J cL_size (some .long) Qp) : ∀ (σ : q_M) (lv : q_L) (st : q_S), k_L_size_0 Qp J σ lv st → J 0 σ lv st := fun σ lv st h =>
    so_lload_n E (i := 0) rfl dL_size_0 h fun σ lv st h =>
    so_lconst E (x := 0) rfl dL_size_1 h fun σ lv st h =>
    so_lcmp E dL_size_2 h fun σ lv st h =>
    so_ifge E 11 (by decide) dL_size_3 (fun _ _ _ h => h) h fun σ lv st h =>
    so_lload_n E (i := 0) rfl dL_size_6 h fun σ lv st h =>
    so_lneg E dL_size_7 h fun σ lv st h =>
    so_goto E 12 (by decide) dL_size_8 (fun _ _ _ h => h) h
set_option maxRecDepth 20000 in
theorem sb_L_size_11 {J : Nat → q_K} {l : Launch} {Qp : Option q_V → q_M → Prop} (E : q_E J cL_size RL wsL_size 2 l rm_L_size) (T : q_T J cL_size (some .long) Qp) : ∀ (σ : q_M) (lv : q_L) (st : q_S), k_L_size_11 Qp J σ lv st → J 11 σ lv st := fun σ lv st h =>
    so_lload_n E (i := 0) rfl dL_size_11 h fun σ lv st h =>
    h
set_option maxRecDepth 20000 in
theorem sb_L_size_12 {J : Nat → q_K} {l : Launch} {Qp : Option q_V → q_M → Prop} (E : q_E J cL_size RL wsL_size 2 l rm_L_size) (T : q_T J cL_size (some .long) Qp) : ∀ (σ : q_M) (lv : q_L) (st : q_S), k_L_size_12 Qp J σ lv st → J 12 σ lv st := fun σ lv st h =>
    so_lret T dL_size_12 h
theorem c_L_size : q_Ct yL_size wsL_size rm_L_size S_L_size := by
  refine q_met (cc := cL_size) (maxL := 2) (ret := (some .long)) (own := RL) (by decide +kernel) rfl rfl (fun σ vs Qp h => ?_) (fun l J σ vs Qp E T h => ?_)
  · unfold S_L_size at h
    split at h
    · exact Nat.le_of_ble_eq_true rfl
    · exact h.elim
  · unfold S_L_size at h
    split at h
    · next x =>
      exact v_L_size (so_C E) (sb_L_size_0 E T) (sb_L_size_11 E T) (sb_L_size_12 E T) h
    · exact h.elim
theorem cc_L_size : q_Ct yL_size wsL_size rm_L_size S_L_size := c_L_size

def rm_L_ticks : Room := { frames := 7, cells := 0, slots := 0, locals := 174 }
set_option maxRecDepth 20000 in
theorem sb_L_ticks_0 {J : Nat → q_K} {l : Launch} {Qp : Option q_V → q_M → Prop} (E : q_E J cL_ticks RL wsL_ticks 13 l rm_L_ticks) (T : q_T J cL_ticks (some .boolean) Qp) (h_X5_fingerprint : q_Ct yX5_fingerprint wsX5_fingerprint rm_X5_fingerprint S_X5_fingerprint) (h_X5_time : q_Ct yX5_time wsX5_time rm_X5_time S_X5_time) (h_X5_arrives : q_Ct yX5_arrives wsX5_arrives rm_X5_arrives S_X5_arrives) (h_X5_gravest : q_Ct yX5_gravest wsX5_gravest rm_X5_gravest S_X5_gravest) (h_X5_wheel : q_Ct yX5_wheel wsX5_wheel rm_X5_wheel S_X5_wheel) (h_X5_tick : q_Ct yX5_tick wsX5_tick rm_X5_tick S_X5_tick) (h_L_reasons : q_Ct yL_reasons wsL_reasons rm_L_reasons S_L_reasons) (h_X5_why : q_Ct yX5_why wsX5_why rm_X5_why S_X5_why) (h_X5_axis : q_Ct yX5_axis wsX5_axis rm_X5_axis S_X5_axis) (h_L_size : q_Ct yL_size wsL_size rm_L_size S_L_size) (h_X5_undo : q_Ct yX5_undo wsX5_undo rm_X5_undo S_X5_undo) : ∀ (σ : q_M) (lv : q_L) (st : q_S), k_L_ticks_0 Qp J σ lv st → J 0 σ lv st := fun σ lv st h =>
    so_aload_n E (i := 0) rfl dL_ticks_0 h fun σ lv st h =>
    so_callV E (n := 0) (pp := 23) (C := RX5) (T := TX5) (N := 5) (idx := 9) (maxL := 5) (ret := (some .long)) h_X5_fingerprint ⟨rfl, rfl, rfl⟩ rfl gL_ticks_X5_fingerprint rfl ⟨rfl, rfl⟩ (by decide +kernel) (by decide) dL_ticks_1 h fun σ lv st h =>
    so_lstore E (i := 4) (by decide) dL_ticks_4 h fun σ lv st h =>
    so_aload_n E (i := 0) rfl dL_ticks_6 h fun σ lv st h =>
    so_callV E (n := 0) (pp := 23) (C := RX5) (T := TX5) (N := 5) (idx := 84) (maxL := 1) (ret := (some .int)) h_X5_time ⟨rfl, rfl, rfl⟩ rfl gL_ticks_X5_time rfl ⟨rfl, rfl⟩ (by decide +kernel) (by decide) dL_ticks_7 h fun σ lv st h =>
    so_istore E (i := 6) (by decide) dL_ticks_10 h fun σ lv st h =>
    so_aload_n E (i := 0) rfl dL_ticks_12 h fun σ lv st h =>
    so_iload_n E (i := 3) rfl dL_ticks_13 h fun σ lv st h =>
    so_callV E (n := 1) (pp := 23) (C := RX5) (T := TX5) (N := 5) (idx := 67) (maxL := 3) (ret := (some .int)) h_X5_arrives ⟨rfl, rfl, rfl⟩ rfl gL_ticks_X5_arrives rfl ⟨rfl, rfl⟩ (by decide +kernel) (by decide) dL_ticks_14 h fun σ lv st h =>
    so_istore E (i := 7) (by decide) dL_ticks_17 h fun σ lv st h =>
    so_aload_n E (i := 0) rfl dL_ticks_19 h fun σ lv st h =>
    so_iconst E (x := 1) dL_ticks_20 h fun σ lv st h =>
    so_iload_n E (i := 2) rfl dL_ticks_21 h fun σ lv st h =>
    so_bipush E (x := 20) rfl dL_ticks_22 h fun σ lv st h =>
    so_irem E dL_ticks_24 h fun σ lv st h =>
    so_iadd E dL_ticks_25 h fun σ lv st h =>
    so_callV E (n := 1) (pp := 23) (C := RX5) (T := TX5) (N := 5) (idx := 70) (maxL := 8) (ret := (some .int)) h_X5_gravest ⟨rfl, rfl, rfl⟩ rfl gL_ticks_X5_gravest rfl ⟨rfl, rfl⟩ (by decide +kernel) (by decide) dL_ticks_26 h fun σ lv st h =>
    so_istore E (i := 8) (by decide) dL_ticks_29 h fun σ lv st h =>
    so_aload_n E (i := 0) rfl dL_ticks_31 h fun σ lv st h =>
    so_callV E (n := 0) (pp := 23) (C := RX5) (T := TX5) (N := 5) (idx := 9) (maxL := 5) (ret := (some .long)) h_X5_fingerprint ⟨rfl, rfl, rfl⟩ rfl gL_ticks_X5_fingerprint rfl ⟨rfl, rfl⟩ (by decide +kernel) (by decide) dL_ticks_32 h fun σ lv st h =>
    so_lload E (i := 4) dL_ticks_35 h fun σ lv st h =>
    so_lcmp E dL_ticks_37 h fun σ lv st h =>
    so_ifne E 90 (by decide) dL_ticks_38 (fun _ _ _ h => h) h fun σ lv st h =>
    so_iload E (i := 7) dL_ticks_41 h fun σ lv st h =>
    so_ldc E (x := -2000009) (idx := 66) (v := -2000009) (List.mem_of_getElem? (i := 1) rfl) rfl dL_ticks_43 h fun σ lv st h =>
    so_icmpeq E 61 (by decide) dL_ticks_45 (fun _ _ _ h => h) h fun σ lv st h =>
    so_iload E (i := 7) dL_ticks_48 h fun σ lv st h =>
    so_iflt E 90 (by decide) dL_ticks_50 (fun _ _ _ h => h) h fun σ lv st h =>
    so_iload E (i := 7) dL_ticks_53 h fun σ lv st h =>
    so_sipush E (x := 500) rfl dL_ticks_55 h fun σ lv st h =>
    so_icmpgt E 90 (by decide) dL_ticks_58 (fun _ _ _ h => h) h fun σ lv st h =>
    h
set_option maxRecDepth 20000 in
theorem sb_L_ticks_61 {J : Nat → q_K} {l : Launch} {Qp : Option q_V → q_M → Prop} (E : q_E J cL_ticks RL wsL_ticks 13 l rm_L_ticks) (T : q_T J cL_ticks (some .boolean) Qp) (h_X5_fingerprint : q_Ct yX5_fingerprint wsX5_fingerprint rm_X5_fingerprint S_X5_fingerprint) (h_X5_time : q_Ct yX5_time wsX5_time rm_X5_time S_X5_time) (h_X5_arrives : q_Ct yX5_arrives wsX5_arrives rm_X5_arrives S_X5_arrives) (h_X5_gravest : q_Ct yX5_gravest wsX5_gravest rm_X5_gravest S_X5_gravest) (h_X5_wheel : q_Ct yX5_wheel wsX5_wheel rm_X5_wheel S_X5_wheel) (h_X5_tick : q_Ct yX5_tick wsX5_tick rm_X5_tick S_X5_tick) (h_L_reasons : q_Ct yL_reasons wsL_reasons rm_L_reasons S_L_reasons) (h_X5_why : q_Ct yX5_why wsX5_why rm_X5_why S_X5_why) (h_X5_axis : q_Ct yX5_axis wsX5_axis rm_X5_axis S_X5_axis) (h_L_size : q_Ct yL_size wsL_size rm_L_size S_L_size) (h_X5_undo : q_Ct yX5_undo wsX5_undo rm_X5_undo S_X5_undo) : ∀ (σ : q_M) (lv : q_L) (st : q_S), k_L_ticks_61 Qp J σ lv st → J 61 σ lv st := fun σ lv st h =>
    so_iload E (i := 8) dL_ticks_61 h fun σ lv st h =>
    so_ldc E (x := -2000009) (idx := 66) (v := -2000009) (List.mem_of_getElem? (i := 1) rfl) rfl dL_ticks_63 h fun σ lv st h =>
    so_icmpeq E 92 (by decide) dL_ticks_65 (fun _ _ _ h => h) h fun σ lv st h =>
    so_iload E (i := 8) dL_ticks_68 h fun σ lv st h =>
    so_iflt E 90 (by decide) dL_ticks_70 (fun _ _ _ h => h) h fun σ lv st h =>
    so_iload E (i := 8) dL_ticks_73 h fun σ lv st h =>
    so_iload_n E (i := 1) rfl dL_ticks_75 h fun σ lv st h =>
    so_icmpge E 90 (by decide) dL_ticks_76 (fun _ _ _ h => h) h fun σ lv st h =>
    so_aload_n E (i := 0) rfl dL_ticks_79 h fun σ lv st h =>
    so_iload E (i := 8) dL_ticks_80 h fun σ lv st h =>
    so_bipush E (x := 6) rfl dL_ticks_82 h fun σ lv st h =>
    so_callV E (n := 2) (pp := 23) (C := RX5) (T := TX5) (N := 5) (idx := 31) (maxL := 3) (ret := (some .int)) h_X5_wheel ⟨rfl, rfl, rfl⟩ rfl gL_ticks_X5_wheel rfl ⟨rfl, rfl⟩ (by decide +kernel) (by decide) dL_ticks_84 h fun σ lv st h =>
    so_ifeq E 92 (by decide) dL_ticks_87 (fun _ _ _ h => h) h fun σ lv st h =>
    h
set_option maxRecDepth 20000 in
theorem sb_L_ticks_90 {J : Nat → q_K} {l : Launch} {Qp : Option q_V → q_M → Prop} (E : q_E J cL_ticks RL wsL_ticks 13 l rm_L_ticks) (T : q_T J cL_ticks (some .boolean) Qp) (h_X5_fingerprint : q_Ct yX5_fingerprint wsX5_fingerprint rm_X5_fingerprint S_X5_fingerprint) (h_X5_time : q_Ct yX5_time wsX5_time rm_X5_time S_X5_time) (h_X5_arrives : q_Ct yX5_arrives wsX5_arrives rm_X5_arrives S_X5_arrives) (h_X5_gravest : q_Ct yX5_gravest wsX5_gravest rm_X5_gravest S_X5_gravest) (h_X5_wheel : q_Ct yX5_wheel wsX5_wheel rm_X5_wheel S_X5_wheel) (h_X5_tick : q_Ct yX5_tick wsX5_tick rm_X5_tick S_X5_tick) (h_L_reasons : q_Ct yL_reasons wsL_reasons rm_L_reasons S_L_reasons) (h_X5_why : q_Ct yX5_why wsX5_why rm_X5_why S_X5_why) (h_X5_axis : q_Ct yX5_axis wsX5_axis rm_X5_axis S_X5_axis) (h_L_size : q_Ct yL_size wsL_size rm_L_size S_L_size) (h_X5_undo : q_Ct yX5_undo wsX5_undo rm_X5_undo S_X5_undo) : ∀ (σ : q_M) (lv : q_L) (st : q_S), k_L_ticks_90 Qp J σ lv st → J 90 σ lv st := fun σ lv st h =>
    so_iconst E (x := 0) dL_ticks_90 h fun σ lv st h =>
    so_zret T dL_ticks_91 h
set_option maxRecDepth 20000 in
theorem sb_L_ticks_92 {J : Nat → q_K} {l : Launch} {Qp : Option q_V → q_M → Prop} (E : q_E J cL_ticks RL wsL_ticks 13 l rm_L_ticks) (T : q_T J cL_ticks (some .boolean) Qp) (h_X5_fingerprint : q_Ct yX5_fingerprint wsX5_fingerprint rm_X5_fingerprint S_X5_fingerprint) (h_X5_time : q_Ct yX5_time wsX5_time rm_X5_time S_X5_time) (h_X5_arrives : q_Ct yX5_arrives wsX5_arrives rm_X5_arrives S_X5_arrives) (h_X5_gravest : q_Ct yX5_gravest wsX5_gravest rm_X5_gravest S_X5_gravest) (h_X5_wheel : q_Ct yX5_wheel wsX5_wheel rm_X5_wheel S_X5_wheel) (h_X5_tick : q_Ct yX5_tick wsX5_tick rm_X5_tick S_X5_tick) (h_L_reasons : q_Ct yL_reasons wsL_reasons rm_L_reasons S_L_reasons) (h_X5_why : q_Ct yX5_why wsX5_why rm_X5_why S_X5_why) (h_X5_axis : q_Ct yX5_axis wsX5_axis rm_X5_axis S_X5_axis) (h_L_size : q_Ct yL_size wsL_size rm_L_size S_L_size) (h_X5_undo : q_Ct yX5_undo wsX5_undo rm_X5_undo S_X5_undo) : ∀ (σ : q_M) (lv : q_L) (st : q_S), k_L_ticks_92 Qp J σ lv st → J 92 σ lv st := fun σ lv st h =>
    so_aload_n E (i := 0) rfl dL_ticks_92 h fun σ lv st h =>
    so_iload_n E (i := 2) rfl dL_ticks_93 h fun σ lv st h =>
    so_callV E (n := 1) (pp := 23) (C := RX5) (T := TX5) (N := 5) (idx := 53) (maxL := 4) (ret := (some .int)) h_X5_tick ⟨rfl, rfl, rfl⟩ rfl gL_ticks_X5_tick rfl ⟨rfl, rfl⟩ (by decide +kernel) (by decide) dL_ticks_94 h fun σ lv st h =>
    so_istore E (i := 9) (by decide) dL_ticks_97 h fun σ lv st h =>
    so_iload E (i := 9) dL_ticks_99 h fun σ lv st h =>
    so_iflt E 152 (by decide) dL_ticks_101 (fun _ _ _ h => h) h fun σ lv st h =>
    so_iload E (i := 9) dL_ticks_104 h fun σ lv st h =>
    so_iload_n E (i := 2) rfl dL_ticks_106 h fun σ lv st h =>
    so_icmpgt E 152 (by decide) dL_ticks_107 (fun _ _ _ h => h) h fun σ lv st h =>
    so_aload_n E (i := 0) rfl dL_ticks_110 h fun σ lv st h =>
    so_callV E (n := 0) (pp := 23) (C := RX5) (T := TX5) (N := 5) (idx := 84) (maxL := 1) (ret := (some .int)) h_X5_time ⟨rfl, rfl, rfl⟩ rfl gL_ticks_X5_time rfl ⟨rfl, rfl⟩ (by decide +kernel) (by decide) dL_ticks_111 h fun σ lv st h =>
    so_iload E (i := 6) dL_ticks_114 h fun σ lv st h =>
    so_iload_n E (i := 2) rfl dL_ticks_116 h fun σ lv st h =>
    so_iadd E dL_ticks_117 h fun σ lv st h =>
    so_icmpne E 152 (by decide) dL_ticks_118 (fun _ _ _ h => h) h fun σ lv st h =>
    so_aload_n E (i := 0) rfl dL_ticks_121 h fun σ lv st h =>
    so_iload_n E (i := 1) rfl dL_ticks_122 h fun σ lv st h =>
    so_callT E (n := 2) (idx := 87) (maxL := 5) (ret := (some .boolean)) h_L_reasons gL_ticks_L_reasons rfl ⟨rfl, rfl⟩ (by decide +kernel) (by decide) dL_ticks_123 h fun σ lv st h =>
    so_ifeq E 152 (by decide) dL_ticks_126 (fun _ _ _ h => h) h fun σ lv st h =>
    so_iload_n E (i := 2) rfl dL_ticks_129 h fun σ lv st h =>
    so_iconst E (x := 1) dL_ticks_130 h fun σ lv st h =>
    so_icmpne E 154 (by decide) dL_ticks_131 (fun _ _ _ h => h) h fun σ lv st h =>
    so_iload E (i := 9) dL_ticks_134 h fun σ lv st h =>
    so_aload_n E (i := 0) rfl dL_ticks_136 h fun σ lv st h =>
    so_iconst E (x := 0) dL_ticks_137 h fun σ lv st h =>
    so_callV E (n := 1) (pp := 23) (C := RX5) (T := TX5) (N := 5) (idx := 63) (maxL := 2) (ret := (some .int)) h_X5_why ⟨rfl, rfl, rfl⟩ rfl gL_ticks_X5_why rfl ⟨rfl, rfl⟩ (by decide +kernel) (by decide) dL_ticks_138 h fun σ lv st h =>
    so_ifne E 148 (by decide) dL_ticks_141 (fun _ _ _ h => h) h fun σ lv st h =>
    so_iconst E (x := 1) dL_ticks_144 h fun σ lv st h =>
    so_goto E 149 (by decide) dL_ticks_145 (fun _ _ _ h => h) h
set_option maxRecDepth 20000 in
theorem sb_L_ticks_148 {J : Nat → q_K} {l : Launch} {Qp : Option q_V → q_M → Prop} (E : q_E J cL_ticks RL wsL_ticks 13 l rm_L_ticks) (T : q_T J cL_ticks (some .boolean) Qp) (h_X5_fingerprint : q_Ct yX5_fingerprint wsX5_fingerprint rm_X5_fingerprint S_X5_fingerprint) (h_X5_time : q_Ct yX5_time wsX5_time rm_X5_time S_X5_time) (h_X5_arrives : q_Ct yX5_arrives wsX5_arrives rm_X5_arrives S_X5_arrives) (h_X5_gravest : q_Ct yX5_gravest wsX5_gravest rm_X5_gravest S_X5_gravest) (h_X5_wheel : q_Ct yX5_wheel wsX5_wheel rm_X5_wheel S_X5_wheel) (h_X5_tick : q_Ct yX5_tick wsX5_tick rm_X5_tick S_X5_tick) (h_L_reasons : q_Ct yL_reasons wsL_reasons rm_L_reasons S_L_reasons) (h_X5_why : q_Ct yX5_why wsX5_why rm_X5_why S_X5_why) (h_X5_axis : q_Ct yX5_axis wsX5_axis rm_X5_axis S_X5_axis) (h_L_size : q_Ct yL_size wsL_size rm_L_size S_L_size) (h_X5_undo : q_Ct yX5_undo wsX5_undo rm_X5_undo S_X5_undo) : ∀ (σ : q_M) (lv : q_L) (st : q_S), k_L_ticks_148 Qp J σ lv st → J 148 σ lv st := fun σ lv st h =>
    so_iconst E (x := 0) dL_ticks_148 h fun σ lv st h =>
    h
set_option maxRecDepth 20000 in
theorem sb_L_ticks_149 {J : Nat → q_K} {l : Launch} {Qp : Option q_V → q_M → Prop} (E : q_E J cL_ticks RL wsL_ticks 13 l rm_L_ticks) (T : q_T J cL_ticks (some .boolean) Qp) (h_X5_fingerprint : q_Ct yX5_fingerprint wsX5_fingerprint rm_X5_fingerprint S_X5_fingerprint) (h_X5_time : q_Ct yX5_time wsX5_time rm_X5_time S_X5_time) (h_X5_arrives : q_Ct yX5_arrives wsX5_arrives rm_X5_arrives S_X5_arrives) (h_X5_gravest : q_Ct yX5_gravest wsX5_gravest rm_X5_gravest S_X5_gravest) (h_X5_wheel : q_Ct yX5_wheel wsX5_wheel rm_X5_wheel S_X5_wheel) (h_X5_tick : q_Ct yX5_tick wsX5_tick rm_X5_tick S_X5_tick) (h_L_reasons : q_Ct yL_reasons wsL_reasons rm_L_reasons S_L_reasons) (h_X5_why : q_Ct yX5_why wsX5_why rm_X5_why S_X5_why) (h_X5_axis : q_Ct yX5_axis wsX5_axis rm_X5_axis S_X5_axis) (h_L_size : q_Ct yL_size wsL_size rm_L_size S_L_size) (h_X5_undo : q_Ct yX5_undo wsX5_undo rm_X5_undo S_X5_undo) : ∀ (σ : q_M) (lv : q_L) (st : q_S), k_L_ticks_149 Qp J σ lv st → J 149 σ lv st := fun σ lv st h =>
    so_icmpeq E 154 (by decide) dL_ticks_149 (fun _ _ _ h => h) h fun σ lv st h =>
    h
set_option maxRecDepth 20000 in
theorem sb_L_ticks_152 {J : Nat → q_K} {l : Launch} {Qp : Option q_V → q_M → Prop} (E : q_E J cL_ticks RL wsL_ticks 13 l rm_L_ticks) (T : q_T J cL_ticks (some .boolean) Qp) (h_X5_fingerprint : q_Ct yX5_fingerprint wsX5_fingerprint rm_X5_fingerprint S_X5_fingerprint) (h_X5_time : q_Ct yX5_time wsX5_time rm_X5_time S_X5_time) (h_X5_arrives : q_Ct yX5_arrives wsX5_arrives rm_X5_arrives S_X5_arrives) (h_X5_gravest : q_Ct yX5_gravest wsX5_gravest rm_X5_gravest S_X5_gravest) (h_X5_wheel : q_Ct yX5_wheel wsX5_wheel rm_X5_wheel S_X5_wheel) (h_X5_tick : q_Ct yX5_tick wsX5_tick rm_X5_tick S_X5_tick) (h_L_reasons : q_Ct yL_reasons wsL_reasons rm_L_reasons S_L_reasons) (h_X5_why : q_Ct yX5_why wsX5_why rm_X5_why S_X5_why) (h_X5_axis : q_Ct yX5_axis wsX5_axis rm_X5_axis S_X5_axis) (h_L_size : q_Ct yL_size wsL_size rm_L_size S_L_size) (h_X5_undo : q_Ct yX5_undo wsX5_undo rm_X5_undo S_X5_undo) : ∀ (σ : q_M) (lv : q_L) (st : q_S), k_L_ticks_152 Qp J σ lv st → J 152 σ lv st := fun σ lv st h =>
    so_iconst E (x := 0) dL_ticks_152 h fun σ lv st h =>
    so_zret T dL_ticks_153 h
set_option maxRecDepth 20000 in
theorem sb_L_ticks_154 {J : Nat → q_K} {l : Launch} {Qp : Option q_V → q_M → Prop} (E : q_E J cL_ticks RL wsL_ticks 13 l rm_L_ticks) (T : q_T J cL_ticks (some .boolean) Qp) (h_X5_fingerprint : q_Ct yX5_fingerprint wsX5_fingerprint rm_X5_fingerprint S_X5_fingerprint) (h_X5_time : q_Ct yX5_time wsX5_time rm_X5_time S_X5_time) (h_X5_arrives : q_Ct yX5_arrives wsX5_arrives rm_X5_arrives S_X5_arrives) (h_X5_gravest : q_Ct yX5_gravest wsX5_gravest rm_X5_gravest S_X5_gravest) (h_X5_wheel : q_Ct yX5_wheel wsX5_wheel rm_X5_wheel S_X5_wheel) (h_X5_tick : q_Ct yX5_tick wsX5_tick rm_X5_tick S_X5_tick) (h_L_reasons : q_Ct yL_reasons wsL_reasons rm_L_reasons S_L_reasons) (h_X5_why : q_Ct yX5_why wsX5_why rm_X5_why S_X5_why) (h_X5_axis : q_Ct yX5_axis wsX5_axis rm_X5_axis S_X5_axis) (h_L_size : q_Ct yL_size wsL_size rm_L_size S_L_size) (h_X5_undo : q_Ct yX5_undo wsX5_undo rm_X5_undo S_X5_undo) : ∀ (σ : q_M) (lv : q_L) (st : q_S), k_L_ticks_154 Qp J σ lv st → J 154 σ lv st := fun σ lv st h =>
    so_iconst E (x := 1) dL_ticks_154 h fun σ lv st h =>
    so_istore E (i := 10) (by decide) dL_ticks_155 h fun σ lv st h =>
    so_iconst E (x := 0) dL_ticks_157 h fun σ lv st h =>
    so_istore E (i := 11) (by decide) dL_ticks_158 h fun σ lv st h =>
    h
set_option maxRecDepth 20000 in
theorem sb_L_ticks_160 {J : Nat → q_K} {l : Launch} {Qp : Option q_V → q_M → Prop} (E : q_E J cL_ticks RL wsL_ticks 13 l rm_L_ticks) (T : q_T J cL_ticks (some .boolean) Qp) (h_X5_fingerprint : q_Ct yX5_fingerprint wsX5_fingerprint rm_X5_fingerprint S_X5_fingerprint) (h_X5_time : q_Ct yX5_time wsX5_time rm_X5_time S_X5_time) (h_X5_arrives : q_Ct yX5_arrives wsX5_arrives rm_X5_arrives S_X5_arrives) (h_X5_gravest : q_Ct yX5_gravest wsX5_gravest rm_X5_gravest S_X5_gravest) (h_X5_wheel : q_Ct yX5_wheel wsX5_wheel rm_X5_wheel S_X5_wheel) (h_X5_tick : q_Ct yX5_tick wsX5_tick rm_X5_tick S_X5_tick) (h_L_reasons : q_Ct yL_reasons wsL_reasons rm_L_reasons S_L_reasons) (h_X5_why : q_Ct yX5_why wsX5_why rm_X5_why S_X5_why) (h_X5_axis : q_Ct yX5_axis wsX5_axis rm_X5_axis S_X5_axis) (h_L_size : q_Ct yL_size wsL_size rm_L_size S_L_size) (h_X5_undo : q_Ct yX5_undo wsX5_undo rm_X5_undo S_X5_undo) : ∀ (σ : q_M) (lv : q_L) (st : q_S), k_L_ticks_160 Qp J σ lv st → J 160 σ lv st := fun σ lv st h =>
    so_iload E (i := 11) dL_ticks_160 h fun σ lv st h =>
    so_iconst E (x := 3) dL_ticks_162 h fun σ lv st h =>
    so_icmpge E 224 (by decide) dL_ticks_163 (fun _ _ _ h => h) h fun σ lv st h =>
    so_iload E (i := 10) dL_ticks_166 h fun σ lv st h =>
    so_ifeq E 215 (by decide) dL_ticks_168 (fun _ _ _ h => h) h fun σ lv st h =>
    so_aload_n E (i := 0) rfl dL_ticks_171 h fun σ lv st h =>
    so_iload E (i := 11) dL_ticks_172 h fun σ lv st h =>
    so_iconst E (x := 0) dL_ticks_174 h fun σ lv st h =>
    so_callV E (n := 2) (pp := 23) (C := RX5) (T := TX5) (N := 5) (idx := 56) (maxL := 3) (ret := (some .long)) h_X5_axis ⟨rfl, rfl, rfl⟩ rfl gL_ticks_X5_axis rfl ⟨rfl, rfl⟩ (by decide +kernel) (by decide) dL_ticks_175 h fun σ lv st h =>
    so_aload_n E (i := 0) rfl dL_ticks_178 h fun σ lv st h =>
    so_iload E (i := 11) dL_ticks_179 h fun σ lv st h =>
    so_bipush E (x := 6) rfl dL_ticks_181 h fun σ lv st h =>
    so_callV E (n := 2) (pp := 23) (C := RX5) (T := TX5) (N := 5) (idx := 56) (maxL := 3) (ret := (some .long)) h_X5_axis ⟨rfl, rfl, rfl⟩ rfl gL_ticks_X5_axis rfl ⟨rfl, rfl⟩ (by decide +kernel) (by decide) dL_ticks_183 h fun σ lv st h =>
    so_lsub E dL_ticks_186 h fun σ lv st h =>
    so_callT E (n := 1) (idx := 76) (maxL := 2) (ret := (some .long)) h_L_size gL_ticks_L_size rfl ⟨rfl, rfl⟩ (by decide +kernel) (by decide) dL_ticks_187 h fun σ lv st h =>
    so_iload_n E (i := 3) rfl dL_ticks_190 h fun σ lv st h =>
    so_i2l E dL_ticks_191 h fun σ lv st h =>
    so_lcmp E dL_ticks_192 h fun σ lv st h =>
    so_ifgt E 215 (by decide) dL_ticks_193 (fun _ _ _ h => h) h fun σ lv st h =>
    so_aload_n E (i := 0) rfl dL_ticks_196 h fun σ lv st h =>
    so_iload E (i := 11) dL_ticks_197 h fun σ lv st h =>
    so_iconst E (x := 2) dL_ticks_199 h fun σ lv st h =>
    so_callV E (n := 2) (pp := 23) (C := RX5) (T := TX5) (N := 5) (idx := 56) (maxL := 3) (ret := (some .long)) h_X5_axis ⟨rfl, rfl, rfl⟩ rfl gL_ticks_X5_axis rfl ⟨rfl, rfl⟩ (by decide +kernel) (by decide) dL_ticks_200 h fun σ lv st h =>
    so_callT E (n := 1) (idx := 76) (maxL := 2) (ret := (some .long)) h_L_size gL_ticks_L_size rfl ⟨rfl, rfl⟩ (by decide +kernel) (by decide) dL_ticks_203 h fun σ lv st h =>
    so_lconst E (x := 1) rfl dL_ticks_206 h fun σ lv st h =>
    so_lcmp E dL_ticks_207 h fun σ lv st h =>
    so_ifgt E 215 (by decide) dL_ticks_208 (fun _ _ _ h => h) h fun σ lv st h =>
    so_iconst E (x := 1) dL_ticks_211 h fun σ lv st h =>
    so_goto E 216 (by decide) dL_ticks_212 (fun _ _ _ h => h) h
set_option maxRecDepth 20000 in
theorem sb_L_ticks_215 {J : Nat → q_K} {l : Launch} {Qp : Option q_V → q_M → Prop} (E : q_E J cL_ticks RL wsL_ticks 13 l rm_L_ticks) (T : q_T J cL_ticks (some .boolean) Qp) (h_X5_fingerprint : q_Ct yX5_fingerprint wsX5_fingerprint rm_X5_fingerprint S_X5_fingerprint) (h_X5_time : q_Ct yX5_time wsX5_time rm_X5_time S_X5_time) (h_X5_arrives : q_Ct yX5_arrives wsX5_arrives rm_X5_arrives S_X5_arrives) (h_X5_gravest : q_Ct yX5_gravest wsX5_gravest rm_X5_gravest S_X5_gravest) (h_X5_wheel : q_Ct yX5_wheel wsX5_wheel rm_X5_wheel S_X5_wheel) (h_X5_tick : q_Ct yX5_tick wsX5_tick rm_X5_tick S_X5_tick) (h_L_reasons : q_Ct yL_reasons wsL_reasons rm_L_reasons S_L_reasons) (h_X5_why : q_Ct yX5_why wsX5_why rm_X5_why S_X5_why) (h_X5_axis : q_Ct yX5_axis wsX5_axis rm_X5_axis S_X5_axis) (h_L_size : q_Ct yL_size wsL_size rm_L_size S_L_size) (h_X5_undo : q_Ct yX5_undo wsX5_undo rm_X5_undo S_X5_undo) : ∀ (σ : q_M) (lv : q_L) (st : q_S), k_L_ticks_215 Qp J σ lv st → J 215 σ lv st := fun σ lv st h =>
    so_iconst E (x := 0) dL_ticks_215 h fun σ lv st h =>
    h
set_option maxRecDepth 20000 in
theorem sb_L_ticks_216 {J : Nat → q_K} {l : Launch} {Qp : Option q_V → q_M → Prop} (E : q_E J cL_ticks RL wsL_ticks 13 l rm_L_ticks) (T : q_T J cL_ticks (some .boolean) Qp) (h_X5_fingerprint : q_Ct yX5_fingerprint wsX5_fingerprint rm_X5_fingerprint S_X5_fingerprint) (h_X5_time : q_Ct yX5_time wsX5_time rm_X5_time S_X5_time) (h_X5_arrives : q_Ct yX5_arrives wsX5_arrives rm_X5_arrives S_X5_arrives) (h_X5_gravest : q_Ct yX5_gravest wsX5_gravest rm_X5_gravest S_X5_gravest) (h_X5_wheel : q_Ct yX5_wheel wsX5_wheel rm_X5_wheel S_X5_wheel) (h_X5_tick : q_Ct yX5_tick wsX5_tick rm_X5_tick S_X5_tick) (h_L_reasons : q_Ct yL_reasons wsL_reasons rm_L_reasons S_L_reasons) (h_X5_why : q_Ct yX5_why wsX5_why rm_X5_why S_X5_why) (h_X5_axis : q_Ct yX5_axis wsX5_axis rm_X5_axis S_X5_axis) (h_L_size : q_Ct yL_size wsL_size rm_L_size S_L_size) (h_X5_undo : q_Ct yX5_undo wsX5_undo rm_X5_undo S_X5_undo) : ∀ (σ : q_M) (lv : q_L) (st : q_S), k_L_ticks_216 Qp J σ lv st → J 216 σ lv st := fun σ lv st h =>
    so_istore E (i := 10) (by decide) dL_ticks_216 h fun σ lv st h =>
    so_iinc E (i := 11) (n := 1) (by decide) dL_ticks_218 h fun σ lv st h =>
    so_goto E 160 (by decide) dL_ticks_221 (fun _ _ _ h => h) h
set_option maxRecDepth 20000 in
theorem sb_L_ticks_224 {J : Nat → q_K} {l : Launch} {Qp : Option q_V → q_M → Prop} (E : q_E J cL_ticks RL wsL_ticks 13 l rm_L_ticks) (T : q_T J cL_ticks (some .boolean) Qp) (h_X5_fingerprint : q_Ct yX5_fingerprint wsX5_fingerprint rm_X5_fingerprint S_X5_fingerprint) (h_X5_time : q_Ct yX5_time wsX5_time rm_X5_time S_X5_time) (h_X5_arrives : q_Ct yX5_arrives wsX5_arrives rm_X5_arrives S_X5_arrives) (h_X5_gravest : q_Ct yX5_gravest wsX5_gravest rm_X5_gravest S_X5_gravest) (h_X5_wheel : q_Ct yX5_wheel wsX5_wheel rm_X5_wheel S_X5_wheel) (h_X5_tick : q_Ct yX5_tick wsX5_tick rm_X5_tick S_X5_tick) (h_L_reasons : q_Ct yL_reasons wsL_reasons rm_L_reasons S_L_reasons) (h_X5_why : q_Ct yX5_why wsX5_why rm_X5_why S_X5_why) (h_X5_axis : q_Ct yX5_axis wsX5_axis rm_X5_axis S_X5_axis) (h_L_size : q_Ct yL_size wsL_size rm_L_size S_L_size) (h_X5_undo : q_Ct yX5_undo wsX5_undo rm_X5_undo S_X5_undo) : ∀ (σ : q_M) (lv : q_L) (st : q_S), k_L_ticks_224 Qp J σ lv st → J 224 σ lv st := fun σ lv st h =>
    so_iload E (i := 7) dL_ticks_224 h fun σ lv st h =>
    so_iload_n E (i := 2) rfl dL_ticks_226 h fun σ lv st h =>
    so_icmpne E 235 (by decide) dL_ticks_227 (fun _ _ _ h => h) h fun σ lv st h =>
    so_iload E (i := 10) dL_ticks_230 h fun σ lv st h =>
    so_ifeq E 253 (by decide) dL_ticks_232 (fun _ _ _ h => h) h fun σ lv st h =>
    h
set_option maxRecDepth 20000 in
theorem sb_L_ticks_235 {J : Nat → q_K} {l : Launch} {Qp : Option q_V → q_M → Prop} (E : q_E J cL_ticks RL wsL_ticks 13 l rm_L_ticks) (T : q_T J cL_ticks (some .boolean) Qp) (h_X5_fingerprint : q_Ct yX5_fingerprint wsX5_fingerprint rm_X5_fingerprint S_X5_fingerprint) (h_X5_time : q_Ct yX5_time wsX5_time rm_X5_time S_X5_time) (h_X5_arrives : q_Ct yX5_arrives wsX5_arrives rm_X5_arrives S_X5_arrives) (h_X5_gravest : q_Ct yX5_gravest wsX5_gravest rm_X5_gravest S_X5_gravest) (h_X5_wheel : q_Ct yX5_wheel wsX5_wheel rm_X5_wheel S_X5_wheel) (h_X5_tick : q_Ct yX5_tick wsX5_tick rm_X5_tick S_X5_tick) (h_L_reasons : q_Ct yL_reasons wsL_reasons rm_L_reasons S_L_reasons) (h_X5_why : q_Ct yX5_why wsX5_why rm_X5_why S_X5_why) (h_X5_axis : q_Ct yX5_axis wsX5_axis rm_X5_axis S_X5_axis) (h_L_size : q_Ct yL_size wsL_size rm_L_size S_L_size) (h_X5_undo : q_Ct yX5_undo wsX5_undo rm_X5_undo S_X5_undo) : ∀ (σ : q_M) (lv : q_L) (st : q_S), k_L_ticks_235 Qp J σ lv st → J 235 σ lv st := fun σ lv st h =>
    so_iload E (i := 10) dL_ticks_235 h fun σ lv st h =>
    so_ifeq E 255 (by decide) dL_ticks_237 (fun _ _ _ h => h) h fun σ lv st h =>
    so_iload E (i := 7) dL_ticks_240 h fun σ lv st h =>
    so_ldc E (x := -2000009) (idx := 66) (v := -2000009) (List.mem_of_getElem? (i := 1) rfl) rfl dL_ticks_242 h fun σ lv st h =>
    so_icmpeq E 253 (by decide) dL_ticks_244 (fun _ _ _ h => h) h fun σ lv st h =>
    so_iload E (i := 7) dL_ticks_247 h fun σ lv st h =>
    so_iload_n E (i := 2) rfl dL_ticks_249 h fun σ lv st h =>
    so_icmple E 255 (by decide) dL_ticks_250 (fun _ _ _ h => h) h fun σ lv st h =>
    h
set_option maxRecDepth 20000 in
theorem sb_L_ticks_253 {J : Nat → q_K} {l : Launch} {Qp : Option q_V → q_M → Prop} (E : q_E J cL_ticks RL wsL_ticks 13 l rm_L_ticks) (T : q_T J cL_ticks (some .boolean) Qp) (h_X5_fingerprint : q_Ct yX5_fingerprint wsX5_fingerprint rm_X5_fingerprint S_X5_fingerprint) (h_X5_time : q_Ct yX5_time wsX5_time rm_X5_time S_X5_time) (h_X5_arrives : q_Ct yX5_arrives wsX5_arrives rm_X5_arrives S_X5_arrives) (h_X5_gravest : q_Ct yX5_gravest wsX5_gravest rm_X5_gravest S_X5_gravest) (h_X5_wheel : q_Ct yX5_wheel wsX5_wheel rm_X5_wheel S_X5_wheel) (h_X5_tick : q_Ct yX5_tick wsX5_tick rm_X5_tick S_X5_tick) (h_L_reasons : q_Ct yL_reasons wsL_reasons rm_L_reasons S_L_reasons) (h_X5_why : q_Ct yX5_why wsX5_why rm_X5_why S_X5_why) (h_X5_axis : q_Ct yX5_axis wsX5_axis rm_X5_axis S_X5_axis) (h_L_size : q_Ct yL_size wsL_size rm_L_size S_L_size) (h_X5_undo : q_Ct yX5_undo wsX5_undo rm_X5_undo S_X5_undo) : ∀ (σ : q_M) (lv : q_L) (st : q_S), k_L_ticks_253 Qp J σ lv st → J 253 σ lv st := fun σ lv st h =>
    so_iconst E (x := 0) dL_ticks_253 h fun σ lv st h =>
    so_zret T dL_ticks_254 h
set_option maxRecDepth 20000 in
theorem sb_L_ticks_255 {J : Nat → q_K} {l : Launch} {Qp : Option q_V → q_M → Prop} (E : q_E J cL_ticks RL wsL_ticks 13 l rm_L_ticks) (T : q_T J cL_ticks (some .boolean) Qp) (h_X5_fingerprint : q_Ct yX5_fingerprint wsX5_fingerprint rm_X5_fingerprint S_X5_fingerprint) (h_X5_time : q_Ct yX5_time wsX5_time rm_X5_time S_X5_time) (h_X5_arrives : q_Ct yX5_arrives wsX5_arrives rm_X5_arrives S_X5_arrives) (h_X5_gravest : q_Ct yX5_gravest wsX5_gravest rm_X5_gravest S_X5_gravest) (h_X5_wheel : q_Ct yX5_wheel wsX5_wheel rm_X5_wheel S_X5_wheel) (h_X5_tick : q_Ct yX5_tick wsX5_tick rm_X5_tick S_X5_tick) (h_L_reasons : q_Ct yL_reasons wsL_reasons rm_L_reasons S_L_reasons) (h_X5_why : q_Ct yX5_why wsX5_why rm_X5_why S_X5_why) (h_X5_axis : q_Ct yX5_axis wsX5_axis rm_X5_axis S_X5_axis) (h_L_size : q_Ct yL_size wsL_size rm_L_size S_L_size) (h_X5_undo : q_Ct yX5_undo wsX5_undo rm_X5_undo S_X5_undo) : ∀ (σ : q_M) (lv : q_L) (st : q_S), k_L_ticks_255 Qp J σ lv st → J 255 σ lv st := fun σ lv st h =>
    so_iconst E (x := 0) dL_ticks_255 h fun σ lv st h =>
    so_istore E (i := 11) (by decide) dL_ticks_256 h fun σ lv st h =>
    h
set_option maxRecDepth 20000 in
theorem sb_L_ticks_258 {J : Nat → q_K} {l : Launch} {Qp : Option q_V → q_M → Prop} (E : q_E J cL_ticks RL wsL_ticks 13 l rm_L_ticks) (T : q_T J cL_ticks (some .boolean) Qp) (h_X5_fingerprint : q_Ct yX5_fingerprint wsX5_fingerprint rm_X5_fingerprint S_X5_fingerprint) (h_X5_time : q_Ct yX5_time wsX5_time rm_X5_time S_X5_time) (h_X5_arrives : q_Ct yX5_arrives wsX5_arrives rm_X5_arrives S_X5_arrives) (h_X5_gravest : q_Ct yX5_gravest wsX5_gravest rm_X5_gravest S_X5_gravest) (h_X5_wheel : q_Ct yX5_wheel wsX5_wheel rm_X5_wheel S_X5_wheel) (h_X5_tick : q_Ct yX5_tick wsX5_tick rm_X5_tick S_X5_tick) (h_L_reasons : q_Ct yL_reasons wsL_reasons rm_L_reasons S_L_reasons) (h_X5_why : q_Ct yX5_why wsX5_why rm_X5_why S_X5_why) (h_X5_axis : q_Ct yX5_axis wsX5_axis rm_X5_axis S_X5_axis) (h_L_size : q_Ct yL_size wsL_size rm_L_size S_L_size) (h_X5_undo : q_Ct yX5_undo wsX5_undo rm_X5_undo S_X5_undo) : ∀ (σ : q_M) (lv : q_L) (st : q_S), k_L_ticks_258 Qp J σ lv st → J 258 σ lv st := fun σ lv st h =>
    so_iload E (i := 11) dL_ticks_258 h fun σ lv st h =>
    so_iload_n E (i := 1) rfl dL_ticks_260 h fun σ lv st h =>
    so_icmpge E 339 (by decide) dL_ticks_261 (fun _ _ _ h => h) h fun σ lv st h =>
    so_aload_n E (i := 0) rfl dL_ticks_264 h fun σ lv st h =>
    so_iload E (i := 11) dL_ticks_265 h fun σ lv st h =>
    so_bipush E (x := 7) rfl dL_ticks_267 h fun σ lv st h =>
    so_callV E (n := 2) (pp := 23) (C := RX5) (T := TX5) (N := 5) (idx := 31) (maxL := 3) (ret := (some .int)) h_X5_wheel ⟨rfl, rfl, rfl⟩ rfl gL_ticks_X5_wheel rfl ⟨rfl, rfl⟩ (by decide +kernel) (by decide) dL_ticks_269 h fun σ lv st h =>
    so_i2l E dL_ticks_272 h fun σ lv st h =>
    so_callT E (n := 1) (idx := 76) (maxL := 2) (ret := (some .long)) h_L_size gL_ticks_L_size rfl ⟨rfl, rfl⟩ (by decide +kernel) (by decide) dL_ticks_273 h fun σ lv st h =>
    so_aload_n E (i := 0) rfl dL_ticks_276 h fun σ lv st h =>
    so_iload E (i := 11) dL_ticks_277 h fun σ lv st h =>
    so_iconst E (x := 5) dL_ticks_279 h fun σ lv st h =>
    so_callV E (n := 2) (pp := 23) (C := RX5) (T := TX5) (N := 5) (idx := 31) (maxL := 3) (ret := (some .int)) h_X5_wheel ⟨rfl, rfl, rfl⟩ rfl gL_ticks_X5_wheel rfl ⟨rfl, rfl⟩ (by decide +kernel) (by decide) dL_ticks_280 h fun σ lv st h =>
    so_i2l E dL_ticks_283 h fun σ lv st h =>
    so_lcmp E dL_ticks_284 h fun σ lv st h =>
    so_ifgt E 331 (by decide) dL_ticks_285 (fun _ _ _ h => h) h fun σ lv st h =>
    so_aload_n E (i := 0) rfl dL_ticks_288 h fun σ lv st h =>
    so_iload E (i := 11) dL_ticks_289 h fun σ lv st h =>
    so_bipush E (x := 6) rfl dL_ticks_291 h fun σ lv st h =>
    so_callV E (n := 2) (pp := 23) (C := RX5) (T := TX5) (N := 5) (idx := 31) (maxL := 3) (ret := (some .int)) h_X5_wheel ⟨rfl, rfl, rfl⟩ rfl gL_ticks_X5_wheel rfl ⟨rfl, rfl⟩ (by decide +kernel) (by decide) dL_ticks_293 h fun σ lv st h =>
    so_iconst E (x := 1) dL_ticks_296 h fun σ lv st h =>
    so_icmpne E 311 (by decide) dL_ticks_297 (fun _ _ _ h => h) h fun σ lv st h =>
    so_aload_n E (i := 0) rfl dL_ticks_300 h fun σ lv st h =>
    so_iload E (i := 11) dL_ticks_301 h fun σ lv st h =>
    so_bipush E (x := 7) rfl dL_ticks_303 h fun σ lv st h =>
    so_callV E (n := 2) (pp := 23) (C := RX5) (T := TX5) (N := 5) (idx := 31) (maxL := 3) (ret := (some .int)) h_X5_wheel ⟨rfl, rfl, rfl⟩ rfl gL_ticks_X5_wheel rfl ⟨rfl, rfl⟩ (by decide +kernel) (by decide) dL_ticks_305 h fun σ lv st h =>
    so_ifne E 331 (by decide) dL_ticks_308 (fun _ _ _ h => h) h fun σ lv st h =>
    h
set_option maxRecDepth 20000 in
theorem sb_L_ticks_311 {J : Nat → q_K} {l : Launch} {Qp : Option q_V → q_M → Prop} (E : q_E J cL_ticks RL wsL_ticks 13 l rm_L_ticks) (T : q_T J cL_ticks (some .boolean) Qp) (h_X5_fingerprint : q_Ct yX5_fingerprint wsX5_fingerprint rm_X5_fingerprint S_X5_fingerprint) (h_X5_time : q_Ct yX5_time wsX5_time rm_X5_time S_X5_time) (h_X5_arrives : q_Ct yX5_arrives wsX5_arrives rm_X5_arrives S_X5_arrives) (h_X5_gravest : q_Ct yX5_gravest wsX5_gravest rm_X5_gravest S_X5_gravest) (h_X5_wheel : q_Ct yX5_wheel wsX5_wheel rm_X5_wheel S_X5_wheel) (h_X5_tick : q_Ct yX5_tick wsX5_tick rm_X5_tick S_X5_tick) (h_L_reasons : q_Ct yL_reasons wsL_reasons rm_L_reasons S_L_reasons) (h_X5_why : q_Ct yX5_why wsX5_why rm_X5_why S_X5_why) (h_X5_axis : q_Ct yX5_axis wsX5_axis rm_X5_axis S_X5_axis) (h_L_size : q_Ct yL_size wsL_size rm_L_size S_L_size) (h_X5_undo : q_Ct yX5_undo wsX5_undo rm_X5_undo S_X5_undo) : ∀ (σ : q_M) (lv : q_L) (st : q_S), k_L_ticks_311 Qp J σ lv st → J 311 σ lv st := fun σ lv st h =>
    so_aload_n E (i := 0) rfl dL_ticks_311 h fun σ lv st h =>
    so_iconst E (x := 0) dL_ticks_312 h fun σ lv st h =>
    so_callV E (n := 1) (pp := 23) (C := RX5) (T := TX5) (N := 5) (idx := 63) (maxL := 2) (ret := (some .int)) h_X5_why ⟨rfl, rfl, rfl⟩ rfl gL_ticks_X5_why rfl ⟨rfl, rfl⟩ (by decide +kernel) (by decide) dL_ticks_313 h fun σ lv st h =>
    so_iconst E (x := 1) dL_ticks_316 h fun σ lv st h =>
    so_icmpne E 333 (by decide) dL_ticks_317 (fun _ _ _ h => h) h fun σ lv st h =>
    so_aload_n E (i := 0) rfl dL_ticks_320 h fun σ lv st h =>
    so_iload E (i := 11) dL_ticks_321 h fun σ lv st h =>
    so_bipush E (x := 7) rfl dL_ticks_323 h fun σ lv st h =>
    so_callV E (n := 2) (pp := 23) (C := RX5) (T := TX5) (N := 5) (idx := 31) (maxL := 3) (ret := (some .int)) h_X5_wheel ⟨rfl, rfl, rfl⟩ rfl gL_ticks_X5_wheel rfl ⟨rfl, rfl⟩ (by decide +kernel) (by decide) dL_ticks_325 h fun σ lv st h =>
    so_ifeq E 333 (by decide) dL_ticks_328 (fun _ _ _ h => h) h fun σ lv st h =>
    h
set_option maxRecDepth 20000 in
theorem sb_L_ticks_331 {J : Nat → q_K} {l : Launch} {Qp : Option q_V → q_M → Prop} (E : q_E J cL_ticks RL wsL_ticks 13 l rm_L_ticks) (T : q_T J cL_ticks (some .boolean) Qp) (h_X5_fingerprint : q_Ct yX5_fingerprint wsX5_fingerprint rm_X5_fingerprint S_X5_fingerprint) (h_X5_time : q_Ct yX5_time wsX5_time rm_X5_time S_X5_time) (h_X5_arrives : q_Ct yX5_arrives wsX5_arrives rm_X5_arrives S_X5_arrives) (h_X5_gravest : q_Ct yX5_gravest wsX5_gravest rm_X5_gravest S_X5_gravest) (h_X5_wheel : q_Ct yX5_wheel wsX5_wheel rm_X5_wheel S_X5_wheel) (h_X5_tick : q_Ct yX5_tick wsX5_tick rm_X5_tick S_X5_tick) (h_L_reasons : q_Ct yL_reasons wsL_reasons rm_L_reasons S_L_reasons) (h_X5_why : q_Ct yX5_why wsX5_why rm_X5_why S_X5_why) (h_X5_axis : q_Ct yX5_axis wsX5_axis rm_X5_axis S_X5_axis) (h_L_size : q_Ct yL_size wsL_size rm_L_size S_L_size) (h_X5_undo : q_Ct yX5_undo wsX5_undo rm_X5_undo S_X5_undo) : ∀ (σ : q_M) (lv : q_L) (st : q_S), k_L_ticks_331 Qp J σ lv st → J 331 σ lv st := fun σ lv st h =>
    so_iconst E (x := 0) dL_ticks_331 h fun σ lv st h =>
    so_zret T dL_ticks_332 h
set_option maxRecDepth 20000 in
theorem sb_L_ticks_333 {J : Nat → q_K} {l : Launch} {Qp : Option q_V → q_M → Prop} (E : q_E J cL_ticks RL wsL_ticks 13 l rm_L_ticks) (T : q_T J cL_ticks (some .boolean) Qp) (h_X5_fingerprint : q_Ct yX5_fingerprint wsX5_fingerprint rm_X5_fingerprint S_X5_fingerprint) (h_X5_time : q_Ct yX5_time wsX5_time rm_X5_time S_X5_time) (h_X5_arrives : q_Ct yX5_arrives wsX5_arrives rm_X5_arrives S_X5_arrives) (h_X5_gravest : q_Ct yX5_gravest wsX5_gravest rm_X5_gravest S_X5_gravest) (h_X5_wheel : q_Ct yX5_wheel wsX5_wheel rm_X5_wheel S_X5_wheel) (h_X5_tick : q_Ct yX5_tick wsX5_tick rm_X5_tick S_X5_tick) (h_L_reasons : q_Ct yL_reasons wsL_reasons rm_L_reasons S_L_reasons) (h_X5_why : q_Ct yX5_why wsX5_why rm_X5_why S_X5_why) (h_X5_axis : q_Ct yX5_axis wsX5_axis rm_X5_axis S_X5_axis) (h_L_size : q_Ct yL_size wsL_size rm_L_size S_L_size) (h_X5_undo : q_Ct yX5_undo wsX5_undo rm_X5_undo S_X5_undo) : ∀ (σ : q_M) (lv : q_L) (st : q_S), k_L_ticks_333 Qp J σ lv st → J 333 σ lv st := fun σ lv st h =>
    so_iinc E (i := 11) (n := 1) (by decide) dL_ticks_333 h fun σ lv st h =>
    so_goto E 258 (by decide) dL_ticks_336 (fun _ _ _ h => h) h
set_option maxRecDepth 20000 in
theorem sb_L_ticks_339 {J : Nat → q_K} {l : Launch} {Qp : Option q_V → q_M → Prop} (E : q_E J cL_ticks RL wsL_ticks 13 l rm_L_ticks) (T : q_T J cL_ticks (some .boolean) Qp) (h_X5_fingerprint : q_Ct yX5_fingerprint wsX5_fingerprint rm_X5_fingerprint S_X5_fingerprint) (h_X5_time : q_Ct yX5_time wsX5_time rm_X5_time S_X5_time) (h_X5_arrives : q_Ct yX5_arrives wsX5_arrives rm_X5_arrives S_X5_arrives) (h_X5_gravest : q_Ct yX5_gravest wsX5_gravest rm_X5_gravest S_X5_gravest) (h_X5_wheel : q_Ct yX5_wheel wsX5_wheel rm_X5_wheel S_X5_wheel) (h_X5_tick : q_Ct yX5_tick wsX5_tick rm_X5_tick S_X5_tick) (h_L_reasons : q_Ct yL_reasons wsL_reasons rm_L_reasons S_L_reasons) (h_X5_why : q_Ct yX5_why wsX5_why rm_X5_why S_X5_why) (h_X5_axis : q_Ct yX5_axis wsX5_axis rm_X5_axis S_X5_axis) (h_L_size : q_Ct yL_size wsL_size rm_L_size S_L_size) (h_X5_undo : q_Ct yX5_undo wsX5_undo rm_X5_undo S_X5_undo) : ∀ (σ : q_M) (lv : q_L) (st : q_S), k_L_ticks_339 Qp J σ lv st → J 339 σ lv st := fun σ lv st h =>
    so_aload_n E (i := 0) rfl dL_ticks_339 h fun σ lv st h =>
    so_callV E (n := 0) (pp := 23) (C := RX5) (T := TX5) (N := 5) (idx := 9) (maxL := 5) (ret := (some .long)) h_X5_fingerprint ⟨rfl, rfl, rfl⟩ rfl gL_ticks_X5_fingerprint rfl ⟨rfl, rfl⟩ (by decide +kernel) (by decide) dL_ticks_340 h fun σ lv st h =>
    so_lstore E (i := 11) (by decide) dL_ticks_343 h fun σ lv st h =>
    so_aload_n E (i := 0) rfl dL_ticks_345 h fun σ lv st h =>
    so_callV E (n := 0) (pp := 23) (C := RX5) (T := TX5) (N := 5) (idx := 91) (maxL := 1) (ret := (some .int)) h_X5_undo ⟨rfl, rfl, rfl⟩ rfl gL_ticks_X5_undo rfl ⟨rfl, rfl⟩ (by decide +kernel) (by decide) dL_ticks_346 h fun σ lv st h =>
    so_iflt E 386 (by decide) dL_ticks_349 (fun _ _ _ h => h) h fun σ lv st h =>
    so_aload_n E (i := 0) rfl dL_ticks_352 h fun σ lv st h =>
    so_callV E (n := 0) (pp := 23) (C := RX5) (T := TX5) (N := 5) (idx := 9) (maxL := 5) (ret := (some .long)) h_X5_fingerprint ⟨rfl, rfl, rfl⟩ rfl gL_ticks_X5_fingerprint rfl ⟨rfl, rfl⟩ (by decide +kernel) (by decide) dL_ticks_353 h fun σ lv st h =>
    so_lload E (i := 4) dL_ticks_356 h fun σ lv st h =>
    so_lcmp E dL_ticks_358 h fun σ lv st h =>
    so_ifne E 386 (by decide) dL_ticks_359 (fun _ _ _ h => h) h fun σ lv st h =>
    so_aload_n E (i := 0) rfl dL_ticks_362 h fun σ lv st h =>
    so_iload_n E (i := 2) rfl dL_ticks_363 h fun σ lv st h =>
    so_callV E (n := 1) (pp := 23) (C := RX5) (T := TX5) (N := 5) (idx := 53) (maxL := 4) (ret := (some .int)) h_X5_tick ⟨rfl, rfl, rfl⟩ rfl gL_ticks_X5_tick rfl ⟨rfl, rfl⟩ (by decide +kernel) (by decide) dL_ticks_364 h fun σ lv st h =>
    so_iload E (i := 9) dL_ticks_367 h fun σ lv st h =>
    so_icmpne E 386 (by decide) dL_ticks_369 (fun _ _ _ h => h) h fun σ lv st h =>
    so_aload_n E (i := 0) rfl dL_ticks_372 h fun σ lv st h =>
    so_callV E (n := 0) (pp := 23) (C := RX5) (T := TX5) (N := 5) (idx := 9) (maxL := 5) (ret := (some .long)) h_X5_fingerprint ⟨rfl, rfl, rfl⟩ rfl gL_ticks_X5_fingerprint rfl ⟨rfl, rfl⟩ (by decide +kernel) (by decide) dL_ticks_373 h fun σ lv st h =>
    so_lload E (i := 11) dL_ticks_376 h fun σ lv st h =>
    so_lcmp E dL_ticks_378 h fun σ lv st h =>
    so_ifne E 386 (by decide) dL_ticks_379 (fun _ _ _ h => h) h fun σ lv st h =>
    so_iconst E (x := 1) dL_ticks_382 h fun σ lv st h =>
    so_goto E 387 (by decide) dL_ticks_383 (fun _ _ _ h => h) h
set_option maxRecDepth 20000 in
theorem sb_L_ticks_386 {J : Nat → q_K} {l : Launch} {Qp : Option q_V → q_M → Prop} (E : q_E J cL_ticks RL wsL_ticks 13 l rm_L_ticks) (T : q_T J cL_ticks (some .boolean) Qp) (h_X5_fingerprint : q_Ct yX5_fingerprint wsX5_fingerprint rm_X5_fingerprint S_X5_fingerprint) (h_X5_time : q_Ct yX5_time wsX5_time rm_X5_time S_X5_time) (h_X5_arrives : q_Ct yX5_arrives wsX5_arrives rm_X5_arrives S_X5_arrives) (h_X5_gravest : q_Ct yX5_gravest wsX5_gravest rm_X5_gravest S_X5_gravest) (h_X5_wheel : q_Ct yX5_wheel wsX5_wheel rm_X5_wheel S_X5_wheel) (h_X5_tick : q_Ct yX5_tick wsX5_tick rm_X5_tick S_X5_tick) (h_L_reasons : q_Ct yL_reasons wsL_reasons rm_L_reasons S_L_reasons) (h_X5_why : q_Ct yX5_why wsX5_why rm_X5_why S_X5_why) (h_X5_axis : q_Ct yX5_axis wsX5_axis rm_X5_axis S_X5_axis) (h_L_size : q_Ct yL_size wsL_size rm_L_size S_L_size) (h_X5_undo : q_Ct yX5_undo wsX5_undo rm_X5_undo S_X5_undo) : ∀ (σ : q_M) (lv : q_L) (st : q_S), k_L_ticks_386 Qp J σ lv st → J 386 σ lv st := fun σ lv st h =>
    so_iconst E (x := 0) dL_ticks_386 h fun σ lv st h =>
    h
set_option maxRecDepth 20000 in
theorem sb_L_ticks_387 {J : Nat → q_K} {l : Launch} {Qp : Option q_V → q_M → Prop} (E : q_E J cL_ticks RL wsL_ticks 13 l rm_L_ticks) (T : q_T J cL_ticks (some .boolean) Qp) (h_X5_fingerprint : q_Ct yX5_fingerprint wsX5_fingerprint rm_X5_fingerprint S_X5_fingerprint) (h_X5_time : q_Ct yX5_time wsX5_time rm_X5_time S_X5_time) (h_X5_arrives : q_Ct yX5_arrives wsX5_arrives rm_X5_arrives S_X5_arrives) (h_X5_gravest : q_Ct yX5_gravest wsX5_gravest rm_X5_gravest S_X5_gravest) (h_X5_wheel : q_Ct yX5_wheel wsX5_wheel rm_X5_wheel S_X5_wheel) (h_X5_tick : q_Ct yX5_tick wsX5_tick rm_X5_tick S_X5_tick) (h_L_reasons : q_Ct yL_reasons wsL_reasons rm_L_reasons S_L_reasons) (h_X5_why : q_Ct yX5_why wsX5_why rm_X5_why S_X5_why) (h_X5_axis : q_Ct yX5_axis wsX5_axis rm_X5_axis S_X5_axis) (h_L_size : q_Ct yL_size wsL_size rm_L_size S_L_size) (h_X5_undo : q_Ct yX5_undo wsX5_undo rm_X5_undo S_X5_undo) : ∀ (σ : q_M) (lv : q_L) (st : q_S), k_L_ticks_387 Qp J σ lv st → J 387 σ lv st := fun σ lv st h =>
    so_zret T dL_ticks_387 h
theorem c_L_ticks (h_X5_fingerprint : q_Ct yX5_fingerprint wsX5_fingerprint rm_X5_fingerprint S_X5_fingerprint) (h_X5_time : q_Ct yX5_time wsX5_time rm_X5_time S_X5_time) (h_X5_arrives : q_Ct yX5_arrives wsX5_arrives rm_X5_arrives S_X5_arrives) (h_X5_gravest : q_Ct yX5_gravest wsX5_gravest rm_X5_gravest S_X5_gravest) (h_X5_wheel : q_Ct yX5_wheel wsX5_wheel rm_X5_wheel S_X5_wheel) (h_X5_tick : q_Ct yX5_tick wsX5_tick rm_X5_tick S_X5_tick) (h_L_reasons : q_Ct yL_reasons wsL_reasons rm_L_reasons S_L_reasons) (h_X5_why : q_Ct yX5_why wsX5_why rm_X5_why S_X5_why) (h_X5_axis : q_Ct yX5_axis wsX5_axis rm_X5_axis S_X5_axis) (h_L_size : q_Ct yL_size wsL_size rm_L_size S_L_size) (h_X5_undo : q_Ct yX5_undo wsX5_undo rm_X5_undo S_X5_undo) : q_Ct yL_ticks wsL_ticks rm_L_ticks S_L_ticks := by
  refine q_met (cc := cL_ticks) (maxL := 13) (ret := (some .boolean)) (own := RL) (by decide +kernel) rfl rfl (fun σ vs Qp h => ?_) (fun l J σ vs Qp E T h => ?_)
  · unfold S_L_ticks at h
    split at h
    · exact Nat.le_of_ble_eq_true rfl
    · exact h.elim
  · unfold S_L_ticks at h
    split at h
    · next c0 p0 k0 n m b =>
      obtain ⟨rfl, rfl, rfl, h⟩ := h
      exact v_L_ticks (so_C E) (sb_L_ticks_0 E T h_X5_fingerprint h_X5_time h_X5_arrives h_X5_gravest h_X5_wheel h_X5_tick h_L_reasons h_X5_why h_X5_axis h_L_size h_X5_undo) (sb_L_ticks_61 E T h_X5_fingerprint h_X5_time h_X5_arrives h_X5_gravest h_X5_wheel h_X5_tick h_L_reasons h_X5_why h_X5_axis h_L_size h_X5_undo) (sb_L_ticks_90 E T h_X5_fingerprint h_X5_time h_X5_arrives h_X5_gravest h_X5_wheel h_X5_tick h_L_reasons h_X5_why h_X5_axis h_L_size h_X5_undo) (sb_L_ticks_92 E T h_X5_fingerprint h_X5_time h_X5_arrives h_X5_gravest h_X5_wheel h_X5_tick h_L_reasons h_X5_why h_X5_axis h_L_size h_X5_undo) (sb_L_ticks_148 E T h_X5_fingerprint h_X5_time h_X5_arrives h_X5_gravest h_X5_wheel h_X5_tick h_L_reasons h_X5_why h_X5_axis h_L_size h_X5_undo) (sb_L_ticks_149 E T h_X5_fingerprint h_X5_time h_X5_arrives h_X5_gravest h_X5_wheel h_X5_tick h_L_reasons h_X5_why h_X5_axis h_L_size h_X5_undo) (sb_L_ticks_152 E T h_X5_fingerprint h_X5_time h_X5_arrives h_X5_gravest h_X5_wheel h_X5_tick h_L_reasons h_X5_why h_X5_axis h_L_size h_X5_undo) (sb_L_ticks_154 E T h_X5_fingerprint h_X5_time h_X5_arrives h_X5_gravest h_X5_wheel h_X5_tick h_L_reasons h_X5_why h_X5_axis h_L_size h_X5_undo) (sb_L_ticks_160 E T h_X5_fingerprint h_X5_time h_X5_arrives h_X5_gravest h_X5_wheel h_X5_tick h_L_reasons h_X5_why h_X5_axis h_L_size h_X5_undo) (sb_L_ticks_215 E T h_X5_fingerprint h_X5_time h_X5_arrives h_X5_gravest h_X5_wheel h_X5_tick h_L_reasons h_X5_why h_X5_axis h_L_size h_X5_undo) (sb_L_ticks_216 E T h_X5_fingerprint h_X5_time h_X5_arrives h_X5_gravest h_X5_wheel h_X5_tick h_L_reasons h_X5_why h_X5_axis h_L_size h_X5_undo) (sb_L_ticks_224 E T h_X5_fingerprint h_X5_time h_X5_arrives h_X5_gravest h_X5_wheel h_X5_tick h_L_reasons h_X5_why h_X5_axis h_L_size h_X5_undo) (sb_L_ticks_235 E T h_X5_fingerprint h_X5_time h_X5_arrives h_X5_gravest h_X5_wheel h_X5_tick h_L_reasons h_X5_why h_X5_axis h_L_size h_X5_undo) (sb_L_ticks_253 E T h_X5_fingerprint h_X5_time h_X5_arrives h_X5_gravest h_X5_wheel h_X5_tick h_L_reasons h_X5_why h_X5_axis h_L_size h_X5_undo) (sb_L_ticks_255 E T h_X5_fingerprint h_X5_time h_X5_arrives h_X5_gravest h_X5_wheel h_X5_tick h_L_reasons h_X5_why h_X5_axis h_L_size h_X5_undo) (sb_L_ticks_258 E T h_X5_fingerprint h_X5_time h_X5_arrives h_X5_gravest h_X5_wheel h_X5_tick h_L_reasons h_X5_why h_X5_axis h_L_size h_X5_undo) (sb_L_ticks_311 E T h_X5_fingerprint h_X5_time h_X5_arrives h_X5_gravest h_X5_wheel h_X5_tick h_L_reasons h_X5_why h_X5_axis h_L_size h_X5_undo) (sb_L_ticks_331 E T h_X5_fingerprint h_X5_time h_X5_arrives h_X5_gravest h_X5_wheel h_X5_tick h_L_reasons h_X5_why h_X5_axis h_L_size h_X5_undo) (sb_L_ticks_333 E T h_X5_fingerprint h_X5_time h_X5_arrives h_X5_gravest h_X5_wheel h_X5_tick h_L_reasons h_X5_why h_X5_axis h_L_size h_X5_undo) (sb_L_ticks_339 E T h_X5_fingerprint h_X5_time h_X5_arrives h_X5_gravest h_X5_wheel h_X5_tick h_L_reasons h_X5_why h_X5_axis h_L_size h_X5_undo) (sb_L_ticks_386 E T h_X5_fingerprint h_X5_time h_X5_arrives h_X5_gravest h_X5_wheel h_X5_tick h_L_reasons h_X5_why h_X5_axis h_L_size h_X5_undo) (sb_L_ticks_387 E T h_X5_fingerprint h_X5_time h_X5_arrives h_X5_gravest h_X5_wheel h_X5_tick h_L_reasons h_X5_why h_X5_axis h_L_size h_X5_undo) h
    · exact h.elim
theorem cc_L_ticks : q_Ct yL_ticks wsL_ticks rm_L_ticks S_L_ticks := c_L_ticks cc_X5_fingerprint cc_X5_time cc_X5_arrives cc_X5_gravest cc_X5_wheel cc_X5_tick cc_L_reasons cc_X5_why cc_X5_axis cc_L_size cc_X5_undo

