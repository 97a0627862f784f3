def rm_X6_fingerprint : Room := { frames := 3, cells := 0, slots := 0, locals := 68 }
theorem fi_X6_fingerprint_X6 : ∀ w ∈ u_ws RX6 TX6 11, w ∈ wsX6_fingerprint := fun w h => List.mem_cons_of_mem _ (List.mem_append_right _ h)
set_option maxRecDepth 20000 in
theorem sb_X6_fingerprint_0 {J : Nat → q_K} {l : Launch} {Qp : Option q_V → q_M → Prop} (E : q_E J cX6_fingerprint RX6 wsX6_fingerprint 5 l rm_X6_fingerprint) (T : q_T J cX6_fingerprint (some .long) Qp) (h_X6_told : q_Ct yX6_told wsX6_told rm_X6_told S_X6_told) (h_X6_wheelAt : q_Ct yX6_wheelAt wsX6_wheelAt rm_X6_wheelAt S_X6_wheelAt) (h_X6_spans : q_Ct yX6_spans wsX6_spans rm_X6_spans S_X6_spans) : ∀ (σ : q_M) (lv : q_L) (st : q_S), k_X6_fingerprint_0 Qp J σ lv st → J 0 σ lv st := fun σ lv st h =>
    so_ldc2 E (x := 5363) (idx := 188) (v := 5363) (List.mem_of_getElem? (i := 1) rfl) rfl dX6_fingerprint_0 h fun σ lv st h =>
    so_aload_n E (i := 0) rfl dX6_fingerprint_3 h fun σ lv st h =>
    so_get E (pp := 24) (fi := 0) (C := RX6) (T := TX6) (N := 11) (ref := "WheelDeskModel") ⟨rfl, rfl, rfl⟩ rfl fi_X6_fingerprint_X6 (by decide) rfl (List.mem_of_getElem? (i := 2) rfl) dX6_fingerprint_4 h fun σ lv st h =>
    so_iconst E (x := 5) dX6_fingerprint_7 h fun σ lv st h =>
    so_lald E dX6_fingerprint_8 h fun σ lv st h =>
    so_ladd E dX6_fingerprint_9 h fun σ lv st h =>
    so_lstore_n E (i := 1) rfl (by decide) dX6_fingerprint_10 h fun σ lv st h =>
    so_iconst E (x := 0) dX6_fingerprint_11 h fun σ lv st h =>
    so_istore_n E (i := 3) rfl (by decide) dX6_fingerprint_12 h fun σ lv st h =>
    h
set_option maxRecDepth 20000 in
theorem sb_X6_fingerprint_37 {J : Nat → q_K} {l : Launch} {Qp : Option q_V → q_M → Prop} (E : q_E J cX6_fingerprint RX6 wsX6_fingerprint 5 l rm_X6_fingerprint) (T : q_T J cX6_fingerprint (some .long) Qp) (h_X6_told : q_Ct yX6_told wsX6_told rm_X6_told S_X6_told) (h_X6_wheelAt : q_Ct yX6_wheelAt wsX6_wheelAt rm_X6_wheelAt S_X6_wheelAt) (h_X6_spans : q_Ct yX6_spans wsX6_spans rm_X6_spans S_X6_spans) : ∀ (σ : q_M) (lv : q_L) (st : q_S), k_X6_fingerprint_37 Qp J σ lv st → J 37 σ lv st := fun σ lv st h =>
    so_iconst E (x := 0) dX6_fingerprint_37 h fun σ lv st h =>
    so_istore_n E (i := 3) rfl (by decide) dX6_fingerprint_38 h fun σ lv st h =>
    h
set_option maxRecDepth 20000 in
theorem sb_X6_fingerprint_13 {J : Nat → q_K} {l : Launch} {Qp : Option q_V → q_M → Prop} (E : q_E J cX6_fingerprint RX6 wsX6_fingerprint 5 l rm_X6_fingerprint) (T : q_T J cX6_fingerprint (some .long) Qp) (h_X6_told : q_Ct yX6_told wsX6_told rm_X6_told S_X6_told) (h_X6_wheelAt : q_Ct yX6_wheelAt wsX6_wheelAt rm_X6_wheelAt S_X6_wheelAt) (h_X6_spans : q_Ct yX6_spans wsX6_spans rm_X6_spans S_X6_spans) : ∀ (σ : q_M) (lv : q_L) (st : q_S), k_X6_fingerprint_13 Qp J σ lv st → J 13 σ lv st := fun σ lv st h =>
    so_iload_n E (i := 3) rfl dX6_fingerprint_13 h fun σ lv st h =>
    so_iconst E (x := 5) dX6_fingerprint_14 h fun σ lv st h =>
    so_icmpge E 37 (by decide) dX6_fingerprint_15 (sb_X6_fingerprint_37 E T h_X6_told h_X6_wheelAt h_X6_spans) h fun σ lv st h =>
    so_ldc2 E (x := 31) (idx := 190) (v := 31) (List.mem_of_getElem? (i := 3) rfl) rfl dX6_fingerprint_18 h fun σ lv st h =>
    so_lload_n E (i := 1) rfl dX6_fingerprint_21 h fun σ lv st h =>
    so_lmul E dX6_fingerprint_22 h fun σ lv st h =>
    so_aload_n E (i := 0) rfl dX6_fingerprint_23 h fun σ lv st h =>
    so_get E (pp := 24) (fi := 0) (C := RX6) (T := TX6) (N := 11) (ref := "WheelDeskModel") ⟨rfl, rfl, rfl⟩ rfl fi_X6_fingerprint_X6 (by decide) rfl (List.mem_of_getElem? (i := 2) rfl) dX6_fingerprint_24 h fun σ lv st h =>
    so_iload_n E (i := 3) rfl dX6_fingerprint_27 h fun σ lv st h =>
    so_lald E dX6_fingerprint_28 h fun σ lv st h =>
    so_ladd E dX6_fingerprint_29 h fun σ lv st h =>
    so_lstore_n E (i := 1) rfl (by decide) dX6_fingerprint_30 h fun σ lv st h =>
    so_iinc E (i := 3) (n := 1) (by decide) dX6_fingerprint_31 h fun σ lv st h =>
    so_goto E 13 (by decide) dX6_fingerprint_34 (fun _ _ _ h => h) h
set_option maxRecDepth 20000 in
theorem sb_X6_fingerprint_80 {J : Nat → q_K} {l : Launch} {Qp : Option q_V → q_M → Prop} (E : q_E J cX6_fingerprint RX6 wsX6_fingerprint 5 l rm_X6_fingerprint) (T : q_T J cX6_fingerprint (some .long) Qp) (h_X6_told : q_Ct yX6_told wsX6_told rm_X6_told S_X6_told) (h_X6_wheelAt : q_Ct yX6_wheelAt wsX6_wheelAt rm_X6_wheelAt S_X6_wheelAt) (h_X6_spans : q_Ct yX6_spans wsX6_spans rm_X6_spans S_X6_spans) : ∀ (σ : q_M) (lv : q_L) (st : q_S), k_X6_fingerprint_80 Qp J σ lv st → J 80 σ lv st := fun σ lv st h =>
    so_ldc2 E (x := 31) (idx := 190) (v := 31) (List.mem_of_getElem? (i := 3) rfl) rfl dX6_fingerprint_80 h fun σ lv st h =>
    so_lload_n E (i := 1) rfl dX6_fingerprint_83 h fun σ lv st h =>
    so_lmul E dX6_fingerprint_84 h fun σ lv st h =>
    so_aload_n E (i := 0) rfl dX6_fingerprint_85 h fun σ lv st h =>
    so_get E (pp := 24) (fi := 0) (C := RX6) (T := TX6) (N := 11) (ref := "WheelDeskModel") ⟨rfl, rfl, rfl⟩ rfl fi_X6_fingerprint_X6 (by decide) rfl (List.mem_of_getElem? (i := 2) rfl) dX6_fingerprint_86 h fun σ lv st h =>
    so_bipush E (x := 6) rfl dX6_fingerprint_89 h fun σ lv st h =>
    so_lald E dX6_fingerprint_91 h fun σ lv st h =>
    so_ladd E dX6_fingerprint_92 h fun σ lv st h =>
    so_lstore_n E (i := 1) rfl (by decide) dX6_fingerprint_93 h fun σ lv st h =>
    so_iconst E (x := 0) dX6_fingerprint_94 h fun σ lv st h =>
    so_istore_n E (i := 3) rfl (by decide) dX6_fingerprint_95 h fun σ lv st h =>
    h
set_option maxRecDepth 20000 in
theorem sb_X6_fingerprint_39 {J : Nat → q_K} {l : Launch} {Qp : Option q_V → q_M → Prop} (E : q_E J cX6_fingerprint RX6 wsX6_fingerprint 5 l rm_X6_fingerprint) (T : q_T J cX6_fingerprint (some .long) Qp) (h_X6_told : q_Ct yX6_told wsX6_told rm_X6_told S_X6_told) (h_X6_wheelAt : q_Ct yX6_wheelAt wsX6_wheelAt rm_X6_wheelAt S_X6_wheelAt) (h_X6_spans : q_Ct yX6_spans wsX6_spans rm_X6_spans S_X6_spans) : ∀ (σ : q_M) (lv : q_L) (st : q_S), k_X6_fingerprint_39 Qp J σ lv st → J 39 σ lv st := fun σ lv st h =>
    so_iload_n E (i := 3) rfl dX6_fingerprint_39 h fun σ lv st h =>
    so_iconst E (x := 3) dX6_fingerprint_40 h fun σ lv st h =>
    so_icmpge E 80 (by decide) dX6_fingerprint_41 (sb_X6_fingerprint_80 E T h_X6_told h_X6_wheelAt h_X6_spans) h fun σ lv st h =>
    so_iconst E (x := 0) dX6_fingerprint_44 h fun σ lv st h =>
    so_istore E (i := 4) (by decide) dX6_fingerprint_45 h fun σ lv st h =>
    h
set_option maxRecDepth 20000 in
theorem sb_X6_fingerprint_74 {J : Nat → q_K} {l : Launch} {Qp : Option q_V → q_M → Prop} (E : q_E J cX6_fingerprint RX6 wsX6_fingerprint 5 l rm_X6_fingerprint) (T : q_T J cX6_fingerprint (some .long) Qp) (h_X6_told : q_Ct yX6_told wsX6_told rm_X6_told S_X6_told) (h_X6_wheelAt : q_Ct yX6_wheelAt wsX6_wheelAt rm_X6_wheelAt S_X6_wheelAt) (h_X6_spans : q_Ct yX6_spans wsX6_spans rm_X6_spans S_X6_spans) : ∀ (σ : q_M) (lv : q_L) (st : q_S), k_X6_fingerprint_74 Qp J σ lv st → J 74 σ lv st := fun σ lv st h =>
    so_iinc E (i := 3) (n := 1) (by decide) dX6_fingerprint_74 h fun σ lv st h =>
    so_goto E 39 (by decide) dX6_fingerprint_77 (fun _ _ _ h => h) h
set_option maxRecDepth 20000 in
theorem sb_X6_fingerprint_47 {J : Nat → q_K} {l : Launch} {Qp : Option q_V → q_M → Prop} (E : q_E J cX6_fingerprint RX6 wsX6_fingerprint 5 l rm_X6_fingerprint) (T : q_T J cX6_fingerprint (some .long) Qp) (h_X6_told : q_Ct yX6_told wsX6_told rm_X6_told S_X6_told) (h_X6_wheelAt : q_Ct yX6_wheelAt wsX6_wheelAt rm_X6_wheelAt S_X6_wheelAt) (h_X6_spans : q_Ct yX6_spans wsX6_spans rm_X6_spans S_X6_spans) : ∀ (σ : q_M) (lv : q_L) (st : q_S), k_X6_fingerprint_47 Qp J σ lv st → J 47 σ lv st := fun σ lv st h =>
    so_iload E (i := 4) dX6_fingerprint_47 h fun σ lv st h =>
    so_bipush E (x := 10) rfl dX6_fingerprint_49 h fun σ lv st h =>
    so_icmpge E 74 (by decide) dX6_fingerprint_51 (sb_X6_fingerprint_74 E T h_X6_told h_X6_wheelAt h_X6_spans) h fun σ lv st h =>
    so_ldc2 E (x := 31) (idx := 190) (v := 31) (List.mem_of_getElem? (i := 3) rfl) rfl dX6_fingerprint_54 h fun σ lv st h =>
    so_lload_n E (i := 1) rfl dX6_fingerprint_57 h fun σ lv st h =>
    so_lmul E dX6_fingerprint_58 h fun σ lv st h =>
    so_aload_n E (i := 0) rfl dX6_fingerprint_59 h fun σ lv st h =>
    so_iload_n E (i := 3) rfl dX6_fingerprint_60 h fun σ lv st h =>
    so_iload E (i := 4) dX6_fingerprint_61 h fun σ lv st h =>
    so_callV E (n := 2) (pp := 24) (C := RX6) (T := TX6) (N := 11) (idx := 168) (maxL := 3) (ret := (some .long)) h_X6_told ⟨rfl, rfl, rfl⟩ rfl gX6_fingerprint_X6_told rfl ⟨rfl, rfl⟩ (by decide +kernel) (by decide) dX6_fingerprint_63 h fun σ lv st h =>
    so_ladd E dX6_fingerprint_66 h fun σ lv st h =>
    so_lstore_n E (i := 1) rfl (by decide) dX6_fingerprint_67 h fun σ lv st h =>
    so_iinc E (i := 4) (n := 1) (by decide) dX6_fingerprint_68 h fun σ lv st h =>
    so_goto E 47 (by decide) dX6_fingerprint_71 (fun _ _ _ h => h) h
set_option maxRecDepth 20000 in
theorem sb_X6_fingerprint_149 {J : Nat → q_K} {l : Launch} {Qp : Option q_V → q_M → Prop} (E : q_E J cX6_fingerprint RX6 wsX6_fingerprint 5 l rm_X6_fingerprint) (T : q_T J cX6_fingerprint (some .long) Qp) (h_X6_told : q_Ct yX6_told wsX6_told rm_X6_told S_X6_told) (h_X6_wheelAt : q_Ct yX6_wheelAt wsX6_wheelAt rm_X6_wheelAt S_X6_wheelAt) (h_X6_spans : q_Ct yX6_spans wsX6_spans rm_X6_spans S_X6_spans) : ∀ (σ : q_M) (lv : q_L) (st : q_S), k_X6_fingerprint_149 Qp J σ lv st → J 149 σ lv st := fun σ lv st h =>
    so_aload_n E (i := 0) rfl dX6_fingerprint_149 h fun σ lv st h =>
    so_ldc E (x := -2000009) (idx := 121) (v := -2000009) (List.mem_of_getElem? (i := 4) rfl) rfl dX6_fingerprint_150 h fun σ lv st h =>
    so_callV E (n := 1) (pp := 24) (C := RX6) (T := TX6) (N := 11) (idx := 122) (maxL := 6) (ret := none) h_X6_spans ⟨rfl, rfl, rfl⟩ rfl gX6_fingerprint_X6_spans rfl ⟨rfl, rfl⟩ (by decide +kernel) (by decide) dX6_fingerprint_152 h fun σ lv st h =>
    so_ldc2 E (x := 31) (idx := 190) (v := 31) (List.mem_of_getElem? (i := 3) rfl) rfl dX6_fingerprint_155 h fun σ lv st h =>
    so_lload_n E (i := 1) rfl dX6_fingerprint_158 h fun σ lv st h =>
    so_lmul E dX6_fingerprint_159 h fun σ lv st h =>
    so_aload_n E (i := 0) rfl dX6_fingerprint_160 h fun σ lv st h =>
    so_get E (pp := 24) (fi := 6) (C := RX6) (T := TX6) (N := 11) (ref := "WheelDeskModel") ⟨rfl, rfl, rfl⟩ rfl fi_X6_fingerprint_X6 (by decide) rfl (List.mem_of_getElem? (i := 5) rfl) dX6_fingerprint_161 h fun σ lv st h =>
    so_ladd E dX6_fingerprint_164 h fun σ lv st h =>
    so_lstore_n E (i := 1) rfl (by decide) dX6_fingerprint_165 h fun σ lv st h =>
    so_iconst E (x := 0) dX6_fingerprint_166 h fun σ lv st h =>
    so_istore_n E (i := 3) rfl (by decide) dX6_fingerprint_167 h fun σ lv st h =>
    h
set_option maxRecDepth 20000 in
theorem sb_X6_fingerprint_96 {J : Nat → q_K} {l : Launch} {Qp : Option q_V → q_M → Prop} (E : q_E J cX6_fingerprint RX6 wsX6_fingerprint 5 l rm_X6_fingerprint) (T : q_T J cX6_fingerprint (some .long) Qp) (h_X6_told : q_Ct yX6_told wsX6_told rm_X6_told S_X6_told) (h_X6_wheelAt : q_Ct yX6_wheelAt wsX6_wheelAt rm_X6_wheelAt S_X6_wheelAt) (h_X6_spans : q_Ct yX6_spans wsX6_spans rm_X6_spans S_X6_spans) : ∀ (σ : q_M) (lv : q_L) (st : q_S), k_X6_fingerprint_96 Qp J σ lv st → J 96 σ lv st := fun σ lv st h =>
    so_iload_n E (i := 3) rfl dX6_fingerprint_96 h fun σ lv st h =>
    so_i2l E dX6_fingerprint_97 h fun σ lv st h =>
    so_aload_n E (i := 0) rfl dX6_fingerprint_98 h fun σ lv st h =>
    so_get E (pp := 24) (fi := 0) (C := RX6) (T := TX6) (N := 11) (ref := "WheelDeskModel") ⟨rfl, rfl, rfl⟩ rfl fi_X6_fingerprint_X6 (by decide) rfl (List.mem_of_getElem? (i := 2) rfl) dX6_fingerprint_99 h fun σ lv st h =>
    so_bipush E (x := 6) rfl dX6_fingerprint_102 h fun σ lv st h =>
    so_lald E dX6_fingerprint_104 h fun σ lv st h =>
    so_lcmp E dX6_fingerprint_105 h fun σ lv st h =>
    so_ifge E 149 (by decide) dX6_fingerprint_106 (sb_X6_fingerprint_149 E T h_X6_told h_X6_wheelAt h_X6_spans) h fun σ lv st h =>
    so_iconst E (x := 0) dX6_fingerprint_109 h fun σ lv st h =>
    so_istore E (i := 4) (by decide) dX6_fingerprint_110 h fun σ lv st h =>
    h
set_option maxRecDepth 20000 in
theorem sb_X6_fingerprint_143 {J : Nat → q_K} {l : Launch} {Qp : Option q_V → q_M → Prop} (E : q_E J cX6_fingerprint RX6 wsX6_fingerprint 5 l rm_X6_fingerprint) (T : q_T J cX6_fingerprint (some .long) Qp) (h_X6_told : q_Ct yX6_told wsX6_told rm_X6_told S_X6_told) (h_X6_wheelAt : q_Ct yX6_wheelAt wsX6_wheelAt rm_X6_wheelAt S_X6_wheelAt) (h_X6_spans : q_Ct yX6_spans wsX6_spans rm_X6_spans S_X6_spans) : ∀ (σ : q_M) (lv : q_L) (st : q_S), k_X6_fingerprint_143 Qp J σ lv st → J 143 σ lv st := fun σ lv st h =>
    so_iinc E (i := 3) (n := 1) (by decide) dX6_fingerprint_143 h fun σ lv st h =>
    so_goto E 96 (by decide) dX6_fingerprint_146 (fun _ _ _ h => h) h
set_option maxRecDepth 20000 in
theorem sb_X6_fingerprint_112 {J : Nat → q_K} {l : Launch} {Qp : Option q_V → q_M → Prop} (E : q_E J cX6_fingerprint RX6 wsX6_fingerprint 5 l rm_X6_fingerprint) (T : q_T J cX6_fingerprint (some .long) Qp) (h_X6_told : q_Ct yX6_told wsX6_told rm_X6_told S_X6_told) (h_X6_wheelAt : q_Ct yX6_wheelAt wsX6_wheelAt rm_X6_wheelAt S_X6_wheelAt) (h_X6_spans : q_Ct yX6_spans wsX6_spans rm_X6_spans S_X6_spans) : ∀ (σ : q_M) (lv : q_L) (st : q_S), k_X6_fingerprint_112 Qp J σ lv st → J 112 σ lv st := fun σ lv st h =>
    so_iload E (i := 4) dX6_fingerprint_112 h fun σ lv st h =>
    so_bipush E (x := 8) rfl dX6_fingerprint_114 h fun σ lv st h =>
    so_icmpge E 143 (by decide) dX6_fingerprint_116 (sb_X6_fingerprint_143 E T h_X6_told h_X6_wheelAt h_X6_spans) h fun σ lv st h =>
    so_ldc2 E (x := 31) (idx := 190) (v := 31) (List.mem_of_getElem? (i := 3) rfl) rfl dX6_fingerprint_119 h fun σ lv st h =>
    so_lload_n E (i := 1) rfl dX6_fingerprint_122 h fun σ lv st h =>
    so_lmul E dX6_fingerprint_123 h fun σ lv st h =>
    so_aload_n E (i := 0) rfl dX6_fingerprint_124 h fun σ lv st h =>
    so_get E (pp := 24) (fi := 0) (C := RX6) (T := TX6) (N := 11) (ref := "WheelDeskModel") ⟨rfl, rfl, rfl⟩ rfl fi_X6_fingerprint_X6 (by decide) rfl (List.mem_of_getElem? (i := 2) rfl) dX6_fingerprint_125 h fun σ lv st h =>
    so_iload_n E (i := 3) rfl dX6_fingerprint_128 h fun σ lv st h =>
    so_iload E (i := 4) dX6_fingerprint_129 h fun σ lv st h =>
    so_callT E (n := 2) (idx := 71) (maxL := 2) (ret := (some .int)) h_X6_wheelAt gX6_fingerprint_X6_wheelAt rfl ⟨rfl, rfl⟩ (by decide +kernel) (by decide) dX6_fingerprint_131 h fun σ lv st h =>
    so_lald E dX6_fingerprint_134 h fun σ lv st h =>
    so_ladd E dX6_fingerprint_135 h fun σ lv st h =>
    so_lstore_n E (i := 1) rfl (by decide) dX6_fingerprint_136 h fun σ lv st h =>
    so_iinc E (i := 4) (n := 1) (by decide) dX6_fingerprint_137 h fun σ lv st h =>
    so_goto E 112 (by decide) dX6_fingerprint_140 (fun _ _ _ h => h) h
set_option maxRecDepth 20000 in
theorem sb_X6_fingerprint_215 {J : Nat → q_K} {l : Launch} {Qp : Option q_V → q_M → Prop} (E : q_E J cX6_fingerprint RX6 wsX6_fingerprint 5 l rm_X6_fingerprint) (T : q_T J cX6_fingerprint (some .long) Qp) (h_X6_told : q_Ct yX6_told wsX6_told rm_X6_told S_X6_told) (h_X6_wheelAt : q_Ct yX6_wheelAt wsX6_wheelAt rm_X6_wheelAt S_X6_wheelAt) (h_X6_spans : q_Ct yX6_spans wsX6_spans rm_X6_spans S_X6_spans) : ∀ (σ : q_M) (lv : q_L) (st : q_S), k_X6_fingerprint_215 Qp J σ lv st → J 215 σ lv st := fun σ lv st h =>
    so_lload_n E (i := 1) rfl dX6_fingerprint_215 h fun σ lv st h =>
    so_lret T dX6_fingerprint_216 h
set_option maxRecDepth 20000 in
theorem sb_X6_fingerprint_208 {J : Nat → q_K} {l : Launch} {Qp : Option q_V → q_M → Prop} (E : q_E J cX6_fingerprint RX6 wsX6_fingerprint 5 l rm_X6_fingerprint) (T : q_T J cX6_fingerprint (some .long) Qp) (h_X6_told : q_Ct yX6_told wsX6_told rm_X6_told S_X6_told) (h_X6_wheelAt : q_Ct yX6_wheelAt wsX6_wheelAt rm_X6_wheelAt S_X6_wheelAt) (h_X6_spans : q_Ct yX6_spans wsX6_spans rm_X6_spans S_X6_spans) : ∀ (σ : q_M) (lv : q_L) (st : q_S), k_X6_fingerprint_208 Qp J σ lv st → J 208 σ lv st := fun σ lv st h =>
    so_lstore_n E (i := 1) rfl (by decide) dX6_fingerprint_208 h fun σ lv st h =>
    so_iinc E (i := 3) (n := 1) (by decide) dX6_fingerprint_209 h fun σ lv st h =>
    so_goto E 168 (by decide) dX6_fingerprint_212 (fun _ _ _ h => h) h
set_option maxRecDepth 20000 in
theorem sb_X6_fingerprint_193 {J : Nat → q_K} {l : Launch} {Qp : Option q_V → q_M → Prop} (E : q_E J cX6_fingerprint RX6 wsX6_fingerprint 5 l rm_X6_fingerprint) (T : q_T J cX6_fingerprint (some .long) Qp) (h_X6_told : q_Ct yX6_told wsX6_told rm_X6_told S_X6_told) (h_X6_wheelAt : q_Ct yX6_wheelAt wsX6_wheelAt rm_X6_wheelAt S_X6_wheelAt) (h_X6_spans : q_Ct yX6_spans wsX6_spans rm_X6_spans S_X6_spans) : ∀ (σ : q_M) (lv : q_L) (st : q_S), k_X6_fingerprint_193 Qp J σ lv st → J 193 σ lv st := fun σ lv st h =>
    so_ldc2 E (x := 31) (idx := 190) (v := 31) (List.mem_of_getElem? (i := 3) rfl) rfl dX6_fingerprint_193 h fun σ lv st h =>
    so_lload_n E (i := 1) rfl dX6_fingerprint_196 h fun σ lv st h =>
    so_lmul E dX6_fingerprint_197 h fun σ lv st h =>
    so_aload_n E (i := 0) rfl dX6_fingerprint_198 h fun σ lv st h =>
    so_get E (pp := 24) (fi := 0) (C := RX6) (T := TX6) (N := 11) (ref := "WheelDeskModel") ⟨rfl, rfl, rfl⟩ rfl fi_X6_fingerprint_X6 (by decide) rfl (List.mem_of_getElem? (i := 2) rfl) dX6_fingerprint_199 h fun σ lv st h =>
    so_bipush E (x := 8) rfl dX6_fingerprint_202 h fun σ lv st h =>
    so_iload_n E (i := 3) rfl dX6_fingerprint_204 h fun σ lv st h =>
    so_iadd E dX6_fingerprint_205 h fun σ lv st h =>
    so_lald E dX6_fingerprint_206 h fun σ lv st h =>
    so_ladd E dX6_fingerprint_207 h fun σ lv st h =>
    (sb_X6_fingerprint_208 E T h_X6_told h_X6_wheelAt h_X6_spans) σ lv st h
set_option maxRecDepth 20000 in
theorem sb_X6_fingerprint_168 {J : Nat → q_K} {l : Launch} {Qp : Option q_V → q_M → Prop} (E : q_E J cX6_fingerprint RX6 wsX6_fingerprint 5 l rm_X6_fingerprint) (T : q_T J cX6_fingerprint (some .long) Qp) (h_X6_told : q_Ct yX6_told wsX6_told rm_X6_told S_X6_told) (h_X6_wheelAt : q_Ct yX6_wheelAt wsX6_wheelAt rm_X6_wheelAt S_X6_wheelAt) (h_X6_spans : q_Ct yX6_spans wsX6_spans rm_X6_spans S_X6_spans) : ∀ (σ : q_M) (lv : q_L) (st : q_S), k_X6_fingerprint_168 Qp J σ lv st → J 168 σ lv st := fun σ lv st h =>
    so_iload_n E (i := 3) rfl dX6_fingerprint_168 h fun σ lv st h =>
    so_iconst E (x := 3) dX6_fingerprint_169 h fun σ lv st h =>
    so_icmpge E 215 (by decide) dX6_fingerprint_170 (sb_X6_fingerprint_215 E T h_X6_told h_X6_wheelAt h_X6_spans) h fun σ lv st h =>
    so_aload_n E (i := 0) rfl dX6_fingerprint_173 h fun σ lv st h =>
    so_get E (pp := 24) (fi := 0) (C := RX6) (T := TX6) (N := 11) (ref := "WheelDeskModel") ⟨rfl, rfl, rfl⟩ rfl fi_X6_fingerprint_X6 (by decide) rfl (List.mem_of_getElem? (i := 2) rfl) dX6_fingerprint_174 h fun σ lv st h =>
    so_bipush E (x := 8) rfl dX6_fingerprint_177 h fun σ lv st h =>
    so_iload_n E (i := 3) rfl dX6_fingerprint_179 h fun σ lv st h =>
    so_iadd E dX6_fingerprint_180 h fun σ lv st h =>
    so_lald E dX6_fingerprint_181 h fun σ lv st h =>
    so_ldc2 E (x := -2000009) (idx := 51) (v := -2000009) (List.mem_of_getElem? (i := 6) rfl) rfl dX6_fingerprint_182 h fun σ lv st h =>
    so_lcmp E dX6_fingerprint_185 h fun σ lv st h =>
    so_ifne E 193 (by decide) dX6_fingerprint_186 (sb_X6_fingerprint_193 E T h_X6_told h_X6_wheelAt h_X6_spans) h fun σ lv st h =>
    so_lload_n E (i := 1) rfl dX6_fingerprint_189 h fun σ lv st h =>
    so_goto E 208 (by decide) dX6_fingerprint_190 (sb_X6_fingerprint_208 E T h_X6_told h_X6_wheelAt h_X6_spans) h
theorem c_X6_fingerprint (h_X6_told : q_Ct yX6_told wsX6_told rm_X6_told S_X6_told) (h_X6_wheelAt : q_Ct yX6_wheelAt wsX6_wheelAt rm_X6_wheelAt S_X6_wheelAt) (h_X6_spans : q_Ct yX6_spans wsX6_spans rm_X6_spans S_X6_spans) : q_Ct yX6_fingerprint wsX6_fingerprint rm_X6_fingerprint S_X6_fingerprint := by
  refine q_met (cc := cX6_fingerprint) (maxL := 5) (ret := (some .long)) (own := RX6) (by decide +kernel) rfl rfl (fun σ vs Qp h => ?_) (fun l J σ vs Qp E T h => ?_)
  · unfold S_X6_fingerprint at h
    split at h
    · exact Nat.le_of_ble_eq_true rfl
    · exact h.elim
  · unfold S_X6_fingerprint at h
    split at h
    · next c0 p0 k0 =>
      obtain ⟨rfl, rfl, rfl, h⟩ := h
      exact v_X6_fingerprint (so_C E) (sb_X6_fingerprint_0 E T h_X6_told h_X6_wheelAt h_X6_spans) (sb_X6_fingerprint_13 E T h_X6_told h_X6_wheelAt h_X6_spans) (sb_X6_fingerprint_39 E T h_X6_told h_X6_wheelAt h_X6_spans) (sb_X6_fingerprint_47 E T h_X6_told h_X6_wheelAt h_X6_spans) (sb_X6_fingerprint_96 E T h_X6_told h_X6_wheelAt h_X6_spans) (sb_X6_fingerprint_112 E T h_X6_told h_X6_wheelAt h_X6_spans) (sb_X6_fingerprint_168 E T h_X6_told h_X6_wheelAt h_X6_spans) h
    · exact h.elim
theorem cc_X6_fingerprint : q_Ct yX6_fingerprint wsX6_fingerprint rm_X6_fingerprint S_X6_fingerprint := c_X6_fingerprint cc_X6_told cc_X6_wheelAt cc_X6_spans

