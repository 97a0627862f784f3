set_option maxRecDepth 20000 in
theorem sb_L_law_8 {J : Nat → q_K} {l : Launch} {Qp : Option q_V → q_M → Prop} (E : q_E J cL_law RL wsL_law 13 l room_1) (T : q_T J cL_law (some .boolean) Qp) : ∀ (σ : q_M) (lv : q_L) (st : q_S), k_L_law_8 Qp J σ lv st → J 8 σ lv st := fun σ lv st h =>
    so_aload_n E (i := 1) rfl dL_law_8 h fun σ lv st h =>
    so_callV E (n := 0) (pp := 23) (C := RX5) (T := TX5) (N := 5) (idx := 91) (maxL := 1) (ret := (some .int)) cc_X5_undo ⟨rfl, rfl, rfl⟩ rfl gL_law_X5_undo rfl ⟨rfl, rfl⟩ (by decide +kernel) (by decide) dL_law_9 h fun σ lv st h =>
    so_ldc E (x := -2000009) (idx := 66) (v := -2000009) (by decide +kernel) rfl dL_law_12 h fun σ lv st h =>
    so_icmpne E 93 (by decide) dL_law_14 (fun _ _ _ h => h) h fun σ lv st h =>
    so_aload_n E (i := 1) rfl dL_law_17 h fun σ lv st h =>
    so_callV E (n := 0) (pp := 23) (C := RX5) (T := TX5) (N := 5) (idx := 95) (maxL := 1) (ret := (some .int)) cc_X5_wheels ⟨rfl, rfl, rfl⟩ rfl gL_law_X5_wheels rfl ⟨rfl, rfl⟩ (by decide +kernel) (by decide) dL_law_18 h fun σ lv st h =>
    so_ifne E 93 (by decide) dL_law_21 (fun _ _ _ h => h) h fun σ lv st h =>
    so_aload_n E (i := 1) rfl dL_law_24 h fun σ lv st h =>
    so_callV E (n := 0) (pp := 23) (C := RX5) (T := TX5) (N := 5) (idx := 73) (maxL := 1) (ret := (some .long)) cc_X5_span ⟨rfl, rfl, rfl⟩ rfl gL_law_X5_span rfl ⟨rfl, rfl⟩ (by decide +kernel) (by decide) dL_law_25 h fun σ lv st h =>
    so_lconst E (x := 0) rfl dL_law_28 h fun σ lv st h =>
    so_lcmp E dL_law_29 h fun σ lv st h =>
    so_ifne E 93 (by decide) dL_law_30 (fun _ _ _ h => h) h fun σ lv st h =>
    so_aload_n E (i := 1) rfl dL_law_33 h fun σ lv st h =>
    so_iconst E (x := 0) dL_law_34 h fun σ lv st h =>
    so_callV E (n := 1) (pp := 23) (C := RX5) (T := TX5) (N := 5) (idx := 63) (maxL := 2) (ret := (some .int)) cc_X5_why ⟨rfl, rfl, rfl⟩ rfl gL_law_X5_why rfl ⟨rfl, rfl⟩ (by decide +kernel) (by decide) dL_law_35 h fun σ lv st h =>
    so_ifne E 93 (by decide) dL_law_38 (fun _ _ _ h => h) h fun σ lv st h =>
    so_aload_n E (i := 1) rfl dL_law_41 h fun σ lv st h =>
    so_iconst E (x := 1) dL_law_42 h fun σ lv st h =>
    so_callV E (n := 1) (pp := 23) (C := RX5) (T := TX5) (N := 5) (idx := 63) (maxL := 2) (ret := (some .int)) cc_X5_why ⟨rfl, rfl, rfl⟩ rfl gL_law_X5_why rfl ⟨rfl, rfl⟩ (by decide +kernel) (by decide) dL_law_43 h fun σ lv st h =>
    so_ldc E (x := -2000009) (idx := 66) (v := -2000009) (by decide +kernel) rfl dL_law_46 h fun σ lv st h =>
    so_icmpne E 93 (by decide) dL_law_48 (fun _ _ _ h => h) h fun σ lv st h =>
    so_aload_n E (i := 1) rfl dL_law_51 h fun σ lv st h =>
    so_callV E (n := 0) (pp := 23) (C := RX5) (T := TX5) (N := 5) (idx := 98) (maxL := 4) (ret := (some .float)) cc_X5_fullness ⟨rfl, rfl, rfl⟩ rfl gL_law_X5_fullness rfl ⟨rfl, rfl⟩ (by decide +kernel) (by decide) dL_law_52 h fun σ lv st h =>
    so_fconst0 E dL_law_55 h fun σ lv st h =>
    so_fcmpl E dL_law_56 h fun σ lv st h =>
    so_ifne E 93 (by decide) dL_law_57 (fun _ _ _ h => h) h fun σ lv st h =>
    so_aload_n E (i := 1) rfl dL_law_60 h fun σ lv st h =>
    so_iconst E (x := 0) dL_law_61 h fun σ lv st h =>
    so_callV E (n := 1) (pp := 23) (C := RX5) (T := TX5) (N := 5) (idx := 67) (maxL := 3) (ret := (some .int)) cc_X5_arrives ⟨rfl, rfl, rfl⟩ rfl gL_law_X5_arrives rfl ⟨rfl, rfl⟩ (by decide +kernel) (by decide) dL_law_62 h fun σ lv st h =>
    so_ifne E 93 (by decide) dL_law_65 (fun _ _ _ h => h) h fun σ lv st h =>
    so_aload_n E (i := 1) rfl dL_law_68 h fun σ lv st h =>
    so_callV E (n := 0) (pp := 23) (C := RX5) (T := TX5) (N := 5) (idx := 80) (maxL := 3) (ret := (some .int)) cc_X5_spare ⟨rfl, rfl, rfl⟩ rfl gL_law_X5_spare rfl ⟨rfl, rfl⟩ (by decide +kernel) (by decide) dL_law_69 h fun σ lv st h =>
    so_ifne E 93 (by decide) dL_law_72 (fun _ _ _ h => h) h fun σ lv st h =>
    so_aload_n E (i := 1) rfl dL_law_75 h fun σ lv st h =>
    so_iconst E (x := 5) dL_law_76 h fun σ lv st h =>
    so_callV E (n := 1) (pp := 23) (C := RX5) (T := TX5) (N := 5) (idx := 70) (maxL := 8) (ret := (some .int)) cc_X5_gravest ⟨rfl, rfl, rfl⟩ rfl gL_law_X5_gravest rfl ⟨rfl, rfl⟩ (by decide +kernel) (by decide) dL_law_77 h fun σ lv st h =>
    so_ldc E (x := -2000009) (idx := 66) (v := -2000009) (by decide +kernel) rfl dL_law_80 h fun σ lv st h =>
    so_icmpne E 93 (by decide) dL_law_82 (fun _ _ _ h => h) h fun σ lv st h =>
    so_aload_n E (i := 1) rfl dL_law_85 h fun σ lv st h =>
    so_iconst E (x := 0) dL_law_86 h fun σ lv st h =>
    so_callT E (n := 2) (idx := 102) (maxL := 5) (ret := (some .boolean)) cc_L_fails gL_law_L_fails rfl ⟨rfl, rfl⟩ (by decide +kernel) (by decide) dL_law_87 h fun σ lv st h =>
    so_ifne E 95 (by decide) dL_law_90 (fun _ _ _ h => h) h fun σ lv st h =>
    h
set_option maxRecDepth 20000 in
theorem sb_L_law_93 {J : Nat → q_K} {l : Launch} {Qp : Option q_V → q_M → Prop} (E : q_E J cL_law RL wsL_law 13 l room_1) (T : q_T J cL_law (some .boolean) Qp) : ∀ (σ : q_M) (lv : q_L) (st : q_S), k_L_law_93 Qp J σ lv st → J 93 σ lv st := fun σ lv st h =>
    so_iconst E (x := 0) dL_law_93 h fun σ lv st h =>
    so_zret T dL_law_94 h
set_option maxRecDepth 20000 in
theorem sb_L_law_95 {J : Nat → q_K} {l : Launch} {Qp : Option q_V → q_M → Prop} (E : q_E J cL_law RL wsL_law 13 l room_1) (T : q_T J cL_law (some .boolean) Qp) : ∀ (σ : q_M) (lv : q_L) (st : q_S), k_L_law_95 Qp J σ lv st → J 95 σ lv st := fun σ lv st h =>
    so_iconst E (x := 0) dL_law_95 h fun σ lv st h =>
    so_istore_n E (i := 2) rfl (by decide) dL_law_96 h fun σ lv st h =>
    so_iconst E (x := 0) dL_law_97 h fun σ lv st h =>
    so_istore_n E (i := 3) rfl (by decide) dL_law_98 h fun σ lv st h =>
    h
set_option maxRecDepth 20000 in
theorem sb_L_law_99 {J : Nat → q_K} {l : Launch} {Qp : Option q_V → q_M → Prop} (E : q_E J cL_law RL wsL_law 13 l room_1) (T : q_T J cL_law (some .boolean) Qp) : ∀ (σ : q_M) (lv : q_L) (st : q_S), k_L_law_99 Qp J σ lv st → J 99 σ lv st := fun σ lv st h =>
    so_iload_n E (i := 3) rfl dL_law_99 h fun σ lv st h =>
    so_bipush E (x := 18) rfl dL_law_100 h fun σ lv st h =>
    so_icmpge E 942 (by decide) dL_law_102 (fun _ _ _ h => h) h fun σ lv st h =>
    so_aload_n E (i := 0) rfl dL_law_105 h fun σ lv st h =>
    so_iload_n E (i := 3) rfl dL_law_106 h fun σ lv st h =>
    so_callT E (n := 2) (idx := 105) (maxL := 2) (ret := (some .int)) cc_L_cell gL_law_L_cell rfl ⟨rfl, rfl⟩ (by decide +kernel) (by decide) dL_law_107 h fun σ lv st h =>
    so_istore E (i := 4) (by decide) dL_law_110 h fun σ lv st h =>
    so_iload E (i := 4) dL_law_112 h fun σ lv st h =>
    so_iconst E (x := 4) dL_law_114 h fun σ lv st h =>
    so_ishr E dL_law_115 h fun σ lv st h =>
    so_istore E (i := 5) (by decide) dL_law_116 h fun σ lv st h =>
    so_iconst E (x := 1) dL_law_118 h fun σ lv st h =>
    so_istore E (i := 6) (by decide) dL_law_119 h fun σ lv st h =>
    so_iload_n E (i := 3) rfl dL_law_121 h fun σ lv st h =>
    so_iconst E (x := 3) dL_law_122 h fun σ lv st h =>
    so_icmpge E 130 (by decide) dL_law_123 (fun _ _ _ h => h) h fun σ lv st h =>
    so_iconst E (x := 0) dL_law_126 h fun σ lv st h =>
    so_goto E 137 (by decide) dL_law_127 (fun _ _ _ h => h) h
set_option maxRecDepth 20000 in
theorem sb_L_law_130 {J : Nat → q_K} {l : Launch} {Qp : Option q_V → q_M → Prop} (E : q_E J cL_law RL wsL_law 13 l room_1) (T : q_T J cL_law (some .boolean) Qp) : ∀ (σ : q_M) (lv : q_L) (st : q_S), k_L_law_130 Qp J σ lv st → J 130 σ lv st := fun σ lv st h =>
    so_iload E (i := 4) dL_law_130 h fun σ lv st h =>
    so_bipush E (x := 11) rfl dL_law_132 h fun σ lv st h =>
    so_callT E (n := 2) (idx := 109) (maxL := 2) (ret := (some .int)) cc_L_up gL_law_L_up rfl ⟨rfl, rfl⟩ (by decide +kernel) (by decide) dL_law_134 h fun σ lv st h =>
    h
set_option maxRecDepth 20000 in
theorem sb_L_law_137 {J : Nat → q_K} {l : Launch} {Qp : Option q_V → q_M → Prop} (E : q_E J cL_law RL wsL_law 13 l room_1) (T : q_T J cL_law (some .boolean) Qp) : ∀ (σ : q_M) (lv : q_L) (st : q_S), k_L_law_137 Qp J σ lv st → J 137 σ lv st := fun σ lv st h =>
    so_istore E (i := 7) (by decide) dL_law_137 h fun σ lv st h =>
    so_iload E (i := 7) dL_law_139 h fun σ lv st h =>
    so_ifne E 276 (by decide) dL_law_141 (fun _ _ _ h => h) h fun σ lv st h =>
    so_iload_n E (i := 2) rfl dL_law_144 h fun σ lv st h =>
    so_bipush E (x := 6) rfl dL_law_145 h fun σ lv st h =>
    so_icmpge E 276 (by decide) dL_law_147 (fun _ _ _ h => h) h fun σ lv st h =>
    so_iload E (i := 5) dL_law_150 h fun σ lv st h =>
    so_bipush E (x := 19) rfl dL_law_152 h fun σ lv st h =>
    so_callT E (n := 2) (idx := 109) (maxL := 2) (ret := (some .int)) cc_L_up gL_law_L_up rfl ⟨rfl, rfl⟩ (by decide +kernel) (by decide) dL_law_154 h fun σ lv st h =>
    so_bipush E (x := 9) rfl dL_law_157 h fun σ lv st h =>
    so_isub E dL_law_159 h fun σ lv st h =>
    so_istore E (i := 8) (by decide) dL_law_160 h fun σ lv st h =>
    so_iload E (i := 5) dL_law_162 h fun σ lv st h =>
    so_iconst E (x := 5) dL_law_164 h fun σ lv st h =>
    so_ishr E dL_law_165 h fun σ lv st h =>
    so_bipush E (x := 19) rfl dL_law_166 h fun σ lv st h =>
    so_callT E (n := 2) (idx := 109) (maxL := 2) (ret := (some .int)) cc_L_up gL_law_L_up rfl ⟨rfl, rfl⟩ (by decide +kernel) (by decide) dL_law_168 h fun σ lv st h =>
    so_bipush E (x := 9) rfl dL_law_171 h fun σ lv st h =>
    so_isub E dL_law_173 h fun σ lv st h =>
    so_istore E (i := 9) (by decide) dL_law_174 h fun σ lv st h =>
    so_iload E (i := 5) dL_law_176 h fun σ lv st h =>
    so_bipush E (x := 10) rfl dL_law_178 h fun σ lv st h =>
    so_ishr E dL_law_180 h fun σ lv st h =>
    so_bipush E (x := 19) rfl dL_law_181 h fun σ lv st h =>
    so_callT E (n := 2) (idx := 109) (maxL := 2) (ret := (some .int)) cc_L_up gL_law_L_up rfl ⟨rfl, rfl⟩ (by decide +kernel) (by decide) dL_law_183 h fun σ lv st h =>
    so_bipush E (x := 9) rfl dL_law_186 h fun σ lv st h =>
    so_isub E dL_law_188 h fun σ lv st h =>
    so_istore E (i := 10) (by decide) dL_law_189 h fun σ lv st h =>
    so_aload_n E (i := 1) rfl dL_law_191 h fun σ lv st h =>
    so_iload E (i := 8) dL_law_192 h fun σ lv st h =>
    so_iload E (i := 9) dL_law_194 h fun σ lv st h =>
    so_iload E (i := 10) dL_law_196 h fun σ lv st h =>
    so_iconst E (x := 1) dL_law_198 h fun σ lv st h =>
    so_iload E (i := 5) dL_law_199 h fun σ lv st h =>
    so_iconst E (x := 3) dL_law_201 h fun σ lv st h =>
    so_ishr E dL_law_202 h fun σ lv st h =>
    so_ldc E (x := 40000) (idx := 112) (v := 40000) (by decide +kernel) rfl dL_law_203 h fun σ lv st h =>
    so_callT E (n := 2) (idx := 109) (maxL := 2) (ret := (some .int)) cc_L_up gL_law_L_up rfl ⟨rfl, rfl⟩ (by decide +kernel) (by decide) dL_law_205 h fun σ lv st h =>
    so_iadd E dL_law_208 h fun σ lv st h =>
    so_iconst E (x := 1) dL_law_209 h fun σ lv st h =>
    so_iload E (i := 5) dL_law_210 h fun σ lv st h =>
    so_bipush E (x := 13) rfl dL_law_212 h fun σ lv st h =>
    so_ishr E dL_law_214 h fun σ lv st h =>
    so_sipush E (x := 3000) rfl dL_law_215 h fun σ lv st h =>
    so_callT E (n := 2) (idx := 109) (maxL := 2) (ret := (some .int)) cc_L_up gL_law_L_up rfl ⟨rfl, rfl⟩ (by decide +kernel) (by decide) dL_law_218 h fun σ lv st h =>
    so_iadd E dL_law_221 h fun σ lv st h =>
    so_callV E (n := 5) (pp := 23) (C := RX5) (T := TX5) (N := 5) (idx := 15) (maxL := 7) (ret := (some .int)) cc_X5_addWheel ⟨rfl, rfl, rfl⟩ rfl gL_law_X5_addWheel rfl ⟨rfl, rfl⟩ (by decide +kernel) (by decide) dL_law_222 h fun σ lv st h =>
    so_istore E (i := 11) (by decide) dL_law_225 h fun σ lv st h =>
    so_iload E (i := 11) dL_law_227 h fun σ lv st h =>
    so_iload E (i := 8) dL_law_229 h fun σ lv st h =>
    so_ifne E 249 (by decide) dL_law_231 (fun _ _ _ h => h) h fun σ lv st h =>
    so_iload E (i := 9) dL_law_234 h fun σ lv st h =>
    so_ifne E 249 (by decide) dL_law_236 (fun _ _ _ h => h) h fun σ lv st h =>
    so_iload E (i := 10) dL_law_239 h fun σ lv st h =>
    so_ifne E 249 (by decide) dL_law_241 (fun _ _ _ h => h) h fun σ lv st h =>
    so_ldc E (x := -2000001) (idx := 21) (v := -2000001) (by decide +kernel) rfl dL_law_244 h fun σ lv st h =>
    so_goto E 250 (by decide) dL_law_246 (fun _ _ _ h => h) h
set_option maxRecDepth 20000 in
theorem sb_L_law_249 {J : Nat → q_K} {l : Launch} {Qp : Option q_V → q_M → Prop} (E : q_E J cL_law RL wsL_law 13 l room_1) (T : q_T J cL_law (some .boolean) Qp) : ∀ (σ : q_M) (lv : q_L) (st : q_S), k_L_law_249 Qp J σ lv st → J 249 σ lv st := fun σ lv st h =>
    so_iload_n E (i := 2) rfl dL_law_249 h fun σ lv st h =>
    h
set_option maxRecDepth 20000 in
theorem sb_L_law_250 {J : Nat → q_K} {l : Launch} {Qp : Option q_V → q_M → Prop} (E : q_E J cL_law RL wsL_law 13 l room_1) (T : q_T J cL_law (some .boolean) Qp) : ∀ (σ : q_M) (lv : q_L) (st : q_S), k_L_law_250 Qp J σ lv st → J 250 σ lv st := fun σ lv st h =>
    so_icmpne E 257 (by decide) dL_law_250 (fun _ _ _ h => h) h fun σ lv st h =>
    so_iconst E (x := 1) dL_law_253 h fun σ lv st h =>
    so_goto E 258 (by decide) dL_law_254 (fun _ _ _ h => h) h
set_option maxRecDepth 20000 in
theorem sb_L_law_257 {J : Nat → q_K} {l : Launch} {Qp : Option q_V → q_M → Prop} (E : q_E J cL_law RL wsL_law 13 l room_1) (T : q_T J cL_law (some .boolean) Qp) : ∀ (σ : q_M) (lv : q_L) (st : q_S), k_L_law_257 Qp J σ lv st → J 257 σ lv st := fun σ lv st h =>
    so_iconst E (x := 0) dL_law_257 h fun σ lv st h =>
    h
set_option maxRecDepth 20000 in
theorem sb_L_law_258 {J : Nat → q_K} {l : Launch} {Qp : Option q_V → q_M → Prop} (E : q_E J cL_law RL wsL_law 13 l room_1) (T : q_T J cL_law (some .boolean) Qp) : ∀ (σ : q_M) (lv : q_L) (st : q_S), k_L_law_258 Qp J σ lv st → J 258 σ lv st := fun σ lv st h =>
    so_istore E (i := 6) (by decide) dL_law_258 h fun σ lv st h =>
    so_iload_n E (i := 2) rfl dL_law_260 h fun σ lv st h =>
    so_iload E (i := 11) dL_law_261 h fun σ lv st h =>
    so_iflt E 270 (by decide) dL_law_263 (fun _ _ _ h => h) h fun σ lv st h =>
    so_iconst E (x := 1) dL_law_266 h fun σ lv st h =>
    so_goto E 271 (by decide) dL_law_267 (fun _ _ _ h => h) h
set_option maxRecDepth 20000 in
theorem sb_L_law_270 {J : Nat → q_K} {l : Launch} {Qp : Option q_V → q_M → Prop} (E : q_E J cL_law RL wsL_law 13 l room_1) (T : q_T J cL_law (some .boolean) Qp) : ∀ (σ : q_M) (lv : q_L) (st : q_S), k_L_law_270 Qp J σ lv st → J 270 σ lv st := fun σ lv st h =>
    so_iconst E (x := 0) dL_law_270 h fun σ lv st h =>
    h
set_option maxRecDepth 20000 in
theorem sb_L_law_271 {J : Nat → q_K} {l : Launch} {Qp : Option q_V → q_M → Prop} (E : q_E J cL_law RL wsL_law 13 l room_1) (T : q_T J cL_law (some .boolean) Qp) : ∀ (σ : q_M) (lv : q_L) (st : q_S), k_L_law_271 Qp J σ lv st → J 271 σ lv st := fun σ lv st h =>
    so_iadd E dL_law_271 h fun σ lv st h =>
    so_istore_n E (i := 2) rfl (by decide) dL_law_272 h fun σ lv st h =>
    so_goto E 921 (by decide) dL_law_273 (fun _ _ _ h => h) h
set_option maxRecDepth 20000 in
theorem sb_L_law_276 {J : Nat → q_K} {l : Launch} {Qp : Option q_V → q_M → Prop} (E : q_E J cL_law RL wsL_law 13 l room_1) (T : q_T J cL_law (some .boolean) Qp) : ∀ (σ : q_M) (lv : q_L) (st : q_S), k_L_law_276 Qp J σ lv st → J 276 σ lv st := fun σ lv st h =>
    so_iload E (i := 7) dL_law_276 h fun σ lv st h =>
    so_iconst E (x := 5) dL_law_278 h fun σ lv st h =>
    so_icmpge E 322 (by decide) dL_law_279 (fun _ _ _ h => h) h fun σ lv st h =>
    so_aload_n E (i := 1) rfl dL_law_282 h fun σ lv st h =>
    so_iload_n E (i := 2) rfl dL_law_283 h fun σ lv st h =>
    so_iconst E (x := 1) dL_law_284 h fun σ lv st h =>
    so_iload E (i := 5) dL_law_285 h fun σ lv st h =>
    so_iload E (i := 7) dL_law_287 h fun σ lv st h =>
    so_iconst E (x := 3) dL_law_289 h fun σ lv st h =>
    so_icmpge E 297 (by decide) dL_law_290 (fun _ _ _ h => h) h fun σ lv st h =>
    so_iconst E (x := 4) dL_law_293 h fun σ lv st h =>
    so_goto E 299 (by decide) dL_law_294 (fun _ _ _ h => h) h
set_option maxRecDepth 20000 in
theorem sb_L_law_297 {J : Nat → q_K} {l : Launch} {Qp : Option q_V → q_M → Prop} (E : q_E J cL_law RL wsL_law 13 l room_1) (T : q_T J cL_law (some .boolean) Qp) : ∀ (σ : q_M) (lv : q_L) (st : q_S), k_L_law_297 Qp J σ lv st → J 297 σ lv st := fun σ lv st h =>
    so_bipush E (x := 60) rfl dL_law_297 h fun σ lv st h =>
    h
set_option maxRecDepth 20000 in
theorem sb_L_law_299 {J : Nat → q_K} {l : Launch} {Qp : Option q_V → q_M → Prop} (E : q_E J cL_law RL wsL_law 13 l room_1) (T : q_T J cL_law (some .boolean) Qp) : ∀ (σ : q_M) (lv : q_L) (st : q_S), k_L_law_299 Qp J σ lv st → J 299 σ lv st := fun σ lv st h =>
    so_callT E (n := 2) (idx := 109) (maxL := 2) (ret := (some .int)) cc_L_up gL_law_L_up rfl ⟨rfl, rfl⟩ (by decide +kernel) (by decide) dL_law_299 h fun σ lv st h =>
    so_iadd E dL_law_302 h fun σ lv st h =>
    so_iload E (i := 5) dL_law_303 h fun σ lv st h =>
    so_bipush E (x := 6) rfl dL_law_305 h fun σ lv st h =>
    so_ishr E dL_law_307 h fun σ lv st h =>
    so_sipush E (x := 3000) rfl dL_law_308 h fun σ lv st h =>
    so_callT E (n := 2) (idx := 109) (maxL := 2) (ret := (some .int)) cc_L_up gL_law_L_up rfl ⟨rfl, rfl⟩ (by decide +kernel) (by decide) dL_law_311 h fun σ lv st h =>
    so_callT E (n := 4) (idx := 113) (maxL := 13) (ret := (some .boolean)) cc_L_ticks gL_law_L_ticks rfl ⟨rfl, rfl⟩ (by decide +kernel) (by decide) dL_law_314 h fun σ lv st h =>
    so_istore E (i := 6) (by decide) dL_law_317 h fun σ lv st h =>
    so_goto E 921 (by decide) dL_law_319 (fun _ _ _ h => h) h
set_option maxRecDepth 20000 in
theorem sb_L_law_322 {J : Nat → q_K} {l : Launch} {Qp : Option q_V → q_M → Prop} (E : q_E J cL_law RL wsL_law 13 l room_1) (T : q_T J cL_law (some .boolean) Qp) : ∀ (σ : q_M) (lv : q_L) (st : q_S), k_L_law_322 Qp J σ lv st → J 322 σ lv st := fun σ lv st h =>
    so_iload E (i := 7) dL_law_322 h fun σ lv st h =>
    so_iconst E (x := 5) dL_law_324 h fun σ lv st h =>
    so_icmpne E 482 (by decide) dL_law_325 (fun _ _ _ h => h) h fun σ lv st h =>
    so_iload E (i := 5) dL_law_328 h fun σ lv st h =>
    so_iconst E (x := 3) dL_law_330 h fun σ lv st h =>
    so_callT E (n := 2) (idx := 109) (maxL := 2) (ret := (some .int)) cc_L_up gL_law_L_up rfl ⟨rfl, rfl⟩ (by decide +kernel) (by decide) dL_law_331 h fun σ lv st h =>
    so_istore E (i := 8) (by decide) dL_law_334 h fun σ lv st h =>
    so_iload E (i := 5) dL_law_336 h fun σ lv st h =>
    so_iconst E (x := 2) dL_law_338 h fun σ lv st h =>
    so_ishr E dL_law_339 h fun σ lv st h =>
    so_iconst E (x := 4) dL_law_340 h fun σ lv st h =>
    so_callT E (n := 2) (idx := 109) (maxL := 2) (ret := (some .int)) cc_L_up gL_law_L_up rfl ⟨rfl, rfl⟩ (by decide +kernel) (by decide) dL_law_341 h fun σ lv st h =>
    so_istore E (i := 9) (by decide) dL_law_344 h fun σ lv st h =>
    so_iload E (i := 9) dL_law_346 h fun σ lv st h =>
    so_ifne E 366 (by decide) dL_law_348 (fun _ _ _ h => h) h fun σ lv st h =>
    so_iconst E (x := 1) dL_law_351 h fun σ lv st h =>
    so_iload E (i := 5) dL_law_352 h fun σ lv st h =>
    so_iconst E (x := 4) dL_law_354 h fun σ lv st h =>
    so_ishr E dL_law_355 h fun σ lv st h =>
    so_sipush E (x := 1000) rfl dL_law_356 h fun σ lv st h =>
    so_callT E (n := 2) (idx := 109) (maxL := 2) (ret := (some .int)) cc_L_up gL_law_L_up rfl ⟨rfl, rfl⟩ (by decide +kernel) (by decide) dL_law_359 h fun σ lv st h =>
    so_iadd E dL_law_362 h fun σ lv st h =>
    so_goto E 424 (by decide) dL_law_363 (fun _ _ _ h => h) h
set_option maxRecDepth 20000 in
theorem sb_L_law_366 {J : Nat → q_K} {l : Launch} {Qp : Option q_V → q_M → Prop} (E : q_E J cL_law RL wsL_law 13 l room_1) (T : q_T J cL_law (some .boolean) Qp) : ∀ (σ : q_M) (lv : q_L) (st : q_S), k_L_law_366 Qp J σ lv st → J 366 σ lv st := fun σ lv st h =>
    so_iload E (i := 9) dL_law_366 h fun σ lv st h =>
    so_iconst E (x := 1) dL_law_368 h fun σ lv st h =>
    so_icmpne E 389 (by decide) dL_law_369 (fun _ _ _ h => h) h fun σ lv st h =>
    so_iload E (i := 5) dL_law_372 h fun σ lv st h =>
    so_iconst E (x := 4) dL_law_374 h fun σ lv st h =>
    so_ishr E dL_law_375 h fun σ lv st h =>
    so_sipush E (x := 20001) rfl dL_law_376 h fun σ lv st h =>
    so_callT E (n := 2) (idx := 109) (maxL := 2) (ret := (some .int)) cc_L_up gL_law_L_up rfl ⟨rfl, rfl⟩ (by decide +kernel) (by decide) dL_law_379 h fun σ lv st h =>
    so_sipush E (x := 10000) rfl dL_law_382 h fun σ lv st h =>
    so_isub E dL_law_385 h fun σ lv st h =>
    so_goto E 424 (by decide) dL_law_386 (fun _ _ _ h => h) h
set_option maxRecDepth 20000 in
theorem sb_L_law_389 {J : Nat → q_K} {l : Launch} {Qp : Option q_V → q_M → Prop} (E : q_E J cL_law RL wsL_law 13 l room_1) (T : q_T J cL_law (some .boolean) Qp) : ∀ (σ : q_M) (lv : q_L) (st : q_S), k_L_law_389 Qp J σ lv st → J 389 σ lv st := fun σ lv st h =>
    so_iload E (i := 9) dL_law_389 h fun σ lv st h =>
    so_iconst E (x := 2) dL_law_391 h fun σ lv st h =>
    so_icmpne E 411 (by decide) dL_law_392 (fun _ _ _ h => h) h fun σ lv st h =>
    so_iload E (i := 5) dL_law_395 h fun σ lv st h =>
    so_iconst E (x := 4) dL_law_397 h fun σ lv st h =>
    so_ishr E dL_law_398 h fun σ lv st h =>
    so_sipush E (x := 201) rfl dL_law_399 h fun σ lv st h =>
    so_callT E (n := 2) (idx := 109) (maxL := 2) (ret := (some .int)) cc_L_up gL_law_L_up rfl ⟨rfl, rfl⟩ (by decide +kernel) (by decide) dL_law_402 h fun σ lv st h =>
    so_bipush E (x := 100) rfl dL_law_405 h fun σ lv st h =>
    so_isub E dL_law_407 h fun σ lv st h =>
    so_goto E 424 (by decide) dL_law_408 (fun _ _ _ h => h) h
set_option maxRecDepth 20000 in
theorem sb_L_law_411 {J : Nat → q_K} {l : Launch} {Qp : Option q_V → q_M → Prop} (E : q_E J cL_law RL wsL_law 13 l room_1) (T : q_T J cL_law (some .boolean) Qp) : ∀ (σ : q_M) (lv : q_L) (st : q_S), k_L_law_411 Qp J σ lv st → J 411 σ lv st := fun σ lv st h =>
    so_iload E (i := 5) dL_law_411 h fun σ lv st h =>
    so_iconst E (x := 4) dL_law_413 h fun σ lv st h =>
    so_ishr E dL_law_414 h fun σ lv st h =>
    so_sipush E (x := 201) rfl dL_law_415 h fun σ lv st h =>
    so_callT E (n := 2) (idx := 109) (maxL := 2) (ret := (some .int)) cc_L_up gL_law_L_up rfl ⟨rfl, rfl⟩ (by decide +kernel) (by decide) dL_law_418 h fun σ lv st h =>
    so_bipush E (x := 100) rfl dL_law_421 h fun σ lv st h =>
    so_isub E dL_law_423 h fun σ lv st h =>
    h
set_option maxRecDepth 20000 in
theorem sb_L_law_424 {J : Nat → q_K} {l : Launch} {Qp : Option q_V → q_M → Prop} (E : q_E J cL_law RL wsL_law 13 l room_1) (T : q_T J cL_law (some .boolean) Qp) : ∀ (σ : q_M) (lv : q_L) (st : q_S), k_L_law_424 Qp J σ lv st → J 424 σ lv st := fun σ lv st h =>
    so_istore E (i := 10) (by decide) dL_law_424 h fun σ lv st h =>
    so_aload_n E (i := 1) rfl dL_law_426 h fun σ lv st h =>
    so_iload E (i := 8) dL_law_427 h fun σ lv st h =>
    so_iconst E (x := 5) dL_law_429 h fun σ lv st h =>
    so_iload E (i := 9) dL_law_430 h fun σ lv st h =>
    so_iadd E dL_law_432 h fun σ lv st h =>
    so_callV E (n := 2) (pp := 23) (C := RX5) (T := TX5) (N := 5) (idx := 56) (maxL := 3) (ret := (some .long)) cc_X5_axis ⟨rfl, rfl, rfl⟩ rfl gL_law_X5_axis rfl ⟨rfl, rfl⟩ (by decide +kernel) (by decide) dL_law_433 h fun σ lv st h =>
    so_lstore E (i := 11) (by decide) dL_law_436 h fun σ lv st h =>
    so_aload_n E (i := 1) rfl dL_law_438 h fun σ lv st h =>
    so_iload E (i := 8) dL_law_439 h fun σ lv st h =>
    so_iload E (i := 9) dL_law_441 h fun σ lv st h =>
    so_iload E (i := 10) dL_law_443 h fun σ lv st h =>
    so_callV E (n := 3) (pp := 23) (C := RX5) (T := TX5) (N := 5) (idx := 35) (maxL := 5) (ret := (some .int)) cc_X5_setAxis ⟨rfl, rfl, rfl⟩ rfl gL_law_X5_setAxis rfl ⟨rfl, rfl⟩ (by decide +kernel) (by decide) dL_law_445 h fun σ lv st h =>
    so_i2l E dL_law_448 h fun σ lv st h =>
    so_lload E (i := 11) dL_law_449 h fun σ lv st h =>
    so_lcmp E dL_law_451 h fun σ lv st h =>
    so_ifne E 476 (by decide) dL_law_452 (fun _ _ _ h => h) h fun σ lv st h =>
    so_aload_n E (i := 1) rfl dL_law_455 h fun σ lv st h =>
    so_iload E (i := 8) dL_law_456 h fun σ lv st h =>
    so_iconst E (x := 5) dL_law_458 h fun σ lv st h =>
    so_iload E (i := 9) dL_law_459 h fun σ lv st h =>
    so_iadd E dL_law_461 h fun σ lv st h =>
    so_callV E (n := 2) (pp := 23) (C := RX5) (T := TX5) (N := 5) (idx := 56) (maxL := 3) (ret := (some .long)) cc_X5_axis ⟨rfl, rfl, rfl⟩ rfl gL_law_X5_axis rfl ⟨rfl, rfl⟩ (by decide +kernel) (by decide) dL_law_462 h fun σ lv st h =>
    so_iload E (i := 10) dL_law_465 h fun σ lv st h =>
    so_i2l E dL_law_467 h fun σ lv st h =>
    so_lcmp E dL_law_468 h fun σ lv st h =>
    so_ifne E 476 (by decide) dL_law_469 (fun _ _ _ h => h) h fun σ lv st h =>
    so_iconst E (x := 1) dL_law_472 h fun σ lv st h =>
    so_goto E 477 (by decide) dL_law_473 (fun _ _ _ h => h) h
set_option maxRecDepth 20000 in
theorem sb_L_law_476 {J : Nat → q_K} {l : Launch} {Qp : Option q_V → q_M → Prop} (E : q_E J cL_law RL wsL_law 13 l room_1) (T : q_T J cL_law (some .boolean) Qp) : ∀ (σ : q_M) (lv : q_L) (st : q_S), k_L_law_476 Qp J σ lv st → J 476 σ lv st := fun σ lv st h =>
    so_iconst E (x := 0) dL_law_476 h fun σ lv st h =>
    h
set_option maxRecDepth 20000 in
theorem sb_L_law_477 {J : Nat → q_K} {l : Launch} {Qp : Option q_V → q_M → Prop} (E : q_E J cL_law RL wsL_law 13 l room_1) (T : q_T J cL_law (some .boolean) Qp) : ∀ (σ : q_M) (lv : q_L) (st : q_S), k_L_law_477 Qp J σ lv st → J 477 σ lv st := fun σ lv st h =>
    so_istore E (i := 6) (by decide) dL_law_477 h fun σ lv st h =>
    so_goto E 921 (by decide) dL_law_479 (fun _ _ _ h => h) h
set_option maxRecDepth 20000 in
theorem sb_L_law_482 {J : Nat → q_K} {l : Launch} {Qp : Option q_V → q_M → Prop} (E : q_E J cL_law RL wsL_law 13 l room_1) (T : q_T J cL_law (some .boolean) Qp) : ∀ (σ : q_M) (lv : q_L) (st : q_S), k_L_law_482 Qp J σ lv st → J 482 σ lv st := fun σ lv st h =>
    so_iload E (i := 7) dL_law_482 h fun σ lv st h =>
    so_bipush E (x := 6) rfl dL_law_484 h fun σ lv st h =>
    so_icmpne E 612 (by decide) dL_law_486 (fun _ _ _ h => h) h fun σ lv st h =>
    so_iload E (i := 5) dL_law_489 h fun σ lv st h =>
    so_iconst E (x := 5) dL_law_491 h fun σ lv st h =>
    so_callT E (n := 2) (idx := 109) (maxL := 2) (ret := (some .int)) cc_L_up gL_law_L_up rfl ⟨rfl, rfl⟩ (by decide +kernel) (by decide) dL_law_492 h fun σ lv st h =>
    so_istore E (i := 8) (by decide) dL_law_495 h fun σ lv st h =>
    so_aload_n E (i := 1) rfl dL_law_497 h fun σ lv st h =>
    so_iload E (i := 8) dL_law_498 h fun σ lv st h =>
    so_callV E (n := 1) (pp := 23) (C := RX5) (T := TX5) (N := 5) (idx := 43) (maxL := 2) (ret := (some .int)) cc_X5_setting ⟨rfl, rfl, rfl⟩ rfl gL_law_X5_setting rfl ⟨rfl, rfl⟩ (by decide +kernel) (by decide) dL_law_500 h fun σ lv st h =>
    so_istore E (i := 9) (by decide) dL_law_503 h fun σ lv st h =>
    so_iload E (i := 8) dL_law_505 h fun σ lv st h =>
    so_iconst E (x := 2) dL_law_507 h fun σ lv st h =>
    so_icmpge E 524 (by decide) dL_law_508 (fun _ _ _ h => h) h fun σ lv st h =>
    so_iload E (i := 5) dL_law_511 h fun σ lv st h =>
    so_iconst E (x := 3) dL_law_513 h fun σ lv st h =>
    so_ishr E dL_law_514 h fun σ lv st h =>
    so_sipush E (x := 200) rfl dL_law_515 h fun σ lv st h =>
    so_callT E (n := 2) (idx := 109) (maxL := 2) (ret := (some .int)) cc_L_up gL_law_L_up rfl ⟨rfl, rfl⟩ (by decide +kernel) (by decide) dL_law_518 h fun σ lv st h =>
    so_goto E 576 (by decide) dL_law_521 (fun _ _ _ h => h) h
set_option maxRecDepth 20000 in
theorem sb_L_law_524 {J : Nat → q_K} {l : Launch} {Qp : Option q_V → q_M → Prop} (E : q_E J cL_law RL wsL_law 13 l room_1) (T : q_T J cL_law (some .boolean) Qp) : ∀ (σ : q_M) (lv : q_L) (st : q_S), k_L_law_524 Qp J σ lv st → J 524 σ lv st := fun σ lv st h =>
    so_iload E (i := 8) dL_law_524 h fun σ lv st h =>
    so_iconst E (x := 2) dL_law_526 h fun σ lv st h =>
    so_icmpne E 545 (by decide) dL_law_527 (fun _ _ _ h => h) h fun σ lv st h =>
    so_iconst E (x := 1) dL_law_530 h fun σ lv st h =>
    so_iload E (i := 5) dL_law_531 h fun σ lv st h =>
    so_iconst E (x := 3) dL_law_533 h fun σ lv st h =>
    so_ishr E dL_law_534 h fun σ lv st h =>
    so_sipush E (x := 2000) rfl dL_law_535 h fun σ lv st h =>
    so_callT E (n := 2) (idx := 109) (maxL := 2) (ret := (some .int)) cc_L_up gL_law_L_up rfl ⟨rfl, rfl⟩ (by decide +kernel) (by decide) dL_law_538 h fun σ lv st h =>
    so_iadd E dL_law_541 h fun σ lv st h =>
    so_goto E 576 (by decide) dL_law_542 (fun _ _ _ h => h) h
set_option maxRecDepth 20000 in
theorem sb_L_law_545 {J : Nat → q_K} {l : Launch} {Qp : Option q_V → q_M → Prop} (E : q_E J cL_law RL wsL_law 13 l room_1) (T : q_T J cL_law (some .boolean) Qp) : ∀ (σ : q_M) (lv : q_L) (st : q_S), k_L_law_545 Qp J σ lv st → J 545 σ lv st := fun σ lv st h =>
    so_iload E (i := 8) dL_law_545 h fun σ lv st h =>
    so_iconst E (x := 3) dL_law_547 h fun σ lv st h =>
    so_icmpne E 566 (by decide) dL_law_548 (fun _ _ _ h => h) h fun σ lv st h =>
    so_iconst E (x := 1) dL_law_551 h fun σ lv st h =>
    so_iload E (i := 5) dL_law_552 h fun σ lv st h =>
    so_iconst E (x := 3) dL_law_554 h fun σ lv st h =>
    so_ishr E dL_law_555 h fun σ lv st h =>
    so_sipush E (x := 9000) rfl dL_law_556 h fun σ lv st h =>
    so_callT E (n := 2) (idx := 109) (maxL := 2) (ret := (some .int)) cc_L_up gL_law_L_up rfl ⟨rfl, rfl⟩ (by decide +kernel) (by decide) dL_law_559 h fun σ lv st h =>
    so_iadd E dL_law_562 h fun σ lv st h =>
    so_goto E 576 (by decide) dL_law_563 (fun _ _ _ h => h) h
set_option maxRecDepth 20000 in
theorem sb_L_law_566 {J : Nat → q_K} {l : Launch} {Qp : Option q_V → q_M → Prop} (E : q_E J cL_law RL wsL_law 13 l room_1) (T : q_T J cL_law (some .boolean) Qp) : ∀ (σ : q_M) (lv : q_L) (st : q_S), k_L_law_566 Qp J σ lv st → J 566 σ lv st := fun σ lv st h =>
    so_iload E (i := 5) dL_law_566 h fun σ lv st h =>
    so_iconst E (x := 3) dL_law_568 h fun σ lv st h =>
    so_ishr E dL_law_569 h fun σ lv st h =>
    so_sipush E (x := 10001) rfl dL_law_570 h fun σ lv st h =>
    so_callT E (n := 2) (idx := 109) (maxL := 2) (ret := (some .int)) cc_L_up gL_law_L_up rfl ⟨rfl, rfl⟩ (by decide +kernel) (by decide) dL_law_573 h fun σ lv st h =>
    h
set_option maxRecDepth 20000 in
theorem sb_L_law_576 {J : Nat → q_K} {l : Launch} {Qp : Option q_V → q_M → Prop} (E : q_E J cL_law RL wsL_law 13 l room_1) (T : q_T J cL_law (some .boolean) Qp) : ∀ (σ : q_M) (lv : q_L) (st : q_S), k_L_law_576 Qp J σ lv st → J 576 σ lv st := fun σ lv st h =>
    so_istore E (i := 10) (by decide) dL_law_576 h fun σ lv st h =>
    so_aload_n E (i := 1) rfl dL_law_578 h fun σ lv st h =>
    so_iload E (i := 8) dL_law_579 h fun σ lv st h =>
    so_iload E (i := 10) dL_law_581 h fun σ lv st h =>
    so_callV E (n := 2) (pp := 23) (C := RX5) (T := TX5) (N := 5) (idx := 40) (maxL := 4) (ret := (some .int)) cc_X5_set ⟨rfl, rfl, rfl⟩ rfl gL_law_X5_set rfl ⟨rfl, rfl⟩ (by decide +kernel) (by decide) dL_law_583 h fun σ lv st h =>
    so_iload E (i := 9) dL_law_586 h fun σ lv st h =>
    so_icmpne E 606 (by decide) dL_law_588 (fun _ _ _ h => h) h fun σ lv st h =>
    so_aload_n E (i := 1) rfl dL_law_591 h fun σ lv st h =>
    so_iload E (i := 8) dL_law_592 h fun σ lv st h =>
    so_callV E (n := 1) (pp := 23) (C := RX5) (T := TX5) (N := 5) (idx := 43) (maxL := 2) (ret := (some .int)) cc_X5_setting ⟨rfl, rfl, rfl⟩ rfl gL_law_X5_setting rfl ⟨rfl, rfl⟩ (by decide +kernel) (by decide) dL_law_594 h fun σ lv st h =>
    so_iload E (i := 10) dL_law_597 h fun σ lv st h =>
    so_icmpne E 606 (by decide) dL_law_599 (fun _ _ _ h => h) h fun σ lv st h =>
    so_iconst E (x := 1) dL_law_602 h fun σ lv st h =>
    so_goto E 607 (by decide) dL_law_603 (fun _ _ _ h => h) h
set_option maxRecDepth 20000 in
theorem sb_L_law_606 {J : Nat → q_K} {l : Launch} {Qp : Option q_V → q_M → Prop} (E : q_E J cL_law RL wsL_law 13 l room_1) (T : q_T J cL_law (some .boolean) Qp) : ∀ (σ : q_M) (lv : q_L) (st : q_S), k_L_law_606 Qp J σ lv st → J 606 σ lv st := fun σ lv st h =>
    so_iconst E (x := 0) dL_law_606 h fun σ lv st h =>
    h
set_option maxRecDepth 20000 in
theorem sb_L_law_607 {J : Nat → q_K} {l : Launch} {Qp : Option q_V → q_M → Prop} (E : q_E J cL_law RL wsL_law 13 l room_1) (T : q_T J cL_law (some .boolean) Qp) : ∀ (σ : q_M) (lv : q_L) (st : q_S), k_L_law_607 Qp J σ lv st → J 607 σ lv st := fun σ lv st h =>
    so_istore E (i := 6) (by decide) dL_law_607 h fun σ lv st h =>
    so_goto E 921 (by decide) dL_law_609 (fun _ _ _ h => h) h
set_option maxRecDepth 20000 in
theorem sb_L_law_612 {J : Nat → q_K} {l : Launch} {Qp : Option q_V → q_M → Prop} (E : q_E J cL_law RL wsL_law 13 l room_1) (T : q_T J cL_law (some .boolean) Qp) : ∀ (σ : q_M) (lv : q_L) (st : q_S), k_L_law_612 Qp J σ lv st → J 612 σ lv st := fun σ lv st h =>
    so_iload E (i := 7) dL_law_612 h fun σ lv st h =>
    so_bipush E (x := 7) rfl dL_law_614 h fun σ lv st h =>
    so_icmpne E 698 (by decide) dL_law_616 (fun _ _ _ h => h) h fun σ lv st h =>
    so_iload E (i := 5) dL_law_619 h fun σ lv st h =>
    so_iconst E (x := 3) dL_law_621 h fun σ lv st h =>
    so_callT E (n := 2) (idx := 109) (maxL := 2) (ret := (some .int)) cc_L_up gL_law_L_up rfl ⟨rfl, rfl⟩ (by decide +kernel) (by decide) dL_law_622 h fun σ lv st h =>
    so_istore E (i := 8) (by decide) dL_law_625 h fun σ lv st h =>
    so_aload_n E (i := 1) rfl dL_law_627 h fun σ lv st h =>
    so_iload E (i := 8) dL_law_628 h fun σ lv st h =>
    so_iconst E (x := 1) dL_law_630 h fun σ lv st h =>
    so_callV E (n := 2) (pp := 23) (C := RX5) (T := TX5) (N := 5) (idx := 56) (maxL := 3) (ret := (some .long)) cc_X5_axis ⟨rfl, rfl, rfl⟩ rfl gL_law_X5_axis rfl ⟨rfl, rfl⟩ (by decide +kernel) (by decide) dL_law_631 h fun σ lv st h =>
    so_lstore E (i := 9) (by decide) dL_law_634 h fun σ lv st h =>
    so_iload E (i := 5) dL_law_636 h fun σ lv st h =>
    so_iconst E (x := 2) dL_law_638 h fun σ lv st h =>
    so_ishr E dL_law_639 h fun σ lv st h =>
    so_sipush E (x := 20001) rfl dL_law_640 h fun σ lv st h =>
    so_callT E (n := 2) (idx := 109) (maxL := 2) (ret := (some .int)) cc_L_up gL_law_L_up rfl ⟨rfl, rfl⟩ (by decide +kernel) (by decide) dL_law_643 h fun σ lv st h =>
    so_sipush E (x := 10000) rfl dL_law_646 h fun σ lv st h =>
    so_isub E dL_law_649 h fun σ lv st h =>
    so_istore E (i := 11) (by decide) dL_law_650 h fun σ lv st h =>
    so_aload_n E (i := 1) rfl dL_law_652 h fun σ lv st h =>
    so_iload E (i := 8) dL_law_653 h fun σ lv st h =>
    so_iload E (i := 11) dL_law_655 h fun σ lv st h =>
    so_callV E (n := 2) (pp := 23) (C := RX5) (T := TX5) (N := 5) (idx := 47) (maxL := 3) (ret := (some .long)) cc_X5_strike ⟨rfl, rfl, rfl⟩ rfl gL_law_X5_strike rfl ⟨rfl, rfl⟩ (by decide +kernel) (by decide) dL_law_657 h fun σ lv st h =>
    so_aload_n E (i := 1) rfl dL_law_660 h fun σ lv st h =>
    so_iload E (i := 8) dL_law_661 h fun σ lv st h =>
    so_iconst E (x := 2) dL_law_663 h fun σ lv st h =>
    so_callV E (n := 2) (pp := 23) (C := RX5) (T := TX5) (N := 5) (idx := 56) (maxL := 3) (ret := (some .long)) cc_X5_axis ⟨rfl, rfl, rfl⟩ rfl gL_law_X5_axis rfl ⟨rfl, rfl⟩ (by decide +kernel) (by decide) dL_law_664 h fun σ lv st h =>
    so_lcmp E dL_law_667 h fun σ lv st h =>
    so_ifne E 692 (by decide) dL_law_668 (fun _ _ _ h => h) h fun σ lv st h =>
    so_aload_n E (i := 1) rfl dL_law_671 h fun σ lv st h =>
    so_iload E (i := 8) dL_law_672 h fun σ lv st h =>
    so_iconst E (x := 1) dL_law_674 h fun σ lv st h =>
    so_callV E (n := 2) (pp := 23) (C := RX5) (T := TX5) (N := 5) (idx := 56) (maxL := 3) (ret := (some .long)) cc_X5_axis ⟨rfl, rfl, rfl⟩ rfl gL_law_X5_axis rfl ⟨rfl, rfl⟩ (by decide +kernel) (by decide) dL_law_675 h fun σ lv st h =>
    so_lload E (i := 9) dL_law_678 h fun σ lv st h =>
    so_iload E (i := 11) dL_law_680 h fun σ lv st h =>
    so_i2l E dL_law_682 h fun σ lv st h =>
    so_ladd E dL_law_683 h fun σ lv st h =>
    so_lcmp E dL_law_684 h fun σ lv st h =>
    so_ifne E 692 (by decide) dL_law_685 (fun _ _ _ h => h) h fun σ lv st h =>
    so_iconst E (x := 1) dL_law_688 h fun σ lv st h =>
    so_goto E 693 (by decide) dL_law_689 (fun _ _ _ h => h) h
