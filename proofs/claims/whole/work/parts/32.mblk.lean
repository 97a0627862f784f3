/-! ===== the methods' blocks ===== -/
def k_X6_in_15 (Qp : Option q_V → q_M → Prop) (X : Nat → q_K) (σ : q_M) (lv : q_L) (st : q_S) : Prop :=
    o_zret Qp σ lv st
def k_X6_in_14 (Qp : Option q_V → q_M → Prop) (X : Nat → q_K) (σ : q_M) (lv : q_L) (st : q_S) : Prop :=
    o_ic 0 σ lv st fun σ lv st =>
    k_X6_in_15 Qp X σ lv st
def k_X6_in_0 (Qp : Option q_V → q_M → Prop) (X : Nat → q_K) (σ : q_M) (lv : q_L) (st : q_S) : Prop :=
    o_iload 0 σ lv st fun σ lv st =>
    o_iload 1 σ lv st fun σ lv st =>
    o_icmplt (k_X6_in_14 Qp X) σ lv st fun σ lv st =>
    o_iload 0 σ lv st fun σ lv st =>
    o_iload 2 σ lv st fun σ lv st =>
    o_icmpgt (k_X6_in_14 Qp X) σ lv st fun σ lv st =>
    o_ic 1 σ lv st fun σ lv st =>
    o_goto (k_X6_in_15 Qp X) σ lv st
def k_X6_act_48 (Qp : Option q_V → q_M → Prop) (X : Nat → q_K) (σ : q_M) (lv : q_L) (st : q_S) : Prop :=
    o_ic 0 σ lv st fun σ lv st =>
    o_istore 1 σ lv st fun σ lv st =>
    X 50 σ lv st
def k_X6_act_0 (Qp : Option q_V → q_M → Prop) (X : Nat → q_K) (σ : q_M) (lv : q_L) (st : q_S) : Prop :=
    o_aload 0 σ lv st fun σ lv st =>
    o_get 24 3 σ lv st fun σ lv st =>
    o_ic 4 σ lv st fun σ lv st =>
    o_icmpne (k_X6_act_48 Qp X) σ lv st fun σ lv st =>
    o_ic 0 σ lv st fun σ lv st =>
    o_istore 1 σ lv st fun σ lv st =>
    X 10 σ lv st
def k_X6_act_38 (Qp : Option q_V → q_M → Prop) (X : Nat → q_K) (σ : q_M) (lv : q_L) (st : q_S) : Prop :=
    o_aload 0 σ lv st fun σ lv st =>
    o_dup σ lv st fun σ lv st =>
    o_get 24 3 σ lv st fun σ lv st =>
    o_ic 1 σ lv st fun σ lv st =>
    o_isub σ lv st fun σ lv st =>
    o_puti 24 0 σ lv st fun σ lv st =>
    k_X6_act_48 Qp X σ lv st
def k_X6_act_10 (Qp : Option q_V → q_M → Prop) (X : Nat → q_K) (σ : q_M) (lv : q_L) (st : q_S) : Prop :=
    o_iload 1 σ lv st fun σ lv st =>
    o_ic (300) σ lv st fun σ lv st =>
    o_icmpge (k_X6_act_38 Qp X) σ lv st fun σ lv st =>
    o_aload 0 σ lv st fun σ lv st =>
    o_get 24 2 σ lv st fun σ lv st =>
    o_iload 1 σ lv st fun σ lv st =>
    o_aload 0 σ lv st fun σ lv st =>
    o_get 24 2 σ lv st fun σ lv st =>
    o_iload 1 σ lv st fun σ lv st =>
    o_ic (100) σ lv st fun σ lv st =>
    o_iadd σ lv st fun σ lv st =>
    o_lald σ lv st fun σ lv st =>
    o_last σ lv st fun σ lv st =>
    o_iinc 1 1 σ lv st fun σ lv st =>
    o_goto (X 10) σ lv st
def k_X6_act_82 (Qp : Option q_V → q_M → Prop) (X : Nat → q_K) (σ : q_M) (lv : q_L) (st : q_S) : Prop :=
    o_aload 0 σ lv st fun σ lv st =>
    o_dup σ lv st fun σ lv st =>
    o_get 24 3 σ lv st fun σ lv st =>
    o_ic 1 σ lv st fun σ lv st =>
    o_iadd σ lv st fun σ lv st =>
    o_puti 24 0 σ lv st fun σ lv st =>
    o_vret Qp σ lv st
def k_X6_act_50 (Qp : Option q_V → q_M → Prop) (X : Nat → q_K) (σ : q_M) (lv : q_L) (st : q_S) : Prop :=
    o_iload 1 σ lv st fun σ lv st =>
    o_ic (100) σ lv st fun σ lv st =>
    o_icmpge (k_X6_act_82 Qp X) σ lv st fun σ lv st =>
    o_aload 0 σ lv st fun σ lv st =>
    o_get 24 2 σ lv st fun σ lv st =>
    o_ic (100) σ lv st fun σ lv st =>
    o_aload 0 σ lv st fun σ lv st =>
    o_get 24 3 σ lv st fun σ lv st =>
    o_imul σ lv st fun σ lv st =>
    o_iload 1 σ lv st fun σ lv st =>
    o_iadd σ lv st fun σ lv st =>
    o_aload 0 σ lv st fun σ lv st =>
    o_get 24 0 σ lv st fun σ lv st =>
    o_iload 1 σ lv st fun σ lv st =>
    o_lald σ lv st fun σ lv st =>
    o_last σ lv st fun σ lv st =>
    o_iinc 1 1 σ lv st fun σ lv st =>
    o_goto (X 50) σ lv st
def k_X6_copies_0 (Qp : Option q_V → q_M → Prop) (X : Nat → q_K) (σ : q_M) (lv : q_L) (st : q_S) : Prop :=
    o_ic 0 σ lv st fun σ lv st =>
    o_istore 2 σ lv st fun σ lv st =>
    X 2 σ lv st
def k_X6_copies_20 (Qp : Option q_V → q_M → Prop) (X : Nat → q_K) (σ : q_M) (lv : q_L) (st : q_S) : Prop :=
    o_vret Qp σ lv st
def k_X6_copies_2 (Qp : Option q_V → q_M → Prop) (X : Nat → q_K) (σ : q_M) (lv : q_L) (st : q_S) : Prop :=
    o_iload 2 σ lv st fun σ lv st =>
    o_ic (100) σ lv st fun σ lv st =>
    o_icmpge (k_X6_copies_20 Qp X) σ lv st fun σ lv st =>
    o_aload 1 σ lv st fun σ lv st =>
    o_iload 2 σ lv st fun σ lv st =>
    o_aload 0 σ lv st fun σ lv st =>
    o_iload 2 σ lv st fun σ lv st =>
    o_lald σ lv st fun σ lv st =>
    o_last σ lv st fun σ lv st =>
    o_iinc 2 1 σ lv st fun σ lv st =>
    o_goto (X 2) σ lv st
def k_X6_div_22 (Qp : Option q_V → q_M → Prop) (X : Nat → q_K) (σ : q_M) (lv : q_L) (st : q_S) : Prop :=
    o_lsub σ lv st fun σ lv st =>
    o_lload 2 σ lv st fun σ lv st =>
    o_ldiv σ lv st fun σ lv st =>
    o_lret Qp σ lv st
def k_X6_div_20 (Qp : Option q_V → q_M → Prop) (X : Nat → q_K) (σ : q_M) (lv : q_L) (st : q_S) : Prop :=
    o_lload 4 σ lv st fun σ lv st =>
    k_X6_div_22 Qp X σ lv st
def k_X6_div_0 (Qp : Option q_V → q_M → Prop) (X : Nat → q_K) (σ : q_M) (lv : q_L) (st : q_S) : Prop :=
    o_lload 0 σ lv st fun σ lv st =>
    o_lload 2 σ lv st fun σ lv st =>
    o_lrem σ lv st fun σ lv st =>
    o_lstore 4 σ lv st fun σ lv st =>
    o_lload 0 σ lv st fun σ lv st =>
    o_lload 4 σ lv st fun σ lv st =>
    o_lc 0 σ lv st fun σ lv st =>
    o_lcmp σ lv st fun σ lv st =>
    o_ifge (k_X6_div_20 Qp X) σ lv st fun σ lv st =>
    o_lload 4 σ lv st fun σ lv st =>
    o_lload 2 σ lv st fun σ lv st =>
    o_ladd σ lv st fun σ lv st =>
    o_goto (k_X6_div_22 Qp X) σ lv st
def k_X6_nearest_0 (Qp : Option q_V → q_M → Prop) (X : Nat → q_K) (σ : q_M) (lv : q_L) (st : q_S) : Prop :=
    o_lc (2) σ lv st fun σ lv st =>
    o_lload 0 σ lv st fun σ lv st =>
    o_lmul σ lv st fun σ lv st =>
    o_lload 2 σ lv st fun σ lv st =>
    o_ladd σ lv st fun σ lv st =>
    o_lc (2) σ lv st fun σ lv st =>
    o_lload 2 σ lv st fun σ lv st =>
    o_lmul σ lv st fun σ lv st =>
    o_callS 2 S_X6_div σ lv st fun σ lv st =>
    o_lret Qp σ lv st
def k_X6_held_23 (Qp : Option q_V → q_M → Prop) (X : Nat → q_K) (σ : q_M) (lv : q_L) (st : q_S) : Prop :=
    o_lret Qp σ lv st
def k_X6_held_22 (Qp : Option q_V → q_M → Prop) (X : Nat → q_K) (σ : q_M) (lv : q_L) (st : q_S) : Prop :=
    o_lload 0 σ lv st fun σ lv st =>
    k_X6_held_23 Qp X σ lv st
def k_X6_held_10 (Qp : Option q_V → q_M → Prop) (X : Nat → q_K) (σ : q_M) (lv : q_L) (st : q_S) : Prop :=
    o_lload 0 σ lv st fun σ lv st =>
    o_lload 2 σ lv st fun σ lv st =>
    o_lneg σ lv st fun σ lv st =>
    o_lcmp σ lv st fun σ lv st =>
    o_ifge (k_X6_held_22 Qp X) σ lv st fun σ lv st =>
    o_lload 2 σ lv st fun σ lv st =>
    o_lneg σ lv st fun σ lv st =>
    o_goto (k_X6_held_23 Qp X) σ lv st
def k_X6_held_0 (Qp : Option q_V → q_M → Prop) (X : Nat → q_K) (σ : q_M) (lv : q_L) (st : q_S) : Prop :=
    o_lload 0 σ lv st fun σ lv st =>
    o_lload 2 σ lv st fun σ lv st =>
    o_lcmp σ lv st fun σ lv st =>
    o_ifle (k_X6_held_10 Qp X) σ lv st fun σ lv st =>
    o_lload 2 σ lv st fun σ lv st =>
    o_goto (k_X6_held_23 Qp X) σ lv st
def k_X6_size_12 (Qp : Option q_V → q_M → Prop) (X : Nat → q_K) (σ : q_M) (lv : q_L) (st : q_S) : Prop :=
    o_lret Qp σ lv st
def k_X6_size_11 (Qp : Option q_V → q_M → Prop) (X : Nat → q_K) (σ : q_M) (lv : q_L) (st : q_S) : Prop :=
    o_lload 0 σ lv st fun σ lv st =>
    k_X6_size_12 Qp X σ lv st
def k_X6_size_0 (Qp : Option q_V → q_M → Prop) (X : Nat → q_K) (σ : q_M) (lv : q_L) (st : q_S) : Prop :=
    o_lload 0 σ lv st fun σ lv st =>
    o_lc 0 σ lv st fun σ lv st =>
    o_lcmp σ lv st fun σ lv st =>
    o_ifge (k_X6_size_11 Qp X) σ lv st fun σ lv st =>
    o_lload 0 σ lv st fun σ lv st =>
    o_lneg σ lv st fun σ lv st =>
    o_goto (k_X6_size_12 Qp X) σ lv st
def k_X6_axisAt_0 (Qp : Option q_V → q_M → Prop) (X : Nat → q_K) (σ : q_M) (lv : q_L) (st : q_S) : Prop :=
    o_ic (12) σ lv st fun σ lv st =>
    o_ic (8) σ lv st fun σ lv st =>
    o_iload 0 σ lv st fun σ lv st =>
    o_imul σ lv st fun σ lv st =>
    o_iadd σ lv st fun σ lv st =>
    o_iload 1 σ lv st fun σ lv st =>
    o_iadd σ lv st fun σ lv st =>
    o_iret Qp σ lv st
def k_X6_wheelAt_0 (Qp : Option q_V → q_M → Prop) (X : Nat → q_K) (σ : q_M) (lv : q_L) (st : q_S) : Prop :=
    o_ic (40) σ lv st fun σ lv st =>
    o_ic (8) σ lv st fun σ lv st =>
    o_iload 0 σ lv st fun σ lv st =>
    o_imul σ lv st fun σ lv st =>
    o_iadd σ lv st fun σ lv st =>
    o_iload 1 σ lv st fun σ lv st =>
    o_iadd σ lv st fun σ lv st =>
    o_iret Qp σ lv st
def k_X6_isWheel_0 (Qp : Option q_V → q_M → Prop) (X : Nat → q_K) (σ : q_M) (lv : q_L) (st : q_S) : Prop :=
    o_iload 1 σ lv st fun σ lv st =>
    o_ic 0 σ lv st fun σ lv st =>
    o_aload 0 σ lv st fun σ lv st =>
    o_get 24 0 σ lv st fun σ lv st =>
    o_ic (6) σ lv st fun σ lv st =>
    o_lald σ lv st fun σ lv st =>
    o_l2i σ lv st fun σ lv st =>
    o_ic 1 σ lv st fun σ lv st =>
    o_isub σ lv st fun σ lv st =>
    o_callS 3 S_X6_in σ lv st fun σ lv st =>
    o_zret Qp σ lv st
def k_X6_works_21 (Qp : Option q_V → q_M → Prop) (X : Nat → q_K) (σ : q_M) (lv : q_L) (st : q_S) : Prop :=
    o_zret Qp σ lv st
def k_X6_works_20 (Qp : Option q_V → q_M → Prop) (X : Nat → q_K) (σ : q_M) (lv : q_L) (st : q_S) : Prop :=
    o_ic 0 σ lv st fun σ lv st =>
    k_X6_works_21 Qp X σ lv st
def k_X6_works_0 (Qp : Option q_V → q_M → Prop) (X : Nat → q_K) (σ : q_M) (lv : q_L) (st : q_S) : Prop :=
    o_aload 0 σ lv st fun σ lv st =>
    o_get 24 0 σ lv st fun σ lv st =>
    o_iload 1 σ lv st fun σ lv st =>
    o_ic (6) σ lv st fun σ lv st =>
    o_callS 2 S_X6_wheelAt σ lv st fun σ lv st =>
    o_lald σ lv st fun σ lv st =>
    o_lc 0 σ lv st fun σ lv st =>
    o_lcmp σ lv st fun σ lv st =>
    o_ifne (k_X6_works_20 Qp X) σ lv st fun σ lv st =>
    o_ic 1 σ lv st fun σ lv st =>
    o_goto (k_X6_works_21 Qp X) σ lv st
def k_X6_reasons_0 (Qp : Option q_V → q_M → Prop) (X : Nat → q_K) (σ : q_M) (lv : q_L) (st : q_S) : Prop :=
    o_aload 0 σ lv st fun σ lv st =>
    o_get 24 0 σ lv st fun σ lv st =>
    o_ic (8) σ lv st fun σ lv st =>
    o_lload 1 σ lv st fun σ lv st =>
    o_last σ lv st fun σ lv st =>
    o_aload 0 σ lv st fun σ lv st =>
    o_get 24 0 σ lv st fun σ lv st =>
    o_ic (9) σ lv st fun σ lv st =>
    o_lload 3 σ lv st fun σ lv st =>
    o_last σ lv st fun σ lv st =>
    o_aload 0 σ lv st fun σ lv st =>
    o_get 24 0 σ lv st fun σ lv st =>
    o_ic (10) σ lv st fun σ lv st =>
    o_lload 5 σ lv st fun σ lv st =>
    o_last σ lv st fun σ lv st =>
    o_vret Qp σ lv st
def k_X6_isPart_0 (Qp : Option q_V → q_M → Prop) (X : Nat → q_K) (σ : q_M) (lv : q_L) (st : q_S) : Prop :=
    o_iload 0 σ lv st fun σ lv st =>
    o_ic (-9) σ lv st fun σ lv st =>
    o_ic (9) σ lv st fun σ lv st =>
    o_callS 3 S_X6_in σ lv st fun σ lv st =>
    o_zret Qp σ lv st
def k_X6_addWheel_55 (Qp : Option q_V → q_M → Prop) (X : Nat → q_K) (σ : q_M) (lv : q_L) (st : q_S) : Prop :=
    o_ic (-2000001) σ lv st fun σ lv st =>
    o_iret Qp σ lv st
def k_X6_addWheel_75 (Qp : Option q_V → q_M → Prop) (X : Nat → q_K) (σ : q_M) (lv : q_L) (st : q_S) : Prop :=
    o_aload 0 σ lv st fun σ lv st =>
    o_callV 0 24 S_X6_act σ lv st fun σ lv st =>
    o_aload 0 σ lv st fun σ lv st =>
    o_get 24 0 σ lv st fun σ lv st =>
    o_ic (6) σ lv st fun σ lv st =>
    o_lald σ lv st fun σ lv st =>
    o_l2i σ lv st fun σ lv st =>
    o_istore 6 σ lv st fun σ lv st =>
    o_aload 0 σ lv st fun σ lv st =>
    o_get 24 0 σ lv st fun σ lv st =>
    o_iload 6 σ lv st fun σ lv st =>
    o_ic 0 σ lv st fun σ lv st =>
    o_callS 2 S_X6_wheelAt σ lv st fun σ lv st =>
    o_iload 1 σ lv st fun σ lv st =>
    o_i2l σ lv st fun σ lv st =>
    o_last σ lv st fun σ lv st =>
    o_aload 0 σ lv st fun σ lv st =>
    o_get 24 0 σ lv st fun σ lv st =>
    o_iload 6 σ lv st fun σ lv st =>
    o_ic 1 σ lv st fun σ lv st =>
    o_callS 2 S_X6_wheelAt σ lv st fun σ lv st =>
    o_iload 2 σ lv st fun σ lv st =>
    o_i2l σ lv st fun σ lv st =>
    o_last σ lv st fun σ lv st =>
    o_aload 0 σ lv st fun σ lv st =>
    o_get 24 0 σ lv st fun σ lv st =>
    o_iload 6 σ lv st fun σ lv st =>
    o_ic 2 σ lv st fun σ lv st =>
    o_callS 2 S_X6_wheelAt σ lv st fun σ lv st =>
    o_iload 3 σ lv st fun σ lv st =>
    o_i2l σ lv st fun σ lv st =>
    o_last σ lv st fun σ lv st =>
    o_aload 0 σ lv st fun σ lv st =>
    o_get 24 0 σ lv st fun σ lv st =>
    o_iload 6 σ lv st fun σ lv st =>
    o_ic 3 σ lv st fun σ lv st =>
    o_callS 2 S_X6_wheelAt σ lv st fun σ lv st =>
    o_lc 0 σ lv st fun σ lv st =>
    o_last σ lv st fun σ lv st =>
    o_aload 0 σ lv st fun σ lv st =>
    o_get 24 0 σ lv st fun σ lv st =>
    o_iload 6 σ lv st fun σ lv st =>
    o_ic 4 σ lv st fun σ lv st =>
    o_callS 2 S_X6_wheelAt σ lv st fun σ lv st =>
    o_iload 4 σ lv st fun σ lv st =>
    o_i2l σ lv st fun σ lv st =>
    o_last σ lv st fun σ lv st =>
    o_aload 0 σ lv st fun σ lv st =>
    o_get 24 0 σ lv st fun σ lv st =>
    o_iload 6 σ lv st fun σ lv st =>
    o_ic 5 σ lv st fun σ lv st =>
    o_callS 2 S_X6_wheelAt σ lv st fun σ lv st =>
    o_iload 5 σ lv st fun σ lv st =>
    o_i2l σ lv st fun σ lv st =>
    o_last σ lv st fun σ lv st =>
    o_aload 0 σ lv st fun σ lv st =>
    o_get 24 0 σ lv st fun σ lv st =>
    o_iload 6 σ lv st fun σ lv st =>
    o_ic (6) σ lv st fun σ lv st =>
    o_callS 2 S_X6_wheelAt σ lv st fun σ lv st =>
    o_lc 0 σ lv st fun σ lv st =>
    o_last σ lv st fun σ lv st =>
    o_aload 0 σ lv st fun σ lv st =>
    o_get 24 0 σ lv st fun σ lv st =>
    o_iload 6 σ lv st fun σ lv st =>
    o_ic (7) σ lv st fun σ lv st =>
    o_callS 2 S_X6_wheelAt σ lv st fun σ lv st =>
    o_lc 0 σ lv st fun σ lv st =>
    o_last σ lv st fun σ lv st =>
    o_aload 0 σ lv st fun σ lv st =>
    o_get 24 0 σ lv st fun σ lv st =>
    o_ic (6) σ lv st fun σ lv st =>
    o_dup2 σ lv st fun σ lv st =>
    o_lald σ lv st fun σ lv st =>
    o_lc 1 σ lv st fun σ lv st =>
    o_ladd σ lv st fun σ lv st =>
    o_last σ lv st fun σ lv st =>
    o_iload 6 σ lv st fun σ lv st =>
    o_iret Qp σ lv st
def k_X6_addWheel_58 (Qp : Option q_V → q_M → Prop) (X : Nat → q_K) (σ : q_M) (lv : q_L) (st : q_S) : Prop :=
    o_aload 0 σ lv st fun σ lv st =>
    o_get 24 0 σ lv st fun σ lv st =>
    o_ic (6) σ lv st fun σ lv st =>
    o_lald σ lv st fun σ lv st =>
    o_lc (6) σ lv st fun σ lv st =>
    o_lcmp σ lv st fun σ lv st =>
    o_ifne (k_X6_addWheel_75 Qp X) σ lv st fun σ lv st =>
    o_ic (-2000003) σ lv st fun σ lv st =>
    o_iret Qp σ lv st
def k_X6_addWheel_33 (Qp : Option q_V → q_M → Prop) (X : Nat → q_K) (σ : q_M) (lv : q_L) (st : q_S) : Prop :=
    o_iload 4 σ lv st fun σ lv st =>
    o_ic 1 σ lv st fun σ lv st =>
    o_ic (1000000) σ lv st fun σ lv st =>
    o_callS 3 S_X6_in σ lv st fun σ lv st =>
    o_ifeq (k_X6_addWheel_55 Qp X) σ lv st fun σ lv st =>
    o_iload 5 σ lv st fun σ lv st =>
    o_ic 1 σ lv st fun σ lv st =>
    o_ic (100000) σ lv st fun σ lv st =>
    o_callS 3 S_X6_in σ lv st fun σ lv st =>
    o_ifne (k_X6_addWheel_58 Qp X) σ lv st fun σ lv st =>
    k_X6_addWheel_55 Qp X σ lv st
def k_X6_addWheel_0 (Qp : Option q_V → q_M → Prop) (X : Nat → q_K) (σ : q_M) (lv : q_L) (st : q_S) : Prop :=
    o_iload 1 σ lv st fun σ lv st =>
    o_callS 1 S_X6_isPart σ lv st fun σ lv st =>
    o_ifeq (k_X6_addWheel_55 Qp X) σ lv st fun σ lv st =>
    o_iload 2 σ lv st fun σ lv st =>
    o_callS 1 S_X6_isPart σ lv st fun σ lv st =>
    o_ifeq (k_X6_addWheel_55 Qp X) σ lv st fun σ lv st =>
    o_iload 3 σ lv st fun σ lv st =>
    o_callS 1 S_X6_isPart σ lv st fun σ lv st =>
    o_ifeq (k_X6_addWheel_55 Qp X) σ lv st fun σ lv st =>
    o_iload 1 σ lv st fun σ lv st =>
    o_ifne (k_X6_addWheel_33 Qp X) σ lv st fun σ lv st =>
    o_iload 2 σ lv st fun σ lv st =>
    o_ifne (k_X6_addWheel_33 Qp X) σ lv st fun σ lv st =>
    o_iload 3 σ lv st fun σ lv st =>
    o_ifeq (k_X6_addWheel_55 Qp X) σ lv st fun σ lv st =>
    k_X6_addWheel_33 Qp X σ lv st
def k_X6_sets_0 (Qp : Option q_V → q_M → Prop) (X : Nat → q_K) (σ : q_M) (lv : q_L) (st : q_S) : Prop :=
    o_aload 0 σ lv st fun σ lv st =>
    o_callV 0 24 S_X6_act σ lv st fun σ lv st =>
    o_aload 0 σ lv st fun σ lv st =>
    o_get 24 0 σ lv st fun σ lv st =>
    o_iload 1 σ lv st fun σ lv st =>
    o_lald σ lv st fun σ lv st =>
    o_l2i σ lv st fun σ lv st =>
    o_istore 3 σ lv st fun σ lv st =>
    o_aload 0 σ lv st fun σ lv st =>
    o_get 24 0 σ lv st fun σ lv st =>
    o_iload 1 σ lv st fun σ lv st =>
    o_iload 2 σ lv st fun σ lv st =>
    o_i2l σ lv st fun σ lv st =>
    o_last σ lv st fun σ lv st =>
    o_iload 3 σ lv st fun σ lv st =>
    o_iret Qp σ lv st
def k_X6_fail_32 (Qp : Option q_V → q_M → Prop) (X : Nat → q_K) (σ : q_M) (lv : q_L) (st : q_S) : Prop :=
    o_iret Qp σ lv st
def k_X6_fail_30 (Qp : Option q_V → q_M → Prop) (X : Nat → q_K) (σ : q_M) (lv : q_L) (st : q_S) : Prop :=
    o_ic (-2000001) σ lv st fun σ lv st =>
    k_X6_fail_32 Qp X σ lv st
def k_X6_fail_24 (Qp : Option q_V → q_M → Prop) (X : Nat → q_K) (σ : q_M) (lv : q_L) (st : q_S) : Prop :=
    o_callV 2 24 S_X6_sets σ lv st fun σ lv st =>
    o_goto (k_X6_fail_32 Qp X) σ lv st
def k_X6_fail_23 (Qp : Option q_V → q_M → Prop) (X : Nat → q_K) (σ : q_M) (lv : q_L) (st : q_S) : Prop :=
    o_ic 0 σ lv st fun σ lv st =>
    k_X6_fail_24 Qp X σ lv st
def k_X6_fail_0 (Qp : Option q_V → q_M → Prop) (X : Nat → q_K) (σ : q_M) (lv : q_L) (st : q_S) : Prop :=
    o_aload 0 σ lv st fun σ lv st =>
    o_iload 1 σ lv st fun σ lv st =>
    o_callV 1 24 S_X6_isWheel σ lv st fun σ lv st =>
    o_ifeq (k_X6_fail_30 Qp X) σ lv st fun σ lv st =>
    o_aload 0 σ lv st fun σ lv st =>
    o_iload 1 σ lv st fun σ lv st =>
    o_ic (6) σ lv st fun σ lv st =>
    o_callS 2 S_X6_wheelAt σ lv st fun σ lv st =>
    o_iload 2 σ lv st fun σ lv st =>
    o_ifeq (k_X6_fail_23 Qp X) σ lv st fun σ lv st =>
    o_ic 1 σ lv st fun σ lv st =>
    o_goto (k_X6_fail_24 Qp X) σ lv st
def k_X6_setMost_50 (Qp : Option q_V → q_M → Prop) (X : Nat → q_K) (σ : q_M) (lv : q_L) (st : q_S) : Prop :=
    o_iret Qp σ lv st
def k_X6_setMost_48 (Qp : Option q_V → q_M → Prop) (X : Nat → q_K) (σ : q_M) (lv : q_L) (st : q_S) : Prop :=
    o_ic (-2000001) σ lv st fun σ lv st =>
    k_X6_setMost_50 Qp X σ lv st
def k_X6_setMost_38 (Qp : Option q_V → q_M → Prop) (X : Nat → q_K) (σ : q_M) (lv : q_L) (st : q_S) : Prop :=
    o_callS 2 S_X6_wheelAt σ lv st fun σ lv st =>
    o_iload 3 σ lv st fun σ lv st =>
    o_callV 2 24 S_X6_sets σ lv st fun σ lv st =>
    o_goto (k_X6_setMost_50 Qp X) σ lv st
def k_X6_setMost_37 (Qp : Option q_V → q_M → Prop) (X : Nat → q_K) (σ : q_M) (lv : q_L) (st : q_S) : Prop :=
    o_ic 4 σ lv st fun σ lv st =>
    k_X6_setMost_38 Qp X σ lv st
def k_X6_setMost_21 (Qp : Option q_V → q_M → Prop) (X : Nat → q_K) (σ : q_M) (lv : q_L) (st : q_S) : Prop :=
    o_callS 3 S_X6_in σ lv st fun σ lv st =>
    o_ifeq (k_X6_setMost_48 Qp X) σ lv st fun σ lv st =>
    o_aload 0 σ lv st fun σ lv st =>
    o_iload 1 σ lv st fun σ lv st =>
    o_iload 2 σ lv st fun σ lv st =>
    o_ifeq (k_X6_setMost_37 Qp X) σ lv st fun σ lv st =>
    o_ic 5 σ lv st fun σ lv st =>
    o_goto (k_X6_setMost_38 Qp X) σ lv st
def k_X6_setMost_19 (Qp : Option q_V → q_M → Prop) (X : Nat → q_K) (σ : q_M) (lv : q_L) (st : q_S) : Prop :=
    o_ic (1000000) σ lv st fun σ lv st =>
    k_X6_setMost_21 Qp X σ lv st
def k_X6_setMost_0 (Qp : Option q_V → q_M → Prop) (X : Nat → q_K) (σ : q_M) (lv : q_L) (st : q_S) : Prop :=
    o_aload 0 σ lv st fun σ lv st =>
    o_iload 1 σ lv st fun σ lv st =>
    o_callV 1 24 S_X6_isWheel σ lv st fun σ lv st =>
    o_ifeq (k_X6_setMost_48 Qp X) σ lv st fun σ lv st =>
    o_iload 3 σ lv st fun σ lv st =>
    o_ic 1 σ lv st fun σ lv st =>
    o_iload 2 σ lv st fun σ lv st =>
    o_ifeq (k_X6_setMost_19 Qp X) σ lv st fun σ lv st =>
    o_ic (100000) σ lv st fun σ lv st =>
    o_goto (k_X6_setMost_21 Qp X) σ lv st
def k_X6_wheel_34 (Qp : Option q_V → q_M → Prop) (X : Nat → q_K) (σ : q_M) (lv : q_L) (st : q_S) : Prop :=
    o_iret Qp σ lv st
def k_X6_wheel_32 (Qp : Option q_V → q_M → Prop) (X : Nat → q_K) (σ : q_M) (lv : q_L) (st : q_S) : Prop :=
    o_ic (-2000001) σ lv st fun σ lv st =>
    k_X6_wheel_34 Qp X σ lv st
def k_X6_wheel_0 (Qp : Option q_V → q_M → Prop) (X : Nat → q_K) (σ : q_M) (lv : q_L) (st : q_S) : Prop :=
    o_aload 0 σ lv st fun σ lv st =>
    o_iload 1 σ lv st fun σ lv st =>
    o_callV 1 24 S_X6_isWheel σ lv st fun σ lv st =>
    o_ifeq (k_X6_wheel_32 Qp X) σ lv st fun σ lv st =>
    o_iload 2 σ lv st fun σ lv st =>
    o_ic 0 σ lv st fun σ lv st =>
    o_ic (7) σ lv st fun σ lv st =>
    o_callS 3 S_X6_in σ lv st fun σ lv st =>
    o_ifeq (k_X6_wheel_32 Qp X) σ lv st fun σ lv st =>
    o_aload 0 σ lv st fun σ lv st =>
    o_get 24 0 σ lv st fun σ lv st =>
    o_iload 1 σ lv st fun σ lv st =>
    o_iload 2 σ lv st fun σ lv st =>
    o_callS 2 S_X6_wheelAt σ lv st fun σ lv st =>
    o_lald σ lv st fun σ lv st =>
    o_l2i σ lv st fun σ lv st =>
    o_goto (k_X6_wheel_34 Qp X) σ lv st
def k_X6_wheels_0 (Qp : Option q_V → q_M → Prop) (X : Nat → q_K) (σ : q_M) (lv : q_L) (st : q_S) : Prop :=
    o_aload 0 σ lv st fun σ lv st =>
    o_get 24 0 σ lv st fun σ lv st =>
    o_ic (6) σ lv st fun σ lv st =>
    o_lald σ lv st fun σ lv st =>
    o_l2i σ lv st fun σ lv st =>
    o_iret Qp σ lv st
def k_X6_isAxis_0 (Qp : Option q_V → q_M → Prop) (X : Nat → q_K) (σ : q_M) (lv : q_L) (st : q_S) : Prop :=
    o_iload 0 σ lv st fun σ lv st =>
    o_ic 0 σ lv st fun σ lv st =>
    o_ic 2 σ lv st fun σ lv st =>
    o_callS 3 S_X6_in σ lv st fun σ lv st =>
    o_zret Qp σ lv st
def k_X6_setAxis_101 (Qp : Option q_V → q_M → Prop) (X : Nat → q_K) (σ : q_M) (lv : q_L) (st : q_S) : Prop :=
    o_iret Qp σ lv st
def k_X6_setAxis_99 (Qp : Option q_V → q_M → Prop) (X : Nat → q_K) (σ : q_M) (lv : q_L) (st : q_S) : Prop :=
    o_ic (-2000001) σ lv st fun σ lv st =>
    k_X6_setAxis_101 Qp X σ lv st
def k_X6_setAxis_70 (Qp : Option q_V → q_M → Prop) (X : Nat → q_K) (σ : q_M) (lv : q_L) (st : q_S) : Prop :=
    o_istore 4 σ lv st fun σ lv st =>
    o_iload 1 σ lv st fun σ lv st =>
    o_callS 1 S_X6_isAxis σ lv st fun σ lv st =>
    o_ifeq (k_X6_setAxis_99 Qp X) σ lv st fun σ lv st =>
    o_iload 4 σ lv st fun σ lv st =>
    o_ifeq (k_X6_setAxis_99 Qp X) σ lv st fun σ lv st =>
    o_aload 0 σ lv st fun σ lv st =>
    o_iload 1 σ lv st fun σ lv st =>
    o_ic 2 σ lv st fun σ lv st =>
    o_iload 2 σ lv st fun σ lv st =>
    o_iadd σ lv st fun σ lv st =>
    o_callS 2 S_X6_axisAt σ lv st fun σ lv st =>
    o_iload 3 σ lv st fun σ lv st =>
    o_callV 2 24 S_X6_sets σ lv st fun σ lv st =>
    o_goto (k_X6_setAxis_101 Qp X) σ lv st
def k_X6_setAxis_69 (Qp : Option q_V → q_M → Prop) (X : Nat → q_K) (σ : q_M) (lv : q_L) (st : q_S) : Prop :=
    o_ic 0 σ lv st fun σ lv st =>
    k_X6_setAxis_70 Qp X σ lv st
def k_X6_setAxis_47 (Qp : Option q_V → q_M → Prop) (X : Nat → q_K) (σ : q_M) (lv : q_L) (st : q_S) : Prop :=
    o_iload 2 σ lv st fun σ lv st =>
    o_ic 3 σ lv st fun σ lv st =>
    o_icmpne (k_X6_setAxis_69 Qp X) σ lv st fun σ lv st =>
    o_iload 3 σ lv st fun σ lv st =>
    o_ic (-1000) σ lv st fun σ lv st =>
    o_ic (1000) σ lv st fun σ lv st =>
    o_callS 3 S_X6_in σ lv st fun σ lv st =>
    o_ifeq (k_X6_setAxis_69 Qp X) σ lv st fun σ lv st =>
    o_ic 1 σ lv st fun σ lv st =>
    o_goto (k_X6_setAxis_70 Qp X) σ lv st
def k_X6_setAxis_31 (Qp : Option q_V → q_M → Prop) (X : Nat → q_K) (σ : q_M) (lv : q_L) (st : q_S) : Prop :=
    o_iload 2 σ lv st fun σ lv st =>
    o_ic 2 σ lv st fun σ lv st =>
    o_icmpne (k_X6_setAxis_47 Qp X) σ lv st fun σ lv st =>
    o_iload 3 σ lv st fun σ lv st =>
    o_ic (-100) σ lv st fun σ lv st =>
    o_ic (100) σ lv st fun σ lv st =>
    o_callS 3 S_X6_in σ lv st fun σ lv st =>
    o_goto (k_X6_setAxis_70 Qp X) σ lv st
def k_X6_setAxis_15 (Qp : Option q_V → q_M → Prop) (X : Nat → q_K) (σ : q_M) (lv : q_L) (st : q_S) : Prop :=
    o_iload 2 σ lv st fun σ lv st =>
    o_ic 1 σ lv st fun σ lv st =>
    o_icmpne (k_X6_setAxis_31 Qp X) σ lv st fun σ lv st =>
    o_iload 3 σ lv st fun σ lv st =>
    o_ic (-1000000) σ lv st fun σ lv st =>
    o_ic (1000000) σ lv st fun σ lv st =>
    o_callS 3 S_X6_in σ lv st fun σ lv st =>
    o_goto (k_X6_setAxis_70 Qp X) σ lv st
def k_X6_setAxis_0 (Qp : Option q_V → q_M → Prop) (X : Nat → q_K) (σ : q_M) (lv : q_L) (st : q_S) : Prop :=
    o_iload 2 σ lv st fun σ lv st =>
    o_ifne (k_X6_setAxis_15 Qp X) σ lv st fun σ lv st =>
    o_iload 3 σ lv st fun σ lv st =>
    o_ic 1 σ lv st fun σ lv st =>
    o_ic (1000) σ lv st fun σ lv st =>
    o_callS 3 S_X6_in σ lv st fun σ lv st =>
    o_goto (k_X6_setAxis_70 Qp X) σ lv st
def k_X6_set_76 (Qp : Option q_V → q_M → Prop) (X : Nat → q_K) (σ : q_M) (lv : q_L) (st : q_S) : Prop :=
    o_iret Qp σ lv st
def k_X6_set_74 (Qp : Option q_V → q_M → Prop) (X : Nat → q_K) (σ : q_M) (lv : q_L) (st : q_S) : Prop :=
    o_ic (-2000001) σ lv st fun σ lv st =>
    k_X6_set_76 Qp X σ lv st
def k_X6_set_44 (Qp : Option q_V → q_M → Prop) (X : Nat → q_K) (σ : q_M) (lv : q_L) (st : q_S) : Prop :=
    o_istore 4 σ lv st fun σ lv st =>
    o_iload 1 σ lv st fun σ lv st =>
    o_ic 0 σ lv st fun σ lv st =>
    o_ic 4 σ lv st fun σ lv st =>
    o_callS 3 S_X6_in σ lv st fun σ lv st =>
    o_ifeq (k_X6_set_74 Qp X) σ lv st fun σ lv st =>
    o_iload 2 σ lv st fun σ lv st =>
    o_iload 4 σ lv st fun σ lv st =>
    o_iload 3 σ lv st fun σ lv st =>
    o_callS 3 S_X6_in σ lv st fun σ lv st =>
    o_ifeq (k_X6_set_74 Qp X) σ lv st fun σ lv st =>
    o_aload 0 σ lv st fun σ lv st =>
    o_iload 1 σ lv st fun σ lv st =>
    o_iload 2 σ lv st fun σ lv st =>
    o_callV 2 24 S_X6_sets σ lv st fun σ lv st =>
    o_goto (k_X6_set_76 Qp X) σ lv st
def k_X6_set_39 (Qp : Option q_V → q_M → Prop) (X : Nat → q_K) (σ : q_M) (lv : q_L) (st : q_S) : Prop :=
    o_ic 1 σ lv st fun σ lv st =>
    o_goto (k_X6_set_44 Qp X) σ lv st
def k_X6_set_43 (Qp : Option q_V → q_M → Prop) (X : Nat → q_K) (σ : q_M) (lv : q_L) (st : q_S) : Prop :=
    o_ic 0 σ lv st fun σ lv st =>
    k_X6_set_44 Qp X σ lv st
def k_X6_set_28 (Qp : Option q_V → q_M → Prop) (X : Nat → q_K) (σ : q_M) (lv : q_L) (st : q_S) : Prop :=
    o_istore 3 σ lv st fun σ lv st =>
    o_iload 1 σ lv st fun σ lv st =>
    o_ic 2 σ lv st fun σ lv st =>
    o_icmpeq (k_X6_set_39 Qp X) σ lv st fun σ lv st =>
    o_iload 1 σ lv st fun σ lv st =>
    o_ic 3 σ lv st fun σ lv st =>
    o_icmpne (k_X6_set_43 Qp X) σ lv st fun σ lv st =>
    k_X6_set_39 Qp X σ lv st
def k_X6_set_9 (Qp : Option q_V → q_M → Prop) (X : Nat → q_K) (σ : q_M) (lv : q_L) (st : q_S) : Prop :=
    o_ic (1000) σ lv st fun σ lv st =>
    o_goto (k_X6_set_28 Qp X) σ lv st
def k_X6_set_25 (Qp : Option q_V → q_M → Prop) (X : Nat → q_K) (σ : q_M) (lv : q_L) (st : q_S) : Prop :=
    o_ic (10000) σ lv st fun σ lv st =>
    k_X6_set_28 Qp X σ lv st
def k_X6_set_15 (Qp : Option q_V → q_M → Prop) (X : Nat → q_K) (σ : q_M) (lv : q_L) (st : q_S) : Prop :=
    o_iload 1 σ lv st fun σ lv st =>
    o_ic 3 σ lv st fun σ lv st =>
    o_icmpne (k_X6_set_25 Qp X) σ lv st fun σ lv st =>
    o_ic (100000) σ lv st fun σ lv st =>
    o_goto (k_X6_set_28 Qp X) σ lv st
def k_X6_set_0 (Qp : Option q_V → q_M → Prop) (X : Nat → q_K) (σ : q_M) (lv : q_L) (st : q_S) : Prop :=
    o_iload 1 σ lv st fun σ lv st =>
    o_ifeq (k_X6_set_9 Qp X) σ lv st fun σ lv st =>
    o_iload 1 σ lv st fun σ lv st =>
    o_ic 1 σ lv st fun σ lv st =>
    o_icmpne (k_X6_set_15 Qp X) σ lv st fun σ lv st =>
    k_X6_set_9 Qp X σ lv st
def k_X6_setting_21 (Qp : Option q_V → q_M → Prop) (X : Nat → q_K) (σ : q_M) (lv : q_L) (st : q_S) : Prop :=
    o_iret Qp σ lv st
def k_X6_setting_19 (Qp : Option q_V → q_M → Prop) (X : Nat → q_K) (σ : q_M) (lv : q_L) (st : q_S) : Prop :=
    o_ic (-2000001) σ lv st fun σ lv st =>
    k_X6_setting_21 Qp X σ lv st
def k_X6_setting_0 (Qp : Option q_V → q_M → Prop) (X : Nat → q_K) (σ : q_M) (lv : q_L) (st : q_S) : Prop :=
    o_iload 1 σ lv st fun σ lv st =>
    o_ic 0 σ lv st fun σ lv st =>
    o_ic 4 σ lv st fun σ lv st =>
    o_callS 3 S_X6_in σ lv st fun σ lv st =>
    o_ifeq (k_X6_setting_19 Qp X) σ lv st fun σ lv st =>
    o_aload 0 σ lv st fun σ lv st =>
    o_get 24 0 σ lv st fun σ lv st =>
    o_iload 1 σ lv st fun σ lv st =>
    o_lald σ lv st fun σ lv st =>
    o_l2i σ lv st fun σ lv st =>
    o_goto (k_X6_setting_21 Qp X) σ lv st
def k_X6_rate_0 (Qp : Option q_V → q_M → Prop) (X : Nat → q_K) (σ : q_M) (lv : q_L) (st : q_S) : Prop :=
    o_aload 0 σ lv st fun σ lv st =>
    o_get 24 0 σ lv st fun σ lv st =>
    o_iload 1 σ lv st fun σ lv st =>
    o_ic 1 σ lv st fun σ lv st =>
    o_callS 2 S_X6_axisAt σ lv st fun σ lv st =>
    o_lald σ lv st fun σ lv st =>
    o_aload 0 σ lv st fun σ lv st =>
    o_get 24 0 σ lv st fun σ lv st =>
    o_iload 1 σ lv st fun σ lv st =>
    o_ic 2 σ lv st fun σ lv st =>
    o_callS 2 S_X6_axisAt σ lv st fun σ lv st =>
    o_lald σ lv st fun σ lv st =>
    o_callS 2 S_X6_div σ lv st fun σ lv st =>
    o_lret Qp σ lv st
def k_X6_pushes_0 (Qp : Option q_V → q_M → Prop) (X : Nat → q_K) (σ : q_M) (lv : q_L) (st : q_S) : Prop :=
    o_aload 0 σ lv st fun σ lv st =>
    o_get 24 0 σ lv st fun σ lv st =>
    o_iload 1 σ lv st fun σ lv st =>
    o_ic 1 σ lv st fun σ lv st =>
    o_callS 2 S_X6_axisAt σ lv st fun σ lv st =>
    o_dup2 σ lv st fun σ lv st =>
    o_lald σ lv st fun σ lv st =>
    o_lload 2 σ lv st fun σ lv st =>
    o_ladd σ lv st fun σ lv st =>
    o_last σ lv st fun σ lv st =>
    o_aload 0 σ lv st fun σ lv st =>
    o_get 24 0 σ lv st fun σ lv st =>
    o_iload 1 σ lv st fun σ lv st =>
    o_ic (6) σ lv st fun σ lv st =>
    o_callS 2 S_X6_axisAt σ lv st fun σ lv st =>
    o_dup2 σ lv st fun σ lv st =>
    o_lald σ lv st fun σ lv st =>
    o_lload 2 σ lv st fun σ lv st =>
    o_ladd σ lv st fun σ lv st =>
    o_last σ lv st fun σ lv st =>
    o_vret Qp σ lv st
def k_X6_strike_18 (Qp : Option q_V → q_M → Prop) (X : Nat → q_K) (σ : q_M) (lv : q_L) (st : q_S) : Prop :=
    o_lc (-4611686018427387905) σ lv st fun σ lv st =>
    o_lret Qp σ lv st
def k_X6_strike_22 (Qp : Option q_V → q_M → Prop) (X : Nat → q_K) (σ : q_M) (lv : q_L) (st : q_S) : Prop :=
    o_aload 0 σ lv st fun σ lv st =>
    o_callV 0 24 S_X6_act σ lv st fun σ lv st =>
    o_aload 0 σ lv st fun σ lv st =>
    o_iload 1 σ lv st fun σ lv st =>
    o_iload 2 σ lv st fun σ lv st =>
    o_i2l σ lv st fun σ lv st =>
    o_callV 2 24 S_X6_pushes σ lv st fun σ lv st =>
    o_aload 0 σ lv st fun σ lv st =>
    o_iload 1 σ lv st fun σ lv st =>
    o_callV 1 24 S_X6_rate σ lv st fun σ lv st =>
    o_lret Qp σ lv st
def k_X6_strike_0 (Qp : Option q_V → q_M → Prop) (X : Nat → q_K) (σ : q_M) (lv : q_L) (st : q_S) : Prop :=
    o_iload 1 σ lv st fun σ lv st =>
    o_callS 1 S_X6_isAxis σ lv st fun σ lv st =>
    o_ifeq (k_X6_strike_18 Qp X) σ lv st fun σ lv st =>
    o_iload 2 σ lv st fun σ lv st =>
    o_ic (-100000) σ lv st fun σ lv st =>
    o_ic (100000) σ lv st fun σ lv st =>
    o_callS 3 S_X6_in σ lv st fun σ lv st =>
    o_ifne (k_X6_strike_22 Qp X) σ lv st fun σ lv st =>
    k_X6_strike_18 Qp X σ lv st
def k_X6_other_0 (Qp : Option q_V → q_M → Prop) (X : Nat → q_K) (σ : q_M) (lv : q_L) (st : q_S) : Prop :=
    o_iload 0 σ lv st fun σ lv st =>
    o_iload 1 σ lv st fun σ lv st =>
    o_iadd σ lv st fun σ lv st =>
    o_ic 3 σ lv st fun σ lv st =>
    o_irem σ lv st fun σ lv st =>
    o_iret Qp σ lv st
def k_X6_spans_0 (Qp : Option q_V → q_M → Prop) (X : Nat → q_K) (σ : q_M) (lv : q_L) (st : q_S) : Prop :=
    o_ic 0 σ lv st fun σ lv st =>
    o_istore 2 σ lv st fun σ lv st =>
    X 2 σ lv st
def k_X6_spans_21 (Qp : Option q_V → q_M → Prop) (X : Nat → q_K) (σ : q_M) (lv : q_L) (st : q_S) : Prop :=
    o_ic 0 σ lv st fun σ lv st =>
    o_istore 2 σ lv st fun σ lv st =>
    X 23 σ lv st
def k_X6_spans_2 (Qp : Option q_V → q_M → Prop) (X : Nat → q_K) (σ : q_M) (lv : q_L) (st : q_S) : Prop :=
    o_iload 2 σ lv st fun σ lv st =>
    o_ic (9) σ lv st fun σ lv st =>
    o_icmpge (k_X6_spans_21 Qp X) σ lv st fun σ lv st =>
    o_aload 0 σ lv st fun σ lv st =>
    o_get 24 4 σ lv st fun σ lv st =>
    o_iload 2 σ lv st fun σ lv st =>
    o_lc 0 σ lv st fun σ lv st =>
    o_last σ lv st fun σ lv st =>
    o_iinc 2 1 σ lv st fun σ lv st =>
    o_goto (X 2) σ lv st
def k_X6_spans_103 (Qp : Option q_V → q_M → Prop) (X : Nat → q_K) (σ : q_M) (lv : q_L) (st : q_S) : Prop :=
    o_ic 0 σ lv st fun σ lv st =>
    o_istore 2 σ lv st fun σ lv st =>
    X 105 σ lv st
def k_X6_spans_23 (Qp : Option q_V → q_M → Prop) (X : Nat → q_K) (σ : q_M) (lv : q_L) (st : q_S) : Prop :=
    o_iload 2 σ lv st fun σ lv st =>
    o_i2l σ lv st fun σ lv st =>
    o_aload 0 σ lv st fun σ lv st =>
    o_get 24 0 σ lv st fun σ lv st =>
    o_ic (6) σ lv st fun σ lv st =>
    o_lald σ lv st fun σ lv st =>
    o_lcmp σ lv st fun σ lv st =>
    o_ifge (k_X6_spans_103 Qp X) σ lv st fun σ lv st =>
    o_ic 0 σ lv st fun σ lv st =>
    o_istore 3 σ lv st fun σ lv st =>
    X 38 σ lv st
def k_X6_spans_97 (Qp : Option q_V → q_M → Prop) (X : Nat → q_K) (σ : q_M) (lv : q_L) (st : q_S) : Prop :=
    o_iinc 2 1 σ lv st fun σ lv st =>
    o_goto (X 23) σ lv st
def k_X6_spans_38 (Qp : Option q_V → q_M → Prop) (X : Nat → q_K) (σ : q_M) (lv : q_L) (st : q_S) : Prop :=
    o_iload 3 σ lv st fun σ lv st =>
    o_ic (9) σ lv st fun σ lv st =>
    o_icmpge (k_X6_spans_97 Qp X) σ lv st fun σ lv st =>
    o_aload 0 σ lv st fun σ lv st =>
    o_iload 2 σ lv st fun σ lv st =>
    o_callV 1 24 S_X6_works σ lv st fun σ lv st =>
    o_ifeq (k_X6_spans_97 Qp X) σ lv st fun σ lv st =>
    o_iload 2 σ lv st fun σ lv st =>
    o_iload 1 σ lv st fun σ lv st =>
    o_icmpeq (k_X6_spans_97 Qp X) σ lv st fun σ lv st =>
    o_aload 0 σ lv st fun σ lv st =>
    o_get 24 4 σ lv st fun σ lv st =>
    o_iload 3 σ lv st fun σ lv st =>
    o_dup2 σ lv st fun σ lv st =>
    o_lald σ lv st fun σ lv st =>
    o_aload 0 σ lv st fun σ lv st =>
    o_get 24 0 σ lv st fun σ lv st =>
    o_iload 2 σ lv st fun σ lv st =>
    o_iload 3 σ lv st fun σ lv st =>
    o_ic 3 σ lv st fun σ lv st =>
    o_idiv σ lv st fun σ lv st =>
    o_callS 2 S_X6_wheelAt σ lv st fun σ lv st =>
    o_lald σ lv st fun σ lv st =>
    o_aload 0 σ lv st fun σ lv st =>
    o_get 24 0 σ lv st fun σ lv st =>
    o_iload 2 σ lv st fun σ lv st =>
    o_iload 3 σ lv st fun σ lv st =>
    o_ic 3 σ lv st fun σ lv st =>
    o_irem σ lv st fun σ lv st =>
    o_callS 2 S_X6_wheelAt σ lv st fun σ lv st =>
    o_lald σ lv st fun σ lv st =>
    o_lmul σ lv st fun σ lv st =>
    o_ladd σ lv st fun σ lv st =>
    o_last σ lv st fun σ lv st =>
    o_iinc 3 1 σ lv st fun σ lv st =>
    o_goto (X 38) σ lv st
def k_X6_spans_212 (Qp : Option q_V → q_M → Prop) (X : Nat → q_K) (σ : q_M) (lv : q_L) (st : q_S) : Prop :=
    o_aload 0 σ lv st fun σ lv st =>
    o_aload 0 σ lv st fun σ lv st =>
    o_get 24 4 σ lv st fun σ lv st =>
    o_ic 0 σ lv st fun σ lv st =>
    o_lald σ lv st fun σ lv st =>
    o_aload 0 σ lv st fun σ lv st =>
    o_get 24 5 σ lv st fun σ lv st =>
    o_ic 0 σ lv st fun σ lv st =>
    o_lald σ lv st fun σ lv st =>
    o_lmul σ lv st fun σ lv st =>
    o_aload 0 σ lv st fun σ lv st =>
    o_get 24 4 σ lv st fun σ lv st =>
    o_ic 1 σ lv st fun σ lv st =>
    o_lald σ lv st fun σ lv st =>
    o_aload 0 σ lv st fun σ lv st =>
    o_get 24 5 σ lv st fun σ lv st =>
    o_ic 1 σ lv st fun σ lv st =>
    o_lald σ lv st fun σ lv st =>
    o_lmul σ lv st fun σ lv st =>
    o_ladd σ lv st fun σ lv st =>
    o_aload 0 σ lv st fun σ lv st =>
    o_get 24 4 σ lv st fun σ lv st =>
    o_ic 2 σ lv st fun σ lv st =>
    o_lald σ lv st fun σ lv st =>
    o_aload 0 σ lv st fun σ lv st =>
    o_get 24 5 σ lv st fun σ lv st =>
    o_ic 2 σ lv st fun σ lv st =>
    o_lald σ lv st fun σ lv st =>
    o_lmul σ lv st fun σ lv st =>
    o_ladd σ lv st fun σ lv st =>
    o_putl 24 1 σ lv st fun σ lv st =>
    o_vret Qp σ lv st
def k_X6_spans_105 (Qp : Option q_V → q_M → Prop) (X : Nat → q_K) (σ : q_M) (lv : q_L) (st : q_S) : Prop :=
    o_iload 2 σ lv st fun σ lv st =>
    o_ic 3 σ lv st fun σ lv st =>
    o_icmpge (k_X6_spans_212 Qp X) σ lv st fun σ lv st =>
    o_ic 0 σ lv st fun σ lv st =>
    o_istore 3 σ lv st fun σ lv st =>
    X 112 σ lv st
def k_X6_spans_206 (Qp : Option q_V → q_M → Prop) (X : Nat → q_K) (σ : q_M) (lv : q_L) (st : q_S) : Prop :=
    o_iinc 2 1 σ lv st fun σ lv st =>
    o_goto (X 105) σ lv st
def k_X6_spans_112 (Qp : Option q_V → q_M → Prop) (X : Nat → q_K) (σ : q_M) (lv : q_L) (st : q_S) : Prop :=
    o_iload 3 σ lv st fun σ lv st =>
    o_ic 3 σ lv st fun σ lv st =>
    o_icmpge (k_X6_spans_206 Qp X) σ lv st fun σ lv st =>
    o_ic 3 σ lv st fun σ lv st =>
    o_iload 2 σ lv st fun σ lv st =>
    o_ic 1 σ lv st fun σ lv st =>
    o_callS 2 S_X6_other σ lv st fun σ lv st =>
    o_imul σ lv st fun σ lv st =>
    o_istore 4 σ lv st fun σ lv st =>
    o_ic 3 σ lv st fun σ lv st =>
    o_iload 2 σ lv st fun σ lv st =>
    o_ic 2 σ lv st fun σ lv st =>
    o_callS 2 S_X6_other σ lv st fun σ lv st =>
    o_imul σ lv st fun σ lv st =>
    o_istore 5 σ lv st fun σ lv st =>
    o_aload 0 σ lv st fun σ lv st =>
    o_get 24 5 σ lv st fun σ lv st =>
    o_ic 3 σ lv st fun σ lv st =>
    o_iload 2 σ lv st fun σ lv st =>
    o_imul σ lv st fun σ lv st =>
    o_iload 3 σ lv st fun σ lv st =>
    o_iadd σ lv st fun σ lv st =>
    o_aload 0 σ lv st fun σ lv st =>
    o_get 24 4 σ lv st fun σ lv st =>
    o_iload 4 σ lv st fun σ lv st =>
    o_iload 3 σ lv st fun σ lv st =>
    o_ic 1 σ lv st fun σ lv st =>
    o_callS 2 S_X6_other σ lv st fun σ lv st =>
    o_iadd σ lv st fun σ lv st =>
    o_lald σ lv st fun σ lv st =>
    o_aload 0 σ lv st fun σ lv st =>
    o_get 24 4 σ lv st fun σ lv st =>
    o_iload 5 σ lv st fun σ lv st =>
    o_iload 3 σ lv st fun σ lv st =>
    o_ic 2 σ lv st fun σ lv st =>
    o_callS 2 S_X6_other σ lv st fun σ lv st =>
    o_iadd σ lv st fun σ lv st =>
    o_lald σ lv st fun σ lv st =>
    o_lmul σ lv st fun σ lv st =>
    o_aload 0 σ lv st fun σ lv st =>
    o_get 24 4 σ lv st fun σ lv st =>
    o_iload 4 σ lv st fun σ lv st =>
    o_iload 3 σ lv st fun σ lv st =>
    o_ic 2 σ lv st fun σ lv st =>
    o_callS 2 S_X6_other σ lv st fun σ lv st =>
    o_iadd σ lv st fun σ lv st =>
    o_lald σ lv st fun σ lv st =>
    o_aload 0 σ lv st fun σ lv st =>
    o_get 24 4 σ lv st fun σ lv st =>
    o_iload 5 σ lv st fun σ lv st =>
    o_iload 3 σ lv st fun σ lv st =>
    o_ic 1 σ lv st fun σ lv st =>
    o_callS 2 S_X6_other σ lv st fun σ lv st =>
    o_iadd σ lv st fun σ lv st =>
    o_lald σ lv st fun σ lv st =>
    o_lmul σ lv st fun σ lv st =>
    o_lsub σ lv st fun σ lv st =>
    o_last σ lv st fun σ lv st =>
    o_iinc 3 1 σ lv st fun σ lv st =>
    o_goto (X 112) σ lv st
def k_X6_wishOf_0 (Qp : Option q_V → q_M → Prop) (X : Nat → q_K) (σ : q_M) (lv : q_L) (st : q_S) : Prop :=
    o_lc 0 σ lv st fun σ lv st =>
    o_lstore 8 σ lv st fun σ lv st =>
    o_ic 0 σ lv st fun σ lv st =>
    o_istore 10 σ lv st fun σ lv st =>
    X 6 σ lv st
def k_X6_wishOf_76 (Qp : Option q_V → q_M → Prop) (X : Nat → q_K) (σ : q_M) (lv : q_L) (st : q_S) : Prop :=
    o_lload 8 σ lv st fun σ lv st =>
    o_lneg σ lv st fun σ lv st =>
    o_aload 0 σ lv st fun σ lv st =>
    o_get 24 6 σ lv st fun σ lv st =>
    o_callS 2 S_X6_nearest σ lv st fun σ lv st =>
    o_lret Qp σ lv st
def k_X6_wishOf_6 (Qp : Option q_V → q_M → Prop) (X : Nat → q_K) (σ : q_M) (lv : q_L) (st : q_S) : Prop :=
    o_iload 10 σ lv st fun σ lv st =>
    o_ic 3 σ lv st fun σ lv st =>
    o_icmpge (k_X6_wishOf_76 Qp X) σ lv st fun σ lv st =>
    o_lload 8 σ lv st fun σ lv st =>
    o_aload 0 σ lv st fun σ lv st =>
    o_get 24 0 σ lv st fun σ lv st =>
    o_iload 1 σ lv st fun σ lv st =>
    o_iload 10 σ lv st fun σ lv st =>
    o_callS 2 S_X6_wheelAt σ lv st fun σ lv st =>
    o_lald σ lv st fun σ lv st =>
    o_aload 0 σ lv st fun σ lv st =>
    o_get 24 5 σ lv st fun σ lv st =>
    o_ic 3 σ lv st fun σ lv st =>
    o_iload 10 σ lv st fun σ lv st =>
    o_imul σ lv st fun σ lv st =>
    o_lald σ lv st fun σ lv st =>
    o_lload 2 σ lv st fun σ lv st =>
    o_lmul σ lv st fun σ lv st =>
    o_aload 0 σ lv st fun σ lv st =>
    o_get 24 5 σ lv st fun σ lv st =>
    o_ic 3 σ lv st fun σ lv st =>
    o_iload 10 σ lv st fun σ lv st =>
    o_imul σ lv st fun σ lv st =>
    o_ic 1 σ lv st fun σ lv st =>
    o_iadd σ lv st fun σ lv st =>
    o_lald σ lv st fun σ lv st =>
    o_lload 4 σ lv st fun σ lv st =>
    o_lmul σ lv st fun σ lv st =>
    o_ladd σ lv st fun σ lv st =>
    o_aload 0 σ lv st fun σ lv st =>
    o_get 24 5 σ lv st fun σ lv st =>
    o_ic 3 σ lv st fun σ lv st =>
    o_iload 10 σ lv st fun σ lv st =>
    o_imul σ lv st fun σ lv st =>
    o_ic 2 σ lv st fun σ lv st =>
    o_iadd σ lv st fun σ lv st =>
    o_lald σ lv st fun σ lv st =>
    o_lload 6 σ lv st fun σ lv st =>
    o_lmul σ lv st fun σ lv st =>
    o_ladd σ lv st fun σ lv st =>
    o_lmul σ lv st fun σ lv st =>
    o_ladd σ lv st fun σ lv st =>
    o_lstore 8 σ lv st fun σ lv st =>
    o_iinc 10 1 σ lv st fun σ lv st =>
    o_goto (X 6) σ lv st
def k_X6_room_102 (Qp : Option q_V → q_M → Prop) (X : Nat → q_K) (σ : q_M) (lv : q_L) (st : q_S) : Prop :=
    o_lret Qp σ lv st
def k_X6_room_100 (Qp : Option q_V → q_M → Prop) (X : Nat → q_K) (σ : q_M) (lv : q_L) (st : q_S) : Prop :=
    o_lload 6 σ lv st fun σ lv st =>
    k_X6_room_102 Qp X σ lv st
def k_X6_room_89 (Qp : Option q_V → q_M → Prop) (X : Nat → q_K) (σ : q_M) (lv : q_L) (st : q_S) : Prop :=
    o_lload 2 σ lv st fun σ lv st =>
    o_lload 6 σ lv st fun σ lv st =>
    o_lcmp σ lv st fun σ lv st =>
    o_ifle (k_X6_room_100 Qp X) σ lv st fun σ lv st =>
    o_lload 2 σ lv st fun σ lv st =>
    o_goto (k_X6_room_102 Qp X) σ lv st
def k_X6_room_78 (Qp : Option q_V → q_M → Prop) (X : Nat → q_K) (σ : q_M) (lv : q_L) (st : q_S) : Prop :=
    o_lload 6 σ lv st fun σ lv st =>
    o_lc 0 σ lv st fun σ lv st =>
    o_lcmp σ lv st fun σ lv st =>
    o_ifle (k_X6_room_89 Qp X) σ lv st fun σ lv st =>
    o_lc 0 σ lv st fun σ lv st =>
    o_goto (k_X6_room_102 Qp X) σ lv st
def k_X6_room_77 (Qp : Option q_V → q_M → Prop) (X : Nat → q_K) (σ : q_M) (lv : q_L) (st : q_S) : Prop :=
    o_lret Qp σ lv st
def k_X6_room_75 (Qp : Option q_V → q_M → Prop) (X : Nat → q_K) (σ : q_M) (lv : q_L) (st : q_S) : Prop :=
    o_lload 4 σ lv st fun σ lv st =>
    k_X6_room_77 Qp X σ lv st
def k_X6_room_64 (Qp : Option q_V → q_M → Prop) (X : Nat → q_K) (σ : q_M) (lv : q_L) (st : q_S) : Prop :=
    o_lload 2 σ lv st fun σ lv st =>
    o_lload 4 σ lv st fun σ lv st =>
    o_lcmp σ lv st fun σ lv st =>
    o_ifge (k_X6_room_75 Qp X) σ lv st fun σ lv st =>
    o_lload 2 σ lv st fun σ lv st =>
    o_goto (k_X6_room_77 Qp X) σ lv st
def k_X6_room_0 (Qp : Option q_V → q_M → Prop) (X : Nat → q_K) (σ : q_M) (lv : q_L) (st : q_S) : Prop :=
    o_aload 0 σ lv st fun σ lv st =>
    o_get 24 0 σ lv st fun σ lv st =>
    o_iload 1 σ lv st fun σ lv st =>
    o_ic 4 σ lv st fun σ lv st =>
    o_callS 2 S_X6_wheelAt σ lv st fun σ lv st =>
    o_lald σ lv st fun σ lv st =>
    o_aload 0 σ lv st fun σ lv st =>
    o_get 24 0 σ lv st fun σ lv st =>
    o_iload 1 σ lv st fun σ lv st =>
    o_ic 3 σ lv st fun σ lv st =>
    o_callS 2 S_X6_wheelAt σ lv st fun σ lv st =>
    o_lald σ lv st fun σ lv st =>
    o_lsub σ lv st fun σ lv st =>
    o_lstore 4 σ lv st fun σ lv st =>
    o_aload 0 σ lv st fun σ lv st =>
    o_get 24 0 σ lv st fun σ lv st =>
    o_iload 1 σ lv st fun σ lv st =>
    o_ic 4 σ lv st fun σ lv st =>
    o_callS 2 S_X6_wheelAt σ lv st fun σ lv st =>
    o_lald σ lv st fun σ lv st =>
    o_lneg σ lv st fun σ lv st =>
    o_aload 0 σ lv st fun σ lv st =>
    o_get 24 0 σ lv st fun σ lv st =>
    o_iload 1 σ lv st fun σ lv st =>
    o_ic 3 σ lv st fun σ lv st =>
    o_callS 2 S_X6_wheelAt σ lv st fun σ lv st =>
    o_lald σ lv st fun σ lv st =>
    o_lsub σ lv st fun σ lv st =>
    o_lstore 6 σ lv st fun σ lv st =>
    o_lload 2 σ lv st fun σ lv st =>
    o_lc 0 σ lv st fun σ lv st =>
    o_lcmp σ lv st fun σ lv st =>
    o_ifle (k_X6_room_78 Qp X) σ lv st fun σ lv st =>
    o_lload 4 σ lv st fun σ lv st =>
    o_lc 0 σ lv st fun σ lv st =>
    o_lcmp σ lv st fun σ lv st =>
    o_ifge (k_X6_room_64 Qp X) σ lv st fun σ lv st =>
    o_lc 0 σ lv st fun σ lv st =>
    o_goto (k_X6_room_77 Qp X) σ lv st
def k_X6_gives_0 (Qp : Option q_V → q_M → Prop) (X : Nat → q_K) (σ : q_M) (lv : q_L) (st : q_S) : Prop :=
    o_aload 0 σ lv st fun σ lv st =>
    o_get 24 0 σ lv st fun σ lv st =>
    o_iload 1 σ lv st fun σ lv st =>
    o_ic 3 σ lv st fun σ lv st =>
    o_callS 2 S_X6_wheelAt σ lv st fun σ lv st =>
    o_dup2 σ lv st fun σ lv st =>
    o_lald σ lv st fun σ lv st =>
    o_lload 2 σ lv st fun σ lv st =>
    o_ladd σ lv st fun σ lv st =>
    o_last σ lv st fun σ lv st =>
    o_aload 0 σ lv st fun σ lv st =>
    o_get 24 0 σ lv st fun σ lv st =>
    o_iload 1 σ lv st fun σ lv st =>
    o_ic (7) σ lv st fun σ lv st =>
    o_callS 2 S_X6_wheelAt σ lv st fun σ lv st =>
    o_lload 2 σ lv st fun σ lv st =>
    o_last σ lv st fun σ lv st =>
    o_ic 0 σ lv st fun σ lv st =>
    o_istore 4 σ lv st fun σ lv st =>
    X 29 σ lv st
def k_X6_gives_68 (Qp : Option q_V → q_M → Prop) (X : Nat → q_K) (σ : q_M) (lv : q_L) (st : q_S) : Prop :=
    o_vret Qp σ lv st
def k_X6_gives_29 (Qp : Option q_V → q_M → Prop) (X : Nat → q_K) (σ : q_M) (lv : q_L) (st : q_S) : Prop :=
    o_iload 4 σ lv st fun σ lv st =>
    o_ic 3 σ lv st fun σ lv st =>
    o_icmpge (k_X6_gives_68 Qp X) σ lv st fun σ lv st =>
    o_aload 0 σ lv st fun σ lv st =>
    o_get 24 0 σ lv st fun σ lv st =>
    o_iload 4 σ lv st fun σ lv st =>
    o_ic 1 σ lv st fun σ lv st =>
    o_callS 2 S_X6_axisAt σ lv st fun σ lv st =>
    o_dup2 σ lv st fun σ lv st =>
    o_lald σ lv st fun σ lv st =>
    o_aload 0 σ lv st fun σ lv st =>
    o_get 24 0 σ lv st fun σ lv st =>
    o_iload 1 σ lv st fun σ lv st =>
    o_iload 4 σ lv st fun σ lv st =>
    o_callS 2 S_X6_wheelAt σ lv st fun σ lv st =>
    o_lald σ lv st fun σ lv st =>
    o_lload 2 σ lv st fun σ lv st =>
    o_lmul σ lv st fun σ lv st =>
    o_lsub σ lv st fun σ lv st =>
    o_last σ lv st fun σ lv st =>
    o_iinc 4 1 σ lv st fun σ lv st =>
    o_goto (X 29) σ lv st
def k_X6_shares_0 (Qp : Option q_V → q_M → Prop) (X : Nat → q_K) (σ : q_M) (lv : q_L) (st : q_S) : Prop :=
    o_aload 0 σ lv st fun σ lv st =>
    o_ic (-2000009) σ lv st fun σ lv st =>
    o_callV 1 24 S_X6_spans σ lv st fun σ lv st =>
    o_ic 0 σ lv st fun σ lv st =>
    o_istore 1 σ lv st fun σ lv st =>
    X 8 σ lv st
def k_X6_shares_113 (Qp : Option q_V → q_M → Prop) (X : Nat → q_K) (σ : q_M) (lv : q_L) (st : q_S) : Prop :=
    o_aload 0 σ lv st fun σ lv st =>
    o_lc 0 σ lv st fun σ lv st =>
    o_lc (-2000009) σ lv st fun σ lv st =>
    o_lc (-2000009) σ lv st fun σ lv st =>
    o_callV 3 24 S_X6_reasons σ lv st fun σ lv st =>
    o_ic 0 σ lv st fun σ lv st =>
    o_istore 1 σ lv st fun σ lv st =>
    X 126 σ lv st
def k_X6_shares_39 (Qp : Option q_V → q_M → Prop) (X : Nat → q_K) (σ : q_M) (lv : q_L) (st : q_S) : Prop :=
    o_aload 0 σ lv st fun σ lv st =>
    o_get 24 6 σ lv st fun σ lv st =>
    o_lc 0 σ lv st fun σ lv st =>
    o_lcmp σ lv st fun σ lv st =>
    o_ifne (k_X6_shares_113 Qp X) σ lv st fun σ lv st =>
    o_aload 0 σ lv st fun σ lv st =>
    o_lc 1 σ lv st fun σ lv st =>
    o_lc (-2000009) σ lv st fun σ lv st =>
    o_lc (-2000009) σ lv st fun σ lv st =>
    o_callV 3 24 S_X6_reasons σ lv st fun σ lv st =>
    o_aload 0 σ lv st fun σ lv st =>
    o_get 24 0 σ lv st fun σ lv st =>
    o_ic (6) σ lv st fun σ lv st =>
    o_lald σ lv st fun σ lv st =>
    o_l2i σ lv st fun σ lv st =>
    o_ic 1 σ lv st fun σ lv st =>
    o_isub σ lv st fun σ lv st =>
    o_istore 1 σ lv st fun σ lv st =>
    X 70 σ lv st
def k_X6_shares_8 (Qp : Option q_V → q_M → Prop) (X : Nat → q_K) (σ : q_M) (lv : q_L) (st : q_S) : Prop :=
    o_iload 1 σ lv st fun σ lv st =>
    o_i2l σ lv st fun σ lv st =>
    o_aload 0 σ lv st fun σ lv st =>
    o_get 24 0 σ lv st fun σ lv st =>
    o_ic (6) σ lv st fun σ lv st =>
    o_lald σ lv st fun σ lv st =>
    o_lcmp σ lv st fun σ lv st =>
    o_ifge (k_X6_shares_39 Qp X) σ lv st fun σ lv st =>
    o_aload 0 σ lv st fun σ lv st =>
    o_get 24 0 σ lv st fun σ lv st =>
    o_iload 1 σ lv st fun σ lv st =>
    o_ic (7) σ lv st fun σ lv st =>
    o_callS 2 S_X6_wheelAt σ lv st fun σ lv st =>
    o_lc 0 σ lv st fun σ lv st =>
    o_last σ lv st fun σ lv st =>
    o_iinc 1 1 σ lv st fun σ lv st =>
    o_goto (X 8) σ lv st
def k_X6_shares_111 (Qp : Option q_V → q_M → Prop) (X : Nat → q_K) (σ : q_M) (lv : q_L) (st : q_S) : Prop :=
    o_ic 0 σ lv st fun σ lv st =>
    o_zret Qp σ lv st
def k_X6_shares_104 (Qp : Option q_V → q_M → Prop) (X : Nat → q_K) (σ : q_M) (lv : q_L) (st : q_S) : Prop :=
    o_last σ lv st fun σ lv st =>
    o_iinc 1 (-1) σ lv st fun σ lv st =>
    o_goto (X 70) σ lv st
def k_X6_shares_98 (Qp : Option q_V → q_M → Prop) (X : Nat → q_K) (σ : q_M) (lv : q_L) (st : q_S) : Prop :=
    o_lc (10) σ lv st fun σ lv st =>
    o_iload 1 σ lv st fun σ lv st =>
    o_i2l σ lv st fun σ lv st =>
    o_ladd σ lv st fun σ lv st =>
    k_X6_shares_104 Qp X σ lv st
def k_X6_shares_70 (Qp : Option q_V → q_M → Prop) (X : Nat → q_K) (σ : q_M) (lv : q_L) (st : q_S) : Prop :=
    o_iload 1 σ lv st fun σ lv st =>
    o_iflt (k_X6_shares_111 Qp X) σ lv st fun σ lv st =>
    o_aload 0 σ lv st fun σ lv st =>
    o_get 24 0 σ lv st fun σ lv st =>
    o_ic (9) σ lv st fun σ lv st =>
    o_aload 0 σ lv st fun σ lv st =>
    o_iload 1 σ lv st fun σ lv st =>
    o_callV 1 24 S_X6_works σ lv st fun σ lv st =>
    o_ifeq (k_X6_shares_98 Qp X) σ lv st fun σ lv st =>
    o_aload 0 σ lv st fun σ lv st =>
    o_get 24 0 σ lv st fun σ lv st =>
    o_ic (9) σ lv st fun σ lv st =>
    o_lald σ lv st fun σ lv st =>
    o_goto (k_X6_shares_104 Qp X) σ lv st
def k_X6_shares_275 (Qp : Option q_V → q_M → Prop) (X : Nat → q_K) (σ : q_M) (lv : q_L) (st : q_S) : Prop :=
    o_zret Qp σ lv st
def k_X6_shares_274 (Qp : Option q_V → q_M → Prop) (X : Nat → q_K) (σ : q_M) (lv : q_L) (st : q_S) : Prop :=
    o_ic 0 σ lv st fun σ lv st =>
    k_X6_shares_275 Qp X σ lv st
def k_X6_shares_258 (Qp : Option q_V → q_M → Prop) (X : Nat → q_K) (σ : q_M) (lv : q_L) (st : q_S) : Prop :=
    o_aload 0 σ lv st fun σ lv st =>
    o_get 24 0 σ lv st fun σ lv st =>
    o_ic (8) σ lv st fun σ lv st =>
    o_lald σ lv st fun σ lv st =>
    o_lc 0 σ lv st fun σ lv st =>
    o_lcmp σ lv st fun σ lv st =>
    o_ifne (k_X6_shares_274 Qp X) σ lv st fun σ lv st =>
    o_ic 1 σ lv st fun σ lv st =>
    o_goto (k_X6_shares_275 Qp X) σ lv st
def k_X6_shares_252 (Qp : Option q_V → q_M → Prop) (X : Nat → q_K) (σ : q_M) (lv : q_L) (st : q_S) : Prop :=
    o_iinc 1 1 σ lv st fun σ lv st =>
    o_goto (X 126) σ lv st
def k_X6_shares_245 (Qp : Option q_V → q_M → Prop) (X : Nat → q_K) (σ : q_M) (lv : q_L) (st : q_S) : Prop :=
    o_aload 0 σ lv st fun σ lv st =>
    o_iload 1 σ lv st fun σ lv st =>
    o_lload 6 σ lv st fun σ lv st =>
    o_callV 2 24 S_X6_gives σ lv st fun σ lv st =>
    k_X6_shares_252 Qp X σ lv st
def k_X6_shares_242 (Qp : Option q_V → q_M → Prop) (X : Nat → q_K) (σ : q_M) (lv : q_L) (st : q_S) : Prop :=
    o_callV 3 24 S_X6_reasons σ lv st fun σ lv st =>
    k_X6_shares_245 Qp X σ lv st
def k_X6_shares_239 (Qp : Option q_V → q_M → Prop) (X : Nat → q_K) (σ : q_M) (lv : q_L) (st : q_S) : Prop :=
    o_lc (3) σ lv st fun σ lv st =>
    k_X6_shares_242 Qp X σ lv st
def k_X6_shares_126 (Qp : Option q_V → q_M → Prop) (X : Nat → q_K) (σ : q_M) (lv : q_L) (st : q_S) : Prop :=
    o_iload 1 σ lv st fun σ lv st =>
    o_i2l σ lv st fun σ lv st =>
    o_aload 0 σ lv st fun σ lv st =>
    o_get 24 0 σ lv st fun σ lv st =>
    o_ic (6) σ lv st fun σ lv st =>
    o_lald σ lv st fun σ lv st =>
    o_lcmp σ lv st fun σ lv st =>
    o_ifge (k_X6_shares_258 Qp X) σ lv st fun σ lv st =>
    o_aload 0 σ lv st fun σ lv st =>
    o_iload 1 σ lv st fun σ lv st =>
    o_callV 1 24 S_X6_works σ lv st fun σ lv st =>
    o_ifeq (k_X6_shares_252 Qp X) σ lv st fun σ lv st =>
    o_aload 0 σ lv st fun σ lv st =>
    o_iload 1 σ lv st fun σ lv st =>
    o_aload 0 σ lv st fun σ lv st =>
    o_get 24 7 σ lv st fun σ lv st =>
    o_ic 0 σ lv st fun σ lv st =>
    o_lald σ lv st fun σ lv st =>
    o_aload 0 σ lv st fun σ lv st =>
    o_get 24 7 σ lv st fun σ lv st =>
    o_ic 1 σ lv st fun σ lv st =>
    o_lald σ lv st fun σ lv st =>
    o_aload 0 σ lv st fun σ lv st =>
    o_get 24 7 σ lv st fun σ lv st =>
    o_ic 2 σ lv st fun σ lv st =>
    o_lald σ lv st fun σ lv st =>
    o_callV 4 24 S_X6_wishOf σ lv st fun σ lv st =>
    o_lstore 2 σ lv st fun σ lv st =>
    o_lload 2 σ lv st fun σ lv st =>
    o_aload 0 σ lv st fun σ lv st =>
    o_get 24 0 σ lv st fun σ lv st =>
    o_iload 1 σ lv st fun σ lv st =>
    o_ic 5 σ lv st fun σ lv st =>
    o_callS 2 S_X6_wheelAt σ lv st fun σ lv st =>
    o_lald σ lv st fun σ lv st =>
    o_callS 2 S_X6_held σ lv st fun σ lv st =>
    o_lstore 4 σ lv st fun σ lv st =>
    o_aload 0 σ lv st fun σ lv st =>
    o_iload 1 σ lv st fun σ lv st =>
    o_lload 4 σ lv st fun σ lv st =>
    o_callV 2 24 S_X6_room σ lv st fun σ lv st =>
    o_lstore 6 σ lv st fun σ lv st =>
    o_lload 6 σ lv st fun σ lv st =>
    o_lload 2 σ lv st fun σ lv st =>
    o_lcmp σ lv st fun σ lv st =>
    o_ifeq (k_X6_shares_245 Qp X) σ lv st fun σ lv st =>
    o_aload 0 σ lv st fun σ lv st =>
    o_get 24 0 σ lv st fun σ lv st =>
    o_ic (8) σ lv st fun σ lv st =>
    o_lald σ lv st fun σ lv st =>
    o_lc 0 σ lv st fun σ lv st =>
    o_lcmp σ lv st fun σ lv st =>
    o_ifne (k_X6_shares_245 Qp X) σ lv st fun σ lv st =>
    o_aload 0 σ lv st fun σ lv st =>
    o_lc (2) σ lv st fun σ lv st =>
    o_lc (20) σ lv st fun σ lv st =>
    o_iload 1 σ lv st fun σ lv st =>
    o_i2l σ lv st fun σ lv st =>
    o_ladd σ lv st fun σ lv st =>
    o_lload 6 σ lv st fun σ lv st =>
    o_lload 4 σ lv st fun σ lv st =>
    o_lcmp σ lv st fun σ lv st =>
    o_ifne (k_X6_shares_239 Qp X) σ lv st fun σ lv st =>
    o_lc (4) σ lv st fun σ lv st =>
    o_goto (k_X6_shares_242 Qp X) σ lv st
def k_X6_product_0 (Qp : Option q_V → q_M → Prop) (X : Nat → q_K) (σ : q_M) (lv : q_L) (st : q_S) : Prop :=
    o_aload 0 σ lv st fun σ lv st =>
    o_iload 2 σ lv st fun σ lv st =>
    o_ic 1 σ lv st fun σ lv st =>
    o_callS 2 S_X6_other σ lv st fun σ lv st =>
    o_lald σ lv st fun σ lv st =>
    o_aload 1 σ lv st fun σ lv st =>
    o_iload 2 σ lv st fun σ lv st =>
    o_ic 2 σ lv st fun σ lv st =>
    o_callS 2 S_X6_other σ lv st fun σ lv st =>
    o_lald σ lv st fun σ lv st =>
    o_lmul σ lv st fun σ lv st =>
    o_aload 0 σ lv st fun σ lv st =>
    o_iload 2 σ lv st fun σ lv st =>
    o_ic 2 σ lv st fun σ lv st =>
    o_callS 2 S_X6_other σ lv st fun σ lv st =>
    o_lald σ lv st fun σ lv st =>
    o_aload 1 σ lv st fun σ lv st =>
    o_iload 2 σ lv st fun σ lv st =>
    o_ic 1 σ lv st fun σ lv st =>
    o_callS 2 S_X6_other σ lv st fun σ lv st =>
    o_lald σ lv st fun σ lv st =>
    o_lmul σ lv st fun σ lv st =>
    o_lsub σ lv st fun σ lv st =>
    o_lret Qp σ lv st
def k_X6_drops_0 (Qp : Option q_V → q_M → Prop) (X : Nat → q_K) (σ : q_M) (lv : q_L) (st : q_S) : Prop :=
    o_ic 0 σ lv st fun σ lv st =>
    o_istore 1 σ lv st fun σ lv st =>
    X 2 σ lv st
def k_X6_drops_87 (Qp : Option q_V → q_M → Prop) (X : Nat → q_K) (σ : q_M) (lv : q_L) (st : q_S) : Prop :=
    o_ic 0 σ lv st fun σ lv st =>
    o_istore 1 σ lv st fun σ lv st =>
    X 89 σ lv st
def k_X6_drops_2 (Qp : Option q_V → q_M → Prop) (X : Nat → q_K) (σ : q_M) (lv : q_L) (st : q_S) : Prop :=
    o_iload 1 σ lv st fun σ lv st =>
    o_ic 3 σ lv st fun σ lv st =>
    o_icmpge (k_X6_drops_87 Qp X) σ lv st fun σ lv st =>
    o_aload 0 σ lv st fun σ lv st =>
    o_get 24 9 σ lv st fun σ lv st =>
    o_iload 1 σ lv st fun σ lv st =>
    o_aload 0 σ lv st fun σ lv st =>
    o_get 24 0 σ lv st fun σ lv st =>
    o_iload 1 σ lv st fun σ lv st =>
    o_ic 4 σ lv st fun σ lv st =>
    o_callS 2 S_X6_axisAt σ lv st fun σ lv st =>
    o_lald σ lv st fun σ lv st =>
    o_last σ lv st fun σ lv st =>
    o_aload 0 σ lv st fun σ lv st =>
    o_get 24 8 σ lv st fun σ lv st =>
    o_iload 1 σ lv st fun σ lv st =>
    o_lc 0 σ lv st fun σ lv st =>
    o_last σ lv st fun σ lv st =>
    o_ic 0 σ lv st fun σ lv st =>
    o_istore 2 σ lv st fun σ lv st =>
    X 32 σ lv st
def k_X6_drops_81 (Qp : Option q_V → q_M → Prop) (X : Nat → q_K) (σ : q_M) (lv : q_L) (st : q_S) : Prop :=
    o_iinc 1 1 σ lv st fun σ lv st =>
    o_goto (X 2) σ lv st
def k_X6_drops_32 (Qp : Option q_V → q_M → Prop) (X : Nat → q_K) (σ : q_M) (lv : q_L) (st : q_S) : Prop :=
    o_iload 2 σ lv st fun σ lv st =>
    o_i2l σ lv st fun σ lv st =>
    o_aload 0 σ lv st fun σ lv st =>
    o_get 24 0 σ lv st fun σ lv st =>
    o_ic (6) σ lv st fun σ lv st =>
    o_lald σ lv st fun σ lv st =>
    o_lcmp σ lv st fun σ lv st =>
    o_ifge (k_X6_drops_81 Qp X) σ lv st fun σ lv st =>
    o_aload 0 σ lv st fun σ lv st =>
    o_get 24 8 σ lv st fun σ lv st =>
    o_iload 1 σ lv st fun σ lv st =>
    o_dup2 σ lv st fun σ lv st =>
    o_lald σ lv st fun σ lv st =>
    o_aload 0 σ lv st fun σ lv st =>
    o_get 24 0 σ lv st fun σ lv st =>
    o_iload 2 σ lv st fun σ lv st =>
    o_iload 1 σ lv st fun σ lv st =>
    o_callS 2 S_X6_wheelAt σ lv st fun σ lv st =>
    o_lald σ lv st fun σ lv st =>
    o_aload 0 σ lv st fun σ lv st =>
    o_get 24 0 σ lv st fun σ lv st =>
    o_iload 2 σ lv st fun σ lv st =>
    o_ic 3 σ lv st fun σ lv st =>
    o_callS 2 S_X6_wheelAt σ lv st fun σ lv st =>
    o_lald σ lv st fun σ lv st =>
    o_lmul σ lv st fun σ lv st =>
    o_ladd σ lv st fun σ lv st =>
    o_last σ lv st fun σ lv st =>
    o_iinc 2 1 σ lv st fun σ lv st =>
    o_goto (X 32) σ lv st
def k_X6_drops_133 (Qp : Option q_V → q_M → Prop) (X : Nat → q_K) (σ : q_M) (lv : q_L) (st : q_S) : Prop :=
    o_ic 0 σ lv st fun σ lv st =>
    o_istore 1 σ lv st fun σ lv st =>
    X 135 σ lv st
def k_X6_drops_89 (Qp : Option q_V → q_M → Prop) (X : Nat → q_K) (σ : q_M) (lv : q_L) (st : q_S) : Prop :=
    o_iload 1 σ lv st fun σ lv st =>
    o_ic 3 σ lv st fun σ lv st =>
    o_icmpge (k_X6_drops_133 Qp X) σ lv st fun σ lv st =>
    o_aload 0 σ lv st fun σ lv st =>
    o_get 24 10 σ lv st fun σ lv st =>
    o_iload 1 σ lv st fun σ lv st =>
    o_aload 0 σ lv st fun σ lv st =>
    o_get 24 8 σ lv st fun σ lv st =>
    o_aload 0 σ lv st fun σ lv st =>
    o_get 24 9 σ lv st fun σ lv st =>
    o_iload 1 σ lv st fun σ lv st =>
    o_callS 3 S_X6_product σ lv st fun σ lv st =>
    o_lc (1000) σ lv st fun σ lv st =>
    o_callS 2 S_X6_div σ lv st fun σ lv st =>
    o_aload 0 σ lv st fun σ lv st =>
    o_get 24 0 σ lv st fun σ lv st =>
    o_ic 4 σ lv st fun σ lv st =>
    o_lald σ lv st fun σ lv st =>
    o_callS 2 S_X6_held σ lv st fun σ lv st =>
    o_last σ lv st fun σ lv st =>
    o_iinc 1 1 σ lv st fun σ lv st =>
    o_goto (X 89) σ lv st
def k_X6_drops_180 (Qp : Option q_V → q_M → Prop) (X : Nat → q_K) (σ : q_M) (lv : q_L) (st : q_S) : Prop :=
    o_vret Qp σ lv st
def k_X6_drops_135 (Qp : Option q_V → q_M → Prop) (X : Nat → q_K) (σ : q_M) (lv : q_L) (st : q_S) : Prop :=
    o_iload 1 σ lv st fun σ lv st =>
    o_ic 3 σ lv st fun σ lv st =>
    o_icmpge (k_X6_drops_180 Qp X) σ lv st fun σ lv st =>
    o_aload 0 σ lv st fun σ lv st =>
    o_iload 1 σ lv st fun σ lv st =>
    o_aload 0 σ lv st fun σ lv st =>
    o_get 24 10 σ lv st fun σ lv st =>
    o_aload 0 σ lv st fun σ lv st =>
    o_get 24 9 σ lv st fun σ lv st =>
    o_iload 1 σ lv st fun σ lv st =>
    o_callS 3 S_X6_product σ lv st fun σ lv st =>
    o_lc (100) σ lv st fun σ lv st =>
    o_callS 2 S_X6_div σ lv st fun σ lv st =>
    o_aload 0 σ lv st fun σ lv st =>
    o_get 24 0 σ lv st fun σ lv st =>
    o_iload 1 σ lv st fun σ lv st =>
    o_ic 5 σ lv st fun σ lv st =>
    o_callS 2 S_X6_axisAt σ lv st fun σ lv st =>
    o_lald σ lv st fun σ lv st =>
    o_ladd σ lv st fun σ lv st =>
    o_callV 2 24 S_X6_pushes σ lv st fun σ lv st =>
    o_iinc 1 1 σ lv st fun σ lv st =>
    o_goto (X 135) σ lv st
def k_X6_passes_0 (Qp : Option q_V → q_M → Prop) (X : Nat → q_K) (σ : q_M) (lv : q_L) (st : q_S) : Prop :=
    o_aload 0 σ lv st fun σ lv st =>
    o_get 24 0 σ lv st fun σ lv st =>
    o_ic 5 σ lv st fun σ lv st =>
    o_dup2 σ lv st fun σ lv st =>
    o_lald σ lv st fun σ lv st =>
    o_lc 1 σ lv st fun σ lv st =>
    o_ladd σ lv st fun σ lv st =>
    o_last σ lv st fun σ lv st =>
    o_ic 0 σ lv st fun σ lv st =>
    o_istore 1 σ lv st fun σ lv st =>
    X 12 σ lv st
def k_X6_passes_113 (Qp : Option q_V → q_M → Prop) (X : Nat → q_K) (σ : q_M) (lv : q_L) (st : q_S) : Prop :=
    o_aload 0 σ lv st fun σ lv st =>
    o_callV 0 24 S_X6_shares σ lv st fun σ lv st =>
    o_istore 1 σ lv st fun σ lv st =>
    o_aload 0 σ lv st fun σ lv st =>
    o_callV 0 24 S_X6_drops σ lv st fun σ lv st =>
    o_ic 0 σ lv st fun σ lv st =>
    o_istore 2 σ lv st fun σ lv st =>
    X 124 σ lv st
def k_X6_passes_12 (Qp : Option q_V → q_M → Prop) (X : Nat → q_K) (σ : q_M) (lv : q_L) (st : q_S) : Prop :=
    o_iload 1 σ lv st fun σ lv st =>
    o_ic 3 σ lv st fun σ lv st =>
    o_icmpge (k_X6_passes_113 Qp X) σ lv st fun σ lv st =>
    o_aload 0 σ lv st fun σ lv st =>
    o_get 24 0 σ lv st fun σ lv st =>
    o_ic 0 σ lv st fun σ lv st =>
    o_lald σ lv st fun σ lv st =>
    o_aload 0 σ lv st fun σ lv st =>
    o_get 24 0 σ lv st fun σ lv st =>
    o_iload 1 σ lv st fun σ lv st =>
    o_ic 3 σ lv st fun σ lv st =>
    o_callS 2 S_X6_axisAt σ lv st fun σ lv st =>
    o_lald σ lv st fun σ lv st =>
    o_aload 0 σ lv st fun σ lv st =>
    o_get 24 0 σ lv st fun σ lv st =>
    o_iload 1 σ lv st fun σ lv st =>
    o_ic 0 σ lv st fun σ lv st =>
    o_callS 2 S_X6_axisAt σ lv st fun σ lv st =>
    o_lald σ lv st fun σ lv st =>
    o_lsub σ lv st fun σ lv st =>
    o_lmul σ lv st fun σ lv st =>
    o_lc (100) σ lv st fun σ lv st =>
    o_callS 2 S_X6_div σ lv st fun σ lv st =>
    o_aload 0 σ lv st fun σ lv st =>
    o_get 24 0 σ lv st fun σ lv st =>
    o_ic 2 σ lv st fun σ lv st =>
    o_lald σ lv st fun σ lv st =>
    o_callS 2 S_X6_held σ lv st fun σ lv st =>
    o_lstore 2 σ lv st fun σ lv st =>
    o_aload 0 σ lv st fun σ lv st =>
    o_get 24 7 σ lv st fun σ lv st =>
    o_iload 1 σ lv st fun σ lv st =>
    o_aload 0 σ lv st fun σ lv st =>
    o_get 24 0 σ lv st fun σ lv st =>
    o_ic 1 σ lv st fun σ lv st =>
    o_lald σ lv st fun σ lv st =>
    o_lload 2 σ lv st fun σ lv st =>
    o_aload 0 σ lv st fun σ lv st =>
    o_iload 1 σ lv st fun σ lv st =>
    o_callV 1 24 S_X6_rate σ lv st fun σ lv st =>
    o_lsub σ lv st fun σ lv st =>
    o_lmul σ lv st fun σ lv st =>
    o_aload 0 σ lv st fun σ lv st =>
    o_get 24 0 σ lv st fun σ lv st =>
    o_ic 3 σ lv st fun σ lv st =>
    o_lald σ lv st fun σ lv st =>
    o_callS 2 S_X6_held σ lv st fun σ lv st =>
    o_last σ lv st fun σ lv st =>
    o_aload 0 σ lv st fun σ lv st =>
    o_get 24 0 σ lv st fun σ lv st =>
    o_iload 1 σ lv st fun σ lv st =>
    o_ic (7) σ lv st fun σ lv st =>
    o_callS 2 S_X6_axisAt σ lv st fun σ lv st =>
    o_aload 0 σ lv st fun σ lv st =>
    o_get 24 7 σ lv st fun σ lv st =>
    o_iload 1 σ lv st fun σ lv st =>
    o_lald σ lv st fun σ lv st =>
    o_last σ lv st fun σ lv st =>
    o_iinc 1 1 σ lv st fun σ lv st =>
    o_goto (X 12) σ lv st
def k_X6_passes_153 (Qp : Option q_V → q_M → Prop) (X : Nat → q_K) (σ : q_M) (lv : q_L) (st : q_S) : Prop :=
    o_iload 1 σ lv st fun σ lv st =>
    o_zret Qp σ lv st
def k_X6_passes_124 (Qp : Option q_V → q_M → Prop) (X : Nat → q_K) (σ : q_M) (lv : q_L) (st : q_S) : Prop :=
    o_iload 2 σ lv st fun σ lv st =>
    o_ic 3 σ lv st fun σ lv st =>
    o_icmpge (k_X6_passes_153 Qp X) σ lv st fun σ lv st =>
    o_aload 0 σ lv st fun σ lv st =>
    o_get 24 0 σ lv st fun σ lv st =>
    o_iload 2 σ lv st fun σ lv st =>
    o_ic 0 σ lv st fun σ lv st =>
    o_callS 2 S_X6_axisAt σ lv st fun σ lv st =>
    o_dup2 σ lv st fun σ lv st =>
    o_lald σ lv st fun σ lv st =>
    o_aload 0 σ lv st fun σ lv st =>
    o_iload 2 σ lv st fun σ lv st =>
    o_callV 1 24 S_X6_rate σ lv st fun σ lv st =>
    o_ladd σ lv st fun σ lv st =>
    o_last σ lv st fun σ lv st =>
    o_iinc 2 1 σ lv st fun σ lv st =>
    o_goto (X 124) σ lv st
def k_X6_tick_33 (Qp : Option q_V → q_M → Prop) (X : Nat → q_K) (σ : q_M) (lv : q_L) (st : q_S) : Prop :=
    o_aload 0 σ lv st fun σ lv st =>
    o_callV 0 24 S_X6_act σ lv st fun σ lv st =>
    o_ic 0 σ lv st fun σ lv st =>
    o_istore 2 σ lv st fun σ lv st =>
    o_ic 0 σ lv st fun σ lv st =>
    o_istore 3 σ lv st fun σ lv st =>
    X 41 σ lv st
def k_X6_tick_14 (Qp : Option q_V → q_M → Prop) (X : Nat → q_K) (σ : q_M) (lv : q_L) (st : q_S) : Prop :=
    o_aload 0 σ lv st fun σ lv st =>
    o_get 24 0 σ lv st fun σ lv st =>
    o_ic 5 σ lv st fun σ lv st =>
    o_lald σ lv st fun σ lv st =>
    o_iload 1 σ lv st fun σ lv st =>
    o_i2l σ lv st fun σ lv st =>
    o_ladd σ lv st fun σ lv st =>
    o_lc (50000) σ lv st fun σ lv st =>
    o_lcmp σ lv st fun σ lv st =>
    o_ifle (k_X6_tick_33 Qp X) σ lv st fun σ lv st =>
    o_ic (-2000002) σ lv st fun σ lv st =>
    o_iret Qp σ lv st
def k_X6_tick_0 (Qp : Option q_V → q_M → Prop) (X : Nat → q_K) (σ : q_M) (lv : q_L) (st : q_S) : Prop :=
    o_iload 1 σ lv st fun σ lv st =>
    o_ic 1 σ lv st fun σ lv st =>
    o_ic (200) σ lv st fun σ lv st =>
    o_callS 3 S_X6_in σ lv st fun σ lv st =>
    o_ifne (k_X6_tick_14 Qp X) σ lv st fun σ lv st =>
    o_ic (-2000001) σ lv st fun σ lv st =>
    o_iret Qp σ lv st
def k_X6_tick_67 (Qp : Option q_V → q_M → Prop) (X : Nat → q_K) (σ : q_M) (lv : q_L) (st : q_S) : Prop :=
    o_iload 2 σ lv st fun σ lv st =>
    o_iret Qp σ lv st
def k_X6_tick_59 (Qp : Option q_V → q_M → Prop) (X : Nat → q_K) (σ : q_M) (lv : q_L) (st : q_S) : Prop :=
    o_iadd σ lv st fun σ lv st =>
    o_istore 2 σ lv st fun σ lv st =>
    o_iinc 3 1 σ lv st fun σ lv st =>
    o_goto (X 41) σ lv st
def k_X6_tick_58 (Qp : Option q_V → q_M → Prop) (X : Nat → q_K) (σ : q_M) (lv : q_L) (st : q_S) : Prop :=
    o_ic 0 σ lv st fun σ lv st =>
    k_X6_tick_59 Qp X σ lv st
def k_X6_tick_41 (Qp : Option q_V → q_M → Prop) (X : Nat → q_K) (σ : q_M) (lv : q_L) (st : q_S) : Prop :=
    o_iload 3 σ lv st fun σ lv st =>
    o_iload 1 σ lv st fun σ lv st =>
    o_icmpge (k_X6_tick_67 Qp X) σ lv st fun σ lv st =>
    o_iload 2 σ lv st fun σ lv st =>
    o_aload 0 σ lv st fun σ lv st =>
    o_callV 0 24 S_X6_passes σ lv st fun σ lv st =>
    o_ifeq (k_X6_tick_58 Qp X) σ lv st fun σ lv st =>
    o_ic 1 σ lv st fun σ lv st =>
    o_goto (k_X6_tick_59 Qp X) σ lv st
def k_X6_time_0 (Qp : Option q_V → q_M → Prop) (X : Nat → q_K) (σ : q_M) (lv : q_L) (st : q_S) : Prop :=
    o_aload 0 σ lv st fun σ lv st =>
    o_get 24 0 σ lv st fun σ lv st =>
    o_ic 5 σ lv st fun σ lv st =>
    o_lald σ lv st fun σ lv st =>
    o_l2i σ lv st fun σ lv st =>
    o_iret Qp σ lv st
def k_X6_whole_0 (Qp : Option q_V → q_M → Prop) (X : Nat → q_K) (σ : q_M) (lv : q_L) (st : q_S) : Prop :=
    o_aload 0 σ lv st fun σ lv st =>
    o_get 24 0 σ lv st fun σ lv st =>
    o_iload 1 σ lv st fun σ lv st =>
    o_ic 1 σ lv st fun σ lv st =>
    o_callS 2 S_X6_axisAt σ lv st fun σ lv st =>
    o_lald σ lv st fun σ lv st =>
    o_lstore 2 σ lv st fun σ lv st =>
    o_ic 0 σ lv st fun σ lv st =>
    o_istore 4 σ lv st fun σ lv st =>
    X 14 σ lv st
def k_X6_whole_60 (Qp : Option q_V → q_M → Prop) (X : Nat → q_K) (σ : q_M) (lv : q_L) (st : q_S) : Prop :=
    o_lload 2 σ lv st fun σ lv st =>
    o_lret Qp σ lv st
def k_X6_whole_14 (Qp : Option q_V → q_M → Prop) (X : Nat → q_K) (σ : q_M) (lv : q_L) (st : q_S) : Prop :=
    o_iload 4 σ lv st fun σ lv st =>
    o_i2l σ lv st fun σ lv st =>
    o_aload 0 σ lv st fun σ lv st =>
    o_get 24 0 σ lv st fun σ lv st =>
    o_ic (6) σ lv st fun σ lv st =>
    o_lald σ lv st fun σ lv st =>
    o_lcmp σ lv st fun σ lv st =>
    o_ifge (k_X6_whole_60 Qp X) σ lv st fun σ lv st =>
    o_lload 2 σ lv st fun σ lv st =>
    o_aload 0 σ lv st fun σ lv st =>
    o_get 24 0 σ lv st fun σ lv st =>
    o_iload 4 σ lv st fun σ lv st =>
    o_iload 1 σ lv st fun σ lv st =>
    o_callS 2 S_X6_wheelAt σ lv st fun σ lv st =>
    o_lald σ lv st fun σ lv st =>
    o_aload 0 σ lv st fun σ lv st =>
    o_get 24 0 σ lv st fun σ lv st =>
    o_iload 4 σ lv st fun σ lv st =>
    o_ic 3 σ lv st fun σ lv st =>
    o_callS 2 S_X6_wheelAt σ lv st fun σ lv st =>
    o_lald σ lv st fun σ lv st =>
    o_lmul σ lv st fun σ lv st =>
    o_ladd σ lv st fun σ lv st =>
    o_lstore 2 σ lv st fun σ lv st =>
    o_iinc 4 1 σ lv st fun σ lv st =>
    o_goto (X 14) σ lv st
def k_X6_told_56 (Qp : Option q_V → q_M → Prop) (X : Nat → q_K) (σ : q_M) (lv : q_L) (st : q_S) : Prop :=
    o_aload 0 σ lv st fun σ lv st =>
    o_get 24 0 σ lv st fun σ lv st =>
    o_iload 1 σ lv st fun σ lv st =>
    o_ic 0 σ lv st fun σ lv st =>
    o_callS 2 S_X6_axisAt σ lv st fun σ lv st =>
    o_lald σ lv st fun σ lv st =>
    o_lret Qp σ lv st
def k_X6_told_67 (Qp : Option q_V → q_M → Prop) (X : Nat → q_K) (σ : q_M) (lv : q_L) (st : q_S) : Prop :=
    o_aload 0 σ lv st fun σ lv st =>
    o_get 24 0 σ lv st fun σ lv st =>
    o_iload 1 σ lv st fun σ lv st =>
    o_ic 1 σ lv st fun σ lv st =>
    o_callS 2 S_X6_axisAt σ lv st fun σ lv st =>
    o_lald σ lv st fun σ lv st =>
    o_lret Qp σ lv st
def k_X6_told_78 (Qp : Option q_V → q_M → Prop) (X : Nat → q_K) (σ : q_M) (lv : q_L) (st : q_S) : Prop :=
    o_aload 0 σ lv st fun σ lv st =>
    o_iload 1 σ lv st fun σ lv st =>
    o_callV 1 24 S_X6_rate σ lv st fun σ lv st =>
    o_lret Qp σ lv st
def k_X6_told_84 (Qp : Option q_V → q_M → Prop) (X : Nat → q_K) (σ : q_M) (lv : q_L) (st : q_S) : Prop :=
    o_aload 0 σ lv st fun σ lv st =>
    o_iload 1 σ lv st fun σ lv st =>
    o_callV 1 24 S_X6_whole σ lv st fun σ lv st =>
    o_lret Qp σ lv st
def k_X6_told_90 (Qp : Option q_V → q_M → Prop) (X : Nat → q_K) (σ : q_M) (lv : q_L) (st : q_S) : Prop :=
    o_aload 0 σ lv st fun σ lv st =>
    o_get 24 0 σ lv st fun σ lv st =>
    o_iload 1 σ lv st fun σ lv st =>
    o_ic (6) σ lv st fun σ lv st =>
    o_callS 2 S_X6_axisAt σ lv st fun σ lv st =>
    o_lald σ lv st fun σ lv st =>
    o_lret Qp σ lv st
def k_X6_told_114 (Qp : Option q_V → q_M → Prop) (X : Nat → q_K) (σ : q_M) (lv : q_L) (st : q_S) : Prop :=
    o_aload 0 σ lv st fun σ lv st =>
    o_get 24 0 σ lv st fun σ lv st =>
    o_iload 1 σ lv st fun σ lv st =>
    o_ic 2 σ lv st fun σ lv st =>
    o_iload 2 σ lv st fun σ lv st =>
    o_iadd σ lv st fun σ lv st =>
    o_ic 5 σ lv st fun σ lv st =>
    o_isub σ lv st fun σ lv st =>
    o_callS 2 S_X6_axisAt σ lv st fun σ lv st =>
    o_lald σ lv st fun σ lv st =>
    o_lret Qp σ lv st
def k_X6_told_102 (Qp : Option q_V → q_M → Prop) (X : Nat → q_K) (σ : q_M) (lv : q_L) (st : q_S) : Prop :=
    o_aload 0 σ lv st fun σ lv st =>
    o_get 24 0 σ lv st fun σ lv st =>
    o_iload 1 σ lv st fun σ lv st =>
    o_ic (7) σ lv st fun σ lv st =>
    o_callS 2 S_X6_axisAt σ lv st fun σ lv st =>
    o_lald σ lv st fun σ lv st =>
    o_lret Qp σ lv st
def k_X6_told_0 (Qp : Option q_V → q_M → Prop) (X : Nat → q_K) (σ : q_M) (lv : q_L) (st : q_S) : Prop :=
    o_iload 2 σ lv st fun σ lv st =>
    o_tsw 0 9 (k_X6_told_114 Qp X) [k_X6_told_56 Qp X, k_X6_told_67 Qp X, k_X6_told_78 Qp X, k_X6_told_84 Qp X, k_X6_told_90 Qp X, k_X6_told_114 Qp X, k_X6_told_114 Qp X, k_X6_told_114 Qp X, k_X6_told_114 Qp X, k_X6_told_102 Qp X] σ lv st
def k_X6_axis_29 (Qp : Option q_V → q_M → Prop) (X : Nat → q_K) (σ : q_M) (lv : q_L) (st : q_S) : Prop :=
    o_lret Qp σ lv st
def k_X6_axis_26 (Qp : Option q_V → q_M → Prop) (X : Nat → q_K) (σ : q_M) (lv : q_L) (st : q_S) : Prop :=
    o_lc (-4611686018427387905) σ lv st fun σ lv st =>
    k_X6_axis_29 Qp X σ lv st
def k_X6_axis_0 (Qp : Option q_V → q_M → Prop) (X : Nat → q_K) (σ : q_M) (lv : q_L) (st : q_S) : Prop :=
    o_iload 1 σ lv st fun σ lv st =>
    o_callS 1 S_X6_isAxis σ lv st fun σ lv st =>
    o_ifeq (k_X6_axis_26 Qp X) σ lv st fun σ lv st =>
    o_iload 2 σ lv st fun σ lv st =>
    o_ic 0 σ lv st fun σ lv st =>
    o_ic (9) σ lv st fun σ lv st =>
    o_callS 3 S_X6_in σ lv st fun σ lv st =>
    o_ifeq (k_X6_axis_26 Qp X) σ lv st fun σ lv st =>
    o_aload 0 σ lv st fun σ lv st =>
    o_iload 1 σ lv st fun σ lv st =>
    o_iload 2 σ lv st fun σ lv st =>
    o_callV 2 24 S_X6_told σ lv st fun σ lv st =>
    o_goto (k_X6_axis_29 Qp X) σ lv st
def k_X6_span_0 (Qp : Option q_V → q_M → Prop) (X : Nat → q_K) (σ : q_M) (lv : q_L) (st : q_S) : Prop :=
    o_aload 0 σ lv st fun σ lv st =>
    o_ic (-2000009) σ lv st fun σ lv st =>
    o_callV 1 24 S_X6_spans σ lv st fun σ lv st =>
    o_aload 0 σ lv st fun σ lv st =>
    o_get 24 6 σ lv st fun σ lv st =>
    o_lret Qp σ lv st
def k_X6_isTorque_0 (Qp : Option q_V → q_M → Prop) (X : Nat → q_K) (σ : q_M) (lv : q_L) (st : q_S) : Prop :=
    o_iload 0 σ lv st fun σ lv st =>
    o_ic (-100000) σ lv st fun σ lv st =>
    o_ic (100000) σ lv st fun σ lv st =>
    o_callS 3 S_X6_in σ lv st fun σ lv st =>
    o_zret Qp σ lv st
def k_X6_wish_38 (Qp : Option q_V → q_M → Prop) (X : Nat → q_K) (σ : q_M) (lv : q_L) (st : q_S) : Prop :=
    o_lc (-4611686018427387905) σ lv st fun σ lv st =>
    o_lret Qp σ lv st
def k_X6_wish_75 (Qp : Option q_V → q_M → Prop) (X : Nat → q_K) (σ : q_M) (lv : q_L) (st : q_S) : Prop :=
    o_lret Qp σ lv st
def k_X6_wish_63 (Qp : Option q_V → q_M → Prop) (X : Nat → q_K) (σ : q_M) (lv : q_L) (st : q_S) : Prop :=
    o_aload 0 σ lv st fun σ lv st =>
    o_iload 1 σ lv st fun σ lv st =>
    o_iload 2 σ lv st fun σ lv st =>
    o_i2l σ lv st fun σ lv st =>
    o_iload 3 σ lv st fun σ lv st =>
    o_i2l σ lv st fun σ lv st =>
    o_iload 4 σ lv st fun σ lv st =>
    o_i2l σ lv st fun σ lv st =>
    o_callV 4 24 S_X6_wishOf σ lv st fun σ lv st =>
    k_X6_wish_75 Qp X σ lv st
def k_X6_wish_42 (Qp : Option q_V → q_M → Prop) (X : Nat → q_K) (σ : q_M) (lv : q_L) (st : q_S) : Prop :=
    o_aload 0 σ lv st fun σ lv st =>
    o_ic (-2000009) σ lv st fun σ lv st =>
    o_callV 1 24 S_X6_spans σ lv st fun σ lv st =>
    o_aload 0 σ lv st fun σ lv st =>
    o_get 24 6 σ lv st fun σ lv st =>
    o_lc 0 σ lv st fun σ lv st =>
    o_lcmp σ lv st fun σ lv st =>
    o_ifne (k_X6_wish_63 Qp X) σ lv st fun σ lv st =>
    o_lc (-4611686018427387905) σ lv st fun σ lv st =>
    o_goto (k_X6_wish_75 Qp X) σ lv st
def k_X6_wish_0 (Qp : Option q_V → q_M → Prop) (X : Nat → q_K) (σ : q_M) (lv : q_L) (st : q_S) : Prop :=
    o_aload 0 σ lv st fun σ lv st =>
    o_iload 1 σ lv st fun σ lv st =>
    o_callV 1 24 S_X6_isWheel σ lv st fun σ lv st =>
    o_ifeq (k_X6_wish_38 Qp X) σ lv st fun σ lv st =>
    o_aload 0 σ lv st fun σ lv st =>
    o_iload 1 σ lv st fun σ lv st =>
    o_callV 1 24 S_X6_works σ lv st fun σ lv st =>
    o_ifeq (k_X6_wish_38 Qp X) σ lv st fun σ lv st =>
    o_iload 2 σ lv st fun σ lv st =>
    o_callS 1 S_X6_isTorque σ lv st fun σ lv st =>
    o_ifeq (k_X6_wish_38 Qp X) σ lv st fun σ lv st =>
    o_iload 3 σ lv st fun σ lv st =>
    o_callS 1 S_X6_isTorque σ lv st fun σ lv st =>
    o_ifeq (k_X6_wish_38 Qp X) σ lv st fun σ lv st =>
    o_iload 4 σ lv st fun σ lv st =>
    o_callS 1 S_X6_isTorque σ lv st fun σ lv st =>
    o_ifne (k_X6_wish_42 Qp X) σ lv st fun σ lv st =>
    k_X6_wish_38 Qp X σ lv st
def k_X6_why_29 (Qp : Option q_V → q_M → Prop) (X : Nat → q_K) (σ : q_M) (lv : q_L) (st : q_S) : Prop :=
    o_iret Qp σ lv st
def k_X6_why_19 (Qp : Option q_V → q_M → Prop) (X : Nat → q_K) (σ : q_M) (lv : q_L) (st : q_S) : Prop :=
    o_aload 0 σ lv st fun σ lv st =>
    o_get 24 0 σ lv st fun σ lv st =>
    o_ic (8) σ lv st fun σ lv st =>
    o_iload 1 σ lv st fun σ lv st =>
    o_iadd σ lv st fun σ lv st =>
    o_lald σ lv st fun σ lv st =>
    o_l2i σ lv st fun σ lv st =>
    k_X6_why_29 Qp X σ lv st
def k_X6_why_9 (Qp : Option q_V → q_M → Prop) (X : Nat → q_K) (σ : q_M) (lv : q_L) (st : q_S) : Prop :=
    o_iload 1 σ lv st fun σ lv st =>
    o_ic 2 σ lv st fun σ lv st =>
    o_icmple (k_X6_why_19 Qp X) σ lv st fun σ lv st =>
    o_ic (-2000009) σ lv st fun σ lv st =>
    o_goto (k_X6_why_29 Qp X) σ lv st
def k_X6_why_0 (Qp : Option q_V → q_M → Prop) (X : Nat → q_K) (σ : q_M) (lv : q_L) (st : q_S) : Prop :=
    o_iload 1 σ lv st fun σ lv st =>
    o_ifge (k_X6_why_9 Qp X) σ lv st fun σ lv st =>
    o_ic (-2000001) σ lv st fun σ lv st =>
    o_goto (k_X6_why_29 Qp X) σ lv st
def k_X6_fullness_0 (Qp : Option q_V → q_M → Prop) (X : Nat → q_K) (σ : q_M) (lv : q_L) (st : q_S) : Prop :=
    o_fc FP.fconst0 σ lv st fun σ lv st =>
    o_fstore 1 σ lv st fun σ lv st =>
    o_ic 0 σ lv st fun σ lv st =>
    o_istore 2 σ lv st fun σ lv st =>
    X 4 σ lv st
def k_X6_fullness_62 (Qp : Option q_V → q_M → Prop) (X : Nat → q_K) (σ : q_M) (lv : q_L) (st : q_S) : Prop :=
    o_fload 1 σ lv st fun σ lv st =>
    o_fret Qp σ lv st
def k_X6_fullness_55 (Qp : Option q_V → q_M → Prop) (X : Nat → q_K) (σ : q_M) (lv : q_L) (st : q_S) : Prop :=
    o_fstore 1 σ lv st fun σ lv st =>
    o_iinc 2 1 σ lv st fun σ lv st =>
    o_goto (X 4) σ lv st
def k_X6_fullness_54 (Qp : Option q_V → q_M → Prop) (X : Nat → q_K) (σ : q_M) (lv : q_L) (st : q_S) : Prop :=
    o_fload 1 σ lv st fun σ lv st =>
    k_X6_fullness_55 Qp X σ lv st
def k_X6_fullness_4 (Qp : Option q_V → q_M → Prop) (X : Nat → q_K) (σ : q_M) (lv : q_L) (st : q_S) : Prop :=
    o_iload 2 σ lv st fun σ lv st =>
    o_i2l σ lv st fun σ lv st =>
    o_aload 0 σ lv st fun σ lv st =>
    o_get 24 0 σ lv st fun σ lv st =>
    o_ic (6) σ lv st fun σ lv st =>
    o_lald σ lv st fun σ lv st =>
    o_lcmp σ lv st fun σ lv st =>
    o_ifge (k_X6_fullness_62 Qp X) σ lv st fun σ lv st =>
    o_aload 0 σ lv st fun σ lv st =>
    o_get 24 0 σ lv st fun σ lv st =>
    o_iload 2 σ lv st fun σ lv st =>
    o_ic 3 σ lv st fun σ lv st =>
    o_callS 2 S_X6_wheelAt σ lv st fun σ lv st =>
    o_lald σ lv st fun σ lv st =>
    o_callS 1 S_X6_size σ lv st fun σ lv st =>
    o_l2f σ lv st fun σ lv st =>
    o_aload 0 σ lv st fun σ lv st =>
    o_get 24 0 σ lv st fun σ lv st =>
    o_iload 2 σ lv st fun σ lv st =>
    o_ic 4 σ lv st fun σ lv st =>
    o_callS 2 S_X6_wheelAt σ lv st fun σ lv st =>
    o_lald σ lv st fun σ lv st =>
    o_l2f σ lv st fun σ lv st =>
    o_fdiv σ lv st fun σ lv st =>
    o_fstore 3 σ lv st fun σ lv st =>
    o_fload 3 σ lv st fun σ lv st =>
    o_fload 1 σ lv st fun σ lv st =>
    o_fcmpl σ lv st fun σ lv st =>
    o_ifle (k_X6_fullness_54 Qp X) σ lv st fun σ lv st =>
    o_fload 3 σ lv st fun σ lv st =>
    o_goto (k_X6_fullness_55 Qp X) σ lv st
def k_X6_isThere_0 (Qp : Option q_V → q_M → Prop) (X : Nat → q_K) (σ : q_M) (lv : q_L) (st : q_S) : Prop :=
    o_ic 1 σ lv st fun σ lv st =>
    o_istore 2 σ lv st fun σ lv st =>
    o_ic 0 σ lv st fun σ lv st =>
    o_istore 3 σ lv st fun σ lv st =>
    X 4 σ lv st
def k_X6_isThere_68 (Qp : Option q_V → q_M → Prop) (X : Nat → q_K) (σ : q_M) (lv : q_L) (st : q_S) : Prop :=
    o_iload 2 σ lv st fun σ lv st =>
    o_zret Qp σ lv st
def k_X6_isThere_61 (Qp : Option q_V → q_M → Prop) (X : Nat → q_K) (σ : q_M) (lv : q_L) (st : q_S) : Prop :=
    o_istore 2 σ lv st fun σ lv st =>
    o_iinc 3 1 σ lv st fun σ lv st =>
    o_goto (X 4) σ lv st
def k_X6_isThere_60 (Qp : Option q_V → q_M → Prop) (X : Nat → q_K) (σ : q_M) (lv : q_L) (st : q_S) : Prop :=
    o_ic 0 σ lv st fun σ lv st =>
    k_X6_isThere_61 Qp X σ lv st
def k_X6_isThere_4 (Qp : Option q_V → q_M → Prop) (X : Nat → q_K) (σ : q_M) (lv : q_L) (st : q_S) : Prop :=
    o_iload 3 σ lv st fun σ lv st =>
    o_ic 3 σ lv st fun σ lv st =>
    o_icmpge (k_X6_isThere_68 Qp X) σ lv st fun σ lv st =>
    o_iload 2 σ lv st fun σ lv st =>
    o_ifeq (k_X6_isThere_60 Qp X) σ lv st fun σ lv st =>
    o_aload 0 σ lv st fun σ lv st =>
    o_get 24 0 σ lv st fun σ lv st =>
    o_iload 3 σ lv st fun σ lv st =>
    o_ic 0 σ lv st fun σ lv st =>
    o_callS 2 S_X6_axisAt σ lv st fun σ lv st =>
    o_lald σ lv st fun σ lv st =>
    o_aload 0 σ lv st fun σ lv st =>
    o_get 24 0 σ lv st fun σ lv st =>
    o_iload 3 σ lv st fun σ lv st =>
    o_ic 3 σ lv st fun σ lv st =>
    o_callS 2 S_X6_axisAt σ lv st fun σ lv st =>
    o_lald σ lv st fun σ lv st =>
    o_lsub σ lv st fun σ lv st =>
    o_callS 1 S_X6_size σ lv st fun σ lv st =>
    o_iload 1 σ lv st fun σ lv st =>
    o_i2l σ lv st fun σ lv st =>
    o_lcmp σ lv st fun σ lv st =>
    o_ifgt (k_X6_isThere_60 Qp X) σ lv st fun σ lv st =>
    o_aload 0 σ lv st fun σ lv st =>
    o_iload 3 σ lv st fun σ lv st =>
    o_callV 1 24 S_X6_rate σ lv st fun σ lv st =>
    o_callS 1 S_X6_size σ lv st fun σ lv st =>
    o_lc 1 σ lv st fun σ lv st =>
    o_lcmp σ lv st fun σ lv st =>
    o_ifgt (k_X6_isThere_60 Qp X) σ lv st fun σ lv st =>
    o_ic 1 σ lv st fun σ lv st =>
    o_goto (k_X6_isThere_61 Qp X) σ lv st
def k_X6_arrives_13 (Qp : Option q_V → q_M → Prop) (X : Nat → q_K) (σ : q_M) (lv : q_L) (st : q_S) : Prop :=
    o_aload 0 σ lv st fun σ lv st =>
    o_get 24 0 σ lv st fun σ lv st =>
    o_aload 0 σ lv st fun σ lv st =>
    o_get 24 1 σ lv st fun σ lv st =>
    o_callS 2 S_X6_copies σ lv st fun σ lv st =>
    o_ic (-2000009) σ lv st fun σ lv st =>
    o_istore 2 σ lv st fun σ lv st =>
    o_ic 0 σ lv st fun σ lv st =>
    o_istore 3 σ lv st fun σ lv st =>
    X 29 σ lv st
def k_X6_arrives_0 (Qp : Option q_V → q_M → Prop) (X : Nat → q_K) (σ : q_M) (lv : q_L) (st : q_S) : Prop :=
    o_iload 1 σ lv st fun σ lv st =>
    o_ic 0 σ lv st fun σ lv st =>
    o_ic (1000000) σ lv st fun σ lv st =>
    o_callS 3 S_X6_in σ lv st fun σ lv st =>
    o_ifne (k_X6_arrives_13 Qp X) σ lv st fun σ lv st =>
    o_ic (-2000001) σ lv st fun σ lv st =>
    o_iret Qp σ lv st
def k_X6_arrives_66 (Qp : Option q_V → q_M → Prop) (X : Nat → q_K) (σ : q_M) (lv : q_L) (st : q_S) : Prop :=
    o_aload 0 σ lv st fun σ lv st =>
    o_get 24 1 σ lv st fun σ lv st =>
    o_aload 0 σ lv st fun σ lv st =>
    o_get 24 0 σ lv st fun σ lv st =>
    o_callS 2 S_X6_copies σ lv st fun σ lv st =>
    o_iload 2 σ lv st fun σ lv st =>
    o_iret Qp σ lv st
def k_X6_arrives_53 (Qp : Option q_V → q_M → Prop) (X : Nat → q_K) (σ : q_M) (lv : q_L) (st : q_S) : Prop :=
    o_istore 2 σ lv st fun σ lv st =>
    o_aload 0 σ lv st fun σ lv st =>
    o_callV 0 24 S_X6_passes σ lv st fun σ lv st =>
    o_istore 4 σ lv st fun σ lv st =>
    o_iinc 3 1 σ lv st fun σ lv st =>
    o_goto (X 29) σ lv st
def k_X6_arrives_52 (Qp : Option q_V → q_M → Prop) (X : Nat → q_K) (σ : q_M) (lv : q_L) (st : q_S) : Prop :=
    o_iload 2 σ lv st fun σ lv st =>
    k_X6_arrives_53 Qp X σ lv st
def k_X6_arrives_29 (Qp : Option q_V → q_M → Prop) (X : Nat → q_K) (σ : q_M) (lv : q_L) (st : q_S) : Prop :=
    o_iload 3 σ lv st fun σ lv st =>
    o_ic (500) σ lv st fun σ lv st =>
    o_icmpgt (k_X6_arrives_66 Qp X) σ lv st fun σ lv st =>
    o_iload 2 σ lv st fun σ lv st =>
    o_ifge (k_X6_arrives_66 Qp X) σ lv st fun σ lv st =>
    o_aload 0 σ lv st fun σ lv st =>
    o_iload 1 σ lv st fun σ lv st =>
    o_callV 1 24 S_X6_isThere σ lv st fun σ lv st =>
    o_ifeq (k_X6_arrives_52 Qp X) σ lv st fun σ lv st =>
    o_iload 3 σ lv st fun σ lv st =>
    o_goto (k_X6_arrives_53 Qp X) σ lv st
def k_X6_spare_0 (Qp : Option q_V → q_M → Prop) (X : Nat → q_K) (σ : q_M) (lv : q_L) (st : q_S) : Prop :=
    o_ic 0 σ lv st fun σ lv st =>
    o_istore 1 σ lv st fun σ lv st =>
    o_ic 0 σ lv st fun σ lv st =>
    o_istore 2 σ lv st fun σ lv st =>
    X 4 σ lv st
def k_X6_spare_55 (Qp : Option q_V → q_M → Prop) (X : Nat → q_K) (σ : q_M) (lv : q_L) (st : q_S) : Prop :=
    o_iload 1 σ lv st fun σ lv st =>
    o_iret Qp σ lv st
def k_X6_spare_47 (Qp : Option q_V → q_M → Prop) (X : Nat → q_K) (σ : q_M) (lv : q_L) (st : q_S) : Prop :=
    o_ior σ lv st fun σ lv st =>
    o_istore 1 σ lv st fun σ lv st =>
    o_iinc 2 1 σ lv st fun σ lv st =>
    o_goto (X 4) σ lv st
def k_X6_spare_46 (Qp : Option q_V → q_M → Prop) (X : Nat → q_K) (σ : q_M) (lv : q_L) (st : q_S) : Prop :=
    o_ic 0 σ lv st fun σ lv st =>
    k_X6_spare_47 Qp X σ lv st
def k_X6_spare_4 (Qp : Option q_V → q_M → Prop) (X : Nat → q_K) (σ : q_M) (lv : q_L) (st : q_S) : Prop :=
    o_iload 2 σ lv st fun σ lv st =>
    o_i2l σ lv st fun σ lv st =>
    o_aload 0 σ lv st fun σ lv st =>
    o_get 24 0 σ lv st fun σ lv st =>
    o_ic (6) σ lv st fun σ lv st =>
    o_lald σ lv st fun σ lv st =>
    o_lcmp σ lv st fun σ lv st =>
    o_ifge (k_X6_spare_55 Qp X) σ lv st fun σ lv st =>
    o_aload 0 σ lv st fun σ lv st =>
    o_iload 2 σ lv st fun σ lv st =>
    o_callV 1 24 S_X6_spans σ lv st fun σ lv st =>
    o_iload 1 σ lv st fun σ lv st =>
    o_aload 0 σ lv st fun σ lv st =>
    o_iload 2 σ lv st fun σ lv st =>
    o_callV 1 24 S_X6_works σ lv st fun σ lv st =>
    o_ifeq (k_X6_spare_46 Qp X) σ lv st fun σ lv st =>
    o_aload 0 σ lv st fun σ lv st =>
    o_get 24 6 σ lv st fun σ lv st =>
    o_lc 0 σ lv st fun σ lv st =>
    o_lcmp σ lv st fun σ lv st =>
    o_ifeq (k_X6_spare_46 Qp X) σ lv st fun σ lv st =>
    o_ic 1 σ lv st fun σ lv st =>
    o_iload 2 σ lv st fun σ lv st =>
    o_ishl σ lv st fun σ lv st =>
    o_goto (k_X6_spare_47 Qp X) σ lv st
def k_X6_gravest_13 (Qp : Option q_V → q_M → Prop) (X : Nat → q_K) (σ : q_M) (lv : q_L) (st : q_S) : Prop :=
    o_aload 0 σ lv st fun σ lv st =>
    o_get 24 0 σ lv st fun σ lv st =>
    o_aload 0 σ lv st fun σ lv st =>
    o_get 24 1 σ lv st fun σ lv st =>
    o_callS 2 S_X6_copies σ lv st fun σ lv st =>
    o_ic (-2000009) σ lv st fun σ lv st =>
    o_istore 2 σ lv st fun σ lv st =>
    o_lc (-1) σ lv st fun σ lv st =>
    o_lstore 3 σ lv st fun σ lv st =>
    o_ic 0 σ lv st fun σ lv st =>
    o_istore 5 σ lv st fun σ lv st =>
    X 34 σ lv st
def k_X6_gravest_0 (Qp : Option q_V → q_M → Prop) (X : Nat → q_K) (σ : q_M) (lv : q_L) (st : q_S) : Prop :=
    o_iload 1 σ lv st fun σ lv st =>
    o_ic 1 σ lv st fun σ lv st =>
    o_ic (100) σ lv st fun σ lv st =>
    o_callS 3 S_X6_in σ lv st fun σ lv st =>
    o_ifne (k_X6_gravest_13 Qp X) σ lv st fun σ lv st =>
    o_ic (-2000001) σ lv st fun σ lv st =>
    o_iret Qp σ lv st
def k_X6_gravest_185 (Qp : Option q_V → q_M → Prop) (X : Nat → q_K) (σ : q_M) (lv : q_L) (st : q_S) : Prop :=
    o_iload 2 σ lv st fun σ lv st =>
    o_iret Qp σ lv st
def k_X6_gravest_179 (Qp : Option q_V → q_M → Prop) (X : Nat → q_K) (σ : q_M) (lv : q_L) (st : q_S) : Prop :=
    o_iinc 5 1 σ lv st fun σ lv st =>
    o_goto (X 34) σ lv st
def k_X6_gravest_34 (Qp : Option q_V → q_M → Prop) (X : Nat → q_K) (σ : q_M) (lv : q_L) (st : q_S) : Prop :=
    o_iload 5 σ lv st fun σ lv st =>
    o_i2l σ lv st fun σ lv st =>
    o_aload 0 σ lv st fun σ lv st =>
    o_get 24 1 σ lv st fun σ lv st =>
    o_ic (6) σ lv st fun σ lv st =>
    o_lald σ lv st fun σ lv st =>
    o_lcmp σ lv st fun σ lv st =>
    o_ifge (k_X6_gravest_185 Qp X) σ lv st fun σ lv st =>
    o_aload 0 σ lv st fun σ lv st =>
    o_iload 5 σ lv st fun σ lv st =>
    o_callV 1 24 S_X6_works σ lv st fun σ lv st =>
    o_ifeq (k_X6_gravest_179 Qp X) σ lv st fun σ lv st =>
    o_aload 0 σ lv st fun σ lv st =>
    o_get 24 0 σ lv st fun σ lv st =>
    o_iload 5 σ lv st fun σ lv st =>
    o_ic (6) σ lv st fun σ lv st =>
    o_callS 2 S_X6_wheelAt σ lv st fun σ lv st =>
    o_lc 1 σ lv st fun σ lv st =>
    o_last σ lv st fun σ lv st =>
    o_ic 0 σ lv st fun σ lv st =>
    o_istore 6 σ lv st fun σ lv st =>
    X 73 σ lv st
def k_X6_gravest_91 (Qp : Option q_V → q_M → Prop) (X : Nat → q_K) (σ : q_M) (lv : q_L) (st : q_S) : Prop :=
    o_lc 0 σ lv st fun σ lv st =>
    o_lstore 6 σ lv st fun σ lv st =>
    o_ic 0 σ lv st fun σ lv st =>
    o_istore 8 σ lv st fun σ lv st =>
    X 97 σ lv st
def k_X6_gravest_73 (Qp : Option q_V → q_M → Prop) (X : Nat → q_K) (σ : q_M) (lv : q_L) (st : q_S) : Prop :=
    o_iload 6 σ lv st fun σ lv st =>
    o_iload 1 σ lv st fun σ lv st =>
    o_icmpge (k_X6_gravest_91 Qp X) σ lv st fun σ lv st =>
    o_aload 0 σ lv st fun σ lv st =>
    o_callV 0 24 S_X6_passes σ lv st fun σ lv st =>
    o_istore 7 σ lv st fun σ lv st =>
    o_iinc 6 1 σ lv st fun σ lv st =>
    o_goto (X 73) σ lv st
def k_X6_gravest_167 (Qp : Option q_V → q_M → Prop) (X : Nat → q_K) (σ : q_M) (lv : q_L) (st : q_S) : Prop :=
    o_lstore 3 σ lv st fun σ lv st =>
    o_aload 0 σ lv st fun σ lv st =>
    o_get 24 1 σ lv st fun σ lv st =>
    o_aload 0 σ lv st fun σ lv st =>
    o_get 24 0 σ lv st fun σ lv st =>
    o_callS 2 S_X6_copies σ lv st fun σ lv st =>
    k_X6_gravest_179 Qp X σ lv st
def k_X6_gravest_166 (Qp : Option q_V → q_M → Prop) (X : Nat → q_K) (σ : q_M) (lv : q_L) (st : q_S) : Prop :=
    o_lload 3 σ lv st fun σ lv st =>
    k_X6_gravest_167 Qp X σ lv st
def k_X6_gravest_153 (Qp : Option q_V → q_M → Prop) (X : Nat → q_K) (σ : q_M) (lv : q_L) (st : q_S) : Prop :=
    o_istore 2 σ lv st fun σ lv st =>
    o_lload 6 σ lv st fun σ lv st =>
    o_lload 3 σ lv st fun σ lv st =>
    o_lcmp σ lv st fun σ lv st =>
    o_ifle (k_X6_gravest_166 Qp X) σ lv st fun σ lv st =>
    o_lload 6 σ lv st fun σ lv st =>
    o_goto (k_X6_gravest_167 Qp X) σ lv st
def k_X6_gravest_152 (Qp : Option q_V → q_M → Prop) (X : Nat → q_K) (σ : q_M) (lv : q_L) (st : q_S) : Prop :=
    o_iload 2 σ lv st fun σ lv st =>
    k_X6_gravest_153 Qp X σ lv st
def k_X6_gravest_140 (Qp : Option q_V → q_M → Prop) (X : Nat → q_K) (σ : q_M) (lv : q_L) (st : q_S) : Prop :=
    o_lload 6 σ lv st fun σ lv st =>
    o_lload 3 σ lv st fun σ lv st =>
    o_lcmp σ lv st fun σ lv st =>
    o_ifle (k_X6_gravest_152 Qp X) σ lv st fun σ lv st =>
    o_iload 5 σ lv st fun σ lv st =>
    o_goto (k_X6_gravest_153 Qp X) σ lv st
def k_X6_gravest_97 (Qp : Option q_V → q_M → Prop) (X : Nat → q_K) (σ : q_M) (lv : q_L) (st : q_S) : Prop :=
    o_iload 8 σ lv st fun σ lv st =>
    o_ic 3 σ lv st fun σ lv st =>
    o_icmpge (k_X6_gravest_140 Qp X) σ lv st fun σ lv st =>
    o_lload 6 σ lv st fun σ lv st =>
    o_aload 0 σ lv st fun σ lv st =>
    o_get 24 0 σ lv st fun σ lv st =>
    o_iload 8 σ lv st fun σ lv st =>
    o_ic 3 σ lv st fun σ lv st =>
    o_callS 2 S_X6_axisAt σ lv st fun σ lv st =>
    o_lald σ lv st fun σ lv st =>
    o_aload 0 σ lv st fun σ lv st =>
    o_get 24 0 σ lv st fun σ lv st =>
    o_iload 8 σ lv st fun σ lv st =>
    o_ic 0 σ lv st fun σ lv st =>
    o_callS 2 S_X6_axisAt σ lv st fun σ lv st =>
    o_lald σ lv st fun σ lv st =>
    o_lsub σ lv st fun σ lv st =>
    o_callS 1 S_X6_size σ lv st fun σ lv st =>
    o_ladd σ lv st fun σ lv st =>
    o_lstore 6 σ lv st fun σ lv st =>
    o_iinc 8 1 σ lv st fun σ lv st =>
    o_goto (X 97) σ lv st
def k_X6_undo_10 (Qp : Option q_V → q_M → Prop) (X : Nat → q_K) (σ : q_M) (lv : q_L) (st : q_S) : Prop :=
    o_aload 0 σ lv st fun σ lv st =>
    o_dup σ lv st fun σ lv st =>
    o_get 24 3 σ lv st fun σ lv st =>
    o_ic 1 σ lv st fun σ lv st =>
    o_isub σ lv st fun σ lv st =>
    o_puti 24 0 σ lv st fun σ lv st =>
    o_ic 0 σ lv st fun σ lv st =>
    o_istore 1 σ lv st fun σ lv st =>
    X 22 σ lv st
def k_X6_undo_0 (Qp : Option q_V → q_M → Prop) (X : Nat → q_K) (σ : q_M) (lv : q_L) (st : q_S) : Prop :=
    o_aload 0 σ lv st fun σ lv st =>
    o_get 24 3 σ lv st fun σ lv st =>
    o_ifne (k_X6_undo_10 Qp X) σ lv st fun σ lv st =>
    o_ic (-2000009) σ lv st fun σ lv st =>
    o_iret Qp σ lv st
def k_X6_undo_54 (Qp : Option q_V → q_M → Prop) (X : Nat → q_K) (σ : q_M) (lv : q_L) (st : q_S) : Prop :=
    o_aload 0 σ lv st fun σ lv st =>
    o_get 24 3 σ lv st fun σ lv st =>
    o_iret Qp σ lv st
def k_X6_undo_22 (Qp : Option q_V → q_M → Prop) (X : Nat → q_K) (σ : q_M) (lv : q_L) (st : q_S) : Prop :=
    o_iload 1 σ lv st fun σ lv st =>
    o_ic (100) σ lv st fun σ lv st =>
    o_icmpge (k_X6_undo_54 Qp X) σ lv st fun σ lv st =>
    o_aload 0 σ lv st fun σ lv st =>
    o_get 24 0 σ lv st fun σ lv st =>
    o_iload 1 σ lv st fun σ lv st =>
    o_aload 0 σ lv st fun σ lv st =>
    o_get 24 2 σ lv st fun σ lv st =>
    o_ic (100) σ lv st fun σ lv st =>
    o_aload 0 σ lv st fun σ lv st =>
    o_get 24 3 σ lv st fun σ lv st =>
    o_imul σ lv st fun σ lv st =>
    o_iload 1 σ lv st fun σ lv st =>
    o_iadd σ lv st fun σ lv st =>
    o_lald σ lv st fun σ lv st =>
    o_last σ lv st fun σ lv st =>
    o_iinc 1 1 σ lv st fun σ lv st =>
    o_goto (X 22) σ lv st
def k_X6_fingerprint_0 (Qp : Option q_V → q_M → Prop) (X : Nat → q_K) (σ : q_M) (lv : q_L) (st : q_S) : Prop :=
    o_lc (5363) σ lv st fun σ lv st =>
    o_aload 0 σ lv st fun σ lv st =>
    o_get 24 0 σ lv st fun σ lv st =>
    o_ic 5 σ lv st fun σ lv st =>
    o_lald σ lv st fun σ lv st =>
    o_ladd σ lv st fun σ lv st =>
    o_lstore 1 σ lv st fun σ lv st =>
    o_ic 0 σ lv st fun σ lv st =>
    o_istore 3 σ lv st fun σ lv st =>
    X 13 σ lv st
def k_X6_fingerprint_37 (Qp : Option q_V → q_M → Prop) (X : Nat → q_K) (σ : q_M) (lv : q_L) (st : q_S) : Prop :=
    o_ic 0 σ lv st fun σ lv st =>
    o_istore 3 σ lv st fun σ lv st =>
    X 39 σ lv st
def k_X6_fingerprint_13 (Qp : Option q_V → q_M → Prop) (X : Nat → q_K) (σ : q_M) (lv : q_L) (st : q_S) : Prop :=
    o_iload 3 σ lv st fun σ lv st =>
    o_ic 5 σ lv st fun σ lv st =>
    o_icmpge (k_X6_fingerprint_37 Qp X) σ lv st fun σ lv st =>
    o_lc (31) σ lv st fun σ lv st =>
    o_lload 1 σ lv st fun σ lv st =>
    o_lmul σ lv st fun σ lv st =>
    o_aload 0 σ lv st fun σ lv st =>
    o_get 24 0 σ lv st fun σ lv st =>
    o_iload 3 σ lv st fun σ lv st =>
    o_lald σ lv st fun σ lv st =>
    o_ladd σ lv st fun σ lv st =>
    o_lstore 1 σ lv st fun σ lv st =>
    o_iinc 3 1 σ lv st fun σ lv st =>
    o_goto (X 13) σ lv st
def k_X6_fingerprint_80 (Qp : Option q_V → q_M → Prop) (X : Nat → q_K) (σ : q_M) (lv : q_L) (st : q_S) : Prop :=
    o_lc (31) σ lv st fun σ lv st =>
    o_lload 1 σ lv st fun σ lv st =>
    o_lmul σ lv st fun σ lv st =>
    o_aload 0 σ lv st fun σ lv st =>
    o_get 24 0 σ lv st fun σ lv st =>
    o_ic (6) σ lv st fun σ lv st =>
    o_lald σ lv st fun σ lv st =>
    o_ladd σ lv st fun σ lv st =>
    o_lstore 1 σ lv st fun σ lv st =>
    o_ic 0 σ lv st fun σ lv st =>
    o_istore 3 σ lv st fun σ lv st =>
    X 96 σ lv st
def k_X6_fingerprint_39 (Qp : Option q_V → q_M → Prop) (X : Nat → q_K) (σ : q_M) (lv : q_L) (st : q_S) : Prop :=
    o_iload 3 σ lv st fun σ lv st =>
    o_ic 3 σ lv st fun σ lv st =>
    o_icmpge (k_X6_fingerprint_80 Qp X) σ lv st fun σ lv st =>
    o_ic 0 σ lv st fun σ lv st =>
    o_istore 4 σ lv st fun σ lv st =>
    X 47 σ lv st
def k_X6_fingerprint_74 (Qp : Option q_V → q_M → Prop) (X : Nat → q_K) (σ : q_M) (lv : q_L) (st : q_S) : Prop :=
    o_iinc 3 1 σ lv st fun σ lv st =>
    o_goto (X 39) σ lv st
def k_X6_fingerprint_47 (Qp : Option q_V → q_M → Prop) (X : Nat → q_K) (σ : q_M) (lv : q_L) (st : q_S) : Prop :=
    o_iload 4 σ lv st fun σ lv st =>
    o_ic (10) σ lv st fun σ lv st =>
    o_icmpge (k_X6_fingerprint_74 Qp X) σ lv st fun σ lv st =>
    o_lc (31) σ lv st fun σ lv st =>
    o_lload 1 σ lv st fun σ lv st =>
    o_lmul σ lv st fun σ lv st =>
    o_aload 0 σ lv st fun σ lv st =>
    o_iload 3 σ lv st fun σ lv st =>
    o_iload 4 σ lv st fun σ lv st =>
    o_callV 2 24 S_X6_told σ lv st fun σ lv st =>
    o_ladd σ lv st fun σ lv st =>
    o_lstore 1 σ lv st fun σ lv st =>
    o_iinc 4 1 σ lv st fun σ lv st =>
    o_goto (X 47) σ lv st
def k_X6_fingerprint_149 (Qp : Option q_V → q_M → Prop) (X : Nat → q_K) (σ : q_M) (lv : q_L) (st : q_S) : Prop :=
    o_aload 0 σ lv st fun σ lv st =>
    o_ic (-2000009) σ lv st fun σ lv st =>
    o_callV 1 24 S_X6_spans σ lv st fun σ lv st =>
    o_lc (31) σ lv st fun σ lv st =>
    o_lload 1 σ lv st fun σ lv st =>
    o_lmul σ lv st fun σ lv st =>
    o_aload 0 σ lv st fun σ lv st =>
    o_get 24 6 σ lv st fun σ lv st =>
    o_ladd σ lv st fun σ lv st =>
    o_lstore 1 σ lv st fun σ lv st =>
    o_ic 0 σ lv st fun σ lv st =>
    o_istore 3 σ lv st fun σ lv st =>
    X 168 σ lv st
def k_X6_fingerprint_96 (Qp : Option q_V → q_M → Prop) (X : Nat → q_K) (σ : q_M) (lv : q_L) (st : q_S) : Prop :=
    o_iload 3 σ lv st fun σ lv st =>
    o_i2l σ lv st fun σ lv st =>
    o_aload 0 σ lv st fun σ lv st =>
    o_get 24 0 σ lv st fun σ lv st =>
    o_ic (6) σ lv st fun σ lv st =>
    o_lald σ lv st fun σ lv st =>
    o_lcmp σ lv st fun σ lv st =>
    o_ifge (k_X6_fingerprint_149 Qp X) σ lv st fun σ lv st =>
    o_ic 0 σ lv st fun σ lv st =>
    o_istore 4 σ lv st fun σ lv st =>
    X 112 σ lv st
def k_X6_fingerprint_143 (Qp : Option q_V → q_M → Prop) (X : Nat → q_K) (σ : q_M) (lv : q_L) (st : q_S) : Prop :=
    o_iinc 3 1 σ lv st fun σ lv st =>
    o_goto (X 96) σ lv st
def k_X6_fingerprint_112 (Qp : Option q_V → q_M → Prop) (X : Nat → q_K) (σ : q_M) (lv : q_L) (st : q_S) : Prop :=
    o_iload 4 σ lv st fun σ lv st =>
    o_ic (8) σ lv st fun σ lv st =>
    o_icmpge (k_X6_fingerprint_143 Qp X) σ lv st fun σ lv st =>
    o_lc (31) σ lv st fun σ lv st =>
    o_lload 1 σ lv st fun σ lv st =>
    o_lmul σ lv st fun σ lv st =>
    o_aload 0 σ lv st fun σ lv st =>
    o_get 24 0 σ lv st fun σ lv st =>
    o_iload 3 σ lv st fun σ lv st =>
    o_iload 4 σ lv st fun σ lv st =>
    o_callS 2 S_X6_wheelAt σ lv st fun σ lv st =>
    o_lald σ lv st fun σ lv st =>
    o_ladd σ lv st fun σ lv st =>
    o_lstore 1 σ lv st fun σ lv st =>
    o_iinc 4 1 σ lv st fun σ lv st =>
    o_goto (X 112) σ lv st
def k_X6_fingerprint_215 (Qp : Option q_V → q_M → Prop) (X : Nat → q_K) (σ : q_M) (lv : q_L) (st : q_S) : Prop :=
    o_lload 1 σ lv st fun σ lv st =>
    o_lret Qp σ lv st
def k_X6_fingerprint_208 (Qp : Option q_V → q_M → Prop) (X : Nat → q_K) (σ : q_M) (lv : q_L) (st : q_S) : Prop :=
    o_lstore 1 σ lv st fun σ lv st =>
    o_iinc 3 1 σ lv st fun σ lv st =>
    o_goto (X 168) σ lv st
def k_X6_fingerprint_193 (Qp : Option q_V → q_M → Prop) (X : Nat → q_K) (σ : q_M) (lv : q_L) (st : q_S) : Prop :=
    o_lc (31) σ lv st fun σ lv st =>
    o_lload 1 σ lv st fun σ lv st =>
    o_lmul σ lv st fun σ lv st =>
    o_aload 0 σ lv st fun σ lv st =>
    o_get 24 0 σ lv st fun σ lv st =>
    o_ic (8) σ lv st fun σ lv st =>
    o_iload 3 σ lv st fun σ lv st =>
    o_iadd σ lv st fun σ lv st =>
    o_lald σ lv st fun σ lv st =>
    o_ladd σ lv st fun σ lv st =>
    k_X6_fingerprint_208 Qp X σ lv st
def k_X6_fingerprint_168 (Qp : Option q_V → q_M → Prop) (X : Nat → q_K) (σ : q_M) (lv : q_L) (st : q_S) : Prop :=
    o_iload 3 σ lv st fun σ lv st =>
    o_ic 3 σ lv st fun σ lv st =>
    o_icmpge (k_X6_fingerprint_215 Qp X) σ lv st fun σ lv st =>
    o_aload 0 σ lv st fun σ lv st =>
    o_get 24 0 σ lv st fun σ lv st =>
    o_ic (8) σ lv st fun σ lv st =>
    o_iload 3 σ lv st fun σ lv st =>
    o_iadd σ lv st fun σ lv st =>
    o_lald σ lv st fun σ lv st =>
    o_lc (-2000009) σ lv st fun σ lv st =>
    o_lcmp σ lv st fun σ lv st =>
    o_ifne (k_X6_fingerprint_193 Qp X) σ lv st fun σ lv st =>
    o_lload 1 σ lv st fun σ lv st =>
    o_goto (k_X6_fingerprint_208 Qp X) σ lv st
