/-! ===== the methods' blocks ===== -/
def k_X5_isWithin_15 (Qp : Option q_V → q_M → Prop) (X : Nat → q_K) (σ : q_M) (lv : q_L) (st : q_S) : Prop :=
    o_zret Qp σ lv st
def k_X5_isWithin_14 (Qp : Option q_V → q_M → Prop) (X : Nat → q_K) (σ : q_M) (lv : q_L) (st : q_S) : Prop :=
    o_ic 0 σ lv st fun σ lv st =>
    k_X5_isWithin_15 Qp X σ lv st
def k_X5_isWithin_0 (Qp : Option q_V → q_M → Prop) (X : Nat → q_K) (σ : q_M) (lv : q_L) (st : q_S) : Prop :=
    o_iload 0 σ lv st fun σ lv st =>
    o_iload 1 σ lv st fun σ lv st =>
    o_icmplt (k_X5_isWithin_14 Qp X) σ lv st fun σ lv st =>
    o_iload 0 σ lv st fun σ lv st =>
    o_iload 2 σ lv st fun σ lv st =>
    o_icmpgt (k_X5_isWithin_14 Qp X) σ lv st fun σ lv st =>
    o_ic 1 σ lv st fun σ lv st =>
    o_goto (k_X5_isWithin_15 Qp X) σ lv st
def k_X5_isDirection_50 (Qp : Option q_V → q_M → Prop) (X : Nat → q_K) (σ : q_M) (lv : q_L) (st : q_S) : Prop :=
    o_zret Qp σ lv st
def k_X5_isDirection_49 (Qp : Option q_V → q_M → Prop) (X : Nat → q_K) (σ : q_M) (lv : q_L) (st : q_S) : Prop :=
    o_ic 0 σ lv st fun σ lv st =>
    k_X5_isDirection_50 Qp X σ lv st
def k_X5_isDirection_45 (Qp : Option q_V → q_M → Prop) (X : Nat → q_K) (σ : q_M) (lv : q_L) (st : q_S) : Prop :=
    o_ic 1 σ lv st fun σ lv st =>
    o_goto (k_X5_isDirection_50 Qp X) σ lv st
def k_X5_isDirection_0 (Qp : Option q_V → q_M → Prop) (X : Nat → q_K) (σ : q_M) (lv : q_L) (st : q_S) : Prop :=
    o_iload 0 σ lv st fun σ lv st =>
    o_ic (-9) σ lv st fun σ lv st =>
    o_ic (9) σ lv st fun σ lv st =>
    o_callS 3 S_X5_isWithin σ lv st fun σ lv st =>
    o_ifeq (k_X5_isDirection_49 Qp X) σ lv st fun σ lv st =>
    o_iload 1 σ lv st fun σ lv st =>
    o_ic (-9) σ lv st fun σ lv st =>
    o_ic (9) σ lv st fun σ lv st =>
    o_callS 3 S_X5_isWithin σ lv st fun σ lv st =>
    o_ifeq (k_X5_isDirection_49 Qp X) σ lv st fun σ lv st =>
    o_iload 2 σ lv st fun σ lv st =>
    o_ic (-9) σ lv st fun σ lv st =>
    o_ic (9) σ lv st fun σ lv st =>
    o_callS 3 S_X5_isWithin σ lv st fun σ lv st =>
    o_ifeq (k_X5_isDirection_49 Qp X) σ lv st fun σ lv st =>
    o_iload 0 σ lv st fun σ lv st =>
    o_ifne (k_X5_isDirection_45 Qp X) σ lv st fun σ lv st =>
    o_iload 1 σ lv st fun σ lv st =>
    o_ifne (k_X5_isDirection_45 Qp X) σ lv st fun σ lv st =>
    o_iload 2 σ lv st fun σ lv st =>
    o_ifeq (k_X5_isDirection_49 Qp X) σ lv st fun σ lv st =>
    k_X5_isDirection_45 Qp X σ lv st
def k_X1_dropOldest_0 (Qp : Option q_V → q_M → Prop) (X : Nat → q_K) (σ : q_M) (lv : q_L) (st : q_S) : Prop :=
    o_aload 0 σ lv st fun σ lv st =>
    o_get 21 0 σ lv st fun σ lv st =>
    o_ic 0 σ lv st fun σ lv st =>
    o_aald σ lv st fun σ lv st =>
    o_astore 1 σ lv st fun σ lv st =>
    o_ic 1 σ lv st fun σ lv st =>
    o_istore 2 σ lv st fun σ lv st =>
    X 9 σ lv st
def k_X1_dropOldest_34 (Qp : Option q_V → q_M → Prop) (X : Nat → q_K) (σ : q_M) (lv : q_L) (st : q_S) : Prop :=
    o_aload 0 σ lv st fun σ lv st =>
    o_get 21 0 σ lv st fun σ lv st =>
    o_ic 3 σ lv st fun σ lv st =>
    o_aload 1 σ lv st fun σ lv st =>
    o_aast σ lv st fun σ lv st =>
    o_aload 0 σ lv st fun σ lv st =>
    o_ic 3 σ lv st fun σ lv st =>
    o_puti 21 0 σ lv st fun σ lv st =>
    o_vret Qp σ lv st
def k_X1_dropOldest_9 (Qp : Option q_V → q_M → Prop) (X : Nat → q_K) (σ : q_M) (lv : q_L) (st : q_S) : Prop :=
    o_iload 2 σ lv st fun σ lv st =>
    o_ic 4 σ lv st fun σ lv st =>
    o_icmpge (k_X1_dropOldest_34 Qp X) σ lv st fun σ lv st =>
    o_aload 0 σ lv st fun σ lv st =>
    o_get 21 0 σ lv st fun σ lv st =>
    o_iload 2 σ lv st fun σ lv st =>
    o_ic 1 σ lv st fun σ lv st =>
    o_isub σ lv st fun σ lv st =>
    o_aload 0 σ lv st fun σ lv st =>
    o_get 21 0 σ lv st fun σ lv st =>
    o_iload 2 σ lv st fun σ lv st =>
    o_aald σ lv st fun σ lv st =>
    o_aast σ lv st fun σ lv st =>
    o_iinc 2 1 σ lv st fun σ lv st =>
    o_goto (X 9) σ lv st
def k_X4_become_0 (Qp : Option q_V → q_M → Prop) (X : Nat → q_K) (σ : q_M) (lv : q_L) (st : q_S) : Prop :=
    o_aload 1 σ lv st fun σ lv st =>
    o_get 10 0 σ lv st fun σ lv st =>
    o_ic 0 σ lv st fun σ lv st =>
    o_aload 0 σ lv st fun σ lv st =>
    o_get 10 0 σ lv st fun σ lv st =>
    o_ic 0 σ lv st fun σ lv st =>
    o_ic 3 σ lv st fun σ lv st =>
    o_acpi σ lv st fun σ lv st =>
    o_aload 0 σ lv st fun σ lv st =>
    o_aload 1 σ lv st fun σ lv st =>
    o_get 10 1 σ lv st fun σ lv st =>
    o_puti 10 0 σ lv st fun σ lv st =>
    o_aload 0 σ lv st fun σ lv st =>
    o_aload 1 σ lv st fun σ lv st =>
    o_get 10 2 σ lv st fun σ lv st =>
    o_puti 10 1 σ lv st fun σ lv st =>
    o_aload 0 σ lv st fun σ lv st =>
    o_aload 1 σ lv st fun σ lv st =>
    o_get 10 3 σ lv st fun σ lv st =>
    o_puti 10 2 σ lv st fun σ lv st =>
    o_aload 0 σ lv st fun σ lv st =>
    o_aload 1 σ lv st fun σ lv st =>
    o_get 10 4 σ lv st fun σ lv st =>
    o_putz 10 3 σ lv st fun σ lv st =>
    o_aload 0 σ lv st fun σ lv st =>
    o_aload 1 σ lv st fun σ lv st =>
    o_get 10 5 σ lv st fun σ lv st =>
    o_puti 10 4 σ lv st fun σ lv st =>
    o_vret Qp σ lv st
def k_X0_become_0 (Qp : Option q_V → q_M → Prop) (X : Nat → q_K) (σ : q_M) (lv : q_L) (st : q_S) : Prop :=
    o_aload 0 σ lv st fun σ lv st =>
    o_aload 1 σ lv st fun σ lv st =>
    o_get 0 0 σ lv st fun σ lv st =>
    o_puti 0 0 σ lv st fun σ lv st =>
    o_aload 1 σ lv st fun σ lv st =>
    o_get 0 1 σ lv st fun σ lv st =>
    o_ic 0 σ lv st fun σ lv st =>
    o_aload 0 σ lv st fun σ lv st =>
    o_get 0 1 σ lv st fun σ lv st =>
    o_ic 0 σ lv st fun σ lv st =>
    o_ic 5 σ lv st fun σ lv st =>
    o_acpi σ lv st fun σ lv st =>
    o_ic 0 σ lv st fun σ lv st =>
    o_istore 2 σ lv st fun σ lv st =>
    X 24 σ lv st
def k_X0_become_53 (Qp : Option q_V → q_M → Prop) (X : Nat → q_K) (σ : q_M) (lv : q_L) (st : q_S) : Prop :=
    o_aload 1 σ lv st fun σ lv st =>
    o_get 0 3 σ lv st fun σ lv st =>
    o_ic 0 σ lv st fun σ lv st =>
    o_aload 0 σ lv st fun σ lv st =>
    o_get 0 3 σ lv st fun σ lv st =>
    o_ic 0 σ lv st fun σ lv st =>
    o_ic 3 σ lv st fun σ lv st =>
    o_acpl σ lv st fun σ lv st =>
    o_aload 1 σ lv st fun σ lv st =>
    o_get 0 4 σ lv st fun σ lv st =>
    o_ic 0 σ lv st fun σ lv st =>
    o_aload 0 σ lv st fun σ lv st =>
    o_get 0 4 σ lv st fun σ lv st =>
    o_ic 0 σ lv st fun σ lv st =>
    o_ic 3 σ lv st fun σ lv st =>
    o_acpl σ lv st fun σ lv st =>
    o_aload 1 σ lv st fun σ lv st =>
    o_get 0 5 σ lv st fun σ lv st =>
    o_ic 0 σ lv st fun σ lv st =>
    o_aload 0 σ lv st fun σ lv st =>
    o_get 0 5 σ lv st fun σ lv st =>
    o_ic 0 σ lv st fun σ lv st =>
    o_ic 3 σ lv st fun σ lv st =>
    o_acpl σ lv st fun σ lv st =>
    o_aload 1 σ lv st fun σ lv st =>
    o_get 0 6 σ lv st fun σ lv st =>
    o_ic 0 σ lv st fun σ lv st =>
    o_aload 0 σ lv st fun σ lv st =>
    o_get 0 6 σ lv st fun σ lv st =>
    o_ic 0 σ lv st fun σ lv st =>
    o_ic 3 σ lv st fun σ lv st =>
    o_acpl σ lv st fun σ lv st =>
    o_aload 0 σ lv st fun σ lv st =>
    o_aload 1 σ lv st fun σ lv st =>
    o_get 0 8 σ lv st fun σ lv st =>
    o_puti 0 1 σ lv st fun σ lv st =>
    o_ic 0 σ lv st fun σ lv st =>
    o_istore 2 σ lv st fun σ lv st =>
    X 119 σ lv st
def k_X0_become_24 (Qp : Option q_V → q_M → Prop) (X : Nat → q_K) (σ : q_M) (lv : q_L) (st : q_S) : Prop :=
    o_iload 2 σ lv st fun σ lv st =>
    o_ic 4 σ lv st fun σ lv st =>
    o_icmpge (k_X0_become_53 Qp X) σ lv st fun σ lv st =>
    o_aload 1 σ lv st fun σ lv st =>
    o_get 0 2 σ lv st fun σ lv st =>
    o_iload 2 σ lv st fun σ lv st =>
    o_aald σ lv st fun σ lv st =>
    o_ic 0 σ lv st fun σ lv st =>
    o_aload 0 σ lv st fun σ lv st =>
    o_get 0 2 σ lv st fun σ lv st =>
    o_iload 2 σ lv st fun σ lv st =>
    o_aald σ lv st fun σ lv st =>
    o_ic 0 σ lv st fun σ lv st =>
    o_ic 3 σ lv st fun σ lv st =>
    o_acpi σ lv st fun σ lv st =>
    o_iinc 2 1 σ lv st fun σ lv st =>
    o_goto (X 24) σ lv st
def k_X0_become_146 (Qp : Option q_V → q_M → Prop) (X : Nat → q_K) (σ : q_M) (lv : q_L) (st : q_S) : Prop :=
    o_aload 1 σ lv st fun σ lv st =>
    o_get 0 9 σ lv st fun σ lv st =>
    o_ic 0 σ lv st fun σ lv st =>
    o_aload 0 σ lv st fun σ lv st =>
    o_get 0 9 σ lv st fun σ lv st =>
    o_ic 0 σ lv st fun σ lv st =>
    o_ic 3 σ lv st fun σ lv st =>
    o_acpi σ lv st fun σ lv st =>
    o_aload 0 σ lv st fun σ lv st =>
    o_aload 1 σ lv st fun σ lv st =>
    o_get 0 10 σ lv st fun σ lv st =>
    o_puti 0 2 σ lv st fun σ lv st =>
    o_vret Qp σ lv st
def k_X0_become_119 (Qp : Option q_V → q_M → Prop) (X : Nat → q_K) (σ : q_M) (lv : q_L) (st : q_S) : Prop :=
    o_iload 2 σ lv st fun σ lv st =>
    o_ic (6) σ lv st fun σ lv st =>
    o_icmpge (k_X0_become_146 Qp X) σ lv st fun σ lv st =>
    o_aload 0 σ lv st fun σ lv st =>
    o_get 0 7 σ lv st fun σ lv st =>
    o_iload 2 σ lv st fun σ lv st =>
    o_aald σ lv st fun σ lv st =>
    o_aload 1 σ lv st fun σ lv st =>
    o_get 0 7 σ lv st fun σ lv st =>
    o_iload 2 σ lv st fun σ lv st =>
    o_aald σ lv st fun σ lv st =>
    o_callV 1 10 S_X4_become σ lv st fun σ lv st =>
    o_iinc 2 1 σ lv st fun σ lv st =>
    o_goto (X 119) σ lv st
def k_X1_keep_12 (Qp : Option q_V → q_M → Prop) (X : Nat → q_K) (σ : q_M) (lv : q_L) (st : q_S) : Prop :=
    o_aload 0 σ lv st fun σ lv st =>
    o_get 21 0 σ lv st fun σ lv st =>
    o_aload 0 σ lv st fun σ lv st =>
    o_get 21 1 σ lv st fun σ lv st =>
    o_aald σ lv st fun σ lv st =>
    o_aload 1 σ lv st fun σ lv st =>
    o_callV 1 0 S_X0_become σ lv st fun σ lv st =>
    o_aload 0 σ lv st fun σ lv st =>
    o_dup σ lv st fun σ lv st =>
    o_get 21 1 σ lv st fun σ lv st =>
    o_ic 1 σ lv st fun σ lv st =>
    o_iadd σ lv st fun σ lv st =>
    o_puti 21 0 σ lv st fun σ lv st =>
    o_vret Qp σ lv st
def k_X1_keep_0 (Qp : Option q_V → q_M → Prop) (X : Nat → q_K) (σ : q_M) (lv : q_L) (st : q_S) : Prop :=
    o_aload 0 σ lv st fun σ lv st =>
    o_get 21 1 σ lv st fun σ lv st =>
    o_ic 4 σ lv st fun σ lv st =>
    o_icmplt (k_X1_keep_12 Qp X) σ lv st fun σ lv st =>
    o_aload 0 σ lv st fun σ lv st =>
    o_callV 0 21 S_X1_dropOldest σ lv st fun σ lv st =>
    k_X1_keep_12 Qp X σ lv st
def k_X4_start_0 (Qp : Option q_V → q_M → Prop) (X : Nat → q_K) (σ : q_M) (lv : q_L) (st : q_S) : Prop :=
    o_aload 0 σ lv st fun σ lv st =>
    o_get 10 0 σ lv st fun σ lv st =>
    o_ic 0 σ lv st fun σ lv st =>
    o_iload 1 σ lv st fun σ lv st =>
    o_iast σ lv st fun σ lv st =>
    o_aload 0 σ lv st fun σ lv st =>
    o_get 10 0 σ lv st fun σ lv st =>
    o_ic 1 σ lv st fun σ lv st =>
    o_iload 2 σ lv st fun σ lv st =>
    o_iast σ lv st fun σ lv st =>
    o_aload 0 σ lv st fun σ lv st =>
    o_get 10 0 σ lv st fun σ lv st =>
    o_ic 2 σ lv st fun σ lv st =>
    o_iload 3 σ lv st fun σ lv st =>
    o_iast σ lv st fun σ lv st =>
    o_aload 0 σ lv st fun σ lv st =>
    o_ic 0 σ lv st fun σ lv st =>
    o_puti 10 0 σ lv st fun σ lv st =>
    o_aload 0 σ lv st fun σ lv st =>
    o_iload 4 σ lv st fun σ lv st =>
    o_puti 10 1 σ lv st fun σ lv st =>
    o_aload 0 σ lv st fun σ lv st =>
    o_iload 5 σ lv st fun σ lv st =>
    o_puti 10 2 σ lv st fun σ lv st =>
    o_aload 0 σ lv st fun σ lv st =>
    o_ic 0 σ lv st fun σ lv st =>
    o_putz 10 3 σ lv st fun σ lv st =>
    o_aload 0 σ lv st fun σ lv st =>
    o_ic 0 σ lv st fun σ lv st =>
    o_puti 10 4 σ lv st fun σ lv st =>
    o_vret Qp σ lv st
def k_X5_addWheel_31 (Qp : Option q_V → q_M → Prop) (X : Nat → q_K) (σ : q_M) (lv : q_L) (st : q_S) : Prop :=
    o_ic (-2000001) σ lv st fun σ lv st =>
    o_iret Qp σ lv st
def k_X5_addWheel_53 (Qp : Option q_V → q_M → Prop) (X : Nat → q_K) (σ : q_M) (lv : q_L) (st : q_S) : Prop :=
    o_aload 0 σ lv st fun σ lv st =>
    o_get 23 4 σ lv st fun σ lv st =>
    o_aload 0 σ lv st fun σ lv st =>
    o_get 23 0 σ lv st fun σ lv st =>
    o_callV 1 21 S_X1_keep σ lv st fun σ lv st =>
    o_aload 0 σ lv st fun σ lv st =>
    o_get 23 0 σ lv st fun σ lv st =>
    o_get 0 7 σ lv st fun σ lv st =>
    o_iload 6 σ lv st fun σ lv st =>
    o_aald σ lv st fun σ lv st =>
    o_iload 1 σ lv st fun σ lv st =>
    o_iload 2 σ lv st fun σ lv st =>
    o_iload 3 σ lv st fun σ lv st =>
    o_iload 4 σ lv st fun σ lv st =>
    o_iload 5 σ lv st fun σ lv st =>
    o_callV 5 10 S_X4_start σ lv st fun σ lv st =>
    o_aload 0 σ lv st fun σ lv st =>
    o_get 23 0 σ lv st fun σ lv st =>
    o_iload 6 σ lv st fun σ lv st =>
    o_ic 1 σ lv st fun σ lv st =>
    o_iadd σ lv st fun σ lv st =>
    o_puti 0 1 σ lv st fun σ lv st =>
    o_iload 6 σ lv st fun σ lv st =>
    o_iret Qp σ lv st
def k_X5_addWheel_34 (Qp : Option q_V → q_M → Prop) (X : Nat → q_K) (σ : q_M) (lv : q_L) (st : q_S) : Prop :=
    o_aload 0 σ lv st fun σ lv st =>
    o_get 23 0 σ lv st fun σ lv st =>
    o_get 0 8 σ lv st fun σ lv st =>
    o_istore 6 σ lv st fun σ lv st =>
    o_iload 6 σ lv st fun σ lv st =>
    o_ic (6) σ lv st fun σ lv st =>
    o_icmplt (k_X5_addWheel_53 Qp X) σ lv st fun σ lv st =>
    o_ic (-2000003) σ lv st fun σ lv st =>
    o_iret Qp σ lv st
def k_X5_addWheel_0 (Qp : Option q_V → q_M → Prop) (X : Nat → q_K) (σ : q_M) (lv : q_L) (st : q_S) : Prop :=
    o_iload 1 σ lv st fun σ lv st =>
    o_iload 2 σ lv st fun σ lv st =>
    o_iload 3 σ lv st fun σ lv st =>
    o_callS 3 S_X5_isDirection σ lv st fun σ lv st =>
    o_ifeq (k_X5_addWheel_31 Qp X) σ lv st fun σ lv st =>
    o_iload 4 σ lv st fun σ lv st =>
    o_ic 1 σ lv st fun σ lv st =>
    o_ic (1000000) σ lv st fun σ lv st =>
    o_callS 3 S_X5_isWithin σ lv st fun σ lv st =>
    o_ifeq (k_X5_addWheel_31 Qp X) σ lv st fun σ lv st =>
    o_iload 5 σ lv st fun σ lv st =>
    o_ic 1 σ lv st fun σ lv st =>
    o_ic (100000) σ lv st fun σ lv st =>
    o_callS 3 S_X5_isWithin σ lv st fun σ lv st =>
    o_ifne (k_X5_addWheel_34 Qp X) σ lv st fun σ lv st =>
    k_X5_addWheel_31 Qp X σ lv st
def k_X5_isWheel_0 (Qp : Option q_V → q_M → Prop) (X : Nat → q_K) (σ : q_M) (lv : q_L) (st : q_S) : Prop :=
    o_iload 1 σ lv st fun σ lv st =>
    o_ic 0 σ lv st fun σ lv st =>
    o_aload 0 σ lv st fun σ lv st =>
    o_get 23 0 σ lv st fun σ lv st =>
    o_get 0 8 σ lv st fun σ lv st =>
    o_ic 1 σ lv st fun σ lv st =>
    o_isub σ lv st fun σ lv st =>
    o_callS 3 S_X5_isWithin σ lv st fun σ lv st =>
    o_zret Qp σ lv st
def k_X5_fail_44 (Qp : Option q_V → q_M → Prop) (X : Nat → q_K) (σ : q_M) (lv : q_L) (st : q_S) : Prop :=
    o_istore 4 σ lv st fun σ lv st =>
    o_aload 3 σ lv st fun σ lv st =>
    o_iload 2 σ lv st fun σ lv st =>
    o_putz 10 3 σ lv st fun σ lv st =>
    o_iload 4 σ lv st fun σ lv st =>
    o_iret Qp σ lv st
def k_X5_fail_43 (Qp : Option q_V → q_M → Prop) (X : Nat → q_K) (σ : q_M) (lv : q_L) (st : q_S) : Prop :=
    o_ic 0 σ lv st fun σ lv st =>
    k_X5_fail_44 Qp X σ lv st
def k_X5_fail_11 (Qp : Option q_V → q_M → Prop) (X : Nat → q_K) (σ : q_M) (lv : q_L) (st : q_S) : Prop :=
    o_aload 0 σ lv st fun σ lv st =>
    o_get 23 4 σ lv st fun σ lv st =>
    o_aload 0 σ lv st fun σ lv st =>
    o_get 23 0 σ lv st fun σ lv st =>
    o_callV 1 21 S_X1_keep σ lv st fun σ lv st =>
    o_aload 0 σ lv st fun σ lv st =>
    o_get 23 0 σ lv st fun σ lv st =>
    o_get 0 7 σ lv st fun σ lv st =>
    o_iload 1 σ lv st fun σ lv st =>
    o_aald σ lv st fun σ lv st =>
    o_astore 3 σ lv st fun σ lv st =>
    o_aload 3 σ lv st fun σ lv st =>
    o_get 10 4 σ lv st fun σ lv st =>
    o_ifeq (k_X5_fail_43 Qp X) σ lv st fun σ lv st =>
    o_ic 1 σ lv st fun σ lv st =>
    o_goto (k_X5_fail_44 Qp X) σ lv st
def k_X5_fail_0 (Qp : Option q_V → q_M → Prop) (X : Nat → q_K) (σ : q_M) (lv : q_L) (st : q_S) : Prop :=
    o_aload 0 σ lv st fun σ lv st =>
    o_iload 1 σ lv st fun σ lv st =>
    o_callV 1 23 S_X5_isWheel σ lv st fun σ lv st =>
    o_ifne (k_X5_fail_11 Qp X) σ lv st fun σ lv st =>
    o_ic (-2000001) σ lv st fun σ lv st =>
    o_iret Qp σ lv st
def k_X5_setMost_27 (Qp : Option q_V → q_M → Prop) (X : Nat → q_K) (σ : q_M) (lv : q_L) (st : q_S) : Prop :=
    o_ic (-2000001) σ lv st fun σ lv st =>
    o_iret Qp σ lv st
def k_X5_setMost_90 (Qp : Option q_V → q_M → Prop) (X : Nat → q_K) (σ : q_M) (lv : q_L) (st : q_S) : Prop :=
    o_iload 5 σ lv st fun σ lv st =>
    o_iret Qp σ lv st
def k_X5_setMost_84 (Qp : Option q_V → q_M → Prop) (X : Nat → q_K) (σ : q_M) (lv : q_L) (st : q_S) : Prop :=
    o_aload 4 σ lv st fun σ lv st =>
    o_iload 3 σ lv st fun σ lv st =>
    o_puti 10 1 σ lv st fun σ lv st =>
    k_X5_setMost_90 Qp X σ lv st
def k_X5_setMost_69 (Qp : Option q_V → q_M → Prop) (X : Nat → q_K) (σ : q_M) (lv : q_L) (st : q_S) : Prop :=
    o_istore 5 σ lv st fun σ lv st =>
    o_iload 2 σ lv st fun σ lv st =>
    o_ifeq (k_X5_setMost_84 Qp X) σ lv st fun σ lv st =>
    o_aload 4 σ lv st fun σ lv st =>
    o_iload 3 σ lv st fun σ lv st =>
    o_puti 10 2 σ lv st fun σ lv st =>
    o_goto (k_X5_setMost_90 Qp X) σ lv st
def k_X5_setMost_64 (Qp : Option q_V → q_M → Prop) (X : Nat → q_K) (σ : q_M) (lv : q_L) (st : q_S) : Prop :=
    o_aload 4 σ lv st fun σ lv st =>
    o_get 10 2 σ lv st fun σ lv st =>
    k_X5_setMost_69 Qp X σ lv st
def k_X5_setMost_30 (Qp : Option q_V → q_M → Prop) (X : Nat → q_K) (σ : q_M) (lv : q_L) (st : q_S) : Prop :=
    o_aload 0 σ lv st fun σ lv st =>
    o_get 23 4 σ lv st fun σ lv st =>
    o_aload 0 σ lv st fun σ lv st =>
    o_get 23 0 σ lv st fun σ lv st =>
    o_callV 1 21 S_X1_keep σ lv st fun σ lv st =>
    o_aload 0 σ lv st fun σ lv st =>
    o_get 23 0 σ lv st fun σ lv st =>
    o_get 0 7 σ lv st fun σ lv st =>
    o_iload 1 σ lv st fun σ lv st =>
    o_aald σ lv st fun σ lv st =>
    o_astore 4 σ lv st fun σ lv st =>
    o_iload 2 σ lv st fun σ lv st =>
    o_ifeq (k_X5_setMost_64 Qp X) σ lv st fun σ lv st =>
    o_aload 4 σ lv st fun σ lv st =>
    o_get 10 3 σ lv st fun σ lv st =>
    o_goto (k_X5_setMost_69 Qp X) σ lv st
def k_X5_setMost_21 (Qp : Option q_V → q_M → Prop) (X : Nat → q_K) (σ : q_M) (lv : q_L) (st : q_S) : Prop :=
    o_callS 3 S_X5_isWithin σ lv st fun σ lv st =>
    o_ifne (k_X5_setMost_30 Qp X) σ lv st fun σ lv st =>
    k_X5_setMost_27 Qp X σ lv st
def k_X5_setMost_19 (Qp : Option q_V → q_M → Prop) (X : Nat → q_K) (σ : q_M) (lv : q_L) (st : q_S) : Prop :=
    o_ic (1000000) σ lv st fun σ lv st =>
    k_X5_setMost_21 Qp X σ lv st
def k_X5_setMost_0 (Qp : Option q_V → q_M → Prop) (X : Nat → q_K) (σ : q_M) (lv : q_L) (st : q_S) : Prop :=
    o_aload 0 σ lv st fun σ lv st =>
    o_iload 1 σ lv st fun σ lv st =>
    o_callV 1 23 S_X5_isWheel σ lv st fun σ lv st =>
    o_ifeq (k_X5_setMost_27 Qp X) σ lv st fun σ lv st =>
    o_iload 3 σ lv st fun σ lv st =>
    o_ic 1 σ lv st fun σ lv st =>
    o_iload 2 σ lv st fun σ lv st =>
    o_ifeq (k_X5_setMost_19 Qp X) σ lv st fun σ lv st =>
    o_ic (100000) σ lv st fun σ lv st =>
    o_goto (k_X5_setMost_21 Qp X) σ lv st
def k_X4_number_44 (Qp : Option q_V → q_M → Prop) (X : Nat → q_K) (σ : q_M) (lv : q_L) (st : q_S) : Prop :=
    o_aload 0 σ lv st fun σ lv st =>
    o_get 10 0 σ lv st fun σ lv st =>
    o_iload 1 σ lv st fun σ lv st =>
    o_iald σ lv st fun σ lv st =>
    o_iret Qp σ lv st
def k_X4_number_51 (Qp : Option q_V → q_M → Prop) (X : Nat → q_K) (σ : q_M) (lv : q_L) (st : q_S) : Prop :=
    o_aload 0 σ lv st fun σ lv st =>
    o_get 10 1 σ lv st fun σ lv st =>
    o_iret Qp σ lv st
def k_X4_number_56 (Qp : Option q_V → q_M → Prop) (X : Nat → q_K) (σ : q_M) (lv : q_L) (st : q_S) : Prop :=
    o_aload 0 σ lv st fun σ lv st =>
    o_get 10 2 σ lv st fun σ lv st =>
    o_iret Qp σ lv st
def k_X4_number_61 (Qp : Option q_V → q_M → Prop) (X : Nat → q_K) (σ : q_M) (lv : q_L) (st : q_S) : Prop :=
    o_aload 0 σ lv st fun σ lv st =>
    o_get 10 3 σ lv st fun σ lv st =>
    o_iret Qp σ lv st
def k_X4_number_78 (Qp : Option q_V → q_M → Prop) (X : Nat → q_K) (σ : q_M) (lv : q_L) (st : q_S) : Prop :=
    o_iret Qp σ lv st
def k_X4_number_77 (Qp : Option q_V → q_M → Prop) (X : Nat → q_K) (σ : q_M) (lv : q_L) (st : q_S) : Prop :=
    o_ic 0 σ lv st fun σ lv st =>
    k_X4_number_78 Qp X σ lv st
def k_X4_number_66 (Qp : Option q_V → q_M → Prop) (X : Nat → q_K) (σ : q_M) (lv : q_L) (st : q_S) : Prop :=
    o_aload 0 σ lv st fun σ lv st =>
    o_get 10 4 σ lv st fun σ lv st =>
    o_ifeq (k_X4_number_77 Qp X) σ lv st fun σ lv st =>
    o_ic 1 σ lv st fun σ lv st =>
    o_goto (k_X4_number_78 Qp X) σ lv st
def k_X4_number_79 (Qp : Option q_V → q_M → Prop) (X : Nat → q_K) (σ : q_M) (lv : q_L) (st : q_S) : Prop :=
    o_aload 0 σ lv st fun σ lv st =>
    o_get 10 5 σ lv st fun σ lv st =>
    o_iret Qp σ lv st
def k_X4_number_0 (Qp : Option q_V → q_M → Prop) (X : Nat → q_K) (σ : q_M) (lv : q_L) (st : q_S) : Prop :=
    o_iload 1 σ lv st fun σ lv st =>
    o_tsw 0 6 (k_X4_number_79 Qp X) [k_X4_number_44 Qp X, k_X4_number_44 Qp X, k_X4_number_44 Qp X, k_X4_number_51 Qp X, k_X4_number_56 Qp X, k_X4_number_61 Qp X, k_X4_number_66 Qp X] σ lv st
def k_X5_wheel_18 (Qp : Option q_V → q_M → Prop) (X : Nat → q_K) (σ : q_M) (lv : q_L) (st : q_S) : Prop :=
    o_ic (-2000001) σ lv st fun σ lv st =>
    o_iret Qp σ lv st
def k_X5_wheel_21 (Qp : Option q_V → q_M → Prop) (X : Nat → q_K) (σ : q_M) (lv : q_L) (st : q_S) : Prop :=
    o_aload 0 σ lv st fun σ lv st =>
    o_get 23 0 σ lv st fun σ lv st =>
    o_get 0 7 σ lv st fun σ lv st =>
    o_iload 1 σ lv st fun σ lv st =>
    o_aald σ lv st fun σ lv st =>
    o_iload 2 σ lv st fun σ lv st =>
    o_callV 1 10 S_X4_number σ lv st fun σ lv st =>
    o_iret Qp σ lv st
def k_X5_wheel_0 (Qp : Option q_V → q_M → Prop) (X : Nat → q_K) (σ : q_M) (lv : q_L) (st : q_S) : Prop :=
    o_aload 0 σ lv st fun σ lv st =>
    o_iload 1 σ lv st fun σ lv st =>
    o_callV 1 23 S_X5_isWheel σ lv st fun σ lv st =>
    o_ifeq (k_X5_wheel_18 Qp X) σ lv st fun σ lv st =>
    o_iload 2 σ lv st fun σ lv st =>
    o_ic 0 σ lv st fun σ lv st =>
    o_ic (7) σ lv st fun σ lv st =>
    o_callS 3 S_X5_isWithin σ lv st fun σ lv st =>
    o_ifne (k_X5_wheel_21 Qp X) σ lv st fun σ lv st =>
    k_X5_wheel_18 Qp X σ lv st
def k_X5_wheels_0 (Qp : Option q_V → q_M → Prop) (X : Nat → q_K) (σ : q_M) (lv : q_L) (st : q_S) : Prop :=
    o_aload 0 σ lv st fun σ lv st =>
    o_get 23 0 σ lv st fun σ lv st =>
    o_get 0 8 σ lv st fun σ lv st =>
    o_iret Qp σ lv st
def k_X5_isAxis_0 (Qp : Option q_V → q_M → Prop) (X : Nat → q_K) (σ : q_M) (lv : q_L) (st : q_S) : Prop :=
    o_iload 0 σ lv st fun σ lv st =>
    o_ic 0 σ lv st fun σ lv st =>
    o_ic 2 σ lv st fun σ lv st =>
    o_callS 3 S_X5_isWithin σ lv st fun σ lv st =>
    o_zret Qp σ lv st
def k_X5_setAxis_33 (Qp : Option q_V → q_M → Prop) (X : Nat → q_K) (σ : q_M) (lv : q_L) (st : q_S) : Prop :=
    o_ic (-2000001) σ lv st fun σ lv st =>
    o_iret Qp σ lv st
def k_X5_setAxis_36 (Qp : Option q_V → q_M → Prop) (X : Nat → q_K) (σ : q_M) (lv : q_L) (st : q_S) : Prop :=
    o_aload 0 σ lv st fun σ lv st =>
    o_get 23 4 σ lv st fun σ lv st =>
    o_aload 0 σ lv st fun σ lv st =>
    o_get 23 0 σ lv st fun σ lv st =>
    o_callV 1 21 S_X1_keep σ lv st fun σ lv st =>
    o_aload 0 σ lv st fun σ lv st =>
    o_get 23 0 σ lv st fun σ lv st =>
    o_get 0 2 σ lv st fun σ lv st =>
    o_iload 2 σ lv st fun σ lv st =>
    o_aald σ lv st fun σ lv st =>
    o_iload 1 σ lv st fun σ lv st =>
    o_iald σ lv st fun σ lv st =>
    o_istore 4 σ lv st fun σ lv st =>
    o_aload 0 σ lv st fun σ lv st =>
    o_get 23 0 σ lv st fun σ lv st =>
    o_get 0 2 σ lv st fun σ lv st =>
    o_iload 2 σ lv st fun σ lv st =>
    o_aald σ lv st fun σ lv st =>
    o_iload 1 σ lv st fun σ lv st =>
    o_iload 3 σ lv st fun σ lv st =>
    o_iast σ lv st fun σ lv st =>
    o_iload 4 σ lv st fun σ lv st =>
    o_iret Qp σ lv st
def k_X5_setAxis_0 (Qp : Option q_V → q_M → Prop) (X : Nat → q_K) (σ : q_M) (lv : q_L) (st : q_S) : Prop :=
    o_iload 1 σ lv st fun σ lv st =>
    o_callS 1 S_X5_isAxis σ lv st fun σ lv st =>
    o_ifeq (k_X5_setAxis_33 Qp X) σ lv st fun σ lv st =>
    o_iload 2 σ lv st fun σ lv st =>
    o_ic 0 σ lv st fun σ lv st =>
    o_ic 3 σ lv st fun σ lv st =>
    o_callS 3 S_X5_isWithin σ lv st fun σ lv st =>
    o_ifeq (k_X5_setAxis_33 Qp X) σ lv st fun σ lv st =>
    o_iload 3 σ lv st fun σ lv st =>
    o_gets 34 σ lv st fun σ lv st =>
    o_iload 2 σ lv st fun σ lv st =>
    o_sald σ lv st fun σ lv st =>
    o_gets 35 σ lv st fun σ lv st =>
    o_iload 2 σ lv st fun σ lv st =>
    o_sald σ lv st fun σ lv st =>
    o_callS 3 S_X5_isWithin σ lv st fun σ lv st =>
    o_ifne (k_X5_setAxis_36 Qp X) σ lv st fun σ lv st =>
    k_X5_setAxis_33 Qp X σ lv st
def k_X5_set_26 (Qp : Option q_V → q_M → Prop) (X : Nat → q_K) (σ : q_M) (lv : q_L) (st : q_S) : Prop :=
    o_ic (-2000001) σ lv st fun σ lv st =>
    o_iret Qp σ lv st
def k_X5_set_29 (Qp : Option q_V → q_M → Prop) (X : Nat → q_K) (σ : q_M) (lv : q_L) (st : q_S) : Prop :=
    o_aload 0 σ lv st fun σ lv st =>
    o_get 23 4 σ lv st fun σ lv st =>
    o_aload 0 σ lv st fun σ lv st =>
    o_get 23 0 σ lv st fun σ lv st =>
    o_callV 1 21 S_X1_keep σ lv st fun σ lv st =>
    o_aload 0 σ lv st fun σ lv st =>
    o_get 23 0 σ lv st fun σ lv st =>
    o_get 0 1 σ lv st fun σ lv st =>
    o_iload 1 σ lv st fun σ lv st =>
    o_iald σ lv st fun σ lv st =>
    o_istore 3 σ lv st fun σ lv st =>
    o_aload 0 σ lv st fun σ lv st =>
    o_get 23 0 σ lv st fun σ lv st =>
    o_get 0 1 σ lv st fun σ lv st =>
    o_iload 1 σ lv st fun σ lv st =>
    o_iload 2 σ lv st fun σ lv st =>
    o_iast σ lv st fun σ lv st =>
    o_iload 3 σ lv st fun σ lv st =>
    o_iret Qp σ lv st
def k_X5_set_0 (Qp : Option q_V → q_M → Prop) (X : Nat → q_K) (σ : q_M) (lv : q_L) (st : q_S) : Prop :=
    o_iload 1 σ lv st fun σ lv st =>
    o_ic 0 σ lv st fun σ lv st =>
    o_ic 4 σ lv st fun σ lv st =>
    o_callS 3 S_X5_isWithin σ lv st fun σ lv st =>
    o_ifeq (k_X5_set_26 Qp X) σ lv st fun σ lv st =>
    o_iload 2 σ lv st fun σ lv st =>
    o_gets 36 σ lv st fun σ lv st =>
    o_iload 1 σ lv st fun σ lv st =>
    o_sald σ lv st fun σ lv st =>
    o_gets 37 σ lv st fun σ lv st =>
    o_iload 1 σ lv st fun σ lv st =>
    o_sald σ lv st fun σ lv st =>
    o_callS 3 S_X5_isWithin σ lv st fun σ lv st =>
    o_ifne (k_X5_set_29 Qp X) σ lv st fun σ lv st =>
    k_X5_set_26 Qp X σ lv st
def k_X5_setting_23 (Qp : Option q_V → q_M → Prop) (X : Nat → q_K) (σ : q_M) (lv : q_L) (st : q_S) : Prop :=
    o_iret Qp σ lv st
def k_X5_setting_21 (Qp : Option q_V → q_M → Prop) (X : Nat → q_K) (σ : q_M) (lv : q_L) (st : q_S) : Prop :=
    o_ic (-2000001) σ lv st fun σ lv st =>
    k_X5_setting_23 Qp X σ lv st
def k_X5_setting_0 (Qp : Option q_V → q_M → Prop) (X : Nat → q_K) (σ : q_M) (lv : q_L) (st : q_S) : Prop :=
    o_iload 1 σ lv st fun σ lv st =>
    o_ic 0 σ lv st fun σ lv st =>
    o_ic 4 σ lv st fun σ lv st =>
    o_callS 3 S_X5_isWithin σ lv st fun σ lv st =>
    o_ifeq (k_X5_setting_21 Qp X) σ lv st fun σ lv st =>
    o_aload 0 σ lv st fun σ lv st =>
    o_get 23 0 σ lv st fun σ lv st =>
    o_get 0 1 σ lv st fun σ lv st =>
    o_iload 1 σ lv st fun σ lv st =>
    o_iald σ lv st fun σ lv st =>
    o_goto (k_X5_setting_23 Qp X) σ lv st
def k_X0_pushFromOutside_0 (Qp : Option q_V → q_M → Prop) (X : Nat → q_K) (σ : q_M) (lv : q_L) (st : q_S) : Prop :=
    o_aload 0 σ lv st fun σ lv st =>
    o_get 0 4 σ lv st fun σ lv st =>
    o_iload 1 σ lv st fun σ lv st =>
    o_dup2 σ lv st fun σ lv st =>
    o_lald σ lv st fun σ lv st =>
    o_lload 2 σ lv st fun σ lv st =>
    o_ladd σ lv st fun σ lv st =>
    o_last σ lv st fun σ lv st =>
    o_aload 0 σ lv st fun σ lv st =>
    o_get 0 5 σ lv st fun σ lv st =>
    o_iload 1 σ lv st fun σ lv st =>
    o_dup2 σ lv st fun σ lv st =>
    o_lald σ lv st fun σ lv st =>
    o_lload 2 σ lv st fun σ lv st =>
    o_ladd σ lv st fun σ lv st =>
    o_last σ lv st fun σ lv st =>
    o_vret Qp σ lv st
def k_J9_floorDiv_f86c9_27 (Qp : Option q_V → q_M → Prop) (X : Nat → q_K) (σ : q_M) (lv : q_L) (st : q_S) : Prop :=
    o_lload 4 σ lv st fun σ lv st =>
    o_lret Qp σ lv st
def k_J9_floorDiv_f86c9_0 (Qp : Option q_V → q_M → Prop) (X : Nat → q_K) (σ : q_M) (lv : q_L) (st : q_S) : Prop :=
    o_lload 0 σ lv st fun σ lv st =>
    o_lload 2 σ lv st fun σ lv st =>
    o_ldiv σ lv st fun σ lv st =>
    o_lstore 4 σ lv st fun σ lv st =>
    o_lload 0 σ lv st fun σ lv st =>
    o_lload 2 σ lv st fun σ lv st =>
    o_lxor σ lv st fun σ lv st =>
    o_lc 0 σ lv st fun σ lv st =>
    o_lcmp σ lv st fun σ lv st =>
    o_ifge (k_J9_floorDiv_f86c9_27 Qp X) σ lv st fun σ lv st =>
    o_lload 4 σ lv st fun σ lv st =>
    o_lload 2 σ lv st fun σ lv st =>
    o_lmul σ lv st fun σ lv st =>
    o_lload 0 σ lv st fun σ lv st =>
    o_lcmp σ lv st fun σ lv st =>
    o_ifeq (k_J9_floorDiv_f86c9_27 Qp X) σ lv st fun σ lv st =>
    o_lload 4 σ lv st fun σ lv st =>
    o_lc 1 σ lv st fun σ lv st =>
    o_lsub σ lv st fun σ lv st =>
    o_lret Qp σ lv st
def k_X5_quotient_15 (Qp : Option q_V → q_M → Prop) (X : Nat → q_K) (σ : q_M) (lv : q_L) (st : q_S) : Prop :=
    o_lret Qp σ lv st
def k_X5_quotient_14 (Qp : Option q_V → q_M → Prop) (X : Nat → q_K) (σ : q_M) (lv : q_L) (st : q_S) : Prop :=
    o_lc 0 σ lv st fun σ lv st =>
    k_X5_quotient_15 Qp X σ lv st
def k_X5_quotient_0 (Qp : Option q_V → q_M → Prop) (X : Nat → q_K) (σ : q_M) (lv : q_L) (st : q_S) : Prop :=
    o_lload 2 σ lv st fun σ lv st =>
    o_lc 0 σ lv st fun σ lv st =>
    o_lcmp σ lv st fun σ lv st =>
    o_ifle (k_X5_quotient_14 Qp X) σ lv st fun σ lv st =>
    o_lload 0 σ lv st fun σ lv st =>
    o_lload 2 σ lv st fun σ lv st =>
    o_callS 2 S_J9_floorDiv_f86c9 σ lv st fun σ lv st =>
    o_goto (k_X5_quotient_15 Qp X) σ lv st
def k_X0_rate_0 (Qp : Option q_V → q_M → Prop) (X : Nat → q_K) (σ : q_M) (lv : q_L) (st : q_S) : Prop :=
    o_aload 0 σ lv st fun σ lv st =>
    o_get 0 4 σ lv st fun σ lv st =>
    o_iload 1 σ lv st fun σ lv st =>
    o_lald σ lv st fun σ lv st =>
    o_aload 0 σ lv st fun σ lv st =>
    o_get 0 2 σ lv st fun σ lv st =>
    o_ic 0 σ lv st fun σ lv st =>
    o_aald σ lv st fun σ lv st =>
    o_iload 1 σ lv st fun σ lv st =>
    o_iald σ lv st fun σ lv st =>
    o_i2l σ lv st fun σ lv st =>
    o_callS 2 S_X5_quotient σ lv st fun σ lv st =>
    o_lret Qp σ lv st
def k_X5_strike_18 (Qp : Option q_V → q_M → Prop) (X : Nat → q_K) (σ : q_M) (lv : q_L) (st : q_S) : Prop :=
    o_lc (-4611686018427387905) σ lv st fun σ lv st =>
    o_lret Qp σ lv st
def k_X5_strike_22 (Qp : Option q_V → q_M → Prop) (X : Nat → q_K) (σ : q_M) (lv : q_L) (st : q_S) : Prop :=
    o_aload 0 σ lv st fun σ lv st =>
    o_get 23 4 σ lv st fun σ lv st =>
    o_aload 0 σ lv st fun σ lv st =>
    o_get 23 0 σ lv st fun σ lv st =>
    o_callV 1 21 S_X1_keep σ lv st fun σ lv st =>
    o_aload 0 σ lv st fun σ lv st =>
    o_get 23 0 σ lv st fun σ lv st =>
    o_iload 1 σ lv st fun σ lv st =>
    o_iload 2 σ lv st fun σ lv st =>
    o_i2l σ lv st fun σ lv st =>
    o_callV 2 0 S_X0_pushFromOutside σ lv st fun σ lv st =>
    o_aload 0 σ lv st fun σ lv st =>
    o_get 23 0 σ lv st fun σ lv st =>
    o_iload 1 σ lv st fun σ lv st =>
    o_callV 1 0 S_X0_rate σ lv st fun σ lv st =>
    o_lret Qp σ lv st
def k_X5_strike_0 (Qp : Option q_V → q_M → Prop) (X : Nat → q_K) (σ : q_M) (lv : q_L) (st : q_S) : Prop :=
    o_iload 1 σ lv st fun σ lv st =>
    o_callS 1 S_X5_isAxis σ lv st fun σ lv st =>
    o_ifeq (k_X5_strike_18 Qp X) σ lv st fun σ lv st =>
    o_iload 2 σ lv st fun σ lv st =>
    o_ic (-100000) σ lv st fun σ lv st =>
    o_ic (100000) σ lv st fun σ lv st =>
    o_callS 3 S_X5_isWithin σ lv st fun σ lv st =>
    o_ifne (k_X5_strike_22 Qp X) σ lv st fun σ lv st =>
    k_X5_strike_18 Qp X σ lv st
def k_X3_addProducts_0 (Qp : Option q_V → q_M → Prop) (X : Nat → q_K) (σ : q_M) (lv : q_L) (st : q_S) : Prop :=
    o_ic 0 σ lv st fun σ lv st =>
    o_istore 2 σ lv st fun σ lv st =>
    X 2 σ lv st
def k_X3_addProducts_45 (Qp : Option q_V → q_M → Prop) (X : Nat → q_K) (σ : q_M) (lv : q_L) (st : q_S) : Prop :=
    o_vret Qp σ lv st
def k_X3_addProducts_2 (Qp : Option q_V → q_M → Prop) (X : Nat → q_K) (σ : q_M) (lv : q_L) (st : q_S) : Prop :=
    o_iload 2 σ lv st fun σ lv st =>
    o_ic 3 σ lv st fun σ lv st =>
    o_icmpge (k_X3_addProducts_45 Qp X) σ lv st fun σ lv st =>
    o_ic 0 σ lv st fun σ lv st =>
    o_istore 3 σ lv st fun σ lv st =>
    X 9 σ lv st
def k_X3_addProducts_39 (Qp : Option q_V → q_M → Prop) (X : Nat → q_K) (σ : q_M) (lv : q_L) (st : q_S) : Prop :=
    o_iinc 2 1 σ lv st fun σ lv st =>
    o_goto (X 2) σ lv st
def k_X3_addProducts_9 (Qp : Option q_V → q_M → Prop) (X : Nat → q_K) (σ : q_M) (lv : q_L) (st : q_S) : Prop :=
    o_iload 3 σ lv st fun σ lv st =>
    o_ic 3 σ lv st fun σ lv st =>
    o_icmpge (k_X3_addProducts_39 Qp X) σ lv st fun σ lv st =>
    o_aload 0 σ lv st fun σ lv st =>
    o_get 12 0 σ lv st fun σ lv st =>
    o_iload 2 σ lv st fun σ lv st =>
    o_aald σ lv st fun σ lv st =>
    o_iload 3 σ lv st fun σ lv st =>
    o_dup2 σ lv st fun σ lv st =>
    o_lald σ lv st fun σ lv st =>
    o_aload 1 σ lv st fun σ lv st =>
    o_iload 2 σ lv st fun σ lv st =>
    o_iald σ lv st fun σ lv st =>
    o_aload 1 σ lv st fun σ lv st =>
    o_iload 3 σ lv st fun σ lv st =>
    o_iald σ lv st fun σ lv st =>
    o_imul σ lv st fun σ lv st =>
    o_i2l σ lv st fun σ lv st =>
    o_ladd σ lv st fun σ lv st =>
    o_last σ lv st fun σ lv st =>
    o_iinc 3 1 σ lv st fun σ lv st =>
    o_goto (X 9) σ lv st
def k_X5_axisAfter_0 (Qp : Option q_V → q_M → Prop) (X : Nat → q_K) (σ : q_M) (lv : q_L) (st : q_S) : Prop :=
    o_iload 0 σ lv st fun σ lv st =>
    o_iload 1 σ lv st fun σ lv st =>
    o_iadd σ lv st fun σ lv st =>
    o_ic 3 σ lv st fun σ lv st =>
    o_irem σ lv st fun σ lv st =>
    o_iret Qp σ lv st
def k_X3_findCofactors_0 (Qp : Option q_V → q_M → Prop) (X : Nat → q_K) (σ : q_M) (lv : q_L) (st : q_S) : Prop :=
    o_ic 0 σ lv st fun σ lv st =>
    o_istore 1 σ lv st fun σ lv st =>
    X 2 σ lv st
def k_X3_findCofactors_104 (Qp : Option q_V → q_M → Prop) (X : Nat → q_K) (σ : q_M) (lv : q_L) (st : q_S) : Prop :=
    o_vret Qp σ lv st
def k_X3_findCofactors_2 (Qp : Option q_V → q_M → Prop) (X : Nat → q_K) (σ : q_M) (lv : q_L) (st : q_S) : Prop :=
    o_iload 1 σ lv st fun σ lv st =>
    o_ic 3 σ lv st fun σ lv st =>
    o_icmpge (k_X3_findCofactors_104 Qp X) σ lv st fun σ lv st =>
    o_iload 1 σ lv st fun σ lv st =>
    o_ic 1 σ lv st fun σ lv st =>
    o_callS 2 S_X5_axisAfter σ lv st fun σ lv st =>
    o_istore 2 σ lv st fun σ lv st =>
    o_iload 1 σ lv st fun σ lv st =>
    o_ic 2 σ lv st fun σ lv st =>
    o_callS 2 S_X5_axisAfter σ lv st fun σ lv st =>
    o_istore 3 σ lv st fun σ lv st =>
    o_ic 0 σ lv st fun σ lv st =>
    o_istore 4 σ lv st fun σ lv st =>
    X 22 σ lv st
def k_X3_findCofactors_98 (Qp : Option q_V → q_M → Prop) (X : Nat → q_K) (σ : q_M) (lv : q_L) (st : q_S) : Prop :=
    o_iinc 1 1 σ lv st fun σ lv st =>
    o_goto (X 2) σ lv st
def k_X3_findCofactors_22 (Qp : Option q_V → q_M → Prop) (X : Nat → q_K) (σ : q_M) (lv : q_L) (st : q_S) : Prop :=
    o_iload 4 σ lv st fun σ lv st =>
    o_ic 3 σ lv st fun σ lv st =>
    o_icmpge (k_X3_findCofactors_98 Qp X) σ lv st fun σ lv st =>
    o_iload 4 σ lv st fun σ lv st =>
    o_ic 1 σ lv st fun σ lv st =>
    o_callS 2 S_X5_axisAfter σ lv st fun σ lv st =>
    o_istore 5 σ lv st fun σ lv st =>
    o_iload 4 σ lv st fun σ lv st =>
    o_ic 2 σ lv st fun σ lv st =>
    o_callS 2 S_X5_axisAfter σ lv st fun σ lv st =>
    o_istore 6 σ lv st fun σ lv st =>
    o_aload 0 σ lv st fun σ lv st =>
    o_get 12 1 σ lv st fun σ lv st =>
    o_iload 1 σ lv st fun σ lv st =>
    o_aald σ lv st fun σ lv st =>
    o_iload 4 σ lv st fun σ lv st =>
    o_aload 0 σ lv st fun σ lv st =>
    o_get 12 0 σ lv st fun σ lv st =>
    o_iload 2 σ lv st fun σ lv st =>
    o_aald σ lv st fun σ lv st =>
    o_iload 5 σ lv st fun σ lv st =>
    o_lald σ lv st fun σ lv st =>
    o_aload 0 σ lv st fun σ lv st =>
    o_get 12 0 σ lv st fun σ lv st =>
    o_iload 3 σ lv st fun σ lv st =>
    o_aald σ lv st fun σ lv st =>
    o_iload 6 σ lv st fun σ lv st =>
    o_lald σ lv st fun σ lv st =>
    o_lmul σ lv st fun σ lv st =>
    o_aload 0 σ lv st fun σ lv st =>
    o_get 12 0 σ lv st fun σ lv st =>
    o_iload 2 σ lv st fun σ lv st =>
    o_aald σ lv st fun σ lv st =>
    o_iload 6 σ lv st fun σ lv st =>
    o_lald σ lv st fun σ lv st =>
    o_aload 0 σ lv st fun σ lv st =>
    o_get 12 0 σ lv st fun σ lv st =>
    o_iload 3 σ lv st fun σ lv st =>
    o_aald σ lv st fun σ lv st =>
    o_iload 5 σ lv st fun σ lv st =>
    o_lald σ lv st fun σ lv st =>
    o_lmul σ lv st fun σ lv st =>
    o_lsub σ lv st fun σ lv st =>
    o_last σ lv st fun σ lv st =>
    o_iinc 4 1 σ lv st fun σ lv st =>
    o_goto (X 22) σ lv st
def k_X3_measure_0 (Qp : Option q_V → q_M → Prop) (X : Nat → q_K) (σ : q_M) (lv : q_L) (st : q_S) : Prop :=
    o_ic 0 σ lv st fun σ lv st =>
    o_istore 3 σ lv st fun σ lv st =>
    X 2 σ lv st
def k_X3_measure_38 (Qp : Option q_V → q_M → Prop) (X : Nat → q_K) (σ : q_M) (lv : q_L) (st : q_S) : Prop :=
    o_ic 0 σ lv st fun σ lv st =>
    o_istore 3 σ lv st fun σ lv st =>
    X 40 σ lv st
def k_X3_measure_2 (Qp : Option q_V → q_M → Prop) (X : Nat → q_K) (σ : q_M) (lv : q_L) (st : q_S) : Prop :=
    o_iload 3 σ lv st fun σ lv st =>
    o_ic 3 σ lv st fun σ lv st =>
    o_icmpge (k_X3_measure_38 Qp X) σ lv st fun σ lv st =>
    o_ic 0 σ lv st fun σ lv st =>
    o_istore 4 σ lv st fun σ lv st =>
    X 10 σ lv st
def k_X3_measure_32 (Qp : Option q_V → q_M → Prop) (X : Nat → q_K) (σ : q_M) (lv : q_L) (st : q_S) : Prop :=
    o_iinc 3 1 σ lv st fun σ lv st =>
    o_goto (X 2) σ lv st
def k_X3_measure_10 (Qp : Option q_V → q_M → Prop) (X : Nat → q_K) (σ : q_M) (lv : q_L) (st : q_S) : Prop :=
    o_iload 4 σ lv st fun σ lv st =>
    o_ic 3 σ lv st fun σ lv st =>
    o_icmpge (k_X3_measure_32 Qp X) σ lv st fun σ lv st =>
    o_aload 0 σ lv st fun σ lv st =>
    o_get 12 0 σ lv st fun σ lv st =>
    o_iload 3 σ lv st fun σ lv st =>
    o_aald σ lv st fun σ lv st =>
    o_iload 4 σ lv st fun σ lv st =>
    o_lc 0 σ lv st fun σ lv st =>
    o_last σ lv st fun σ lv st =>
    o_iinc 4 1 σ lv st fun σ lv st =>
    o_goto (X 10) σ lv st
def k_X3_measure_84 (Qp : Option q_V → q_M → Prop) (X : Nat → q_K) (σ : q_M) (lv : q_L) (st : q_S) : Prop :=
    o_aload 0 σ lv st fun σ lv st =>
    o_callV 0 12 S_X3_findCofactors σ lv st fun σ lv st =>
    o_aload 0 σ lv st fun σ lv st =>
    o_lc 0 σ lv st fun σ lv st =>
    o_putl 12 0 σ lv st fun σ lv st =>
    o_ic 0 σ lv st fun σ lv st =>
    o_istore 3 σ lv st fun σ lv st =>
    X 95 σ lv st
def k_X3_measure_78 (Qp : Option q_V → q_M → Prop) (X : Nat → q_K) (σ : q_M) (lv : q_L) (st : q_S) : Prop :=
    o_iinc 3 1 σ lv st fun σ lv st =>
    o_goto (X 40) σ lv st
def k_X3_measure_40 (Qp : Option q_V → q_M → Prop) (X : Nat → q_K) (σ : q_M) (lv : q_L) (st : q_S) : Prop :=
    o_iload 3 σ lv st fun σ lv st =>
    o_aload 1 σ lv st fun σ lv st =>
    o_get 0 8 σ lv st fun σ lv st =>
    o_icmpge (k_X3_measure_84 Qp X) σ lv st fun σ lv st =>
    o_iload 3 σ lv st fun σ lv st =>
    o_iload 2 σ lv st fun σ lv st =>
    o_icmpeq (k_X3_measure_78 Qp X) σ lv st fun σ lv st =>
    o_aload 1 σ lv st fun σ lv st =>
    o_get 0 7 σ lv st fun σ lv st =>
    o_iload 3 σ lv st fun σ lv st =>
    o_aald σ lv st fun σ lv st =>
    o_get 10 4 σ lv st fun σ lv st =>
    o_ifne (k_X3_measure_78 Qp X) σ lv st fun σ lv st =>
    o_aload 0 σ lv st fun σ lv st =>
    o_aload 1 σ lv st fun σ lv st =>
    o_get 0 7 σ lv st fun σ lv st =>
    o_iload 3 σ lv st fun σ lv st =>
    o_aald σ lv st fun σ lv st =>
    o_get 10 0 σ lv st fun σ lv st =>
    o_callV 1 12 S_X3_addProducts σ lv st fun σ lv st =>
    k_X3_measure_78 Qp X σ lv st
def k_X3_measure_132 (Qp : Option q_V → q_M → Prop) (X : Nat → q_K) (σ : q_M) (lv : q_L) (st : q_S) : Prop :=
    o_vret Qp σ lv st
def k_X3_measure_95 (Qp : Option q_V → q_M → Prop) (X : Nat → q_K) (σ : q_M) (lv : q_L) (st : q_S) : Prop :=
    o_iload 3 σ lv st fun σ lv st =>
    o_ic 3 σ lv st fun σ lv st =>
    o_icmpge (k_X3_measure_132 Qp X) σ lv st fun σ lv st =>
    o_aload 0 σ lv st fun σ lv st =>
    o_dup σ lv st fun σ lv st =>
    o_get 12 3 σ lv st fun σ lv st =>
    o_aload 0 σ lv st fun σ lv st =>
    o_get 12 0 σ lv st fun σ lv st =>
    o_ic 0 σ lv st fun σ lv st =>
    o_aald σ lv st fun σ lv st =>
    o_iload 3 σ lv st fun σ lv st =>
    o_lald σ lv st fun σ lv st =>
    o_aload 0 σ lv st fun σ lv st =>
    o_get 12 1 σ lv st fun σ lv st =>
    o_ic 0 σ lv st fun σ lv st =>
    o_aald σ lv st fun σ lv st =>
    o_iload 3 σ lv st fun σ lv st =>
    o_lald σ lv st fun σ lv st =>
    o_lmul σ lv st fun σ lv st =>
    o_ladd σ lv st fun σ lv st =>
    o_putl 12 0 σ lv st fun σ lv st =>
    o_iinc 3 1 σ lv st fun σ lv st =>
    o_goto (X 95) σ lv st
def k_X5_limited_21 (Qp : Option q_V → q_M → Prop) (X : Nat → q_K) (σ : q_M) (lv : q_L) (st : q_S) : Prop :=
    o_lret Qp σ lv st
def k_X5_limited_20 (Qp : Option q_V → q_M → Prop) (X : Nat → q_K) (σ : q_M) (lv : q_L) (st : q_S) : Prop :=
    o_lload 0 σ lv st fun σ lv st =>
    k_X5_limited_21 Qp X σ lv st
def k_X5_limited_8 (Qp : Option q_V → q_M → Prop) (X : Nat → q_K) (σ : q_M) (lv : q_L) (st : q_S) : Prop :=
    o_lload 0 σ lv st fun σ lv st =>
    o_lload 4 σ lv st fun σ lv st =>
    o_lcmp σ lv st fun σ lv st =>
    o_ifle (k_X5_limited_20 Qp X) σ lv st fun σ lv st =>
    o_lload 4 σ lv st fun σ lv st =>
    o_goto (k_X5_limited_21 Qp X) σ lv st
def k_X5_limited_0 (Qp : Option q_V → q_M → Prop) (X : Nat → q_K) (σ : q_M) (lv : q_L) (st : q_S) : Prop :=
    o_lload 0 σ lv st fun σ lv st =>
    o_lload 2 σ lv st fun σ lv st =>
    o_lcmp σ lv st fun σ lv st =>
    o_ifge (k_X5_limited_8 Qp X) σ lv st fun σ lv st =>
    o_lload 2 σ lv st fun σ lv st =>
    o_lret Qp σ lv st
def k_X0_findWish_0 (Qp : Option q_V → q_M → Prop) (X : Nat → q_K) (σ : q_M) (lv : q_L) (st : q_S) : Prop :=
    o_aload 0 σ lv st fun σ lv st =>
    o_get 0 1 σ lv st fun σ lv st =>
    o_ic 2 σ lv st fun σ lv st =>
    o_iald σ lv st fun σ lv st =>
    o_i2l σ lv st fun σ lv st =>
    o_lstore 1 σ lv st fun σ lv st =>
    o_aload 0 σ lv st fun σ lv st =>
    o_get 0 1 σ lv st fun σ lv st =>
    o_ic 3 σ lv st fun σ lv st =>
    o_iald σ lv st fun σ lv st =>
    o_i2l σ lv st fun σ lv st =>
    o_lstore 3 σ lv st fun σ lv st =>
    o_ic 0 σ lv st fun σ lv st =>
    o_istore 5 σ lv st fun σ lv st =>
    X 19 σ lv st
def k_X0_findWish_109 (Qp : Option q_V → q_M → Prop) (X : Nat → q_K) (σ : q_M) (lv : q_L) (st : q_S) : Prop :=
    o_vret Qp σ lv st
def k_X0_findWish_19 (Qp : Option q_V → q_M → Prop) (X : Nat → q_K) (σ : q_M) (lv : q_L) (st : q_S) : Prop :=
    o_iload 5 σ lv st fun σ lv st =>
    o_ic 3 σ lv st fun σ lv st =>
    o_icmpge (k_X0_findWish_109 Qp X) σ lv st fun σ lv st =>
    o_aload 0 σ lv st fun σ lv st =>
    o_get 0 1 σ lv st fun σ lv st =>
    o_ic 0 σ lv st fun σ lv st =>
    o_iald σ lv st fun σ lv st =>
    o_i2l σ lv st fun σ lv st =>
    o_aload 0 σ lv st fun σ lv st =>
    o_get 0 2 σ lv st fun σ lv st =>
    o_ic 1 σ lv st fun σ lv st =>
    o_aald σ lv st fun σ lv st =>
    o_iload 5 σ lv st fun σ lv st =>
    o_iald σ lv st fun σ lv st =>
    o_i2l σ lv st fun σ lv st =>
    o_aload 0 σ lv st fun σ lv st =>
    o_get 0 3 σ lv st fun σ lv st =>
    o_iload 5 σ lv st fun σ lv st =>
    o_lald σ lv st fun σ lv st =>
    o_lsub σ lv st fun σ lv st =>
    o_lmul σ lv st fun σ lv st =>
    o_lstore 6 σ lv st fun σ lv st =>
    o_lload 6 σ lv st fun σ lv st =>
    o_lc (100) σ lv st fun σ lv st =>
    o_callS 2 S_X5_quotient σ lv st fun σ lv st =>
    o_lload 1 σ lv st fun σ lv st =>
    o_lneg σ lv st fun σ lv st =>
    o_lload 1 σ lv st fun σ lv st =>
    o_callS 3 S_X5_limited σ lv st fun σ lv st =>
    o_lstore 8 σ lv st fun σ lv st =>
    o_aload 0 σ lv st fun σ lv st =>
    o_get 0 1 σ lv st fun σ lv st =>
    o_ic 1 σ lv st fun σ lv st =>
    o_iald σ lv st fun σ lv st =>
    o_i2l σ lv st fun σ lv st =>
    o_lload 8 σ lv st fun σ lv st =>
    o_aload 0 σ lv st fun σ lv st =>
    o_iload 5 σ lv st fun σ lv st =>
    o_callV 1 0 S_X0_rate σ lv st fun σ lv st =>
    o_lsub σ lv st fun σ lv st =>
    o_lmul σ lv st fun σ lv st =>
    o_lstore 10 σ lv st fun σ lv st =>
    o_aload 0 σ lv st fun σ lv st =>
    o_get 0 6 σ lv st fun σ lv st =>
    o_iload 5 σ lv st fun σ lv st =>
    o_lload 10 σ lv st fun σ lv st =>
    o_lload 3 σ lv st fun σ lv st =>
    o_lneg σ lv st fun σ lv st =>
    o_lload 3 σ lv st fun σ lv st =>
    o_callS 3 S_X5_limited σ lv st fun σ lv st =>
    o_last σ lv st fun σ lv st =>
    o_iinc 5 1 σ lv st fun σ lv st =>
    o_goto (X 19) σ lv st
def k_X3_spans_14 (Qp : Option q_V → q_M → Prop) (X : Nat → q_K) (σ : q_M) (lv : q_L) (st : q_S) : Prop :=
    o_zret Qp σ lv st
def k_X3_spans_13 (Qp : Option q_V → q_M → Prop) (X : Nat → q_K) (σ : q_M) (lv : q_L) (st : q_S) : Prop :=
    o_ic 0 σ lv st fun σ lv st =>
    k_X3_spans_14 Qp X σ lv st
def k_X3_spans_0 (Qp : Option q_V → q_M → Prop) (X : Nat → q_K) (σ : q_M) (lv : q_L) (st : q_S) : Prop :=
    o_aload 0 σ lv st fun σ lv st =>
    o_get 12 3 σ lv st fun σ lv st =>
    o_lc 0 σ lv st fun σ lv st =>
    o_lcmp σ lv st fun σ lv st =>
    o_ifle (k_X3_spans_13 Qp X) σ lv st fun σ lv st =>
    o_ic 1 σ lv st fun σ lv st =>
    o_goto (k_X3_spans_14 Qp X) σ lv st
def k_X0_tellNoSpan_0 (Qp : Option q_V → q_M → Prop) (X : Nat → q_K) (σ : q_M) (lv : q_L) (st : q_S) : Prop :=
    o_aload 0 σ lv st fun σ lv st =>
    o_get 0 9 σ lv st fun σ lv st =>
    o_ic 0 σ lv st fun σ lv st =>
    o_ic 1 σ lv st fun σ lv st =>
    o_iast σ lv st fun σ lv st =>
    o_aload 0 σ lv st fun σ lv st =>
    o_ic 1 σ lv st fun σ lv st =>
    o_puti 0 2 σ lv st fun σ lv st =>
    o_ic 0 σ lv st fun σ lv st =>
    o_istore 1 σ lv st fun σ lv st =>
    X 14 σ lv st
def k_X0_tellNoSpan_63 (Qp : Option q_V → q_M → Prop) (X : Nat → q_K) (σ : q_M) (lv : q_L) (st : q_S) : Prop :=
    o_vret Qp σ lv st
def k_X0_tellNoSpan_57 (Qp : Option q_V → q_M → Prop) (X : Nat → q_K) (σ : q_M) (lv : q_L) (st : q_S) : Prop :=
    o_iinc 1 1 σ lv st fun σ lv st =>
    o_goto (X 14) σ lv st
def k_X0_tellNoSpan_14 (Qp : Option q_V → q_M → Prop) (X : Nat → q_K) (σ : q_M) (lv : q_L) (st : q_S) : Prop :=
    o_iload 1 σ lv st fun σ lv st =>
    o_aload 0 σ lv st fun σ lv st =>
    o_get 0 8 σ lv st fun σ lv st =>
    o_icmpge (k_X0_tellNoSpan_63 Qp X) σ lv st fun σ lv st =>
    o_aload 0 σ lv st fun σ lv st =>
    o_get 0 10 σ lv st fun σ lv st =>
    o_ic 1 σ lv st fun σ lv st =>
    o_icmpne (k_X0_tellNoSpan_63 Qp X) σ lv st fun σ lv st =>
    o_aload 0 σ lv st fun σ lv st =>
    o_get 0 7 σ lv st fun σ lv st =>
    o_iload 1 σ lv st fun σ lv st =>
    o_aald σ lv st fun σ lv st =>
    o_get 10 4 σ lv st fun σ lv st =>
    o_ifeq (k_X0_tellNoSpan_57 Qp X) σ lv st fun σ lv st =>
    o_aload 0 σ lv st fun σ lv st =>
    o_get 0 9 σ lv st fun σ lv st =>
    o_ic 1 σ lv st fun σ lv st =>
    o_ic (10) σ lv st fun σ lv st =>
    o_iload 1 σ lv st fun σ lv st =>
    o_iadd σ lv st fun σ lv st =>
    o_iast σ lv st fun σ lv st =>
    o_aload 0 σ lv st fun σ lv st =>
    o_ic 2 σ lv st fun σ lv st =>
    o_puti 0 2 σ lv st fun σ lv st =>
    k_X0_tellNoSpan_57 Qp X σ lv st
def k_X0_tellMet_0 (Qp : Option q_V → q_M → Prop) (X : Nat → q_K) (σ : q_M) (lv : q_L) (st : q_S) : Prop :=
    o_aload 0 σ lv st fun σ lv st =>
    o_get 0 9 σ lv st fun σ lv st =>
    o_ic 0 σ lv st fun σ lv st =>
    o_ic 0 σ lv st fun σ lv st =>
    o_iast σ lv st fun σ lv st =>
    o_aload 0 σ lv st fun σ lv st =>
    o_ic 1 σ lv st fun σ lv st =>
    o_puti 0 2 σ lv st fun σ lv st =>
    o_vret Qp σ lv st
def k_X3_aim_0 (Qp : Option q_V → q_M → Prop) (X : Nat → q_K) (σ : q_M) (lv : q_L) (st : q_S) : Prop :=
    o_ic 0 σ lv st fun σ lv st =>
    o_istore 7 σ lv st fun σ lv st =>
    X 3 σ lv st
def k_X3_aim_58 (Qp : Option q_V → q_M → Prop) (X : Nat → q_K) (σ : q_M) (lv : q_L) (st : q_S) : Prop :=
    o_vret Qp σ lv st
def k_X3_aim_3 (Qp : Option q_V → q_M → Prop) (X : Nat → q_K) (σ : q_M) (lv : q_L) (st : q_S) : Prop :=
    o_iload 7 σ lv st fun σ lv st =>
    o_ic 3 σ lv st fun σ lv st =>
    o_icmpge (k_X3_aim_58 Qp X) σ lv st fun σ lv st =>
    o_aload 0 σ lv st fun σ lv st =>
    o_get 12 2 σ lv st fun σ lv st =>
    o_iload 7 σ lv st fun σ lv st =>
    o_aload 0 σ lv st fun σ lv st =>
    o_get 12 1 σ lv st fun σ lv st =>
    o_iload 7 σ lv st fun σ lv st =>
    o_aald σ lv st fun σ lv st =>
    o_ic 0 σ lv st fun σ lv st =>
    o_lald σ lv st fun σ lv st =>
    o_lload 1 σ lv st fun σ lv st =>
    o_lmul σ lv st fun σ lv st =>
    o_aload 0 σ lv st fun σ lv st =>
    o_get 12 1 σ lv st fun σ lv st =>
    o_iload 7 σ lv st fun σ lv st =>
    o_aald σ lv st fun σ lv st =>
    o_ic 1 σ lv st fun σ lv st =>
    o_lald σ lv st fun σ lv st =>
    o_lload 3 σ lv st fun σ lv st =>
    o_lmul σ lv st fun σ lv st =>
    o_ladd σ lv st fun σ lv st =>
    o_aload 0 σ lv st fun σ lv st =>
    o_get 12 1 σ lv st fun σ lv st =>
    o_iload 7 σ lv st fun σ lv st =>
    o_aald σ lv st fun σ lv st =>
    o_ic 2 σ lv st fun σ lv st =>
    o_lald σ lv st fun σ lv st =>
    o_lload 5 σ lv st fun σ lv st =>
    o_lmul σ lv st fun σ lv st =>
    o_ladd σ lv st fun σ lv st =>
    o_last σ lv st fun σ lv st =>
    o_iinc 7 1 σ lv st fun σ lv st =>
    o_goto (X 3) σ lv st
def k_X3_wishOf_0 (Qp : Option q_V → q_M → Prop) (X : Nat → q_K) (σ : q_M) (lv : q_L) (st : q_S) : Prop :=
    o_lc 0 σ lv st fun σ lv st =>
    o_lstore 2 σ lv st fun σ lv st =>
    o_ic 0 σ lv st fun σ lv st =>
    o_istore 4 σ lv st fun σ lv st =>
    X 5 σ lv st
def k_X3_wishOf_68 (Qp : Option q_V → q_M → Prop) (X : Nat → q_K) (σ : q_M) (lv : q_L) (st : q_S) : Prop :=
    o_lret Qp σ lv st
def k_X3_wishOf_67 (Qp : Option q_V → q_M → Prop) (X : Nat → q_K) (σ : q_M) (lv : q_L) (st : q_S) : Prop :=
    o_lc 0 σ lv st fun σ lv st =>
    k_X3_wishOf_68 Qp X σ lv st
def k_X3_wishOf_36 (Qp : Option q_V → q_M → Prop) (X : Nat → q_K) (σ : q_M) (lv : q_L) (st : q_S) : Prop :=
    o_aload 0 σ lv st fun σ lv st =>
    o_callV 0 12 S_X3_spans σ lv st fun σ lv st =>
    o_ifeq (k_X3_wishOf_67 Qp X) σ lv st fun σ lv st =>
    o_aload 0 σ lv st fun σ lv st =>
    o_get 12 3 σ lv st fun σ lv st =>
    o_lc (2) σ lv st fun σ lv st =>
    o_lload 2 σ lv st fun σ lv st =>
    o_lmul σ lv st fun σ lv st =>
    o_lsub σ lv st fun σ lv st =>
    o_lc (2) σ lv st fun σ lv st =>
    o_aload 0 σ lv st fun σ lv st =>
    o_get 12 3 σ lv st fun σ lv st =>
    o_lmul σ lv st fun σ lv st =>
    o_callS 2 S_J9_floorDiv_f86c9 σ lv st fun σ lv st =>
    o_goto (k_X3_wishOf_68 Qp X) σ lv st
def k_X3_wishOf_5 (Qp : Option q_V → q_M → Prop) (X : Nat → q_K) (σ : q_M) (lv : q_L) (st : q_S) : Prop :=
    o_iload 4 σ lv st fun σ lv st =>
    o_ic 3 σ lv st fun σ lv st =>
    o_icmpge (k_X3_wishOf_36 Qp X) σ lv st fun σ lv st =>
    o_lload 2 σ lv st fun σ lv st =>
    o_aload 1 σ lv st fun σ lv st =>
    o_get 10 0 σ lv st fun σ lv st =>
    o_iload 4 σ lv st fun σ lv st =>
    o_iald σ lv st fun σ lv st =>
    o_i2l σ lv st fun σ lv st =>
    o_aload 0 σ lv st fun σ lv st =>
    o_get 12 2 σ lv st fun σ lv st =>
    o_iload 4 σ lv st fun σ lv st =>
    o_lald σ lv st fun σ lv st =>
    o_lmul σ lv st fun σ lv st =>
    o_ladd σ lv st fun σ lv st =>
    o_lstore 2 σ lv st fun σ lv st =>
    o_iinc 4 1 σ lv st fun σ lv st =>
    o_goto (X 5) σ lv st
def k_X4_allowedByTorque_0 (Qp : Option q_V → q_M → Prop) (X : Nat → q_K) (σ : q_M) (lv : q_L) (st : q_S) : Prop :=
    o_lload 1 σ lv st fun σ lv st =>
    o_aload 0 σ lv st fun σ lv st =>
    o_get 10 3 σ lv st fun σ lv st =>
    o_ineg σ lv st fun σ lv st =>
    o_i2l σ lv st fun σ lv st =>
    o_aload 0 σ lv st fun σ lv st =>
    o_get 10 3 σ lv st fun σ lv st =>
    o_i2l σ lv st fun σ lv st =>
    o_callS 3 S_X5_limited σ lv st fun σ lv st =>
    o_lret Qp σ lv st
def k_X4_allowedByMomentum_0 (Qp : Option q_V → q_M → Prop) (X : Nat → q_K) (σ : q_M) (lv : q_L) (st : q_S) : Prop :=
    o_ic 0 σ lv st fun σ lv st =>
    o_aload 0 σ lv st fun σ lv st =>
    o_get 10 2 σ lv st fun σ lv st =>
    o_ineg σ lv st fun σ lv st =>
    o_aload 0 σ lv st fun σ lv st =>
    o_get 10 1 σ lv st fun σ lv st =>
    o_isub σ lv st fun σ lv st =>
    o_mmin σ lv st fun σ lv st =>
    o_i2l σ lv st fun σ lv st =>
    o_lstore 3 σ lv st fun σ lv st =>
    o_ic 0 σ lv st fun σ lv st =>
    o_aload 0 σ lv st fun σ lv st =>
    o_get 10 2 σ lv st fun σ lv st =>
    o_aload 0 σ lv st fun σ lv st =>
    o_get 10 1 σ lv st fun σ lv st =>
    o_isub σ lv st fun σ lv st =>
    o_mmax σ lv st fun σ lv st =>
    o_i2l σ lv st fun σ lv st =>
    o_lstore 5 σ lv st fun σ lv st =>
    o_lload 1 σ lv st fun σ lv st =>
    o_lload 3 σ lv st fun σ lv st =>
    o_lload 5 σ lv st fun σ lv st =>
    o_callS 3 S_X5_limited σ lv st fun σ lv st =>
    o_lret Qp σ lv st
def k_X0_isMet_14 (Qp : Option q_V → q_M → Prop) (X : Nat → q_K) (σ : q_M) (lv : q_L) (st : q_S) : Prop :=
    o_zret Qp σ lv st
def k_X0_isMet_13 (Qp : Option q_V → q_M → Prop) (X : Nat → q_K) (σ : q_M) (lv : q_L) (st : q_S) : Prop :=
    o_ic 0 σ lv st fun σ lv st =>
    k_X0_isMet_14 Qp X σ lv st
def k_X0_isMet_0 (Qp : Option q_V → q_M → Prop) (X : Nat → q_K) (σ : q_M) (lv : q_L) (st : q_S) : Prop :=
    o_aload 0 σ lv st fun σ lv st =>
    o_get 0 9 σ lv st fun σ lv st =>
    o_ic 0 σ lv st fun σ lv st =>
    o_iald σ lv st fun σ lv st =>
    o_ifne (k_X0_isMet_13 Qp X) σ lv st fun σ lv st =>
    o_ic 1 σ lv st fun σ lv st =>
    o_goto (k_X0_isMet_14 Qp X) σ lv st
def k_X0_tellLimited_31 (Qp : Option q_V → q_M → Prop) (X : Nat → q_K) (σ : q_M) (lv : q_L) (st : q_S) : Prop :=
    o_iast σ lv st fun σ lv st =>
    o_aload 0 σ lv st fun σ lv st =>
    o_ic 3 σ lv st fun σ lv st =>
    o_puti 0 2 σ lv st fun σ lv st =>
    o_vret Qp σ lv st
def k_X0_tellLimited_30 (Qp : Option q_V → q_M → Prop) (X : Nat → q_K) (σ : q_M) (lv : q_L) (st : q_S) : Prop :=
    o_ic 3 σ lv st fun σ lv st =>
    k_X0_tellLimited_31 Qp X σ lv st
def k_X0_tellLimited_0 (Qp : Option q_V → q_M → Prop) (X : Nat → q_K) (σ : q_M) (lv : q_L) (st : q_S) : Prop :=
    o_aload 0 σ lv st fun σ lv st =>
    o_get 0 9 σ lv st fun σ lv st =>
    o_ic 0 σ lv st fun σ lv st =>
    o_ic 2 σ lv st fun σ lv st =>
    o_iast σ lv st fun σ lv st =>
    o_aload 0 σ lv st fun σ lv st =>
    o_get 0 9 σ lv st fun σ lv st =>
    o_ic 1 σ lv st fun σ lv st =>
    o_ic (20) σ lv st fun σ lv st =>
    o_iload 1 σ lv st fun σ lv st =>
    o_iadd σ lv st fun σ lv st =>
    o_iast σ lv st fun σ lv st =>
    o_aload 0 σ lv st fun σ lv st =>
    o_get 0 9 σ lv st fun σ lv st =>
    o_ic 2 σ lv st fun σ lv st =>
    o_iload 2 σ lv st fun σ lv st =>
    o_ifeq (k_X0_tellLimited_30 Qp X) σ lv st fun σ lv st =>
    o_ic 4 σ lv st fun σ lv st =>
    o_goto (k_X0_tellLimited_31 Qp X) σ lv st
def k_X3_give_0 (Qp : Option q_V → q_M → Prop) (X : Nat → q_K) (σ : q_M) (lv : q_L) (st : q_S) : Prop :=
    o_aload 1 σ lv st fun σ lv st =>
    o_get 0 7 σ lv st fun σ lv st =>
    o_iload 2 σ lv st fun σ lv st =>
    o_aald σ lv st fun σ lv st =>
    o_astore 3 σ lv st fun σ lv st =>
    o_aload 0 σ lv st fun σ lv st =>
    o_aload 3 σ lv st fun σ lv st =>
    o_callV 1 12 S_X3_wishOf σ lv st fun σ lv st =>
    o_lstore 4 σ lv st fun σ lv st =>
    o_aload 3 σ lv st fun σ lv st =>
    o_lload 4 σ lv st fun σ lv st =>
    o_callV 1 10 S_X4_allowedByTorque σ lv st fun σ lv st =>
    o_lstore 6 σ lv st fun σ lv st =>
    o_aload 3 σ lv st fun σ lv st =>
    o_lload 6 σ lv st fun σ lv st =>
    o_callV 1 10 S_X4_allowedByMomentum σ lv st fun σ lv st =>
    o_lstore 8 σ lv st fun σ lv st =>
    o_aload 3 σ lv st fun σ lv st =>
    o_lload 8 σ lv st fun σ lv st =>
    o_l2i σ lv st fun σ lv st =>
    o_puti 10 4 σ lv st fun σ lv st =>
    o_aload 3 σ lv st fun σ lv st =>
    o_dup σ lv st fun σ lv st =>
    o_get 10 1 σ lv st fun σ lv st =>
    o_aload 3 σ lv st fun σ lv st =>
    o_get 10 5 σ lv st fun σ lv st =>
    o_iadd σ lv st fun σ lv st =>
    o_puti 10 0 σ lv st fun σ lv st =>
    o_ic 0 σ lv st fun σ lv st =>
    o_istore 10 σ lv st fun σ lv st =>
    X 53 σ lv st
def k_X3_give_119 (Qp : Option q_V → q_M → Prop) (X : Nat → q_K) (σ : q_M) (lv : q_L) (st : q_S) : Prop :=
    o_vret Qp σ lv st
def k_X3_give_116 (Qp : Option q_V → q_M → Prop) (X : Nat → q_K) (σ : q_M) (lv : q_L) (st : q_S) : Prop :=
    o_callV 2 0 S_X0_tellLimited σ lv st fun σ lv st =>
    k_X3_give_119 Qp X σ lv st
def k_X3_give_115 (Qp : Option q_V → q_M → Prop) (X : Nat → q_K) (σ : q_M) (lv : q_L) (st : q_S) : Prop :=
    o_ic 0 σ lv st fun σ lv st =>
    k_X3_give_116 Qp X σ lv st
def k_X3_give_86 (Qp : Option q_V → q_M → Prop) (X : Nat → q_K) (σ : q_M) (lv : q_L) (st : q_S) : Prop :=
    o_lload 8 σ lv st fun σ lv st =>
    o_lload 4 σ lv st fun σ lv st =>
    o_lcmp σ lv st fun σ lv st =>
    o_ifeq (k_X3_give_119 Qp X) σ lv st fun σ lv st =>
    o_aload 1 σ lv st fun σ lv st =>
    o_callV 0 0 S_X0_isMet σ lv st fun σ lv st =>
    o_ifeq (k_X3_give_119 Qp X) σ lv st fun σ lv st =>
    o_aload 1 σ lv st fun σ lv st =>
    o_iload 2 σ lv st fun σ lv st =>
    o_lload 8 σ lv st fun σ lv st =>
    o_lload 6 σ lv st fun σ lv st =>
    o_lcmp σ lv st fun σ lv st =>
    o_ifne (k_X3_give_115 Qp X) σ lv st fun σ lv st =>
    o_ic 1 σ lv st fun σ lv st =>
    o_goto (k_X3_give_116 Qp X) σ lv st
def k_X3_give_53 (Qp : Option q_V → q_M → Prop) (X : Nat → q_K) (σ : q_M) (lv : q_L) (st : q_S) : Prop :=
    o_iload 10 σ lv st fun σ lv st =>
    o_ic 3 σ lv st fun σ lv st =>
    o_icmpge (k_X3_give_86 Qp X) σ lv st fun σ lv st =>
    o_aload 1 σ lv st fun σ lv st =>
    o_get 0 4 σ lv st fun σ lv st =>
    o_iload 10 σ lv st fun σ lv st =>
    o_dup2 σ lv st fun σ lv st =>
    o_lald σ lv st fun σ lv st =>
    o_aload 3 σ lv st fun σ lv st =>
    o_get 10 0 σ lv st fun σ lv st =>
    o_iload 10 σ lv st fun σ lv st =>
    o_iald σ lv st fun σ lv st =>
    o_i2l σ lv st fun σ lv st =>
    o_lload 8 σ lv st fun σ lv st =>
    o_lmul σ lv st fun σ lv st =>
    o_lsub σ lv st fun σ lv st =>
    o_last σ lv st fun σ lv st =>
    o_iinc 10 1 σ lv st fun σ lv st =>
    o_goto (X 53) σ lv st
def k_X3_share_0 (Qp : Option q_V → q_M → Prop) (X : Nat → q_K) (σ : q_M) (lv : q_L) (st : q_S) : Prop :=
    o_ic 0 σ lv st fun σ lv st =>
    o_istore 2 σ lv st fun σ lv st =>
    X 2 σ lv st
def k_X3_share_38 (Qp : Option q_V → q_M → Prop) (X : Nat → q_K) (σ : q_M) (lv : q_L) (st : q_S) : Prop :=
    o_aload 1 σ lv st fun σ lv st =>
    o_callV 0 0 S_X0_tellMet σ lv st fun σ lv st =>
    o_aload 0 σ lv st fun σ lv st =>
    o_aload 1 σ lv st fun σ lv st =>
    o_get 0 6 σ lv st fun σ lv st =>
    o_ic 0 σ lv st fun σ lv st =>
    o_lald σ lv st fun σ lv st =>
    o_aload 1 σ lv st fun σ lv st =>
    o_get 0 6 σ lv st fun σ lv st =>
    o_ic 1 σ lv st fun σ lv st =>
    o_lald σ lv st fun σ lv st =>
    o_aload 1 σ lv st fun σ lv st =>
    o_get 0 6 σ lv st fun σ lv st =>
    o_ic 2 σ lv st fun σ lv st =>
    o_lald σ lv st fun σ lv st =>
    o_callV 3 12 S_X3_aim σ lv st fun σ lv st =>
    o_ic 0 σ lv st fun σ lv st =>
    o_istore 2 σ lv st fun σ lv st =>
    X 66 σ lv st
def k_X3_share_26 (Qp : Option q_V → q_M → Prop) (X : Nat → q_K) (σ : q_M) (lv : q_L) (st : q_S) : Prop :=
    o_aload 0 σ lv st fun σ lv st =>
    o_callV 0 12 S_X3_spans σ lv st fun σ lv st =>
    o_ifne (k_X3_share_38 Qp X) σ lv st fun σ lv st =>
    o_aload 1 σ lv st fun σ lv st =>
    o_callV 0 0 S_X0_tellNoSpan σ lv st fun σ lv st =>
    o_vret Qp σ lv st
def k_X3_share_2 (Qp : Option q_V → q_M → Prop) (X : Nat → q_K) (σ : q_M) (lv : q_L) (st : q_S) : Prop :=
    o_iload 2 σ lv st fun σ lv st =>
    o_aload 1 σ lv st fun σ lv st =>
    o_get 0 8 σ lv st fun σ lv st =>
    o_icmpge (k_X3_share_26 Qp X) σ lv st fun σ lv st =>
    o_aload 1 σ lv st fun σ lv st =>
    o_get 0 7 σ lv st fun σ lv st =>
    o_iload 2 σ lv st fun σ lv st =>
    o_aald σ lv st fun σ lv st =>
    o_ic 0 σ lv st fun σ lv st =>
    o_puti 10 4 σ lv st fun σ lv st =>
    o_iinc 2 1 σ lv st fun σ lv st =>
    o_goto (X 2) σ lv st
def k_X3_share_98 (Qp : Option q_V → q_M → Prop) (X : Nat → q_K) (σ : q_M) (lv : q_L) (st : q_S) : Prop :=
    o_vret Qp σ lv st
def k_X3_share_92 (Qp : Option q_V → q_M → Prop) (X : Nat → q_K) (σ : q_M) (lv : q_L) (st : q_S) : Prop :=
    o_iinc 2 1 σ lv st fun σ lv st =>
    o_goto (X 66) σ lv st
def k_X3_share_66 (Qp : Option q_V → q_M → Prop) (X : Nat → q_K) (σ : q_M) (lv : q_L) (st : q_S) : Prop :=
    o_iload 2 σ lv st fun σ lv st =>
    o_aload 1 σ lv st fun σ lv st =>
    o_get 0 8 σ lv st fun σ lv st =>
    o_icmpge (k_X3_share_98 Qp X) σ lv st fun σ lv st =>
    o_aload 1 σ lv st fun σ lv st =>
    o_get 0 7 σ lv st fun σ lv st =>
    o_iload 2 σ lv st fun σ lv st =>
    o_aald σ lv st fun σ lv st =>
    o_get 10 4 σ lv st fun σ lv st =>
    o_ifne (k_X3_share_92 Qp X) σ lv st fun σ lv st =>
    o_aload 0 σ lv st fun σ lv st =>
    o_aload 1 σ lv st fun σ lv st =>
    o_iload 2 σ lv st fun σ lv st =>
    o_callV 2 12 S_X3_give σ lv st fun σ lv st =>
    k_X3_share_92 Qp X σ lv st
def k_X0_wheelMomentum_0 (Qp : Option q_V → q_M → Prop) (X : Nat → q_K) (σ : q_M) (lv : q_L) (st : q_S) : Prop :=
    o_lc 0 σ lv st fun σ lv st =>
    o_lstore 2 σ lv st fun σ lv st =>
    o_ic 0 σ lv st fun σ lv st =>
    o_istore 4 σ lv st fun σ lv st =>
    X 5 σ lv st
def k_X0_wheelMomentum_48 (Qp : Option q_V → q_M → Prop) (X : Nat → q_K) (σ : q_M) (lv : q_L) (st : q_S) : Prop :=
    o_lload 2 σ lv st fun σ lv st =>
    o_lret Qp σ lv st
def k_X0_wheelMomentum_5 (Qp : Option q_V → q_M → Prop) (X : Nat → q_K) (σ : q_M) (lv : q_L) (st : q_S) : Prop :=
    o_iload 4 σ lv st fun σ lv st =>
    o_aload 0 σ lv st fun σ lv st =>
    o_get 0 8 σ lv st fun σ lv st =>
    o_icmpge (k_X0_wheelMomentum_48 Qp X) σ lv st fun σ lv st =>
    o_lload 2 σ lv st fun σ lv st =>
    o_aload 0 σ lv st fun σ lv st =>
    o_get 0 7 σ lv st fun σ lv st =>
    o_iload 4 σ lv st fun σ lv st =>
    o_aald σ lv st fun σ lv st =>
    o_get 10 0 σ lv st fun σ lv st =>
    o_iload 1 σ lv st fun σ lv st =>
    o_iald σ lv st fun σ lv st =>
    o_i2l σ lv st fun σ lv st =>
    o_aload 0 σ lv st fun σ lv st =>
    o_get 0 7 σ lv st fun σ lv st =>
    o_iload 4 σ lv st fun σ lv st =>
    o_aald σ lv st fun σ lv st =>
    o_get 10 1 σ lv st fun σ lv st =>
    o_i2l σ lv st fun σ lv st =>
    o_lmul σ lv st fun σ lv st =>
    o_ladd σ lv st fun σ lv st =>
    o_lstore 2 σ lv st fun σ lv st =>
    o_iinc 4 1 σ lv st fun σ lv st =>
    o_goto (X 5) σ lv st
def k_X2_crossed_0 (Qp : Option q_V → q_M → Prop) (X : Nat → q_K) (σ : q_M) (lv : q_L) (st : q_S) : Prop :=
    o_iload 2 σ lv st fun σ lv st =>
    o_ic 1 σ lv st fun σ lv st =>
    o_callS 2 S_X5_axisAfter σ lv st fun σ lv st =>
    o_istore 3 σ lv st fun σ lv st =>
    o_iload 2 σ lv st fun σ lv st =>
    o_ic 2 σ lv st fun σ lv st =>
    o_callS 2 S_X5_axisAfter σ lv st fun σ lv st =>
    o_istore 4 σ lv st fun σ lv st =>
    o_aload 0 σ lv st fun σ lv st =>
    o_iload 3 σ lv st fun σ lv st =>
    o_lald σ lv st fun σ lv st =>
    o_aload 1 σ lv st fun σ lv st =>
    o_iload 4 σ lv st fun σ lv st =>
    o_iald σ lv st fun σ lv st =>
    o_i2l σ lv st fun σ lv st =>
    o_lmul σ lv st fun σ lv st =>
    o_aload 0 σ lv st fun σ lv st =>
    o_iload 4 σ lv st fun σ lv st =>
    o_lald σ lv st fun σ lv st =>
    o_aload 1 σ lv st fun σ lv st =>
    o_iload 3 σ lv st fun σ lv st =>
    o_iald σ lv st fun σ lv st =>
    o_i2l σ lv st fun σ lv st =>
    o_lmul σ lv st fun σ lv st =>
    o_lsub σ lv st fun σ lv st =>
    o_lret Qp σ lv st
def k_X2_letGo_0 (Qp : Option q_V → q_M → Prop) (X : Nat → q_K) (σ : q_M) (lv : q_L) (st : q_S) : Prop :=
    o_aload 1 σ lv st fun σ lv st =>
    o_get 0 2 σ lv st fun σ lv st =>
    o_ic 2 σ lv st fun σ lv st =>
    o_aald σ lv st fun σ lv st =>
    o_astore 2 σ lv st fun σ lv st =>
    o_aload 1 σ lv st fun σ lv st =>
    o_get 0 1 σ lv st fun σ lv st =>
    o_ic 4 σ lv st fun σ lv st =>
    o_iald σ lv st fun σ lv st =>
    o_i2l σ lv st fun σ lv st =>
    o_lstore 3 σ lv st fun σ lv st =>
    o_ic 0 σ lv st fun σ lv st =>
    o_istore 5 σ lv st fun σ lv st =>
    X 18 σ lv st
def k_X2_letGo_43 (Qp : Option q_V → q_M → Prop) (X : Nat → q_K) (σ : q_M) (lv : q_L) (st : q_S) : Prop :=
    o_ic 0 σ lv st fun σ lv st =>
    o_istore 5 σ lv st fun σ lv st =>
    X 46 σ lv st
def k_X2_letGo_18 (Qp : Option q_V → q_M → Prop) (X : Nat → q_K) (σ : q_M) (lv : q_L) (st : q_S) : Prop :=
    o_iload 5 σ lv st fun σ lv st =>
    o_ic 3 σ lv st fun σ lv st =>
    o_icmpge (k_X2_letGo_43 Qp X) σ lv st fun σ lv st =>
    o_aload 0 σ lv st fun σ lv st =>
    o_get 18 0 σ lv st fun σ lv st =>
    o_iload 5 σ lv st fun σ lv st =>
    o_aload 1 σ lv st fun σ lv st =>
    o_iload 5 σ lv st fun σ lv st =>
    o_callV 1 0 S_X0_wheelMomentum σ lv st fun σ lv st =>
    o_last σ lv st fun σ lv st =>
    o_iinc 5 1 σ lv st fun σ lv st =>
    o_goto (X 18) σ lv st
def k_X2_letGo_87 (Qp : Option q_V → q_M → Prop) (X : Nat → q_K) (σ : q_M) (lv : q_L) (st : q_S) : Prop :=
    o_ic 0 σ lv st fun σ lv st =>
    o_istore 5 σ lv st fun σ lv st =>
    X 90 σ lv st
def k_X2_letGo_46 (Qp : Option q_V → q_M → Prop) (X : Nat → q_K) (σ : q_M) (lv : q_L) (st : q_S) : Prop :=
    o_iload 5 σ lv st fun σ lv st =>
    o_ic 3 σ lv st fun σ lv st =>
    o_icmpge (k_X2_letGo_87 Qp X) σ lv st fun σ lv st =>
    o_aload 0 σ lv st fun σ lv st =>
    o_get 18 1 σ lv st fun σ lv st =>
    o_iload 5 σ lv st fun σ lv st =>
    o_aload 0 σ lv st fun σ lv st =>
    o_get 18 0 σ lv st fun σ lv st =>
    o_aload 2 σ lv st fun σ lv st =>
    o_iload 5 σ lv st fun σ lv st =>
    o_callS 3 S_X2_crossed σ lv st fun σ lv st =>
    o_lc (1000) σ lv st fun σ lv st =>
    o_callS 2 S_X5_quotient σ lv st fun σ lv st =>
    o_lload 3 σ lv st fun σ lv st =>
    o_lneg σ lv st fun σ lv st =>
    o_lload 3 σ lv st fun σ lv st =>
    o_callS 3 S_X5_limited σ lv st fun σ lv st =>
    o_last σ lv st fun σ lv st =>
    o_iinc 5 1 σ lv st fun σ lv st =>
    o_goto (X 46) σ lv st
def k_X2_letGo_124 (Qp : Option q_V → q_M → Prop) (X : Nat → q_K) (σ : q_M) (lv : q_L) (st : q_S) : Prop :=
    o_vret Qp σ lv st
def k_X2_letGo_90 (Qp : Option q_V → q_M → Prop) (X : Nat → q_K) (σ : q_M) (lv : q_L) (st : q_S) : Prop :=
    o_iload 5 σ lv st fun σ lv st =>
    o_ic 3 σ lv st fun σ lv st =>
    o_icmpge (k_X2_letGo_124 Qp X) σ lv st fun σ lv st =>
    o_aload 1 σ lv st fun σ lv st =>
    o_iload 5 σ lv st fun σ lv st =>
    o_aload 0 σ lv st fun σ lv st =>
    o_get 18 1 σ lv st fun σ lv st =>
    o_aload 2 σ lv st fun σ lv st =>
    o_iload 5 σ lv st fun σ lv st =>
    o_callS 3 S_X2_crossed σ lv st fun σ lv st =>
    o_lc (100) σ lv st fun σ lv st =>
    o_callS 2 S_X5_quotient σ lv st fun σ lv st =>
    o_callV 2 0 S_X0_pushFromOutside σ lv st fun σ lv st =>
    o_iinc 5 1 σ lv st fun σ lv st =>
    o_goto (X 90) σ lv st
def k_X0_disturb_0 (Qp : Option q_V → q_M → Prop) (X : Nat → q_K) (σ : q_M) (lv : q_L) (st : q_S) : Prop :=
    o_ic 0 σ lv st fun σ lv st =>
    o_istore 1 σ lv st fun σ lv st =>
    X 2 σ lv st
def k_X0_disturb_27 (Qp : Option q_V → q_M → Prop) (X : Nat → q_K) (σ : q_M) (lv : q_L) (st : q_S) : Prop :=
    o_vret Qp σ lv st
def k_X0_disturb_2 (Qp : Option q_V → q_M → Prop) (X : Nat → q_K) (σ : q_M) (lv : q_L) (st : q_S) : Prop :=
    o_iload 1 σ lv st fun σ lv st =>
    o_ic 3 σ lv st fun σ lv st =>
    o_icmpge (k_X0_disturb_27 Qp X) σ lv st fun σ lv st =>
    o_aload 0 σ lv st fun σ lv st =>
    o_iload 1 σ lv st fun σ lv st =>
    o_aload 0 σ lv st fun σ lv st =>
    o_get 0 2 σ lv st fun σ lv st =>
    o_ic 3 σ lv st fun σ lv st =>
    o_aald σ lv st fun σ lv st =>
    o_iload 1 σ lv st fun σ lv st =>
    o_iald σ lv st fun σ lv st =>
    o_i2l σ lv st fun σ lv st =>
    o_callV 2 0 S_X0_pushFromOutside σ lv st fun σ lv st =>
    o_iinc 1 1 σ lv st fun σ lv st =>
    o_goto (X 2) σ lv st
def k_X0_turn_0 (Qp : Option q_V → q_M → Prop) (X : Nat → q_K) (σ : q_M) (lv : q_L) (st : q_S) : Prop :=
    o_ic 0 σ lv st fun σ lv st =>
    o_istore 1 σ lv st fun σ lv st =>
    X 2 σ lv st
def k_X0_turn_27 (Qp : Option q_V → q_M → Prop) (X : Nat → q_K) (σ : q_M) (lv : q_L) (st : q_S) : Prop :=
    o_vret Qp σ lv st
def k_X0_turn_2 (Qp : Option q_V → q_M → Prop) (X : Nat → q_K) (σ : q_M) (lv : q_L) (st : q_S) : Prop :=
    o_iload 1 σ lv st fun σ lv st =>
    o_ic 3 σ lv st fun σ lv st =>
    o_icmpge (k_X0_turn_27 Qp X) σ lv st fun σ lv st =>
    o_aload 0 σ lv st fun σ lv st =>
    o_get 0 3 σ lv st fun σ lv st =>
    o_iload 1 σ lv st fun σ lv st =>
    o_dup2 σ lv st fun σ lv st =>
    o_lald σ lv st fun σ lv st =>
    o_aload 0 σ lv st fun σ lv st =>
    o_iload 1 σ lv st fun σ lv st =>
    o_callV 1 0 S_X0_rate σ lv st fun σ lv st =>
    o_ladd σ lv st fun σ lv st =>
    o_last σ lv st fun σ lv st =>
    o_iinc 1 1 σ lv st fun σ lv st =>
    o_goto (X 2) σ lv st
def k_X5_passOne_0 (Qp : Option q_V → q_M → Prop) (X : Nat → q_K) (σ : q_M) (lv : q_L) (st : q_S) : Prop :=
    o_aload 1 σ lv st fun σ lv st =>
    o_dup σ lv st fun σ lv st =>
    o_get 0 0 σ lv st fun σ lv st =>
    o_ic 1 σ lv st fun σ lv st =>
    o_iadd σ lv st fun σ lv st =>
    o_puti 0 0 σ lv st fun σ lv st =>
    o_aload 1 σ lv st fun σ lv st =>
    o_callV 0 0 S_X0_findWish σ lv st fun σ lv st =>
    o_aload 0 σ lv st fun σ lv st =>
    o_get 23 2 σ lv st fun σ lv st =>
    o_aload 1 σ lv st fun σ lv st =>
    o_callV 1 12 S_X3_share σ lv st fun σ lv st =>
    o_aload 0 σ lv st fun σ lv st =>
    o_get 23 3 σ lv st fun σ lv st =>
    o_aload 1 σ lv st fun σ lv st =>
    o_callV 1 18 S_X2_letGo σ lv st fun σ lv st =>
    o_aload 1 σ lv st fun σ lv st =>
    o_callV 0 0 S_X0_disturb σ lv st fun σ lv st =>
    o_aload 1 σ lv st fun σ lv st =>
    o_callV 0 0 S_X0_turn σ lv st fun σ lv st =>
    o_vret Qp σ lv st
def k_X5_tick_31 (Qp : Option q_V → q_M → Prop) (X : Nat → q_K) (σ : q_M) (lv : q_L) (st : q_S) : Prop :=
    o_aload 0 σ lv st fun σ lv st =>
    o_get 23 4 σ lv st fun σ lv st =>
    o_aload 0 σ lv st fun σ lv st =>
    o_get 23 0 σ lv st fun σ lv st =>
    o_callV 1 21 S_X1_keep σ lv st fun σ lv st =>
    o_aload 0 σ lv st fun σ lv st =>
    o_get 23 2 σ lv st fun σ lv st =>
    o_aload 0 σ lv st fun σ lv st =>
    o_get 23 0 σ lv st fun σ lv st =>
    o_ic (-2000009) σ lv st fun σ lv st =>
    o_callV 2 12 S_X3_measure σ lv st fun σ lv st =>
    o_ic 0 σ lv st fun σ lv st =>
    o_istore 2 σ lv st fun σ lv st =>
    o_ic 0 σ lv st fun σ lv st =>
    o_istore 3 σ lv st fun σ lv st =>
    X 59 σ lv st
def k_X5_tick_14 (Qp : Option q_V → q_M → Prop) (X : Nat → q_K) (σ : q_M) (lv : q_L) (st : q_S) : Prop :=
    o_aload 0 σ lv st fun σ lv st =>
    o_get 23 0 σ lv st fun σ lv st =>
    o_get 0 0 σ lv st fun σ lv st =>
    o_iload 1 σ lv st fun σ lv st =>
    o_iadd σ lv st fun σ lv st =>
    o_ic (50000) σ lv st fun σ lv st =>
    o_icmple (k_X5_tick_31 Qp X) σ lv st fun σ lv st =>
    o_ic (-2000002) σ lv st fun σ lv st =>
    o_iret Qp σ lv st
def k_X5_tick_0 (Qp : Option q_V → q_M → Prop) (X : Nat → q_K) (σ : q_M) (lv : q_L) (st : q_S) : Prop :=
    o_iload 1 σ lv st fun σ lv st =>
    o_ic 1 σ lv st fun σ lv st =>
    o_ic (200) σ lv st fun σ lv st =>
    o_callS 3 S_X5_isWithin σ lv st fun σ lv st =>
    o_ifne (k_X5_tick_14 Qp X) σ lv st fun σ lv st =>
    o_ic (-2000001) σ lv st fun σ lv st =>
    o_iret Qp σ lv st
def k_X5_tick_96 (Qp : Option q_V → q_M → Prop) (X : Nat → q_K) (σ : q_M) (lv : q_L) (st : q_S) : Prop :=
    o_iload 2 σ lv st fun σ lv st =>
    o_iret Qp σ lv st
def k_X5_tick_88 (Qp : Option q_V → q_M → Prop) (X : Nat → q_K) (σ : q_M) (lv : q_L) (st : q_S) : Prop :=
    o_iadd σ lv st fun σ lv st =>
    o_istore 2 σ lv st fun σ lv st =>
    o_iinc 3 1 σ lv st fun σ lv st =>
    o_goto (X 59) σ lv st
def k_X5_tick_87 (Qp : Option q_V → q_M → Prop) (X : Nat → q_K) (σ : q_M) (lv : q_L) (st : q_S) : Prop :=
    o_ic 0 σ lv st fun σ lv st =>
    k_X5_tick_88 Qp X σ lv st
def k_X5_tick_59 (Qp : Option q_V → q_M → Prop) (X : Nat → q_K) (σ : q_M) (lv : q_L) (st : q_S) : Prop :=
    o_iload 3 σ lv st fun σ lv st =>
    o_iload 1 σ lv st fun σ lv st =>
    o_icmpge (k_X5_tick_96 Qp X) σ lv st fun σ lv st =>
    o_aload 0 σ lv st fun σ lv st =>
    o_aload 0 σ lv st fun σ lv st =>
    o_get 23 0 σ lv st fun σ lv st =>
    o_callV 1 23 S_X5_passOne σ lv st fun σ lv st =>
    o_iload 2 σ lv st fun σ lv st =>
    o_aload 0 σ lv st fun σ lv st =>
    o_get 23 0 σ lv st fun σ lv st =>
    o_callV 0 0 S_X0_isMet σ lv st fun σ lv st =>
    o_ifeq (k_X5_tick_87 Qp X) σ lv st fun σ lv st =>
    o_ic 1 σ lv st fun σ lv st =>
    o_goto (k_X5_tick_88 Qp X) σ lv st
def k_X5_time_0 (Qp : Option q_V → q_M → Prop) (X : Nat → q_K) (σ : q_M) (lv : q_L) (st : q_S) : Prop :=
    o_aload 0 σ lv st fun σ lv st =>
    o_get 23 0 σ lv st fun σ lv st =>
    o_get 0 0 σ lv st fun σ lv st =>
    o_iret Qp σ lv st
def k_X0_number_56 (Qp : Option q_V → q_M → Prop) (X : Nat → q_K) (σ : q_M) (lv : q_L) (st : q_S) : Prop :=
    o_aload 0 σ lv st fun σ lv st =>
    o_get 0 3 σ lv st fun σ lv st =>
    o_iload 1 σ lv st fun σ lv st =>
    o_lald σ lv st fun σ lv st =>
    o_lret Qp σ lv st
def k_X0_number_63 (Qp : Option q_V → q_M → Prop) (X : Nat → q_K) (σ : q_M) (lv : q_L) (st : q_S) : Prop :=
    o_aload 0 σ lv st fun σ lv st =>
    o_get 0 4 σ lv st fun σ lv st =>
    o_iload 1 σ lv st fun σ lv st =>
    o_lald σ lv st fun σ lv st =>
    o_lret Qp σ lv st
def k_X0_number_70 (Qp : Option q_V → q_M → Prop) (X : Nat → q_K) (σ : q_M) (lv : q_L) (st : q_S) : Prop :=
    o_aload 0 σ lv st fun σ lv st =>
    o_iload 1 σ lv st fun σ lv st =>
    o_callV 1 0 S_X0_rate σ lv st fun σ lv st =>
    o_lret Qp σ lv st
def k_X0_number_76 (Qp : Option q_V → q_M → Prop) (X : Nat → q_K) (σ : q_M) (lv : q_L) (st : q_S) : Prop :=
    o_aload 0 σ lv st fun σ lv st =>
    o_get 0 4 σ lv st fun σ lv st =>
    o_iload 1 σ lv st fun σ lv st =>
    o_lald σ lv st fun σ lv st =>
    o_aload 0 σ lv st fun σ lv st =>
    o_iload 1 σ lv st fun σ lv st =>
    o_callV 1 0 S_X0_wheelMomentum σ lv st fun σ lv st =>
    o_ladd σ lv st fun σ lv st =>
    o_lret Qp σ lv st
def k_X0_number_89 (Qp : Option q_V → q_M → Prop) (X : Nat → q_K) (σ : q_M) (lv : q_L) (st : q_S) : Prop :=
    o_aload 0 σ lv st fun σ lv st =>
    o_get 0 5 σ lv st fun σ lv st =>
    o_iload 1 σ lv st fun σ lv st =>
    o_lald σ lv st fun σ lv st =>
    o_lret Qp σ lv st
def k_X0_number_131 (Qp : Option q_V → q_M → Prop) (X : Nat → q_K) (σ : q_M) (lv : q_L) (st : q_S) : Prop :=
    o_lret Qp σ lv st
def k_X0_number_128 (Qp : Option q_V → q_M → Prop) (X : Nat → q_K) (σ : q_M) (lv : q_L) (st : q_S) : Prop :=
    o_lc (-4611686018427387905) σ lv st fun σ lv st =>
    k_X0_number_131 Qp X σ lv st
def k_X0_number_103 (Qp : Option q_V → q_M → Prop) (X : Nat → q_K) (σ : q_M) (lv : q_L) (st : q_S) : Prop :=
    o_iload 2 σ lv st fun σ lv st =>
    o_ic 5 σ lv st fun σ lv st =>
    o_icmplt (k_X0_number_128 Qp X) σ lv st fun σ lv st =>
    o_iload 2 σ lv st fun σ lv st =>
    o_ic (9) σ lv st fun σ lv st =>
    o_icmpge (k_X0_number_128 Qp X) σ lv st fun σ lv st =>
    o_aload 0 σ lv st fun σ lv st =>
    o_get 0 2 σ lv st fun σ lv st =>
    o_iload 2 σ lv st fun σ lv st =>
    o_ic 5 σ lv st fun σ lv st =>
    o_isub σ lv st fun σ lv st =>
    o_aald σ lv st fun σ lv st =>
    o_iload 1 σ lv st fun σ lv st =>
    o_iald σ lv st fun σ lv st =>
    o_i2l σ lv st fun σ lv st =>
    o_goto (k_X0_number_131 Qp X) σ lv st
def k_X0_number_96 (Qp : Option q_V → q_M → Prop) (X : Nat → q_K) (σ : q_M) (lv : q_L) (st : q_S) : Prop :=
    o_aload 0 σ lv st fun σ lv st =>
    o_get 0 6 σ lv st fun σ lv st =>
    o_iload 1 σ lv st fun σ lv st =>
    o_lald σ lv st fun σ lv st =>
    o_lret Qp σ lv st
def k_X0_number_0 (Qp : Option q_V → q_M → Prop) (X : Nat → q_K) (σ : q_M) (lv : q_L) (st : q_S) : Prop :=
    o_iload 2 σ lv st fun σ lv st =>
    o_tsw 0 9 (k_X0_number_103 Qp X) [k_X0_number_56 Qp X, k_X0_number_63 Qp X, k_X0_number_70 Qp X, k_X0_number_76 Qp X, k_X0_number_89 Qp X, k_X0_number_103 Qp X, k_X0_number_103 Qp X, k_X0_number_103 Qp X, k_X0_number_103 Qp X, k_X0_number_96 Qp X] σ lv st
def k_X5_axis_17 (Qp : Option q_V → q_M → Prop) (X : Nat → q_K) (σ : q_M) (lv : q_L) (st : q_S) : Prop :=
    o_lc (-4611686018427387905) σ lv st fun σ lv st =>
    o_lret Qp σ lv st
def k_X5_axis_21 (Qp : Option q_V → q_M → Prop) (X : Nat → q_K) (σ : q_M) (lv : q_L) (st : q_S) : Prop :=
    o_aload 0 σ lv st fun σ lv st =>
    o_get 23 0 σ lv st fun σ lv st =>
    o_iload 1 σ lv st fun σ lv st =>
    o_iload 2 σ lv st fun σ lv st =>
    o_callV 2 0 S_X0_number σ lv st fun σ lv st =>
    o_lret Qp σ lv st
def k_X5_axis_0 (Qp : Option q_V → q_M → Prop) (X : Nat → q_K) (σ : q_M) (lv : q_L) (st : q_S) : Prop :=
    o_iload 1 σ lv st fun σ lv st =>
    o_callS 1 S_X5_isAxis σ lv st fun σ lv st =>
    o_ifeq (k_X5_axis_17 Qp X) σ lv st fun σ lv st =>
    o_iload 2 σ lv st fun σ lv st =>
    o_ic 0 σ lv st fun σ lv st =>
    o_ic (9) σ lv st fun σ lv st =>
    o_callS 3 S_X5_isWithin σ lv st fun σ lv st =>
    o_ifne (k_X5_axis_21 Qp X) σ lv st fun σ lv st =>
    k_X5_axis_17 Qp X σ lv st
def k_X5_span_0 (Qp : Option q_V → q_M → Prop) (X : Nat → q_K) (σ : q_M) (lv : q_L) (st : q_S) : Prop :=
    o_aload 0 σ lv st fun σ lv st =>
    o_get 23 2 σ lv st fun σ lv st =>
    o_aload 0 σ lv st fun σ lv st =>
    o_get 23 0 σ lv st fun σ lv st =>
    o_ic (-2000009) σ lv st fun σ lv st =>
    o_callV 2 12 S_X3_measure σ lv st fun σ lv st =>
    o_aload 0 σ lv st fun σ lv st =>
    o_get 23 2 σ lv st fun σ lv st =>
    o_get 12 3 σ lv st fun σ lv st =>
    o_lret Qp σ lv st
def k_X5_isTorque_0 (Qp : Option q_V → q_M → Prop) (X : Nat → q_K) (σ : q_M) (lv : q_L) (st : q_S) : Prop :=
    o_iload 0 σ lv st fun σ lv st =>
    o_ic (-100000) σ lv st fun σ lv st =>
    o_ic (100000) σ lv st fun σ lv st =>
    o_callS 3 S_X5_isWithin σ lv st fun σ lv st =>
    o_zret Qp σ lv st
def k_X5_wish_30 (Qp : Option q_V → q_M → Prop) (X : Nat → q_K) (σ : q_M) (lv : q_L) (st : q_S) : Prop :=
    o_lc (-4611686018427387905) σ lv st fun σ lv st =>
    o_lret Qp σ lv st
def k_X5_wish_76 (Qp : Option q_V → q_M → Prop) (X : Nat → q_K) (σ : q_M) (lv : q_L) (st : q_S) : Prop :=
    o_lc (-4611686018427387905) σ lv st fun σ lv st =>
    o_lret Qp σ lv st
def k_X5_wish_80 (Qp : Option q_V → q_M → Prop) (X : Nat → q_K) (σ : q_M) (lv : q_L) (st : q_S) : Prop :=
    o_aload 0 σ lv st fun σ lv st =>
    o_get 23 2 σ lv st fun σ lv st =>
    o_iload 2 σ lv st fun σ lv st =>
    o_i2l σ lv st fun σ lv st =>
    o_iload 3 σ lv st fun σ lv st =>
    o_i2l σ lv st fun σ lv st =>
    o_iload 4 σ lv st fun σ lv st =>
    o_i2l σ lv st fun σ lv st =>
    o_callV 3 12 S_X3_aim σ lv st fun σ lv st =>
    o_aload 0 σ lv st fun σ lv st =>
    o_get 23 2 σ lv st fun σ lv st =>
    o_aload 5 σ lv st fun σ lv st =>
    o_callV 1 12 S_X3_wishOf σ lv st fun σ lv st =>
    o_lret Qp σ lv st
def k_X5_wish_34 (Qp : Option q_V → q_M → Prop) (X : Nat → q_K) (σ : q_M) (lv : q_L) (st : q_S) : Prop :=
    o_aload 0 σ lv st fun σ lv st =>
    o_get 23 0 σ lv st fun σ lv st =>
    o_get 0 7 σ lv st fun σ lv st =>
    o_iload 1 σ lv st fun σ lv st =>
    o_aald σ lv st fun σ lv st =>
    o_astore 5 σ lv st fun σ lv st =>
    o_aload 0 σ lv st fun σ lv st =>
    o_get 23 2 σ lv st fun σ lv st =>
    o_aload 0 σ lv st fun σ lv st =>
    o_get 23 0 σ lv st fun σ lv st =>
    o_ic (-2000009) σ lv st fun σ lv st =>
    o_callV 2 12 S_X3_measure σ lv st fun σ lv st =>
    o_aload 5 σ lv st fun σ lv st =>
    o_get 10 4 σ lv st fun σ lv st =>
    o_ifne (k_X5_wish_76 Qp X) σ lv st fun σ lv st =>
    o_aload 0 σ lv st fun σ lv st =>
    o_get 23 2 σ lv st fun σ lv st =>
    o_callV 0 12 S_X3_spans σ lv st fun σ lv st =>
    o_ifne (k_X5_wish_80 Qp X) σ lv st fun σ lv st =>
    k_X5_wish_76 Qp X σ lv st
def k_X5_wish_0 (Qp : Option q_V → q_M → Prop) (X : Nat → q_K) (σ : q_M) (lv : q_L) (st : q_S) : Prop :=
    o_aload 0 σ lv st fun σ lv st =>
    o_iload 1 σ lv st fun σ lv st =>
    o_callV 1 23 S_X5_isWheel σ lv st fun σ lv st =>
    o_ifeq (k_X5_wish_30 Qp X) σ lv st fun σ lv st =>
    o_iload 2 σ lv st fun σ lv st =>
    o_callS 1 S_X5_isTorque σ lv st fun σ lv st =>
    o_ifeq (k_X5_wish_30 Qp X) σ lv st fun σ lv st =>
    o_iload 3 σ lv st fun σ lv st =>
    o_callS 1 S_X5_isTorque σ lv st fun σ lv st =>
    o_ifeq (k_X5_wish_30 Qp X) σ lv st fun σ lv st =>
    o_iload 4 σ lv st fun σ lv st =>
    o_callS 1 S_X5_isTorque σ lv st fun σ lv st =>
    o_ifne (k_X5_wish_34 Qp X) σ lv st fun σ lv st =>
    k_X5_wish_30 Qp X σ lv st
def k_X5_why_32 (Qp : Option q_V → q_M → Prop) (X : Nat → q_K) (σ : q_M) (lv : q_L) (st : q_S) : Prop :=
    o_iret Qp σ lv st
def k_X5_why_30 (Qp : Option q_V → q_M → Prop) (X : Nat → q_K) (σ : q_M) (lv : q_L) (st : q_S) : Prop :=
    o_ic (-2000009) σ lv st fun σ lv st =>
    k_X5_why_32 Qp X σ lv st
def k_X5_why_7 (Qp : Option q_V → q_M → Prop) (X : Nat → q_K) (σ : q_M) (lv : q_L) (st : q_S) : Prop :=
    o_iload 1 σ lv st fun σ lv st =>
    o_aload 0 σ lv st fun σ lv st =>
    o_get 23 0 σ lv st fun σ lv st =>
    o_get 0 10 σ lv st fun σ lv st =>
    o_icmpge (k_X5_why_30 Qp X) σ lv st fun σ lv st =>
    o_aload 0 σ lv st fun σ lv st =>
    o_get 23 0 σ lv st fun σ lv st =>
    o_get 0 9 σ lv st fun σ lv st =>
    o_iload 1 σ lv st fun σ lv st =>
    o_iald σ lv st fun σ lv st =>
    o_goto (k_X5_why_32 Qp X) σ lv st
def k_X5_why_0 (Qp : Option q_V → q_M → Prop) (X : Nat → q_K) (σ : q_M) (lv : q_L) (st : q_S) : Prop :=
    o_iload 1 σ lv st fun σ lv st =>
    o_ifge (k_X5_why_7 Qp X) σ lv st fun σ lv st =>
    o_ic (-2000001) σ lv st fun σ lv st =>
    o_iret Qp σ lv st
def k_X4_fullPart_16 (Qp : Option q_V → q_M → Prop) (X : Nat → q_K) (σ : q_M) (lv : q_L) (st : q_S) : Prop :=
    o_fstore 1 σ lv st fun σ lv st =>
    o_aload 0 σ lv st fun σ lv st =>
    o_get 10 1 σ lv st fun σ lv st =>
    o_mabs σ lv st fun σ lv st =>
    o_i2f σ lv st fun σ lv st =>
    o_fload 1 σ lv st fun σ lv st =>
    o_fdiv σ lv st fun σ lv st =>
    o_fret Qp σ lv st
def k_X4_fullPart_15 (Qp : Option q_V → q_M → Prop) (X : Nat → q_K) (σ : q_M) (lv : q_L) (st : q_S) : Prop :=
    o_fc FP.fconst1 σ lv st fun σ lv st =>
    k_X4_fullPart_16 Qp X σ lv st
def k_X4_fullPart_0 (Qp : Option q_V → q_M → Prop) (X : Nat → q_K) (σ : q_M) (lv : q_L) (st : q_S) : Prop :=
    o_aload 0 σ lv st fun σ lv st =>
    o_get 10 2 σ lv st fun σ lv st =>
    o_ifle (k_X4_fullPart_15 Qp X) σ lv st fun σ lv st =>
    o_aload 0 σ lv st fun σ lv st =>
    o_get 10 2 σ lv st fun σ lv st =>
    o_i2f σ lv st fun σ lv st =>
    o_goto (k_X4_fullPart_16 Qp X) σ lv st
def k_X5_fullness_0 (Qp : Option q_V → q_M → Prop) (X : Nat → q_K) (σ : q_M) (lv : q_L) (st : q_S) : Prop :=
    o_fc FP.fconst0 σ lv st fun σ lv st =>
    o_fstore 1 σ lv st fun σ lv st =>
    o_ic 0 σ lv st fun σ lv st =>
    o_istore 2 σ lv st fun σ lv st =>
    X 4 σ lv st
def k_X5_fullness_46 (Qp : Option q_V → q_M → Prop) (X : Nat → q_K) (σ : q_M) (lv : q_L) (st : q_S) : Prop :=
    o_fload 1 σ lv st fun σ lv st =>
    o_fret Qp σ lv st
def k_X5_fullness_39 (Qp : Option q_V → q_M → Prop) (X : Nat → q_K) (σ : q_M) (lv : q_L) (st : q_S) : Prop :=
    o_fstore 1 σ lv st fun σ lv st =>
    o_iinc 2 1 σ lv st fun σ lv st =>
    o_goto (X 4) σ lv st
def k_X5_fullness_38 (Qp : Option q_V → q_M → Prop) (X : Nat → q_K) (σ : q_M) (lv : q_L) (st : q_S) : Prop :=
    o_fload 1 σ lv st fun σ lv st =>
    k_X5_fullness_39 Qp X σ lv st
def k_X5_fullness_4 (Qp : Option q_V → q_M → Prop) (X : Nat → q_K) (σ : q_M) (lv : q_L) (st : q_S) : Prop :=
    o_iload 2 σ lv st fun σ lv st =>
    o_aload 0 σ lv st fun σ lv st =>
    o_get 23 0 σ lv st fun σ lv st =>
    o_get 0 8 σ lv st fun σ lv st =>
    o_icmpge (k_X5_fullness_46 Qp X) σ lv st fun σ lv st =>
    o_aload 0 σ lv st fun σ lv st =>
    o_get 23 0 σ lv st fun σ lv st =>
    o_get 0 7 σ lv st fun σ lv st =>
    o_iload 2 σ lv st fun σ lv st =>
    o_aald σ lv st fun σ lv st =>
    o_callV 0 10 S_X4_fullPart σ lv st fun σ lv st =>
    o_fstore 3 σ lv st fun σ lv st =>
    o_fload 3 σ lv st fun σ lv st =>
    o_fload 1 σ lv st fun σ lv st =>
    o_fcmpl σ lv st fun σ lv st =>
    o_ifle (k_X5_fullness_38 Qp X) σ lv st fun σ lv st =>
    o_fload 3 σ lv st fun σ lv st =>
    o_goto (k_X5_fullness_39 Qp X) σ lv st
def k_X0_aside_0 (Qp : Option q_V → q_M → Prop) (X : Nat → q_K) (σ : q_M) (lv : q_L) (st : q_S) : Prop :=
    o_aload 0 σ lv st fun σ lv st =>
    o_get 0 2 σ lv st fun σ lv st =>
    o_ic 1 σ lv st fun σ lv st =>
    o_aald σ lv st fun σ lv st =>
    o_iload 1 σ lv st fun σ lv st =>
    o_iald σ lv st fun σ lv st =>
    o_i2l σ lv st fun σ lv st =>
    o_aload 0 σ lv st fun σ lv st =>
    o_get 0 3 σ lv st fun σ lv st =>
    o_iload 1 σ lv st fun σ lv st =>
    o_lald σ lv st fun σ lv st =>
    o_lsub σ lv st fun σ lv st =>
    o_mabsl σ lv st fun σ lv st =>
    o_lret Qp σ lv st
def k_X0_isOnTarget_0 (Qp : Option q_V → q_M → Prop) (X : Nat → q_K) (σ : q_M) (lv : q_L) (st : q_S) : Prop :=
    o_ic 0 σ lv st fun σ lv st =>
    o_istore 2 σ lv st fun σ lv st =>
    X 2 σ lv st
def k_X0_isOnTarget_39 (Qp : Option q_V → q_M → Prop) (X : Nat → q_K) (σ : q_M) (lv : q_L) (st : q_S) : Prop :=
    o_ic 1 σ lv st fun σ lv st =>
    o_zret Qp σ lv st
def k_X0_isOnTarget_31 (Qp : Option q_V → q_M → Prop) (X : Nat → q_K) (σ : q_M) (lv : q_L) (st : q_S) : Prop :=
    o_ic 0 σ lv st fun σ lv st =>
    o_zret Qp σ lv st
def k_X0_isOnTarget_33 (Qp : Option q_V → q_M → Prop) (X : Nat → q_K) (σ : q_M) (lv : q_L) (st : q_S) : Prop :=
    o_iinc 2 1 σ lv st fun σ lv st =>
    o_goto (X 2) σ lv st
def k_X0_isOnTarget_2 (Qp : Option q_V → q_M → Prop) (X : Nat → q_K) (σ : q_M) (lv : q_L) (st : q_S) : Prop :=
    o_iload 2 σ lv st fun σ lv st =>
    o_ic 3 σ lv st fun σ lv st =>
    o_icmpge (k_X0_isOnTarget_39 Qp X) σ lv st fun σ lv st =>
    o_aload 0 σ lv st fun σ lv st =>
    o_iload 2 σ lv st fun σ lv st =>
    o_callV 1 0 S_X0_aside σ lv st fun σ lv st =>
    o_iload 1 σ lv st fun σ lv st =>
    o_i2l σ lv st fun σ lv st =>
    o_lcmp σ lv st fun σ lv st =>
    o_ifgt (k_X0_isOnTarget_31 Qp X) σ lv st fun σ lv st =>
    o_aload 0 σ lv st fun σ lv st =>
    o_iload 2 σ lv st fun σ lv st =>
    o_callV 1 0 S_X0_rate σ lv st fun σ lv st =>
    o_mabsl σ lv st fun σ lv st =>
    o_lc 1 σ lv st fun σ lv st =>
    o_lcmp σ lv st fun σ lv st =>
    o_ifle (k_X0_isOnTarget_33 Qp X) σ lv st fun σ lv st =>
    k_X0_isOnTarget_31 Qp X σ lv st
def k_X5_arrives_13 (Qp : Option q_V → q_M → Prop) (X : Nat → q_K) (σ : q_M) (lv : q_L) (st : q_S) : Prop :=
    o_aload 0 σ lv st fun σ lv st =>
    o_get 23 1 σ lv st fun σ lv st =>
    o_aload 0 σ lv st fun σ lv st =>
    o_get 23 0 σ lv st fun σ lv st =>
    o_callV 1 0 S_X0_become σ lv st fun σ lv st =>
    o_aload 0 σ lv st fun σ lv st =>
    o_get 23 2 σ lv st fun σ lv st =>
    o_aload 0 σ lv st fun σ lv st =>
    o_get 23 1 σ lv st fun σ lv st =>
    o_ic (-2000009) σ lv st fun σ lv st =>
    o_callV 2 12 S_X3_measure σ lv st fun σ lv st =>
    o_ic 0 σ lv st fun σ lv st =>
    o_istore 2 σ lv st fun σ lv st =>
    X 39 σ lv st
def k_X5_arrives_0 (Qp : Option q_V → q_M → Prop) (X : Nat → q_K) (σ : q_M) (lv : q_L) (st : q_S) : Prop :=
    o_iload 1 σ lv st fun σ lv st =>
    o_ic 0 σ lv st fun σ lv st =>
    o_ic (1000000) σ lv st fun σ lv st =>
    o_callS 3 S_X5_isWithin σ lv st fun σ lv st =>
    o_ifne (k_X5_arrives_13 Qp X) σ lv st fun σ lv st =>
    o_ic (-2000001) σ lv st fun σ lv st =>
    o_iret Qp σ lv st
def k_X5_arrives_73 (Qp : Option q_V → q_M → Prop) (X : Nat → q_K) (σ : q_M) (lv : q_L) (st : q_S) : Prop :=
    o_ic (-2000009) σ lv st fun σ lv st =>
    o_iret Qp σ lv st
def k_X5_arrives_59 (Qp : Option q_V → q_M → Prop) (X : Nat → q_K) (σ : q_M) (lv : q_L) (st : q_S) : Prop :=
    o_aload 0 σ lv st fun σ lv st =>
    o_aload 0 σ lv st fun σ lv st =>
    o_get 23 1 σ lv st fun σ lv st =>
    o_callV 1 23 S_X5_passOne σ lv st fun σ lv st =>
    o_iinc 2 1 σ lv st fun σ lv st =>
    o_goto (X 39) σ lv st
def k_X5_arrives_39 (Qp : Option q_V → q_M → Prop) (X : Nat → q_K) (σ : q_M) (lv : q_L) (st : q_S) : Prop :=
    o_iload 2 σ lv st fun σ lv st =>
    o_ic (500) σ lv st fun σ lv st =>
    o_icmpgt (k_X5_arrives_73 Qp X) σ lv st fun σ lv st =>
    o_aload 0 σ lv st fun σ lv st =>
    o_get 23 1 σ lv st fun σ lv st =>
    o_iload 1 σ lv st fun σ lv st =>
    o_callV 1 0 S_X0_isOnTarget σ lv st fun σ lv st =>
    o_ifeq (k_X5_arrives_59 Qp X) σ lv st fun σ lv st =>
    o_iload 2 σ lv st fun σ lv st =>
    o_iret Qp σ lv st
def k_X5_spare_0 (Qp : Option q_V → q_M → Prop) (X : Nat → q_K) (σ : q_M) (lv : q_L) (st : q_S) : Prop :=
    o_ic 0 σ lv st fun σ lv st =>
    o_istore 1 σ lv st fun σ lv st =>
    o_ic 0 σ lv st fun σ lv st =>
    o_istore 2 σ lv st fun σ lv st =>
    X 4 σ lv st
def k_X5_spare_64 (Qp : Option q_V → q_M → Prop) (X : Nat → q_K) (σ : q_M) (lv : q_L) (st : q_S) : Prop :=
    o_iload 1 σ lv st fun σ lv st =>
    o_iret Qp σ lv st
def k_X5_spare_58 (Qp : Option q_V → q_M → Prop) (X : Nat → q_K) (σ : q_M) (lv : q_L) (st : q_S) : Prop :=
    o_iinc 2 1 σ lv st fun σ lv st =>
    o_goto (X 4) σ lv st
def k_X5_spare_4 (Qp : Option q_V → q_M → Prop) (X : Nat → q_K) (σ : q_M) (lv : q_L) (st : q_S) : Prop :=
    o_iload 2 σ lv st fun σ lv st =>
    o_aload 0 σ lv st fun σ lv st =>
    o_get 23 0 σ lv st fun σ lv st =>
    o_get 0 8 σ lv st fun σ lv st =>
    o_icmpge (k_X5_spare_64 Qp X) σ lv st fun σ lv st =>
    o_aload 0 σ lv st fun σ lv st =>
    o_get 23 2 σ lv st fun σ lv st =>
    o_aload 0 σ lv st fun σ lv st =>
    o_get 23 0 σ lv st fun σ lv st =>
    o_iload 2 σ lv st fun σ lv st =>
    o_callV 2 12 S_X3_measure σ lv st fun σ lv st =>
    o_aload 0 σ lv st fun σ lv st =>
    o_get 23 0 σ lv st fun σ lv st =>
    o_get 0 7 σ lv st fun σ lv st =>
    o_iload 2 σ lv st fun σ lv st =>
    o_aald σ lv st fun σ lv st =>
    o_get 10 4 σ lv st fun σ lv st =>
    o_ifne (k_X5_spare_58 Qp X) σ lv st fun σ lv st =>
    o_aload 0 σ lv st fun σ lv st =>
    o_get 23 2 σ lv st fun σ lv st =>
    o_callV 0 12 S_X3_spans σ lv st fun σ lv st =>
    o_ifeq (k_X5_spare_58 Qp X) σ lv st fun σ lv st =>
    o_iload 1 σ lv st fun σ lv st =>
    o_ic 1 σ lv st fun σ lv st =>
    o_iload 2 σ lv st fun σ lv st =>
    o_ishl σ lv st fun σ lv st =>
    o_ior σ lv st fun σ lv st =>
    o_istore 1 σ lv st fun σ lv st =>
    k_X5_spare_58 Qp X σ lv st
def k_X0_offTarget_0 (Qp : Option q_V → q_M → Prop) (X : Nat → q_K) (σ : q_M) (lv : q_L) (st : q_S) : Prop :=
    o_lc 0 σ lv st fun σ lv st =>
    o_lstore 1 σ lv st fun σ lv st =>
    o_ic 0 σ lv st fun σ lv st =>
    o_istore 3 σ lv st fun σ lv st =>
    X 4 σ lv st
def k_X0_offTarget_23 (Qp : Option q_V → q_M → Prop) (X : Nat → q_K) (σ : q_M) (lv : q_L) (st : q_S) : Prop :=
    o_lload 1 σ lv st fun σ lv st =>
    o_lret Qp σ lv st
def k_X0_offTarget_4 (Qp : Option q_V → q_M → Prop) (X : Nat → q_K) (σ : q_M) (lv : q_L) (st : q_S) : Prop :=
    o_iload 3 σ lv st fun σ lv st =>
    o_ic 3 σ lv st fun σ lv st =>
    o_icmpge (k_X0_offTarget_23 Qp X) σ lv st fun σ lv st =>
    o_lload 1 σ lv st fun σ lv st =>
    o_aload 0 σ lv st fun σ lv st =>
    o_iload 3 σ lv st fun σ lv st =>
    o_callV 1 0 S_X0_aside σ lv st fun σ lv st =>
    o_ladd σ lv st fun σ lv st =>
    o_lstore 1 σ lv st fun σ lv st =>
    o_iinc 3 1 σ lv st fun σ lv st =>
    o_goto (X 4) σ lv st
def k_X5_offWithout_0 (Qp : Option q_V → q_M → Prop) (X : Nat → q_K) (σ : q_M) (lv : q_L) (st : q_S) : Prop :=
    o_aload 0 σ lv st fun σ lv st =>
    o_get 23 1 σ lv st fun σ lv st =>
    o_aload 0 σ lv st fun σ lv st =>
    o_get 23 0 σ lv st fun σ lv st =>
    o_callV 1 0 S_X0_become σ lv st fun σ lv st =>
    o_aload 0 σ lv st fun σ lv st =>
    o_get 23 1 σ lv st fun σ lv st =>
    o_get 0 7 σ lv st fun σ lv st =>
    o_iload 1 σ lv st fun σ lv st =>
    o_aald σ lv st fun σ lv st =>
    o_ic 1 σ lv st fun σ lv st =>
    o_putz 10 3 σ lv st fun σ lv st =>
    o_aload 0 σ lv st fun σ lv st =>
    o_get 23 2 σ lv st fun σ lv st =>
    o_aload 0 σ lv st fun σ lv st =>
    o_get 23 1 σ lv st fun σ lv st =>
    o_ic (-2000009) σ lv st fun σ lv st =>
    o_callV 2 12 S_X3_measure σ lv st fun σ lv st =>
    o_ic 0 σ lv st fun σ lv st =>
    o_istore 3 σ lv st fun σ lv st =>
    X 39 σ lv st
def k_X5_offWithout_58 (Qp : Option q_V → q_M → Prop) (X : Nat → q_K) (σ : q_M) (lv : q_L) (st : q_S) : Prop :=
    o_aload 0 σ lv st fun σ lv st =>
    o_get 23 1 σ lv st fun σ lv st =>
    o_callV 0 0 S_X0_offTarget σ lv st fun σ lv st =>
    o_lret Qp σ lv st
def k_X5_offWithout_39 (Qp : Option q_V → q_M → Prop) (X : Nat → q_K) (σ : q_M) (lv : q_L) (st : q_S) : Prop :=
    o_iload 3 σ lv st fun σ lv st =>
    o_iload 2 σ lv st fun σ lv st =>
    o_icmpge (k_X5_offWithout_58 Qp X) σ lv st fun σ lv st =>
    o_aload 0 σ lv st fun σ lv st =>
    o_aload 0 σ lv st fun σ lv st =>
    o_get 23 1 σ lv st fun σ lv st =>
    o_callV 1 23 S_X5_passOne σ lv st fun σ lv st =>
    o_iinc 3 1 σ lv st fun σ lv st =>
    o_goto (X 39) σ lv st
def k_X5_gravest_13 (Qp : Option q_V → q_M → Prop) (X : Nat → q_K) (σ : q_M) (lv : q_L) (st : q_S) : Prop :=
    o_ic (-2000009) σ lv st fun σ lv st =>
    o_istore 2 σ lv st fun σ lv st =>
    o_lc 0 σ lv st fun σ lv st =>
    o_lstore 3 σ lv st fun σ lv st =>
    o_ic 0 σ lv st fun σ lv st =>
    o_istore 5 σ lv st fun σ lv st =>
    X 21 σ lv st
def k_X5_gravest_0 (Qp : Option q_V → q_M → Prop) (X : Nat → q_K) (σ : q_M) (lv : q_L) (st : q_S) : Prop :=
    o_iload 1 σ lv st fun σ lv st =>
    o_ic 1 σ lv st fun σ lv st =>
    o_ic (100) σ lv st fun σ lv st =>
    o_callS 3 S_X5_isWithin σ lv st fun σ lv st =>
    o_ifne (k_X5_gravest_13 Qp X) σ lv st fun σ lv st =>
    o_ic (-2000001) σ lv st fun σ lv st =>
    o_iret Qp σ lv st
def k_X5_gravest_86 (Qp : Option q_V → q_M → Prop) (X : Nat → q_K) (σ : q_M) (lv : q_L) (st : q_S) : Prop :=
    o_iload 2 σ lv st fun σ lv st =>
    o_iret Qp σ lv st
def k_X5_gravest_80 (Qp : Option q_V → q_M → Prop) (X : Nat → q_K) (σ : q_M) (lv : q_L) (st : q_S) : Prop :=
    o_iinc 5 1 σ lv st fun σ lv st =>
    o_goto (X 21) σ lv st
def k_X5_gravest_74 (Qp : Option q_V → q_M → Prop) (X : Nat → q_K) (σ : q_M) (lv : q_L) (st : q_S) : Prop :=
    o_iload 5 σ lv st fun σ lv st =>
    o_istore 2 σ lv st fun σ lv st =>
    o_lload 6 σ lv st fun σ lv st =>
    o_lstore 3 σ lv st fun σ lv st =>
    k_X5_gravest_80 Qp X σ lv st
def k_X5_gravest_52 (Qp : Option q_V → q_M → Prop) (X : Nat → q_K) (σ : q_M) (lv : q_L) (st : q_S) : Prop :=
    o_aload 0 σ lv st fun σ lv st =>
    o_iload 5 σ lv st fun σ lv st =>
    o_iload 1 σ lv st fun σ lv st =>
    o_callV 2 23 S_X5_offWithout σ lv st fun σ lv st =>
    o_lstore 6 σ lv st fun σ lv st =>
    o_iload 2 σ lv st fun σ lv st =>
    o_ic (-2000009) σ lv st fun σ lv st =>
    o_icmpeq (k_X5_gravest_74 Qp X) σ lv st fun σ lv st =>
    o_lload 6 σ lv st fun σ lv st =>
    o_lload 3 σ lv st fun σ lv st =>
    o_lcmp σ lv st fun σ lv st =>
    o_ifle (k_X5_gravest_80 Qp X) σ lv st fun σ lv st =>
    k_X5_gravest_74 Qp X σ lv st
def k_X5_gravest_21 (Qp : Option q_V → q_M → Prop) (X : Nat → q_K) (σ : q_M) (lv : q_L) (st : q_S) : Prop :=
    o_iload 5 σ lv st fun σ lv st =>
    o_aload 0 σ lv st fun σ lv st =>
    o_get 23 0 σ lv st fun σ lv st =>
    o_get 0 8 σ lv st fun σ lv st =>
    o_icmpge (k_X5_gravest_86 Qp X) σ lv st fun σ lv st =>
    o_aload 0 σ lv st fun σ lv st =>
    o_get 23 0 σ lv st fun σ lv st =>
    o_get 0 7 σ lv st fun σ lv st =>
    o_iload 5 σ lv st fun σ lv st =>
    o_aald σ lv st fun σ lv st =>
    o_get 10 4 σ lv st fun σ lv st =>
    o_ifeq (k_X5_gravest_52 Qp X) σ lv st fun σ lv st =>
    o_goto (k_X5_gravest_80 Qp X) σ lv st
def k_X1_giveBack_10 (Qp : Option q_V → q_M → Prop) (X : Nat → q_K) (σ : q_M) (lv : q_L) (st : q_S) : Prop :=
    o_aload 0 σ lv st fun σ lv st =>
    o_dup σ lv st fun σ lv st =>
    o_get 21 1 σ lv st fun σ lv st =>
    o_ic 1 σ lv st fun σ lv st =>
    o_isub σ lv st fun σ lv st =>
    o_puti 21 0 σ lv st fun σ lv st =>
    o_aload 1 σ lv st fun σ lv st =>
    o_aload 0 σ lv st fun σ lv st =>
    o_get 21 0 σ lv st fun σ lv st =>
    o_aload 0 σ lv st fun σ lv st =>
    o_get 21 1 σ lv st fun σ lv st =>
    o_aald σ lv st fun σ lv st =>
    o_callV 1 0 S_X0_become σ lv st fun σ lv st =>
    o_aload 0 σ lv st fun σ lv st =>
    o_get 21 1 σ lv st fun σ lv st =>
    o_iret Qp σ lv st
def k_X1_giveBack_0 (Qp : Option q_V → q_M → Prop) (X : Nat → q_K) (σ : q_M) (lv : q_L) (st : q_S) : Prop :=
    o_aload 0 σ lv st fun σ lv st =>
    o_get 21 1 σ lv st fun σ lv st =>
    o_ifgt (k_X1_giveBack_10 Qp X) σ lv st fun σ lv st =>
    o_ic (-2000009) σ lv st fun σ lv st =>
    o_iret Qp σ lv st
def k_X5_undo_0 (Qp : Option q_V → q_M → Prop) (X : Nat → q_K) (σ : q_M) (lv : q_L) (st : q_S) : Prop :=
    o_aload 0 σ lv st fun σ lv st =>
    o_get 23 4 σ lv st fun σ lv st =>
    o_aload 0 σ lv st fun σ lv st =>
    o_get 23 0 σ lv st fun σ lv st =>
    o_callV 1 21 S_X1_giveBack σ lv st fun σ lv st =>
    o_iret Qp σ lv st
def k_X5_mixed_0 (Qp : Option q_V → q_M → Prop) (X : Nat → q_K) (σ : q_M) (lv : q_L) (st : q_S) : Prop :=
    o_lc (31) σ lv st fun σ lv st =>
    o_lload 0 σ lv st fun σ lv st =>
    o_lmul σ lv st fun σ lv st =>
    o_lload 2 σ lv st fun σ lv st =>
    o_ladd σ lv st fun σ lv st =>
    o_lret Qp σ lv st
def k_X5_fingerprint_0 (Qp : Option q_V → q_M → Prop) (X : Nat → q_K) (σ : q_M) (lv : q_L) (st : q_S) : Prop :=
    o_lc (173) σ lv st fun σ lv st =>
    o_aload 0 σ lv st fun σ lv st =>
    o_callV 0 23 S_X5_time σ lv st fun σ lv st =>
    o_i2l σ lv st fun σ lv st =>
    o_callS 2 S_X5_mixed σ lv st fun σ lv st =>
    o_lstore 1 σ lv st fun σ lv st =>
    o_ic 0 σ lv st fun σ lv st =>
    o_istore 3 σ lv st fun σ lv st =>
    X 14 σ lv st
def k_X5_fingerprint_36 (Qp : Option q_V → q_M → Prop) (X : Nat → q_K) (σ : q_M) (lv : q_L) (st : q_S) : Prop :=
    o_ic 0 σ lv st fun σ lv st =>
    o_istore 3 σ lv st fun σ lv st =>
    X 38 σ lv st
def k_X5_fingerprint_14 (Qp : Option q_V → q_M → Prop) (X : Nat → q_K) (σ : q_M) (lv : q_L) (st : q_S) : Prop :=
    o_iload 3 σ lv st fun σ lv st =>
    o_ic 5 σ lv st fun σ lv st =>
    o_icmpge (k_X5_fingerprint_36 Qp X) σ lv st fun σ lv st =>
    o_lload 1 σ lv st fun σ lv st =>
    o_aload 0 σ lv st fun σ lv st =>
    o_iload 3 σ lv st fun σ lv st =>
    o_callV 1 23 S_X5_setting σ lv st fun σ lv st =>
    o_i2l σ lv st fun σ lv st =>
    o_callS 2 S_X5_mixed σ lv st fun σ lv st =>
    o_lstore 1 σ lv st fun σ lv st =>
    o_iinc 3 1 σ lv st fun σ lv st =>
    o_goto (X 14) σ lv st
def k_X5_fingerprint_77 (Qp : Option q_V → q_M → Prop) (X : Nat → q_K) (σ : q_M) (lv : q_L) (st : q_S) : Prop :=
    o_lload 1 σ lv st fun σ lv st =>
    o_aload 0 σ lv st fun σ lv st =>
    o_callV 0 23 S_X5_wheels σ lv st fun σ lv st =>
    o_i2l σ lv st fun σ lv st =>
    o_callS 2 S_X5_mixed σ lv st fun σ lv st =>
    o_lstore 1 σ lv st fun σ lv st =>
    o_ic 0 σ lv st fun σ lv st =>
    o_istore 3 σ lv st fun σ lv st =>
    X 89 σ lv st
def k_X5_fingerprint_38 (Qp : Option q_V → q_M → Prop) (X : Nat → q_K) (σ : q_M) (lv : q_L) (st : q_S) : Prop :=
    o_iload 3 σ lv st fun σ lv st =>
    o_ic 3 σ lv st fun σ lv st =>
    o_icmpge (k_X5_fingerprint_77 Qp X) σ lv st fun σ lv st =>
    o_ic 0 σ lv st fun σ lv st =>
    o_istore 4 σ lv st fun σ lv st =>
    X 46 σ lv st
def k_X5_fingerprint_71 (Qp : Option q_V → q_M → Prop) (X : Nat → q_K) (σ : q_M) (lv : q_L) (st : q_S) : Prop :=
    o_iinc 3 1 σ lv st fun σ lv st =>
    o_goto (X 38) σ lv st
def k_X5_fingerprint_46 (Qp : Option q_V → q_M → Prop) (X : Nat → q_K) (σ : q_M) (lv : q_L) (st : q_S) : Prop :=
    o_iload 4 σ lv st fun σ lv st =>
    o_ic (10) σ lv st fun σ lv st =>
    o_icmpge (k_X5_fingerprint_71 Qp X) σ lv st fun σ lv st =>
    o_lload 1 σ lv st fun σ lv st =>
    o_aload 0 σ lv st fun σ lv st =>
    o_iload 3 σ lv st fun σ lv st =>
    o_iload 4 σ lv st fun σ lv st =>
    o_callV 2 23 S_X5_axis σ lv st fun σ lv st =>
    o_callS 2 S_X5_mixed σ lv st fun σ lv st =>
    o_lstore 1 σ lv st fun σ lv st =>
    o_iinc 4 1 σ lv st fun σ lv st =>
    o_goto (X 46) σ lv st
def k_X5_fingerprint_135 (Qp : Option q_V → q_M → Prop) (X : Nat → q_K) (σ : q_M) (lv : q_L) (st : q_S) : Prop :=
    o_lload 1 σ lv st fun σ lv st =>
    o_aload 0 σ lv st fun σ lv st =>
    o_callV 0 23 S_X5_span σ lv st fun σ lv st =>
    o_callS 2 S_X5_mixed σ lv st fun σ lv st =>
    o_lstore 1 σ lv st fun σ lv st =>
    o_ic 0 σ lv st fun σ lv st =>
    o_istore 3 σ lv st fun σ lv st =>
    X 146 σ lv st
def k_X5_fingerprint_89 (Qp : Option q_V → q_M → Prop) (X : Nat → q_K) (σ : q_M) (lv : q_L) (st : q_S) : Prop :=
    o_iload 3 σ lv st fun σ lv st =>
    o_aload 0 σ lv st fun σ lv st =>
    o_get 23 0 σ lv st fun σ lv st =>
    o_get 0 8 σ lv st fun σ lv st =>
    o_icmpge (k_X5_fingerprint_135 Qp X) σ lv st fun σ lv st =>
    o_ic 0 σ lv st fun σ lv st =>
    o_istore 4 σ lv st fun σ lv st =>
    X 103 σ lv st
def k_X5_fingerprint_129 (Qp : Option q_V → q_M → Prop) (X : Nat → q_K) (σ : q_M) (lv : q_L) (st : q_S) : Prop :=
    o_iinc 3 1 σ lv st fun σ lv st =>
    o_goto (X 89) σ lv st
def k_X5_fingerprint_103 (Qp : Option q_V → q_M → Prop) (X : Nat → q_K) (σ : q_M) (lv : q_L) (st : q_S) : Prop :=
    o_iload 4 σ lv st fun σ lv st =>
    o_ic (8) σ lv st fun σ lv st =>
    o_icmpge (k_X5_fingerprint_129 Qp X) σ lv st fun σ lv st =>
    o_lload 1 σ lv st fun σ lv st =>
    o_aload 0 σ lv st fun σ lv st =>
    o_iload 3 σ lv st fun σ lv st =>
    o_iload 4 σ lv st fun σ lv st =>
    o_callV 2 23 S_X5_wheel σ lv st fun σ lv st =>
    o_i2l σ lv st fun σ lv st =>
    o_callS 2 S_X5_mixed σ lv st fun σ lv st =>
    o_lstore 1 σ lv st fun σ lv st =>
    o_iinc 4 1 σ lv st fun σ lv st =>
    o_goto (X 103) σ lv st
def k_X5_fingerprint_174 (Qp : Option q_V → q_M → Prop) (X : Nat → q_K) (σ : q_M) (lv : q_L) (st : q_S) : Prop :=
    o_lload 1 σ lv st fun σ lv st =>
    o_lret Qp σ lv st
def k_X5_fingerprint_146 (Qp : Option q_V → q_M → Prop) (X : Nat → q_K) (σ : q_M) (lv : q_L) (st : q_S) : Prop :=
    o_iload 3 σ lv st fun σ lv st =>
    o_aload 0 σ lv st fun σ lv st =>
    o_get 23 0 σ lv st fun σ lv st =>
    o_get 0 10 σ lv st fun σ lv st =>
    o_icmpge (k_X5_fingerprint_174 Qp X) σ lv st fun σ lv st =>
    o_lload 1 σ lv st fun σ lv st =>
    o_aload 0 σ lv st fun σ lv st =>
    o_iload 3 σ lv st fun σ lv st =>
    o_callV 1 23 S_X5_why σ lv st fun σ lv st =>
    o_i2l σ lv st fun σ lv st =>
    o_callS 2 S_X5_mixed σ lv st fun σ lv st =>
    o_lstore 1 σ lv st fun σ lv st =>
    o_iinc 3 1 σ lv st fun σ lv st =>
    o_goto (X 146) σ lv st
