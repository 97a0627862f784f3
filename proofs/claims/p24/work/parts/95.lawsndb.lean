set_option maxRecDepth 20000 in
theorem sb_L_law_692 {J : Nat → q_K} {l : Launch} {Qp : Option q_V → q_M → Prop} (E : q_E J cL_law RL wsL_law 13 l room_1) (T : q_T J cL_law (some .boolean) Qp) : ∀ (σ : q_M) (lv : q_L) (st : q_S), k_L_law_692 Qp J σ lv st → J 692 σ lv st := fun σ lv st h =>
    so_iconst E (x := 0) dL_law_692 h fun σ lv st h =>
    h
set_option maxRecDepth 20000 in
theorem sb_L_law_693 {J : Nat → q_K} {l : Launch} {Qp : Option q_V → q_M → Prop} (E : q_E J cL_law RL wsL_law 13 l room_1) (T : q_T J cL_law (some .boolean) Qp) : ∀ (σ : q_M) (lv : q_L) (st : q_S), k_L_law_693 Qp J σ lv st → J 693 σ lv st := fun σ lv st h =>
    so_istore E (i := 6) (by decide) dL_law_693 h fun σ lv st h =>
    so_goto E 921 (by decide) dL_law_695 (fun _ _ _ h => h) h
set_option maxRecDepth 20000 in
theorem sb_L_law_698 {J : Nat → q_K} {l : Launch} {Qp : Option q_V → q_M → Prop} (E : q_E J cL_law RL wsL_law 13 l room_1) (T : q_T J cL_law (some .boolean) Qp) : ∀ (σ : q_M) (lv : q_L) (st : q_S), k_L_law_698 Qp J σ lv st → J 698 σ lv st := fun σ lv st h =>
    so_iload E (i := 7) dL_law_698 h fun σ lv st h =>
    so_bipush E (x := 8) rfl dL_law_700 h fun σ lv st h =>
    so_icmpne E 785 (by decide) dL_law_702 (fun _ _ _ h => h) h fun σ lv st h =>
    so_iload_n E (i := 2) rfl dL_law_705 h fun σ lv st h =>
    so_ifle E 785 (by decide) dL_law_706 (fun _ _ _ h => h) h fun σ lv st h =>
    so_iload E (i := 5) dL_law_709 h fun σ lv st h =>
    so_iload_n E (i := 2) rfl dL_law_711 h fun σ lv st h =>
    so_callT E (n := 2) (idx := 109) (maxL := 2) (ret := (some .int)) cc_L_up gL_law_L_up rfl ⟨rfl, rfl⟩ (by decide +kernel) (by decide) dL_law_712 h fun σ lv st h =>
    so_istore E (i := 8) (by decide) dL_law_715 h fun σ lv st h =>
    so_aload_n E (i := 1) rfl dL_law_717 h fun σ lv st h =>
    so_iload E (i := 8) dL_law_718 h fun σ lv st h =>
    so_bipush E (x := 6) rfl dL_law_720 h fun σ lv st h =>
    so_callV E (n := 2) (pp := 23) (C := RX5) (T := TX5) (N := 5) (idx := 31) (maxL := 3) (ret := (some .int)) cc_X5_wheel ⟨rfl, rfl, rfl⟩ rfl gL_law_X5_wheel rfl ⟨rfl, rfl⟩ (by decide +kernel) (by decide) dL_law_722 h fun σ lv st h =>
    so_istore E (i := 9) (by decide) dL_law_725 h fun σ lv st h =>
    so_aload_n E (i := 1) rfl dL_law_727 h fun σ lv st h =>
    so_iload E (i := 8) dL_law_728 h fun σ lv st h =>
    so_iload E (i := 5) dL_law_730 h fun σ lv st h =>
    so_bipush E (x := 64) rfl dL_law_732 h fun σ lv st h =>
    so_iand E dL_law_734 h fun σ lv st h =>
    so_ifeq E 742 (by decide) dL_law_735 (fun _ _ _ h => h) h fun σ lv st h =>
    so_iconst E (x := 1) dL_law_738 h fun σ lv st h =>
    so_goto E 743 (by decide) dL_law_739 (fun _ _ _ h => h) h
set_option maxRecDepth 20000 in
theorem sb_L_law_742 {J : Nat → q_K} {l : Launch} {Qp : Option q_V → q_M → Prop} (E : q_E J cL_law RL wsL_law 13 l room_1) (T : q_T J cL_law (some .boolean) Qp) : ∀ (σ : q_M) (lv : q_L) (st : q_S), k_L_law_742 Qp J σ lv st → J 742 σ lv st := fun σ lv st h =>
    so_iconst E (x := 0) dL_law_742 h fun σ lv st h =>
    h
set_option maxRecDepth 20000 in
theorem sb_L_law_743 {J : Nat → q_K} {l : Launch} {Qp : Option q_V → q_M → Prop} (E : q_E J cL_law RL wsL_law 13 l room_1) (T : q_T J cL_law (some .boolean) Qp) : ∀ (σ : q_M) (lv : q_L) (st : q_S), k_L_law_743 Qp J σ lv st → J 743 σ lv st := fun σ lv st h =>
    so_callV E (n := 2) (pp := 23) (C := RX5) (T := TX5) (N := 5) (idx := 23) (maxL := 5) (ret := (some .int)) cc_X5_fail ⟨rfl, rfl, rfl⟩ rfl gL_law_X5_fail rfl ⟨rfl, rfl⟩ (by decide +kernel) (by decide) dL_law_743 h fun σ lv st h =>
    so_iload E (i := 9) dL_law_746 h fun σ lv st h =>
    so_icmpne E 779 (by decide) dL_law_748 (fun _ _ _ h => h) h fun σ lv st h =>
    so_aload_n E (i := 1) rfl dL_law_751 h fun σ lv st h =>
    so_iload E (i := 8) dL_law_752 h fun σ lv st h =>
    so_bipush E (x := 6) rfl dL_law_754 h fun σ lv st h =>
    so_callV E (n := 2) (pp := 23) (C := RX5) (T := TX5) (N := 5) (idx := 31) (maxL := 3) (ret := (some .int)) cc_X5_wheel ⟨rfl, rfl, rfl⟩ rfl gL_law_X5_wheel rfl ⟨rfl, rfl⟩ (by decide +kernel) (by decide) dL_law_756 h fun σ lv st h =>
    so_iload E (i := 5) dL_law_759 h fun σ lv st h =>
    so_bipush E (x := 64) rfl dL_law_761 h fun σ lv st h =>
    so_iand E dL_law_763 h fun σ lv st h =>
    so_ifeq E 771 (by decide) dL_law_764 (fun _ _ _ h => h) h fun σ lv st h =>
    so_iconst E (x := 1) dL_law_767 h fun σ lv st h =>
    so_goto E 772 (by decide) dL_law_768 (fun _ _ _ h => h) h
set_option maxRecDepth 20000 in
theorem sb_L_law_771 {J : Nat → q_K} {l : Launch} {Qp : Option q_V → q_M → Prop} (E : q_E J cL_law RL wsL_law 13 l room_1) (T : q_T J cL_law (some .boolean) Qp) : ∀ (σ : q_M) (lv : q_L) (st : q_S), k_L_law_771 Qp J σ lv st → J 771 σ lv st := fun σ lv st h =>
    so_iconst E (x := 0) dL_law_771 h fun σ lv st h =>
    h
set_option maxRecDepth 20000 in
theorem sb_L_law_772 {J : Nat → q_K} {l : Launch} {Qp : Option q_V → q_M → Prop} (E : q_E J cL_law RL wsL_law 13 l room_1) (T : q_T J cL_law (some .boolean) Qp) : ∀ (σ : q_M) (lv : q_L) (st : q_S), k_L_law_772 Qp J σ lv st → J 772 σ lv st := fun σ lv st h =>
    so_icmpne E 779 (by decide) dL_law_772 (fun _ _ _ h => h) h fun σ lv st h =>
    so_iconst E (x := 1) dL_law_775 h fun σ lv st h =>
    so_goto E 780 (by decide) dL_law_776 (fun _ _ _ h => h) h
set_option maxRecDepth 20000 in
theorem sb_L_law_779 {J : Nat → q_K} {l : Launch} {Qp : Option q_V → q_M → Prop} (E : q_E J cL_law RL wsL_law 13 l room_1) (T : q_T J cL_law (some .boolean) Qp) : ∀ (σ : q_M) (lv : q_L) (st : q_S), k_L_law_779 Qp J σ lv st → J 779 σ lv st := fun σ lv st h =>
    so_iconst E (x := 0) dL_law_779 h fun σ lv st h =>
    h
set_option maxRecDepth 20000 in
theorem sb_L_law_780 {J : Nat → q_K} {l : Launch} {Qp : Option q_V → q_M → Prop} (E : q_E J cL_law RL wsL_law 13 l room_1) (T : q_T J cL_law (some .boolean) Qp) : ∀ (σ : q_M) (lv : q_L) (st : q_S), k_L_law_780 Qp J σ lv st → J 780 σ lv st := fun σ lv st h =>
    so_istore E (i := 6) (by decide) dL_law_780 h fun σ lv st h =>
    so_goto E 921 (by decide) dL_law_782 (fun _ _ _ h => h) h
set_option maxRecDepth 20000 in
theorem sb_L_law_785 {J : Nat → q_K} {l : Launch} {Qp : Option q_V → q_M → Prop} (E : q_E J cL_law RL wsL_law 13 l room_1) (T : q_T J cL_law (some .boolean) Qp) : ∀ (σ : q_M) (lv : q_L) (st : q_S), k_L_law_785 Qp J σ lv st → J 785 σ lv st := fun σ lv st h =>
    so_iload E (i := 7) dL_law_785 h fun σ lv st h =>
    so_bipush E (x := 9) rfl dL_law_787 h fun σ lv st h =>
    so_icmpne E 873 (by decide) dL_law_789 (fun _ _ _ h => h) h fun σ lv st h =>
    so_iload_n E (i := 2) rfl dL_law_792 h fun σ lv st h =>
    so_ifle E 873 (by decide) dL_law_793 (fun _ _ _ h => h) h fun σ lv st h =>
    so_iload E (i := 5) dL_law_796 h fun σ lv st h =>
    so_iload_n E (i := 2) rfl dL_law_798 h fun σ lv st h =>
    so_callT E (n := 2) (idx := 109) (maxL := 2) (ret := (some .int)) cc_L_up gL_law_L_up rfl ⟨rfl, rfl⟩ (by decide +kernel) (by decide) dL_law_799 h fun σ lv st h =>
    so_istore E (i := 8) (by decide) dL_law_802 h fun σ lv st h =>
    so_iload E (i := 5) dL_law_804 h fun σ lv st h =>
    so_bipush E (x := 64) rfl dL_law_806 h fun σ lv st h =>
    so_iand E dL_law_808 h fun σ lv st h =>
    so_ifeq E 816 (by decide) dL_law_809 (fun _ _ _ h => h) h fun σ lv st h =>
    so_iconst E (x := 1) dL_law_812 h fun σ lv st h =>
    so_goto E 817 (by decide) dL_law_813 (fun _ _ _ h => h) h
set_option maxRecDepth 20000 in
theorem sb_L_law_816 {J : Nat → q_K} {l : Launch} {Qp : Option q_V → q_M → Prop} (E : q_E J cL_law RL wsL_law 13 l room_1) (T : q_T J cL_law (some .boolean) Qp) : ∀ (σ : q_M) (lv : q_L) (st : q_S), k_L_law_816 Qp J σ lv st → J 816 σ lv st := fun σ lv st h =>
    so_iconst E (x := 0) dL_law_816 h fun σ lv st h =>
    h
set_option maxRecDepth 20000 in
theorem sb_L_law_817 {J : Nat → q_K} {l : Launch} {Qp : Option q_V → q_M → Prop} (E : q_E J cL_law RL wsL_law 13 l room_1) (T : q_T J cL_law (some .boolean) Qp) : ∀ (σ : q_M) (lv : q_L) (st : q_S), k_L_law_817 Qp J σ lv st → J 817 σ lv st := fun σ lv st h =>
    so_istore E (i := 9) (by decide) dL_law_817 h fun σ lv st h =>
    so_aload_n E (i := 1) rfl dL_law_819 h fun σ lv st h =>
    so_iload E (i := 8) dL_law_820 h fun σ lv st h =>
    so_iload E (i := 9) dL_law_822 h fun σ lv st h =>
    so_ifeq E 831 (by decide) dL_law_824 (fun _ _ _ h => h) h fun σ lv st h =>
    so_iconst E (x := 5) dL_law_827 h fun σ lv st h =>
    so_goto E 832 (by decide) dL_law_828 (fun _ _ _ h => h) h
set_option maxRecDepth 20000 in
theorem sb_L_law_831 {J : Nat → q_K} {l : Launch} {Qp : Option q_V → q_M → Prop} (E : q_E J cL_law RL wsL_law 13 l room_1) (T : q_T J cL_law (some .boolean) Qp) : ∀ (σ : q_M) (lv : q_L) (st : q_S), k_L_law_831 Qp J σ lv st → J 831 σ lv st := fun σ lv st h =>
    so_iconst E (x := 4) dL_law_831 h fun σ lv st h =>
    h
set_option maxRecDepth 20000 in
theorem sb_L_law_832 {J : Nat → q_K} {l : Launch} {Qp : Option q_V → q_M → Prop} (E : q_E J cL_law RL wsL_law 13 l room_1) (T : q_T J cL_law (some .boolean) Qp) : ∀ (σ : q_M) (lv : q_L) (st : q_S), k_L_law_832 Qp J σ lv st → J 832 σ lv st := fun σ lv st h =>
    so_callV E (n := 2) (pp := 23) (C := RX5) (T := TX5) (N := 5) (idx := 31) (maxL := 3) (ret := (some .int)) cc_X5_wheel ⟨rfl, rfl, rfl⟩ rfl gL_law_X5_wheel rfl ⟨rfl, rfl⟩ (by decide +kernel) (by decide) dL_law_832 h fun σ lv st h =>
    so_istore E (i := 10) (by decide) dL_law_835 h fun σ lv st h =>
    so_aload_n E (i := 1) rfl dL_law_837 h fun σ lv st h =>
    so_iload E (i := 8) dL_law_838 h fun σ lv st h =>
    so_iload E (i := 9) dL_law_840 h fun σ lv st h =>
    so_iconst E (x := 1) dL_law_842 h fun σ lv st h =>
    so_iload E (i := 5) dL_law_843 h fun σ lv st h =>
    so_bipush E (x := 7) rfl dL_law_845 h fun σ lv st h =>
    so_ishr E dL_law_847 h fun σ lv st h =>
    so_sipush E (x := 9000) rfl dL_law_848 h fun σ lv st h =>
    so_callT E (n := 2) (idx := 109) (maxL := 2) (ret := (some .int)) cc_L_up gL_law_L_up rfl ⟨rfl, rfl⟩ (by decide +kernel) (by decide) dL_law_851 h fun σ lv st h =>
    so_iadd E dL_law_854 h fun σ lv st h =>
    so_callV E (n := 3) (pp := 23) (C := RX5) (T := TX5) (N := 5) (idx := 27) (maxL := 6) (ret := (some .int)) cc_X5_setMost ⟨rfl, rfl, rfl⟩ rfl gL_law_X5_setMost rfl ⟨rfl, rfl⟩ (by decide +kernel) (by decide) dL_law_855 h fun σ lv st h =>
    so_iload E (i := 10) dL_law_858 h fun σ lv st h =>
    so_icmpne E 867 (by decide) dL_law_860 (fun _ _ _ h => h) h fun σ lv st h =>
    so_iconst E (x := 1) dL_law_863 h fun σ lv st h =>
    so_goto E 868 (by decide) dL_law_864 (fun _ _ _ h => h) h
set_option maxRecDepth 20000 in
theorem sb_L_law_867 {J : Nat → q_K} {l : Launch} {Qp : Option q_V → q_M → Prop} (E : q_E J cL_law RL wsL_law 13 l room_1) (T : q_T J cL_law (some .boolean) Qp) : ∀ (σ : q_M) (lv : q_L) (st : q_S), k_L_law_867 Qp J σ lv st → J 867 σ lv st := fun σ lv st h =>
    so_iconst E (x := 0) dL_law_867 h fun σ lv st h =>
    h
set_option maxRecDepth 20000 in
theorem sb_L_law_868 {J : Nat → q_K} {l : Launch} {Qp : Option q_V → q_M → Prop} (E : q_E J cL_law RL wsL_law 13 l room_1) (T : q_T J cL_law (some .boolean) Qp) : ∀ (σ : q_M) (lv : q_L) (st : q_S), k_L_law_868 Qp J σ lv st → J 868 σ lv st := fun σ lv st h =>
    so_istore E (i := 6) (by decide) dL_law_868 h fun σ lv st h =>
    so_goto E 921 (by decide) dL_law_870 (fun _ _ _ h => h) h
set_option maxRecDepth 20000 in
theorem sb_L_law_873 {J J' : Nat → q_K} {l : Launch} {Qp : Option q_V → q_M → Prop} (E1 : q_E1 J J' cL_law RL wsL_law 13 l room_1) : ∀ (σ : q_M) (lv : q_L) (st : q_S), k_L_law_873 Qp J J' σ lv st → J 873 σ lv st := have E := E1.q; fun σ lv st h =>
    so_aload_n E (i := 1) rfl dL_law_873 h fun σ lv st h =>
    so_iload_n E (i := 2) rfl dL_law_874 h fun σ lv st h =>
    so_iload E (i := 5) dL_law_875 h fun σ lv st h =>
    so_sipush E (x := 20001) rfl dL_law_877 h fun σ lv st h =>
    so_callT E (n := 2) (idx := 109) (maxL := 2) (ret := (some .int)) cc_L_up gL_law_L_up rfl ⟨rfl, rfl⟩ (by decide +kernel) (by decide) dL_law_880 h fun σ lv st h =>
    so_sipush E (x := 10000) rfl dL_law_883 h fun σ lv st h =>
    so_isub E dL_law_886 h fun σ lv st h =>
    so_iload E (i := 5) dL_law_887 h fun σ lv st h =>
    so_iconst E (x := 3) dL_law_889 h fun σ lv st h =>
    so_ishr E dL_law_890 h fun σ lv st h =>
    so_sipush E (x := 20001) rfl dL_law_891 h fun σ lv st h =>
    so_callT E (n := 2) (idx := 109) (maxL := 2) (ret := (some .int)) cc_L_up gL_law_L_up rfl ⟨rfl, rfl⟩ (by decide +kernel) (by decide) dL_law_894 h fun σ lv st h =>
    so_sipush E (x := 10000) rfl dL_law_897 h fun σ lv st h =>
    so_isub E dL_law_900 h fun σ lv st h =>
    so_iload E (i := 5) dL_law_901 h fun σ lv st h =>
    so_bipush E (x := 6) rfl dL_law_903 h fun σ lv st h =>
    so_ishr E dL_law_905 h fun σ lv st h =>
    so_sipush E (x := 20001) rfl dL_law_906 h fun σ lv st h =>
    so_callT E (n := 2) (idx := 109) (maxL := 2) (ret := (some .int)) cc_L_up gL_law_L_up rfl ⟨rfl, rfl⟩ (by decide +kernel) (by decide) dL_law_909 h fun σ lv st h =>
    so_sipush E (x := 10000) rfl dL_law_912 h fun σ lv st h =>
    so_isub E dL_law_915 h fun σ lv st h =>
    so_callW E1 (n := 5) (idx := 117) (maxL := 12) (ret := (some .boolean)) cc_L_wishes gL_law_L_wishes rfl ⟨rfl, rfl⟩ (by decide +kernel) (by decide) dL_law_916 h fun σ lv st h =>
    so_istore E1.r (i := 6) (by decide) dL_law_919 h fun σ lv st h =>
    h
set_option maxRecDepth 20000 in
theorem sb_L_law_921 {J : Nat → q_K} {l : Launch} {Qp : Option q_V → q_M → Prop} (E : q_E J cL_law RL wsL_law 13 l room_1) (T : q_T J cL_law (some .boolean) Qp) : ∀ (σ : q_M) (lv : q_L) (st : q_S), k_L_law_921 Qp J σ lv st → J 921 σ lv st := fun σ lv st h =>
    so_iload E (i := 6) dL_law_921 h fun σ lv st h =>
    so_ifeq E 934 (by decide) dL_law_923 (fun _ _ _ h => h) h fun σ lv st h =>
    so_aload_n E (i := 1) rfl dL_law_926 h fun σ lv st h =>
    so_iload_n E (i := 2) rfl dL_law_927 h fun σ lv st h =>
    so_callT E (n := 2) (idx := 121) (maxL := 9) (ret := (some .boolean)) cc_L_keeps gL_law_L_keeps rfl ⟨rfl, rfl⟩ (by decide +kernel) (by decide) dL_law_928 h fun σ lv st h =>
    so_ifne E 936 (by decide) dL_law_931 (fun _ _ _ h => h) h fun σ lv st h =>
    h
set_option maxRecDepth 20000 in
theorem sb_L_law_934 {J : Nat → q_K} {l : Launch} {Qp : Option q_V → q_M → Prop} (E : q_E J cL_law RL wsL_law 13 l room_1) (T : q_T J cL_law (some .boolean) Qp) : ∀ (σ : q_M) (lv : q_L) (st : q_S), k_L_law_934 Qp J σ lv st → J 934 σ lv st := fun σ lv st h =>
    so_iconst E (x := 0) dL_law_934 h fun σ lv st h =>
    so_zret T dL_law_935 h
set_option maxRecDepth 20000 in
theorem sb_L_law_936 {J : Nat → q_K} {l : Launch} {Qp : Option q_V → q_M → Prop} (E : q_E J cL_law RL wsL_law 13 l room_1) (T : q_T J cL_law (some .boolean) Qp) : ∀ (σ : q_M) (lv : q_L) (st : q_S), k_L_law_936 Qp J σ lv st → J 936 σ lv st := fun σ lv st h =>
    so_iinc E (i := 3) (n := 1) (by decide) dL_law_936 h fun σ lv st h =>
    so_goto E 99 (by decide) dL_law_939 (fun _ _ _ h => h) h
set_option maxRecDepth 20000 in
theorem sb_L_law_942 {J : Nat → q_K} {l : Launch} {Qp : Option q_V → q_M → Prop} (E : q_E J cL_law RL wsL_law 13 l room_1) (T : q_T J cL_law (some .boolean) Qp) : ∀ (σ : q_M) (lv : q_L) (st : q_S), k_L_law_942 Qp J σ lv st → J 942 σ lv st := fun σ lv st h =>
    so_aload_n E (i := 1) rfl dL_law_942 h fun σ lv st h =>
    so_iload_n E (i := 2) rfl dL_law_943 h fun σ lv st h =>
    so_callT E (n := 2) (idx := 102) (maxL := 5) (ret := (some .boolean)) cc_L_fails gL_law_L_fails rfl ⟨rfl, rfl⟩ (by decide +kernel) (by decide) dL_law_944 h fun σ lv st h =>
    so_zret T dL_law_947 h
