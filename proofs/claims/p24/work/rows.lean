section
-- ===== PART A: goes FIRST, ahead of the names: the tables' words, and 'selects' of the private methods out of them =====
/-- a private method of a class that the tables say can be made, by its rows of tables_1 -/
def lw_okq (q : MethodName × Nat) : Prop := (q.1.cls ≠ "java/lang/invoke/MethodHandle" ∧ q.1.cls ≠ "java/lang/invoke/VarHandle") ∧ Cond.instantiable q.1.cls q.2 ∈ tables_1 ∧ Cond.privateMethod q.1 ∈ tables_1 ∧ Cond.instanceMethod q.1 ∈ tables_1
theorem lw_p0 : lw_okq (⟨"WheelDesk$History", "dropOldest", "()V"⟩, 2) := ⟨⟨by decide +kernel, by decide +kernel⟩, List.mem_of_getElem? (i := 146) (by decide +kernel), List.mem_of_getElem? (i := 196) (by decide +kernel), List.mem_of_getElem? (i := 197) (by decide +kernel)⟩
theorem lw_p1 : lw_okq (⟨"WheelDesk", "isWheel", "(I)Z"⟩, 5) := ⟨⟨by decide +kernel, by decide +kernel⟩, List.mem_of_getElem? (i := 10) (by decide +kernel), List.mem_of_getElem? (i := 220) (by decide +kernel), List.mem_of_getElem? (i := 221) (by decide +kernel)⟩
theorem lw_p2 : lw_okq (⟨"WheelDesk$Sharing", "addProducts", "([I)V"⟩, 4) := ⟨⟨by decide +kernel, by decide +kernel⟩, List.mem_of_getElem? (i := 111) (by decide +kernel), List.mem_of_getElem? (i := 306) (by decide +kernel), List.mem_of_getElem? (i := 307) (by decide +kernel)⟩
theorem lw_p3 : lw_okq (⟨"WheelDesk$Sharing", "findCofactors", "()V"⟩, 4) := ⟨⟨by decide +kernel, by decide +kernel⟩, List.mem_of_getElem? (i := 111) (by decide +kernel), List.mem_of_getElem? (i := 310) (by decide +kernel), List.mem_of_getElem? (i := 311) (by decide +kernel)⟩
theorem lw_p4 : lw_okq (⟨"WheelDesk", "passOne", "(LWheelDesk$Craft;)V"⟩, 5) := ⟨⟨by decide +kernel, by decide +kernel⟩, List.mem_of_getElem? (i := 10) (by decide +kernel), List.mem_of_getElem? (i := 348) (by decide +kernel), List.mem_of_getElem? (i := 349) (by decide +kernel)⟩
theorem lw_p5 : lw_okq (⟨"WheelDesk$Sharing", "give", "(LWheelDesk$Craft;I)V"⟩, 4) := ⟨⟨by decide +kernel, by decide +kernel⟩, List.mem_of_getElem? (i := 111) (by decide +kernel), List.mem_of_getElem? (i := 380) (by decide +kernel), List.mem_of_getElem? (i := 381) (by decide +kernel)⟩
theorem lw_p6 : lw_okq (⟨"WheelDesk", "offWithout", "(II)J"⟩, 5) := ⟨⟨by decide +kernel, by decide +kernel⟩, List.mem_of_getElem? (i := 10) (by decide +kernel), List.mem_of_getElem? (i := 445) (by decide +kernel), List.mem_of_getElem? (i := 446) (by decide +kernel)⟩
def lw_privs_1 : List (MethodName × Nat) := [(⟨"WheelDesk$History", "dropOldest", "()V"⟩, 2), (⟨"WheelDesk", "isWheel", "(I)Z"⟩, 5), (⟨"WheelDesk$Sharing", "addProducts", "([I)V"⟩, 4), (⟨"WheelDesk$Sharing", "findCofactors", "()V"⟩, 4), (⟨"WheelDesk", "passOne", "(LWheelDesk$Craft;)V"⟩, 5), (⟨"WheelDesk$Sharing", "give", "(LWheelDesk$Craft;I)V"⟩, 4), (⟨"WheelDesk", "offWithout", "(II)J"⟩, 5)]
theorem lw_r1 : ∀ q ∈ lw_privs_1, lw_okq q := List.forall_mem_cons.mpr ⟨lw_p0, List.forall_mem_cons.mpr ⟨lw_p1, List.forall_mem_cons.mpr ⟨lw_p2, List.forall_mem_cons.mpr ⟨lw_p3, List.forall_mem_cons.mpr ⟨lw_p4, List.forall_mem_cons.mpr ⟨lw_p5, List.forall_mem_cons.mpr ⟨lw_p6, fun _ h => absurd h List.not_mem_nil⟩⟩⟩⟩⟩⟩⟩
def lw_privs : List (MethodName × Nat) := lw_privs_1
def lw_tbl : List Cond := k2_sels lw_privs ++ tables_1
theorem lw_privs_ok : ∀ q ∈ lw_privs, lw_okq q := lw_r1
/-- the streams that the claim lets the run draw from -/
abbrev lw_cs : List Choice := [Jvm.Choice.named "NaN.bits"]
theorem lw_bits : nanBits ∈ lw_cs := by first | decide | exact List.mem_cons_self | simp [lw_cs, nanBits]
-- ===== end of PART A; then your names; then what follows =====
end
section
/-! ===== BEGIN words of one list among another's, by their places ===== -/
theorem goodIn_r {big : List Cond} (ws : List Cond) (ps : List Nat) (hp : ws = ps.filterMap (fun i => big[i]?)) (h : ws.all goodWord = true) : GoodIn big ws := by
  intro w hw
  have h1 := List.all_eq_true.mp h w hw
  rw [hp] at hw
  obtain ⟨i, -, hi⟩ := List.mem_filterMap.mp hw
  have hm : w ∈ big := by first | exact List.mem_of_getElem? hi | exact List.getElem?_mem hi
  exact ⟨hm, good_of_word h1⟩
theorem goodIn_app {big a b : List Cond} (ha : GoodIn big a) (hb : GoodIn big b) : GoodIn big (a ++ b) := fun w h => (List.mem_append.mp h).elim (ha w) (hb w)
theorem goodIn_ca {big a b : List Cond} {c : Cond} (ha : GoodIn big (c :: a)) (hb : GoodIn big b) : GoodIn big (c :: (a ++ b)) := fun w h => (List.mem_cons.mp h).elim (fun e => ha w (List.mem_cons.mpr (Or.inl e))) (fun h => (List.mem_append.mp h).elim (fun h => ha w (List.mem_cons.mpr (Or.inr h))) (hb w))
theorem goodIn_sub {big ws : List Cond} (hm : ∀ w ∈ ws, w ∈ big) (h : ws.all goodWord = true) : GoodIn big ws := fun w hw => ⟨hm w hw, good_of_word (List.all_eq_true.mp h w hw)⟩
/-! ===== END ===== -/

/-! ===== BEGIN printed: names, fields, word lists, decode rows ===== -/
def RX0 : String := "WheelDesk$Craft"
def TX0 : u_T := fun k => match k with
  | 0 => ("WheelDesk$Craft", "now", "I", false)
  | 1 => ("WheelDesk$Craft", "settings", "[I", true)
  | 2 => ("WheelDesk$Craft", "given", "[[I", true)
  | 3 => ("WheelDesk$Craft", "angle", "[J", true)
  | 4 => ("WheelDesk$Craft", "momentum", "[J", true)
  | 5 => ("WheelDesk$Craft", "outside", "[J", true)
  | 6 => ("WheelDesk$Craft", "wished", "[J", true)
  | 7 => ("WheelDesk$Craft", "wheelRow", "[LWheelDesk$Wheel;", true)
  | 8 => ("WheelDesk$Craft", "wheelCount", "I", false)
  | 9 => ("WheelDesk$Craft", "reasons", "[I", true)
  | _ => ("WheelDesk$Craft", "reasonCount", "I", false)
def tyX0 : Nat → FieldType := fun k => match k with
  | 0 => .int
  | 1 => .array .int
  | 2 => .array (.array .int)
  | 3 => .array .long
  | 4 => .array .long
  | 5 => .array .long
  | 6 => .array .long
  | 7 => .array (.object "WheelDesk$Wheel")
  | 8 => .int
  | 9 => .array .int
  | _ => .int
abbrev wsX00 : List Cond := u_ws RX0 TX0 11
theorem nmX0 : ∀ a, a < 11 → ∀ b, b < 11 → a ≠ b → (TX0 a).2.1 ≠ (TX0 b).2.1 := by decide +kernel
theorem tyX0_ok : ∀ k, k < 11 → parseFieldDescriptor (TX0 k).2.2.1 = some (tyX0 k) := by decide +kernel
abbrev cX0_init : ByteArray := prog_2_method_1_code
def yX0_init : MethodName := ⟨RX0, "<init>", "()V"⟩
abbrev cX0_become : ByteArray := prog_2_method_2_code
def yX0_become : MethodName := ⟨RX0, "become", "(LWheelDesk$Craft;)V"⟩
abbrev cX0_number : ByteArray := prog_2_method_3_code
def yX0_number : MethodName := ⟨RX0, "number", "(II)J"⟩
abbrev cX0_rate : ByteArray := prog_2_method_4_code
def yX0_rate : MethodName := ⟨RX0, "rate", "(I)J"⟩
abbrev cX0_wheelMomentum : ByteArray := prog_2_method_5_code
def yX0_wheelMomentum : MethodName := ⟨RX0, "wheelMomentum", "(I)J"⟩
abbrev cX0_aside : ByteArray := prog_2_method_6_code
def yX0_aside : MethodName := ⟨RX0, "aside", "(I)J"⟩
abbrev cX0_offTarget : ByteArray := prog_2_method_7_code
def yX0_offTarget : MethodName := ⟨RX0, "offTarget", "()J"⟩
abbrev cX0_isOnTarget : ByteArray := prog_2_method_8_code
def yX0_isOnTarget : MethodName := ⟨RX0, "isOnTarget", "(I)Z"⟩
abbrev cX0_isMet : ByteArray := prog_2_method_9_code
def yX0_isMet : MethodName := ⟨RX0, "isMet", "()Z"⟩
abbrev cX0_findWish : ByteArray := prog_2_method_10_code
def yX0_findWish : MethodName := ⟨RX0, "findWish", "()V"⟩
abbrev cX0_pushFromOutside : ByteArray := prog_2_method_11_code
def yX0_pushFromOutside : MethodName := ⟨RX0, "pushFromOutside", "(IJ)V"⟩
abbrev cX0_disturb : ByteArray := prog_2_method_12_code
def yX0_disturb : MethodName := ⟨RX0, "disturb", "()V"⟩
abbrev cX0_turn : ByteArray := prog_2_method_13_code
def yX0_turn : MethodName := ⟨RX0, "turn", "()V"⟩
abbrev cX0_tellMet : ByteArray := prog_2_method_14_code
def yX0_tellMet : MethodName := ⟨RX0, "tellMet", "()V"⟩
abbrev cX0_tellNoSpan : ByteArray := prog_2_method_15_code
def yX0_tellNoSpan : MethodName := ⟨RX0, "tellNoSpan", "()V"⟩
abbrev cX0_tellLimited : ByteArray := prog_2_method_16_code
def yX0_tellLimited : MethodName := ⟨RX0, "tellLimited", "(IZ)V"⟩
def RX1 : String := "WheelDesk$History"
def TX1 : u_T := fun k => match k with
  | 0 => ("WheelDesk$History", "states", "[LWheelDesk$Craft;", true)
  | _ => ("WheelDesk$History", "kept", "I", false)
def tyX1 : Nat → FieldType := fun k => match k with
  | 0 => .array (.object "WheelDesk$Craft")
  | _ => .int
abbrev wsX10 : List Cond := u_ws RX1 TX1 2
theorem nmX1 : ∀ a, a < 2 → ∀ b, b < 2 → a ≠ b → (TX1 a).2.1 ≠ (TX1 b).2.1 := by decide +kernel
theorem tyX1_ok : ∀ k, k < 2 → parseFieldDescriptor (TX1 k).2.2.1 = some (tyX1 k) := by decide +kernel
abbrev cX1_init : ByteArray := prog_3_method_1_code
def yX1_init : MethodName := ⟨RX1, "<init>", "()V"⟩
abbrev cX1_keep : ByteArray := prog_3_method_2_code
def yX1_keep : MethodName := ⟨RX1, "keep", "(LWheelDesk$Craft;)V"⟩
abbrev cX1_dropOldest : ByteArray := prog_3_method_3_code
def yX1_dropOldest : MethodName := ⟨RX1, "dropOldest", "()V"⟩
abbrev cX1_giveBack : ByteArray := prog_3_method_4_code
def yX1_giveBack : MethodName := ⟨RX1, "giveBack", "(LWheelDesk$Craft;)I"⟩
def RX2 : String := "WheelDesk$Magnets"
def TX2 : u_T := fun k => match k with
  | 0 => ("WheelDesk$Magnets", "held", "[J", true)
  | _ => ("WheelDesk$Magnets", "moment", "[J", true)
def tyX2 : Nat → FieldType := fun k => match k with
  | 0 => .array .long
  | _ => .array .long
abbrev wsX20 : List Cond := u_ws RX2 TX2 2
theorem nmX2 : ∀ a, a < 2 → ∀ b, b < 2 → a ≠ b → (TX2 a).2.1 ≠ (TX2 b).2.1 := by decide +kernel
theorem tyX2_ok : ∀ k, k < 2 → parseFieldDescriptor (TX2 k).2.2.1 = some (tyX2 k) := by decide +kernel
abbrev cX2_init : ByteArray := prog_4_method_1_code
def yX2_init : MethodName := ⟨RX2, "<init>", "()V"⟩
abbrev cX2_letGo : ByteArray := prog_4_method_2_code
def yX2_letGo : MethodName := ⟨RX2, "letGo", "(LWheelDesk$Craft;)V"⟩
abbrev cX2_crossed : ByteArray := prog_4_method_3_code
def yX2_crossed : MethodName := ⟨RX2, "crossed", "([J[II)J"⟩
def RX3 : String := "WheelDesk$Sharing"
def TX3 : u_T := fun k => match k with
  | 0 => ("WheelDesk$Sharing", "matrix", "[[J", true)
  | 1 => ("WheelDesk$Sharing", "cofactor", "[[J", true)
  | 2 => ("WheelDesk$Sharing", "aimed", "[J", true)
  | _ => ("WheelDesk$Sharing", "determinant", "J", false)
def tyX3 : Nat → FieldType := fun k => match k with
  | 0 => .array (.array .long)
  | 1 => .array (.array .long)
  | 2 => .array .long
  | _ => .long
abbrev wsX30 : List Cond := u_ws RX3 TX3 4
theorem nmX3 : ∀ a, a < 4 → ∀ b, b < 4 → a ≠ b → (TX3 a).2.1 ≠ (TX3 b).2.1 := by decide +kernel
theorem tyX3_ok : ∀ k, k < 4 → parseFieldDescriptor (TX3 k).2.2.1 = some (tyX3 k) := by decide +kernel
abbrev cX3_init : ByteArray := prog_5_method_1_code
def yX3_init : MethodName := ⟨RX3, "<init>", "()V"⟩
abbrev cX3_measure : ByteArray := prog_5_method_2_code
def yX3_measure : MethodName := ⟨RX3, "measure", "(LWheelDesk$Craft;I)V"⟩
abbrev cX3_addProducts : ByteArray := prog_5_method_3_code
def yX3_addProducts : MethodName := ⟨RX3, "addProducts", "([I)V"⟩
abbrev cX3_findCofactors : ByteArray := prog_5_method_4_code
def yX3_findCofactors : MethodName := ⟨RX3, "findCofactors", "()V"⟩
abbrev cX3_spans : ByteArray := prog_5_method_5_code
def yX3_spans : MethodName := ⟨RX3, "spans", "()Z"⟩
abbrev cX3_aim : ByteArray := prog_5_method_6_code
def yX3_aim : MethodName := ⟨RX3, "aim", "(JJJ)V"⟩
abbrev cX3_wishOf : ByteArray := prog_5_method_7_code
def yX3_wishOf : MethodName := ⟨RX3, "wishOf", "(LWheelDesk$Wheel;)J"⟩
abbrev cX3_share : ByteArray := prog_5_method_8_code
def yX3_share : MethodName := ⟨RX3, "share", "(LWheelDesk$Craft;)V"⟩
abbrev cX3_give : ByteArray := prog_5_method_9_code
def yX3_give : MethodName := ⟨RX3, "give", "(LWheelDesk$Craft;I)V"⟩
def RX4 : String := "WheelDesk$Wheel"
def TX4 : u_T := fun k => match k with
  | 0 => ("WheelDesk$Wheel", "direction", "[I", true)
  | 1 => ("WheelDesk$Wheel", "momentum", "I", false)
  | 2 => ("WheelDesk$Wheel", "mostMomentum", "I", false)
  | 3 => ("WheelDesk$Wheel", "mostTorque", "I", false)
  | 4 => ("WheelDesk$Wheel", "failed", "Z", false)
  | _ => ("WheelDesk$Wheel", "got", "I", false)
def tyX4 : Nat → FieldType := fun k => match k with
  | 0 => .array .int
  | 1 => .int
  | 2 => .int
  | 3 => .int
  | 4 => .boolean
  | _ => .int
abbrev wsX40 : List Cond := u_ws RX4 TX4 6
theorem nmX4 : ∀ a, a < 6 → ∀ b, b < 6 → a ≠ b → (TX4 a).2.1 ≠ (TX4 b).2.1 := by decide +kernel
theorem tyX4_ok : ∀ k, k < 6 → parseFieldDescriptor (TX4 k).2.2.1 = some (tyX4 k) := by decide +kernel
abbrev cX4_init : ByteArray := prog_6_method_1_code
def yX4_init : MethodName := ⟨RX4, "<init>", "()V"⟩
abbrev cX4_start : ByteArray := prog_6_method_2_code
def yX4_start : MethodName := ⟨RX4, "start", "(IIIII)V"⟩
abbrev cX4_become : ByteArray := prog_6_method_3_code
def yX4_become : MethodName := ⟨RX4, "become", "(LWheelDesk$Wheel;)V"⟩
abbrev cX4_number : ByteArray := prog_6_method_4_code
def yX4_number : MethodName := ⟨RX4, "number", "(I)I"⟩
abbrev cX4_allowedByTorque : ByteArray := prog_6_method_5_code
def yX4_allowedByTorque : MethodName := ⟨RX4, "allowedByTorque", "(J)J"⟩
abbrev cX4_allowedByMomentum : ByteArray := prog_6_method_6_code
def yX4_allowedByMomentum : MethodName := ⟨RX4, "allowedByMomentum", "(J)J"⟩
abbrev cX4_fullPart : ByteArray := prog_6_method_7_code
def yX4_fullPart : MethodName := ⟨RX4, "fullPart", "()F"⟩
def RX5 : String := "WheelDesk"
def TX5 : u_T := fun k => match k with
  | 0 => ("WheelDesk", "craft", "LWheelDesk$Craft;", true)
  | 1 => ("WheelDesk", "trial", "LWheelDesk$Craft;", true)
  | 2 => ("WheelDesk", "sharing", "LWheelDesk$Sharing;", true)
  | 3 => ("WheelDesk", "magnets", "LWheelDesk$Magnets;", true)
  | _ => ("WheelDesk", "history", "LWheelDesk$History;", true)
def tyX5 : Nat → FieldType := fun k => match k with
  | 0 => .object "WheelDesk$Craft"
  | 1 => .object "WheelDesk$Craft"
  | 2 => .object "WheelDesk$Sharing"
  | 3 => .object "WheelDesk$Magnets"
  | _ => .object "WheelDesk$History"
abbrev wsX50 : List Cond := u_ws RX5 TX5 5
theorem nmX5 : ∀ a, a < 5 → ∀ b, b < 5 → a ≠ b → (TX5 a).2.1 ≠ (TX5 b).2.1 := by decide +kernel
theorem tyX5_ok : ∀ k, k < 5 → parseFieldDescriptor (TX5 k).2.2.1 = some (tyX5 k) := by decide +kernel
abbrev cX5_init : ByteArray := prog_1_method_1_code
def yX5_init : MethodName := ⟨RX5, "<init>", "()V"⟩
abbrev cX5_addWheel : ByteArray := prog_1_method_2_code
def yX5_addWheel : MethodName := ⟨RX5, "addWheel", "(IIIII)I"⟩
abbrev cX5_fail : ByteArray := prog_1_method_3_code
def yX5_fail : MethodName := ⟨RX5, "fail", "(IZ)I"⟩
abbrev cX5_setMost : ByteArray := prog_1_method_4_code
def yX5_setMost : MethodName := ⟨RX5, "setMost", "(IZI)I"⟩
abbrev cX5_wheel : ByteArray := prog_1_method_5_code
def yX5_wheel : MethodName := ⟨RX5, "wheel", "(II)I"⟩
abbrev cX5_wheels : ByteArray := prog_1_method_6_code
def yX5_wheels : MethodName := ⟨RX5, "wheels", "()I"⟩
abbrev cX5_setAxis : ByteArray := prog_1_method_7_code
def yX5_setAxis : MethodName := ⟨RX5, "setAxis", "(III)I"⟩
abbrev cX5_set : ByteArray := prog_1_method_8_code
def yX5_set : MethodName := ⟨RX5, "set", "(II)I"⟩
abbrev cX5_setting : ByteArray := prog_1_method_9_code
def yX5_setting : MethodName := ⟨RX5, "setting", "(I)I"⟩
abbrev cX5_strike : ByteArray := prog_1_method_10_code
def yX5_strike : MethodName := ⟨RX5, "strike", "(II)J"⟩
abbrev cX5_tick : ByteArray := prog_1_method_11_code
def yX5_tick : MethodName := ⟨RX5, "tick", "(I)I"⟩
abbrev cX5_time : ByteArray := prog_1_method_12_code
def yX5_time : MethodName := ⟨RX5, "time", "()I"⟩
abbrev cX5_axis : ByteArray := prog_1_method_13_code
def yX5_axis : MethodName := ⟨RX5, "axis", "(II)J"⟩
abbrev cX5_span : ByteArray := prog_1_method_14_code
def yX5_span : MethodName := ⟨RX5, "span", "()J"⟩
abbrev cX5_wish : ByteArray := prog_1_method_15_code
def yX5_wish : MethodName := ⟨RX5, "wish", "(IIII)J"⟩
abbrev cX5_why : ByteArray := prog_1_method_16_code
def yX5_why : MethodName := ⟨RX5, "why", "(I)I"⟩
abbrev cX5_fullness : ByteArray := prog_1_method_17_code
def yX5_fullness : MethodName := ⟨RX5, "fullness", "()F"⟩
abbrev cX5_arrives : ByteArray := prog_1_method_18_code
def yX5_arrives : MethodName := ⟨RX5, "arrives", "(I)I"⟩
abbrev cX5_spare : ByteArray := prog_1_method_19_code
def yX5_spare : MethodName := ⟨RX5, "spare", "()I"⟩
abbrev cX5_gravest : ByteArray := prog_1_method_20_code
def yX5_gravest : MethodName := ⟨RX5, "gravest", "(I)I"⟩
abbrev cX5_undo : ByteArray := prog_1_method_21_code
def yX5_undo : MethodName := ⟨RX5, "undo", "()I"⟩
abbrev cX5_fingerprint : ByteArray := prog_1_method_22_code
def yX5_fingerprint : MethodName := ⟨RX5, "fingerprint", "()J"⟩
abbrev cX5_mixed : ByteArray := prog_1_method_23_code
def yX5_mixed : MethodName := ⟨RX5, "mixed", "(JJ)J"⟩
abbrev cX5_isWithin : ByteArray := prog_1_method_24_code
def yX5_isWithin : MethodName := ⟨RX5, "isWithin", "(III)Z"⟩
abbrev cX5_isAxis : ByteArray := prog_1_method_25_code
def yX5_isAxis : MethodName := ⟨RX5, "isAxis", "(I)Z"⟩
abbrev cX5_isTorque : ByteArray := prog_1_method_26_code
def yX5_isTorque : MethodName := ⟨RX5, "isTorque", "(I)Z"⟩
abbrev cX5_isDirection : ByteArray := prog_1_method_27_code
def yX5_isDirection : MethodName := ⟨RX5, "isDirection", "(III)Z"⟩
abbrev cX5_isWheel : ByteArray := prog_1_method_28_code
def yX5_isWheel : MethodName := ⟨RX5, "isWheel", "(I)Z"⟩
abbrev cX5_limited : ByteArray := prog_1_method_29_code
def yX5_limited : MethodName := ⟨RX5, "limited", "(JJJ)J"⟩
abbrev cX5_quotient : ByteArray := prog_1_method_30_code
def yX5_quotient : MethodName := ⟨RX5, "quotient", "(JJ)J"⟩
abbrev cX5_axisAfter : ByteArray := prog_1_method_31_code
def yX5_axisAfter : MethodName := ⟨RX5, "axisAfter", "(II)I"⟩
abbrev cX5_passOne : ByteArray := prog_1_method_32_code
def yX5_passOne : MethodName := ⟨RX5, "passOne", "(LWheelDesk$Craft;)V"⟩
abbrev cX5_offWithout : ByteArray := prog_1_method_33_code
def yX5_offWithout : MethodName := ⟨RX5, "offWithout", "(II)J"⟩
def RX6 : String := "WheelDeskModel"
def TX6 : u_T := fun k => match k with
  | _ => ("", "", "", false)
def tyX6 : Nat → FieldType := fun k => match k with
  | _ => .int
abbrev wsX60 : List Cond := u_ws RX6 TX6 0
theorem nmX6 : ∀ a, a < 0 → ∀ b, b < 0 → a ≠ b → (TX6 a).2.1 ≠ (TX6 b).2.1 := by decide +kernel
theorem tyX6_ok : ∀ k, k < 0 → parseFieldDescriptor (TX6 k).2.2.1 = some (tyX6 k) := by decide +kernel
def RJ9 : String := "java/lang/Math"
def TJ9 : u_T := fun k => match k with
  | _ => ("", "", "", false)
def tyJ9 : Nat → FieldType := fun k => match k with
  | _ => .int
abbrev wsJ90 : List Cond := u_ws RJ9 TJ9 0
theorem nmJ9 : ∀ a, a < 0 → ∀ b, b < 0 → a ≠ b → (TJ9 a).2.1 ≠ (TJ9 b).2.1 := by decide +kernel
theorem tyJ9_ok : ∀ k, k < 0 → parseFieldDescriptor (TJ9 k).2.2.1 = some (tyJ9 k) := by decide +kernel
abbrev cJ9_floorDiv_f86c9 : ByteArray := prog_9_method_49_code
def yJ9_floorDiv_f86c9 : MethodName := ⟨RJ9, "floorDiv", "(JJ)J"⟩
abbrev cJ9_abs_0f7a4 : ByteArray := prog_9_method_59_code
def yJ9_abs_0f7a4 : MethodName := ⟨RJ9, "abs", "(I)I"⟩
abbrev cJ9_abs_067f4 : ByteArray := prog_9_method_61_code
def yJ9_abs_067f4 : MethodName := ⟨RJ9, "abs", "(J)J"⟩
abbrev cJ9_max_7cf53 : ByteArray := prog_9_method_65_code
def yJ9_max_7cf53 : MethodName := ⟨RJ9, "max", "(II)I"⟩
abbrev cJ9_min_7cf53 : ByteArray := prog_9_method_69_code
def yJ9_min_7cf53 : MethodName := ⟨RJ9, "min", "(II)I"⟩
def RJ10 : String := "java/lang/System"
def TJ10 : u_T := fun k => match k with
  | _ => ("", "", "", false)
def tyJ10 : Nat → FieldType := fun k => match k with
  | _ => .int
abbrev wsJ100 : List Cond := u_ws RJ10 TJ10 0
theorem nmJ10 : ∀ a, a < 0 → ∀ b, b < 0 → a ≠ b → (TJ10 a).2.1 ≠ (TJ10 b).2.1 := by decide +kernel
theorem tyJ10_ok : ∀ k, k < 0 → parseFieldDescriptor (TJ10 k).2.2.1 = some (tyJ10 k) := by decide +kernel
def RL : String := "WheelDeskLaw"
abbrev cL_cell : ByteArray := method_2_code
def yL_cell : MethodName := ⟨RL, "cell", "([II)I"⟩
abbrev cL_up : ByteArray := method_3_code
def yL_up : MethodName := ⟨RL, "up", "(II)I"⟩
abbrev cL_fails : ByteArray := method_4_code
def yL_fails : MethodName := ⟨RL, "fails", "(LWheelDesk;I)Z"⟩
abbrev cL_keeps : ByteArray := method_5_code
def yL_keeps : MethodName := ⟨RL, "keeps", "(LWheelDesk;I)Z"⟩
abbrev cL_reasons : ByteArray := method_6_code
def yL_reasons : MethodName := ⟨RL, "reasons", "(LWheelDesk;I)Z"⟩
abbrev cL_size : ByteArray := method_7_code
def yL_size : MethodName := ⟨RL, "size", "(J)J"⟩
abbrev cL_wishes : ByteArray := method_8_code
def yL_wishes : MethodName := ⟨RL, "wishes", "(LWheelDesk;IIII)Z"⟩
abbrev cL_ticks : ByteArray := method_9_code
def yL_ticks : MethodName := ⟨RL, "ticks", "(LWheelDesk;III)Z"⟩
abbrev cL_law : ByteArray := code
def yL_law : MethodName := ⟨RL, "law", "([I)Z"⟩
def wsX4_init : List Cond := .code yX4_init cX4_init 1 none :: ([.methodLink RX4 3 objectInit, .instanceMethod objectInit, .code objectInit ⟨#[0xb1]⟩ 1 none, .arrayClass .int, .fieldLink RX4 9 "WheelDesk$Wheel" "direction" "[I"] ++ wsX40)
def wsX0_init : List Cond := .code yX0_init cX0_init 2 none :: ([.methodLink RX0 3 objectInit, .instanceMethod objectInit, .code objectInit ⟨#[0xb1]⟩ 1 none, .arrayClass .int, .fieldLink RX0 9 "WheelDesk$Craft" "settings" "[I", .classLink RX0 15 "[[I", .fieldLink RX0 17 "WheelDesk$Craft" "given" "[[I", .arrayClass .long, .fieldLink RX0 20 "WheelDesk$Craft" "angle" "[J", .fieldLink RX0 24 "WheelDesk$Craft" "momentum" "[J", .fieldLink RX0 27 "WheelDesk$Craft" "outside" "[J", .fieldLink RX0 30 "WheelDesk$Craft" "wished" "[J", .classLink RX0 33 RX4, .fieldLink RX0 35 "WheelDesk$Craft" "wheelRow" "[LWheelDesk$Wheel;", .fieldLink RX0 39 "WheelDesk$Craft" "reasons" "[I", .instantiable RX4 6, .initialized RX4, .fieldLink RX0 43 "WheelDesk$Craft" "reasonCount" "I", .instanceMethod yX4_init, .code yX4_init cX4_init 1 none, .methodLink RX4 3 objectInit, .fieldLink RX4 9 "WheelDesk$Wheel" "direction" "[I"] ++ wsX00 ++ wsX40)
def wsX4_become : List Cond := .code yX4_become cX4_become 2 none :: ([.fieldLink RX4 9 "WheelDesk$Wheel" "direction" "[I", .methodLink RX4 32 arraycopyName, .native arraycopyName, .static arraycopyName, .initialized "java/lang/System", .fieldLink RX4 15 "WheelDesk$Wheel" "momentum" "I", .fieldLink RX4 19 "WheelDesk$Wheel" "mostMomentum" "I", .fieldLink RX4 22 "WheelDesk$Wheel" "mostTorque" "I", .fieldLink RX4 25 "WheelDesk$Wheel" "failed" "Z", .fieldLink RX4 29 "WheelDesk$Wheel" "got" "I"] ++ wsX40)
def wsX0_become_r1 : List Cond := [Cond.fieldLink RX0 47 "WheelDesk$Craft" "now" "I", Cond.fieldLink RX0 9 "WheelDesk$Craft" "settings" "[I", Cond.methodLink RX0 50 arraycopyName, Cond.native arraycopyName, Cond.static arraycopyName, Cond.initialized "java/lang/System", Cond.fieldLink RX0 17 "WheelDesk$Craft" "given" "[[I", Cond.fieldLink RX0 20 "WheelDesk$Craft" "angle" "[J", Cond.fieldLink RX0 24 "WheelDesk$Craft" "momentum" "[J", Cond.fieldLink RX0 27 "WheelDesk$Craft" "outside" "[J", Cond.fieldLink RX0 30 "WheelDesk$Craft" "wished" "[J", Cond.fieldLink RX0 56 "WheelDesk$Craft" "wheelCount" "I", Cond.fieldLink RX0 35 "WheelDesk$Craft" "wheelRow" "[LWheelDesk$Wheel;", Cond.fieldLink RX0 39 "WheelDesk$Craft" "reasons" "[I", Cond.fieldLink RX0 43 "WheelDesk$Craft" "reasonCount" "I", Cond.methodLink RX0 59 yX4_become, Cond.instanceMethod yX4_become, Cond.selects RX4 yX4_become yX4_become, Cond.initialized RX4, Cond.code yX4_become cX4_become 2 none, Cond.fieldLink RX4 9 "WheelDesk$Wheel" "direction" "[I", Cond.methodLink RX4 32 arraycopyName, Cond.fieldLink RX4 15 "WheelDesk$Wheel" "momentum" "I", Cond.fieldLink RX4 19 "WheelDesk$Wheel" "mostMomentum" "I"]
def wsX0_become_r2 : List Cond := [Cond.fieldLink RX4 22 "WheelDesk$Wheel" "mostTorque" "I", Cond.fieldLink RX4 25 "WheelDesk$Wheel" "failed" "Z", Cond.fieldLink RX4 29 "WheelDesk$Wheel" "got" "I"]
def wsX0_become : List Cond := .code yX0_become cX0_become 3 none :: ((wsX0_become_r1 ++ wsX0_become_r2) ++ wsX00 ++ wsX40)
def wsJ9_floorDiv_f86c9 : List Cond := .code yJ9_floorDiv_f86c9 cJ9_floorDiv_f86c9 6 (some .long) :: ([])
def wsX5_quotient : List Cond := .code yX5_quotient cX5_quotient 4 (some .long) :: ([.methodLink RX5 214 yJ9_floorDiv_f86c9, .static yJ9_floorDiv_f86c9, .initialized RJ9, .code yJ9_floorDiv_f86c9 cJ9_floorDiv_f86c9 6 (some .long)])
def wsX0_rate : List Cond := .code yX0_rate cX0_rate 2 (some .long) :: ([.fieldLink RX0 24 "WheelDesk$Craft" "momentum" "[J", .fieldLink RX0 17 "WheelDesk$Craft" "given" "[[I", .static yX5_quotient, .initialized RX5, .code yX5_quotient cX5_quotient 4 (some .long), .methodLink RX5 214 yJ9_floorDiv_f86c9, .static yJ9_floorDiv_f86c9, .initialized RJ9, .code yJ9_floorDiv_f86c9 cJ9_floorDiv_f86c9 6 (some .long)] ++ wsX00)
def wsX0_wheelMomentum : List Cond := .code yX0_wheelMomentum cX0_wheelMomentum 5 (some .long) :: ([.fieldLink RX0 56 "WheelDesk$Craft" "wheelCount" "I", .fieldLink RX0 35 "WheelDesk$Craft" "wheelRow" "[LWheelDesk$Wheel;", .fieldLink RX0 76 "WheelDesk$Wheel" "direction" "[I", .fieldLink RX0 79 "WheelDesk$Wheel" "momentum" "I"] ++ wsX00 ++ wsX40)
def wsX0_number_r1 : List Cond := [Cond.fieldLink RX0 20 "WheelDesk$Craft" "angle" "[J", Cond.fieldLink RX0 24 "WheelDesk$Craft" "momentum" "[J", Cond.fieldLink RX0 27 "WheelDesk$Craft" "outside" "[J", Cond.fieldLink RX0 30 "WheelDesk$Craft" "wished" "[J", Cond.fieldLink RX0 17 "WheelDesk$Craft" "given" "[[I", Cond.constantLong RX0 70 (-4611686018427387905), Cond.methodLink RX0 63 yX0_rate, Cond.instanceMethod yX0_rate, Cond.selects RX0 yX0_rate yX0_rate, Cond.initialized RX0, Cond.code yX0_rate cX0_rate 2 (some .long), Cond.static yX5_quotient, Cond.initialized RX5, Cond.code yX5_quotient cX5_quotient 4 (some .long), Cond.methodLink RX5 214 yJ9_floorDiv_f86c9, Cond.static yJ9_floorDiv_f86c9, Cond.initialized RJ9, Cond.code yJ9_floorDiv_f86c9 cJ9_floorDiv_f86c9 6 (some .long), Cond.methodLink RX0 67 yX0_wheelMomentum, Cond.instanceMethod yX0_wheelMomentum, Cond.selects RX0 yX0_wheelMomentum yX0_wheelMomentum, Cond.code yX0_wheelMomentum cX0_wheelMomentum 5 (some .long), Cond.fieldLink RX0 56 "WheelDesk$Craft" "wheelCount" "I", Cond.fieldLink RX0 35 "WheelDesk$Craft" "wheelRow" "[LWheelDesk$Wheel;"]
def wsX0_number_r2 : List Cond := [Cond.fieldLink RX0 76 "WheelDesk$Wheel" "direction" "[I", Cond.fieldLink RX0 79 "WheelDesk$Wheel" "momentum" "I"]
def wsX0_number : List Cond := .code yX0_number cX0_number 3 (some .long) :: ((wsX0_number_r1 ++ wsX0_number_r2) ++ wsX00 ++ wsX40)
def wsX0_aside : List Cond := .code yX0_aside cX0_aside 2 (some .long) :: ([.fieldLink RX0 17 "WheelDesk$Craft" "given" "[[I", .fieldLink RX0 20 "WheelDesk$Craft" "angle" "[J", .methodLink RX0 81 Lib.MathLoose.abs_long.x, .static Lib.MathLoose.abs_long.x, .initialized "java/lang/Math", .code Lib.MathLoose.abs_long.x Lib.MathLoose.abs_long.code 2 (some .long)] ++ wsX00)
def wsX0_offTarget : List Cond := .code yX0_offTarget cX0_offTarget 4 (some .long) :: ([.methodLink RX0 87 yX0_aside, .instanceMethod yX0_aside, .selects RX0 yX0_aside yX0_aside, .initialized RX0, .code yX0_aside cX0_aside 2 (some .long), .fieldLink RX0 17 "WheelDesk$Craft" "given" "[[I", .fieldLink RX0 20 "WheelDesk$Craft" "angle" "[J", .methodLink RX0 81 Lib.MathLoose.abs_long.x, .static Lib.MathLoose.abs_long.x, .initialized "java/lang/Math", .code Lib.MathLoose.abs_long.x Lib.MathLoose.abs_long.code 2 (some .long)] ++ wsX00)
def wsX0_isOnTarget : List Cond := .code yX0_isOnTarget cX0_isOnTarget 3 (some .boolean) :: ([.methodLink RX0 81 Lib.MathLoose.abs_long.x, .static Lib.MathLoose.abs_long.x, .initialized "java/lang/Math", .code Lib.MathLoose.abs_long.x Lib.MathLoose.abs_long.code 2 (some .long), .methodLink RX0 87 yX0_aside, .instanceMethod yX0_aside, .selects RX0 yX0_aside yX0_aside, .initialized RX0, .code yX0_aside cX0_aside 2 (some .long), .fieldLink RX0 17 "WheelDesk$Craft" "given" "[[I", .fieldLink RX0 20 "WheelDesk$Craft" "angle" "[J", .methodLink RX0 63 yX0_rate, .instanceMethod yX0_rate, .selects RX0 yX0_rate yX0_rate, .code yX0_rate cX0_rate 2 (some .long), .fieldLink RX0 24 "WheelDesk$Craft" "momentum" "[J", .static yX5_quotient, .initialized RX5, .code yX5_quotient cX5_quotient 4 (some .long), .methodLink RX5 214 yJ9_floorDiv_f86c9, .static yJ9_floorDiv_f86c9, .initialized RJ9, .code yJ9_floorDiv_f86c9 cJ9_floorDiv_f86c9 6 (some .long)] ++ wsX00)
def wsX0_isMet : List Cond := .code yX0_isMet cX0_isMet 1 (some .boolean) :: ([.fieldLink RX0 39 "WheelDesk$Craft" "reasons" "[I"] ++ wsX00)
def wsX5_limited : List Cond := .code yX5_limited cX5_limited 6 (some .long) :: ([])
def wsX0_findWish : List Cond := .code yX0_findWish cX0_findWish 12 none :: ([.fieldLink RX0 9 "WheelDesk$Craft" "settings" "[I", .fieldLink RX0 17 "WheelDesk$Craft" "given" "[[I", .fieldLink RX0 20 "WheelDesk$Craft" "angle" "[J", .constantLong RX0 90 (100), .fieldLink RX0 30 "WheelDesk$Craft" "wished" "[J", .static yX5_quotient, .initialized RX5, .code yX5_quotient cX5_quotient 4 (some .long), .methodLink RX5 214 yJ9_floorDiv_f86c9, .static yJ9_floorDiv_f86c9, .initialized RJ9, .code yJ9_floorDiv_f86c9 cJ9_floorDiv_f86c9 6 (some .long), .static yX5_limited, .code yX5_limited cX5_limited 6 (some .long), .methodLink RX0 63 yX0_rate, .instanceMethod yX0_rate, .selects RX0 yX0_rate yX0_rate, .initialized RX0, .code yX0_rate cX0_rate 2 (some .long), .fieldLink RX0 24 "WheelDesk$Craft" "momentum" "[J"] ++ wsX00)
def wsX0_pushFromOutside : List Cond := .code yX0_pushFromOutside cX0_pushFromOutside 4 none :: ([.fieldLink RX0 24 "WheelDesk$Craft" "momentum" "[J", .fieldLink RX0 27 "WheelDesk$Craft" "outside" "[J"] ++ wsX00)
def wsX0_disturb : List Cond := .code yX0_disturb cX0_disturb 2 none :: ([.fieldLink RX0 17 "WheelDesk$Craft" "given" "[[I", .methodLink RX0 96 yX0_pushFromOutside, .instanceMethod yX0_pushFromOutside, .selects RX0 yX0_pushFromOutside yX0_pushFromOutside, .initialized RX0, .code yX0_pushFromOutside cX0_pushFromOutside 4 none, .fieldLink RX0 24 "WheelDesk$Craft" "momentum" "[J", .fieldLink RX0 27 "WheelDesk$Craft" "outside" "[J"] ++ wsX00)
def wsX0_turn : List Cond := .code yX0_turn cX0_turn 2 none :: ([.fieldLink RX0 20 "WheelDesk$Craft" "angle" "[J", .methodLink RX0 63 yX0_rate, .instanceMethod yX0_rate, .selects RX0 yX0_rate yX0_rate, .initialized RX0, .code yX0_rate cX0_rate 2 (some .long), .fieldLink RX0 24 "WheelDesk$Craft" "momentum" "[J", .fieldLink RX0 17 "WheelDesk$Craft" "given" "[[I", .static yX5_quotient, .initialized RX5, .code yX5_quotient cX5_quotient 4 (some .long), .methodLink RX5 214 yJ9_floorDiv_f86c9, .static yJ9_floorDiv_f86c9, .initialized RJ9, .code yJ9_floorDiv_f86c9 cJ9_floorDiv_f86c9 6 (some .long)] ++ wsX00)
def wsX0_tellMet : List Cond := .code yX0_tellMet cX0_tellMet 1 none :: ([.fieldLink RX0 39 "WheelDesk$Craft" "reasons" "[I", .fieldLink RX0 43 "WheelDesk$Craft" "reasonCount" "I"] ++ wsX00)
def wsX0_tellNoSpan : List Cond := .code yX0_tellNoSpan cX0_tellNoSpan 2 none :: ([.fieldLink RX0 39 "WheelDesk$Craft" "reasons" "[I", .fieldLink RX0 43 "WheelDesk$Craft" "reasonCount" "I", .fieldLink RX0 56 "WheelDesk$Craft" "wheelCount" "I", .fieldLink RX0 35 "WheelDesk$Craft" "wheelRow" "[LWheelDesk$Wheel;", .fieldLink RX0 100 "WheelDesk$Wheel" "failed" "Z"] ++ wsX00 ++ wsX40)
def wsX0_tellLimited : List Cond := .code yX0_tellLimited cX0_tellLimited 3 none :: ([.fieldLink RX0 39 "WheelDesk$Craft" "reasons" "[I", .fieldLink RX0 43 "WheelDesk$Craft" "reasonCount" "I"] ++ wsX00)
def wsX1_init_r1 : List Cond := [Cond.methodLink RX1 3 objectInit, Cond.instanceMethod objectInit, Cond.code objectInit ⟨#[0xb1]⟩ 1 none, Cond.classLink RX1 9 RX0, Cond.fieldLink RX1 11 "WheelDesk$History" "states" "[LWheelDesk$Craft;", Cond.instantiable RX0 11, Cond.initialized RX0, Cond.methodLink RX1 17 yX0_init, Cond.instanceMethod yX0_init, Cond.code yX0_init cX0_init 2 none, Cond.methodLink RX0 3 objectInit, Cond.arrayClass .int, Cond.fieldLink RX0 9 "WheelDesk$Craft" "settings" "[I", Cond.classLink RX0 15 "[[I", Cond.fieldLink RX0 17 "WheelDesk$Craft" "given" "[[I", Cond.arrayClass .long, Cond.fieldLink RX0 20 "WheelDesk$Craft" "angle" "[J", Cond.fieldLink RX0 24 "WheelDesk$Craft" "momentum" "[J", Cond.fieldLink RX0 27 "WheelDesk$Craft" "outside" "[J", Cond.fieldLink RX0 30 "WheelDesk$Craft" "wished" "[J", Cond.classLink RX0 33 RX4, Cond.fieldLink RX0 35 "WheelDesk$Craft" "wheelRow" "[LWheelDesk$Wheel;", Cond.fieldLink RX0 39 "WheelDesk$Craft" "reasons" "[I", Cond.instantiable RX4 6]
def wsX1_init_r2 : List Cond := [Cond.initialized RX4, Cond.fieldLink RX0 43 "WheelDesk$Craft" "reasonCount" "I", Cond.instanceMethod yX4_init, Cond.code yX4_init cX4_init 1 none, Cond.methodLink RX4 3 objectInit, Cond.fieldLink RX4 9 "WheelDesk$Wheel" "direction" "[I"]
def wsX1_init : List Cond := .code yX1_init cX1_init 2 none :: ((wsX1_init_r1 ++ wsX1_init_r2) ++ wsX10 ++ wsX00 ++ wsX40)
def wsX1_dropOldest : List Cond := .code yX1_dropOldest cX1_dropOldest 3 none :: ([.fieldLink RX1 11 "WheelDesk$History" "states" "[LWheelDesk$Craft;", .fieldLink RX1 18 "WheelDesk$History" "kept" "I"] ++ wsX10)
def wsX1_keep_r1 : List Cond := [Cond.fieldLink RX1 18 "WheelDesk$History" "kept" "I", Cond.fieldLink RX1 11 "WheelDesk$History" "states" "[LWheelDesk$Craft;", Cond.methodLink RX1 22 yX1_dropOldest, Cond.instanceMethod yX1_dropOldest, Cond.selects RX1 yX1_dropOldest yX1_dropOldest, Cond.initialized RX1, Cond.code yX1_dropOldest cX1_dropOldest 3 none, Cond.methodLink RX1 25 yX0_become, Cond.instanceMethod yX0_become, Cond.selects RX0 yX0_become yX0_become, Cond.initialized RX0, Cond.code yX0_become cX0_become 3 none, Cond.fieldLink RX0 47 "WheelDesk$Craft" "now" "I", Cond.fieldLink RX0 9 "WheelDesk$Craft" "settings" "[I", Cond.methodLink RX0 50 arraycopyName, Cond.native arraycopyName, Cond.static arraycopyName, Cond.initialized "java/lang/System", Cond.fieldLink RX0 17 "WheelDesk$Craft" "given" "[[I", Cond.fieldLink RX0 20 "WheelDesk$Craft" "angle" "[J", Cond.fieldLink RX0 24 "WheelDesk$Craft" "momentum" "[J", Cond.fieldLink RX0 27 "WheelDesk$Craft" "outside" "[J", Cond.fieldLink RX0 30 "WheelDesk$Craft" "wished" "[J", Cond.fieldLink RX0 56 "WheelDesk$Craft" "wheelCount" "I"]
def wsX1_keep_r2 : List Cond := [Cond.fieldLink RX0 35 "WheelDesk$Craft" "wheelRow" "[LWheelDesk$Wheel;", Cond.fieldLink RX0 39 "WheelDesk$Craft" "reasons" "[I", Cond.fieldLink RX0 43 "WheelDesk$Craft" "reasonCount" "I", Cond.methodLink RX0 59 yX4_become, Cond.instanceMethod yX4_become, Cond.selects RX4 yX4_become yX4_become, Cond.initialized RX4, Cond.code yX4_become cX4_become 2 none, Cond.fieldLink RX4 9 "WheelDesk$Wheel" "direction" "[I", Cond.methodLink RX4 32 arraycopyName, Cond.fieldLink RX4 15 "WheelDesk$Wheel" "momentum" "I", Cond.fieldLink RX4 19 "WheelDesk$Wheel" "mostMomentum" "I", Cond.fieldLink RX4 22 "WheelDesk$Wheel" "mostTorque" "I", Cond.fieldLink RX4 25 "WheelDesk$Wheel" "failed" "Z", Cond.fieldLink RX4 29 "WheelDesk$Wheel" "got" "I"]
def wsX1_keep : List Cond := .code yX1_keep cX1_keep 2 none :: ((wsX1_keep_r1 ++ wsX1_keep_r2) ++ wsX10 ++ wsX00 ++ wsX40)
def wsX1_giveBack_r1 : List Cond := [Cond.fieldLink RX1 18 "WheelDesk$History" "kept" "I", Cond.constant RX1 29 (-2000009), Cond.fieldLink RX1 11 "WheelDesk$History" "states" "[LWheelDesk$Craft;", Cond.methodLink RX1 25 yX0_become, Cond.instanceMethod yX0_become, Cond.selects RX0 yX0_become yX0_become, Cond.initialized RX0, Cond.code yX0_become cX0_become 3 none, Cond.fieldLink RX0 47 "WheelDesk$Craft" "now" "I", Cond.fieldLink RX0 9 "WheelDesk$Craft" "settings" "[I", Cond.methodLink RX0 50 arraycopyName, Cond.native arraycopyName, Cond.static arraycopyName, Cond.initialized "java/lang/System", Cond.fieldLink RX0 17 "WheelDesk$Craft" "given" "[[I", Cond.fieldLink RX0 20 "WheelDesk$Craft" "angle" "[J", Cond.fieldLink RX0 24 "WheelDesk$Craft" "momentum" "[J", Cond.fieldLink RX0 27 "WheelDesk$Craft" "outside" "[J", Cond.fieldLink RX0 30 "WheelDesk$Craft" "wished" "[J", Cond.fieldLink RX0 56 "WheelDesk$Craft" "wheelCount" "I", Cond.fieldLink RX0 35 "WheelDesk$Craft" "wheelRow" "[LWheelDesk$Wheel;", Cond.fieldLink RX0 39 "WheelDesk$Craft" "reasons" "[I", Cond.fieldLink RX0 43 "WheelDesk$Craft" "reasonCount" "I", Cond.methodLink RX0 59 yX4_become]
def wsX1_giveBack_r2 : List Cond := [Cond.instanceMethod yX4_become, Cond.selects RX4 yX4_become yX4_become, Cond.initialized RX4, Cond.code yX4_become cX4_become 2 none, Cond.fieldLink RX4 9 "WheelDesk$Wheel" "direction" "[I", Cond.methodLink RX4 32 arraycopyName, Cond.fieldLink RX4 15 "WheelDesk$Wheel" "momentum" "I", Cond.fieldLink RX4 19 "WheelDesk$Wheel" "mostMomentum" "I", Cond.fieldLink RX4 22 "WheelDesk$Wheel" "mostTorque" "I", Cond.fieldLink RX4 25 "WheelDesk$Wheel" "failed" "Z", Cond.fieldLink RX4 29 "WheelDesk$Wheel" "got" "I"]
def wsX1_giveBack : List Cond := .code yX1_giveBack cX1_giveBack 2 (some .int) :: ((wsX1_giveBack_r1 ++ wsX1_giveBack_r2) ++ wsX10 ++ wsX00 ++ wsX40)
def wsX2_init : List Cond := .code yX2_init cX2_init 1 none :: ([.methodLink RX2 3 objectInit, .instanceMethod objectInit, .code objectInit ⟨#[0xb1]⟩ 1 none, .arrayClass .long, .fieldLink RX2 9 "WheelDesk$Magnets" "held" "[J", .fieldLink RX2 15 "WheelDesk$Magnets" "moment" "[J"] ++ wsX20)
def wsX5_axisAfter : List Cond := .code yX5_axisAfter cX5_axisAfter 2 (some .int) :: ([])
def wsX2_crossed : List Cond := .code yX2_crossed cX2_crossed 5 (some .long) :: ([.static yX5_axisAfter, .initialized RX5, .code yX5_axisAfter cX5_axisAfter 2 (some .int)])
def wsX2_letGo_r1 : List Cond := [Cond.fieldLink RX2 18 "WheelDesk$Craft" "given" "[[I", Cond.fieldLink RX2 24 "WheelDesk$Craft" "settings" "[I", Cond.fieldLink RX2 9 "WheelDesk$Magnets" "held" "[J", Cond.fieldLink RX2 15 "WheelDesk$Magnets" "moment" "[J", Cond.constantLong RX2 36 (1000), Cond.constantLong RX2 46 (100), Cond.methodLink RX2 28 yX0_wheelMomentum, Cond.instanceMethod yX0_wheelMomentum, Cond.selects RX0 yX0_wheelMomentum yX0_wheelMomentum, Cond.initialized RX0, Cond.code yX0_wheelMomentum cX0_wheelMomentum 5 (some .long), Cond.fieldLink RX0 56 "WheelDesk$Craft" "wheelCount" "I", Cond.fieldLink RX0 35 "WheelDesk$Craft" "wheelRow" "[LWheelDesk$Wheel;", Cond.fieldLink RX0 76 "WheelDesk$Wheel" "direction" "[I", Cond.fieldLink RX0 79 "WheelDesk$Wheel" "momentum" "I", Cond.methodLink RX2 32 yX2_crossed, Cond.static yX2_crossed, Cond.initialized RX2, Cond.code yX2_crossed cX2_crossed 5 (some .long), Cond.static yX5_axisAfter, Cond.initialized RX5, Cond.code yX5_axisAfter cX5_axisAfter 2 (some .int), Cond.static yX5_quotient, Cond.code yX5_quotient cX5_quotient 4 (some .long)]
def wsX2_letGo_r2 : List Cond := [Cond.methodLink RX5 214 yJ9_floorDiv_f86c9, Cond.static yJ9_floorDiv_f86c9, Cond.initialized RJ9, Cond.code yJ9_floorDiv_f86c9 cJ9_floorDiv_f86c9 6 (some .long), Cond.static yX5_limited, Cond.code yX5_limited cX5_limited 6 (some .long), Cond.methodLink RX2 48 yX0_pushFromOutside, Cond.instanceMethod yX0_pushFromOutside, Cond.selects RX0 yX0_pushFromOutside yX0_pushFromOutside, Cond.code yX0_pushFromOutside cX0_pushFromOutside 4 none, Cond.fieldLink RX0 24 "WheelDesk$Craft" "momentum" "[J", Cond.fieldLink RX0 27 "WheelDesk$Craft" "outside" "[J"]
def wsX2_letGo : List Cond := .code yX2_letGo cX2_letGo 6 none :: ((wsX2_letGo_r1 ++ wsX2_letGo_r2) ++ wsX00 ++ wsX20 ++ wsX40)
def wsX3_init : List Cond := .code yX3_init cX3_init 1 none :: ([.methodLink RX3 3 objectInit, .instanceMethod objectInit, .code objectInit ⟨#[0xb1]⟩ 1 none, .classLink RX3 9 "[[J", .arrayClass .long, .fieldLink RX3 11 "WheelDesk$Sharing" "matrix" "[[J", .fieldLink RX3 16 "WheelDesk$Sharing" "cofactor" "[[J", .fieldLink RX3 19 "WheelDesk$Sharing" "aimed" "[J"] ++ wsX30)
def wsX3_addProducts : List Cond := .code yX3_addProducts cX3_addProducts 4 none :: ([.fieldLink RX3 11 "WheelDesk$Sharing" "matrix" "[[J"] ++ wsX30)
def wsX3_findCofactors : List Cond := .code yX3_findCofactors cX3_findCofactors 7 none :: ([.fieldLink RX3 16 "WheelDesk$Sharing" "cofactor" "[[J", .fieldLink RX3 11 "WheelDesk$Sharing" "matrix" "[[J", .static yX5_axisAfter, .initialized RX5, .code yX5_axisAfter cX5_axisAfter 2 (some .int)] ++ wsX30)
def wsX3_measure : List Cond := .code yX3_measure cX3_measure 5 none :: ([.fieldLink RX3 11 "WheelDesk$Sharing" "matrix" "[[J", .fieldLink RX3 23 "WheelDesk$Craft" "wheelCount" "I", .fieldLink RX3 29 "WheelDesk$Craft" "wheelRow" "[LWheelDesk$Wheel;", .fieldLink RX3 33 "WheelDesk$Wheel" "failed" "Z", .fieldLink RX3 39 "WheelDesk$Wheel" "direction" "[I", .fieldLink RX3 50 "WheelDesk$Sharing" "determinant" "J", .fieldLink RX3 16 "WheelDesk$Sharing" "cofactor" "[[J", .methodLink RX3 43 yX3_addProducts, .instanceMethod yX3_addProducts, .selects RX3 yX3_addProducts yX3_addProducts, .initialized RX3, .code yX3_addProducts cX3_addProducts 4 none, .methodLink RX3 47 yX3_findCofactors, .instanceMethod yX3_findCofactors, .selects RX3 yX3_findCofactors yX3_findCofactors, .code yX3_findCofactors cX3_findCofactors 7 none, .static yX5_axisAfter, .initialized RX5, .code yX5_axisAfter cX5_axisAfter 2 (some .int)] ++ wsX30 ++ wsX00 ++ wsX40)
def wsX3_spans : List Cond := .code yX3_spans cX3_spans 1 (some .boolean) :: ([.fieldLink RX3 50 "WheelDesk$Sharing" "determinant" "J"] ++ wsX30)
def wsX3_aim : List Cond := .code yX3_aim cX3_aim 8 none :: ([.fieldLink RX3 19 "WheelDesk$Sharing" "aimed" "[J", .fieldLink RX3 16 "WheelDesk$Sharing" "cofactor" "[[J"] ++ wsX30)
def wsX3_wishOf : List Cond := .code yX3_wishOf cX3_wishOf 5 (some .long) :: ([.fieldLink RX3 39 "WheelDesk$Wheel" "direction" "[I", .fieldLink RX3 19 "WheelDesk$Sharing" "aimed" "[J", .fieldLink RX3 50 "WheelDesk$Sharing" "determinant" "J", .constantLong RX3 62 (2), .methodLink RX3 58 yX3_spans, .instanceMethod yX3_spans, .selects RX3 yX3_spans yX3_spans, .initialized RX3, .code yX3_spans cX3_spans 1 (some .boolean), .methodLink RX3 64 yJ9_floorDiv_f86c9, .static yJ9_floorDiv_f86c9, .initialized RJ9, .code yJ9_floorDiv_f86c9 cJ9_floorDiv_f86c9 6 (some .long)] ++ wsX40 ++ wsX30)
def wsX4_allowedByTorque : List Cond := .code yX4_allowedByTorque cX4_allowedByTorque 3 (some .long) :: ([.fieldLink RX4 22 "WheelDesk$Wheel" "mostTorque" "I", .static yX5_limited, .initialized RX5, .code yX5_limited cX5_limited 6 (some .long)] ++ wsX40)
def wsX4_allowedByMomentum : List Cond := .code yX4_allowedByMomentum cX4_allowedByMomentum 7 (some .long) :: ([.fieldLink RX4 19 "WheelDesk$Wheel" "mostMomentum" "I", .fieldLink RX4 15 "WheelDesk$Wheel" "momentum" "I", .methodLink RX4 42 Lib.Math.min.name, .static Lib.Math.min.name, .initialized "java/lang/Math", .code Lib.Math.min.name Lib.Math.min.code 2 (some .int), .methodLink RX4 48 Lib.Math.max.name, .static Lib.Math.max.name, .code Lib.Math.max.name Lib.Math.max.code 2 (some .int), .static yX5_limited, .initialized RX5, .code yX5_limited cX5_limited 6 (some .long)] ++ wsX40)
def wsX3_give_r1 : List Cond := [Cond.fieldLink RX3 29 "WheelDesk$Craft" "wheelRow" "[LWheelDesk$Wheel;", Cond.fieldLink RX3 70 "WheelDesk$Wheel" "got" "I", Cond.fieldLink RX3 101 "WheelDesk$Wheel" "momentum" "I", Cond.fieldLink RX3 104 "WheelDesk$Craft" "momentum" "[J", Cond.fieldLink RX3 39 "WheelDesk$Wheel" "direction" "[I", Cond.methodLink RX3 90 yX3_wishOf, Cond.instanceMethod yX3_wishOf, Cond.selects RX3 yX3_wishOf yX3_wishOf, Cond.initialized RX3, Cond.code yX3_wishOf cX3_wishOf 5 (some .long), Cond.fieldLink RX3 19 "WheelDesk$Sharing" "aimed" "[J", Cond.fieldLink RX3 50 "WheelDesk$Sharing" "determinant" "J", Cond.constantLong RX3 62 (2), Cond.methodLink RX3 58 yX3_spans, Cond.instanceMethod yX3_spans, Cond.selects RX3 yX3_spans yX3_spans, Cond.code yX3_spans cX3_spans 1 (some .boolean), Cond.methodLink RX3 64 yJ9_floorDiv_f86c9, Cond.static yJ9_floorDiv_f86c9, Cond.initialized RJ9, Cond.code yJ9_floorDiv_f86c9 cJ9_floorDiv_f86c9 6 (some .long), Cond.methodLink RX3 94 yX4_allowedByTorque, Cond.instanceMethod yX4_allowedByTorque, Cond.selects RX4 yX4_allowedByTorque yX4_allowedByTorque]
def wsX3_give_r2 : List Cond := [Cond.initialized RX4, Cond.code yX4_allowedByTorque cX4_allowedByTorque 3 (some .long), Cond.fieldLink RX4 22 "WheelDesk$Wheel" "mostTorque" "I", Cond.static yX5_limited, Cond.initialized RX5, Cond.code yX5_limited cX5_limited 6 (some .long), Cond.methodLink RX3 98 yX4_allowedByMomentum, Cond.instanceMethod yX4_allowedByMomentum, Cond.selects RX4 yX4_allowedByMomentum yX4_allowedByMomentum, Cond.code yX4_allowedByMomentum cX4_allowedByMomentum 7 (some .long), Cond.fieldLink RX4 19 "WheelDesk$Wheel" "mostMomentum" "I", Cond.fieldLink RX4 15 "WheelDesk$Wheel" "momentum" "I", Cond.methodLink RX4 42 Lib.Math.min.name, Cond.static Lib.Math.min.name, Cond.initialized "java/lang/Math", Cond.code Lib.Math.min.name Lib.Math.min.code 2 (some .int), Cond.methodLink RX4 48 Lib.Math.max.name, Cond.static Lib.Math.max.name, Cond.code Lib.Math.max.name Lib.Math.max.code 2 (some .int), Cond.methodLink RX3 106 yX0_isMet, Cond.instanceMethod yX0_isMet, Cond.selects RX0 yX0_isMet yX0_isMet, Cond.initialized RX0, Cond.code yX0_isMet cX0_isMet 1 (some .boolean)]
def wsX3_give_r3 : List Cond := [Cond.fieldLink RX0 39 "WheelDesk$Craft" "reasons" "[I", Cond.methodLink RX3 109 yX0_tellLimited, Cond.instanceMethod yX0_tellLimited, Cond.selects RX0 yX0_tellLimited yX0_tellLimited, Cond.code yX0_tellLimited cX0_tellLimited 3 none, Cond.fieldLink RX0 43 "WheelDesk$Craft" "reasonCount" "I"]
def wsX3_give : List Cond := .code yX3_give cX3_give 11 none :: ((wsX3_give_r1 ++ (wsX3_give_r2 ++ wsX3_give_r3)) ++ wsX00 ++ wsX40 ++ wsX30)
def wsX3_share_r1 : List Cond := [Cond.fieldLink RX3 23 "WheelDesk$Craft" "wheelCount" "I", Cond.fieldLink RX3 29 "WheelDesk$Craft" "wheelRow" "[LWheelDesk$Wheel;", Cond.fieldLink RX3 70 "WheelDesk$Wheel" "got" "I", Cond.fieldLink RX3 79 "WheelDesk$Craft" "wished" "[J", Cond.fieldLink RX3 33 "WheelDesk$Wheel" "failed" "Z", Cond.methodLink RX3 58 yX3_spans, Cond.instanceMethod yX3_spans, Cond.selects RX3 yX3_spans yX3_spans, Cond.initialized RX3, Cond.code yX3_spans cX3_spans 1 (some .boolean), Cond.fieldLink RX3 50 "WheelDesk$Sharing" "determinant" "J", Cond.methodLink RX3 73 yX0_tellNoSpan, Cond.instanceMethod yX0_tellNoSpan, Cond.selects RX0 yX0_tellNoSpan yX0_tellNoSpan, Cond.initialized RX0, Cond.code yX0_tellNoSpan cX0_tellNoSpan 2 none, Cond.fieldLink RX0 39 "WheelDesk$Craft" "reasons" "[I", Cond.fieldLink RX0 43 "WheelDesk$Craft" "reasonCount" "I", Cond.fieldLink RX0 56 "WheelDesk$Craft" "wheelCount" "I", Cond.fieldLink RX0 35 "WheelDesk$Craft" "wheelRow" "[LWheelDesk$Wheel;", Cond.fieldLink RX0 100 "WheelDesk$Wheel" "failed" "Z", Cond.methodLink RX3 76 yX0_tellMet, Cond.instanceMethod yX0_tellMet, Cond.selects RX0 yX0_tellMet yX0_tellMet]
def wsX3_share_r2 : List Cond := [Cond.code yX0_tellMet cX0_tellMet 1 none, Cond.methodLink RX3 82 yX3_aim, Cond.instanceMethod yX3_aim, Cond.selects RX3 yX3_aim yX3_aim, Cond.code yX3_aim cX3_aim 8 none, Cond.fieldLink RX3 19 "WheelDesk$Sharing" "aimed" "[J", Cond.fieldLink RX3 16 "WheelDesk$Sharing" "cofactor" "[[J", Cond.methodLink RX3 86 yX3_give, Cond.instanceMethod yX3_give, Cond.selects RX3 yX3_give yX3_give, Cond.code yX3_give cX3_give 11 none, Cond.fieldLink RX3 101 "WheelDesk$Wheel" "momentum" "I", Cond.fieldLink RX3 104 "WheelDesk$Craft" "momentum" "[J", Cond.fieldLink RX3 39 "WheelDesk$Wheel" "direction" "[I", Cond.methodLink RX3 90 yX3_wishOf, Cond.instanceMethod yX3_wishOf, Cond.selects RX3 yX3_wishOf yX3_wishOf, Cond.code yX3_wishOf cX3_wishOf 5 (some .long), Cond.constantLong RX3 62 (2), Cond.methodLink RX3 64 yJ9_floorDiv_f86c9, Cond.static yJ9_floorDiv_f86c9, Cond.initialized RJ9, Cond.code yJ9_floorDiv_f86c9 cJ9_floorDiv_f86c9 6 (some .long), Cond.methodLink RX3 94 yX4_allowedByTorque]
def wsX3_share_r3 : List Cond := [Cond.instanceMethod yX4_allowedByTorque, Cond.selects RX4 yX4_allowedByTorque yX4_allowedByTorque, Cond.initialized RX4, Cond.code yX4_allowedByTorque cX4_allowedByTorque 3 (some .long), Cond.fieldLink RX4 22 "WheelDesk$Wheel" "mostTorque" "I", Cond.static yX5_limited, Cond.initialized RX5, Cond.code yX5_limited cX5_limited 6 (some .long), Cond.methodLink RX3 98 yX4_allowedByMomentum, Cond.instanceMethod yX4_allowedByMomentum, Cond.selects RX4 yX4_allowedByMomentum yX4_allowedByMomentum, Cond.code yX4_allowedByMomentum cX4_allowedByMomentum 7 (some .long), Cond.fieldLink RX4 19 "WheelDesk$Wheel" "mostMomentum" "I", Cond.fieldLink RX4 15 "WheelDesk$Wheel" "momentum" "I", Cond.methodLink RX4 42 Lib.Math.min.name, Cond.static Lib.Math.min.name, Cond.initialized "java/lang/Math", Cond.code Lib.Math.min.name Lib.Math.min.code 2 (some .int), Cond.methodLink RX4 48 Lib.Math.max.name, Cond.static Lib.Math.max.name, Cond.code Lib.Math.max.name Lib.Math.max.code 2 (some .int), Cond.methodLink RX3 106 yX0_isMet, Cond.instanceMethod yX0_isMet, Cond.selects RX0 yX0_isMet yX0_isMet]
def wsX3_share_r4 : List Cond := [Cond.code yX0_isMet cX0_isMet 1 (some .boolean), Cond.methodLink RX3 109 yX0_tellLimited, Cond.instanceMethod yX0_tellLimited, Cond.selects RX0 yX0_tellLimited yX0_tellLimited, Cond.code yX0_tellLimited cX0_tellLimited 3 none]
def wsX3_share : List Cond := .code yX3_share cX3_share 3 none :: ((wsX3_share_r1 ++ (wsX3_share_r2 ++ (wsX3_share_r3 ++ wsX3_share_r4))) ++ wsX00 ++ wsX40 ++ wsX30)
def wsX4_start : List Cond := .code yX4_start cX4_start 6 none :: ([.fieldLink RX4 9 "WheelDesk$Wheel" "direction" "[I", .fieldLink RX4 15 "WheelDesk$Wheel" "momentum" "I", .fieldLink RX4 19 "WheelDesk$Wheel" "mostMomentum" "I", .fieldLink RX4 22 "WheelDesk$Wheel" "mostTorque" "I", .fieldLink RX4 25 "WheelDesk$Wheel" "failed" "Z", .fieldLink RX4 29 "WheelDesk$Wheel" "got" "I"] ++ wsX40)
def wsX4_number : List Cond := .code yX4_number cX4_number 2 (some .int) :: ([.fieldLink RX4 9 "WheelDesk$Wheel" "direction" "[I", .fieldLink RX4 15 "WheelDesk$Wheel" "momentum" "I", .fieldLink RX4 19 "WheelDesk$Wheel" "mostMomentum" "I", .fieldLink RX4 22 "WheelDesk$Wheel" "mostTorque" "I", .fieldLink RX4 25 "WheelDesk$Wheel" "failed" "Z", .fieldLink RX4 29 "WheelDesk$Wheel" "got" "I"] ++ wsX40)
def wsX4_fullPart : List Cond := .code yX4_fullPart cX4_fullPart 2 (some .float) :: ([.fieldLink RX4 19 "WheelDesk$Wheel" "mostMomentum" "I", .fieldLink RX4 15 "WheelDesk$Wheel" "momentum" "I", .methodLink RX4 51 Lib.Math.abs.name, .static Lib.Math.abs.name, .initialized "java/lang/Math", .code Lib.Math.abs.name Lib.Math.abs.code 1 (some .int)] ++ wsX40)
def wsX5_init_r1 : List Cond := [Cond.methodLink RX5 1 objectInit, Cond.instanceMethod objectInit, Cond.code objectInit ⟨#[0xb1]⟩ 1 none, Cond.classLink RX5 7 RX0, Cond.instantiable RX0 11, Cond.initialized RX0, Cond.fieldLink RX5 10 "WheelDesk" "craft" "LWheelDesk$Craft;", Cond.fieldLink RX5 16 "WheelDesk" "trial" "LWheelDesk$Craft;", Cond.classLink RX5 19 RX3, Cond.instantiable RX3 4, Cond.initialized RX3, Cond.fieldLink RX5 22 "WheelDesk" "sharing" "LWheelDesk$Sharing;", Cond.classLink RX5 26 RX2, Cond.instantiable RX2 2, Cond.initialized RX2, Cond.fieldLink RX5 29 "WheelDesk" "magnets" "LWheelDesk$Magnets;", Cond.classLink RX5 33 RX1, Cond.instantiable RX1 2, Cond.initialized RX1, Cond.fieldLink RX5 36 "WheelDesk" "history" "LWheelDesk$History;", Cond.methodLink RX5 9 yX0_init, Cond.instanceMethod yX0_init, Cond.code yX0_init cX0_init 2 none, Cond.methodLink RX0 3 objectInit]
def wsX5_init_r2 : List Cond := [Cond.arrayClass .int, Cond.fieldLink RX0 9 "WheelDesk$Craft" "settings" "[I", Cond.classLink RX0 15 "[[I", Cond.fieldLink RX0 17 "WheelDesk$Craft" "given" "[[I", Cond.arrayClass .long, Cond.fieldLink RX0 20 "WheelDesk$Craft" "angle" "[J", Cond.fieldLink RX0 24 "WheelDesk$Craft" "momentum" "[J", Cond.fieldLink RX0 27 "WheelDesk$Craft" "outside" "[J", Cond.fieldLink RX0 30 "WheelDesk$Craft" "wished" "[J", Cond.classLink RX0 33 RX4, Cond.fieldLink RX0 35 "WheelDesk$Craft" "wheelRow" "[LWheelDesk$Wheel;", Cond.fieldLink RX0 39 "WheelDesk$Craft" "reasons" "[I", Cond.instantiable RX4 6, Cond.initialized RX4, Cond.fieldLink RX0 43 "WheelDesk$Craft" "reasonCount" "I", Cond.instanceMethod yX4_init, Cond.code yX4_init cX4_init 1 none, Cond.methodLink RX4 3 objectInit, Cond.fieldLink RX4 9 "WheelDesk$Wheel" "direction" "[I", Cond.instanceMethod yX3_init, Cond.code yX3_init cX3_init 1 none, Cond.methodLink RX3 3 objectInit, Cond.classLink RX3 9 "[[J", Cond.fieldLink RX3 11 "WheelDesk$Sharing" "matrix" "[[J"]
def wsX5_init_r3 : List Cond := [Cond.fieldLink RX3 16 "WheelDesk$Sharing" "cofactor" "[[J", Cond.fieldLink RX3 19 "WheelDesk$Sharing" "aimed" "[J", Cond.instanceMethod yX2_init, Cond.code yX2_init cX2_init 1 none, Cond.methodLink RX2 3 objectInit, Cond.fieldLink RX2 9 "WheelDesk$Magnets" "held" "[J", Cond.fieldLink RX2 15 "WheelDesk$Magnets" "moment" "[J", Cond.methodLink RX5 35 yX1_init, Cond.instanceMethod yX1_init, Cond.code yX1_init cX1_init 2 none, Cond.methodLink RX1 3 objectInit, Cond.classLink RX1 9 RX0, Cond.fieldLink RX1 11 "WheelDesk$History" "states" "[LWheelDesk$Craft;", Cond.methodLink RX1 17 yX0_init]
def wsX5_init : List Cond := .code yX5_init cX5_init 1 none :: ((wsX5_init_r1 ++ (wsX5_init_r2 ++ wsX5_init_r3)) ++ wsX00 ++ wsX50 ++ wsX30 ++ wsX20 ++ wsX10 ++ wsX40)
def wsX5_isWithin : List Cond := .code yX5_isWithin cX5_isWithin 3 (some .boolean) :: ([])
def wsX5_isDirection : List Cond := .code yX5_isDirection cX5_isDirection 3 (some .boolean) :: ([.methodLink RX5 45 yX5_isWithin, .static yX5_isWithin, .initialized RX5, .code yX5_isWithin cX5_isWithin 3 (some .boolean)])
def wsX5_addWheel_r1 : List Cond := [Cond.constant RX5 44 (1000000), Cond.constant RX5 48 (100000), Cond.constant RX5 49 (-2000001), Cond.fieldLink RX5 10 "WheelDesk" "craft" "LWheelDesk$Craft;", Cond.fieldLink RX5 50 "WheelDesk$Craft" "wheelCount" "I", Cond.constant RX5 54 (-2000003), Cond.fieldLink RX5 36 "WheelDesk" "history" "LWheelDesk$History;", Cond.fieldLink RX5 59 "WheelDesk$Craft" "wheelRow" "[LWheelDesk$Wheel;", Cond.methodLink RX5 40 yX5_isDirection, Cond.static yX5_isDirection, Cond.initialized RX5, Cond.code yX5_isDirection cX5_isDirection 3 (some .boolean), Cond.methodLink RX5 45 yX5_isWithin, Cond.static yX5_isWithin, Cond.code yX5_isWithin cX5_isWithin 3 (some .boolean), Cond.methodLink RX5 55 yX1_keep, Cond.instanceMethod yX1_keep, Cond.selects RX1 yX1_keep yX1_keep, Cond.initialized RX1, Cond.code yX1_keep cX1_keep 2 none, Cond.fieldLink RX1 18 "WheelDesk$History" "kept" "I", Cond.fieldLink RX1 11 "WheelDesk$History" "states" "[LWheelDesk$Craft;", Cond.methodLink RX1 22 yX1_dropOldest, Cond.instanceMethod yX1_dropOldest]
def wsX5_addWheel_r2 : List Cond := [Cond.selects RX1 yX1_dropOldest yX1_dropOldest, Cond.code yX1_dropOldest cX1_dropOldest 3 none, Cond.methodLink RX1 25 yX0_become, Cond.instanceMethod yX0_become, Cond.selects RX0 yX0_become yX0_become, Cond.initialized RX0, Cond.code yX0_become cX0_become 3 none, Cond.fieldLink RX0 47 "WheelDesk$Craft" "now" "I", Cond.fieldLink RX0 9 "WheelDesk$Craft" "settings" "[I", Cond.methodLink RX0 50 arraycopyName, Cond.native arraycopyName, Cond.static arraycopyName, Cond.initialized "java/lang/System", Cond.fieldLink RX0 17 "WheelDesk$Craft" "given" "[[I", Cond.fieldLink RX0 20 "WheelDesk$Craft" "angle" "[J", Cond.fieldLink RX0 24 "WheelDesk$Craft" "momentum" "[J", Cond.fieldLink RX0 27 "WheelDesk$Craft" "outside" "[J", Cond.fieldLink RX0 30 "WheelDesk$Craft" "wished" "[J", Cond.fieldLink RX0 56 "WheelDesk$Craft" "wheelCount" "I", Cond.fieldLink RX0 35 "WheelDesk$Craft" "wheelRow" "[LWheelDesk$Wheel;", Cond.fieldLink RX0 39 "WheelDesk$Craft" "reasons" "[I", Cond.fieldLink RX0 43 "WheelDesk$Craft" "reasonCount" "I", Cond.methodLink RX0 59 yX4_become, Cond.instanceMethod yX4_become]
def wsX5_addWheel_r3 : List Cond := [Cond.selects RX4 yX4_become yX4_become, Cond.initialized RX4, Cond.code yX4_become cX4_become 2 none, Cond.fieldLink RX4 9 "WheelDesk$Wheel" "direction" "[I", Cond.methodLink RX4 32 arraycopyName, Cond.fieldLink RX4 15 "WheelDesk$Wheel" "momentum" "I", Cond.fieldLink RX4 19 "WheelDesk$Wheel" "mostMomentum" "I", Cond.fieldLink RX4 22 "WheelDesk$Wheel" "mostTorque" "I", Cond.fieldLink RX4 25 "WheelDesk$Wheel" "failed" "Z", Cond.fieldLink RX4 29 "WheelDesk$Wheel" "got" "I", Cond.methodLink RX5 63 yX4_start, Cond.instanceMethod yX4_start, Cond.selects RX4 yX4_start yX4_start, Cond.code yX4_start cX4_start 6 none]
def wsX5_addWheel : List Cond := .code yX5_addWheel cX5_addWheel 7 (some .int) :: ((wsX5_addWheel_r1 ++ (wsX5_addWheel_r2 ++ wsX5_addWheel_r3)) ++ wsX50 ++ wsX00 ++ wsX10 ++ wsX40)
def wsX5_isWheel : List Cond := .code yX5_isWheel cX5_isWheel 2 (some .boolean) :: ([.fieldLink RX5 10 "WheelDesk" "craft" "LWheelDesk$Craft;", .fieldLink RX5 50 "WheelDesk$Craft" "wheelCount" "I", .methodLink RX5 45 yX5_isWithin, .static yX5_isWithin, .initialized RX5, .code yX5_isWithin cX5_isWithin 3 (some .boolean)] ++ wsX50 ++ wsX00)
def wsX5_fail_r1 : List Cond := [Cond.constant RX5 49 (-2000001), Cond.fieldLink RX5 36 "WheelDesk" "history" "LWheelDesk$History;", Cond.fieldLink RX5 10 "WheelDesk" "craft" "LWheelDesk$Craft;", Cond.fieldLink RX5 59 "WheelDesk$Craft" "wheelRow" "[LWheelDesk$Wheel;", Cond.fieldLink RX5 73 "WheelDesk$Wheel" "failed" "Z", Cond.methodLink RX5 69 yX5_isWheel, Cond.instanceMethod yX5_isWheel, Cond.selects RX5 yX5_isWheel yX5_isWheel, Cond.initialized RX5, Cond.code yX5_isWheel cX5_isWheel 2 (some .boolean), Cond.fieldLink RX5 50 "WheelDesk$Craft" "wheelCount" "I", Cond.methodLink RX5 45 yX5_isWithin, Cond.static yX5_isWithin, Cond.code yX5_isWithin cX5_isWithin 3 (some .boolean), Cond.methodLink RX5 55 yX1_keep, Cond.instanceMethod yX1_keep, Cond.selects RX1 yX1_keep yX1_keep, Cond.initialized RX1, Cond.code yX1_keep cX1_keep 2 none, Cond.fieldLink RX1 18 "WheelDesk$History" "kept" "I", Cond.fieldLink RX1 11 "WheelDesk$History" "states" "[LWheelDesk$Craft;", Cond.methodLink RX1 22 yX1_dropOldest, Cond.instanceMethod yX1_dropOldest, Cond.selects RX1 yX1_dropOldest yX1_dropOldest]
def wsX5_fail_r2 : List Cond := [Cond.code yX1_dropOldest cX1_dropOldest 3 none, Cond.methodLink RX1 25 yX0_become, Cond.instanceMethod yX0_become, Cond.selects RX0 yX0_become yX0_become, Cond.initialized RX0, Cond.code yX0_become cX0_become 3 none, Cond.fieldLink RX0 47 "WheelDesk$Craft" "now" "I", Cond.fieldLink RX0 9 "WheelDesk$Craft" "settings" "[I", Cond.methodLink RX0 50 arraycopyName, Cond.native arraycopyName, Cond.static arraycopyName, Cond.initialized "java/lang/System", Cond.fieldLink RX0 17 "WheelDesk$Craft" "given" "[[I", Cond.fieldLink RX0 20 "WheelDesk$Craft" "angle" "[J", Cond.fieldLink RX0 24 "WheelDesk$Craft" "momentum" "[J", Cond.fieldLink RX0 27 "WheelDesk$Craft" "outside" "[J", Cond.fieldLink RX0 30 "WheelDesk$Craft" "wished" "[J", Cond.fieldLink RX0 56 "WheelDesk$Craft" "wheelCount" "I", Cond.fieldLink RX0 35 "WheelDesk$Craft" "wheelRow" "[LWheelDesk$Wheel;", Cond.fieldLink RX0 39 "WheelDesk$Craft" "reasons" "[I", Cond.fieldLink RX0 43 "WheelDesk$Craft" "reasonCount" "I", Cond.methodLink RX0 59 yX4_become, Cond.instanceMethod yX4_become, Cond.selects RX4 yX4_become yX4_become]
def wsX5_fail_r3 : List Cond := [Cond.initialized RX4, Cond.code yX4_become cX4_become 2 none, Cond.fieldLink RX4 9 "WheelDesk$Wheel" "direction" "[I", Cond.methodLink RX4 32 arraycopyName, Cond.fieldLink RX4 15 "WheelDesk$Wheel" "momentum" "I", Cond.fieldLink RX4 19 "WheelDesk$Wheel" "mostMomentum" "I", Cond.fieldLink RX4 22 "WheelDesk$Wheel" "mostTorque" "I", Cond.fieldLink RX4 25 "WheelDesk$Wheel" "failed" "Z", Cond.fieldLink RX4 29 "WheelDesk$Wheel" "got" "I"]
def wsX5_fail : List Cond := .code yX5_fail cX5_fail 5 (some .int) :: ((wsX5_fail_r1 ++ (wsX5_fail_r2 ++ wsX5_fail_r3)) ++ wsX50 ++ wsX00 ++ wsX40 ++ wsX10)
def wsX5_setMost_r1 : List Cond := [Cond.constant RX5 48 (100000), Cond.constant RX5 44 (1000000), Cond.constant RX5 49 (-2000001), Cond.fieldLink RX5 36 "WheelDesk" "history" "LWheelDesk$History;", Cond.fieldLink RX5 10 "WheelDesk" "craft" "LWheelDesk$Craft;", Cond.fieldLink RX5 59 "WheelDesk$Craft" "wheelRow" "[LWheelDesk$Wheel;", Cond.fieldLink RX5 77 "WheelDesk$Wheel" "mostTorque" "I", Cond.fieldLink RX5 80 "WheelDesk$Wheel" "mostMomentum" "I", Cond.methodLink RX5 69 yX5_isWheel, Cond.instanceMethod yX5_isWheel, Cond.selects RX5 yX5_isWheel yX5_isWheel, Cond.initialized RX5, Cond.code yX5_isWheel cX5_isWheel 2 (some .boolean), Cond.fieldLink RX5 50 "WheelDesk$Craft" "wheelCount" "I", Cond.methodLink RX5 45 yX5_isWithin, Cond.static yX5_isWithin, Cond.code yX5_isWithin cX5_isWithin 3 (some .boolean), Cond.methodLink RX5 55 yX1_keep, Cond.instanceMethod yX1_keep, Cond.selects RX1 yX1_keep yX1_keep, Cond.initialized RX1, Cond.code yX1_keep cX1_keep 2 none, Cond.fieldLink RX1 18 "WheelDesk$History" "kept" "I", Cond.fieldLink RX1 11 "WheelDesk$History" "states" "[LWheelDesk$Craft;"]
def wsX5_setMost_r2 : List Cond := [Cond.methodLink RX1 22 yX1_dropOldest, Cond.instanceMethod yX1_dropOldest, Cond.selects RX1 yX1_dropOldest yX1_dropOldest, Cond.code yX1_dropOldest cX1_dropOldest 3 none, Cond.methodLink RX1 25 yX0_become, Cond.instanceMethod yX0_become, Cond.selects RX0 yX0_become yX0_become, Cond.initialized RX0, Cond.code yX0_become cX0_become 3 none, Cond.fieldLink RX0 47 "WheelDesk$Craft" "now" "I", Cond.fieldLink RX0 9 "WheelDesk$Craft" "settings" "[I", Cond.methodLink RX0 50 arraycopyName, Cond.native arraycopyName, Cond.static arraycopyName, Cond.initialized "java/lang/System", Cond.fieldLink RX0 17 "WheelDesk$Craft" "given" "[[I", Cond.fieldLink RX0 20 "WheelDesk$Craft" "angle" "[J", Cond.fieldLink RX0 24 "WheelDesk$Craft" "momentum" "[J", Cond.fieldLink RX0 27 "WheelDesk$Craft" "outside" "[J", Cond.fieldLink RX0 30 "WheelDesk$Craft" "wished" "[J", Cond.fieldLink RX0 56 "WheelDesk$Craft" "wheelCount" "I", Cond.fieldLink RX0 35 "WheelDesk$Craft" "wheelRow" "[LWheelDesk$Wheel;", Cond.fieldLink RX0 39 "WheelDesk$Craft" "reasons" "[I", Cond.fieldLink RX0 43 "WheelDesk$Craft" "reasonCount" "I"]
def wsX5_setMost_r3 : List Cond := [Cond.methodLink RX0 59 yX4_become, Cond.instanceMethod yX4_become, Cond.selects RX4 yX4_become yX4_become, Cond.initialized RX4, Cond.code yX4_become cX4_become 2 none, Cond.fieldLink RX4 9 "WheelDesk$Wheel" "direction" "[I", Cond.methodLink RX4 32 arraycopyName, Cond.fieldLink RX4 15 "WheelDesk$Wheel" "momentum" "I", Cond.fieldLink RX4 19 "WheelDesk$Wheel" "mostMomentum" "I", Cond.fieldLink RX4 22 "WheelDesk$Wheel" "mostTorque" "I", Cond.fieldLink RX4 25 "WheelDesk$Wheel" "failed" "Z", Cond.fieldLink RX4 29 "WheelDesk$Wheel" "got" "I"]
def wsX5_setMost : List Cond := .code yX5_setMost cX5_setMost 6 (some .int) :: ((wsX5_setMost_r1 ++ (wsX5_setMost_r2 ++ wsX5_setMost_r3)) ++ wsX50 ++ wsX00 ++ wsX40 ++ wsX10)
def wsX5_wheel : List Cond := .code yX5_wheel cX5_wheel 3 (some .int) :: ([.constant RX5 49 (-2000001), .fieldLink RX5 10 "WheelDesk" "craft" "LWheelDesk$Craft;", .fieldLink RX5 59 "WheelDesk$Craft" "wheelRow" "[LWheelDesk$Wheel;", .methodLink RX5 69 yX5_isWheel, .instanceMethod yX5_isWheel, .selects RX5 yX5_isWheel yX5_isWheel, .initialized RX5, .code yX5_isWheel cX5_isWheel 2 (some .boolean), .fieldLink RX5 50 "WheelDesk$Craft" "wheelCount" "I", .methodLink RX5 45 yX5_isWithin, .static yX5_isWithin, .code yX5_isWithin cX5_isWithin 3 (some .boolean), .methodLink RX5 83 yX4_number, .instanceMethod yX4_number, .selects RX4 yX4_number yX4_number, .initialized RX4, .code yX4_number cX4_number 2 (some .int), .fieldLink RX4 9 "WheelDesk$Wheel" "direction" "[I", .fieldLink RX4 15 "WheelDesk$Wheel" "momentum" "I", .fieldLink RX4 19 "WheelDesk$Wheel" "mostMomentum" "I", .fieldLink RX4 22 "WheelDesk$Wheel" "mostTorque" "I", .fieldLink RX4 25 "WheelDesk$Wheel" "failed" "Z", .fieldLink RX4 29 "WheelDesk$Wheel" "got" "I"] ++ wsX50 ++ wsX00 ++ wsX40)
def wsX5_wheels : List Cond := .code yX5_wheels cX5_wheels 1 (some .int) :: ([.fieldLink RX5 10 "WheelDesk" "craft" "LWheelDesk$Craft;", .fieldLink RX5 50 "WheelDesk$Craft" "wheelCount" "I"] ++ wsX50 ++ wsX00)
def wsX5_isAxis : List Cond := .code yX5_isAxis cX5_isAxis 1 (some .boolean) :: ([.methodLink RX5 45 yX5_isWithin, .static yX5_isWithin, .initialized RX5, .code yX5_isWithin cX5_isWithin 3 (some .boolean)])
def wsX5_setAxis_r1 : List Cond := [Cond.fieldLink RX5 90 "WheelDesk" "LEAST_GIVEN" "[I", Cond.fieldLink RX5 94 "WheelDesk" "GREATEST_GIVEN" "[I", Cond.constant RX5 49 (-2000001), Cond.fieldLink RX5 36 "WheelDesk" "history" "LWheelDesk$History;", Cond.fieldLink RX5 10 "WheelDesk" "craft" "LWheelDesk$Craft;", Cond.fieldLink RX5 97 "WheelDesk$Craft" "given" "[[I", Cond.methodLink RX5 87 yX5_isAxis, Cond.static yX5_isAxis, Cond.initialized RX5, Cond.code yX5_isAxis cX5_isAxis 1 (some .boolean), Cond.methodLink RX5 45 yX5_isWithin, Cond.static yX5_isWithin, Cond.code yX5_isWithin cX5_isWithin 3 (some .boolean), Cond.methodLink RX5 55 yX1_keep, Cond.instanceMethod yX1_keep, Cond.selects RX1 yX1_keep yX1_keep, Cond.initialized RX1, Cond.code yX1_keep cX1_keep 2 none, Cond.fieldLink RX1 18 "WheelDesk$History" "kept" "I", Cond.fieldLink RX1 11 "WheelDesk$History" "states" "[LWheelDesk$Craft;", Cond.methodLink RX1 22 yX1_dropOldest, Cond.instanceMethod yX1_dropOldest, Cond.selects RX1 yX1_dropOldest yX1_dropOldest, Cond.code yX1_dropOldest cX1_dropOldest 3 none]
def wsX5_setAxis_r2 : List Cond := [Cond.methodLink RX1 25 yX0_become, Cond.instanceMethod yX0_become, Cond.selects RX0 yX0_become yX0_become, Cond.initialized RX0, Cond.code yX0_become cX0_become 3 none, Cond.fieldLink RX0 47 "WheelDesk$Craft" "now" "I", Cond.fieldLink RX0 9 "WheelDesk$Craft" "settings" "[I", Cond.methodLink RX0 50 arraycopyName, Cond.native arraycopyName, Cond.static arraycopyName, Cond.initialized "java/lang/System", Cond.fieldLink RX0 17 "WheelDesk$Craft" "given" "[[I", Cond.fieldLink RX0 20 "WheelDesk$Craft" "angle" "[J", Cond.fieldLink RX0 24 "WheelDesk$Craft" "momentum" "[J", Cond.fieldLink RX0 27 "WheelDesk$Craft" "outside" "[J", Cond.fieldLink RX0 30 "WheelDesk$Craft" "wished" "[J", Cond.fieldLink RX0 56 "WheelDesk$Craft" "wheelCount" "I", Cond.fieldLink RX0 35 "WheelDesk$Craft" "wheelRow" "[LWheelDesk$Wheel;", Cond.fieldLink RX0 39 "WheelDesk$Craft" "reasons" "[I", Cond.fieldLink RX0 43 "WheelDesk$Craft" "reasonCount" "I", Cond.methodLink RX0 59 yX4_become, Cond.instanceMethod yX4_become, Cond.selects RX4 yX4_become yX4_become, Cond.initialized RX4]
def wsX5_setAxis_r3 : List Cond := [Cond.code yX4_become cX4_become 2 none, Cond.fieldLink RX4 9 "WheelDesk$Wheel" "direction" "[I", Cond.methodLink RX4 32 arraycopyName, Cond.fieldLink RX4 15 "WheelDesk$Wheel" "momentum" "I", Cond.fieldLink RX4 19 "WheelDesk$Wheel" "mostMomentum" "I", Cond.fieldLink RX4 22 "WheelDesk$Wheel" "mostTorque" "I", Cond.fieldLink RX4 25 "WheelDesk$Wheel" "failed" "Z", Cond.fieldLink RX4 29 "WheelDesk$Wheel" "got" "I"]
def wsX5_setAxis : List Cond := .code yX5_setAxis cX5_setAxis 5 (some .int) :: ((wsX5_setAxis_r1 ++ (wsX5_setAxis_r2 ++ wsX5_setAxis_r3)) ++ wsX50 ++ wsX00 ++ wsX10 ++ wsX40)
def wsX5_set_r1 : List Cond := [Cond.fieldLink RX5 101 "WheelDesk" "LEAST_SETTING" "[I", Cond.fieldLink RX5 104 "WheelDesk" "GREATEST_SETTING" "[I", Cond.constant RX5 49 (-2000001), Cond.fieldLink RX5 36 "WheelDesk" "history" "LWheelDesk$History;", Cond.fieldLink RX5 10 "WheelDesk" "craft" "LWheelDesk$Craft;", Cond.fieldLink RX5 107 "WheelDesk$Craft" "settings" "[I", Cond.methodLink RX5 45 yX5_isWithin, Cond.static yX5_isWithin, Cond.initialized RX5, Cond.code yX5_isWithin cX5_isWithin 3 (some .boolean), Cond.methodLink RX5 55 yX1_keep, Cond.instanceMethod yX1_keep, Cond.selects RX1 yX1_keep yX1_keep, Cond.initialized RX1, Cond.code yX1_keep cX1_keep 2 none, Cond.fieldLink RX1 18 "WheelDesk$History" "kept" "I", Cond.fieldLink RX1 11 "WheelDesk$History" "states" "[LWheelDesk$Craft;", Cond.methodLink RX1 22 yX1_dropOldest, Cond.instanceMethod yX1_dropOldest, Cond.selects RX1 yX1_dropOldest yX1_dropOldest, Cond.code yX1_dropOldest cX1_dropOldest 3 none, Cond.methodLink RX1 25 yX0_become, Cond.instanceMethod yX0_become, Cond.selects RX0 yX0_become yX0_become]
def wsX5_set_r2 : List Cond := [Cond.initialized RX0, Cond.code yX0_become cX0_become 3 none, Cond.fieldLink RX0 47 "WheelDesk$Craft" "now" "I", Cond.fieldLink RX0 9 "WheelDesk$Craft" "settings" "[I", Cond.methodLink RX0 50 arraycopyName, Cond.native arraycopyName, Cond.static arraycopyName, Cond.initialized "java/lang/System", Cond.fieldLink RX0 17 "WheelDesk$Craft" "given" "[[I", Cond.fieldLink RX0 20 "WheelDesk$Craft" "angle" "[J", Cond.fieldLink RX0 24 "WheelDesk$Craft" "momentum" "[J", Cond.fieldLink RX0 27 "WheelDesk$Craft" "outside" "[J", Cond.fieldLink RX0 30 "WheelDesk$Craft" "wished" "[J", Cond.fieldLink RX0 56 "WheelDesk$Craft" "wheelCount" "I", Cond.fieldLink RX0 35 "WheelDesk$Craft" "wheelRow" "[LWheelDesk$Wheel;", Cond.fieldLink RX0 39 "WheelDesk$Craft" "reasons" "[I", Cond.fieldLink RX0 43 "WheelDesk$Craft" "reasonCount" "I", Cond.methodLink RX0 59 yX4_become, Cond.instanceMethod yX4_become, Cond.selects RX4 yX4_become yX4_become, Cond.initialized RX4, Cond.code yX4_become cX4_become 2 none, Cond.fieldLink RX4 9 "WheelDesk$Wheel" "direction" "[I", Cond.methodLink RX4 32 arraycopyName]
def wsX5_set_r3 : List Cond := [Cond.fieldLink RX4 15 "WheelDesk$Wheel" "momentum" "I", Cond.fieldLink RX4 19 "WheelDesk$Wheel" "mostMomentum" "I", Cond.fieldLink RX4 22 "WheelDesk$Wheel" "mostTorque" "I", Cond.fieldLink RX4 25 "WheelDesk$Wheel" "failed" "Z", Cond.fieldLink RX4 29 "WheelDesk$Wheel" "got" "I"]
def wsX5_set : List Cond := .code yX5_set cX5_set 4 (some .int) :: ((wsX5_set_r1 ++ (wsX5_set_r2 ++ wsX5_set_r3)) ++ wsX50 ++ wsX00 ++ wsX10 ++ wsX40)
def wsX5_setting : List Cond := .code yX5_setting cX5_setting 2 (some .int) :: ([.fieldLink RX5 10 "WheelDesk" "craft" "LWheelDesk$Craft;", .fieldLink RX5 107 "WheelDesk$Craft" "settings" "[I", .constant RX5 49 (-2000001), .methodLink RX5 45 yX5_isWithin, .static yX5_isWithin, .initialized RX5, .code yX5_isWithin cX5_isWithin 3 (some .boolean)] ++ wsX50 ++ wsX00)
def wsX5_strike_r1 : List Cond := [Cond.constant RX5 110 (-100000), Cond.constant RX5 48 (100000), Cond.constantLong RX5 111 (-4611686018427387905), Cond.fieldLink RX5 36 "WheelDesk" "history" "LWheelDesk$History;", Cond.fieldLink RX5 10 "WheelDesk" "craft" "LWheelDesk$Craft;", Cond.methodLink RX5 87 yX5_isAxis, Cond.static yX5_isAxis, Cond.initialized RX5, Cond.code yX5_isAxis cX5_isAxis 1 (some .boolean), Cond.methodLink RX5 45 yX5_isWithin, Cond.static yX5_isWithin, Cond.code yX5_isWithin cX5_isWithin 3 (some .boolean), Cond.methodLink RX5 55 yX1_keep, Cond.instanceMethod yX1_keep, Cond.selects RX1 yX1_keep yX1_keep, Cond.initialized RX1, Cond.code yX1_keep cX1_keep 2 none, Cond.fieldLink RX1 18 "WheelDesk$History" "kept" "I", Cond.fieldLink RX1 11 "WheelDesk$History" "states" "[LWheelDesk$Craft;", Cond.methodLink RX1 22 yX1_dropOldest, Cond.instanceMethod yX1_dropOldest, Cond.selects RX1 yX1_dropOldest yX1_dropOldest, Cond.code yX1_dropOldest cX1_dropOldest 3 none, Cond.methodLink RX1 25 yX0_become]
def wsX5_strike_r2 : List Cond := [Cond.instanceMethod yX0_become, Cond.selects RX0 yX0_become yX0_become, Cond.initialized RX0, Cond.code yX0_become cX0_become 3 none, Cond.fieldLink RX0 47 "WheelDesk$Craft" "now" "I", Cond.fieldLink RX0 9 "WheelDesk$Craft" "settings" "[I", Cond.methodLink RX0 50 arraycopyName, Cond.native arraycopyName, Cond.static arraycopyName, Cond.initialized "java/lang/System", Cond.fieldLink RX0 17 "WheelDesk$Craft" "given" "[[I", Cond.fieldLink RX0 20 "WheelDesk$Craft" "angle" "[J", Cond.fieldLink RX0 24 "WheelDesk$Craft" "momentum" "[J", Cond.fieldLink RX0 27 "WheelDesk$Craft" "outside" "[J", Cond.fieldLink RX0 30 "WheelDesk$Craft" "wished" "[J", Cond.fieldLink RX0 56 "WheelDesk$Craft" "wheelCount" "I", Cond.fieldLink RX0 35 "WheelDesk$Craft" "wheelRow" "[LWheelDesk$Wheel;", Cond.fieldLink RX0 39 "WheelDesk$Craft" "reasons" "[I", Cond.fieldLink RX0 43 "WheelDesk$Craft" "reasonCount" "I", Cond.methodLink RX0 59 yX4_become, Cond.instanceMethod yX4_become, Cond.selects RX4 yX4_become yX4_become, Cond.initialized RX4, Cond.code yX4_become cX4_become 2 none]
def wsX5_strike_r3 : List Cond := [Cond.fieldLink RX4 9 "WheelDesk$Wheel" "direction" "[I", Cond.methodLink RX4 32 arraycopyName, Cond.fieldLink RX4 15 "WheelDesk$Wheel" "momentum" "I", Cond.fieldLink RX4 19 "WheelDesk$Wheel" "mostMomentum" "I", Cond.fieldLink RX4 22 "WheelDesk$Wheel" "mostTorque" "I", Cond.fieldLink RX4 25 "WheelDesk$Wheel" "failed" "Z", Cond.fieldLink RX4 29 "WheelDesk$Wheel" "got" "I", Cond.methodLink RX5 113 yX0_pushFromOutside, Cond.instanceMethod yX0_pushFromOutside, Cond.selects RX0 yX0_pushFromOutside yX0_pushFromOutside, Cond.code yX0_pushFromOutside cX0_pushFromOutside 4 none, Cond.methodLink RX5 117 yX0_rate, Cond.instanceMethod yX0_rate, Cond.selects RX0 yX0_rate yX0_rate, Cond.code yX0_rate cX0_rate 2 (some .long), Cond.static yX5_quotient, Cond.code yX5_quotient cX5_quotient 4 (some .long), Cond.methodLink RX5 214 yJ9_floorDiv_f86c9, Cond.static yJ9_floorDiv_f86c9, Cond.initialized RJ9, Cond.code yJ9_floorDiv_f86c9 cJ9_floorDiv_f86c9 6 (some .long)]
def wsX5_strike : List Cond := .code yX5_strike cX5_strike 3 (some .long) :: ((wsX5_strike_r1 ++ (wsX5_strike_r2 ++ wsX5_strike_r3)) ++ wsX50 ++ wsX10 ++ wsX00 ++ wsX40)
def wsX5_passOne_r1 : List Cond := [Cond.fieldLink RX5 121 "WheelDesk$Craft" "now" "I", Cond.fieldLink RX5 22 "WheelDesk" "sharing" "LWheelDesk$Sharing;", Cond.fieldLink RX5 29 "WheelDesk" "magnets" "LWheelDesk$Magnets;", Cond.methodLink RX5 219 yX0_findWish, Cond.instanceMethod yX0_findWish, Cond.selects RX0 yX0_findWish yX0_findWish, Cond.initialized RX0, Cond.code yX0_findWish cX0_findWish 12 none, Cond.fieldLink RX0 9 "WheelDesk$Craft" "settings" "[I", Cond.fieldLink RX0 17 "WheelDesk$Craft" "given" "[[I", Cond.fieldLink RX0 20 "WheelDesk$Craft" "angle" "[J", Cond.constantLong RX0 90 (100), Cond.fieldLink RX0 30 "WheelDesk$Craft" "wished" "[J", Cond.static yX5_quotient, Cond.initialized RX5, Cond.code yX5_quotient cX5_quotient 4 (some .long), Cond.methodLink RX5 214 yJ9_floorDiv_f86c9, Cond.static yJ9_floorDiv_f86c9, Cond.initialized RJ9, Cond.code yJ9_floorDiv_f86c9 cJ9_floorDiv_f86c9 6 (some .long), Cond.static yX5_limited, Cond.code yX5_limited cX5_limited 6 (some .long), Cond.methodLink RX0 63 yX0_rate, Cond.instanceMethod yX0_rate]
def wsX5_passOne_r2 : List Cond := [Cond.selects RX0 yX0_rate yX0_rate, Cond.code yX0_rate cX0_rate 2 (some .long), Cond.fieldLink RX0 24 "WheelDesk$Craft" "momentum" "[J", Cond.methodLink RX5 222 yX3_share, Cond.instanceMethod yX3_share, Cond.selects RX3 yX3_share yX3_share, Cond.initialized RX3, Cond.code yX3_share cX3_share 3 none, Cond.fieldLink RX3 23 "WheelDesk$Craft" "wheelCount" "I", Cond.fieldLink RX3 29 "WheelDesk$Craft" "wheelRow" "[LWheelDesk$Wheel;", Cond.fieldLink RX3 70 "WheelDesk$Wheel" "got" "I", Cond.fieldLink RX3 79 "WheelDesk$Craft" "wished" "[J", Cond.fieldLink RX3 33 "WheelDesk$Wheel" "failed" "Z", Cond.methodLink RX3 58 yX3_spans, Cond.instanceMethod yX3_spans, Cond.selects RX3 yX3_spans yX3_spans, Cond.code yX3_spans cX3_spans 1 (some .boolean), Cond.fieldLink RX3 50 "WheelDesk$Sharing" "determinant" "J", Cond.methodLink RX3 73 yX0_tellNoSpan, Cond.instanceMethod yX0_tellNoSpan, Cond.selects RX0 yX0_tellNoSpan yX0_tellNoSpan, Cond.code yX0_tellNoSpan cX0_tellNoSpan 2 none, Cond.fieldLink RX0 39 "WheelDesk$Craft" "reasons" "[I", Cond.fieldLink RX0 43 "WheelDesk$Craft" "reasonCount" "I"]
def wsX5_passOne_r3 : List Cond := [Cond.fieldLink RX0 56 "WheelDesk$Craft" "wheelCount" "I", Cond.fieldLink RX0 35 "WheelDesk$Craft" "wheelRow" "[LWheelDesk$Wheel;", Cond.fieldLink RX0 100 "WheelDesk$Wheel" "failed" "Z", Cond.methodLink RX3 76 yX0_tellMet, Cond.instanceMethod yX0_tellMet, Cond.selects RX0 yX0_tellMet yX0_tellMet, Cond.code yX0_tellMet cX0_tellMet 1 none, Cond.methodLink RX3 82 yX3_aim, Cond.instanceMethod yX3_aim, Cond.selects RX3 yX3_aim yX3_aim, Cond.code yX3_aim cX3_aim 8 none, Cond.fieldLink RX3 19 "WheelDesk$Sharing" "aimed" "[J", Cond.fieldLink RX3 16 "WheelDesk$Sharing" "cofactor" "[[J", Cond.methodLink RX3 86 yX3_give, Cond.instanceMethod yX3_give, Cond.selects RX3 yX3_give yX3_give, Cond.code yX3_give cX3_give 11 none, Cond.fieldLink RX3 101 "WheelDesk$Wheel" "momentum" "I", Cond.fieldLink RX3 104 "WheelDesk$Craft" "momentum" "[J", Cond.fieldLink RX3 39 "WheelDesk$Wheel" "direction" "[I", Cond.methodLink RX3 90 yX3_wishOf, Cond.instanceMethod yX3_wishOf, Cond.selects RX3 yX3_wishOf yX3_wishOf, Cond.code yX3_wishOf cX3_wishOf 5 (some .long)]
def wsX5_passOne_r4 : List Cond := [Cond.constantLong RX3 62 (2), Cond.methodLink RX3 64 yJ9_floorDiv_f86c9, Cond.methodLink RX3 94 yX4_allowedByTorque, Cond.instanceMethod yX4_allowedByTorque, Cond.selects RX4 yX4_allowedByTorque yX4_allowedByTorque, Cond.initialized RX4, Cond.code yX4_allowedByTorque cX4_allowedByTorque 3 (some .long), Cond.fieldLink RX4 22 "WheelDesk$Wheel" "mostTorque" "I", Cond.methodLink RX3 98 yX4_allowedByMomentum, Cond.instanceMethod yX4_allowedByMomentum, Cond.selects RX4 yX4_allowedByMomentum yX4_allowedByMomentum, Cond.code yX4_allowedByMomentum cX4_allowedByMomentum 7 (some .long), Cond.fieldLink RX4 19 "WheelDesk$Wheel" "mostMomentum" "I", Cond.fieldLink RX4 15 "WheelDesk$Wheel" "momentum" "I", Cond.methodLink RX4 42 Lib.Math.min.name, Cond.static Lib.Math.min.name, Cond.initialized "java/lang/Math", Cond.code Lib.Math.min.name Lib.Math.min.code 2 (some .int), Cond.methodLink RX4 48 Lib.Math.max.name, Cond.static Lib.Math.max.name, Cond.code Lib.Math.max.name Lib.Math.max.code 2 (some .int), Cond.methodLink RX3 106 yX0_isMet, Cond.instanceMethod yX0_isMet, Cond.selects RX0 yX0_isMet yX0_isMet]
def wsX5_passOne_r5 : List Cond := [Cond.code yX0_isMet cX0_isMet 1 (some .boolean), Cond.methodLink RX3 109 yX0_tellLimited, Cond.instanceMethod yX0_tellLimited, Cond.selects RX0 yX0_tellLimited yX0_tellLimited, Cond.code yX0_tellLimited cX0_tellLimited 3 none, Cond.methodLink RX5 225 yX2_letGo, Cond.instanceMethod yX2_letGo, Cond.selects RX2 yX2_letGo yX2_letGo, Cond.initialized RX2, Cond.code yX2_letGo cX2_letGo 6 none, Cond.fieldLink RX2 18 "WheelDesk$Craft" "given" "[[I", Cond.fieldLink RX2 24 "WheelDesk$Craft" "settings" "[I", Cond.fieldLink RX2 9 "WheelDesk$Magnets" "held" "[J", Cond.fieldLink RX2 15 "WheelDesk$Magnets" "moment" "[J", Cond.constantLong RX2 36 (1000), Cond.constantLong RX2 46 (100), Cond.methodLink RX2 28 yX0_wheelMomentum, Cond.instanceMethod yX0_wheelMomentum, Cond.selects RX0 yX0_wheelMomentum yX0_wheelMomentum, Cond.code yX0_wheelMomentum cX0_wheelMomentum 5 (some .long), Cond.fieldLink RX0 76 "WheelDesk$Wheel" "direction" "[I", Cond.fieldLink RX0 79 "WheelDesk$Wheel" "momentum" "I", Cond.methodLink RX2 32 yX2_crossed, Cond.static yX2_crossed]
def wsX5_passOne_r6 : List Cond := [Cond.code yX2_crossed cX2_crossed 5 (some .long), Cond.static yX5_axisAfter, Cond.code yX5_axisAfter cX5_axisAfter 2 (some .int), Cond.methodLink RX2 48 yX0_pushFromOutside, Cond.instanceMethod yX0_pushFromOutside, Cond.selects RX0 yX0_pushFromOutside yX0_pushFromOutside, Cond.code yX0_pushFromOutside cX0_pushFromOutside 4 none, Cond.fieldLink RX0 27 "WheelDesk$Craft" "outside" "[J", Cond.methodLink RX5 228 yX0_disturb, Cond.instanceMethod yX0_disturb, Cond.selects RX0 yX0_disturb yX0_disturb, Cond.code yX0_disturb cX0_disturb 2 none, Cond.methodLink RX0 96 yX0_pushFromOutside, Cond.methodLink RX5 231 yX0_turn, Cond.instanceMethod yX0_turn, Cond.selects RX0 yX0_turn yX0_turn, Cond.code yX0_turn cX0_turn 2 none]
def wsX5_passOne : List Cond := .code yX5_passOne cX5_passOne 2 none :: ((wsX5_passOne_r1 ++ (wsX5_passOne_r2 ++ (wsX5_passOne_r3 ++ (wsX5_passOne_r4 ++ (wsX5_passOne_r5 ++ wsX5_passOne_r6))))) ++ wsX00 ++ wsX50 ++ wsX40 ++ wsX30 ++ wsX20)
def wsX5_tick_r1 : List Cond := [Cond.constant RX5 49 (-2000001), Cond.fieldLink RX5 10 "WheelDesk" "craft" "LWheelDesk$Craft;", Cond.fieldLink RX5 121 "WheelDesk$Craft" "now" "I", Cond.constant RX5 124 (50000), Cond.constant RX5 125 (-2000002), Cond.fieldLink RX5 36 "WheelDesk" "history" "LWheelDesk$History;", Cond.fieldLink RX5 22 "WheelDesk" "sharing" "LWheelDesk$Sharing;", Cond.constant RX5 126 (-2000009), Cond.methodLink RX5 45 yX5_isWithin, Cond.static yX5_isWithin, Cond.initialized RX5, Cond.code yX5_isWithin cX5_isWithin 3 (some .boolean), Cond.methodLink RX5 55 yX1_keep, Cond.instanceMethod yX1_keep, Cond.selects RX1 yX1_keep yX1_keep, Cond.initialized RX1, Cond.code yX1_keep cX1_keep 2 none, Cond.fieldLink RX1 18 "WheelDesk$History" "kept" "I", Cond.fieldLink RX1 11 "WheelDesk$History" "states" "[LWheelDesk$Craft;", Cond.methodLink RX1 22 yX1_dropOldest, Cond.instanceMethod yX1_dropOldest, Cond.selects RX1 yX1_dropOldest yX1_dropOldest, Cond.code yX1_dropOldest cX1_dropOldest 3 none, Cond.methodLink RX1 25 yX0_become]
def wsX5_tick_r2 : List Cond := [Cond.instanceMethod yX0_become, Cond.selects RX0 yX0_become yX0_become, Cond.initialized RX0, Cond.code yX0_become cX0_become 3 none, Cond.fieldLink RX0 47 "WheelDesk$Craft" "now" "I", Cond.fieldLink RX0 9 "WheelDesk$Craft" "settings" "[I", Cond.methodLink RX0 50 arraycopyName, Cond.native arraycopyName, Cond.static arraycopyName, Cond.initialized "java/lang/System", Cond.fieldLink RX0 17 "WheelDesk$Craft" "given" "[[I", Cond.fieldLink RX0 20 "WheelDesk$Craft" "angle" "[J", Cond.fieldLink RX0 24 "WheelDesk$Craft" "momentum" "[J", Cond.fieldLink RX0 27 "WheelDesk$Craft" "outside" "[J", Cond.fieldLink RX0 30 "WheelDesk$Craft" "wished" "[J", Cond.fieldLink RX0 56 "WheelDesk$Craft" "wheelCount" "I", Cond.fieldLink RX0 35 "WheelDesk$Craft" "wheelRow" "[LWheelDesk$Wheel;", Cond.fieldLink RX0 39 "WheelDesk$Craft" "reasons" "[I", Cond.fieldLink RX0 43 "WheelDesk$Craft" "reasonCount" "I", Cond.methodLink RX0 59 yX4_become, Cond.instanceMethod yX4_become, Cond.selects RX4 yX4_become yX4_become, Cond.initialized RX4, Cond.code yX4_become cX4_become 2 none]
def wsX5_tick_r3 : List Cond := [Cond.fieldLink RX4 9 "WheelDesk$Wheel" "direction" "[I", Cond.methodLink RX4 32 arraycopyName, Cond.fieldLink RX4 15 "WheelDesk$Wheel" "momentum" "I", Cond.fieldLink RX4 19 "WheelDesk$Wheel" "mostMomentum" "I", Cond.fieldLink RX4 22 "WheelDesk$Wheel" "mostTorque" "I", Cond.fieldLink RX4 25 "WheelDesk$Wheel" "failed" "Z", Cond.fieldLink RX4 29 "WheelDesk$Wheel" "got" "I", Cond.methodLink RX5 127 yX3_measure, Cond.instanceMethod yX3_measure, Cond.selects RX3 yX3_measure yX3_measure, Cond.initialized RX3, Cond.code yX3_measure cX3_measure 5 none, Cond.fieldLink RX3 11 "WheelDesk$Sharing" "matrix" "[[J", Cond.fieldLink RX3 23 "WheelDesk$Craft" "wheelCount" "I", Cond.fieldLink RX3 29 "WheelDesk$Craft" "wheelRow" "[LWheelDesk$Wheel;", Cond.fieldLink RX3 33 "WheelDesk$Wheel" "failed" "Z", Cond.fieldLink RX3 39 "WheelDesk$Wheel" "direction" "[I", Cond.fieldLink RX3 50 "WheelDesk$Sharing" "determinant" "J", Cond.fieldLink RX3 16 "WheelDesk$Sharing" "cofactor" "[[J", Cond.methodLink RX3 43 yX3_addProducts, Cond.instanceMethod yX3_addProducts, Cond.selects RX3 yX3_addProducts yX3_addProducts, Cond.code yX3_addProducts cX3_addProducts 4 none, Cond.methodLink RX3 47 yX3_findCofactors]
def wsX5_tick_r4 : List Cond := [Cond.instanceMethod yX3_findCofactors, Cond.selects RX3 yX3_findCofactors yX3_findCofactors, Cond.code yX3_findCofactors cX3_findCofactors 7 none, Cond.static yX5_axisAfter, Cond.code yX5_axisAfter cX5_axisAfter 2 (some .int), Cond.methodLink RX5 131 yX5_passOne, Cond.instanceMethod yX5_passOne, Cond.selects RX5 yX5_passOne yX5_passOne, Cond.code yX5_passOne cX5_passOne 2 none, Cond.fieldLink RX5 29 "WheelDesk" "magnets" "LWheelDesk$Magnets;", Cond.methodLink RX5 219 yX0_findWish, Cond.instanceMethod yX0_findWish, Cond.selects RX0 yX0_findWish yX0_findWish, Cond.code yX0_findWish cX0_findWish 12 none, Cond.constantLong RX0 90 (100), Cond.static yX5_quotient, Cond.code yX5_quotient cX5_quotient 4 (some .long), Cond.methodLink RX5 214 yJ9_floorDiv_f86c9, Cond.static yJ9_floorDiv_f86c9, Cond.initialized RJ9, Cond.code yJ9_floorDiv_f86c9 cJ9_floorDiv_f86c9 6 (some .long), Cond.static yX5_limited, Cond.code yX5_limited cX5_limited 6 (some .long), Cond.methodLink RX0 63 yX0_rate]
def wsX5_tick_r5 : List Cond := [Cond.instanceMethod yX0_rate, Cond.selects RX0 yX0_rate yX0_rate, Cond.code yX0_rate cX0_rate 2 (some .long), Cond.methodLink RX5 222 yX3_share, Cond.instanceMethod yX3_share, Cond.selects RX3 yX3_share yX3_share, Cond.code yX3_share cX3_share 3 none, Cond.fieldLink RX3 70 "WheelDesk$Wheel" "got" "I", Cond.fieldLink RX3 79 "WheelDesk$Craft" "wished" "[J", Cond.methodLink RX3 58 yX3_spans, Cond.instanceMethod yX3_spans, Cond.selects RX3 yX3_spans yX3_spans, Cond.code yX3_spans cX3_spans 1 (some .boolean), Cond.methodLink RX3 73 yX0_tellNoSpan, Cond.instanceMethod yX0_tellNoSpan, Cond.selects RX0 yX0_tellNoSpan yX0_tellNoSpan, Cond.code yX0_tellNoSpan cX0_tellNoSpan 2 none, Cond.fieldLink RX0 100 "WheelDesk$Wheel" "failed" "Z", Cond.methodLink RX3 76 yX0_tellMet, Cond.instanceMethod yX0_tellMet, Cond.selects RX0 yX0_tellMet yX0_tellMet, Cond.code yX0_tellMet cX0_tellMet 1 none, Cond.methodLink RX3 82 yX3_aim, Cond.instanceMethod yX3_aim]
def wsX5_tick_r6 : List Cond := [Cond.selects RX3 yX3_aim yX3_aim, Cond.code yX3_aim cX3_aim 8 none, Cond.fieldLink RX3 19 "WheelDesk$Sharing" "aimed" "[J", Cond.methodLink RX3 86 yX3_give, Cond.instanceMethod yX3_give, Cond.selects RX3 yX3_give yX3_give, Cond.code yX3_give cX3_give 11 none, Cond.fieldLink RX3 101 "WheelDesk$Wheel" "momentum" "I", Cond.fieldLink RX3 104 "WheelDesk$Craft" "momentum" "[J", Cond.methodLink RX3 90 yX3_wishOf, Cond.instanceMethod yX3_wishOf, Cond.selects RX3 yX3_wishOf yX3_wishOf, Cond.code yX3_wishOf cX3_wishOf 5 (some .long), Cond.constantLong RX3 62 (2), Cond.methodLink RX3 64 yJ9_floorDiv_f86c9, Cond.methodLink RX3 94 yX4_allowedByTorque, Cond.instanceMethod yX4_allowedByTorque, Cond.selects RX4 yX4_allowedByTorque yX4_allowedByTorque, Cond.code yX4_allowedByTorque cX4_allowedByTorque 3 (some .long), Cond.methodLink RX3 98 yX4_allowedByMomentum, Cond.instanceMethod yX4_allowedByMomentum, Cond.selects RX4 yX4_allowedByMomentum yX4_allowedByMomentum, Cond.code yX4_allowedByMomentum cX4_allowedByMomentum 7 (some .long), Cond.methodLink RX4 42 Lib.Math.min.name]
def wsX5_tick_r7 : List Cond := [Cond.static Lib.Math.min.name, Cond.initialized "java/lang/Math", Cond.code Lib.Math.min.name Lib.Math.min.code 2 (some .int), Cond.methodLink RX4 48 Lib.Math.max.name, Cond.static Lib.Math.max.name, Cond.code Lib.Math.max.name Lib.Math.max.code 2 (some .int), Cond.methodLink RX3 106 yX0_isMet, Cond.instanceMethod yX0_isMet, Cond.selects RX0 yX0_isMet yX0_isMet, Cond.code yX0_isMet cX0_isMet 1 (some .boolean), Cond.methodLink RX3 109 yX0_tellLimited, Cond.instanceMethod yX0_tellLimited, Cond.selects RX0 yX0_tellLimited yX0_tellLimited, Cond.code yX0_tellLimited cX0_tellLimited 3 none, Cond.methodLink RX5 225 yX2_letGo, Cond.instanceMethod yX2_letGo, Cond.selects RX2 yX2_letGo yX2_letGo, Cond.initialized RX2, Cond.code yX2_letGo cX2_letGo 6 none, Cond.fieldLink RX2 18 "WheelDesk$Craft" "given" "[[I", Cond.fieldLink RX2 24 "WheelDesk$Craft" "settings" "[I", Cond.fieldLink RX2 9 "WheelDesk$Magnets" "held" "[J", Cond.fieldLink RX2 15 "WheelDesk$Magnets" "moment" "[J", Cond.constantLong RX2 36 (1000)]
def wsX5_tick_r8 : List Cond := [Cond.constantLong RX2 46 (100), Cond.methodLink RX2 28 yX0_wheelMomentum, Cond.instanceMethod yX0_wheelMomentum, Cond.selects RX0 yX0_wheelMomentum yX0_wheelMomentum, Cond.code yX0_wheelMomentum cX0_wheelMomentum 5 (some .long), Cond.fieldLink RX0 76 "WheelDesk$Wheel" "direction" "[I", Cond.fieldLink RX0 79 "WheelDesk$Wheel" "momentum" "I", Cond.methodLink RX2 32 yX2_crossed, Cond.static yX2_crossed, Cond.code yX2_crossed cX2_crossed 5 (some .long), Cond.methodLink RX2 48 yX0_pushFromOutside, Cond.instanceMethod yX0_pushFromOutside, Cond.selects RX0 yX0_pushFromOutside yX0_pushFromOutside, Cond.code yX0_pushFromOutside cX0_pushFromOutside 4 none, Cond.methodLink RX5 228 yX0_disturb, Cond.instanceMethod yX0_disturb, Cond.selects RX0 yX0_disturb yX0_disturb, Cond.code yX0_disturb cX0_disturb 2 none, Cond.methodLink RX0 96 yX0_pushFromOutside, Cond.methodLink RX5 231 yX0_turn, Cond.instanceMethod yX0_turn, Cond.selects RX0 yX0_turn yX0_turn, Cond.code yX0_turn cX0_turn 2 none, Cond.methodLink RX5 134 yX0_isMet]
def wsX5_tick : List Cond := .code yX5_tick cX5_tick 4 (some .int) :: ((wsX5_tick_r1 ++ (wsX5_tick_r2 ++ (wsX5_tick_r3 ++ (wsX5_tick_r4 ++ (wsX5_tick_r5 ++ (wsX5_tick_r6 ++ (wsX5_tick_r7 ++ wsX5_tick_r8))))))) ++ wsX50 ++ wsX00 ++ wsX10 ++ wsX40 ++ wsX30 ++ wsX20)
def wsX5_time : List Cond := .code yX5_time cX5_time 1 (some .int) :: ([.fieldLink RX5 10 "WheelDesk" "craft" "LWheelDesk$Craft;", .fieldLink RX5 121 "WheelDesk$Craft" "now" "I"] ++ wsX50 ++ wsX00)
def wsX5_axis_r1 : List Cond := [Cond.constantLong RX5 111 (-4611686018427387905), Cond.fieldLink RX5 10 "WheelDesk" "craft" "LWheelDesk$Craft;", Cond.methodLink RX5 87 yX5_isAxis, Cond.static yX5_isAxis, Cond.initialized RX5, Cond.code yX5_isAxis cX5_isAxis 1 (some .boolean), Cond.methodLink RX5 45 yX5_isWithin, Cond.static yX5_isWithin, Cond.code yX5_isWithin cX5_isWithin 3 (some .boolean), Cond.methodLink RX5 138 yX0_number, Cond.instanceMethod yX0_number, Cond.selects RX0 yX0_number yX0_number, Cond.initialized RX0, Cond.code yX0_number cX0_number 3 (some .long), Cond.fieldLink RX0 20 "WheelDesk$Craft" "angle" "[J", Cond.fieldLink RX0 24 "WheelDesk$Craft" "momentum" "[J", Cond.fieldLink RX0 27 "WheelDesk$Craft" "outside" "[J", Cond.fieldLink RX0 30 "WheelDesk$Craft" "wished" "[J", Cond.fieldLink RX0 17 "WheelDesk$Craft" "given" "[[I", Cond.constantLong RX0 70 (-4611686018427387905), Cond.methodLink RX0 63 yX0_rate, Cond.instanceMethod yX0_rate, Cond.selects RX0 yX0_rate yX0_rate, Cond.code yX0_rate cX0_rate 2 (some .long)]
def wsX5_axis_r2 : List Cond := [Cond.static yX5_quotient, Cond.code yX5_quotient cX5_quotient 4 (some .long), Cond.methodLink RX5 214 yJ9_floorDiv_f86c9, Cond.static yJ9_floorDiv_f86c9, Cond.initialized RJ9, Cond.code yJ9_floorDiv_f86c9 cJ9_floorDiv_f86c9 6 (some .long), Cond.methodLink RX0 67 yX0_wheelMomentum, Cond.instanceMethod yX0_wheelMomentum, Cond.selects RX0 yX0_wheelMomentum yX0_wheelMomentum, Cond.code yX0_wheelMomentum cX0_wheelMomentum 5 (some .long), Cond.fieldLink RX0 56 "WheelDesk$Craft" "wheelCount" "I", Cond.fieldLink RX0 35 "WheelDesk$Craft" "wheelRow" "[LWheelDesk$Wheel;", Cond.fieldLink RX0 76 "WheelDesk$Wheel" "direction" "[I", Cond.fieldLink RX0 79 "WheelDesk$Wheel" "momentum" "I"]
def wsX5_axis : List Cond := .code yX5_axis cX5_axis 3 (some .long) :: ((wsX5_axis_r1 ++ wsX5_axis_r2) ++ wsX50 ++ wsX00 ++ wsX40)
def wsX5_span_r1 : List Cond := [Cond.fieldLink RX5 22 "WheelDesk" "sharing" "LWheelDesk$Sharing;", Cond.fieldLink RX5 10 "WheelDesk" "craft" "LWheelDesk$Craft;", Cond.constant RX5 126 (-2000009), Cond.fieldLink RX5 141 "WheelDesk$Sharing" "determinant" "J", Cond.methodLink RX5 127 yX3_measure, Cond.instanceMethod yX3_measure, Cond.selects RX3 yX3_measure yX3_measure, Cond.initialized RX3, Cond.code yX3_measure cX3_measure 5 none, Cond.fieldLink RX3 11 "WheelDesk$Sharing" "matrix" "[[J", Cond.fieldLink RX3 23 "WheelDesk$Craft" "wheelCount" "I", Cond.fieldLink RX3 29 "WheelDesk$Craft" "wheelRow" "[LWheelDesk$Wheel;", Cond.fieldLink RX3 33 "WheelDesk$Wheel" "failed" "Z", Cond.fieldLink RX3 39 "WheelDesk$Wheel" "direction" "[I", Cond.fieldLink RX3 50 "WheelDesk$Sharing" "determinant" "J", Cond.fieldLink RX3 16 "WheelDesk$Sharing" "cofactor" "[[J", Cond.methodLink RX3 43 yX3_addProducts, Cond.instanceMethod yX3_addProducts, Cond.selects RX3 yX3_addProducts yX3_addProducts, Cond.code yX3_addProducts cX3_addProducts 4 none, Cond.methodLink RX3 47 yX3_findCofactors, Cond.instanceMethod yX3_findCofactors, Cond.selects RX3 yX3_findCofactors yX3_findCofactors, Cond.code yX3_findCofactors cX3_findCofactors 7 none]
def wsX5_span_r2 : List Cond := [Cond.static yX5_axisAfter, Cond.initialized RX5, Cond.code yX5_axisAfter cX5_axisAfter 2 (some .int)]
def wsX5_span : List Cond := .code yX5_span cX5_span 1 (some .long) :: ((wsX5_span_r1 ++ wsX5_span_r2) ++ wsX50 ++ wsX30 ++ wsX00 ++ wsX40)
def wsX5_isTorque : List Cond := .code yX5_isTorque cX5_isTorque 1 (some .boolean) :: ([.constant RX5 110 (-100000), .constant RX5 48 (100000), .methodLink RX5 45 yX5_isWithin, .static yX5_isWithin, .initialized RX5, .code yX5_isWithin cX5_isWithin 3 (some .boolean)])
def wsX5_wish_r1 : List Cond := [Cond.constantLong RX5 111 (-4611686018427387905), Cond.fieldLink RX5 10 "WheelDesk" "craft" "LWheelDesk$Craft;", Cond.fieldLink RX5 59 "WheelDesk$Craft" "wheelRow" "[LWheelDesk$Wheel;", Cond.fieldLink RX5 22 "WheelDesk" "sharing" "LWheelDesk$Sharing;", Cond.constant RX5 126 (-2000009), Cond.fieldLink RX5 73 "WheelDesk$Wheel" "failed" "Z", Cond.methodLink RX5 69 yX5_isWheel, Cond.instanceMethod yX5_isWheel, Cond.selects RX5 yX5_isWheel yX5_isWheel, Cond.initialized RX5, Cond.code yX5_isWheel cX5_isWheel 2 (some .boolean), Cond.fieldLink RX5 50 "WheelDesk$Craft" "wheelCount" "I", Cond.methodLink RX5 45 yX5_isWithin, Cond.static yX5_isWithin, Cond.code yX5_isWithin cX5_isWithin 3 (some .boolean), Cond.methodLink RX5 145 yX5_isTorque, Cond.static yX5_isTorque, Cond.code yX5_isTorque cX5_isTorque 1 (some .boolean), Cond.constant RX5 110 (-100000), Cond.constant RX5 48 (100000), Cond.methodLink RX5 127 yX3_measure, Cond.instanceMethod yX3_measure, Cond.selects RX3 yX3_measure yX3_measure, Cond.initialized RX3]
def wsX5_wish_r2 : List Cond := [Cond.code yX3_measure cX3_measure 5 none, Cond.fieldLink RX3 11 "WheelDesk$Sharing" "matrix" "[[J", Cond.fieldLink RX3 23 "WheelDesk$Craft" "wheelCount" "I", Cond.fieldLink RX3 29 "WheelDesk$Craft" "wheelRow" "[LWheelDesk$Wheel;", Cond.fieldLink RX3 33 "WheelDesk$Wheel" "failed" "Z", Cond.fieldLink RX3 39 "WheelDesk$Wheel" "direction" "[I", Cond.fieldLink RX3 50 "WheelDesk$Sharing" "determinant" "J", Cond.fieldLink RX3 16 "WheelDesk$Sharing" "cofactor" "[[J", Cond.methodLink RX3 43 yX3_addProducts, Cond.instanceMethod yX3_addProducts, Cond.selects RX3 yX3_addProducts yX3_addProducts, Cond.code yX3_addProducts cX3_addProducts 4 none, Cond.methodLink RX3 47 yX3_findCofactors, Cond.instanceMethod yX3_findCofactors, Cond.selects RX3 yX3_findCofactors yX3_findCofactors, Cond.code yX3_findCofactors cX3_findCofactors 7 none, Cond.static yX5_axisAfter, Cond.code yX5_axisAfter cX5_axisAfter 2 (some .int), Cond.methodLink RX5 148 yX3_spans, Cond.instanceMethod yX3_spans, Cond.selects RX3 yX3_spans yX3_spans, Cond.code yX3_spans cX3_spans 1 (some .boolean), Cond.methodLink RX5 151 yX3_aim, Cond.instanceMethod yX3_aim]
def wsX5_wish_r3 : List Cond := [Cond.selects RX3 yX3_aim yX3_aim, Cond.code yX3_aim cX3_aim 8 none, Cond.fieldLink RX3 19 "WheelDesk$Sharing" "aimed" "[J", Cond.methodLink RX5 155 yX3_wishOf, Cond.instanceMethod yX3_wishOf, Cond.selects RX3 yX3_wishOf yX3_wishOf, Cond.code yX3_wishOf cX3_wishOf 5 (some .long), Cond.constantLong RX3 62 (2), Cond.methodLink RX3 58 yX3_spans, Cond.methodLink RX3 64 yJ9_floorDiv_f86c9, Cond.static yJ9_floorDiv_f86c9, Cond.initialized RJ9, Cond.code yJ9_floorDiv_f86c9 cJ9_floorDiv_f86c9 6 (some .long)]
def wsX5_wish : List Cond := .code yX5_wish cX5_wish 6 (some .long) :: ((wsX5_wish_r1 ++ (wsX5_wish_r2 ++ wsX5_wish_r3)) ++ wsX50 ++ wsX00 ++ wsX40 ++ wsX30)
def wsX5_why : List Cond := .code yX5_why cX5_why 2 (some .int) :: ([.constant RX5 49 (-2000001), .fieldLink RX5 10 "WheelDesk" "craft" "LWheelDesk$Craft;", .fieldLink RX5 159 "WheelDesk$Craft" "reasonCount" "I", .fieldLink RX5 162 "WheelDesk$Craft" "reasons" "[I", .constant RX5 126 (-2000009)] ++ wsX50 ++ wsX00)
def wsX5_fullness : List Cond := .code yX5_fullness cX5_fullness 4 (some .float) :: ([.fieldLink RX5 10 "WheelDesk" "craft" "LWheelDesk$Craft;", .fieldLink RX5 50 "WheelDesk$Craft" "wheelCount" "I", .fieldLink RX5 59 "WheelDesk$Craft" "wheelRow" "[LWheelDesk$Wheel;", .methodLink RX5 165 yX4_fullPart, .instanceMethod yX4_fullPart, .selects RX4 yX4_fullPart yX4_fullPart, .initialized RX4, .code yX4_fullPart cX4_fullPart 2 (some .float), .fieldLink RX4 19 "WheelDesk$Wheel" "mostMomentum" "I", .fieldLink RX4 15 "WheelDesk$Wheel" "momentum" "I", .methodLink RX4 51 Lib.Math.abs.name, .static Lib.Math.abs.name, .initialized "java/lang/Math", .code Lib.Math.abs.name Lib.Math.abs.code 1 (some .int)] ++ wsX50 ++ wsX00 ++ wsX40)
def wsX5_arrives_r1 : List Cond := [Cond.constant RX5 44 (1000000), Cond.constant RX5 49 (-2000001), Cond.fieldLink RX5 16 "WheelDesk" "trial" "LWheelDesk$Craft;", Cond.fieldLink RX5 10 "WheelDesk" "craft" "LWheelDesk$Craft;", Cond.fieldLink RX5 22 "WheelDesk" "sharing" "LWheelDesk$Sharing;", Cond.constant RX5 126 (-2000009), Cond.methodLink RX5 45 yX5_isWithin, Cond.static yX5_isWithin, Cond.initialized RX5, Cond.code yX5_isWithin cX5_isWithin 3 (some .boolean), Cond.methodLink RX5 169 yX0_become, Cond.instanceMethod yX0_become, Cond.selects RX0 yX0_become yX0_become, Cond.initialized RX0, Cond.code yX0_become cX0_become 3 none, Cond.fieldLink RX0 47 "WheelDesk$Craft" "now" "I", Cond.fieldLink RX0 9 "WheelDesk$Craft" "settings" "[I", Cond.methodLink RX0 50 arraycopyName, Cond.native arraycopyName, Cond.static arraycopyName, Cond.initialized "java/lang/System", Cond.fieldLink RX0 17 "WheelDesk$Craft" "given" "[[I", Cond.fieldLink RX0 20 "WheelDesk$Craft" "angle" "[J", Cond.fieldLink RX0 24 "WheelDesk$Craft" "momentum" "[J"]
def wsX5_arrives_r2 : List Cond := [Cond.fieldLink RX0 27 "WheelDesk$Craft" "outside" "[J", Cond.fieldLink RX0 30 "WheelDesk$Craft" "wished" "[J", Cond.fieldLink RX0 56 "WheelDesk$Craft" "wheelCount" "I", Cond.fieldLink RX0 35 "WheelDesk$Craft" "wheelRow" "[LWheelDesk$Wheel;", Cond.fieldLink RX0 39 "WheelDesk$Craft" "reasons" "[I", Cond.fieldLink RX0 43 "WheelDesk$Craft" "reasonCount" "I", Cond.methodLink RX0 59 yX4_become, Cond.instanceMethod yX4_become, Cond.selects RX4 yX4_become yX4_become, Cond.initialized RX4, Cond.code yX4_become cX4_become 2 none, Cond.fieldLink RX4 9 "WheelDesk$Wheel" "direction" "[I", Cond.methodLink RX4 32 arraycopyName, Cond.fieldLink RX4 15 "WheelDesk$Wheel" "momentum" "I", Cond.fieldLink RX4 19 "WheelDesk$Wheel" "mostMomentum" "I", Cond.fieldLink RX4 22 "WheelDesk$Wheel" "mostTorque" "I", Cond.fieldLink RX4 25 "WheelDesk$Wheel" "failed" "Z", Cond.fieldLink RX4 29 "WheelDesk$Wheel" "got" "I", Cond.methodLink RX5 127 yX3_measure, Cond.instanceMethod yX3_measure, Cond.selects RX3 yX3_measure yX3_measure, Cond.initialized RX3, Cond.code yX3_measure cX3_measure 5 none, Cond.fieldLink RX3 11 "WheelDesk$Sharing" "matrix" "[[J"]
def wsX5_arrives_r3 : List Cond := [Cond.fieldLink RX3 23 "WheelDesk$Craft" "wheelCount" "I", Cond.fieldLink RX3 29 "WheelDesk$Craft" "wheelRow" "[LWheelDesk$Wheel;", Cond.fieldLink RX3 33 "WheelDesk$Wheel" "failed" "Z", Cond.fieldLink RX3 39 "WheelDesk$Wheel" "direction" "[I", Cond.fieldLink RX3 50 "WheelDesk$Sharing" "determinant" "J", Cond.fieldLink RX3 16 "WheelDesk$Sharing" "cofactor" "[[J", Cond.methodLink RX3 43 yX3_addProducts, Cond.instanceMethod yX3_addProducts, Cond.selects RX3 yX3_addProducts yX3_addProducts, Cond.code yX3_addProducts cX3_addProducts 4 none, Cond.methodLink RX3 47 yX3_findCofactors, Cond.instanceMethod yX3_findCofactors, Cond.selects RX3 yX3_findCofactors yX3_findCofactors, Cond.code yX3_findCofactors cX3_findCofactors 7 none, Cond.static yX5_axisAfter, Cond.code yX5_axisAfter cX5_axisAfter 2 (some .int), Cond.methodLink RX5 172 yX0_isOnTarget, Cond.instanceMethod yX0_isOnTarget, Cond.selects RX0 yX0_isOnTarget yX0_isOnTarget, Cond.code yX0_isOnTarget cX0_isOnTarget 3 (some .boolean), Cond.methodLink RX0 81 Lib.MathLoose.abs_long.x, Cond.static Lib.MathLoose.abs_long.x, Cond.initialized "java/lang/Math", Cond.code Lib.MathLoose.abs_long.x Lib.MathLoose.abs_long.code 2 (some .long)]
def wsX5_arrives_r4 : List Cond := [Cond.methodLink RX0 87 yX0_aside, Cond.instanceMethod yX0_aside, Cond.selects RX0 yX0_aside yX0_aside, Cond.code yX0_aside cX0_aside 2 (some .long), Cond.methodLink RX0 63 yX0_rate, Cond.instanceMethod yX0_rate, Cond.selects RX0 yX0_rate yX0_rate, Cond.code yX0_rate cX0_rate 2 (some .long), Cond.static yX5_quotient, Cond.code yX5_quotient cX5_quotient 4 (some .long), Cond.methodLink RX5 214 yJ9_floorDiv_f86c9, Cond.static yJ9_floorDiv_f86c9, Cond.initialized RJ9, Cond.code yJ9_floorDiv_f86c9 cJ9_floorDiv_f86c9 6 (some .long), Cond.methodLink RX5 131 yX5_passOne, Cond.instanceMethod yX5_passOne, Cond.selects RX5 yX5_passOne yX5_passOne, Cond.code yX5_passOne cX5_passOne 2 none, Cond.fieldLink RX5 121 "WheelDesk$Craft" "now" "I", Cond.fieldLink RX5 29 "WheelDesk" "magnets" "LWheelDesk$Magnets;", Cond.methodLink RX5 219 yX0_findWish, Cond.instanceMethod yX0_findWish, Cond.selects RX0 yX0_findWish yX0_findWish, Cond.code yX0_findWish cX0_findWish 12 none]
def wsX5_arrives_r5 : List Cond := [Cond.constantLong RX0 90 (100), Cond.static yX5_limited, Cond.code yX5_limited cX5_limited 6 (some .long), Cond.methodLink RX5 222 yX3_share, Cond.instanceMethod yX3_share, Cond.selects RX3 yX3_share yX3_share, Cond.code yX3_share cX3_share 3 none, Cond.fieldLink RX3 70 "WheelDesk$Wheel" "got" "I", Cond.fieldLink RX3 79 "WheelDesk$Craft" "wished" "[J", Cond.methodLink RX3 58 yX3_spans, Cond.instanceMethod yX3_spans, Cond.selects RX3 yX3_spans yX3_spans, Cond.code yX3_spans cX3_spans 1 (some .boolean), Cond.methodLink RX3 73 yX0_tellNoSpan, Cond.instanceMethod yX0_tellNoSpan, Cond.selects RX0 yX0_tellNoSpan yX0_tellNoSpan, Cond.code yX0_tellNoSpan cX0_tellNoSpan 2 none, Cond.fieldLink RX0 100 "WheelDesk$Wheel" "failed" "Z", Cond.methodLink RX3 76 yX0_tellMet, Cond.instanceMethod yX0_tellMet, Cond.selects RX0 yX0_tellMet yX0_tellMet, Cond.code yX0_tellMet cX0_tellMet 1 none, Cond.methodLink RX3 82 yX3_aim, Cond.instanceMethod yX3_aim]
def wsX5_arrives_r6 : List Cond := [Cond.selects RX3 yX3_aim yX3_aim, Cond.code yX3_aim cX3_aim 8 none, Cond.fieldLink RX3 19 "WheelDesk$Sharing" "aimed" "[J", Cond.methodLink RX3 86 yX3_give, Cond.instanceMethod yX3_give, Cond.selects RX3 yX3_give yX3_give, Cond.code yX3_give cX3_give 11 none, Cond.fieldLink RX3 101 "WheelDesk$Wheel" "momentum" "I", Cond.fieldLink RX3 104 "WheelDesk$Craft" "momentum" "[J", Cond.methodLink RX3 90 yX3_wishOf, Cond.instanceMethod yX3_wishOf, Cond.selects RX3 yX3_wishOf yX3_wishOf, Cond.code yX3_wishOf cX3_wishOf 5 (some .long), Cond.constantLong RX3 62 (2), Cond.methodLink RX3 64 yJ9_floorDiv_f86c9, Cond.methodLink RX3 94 yX4_allowedByTorque, Cond.instanceMethod yX4_allowedByTorque, Cond.selects RX4 yX4_allowedByTorque yX4_allowedByTorque, Cond.code yX4_allowedByTorque cX4_allowedByTorque 3 (some .long), Cond.methodLink RX3 98 yX4_allowedByMomentum, Cond.instanceMethod yX4_allowedByMomentum, Cond.selects RX4 yX4_allowedByMomentum yX4_allowedByMomentum, Cond.code yX4_allowedByMomentum cX4_allowedByMomentum 7 (some .long), Cond.methodLink RX4 42 Lib.Math.min.name]
def wsX5_arrives_r7 : List Cond := [Cond.static Lib.Math.min.name, Cond.code Lib.Math.min.name Lib.Math.min.code 2 (some .int), Cond.methodLink RX4 48 Lib.Math.max.name, Cond.static Lib.Math.max.name, Cond.code Lib.Math.max.name Lib.Math.max.code 2 (some .int), Cond.methodLink RX3 106 yX0_isMet, Cond.instanceMethod yX0_isMet, Cond.selects RX0 yX0_isMet yX0_isMet, Cond.code yX0_isMet cX0_isMet 1 (some .boolean), Cond.methodLink RX3 109 yX0_tellLimited, Cond.instanceMethod yX0_tellLimited, Cond.selects RX0 yX0_tellLimited yX0_tellLimited, Cond.code yX0_tellLimited cX0_tellLimited 3 none, Cond.methodLink RX5 225 yX2_letGo, Cond.instanceMethod yX2_letGo, Cond.selects RX2 yX2_letGo yX2_letGo, Cond.initialized RX2, Cond.code yX2_letGo cX2_letGo 6 none, Cond.fieldLink RX2 18 "WheelDesk$Craft" "given" "[[I", Cond.fieldLink RX2 24 "WheelDesk$Craft" "settings" "[I", Cond.fieldLink RX2 9 "WheelDesk$Magnets" "held" "[J", Cond.fieldLink RX2 15 "WheelDesk$Magnets" "moment" "[J", Cond.constantLong RX2 36 (1000), Cond.constantLong RX2 46 (100)]
def wsX5_arrives_r8 : List Cond := [Cond.methodLink RX2 28 yX0_wheelMomentum, Cond.instanceMethod yX0_wheelMomentum, Cond.selects RX0 yX0_wheelMomentum yX0_wheelMomentum, Cond.code yX0_wheelMomentum cX0_wheelMomentum 5 (some .long), Cond.fieldLink RX0 76 "WheelDesk$Wheel" "direction" "[I", Cond.fieldLink RX0 79 "WheelDesk$Wheel" "momentum" "I", Cond.methodLink RX2 32 yX2_crossed, Cond.static yX2_crossed, Cond.code yX2_crossed cX2_crossed 5 (some .long), Cond.methodLink RX2 48 yX0_pushFromOutside, Cond.instanceMethod yX0_pushFromOutside, Cond.selects RX0 yX0_pushFromOutside yX0_pushFromOutside, Cond.code yX0_pushFromOutside cX0_pushFromOutside 4 none, Cond.methodLink RX5 228 yX0_disturb, Cond.instanceMethod yX0_disturb, Cond.selects RX0 yX0_disturb yX0_disturb, Cond.code yX0_disturb cX0_disturb 2 none, Cond.methodLink RX0 96 yX0_pushFromOutside, Cond.methodLink RX5 231 yX0_turn, Cond.instanceMethod yX0_turn, Cond.selects RX0 yX0_turn yX0_turn, Cond.code yX0_turn cX0_turn 2 none]
def wsX5_arrives : List Cond := .code yX5_arrives cX5_arrives 3 (some .int) :: ((wsX5_arrives_r1 ++ (wsX5_arrives_r2 ++ (wsX5_arrives_r3 ++ (wsX5_arrives_r4 ++ (wsX5_arrives_r5 ++ (wsX5_arrives_r6 ++ (wsX5_arrives_r7 ++ wsX5_arrives_r8))))))) ++ wsX50 ++ wsX00 ++ wsX40 ++ wsX30 ++ wsX20)
def wsX5_spare_r1 : List Cond := [Cond.fieldLink RX5 10 "WheelDesk" "craft" "LWheelDesk$Craft;", Cond.fieldLink RX5 50 "WheelDesk$Craft" "wheelCount" "I", Cond.fieldLink RX5 22 "WheelDesk" "sharing" "LWheelDesk$Sharing;", Cond.fieldLink RX5 59 "WheelDesk$Craft" "wheelRow" "[LWheelDesk$Wheel;", Cond.fieldLink RX5 73 "WheelDesk$Wheel" "failed" "Z", Cond.methodLink RX5 127 yX3_measure, Cond.instanceMethod yX3_measure, Cond.selects RX3 yX3_measure yX3_measure, Cond.initialized RX3, Cond.code yX3_measure cX3_measure 5 none, Cond.fieldLink RX3 11 "WheelDesk$Sharing" "matrix" "[[J", Cond.fieldLink RX3 23 "WheelDesk$Craft" "wheelCount" "I", Cond.fieldLink RX3 29 "WheelDesk$Craft" "wheelRow" "[LWheelDesk$Wheel;", Cond.fieldLink RX3 33 "WheelDesk$Wheel" "failed" "Z", Cond.fieldLink RX3 39 "WheelDesk$Wheel" "direction" "[I", Cond.fieldLink RX3 50 "WheelDesk$Sharing" "determinant" "J", Cond.fieldLink RX3 16 "WheelDesk$Sharing" "cofactor" "[[J", Cond.methodLink RX3 43 yX3_addProducts, Cond.instanceMethod yX3_addProducts, Cond.selects RX3 yX3_addProducts yX3_addProducts, Cond.code yX3_addProducts cX3_addProducts 4 none, Cond.methodLink RX3 47 yX3_findCofactors, Cond.instanceMethod yX3_findCofactors, Cond.selects RX3 yX3_findCofactors yX3_findCofactors]
def wsX5_spare_r2 : List Cond := [Cond.code yX3_findCofactors cX3_findCofactors 7 none, Cond.static yX5_axisAfter, Cond.initialized RX5, Cond.code yX5_axisAfter cX5_axisAfter 2 (some .int), Cond.methodLink RX5 148 yX3_spans, Cond.instanceMethod yX3_spans, Cond.selects RX3 yX3_spans yX3_spans, Cond.code yX3_spans cX3_spans 1 (some .boolean)]
def wsX5_spare : List Cond := .code yX5_spare cX5_spare 3 (some .int) :: ((wsX5_spare_r1 ++ wsX5_spare_r2) ++ wsX50 ++ wsX00 ++ wsX40 ++ wsX30)
def wsX5_offWithout_r1 : List Cond := [Cond.fieldLink RX5 16 "WheelDesk" "trial" "LWheelDesk$Craft;", Cond.fieldLink RX5 10 "WheelDesk" "craft" "LWheelDesk$Craft;", Cond.fieldLink RX5 59 "WheelDesk$Craft" "wheelRow" "[LWheelDesk$Wheel;", Cond.fieldLink RX5 73 "WheelDesk$Wheel" "failed" "Z", Cond.fieldLink RX5 22 "WheelDesk" "sharing" "LWheelDesk$Sharing;", Cond.constant RX5 126 (-2000009), Cond.methodLink RX5 169 yX0_become, Cond.instanceMethod yX0_become, Cond.selects RX0 yX0_become yX0_become, Cond.initialized RX0, Cond.code yX0_become cX0_become 3 none, Cond.fieldLink RX0 47 "WheelDesk$Craft" "now" "I", Cond.fieldLink RX0 9 "WheelDesk$Craft" "settings" "[I", Cond.methodLink RX0 50 arraycopyName, Cond.native arraycopyName, Cond.static arraycopyName, Cond.initialized "java/lang/System", Cond.fieldLink RX0 17 "WheelDesk$Craft" "given" "[[I", Cond.fieldLink RX0 20 "WheelDesk$Craft" "angle" "[J", Cond.fieldLink RX0 24 "WheelDesk$Craft" "momentum" "[J", Cond.fieldLink RX0 27 "WheelDesk$Craft" "outside" "[J", Cond.fieldLink RX0 30 "WheelDesk$Craft" "wished" "[J", Cond.fieldLink RX0 56 "WheelDesk$Craft" "wheelCount" "I", Cond.fieldLink RX0 35 "WheelDesk$Craft" "wheelRow" "[LWheelDesk$Wheel;"]
def wsX5_offWithout_r2 : List Cond := [Cond.fieldLink RX0 39 "WheelDesk$Craft" "reasons" "[I", Cond.fieldLink RX0 43 "WheelDesk$Craft" "reasonCount" "I", Cond.methodLink RX0 59 yX4_become, Cond.instanceMethod yX4_become, Cond.selects RX4 yX4_become yX4_become, Cond.initialized RX4, Cond.code yX4_become cX4_become 2 none, Cond.fieldLink RX4 9 "WheelDesk$Wheel" "direction" "[I", Cond.methodLink RX4 32 arraycopyName, Cond.fieldLink RX4 15 "WheelDesk$Wheel" "momentum" "I", Cond.fieldLink RX4 19 "WheelDesk$Wheel" "mostMomentum" "I", Cond.fieldLink RX4 22 "WheelDesk$Wheel" "mostTorque" "I", Cond.fieldLink RX4 25 "WheelDesk$Wheel" "failed" "Z", Cond.fieldLink RX4 29 "WheelDesk$Wheel" "got" "I", Cond.methodLink RX5 127 yX3_measure, Cond.instanceMethod yX3_measure, Cond.selects RX3 yX3_measure yX3_measure, Cond.initialized RX3, Cond.code yX3_measure cX3_measure 5 none, Cond.fieldLink RX3 11 "WheelDesk$Sharing" "matrix" "[[J", Cond.fieldLink RX3 23 "WheelDesk$Craft" "wheelCount" "I", Cond.fieldLink RX3 29 "WheelDesk$Craft" "wheelRow" "[LWheelDesk$Wheel;", Cond.fieldLink RX3 33 "WheelDesk$Wheel" "failed" "Z", Cond.fieldLink RX3 39 "WheelDesk$Wheel" "direction" "[I"]
def wsX5_offWithout_r3 : List Cond := [Cond.fieldLink RX3 50 "WheelDesk$Sharing" "determinant" "J", Cond.fieldLink RX3 16 "WheelDesk$Sharing" "cofactor" "[[J", Cond.methodLink RX3 43 yX3_addProducts, Cond.instanceMethod yX3_addProducts, Cond.selects RX3 yX3_addProducts yX3_addProducts, Cond.code yX3_addProducts cX3_addProducts 4 none, Cond.methodLink RX3 47 yX3_findCofactors, Cond.instanceMethod yX3_findCofactors, Cond.selects RX3 yX3_findCofactors yX3_findCofactors, Cond.code yX3_findCofactors cX3_findCofactors 7 none, Cond.static yX5_axisAfter, Cond.initialized RX5, Cond.code yX5_axisAfter cX5_axisAfter 2 (some .int), Cond.methodLink RX5 131 yX5_passOne, Cond.instanceMethod yX5_passOne, Cond.selects RX5 yX5_passOne yX5_passOne, Cond.code yX5_passOne cX5_passOne 2 none, Cond.fieldLink RX5 121 "WheelDesk$Craft" "now" "I", Cond.fieldLink RX5 29 "WheelDesk" "magnets" "LWheelDesk$Magnets;", Cond.methodLink RX5 219 yX0_findWish, Cond.instanceMethod yX0_findWish, Cond.selects RX0 yX0_findWish yX0_findWish, Cond.code yX0_findWish cX0_findWish 12 none, Cond.constantLong RX0 90 (100)]
def wsX5_offWithout_r4 : List Cond := [Cond.static yX5_quotient, Cond.code yX5_quotient cX5_quotient 4 (some .long), Cond.methodLink RX5 214 yJ9_floorDiv_f86c9, Cond.static yJ9_floorDiv_f86c9, Cond.initialized RJ9, Cond.code yJ9_floorDiv_f86c9 cJ9_floorDiv_f86c9 6 (some .long), Cond.static yX5_limited, Cond.code yX5_limited cX5_limited 6 (some .long), Cond.methodLink RX0 63 yX0_rate, Cond.instanceMethod yX0_rate, Cond.selects RX0 yX0_rate yX0_rate, Cond.code yX0_rate cX0_rate 2 (some .long), Cond.methodLink RX5 222 yX3_share, Cond.instanceMethod yX3_share, Cond.selects RX3 yX3_share yX3_share, Cond.code yX3_share cX3_share 3 none, Cond.fieldLink RX3 70 "WheelDesk$Wheel" "got" "I", Cond.fieldLink RX3 79 "WheelDesk$Craft" "wished" "[J", Cond.methodLink RX3 58 yX3_spans, Cond.instanceMethod yX3_spans, Cond.selects RX3 yX3_spans yX3_spans, Cond.code yX3_spans cX3_spans 1 (some .boolean), Cond.methodLink RX3 73 yX0_tellNoSpan, Cond.instanceMethod yX0_tellNoSpan]
def wsX5_offWithout_r5 : List Cond := [Cond.selects RX0 yX0_tellNoSpan yX0_tellNoSpan, Cond.code yX0_tellNoSpan cX0_tellNoSpan 2 none, Cond.fieldLink RX0 100 "WheelDesk$Wheel" "failed" "Z", Cond.methodLink RX3 76 yX0_tellMet, Cond.instanceMethod yX0_tellMet, Cond.selects RX0 yX0_tellMet yX0_tellMet, Cond.code yX0_tellMet cX0_tellMet 1 none, Cond.methodLink RX3 82 yX3_aim, Cond.instanceMethod yX3_aim, Cond.selects RX3 yX3_aim yX3_aim, Cond.code yX3_aim cX3_aim 8 none, Cond.fieldLink RX3 19 "WheelDesk$Sharing" "aimed" "[J", Cond.methodLink RX3 86 yX3_give, Cond.instanceMethod yX3_give, Cond.selects RX3 yX3_give yX3_give, Cond.code yX3_give cX3_give 11 none, Cond.fieldLink RX3 101 "WheelDesk$Wheel" "momentum" "I", Cond.fieldLink RX3 104 "WheelDesk$Craft" "momentum" "[J", Cond.methodLink RX3 90 yX3_wishOf, Cond.instanceMethod yX3_wishOf, Cond.selects RX3 yX3_wishOf yX3_wishOf, Cond.code yX3_wishOf cX3_wishOf 5 (some .long), Cond.constantLong RX3 62 (2), Cond.methodLink RX3 64 yJ9_floorDiv_f86c9]
def wsX5_offWithout_r6 : List Cond := [Cond.methodLink RX3 94 yX4_allowedByTorque, Cond.instanceMethod yX4_allowedByTorque, Cond.selects RX4 yX4_allowedByTorque yX4_allowedByTorque, Cond.code yX4_allowedByTorque cX4_allowedByTorque 3 (some .long), Cond.methodLink RX3 98 yX4_allowedByMomentum, Cond.instanceMethod yX4_allowedByMomentum, Cond.selects RX4 yX4_allowedByMomentum yX4_allowedByMomentum, Cond.code yX4_allowedByMomentum cX4_allowedByMomentum 7 (some .long), Cond.methodLink RX4 42 Lib.Math.min.name, Cond.static Lib.Math.min.name, Cond.initialized "java/lang/Math", Cond.code Lib.Math.min.name Lib.Math.min.code 2 (some .int), Cond.methodLink RX4 48 Lib.Math.max.name, Cond.static Lib.Math.max.name, Cond.code Lib.Math.max.name Lib.Math.max.code 2 (some .int), Cond.methodLink RX3 106 yX0_isMet, Cond.instanceMethod yX0_isMet, Cond.selects RX0 yX0_isMet yX0_isMet, Cond.code yX0_isMet cX0_isMet 1 (some .boolean), Cond.methodLink RX3 109 yX0_tellLimited, Cond.instanceMethod yX0_tellLimited, Cond.selects RX0 yX0_tellLimited yX0_tellLimited, Cond.code yX0_tellLimited cX0_tellLimited 3 none, Cond.methodLink RX5 225 yX2_letGo]
def wsX5_offWithout_r7 : List Cond := [Cond.instanceMethod yX2_letGo, Cond.selects RX2 yX2_letGo yX2_letGo, Cond.initialized RX2, Cond.code yX2_letGo cX2_letGo 6 none, Cond.fieldLink RX2 18 "WheelDesk$Craft" "given" "[[I", Cond.fieldLink RX2 24 "WheelDesk$Craft" "settings" "[I", Cond.fieldLink RX2 9 "WheelDesk$Magnets" "held" "[J", Cond.fieldLink RX2 15 "WheelDesk$Magnets" "moment" "[J", Cond.constantLong RX2 36 (1000), Cond.constantLong RX2 46 (100), Cond.methodLink RX2 28 yX0_wheelMomentum, Cond.instanceMethod yX0_wheelMomentum, Cond.selects RX0 yX0_wheelMomentum yX0_wheelMomentum, Cond.code yX0_wheelMomentum cX0_wheelMomentum 5 (some .long), Cond.fieldLink RX0 76 "WheelDesk$Wheel" "direction" "[I", Cond.fieldLink RX0 79 "WheelDesk$Wheel" "momentum" "I", Cond.methodLink RX2 32 yX2_crossed, Cond.static yX2_crossed, Cond.code yX2_crossed cX2_crossed 5 (some .long), Cond.methodLink RX2 48 yX0_pushFromOutside, Cond.instanceMethod yX0_pushFromOutside, Cond.selects RX0 yX0_pushFromOutside yX0_pushFromOutside, Cond.code yX0_pushFromOutside cX0_pushFromOutside 4 none, Cond.methodLink RX5 228 yX0_disturb]
def wsX5_offWithout_r8 : List Cond := [Cond.instanceMethod yX0_disturb, Cond.selects RX0 yX0_disturb yX0_disturb, Cond.code yX0_disturb cX0_disturb 2 none, Cond.methodLink RX0 96 yX0_pushFromOutside, Cond.methodLink RX5 231 yX0_turn, Cond.instanceMethod yX0_turn, Cond.selects RX0 yX0_turn yX0_turn, Cond.code yX0_turn cX0_turn 2 none, Cond.methodLink RX5 234 yX0_offTarget, Cond.instanceMethod yX0_offTarget, Cond.selects RX0 yX0_offTarget yX0_offTarget, Cond.code yX0_offTarget cX0_offTarget 4 (some .long), Cond.methodLink RX0 87 yX0_aside, Cond.instanceMethod yX0_aside, Cond.selects RX0 yX0_aside yX0_aside, Cond.code yX0_aside cX0_aside 2 (some .long), Cond.methodLink RX0 81 Lib.MathLoose.abs_long.x, Cond.static Lib.MathLoose.abs_long.x, Cond.code Lib.MathLoose.abs_long.x Lib.MathLoose.abs_long.code 2 (some .long)]
def wsX5_offWithout : List Cond := .code yX5_offWithout cX5_offWithout 4 (some .long) :: ((wsX5_offWithout_r1 ++ (wsX5_offWithout_r2 ++ (wsX5_offWithout_r3 ++ (wsX5_offWithout_r4 ++ (wsX5_offWithout_r5 ++ (wsX5_offWithout_r6 ++ (wsX5_offWithout_r7 ++ wsX5_offWithout_r8))))))) ++ wsX50 ++ wsX00 ++ wsX40 ++ wsX30 ++ wsX20)
def wsX5_gravest_r1 : List Cond := [Cond.constant RX5 49 (-2000001), Cond.constant RX5 126 (-2000009), Cond.fieldLink RX5 10 "WheelDesk" "craft" "LWheelDesk$Craft;", Cond.fieldLink RX5 50 "WheelDesk$Craft" "wheelCount" "I", Cond.fieldLink RX5 59 "WheelDesk$Craft" "wheelRow" "[LWheelDesk$Wheel;", Cond.fieldLink RX5 73 "WheelDesk$Wheel" "failed" "Z", Cond.methodLink RX5 45 yX5_isWithin, Cond.static yX5_isWithin, Cond.initialized RX5, Cond.code yX5_isWithin cX5_isWithin 3 (some .boolean), Cond.methodLink RX5 175 yX5_offWithout, Cond.instanceMethod yX5_offWithout, Cond.selects RX5 yX5_offWithout yX5_offWithout, Cond.code yX5_offWithout cX5_offWithout 4 (some .long), Cond.fieldLink RX5 16 "WheelDesk" "trial" "LWheelDesk$Craft;", Cond.fieldLink RX5 22 "WheelDesk" "sharing" "LWheelDesk$Sharing;", Cond.methodLink RX5 169 yX0_become, Cond.instanceMethod yX0_become, Cond.selects RX0 yX0_become yX0_become, Cond.initialized RX0, Cond.code yX0_become cX0_become 3 none, Cond.fieldLink RX0 47 "WheelDesk$Craft" "now" "I", Cond.fieldLink RX0 9 "WheelDesk$Craft" "settings" "[I", Cond.methodLink RX0 50 arraycopyName]
def wsX5_gravest_r2 : List Cond := [Cond.native arraycopyName, Cond.static arraycopyName, Cond.initialized "java/lang/System", Cond.fieldLink RX0 17 "WheelDesk$Craft" "given" "[[I", Cond.fieldLink RX0 20 "WheelDesk$Craft" "angle" "[J", Cond.fieldLink RX0 24 "WheelDesk$Craft" "momentum" "[J", Cond.fieldLink RX0 27 "WheelDesk$Craft" "outside" "[J", Cond.fieldLink RX0 30 "WheelDesk$Craft" "wished" "[J", Cond.fieldLink RX0 56 "WheelDesk$Craft" "wheelCount" "I", Cond.fieldLink RX0 35 "WheelDesk$Craft" "wheelRow" "[LWheelDesk$Wheel;", Cond.fieldLink RX0 39 "WheelDesk$Craft" "reasons" "[I", Cond.fieldLink RX0 43 "WheelDesk$Craft" "reasonCount" "I", Cond.methodLink RX0 59 yX4_become, Cond.instanceMethod yX4_become, Cond.selects RX4 yX4_become yX4_become, Cond.initialized RX4, Cond.code yX4_become cX4_become 2 none, Cond.fieldLink RX4 9 "WheelDesk$Wheel" "direction" "[I", Cond.methodLink RX4 32 arraycopyName, Cond.fieldLink RX4 15 "WheelDesk$Wheel" "momentum" "I", Cond.fieldLink RX4 19 "WheelDesk$Wheel" "mostMomentum" "I", Cond.fieldLink RX4 22 "WheelDesk$Wheel" "mostTorque" "I", Cond.fieldLink RX4 25 "WheelDesk$Wheel" "failed" "Z", Cond.fieldLink RX4 29 "WheelDesk$Wheel" "got" "I"]
def wsX5_gravest_r3 : List Cond := [Cond.methodLink RX5 127 yX3_measure, Cond.instanceMethod yX3_measure, Cond.selects RX3 yX3_measure yX3_measure, Cond.initialized RX3, Cond.code yX3_measure cX3_measure 5 none, Cond.fieldLink RX3 11 "WheelDesk$Sharing" "matrix" "[[J", Cond.fieldLink RX3 23 "WheelDesk$Craft" "wheelCount" "I", Cond.fieldLink RX3 29 "WheelDesk$Craft" "wheelRow" "[LWheelDesk$Wheel;", Cond.fieldLink RX3 33 "WheelDesk$Wheel" "failed" "Z", Cond.fieldLink RX3 39 "WheelDesk$Wheel" "direction" "[I", Cond.fieldLink RX3 50 "WheelDesk$Sharing" "determinant" "J", Cond.fieldLink RX3 16 "WheelDesk$Sharing" "cofactor" "[[J", Cond.methodLink RX3 43 yX3_addProducts, Cond.instanceMethod yX3_addProducts, Cond.selects RX3 yX3_addProducts yX3_addProducts, Cond.code yX3_addProducts cX3_addProducts 4 none, Cond.methodLink RX3 47 yX3_findCofactors, Cond.instanceMethod yX3_findCofactors, Cond.selects RX3 yX3_findCofactors yX3_findCofactors, Cond.code yX3_findCofactors cX3_findCofactors 7 none, Cond.static yX5_axisAfter, Cond.code yX5_axisAfter cX5_axisAfter 2 (some .int), Cond.methodLink RX5 131 yX5_passOne, Cond.instanceMethod yX5_passOne]
def wsX5_gravest_r4 : List Cond := [Cond.selects RX5 yX5_passOne yX5_passOne, Cond.code yX5_passOne cX5_passOne 2 none, Cond.fieldLink RX5 121 "WheelDesk$Craft" "now" "I", Cond.fieldLink RX5 29 "WheelDesk" "magnets" "LWheelDesk$Magnets;", Cond.methodLink RX5 219 yX0_findWish, Cond.instanceMethod yX0_findWish, Cond.selects RX0 yX0_findWish yX0_findWish, Cond.code yX0_findWish cX0_findWish 12 none, Cond.constantLong RX0 90 (100), Cond.static yX5_quotient, Cond.code yX5_quotient cX5_quotient 4 (some .long), Cond.methodLink RX5 214 yJ9_floorDiv_f86c9, Cond.static yJ9_floorDiv_f86c9, Cond.initialized RJ9, Cond.code yJ9_floorDiv_f86c9 cJ9_floorDiv_f86c9 6 (some .long), Cond.static yX5_limited, Cond.code yX5_limited cX5_limited 6 (some .long), Cond.methodLink RX0 63 yX0_rate, Cond.instanceMethod yX0_rate, Cond.selects RX0 yX0_rate yX0_rate, Cond.code yX0_rate cX0_rate 2 (some .long), Cond.methodLink RX5 222 yX3_share, Cond.instanceMethod yX3_share, Cond.selects RX3 yX3_share yX3_share]
def wsX5_gravest_r5 : List Cond := [Cond.code yX3_share cX3_share 3 none, Cond.fieldLink RX3 70 "WheelDesk$Wheel" "got" "I", Cond.fieldLink RX3 79 "WheelDesk$Craft" "wished" "[J", Cond.methodLink RX3 58 yX3_spans, Cond.instanceMethod yX3_spans, Cond.selects RX3 yX3_spans yX3_spans, Cond.code yX3_spans cX3_spans 1 (some .boolean), Cond.methodLink RX3 73 yX0_tellNoSpan, Cond.instanceMethod yX0_tellNoSpan, Cond.selects RX0 yX0_tellNoSpan yX0_tellNoSpan, Cond.code yX0_tellNoSpan cX0_tellNoSpan 2 none, Cond.fieldLink RX0 100 "WheelDesk$Wheel" "failed" "Z", Cond.methodLink RX3 76 yX0_tellMet, Cond.instanceMethod yX0_tellMet, Cond.selects RX0 yX0_tellMet yX0_tellMet, Cond.code yX0_tellMet cX0_tellMet 1 none, Cond.methodLink RX3 82 yX3_aim, Cond.instanceMethod yX3_aim, Cond.selects RX3 yX3_aim yX3_aim, Cond.code yX3_aim cX3_aim 8 none, Cond.fieldLink RX3 19 "WheelDesk$Sharing" "aimed" "[J", Cond.methodLink RX3 86 yX3_give, Cond.instanceMethod yX3_give, Cond.selects RX3 yX3_give yX3_give]
def wsX5_gravest_r6 : List Cond := [Cond.code yX3_give cX3_give 11 none, Cond.fieldLink RX3 101 "WheelDesk$Wheel" "momentum" "I", Cond.fieldLink RX3 104 "WheelDesk$Craft" "momentum" "[J", Cond.methodLink RX3 90 yX3_wishOf, Cond.instanceMethod yX3_wishOf, Cond.selects RX3 yX3_wishOf yX3_wishOf, Cond.code yX3_wishOf cX3_wishOf 5 (some .long), Cond.constantLong RX3 62 (2), Cond.methodLink RX3 64 yJ9_floorDiv_f86c9, Cond.methodLink RX3 94 yX4_allowedByTorque, Cond.instanceMethod yX4_allowedByTorque, Cond.selects RX4 yX4_allowedByTorque yX4_allowedByTorque, Cond.code yX4_allowedByTorque cX4_allowedByTorque 3 (some .long), Cond.methodLink RX3 98 yX4_allowedByMomentum, Cond.instanceMethod yX4_allowedByMomentum, Cond.selects RX4 yX4_allowedByMomentum yX4_allowedByMomentum, Cond.code yX4_allowedByMomentum cX4_allowedByMomentum 7 (some .long), Cond.methodLink RX4 42 Lib.Math.min.name, Cond.static Lib.Math.min.name, Cond.initialized "java/lang/Math", Cond.code Lib.Math.min.name Lib.Math.min.code 2 (some .int), Cond.methodLink RX4 48 Lib.Math.max.name, Cond.static Lib.Math.max.name, Cond.code Lib.Math.max.name Lib.Math.max.code 2 (some .int)]
def wsX5_gravest_r7 : List Cond := [Cond.methodLink RX3 106 yX0_isMet, Cond.instanceMethod yX0_isMet, Cond.selects RX0 yX0_isMet yX0_isMet, Cond.code yX0_isMet cX0_isMet 1 (some .boolean), Cond.methodLink RX3 109 yX0_tellLimited, Cond.instanceMethod yX0_tellLimited, Cond.selects RX0 yX0_tellLimited yX0_tellLimited, Cond.code yX0_tellLimited cX0_tellLimited 3 none, Cond.methodLink RX5 225 yX2_letGo, Cond.instanceMethod yX2_letGo, Cond.selects RX2 yX2_letGo yX2_letGo, Cond.initialized RX2, Cond.code yX2_letGo cX2_letGo 6 none, Cond.fieldLink RX2 18 "WheelDesk$Craft" "given" "[[I", Cond.fieldLink RX2 24 "WheelDesk$Craft" "settings" "[I", Cond.fieldLink RX2 9 "WheelDesk$Magnets" "held" "[J", Cond.fieldLink RX2 15 "WheelDesk$Magnets" "moment" "[J", Cond.constantLong RX2 36 (1000), Cond.constantLong RX2 46 (100), Cond.methodLink RX2 28 yX0_wheelMomentum, Cond.instanceMethod yX0_wheelMomentum, Cond.selects RX0 yX0_wheelMomentum yX0_wheelMomentum, Cond.code yX0_wheelMomentum cX0_wheelMomentum 5 (some .long), Cond.fieldLink RX0 76 "WheelDesk$Wheel" "direction" "[I"]
def wsX5_gravest_r8 : List Cond := [Cond.fieldLink RX0 79 "WheelDesk$Wheel" "momentum" "I", Cond.methodLink RX2 32 yX2_crossed, Cond.static yX2_crossed, Cond.code yX2_crossed cX2_crossed 5 (some .long), Cond.methodLink RX2 48 yX0_pushFromOutside, Cond.instanceMethod yX0_pushFromOutside, Cond.selects RX0 yX0_pushFromOutside yX0_pushFromOutside, Cond.code yX0_pushFromOutside cX0_pushFromOutside 4 none, Cond.methodLink RX5 228 yX0_disturb, Cond.instanceMethod yX0_disturb, Cond.selects RX0 yX0_disturb yX0_disturb, Cond.code yX0_disturb cX0_disturb 2 none, Cond.methodLink RX0 96 yX0_pushFromOutside, Cond.methodLink RX5 231 yX0_turn, Cond.instanceMethod yX0_turn, Cond.selects RX0 yX0_turn yX0_turn, Cond.code yX0_turn cX0_turn 2 none, Cond.methodLink RX5 234 yX0_offTarget, Cond.instanceMethod yX0_offTarget, Cond.selects RX0 yX0_offTarget yX0_offTarget, Cond.code yX0_offTarget cX0_offTarget 4 (some .long), Cond.methodLink RX0 87 yX0_aside, Cond.instanceMethod yX0_aside, Cond.selects RX0 yX0_aside yX0_aside]
def wsX5_gravest_r9 : List Cond := [Cond.code yX0_aside cX0_aside 2 (some .long), Cond.methodLink RX0 81 Lib.MathLoose.abs_long.x, Cond.static Lib.MathLoose.abs_long.x, Cond.code Lib.MathLoose.abs_long.x Lib.MathLoose.abs_long.code 2 (some .long)]
def wsX5_gravest : List Cond := .code yX5_gravest cX5_gravest 8 (some .int) :: ((wsX5_gravest_r1 ++ (wsX5_gravest_r2 ++ (wsX5_gravest_r3 ++ (wsX5_gravest_r4 ++ (wsX5_gravest_r5 ++ (wsX5_gravest_r6 ++ (wsX5_gravest_r7 ++ (wsX5_gravest_r8 ++ wsX5_gravest_r9)))))))) ++ wsX50 ++ wsX00 ++ wsX40 ++ wsX30 ++ wsX20)
def wsX5_undo_r1 : List Cond := [Cond.fieldLink RX5 36 "WheelDesk" "history" "LWheelDesk$History;", Cond.fieldLink RX5 10 "WheelDesk" "craft" "LWheelDesk$Craft;", Cond.methodLink RX5 178 yX1_giveBack, Cond.instanceMethod yX1_giveBack, Cond.selects RX1 yX1_giveBack yX1_giveBack, Cond.initialized RX1, Cond.code yX1_giveBack cX1_giveBack 2 (some .int), Cond.fieldLink RX1 18 "WheelDesk$History" "kept" "I", Cond.constant RX1 29 (-2000009), Cond.fieldLink RX1 11 "WheelDesk$History" "states" "[LWheelDesk$Craft;", Cond.methodLink RX1 25 yX0_become, Cond.instanceMethod yX0_become, Cond.selects RX0 yX0_become yX0_become, Cond.initialized RX0, Cond.code yX0_become cX0_become 3 none, Cond.fieldLink RX0 47 "WheelDesk$Craft" "now" "I", Cond.fieldLink RX0 9 "WheelDesk$Craft" "settings" "[I", Cond.methodLink RX0 50 arraycopyName, Cond.native arraycopyName, Cond.static arraycopyName, Cond.initialized "java/lang/System", Cond.fieldLink RX0 17 "WheelDesk$Craft" "given" "[[I", Cond.fieldLink RX0 20 "WheelDesk$Craft" "angle" "[J", Cond.fieldLink RX0 24 "WheelDesk$Craft" "momentum" "[J"]
def wsX5_undo_r2 : List Cond := [Cond.fieldLink RX0 27 "WheelDesk$Craft" "outside" "[J", Cond.fieldLink RX0 30 "WheelDesk$Craft" "wished" "[J", Cond.fieldLink RX0 56 "WheelDesk$Craft" "wheelCount" "I", Cond.fieldLink RX0 35 "WheelDesk$Craft" "wheelRow" "[LWheelDesk$Wheel;", Cond.fieldLink RX0 39 "WheelDesk$Craft" "reasons" "[I", Cond.fieldLink RX0 43 "WheelDesk$Craft" "reasonCount" "I", Cond.methodLink RX0 59 yX4_become, Cond.instanceMethod yX4_become, Cond.selects RX4 yX4_become yX4_become, Cond.initialized RX4, Cond.code yX4_become cX4_become 2 none, Cond.fieldLink RX4 9 "WheelDesk$Wheel" "direction" "[I", Cond.methodLink RX4 32 arraycopyName, Cond.fieldLink RX4 15 "WheelDesk$Wheel" "momentum" "I", Cond.fieldLink RX4 19 "WheelDesk$Wheel" "mostMomentum" "I", Cond.fieldLink RX4 22 "WheelDesk$Wheel" "mostTorque" "I", Cond.fieldLink RX4 25 "WheelDesk$Wheel" "failed" "Z", Cond.fieldLink RX4 29 "WheelDesk$Wheel" "got" "I"]
def wsX5_undo : List Cond := .code yX5_undo cX5_undo 1 (some .int) :: ((wsX5_undo_r1 ++ wsX5_undo_r2) ++ wsX50 ++ wsX10 ++ wsX00 ++ wsX40)
def wsX5_mixed : List Cond := .code yX5_mixed cX5_mixed 4 (some .long) :: ([.constantLong RX5 212 (31)])
def wsX5_fingerprint_r1 : List Cond := [Cond.constantLong RX5 182 (173), Cond.fieldLink RX5 10 "WheelDesk" "craft" "LWheelDesk$Craft;", Cond.fieldLink RX5 50 "WheelDesk$Craft" "wheelCount" "I", Cond.fieldLink RX5 159 "WheelDesk$Craft" "reasonCount" "I", Cond.methodLink RX5 184 yX5_time, Cond.instanceMethod yX5_time, Cond.selects RX5 yX5_time yX5_time, Cond.initialized RX5, Cond.code yX5_time cX5_time 1 (some .int), Cond.fieldLink RX5 121 "WheelDesk$Craft" "now" "I", Cond.methodLink RX5 188 yX5_mixed, Cond.static yX5_mixed, Cond.code yX5_mixed cX5_mixed 4 (some .long), Cond.constantLong RX5 212 (31), Cond.methodLink RX5 192 yX5_setting, Cond.instanceMethod yX5_setting, Cond.selects RX5 yX5_setting yX5_setting, Cond.code yX5_setting cX5_setting 2 (some .int), Cond.fieldLink RX5 107 "WheelDesk$Craft" "settings" "[I", Cond.constant RX5 49 (-2000001), Cond.methodLink RX5 45 yX5_isWithin, Cond.static yX5_isWithin, Cond.code yX5_isWithin cX5_isWithin 3 (some .boolean), Cond.methodLink RX5 195 yX5_axis]
def wsX5_fingerprint_r2 : List Cond := [Cond.instanceMethod yX5_axis, Cond.selects RX5 yX5_axis yX5_axis, Cond.code yX5_axis cX5_axis 3 (some .long), Cond.constantLong RX5 111 (-4611686018427387905), Cond.methodLink RX5 87 yX5_isAxis, Cond.static yX5_isAxis, Cond.code yX5_isAxis cX5_isAxis 1 (some .boolean), Cond.methodLink RX5 138 yX0_number, Cond.instanceMethod yX0_number, Cond.selects RX0 yX0_number yX0_number, Cond.initialized RX0, Cond.code yX0_number cX0_number 3 (some .long), Cond.fieldLink RX0 20 "WheelDesk$Craft" "angle" "[J", Cond.fieldLink RX0 24 "WheelDesk$Craft" "momentum" "[J", Cond.fieldLink RX0 27 "WheelDesk$Craft" "outside" "[J", Cond.fieldLink RX0 30 "WheelDesk$Craft" "wished" "[J", Cond.fieldLink RX0 17 "WheelDesk$Craft" "given" "[[I", Cond.constantLong RX0 70 (-4611686018427387905), Cond.methodLink RX0 63 yX0_rate, Cond.instanceMethod yX0_rate, Cond.selects RX0 yX0_rate yX0_rate, Cond.code yX0_rate cX0_rate 2 (some .long), Cond.static yX5_quotient, Cond.code yX5_quotient cX5_quotient 4 (some .long)]
def wsX5_fingerprint_r3 : List Cond := [Cond.methodLink RX5 214 yJ9_floorDiv_f86c9, Cond.static yJ9_floorDiv_f86c9, Cond.initialized RJ9, Cond.code yJ9_floorDiv_f86c9 cJ9_floorDiv_f86c9 6 (some .long), Cond.methodLink RX0 67 yX0_wheelMomentum, Cond.instanceMethod yX0_wheelMomentum, Cond.selects RX0 yX0_wheelMomentum yX0_wheelMomentum, Cond.code yX0_wheelMomentum cX0_wheelMomentum 5 (some .long), Cond.fieldLink RX0 56 "WheelDesk$Craft" "wheelCount" "I", Cond.fieldLink RX0 35 "WheelDesk$Craft" "wheelRow" "[LWheelDesk$Wheel;", Cond.fieldLink RX0 76 "WheelDesk$Wheel" "direction" "[I", Cond.fieldLink RX0 79 "WheelDesk$Wheel" "momentum" "I", Cond.methodLink RX5 198 yX5_wheels, Cond.instanceMethod yX5_wheels, Cond.selects RX5 yX5_wheels yX5_wheels, Cond.code yX5_wheels cX5_wheels 1 (some .int), Cond.methodLink RX5 201 yX5_wheel, Cond.instanceMethod yX5_wheel, Cond.selects RX5 yX5_wheel yX5_wheel, Cond.code yX5_wheel cX5_wheel 3 (some .int), Cond.fieldLink RX5 59 "WheelDesk$Craft" "wheelRow" "[LWheelDesk$Wheel;", Cond.methodLink RX5 69 yX5_isWheel, Cond.instanceMethod yX5_isWheel, Cond.selects RX5 yX5_isWheel yX5_isWheel]
def wsX5_fingerprint_r4 : List Cond := [Cond.code yX5_isWheel cX5_isWheel 2 (some .boolean), Cond.methodLink RX5 83 yX4_number, Cond.instanceMethod yX4_number, Cond.selects RX4 yX4_number yX4_number, Cond.initialized RX4, Cond.code yX4_number cX4_number 2 (some .int), Cond.fieldLink RX4 9 "WheelDesk$Wheel" "direction" "[I", Cond.fieldLink RX4 15 "WheelDesk$Wheel" "momentum" "I", Cond.fieldLink RX4 19 "WheelDesk$Wheel" "mostMomentum" "I", Cond.fieldLink RX4 22 "WheelDesk$Wheel" "mostTorque" "I", Cond.fieldLink RX4 25 "WheelDesk$Wheel" "failed" "Z", Cond.fieldLink RX4 29 "WheelDesk$Wheel" "got" "I", Cond.methodLink RX5 205 yX5_span, Cond.instanceMethod yX5_span, Cond.selects RX5 yX5_span yX5_span, Cond.code yX5_span cX5_span 1 (some .long), Cond.fieldLink RX5 22 "WheelDesk" "sharing" "LWheelDesk$Sharing;", Cond.constant RX5 126 (-2000009), Cond.fieldLink RX5 141 "WheelDesk$Sharing" "determinant" "J", Cond.methodLink RX5 127 yX3_measure, Cond.instanceMethod yX3_measure, Cond.selects RX3 yX3_measure yX3_measure, Cond.initialized RX3, Cond.code yX3_measure cX3_measure 5 none]
def wsX5_fingerprint_r5 : List Cond := [Cond.fieldLink RX3 11 "WheelDesk$Sharing" "matrix" "[[J", Cond.fieldLink RX3 23 "WheelDesk$Craft" "wheelCount" "I", Cond.fieldLink RX3 29 "WheelDesk$Craft" "wheelRow" "[LWheelDesk$Wheel;", Cond.fieldLink RX3 33 "WheelDesk$Wheel" "failed" "Z", Cond.fieldLink RX3 39 "WheelDesk$Wheel" "direction" "[I", Cond.fieldLink RX3 50 "WheelDesk$Sharing" "determinant" "J", Cond.fieldLink RX3 16 "WheelDesk$Sharing" "cofactor" "[[J", Cond.methodLink RX3 43 yX3_addProducts, Cond.instanceMethod yX3_addProducts, Cond.selects RX3 yX3_addProducts yX3_addProducts, Cond.code yX3_addProducts cX3_addProducts 4 none, Cond.methodLink RX3 47 yX3_findCofactors, Cond.instanceMethod yX3_findCofactors, Cond.selects RX3 yX3_findCofactors yX3_findCofactors, Cond.code yX3_findCofactors cX3_findCofactors 7 none, Cond.static yX5_axisAfter, Cond.code yX5_axisAfter cX5_axisAfter 2 (some .int), Cond.methodLink RX5 209 yX5_why, Cond.instanceMethod yX5_why, Cond.selects RX5 yX5_why yX5_why, Cond.code yX5_why cX5_why 2 (some .int), Cond.fieldLink RX5 162 "WheelDesk$Craft" "reasons" "[I"]
def wsX5_fingerprint : List Cond := .code yX5_fingerprint cX5_fingerprint 5 (some .long) :: ((wsX5_fingerprint_r1 ++ (wsX5_fingerprint_r2 ++ (wsX5_fingerprint_r3 ++ (wsX5_fingerprint_r4 ++ wsX5_fingerprint_r5)))) ++ wsX50 ++ wsX00 ++ wsX40 ++ wsX30)
def wsJ9_abs_0f7a4 : List Cond := .code yJ9_abs_0f7a4 cJ9_abs_0f7a4 1 (some .int) :: ([])
def wsJ9_abs_067f4 : List Cond := .code yJ9_abs_067f4 cJ9_abs_067f4 2 (some .long) :: ([])
def wsJ9_max_7cf53 : List Cond := .code yJ9_max_7cf53 cJ9_max_7cf53 2 (some .int) :: ([])
def wsJ9_min_7cf53 : List Cond := .code yJ9_min_7cf53 cJ9_min_7cf53 2 (some .int) :: ([])
def wsL_cell : List Cond := .code yL_cell cL_cell 2 (some .int) :: ([.constant RL 7 (763049417)])
def wsL_up : List Cond := .code yL_up cL_up 2 (some .int) :: ([.constant RL 8 (2147483647)])
def wsL_fails_r1 : List Cond := [Cond.constant RL 21 (-2000001), Cond.constant RL 22 (100001), Cond.constant RL 39 (1000001), Cond.constantLong RL 51 (-4611686018427387905), Cond.constant RL 66 (-2000009), Cond.methodLink RL 9 yX5_fingerprint, Cond.instanceMethod yX5_fingerprint, Cond.selects RX5 yX5_fingerprint yX5_fingerprint, Cond.initialized RX5, Cond.code yX5_fingerprint cX5_fingerprint 5 (some .long), Cond.constantLong RX5 182 (173), Cond.fieldLink RX5 10 "WheelDesk" "craft" "LWheelDesk$Craft;", Cond.fieldLink RX5 50 "WheelDesk$Craft" "wheelCount" "I", Cond.fieldLink RX5 159 "WheelDesk$Craft" "reasonCount" "I", Cond.methodLink RX5 184 yX5_time, Cond.instanceMethod yX5_time, Cond.selects RX5 yX5_time yX5_time, Cond.code yX5_time cX5_time 1 (some .int), Cond.fieldLink RX5 121 "WheelDesk$Craft" "now" "I", Cond.methodLink RX5 188 yX5_mixed, Cond.static yX5_mixed, Cond.code yX5_mixed cX5_mixed 4 (some .long), Cond.constantLong RX5 212 (31), Cond.methodLink RX5 192 yX5_setting]
def wsL_fails_r2 : List Cond := [Cond.instanceMethod yX5_setting, Cond.selects RX5 yX5_setting yX5_setting, Cond.code yX5_setting cX5_setting 2 (some .int), Cond.fieldLink RX5 107 "WheelDesk$Craft" "settings" "[I", Cond.constant RX5 49 (-2000001), Cond.methodLink RX5 45 yX5_isWithin, Cond.static yX5_isWithin, Cond.code yX5_isWithin cX5_isWithin 3 (some .boolean), Cond.methodLink RX5 195 yX5_axis, Cond.instanceMethod yX5_axis, Cond.selects RX5 yX5_axis yX5_axis, Cond.code yX5_axis cX5_axis 3 (some .long), Cond.constantLong RX5 111 (-4611686018427387905), Cond.methodLink RX5 87 yX5_isAxis, Cond.static yX5_isAxis, Cond.code yX5_isAxis cX5_isAxis 1 (some .boolean), Cond.methodLink RX5 138 yX0_number, Cond.instanceMethod yX0_number, Cond.selects RX0 yX0_number yX0_number, Cond.initialized RX0, Cond.code yX0_number cX0_number 3 (some .long), Cond.fieldLink RX0 20 "WheelDesk$Craft" "angle" "[J", Cond.fieldLink RX0 24 "WheelDesk$Craft" "momentum" "[J", Cond.fieldLink RX0 27 "WheelDesk$Craft" "outside" "[J"]
def wsL_fails_r3 : List Cond := [Cond.fieldLink RX0 30 "WheelDesk$Craft" "wished" "[J", Cond.fieldLink RX0 17 "WheelDesk$Craft" "given" "[[I", Cond.constantLong RX0 70 (-4611686018427387905), Cond.methodLink RX0 63 yX0_rate, Cond.instanceMethod yX0_rate, Cond.selects RX0 yX0_rate yX0_rate, Cond.code yX0_rate cX0_rate 2 (some .long), Cond.static yX5_quotient, Cond.code yX5_quotient cX5_quotient 4 (some .long), Cond.methodLink RX5 214 yJ9_floorDiv_f86c9, Cond.static yJ9_floorDiv_f86c9, Cond.initialized RJ9, Cond.code yJ9_floorDiv_f86c9 cJ9_floorDiv_f86c9 6 (some .long), Cond.methodLink RX0 67 yX0_wheelMomentum, Cond.instanceMethod yX0_wheelMomentum, Cond.selects RX0 yX0_wheelMomentum yX0_wheelMomentum, Cond.code yX0_wheelMomentum cX0_wheelMomentum 5 (some .long), Cond.fieldLink RX0 56 "WheelDesk$Craft" "wheelCount" "I", Cond.fieldLink RX0 35 "WheelDesk$Craft" "wheelRow" "[LWheelDesk$Wheel;", Cond.fieldLink RX0 76 "WheelDesk$Wheel" "direction" "[I", Cond.fieldLink RX0 79 "WheelDesk$Wheel" "momentum" "I", Cond.methodLink RX5 198 yX5_wheels, Cond.instanceMethod yX5_wheels, Cond.selects RX5 yX5_wheels yX5_wheels]
def wsL_fails_r4 : List Cond := [Cond.code yX5_wheels cX5_wheels 1 (some .int), Cond.methodLink RX5 201 yX5_wheel, Cond.instanceMethod yX5_wheel, Cond.selects RX5 yX5_wheel yX5_wheel, Cond.code yX5_wheel cX5_wheel 3 (some .int), Cond.fieldLink RX5 59 "WheelDesk$Craft" "wheelRow" "[LWheelDesk$Wheel;", Cond.methodLink RX5 69 yX5_isWheel, Cond.instanceMethod yX5_isWheel, Cond.selects RX5 yX5_isWheel yX5_isWheel, Cond.code yX5_isWheel cX5_isWheel 2 (some .boolean), Cond.methodLink RX5 83 yX4_number, Cond.instanceMethod yX4_number, Cond.selects RX4 yX4_number yX4_number, Cond.initialized RX4, Cond.code yX4_number cX4_number 2 (some .int), Cond.fieldLink RX4 9 "WheelDesk$Wheel" "direction" "[I", Cond.fieldLink RX4 15 "WheelDesk$Wheel" "momentum" "I", Cond.fieldLink RX4 19 "WheelDesk$Wheel" "mostMomentum" "I", Cond.fieldLink RX4 22 "WheelDesk$Wheel" "mostTorque" "I", Cond.fieldLink RX4 25 "WheelDesk$Wheel" "failed" "Z", Cond.fieldLink RX4 29 "WheelDesk$Wheel" "got" "I", Cond.methodLink RX5 205 yX5_span, Cond.instanceMethod yX5_span, Cond.selects RX5 yX5_span yX5_span]
def wsL_fails_r5 : List Cond := [Cond.code yX5_span cX5_span 1 (some .long), Cond.fieldLink RX5 22 "WheelDesk" "sharing" "LWheelDesk$Sharing;", Cond.constant RX5 126 (-2000009), Cond.fieldLink RX5 141 "WheelDesk$Sharing" "determinant" "J", Cond.methodLink RX5 127 yX3_measure, Cond.instanceMethod yX3_measure, Cond.selects RX3 yX3_measure yX3_measure, Cond.initialized RX3, Cond.code yX3_measure cX3_measure 5 none, Cond.fieldLink RX3 11 "WheelDesk$Sharing" "matrix" "[[J", Cond.fieldLink RX3 23 "WheelDesk$Craft" "wheelCount" "I", Cond.fieldLink RX3 29 "WheelDesk$Craft" "wheelRow" "[LWheelDesk$Wheel;", Cond.fieldLink RX3 33 "WheelDesk$Wheel" "failed" "Z", Cond.fieldLink RX3 39 "WheelDesk$Wheel" "direction" "[I", Cond.fieldLink RX3 50 "WheelDesk$Sharing" "determinant" "J", Cond.fieldLink RX3 16 "WheelDesk$Sharing" "cofactor" "[[J", Cond.methodLink RX3 43 yX3_addProducts, Cond.instanceMethod yX3_addProducts, Cond.selects RX3 yX3_addProducts yX3_addProducts, Cond.code yX3_addProducts cX3_addProducts 4 none, Cond.methodLink RX3 47 yX3_findCofactors, Cond.instanceMethod yX3_findCofactors, Cond.selects RX3 yX3_findCofactors yX3_findCofactors, Cond.code yX3_findCofactors cX3_findCofactors 7 none]
def wsL_fails_r6 : List Cond := [Cond.static yX5_axisAfter, Cond.code yX5_axisAfter cX5_axisAfter 2 (some .int), Cond.methodLink RX5 209 yX5_why, Cond.instanceMethod yX5_why, Cond.selects RX5 yX5_why yX5_why, Cond.code yX5_why cX5_why 2 (some .int), Cond.fieldLink RX5 162 "WheelDesk$Craft" "reasons" "[I", Cond.methodLink RL 15 yX5_addWheel, Cond.instanceMethod yX5_addWheel, Cond.selects RX5 yX5_addWheel yX5_addWheel, Cond.code yX5_addWheel cX5_addWheel 7 (some .int), Cond.constant RX5 44 (1000000), Cond.constant RX5 48 (100000), Cond.constant RX5 54 (-2000003), Cond.fieldLink RX5 36 "WheelDesk" "history" "LWheelDesk$History;", Cond.methodLink RX5 40 yX5_isDirection, Cond.static yX5_isDirection, Cond.code yX5_isDirection cX5_isDirection 3 (some .boolean), Cond.methodLink RX5 55 yX1_keep, Cond.instanceMethod yX1_keep, Cond.selects RX1 yX1_keep yX1_keep, Cond.initialized RX1, Cond.code yX1_keep cX1_keep 2 none, Cond.fieldLink RX1 18 "WheelDesk$History" "kept" "I"]
def wsL_fails_r7 : List Cond := [Cond.fieldLink RX1 11 "WheelDesk$History" "states" "[LWheelDesk$Craft;", Cond.methodLink RX1 22 yX1_dropOldest, Cond.instanceMethod yX1_dropOldest, Cond.selects RX1 yX1_dropOldest yX1_dropOldest, Cond.code yX1_dropOldest cX1_dropOldest 3 none, Cond.methodLink RX1 25 yX0_become, Cond.instanceMethod yX0_become, Cond.selects RX0 yX0_become yX0_become, Cond.code yX0_become cX0_become 3 none, Cond.fieldLink RX0 47 "WheelDesk$Craft" "now" "I", Cond.fieldLink RX0 9 "WheelDesk$Craft" "settings" "[I", Cond.methodLink RX0 50 arraycopyName, Cond.native arraycopyName, Cond.static arraycopyName, Cond.initialized "java/lang/System", Cond.fieldLink RX0 39 "WheelDesk$Craft" "reasons" "[I", Cond.fieldLink RX0 43 "WheelDesk$Craft" "reasonCount" "I", Cond.methodLink RX0 59 yX4_become, Cond.instanceMethod yX4_become, Cond.selects RX4 yX4_become yX4_become, Cond.code yX4_become cX4_become 2 none, Cond.methodLink RX4 32 arraycopyName, Cond.methodLink RX5 63 yX4_start, Cond.instanceMethod yX4_start]
def wsL_fails_r8 : List Cond := [Cond.selects RX4 yX4_start yX4_start, Cond.code yX4_start cX4_start 6 none, Cond.methodLink RL 23 yX5_fail, Cond.instanceMethod yX5_fail, Cond.selects RX5 yX5_fail yX5_fail, Cond.code yX5_fail cX5_fail 5 (some .int), Cond.fieldLink RX5 73 "WheelDesk$Wheel" "failed" "Z", Cond.methodLink RL 27 yX5_setMost, Cond.instanceMethod yX5_setMost, Cond.selects RX5 yX5_setMost yX5_setMost, Cond.code yX5_setMost cX5_setMost 6 (some .int), Cond.fieldLink RX5 77 "WheelDesk$Wheel" "mostTorque" "I", Cond.fieldLink RX5 80 "WheelDesk$Wheel" "mostMomentum" "I", Cond.methodLink RL 31 yX5_wheel, Cond.methodLink RL 35 yX5_setAxis, Cond.instanceMethod yX5_setAxis, Cond.selects RX5 yX5_setAxis yX5_setAxis, Cond.code yX5_setAxis cX5_setAxis 5 (some .int), Cond.fieldLink RX5 90 "WheelDesk" "LEAST_GIVEN" "[I", Cond.fieldLink RX5 94 "WheelDesk" "GREATEST_GIVEN" "[I", Cond.fieldLink RX5 97 "WheelDesk$Craft" "given" "[[I", Cond.methodLink RL 40 yX5_set, Cond.instanceMethod yX5_set, Cond.selects RX5 yX5_set yX5_set]
def wsL_fails_r9 : List Cond := [Cond.code yX5_set cX5_set 4 (some .int), Cond.fieldLink RX5 101 "WheelDesk" "LEAST_SETTING" "[I", Cond.fieldLink RX5 104 "WheelDesk" "GREATEST_SETTING" "[I", Cond.methodLink RL 43 yX5_setting, Cond.methodLink RL 47 yX5_strike, Cond.instanceMethod yX5_strike, Cond.selects RX5 yX5_strike yX5_strike, Cond.code yX5_strike cX5_strike 3 (some .long), Cond.constant RX5 110 (-100000), Cond.methodLink RX5 113 yX0_pushFromOutside, Cond.instanceMethod yX0_pushFromOutside, Cond.selects RX0 yX0_pushFromOutside yX0_pushFromOutside, Cond.code yX0_pushFromOutside cX0_pushFromOutside 4 none, Cond.methodLink RX5 117 yX0_rate, Cond.methodLink RL 53 yX5_tick, Cond.instanceMethod yX5_tick, Cond.selects RX5 yX5_tick yX5_tick, Cond.code yX5_tick cX5_tick 4 (some .int), Cond.constant RX5 124 (50000), Cond.constant RX5 125 (-2000002), Cond.methodLink RX5 131 yX5_passOne, Cond.instanceMethod yX5_passOne, Cond.selects RX5 yX5_passOne yX5_passOne, Cond.code yX5_passOne cX5_passOne 2 none]
def wsL_fails_r10 : List Cond := [Cond.fieldLink RX5 29 "WheelDesk" "magnets" "LWheelDesk$Magnets;", Cond.methodLink RX5 219 yX0_findWish, Cond.instanceMethod yX0_findWish, Cond.selects RX0 yX0_findWish yX0_findWish, Cond.code yX0_findWish cX0_findWish 12 none, Cond.constantLong RX0 90 (100), Cond.static yX5_limited, Cond.code yX5_limited cX5_limited 6 (some .long), Cond.methodLink RX5 222 yX3_share, Cond.instanceMethod yX3_share, Cond.selects RX3 yX3_share yX3_share, Cond.code yX3_share cX3_share 3 none, Cond.fieldLink RX3 70 "WheelDesk$Wheel" "got" "I", Cond.fieldLink RX3 79 "WheelDesk$Craft" "wished" "[J", Cond.methodLink RX3 58 yX3_spans, Cond.instanceMethod yX3_spans, Cond.selects RX3 yX3_spans yX3_spans, Cond.code yX3_spans cX3_spans 1 (some .boolean), Cond.methodLink RX3 73 yX0_tellNoSpan, Cond.instanceMethod yX0_tellNoSpan, Cond.selects RX0 yX0_tellNoSpan yX0_tellNoSpan, Cond.code yX0_tellNoSpan cX0_tellNoSpan 2 none, Cond.fieldLink RX0 100 "WheelDesk$Wheel" "failed" "Z", Cond.methodLink RX3 76 yX0_tellMet]
def wsL_fails_r11 : List Cond := [Cond.instanceMethod yX0_tellMet, Cond.selects RX0 yX0_tellMet yX0_tellMet, Cond.code yX0_tellMet cX0_tellMet 1 none, Cond.methodLink RX3 82 yX3_aim, Cond.instanceMethod yX3_aim, Cond.selects RX3 yX3_aim yX3_aim, Cond.code yX3_aim cX3_aim 8 none, Cond.fieldLink RX3 19 "WheelDesk$Sharing" "aimed" "[J", Cond.methodLink RX3 86 yX3_give, Cond.instanceMethod yX3_give, Cond.selects RX3 yX3_give yX3_give, Cond.code yX3_give cX3_give 11 none, Cond.fieldLink RX3 101 "WheelDesk$Wheel" "momentum" "I", Cond.fieldLink RX3 104 "WheelDesk$Craft" "momentum" "[J", Cond.methodLink RX3 90 yX3_wishOf, Cond.instanceMethod yX3_wishOf, Cond.selects RX3 yX3_wishOf yX3_wishOf, Cond.code yX3_wishOf cX3_wishOf 5 (some .long), Cond.constantLong RX3 62 (2), Cond.methodLink RX3 64 yJ9_floorDiv_f86c9, Cond.methodLink RX3 94 yX4_allowedByTorque, Cond.instanceMethod yX4_allowedByTorque, Cond.selects RX4 yX4_allowedByTorque yX4_allowedByTorque, Cond.code yX4_allowedByTorque cX4_allowedByTorque 3 (some .long)]
def wsL_fails_r12 : List Cond := [Cond.methodLink RX3 98 yX4_allowedByMomentum, Cond.instanceMethod yX4_allowedByMomentum, Cond.selects RX4 yX4_allowedByMomentum yX4_allowedByMomentum, Cond.code yX4_allowedByMomentum cX4_allowedByMomentum 7 (some .long), Cond.methodLink RX4 42 Lib.Math.min.name, Cond.static Lib.Math.min.name, Cond.initialized "java/lang/Math", Cond.code Lib.Math.min.name Lib.Math.min.code 2 (some .int), Cond.methodLink RX4 48 Lib.Math.max.name, Cond.static Lib.Math.max.name, Cond.code Lib.Math.max.name Lib.Math.max.code 2 (some .int), Cond.methodLink RX3 106 yX0_isMet, Cond.instanceMethod yX0_isMet, Cond.selects RX0 yX0_isMet yX0_isMet, Cond.code yX0_isMet cX0_isMet 1 (some .boolean), Cond.methodLink RX3 109 yX0_tellLimited, Cond.instanceMethod yX0_tellLimited, Cond.selects RX0 yX0_tellLimited yX0_tellLimited, Cond.code yX0_tellLimited cX0_tellLimited 3 none, Cond.methodLink RX5 225 yX2_letGo, Cond.instanceMethod yX2_letGo, Cond.selects RX2 yX2_letGo yX2_letGo, Cond.initialized RX2, Cond.code yX2_letGo cX2_letGo 6 none]
def wsL_fails_r13 : List Cond := [Cond.fieldLink RX2 18 "WheelDesk$Craft" "given" "[[I", Cond.fieldLink RX2 24 "WheelDesk$Craft" "settings" "[I", Cond.fieldLink RX2 9 "WheelDesk$Magnets" "held" "[J", Cond.fieldLink RX2 15 "WheelDesk$Magnets" "moment" "[J", Cond.constantLong RX2 36 (1000), Cond.constantLong RX2 46 (100), Cond.methodLink RX2 28 yX0_wheelMomentum, Cond.methodLink RX2 32 yX2_crossed, Cond.static yX2_crossed, Cond.code yX2_crossed cX2_crossed 5 (some .long), Cond.methodLink RX2 48 yX0_pushFromOutside, Cond.methodLink RX5 228 yX0_disturb, Cond.instanceMethod yX0_disturb, Cond.selects RX0 yX0_disturb yX0_disturb, Cond.code yX0_disturb cX0_disturb 2 none, Cond.methodLink RX0 96 yX0_pushFromOutside, Cond.methodLink RX5 231 yX0_turn, Cond.instanceMethod yX0_turn, Cond.selects RX0 yX0_turn yX0_turn, Cond.code yX0_turn cX0_turn 2 none, Cond.methodLink RX5 134 yX0_isMet, Cond.methodLink RL 56 yX5_axis, Cond.methodLink RL 59 yX5_wish, Cond.instanceMethod yX5_wish]
def wsL_fails_r14 : List Cond := [Cond.selects RX5 yX5_wish yX5_wish, Cond.code yX5_wish cX5_wish 6 (some .long), Cond.methodLink RX5 145 yX5_isTorque, Cond.static yX5_isTorque, Cond.code yX5_isTorque cX5_isTorque 1 (some .boolean), Cond.methodLink RX5 148 yX3_spans, Cond.methodLink RX5 151 yX3_aim, Cond.methodLink RX5 155 yX3_wishOf, Cond.methodLink RL 63 yX5_why, Cond.methodLink RL 67 yX5_arrives, Cond.instanceMethod yX5_arrives, Cond.selects RX5 yX5_arrives yX5_arrives, Cond.code yX5_arrives cX5_arrives 3 (some .int), Cond.fieldLink RX5 16 "WheelDesk" "trial" "LWheelDesk$Craft;", Cond.methodLink RX5 169 yX0_become, Cond.methodLink RX5 172 yX0_isOnTarget, Cond.instanceMethod yX0_isOnTarget, Cond.selects RX0 yX0_isOnTarget yX0_isOnTarget, Cond.code yX0_isOnTarget cX0_isOnTarget 3 (some .boolean), Cond.methodLink RX0 81 Lib.MathLoose.abs_long.x, Cond.static Lib.MathLoose.abs_long.x, Cond.code Lib.MathLoose.abs_long.x Lib.MathLoose.abs_long.code 2 (some .long), Cond.methodLink RX0 87 yX0_aside, Cond.instanceMethod yX0_aside]
def wsL_fails_r15 : List Cond := [Cond.selects RX0 yX0_aside yX0_aside, Cond.code yX0_aside cX0_aside 2 (some .long), Cond.methodLink RL 70 yX5_gravest, Cond.instanceMethod yX5_gravest, Cond.selects RX5 yX5_gravest yX5_gravest, Cond.code yX5_gravest cX5_gravest 8 (some .int), Cond.methodLink RX5 175 yX5_offWithout, Cond.instanceMethod yX5_offWithout, Cond.selects RX5 yX5_offWithout yX5_offWithout, Cond.code yX5_offWithout cX5_offWithout 4 (some .long), Cond.methodLink RX5 234 yX0_offTarget, Cond.instanceMethod yX0_offTarget, Cond.selects RX0 yX0_offTarget yX0_offTarget, Cond.code yX0_offTarget cX0_offTarget 4 (some .long)]
def wsL_fails : List Cond := .code yL_fails cL_fails 5 (some .boolean) :: ((wsL_fails_r1 ++ (wsL_fails_r2 ++ (wsL_fails_r3 ++ (wsL_fails_r4 ++ (wsL_fails_r5 ++ (wsL_fails_r6 ++ (wsL_fails_r7 ++ (wsL_fails_r8 ++ (wsL_fails_r9 ++ (wsL_fails_r10 ++ (wsL_fails_r11 ++ (wsL_fails_r12 ++ (wsL_fails_r13 ++ (wsL_fails_r14 ++ wsL_fails_r15)))))))))))))) ++ wsX50 ++ wsX00 ++ wsX40 ++ wsX30 ++ wsX10 ++ wsX20)
def wsL_keeps_r1 : List Cond := [Cond.methodLink RL 56 yX5_axis, Cond.instanceMethod yX5_axis, Cond.selects RX5 yX5_axis yX5_axis, Cond.initialized RX5, Cond.code yX5_axis cX5_axis 3 (some .long), Cond.constantLong RX5 111 (-4611686018427387905), Cond.fieldLink RX5 10 "WheelDesk" "craft" "LWheelDesk$Craft;", Cond.methodLink RX5 87 yX5_isAxis, Cond.static yX5_isAxis, Cond.code yX5_isAxis cX5_isAxis 1 (some .boolean), Cond.methodLink RX5 45 yX5_isWithin, Cond.static yX5_isWithin, Cond.code yX5_isWithin cX5_isWithin 3 (some .boolean), Cond.methodLink RX5 138 yX0_number, Cond.instanceMethod yX0_number, Cond.selects RX0 yX0_number yX0_number, Cond.initialized RX0, Cond.code yX0_number cX0_number 3 (some .long), Cond.fieldLink RX0 20 "WheelDesk$Craft" "angle" "[J", Cond.fieldLink RX0 24 "WheelDesk$Craft" "momentum" "[J", Cond.fieldLink RX0 27 "WheelDesk$Craft" "outside" "[J", Cond.fieldLink RX0 30 "WheelDesk$Craft" "wished" "[J", Cond.fieldLink RX0 17 "WheelDesk$Craft" "given" "[[I", Cond.constantLong RX0 70 (-4611686018427387905)]
def wsL_keeps_r2 : List Cond := [Cond.methodLink RX0 63 yX0_rate, Cond.instanceMethod yX0_rate, Cond.selects RX0 yX0_rate yX0_rate, Cond.code yX0_rate cX0_rate 2 (some .long), Cond.static yX5_quotient, Cond.code yX5_quotient cX5_quotient 4 (some .long), Cond.methodLink RX5 214 yJ9_floorDiv_f86c9, Cond.static yJ9_floorDiv_f86c9, Cond.initialized RJ9, Cond.code yJ9_floorDiv_f86c9 cJ9_floorDiv_f86c9 6 (some .long), Cond.methodLink RX0 67 yX0_wheelMomentum, Cond.instanceMethod yX0_wheelMomentum, Cond.selects RX0 yX0_wheelMomentum yX0_wheelMomentum, Cond.code yX0_wheelMomentum cX0_wheelMomentum 5 (some .long), Cond.fieldLink RX0 56 "WheelDesk$Craft" "wheelCount" "I", Cond.fieldLink RX0 35 "WheelDesk$Craft" "wheelRow" "[LWheelDesk$Wheel;", Cond.fieldLink RX0 76 "WheelDesk$Wheel" "direction" "[I", Cond.fieldLink RX0 79 "WheelDesk$Wheel" "momentum" "I", Cond.methodLink RL 31 yX5_wheel, Cond.instanceMethod yX5_wheel, Cond.selects RX5 yX5_wheel yX5_wheel, Cond.code yX5_wheel cX5_wheel 3 (some .int), Cond.constant RX5 49 (-2000001), Cond.fieldLink RX5 59 "WheelDesk$Craft" "wheelRow" "[LWheelDesk$Wheel;"]
def wsL_keeps_r3 : List Cond := [Cond.methodLink RX5 69 yX5_isWheel, Cond.instanceMethod yX5_isWheel, Cond.selects RX5 yX5_isWheel yX5_isWheel, Cond.code yX5_isWheel cX5_isWheel 2 (some .boolean), Cond.fieldLink RX5 50 "WheelDesk$Craft" "wheelCount" "I", Cond.methodLink RX5 83 yX4_number, Cond.instanceMethod yX4_number, Cond.selects RX4 yX4_number yX4_number, Cond.initialized RX4, Cond.code yX4_number cX4_number 2 (some .int), Cond.fieldLink RX4 9 "WheelDesk$Wheel" "direction" "[I", Cond.fieldLink RX4 15 "WheelDesk$Wheel" "momentum" "I", Cond.fieldLink RX4 19 "WheelDesk$Wheel" "mostMomentum" "I", Cond.fieldLink RX4 22 "WheelDesk$Wheel" "mostTorque" "I", Cond.fieldLink RX4 25 "WheelDesk$Wheel" "failed" "Z", Cond.fieldLink RX4 29 "WheelDesk$Wheel" "got" "I"]
def wsL_keeps : List Cond := .code yL_keeps cL_keeps 9 (some .boolean) :: ((wsL_keeps_r1 ++ (wsL_keeps_r2 ++ wsL_keeps_r3)) ++ wsX50 ++ wsX00 ++ wsX40)
def wsL_reasons : List Cond := .code yL_reasons cL_reasons 5 (some .boolean) :: ([.constant RL 66 (-2000009), .methodLink RL 63 yX5_why, .instanceMethod yX5_why, .selects RX5 yX5_why yX5_why, .initialized RX5, .code yX5_why cX5_why 2 (some .int), .constant RX5 49 (-2000001), .fieldLink RX5 10 "WheelDesk" "craft" "LWheelDesk$Craft;", .fieldLink RX5 159 "WheelDesk$Craft" "reasonCount" "I", .fieldLink RX5 162 "WheelDesk$Craft" "reasons" "[I", .constant RX5 126 (-2000009)] ++ wsX50 ++ wsX00)
def wsL_size : List Cond := .code yL_size cL_size 2 (some .long) :: ([])
def wsL_wishes_r1 : List Cond := [Cond.arrayClass .long, Cond.constantLong RL 51 (-4611686018427387905), Cond.methodLink RL 59 yX5_wish, Cond.instanceMethod yX5_wish, Cond.selects RX5 yX5_wish yX5_wish, Cond.initialized RX5, Cond.code yX5_wish cX5_wish 6 (some .long), Cond.constantLong RX5 111 (-4611686018427387905), Cond.fieldLink RX5 10 "WheelDesk" "craft" "LWheelDesk$Craft;", Cond.fieldLink RX5 59 "WheelDesk$Craft" "wheelRow" "[LWheelDesk$Wheel;", Cond.fieldLink RX5 22 "WheelDesk" "sharing" "LWheelDesk$Sharing;", Cond.constant RX5 126 (-2000009), Cond.fieldLink RX5 73 "WheelDesk$Wheel" "failed" "Z", Cond.methodLink RX5 69 yX5_isWheel, Cond.instanceMethod yX5_isWheel, Cond.selects RX5 yX5_isWheel yX5_isWheel, Cond.code yX5_isWheel cX5_isWheel 2 (some .boolean), Cond.fieldLink RX5 50 "WheelDesk$Craft" "wheelCount" "I", Cond.methodLink RX5 45 yX5_isWithin, Cond.static yX5_isWithin, Cond.code yX5_isWithin cX5_isWithin 3 (some .boolean), Cond.methodLink RX5 145 yX5_isTorque, Cond.static yX5_isTorque, Cond.code yX5_isTorque cX5_isTorque 1 (some .boolean)]
def wsL_wishes_r2 : List Cond := [Cond.constant RX5 110 (-100000), Cond.constant RX5 48 (100000), Cond.methodLink RX5 127 yX3_measure, Cond.instanceMethod yX3_measure, Cond.selects RX3 yX3_measure yX3_measure, Cond.initialized RX3, Cond.code yX3_measure cX3_measure 5 none, Cond.fieldLink RX3 11 "WheelDesk$Sharing" "matrix" "[[J", Cond.fieldLink RX3 23 "WheelDesk$Craft" "wheelCount" "I", Cond.fieldLink RX3 29 "WheelDesk$Craft" "wheelRow" "[LWheelDesk$Wheel;", Cond.fieldLink RX3 33 "WheelDesk$Wheel" "failed" "Z", Cond.fieldLink RX3 39 "WheelDesk$Wheel" "direction" "[I", Cond.fieldLink RX3 50 "WheelDesk$Sharing" "determinant" "J", Cond.fieldLink RX3 16 "WheelDesk$Sharing" "cofactor" "[[J", Cond.methodLink RX3 43 yX3_addProducts, Cond.instanceMethod yX3_addProducts, Cond.selects RX3 yX3_addProducts yX3_addProducts, Cond.code yX3_addProducts cX3_addProducts 4 none, Cond.methodLink RX3 47 yX3_findCofactors, Cond.instanceMethod yX3_findCofactors, Cond.selects RX3 yX3_findCofactors yX3_findCofactors, Cond.code yX3_findCofactors cX3_findCofactors 7 none, Cond.static yX5_axisAfter, Cond.code yX5_axisAfter cX5_axisAfter 2 (some .int)]
def wsL_wishes_r3 : List Cond := [Cond.methodLink RX5 148 yX3_spans, Cond.instanceMethod yX3_spans, Cond.selects RX3 yX3_spans yX3_spans, Cond.code yX3_spans cX3_spans 1 (some .boolean), Cond.methodLink RX5 151 yX3_aim, Cond.instanceMethod yX3_aim, Cond.selects RX3 yX3_aim yX3_aim, Cond.code yX3_aim cX3_aim 8 none, Cond.fieldLink RX3 19 "WheelDesk$Sharing" "aimed" "[J", Cond.methodLink RX5 155 yX3_wishOf, Cond.instanceMethod yX3_wishOf, Cond.selects RX3 yX3_wishOf yX3_wishOf, Cond.code yX3_wishOf cX3_wishOf 5 (some .long), Cond.constantLong RX3 62 (2), Cond.methodLink RX3 58 yX3_spans, Cond.methodLink RX3 64 yJ9_floorDiv_f86c9, Cond.static yJ9_floorDiv_f86c9, Cond.initialized RJ9, Cond.code yJ9_floorDiv_f86c9 cJ9_floorDiv_f86c9 6 (some .long), Cond.methodLink RL 31 yX5_wheel, Cond.instanceMethod yX5_wheel, Cond.selects RX5 yX5_wheel yX5_wheel, Cond.code yX5_wheel cX5_wheel 3 (some .int), Cond.constant RX5 49 (-2000001)]
def wsL_wishes_r4 : List Cond := [Cond.methodLink RX5 83 yX4_number, Cond.instanceMethod yX4_number, Cond.selects RX4 yX4_number yX4_number, Cond.initialized RX4, Cond.code yX4_number cX4_number 2 (some .int), Cond.fieldLink RX4 9 "WheelDesk$Wheel" "direction" "[I", Cond.fieldLink RX4 15 "WheelDesk$Wheel" "momentum" "I", Cond.fieldLink RX4 19 "WheelDesk$Wheel" "mostMomentum" "I", Cond.fieldLink RX4 22 "WheelDesk$Wheel" "mostTorque" "I", Cond.fieldLink RX4 25 "WheelDesk$Wheel" "failed" "Z", Cond.fieldLink RX4 29 "WheelDesk$Wheel" "got" "I", Cond.methodLink RL 73 yX5_span, Cond.instanceMethod yX5_span, Cond.selects RX5 yX5_span yX5_span, Cond.code yX5_span cX5_span 1 (some .long), Cond.fieldLink RX5 141 "WheelDesk$Sharing" "determinant" "J", Cond.methodLink RL 76 yL_size, Cond.static yL_size, Cond.initialized RL, Cond.code yL_size cL_size 2 (some .long), Cond.methodLink RL 80 yX5_spare, Cond.instanceMethod yX5_spare, Cond.selects RX5 yX5_spare yX5_spare, Cond.code yX5_spare cX5_spare 3 (some .int)]
def wsL_wishes : List Cond := .code yL_wishes cL_wishes 12 (some .boolean) :: ((wsL_wishes_r1 ++ (wsL_wishes_r2 ++ (wsL_wishes_r3 ++ wsL_wishes_r4))) ++ wsX50 ++ wsX00 ++ wsX40 ++ wsX30)
def wsL_ticks_r1 : List Cond := [Cond.constant RL 66 (-2000009), Cond.methodLink RL 9 yX5_fingerprint, Cond.instanceMethod yX5_fingerprint, Cond.selects RX5 yX5_fingerprint yX5_fingerprint, Cond.initialized RX5, Cond.code yX5_fingerprint cX5_fingerprint 5 (some .long), Cond.constantLong RX5 182 (173), Cond.fieldLink RX5 10 "WheelDesk" "craft" "LWheelDesk$Craft;", Cond.fieldLink RX5 50 "WheelDesk$Craft" "wheelCount" "I", Cond.fieldLink RX5 159 "WheelDesk$Craft" "reasonCount" "I", Cond.methodLink RX5 184 yX5_time, Cond.instanceMethod yX5_time, Cond.selects RX5 yX5_time yX5_time, Cond.code yX5_time cX5_time 1 (some .int), Cond.fieldLink RX5 121 "WheelDesk$Craft" "now" "I", Cond.methodLink RX5 188 yX5_mixed, Cond.static yX5_mixed, Cond.code yX5_mixed cX5_mixed 4 (some .long), Cond.constantLong RX5 212 (31), Cond.methodLink RX5 192 yX5_setting, Cond.instanceMethod yX5_setting, Cond.selects RX5 yX5_setting yX5_setting, Cond.code yX5_setting cX5_setting 2 (some .int), Cond.fieldLink RX5 107 "WheelDesk$Craft" "settings" "[I"]
def wsL_ticks_r2 : List Cond := [Cond.constant RX5 49 (-2000001), Cond.methodLink RX5 45 yX5_isWithin, Cond.static yX5_isWithin, Cond.code yX5_isWithin cX5_isWithin 3 (some .boolean), Cond.methodLink RX5 195 yX5_axis, Cond.instanceMethod yX5_axis, Cond.selects RX5 yX5_axis yX5_axis, Cond.code yX5_axis cX5_axis 3 (some .long), Cond.constantLong RX5 111 (-4611686018427387905), Cond.methodLink RX5 87 yX5_isAxis, Cond.static yX5_isAxis, Cond.code yX5_isAxis cX5_isAxis 1 (some .boolean), Cond.methodLink RX5 138 yX0_number, Cond.instanceMethod yX0_number, Cond.selects RX0 yX0_number yX0_number, Cond.initialized RX0, Cond.code yX0_number cX0_number 3 (some .long), Cond.fieldLink RX0 20 "WheelDesk$Craft" "angle" "[J", Cond.fieldLink RX0 24 "WheelDesk$Craft" "momentum" "[J", Cond.fieldLink RX0 27 "WheelDesk$Craft" "outside" "[J", Cond.fieldLink RX0 30 "WheelDesk$Craft" "wished" "[J", Cond.fieldLink RX0 17 "WheelDesk$Craft" "given" "[[I", Cond.constantLong RX0 70 (-4611686018427387905), Cond.methodLink RX0 63 yX0_rate]
def wsL_ticks_r3 : List Cond := [Cond.instanceMethod yX0_rate, Cond.selects RX0 yX0_rate yX0_rate, Cond.code yX0_rate cX0_rate 2 (some .long), Cond.static yX5_quotient, Cond.code yX5_quotient cX5_quotient 4 (some .long), Cond.methodLink RX5 214 yJ9_floorDiv_f86c9, Cond.static yJ9_floorDiv_f86c9, Cond.initialized RJ9, Cond.code yJ9_floorDiv_f86c9 cJ9_floorDiv_f86c9 6 (some .long), Cond.methodLink RX0 67 yX0_wheelMomentum, Cond.instanceMethod yX0_wheelMomentum, Cond.selects RX0 yX0_wheelMomentum yX0_wheelMomentum, Cond.code yX0_wheelMomentum cX0_wheelMomentum 5 (some .long), Cond.fieldLink RX0 56 "WheelDesk$Craft" "wheelCount" "I", Cond.fieldLink RX0 35 "WheelDesk$Craft" "wheelRow" "[LWheelDesk$Wheel;", Cond.fieldLink RX0 76 "WheelDesk$Wheel" "direction" "[I", Cond.fieldLink RX0 79 "WheelDesk$Wheel" "momentum" "I", Cond.methodLink RX5 198 yX5_wheels, Cond.instanceMethod yX5_wheels, Cond.selects RX5 yX5_wheels yX5_wheels, Cond.code yX5_wheels cX5_wheels 1 (some .int), Cond.methodLink RX5 201 yX5_wheel, Cond.instanceMethod yX5_wheel, Cond.selects RX5 yX5_wheel yX5_wheel]
def wsL_ticks_r4 : List Cond := [Cond.code yX5_wheel cX5_wheel 3 (some .int), Cond.fieldLink RX5 59 "WheelDesk$Craft" "wheelRow" "[LWheelDesk$Wheel;", Cond.methodLink RX5 69 yX5_isWheel, Cond.instanceMethod yX5_isWheel, Cond.selects RX5 yX5_isWheel yX5_isWheel, Cond.code yX5_isWheel cX5_isWheel 2 (some .boolean), Cond.methodLink RX5 83 yX4_number, Cond.instanceMethod yX4_number, Cond.selects RX4 yX4_number yX4_number, Cond.initialized RX4, Cond.code yX4_number cX4_number 2 (some .int), Cond.fieldLink RX4 9 "WheelDesk$Wheel" "direction" "[I", Cond.fieldLink RX4 15 "WheelDesk$Wheel" "momentum" "I", Cond.fieldLink RX4 19 "WheelDesk$Wheel" "mostMomentum" "I", Cond.fieldLink RX4 22 "WheelDesk$Wheel" "mostTorque" "I", Cond.fieldLink RX4 25 "WheelDesk$Wheel" "failed" "Z", Cond.fieldLink RX4 29 "WheelDesk$Wheel" "got" "I", Cond.methodLink RX5 205 yX5_span, Cond.instanceMethod yX5_span, Cond.selects RX5 yX5_span yX5_span, Cond.code yX5_span cX5_span 1 (some .long), Cond.fieldLink RX5 22 "WheelDesk" "sharing" "LWheelDesk$Sharing;", Cond.constant RX5 126 (-2000009), Cond.fieldLink RX5 141 "WheelDesk$Sharing" "determinant" "J"]
def wsL_ticks_r5 : List Cond := [Cond.methodLink RX5 127 yX3_measure, Cond.instanceMethod yX3_measure, Cond.selects RX3 yX3_measure yX3_measure, Cond.initialized RX3, Cond.code yX3_measure cX3_measure 5 none, Cond.fieldLink RX3 11 "WheelDesk$Sharing" "matrix" "[[J", Cond.fieldLink RX3 23 "WheelDesk$Craft" "wheelCount" "I", Cond.fieldLink RX3 29 "WheelDesk$Craft" "wheelRow" "[LWheelDesk$Wheel;", Cond.fieldLink RX3 33 "WheelDesk$Wheel" "failed" "Z", Cond.fieldLink RX3 39 "WheelDesk$Wheel" "direction" "[I", Cond.fieldLink RX3 50 "WheelDesk$Sharing" "determinant" "J", Cond.fieldLink RX3 16 "WheelDesk$Sharing" "cofactor" "[[J", Cond.methodLink RX3 43 yX3_addProducts, Cond.instanceMethod yX3_addProducts, Cond.selects RX3 yX3_addProducts yX3_addProducts, Cond.code yX3_addProducts cX3_addProducts 4 none, Cond.methodLink RX3 47 yX3_findCofactors, Cond.instanceMethod yX3_findCofactors, Cond.selects RX3 yX3_findCofactors yX3_findCofactors, Cond.code yX3_findCofactors cX3_findCofactors 7 none, Cond.static yX5_axisAfter, Cond.code yX5_axisAfter cX5_axisAfter 2 (some .int), Cond.methodLink RX5 209 yX5_why, Cond.instanceMethod yX5_why]
def wsL_ticks_r6 : List Cond := [Cond.selects RX5 yX5_why yX5_why, Cond.code yX5_why cX5_why 2 (some .int), Cond.fieldLink RX5 162 "WheelDesk$Craft" "reasons" "[I", Cond.methodLink RL 84 yX5_time, Cond.methodLink RL 67 yX5_arrives, Cond.instanceMethod yX5_arrives, Cond.selects RX5 yX5_arrives yX5_arrives, Cond.code yX5_arrives cX5_arrives 3 (some .int), Cond.constant RX5 44 (1000000), Cond.fieldLink RX5 16 "WheelDesk" "trial" "LWheelDesk$Craft;", Cond.methodLink RX5 169 yX0_become, Cond.instanceMethod yX0_become, Cond.selects RX0 yX0_become yX0_become, Cond.code yX0_become cX0_become 3 none, Cond.fieldLink RX0 47 "WheelDesk$Craft" "now" "I", Cond.fieldLink RX0 9 "WheelDesk$Craft" "settings" "[I", Cond.methodLink RX0 50 arraycopyName, Cond.native arraycopyName, Cond.static arraycopyName, Cond.initialized "java/lang/System", Cond.fieldLink RX0 39 "WheelDesk$Craft" "reasons" "[I", Cond.fieldLink RX0 43 "WheelDesk$Craft" "reasonCount" "I", Cond.methodLink RX0 59 yX4_become, Cond.instanceMethod yX4_become]
def wsL_ticks_r7 : List Cond := [Cond.selects RX4 yX4_become yX4_become, Cond.code yX4_become cX4_become 2 none, Cond.methodLink RX4 32 arraycopyName, Cond.methodLink RX5 172 yX0_isOnTarget, Cond.instanceMethod yX0_isOnTarget, Cond.selects RX0 yX0_isOnTarget yX0_isOnTarget, Cond.code yX0_isOnTarget cX0_isOnTarget 3 (some .boolean), Cond.methodLink RX0 81 Lib.MathLoose.abs_long.x, Cond.static Lib.MathLoose.abs_long.x, Cond.initialized "java/lang/Math", Cond.code Lib.MathLoose.abs_long.x Lib.MathLoose.abs_long.code 2 (some .long), Cond.methodLink RX0 87 yX0_aside, Cond.instanceMethod yX0_aside, Cond.selects RX0 yX0_aside yX0_aside, Cond.code yX0_aside cX0_aside 2 (some .long), Cond.methodLink RX5 131 yX5_passOne, Cond.instanceMethod yX5_passOne, Cond.selects RX5 yX5_passOne yX5_passOne, Cond.code yX5_passOne cX5_passOne 2 none, Cond.fieldLink RX5 29 "WheelDesk" "magnets" "LWheelDesk$Magnets;", Cond.methodLink RX5 219 yX0_findWish, Cond.instanceMethod yX0_findWish, Cond.selects RX0 yX0_findWish yX0_findWish, Cond.code yX0_findWish cX0_findWish 12 none]
def wsL_ticks_r8 : List Cond := [Cond.constantLong RX0 90 (100), Cond.static yX5_limited, Cond.code yX5_limited cX5_limited 6 (some .long), Cond.methodLink RX5 222 yX3_share, Cond.instanceMethod yX3_share, Cond.selects RX3 yX3_share yX3_share, Cond.code yX3_share cX3_share 3 none, Cond.fieldLink RX3 70 "WheelDesk$Wheel" "got" "I", Cond.fieldLink RX3 79 "WheelDesk$Craft" "wished" "[J", Cond.methodLink RX3 58 yX3_spans, Cond.instanceMethod yX3_spans, Cond.selects RX3 yX3_spans yX3_spans, Cond.code yX3_spans cX3_spans 1 (some .boolean), Cond.methodLink RX3 73 yX0_tellNoSpan, Cond.instanceMethod yX0_tellNoSpan, Cond.selects RX0 yX0_tellNoSpan yX0_tellNoSpan, Cond.code yX0_tellNoSpan cX0_tellNoSpan 2 none, Cond.fieldLink RX0 100 "WheelDesk$Wheel" "failed" "Z", Cond.methodLink RX3 76 yX0_tellMet, Cond.instanceMethod yX0_tellMet, Cond.selects RX0 yX0_tellMet yX0_tellMet, Cond.code yX0_tellMet cX0_tellMet 1 none, Cond.methodLink RX3 82 yX3_aim, Cond.instanceMethod yX3_aim]
def wsL_ticks_r9 : List Cond := [Cond.selects RX3 yX3_aim yX3_aim, Cond.code yX3_aim cX3_aim 8 none, Cond.fieldLink RX3 19 "WheelDesk$Sharing" "aimed" "[J", Cond.methodLink RX3 86 yX3_give, Cond.instanceMethod yX3_give, Cond.selects RX3 yX3_give yX3_give, Cond.code yX3_give cX3_give 11 none, Cond.fieldLink RX3 101 "WheelDesk$Wheel" "momentum" "I", Cond.fieldLink RX3 104 "WheelDesk$Craft" "momentum" "[J", Cond.methodLink RX3 90 yX3_wishOf, Cond.instanceMethod yX3_wishOf, Cond.selects RX3 yX3_wishOf yX3_wishOf, Cond.code yX3_wishOf cX3_wishOf 5 (some .long), Cond.constantLong RX3 62 (2), Cond.methodLink RX3 64 yJ9_floorDiv_f86c9, Cond.methodLink RX3 94 yX4_allowedByTorque, Cond.instanceMethod yX4_allowedByTorque, Cond.selects RX4 yX4_allowedByTorque yX4_allowedByTorque, Cond.code yX4_allowedByTorque cX4_allowedByTorque 3 (some .long), Cond.methodLink RX3 98 yX4_allowedByMomentum, Cond.instanceMethod yX4_allowedByMomentum, Cond.selects RX4 yX4_allowedByMomentum yX4_allowedByMomentum, Cond.code yX4_allowedByMomentum cX4_allowedByMomentum 7 (some .long), Cond.methodLink RX4 42 Lib.Math.min.name]
def wsL_ticks_r10 : List Cond := [Cond.static Lib.Math.min.name, Cond.code Lib.Math.min.name Lib.Math.min.code 2 (some .int), Cond.methodLink RX4 48 Lib.Math.max.name, Cond.static Lib.Math.max.name, Cond.code Lib.Math.max.name Lib.Math.max.code 2 (some .int), Cond.methodLink RX3 106 yX0_isMet, Cond.instanceMethod yX0_isMet, Cond.selects RX0 yX0_isMet yX0_isMet, Cond.code yX0_isMet cX0_isMet 1 (some .boolean), Cond.methodLink RX3 109 yX0_tellLimited, Cond.instanceMethod yX0_tellLimited, Cond.selects RX0 yX0_tellLimited yX0_tellLimited, Cond.code yX0_tellLimited cX0_tellLimited 3 none, Cond.methodLink RX5 225 yX2_letGo, Cond.instanceMethod yX2_letGo, Cond.selects RX2 yX2_letGo yX2_letGo, Cond.initialized RX2, Cond.code yX2_letGo cX2_letGo 6 none, Cond.fieldLink RX2 18 "WheelDesk$Craft" "given" "[[I", Cond.fieldLink RX2 24 "WheelDesk$Craft" "settings" "[I", Cond.fieldLink RX2 9 "WheelDesk$Magnets" "held" "[J", Cond.fieldLink RX2 15 "WheelDesk$Magnets" "moment" "[J", Cond.constantLong RX2 36 (1000), Cond.constantLong RX2 46 (100)]
def wsL_ticks_r11 : List Cond := [Cond.methodLink RX2 28 yX0_wheelMomentum, Cond.methodLink RX2 32 yX2_crossed, Cond.static yX2_crossed, Cond.code yX2_crossed cX2_crossed 5 (some .long), Cond.methodLink RX2 48 yX0_pushFromOutside, Cond.instanceMethod yX0_pushFromOutside, Cond.selects RX0 yX0_pushFromOutside yX0_pushFromOutside, Cond.code yX0_pushFromOutside cX0_pushFromOutside 4 none, Cond.methodLink RX5 228 yX0_disturb, Cond.instanceMethod yX0_disturb, Cond.selects RX0 yX0_disturb yX0_disturb, Cond.code yX0_disturb cX0_disturb 2 none, Cond.methodLink RX0 96 yX0_pushFromOutside, Cond.methodLink RX5 231 yX0_turn, Cond.instanceMethod yX0_turn, Cond.selects RX0 yX0_turn yX0_turn, Cond.code yX0_turn cX0_turn 2 none, Cond.methodLink RL 70 yX5_gravest, Cond.instanceMethod yX5_gravest, Cond.selects RX5 yX5_gravest yX5_gravest, Cond.code yX5_gravest cX5_gravest 8 (some .int), Cond.fieldLink RX5 73 "WheelDesk$Wheel" "failed" "Z", Cond.methodLink RX5 175 yX5_offWithout, Cond.instanceMethod yX5_offWithout]
def wsL_ticks_r12 : List Cond := [Cond.selects RX5 yX5_offWithout yX5_offWithout, Cond.code yX5_offWithout cX5_offWithout 4 (some .long), Cond.methodLink RX5 234 yX0_offTarget, Cond.instanceMethod yX0_offTarget, Cond.selects RX0 yX0_offTarget yX0_offTarget, Cond.code yX0_offTarget cX0_offTarget 4 (some .long), Cond.methodLink RL 31 yX5_wheel, Cond.methodLink RL 53 yX5_tick, Cond.instanceMethod yX5_tick, Cond.selects RX5 yX5_tick yX5_tick, Cond.code yX5_tick cX5_tick 4 (some .int), Cond.constant RX5 124 (50000), Cond.constant RX5 125 (-2000002), Cond.fieldLink RX5 36 "WheelDesk" "history" "LWheelDesk$History;", Cond.methodLink RX5 55 yX1_keep, Cond.instanceMethod yX1_keep, Cond.selects RX1 yX1_keep yX1_keep, Cond.initialized RX1, Cond.code yX1_keep cX1_keep 2 none, Cond.fieldLink RX1 18 "WheelDesk$History" "kept" "I", Cond.fieldLink RX1 11 "WheelDesk$History" "states" "[LWheelDesk$Craft;", Cond.methodLink RX1 22 yX1_dropOldest, Cond.instanceMethod yX1_dropOldest, Cond.selects RX1 yX1_dropOldest yX1_dropOldest]
def wsL_ticks_r13 : List Cond := [Cond.code yX1_dropOldest cX1_dropOldest 3 none, Cond.methodLink RX1 25 yX0_become, Cond.methodLink RX5 134 yX0_isMet, Cond.methodLink RL 87 yL_reasons, Cond.static yL_reasons, Cond.initialized RL, Cond.code yL_reasons cL_reasons 5 (some .boolean), Cond.methodLink RL 63 yX5_why, Cond.methodLink RL 56 yX5_axis, Cond.methodLink RL 76 yL_size, Cond.static yL_size, Cond.code yL_size cL_size 2 (some .long), Cond.methodLink RL 91 yX5_undo, Cond.instanceMethod yX5_undo, Cond.selects RX5 yX5_undo yX5_undo, Cond.code yX5_undo cX5_undo 1 (some .int), Cond.methodLink RX5 178 yX1_giveBack, Cond.instanceMethod yX1_giveBack, Cond.selects RX1 yX1_giveBack yX1_giveBack, Cond.code yX1_giveBack cX1_giveBack 2 (some .int), Cond.constant RX1 29 (-2000009)]
def wsL_ticks : List Cond := .code yL_ticks cL_ticks 13 (some .boolean) :: ((wsL_ticks_r1 ++ (wsL_ticks_r2 ++ (wsL_ticks_r3 ++ (wsL_ticks_r4 ++ (wsL_ticks_r5 ++ (wsL_ticks_r6 ++ (wsL_ticks_r7 ++ (wsL_ticks_r8 ++ (wsL_ticks_r9 ++ (wsL_ticks_r10 ++ (wsL_ticks_r11 ++ (wsL_ticks_r12 ++ wsL_ticks_r13)))))))))))) ++ wsX50 ++ wsX00 ++ wsX40 ++ wsX30 ++ wsX20 ++ wsX10)
def wsL_law_r1 : List Cond := [Cond.classLink RL 10 RX5, Cond.instantiable RX5 5, Cond.initialized RX5, Cond.constant RL 66 (-2000009), Cond.constant RL 112 (40000), Cond.constant RL 21 (-2000001), Cond.methodLink RL 94 yX5_init, Cond.instanceMethod yX5_init, Cond.code yX5_init cX5_init 1 none, Cond.methodLink RX5 1 objectInit, Cond.instanceMethod objectInit, Cond.code objectInit ⟨#[0xb1]⟩ 1 none, Cond.classLink RX5 7 RX0, Cond.instantiable RX0 11, Cond.initialized RX0, Cond.fieldLink RX5 10 "WheelDesk" "craft" "LWheelDesk$Craft;", Cond.fieldLink RX5 16 "WheelDesk" "trial" "LWheelDesk$Craft;", Cond.classLink RX5 19 RX3, Cond.instantiable RX3 4, Cond.initialized RX3, Cond.fieldLink RX5 22 "WheelDesk" "sharing" "LWheelDesk$Sharing;", Cond.classLink RX5 26 RX2, Cond.instantiable RX2 2, Cond.initialized RX2]
def wsL_law_r2 : List Cond := [Cond.fieldLink RX5 29 "WheelDesk" "magnets" "LWheelDesk$Magnets;", Cond.classLink RX5 33 RX1, Cond.instantiable RX1 2, Cond.initialized RX1, Cond.fieldLink RX5 36 "WheelDesk" "history" "LWheelDesk$History;", Cond.methodLink RX5 9 yX0_init, Cond.instanceMethod yX0_init, Cond.code yX0_init cX0_init 2 none, Cond.methodLink RX0 3 objectInit, Cond.arrayClass .int, Cond.fieldLink RX0 9 "WheelDesk$Craft" "settings" "[I", Cond.classLink RX0 15 "[[I", Cond.fieldLink RX0 17 "WheelDesk$Craft" "given" "[[I", Cond.arrayClass .long, Cond.fieldLink RX0 20 "WheelDesk$Craft" "angle" "[J", Cond.fieldLink RX0 24 "WheelDesk$Craft" "momentum" "[J", Cond.fieldLink RX0 27 "WheelDesk$Craft" "outside" "[J", Cond.fieldLink RX0 30 "WheelDesk$Craft" "wished" "[J", Cond.classLink RX0 33 RX4, Cond.fieldLink RX0 35 "WheelDesk$Craft" "wheelRow" "[LWheelDesk$Wheel;", Cond.fieldLink RX0 39 "WheelDesk$Craft" "reasons" "[I", Cond.instantiable RX4 6, Cond.initialized RX4, Cond.fieldLink RX0 43 "WheelDesk$Craft" "reasonCount" "I"]
def wsL_law_r3 : List Cond := [Cond.instanceMethod yX4_init, Cond.code yX4_init cX4_init 1 none, Cond.methodLink RX4 3 objectInit, Cond.fieldLink RX4 9 "WheelDesk$Wheel" "direction" "[I", Cond.instanceMethod yX3_init, Cond.code yX3_init cX3_init 1 none, Cond.methodLink RX3 3 objectInit, Cond.classLink RX3 9 "[[J", Cond.fieldLink RX3 11 "WheelDesk$Sharing" "matrix" "[[J", Cond.fieldLink RX3 16 "WheelDesk$Sharing" "cofactor" "[[J", Cond.fieldLink RX3 19 "WheelDesk$Sharing" "aimed" "[J", Cond.instanceMethod yX2_init, Cond.code yX2_init cX2_init 1 none, Cond.methodLink RX2 3 objectInit, Cond.fieldLink RX2 9 "WheelDesk$Magnets" "held" "[J", Cond.fieldLink RX2 15 "WheelDesk$Magnets" "moment" "[J", Cond.methodLink RX5 35 yX1_init, Cond.instanceMethod yX1_init, Cond.code yX1_init cX1_init 2 none, Cond.methodLink RX1 3 objectInit, Cond.classLink RX1 9 RX0, Cond.fieldLink RX1 11 "WheelDesk$History" "states" "[LWheelDesk$Craft;", Cond.methodLink RX1 17 yX0_init, Cond.methodLink RL 91 yX5_undo]
def wsL_law_r4 : List Cond := [Cond.instanceMethod yX5_undo, Cond.selects RX5 yX5_undo yX5_undo, Cond.code yX5_undo cX5_undo 1 (some .int), Cond.methodLink RX5 178 yX1_giveBack, Cond.instanceMethod yX1_giveBack, Cond.selects RX1 yX1_giveBack yX1_giveBack, Cond.code yX1_giveBack cX1_giveBack 2 (some .int), Cond.fieldLink RX1 18 "WheelDesk$History" "kept" "I", Cond.constant RX1 29 (-2000009), Cond.methodLink RX1 25 yX0_become, Cond.instanceMethod yX0_become, Cond.selects RX0 yX0_become yX0_become, Cond.code yX0_become cX0_become 3 none, Cond.fieldLink RX0 47 "WheelDesk$Craft" "now" "I", Cond.methodLink RX0 50 arraycopyName, Cond.native arraycopyName, Cond.static arraycopyName, Cond.initialized "java/lang/System", Cond.fieldLink RX0 56 "WheelDesk$Craft" "wheelCount" "I", Cond.methodLink RX0 59 yX4_become, Cond.instanceMethod yX4_become, Cond.selects RX4 yX4_become yX4_become, Cond.code yX4_become cX4_become 2 none, Cond.methodLink RX4 32 arraycopyName]
def wsL_law_r5 : List Cond := [Cond.fieldLink RX4 15 "WheelDesk$Wheel" "momentum" "I", Cond.fieldLink RX4 19 "WheelDesk$Wheel" "mostMomentum" "I", Cond.fieldLink RX4 22 "WheelDesk$Wheel" "mostTorque" "I", Cond.fieldLink RX4 25 "WheelDesk$Wheel" "failed" "Z", Cond.fieldLink RX4 29 "WheelDesk$Wheel" "got" "I", Cond.methodLink RL 95 yX5_wheels, Cond.instanceMethod yX5_wheels, Cond.selects RX5 yX5_wheels yX5_wheels, Cond.code yX5_wheels cX5_wheels 1 (some .int), Cond.fieldLink RX5 50 "WheelDesk$Craft" "wheelCount" "I", Cond.methodLink RL 73 yX5_span, Cond.instanceMethod yX5_span, Cond.selects RX5 yX5_span yX5_span, Cond.code yX5_span cX5_span 1 (some .long), Cond.constant RX5 126 (-2000009), Cond.fieldLink RX5 141 "WheelDesk$Sharing" "determinant" "J", Cond.methodLink RX5 127 yX3_measure, Cond.instanceMethod yX3_measure, Cond.selects RX3 yX3_measure yX3_measure, Cond.code yX3_measure cX3_measure 5 none, Cond.fieldLink RX3 23 "WheelDesk$Craft" "wheelCount" "I", Cond.fieldLink RX3 29 "WheelDesk$Craft" "wheelRow" "[LWheelDesk$Wheel;", Cond.fieldLink RX3 33 "WheelDesk$Wheel" "failed" "Z", Cond.fieldLink RX3 39 "WheelDesk$Wheel" "direction" "[I"]
def wsL_law_r6 : List Cond := [Cond.fieldLink RX3 50 "WheelDesk$Sharing" "determinant" "J", Cond.methodLink RX3 43 yX3_addProducts, Cond.instanceMethod yX3_addProducts, Cond.selects RX3 yX3_addProducts yX3_addProducts, Cond.code yX3_addProducts cX3_addProducts 4 none, Cond.methodLink RX3 47 yX3_findCofactors, Cond.instanceMethod yX3_findCofactors, Cond.selects RX3 yX3_findCofactors yX3_findCofactors, Cond.code yX3_findCofactors cX3_findCofactors 7 none, Cond.static yX5_axisAfter, Cond.code yX5_axisAfter cX5_axisAfter 2 (some .int), Cond.methodLink RL 63 yX5_why, Cond.instanceMethod yX5_why, Cond.selects RX5 yX5_why yX5_why, Cond.code yX5_why cX5_why 2 (some .int), Cond.constant RX5 49 (-2000001), Cond.fieldLink RX5 159 "WheelDesk$Craft" "reasonCount" "I", Cond.fieldLink RX5 162 "WheelDesk$Craft" "reasons" "[I", Cond.methodLink RL 98 yX5_fullness, Cond.instanceMethod yX5_fullness, Cond.selects RX5 yX5_fullness yX5_fullness, Cond.code yX5_fullness cX5_fullness 4 (some .float), Cond.fieldLink RX5 59 "WheelDesk$Craft" "wheelRow" "[LWheelDesk$Wheel;", Cond.methodLink RX5 165 yX4_fullPart]
def wsL_law_r7 : List Cond := [Cond.instanceMethod yX4_fullPart, Cond.selects RX4 yX4_fullPart yX4_fullPart, Cond.code yX4_fullPart cX4_fullPart 2 (some .float), Cond.methodLink RX4 51 Lib.Math.abs.name, Cond.static Lib.Math.abs.name, Cond.initialized "java/lang/Math", Cond.code Lib.Math.abs.name Lib.Math.abs.code 1 (some .int), Cond.methodLink RL 67 yX5_arrives, Cond.instanceMethod yX5_arrives, Cond.selects RX5 yX5_arrives yX5_arrives, Cond.code yX5_arrives cX5_arrives 3 (some .int), Cond.constant RX5 44 (1000000), Cond.methodLink RX5 45 yX5_isWithin, Cond.static yX5_isWithin, Cond.code yX5_isWithin cX5_isWithin 3 (some .boolean), Cond.methodLink RX5 169 yX0_become, Cond.methodLink RX5 172 yX0_isOnTarget, Cond.instanceMethod yX0_isOnTarget, Cond.selects RX0 yX0_isOnTarget yX0_isOnTarget, Cond.code yX0_isOnTarget cX0_isOnTarget 3 (some .boolean), Cond.methodLink RX0 81 Lib.MathLoose.abs_long.x, Cond.static Lib.MathLoose.abs_long.x, Cond.code Lib.MathLoose.abs_long.x Lib.MathLoose.abs_long.code 2 (some .long), Cond.methodLink RX0 87 yX0_aside]
def wsL_law_r8 : List Cond := [Cond.instanceMethod yX0_aside, Cond.selects RX0 yX0_aside yX0_aside, Cond.code yX0_aside cX0_aside 2 (some .long), Cond.methodLink RX0 63 yX0_rate, Cond.instanceMethod yX0_rate, Cond.selects RX0 yX0_rate yX0_rate, Cond.code yX0_rate cX0_rate 2 (some .long), Cond.static yX5_quotient, Cond.code yX5_quotient cX5_quotient 4 (some .long), Cond.methodLink RX5 214 yJ9_floorDiv_f86c9, Cond.static yJ9_floorDiv_f86c9, Cond.initialized RJ9, Cond.code yJ9_floorDiv_f86c9 cJ9_floorDiv_f86c9 6 (some .long), Cond.methodLink RX5 131 yX5_passOne, Cond.instanceMethod yX5_passOne, Cond.selects RX5 yX5_passOne yX5_passOne, Cond.code yX5_passOne cX5_passOne 2 none, Cond.fieldLink RX5 121 "WheelDesk$Craft" "now" "I", Cond.methodLink RX5 219 yX0_findWish, Cond.instanceMethod yX0_findWish, Cond.selects RX0 yX0_findWish yX0_findWish, Cond.code yX0_findWish cX0_findWish 12 none, Cond.constantLong RX0 90 (100), Cond.static yX5_limited]
def wsL_law_r9 : List Cond := [Cond.code yX5_limited cX5_limited 6 (some .long), Cond.methodLink RX5 222 yX3_share, Cond.instanceMethod yX3_share, Cond.selects RX3 yX3_share yX3_share, Cond.code yX3_share cX3_share 3 none, Cond.fieldLink RX3 70 "WheelDesk$Wheel" "got" "I", Cond.fieldLink RX3 79 "WheelDesk$Craft" "wished" "[J", Cond.methodLink RX3 58 yX3_spans, Cond.instanceMethod yX3_spans, Cond.selects RX3 yX3_spans yX3_spans, Cond.code yX3_spans cX3_spans 1 (some .boolean), Cond.methodLink RX3 73 yX0_tellNoSpan, Cond.instanceMethod yX0_tellNoSpan, Cond.selects RX0 yX0_tellNoSpan yX0_tellNoSpan, Cond.code yX0_tellNoSpan cX0_tellNoSpan 2 none, Cond.fieldLink RX0 100 "WheelDesk$Wheel" "failed" "Z", Cond.methodLink RX3 76 yX0_tellMet, Cond.instanceMethod yX0_tellMet, Cond.selects RX0 yX0_tellMet yX0_tellMet, Cond.code yX0_tellMet cX0_tellMet 1 none, Cond.methodLink RX3 82 yX3_aim, Cond.instanceMethod yX3_aim, Cond.selects RX3 yX3_aim yX3_aim, Cond.code yX3_aim cX3_aim 8 none]
def wsL_law_r10 : List Cond := [Cond.methodLink RX3 86 yX3_give, Cond.instanceMethod yX3_give, Cond.selects RX3 yX3_give yX3_give, Cond.code yX3_give cX3_give 11 none, Cond.fieldLink RX3 101 "WheelDesk$Wheel" "momentum" "I", Cond.fieldLink RX3 104 "WheelDesk$Craft" "momentum" "[J", Cond.methodLink RX3 90 yX3_wishOf, Cond.instanceMethod yX3_wishOf, Cond.selects RX3 yX3_wishOf yX3_wishOf, Cond.code yX3_wishOf cX3_wishOf 5 (some .long), Cond.constantLong RX3 62 (2), Cond.methodLink RX3 64 yJ9_floorDiv_f86c9, Cond.methodLink RX3 94 yX4_allowedByTorque, Cond.instanceMethod yX4_allowedByTorque, Cond.selects RX4 yX4_allowedByTorque yX4_allowedByTorque, Cond.code yX4_allowedByTorque cX4_allowedByTorque 3 (some .long), Cond.methodLink RX3 98 yX4_allowedByMomentum, Cond.instanceMethod yX4_allowedByMomentum, Cond.selects RX4 yX4_allowedByMomentum yX4_allowedByMomentum, Cond.code yX4_allowedByMomentum cX4_allowedByMomentum 7 (some .long), Cond.methodLink RX4 42 Lib.Math.min.name, Cond.static Lib.Math.min.name, Cond.code Lib.Math.min.name Lib.Math.min.code 2 (some .int), Cond.methodLink RX4 48 Lib.Math.max.name]
def wsL_law_r11 : List Cond := [Cond.static Lib.Math.max.name, Cond.code Lib.Math.max.name Lib.Math.max.code 2 (some .int), Cond.methodLink RX3 106 yX0_isMet, Cond.instanceMethod yX0_isMet, Cond.selects RX0 yX0_isMet yX0_isMet, Cond.code yX0_isMet cX0_isMet 1 (some .boolean), Cond.methodLink RX3 109 yX0_tellLimited, Cond.instanceMethod yX0_tellLimited, Cond.selects RX0 yX0_tellLimited yX0_tellLimited, Cond.code yX0_tellLimited cX0_tellLimited 3 none, Cond.methodLink RX5 225 yX2_letGo, Cond.instanceMethod yX2_letGo, Cond.selects RX2 yX2_letGo yX2_letGo, Cond.code yX2_letGo cX2_letGo 6 none, Cond.fieldLink RX2 18 "WheelDesk$Craft" "given" "[[I", Cond.fieldLink RX2 24 "WheelDesk$Craft" "settings" "[I", Cond.constantLong RX2 36 (1000), Cond.constantLong RX2 46 (100), Cond.methodLink RX2 28 yX0_wheelMomentum, Cond.instanceMethod yX0_wheelMomentum, Cond.selects RX0 yX0_wheelMomentum yX0_wheelMomentum, Cond.code yX0_wheelMomentum cX0_wheelMomentum 5 (some .long), Cond.fieldLink RX0 76 "WheelDesk$Wheel" "direction" "[I", Cond.fieldLink RX0 79 "WheelDesk$Wheel" "momentum" "I"]
def wsL_law_r12 : List Cond := [Cond.methodLink RX2 32 yX2_crossed, Cond.static yX2_crossed, Cond.code yX2_crossed cX2_crossed 5 (some .long), Cond.methodLink RX2 48 yX0_pushFromOutside, Cond.instanceMethod yX0_pushFromOutside, Cond.selects RX0 yX0_pushFromOutside yX0_pushFromOutside, Cond.code yX0_pushFromOutside cX0_pushFromOutside 4 none, Cond.methodLink RX5 228 yX0_disturb, Cond.instanceMethod yX0_disturb, Cond.selects RX0 yX0_disturb yX0_disturb, Cond.code yX0_disturb cX0_disturb 2 none, Cond.methodLink RX0 96 yX0_pushFromOutside, Cond.methodLink RX5 231 yX0_turn, Cond.instanceMethod yX0_turn, Cond.selects RX0 yX0_turn yX0_turn, Cond.code yX0_turn cX0_turn 2 none, Cond.methodLink RL 80 yX5_spare, Cond.instanceMethod yX5_spare, Cond.selects RX5 yX5_spare yX5_spare, Cond.code yX5_spare cX5_spare 3 (some .int), Cond.fieldLink RX5 73 "WheelDesk$Wheel" "failed" "Z", Cond.methodLink RX5 148 yX3_spans, Cond.methodLink RL 70 yX5_gravest, Cond.instanceMethod yX5_gravest]
def wsL_law_r13 : List Cond := [Cond.selects RX5 yX5_gravest yX5_gravest, Cond.code yX5_gravest cX5_gravest 8 (some .int), Cond.methodLink RX5 175 yX5_offWithout, Cond.instanceMethod yX5_offWithout, Cond.selects RX5 yX5_offWithout yX5_offWithout, Cond.code yX5_offWithout cX5_offWithout 4 (some .long), Cond.methodLink RX5 234 yX0_offTarget, Cond.instanceMethod yX0_offTarget, Cond.selects RX0 yX0_offTarget yX0_offTarget, Cond.code yX0_offTarget cX0_offTarget 4 (some .long), Cond.methodLink RL 102 yL_fails, Cond.static yL_fails, Cond.initialized RL, Cond.code yL_fails cL_fails 5 (some .boolean), Cond.constant RL 22 (100001), Cond.constant RL 39 (1000001), Cond.constantLong RL 51 (-4611686018427387905), Cond.methodLink RL 9 yX5_fingerprint, Cond.instanceMethod yX5_fingerprint, Cond.selects RX5 yX5_fingerprint yX5_fingerprint, Cond.code yX5_fingerprint cX5_fingerprint 5 (some .long), Cond.constantLong RX5 182 (173), Cond.methodLink RX5 184 yX5_time, Cond.instanceMethod yX5_time]
def wsL_law_r14 : List Cond := [Cond.selects RX5 yX5_time yX5_time, Cond.code yX5_time cX5_time 1 (some .int), Cond.methodLink RX5 188 yX5_mixed, Cond.static yX5_mixed, Cond.code yX5_mixed cX5_mixed 4 (some .long), Cond.constantLong RX5 212 (31), Cond.methodLink RX5 192 yX5_setting, Cond.instanceMethod yX5_setting, Cond.selects RX5 yX5_setting yX5_setting, Cond.code yX5_setting cX5_setting 2 (some .int), Cond.fieldLink RX5 107 "WheelDesk$Craft" "settings" "[I", Cond.methodLink RX5 195 yX5_axis, Cond.instanceMethod yX5_axis, Cond.selects RX5 yX5_axis yX5_axis, Cond.code yX5_axis cX5_axis 3 (some .long), Cond.constantLong RX5 111 (-4611686018427387905), Cond.methodLink RX5 87 yX5_isAxis, Cond.static yX5_isAxis, Cond.code yX5_isAxis cX5_isAxis 1 (some .boolean), Cond.methodLink RX5 138 yX0_number, Cond.instanceMethod yX0_number, Cond.selects RX0 yX0_number yX0_number, Cond.code yX0_number cX0_number 3 (some .long), Cond.constantLong RX0 70 (-4611686018427387905)]
def wsL_law_r15 : List Cond := [Cond.methodLink RX0 67 yX0_wheelMomentum, Cond.methodLink RX5 198 yX5_wheels, Cond.methodLink RX5 201 yX5_wheel, Cond.instanceMethod yX5_wheel, Cond.selects RX5 yX5_wheel yX5_wheel, Cond.code yX5_wheel cX5_wheel 3 (some .int), Cond.methodLink RX5 69 yX5_isWheel, Cond.instanceMethod yX5_isWheel, Cond.selects RX5 yX5_isWheel yX5_isWheel, Cond.code yX5_isWheel cX5_isWheel 2 (some .boolean), Cond.methodLink RX5 83 yX4_number, Cond.instanceMethod yX4_number, Cond.selects RX4 yX4_number yX4_number, Cond.code yX4_number cX4_number 2 (some .int), Cond.methodLink RX5 205 yX5_span, Cond.methodLink RX5 209 yX5_why, Cond.methodLink RL 15 yX5_addWheel, Cond.instanceMethod yX5_addWheel, Cond.selects RX5 yX5_addWheel yX5_addWheel, Cond.code yX5_addWheel cX5_addWheel 7 (some .int), Cond.constant RX5 48 (100000), Cond.constant RX5 54 (-2000003), Cond.methodLink RX5 40 yX5_isDirection, Cond.static yX5_isDirection]
def wsL_law_r16 : List Cond := [Cond.code yX5_isDirection cX5_isDirection 3 (some .boolean), Cond.methodLink RX5 55 yX1_keep, Cond.instanceMethod yX1_keep, Cond.selects RX1 yX1_keep yX1_keep, Cond.code yX1_keep cX1_keep 2 none, Cond.methodLink RX1 22 yX1_dropOldest, Cond.instanceMethod yX1_dropOldest, Cond.selects RX1 yX1_dropOldest yX1_dropOldest, Cond.code yX1_dropOldest cX1_dropOldest 3 none, Cond.methodLink RX5 63 yX4_start, Cond.instanceMethod yX4_start, Cond.selects RX4 yX4_start yX4_start, Cond.code yX4_start cX4_start 6 none, Cond.methodLink RL 23 yX5_fail, Cond.instanceMethod yX5_fail, Cond.selects RX5 yX5_fail yX5_fail, Cond.code yX5_fail cX5_fail 5 (some .int), Cond.methodLink RL 27 yX5_setMost, Cond.instanceMethod yX5_setMost, Cond.selects RX5 yX5_setMost yX5_setMost, Cond.code yX5_setMost cX5_setMost 6 (some .int), Cond.fieldLink RX5 77 "WheelDesk$Wheel" "mostTorque" "I", Cond.fieldLink RX5 80 "WheelDesk$Wheel" "mostMomentum" "I", Cond.methodLink RL 31 yX5_wheel]
def wsL_law_r17 : List Cond := [Cond.methodLink RL 35 yX5_setAxis, Cond.instanceMethod yX5_setAxis, Cond.selects RX5 yX5_setAxis yX5_setAxis, Cond.code yX5_setAxis cX5_setAxis 5 (some .int), Cond.fieldLink RX5 90 "WheelDesk" "LEAST_GIVEN" "[I", Cond.fieldLink RX5 94 "WheelDesk" "GREATEST_GIVEN" "[I", Cond.fieldLink RX5 97 "WheelDesk$Craft" "given" "[[I", Cond.methodLink RL 40 yX5_set, Cond.instanceMethod yX5_set, Cond.selects RX5 yX5_set yX5_set, Cond.code yX5_set cX5_set 4 (some .int), Cond.fieldLink RX5 101 "WheelDesk" "LEAST_SETTING" "[I", Cond.fieldLink RX5 104 "WheelDesk" "GREATEST_SETTING" "[I", Cond.methodLink RL 43 yX5_setting, Cond.methodLink RL 47 yX5_strike, Cond.instanceMethod yX5_strike, Cond.selects RX5 yX5_strike yX5_strike, Cond.code yX5_strike cX5_strike 3 (some .long), Cond.constant RX5 110 (-100000), Cond.methodLink RX5 113 yX0_pushFromOutside, Cond.methodLink RX5 117 yX0_rate, Cond.methodLink RL 53 yX5_tick, Cond.instanceMethod yX5_tick, Cond.selects RX5 yX5_tick yX5_tick]
def wsL_law_r18 : List Cond := [Cond.code yX5_tick cX5_tick 4 (some .int), Cond.constant RX5 124 (50000), Cond.constant RX5 125 (-2000002), Cond.methodLink RX5 134 yX0_isMet, Cond.methodLink RL 56 yX5_axis, Cond.methodLink RL 59 yX5_wish, Cond.instanceMethod yX5_wish, Cond.selects RX5 yX5_wish yX5_wish, Cond.code yX5_wish cX5_wish 6 (some .long), Cond.methodLink RX5 145 yX5_isTorque, Cond.static yX5_isTorque, Cond.code yX5_isTorque cX5_isTorque 1 (some .boolean), Cond.methodLink RX5 151 yX3_aim, Cond.methodLink RX5 155 yX3_wishOf, Cond.methodLink RL 105 yL_cell, Cond.static yL_cell, Cond.code yL_cell cL_cell 2 (some .int), Cond.constant RL 7 (763049417), Cond.methodLink RL 109 yL_up, Cond.static yL_up, Cond.code yL_up cL_up 2 (some .int), Cond.constant RL 8 (2147483647), Cond.methodLink RL 113 yL_ticks, Cond.static yL_ticks]
def wsL_law_r19 : List Cond := [Cond.code yL_ticks cL_ticks 13 (some .boolean), Cond.methodLink RL 84 yX5_time, Cond.methodLink RL 87 yL_reasons, Cond.static yL_reasons, Cond.code yL_reasons cL_reasons 5 (some .boolean), Cond.methodLink RL 76 yL_size, Cond.static yL_size, Cond.code yL_size cL_size 2 (some .long), Cond.methodLink RL 117 yL_wishes, Cond.static yL_wishes, Cond.code yL_wishes cL_wishes 12 (some .boolean), Cond.methodLink RL 121 yL_keeps, Cond.static yL_keeps, Cond.code yL_keeps cL_keeps 9 (some .boolean)]
def wsL_law : List Cond := (wsL_law_r1 ++ (wsL_law_r2 ++ (wsL_law_r3 ++ (wsL_law_r4 ++ (wsL_law_r5 ++ (wsL_law_r6 ++ (wsL_law_r7 ++ (wsL_law_r8 ++ (wsL_law_r9 ++ (wsL_law_r10 ++ (wsL_law_r11 ++ (wsL_law_r12 ++ (wsL_law_r13 ++ (wsL_law_r14 ++ (wsL_law_r15 ++ (wsL_law_r16 ++ (wsL_law_r17 ++ (wsL_law_r18 ++ wsL_law_r19)))))))))))))))))) ++ wsX50 ++ wsX00 ++ wsX30 ++ wsX20 ++ wsX10 ++ wsX40 ++ ([] : List Cond)
abbrev vwCl : List vw_C := [(RX0, TX0, 11), (RX1, TX1, 2), (RX2, TX2, 2), (RX3, TX3, 4), (RX4, TX4, 6), (RX5, TX5, 5)]
end
section
/-! ===== the law's words are the tables' ===== -/
set_option maxRecDepth 20000 in
theorem wsL_law_r1_in : ∀ w ∈ wsL_law_r1, w ∈ lw_tbl := fun w h => (goodIn_r (big := lw_tbl) wsL_law_r1 [16, 17, 8, 518, 535, 498, 18, 19, 20, 21, 22, 23, 24, 25, 9, 168, 169, 117, 118, 11, 170, 139, 140, 12] (by decide +kernel) (by decide +kernel) w h).1
set_option maxRecDepth 20000 in
theorem wsL_law_r2_in : ∀ w ∈ wsL_law_r2, w ∈ lw_tbl := fun w h => (goodIn_r (big := lw_tbl) wsL_law_r2 [171, 152, 153, 13, 172, 26, 27, 28, 29, 68, 72, 30, 75, 69, 78, 79, 81, 82, 32, 84, 90, 34, 10, 92] (by decide +kernel) (by decide +kernel) w h).1
set_option maxRecDepth 20000 in
theorem wsL_law_r3_in : ∀ w ∈ wsL_law_r3, w ∈ lw_tbl := fun w h => (goodIn_r (big := lw_tbl) wsL_law_r3 [36, 37, 38, 39, 120, 121, 122, 123, 125, 126, 127, 142, 143, 144, 145, 146, 154, 155, 156, 157, 158, 161, 160, 459] (by decide +kernel) (by decide +kernel) w h).1
set_option maxRecDepth 20000 in
theorem wsL_law_r4_in : ∀ w ∈ wsL_law_r4, w ∈ lw_tbl := fun w h => (goodIn_r (big := lw_tbl) wsL_law_r4 [460, 461, 462, 463, 464, 465, 466, 162, 467, 206, 207, 208, 209, 70, 210, 212, 211, 14, 89, 213, 214, 215, 216, 217] (by decide +kernel) (by decide +kernel) w h).1
set_option maxRecDepth 20000 in
theorem wsL_law_r5_in : ∀ w ∈ wsL_law_r5, w ∈ lw_tbl := fun w h => (goodIn_r (big := lw_tbl) wsL_law_r5 [42, 45, 47, 49, 53, 242, 243, 244, 245, 87, 303, 304, 305, 306, 307, 129, 308, 309, 310, 311, 88, 85, 50, 40] (by decide +kernel) (by decide +kernel) w h).1
set_option maxRecDepth 20000 in
theorem wsL_law_r6_in : ∀ w ∈ wsL_law_r6, w ∈ lw_tbl := fun w h => (goodIn_r (big := lw_tbl) wsL_law_r6 [128, 312, 314, 2, 315, 316, 318, 3, 319, 321, 322, 323, 324, 325, 326, 196, 93, 91, 327, 328, 329, 330, 86, 331] (by decide +kernel) (by decide +kernel) w h).1
set_option maxRecDepth 20000 in
theorem wsL_law_r7_in : ∀ w ∈ wsL_law_r7, w ∈ lw_tbl := fun w h => (goodIn_r (big := lw_tbl) wsL_law_r7 [332, 333, 334, 335, 336, 15, 337, 338, 339, 340, 341, 194, 191, 192, 193, 342, 343, 344, 345, 346, 351, 352, 353, 347] (by decide +kernel) (by decide +kernel) w h).1
set_option maxRecDepth 20000 in
theorem wsL_law_r8_in : ∀ w ∈ wsL_law_r8, w ∈ lw_tbl := fun w h => (goodIn_r (big := lw_tbl) wsL_law_r8 [348, 349, 350, 297, 280, 281, 282, 284, 285, 286, 287, 15, 288, 354, 356, 4, 357, 71, 358, 359, 360, 361, 362, 364] (by decide +kernel) (by decide +kernel) w h).1
set_option maxRecDepth 20000 in
theorem wsL_law_r9_in : ∀ w ∈ wsL_law_r9, w ∈ lw_tbl := fun w h => (goodIn_r (big := lw_tbl) wsL_law_r9 [365, 366, 367, 368, 369, 54, 83, 370, 371, 372, 373, 374, 375, 376, 377, 52, 378, 379, 380, 381, 382, 383, 384, 385] (by decide +kernel) (by decide +kernel) w h).1
set_option maxRecDepth 20000 in
theorem wsL_law_r10_in : ∀ w ∈ wsL_law_r10, w ∈ lw_tbl := fun w h => (goodIn_r (big := lw_tbl) wsL_law_r10 [386, 388, 5, 389, 44, 80, 390, 391, 392, 393, 394, 395, 396, 397, 398, 399, 401, 402, 403, 404, 405, 406, 407, 408] (by decide +kernel) (by decide +kernel) w h).1
set_option maxRecDepth 20000 in
theorem wsL_law_r11_in : ∀ w ∈ wsL_law_r11, w ∈ lw_tbl := fun w h => (goodIn_r (big := lw_tbl) wsL_law_r11 [409, 410, 411, 412, 413, 414, 415, 416, 417, 418, 419, 420, 421, 422, 76, 73, 428, 431, 423, 299, 300, 301, 41, 43] (by decide +kernel) (by decide +kernel) w h).1
set_option maxRecDepth 20000 in
theorem wsL_law_r12_in : ∀ w ∈ wsL_law_r12, w ∈ lw_tbl := fun w h => (goodIn_r (big := lw_tbl) wsL_law_r12 [424, 425, 426, 432, 276, 277, 278, 433, 434, 435, 436, 437, 438, 439, 440, 441, 442, 443, 444, 445, 51, 446, 447, 448] (by decide +kernel) (by decide +kernel) w h).1
set_option maxRecDepth 20000 in
theorem wsL_law_r13_in : ∀ w ∈ wsL_law_r13, w ∈ lw_tbl := fun w h => (goodIn_r (big := lw_tbl) wsL_law_r13 [449, 450, 451, 453, 6, 454, 455, 456, 457, 458, 476, 477, 7, 478, 499, 500, 501, 479, 480, 481, 482, 483, 484, 485] (by decide +kernel) (by decide +kernel) w h).1
set_option maxRecDepth 20000 in
theorem wsL_law_r14_in : ∀ w ∈ wsL_law_r14, w ∈ lw_tbl := fun w h => (goodIn_r (big := lw_tbl) wsL_law_r14 [486, 487, 488, 489, 490, 491, 492, 266, 267, 268, 74, 493, 290, 291, 292, 274, 250, 251, 252, 293, 294, 295, 296, 302] (by decide +kernel) (by decide +kernel) w h).1
set_option maxRecDepth 20000 in
theorem wsL_law_r15_in : ∀ w ∈ wsL_law_r15, w ∈ lw_tbl := fun w h => (goodIn_r (big := lw_tbl) wsL_law_r15 [298, 494, 495, 235, 236, 237, 226, 228, 1, 229, 238, 239, 240, 241, 496, 497, 184, 185, 186, 187, 195, 197, 188, 189] (by decide +kernel) (by decide +kernel) w h).1
set_option maxRecDepth 20000 in
theorem wsL_law_r16_in : ∀ w ∈ wsL_law_r16, w ∈ lw_tbl := fun w h => (goodIn_r (big := lw_tbl) wsL_law_r16 [190, 198, 199, 200, 201, 202, 204, 0, 205, 218, 219, 220, 221, 222, 223, 224, 225, 230, 231, 232, 233, 48, 46, 234] (by decide +kernel) (by decide +kernel) w h).1
set_option maxRecDepth 20000 in
theorem wsL_law_r17_in : ∀ w ∈ wsL_law_r17, w ∈ lw_tbl := fun w h => (goodIn_r (big := lw_tbl) wsL_law_r17 [246, 247, 248, 249, 253, 255, 77, 257, 258, 259, 260, 261, 263, 265, 269, 270, 271, 272, 273, 275, 279, 502, 503, 504] (by decide +kernel) (by decide +kernel) w h).1
set_option maxRecDepth 20000 in
theorem wsL_law_r18_in : ∀ w ∈ wsL_law_r18, w ∈ lw_tbl := fun w h => (goodIn_r (big := lw_tbl) wsL_law_r18 [505, 506, 507, 508, 289, 509, 510, 511, 512, 513, 514, 515, 516, 517, 468, 469, 470, 471, 472, 473, 474, 475, 528, 529] (by decide +kernel) (by decide +kernel) w h).1
set_option maxRecDepth 20000 in
theorem wsL_law_r19_in : ∀ w ∈ wsL_law_r19, w ∈ lw_tbl := fun w h => (goodIn_r (big := lw_tbl) wsL_law_r19 [530, 531, 532, 533, 534, 525, 526, 527, 522, 523, 524, 519, 520, 521] (by decide +kernel) (by decide +kernel) w h).1
set_option maxRecDepth 20000 in
theorem wsX50_in : ∀ w ∈ wsX50, w ∈ lw_tbl := fun w h => (goodIn_r (big := lw_tbl) wsX50 [173, 175, 177, 179, 181] (by decide +kernel) (by decide +kernel) w h).1
set_option maxRecDepth 20000 in
theorem wsX00_in : ∀ w ∈ wsX00, w ∈ lw_tbl := fun w h => (goodIn_r (big := lw_tbl) wsX00 [94, 96, 98, 100, 102, 104, 106, 108, 110, 112, 114] (by decide +kernel) (by decide +kernel) w h).1
set_option maxRecDepth 20000 in
theorem wsX30_in : ∀ w ∈ wsX30, w ∈ lw_tbl := fun w h => (goodIn_r (big := lw_tbl) wsX30 [130, 132, 134, 136] (by decide +kernel) (by decide +kernel) w h).1
set_option maxRecDepth 20000 in
theorem wsX20_in : ∀ w ∈ wsX20, w ∈ lw_tbl := fun w h => (goodIn_r (big := lw_tbl) wsX20 [147, 149] (by decide +kernel) (by decide +kernel) w h).1
set_option maxRecDepth 20000 in
theorem wsX10_in : ∀ w ∈ wsX10, w ∈ lw_tbl := fun w h => (goodIn_r (big := lw_tbl) wsX10 [163, 165] (by decide +kernel) (by decide +kernel) w h).1
set_option maxRecDepth 20000 in
theorem wsX40_in : ∀ w ∈ wsX40, w ∈ lw_tbl := fun w h => (goodIn_r (big := lw_tbl) wsX40 [55, 57, 59, 61, 63, 65] (by decide +kernel) (by decide +kernel) w h).1
theorem wsL_law_in : ∀ w ∈ wsL_law, w ∈ lw_tbl := by
  intro w h
  unfold wsL_law at h
  simp only [List.mem_append] at h
  have n : w ∉ ([] : List Cond) := List.not_mem_nil
  rcases h with ((((((((h | h | h | h | h | h | h | h | h | h | h | h | h | h | h | h | h | h | h) | h) | h) | h) | h) | h) | h) | h)
  · exact wsL_law_r1_in w h
  · exact wsL_law_r2_in w h
  · exact wsL_law_r3_in w h
  · exact wsL_law_r4_in w h
  · exact wsL_law_r5_in w h
  · exact wsL_law_r6_in w h
  · exact wsL_law_r7_in w h
  · exact wsL_law_r8_in w h
  · exact wsL_law_r9_in w h
  · exact wsL_law_r10_in w h
  · exact wsL_law_r11_in w h
  · exact wsL_law_r12_in w h
  · exact wsL_law_r13_in w h
  · exact wsL_law_r14_in w h
  · exact wsL_law_r15_in w h
  · exact wsL_law_r16_in w h
  · exact wsL_law_r17_in w h
  · exact wsL_law_r18_in w h
  · exact wsL_law_r19_in w h
  · exact wsX50_in w h
  · exact wsX00_in w h
  · exact wsX30_in w h
  · exact wsX20_in w h
  · exact wsX10_in w h
  · exact wsX40_in w h
  · exact absurd h n
theorem inlX0 : ∀ w ∈ wsX00, w ∈ wsL_law := fun _ h => List.mem_append_left _ (List.mem_append_left _ (List.mem_append_left _ (List.mem_append_left _ (List.mem_append_left _ (List.mem_append_right _ h)))))
theorem inX0 : ∀ w ∈ wsX00, w ∈ lw_tbl := fun w h => wsL_law_in w (inlX0 w h)
theorem inlX1 : ∀ w ∈ wsX10, w ∈ wsL_law := fun _ h => List.mem_append_left _ (List.mem_append_left _ (List.mem_append_right _ h))
theorem inX1 : ∀ w ∈ wsX10, w ∈ lw_tbl := fun w h => wsL_law_in w (inlX1 w h)
theorem inlX2 : ∀ w ∈ wsX20, w ∈ wsL_law := fun _ h => List.mem_append_left _ (List.mem_append_left _ (List.mem_append_left _ (List.mem_append_right _ h)))
theorem inX2 : ∀ w ∈ wsX20, w ∈ lw_tbl := fun w h => wsL_law_in w (inlX2 w h)
theorem inlX3 : ∀ w ∈ wsX30, w ∈ wsL_law := fun _ h => List.mem_append_left _ (List.mem_append_left _ (List.mem_append_left _ (List.mem_append_left _ (List.mem_append_right _ h))))
theorem inX3 : ∀ w ∈ wsX30, w ∈ lw_tbl := fun w h => wsL_law_in w (inlX3 w h)
theorem inlX4 : ∀ w ∈ wsX40, w ∈ wsL_law := fun _ h => List.mem_append_left _ (List.mem_append_right _ h)
theorem inX4 : ∀ w ∈ wsX40, w ∈ lw_tbl := fun w h => wsL_law_in w (inlX4 w h)
theorem inlX5 : ∀ w ∈ wsX50, w ∈ wsL_law := fun _ h => List.mem_append_left _ (List.mem_append_left _ (List.mem_append_left _ (List.mem_append_left _ (List.mem_append_left _ (List.mem_append_left _ (List.mem_append_right _ h))))))
theorem inX5 : ∀ w ∈ wsX50, w ∈ lw_tbl := fun w h => wsL_law_in w (inlX5 w h)
theorem inX6 : ∀ w ∈ wsX60, w ∈ lw_tbl := by decide +kernel
theorem inJ9 : ∀ w ∈ wsJ90, w ∈ lw_tbl := by decide +kernel
theorem inJ10 : ∀ w ∈ wsJ100, w ∈ lw_tbl := by decide +kernel
end
section
set_option maxRecDepth 20000 in
theorem ggX0_init_X4_init : GoodIn wsX0_init wsX4_init := goodIn_r _ [20, 21, 2, 3, 4, 22, 34, 35, 36, 37, 38, 39] (by decide +kernel) (by decide +kernel)
set_option maxRecDepth 20000 in
theorem gX0_init_X4_init_n42 : GoodIn wsX0_init (wsX4_init) := ggX0_init_X4_init
theorem dX0_init_0 : decode cX0_init 0 = .ok (.aload_n 0, 1) := by decide +kernel
theorem dX0_init_1 : decode cX0_init 1 = .ok (.invokespecial 3, 3) := by decide +kernel
theorem dX0_init_4 : decode cX0_init 4 = .ok (.aload_n 0, 1) := by decide +kernel
theorem dX0_init_5 : decode cX0_init 5 = .ok (.iconst 5, 1) := by decide +kernel
theorem dX0_init_6 : decode cX0_init 6 = .ok (.newarray .int, 2) := by decide +kernel
theorem dX0_init_8 : decode cX0_init 8 = .ok (.putfield 9, 3) := by decide +kernel
theorem dX0_init_11 : decode cX0_init 11 = .ok (.aload_n 0, 1) := by decide +kernel
theorem dX0_init_12 : decode cX0_init 12 = .ok (.iconst 4, 1) := by decide +kernel
theorem dX0_init_13 : decode cX0_init 13 = .ok (.iconst 3, 1) := by decide +kernel
theorem dX0_init_14 : decode cX0_init 14 = .ok (.multianewarray 15 2, 4) := by decide +kernel
theorem dX0_init_18 : decode cX0_init 18 = .ok (.putfield 17, 3) := by decide +kernel
theorem dX0_init_21 : decode cX0_init 21 = .ok (.aload_n 0, 1) := by decide +kernel
theorem dX0_init_22 : decode cX0_init 22 = .ok (.iconst 3, 1) := by decide +kernel
theorem dX0_init_23 : decode cX0_init 23 = .ok (.newarray .long, 2) := by decide +kernel
theorem dX0_init_25 : decode cX0_init 25 = .ok (.putfield 20, 3) := by decide +kernel
theorem dX0_init_28 : decode cX0_init 28 = .ok (.aload_n 0, 1) := by decide +kernel
theorem dX0_init_29 : decode cX0_init 29 = .ok (.iconst 3, 1) := by decide +kernel
theorem dX0_init_30 : decode cX0_init 30 = .ok (.newarray .long, 2) := by decide +kernel
theorem dX0_init_32 : decode cX0_init 32 = .ok (.putfield 24, 3) := by decide +kernel
theorem dX0_init_35 : decode cX0_init 35 = .ok (.aload_n 0, 1) := by decide +kernel
theorem dX0_init_36 : decode cX0_init 36 = .ok (.iconst 3, 1) := by decide +kernel
theorem dX0_init_37 : decode cX0_init 37 = .ok (.newarray .long, 2) := by decide +kernel
theorem dX0_init_39 : decode cX0_init 39 = .ok (.putfield 27, 3) := by decide +kernel
theorem dX0_init_42 : decode cX0_init 42 = .ok (.aload_n 0, 1) := by decide +kernel
theorem dX0_init_43 : decode cX0_init 43 = .ok (.iconst 3, 1) := by decide +kernel
theorem dX0_init_44 : decode cX0_init 44 = .ok (.newarray .long, 2) := by decide +kernel
theorem dX0_init_46 : decode cX0_init 46 = .ok (.putfield 30, 3) := by decide +kernel
theorem dX0_init_49 : decode cX0_init 49 = .ok (.aload_n 0, 1) := by decide +kernel
theorem dX0_init_50 : decode cX0_init 50 = .ok (.bipush 6, 2) := by decide +kernel
theorem dX0_init_52 : decode cX0_init 52 = .ok (.anewarray 33, 3) := by decide +kernel
theorem dX0_init_55 : decode cX0_init 55 = .ok (.putfield 35, 3) := by decide +kernel
theorem dX0_init_58 : decode cX0_init 58 = .ok (.aload_n 0, 1) := by decide +kernel
theorem dX0_init_59 : decode cX0_init 59 = .ok (.iconst 3, 1) := by decide +kernel
theorem dX0_init_60 : decode cX0_init 60 = .ok (.newarray .int, 2) := by decide +kernel
theorem dX0_init_62 : decode cX0_init 62 = .ok (.putfield 39, 3) := by decide +kernel
theorem dX0_init_65 : decode cX0_init 65 = .ok (.aload_n 0, 1) := by decide +kernel
theorem dX0_init_66 : decode cX0_init 66 = .ok (.getfield 9, 3) := by decide +kernel
theorem dX0_init_69 : decode cX0_init 69 = .ok (.iconst 0, 1) := by decide +kernel
theorem dX0_init_70 : decode cX0_init 70 = .ok (.bipush 10, 2) := by decide +kernel
theorem dX0_init_72 : decode cX0_init 72 = .ok (.iastore, 1) := by decide +kernel
theorem dX0_init_73 : decode cX0_init 73 = .ok (.aload_n 0, 1) := by decide +kernel
theorem dX0_init_74 : decode cX0_init 74 = .ok (.getfield 9, 3) := by decide +kernel
theorem dX0_init_77 : decode cX0_init 77 = .ok (.iconst 1, 1) := by decide +kernel
theorem dX0_init_78 : decode cX0_init 78 = .ok (.bipush 60, 2) := by decide +kernel
theorem dX0_init_80 : decode cX0_init 80 = .ok (.iastore, 1) := by decide +kernel
theorem dX0_init_81 : decode cX0_init 81 = .ok (.aload_n 0, 1) := by decide +kernel
theorem dX0_init_82 : decode cX0_init 82 = .ok (.getfield 9, 3) := by decide +kernel
theorem dX0_init_85 : decode cX0_init 85 = .ok (.iconst 2, 1) := by decide +kernel
theorem dX0_init_86 : decode cX0_init 86 = .ok (.sipush 500, 3) := by decide +kernel
theorem dX0_init_89 : decode cX0_init 89 = .ok (.iastore, 1) := by decide +kernel
theorem dX0_init_90 : decode cX0_init 90 = .ok (.aload_n 0, 1) := by decide +kernel
theorem dX0_init_91 : decode cX0_init 91 = .ok (.getfield 9, 3) := by decide +kernel
theorem dX0_init_94 : decode cX0_init 94 = .ok (.iconst 3, 1) := by decide +kernel
theorem dX0_init_95 : decode cX0_init 95 = .ok (.sipush 2000, 3) := by decide +kernel
theorem dX0_init_98 : decode cX0_init 98 = .ok (.iastore, 1) := by decide +kernel
theorem dX0_init_99 : decode cX0_init 99 = .ok (.iconst 0, 1) := by decide +kernel
theorem dX0_init_100 : decode cX0_init 100 = .ok (.istore_n 1, 1) := by decide +kernel
theorem dX0_init_101 : decode cX0_init 101 = .ok (.iload_n 1, 1) := by decide +kernel
theorem dX0_init_102 : decode cX0_init 102 = .ok (.iconst 3, 1) := by decide +kernel
theorem dX0_init_103 : decode cX0_init 103 = .ok (.if_icmp .ge 19, 3) := by decide +kernel
theorem dX0_init_106 : decode cX0_init 106 = .ok (.aload_n 0, 1) := by decide +kernel
theorem dX0_init_107 : decode cX0_init 107 = .ok (.getfield 17, 3) := by decide +kernel
theorem dX0_init_110 : decode cX0_init 110 = .ok (.iconst 0, 1) := by decide +kernel
theorem dX0_init_111 : decode cX0_init 111 = .ok (.aaload, 1) := by decide +kernel
theorem dX0_init_112 : decode cX0_init 112 = .ok (.iload_n 1, 1) := by decide +kernel
theorem dX0_init_113 : decode cX0_init 113 = .ok (.bipush 100, 2) := by decide +kernel
theorem dX0_init_115 : decode cX0_init 115 = .ok (.iastore, 1) := by decide +kernel
theorem dX0_init_116 : decode cX0_init 116 = .ok (.iinc 1 1, 3) := by decide +kernel
theorem dX0_init_119 : decode cX0_init 119 = .ok (.goto (-18), 3) := by decide +kernel
theorem dX0_init_122 : decode cX0_init 122 = .ok (.iconst 0, 1) := by decide +kernel
theorem dX0_init_123 : decode cX0_init 123 = .ok (.istore_n 1, 1) := by decide +kernel
theorem dX0_init_124 : decode cX0_init 124 = .ok (.iload_n 1, 1) := by decide +kernel
theorem dX0_init_125 : decode cX0_init 125 = .ok (.bipush 6, 2) := by decide +kernel
theorem dX0_init_127 : decode cX0_init 127 = .ok (.if_icmp .ge 22, 3) := by decide +kernel
theorem dX0_init_130 : decode cX0_init 130 = .ok (.aload_n 0, 1) := by decide +kernel
theorem dX0_init_131 : decode cX0_init 131 = .ok (.getfield 35, 3) := by decide +kernel
theorem dX0_init_134 : decode cX0_init 134 = .ok (.iload_n 1, 1) := by decide +kernel
theorem dX0_init_135 : decode cX0_init 135 = .ok (.new 33, 3) := by decide +kernel
theorem dX0_init_138 : decode cX0_init 138 = .ok (.dup, 1) := by decide +kernel
theorem dX0_init_139 : decode cX0_init 139 = .ok (.invokespecial 42, 3) := by decide +kernel
theorem dX0_init_142 : decode cX0_init 142 = .ok (.aastore, 1) := by decide +kernel
theorem dX0_init_143 : decode cX0_init 143 = .ok (.iinc 1 1, 3) := by decide +kernel
theorem dX0_init_146 : decode cX0_init 146 = .ok (.goto (-22), 3) := by decide +kernel
theorem dX0_init_149 : decode cX0_init 149 = .ok (.aload_n 0, 1) := by decide +kernel
theorem dX0_init_150 : decode cX0_init 150 = .ok (.getfield 39, 3) := by decide +kernel
theorem dX0_init_153 : decode cX0_init 153 = .ok (.iconst 0, 1) := by decide +kernel
theorem dX0_init_154 : decode cX0_init 154 = .ok (.iconst 0, 1) := by decide +kernel
theorem dX0_init_155 : decode cX0_init 155 = .ok (.iastore, 1) := by decide +kernel
theorem dX0_init_156 : decode cX0_init 156 = .ok (.aload_n 0, 1) := by decide +kernel
theorem dX0_init_157 : decode cX0_init 157 = .ok (.iconst 1, 1) := by decide +kernel
theorem dX0_init_158 : decode cX0_init 158 = .ok (.putfield 43, 3) := by decide +kernel
theorem dX0_init_161 : decode cX0_init 161 = .ok (.return_, 1) := by decide +kernel
set_option maxRecDepth 20000 in
theorem ggX0_become_X4_become : GoodIn wsX0_become wsX4_become := goodIn_r _ [20, 21, 22, 4, 5, 6, 23, 24, 25, 26, 27, 39, 40, 41, 42, 43, 44] (by decide +kernel) (by decide +kernel)
set_option maxRecDepth 20000 in
theorem gX0_become_X4_become : GoodIn wsX0_become (wsV RX0 59 RX4 yX4_become wsX4_become) := goodIn_app (goodIn_of _ (by decide +kernel)) ggX0_become_X4_become
theorem dX0_become_0 : decode cX0_become 0 = .ok (.aload_n 0, 1) := by decide +kernel
theorem dX0_become_1 : decode cX0_become 1 = .ok (.aload_n 1, 1) := by decide +kernel
theorem dX0_become_2 : decode cX0_become 2 = .ok (.getfield 47, 3) := by decide +kernel
theorem dX0_become_5 : decode cX0_become 5 = .ok (.putfield 47, 3) := by decide +kernel
theorem dX0_become_8 : decode cX0_become 8 = .ok (.aload_n 1, 1) := by decide +kernel
theorem dX0_become_9 : decode cX0_become 9 = .ok (.getfield 9, 3) := by decide +kernel
theorem dX0_become_12 : decode cX0_become 12 = .ok (.iconst 0, 1) := by decide +kernel
theorem dX0_become_13 : decode cX0_become 13 = .ok (.aload_n 0, 1) := by decide +kernel
theorem dX0_become_14 : decode cX0_become 14 = .ok (.getfield 9, 3) := by decide +kernel
theorem dX0_become_17 : decode cX0_become 17 = .ok (.iconst 0, 1) := by decide +kernel
theorem dX0_become_18 : decode cX0_become 18 = .ok (.iconst 5, 1) := by decide +kernel
theorem dX0_become_19 : decode cX0_become 19 = .ok (.invokestatic 50, 3) := by decide +kernel
theorem dX0_become_22 : decode cX0_become 22 = .ok (.iconst 0, 1) := by decide +kernel
theorem dX0_become_23 : decode cX0_become 23 = .ok (.istore_n 2, 1) := by decide +kernel
theorem dX0_become_24 : decode cX0_become 24 = .ok (.iload_n 2, 1) := by decide +kernel
theorem dX0_become_25 : decode cX0_become 25 = .ok (.iconst 4, 1) := by decide +kernel
theorem dX0_become_26 : decode cX0_become 26 = .ok (.if_icmp .ge 27, 3) := by decide +kernel
theorem dX0_become_29 : decode cX0_become 29 = .ok (.aload_n 1, 1) := by decide +kernel
theorem dX0_become_30 : decode cX0_become 30 = .ok (.getfield 17, 3) := by decide +kernel
theorem dX0_become_33 : decode cX0_become 33 = .ok (.iload_n 2, 1) := by decide +kernel
theorem dX0_become_34 : decode cX0_become 34 = .ok (.aaload, 1) := by decide +kernel
theorem dX0_become_35 : decode cX0_become 35 = .ok (.iconst 0, 1) := by decide +kernel
theorem dX0_become_36 : decode cX0_become 36 = .ok (.aload_n 0, 1) := by decide +kernel
theorem dX0_become_37 : decode cX0_become 37 = .ok (.getfield 17, 3) := by decide +kernel
theorem dX0_become_40 : decode cX0_become 40 = .ok (.iload_n 2, 1) := by decide +kernel
theorem dX0_become_41 : decode cX0_become 41 = .ok (.aaload, 1) := by decide +kernel
theorem dX0_become_42 : decode cX0_become 42 = .ok (.iconst 0, 1) := by decide +kernel
theorem dX0_become_43 : decode cX0_become 43 = .ok (.iconst 3, 1) := by decide +kernel
theorem dX0_become_44 : decode cX0_become 44 = .ok (.invokestatic 50, 3) := by decide +kernel
theorem dX0_become_47 : decode cX0_become 47 = .ok (.iinc 2 1, 3) := by decide +kernel
theorem dX0_become_50 : decode cX0_become 50 = .ok (.goto (-26), 3) := by decide +kernel
theorem dX0_become_53 : decode cX0_become 53 = .ok (.aload_n 1, 1) := by decide +kernel
theorem dX0_become_54 : decode cX0_become 54 = .ok (.getfield 20, 3) := by decide +kernel
theorem dX0_become_57 : decode cX0_become 57 = .ok (.iconst 0, 1) := by decide +kernel
theorem dX0_become_58 : decode cX0_become 58 = .ok (.aload_n 0, 1) := by decide +kernel
theorem dX0_become_59 : decode cX0_become 59 = .ok (.getfield 20, 3) := by decide +kernel
theorem dX0_become_62 : decode cX0_become 62 = .ok (.iconst 0, 1) := by decide +kernel
theorem dX0_become_63 : decode cX0_become 63 = .ok (.iconst 3, 1) := by decide +kernel
theorem dX0_become_64 : decode cX0_become 64 = .ok (.invokestatic 50, 3) := by decide +kernel
theorem dX0_become_67 : decode cX0_become 67 = .ok (.aload_n 1, 1) := by decide +kernel
theorem dX0_become_68 : decode cX0_become 68 = .ok (.getfield 24, 3) := by decide +kernel
theorem dX0_become_71 : decode cX0_become 71 = .ok (.iconst 0, 1) := by decide +kernel
theorem dX0_become_72 : decode cX0_become 72 = .ok (.aload_n 0, 1) := by decide +kernel
theorem dX0_become_73 : decode cX0_become 73 = .ok (.getfield 24, 3) := by decide +kernel
theorem dX0_become_76 : decode cX0_become 76 = .ok (.iconst 0, 1) := by decide +kernel
theorem dX0_become_77 : decode cX0_become 77 = .ok (.iconst 3, 1) := by decide +kernel
theorem dX0_become_78 : decode cX0_become 78 = .ok (.invokestatic 50, 3) := by decide +kernel
theorem dX0_become_81 : decode cX0_become 81 = .ok (.aload_n 1, 1) := by decide +kernel
theorem dX0_become_82 : decode cX0_become 82 = .ok (.getfield 27, 3) := by decide +kernel
theorem dX0_become_85 : decode cX0_become 85 = .ok (.iconst 0, 1) := by decide +kernel
theorem dX0_become_86 : decode cX0_become 86 = .ok (.aload_n 0, 1) := by decide +kernel
theorem dX0_become_87 : decode cX0_become 87 = .ok (.getfield 27, 3) := by decide +kernel
theorem dX0_become_90 : decode cX0_become 90 = .ok (.iconst 0, 1) := by decide +kernel
theorem dX0_become_91 : decode cX0_become 91 = .ok (.iconst 3, 1) := by decide +kernel
theorem dX0_become_92 : decode cX0_become 92 = .ok (.invokestatic 50, 3) := by decide +kernel
theorem dX0_become_95 : decode cX0_become 95 = .ok (.aload_n 1, 1) := by decide +kernel
theorem dX0_become_96 : decode cX0_become 96 = .ok (.getfield 30, 3) := by decide +kernel
theorem dX0_become_99 : decode cX0_become 99 = .ok (.iconst 0, 1) := by decide +kernel
theorem dX0_become_100 : decode cX0_become 100 = .ok (.aload_n 0, 1) := by decide +kernel
theorem dX0_become_101 : decode cX0_become 101 = .ok (.getfield 30, 3) := by decide +kernel
theorem dX0_become_104 : decode cX0_become 104 = .ok (.iconst 0, 1) := by decide +kernel
theorem dX0_become_105 : decode cX0_become 105 = .ok (.iconst 3, 1) := by decide +kernel
theorem dX0_become_106 : decode cX0_become 106 = .ok (.invokestatic 50, 3) := by decide +kernel
theorem dX0_become_109 : decode cX0_become 109 = .ok (.aload_n 0, 1) := by decide +kernel
theorem dX0_become_110 : decode cX0_become 110 = .ok (.aload_n 1, 1) := by decide +kernel
theorem dX0_become_111 : decode cX0_become 111 = .ok (.getfield 56, 3) := by decide +kernel
theorem dX0_become_114 : decode cX0_become 114 = .ok (.putfield 56, 3) := by decide +kernel
theorem dX0_become_117 : decode cX0_become 117 = .ok (.iconst 0, 1) := by decide +kernel
theorem dX0_become_118 : decode cX0_become 118 = .ok (.istore_n 2, 1) := by decide +kernel
theorem dX0_become_119 : decode cX0_become 119 = .ok (.iload_n 2, 1) := by decide +kernel
theorem dX0_become_120 : decode cX0_become 120 = .ok (.bipush 6, 2) := by decide +kernel
theorem dX0_become_122 : decode cX0_become 122 = .ok (.if_icmp .ge 24, 3) := by decide +kernel
theorem dX0_become_125 : decode cX0_become 125 = .ok (.aload_n 0, 1) := by decide +kernel
theorem dX0_become_126 : decode cX0_become 126 = .ok (.getfield 35, 3) := by decide +kernel
theorem dX0_become_129 : decode cX0_become 129 = .ok (.iload_n 2, 1) := by decide +kernel
theorem dX0_become_130 : decode cX0_become 130 = .ok (.aaload, 1) := by decide +kernel
theorem dX0_become_131 : decode cX0_become 131 = .ok (.aload_n 1, 1) := by decide +kernel
theorem dX0_become_132 : decode cX0_become 132 = .ok (.getfield 35, 3) := by decide +kernel
theorem dX0_become_135 : decode cX0_become 135 = .ok (.iload_n 2, 1) := by decide +kernel
theorem dX0_become_136 : decode cX0_become 136 = .ok (.aaload, 1) := by decide +kernel
theorem dX0_become_137 : decode cX0_become 137 = .ok (.invokevirtual 59, 3) := by decide +kernel
theorem dX0_become_140 : decode cX0_become 140 = .ok (.iinc 2 1, 3) := by decide +kernel
theorem dX0_become_143 : decode cX0_become 143 = .ok (.goto (-24), 3) := by decide +kernel
theorem dX0_become_146 : decode cX0_become 146 = .ok (.aload_n 1, 1) := by decide +kernel
theorem dX0_become_147 : decode cX0_become 147 = .ok (.getfield 39, 3) := by decide +kernel
theorem dX0_become_150 : decode cX0_become 150 = .ok (.iconst 0, 1) := by decide +kernel
theorem dX0_become_151 : decode cX0_become 151 = .ok (.aload_n 0, 1) := by decide +kernel
theorem dX0_become_152 : decode cX0_become 152 = .ok (.getfield 39, 3) := by decide +kernel
theorem dX0_become_155 : decode cX0_become 155 = .ok (.iconst 0, 1) := by decide +kernel
theorem dX0_become_156 : decode cX0_become 156 = .ok (.iconst 3, 1) := by decide +kernel
theorem dX0_become_157 : decode cX0_become 157 = .ok (.invokestatic 50, 3) := by decide +kernel
theorem dX0_become_160 : decode cX0_become 160 = .ok (.aload_n 0, 1) := by decide +kernel
theorem dX0_become_161 : decode cX0_become 161 = .ok (.aload_n 1, 1) := by decide +kernel
theorem dX0_become_162 : decode cX0_become 162 = .ok (.getfield 43, 3) := by decide +kernel
theorem dX0_become_165 : decode cX0_become 165 = .ok (.putfield 43, 3) := by decide +kernel
theorem dX0_become_168 : decode cX0_become 168 = .ok (.return_, 1) := by decide +kernel
set_option maxRecDepth 20000 in
theorem ggX0_number_X0_rate : GoodIn wsX0_number wsX0_rate := goodIn_r _ [11, 2, 5, 12, 13, 14, 15, 16, 17, 18, 27, 28, 29, 30, 31, 32, 33, 34, 35, 36, 37] (by decide +kernel) (by decide +kernel)
set_option maxRecDepth 20000 in
theorem gX0_number_X0_rate : GoodIn wsX0_number (wsV RX0 63 RX0 yX0_rate wsX0_rate) := goodIn_app (goodIn_of _ (by decide +kernel)) ggX0_number_X0_rate
set_option maxRecDepth 20000 in
theorem ggX0_number_X0_wheelMomentum : GoodIn wsX0_number wsX0_wheelMomentum := goodIn_r _ [22, 23, 24, 25, 26, 27, 28, 29, 30, 31, 32, 33, 34, 35, 36, 37, 38, 39, 40, 41, 42, 43] (by decide +kernel) (by decide +kernel)
set_option maxRecDepth 20000 in
theorem gX0_number_X0_wheelMomentum : GoodIn wsX0_number (wsV RX0 67 RX0 yX0_wheelMomentum wsX0_wheelMomentum) := goodIn_app (goodIn_of _ (by decide +kernel)) ggX0_number_X0_wheelMomentum
theorem dX0_number_0 : decode cX0_number 0 = .ok (.iload_n 2, 1) := by decide +kernel
theorem dX0_number_1 : decode cX0_number 1 = .ok (.tableswitch 102 0 9 #[55, 62, 69, 75, 88, 102, 102, 102, 102, 95], 55) := by decide +kernel
theorem dX0_number_56 : decode cX0_number 56 = .ok (.aload_n 0, 1) := by decide +kernel
theorem dX0_number_57 : decode cX0_number 57 = .ok (.getfield 20, 3) := by decide +kernel
theorem dX0_number_60 : decode cX0_number 60 = .ok (.iload_n 1, 1) := by decide +kernel
theorem dX0_number_61 : decode cX0_number 61 = .ok (.laload, 1) := by decide +kernel
theorem dX0_number_62 : decode cX0_number 62 = .ok (.lreturn, 1) := by decide +kernel
theorem dX0_number_63 : decode cX0_number 63 = .ok (.aload_n 0, 1) := by decide +kernel
theorem dX0_number_64 : decode cX0_number 64 = .ok (.getfield 24, 3) := by decide +kernel
theorem dX0_number_67 : decode cX0_number 67 = .ok (.iload_n 1, 1) := by decide +kernel
theorem dX0_number_68 : decode cX0_number 68 = .ok (.laload, 1) := by decide +kernel
theorem dX0_number_69 : decode cX0_number 69 = .ok (.lreturn, 1) := by decide +kernel
theorem dX0_number_70 : decode cX0_number 70 = .ok (.aload_n 0, 1) := by decide +kernel
theorem dX0_number_71 : decode cX0_number 71 = .ok (.iload_n 1, 1) := by decide +kernel
theorem dX0_number_72 : decode cX0_number 72 = .ok (.invokevirtual 63, 3) := by decide +kernel
theorem dX0_number_75 : decode cX0_number 75 = .ok (.lreturn, 1) := by decide +kernel
theorem dX0_number_76 : decode cX0_number 76 = .ok (.aload_n 0, 1) := by decide +kernel
theorem dX0_number_77 : decode cX0_number 77 = .ok (.getfield 24, 3) := by decide +kernel
theorem dX0_number_80 : decode cX0_number 80 = .ok (.iload_n 1, 1) := by decide +kernel
theorem dX0_number_81 : decode cX0_number 81 = .ok (.laload, 1) := by decide +kernel
theorem dX0_number_82 : decode cX0_number 82 = .ok (.aload_n 0, 1) := by decide +kernel
theorem dX0_number_83 : decode cX0_number 83 = .ok (.iload_n 1, 1) := by decide +kernel
theorem dX0_number_84 : decode cX0_number 84 = .ok (.invokevirtual 67, 3) := by decide +kernel
theorem dX0_number_87 : decode cX0_number 87 = .ok (.ladd, 1) := by decide +kernel
theorem dX0_number_88 : decode cX0_number 88 = .ok (.lreturn, 1) := by decide +kernel
theorem dX0_number_89 : decode cX0_number 89 = .ok (.aload_n 0, 1) := by decide +kernel
theorem dX0_number_90 : decode cX0_number 90 = .ok (.getfield 27, 3) := by decide +kernel
theorem dX0_number_93 : decode cX0_number 93 = .ok (.iload_n 1, 1) := by decide +kernel
theorem dX0_number_94 : decode cX0_number 94 = .ok (.laload, 1) := by decide +kernel
theorem dX0_number_95 : decode cX0_number 95 = .ok (.lreturn, 1) := by decide +kernel
theorem dX0_number_96 : decode cX0_number 96 = .ok (.aload_n 0, 1) := by decide +kernel
theorem dX0_number_97 : decode cX0_number 97 = .ok (.getfield 30, 3) := by decide +kernel
theorem dX0_number_100 : decode cX0_number 100 = .ok (.iload_n 1, 1) := by decide +kernel
theorem dX0_number_101 : decode cX0_number 101 = .ok (.laload, 1) := by decide +kernel
theorem dX0_number_102 : decode cX0_number 102 = .ok (.lreturn, 1) := by decide +kernel
theorem dX0_number_103 : decode cX0_number 103 = .ok (.iload_n 2, 1) := by decide +kernel
theorem dX0_number_104 : decode cX0_number 104 = .ok (.iconst 5, 1) := by decide +kernel
theorem dX0_number_105 : decode cX0_number 105 = .ok (.if_icmp .lt 23, 3) := by decide +kernel
theorem dX0_number_108 : decode cX0_number 108 = .ok (.iload_n 2, 1) := by decide +kernel
theorem dX0_number_109 : decode cX0_number 109 = .ok (.bipush 9, 2) := by decide +kernel
theorem dX0_number_111 : decode cX0_number 111 = .ok (.if_icmp .ge 17, 3) := by decide +kernel
theorem dX0_number_114 : decode cX0_number 114 = .ok (.aload_n 0, 1) := by decide +kernel
theorem dX0_number_115 : decode cX0_number 115 = .ok (.getfield 17, 3) := by decide +kernel
theorem dX0_number_118 : decode cX0_number 118 = .ok (.iload_n 2, 1) := by decide +kernel
theorem dX0_number_119 : decode cX0_number 119 = .ok (.iconst 5, 1) := by decide +kernel
theorem dX0_number_120 : decode cX0_number 120 = .ok (.isub, 1) := by decide +kernel
theorem dX0_number_121 : decode cX0_number 121 = .ok (.aaload, 1) := by decide +kernel
theorem dX0_number_122 : decode cX0_number 122 = .ok (.iload_n 1, 1) := by decide +kernel
theorem dX0_number_123 : decode cX0_number 123 = .ok (.iaload, 1) := by decide +kernel
theorem dX0_number_124 : decode cX0_number 124 = .ok (.i2l, 1) := by decide +kernel
theorem dX0_number_125 : decode cX0_number 125 = .ok (.goto 6, 3) := by decide +kernel
theorem dX0_number_128 : decode cX0_number 128 = .ok (.ldc2_w 70, 3) := by decide +kernel
theorem dX0_number_131 : decode cX0_number 131 = .ok (.lreturn, 1) := by decide +kernel
set_option maxRecDepth 20000 in
theorem ggX0_rate_X5_quotient : GoodIn wsX0_rate wsX5_quotient := goodIn_r _ [5, 6, 7, 8, 9] (by decide +kernel) (by decide +kernel)
set_option maxRecDepth 20000 in
theorem gX0_rate_X5_quotient_n72 : GoodIn wsX0_rate (wsX5_quotient) := ggX0_rate_X5_quotient
theorem dX0_rate_0 : decode cX0_rate 0 = .ok (.aload_n 0, 1) := by decide +kernel
theorem dX0_rate_1 : decode cX0_rate 1 = .ok (.getfield 24, 3) := by decide +kernel
theorem dX0_rate_4 : decode cX0_rate 4 = .ok (.iload_n 1, 1) := by decide +kernel
theorem dX0_rate_5 : decode cX0_rate 5 = .ok (.laload, 1) := by decide +kernel
theorem dX0_rate_6 : decode cX0_rate 6 = .ok (.aload_n 0, 1) := by decide +kernel
theorem dX0_rate_7 : decode cX0_rate 7 = .ok (.getfield 17, 3) := by decide +kernel
theorem dX0_rate_10 : decode cX0_rate 10 = .ok (.iconst 0, 1) := by decide +kernel
theorem dX0_rate_11 : decode cX0_rate 11 = .ok (.aaload, 1) := by decide +kernel
theorem dX0_rate_12 : decode cX0_rate 12 = .ok (.iload_n 1, 1) := by decide +kernel
theorem dX0_rate_13 : decode cX0_rate 13 = .ok (.iaload, 1) := by decide +kernel
theorem dX0_rate_14 : decode cX0_rate 14 = .ok (.i2l, 1) := by decide +kernel
theorem dX0_rate_15 : decode cX0_rate 15 = .ok (.invokestatic 72, 3) := by decide +kernel
theorem dX0_rate_18 : decode cX0_rate 18 = .ok (.lreturn, 1) := by decide +kernel
theorem dX0_wheelMomentum_0 : decode cX0_wheelMomentum 0 = .ok (.lconst 0, 1) := by decide +kernel
theorem dX0_wheelMomentum_1 : decode cX0_wheelMomentum 1 = .ok (.lstore_n 2, 1) := by decide +kernel
theorem dX0_wheelMomentum_2 : decode cX0_wheelMomentum 2 = .ok (.iconst 0, 1) := by decide +kernel
theorem dX0_wheelMomentum_3 : decode cX0_wheelMomentum 3 = .ok (.istore 4, 2) := by decide +kernel
theorem dX0_wheelMomentum_5 : decode cX0_wheelMomentum 5 = .ok (.iload 4, 2) := by decide +kernel
theorem dX0_wheelMomentum_7 : decode cX0_wheelMomentum 7 = .ok (.aload_n 0, 1) := by decide +kernel
theorem dX0_wheelMomentum_8 : decode cX0_wheelMomentum 8 = .ok (.getfield 56, 3) := by decide +kernel
theorem dX0_wheelMomentum_11 : decode cX0_wheelMomentum 11 = .ok (.if_icmp .ge 37, 3) := by decide +kernel
theorem dX0_wheelMomentum_14 : decode cX0_wheelMomentum 14 = .ok (.lload_n 2, 1) := by decide +kernel
theorem dX0_wheelMomentum_15 : decode cX0_wheelMomentum 15 = .ok (.aload_n 0, 1) := by decide +kernel
theorem dX0_wheelMomentum_16 : decode cX0_wheelMomentum 16 = .ok (.getfield 35, 3) := by decide +kernel
theorem dX0_wheelMomentum_19 : decode cX0_wheelMomentum 19 = .ok (.iload 4, 2) := by decide +kernel
theorem dX0_wheelMomentum_21 : decode cX0_wheelMomentum 21 = .ok (.aaload, 1) := by decide +kernel
theorem dX0_wheelMomentum_22 : decode cX0_wheelMomentum 22 = .ok (.getfield 76, 3) := by decide +kernel
theorem dX0_wheelMomentum_25 : decode cX0_wheelMomentum 25 = .ok (.iload_n 1, 1) := by decide +kernel
theorem dX0_wheelMomentum_26 : decode cX0_wheelMomentum 26 = .ok (.iaload, 1) := by decide +kernel
theorem dX0_wheelMomentum_27 : decode cX0_wheelMomentum 27 = .ok (.i2l, 1) := by decide +kernel
theorem dX0_wheelMomentum_28 : decode cX0_wheelMomentum 28 = .ok (.aload_n 0, 1) := by decide +kernel
theorem dX0_wheelMomentum_29 : decode cX0_wheelMomentum 29 = .ok (.getfield 35, 3) := by decide +kernel
theorem dX0_wheelMomentum_32 : decode cX0_wheelMomentum 32 = .ok (.iload 4, 2) := by decide +kernel
theorem dX0_wheelMomentum_34 : decode cX0_wheelMomentum 34 = .ok (.aaload, 1) := by decide +kernel
theorem dX0_wheelMomentum_35 : decode cX0_wheelMomentum 35 = .ok (.getfield 79, 3) := by decide +kernel
theorem dX0_wheelMomentum_38 : decode cX0_wheelMomentum 38 = .ok (.i2l, 1) := by decide +kernel
theorem dX0_wheelMomentum_39 : decode cX0_wheelMomentum 39 = .ok (.lmul, 1) := by decide +kernel
theorem dX0_wheelMomentum_40 : decode cX0_wheelMomentum 40 = .ok (.ladd, 1) := by decide +kernel
theorem dX0_wheelMomentum_41 : decode cX0_wheelMomentum 41 = .ok (.lstore_n 2, 1) := by decide +kernel
theorem dX0_wheelMomentum_42 : decode cX0_wheelMomentum 42 = .ok (.iinc 4 1, 3) := by decide +kernel
theorem dX0_wheelMomentum_45 : decode cX0_wheelMomentum 45 = .ok (.goto (-40), 3) := by decide +kernel
theorem dX0_wheelMomentum_48 : decode cX0_wheelMomentum 48 = .ok (.lload_n 2, 1) := by decide +kernel
theorem dX0_wheelMomentum_49 : decode cX0_wheelMomentum 49 = .ok (.lreturn, 1) := by decide +kernel
theorem dX0_aside_0 : decode cX0_aside 0 = .ok (.aload_n 0, 1) := by decide +kernel
theorem dX0_aside_1 : decode cX0_aside 1 = .ok (.getfield 17, 3) := by decide +kernel
theorem dX0_aside_4 : decode cX0_aside 4 = .ok (.iconst 1, 1) := by decide +kernel
theorem dX0_aside_5 : decode cX0_aside 5 = .ok (.aaload, 1) := by decide +kernel
theorem dX0_aside_6 : decode cX0_aside 6 = .ok (.iload_n 1, 1) := by decide +kernel
theorem dX0_aside_7 : decode cX0_aside 7 = .ok (.iaload, 1) := by decide +kernel
theorem dX0_aside_8 : decode cX0_aside 8 = .ok (.i2l, 1) := by decide +kernel
theorem dX0_aside_9 : decode cX0_aside 9 = .ok (.aload_n 0, 1) := by decide +kernel
theorem dX0_aside_10 : decode cX0_aside 10 = .ok (.getfield 20, 3) := by decide +kernel
theorem dX0_aside_13 : decode cX0_aside 13 = .ok (.iload_n 1, 1) := by decide +kernel
theorem dX0_aside_14 : decode cX0_aside 14 = .ok (.laload, 1) := by decide +kernel
theorem dX0_aside_15 : decode cX0_aside 15 = .ok (.lsub, 1) := by decide +kernel
theorem dX0_aside_16 : decode cX0_aside 16 = .ok (.invokestatic 81, 3) := by decide +kernel
theorem dX0_aside_19 : decode cX0_aside 19 = .ok (.lreturn, 1) := by decide +kernel
set_option maxRecDepth 20000 in
theorem ggX0_offTarget_X0_aside : GoodIn wsX0_offTarget wsX0_aside := goodIn_r _ [5, 6, 7, 8, 9, 10, 11, 12, 13, 14, 15, 16, 17, 18, 19, 20, 21, 22] (by decide +kernel) (by decide +kernel)
set_option maxRecDepth 20000 in
theorem gX0_offTarget_X0_aside : GoodIn wsX0_offTarget (wsV RX0 87 RX0 yX0_aside wsX0_aside) := goodIn_app (goodIn_of _ (by decide +kernel)) ggX0_offTarget_X0_aside
theorem dX0_offTarget_0 : decode cX0_offTarget 0 = .ok (.lconst 0, 1) := by decide +kernel
theorem dX0_offTarget_1 : decode cX0_offTarget 1 = .ok (.lstore_n 1, 1) := by decide +kernel
theorem dX0_offTarget_2 : decode cX0_offTarget 2 = .ok (.iconst 0, 1) := by decide +kernel
theorem dX0_offTarget_3 : decode cX0_offTarget 3 = .ok (.istore_n 3, 1) := by decide +kernel
theorem dX0_offTarget_4 : decode cX0_offTarget 4 = .ok (.iload_n 3, 1) := by decide +kernel
theorem dX0_offTarget_5 : decode cX0_offTarget 5 = .ok (.iconst 3, 1) := by decide +kernel
theorem dX0_offTarget_6 : decode cX0_offTarget 6 = .ok (.if_icmp .ge 17, 3) := by decide +kernel
theorem dX0_offTarget_9 : decode cX0_offTarget 9 = .ok (.lload_n 1, 1) := by decide +kernel
theorem dX0_offTarget_10 : decode cX0_offTarget 10 = .ok (.aload_n 0, 1) := by decide +kernel
theorem dX0_offTarget_11 : decode cX0_offTarget 11 = .ok (.iload_n 3, 1) := by decide +kernel
theorem dX0_offTarget_12 : decode cX0_offTarget 12 = .ok (.invokevirtual 87, 3) := by decide +kernel
theorem dX0_offTarget_15 : decode cX0_offTarget 15 = .ok (.ladd, 1) := by decide +kernel
theorem dX0_offTarget_16 : decode cX0_offTarget 16 = .ok (.lstore_n 1, 1) := by decide +kernel
theorem dX0_offTarget_17 : decode cX0_offTarget 17 = .ok (.iinc 3 1, 3) := by decide +kernel
theorem dX0_offTarget_20 : decode cX0_offTarget 20 = .ok (.goto (-16), 3) := by decide +kernel
theorem dX0_offTarget_23 : decode cX0_offTarget 23 = .ok (.lload_n 1, 1) := by decide +kernel
theorem dX0_offTarget_24 : decode cX0_offTarget 24 = .ok (.lreturn, 1) := by decide +kernel
set_option maxRecDepth 20000 in
theorem ggX0_isOnTarget_X0_aside : GoodIn wsX0_isOnTarget wsX0_aside := goodIn_r _ [9, 10, 11, 1, 2, 3, 4, 24, 25, 26, 27, 28, 29, 30, 31, 32, 33, 34] (by decide +kernel) (by decide +kernel)
set_option maxRecDepth 20000 in
theorem gX0_isOnTarget_X0_aside : GoodIn wsX0_isOnTarget (wsV RX0 87 RX0 yX0_aside wsX0_aside) := goodIn_app (goodIn_of _ (by decide +kernel)) ggX0_isOnTarget_X0_aside
set_option maxRecDepth 20000 in
theorem ggX0_isOnTarget_X0_rate : GoodIn wsX0_isOnTarget wsX0_rate := goodIn_r _ [15, 16, 10, 17, 18, 19, 20, 21, 22, 23, 24, 25, 26, 27, 28, 29, 30, 31, 32, 33, 34] (by decide +kernel) (by decide +kernel)
set_option maxRecDepth 20000 in
theorem gX0_isOnTarget_X0_rate : GoodIn wsX0_isOnTarget (wsV RX0 63 RX0 yX0_rate wsX0_rate) := goodIn_app (goodIn_of _ (by decide +kernel)) ggX0_isOnTarget_X0_rate
theorem dX0_isOnTarget_0 : decode cX0_isOnTarget 0 = .ok (.iconst 0, 1) := by decide +kernel
theorem dX0_isOnTarget_1 : decode cX0_isOnTarget 1 = .ok (.istore_n 2, 1) := by decide +kernel
theorem dX0_isOnTarget_2 : decode cX0_isOnTarget 2 = .ok (.iload_n 2, 1) := by decide +kernel
theorem dX0_isOnTarget_3 : decode cX0_isOnTarget 3 = .ok (.iconst 3, 1) := by decide +kernel
theorem dX0_isOnTarget_4 : decode cX0_isOnTarget 4 = .ok (.if_icmp .ge 35, 3) := by decide +kernel
theorem dX0_isOnTarget_7 : decode cX0_isOnTarget 7 = .ok (.aload_n 0, 1) := by decide +kernel
theorem dX0_isOnTarget_8 : decode cX0_isOnTarget 8 = .ok (.iload_n 2, 1) := by decide +kernel
theorem dX0_isOnTarget_9 : decode cX0_isOnTarget 9 = .ok (.invokevirtual 87, 3) := by decide +kernel
theorem dX0_isOnTarget_12 : decode cX0_isOnTarget 12 = .ok (.iload_n 1, 1) := by decide +kernel
theorem dX0_isOnTarget_13 : decode cX0_isOnTarget 13 = .ok (.i2l, 1) := by decide +kernel
theorem dX0_isOnTarget_14 : decode cX0_isOnTarget 14 = .ok (.lcmp, 1) := by decide +kernel
theorem dX0_isOnTarget_15 : decode cX0_isOnTarget 15 = .ok (.ifCond .gt 16, 3) := by decide +kernel
theorem dX0_isOnTarget_18 : decode cX0_isOnTarget 18 = .ok (.aload_n 0, 1) := by decide +kernel
theorem dX0_isOnTarget_19 : decode cX0_isOnTarget 19 = .ok (.iload_n 2, 1) := by decide +kernel
theorem dX0_isOnTarget_20 : decode cX0_isOnTarget 20 = .ok (.invokevirtual 63, 3) := by decide +kernel
theorem dX0_isOnTarget_23 : decode cX0_isOnTarget 23 = .ok (.invokestatic 81, 3) := by decide +kernel
theorem dX0_isOnTarget_26 : decode cX0_isOnTarget 26 = .ok (.lconst 1, 1) := by decide +kernel
theorem dX0_isOnTarget_27 : decode cX0_isOnTarget 27 = .ok (.lcmp, 1) := by decide +kernel
theorem dX0_isOnTarget_28 : decode cX0_isOnTarget 28 = .ok (.ifCond .le 5, 3) := by decide +kernel
theorem dX0_isOnTarget_31 : decode cX0_isOnTarget 31 = .ok (.iconst 0, 1) := by decide +kernel
theorem dX0_isOnTarget_32 : decode cX0_isOnTarget 32 = .ok (.ireturn, 1) := by decide +kernel
theorem dX0_isOnTarget_33 : decode cX0_isOnTarget 33 = .ok (.iinc 2 1, 3) := by decide +kernel
theorem dX0_isOnTarget_36 : decode cX0_isOnTarget 36 = .ok (.goto (-34), 3) := by decide +kernel
theorem dX0_isOnTarget_39 : decode cX0_isOnTarget 39 = .ok (.iconst 1, 1) := by decide +kernel
theorem dX0_isOnTarget_40 : decode cX0_isOnTarget 40 = .ok (.ireturn, 1) := by decide +kernel
theorem dX0_isMet_0 : decode cX0_isMet 0 = .ok (.aload_n 0, 1) := by decide +kernel
theorem dX0_isMet_1 : decode cX0_isMet 1 = .ok (.getfield 39, 3) := by decide +kernel
theorem dX0_isMet_4 : decode cX0_isMet 4 = .ok (.iconst 0, 1) := by decide +kernel
theorem dX0_isMet_5 : decode cX0_isMet 5 = .ok (.iaload, 1) := by decide +kernel
theorem dX0_isMet_6 : decode cX0_isMet 6 = .ok (.ifCond .ne 7, 3) := by decide +kernel
theorem dX0_isMet_9 : decode cX0_isMet 9 = .ok (.iconst 1, 1) := by decide +kernel
theorem dX0_isMet_10 : decode cX0_isMet 10 = .ok (.goto 4, 3) := by decide +kernel
theorem dX0_isMet_13 : decode cX0_isMet 13 = .ok (.iconst 0, 1) := by decide +kernel
theorem dX0_isMet_14 : decode cX0_isMet 14 = .ok (.ireturn, 1) := by decide +kernel
set_option maxRecDepth 20000 in
theorem ggX0_findWish_X5_quotient : GoodIn wsX0_findWish wsX5_quotient := goodIn_r _ [8, 9, 10, 11, 12] (by decide +kernel) (by decide +kernel)
set_option maxRecDepth 20000 in
theorem gX0_findWish_X5_quotient_n72 : GoodIn wsX0_findWish (wsX5_quotient) := ggX0_findWish_X5_quotient
set_option maxRecDepth 20000 in
theorem ggX0_findWish_X5_limited : GoodIn wsX0_findWish wsX5_limited := goodIn_r _ [14] (by decide +kernel) (by decide +kernel)
set_option maxRecDepth 20000 in
theorem gX0_findWish_X5_limited_n92 : GoodIn wsX0_findWish (wsX5_limited) := ggX0_findWish_X5_limited
set_option maxRecDepth 20000 in
theorem ggX0_findWish_X0_rate : GoodIn wsX0_findWish wsX0_rate := goodIn_r _ [19, 20, 2, 6, 7, 8, 9, 10, 11, 12, 21, 22, 23, 24, 25, 26, 27, 28, 29, 30, 31] (by decide +kernel) (by decide +kernel)
set_option maxRecDepth 20000 in
theorem gX0_findWish_X0_rate : GoodIn wsX0_findWish (wsV RX0 63 RX0 yX0_rate wsX0_rate) := goodIn_app (goodIn_of _ (by decide +kernel)) ggX0_findWish_X0_rate
theorem dX0_findWish_0 : decode cX0_findWish 0 = .ok (.aload_n 0, 1) := by decide +kernel
theorem dX0_findWish_1 : decode cX0_findWish 1 = .ok (.getfield 9, 3) := by decide +kernel
theorem dX0_findWish_4 : decode cX0_findWish 4 = .ok (.iconst 2, 1) := by decide +kernel
theorem dX0_findWish_5 : decode cX0_findWish 5 = .ok (.iaload, 1) := by decide +kernel
theorem dX0_findWish_6 : decode cX0_findWish 6 = .ok (.i2l, 1) := by decide +kernel
theorem dX0_findWish_7 : decode cX0_findWish 7 = .ok (.lstore_n 1, 1) := by decide +kernel
theorem dX0_findWish_8 : decode cX0_findWish 8 = .ok (.aload_n 0, 1) := by decide +kernel
theorem dX0_findWish_9 : decode cX0_findWish 9 = .ok (.getfield 9, 3) := by decide +kernel
theorem dX0_findWish_12 : decode cX0_findWish 12 = .ok (.iconst 3, 1) := by decide +kernel
theorem dX0_findWish_13 : decode cX0_findWish 13 = .ok (.iaload, 1) := by decide +kernel
theorem dX0_findWish_14 : decode cX0_findWish 14 = .ok (.i2l, 1) := by decide +kernel
theorem dX0_findWish_15 : decode cX0_findWish 15 = .ok (.lstore_n 3, 1) := by decide +kernel
theorem dX0_findWish_16 : decode cX0_findWish 16 = .ok (.iconst 0, 1) := by decide +kernel
theorem dX0_findWish_17 : decode cX0_findWish 17 = .ok (.istore 5, 2) := by decide +kernel
theorem dX0_findWish_19 : decode cX0_findWish 19 = .ok (.iload 5, 2) := by decide +kernel
theorem dX0_findWish_21 : decode cX0_findWish 21 = .ok (.iconst 3, 1) := by decide +kernel
theorem dX0_findWish_22 : decode cX0_findWish 22 = .ok (.if_icmp .ge 87, 3) := by decide +kernel
theorem dX0_findWish_25 : decode cX0_findWish 25 = .ok (.aload_n 0, 1) := by decide +kernel
theorem dX0_findWish_26 : decode cX0_findWish 26 = .ok (.getfield 9, 3) := by decide +kernel
theorem dX0_findWish_29 : decode cX0_findWish 29 = .ok (.iconst 0, 1) := by decide +kernel
theorem dX0_findWish_30 : decode cX0_findWish 30 = .ok (.iaload, 1) := by decide +kernel
theorem dX0_findWish_31 : decode cX0_findWish 31 = .ok (.i2l, 1) := by decide +kernel
theorem dX0_findWish_32 : decode cX0_findWish 32 = .ok (.aload_n 0, 1) := by decide +kernel
theorem dX0_findWish_33 : decode cX0_findWish 33 = .ok (.getfield 17, 3) := by decide +kernel
theorem dX0_findWish_36 : decode cX0_findWish 36 = .ok (.iconst 1, 1) := by decide +kernel
theorem dX0_findWish_37 : decode cX0_findWish 37 = .ok (.aaload, 1) := by decide +kernel
theorem dX0_findWish_38 : decode cX0_findWish 38 = .ok (.iload 5, 2) := by decide +kernel
theorem dX0_findWish_40 : decode cX0_findWish 40 = .ok (.iaload, 1) := by decide +kernel
theorem dX0_findWish_41 : decode cX0_findWish 41 = .ok (.i2l, 1) := by decide +kernel
theorem dX0_findWish_42 : decode cX0_findWish 42 = .ok (.aload_n 0, 1) := by decide +kernel
theorem dX0_findWish_43 : decode cX0_findWish 43 = .ok (.getfield 20, 3) := by decide +kernel
theorem dX0_findWish_46 : decode cX0_findWish 46 = .ok (.iload 5, 2) := by decide +kernel
theorem dX0_findWish_48 : decode cX0_findWish 48 = .ok (.laload, 1) := by decide +kernel
theorem dX0_findWish_49 : decode cX0_findWish 49 = .ok (.lsub, 1) := by decide +kernel
theorem dX0_findWish_50 : decode cX0_findWish 50 = .ok (.lmul, 1) := by decide +kernel
theorem dX0_findWish_51 : decode cX0_findWish 51 = .ok (.lstore 6, 2) := by decide +kernel
theorem dX0_findWish_53 : decode cX0_findWish 53 = .ok (.lload 6, 2) := by decide +kernel
theorem dX0_findWish_55 : decode cX0_findWish 55 = .ok (.ldc2_w 90, 3) := by decide +kernel
theorem dX0_findWish_58 : decode cX0_findWish 58 = .ok (.invokestatic 72, 3) := by decide +kernel
theorem dX0_findWish_61 : decode cX0_findWish 61 = .ok (.lload_n 1, 1) := by decide +kernel
theorem dX0_findWish_62 : decode cX0_findWish 62 = .ok (.lneg, 1) := by decide +kernel
theorem dX0_findWish_63 : decode cX0_findWish 63 = .ok (.lload_n 1, 1) := by decide +kernel
theorem dX0_findWish_64 : decode cX0_findWish 64 = .ok (.invokestatic 92, 3) := by decide +kernel
theorem dX0_findWish_67 : decode cX0_findWish 67 = .ok (.lstore 8, 2) := by decide +kernel
theorem dX0_findWish_69 : decode cX0_findWish 69 = .ok (.aload_n 0, 1) := by decide +kernel
theorem dX0_findWish_70 : decode cX0_findWish 70 = .ok (.getfield 9, 3) := by decide +kernel
theorem dX0_findWish_73 : decode cX0_findWish 73 = .ok (.iconst 1, 1) := by decide +kernel
theorem dX0_findWish_74 : decode cX0_findWish 74 = .ok (.iaload, 1) := by decide +kernel
theorem dX0_findWish_75 : decode cX0_findWish 75 = .ok (.i2l, 1) := by decide +kernel
theorem dX0_findWish_76 : decode cX0_findWish 76 = .ok (.lload 8, 2) := by decide +kernel
theorem dX0_findWish_78 : decode cX0_findWish 78 = .ok (.aload_n 0, 1) := by decide +kernel
theorem dX0_findWish_79 : decode cX0_findWish 79 = .ok (.iload 5, 2) := by decide +kernel
theorem dX0_findWish_81 : decode cX0_findWish 81 = .ok (.invokevirtual 63, 3) := by decide +kernel
theorem dX0_findWish_84 : decode cX0_findWish 84 = .ok (.lsub, 1) := by decide +kernel
theorem dX0_findWish_85 : decode cX0_findWish 85 = .ok (.lmul, 1) := by decide +kernel
theorem dX0_findWish_86 : decode cX0_findWish 86 = .ok (.lstore 10, 2) := by decide +kernel
theorem dX0_findWish_88 : decode cX0_findWish 88 = .ok (.aload_n 0, 1) := by decide +kernel
theorem dX0_findWish_89 : decode cX0_findWish 89 = .ok (.getfield 30, 3) := by decide +kernel
theorem dX0_findWish_92 : decode cX0_findWish 92 = .ok (.iload 5, 2) := by decide +kernel
theorem dX0_findWish_94 : decode cX0_findWish 94 = .ok (.lload 10, 2) := by decide +kernel
theorem dX0_findWish_96 : decode cX0_findWish 96 = .ok (.lload_n 3, 1) := by decide +kernel
theorem dX0_findWish_97 : decode cX0_findWish 97 = .ok (.lneg, 1) := by decide +kernel
theorem dX0_findWish_98 : decode cX0_findWish 98 = .ok (.lload_n 3, 1) := by decide +kernel
theorem dX0_findWish_99 : decode cX0_findWish 99 = .ok (.invokestatic 92, 3) := by decide +kernel
theorem dX0_findWish_102 : decode cX0_findWish 102 = .ok (.lastore, 1) := by decide +kernel
theorem dX0_findWish_103 : decode cX0_findWish 103 = .ok (.iinc 5 1, 3) := by decide +kernel
theorem dX0_findWish_106 : decode cX0_findWish 106 = .ok (.goto (-87), 3) := by decide +kernel
theorem dX0_findWish_109 : decode cX0_findWish 109 = .ok (.return_, 1) := by decide +kernel
theorem dX0_pushFromOutside_0 : decode cX0_pushFromOutside 0 = .ok (.aload_n 0, 1) := by decide +kernel
theorem dX0_pushFromOutside_1 : decode cX0_pushFromOutside 1 = .ok (.getfield 24, 3) := by decide +kernel
theorem dX0_pushFromOutside_4 : decode cX0_pushFromOutside 4 = .ok (.iload_n 1, 1) := by decide +kernel
theorem dX0_pushFromOutside_5 : decode cX0_pushFromOutside 5 = .ok (.dup2, 1) := by decide +kernel
theorem dX0_pushFromOutside_6 : decode cX0_pushFromOutside 6 = .ok (.laload, 1) := by decide +kernel
theorem dX0_pushFromOutside_7 : decode cX0_pushFromOutside 7 = .ok (.lload_n 2, 1) := by decide +kernel
theorem dX0_pushFromOutside_8 : decode cX0_pushFromOutside 8 = .ok (.ladd, 1) := by decide +kernel
theorem dX0_pushFromOutside_9 : decode cX0_pushFromOutside 9 = .ok (.lastore, 1) := by decide +kernel
theorem dX0_pushFromOutside_10 : decode cX0_pushFromOutside 10 = .ok (.aload_n 0, 1) := by decide +kernel
theorem dX0_pushFromOutside_11 : decode cX0_pushFromOutside 11 = .ok (.getfield 27, 3) := by decide +kernel
theorem dX0_pushFromOutside_14 : decode cX0_pushFromOutside 14 = .ok (.iload_n 1, 1) := by decide +kernel
theorem dX0_pushFromOutside_15 : decode cX0_pushFromOutside 15 = .ok (.dup2, 1) := by decide +kernel
theorem dX0_pushFromOutside_16 : decode cX0_pushFromOutside 16 = .ok (.laload, 1) := by decide +kernel
theorem dX0_pushFromOutside_17 : decode cX0_pushFromOutside 17 = .ok (.lload_n 2, 1) := by decide +kernel
theorem dX0_pushFromOutside_18 : decode cX0_pushFromOutside 18 = .ok (.ladd, 1) := by decide +kernel
theorem dX0_pushFromOutside_19 : decode cX0_pushFromOutside 19 = .ok (.lastore, 1) := by decide +kernel
theorem dX0_pushFromOutside_20 : decode cX0_pushFromOutside 20 = .ok (.return_, 1) := by decide +kernel
set_option maxRecDepth 20000 in
theorem ggX0_disturb_X0_pushFromOutside : GoodIn wsX0_disturb wsX0_pushFromOutside := goodIn_r _ [6, 7, 8, 9, 10, 11, 12, 13, 14, 15, 16, 17, 18, 19] (by decide +kernel) (by decide +kernel)
set_option maxRecDepth 20000 in
theorem gX0_disturb_X0_pushFromOutside : GoodIn wsX0_disturb (wsV RX0 96 RX0 yX0_pushFromOutside wsX0_pushFromOutside) := goodIn_app (goodIn_of _ (by decide +kernel)) ggX0_disturb_X0_pushFromOutside
theorem dX0_disturb_0 : decode cX0_disturb 0 = .ok (.iconst 0, 1) := by decide +kernel
theorem dX0_disturb_1 : decode cX0_disturb 1 = .ok (.istore_n 1, 1) := by decide +kernel
theorem dX0_disturb_2 : decode cX0_disturb 2 = .ok (.iload_n 1, 1) := by decide +kernel
theorem dX0_disturb_3 : decode cX0_disturb 3 = .ok (.iconst 3, 1) := by decide +kernel
theorem dX0_disturb_4 : decode cX0_disturb 4 = .ok (.if_icmp .ge 23, 3) := by decide +kernel
theorem dX0_disturb_7 : decode cX0_disturb 7 = .ok (.aload_n 0, 1) := by decide +kernel
theorem dX0_disturb_8 : decode cX0_disturb 8 = .ok (.iload_n 1, 1) := by decide +kernel
theorem dX0_disturb_9 : decode cX0_disturb 9 = .ok (.aload_n 0, 1) := by decide +kernel
theorem dX0_disturb_10 : decode cX0_disturb 10 = .ok (.getfield 17, 3) := by decide +kernel
theorem dX0_disturb_13 : decode cX0_disturb 13 = .ok (.iconst 3, 1) := by decide +kernel
theorem dX0_disturb_14 : decode cX0_disturb 14 = .ok (.aaload, 1) := by decide +kernel
theorem dX0_disturb_15 : decode cX0_disturb 15 = .ok (.iload_n 1, 1) := by decide +kernel
theorem dX0_disturb_16 : decode cX0_disturb 16 = .ok (.iaload, 1) := by decide +kernel
theorem dX0_disturb_17 : decode cX0_disturb 17 = .ok (.i2l, 1) := by decide +kernel
theorem dX0_disturb_18 : decode cX0_disturb 18 = .ok (.invokevirtual 96, 3) := by decide +kernel
theorem dX0_disturb_21 : decode cX0_disturb 21 = .ok (.iinc 1 1, 3) := by decide +kernel
theorem dX0_disturb_24 : decode cX0_disturb 24 = .ok (.goto (-22), 3) := by decide +kernel
theorem dX0_disturb_27 : decode cX0_disturb 27 = .ok (.return_, 1) := by decide +kernel
set_option maxRecDepth 20000 in
theorem ggX0_turn_X0_rate : GoodIn wsX0_turn wsX0_rate := goodIn_r _ [6, 7, 8, 9, 10, 11, 12, 13, 14, 15, 16, 17, 18, 19, 20, 21, 22, 23, 24, 25, 26] (by decide +kernel) (by decide +kernel)
set_option maxRecDepth 20000 in
theorem gX0_turn_X0_rate : GoodIn wsX0_turn (wsV RX0 63 RX0 yX0_rate wsX0_rate) := goodIn_app (goodIn_of _ (by decide +kernel)) ggX0_turn_X0_rate
theorem dX0_turn_0 : decode cX0_turn 0 = .ok (.iconst 0, 1) := by decide +kernel
theorem dX0_turn_1 : decode cX0_turn 1 = .ok (.istore_n 1, 1) := by decide +kernel
theorem dX0_turn_2 : decode cX0_turn 2 = .ok (.iload_n 1, 1) := by decide +kernel
theorem dX0_turn_3 : decode cX0_turn 3 = .ok (.iconst 3, 1) := by decide +kernel
theorem dX0_turn_4 : decode cX0_turn 4 = .ok (.if_icmp .ge 23, 3) := by decide +kernel
theorem dX0_turn_7 : decode cX0_turn 7 = .ok (.aload_n 0, 1) := by decide +kernel
theorem dX0_turn_8 : decode cX0_turn 8 = .ok (.getfield 20, 3) := by decide +kernel
theorem dX0_turn_11 : decode cX0_turn 11 = .ok (.iload_n 1, 1) := by decide +kernel
theorem dX0_turn_12 : decode cX0_turn 12 = .ok (.dup2, 1) := by decide +kernel
theorem dX0_turn_13 : decode cX0_turn 13 = .ok (.laload, 1) := by decide +kernel
theorem dX0_turn_14 : decode cX0_turn 14 = .ok (.aload_n 0, 1) := by decide +kernel
theorem dX0_turn_15 : decode cX0_turn 15 = .ok (.iload_n 1, 1) := by decide +kernel
theorem dX0_turn_16 : decode cX0_turn 16 = .ok (.invokevirtual 63, 3) := by decide +kernel
theorem dX0_turn_19 : decode cX0_turn 19 = .ok (.ladd, 1) := by decide +kernel
theorem dX0_turn_20 : decode cX0_turn 20 = .ok (.lastore, 1) := by decide +kernel
theorem dX0_turn_21 : decode cX0_turn 21 = .ok (.iinc 1 1, 3) := by decide +kernel
theorem dX0_turn_24 : decode cX0_turn 24 = .ok (.goto (-22), 3) := by decide +kernel
theorem dX0_turn_27 : decode cX0_turn 27 = .ok (.return_, 1) := by decide +kernel
theorem dX0_tellMet_0 : decode cX0_tellMet 0 = .ok (.aload_n 0, 1) := by decide +kernel
theorem dX0_tellMet_1 : decode cX0_tellMet 1 = .ok (.getfield 39, 3) := by decide +kernel
theorem dX0_tellMet_4 : decode cX0_tellMet 4 = .ok (.iconst 0, 1) := by decide +kernel
theorem dX0_tellMet_5 : decode cX0_tellMet 5 = .ok (.iconst 0, 1) := by decide +kernel
theorem dX0_tellMet_6 : decode cX0_tellMet 6 = .ok (.iastore, 1) := by decide +kernel
theorem dX0_tellMet_7 : decode cX0_tellMet 7 = .ok (.aload_n 0, 1) := by decide +kernel
theorem dX0_tellMet_8 : decode cX0_tellMet 8 = .ok (.iconst 1, 1) := by decide +kernel
theorem dX0_tellMet_9 : decode cX0_tellMet 9 = .ok (.putfield 43, 3) := by decide +kernel
theorem dX0_tellMet_12 : decode cX0_tellMet 12 = .ok (.return_, 1) := by decide +kernel
theorem dX0_tellNoSpan_0 : decode cX0_tellNoSpan 0 = .ok (.aload_n 0, 1) := by decide +kernel
theorem dX0_tellNoSpan_1 : decode cX0_tellNoSpan 1 = .ok (.getfield 39, 3) := by decide +kernel
theorem dX0_tellNoSpan_4 : decode cX0_tellNoSpan 4 = .ok (.iconst 0, 1) := by decide +kernel
theorem dX0_tellNoSpan_5 : decode cX0_tellNoSpan 5 = .ok (.iconst 1, 1) := by decide +kernel
theorem dX0_tellNoSpan_6 : decode cX0_tellNoSpan 6 = .ok (.iastore, 1) := by decide +kernel
theorem dX0_tellNoSpan_7 : decode cX0_tellNoSpan 7 = .ok (.aload_n 0, 1) := by decide +kernel
theorem dX0_tellNoSpan_8 : decode cX0_tellNoSpan 8 = .ok (.iconst 1, 1) := by decide +kernel
theorem dX0_tellNoSpan_9 : decode cX0_tellNoSpan 9 = .ok (.putfield 43, 3) := by decide +kernel
theorem dX0_tellNoSpan_12 : decode cX0_tellNoSpan 12 = .ok (.iconst 0, 1) := by decide +kernel
theorem dX0_tellNoSpan_13 : decode cX0_tellNoSpan 13 = .ok (.istore_n 1, 1) := by decide +kernel
theorem dX0_tellNoSpan_14 : decode cX0_tellNoSpan 14 = .ok (.iload_n 1, 1) := by decide +kernel
theorem dX0_tellNoSpan_15 : decode cX0_tellNoSpan 15 = .ok (.aload_n 0, 1) := by decide +kernel
theorem dX0_tellNoSpan_16 : decode cX0_tellNoSpan 16 = .ok (.getfield 56, 3) := by decide +kernel
theorem dX0_tellNoSpan_19 : decode cX0_tellNoSpan 19 = .ok (.if_icmp .ge 44, 3) := by decide +kernel
theorem dX0_tellNoSpan_22 : decode cX0_tellNoSpan 22 = .ok (.aload_n 0, 1) := by decide +kernel
theorem dX0_tellNoSpan_23 : decode cX0_tellNoSpan 23 = .ok (.getfield 43, 3) := by decide +kernel
theorem dX0_tellNoSpan_26 : decode cX0_tellNoSpan 26 = .ok (.iconst 1, 1) := by decide +kernel
theorem dX0_tellNoSpan_27 : decode cX0_tellNoSpan 27 = .ok (.if_icmp .ne 36, 3) := by decide +kernel
theorem dX0_tellNoSpan_30 : decode cX0_tellNoSpan 30 = .ok (.aload_n 0, 1) := by decide +kernel
theorem dX0_tellNoSpan_31 : decode cX0_tellNoSpan 31 = .ok (.getfield 35, 3) := by decide +kernel
theorem dX0_tellNoSpan_34 : decode cX0_tellNoSpan 34 = .ok (.iload_n 1, 1) := by decide +kernel
theorem dX0_tellNoSpan_35 : decode cX0_tellNoSpan 35 = .ok (.aaload, 1) := by decide +kernel
theorem dX0_tellNoSpan_36 : decode cX0_tellNoSpan 36 = .ok (.getfield 100, 3) := by decide +kernel
theorem dX0_tellNoSpan_39 : decode cX0_tellNoSpan 39 = .ok (.ifCond .eq 18, 3) := by decide +kernel
theorem dX0_tellNoSpan_42 : decode cX0_tellNoSpan 42 = .ok (.aload_n 0, 1) := by decide +kernel
theorem dX0_tellNoSpan_43 : decode cX0_tellNoSpan 43 = .ok (.getfield 39, 3) := by decide +kernel
theorem dX0_tellNoSpan_46 : decode cX0_tellNoSpan 46 = .ok (.iconst 1, 1) := by decide +kernel
theorem dX0_tellNoSpan_47 : decode cX0_tellNoSpan 47 = .ok (.bipush 10, 2) := by decide +kernel
theorem dX0_tellNoSpan_49 : decode cX0_tellNoSpan 49 = .ok (.iload_n 1, 1) := by decide +kernel
theorem dX0_tellNoSpan_50 : decode cX0_tellNoSpan 50 = .ok (.iadd, 1) := by decide +kernel
theorem dX0_tellNoSpan_51 : decode cX0_tellNoSpan 51 = .ok (.iastore, 1) := by decide +kernel
theorem dX0_tellNoSpan_52 : decode cX0_tellNoSpan 52 = .ok (.aload_n 0, 1) := by decide +kernel
theorem dX0_tellNoSpan_53 : decode cX0_tellNoSpan 53 = .ok (.iconst 2, 1) := by decide +kernel
theorem dX0_tellNoSpan_54 : decode cX0_tellNoSpan 54 = .ok (.putfield 43, 3) := by decide +kernel
theorem dX0_tellNoSpan_57 : decode cX0_tellNoSpan 57 = .ok (.iinc 1 1, 3) := by decide +kernel
theorem dX0_tellNoSpan_60 : decode cX0_tellNoSpan 60 = .ok (.goto (-46), 3) := by decide +kernel
theorem dX0_tellNoSpan_63 : decode cX0_tellNoSpan 63 = .ok (.return_, 1) := by decide +kernel
theorem dX0_tellLimited_0 : decode cX0_tellLimited 0 = .ok (.aload_n 0, 1) := by decide +kernel
theorem dX0_tellLimited_1 : decode cX0_tellLimited 1 = .ok (.getfield 39, 3) := by decide +kernel
theorem dX0_tellLimited_4 : decode cX0_tellLimited 4 = .ok (.iconst 0, 1) := by decide +kernel
theorem dX0_tellLimited_5 : decode cX0_tellLimited 5 = .ok (.iconst 2, 1) := by decide +kernel
theorem dX0_tellLimited_6 : decode cX0_tellLimited 6 = .ok (.iastore, 1) := by decide +kernel
theorem dX0_tellLimited_7 : decode cX0_tellLimited 7 = .ok (.aload_n 0, 1) := by decide +kernel
theorem dX0_tellLimited_8 : decode cX0_tellLimited 8 = .ok (.getfield 39, 3) := by decide +kernel
theorem dX0_tellLimited_11 : decode cX0_tellLimited 11 = .ok (.iconst 1, 1) := by decide +kernel
theorem dX0_tellLimited_12 : decode cX0_tellLimited 12 = .ok (.bipush 20, 2) := by decide +kernel
theorem dX0_tellLimited_14 : decode cX0_tellLimited 14 = .ok (.iload_n 1, 1) := by decide +kernel
theorem dX0_tellLimited_15 : decode cX0_tellLimited 15 = .ok (.iadd, 1) := by decide +kernel
theorem dX0_tellLimited_16 : decode cX0_tellLimited 16 = .ok (.iastore, 1) := by decide +kernel
theorem dX0_tellLimited_17 : decode cX0_tellLimited 17 = .ok (.aload_n 0, 1) := by decide +kernel
theorem dX0_tellLimited_18 : decode cX0_tellLimited 18 = .ok (.getfield 39, 3) := by decide +kernel
theorem dX0_tellLimited_21 : decode cX0_tellLimited 21 = .ok (.iconst 2, 1) := by decide +kernel
theorem dX0_tellLimited_22 : decode cX0_tellLimited 22 = .ok (.iload_n 2, 1) := by decide +kernel
theorem dX0_tellLimited_23 : decode cX0_tellLimited 23 = .ok (.ifCond .eq 7, 3) := by decide +kernel
theorem dX0_tellLimited_26 : decode cX0_tellLimited 26 = .ok (.iconst 4, 1) := by decide +kernel
theorem dX0_tellLimited_27 : decode cX0_tellLimited 27 = .ok (.goto 4, 3) := by decide +kernel
theorem dX0_tellLimited_30 : decode cX0_tellLimited 30 = .ok (.iconst 3, 1) := by decide +kernel
theorem dX0_tellLimited_31 : decode cX0_tellLimited 31 = .ok (.iastore, 1) := by decide +kernel
theorem dX0_tellLimited_32 : decode cX0_tellLimited 32 = .ok (.aload_n 0, 1) := by decide +kernel
theorem dX0_tellLimited_33 : decode cX0_tellLimited 33 = .ok (.iconst 3, 1) := by decide +kernel
theorem dX0_tellLimited_34 : decode cX0_tellLimited 34 = .ok (.putfield 43, 3) := by decide +kernel
theorem dX0_tellLimited_37 : decode cX0_tellLimited 37 = .ok (.return_, 1) := by decide +kernel
end
section
set_option maxRecDepth 20000 in
theorem ggX1_init_X0_init : GoodIn wsX1_init wsX0_init := goodIn_r _ [10, 11, 2, 3, 12, 13, 14, 15, 16, 17, 18, 19, 20, 21, 22, 23, 24, 25, 26, 27, 28, 29, 30, 33, 34, 35, 36, 37, 38, 39, 40, 41, 42, 43, 44, 45, 46, 47, 48, 49] (by decide +kernel) (by decide +kernel)
set_option maxRecDepth 20000 in
theorem gX1_init_X0_init : GoodIn wsX1_init (wsX0_init) := ggX1_init_X0_init
theorem dX1_init_0 : decode cX1_init 0 = .ok (.aload_n 0, 1) := by decide +kernel
theorem dX1_init_1 : decode cX1_init 1 = .ok (.invokespecial 3, 3) := by decide +kernel
theorem dX1_init_4 : decode cX1_init 4 = .ok (.aload_n 0, 1) := by decide +kernel
theorem dX1_init_5 : decode cX1_init 5 = .ok (.iconst 4, 1) := by decide +kernel
theorem dX1_init_6 : decode cX1_init 6 = .ok (.anewarray 9, 3) := by decide +kernel
theorem dX1_init_9 : decode cX1_init 9 = .ok (.putfield 11, 3) := by decide +kernel
theorem dX1_init_12 : decode cX1_init 12 = .ok (.iconst 0, 1) := by decide +kernel
theorem dX1_init_13 : decode cX1_init 13 = .ok (.istore_n 1, 1) := by decide +kernel
theorem dX1_init_14 : decode cX1_init 14 = .ok (.iload_n 1, 1) := by decide +kernel
theorem dX1_init_15 : decode cX1_init 15 = .ok (.iconst 4, 1) := by decide +kernel
theorem dX1_init_16 : decode cX1_init 16 = .ok (.if_icmp .ge 22, 3) := by decide +kernel
theorem dX1_init_19 : decode cX1_init 19 = .ok (.aload_n 0, 1) := by decide +kernel
theorem dX1_init_20 : decode cX1_init 20 = .ok (.getfield 11, 3) := by decide +kernel
theorem dX1_init_23 : decode cX1_init 23 = .ok (.iload_n 1, 1) := by decide +kernel
theorem dX1_init_24 : decode cX1_init 24 = .ok (.new 9, 3) := by decide +kernel
theorem dX1_init_27 : decode cX1_init 27 = .ok (.dup, 1) := by decide +kernel
theorem dX1_init_28 : decode cX1_init 28 = .ok (.invokespecial 17, 3) := by decide +kernel
theorem dX1_init_31 : decode cX1_init 31 = .ok (.aastore, 1) := by decide +kernel
theorem dX1_init_32 : decode cX1_init 32 = .ok (.iinc 1 1, 3) := by decide +kernel
theorem dX1_init_35 : decode cX1_init 35 = .ok (.goto (-21), 3) := by decide +kernel
theorem dX1_init_38 : decode cX1_init 38 = .ok (.return_, 1) := by decide +kernel
set_option maxRecDepth 20000 in
theorem ggX1_keep_X1_dropOldest : GoodIn wsX1_keep wsX1_dropOldest := goodIn_r _ [7, 2, 1, 40, 41] (by decide +kernel) (by decide +kernel)
set_option maxRecDepth 20000 in
theorem gX1_keep_X1_dropOldest : GoodIn wsX1_keep (wsV RX1 22 RX1 yX1_dropOldest wsX1_dropOldest) := goodIn_app (goodIn_of _ (by decide +kernel)) ggX1_keep_X1_dropOldest
set_option maxRecDepth 20000 in
theorem ggX1_keep_X0_become : GoodIn wsX1_keep wsX0_become := goodIn_r _ [12, 13, 14, 15, 16, 17, 18, 19, 20, 21, 22, 23, 24, 25, 26, 27, 28, 29, 30, 31, 32, 33, 34, 35, 36, 37, 38, 39, 42, 43, 44, 45, 46, 47, 48, 49, 50, 51, 52, 53, 54, 55, 56, 57, 58] (by decide +kernel) (by decide +kernel)
set_option maxRecDepth 20000 in
theorem gX1_keep_X0_become : GoodIn wsX1_keep (wsV RX1 25 RX0 yX0_become wsX0_become) := goodIn_app (goodIn_of _ (by decide +kernel)) ggX1_keep_X0_become
theorem dX1_keep_0 : decode cX1_keep 0 = .ok (.aload_n 0, 1) := by decide +kernel
theorem dX1_keep_1 : decode cX1_keep 1 = .ok (.getfield 18, 3) := by decide +kernel
theorem dX1_keep_4 : decode cX1_keep 4 = .ok (.iconst 4, 1) := by decide +kernel
theorem dX1_keep_5 : decode cX1_keep 5 = .ok (.if_icmp .lt 7, 3) := by decide +kernel
theorem dX1_keep_8 : decode cX1_keep 8 = .ok (.aload_n 0, 1) := by decide +kernel
theorem dX1_keep_9 : decode cX1_keep 9 = .ok (.invokevirtual 22, 3) := by decide +kernel
theorem dX1_keep_12 : decode cX1_keep 12 = .ok (.aload_n 0, 1) := by decide +kernel
theorem dX1_keep_13 : decode cX1_keep 13 = .ok (.getfield 11, 3) := by decide +kernel
theorem dX1_keep_16 : decode cX1_keep 16 = .ok (.aload_n 0, 1) := by decide +kernel
theorem dX1_keep_17 : decode cX1_keep 17 = .ok (.getfield 18, 3) := by decide +kernel
theorem dX1_keep_20 : decode cX1_keep 20 = .ok (.aaload, 1) := by decide +kernel
theorem dX1_keep_21 : decode cX1_keep 21 = .ok (.aload_n 1, 1) := by decide +kernel
theorem dX1_keep_22 : decode cX1_keep 22 = .ok (.invokevirtual 25, 3) := by decide +kernel
theorem dX1_keep_25 : decode cX1_keep 25 = .ok (.aload_n 0, 1) := by decide +kernel
theorem dX1_keep_26 : decode cX1_keep 26 = .ok (.dup, 1) := by decide +kernel
theorem dX1_keep_27 : decode cX1_keep 27 = .ok (.getfield 18, 3) := by decide +kernel
theorem dX1_keep_30 : decode cX1_keep 30 = .ok (.iconst 1, 1) := by decide +kernel
theorem dX1_keep_31 : decode cX1_keep 31 = .ok (.iadd, 1) := by decide +kernel
theorem dX1_keep_32 : decode cX1_keep 32 = .ok (.putfield 18, 3) := by decide +kernel
theorem dX1_keep_35 : decode cX1_keep 35 = .ok (.return_, 1) := by decide +kernel
theorem dX1_dropOldest_0 : decode cX1_dropOldest 0 = .ok (.aload_n 0, 1) := by decide +kernel
theorem dX1_dropOldest_1 : decode cX1_dropOldest 1 = .ok (.getfield 11, 3) := by decide +kernel
theorem dX1_dropOldest_4 : decode cX1_dropOldest 4 = .ok (.iconst 0, 1) := by decide +kernel
theorem dX1_dropOldest_5 : decode cX1_dropOldest 5 = .ok (.aaload, 1) := by decide +kernel
theorem dX1_dropOldest_6 : decode cX1_dropOldest 6 = .ok (.astore_n 1, 1) := by decide +kernel
theorem dX1_dropOldest_7 : decode cX1_dropOldest 7 = .ok (.iconst 1, 1) := by decide +kernel
theorem dX1_dropOldest_8 : decode cX1_dropOldest 8 = .ok (.istore_n 2, 1) := by decide +kernel
theorem dX1_dropOldest_9 : decode cX1_dropOldest 9 = .ok (.iload_n 2, 1) := by decide +kernel
theorem dX1_dropOldest_10 : decode cX1_dropOldest 10 = .ok (.iconst 4, 1) := by decide +kernel
theorem dX1_dropOldest_11 : decode cX1_dropOldest 11 = .ok (.if_icmp .ge 23, 3) := by decide +kernel
theorem dX1_dropOldest_14 : decode cX1_dropOldest 14 = .ok (.aload_n 0, 1) := by decide +kernel
theorem dX1_dropOldest_15 : decode cX1_dropOldest 15 = .ok (.getfield 11, 3) := by decide +kernel
theorem dX1_dropOldest_18 : decode cX1_dropOldest 18 = .ok (.iload_n 2, 1) := by decide +kernel
theorem dX1_dropOldest_19 : decode cX1_dropOldest 19 = .ok (.iconst 1, 1) := by decide +kernel
theorem dX1_dropOldest_20 : decode cX1_dropOldest 20 = .ok (.isub, 1) := by decide +kernel
theorem dX1_dropOldest_21 : decode cX1_dropOldest 21 = .ok (.aload_n 0, 1) := by decide +kernel
theorem dX1_dropOldest_22 : decode cX1_dropOldest 22 = .ok (.getfield 11, 3) := by decide +kernel
theorem dX1_dropOldest_25 : decode cX1_dropOldest 25 = .ok (.iload_n 2, 1) := by decide +kernel
theorem dX1_dropOldest_26 : decode cX1_dropOldest 26 = .ok (.aaload, 1) := by decide +kernel
theorem dX1_dropOldest_27 : decode cX1_dropOldest 27 = .ok (.aastore, 1) := by decide +kernel
theorem dX1_dropOldest_28 : decode cX1_dropOldest 28 = .ok (.iinc 2 1, 3) := by decide +kernel
theorem dX1_dropOldest_31 : decode cX1_dropOldest 31 = .ok (.goto (-22), 3) := by decide +kernel
theorem dX1_dropOldest_34 : decode cX1_dropOldest 34 = .ok (.aload_n 0, 1) := by decide +kernel
theorem dX1_dropOldest_35 : decode cX1_dropOldest 35 = .ok (.getfield 11, 3) := by decide +kernel
theorem dX1_dropOldest_38 : decode cX1_dropOldest 38 = .ok (.iconst 3, 1) := by decide +kernel
theorem dX1_dropOldest_39 : decode cX1_dropOldest 39 = .ok (.aload_n 1, 1) := by decide +kernel
theorem dX1_dropOldest_40 : decode cX1_dropOldest 40 = .ok (.aastore, 1) := by decide +kernel
theorem dX1_dropOldest_41 : decode cX1_dropOldest 41 = .ok (.aload_n 0, 1) := by decide +kernel
theorem dX1_dropOldest_42 : decode cX1_dropOldest 42 = .ok (.iconst 3, 1) := by decide +kernel
theorem dX1_dropOldest_43 : decode cX1_dropOldest 43 = .ok (.putfield 18, 3) := by decide +kernel
theorem dX1_dropOldest_46 : decode cX1_dropOldest 46 = .ok (.return_, 1) := by decide +kernel
set_option maxRecDepth 20000 in
theorem ggX1_giveBack_X0_become : GoodIn wsX1_giveBack wsX0_become := goodIn_r _ [8, 9, 10, 11, 12, 13, 14, 15, 16, 17, 18, 19, 20, 21, 22, 23, 24, 25, 26, 27, 28, 29, 30, 31, 32, 33, 34, 35, 38, 39, 40, 41, 42, 43, 44, 45, 46, 47, 48, 49, 50, 51, 52, 53, 54] (by decide +kernel) (by decide +kernel)
set_option maxRecDepth 20000 in
theorem gX1_giveBack_X0_become : GoodIn wsX1_giveBack (wsV RX1 25 RX0 yX0_become wsX0_become) := goodIn_app (goodIn_of _ (by decide +kernel)) ggX1_giveBack_X0_become
theorem dX1_giveBack_0 : decode cX1_giveBack 0 = .ok (.aload_n 0, 1) := by decide +kernel
theorem dX1_giveBack_1 : decode cX1_giveBack 1 = .ok (.getfield 18, 3) := by decide +kernel
theorem dX1_giveBack_4 : decode cX1_giveBack 4 = .ok (.ifCond .gt 6, 3) := by decide +kernel
theorem dX1_giveBack_7 : decode cX1_giveBack 7 = .ok (.ldc 29, 2) := by decide +kernel
theorem dX1_giveBack_9 : decode cX1_giveBack 9 = .ok (.ireturn, 1) := by decide +kernel
theorem dX1_giveBack_10 : decode cX1_giveBack 10 = .ok (.aload_n 0, 1) := by decide +kernel
theorem dX1_giveBack_11 : decode cX1_giveBack 11 = .ok (.dup, 1) := by decide +kernel
theorem dX1_giveBack_12 : decode cX1_giveBack 12 = .ok (.getfield 18, 3) := by decide +kernel
theorem dX1_giveBack_15 : decode cX1_giveBack 15 = .ok (.iconst 1, 1) := by decide +kernel
theorem dX1_giveBack_16 : decode cX1_giveBack 16 = .ok (.isub, 1) := by decide +kernel
theorem dX1_giveBack_17 : decode cX1_giveBack 17 = .ok (.putfield 18, 3) := by decide +kernel
theorem dX1_giveBack_20 : decode cX1_giveBack 20 = .ok (.aload_n 1, 1) := by decide +kernel
theorem dX1_giveBack_21 : decode cX1_giveBack 21 = .ok (.aload_n 0, 1) := by decide +kernel
theorem dX1_giveBack_22 : decode cX1_giveBack 22 = .ok (.getfield 11, 3) := by decide +kernel
theorem dX1_giveBack_25 : decode cX1_giveBack 25 = .ok (.aload_n 0, 1) := by decide +kernel
theorem dX1_giveBack_26 : decode cX1_giveBack 26 = .ok (.getfield 18, 3) := by decide +kernel
theorem dX1_giveBack_29 : decode cX1_giveBack 29 = .ok (.aaload, 1) := by decide +kernel
theorem dX1_giveBack_30 : decode cX1_giveBack 30 = .ok (.invokevirtual 25, 3) := by decide +kernel
theorem dX1_giveBack_33 : decode cX1_giveBack 33 = .ok (.aload_n 0, 1) := by decide +kernel
theorem dX1_giveBack_34 : decode cX1_giveBack 34 = .ok (.getfield 18, 3) := by decide +kernel
theorem dX1_giveBack_37 : decode cX1_giveBack 37 = .ok (.ireturn, 1) := by decide +kernel
theorem dX2_init_0 : decode cX2_init 0 = .ok (.aload_n 0, 1) := by decide +kernel
theorem dX2_init_1 : decode cX2_init 1 = .ok (.invokespecial 3, 3) := by decide +kernel
theorem dX2_init_4 : decode cX2_init 4 = .ok (.aload_n 0, 1) := by decide +kernel
theorem dX2_init_5 : decode cX2_init 5 = .ok (.iconst 3, 1) := by decide +kernel
theorem dX2_init_6 : decode cX2_init 6 = .ok (.newarray .long, 2) := by decide +kernel
theorem dX2_init_8 : decode cX2_init 8 = .ok (.putfield 9, 3) := by decide +kernel
theorem dX2_init_11 : decode cX2_init 11 = .ok (.aload_n 0, 1) := by decide +kernel
theorem dX2_init_12 : decode cX2_init 12 = .ok (.iconst 3, 1) := by decide +kernel
theorem dX2_init_13 : decode cX2_init 13 = .ok (.newarray .long, 2) := by decide +kernel
theorem dX2_init_15 : decode cX2_init 15 = .ok (.putfield 15, 3) := by decide +kernel
theorem dX2_init_18 : decode cX2_init 18 = .ok (.return_, 1) := by decide +kernel
set_option maxRecDepth 20000 in
theorem ggX2_letGo_X0_wheelMomentum : GoodIn wsX2_letGo wsX0_wheelMomentum := goodIn_r _ [11, 12, 13, 14, 15, 37, 38, 39, 40, 41, 42, 43, 44, 45, 46, 47, 50, 51, 52, 53, 54, 55] (by decide +kernel) (by decide +kernel)
set_option maxRecDepth 20000 in
theorem gX2_letGo_X0_wheelMomentum : GoodIn wsX2_letGo (wsV RX2 28 RX0 yX0_wheelMomentum wsX0_wheelMomentum) := goodIn_app (goodIn_of _ (by decide +kernel)) ggX2_letGo_X0_wheelMomentum
set_option maxRecDepth 20000 in
theorem ggX2_letGo_X2_crossed : GoodIn wsX2_letGo wsX2_crossed := goodIn_r _ [19, 20, 21, 22] (by decide +kernel) (by decide +kernel)
set_option maxRecDepth 20000 in
theorem gX2_letGo_X2_crossed : GoodIn wsX2_letGo (va_wsS RX2 32 yX2_crossed wsX2_crossed) := goodIn_app (goodIn_of _ (by decide +kernel)) ggX2_letGo_X2_crossed
set_option maxRecDepth 20000 in
theorem ggX2_letGo_X5_quotient : GoodIn wsX2_letGo wsX5_quotient := goodIn_r _ [24, 25, 26, 27, 28] (by decide +kernel) (by decide +kernel)
set_option maxRecDepth 20000 in
theorem gX2_letGo_X5_quotient_n38 : GoodIn wsX2_letGo (wsX5_quotient) := ggX2_letGo_X5_quotient
set_option maxRecDepth 20000 in
theorem ggX2_letGo_X5_limited : GoodIn wsX2_letGo wsX5_limited := goodIn_r _ [30] (by decide +kernel) (by decide +kernel)
set_option maxRecDepth 20000 in
theorem gX2_letGo_X5_limited_n42 : GoodIn wsX2_letGo (wsX5_limited) := ggX2_letGo_X5_limited
set_option maxRecDepth 20000 in
theorem ggX2_letGo_X0_pushFromOutside : GoodIn wsX2_letGo wsX0_pushFromOutside := goodIn_r _ [34, 35, 36, 37, 38, 39, 40, 41, 42, 43, 44, 45, 46, 47] (by decide +kernel) (by decide +kernel)
set_option maxRecDepth 20000 in
theorem gX2_letGo_X0_pushFromOutside : GoodIn wsX2_letGo (wsV RX2 48 RX0 yX0_pushFromOutside wsX0_pushFromOutside) := goodIn_app (goodIn_of _ (by decide +kernel)) ggX2_letGo_X0_pushFromOutside
theorem dX2_letGo_0 : decode cX2_letGo 0 = .ok (.aload_n 1, 1) := by decide +kernel
theorem dX2_letGo_1 : decode cX2_letGo 1 = .ok (.getfield 18, 3) := by decide +kernel
theorem dX2_letGo_4 : decode cX2_letGo 4 = .ok (.iconst 2, 1) := by decide +kernel
theorem dX2_letGo_5 : decode cX2_letGo 5 = .ok (.aaload, 1) := by decide +kernel
theorem dX2_letGo_6 : decode cX2_letGo 6 = .ok (.astore_n 2, 1) := by decide +kernel
theorem dX2_letGo_7 : decode cX2_letGo 7 = .ok (.aload_n 1, 1) := by decide +kernel
theorem dX2_letGo_8 : decode cX2_letGo 8 = .ok (.getfield 24, 3) := by decide +kernel
theorem dX2_letGo_11 : decode cX2_letGo 11 = .ok (.iconst 4, 1) := by decide +kernel
theorem dX2_letGo_12 : decode cX2_letGo 12 = .ok (.iaload, 1) := by decide +kernel
theorem dX2_letGo_13 : decode cX2_letGo 13 = .ok (.i2l, 1) := by decide +kernel
theorem dX2_letGo_14 : decode cX2_letGo 14 = .ok (.lstore_n 3, 1) := by decide +kernel
theorem dX2_letGo_15 : decode cX2_letGo 15 = .ok (.iconst 0, 1) := by decide +kernel
theorem dX2_letGo_16 : decode cX2_letGo 16 = .ok (.istore 5, 2) := by decide +kernel
theorem dX2_letGo_18 : decode cX2_letGo 18 = .ok (.iload 5, 2) := by decide +kernel
theorem dX2_letGo_20 : decode cX2_letGo 20 = .ok (.iconst 3, 1) := by decide +kernel
theorem dX2_letGo_21 : decode cX2_letGo 21 = .ok (.if_icmp .ge 22, 3) := by decide +kernel
theorem dX2_letGo_24 : decode cX2_letGo 24 = .ok (.aload_n 0, 1) := by decide +kernel
theorem dX2_letGo_25 : decode cX2_letGo 25 = .ok (.getfield 9, 3) := by decide +kernel
theorem dX2_letGo_28 : decode cX2_letGo 28 = .ok (.iload 5, 2) := by decide +kernel
theorem dX2_letGo_30 : decode cX2_letGo 30 = .ok (.aload_n 1, 1) := by decide +kernel
theorem dX2_letGo_31 : decode cX2_letGo 31 = .ok (.iload 5, 2) := by decide +kernel
theorem dX2_letGo_33 : decode cX2_letGo 33 = .ok (.invokevirtual 28, 3) := by decide +kernel
theorem dX2_letGo_36 : decode cX2_letGo 36 = .ok (.lastore, 1) := by decide +kernel
theorem dX2_letGo_37 : decode cX2_letGo 37 = .ok (.iinc 5 1, 3) := by decide +kernel
theorem dX2_letGo_40 : decode cX2_letGo 40 = .ok (.goto (-22), 3) := by decide +kernel
theorem dX2_letGo_43 : decode cX2_letGo 43 = .ok (.iconst 0, 1) := by decide +kernel
theorem dX2_letGo_44 : decode cX2_letGo 44 = .ok (.istore 5, 2) := by decide +kernel
theorem dX2_letGo_46 : decode cX2_letGo 46 = .ok (.iload 5, 2) := by decide +kernel
theorem dX2_letGo_48 : decode cX2_letGo 48 = .ok (.iconst 3, 1) := by decide +kernel
theorem dX2_letGo_49 : decode cX2_letGo 49 = .ok (.if_icmp .ge 38, 3) := by decide +kernel
theorem dX2_letGo_52 : decode cX2_letGo 52 = .ok (.aload_n 0, 1) := by decide +kernel
theorem dX2_letGo_53 : decode cX2_letGo 53 = .ok (.getfield 15, 3) := by decide +kernel
theorem dX2_letGo_56 : decode cX2_letGo 56 = .ok (.iload 5, 2) := by decide +kernel
theorem dX2_letGo_58 : decode cX2_letGo 58 = .ok (.aload_n 0, 1) := by decide +kernel
theorem dX2_letGo_59 : decode cX2_letGo 59 = .ok (.getfield 9, 3) := by decide +kernel
theorem dX2_letGo_62 : decode cX2_letGo 62 = .ok (.aload_n 2, 1) := by decide +kernel
theorem dX2_letGo_63 : decode cX2_letGo 63 = .ok (.iload 5, 2) := by decide +kernel
theorem dX2_letGo_65 : decode cX2_letGo 65 = .ok (.invokestatic 32, 3) := by decide +kernel
theorem dX2_letGo_68 : decode cX2_letGo 68 = .ok (.ldc2_w 36, 3) := by decide +kernel
theorem dX2_letGo_71 : decode cX2_letGo 71 = .ok (.invokestatic 38, 3) := by decide +kernel
theorem dX2_letGo_74 : decode cX2_letGo 74 = .ok (.lload_n 3, 1) := by decide +kernel
theorem dX2_letGo_75 : decode cX2_letGo 75 = .ok (.lneg, 1) := by decide +kernel
theorem dX2_letGo_76 : decode cX2_letGo 76 = .ok (.lload_n 3, 1) := by decide +kernel
theorem dX2_letGo_77 : decode cX2_letGo 77 = .ok (.invokestatic 42, 3) := by decide +kernel
theorem dX2_letGo_80 : decode cX2_letGo 80 = .ok (.lastore, 1) := by decide +kernel
theorem dX2_letGo_81 : decode cX2_letGo 81 = .ok (.iinc 5 1, 3) := by decide +kernel
theorem dX2_letGo_84 : decode cX2_letGo 84 = .ok (.goto (-38), 3) := by decide +kernel
theorem dX2_letGo_87 : decode cX2_letGo 87 = .ok (.iconst 0, 1) := by decide +kernel
theorem dX2_letGo_88 : decode cX2_letGo 88 = .ok (.istore 5, 2) := by decide +kernel
theorem dX2_letGo_90 : decode cX2_letGo 90 = .ok (.iload 5, 2) := by decide +kernel
theorem dX2_letGo_92 : decode cX2_letGo 92 = .ok (.iconst 3, 1) := by decide +kernel
theorem dX2_letGo_93 : decode cX2_letGo 93 = .ok (.if_icmp .ge 31, 3) := by decide +kernel
theorem dX2_letGo_96 : decode cX2_letGo 96 = .ok (.aload_n 1, 1) := by decide +kernel
theorem dX2_letGo_97 : decode cX2_letGo 97 = .ok (.iload 5, 2) := by decide +kernel
theorem dX2_letGo_99 : decode cX2_letGo 99 = .ok (.aload_n 0, 1) := by decide +kernel
theorem dX2_letGo_100 : decode cX2_letGo 100 = .ok (.getfield 15, 3) := by decide +kernel
theorem dX2_letGo_103 : decode cX2_letGo 103 = .ok (.aload_n 2, 1) := by decide +kernel
theorem dX2_letGo_104 : decode cX2_letGo 104 = .ok (.iload 5, 2) := by decide +kernel
theorem dX2_letGo_106 : decode cX2_letGo 106 = .ok (.invokestatic 32, 3) := by decide +kernel
theorem dX2_letGo_109 : decode cX2_letGo 109 = .ok (.ldc2_w 46, 3) := by decide +kernel
theorem dX2_letGo_112 : decode cX2_letGo 112 = .ok (.invokestatic 38, 3) := by decide +kernel
theorem dX2_letGo_115 : decode cX2_letGo 115 = .ok (.invokevirtual 48, 3) := by decide +kernel
theorem dX2_letGo_118 : decode cX2_letGo 118 = .ok (.iinc 5 1, 3) := by decide +kernel
theorem dX2_letGo_121 : decode cX2_letGo 121 = .ok (.goto (-31), 3) := by decide +kernel
theorem dX2_letGo_124 : decode cX2_letGo 124 = .ok (.return_, 1) := by decide +kernel
set_option maxRecDepth 20000 in
theorem ggX2_crossed_X5_axisAfter : GoodIn wsX2_crossed wsX5_axisAfter := goodIn_r _ [3] (by decide +kernel) (by decide +kernel)
set_option maxRecDepth 20000 in
theorem gX2_crossed_X5_axisAfter_n52 : GoodIn wsX2_crossed (wsX5_axisAfter) := ggX2_crossed_X5_axisAfter
theorem dX2_crossed_0 : decode cX2_crossed 0 = .ok (.iload_n 2, 1) := by decide +kernel
theorem dX2_crossed_1 : decode cX2_crossed 1 = .ok (.iconst 1, 1) := by decide +kernel
theorem dX2_crossed_2 : decode cX2_crossed 2 = .ok (.invokestatic 52, 3) := by decide +kernel
theorem dX2_crossed_5 : decode cX2_crossed 5 = .ok (.istore_n 3, 1) := by decide +kernel
theorem dX2_crossed_6 : decode cX2_crossed 6 = .ok (.iload_n 2, 1) := by decide +kernel
theorem dX2_crossed_7 : decode cX2_crossed 7 = .ok (.iconst 2, 1) := by decide +kernel
theorem dX2_crossed_8 : decode cX2_crossed 8 = .ok (.invokestatic 52, 3) := by decide +kernel
theorem dX2_crossed_11 : decode cX2_crossed 11 = .ok (.istore 4, 2) := by decide +kernel
theorem dX2_crossed_13 : decode cX2_crossed 13 = .ok (.aload_n 0, 1) := by decide +kernel
theorem dX2_crossed_14 : decode cX2_crossed 14 = .ok (.iload_n 3, 1) := by decide +kernel
theorem dX2_crossed_15 : decode cX2_crossed 15 = .ok (.laload, 1) := by decide +kernel
theorem dX2_crossed_16 : decode cX2_crossed 16 = .ok (.aload_n 1, 1) := by decide +kernel
theorem dX2_crossed_17 : decode cX2_crossed 17 = .ok (.iload 4, 2) := by decide +kernel
theorem dX2_crossed_19 : decode cX2_crossed 19 = .ok (.iaload, 1) := by decide +kernel
theorem dX2_crossed_20 : decode cX2_crossed 20 = .ok (.i2l, 1) := by decide +kernel
theorem dX2_crossed_21 : decode cX2_crossed 21 = .ok (.lmul, 1) := by decide +kernel
theorem dX2_crossed_22 : decode cX2_crossed 22 = .ok (.aload_n 0, 1) := by decide +kernel
theorem dX2_crossed_23 : decode cX2_crossed 23 = .ok (.iload 4, 2) := by decide +kernel
theorem dX2_crossed_25 : decode cX2_crossed 25 = .ok (.laload, 1) := by decide +kernel
theorem dX2_crossed_26 : decode cX2_crossed 26 = .ok (.aload_n 1, 1) := by decide +kernel
theorem dX2_crossed_27 : decode cX2_crossed 27 = .ok (.iload_n 3, 1) := by decide +kernel
theorem dX2_crossed_28 : decode cX2_crossed 28 = .ok (.iaload, 1) := by decide +kernel
theorem dX2_crossed_29 : decode cX2_crossed 29 = .ok (.i2l, 1) := by decide +kernel
theorem dX2_crossed_30 : decode cX2_crossed 30 = .ok (.lmul, 1) := by decide +kernel
theorem dX2_crossed_31 : decode cX2_crossed 31 = .ok (.lsub, 1) := by decide +kernel
theorem dX2_crossed_32 : decode cX2_crossed 32 = .ok (.lreturn, 1) := by decide +kernel
theorem dX3_init_0 : decode cX3_init 0 = .ok (.aload_n 0, 1) := by decide +kernel
theorem dX3_init_1 : decode cX3_init 1 = .ok (.invokespecial 3, 3) := by decide +kernel
theorem dX3_init_4 : decode cX3_init 4 = .ok (.aload_n 0, 1) := by decide +kernel
theorem dX3_init_5 : decode cX3_init 5 = .ok (.iconst 3, 1) := by decide +kernel
theorem dX3_init_6 : decode cX3_init 6 = .ok (.iconst 3, 1) := by decide +kernel
theorem dX3_init_7 : decode cX3_init 7 = .ok (.multianewarray 9 2, 4) := by decide +kernel
theorem dX3_init_11 : decode cX3_init 11 = .ok (.putfield 11, 3) := by decide +kernel
theorem dX3_init_14 : decode cX3_init 14 = .ok (.aload_n 0, 1) := by decide +kernel
theorem dX3_init_15 : decode cX3_init 15 = .ok (.iconst 3, 1) := by decide +kernel
theorem dX3_init_16 : decode cX3_init 16 = .ok (.iconst 3, 1) := by decide +kernel
theorem dX3_init_17 : decode cX3_init 17 = .ok (.multianewarray 9 2, 4) := by decide +kernel
theorem dX3_init_21 : decode cX3_init 21 = .ok (.putfield 16, 3) := by decide +kernel
theorem dX3_init_24 : decode cX3_init 24 = .ok (.aload_n 0, 1) := by decide +kernel
theorem dX3_init_25 : decode cX3_init 25 = .ok (.iconst 3, 1) := by decide +kernel
theorem dX3_init_26 : decode cX3_init 26 = .ok (.newarray .long, 2) := by decide +kernel
theorem dX3_init_28 : decode cX3_init 28 = .ok (.putfield 19, 3) := by decide +kernel
theorem dX3_init_31 : decode cX3_init 31 = .ok (.return_, 1) := by decide +kernel
set_option maxRecDepth 20000 in
theorem ggX3_measure_X3_addProducts : GoodIn wsX3_measure wsX3_addProducts := goodIn_r _ [12, 1, 20, 21, 22, 23] (by decide +kernel) (by decide +kernel)
set_option maxRecDepth 20000 in
theorem gX3_measure_X3_addProducts : GoodIn wsX3_measure (wsV RX3 43 RX3 yX3_addProducts wsX3_addProducts) := goodIn_app (goodIn_of _ (by decide +kernel)) ggX3_measure_X3_addProducts
set_option maxRecDepth 20000 in
theorem ggX3_measure_X3_findCofactors : GoodIn wsX3_measure wsX3_findCofactors := goodIn_r _ [16, 7, 1, 17, 18, 19, 20, 21, 22, 23] (by decide +kernel) (by decide +kernel)
set_option maxRecDepth 20000 in
theorem gX3_measure_X3_findCofactors : GoodIn wsX3_measure (wsV RX3 47 RX3 yX3_findCofactors wsX3_findCofactors) := goodIn_app (goodIn_of _ (by decide +kernel)) ggX3_measure_X3_findCofactors
theorem dX3_measure_0 : decode cX3_measure 0 = .ok (.iconst 0, 1) := by decide +kernel
theorem dX3_measure_1 : decode cX3_measure 1 = .ok (.istore_n 3, 1) := by decide +kernel
theorem dX3_measure_2 : decode cX3_measure 2 = .ok (.iload_n 3, 1) := by decide +kernel
theorem dX3_measure_3 : decode cX3_measure 3 = .ok (.iconst 3, 1) := by decide +kernel
theorem dX3_measure_4 : decode cX3_measure 4 = .ok (.if_icmp .ge 34, 3) := by decide +kernel
theorem dX3_measure_7 : decode cX3_measure 7 = .ok (.iconst 0, 1) := by decide +kernel
theorem dX3_measure_8 : decode cX3_measure 8 = .ok (.istore 4, 2) := by decide +kernel
theorem dX3_measure_10 : decode cX3_measure 10 = .ok (.iload 4, 2) := by decide +kernel
theorem dX3_measure_12 : decode cX3_measure 12 = .ok (.iconst 3, 1) := by decide +kernel
theorem dX3_measure_13 : decode cX3_measure 13 = .ok (.if_icmp .ge 19, 3) := by decide +kernel
theorem dX3_measure_16 : decode cX3_measure 16 = .ok (.aload_n 0, 1) := by decide +kernel
theorem dX3_measure_17 : decode cX3_measure 17 = .ok (.getfield 11, 3) := by decide +kernel
theorem dX3_measure_20 : decode cX3_measure 20 = .ok (.iload_n 3, 1) := by decide +kernel
theorem dX3_measure_21 : decode cX3_measure 21 = .ok (.aaload, 1) := by decide +kernel
theorem dX3_measure_22 : decode cX3_measure 22 = .ok (.iload 4, 2) := by decide +kernel
theorem dX3_measure_24 : decode cX3_measure 24 = .ok (.lconst 0, 1) := by decide +kernel
theorem dX3_measure_25 : decode cX3_measure 25 = .ok (.lastore, 1) := by decide +kernel
theorem dX3_measure_26 : decode cX3_measure 26 = .ok (.iinc 4 1, 3) := by decide +kernel
theorem dX3_measure_29 : decode cX3_measure 29 = .ok (.goto (-19), 3) := by decide +kernel
theorem dX3_measure_32 : decode cX3_measure 32 = .ok (.iinc 3 1, 3) := by decide +kernel
theorem dX3_measure_35 : decode cX3_measure 35 = .ok (.goto (-33), 3) := by decide +kernel
theorem dX3_measure_38 : decode cX3_measure 38 = .ok (.iconst 0, 1) := by decide +kernel
theorem dX3_measure_39 : decode cX3_measure 39 = .ok (.istore_n 3, 1) := by decide +kernel
theorem dX3_measure_40 : decode cX3_measure 40 = .ok (.iload_n 3, 1) := by decide +kernel
theorem dX3_measure_41 : decode cX3_measure 41 = .ok (.aload_n 1, 1) := by decide +kernel
theorem dX3_measure_42 : decode cX3_measure 42 = .ok (.getfield 23, 3) := by decide +kernel
theorem dX3_measure_45 : decode cX3_measure 45 = .ok (.if_icmp .ge 39, 3) := by decide +kernel
theorem dX3_measure_48 : decode cX3_measure 48 = .ok (.iload_n 3, 1) := by decide +kernel
theorem dX3_measure_49 : decode cX3_measure 49 = .ok (.iload_n 2, 1) := by decide +kernel
theorem dX3_measure_50 : decode cX3_measure 50 = .ok (.if_icmp .eq 28, 3) := by decide +kernel
theorem dX3_measure_53 : decode cX3_measure 53 = .ok (.aload_n 1, 1) := by decide +kernel
theorem dX3_measure_54 : decode cX3_measure 54 = .ok (.getfield 29, 3) := by decide +kernel
theorem dX3_measure_57 : decode cX3_measure 57 = .ok (.iload_n 3, 1) := by decide +kernel
theorem dX3_measure_58 : decode cX3_measure 58 = .ok (.aaload, 1) := by decide +kernel
theorem dX3_measure_59 : decode cX3_measure 59 = .ok (.getfield 33, 3) := by decide +kernel
theorem dX3_measure_62 : decode cX3_measure 62 = .ok (.ifCond .ne 16, 3) := by decide +kernel
theorem dX3_measure_65 : decode cX3_measure 65 = .ok (.aload_n 0, 1) := by decide +kernel
theorem dX3_measure_66 : decode cX3_measure 66 = .ok (.aload_n 1, 1) := by decide +kernel
theorem dX3_measure_67 : decode cX3_measure 67 = .ok (.getfield 29, 3) := by decide +kernel
theorem dX3_measure_70 : decode cX3_measure 70 = .ok (.iload_n 3, 1) := by decide +kernel
theorem dX3_measure_71 : decode cX3_measure 71 = .ok (.aaload, 1) := by decide +kernel
theorem dX3_measure_72 : decode cX3_measure 72 = .ok (.getfield 39, 3) := by decide +kernel
theorem dX3_measure_75 : decode cX3_measure 75 = .ok (.invokevirtual 43, 3) := by decide +kernel
theorem dX3_measure_78 : decode cX3_measure 78 = .ok (.iinc 3 1, 3) := by decide +kernel
theorem dX3_measure_81 : decode cX3_measure 81 = .ok (.goto (-41), 3) := by decide +kernel
theorem dX3_measure_84 : decode cX3_measure 84 = .ok (.aload_n 0, 1) := by decide +kernel
theorem dX3_measure_85 : decode cX3_measure 85 = .ok (.invokevirtual 47, 3) := by decide +kernel
theorem dX3_measure_88 : decode cX3_measure 88 = .ok (.aload_n 0, 1) := by decide +kernel
theorem dX3_measure_89 : decode cX3_measure 89 = .ok (.lconst 0, 1) := by decide +kernel
theorem dX3_measure_90 : decode cX3_measure 90 = .ok (.putfield 50, 3) := by decide +kernel
theorem dX3_measure_93 : decode cX3_measure 93 = .ok (.iconst 0, 1) := by decide +kernel
theorem dX3_measure_94 : decode cX3_measure 94 = .ok (.istore_n 3, 1) := by decide +kernel
theorem dX3_measure_95 : decode cX3_measure 95 = .ok (.iload_n 3, 1) := by decide +kernel
theorem dX3_measure_96 : decode cX3_measure 96 = .ok (.iconst 3, 1) := by decide +kernel
theorem dX3_measure_97 : decode cX3_measure 97 = .ok (.if_icmp .ge 35, 3) := by decide +kernel
theorem dX3_measure_100 : decode cX3_measure 100 = .ok (.aload_n 0, 1) := by decide +kernel
theorem dX3_measure_101 : decode cX3_measure 101 = .ok (.dup, 1) := by decide +kernel
theorem dX3_measure_102 : decode cX3_measure 102 = .ok (.getfield 50, 3) := by decide +kernel
theorem dX3_measure_105 : decode cX3_measure 105 = .ok (.aload_n 0, 1) := by decide +kernel
theorem dX3_measure_106 : decode cX3_measure 106 = .ok (.getfield 11, 3) := by decide +kernel
theorem dX3_measure_109 : decode cX3_measure 109 = .ok (.iconst 0, 1) := by decide +kernel
theorem dX3_measure_110 : decode cX3_measure 110 = .ok (.aaload, 1) := by decide +kernel
theorem dX3_measure_111 : decode cX3_measure 111 = .ok (.iload_n 3, 1) := by decide +kernel
theorem dX3_measure_112 : decode cX3_measure 112 = .ok (.laload, 1) := by decide +kernel
theorem dX3_measure_113 : decode cX3_measure 113 = .ok (.aload_n 0, 1) := by decide +kernel
theorem dX3_measure_114 : decode cX3_measure 114 = .ok (.getfield 16, 3) := by decide +kernel
theorem dX3_measure_117 : decode cX3_measure 117 = .ok (.iconst 0, 1) := by decide +kernel
theorem dX3_measure_118 : decode cX3_measure 118 = .ok (.aaload, 1) := by decide +kernel
theorem dX3_measure_119 : decode cX3_measure 119 = .ok (.iload_n 3, 1) := by decide +kernel
theorem dX3_measure_120 : decode cX3_measure 120 = .ok (.laload, 1) := by decide +kernel
theorem dX3_measure_121 : decode cX3_measure 121 = .ok (.lmul, 1) := by decide +kernel
theorem dX3_measure_122 : decode cX3_measure 122 = .ok (.ladd, 1) := by decide +kernel
theorem dX3_measure_123 : decode cX3_measure 123 = .ok (.putfield 50, 3) := by decide +kernel
theorem dX3_measure_126 : decode cX3_measure 126 = .ok (.iinc 3 1, 3) := by decide +kernel
theorem dX3_measure_129 : decode cX3_measure 129 = .ok (.goto (-34), 3) := by decide +kernel
theorem dX3_measure_132 : decode cX3_measure 132 = .ok (.return_, 1) := by decide +kernel
theorem dX3_addProducts_0 : decode cX3_addProducts 0 = .ok (.iconst 0, 1) := by decide +kernel
theorem dX3_addProducts_1 : decode cX3_addProducts 1 = .ok (.istore_n 2, 1) := by decide +kernel
theorem dX3_addProducts_2 : decode cX3_addProducts 2 = .ok (.iload_n 2, 1) := by decide +kernel
theorem dX3_addProducts_3 : decode cX3_addProducts 3 = .ok (.iconst 3, 1) := by decide +kernel
theorem dX3_addProducts_4 : decode cX3_addProducts 4 = .ok (.if_icmp .ge 41, 3) := by decide +kernel
theorem dX3_addProducts_7 : decode cX3_addProducts 7 = .ok (.iconst 0, 1) := by decide +kernel
theorem dX3_addProducts_8 : decode cX3_addProducts 8 = .ok (.istore_n 3, 1) := by decide +kernel
theorem dX3_addProducts_9 : decode cX3_addProducts 9 = .ok (.iload_n 3, 1) := by decide +kernel
theorem dX3_addProducts_10 : decode cX3_addProducts 10 = .ok (.iconst 3, 1) := by decide +kernel
theorem dX3_addProducts_11 : decode cX3_addProducts 11 = .ok (.if_icmp .ge 28, 3) := by decide +kernel
theorem dX3_addProducts_14 : decode cX3_addProducts 14 = .ok (.aload_n 0, 1) := by decide +kernel
theorem dX3_addProducts_15 : decode cX3_addProducts 15 = .ok (.getfield 11, 3) := by decide +kernel
theorem dX3_addProducts_18 : decode cX3_addProducts 18 = .ok (.iload_n 2, 1) := by decide +kernel
theorem dX3_addProducts_19 : decode cX3_addProducts 19 = .ok (.aaload, 1) := by decide +kernel
theorem dX3_addProducts_20 : decode cX3_addProducts 20 = .ok (.iload_n 3, 1) := by decide +kernel
theorem dX3_addProducts_21 : decode cX3_addProducts 21 = .ok (.dup2, 1) := by decide +kernel
theorem dX3_addProducts_22 : decode cX3_addProducts 22 = .ok (.laload, 1) := by decide +kernel
theorem dX3_addProducts_23 : decode cX3_addProducts 23 = .ok (.aload_n 1, 1) := by decide +kernel
theorem dX3_addProducts_24 : decode cX3_addProducts 24 = .ok (.iload_n 2, 1) := by decide +kernel
theorem dX3_addProducts_25 : decode cX3_addProducts 25 = .ok (.iaload, 1) := by decide +kernel
theorem dX3_addProducts_26 : decode cX3_addProducts 26 = .ok (.aload_n 1, 1) := by decide +kernel
theorem dX3_addProducts_27 : decode cX3_addProducts 27 = .ok (.iload_n 3, 1) := by decide +kernel
theorem dX3_addProducts_28 : decode cX3_addProducts 28 = .ok (.iaload, 1) := by decide +kernel
theorem dX3_addProducts_29 : decode cX3_addProducts 29 = .ok (.imul, 1) := by decide +kernel
theorem dX3_addProducts_30 : decode cX3_addProducts 30 = .ok (.i2l, 1) := by decide +kernel
theorem dX3_addProducts_31 : decode cX3_addProducts 31 = .ok (.ladd, 1) := by decide +kernel
theorem dX3_addProducts_32 : decode cX3_addProducts 32 = .ok (.lastore, 1) := by decide +kernel
theorem dX3_addProducts_33 : decode cX3_addProducts 33 = .ok (.iinc 3 1, 3) := by decide +kernel
theorem dX3_addProducts_36 : decode cX3_addProducts 36 = .ok (.goto (-27), 3) := by decide +kernel
theorem dX3_addProducts_39 : decode cX3_addProducts 39 = .ok (.iinc 2 1, 3) := by decide +kernel
theorem dX3_addProducts_42 : decode cX3_addProducts 42 = .ok (.goto (-40), 3) := by decide +kernel
theorem dX3_addProducts_45 : decode cX3_addProducts 45 = .ok (.return_, 1) := by decide +kernel
set_option maxRecDepth 20000 in
theorem ggX3_findCofactors_X5_axisAfter : GoodIn wsX3_findCofactors wsX5_axisAfter := goodIn_r _ [5] (by decide +kernel) (by decide +kernel)
set_option maxRecDepth 20000 in
theorem gX3_findCofactors_X5_axisAfter_n54 : GoodIn wsX3_findCofactors (wsX5_axisAfter) := ggX3_findCofactors_X5_axisAfter
theorem dX3_findCofactors_0 : decode cX3_findCofactors 0 = .ok (.iconst 0, 1) := by decide +kernel
theorem dX3_findCofactors_1 : decode cX3_findCofactors 1 = .ok (.istore_n 1, 1) := by decide +kernel
theorem dX3_findCofactors_2 : decode cX3_findCofactors 2 = .ok (.iload_n 1, 1) := by decide +kernel
theorem dX3_findCofactors_3 : decode cX3_findCofactors 3 = .ok (.iconst 3, 1) := by decide +kernel
theorem dX3_findCofactors_4 : decode cX3_findCofactors 4 = .ok (.if_icmp .ge 100, 3) := by decide +kernel
theorem dX3_findCofactors_7 : decode cX3_findCofactors 7 = .ok (.iload_n 1, 1) := by decide +kernel
theorem dX3_findCofactors_8 : decode cX3_findCofactors 8 = .ok (.iconst 1, 1) := by decide +kernel
theorem dX3_findCofactors_9 : decode cX3_findCofactors 9 = .ok (.invokestatic 54, 3) := by decide +kernel
theorem dX3_findCofactors_12 : decode cX3_findCofactors 12 = .ok (.istore_n 2, 1) := by decide +kernel
theorem dX3_findCofactors_13 : decode cX3_findCofactors 13 = .ok (.iload_n 1, 1) := by decide +kernel
theorem dX3_findCofactors_14 : decode cX3_findCofactors 14 = .ok (.iconst 2, 1) := by decide +kernel
theorem dX3_findCofactors_15 : decode cX3_findCofactors 15 = .ok (.invokestatic 54, 3) := by decide +kernel
theorem dX3_findCofactors_18 : decode cX3_findCofactors 18 = .ok (.istore_n 3, 1) := by decide +kernel
theorem dX3_findCofactors_19 : decode cX3_findCofactors 19 = .ok (.iconst 0, 1) := by decide +kernel
theorem dX3_findCofactors_20 : decode cX3_findCofactors 20 = .ok (.istore 4, 2) := by decide +kernel
theorem dX3_findCofactors_22 : decode cX3_findCofactors 22 = .ok (.iload 4, 2) := by decide +kernel
theorem dX3_findCofactors_24 : decode cX3_findCofactors 24 = .ok (.iconst 3, 1) := by decide +kernel
theorem dX3_findCofactors_25 : decode cX3_findCofactors 25 = .ok (.if_icmp .ge 73, 3) := by decide +kernel
theorem dX3_findCofactors_28 : decode cX3_findCofactors 28 = .ok (.iload 4, 2) := by decide +kernel
theorem dX3_findCofactors_30 : decode cX3_findCofactors 30 = .ok (.iconst 1, 1) := by decide +kernel
theorem dX3_findCofactors_31 : decode cX3_findCofactors 31 = .ok (.invokestatic 54, 3) := by decide +kernel
theorem dX3_findCofactors_34 : decode cX3_findCofactors 34 = .ok (.istore 5, 2) := by decide +kernel
theorem dX3_findCofactors_36 : decode cX3_findCofactors 36 = .ok (.iload 4, 2) := by decide +kernel
theorem dX3_findCofactors_38 : decode cX3_findCofactors 38 = .ok (.iconst 2, 1) := by decide +kernel
theorem dX3_findCofactors_39 : decode cX3_findCofactors 39 = .ok (.invokestatic 54, 3) := by decide +kernel
theorem dX3_findCofactors_42 : decode cX3_findCofactors 42 = .ok (.istore 6, 2) := by decide +kernel
theorem dX3_findCofactors_44 : decode cX3_findCofactors 44 = .ok (.aload_n 0, 1) := by decide +kernel
theorem dX3_findCofactors_45 : decode cX3_findCofactors 45 = .ok (.getfield 16, 3) := by decide +kernel
theorem dX3_findCofactors_48 : decode cX3_findCofactors 48 = .ok (.iload_n 1, 1) := by decide +kernel
theorem dX3_findCofactors_49 : decode cX3_findCofactors 49 = .ok (.aaload, 1) := by decide +kernel
theorem dX3_findCofactors_50 : decode cX3_findCofactors 50 = .ok (.iload 4, 2) := by decide +kernel
theorem dX3_findCofactors_52 : decode cX3_findCofactors 52 = .ok (.aload_n 0, 1) := by decide +kernel
theorem dX3_findCofactors_53 : decode cX3_findCofactors 53 = .ok (.getfield 11, 3) := by decide +kernel
theorem dX3_findCofactors_56 : decode cX3_findCofactors 56 = .ok (.iload_n 2, 1) := by decide +kernel
theorem dX3_findCofactors_57 : decode cX3_findCofactors 57 = .ok (.aaload, 1) := by decide +kernel
theorem dX3_findCofactors_58 : decode cX3_findCofactors 58 = .ok (.iload 5, 2) := by decide +kernel
theorem dX3_findCofactors_60 : decode cX3_findCofactors 60 = .ok (.laload, 1) := by decide +kernel
theorem dX3_findCofactors_61 : decode cX3_findCofactors 61 = .ok (.aload_n 0, 1) := by decide +kernel
theorem dX3_findCofactors_62 : decode cX3_findCofactors 62 = .ok (.getfield 11, 3) := by decide +kernel
theorem dX3_findCofactors_65 : decode cX3_findCofactors 65 = .ok (.iload_n 3, 1) := by decide +kernel
theorem dX3_findCofactors_66 : decode cX3_findCofactors 66 = .ok (.aaload, 1) := by decide +kernel
theorem dX3_findCofactors_67 : decode cX3_findCofactors 67 = .ok (.iload 6, 2) := by decide +kernel
theorem dX3_findCofactors_69 : decode cX3_findCofactors 69 = .ok (.laload, 1) := by decide +kernel
theorem dX3_findCofactors_70 : decode cX3_findCofactors 70 = .ok (.lmul, 1) := by decide +kernel
theorem dX3_findCofactors_71 : decode cX3_findCofactors 71 = .ok (.aload_n 0, 1) := by decide +kernel
theorem dX3_findCofactors_72 : decode cX3_findCofactors 72 = .ok (.getfield 11, 3) := by decide +kernel
theorem dX3_findCofactors_75 : decode cX3_findCofactors 75 = .ok (.iload_n 2, 1) := by decide +kernel
theorem dX3_findCofactors_76 : decode cX3_findCofactors 76 = .ok (.aaload, 1) := by decide +kernel
theorem dX3_findCofactors_77 : decode cX3_findCofactors 77 = .ok (.iload 6, 2) := by decide +kernel
theorem dX3_findCofactors_79 : decode cX3_findCofactors 79 = .ok (.laload, 1) := by decide +kernel
theorem dX3_findCofactors_80 : decode cX3_findCofactors 80 = .ok (.aload_n 0, 1) := by decide +kernel
theorem dX3_findCofactors_81 : decode cX3_findCofactors 81 = .ok (.getfield 11, 3) := by decide +kernel
theorem dX3_findCofactors_84 : decode cX3_findCofactors 84 = .ok (.iload_n 3, 1) := by decide +kernel
theorem dX3_findCofactors_85 : decode cX3_findCofactors 85 = .ok (.aaload, 1) := by decide +kernel
theorem dX3_findCofactors_86 : decode cX3_findCofactors 86 = .ok (.iload 5, 2) := by decide +kernel
theorem dX3_findCofactors_88 : decode cX3_findCofactors 88 = .ok (.laload, 1) := by decide +kernel
theorem dX3_findCofactors_89 : decode cX3_findCofactors 89 = .ok (.lmul, 1) := by decide +kernel
theorem dX3_findCofactors_90 : decode cX3_findCofactors 90 = .ok (.lsub, 1) := by decide +kernel
theorem dX3_findCofactors_91 : decode cX3_findCofactors 91 = .ok (.lastore, 1) := by decide +kernel
theorem dX3_findCofactors_92 : decode cX3_findCofactors 92 = .ok (.iinc 4 1, 3) := by decide +kernel
theorem dX3_findCofactors_95 : decode cX3_findCofactors 95 = .ok (.goto (-73), 3) := by decide +kernel
theorem dX3_findCofactors_98 : decode cX3_findCofactors 98 = .ok (.iinc 1 1, 3) := by decide +kernel
theorem dX3_findCofactors_101 : decode cX3_findCofactors 101 = .ok (.goto (-99), 3) := by decide +kernel
theorem dX3_findCofactors_104 : decode cX3_findCofactors 104 = .ok (.return_, 1) := by decide +kernel
theorem dX3_spans_0 : decode cX3_spans 0 = .ok (.aload_n 0, 1) := by decide +kernel
theorem dX3_spans_1 : decode cX3_spans 1 = .ok (.getfield 50, 3) := by decide +kernel
theorem dX3_spans_4 : decode cX3_spans 4 = .ok (.lconst 0, 1) := by decide +kernel
theorem dX3_spans_5 : decode cX3_spans 5 = .ok (.lcmp, 1) := by decide +kernel
theorem dX3_spans_6 : decode cX3_spans 6 = .ok (.ifCond .le 7, 3) := by decide +kernel
theorem dX3_spans_9 : decode cX3_spans 9 = .ok (.iconst 1, 1) := by decide +kernel
theorem dX3_spans_10 : decode cX3_spans 10 = .ok (.goto 4, 3) := by decide +kernel
theorem dX3_spans_13 : decode cX3_spans 13 = .ok (.iconst 0, 1) := by decide +kernel
theorem dX3_spans_14 : decode cX3_spans 14 = .ok (.ireturn, 1) := by decide +kernel
theorem dX3_aim_0 : decode cX3_aim 0 = .ok (.iconst 0, 1) := by decide +kernel
theorem dX3_aim_1 : decode cX3_aim 1 = .ok (.istore 7, 2) := by decide +kernel
theorem dX3_aim_3 : decode cX3_aim 3 = .ok (.iload 7, 2) := by decide +kernel
theorem dX3_aim_5 : decode cX3_aim 5 = .ok (.iconst 3, 1) := by decide +kernel
theorem dX3_aim_6 : decode cX3_aim 6 = .ok (.if_icmp .ge 52, 3) := by decide +kernel
theorem dX3_aim_9 : decode cX3_aim 9 = .ok (.aload_n 0, 1) := by decide +kernel
theorem dX3_aim_10 : decode cX3_aim 10 = .ok (.getfield 19, 3) := by decide +kernel
theorem dX3_aim_13 : decode cX3_aim 13 = .ok (.iload 7, 2) := by decide +kernel
theorem dX3_aim_15 : decode cX3_aim 15 = .ok (.aload_n 0, 1) := by decide +kernel
theorem dX3_aim_16 : decode cX3_aim 16 = .ok (.getfield 16, 3) := by decide +kernel
theorem dX3_aim_19 : decode cX3_aim 19 = .ok (.iload 7, 2) := by decide +kernel
theorem dX3_aim_21 : decode cX3_aim 21 = .ok (.aaload, 1) := by decide +kernel
theorem dX3_aim_22 : decode cX3_aim 22 = .ok (.iconst 0, 1) := by decide +kernel
theorem dX3_aim_23 : decode cX3_aim 23 = .ok (.laload, 1) := by decide +kernel
theorem dX3_aim_24 : decode cX3_aim 24 = .ok (.lload_n 1, 1) := by decide +kernel
theorem dX3_aim_25 : decode cX3_aim 25 = .ok (.lmul, 1) := by decide +kernel
theorem dX3_aim_26 : decode cX3_aim 26 = .ok (.aload_n 0, 1) := by decide +kernel
theorem dX3_aim_27 : decode cX3_aim 27 = .ok (.getfield 16, 3) := by decide +kernel
theorem dX3_aim_30 : decode cX3_aim 30 = .ok (.iload 7, 2) := by decide +kernel
theorem dX3_aim_32 : decode cX3_aim 32 = .ok (.aaload, 1) := by decide +kernel
theorem dX3_aim_33 : decode cX3_aim 33 = .ok (.iconst 1, 1) := by decide +kernel
theorem dX3_aim_34 : decode cX3_aim 34 = .ok (.laload, 1) := by decide +kernel
theorem dX3_aim_35 : decode cX3_aim 35 = .ok (.lload_n 3, 1) := by decide +kernel
theorem dX3_aim_36 : decode cX3_aim 36 = .ok (.lmul, 1) := by decide +kernel
theorem dX3_aim_37 : decode cX3_aim 37 = .ok (.ladd, 1) := by decide +kernel
theorem dX3_aim_38 : decode cX3_aim 38 = .ok (.aload_n 0, 1) := by decide +kernel
theorem dX3_aim_39 : decode cX3_aim 39 = .ok (.getfield 16, 3) := by decide +kernel
theorem dX3_aim_42 : decode cX3_aim 42 = .ok (.iload 7, 2) := by decide +kernel
theorem dX3_aim_44 : decode cX3_aim 44 = .ok (.aaload, 1) := by decide +kernel
theorem dX3_aim_45 : decode cX3_aim 45 = .ok (.iconst 2, 1) := by decide +kernel
theorem dX3_aim_46 : decode cX3_aim 46 = .ok (.laload, 1) := by decide +kernel
theorem dX3_aim_47 : decode cX3_aim 47 = .ok (.lload 5, 2) := by decide +kernel
theorem dX3_aim_49 : decode cX3_aim 49 = .ok (.lmul, 1) := by decide +kernel
theorem dX3_aim_50 : decode cX3_aim 50 = .ok (.ladd, 1) := by decide +kernel
theorem dX3_aim_51 : decode cX3_aim 51 = .ok (.lastore, 1) := by decide +kernel
theorem dX3_aim_52 : decode cX3_aim 52 = .ok (.iinc 7 1, 3) := by decide +kernel
theorem dX3_aim_55 : decode cX3_aim 55 = .ok (.goto (-52), 3) := by decide +kernel
theorem dX3_aim_58 : decode cX3_aim 58 = .ok (.return_, 1) := by decide +kernel
set_option maxRecDepth 20000 in
theorem ggX3_wishOf_X3_spans : GoodIn wsX3_wishOf wsX3_spans := goodIn_r _ [9, 3, 20, 21, 22, 23] (by decide +kernel) (by decide +kernel)
set_option maxRecDepth 20000 in
theorem gX3_wishOf_X3_spans : GoodIn wsX3_wishOf (wsV RX3 58 RX3 yX3_spans wsX3_spans) := goodIn_app (goodIn_of _ (by decide +kernel)) ggX3_wishOf_X3_spans
set_option maxRecDepth 20000 in
theorem ggX3_wishOf_J9_floorDiv_f86c9 : GoodIn wsX3_wishOf wsJ9_floorDiv_f86c9 := goodIn_r _ [13] (by decide +kernel) (by decide +kernel)
set_option maxRecDepth 20000 in
theorem gX3_wishOf_J9_floorDiv_f86c9 : GoodIn wsX3_wishOf (va_wsS RX3 64 yJ9_floorDiv_f86c9 wsJ9_floorDiv_f86c9) := goodIn_app (goodIn_of _ (by decide +kernel)) ggX3_wishOf_J9_floorDiv_f86c9
theorem dX3_wishOf_0 : decode cX3_wishOf 0 = .ok (.lconst 0, 1) := by decide +kernel
theorem dX3_wishOf_1 : decode cX3_wishOf 1 = .ok (.lstore_n 2, 1) := by decide +kernel
theorem dX3_wishOf_2 : decode cX3_wishOf 2 = .ok (.iconst 0, 1) := by decide +kernel
theorem dX3_wishOf_3 : decode cX3_wishOf 3 = .ok (.istore 4, 2) := by decide +kernel
theorem dX3_wishOf_5 : decode cX3_wishOf 5 = .ok (.iload 4, 2) := by decide +kernel
theorem dX3_wishOf_7 : decode cX3_wishOf 7 = .ok (.iconst 3, 1) := by decide +kernel
theorem dX3_wishOf_8 : decode cX3_wishOf 8 = .ok (.if_icmp .ge 28, 3) := by decide +kernel
theorem dX3_wishOf_11 : decode cX3_wishOf 11 = .ok (.lload_n 2, 1) := by decide +kernel
theorem dX3_wishOf_12 : decode cX3_wishOf 12 = .ok (.aload_n 1, 1) := by decide +kernel
theorem dX3_wishOf_13 : decode cX3_wishOf 13 = .ok (.getfield 39, 3) := by decide +kernel
theorem dX3_wishOf_16 : decode cX3_wishOf 16 = .ok (.iload 4, 2) := by decide +kernel
theorem dX3_wishOf_18 : decode cX3_wishOf 18 = .ok (.iaload, 1) := by decide +kernel
theorem dX3_wishOf_19 : decode cX3_wishOf 19 = .ok (.i2l, 1) := by decide +kernel
theorem dX3_wishOf_20 : decode cX3_wishOf 20 = .ok (.aload_n 0, 1) := by decide +kernel
theorem dX3_wishOf_21 : decode cX3_wishOf 21 = .ok (.getfield 19, 3) := by decide +kernel
theorem dX3_wishOf_24 : decode cX3_wishOf 24 = .ok (.iload 4, 2) := by decide +kernel
theorem dX3_wishOf_26 : decode cX3_wishOf 26 = .ok (.laload, 1) := by decide +kernel
theorem dX3_wishOf_27 : decode cX3_wishOf 27 = .ok (.lmul, 1) := by decide +kernel
theorem dX3_wishOf_28 : decode cX3_wishOf 28 = .ok (.ladd, 1) := by decide +kernel
theorem dX3_wishOf_29 : decode cX3_wishOf 29 = .ok (.lstore_n 2, 1) := by decide +kernel
theorem dX3_wishOf_30 : decode cX3_wishOf 30 = .ok (.iinc 4 1, 3) := by decide +kernel
theorem dX3_wishOf_33 : decode cX3_wishOf 33 = .ok (.goto (-28), 3) := by decide +kernel
theorem dX3_wishOf_36 : decode cX3_wishOf 36 = .ok (.aload_n 0, 1) := by decide +kernel
theorem dX3_wishOf_37 : decode cX3_wishOf 37 = .ok (.invokevirtual 58, 3) := by decide +kernel
theorem dX3_wishOf_40 : decode cX3_wishOf 40 = .ok (.ifCond .eq 27, 3) := by decide +kernel
theorem dX3_wishOf_43 : decode cX3_wishOf 43 = .ok (.aload_n 0, 1) := by decide +kernel
theorem dX3_wishOf_44 : decode cX3_wishOf 44 = .ok (.getfield 50, 3) := by decide +kernel
theorem dX3_wishOf_47 : decode cX3_wishOf 47 = .ok (.ldc2_w 62, 3) := by decide +kernel
theorem dX3_wishOf_50 : decode cX3_wishOf 50 = .ok (.lload_n 2, 1) := by decide +kernel
theorem dX3_wishOf_51 : decode cX3_wishOf 51 = .ok (.lmul, 1) := by decide +kernel
theorem dX3_wishOf_52 : decode cX3_wishOf 52 = .ok (.lsub, 1) := by decide +kernel
theorem dX3_wishOf_53 : decode cX3_wishOf 53 = .ok (.ldc2_w 62, 3) := by decide +kernel
theorem dX3_wishOf_56 : decode cX3_wishOf 56 = .ok (.aload_n 0, 1) := by decide +kernel
theorem dX3_wishOf_57 : decode cX3_wishOf 57 = .ok (.getfield 50, 3) := by decide +kernel
theorem dX3_wishOf_60 : decode cX3_wishOf 60 = .ok (.lmul, 1) := by decide +kernel
theorem dX3_wishOf_61 : decode cX3_wishOf 61 = .ok (.invokestatic 64, 3) := by decide +kernel
theorem dX3_wishOf_64 : decode cX3_wishOf 64 = .ok (.goto 4, 3) := by decide +kernel
theorem dX3_wishOf_67 : decode cX3_wishOf 67 = .ok (.lconst 0, 1) := by decide +kernel
theorem dX3_wishOf_68 : decode cX3_wishOf 68 = .ok (.lreturn, 1) := by decide +kernel
set_option maxRecDepth 20000 in
theorem ggX3_share_X3_spans : GoodIn wsX3_share wsX3_spans := goodIn_r _ [10, 11, 95, 96, 97, 98] (by decide +kernel) (by decide +kernel)
set_option maxRecDepth 20000 in
theorem gX3_share_X3_spans : GoodIn wsX3_share (wsV RX3 58 RX3 yX3_spans wsX3_spans) := goodIn_app (goodIn_of _ (by decide +kernel)) ggX3_share_X3_spans
set_option maxRecDepth 20000 in
theorem ggX3_share_X0_tellNoSpan : GoodIn wsX3_share wsX0_tellNoSpan := goodIn_r _ [16, 17, 18, 19, 20, 21, 78, 79, 80, 81, 82, 83, 84, 85, 86, 87, 88, 89, 90, 91, 92, 93, 94] (by decide +kernel) (by decide +kernel)
set_option maxRecDepth 20000 in
theorem gX3_share_X0_tellNoSpan : GoodIn wsX3_share (wsV RX3 73 RX0 yX0_tellNoSpan wsX0_tellNoSpan) := goodIn_app (goodIn_of _ (by decide +kernel)) ggX3_share_X0_tellNoSpan
set_option maxRecDepth 20000 in
theorem ggX3_share_X0_tellMet : GoodIn wsX3_share wsX0_tellMet := goodIn_r _ [25, 17, 18, 78, 79, 80, 81, 82, 83, 84, 85, 86, 87, 88] (by decide +kernel) (by decide +kernel)
set_option maxRecDepth 20000 in
theorem gX3_share_X0_tellMet : GoodIn wsX3_share (wsV RX3 76 RX0 yX0_tellMet wsX0_tellMet) := goodIn_app (goodIn_of _ (by decide +kernel)) ggX3_share_X0_tellMet
set_option maxRecDepth 20000 in
theorem ggX3_share_X3_aim : GoodIn wsX3_share wsX3_aim := goodIn_r _ [29, 30, 31, 95, 96, 97, 98] (by decide +kernel) (by decide +kernel)
set_option maxRecDepth 20000 in
theorem gX3_share_X3_aim : GoodIn wsX3_share (wsV RX3 82 RX3 yX3_aim wsX3_aim) := goodIn_app (goodIn_of _ (by decide +kernel)) ggX3_share_X3_aim
set_option maxRecDepth 20000 in
theorem ggX3_share_X3_give : GoodIn wsX3_share wsX3_give := goodIn_r _ [35, 2, 3, 36, 37, 38, 39, 40, 41, 9, 42, 30, 11, 43, 6, 7, 8, 10, 44, 45, 46, 47, 48, 49, 50, 51, 52, 53, 54, 55, 56, 57, 58, 59, 60, 61, 62, 63, 64, 65, 66, 67, 68, 69, 70, 71, 72, 15, 73, 17, 74, 75, 76, 77, 18, 78, 79, 80, 81, 82, 83, 84, 85, 86, 87, 88, 89, 90, 91, 92, 93, 94, 95, 96, 97, 98] (by decide +kernel) (by decide +kernel)
set_option maxRecDepth 20000 in
theorem gX3_share_X3_give : GoodIn wsX3_share (wsV RX3 86 RX3 yX3_give wsX3_give) := goodIn_app (goodIn_of _ (by decide +kernel)) ggX3_share_X3_give
theorem dX3_share_0 : decode cX3_share 0 = .ok (.iconst 0, 1) := by decide +kernel
theorem dX3_share_1 : decode cX3_share 1 = .ok (.istore_n 2, 1) := by decide +kernel
theorem dX3_share_2 : decode cX3_share 2 = .ok (.iload_n 2, 1) := by decide +kernel
theorem dX3_share_3 : decode cX3_share 3 = .ok (.aload_n 1, 1) := by decide +kernel
theorem dX3_share_4 : decode cX3_share 4 = .ok (.getfield 23, 3) := by decide +kernel
theorem dX3_share_7 : decode cX3_share 7 = .ok (.if_icmp .ge 19, 3) := by decide +kernel
theorem dX3_share_10 : decode cX3_share 10 = .ok (.aload_n 1, 1) := by decide +kernel
theorem dX3_share_11 : decode cX3_share 11 = .ok (.getfield 29, 3) := by decide +kernel
theorem dX3_share_14 : decode cX3_share 14 = .ok (.iload_n 2, 1) := by decide +kernel
theorem dX3_share_15 : decode cX3_share 15 = .ok (.aaload, 1) := by decide +kernel
theorem dX3_share_16 : decode cX3_share 16 = .ok (.iconst 0, 1) := by decide +kernel
theorem dX3_share_17 : decode cX3_share 17 = .ok (.putfield 70, 3) := by decide +kernel
theorem dX3_share_20 : decode cX3_share 20 = .ok (.iinc 2 1, 3) := by decide +kernel
theorem dX3_share_23 : decode cX3_share 23 = .ok (.goto (-21), 3) := by decide +kernel
theorem dX3_share_26 : decode cX3_share 26 = .ok (.aload_n 0, 1) := by decide +kernel
theorem dX3_share_27 : decode cX3_share 27 = .ok (.invokevirtual 58, 3) := by decide +kernel
theorem dX3_share_30 : decode cX3_share 30 = .ok (.ifCond .ne 8, 3) := by decide +kernel
theorem dX3_share_33 : decode cX3_share 33 = .ok (.aload_n 1, 1) := by decide +kernel
theorem dX3_share_34 : decode cX3_share 34 = .ok (.invokevirtual 73, 3) := by decide +kernel
theorem dX3_share_37 : decode cX3_share 37 = .ok (.return_, 1) := by decide +kernel
theorem dX3_share_38 : decode cX3_share 38 = .ok (.aload_n 1, 1) := by decide +kernel
theorem dX3_share_39 : decode cX3_share 39 = .ok (.invokevirtual 76, 3) := by decide +kernel
theorem dX3_share_42 : decode cX3_share 42 = .ok (.aload_n 0, 1) := by decide +kernel
theorem dX3_share_43 : decode cX3_share 43 = .ok (.aload_n 1, 1) := by decide +kernel
theorem dX3_share_44 : decode cX3_share 44 = .ok (.getfield 79, 3) := by decide +kernel
theorem dX3_share_47 : decode cX3_share 47 = .ok (.iconst 0, 1) := by decide +kernel
theorem dX3_share_48 : decode cX3_share 48 = .ok (.laload, 1) := by decide +kernel
theorem dX3_share_49 : decode cX3_share 49 = .ok (.aload_n 1, 1) := by decide +kernel
theorem dX3_share_50 : decode cX3_share 50 = .ok (.getfield 79, 3) := by decide +kernel
theorem dX3_share_53 : decode cX3_share 53 = .ok (.iconst 1, 1) := by decide +kernel
theorem dX3_share_54 : decode cX3_share 54 = .ok (.laload, 1) := by decide +kernel
theorem dX3_share_55 : decode cX3_share 55 = .ok (.aload_n 1, 1) := by decide +kernel
theorem dX3_share_56 : decode cX3_share 56 = .ok (.getfield 79, 3) := by decide +kernel
theorem dX3_share_59 : decode cX3_share 59 = .ok (.iconst 2, 1) := by decide +kernel
theorem dX3_share_60 : decode cX3_share 60 = .ok (.laload, 1) := by decide +kernel
theorem dX3_share_61 : decode cX3_share 61 = .ok (.invokevirtual 82, 3) := by decide +kernel
theorem dX3_share_64 : decode cX3_share 64 = .ok (.iconst 0, 1) := by decide +kernel
theorem dX3_share_65 : decode cX3_share 65 = .ok (.istore_n 2, 1) := by decide +kernel
theorem dX3_share_66 : decode cX3_share 66 = .ok (.iload_n 2, 1) := by decide +kernel
theorem dX3_share_67 : decode cX3_share 67 = .ok (.aload_n 1, 1) := by decide +kernel
theorem dX3_share_68 : decode cX3_share 68 = .ok (.getfield 23, 3) := by decide +kernel
theorem dX3_share_71 : decode cX3_share 71 = .ok (.if_icmp .ge 27, 3) := by decide +kernel
theorem dX3_share_74 : decode cX3_share 74 = .ok (.aload_n 1, 1) := by decide +kernel
theorem dX3_share_75 : decode cX3_share 75 = .ok (.getfield 29, 3) := by decide +kernel
theorem dX3_share_78 : decode cX3_share 78 = .ok (.iload_n 2, 1) := by decide +kernel
theorem dX3_share_79 : decode cX3_share 79 = .ok (.aaload, 1) := by decide +kernel
theorem dX3_share_80 : decode cX3_share 80 = .ok (.getfield 33, 3) := by decide +kernel
theorem dX3_share_83 : decode cX3_share 83 = .ok (.ifCond .ne 9, 3) := by decide +kernel
theorem dX3_share_86 : decode cX3_share 86 = .ok (.aload_n 0, 1) := by decide +kernel
theorem dX3_share_87 : decode cX3_share 87 = .ok (.aload_n 1, 1) := by decide +kernel
theorem dX3_share_88 : decode cX3_share 88 = .ok (.iload_n 2, 1) := by decide +kernel
theorem dX3_share_89 : decode cX3_share 89 = .ok (.invokevirtual 86, 3) := by decide +kernel
theorem dX3_share_92 : decode cX3_share 92 = .ok (.iinc 2 1, 3) := by decide +kernel
theorem dX3_share_95 : decode cX3_share 95 = .ok (.goto (-29), 3) := by decide +kernel
theorem dX3_share_98 : decode cX3_share 98 = .ok (.return_, 1) := by decide +kernel
set_option maxRecDepth 20000 in
theorem ggX3_give_X3_wishOf : GoodIn wsX3_give wsX3_wishOf := goodIn_r _ [10, 5, 11, 12, 13, 14, 15, 16, 9, 17, 18, 19, 20, 21, 66, 67, 68, 69, 70, 71, 72, 73, 74, 75] (by decide +kernel) (by decide +kernel)
set_option maxRecDepth 20000 in
theorem gX3_give_X3_wishOf : GoodIn wsX3_give (wsV RX3 90 RX3 yX3_wishOf wsX3_wishOf) := goodIn_app (goodIn_of _ (by decide +kernel)) ggX3_give_X3_wishOf
set_option maxRecDepth 20000 in
theorem ggX3_give_X4_allowedByTorque : GoodIn wsX3_give wsX4_allowedByTorque := goodIn_r _ [26, 27, 28, 29, 30, 66, 67, 68, 69, 70, 71] (by decide +kernel) (by decide +kernel)
set_option maxRecDepth 20000 in
theorem gX3_give_X4_allowedByTorque : GoodIn wsX3_give (wsV RX3 94 RX4 yX4_allowedByTorque wsX4_allowedByTorque) := goodIn_app (goodIn_of _ (by decide +kernel)) ggX3_give_X4_allowedByTorque
set_option maxRecDepth 20000 in
theorem ggX3_give_X4_allowedByMomentum : GoodIn wsX3_give wsX4_allowedByMomentum := goodIn_r _ [34, 35, 36, 37, 38, 39, 40, 41, 42, 43, 28, 29, 30, 66, 67, 68, 69, 70, 71] (by decide +kernel) (by decide +kernel)
set_option maxRecDepth 20000 in
theorem gX3_give_X4_allowedByMomentum : GoodIn wsX3_give (wsV RX3 98 RX4 yX4_allowedByMomentum wsX4_allowedByMomentum) := goodIn_app (goodIn_of _ (by decide +kernel)) ggX3_give_X4_allowedByMomentum
set_option maxRecDepth 20000 in
theorem ggX3_give_X0_isMet : GoodIn wsX3_give wsX0_isMet := goodIn_r _ [48, 49, 55, 56, 57, 58, 59, 60, 61, 62, 63, 64, 65] (by decide +kernel) (by decide +kernel)
set_option maxRecDepth 20000 in
theorem gX3_give_X0_isMet : GoodIn wsX3_give (wsV RX3 106 RX0 yX0_isMet wsX0_isMet) := goodIn_app (goodIn_of _ (by decide +kernel)) ggX3_give_X0_isMet
set_option maxRecDepth 20000 in
theorem ggX3_give_X0_tellLimited : GoodIn wsX3_give wsX0_tellLimited := goodIn_r _ [53, 49, 54, 55, 56, 57, 58, 59, 60, 61, 62, 63, 64, 65] (by decide +kernel) (by decide +kernel)
set_option maxRecDepth 20000 in
theorem gX3_give_X0_tellLimited : GoodIn wsX3_give (wsV RX3 109 RX0 yX0_tellLimited wsX0_tellLimited) := goodIn_app (goodIn_of _ (by decide +kernel)) ggX3_give_X0_tellLimited
theorem dX3_give_0 : decode cX3_give 0 = .ok (.aload_n 1, 1) := by decide +kernel
theorem dX3_give_1 : decode cX3_give 1 = .ok (.getfield 29, 3) := by decide +kernel
theorem dX3_give_4 : decode cX3_give 4 = .ok (.iload_n 2, 1) := by decide +kernel
theorem dX3_give_5 : decode cX3_give 5 = .ok (.aaload, 1) := by decide +kernel
theorem dX3_give_6 : decode cX3_give 6 = .ok (.astore_n 3, 1) := by decide +kernel
theorem dX3_give_7 : decode cX3_give 7 = .ok (.aload_n 0, 1) := by decide +kernel
theorem dX3_give_8 : decode cX3_give 8 = .ok (.aload_n 3, 1) := by decide +kernel
theorem dX3_give_9 : decode cX3_give 9 = .ok (.invokevirtual 90, 3) := by decide +kernel
theorem dX3_give_12 : decode cX3_give 12 = .ok (.lstore 4, 2) := by decide +kernel
theorem dX3_give_14 : decode cX3_give 14 = .ok (.aload_n 3, 1) := by decide +kernel
theorem dX3_give_15 : decode cX3_give 15 = .ok (.lload 4, 2) := by decide +kernel
theorem dX3_give_17 : decode cX3_give 17 = .ok (.invokevirtual 94, 3) := by decide +kernel
theorem dX3_give_20 : decode cX3_give 20 = .ok (.lstore 6, 2) := by decide +kernel
theorem dX3_give_22 : decode cX3_give 22 = .ok (.aload_n 3, 1) := by decide +kernel
theorem dX3_give_23 : decode cX3_give 23 = .ok (.lload 6, 2) := by decide +kernel
theorem dX3_give_25 : decode cX3_give 25 = .ok (.invokevirtual 98, 3) := by decide +kernel
theorem dX3_give_28 : decode cX3_give 28 = .ok (.lstore 8, 2) := by decide +kernel
theorem dX3_give_30 : decode cX3_give 30 = .ok (.aload_n 3, 1) := by decide +kernel
theorem dX3_give_31 : decode cX3_give 31 = .ok (.lload 8, 2) := by decide +kernel
theorem dX3_give_33 : decode cX3_give 33 = .ok (.l2i, 1) := by decide +kernel
theorem dX3_give_34 : decode cX3_give 34 = .ok (.putfield 70, 3) := by decide +kernel
theorem dX3_give_37 : decode cX3_give 37 = .ok (.aload_n 3, 1) := by decide +kernel
theorem dX3_give_38 : decode cX3_give 38 = .ok (.dup, 1) := by decide +kernel
theorem dX3_give_39 : decode cX3_give 39 = .ok (.getfield 101, 3) := by decide +kernel
theorem dX3_give_42 : decode cX3_give 42 = .ok (.aload_n 3, 1) := by decide +kernel
theorem dX3_give_43 : decode cX3_give 43 = .ok (.getfield 70, 3) := by decide +kernel
theorem dX3_give_46 : decode cX3_give 46 = .ok (.iadd, 1) := by decide +kernel
theorem dX3_give_47 : decode cX3_give 47 = .ok (.putfield 101, 3) := by decide +kernel
theorem dX3_give_50 : decode cX3_give 50 = .ok (.iconst 0, 1) := by decide +kernel
theorem dX3_give_51 : decode cX3_give 51 = .ok (.istore 10, 2) := by decide +kernel
theorem dX3_give_53 : decode cX3_give 53 = .ok (.iload 10, 2) := by decide +kernel
theorem dX3_give_55 : decode cX3_give 55 = .ok (.iconst 3, 1) := by decide +kernel
theorem dX3_give_56 : decode cX3_give 56 = .ok (.if_icmp .ge 30, 3) := by decide +kernel
theorem dX3_give_59 : decode cX3_give 59 = .ok (.aload_n 1, 1) := by decide +kernel
theorem dX3_give_60 : decode cX3_give 60 = .ok (.getfield 104, 3) := by decide +kernel
theorem dX3_give_63 : decode cX3_give 63 = .ok (.iload 10, 2) := by decide +kernel
theorem dX3_give_65 : decode cX3_give 65 = .ok (.dup2, 1) := by decide +kernel
theorem dX3_give_66 : decode cX3_give 66 = .ok (.laload, 1) := by decide +kernel
theorem dX3_give_67 : decode cX3_give 67 = .ok (.aload_n 3, 1) := by decide +kernel
theorem dX3_give_68 : decode cX3_give 68 = .ok (.getfield 39, 3) := by decide +kernel
theorem dX3_give_71 : decode cX3_give 71 = .ok (.iload 10, 2) := by decide +kernel
theorem dX3_give_73 : decode cX3_give 73 = .ok (.iaload, 1) := by decide +kernel
theorem dX3_give_74 : decode cX3_give 74 = .ok (.i2l, 1) := by decide +kernel
theorem dX3_give_75 : decode cX3_give 75 = .ok (.lload 8, 2) := by decide +kernel
theorem dX3_give_77 : decode cX3_give 77 = .ok (.lmul, 1) := by decide +kernel
theorem dX3_give_78 : decode cX3_give 78 = .ok (.lsub, 1) := by decide +kernel
theorem dX3_give_79 : decode cX3_give 79 = .ok (.lastore, 1) := by decide +kernel
theorem dX3_give_80 : decode cX3_give 80 = .ok (.iinc 10 1, 3) := by decide +kernel
theorem dX3_give_83 : decode cX3_give 83 = .ok (.goto (-30), 3) := by decide +kernel
theorem dX3_give_86 : decode cX3_give 86 = .ok (.lload 8, 2) := by decide +kernel
theorem dX3_give_88 : decode cX3_give 88 = .ok (.lload 4, 2) := by decide +kernel
theorem dX3_give_90 : decode cX3_give 90 = .ok (.lcmp, 1) := by decide +kernel
theorem dX3_give_91 : decode cX3_give 91 = .ok (.ifCond .eq 28, 3) := by decide +kernel
theorem dX3_give_94 : decode cX3_give 94 = .ok (.aload_n 1, 1) := by decide +kernel
theorem dX3_give_95 : decode cX3_give 95 = .ok (.invokevirtual 106, 3) := by decide +kernel
theorem dX3_give_98 : decode cX3_give 98 = .ok (.ifCond .eq 21, 3) := by decide +kernel
theorem dX3_give_101 : decode cX3_give 101 = .ok (.aload_n 1, 1) := by decide +kernel
theorem dX3_give_102 : decode cX3_give 102 = .ok (.iload_n 2, 1) := by decide +kernel
theorem dX3_give_103 : decode cX3_give 103 = .ok (.lload 8, 2) := by decide +kernel
theorem dX3_give_105 : decode cX3_give 105 = .ok (.lload 6, 2) := by decide +kernel
theorem dX3_give_107 : decode cX3_give 107 = .ok (.lcmp, 1) := by decide +kernel
theorem dX3_give_108 : decode cX3_give 108 = .ok (.ifCond .ne 7, 3) := by decide +kernel
theorem dX3_give_111 : decode cX3_give 111 = .ok (.iconst 1, 1) := by decide +kernel
theorem dX3_give_112 : decode cX3_give 112 = .ok (.goto 4, 3) := by decide +kernel
theorem dX3_give_115 : decode cX3_give 115 = .ok (.iconst 0, 1) := by decide +kernel
theorem dX3_give_116 : decode cX3_give 116 = .ok (.invokevirtual 109, 3) := by decide +kernel
theorem dX3_give_119 : decode cX3_give 119 = .ok (.return_, 1) := by decide +kernel
theorem dX4_init_0 : decode cX4_init 0 = .ok (.aload_n 0, 1) := by decide +kernel
theorem dX4_init_1 : decode cX4_init 1 = .ok (.invokespecial 3, 3) := by decide +kernel
theorem dX4_init_4 : decode cX4_init 4 = .ok (.aload_n 0, 1) := by decide +kernel
theorem dX4_init_5 : decode cX4_init 5 = .ok (.iconst 3, 1) := by decide +kernel
theorem dX4_init_6 : decode cX4_init 6 = .ok (.newarray .int, 2) := by decide +kernel
theorem dX4_init_8 : decode cX4_init 8 = .ok (.putfield 9, 3) := by decide +kernel
theorem dX4_init_11 : decode cX4_init 11 = .ok (.return_, 1) := by decide +kernel
theorem dX4_start_0 : decode cX4_start 0 = .ok (.aload_n 0, 1) := by decide +kernel
theorem dX4_start_1 : decode cX4_start 1 = .ok (.getfield 9, 3) := by decide +kernel
theorem dX4_start_4 : decode cX4_start 4 = .ok (.iconst 0, 1) := by decide +kernel
theorem dX4_start_5 : decode cX4_start 5 = .ok (.iload_n 1, 1) := by decide +kernel
theorem dX4_start_6 : decode cX4_start 6 = .ok (.iastore, 1) := by decide +kernel
theorem dX4_start_7 : decode cX4_start 7 = .ok (.aload_n 0, 1) := by decide +kernel
theorem dX4_start_8 : decode cX4_start 8 = .ok (.getfield 9, 3) := by decide +kernel
theorem dX4_start_11 : decode cX4_start 11 = .ok (.iconst 1, 1) := by decide +kernel
theorem dX4_start_12 : decode cX4_start 12 = .ok (.iload_n 2, 1) := by decide +kernel
theorem dX4_start_13 : decode cX4_start 13 = .ok (.iastore, 1) := by decide +kernel
theorem dX4_start_14 : decode cX4_start 14 = .ok (.aload_n 0, 1) := by decide +kernel
theorem dX4_start_15 : decode cX4_start 15 = .ok (.getfield 9, 3) := by decide +kernel
theorem dX4_start_18 : decode cX4_start 18 = .ok (.iconst 2, 1) := by decide +kernel
theorem dX4_start_19 : decode cX4_start 19 = .ok (.iload_n 3, 1) := by decide +kernel
theorem dX4_start_20 : decode cX4_start 20 = .ok (.iastore, 1) := by decide +kernel
theorem dX4_start_21 : decode cX4_start 21 = .ok (.aload_n 0, 1) := by decide +kernel
theorem dX4_start_22 : decode cX4_start 22 = .ok (.iconst 0, 1) := by decide +kernel
theorem dX4_start_23 : decode cX4_start 23 = .ok (.putfield 15, 3) := by decide +kernel
theorem dX4_start_26 : decode cX4_start 26 = .ok (.aload_n 0, 1) := by decide +kernel
theorem dX4_start_27 : decode cX4_start 27 = .ok (.iload 4, 2) := by decide +kernel
theorem dX4_start_29 : decode cX4_start 29 = .ok (.putfield 19, 3) := by decide +kernel
theorem dX4_start_32 : decode cX4_start 32 = .ok (.aload_n 0, 1) := by decide +kernel
theorem dX4_start_33 : decode cX4_start 33 = .ok (.iload 5, 2) := by decide +kernel
theorem dX4_start_35 : decode cX4_start 35 = .ok (.putfield 22, 3) := by decide +kernel
theorem dX4_start_38 : decode cX4_start 38 = .ok (.aload_n 0, 1) := by decide +kernel
theorem dX4_start_39 : decode cX4_start 39 = .ok (.iconst 0, 1) := by decide +kernel
theorem dX4_start_40 : decode cX4_start 40 = .ok (.putfield 25, 3) := by decide +kernel
theorem dX4_start_43 : decode cX4_start 43 = .ok (.aload_n 0, 1) := by decide +kernel
theorem dX4_start_44 : decode cX4_start 44 = .ok (.iconst 0, 1) := by decide +kernel
theorem dX4_start_45 : decode cX4_start 45 = .ok (.putfield 29, 3) := by decide +kernel
theorem dX4_start_48 : decode cX4_start 48 = .ok (.return_, 1) := by decide +kernel
theorem dX4_become_0 : decode cX4_become 0 = .ok (.aload_n 1, 1) := by decide +kernel
theorem dX4_become_1 : decode cX4_become 1 = .ok (.getfield 9, 3) := by decide +kernel
theorem dX4_become_4 : decode cX4_become 4 = .ok (.iconst 0, 1) := by decide +kernel
theorem dX4_become_5 : decode cX4_become 5 = .ok (.aload_n 0, 1) := by decide +kernel
theorem dX4_become_6 : decode cX4_become 6 = .ok (.getfield 9, 3) := by decide +kernel
theorem dX4_become_9 : decode cX4_become 9 = .ok (.iconst 0, 1) := by decide +kernel
theorem dX4_become_10 : decode cX4_become 10 = .ok (.iconst 3, 1) := by decide +kernel
theorem dX4_become_11 : decode cX4_become 11 = .ok (.invokestatic 32, 3) := by decide +kernel
theorem dX4_become_14 : decode cX4_become 14 = .ok (.aload_n 0, 1) := by decide +kernel
theorem dX4_become_15 : decode cX4_become 15 = .ok (.aload_n 1, 1) := by decide +kernel
theorem dX4_become_16 : decode cX4_become 16 = .ok (.getfield 15, 3) := by decide +kernel
theorem dX4_become_19 : decode cX4_become 19 = .ok (.putfield 15, 3) := by decide +kernel
theorem dX4_become_22 : decode cX4_become 22 = .ok (.aload_n 0, 1) := by decide +kernel
theorem dX4_become_23 : decode cX4_become 23 = .ok (.aload_n 1, 1) := by decide +kernel
theorem dX4_become_24 : decode cX4_become 24 = .ok (.getfield 19, 3) := by decide +kernel
theorem dX4_become_27 : decode cX4_become 27 = .ok (.putfield 19, 3) := by decide +kernel
theorem dX4_become_30 : decode cX4_become 30 = .ok (.aload_n 0, 1) := by decide +kernel
theorem dX4_become_31 : decode cX4_become 31 = .ok (.aload_n 1, 1) := by decide +kernel
theorem dX4_become_32 : decode cX4_become 32 = .ok (.getfield 22, 3) := by decide +kernel
theorem dX4_become_35 : decode cX4_become 35 = .ok (.putfield 22, 3) := by decide +kernel
theorem dX4_become_38 : decode cX4_become 38 = .ok (.aload_n 0, 1) := by decide +kernel
theorem dX4_become_39 : decode cX4_become 39 = .ok (.aload_n 1, 1) := by decide +kernel
theorem dX4_become_40 : decode cX4_become 40 = .ok (.getfield 25, 3) := by decide +kernel
theorem dX4_become_43 : decode cX4_become 43 = .ok (.putfield 25, 3) := by decide +kernel
theorem dX4_become_46 : decode cX4_become 46 = .ok (.aload_n 0, 1) := by decide +kernel
theorem dX4_become_47 : decode cX4_become 47 = .ok (.aload_n 1, 1) := by decide +kernel
theorem dX4_become_48 : decode cX4_become 48 = .ok (.getfield 29, 3) := by decide +kernel
theorem dX4_become_51 : decode cX4_become 51 = .ok (.putfield 29, 3) := by decide +kernel
theorem dX4_become_54 : decode cX4_become 54 = .ok (.return_, 1) := by decide +kernel
theorem dX4_number_0 : decode cX4_number 0 = .ok (.iload_n 1, 1) := by decide +kernel
theorem dX4_number_1 : decode cX4_number 1 = .ok (.tableswitch 78 0 6 #[43, 43, 43, 50, 55, 60, 65], 43) := by decide +kernel
theorem dX4_number_44 : decode cX4_number 44 = .ok (.aload_n 0, 1) := by decide +kernel
theorem dX4_number_45 : decode cX4_number 45 = .ok (.getfield 9, 3) := by decide +kernel
theorem dX4_number_48 : decode cX4_number 48 = .ok (.iload_n 1, 1) := by decide +kernel
theorem dX4_number_49 : decode cX4_number 49 = .ok (.iaload, 1) := by decide +kernel
theorem dX4_number_50 : decode cX4_number 50 = .ok (.ireturn, 1) := by decide +kernel
theorem dX4_number_51 : decode cX4_number 51 = .ok (.aload_n 0, 1) := by decide +kernel
theorem dX4_number_52 : decode cX4_number 52 = .ok (.getfield 15, 3) := by decide +kernel
theorem dX4_number_55 : decode cX4_number 55 = .ok (.ireturn, 1) := by decide +kernel
theorem dX4_number_56 : decode cX4_number 56 = .ok (.aload_n 0, 1) := by decide +kernel
theorem dX4_number_57 : decode cX4_number 57 = .ok (.getfield 19, 3) := by decide +kernel
theorem dX4_number_60 : decode cX4_number 60 = .ok (.ireturn, 1) := by decide +kernel
theorem dX4_number_61 : decode cX4_number 61 = .ok (.aload_n 0, 1) := by decide +kernel
theorem dX4_number_62 : decode cX4_number 62 = .ok (.getfield 22, 3) := by decide +kernel
theorem dX4_number_65 : decode cX4_number 65 = .ok (.ireturn, 1) := by decide +kernel
theorem dX4_number_66 : decode cX4_number 66 = .ok (.aload_n 0, 1) := by decide +kernel
theorem dX4_number_67 : decode cX4_number 67 = .ok (.getfield 25, 3) := by decide +kernel
theorem dX4_number_70 : decode cX4_number 70 = .ok (.ifCond .eq 7, 3) := by decide +kernel
theorem dX4_number_73 : decode cX4_number 73 = .ok (.iconst 1, 1) := by decide +kernel
theorem dX4_number_74 : decode cX4_number 74 = .ok (.goto 4, 3) := by decide +kernel
theorem dX4_number_77 : decode cX4_number 77 = .ok (.iconst 0, 1) := by decide +kernel
theorem dX4_number_78 : decode cX4_number 78 = .ok (.ireturn, 1) := by decide +kernel
theorem dX4_number_79 : decode cX4_number 79 = .ok (.aload_n 0, 1) := by decide +kernel
theorem dX4_number_80 : decode cX4_number 80 = .ok (.getfield 29, 3) := by decide +kernel
theorem dX4_number_83 : decode cX4_number 83 = .ok (.ireturn, 1) := by decide +kernel
set_option maxRecDepth 20000 in
theorem ggX4_allowedByTorque_X5_limited : GoodIn wsX4_allowedByTorque wsX5_limited := goodIn_r _ [4] (by decide +kernel) (by decide +kernel)
set_option maxRecDepth 20000 in
theorem gX4_allowedByTorque_X5_limited_n38 : GoodIn wsX4_allowedByTorque (wsX5_limited) := ggX4_allowedByTorque_X5_limited
theorem dX4_allowedByTorque_0 : decode cX4_allowedByTorque 0 = .ok (.lload_n 1, 1) := by decide +kernel
theorem dX4_allowedByTorque_1 : decode cX4_allowedByTorque 1 = .ok (.aload_n 0, 1) := by decide +kernel
theorem dX4_allowedByTorque_2 : decode cX4_allowedByTorque 2 = .ok (.getfield 22, 3) := by decide +kernel
theorem dX4_allowedByTorque_5 : decode cX4_allowedByTorque 5 = .ok (.ineg, 1) := by decide +kernel
theorem dX4_allowedByTorque_6 : decode cX4_allowedByTorque 6 = .ok (.i2l, 1) := by decide +kernel
theorem dX4_allowedByTorque_7 : decode cX4_allowedByTorque 7 = .ok (.aload_n 0, 1) := by decide +kernel
theorem dX4_allowedByTorque_8 : decode cX4_allowedByTorque 8 = .ok (.getfield 22, 3) := by decide +kernel
theorem dX4_allowedByTorque_11 : decode cX4_allowedByTorque 11 = .ok (.i2l, 1) := by decide +kernel
theorem dX4_allowedByTorque_12 : decode cX4_allowedByTorque 12 = .ok (.invokestatic 38, 3) := by decide +kernel
theorem dX4_allowedByTorque_15 : decode cX4_allowedByTorque 15 = .ok (.lreturn, 1) := by decide +kernel
set_option maxRecDepth 20000 in
theorem ggX4_allowedByMomentum_X5_limited : GoodIn wsX4_allowedByMomentum wsX5_limited := goodIn_r _ [12] (by decide +kernel) (by decide +kernel)
set_option maxRecDepth 20000 in
theorem gX4_allowedByMomentum_X5_limited_n38 : GoodIn wsX4_allowedByMomentum (wsX5_limited) := ggX4_allowedByMomentum_X5_limited
theorem dX4_allowedByMomentum_0 : decode cX4_allowedByMomentum 0 = .ok (.iconst 0, 1) := by decide +kernel
theorem dX4_allowedByMomentum_1 : decode cX4_allowedByMomentum 1 = .ok (.aload_n 0, 1) := by decide +kernel
theorem dX4_allowedByMomentum_2 : decode cX4_allowedByMomentum 2 = .ok (.getfield 19, 3) := by decide +kernel
theorem dX4_allowedByMomentum_5 : decode cX4_allowedByMomentum 5 = .ok (.ineg, 1) := by decide +kernel
theorem dX4_allowedByMomentum_6 : decode cX4_allowedByMomentum 6 = .ok (.aload_n 0, 1) := by decide +kernel
theorem dX4_allowedByMomentum_7 : decode cX4_allowedByMomentum 7 = .ok (.getfield 15, 3) := by decide +kernel
theorem dX4_allowedByMomentum_10 : decode cX4_allowedByMomentum 10 = .ok (.isub, 1) := by decide +kernel
theorem dX4_allowedByMomentum_11 : decode cX4_allowedByMomentum 11 = .ok (.invokestatic 42, 3) := by decide +kernel
theorem dX4_allowedByMomentum_14 : decode cX4_allowedByMomentum 14 = .ok (.i2l, 1) := by decide +kernel
theorem dX4_allowedByMomentum_15 : decode cX4_allowedByMomentum 15 = .ok (.lstore_n 3, 1) := by decide +kernel
theorem dX4_allowedByMomentum_16 : decode cX4_allowedByMomentum 16 = .ok (.iconst 0, 1) := by decide +kernel
theorem dX4_allowedByMomentum_17 : decode cX4_allowedByMomentum 17 = .ok (.aload_n 0, 1) := by decide +kernel
theorem dX4_allowedByMomentum_18 : decode cX4_allowedByMomentum 18 = .ok (.getfield 19, 3) := by decide +kernel
theorem dX4_allowedByMomentum_21 : decode cX4_allowedByMomentum 21 = .ok (.aload_n 0, 1) := by decide +kernel
theorem dX4_allowedByMomentum_22 : decode cX4_allowedByMomentum 22 = .ok (.getfield 15, 3) := by decide +kernel
theorem dX4_allowedByMomentum_25 : decode cX4_allowedByMomentum 25 = .ok (.isub, 1) := by decide +kernel
theorem dX4_allowedByMomentum_26 : decode cX4_allowedByMomentum 26 = .ok (.invokestatic 48, 3) := by decide +kernel
theorem dX4_allowedByMomentum_29 : decode cX4_allowedByMomentum 29 = .ok (.i2l, 1) := by decide +kernel
theorem dX4_allowedByMomentum_30 : decode cX4_allowedByMomentum 30 = .ok (.lstore 5, 2) := by decide +kernel
theorem dX4_allowedByMomentum_32 : decode cX4_allowedByMomentum 32 = .ok (.lload_n 1, 1) := by decide +kernel
theorem dX4_allowedByMomentum_33 : decode cX4_allowedByMomentum 33 = .ok (.lload_n 3, 1) := by decide +kernel
theorem dX4_allowedByMomentum_34 : decode cX4_allowedByMomentum 34 = .ok (.lload 5, 2) := by decide +kernel
theorem dX4_allowedByMomentum_36 : decode cX4_allowedByMomentum 36 = .ok (.invokestatic 38, 3) := by decide +kernel
theorem dX4_allowedByMomentum_39 : decode cX4_allowedByMomentum 39 = .ok (.lreturn, 1) := by decide +kernel
theorem dX4_fullPart_0 : decode cX4_fullPart 0 = .ok (.aload_n 0, 1) := by decide +kernel
theorem dX4_fullPart_1 : decode cX4_fullPart 1 = .ok (.getfield 19, 3) := by decide +kernel
theorem dX4_fullPart_4 : decode cX4_fullPart 4 = .ok (.ifCond .le 11, 3) := by decide +kernel
theorem dX4_fullPart_7 : decode cX4_fullPart 7 = .ok (.aload_n 0, 1) := by decide +kernel
theorem dX4_fullPart_8 : decode cX4_fullPart 8 = .ok (.getfield 19, 3) := by decide +kernel
theorem dX4_fullPart_11 : decode cX4_fullPart 11 = .ok (.i2f, 1) := by decide +kernel
theorem dX4_fullPart_12 : decode cX4_fullPart 12 = .ok (.goto 4, 3) := by decide +kernel
theorem dX4_fullPart_15 : decode cX4_fullPart 15 = .ok (.fconst 1, 1) := by decide +kernel
theorem dX4_fullPart_16 : decode cX4_fullPart 16 = .ok (.fstore_n 1, 1) := by decide +kernel
theorem dX4_fullPart_17 : decode cX4_fullPart 17 = .ok (.aload_n 0, 1) := by decide +kernel
theorem dX4_fullPart_18 : decode cX4_fullPart 18 = .ok (.getfield 15, 3) := by decide +kernel
theorem dX4_fullPart_21 : decode cX4_fullPart 21 = .ok (.invokestatic 51, 3) := by decide +kernel
theorem dX4_fullPart_24 : decode cX4_fullPart 24 = .ok (.i2f, 1) := by decide +kernel
theorem dX4_fullPart_25 : decode cX4_fullPart 25 = .ok (.fload_n 1, 1) := by decide +kernel
theorem dX4_fullPart_26 : decode cX4_fullPart 26 = .ok (.fdiv, 1) := by decide +kernel
theorem dX4_fullPart_27 : decode cX4_fullPart 27 = .ok (.freturn, 1) := by decide +kernel
end
section
set_option maxRecDepth 20000 in
theorem ggX5_init_X0_init : GoodIn wsX5_init wsX0_init := goodIn_r _ [23, 24, 2, 3, 25, 26, 27, 28, 29, 30, 31, 32, 33, 34, 35, 36, 37, 38, 39, 40, 41, 42, 43, 63, 64, 65, 66, 67, 68, 69, 70, 71, 72, 73, 87, 88, 89, 90, 91, 92] (by decide +kernel) (by decide +kernel)
set_option maxRecDepth 20000 in
theorem gX5_init_X0_init : GoodIn wsX5_init (wsX0_init) := ggX5_init_X0_init
set_option maxRecDepth 20000 in
theorem ggX5_init_X3_init : GoodIn wsX5_init wsX3_init := goodIn_r _ [45, 46, 2, 3, 47, 29, 48, 49, 50, 79, 80, 81, 82] (by decide +kernel) (by decide +kernel)
set_option maxRecDepth 20000 in
theorem gX5_init_X3_init_n21 : GoodIn wsX5_init (wsX3_init) := ggX5_init_X3_init
set_option maxRecDepth 20000 in
theorem ggX5_init_X2_init : GoodIn wsX5_init wsX2_init := goodIn_r _ [52, 53, 2, 3, 29, 54, 55, 83, 84] (by decide +kernel) (by decide +kernel)
set_option maxRecDepth 20000 in
theorem gX5_init_X2_init_n28 : GoodIn wsX5_init (wsX2_init) := ggX5_init_X2_init
set_option maxRecDepth 20000 in
theorem ggX5_init_X1_init : GoodIn wsX5_init wsX1_init := goodIn_r _ [58, 59, 2, 3, 60, 61, 5, 6, 62, 22, 23, 24, 25, 26, 27, 28, 29, 30, 31, 32, 33, 34, 35, 36, 37, 38, 39, 40, 41, 42, 43, 85, 86, 63, 64, 65, 66, 67, 68, 69, 70, 71, 72, 73, 87, 88, 89, 90, 91, 92] (by decide +kernel) (by decide +kernel)
set_option maxRecDepth 20000 in
theorem gX5_init_X1_init : GoodIn wsX5_init (wsX1_init) := ggX5_init_X1_init
theorem dX5_init_0 : decode cX5_init 0 = .ok (.aload_n 0, 1) := by decide +kernel
theorem dX5_init_1 : decode cX5_init 1 = .ok (.invokespecial 1, 3) := by decide +kernel
theorem dX5_init_4 : decode cX5_init 4 = .ok (.aload_n 0, 1) := by decide +kernel
theorem dX5_init_5 : decode cX5_init 5 = .ok (.new 7, 3) := by decide +kernel
theorem dX5_init_8 : decode cX5_init 8 = .ok (.dup, 1) := by decide +kernel
theorem dX5_init_9 : decode cX5_init 9 = .ok (.invokespecial 9, 3) := by decide +kernel
theorem dX5_init_12 : decode cX5_init 12 = .ok (.putfield 10, 3) := by decide +kernel
theorem dX5_init_15 : decode cX5_init 15 = .ok (.aload_n 0, 1) := by decide +kernel
theorem dX5_init_16 : decode cX5_init 16 = .ok (.new 7, 3) := by decide +kernel
theorem dX5_init_19 : decode cX5_init 19 = .ok (.dup, 1) := by decide +kernel
theorem dX5_init_20 : decode cX5_init 20 = .ok (.invokespecial 9, 3) := by decide +kernel
theorem dX5_init_23 : decode cX5_init 23 = .ok (.putfield 16, 3) := by decide +kernel
theorem dX5_init_26 : decode cX5_init 26 = .ok (.aload_n 0, 1) := by decide +kernel
theorem dX5_init_27 : decode cX5_init 27 = .ok (.new 19, 3) := by decide +kernel
theorem dX5_init_30 : decode cX5_init 30 = .ok (.dup, 1) := by decide +kernel
theorem dX5_init_31 : decode cX5_init 31 = .ok (.invokespecial 21, 3) := by decide +kernel
theorem dX5_init_34 : decode cX5_init 34 = .ok (.putfield 22, 3) := by decide +kernel
theorem dX5_init_37 : decode cX5_init 37 = .ok (.aload_n 0, 1) := by decide +kernel
theorem dX5_init_38 : decode cX5_init 38 = .ok (.new 26, 3) := by decide +kernel
theorem dX5_init_41 : decode cX5_init 41 = .ok (.dup, 1) := by decide +kernel
theorem dX5_init_42 : decode cX5_init 42 = .ok (.invokespecial 28, 3) := by decide +kernel
theorem dX5_init_45 : decode cX5_init 45 = .ok (.putfield 29, 3) := by decide +kernel
theorem dX5_init_48 : decode cX5_init 48 = .ok (.aload_n 0, 1) := by decide +kernel
theorem dX5_init_49 : decode cX5_init 49 = .ok (.new 33, 3) := by decide +kernel
theorem dX5_init_52 : decode cX5_init 52 = .ok (.dup, 1) := by decide +kernel
theorem dX5_init_53 : decode cX5_init 53 = .ok (.invokespecial 35, 3) := by decide +kernel
theorem dX5_init_56 : decode cX5_init 56 = .ok (.putfield 36, 3) := by decide +kernel
theorem dX5_init_59 : decode cX5_init 59 = .ok (.return_, 1) := by decide +kernel
set_option maxRecDepth 20000 in
theorem ggX5_addWheel_X5_isDirection : GoodIn wsX5_addWheel wsX5_isDirection := goodIn_r _ [12, 13, 14, 11, 15] (by decide +kernel) (by decide +kernel)
set_option maxRecDepth 20000 in
theorem gX5_addWheel_X5_isDirection : GoodIn wsX5_addWheel (va_wsS RX5 40 yX5_isDirection wsX5_isDirection) := goodIn_app (goodIn_of _ (by decide +kernel)) ggX5_addWheel_X5_isDirection
set_option maxRecDepth 20000 in
theorem ggX5_addWheel_X5_isWithin : GoodIn wsX5_addWheel wsX5_isWithin := goodIn_r _ [15] (by decide +kernel) (by decide +kernel)
set_option maxRecDepth 20000 in
theorem gX5_addWheel_X5_isWithin : GoodIn wsX5_addWheel (va_wsS RX5 45 yX5_isWithin wsX5_isWithin) := goodIn_app (goodIn_of _ (by decide +kernel)) ggX5_addWheel_X5_isWithin
set_option maxRecDepth 20000 in
theorem ggX5_addWheel_X1_keep : GoodIn wsX5_addWheel wsX1_keep := goodIn_r _ [20, 21, 22, 23, 24, 25, 19, 26, 27, 28, 29, 30, 31, 32, 33, 34, 35, 36, 37, 38, 39, 40, 41, 42, 43, 44, 45, 46, 47, 48, 49, 50, 51, 52, 53, 54, 55, 56, 57, 58, 79, 80, 68, 69, 70, 71, 72, 73, 74, 75, 76, 77, 78, 81, 82, 83, 84, 85, 86] (by decide +kernel) (by decide +kernel)
set_option maxRecDepth 20000 in
theorem gX5_addWheel_X1_keep : GoodIn wsX5_addWheel (wsV RX5 55 RX1 yX1_keep wsX1_keep) := goodIn_app (goodIn_of _ (by decide +kernel)) ggX5_addWheel_X1_keep
set_option maxRecDepth 20000 in
theorem ggX5_addWheel_X4_start : GoodIn wsX5_addWheel wsX4_start := goodIn_r _ [62, 52, 54, 55, 56, 57, 58, 81, 82, 83, 84, 85, 86] (by decide +kernel) (by decide +kernel)
set_option maxRecDepth 20000 in
theorem gX5_addWheel_X4_start : GoodIn wsX5_addWheel (wsV RX5 63 RX4 yX4_start wsX4_start) := goodIn_app (goodIn_of _ (by decide +kernel)) ggX5_addWheel_X4_start
theorem dX5_addWheel_0 : decode cX5_addWheel 0 = .ok (.iload_n 1, 1) := by decide +kernel
theorem dX5_addWheel_1 : decode cX5_addWheel 1 = .ok (.iload_n 2, 1) := by decide +kernel
theorem dX5_addWheel_2 : decode cX5_addWheel 2 = .ok (.iload_n 3, 1) := by decide +kernel
theorem dX5_addWheel_3 : decode cX5_addWheel 3 = .ok (.invokestatic 40, 3) := by decide +kernel
theorem dX5_addWheel_6 : decode cX5_addWheel 6 = .ok (.ifCond .eq 25, 3) := by decide +kernel
theorem dX5_addWheel_9 : decode cX5_addWheel 9 = .ok (.iload 4, 2) := by decide +kernel
theorem dX5_addWheel_11 : decode cX5_addWheel 11 = .ok (.iconst 1, 1) := by decide +kernel
theorem dX5_addWheel_12 : decode cX5_addWheel 12 = .ok (.ldc 44, 2) := by decide +kernel
theorem dX5_addWheel_14 : decode cX5_addWheel 14 = .ok (.invokestatic 45, 3) := by decide +kernel
theorem dX5_addWheel_17 : decode cX5_addWheel 17 = .ok (.ifCond .eq 14, 3) := by decide +kernel
theorem dX5_addWheel_20 : decode cX5_addWheel 20 = .ok (.iload 5, 2) := by decide +kernel
theorem dX5_addWheel_22 : decode cX5_addWheel 22 = .ok (.iconst 1, 1) := by decide +kernel
theorem dX5_addWheel_23 : decode cX5_addWheel 23 = .ok (.ldc 48, 2) := by decide +kernel
theorem dX5_addWheel_25 : decode cX5_addWheel 25 = .ok (.invokestatic 45, 3) := by decide +kernel
theorem dX5_addWheel_28 : decode cX5_addWheel 28 = .ok (.ifCond .ne 6, 3) := by decide +kernel
theorem dX5_addWheel_31 : decode cX5_addWheel 31 = .ok (.ldc 49, 2) := by decide +kernel
theorem dX5_addWheel_33 : decode cX5_addWheel 33 = .ok (.ireturn, 1) := by decide +kernel
theorem dX5_addWheel_34 : decode cX5_addWheel 34 = .ok (.aload_n 0, 1) := by decide +kernel
theorem dX5_addWheel_35 : decode cX5_addWheel 35 = .ok (.getfield 10, 3) := by decide +kernel
theorem dX5_addWheel_38 : decode cX5_addWheel 38 = .ok (.getfield 50, 3) := by decide +kernel
theorem dX5_addWheel_41 : decode cX5_addWheel 41 = .ok (.istore 6, 2) := by decide +kernel
theorem dX5_addWheel_43 : decode cX5_addWheel 43 = .ok (.iload 6, 2) := by decide +kernel
theorem dX5_addWheel_45 : decode cX5_addWheel 45 = .ok (.bipush 6, 2) := by decide +kernel
theorem dX5_addWheel_47 : decode cX5_addWheel 47 = .ok (.if_icmp .lt 6, 3) := by decide +kernel
theorem dX5_addWheel_50 : decode cX5_addWheel 50 = .ok (.ldc 54, 2) := by decide +kernel
theorem dX5_addWheel_52 : decode cX5_addWheel 52 = .ok (.ireturn, 1) := by decide +kernel
theorem dX5_addWheel_53 : decode cX5_addWheel 53 = .ok (.aload_n 0, 1) := by decide +kernel
theorem dX5_addWheel_54 : decode cX5_addWheel 54 = .ok (.getfield 36, 3) := by decide +kernel
theorem dX5_addWheel_57 : decode cX5_addWheel 57 = .ok (.aload_n 0, 1) := by decide +kernel
theorem dX5_addWheel_58 : decode cX5_addWheel 58 = .ok (.getfield 10, 3) := by decide +kernel
theorem dX5_addWheel_61 : decode cX5_addWheel 61 = .ok (.invokevirtual 55, 3) := by decide +kernel
theorem dX5_addWheel_64 : decode cX5_addWheel 64 = .ok (.aload_n 0, 1) := by decide +kernel
theorem dX5_addWheel_65 : decode cX5_addWheel 65 = .ok (.getfield 10, 3) := by decide +kernel
theorem dX5_addWheel_68 : decode cX5_addWheel 68 = .ok (.getfield 59, 3) := by decide +kernel
theorem dX5_addWheel_71 : decode cX5_addWheel 71 = .ok (.iload 6, 2) := by decide +kernel
theorem dX5_addWheel_73 : decode cX5_addWheel 73 = .ok (.aaload, 1) := by decide +kernel
theorem dX5_addWheel_74 : decode cX5_addWheel 74 = .ok (.iload_n 1, 1) := by decide +kernel
theorem dX5_addWheel_75 : decode cX5_addWheel 75 = .ok (.iload_n 2, 1) := by decide +kernel
theorem dX5_addWheel_76 : decode cX5_addWheel 76 = .ok (.iload_n 3, 1) := by decide +kernel
theorem dX5_addWheel_77 : decode cX5_addWheel 77 = .ok (.iload 4, 2) := by decide +kernel
theorem dX5_addWheel_79 : decode cX5_addWheel 79 = .ok (.iload 5, 2) := by decide +kernel
theorem dX5_addWheel_81 : decode cX5_addWheel 81 = .ok (.invokevirtual 63, 3) := by decide +kernel
theorem dX5_addWheel_84 : decode cX5_addWheel 84 = .ok (.aload_n 0, 1) := by decide +kernel
theorem dX5_addWheel_85 : decode cX5_addWheel 85 = .ok (.getfield 10, 3) := by decide +kernel
theorem dX5_addWheel_88 : decode cX5_addWheel 88 = .ok (.iload 6, 2) := by decide +kernel
theorem dX5_addWheel_90 : decode cX5_addWheel 90 = .ok (.iconst 1, 1) := by decide +kernel
theorem dX5_addWheel_91 : decode cX5_addWheel 91 = .ok (.iadd, 1) := by decide +kernel
theorem dX5_addWheel_92 : decode cX5_addWheel 92 = .ok (.putfield 50, 3) := by decide +kernel
theorem dX5_addWheel_95 : decode cX5_addWheel 95 = .ok (.iload 6, 2) := by decide +kernel
theorem dX5_addWheel_97 : decode cX5_addWheel 97 = .ok (.ireturn, 1) := by decide +kernel
set_option maxRecDepth 20000 in
theorem ggX5_fail_X5_isWheel : GoodIn wsX5_fail wsX5_isWheel := goodIn_r _ [10, 3, 11, 12, 13, 9, 14, 58, 59, 60, 61, 62, 63, 64, 65, 66, 67, 68, 69, 70, 71, 72, 73] (by decide +kernel) (by decide +kernel)
set_option maxRecDepth 20000 in
theorem gX5_fail_X5_isWheel : GoodIn wsX5_fail (wsV RX5 69 RX5 yX5_isWheel wsX5_isWheel) := goodIn_app (goodIn_of _ (by decide +kernel)) ggX5_fail_X5_isWheel
set_option maxRecDepth 20000 in
theorem ggX5_fail_X1_keep : GoodIn wsX5_fail wsX1_keep := goodIn_r _ [19, 20, 21, 22, 23, 24, 18, 25, 26, 27, 28, 29, 30, 31, 32, 33, 34, 35, 36, 37, 38, 39, 40, 41, 42, 43, 44, 45, 46, 47, 48, 49, 50, 51, 52, 53, 54, 55, 56, 57, 80, 81, 63, 64, 65, 66, 67, 68, 69, 70, 71, 72, 73, 74, 75, 76, 77, 78, 79] (by decide +kernel) (by decide +kernel)
set_option maxRecDepth 20000 in
theorem gX5_fail_X1_keep : GoodIn wsX5_fail (wsV RX5 55 RX1 yX1_keep wsX1_keep) := goodIn_app (goodIn_of _ (by decide +kernel)) ggX5_fail_X1_keep
theorem dX5_fail_0 : decode cX5_fail 0 = .ok (.aload_n 0, 1) := by decide +kernel
theorem dX5_fail_1 : decode cX5_fail 1 = .ok (.iload_n 1, 1) := by decide +kernel
theorem dX5_fail_2 : decode cX5_fail 2 = .ok (.invokevirtual 69, 3) := by decide +kernel
theorem dX5_fail_5 : decode cX5_fail 5 = .ok (.ifCond .ne 6, 3) := by decide +kernel
theorem dX5_fail_8 : decode cX5_fail 8 = .ok (.ldc 49, 2) := by decide +kernel
theorem dX5_fail_10 : decode cX5_fail 10 = .ok (.ireturn, 1) := by decide +kernel
theorem dX5_fail_11 : decode cX5_fail 11 = .ok (.aload_n 0, 1) := by decide +kernel
theorem dX5_fail_12 : decode cX5_fail 12 = .ok (.getfield 36, 3) := by decide +kernel
theorem dX5_fail_15 : decode cX5_fail 15 = .ok (.aload_n 0, 1) := by decide +kernel
theorem dX5_fail_16 : decode cX5_fail 16 = .ok (.getfield 10, 3) := by decide +kernel
theorem dX5_fail_19 : decode cX5_fail 19 = .ok (.invokevirtual 55, 3) := by decide +kernel
theorem dX5_fail_22 : decode cX5_fail 22 = .ok (.aload_n 0, 1) := by decide +kernel
theorem dX5_fail_23 : decode cX5_fail 23 = .ok (.getfield 10, 3) := by decide +kernel
theorem dX5_fail_26 : decode cX5_fail 26 = .ok (.getfield 59, 3) := by decide +kernel
theorem dX5_fail_29 : decode cX5_fail 29 = .ok (.iload_n 1, 1) := by decide +kernel
theorem dX5_fail_30 : decode cX5_fail 30 = .ok (.aaload, 1) := by decide +kernel
theorem dX5_fail_31 : decode cX5_fail 31 = .ok (.astore_n 3, 1) := by decide +kernel
theorem dX5_fail_32 : decode cX5_fail 32 = .ok (.aload_n 3, 1) := by decide +kernel
theorem dX5_fail_33 : decode cX5_fail 33 = .ok (.getfield 73, 3) := by decide +kernel
theorem dX5_fail_36 : decode cX5_fail 36 = .ok (.ifCond .eq 7, 3) := by decide +kernel
theorem dX5_fail_39 : decode cX5_fail 39 = .ok (.iconst 1, 1) := by decide +kernel
theorem dX5_fail_40 : decode cX5_fail 40 = .ok (.goto 4, 3) := by decide +kernel
theorem dX5_fail_43 : decode cX5_fail 43 = .ok (.iconst 0, 1) := by decide +kernel
theorem dX5_fail_44 : decode cX5_fail 44 = .ok (.istore 4, 2) := by decide +kernel
theorem dX5_fail_46 : decode cX5_fail 46 = .ok (.aload_n 3, 1) := by decide +kernel
theorem dX5_fail_47 : decode cX5_fail 47 = .ok (.iload_n 2, 1) := by decide +kernel
theorem dX5_fail_48 : decode cX5_fail 48 = .ok (.putfield 73, 3) := by decide +kernel
theorem dX5_fail_51 : decode cX5_fail 51 = .ok (.iload 4, 2) := by decide +kernel
theorem dX5_fail_53 : decode cX5_fail 53 = .ok (.ireturn, 1) := by decide +kernel
set_option maxRecDepth 20000 in
theorem ggX5_setMost_X5_isWheel : GoodIn wsX5_setMost wsX5_isWheel := goodIn_r _ [13, 5, 14, 15, 16, 12, 17, 61, 62, 63, 64, 65, 66, 67, 68, 69, 70, 71, 72, 73, 74, 75, 76] (by decide +kernel) (by decide +kernel)
set_option maxRecDepth 20000 in
theorem gX5_setMost_X5_isWheel : GoodIn wsX5_setMost (wsV RX5 69 RX5 yX5_isWheel wsX5_isWheel) := goodIn_app (goodIn_of _ (by decide +kernel)) ggX5_setMost_X5_isWheel
set_option maxRecDepth 20000 in
theorem ggX5_setMost_X5_isWithin : GoodIn wsX5_setMost wsX5_isWithin := goodIn_r _ [17] (by decide +kernel) (by decide +kernel)
set_option maxRecDepth 20000 in
theorem gX5_setMost_X5_isWithin : GoodIn wsX5_setMost (va_wsS RX5 45 yX5_isWithin wsX5_isWithin) := goodIn_app (goodIn_of _ (by decide +kernel)) ggX5_setMost_X5_isWithin
set_option maxRecDepth 20000 in
theorem ggX5_setMost_X1_keep : GoodIn wsX5_setMost wsX1_keep := goodIn_r _ [22, 23, 24, 25, 26, 27, 21, 28, 29, 30, 31, 32, 33, 34, 35, 36, 37, 38, 39, 40, 41, 42, 43, 44, 45, 46, 47, 48, 49, 50, 51, 52, 53, 54, 55, 56, 57, 58, 59, 60, 83, 84, 66, 67, 68, 69, 70, 71, 72, 73, 74, 75, 76, 77, 78, 79, 80, 81, 82] (by decide +kernel) (by decide +kernel)
set_option maxRecDepth 20000 in
theorem gX5_setMost_X1_keep : GoodIn wsX5_setMost (wsV RX5 55 RX1 yX1_keep wsX1_keep) := goodIn_app (goodIn_of _ (by decide +kernel)) ggX5_setMost_X1_keep
theorem dX5_setMost_0 : decode cX5_setMost 0 = .ok (.aload_n 0, 1) := by decide +kernel
theorem dX5_setMost_1 : decode cX5_setMost 1 = .ok (.iload_n 1, 1) := by decide +kernel
theorem dX5_setMost_2 : decode cX5_setMost 2 = .ok (.invokevirtual 69, 3) := by decide +kernel
theorem dX5_setMost_5 : decode cX5_setMost 5 = .ok (.ifCond .eq 22, 3) := by decide +kernel
theorem dX5_setMost_8 : decode cX5_setMost 8 = .ok (.iload_n 3, 1) := by decide +kernel
theorem dX5_setMost_9 : decode cX5_setMost 9 = .ok (.iconst 1, 1) := by decide +kernel
theorem dX5_setMost_10 : decode cX5_setMost 10 = .ok (.iload_n 2, 1) := by decide +kernel
theorem dX5_setMost_11 : decode cX5_setMost 11 = .ok (.ifCond .eq 8, 3) := by decide +kernel
theorem dX5_setMost_14 : decode cX5_setMost 14 = .ok (.ldc 48, 2) := by decide +kernel
theorem dX5_setMost_16 : decode cX5_setMost 16 = .ok (.goto 5, 3) := by decide +kernel
theorem dX5_setMost_19 : decode cX5_setMost 19 = .ok (.ldc 44, 2) := by decide +kernel
theorem dX5_setMost_21 : decode cX5_setMost 21 = .ok (.invokestatic 45, 3) := by decide +kernel
theorem dX5_setMost_24 : decode cX5_setMost 24 = .ok (.ifCond .ne 6, 3) := by decide +kernel
theorem dX5_setMost_27 : decode cX5_setMost 27 = .ok (.ldc 49, 2) := by decide +kernel
theorem dX5_setMost_29 : decode cX5_setMost 29 = .ok (.ireturn, 1) := by decide +kernel
theorem dX5_setMost_30 : decode cX5_setMost 30 = .ok (.aload_n 0, 1) := by decide +kernel
theorem dX5_setMost_31 : decode cX5_setMost 31 = .ok (.getfield 36, 3) := by decide +kernel
theorem dX5_setMost_34 : decode cX5_setMost 34 = .ok (.aload_n 0, 1) := by decide +kernel
theorem dX5_setMost_35 : decode cX5_setMost 35 = .ok (.getfield 10, 3) := by decide +kernel
theorem dX5_setMost_38 : decode cX5_setMost 38 = .ok (.invokevirtual 55, 3) := by decide +kernel
theorem dX5_setMost_41 : decode cX5_setMost 41 = .ok (.aload_n 0, 1) := by decide +kernel
theorem dX5_setMost_42 : decode cX5_setMost 42 = .ok (.getfield 10, 3) := by decide +kernel
theorem dX5_setMost_45 : decode cX5_setMost 45 = .ok (.getfield 59, 3) := by decide +kernel
theorem dX5_setMost_48 : decode cX5_setMost 48 = .ok (.iload_n 1, 1) := by decide +kernel
theorem dX5_setMost_49 : decode cX5_setMost 49 = .ok (.aaload, 1) := by decide +kernel
theorem dX5_setMost_50 : decode cX5_setMost 50 = .ok (.astore 4, 2) := by decide +kernel
theorem dX5_setMost_52 : decode cX5_setMost 52 = .ok (.iload_n 2, 1) := by decide +kernel
theorem dX5_setMost_53 : decode cX5_setMost 53 = .ok (.ifCond .eq 11, 3) := by decide +kernel
theorem dX5_setMost_56 : decode cX5_setMost 56 = .ok (.aload 4, 2) := by decide +kernel
theorem dX5_setMost_58 : decode cX5_setMost 58 = .ok (.getfield 77, 3) := by decide +kernel
theorem dX5_setMost_61 : decode cX5_setMost 61 = .ok (.goto 8, 3) := by decide +kernel
theorem dX5_setMost_64 : decode cX5_setMost 64 = .ok (.aload 4, 2) := by decide +kernel
theorem dX5_setMost_66 : decode cX5_setMost 66 = .ok (.getfield 80, 3) := by decide +kernel
theorem dX5_setMost_69 : decode cX5_setMost 69 = .ok (.istore 5, 2) := by decide +kernel
theorem dX5_setMost_71 : decode cX5_setMost 71 = .ok (.iload_n 2, 1) := by decide +kernel
theorem dX5_setMost_72 : decode cX5_setMost 72 = .ok (.ifCond .eq 12, 3) := by decide +kernel
theorem dX5_setMost_75 : decode cX5_setMost 75 = .ok (.aload 4, 2) := by decide +kernel
theorem dX5_setMost_77 : decode cX5_setMost 77 = .ok (.iload_n 3, 1) := by decide +kernel
theorem dX5_setMost_78 : decode cX5_setMost 78 = .ok (.putfield 77, 3) := by decide +kernel
theorem dX5_setMost_81 : decode cX5_setMost 81 = .ok (.goto 9, 3) := by decide +kernel
theorem dX5_setMost_84 : decode cX5_setMost 84 = .ok (.aload 4, 2) := by decide +kernel
theorem dX5_setMost_86 : decode cX5_setMost 86 = .ok (.iload_n 3, 1) := by decide +kernel
theorem dX5_setMost_87 : decode cX5_setMost 87 = .ok (.putfield 80, 3) := by decide +kernel
theorem dX5_setMost_90 : decode cX5_setMost 90 = .ok (.iload 5, 2) := by decide +kernel
theorem dX5_setMost_92 : decode cX5_setMost 92 = .ok (.ireturn, 1) := by decide +kernel
set_option maxRecDepth 20000 in
theorem ggX5_wheel_X5_isWheel : GoodIn wsX5_wheel wsX5_isWheel := goodIn_r _ [8, 2, 9, 10, 11, 7, 12, 24, 25, 26, 27, 28, 29, 30, 31, 32, 33, 34, 35, 36, 37, 38, 39] (by decide +kernel) (by decide +kernel)
set_option maxRecDepth 20000 in
theorem gX5_wheel_X5_isWheel : GoodIn wsX5_wheel (wsV RX5 69 RX5 yX5_isWheel wsX5_isWheel) := goodIn_app (goodIn_of _ (by decide +kernel)) ggX5_wheel_X5_isWheel
set_option maxRecDepth 20000 in
theorem ggX5_wheel_X5_isWithin : GoodIn wsX5_wheel wsX5_isWithin := goodIn_r _ [12] (by decide +kernel) (by decide +kernel)
set_option maxRecDepth 20000 in
theorem gX5_wheel_X5_isWithin : GoodIn wsX5_wheel (va_wsS RX5 45 yX5_isWithin wsX5_isWithin) := goodIn_app (goodIn_of _ (by decide +kernel)) ggX5_wheel_X5_isWithin
set_option maxRecDepth 20000 in
theorem ggX5_wheel_X4_number : GoodIn wsX5_wheel wsX4_number := goodIn_r _ [17, 18, 19, 20, 21, 22, 23, 40, 41, 42, 43, 44, 45] (by decide +kernel) (by decide +kernel)
set_option maxRecDepth 20000 in
theorem gX5_wheel_X4_number : GoodIn wsX5_wheel (wsV RX5 83 RX4 yX4_number wsX4_number) := goodIn_app (goodIn_of _ (by decide +kernel)) ggX5_wheel_X4_number
theorem dX5_wheel_0 : decode cX5_wheel 0 = .ok (.aload_n 0, 1) := by decide +kernel
theorem dX5_wheel_1 : decode cX5_wheel 1 = .ok (.iload_n 1, 1) := by decide +kernel
theorem dX5_wheel_2 : decode cX5_wheel 2 = .ok (.invokevirtual 69, 3) := by decide +kernel
theorem dX5_wheel_5 : decode cX5_wheel 5 = .ok (.ifCond .eq 13, 3) := by decide +kernel
theorem dX5_wheel_8 : decode cX5_wheel 8 = .ok (.iload_n 2, 1) := by decide +kernel
theorem dX5_wheel_9 : decode cX5_wheel 9 = .ok (.iconst 0, 1) := by decide +kernel
theorem dX5_wheel_10 : decode cX5_wheel 10 = .ok (.bipush 7, 2) := by decide +kernel
theorem dX5_wheel_12 : decode cX5_wheel 12 = .ok (.invokestatic 45, 3) := by decide +kernel
theorem dX5_wheel_15 : decode cX5_wheel 15 = .ok (.ifCond .ne 6, 3) := by decide +kernel
theorem dX5_wheel_18 : decode cX5_wheel 18 = .ok (.ldc 49, 2) := by decide +kernel
theorem dX5_wheel_20 : decode cX5_wheel 20 = .ok (.ireturn, 1) := by decide +kernel
theorem dX5_wheel_21 : decode cX5_wheel 21 = .ok (.aload_n 0, 1) := by decide +kernel
theorem dX5_wheel_22 : decode cX5_wheel 22 = .ok (.getfield 10, 3) := by decide +kernel
theorem dX5_wheel_25 : decode cX5_wheel 25 = .ok (.getfield 59, 3) := by decide +kernel
theorem dX5_wheel_28 : decode cX5_wheel 28 = .ok (.iload_n 1, 1) := by decide +kernel
theorem dX5_wheel_29 : decode cX5_wheel 29 = .ok (.aaload, 1) := by decide +kernel
theorem dX5_wheel_30 : decode cX5_wheel 30 = .ok (.iload_n 2, 1) := by decide +kernel
theorem dX5_wheel_31 : decode cX5_wheel 31 = .ok (.invokevirtual 83, 3) := by decide +kernel
theorem dX5_wheel_34 : decode cX5_wheel 34 = .ok (.ireturn, 1) := by decide +kernel
theorem dX5_wheels_0 : decode cX5_wheels 0 = .ok (.aload_n 0, 1) := by decide +kernel
theorem dX5_wheels_1 : decode cX5_wheels 1 = .ok (.getfield 10, 3) := by decide +kernel
theorem dX5_wheels_4 : decode cX5_wheels 4 = .ok (.getfield 50, 3) := by decide +kernel
theorem dX5_wheels_7 : decode cX5_wheels 7 = .ok (.ireturn, 1) := by decide +kernel
set_option maxRecDepth 20000 in
theorem ggX5_setAxis_X5_isAxis : GoodIn wsX5_setAxis wsX5_isAxis := goodIn_r _ [10, 11, 12, 9, 13] (by decide +kernel) (by decide +kernel)
set_option maxRecDepth 20000 in
theorem gX5_setAxis_X5_isAxis : GoodIn wsX5_setAxis (va_wsS RX5 87 yX5_isAxis wsX5_isAxis) := goodIn_app (goodIn_of _ (by decide +kernel)) ggX5_setAxis_X5_isAxis
set_option maxRecDepth 20000 in
theorem ggX5_setAxis_X5_isWithin : GoodIn wsX5_setAxis wsX5_isWithin := goodIn_r _ [13] (by decide +kernel) (by decide +kernel)
set_option maxRecDepth 20000 in
theorem gX5_setAxis_X5_isWithin : GoodIn wsX5_setAxis (va_wsS RX5 45 yX5_isWithin wsX5_isWithin) := goodIn_app (goodIn_of _ (by decide +kernel)) ggX5_setAxis_X5_isWithin
set_option maxRecDepth 20000 in
theorem ggX5_setAxis_X1_keep : GoodIn wsX5_setAxis wsX1_keep := goodIn_r _ [18, 19, 20, 21, 22, 23, 17, 24, 25, 26, 27, 28, 29, 30, 31, 32, 33, 34, 35, 36, 37, 38, 39, 40, 41, 42, 43, 44, 45, 46, 47, 48, 49, 50, 51, 52, 53, 54, 55, 56, 73, 74, 62, 63, 64, 65, 66, 67, 68, 69, 70, 71, 72, 75, 76, 77, 78, 79, 80] (by decide +kernel) (by decide +kernel)
set_option maxRecDepth 20000 in
theorem gX5_setAxis_X1_keep : GoodIn wsX5_setAxis (wsV RX5 55 RX1 yX1_keep wsX1_keep) := goodIn_app (goodIn_of _ (by decide +kernel)) ggX5_setAxis_X1_keep
theorem dX5_setAxis_0 : decode cX5_setAxis 0 = .ok (.iload_n 1, 1) := by decide +kernel
theorem dX5_setAxis_1 : decode cX5_setAxis 1 = .ok (.invokestatic 87, 3) := by decide +kernel
theorem dX5_setAxis_4 : decode cX5_setAxis 4 = .ok (.ifCond .eq 29, 3) := by decide +kernel
theorem dX5_setAxis_7 : decode cX5_setAxis 7 = .ok (.iload_n 2, 1) := by decide +kernel
theorem dX5_setAxis_8 : decode cX5_setAxis 8 = .ok (.iconst 0, 1) := by decide +kernel
theorem dX5_setAxis_9 : decode cX5_setAxis 9 = .ok (.iconst 3, 1) := by decide +kernel
theorem dX5_setAxis_10 : decode cX5_setAxis 10 = .ok (.invokestatic 45, 3) := by decide +kernel
theorem dX5_setAxis_13 : decode cX5_setAxis 13 = .ok (.ifCond .eq 20, 3) := by decide +kernel
theorem dX5_setAxis_16 : decode cX5_setAxis 16 = .ok (.iload_n 3, 1) := by decide +kernel
theorem dX5_setAxis_17 : decode cX5_setAxis 17 = .ok (.getstatic 90, 3) := by decide +kernel
theorem dX5_setAxis_20 : decode cX5_setAxis 20 = .ok (.iload_n 2, 1) := by decide +kernel
theorem dX5_setAxis_21 : decode cX5_setAxis 21 = .ok (.iaload, 1) := by decide +kernel
theorem dX5_setAxis_22 : decode cX5_setAxis 22 = .ok (.getstatic 94, 3) := by decide +kernel
theorem dX5_setAxis_25 : decode cX5_setAxis 25 = .ok (.iload_n 2, 1) := by decide +kernel
theorem dX5_setAxis_26 : decode cX5_setAxis 26 = .ok (.iaload, 1) := by decide +kernel
theorem dX5_setAxis_27 : decode cX5_setAxis 27 = .ok (.invokestatic 45, 3) := by decide +kernel
theorem dX5_setAxis_30 : decode cX5_setAxis 30 = .ok (.ifCond .ne 6, 3) := by decide +kernel
theorem dX5_setAxis_33 : decode cX5_setAxis 33 = .ok (.ldc 49, 2) := by decide +kernel
theorem dX5_setAxis_35 : decode cX5_setAxis 35 = .ok (.ireturn, 1) := by decide +kernel
theorem dX5_setAxis_36 : decode cX5_setAxis 36 = .ok (.aload_n 0, 1) := by decide +kernel
theorem dX5_setAxis_37 : decode cX5_setAxis 37 = .ok (.getfield 36, 3) := by decide +kernel
theorem dX5_setAxis_40 : decode cX5_setAxis 40 = .ok (.aload_n 0, 1) := by decide +kernel
theorem dX5_setAxis_41 : decode cX5_setAxis 41 = .ok (.getfield 10, 3) := by decide +kernel
theorem dX5_setAxis_44 : decode cX5_setAxis 44 = .ok (.invokevirtual 55, 3) := by decide +kernel
theorem dX5_setAxis_47 : decode cX5_setAxis 47 = .ok (.aload_n 0, 1) := by decide +kernel
theorem dX5_setAxis_48 : decode cX5_setAxis 48 = .ok (.getfield 10, 3) := by decide +kernel
theorem dX5_setAxis_51 : decode cX5_setAxis 51 = .ok (.getfield 97, 3) := by decide +kernel
theorem dX5_setAxis_54 : decode cX5_setAxis 54 = .ok (.iload_n 2, 1) := by decide +kernel
theorem dX5_setAxis_55 : decode cX5_setAxis 55 = .ok (.aaload, 1) := by decide +kernel
theorem dX5_setAxis_56 : decode cX5_setAxis 56 = .ok (.iload_n 1, 1) := by decide +kernel
theorem dX5_setAxis_57 : decode cX5_setAxis 57 = .ok (.iaload, 1) := by decide +kernel
theorem dX5_setAxis_58 : decode cX5_setAxis 58 = .ok (.istore 4, 2) := by decide +kernel
theorem dX5_setAxis_60 : decode cX5_setAxis 60 = .ok (.aload_n 0, 1) := by decide +kernel
theorem dX5_setAxis_61 : decode cX5_setAxis 61 = .ok (.getfield 10, 3) := by decide +kernel
theorem dX5_setAxis_64 : decode cX5_setAxis 64 = .ok (.getfield 97, 3) := by decide +kernel
theorem dX5_setAxis_67 : decode cX5_setAxis 67 = .ok (.iload_n 2, 1) := by decide +kernel
theorem dX5_setAxis_68 : decode cX5_setAxis 68 = .ok (.aaload, 1) := by decide +kernel
theorem dX5_setAxis_69 : decode cX5_setAxis 69 = .ok (.iload_n 1, 1) := by decide +kernel
theorem dX5_setAxis_70 : decode cX5_setAxis 70 = .ok (.iload_n 3, 1) := by decide +kernel
theorem dX5_setAxis_71 : decode cX5_setAxis 71 = .ok (.iastore, 1) := by decide +kernel
theorem dX5_setAxis_72 : decode cX5_setAxis 72 = .ok (.iload 4, 2) := by decide +kernel
theorem dX5_setAxis_74 : decode cX5_setAxis 74 = .ok (.ireturn, 1) := by decide +kernel
set_option maxRecDepth 20000 in
theorem ggX5_set_X5_isWithin : GoodIn wsX5_set wsX5_isWithin := goodIn_r _ [10] (by decide +kernel) (by decide +kernel)
set_option maxRecDepth 20000 in
theorem gX5_set_X5_isWithin : GoodIn wsX5_set (va_wsS RX5 45 yX5_isWithin wsX5_isWithin) := goodIn_app (goodIn_of _ (by decide +kernel)) ggX5_set_X5_isWithin
set_option maxRecDepth 20000 in
theorem ggX5_set_X1_keep : GoodIn wsX5_set wsX1_keep := goodIn_r _ [15, 16, 17, 18, 19, 20, 14, 21, 22, 23, 24, 25, 26, 27, 28, 29, 30, 31, 32, 33, 34, 35, 36, 37, 38, 39, 40, 41, 42, 43, 44, 45, 46, 47, 48, 49, 50, 51, 52, 53, 70, 71, 59, 60, 61, 62, 63, 64, 65, 66, 67, 68, 69, 72, 73, 74, 75, 76, 77] (by decide +kernel) (by decide +kernel)
set_option maxRecDepth 20000 in
theorem gX5_set_X1_keep : GoodIn wsX5_set (wsV RX5 55 RX1 yX1_keep wsX1_keep) := goodIn_app (goodIn_of _ (by decide +kernel)) ggX5_set_X1_keep
theorem dX5_set_0 : decode cX5_set 0 = .ok (.iload_n 1, 1) := by decide +kernel
theorem dX5_set_1 : decode cX5_set 1 = .ok (.iconst 0, 1) := by decide +kernel
theorem dX5_set_2 : decode cX5_set 2 = .ok (.iconst 4, 1) := by decide +kernel
theorem dX5_set_3 : decode cX5_set 3 = .ok (.invokestatic 45, 3) := by decide +kernel
theorem dX5_set_6 : decode cX5_set 6 = .ok (.ifCond .eq 20, 3) := by decide +kernel
theorem dX5_set_9 : decode cX5_set 9 = .ok (.iload_n 2, 1) := by decide +kernel
theorem dX5_set_10 : decode cX5_set 10 = .ok (.getstatic 101, 3) := by decide +kernel
theorem dX5_set_13 : decode cX5_set 13 = .ok (.iload_n 1, 1) := by decide +kernel
theorem dX5_set_14 : decode cX5_set 14 = .ok (.iaload, 1) := by decide +kernel
theorem dX5_set_15 : decode cX5_set 15 = .ok (.getstatic 104, 3) := by decide +kernel
theorem dX5_set_18 : decode cX5_set 18 = .ok (.iload_n 1, 1) := by decide +kernel
theorem dX5_set_19 : decode cX5_set 19 = .ok (.iaload, 1) := by decide +kernel
theorem dX5_set_20 : decode cX5_set 20 = .ok (.invokestatic 45, 3) := by decide +kernel
theorem dX5_set_23 : decode cX5_set 23 = .ok (.ifCond .ne 6, 3) := by decide +kernel
theorem dX5_set_26 : decode cX5_set 26 = .ok (.ldc 49, 2) := by decide +kernel
theorem dX5_set_28 : decode cX5_set 28 = .ok (.ireturn, 1) := by decide +kernel
theorem dX5_set_29 : decode cX5_set 29 = .ok (.aload_n 0, 1) := by decide +kernel
theorem dX5_set_30 : decode cX5_set 30 = .ok (.getfield 36, 3) := by decide +kernel
theorem dX5_set_33 : decode cX5_set 33 = .ok (.aload_n 0, 1) := by decide +kernel
theorem dX5_set_34 : decode cX5_set 34 = .ok (.getfield 10, 3) := by decide +kernel
theorem dX5_set_37 : decode cX5_set 37 = .ok (.invokevirtual 55, 3) := by decide +kernel
theorem dX5_set_40 : decode cX5_set 40 = .ok (.aload_n 0, 1) := by decide +kernel
theorem dX5_set_41 : decode cX5_set 41 = .ok (.getfield 10, 3) := by decide +kernel
theorem dX5_set_44 : decode cX5_set 44 = .ok (.getfield 107, 3) := by decide +kernel
theorem dX5_set_47 : decode cX5_set 47 = .ok (.iload_n 1, 1) := by decide +kernel
theorem dX5_set_48 : decode cX5_set 48 = .ok (.iaload, 1) := by decide +kernel
theorem dX5_set_49 : decode cX5_set 49 = .ok (.istore_n 3, 1) := by decide +kernel
theorem dX5_set_50 : decode cX5_set 50 = .ok (.aload_n 0, 1) := by decide +kernel
theorem dX5_set_51 : decode cX5_set 51 = .ok (.getfield 10, 3) := by decide +kernel
theorem dX5_set_54 : decode cX5_set 54 = .ok (.getfield 107, 3) := by decide +kernel
theorem dX5_set_57 : decode cX5_set 57 = .ok (.iload_n 1, 1) := by decide +kernel
theorem dX5_set_58 : decode cX5_set 58 = .ok (.iload_n 2, 1) := by decide +kernel
theorem dX5_set_59 : decode cX5_set 59 = .ok (.iastore, 1) := by decide +kernel
theorem dX5_set_60 : decode cX5_set 60 = .ok (.iload_n 3, 1) := by decide +kernel
theorem dX5_set_61 : decode cX5_set 61 = .ok (.ireturn, 1) := by decide +kernel
set_option maxRecDepth 20000 in
theorem ggX5_setting_X5_isWithin : GoodIn wsX5_setting wsX5_isWithin := goodIn_r _ [7] (by decide +kernel) (by decide +kernel)
set_option maxRecDepth 20000 in
theorem gX5_setting_X5_isWithin : GoodIn wsX5_setting (va_wsS RX5 45 yX5_isWithin wsX5_isWithin) := goodIn_app (goodIn_of _ (by decide +kernel)) ggX5_setting_X5_isWithin
theorem dX5_setting_0 : decode cX5_setting 0 = .ok (.iload_n 1, 1) := by decide +kernel
theorem dX5_setting_1 : decode cX5_setting 1 = .ok (.iconst 0, 1) := by decide +kernel
theorem dX5_setting_2 : decode cX5_setting 2 = .ok (.iconst 4, 1) := by decide +kernel
theorem dX5_setting_3 : decode cX5_setting 3 = .ok (.invokestatic 45, 3) := by decide +kernel
theorem dX5_setting_6 : decode cX5_setting 6 = .ok (.ifCond .eq 15, 3) := by decide +kernel
theorem dX5_setting_9 : decode cX5_setting 9 = .ok (.aload_n 0, 1) := by decide +kernel
theorem dX5_setting_10 : decode cX5_setting 10 = .ok (.getfield 10, 3) := by decide +kernel
theorem dX5_setting_13 : decode cX5_setting 13 = .ok (.getfield 107, 3) := by decide +kernel
theorem dX5_setting_16 : decode cX5_setting 16 = .ok (.iload_n 1, 1) := by decide +kernel
theorem dX5_setting_17 : decode cX5_setting 17 = .ok (.iaload, 1) := by decide +kernel
theorem dX5_setting_18 : decode cX5_setting 18 = .ok (.goto 5, 3) := by decide +kernel
theorem dX5_setting_21 : decode cX5_setting 21 = .ok (.ldc 49, 2) := by decide +kernel
theorem dX5_setting_23 : decode cX5_setting 23 = .ok (.ireturn, 1) := by decide +kernel
set_option maxRecDepth 20000 in
theorem ggX5_strike_X5_isAxis : GoodIn wsX5_strike wsX5_isAxis := goodIn_r _ [9, 10, 11, 8, 12] (by decide +kernel) (by decide +kernel)
set_option maxRecDepth 20000 in
theorem gX5_strike_X5_isAxis : GoodIn wsX5_strike (va_wsS RX5 87 yX5_isAxis wsX5_isAxis) := goodIn_app (goodIn_of _ (by decide +kernel)) ggX5_strike_X5_isAxis
set_option maxRecDepth 20000 in
theorem ggX5_strike_X5_isWithin : GoodIn wsX5_strike wsX5_isWithin := goodIn_r _ [12] (by decide +kernel) (by decide +kernel)
set_option maxRecDepth 20000 in
theorem gX5_strike_X5_isWithin : GoodIn wsX5_strike (va_wsS RX5 45 yX5_isWithin wsX5_isWithin) := goodIn_app (goodIn_of _ (by decide +kernel)) ggX5_strike_X5_isWithin
set_option maxRecDepth 20000 in
theorem ggX5_strike_X1_keep : GoodIn wsX5_strike wsX1_keep := goodIn_r _ [17, 18, 19, 20, 21, 22, 16, 23, 24, 25, 26, 27, 28, 29, 30, 31, 32, 33, 34, 35, 36, 37, 38, 39, 40, 41, 42, 43, 44, 45, 46, 47, 48, 49, 50, 51, 52, 53, 54, 55, 75, 76, 77, 78, 79, 80, 81, 82, 83, 84, 85, 86, 87, 88, 89, 90, 91, 92, 93] (by decide +kernel) (by decide +kernel)
set_option maxRecDepth 20000 in
theorem gX5_strike_X1_keep : GoodIn wsX5_strike (wsV RX5 55 RX1 yX1_keep wsX1_keep) := goodIn_app (goodIn_of _ (by decide +kernel)) ggX5_strike_X1_keep
set_option maxRecDepth 20000 in
theorem ggX5_strike_X0_pushFromOutside : GoodIn wsX5_strike wsX0_pushFromOutside := goodIn_r _ [59, 37, 38, 77, 78, 79, 80, 81, 82, 83, 84, 85, 86, 87] (by decide +kernel) (by decide +kernel)
set_option maxRecDepth 20000 in
theorem gX5_strike_X0_pushFromOutside : GoodIn wsX5_strike (wsV RX5 113 RX0 yX0_pushFromOutside wsX0_pushFromOutside) := goodIn_app (goodIn_of _ (by decide +kernel)) ggX5_strike_X0_pushFromOutside
set_option maxRecDepth 20000 in
theorem ggX5_strike_X0_rate : GoodIn wsX5_strike wsX0_rate := goodIn_r _ [63, 37, 35, 64, 8, 65, 66, 67, 68, 69, 77, 78, 79, 80, 81, 82, 83, 84, 85, 86, 87] (by decide +kernel) (by decide +kernel)
set_option maxRecDepth 20000 in
theorem gX5_strike_X0_rate : GoodIn wsX5_strike (wsV RX5 117 RX0 yX0_rate wsX0_rate) := goodIn_app (goodIn_of _ (by decide +kernel)) ggX5_strike_X0_rate
theorem dX5_strike_0 : decode cX5_strike 0 = .ok (.iload_n 1, 1) := by decide +kernel
theorem dX5_strike_1 : decode cX5_strike 1 = .ok (.invokestatic 87, 3) := by decide +kernel
theorem dX5_strike_4 : decode cX5_strike 4 = .ok (.ifCond .eq 14, 3) := by decide +kernel
theorem dX5_strike_7 : decode cX5_strike 7 = .ok (.iload_n 2, 1) := by decide +kernel
theorem dX5_strike_8 : decode cX5_strike 8 = .ok (.ldc 110, 2) := by decide +kernel
theorem dX5_strike_10 : decode cX5_strike 10 = .ok (.ldc 48, 2) := by decide +kernel
theorem dX5_strike_12 : decode cX5_strike 12 = .ok (.invokestatic 45, 3) := by decide +kernel
theorem dX5_strike_15 : decode cX5_strike 15 = .ok (.ifCond .ne 7, 3) := by decide +kernel
theorem dX5_strike_18 : decode cX5_strike 18 = .ok (.ldc2_w 111, 3) := by decide +kernel
theorem dX5_strike_21 : decode cX5_strike 21 = .ok (.lreturn, 1) := by decide +kernel
theorem dX5_strike_22 : decode cX5_strike 22 = .ok (.aload_n 0, 1) := by decide +kernel
theorem dX5_strike_23 : decode cX5_strike 23 = .ok (.getfield 36, 3) := by decide +kernel
theorem dX5_strike_26 : decode cX5_strike 26 = .ok (.aload_n 0, 1) := by decide +kernel
theorem dX5_strike_27 : decode cX5_strike 27 = .ok (.getfield 10, 3) := by decide +kernel
theorem dX5_strike_30 : decode cX5_strike 30 = .ok (.invokevirtual 55, 3) := by decide +kernel
theorem dX5_strike_33 : decode cX5_strike 33 = .ok (.aload_n 0, 1) := by decide +kernel
theorem dX5_strike_34 : decode cX5_strike 34 = .ok (.getfield 10, 3) := by decide +kernel
theorem dX5_strike_37 : decode cX5_strike 37 = .ok (.iload_n 1, 1) := by decide +kernel
theorem dX5_strike_38 : decode cX5_strike 38 = .ok (.iload_n 2, 1) := by decide +kernel
theorem dX5_strike_39 : decode cX5_strike 39 = .ok (.i2l, 1) := by decide +kernel
theorem dX5_strike_40 : decode cX5_strike 40 = .ok (.invokevirtual 113, 3) := by decide +kernel
theorem dX5_strike_43 : decode cX5_strike 43 = .ok (.aload_n 0, 1) := by decide +kernel
theorem dX5_strike_44 : decode cX5_strike 44 = .ok (.getfield 10, 3) := by decide +kernel
theorem dX5_strike_47 : decode cX5_strike 47 = .ok (.iload_n 1, 1) := by decide +kernel
theorem dX5_strike_48 : decode cX5_strike 48 = .ok (.invokevirtual 117, 3) := by decide +kernel
theorem dX5_strike_51 : decode cX5_strike 51 = .ok (.lreturn, 1) := by decide +kernel
set_option maxRecDepth 20000 in
theorem ggX5_tick_X5_isWithin : GoodIn wsX5_tick wsX5_isWithin := goodIn_r _ [12] (by decide +kernel) (by decide +kernel)
set_option maxRecDepth 20000 in
theorem gX5_tick_X5_isWithin : GoodIn wsX5_tick (va_wsS RX5 45 yX5_isWithin wsX5_isWithin) := goodIn_app (goodIn_of _ (by decide +kernel)) ggX5_tick_X5_isWithin
set_option maxRecDepth 20000 in
theorem ggX5_tick_X1_keep : GoodIn wsX5_tick wsX1_keep := goodIn_r _ [17, 18, 19, 20, 21, 22, 16, 23, 24, 25, 26, 27, 28, 29, 30, 31, 32, 33, 34, 35, 36, 37, 38, 39, 40, 41, 42, 43, 44, 45, 46, 47, 48, 49, 50, 51, 52, 53, 54, 55, 209, 210, 198, 199, 200, 201, 202, 203, 204, 205, 206, 207, 208, 211, 212, 213, 214, 215, 216] (by decide +kernel) (by decide +kernel)
set_option maxRecDepth 20000 in
theorem gX5_tick_X1_keep : GoodIn wsX5_tick (wsV RX5 55 RX1 yX1_keep wsX1_keep) := goodIn_app (goodIn_of _ (by decide +kernel)) ggX5_tick_X1_keep
set_option maxRecDepth 20000 in
theorem ggX5_tick_X3_measure : GoodIn wsX5_tick wsX3_measure := goodIn_r _ [60, 61, 62, 63, 64, 65, 66, 67, 68, 69, 70, 59, 71, 72, 73, 74, 75, 76, 11, 77, 217, 218, 219, 220, 198, 199, 200, 201, 202, 203, 204, 205, 206, 207, 208, 211, 212, 213, 214, 215, 216] (by decide +kernel) (by decide +kernel)
set_option maxRecDepth 20000 in
theorem gX5_tick_X3_measure : GoodIn wsX5_tick (wsV RX5 127 RX3 yX3_measure wsX3_measure) := goodIn_app (goodIn_of _ (by decide +kernel)) ggX5_tick_X3_measure
set_option maxRecDepth 20000 in
theorem ggX5_tick_X5_passOne : GoodIn wsX5_tick wsX5_passOne := goodIn_r _ [81, 3, 7, 82, 83, 84, 85, 27, 86, 30, 35, 36, 87, 39, 88, 11, 89, 90, 91, 92, 93, 94, 95, 96, 97, 98, 99, 37, 100, 101, 102, 59, 103, 62, 63, 104, 105, 64, 106, 107, 108, 109, 66, 110, 111, 112, 113, 42, 43, 40, 41, 114, 115, 116, 117, 118, 119, 120, 121, 122, 123, 67, 124, 125, 126, 127, 128, 129, 65, 130, 131, 132, 133, 134, 135, 136, 137, 138, 47, 139, 53, 140, 141, 142, 143, 52, 51, 144, 145, 146, 147, 148, 149, 150, 151, 152, 153, 154, 155, 156, 157, 158, 159, 160, 161, 162, 163, 164, 165, 166, 167, 168, 169, 170, 171, 172, 173, 174, 175, 176, 177, 178, 76, 77, 179, 180, 181, 182, 38, 183, 184, 185, 186, 187, 188, 189, 190, 191, 198, 199, 200, 201, 202, 203, 204, 205, 206, 207, 208, 193, 194, 195, 196, 197, 211, 212, 213, 214, 215, 216, 217, 218, 219, 220, 221, 222] (by decide +kernel) (by decide +kernel)
set_option maxRecDepth 20000 in
theorem gX5_tick_X5_passOne : GoodIn wsX5_tick (wsV RX5 131 RX5 yX5_passOne wsX5_passOne) := goodIn_app (goodIn_of _ (by decide +kernel)) ggX5_tick_X5_passOne
set_option maxRecDepth 20000 in
theorem ggX5_tick_X0_isMet : GoodIn wsX5_tick wsX0_isMet := goodIn_r _ [154, 42, 198, 199, 200, 201, 202, 203, 204, 205, 206, 207, 208] (by decide +kernel) (by decide +kernel)
set_option maxRecDepth 20000 in
theorem gX5_tick_X0_isMet : GoodIn wsX5_tick (wsV RX5 134 RX0 yX0_isMet wsX0_isMet) := goodIn_app (goodIn_of _ (by decide +kernel)) ggX5_tick_X0_isMet
theorem dX5_tick_0 : decode cX5_tick 0 = .ok (.iload_n 1, 1) := by decide +kernel
theorem dX5_tick_1 : decode cX5_tick 1 = .ok (.iconst 1, 1) := by decide +kernel
theorem dX5_tick_2 : decode cX5_tick 2 = .ok (.sipush 200, 3) := by decide +kernel
theorem dX5_tick_5 : decode cX5_tick 5 = .ok (.invokestatic 45, 3) := by decide +kernel
theorem dX5_tick_8 : decode cX5_tick 8 = .ok (.ifCond .ne 6, 3) := by decide +kernel
theorem dX5_tick_11 : decode cX5_tick 11 = .ok (.ldc 49, 2) := by decide +kernel
theorem dX5_tick_13 : decode cX5_tick 13 = .ok (.ireturn, 1) := by decide +kernel
theorem dX5_tick_14 : decode cX5_tick 14 = .ok (.aload_n 0, 1) := by decide +kernel
theorem dX5_tick_15 : decode cX5_tick 15 = .ok (.getfield 10, 3) := by decide +kernel
theorem dX5_tick_18 : decode cX5_tick 18 = .ok (.getfield 121, 3) := by decide +kernel
theorem dX5_tick_21 : decode cX5_tick 21 = .ok (.iload_n 1, 1) := by decide +kernel
theorem dX5_tick_22 : decode cX5_tick 22 = .ok (.iadd, 1) := by decide +kernel
theorem dX5_tick_23 : decode cX5_tick 23 = .ok (.ldc 124, 2) := by decide +kernel
theorem dX5_tick_25 : decode cX5_tick 25 = .ok (.if_icmp .le 6, 3) := by decide +kernel
theorem dX5_tick_28 : decode cX5_tick 28 = .ok (.ldc 125, 2) := by decide +kernel
theorem dX5_tick_30 : decode cX5_tick 30 = .ok (.ireturn, 1) := by decide +kernel
theorem dX5_tick_31 : decode cX5_tick 31 = .ok (.aload_n 0, 1) := by decide +kernel
theorem dX5_tick_32 : decode cX5_tick 32 = .ok (.getfield 36, 3) := by decide +kernel
theorem dX5_tick_35 : decode cX5_tick 35 = .ok (.aload_n 0, 1) := by decide +kernel
theorem dX5_tick_36 : decode cX5_tick 36 = .ok (.getfield 10, 3) := by decide +kernel
theorem dX5_tick_39 : decode cX5_tick 39 = .ok (.invokevirtual 55, 3) := by decide +kernel
theorem dX5_tick_42 : decode cX5_tick 42 = .ok (.aload_n 0, 1) := by decide +kernel
theorem dX5_tick_43 : decode cX5_tick 43 = .ok (.getfield 22, 3) := by decide +kernel
theorem dX5_tick_46 : decode cX5_tick 46 = .ok (.aload_n 0, 1) := by decide +kernel
theorem dX5_tick_47 : decode cX5_tick 47 = .ok (.getfield 10, 3) := by decide +kernel
theorem dX5_tick_50 : decode cX5_tick 50 = .ok (.ldc 126, 2) := by decide +kernel
theorem dX5_tick_52 : decode cX5_tick 52 = .ok (.invokevirtual 127, 3) := by decide +kernel
theorem dX5_tick_55 : decode cX5_tick 55 = .ok (.iconst 0, 1) := by decide +kernel
theorem dX5_tick_56 : decode cX5_tick 56 = .ok (.istore_n 2, 1) := by decide +kernel
theorem dX5_tick_57 : decode cX5_tick 57 = .ok (.iconst 0, 1) := by decide +kernel
theorem dX5_tick_58 : decode cX5_tick 58 = .ok (.istore_n 3, 1) := by decide +kernel
theorem dX5_tick_59 : decode cX5_tick 59 = .ok (.iload_n 3, 1) := by decide +kernel
theorem dX5_tick_60 : decode cX5_tick 60 = .ok (.iload_n 1, 1) := by decide +kernel
theorem dX5_tick_61 : decode cX5_tick 61 = .ok (.if_icmp .ge 35, 3) := by decide +kernel
theorem dX5_tick_64 : decode cX5_tick 64 = .ok (.aload_n 0, 1) := by decide +kernel
theorem dX5_tick_65 : decode cX5_tick 65 = .ok (.aload_n 0, 1) := by decide +kernel
theorem dX5_tick_66 : decode cX5_tick 66 = .ok (.getfield 10, 3) := by decide +kernel
theorem dX5_tick_69 : decode cX5_tick 69 = .ok (.invokevirtual 131, 3) := by decide +kernel
theorem dX5_tick_72 : decode cX5_tick 72 = .ok (.iload_n 2, 1) := by decide +kernel
theorem dX5_tick_73 : decode cX5_tick 73 = .ok (.aload_n 0, 1) := by decide +kernel
theorem dX5_tick_74 : decode cX5_tick 74 = .ok (.getfield 10, 3) := by decide +kernel
theorem dX5_tick_77 : decode cX5_tick 77 = .ok (.invokevirtual 134, 3) := by decide +kernel
theorem dX5_tick_80 : decode cX5_tick 80 = .ok (.ifCond .eq 7, 3) := by decide +kernel
theorem dX5_tick_83 : decode cX5_tick 83 = .ok (.iconst 1, 1) := by decide +kernel
theorem dX5_tick_84 : decode cX5_tick 84 = .ok (.goto 4, 3) := by decide +kernel
theorem dX5_tick_87 : decode cX5_tick 87 = .ok (.iconst 0, 1) := by decide +kernel
theorem dX5_tick_88 : decode cX5_tick 88 = .ok (.iadd, 1) := by decide +kernel
theorem dX5_tick_89 : decode cX5_tick 89 = .ok (.istore_n 2, 1) := by decide +kernel
theorem dX5_tick_90 : decode cX5_tick 90 = .ok (.iinc 3 1, 3) := by decide +kernel
theorem dX5_tick_93 : decode cX5_tick 93 = .ok (.goto (-34), 3) := by decide +kernel
theorem dX5_tick_96 : decode cX5_tick 96 = .ok (.iload_n 2, 1) := by decide +kernel
theorem dX5_tick_97 : decode cX5_tick 97 = .ok (.ireturn, 1) := by decide +kernel
theorem dX5_time_0 : decode cX5_time 0 = .ok (.aload_n 0, 1) := by decide +kernel
theorem dX5_time_1 : decode cX5_time 1 = .ok (.getfield 10, 3) := by decide +kernel
theorem dX5_time_4 : decode cX5_time 4 = .ok (.getfield 121, 3) := by decide +kernel
theorem dX5_time_7 : decode cX5_time 7 = .ok (.ireturn, 1) := by decide +kernel
set_option maxRecDepth 20000 in
theorem ggX5_axis_X5_isAxis : GoodIn wsX5_axis wsX5_isAxis := goodIn_r _ [6, 7, 8, 5, 9] (by decide +kernel) (by decide +kernel)
set_option maxRecDepth 20000 in
theorem gX5_axis_X5_isAxis : GoodIn wsX5_axis (va_wsS RX5 87 yX5_isAxis wsX5_isAxis) := goodIn_app (goodIn_of _ (by decide +kernel)) ggX5_axis_X5_isAxis
set_option maxRecDepth 20000 in
theorem ggX5_axis_X5_isWithin : GoodIn wsX5_axis wsX5_isWithin := goodIn_r _ [9] (by decide +kernel) (by decide +kernel)
set_option maxRecDepth 20000 in
theorem gX5_axis_X5_isWithin : GoodIn wsX5_axis (va_wsS RX5 45 yX5_isWithin wsX5_isWithin) := goodIn_app (goodIn_of _ (by decide +kernel)) ggX5_axis_X5_isWithin
set_option maxRecDepth 20000 in
theorem ggX5_axis_X0_number : GoodIn wsX5_axis wsX0_number := goodIn_r _ [14, 15, 16, 17, 18, 19, 20, 21, 22, 23, 13, 24, 25, 5, 26, 27, 28, 29, 30, 31, 32, 33, 34, 35, 36, 37, 38, 44, 45, 46, 47, 48, 49, 50, 51, 52, 53, 54, 55, 56, 57, 58, 59, 60] (by decide +kernel) (by decide +kernel)
set_option maxRecDepth 20000 in
theorem gX5_axis_X0_number : GoodIn wsX5_axis (wsV RX5 138 RX0 yX0_number wsX0_number) := goodIn_app (goodIn_of _ (by decide +kernel)) ggX5_axis_X0_number
theorem dX5_axis_0 : decode cX5_axis 0 = .ok (.iload_n 1, 1) := by decide +kernel
theorem dX5_axis_1 : decode cX5_axis 1 = .ok (.invokestatic 87, 3) := by decide +kernel
theorem dX5_axis_4 : decode cX5_axis 4 = .ok (.ifCond .eq 13, 3) := by decide +kernel
theorem dX5_axis_7 : decode cX5_axis 7 = .ok (.iload_n 2, 1) := by decide +kernel
theorem dX5_axis_8 : decode cX5_axis 8 = .ok (.iconst 0, 1) := by decide +kernel
theorem dX5_axis_9 : decode cX5_axis 9 = .ok (.bipush 9, 2) := by decide +kernel
theorem dX5_axis_11 : decode cX5_axis 11 = .ok (.invokestatic 45, 3) := by decide +kernel
theorem dX5_axis_14 : decode cX5_axis 14 = .ok (.ifCond .ne 7, 3) := by decide +kernel
theorem dX5_axis_17 : decode cX5_axis 17 = .ok (.ldc2_w 111, 3) := by decide +kernel
theorem dX5_axis_20 : decode cX5_axis 20 = .ok (.lreturn, 1) := by decide +kernel
theorem dX5_axis_21 : decode cX5_axis 21 = .ok (.aload_n 0, 1) := by decide +kernel
theorem dX5_axis_22 : decode cX5_axis 22 = .ok (.getfield 10, 3) := by decide +kernel
theorem dX5_axis_25 : decode cX5_axis 25 = .ok (.iload_n 1, 1) := by decide +kernel
theorem dX5_axis_26 : decode cX5_axis 26 = .ok (.iload_n 2, 1) := by decide +kernel
theorem dX5_axis_27 : decode cX5_axis 27 = .ok (.invokevirtual 138, 3) := by decide +kernel
theorem dX5_axis_30 : decode cX5_axis 30 = .ok (.lreturn, 1) := by decide +kernel
set_option maxRecDepth 20000 in
theorem ggX5_span_X3_measure : GoodIn wsX5_span wsX3_measure := goodIn_r _ [9, 10, 11, 12, 13, 14, 15, 16, 17, 18, 19, 8, 20, 21, 22, 23, 24, 25, 26, 27, 33, 34, 35, 36, 37, 38, 39, 40, 41, 42, 43, 44, 45, 46, 47, 48, 49, 50, 51, 52, 53] (by decide +kernel) (by decide +kernel)
set_option maxRecDepth 20000 in
theorem gX5_span_X3_measure : GoodIn wsX5_span (wsV RX5 127 RX3 yX3_measure wsX3_measure) := goodIn_app (goodIn_of _ (by decide +kernel)) ggX5_span_X3_measure
theorem dX5_span_0 : decode cX5_span 0 = .ok (.aload_n 0, 1) := by decide +kernel
theorem dX5_span_1 : decode cX5_span 1 = .ok (.getfield 22, 3) := by decide +kernel
theorem dX5_span_4 : decode cX5_span 4 = .ok (.aload_n 0, 1) := by decide +kernel
theorem dX5_span_5 : decode cX5_span 5 = .ok (.getfield 10, 3) := by decide +kernel
theorem dX5_span_8 : decode cX5_span 8 = .ok (.ldc 126, 2) := by decide +kernel
theorem dX5_span_10 : decode cX5_span 10 = .ok (.invokevirtual 127, 3) := by decide +kernel
theorem dX5_span_13 : decode cX5_span 13 = .ok (.aload_n 0, 1) := by decide +kernel
theorem dX5_span_14 : decode cX5_span 14 = .ok (.getfield 22, 3) := by decide +kernel
theorem dX5_span_17 : decode cX5_span 17 = .ok (.getfield 141, 3) := by decide +kernel
theorem dX5_span_20 : decode cX5_span 20 = .ok (.lreturn, 1) := by decide +kernel
set_option maxRecDepth 20000 in
theorem ggX5_wish_X5_isWheel : GoodIn wsX5_wish wsX5_isWheel := goodIn_r _ [11, 2, 12, 13, 14, 10, 15, 62, 63, 64, 65, 66, 67, 68, 69, 70, 71, 72, 73, 74, 75, 76, 77] (by decide +kernel) (by decide +kernel)
set_option maxRecDepth 20000 in
theorem gX5_wish_X5_isWheel : GoodIn wsX5_wish (wsV RX5 69 RX5 yX5_isWheel wsX5_isWheel) := goodIn_app (goodIn_of _ (by decide +kernel)) ggX5_wish_X5_isWheel
set_option maxRecDepth 20000 in
theorem ggX5_wish_X5_isTorque : GoodIn wsX5_wish wsX5_isTorque := goodIn_r _ [18, 19, 20, 13, 14, 10, 15] (by decide +kernel) (by decide +kernel)
set_option maxRecDepth 20000 in
theorem gX5_wish_X5_isTorque : GoodIn wsX5_wish (va_wsS RX5 145 yX5_isTorque wsX5_isTorque) := goodIn_app (goodIn_of _ (by decide +kernel)) ggX5_wish_X5_isTorque
set_option maxRecDepth 20000 in
theorem ggX5_wish_X3_measure : GoodIn wsX5_wish wsX3_measure := goodIn_r _ [25, 26, 27, 28, 29, 30, 31, 32, 33, 34, 35, 24, 36, 37, 38, 39, 40, 41, 10, 42, 84, 85, 86, 87, 67, 68, 69, 70, 71, 72, 73, 74, 75, 76, 77, 78, 79, 80, 81, 82, 83] (by decide +kernel) (by decide +kernel)
set_option maxRecDepth 20000 in
theorem gX5_wish_X3_measure : GoodIn wsX5_wish (wsV RX5 127 RX3 yX3_measure wsX3_measure) := goodIn_app (goodIn_of _ (by decide +kernel)) ggX5_wish_X3_measure
set_option maxRecDepth 20000 in
theorem ggX5_wish_X3_spans : GoodIn wsX5_wish wsX3_spans := goodIn_r _ [46, 31, 84, 85, 86, 87] (by decide +kernel) (by decide +kernel)
set_option maxRecDepth 20000 in
theorem gX5_wish_X3_spans : GoodIn wsX5_wish (wsV RX5 148 RX3 yX3_spans wsX3_spans) := goodIn_app (goodIn_of _ (by decide +kernel)) ggX5_wish_X3_spans
set_option maxRecDepth 20000 in
theorem ggX5_wish_X3_aim : GoodIn wsX5_wish wsX3_aim := goodIn_r _ [50, 51, 32, 84, 85, 86, 87] (by decide +kernel) (by decide +kernel)
set_option maxRecDepth 20000 in
theorem gX5_wish_X3_aim : GoodIn wsX5_wish (wsV RX5 151 RX3 yX3_aim wsX3_aim) := goodIn_app (goodIn_of _ (by decide +kernel)) ggX5_wish_X3_aim
set_option maxRecDepth 20000 in
theorem ggX5_wish_X3_wishOf : GoodIn wsX5_wish wsX3_wishOf := goodIn_r _ [55, 30, 51, 31, 56, 57, 44, 45, 24, 46, 58, 59, 60, 61, 78, 79, 80, 81, 82, 83, 84, 85, 86, 87] (by decide +kernel) (by decide +kernel)
set_option maxRecDepth 20000 in
theorem gX5_wish_X3_wishOf : GoodIn wsX5_wish (wsV RX5 155 RX3 yX3_wishOf wsX3_wishOf) := goodIn_app (goodIn_of _ (by decide +kernel)) ggX5_wish_X3_wishOf
theorem dX5_wish_0 : decode cX5_wish 0 = .ok (.aload_n 0, 1) := by decide +kernel
theorem dX5_wish_1 : decode cX5_wish 1 = .ok (.iload_n 1, 1) := by decide +kernel
theorem dX5_wish_2 : decode cX5_wish 2 = .ok (.invokevirtual 69, 3) := by decide +kernel
theorem dX5_wish_5 : decode cX5_wish 5 = .ok (.ifCond .eq 25, 3) := by decide +kernel
theorem dX5_wish_8 : decode cX5_wish 8 = .ok (.iload_n 2, 1) := by decide +kernel
theorem dX5_wish_9 : decode cX5_wish 9 = .ok (.invokestatic 145, 3) := by decide +kernel
theorem dX5_wish_12 : decode cX5_wish 12 = .ok (.ifCond .eq 18, 3) := by decide +kernel
theorem dX5_wish_15 : decode cX5_wish 15 = .ok (.iload_n 3, 1) := by decide +kernel
theorem dX5_wish_16 : decode cX5_wish 16 = .ok (.invokestatic 145, 3) := by decide +kernel
theorem dX5_wish_19 : decode cX5_wish 19 = .ok (.ifCond .eq 11, 3) := by decide +kernel
theorem dX5_wish_22 : decode cX5_wish 22 = .ok (.iload 4, 2) := by decide +kernel
theorem dX5_wish_24 : decode cX5_wish 24 = .ok (.invokestatic 145, 3) := by decide +kernel
theorem dX5_wish_27 : decode cX5_wish 27 = .ok (.ifCond .ne 7, 3) := by decide +kernel
theorem dX5_wish_30 : decode cX5_wish 30 = .ok (.ldc2_w 111, 3) := by decide +kernel
theorem dX5_wish_33 : decode cX5_wish 33 = .ok (.lreturn, 1) := by decide +kernel
theorem dX5_wish_34 : decode cX5_wish 34 = .ok (.aload_n 0, 1) := by decide +kernel
theorem dX5_wish_35 : decode cX5_wish 35 = .ok (.getfield 10, 3) := by decide +kernel
theorem dX5_wish_38 : decode cX5_wish 38 = .ok (.getfield 59, 3) := by decide +kernel
theorem dX5_wish_41 : decode cX5_wish 41 = .ok (.iload_n 1, 1) := by decide +kernel
theorem dX5_wish_42 : decode cX5_wish 42 = .ok (.aaload, 1) := by decide +kernel
theorem dX5_wish_43 : decode cX5_wish 43 = .ok (.astore 5, 2) := by decide +kernel
theorem dX5_wish_45 : decode cX5_wish 45 = .ok (.aload_n 0, 1) := by decide +kernel
theorem dX5_wish_46 : decode cX5_wish 46 = .ok (.getfield 22, 3) := by decide +kernel
theorem dX5_wish_49 : decode cX5_wish 49 = .ok (.aload_n 0, 1) := by decide +kernel
theorem dX5_wish_50 : decode cX5_wish 50 = .ok (.getfield 10, 3) := by decide +kernel
theorem dX5_wish_53 : decode cX5_wish 53 = .ok (.ldc 126, 2) := by decide +kernel
theorem dX5_wish_55 : decode cX5_wish 55 = .ok (.invokevirtual 127, 3) := by decide +kernel
theorem dX5_wish_58 : decode cX5_wish 58 = .ok (.aload 5, 2) := by decide +kernel
theorem dX5_wish_60 : decode cX5_wish 60 = .ok (.getfield 73, 3) := by decide +kernel
theorem dX5_wish_63 : decode cX5_wish 63 = .ok (.ifCond .ne 13, 3) := by decide +kernel
theorem dX5_wish_66 : decode cX5_wish 66 = .ok (.aload_n 0, 1) := by decide +kernel
theorem dX5_wish_67 : decode cX5_wish 67 = .ok (.getfield 22, 3) := by decide +kernel
theorem dX5_wish_70 : decode cX5_wish 70 = .ok (.invokevirtual 148, 3) := by decide +kernel
theorem dX5_wish_73 : decode cX5_wish 73 = .ok (.ifCond .ne 7, 3) := by decide +kernel
theorem dX5_wish_76 : decode cX5_wish 76 = .ok (.ldc2_w 111, 3) := by decide +kernel
theorem dX5_wish_79 : decode cX5_wish 79 = .ok (.lreturn, 1) := by decide +kernel
theorem dX5_wish_80 : decode cX5_wish 80 = .ok (.aload_n 0, 1) := by decide +kernel
theorem dX5_wish_81 : decode cX5_wish 81 = .ok (.getfield 22, 3) := by decide +kernel
theorem dX5_wish_84 : decode cX5_wish 84 = .ok (.iload_n 2, 1) := by decide +kernel
theorem dX5_wish_85 : decode cX5_wish 85 = .ok (.i2l, 1) := by decide +kernel
theorem dX5_wish_86 : decode cX5_wish 86 = .ok (.iload_n 3, 1) := by decide +kernel
theorem dX5_wish_87 : decode cX5_wish 87 = .ok (.i2l, 1) := by decide +kernel
theorem dX5_wish_88 : decode cX5_wish 88 = .ok (.iload 4, 2) := by decide +kernel
theorem dX5_wish_90 : decode cX5_wish 90 = .ok (.i2l, 1) := by decide +kernel
theorem dX5_wish_91 : decode cX5_wish 91 = .ok (.invokevirtual 151, 3) := by decide +kernel
theorem dX5_wish_94 : decode cX5_wish 94 = .ok (.aload_n 0, 1) := by decide +kernel
theorem dX5_wish_95 : decode cX5_wish 95 = .ok (.getfield 22, 3) := by decide +kernel
theorem dX5_wish_98 : decode cX5_wish 98 = .ok (.aload 5, 2) := by decide +kernel
theorem dX5_wish_100 : decode cX5_wish 100 = .ok (.invokevirtual 155, 3) := by decide +kernel
theorem dX5_wish_103 : decode cX5_wish 103 = .ok (.lreturn, 1) := by decide +kernel
theorem dX5_why_0 : decode cX5_why 0 = .ok (.iload_n 1, 1) := by decide +kernel
theorem dX5_why_1 : decode cX5_why 1 = .ok (.ifCond .ge 6, 3) := by decide +kernel
theorem dX5_why_4 : decode cX5_why 4 = .ok (.ldc 49, 2) := by decide +kernel
theorem dX5_why_6 : decode cX5_why 6 = .ok (.ireturn, 1) := by decide +kernel
theorem dX5_why_7 : decode cX5_why 7 = .ok (.iload_n 1, 1) := by decide +kernel
theorem dX5_why_8 : decode cX5_why 8 = .ok (.aload_n 0, 1) := by decide +kernel
theorem dX5_why_9 : decode cX5_why 9 = .ok (.getfield 10, 3) := by decide +kernel
theorem dX5_why_12 : decode cX5_why 12 = .ok (.getfield 159, 3) := by decide +kernel
theorem dX5_why_15 : decode cX5_why 15 = .ok (.if_icmp .ge 15, 3) := by decide +kernel
theorem dX5_why_18 : decode cX5_why 18 = .ok (.aload_n 0, 1) := by decide +kernel
theorem dX5_why_19 : decode cX5_why 19 = .ok (.getfield 10, 3) := by decide +kernel
theorem dX5_why_22 : decode cX5_why 22 = .ok (.getfield 162, 3) := by decide +kernel
theorem dX5_why_25 : decode cX5_why 25 = .ok (.iload_n 1, 1) := by decide +kernel
theorem dX5_why_26 : decode cX5_why 26 = .ok (.iaload, 1) := by decide +kernel
theorem dX5_why_27 : decode cX5_why 27 = .ok (.goto 5, 3) := by decide +kernel
theorem dX5_why_30 : decode cX5_why 30 = .ok (.ldc 126, 2) := by decide +kernel
theorem dX5_why_32 : decode cX5_why 32 = .ok (.ireturn, 1) := by decide +kernel
set_option maxRecDepth 20000 in
theorem ggX5_fullness_X4_fullPart : GoodIn wsX5_fullness wsX4_fullPart := goodIn_r _ [8, 9, 10, 11, 12, 13, 14, 31, 32, 33, 34, 35, 36] (by decide +kernel) (by decide +kernel)
set_option maxRecDepth 20000 in
theorem gX5_fullness_X4_fullPart : GoodIn wsX5_fullness (wsV RX5 165 RX4 yX4_fullPart wsX4_fullPart) := goodIn_app (goodIn_of _ (by decide +kernel)) ggX5_fullness_X4_fullPart
theorem dX5_fullness_0 : decode cX5_fullness 0 = .ok (.fconst 0, 1) := by decide +kernel
theorem dX5_fullness_1 : decode cX5_fullness 1 = .ok (.fstore_n 1, 1) := by decide +kernel
theorem dX5_fullness_2 : decode cX5_fullness 2 = .ok (.iconst 0, 1) := by decide +kernel
theorem dX5_fullness_3 : decode cX5_fullness 3 = .ok (.istore_n 2, 1) := by decide +kernel
theorem dX5_fullness_4 : decode cX5_fullness 4 = .ok (.iload_n 2, 1) := by decide +kernel
theorem dX5_fullness_5 : decode cX5_fullness 5 = .ok (.aload_n 0, 1) := by decide +kernel
theorem dX5_fullness_6 : decode cX5_fullness 6 = .ok (.getfield 10, 3) := by decide +kernel
theorem dX5_fullness_9 : decode cX5_fullness 9 = .ok (.getfield 50, 3) := by decide +kernel
theorem dX5_fullness_12 : decode cX5_fullness 12 = .ok (.if_icmp .ge 34, 3) := by decide +kernel
theorem dX5_fullness_15 : decode cX5_fullness 15 = .ok (.aload_n 0, 1) := by decide +kernel
theorem dX5_fullness_16 : decode cX5_fullness 16 = .ok (.getfield 10, 3) := by decide +kernel
theorem dX5_fullness_19 : decode cX5_fullness 19 = .ok (.getfield 59, 3) := by decide +kernel
theorem dX5_fullness_22 : decode cX5_fullness 22 = .ok (.iload_n 2, 1) := by decide +kernel
theorem dX5_fullness_23 : decode cX5_fullness 23 = .ok (.aaload, 1) := by decide +kernel
theorem dX5_fullness_24 : decode cX5_fullness 24 = .ok (.invokevirtual 165, 3) := by decide +kernel
theorem dX5_fullness_27 : decode cX5_fullness 27 = .ok (.fstore_n 3, 1) := by decide +kernel
theorem dX5_fullness_28 : decode cX5_fullness 28 = .ok (.fload_n 3, 1) := by decide +kernel
theorem dX5_fullness_29 : decode cX5_fullness 29 = .ok (.fload_n 1, 1) := by decide +kernel
theorem dX5_fullness_30 : decode cX5_fullness 30 = .ok (.fcmp .l, 1) := by decide +kernel
theorem dX5_fullness_31 : decode cX5_fullness 31 = .ok (.ifCond .le 7, 3) := by decide +kernel
theorem dX5_fullness_34 : decode cX5_fullness 34 = .ok (.fload_n 3, 1) := by decide +kernel
theorem dX5_fullness_35 : decode cX5_fullness 35 = .ok (.goto 4, 3) := by decide +kernel
theorem dX5_fullness_38 : decode cX5_fullness 38 = .ok (.fload_n 1, 1) := by decide +kernel
theorem dX5_fullness_39 : decode cX5_fullness 39 = .ok (.fstore_n 1, 1) := by decide +kernel
theorem dX5_fullness_40 : decode cX5_fullness 40 = .ok (.iinc 2 1, 3) := by decide +kernel
theorem dX5_fullness_43 : decode cX5_fullness 43 = .ok (.goto (-39), 3) := by decide +kernel
theorem dX5_fullness_46 : decode cX5_fullness 46 = .ok (.fload_n 1, 1) := by decide +kernel
theorem dX5_fullness_47 : decode cX5_fullness 47 = .ok (.freturn, 1) := by decide +kernel
set_option maxRecDepth 20000 in
theorem ggX5_arrives_X5_isWithin : GoodIn wsX5_arrives wsX5_isWithin := goodIn_r _ [10] (by decide +kernel) (by decide +kernel)
set_option maxRecDepth 20000 in
theorem gX5_arrives_X5_isWithin : GoodIn wsX5_arrives (va_wsS RX5 45 yX5_isWithin wsX5_isWithin) := goodIn_app (goodIn_of _ (by decide +kernel)) ggX5_arrives_X5_isWithin
set_option maxRecDepth 20000 in
theorem ggX5_arrives_X0_become : GoodIn wsX5_arrives wsX0_become := goodIn_r _ [15, 16, 17, 18, 19, 20, 21, 22, 23, 24, 25, 26, 27, 28, 29, 30, 31, 32, 33, 34, 35, 36, 37, 38, 39, 40, 41, 42, 196, 197, 198, 199, 200, 201, 202, 203, 204, 205, 206, 207, 208, 209, 210, 211, 212] (by decide +kernel) (by decide +kernel)
set_option maxRecDepth 20000 in
theorem gX5_arrives_X0_become : GoodIn wsX5_arrives (wsV RX5 169 RX0 yX0_become wsX0_become) := goodIn_app (goodIn_of _ (by decide +kernel)) ggX5_arrives_X0_become
set_option maxRecDepth 20000 in
theorem ggX5_arrives_X3_measure : GoodIn wsX5_arrives wsX3_measure := goodIn_r _ [47, 48, 49, 50, 51, 52, 53, 54, 55, 56, 57, 46, 58, 59, 60, 61, 62, 63, 9, 64, 213, 214, 215, 216, 196, 197, 198, 199, 200, 201, 202, 203, 204, 205, 206, 207, 208, 209, 210, 211, 212] (by decide +kernel) (by decide +kernel)
set_option maxRecDepth 20000 in
theorem gX5_arrives_X3_measure : GoodIn wsX5_arrives (wsV RX5 127 RX3 yX3_measure wsX3_measure) := goodIn_app (goodIn_of _ (by decide +kernel)) ggX5_arrives_X3_measure
set_option maxRecDepth 20000 in
theorem ggX5_arrives_X0_isOnTarget : GoodIn wsX5_arrives wsX0_isOnTarget := goodIn_r _ [68, 69, 70, 71, 72, 73, 74, 75, 14, 76, 22, 23, 77, 78, 79, 80, 24, 81, 9, 82, 83, 84, 85, 86, 196, 197, 198, 199, 200, 201, 202, 203, 204, 205, 206] (by decide +kernel) (by decide +kernel)
set_option maxRecDepth 20000 in
theorem gX5_arrives_X0_isOnTarget : GoodIn wsX5_arrives (wsV RX5 172 RX0 yX0_isOnTarget wsX0_isOnTarget) := goodIn_app (goodIn_of _ (by decide +kernel)) ggX5_arrives_X0_isOnTarget
set_option maxRecDepth 20000 in
theorem ggX5_arrives_X5_passOne : GoodIn wsX5_arrives wsX5_passOne := goodIn_r _ [90, 91, 5, 92, 93, 94, 95, 14, 96, 17, 22, 23, 97, 26, 81, 9, 82, 83, 84, 85, 86, 98, 99, 77, 78, 79, 80, 24, 100, 101, 102, 46, 103, 49, 50, 104, 105, 51, 106, 107, 108, 109, 53, 110, 111, 112, 113, 29, 30, 27, 28, 114, 115, 116, 117, 118, 119, 120, 121, 122, 123, 54, 124, 125, 126, 127, 128, 129, 52, 130, 131, 132, 133, 134, 135, 136, 137, 138, 34, 139, 40, 140, 141, 142, 143, 39, 38, 144, 145, 71, 146, 147, 148, 149, 150, 151, 152, 153, 154, 155, 156, 157, 158, 159, 160, 161, 162, 163, 164, 165, 166, 167, 168, 169, 170, 171, 172, 173, 174, 175, 176, 177, 63, 64, 178, 179, 180, 181, 25, 182, 183, 184, 185, 186, 187, 188, 189, 190, 196, 197, 198, 199, 200, 201, 202, 203, 204, 205, 206, 191, 192, 193, 194, 195, 207, 208, 209, 210, 211, 212, 213, 214, 215, 216, 217, 218] (by decide +kernel) (by decide +kernel)
set_option maxRecDepth 20000 in
theorem gX5_arrives_X5_passOne : GoodIn wsX5_arrives (wsV RX5 131 RX5 yX5_passOne wsX5_passOne) := goodIn_app (goodIn_of _ (by decide +kernel)) ggX5_arrives_X5_passOne
theorem dX5_arrives_0 : decode cX5_arrives 0 = .ok (.iload_n 1, 1) := by decide +kernel
theorem dX5_arrives_1 : decode cX5_arrives 1 = .ok (.iconst 0, 1) := by decide +kernel
theorem dX5_arrives_2 : decode cX5_arrives 2 = .ok (.ldc 44, 2) := by decide +kernel
theorem dX5_arrives_4 : decode cX5_arrives 4 = .ok (.invokestatic 45, 3) := by decide +kernel
theorem dX5_arrives_7 : decode cX5_arrives 7 = .ok (.ifCond .ne 6, 3) := by decide +kernel
theorem dX5_arrives_10 : decode cX5_arrives 10 = .ok (.ldc 49, 2) := by decide +kernel
theorem dX5_arrives_12 : decode cX5_arrives 12 = .ok (.ireturn, 1) := by decide +kernel
theorem dX5_arrives_13 : decode cX5_arrives 13 = .ok (.aload_n 0, 1) := by decide +kernel
theorem dX5_arrives_14 : decode cX5_arrives 14 = .ok (.getfield 16, 3) := by decide +kernel
theorem dX5_arrives_17 : decode cX5_arrives 17 = .ok (.aload_n 0, 1) := by decide +kernel
theorem dX5_arrives_18 : decode cX5_arrives 18 = .ok (.getfield 10, 3) := by decide +kernel
theorem dX5_arrives_21 : decode cX5_arrives 21 = .ok (.invokevirtual 169, 3) := by decide +kernel
theorem dX5_arrives_24 : decode cX5_arrives 24 = .ok (.aload_n 0, 1) := by decide +kernel
theorem dX5_arrives_25 : decode cX5_arrives 25 = .ok (.getfield 22, 3) := by decide +kernel
theorem dX5_arrives_28 : decode cX5_arrives 28 = .ok (.aload_n 0, 1) := by decide +kernel
theorem dX5_arrives_29 : decode cX5_arrives 29 = .ok (.getfield 16, 3) := by decide +kernel
theorem dX5_arrives_32 : decode cX5_arrives 32 = .ok (.ldc 126, 2) := by decide +kernel
theorem dX5_arrives_34 : decode cX5_arrives 34 = .ok (.invokevirtual 127, 3) := by decide +kernel
theorem dX5_arrives_37 : decode cX5_arrives 37 = .ok (.iconst 0, 1) := by decide +kernel
theorem dX5_arrives_38 : decode cX5_arrives 38 = .ok (.istore_n 2, 1) := by decide +kernel
theorem dX5_arrives_39 : decode cX5_arrives 39 = .ok (.iload_n 2, 1) := by decide +kernel
theorem dX5_arrives_40 : decode cX5_arrives 40 = .ok (.sipush 500, 3) := by decide +kernel
theorem dX5_arrives_43 : decode cX5_arrives 43 = .ok (.if_icmp .gt 30, 3) := by decide +kernel
theorem dX5_arrives_46 : decode cX5_arrives 46 = .ok (.aload_n 0, 1) := by decide +kernel
theorem dX5_arrives_47 : decode cX5_arrives 47 = .ok (.getfield 16, 3) := by decide +kernel
theorem dX5_arrives_50 : decode cX5_arrives 50 = .ok (.iload_n 1, 1) := by decide +kernel
theorem dX5_arrives_51 : decode cX5_arrives 51 = .ok (.invokevirtual 172, 3) := by decide +kernel
theorem dX5_arrives_54 : decode cX5_arrives 54 = .ok (.ifCond .eq 5, 3) := by decide +kernel
theorem dX5_arrives_57 : decode cX5_arrives 57 = .ok (.iload_n 2, 1) := by decide +kernel
theorem dX5_arrives_58 : decode cX5_arrives 58 = .ok (.ireturn, 1) := by decide +kernel
theorem dX5_arrives_59 : decode cX5_arrives 59 = .ok (.aload_n 0, 1) := by decide +kernel
theorem dX5_arrives_60 : decode cX5_arrives 60 = .ok (.aload_n 0, 1) := by decide +kernel
theorem dX5_arrives_61 : decode cX5_arrives 61 = .ok (.getfield 16, 3) := by decide +kernel
theorem dX5_arrives_64 : decode cX5_arrives 64 = .ok (.invokevirtual 131, 3) := by decide +kernel
theorem dX5_arrives_67 : decode cX5_arrives 67 = .ok (.iinc 2 1, 3) := by decide +kernel
theorem dX5_arrives_70 : decode cX5_arrives 70 = .ok (.goto (-31), 3) := by decide +kernel
theorem dX5_arrives_73 : decode cX5_arrives 73 = .ok (.ldc 126, 2) := by decide +kernel
theorem dX5_arrives_75 : decode cX5_arrives 75 = .ok (.ireturn, 1) := by decide +kernel
set_option maxRecDepth 20000 in
theorem ggX5_spare_X3_measure : GoodIn wsX5_spare wsX3_measure := goodIn_r _ [10, 11, 12, 13, 14, 15, 16, 17, 18, 19, 20, 9, 21, 22, 23, 24, 25, 26, 27, 28, 55, 56, 57, 58, 38, 39, 40, 41, 42, 43, 44, 45, 46, 47, 48, 49, 50, 51, 52, 53, 54] (by decide +kernel) (by decide +kernel)
set_option maxRecDepth 20000 in
theorem gX5_spare_X3_measure : GoodIn wsX5_spare (wsV RX5 127 RX3 yX3_measure wsX3_measure) := goodIn_app (goodIn_of _ (by decide +kernel)) ggX5_spare_X3_measure
set_option maxRecDepth 20000 in
theorem ggX5_spare_X3_spans : GoodIn wsX5_spare wsX3_spans := goodIn_r _ [32, 16, 55, 56, 57, 58] (by decide +kernel) (by decide +kernel)
set_option maxRecDepth 20000 in
theorem gX5_spare_X3_spans : GoodIn wsX5_spare (wsV RX5 148 RX3 yX3_spans wsX3_spans) := goodIn_app (goodIn_of _ (by decide +kernel)) ggX5_spare_X3_spans
theorem dX5_spare_0 : decode cX5_spare 0 = .ok (.iconst 0, 1) := by decide +kernel
theorem dX5_spare_1 : decode cX5_spare 1 = .ok (.istore_n 1, 1) := by decide +kernel
theorem dX5_spare_2 : decode cX5_spare 2 = .ok (.iconst 0, 1) := by decide +kernel
theorem dX5_spare_3 : decode cX5_spare 3 = .ok (.istore_n 2, 1) := by decide +kernel
theorem dX5_spare_4 : decode cX5_spare 4 = .ok (.iload_n 2, 1) := by decide +kernel
theorem dX5_spare_5 : decode cX5_spare 5 = .ok (.aload_n 0, 1) := by decide +kernel
theorem dX5_spare_6 : decode cX5_spare 6 = .ok (.getfield 10, 3) := by decide +kernel
theorem dX5_spare_9 : decode cX5_spare 9 = .ok (.getfield 50, 3) := by decide +kernel
theorem dX5_spare_12 : decode cX5_spare 12 = .ok (.if_icmp .ge 52, 3) := by decide +kernel
theorem dX5_spare_15 : decode cX5_spare 15 = .ok (.aload_n 0, 1) := by decide +kernel
theorem dX5_spare_16 : decode cX5_spare 16 = .ok (.getfield 22, 3) := by decide +kernel
theorem dX5_spare_19 : decode cX5_spare 19 = .ok (.aload_n 0, 1) := by decide +kernel
theorem dX5_spare_20 : decode cX5_spare 20 = .ok (.getfield 10, 3) := by decide +kernel
theorem dX5_spare_23 : decode cX5_spare 23 = .ok (.iload_n 2, 1) := by decide +kernel
theorem dX5_spare_24 : decode cX5_spare 24 = .ok (.invokevirtual 127, 3) := by decide +kernel
theorem dX5_spare_27 : decode cX5_spare 27 = .ok (.aload_n 0, 1) := by decide +kernel
theorem dX5_spare_28 : decode cX5_spare 28 = .ok (.getfield 10, 3) := by decide +kernel
theorem dX5_spare_31 : decode cX5_spare 31 = .ok (.getfield 59, 3) := by decide +kernel
theorem dX5_spare_34 : decode cX5_spare 34 = .ok (.iload_n 2, 1) := by decide +kernel
theorem dX5_spare_35 : decode cX5_spare 35 = .ok (.aaload, 1) := by decide +kernel
theorem dX5_spare_36 : decode cX5_spare 36 = .ok (.getfield 73, 3) := by decide +kernel
theorem dX5_spare_39 : decode cX5_spare 39 = .ok (.ifCond .ne 19, 3) := by decide +kernel
theorem dX5_spare_42 : decode cX5_spare 42 = .ok (.aload_n 0, 1) := by decide +kernel
theorem dX5_spare_43 : decode cX5_spare 43 = .ok (.getfield 22, 3) := by decide +kernel
theorem dX5_spare_46 : decode cX5_spare 46 = .ok (.invokevirtual 148, 3) := by decide +kernel
theorem dX5_spare_49 : decode cX5_spare 49 = .ok (.ifCond .eq 9, 3) := by decide +kernel
theorem dX5_spare_52 : decode cX5_spare 52 = .ok (.iload_n 1, 1) := by decide +kernel
theorem dX5_spare_53 : decode cX5_spare 53 = .ok (.iconst 1, 1) := by decide +kernel
theorem dX5_spare_54 : decode cX5_spare 54 = .ok (.iload_n 2, 1) := by decide +kernel
theorem dX5_spare_55 : decode cX5_spare 55 = .ok (.ishl, 1) := by decide +kernel
theorem dX5_spare_56 : decode cX5_spare 56 = .ok (.ior, 1) := by decide +kernel
theorem dX5_spare_57 : decode cX5_spare 57 = .ok (.istore_n 1, 1) := by decide +kernel
theorem dX5_spare_58 : decode cX5_spare 58 = .ok (.iinc 2 1, 3) := by decide +kernel
theorem dX5_spare_61 : decode cX5_spare 61 = .ok (.goto (-57), 3) := by decide +kernel
theorem dX5_spare_64 : decode cX5_spare 64 = .ok (.iload_n 1, 1) := by decide +kernel
theorem dX5_spare_65 : decode cX5_spare 65 = .ok (.ireturn, 1) := by decide +kernel
set_option maxRecDepth 20000 in
theorem ggX5_gravest_X5_isWithin : GoodIn wsX5_gravest wsX5_isWithin := goodIn_r _ [10] (by decide +kernel) (by decide +kernel)
set_option maxRecDepth 20000 in
theorem gX5_gravest_X5_isWithin : GoodIn wsX5_gravest (va_wsS RX5 45 yX5_isWithin wsX5_isWithin) := goodIn_app (goodIn_of _ (by decide +kernel)) ggX5_gravest_X5_isWithin
set_option maxRecDepth 20000 in
theorem ggX5_gravest_X5_offWithout : GoodIn wsX5_gravest wsX5_offWithout := goodIn_r _ [14, 15, 3, 5, 6, 16, 2, 17, 18, 19, 20, 21, 22, 23, 24, 25, 26, 27, 28, 29, 30, 31, 32, 33, 34, 35, 36, 37, 38, 39, 40, 41, 42, 43, 44, 45, 46, 47, 48, 49, 50, 51, 52, 53, 54, 55, 56, 57, 58, 59, 60, 61, 62, 63, 64, 65, 66, 67, 68, 69, 9, 70, 71, 72, 73, 74, 75, 76, 77, 78, 79, 80, 81, 82, 83, 84, 85, 86, 87, 88, 89, 90, 91, 92, 93, 94, 95, 96, 97, 98, 99, 100, 101, 102, 103, 104, 105, 106, 107, 108, 109, 110, 111, 112, 113, 114, 115, 116, 117, 118, 119, 120, 121, 122, 123, 124, 125, 126, 127, 128, 129, 130, 131, 132, 133, 134, 135, 136, 137, 138, 139, 140, 141, 142, 143, 144, 145, 146, 147, 148, 149, 150, 151, 152, 153, 154, 155, 156, 157, 158, 159, 160, 161, 162, 163, 164, 165, 166, 167, 168, 169, 170, 171, 172, 173, 174, 175, 176, 177, 178, 179, 180, 181, 182, 183, 184, 185, 186, 187, 188, 189, 190, 191, 192, 193, 194, 195, 196, 197, 198, 199, 200, 201, 202, 203, 204, 205, 206, 207, 208, 209, 210, 211, 212, 213, 214, 215, 216, 217, 218, 219, 220, 221, 222, 223, 224] (by decide +kernel) (by decide +kernel)
set_option maxRecDepth 20000 in
theorem gX5_gravest_X5_offWithout : GoodIn wsX5_gravest (wsV RX5 175 RX5 yX5_offWithout wsX5_offWithout) := goodIn_app (goodIn_of _ (by decide +kernel)) ggX5_gravest_X5_offWithout
theorem dX5_gravest_0 : decode cX5_gravest 0 = .ok (.iload_n 1, 1) := by decide +kernel
theorem dX5_gravest_1 : decode cX5_gravest 1 = .ok (.iconst 1, 1) := by decide +kernel
theorem dX5_gravest_2 : decode cX5_gravest 2 = .ok (.bipush 100, 2) := by decide +kernel
theorem dX5_gravest_4 : decode cX5_gravest 4 = .ok (.invokestatic 45, 3) := by decide +kernel
theorem dX5_gravest_7 : decode cX5_gravest 7 = .ok (.ifCond .ne 6, 3) := by decide +kernel
theorem dX5_gravest_10 : decode cX5_gravest 10 = .ok (.ldc 49, 2) := by decide +kernel
theorem dX5_gravest_12 : decode cX5_gravest 12 = .ok (.ireturn, 1) := by decide +kernel
theorem dX5_gravest_13 : decode cX5_gravest 13 = .ok (.ldc 126, 2) := by decide +kernel
theorem dX5_gravest_15 : decode cX5_gravest 15 = .ok (.istore_n 2, 1) := by decide +kernel
theorem dX5_gravest_16 : decode cX5_gravest 16 = .ok (.lconst 0, 1) := by decide +kernel
theorem dX5_gravest_17 : decode cX5_gravest 17 = .ok (.lstore_n 3, 1) := by decide +kernel
theorem dX5_gravest_18 : decode cX5_gravest 18 = .ok (.iconst 0, 1) := by decide +kernel
theorem dX5_gravest_19 : decode cX5_gravest 19 = .ok (.istore 5, 2) := by decide +kernel
theorem dX5_gravest_21 : decode cX5_gravest 21 = .ok (.iload 5, 2) := by decide +kernel
theorem dX5_gravest_23 : decode cX5_gravest 23 = .ok (.aload_n 0, 1) := by decide +kernel
theorem dX5_gravest_24 : decode cX5_gravest 24 = .ok (.getfield 10, 3) := by decide +kernel
theorem dX5_gravest_27 : decode cX5_gravest 27 = .ok (.getfield 50, 3) := by decide +kernel
theorem dX5_gravest_30 : decode cX5_gravest 30 = .ok (.if_icmp .ge 56, 3) := by decide +kernel
theorem dX5_gravest_33 : decode cX5_gravest 33 = .ok (.aload_n 0, 1) := by decide +kernel
theorem dX5_gravest_34 : decode cX5_gravest 34 = .ok (.getfield 10, 3) := by decide +kernel
theorem dX5_gravest_37 : decode cX5_gravest 37 = .ok (.getfield 59, 3) := by decide +kernel
theorem dX5_gravest_40 : decode cX5_gravest 40 = .ok (.iload 5, 2) := by decide +kernel
theorem dX5_gravest_42 : decode cX5_gravest 42 = .ok (.aaload, 1) := by decide +kernel
theorem dX5_gravest_43 : decode cX5_gravest 43 = .ok (.getfield 73, 3) := by decide +kernel
theorem dX5_gravest_46 : decode cX5_gravest 46 = .ok (.ifCond .eq 6, 3) := by decide +kernel
theorem dX5_gravest_49 : decode cX5_gravest 49 = .ok (.goto 31, 3) := by decide +kernel
theorem dX5_gravest_52 : decode cX5_gravest 52 = .ok (.aload_n 0, 1) := by decide +kernel
theorem dX5_gravest_53 : decode cX5_gravest 53 = .ok (.iload 5, 2) := by decide +kernel
theorem dX5_gravest_55 : decode cX5_gravest 55 = .ok (.iload_n 1, 1) := by decide +kernel
theorem dX5_gravest_56 : decode cX5_gravest 56 = .ok (.invokevirtual 175, 3) := by decide +kernel
theorem dX5_gravest_59 : decode cX5_gravest 59 = .ok (.lstore 6, 2) := by decide +kernel
theorem dX5_gravest_61 : decode cX5_gravest 61 = .ok (.iload_n 2, 1) := by decide +kernel
theorem dX5_gravest_62 : decode cX5_gravest 62 = .ok (.ldc 126, 2) := by decide +kernel
theorem dX5_gravest_64 : decode cX5_gravest 64 = .ok (.if_icmp .eq 10, 3) := by decide +kernel
theorem dX5_gravest_67 : decode cX5_gravest 67 = .ok (.lload 6, 2) := by decide +kernel
theorem dX5_gravest_69 : decode cX5_gravest 69 = .ok (.lload_n 3, 1) := by decide +kernel
theorem dX5_gravest_70 : decode cX5_gravest 70 = .ok (.lcmp, 1) := by decide +kernel
theorem dX5_gravest_71 : decode cX5_gravest 71 = .ok (.ifCond .le 9, 3) := by decide +kernel
theorem dX5_gravest_74 : decode cX5_gravest 74 = .ok (.iload 5, 2) := by decide +kernel
theorem dX5_gravest_76 : decode cX5_gravest 76 = .ok (.istore_n 2, 1) := by decide +kernel
theorem dX5_gravest_77 : decode cX5_gravest 77 = .ok (.lload 6, 2) := by decide +kernel
theorem dX5_gravest_79 : decode cX5_gravest 79 = .ok (.lstore_n 3, 1) := by decide +kernel
theorem dX5_gravest_80 : decode cX5_gravest 80 = .ok (.iinc 5 1, 3) := by decide +kernel
theorem dX5_gravest_83 : decode cX5_gravest 83 = .ok (.goto (-62), 3) := by decide +kernel
theorem dX5_gravest_86 : decode cX5_gravest 86 = .ok (.iload_n 2, 1) := by decide +kernel
theorem dX5_gravest_87 : decode cX5_gravest 87 = .ok (.ireturn, 1) := by decide +kernel
set_option maxRecDepth 20000 in
theorem ggX5_undo_X1_giveBack : GoodIn wsX5_undo wsX1_giveBack := goodIn_r _ [7, 8, 9, 10, 11, 12, 13, 14, 15, 16, 17, 18, 19, 20, 21, 22, 23, 24, 25, 26, 27, 28, 29, 30, 31, 32, 33, 34, 35, 36, 37, 38, 39, 40, 41, 42, 48, 49, 50, 51, 52, 53, 54, 55, 56, 57, 58, 59, 60, 61, 62, 63, 64, 65, 66] (by decide +kernel) (by decide +kernel)
set_option maxRecDepth 20000 in
theorem gX5_undo_X1_giveBack : GoodIn wsX5_undo (wsV RX5 178 RX1 yX1_giveBack wsX1_giveBack) := goodIn_app (goodIn_of _ (by decide +kernel)) ggX5_undo_X1_giveBack
theorem dX5_undo_0 : decode cX5_undo 0 = .ok (.aload_n 0, 1) := by decide +kernel
theorem dX5_undo_1 : decode cX5_undo 1 = .ok (.getfield 36, 3) := by decide +kernel
theorem dX5_undo_4 : decode cX5_undo 4 = .ok (.aload_n 0, 1) := by decide +kernel
theorem dX5_undo_5 : decode cX5_undo 5 = .ok (.getfield 10, 3) := by decide +kernel
theorem dX5_undo_8 : decode cX5_undo 8 = .ok (.invokevirtual 178, 3) := by decide +kernel
theorem dX5_undo_11 : decode cX5_undo 11 = .ok (.ireturn, 1) := by decide +kernel
set_option maxRecDepth 20000 in
theorem ggX5_fingerprint_X5_time : GoodIn wsX5_fingerprint wsX5_time := goodIn_r _ [9, 2, 10, 119, 120, 121, 122, 123, 124, 125, 126, 127, 128, 129, 130, 131, 132, 133, 134] (by decide +kernel) (by decide +kernel)
set_option maxRecDepth 20000 in
theorem gX5_fingerprint_X5_time : GoodIn wsX5_fingerprint (wsV RX5 184 RX5 yX5_time wsX5_time) := goodIn_app (goodIn_of _ (by decide +kernel)) ggX5_fingerprint_X5_time
set_option maxRecDepth 20000 in
theorem ggX5_fingerprint_X5_mixed : GoodIn wsX5_fingerprint wsX5_mixed := goodIn_r _ [13, 14] (by decide +kernel) (by decide +kernel)
set_option maxRecDepth 20000 in
theorem gX5_fingerprint_X5_mixed : GoodIn wsX5_fingerprint (va_wsS RX5 188 yX5_mixed wsX5_mixed) := goodIn_app (goodIn_of _ (by decide +kernel)) ggX5_fingerprint_X5_mixed
set_option maxRecDepth 20000 in
theorem ggX5_fingerprint_X5_setting : GoodIn wsX5_fingerprint wsX5_setting := goodIn_r _ [18, 2, 19, 20, 21, 22, 8, 23, 119, 120, 121, 122, 123, 124, 125, 126, 127, 128, 129, 130, 131, 132, 133, 134] (by decide +kernel) (by decide +kernel)
set_option maxRecDepth 20000 in
theorem gX5_fingerprint_X5_setting : GoodIn wsX5_fingerprint (wsV RX5 192 RX5 yX5_setting wsX5_setting) := goodIn_app (goodIn_of _ (by decide +kernel)) ggX5_fingerprint_X5_setting
set_option maxRecDepth 20000 in
theorem ggX5_fingerprint_X5_axis : GoodIn wsX5_fingerprint wsX5_axis := goodIn_r _ [27, 28, 2, 29, 30, 8, 31, 21, 22, 23, 32, 33, 34, 35, 36, 37, 38, 39, 40, 41, 42, 43, 44, 45, 46, 47, 48, 49, 50, 51, 52, 53, 54, 55, 56, 57, 58, 59, 60, 119, 120, 121, 122, 123, 124, 125, 126, 127, 128, 129, 130, 131, 132, 133, 134, 135, 136, 137, 138, 139, 140] (by decide +kernel) (by decide +kernel)
set_option maxRecDepth 20000 in
theorem gX5_fingerprint_X5_axis : GoodIn wsX5_fingerprint (wsV RX5 195 RX5 yX5_axis wsX5_axis) := goodIn_app (goodIn_of _ (by decide +kernel)) ggX5_fingerprint_X5_axis
set_option maxRecDepth 20000 in
theorem ggX5_fingerprint_X5_wheels : GoodIn wsX5_fingerprint wsX5_wheels := goodIn_r _ [64, 2, 3, 119, 120, 121, 122, 123, 124, 125, 126, 127, 128, 129, 130, 131, 132, 133, 134] (by decide +kernel) (by decide +kernel)
set_option maxRecDepth 20000 in
theorem gX5_fingerprint_X5_wheels : GoodIn wsX5_fingerprint (wsV RX5 198 RX5 yX5_wheels wsX5_wheels) := goodIn_app (goodIn_of _ (by decide +kernel)) ggX5_fingerprint_X5_wheels
set_option maxRecDepth 20000 in
theorem ggX5_fingerprint_X5_wheel : GoodIn wsX5_fingerprint wsX5_wheel := goodIn_r _ [68, 20, 2, 69, 70, 71, 72, 8, 73, 3, 21, 22, 23, 74, 75, 76, 77, 78, 79, 80, 81, 82, 83, 84, 119, 120, 121, 122, 123, 124, 125, 126, 127, 128, 129, 130, 131, 132, 133, 134, 135, 136, 137, 138, 139, 140] (by decide +kernel) (by decide +kernel)
set_option maxRecDepth 20000 in
theorem gX5_fingerprint_X5_wheel : GoodIn wsX5_fingerprint (wsV RX5 201 RX5 yX5_wheel wsX5_wheel) := goodIn_app (goodIn_of _ (by decide +kernel)) ggX5_fingerprint_X5_wheel
set_option maxRecDepth 20000 in
theorem ggX5_fingerprint_X5_span : GoodIn wsX5_fingerprint wsX5_span := goodIn_r _ [88, 89, 2, 90, 91, 92, 93, 94, 95, 96, 97, 98, 99, 100, 101, 102, 103, 104, 105, 106, 107, 108, 109, 110, 111, 112, 8, 113, 119, 120, 121, 122, 123, 141, 142, 143, 144, 124, 125, 126, 127, 128, 129, 130, 131, 132, 133, 134, 135, 136, 137, 138, 139, 140] (by decide +kernel) (by decide +kernel)
set_option maxRecDepth 20000 in
theorem gX5_fingerprint_X5_span : GoodIn wsX5_fingerprint (wsV RX5 205 RX5 yX5_span wsX5_span) := goodIn_app (goodIn_of _ (by decide +kernel)) ggX5_fingerprint_X5_span
set_option maxRecDepth 20000 in
theorem ggX5_fingerprint_X5_why : GoodIn wsX5_fingerprint wsX5_why := goodIn_r _ [117, 20, 2, 4, 118, 90, 119, 120, 121, 122, 123, 124, 125, 126, 127, 128, 129, 130, 131, 132, 133, 134] (by decide +kernel) (by decide +kernel)
set_option maxRecDepth 20000 in
theorem gX5_fingerprint_X5_why : GoodIn wsX5_fingerprint (wsV RX5 209 RX5 yX5_why wsX5_why) := goodIn_app (goodIn_of _ (by decide +kernel)) ggX5_fingerprint_X5_why
theorem dX5_fingerprint_0 : decode cX5_fingerprint 0 = .ok (.ldc2_w 182, 3) := by decide +kernel
theorem dX5_fingerprint_3 : decode cX5_fingerprint 3 = .ok (.aload_n 0, 1) := by decide +kernel
theorem dX5_fingerprint_4 : decode cX5_fingerprint 4 = .ok (.invokevirtual 184, 3) := by decide +kernel
theorem dX5_fingerprint_7 : decode cX5_fingerprint 7 = .ok (.i2l, 1) := by decide +kernel
theorem dX5_fingerprint_8 : decode cX5_fingerprint 8 = .ok (.invokestatic 188, 3) := by decide +kernel
theorem dX5_fingerprint_11 : decode cX5_fingerprint 11 = .ok (.lstore_n 1, 1) := by decide +kernel
theorem dX5_fingerprint_12 : decode cX5_fingerprint 12 = .ok (.iconst 0, 1) := by decide +kernel
theorem dX5_fingerprint_13 : decode cX5_fingerprint 13 = .ok (.istore_n 3, 1) := by decide +kernel
theorem dX5_fingerprint_14 : decode cX5_fingerprint 14 = .ok (.iload_n 3, 1) := by decide +kernel
theorem dX5_fingerprint_15 : decode cX5_fingerprint 15 = .ok (.iconst 5, 1) := by decide +kernel
theorem dX5_fingerprint_16 : decode cX5_fingerprint 16 = .ok (.if_icmp .ge 20, 3) := by decide +kernel
theorem dX5_fingerprint_19 : decode cX5_fingerprint 19 = .ok (.lload_n 1, 1) := by decide +kernel
theorem dX5_fingerprint_20 : decode cX5_fingerprint 20 = .ok (.aload_n 0, 1) := by decide +kernel
theorem dX5_fingerprint_21 : decode cX5_fingerprint 21 = .ok (.iload_n 3, 1) := by decide +kernel
theorem dX5_fingerprint_22 : decode cX5_fingerprint 22 = .ok (.invokevirtual 192, 3) := by decide +kernel
theorem dX5_fingerprint_25 : decode cX5_fingerprint 25 = .ok (.i2l, 1) := by decide +kernel
theorem dX5_fingerprint_26 : decode cX5_fingerprint 26 = .ok (.invokestatic 188, 3) := by decide +kernel
theorem dX5_fingerprint_29 : decode cX5_fingerprint 29 = .ok (.lstore_n 1, 1) := by decide +kernel
theorem dX5_fingerprint_30 : decode cX5_fingerprint 30 = .ok (.iinc 3 1, 3) := by decide +kernel
theorem dX5_fingerprint_33 : decode cX5_fingerprint 33 = .ok (.goto (-19), 3) := by decide +kernel
theorem dX5_fingerprint_36 : decode cX5_fingerprint 36 = .ok (.iconst 0, 1) := by decide +kernel
theorem dX5_fingerprint_37 : decode cX5_fingerprint 37 = .ok (.istore_n 3, 1) := by decide +kernel
theorem dX5_fingerprint_38 : decode cX5_fingerprint 38 = .ok (.iload_n 3, 1) := by decide +kernel
theorem dX5_fingerprint_39 : decode cX5_fingerprint 39 = .ok (.iconst 3, 1) := by decide +kernel
theorem dX5_fingerprint_40 : decode cX5_fingerprint 40 = .ok (.if_icmp .ge 37, 3) := by decide +kernel
theorem dX5_fingerprint_43 : decode cX5_fingerprint 43 = .ok (.iconst 0, 1) := by decide +kernel
theorem dX5_fingerprint_44 : decode cX5_fingerprint 44 = .ok (.istore 4, 2) := by decide +kernel
theorem dX5_fingerprint_46 : decode cX5_fingerprint 46 = .ok (.iload 4, 2) := by decide +kernel
theorem dX5_fingerprint_48 : decode cX5_fingerprint 48 = .ok (.bipush 10, 2) := by decide +kernel
theorem dX5_fingerprint_50 : decode cX5_fingerprint 50 = .ok (.if_icmp .ge 21, 3) := by decide +kernel
theorem dX5_fingerprint_53 : decode cX5_fingerprint 53 = .ok (.lload_n 1, 1) := by decide +kernel
theorem dX5_fingerprint_54 : decode cX5_fingerprint 54 = .ok (.aload_n 0, 1) := by decide +kernel
theorem dX5_fingerprint_55 : decode cX5_fingerprint 55 = .ok (.iload_n 3, 1) := by decide +kernel
theorem dX5_fingerprint_56 : decode cX5_fingerprint 56 = .ok (.iload 4, 2) := by decide +kernel
theorem dX5_fingerprint_58 : decode cX5_fingerprint 58 = .ok (.invokevirtual 195, 3) := by decide +kernel
theorem dX5_fingerprint_61 : decode cX5_fingerprint 61 = .ok (.invokestatic 188, 3) := by decide +kernel
theorem dX5_fingerprint_64 : decode cX5_fingerprint 64 = .ok (.lstore_n 1, 1) := by decide +kernel
theorem dX5_fingerprint_65 : decode cX5_fingerprint 65 = .ok (.iinc 4 1, 3) := by decide +kernel
theorem dX5_fingerprint_68 : decode cX5_fingerprint 68 = .ok (.goto (-22), 3) := by decide +kernel
theorem dX5_fingerprint_71 : decode cX5_fingerprint 71 = .ok (.iinc 3 1, 3) := by decide +kernel
theorem dX5_fingerprint_74 : decode cX5_fingerprint 74 = .ok (.goto (-36), 3) := by decide +kernel
theorem dX5_fingerprint_77 : decode cX5_fingerprint 77 = .ok (.lload_n 1, 1) := by decide +kernel
theorem dX5_fingerprint_78 : decode cX5_fingerprint 78 = .ok (.aload_n 0, 1) := by decide +kernel
theorem dX5_fingerprint_79 : decode cX5_fingerprint 79 = .ok (.invokevirtual 198, 3) := by decide +kernel
theorem dX5_fingerprint_82 : decode cX5_fingerprint 82 = .ok (.i2l, 1) := by decide +kernel
theorem dX5_fingerprint_83 : decode cX5_fingerprint 83 = .ok (.invokestatic 188, 3) := by decide +kernel
theorem dX5_fingerprint_86 : decode cX5_fingerprint 86 = .ok (.lstore_n 1, 1) := by decide +kernel
theorem dX5_fingerprint_87 : decode cX5_fingerprint 87 = .ok (.iconst 0, 1) := by decide +kernel
theorem dX5_fingerprint_88 : decode cX5_fingerprint 88 = .ok (.istore_n 3, 1) := by decide +kernel
theorem dX5_fingerprint_89 : decode cX5_fingerprint 89 = .ok (.iload_n 3, 1) := by decide +kernel
theorem dX5_fingerprint_90 : decode cX5_fingerprint 90 = .ok (.aload_n 0, 1) := by decide +kernel
theorem dX5_fingerprint_91 : decode cX5_fingerprint 91 = .ok (.getfield 10, 3) := by decide +kernel
theorem dX5_fingerprint_94 : decode cX5_fingerprint 94 = .ok (.getfield 50, 3) := by decide +kernel
theorem dX5_fingerprint_97 : decode cX5_fingerprint 97 = .ok (.if_icmp .ge 38, 3) := by decide +kernel
theorem dX5_fingerprint_100 : decode cX5_fingerprint 100 = .ok (.iconst 0, 1) := by decide +kernel
theorem dX5_fingerprint_101 : decode cX5_fingerprint 101 = .ok (.istore 4, 2) := by decide +kernel
theorem dX5_fingerprint_103 : decode cX5_fingerprint 103 = .ok (.iload 4, 2) := by decide +kernel
theorem dX5_fingerprint_105 : decode cX5_fingerprint 105 = .ok (.bipush 8, 2) := by decide +kernel
theorem dX5_fingerprint_107 : decode cX5_fingerprint 107 = .ok (.if_icmp .ge 22, 3) := by decide +kernel
theorem dX5_fingerprint_110 : decode cX5_fingerprint 110 = .ok (.lload_n 1, 1) := by decide +kernel
theorem dX5_fingerprint_111 : decode cX5_fingerprint 111 = .ok (.aload_n 0, 1) := by decide +kernel
theorem dX5_fingerprint_112 : decode cX5_fingerprint 112 = .ok (.iload_n 3, 1) := by decide +kernel
theorem dX5_fingerprint_113 : decode cX5_fingerprint 113 = .ok (.iload 4, 2) := by decide +kernel
theorem dX5_fingerprint_115 : decode cX5_fingerprint 115 = .ok (.invokevirtual 201, 3) := by decide +kernel
theorem dX5_fingerprint_118 : decode cX5_fingerprint 118 = .ok (.i2l, 1) := by decide +kernel
theorem dX5_fingerprint_119 : decode cX5_fingerprint 119 = .ok (.invokestatic 188, 3) := by decide +kernel
theorem dX5_fingerprint_122 : decode cX5_fingerprint 122 = .ok (.lstore_n 1, 1) := by decide +kernel
theorem dX5_fingerprint_123 : decode cX5_fingerprint 123 = .ok (.iinc 4 1, 3) := by decide +kernel
theorem dX5_fingerprint_126 : decode cX5_fingerprint 126 = .ok (.goto (-23), 3) := by decide +kernel
theorem dX5_fingerprint_129 : decode cX5_fingerprint 129 = .ok (.iinc 3 1, 3) := by decide +kernel
theorem dX5_fingerprint_132 : decode cX5_fingerprint 132 = .ok (.goto (-43), 3) := by decide +kernel
theorem dX5_fingerprint_135 : decode cX5_fingerprint 135 = .ok (.lload_n 1, 1) := by decide +kernel
theorem dX5_fingerprint_136 : decode cX5_fingerprint 136 = .ok (.aload_n 0, 1) := by decide +kernel
theorem dX5_fingerprint_137 : decode cX5_fingerprint 137 = .ok (.invokevirtual 205, 3) := by decide +kernel
theorem dX5_fingerprint_140 : decode cX5_fingerprint 140 = .ok (.invokestatic 188, 3) := by decide +kernel
theorem dX5_fingerprint_143 : decode cX5_fingerprint 143 = .ok (.lstore_n 1, 1) := by decide +kernel
theorem dX5_fingerprint_144 : decode cX5_fingerprint 144 = .ok (.iconst 0, 1) := by decide +kernel
theorem dX5_fingerprint_145 : decode cX5_fingerprint 145 = .ok (.istore_n 3, 1) := by decide +kernel
theorem dX5_fingerprint_146 : decode cX5_fingerprint 146 = .ok (.iload_n 3, 1) := by decide +kernel
theorem dX5_fingerprint_147 : decode cX5_fingerprint 147 = .ok (.aload_n 0, 1) := by decide +kernel
theorem dX5_fingerprint_148 : decode cX5_fingerprint 148 = .ok (.getfield 10, 3) := by decide +kernel
theorem dX5_fingerprint_151 : decode cX5_fingerprint 151 = .ok (.getfield 159, 3) := by decide +kernel
theorem dX5_fingerprint_154 : decode cX5_fingerprint 154 = .ok (.if_icmp .ge 20, 3) := by decide +kernel
theorem dX5_fingerprint_157 : decode cX5_fingerprint 157 = .ok (.lload_n 1, 1) := by decide +kernel
theorem dX5_fingerprint_158 : decode cX5_fingerprint 158 = .ok (.aload_n 0, 1) := by decide +kernel
theorem dX5_fingerprint_159 : decode cX5_fingerprint 159 = .ok (.iload_n 3, 1) := by decide +kernel
theorem dX5_fingerprint_160 : decode cX5_fingerprint 160 = .ok (.invokevirtual 209, 3) := by decide +kernel
theorem dX5_fingerprint_163 : decode cX5_fingerprint 163 = .ok (.i2l, 1) := by decide +kernel
theorem dX5_fingerprint_164 : decode cX5_fingerprint 164 = .ok (.invokestatic 188, 3) := by decide +kernel
theorem dX5_fingerprint_167 : decode cX5_fingerprint 167 = .ok (.lstore_n 1, 1) := by decide +kernel
theorem dX5_fingerprint_168 : decode cX5_fingerprint 168 = .ok (.iinc 3 1, 3) := by decide +kernel
theorem dX5_fingerprint_171 : decode cX5_fingerprint 171 = .ok (.goto (-25), 3) := by decide +kernel
theorem dX5_fingerprint_174 : decode cX5_fingerprint 174 = .ok (.lload_n 1, 1) := by decide +kernel
theorem dX5_fingerprint_175 : decode cX5_fingerprint 175 = .ok (.lreturn, 1) := by decide +kernel
theorem dX5_mixed_0 : decode cX5_mixed 0 = .ok (.ldc2_w 212, 3) := by decide +kernel
theorem dX5_mixed_3 : decode cX5_mixed 3 = .ok (.lload_n 0, 1) := by decide +kernel
theorem dX5_mixed_4 : decode cX5_mixed 4 = .ok (.lmul, 1) := by decide +kernel
theorem dX5_mixed_5 : decode cX5_mixed 5 = .ok (.lload_n 2, 1) := by decide +kernel
theorem dX5_mixed_6 : decode cX5_mixed 6 = .ok (.ladd, 1) := by decide +kernel
theorem dX5_mixed_7 : decode cX5_mixed 7 = .ok (.lreturn, 1) := by decide +kernel
theorem dX5_isWithin_0 : decode cX5_isWithin 0 = .ok (.iload_n 0, 1) := by decide +kernel
theorem dX5_isWithin_1 : decode cX5_isWithin 1 = .ok (.iload_n 1, 1) := by decide +kernel
theorem dX5_isWithin_2 : decode cX5_isWithin 2 = .ok (.if_icmp .lt 12, 3) := by decide +kernel
theorem dX5_isWithin_5 : decode cX5_isWithin 5 = .ok (.iload_n 0, 1) := by decide +kernel
theorem dX5_isWithin_6 : decode cX5_isWithin 6 = .ok (.iload_n 2, 1) := by decide +kernel
theorem dX5_isWithin_7 : decode cX5_isWithin 7 = .ok (.if_icmp .gt 7, 3) := by decide +kernel
theorem dX5_isWithin_10 : decode cX5_isWithin 10 = .ok (.iconst 1, 1) := by decide +kernel
theorem dX5_isWithin_11 : decode cX5_isWithin 11 = .ok (.goto 4, 3) := by decide +kernel
theorem dX5_isWithin_14 : decode cX5_isWithin 14 = .ok (.iconst 0, 1) := by decide +kernel
theorem dX5_isWithin_15 : decode cX5_isWithin 15 = .ok (.ireturn, 1) := by decide +kernel
set_option maxRecDepth 20000 in
theorem ggX5_isAxis_X5_isWithin : GoodIn wsX5_isAxis wsX5_isWithin := goodIn_r _ [4] (by decide +kernel) (by decide +kernel)
set_option maxRecDepth 20000 in
theorem gX5_isAxis_X5_isWithin : GoodIn wsX5_isAxis (va_wsS RX5 45 yX5_isWithin wsX5_isWithin) := goodIn_app (goodIn_of _ (by decide +kernel)) ggX5_isAxis_X5_isWithin
theorem dX5_isAxis_0 : decode cX5_isAxis 0 = .ok (.iload_n 0, 1) := by decide +kernel
theorem dX5_isAxis_1 : decode cX5_isAxis 1 = .ok (.iconst 0, 1) := by decide +kernel
theorem dX5_isAxis_2 : decode cX5_isAxis 2 = .ok (.iconst 2, 1) := by decide +kernel
theorem dX5_isAxis_3 : decode cX5_isAxis 3 = .ok (.invokestatic 45, 3) := by decide +kernel
theorem dX5_isAxis_6 : decode cX5_isAxis 6 = .ok (.ireturn, 1) := by decide +kernel
set_option maxRecDepth 20000 in
theorem ggX5_isTorque_X5_isWithin : GoodIn wsX5_isTorque wsX5_isWithin := goodIn_r _ [6] (by decide +kernel) (by decide +kernel)
set_option maxRecDepth 20000 in
theorem gX5_isTorque_X5_isWithin : GoodIn wsX5_isTorque (va_wsS RX5 45 yX5_isWithin wsX5_isWithin) := goodIn_app (goodIn_of _ (by decide +kernel)) ggX5_isTorque_X5_isWithin
theorem dX5_isTorque_0 : decode cX5_isTorque 0 = .ok (.iload_n 0, 1) := by decide +kernel
theorem dX5_isTorque_1 : decode cX5_isTorque 1 = .ok (.ldc 110, 2) := by decide +kernel
theorem dX5_isTorque_3 : decode cX5_isTorque 3 = .ok (.ldc 48, 2) := by decide +kernel
theorem dX5_isTorque_5 : decode cX5_isTorque 5 = .ok (.invokestatic 45, 3) := by decide +kernel
theorem dX5_isTorque_8 : decode cX5_isTorque 8 = .ok (.ireturn, 1) := by decide +kernel
set_option maxRecDepth 20000 in
theorem ggX5_isDirection_X5_isWithin : GoodIn wsX5_isDirection wsX5_isWithin := goodIn_r _ [4] (by decide +kernel) (by decide +kernel)
set_option maxRecDepth 20000 in
theorem gX5_isDirection_X5_isWithin : GoodIn wsX5_isDirection (va_wsS RX5 45 yX5_isWithin wsX5_isWithin) := goodIn_app (goodIn_of _ (by decide +kernel)) ggX5_isDirection_X5_isWithin
theorem dX5_isDirection_0 : decode cX5_isDirection 0 = .ok (.iload_n 0, 1) := by decide +kernel
theorem dX5_isDirection_1 : decode cX5_isDirection 1 = .ok (.bipush (-9), 2) := by decide +kernel
theorem dX5_isDirection_3 : decode cX5_isDirection 3 = .ok (.bipush 9, 2) := by decide +kernel
theorem dX5_isDirection_5 : decode cX5_isDirection 5 = .ok (.invokestatic 45, 3) := by decide +kernel
theorem dX5_isDirection_8 : decode cX5_isDirection 8 = .ok (.ifCond .eq 41, 3) := by decide +kernel
theorem dX5_isDirection_11 : decode cX5_isDirection 11 = .ok (.iload_n 1, 1) := by decide +kernel
theorem dX5_isDirection_12 : decode cX5_isDirection 12 = .ok (.bipush (-9), 2) := by decide +kernel
theorem dX5_isDirection_14 : decode cX5_isDirection 14 = .ok (.bipush 9, 2) := by decide +kernel
theorem dX5_isDirection_16 : decode cX5_isDirection 16 = .ok (.invokestatic 45, 3) := by decide +kernel
theorem dX5_isDirection_19 : decode cX5_isDirection 19 = .ok (.ifCond .eq 30, 3) := by decide +kernel
theorem dX5_isDirection_22 : decode cX5_isDirection 22 = .ok (.iload_n 2, 1) := by decide +kernel
theorem dX5_isDirection_23 : decode cX5_isDirection 23 = .ok (.bipush (-9), 2) := by decide +kernel
theorem dX5_isDirection_25 : decode cX5_isDirection 25 = .ok (.bipush 9, 2) := by decide +kernel
theorem dX5_isDirection_27 : decode cX5_isDirection 27 = .ok (.invokestatic 45, 3) := by decide +kernel
theorem dX5_isDirection_30 : decode cX5_isDirection 30 = .ok (.ifCond .eq 19, 3) := by decide +kernel
theorem dX5_isDirection_33 : decode cX5_isDirection 33 = .ok (.iload_n 0, 1) := by decide +kernel
theorem dX5_isDirection_34 : decode cX5_isDirection 34 = .ok (.ifCond .ne 11, 3) := by decide +kernel
theorem dX5_isDirection_37 : decode cX5_isDirection 37 = .ok (.iload_n 1, 1) := by decide +kernel
theorem dX5_isDirection_38 : decode cX5_isDirection 38 = .ok (.ifCond .ne 7, 3) := by decide +kernel
theorem dX5_isDirection_41 : decode cX5_isDirection 41 = .ok (.iload_n 2, 1) := by decide +kernel
theorem dX5_isDirection_42 : decode cX5_isDirection 42 = .ok (.ifCond .eq 7, 3) := by decide +kernel
theorem dX5_isDirection_45 : decode cX5_isDirection 45 = .ok (.iconst 1, 1) := by decide +kernel
theorem dX5_isDirection_46 : decode cX5_isDirection 46 = .ok (.goto 4, 3) := by decide +kernel
theorem dX5_isDirection_49 : decode cX5_isDirection 49 = .ok (.iconst 0, 1) := by decide +kernel
theorem dX5_isDirection_50 : decode cX5_isDirection 50 = .ok (.ireturn, 1) := by decide +kernel
set_option maxRecDepth 20000 in
theorem ggX5_isWheel_X5_isWithin : GoodIn wsX5_isWheel wsX5_isWithin := goodIn_r _ [6] (by decide +kernel) (by decide +kernel)
set_option maxRecDepth 20000 in
theorem gX5_isWheel_X5_isWithin : GoodIn wsX5_isWheel (va_wsS RX5 45 yX5_isWithin wsX5_isWithin) := goodIn_app (goodIn_of _ (by decide +kernel)) ggX5_isWheel_X5_isWithin
theorem dX5_isWheel_0 : decode cX5_isWheel 0 = .ok (.iload_n 1, 1) := by decide +kernel
theorem dX5_isWheel_1 : decode cX5_isWheel 1 = .ok (.iconst 0, 1) := by decide +kernel
theorem dX5_isWheel_2 : decode cX5_isWheel 2 = .ok (.aload_n 0, 1) := by decide +kernel
theorem dX5_isWheel_3 : decode cX5_isWheel 3 = .ok (.getfield 10, 3) := by decide +kernel
theorem dX5_isWheel_6 : decode cX5_isWheel 6 = .ok (.getfield 50, 3) := by decide +kernel
theorem dX5_isWheel_9 : decode cX5_isWheel 9 = .ok (.iconst 1, 1) := by decide +kernel
theorem dX5_isWheel_10 : decode cX5_isWheel 10 = .ok (.isub, 1) := by decide +kernel
theorem dX5_isWheel_11 : decode cX5_isWheel 11 = .ok (.invokestatic 45, 3) := by decide +kernel
theorem dX5_isWheel_14 : decode cX5_isWheel 14 = .ok (.ireturn, 1) := by decide +kernel
theorem dX5_limited_0 : decode cX5_limited 0 = .ok (.lload_n 0, 1) := by decide +kernel
theorem dX5_limited_1 : decode cX5_limited 1 = .ok (.lload_n 2, 1) := by decide +kernel
theorem dX5_limited_2 : decode cX5_limited 2 = .ok (.lcmp, 1) := by decide +kernel
theorem dX5_limited_3 : decode cX5_limited 3 = .ok (.ifCond .ge 5, 3) := by decide +kernel
theorem dX5_limited_6 : decode cX5_limited 6 = .ok (.lload_n 2, 1) := by decide +kernel
theorem dX5_limited_7 : decode cX5_limited 7 = .ok (.lreturn, 1) := by decide +kernel
theorem dX5_limited_8 : decode cX5_limited 8 = .ok (.lload_n 0, 1) := by decide +kernel
theorem dX5_limited_9 : decode cX5_limited 9 = .ok (.lload 4, 2) := by decide +kernel
theorem dX5_limited_11 : decode cX5_limited 11 = .ok (.lcmp, 1) := by decide +kernel
theorem dX5_limited_12 : decode cX5_limited 12 = .ok (.ifCond .le 8, 3) := by decide +kernel
theorem dX5_limited_15 : decode cX5_limited 15 = .ok (.lload 4, 2) := by decide +kernel
theorem dX5_limited_17 : decode cX5_limited 17 = .ok (.goto 4, 3) := by decide +kernel
theorem dX5_limited_20 : decode cX5_limited 20 = .ok (.lload_n 0, 1) := by decide +kernel
theorem dX5_limited_21 : decode cX5_limited 21 = .ok (.lreturn, 1) := by decide +kernel
set_option maxRecDepth 20000 in
theorem ggX5_quotient_J9_floorDiv_f86c9 : GoodIn wsX5_quotient wsJ9_floorDiv_f86c9 := goodIn_r _ [4] (by decide +kernel) (by decide +kernel)
set_option maxRecDepth 20000 in
theorem gX5_quotient_J9_floorDiv_f86c9 : GoodIn wsX5_quotient (va_wsS RX5 214 yJ9_floorDiv_f86c9 wsJ9_floorDiv_f86c9) := goodIn_app (goodIn_of _ (by decide +kernel)) ggX5_quotient_J9_floorDiv_f86c9
theorem dX5_quotient_0 : decode cX5_quotient 0 = .ok (.lload_n 2, 1) := by decide +kernel
theorem dX5_quotient_1 : decode cX5_quotient 1 = .ok (.lconst 0, 1) := by decide +kernel
theorem dX5_quotient_2 : decode cX5_quotient 2 = .ok (.lcmp, 1) := by decide +kernel
theorem dX5_quotient_3 : decode cX5_quotient 3 = .ok (.ifCond .le 11, 3) := by decide +kernel
theorem dX5_quotient_6 : decode cX5_quotient 6 = .ok (.lload_n 0, 1) := by decide +kernel
theorem dX5_quotient_7 : decode cX5_quotient 7 = .ok (.lload_n 2, 1) := by decide +kernel
theorem dX5_quotient_8 : decode cX5_quotient 8 = .ok (.invokestatic 214, 3) := by decide +kernel
theorem dX5_quotient_11 : decode cX5_quotient 11 = .ok (.goto 4, 3) := by decide +kernel
theorem dX5_quotient_14 : decode cX5_quotient 14 = .ok (.lconst 0, 1) := by decide +kernel
theorem dX5_quotient_15 : decode cX5_quotient 15 = .ok (.lreturn, 1) := by decide +kernel
theorem dX5_axisAfter_0 : decode cX5_axisAfter 0 = .ok (.iload_n 0, 1) := by decide +kernel
theorem dX5_axisAfter_1 : decode cX5_axisAfter 1 = .ok (.iload_n 1, 1) := by decide +kernel
theorem dX5_axisAfter_2 : decode cX5_axisAfter 2 = .ok (.iadd, 1) := by decide +kernel
theorem dX5_axisAfter_3 : decode cX5_axisAfter 3 = .ok (.iconst 3, 1) := by decide +kernel
theorem dX5_axisAfter_4 : decode cX5_axisAfter 4 = .ok (.irem, 1) := by decide +kernel
theorem dX5_axisAfter_5 : decode cX5_axisAfter 5 = .ok (.ireturn, 1) := by decide +kernel
set_option maxRecDepth 20000 in
theorem ggX5_passOne_X0_findWish : GoodIn wsX5_passOne wsX0_findWish := goodIn_r _ [8, 9, 10, 11, 12, 13, 14, 15, 16, 17, 18, 19, 20, 21, 22, 23, 24, 25, 7, 26, 27, 138, 139, 140, 141, 142, 143, 144, 145, 146, 147, 148] (by decide +kernel) (by decide +kernel)
set_option maxRecDepth 20000 in
theorem gX5_passOne_X0_findWish : GoodIn wsX5_passOne (wsV RX5 219 RX0 yX0_findWish wsX0_findWish) := goodIn_app (goodIn_of _ (by decide +kernel)) ggX5_passOne_X0_findWish
set_option maxRecDepth 20000 in
theorem ggX5_passOne_X3_share : GoodIn wsX5_passOne wsX3_share := goodIn_r _ [32, 33, 34, 35, 36, 37, 38, 39, 40, 31, 41, 42, 43, 44, 45, 7, 46, 47, 48, 49, 50, 51, 52, 53, 54, 55, 56, 57, 58, 59, 60, 61, 62, 63, 64, 65, 66, 67, 68, 69, 70, 71, 72, 73, 74, 18, 19, 20, 75, 76, 77, 78, 79, 80, 21, 15, 22, 81, 82, 83, 84, 85, 86, 87, 88, 89, 90, 91, 92, 93, 94, 95, 96, 97, 98, 99, 100, 101, 138, 139, 140, 141, 142, 143, 144, 145, 146, 147, 148, 154, 155, 156, 157, 158, 159, 160, 161, 162, 163] (by decide +kernel) (by decide +kernel)
set_option maxRecDepth 20000 in
theorem gX5_passOne_X3_share : GoodIn wsX5_passOne (wsV RX5 222 RX3 yX3_share wsX3_share) := goodIn_app (goodIn_of _ (by decide +kernel)) ggX5_passOne_X3_share
set_option maxRecDepth 20000 in
theorem ggX5_passOne_X2_letGo : GoodIn wsX5_passOne wsX2_letGo := goodIn_r _ [106, 107, 108, 109, 110, 111, 112, 113, 114, 115, 7, 116, 49, 50, 117, 118, 119, 120, 105, 121, 122, 15, 123, 14, 16, 17, 18, 19, 20, 21, 22, 124, 125, 126, 127, 27, 128, 138, 139, 140, 141, 142, 143, 144, 145, 146, 147, 148, 164, 165, 154, 155, 156, 157, 158, 159] (by decide +kernel) (by decide +kernel)
set_option maxRecDepth 20000 in
theorem gX5_passOne_X2_letGo : GoodIn wsX5_passOne (wsV RX5 225 RX2 yX2_letGo wsX2_letGo) := goodIn_app (goodIn_of _ (by decide +kernel)) ggX5_passOne_X2_letGo
set_option maxRecDepth 20000 in
theorem ggX5_passOne_X0_disturb : GoodIn wsX5_passOne wsX0_disturb := goodIn_r _ [132, 10, 133, 125, 126, 7, 127, 27, 128, 138, 139, 140, 141, 142, 143, 144, 145, 146, 147, 148] (by decide +kernel) (by decide +kernel)
set_option maxRecDepth 20000 in
theorem gX5_passOne_X0_disturb : GoodIn wsX5_passOne (wsV RX5 228 RX0 yX0_disturb wsX0_disturb) := goodIn_app (goodIn_of _ (by decide +kernel)) ggX5_passOne_X0_disturb
set_option maxRecDepth 20000 in
theorem ggX5_passOne_X0_turn : GoodIn wsX5_passOne wsX0_turn := goodIn_r _ [137, 11, 23, 24, 25, 7, 26, 27, 10, 14, 15, 16, 17, 18, 19, 20, 138, 139, 140, 141, 142, 143, 144, 145, 146, 147, 148] (by decide +kernel) (by decide +kernel)
set_option maxRecDepth 20000 in
theorem gX5_passOne_X0_turn : GoodIn wsX5_passOne (wsV RX5 231 RX0 yX0_turn wsX0_turn) := goodIn_app (goodIn_of _ (by decide +kernel)) ggX5_passOne_X0_turn
theorem dX5_passOne_0 : decode cX5_passOne 0 = .ok (.aload_n 1, 1) := by decide +kernel
theorem dX5_passOne_1 : decode cX5_passOne 1 = .ok (.dup, 1) := by decide +kernel
theorem dX5_passOne_2 : decode cX5_passOne 2 = .ok (.getfield 121, 3) := by decide +kernel
theorem dX5_passOne_5 : decode cX5_passOne 5 = .ok (.iconst 1, 1) := by decide +kernel
theorem dX5_passOne_6 : decode cX5_passOne 6 = .ok (.iadd, 1) := by decide +kernel
theorem dX5_passOne_7 : decode cX5_passOne 7 = .ok (.putfield 121, 3) := by decide +kernel
theorem dX5_passOne_10 : decode cX5_passOne 10 = .ok (.aload_n 1, 1) := by decide +kernel
theorem dX5_passOne_11 : decode cX5_passOne 11 = .ok (.invokevirtual 219, 3) := by decide +kernel
theorem dX5_passOne_14 : decode cX5_passOne 14 = .ok (.aload_n 0, 1) := by decide +kernel
theorem dX5_passOne_15 : decode cX5_passOne 15 = .ok (.getfield 22, 3) := by decide +kernel
theorem dX5_passOne_18 : decode cX5_passOne 18 = .ok (.aload_n 1, 1) := by decide +kernel
theorem dX5_passOne_19 : decode cX5_passOne 19 = .ok (.invokevirtual 222, 3) := by decide +kernel
theorem dX5_passOne_22 : decode cX5_passOne 22 = .ok (.aload_n 0, 1) := by decide +kernel
theorem dX5_passOne_23 : decode cX5_passOne 23 = .ok (.getfield 29, 3) := by decide +kernel
theorem dX5_passOne_26 : decode cX5_passOne 26 = .ok (.aload_n 1, 1) := by decide +kernel
theorem dX5_passOne_27 : decode cX5_passOne 27 = .ok (.invokevirtual 225, 3) := by decide +kernel
theorem dX5_passOne_30 : decode cX5_passOne 30 = .ok (.aload_n 1, 1) := by decide +kernel
theorem dX5_passOne_31 : decode cX5_passOne 31 = .ok (.invokevirtual 228, 3) := by decide +kernel
theorem dX5_passOne_34 : decode cX5_passOne 34 = .ok (.aload_n 1, 1) := by decide +kernel
theorem dX5_passOne_35 : decode cX5_passOne 35 = .ok (.invokevirtual 231, 3) := by decide +kernel
theorem dX5_passOne_38 : decode cX5_passOne 38 = .ok (.return_, 1) := by decide +kernel
set_option maxRecDepth 20000 in
theorem ggX5_offWithout_X0_become : GoodIn wsX5_offWithout wsX0_become := goodIn_r _ [11, 12, 13, 14, 15, 16, 17, 18, 19, 20, 21, 22, 23, 24, 25, 26, 27, 28, 29, 30, 31, 32, 33, 34, 35, 36, 37, 38, 193, 194, 195, 196, 197, 198, 199, 200, 201, 202, 203, 204, 205, 206, 207, 208, 209] (by decide +kernel) (by decide +kernel)
set_option maxRecDepth 20000 in
theorem gX5_offWithout_X0_become : GoodIn wsX5_offWithout (wsV RX5 169 RX0 yX0_become wsX0_become) := goodIn_app (goodIn_of _ (by decide +kernel)) ggX5_offWithout_X0_become
set_option maxRecDepth 20000 in
theorem ggX5_offWithout_X3_measure : GoodIn wsX5_offWithout wsX3_measure := goodIn_r _ [43, 44, 45, 46, 47, 48, 49, 50, 51, 52, 53, 42, 54, 55, 56, 57, 58, 59, 60, 61, 210, 211, 212, 213, 193, 194, 195, 196, 197, 198, 199, 200, 201, 202, 203, 204, 205, 206, 207, 208, 209] (by decide +kernel) (by decide +kernel)
set_option maxRecDepth 20000 in
theorem gX5_offWithout_X3_measure : GoodIn wsX5_offWithout (wsV RX5 127 RX3 yX3_measure wsX3_measure) := goodIn_app (goodIn_of _ (by decide +kernel)) ggX5_offWithout_X3_measure
set_option maxRecDepth 20000 in
theorem ggX5_offWithout_X5_passOne : GoodIn wsX5_offWithout wsX5_passOne := goodIn_r _ [65, 66, 5, 67, 68, 69, 70, 10, 71, 13, 18, 19, 72, 22, 73, 60, 74, 75, 76, 77, 78, 79, 80, 81, 82, 83, 84, 20, 85, 86, 87, 42, 88, 45, 46, 89, 90, 47, 91, 92, 93, 94, 49, 95, 96, 97, 98, 25, 26, 23, 24, 99, 100, 101, 102, 103, 104, 105, 106, 107, 108, 50, 109, 110, 111, 112, 113, 114, 48, 115, 116, 117, 118, 119, 120, 121, 122, 123, 30, 124, 36, 125, 126, 127, 128, 35, 34, 129, 130, 131, 132, 133, 134, 135, 136, 137, 138, 139, 140, 141, 142, 143, 144, 145, 146, 147, 148, 149, 150, 151, 152, 153, 154, 155, 156, 157, 158, 159, 160, 161, 162, 163, 59, 61, 164, 165, 166, 167, 21, 168, 169, 170, 171, 172, 173, 174, 175, 176, 193, 194, 195, 196, 197, 198, 199, 200, 201, 202, 203, 188, 189, 190, 191, 192, 204, 205, 206, 207, 208, 209, 210, 211, 212, 213, 214, 215] (by decide +kernel) (by decide +kernel)
set_option maxRecDepth 20000 in
theorem gX5_offWithout_X5_passOne : GoodIn wsX5_offWithout (wsV RX5 131 RX5 yX5_passOne wsX5_passOne) := goodIn_app (goodIn_of _ (by decide +kernel)) ggX5_offWithout_X5_passOne
set_option maxRecDepth 20000 in
theorem ggX5_offWithout_X0_offTarget : GoodIn wsX5_offWithout wsX0_offTarget := goodIn_r _ [180, 181, 182, 183, 10, 184, 18, 19, 185, 186, 131, 187, 193, 194, 195, 196, 197, 198, 199, 200, 201, 202, 203] (by decide +kernel) (by decide +kernel)
set_option maxRecDepth 20000 in
theorem gX5_offWithout_X0_offTarget : GoodIn wsX5_offWithout (wsV RX5 234 RX0 yX0_offTarget wsX0_offTarget) := goodIn_app (goodIn_of _ (by decide +kernel)) ggX5_offWithout_X0_offTarget
theorem dX5_offWithout_0 : decode cX5_offWithout 0 = .ok (.aload_n 0, 1) := by decide +kernel
theorem dX5_offWithout_1 : decode cX5_offWithout 1 = .ok (.getfield 16, 3) := by decide +kernel
theorem dX5_offWithout_4 : decode cX5_offWithout 4 = .ok (.aload_n 0, 1) := by decide +kernel
theorem dX5_offWithout_5 : decode cX5_offWithout 5 = .ok (.getfield 10, 3) := by decide +kernel
theorem dX5_offWithout_8 : decode cX5_offWithout 8 = .ok (.invokevirtual 169, 3) := by decide +kernel
theorem dX5_offWithout_11 : decode cX5_offWithout 11 = .ok (.aload_n 0, 1) := by decide +kernel
theorem dX5_offWithout_12 : decode cX5_offWithout 12 = .ok (.getfield 16, 3) := by decide +kernel
theorem dX5_offWithout_15 : decode cX5_offWithout 15 = .ok (.getfield 59, 3) := by decide +kernel
theorem dX5_offWithout_18 : decode cX5_offWithout 18 = .ok (.iload_n 1, 1) := by decide +kernel
theorem dX5_offWithout_19 : decode cX5_offWithout 19 = .ok (.aaload, 1) := by decide +kernel
theorem dX5_offWithout_20 : decode cX5_offWithout 20 = .ok (.iconst 1, 1) := by decide +kernel
theorem dX5_offWithout_21 : decode cX5_offWithout 21 = .ok (.putfield 73, 3) := by decide +kernel
theorem dX5_offWithout_24 : decode cX5_offWithout 24 = .ok (.aload_n 0, 1) := by decide +kernel
theorem dX5_offWithout_25 : decode cX5_offWithout 25 = .ok (.getfield 22, 3) := by decide +kernel
theorem dX5_offWithout_28 : decode cX5_offWithout 28 = .ok (.aload_n 0, 1) := by decide +kernel
theorem dX5_offWithout_29 : decode cX5_offWithout 29 = .ok (.getfield 16, 3) := by decide +kernel
theorem dX5_offWithout_32 : decode cX5_offWithout 32 = .ok (.ldc 126, 2) := by decide +kernel
theorem dX5_offWithout_34 : decode cX5_offWithout 34 = .ok (.invokevirtual 127, 3) := by decide +kernel
theorem dX5_offWithout_37 : decode cX5_offWithout 37 = .ok (.iconst 0, 1) := by decide +kernel
theorem dX5_offWithout_38 : decode cX5_offWithout 38 = .ok (.istore_n 3, 1) := by decide +kernel
theorem dX5_offWithout_39 : decode cX5_offWithout 39 = .ok (.iload_n 3, 1) := by decide +kernel
theorem dX5_offWithout_40 : decode cX5_offWithout 40 = .ok (.iload_n 2, 1) := by decide +kernel
theorem dX5_offWithout_41 : decode cX5_offWithout 41 = .ok (.if_icmp .ge 17, 3) := by decide +kernel
theorem dX5_offWithout_44 : decode cX5_offWithout 44 = .ok (.aload_n 0, 1) := by decide +kernel
theorem dX5_offWithout_45 : decode cX5_offWithout 45 = .ok (.aload_n 0, 1) := by decide +kernel
theorem dX5_offWithout_46 : decode cX5_offWithout 46 = .ok (.getfield 16, 3) := by decide +kernel
theorem dX5_offWithout_49 : decode cX5_offWithout 49 = .ok (.invokevirtual 131, 3) := by decide +kernel
theorem dX5_offWithout_52 : decode cX5_offWithout 52 = .ok (.iinc 3 1, 3) := by decide +kernel
theorem dX5_offWithout_55 : decode cX5_offWithout 55 = .ok (.goto (-16), 3) := by decide +kernel
theorem dX5_offWithout_58 : decode cX5_offWithout 58 = .ok (.aload_n 0, 1) := by decide +kernel
theorem dX5_offWithout_59 : decode cX5_offWithout 59 = .ok (.getfield 16, 3) := by decide +kernel
theorem dX5_offWithout_62 : decode cX5_offWithout 62 = .ok (.invokevirtual 234, 3) := by decide +kernel
theorem dX5_offWithout_65 : decode cX5_offWithout 65 = .ok (.lreturn, 1) := by decide +kernel
end
section
theorem dJ9_floorDiv_f86c9_0 : decode cJ9_floorDiv_f86c9 0 = .ok (.lload_n 0, 1) := by decide +kernel
theorem dJ9_floorDiv_f86c9_1 : decode cJ9_floorDiv_f86c9 1 = .ok (.lload_n 2, 1) := by decide +kernel
theorem dJ9_floorDiv_f86c9_2 : decode cJ9_floorDiv_f86c9 2 = .ok (.ldiv, 1) := by decide +kernel
theorem dJ9_floorDiv_f86c9_3 : decode cJ9_floorDiv_f86c9 3 = .ok (.lstore 4, 2) := by decide +kernel
theorem dJ9_floorDiv_f86c9_5 : decode cJ9_floorDiv_f86c9 5 = .ok (.lload_n 0, 1) := by decide +kernel
theorem dJ9_floorDiv_f86c9_6 : decode cJ9_floorDiv_f86c9 6 = .ok (.lload_n 2, 1) := by decide +kernel
theorem dJ9_floorDiv_f86c9_7 : decode cJ9_floorDiv_f86c9 7 = .ok (.lxor, 1) := by decide +kernel
theorem dJ9_floorDiv_f86c9_8 : decode cJ9_floorDiv_f86c9 8 = .ok (.lconst 0, 1) := by decide +kernel
theorem dJ9_floorDiv_f86c9_9 : decode cJ9_floorDiv_f86c9 9 = .ok (.lcmp, 1) := by decide +kernel
theorem dJ9_floorDiv_f86c9_10 : decode cJ9_floorDiv_f86c9 10 = .ok (.ifCond .ge 17, 3) := by decide +kernel
theorem dJ9_floorDiv_f86c9_13 : decode cJ9_floorDiv_f86c9 13 = .ok (.lload 4, 2) := by decide +kernel
theorem dJ9_floorDiv_f86c9_15 : decode cJ9_floorDiv_f86c9 15 = .ok (.lload_n 2, 1) := by decide +kernel
theorem dJ9_floorDiv_f86c9_16 : decode cJ9_floorDiv_f86c9 16 = .ok (.lmul, 1) := by decide +kernel
theorem dJ9_floorDiv_f86c9_17 : decode cJ9_floorDiv_f86c9 17 = .ok (.lload_n 0, 1) := by decide +kernel
theorem dJ9_floorDiv_f86c9_18 : decode cJ9_floorDiv_f86c9 18 = .ok (.lcmp, 1) := by decide +kernel
theorem dJ9_floorDiv_f86c9_19 : decode cJ9_floorDiv_f86c9 19 = .ok (.ifCond .eq 8, 3) := by decide +kernel
theorem dJ9_floorDiv_f86c9_22 : decode cJ9_floorDiv_f86c9 22 = .ok (.lload 4, 2) := by decide +kernel
theorem dJ9_floorDiv_f86c9_24 : decode cJ9_floorDiv_f86c9 24 = .ok (.lconst 1, 1) := by decide +kernel
theorem dJ9_floorDiv_f86c9_25 : decode cJ9_floorDiv_f86c9 25 = .ok (.lsub, 1) := by decide +kernel
theorem dJ9_floorDiv_f86c9_26 : decode cJ9_floorDiv_f86c9 26 = .ok (.lreturn, 1) := by decide +kernel
theorem dJ9_floorDiv_f86c9_27 : decode cJ9_floorDiv_f86c9 27 = .ok (.lload 4, 2) := by decide +kernel
theorem dJ9_floorDiv_f86c9_29 : decode cJ9_floorDiv_f86c9 29 = .ok (.lreturn, 1) := by decide +kernel
theorem dJ9_abs_0f7a4_0 : decode cJ9_abs_0f7a4 0 = .ok (.iload_n 0, 1) := by decide +kernel
theorem dJ9_abs_0f7a4_1 : decode cJ9_abs_0f7a4 1 = .ok (.ifCond .ge 8, 3) := by decide +kernel
theorem dJ9_abs_0f7a4_4 : decode cJ9_abs_0f7a4 4 = .ok (.iload_n 0, 1) := by decide +kernel
theorem dJ9_abs_0f7a4_5 : decode cJ9_abs_0f7a4 5 = .ok (.ineg, 1) := by decide +kernel
theorem dJ9_abs_0f7a4_6 : decode cJ9_abs_0f7a4 6 = .ok (.goto 4, 3) := by decide +kernel
theorem dJ9_abs_0f7a4_9 : decode cJ9_abs_0f7a4 9 = .ok (.iload_n 0, 1) := by decide +kernel
theorem dJ9_abs_0f7a4_10 : decode cJ9_abs_0f7a4 10 = .ok (.ireturn, 1) := by decide +kernel
theorem dJ9_abs_067f4_0 : decode cJ9_abs_067f4 0 = .ok (.lload_n 0, 1) := by decide +kernel
theorem dJ9_abs_067f4_1 : decode cJ9_abs_067f4 1 = .ok (.lconst 0, 1) := by decide +kernel
theorem dJ9_abs_067f4_2 : decode cJ9_abs_067f4 2 = .ok (.lcmp, 1) := by decide +kernel
theorem dJ9_abs_067f4_3 : decode cJ9_abs_067f4 3 = .ok (.ifCond .ge 8, 3) := by decide +kernel
theorem dJ9_abs_067f4_6 : decode cJ9_abs_067f4 6 = .ok (.lload_n 0, 1) := by decide +kernel
theorem dJ9_abs_067f4_7 : decode cJ9_abs_067f4 7 = .ok (.lneg, 1) := by decide +kernel
theorem dJ9_abs_067f4_8 : decode cJ9_abs_067f4 8 = .ok (.goto 4, 3) := by decide +kernel
theorem dJ9_abs_067f4_11 : decode cJ9_abs_067f4 11 = .ok (.lload_n 0, 1) := by decide +kernel
theorem dJ9_abs_067f4_12 : decode cJ9_abs_067f4 12 = .ok (.lreturn, 1) := by decide +kernel
theorem dJ9_max_7cf53_0 : decode cJ9_max_7cf53 0 = .ok (.iload_n 0, 1) := by decide +kernel
theorem dJ9_max_7cf53_1 : decode cJ9_max_7cf53 1 = .ok (.iload_n 1, 1) := by decide +kernel
theorem dJ9_max_7cf53_2 : decode cJ9_max_7cf53 2 = .ok (.if_icmp .lt 7, 3) := by decide +kernel
theorem dJ9_max_7cf53_5 : decode cJ9_max_7cf53 5 = .ok (.iload_n 0, 1) := by decide +kernel
theorem dJ9_max_7cf53_6 : decode cJ9_max_7cf53 6 = .ok (.goto 4, 3) := by decide +kernel
theorem dJ9_max_7cf53_9 : decode cJ9_max_7cf53 9 = .ok (.iload_n 1, 1) := by decide +kernel
theorem dJ9_max_7cf53_10 : decode cJ9_max_7cf53 10 = .ok (.ireturn, 1) := by decide +kernel
theorem dJ9_min_7cf53_0 : decode cJ9_min_7cf53 0 = .ok (.iload_n 0, 1) := by decide +kernel
theorem dJ9_min_7cf53_1 : decode cJ9_min_7cf53 1 = .ok (.iload_n 1, 1) := by decide +kernel
theorem dJ9_min_7cf53_2 : decode cJ9_min_7cf53 2 = .ok (.if_icmp .gt 7, 3) := by decide +kernel
theorem dJ9_min_7cf53_5 : decode cJ9_min_7cf53 5 = .ok (.iload_n 0, 1) := by decide +kernel
theorem dJ9_min_7cf53_6 : decode cJ9_min_7cf53 6 = .ok (.goto 4, 3) := by decide +kernel
theorem dJ9_min_7cf53_9 : decode cJ9_min_7cf53 9 = .ok (.iload_n 1, 1) := by decide +kernel
theorem dJ9_min_7cf53_10 : decode cJ9_min_7cf53 10 = .ok (.ireturn, 1) := by decide +kernel
end
